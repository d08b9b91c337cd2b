set_option maxHeartbeats 4000000 in
set_option maxRecDepth 100000 in
theorem lw_case0 {l : Launch} {K : KT} {p : Program} {e : Env} {s : State} {m : MethodId} {below : List Frame} {meth : Method} {c : Code} {b L : Nat} {xs : Nat → Int32} (C0 : LC l K p s m meth c b L xs) {H : Heap} {locs : List Loc} {ls : Array Slot} {C S : Nat} {i : Int32} (h0 : 0 ≤ i.toInt) (h1 : i.toInt + 6 ≤ L) {Gh : Nat} {lnh lna0 : Nat} {ln : LnT} {trh tra0 : Nat} {tr : LnT} {rdh : Nat} {rd : Int32} {tdh tda0 tda1 : Nat} {td : TdT} {fmh : Nat} {fm : FmT} {psh psa0 : Nat} {ps : PsT} {sph spa0 : Nat} {sp : PsT} {Mh Ma0 Ma1 Ma2 Ma3 Ma4 Ma5 : Nat} {M_board : Nat → Int32} {M_text : Nat → Int32} {M_moves : Nat → Int32} {M_signs : Nat → Int32} {M_newBoard : Nat → Int32} {M_out : Nat → Int32} {M_thrown : Int32} {M_side : Int32} {M_rights : Int32} {M_passant : Int32} {M_clock : Int32} {M_number : Int32} {M_size : Int32} {M_told : Int32} {M_at : Int32} {M_newSide : Int32} {M_newRights : Int32} {M_newPassant : Int32} {M_newClock : Int32} {M_newNumber : Int32} {M_outs : Int32} {oh : Nat} {f : Nat → Int64} (I : LI K s H locs Gh lnh lna0 ln trh tra0 tr rdh rd tdh tda0 tda1 td fmh fm psh psa0 ps sph spa0 sp Mh Ma0 Ma1 Ma2 Ma3 Ma4 Ma5 M_board M_text M_moves M_signs M_newBoard M_out M_thrown M_side M_rights M_passant M_clock M_number M_size M_told M_at M_newSide M_newRights M_newPassant M_newClock M_newNumber M_outs oh f) (hl : lv_has ls 7 (lvL b Gh Mh oh i)) (hC : C + 1 ≤ 1048 ∧ S + 6 ≤ 10151) (N : NX K p l e s m below meth c b Gh Mh oh i (C + 1) (S + 6)) : W p l e room_1 s m #[Value.ref b] below meth c H locs C S (lw_Z below #[Value.ref b] s) (F0 m 112 ls []) := by
  obtain ⟨hx, hb, hr, hml, hown, htg, hX, hbl, hlocks, hK, hG, hTh, hfl, hL⟩ := C0
  obtain ⟨hP, hD, hS, ok_ln, ok_tr, ok_td, RL, RP, RT⟩ := I
  have hbA : ¬ nA s b := fun q => absurd q (Nat.not_le.mpr hbl)
  have hA : ∀ q : Nat, s.heap.size ≤ q → nA s q := fun q h => h
  have rc : room_1.cells = 1048 := rfl
  have rs : room_1.slots = 10151 := rfl
  refine lv_aload_n hx hb d_lw_law_112 rfl (lv_at hl 2 rfl) ?_
  refine lv_aload_n hx hb d_lw_law_113 rfl (lv_at hl 1 rfl) ?_
  refine lv_iload hx hb d_lw_law_114 (lv_at hl 0 rfl) ?_
  refine lv_iconst (v := 1) hx hb d_lw_law_116 (by decide) ?_
  refine lv_iadd hx hb d_lw_law_117 ?_
  refine va_sld hx hb hX hbl hbA hS (lw_in (1 : Int32) hL h0 h1 (by decide) (by decide)) d_lw_law_118 ?_
  refine lv_i2l hx hb d_lw_law_119 rfl ?_
  refine lv_bipush (v := 32) hx hb d_lw_law_120 (by decide) ?_
  refine lv_lshl hx hb d_lw_law_122 rfl ?_
  refine lv_aload_n hx hb d_lw_law_123 rfl (lv_at hl 1 rfl) ?_
  refine lv_iload hx hb d_lw_law_124 (lv_at hl 0 rfl) ?_
  refine lv_iconst (v := 2) hx hb d_lw_law_126 (by decide) ?_
  refine lv_iadd hx hb d_lw_law_127 ?_
  refine va_sld hx hb hX hbl hbA hS (lw_in (2 : Int32) hL h0 h1 (by decide) (by decide)) d_lw_law_128 ?_
  refine lv_i2l hx hb d_lw_law_129 rfl ?_
  refine lv_ldc2 (v := 4294967295) hx hb hown (htg _ q_1082) d_lw_law_130 ?_
  refine lv_land hx hb d_lw_law_133 ?_
  refine lv_lor hx hb d_lw_law_134 ?_
  have hPc : va_P (kD K) vwCl (wG K Gh lnh lna0 ln trh tra0 tr rdh rd tdh tda0 tda1 td fmh fm psh psa0 ps sph spa0 sp) _ := hP.sub [0, 1, 2, 3, 4, 5, 6, 7, 8, 9, 10, 11, 12, 13] rfl
  have hDc : va_D (nA s) (wG K Gh lnh lna0 ln trh tra0 tr rdh rd tdh tda0 tda1 td fmh fm psh psa0 ps sph spa0 sp) := hD.sub [0, 1, 2, 3, 4, 5, 6, 7, 8, 9, 10, 11, 12, 13] (by decide) rfl
  have hFc := va_free (wc := wG K Gh lnh lna0 ln trh tra0 tr rdh rd tdh tda0 tda1 td fmh fm psh psa0 ps sph spa0 sp) hD hS hA [0, 1, 2, 3, 4, 5, 6, 7, 8, 9, 10, 11, 12, 13] rfl
  refine va_calli (va_runV (As := [.long (((xs (i + (1 : Int32)).toNatClampNeg).toInt64 <<< ((32 : Int32).toInt64 &&& 63)) ||| ((xs (i + (2 : Int32)).toNatClampNeg).toInt64 &&& (4294967295 : Int64)))]) (rest := []) ⟨hx, hb, hml, hown, htg⟩ (c_gn_type l K _ Gh ((((xs (i + (1 : Int32)).toNatClampNeg).toInt64 <<< ((32 : Int32).toInt64 &&& 63)) ||| ((xs (i + (2 : Int32)).toNatClampNeg).toInt64 &&& (4294967295 : Int64)))) lnh lna0 ln trh tra0 tr rdh rd tdh tda0 tda1 td fmh fm psh psa0 ps sph spa0 sp) (cwV 1 htg (g_V q_150 q_151 q_152 q_1 (g_w q_153)) rfl rfl rfl ⟨rfl, k_gn_type⟩ ⟨Nat.le_of_ble_eq_true rfl, Nat.le_of_ble_eq_true rfl⟩) ⟨mu_blind, va_recv hK hPc (ci := 5) (q0 := 0) rfl rfl, mu_use hPc hK hDc hG hS hFc ⟨ok_ln, ok_tr, ok_td, trivial⟩⟩ rfl rfl hl.1 rfl (lv_room (Nat.le_of_ble_eq_true rfl)) d_lw_law_135 ⟨by omega, by omega⟩) hS (fun q _ h => hFc q h) hFc (fun r_1 u_1 t H1 locs1 ht hvm hw_1 hB hz1 hk1 hS => ?_)
  obtain ⟨hP1, hD1⟩ := hB
  rw [ht] at hP1
  obtain ⟨hP, hD⟩ := va_join (wr := wM K Mh Ma0 Ma1 Ma2 Ma3 Ma4 Ma5 M_board M_text M_moves M_signs M_newBoard M_out M_thrown M_side M_rights M_passant M_clock M_number M_size M_told M_at M_newSide M_newRights M_newPassant M_newClock M_newNumber M_outs ++ [wO K oh f]) (w1 := wG K Gh lnh lna0 u_1 trh tra0 tr rdh rd tdh tda0 tda1 td fmh fm psh psa0 ps sph spa0 sp) hP hD [0, 1, 2, 3, 4, 5, 6, 7, 8, 9, 10, 11, 12, 13] [14, 15, 16, 17, 18, 19, 20, 21] rfl rfl (by decide) (by decide) hk1 hFc hP1 hD1
  have hP : va_P (kD K) vwCl (wG K Gh lnh lna0 u_1 trh tra0 tr rdh rd tdh tda0 tda1 td fmh fm psh psa0 ps sph spa0 sp ++ wM K Mh Ma0 Ma1 Ma2 Ma3 Ma4 Ma5 M_board M_text M_moves M_signs M_newBoard M_out M_thrown M_side M_rights M_passant M_clock M_number M_size M_told M_at M_newSide M_newRights M_newPassant M_newClock M_newNumber M_outs ++ [wO K oh f]) H1 := hP.sub [8, 9, 10, 11, 12, 13, 14, 15, 16, 17, 18, 19, 20, 21, 0, 1, 2, 3, 4, 5, 6, 7] rfl
  have hD : va_D (nA s) (wG K Gh lnh lna0 u_1 trh tra0 tr rdh rd tdh tda0 tda1 td fmh fm psh psa0 ps sph spa0 sp ++ wM K Mh Ma0 Ma1 Ma2 Ma3 Ma4 Ma5 M_board M_text M_moves M_signs M_newBoard M_out M_thrown M_side M_rights M_passant M_clock M_number M_size M_told M_at M_newSide M_newRights M_newPassant M_newClock M_newNumber M_outs ++ [wO K oh f]) := hD.sub [8, 9, 10, 11, 12, 13, 14, 15, 16, 17, 18, 19, 20, 21, 0, 1, 2, 3, 4, 5, 6, 7] (by decide) rfl
  clear hP1 hD1 hPc hDc hFc hk1 hz1 ht hvm
  generalize H1 = H at hP hS ⊢
  refine lv_aload_n hx hb d_lw_law_138 rfl (lv_at hl 3 rfl) ?_
  refine lv_aload_n hx hb d_lw_law_139 rfl (lv_at hl 1 rfl) ?_
  refine lv_iload hx hb d_lw_law_140 (lv_at hl 0 rfl) ?_
  refine lv_iconst (v := 1) hx hb d_lw_law_142 (by decide) ?_
  refine lv_iadd hx hb d_lw_law_143 ?_
  refine va_sld hx hb hX hbl hbA hS (lw_in (1 : Int32) hL h0 h1 (by decide) (by decide)) d_lw_law_144 ?_
  refine lv_i2l hx hb d_lw_law_145 rfl ?_
  refine lv_bipush (v := 32) hx hb d_lw_law_146 (by decide) ?_
  refine lv_lshl hx hb d_lw_law_148 rfl ?_
  refine lv_aload_n hx hb d_lw_law_149 rfl (lv_at hl 1 rfl) ?_
  refine lv_iload hx hb d_lw_law_150 (lv_at hl 0 rfl) ?_
  refine lv_iconst (v := 2) hx hb d_lw_law_152 (by decide) ?_
  refine lv_iadd hx hb d_lw_law_153 ?_
  refine va_sld hx hb hX hbl hbA hS (lw_in (2 : Int32) hL h0 h1 (by decide) (by decide)) d_lw_law_154 ?_
  refine lv_i2l hx hb d_lw_law_155 rfl ?_
  refine lv_ldc2 (v := 4294967295) hx hb hown (htg _ q_1082) d_lw_law_156 ?_
  refine lv_land hx hb d_lw_law_159 ?_
  refine lv_lor hx hb d_lw_law_160 ?_
  have hPc : va_P (kD K) vwCl (wM K Mh Ma0 Ma1 Ma2 Ma3 Ma4 Ma5 M_board M_text M_moves M_signs M_newBoard M_out M_thrown M_side M_rights M_passant M_clock M_number M_size M_told M_at M_newSide M_newRights M_newPassant M_newClock M_newNumber M_outs) _ := hP.sub [14, 15, 16, 17, 18, 19, 20] rfl
  have hDc : va_D (nA s) (wM K Mh Ma0 Ma1 Ma2 Ma3 Ma4 Ma5 M_board M_text M_moves M_signs M_newBoard M_out M_thrown M_side M_rights M_passant M_clock M_number M_size M_told M_at M_newSide M_newRights M_newPassant M_newClock M_newNumber M_outs) := hD.sub [14, 15, 16, 17, 18, 19, 20] (by decide) rfl
  have hFc := va_free (wc := wM K Mh Ma0 Ma1 Ma2 Ma3 Ma4 Ma5 M_board M_text M_moves M_signs M_newBoard M_out M_thrown M_side M_rights M_passant M_clock M_number M_size M_told M_at M_newSide M_newRights M_newPassant M_newClock M_newNumber M_outs) hD hS hA [14, 15, 16, 17, 18, 19, 20] rfl
  refine va_calli (va_runV (As := [.long (((xs (i + (1 : Int32)).toNatClampNeg).toInt64 <<< ((32 : Int32).toInt64 &&& 63)) ||| ((xs (i + (2 : Int32)).toNatClampNeg).toInt64 &&& (4294967295 : Int64)))]) (rest := [.int r_1]) ⟨hx, hb, hml, hown, htg⟩ (c_md_type l K _ Mh Ma0 Ma1 Ma2 Ma3 Ma4 Ma5 M_board M_text M_moves M_signs M_newBoard M_out M_thrown M_side M_rights M_passant M_clock M_number M_size M_told M_at M_newSide M_newRights M_newPassant M_newClock M_newNumber M_outs ((((xs (i + (1 : Int32)).toNatClampNeg).toInt64 <<< ((32 : Int32).toInt64 &&& 63)) ||| ((xs (i + (2 : Int32)).toNatClampNeg).toInt64 &&& (4294967295 : Int64))))) (cwV 1 htg (g_V q_862 q_863 q_864 q_7 (g_w q_865)) rfl rfl rfl ⟨rfl, k_md_type⟩ ⟨Nat.le_of_ble_eq_true rfl, Nat.le_of_ble_eq_true rfl⟩) ⟨mu_blind, va_recv hK hPc (ci := 6) (q0 := 0) rfl rfl, mu_use hPc hK hDc hG hS hFc ⟨RL.lo, RL.hi, trivial⟩⟩ rfl rfl hl.1 rfl (lv_room (Nat.le_of_ble_eq_true rfl)) d_lw_law_161 ⟨by omega, by omega⟩) hS (fun q _ h => hFc q h) hFc (fun r_2 u_2 t H1 locs1 ht hvm hw_2 hB hz1 hk1 hS => ?_)
  obtain ⟨hP1, hD1⟩ := hB
  rw [ht] at hP1
  obtain ⟨hP, hD⟩ := va_join (wr := wG K Gh lnh lna0 u_1 trh tra0 tr rdh rd tdh tda0 tda1 td fmh fm psh psa0 ps sph spa0 sp ++ [wO K oh f]) (w1 := wM K Mh Ma0 Ma1 Ma2 Ma3 Ma4 Ma5 M_board u_2.2.1 M_moves M_signs M_newBoard M_out u_2.1 M_side M_rights M_passant M_clock M_number u_2.2.2 M_told M_at M_newSide M_newRights M_newPassant M_newClock M_newNumber M_outs) hP hD [14, 15, 16, 17, 18, 19, 20] [0, 1, 2, 3, 4, 5, 6, 7, 8, 9, 10, 11, 12, 13, 21] rfl rfl (by decide) (by decide) hk1 hFc hP1 hD1
  have hP : va_P (kD K) vwCl (wG K Gh lnh lna0 u_1 trh tra0 tr rdh rd tdh tda0 tda1 td fmh fm psh psa0 ps sph spa0 sp ++ wM K Mh Ma0 Ma1 Ma2 Ma3 Ma4 Ma5 M_board u_2.2.1 M_moves M_signs M_newBoard M_out u_2.1 M_side M_rights M_passant M_clock M_number u_2.2.2 M_told M_at M_newSide M_newRights M_newPassant M_newClock M_newNumber M_outs ++ [wO K oh f]) H1 := hP.sub [0, 1, 2, 3, 4, 5, 6, 7, 8, 9, 10, 11, 12, 13, 15, 16, 17, 18, 19, 20, 21, 14] rfl
  have hD : va_D (nA s) (wG K Gh lnh lna0 u_1 trh tra0 tr rdh rd tdh tda0 tda1 td fmh fm psh psa0 ps sph spa0 sp ++ wM K Mh Ma0 Ma1 Ma2 Ma3 Ma4 Ma5 M_board u_2.2.1 M_moves M_signs M_newBoard M_out u_2.1 M_side M_rights M_passant M_clock M_number u_2.2.2 M_told M_at M_newSide M_newRights M_newPassant M_newClock M_newNumber M_outs ++ [wO K oh f]) := hD.sub [0, 1, 2, 3, 4, 5, 6, 7, 8, 9, 10, 11, 12, 13, 15, 16, 17, 18, 19, 20, 21, 14] (by decide) rfl
  clear hP1 hD1 hPc hDc hFc hk1 hz1 ht hvm
  generalize H1 = H at hP hS ⊢
  obtain ⟨hq, RL2⟩ := pu_p_type RL hw_1.1 hw_2.1
  refine lv_icmp_eq (tgt := 583) hx hb d_lw_law_164 (by decide) (fun c_9 => ?_) (fun c_9 => ?_)
  · exact (W.widen (k := C + 1) (n := S + 6) (by omega) (by omega) (N _ _ _ _ _ _ _ _ _ _ _ _ _ _ _ _ _ _ _ _ _ _ _ _ _ _ _ _ _ _ _ _ _ _ _ _ _ _ _ _ _ _ _ _ _ _ _ _ _ _ _ ⟨hP, hD, hS, hw_1.2.2.1, ok_tr, ok_td, RL2, RP, RT⟩ hl))
  · exact absurd (hq) c_9
set_option maxHeartbeats 4000000 in
set_option maxRecDepth 100000 in
theorem lw_case1 {l : Launch} {K : KT} {p : Program} {e : Env} {s : State} {m : MethodId} {below : List Frame} {meth : Method} {c : Code} {b L : Nat} {xs : Nat → Int32} (C0 : LC l K p s m meth c b L xs) {H : Heap} {locs : List Loc} {ls : Array Slot} {C S : Nat} {i : Int32} (h0 : 0 ≤ i.toInt) (h1 : i.toInt + 6 ≤ L) {Gh : Nat} {lnh lna0 : Nat} {ln : LnT} {trh tra0 : Nat} {tr : LnT} {rdh : Nat} {rd : Int32} {tdh tda0 tda1 : Nat} {td : TdT} {fmh : Nat} {fm : FmT} {psh psa0 : Nat} {ps : PsT} {sph spa0 : Nat} {sp : PsT} {Mh Ma0 Ma1 Ma2 Ma3 Ma4 Ma5 : Nat} {M_board : Nat → Int32} {M_text : Nat → Int32} {M_moves : Nat → Int32} {M_signs : Nat → Int32} {M_newBoard : Nat → Int32} {M_out : Nat → Int32} {M_thrown : Int32} {M_side : Int32} {M_rights : Int32} {M_passant : Int32} {M_clock : Int32} {M_number : Int32} {M_size : Int32} {M_told : Int32} {M_at : Int32} {M_newSide : Int32} {M_newRights : Int32} {M_newPassant : Int32} {M_newClock : Int32} {M_newNumber : Int32} {M_outs : Int32} {oh : Nat} {f : Nat → Int64} (I : LI K s H locs Gh lnh lna0 ln trh tra0 tr rdh rd tdh tda0 tda1 td fmh fm psh psa0 ps sph spa0 sp Mh Ma0 Ma1 Ma2 Ma3 Ma4 Ma5 M_board M_text M_moves M_signs M_newBoard M_out M_thrown M_side M_rights M_passant M_clock M_number M_size M_told M_at M_newSide M_newRights M_newPassant M_newClock M_newNumber M_outs oh f) (hl : lv_has ls 7 (lvL b Gh Mh oh i)) (hC : C + 1 ≤ 1048 ∧ S + 6 ≤ 10151) (N : NX K p l e s m below meth c b Gh Mh oh i (C + 1) (S + 6)) : W p l e room_1 s m #[Value.ref b] below meth c H locs C S (lw_Z below #[Value.ref b] s) (F0 m 169 ls []) := by
  obtain ⟨hx, hb, hr, hml, hown, htg, hX, hbl, hlocks, hK, hG, hTh, hfl, hL⟩ := C0
  obtain ⟨hP, hD, hS, ok_ln, ok_tr, ok_td, RL, RP, RT⟩ := I
  have hbA : ¬ nA s b := fun q => absurd q (Nat.not_le.mpr hbl)
  have hA : ∀ q : Nat, s.heap.size ≤ q → nA s q := fun q h => h
  have rc : room_1.cells = 1048 := rfl
  have rs : room_1.slots = 10151 := rfl
  refine lv_aload_n hx hb d_lw_law_169 rfl (lv_at hl 2 rfl) ?_
  have hPc : va_P (kD K) vwCl (wG K Gh lnh lna0 ln trh tra0 tr rdh rd tdh tda0 tda1 td fmh fm psh psa0 ps sph spa0 sp) _ := hP.sub [0, 1, 2, 3, 4, 5, 6, 7, 8, 9, 10, 11, 12, 13] rfl
  have hDc : va_D (nA s) (wG K Gh lnh lna0 ln trh tra0 tr rdh rd tdh tda0 tda1 td fmh fm psh psa0 ps sph spa0 sp) := hD.sub [0, 1, 2, 3, 4, 5, 6, 7, 8, 9, 10, 11, 12, 13] (by decide) rfl
  have hFc := va_free (wc := wG K Gh lnh lna0 ln trh tra0 tr rdh rd tdh tda0 tda1 td fmh fm psh psa0 ps sph spa0 sp) hD hS hA [0, 1, 2, 3, 4, 5, 6, 7, 8, 9, 10, 11, 12, 13] rfl
  refine va_callv (va_runV (As := []) (rest := []) ⟨hx, hb, hml, hown, htg⟩ (c_gn_wipe l K _ Gh  lnh lna0 ln trh tra0 tr rdh rd tdh tda0 tda1 td fmh fm psh psa0 ps sph spa0 sp) (cwV 0 htg (g_V q_165 q_166 q_167 q_1 (g_w q_168)) rfl rfl rfl ⟨rfl, k_gn_wipe⟩ ⟨Nat.le_of_ble_eq_true rfl, Nat.le_of_ble_eq_true rfl⟩) ⟨mu_blind, va_recv hK hPc (ci := 5) (q0 := 0) rfl rfl, mu_use hPc hK hDc hG hS hFc ⟨ok_ln, ok_tr, ok_td, trivial⟩⟩ rfl rfl hl.1 rfl (lv_room (Nat.le_of_ble_eq_true rfl)) d_lw_law_170 ⟨by omega, by omega⟩) hS (fun q _ h => hFc q h) hFc (fun u_1 t H1 locs1 ht hvm hw_1 hB hz1 hk1 hS => ?_)
  obtain ⟨hP1, hD1⟩ := hB
  rw [ht] at hP1
  obtain ⟨hP, hD⟩ := va_join (wr := wM K Mh Ma0 Ma1 Ma2 Ma3 Ma4 Ma5 M_board M_text M_moves M_signs M_newBoard M_out M_thrown M_side M_rights M_passant M_clock M_number M_size M_told M_at M_newSide M_newRights M_newPassant M_newClock M_newNumber M_outs ++ [wO K oh f]) (w1 := wG K Gh lnh lna0 u_1 trh tra0 tr rdh rd tdh tda0 tda1 td fmh fm psh psa0 ps sph spa0 sp) hP hD [0, 1, 2, 3, 4, 5, 6, 7, 8, 9, 10, 11, 12, 13] [14, 15, 16, 17, 18, 19, 20, 21] rfl rfl (by decide) (by decide) hk1 hFc hP1 hD1
  have hP : va_P (kD K) vwCl (wG K Gh lnh lna0 u_1 trh tra0 tr rdh rd tdh tda0 tda1 td fmh fm psh psa0 ps sph spa0 sp ++ wM K Mh Ma0 Ma1 Ma2 Ma3 Ma4 Ma5 M_board M_text M_moves M_signs M_newBoard M_out M_thrown M_side M_rights M_passant M_clock M_number M_size M_told M_at M_newSide M_newRights M_newPassant M_newClock M_newNumber M_outs ++ [wO K oh f]) H1 := hP.sub [8, 9, 10, 11, 12, 13, 14, 15, 16, 17, 18, 19, 20, 21, 0, 1, 2, 3, 4, 5, 6, 7] rfl
  have hD : va_D (nA s) (wG K Gh lnh lna0 u_1 trh tra0 tr rdh rd tdh tda0 tda1 td fmh fm psh psa0 ps sph spa0 sp ++ wM K Mh Ma0 Ma1 Ma2 Ma3 Ma4 Ma5 M_board M_text M_moves M_signs M_newBoard M_out M_thrown M_side M_rights M_passant M_clock M_number M_size M_told M_at M_newSide M_newRights M_newPassant M_newClock M_newNumber M_outs ++ [wO K oh f]) := hD.sub [8, 9, 10, 11, 12, 13, 14, 15, 16, 17, 18, 19, 20, 21, 0, 1, 2, 3, 4, 5, 6, 7] (by decide) rfl
  clear hP1 hD1 hPc hDc hFc hk1 hz1 ht hvm
  generalize H1 = H at hP hS ⊢
  refine lv_aload_n hx hb d_lw_law_173 rfl (lv_at hl 3 rfl) ?_
  have hPc : va_P (kD K) vwCl (wM K Mh Ma0 Ma1 Ma2 Ma3 Ma4 Ma5 M_board M_text M_moves M_signs M_newBoard M_out M_thrown M_side M_rights M_passant M_clock M_number M_size M_told M_at M_newSide M_newRights M_newPassant M_newClock M_newNumber M_outs) _ := hP.sub [14, 15, 16, 17, 18, 19, 20] rfl
  have hDc : va_D (nA s) (wM K Mh Ma0 Ma1 Ma2 Ma3 Ma4 Ma5 M_board M_text M_moves M_signs M_newBoard M_out M_thrown M_side M_rights M_passant M_clock M_number M_size M_told M_at M_newSide M_newRights M_newPassant M_newClock M_newNumber M_outs) := hD.sub [14, 15, 16, 17, 18, 19, 20] (by decide) rfl
  have hFc := va_free (wc := wM K Mh Ma0 Ma1 Ma2 Ma3 Ma4 Ma5 M_board M_text M_moves M_signs M_newBoard M_out M_thrown M_side M_rights M_passant M_clock M_number M_size M_told M_at M_newSide M_newRights M_newPassant M_newClock M_newNumber M_outs) hD hS hA [14, 15, 16, 17, 18, 19, 20] rfl
  refine va_callv (va_runV (As := []) (rest := []) ⟨hx, hb, hml, hown, htg⟩ (c_md_wipe l K _ Mh Ma0 Ma1 Ma2 Ma3 Ma4 Ma5 M_board M_text M_moves M_signs M_newBoard M_out M_thrown M_side M_rights M_passant M_clock M_number M_size M_told M_at M_newSide M_newRights M_newPassant M_newClock M_newNumber M_outs ) (cwV 0 htg (g_V q_867 q_868 q_869 q_7 (g_w q_870)) rfl rfl rfl ⟨rfl, k_md_wipe⟩ ⟨Nat.le_of_ble_eq_true rfl, Nat.le_of_ble_eq_true rfl⟩) ⟨mu_blind, va_recv hK hPc (ci := 6) (q0 := 0) rfl rfl, mu_use hPc hK hDc hG hS hFc trivial⟩ rfl rfl hl.1 rfl (lv_room (Nat.le_of_ble_eq_true rfl)) d_lw_law_174 ⟨by omega, by omega⟩) hS (fun q _ h => hFc q h) hFc (fun u_2 t H1 locs1 ht hvm hw_2 hB hz1 hk1 hS => ?_)
  obtain ⟨hP1, hD1⟩ := hB
  rw [ht] at hP1
  obtain ⟨hP, hD⟩ := va_join (wr := wG K Gh lnh lna0 u_1 trh tra0 tr rdh rd tdh tda0 tda1 td fmh fm psh psa0 ps sph spa0 sp ++ [wO K oh f]) (w1 := wM K Mh Ma0 Ma1 Ma2 Ma3 Ma4 Ma5 M_board M_text M_moves M_signs M_newBoard M_out u_2.1 M_side M_rights M_passant M_clock M_number u_2.2 M_told M_at M_newSide M_newRights M_newPassant M_newClock M_newNumber M_outs) hP hD [14, 15, 16, 17, 18, 19, 20] [0, 1, 2, 3, 4, 5, 6, 7, 8, 9, 10, 11, 12, 13, 21] rfl rfl (by decide) (by decide) hk1 hFc hP1 hD1
  have hP : va_P (kD K) vwCl (wG K Gh lnh lna0 u_1 trh tra0 tr rdh rd tdh tda0 tda1 td fmh fm psh psa0 ps sph spa0 sp ++ wM K Mh Ma0 Ma1 Ma2 Ma3 Ma4 Ma5 M_board M_text M_moves M_signs M_newBoard M_out u_2.1 M_side M_rights M_passant M_clock M_number u_2.2 M_told M_at M_newSide M_newRights M_newPassant M_newClock M_newNumber M_outs ++ [wO K oh f]) H1 := hP.sub [0, 1, 2, 3, 4, 5, 6, 7, 8, 9, 10, 11, 12, 13, 15, 16, 17, 18, 19, 20, 21, 14] rfl
  have hD : va_D (nA s) (wG K Gh lnh lna0 u_1 trh tra0 tr rdh rd tdh tda0 tda1 td fmh fm psh psa0 ps sph spa0 sp ++ wM K Mh Ma0 Ma1 Ma2 Ma3 Ma4 Ma5 M_board M_text M_moves M_signs M_newBoard M_out u_2.1 M_side M_rights M_passant M_clock M_number u_2.2 M_told M_at M_newSide M_newRights M_newPassant M_newClock M_newNumber M_outs ++ [wO K oh f]) := hD.sub [0, 1, 2, 3, 4, 5, 6, 7, 8, 9, 10, 11, 12, 13, 15, 16, 17, 18, 19, 20, 21, 14] (by decide) rfl
  clear hP1 hD1 hPc hDc hFc hk1 hz1 ht hvm
  generalize H1 = H at hP hS ⊢
  have RL2 := pu_p_wipe (ln := ln) (tr := tr) (rd := rd) (td := td) (fm := fm) (ps := ps) (sp := sp) RL
  rw [hw_1.1] at RL2
  have hm2 : f_md_wipe.2 = u_2.2 := by rw [hw_2.1]
  rw [hm2] at RL2
  refine lv_goto (tgt := 583) hx hb d_lw_law_177 (by decide) ?_
  exact (W.widen (k := C + 1) (n := S + 6) (by omega) (by omega) (N _ _ _ _ _ _ _ _ _ _ _ _ _ _ _ _ _ _ _ _ _ _ _ _ _ _ _ _ _ _ _ _ _ _ _ _ _ _ _ _ _ _ _ _ _ _ _ _ _ _ _ ⟨hP, hD, hS, hw_1.2.1, ok_tr, ok_td, RL2, RP, RT⟩ hl))
set_option maxHeartbeats 4000000 in
set_option maxRecDepth 100000 in
theorem lw_case2 {l : Launch} {K : KT} {p : Program} {e : Env} {s : State} {m : MethodId} {below : List Frame} {meth : Method} {c : Code} {b L : Nat} {xs : Nat → Int32} (C0 : LC l K p s m meth c b L xs) {H : Heap} {locs : List Loc} {ls : Array Slot} {C S : Nat} {i : Int32} (h0 : 0 ≤ i.toInt) (h1 : i.toInt + 6 ≤ L) {Gh : Nat} {lnh lna0 : Nat} {ln : LnT} {trh tra0 : Nat} {tr : LnT} {rdh : Nat} {rd : Int32} {tdh tda0 tda1 : Nat} {td : TdT} {fmh : Nat} {fm : FmT} {psh psa0 : Nat} {ps : PsT} {sph spa0 : Nat} {sp : PsT} {Mh Ma0 Ma1 Ma2 Ma3 Ma4 Ma5 : Nat} {M_board : Nat → Int32} {M_text : Nat → Int32} {M_moves : Nat → Int32} {M_signs : Nat → Int32} {M_newBoard : Nat → Int32} {M_out : Nat → Int32} {M_thrown : Int32} {M_side : Int32} {M_rights : Int32} {M_passant : Int32} {M_clock : Int32} {M_number : Int32} {M_size : Int32} {M_told : Int32} {M_at : Int32} {M_newSide : Int32} {M_newRights : Int32} {M_newPassant : Int32} {M_newClock : Int32} {M_newNumber : Int32} {M_outs : Int32} {oh : Nat} {f : Nat → Int64} (I : LI K s H locs Gh lnh lna0 ln trh tra0 tr rdh rd tdh tda0 tda1 td fmh fm psh psa0 ps sph spa0 sp Mh Ma0 Ma1 Ma2 Ma3 Ma4 Ma5 M_board M_text M_moves M_signs M_newBoard M_out M_thrown M_side M_rights M_passant M_clock M_number M_size M_told M_at M_newSide M_newRights M_newPassant M_newClock M_newNumber M_outs oh f) (hl : lv_has ls 7 (lvL b Gh Mh oh i)) (hC : C + 1 ≤ 1048 ∧ S + 6 ≤ 10151) (N : NX K p l e s m below meth c b Gh Mh oh i (C + 1) (S + 6)) : W p l e room_1 s m #[Value.ref b] below meth c H locs C S (lw_Z below #[Value.ref b] s) (F0 m 180 ls []) := by
  obtain ⟨hx, hb, hr, hml, hown, htg, hX, hbl, hlocks, hK, hG, hTh, hfl, hL⟩ := C0
  obtain ⟨hP, hD, hS, ok_ln, ok_tr, ok_td, RL, RP, RT⟩ := I
  have hbA : ¬ nA s b := fun q => absurd q (Nat.not_le.mpr hbl)
  have hA : ∀ q : Nat, s.heap.size ≤ q → nA s q := fun q h => h
  have rc : room_1.cells = 1048 := rfl
  have rs : room_1.slots = 10151 := rfl
  refine lv_aload_n hx hb d_lw_law_180 rfl (lv_at hl 2 rfl) ?_
  refine lv_aload_n hx hb d_lw_law_181 rfl (lv_at hl 1 rfl) ?_
  refine lv_iload hx hb d_lw_law_182 (lv_at hl 0 rfl) ?_
  refine lv_iconst (v := 1) hx hb d_lw_law_184 (by decide) ?_
  refine lv_iadd hx hb d_lw_law_185 ?_
  refine va_sld hx hb hX hbl hbA hS (lw_in (1 : Int32) hL h0 h1 (by decide) (by decide)) d_lw_law_186 ?_
  have hPc : va_P (kD K) vwCl (wG K Gh lnh lna0 ln trh tra0 tr rdh rd tdh tda0 tda1 td fmh fm psh psa0 ps sph spa0 sp) _ := hP.sub [0, 1, 2, 3, 4, 5, 6, 7, 8, 9, 10, 11, 12, 13] rfl
  refine vp_callSi (va_Run.run (va_runV (As := [.int (xs (i + (1 : Int32)).toNatClampNeg)]) (rest := []) ⟨hx, hb, hml, hown, htg⟩ (c_gn_text l K Gh ((xs (i + (1 : Int32)).toNatClampNeg)) lnh lna0 ln trh tra0 tr rdh rd tdh tda0 tda1 td fmh fm psh psa0 ps sph spa0 sp) (cwV 1 htg (g_V q_173 q_174 q_175 q_1 (g_w q_176)) rfl rfl rfl ⟨rfl, k_gn_text⟩ ⟨Nat.le_of_ble_eq_true rfl, Nat.le_of_ble_eq_true rfl⟩) ⟨ro_blind, va_recv hK hPc (ci := 5) (q0 := 0) rfl rfl, ro_use hPc hK hG hS ⟨ok_ln, ok_tr, ok_td, trivial⟩⟩ rfl rfl hl.1 rfl (lv_room (Nat.le_of_ble_eq_true rfl)) d_lw_law_187 ⟨by omega, by omega⟩)) (fun r_1 hw_1 => ?_)
  refine lv_aload_n hx hb d_lw_law_190 rfl (lv_at hl 3 rfl) ?_
  refine lv_aload_n hx hb d_lw_law_191 rfl (lv_at hl 1 rfl) ?_
  refine lv_iload hx hb d_lw_law_192 (lv_at hl 0 rfl) ?_
  refine lv_iconst (v := 1) hx hb d_lw_law_194 (by decide) ?_
  refine lv_iadd hx hb d_lw_law_195 ?_
  refine va_sld hx hb hX hbl hbA hS (lw_in (1 : Int32) hL h0 h1 (by decide) (by decide)) d_lw_law_196 ?_
  have hPc : va_P (kD K) vwCl (wM K Mh Ma0 Ma1 Ma2 Ma3 Ma4 Ma5 M_board M_text M_moves M_signs M_newBoard M_out M_thrown M_side M_rights M_passant M_clock M_number M_size M_told M_at M_newSide M_newRights M_newPassant M_newClock M_newNumber M_outs) _ := hP.sub [14, 15, 16, 17, 18, 19, 20] rfl
  have hDc : va_D (nA s) (wM K Mh Ma0 Ma1 Ma2 Ma3 Ma4 Ma5 M_board M_text M_moves M_signs M_newBoard M_out M_thrown M_side M_rights M_passant M_clock M_number M_size M_told M_at M_newSide M_newRights M_newPassant M_newClock M_newNumber M_outs) := hD.sub [14, 15, 16, 17, 18, 19, 20] (by decide) rfl
  have hFc := va_free (wc := wM K Mh Ma0 Ma1 Ma2 Ma3 Ma4 Ma5 M_board M_text M_moves M_signs M_newBoard M_out M_thrown M_side M_rights M_passant M_clock M_number M_size M_told M_at M_newSide M_newRights M_newPassant M_newClock M_newNumber M_outs) hD hS hA [14, 15, 16, 17, 18, 19, 20] rfl
  refine va_calli (va_runV (As := [.int (xs (i + (1 : Int32)).toNatClampNeg)]) (rest := [.int r_1]) ⟨hx, hb, hml, hown, htg⟩ (c_md_text l K _ Mh Ma0 Ma1 Ma2 Ma3 Ma4 Ma5 M_board M_text M_moves M_signs M_newBoard M_out M_thrown M_side M_rights M_passant M_clock M_number M_size M_told M_at M_newSide M_newRights M_newPassant M_newClock M_newNumber M_outs ((xs (i + (1 : Int32)).toNatClampNeg))) (cwV 1 htg (g_V q_871 q_872 q_873 q_7 (g_w q_874)) rfl rfl rfl ⟨rfl, k_md_text⟩ ⟨Nat.le_of_ble_eq_true rfl, Nat.le_of_ble_eq_true rfl⟩) ⟨mu_blind, va_recv hK hPc (ci := 6) (q0 := 0) rfl rfl, mu_use hPc hK hDc hG hS hFc ⟨RL.hi, trivial⟩⟩ rfl rfl hl.1 rfl (lv_room (Nat.le_of_ble_eq_true rfl)) d_lw_law_197 ⟨by omega, by omega⟩) hS (fun q _ h => hFc q h) hFc (fun r_2 u_2 t H1 locs1 ht hvm hw_2 hB hz1 hk1 hS => ?_)
  obtain ⟨hP1, hD1⟩ := hB
  rw [ht] at hP1
  obtain ⟨hP, hD⟩ := va_join (wr := wG K Gh lnh lna0 ln trh tra0 tr rdh rd tdh tda0 tda1 td fmh fm psh psa0 ps sph spa0 sp ++ [wO K oh f]) (w1 := wM K Mh Ma0 Ma1 Ma2 Ma3 Ma4 Ma5 M_board M_text M_moves M_signs M_newBoard M_out u_2 M_side M_rights M_passant M_clock M_number M_size M_told M_at M_newSide M_newRights M_newPassant M_newClock M_newNumber M_outs) hP hD [14, 15, 16, 17, 18, 19, 20] [0, 1, 2, 3, 4, 5, 6, 7, 8, 9, 10, 11, 12, 13, 21] rfl rfl (by decide) (by decide) hk1 hFc hP1 hD1
  have hP : va_P (kD K) vwCl (wG K Gh lnh lna0 ln trh tra0 tr rdh rd tdh tda0 tda1 td fmh fm psh psa0 ps sph spa0 sp ++ wM K Mh Ma0 Ma1 Ma2 Ma3 Ma4 Ma5 M_board M_text M_moves M_signs M_newBoard M_out u_2 M_side M_rights M_passant M_clock M_number M_size M_told M_at M_newSide M_newRights M_newPassant M_newClock M_newNumber M_outs ++ [wO K oh f]) H1 := hP.sub [0, 1, 2, 3, 4, 5, 6, 7, 8, 9, 10, 11, 12, 13, 15, 16, 17, 18, 19, 20, 21, 14] rfl
  have hD : va_D (nA s) (wG K Gh lnh lna0 ln trh tra0 tr rdh rd tdh tda0 tda1 td fmh fm psh psa0 ps sph spa0 sp ++ wM K Mh Ma0 Ma1 Ma2 Ma3 Ma4 Ma5 M_board M_text M_moves M_signs M_newBoard M_out u_2 M_side M_rights M_passant M_clock M_number M_size M_told M_at M_newSide M_newRights M_newPassant M_newClock M_newNumber M_outs ++ [wO K oh f]) := hD.sub [0, 1, 2, 3, 4, 5, 6, 7, 8, 9, 10, 11, 12, 13, 15, 16, 17, 18, 19, 20, 21, 14] (by decide) rfl
  clear hP1 hD1 hPc hDc hFc hk1 hz1 ht hvm
  generalize H1 = H at hP hS ⊢
  have hq : r_1 = r_2 := by rw [← hw_1.1, pu_p_text RL, hw_2.1]
  refine lv_icmp_eq (tgt := 583) hx hb d_lw_law_200 (by decide) (fun c_9 => ?_) (fun c_9 => ?_)
  · exact (W.widen (k := C + 1) (n := S + 6) (by omega) (by omega) (N _ _ _ _ _ _ _ _ _ _ _ _ _ _ _ _ _ _ _ _ _ _ _ _ _ _ _ _ _ _ _ _ _ _ _ _ _ _ _ _ _ _ _ _ _ _ _ _ _ _ _ ⟨hP, hD, hS, ok_ln, ok_tr, ok_td, RL, RP, RT⟩ hl))
  · exact absurd (hq) c_9
