theorem q_lw_attacked : (.codeWith y_lw_attacked b_lw_attacked 5 (some .int) [(0, 17, 20, 13)] : Cond) ∈ gw := gw_t (List.mem_of_getElem? (i := 689) (by decide +kernel)) (by decide +kernel)
theorem q_lw_spell : (.codeWith y_lw_spell b_lw_spell 4 (some .int) [(0, 9, 12, 19)] : Cond) ∈ gw := gw_t (List.mem_of_getElem? (i := 764) (by decide +kernel)) (by decide +kernel)
theorem k_lw_attacked : y_lw_attacked.cls ≠ "java/lang/invoke/MethodHandle" ∧ y_lw_attacked.cls ≠ "java/lang/invoke/VarHandle" ∧ (parseMethodDescriptor y_lw_attacked.desc).map (fun d => d.parameters.length) = some 4 := by decide +kernel
theorem k_lw_spell : y_lw_spell.cls ≠ "java/lang/invoke/MethodHandle" ∧ y_lw_spell.cls ≠ "java/lang/invoke/VarHandle" ∧ (parseMethodDescriptor y_lw_spell.desc).map (fun d => d.parameters.length) = some 3 := by decide +kernel
set_option maxHeartbeats 4000000 in
set_option maxRecDepth 100000 in
theorem lw_case8 {l : Launch} {K : KT} {p : Program} {e : Env} {s : State} {m : MethodId} {below : List Frame} {meth : Method} {c : Code} {b L : Nat} {xs : Nat → Int32} (C0 : LC l K p s m meth c b L xs) {H : Heap} {locs : List Loc} {ls : Array Slot} {C S : Nat} {i : Int32} (h0 : 0 ≤ i.toInt) (h1 : i.toInt + 6 ≤ L) {Gh : Nat} {lnh lna0 : Nat} {ln : LnT} {trh tra0 : Nat} {tr : LnT} {rdh : Nat} {rd : Int32} {tdh tda0 tda1 : Nat} {td : TdT} {fmh : Nat} {fm : FmT} {psh psa0 : Nat} {ps : PsT} {sph spa0 : Nat} {sp : PsT} {Mh Ma0 Ma1 Ma2 Ma3 Ma4 Ma5 : Nat} {M_board : Nat → Int32} {M_text : Nat → Int32} {M_moves : Nat → Int32} {M_signs : Nat → Int32} {M_newBoard : Nat → Int32} {M_out : Nat → Int32} {M_thrown : Int32} {M_side : Int32} {M_rights : Int32} {M_passant : Int32} {M_clock : Int32} {M_number : Int32} {M_size : Int32} {M_told : Int32} {M_at : Int32} {M_newSide : Int32} {M_newRights : Int32} {M_newPassant : Int32} {M_newClock : Int32} {M_newNumber : Int32} {M_outs : Int32} {oh : Nat} {f : Nat → Int64} (I : LI K s H locs Gh lnh lna0 ln trh tra0 tr rdh rd tdh tda0 tda1 td fmh fm psh psa0 ps sph spa0 sp Mh Ma0 Ma1 Ma2 Ma3 Ma4 Ma5 M_board M_text M_moves M_signs M_newBoard M_out M_thrown M_side M_rights M_passant M_clock M_number M_size M_told M_at M_newSide M_newRights M_newPassant M_newClock M_newNumber M_outs oh f) (hl : lv_has ls 7 (lvL b Gh Mh oh i)) (hC : C + 1 ≤ 1048 ∧ S + 6 ≤ 10151) (N : NX K p l e s m below meth c b Gh Mh oh i (C + 1) (S + 6)) : W p l e room_1 s m #[Value.ref b] below meth c H locs C S (lw_Z below #[Value.ref b] s) (F0 m 366 ls []) := by
  obtain ⟨hx, hb, hr, hml, hown, htg, hX, hbl, hlocks, hK, hG, hTh, hfl, hL⟩ := C0
  obtain ⟨hP, hD, hS, ok_ln, ok_tr, ok_td, RL, RP, RT⟩ := I
  have hbA : ¬ nA s b := fun q => absurd q (Nat.not_le.mpr hbl)
  have hA : ∀ q : Nat, s.heap.size ≤ q → nA s q := fun q h => h
  have rc : room_1.cells = 1048 := rfl
  have rs : room_1.slots = 10151 := rfl
  refine lv_aload_n hx hb d_lw_law_366 rfl (lv_at hl 2 rfl) ?_
  refine lv_aload_n hx hb d_lw_law_367 rfl (lv_at hl 1 rfl) ?_
  refine lv_iload hx hb d_lw_law_368 (lv_at hl 0 rfl) ?_
  refine lv_iconst (v := 1) hx hb d_lw_law_370 (by decide) ?_
  refine lv_iadd hx hb d_lw_law_371 ?_
  refine va_sld hx hb hX hbl hbA hS (lw_in (1 : Int32) hL h0 h1 (by decide) (by decide)) d_lw_law_372 ?_
  refine lv_aload_n hx hb d_lw_law_373 rfl (lv_at hl 1 rfl) ?_
  refine lv_iload hx hb d_lw_law_374 (lv_at hl 0 rfl) ?_
  refine lv_iconst (v := 2) hx hb d_lw_law_376 (by decide) ?_
  refine lv_iadd hx hb d_lw_law_377 ?_
  refine va_sld hx hb hX hbl hbA hS (lw_in (2 : Int32) hL h0 h1 (by decide) (by decide)) d_lw_law_378 ?_
  refine lv_aload_n hx hb d_lw_law_379 rfl (lv_at hl 4 rfl) ?_
  have hPc : va_P (kD K) vwCl (wG K Gh lnh lna0 ln trh tra0 tr rdh rd tdh tda0 tda1 td fmh fm psh psa0 ps sph spa0 sp ++ [wO K oh f]) _ := hP.sub [0, 1, 2, 3, 4, 5, 6, 7, 8, 9, 10, 11, 12, 13, 21] rfl
  have hDc : va_D (nA s) (wG K Gh lnh lna0 ln trh tra0 tr rdh rd tdh tda0 tda1 td fmh fm psh psa0 ps sph spa0 sp ++ [wO K oh f]) := hD.sub [0, 1, 2, 3, 4, 5, 6, 7, 8, 9, 10, 11, 12, 13, 21] (by decide) rfl
  have hFc := va_free (wc := wG K Gh lnh lna0 ln trh tra0 tr rdh rd tdh tda0 tda1 td fmh fm psh psa0 ps sph spa0 sp ++ [wO K oh f]) hD hS hA [0, 1, 2, 3, 4, 5, 6, 7, 8, 9, 10, 11, 12, 13, 21] rfl
  refine va_calli (lw_runSW (As := [.ref Gh, .int (xs (i + (1 : Int32)).toNatClampNeg), .int (xs (i + (2 : Int32)).toNatClampNeg), .ref oh]) (rest := []) (index := 62) hx hb hml hown htg (c_lw_attacked l hfl K _ Gh lnh lna0 ln trh tra0 tr rdh rd tdh tda0 tda1 td fmh fm psh psa0 ps sph spa0 sp oh f (xs (i + (1 : Int32)).toNatClampNeg) (xs (i + (2 : Int32)).toNatClampNeg)) mt_blind rfl rfl (Nat.le_of_ble_eq_true rfl) (Nat.le_of_ble_eq_true rfl) q_lw_attacked q_687 q_688 q_0 k_lw_attacked (mt_use hPc hK hDc hG hTh hS hFc ⟨ok_ln, ok_tr, ok_td, trivial⟩) rfl rfl hl.1 rfl (lv_room (Nat.le_of_ble_eq_true rfl)) d_lw_law_380 ⟨by omega, by omega⟩) hS (fun q _ h => hFc q h) hFc (fun r_1 u_1 t H1 locs1 ht hvm hw_1 hB hz1 hk1 hS => ?_)
  obtain ⟨hP1, hD1⟩ := hB
  rw [ht] at hP1
  obtain ⟨hP, hD⟩ := va_join (wr := wM K Mh Ma0 Ma1 Ma2 Ma3 Ma4 Ma5 M_board M_text M_moves M_signs M_newBoard M_out M_thrown M_side M_rights M_passant M_clock M_number M_size M_told M_at M_newSide M_newRights M_newPassant M_newClock M_newNumber M_outs) (w1 := wG K Gh lnh lna0 ln trh tra0 tr rdh rd tdh tda0 tda1 td fmh fm psh psa0 ps sph spa0 sp ++ [wO K oh u_1]) hP hD [0, 1, 2, 3, 4, 5, 6, 7, 8, 9, 10, 11, 12, 13, 21] [14, 15, 16, 17, 18, 19, 20] rfl rfl (by decide) (by decide) hk1 hFc hP1 hD1
  have hP : va_P (kD K) vwCl (wG K Gh lnh lna0 ln trh tra0 tr rdh rd tdh tda0 tda1 td fmh fm psh psa0 ps sph spa0 sp ++ wM K Mh Ma0 Ma1 Ma2 Ma3 Ma4 Ma5 M_board M_text M_moves M_signs M_newBoard M_out M_thrown M_side M_rights M_passant M_clock M_number M_size M_told M_at M_newSide M_newRights M_newPassant M_newClock M_newNumber M_outs ++ [wO K oh u_1]) H1 := hP.sub [7, 8, 9, 10, 11, 12, 13, 14, 15, 16, 17, 18, 19, 20, 0, 1, 2, 3, 4, 5, 6, 21] rfl
  have hD : va_D (nA s) (wG K Gh lnh lna0 ln trh tra0 tr rdh rd tdh tda0 tda1 td fmh fm psh psa0 ps sph spa0 sp ++ wM K Mh Ma0 Ma1 Ma2 Ma3 Ma4 Ma5 M_board M_text M_moves M_signs M_newBoard M_out M_thrown M_side M_rights M_passant M_clock M_number M_size M_told M_at M_newSide M_newRights M_newPassant M_newClock M_newNumber M_outs ++ [wO K oh u_1]) := hD.sub [7, 8, 9, 10, 11, 12, 13, 14, 15, 16, 17, 18, 19, 20, 0, 1, 2, 3, 4, 5, 6, 21] (by decide) rfl
  clear hP1 hD1 hPc hDc hFc hk1 hz1 ht hvm
  generalize H1 = H at hP hS ⊢
  refine lv_istore (lv' := [(5, .int r_1), (4, .int i), (0, .ref b), (1, .ref Gh), (2, .ref Mh), (3, .ref oh)]) hx hb d_lw_law_383 hl (by decide) rfl (fun ls hl => ?_)
  refine lv_aload_n hx hb d_lw_law_385 rfl (lv_at hl 4 rfl) ?_
  refine lv_aload_n hx hb d_lw_law_386 rfl (lv_at hl 2 rfl) ?_
  refine lv_iload hx hb d_lw_law_387 (lv_at hl 1 rfl) ?_
  refine lv_iconst (v := 1) hx hb d_lw_law_389 (by decide) ?_
  refine lv_iadd hx hb d_lw_law_390 ?_
  refine va_sld hx hb hX hbl hbA hS (lw_in (1 : Int32) hL h0 h1 (by decide) (by decide)) d_lw_law_391 ?_
  refine lv_aload_n hx hb d_lw_law_392 rfl (lv_at hl 2 rfl) ?_
  refine lv_iload hx hb d_lw_law_393 (lv_at hl 1 rfl) ?_
  refine lv_iconst (v := 2) hx hb d_lw_law_395 (by decide) ?_
  refine lv_iadd hx hb d_lw_law_396 ?_
  refine va_sld hx hb hX hbl hbA hS (lw_in (2 : Int32) hL h0 h1 (by decide) (by decide)) d_lw_law_397 ?_
  have hPc : va_P (kD K) vwCl (wM K Mh Ma0 Ma1 Ma2 Ma3 Ma4 Ma5 M_board M_text M_moves M_signs M_newBoard M_out M_thrown M_side M_rights M_passant M_clock M_number M_size M_told M_at M_newSide M_newRights M_newPassant M_newClock M_newNumber M_outs) _ := hP.sub [14, 15, 16, 17, 18, 19, 20] rfl
  have hDc : va_D (nA s) (wM K Mh Ma0 Ma1 Ma2 Ma3 Ma4 Ma5 M_board M_text M_moves M_signs M_newBoard M_out M_thrown M_side M_rights M_passant M_clock M_number M_size M_told M_at M_newSide M_newRights M_newPassant M_newClock M_newNumber M_outs) := hD.sub [14, 15, 16, 17, 18, 19, 20] (by decide) rfl
  have hFc := va_free (wc := wM K Mh Ma0 Ma1 Ma2 Ma3 Ma4 Ma5 M_board M_text M_moves M_signs M_newBoard M_out M_thrown M_side M_rights M_passant M_clock M_number M_size M_told M_at M_newSide M_newRights M_newPassant M_newClock M_newNumber M_outs) hD hS hA [14, 15, 16, 17, 18, 19, 20] rfl
  refine va_calli (va_runV (As := [.int (xs (i + (1 : Int32)).toNatClampNeg), .int (xs (i + (2 : Int32)).toNatClampNeg)]) (rest := []) ⟨hx, hb, hml, hown, htg⟩ (c_md_attacked l K _ Mh Ma0 Ma1 Ma2 Ma3 Ma4 Ma5 M_board M_text M_moves M_signs M_newBoard M_out M_thrown M_side M_rights M_passant M_clock M_number M_size M_told M_at M_newSide M_newRights M_newPassant M_newClock M_newNumber M_outs (xs (i + (1 : Int32)).toNatClampNeg) (xs (i + (2 : Int32)).toNatClampNeg)) (cwV 2 htg (g_V q_977 q_978 q_979 q_7 (g_w q_980)) rfl rfl rfl ⟨rfl, k_md_attacked⟩ ⟨Nat.le_of_ble_eq_true rfl, Nat.le_of_ble_eq_true rfl⟩) ⟨mu_blind, va_recv hK hPc (ci := 6) (q0 := 0) rfl rfl, mu_use hPc hK hDc hG hS hFc trivial⟩ rfl rfl hl.1 rfl (lv_room (Nat.le_of_ble_eq_true rfl)) d_lw_law_398 ⟨by omega, by omega⟩) hS (fun q _ h => hFc q h) hFc (fun r_2 u_2 t H1 locs1 ht hvm hw_2 hB hz1 hk1 hS => ?_)
  obtain ⟨hP1, hD1⟩ := hB
  rw [ht] at hP1
  obtain ⟨hP, hD⟩ := va_join (wr := wG K Gh lnh lna0 ln trh tra0 tr rdh rd tdh tda0 tda1 td fmh fm psh psa0 ps sph spa0 sp ++ [wO K oh u_1]) (w1 := wM K Mh Ma0 Ma1 Ma2 Ma3 Ma4 Ma5 M_board M_text M_moves M_signs M_newBoard M_out u_2 M_side M_rights M_passant M_clock M_number M_size M_told M_at M_newSide M_newRights M_newPassant M_newClock M_newNumber M_outs) hP hD [14, 15, 16, 17, 18, 19, 20] [0, 1, 2, 3, 4, 5, 6, 7, 8, 9, 10, 11, 12, 13, 21] rfl rfl (by decide) (by decide) hk1 hFc hP1 hD1
  have hP : va_P (kD K) vwCl (wG K Gh lnh lna0 ln trh tra0 tr rdh rd tdh tda0 tda1 td fmh fm psh psa0 ps sph spa0 sp ++ wM K Mh Ma0 Ma1 Ma2 Ma3 Ma4 Ma5 M_board M_text M_moves M_signs M_newBoard M_out u_2 M_side M_rights M_passant M_clock M_number M_size M_told M_at M_newSide M_newRights M_newPassant M_newClock M_newNumber M_outs ++ [wO K oh u_1]) H1 := hP.sub [0, 1, 2, 3, 4, 5, 6, 7, 8, 9, 10, 11, 12, 13, 15, 16, 17, 18, 19, 20, 21, 14] rfl
  have hD : va_D (nA s) (wG K Gh lnh lna0 ln trh tra0 tr rdh rd tdh tda0 tda1 td fmh fm psh psa0 ps sph spa0 sp ++ wM K Mh Ma0 Ma1 Ma2 Ma3 Ma4 Ma5 M_board M_text M_moves M_signs M_newBoard M_out u_2 M_side M_rights M_passant M_clock M_number M_size M_told M_at M_newSide M_newRights M_newPassant M_newClock M_newNumber M_outs ++ [wO K oh u_1]) := hD.sub [0, 1, 2, 3, 4, 5, 6, 7, 8, 9, 10, 11, 12, 13, 15, 16, 17, 18, 19, 20, 21, 14] (by decide) rfl
  clear hP1 hD1 hPc hDc hFc hk1 hz1 ht hvm
  generalize H1 = H at hP hS ⊢
  refine lv_istore (lv' := [(6, .int r_2), (5, .int r_1), (4, .int i), (0, .ref b), (1, .ref Gh), (2, .ref Mh), (3, .ref oh)]) hx hb d_lw_law_401 hl (by decide) rfl (fun ls hl => ?_)
  refine lv_aload_n hx hb d_lw_law_403 rfl (lv_at hl 5 rfl) ?_
  have hPc : va_P (kD K) vwCl (wM K Mh Ma0 Ma1 Ma2 Ma3 Ma4 Ma5 M_board M_text M_moves M_signs M_newBoard M_out u_2 M_side M_rights M_passant M_clock M_number M_size M_told M_at M_newSide M_newRights M_newPassant M_newClock M_newNumber M_outs) _ := hP.sub [14, 15, 16, 17, 18, 19, 20] rfl
  refine vp_callSi (va_Run.run (va_runV (As := []) (rest := []) ⟨hx, hb, hml, hown, htg⟩ (c_md_thrown l K Mh Ma0 Ma1 Ma2 Ma3 Ma4 Ma5 M_board M_text M_moves M_signs M_newBoard M_out u_2 M_side M_rights M_passant M_clock M_number M_size M_told M_at M_newSide M_newRights M_newPassant M_newClock M_newNumber M_outs) (cwV 0 htg (g_V q_858 q_859 q_860 q_7 (g_w q_861)) rfl rfl rfl ⟨rfl, k_md_thrown⟩ ⟨Nat.le_of_ble_eq_true rfl, Nat.le_of_ble_eq_true rfl⟩) ⟨ro_blind, va_recv hK hPc (ci := 6) (q0 := 0) rfl rfl, ro_use hPc hK hG hS trivial⟩ rfl rfl hl.1 rfl (lv_room (Nat.le_of_ble_eq_true rfl)) d_lw_law_404 ⟨by omega, by omega⟩)) (fun r_3 hw_3 => ?_)
  have h3 : u_2 = r_3 := hw_3.1
  have hl5 : lv_has ls 7 (lvL b Gh Mh oh i) := lv_sub hl [2, 3, 4, 5, 6] rfl
  have PU := pu_p_attacked (ln := ln) (tr := tr) (rd := rd) (td := td) (fm := fm) (sp := sp) RP hw_2.1
  have stop : W p l e room_1 s m #[Value.ref b] below meth c H _ (C + 1) (S + 6) (lw_Z below #[Value.ref b] s) (F0 m 438 ls []) := lv_goto (tgt := 583) hx hb d_lw_law_438 (by decide) (N _ _ _ _ _ _ _ _ _ _ _ _ _ _ _ _ _ _ _ _ _ _ _ _ _ _ _ _ _ _ _ _ _ _ _ _ _ _ _ _ _ _ _ _ _ _ _ _ _ _ _ ⟨hP, hD, hS, ok_ln, ok_tr, ok_td, RL, RP, RT⟩ hl5)
  have key : r_3 = r_1 ∧ (r_1 = 0 → u_1 0 = (if r_2 = 0 then 0 else 1)) := by
    rcases hw_1 with ⟨g1, g2, g3⟩ | ⟨g1, g2, g3⟩ <;> rcases PU with ⟨k1, k2⟩ | ⟨⟨k1, k1b⟩, k2, k3, k4⟩
    · exact ⟨by rw [← h3, k2, g2], fun q => by rw [g2] at q; exact absurd q (by decide)⟩
    · exact absurd g1 (fun q => q.elim k1 k1b)
    · exact absurd k1 g1
    · exact ⟨by rw [← h3, k2, g2], fun _ => by rw [g3, k3]⟩
  refine lv_iload hx hb d_lw_law_407 (lv_at hl 1 rfl) ?_
  refine lv_icmp_eq (tgt := 414) hx hb d_lw_law_409 (by decide) (fun c_8 => ?_) (fun c_8 => absurd key.1 c_8)
  refine lv_iload hx hb d_lw_law_414 (lv_at hl 1 rfl) ?_
  refine lv_if_ne (tgt := 438) hx hb d_lw_law_416 (by decide) (fun c_9 => stop) (fun c_9 => ?_)
  refine lv_aload_n hx hb d_lw_law_419 rfl (lv_at hl 6 rfl) ?_
  refine lv_iconst (v := 0) hx hb d_lw_law_420 (by decide) ?_
  refine va_lald hx hb hK hP 21 2 rfl rfl (vp_in_iff.mpr ⟨by decide, by decide⟩) d_lw_law_421 ?_
  have e0 : u_1 (0 : Int32).toNatClampNeg = _ := key.2 c_9
  rw [e0]
  refine lv_iload hx hb d_lw_law_422 (lv_at hl 0 rfl) ?_
  refine lv_if_eq (tgt := 431) hx hb d_lw_law_424 (by decide) (fun c_7 => ?_) (fun c_7 => ?_)
  · refine lv_lconst (v := 0) hx hb d_lw_law_431 (by decide) ?_
    refine W.lcmp hx hb d_lw_law_432 ?_
    rw [if_pos c_7]
    refine lv_if_eq (tgt := 438) hx hb d_lw_law_433 (by decide) (fun _ => stop) (fun c_6 => absurd (by decide) c_6)
  · refine lv_lconst (v := 1) hx hb d_lw_law_427 (by decide) ?_
    refine lv_goto (tgt := 432) hx hb d_lw_law_428 (by decide) ?_
    refine W.lcmp hx hb d_lw_law_432 ?_
    rw [if_neg c_7]
    refine lv_if_eq (tgt := 438) hx hb d_lw_law_433 (by decide) (fun _ => stop) (fun c_6 => absurd (by decide) c_6)
set_option maxHeartbeats 4000000 in
set_option maxRecDepth 100000 in
theorem lw_case11 {l : Launch} {K : KT} {p : Program} {e : Env} {s : State} {m : MethodId} {below : List Frame} {meth : Method} {c : Code} {b L : Nat} {xs : Nat → Int32} (C0 : LC l K p s m meth c b L xs) {H : Heap} {locs : List Loc} {ls : Array Slot} {C S : Nat} {i : Int32} (h0 : 0 ≤ i.toInt) (h1 : i.toInt + 6 ≤ L) {Gh : Nat} {lnh lna0 : Nat} {ln : LnT} {trh tra0 : Nat} {tr : LnT} {rdh : Nat} {rd : Int32} {tdh tda0 tda1 : Nat} {td : TdT} {fmh : Nat} {fm : FmT} {psh psa0 : Nat} {ps : PsT} {sph spa0 : Nat} {sp : PsT} {Mh Ma0 Ma1 Ma2 Ma3 Ma4 Ma5 : Nat} {M_board : Nat → Int32} {M_text : Nat → Int32} {M_moves : Nat → Int32} {M_signs : Nat → Int32} {M_newBoard : Nat → Int32} {M_out : Nat → Int32} {M_thrown : Int32} {M_side : Int32} {M_rights : Int32} {M_passant : Int32} {M_clock : Int32} {M_number : Int32} {M_size : Int32} {M_told : Int32} {M_at : Int32} {M_newSide : Int32} {M_newRights : Int32} {M_newPassant : Int32} {M_newClock : Int32} {M_newNumber : Int32} {M_outs : Int32} {oh : Nat} {f : Nat → Int64} (I : LI K s H locs Gh lnh lna0 ln trh tra0 tr rdh rd tdh tda0 tda1 td fmh fm psh psa0 ps sph spa0 sp Mh Ma0 Ma1 Ma2 Ma3 Ma4 Ma5 M_board M_text M_moves M_signs M_newBoard M_out M_thrown M_side M_rights M_passant M_clock M_number M_size M_told M_at M_newSide M_newRights M_newPassant M_newClock M_newNumber M_outs oh f) (hl : lv_has ls 7 (lvL b Gh Mh oh i)) (hC : C + 1 ≤ 1048 ∧ S + 6 ≤ 10151) (N : NX K p l e s m below meth c b Gh Mh oh i (C + 1) (S + 6)) : W p l e room_1 s m #[Value.ref b] below meth c H locs C S (lw_Z below #[Value.ref b] s) (F0 m 489 ls []) := by
  obtain ⟨hx, hb, hr, hml, hown, htg, hX, hbl, hlocks, hK, hG, hTh, hfl, hL⟩ := C0
  obtain ⟨hP, hD, hS, ok_ln, ok_tr, ok_td, RL, RP, RT⟩ := I
  have hbA : ¬ nA s b := fun q => absurd q (Nat.not_le.mpr hbl)
  have hA : ∀ q : Nat, s.heap.size ≤ q → nA s q := fun q h => h
  have rc : room_1.cells = 1048 := rfl
  have rs : room_1.slots = 10151 := rfl
  refine lv_aload_n hx hb d_lw_law_489 rfl (lv_at hl 2 rfl) ?_
  refine lv_aload_n hx hb d_lw_law_490 rfl (lv_at hl 1 rfl) ?_
  refine lv_iload hx hb d_lw_law_491 (lv_at hl 0 rfl) ?_
  refine lv_iconst (v := 1) hx hb d_lw_law_493 (by decide) ?_
  refine lv_iadd hx hb d_lw_law_494 ?_
  refine va_sld hx hb hX hbl hbA hS (lw_in (1 : Int32) hL h0 h1 (by decide) (by decide)) d_lw_law_495 ?_
  refine lv_aload_n hx hb d_lw_law_496 rfl (lv_at hl 4 rfl) ?_
  have hPc : va_P (kD K) vwCl (wG K Gh lnh lna0 ln trh tra0 tr rdh rd tdh tda0 tda1 td fmh fm psh psa0 ps sph spa0 sp ++ [wO K oh f]) _ := hP.sub [0, 1, 2, 3, 4, 5, 6, 7, 8, 9, 10, 11, 12, 13, 21] rfl
  have hDc : va_D (nA s) (wG K Gh lnh lna0 ln trh tra0 tr rdh rd tdh tda0 tda1 td fmh fm psh psa0 ps sph spa0 sp ++ [wO K oh f]) := hD.sub [0, 1, 2, 3, 4, 5, 6, 7, 8, 9, 10, 11, 12, 13, 21] (by decide) rfl
  have hFc := va_free (wc := wG K Gh lnh lna0 ln trh tra0 tr rdh rd tdh tda0 tda1 td fmh fm psh psa0 ps sph spa0 sp ++ [wO K oh f]) hD hS hA [0, 1, 2, 3, 4, 5, 6, 7, 8, 9, 10, 11, 12, 13, 21] rfl
  refine va_calli (lw_runSW (As := [.ref Gh, .int (xs (i + (1 : Int32)).toNatClampNeg), .ref oh]) (rest := []) (index := 79) hx hb hml hown htg (c_lw_spell l hfl K _ Gh lnh lna0 ln trh tra0 tr rdh rd tdh tda0 tda1 td fmh fm psh psa0 ps sph spa0 sp oh f (xs (i + (1 : Int32)).toNatClampNeg)) mt_blind rfl rfl (Nat.le_of_ble_eq_true rfl) (Nat.le_of_ble_eq_true rfl) q_lw_spell q_762 q_763 q_0 k_lw_spell (mt_use hPc hK hDc hG hTh hS hFc ⟨ok_ln, ok_tr, ok_td, trivial⟩) rfl rfl hl.1 rfl (lv_room (Nat.le_of_ble_eq_true rfl)) d_lw_law_497 ⟨by omega, by omega⟩) hS (fun q _ h => hFc q h) hFc (fun r_1 u_1 t H1 locs1 ht hvm hw_1 hB hz1 hk1 hS => ?_)
  obtain ⟨hP1, hD1⟩ := hB
  rw [ht] at hP1
  obtain ⟨hP, hD⟩ := va_join (wr := wM K Mh Ma0 Ma1 Ma2 Ma3 Ma4 Ma5 M_board M_text M_moves M_signs M_newBoard M_out M_thrown M_side M_rights M_passant M_clock M_number M_size M_told M_at M_newSide M_newRights M_newPassant M_newClock M_newNumber M_outs) (w1 := wG K Gh lnh lna0 u_1.1 trh tra0 tr rdh rd tdh tda0 tda1 td fmh fm psh psa0 ps sph spa0 sp ++ [wO K oh u_1.2]) hP hD [0, 1, 2, 3, 4, 5, 6, 7, 8, 9, 10, 11, 12, 13, 21] [14, 15, 16, 17, 18, 19, 20] rfl rfl (by decide) (by decide) hk1 hFc hP1 hD1
  have hP : va_P (kD K) vwCl (wG K Gh lnh lna0 u_1.1 trh tra0 tr rdh rd tdh tda0 tda1 td fmh fm psh psa0 ps sph spa0 sp ++ wM K Mh Ma0 Ma1 Ma2 Ma3 Ma4 Ma5 M_board M_text M_moves M_signs M_newBoard M_out M_thrown M_side M_rights M_passant M_clock M_number M_size M_told M_at M_newSide M_newRights M_newPassant M_newClock M_newNumber M_outs ++ [wO K oh u_1.2]) H1 := hP.sub [7, 8, 9, 10, 11, 12, 13, 14, 15, 16, 17, 18, 19, 20, 0, 1, 2, 3, 4, 5, 6, 21] rfl
  have hD : va_D (nA s) (wG K Gh lnh lna0 u_1.1 trh tra0 tr rdh rd tdh tda0 tda1 td fmh fm psh psa0 ps sph spa0 sp ++ wM K Mh Ma0 Ma1 Ma2 Ma3 Ma4 Ma5 M_board M_text M_moves M_signs M_newBoard M_out M_thrown M_side M_rights M_passant M_clock M_number M_size M_told M_at M_newSide M_newRights M_newPassant M_newClock M_newNumber M_outs ++ [wO K oh u_1.2]) := hD.sub [7, 8, 9, 10, 11, 12, 13, 14, 15, 16, 17, 18, 19, 20, 0, 1, 2, 3, 4, 5, 6, 21] (by decide) rfl
  clear hP1 hD1 hPc hDc hFc hk1 hz1 ht hvm
  generalize H1 = H at hP hS ⊢
  refine lv_istore (lv' := [(5, .int r_1), (4, .int i), (0, .ref b), (1, .ref Gh), (2, .ref Mh), (3, .ref oh)]) hx hb d_lw_law_500 hl (by decide) rfl (fun ls hl => ?_)
  refine lv_aload_n hx hb d_lw_law_502 rfl (lv_at hl 4 rfl) ?_
  refine lv_aload_n hx hb d_lw_law_503 rfl (lv_at hl 2 rfl) ?_
  refine lv_iload hx hb d_lw_law_504 (lv_at hl 1 rfl) ?_
  refine lv_iconst (v := 1) hx hb d_lw_law_506 (by decide) ?_
  refine lv_iadd hx hb d_lw_law_507 ?_
  refine va_sld hx hb hX hbl hbA hS (lw_in (1 : Int32) hL h0 h1 (by decide) (by decide)) d_lw_law_508 ?_
  have hPc : va_P (kD K) vwCl (wM K Mh Ma0 Ma1 Ma2 Ma3 Ma4 Ma5 M_board M_text M_moves M_signs M_newBoard M_out M_thrown M_side M_rights M_passant M_clock M_number M_size M_told M_at M_newSide M_newRights M_newPassant M_newClock M_newNumber M_outs) _ := hP.sub [14, 15, 16, 17, 18, 19, 20] rfl
  have hDc : va_D (nA s) (wM K Mh Ma0 Ma1 Ma2 Ma3 Ma4 Ma5 M_board M_text M_moves M_signs M_newBoard M_out M_thrown M_side M_rights M_passant M_clock M_number M_size M_told M_at M_newSide M_newRights M_newPassant M_newClock M_newNumber M_outs) := hD.sub [14, 15, 16, 17, 18, 19, 20] (by decide) rfl
  have hFc := va_free (wc := wM K Mh Ma0 Ma1 Ma2 Ma3 Ma4 Ma5 M_board M_text M_moves M_signs M_newBoard M_out M_thrown M_side M_rights M_passant M_clock M_number M_size M_told M_at M_newSide M_newRights M_newPassant M_newClock M_newNumber M_outs) hD hS hA [14, 15, 16, 17, 18, 19, 20] rfl
  refine va_calli (va_runV (As := [.int (xs (i + (1 : Int32)).toNatClampNeg)]) (rest := []) ⟨hx, hb, hml, hown, htg⟩ (c_md_spell l K _ Mh Ma0 Ma1 Ma2 Ma3 Ma4 Ma5 M_board M_text M_moves M_signs M_newBoard M_out M_thrown M_side M_rights M_passant M_clock M_number M_size M_told M_at M_newSide M_newRights M_newPassant M_newClock M_newNumber M_outs (xs (i + (1 : Int32)).toNatClampNeg)) (cwV 1 htg (g_V q_1003 q_1004 q_1005 q_7 (g_w q_1006)) rfl rfl rfl ⟨rfl, k_md_spell⟩ ⟨Nat.le_of_ble_eq_true rfl, Nat.le_of_ble_eq_true rfl⟩) ⟨mu_blind, va_recv hK hPc (ci := 6) (q0 := 0) rfl rfl, mu_use hPc hK hDc hG hS hFc ⟨RT.hi, trivial⟩⟩ rfl rfl hl.1 rfl (lv_room (Nat.le_of_ble_eq_true rfl)) d_lw_law_509 ⟨by omega, by omega⟩) hS (fun q _ h => hFc q h) hFc (fun r_2 u_2 t H1 locs1 ht hvm hw_2 hB hz1 hk1 hS => ?_)
  obtain ⟨hP1, hD1⟩ := hB
  rw [ht] at hP1
  obtain ⟨hP, hD⟩ := va_join (wr := wG K Gh lnh lna0 u_1.1 trh tra0 tr rdh rd tdh tda0 tda1 td fmh fm psh psa0 ps sph spa0 sp ++ [wO K oh u_1.2]) (w1 := wM K Mh Ma0 Ma1 Ma2 Ma3 Ma4 Ma5 M_board u_2.2.1 M_moves M_signs M_newBoard u_2.2.2.2.1 u_2.1 M_side M_rights M_passant M_clock M_number u_2.2.2.1 M_told M_at M_newSide M_newRights M_newPassant M_newClock M_newNumber u_2.2.2.2.2) hP hD [14, 15, 16, 17, 18, 19, 20] [0, 1, 2, 3, 4, 5, 6, 7, 8, 9, 10, 11, 12, 13, 21] rfl rfl (by decide) (by decide) hk1 hFc hP1 hD1
  have hP : va_P (kD K) vwCl (wG K Gh lnh lna0 u_1.1 trh tra0 tr rdh rd tdh tda0 tda1 td fmh fm psh psa0 ps sph spa0 sp ++ wM K Mh Ma0 Ma1 Ma2 Ma3 Ma4 Ma5 M_board u_2.2.1 M_moves M_signs M_newBoard u_2.2.2.2.1 u_2.1 M_side M_rights M_passant M_clock M_number u_2.2.2.1 M_told M_at M_newSide M_newRights M_newPassant M_newClock M_newNumber u_2.2.2.2.2 ++ [wO K oh u_1.2]) H1 := hP.sub [0, 1, 2, 3, 4, 5, 6, 7, 8, 9, 10, 11, 12, 13, 15, 16, 17, 18, 19, 20, 21, 14] rfl
  have hD : va_D (nA s) (wG K Gh lnh lna0 u_1.1 trh tra0 tr rdh rd tdh tda0 tda1 td fmh fm psh psa0 ps sph spa0 sp ++ wM K Mh Ma0 Ma1 Ma2 Ma3 Ma4 Ma5 M_board u_2.2.1 M_moves M_signs M_newBoard u_2.2.2.2.1 u_2.1 M_side M_rights M_passant M_clock M_number u_2.2.2.1 M_told M_at M_newSide M_newRights M_newPassant M_newClock M_newNumber u_2.2.2.2.2 ++ [wO K oh u_1.2]) := hD.sub [0, 1, 2, 3, 4, 5, 6, 7, 8, 9, 10, 11, 12, 13, 15, 16, 17, 18, 19, 20, 21, 14] (by decide) rfl
  clear hP1 hD1 hPc hDc hFc hk1 hz1 ht hvm
  generalize H1 = H at hP hS ⊢
  refine lv_istore (lv' := [(6, .int r_2), (5, .int r_1), (4, .int i), (0, .ref b), (1, .ref Gh), (2, .ref Mh), (3, .ref oh)]) hx hb d_lw_law_512 hl (by decide) rfl (fun ls hl => ?_)
  refine lv_aload_n hx hb d_lw_law_514 rfl (lv_at hl 5 rfl) ?_
  have hPc : va_P (kD K) vwCl (wM K Mh Ma0 Ma1 Ma2 Ma3 Ma4 Ma5 M_board u_2.2.1 M_moves M_signs M_newBoard u_2.2.2.2.1 u_2.1 M_side M_rights M_passant M_clock M_number u_2.2.2.1 M_told M_at M_newSide M_newRights M_newPassant M_newClock M_newNumber u_2.2.2.2.2) _ := hP.sub [14, 15, 16, 17, 18, 19, 20] rfl
  refine vp_callSi (va_Run.run (va_runV (As := []) (rest := []) ⟨hx, hb, hml, hown, htg⟩ (c_md_thrown l K Mh Ma0 Ma1 Ma2 Ma3 Ma4 Ma5 M_board u_2.2.1 M_moves M_signs M_newBoard u_2.2.2.2.1 u_2.1 M_side M_rights M_passant M_clock M_number u_2.2.2.1 M_told M_at M_newSide M_newRights M_newPassant M_newClock M_newNumber u_2.2.2.2.2) (cwV 0 htg (g_V q_858 q_859 q_860 q_7 (g_w q_861)) rfl rfl rfl ⟨rfl, k_md_thrown⟩ ⟨Nat.le_of_ble_eq_true rfl, Nat.le_of_ble_eq_true rfl⟩) ⟨ro_blind, va_recv hK hPc (ci := 6) (q0 := 0) rfl rfl, ro_use hPc hK hG hS trivial⟩ rfl rfl hl.1 rfl (lv_room (Nat.le_of_ble_eq_true rfl)) d_lw_law_515 ⟨by omega, by omega⟩)) (fun r_3 hw_3 => ?_)
  have h3 : u_2.1 = r_3 := hw_3.1
  have hl5 : lv_has ls 7 (lvL b Gh Mh oh i) := lv_sub hl [2, 3, 4, 5, 6] rfl
  have PU := pu_p_spell (ln := ln) (tr := tr) (rd := rd) (td := td) (fm := fm) (ps := ps) (sp := sp) RL RP RT (show f_md_spell M_board M_text M_moves M_signs M_out M_size M_told M_outs (xs (i + (1 : Int32)).toNatClampNeg) = (r_2, u_2.1, u_2.2.1, u_2.2.2.1, u_2.2.2.2.1, u_2.2.2.2.2) from hw_2.1)
  have RLn : pu_RL u_1.1 u_2.2.1 u_2.2.2.1 := by
    rcases hw_1.1 with ⟨g1, g2, g3⟩ | ⟨g1, g2, q, g3, g4⟩ <;> rcases PU with ⟨k1, k2, k3, k4⟩ | ⟨k1, k2, k3⟩
    · rw [g3, k3, k4]; exact RL
    · exact absurd g1 k1
    · exact absurd k1 g1
    · exact (k3 g3).2
  have stop : W p l e room_1 s m #[Value.ref b] below meth c H _ (C + 1) (S + 6) (lw_Z below #[Value.ref b] s) (F0 m 542 ls []) := lv_goto (tgt := 583) hx hb d_lw_law_542 (by decide) (N _ _ _ _ _ _ _ _ _ _ _ _ _ _ _ _ _ _ _ _ _ _ _ _ _ _ _ _ _ _ _ _ _ _ _ _ _ _ _ _ _ _ _ _ _ _ _ _ _ _ _ ⟨hP, hD, hS, hw_1.2, ok_tr, ok_td, RLn, RP, RT⟩ hl5)
  have key : r_3 = r_1 ∧ (r_1 = 0 → u_1.2 0 = r_2.toInt64) := by
    rcases hw_1.1 with ⟨g1, g2, g3⟩ | ⟨g1, g2, q, g3, g4⟩ <;> rcases PU with ⟨k1, k2, k3, k4⟩ | ⟨k1, k2, k3⟩
    · exact ⟨by rw [← h3, k2, g2], fun q => by rw [g2] at q; exact absurd q (by decide)⟩
    · exact absurd g1 k1
    · exact absurd k1 g1
    · exact ⟨by rw [← h3, k2, g2], fun _ => by rw [g4, (k3 g3).1]⟩
  refine lv_iload hx hb d_lw_law_518 (lv_at hl 1 rfl) ?_
  refine lv_icmp_eq (tgt := 525) hx hb d_lw_law_520 (by decide) (fun c_8 => ?_) (fun c_8 => absurd key.1 c_8)
  refine lv_iload hx hb d_lw_law_525 (lv_at hl 1 rfl) ?_
  refine lv_if_ne (tgt := 542) hx hb d_lw_law_527 (by decide) (fun c_9 => stop) (fun c_9 => ?_)
  refine lv_aload_n hx hb d_lw_law_530 rfl (lv_at hl 6 rfl) ?_
  refine lv_iconst (v := 0) hx hb d_lw_law_531 (by decide) ?_
  refine va_lald hx hb hK hP 21 2 rfl rfl (vp_in_iff.mpr ⟨by decide, by decide⟩) d_lw_law_532 ?_
  have e0 : u_1.2 (0 : Int32).toNatClampNeg = _ := key.2 c_9
  rw [e0]
  refine lv_iload hx hb d_lw_law_533 (lv_at hl 0 rfl) ?_
  refine lv_i2l hx hb d_lw_law_535 rfl ?_
  refine W.lcmp hx hb d_lw_law_536 ?_
  refine lv_if_eq (tgt := 542) hx hb d_lw_law_537 (by decide) (fun _ => stop) (fun c_6 => absurd (by simp [lg_cmp]) c_6)
