set_option maxHeartbeats 4000000 in
set_option maxRecDepth 100000 in
theorem lw_case6 {l : Launch} {K : KT} {p : Program} {e : Env} {s : State} {m : MethodId} {below : List Frame} {meth : Method} {c : Code} {b L : Nat} {xs : Nat → Int32} (C0 : LC l K p s m meth c b L xs) {H : Heap} {locs : List Loc} {ls : Array Slot} {C S : Nat} {i : Int32} (h0 : 0 ≤ i.toInt) (h1 : i.toInt + 6 ≤ L) {Gh : Nat} {lnh lna0 : Nat} {ln : LnT} {trh tra0 : Nat} {tr : LnT} {rdh : Nat} {rd : Int32} {tdh tda0 tda1 : Nat} {td : TdT} {fmh : Nat} {fm : FmT} {psh psa0 : Nat} {ps : PsT} {sph spa0 : Nat} {sp : PsT} {Mh Ma0 Ma1 Ma2 Ma3 Ma4 Ma5 : Nat} {M_board : Nat → Int32} {M_text : Nat → Int32} {M_moves : Nat → Int32} {M_signs : Nat → Int32} {M_newBoard : Nat → Int32} {M_out : Nat → Int32} {M_thrown : Int32} {M_side : Int32} {M_rights : Int32} {M_passant : Int32} {M_clock : Int32} {M_number : Int32} {M_size : Int32} {M_told : Int32} {M_at : Int32} {M_newSide : Int32} {M_newRights : Int32} {M_newPassant : Int32} {M_newClock : Int32} {M_newNumber : Int32} {M_outs : Int32} {oh : Nat} {f : Nat → Int64} (I : LI K s H locs Gh lnh lna0 ln trh tra0 tr rdh rd tdh tda0 tda1 td fmh fm psh psa0 ps sph spa0 sp Mh Ma0 Ma1 Ma2 Ma3 Ma4 Ma5 M_board M_text M_moves M_signs M_newBoard M_out M_thrown M_side M_rights M_passant M_clock M_number M_size M_told M_at M_newSide M_newRights M_newPassant M_newClock M_newNumber M_outs oh f) (hl : lv_has ls 7 (lvL b Gh Mh oh i)) (hC : C + 1 ≤ 1048 ∧ S + 6 ≤ 10151) (N : NX K p l e s m below meth c b Gh Mh oh i (C + 1) (S + 6)) : W p l e room_1 s m #[Value.ref b] below meth c H locs C S (lw_Z below #[Value.ref b] s) (F0 m 268 ls []) := by
  obtain ⟨hx, hb, hr, hml, hown, htg, hX, hbl, hlocks, hK, hG, hTh, hfl, hL⟩ := C0
  obtain ⟨hP, hD, hS, ok_ln, ok_tr, ok_td, RL, RP, RT⟩ := I
  have hbA : ¬ nA s b := fun q => absurd q (Nat.not_le.mpr hbl)
  have hA : ∀ q : Nat, s.heap.size ≤ q → nA s q := fun q h => h
  have rc : room_1.cells = 1048 := rfl
  have rs : room_1.slots = 10151 := rfl
  refine lv_aload_n hx hb d_lw_law_268 rfl (lv_at hl 2 rfl) ?_
  refine lv_aload_n hx hb d_lw_law_269 rfl (lv_at hl 1 rfl) ?_
  refine lv_iload hx hb d_lw_law_270 (lv_at hl 0 rfl) ?_
  refine lv_iconst (v := 1) hx hb d_lw_law_272 (by decide) ?_
  refine lv_iadd hx hb d_lw_law_273 ?_
  refine va_sld hx hb hX hbl hbA hS (lw_in (1 : Int32) hL h0 h1 (by decide) (by decide)) d_lw_law_274 ?_
  refine lv_aload_n hx hb d_lw_law_275 rfl (lv_at hl 1 rfl) ?_
  refine lv_iload hx hb d_lw_law_276 (lv_at hl 0 rfl) ?_
  refine lv_iconst (v := 2) hx hb d_lw_law_278 (by decide) ?_
  refine lv_iadd hx hb d_lw_law_279 ?_
  refine va_sld hx hb hX hbl hbA hS (lw_in (2 : Int32) hL h0 h1 (by decide) (by decide)) d_lw_law_280 ?_
  refine lv_aload_n hx hb d_lw_law_281 rfl (lv_at hl 1 rfl) ?_
  refine lv_iload hx hb d_lw_law_282 (lv_at hl 0 rfl) ?_
  refine lv_iconst (v := 3) hx hb d_lw_law_284 (by decide) ?_
  refine lv_iadd hx hb d_lw_law_285 ?_
  refine va_sld hx hb hX hbl hbA hS (lw_in (3 : Int32) hL h0 h1 (by decide) (by decide)) d_lw_law_286 ?_
  refine lv_aload_n hx hb d_lw_law_287 rfl (lv_at hl 1 rfl) ?_
  refine lv_iload hx hb d_lw_law_288 (lv_at hl 0 rfl) ?_
  refine lv_iconst (v := 4) hx hb d_lw_law_290 (by decide) ?_
  refine lv_iadd hx hb d_lw_law_291 ?_
  refine va_sld hx hb hX hbl hbA hS (lw_in (4 : Int32) hL h0 h1 (by decide) (by decide)) d_lw_law_292 ?_
  refine lv_aload_n hx hb d_lw_law_293 rfl (lv_at hl 1 rfl) ?_
  refine lv_iload hx hb d_lw_law_294 (lv_at hl 0 rfl) ?_
  refine lv_iconst (v := 5) hx hb d_lw_law_296 (by decide) ?_
  refine lv_iadd hx hb d_lw_law_297 ?_
  refine va_sld hx hb hX hbl hbA hS (lw_in (5 : Int32) hL h0 h1 (by decide) (by decide)) d_lw_law_298 ?_
  have hPc : va_P (kD K) vwCl (wG K Gh lnh lna0 ln trh tra0 tr rdh rd tdh tda0 tda1 td fmh fm psh psa0 ps sph spa0 sp) _ := hP.sub [0, 1, 2, 3, 4, 5, 6, 7, 8, 9, 10, 11, 12, 13] rfl
  have hDc : va_D (nA s) (wG K Gh lnh lna0 ln trh tra0 tr rdh rd tdh tda0 tda1 td fmh fm psh psa0 ps sph spa0 sp) := hD.sub [0, 1, 2, 3, 4, 5, 6, 7, 8, 9, 10, 11, 12, 13] (by decide) rfl
  have hFc := va_free (wc := wG K Gh lnh lna0 ln trh tra0 tr rdh rd tdh tda0 tda1 td fmh fm psh psa0 ps sph spa0 sp) hD hS hA [0, 1, 2, 3, 4, 5, 6, 7, 8, 9, 10, 11, 12, 13] rfl
  refine va_calli (va_runV (As := [.int (xs (i + (1 : Int32)).toNatClampNeg), .int (xs (i + (2 : Int32)).toNatClampNeg), .int (xs (i + (3 : Int32)).toNatClampNeg), .int (xs (i + (4 : Int32)).toNatClampNeg), .int (xs (i + (5 : Int32)).toNatClampNeg)]) (rest := []) ⟨hx, hb, hml, hown, htg⟩ (c_gn_state l K _ Gh ((xs (i + (1 : Int32)).toNatClampNeg)) ((xs (i + (2 : Int32)).toNatClampNeg)) ((xs (i + (3 : Int32)).toNatClampNeg)) ((xs (i + (4 : Int32)).toNatClampNeg)) ((xs (i + (5 : Int32)).toNatClampNeg)) lnh lna0 ln trh tra0 tr rdh rd tdh tda0 tda1 td fmh fm psh psa0 ps sph spa0 sp) (cwV 5 htg (g_V q_496 q_497 q_498 q_1 (g_w q_499)) rfl rfl rfl ⟨rfl, k_gn_state⟩ ⟨Nat.le_of_ble_eq_true rfl, Nat.le_of_ble_eq_true rfl⟩) ⟨mu_blind, va_recv hK hPc (ci := 5) (q0 := 0) rfl rfl, mu_use hPc hK hDc hG hS hFc ⟨ok_ln, ok_tr, ok_td, trivial⟩⟩ rfl rfl hl.1 rfl (lv_room (Nat.le_of_ble_eq_true rfl)) d_lw_law_299 ⟨by omega, by omega⟩) hS (fun q _ h => hFc q h) hFc (fun r_1 u_1 t H1 locs1 ht hvm hw_1 hB hz1 hk1 hS => ?_)
  obtain ⟨hP1, hD1⟩ := hB
  rw [ht] at hP1
  obtain ⟨hP, hD⟩ := va_join (wr := wM K Mh Ma0 Ma1 Ma2 Ma3 Ma4 Ma5 M_board M_text M_moves M_signs M_newBoard M_out M_thrown M_side M_rights M_passant M_clock M_number M_size M_told M_at M_newSide M_newRights M_newPassant M_newClock M_newNumber M_outs ++ [wO K oh f]) (w1 := wG K Gh lnh lna0 ln trh tra0 tr rdh rd tdh tda0 tda1 td fmh fm psh psa0 u_1 sph spa0 sp) hP hD [0, 1, 2, 3, 4, 5, 6, 7, 8, 9, 10, 11, 12, 13] [14, 15, 16, 17, 18, 19, 20, 21] rfl rfl (by decide) (by decide) hk1 hFc hP1 hD1
  have hP : va_P (kD K) vwCl (wG K Gh lnh lna0 ln trh tra0 tr rdh rd tdh tda0 tda1 td fmh fm psh psa0 u_1 sph spa0 sp ++ wM K Mh Ma0 Ma1 Ma2 Ma3 Ma4 Ma5 M_board M_text M_moves M_signs M_newBoard M_out M_thrown M_side M_rights M_passant M_clock M_number M_size M_told M_at M_newSide M_newRights M_newPassant M_newClock M_newNumber M_outs ++ [wO K oh f]) H1 := hP.sub [8, 9, 10, 11, 12, 13, 14, 15, 16, 17, 18, 19, 20, 21, 0, 1, 2, 3, 4, 5, 6, 7] rfl
  have hD : va_D (nA s) (wG K Gh lnh lna0 ln trh tra0 tr rdh rd tdh tda0 tda1 td fmh fm psh psa0 u_1 sph spa0 sp ++ wM K Mh Ma0 Ma1 Ma2 Ma3 Ma4 Ma5 M_board M_text M_moves M_signs M_newBoard M_out M_thrown M_side M_rights M_passant M_clock M_number M_size M_told M_at M_newSide M_newRights M_newPassant M_newClock M_newNumber M_outs ++ [wO K oh f]) := hD.sub [8, 9, 10, 11, 12, 13, 14, 15, 16, 17, 18, 19, 20, 21, 0, 1, 2, 3, 4, 5, 6, 7] (by decide) rfl
  clear hP1 hD1 hPc hDc hFc hk1 hz1 ht hvm
  generalize H1 = H at hP hS ⊢
  refine lv_aload_n hx hb d_lw_law_302 rfl (lv_at hl 3 rfl) ?_
  refine lv_aload_n hx hb d_lw_law_303 rfl (lv_at hl 1 rfl) ?_
  refine lv_iload hx hb d_lw_law_304 (lv_at hl 0 rfl) ?_
  refine lv_iconst (v := 1) hx hb d_lw_law_306 (by decide) ?_
  refine lv_iadd hx hb d_lw_law_307 ?_
  refine va_sld hx hb hX hbl hbA hS (lw_in (1 : Int32) hL h0 h1 (by decide) (by decide)) d_lw_law_308 ?_
  refine lv_aload_n hx hb d_lw_law_309 rfl (lv_at hl 1 rfl) ?_
  refine lv_iload hx hb d_lw_law_310 (lv_at hl 0 rfl) ?_
  refine lv_iconst (v := 2) hx hb d_lw_law_312 (by decide) ?_
  refine lv_iadd hx hb d_lw_law_313 ?_
  refine va_sld hx hb hX hbl hbA hS (lw_in (2 : Int32) hL h0 h1 (by decide) (by decide)) d_lw_law_314 ?_
  refine lv_aload_n hx hb d_lw_law_315 rfl (lv_at hl 1 rfl) ?_
  refine lv_iload hx hb d_lw_law_316 (lv_at hl 0 rfl) ?_
  refine lv_iconst (v := 3) hx hb d_lw_law_318 (by decide) ?_
  refine lv_iadd hx hb d_lw_law_319 ?_
  refine va_sld hx hb hX hbl hbA hS (lw_in (3 : Int32) hL h0 h1 (by decide) (by decide)) d_lw_law_320 ?_
  refine lv_aload_n hx hb d_lw_law_321 rfl (lv_at hl 1 rfl) ?_
  refine lv_iload hx hb d_lw_law_322 (lv_at hl 0 rfl) ?_
  refine lv_iconst (v := 4) hx hb d_lw_law_324 (by decide) ?_
  refine lv_iadd hx hb d_lw_law_325 ?_
  refine va_sld hx hb hX hbl hbA hS (lw_in (4 : Int32) hL h0 h1 (by decide) (by decide)) d_lw_law_326 ?_
  refine lv_aload_n hx hb d_lw_law_327 rfl (lv_at hl 1 rfl) ?_
  refine lv_iload hx hb d_lw_law_328 (lv_at hl 0 rfl) ?_
  refine lv_iconst (v := 5) hx hb d_lw_law_330 (by decide) ?_
  refine lv_iadd hx hb d_lw_law_331 ?_
  refine va_sld hx hb hX hbl hbA hS (lw_in (5 : Int32) hL h0 h1 (by decide) (by decide)) d_lw_law_332 ?_
  have hPc : va_P (kD K) vwCl (wM K Mh Ma0 Ma1 Ma2 Ma3 Ma4 Ma5 M_board M_text M_moves M_signs M_newBoard M_out M_thrown M_side M_rights M_passant M_clock M_number M_size M_told M_at M_newSide M_newRights M_newPassant M_newClock M_newNumber M_outs) _ := hP.sub [14, 15, 16, 17, 18, 19, 20] rfl
  have hDc : va_D (nA s) (wM K Mh Ma0 Ma1 Ma2 Ma3 Ma4 Ma5 M_board M_text M_moves M_signs M_newBoard M_out M_thrown M_side M_rights M_passant M_clock M_number M_size M_told M_at M_newSide M_newRights M_newPassant M_newClock M_newNumber M_outs) := hD.sub [14, 15, 16, 17, 18, 19, 20] (by decide) rfl
  have hFc := va_free (wc := wM K Mh Ma0 Ma1 Ma2 Ma3 Ma4 Ma5 M_board M_text M_moves M_signs M_newBoard M_out M_thrown M_side M_rights M_passant M_clock M_number M_size M_told M_at M_newSide M_newRights M_newPassant M_newClock M_newNumber M_outs) hD hS hA [14, 15, 16, 17, 18, 19, 20] rfl
  refine va_calli (va_runV (As := [.int (xs (i + (1 : Int32)).toNatClampNeg), .int (xs (i + (2 : Int32)).toNatClampNeg), .int (xs (i + (3 : Int32)).toNatClampNeg), .int (xs (i + (4 : Int32)).toNatClampNeg), .int (xs (i + (5 : Int32)).toNatClampNeg)]) (rest := [.int r_1]) ⟨hx, hb, hml, hown, htg⟩ (c_md_state l K _ Mh Ma0 Ma1 Ma2 Ma3 Ma4 Ma5 M_board M_text M_moves M_signs M_newBoard M_out M_thrown M_side M_rights M_passant M_clock M_number M_size M_told M_at M_newSide M_newRights M_newPassant M_newClock M_newNumber M_outs ((xs (i + (1 : Int32)).toNatClampNeg)) ((xs (i + (2 : Int32)).toNatClampNeg)) ((xs (i + (3 : Int32)).toNatClampNeg)) ((xs (i + (4 : Int32)).toNatClampNeg)) ((xs (i + (5 : Int32)).toNatClampNeg))) (cwV 5 htg (g_V q_969 q_970 q_971 q_7 (g_w q_972)) rfl rfl rfl ⟨rfl, k_md_state⟩ ⟨Nat.le_of_ble_eq_true rfl, Nat.le_of_ble_eq_true rfl⟩) ⟨mu_blind, va_recv hK hPc (ci := 6) (q0 := 0) rfl rfl, mu_use hPc hK hDc hG hS hFc trivial⟩ rfl rfl hl.1 rfl (lv_room (Nat.le_of_ble_eq_true rfl)) d_lw_law_333 ⟨by omega, by omega⟩) hS (fun q _ h => hFc q h) hFc (fun r_2 u_2 t H1 locs1 ht hvm hw_2 hB hz1 hk1 hS => ?_)
  obtain ⟨hP1, hD1⟩ := hB
  rw [ht] at hP1
  obtain ⟨hP, hD⟩ := va_join (wr := wG K Gh lnh lna0 ln trh tra0 tr rdh rd tdh tda0 tda1 td fmh fm psh psa0 u_1 sph spa0 sp ++ [wO K oh f]) (w1 := wM K Mh Ma0 Ma1 Ma2 Ma3 Ma4 Ma5 M_board M_text M_moves M_signs M_newBoard M_out u_2.1 u_2.2.1 u_2.2.2.1 u_2.2.2.2.1 u_2.2.2.2.2.1 u_2.2.2.2.2.2 M_size M_told M_at M_newSide M_newRights M_newPassant M_newClock M_newNumber M_outs) hP hD [14, 15, 16, 17, 18, 19, 20] [0, 1, 2, 3, 4, 5, 6, 7, 8, 9, 10, 11, 12, 13, 21] rfl rfl (by decide) (by decide) hk1 hFc hP1 hD1
  have hP : va_P (kD K) vwCl (wG K Gh lnh lna0 ln trh tra0 tr rdh rd tdh tda0 tda1 td fmh fm psh psa0 u_1 sph spa0 sp ++ wM K Mh Ma0 Ma1 Ma2 Ma3 Ma4 Ma5 M_board M_text M_moves M_signs M_newBoard M_out u_2.1 u_2.2.1 u_2.2.2.1 u_2.2.2.2.1 u_2.2.2.2.2.1 u_2.2.2.2.2.2 M_size M_told M_at M_newSide M_newRights M_newPassant M_newClock M_newNumber M_outs ++ [wO K oh f]) H1 := hP.sub [0, 1, 2, 3, 4, 5, 6, 7, 8, 9, 10, 11, 12, 13, 15, 16, 17, 18, 19, 20, 21, 14] rfl
  have hD : va_D (nA s) (wG K Gh lnh lna0 ln trh tra0 tr rdh rd tdh tda0 tda1 td fmh fm psh psa0 u_1 sph spa0 sp ++ wM K Mh Ma0 Ma1 Ma2 Ma3 Ma4 Ma5 M_board M_text M_moves M_signs M_newBoard M_out u_2.1 u_2.2.1 u_2.2.2.1 u_2.2.2.2.1 u_2.2.2.2.2.1 u_2.2.2.2.2.2 M_size M_told M_at M_newSide M_newRights M_newPassant M_newClock M_newNumber M_outs ++ [wO K oh f]) := hD.sub [0, 1, 2, 3, 4, 5, 6, 7, 8, 9, 10, 11, 12, 13, 15, 16, 17, 18, 19, 20, 21, 14] (by decide) rfl
  clear hP1 hD1 hPc hDc hFc hk1 hz1 ht hvm
  generalize H1 = H at hP hS ⊢
  obtain ⟨hq, RP2⟩ := pu_p_state RP hw_1.1 hw_2.1
  refine lv_icmp_eq (tgt := 583) hx hb d_lw_law_336 (by decide) (fun c_9 => ?_) (fun c_9 => ?_)
  · exact (W.widen (k := C + 1) (n := S + 6) (by omega) (by omega) (N _ _ _ _ _ _ _ _ _ _ _ _ _ _ _ _ _ _ _ _ _ _ _ _ _ _ _ _ _ _ _ _ _ _ _ _ _ _ _ _ _ _ _ _ _ _ _ _ _ _ _ ⟨hP, hD, hS, ok_ln, ok_tr, ok_td, RL, RP2, RT⟩ hl))
  · exact absurd (hq) c_9
set_option maxHeartbeats 4000000 in
set_option maxRecDepth 100000 in
theorem lw_case7 {l : Launch} {K : KT} {p : Program} {e : Env} {s : State} {m : MethodId} {below : List Frame} {meth : Method} {c : Code} {b L : Nat} {xs : Nat → Int32} (C0 : LC l K p s m meth c b L xs) {H : Heap} {locs : List Loc} {ls : Array Slot} {C S : Nat} {i : Int32} (h0 : 0 ≤ i.toInt) (h1 : i.toInt + 6 ≤ L) {Gh : Nat} {lnh lna0 : Nat} {ln : LnT} {trh tra0 : Nat} {tr : LnT} {rdh : Nat} {rd : Int32} {tdh tda0 tda1 : Nat} {td : TdT} {fmh : Nat} {fm : FmT} {psh psa0 : Nat} {ps : PsT} {sph spa0 : Nat} {sp : PsT} {Mh Ma0 Ma1 Ma2 Ma3 Ma4 Ma5 : Nat} {M_board : Nat → Int32} {M_text : Nat → Int32} {M_moves : Nat → Int32} {M_signs : Nat → Int32} {M_newBoard : Nat → Int32} {M_out : Nat → Int32} {M_thrown : Int32} {M_side : Int32} {M_rights : Int32} {M_passant : Int32} {M_clock : Int32} {M_number : Int32} {M_size : Int32} {M_told : Int32} {M_at : Int32} {M_newSide : Int32} {M_newRights : Int32} {M_newPassant : Int32} {M_newClock : Int32} {M_newNumber : Int32} {M_outs : Int32} {oh : Nat} {f : Nat → Int64} (I : LI K s H locs Gh lnh lna0 ln trh tra0 tr rdh rd tdh tda0 tda1 td fmh fm psh psa0 ps sph spa0 sp Mh Ma0 Ma1 Ma2 Ma3 Ma4 Ma5 M_board M_text M_moves M_signs M_newBoard M_out M_thrown M_side M_rights M_passant M_clock M_number M_size M_told M_at M_newSide M_newRights M_newPassant M_newClock M_newNumber M_outs oh f) (hl : lv_has ls 7 (lvL b Gh Mh oh i)) (hC : C + 1 ≤ 1048 ∧ S + 6 ≤ 10151) (N : NX K p l e s m below meth c b Gh Mh oh i (C + 1) (S + 6)) : W p l e room_1 s m #[Value.ref b] below meth c H locs C S (lw_Z below #[Value.ref b] s) (F0 m 341 ls []) := by
  obtain ⟨hx, hb, hr, hml, hown, htg, hX, hbl, hlocks, hK, hG, hTh, hfl, hL⟩ := C0
  obtain ⟨hP, hD, hS, ok_ln, ok_tr, ok_td, RL, RP, RT⟩ := I
  have hbA : ¬ nA s b := fun q => absurd q (Nat.not_le.mpr hbl)
  have hA : ∀ q : Nat, s.heap.size ≤ q → nA s q := fun q h => h
  have rc : room_1.cells = 1048 := rfl
  have rs : room_1.slots = 10151 := rfl
  refine lv_aload_n hx hb d_lw_law_341 rfl (lv_at hl 2 rfl) ?_
  refine lv_aload_n hx hb d_lw_law_342 rfl (lv_at hl 1 rfl) ?_
  refine lv_iload hx hb d_lw_law_343 (lv_at hl 0 rfl) ?_
  refine lv_iconst (v := 1) hx hb d_lw_law_345 (by decide) ?_
  refine lv_iadd hx hb d_lw_law_346 ?_
  refine va_sld hx hb hX hbl hbA hS (lw_in (1 : Int32) hL h0 h1 (by decide) (by decide)) d_lw_law_347 ?_
  have hPc : va_P (kD K) vwCl (wG K Gh lnh lna0 ln trh tra0 tr rdh rd tdh tda0 tda1 td fmh fm psh psa0 ps sph spa0 sp) _ := hP.sub [0, 1, 2, 3, 4, 5, 6, 7, 8, 9, 10, 11, 12, 13] rfl
  refine vp_callSi (va_Run.run (va_runV (As := [.int (xs (i + (1 : Int32)).toNatClampNeg)]) (rest := []) ⟨hx, hb, hml, hown, htg⟩ (c_gn_at l K Gh ((xs (i + (1 : Int32)).toNatClampNeg)) lnh lna0 ln trh tra0 tr rdh rd tdh tda0 tda1 td fmh fm psh psa0 ps sph spa0 sp) (cwV 1 htg (g_V q_503 q_504 q_505 q_1 (g_w q_506)) rfl rfl rfl ⟨rfl, k_gn_at⟩ ⟨Nat.le_of_ble_eq_true rfl, Nat.le_of_ble_eq_true rfl⟩) ⟨ro_blind, va_recv hK hPc (ci := 5) (q0 := 0) rfl rfl, ro_use hPc hK hG hS ⟨ok_ln, ok_tr, ok_td, trivial⟩⟩ rfl rfl hl.1 rfl (lv_room (Nat.le_of_ble_eq_true rfl)) d_lw_law_348 ⟨by omega, by omega⟩)) (fun r_1 hw_1 => ?_)
  refine lv_aload_n hx hb d_lw_law_351 rfl (lv_at hl 3 rfl) ?_
  refine lv_aload_n hx hb d_lw_law_352 rfl (lv_at hl 1 rfl) ?_
  refine lv_iload hx hb d_lw_law_353 (lv_at hl 0 rfl) ?_
  refine lv_iconst (v := 1) hx hb d_lw_law_355 (by decide) ?_
  refine lv_iadd hx hb d_lw_law_356 ?_
  refine va_sld hx hb hX hbl hbA hS (lw_in (1 : Int32) hL h0 h1 (by decide) (by decide)) d_lw_law_357 ?_
  have hPc : va_P (kD K) vwCl (wM K Mh Ma0 Ma1 Ma2 Ma3 Ma4 Ma5 M_board M_text M_moves M_signs M_newBoard M_out M_thrown M_side M_rights M_passant M_clock M_number M_size M_told M_at M_newSide M_newRights M_newPassant M_newClock M_newNumber M_outs) _ := hP.sub [14, 15, 16, 17, 18, 19, 20] rfl
  have hDc : va_D (nA s) (wM K Mh Ma0 Ma1 Ma2 Ma3 Ma4 Ma5 M_board M_text M_moves M_signs M_newBoard M_out M_thrown M_side M_rights M_passant M_clock M_number M_size M_told M_at M_newSide M_newRights M_newPassant M_newClock M_newNumber M_outs) := hD.sub [14, 15, 16, 17, 18, 19, 20] (by decide) rfl
  have hFc := va_free (wc := wM K Mh Ma0 Ma1 Ma2 Ma3 Ma4 Ma5 M_board M_text M_moves M_signs M_newBoard M_out M_thrown M_side M_rights M_passant M_clock M_number M_size M_told M_at M_newSide M_newRights M_newPassant M_newClock M_newNumber M_outs) hD hS hA [14, 15, 16, 17, 18, 19, 20] rfl
  refine va_calli (va_runV (As := [.int (xs (i + (1 : Int32)).toNatClampNeg)]) (rest := [.int r_1]) ⟨hx, hb, hml, hown, htg⟩ (c_md_at l K _ Mh Ma0 Ma1 Ma2 Ma3 Ma4 Ma5 M_board M_text M_moves M_signs M_newBoard M_out M_thrown M_side M_rights M_passant M_clock M_number M_size M_told M_at M_newSide M_newRights M_newPassant M_newClock M_newNumber M_outs ((xs (i + (1 : Int32)).toNatClampNeg))) (cwV 1 htg (g_V q_973 q_974 q_975 q_7 (g_w q_976)) rfl rfl rfl ⟨rfl, k_md_at⟩ ⟨Nat.le_of_ble_eq_true rfl, Nat.le_of_ble_eq_true rfl⟩) ⟨mu_blind, va_recv hK hPc (ci := 6) (q0 := 0) rfl rfl, mu_use hPc hK hDc hG hS hFc trivial⟩ rfl rfl hl.1 rfl (lv_room (Nat.le_of_ble_eq_true rfl)) d_lw_law_358 ⟨by omega, by omega⟩) hS (fun q _ h => hFc q h) hFc (fun r_2 u_2 t H1 locs1 ht hvm hw_2 hB hz1 hk1 hS => ?_)
  obtain ⟨hP1, hD1⟩ := hB
  rw [ht] at hP1
  obtain ⟨hP, hD⟩ := va_join (wr := wG K Gh lnh lna0 ln trh tra0 tr rdh rd tdh tda0 tda1 td fmh fm psh psa0 ps sph spa0 sp ++ [wO K oh f]) (w1 := wM K Mh Ma0 Ma1 Ma2 Ma3 Ma4 Ma5 M_board M_text M_moves M_signs M_newBoard M_out u_2 M_side M_rights M_passant M_clock M_number M_size M_told M_at M_newSide M_newRights M_newPassant M_newClock M_newNumber M_outs) hP hD [14, 15, 16, 17, 18, 19, 20] [0, 1, 2, 3, 4, 5, 6, 7, 8, 9, 10, 11, 12, 13, 21] rfl rfl (by decide) (by decide) hk1 hFc hP1 hD1
  have hP : va_P (kD K) vwCl (wG K Gh lnh lna0 ln trh tra0 tr rdh rd tdh tda0 tda1 td fmh fm psh psa0 ps sph spa0 sp ++ wM K Mh Ma0 Ma1 Ma2 Ma3 Ma4 Ma5 M_board M_text M_moves M_signs M_newBoard M_out u_2 M_side M_rights M_passant M_clock M_number M_size M_told M_at M_newSide M_newRights M_newPassant M_newClock M_newNumber M_outs ++ [wO K oh f]) H1 := hP.sub [0, 1, 2, 3, 4, 5, 6, 7, 8, 9, 10, 11, 12, 13, 15, 16, 17, 18, 19, 20, 21, 14] rfl
  have hD : va_D (nA s) (wG K Gh lnh lna0 ln trh tra0 tr rdh rd tdh tda0 tda1 td fmh fm psh psa0 ps sph spa0 sp ++ wM K Mh Ma0 Ma1 Ma2 Ma3 Ma4 Ma5 M_board M_text M_moves M_signs M_newBoard M_out u_2 M_side M_rights M_passant M_clock M_number M_size M_told M_at M_newSide M_newRights M_newPassant M_newClock M_newNumber M_outs ++ [wO K oh f]) := hD.sub [0, 1, 2, 3, 4, 5, 6, 7, 8, 9, 10, 11, 12, 13, 15, 16, 17, 18, 19, 20, 21, 14] (by decide) rfl
  clear hP1 hD1 hPc hDc hFc hk1 hz1 ht hvm
  generalize H1 = H at hP hS ⊢
  have hq : r_1 = r_2 := by rw [← hw_1.1, pu_p_at RP, hw_2.1]
  refine lv_icmp_eq (tgt := 583) hx hb d_lw_law_361 (by decide) (fun c_9 => ?_) (fun c_9 => ?_)
  · exact (W.widen (k := C + 1) (n := S + 6) (by omega) (by omega) (N _ _ _ _ _ _ _ _ _ _ _ _ _ _ _ _ _ _ _ _ _ _ _ _ _ _ _ _ _ _ _ _ _ _ _ _ _ _ _ _ _ _ _ _ _ _ _ _ _ _ _ ⟨hP, hD, hS, ok_ln, ok_tr, ok_td, RL, RP, RT⟩ hl))
  · exact absurd (hq) c_9
set_option maxHeartbeats 4000000 in
set_option maxRecDepth 100000 in
theorem lw_case9 {l : Launch} {K : KT} {p : Program} {e : Env} {s : State} {m : MethodId} {below : List Frame} {meth : Method} {c : Code} {b L : Nat} {xs : Nat → Int32} (C0 : LC l K p s m meth c b L xs) {H : Heap} {locs : List Loc} {ls : Array Slot} {C S : Nat} {i : Int32} (h0 : 0 ≤ i.toInt) (h1 : i.toInt + 6 ≤ L) {Gh : Nat} {lnh lna0 : Nat} {ln : LnT} {trh tra0 : Nat} {tr : LnT} {rdh : Nat} {rd : Int32} {tdh tda0 tda1 : Nat} {td : TdT} {fmh : Nat} {fm : FmT} {psh psa0 : Nat} {ps : PsT} {sph spa0 : Nat} {sp : PsT} {Mh Ma0 Ma1 Ma2 Ma3 Ma4 Ma5 : Nat} {M_board : Nat → Int32} {M_text : Nat → Int32} {M_moves : Nat → Int32} {M_signs : Nat → Int32} {M_newBoard : Nat → Int32} {M_out : Nat → Int32} {M_thrown : Int32} {M_side : Int32} {M_rights : Int32} {M_passant : Int32} {M_clock : Int32} {M_number : Int32} {M_size : Int32} {M_told : Int32} {M_at : Int32} {M_newSide : Int32} {M_newRights : Int32} {M_newPassant : Int32} {M_newClock : Int32} {M_newNumber : Int32} {M_outs : Int32} {oh : Nat} {f : Nat → Int64} (I : LI K s H locs Gh lnh lna0 ln trh tra0 tr rdh rd tdh tda0 tda1 td fmh fm psh psa0 ps sph spa0 sp Mh Ma0 Ma1 Ma2 Ma3 Ma4 Ma5 M_board M_text M_moves M_signs M_newBoard M_out M_thrown M_side M_rights M_passant M_clock M_number M_size M_told M_at M_newSide M_newRights M_newPassant M_newClock M_newNumber M_outs oh f) (hl : lv_has ls 7 (lvL b Gh Mh oh i)) (hC : C + 1 ≤ 1048 ∧ S + 6 ≤ 10151) (N : NX K p l e s m below meth c b Gh Mh oh i (C + 1) (S + 6)) : W p l e room_1 s m #[Value.ref b] below meth c H locs C S (lw_Z below #[Value.ref b] s) (F0 m 441 ls []) := by
  obtain ⟨hx, hb, hr, hml, hown, htg, hX, hbl, hlocks, hK, hG, hTh, hfl, hL⟩ := C0
  obtain ⟨hP, hD, hS, ok_ln, ok_tr, ok_td, RL, RP, RT⟩ := I
  have hbA : ¬ nA s b := fun q => absurd q (Nat.not_le.mpr hbl)
  have hA : ∀ q : Nat, s.heap.size ≤ q → nA s q := fun q h => h
  have rc : room_1.cells = 1048 := rfl
  have rs : room_1.slots = 10151 := rfl
  refine lv_aload_n hx hb d_lw_law_441 rfl (lv_at hl 2 rfl) ?_
  refine lv_aload_n hx hb d_lw_law_442 rfl (lv_at hl 1 rfl) ?_
  refine lv_iload hx hb d_lw_law_443 (lv_at hl 0 rfl) ?_
  refine lv_iconst (v := 1) hx hb d_lw_law_445 (by decide) ?_
  refine lv_iadd hx hb d_lw_law_446 ?_
  refine va_sld hx hb hX hbl hbA hS (lw_in (1 : Int32) hL h0 h1 (by decide) (by decide)) d_lw_law_447 ?_
  refine lv_aload_n hx hb d_lw_law_448 rfl (lv_at hl 1 rfl) ?_
  refine lv_iload hx hb d_lw_law_449 (lv_at hl 0 rfl) ?_
  refine lv_iconst (v := 2) hx hb d_lw_law_451 (by decide) ?_
  refine lv_iadd hx hb d_lw_law_452 ?_
  refine va_sld hx hb hX hbl hbA hS (lw_in (2 : Int32) hL h0 h1 (by decide) (by decide)) d_lw_law_453 ?_
  have hPc : va_P (kD K) vwCl (wG K Gh lnh lna0 ln trh tra0 tr rdh rd tdh tda0 tda1 td fmh fm psh psa0 ps sph spa0 sp) _ := hP.sub [0, 1, 2, 3, 4, 5, 6, 7, 8, 9, 10, 11, 12, 13] rfl
  have hDc : va_D (nA s) (wG K Gh lnh lna0 ln trh tra0 tr rdh rd tdh tda0 tda1 td fmh fm psh psa0 ps sph spa0 sp) := hD.sub [0, 1, 2, 3, 4, 5, 6, 7, 8, 9, 10, 11, 12, 13] (by decide) rfl
  have hFc := va_free (wc := wG K Gh lnh lna0 ln trh tra0 tr rdh rd tdh tda0 tda1 td fmh fm psh psa0 ps sph spa0 sp) hD hS hA [0, 1, 2, 3, 4, 5, 6, 7, 8, 9, 10, 11, 12, 13] rfl
  refine va_calli (va_runV (As := [.int (xs (i + (1 : Int32)).toNatClampNeg), .int (xs (i + (2 : Int32)).toNatClampNeg)]) (rest := []) ⟨hx, hb, hml, hown, htg⟩ (c_gn_tell l K _ Gh ((xs (i + (1 : Int32)).toNatClampNeg)) ((xs (i + (2 : Int32)).toNatClampNeg)) lnh lna0 ln trh tra0 tr rdh rd tdh tda0 tda1 td fmh fm psh psa0 ps sph spa0 sp) (cwV 2 htg (g_V q_511 q_512 q_513 q_1 (g_w q_514)) rfl rfl rfl ⟨rfl, k_gn_tell⟩ ⟨Nat.le_of_ble_eq_true rfl, Nat.le_of_ble_eq_true rfl⟩) ⟨mu_blind, va_recv hK hPc (ci := 5) (q0 := 0) rfl rfl, mu_use hPc hK hDc hG hS hFc ⟨ok_ln, ok_tr, ok_td, trivial⟩⟩ rfl rfl hl.1 rfl (lv_room (Nat.le_of_ble_eq_true rfl)) d_lw_law_454 ⟨by omega, by omega⟩) hS (fun q _ h => hFc q h) hFc (fun r_1 u_1 t H1 locs1 ht hvm hw_1 hB hz1 hk1 hS => ?_)
  obtain ⟨hP1, hD1⟩ := hB
  rw [ht] at hP1
  obtain ⟨hP, hD⟩ := va_join (wr := wM K Mh Ma0 Ma1 Ma2 Ma3 Ma4 Ma5 M_board M_text M_moves M_signs M_newBoard M_out M_thrown M_side M_rights M_passant M_clock M_number M_size M_told M_at M_newSide M_newRights M_newPassant M_newClock M_newNumber M_outs ++ [wO K oh f]) (w1 := wG K Gh lnh lna0 ln trh tra0 tr rdh rd tdh tda0 tda1 u_1 fmh fm psh psa0 ps sph spa0 sp) hP hD [0, 1, 2, 3, 4, 5, 6, 7, 8, 9, 10, 11, 12, 13] [14, 15, 16, 17, 18, 19, 20, 21] rfl rfl (by decide) (by decide) hk1 hFc hP1 hD1
  have hP : va_P (kD K) vwCl (wG K Gh lnh lna0 ln trh tra0 tr rdh rd tdh tda0 tda1 u_1 fmh fm psh psa0 ps sph spa0 sp ++ wM K Mh Ma0 Ma1 Ma2 Ma3 Ma4 Ma5 M_board M_text M_moves M_signs M_newBoard M_out M_thrown M_side M_rights M_passant M_clock M_number M_size M_told M_at M_newSide M_newRights M_newPassant M_newClock M_newNumber M_outs ++ [wO K oh f]) H1 := hP.sub [8, 9, 10, 11, 12, 13, 14, 15, 16, 17, 18, 19, 20, 21, 0, 1, 2, 3, 4, 5, 6, 7] rfl
  have hD : va_D (nA s) (wG K Gh lnh lna0 ln trh tra0 tr rdh rd tdh tda0 tda1 u_1 fmh fm psh psa0 ps sph spa0 sp ++ wM K Mh Ma0 Ma1 Ma2 Ma3 Ma4 Ma5 M_board M_text M_moves M_signs M_newBoard M_out M_thrown M_side M_rights M_passant M_clock M_number M_size M_told M_at M_newSide M_newRights M_newPassant M_newClock M_newNumber M_outs ++ [wO K oh f]) := hD.sub [8, 9, 10, 11, 12, 13, 14, 15, 16, 17, 18, 19, 20, 21, 0, 1, 2, 3, 4, 5, 6, 7] (by decide) rfl
  clear hP1 hD1 hPc hDc hFc hk1 hz1 ht hvm
  generalize H1 = H at hP hS ⊢
  refine lv_aload_n hx hb d_lw_law_457 rfl (lv_at hl 3 rfl) ?_
  refine lv_aload_n hx hb d_lw_law_458 rfl (lv_at hl 1 rfl) ?_
  refine lv_iload hx hb d_lw_law_459 (lv_at hl 0 rfl) ?_
  refine lv_iconst (v := 1) hx hb d_lw_law_461 (by decide) ?_
  refine lv_iadd hx hb d_lw_law_462 ?_
  refine va_sld hx hb hX hbl hbA hS (lw_in (1 : Int32) hL h0 h1 (by decide) (by decide)) d_lw_law_463 ?_
  refine lv_aload_n hx hb d_lw_law_464 rfl (lv_at hl 1 rfl) ?_
  refine lv_iload hx hb d_lw_law_465 (lv_at hl 0 rfl) ?_
  refine lv_iconst (v := 2) hx hb d_lw_law_467 (by decide) ?_
  refine lv_iadd hx hb d_lw_law_468 ?_
  refine va_sld hx hb hX hbl hbA hS (lw_in (2 : Int32) hL h0 h1 (by decide) (by decide)) d_lw_law_469 ?_
  have hPc : va_P (kD K) vwCl (wM K Mh Ma0 Ma1 Ma2 Ma3 Ma4 Ma5 M_board M_text M_moves M_signs M_newBoard M_out M_thrown M_side M_rights M_passant M_clock M_number M_size M_told M_at M_newSide M_newRights M_newPassant M_newClock M_newNumber M_outs) _ := hP.sub [14, 15, 16, 17, 18, 19, 20] rfl
  have hDc : va_D (nA s) (wM K Mh Ma0 Ma1 Ma2 Ma3 Ma4 Ma5 M_board M_text M_moves M_signs M_newBoard M_out M_thrown M_side M_rights M_passant M_clock M_number M_size M_told M_at M_newSide M_newRights M_newPassant M_newClock M_newNumber M_outs) := hD.sub [14, 15, 16, 17, 18, 19, 20] (by decide) rfl
  have hFc := va_free (wc := wM K Mh Ma0 Ma1 Ma2 Ma3 Ma4 Ma5 M_board M_text M_moves M_signs M_newBoard M_out M_thrown M_side M_rights M_passant M_clock M_number M_size M_told M_at M_newSide M_newRights M_newPassant M_newClock M_newNumber M_outs) hD hS hA [14, 15, 16, 17, 18, 19, 20] rfl
  refine va_calli (va_runV (As := [.int (xs (i + (1 : Int32)).toNatClampNeg), .int (xs (i + (2 : Int32)).toNatClampNeg)]) (rest := [.int r_1]) ⟨hx, hb, hml, hown, htg⟩ (c_md_tell l K _ Mh Ma0 Ma1 Ma2 Ma3 Ma4 Ma5 M_board M_text M_moves M_signs M_newBoard M_out M_thrown M_side M_rights M_passant M_clock M_number M_size M_told M_at M_newSide M_newRights M_newPassant M_newClock M_newNumber M_outs ((xs (i + (1 : Int32)).toNatClampNeg)) ((xs (i + (2 : Int32)).toNatClampNeg))) (cwV 2 htg (g_V q_981 q_982 q_983 q_7 (g_w q_984)) rfl rfl rfl ⟨rfl, k_md_tell⟩ ⟨Nat.le_of_ble_eq_true rfl, Nat.le_of_ble_eq_true rfl⟩) ⟨mu_blind, va_recv hK hPc (ci := 6) (q0 := 0) rfl rfl, mu_use hPc hK hDc hG hS hFc ⟨RT.lo, RT.hi, trivial⟩⟩ rfl rfl hl.1 rfl (lv_room (Nat.le_of_ble_eq_true rfl)) d_lw_law_470 ⟨by omega, by omega⟩) hS (fun q _ h => hFc q h) hFc (fun r_2 u_2 t H1 locs1 ht hvm hw_2 hB hz1 hk1 hS => ?_)
  obtain ⟨hP1, hD1⟩ := hB
  rw [ht] at hP1
  obtain ⟨hP, hD⟩ := va_join (wr := wG K Gh lnh lna0 ln trh tra0 tr rdh rd tdh tda0 tda1 u_1 fmh fm psh psa0 ps sph spa0 sp ++ [wO K oh f]) (w1 := wM K Mh Ma0 Ma1 Ma2 Ma3 Ma4 Ma5 M_board M_text u_2.2.1 u_2.2.2.1 M_newBoard M_out u_2.1 M_side M_rights M_passant M_clock M_number M_size u_2.2.2.2 M_at M_newSide M_newRights M_newPassant M_newClock M_newNumber M_outs) hP hD [14, 15, 16, 17, 18, 19, 20] [0, 1, 2, 3, 4, 5, 6, 7, 8, 9, 10, 11, 12, 13, 21] rfl rfl (by decide) (by decide) hk1 hFc hP1 hD1
  have hP : va_P (kD K) vwCl (wG K Gh lnh lna0 ln trh tra0 tr rdh rd tdh tda0 tda1 u_1 fmh fm psh psa0 ps sph spa0 sp ++ wM K Mh Ma0 Ma1 Ma2 Ma3 Ma4 Ma5 M_board M_text u_2.2.1 u_2.2.2.1 M_newBoard M_out u_2.1 M_side M_rights M_passant M_clock M_number M_size u_2.2.2.2 M_at M_newSide M_newRights M_newPassant M_newClock M_newNumber M_outs ++ [wO K oh f]) H1 := hP.sub [0, 1, 2, 3, 4, 5, 6, 7, 8, 9, 10, 11, 12, 13, 15, 16, 17, 18, 19, 20, 21, 14] rfl
  have hD : va_D (nA s) (wG K Gh lnh lna0 ln trh tra0 tr rdh rd tdh tda0 tda1 u_1 fmh fm psh psa0 ps sph spa0 sp ++ wM K Mh Ma0 Ma1 Ma2 Ma3 Ma4 Ma5 M_board M_text u_2.2.1 u_2.2.2.1 M_newBoard M_out u_2.1 M_side M_rights M_passant M_clock M_number M_size u_2.2.2.2 M_at M_newSide M_newRights M_newPassant M_newClock M_newNumber M_outs ++ [wO K oh f]) := hD.sub [0, 1, 2, 3, 4, 5, 6, 7, 8, 9, 10, 11, 12, 13, 15, 16, 17, 18, 19, 20, 21, 14] (by decide) rfl
  clear hP1 hD1 hPc hDc hFc hk1 hz1 ht hvm
  generalize H1 = H at hP hS ⊢
  obtain ⟨hq, RT2⟩ := pu_p_tell RT RP hw_1.1 hw_2.1
  refine lv_icmp_eq (tgt := 583) hx hb d_lw_law_473 (by decide) (fun c_9 => ?_) (fun c_9 => ?_)
  · exact (W.widen (k := C + 1) (n := S + 6) (by omega) (by omega) (N _ _ _ _ _ _ _ _ _ _ _ _ _ _ _ _ _ _ _ _ _ _ _ _ _ _ _ _ _ _ _ _ _ _ _ _ _ _ _ _ _ _ _ _ _ _ _ _ _ _ _ ⟨hP, hD, hS, ok_ln, ok_tr, hw_1.2.2.1, RL, RP, RT2⟩ hl))
  · exact absurd (hq) c_9
