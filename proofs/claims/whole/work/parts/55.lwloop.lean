set_option maxHeartbeats 4000000 in
set_option maxRecDepth 100000 in
theorem lw_end {l : Launch} {K : KT} {p : Program} {e : Env} {s : State} {m : MethodId} {below : List Frame} {meth : Method} {c : Code} {b L : Nat} {xs : Nat → Int32} (C0 : LC l K p s m meth c b L xs) {Gh Mh oh : Nat} {i : Int32} {C S : Nat} {H : Heap} {locs : List Loc} {ls : Array Slot} (h0 : 0 ≤ i.toInt) (h9 : i.toInt ≤ 3078) (h1 : (L : Int) < i.toInt + 6) (hC : C ≤ 1048) (hS9 : S ≤ 10151) (hS : va_S (nA s) s.heap H locs) (hl : lv_has ls 7 (lvL b Gh Mh oh i)) : W p l e room_1 s m #[Value.ref b] below meth c H locs C S (lw_Z below #[Value.ref b] s) (F0 m 23 ls []) := by
  obtain ⟨hx, hb, hr, hml, hown, htg, hX, hbl, hlocks, hK, hG, hTh, hfl, hL⟩ := C0
  have hbA : ¬ nA s b := fun q => absurd q (Nat.not_le.mpr hbl)
  refine lv_iload hx hb d_lw_law_23 (lv_at hl 0 rfl) ?_
  refine lv_aload_n hx hb d_lw_law_25 rfl (lv_at hl 1 rfl) ?_
  refine va_slen hx hb hX hbl hbA hS d_lw_law_26 ?_
  refine lv_bipush (v := 6) hx hb d_lw_law_27 (by decide) ?_
  refine lv_isub hx hb d_lw_law_29 ?_
  have eL : (Int32.ofNat L - 6).toInt = L - 6 := by rw [pu_isb, pu_nat_ofn (by omega), show (6 : Int32).toInt = 6 by decide]; omega
  refine lv_icmp_gt (tgt := 589) hx hb d_lw_law_30 (by decide) (fun c_1 => ?_) (fun c_1 => absurd (by rw [Int32.lt_iff_toInt_lt, eL]; omega) c_1)
  refine lv_iconst (v := 1) hx hb d_lw_law_589 (by decide) ?_
  refine va_forget (fun q hq => hS.2.2 q hq) ?_
  refine W.widen (k := 1048) (n := 10151) hC hS9 ?_
  exact lw_ret hx hb hr hlocks d_lw_law_590
set_option maxHeartbeats 4000000 in
set_option maxRecDepth 100000 in
theorem lw_loop {l : Launch} {K : KT} {p : Program} {e : Env} {s : State} {m : MethodId} {below : List Frame} {meth : Method} {c : Code} {b L : Nat} {xs : Nat → Int32} (C0 : LC l K p s m meth c b L xs) {Gh Mh oh : Nat} : ∀ (k : Nat) (i : Int32) (C S : Nat) (H : Heap) (locs : List Loc) (ls : Array Slot) (lnh lna0 : Nat) (ln : LnT) (trh tra0 : Nat) (tr : LnT) (rdh : Nat) (rd : Int32) (tdh tda0 tda1 : Nat) (td : TdT) (fmh : Nat) (fm : FmT) (psh psa0 : Nat) (ps : PsT) (sph spa0 : Nat) (sp : PsT) (Ma0 Ma1 Ma2 Ma3 Ma4 Ma5 : Nat) (M_board : Nat → Int32) (M_text : Nat → Int32) (M_moves : Nat → Int32) (M_signs : Nat → Int32) (M_newBoard : Nat → Int32) (M_out : Nat → Int32) (M_thrown : Int32) (M_side : Int32) (M_rights : Int32) (M_passant : Int32) (M_clock : Int32) (M_number : Int32) (M_size : Int32) (M_told : Int32) (M_at : Int32) (M_newSide : Int32) (M_newRights : Int32) (M_newPassant : Int32) (M_newClock : Int32) (M_newNumber : Int32) (M_outs : Int32) (f : Nat → Int64), 0 ≤ i.toInt → i.toInt ≤ 3078 → (L : Int) - i.toInt < 6 * k → C + k ≤ 1048 → S + 6 * k ≤ 10151 → LI K s H locs Gh lnh lna0 ln trh tra0 tr rdh rd tdh tda0 tda1 td fmh fm psh psa0 ps sph spa0 sp Mh Ma0 Ma1 Ma2 Ma3 Ma4 Ma5 M_board M_text M_moves M_signs M_newBoard M_out M_thrown M_side M_rights M_passant M_clock M_number M_size M_told M_at M_newSide M_newRights M_newPassant M_newClock M_newNumber M_outs oh f → lv_has ls 7 (lvL b Gh Mh oh i) → W p l e room_1 s m #[Value.ref b] below meth c H locs C S (lw_Z below #[Value.ref b] s) (F0 m 23 ls []) := by
  have C1 := C0
  obtain ⟨hx, hb, hr, hml, hown, htg, hX, hbl, hlocks, hK, hG, hTh, hfl, hL⟩ := C1
  have hbA : ¬ nA s b := fun q => absurd q (Nat.not_le.mpr hbl)
  intro k
  induction k with
  | zero =>
    intro i C S H locs ls lnh lna0 ln trh tra0 tr rdh rd tdh tda0 tda1 td fmh fm psh psa0 ps sph spa0 sp Ma0 Ma1 Ma2 Ma3 Ma4 Ma5 M_board M_text M_moves M_signs M_newBoard M_out M_thrown M_side M_rights M_passant M_clock M_number M_size M_told M_at M_newSide M_newRights M_newPassant M_newClock M_newNumber M_outs f h0 h9 hk hC hS9 I hl
    have I1 := I
    obtain ⟨hP, hD, hS, -⟩ := I1
    exact lw_end C0 h0 h9 (by omega) (by omega) (by omega) hS hl
  | succ k ih =>
    intro i C S H locs ls lnh lna0 ln trh tra0 tr rdh rd tdh tda0 tda1 td fmh fm psh psa0 ps sph spa0 sp Ma0 Ma1 Ma2 Ma3 Ma4 Ma5 M_board M_text M_moves M_signs M_newBoard M_out M_thrown M_side M_rights M_passant M_clock M_number M_size M_told M_at M_newSide M_newRights M_newPassant M_newClock M_newNumber M_outs f h0 h9 hk hC hS9 I hl
    have I1 := I
    obtain ⟨hP, hD, hS, -⟩ := I1
    by_cases h1 : i.toInt + 6 ≤ L
    rotate_left
    · exact lw_end C0 h0 h9 (by omega) (by omega) (by omega) hS hl
    have N : NX K p l e s m below meth c b Gh Mh oh i (C + 1) (S + 6) := by
      intro H locs ls lnh lna0 ln trh tra0 tr rdh rd tdh tda0 tda1 td fmh fm psh psa0 ps sph spa0 sp Ma0 Ma1 Ma2 Ma3 Ma4 Ma5 M_board M_text M_moves M_signs M_newBoard M_out M_thrown M_side M_rights M_passant M_clock M_number M_size M_told M_at M_newSide M_newRights M_newPassant M_newClock M_newNumber M_outs f I hl
      refine lv_iinc (v := i + 6) (lv' := lvL b Gh Mh oh (i + 6)) hx hb d_lw_law_583 hl (k := 0) rfl rfl (by decide) rfl (fun ls hl => ?_)
      refine lv_goto (tgt := 23) hx hb d_lw_law_586 (by decide) ?_
      have e6 : (i + 6).toInt = i.toInt + 6 := by rw [pu_ia, show (6 : Int32).toInt = 6 by decide]; omega
      have g1 : 0 ≤ (i + 6).toInt := by omega
      have g2 : (i + 6).toInt ≤ 3078 := by omega
      have g3 : (L : Int) - (i + 6).toInt < 6 * k := by omega
      exact ih (i + 6) (C + 1) (S + 6) H locs ls lnh lna0 ln trh tra0 tr rdh rd tdh tda0 tda1 td fmh fm psh psa0 ps sph spa0 sp Ma0 Ma1 Ma2 Ma3 Ma4 Ma5 M_board M_text M_moves M_signs M_newBoard M_out M_thrown M_side M_rights M_passant M_clock M_number M_size M_told M_at M_newSide M_newRights M_newPassant M_newClock M_newNumber M_outs f g1 g2 g3 (by omega) (by omega) I hl
    refine lv_iload hx hb d_lw_law_23 (lv_at hl 0 rfl) ?_
    refine lv_aload_n hx hb d_lw_law_25 rfl (lv_at hl 1 rfl) ?_
    refine va_slen hx hb hX hbl hbA hS d_lw_law_26 ?_
    refine lv_bipush (v := 6) hx hb d_lw_law_27 (by decide) ?_
    refine lv_isub hx hb d_lw_law_29 ?_
    have eL : (Int32.ofNat L - 6).toInt = L - 6 := by rw [pu_isb, pu_nat_ofn (by omega), show (6 : Int32).toInt = 6 by decide]; omega
    refine lv_icmp_gt (tgt := 589) hx hb d_lw_law_30 (by decide) (fun c_1 => absurd c_1 (by rw [Int32.lt_iff_toInt_lt, eL]; omega)) (fun c_1 => ?_)
    refine lv_aload_n hx hb d_lw_law_33 rfl (lv_at hl 1 rfl) ?_
    refine lv_iload hx hb d_lw_law_34 (lv_at hl 0 rfl) ?_
    refine va_sld hx hb hX hbl hbA hS (vp_in_iff.mpr ⟨h0, by omega⟩) d_lw_law_36 ?_
    refine lv_bipush (v := 15) hx hb d_lw_law_37 (by decide) ?_
    refine lv_iand hx hb d_lw_law_39 ?_
    generalize xs i.toNatClampNeg &&& 15 = x
    by_cases c_2 : x = (0 : Int32)
    · refine lv_tableIn (tgt := 112) hx hb d_lw_law_40 (by rw [c_2]; decide) (by rw [c_2]; decide) (by rw [c_2]; rfl) (by decide) ?_
      exact lw_case0 C0 h0 h1 I hl ⟨by omega, by omega⟩ N
    have o_0 := ne_i (b := 0) c_2 rfl
    by_cases c_3 : x = (1 : Int32)
    · refine lv_tableIn (tgt := 169) hx hb d_lw_law_40 (by rw [c_3]; decide) (by rw [c_3]; decide) (by rw [c_3]; rfl) (by decide) ?_
      exact lw_case1 C0 h0 h1 I hl ⟨by omega, by omega⟩ N
    have o_1 := ne_i (b := 1) c_3 rfl
    by_cases c_4 : x = (2 : Int32)
    · refine lv_tableIn (tgt := 180) hx hb d_lw_law_40 (by rw [c_4]; decide) (by rw [c_4]; decide) (by rw [c_4]; rfl) (by decide) ?_
      exact lw_case2 C0 h0 h1 I hl ⟨by omega, by omega⟩ N
    have o_2 := ne_i (b := 2) c_4 rfl
    by_cases c_5 : x = (3 : Int32)
    · refine lv_tableIn (tgt := 205) hx hb d_lw_law_40 (by rw [c_5]; decide) (by rw [c_5]; decide) (by rw [c_5]; rfl) (by decide) ?_
      exact lw_case3 C0 h0 h1 I hl ⟨by omega, by omega⟩ N
    have o_3 := ne_i (b := 3) c_5 rfl
    by_cases c_6 : x = (4 : Int32)
    · refine lv_tableIn (tgt := 218) hx hb d_lw_law_40 (by rw [c_6]; decide) (by rw [c_6]; decide) (by rw [c_6]; rfl) (by decide) ?_
      exact lw_case4 C0 h0 h1 I hl ⟨by omega, by omega⟩ N
    have o_4 := ne_i (b := 4) c_6 rfl
    by_cases c_7 : x = (5 : Int32)
    · refine lv_tableIn (tgt := 231) hx hb d_lw_law_40 (by rw [c_7]; decide) (by rw [c_7]; decide) (by rw [c_7]; rfl) (by decide) ?_
      exact lw_case5 C0 h0 h1 I hl ⟨by omega, by omega⟩ N
    have o_5 := ne_i (b := 5) c_7 rfl
    by_cases c_8 : x = (6 : Int32)
    · refine lv_tableIn (tgt := 268) hx hb d_lw_law_40 (by rw [c_8]; decide) (by rw [c_8]; decide) (by rw [c_8]; rfl) (by decide) ?_
      exact lw_case6 C0 h0 h1 I hl ⟨by omega, by omega⟩ N
    have o_6 := ne_i (b := 6) c_8 rfl
    by_cases c_9 : x = (7 : Int32)
    · refine lv_tableIn (tgt := 341) hx hb d_lw_law_40 (by rw [c_9]; decide) (by rw [c_9]; decide) (by rw [c_9]; rfl) (by decide) ?_
      exact lw_case7 C0 h0 h1 I hl ⟨by omega, by omega⟩ N
    have o_7 := ne_i (b := 7) c_9 rfl
    by_cases c_10 : x = (8 : Int32)
    · refine lv_tableIn (tgt := 366) hx hb d_lw_law_40 (by rw [c_10]; decide) (by rw [c_10]; decide) (by rw [c_10]; rfl) (by decide) ?_
      exact lw_case8 C0 h0 h1 I hl ⟨by omega, by omega⟩ N
    have o_8 := ne_i (b := 8) c_10 rfl
    by_cases c_11 : x = (9 : Int32)
    · refine lv_tableIn (tgt := 441) hx hb d_lw_law_40 (by rw [c_11]; decide) (by rw [c_11]; decide) (by rw [c_11]; rfl) (by decide) ?_
      exact lw_case9 C0 h0 h1 I hl ⟨by omega, by omega⟩ N
    have o_9 := ne_i (b := 9) c_11 rfl
    by_cases c_12 : x = (10 : Int32)
    · refine lv_tableIn (tgt := 478) hx hb d_lw_law_40 (by rw [c_12]; decide) (by rw [c_12]; decide) (by rw [c_12]; rfl) (by decide) ?_
      exact lw_case10 C0 h0 h1 I hl ⟨by omega, by omega⟩ N
    have o_10 := ne_i (b := 10) c_12 rfl
    by_cases c_13 : x = (11 : Int32)
    · refine lv_tableIn (tgt := 489) hx hb d_lw_law_40 (by rw [c_13]; decide) (by rw [c_13]; decide) (by rw [c_13]; rfl) (by decide) ?_
      exact lw_case11 C0 h0 h1 I hl ⟨by omega, by omega⟩ N
    have o_11 := ne_i (b := 11) c_13 rfl
    by_cases c_14 : x = (12 : Int32)
    · refine lv_tableIn (tgt := 545) hx hb d_lw_law_40 (by rw [c_14]; decide) (by rw [c_14]; decide) (by rw [c_14]; rfl) (by decide) ?_
      exact lw_case12 C0 h0 h1 I hl ⟨by omega, by omega⟩ N
    have o_12 := ne_i (b := 12) c_14 rfl
    by_cases c_15 : x = (13 : Int32)
    · refine lv_tableIn (tgt := 558) hx hb d_lw_law_40 (by rw [c_15]; decide) (by rw [c_15]; decide) (by rw [c_15]; rfl) (by decide) ?_
      exact lw_case13 C0 h0 h1 I hl ⟨by omega, by omega⟩ N
    have o_13 := ne_i (b := 13) c_15 rfl
    refine lv_tableOut (tgt := 583) hx hb d_lw_law_40 (by omega) (by decide) ?_
    exact W.widen (k := C + 1) (n := S + 6) (by omega) (by omega) (N _ _ _ _ _ _ _ _ _ _ _ _ _ _ _ _ _ _ _ _ _ _ _ _ _ _ _ _ _ _ _ _ _ _ _ _ _ _ _ _ _ _ _ _ _ _ _ _ _ _ _ I hl)
