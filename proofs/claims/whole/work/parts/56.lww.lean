abbrev srR : List (String × Nat) := [("GameNotation$RecordReader", 61), ("GameNotation$RecordReader", 69), ("GameNotation$RecordReader", 84), ("GameNotation$RecordReader", 96), ("GameNotation", 80), ("GameNotation$Form", 18), ("GameNotation$Form", 79), ("GameNotation$Form", 85), ("GameNotation", 129), ("GameNotation", 161)]
def tmS (i : Nat) : Term := .string (srR.getD i ("", 0)).1 (srR.getD i ("", 0)).2
def nrL : List Cond := flatC (Jvm.Cond.and given_1 narrow_1)
abbrev ixS : List Nat := [77, 89, 106, 116, 164, 211, 226, 243, 548, 596]
abbrev ixN : List (List Nat) := [[0, 105, 114, 128, 170, 217, 233, 252, 574, 621], [0, 0, 115, 129, 171, 218, 234, 253, 575, 622], [0, 0, 0, 130, 172, 219, 235, 254, 576, 623], [0, 0, 0, 0, 173, 220, 236, 255, 577, 624], [0, 0, 0, 0, 0, 223, 239, 258, 580, 627], [0, 0, 0, 0, 0, 0, 242, 261, 583, 630], [0, 0, 0, 0, 0, 0, 0, 262, 584, 631], [0, 0, 0, 0, 0, 0, 0, 0, 585, 632], [0, 0, 0, 0, 0, 0, 0, 0, 0, 643], [0, 0, 0, 0, 0, 0, 0, 0, 0, 0]]
abbrev ixT : List Nat := [10, 21, 32, 39, 46, 53]
theorem ns_ex : ∀ i, i < nSTR → nrL[ixS.getD i 0]? = some (Cond.exactly (tmS i) "java/lang/String") := by decide +kernel
theorem ns_co : ∀ i, i < nSTR → nrL[ixS.getD i 0 + 1]? = some (Cond.eq (.field (tmS i) "java/lang/String" "coder" "B") (.int 0)) := by decide +kernel
theorem ns_ar : ∀ i, i < nSTR → nrL[ixS.getD i 0 + 2]? = some (Cond.arrayOf (.field (tmS i) "java/lang/String" "value" "[B") .byte) := by decide +kernel
theorem ns_le : ∀ i, i < nSTR → nrL[ixS.getD i 0 + 3]? = some (Cond.eq (.length (.field (tmS i) "java/lang/String" "value" "[B")) (.int (Int32.ofNat (sLens.getD i 0)))) := by decide +kernel
theorem ns_el : ∀ i, i < nSTR → ∀ j, j < sLens.getD i 0 → nrL[ixS.getD i 0 + 4 + j]? = some (Cond.eq (.elem (.field (tmS i) "java/lang/String" "value" "[B") (.int (Int32.ofNat j))) (.int ((sByts.getD i []).getD j 0))) := by decide +kernel
theorem ns_ne : ∀ i, i < nSTR → ∀ j, j < nSTR → i < j → nrL[(ixN.getD i []).getD j 0]? = some (Cond.not (Cond.eq (tmS i) (tmS j))) := by decide +kernel
theorem ns_sr : ∀ q ∈ srL, Cond.stringRef q.1 q.2.1 q.2.2.1 ∈ tables_1 := by
  have h : ([201, 289, 312, 342, 389, 475, 477, 482, 488, 551, 559, 567, 572, 579, 583, 625, 626, 639, 646, 649, 652, 665, 735, 780, 787] : List Nat).map (fun i => tables_1[i]?) = (srL.map (fun q => Cond.stringRef q.1 q.2.1 q.2.2.1)).map some := by decide +kernel
  exact fun q hq => mem_idx h _ (List.mem_map.mpr ⟨q, hq, rfl⟩)
theorem ns_sq : ∀ q ∈ srL.zip ([9999, 9999, 9999, 9999, 141, 160, 9999, 186, 206, 9999, 9999, 9999, 280, 306, 328, 359, 384, 404, 433, 460, 496, 527, 9999, 9999, 659] : List Nat), q.1.2.2.2 < nSTR ∧ ((q.1.1, q.1.2.1) = srR.getD q.1.2.2.2 ("", 0) ∨ nrL[q.2]? = some (Cond.eq (tmS q.1.2.2.2) (.string q.1.1 q.1.2.1))) := by decide +kernel
theorem ns_sp : ∀ q ∈ srL, q.2.2.2 < nSTR ∧ ((q.1, q.2.1) = srR.getD q.2.2.2 ("", 0) ∨ Cond.eq (tmS q.2.2.2) (.string q.1 q.2.1) ∈ nrL) := by
  intro q hq
  obtain ⟨k, hk⟩ := List.mem_iff_getElem?.mp hq
  have hk1 : k < srL.length := (List.getElem?_eq_some_iff.mp hk).1
  have h2 : ∃ n, (srL.zip ([9999, 9999, 9999, 9999, 141, 160, 9999, 186, 206, 9999, 9999, 9999, 280, 306, 328, 359, 384, 404, 433, 460, 496, 527, 9999, 9999, 659] : List Nat))[k]? = some (q, n) := ⟨([9999, 9999, 9999, 9999, 141, 160, 9999, 186, 206, 9999, 9999, 9999, 280, 306, 328, 359, 384, 404, 433, 460, 496, 527, 9999, 9999, 659] : List Nat)[k]'hk1, by rw [List.getElem?_zip_eq_some]; exact ⟨hk, List.getElem?_eq_getElem (l := ([9999, 9999, 9999, 9999, 141, 160, 9999, 186, 206, 9999, 9999, 9999, 280, 306, 328, 359, 384, 404, 433, 460, 496, 527, 9999, 9999, 659] : List Nat)) hk1⟩⟩
  obtain ⟨n, hn⟩ := h2
  obtain ⟨h3, h4⟩ := ns_sq (q, n) (List.mem_of_getElem? hn)
  exact ⟨h3, h4.imp id (fun h => List.mem_of_getElem? h)⟩
theorem ns_nw : ∀ w ∈ nwL, w ∈ tables_1 := mem_idx (is := [100, 101, 104, 105, 107, 108, 109, 110, 113, 114, 414, 416, 428, 430, 432, 434, 29, 43, 53, 70, 95, 290, 297, 314, 343, 358, 373, 399, 422, 425, 584, 589, 610, 614, 616, 617, 618, 624, 631, 633, 637, 638, 640, 647, 648, 650, 651, 664]) (by decide +kernel)
theorem ns_th : ∀ w ∈ thW, w ∈ tables_1 := mem_idx (is := [699, 701, 703, 697, 773]) (by decide +kernel)
theorem ns_tl : ∀ k, k < nTAB → tables_1[([415, 417, 429, 431, 433, 435] : List Nat).getD k 0]? = some (Cond.laysStatic "GameNotation" (tbNm.getD k "") "[I") := by decide +kernel
theorem ns_ta : ∀ k, k < nTAB → nrL[ixT.getD k 0]? = some (Cond.arrayOf (.static "GameNotation" (tbNm.getD k "") "[I") .int) := by decide +kernel
theorem ns_tn : ∀ k, k < nTAB → nrL[ixT.getD k 0 + 1]? = some (Cond.eq (.length (.static "GameNotation" (tbNm.getD k "") "[I")) (.int (Int32.ofNat (tbN k)))) := by decide +kernel
theorem ns_te : ∀ k, k < nTAB → ∀ j, j < tbN k → nrL[ixT.getD k 0 + 2 + j]? = some (Cond.eq (.elem (.static "GameNotation" (tbNm.getD k "") "[I") (.int (Int32.ofNat j))) (.int (tbl k j))) := by decide +kernel
theorem ns_one : ∀ w ∈ ([.initialized "GameNotation", .laysStatic "java/lang/String" "COMPACT_STRINGS" "Z", .initialized "java/lang/String", .laysStatic "jdk/internal/util/Preconditions" "SIOOBE_FORMATTER" "Ljava/util/function/BiFunction;", .initialized "jdk/internal/util/Preconditions", .laysStatic Bundle.tN "UNASSIGNED_STACK" Bundle.steD, .laysStatic Bundle.tN "SUPPRESSED_SENTINEL" Bundle.listD, .arrayClass .int, .arrayClass .char, .arrayClass .long] : List Cond), w ∈ tables_1 := mem_idx (is := [1, 216, 8, 259, 12, 722, 724, 67, 40, 1083]) (by decide +kernel)
theorem mem_nr {is : List Nat} {L : List Cond} (h : is.map (fun i => nrL[i]?) = L.map some) : ∀ w ∈ L, w ∈ nrL := by
  intro w hw
  have h1 : some w ∈ L.map some := List.mem_map.mpr ⟨w, hw, rfl⟩
  rw [← h] at h1
  obtain ⟨i, -, hi⟩ := List.mem_map.mp h1
  exact List.mem_of_getElem? hi
theorem ns_two : ∀ w ∈ ([.eq (.static "java/lang/String" "COMPACT_STRINGS" "Z") (.int 1), .isRef (.static "jdk/internal/util/Preconditions" "SIOOBE_FORMATTER" "Ljava/util/function/BiFunction;"), .isRef (.static Bundle.tN "UNASSIGNED_STACK" Bundle.steD), .isRef (.static Bundle.tN "SUPPRESSED_SENTINEL" Bundle.listD)] : List Cond), w ∈ nrL := mem_nr (is := [4, 5, 59, 60]) (by decide +kernel)
theorem i_fm : (.instantiable R_fm 6 : Cond) ∈ tables_1 := List.mem_of_getElem? (i := 69) (by decide +kernel)
theorem i_ln : (.instantiable R_ln 2 : Cond) ∈ tables_1 := List.mem_of_getElem? (i := 28) (by decide +kernel)
theorem i_ps : (.instantiable R_ps 6 : Cond) ∈ tables_1 := List.mem_of_getElem? (i := 94) (by decide +kernel)
theorem i_rd : (.instantiable R_rd 1 : Cond) ∈ tables_1 := List.mem_of_getElem? (i := 42) (by decide +kernel)
theorem i_td : (.instantiable R_td 3 : Cond) ∈ tables_1 := List.mem_of_getElem? (i := 52) (by decide +kernel)
theorem i_gn : (.instantiable R_gn 7 : Cond) ∈ tables_1 := List.mem_of_getElem? (i := 20) (by decide +kernel)
theorem i_md : (.instantiable R_md 21 : Cond) ∈ tables_1 := List.mem_of_getElem? (i := 789) (by decide +kernel)
theorem lw_world {s : State} {b : Nat} (hts : ∀ w ∈ lw_tbl, w.before #[Value.ref b] s = true) (hgv : (Jvm.Cond.and given_1 narrow_1).before #[Value.ref b] s = true) : ∃ K : KT, va_K (kD K) vwCl (kY K) s ∧ GC K (nA s) s s.heap ∧ thS (nA s) s s.heap := by
  have hT : ∀ w ∈ tables_1, w.before #[Value.ref b] s = true := fun w h => hts w (List.mem_append_right _ h)
  have htg : ∀ w ∈ gw, w.before #[Value.ref b] s = true := fun w h => hts w (List.mem_filter.mp h).1
  have hN : ∀ w ∈ nrL, w.before #[Value.ref b] s = true := flat_of_before _ hgv
  have h9 : ∀ a : Nat, a < s.heap.size → ¬ nA s a := fun a h => Nat.not_le.mpr h
  have hQ : ∀ {k : Nat} {w : Cond}, nrL[k]? = some w → w.before #[Value.ref b] s = true := fun h => hN _ (List.mem_of_getElem? h)
  have hO := fun w h => hT w (ns_one w h)
  have hW := fun w h => hN w (ns_two w h)
  obtain ⟨adK, adV, hS, hEv⟩ := vk_Sof (A := nA s) (tm := tmS) (len := sLens) (byt := sByts) (N := nSTR) (fun i hi => by revert i hi; decide) (fun i hi => hQ (ns_ex i hi)) (fun i hi => hQ (ns_co i hi)) (fun i hi => hQ (ns_ar i hi)) (fun i hi => hQ (ns_le i hi)) (fun i hi j hj => hQ (ns_el i hi j hj)) (fun i j hi hj hij => (Nat.lt_or_gt_of_ne hij).imp (fun h => hQ (ns_ne i hi j hj h)) (fun h => hQ (ns_ne j hj i hi h))) h9
  have h0 : ∀ k : Nat, ∃ t : Nat, k < nTAB → va_Z "GameNotation" (tbNm.getD k "") "[I" (.ref t) (nA s) s s.heap ∧ va_T .int t (tbN k) (fun j => .int (tbl k j)) (nA s) s s.heap := by
    intro k
    by_cases hk : k < nTAB
    · obtain ⟨t, ht, h1⟩ := va_Tof (f := fun j => .int (tbl k j)) (A := nA s) (N := tbN k) (by revert k hk; decide) (hQ (ns_ta k hk)) (va_eqt (hQ (ns_tn k hk))) (fun j hj => va_eqt (hQ (ns_te k hk j hj))) h9
      exact ⟨t, fun _ => ⟨va_Zof (hT _ (List.mem_of_getElem? (ns_tl k hk))) (hO _ (List.mem_of_getElem? (i := 0) rfl)) ht h9, h1⟩⟩
    · exact ⟨0, fun h => absurd h hk⟩
  obtain ⟨adT, hTab⟩ := Classical.skolem.mp h0
  obtain ⟨c0, iS0, hK0⟩ := u_known (C := R_fm) (T := T_fm) (N := 6) (n := 6) htg in_fm (hT _ i_fm)
  obtain ⟨c1, iS1, hK1⟩ := u_known (C := R_ln) (T := T_ln) (N := 2) (n := 2) htg in_ln (hT _ i_ln)
  obtain ⟨c2, iS2, hK2⟩ := u_known (C := R_ps) (T := T_ps) (N := 6) (n := 6) htg in_ps (hT _ i_ps)
  obtain ⟨c3, iS3, hK3⟩ := u_known (C := R_rd) (T := T_rd) (N := 1) (n := 1) htg in_rd (hT _ i_rd)
  obtain ⟨c4, iS4, hK4⟩ := u_known (C := R_td) (T := T_td) (N := 3) (n := 3) htg in_td (hT _ i_td)
  obtain ⟨c5, iS5, hK5⟩ := u_known (C := R_gn) (T := T_gn) (N := 7) (n := 7) htg in_gn (hT _ i_gn)
  obtain ⟨c6, iS6, hK6⟩ := u_known (C := R_md) (T := T_md) (N := 21) (n := 21) htg in_md (hT _ i_md)
  obtain ⟨cI, kI9, mI, hI1, hI2, hI3⟩ := Cond.arrayClass_spec (hO (.arrayClass .int) (List.mem_of_getElem? (i := 7) rfl))
  obtain ⟨cC, kC9, mC, hC1, hC2, hC3⟩ := Cond.arrayClass_spec (hO (.arrayClass .char) (List.mem_of_getElem? (i := 8) rfl))
  obtain ⟨cJ, kJ9, mJ, hJ1, hJ2, hJ3⟩ := Cond.arrayClass_spec (hO (.arrayClass .long) (List.mem_of_getElem? (i := 9) rfl))
  refine ⟨(fun k => if k = 0 then c0 else if k = 1 then c1 else if k = 2 then c2 else if k = 3 then c3 else if k = 4 then c4 else if k = 5 then c5 else c6, fun k => if k = 0 then iS0 else if k = 1 then iS1 else if k = 2 then iS2 else if k = 3 then iS3 else if k = 4 then iS4 else if k = 5 then iS5 else iS6, (cI, cC, cJ), adK, adV, adT), ⟨?_, ?_⟩, ⟨?_, ?_, hS, fun k hk => hTab k hk, ?_, ?_⟩, ?_, ?_, ?_⟩
  · intro k q hq
    match k, hq with
    | 0, hq => cases hq; exact hK0
    | 1, hq => cases hq; exact hK1
    | 2, hq => cases hq; exact hK2
    | 3, hq => cases hq; exact hK3
    | 4, hq => cases hq; exact hK4
    | 5, hq => cases hq; exact hK5
    | 6, hq => cases hq; exact hK6
    | k + 7, hq => simp at hq
  · intro k q hq
    match k, hq with
    | 0, hq => cases hq; exact ⟨fun n z => ⟨fun k h => (by cases h), kI9, hI2, mI, hI3⟩, hI1⟩
    | 1, hq => cases hq; exact ⟨fun n z => ⟨fun k h => (by cases h), kC9, hC2, mC, hC3⟩, hC1⟩
    | 2, hq => cases hq; exact ⟨fun n z => ⟨fun k h => (by cases h), kJ9, hJ2, mJ, hJ3⟩, hJ1⟩
    | k + 3, hq => simp at hq
  · exact fun w hw => va_Nw.of (nw_tab w hw) (hT w (ns_nw w hw))
  · intro q hq
    obtain ⟨h1, h2⟩ := ns_sp q hq
    refine vk_R.of (hT _ (ns_sr q hq)) ?_
    rcases h2 with h2 | h2
    · have h3 := hEv _ h1
      rw [tmS, ← h2] at h3
      exact h3
    · exact va_eqR (hN _ h2) (hEv _ h1)
  · exact va_Zof (hO _ (List.mem_of_getElem? (i := 1) rfl)) (hO _ (List.mem_of_getElem? (i := 2) rfl)) (va_eqt (hW _ (List.mem_of_getElem? (i := 0) rfl))) h9
  · exact va_Zqof (hO _ (List.mem_of_getElem? (i := 3) rfl)) (hO _ (List.mem_of_getElem? (i := 4) rfl)) (hW _ (List.mem_of_getElem? (i := 1) rfl)) h9
  · exact thOne.of (hO _ (List.mem_of_getElem? (i := 5) rfl)) (hW _ (List.mem_of_getElem? (i := 2) rfl)) h9
  · exact thOne.of (hO _ (List.mem_of_getElem? (i := 6) rfl)) (hW _ (List.mem_of_getElem? (i := 3) rfl)) h9
  · intro w hw
    refine va_Nw.of ?_ (hT w (ns_th w hw))
    simp only [List.mem_cons, List.not_mem_nil, or_false] at hw
    rcases hw with rfl | rfl | rfl | rfl | rfl <;> rfl
