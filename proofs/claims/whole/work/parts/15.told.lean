def f_td_count (T : TdT) : Int32 := T.2.2
theorem td_cle {T : TdT} {r : Int32} {Q : Prop} (h : TdOk T) (w : f_td_count T = r ∧ Q) : r.toInt ≤ 330 := by
  rw [← w.1]; exact h.2
set_option maxHeartbeats 4000000 in
set_option maxRecDepth 100000 in
theorem c_td_count (l : Launch) (K : KT) (Th Ta0 Ta1 : Nat) (T : TdT) : Met l y_td_count w_td_count ({ frames := 0, cells := 0, slots := 0, locals := 0 } : Room) (va_Pc [.ref Th] (fun U => pRO K [(Th, .inr (4, [.ref Ta0, .ref Ta1, .int T.2.2])), (Ta0, .inl ((kI K), 330, .inl T.1)), (Ta1, .inl ((kI K), 330, .inl T.2.1))] U ∧ TdOk T ∧ True)) (vp_Si (fun r => f_td_count T = r ∧ True)) 0 0 (fun _ => False) := by
  refine Met.ofW (cc := b_td_count) (maxL := 1) (ret := (some .int)) (by decide) rfl ?_
  intro p e s m args below meth c s₁ B hml hv
  obtain ⟨rfl, ⟨hP, hK, hG⟩, ok_T, -⟩ := hv
  have hx := B.exec
  have hb := B.bytes
  have hr := B.returns
  have hts := atoms_spec (ws := w_td_count) B.pre
  have hown : s.vm.findClass R_td = some m.cls := findClass_of_methodNamed B.named
  have hlocks := B.notSynchronized
  have htg := fun w h => hts w (List.mem_cons_of_mem _ h)
  have hS : va_S (fun _ => False) s.heap s.heap [] := va_S.rf
  have hl := lv_entry ([.ref Th]) (n := 1) (Nat.le_of_ble_eq_true rfl)
  rw [lg_entry_eq]
  generalize (lg_sl ([.ref Th]) ++ List.replicate (1 - (lg_sl ([.ref Th])).length) Slot.unset).toArray = ls at hl ⊢
  have hl : lv_has ls 1 [(0, .ref Th)] := hl
  have hF := f_td_count.eq_1 T
  refine lv_aload_n hx hb d_td_count_0 rfl (lv_at hl 0 rfl) ?_
  refine va_get (D := kD K) (ci := 4) (v := .int T.2.2) (C := R_td) (T := T_td) (N := 3) hx hb htg in_td hown hK hP 0 rfl rfl 2 (by decide) (htg (.fieldLink R_td 18 "GameNotation$Told" "count" "I") q_59) (fun _ h9 => h9) rfl d_td_count_1 ?_
  exact W.iret (v := T.2.2) hx hb hr (fun t ht hW => ⟨_, rfl, ⟨hF, trivial⟩, ht⟩) hS.2.2 d_td_count_4
def f_td_clear (T : TdT) : TdT := (T.1, T.2.1, (0 : Int32))
set_option maxHeartbeats 4000000 in
set_option maxRecDepth 100000 in
theorem c_td_clear (l : Launch) (K : KT) (sz : Nat) (Th Ta0 Ta1 : Nat) (T : TdT) : Met l y_td_clear w_td_clear ({ frames := 0, cells := 0, slots := 0, locals := 0 } : Room) (va_Pc [.ref Th] (fun U => pMU K [(Th, .inr (4, [.ref Ta0, .ref Ta1, .int T.2.2])), (Ta0, .inl ((kI K), 330, .inl T.1)), (Ta1, .inl ((kI K), 330, .inl T.2.1))] sz U ∧ TdOk T ∧ True)) (va_Qv (fun u : TdT => f_td_clear T = u ∧ TdOk u ∧ True) (fun (u : TdT) (t : State) => va_P (kD K) vwCl [(Th, .inr (4, [.ref Ta0, .ref Ta1, .int u.2.2])), (Ta0, .inl ((kI K), 330, .inl u.1)), (Ta1, .inl ((kI K), 330, .inl u.2.1))] t.heap ∧ va_D (va_A [(Th, .inr (4, [.ref Ta0, .ref Ta1, .int T.2.2])), (Ta0, .inl ((kI K), 330, .inl T.1)), (Ta1, .inl ((kI K), 330, .inl T.2.1))] sz) [(Th, .inr (4, [.ref Ta0, .ref Ta1, .int u.2.2])), (Ta0, .inl ((kI K), 330, .inl u.1)), (Ta1, .inl ((kI K), 330, .inl u.2.1))]) (va_A [(Th, .inr (4, [.ref Ta0, .ref Ta1, .int T.2.2])), (Ta0, .inl ((kI K), 330, .inl T.1)), (Ta1, .inl ((kI K), 330, .inl T.2.1))] sz)) 0 0 (va_A [(Th, .inr (4, [.ref Ta0, .ref Ta1, .int T.2.2])), (Ta0, .inl ((kI K), 330, .inl T.1)), (Ta1, .inl ((kI K), 330, .inl T.2.1))] sz) := by
  refine Met.ofW (cc := b_td_clear) (maxL := 1) (ret := none) (by decide) rfl ?_
  intro p e s m args below meth c s₁ B hml hv
  obtain ⟨rfl, ⟨hsz, hP, hK, hD0, hG⟩, ok_T, -⟩ := hv
  have hx := B.exec
  have hb := B.bytes
  have hr := B.returns
  have hts := atoms_spec (ws := w_td_clear) B.pre
  have hown : s.vm.findClass R_td = some m.cls := findClass_of_methodNamed B.named
  have hlocks := B.notSynchronized
  have htg := fun w h => hts w (List.mem_cons_of_mem _ h)
  subst hsz
  have hD := hD0.self (sz := s.heap.size)
  generalize hAe : va_A [(Th, .inr (4, [.ref Ta0, .ref Ta1, .int T.2.2])), (Ta0, .inl ((kI K), 330, .inl T.1)), (Ta1, .inl ((kI K), 330, .inl T.2.1))] s.heap.size = A at hD hG ⊢
  have hA : ∀ q : Nat, s.heap.size ≤ q → A q := fun q h => by rw [← hAe]; exact Or.inr h
  have hS : va_S A s.heap s.heap [] := va_S.rf
  have hl := lv_entry ([.ref Th]) (n := 1) (Nat.le_of_ble_eq_true rfl)
  rw [lg_entry_eq]
  generalize (lg_sl ([.ref Th]) ++ List.replicate (1 - (lg_sl ([.ref Th])).length) Slot.unset).toArray = ls at hl ⊢
  have hl : lv_has ls 1 [(0, .ref Th)] := hl
  have hF := f_td_clear.eq_1 T
  refine lv_aload_n hx hb d_td_clear_0 rfl (lv_at hl 0 rfl) ?_
  refine lv_iconst (v := 0) hx hb d_td_clear_1 (by decide) ?_
  refine va_put (D := kD K) (ci := 4) (v := .int (0 : Int32)) (ty := .int) (C := R_td) (T := T_td) (N := 3) hx hb htg in_td ty_td ty_td_ok nm_td hown hK hP hD hS 0 rfl rfl 2 (by decide) (htg (.fieldLink R_td 18 "GameNotation$Told" "count" "I") q_59) (fun _ h9 => h9) rfl (by decide +kernel) rfl rfl (Nat.le_of_ble_eq_true rfl) d_td_clear_2 (fun H locs hP hD hS => ?_)
  have hP : va_P (kD K) vwCl [(Th, .inr (4, [.ref Ta0, .ref Ta1, .int (0 : Int32)])), (Ta0, .inl ((kI K), 330, .inl T.1)), (Ta1, .inl ((kI K), 330, .inl T.2.1))] _ := hP
  have hD : va_D A [(Th, .inr (4, [.ref Ta0, .ref Ta1, .int (0 : Int32)])), (Ta0, .inl ((kI K), 330, .inl T.1)), (Ta1, .inl ((kI K), 330, .inl T.2.1))] := hD
  exact W.vret hx hb hr (fun t ht hW => ⟨⟨(T.1, T.2.1, (0 : Int32)), rfl, ⟨hF, (tdok_clear), trivial⟩, ⟨by rw [ht]; exact hP, hD⟩⟩, hS.F ht⟩) hS.2.2 d_td_clear_5
def f_td_has (T : TdT) (ix : Int32) : Int32 := (if ix < 0 then (0 : Int32) else (if T.2.2 ≤ ix then (0 : Int32) else (if (330 : Int32) ≤ ix then (0 : Int32) else (1 : Int32))))
theorem td_in {T : TdT} {ix r : Int32} {Q : Prop} (w : f_td_has T ix = r ∧ Q) (c : ¬ r = 0) : vp_in ix 330 := by
  have e := w.1
  unfold f_td_has at e
  by_cases c1 : ix < 0
  · rw [if_pos c1] at e; exact absurd e.symm c
  · rw [if_neg c1] at e
    by_cases c2 : T.2.2 ≤ ix
    · rw [if_pos c2] at e; exact absurd e.symm c
    · rw [if_neg c2] at e
      by_cases c3 : (330 : Int32) ≤ ix
      · rw [if_pos c3] at e; exact absurd e.symm c
      · have h0 : (0 : Int32).toInt = 0 := by decide
        have h1 : (330 : Int32).toInt = 330 := by decide
        have := i_nlt c1; have := i_nle c3
        exact vp_in_iff.mpr ⟨by omega, by omega⟩
set_option maxHeartbeats 4000000 in
set_option maxRecDepth 100000 in
theorem c_td_has (l : Launch) (K : KT) (Th Ta0 Ta1 : Nat) (T : TdT) (ix : Int32) : Met l y_td_has w_td_has ({ frames := 0, cells := 0, slots := 0, locals := 0 } : Room) (va_Pc [.ref Th, .int ix] (fun U => pRO K [(Th, .inr (4, [.ref Ta0, .ref Ta1, .int T.2.2])), (Ta0, .inl ((kI K), 330, .inl T.1)), (Ta1, .inl ((kI K), 330, .inl T.2.1))] U ∧ TdOk T ∧ True)) (vp_Si (fun r => f_td_has T ix = r ∧ narrow .boolean (.int r) = .int r)) 0 0 (fun _ => False) := by
  refine Met.ofW (cc := b_td_has) (maxL := 2) (ret := (some .boolean)) (by decide) rfl ?_
  intro p e s m args below meth c s₁ B hml hv
  obtain ⟨rfl, ⟨hP, hK, hG⟩, ok_T, -⟩ := hv
  have hx := B.exec
  have hb := B.bytes
  have hr := B.returns
  have hts := atoms_spec (ws := w_td_has) B.pre
  have hown : s.vm.findClass R_td = some m.cls := findClass_of_methodNamed B.named
  have hlocks := B.notSynchronized
  have htg := fun w h => hts w (List.mem_cons_of_mem _ h)
  have hS : va_S (fun _ => False) s.heap s.heap [] := va_S.rf
  have hl := lv_entry ([.ref Th, .int ix]) (n := 2) (Nat.le_of_ble_eq_true rfl)
  rw [lg_entry_eq]
  generalize (lg_sl ([.ref Th, .int ix]) ++ List.replicate (2 - (lg_sl ([.ref Th, .int ix])).length) Slot.unset).toArray = ls at hl ⊢
  have hl : lv_has ls 2 [(0, .ref Th), (1, .int ix)] := hl
  have hF := f_td_has.eq_1 T ix
  refine lv_iload_n hx hb d_td_has_0 rfl (lv_at hl 1 rfl) ?_
  refine lv_if_lt (tgt := 23) hx hb d_td_has_1 (by decide) (fun c_1 => ?_) (fun c_1 => ?_)
  · have hF := hF.trans (if_pos c_1)
    refine lv_iconst (v := 0) hx hb d_td_has_23 (by decide) ?_
    exact W.zret (v := (0 : Int32)) hx hb hr (rfl) (fun t ht hW => ⟨_, rfl, ⟨hF, rfl⟩, ht⟩) hS.2.2 d_td_has_24
  · have hF := hF.trans (if_neg c_1)
    refine lv_iload_n hx hb d_td_has_4 rfl (lv_at hl 1 rfl) ?_
    refine lv_aload_n hx hb d_td_has_5 rfl (lv_at hl 0 rfl) ?_
    refine va_get (D := kD K) (ci := 4) (v := .int T.2.2) (C := R_td) (T := T_td) (N := 3) hx hb htg in_td hown hK hP 0 rfl rfl 2 (by decide) (htg (.fieldLink R_td 18 "GameNotation$Told" "count" "I") q_59) (fun _ h9 => h9) rfl d_td_has_6 ?_
    refine lv_icmp_ge (tgt := 23) hx hb d_td_has_9 (by decide) (fun c_2 => ?_) (fun c_2 => ?_)
    · have hF := hF.trans (if_pos c_2)
      refine lv_iconst (v := 0) hx hb d_td_has_23 (by decide) ?_
      exact W.zret (v := (0 : Int32)) hx hb hr (rfl) (fun t ht hW => ⟨_, rfl, ⟨hF, rfl⟩, ht⟩) hS.2.2 d_td_has_24
    · have hF := hF.trans (if_neg c_2)
      refine lv_iload_n hx hb d_td_has_12 rfl (lv_at hl 1 rfl) ?_
      refine lv_sipush (v := 330) hx hb d_td_has_13 (by decide) ?_
      refine lv_icmp_ge (tgt := 23) hx hb d_td_has_16 (by decide) (fun c_3 => ?_) (fun c_3 => ?_)
      · have hF := hF.trans (if_pos c_3)
        refine lv_iconst (v := 0) hx hb d_td_has_23 (by decide) ?_
        exact W.zret (v := (0 : Int32)) hx hb hr (rfl) (fun t ht hW => ⟨_, rfl, ⟨hF, rfl⟩, ht⟩) hS.2.2 d_td_has_24
      · have hF := hF.trans (if_neg c_3)
        refine lv_iconst (v := 1) hx hb d_td_has_19 (by decide) ?_
        refine lv_goto (tgt := 24) hx hb d_td_has_20 (by decide) ?_
        exact W.zret (v := (1 : Int32)) hx hb hr (rfl) (fun t ht hW => ⟨_, rfl, ⟨hF, rfl⟩, ht⟩) hS.2.2 d_td_has_24
def f_td_move (T : TdT) (ix : Int32) : Int32 := (bnd (f_td_has T ix) (fun r_1 => (if r_1 = 0 then (-1 : Int32) else (T.1 ix.toNatClampNeg))))
set_option maxHeartbeats 4000000 in
set_option maxRecDepth 100000 in
theorem c_td_move (l : Launch) (K : KT) (Th Ta0 Ta1 : Nat) (T : TdT) (ix : Int32) : Met l y_td_move w_td_move ({ frames := 1, cells := 0, slots := 0, locals := 21 } : Room) (va_Pc [.ref Th, .int ix] (fun U => pRO K [(Th, .inr (4, [.ref Ta0, .ref Ta1, .int T.2.2])), (Ta0, .inl ((kI K), 330, .inl T.1)), (Ta1, .inl ((kI K), 330, .inl T.2.1))] U ∧ TdOk T ∧ True)) (vp_Si (fun r => f_td_move T ix = r ∧ True)) 0 0 (fun _ => False) := by
  refine Met.ofW (cc := b_td_move) (maxL := 2) (ret := (some .int)) (by decide) rfl ?_
  intro p e s m args below meth c s₁ B hml hv
  obtain ⟨rfl, ⟨hP, hK, hG⟩, ok_T, -⟩ := hv
  have hx := B.exec
  have hb := B.bytes
  have hr := B.returns
  have hts := atoms_spec (ws := w_td_move) B.pre
  have hown : s.vm.findClass R_td = some m.cls := findClass_of_methodNamed B.named
  have hlocks := B.notSynchronized
  have htg := fun w h => hts w (List.mem_cons_of_mem _ h)
  have hS : va_S (fun _ => False) s.heap s.heap [] := va_S.rf
  have hl := lv_entry ([.ref Th, .int ix]) (n := 2) (Nat.le_of_ble_eq_true rfl)
  rw [lg_entry_eq]
  generalize (lg_sl ([.ref Th, .int ix]) ++ List.replicate (2 - (lg_sl ([.ref Th, .int ix])).length) Slot.unset).toArray = ls at hl ⊢
  have hl : lv_has ls 2 [(0, .ref Th), (1, .int ix)] := hl
  have hF := f_td_move.eq_1 T ix
  refine lv_aload_n hx hb d_td_move_0 rfl (lv_at hl 0 rfl) ?_
  refine lv_iload_n hx hb d_td_move_1 rfl (lv_at hl 1 rfl) ?_
  have hPc : va_P (kD K) vwCl [(Th, .inr (4, [.ref Ta0, .ref Ta1, .int T.2.2])), (Ta0, .inl ((kI K), 330, .inl T.1)), (Ta1, .inl ((kI K), 330, .inl T.2.1))] _ := hP.sub [0, 1, 2] rfl
  refine vp_callSi (va_Run.run (va_runV (As := [.int ix]) (rest := []) ⟨hx, hb, hml, hown, htg⟩ (c_td_has l K Th Ta0 Ta1 T ix) (cwV 1 htg (g_V q_602 q_604 qs_28 q_4 (g_w q_605)) rfl rfl rfl ⟨rfl, k_td_has⟩ ⟨Nat.le_of_ble_eq_true rfl, Nat.le_of_ble_eq_true rfl⟩) ⟨ro_blind, va_recv hK hPc (ci := 4) (q0 := 0) rfl rfl, ro_use hPc hK hG hS ⟨(by assumption), trivial⟩⟩ rfl rfl hl.1 rfl (lv_room (Nat.le_of_ble_eq_true rfl)) d_td_move_2 ⟨Nat.zero_le _, Nat.zero_le _⟩)) (fun r_1 hw_1 => ?_)
  have hF := hF.trans (bnd_s hw_1.1)
  have hn_1 := hw_1.2
  refine lv_if_eq (tgt := 17) hx hb d_td_move_5 (by decide) (fun c_2 => ?_) (fun c_2 => ?_)
  · have hF := hF.trans (if_pos c_2)
    refine lv_iconst (v := -1) hx hb d_td_move_17 (by decide) ?_
    exact W.iret (v := (-1 : Int32)) hx hb hr (fun t ht hW => ⟨_, rfl, ⟨hF, trivial⟩, ht⟩) hS.2.2 d_td_move_18
  · have hF := hF.trans (if_neg c_2)
    refine lv_aload_n hx hb d_td_move_8 rfl (lv_at hl 0 rfl) ?_
    refine va_get (D := kD K) (ci := 4) (v := .ref Ta0) (C := R_td) (T := T_td) (N := 3) hx hb htg in_td hown hK hP 0 rfl rfl 0 (by decide) (htg (.fieldLink R_td 9 "GameNotation$Told" "moves" "[I") q_57) (fun _ h9 => h9) rfl d_td_move_9 ?_
    refine lv_iload_n hx hb d_td_move_12 rfl (lv_at hl 1 rfl) ?_
    have h_3 : vp_in ix 330 := td_in hw_1 c_2
    refine va_iald hx hb hK hP 1 0 rfl rfl h_3 d_td_move_13 ?_
    refine lv_goto (tgt := 18) hx hb d_td_move_14 (by decide) ?_
    exact W.iret (v := T.1 ix.toNatClampNeg) hx hb hr (fun t ht hW => ⟨_, rfl, ⟨hF, trivial⟩, ht⟩) hS.2.2 d_td_move_18
def f_td_sign (T : TdT) (ix : Int32) : Int32 := (bnd (f_td_has T ix) (fun r_1 => (if r_1 = 0 then (-1 : Int32) else (T.2.1 ix.toNatClampNeg))))
set_option maxHeartbeats 4000000 in
set_option maxRecDepth 100000 in
theorem c_td_sign (l : Launch) (K : KT) (Th Ta0 Ta1 : Nat) (T : TdT) (ix : Int32) : Met l y_td_sign w_td_sign ({ frames := 1, cells := 0, slots := 0, locals := 21 } : Room) (va_Pc [.ref Th, .int ix] (fun U => pRO K [(Th, .inr (4, [.ref Ta0, .ref Ta1, .int T.2.2])), (Ta0, .inl ((kI K), 330, .inl T.1)), (Ta1, .inl ((kI K), 330, .inl T.2.1))] U ∧ TdOk T ∧ True)) (vp_Si (fun r => f_td_sign T ix = r ∧ True)) 0 0 (fun _ => False) := by
  refine Met.ofW (cc := b_td_sign) (maxL := 2) (ret := (some .int)) (by decide) rfl ?_
  intro p e s m args below meth c s₁ B hml hv
  obtain ⟨rfl, ⟨hP, hK, hG⟩, ok_T, -⟩ := hv
  have hx := B.exec
  have hb := B.bytes
  have hr := B.returns
  have hts := atoms_spec (ws := w_td_sign) B.pre
  have hown : s.vm.findClass R_td = some m.cls := findClass_of_methodNamed B.named
  have hlocks := B.notSynchronized
  have htg := fun w h => hts w (List.mem_cons_of_mem _ h)
  have hS : va_S (fun _ => False) s.heap s.heap [] := va_S.rf
  have hl := lv_entry ([.ref Th, .int ix]) (n := 2) (Nat.le_of_ble_eq_true rfl)
  rw [lg_entry_eq]
  generalize (lg_sl ([.ref Th, .int ix]) ++ List.replicate (2 - (lg_sl ([.ref Th, .int ix])).length) Slot.unset).toArray = ls at hl ⊢
  have hl : lv_has ls 2 [(0, .ref Th), (1, .int ix)] := hl
  have hF := f_td_sign.eq_1 T ix
  refine lv_aload_n hx hb d_td_sign_0 rfl (lv_at hl 0 rfl) ?_
  refine lv_iload_n hx hb d_td_sign_1 rfl (lv_at hl 1 rfl) ?_
  have hPc : va_P (kD K) vwCl [(Th, .inr (4, [.ref Ta0, .ref Ta1, .int T.2.2])), (Ta0, .inl ((kI K), 330, .inl T.1)), (Ta1, .inl ((kI K), 330, .inl T.2.1))] _ := hP.sub [0, 1, 2] rfl
  refine vp_callSi (va_Run.run (va_runV (As := [.int ix]) (rest := []) ⟨hx, hb, hml, hown, htg⟩ (c_td_has l K Th Ta0 Ta1 T ix) (cwV 1 htg (g_V q_602 q_604 qs_28 q_4 (g_w q_605)) rfl rfl rfl ⟨rfl, k_td_has⟩ ⟨Nat.le_of_ble_eq_true rfl, Nat.le_of_ble_eq_true rfl⟩) ⟨ro_blind, va_recv hK hPc (ci := 4) (q0 := 0) rfl rfl, ro_use hPc hK hG hS ⟨(by assumption), trivial⟩⟩ rfl rfl hl.1 rfl (lv_room (Nat.le_of_ble_eq_true rfl)) d_td_sign_2 ⟨Nat.zero_le _, Nat.zero_le _⟩)) (fun r_1 hw_1 => ?_)
  have hF := hF.trans (bnd_s hw_1.1)
  have hn_1 := hw_1.2
  refine lv_if_eq (tgt := 17) hx hb d_td_sign_5 (by decide) (fun c_2 => ?_) (fun c_2 => ?_)
  · have hF := hF.trans (if_pos c_2)
    refine lv_iconst (v := -1) hx hb d_td_sign_17 (by decide) ?_
    exact W.iret (v := (-1 : Int32)) hx hb hr (fun t ht hW => ⟨_, rfl, ⟨hF, trivial⟩, ht⟩) hS.2.2 d_td_sign_18
  · have hF := hF.trans (if_neg c_2)
    refine lv_aload_n hx hb d_td_sign_8 rfl (lv_at hl 0 rfl) ?_
    refine va_get (D := kD K) (ci := 4) (v := .ref Ta1) (C := R_td) (T := T_td) (N := 3) hx hb htg in_td hown hK hP 0 rfl rfl 1 (by decide) (htg (.fieldLink R_td 15 "GameNotation$Told" "signs" "[I") q_58) (fun _ h9 => h9) rfl d_td_sign_9 ?_
    refine lv_iload_n hx hb d_td_sign_12 rfl (lv_at hl 1 rfl) ?_
    have h_3 : vp_in ix 330 := td_in hw_1 c_2
    refine va_iald hx hb hK hP 2 0 rfl rfl h_3 d_td_sign_13 ?_
    refine lv_goto (tgt := 18) hx hb d_td_sign_14 (by decide) ?_
    exact W.iret (v := T.2.1 ix.toNatClampNeg) hx hb hr (fun t ht hW => ⟨_, rfl, ⟨hF, trivial⟩, ht⟩) hS.2.2 d_td_sign_18
def f_td_indexOf_L2 (T : TdT) (mv : Int32) : Nat → Int32 → Int32
  | 0, _ => 0
  | n + 1, v2 => (if T.2.2 ≤ v2 then (-1 : Int32) else (if (330 : Int32) ≤ v2 then (-1 : Int32) else (if (T.1 v2.toNatClampNeg) = mv then v2 else (f_td_indexOf_L2 T mv  n (v2 + (1 : Int32))))))
def f_td_indexOf (T : TdT) (mv : Int32) : Int32 := (f_td_indexOf_L2 T mv  331 (0 : Int32))
set_option maxHeartbeats 4000000 in
set_option maxRecDepth 100000 in
theorem c_td_indexOf (l : Launch) (K : KT) (Th Ta0 Ta1 : Nat) (T : TdT) (mv : Int32) : Met l y_td_indexOf w_td_indexOf ({ frames := 0, cells := 0, slots := 0, locals := 0 } : Room) (va_Pc [.ref Th, .int mv] (fun U => pRO K [(Th, .inr (4, [.ref Ta0, .ref Ta1, .int T.2.2])), (Ta0, .inl ((kI K), 330, .inl T.1)), (Ta1, .inl ((kI K), 330, .inl T.2.1))] U ∧ TdOk T ∧ True)) (vp_Si (fun r => f_td_indexOf T mv = r ∧ True)) 0 0 (fun _ => False) := by
  refine Met.ofW (cc := b_td_indexOf) (maxL := 3) (ret := (some .int)) (by decide) rfl ?_
  intro p e s m args below meth c s₁ B hml hv
  obtain ⟨rfl, ⟨hP, hK, hG⟩, ok_T, -⟩ := hv
  have hx := B.exec
  have hb := B.bytes
  have hr := B.returns
  have hts := atoms_spec (ws := w_td_indexOf) B.pre
  have hown : s.vm.findClass R_td = some m.cls := findClass_of_methodNamed B.named
  have hlocks := B.notSynchronized
  have htg := fun w h => hts w (List.mem_cons_of_mem _ h)
  have hS : va_S (fun _ => False) s.heap s.heap [] := va_S.rf
  have hl := lv_entry ([.ref Th, .int mv]) (n := 3) (Nat.le_of_ble_eq_true rfl)
  rw [lg_entry_eq]
  generalize (lg_sl ([.ref Th, .int mv]) ++ List.replicate (3 - (lg_sl ([.ref Th, .int mv])).length) Slot.unset).toArray = ls at hl ⊢
  have hl : lv_has ls 3 [(0, .ref Th), (1, .int mv)] := hl
  have hF := f_td_indexOf.eq_1 T mv
  refine lv_iconst (v := 0) hx hb d_td_indexOf_0 (by decide) ?_
  refine lv_istore_n (lv' := [(2, .int (0 : Int32)), (0, .ref Th), (1, .int mv)]) hx hb d_td_indexOf_1 rfl hl (by decide) rfl (fun ls hl => ?_)
  have loop2 : ∀ (n2 : Nat) (v2 : Int32) (ls : Array Slot), 0 ≤ v2.toInt → (330 - v2.toInt).toNat < n2 → lv_has ls 3 [(0, .ref Th), (1, .int mv), (2, .int v2)] → f_td_indexOf T mv = f_td_indexOf_L2 T mv  n2 v2 → W p l e (headSpec w_td_indexOf ({ frames := 0, cells := 0, slots := 0, locals := 0 } : Room)).room s m ([(.ref Th : Value), .int mv].toArray) below meth c s.heap [] 0 0 (MQ below (vp_Si (fun r => f_td_indexOf T mv = r ∧ True)) ([(.ref Th : Value), .int mv].toArray) s 0 0 ((fun _ => False))) (F0 m 2 ls []) := by
    intro n2
    induction n2 with
    | zero =>
      intro _ _ _ hz
      exact absurd hz (Nat.not_lt_zero _)
    | succ n2 ih2 =>
      intro v2 ls i0 hm hl hF
      rw [f_td_indexOf_L2] at hF
      refine lv_iload_n hx hb d_td_indexOf_2 rfl (lv_at hl 2 rfl) ?_
      refine lv_aload_n hx hb d_td_indexOf_3 rfl (lv_at hl 0 rfl) ?_
      refine va_get (D := kD K) (ci := 4) (v := .int T.2.2) (C := R_td) (T := T_td) (N := 3) hx hb htg in_td hown hK hP 0 rfl rfl 2 (by decide) (htg (.fieldLink R_td 18 "GameNotation$Told" "count" "I") q_59) (fun _ h9 => h9) rfl d_td_indexOf_4 ?_
      refine lv_icmp_ge (tgt := 35) hx hb d_td_indexOf_7 (by decide) (fun c_1 => ?_) (fun c_1 => ?_)
      · have hF := hF.trans (if_pos c_1)
        refine lv_iconst (v := -1) hx hb d_td_indexOf_35 (by decide) ?_
        exact W.iret (v := (-1 : Int32)) hx hb hr (fun t ht hW => ⟨_, rfl, ⟨hF, trivial⟩, ht⟩) hS.2.2 d_td_indexOf_36
      · have hF := hF.trans (if_neg c_1)
        refine lv_iload_n hx hb d_td_indexOf_10 rfl (lv_at hl 2 rfl) ?_
        refine lv_sipush (v := 330) hx hb d_td_indexOf_11 (by decide) ?_
        refine lv_icmp_ge (tgt := 35) hx hb d_td_indexOf_14 (by decide) (fun c_2 => ?_) (fun c_2 => ?_)
        · have hF := hF.trans (if_pos c_2)
          refine lv_iconst (v := -1) hx hb d_td_indexOf_35 (by decide) ?_
          exact W.iret (v := (-1 : Int32)) hx hb hr (fun t ht hW => ⟨_, rfl, ⟨hF, trivial⟩, ht⟩) hS.2.2 d_td_indexOf_36
        · have hF := hF.trans (if_neg c_2)
          refine lv_aload_n hx hb d_td_indexOf_17 rfl (lv_at hl 0 rfl) ?_
          refine va_get (D := kD K) (ci := 4) (v := .ref Ta0) (C := R_td) (T := T_td) (N := 3) hx hb htg in_td hown hK hP 0 rfl rfl 0 (by decide) (htg (.fieldLink R_td 9 "GameNotation$Told" "moves" "[I") q_57) (fun _ h9 => h9) rfl d_td_indexOf_18 ?_
          refine lv_iload_n hx hb d_td_indexOf_21 rfl (lv_at hl 2 rfl) ?_
          have h_3 : vp_in v2 330 := lp_in i0 c_2 (by decide)
          refine va_iald hx hb hK hP 1 0 rfl rfl h_3 d_td_indexOf_22 ?_
          refine lv_iload_n hx hb d_td_indexOf_23 rfl (lv_at hl 1 rfl) ?_
          refine lv_icmp_ne (tgt := 29) hx hb d_td_indexOf_24 (by decide) (fun c_4 => ?_) (fun c_4 => ?_)
          · have hF := hF.trans (if_neg c_4)
            refine lv_iinc (v := v2 + (1 : Int32)) (lv' := [(2, .int (v2 + (1 : Int32))), (0, .ref Th), (1, .int mv)]) hx hb d_td_indexOf_29 hl (k := 2) rfl rfl (by decide) rfl (fun ls hl => ?_)
            refine lv_goto (tgt := 2) hx hb d_td_indexOf_32 (by decide) ?_
            exact ih2  (v2 + (1 : Int32)) ls (lp_s i0 c_2) (lp_d i0 c_2 (by decide) hm) (lv_sub hl [1, 2, 0] rfl) hF
          · have hF := hF.trans (if_pos c_4)
            refine lv_iload_n hx hb d_td_indexOf_27 rfl (lv_at hl 2 rfl) ?_
            exact W.iret (v := v2) hx hb hr (fun t ht hW => ⟨_, rfl, ⟨hF, trivial⟩, ht⟩) hS.2.2 d_td_indexOf_28
  exact loop2 331 (0 : Int32) ls (by decide) (by decide) (lv_sub hl [1, 2, 0] rfl) hF
def f_td_take (T : TdT) (mv : Int32) (sg : Int32) : Int32 × TdT := (if (330 : Int32) ≤ T.2.2 then ((0 : Int32), T) else (bnd (f_td_indexOf T mv) (fun r_2 => (if r_2 = (-1 : Int32) then ((1 : Int32), (upd T.1 T.2.2.toNatClampNeg mv, upd T.2.1 T.2.2.toNatClampNeg sg, T.2.2 + (1 : Int32))) else ((0 : Int32), T)))))
set_option maxHeartbeats 4000000 in
set_option maxRecDepth 100000 in
theorem c_td_take (l : Launch) (K : KT) (sz : Nat) (Th Ta0 Ta1 : Nat) (T : TdT) (mv : Int32) (sg : Int32) : Met l y_td_take w_td_take ({ frames := 1, cells := 0, slots := 0, locals := 22 } : Room) (va_Pc [.ref Th, .int mv, .int sg] (fun U => pMU K [(Th, .inr (4, [.ref Ta0, .ref Ta1, .int T.2.2])), (Ta0, .inl ((kI K), 330, .inl T.1)), (Ta1, .inl ((kI K), 330, .inl T.2.1))] sz U ∧ TdOk T ∧ True)) (va_Qi (fun (r : Int32) (u : TdT) => f_td_take T mv sg = (r, u) ∧ narrow .boolean (.int r) = .int r ∧ TdOk u ∧ True) (fun (u : TdT) (t : State) => va_P (kD K) vwCl [(Th, .inr (4, [.ref Ta0, .ref Ta1, .int u.2.2])), (Ta0, .inl ((kI K), 330, .inl u.1)), (Ta1, .inl ((kI K), 330, .inl u.2.1))] t.heap ∧ va_D (va_A [(Th, .inr (4, [.ref Ta0, .ref Ta1, .int T.2.2])), (Ta0, .inl ((kI K), 330, .inl T.1)), (Ta1, .inl ((kI K), 330, .inl T.2.1))] sz) [(Th, .inr (4, [.ref Ta0, .ref Ta1, .int u.2.2])), (Ta0, .inl ((kI K), 330, .inl u.1)), (Ta1, .inl ((kI K), 330, .inl u.2.1))]) (va_A [(Th, .inr (4, [.ref Ta0, .ref Ta1, .int T.2.2])), (Ta0, .inl ((kI K), 330, .inl T.1)), (Ta1, .inl ((kI K), 330, .inl T.2.1))] sz)) 0 0 (va_A [(Th, .inr (4, [.ref Ta0, .ref Ta1, .int T.2.2])), (Ta0, .inl ((kI K), 330, .inl T.1)), (Ta1, .inl ((kI K), 330, .inl T.2.1))] sz) := by
  refine Met.ofW (cc := b_td_take) (maxL := 3) (ret := (some .boolean)) (by decide) rfl ?_
  intro p e s m args below meth c s₁ B hml hv
  obtain ⟨rfl, ⟨hsz, hP, hK, hD0, hG⟩, ok_T, -⟩ := hv
  have hx := B.exec
  have hb := B.bytes
  have hr := B.returns
  have hts := atoms_spec (ws := w_td_take) B.pre
  have hown : s.vm.findClass R_td = some m.cls := findClass_of_methodNamed B.named
  have hlocks := B.notSynchronized
  have htg := fun w h => hts w (List.mem_cons_of_mem _ h)
  subst hsz
  have hD := hD0.self (sz := s.heap.size)
  generalize hAe : va_A [(Th, .inr (4, [.ref Ta0, .ref Ta1, .int T.2.2])), (Ta0, .inl ((kI K), 330, .inl T.1)), (Ta1, .inl ((kI K), 330, .inl T.2.1))] s.heap.size = A at hD hG ⊢
  have hA : ∀ q : Nat, s.heap.size ≤ q → A q := fun q h => by rw [← hAe]; exact Or.inr h
  have hS : va_S A s.heap s.heap [] := va_S.rf
  have hl := lv_entry ([.ref Th, .int mv, .int sg]) (n := 3) (Nat.le_of_ble_eq_true rfl)
  rw [lg_entry_eq]
  generalize (lg_sl ([.ref Th, .int mv, .int sg]) ++ List.replicate (3 - (lg_sl ([.ref Th, .int mv, .int sg])).length) Slot.unset).toArray = ls at hl ⊢
  have hl : lv_has ls 3 [(0, .ref Th), (1, .int mv), (2, .int sg)] := hl
  have hF := f_td_take.eq_1 T mv sg
  refine lv_aload_n hx hb d_td_take_0 rfl (lv_at hl 0 rfl) ?_
  refine va_get (D := kD K) (ci := 4) (v := .int T.2.2) (C := R_td) (T := T_td) (N := 3) hx hb htg in_td hown hK hP 0 rfl rfl 2 (by decide) (htg (.fieldLink R_td 18 "GameNotation$Told" "count" "I") q_59) (fun _ h9 => h9) rfl d_td_take_1 ?_
  refine lv_sipush (v := 330) hx hb d_td_take_4 (by decide) ?_
  refine lv_icmp_ge (tgt := 19) hx hb d_td_take_7 (by decide) (fun c_1 => ?_) (fun c_1 => ?_)
  · have hF := hF.trans (if_pos c_1)
    refine lv_iconst (v := 0) hx hb d_td_take_19 (by decide) ?_
    exact W.zret (v := (0 : Int32)) hx hb hr (rfl) (fun t ht hW => ⟨⟨(0 : Int32), T, rfl, ⟨hF, rfl, (by assumption), trivial⟩, ⟨by rw [ht]; exact hP, hD⟩⟩, hS.F ht⟩) hS.2.2 d_td_take_20
  · have hF := hF.trans (if_neg c_1)
    refine lv_aload_n hx hb d_td_take_10 rfl (lv_at hl 0 rfl) ?_
    refine lv_iload_n hx hb d_td_take_11 rfl (lv_at hl 1 rfl) ?_
    have hPc : va_P (kD K) vwCl [(Th, .inr (4, [.ref Ta0, .ref Ta1, .int T.2.2])), (Ta0, .inl ((kI K), 330, .inl T.1)), (Ta1, .inl ((kI K), 330, .inl T.2.1))] _ := hP.sub [0, 1, 2] rfl
    refine vp_callSi (va_Run.run (va_runV (As := [.int mv]) (rest := []) ⟨hx, hb, hml, hown, htg⟩ (c_td_indexOf l K Th Ta0 Ta1 T mv) (cwV 1 htg (g_V q_535 q_536 q_537 q_4 (g_w q_538)) rfl rfl rfl ⟨rfl, k_td_indexOf⟩ ⟨Nat.le_of_ble_eq_true rfl, Nat.le_of_ble_eq_true rfl⟩) ⟨ro_blind, va_recv hK hPc (ci := 4) (q0 := 0) rfl rfl, ro_use hPc hK hG hS ⟨(by assumption), trivial⟩⟩ rfl rfl hl.1 rfl (lv_room (Nat.le_of_ble_eq_true rfl)) d_td_take_12 ⟨Nat.zero_le _, Nat.zero_le _⟩)) (fun r_2 hw_2 => ?_)
    have hF := hF.trans (bnd_s hw_2.1)
    refine lv_iconst (v := -1) hx hb d_td_take_15 (by decide) ?_
    refine lv_icmp_eq (tgt := 21) hx hb d_td_take_16 (by decide) (fun c_3 => ?_) (fun c_3 => ?_)
    · have hF := hF.trans (if_pos c_3)
      refine lv_aload_n hx hb d_td_take_21 rfl (lv_at hl 0 rfl) ?_
      refine va_get (D := kD K) (ci := 4) (v := .ref Ta0) (C := R_td) (T := T_td) (N := 3) hx hb htg in_td hown hK hP 0 rfl rfl 0 (by decide) (htg (.fieldLink R_td 9 "GameNotation$Told" "moves" "[I") q_57) (fun _ h9 => h9) rfl d_td_take_22 ?_
      refine lv_aload_n hx hb d_td_take_25 rfl (lv_at hl 0 rfl) ?_
      refine va_get (D := kD K) (ci := 4) (v := .int T.2.2) (C := R_td) (T := T_td) (N := 3) hx hb htg in_td hown hK hP 0 rfl rfl 2 (by decide) (htg (.fieldLink R_td 18 "GameNotation$Told" "count" "I") q_59) (fun _ h9 => h9) rfl d_td_take_26 ?_
      refine lv_iload_n hx hb d_td_take_29 rfl (lv_at hl 1 rfl) ?_
      have h_4 : vp_in T.2.2 330 := tdok_in ok_T c_1
      refine va_iast hx hb hK hP hD hS 1 0 rfl rfl h_4 d_td_take_30 (fun H locs hP hD hS => ?_)
      have hP : va_P (kD K) vwCl [(Th, .inr (4, [.ref Ta0, .ref Ta1, .int T.2.2])), (Ta0, .inl ((kI K), 330, .inl (upd T.1 T.2.2.toNatClampNeg mv))), (Ta1, .inl ((kI K), 330, .inl T.2.1))] _ := hP
      have hD : va_D A [(Th, .inr (4, [.ref Ta0, .ref Ta1, .int T.2.2])), (Ta0, .inl ((kI K), 330, .inl (upd T.1 T.2.2.toNatClampNeg mv))), (Ta1, .inl ((kI K), 330, .inl T.2.1))] := hD
      refine lv_aload_n hx hb d_td_take_31 rfl (lv_at hl 0 rfl) ?_
      refine va_get (D := kD K) (ci := 4) (v := .ref Ta1) (C := R_td) (T := T_td) (N := 3) hx hb htg in_td hown hK hP 0 rfl rfl 1 (by decide) (htg (.fieldLink R_td 15 "GameNotation$Told" "signs" "[I") q_58) (fun _ h9 => h9) rfl d_td_take_32 ?_
      refine lv_aload_n hx hb d_td_take_35 rfl (lv_at hl 0 rfl) ?_
      refine va_get (D := kD K) (ci := 4) (v := .int T.2.2) (C := R_td) (T := T_td) (N := 3) hx hb htg in_td hown hK hP 0 rfl rfl 2 (by decide) (htg (.fieldLink R_td 18 "GameNotation$Told" "count" "I") q_59) (fun _ h9 => h9) rfl d_td_take_36 ?_
      refine lv_iload_n hx hb d_td_take_39 rfl (lv_at hl 2 rfl) ?_
      have h_5 : vp_in T.2.2 330 := tdok_in ok_T c_1
      refine va_iast hx hb hK hP hD hS 2 0 rfl rfl h_5 d_td_take_40 (fun H locs hP hD hS => ?_)
      have hP : va_P (kD K) vwCl [(Th, .inr (4, [.ref Ta0, .ref Ta1, .int T.2.2])), (Ta0, .inl ((kI K), 330, .inl (upd T.1 T.2.2.toNatClampNeg mv))), (Ta1, .inl ((kI K), 330, .inl (upd T.2.1 T.2.2.toNatClampNeg sg)))] _ := hP
      have hD : va_D A [(Th, .inr (4, [.ref Ta0, .ref Ta1, .int T.2.2])), (Ta0, .inl ((kI K), 330, .inl (upd T.1 T.2.2.toNatClampNeg mv))), (Ta1, .inl ((kI K), 330, .inl (upd T.2.1 T.2.2.toNatClampNeg sg)))] := hD
      refine lv_aload_n hx hb d_td_take_41 rfl (lv_at hl 0 rfl) ?_
      refine lv_dup hx hb d_td_take_42 rfl ?_
      refine va_get (D := kD K) (ci := 4) (v := .int T.2.2) (C := R_td) (T := T_td) (N := 3) hx hb htg in_td hown hK hP 0 rfl rfl 2 (by decide) (htg (.fieldLink R_td 18 "GameNotation$Told" "count" "I") q_59) (fun _ h9 => h9) rfl d_td_take_43 ?_
      refine lv_iconst (v := 1) hx hb d_td_take_46 (by decide) ?_
      refine lv_iadd hx hb d_td_take_47 ?_
      refine va_put (D := kD K) (ci := 4) (v := .int (T.2.2 + (1 : Int32))) (ty := .int) (C := R_td) (T := T_td) (N := 3) hx hb htg in_td ty_td ty_td_ok nm_td hown hK hP hD hS 0 rfl rfl 2 (by decide) (htg (.fieldLink R_td 18 "GameNotation$Told" "count" "I") q_59) (fun _ h9 => h9) rfl (by decide +kernel) rfl rfl (Nat.le_of_ble_eq_true rfl) d_td_take_48 (fun H locs hP hD hS => ?_)
      have hP : va_P (kD K) vwCl [(Th, .inr (4, [.ref Ta0, .ref Ta1, .int (T.2.2 + (1 : Int32))])), (Ta0, .inl ((kI K), 330, .inl (upd T.1 T.2.2.toNatClampNeg mv))), (Ta1, .inl ((kI K), 330, .inl (upd T.2.1 T.2.2.toNatClampNeg sg)))] _ := hP
      have hD : va_D A [(Th, .inr (4, [.ref Ta0, .ref Ta1, .int (T.2.2 + (1 : Int32))])), (Ta0, .inl ((kI K), 330, .inl (upd T.1 T.2.2.toNatClampNeg mv))), (Ta1, .inl ((kI K), 330, .inl (upd T.2.1 T.2.2.toNatClampNeg sg)))] := hD
      refine lv_iconst (v := 1) hx hb d_td_take_51 (by decide) ?_
      exact W.zret (v := (1 : Int32)) hx hb hr (rfl) (fun t ht hW => ⟨⟨(1 : Int32), (upd T.1 T.2.2.toNatClampNeg mv, upd T.2.1 T.2.2.toNatClampNeg sg, T.2.2 + (1 : Int32)), rfl, ⟨hF, rfl, (tdok_add ok_T c_1), trivial⟩, ⟨by rw [ht]; exact hP, hD⟩⟩, hS.F ht⟩) hS.2.2 d_td_take_52
    · have hF := hF.trans (if_neg c_3)
      refine lv_iconst (v := 0) hx hb d_td_take_19 (by decide) ?_
      exact W.zret (v := (0 : Int32)) hx hb hr (rfl) (fun t ht hW => ⟨⟨(0 : Int32), T, rfl, ⟨hF, rfl, (by assumption), trivial⟩, ⟨by rw [ht]; exact hP, hD⟩⟩, hS.F ht⟩) hS.2.2 d_td_take_20
def f_td_isRival (ot : Int32) (mv : Int32) (P : PsT) : Int32 := (bnd (f_gn_toOf ot) (fun r_1 => (bnd (f_gn_toOf mv) (fun r_2 => (if r_1 = r_2 then (bnd (f_gn_fromOf ot) (fun r_4 => (bnd (f_gn_fromOf mv) (fun r_5 => (if r_4 = r_5 then (0 : Int32) else (bnd (f_gn_fromOf ot) (fun r_7 => (bnd (f_ps_manOn P r_7) (fun r_8 => (bnd (f_gn_fromOf mv) (fun r_9 => (bnd (f_ps_manOn P r_9) (fun r_10 => (if r_8 = r_10 then (1 : Int32) else (0 : Int32))))))))))))))) else (0 : Int32))))))
set_option maxHeartbeats 4000000 in
set_option maxRecDepth 100000 in
theorem c_td_isRival (l : Launch) (K : KT) (ot : Int32) (mv : Int32) (Ph Pa0 : Nat) (P : PsT) : Met l y_td_isRival w_td_isRival ({ frames := 1, cells := 0, slots := 0, locals := 21 } : Room) (va_Pc [.int ot, .int mv, .ref Ph] (fun U => pRO K [(Ph, .inr (2, [.ref Pa0, .int P.2.1, .int P.2.2.1, .int P.2.2.2.1, .int P.2.2.2.2.1, .int P.2.2.2.2.2])), (Pa0, .inl ((kI K), 64, .inl P.1))] U ∧ True)) (vp_Si (fun r => f_td_isRival ot mv P = r ∧ narrow .boolean (.int r) = .int r)) 0 0 (fun _ => False) := by
  refine Met.ofW (cc := b_td_isRival) (maxL := 3) (ret := (some .boolean)) (by decide) rfl ?_
  intro p e s m args below meth c s₁ B hml hv
  obtain ⟨rfl, ⟨hP, hK, hG⟩, -⟩ := hv
  have hx := B.exec
  have hb := B.bytes
  have hr := B.returns
  have hts := atoms_spec (ws := w_td_isRival) B.pre
  have hown : s.vm.findClass R_td = some m.cls := findClass_of_methodNamed B.named
  have hlocks := B.notSynchronized
  have htg := fun w h => hts w (List.mem_cons_of_mem _ h)
  have hS : va_S (fun _ => False) s.heap s.heap [] := va_S.rf
  have hl := lv_entry ([.int ot, .int mv, .ref Ph]) (n := 3) (Nat.le_of_ble_eq_true rfl)
  rw [lg_entry_eq]
  generalize (lg_sl ([.int ot, .int mv, .ref Ph]) ++ List.replicate (3 - (lg_sl ([.int ot, .int mv, .ref Ph])).length) Slot.unset).toArray = ls at hl ⊢
  have hl : lv_has ls 3 [(0, .int ot), (1, .int mv), (2, .ref Ph)] := hl
  have hF := f_td_isRival.eq_1 ot mv P
  refine lv_iload_n hx hb d_td_isRival_0 rfl (lv_at hl 0 rfl) ?_
  have hPc : va_P (kD K) vwCl [] _ := hP.sub [] rfl
  refine vp_callSi (va_Run.run (va_runSN (As := [.int ot]) (rest := []) ⟨hx, hb, hml, hown, htg⟩ (c_gn_toOf l K ot) (⟨va_cnB 1 htg (g_w q_529) rfl rfl rfl (hG.nw 41 rfl) (htg _ q_1) k_gn_toOf ⟨Nat.le_of_ble_eq_true rfl, Nat.le_of_ble_eq_true rfl⟩, htg _ q_528, trivial⟩) ⟨ro_blind, ro_use hPc hK hG hS trivial⟩ rfl rfl hl.1 rfl (lv_room (Nat.le_of_ble_eq_true rfl)) d_td_isRival_1 ⟨Nat.zero_le _, Nat.zero_le _⟩)) (fun r_1 hw_1 => ?_)
  have hF := hF.trans (bnd_s hw_1.1)
  refine lv_iload_n hx hb d_td_isRival_4 rfl (lv_at hl 1 rfl) ?_
  have hPc : va_P (kD K) vwCl [] _ := hP.sub [] rfl
  refine vp_callSi (va_Run.run (va_runSN (As := [.int mv]) (rest := [.int r_1]) ⟨hx, hb, hml, hown, htg⟩ (c_gn_toOf l K mv) (⟨va_cnB 1 htg (g_w q_529) rfl rfl rfl (hG.nw 41 rfl) (htg _ q_1) k_gn_toOf ⟨Nat.le_of_ble_eq_true rfl, Nat.le_of_ble_eq_true rfl⟩, htg _ q_528, trivial⟩) ⟨ro_blind, ro_use hPc hK hG hS trivial⟩ rfl rfl hl.1 rfl (lv_room (Nat.le_of_ble_eq_true rfl)) d_td_isRival_5 ⟨Nat.zero_le _, Nat.zero_le _⟩)) (fun r_2 hw_2 => ?_)
  have hF := hF.trans (bnd_s hw_2.1)
  refine lv_icmp_ne (tgt := 45) hx hb d_td_isRival_8 (by decide) (fun c_3 => ?_) (fun c_3 => ?_)
  · have hF := hF.trans (if_neg c_3)
    refine lv_iconst (v := 0) hx hb d_td_isRival_45 (by decide) ?_
    exact W.zret (v := (0 : Int32)) hx hb hr (rfl) (fun t ht hW => ⟨_, rfl, ⟨hF, rfl⟩, ht⟩) hS.2.2 d_td_isRival_46
  · have hF := hF.trans (if_pos c_3)
    refine lv_iload_n hx hb d_td_isRival_11 rfl (lv_at hl 0 rfl) ?_
    have hPc : va_P (kD K) vwCl [] _ := hP.sub [] rfl
    refine vp_callSi (va_Run.run (va_runSN (As := [.int ot]) (rest := []) ⟨hx, hb, hml, hown, htg⟩ (c_gn_fromOf l K ot) (⟨va_cnB 1 htg (g_w q_526) rfl rfl rfl (hG.nw 38 rfl) (htg _ q_1) k_gn_fromOf ⟨Nat.le_of_ble_eq_true rfl, Nat.le_of_ble_eq_true rfl⟩, htg _ q_525, trivial⟩) ⟨ro_blind, ro_use hPc hK hG hS trivial⟩ rfl rfl hl.1 rfl (lv_room (Nat.le_of_ble_eq_true rfl)) d_td_isRival_12 ⟨Nat.zero_le _, Nat.zero_le _⟩)) (fun r_4 hw_4 => ?_)
    have hF := hF.trans (bnd_s hw_4.1)
    refine lv_iload_n hx hb d_td_isRival_15 rfl (lv_at hl 1 rfl) ?_
    have hPc : va_P (kD K) vwCl [] _ := hP.sub [] rfl
    refine vp_callSi (va_Run.run (va_runSN (As := [.int mv]) (rest := [.int r_4]) ⟨hx, hb, hml, hown, htg⟩ (c_gn_fromOf l K mv) (⟨va_cnB 1 htg (g_w q_526) rfl rfl rfl (hG.nw 38 rfl) (htg _ q_1) k_gn_fromOf ⟨Nat.le_of_ble_eq_true rfl, Nat.le_of_ble_eq_true rfl⟩, htg _ q_525, trivial⟩) ⟨ro_blind, ro_use hPc hK hG hS trivial⟩ rfl rfl hl.1 rfl (lv_room (Nat.le_of_ble_eq_true rfl)) d_td_isRival_16 ⟨Nat.zero_le _, Nat.zero_le _⟩)) (fun r_5 hw_5 => ?_)
    have hF := hF.trans (bnd_s hw_5.1)
    refine lv_icmp_eq (tgt := 45) hx hb d_td_isRival_19 (by decide) (fun c_6 => ?_) (fun c_6 => ?_)
    · have hF := hF.trans (if_pos c_6)
      refine lv_iconst (v := 0) hx hb d_td_isRival_45 (by decide) ?_
      exact W.zret (v := (0 : Int32)) hx hb hr (rfl) (fun t ht hW => ⟨_, rfl, ⟨hF, rfl⟩, ht⟩) hS.2.2 d_td_isRival_46
    · have hF := hF.trans (if_neg c_6)
      refine lv_aload_n hx hb d_td_isRival_22 rfl (lv_at hl 2 rfl) ?_
      refine lv_iload_n hx hb d_td_isRival_23 rfl (lv_at hl 0 rfl) ?_
      have hPc : va_P (kD K) vwCl [] _ := hP.sub [] rfl
      refine vp_callSi (va_Run.run (va_runSN (As := [.int ot]) (rest := [.ref Ph]) ⟨hx, hb, hml, hown, htg⟩ (c_gn_fromOf l K ot) (⟨va_cnB 1 htg (g_w q_526) rfl rfl rfl (hG.nw 38 rfl) (htg _ q_1) k_gn_fromOf ⟨Nat.le_of_ble_eq_true rfl, Nat.le_of_ble_eq_true rfl⟩, htg _ q_525, trivial⟩) ⟨ro_blind, ro_use hPc hK hG hS trivial⟩ rfl rfl hl.1 rfl (lv_room (Nat.le_of_ble_eq_true rfl)) d_td_isRival_24 ⟨Nat.zero_le _, Nat.zero_le _⟩)) (fun r_7 hw_7 => ?_)
      have hF := hF.trans (bnd_s hw_7.1)
      have hPc : va_P (kD K) vwCl [(Ph, .inr (2, [.ref Pa0, .int P.2.1, .int P.2.2.1, .int P.2.2.2.1, .int P.2.2.2.2.1, .int P.2.2.2.2.2])), (Pa0, .inl ((kI K), 64, .inl P.1))] _ := hP.sub [0, 1] rfl
      refine vp_callSi (va_Run.run (va_runV (As := [.int r_7]) (rest := []) ⟨hx, hb, hml, hown, htg⟩ (c_ps_manOn l K Ph Pa0 P r_7) (cwV 1 htg (g_V q_632 q_508 q_509 q_6 (g_w q_510)) rfl rfl rfl ⟨rfl, k_ps_manOn⟩ ⟨Nat.le_of_ble_eq_true rfl, Nat.le_of_ble_eq_true rfl⟩) ⟨ro_blind, va_recv hK hPc (ci := 2) (q0 := 0) rfl rfl, ro_use hPc hK hG hS trivial⟩ rfl rfl hl.1 rfl (lv_room (Nat.le_of_ble_eq_true rfl)) d_td_isRival_27 ⟨Nat.zero_le _, Nat.zero_le _⟩)) (fun r_8 hw_8 => ?_)
      have hF := hF.trans (bnd_s hw_8.1)
      refine lv_aload_n hx hb d_td_isRival_30 rfl (lv_at hl 2 rfl) ?_
      refine lv_iload_n hx hb d_td_isRival_31 rfl (lv_at hl 1 rfl) ?_
      have hPc : va_P (kD K) vwCl [] _ := hP.sub [] rfl
      refine vp_callSi (va_Run.run (va_runSN (As := [.int mv]) (rest := [.ref Ph, .int r_8]) ⟨hx, hb, hml, hown, htg⟩ (c_gn_fromOf l K mv) (⟨va_cnB 1 htg (g_w q_526) rfl rfl rfl (hG.nw 38 rfl) (htg _ q_1) k_gn_fromOf ⟨Nat.le_of_ble_eq_true rfl, Nat.le_of_ble_eq_true rfl⟩, htg _ q_525, trivial⟩) ⟨ro_blind, ro_use hPc hK hG hS trivial⟩ rfl rfl hl.1 rfl (lv_room (Nat.le_of_ble_eq_true rfl)) d_td_isRival_32 ⟨Nat.zero_le _, Nat.zero_le _⟩)) (fun r_9 hw_9 => ?_)
      have hF := hF.trans (bnd_s hw_9.1)
      have hPc : va_P (kD K) vwCl [(Ph, .inr (2, [.ref Pa0, .int P.2.1, .int P.2.2.1, .int P.2.2.2.1, .int P.2.2.2.2.1, .int P.2.2.2.2.2])), (Pa0, .inl ((kI K), 64, .inl P.1))] _ := hP.sub [0, 1] rfl
      refine vp_callSi (va_Run.run (va_runV (As := [.int r_9]) (rest := [.int r_8]) ⟨hx, hb, hml, hown, htg⟩ (c_ps_manOn l K Ph Pa0 P r_9) (cwV 1 htg (g_V q_632 q_508 q_509 q_6 (g_w q_510)) rfl rfl rfl ⟨rfl, k_ps_manOn⟩ ⟨Nat.le_of_ble_eq_true rfl, Nat.le_of_ble_eq_true rfl⟩) ⟨ro_blind, va_recv hK hPc (ci := 2) (q0 := 0) rfl rfl, ro_use hPc hK hG hS trivial⟩ rfl rfl hl.1 rfl (lv_room (Nat.le_of_ble_eq_true rfl)) d_td_isRival_35 ⟨Nat.zero_le _, Nat.zero_le _⟩)) (fun r_10 hw_10 => ?_)
      have hF := hF.trans (bnd_s hw_10.1)
      refine lv_icmp_ne (tgt := 45) hx hb d_td_isRival_38 (by decide) (fun c_11 => ?_) (fun c_11 => ?_)
      · have hF := hF.trans (if_neg c_11)
        refine lv_iconst (v := 0) hx hb d_td_isRival_45 (by decide) ?_
        exact W.zret (v := (0 : Int32)) hx hb hr (rfl) (fun t ht hW => ⟨_, rfl, ⟨hF, rfl⟩, ht⟩) hS.2.2 d_td_isRival_46
      · have hF := hF.trans (if_pos c_11)
        refine lv_iconst (v := 1) hx hb d_td_isRival_41 (by decide) ?_
        refine lv_goto (tgt := 46) hx hb d_td_isRival_42 (by decide) ?_
        exact W.zret (v := (1 : Int32)) hx hb hr (rfl) (fun t ht hW => ⟨_, rfl, ⟨hF, rfl⟩, ht⟩) hS.2.2 d_td_isRival_46
def f_td_addPawnMove (L : LnT) (mv : Int32) : LnT := (bnd (f_gn_fromOf mv) (fun r_1 => (bnd (f_gn_fileOf r_1) (fun r_2 => (bnd (f_gn_toOf mv) (fun r_3 => (bnd (f_gn_fileOf r_3) (fun r_4 => (if r_2 = r_4 then (bnd (f_gn_toOf mv) (fun r_6 => (bnd (f_ln_addSquare L r_6) (fun u_7 => (bnd (f_gn_becomesOf mv) (fun r_8 => (if r_8 = 0 then u_7 else (bnd (f_gn_becomesOf mv) (fun r_10 => (bnd (f_gn_pick 1 (r_10 - (1 : Int32))) (fun r_11 => (bnd (f_ln_add u_7 r_11) (fun u_12 => u_12))))))))))))) else (bnd (f_gn_pick 3 r_2) (fun r_13 => (bnd (f_ln_add L r_13) (fun u_14 => (bnd (f_ln_add u_14 (120 : Int32)) (fun u_15 => (bnd (f_gn_toOf mv) (fun r_16 => (bnd (f_ln_addSquare u_15 r_16) (fun u_17 => (bnd (f_gn_becomesOf mv) (fun r_18 => (if r_18 = 0 then u_17 else (bnd (f_gn_becomesOf mv) (fun r_20 => (bnd (f_gn_pick 1 (r_20 - (1 : Int32))) (fun r_21 => (bnd (f_ln_add u_17 r_21) (fun u_22 => u_22))))))))))))))))))))))))))))
set_option maxHeartbeats 4000000 in
set_option maxRecDepth 100000 in
theorem c_td_addPawnMove (l : Launch) (K : KT) (sz : Nat) (Lh La0 : Nat) (L : LnT) (mv : Int32) : Met l y_td_addPawnMove w_td_addPawnMove ({ frames := 6, cells := 0, slots := 0, locals := 127 } : Room) (va_Pc [.ref Lh, .int mv] (fun U => pMU K [(Lh, .inr (1, [.ref La0, .int L.2])), (La0, .inl ((kC K), 100, .inl L.1))] sz U ∧ LnOk L ∧ True)) (va_Qv (fun u : LnT => f_td_addPawnMove L mv = u ∧ LnOk u ∧ True) (fun (u : LnT) (t : State) => va_P (kD K) vwCl [(Lh, .inr (1, [.ref La0, .int u.2])), (La0, .inl ((kC K), 100, .inl u.1))] t.heap ∧ va_D (va_A [(Lh, .inr (1, [.ref La0, .int L.2])), (La0, .inl ((kC K), 100, .inl L.1))] sz) [(Lh, .inr (1, [.ref La0, .int u.2])), (La0, .inl ((kC K), 100, .inl u.1))]) (va_A [(Lh, .inr (1, [.ref La0, .int L.2])), (La0, .inl ((kC K), 100, .inl L.1))] sz)) 0 0 (va_A [(Lh, .inr (1, [.ref La0, .int L.2])), (La0, .inl ((kC K), 100, .inl L.1))] sz) := by
  refine Met.ofW (cc := b_td_addPawnMove) (maxL := 3) (ret := none) (by decide) rfl ?_
  intro p e s m args below meth c s₁ B hml hv
  obtain ⟨rfl, ⟨hsz, hP, hK, hD0, hG⟩, ok_L, -⟩ := hv
  have hx := B.exec
  have hb := B.bytes
  have hr := B.returns
  have hts := atoms_spec (ws := w_td_addPawnMove) B.pre
  have hown : s.vm.findClass R_td = some m.cls := findClass_of_methodNamed B.named
  have hlocks := B.notSynchronized
  have htg := fun w h => hts w (List.mem_cons_of_mem _ h)
  subst hsz
  have hD := hD0.self (sz := s.heap.size)
  generalize hAe : va_A [(Lh, .inr (1, [.ref La0, .int L.2])), (La0, .inl ((kC K), 100, .inl L.1))] s.heap.size = A at hD hG ⊢
  have hA : ∀ q : Nat, s.heap.size ≤ q → A q := fun q h => by rw [← hAe]; exact Or.inr h
  have hS : va_S A s.heap s.heap [] := va_S.rf
  have hl := lv_entry ([.ref Lh, .int mv]) (n := 3) (Nat.le_of_ble_eq_true rfl)
  rw [lg_entry_eq]
  generalize (lg_sl ([.ref Lh, .int mv]) ++ List.replicate (3 - (lg_sl ([.ref Lh, .int mv])).length) Slot.unset).toArray = ls at hl ⊢
  have hl : lv_has ls 3 [(0, .ref Lh), (1, .int mv)] := hl
  have hF := f_td_addPawnMove.eq_1 L mv
  refine lv_iload_n hx hb d_td_addPawnMove_0 rfl (lv_at hl 1 rfl) ?_
  have hPc : va_P (kD K) vwCl [] _ := hP.sub [] rfl
  refine vp_callSi (va_Run.run (va_runSN (As := [.int mv]) (rest := []) ⟨hx, hb, hml, hown, htg⟩ (c_gn_fromOf l K mv) (⟨va_cnB 1 htg (g_w q_526) rfl rfl rfl (hG.nw 38 rfl) (htg _ q_1) k_gn_fromOf ⟨Nat.le_of_ble_eq_true rfl, Nat.le_of_ble_eq_true rfl⟩, htg _ q_525, trivial⟩) ⟨ro_blind, ro_use hPc hK hG hS trivial⟩ rfl rfl hl.1 rfl (lv_room (Nat.le_of_ble_eq_true rfl)) d_td_addPawnMove_1 ⟨Nat.zero_le _, Nat.zero_le _⟩)) (fun r_1 hw_1 => ?_)
  have hF := hF.trans (bnd_s hw_1.1)
  have hPc : va_P (kD K) vwCl [] _ := hP.sub [] rfl
  refine vp_callSi (va_Run.run (va_runSN (As := [.int r_1]) (rest := []) ⟨hx, hb, hml, hown, htg⟩ (c_gn_fileOf l K r_1) (⟨va_cnB 1 htg (g_w q_424) rfl rfl rfl (hG.nw 40 rfl) (htg _ q_1) k_gn_fileOf ⟨Nat.le_of_ble_eq_true rfl, Nat.le_of_ble_eq_true rfl⟩, htg _ q_423, trivial⟩) ⟨ro_blind, ro_use hPc hK hG hS trivial⟩ rfl rfl hl.1 rfl (lv_room (Nat.le_of_ble_eq_true rfl)) d_td_addPawnMove_4 ⟨Nat.zero_le _, Nat.zero_le _⟩)) (fun r_2 hw_2 => ?_)
  have hF := hF.trans (bnd_s hw_2.1)
  refine lv_istore_n (lv' := [(2, .int r_2), (0, .ref Lh), (1, .int mv)]) hx hb d_td_addPawnMove_7 rfl hl (by decide) rfl (fun ls hl => ?_)
  refine lv_iload_n hx hb d_td_addPawnMove_8 rfl (lv_at hl 0 rfl) ?_
  refine lv_iload_n hx hb d_td_addPawnMove_9 rfl (lv_at hl 2 rfl) ?_
  have hPc : va_P (kD K) vwCl [] _ := hP.sub [] rfl
  refine vp_callSi (va_Run.run (va_runSN (As := [.int mv]) (rest := [.int r_2]) ⟨hx, hb, hml, hown, htg⟩ (c_gn_toOf l K mv) (⟨va_cnB 1 htg (g_w q_529) rfl rfl rfl (hG.nw 41 rfl) (htg _ q_1) k_gn_toOf ⟨Nat.le_of_ble_eq_true rfl, Nat.le_of_ble_eq_true rfl⟩, htg _ q_528, trivial⟩) ⟨ro_blind, ro_use hPc hK hG hS trivial⟩ rfl rfl hl.1 rfl (lv_room (Nat.le_of_ble_eq_true rfl)) d_td_addPawnMove_10 ⟨Nat.zero_le _, Nat.zero_le _⟩)) (fun r_3 hw_3 => ?_)
  have hF := hF.trans (bnd_s hw_3.1)
  have hPc : va_P (kD K) vwCl [] _ := hP.sub [] rfl
  refine vp_callSi (va_Run.run (va_runSN (As := [.int r_3]) (rest := [.int r_2]) ⟨hx, hb, hml, hown, htg⟩ (c_gn_fileOf l K r_3) (⟨va_cnB 1 htg (g_w q_424) rfl rfl rfl (hG.nw 40 rfl) (htg _ q_1) k_gn_fileOf ⟨Nat.le_of_ble_eq_true rfl, Nat.le_of_ble_eq_true rfl⟩, htg _ q_423, trivial⟩) ⟨ro_blind, ro_use hPc hK hG hS trivial⟩ rfl rfl hl.1 rfl (lv_room (Nat.le_of_ble_eq_true rfl)) d_td_addPawnMove_13 ⟨Nat.zero_le _, Nat.zero_le _⟩)) (fun r_4 hw_4 => ?_)
  have hF := hF.trans (bnd_s hw_4.1)
  refine lv_icmp_eq (tgt := 35) hx hb d_td_addPawnMove_16 (by decide) (fun c_5 => ?_) (fun c_5 => ?_)
  · have hF := hF.trans (if_pos c_5)
    refine lv_aload_n hx hb d_td_addPawnMove_35 rfl (lv_at hl 1 rfl) ?_
    refine lv_iload_n hx hb d_td_addPawnMove_36 rfl (lv_at hl 2 rfl) ?_
    have hPc : va_P (kD K) vwCl [] _ := hP.sub [] rfl
    refine vp_callSi (va_Run.run (va_runSN (As := [.int mv]) (rest := [.ref Lh]) ⟨hx, hb, hml, hown, htg⟩ (c_gn_toOf l K mv) (⟨va_cnB 1 htg (g_w q_529) rfl rfl rfl (hG.nw 41 rfl) (htg _ q_1) k_gn_toOf ⟨Nat.le_of_ble_eq_true rfl, Nat.le_of_ble_eq_true rfl⟩, htg _ q_528, trivial⟩) ⟨ro_blind, ro_use hPc hK hG hS trivial⟩ rfl rfl hl.1 rfl (lv_room (Nat.le_of_ble_eq_true rfl)) d_td_addPawnMove_37 ⟨Nat.zero_le _, Nat.zero_le _⟩)) (fun r_6 hw_6 => ?_)
    have hF := hF.trans (bnd_s hw_6.1)
    have hPc : va_P (kD K) vwCl [(Lh, .inr (1, [.ref La0, .int L.2])), (La0, .inl ((kC K), 100, .inl L.1))] _ := hP.sub [0, 1] rfl
    have hDc : va_D A [(Lh, .inr (1, [.ref La0, .int L.2])), (La0, .inl ((kC K), 100, .inl L.1))] := hD.sub [0, 1] (by decide) rfl
    have hFc := va_free (wc := [(Lh, .inr (1, [.ref La0, .int L.2])), (La0, .inl ((kC K), 100, .inl L.1))]) hD hS hA [0, 1] rfl
    refine va_callv (va_runV (As := [.int r_6]) (rest := []) ⟨hx, hb, hml, hown, htg⟩ (c_ln_addSquare l K _ Lh La0 L r_6) (cwV 1 htg (g_V q_642 q_643 q_644 q_2 (g_w q_645)) rfl rfl rfl ⟨rfl, k_ln_addSquare⟩ ⟨Nat.le_of_ble_eq_true rfl, Nat.le_of_ble_eq_true rfl⟩) ⟨mu_blind, va_recv hK hPc (ci := 1) (q0 := 0) rfl rfl, mu_use hPc hK hDc hG hS hFc ⟨(by assumption), trivial⟩⟩ rfl rfl hl.1 rfl (lv_room (Nat.le_of_ble_eq_true rfl)) d_td_addPawnMove_40 ⟨Nat.zero_le _, Nat.zero_le _⟩) hS (fun q _ h => hFc q h) hFc (fun u_7 t H1 locs ht hvm hw_7 hB hz1 hk1 hS => ?_)
    obtain ⟨hP1, hD1⟩ := hB
    rw [ht] at hP1
    obtain ⟨hP, hD⟩ := va_join (wr := []) (w1 := [(Lh, .inr (1, [.ref La0, .int u_7.2])), (La0, .inl ((kC K), 100, .inl u_7.1))]) hP hD [0, 1] [] rfl rfl (by decide) (by decide) hk1 hFc hP1 hD1
    have hP : va_P (kD K) vwCl [(Lh, .inr (1, [.ref La0, .int u_7.2])), (La0, .inl ((kC K), 100, .inl u_7.1))] H1 := hP.sub [0, 1] rfl
    have hD : va_D A [(Lh, .inr (1, [.ref La0, .int u_7.2])), (La0, .inl ((kC K), 100, .inl u_7.1))] := hD.sub [0, 1] (by decide) rfl
    generalize H1 = H at hP hS ⊢
    have hF := hF.trans (bnd_s hw_7.1)
    have ok_7_L : LnOk u_7 := hw_7.2.1
    refine lv_iload_n hx hb d_td_addPawnMove_43 rfl (lv_at hl 2 rfl) ?_
    have hPc : va_P (kD K) vwCl [] _ := hP.sub [] rfl
    refine vp_callSi (va_Run.run (va_runSN (As := [.int mv]) (rest := []) ⟨hx, hb, hml, hown, htg⟩ (c_gn_becomesOf l K mv) (⟨va_cnB 1 htg (g_w q_520) rfl rfl rfl (hG.nw 46 rfl) (htg _ q_1) k_gn_becomesOf ⟨Nat.le_of_ble_eq_true rfl, Nat.le_of_ble_eq_true rfl⟩, htg _ q_519, trivial⟩) ⟨ro_blind, ro_use hPc hK hG hS trivial⟩ rfl rfl hl.1 rfl (lv_room (Nat.le_of_ble_eq_true rfl)) d_td_addPawnMove_44 ⟨Nat.zero_le _, Nat.zero_le _⟩)) (fun r_8 hw_8 => ?_)
    have hF := hF.trans (bnd_s hw_8.1)
    refine lv_if_eq (tgt := 65) hx hb d_td_addPawnMove_47 (by decide) (fun c_9 => ?_) (fun c_9 => ?_)
    · have hF := hF.trans (if_pos c_9)
      exact W.vret hx hb hr (fun t ht hW => ⟨⟨u_7, rfl, ⟨hF, (by assumption), trivial⟩, ⟨by rw [ht]; exact hP, hD⟩⟩, hS.F ht⟩) hS.2.2 d_td_addPawnMove_65
    · have hF := hF.trans (if_neg c_9)
      refine lv_aload_n hx hb d_td_addPawnMove_50 rfl (lv_at hl 1 rfl) ?_
      refine va_ldcS hx hb hown (show vk_R R_td 89 "PNBRQKpnbrqk" (kK K 1) s from hG.sr 20 (q := ("GameNotation$Told", 89, "PNBRQKpnbrqk", 1)) rfl) d_td_addPawnMove_51 ?_
      refine lv_iload_n hx hb d_td_addPawnMove_53 rfl (lv_at hl 2 rfl) ?_
      have hPc : va_P (kD K) vwCl [] _ := hP.sub [] rfl
      refine vp_callSi (va_Run.run (va_runSN (As := [.int mv]) (rest := [.ref (kK K 1), .ref Lh]) ⟨hx, hb, hml, hown, htg⟩ (c_gn_becomesOf l K mv) (⟨va_cnB 1 htg (g_w q_520) rfl rfl rfl (hG.nw 46 rfl) (htg _ q_1) k_gn_becomesOf ⟨Nat.le_of_ble_eq_true rfl, Nat.le_of_ble_eq_true rfl⟩, htg _ q_519, trivial⟩) ⟨ro_blind, ro_use hPc hK hG hS trivial⟩ rfl rfl hl.1 rfl (lv_room (Nat.le_of_ble_eq_true rfl)) d_td_addPawnMove_54 ⟨Nat.zero_le _, Nat.zero_le _⟩)) (fun r_10 hw_10 => ?_)
      have hF := hF.trans (bnd_s hw_10.1)
      refine lv_iconst (v := 1) hx hb d_td_addPawnMove_57 (by decide) ?_
      refine lv_isub hx hb d_td_addPawnMove_58 ?_
      have hPc : va_P (kD K) vwCl [] _ := hP.sub [] rfl
      refine vp_callSi (va_Run.run (va_runSN (As := [.ref (kK K 1), .int (r_10 - (1 : Int32))]) (rest := [.ref Lh]) ⟨hx, hb, hml, hown, htg⟩ (c_gn_pick l K 1 (r_10 - (1 : Int32))) (⟨va_cnB 2 htg (g_w q_316) rfl rfl rfl (hG.nw 42 rfl) (htg _ q_1) k_gn_pick ⟨Nat.le_of_ble_eq_true rfl, Nat.le_of_ble_eq_true rfl⟩, htg _ q_315, trivial⟩) ⟨ro_blind, ro_use hPc hK hG hS ⟨(by decide), trivial⟩⟩ rfl rfl hl.1 rfl (lv_room (Nat.le_of_ble_eq_true rfl)) d_td_addPawnMove_59 ⟨Nat.zero_le _, Nat.zero_le _⟩)) (fun r_11 hw_11 => ?_)
      have hF := hF.trans (bnd_s hw_11.1)
      have hn_11 := hw_11.2
      have hPc : va_P (kD K) vwCl [(Lh, .inr (1, [.ref La0, .int u_7.2])), (La0, .inl ((kC K), 100, .inl u_7.1))] _ := hP.sub [0, 1] rfl
      have hDc : va_D A [(Lh, .inr (1, [.ref La0, .int u_7.2])), (La0, .inl ((kC K), 100, .inl u_7.1))] := hD.sub [0, 1] (by decide) rfl
      have hFc := va_free (wc := [(Lh, .inr (1, [.ref La0, .int u_7.2])), (La0, .inl ((kC K), 100, .inl u_7.1))]) hD hS hA [0, 1] rfl
      refine va_callv (va_runV (As := [.int r_11]) (rest := []) ⟨hx, hb, hml, hown, htg⟩ (c_ln_add l K _ Lh La0 u_7 r_11) (cwV 1 htg (g_V q_641 q_162 q_163 q_2 (g_w q_164)) rfl rfl rfl ⟨rfl, k_ln_add⟩ ⟨Nat.le_of_ble_eq_true rfl, Nat.le_of_ble_eq_true rfl⟩) ⟨mu_blind, va_recv hK hPc (ci := 1) (q0 := 0) rfl rfl, mu_use hPc hK hDc hG hS hFc ⟨(by assumption), trivial⟩⟩ rfl rfl hl.1 rfl (lv_room (Nat.le_of_ble_eq_true rfl)) d_td_addPawnMove_62 ⟨Nat.zero_le _, Nat.zero_le _⟩) hS (fun q _ h => hFc q h) hFc (fun u_12 t H1 locs ht hvm hw_12 hB hz1 hk1 hS => ?_)
      obtain ⟨hP1, hD1⟩ := hB
      rw [ht] at hP1
      obtain ⟨hP, hD⟩ := va_join (wr := []) (w1 := [(Lh, .inr (1, [.ref La0, .int u_12.2])), (La0, .inl ((kC K), 100, .inl u_12.1))]) hP hD [0, 1] [] rfl rfl (by decide) (by decide) hk1 hFc hP1 hD1
      have hP : va_P (kD K) vwCl [(Lh, .inr (1, [.ref La0, .int u_12.2])), (La0, .inl ((kC K), 100, .inl u_12.1))] H1 := hP.sub [0, 1] rfl
      have hD : va_D A [(Lh, .inr (1, [.ref La0, .int u_12.2])), (La0, .inl ((kC K), 100, .inl u_12.1))] := hD.sub [0, 1] (by decide) rfl
      generalize H1 = H at hP hS ⊢
      have hF := hF.trans (bnd_s hw_12.1)
      have ok_12_L : LnOk u_12 := hw_12.2.1
      exact W.vret hx hb hr (fun t ht hW => ⟨⟨u_12, rfl, ⟨hF, (by assumption), trivial⟩, ⟨by rw [ht]; exact hP, hD⟩⟩, hS.F ht⟩) hS.2.2 d_td_addPawnMove_65
  · have hF := hF.trans (if_neg c_5)
    refine lv_aload_n hx hb d_td_addPawnMove_19 rfl (lv_at hl 1 rfl) ?_
    refine va_ldcS hx hb hown (show vk_R R_td 72 "abcdefgh" (kK K 3) s from hG.sr 17 (q := ("GameNotation$Told", 72, "abcdefgh", 3)) rfl) d_td_addPawnMove_20 ?_
    refine lv_iload_n hx hb d_td_addPawnMove_22 rfl (lv_at hl 0 rfl) ?_
    have hPc : va_P (kD K) vwCl [] _ := hP.sub [] rfl
    refine vp_callSi (va_Run.run (va_runSN (As := [.ref (kK K 3), .int r_2]) (rest := [.ref Lh]) ⟨hx, hb, hml, hown, htg⟩ (c_gn_pick l K 3 r_2) (⟨va_cnB 2 htg (g_w q_316) rfl rfl rfl (hG.nw 42 rfl) (htg _ q_1) k_gn_pick ⟨Nat.le_of_ble_eq_true rfl, Nat.le_of_ble_eq_true rfl⟩, htg _ q_315, trivial⟩) ⟨ro_blind, ro_use hPc hK hG hS ⟨(by decide), trivial⟩⟩ rfl rfl hl.1 rfl (lv_room (Nat.le_of_ble_eq_true rfl)) d_td_addPawnMove_23 ⟨Nat.zero_le _, Nat.zero_le _⟩)) (fun r_13 hw_13 => ?_)
    have hF := hF.trans (bnd_s hw_13.1)
    have hn_13 := hw_13.2
    have hPc : va_P (kD K) vwCl [(Lh, .inr (1, [.ref La0, .int L.2])), (La0, .inl ((kC K), 100, .inl L.1))] _ := hP.sub [0, 1] rfl
    have hDc : va_D A [(Lh, .inr (1, [.ref La0, .int L.2])), (La0, .inl ((kC K), 100, .inl L.1))] := hD.sub [0, 1] (by decide) rfl
    have hFc := va_free (wc := [(Lh, .inr (1, [.ref La0, .int L.2])), (La0, .inl ((kC K), 100, .inl L.1))]) hD hS hA [0, 1] rfl
    refine va_callv (va_runV (As := [.int r_13]) (rest := []) ⟨hx, hb, hml, hown, htg⟩ (c_ln_add l K _ Lh La0 L r_13) (cwV 1 htg (g_V q_641 q_162 q_163 q_2 (g_w q_164)) rfl rfl rfl ⟨rfl, k_ln_add⟩ ⟨Nat.le_of_ble_eq_true rfl, Nat.le_of_ble_eq_true rfl⟩) ⟨mu_blind, va_recv hK hPc (ci := 1) (q0 := 0) rfl rfl, mu_use hPc hK hDc hG hS hFc ⟨(by assumption), trivial⟩⟩ rfl rfl hl.1 rfl (lv_room (Nat.le_of_ble_eq_true rfl)) d_td_addPawnMove_26 ⟨Nat.zero_le _, Nat.zero_le _⟩) hS (fun q _ h => hFc q h) hFc (fun u_14 t H1 locs ht hvm hw_14 hB hz1 hk1 hS => ?_)
    obtain ⟨hP1, hD1⟩ := hB
    rw [ht] at hP1
    obtain ⟨hP, hD⟩ := va_join (wr := []) (w1 := [(Lh, .inr (1, [.ref La0, .int u_14.2])), (La0, .inl ((kC K), 100, .inl u_14.1))]) hP hD [0, 1] [] rfl rfl (by decide) (by decide) hk1 hFc hP1 hD1
    have hP : va_P (kD K) vwCl [(Lh, .inr (1, [.ref La0, .int u_14.2])), (La0, .inl ((kC K), 100, .inl u_14.1))] H1 := hP.sub [0, 1] rfl
    have hD : va_D A [(Lh, .inr (1, [.ref La0, .int u_14.2])), (La0, .inl ((kC K), 100, .inl u_14.1))] := hD.sub [0, 1] (by decide) rfl
    generalize H1 = H at hP hS ⊢
    have hF := hF.trans (bnd_s hw_14.1)
    have ok_14_L : LnOk u_14 := hw_14.2.1
    refine lv_aload_n hx hb d_td_addPawnMove_29 rfl (lv_at hl 1 rfl) ?_
    refine lv_bipush (v := 120) hx hb d_td_addPawnMove_30 (by decide) ?_
    have hPc : va_P (kD K) vwCl [(Lh, .inr (1, [.ref La0, .int u_14.2])), (La0, .inl ((kC K), 100, .inl u_14.1))] _ := hP.sub [0, 1] rfl
    have hDc : va_D A [(Lh, .inr (1, [.ref La0, .int u_14.2])), (La0, .inl ((kC K), 100, .inl u_14.1))] := hD.sub [0, 1] (by decide) rfl
    have hFc := va_free (wc := [(Lh, .inr (1, [.ref La0, .int u_14.2])), (La0, .inl ((kC K), 100, .inl u_14.1))]) hD hS hA [0, 1] rfl
    refine va_callv (va_runV (As := [.int (120 : Int32)]) (rest := []) ⟨hx, hb, hml, hown, htg⟩ (c_ln_add l K _ Lh La0 u_14 (120 : Int32)) (cwV 1 htg (g_V q_641 q_162 q_163 q_2 (g_w q_164)) rfl rfl rfl ⟨rfl, k_ln_add⟩ ⟨Nat.le_of_ble_eq_true rfl, Nat.le_of_ble_eq_true rfl⟩) ⟨mu_blind, va_recv hK hPc (ci := 1) (q0 := 0) rfl rfl, mu_use hPc hK hDc hG hS hFc ⟨(by assumption), trivial⟩⟩ rfl rfl hl.1 rfl (lv_room (Nat.le_of_ble_eq_true rfl)) d_td_addPawnMove_32 ⟨Nat.zero_le _, Nat.zero_le _⟩) hS (fun q _ h => hFc q h) hFc (fun u_15 t H1 locs ht hvm hw_15 hB hz1 hk1 hS => ?_)
    obtain ⟨hP1, hD1⟩ := hB
    rw [ht] at hP1
    obtain ⟨hP, hD⟩ := va_join (wr := []) (w1 := [(Lh, .inr (1, [.ref La0, .int u_15.2])), (La0, .inl ((kC K), 100, .inl u_15.1))]) hP hD [0, 1] [] rfl rfl (by decide) (by decide) hk1 hFc hP1 hD1
    have hP : va_P (kD K) vwCl [(Lh, .inr (1, [.ref La0, .int u_15.2])), (La0, .inl ((kC K), 100, .inl u_15.1))] H1 := hP.sub [0, 1] rfl
    have hD : va_D A [(Lh, .inr (1, [.ref La0, .int u_15.2])), (La0, .inl ((kC K), 100, .inl u_15.1))] := hD.sub [0, 1] (by decide) rfl
    generalize H1 = H at hP hS ⊢
    have hF := hF.trans (bnd_s hw_15.1)
    have ok_15_L : LnOk u_15 := hw_15.2.1
    refine lv_aload_n hx hb d_td_addPawnMove_35 rfl (lv_at hl 1 rfl) ?_
    refine lv_iload_n hx hb d_td_addPawnMove_36 rfl (lv_at hl 2 rfl) ?_
    have hPc : va_P (kD K) vwCl [] _ := hP.sub [] rfl
    refine vp_callSi (va_Run.run (va_runSN (As := [.int mv]) (rest := [.ref Lh]) ⟨hx, hb, hml, hown, htg⟩ (c_gn_toOf l K mv) (⟨va_cnB 1 htg (g_w q_529) rfl rfl rfl (hG.nw 41 rfl) (htg _ q_1) k_gn_toOf ⟨Nat.le_of_ble_eq_true rfl, Nat.le_of_ble_eq_true rfl⟩, htg _ q_528, trivial⟩) ⟨ro_blind, ro_use hPc hK hG hS trivial⟩ rfl rfl hl.1 rfl (lv_room (Nat.le_of_ble_eq_true rfl)) d_td_addPawnMove_37 ⟨Nat.zero_le _, Nat.zero_le _⟩)) (fun r_16 hw_16 => ?_)
    have hF := hF.trans (bnd_s hw_16.1)
    have hPc : va_P (kD K) vwCl [(Lh, .inr (1, [.ref La0, .int u_15.2])), (La0, .inl ((kC K), 100, .inl u_15.1))] _ := hP.sub [0, 1] rfl
    have hDc : va_D A [(Lh, .inr (1, [.ref La0, .int u_15.2])), (La0, .inl ((kC K), 100, .inl u_15.1))] := hD.sub [0, 1] (by decide) rfl
    have hFc := va_free (wc := [(Lh, .inr (1, [.ref La0, .int u_15.2])), (La0, .inl ((kC K), 100, .inl u_15.1))]) hD hS hA [0, 1] rfl
    refine va_callv (va_runV (As := [.int r_16]) (rest := []) ⟨hx, hb, hml, hown, htg⟩ (c_ln_addSquare l K _ Lh La0 u_15 r_16) (cwV 1 htg (g_V q_642 q_643 q_644 q_2 (g_w q_645)) rfl rfl rfl ⟨rfl, k_ln_addSquare⟩ ⟨Nat.le_of_ble_eq_true rfl, Nat.le_of_ble_eq_true rfl⟩) ⟨mu_blind, va_recv hK hPc (ci := 1) (q0 := 0) rfl rfl, mu_use hPc hK hDc hG hS hFc ⟨(by assumption), trivial⟩⟩ rfl rfl hl.1 rfl (lv_room (Nat.le_of_ble_eq_true rfl)) d_td_addPawnMove_40 ⟨Nat.zero_le _, Nat.zero_le _⟩) hS (fun q _ h => hFc q h) hFc (fun u_17 t H1 locs ht hvm hw_17 hB hz1 hk1 hS => ?_)
    obtain ⟨hP1, hD1⟩ := hB
    rw [ht] at hP1
    obtain ⟨hP, hD⟩ := va_join (wr := []) (w1 := [(Lh, .inr (1, [.ref La0, .int u_17.2])), (La0, .inl ((kC K), 100, .inl u_17.1))]) hP hD [0, 1] [] rfl rfl (by decide) (by decide) hk1 hFc hP1 hD1
    have hP : va_P (kD K) vwCl [(Lh, .inr (1, [.ref La0, .int u_17.2])), (La0, .inl ((kC K), 100, .inl u_17.1))] H1 := hP.sub [0, 1] rfl
    have hD : va_D A [(Lh, .inr (1, [.ref La0, .int u_17.2])), (La0, .inl ((kC K), 100, .inl u_17.1))] := hD.sub [0, 1] (by decide) rfl
    generalize H1 = H at hP hS ⊢
    have hF := hF.trans (bnd_s hw_17.1)
    have ok_17_L : LnOk u_17 := hw_17.2.1
    refine lv_iload_n hx hb d_td_addPawnMove_43 rfl (lv_at hl 2 rfl) ?_
    have hPc : va_P (kD K) vwCl [] _ := hP.sub [] rfl
    refine vp_callSi (va_Run.run (va_runSN (As := [.int mv]) (rest := []) ⟨hx, hb, hml, hown, htg⟩ (c_gn_becomesOf l K mv) (⟨va_cnB 1 htg (g_w q_520) rfl rfl rfl (hG.nw 46 rfl) (htg _ q_1) k_gn_becomesOf ⟨Nat.le_of_ble_eq_true rfl, Nat.le_of_ble_eq_true rfl⟩, htg _ q_519, trivial⟩) ⟨ro_blind, ro_use hPc hK hG hS trivial⟩ rfl rfl hl.1 rfl (lv_room (Nat.le_of_ble_eq_true rfl)) d_td_addPawnMove_44 ⟨Nat.zero_le _, Nat.zero_le _⟩)) (fun r_18 hw_18 => ?_)
    have hF := hF.trans (bnd_s hw_18.1)
    refine lv_if_eq (tgt := 65) hx hb d_td_addPawnMove_47 (by decide) (fun c_19 => ?_) (fun c_19 => ?_)
    · have hF := hF.trans (if_pos c_19)
      exact W.vret hx hb hr (fun t ht hW => ⟨⟨u_17, rfl, ⟨hF, (by assumption), trivial⟩, ⟨by rw [ht]; exact hP, hD⟩⟩, hS.F ht⟩) hS.2.2 d_td_addPawnMove_65
    · have hF := hF.trans (if_neg c_19)
      refine lv_aload_n hx hb d_td_addPawnMove_50 rfl (lv_at hl 1 rfl) ?_
      refine va_ldcS hx hb hown (show vk_R R_td 89 "PNBRQKpnbrqk" (kK K 1) s from hG.sr 20 (q := ("GameNotation$Told", 89, "PNBRQKpnbrqk", 1)) rfl) d_td_addPawnMove_51 ?_
      refine lv_iload_n hx hb d_td_addPawnMove_53 rfl (lv_at hl 2 rfl) ?_
      have hPc : va_P (kD K) vwCl [] _ := hP.sub [] rfl
      refine vp_callSi (va_Run.run (va_runSN (As := [.int mv]) (rest := [.ref (kK K 1), .ref Lh]) ⟨hx, hb, hml, hown, htg⟩ (c_gn_becomesOf l K mv) (⟨va_cnB 1 htg (g_w q_520) rfl rfl rfl (hG.nw 46 rfl) (htg _ q_1) k_gn_becomesOf ⟨Nat.le_of_ble_eq_true rfl, Nat.le_of_ble_eq_true rfl⟩, htg _ q_519, trivial⟩) ⟨ro_blind, ro_use hPc hK hG hS trivial⟩ rfl rfl hl.1 rfl (lv_room (Nat.le_of_ble_eq_true rfl)) d_td_addPawnMove_54 ⟨Nat.zero_le _, Nat.zero_le _⟩)) (fun r_20 hw_20 => ?_)
      have hF := hF.trans (bnd_s hw_20.1)
      refine lv_iconst (v := 1) hx hb d_td_addPawnMove_57 (by decide) ?_
      refine lv_isub hx hb d_td_addPawnMove_58 ?_
      have hPc : va_P (kD K) vwCl [] _ := hP.sub [] rfl
      refine vp_callSi (va_Run.run (va_runSN (As := [.ref (kK K 1), .int (r_20 - (1 : Int32))]) (rest := [.ref Lh]) ⟨hx, hb, hml, hown, htg⟩ (c_gn_pick l K 1 (r_20 - (1 : Int32))) (⟨va_cnB 2 htg (g_w q_316) rfl rfl rfl (hG.nw 42 rfl) (htg _ q_1) k_gn_pick ⟨Nat.le_of_ble_eq_true rfl, Nat.le_of_ble_eq_true rfl⟩, htg _ q_315, trivial⟩) ⟨ro_blind, ro_use hPc hK hG hS ⟨(by decide), trivial⟩⟩ rfl rfl hl.1 rfl (lv_room (Nat.le_of_ble_eq_true rfl)) d_td_addPawnMove_59 ⟨Nat.zero_le _, Nat.zero_le _⟩)) (fun r_21 hw_21 => ?_)
      have hF := hF.trans (bnd_s hw_21.1)
      have hn_21 := hw_21.2
      have hPc : va_P (kD K) vwCl [(Lh, .inr (1, [.ref La0, .int u_17.2])), (La0, .inl ((kC K), 100, .inl u_17.1))] _ := hP.sub [0, 1] rfl
      have hDc : va_D A [(Lh, .inr (1, [.ref La0, .int u_17.2])), (La0, .inl ((kC K), 100, .inl u_17.1))] := hD.sub [0, 1] (by decide) rfl
      have hFc := va_free (wc := [(Lh, .inr (1, [.ref La0, .int u_17.2])), (La0, .inl ((kC K), 100, .inl u_17.1))]) hD hS hA [0, 1] rfl
      refine va_callv (va_runV (As := [.int r_21]) (rest := []) ⟨hx, hb, hml, hown, htg⟩ (c_ln_add l K _ Lh La0 u_17 r_21) (cwV 1 htg (g_V q_641 q_162 q_163 q_2 (g_w q_164)) rfl rfl rfl ⟨rfl, k_ln_add⟩ ⟨Nat.le_of_ble_eq_true rfl, Nat.le_of_ble_eq_true rfl⟩) ⟨mu_blind, va_recv hK hPc (ci := 1) (q0 := 0) rfl rfl, mu_use hPc hK hDc hG hS hFc ⟨(by assumption), trivial⟩⟩ rfl rfl hl.1 rfl (lv_room (Nat.le_of_ble_eq_true rfl)) d_td_addPawnMove_62 ⟨Nat.zero_le _, Nat.zero_le _⟩) hS (fun q _ h => hFc q h) hFc (fun u_22 t H1 locs ht hvm hw_22 hB hz1 hk1 hS => ?_)
      obtain ⟨hP1, hD1⟩ := hB
      rw [ht] at hP1
      obtain ⟨hP, hD⟩ := va_join (wr := []) (w1 := [(Lh, .inr (1, [.ref La0, .int u_22.2])), (La0, .inl ((kC K), 100, .inl u_22.1))]) hP hD [0, 1] [] rfl rfl (by decide) (by decide) hk1 hFc hP1 hD1
      have hP : va_P (kD K) vwCl [(Lh, .inr (1, [.ref La0, .int u_22.2])), (La0, .inl ((kC K), 100, .inl u_22.1))] H1 := hP.sub [0, 1] rfl
      have hD : va_D A [(Lh, .inr (1, [.ref La0, .int u_22.2])), (La0, .inl ((kC K), 100, .inl u_22.1))] := hD.sub [0, 1] (by decide) rfl
      generalize H1 = H at hP hS ⊢
      have hF := hF.trans (bnd_s hw_22.1)
      have ok_22_L : LnOk u_22 := hw_22.2.1
      exact W.vret hx hb hr (fun t ht hW => ⟨⟨u_22, rfl, ⟨hF, (by assumption), trivial⟩, ⟨by rw [ht]; exact hP, hD⟩⟩, hS.F ht⟩) hS.2.2 d_td_addPawnMove_65
def f_td_addOrigin_L18 (T : TdT) (mv : Int32) (P : PsT) : Nat → Int32 → Int32 → Int32 → Int32 → Int32 → LnT → LnT
  | 0, _, _, _, _, _, Lw => Lw
  | n + 1, v4, v5, v6, v7, v8, Lw => (if T.2.2 ≤ v8 then (if v5 = 0 then (if v6 = 0 then Lw else (bnd (f_gn_rankOf v4) (fun r_5 => (bnd (f_gn_pick 0 r_5) (fun r_6 => (bnd (f_ln_add Lw r_6) (fun u_7 => u_7))))))) else (if v6 = 0 then (bnd (f_gn_fileOf v4) (fun r_9 => (bnd (f_gn_pick 3 r_9) (fun r_10 => (bnd (f_ln_add Lw r_10) (fun u_11 => u_11)))))) else (if v7 = 0 then (bnd (f_gn_rankOf v4) (fun r_13 => (bnd (f_gn_pick 0 r_13) (fun r_14 => (bnd (f_ln_add Lw r_14) (fun u_15 => u_15)))))) else (bnd (f_gn_fileOf v4) (fun r_16 => (bnd (f_gn_pick 3 r_16) (fun r_17 => (bnd (f_ln_add Lw r_17) (fun u_18 => (bnd (f_gn_rankOf v4) (fun r_19 => (bnd (f_gn_pick 0 r_19) (fun r_20 => (bnd (f_ln_add u_18 r_20) (fun u_21 => u_21))))))))))))))) else (bnd (f_td_move T v8) (fun r_22 => (bnd (f_td_isRival r_22 mv P) (fun r_23 => (if r_23 = 0 then (f_td_addOrigin_L18 T mv P  n v4 v5 v6 v7 (v8 + (1 : Int32)) Lw) else (bnd (f_td_move T v8) (fun r_25 => (bnd (f_gn_fromOf r_25) (fun r_26 => (if v6 = 0 then (bnd (f_gn_fileOf r_26) (fun r_32 => (bnd (f_gn_fileOf v4) (fun r_33 => (if r_32 = r_33 then (if v7 = 0 then (bnd (f_gn_rankOf r_26) (fun r_40 => (bnd (f_gn_rankOf v4) (fun r_41 => (if r_40 = r_41 then (f_td_addOrigin_L18 T mv P  n v4 (1 : Int32) (1 : Int32) (1 : Int32) (v8 + (1 : Int32)) Lw) else (f_td_addOrigin_L18 T mv P  n v4 (1 : Int32) (1 : Int32) (0 : Int32) (v8 + (1 : Int32)) Lw)))))) else (f_td_addOrigin_L18 T mv P  n v4 (1 : Int32) (1 : Int32) (1 : Int32) (v8 + (1 : Int32)) Lw)) else (if v7 = 0 then (bnd (f_gn_rankOf r_26) (fun r_36 => (bnd (f_gn_rankOf v4) (fun r_37 => (if r_36 = r_37 then (f_td_addOrigin_L18 T mv P  n v4 (1 : Int32) (0 : Int32) (1 : Int32) (v8 + (1 : Int32)) Lw) else (f_td_addOrigin_L18 T mv P  n v4 (1 : Int32) (0 : Int32) (0 : Int32) (v8 + (1 : Int32)) Lw)))))) else (f_td_addOrigin_L18 T mv P  n v4 (1 : Int32) (0 : Int32) (1 : Int32) (v8 + (1 : Int32)) Lw))))))) else (if v7 = 0 then (bnd (f_gn_rankOf r_26) (fun r_29 => (bnd (f_gn_rankOf v4) (fun r_30 => (if r_29 = r_30 then (f_td_addOrigin_L18 T mv P  n v4 (1 : Int32) (1 : Int32) (1 : Int32) (v8 + (1 : Int32)) Lw) else (f_td_addOrigin_L18 T mv P  n v4 (1 : Int32) (1 : Int32) (0 : Int32) (v8 + (1 : Int32)) Lw)))))) else (f_td_addOrigin_L18 T mv P  n v4 (1 : Int32) (1 : Int32) (1 : Int32) (v8 + (1 : Int32)) Lw)))))))))))))
def f_td_addOrigin (T : TdT) (L : LnT) (mv : Int32) (P : PsT) : LnT := (bnd (f_gn_fromOf mv) (fun r_1 => (f_td_addOrigin_L18 T mv P  331 r_1 (0 : Int32) (0 : Int32) (0 : Int32) (0 : Int32) L)))
set_option maxHeartbeats 4000000 in
set_option maxRecDepth 100000 in
theorem c_td_addOrigin (l : Launch) (K : KT) (sz : Nat) (Th Ta0 Ta1 : Nat) (T : TdT) (Lh La0 : Nat) (L : LnT) (mv : Int32) (Ph Pa0 : Nat) (P : PsT) : Met l y_td_addOrigin w_td_addOrigin ({ frames := 5, cells := 0, slots := 0, locals := 106 } : Room) (va_Pc [.ref Th, .ref Lh, .int mv, .ref Ph] (fun U => pMU K [(Th, .inr (4, [.ref Ta0, .ref Ta1, .int T.2.2])), (Ta0, .inl ((kI K), 330, .inl T.1)), (Ta1, .inl ((kI K), 330, .inl T.2.1)), (Lh, .inr (1, [.ref La0, .int L.2])), (La0, .inl ((kC K), 100, .inl L.1)), (Ph, .inr (2, [.ref Pa0, .int P.2.1, .int P.2.2.1, .int P.2.2.2.1, .int P.2.2.2.2.1, .int P.2.2.2.2.2])), (Pa0, .inl ((kI K), 64, .inl P.1))] sz U ∧ TdOk T ∧ LnOk L ∧ True)) (va_Qv (fun u : LnT => f_td_addOrigin T L mv P = u ∧ LnOk u ∧ True) (fun (u : LnT) (t : State) => va_P (kD K) vwCl [(Th, .inr (4, [.ref Ta0, .ref Ta1, .int T.2.2])), (Ta0, .inl ((kI K), 330, .inl T.1)), (Ta1, .inl ((kI K), 330, .inl T.2.1)), (Lh, .inr (1, [.ref La0, .int u.2])), (La0, .inl ((kC K), 100, .inl u.1)), (Ph, .inr (2, [.ref Pa0, .int P.2.1, .int P.2.2.1, .int P.2.2.2.1, .int P.2.2.2.2.1, .int P.2.2.2.2.2])), (Pa0, .inl ((kI K), 64, .inl P.1))] t.heap ∧ va_D (va_A [(Th, .inr (4, [.ref Ta0, .ref Ta1, .int T.2.2])), (Ta0, .inl ((kI K), 330, .inl T.1)), (Ta1, .inl ((kI K), 330, .inl T.2.1)), (Lh, .inr (1, [.ref La0, .int L.2])), (La0, .inl ((kC K), 100, .inl L.1)), (Ph, .inr (2, [.ref Pa0, .int P.2.1, .int P.2.2.1, .int P.2.2.2.1, .int P.2.2.2.2.1, .int P.2.2.2.2.2])), (Pa0, .inl ((kI K), 64, .inl P.1))] sz) [(Th, .inr (4, [.ref Ta0, .ref Ta1, .int T.2.2])), (Ta0, .inl ((kI K), 330, .inl T.1)), (Ta1, .inl ((kI K), 330, .inl T.2.1)), (Lh, .inr (1, [.ref La0, .int u.2])), (La0, .inl ((kC K), 100, .inl u.1)), (Ph, .inr (2, [.ref Pa0, .int P.2.1, .int P.2.2.1, .int P.2.2.2.1, .int P.2.2.2.2.1, .int P.2.2.2.2.2])), (Pa0, .inl ((kI K), 64, .inl P.1))]) (va_A [(Th, .inr (4, [.ref Ta0, .ref Ta1, .int T.2.2])), (Ta0, .inl ((kI K), 330, .inl T.1)), (Ta1, .inl ((kI K), 330, .inl T.2.1)), (Lh, .inr (1, [.ref La0, .int L.2])), (La0, .inl ((kC K), 100, .inl L.1)), (Ph, .inr (2, [.ref Pa0, .int P.2.1, .int P.2.2.1, .int P.2.2.2.1, .int P.2.2.2.2.1, .int P.2.2.2.2.2])), (Pa0, .inl ((kI K), 64, .inl P.1))] sz)) 0 0 (va_A [(Th, .inr (4, [.ref Ta0, .ref Ta1, .int T.2.2])), (Ta0, .inl ((kI K), 330, .inl T.1)), (Ta1, .inl ((kI K), 330, .inl T.2.1)), (Lh, .inr (1, [.ref La0, .int L.2])), (La0, .inl ((kC K), 100, .inl L.1)), (Ph, .inr (2, [.ref Pa0, .int P.2.1, .int P.2.2.1, .int P.2.2.2.1, .int P.2.2.2.2.1, .int P.2.2.2.2.2])), (Pa0, .inl ((kI K), 64, .inl P.1))] sz) := by
  refine Met.ofW (cc := b_td_addOrigin) (maxL := 10) (ret := none) (by decide) rfl ?_
  intro p e s m args below meth c s₁ B hml hv
  obtain ⟨rfl, ⟨hsz, hP, hK, hD0, hG⟩, ok_T, ok_L, -⟩ := hv
  have hx := B.exec
  have hb := B.bytes
  have hr := B.returns
  have hts := atoms_spec (ws := w_td_addOrigin) B.pre
  have hown : s.vm.findClass R_td = some m.cls := findClass_of_methodNamed B.named
  have hlocks := B.notSynchronized
  have htg := fun w h => hts w (List.mem_cons_of_mem _ h)
  subst hsz
  have hD := hD0.self (sz := s.heap.size)
  generalize hAe : va_A [(Th, .inr (4, [.ref Ta0, .ref Ta1, .int T.2.2])), (Ta0, .inl ((kI K), 330, .inl T.1)), (Ta1, .inl ((kI K), 330, .inl T.2.1)), (Lh, .inr (1, [.ref La0, .int L.2])), (La0, .inl ((kC K), 100, .inl L.1)), (Ph, .inr (2, [.ref Pa0, .int P.2.1, .int P.2.2.1, .int P.2.2.2.1, .int P.2.2.2.2.1, .int P.2.2.2.2.2])), (Pa0, .inl ((kI K), 64, .inl P.1))] s.heap.size = A at hD hG ⊢
  have hA : ∀ q : Nat, s.heap.size ≤ q → A q := fun q h => by rw [← hAe]; exact Or.inr h
  have hS : va_S A s.heap s.heap [] := va_S.rf
  have hl := lv_entry ([.ref Th, .ref Lh, .int mv, .ref Ph]) (n := 10) (Nat.le_of_ble_eq_true rfl)
  rw [lg_entry_eq]
  generalize (lg_sl ([.ref Th, .ref Lh, .int mv, .ref Ph]) ++ List.replicate (10 - (lg_sl ([.ref Th, .ref Lh, .int mv, .ref Ph])).length) Slot.unset).toArray = ls at hl ⊢
  have hl : lv_has ls 10 [(0, .ref Th), (1, .ref Lh), (2, .int mv), (3, .ref Ph)] := hl
  have hF := f_td_addOrigin.eq_1 T L mv P
  refine lv_iload_n hx hb d_td_addOrigin_0 rfl (lv_at hl 2 rfl) ?_
  have hPc : va_P (kD K) vwCl [] _ := hP.sub [] rfl
  refine vp_callSi (va_Run.run (va_runSN (As := [.int mv]) (rest := []) ⟨hx, hb, hml, hown, htg⟩ (c_gn_fromOf l K mv) (⟨va_cnB 1 htg (g_w q_526) rfl rfl rfl (hG.nw 38 rfl) (htg _ q_1) k_gn_fromOf ⟨Nat.le_of_ble_eq_true rfl, Nat.le_of_ble_eq_true rfl⟩, htg _ q_525, trivial⟩) ⟨ro_blind, ro_use hPc hK hG hS trivial⟩ rfl rfl hl.1 rfl (lv_room (Nat.le_of_ble_eq_true rfl)) d_td_addOrigin_1 ⟨Nat.zero_le _, Nat.zero_le _⟩)) (fun r_1 hw_1 => ?_)
  have hF := hF.trans (bnd_s hw_1.1)
  refine lv_istore (lv' := [(4, .int r_1), (0, .ref Th), (1, .ref Lh), (2, .int mv), (3, .ref Ph)]) hx hb d_td_addOrigin_4 hl (by decide) rfl (fun ls hl => ?_)
  refine lv_iconst (v := 0) hx hb d_td_addOrigin_6 (by decide) ?_
  refine lv_istore (lv' := [(5, .int (0 : Int32)), (4, .int r_1), (0, .ref Th), (1, .ref Lh), (2, .int mv), (3, .ref Ph)]) hx hb d_td_addOrigin_7 hl (by decide) rfl (fun ls hl => ?_)
  refine lv_iconst (v := 0) hx hb d_td_addOrigin_9 (by decide) ?_
  refine lv_istore (lv' := [(6, .int (0 : Int32)), (5, .int (0 : Int32)), (4, .int r_1), (0, .ref Th), (1, .ref Lh), (2, .int mv), (3, .ref Ph)]) hx hb d_td_addOrigin_10 hl (by decide) rfl (fun ls hl => ?_)
  refine lv_iconst (v := 0) hx hb d_td_addOrigin_12 (by decide) ?_
  refine lv_istore (lv' := [(7, .int (0 : Int32)), (6, .int (0 : Int32)), (5, .int (0 : Int32)), (4, .int r_1), (0, .ref Th), (1, .ref Lh), (2, .int mv), (3, .ref Ph)]) hx hb d_td_addOrigin_13 hl (by decide) rfl (fun ls hl => ?_)
  refine lv_iconst (v := 0) hx hb d_td_addOrigin_15 (by decide) ?_
  refine lv_istore (lv' := [(8, .int (0 : Int32)), (7, .int (0 : Int32)), (6, .int (0 : Int32)), (5, .int (0 : Int32)), (4, .int r_1), (0, .ref Th), (1, .ref Lh), (2, .int mv), (3, .ref Ph)]) hx hb d_td_addOrigin_16 hl (by decide) rfl (fun ls hl => ?_)
  have loop18 : ∀ (n18 : Nat) (v4 : Int32) (v5 : Int32) (v6 : Int32) (v7 : Int32) (v8 : Int32) (Lw : LnT) (H : Heap) (locs : List Loc) (ls : Array Slot), LnOk Lw → 0 ≤ v8.toInt → (330 - v8.toInt).toNat < n18 → va_P (kD K) vwCl [(Th, .inr (4, [.ref Ta0, .ref Ta1, .int T.2.2])), (Ta0, .inl ((kI K), 330, .inl T.1)), (Ta1, .inl ((kI K), 330, .inl T.2.1)), (Lh, .inr (1, [.ref La0, .int Lw.2])), (La0, .inl ((kC K), 100, .inl Lw.1)), (Ph, .inr (2, [.ref Pa0, .int P.2.1, .int P.2.2.1, .int P.2.2.2.1, .int P.2.2.2.2.1, .int P.2.2.2.2.2])), (Pa0, .inl ((kI K), 64, .inl P.1))] H → va_D A [(Th, .inr (4, [.ref Ta0, .ref Ta1, .int T.2.2])), (Ta0, .inl ((kI K), 330, .inl T.1)), (Ta1, .inl ((kI K), 330, .inl T.2.1)), (Lh, .inr (1, [.ref La0, .int Lw.2])), (La0, .inl ((kC K), 100, .inl Lw.1)), (Ph, .inr (2, [.ref Pa0, .int P.2.1, .int P.2.2.1, .int P.2.2.2.1, .int P.2.2.2.2.1, .int P.2.2.2.2.2])), (Pa0, .inl ((kI K), 64, .inl P.1))] → va_S A s.heap H locs → lv_has ls 10 [(0, .ref Th), (1, .ref Lh), (2, .int mv), (3, .ref Ph), (4, .int v4), (5, .int v5), (6, .int v6), (7, .int v7), (8, .int v8)] → f_td_addOrigin T L mv P = f_td_addOrigin_L18 T mv P  n18 v4 v5 v6 v7 v8 Lw → W p l e (headSpec w_td_addOrigin ({ frames := 5, cells := 0, slots := 0, locals := 106 } : Room)).room s m ([(.ref Th : Value), .ref Lh, .int mv, .ref Ph].toArray) below meth c H locs 0 0 (MQ below (va_Qv (fun u : LnT => f_td_addOrigin T L mv P = u ∧ LnOk u ∧ True) (fun (u : LnT) (t : State) => va_P (kD K) vwCl [(Th, .inr (4, [.ref Ta0, .ref Ta1, .int T.2.2])), (Ta0, .inl ((kI K), 330, .inl T.1)), (Ta1, .inl ((kI K), 330, .inl T.2.1)), (Lh, .inr (1, [.ref La0, .int u.2])), (La0, .inl ((kC K), 100, .inl u.1)), (Ph, .inr (2, [.ref Pa0, .int P.2.1, .int P.2.2.1, .int P.2.2.2.1, .int P.2.2.2.2.1, .int P.2.2.2.2.2])), (Pa0, .inl ((kI K), 64, .inl P.1))] t.heap ∧ va_D (A) [(Th, .inr (4, [.ref Ta0, .ref Ta1, .int T.2.2])), (Ta0, .inl ((kI K), 330, .inl T.1)), (Ta1, .inl ((kI K), 330, .inl T.2.1)), (Lh, .inr (1, [.ref La0, .int u.2])), (La0, .inl ((kC K), 100, .inl u.1)), (Ph, .inr (2, [.ref Pa0, .int P.2.1, .int P.2.2.1, .int P.2.2.2.1, .int P.2.2.2.2.1, .int P.2.2.2.2.2])), (Pa0, .inl ((kI K), 64, .inl P.1))]) (A)) ([(.ref Th : Value), .ref Lh, .int mv, .ref Ph].toArray) s 0 0 (A)) (F0 m 18 ls []) := by
    intro n18
    induction n18 with
    | zero =>
      intro _ _ _ _ _ _ _ _ _ _ _ hz
      exact absurd hz (Nat.not_lt_zero _)
    | succ n18 ih18 =>
      intro v4 v5 v6 v7 v8 Lw H locs ls ok_Lw i0 hm hP hD hS hl hF
      rw [f_td_addOrigin_L18] at hF
      refine lv_iload hx hb d_td_addOrigin_18 (lv_at hl 8 rfl) ?_
      refine lv_aload_n hx hb d_td_addOrigin_20 rfl (lv_at hl 0 rfl) ?_
      refine va_get (D := kD K) (ci := 4) (v := .int T.2.2) (C := R_td) (T := T_td) (N := 3) hx hb htg in_td hown hK hP 0 rfl rfl 2 (by decide) (htg (.fieldLink R_td 18 "GameNotation$Told" "count" "I") q_59) (fun _ h9 => h9) rfl d_td_addOrigin_21 ?_
      refine lv_icmp_ge (tgt := 111) hx hb d_td_addOrigin_24 (by decide) (fun c_2 => ?_) (fun c_2 => ?_)
      · have hF := hF.trans (if_pos c_2)
        refine lv_iload hx hb d_td_addOrigin_111 (lv_at hl 5 rfl) ?_
        refine lv_if_eq (tgt := 140) hx hb d_td_addOrigin_113 (by decide) (fun c_3 => ?_) (fun c_3 => ?_)
        · have hF := hF.trans (if_pos c_3)
          refine lv_iload hx hb d_td_addOrigin_140 (lv_at hl 6 rfl) ?_
          refine lv_if_eq (tgt := 159) hx hb d_td_addOrigin_142 (by decide) (fun c_4 => ?_) (fun c_4 => ?_)
          · have hF := hF.trans (if_pos c_4)
            exact W.vret hx hb hr (fun t ht hW => ⟨⟨Lw, rfl, ⟨hF, (by assumption), trivial⟩, ⟨by rw [ht]; exact hP, hD⟩⟩, hS.F ht⟩) hS.2.2 d_td_addOrigin_159
          · have hF := hF.trans (if_neg c_4)
            refine lv_aload_n hx hb d_td_addOrigin_145 rfl (lv_at hl 1 rfl) ?_
            refine va_ldcS hx hb hown (show vk_R R_td 101 "12345678" (kK K 0) s from hG.sr 21 (q := ("GameNotation$Told", 101, "12345678", 0)) rfl) d_td_addOrigin_146 ?_
            refine lv_iload hx hb d_td_addOrigin_148 (lv_at hl 4 rfl) ?_
            have hPc : va_P (kD K) vwCl [] _ := hP.sub [] rfl
            refine vp_callSi (va_Run.run (va_runSN (As := [.int v4]) (rest := [.ref (kK K 0), .ref Lh]) ⟨hx, hb, hml, hown, htg⟩ (c_gn_rankOf l K v4) (⟨va_cnB 1 htg (g_w q_427) rfl rfl rfl (hG.nw 47 rfl) (htg _ q_1) k_gn_rankOf ⟨Nat.le_of_ble_eq_true rfl, Nat.le_of_ble_eq_true rfl⟩, htg _ q_426, trivial⟩) ⟨ro_blind, ro_use hPc hK hG hS trivial⟩ rfl rfl hl.1 rfl (lv_room (Nat.le_of_ble_eq_true rfl)) d_td_addOrigin_150 ⟨Nat.zero_le _, Nat.zero_le _⟩)) (fun r_5 hw_5 => ?_)
            have hF := hF.trans (bnd_s hw_5.1)
            have hPc : va_P (kD K) vwCl [] _ := hP.sub [] rfl
            refine vp_callSi (va_Run.run (va_runSN (As := [.ref (kK K 0), .int r_5]) (rest := [.ref Lh]) ⟨hx, hb, hml, hown, htg⟩ (c_gn_pick l K 0 r_5) (⟨va_cnB 2 htg (g_w q_316) rfl rfl rfl (hG.nw 42 rfl) (htg _ q_1) k_gn_pick ⟨Nat.le_of_ble_eq_true rfl, Nat.le_of_ble_eq_true rfl⟩, htg _ q_315, trivial⟩) ⟨ro_blind, ro_use hPc hK hG hS ⟨(by decide), trivial⟩⟩ rfl rfl hl.1 rfl (lv_room (Nat.le_of_ble_eq_true rfl)) d_td_addOrigin_153 ⟨Nat.zero_le _, Nat.zero_le _⟩)) (fun r_6 hw_6 => ?_)
            have hF := hF.trans (bnd_s hw_6.1)
            have hn_6 := hw_6.2
            have hPc : va_P (kD K) vwCl [(Lh, .inr (1, [.ref La0, .int Lw.2])), (La0, .inl ((kC K), 100, .inl Lw.1))] _ := hP.sub [3, 4] rfl
            have hDc : va_D A [(Lh, .inr (1, [.ref La0, .int Lw.2])), (La0, .inl ((kC K), 100, .inl Lw.1))] := hD.sub [3, 4] (by decide) rfl
            have hFc := va_free (wc := [(Lh, .inr (1, [.ref La0, .int Lw.2])), (La0, .inl ((kC K), 100, .inl Lw.1))]) hD hS hA [3, 4] rfl
            refine va_callv (va_runV (As := [.int r_6]) (rest := []) ⟨hx, hb, hml, hown, htg⟩ (c_ln_add l K _ Lh La0 Lw r_6) (cwV 1 htg (g_V q_641 q_162 q_163 q_2 (g_w q_164)) rfl rfl rfl ⟨rfl, k_ln_add⟩ ⟨Nat.le_of_ble_eq_true rfl, Nat.le_of_ble_eq_true rfl⟩) ⟨mu_blind, va_recv hK hPc (ci := 1) (q0 := 0) rfl rfl, mu_use hPc hK hDc hG hS hFc ⟨(by assumption), trivial⟩⟩ rfl rfl hl.1 rfl (lv_room (Nat.le_of_ble_eq_true rfl)) d_td_addOrigin_156 ⟨Nat.zero_le _, Nat.zero_le _⟩) hS (fun q _ h => hFc q h) hFc (fun u_7 t H1 locs ht hvm hw_7 hB hz1 hk1 hS => ?_)
            obtain ⟨hP1, hD1⟩ := hB
            rw [ht] at hP1
            obtain ⟨hP, hD⟩ := va_join (wr := [(Th, .inr (4, [.ref Ta0, .ref Ta1, .int T.2.2])), (Ta0, .inl ((kI K), 330, .inl T.1)), (Ta1, .inl ((kI K), 330, .inl T.2.1)), (Ph, .inr (2, [.ref Pa0, .int P.2.1, .int P.2.2.1, .int P.2.2.2.1, .int P.2.2.2.2.1, .int P.2.2.2.2.2])), (Pa0, .inl ((kI K), 64, .inl P.1))]) (w1 := [(Lh, .inr (1, [.ref La0, .int u_7.2])), (La0, .inl ((kC K), 100, .inl u_7.1))]) hP hD [3, 4] [0, 1, 2, 5, 6] rfl rfl (by decide) (by decide) hk1 hFc hP1 hD1
            have hP : va_P (kD K) vwCl [(Th, .inr (4, [.ref Ta0, .ref Ta1, .int T.2.2])), (Ta0, .inl ((kI K), 330, .inl T.1)), (Ta1, .inl ((kI K), 330, .inl T.2.1)), (Lh, .inr (1, [.ref La0, .int u_7.2])), (La0, .inl ((kC K), 100, .inl u_7.1)), (Ph, .inr (2, [.ref Pa0, .int P.2.1, .int P.2.2.1, .int P.2.2.2.1, .int P.2.2.2.2.1, .int P.2.2.2.2.2])), (Pa0, .inl ((kI K), 64, .inl P.1))] H1 := hP.sub [0, 1, 2, 5, 6, 3, 4] rfl
            have hD : va_D A [(Th, .inr (4, [.ref Ta0, .ref Ta1, .int T.2.2])), (Ta0, .inl ((kI K), 330, .inl T.1)), (Ta1, .inl ((kI K), 330, .inl T.2.1)), (Lh, .inr (1, [.ref La0, .int u_7.2])), (La0, .inl ((kC K), 100, .inl u_7.1)), (Ph, .inr (2, [.ref Pa0, .int P.2.1, .int P.2.2.1, .int P.2.2.2.1, .int P.2.2.2.2.1, .int P.2.2.2.2.2])), (Pa0, .inl ((kI K), 64, .inl P.1))] := hD.sub [0, 1, 2, 5, 6, 3, 4] (by decide) rfl
            generalize H1 = H at hP hS ⊢
            have hF := hF.trans (bnd_s hw_7.1)
            have ok_7_L : LnOk u_7 := hw_7.2.1
            exact W.vret hx hb hr (fun t ht hW => ⟨⟨u_7, rfl, ⟨hF, (by assumption), trivial⟩, ⟨by rw [ht]; exact hP, hD⟩⟩, hS.F ht⟩) hS.2.2 d_td_addOrigin_159
        · have hF := hF.trans (if_neg c_3)
          refine lv_iload hx hb d_td_addOrigin_116 (lv_at hl 6 rfl) ?_
          refine lv_if_eq (tgt := 126) hx hb d_td_addOrigin_118 (by decide) (fun c_8 => ?_) (fun c_8 => ?_)
          · have hF := hF.trans (if_pos c_8)
            refine lv_aload_n hx hb d_td_addOrigin_126 rfl (lv_at hl 1 rfl) ?_
            refine va_ldcS hx hb hown (show vk_R R_td 72 "abcdefgh" (kK K 3) s from hG.sr 17 (q := ("GameNotation$Told", 72, "abcdefgh", 3)) rfl) d_td_addOrigin_127 ?_
            refine lv_iload hx hb d_td_addOrigin_129 (lv_at hl 4 rfl) ?_
            have hPc : va_P (kD K) vwCl [] _ := hP.sub [] rfl
            refine vp_callSi (va_Run.run (va_runSN (As := [.int v4]) (rest := [.ref (kK K 3), .ref Lh]) ⟨hx, hb, hml, hown, htg⟩ (c_gn_fileOf l K v4) (⟨va_cnB 1 htg (g_w q_424) rfl rfl rfl (hG.nw 40 rfl) (htg _ q_1) k_gn_fileOf ⟨Nat.le_of_ble_eq_true rfl, Nat.le_of_ble_eq_true rfl⟩, htg _ q_423, trivial⟩) ⟨ro_blind, ro_use hPc hK hG hS trivial⟩ rfl rfl hl.1 rfl (lv_room (Nat.le_of_ble_eq_true rfl)) d_td_addOrigin_131 ⟨Nat.zero_le _, Nat.zero_le _⟩)) (fun r_9 hw_9 => ?_)
            have hF := hF.trans (bnd_s hw_9.1)
            have hPc : va_P (kD K) vwCl [] _ := hP.sub [] rfl
            refine vp_callSi (va_Run.run (va_runSN (As := [.ref (kK K 3), .int r_9]) (rest := [.ref Lh]) ⟨hx, hb, hml, hown, htg⟩ (c_gn_pick l K 3 r_9) (⟨va_cnB 2 htg (g_w q_316) rfl rfl rfl (hG.nw 42 rfl) (htg _ q_1) k_gn_pick ⟨Nat.le_of_ble_eq_true rfl, Nat.le_of_ble_eq_true rfl⟩, htg _ q_315, trivial⟩) ⟨ro_blind, ro_use hPc hK hG hS ⟨(by decide), trivial⟩⟩ rfl rfl hl.1 rfl (lv_room (Nat.le_of_ble_eq_true rfl)) d_td_addOrigin_134 ⟨Nat.zero_le _, Nat.zero_le _⟩)) (fun r_10 hw_10 => ?_)
            have hF := hF.trans (bnd_s hw_10.1)
            have hn_10 := hw_10.2
            have hPc : va_P (kD K) vwCl [(Lh, .inr (1, [.ref La0, .int Lw.2])), (La0, .inl ((kC K), 100, .inl Lw.1))] _ := hP.sub [3, 4] rfl
            have hDc : va_D A [(Lh, .inr (1, [.ref La0, .int Lw.2])), (La0, .inl ((kC K), 100, .inl Lw.1))] := hD.sub [3, 4] (by decide) rfl
            have hFc := va_free (wc := [(Lh, .inr (1, [.ref La0, .int Lw.2])), (La0, .inl ((kC K), 100, .inl Lw.1))]) hD hS hA [3, 4] rfl
            refine va_callv (va_runV (As := [.int r_10]) (rest := []) ⟨hx, hb, hml, hown, htg⟩ (c_ln_add l K _ Lh La0 Lw r_10) (cwV 1 htg (g_V q_641 q_162 q_163 q_2 (g_w q_164)) rfl rfl rfl ⟨rfl, k_ln_add⟩ ⟨Nat.le_of_ble_eq_true rfl, Nat.le_of_ble_eq_true rfl⟩) ⟨mu_blind, va_recv hK hPc (ci := 1) (q0 := 0) rfl rfl, mu_use hPc hK hDc hG hS hFc ⟨(by assumption), trivial⟩⟩ rfl rfl hl.1 rfl (lv_room (Nat.le_of_ble_eq_true rfl)) d_td_addOrigin_137 ⟨Nat.zero_le _, Nat.zero_le _⟩) hS (fun q _ h => hFc q h) hFc (fun u_11 t H1 locs ht hvm hw_11 hB hz1 hk1 hS => ?_)
            obtain ⟨hP1, hD1⟩ := hB
            rw [ht] at hP1
            obtain ⟨hP, hD⟩ := va_join (wr := [(Th, .inr (4, [.ref Ta0, .ref Ta1, .int T.2.2])), (Ta0, .inl ((kI K), 330, .inl T.1)), (Ta1, .inl ((kI K), 330, .inl T.2.1)), (Ph, .inr (2, [.ref Pa0, .int P.2.1, .int P.2.2.1, .int P.2.2.2.1, .int P.2.2.2.2.1, .int P.2.2.2.2.2])), (Pa0, .inl ((kI K), 64, .inl P.1))]) (w1 := [(Lh, .inr (1, [.ref La0, .int u_11.2])), (La0, .inl ((kC K), 100, .inl u_11.1))]) hP hD [3, 4] [0, 1, 2, 5, 6] rfl rfl (by decide) (by decide) hk1 hFc hP1 hD1
            have hP : va_P (kD K) vwCl [(Th, .inr (4, [.ref Ta0, .ref Ta1, .int T.2.2])), (Ta0, .inl ((kI K), 330, .inl T.1)), (Ta1, .inl ((kI K), 330, .inl T.2.1)), (Lh, .inr (1, [.ref La0, .int u_11.2])), (La0, .inl ((kC K), 100, .inl u_11.1)), (Ph, .inr (2, [.ref Pa0, .int P.2.1, .int P.2.2.1, .int P.2.2.2.1, .int P.2.2.2.2.1, .int P.2.2.2.2.2])), (Pa0, .inl ((kI K), 64, .inl P.1))] H1 := hP.sub [0, 1, 2, 5, 6, 3, 4] rfl
            have hD : va_D A [(Th, .inr (4, [.ref Ta0, .ref Ta1, .int T.2.2])), (Ta0, .inl ((kI K), 330, .inl T.1)), (Ta1, .inl ((kI K), 330, .inl T.2.1)), (Lh, .inr (1, [.ref La0, .int u_11.2])), (La0, .inl ((kC K), 100, .inl u_11.1)), (Ph, .inr (2, [.ref Pa0, .int P.2.1, .int P.2.2.1, .int P.2.2.2.1, .int P.2.2.2.2.1, .int P.2.2.2.2.2])), (Pa0, .inl ((kI K), 64, .inl P.1))] := hD.sub [0, 1, 2, 5, 6, 3, 4] (by decide) rfl
            generalize H1 = H at hP hS ⊢
            have hF := hF.trans (bnd_s hw_11.1)
            have ok_11_L : LnOk u_11 := hw_11.2.1
            refine lv_iload hx hb d_td_addOrigin_140 (lv_at hl 6 rfl) ?_
            refine lv_if_eq (tgt := 159) hx hb d_td_addOrigin_142 (by decide) (fun _ => ?_) (fun c => absurd c_8 c)
            exact W.vret hx hb hr (fun t ht hW => ⟨⟨u_11, rfl, ⟨hF, (by assumption), trivial⟩, ⟨by rw [ht]; exact hP, hD⟩⟩, hS.F ht⟩) hS.2.2 d_td_addOrigin_159
          · have hF := hF.trans (if_neg c_8)
            refine lv_iload hx hb d_td_addOrigin_121 (lv_at hl 7 rfl) ?_
            refine lv_if_eq (tgt := 140) hx hb d_td_addOrigin_123 (by decide) (fun c_12 => ?_) (fun c_12 => ?_)
            · have hF := hF.trans (if_pos c_12)
              refine lv_iload hx hb d_td_addOrigin_140 (lv_at hl 6 rfl) ?_
              refine lv_if_eq (tgt := 159) hx hb d_td_addOrigin_142 (by decide) (fun c => absurd c c_8) (fun _ => ?_)
              refine lv_aload_n hx hb d_td_addOrigin_145 rfl (lv_at hl 1 rfl) ?_
              refine va_ldcS hx hb hown (show vk_R R_td 101 "12345678" (kK K 0) s from hG.sr 21 (q := ("GameNotation$Told", 101, "12345678", 0)) rfl) d_td_addOrigin_146 ?_
              refine lv_iload hx hb d_td_addOrigin_148 (lv_at hl 4 rfl) ?_
              have hPc : va_P (kD K) vwCl [] _ := hP.sub [] rfl
              refine vp_callSi (va_Run.run (va_runSN (As := [.int v4]) (rest := [.ref (kK K 0), .ref Lh]) ⟨hx, hb, hml, hown, htg⟩ (c_gn_rankOf l K v4) (⟨va_cnB 1 htg (g_w q_427) rfl rfl rfl (hG.nw 47 rfl) (htg _ q_1) k_gn_rankOf ⟨Nat.le_of_ble_eq_true rfl, Nat.le_of_ble_eq_true rfl⟩, htg _ q_426, trivial⟩) ⟨ro_blind, ro_use hPc hK hG hS trivial⟩ rfl rfl hl.1 rfl (lv_room (Nat.le_of_ble_eq_true rfl)) d_td_addOrigin_150 ⟨Nat.zero_le _, Nat.zero_le _⟩)) (fun r_13 hw_13 => ?_)
              have hF := hF.trans (bnd_s hw_13.1)
              have hPc : va_P (kD K) vwCl [] _ := hP.sub [] rfl
              refine vp_callSi (va_Run.run (va_runSN (As := [.ref (kK K 0), .int r_13]) (rest := [.ref Lh]) ⟨hx, hb, hml, hown, htg⟩ (c_gn_pick l K 0 r_13) (⟨va_cnB 2 htg (g_w q_316) rfl rfl rfl (hG.nw 42 rfl) (htg _ q_1) k_gn_pick ⟨Nat.le_of_ble_eq_true rfl, Nat.le_of_ble_eq_true rfl⟩, htg _ q_315, trivial⟩) ⟨ro_blind, ro_use hPc hK hG hS ⟨(by decide), trivial⟩⟩ rfl rfl hl.1 rfl (lv_room (Nat.le_of_ble_eq_true rfl)) d_td_addOrigin_153 ⟨Nat.zero_le _, Nat.zero_le _⟩)) (fun r_14 hw_14 => ?_)
              have hF := hF.trans (bnd_s hw_14.1)
              have hn_14 := hw_14.2
              have hPc : va_P (kD K) vwCl [(Lh, .inr (1, [.ref La0, .int Lw.2])), (La0, .inl ((kC K), 100, .inl Lw.1))] _ := hP.sub [3, 4] rfl
              have hDc : va_D A [(Lh, .inr (1, [.ref La0, .int Lw.2])), (La0, .inl ((kC K), 100, .inl Lw.1))] := hD.sub [3, 4] (by decide) rfl
              have hFc := va_free (wc := [(Lh, .inr (1, [.ref La0, .int Lw.2])), (La0, .inl ((kC K), 100, .inl Lw.1))]) hD hS hA [3, 4] rfl
              refine va_callv (va_runV (As := [.int r_14]) (rest := []) ⟨hx, hb, hml, hown, htg⟩ (c_ln_add l K _ Lh La0 Lw r_14) (cwV 1 htg (g_V q_641 q_162 q_163 q_2 (g_w q_164)) rfl rfl rfl ⟨rfl, k_ln_add⟩ ⟨Nat.le_of_ble_eq_true rfl, Nat.le_of_ble_eq_true rfl⟩) ⟨mu_blind, va_recv hK hPc (ci := 1) (q0 := 0) rfl rfl, mu_use hPc hK hDc hG hS hFc ⟨(by assumption), trivial⟩⟩ rfl rfl hl.1 rfl (lv_room (Nat.le_of_ble_eq_true rfl)) d_td_addOrigin_156 ⟨Nat.zero_le _, Nat.zero_le _⟩) hS (fun q _ h => hFc q h) hFc (fun u_15 t H1 locs ht hvm hw_15 hB hz1 hk1 hS => ?_)
              obtain ⟨hP1, hD1⟩ := hB
              rw [ht] at hP1
              obtain ⟨hP, hD⟩ := va_join (wr := [(Th, .inr (4, [.ref Ta0, .ref Ta1, .int T.2.2])), (Ta0, .inl ((kI K), 330, .inl T.1)), (Ta1, .inl ((kI K), 330, .inl T.2.1)), (Ph, .inr (2, [.ref Pa0, .int P.2.1, .int P.2.2.1, .int P.2.2.2.1, .int P.2.2.2.2.1, .int P.2.2.2.2.2])), (Pa0, .inl ((kI K), 64, .inl P.1))]) (w1 := [(Lh, .inr (1, [.ref La0, .int u_15.2])), (La0, .inl ((kC K), 100, .inl u_15.1))]) hP hD [3, 4] [0, 1, 2, 5, 6] rfl rfl (by decide) (by decide) hk1 hFc hP1 hD1
              have hP : va_P (kD K) vwCl [(Th, .inr (4, [.ref Ta0, .ref Ta1, .int T.2.2])), (Ta0, .inl ((kI K), 330, .inl T.1)), (Ta1, .inl ((kI K), 330, .inl T.2.1)), (Lh, .inr (1, [.ref La0, .int u_15.2])), (La0, .inl ((kC K), 100, .inl u_15.1)), (Ph, .inr (2, [.ref Pa0, .int P.2.1, .int P.2.2.1, .int P.2.2.2.1, .int P.2.2.2.2.1, .int P.2.2.2.2.2])), (Pa0, .inl ((kI K), 64, .inl P.1))] H1 := hP.sub [0, 1, 2, 5, 6, 3, 4] rfl
              have hD : va_D A [(Th, .inr (4, [.ref Ta0, .ref Ta1, .int T.2.2])), (Ta0, .inl ((kI K), 330, .inl T.1)), (Ta1, .inl ((kI K), 330, .inl T.2.1)), (Lh, .inr (1, [.ref La0, .int u_15.2])), (La0, .inl ((kC K), 100, .inl u_15.1)), (Ph, .inr (2, [.ref Pa0, .int P.2.1, .int P.2.2.1, .int P.2.2.2.1, .int P.2.2.2.2.1, .int P.2.2.2.2.2])), (Pa0, .inl ((kI K), 64, .inl P.1))] := hD.sub [0, 1, 2, 5, 6, 3, 4] (by decide) rfl
              generalize H1 = H at hP hS ⊢
              have hF := hF.trans (bnd_s hw_15.1)
              have ok_15_L : LnOk u_15 := hw_15.2.1
              exact W.vret hx hb hr (fun t ht hW => ⟨⟨u_15, rfl, ⟨hF, (by assumption), trivial⟩, ⟨by rw [ht]; exact hP, hD⟩⟩, hS.F ht⟩) hS.2.2 d_td_addOrigin_159
            · have hF := hF.trans (if_neg c_12)
              refine lv_aload_n hx hb d_td_addOrigin_126 rfl (lv_at hl 1 rfl) ?_
              refine va_ldcS hx hb hown (show vk_R R_td 72 "abcdefgh" (kK K 3) s from hG.sr 17 (q := ("GameNotation$Told", 72, "abcdefgh", 3)) rfl) d_td_addOrigin_127 ?_
              refine lv_iload hx hb d_td_addOrigin_129 (lv_at hl 4 rfl) ?_
              have hPc : va_P (kD K) vwCl [] _ := hP.sub [] rfl
              refine vp_callSi (va_Run.run (va_runSN (As := [.int v4]) (rest := [.ref (kK K 3), .ref Lh]) ⟨hx, hb, hml, hown, htg⟩ (c_gn_fileOf l K v4) (⟨va_cnB 1 htg (g_w q_424) rfl rfl rfl (hG.nw 40 rfl) (htg _ q_1) k_gn_fileOf ⟨Nat.le_of_ble_eq_true rfl, Nat.le_of_ble_eq_true rfl⟩, htg _ q_423, trivial⟩) ⟨ro_blind, ro_use hPc hK hG hS trivial⟩ rfl rfl hl.1 rfl (lv_room (Nat.le_of_ble_eq_true rfl)) d_td_addOrigin_131 ⟨Nat.zero_le _, Nat.zero_le _⟩)) (fun r_16 hw_16 => ?_)
              have hF := hF.trans (bnd_s hw_16.1)
              have hPc : va_P (kD K) vwCl [] _ := hP.sub [] rfl
              refine vp_callSi (va_Run.run (va_runSN (As := [.ref (kK K 3), .int r_16]) (rest := [.ref Lh]) ⟨hx, hb, hml, hown, htg⟩ (c_gn_pick l K 3 r_16) (⟨va_cnB 2 htg (g_w q_316) rfl rfl rfl (hG.nw 42 rfl) (htg _ q_1) k_gn_pick ⟨Nat.le_of_ble_eq_true rfl, Nat.le_of_ble_eq_true rfl⟩, htg _ q_315, trivial⟩) ⟨ro_blind, ro_use hPc hK hG hS ⟨(by decide), trivial⟩⟩ rfl rfl hl.1 rfl (lv_room (Nat.le_of_ble_eq_true rfl)) d_td_addOrigin_134 ⟨Nat.zero_le _, Nat.zero_le _⟩)) (fun r_17 hw_17 => ?_)
              have hF := hF.trans (bnd_s hw_17.1)
              have hn_17 := hw_17.2
              have hPc : va_P (kD K) vwCl [(Lh, .inr (1, [.ref La0, .int Lw.2])), (La0, .inl ((kC K), 100, .inl Lw.1))] _ := hP.sub [3, 4] rfl
              have hDc : va_D A [(Lh, .inr (1, [.ref La0, .int Lw.2])), (La0, .inl ((kC K), 100, .inl Lw.1))] := hD.sub [3, 4] (by decide) rfl
              have hFc := va_free (wc := [(Lh, .inr (1, [.ref La0, .int Lw.2])), (La0, .inl ((kC K), 100, .inl Lw.1))]) hD hS hA [3, 4] rfl
              refine va_callv (va_runV (As := [.int r_17]) (rest := []) ⟨hx, hb, hml, hown, htg⟩ (c_ln_add l K _ Lh La0 Lw r_17) (cwV 1 htg (g_V q_641 q_162 q_163 q_2 (g_w q_164)) rfl rfl rfl ⟨rfl, k_ln_add⟩ ⟨Nat.le_of_ble_eq_true rfl, Nat.le_of_ble_eq_true rfl⟩) ⟨mu_blind, va_recv hK hPc (ci := 1) (q0 := 0) rfl rfl, mu_use hPc hK hDc hG hS hFc ⟨(by assumption), trivial⟩⟩ rfl rfl hl.1 rfl (lv_room (Nat.le_of_ble_eq_true rfl)) d_td_addOrigin_137 ⟨Nat.zero_le _, Nat.zero_le _⟩) hS (fun q _ h => hFc q h) hFc (fun u_18 t H1 locs ht hvm hw_18 hB hz1 hk1 hS => ?_)
              obtain ⟨hP1, hD1⟩ := hB
              rw [ht] at hP1
              obtain ⟨hP, hD⟩ := va_join (wr := [(Th, .inr (4, [.ref Ta0, .ref Ta1, .int T.2.2])), (Ta0, .inl ((kI K), 330, .inl T.1)), (Ta1, .inl ((kI K), 330, .inl T.2.1)), (Ph, .inr (2, [.ref Pa0, .int P.2.1, .int P.2.2.1, .int P.2.2.2.1, .int P.2.2.2.2.1, .int P.2.2.2.2.2])), (Pa0, .inl ((kI K), 64, .inl P.1))]) (w1 := [(Lh, .inr (1, [.ref La0, .int u_18.2])), (La0, .inl ((kC K), 100, .inl u_18.1))]) hP hD [3, 4] [0, 1, 2, 5, 6] rfl rfl (by decide) (by decide) hk1 hFc hP1 hD1
              have hP : va_P (kD K) vwCl [(Th, .inr (4, [.ref Ta0, .ref Ta1, .int T.2.2])), (Ta0, .inl ((kI K), 330, .inl T.1)), (Ta1, .inl ((kI K), 330, .inl T.2.1)), (Lh, .inr (1, [.ref La0, .int u_18.2])), (La0, .inl ((kC K), 100, .inl u_18.1)), (Ph, .inr (2, [.ref Pa0, .int P.2.1, .int P.2.2.1, .int P.2.2.2.1, .int P.2.2.2.2.1, .int P.2.2.2.2.2])), (Pa0, .inl ((kI K), 64, .inl P.1))] H1 := hP.sub [0, 1, 2, 5, 6, 3, 4] rfl
              have hD : va_D A [(Th, .inr (4, [.ref Ta0, .ref Ta1, .int T.2.2])), (Ta0, .inl ((kI K), 330, .inl T.1)), (Ta1, .inl ((kI K), 330, .inl T.2.1)), (Lh, .inr (1, [.ref La0, .int u_18.2])), (La0, .inl ((kC K), 100, .inl u_18.1)), (Ph, .inr (2, [.ref Pa0, .int P.2.1, .int P.2.2.1, .int P.2.2.2.1, .int P.2.2.2.2.1, .int P.2.2.2.2.2])), (Pa0, .inl ((kI K), 64, .inl P.1))] := hD.sub [0, 1, 2, 5, 6, 3, 4] (by decide) rfl
              generalize H1 = H at hP hS ⊢
              have hF := hF.trans (bnd_s hw_18.1)
              have ok_18_L : LnOk u_18 := hw_18.2.1
              refine lv_iload hx hb d_td_addOrigin_140 (lv_at hl 6 rfl) ?_
              refine lv_if_eq (tgt := 159) hx hb d_td_addOrigin_142 (by decide) (fun c => absurd c c_8) (fun _ => ?_)
              refine lv_aload_n hx hb d_td_addOrigin_145 rfl (lv_at hl 1 rfl) ?_
              refine va_ldcS hx hb hown (show vk_R R_td 101 "12345678" (kK K 0) s from hG.sr 21 (q := ("GameNotation$Told", 101, "12345678", 0)) rfl) d_td_addOrigin_146 ?_
              refine lv_iload hx hb d_td_addOrigin_148 (lv_at hl 4 rfl) ?_
              have hPc : va_P (kD K) vwCl [] _ := hP.sub [] rfl
              refine vp_callSi (va_Run.run (va_runSN (As := [.int v4]) (rest := [.ref (kK K 0), .ref Lh]) ⟨hx, hb, hml, hown, htg⟩ (c_gn_rankOf l K v4) (⟨va_cnB 1 htg (g_w q_427) rfl rfl rfl (hG.nw 47 rfl) (htg _ q_1) k_gn_rankOf ⟨Nat.le_of_ble_eq_true rfl, Nat.le_of_ble_eq_true rfl⟩, htg _ q_426, trivial⟩) ⟨ro_blind, ro_use hPc hK hG hS trivial⟩ rfl rfl hl.1 rfl (lv_room (Nat.le_of_ble_eq_true rfl)) d_td_addOrigin_150 ⟨Nat.zero_le _, Nat.zero_le _⟩)) (fun r_19 hw_19 => ?_)
              have hF := hF.trans (bnd_s hw_19.1)
              have hPc : va_P (kD K) vwCl [] _ := hP.sub [] rfl
              refine vp_callSi (va_Run.run (va_runSN (As := [.ref (kK K 0), .int r_19]) (rest := [.ref Lh]) ⟨hx, hb, hml, hown, htg⟩ (c_gn_pick l K 0 r_19) (⟨va_cnB 2 htg (g_w q_316) rfl rfl rfl (hG.nw 42 rfl) (htg _ q_1) k_gn_pick ⟨Nat.le_of_ble_eq_true rfl, Nat.le_of_ble_eq_true rfl⟩, htg _ q_315, trivial⟩) ⟨ro_blind, ro_use hPc hK hG hS ⟨(by decide), trivial⟩⟩ rfl rfl hl.1 rfl (lv_room (Nat.le_of_ble_eq_true rfl)) d_td_addOrigin_153 ⟨Nat.zero_le _, Nat.zero_le _⟩)) (fun r_20 hw_20 => ?_)
              have hF := hF.trans (bnd_s hw_20.1)
              have hn_20 := hw_20.2
              have hPc : va_P (kD K) vwCl [(Lh, .inr (1, [.ref La0, .int u_18.2])), (La0, .inl ((kC K), 100, .inl u_18.1))] _ := hP.sub [3, 4] rfl
              have hDc : va_D A [(Lh, .inr (1, [.ref La0, .int u_18.2])), (La0, .inl ((kC K), 100, .inl u_18.1))] := hD.sub [3, 4] (by decide) rfl
              have hFc := va_free (wc := [(Lh, .inr (1, [.ref La0, .int u_18.2])), (La0, .inl ((kC K), 100, .inl u_18.1))]) hD hS hA [3, 4] rfl
              refine va_callv (va_runV (As := [.int r_20]) (rest := []) ⟨hx, hb, hml, hown, htg⟩ (c_ln_add l K _ Lh La0 u_18 r_20) (cwV 1 htg (g_V q_641 q_162 q_163 q_2 (g_w q_164)) rfl rfl rfl ⟨rfl, k_ln_add⟩ ⟨Nat.le_of_ble_eq_true rfl, Nat.le_of_ble_eq_true rfl⟩) ⟨mu_blind, va_recv hK hPc (ci := 1) (q0 := 0) rfl rfl, mu_use hPc hK hDc hG hS hFc ⟨(by assumption), trivial⟩⟩ rfl rfl hl.1 rfl (lv_room (Nat.le_of_ble_eq_true rfl)) d_td_addOrigin_156 ⟨Nat.zero_le _, Nat.zero_le _⟩) hS (fun q _ h => hFc q h) hFc (fun u_21 t H1 locs ht hvm hw_21 hB hz1 hk1 hS => ?_)
              obtain ⟨hP1, hD1⟩ := hB
              rw [ht] at hP1
              obtain ⟨hP, hD⟩ := va_join (wr := [(Th, .inr (4, [.ref Ta0, .ref Ta1, .int T.2.2])), (Ta0, .inl ((kI K), 330, .inl T.1)), (Ta1, .inl ((kI K), 330, .inl T.2.1)), (Ph, .inr (2, [.ref Pa0, .int P.2.1, .int P.2.2.1, .int P.2.2.2.1, .int P.2.2.2.2.1, .int P.2.2.2.2.2])), (Pa0, .inl ((kI K), 64, .inl P.1))]) (w1 := [(Lh, .inr (1, [.ref La0, .int u_21.2])), (La0, .inl ((kC K), 100, .inl u_21.1))]) hP hD [3, 4] [0, 1, 2, 5, 6] rfl rfl (by decide) (by decide) hk1 hFc hP1 hD1
              have hP : va_P (kD K) vwCl [(Th, .inr (4, [.ref Ta0, .ref Ta1, .int T.2.2])), (Ta0, .inl ((kI K), 330, .inl T.1)), (Ta1, .inl ((kI K), 330, .inl T.2.1)), (Lh, .inr (1, [.ref La0, .int u_21.2])), (La0, .inl ((kC K), 100, .inl u_21.1)), (Ph, .inr (2, [.ref Pa0, .int P.2.1, .int P.2.2.1, .int P.2.2.2.1, .int P.2.2.2.2.1, .int P.2.2.2.2.2])), (Pa0, .inl ((kI K), 64, .inl P.1))] H1 := hP.sub [0, 1, 2, 5, 6, 3, 4] rfl
              have hD : va_D A [(Th, .inr (4, [.ref Ta0, .ref Ta1, .int T.2.2])), (Ta0, .inl ((kI K), 330, .inl T.1)), (Ta1, .inl ((kI K), 330, .inl T.2.1)), (Lh, .inr (1, [.ref La0, .int u_21.2])), (La0, .inl ((kC K), 100, .inl u_21.1)), (Ph, .inr (2, [.ref Pa0, .int P.2.1, .int P.2.2.1, .int P.2.2.2.1, .int P.2.2.2.2.1, .int P.2.2.2.2.2])), (Pa0, .inl ((kI K), 64, .inl P.1))] := hD.sub [0, 1, 2, 5, 6, 3, 4] (by decide) rfl
              generalize H1 = H at hP hS ⊢
              have hF := hF.trans (bnd_s hw_21.1)
              have ok_21_L : LnOk u_21 := hw_21.2.1
              exact W.vret hx hb hr (fun t ht hW => ⟨⟨u_21, rfl, ⟨hF, (by assumption), trivial⟩, ⟨by rw [ht]; exact hP, hD⟩⟩, hS.F ht⟩) hS.2.2 d_td_addOrigin_159
      · have hF := hF.trans (if_neg c_2)
        refine lv_aload_n hx hb d_td_addOrigin_27 rfl (lv_at hl 0 rfl) ?_
        refine lv_iload hx hb d_td_addOrigin_28 (lv_at hl 8 rfl) ?_
        have hPc : va_P (kD K) vwCl [(Th, .inr (4, [.ref Ta0, .ref Ta1, .int T.2.2])), (Ta0, .inl ((kI K), 330, .inl T.1)), (Ta1, .inl ((kI K), 330, .inl T.2.1))] _ := hP.sub [0, 1, 2] rfl
        refine vp_callSi (va_Run.run (va_runV (As := [.int v8]) (rest := []) ⟨hx, hb, hml, hown, htg⟩ (c_td_move l K Th Ta0 Ta1 T v8) (cwV 1 htg (g_V q_623 q_599 q_600 q_4 (g_w q_601)) rfl rfl rfl ⟨rfl, k_td_move⟩ ⟨Nat.le_of_ble_eq_true rfl, Nat.le_of_ble_eq_true rfl⟩) ⟨ro_blind, va_recv hK hPc (ci := 4) (q0 := 0) rfl rfl, ro_use hPc hK hG hS ⟨(by assumption), trivial⟩⟩ rfl rfl hl.1 rfl (lv_room (Nat.le_of_ble_eq_true rfl)) d_td_addOrigin_30 ⟨Nat.zero_le _, Nat.zero_le _⟩)) (fun r_22 hw_22 => ?_)
        have hF := hF.trans (bnd_s hw_22.1)
        refine lv_iload_n hx hb d_td_addOrigin_33 rfl (lv_at hl 2 rfl) ?_
        refine lv_aload_n hx hb d_td_addOrigin_34 rfl (lv_at hl 3 rfl) ?_
        have hPc : va_P (kD K) vwCl [(Ph, .inr (2, [.ref Pa0, .int P.2.1, .int P.2.2.1, .int P.2.2.2.1, .int P.2.2.2.2.1, .int P.2.2.2.2.2])), (Pa0, .inl ((kI K), 64, .inl P.1))] _ := hP.sub [5, 6] rfl
        refine vp_callSi (va_Run.run (va_runS (As := [.int r_22, .int mv, .ref Ph]) (rest := []) ⟨hx, hb, hml, hown, htg⟩ (c_td_isRival l K r_22 mv Ph Pa0 P) (va_cwS 3 htg (g_S q_661 q_662 q_4 (g_w q_663)) rfl rfl rfl k_td_isRival ⟨Nat.le_of_ble_eq_true rfl, Nat.le_of_ble_eq_true rfl⟩) ⟨ro_blind, ro_use hPc hK hG hS trivial⟩ rfl rfl hl.1 rfl (lv_room (Nat.le_of_ble_eq_true rfl)) d_td_addOrigin_35 ⟨Nat.zero_le _, Nat.zero_le _⟩)) (fun r_23 hw_23 => ?_)
        have hF := hF.trans (bnd_s hw_23.1)
        have hn_23 := hw_23.2
        refine lv_if_eq (tgt := 105) hx hb d_td_addOrigin_38 (by decide) (fun c_24 => ?_) (fun c_24 => ?_)
        · have hF := hF.trans (if_pos c_24)
          refine lv_iinc (v := v8 + (1 : Int32)) (lv' := [(8, .int (v8 + (1 : Int32))), (0, .ref Th), (1, .ref Lh), (2, .int mv), (3, .ref Ph), (4, .int v4), (5, .int v5), (6, .int v6), (7, .int v7)]) hx hb d_td_addOrigin_105 hl (k := 8) rfl rfl (by decide) rfl (fun ls hl => ?_)
          refine lv_goto (tgt := 18) hx hb d_td_addOrigin_108 (by decide) ?_
          exact ih18  v4 v5 v6 v7 (v8 + (1 : Int32)) Lw _ _ ls (by assumption) (lp_s i0 c_2) (lp_d i0 c_2 (tdok_le ok_T) hm) hP hD hS (lv_sub hl [1, 2, 3, 4, 5, 6, 7, 8, 0] rfl) hF
        · have hF := hF.trans (if_neg c_24)
          refine lv_aload_n hx hb d_td_addOrigin_41 rfl (lv_at hl 0 rfl) ?_
          refine lv_iload hx hb d_td_addOrigin_42 (lv_at hl 8 rfl) ?_
          have hPc : va_P (kD K) vwCl [(Th, .inr (4, [.ref Ta0, .ref Ta1, .int T.2.2])), (Ta0, .inl ((kI K), 330, .inl T.1)), (Ta1, .inl ((kI K), 330, .inl T.2.1))] _ := hP.sub [0, 1, 2] rfl
          refine vp_callSi (va_Run.run (va_runV (As := [.int v8]) (rest := []) ⟨hx, hb, hml, hown, htg⟩ (c_td_move l K Th Ta0 Ta1 T v8) (cwV 1 htg (g_V q_623 q_599 q_600 q_4 (g_w q_601)) rfl rfl rfl ⟨rfl, k_td_move⟩ ⟨Nat.le_of_ble_eq_true rfl, Nat.le_of_ble_eq_true rfl⟩) ⟨ro_blind, va_recv hK hPc (ci := 4) (q0 := 0) rfl rfl, ro_use hPc hK hG hS ⟨(by assumption), trivial⟩⟩ rfl rfl hl.1 rfl (lv_room (Nat.le_of_ble_eq_true rfl)) d_td_addOrigin_44 ⟨Nat.zero_le _, Nat.zero_le _⟩)) (fun r_25 hw_25 => ?_)
          have hF := hF.trans (bnd_s hw_25.1)
          have hPc : va_P (kD K) vwCl [] _ := hP.sub [] rfl
          refine vp_callSi (va_Run.run (va_runSN (As := [.int r_25]) (rest := []) ⟨hx, hb, hml, hown, htg⟩ (c_gn_fromOf l K r_25) (⟨va_cnB 1 htg (g_w q_526) rfl rfl rfl (hG.nw 38 rfl) (htg _ q_1) k_gn_fromOf ⟨Nat.le_of_ble_eq_true rfl, Nat.le_of_ble_eq_true rfl⟩, htg _ q_525, trivial⟩) ⟨ro_blind, ro_use hPc hK hG hS trivial⟩ rfl rfl hl.1 rfl (lv_room (Nat.le_of_ble_eq_true rfl)) d_td_addOrigin_47 ⟨Nat.zero_le _, Nat.zero_le _⟩)) (fun r_26 hw_26 => ?_)
          have hF := hF.trans (bnd_s hw_26.1)
          refine lv_istore (lv' := [(9, .int r_26), (0, .ref Th), (1, .ref Lh), (2, .int mv), (3, .ref Ph), (4, .int v4), (5, .int v5), (6, .int v6), (7, .int v7), (8, .int v8)]) hx hb d_td_addOrigin_50 hl (by decide) rfl (fun ls hl => ?_)
          refine lv_iconst (v := 1) hx hb d_td_addOrigin_52 (by decide) ?_
          refine lv_istore (lv' := [(5, .int (1 : Int32)), (9, .int r_26), (0, .ref Th), (1, .ref Lh), (2, .int mv), (3, .ref Ph), (4, .int v4), (6, .int v6), (7, .int v7), (8, .int v8)]) hx hb d_td_addOrigin_53 hl (by decide) rfl (fun ls hl => ?_)
          refine lv_iload hx hb d_td_addOrigin_55 (lv_at hl 7 rfl) ?_
          refine lv_if_ne (tgt := 73) hx hb d_td_addOrigin_57 (by decide) (fun c_27 => ?_) (fun c_27 => ?_)
          · have hF := hF.trans (if_neg c_27)
            refine lv_iconst (v := 1) hx hb d_td_addOrigin_73 (by decide) ?_
            refine lv_goto (tgt := 78) hx hb d_td_addOrigin_74 (by decide) ?_
            refine lv_istore (lv' := [(6, .int (1 : Int32)), (5, .int (1 : Int32)), (9, .int r_26), (0, .ref Th), (1, .ref Lh), (2, .int mv), (3, .ref Ph), (4, .int v4), (7, .int v7), (8, .int v8)]) hx hb d_td_addOrigin_78 hl (by decide) rfl (fun ls hl => ?_)
            refine lv_iload hx hb d_td_addOrigin_80 (lv_at hl 8 rfl) ?_
            refine lv_if_ne (tgt := 98) hx hb d_td_addOrigin_82 (by decide) (fun c_28 => ?_) (fun c_28 => ?_)
            · have hF := hF.trans (if_neg c_28)
              refine lv_iconst (v := 1) hx hb d_td_addOrigin_98 (by decide) ?_
              refine lv_goto (tgt := 103) hx hb d_td_addOrigin_99 (by decide) ?_
              refine lv_istore (lv' := [(7, .int (1 : Int32)), (6, .int (1 : Int32)), (5, .int (1 : Int32)), (9, .int r_26), (0, .ref Th), (1, .ref Lh), (2, .int mv), (3, .ref Ph), (4, .int v4), (8, .int v8)]) hx hb d_td_addOrigin_103 hl (by decide) rfl (fun ls hl => ?_)
              refine lv_iinc (v := v8 + (1 : Int32)) (lv' := [(8, .int (v8 + (1 : Int32))), (7, .int (1 : Int32)), (6, .int (1 : Int32)), (5, .int (1 : Int32)), (9, .int r_26), (0, .ref Th), (1, .ref Lh), (2, .int mv), (3, .ref Ph), (4, .int v4)]) hx hb d_td_addOrigin_105 hl (k := 9) rfl rfl (by decide) rfl (fun ls hl => ?_)
              refine lv_goto (tgt := 18) hx hb d_td_addOrigin_108 (by decide) ?_
              exact ih18  v4 (1 : Int32) (1 : Int32) (1 : Int32) (v8 + (1 : Int32)) Lw _ _ ls (by assumption) (lp_s i0 c_2) (lp_d i0 c_2 (tdok_le ok_T) hm) hP hD hS (lv_sub hl [5, 6, 7, 8, 9, 3, 2, 1, 0] rfl) hF
            · have hF := hF.trans (if_pos c_28)
              refine lv_iload hx hb d_td_addOrigin_85 (lv_at hl 2 rfl) ?_
              have hPc : va_P (kD K) vwCl [] _ := hP.sub [] rfl
              refine vp_callSi (va_Run.run (va_runSN (As := [.int r_26]) (rest := []) ⟨hx, hb, hml, hown, htg⟩ (c_gn_rankOf l K r_26) (⟨va_cnB 1 htg (g_w q_427) rfl rfl rfl (hG.nw 47 rfl) (htg _ q_1) k_gn_rankOf ⟨Nat.le_of_ble_eq_true rfl, Nat.le_of_ble_eq_true rfl⟩, htg _ q_426, trivial⟩) ⟨ro_blind, ro_use hPc hK hG hS trivial⟩ rfl rfl hl.1 rfl (lv_room (Nat.le_of_ble_eq_true rfl)) d_td_addOrigin_87 ⟨Nat.zero_le _, Nat.zero_le _⟩)) (fun r_29 hw_29 => ?_)
              have hF := hF.trans (bnd_s hw_29.1)
              refine lv_iload hx hb d_td_addOrigin_90 (lv_at hl 7 rfl) ?_
              have hPc : va_P (kD K) vwCl [] _ := hP.sub [] rfl
              refine vp_callSi (va_Run.run (va_runSN (As := [.int v4]) (rest := [.int r_29]) ⟨hx, hb, hml, hown, htg⟩ (c_gn_rankOf l K v4) (⟨va_cnB 1 htg (g_w q_427) rfl rfl rfl (hG.nw 47 rfl) (htg _ q_1) k_gn_rankOf ⟨Nat.le_of_ble_eq_true rfl, Nat.le_of_ble_eq_true rfl⟩, htg _ q_426, trivial⟩) ⟨ro_blind, ro_use hPc hK hG hS trivial⟩ rfl rfl hl.1 rfl (lv_room (Nat.le_of_ble_eq_true rfl)) d_td_addOrigin_92 ⟨Nat.zero_le _, Nat.zero_le _⟩)) (fun r_30 hw_30 => ?_)
              have hF := hF.trans (bnd_s hw_30.1)
              refine lv_icmp_ne (tgt := 102) hx hb d_td_addOrigin_95 (by decide) (fun c_31 => ?_) (fun c_31 => ?_)
              · have hF := hF.trans (if_neg c_31)
                refine lv_iconst (v := 0) hx hb d_td_addOrigin_102 (by decide) ?_
                refine lv_istore (lv' := [(7, .int (0 : Int32)), (6, .int (1 : Int32)), (5, .int (1 : Int32)), (9, .int r_26), (0, .ref Th), (1, .ref Lh), (2, .int mv), (3, .ref Ph), (4, .int v4), (8, .int v8)]) hx hb d_td_addOrigin_103 hl (by decide) rfl (fun ls hl => ?_)
                refine lv_iinc (v := v8 + (1 : Int32)) (lv' := [(8, .int (v8 + (1 : Int32))), (7, .int (0 : Int32)), (6, .int (1 : Int32)), (5, .int (1 : Int32)), (9, .int r_26), (0, .ref Th), (1, .ref Lh), (2, .int mv), (3, .ref Ph), (4, .int v4)]) hx hb d_td_addOrigin_105 hl (k := 9) rfl rfl (by decide) rfl (fun ls hl => ?_)
                refine lv_goto (tgt := 18) hx hb d_td_addOrigin_108 (by decide) ?_
                exact ih18  v4 (1 : Int32) (1 : Int32) (0 : Int32) (v8 + (1 : Int32)) Lw _ _ ls (by assumption) (lp_s i0 c_2) (lp_d i0 c_2 (tdok_le ok_T) hm) hP hD hS (lv_sub hl [5, 6, 7, 8, 9, 3, 2, 1, 0] rfl) hF
              · have hF := hF.trans (if_pos c_31)
                refine lv_iconst (v := 1) hx hb d_td_addOrigin_98 (by decide) ?_
                refine lv_goto (tgt := 103) hx hb d_td_addOrigin_99 (by decide) ?_
                refine lv_istore (lv' := [(7, .int (1 : Int32)), (6, .int (1 : Int32)), (5, .int (1 : Int32)), (9, .int r_26), (0, .ref Th), (1, .ref Lh), (2, .int mv), (3, .ref Ph), (4, .int v4), (8, .int v8)]) hx hb d_td_addOrigin_103 hl (by decide) rfl (fun ls hl => ?_)
                refine lv_iinc (v := v8 + (1 : Int32)) (lv' := [(8, .int (v8 + (1 : Int32))), (7, .int (1 : Int32)), (6, .int (1 : Int32)), (5, .int (1 : Int32)), (9, .int r_26), (0, .ref Th), (1, .ref Lh), (2, .int mv), (3, .ref Ph), (4, .int v4)]) hx hb d_td_addOrigin_105 hl (k := 9) rfl rfl (by decide) rfl (fun ls hl => ?_)
                refine lv_goto (tgt := 18) hx hb d_td_addOrigin_108 (by decide) ?_
                exact ih18  v4 (1 : Int32) (1 : Int32) (1 : Int32) (v8 + (1 : Int32)) Lw _ _ ls (by assumption) (lp_s i0 c_2) (lp_d i0 c_2 (tdok_le ok_T) hm) hP hD hS (lv_sub hl [5, 6, 7, 8, 9, 3, 2, 1, 0] rfl) hF
          · have hF := hF.trans (if_pos c_27)
            refine lv_iload hx hb d_td_addOrigin_60 (lv_at hl 1 rfl) ?_
            have hPc : va_P (kD K) vwCl [] _ := hP.sub [] rfl
            refine vp_callSi (va_Run.run (va_runSN (As := [.int r_26]) (rest := []) ⟨hx, hb, hml, hown, htg⟩ (c_gn_fileOf l K r_26) (⟨va_cnB 1 htg (g_w q_424) rfl rfl rfl (hG.nw 40 rfl) (htg _ q_1) k_gn_fileOf ⟨Nat.le_of_ble_eq_true rfl, Nat.le_of_ble_eq_true rfl⟩, htg _ q_423, trivial⟩) ⟨ro_blind, ro_use hPc hK hG hS trivial⟩ rfl rfl hl.1 rfl (lv_room (Nat.le_of_ble_eq_true rfl)) d_td_addOrigin_62 ⟨Nat.zero_le _, Nat.zero_le _⟩)) (fun r_32 hw_32 => ?_)
            have hF := hF.trans (bnd_s hw_32.1)
            refine lv_iload hx hb d_td_addOrigin_65 (lv_at hl 6 rfl) ?_
            have hPc : va_P (kD K) vwCl [] _ := hP.sub [] rfl
            refine vp_callSi (va_Run.run (va_runSN (As := [.int v4]) (rest := [.int r_32]) ⟨hx, hb, hml, hown, htg⟩ (c_gn_fileOf l K v4) (⟨va_cnB 1 htg (g_w q_424) rfl rfl rfl (hG.nw 40 rfl) (htg _ q_1) k_gn_fileOf ⟨Nat.le_of_ble_eq_true rfl, Nat.le_of_ble_eq_true rfl⟩, htg _ q_423, trivial⟩) ⟨ro_blind, ro_use hPc hK hG hS trivial⟩ rfl rfl hl.1 rfl (lv_room (Nat.le_of_ble_eq_true rfl)) d_td_addOrigin_67 ⟨Nat.zero_le _, Nat.zero_le _⟩)) (fun r_33 hw_33 => ?_)
            have hF := hF.trans (bnd_s hw_33.1)
            refine lv_icmp_ne (tgt := 77) hx hb d_td_addOrigin_70 (by decide) (fun c_34 => ?_) (fun c_34 => ?_)
            · have hF := hF.trans (if_neg c_34)
              refine lv_iconst (v := 0) hx hb d_td_addOrigin_77 (by decide) ?_
              refine lv_istore (lv' := [(6, .int (0 : Int32)), (5, .int (1 : Int32)), (9, .int r_26), (0, .ref Th), (1, .ref Lh), (2, .int mv), (3, .ref Ph), (4, .int v4), (7, .int v7), (8, .int v8)]) hx hb d_td_addOrigin_78 hl (by decide) rfl (fun ls hl => ?_)
              refine lv_iload hx hb d_td_addOrigin_80 (lv_at hl 8 rfl) ?_
              refine lv_if_ne (tgt := 98) hx hb d_td_addOrigin_82 (by decide) (fun c_35 => ?_) (fun c_35 => ?_)
              · have hF := hF.trans (if_neg c_35)
                refine lv_iconst (v := 1) hx hb d_td_addOrigin_98 (by decide) ?_
                refine lv_goto (tgt := 103) hx hb d_td_addOrigin_99 (by decide) ?_
                refine lv_istore (lv' := [(7, .int (1 : Int32)), (6, .int (0 : Int32)), (5, .int (1 : Int32)), (9, .int r_26), (0, .ref Th), (1, .ref Lh), (2, .int mv), (3, .ref Ph), (4, .int v4), (8, .int v8)]) hx hb d_td_addOrigin_103 hl (by decide) rfl (fun ls hl => ?_)
                refine lv_iinc (v := v8 + (1 : Int32)) (lv' := [(8, .int (v8 + (1 : Int32))), (7, .int (1 : Int32)), (6, .int (0 : Int32)), (5, .int (1 : Int32)), (9, .int r_26), (0, .ref Th), (1, .ref Lh), (2, .int mv), (3, .ref Ph), (4, .int v4)]) hx hb d_td_addOrigin_105 hl (k := 9) rfl rfl (by decide) rfl (fun ls hl => ?_)
                refine lv_goto (tgt := 18) hx hb d_td_addOrigin_108 (by decide) ?_
                exact ih18  v4 (1 : Int32) (0 : Int32) (1 : Int32) (v8 + (1 : Int32)) Lw _ _ ls (by assumption) (lp_s i0 c_2) (lp_d i0 c_2 (tdok_le ok_T) hm) hP hD hS (lv_sub hl [5, 6, 7, 8, 9, 3, 2, 1, 0] rfl) hF
              · have hF := hF.trans (if_pos c_35)
                refine lv_iload hx hb d_td_addOrigin_85 (lv_at hl 2 rfl) ?_
                have hPc : va_P (kD K) vwCl [] _ := hP.sub [] rfl
                refine vp_callSi (va_Run.run (va_runSN (As := [.int r_26]) (rest := []) ⟨hx, hb, hml, hown, htg⟩ (c_gn_rankOf l K r_26) (⟨va_cnB 1 htg (g_w q_427) rfl rfl rfl (hG.nw 47 rfl) (htg _ q_1) k_gn_rankOf ⟨Nat.le_of_ble_eq_true rfl, Nat.le_of_ble_eq_true rfl⟩, htg _ q_426, trivial⟩) ⟨ro_blind, ro_use hPc hK hG hS trivial⟩ rfl rfl hl.1 rfl (lv_room (Nat.le_of_ble_eq_true rfl)) d_td_addOrigin_87 ⟨Nat.zero_le _, Nat.zero_le _⟩)) (fun r_36 hw_36 => ?_)
                have hF := hF.trans (bnd_s hw_36.1)
                refine lv_iload hx hb d_td_addOrigin_90 (lv_at hl 7 rfl) ?_
                have hPc : va_P (kD K) vwCl [] _ := hP.sub [] rfl
                refine vp_callSi (va_Run.run (va_runSN (As := [.int v4]) (rest := [.int r_36]) ⟨hx, hb, hml, hown, htg⟩ (c_gn_rankOf l K v4) (⟨va_cnB 1 htg (g_w q_427) rfl rfl rfl (hG.nw 47 rfl) (htg _ q_1) k_gn_rankOf ⟨Nat.le_of_ble_eq_true rfl, Nat.le_of_ble_eq_true rfl⟩, htg _ q_426, trivial⟩) ⟨ro_blind, ro_use hPc hK hG hS trivial⟩ rfl rfl hl.1 rfl (lv_room (Nat.le_of_ble_eq_true rfl)) d_td_addOrigin_92 ⟨Nat.zero_le _, Nat.zero_le _⟩)) (fun r_37 hw_37 => ?_)
                have hF := hF.trans (bnd_s hw_37.1)
                refine lv_icmp_ne (tgt := 102) hx hb d_td_addOrigin_95 (by decide) (fun c_38 => ?_) (fun c_38 => ?_)
                · have hF := hF.trans (if_neg c_38)
                  refine lv_iconst (v := 0) hx hb d_td_addOrigin_102 (by decide) ?_
                  refine lv_istore (lv' := [(7, .int (0 : Int32)), (6, .int (0 : Int32)), (5, .int (1 : Int32)), (9, .int r_26), (0, .ref Th), (1, .ref Lh), (2, .int mv), (3, .ref Ph), (4, .int v4), (8, .int v8)]) hx hb d_td_addOrigin_103 hl (by decide) rfl (fun ls hl => ?_)
                  refine lv_iinc (v := v8 + (1 : Int32)) (lv' := [(8, .int (v8 + (1 : Int32))), (7, .int (0 : Int32)), (6, .int (0 : Int32)), (5, .int (1 : Int32)), (9, .int r_26), (0, .ref Th), (1, .ref Lh), (2, .int mv), (3, .ref Ph), (4, .int v4)]) hx hb d_td_addOrigin_105 hl (k := 9) rfl rfl (by decide) rfl (fun ls hl => ?_)
                  refine lv_goto (tgt := 18) hx hb d_td_addOrigin_108 (by decide) ?_
                  exact ih18  v4 (1 : Int32) (0 : Int32) (0 : Int32) (v8 + (1 : Int32)) Lw _ _ ls (by assumption) (lp_s i0 c_2) (lp_d i0 c_2 (tdok_le ok_T) hm) hP hD hS (lv_sub hl [5, 6, 7, 8, 9, 3, 2, 1, 0] rfl) hF
                · have hF := hF.trans (if_pos c_38)
                  refine lv_iconst (v := 1) hx hb d_td_addOrigin_98 (by decide) ?_
                  refine lv_goto (tgt := 103) hx hb d_td_addOrigin_99 (by decide) ?_
                  refine lv_istore (lv' := [(7, .int (1 : Int32)), (6, .int (0 : Int32)), (5, .int (1 : Int32)), (9, .int r_26), (0, .ref Th), (1, .ref Lh), (2, .int mv), (3, .ref Ph), (4, .int v4), (8, .int v8)]) hx hb d_td_addOrigin_103 hl (by decide) rfl (fun ls hl => ?_)
                  refine lv_iinc (v := v8 + (1 : Int32)) (lv' := [(8, .int (v8 + (1 : Int32))), (7, .int (1 : Int32)), (6, .int (0 : Int32)), (5, .int (1 : Int32)), (9, .int r_26), (0, .ref Th), (1, .ref Lh), (2, .int mv), (3, .ref Ph), (4, .int v4)]) hx hb d_td_addOrigin_105 hl (k := 9) rfl rfl (by decide) rfl (fun ls hl => ?_)
                  refine lv_goto (tgt := 18) hx hb d_td_addOrigin_108 (by decide) ?_
                  exact ih18  v4 (1 : Int32) (0 : Int32) (1 : Int32) (v8 + (1 : Int32)) Lw _ _ ls (by assumption) (lp_s i0 c_2) (lp_d i0 c_2 (tdok_le ok_T) hm) hP hD hS (lv_sub hl [5, 6, 7, 8, 9, 3, 2, 1, 0] rfl) hF
            · have hF := hF.trans (if_pos c_34)
              refine lv_iconst (v := 1) hx hb d_td_addOrigin_73 (by decide) ?_
              refine lv_goto (tgt := 78) hx hb d_td_addOrigin_74 (by decide) ?_
              refine lv_istore (lv' := [(6, .int (1 : Int32)), (5, .int (1 : Int32)), (9, .int r_26), (0, .ref Th), (1, .ref Lh), (2, .int mv), (3, .ref Ph), (4, .int v4), (7, .int v7), (8, .int v8)]) hx hb d_td_addOrigin_78 hl (by decide) rfl (fun ls hl => ?_)
              refine lv_iload hx hb d_td_addOrigin_80 (lv_at hl 8 rfl) ?_
              refine lv_if_ne (tgt := 98) hx hb d_td_addOrigin_82 (by decide) (fun c_39 => ?_) (fun c_39 => ?_)
              · have hF := hF.trans (if_neg c_39)
                refine lv_iconst (v := 1) hx hb d_td_addOrigin_98 (by decide) ?_
                refine lv_goto (tgt := 103) hx hb d_td_addOrigin_99 (by decide) ?_
                refine lv_istore (lv' := [(7, .int (1 : Int32)), (6, .int (1 : Int32)), (5, .int (1 : Int32)), (9, .int r_26), (0, .ref Th), (1, .ref Lh), (2, .int mv), (3, .ref Ph), (4, .int v4), (8, .int v8)]) hx hb d_td_addOrigin_103 hl (by decide) rfl (fun ls hl => ?_)
                refine lv_iinc (v := v8 + (1 : Int32)) (lv' := [(8, .int (v8 + (1 : Int32))), (7, .int (1 : Int32)), (6, .int (1 : Int32)), (5, .int (1 : Int32)), (9, .int r_26), (0, .ref Th), (1, .ref Lh), (2, .int mv), (3, .ref Ph), (4, .int v4)]) hx hb d_td_addOrigin_105 hl (k := 9) rfl rfl (by decide) rfl (fun ls hl => ?_)
                refine lv_goto (tgt := 18) hx hb d_td_addOrigin_108 (by decide) ?_
                exact ih18  v4 (1 : Int32) (1 : Int32) (1 : Int32) (v8 + (1 : Int32)) Lw _ _ ls (by assumption) (lp_s i0 c_2) (lp_d i0 c_2 (tdok_le ok_T) hm) hP hD hS (lv_sub hl [5, 6, 7, 8, 9, 3, 2, 1, 0] rfl) hF
              · have hF := hF.trans (if_pos c_39)
                refine lv_iload hx hb d_td_addOrigin_85 (lv_at hl 2 rfl) ?_
                have hPc : va_P (kD K) vwCl [] _ := hP.sub [] rfl
                refine vp_callSi (va_Run.run (va_runSN (As := [.int r_26]) (rest := []) ⟨hx, hb, hml, hown, htg⟩ (c_gn_rankOf l K r_26) (⟨va_cnB 1 htg (g_w q_427) rfl rfl rfl (hG.nw 47 rfl) (htg _ q_1) k_gn_rankOf ⟨Nat.le_of_ble_eq_true rfl, Nat.le_of_ble_eq_true rfl⟩, htg _ q_426, trivial⟩) ⟨ro_blind, ro_use hPc hK hG hS trivial⟩ rfl rfl hl.1 rfl (lv_room (Nat.le_of_ble_eq_true rfl)) d_td_addOrigin_87 ⟨Nat.zero_le _, Nat.zero_le _⟩)) (fun r_40 hw_40 => ?_)
                have hF := hF.trans (bnd_s hw_40.1)
                refine lv_iload hx hb d_td_addOrigin_90 (lv_at hl 7 rfl) ?_
                have hPc : va_P (kD K) vwCl [] _ := hP.sub [] rfl
                refine vp_callSi (va_Run.run (va_runSN (As := [.int v4]) (rest := [.int r_40]) ⟨hx, hb, hml, hown, htg⟩ (c_gn_rankOf l K v4) (⟨va_cnB 1 htg (g_w q_427) rfl rfl rfl (hG.nw 47 rfl) (htg _ q_1) k_gn_rankOf ⟨Nat.le_of_ble_eq_true rfl, Nat.le_of_ble_eq_true rfl⟩, htg _ q_426, trivial⟩) ⟨ro_blind, ro_use hPc hK hG hS trivial⟩ rfl rfl hl.1 rfl (lv_room (Nat.le_of_ble_eq_true rfl)) d_td_addOrigin_92 ⟨Nat.zero_le _, Nat.zero_le _⟩)) (fun r_41 hw_41 => ?_)
                have hF := hF.trans (bnd_s hw_41.1)
                refine lv_icmp_ne (tgt := 102) hx hb d_td_addOrigin_95 (by decide) (fun c_42 => ?_) (fun c_42 => ?_)
                · have hF := hF.trans (if_neg c_42)
                  refine lv_iconst (v := 0) hx hb d_td_addOrigin_102 (by decide) ?_
                  refine lv_istore (lv' := [(7, .int (0 : Int32)), (6, .int (1 : Int32)), (5, .int (1 : Int32)), (9, .int r_26), (0, .ref Th), (1, .ref Lh), (2, .int mv), (3, .ref Ph), (4, .int v4), (8, .int v8)]) hx hb d_td_addOrigin_103 hl (by decide) rfl (fun ls hl => ?_)
                  refine lv_iinc (v := v8 + (1 : Int32)) (lv' := [(8, .int (v8 + (1 : Int32))), (7, .int (0 : Int32)), (6, .int (1 : Int32)), (5, .int (1 : Int32)), (9, .int r_26), (0, .ref Th), (1, .ref Lh), (2, .int mv), (3, .ref Ph), (4, .int v4)]) hx hb d_td_addOrigin_105 hl (k := 9) rfl rfl (by decide) rfl (fun ls hl => ?_)
                  refine lv_goto (tgt := 18) hx hb d_td_addOrigin_108 (by decide) ?_
                  exact ih18  v4 (1 : Int32) (1 : Int32) (0 : Int32) (v8 + (1 : Int32)) Lw _ _ ls (by assumption) (lp_s i0 c_2) (lp_d i0 c_2 (tdok_le ok_T) hm) hP hD hS (lv_sub hl [5, 6, 7, 8, 9, 3, 2, 1, 0] rfl) hF
                · have hF := hF.trans (if_pos c_42)
                  refine lv_iconst (v := 1) hx hb d_td_addOrigin_98 (by decide) ?_
                  refine lv_goto (tgt := 103) hx hb d_td_addOrigin_99 (by decide) ?_
                  refine lv_istore (lv' := [(7, .int (1 : Int32)), (6, .int (1 : Int32)), (5, .int (1 : Int32)), (9, .int r_26), (0, .ref Th), (1, .ref Lh), (2, .int mv), (3, .ref Ph), (4, .int v4), (8, .int v8)]) hx hb d_td_addOrigin_103 hl (by decide) rfl (fun ls hl => ?_)
                  refine lv_iinc (v := v8 + (1 : Int32)) (lv' := [(8, .int (v8 + (1 : Int32))), (7, .int (1 : Int32)), (6, .int (1 : Int32)), (5, .int (1 : Int32)), (9, .int r_26), (0, .ref Th), (1, .ref Lh), (2, .int mv), (3, .ref Ph), (4, .int v4)]) hx hb d_td_addOrigin_105 hl (k := 9) rfl rfl (by decide) rfl (fun ls hl => ?_)
                  refine lv_goto (tgt := 18) hx hb d_td_addOrigin_108 (by decide) ?_
                  exact ih18  v4 (1 : Int32) (1 : Int32) (1 : Int32) (v8 + (1 : Int32)) Lw _ _ ls (by assumption) (lp_s i0 c_2) (lp_d i0 c_2 (tdok_le ok_T) hm) hP hD hS (lv_sub hl [5, 6, 7, 8, 9, 3, 2, 1, 0] rfl) hF
  exact loop18 331 r_1 (0 : Int32) (0 : Int32) (0 : Int32) (0 : Int32) L _ _ ls (by assumption) (by decide) (by decide) hP hD hS (lv_sub hl [5, 6, 7, 8, 4, 3, 2, 1, 0] rfl) hF
def f_td_addManMove (T : TdT) (L : LnT) (mv : Int32) (P : PsT) : LnT := (bnd (f_gn_fromOf mv) (fun r_1 => (bnd (f_ps_manOn P r_1) (fun r_2 => (bnd (f_gn_kindOf r_2) (fun r_3 => (bnd (f_gn_pick 1 (r_3 - (1 : Int32))) (fun r_4 => (bnd (f_ln_add L r_4) (fun u_5 => (bnd (f_td_addOrigin T u_5 mv P) (fun u_6 => (bnd (f_gn_toOf mv) (fun r_7 => (bnd (f_ps_manOn P r_7) (fun r_8 => (if r_8 = 0 then (bnd (f_gn_toOf mv) (fun r_10 => (bnd (f_ln_addSquare u_6 r_10) (fun u_11 => u_11)))) else (bnd (f_ln_add u_6 (120 : Int32)) (fun u_12 => (bnd (f_gn_toOf mv) (fun r_13 => (bnd (f_ln_addSquare u_12 r_13) (fun u_14 => u_14)))))))))))))))))))))))
set_option maxHeartbeats 4000000 in
set_option maxRecDepth 100000 in
theorem c_td_addManMove (l : Launch) (K : KT) (sz : Nat) (Th Ta0 Ta1 : Nat) (T : TdT) (Lh La0 : Nat) (L : LnT) (mv : Int32) (Ph Pa0 : Nat) (P : PsT) : Met l y_td_addManMove w_td_addManMove ({ frames := 6, cells := 0, slots := 0, locals := 135 } : Room) (va_Pc [.ref Th, .ref Lh, .int mv, .ref Ph] (fun U => pMU K [(Th, .inr (4, [.ref Ta0, .ref Ta1, .int T.2.2])), (Ta0, .inl ((kI K), 330, .inl T.1)), (Ta1, .inl ((kI K), 330, .inl T.2.1)), (Lh, .inr (1, [.ref La0, .int L.2])), (La0, .inl ((kC K), 100, .inl L.1)), (Ph, .inr (2, [.ref Pa0, .int P.2.1, .int P.2.2.1, .int P.2.2.2.1, .int P.2.2.2.2.1, .int P.2.2.2.2.2])), (Pa0, .inl ((kI K), 64, .inl P.1))] sz U ∧ TdOk T ∧ LnOk L ∧ True)) (va_Qv (fun u : LnT => f_td_addManMove T L mv P = u ∧ LnOk u ∧ True) (fun (u : LnT) (t : State) => va_P (kD K) vwCl [(Th, .inr (4, [.ref Ta0, .ref Ta1, .int T.2.2])), (Ta0, .inl ((kI K), 330, .inl T.1)), (Ta1, .inl ((kI K), 330, .inl T.2.1)), (Lh, .inr (1, [.ref La0, .int u.2])), (La0, .inl ((kC K), 100, .inl u.1)), (Ph, .inr (2, [.ref Pa0, .int P.2.1, .int P.2.2.1, .int P.2.2.2.1, .int P.2.2.2.2.1, .int P.2.2.2.2.2])), (Pa0, .inl ((kI K), 64, .inl P.1))] t.heap ∧ va_D (va_A [(Th, .inr (4, [.ref Ta0, .ref Ta1, .int T.2.2])), (Ta0, .inl ((kI K), 330, .inl T.1)), (Ta1, .inl ((kI K), 330, .inl T.2.1)), (Lh, .inr (1, [.ref La0, .int L.2])), (La0, .inl ((kC K), 100, .inl L.1)), (Ph, .inr (2, [.ref Pa0, .int P.2.1, .int P.2.2.1, .int P.2.2.2.1, .int P.2.2.2.2.1, .int P.2.2.2.2.2])), (Pa0, .inl ((kI K), 64, .inl P.1))] sz) [(Th, .inr (4, [.ref Ta0, .ref Ta1, .int T.2.2])), (Ta0, .inl ((kI K), 330, .inl T.1)), (Ta1, .inl ((kI K), 330, .inl T.2.1)), (Lh, .inr (1, [.ref La0, .int u.2])), (La0, .inl ((kC K), 100, .inl u.1)), (Ph, .inr (2, [.ref Pa0, .int P.2.1, .int P.2.2.1, .int P.2.2.2.1, .int P.2.2.2.2.1, .int P.2.2.2.2.2])), (Pa0, .inl ((kI K), 64, .inl P.1))]) (va_A [(Th, .inr (4, [.ref Ta0, .ref Ta1, .int T.2.2])), (Ta0, .inl ((kI K), 330, .inl T.1)), (Ta1, .inl ((kI K), 330, .inl T.2.1)), (Lh, .inr (1, [.ref La0, .int L.2])), (La0, .inl ((kC K), 100, .inl L.1)), (Ph, .inr (2, [.ref Pa0, .int P.2.1, .int P.2.2.1, .int P.2.2.2.1, .int P.2.2.2.2.1, .int P.2.2.2.2.2])), (Pa0, .inl ((kI K), 64, .inl P.1))] sz)) 0 0 (va_A [(Th, .inr (4, [.ref Ta0, .ref Ta1, .int T.2.2])), (Ta0, .inl ((kI K), 330, .inl T.1)), (Ta1, .inl ((kI K), 330, .inl T.2.1)), (Lh, .inr (1, [.ref La0, .int L.2])), (La0, .inl ((kC K), 100, .inl L.1)), (Ph, .inr (2, [.ref Pa0, .int P.2.1, .int P.2.2.1, .int P.2.2.2.1, .int P.2.2.2.2.1, .int P.2.2.2.2.2])), (Pa0, .inl ((kI K), 64, .inl P.1))] sz) := by
  refine Met.ofW (cc := b_td_addManMove) (maxL := 4) (ret := none) (by decide) rfl ?_
  intro p e s m args below meth c s₁ B hml hv
  obtain ⟨rfl, ⟨hsz, hP, hK, hD0, hG⟩, ok_T, ok_L, -⟩ := hv
  have hx := B.exec
  have hb := B.bytes
  have hr := B.returns
  have hts := atoms_spec (ws := w_td_addManMove) B.pre
  have hown : s.vm.findClass R_td = some m.cls := findClass_of_methodNamed B.named
  have hlocks := B.notSynchronized
  have htg := fun w h => hts w (List.mem_cons_of_mem _ h)
  subst hsz
  have hD := hD0.self (sz := s.heap.size)
  generalize hAe : va_A [(Th, .inr (4, [.ref Ta0, .ref Ta1, .int T.2.2])), (Ta0, .inl ((kI K), 330, .inl T.1)), (Ta1, .inl ((kI K), 330, .inl T.2.1)), (Lh, .inr (1, [.ref La0, .int L.2])), (La0, .inl ((kC K), 100, .inl L.1)), (Ph, .inr (2, [.ref Pa0, .int P.2.1, .int P.2.2.1, .int P.2.2.2.1, .int P.2.2.2.2.1, .int P.2.2.2.2.2])), (Pa0, .inl ((kI K), 64, .inl P.1))] s.heap.size = A at hD hG ⊢
  have hA : ∀ q : Nat, s.heap.size ≤ q → A q := fun q h => by rw [← hAe]; exact Or.inr h
  have hS : va_S A s.heap s.heap [] := va_S.rf
  have hl := lv_entry ([.ref Th, .ref Lh, .int mv, .ref Ph]) (n := 4) (Nat.le_of_ble_eq_true rfl)
  rw [lg_entry_eq]
  generalize (lg_sl ([.ref Th, .ref Lh, .int mv, .ref Ph]) ++ List.replicate (4 - (lg_sl ([.ref Th, .ref Lh, .int mv, .ref Ph])).length) Slot.unset).toArray = ls at hl ⊢
  have hl : lv_has ls 4 [(0, .ref Th), (1, .ref Lh), (2, .int mv), (3, .ref Ph)] := hl
  have hF := f_td_addManMove.eq_1 T L mv P
  refine lv_aload_n hx hb d_td_addManMove_0 rfl (lv_at hl 1 rfl) ?_
  refine va_ldcS hx hb hown (show vk_R R_td 89 "PNBRQKpnbrqk" (kK K 1) s from hG.sr 20 (q := ("GameNotation$Told", 89, "PNBRQKpnbrqk", 1)) rfl) d_td_addManMove_1 ?_
  refine lv_aload_n hx hb d_td_addManMove_3 rfl (lv_at hl 3 rfl) ?_
  refine lv_iload_n hx hb d_td_addManMove_4 rfl (lv_at hl 2 rfl) ?_
  have hPc : va_P (kD K) vwCl [] _ := hP.sub [] rfl
  refine vp_callSi (va_Run.run (va_runSN (As := [.int mv]) (rest := [.ref Ph, .ref (kK K 1), .ref Lh]) ⟨hx, hb, hml, hown, htg⟩ (c_gn_fromOf l K mv) (⟨va_cnB 1 htg (g_w q_526) rfl rfl rfl (hG.nw 38 rfl) (htg _ q_1) k_gn_fromOf ⟨Nat.le_of_ble_eq_true rfl, Nat.le_of_ble_eq_true rfl⟩, htg _ q_525, trivial⟩) ⟨ro_blind, ro_use hPc hK hG hS trivial⟩ rfl rfl hl.1 rfl (lv_room (Nat.le_of_ble_eq_true rfl)) d_td_addManMove_5 ⟨Nat.zero_le _, Nat.zero_le _⟩)) (fun r_1 hw_1 => ?_)
  have hF := hF.trans (bnd_s hw_1.1)
  have hPc : va_P (kD K) vwCl [(Ph, .inr (2, [.ref Pa0, .int P.2.1, .int P.2.2.1, .int P.2.2.2.1, .int P.2.2.2.2.1, .int P.2.2.2.2.2])), (Pa0, .inl ((kI K), 64, .inl P.1))] _ := hP.sub [5, 6] rfl
  refine vp_callSi (va_Run.run (va_runV (As := [.int r_1]) (rest := [.ref (kK K 1), .ref Lh]) ⟨hx, hb, hml, hown, htg⟩ (c_ps_manOn l K Ph Pa0 P r_1) (cwV 1 htg (g_V q_632 q_508 q_509 q_6 (g_w q_510)) rfl rfl rfl ⟨rfl, k_ps_manOn⟩ ⟨Nat.le_of_ble_eq_true rfl, Nat.le_of_ble_eq_true rfl⟩) ⟨ro_blind, va_recv hK hPc (ci := 2) (q0 := 0) rfl rfl, ro_use hPc hK hG hS trivial⟩ rfl rfl hl.1 rfl (lv_room (Nat.le_of_ble_eq_true rfl)) d_td_addManMove_8 ⟨Nat.zero_le _, Nat.zero_le _⟩)) (fun r_2 hw_2 => ?_)
  have hF := hF.trans (bnd_s hw_2.1)
  have hPc : va_P (kD K) vwCl [] _ := hP.sub [] rfl
  refine vp_callSi (va_Run.run (va_runSN (As := [.int r_2]) (rest := [.ref (kK K 1), .ref Lh]) ⟨hx, hb, hml, hown, htg⟩ (c_gn_kindOf l K r_2) (⟨va_cnB 1 htg (g_w q_375) rfl rfl rfl (hG.nw 39 rfl) (htg _ q_1) k_gn_kindOf ⟨Nat.le_of_ble_eq_true rfl, Nat.le_of_ble_eq_true rfl⟩, htg _ q_374, trivial⟩) ⟨ro_blind, ro_use hPc hK hG hS trivial⟩ rfl rfl hl.1 rfl (lv_room (Nat.le_of_ble_eq_true rfl)) d_td_addManMove_11 ⟨Nat.zero_le _, Nat.zero_le _⟩)) (fun r_3 hw_3 => ?_)
  have hF := hF.trans (bnd_s hw_3.1)
  refine lv_iconst (v := 1) hx hb d_td_addManMove_14 (by decide) ?_
  refine lv_isub hx hb d_td_addManMove_15 ?_
  have hPc : va_P (kD K) vwCl [] _ := hP.sub [] rfl
  refine vp_callSi (va_Run.run (va_runSN (As := [.ref (kK K 1), .int (r_3 - (1 : Int32))]) (rest := [.ref Lh]) ⟨hx, hb, hml, hown, htg⟩ (c_gn_pick l K 1 (r_3 - (1 : Int32))) (⟨va_cnB 2 htg (g_w q_316) rfl rfl rfl (hG.nw 42 rfl) (htg _ q_1) k_gn_pick ⟨Nat.le_of_ble_eq_true rfl, Nat.le_of_ble_eq_true rfl⟩, htg _ q_315, trivial⟩) ⟨ro_blind, ro_use hPc hK hG hS ⟨(by decide), trivial⟩⟩ rfl rfl hl.1 rfl (lv_room (Nat.le_of_ble_eq_true rfl)) d_td_addManMove_16 ⟨Nat.zero_le _, Nat.zero_le _⟩)) (fun r_4 hw_4 => ?_)
  have hF := hF.trans (bnd_s hw_4.1)
  have hn_4 := hw_4.2
  have hPc : va_P (kD K) vwCl [(Lh, .inr (1, [.ref La0, .int L.2])), (La0, .inl ((kC K), 100, .inl L.1))] _ := hP.sub [3, 4] rfl
  have hDc : va_D A [(Lh, .inr (1, [.ref La0, .int L.2])), (La0, .inl ((kC K), 100, .inl L.1))] := hD.sub [3, 4] (by decide) rfl
  have hFc := va_free (wc := [(Lh, .inr (1, [.ref La0, .int L.2])), (La0, .inl ((kC K), 100, .inl L.1))]) hD hS hA [3, 4] rfl
  refine va_callv (va_runV (As := [.int r_4]) (rest := []) ⟨hx, hb, hml, hown, htg⟩ (c_ln_add l K _ Lh La0 L r_4) (cwV 1 htg (g_V q_641 q_162 q_163 q_2 (g_w q_164)) rfl rfl rfl ⟨rfl, k_ln_add⟩ ⟨Nat.le_of_ble_eq_true rfl, Nat.le_of_ble_eq_true rfl⟩) ⟨mu_blind, va_recv hK hPc (ci := 1) (q0 := 0) rfl rfl, mu_use hPc hK hDc hG hS hFc ⟨(by assumption), trivial⟩⟩ rfl rfl hl.1 rfl (lv_room (Nat.le_of_ble_eq_true rfl)) d_td_addManMove_19 ⟨Nat.zero_le _, Nat.zero_le _⟩) hS (fun q _ h => hFc q h) hFc (fun u_5 t H1 locs ht hvm hw_5 hB hz1 hk1 hS => ?_)
  obtain ⟨hP1, hD1⟩ := hB
  rw [ht] at hP1
  obtain ⟨hP, hD⟩ := va_join (wr := [(Th, .inr (4, [.ref Ta0, .ref Ta1, .int T.2.2])), (Ta0, .inl ((kI K), 330, .inl T.1)), (Ta1, .inl ((kI K), 330, .inl T.2.1)), (Ph, .inr (2, [.ref Pa0, .int P.2.1, .int P.2.2.1, .int P.2.2.2.1, .int P.2.2.2.2.1, .int P.2.2.2.2.2])), (Pa0, .inl ((kI K), 64, .inl P.1))]) (w1 := [(Lh, .inr (1, [.ref La0, .int u_5.2])), (La0, .inl ((kC K), 100, .inl u_5.1))]) hP hD [3, 4] [0, 1, 2, 5, 6] rfl rfl (by decide) (by decide) hk1 hFc hP1 hD1
  have hP : va_P (kD K) vwCl [(Th, .inr (4, [.ref Ta0, .ref Ta1, .int T.2.2])), (Ta0, .inl ((kI K), 330, .inl T.1)), (Ta1, .inl ((kI K), 330, .inl T.2.1)), (Lh, .inr (1, [.ref La0, .int u_5.2])), (La0, .inl ((kC K), 100, .inl u_5.1)), (Ph, .inr (2, [.ref Pa0, .int P.2.1, .int P.2.2.1, .int P.2.2.2.1, .int P.2.2.2.2.1, .int P.2.2.2.2.2])), (Pa0, .inl ((kI K), 64, .inl P.1))] H1 := hP.sub [0, 1, 2, 5, 6, 3, 4] rfl
  have hD : va_D A [(Th, .inr (4, [.ref Ta0, .ref Ta1, .int T.2.2])), (Ta0, .inl ((kI K), 330, .inl T.1)), (Ta1, .inl ((kI K), 330, .inl T.2.1)), (Lh, .inr (1, [.ref La0, .int u_5.2])), (La0, .inl ((kC K), 100, .inl u_5.1)), (Ph, .inr (2, [.ref Pa0, .int P.2.1, .int P.2.2.1, .int P.2.2.2.1, .int P.2.2.2.2.1, .int P.2.2.2.2.2])), (Pa0, .inl ((kI K), 64, .inl P.1))] := hD.sub [0, 1, 2, 5, 6, 3, 4] (by decide) rfl
  generalize H1 = H at hP hS ⊢
  have hF := hF.trans (bnd_s hw_5.1)
  have ok_5_L : LnOk u_5 := hw_5.2.1
  refine lv_aload_n hx hb d_td_addManMove_22 rfl (lv_at hl 0 rfl) ?_
  refine lv_aload_n hx hb d_td_addManMove_23 rfl (lv_at hl 1 rfl) ?_
  refine lv_iload_n hx hb d_td_addManMove_24 rfl (lv_at hl 2 rfl) ?_
  refine lv_aload_n hx hb d_td_addManMove_25 rfl (lv_at hl 3 rfl) ?_
  have hPc : va_P (kD K) vwCl [(Th, .inr (4, [.ref Ta0, .ref Ta1, .int T.2.2])), (Ta0, .inl ((kI K), 330, .inl T.1)), (Ta1, .inl ((kI K), 330, .inl T.2.1)), (Lh, .inr (1, [.ref La0, .int u_5.2])), (La0, .inl ((kC K), 100, .inl u_5.1)), (Ph, .inr (2, [.ref Pa0, .int P.2.1, .int P.2.2.1, .int P.2.2.2.1, .int P.2.2.2.2.1, .int P.2.2.2.2.2])), (Pa0, .inl ((kI K), 64, .inl P.1))] _ := hP.sub [0, 1, 2, 3, 4, 5, 6] rfl
  have hDc : va_D A [(Th, .inr (4, [.ref Ta0, .ref Ta1, .int T.2.2])), (Ta0, .inl ((kI K), 330, .inl T.1)), (Ta1, .inl ((kI K), 330, .inl T.2.1)), (Lh, .inr (1, [.ref La0, .int u_5.2])), (La0, .inl ((kC K), 100, .inl u_5.1)), (Ph, .inr (2, [.ref Pa0, .int P.2.1, .int P.2.2.1, .int P.2.2.2.1, .int P.2.2.2.2.1, .int P.2.2.2.2.2])), (Pa0, .inl ((kI K), 64, .inl P.1))] := hD.sub [0, 1, 2, 3, 4, 5, 6] (by decide) rfl
  have hFc := va_free (wc := [(Th, .inr (4, [.ref Ta0, .ref Ta1, .int T.2.2])), (Ta0, .inl ((kI K), 330, .inl T.1)), (Ta1, .inl ((kI K), 330, .inl T.2.1)), (Lh, .inr (1, [.ref La0, .int u_5.2])), (La0, .inl ((kC K), 100, .inl u_5.1)), (Ph, .inr (2, [.ref Pa0, .int P.2.1, .int P.2.2.1, .int P.2.2.2.1, .int P.2.2.2.2.1, .int P.2.2.2.2.2])), (Pa0, .inl ((kI K), 64, .inl P.1))]) hD hS hA [0, 1, 2, 3, 4, 5, 6] rfl
  refine va_callv (va_runV (As := [.ref Lh, .int mv, .ref Ph]) (rest := []) ⟨hx, hb, hml, hown, htg⟩ (c_td_addOrigin l K _ Th Ta0 Ta1 T Lh La0 u_5 mv Ph Pa0 P) (cwV 3 htg (g_V q_657 q_659 qs_30 q_4 (g_w q_660)) rfl rfl rfl ⟨rfl, k_td_addOrigin⟩ ⟨Nat.le_of_ble_eq_true rfl, Nat.le_of_ble_eq_true rfl⟩) ⟨mu_blind, va_recv hK hPc (ci := 4) (q0 := 0) rfl rfl, mu_use hPc hK hDc hG hS hFc ⟨(by assumption), (by assumption), trivial⟩⟩ rfl rfl hl.1 rfl (lv_room (Nat.le_of_ble_eq_true rfl)) d_td_addManMove_26 ⟨Nat.zero_le _, Nat.zero_le _⟩) hS (fun q _ h => hFc q h) hFc (fun u_6 t H1 locs ht hvm hw_6 hB hz1 hk1 hS => ?_)
  obtain ⟨hP1, hD1⟩ := hB
  rw [ht] at hP1
  obtain ⟨hP, hD⟩ := va_join (wr := []) (w1 := [(Th, .inr (4, [.ref Ta0, .ref Ta1, .int T.2.2])), (Ta0, .inl ((kI K), 330, .inl T.1)), (Ta1, .inl ((kI K), 330, .inl T.2.1)), (Lh, .inr (1, [.ref La0, .int u_6.2])), (La0, .inl ((kC K), 100, .inl u_6.1)), (Ph, .inr (2, [.ref Pa0, .int P.2.1, .int P.2.2.1, .int P.2.2.2.1, .int P.2.2.2.2.1, .int P.2.2.2.2.2])), (Pa0, .inl ((kI K), 64, .inl P.1))]) hP hD [0, 1, 2, 3, 4, 5, 6] [] rfl rfl (by decide) (by decide) hk1 hFc hP1 hD1
  have hP : va_P (kD K) vwCl [(Th, .inr (4, [.ref Ta0, .ref Ta1, .int T.2.2])), (Ta0, .inl ((kI K), 330, .inl T.1)), (Ta1, .inl ((kI K), 330, .inl T.2.1)), (Lh, .inr (1, [.ref La0, .int u_6.2])), (La0, .inl ((kC K), 100, .inl u_6.1)), (Ph, .inr (2, [.ref Pa0, .int P.2.1, .int P.2.2.1, .int P.2.2.2.1, .int P.2.2.2.2.1, .int P.2.2.2.2.2])), (Pa0, .inl ((kI K), 64, .inl P.1))] H1 := hP.sub [0, 1, 2, 3, 4, 5, 6] rfl
  have hD : va_D A [(Th, .inr (4, [.ref Ta0, .ref Ta1, .int T.2.2])), (Ta0, .inl ((kI K), 330, .inl T.1)), (Ta1, .inl ((kI K), 330, .inl T.2.1)), (Lh, .inr (1, [.ref La0, .int u_6.2])), (La0, .inl ((kC K), 100, .inl u_6.1)), (Ph, .inr (2, [.ref Pa0, .int P.2.1, .int P.2.2.1, .int P.2.2.2.1, .int P.2.2.2.2.1, .int P.2.2.2.2.2])), (Pa0, .inl ((kI K), 64, .inl P.1))] := hD.sub [0, 1, 2, 3, 4, 5, 6] (by decide) rfl
  generalize H1 = H at hP hS ⊢
  have hF := hF.trans (bnd_s hw_6.1)
  have ok_6_L : LnOk u_6 := hw_6.2.1
  refine lv_aload_n hx hb d_td_addManMove_29 rfl (lv_at hl 3 rfl) ?_
  refine lv_iload_n hx hb d_td_addManMove_30 rfl (lv_at hl 2 rfl) ?_
  have hPc : va_P (kD K) vwCl [] _ := hP.sub [] rfl
  refine vp_callSi (va_Run.run (va_runSN (As := [.int mv]) (rest := [.ref Ph]) ⟨hx, hb, hml, hown, htg⟩ (c_gn_toOf l K mv) (⟨va_cnB 1 htg (g_w q_529) rfl rfl rfl (hG.nw 41 rfl) (htg _ q_1) k_gn_toOf ⟨Nat.le_of_ble_eq_true rfl, Nat.le_of_ble_eq_true rfl⟩, htg _ q_528, trivial⟩) ⟨ro_blind, ro_use hPc hK hG hS trivial⟩ rfl rfl hl.1 rfl (lv_room (Nat.le_of_ble_eq_true rfl)) d_td_addManMove_31 ⟨Nat.zero_le _, Nat.zero_le _⟩)) (fun r_7 hw_7 => ?_)
  have hF := hF.trans (bnd_s hw_7.1)
  have hPc : va_P (kD K) vwCl [(Ph, .inr (2, [.ref Pa0, .int P.2.1, .int P.2.2.1, .int P.2.2.2.1, .int P.2.2.2.2.1, .int P.2.2.2.2.2])), (Pa0, .inl ((kI K), 64, .inl P.1))] _ := hP.sub [5, 6] rfl
  refine vp_callSi (va_Run.run (va_runV (As := [.int r_7]) (rest := []) ⟨hx, hb, hml, hown, htg⟩ (c_ps_manOn l K Ph Pa0 P r_7) (cwV 1 htg (g_V q_632 q_508 q_509 q_6 (g_w q_510)) rfl rfl rfl ⟨rfl, k_ps_manOn⟩ ⟨Nat.le_of_ble_eq_true rfl, Nat.le_of_ble_eq_true rfl⟩) ⟨ro_blind, va_recv hK hPc (ci := 2) (q0 := 0) rfl rfl, ro_use hPc hK hG hS trivial⟩ rfl rfl hl.1 rfl (lv_room (Nat.le_of_ble_eq_true rfl)) d_td_addManMove_34 ⟨Nat.zero_le _, Nat.zero_le _⟩)) (fun r_8 hw_8 => ?_)
  have hF := hF.trans (bnd_s hw_8.1)
  refine lv_if_eq (tgt := 46) hx hb d_td_addManMove_37 (by decide) (fun c_9 => ?_) (fun c_9 => ?_)
  · have hF := hF.trans (if_pos c_9)
    refine lv_aload_n hx hb d_td_addManMove_46 rfl (lv_at hl 1 rfl) ?_
    refine lv_iload_n hx hb d_td_addManMove_47 rfl (lv_at hl 2 rfl) ?_
    have hPc : va_P (kD K) vwCl [] _ := hP.sub [] rfl
    refine vp_callSi (va_Run.run (va_runSN (As := [.int mv]) (rest := [.ref Lh]) ⟨hx, hb, hml, hown, htg⟩ (c_gn_toOf l K mv) (⟨va_cnB 1 htg (g_w q_529) rfl rfl rfl (hG.nw 41 rfl) (htg _ q_1) k_gn_toOf ⟨Nat.le_of_ble_eq_true rfl, Nat.le_of_ble_eq_true rfl⟩, htg _ q_528, trivial⟩) ⟨ro_blind, ro_use hPc hK hG hS trivial⟩ rfl rfl hl.1 rfl (lv_room (Nat.le_of_ble_eq_true rfl)) d_td_addManMove_48 ⟨Nat.zero_le _, Nat.zero_le _⟩)) (fun r_10 hw_10 => ?_)
    have hF := hF.trans (bnd_s hw_10.1)
    have hPc : va_P (kD K) vwCl [(Lh, .inr (1, [.ref La0, .int u_6.2])), (La0, .inl ((kC K), 100, .inl u_6.1))] _ := hP.sub [3, 4] rfl
    have hDc : va_D A [(Lh, .inr (1, [.ref La0, .int u_6.2])), (La0, .inl ((kC K), 100, .inl u_6.1))] := hD.sub [3, 4] (by decide) rfl
    have hFc := va_free (wc := [(Lh, .inr (1, [.ref La0, .int u_6.2])), (La0, .inl ((kC K), 100, .inl u_6.1))]) hD hS hA [3, 4] rfl
    refine va_callv (va_runV (As := [.int r_10]) (rest := []) ⟨hx, hb, hml, hown, htg⟩ (c_ln_addSquare l K _ Lh La0 u_6 r_10) (cwV 1 htg (g_V q_642 q_643 q_644 q_2 (g_w q_645)) rfl rfl rfl ⟨rfl, k_ln_addSquare⟩ ⟨Nat.le_of_ble_eq_true rfl, Nat.le_of_ble_eq_true rfl⟩) ⟨mu_blind, va_recv hK hPc (ci := 1) (q0 := 0) rfl rfl, mu_use hPc hK hDc hG hS hFc ⟨(by assumption), trivial⟩⟩ rfl rfl hl.1 rfl (lv_room (Nat.le_of_ble_eq_true rfl)) d_td_addManMove_51 ⟨Nat.zero_le _, Nat.zero_le _⟩) hS (fun q _ h => hFc q h) hFc (fun u_11 t H1 locs ht hvm hw_11 hB hz1 hk1 hS => ?_)
    obtain ⟨hP1, hD1⟩ := hB
    rw [ht] at hP1
    obtain ⟨hP, hD⟩ := va_join (wr := [(Th, .inr (4, [.ref Ta0, .ref Ta1, .int T.2.2])), (Ta0, .inl ((kI K), 330, .inl T.1)), (Ta1, .inl ((kI K), 330, .inl T.2.1)), (Ph, .inr (2, [.ref Pa0, .int P.2.1, .int P.2.2.1, .int P.2.2.2.1, .int P.2.2.2.2.1, .int P.2.2.2.2.2])), (Pa0, .inl ((kI K), 64, .inl P.1))]) (w1 := [(Lh, .inr (1, [.ref La0, .int u_11.2])), (La0, .inl ((kC K), 100, .inl u_11.1))]) hP hD [3, 4] [0, 1, 2, 5, 6] rfl rfl (by decide) (by decide) hk1 hFc hP1 hD1
    have hP : va_P (kD K) vwCl [(Th, .inr (4, [.ref Ta0, .ref Ta1, .int T.2.2])), (Ta0, .inl ((kI K), 330, .inl T.1)), (Ta1, .inl ((kI K), 330, .inl T.2.1)), (Lh, .inr (1, [.ref La0, .int u_11.2])), (La0, .inl ((kC K), 100, .inl u_11.1)), (Ph, .inr (2, [.ref Pa0, .int P.2.1, .int P.2.2.1, .int P.2.2.2.1, .int P.2.2.2.2.1, .int P.2.2.2.2.2])), (Pa0, .inl ((kI K), 64, .inl P.1))] H1 := hP.sub [0, 1, 2, 5, 6, 3, 4] rfl
    have hD : va_D A [(Th, .inr (4, [.ref Ta0, .ref Ta1, .int T.2.2])), (Ta0, .inl ((kI K), 330, .inl T.1)), (Ta1, .inl ((kI K), 330, .inl T.2.1)), (Lh, .inr (1, [.ref La0, .int u_11.2])), (La0, .inl ((kC K), 100, .inl u_11.1)), (Ph, .inr (2, [.ref Pa0, .int P.2.1, .int P.2.2.1, .int P.2.2.2.1, .int P.2.2.2.2.1, .int P.2.2.2.2.2])), (Pa0, .inl ((kI K), 64, .inl P.1))] := hD.sub [0, 1, 2, 5, 6, 3, 4] (by decide) rfl
    generalize H1 = H at hP hS ⊢
    have hF := hF.trans (bnd_s hw_11.1)
    have ok_11_L : LnOk u_11 := hw_11.2.1
    exact W.vret hx hb hr (fun t ht hW => ⟨⟨u_11, rfl, ⟨hF, (by assumption), trivial⟩, ⟨by rw [ht]; exact hP, hD⟩⟩, hS.F ht⟩) hS.2.2 d_td_addManMove_54
  · have hF := hF.trans (if_neg c_9)
    refine lv_aload_n hx hb d_td_addManMove_40 rfl (lv_at hl 1 rfl) ?_
    refine lv_bipush (v := 120) hx hb d_td_addManMove_41 (by decide) ?_
    have hPc : va_P (kD K) vwCl [(Lh, .inr (1, [.ref La0, .int u_6.2])), (La0, .inl ((kC K), 100, .inl u_6.1))] _ := hP.sub [3, 4] rfl
    have hDc : va_D A [(Lh, .inr (1, [.ref La0, .int u_6.2])), (La0, .inl ((kC K), 100, .inl u_6.1))] := hD.sub [3, 4] (by decide) rfl
    have hFc := va_free (wc := [(Lh, .inr (1, [.ref La0, .int u_6.2])), (La0, .inl ((kC K), 100, .inl u_6.1))]) hD hS hA [3, 4] rfl
    refine va_callv (va_runV (As := [.int (120 : Int32)]) (rest := []) ⟨hx, hb, hml, hown, htg⟩ (c_ln_add l K _ Lh La0 u_6 (120 : Int32)) (cwV 1 htg (g_V q_641 q_162 q_163 q_2 (g_w q_164)) rfl rfl rfl ⟨rfl, k_ln_add⟩ ⟨Nat.le_of_ble_eq_true rfl, Nat.le_of_ble_eq_true rfl⟩) ⟨mu_blind, va_recv hK hPc (ci := 1) (q0 := 0) rfl rfl, mu_use hPc hK hDc hG hS hFc ⟨(by assumption), trivial⟩⟩ rfl rfl hl.1 rfl (lv_room (Nat.le_of_ble_eq_true rfl)) d_td_addManMove_43 ⟨Nat.zero_le _, Nat.zero_le _⟩) hS (fun q _ h => hFc q h) hFc (fun u_12 t H1 locs ht hvm hw_12 hB hz1 hk1 hS => ?_)
    obtain ⟨hP1, hD1⟩ := hB
    rw [ht] at hP1
    obtain ⟨hP, hD⟩ := va_join (wr := [(Th, .inr (4, [.ref Ta0, .ref Ta1, .int T.2.2])), (Ta0, .inl ((kI K), 330, .inl T.1)), (Ta1, .inl ((kI K), 330, .inl T.2.1)), (Ph, .inr (2, [.ref Pa0, .int P.2.1, .int P.2.2.1, .int P.2.2.2.1, .int P.2.2.2.2.1, .int P.2.2.2.2.2])), (Pa0, .inl ((kI K), 64, .inl P.1))]) (w1 := [(Lh, .inr (1, [.ref La0, .int u_12.2])), (La0, .inl ((kC K), 100, .inl u_12.1))]) hP hD [3, 4] [0, 1, 2, 5, 6] rfl rfl (by decide) (by decide) hk1 hFc hP1 hD1
    have hP : va_P (kD K) vwCl [(Th, .inr (4, [.ref Ta0, .ref Ta1, .int T.2.2])), (Ta0, .inl ((kI K), 330, .inl T.1)), (Ta1, .inl ((kI K), 330, .inl T.2.1)), (Lh, .inr (1, [.ref La0, .int u_12.2])), (La0, .inl ((kC K), 100, .inl u_12.1)), (Ph, .inr (2, [.ref Pa0, .int P.2.1, .int P.2.2.1, .int P.2.2.2.1, .int P.2.2.2.2.1, .int P.2.2.2.2.2])), (Pa0, .inl ((kI K), 64, .inl P.1))] H1 := hP.sub [0, 1, 2, 5, 6, 3, 4] rfl
    have hD : va_D A [(Th, .inr (4, [.ref Ta0, .ref Ta1, .int T.2.2])), (Ta0, .inl ((kI K), 330, .inl T.1)), (Ta1, .inl ((kI K), 330, .inl T.2.1)), (Lh, .inr (1, [.ref La0, .int u_12.2])), (La0, .inl ((kC K), 100, .inl u_12.1)), (Ph, .inr (2, [.ref Pa0, .int P.2.1, .int P.2.2.1, .int P.2.2.2.1, .int P.2.2.2.2.1, .int P.2.2.2.2.2])), (Pa0, .inl ((kI K), 64, .inl P.1))] := hD.sub [0, 1, 2, 5, 6, 3, 4] (by decide) rfl
    generalize H1 = H at hP hS ⊢
    have hF := hF.trans (bnd_s hw_12.1)
    have ok_12_L : LnOk u_12 := hw_12.2.1
    refine lv_aload_n hx hb d_td_addManMove_46 rfl (lv_at hl 1 rfl) ?_
    refine lv_iload_n hx hb d_td_addManMove_47 rfl (lv_at hl 2 rfl) ?_
    have hPc : va_P (kD K) vwCl [] _ := hP.sub [] rfl
    refine vp_callSi (va_Run.run (va_runSN (As := [.int mv]) (rest := [.ref Lh]) ⟨hx, hb, hml, hown, htg⟩ (c_gn_toOf l K mv) (⟨va_cnB 1 htg (g_w q_529) rfl rfl rfl (hG.nw 41 rfl) (htg _ q_1) k_gn_toOf ⟨Nat.le_of_ble_eq_true rfl, Nat.le_of_ble_eq_true rfl⟩, htg _ q_528, trivial⟩) ⟨ro_blind, ro_use hPc hK hG hS trivial⟩ rfl rfl hl.1 rfl (lv_room (Nat.le_of_ble_eq_true rfl)) d_td_addManMove_48 ⟨Nat.zero_le _, Nat.zero_le _⟩)) (fun r_13 hw_13 => ?_)
    have hF := hF.trans (bnd_s hw_13.1)
    have hPc : va_P (kD K) vwCl [(Lh, .inr (1, [.ref La0, .int u_12.2])), (La0, .inl ((kC K), 100, .inl u_12.1))] _ := hP.sub [3, 4] rfl
    have hDc : va_D A [(Lh, .inr (1, [.ref La0, .int u_12.2])), (La0, .inl ((kC K), 100, .inl u_12.1))] := hD.sub [3, 4] (by decide) rfl
    have hFc := va_free (wc := [(Lh, .inr (1, [.ref La0, .int u_12.2])), (La0, .inl ((kC K), 100, .inl u_12.1))]) hD hS hA [3, 4] rfl
    refine va_callv (va_runV (As := [.int r_13]) (rest := []) ⟨hx, hb, hml, hown, htg⟩ (c_ln_addSquare l K _ Lh La0 u_12 r_13) (cwV 1 htg (g_V q_642 q_643 q_644 q_2 (g_w q_645)) rfl rfl rfl ⟨rfl, k_ln_addSquare⟩ ⟨Nat.le_of_ble_eq_true rfl, Nat.le_of_ble_eq_true rfl⟩) ⟨mu_blind, va_recv hK hPc (ci := 1) (q0 := 0) rfl rfl, mu_use hPc hK hDc hG hS hFc ⟨(by assumption), trivial⟩⟩ rfl rfl hl.1 rfl (lv_room (Nat.le_of_ble_eq_true rfl)) d_td_addManMove_51 ⟨Nat.zero_le _, Nat.zero_le _⟩) hS (fun q _ h => hFc q h) hFc (fun u_14 t H1 locs ht hvm hw_14 hB hz1 hk1 hS => ?_)
    obtain ⟨hP1, hD1⟩ := hB
    rw [ht] at hP1
    obtain ⟨hP, hD⟩ := va_join (wr := [(Th, .inr (4, [.ref Ta0, .ref Ta1, .int T.2.2])), (Ta0, .inl ((kI K), 330, .inl T.1)), (Ta1, .inl ((kI K), 330, .inl T.2.1)), (Ph, .inr (2, [.ref Pa0, .int P.2.1, .int P.2.2.1, .int P.2.2.2.1, .int P.2.2.2.2.1, .int P.2.2.2.2.2])), (Pa0, .inl ((kI K), 64, .inl P.1))]) (w1 := [(Lh, .inr (1, [.ref La0, .int u_14.2])), (La0, .inl ((kC K), 100, .inl u_14.1))]) hP hD [3, 4] [0, 1, 2, 5, 6] rfl rfl (by decide) (by decide) hk1 hFc hP1 hD1
    have hP : va_P (kD K) vwCl [(Th, .inr (4, [.ref Ta0, .ref Ta1, .int T.2.2])), (Ta0, .inl ((kI K), 330, .inl T.1)), (Ta1, .inl ((kI K), 330, .inl T.2.1)), (Lh, .inr (1, [.ref La0, .int u_14.2])), (La0, .inl ((kC K), 100, .inl u_14.1)), (Ph, .inr (2, [.ref Pa0, .int P.2.1, .int P.2.2.1, .int P.2.2.2.1, .int P.2.2.2.2.1, .int P.2.2.2.2.2])), (Pa0, .inl ((kI K), 64, .inl P.1))] H1 := hP.sub [0, 1, 2, 5, 6, 3, 4] rfl
    have hD : va_D A [(Th, .inr (4, [.ref Ta0, .ref Ta1, .int T.2.2])), (Ta0, .inl ((kI K), 330, .inl T.1)), (Ta1, .inl ((kI K), 330, .inl T.2.1)), (Lh, .inr (1, [.ref La0, .int u_14.2])), (La0, .inl ((kC K), 100, .inl u_14.1)), (Ph, .inr (2, [.ref Pa0, .int P.2.1, .int P.2.2.1, .int P.2.2.2.1, .int P.2.2.2.2.1, .int P.2.2.2.2.2])), (Pa0, .inl ((kI K), 64, .inl P.1))] := hD.sub [0, 1, 2, 5, 6, 3, 4] (by decide) rfl
    generalize H1 = H at hP hS ⊢
    have hF := hF.trans (bnd_s hw_14.1)
    have ok_14_L : LnOk u_14 := hw_14.2.1
    exact W.vret hx hb hr (fun t ht hW => ⟨⟨u_14, rfl, ⟨hF, (by assumption), trivial⟩, ⟨by rw [ht]; exact hP, hD⟩⟩, hS.F ht⟩) hS.2.2 d_td_addManMove_54
def f_td_addUnsigned (T : TdT) (L : LnT) (ix : Int32) (P : PsT) : LnT := (bnd (f_td_move T ix) (fun r_1 => (bnd (f_gn_castlingOf r_1 P) (fun r_2 => (if r_2 = 0 then (bnd (f_gn_fromOf r_1) (fun r_4 => (bnd (f_ps_manOn P r_4) (fun r_5 => (bnd (f_gn_kindOf r_5) (fun r_6 => (if r_6 = (1 : Int32) then (bnd (f_td_addPawnMove L r_1) (fun u_9 => u_9)) else (bnd (f_td_addManMove T L r_1 P) (fun u_8 => u_8))))))))) else (if r_2 ≤ 0 then (bnd (f_ln_addAll L 7) (fun u_11 => u_11)) else (bnd (f_ln_addAll L 6) (fun u_12 => u_12))))))))
set_option maxHeartbeats 4000000 in
set_option maxRecDepth 100000 in
theorem c_td_addUnsigned (l : Launch) (K : KT) (sz : Nat) (Th Ta0 Ta1 : Nat) (T : TdT) (Lh La0 : Nat) (L : LnT) (ix : Int32) (Ph Pa0 : Nat) (P : PsT) : Met l y_td_addUnsigned w_td_addUnsigned ({ frames := 7, cells := 0, slots := 0, locals := 158 } : Room) (va_Pc [.ref Th, .ref Lh, .int ix, .ref Ph] (fun U => pMU K [(Th, .inr (4, [.ref Ta0, .ref Ta1, .int T.2.2])), (Ta0, .inl ((kI K), 330, .inl T.1)), (Ta1, .inl ((kI K), 330, .inl T.2.1)), (Lh, .inr (1, [.ref La0, .int L.2])), (La0, .inl ((kC K), 100, .inl L.1)), (Ph, .inr (2, [.ref Pa0, .int P.2.1, .int P.2.2.1, .int P.2.2.2.1, .int P.2.2.2.2.1, .int P.2.2.2.2.2])), (Pa0, .inl ((kI K), 64, .inl P.1))] sz U ∧ TdOk T ∧ LnOk L ∧ True)) (va_Qv (fun u : LnT => f_td_addUnsigned T L ix P = u ∧ LnOk u ∧ True) (fun (u : LnT) (t : State) => va_P (kD K) vwCl [(Th, .inr (4, [.ref Ta0, .ref Ta1, .int T.2.2])), (Ta0, .inl ((kI K), 330, .inl T.1)), (Ta1, .inl ((kI K), 330, .inl T.2.1)), (Lh, .inr (1, [.ref La0, .int u.2])), (La0, .inl ((kC K), 100, .inl u.1)), (Ph, .inr (2, [.ref Pa0, .int P.2.1, .int P.2.2.1, .int P.2.2.2.1, .int P.2.2.2.2.1, .int P.2.2.2.2.2])), (Pa0, .inl ((kI K), 64, .inl P.1))] t.heap ∧ va_D (va_A [(Th, .inr (4, [.ref Ta0, .ref Ta1, .int T.2.2])), (Ta0, .inl ((kI K), 330, .inl T.1)), (Ta1, .inl ((kI K), 330, .inl T.2.1)), (Lh, .inr (1, [.ref La0, .int L.2])), (La0, .inl ((kC K), 100, .inl L.1)), (Ph, .inr (2, [.ref Pa0, .int P.2.1, .int P.2.2.1, .int P.2.2.2.1, .int P.2.2.2.2.1, .int P.2.2.2.2.2])), (Pa0, .inl ((kI K), 64, .inl P.1))] sz) [(Th, .inr (4, [.ref Ta0, .ref Ta1, .int T.2.2])), (Ta0, .inl ((kI K), 330, .inl T.1)), (Ta1, .inl ((kI K), 330, .inl T.2.1)), (Lh, .inr (1, [.ref La0, .int u.2])), (La0, .inl ((kC K), 100, .inl u.1)), (Ph, .inr (2, [.ref Pa0, .int P.2.1, .int P.2.2.1, .int P.2.2.2.1, .int P.2.2.2.2.1, .int P.2.2.2.2.2])), (Pa0, .inl ((kI K), 64, .inl P.1))]) (va_A [(Th, .inr (4, [.ref Ta0, .ref Ta1, .int T.2.2])), (Ta0, .inl ((kI K), 330, .inl T.1)), (Ta1, .inl ((kI K), 330, .inl T.2.1)), (Lh, .inr (1, [.ref La0, .int L.2])), (La0, .inl ((kC K), 100, .inl L.1)), (Ph, .inr (2, [.ref Pa0, .int P.2.1, .int P.2.2.1, .int P.2.2.2.1, .int P.2.2.2.2.1, .int P.2.2.2.2.2])), (Pa0, .inl ((kI K), 64, .inl P.1))] sz)) 0 0 (va_A [(Th, .inr (4, [.ref Ta0, .ref Ta1, .int T.2.2])), (Ta0, .inl ((kI K), 330, .inl T.1)), (Ta1, .inl ((kI K), 330, .inl T.2.1)), (Lh, .inr (1, [.ref La0, .int L.2])), (La0, .inl ((kC K), 100, .inl L.1)), (Ph, .inr (2, [.ref Pa0, .int P.2.1, .int P.2.2.1, .int P.2.2.2.1, .int P.2.2.2.2.1, .int P.2.2.2.2.2])), (Pa0, .inl ((kI K), 64, .inl P.1))] sz) := by
  refine Met.ofW (cc := b_td_addUnsigned) (maxL := 6) (ret := none) (by decide) rfl ?_
  intro p e s m args below meth c s₁ B hml hv
  obtain ⟨rfl, ⟨hsz, hP, hK, hD0, hG⟩, ok_T, ok_L, -⟩ := hv
  have hx := B.exec
  have hb := B.bytes
  have hr := B.returns
  have hts := atoms_spec (ws := w_td_addUnsigned) B.pre
  have hown : s.vm.findClass R_td = some m.cls := findClass_of_methodNamed B.named
  have hlocks := B.notSynchronized
  have htg := fun w h => hts w (List.mem_cons_of_mem _ h)
  subst hsz
  have hD := hD0.self (sz := s.heap.size)
  generalize hAe : va_A [(Th, .inr (4, [.ref Ta0, .ref Ta1, .int T.2.2])), (Ta0, .inl ((kI K), 330, .inl T.1)), (Ta1, .inl ((kI K), 330, .inl T.2.1)), (Lh, .inr (1, [.ref La0, .int L.2])), (La0, .inl ((kC K), 100, .inl L.1)), (Ph, .inr (2, [.ref Pa0, .int P.2.1, .int P.2.2.1, .int P.2.2.2.1, .int P.2.2.2.2.1, .int P.2.2.2.2.2])), (Pa0, .inl ((kI K), 64, .inl P.1))] s.heap.size = A at hD hG ⊢
  have hA : ∀ q : Nat, s.heap.size ≤ q → A q := fun q h => by rw [← hAe]; exact Or.inr h
  have hS : va_S A s.heap s.heap [] := va_S.rf
  have hl := lv_entry ([.ref Th, .ref Lh, .int ix, .ref Ph]) (n := 6) (Nat.le_of_ble_eq_true rfl)
  rw [lg_entry_eq]
  generalize (lg_sl ([.ref Th, .ref Lh, .int ix, .ref Ph]) ++ List.replicate (6 - (lg_sl ([.ref Th, .ref Lh, .int ix, .ref Ph])).length) Slot.unset).toArray = ls at hl ⊢
  have hl : lv_has ls 6 [(0, .ref Th), (1, .ref Lh), (2, .int ix), (3, .ref Ph)] := hl
  have hF := f_td_addUnsigned.eq_1 T L ix P
  refine lv_aload_n hx hb d_td_addUnsigned_0 rfl (lv_at hl 0 rfl) ?_
  refine lv_iload_n hx hb d_td_addUnsigned_1 rfl (lv_at hl 2 rfl) ?_
  have hPc : va_P (kD K) vwCl [(Th, .inr (4, [.ref Ta0, .ref Ta1, .int T.2.2])), (Ta0, .inl ((kI K), 330, .inl T.1)), (Ta1, .inl ((kI K), 330, .inl T.2.1))] _ := hP.sub [0, 1, 2] rfl
  refine vp_callSi (va_Run.run (va_runV (As := [.int ix]) (rest := []) ⟨hx, hb, hml, hown, htg⟩ (c_td_move l K Th Ta0 Ta1 T ix) (cwV 1 htg (g_V q_623 q_599 q_600 q_4 (g_w q_601)) rfl rfl rfl ⟨rfl, k_td_move⟩ ⟨Nat.le_of_ble_eq_true rfl, Nat.le_of_ble_eq_true rfl⟩) ⟨ro_blind, va_recv hK hPc (ci := 4) (q0 := 0) rfl rfl, ro_use hPc hK hG hS ⟨(by assumption), trivial⟩⟩ rfl rfl hl.1 rfl (lv_room (Nat.le_of_ble_eq_true rfl)) d_td_addUnsigned_2 ⟨Nat.zero_le _, Nat.zero_le _⟩)) (fun r_1 hw_1 => ?_)
  have hF := hF.trans (bnd_s hw_1.1)
  refine lv_istore (lv' := [(4, .int r_1), (0, .ref Th), (1, .ref Lh), (2, .int ix), (3, .ref Ph)]) hx hb d_td_addUnsigned_5 hl (by decide) rfl (fun ls hl => ?_)
  refine lv_iload hx hb d_td_addUnsigned_7 (lv_at hl 0 rfl) ?_
  refine lv_aload_n hx hb d_td_addUnsigned_9 rfl (lv_at hl 4 rfl) ?_
  have hPc : va_P (kD K) vwCl [(Ph, .inr (2, [.ref Pa0, .int P.2.1, .int P.2.2.1, .int P.2.2.2.1, .int P.2.2.2.2.1, .int P.2.2.2.2.2])), (Pa0, .inl ((kI K), 64, .inl P.1))] _ := hP.sub [5, 6] rfl
  refine vp_callSi (va_Run.run (va_runSN (As := [.int r_1, .ref Ph]) (rest := []) ⟨hx, hb, hml, hown, htg⟩ (c_gn_castlingOf l K r_1 Ph Pa0 P) (⟨va_cnB 2 htg (g_w q_612) rfl rfl rfl (hG.nw 37 rfl) (htg _ q_1) k_gn_castlingOf ⟨Nat.le_of_ble_eq_true rfl, Nat.le_of_ble_eq_true rfl⟩, htg _ q_611, trivial⟩) ⟨ro_blind, ro_use hPc hK hG hS trivial⟩ rfl rfl hl.1 rfl (lv_room (Nat.le_of_ble_eq_true rfl)) d_td_addUnsigned_10 ⟨Nat.zero_le _, Nat.zero_le _⟩)) (fun r_2 hw_2 => ?_)
  have hF := hF.trans (bnd_s hw_2.1)
  refine lv_istore (lv' := [(5, .int r_2), (4, .int r_1), (0, .ref Th), (1, .ref Lh), (2, .int ix), (3, .ref Ph)]) hx hb d_td_addUnsigned_13 hl (by decide) rfl (fun ls hl => ?_)
  refine lv_iload hx hb d_td_addUnsigned_15 (lv_at hl 0 rfl) ?_
  refine lv_if_eq (tgt := 39) hx hb d_td_addUnsigned_17 (by decide) (fun c_3 => ?_) (fun c_3 => ?_)
  · have hF := hF.trans (if_pos c_3)
    refine lv_aload_n hx hb d_td_addUnsigned_39 rfl (lv_at hl 5 rfl) ?_
    refine lv_iload hx hb d_td_addUnsigned_40 (lv_at hl 1 rfl) ?_
    have hPc : va_P (kD K) vwCl [] _ := hP.sub [] rfl
    refine vp_callSi (va_Run.run (va_runSN (As := [.int r_1]) (rest := [.ref Ph]) ⟨hx, hb, hml, hown, htg⟩ (c_gn_fromOf l K r_1) (⟨va_cnB 1 htg (g_w q_526) rfl rfl rfl (hG.nw 38 rfl) (htg _ q_1) k_gn_fromOf ⟨Nat.le_of_ble_eq_true rfl, Nat.le_of_ble_eq_true rfl⟩, htg _ q_525, trivial⟩) ⟨ro_blind, ro_use hPc hK hG hS trivial⟩ rfl rfl hl.1 rfl (lv_room (Nat.le_of_ble_eq_true rfl)) d_td_addUnsigned_42 ⟨Nat.zero_le _, Nat.zero_le _⟩)) (fun r_4 hw_4 => ?_)
    have hF := hF.trans (bnd_s hw_4.1)
    have hPc : va_P (kD K) vwCl [(Ph, .inr (2, [.ref Pa0, .int P.2.1, .int P.2.2.1, .int P.2.2.2.1, .int P.2.2.2.2.1, .int P.2.2.2.2.2])), (Pa0, .inl ((kI K), 64, .inl P.1))] _ := hP.sub [5, 6] rfl
    refine vp_callSi (va_Run.run (va_runV (As := [.int r_4]) (rest := []) ⟨hx, hb, hml, hown, htg⟩ (c_ps_manOn l K Ph Pa0 P r_4) (cwV 1 htg (g_V q_632 q_508 q_509 q_6 (g_w q_510)) rfl rfl rfl ⟨rfl, k_ps_manOn⟩ ⟨Nat.le_of_ble_eq_true rfl, Nat.le_of_ble_eq_true rfl⟩) ⟨ro_blind, va_recv hK hPc (ci := 2) (q0 := 0) rfl rfl, ro_use hPc hK hG hS trivial⟩ rfl rfl hl.1 rfl (lv_room (Nat.le_of_ble_eq_true rfl)) d_td_addUnsigned_45 ⟨Nat.zero_le _, Nat.zero_le _⟩)) (fun r_5 hw_5 => ?_)
    have hF := hF.trans (bnd_s hw_5.1)
    have hPc : va_P (kD K) vwCl [] _ := hP.sub [] rfl
    refine vp_callSi (va_Run.run (va_runSN (As := [.int r_5]) (rest := []) ⟨hx, hb, hml, hown, htg⟩ (c_gn_kindOf l K r_5) (⟨va_cnB 1 htg (g_w q_375) rfl rfl rfl (hG.nw 39 rfl) (htg _ q_1) k_gn_kindOf ⟨Nat.le_of_ble_eq_true rfl, Nat.le_of_ble_eq_true rfl⟩, htg _ q_374, trivial⟩) ⟨ro_blind, ro_use hPc hK hG hS trivial⟩ rfl rfl hl.1 rfl (lv_room (Nat.le_of_ble_eq_true rfl)) d_td_addUnsigned_48 ⟨Nat.zero_le _, Nat.zero_le _⟩)) (fun r_6 hw_6 => ?_)
    have hF := hF.trans (bnd_s hw_6.1)
    refine lv_iconst (v := 1) hx hb d_td_addUnsigned_51 (by decide) ?_
    refine lv_icmp_ne (tgt := 64) hx hb d_td_addUnsigned_52 (by decide) (fun c_7 => ?_) (fun c_7 => ?_)
    · have hF := hF.trans (if_neg c_7)
      refine lv_aload_n hx hb d_td_addUnsigned_64 rfl (lv_at hl 2 rfl) ?_
      refine lv_aload_n hx hb d_td_addUnsigned_65 rfl (lv_at hl 3 rfl) ?_
      refine lv_iload hx hb d_td_addUnsigned_66 (lv_at hl 1 rfl) ?_
      refine lv_aload_n hx hb d_td_addUnsigned_68 rfl (lv_at hl 5 rfl) ?_
      have hPc : va_P (kD K) vwCl [(Th, .inr (4, [.ref Ta0, .ref Ta1, .int T.2.2])), (Ta0, .inl ((kI K), 330, .inl T.1)), (Ta1, .inl ((kI K), 330, .inl T.2.1)), (Lh, .inr (1, [.ref La0, .int L.2])), (La0, .inl ((kC K), 100, .inl L.1)), (Ph, .inr (2, [.ref Pa0, .int P.2.1, .int P.2.2.1, .int P.2.2.2.1, .int P.2.2.2.2.1, .int P.2.2.2.2.2])), (Pa0, .inl ((kI K), 64, .inl P.1))] _ := hP.sub [0, 1, 2, 3, 4, 5, 6] rfl
      have hDc : va_D A [(Th, .inr (4, [.ref Ta0, .ref Ta1, .int T.2.2])), (Ta0, .inl ((kI K), 330, .inl T.1)), (Ta1, .inl ((kI K), 330, .inl T.2.1)), (Lh, .inr (1, [.ref La0, .int L.2])), (La0, .inl ((kC K), 100, .inl L.1)), (Ph, .inr (2, [.ref Pa0, .int P.2.1, .int P.2.2.1, .int P.2.2.2.1, .int P.2.2.2.2.1, .int P.2.2.2.2.2])), (Pa0, .inl ((kI K), 64, .inl P.1))] := hD.sub [0, 1, 2, 3, 4, 5, 6] (by decide) rfl
      have hFc := va_free (wc := [(Th, .inr (4, [.ref Ta0, .ref Ta1, .int T.2.2])), (Ta0, .inl ((kI K), 330, .inl T.1)), (Ta1, .inl ((kI K), 330, .inl T.2.1)), (Lh, .inr (1, [.ref La0, .int L.2])), (La0, .inl ((kC K), 100, .inl L.1)), (Ph, .inr (2, [.ref Pa0, .int P.2.1, .int P.2.2.1, .int P.2.2.2.1, .int P.2.2.2.2.1, .int P.2.2.2.2.2])), (Pa0, .inl ((kI K), 64, .inl P.1))]) hD hS hA [0, 1, 2, 3, 4, 5, 6] rfl
      refine va_callv (va_runV (As := [.ref Lh, .int r_1, .ref Ph]) (rest := []) ⟨hx, hb, hml, hown, htg⟩ (c_td_addManMove l K _ Th Ta0 Ta1 T Lh La0 L r_1 Ph Pa0 P) (cwV 3 htg (g_V q_653 q_655 qs_29 q_4 (g_w q_656)) rfl rfl rfl ⟨rfl, k_td_addManMove⟩ ⟨Nat.le_of_ble_eq_true rfl, Nat.le_of_ble_eq_true rfl⟩) ⟨mu_blind, va_recv hK hPc (ci := 4) (q0 := 0) rfl rfl, mu_use hPc hK hDc hG hS hFc ⟨(by assumption), (by assumption), trivial⟩⟩ rfl rfl hl.1 rfl (lv_room (Nat.le_of_ble_eq_true rfl)) d_td_addUnsigned_69 ⟨Nat.zero_le _, Nat.zero_le _⟩) hS (fun q _ h => hFc q h) hFc (fun u_8 t H1 locs ht hvm hw_8 hB hz1 hk1 hS => ?_)
      obtain ⟨hP1, hD1⟩ := hB
      rw [ht] at hP1
      obtain ⟨hP, hD⟩ := va_join (wr := []) (w1 := [(Th, .inr (4, [.ref Ta0, .ref Ta1, .int T.2.2])), (Ta0, .inl ((kI K), 330, .inl T.1)), (Ta1, .inl ((kI K), 330, .inl T.2.1)), (Lh, .inr (1, [.ref La0, .int u_8.2])), (La0, .inl ((kC K), 100, .inl u_8.1)), (Ph, .inr (2, [.ref Pa0, .int P.2.1, .int P.2.2.1, .int P.2.2.2.1, .int P.2.2.2.2.1, .int P.2.2.2.2.2])), (Pa0, .inl ((kI K), 64, .inl P.1))]) hP hD [0, 1, 2, 3, 4, 5, 6] [] rfl rfl (by decide) (by decide) hk1 hFc hP1 hD1
      have hP : va_P (kD K) vwCl [(Th, .inr (4, [.ref Ta0, .ref Ta1, .int T.2.2])), (Ta0, .inl ((kI K), 330, .inl T.1)), (Ta1, .inl ((kI K), 330, .inl T.2.1)), (Lh, .inr (1, [.ref La0, .int u_8.2])), (La0, .inl ((kC K), 100, .inl u_8.1)), (Ph, .inr (2, [.ref Pa0, .int P.2.1, .int P.2.2.1, .int P.2.2.2.1, .int P.2.2.2.2.1, .int P.2.2.2.2.2])), (Pa0, .inl ((kI K), 64, .inl P.1))] H1 := hP.sub [0, 1, 2, 3, 4, 5, 6] rfl
      have hD : va_D A [(Th, .inr (4, [.ref Ta0, .ref Ta1, .int T.2.2])), (Ta0, .inl ((kI K), 330, .inl T.1)), (Ta1, .inl ((kI K), 330, .inl T.2.1)), (Lh, .inr (1, [.ref La0, .int u_8.2])), (La0, .inl ((kC K), 100, .inl u_8.1)), (Ph, .inr (2, [.ref Pa0, .int P.2.1, .int P.2.2.1, .int P.2.2.2.1, .int P.2.2.2.2.1, .int P.2.2.2.2.2])), (Pa0, .inl ((kI K), 64, .inl P.1))] := hD.sub [0, 1, 2, 3, 4, 5, 6] (by decide) rfl
      generalize H1 = H at hP hS ⊢
      have hF := hF.trans (bnd_s hw_8.1)
      have ok_8_L : LnOk u_8 := hw_8.2.1
      exact W.vret hx hb hr (fun t ht hW => ⟨⟨u_8, rfl, ⟨hF, (by assumption), trivial⟩, ⟨by rw [ht]; exact hP, hD⟩⟩, hS.F ht⟩) hS.2.2 d_td_addUnsigned_72
    · have hF := hF.trans (if_pos c_7)
      refine lv_aload_n hx hb d_td_addUnsigned_55 rfl (lv_at hl 3 rfl) ?_
      refine lv_iload hx hb d_td_addUnsigned_56 (lv_at hl 1 rfl) ?_
      have hPc : va_P (kD K) vwCl [(Lh, .inr (1, [.ref La0, .int L.2])), (La0, .inl ((kC K), 100, .inl L.1))] _ := hP.sub [3, 4] rfl
      have hDc : va_D A [(Lh, .inr (1, [.ref La0, .int L.2])), (La0, .inl ((kC K), 100, .inl L.1))] := hD.sub [3, 4] (by decide) rfl
      have hFc := va_free (wc := [(Lh, .inr (1, [.ref La0, .int L.2])), (La0, .inl ((kC K), 100, .inl L.1))]) hD hS hA [3, 4] rfl
      refine va_callv (va_runS (As := [.ref Lh, .int r_1]) (rest := []) ⟨hx, hb, hml, hown, htg⟩ (c_td_addPawnMove l K _ Lh La0 L r_1) (va_cwS 2 htg (g_S q_634 q_635 q_4 (g_w q_636)) rfl rfl rfl k_td_addPawnMove ⟨Nat.le_of_ble_eq_true rfl, Nat.le_of_ble_eq_true rfl⟩) ⟨mu_blind, mu_use hPc hK hDc hG hS hFc ⟨(by assumption), trivial⟩⟩ rfl rfl hl.1 rfl (lv_room (Nat.le_of_ble_eq_true rfl)) d_td_addUnsigned_58 ⟨Nat.zero_le _, Nat.zero_le _⟩) hS (fun q _ h => hFc q h) hFc (fun u_9 t H1 locs ht hvm hw_9 hB hz1 hk1 hS => ?_)
      obtain ⟨hP1, hD1⟩ := hB
      rw [ht] at hP1
      obtain ⟨hP, hD⟩ := va_join (wr := [(Th, .inr (4, [.ref Ta0, .ref Ta1, .int T.2.2])), (Ta0, .inl ((kI K), 330, .inl T.1)), (Ta1, .inl ((kI K), 330, .inl T.2.1)), (Ph, .inr (2, [.ref Pa0, .int P.2.1, .int P.2.2.1, .int P.2.2.2.1, .int P.2.2.2.2.1, .int P.2.2.2.2.2])), (Pa0, .inl ((kI K), 64, .inl P.1))]) (w1 := [(Lh, .inr (1, [.ref La0, .int u_9.2])), (La0, .inl ((kC K), 100, .inl u_9.1))]) hP hD [3, 4] [0, 1, 2, 5, 6] rfl rfl (by decide) (by decide) hk1 hFc hP1 hD1
      have hP : va_P (kD K) vwCl [(Th, .inr (4, [.ref Ta0, .ref Ta1, .int T.2.2])), (Ta0, .inl ((kI K), 330, .inl T.1)), (Ta1, .inl ((kI K), 330, .inl T.2.1)), (Lh, .inr (1, [.ref La0, .int u_9.2])), (La0, .inl ((kC K), 100, .inl u_9.1)), (Ph, .inr (2, [.ref Pa0, .int P.2.1, .int P.2.2.1, .int P.2.2.2.1, .int P.2.2.2.2.1, .int P.2.2.2.2.2])), (Pa0, .inl ((kI K), 64, .inl P.1))] H1 := hP.sub [0, 1, 2, 5, 6, 3, 4] rfl
      have hD : va_D A [(Th, .inr (4, [.ref Ta0, .ref Ta1, .int T.2.2])), (Ta0, .inl ((kI K), 330, .inl T.1)), (Ta1, .inl ((kI K), 330, .inl T.2.1)), (Lh, .inr (1, [.ref La0, .int u_9.2])), (La0, .inl ((kC K), 100, .inl u_9.1)), (Ph, .inr (2, [.ref Pa0, .int P.2.1, .int P.2.2.1, .int P.2.2.2.1, .int P.2.2.2.2.1, .int P.2.2.2.2.2])), (Pa0, .inl ((kI K), 64, .inl P.1))] := hD.sub [0, 1, 2, 5, 6, 3, 4] (by decide) rfl
      generalize H1 = H at hP hS ⊢
      have hF := hF.trans (bnd_s hw_9.1)
      have ok_9_L : LnOk u_9 := hw_9.2.1
      refine lv_goto (tgt := 72) hx hb d_td_addUnsigned_61 (by decide) ?_
      exact W.vret hx hb hr (fun t ht hW => ⟨⟨u_9, rfl, ⟨hF, (by assumption), trivial⟩, ⟨by rw [ht]; exact hP, hD⟩⟩, hS.F ht⟩) hS.2.2 d_td_addUnsigned_72
  · have hF := hF.trans (if_neg c_3)
    refine lv_aload_n hx hb d_td_addUnsigned_20 rfl (lv_at hl 3 rfl) ?_
    refine lv_iload hx hb d_td_addUnsigned_21 (lv_at hl 0 rfl) ?_
    refine lv_if_le (tgt := 31) hx hb d_td_addUnsigned_23 (by decide) (fun c_10 => ?_) (fun c_10 => ?_)
    · have hF := hF.trans (if_pos c_10)
      refine va_ldcS hx hb hown (show vk_R R_td 39 "0-0-0" (kK K 7) s from hG.sr 16 (q := ("GameNotation$Told", 39, "0-0-0", 7)) rfl) d_td_addUnsigned_31 ?_
      have hPc : va_P (kD K) vwCl [(Lh, .inr (1, [.ref La0, .int L.2])), (La0, .inl ((kC K), 100, .inl L.1))] _ := hP.sub [3, 4] rfl
      have hDc : va_D A [(Lh, .inr (1, [.ref La0, .int L.2])), (La0, .inl ((kC K), 100, .inl L.1))] := hD.sub [3, 4] (by decide) rfl
      have hFc := va_free (wc := [(Lh, .inr (1, [.ref La0, .int L.2])), (La0, .inl ((kC K), 100, .inl L.1))]) hD hS hA [3, 4] rfl
      refine va_callv (va_runV (As := [.ref (kK K 7)]) (rest := []) ⟨hx, hb, hml, hown, htg⟩ (c_ln_addAll l K _ Lh La0 L 7) (cwV 1 htg (g_V q_627 q_628 q_629 q_2 (g_w q_630)) rfl rfl rfl ⟨rfl, k_ln_addAll⟩ ⟨Nat.le_of_ble_eq_true rfl, Nat.le_of_ble_eq_true rfl⟩) ⟨mu_blind, va_recv hK hPc (ci := 1) (q0 := 0) rfl rfl, mu_use hPc hK hDc hG hS hFc ⟨(by decide), (by assumption), trivial⟩⟩ rfl rfl hl.1 rfl (lv_room (Nat.le_of_ble_eq_true rfl)) d_td_addUnsigned_33 ⟨Nat.zero_le _, Nat.zero_le _⟩) hS (fun q _ h => hFc q h) hFc (fun u_11 t H1 locs ht hvm hw_11 hB hz1 hk1 hS => ?_)
      obtain ⟨hP1, hD1⟩ := hB
      rw [ht] at hP1
      obtain ⟨hP, hD⟩ := va_join (wr := [(Th, .inr (4, [.ref Ta0, .ref Ta1, .int T.2.2])), (Ta0, .inl ((kI K), 330, .inl T.1)), (Ta1, .inl ((kI K), 330, .inl T.2.1)), (Ph, .inr (2, [.ref Pa0, .int P.2.1, .int P.2.2.1, .int P.2.2.2.1, .int P.2.2.2.2.1, .int P.2.2.2.2.2])), (Pa0, .inl ((kI K), 64, .inl P.1))]) (w1 := [(Lh, .inr (1, [.ref La0, .int u_11.2])), (La0, .inl ((kC K), 100, .inl u_11.1))]) hP hD [3, 4] [0, 1, 2, 5, 6] rfl rfl (by decide) (by decide) hk1 hFc hP1 hD1
      have hP : va_P (kD K) vwCl [(Th, .inr (4, [.ref Ta0, .ref Ta1, .int T.2.2])), (Ta0, .inl ((kI K), 330, .inl T.1)), (Ta1, .inl ((kI K), 330, .inl T.2.1)), (Lh, .inr (1, [.ref La0, .int u_11.2])), (La0, .inl ((kC K), 100, .inl u_11.1)), (Ph, .inr (2, [.ref Pa0, .int P.2.1, .int P.2.2.1, .int P.2.2.2.1, .int P.2.2.2.2.1, .int P.2.2.2.2.2])), (Pa0, .inl ((kI K), 64, .inl P.1))] H1 := hP.sub [0, 1, 2, 5, 6, 3, 4] rfl
      have hD : va_D A [(Th, .inr (4, [.ref Ta0, .ref Ta1, .int T.2.2])), (Ta0, .inl ((kI K), 330, .inl T.1)), (Ta1, .inl ((kI K), 330, .inl T.2.1)), (Lh, .inr (1, [.ref La0, .int u_11.2])), (La0, .inl ((kC K), 100, .inl u_11.1)), (Ph, .inr (2, [.ref Pa0, .int P.2.1, .int P.2.2.1, .int P.2.2.2.1, .int P.2.2.2.2.1, .int P.2.2.2.2.2])), (Pa0, .inl ((kI K), 64, .inl P.1))] := hD.sub [0, 1, 2, 5, 6, 3, 4] (by decide) rfl
      generalize H1 = H at hP hS ⊢
      have hF := hF.trans (bnd_s hw_11.1)
      have ok_11_L : LnOk u_11 := hw_11.2.1
      refine lv_goto (tgt := 72) hx hb d_td_addUnsigned_36 (by decide) ?_
      exact W.vret hx hb hr (fun t ht hW => ⟨⟨u_11, rfl, ⟨hF, (by assumption), trivial⟩, ⟨by rw [ht]; exact hP, hD⟩⟩, hS.F ht⟩) hS.2.2 d_td_addUnsigned_72
    · have hF := hF.trans (if_neg c_10)
      refine va_ldcS hx hb hown (show vk_R R_td 37 "0-0" (kK K 6) s from hG.sr 15 (q := ("GameNotation$Told", 37, "0-0", 6)) rfl) d_td_addUnsigned_26 ?_
      refine lv_goto (tgt := 33) hx hb d_td_addUnsigned_28 (by decide) ?_
      have hPc : va_P (kD K) vwCl [(Lh, .inr (1, [.ref La0, .int L.2])), (La0, .inl ((kC K), 100, .inl L.1))] _ := hP.sub [3, 4] rfl
      have hDc : va_D A [(Lh, .inr (1, [.ref La0, .int L.2])), (La0, .inl ((kC K), 100, .inl L.1))] := hD.sub [3, 4] (by decide) rfl
      have hFc := va_free (wc := [(Lh, .inr (1, [.ref La0, .int L.2])), (La0, .inl ((kC K), 100, .inl L.1))]) hD hS hA [3, 4] rfl
      refine va_callv (va_runV (As := [.ref (kK K 6)]) (rest := []) ⟨hx, hb, hml, hown, htg⟩ (c_ln_addAll l K _ Lh La0 L 6) (cwV 1 htg (g_V q_627 q_628 q_629 q_2 (g_w q_630)) rfl rfl rfl ⟨rfl, k_ln_addAll⟩ ⟨Nat.le_of_ble_eq_true rfl, Nat.le_of_ble_eq_true rfl⟩) ⟨mu_blind, va_recv hK hPc (ci := 1) (q0 := 0) rfl rfl, mu_use hPc hK hDc hG hS hFc ⟨(by decide), (by assumption), trivial⟩⟩ rfl rfl hl.1 rfl (lv_room (Nat.le_of_ble_eq_true rfl)) d_td_addUnsigned_33 ⟨Nat.zero_le _, Nat.zero_le _⟩) hS (fun q _ h => hFc q h) hFc (fun u_12 t H1 locs ht hvm hw_12 hB hz1 hk1 hS => ?_)
      obtain ⟨hP1, hD1⟩ := hB
      rw [ht] at hP1
      obtain ⟨hP, hD⟩ := va_join (wr := [(Th, .inr (4, [.ref Ta0, .ref Ta1, .int T.2.2])), (Ta0, .inl ((kI K), 330, .inl T.1)), (Ta1, .inl ((kI K), 330, .inl T.2.1)), (Ph, .inr (2, [.ref Pa0, .int P.2.1, .int P.2.2.1, .int P.2.2.2.1, .int P.2.2.2.2.1, .int P.2.2.2.2.2])), (Pa0, .inl ((kI K), 64, .inl P.1))]) (w1 := [(Lh, .inr (1, [.ref La0, .int u_12.2])), (La0, .inl ((kC K), 100, .inl u_12.1))]) hP hD [3, 4] [0, 1, 2, 5, 6] rfl rfl (by decide) (by decide) hk1 hFc hP1 hD1
      have hP : va_P (kD K) vwCl [(Th, .inr (4, [.ref Ta0, .ref Ta1, .int T.2.2])), (Ta0, .inl ((kI K), 330, .inl T.1)), (Ta1, .inl ((kI K), 330, .inl T.2.1)), (Lh, .inr (1, [.ref La0, .int u_12.2])), (La0, .inl ((kC K), 100, .inl u_12.1)), (Ph, .inr (2, [.ref Pa0, .int P.2.1, .int P.2.2.1, .int P.2.2.2.1, .int P.2.2.2.2.1, .int P.2.2.2.2.2])), (Pa0, .inl ((kI K), 64, .inl P.1))] H1 := hP.sub [0, 1, 2, 5, 6, 3, 4] rfl
      have hD : va_D A [(Th, .inr (4, [.ref Ta0, .ref Ta1, .int T.2.2])), (Ta0, .inl ((kI K), 330, .inl T.1)), (Ta1, .inl ((kI K), 330, .inl T.2.1)), (Lh, .inr (1, [.ref La0, .int u_12.2])), (La0, .inl ((kC K), 100, .inl u_12.1)), (Ph, .inr (2, [.ref Pa0, .int P.2.1, .int P.2.2.1, .int P.2.2.2.1, .int P.2.2.2.2.1, .int P.2.2.2.2.2])), (Pa0, .inl ((kI K), 64, .inl P.1))] := hD.sub [0, 1, 2, 5, 6, 3, 4] (by decide) rfl
      generalize H1 = H at hP hS ⊢
      have hF := hF.trans (bnd_s hw_12.1)
      have ok_12_L : LnOk u_12 := hw_12.2.1
      refine lv_goto (tgt := 72) hx hb d_td_addUnsigned_36 (by decide) ?_
      exact W.vret hx hb hr (fun t ht hW => ⟨⟨u_12, rfl, ⟨hF, (by assumption), trivial⟩, ⟨by rw [ht]; exact hP, hD⟩⟩, hS.F ht⟩) hS.2.2 d_td_addUnsigned_72
