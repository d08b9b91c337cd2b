def f_ln_size (L : LnT) : Int32 := L.2
set_option maxHeartbeats 4000000 in
set_option maxRecDepth 100000 in
theorem c_ln_size (l : Launch) (K : KT) (Lh La0 : Nat) (L : LnT) : Met l y_ln_size w_ln_size ({ frames := 0, cells := 0, slots := 0, locals := 0 } : Room) (va_Pc [.ref Lh] (fun U => pRO K [(Lh, .inr (1, [.ref La0, .int L.2])), (La0, .inl ((kC K), 100, .inl L.1))] U ∧ LnOk L ∧ True)) (vp_Si (fun r => f_ln_size L = r ∧ True)) 0 0 (fun _ => False) := by
  refine Met.ofW (cc := b_ln_size) (maxL := 1) (ret := (some .int)) (by decide) rfl ?_
  intro p e s m args below meth c s₁ B hml hv
  obtain ⟨rfl, ⟨hP, hK, hG⟩, ok_L, -⟩ := hv
  have hx := B.exec
  have hb := B.bytes
  have hr := B.returns
  have hts := atoms_spec (ws := w_ln_size) B.pre
  have hown : s.vm.findClass R_ln = some m.cls := findClass_of_methodNamed B.named
  have hlocks := B.notSynchronized
  have htg := fun w h => hts w (List.mem_cons_of_mem _ h)
  have hS : va_S (fun _ => False) s.heap s.heap [] := va_S.rf
  have hl := lv_entry ([.ref Lh]) (n := 1) (Nat.le_of_ble_eq_true rfl)
  rw [lg_entry_eq]
  generalize (lg_sl ([.ref Lh]) ++ List.replicate (1 - (lg_sl ([.ref Lh])).length) Slot.unset).toArray = ls at hl ⊢
  have hl : lv_has ls 1 [(0, .ref Lh)] := hl
  have hF := f_ln_size.eq_1 L
  refine lv_aload_n hx hb d_ln_size_0 rfl (lv_at hl 0 rfl) ?_
  refine va_get (D := kD K) (ci := 1) (v := .int L.2) (C := R_ln) (T := T_ln) (N := 2) hx hb htg in_ln hown hK hP 0 rfl rfl 1 (by decide) (htg (.fieldLink R_ln 15 "GameNotation$Line" "size" "I") q_34) (fun _ h9 => h9) rfl d_ln_size_1 ?_
  exact W.iret (v := L.2) hx hb hr (fun t ht hW => ⟨_, rfl, ⟨hF, trivial⟩, ht⟩) hS.2.2 d_ln_size_4
def f_ln_clear (L : LnT) : LnT := (L.1, (0 : Int32))
set_option maxHeartbeats 4000000 in
set_option maxRecDepth 100000 in
theorem c_ln_clear (l : Launch) (K : KT) (sz : Nat) (Lh La0 : Nat) (L : LnT) : Met l y_ln_clear w_ln_clear ({ frames := 0, cells := 0, slots := 0, locals := 0 } : Room) (va_Pc [.ref Lh] (fun U => pMU K [(Lh, .inr (1, [.ref La0, .int L.2])), (La0, .inl ((kC K), 100, .inl L.1))] sz U ∧ LnOk L ∧ True)) (va_Qv (fun u : LnT => f_ln_clear L = u ∧ LnOk u ∧ True) (fun (u : LnT) (t : State) => va_P (kD K) vwCl [(Lh, .inr (1, [.ref La0, .int u.2])), (La0, .inl ((kC K), 100, .inl u.1))] t.heap ∧ va_D (va_A [(Lh, .inr (1, [.ref La0, .int L.2])), (La0, .inl ((kC K), 100, .inl L.1))] sz) [(Lh, .inr (1, [.ref La0, .int u.2])), (La0, .inl ((kC K), 100, .inl u.1))]) (va_A [(Lh, .inr (1, [.ref La0, .int L.2])), (La0, .inl ((kC K), 100, .inl L.1))] sz)) 0 0 (va_A [(Lh, .inr (1, [.ref La0, .int L.2])), (La0, .inl ((kC K), 100, .inl L.1))] sz) := by
  refine Met.ofW (cc := b_ln_clear) (maxL := 1) (ret := none) (by decide) rfl ?_
  intro p e s m args below meth c s₁ B hml hv
  obtain ⟨rfl, ⟨hsz, hP, hK, hD0, hG⟩, ok_L, -⟩ := hv
  have hx := B.exec
  have hb := B.bytes
  have hr := B.returns
  have hts := atoms_spec (ws := w_ln_clear) B.pre
  have hown : s.vm.findClass R_ln = some m.cls := findClass_of_methodNamed B.named
  have hlocks := B.notSynchronized
  have htg := fun w h => hts w (List.mem_cons_of_mem _ h)
  subst hsz
  have hD := hD0.self (sz := s.heap.size)
  generalize hAe : va_A [(Lh, .inr (1, [.ref La0, .int L.2])), (La0, .inl ((kC K), 100, .inl L.1))] s.heap.size = A at hD hG ⊢
  have hA : ∀ q : Nat, s.heap.size ≤ q → A q := fun q h => by rw [← hAe]; exact Or.inr h
  have hS : va_S A s.heap s.heap [] := va_S.rf
  have hl := lv_entry ([.ref Lh]) (n := 1) (Nat.le_of_ble_eq_true rfl)
  rw [lg_entry_eq]
  generalize (lg_sl ([.ref Lh]) ++ List.replicate (1 - (lg_sl ([.ref Lh])).length) Slot.unset).toArray = ls at hl ⊢
  have hl : lv_has ls 1 [(0, .ref Lh)] := hl
  have hF := f_ln_clear.eq_1 L
  refine lv_aload_n hx hb d_ln_clear_0 rfl (lv_at hl 0 rfl) ?_
  refine lv_iconst (v := 0) hx hb d_ln_clear_1 (by decide) ?_
  refine va_put (D := kD K) (ci := 1) (v := .int (0 : Int32)) (ty := .int) (C := R_ln) (T := T_ln) (N := 2) hx hb htg in_ln ty_ln ty_ln_ok nm_ln hown hK hP hD hS 0 rfl rfl 1 (by decide) (htg (.fieldLink R_ln 15 "GameNotation$Line" "size" "I") q_34) (fun _ h9 => h9) rfl (by decide +kernel) rfl rfl (Nat.le_of_ble_eq_true rfl) d_ln_clear_2 (fun H locs hP hD hS => ?_)
  have hP : va_P (kD K) vwCl [(Lh, .inr (1, [.ref La0, .int (0 : Int32)])), (La0, .inl ((kC K), 100, .inl L.1))] _ := hP
  have hD : va_D A [(Lh, .inr (1, [.ref La0, .int (0 : Int32)])), (La0, .inl ((kC K), 100, .inl L.1))] := hD
  exact W.vret hx hb hr (fun t ht hW => ⟨⟨(L.1, (0 : Int32)), rfl, ⟨hF, (lnok_clear ok_L), trivial⟩, ⟨by rw [ht]; exact hP, hD⟩⟩, hS.F ht⟩) hS.2.2 d_ln_clear_5
def f_ln_letter (L : LnT) (ix : Int32) : Int32 := (if ix < 0 then (0 : Int32) else (if L.2 ≤ ix then (0 : Int32) else (L.1 ix.toNatClampNeg)))
set_option maxHeartbeats 4000000 in
set_option maxRecDepth 100000 in
theorem c_ln_letter (l : Launch) (K : KT) (Lh La0 : Nat) (L : LnT) (ix : Int32) : Met l y_ln_letter w_ln_letter ({ frames := 0, cells := 0, slots := 0, locals := 0 } : Room) (va_Pc [.ref Lh, .int ix] (fun U => pRO K [(Lh, .inr (1, [.ref La0, .int L.2])), (La0, .inl ((kC K), 100, .inl L.1))] U ∧ LnOk L ∧ True)) (vp_Si (fun r => f_ln_letter L ix = r ∧ narrow .char (.int r) = .int r)) 0 0 (fun _ => False) := by
  refine Met.ofW (cc := b_ln_letter) (maxL := 2) (ret := (some .char)) (by decide) rfl ?_
  intro p e s m args below meth c s₁ B hml hv
  obtain ⟨rfl, ⟨hP, hK, hG⟩, ok_L, -⟩ := hv
  have hx := B.exec
  have hb := B.bytes
  have hr := B.returns
  have hts := atoms_spec (ws := w_ln_letter) B.pre
  have hown : s.vm.findClass R_ln = some m.cls := findClass_of_methodNamed B.named
  have hlocks := B.notSynchronized
  have htg := fun w h => hts w (List.mem_cons_of_mem _ h)
  have hS : va_S (fun _ => False) s.heap s.heap [] := va_S.rf
  have hl := lv_entry ([.ref Lh, .int ix]) (n := 2) (Nat.le_of_ble_eq_true rfl)
  rw [lg_entry_eq]
  generalize (lg_sl ([.ref Lh, .int ix]) ++ List.replicate (2 - (lg_sl ([.ref Lh, .int ix])).length) Slot.unset).toArray = ls at hl ⊢
  have hl : lv_has ls 2 [(0, .ref Lh), (1, .int ix)] := hl
  have hF := f_ln_letter.eq_1 L ix
  refine lv_iload_n hx hb d_ln_letter_0 rfl (lv_at hl 1 rfl) ?_
  refine lv_if_lt (tgt := 21) hx hb d_ln_letter_1 (by decide) (fun c_1 => ?_) (fun c_1 => ?_)
  · have hF := hF.trans (if_pos c_1)
    refine lv_iconst (v := 0) hx hb d_ln_letter_21 (by decide) ?_
    exact W.zret (v := (0 : Int32)) hx hb hr (rfl) (fun t ht hW => ⟨_, rfl, ⟨hF, rfl⟩, ht⟩) hS.2.2 d_ln_letter_22
  · have hF := hF.trans (if_neg c_1)
    refine lv_iload_n hx hb d_ln_letter_4 rfl (lv_at hl 1 rfl) ?_
    refine lv_aload_n hx hb d_ln_letter_5 rfl (lv_at hl 0 rfl) ?_
    refine va_get (D := kD K) (ci := 1) (v := .int L.2) (C := R_ln) (T := T_ln) (N := 2) hx hb htg in_ln hown hK hP 0 rfl rfl 1 (by decide) (htg (.fieldLink R_ln 15 "GameNotation$Line" "size" "I") q_34) (fun _ h9 => h9) rfl d_ln_letter_6 ?_
    refine lv_icmp_ge (tgt := 21) hx hb d_ln_letter_9 (by decide) (fun c_2 => ?_) (fun c_2 => ?_)
    · have hF := hF.trans (if_pos c_2)
      refine lv_iconst (v := 0) hx hb d_ln_letter_21 (by decide) ?_
      exact W.zret (v := (0 : Int32)) hx hb hr (rfl) (fun t ht hW => ⟨_, rfl, ⟨hF, rfl⟩, ht⟩) hS.2.2 d_ln_letter_22
    · have hF := hF.trans (if_neg c_2)
      refine lv_aload_n hx hb d_ln_letter_12 rfl (lv_at hl 0 rfl) ?_
      refine va_get (D := kD K) (ci := 1) (v := .ref La0) (C := R_ln) (T := T_ln) (N := 2) hx hb htg in_ln hown hK hP 0 rfl rfl 0 (by decide) (htg (.fieldLink R_ln 9 "GameNotation$Line" "letters" "[C") q_33) (fun _ h9 => h9) rfl d_ln_letter_13 ?_
      refine lv_iload_n hx hb d_ln_letter_16 rfl (lv_at hl 1 rfl) ?_
      have h_3 : vp_in ix 100 := lnok_in ok_L c_1 c_2
      refine va_cald hx hb hK hP 1 1 rfl rfl h_3 d_ln_letter_17 ?_
      refine lv_goto (tgt := 22) hx hb d_ln_letter_18 (by decide) ?_
      exact W.zret (v := L.1 ix.toNatClampNeg) hx hb hr (lnok_nar ok_L _) (fun t ht hW => ⟨_, rfl, ⟨hF, lnok_nar ok_L _⟩, ht⟩) hS.2.2 d_ln_letter_22
def f_ln_add (L : LnT) (ch : Int32) : LnT := (if (100 : Int32) ≤ L.2 then L else (upd L.1 L.2.toNatClampNeg (vp_nar .char ch), L.2 + (1 : Int32)))
set_option maxHeartbeats 4000000 in
set_option maxRecDepth 100000 in
theorem c_ln_add (l : Launch) (K : KT) (sz : Nat) (Lh La0 : Nat) (L : LnT) (ch : Int32) : Met l y_ln_add w_ln_add ({ frames := 0, cells := 0, slots := 0, locals := 0 } : Room) (va_Pc [.ref Lh, .int ch] (fun U => pMU K [(Lh, .inr (1, [.ref La0, .int L.2])), (La0, .inl ((kC K), 100, .inl L.1))] sz U ∧ LnOk L ∧ True)) (va_Qv (fun u : LnT => f_ln_add L ch = u ∧ LnOk u ∧ True) (fun (u : LnT) (t : State) => va_P (kD K) vwCl [(Lh, .inr (1, [.ref La0, .int u.2])), (La0, .inl ((kC K), 100, .inl u.1))] t.heap ∧ va_D (va_A [(Lh, .inr (1, [.ref La0, .int L.2])), (La0, .inl ((kC K), 100, .inl L.1))] sz) [(Lh, .inr (1, [.ref La0, .int u.2])), (La0, .inl ((kC K), 100, .inl u.1))]) (va_A [(Lh, .inr (1, [.ref La0, .int L.2])), (La0, .inl ((kC K), 100, .inl L.1))] sz)) 0 0 (va_A [(Lh, .inr (1, [.ref La0, .int L.2])), (La0, .inl ((kC K), 100, .inl L.1))] sz) := by
  refine Met.ofW (cc := b_ln_add) (maxL := 2) (ret := none) (by decide) rfl ?_
  intro p e s m args below meth c s₁ B hml hv
  obtain ⟨rfl, ⟨hsz, hP, hK, hD0, hG⟩, ok_L, -⟩ := hv
  have hx := B.exec
  have hb := B.bytes
  have hr := B.returns
  have hts := atoms_spec (ws := w_ln_add) B.pre
  have hown : s.vm.findClass R_ln = some m.cls := findClass_of_methodNamed B.named
  have hlocks := B.notSynchronized
  have htg := fun w h => hts w (List.mem_cons_of_mem _ h)
  subst hsz
  have hD := hD0.self (sz := s.heap.size)
  generalize hAe : va_A [(Lh, .inr (1, [.ref La0, .int L.2])), (La0, .inl ((kC K), 100, .inl L.1))] s.heap.size = A at hD hG ⊢
  have hA : ∀ q : Nat, s.heap.size ≤ q → A q := fun q h => by rw [← hAe]; exact Or.inr h
  have hS : va_S A s.heap s.heap [] := va_S.rf
  have hl := lv_entry ([.ref Lh, .int ch]) (n := 2) (Nat.le_of_ble_eq_true rfl)
  rw [lg_entry_eq]
  generalize (lg_sl ([.ref Lh, .int ch]) ++ List.replicate (2 - (lg_sl ([.ref Lh, .int ch])).length) Slot.unset).toArray = ls at hl ⊢
  have hl : lv_has ls 2 [(0, .ref Lh), (1, .int ch)] := hl
  have hF := f_ln_add.eq_1 L ch
  refine lv_aload_n hx hb d_ln_add_0 rfl (lv_at hl 0 rfl) ?_
  refine va_get (D := kD K) (ci := 1) (v := .int L.2) (C := R_ln) (T := T_ln) (N := 2) hx hb htg in_ln hown hK hP 0 rfl rfl 1 (by decide) (htg (.fieldLink R_ln 15 "GameNotation$Line" "size" "I") q_34) (fun _ h9 => h9) rfl d_ln_add_1 ?_
  refine lv_bipush (v := 100) hx hb d_ln_add_4 (by decide) ?_
  refine lv_icmp_ge (tgt := 29) hx hb d_ln_add_6 (by decide) (fun c_1 => ?_) (fun c_1 => ?_)
  · have hF := hF.trans (if_pos c_1)
    exact W.vret hx hb hr (fun t ht hW => ⟨⟨L, rfl, ⟨hF, (by first | assumption | exact lnok_add ok_L c_1), trivial⟩, ⟨by rw [ht]; exact hP, hD⟩⟩, hS.F ht⟩) hS.2.2 d_ln_add_29
  · have hF := hF.trans (if_neg c_1)
    refine lv_aload_n hx hb d_ln_add_9 rfl (lv_at hl 0 rfl) ?_
    refine va_get (D := kD K) (ci := 1) (v := .ref La0) (C := R_ln) (T := T_ln) (N := 2) hx hb htg in_ln hown hK hP 0 rfl rfl 0 (by decide) (htg (.fieldLink R_ln 9 "GameNotation$Line" "letters" "[C") q_33) (fun _ h9 => h9) rfl d_ln_add_10 ?_
    refine lv_aload_n hx hb d_ln_add_13 rfl (lv_at hl 0 rfl) ?_
    refine va_get (D := kD K) (ci := 1) (v := .int L.2) (C := R_ln) (T := T_ln) (N := 2) hx hb htg in_ln hown hK hP 0 rfl rfl 1 (by decide) (htg (.fieldLink R_ln 15 "GameNotation$Line" "size" "I") q_34) (fun _ h9 => h9) rfl d_ln_add_14 ?_
    refine lv_iload_n hx hb d_ln_add_17 rfl (lv_at hl 1 rfl) ?_
    have h_2 : vp_in L.2 100 := lnok_at ok_L c_1
    refine va_cast hx hb hK hP hD hS 1 1 rfl rfl h_2 d_ln_add_18 (fun H locs hP hD hS => ?_)
    have hP : va_P (kD K) vwCl [(Lh, .inr (1, [.ref La0, .int L.2])), (La0, .inl ((kC K), 100, .inl (upd L.1 L.2.toNatClampNeg (vp_nar .char ch))))] _ := hP
    have hD : va_D A [(Lh, .inr (1, [.ref La0, .int L.2])), (La0, .inl ((kC K), 100, .inl (upd L.1 L.2.toNatClampNeg (vp_nar .char ch))))] := hD
    refine lv_aload_n hx hb d_ln_add_19 rfl (lv_at hl 0 rfl) ?_
    refine lv_dup hx hb d_ln_add_20 rfl ?_
    refine va_get (D := kD K) (ci := 1) (v := .int L.2) (C := R_ln) (T := T_ln) (N := 2) hx hb htg in_ln hown hK hP 0 rfl rfl 1 (by decide) (htg (.fieldLink R_ln 15 "GameNotation$Line" "size" "I") q_34) (fun _ h9 => h9) rfl d_ln_add_21 ?_
    refine lv_iconst (v := 1) hx hb d_ln_add_24 (by decide) ?_
    refine lv_iadd hx hb d_ln_add_25 ?_
    refine va_put (D := kD K) (ci := 1) (v := .int (L.2 + (1 : Int32))) (ty := .int) (C := R_ln) (T := T_ln) (N := 2) hx hb htg in_ln ty_ln ty_ln_ok nm_ln hown hK hP hD hS 0 rfl rfl 1 (by decide) (htg (.fieldLink R_ln 15 "GameNotation$Line" "size" "I") q_34) (fun _ h9 => h9) rfl (by decide +kernel) rfl rfl (Nat.le_of_ble_eq_true rfl) d_ln_add_26 (fun H locs hP hD hS => ?_)
    have hP : va_P (kD K) vwCl [(Lh, .inr (1, [.ref La0, .int (L.2 + (1 : Int32))])), (La0, .inl ((kC K), 100, .inl (upd L.1 L.2.toNatClampNeg (vp_nar .char ch))))] _ := hP
    have hD : va_D A [(Lh, .inr (1, [.ref La0, .int (L.2 + (1 : Int32))])), (La0, .inl ((kC K), 100, .inl (upd L.1 L.2.toNatClampNeg (vp_nar .char ch))))] := hD
    exact W.vret hx hb hr (fun t ht hW => ⟨⟨(upd L.1 L.2.toNatClampNeg (vp_nar .char ch), L.2 + (1 : Int32)), rfl, ⟨hF, (by first | assumption | exact lnok_add ok_L c_1), trivial⟩, ⟨by rw [ht]; exact hP, hD⟩⟩, hS.F ht⟩) hS.2.2 d_ln_add_29
