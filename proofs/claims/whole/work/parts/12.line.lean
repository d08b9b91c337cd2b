def f_ln_size (L : LnT) : Int32 := L.2
set_option maxHeartbeats 4000000 in
set_option maxRecDepth 100000 in
theorem c_ln_size (l : Launch) (K : KT) (Lh La0 : Nat) (L : LnT) : Met l y_ln_size w_ln_size ({ frames := 0, cells := 0, slots := 0, locals := 0 } : Room) (va_Pc [.ref Lh] (fun U => pRO K [(Lh, .inr (1, [.ref La0, .int L.2])), (La0, .inl ((kC K), 100, .inl L.1))] U ∧ LnOk L ∧ True)) (vp_Si (fun r => f_ln_size L = r ∧ True)) 0 0 (fun _ => False) := by
  refine Met.ofW (cc := b_ln_size) (maxL := 1) (ret := (some .int)) (by decide) rfl ?_
  intro p e s m args below meth c s₁ B hml hv
  obtain ⟨rfl, ⟨hP, hK, hG⟩, ok_L, -⟩ := hv
  have hx := B.exec
  have hb := B.bytes
  have hr := B.returns
  have hts := atoms_spec (ws := w_ln_size) B.pre
  have hown : s.vm.findClass R_ln = some m.cls := findClass_of_methodNamed B.named
  have hlocks := B.notSynchronized
  have htg := fun w h => hts w (List.mem_cons_of_mem _ h)
  have hS : va_S (fun _ => False) s.heap s.heap [] := va_S.rf
  have hl := lv_entry ([.ref Lh]) (n := 1) (Nat.le_of_ble_eq_true rfl)
  rw [lg_entry_eq]
  generalize (lg_sl ([.ref Lh]) ++ List.replicate (1 - (lg_sl ([.ref Lh])).length) Slot.unset).toArray = ls at hl ⊢
  have hl : lv_has ls 1 [(0, .ref Lh)] := hl
  have hF := f_ln_size.eq_1 L
  refine lv_aload_n hx hb d_ln_size_0 rfl (lv_at hl 0 rfl) ?_
  refine va_get (D := kD K) (ci := 1) (v := .int L.2) (C := R_ln) (T := T_ln) (N := 2) hx hb htg in_ln hown hK hP 0 rfl rfl 1 (by decide) (htg (.fieldLink R_ln 15 "GameNotation$Line" "size" "I") q_34) (fun _ h9 => h9) rfl d_ln_size_1 ?_
  exact W.iret (v := L.2) hx hb hr (fun t ht hW => ⟨_, rfl, ⟨hF, trivial⟩, ht⟩) hS.2.2 d_ln_size_4
def f_ln_clear (L : LnT) : LnT := (L.1, (0 : Int32))
set_option maxHeartbeats 4000000 in
set_option maxRecDepth 100000 in
theorem c_ln_clear (l : Launch) (K : KT) (sz : Nat) (Lh La0 : Nat) (L : LnT) : Met l y_ln_clear w_ln_clear ({ frames := 0, cells := 0, slots := 0, locals := 0 } : Room) (va_Pc [.ref Lh] (fun U => pMU K [(Lh, .inr (1, [.ref La0, .int L.2])), (La0, .inl ((kC K), 100, .inl L.1))] sz U ∧ LnOk L ∧ True)) (va_Qv (fun u : LnT => f_ln_clear L = u ∧ LnOk u ∧ True) (fun (u : LnT) (t : State) => va_P (kD K) vwCl [(Lh, .inr (1, [.ref La0, .int u.2])), (La0, .inl ((kC K), 100, .inl u.1))] t.heap ∧ va_D (va_A [(Lh, .inr (1, [.ref La0, .int L.2])), (La0, .inl ((kC K), 100, .inl L.1))] sz) [(Lh, .inr (1, [.ref La0, .int u.2])), (La0, .inl ((kC K), 100, .inl u.1))]) (va_A [(Lh, .inr (1, [.ref La0, .int L.2])), (La0, .inl ((kC K), 100, .inl L.1))] sz)) 0 0 (va_A [(Lh, .inr (1, [.ref La0, .int L.2])), (La0, .inl ((kC K), 100, .inl L.1))] sz) := by
  refine Met.ofW (cc := b_ln_clear) (maxL := 1) (ret := none) (by decide) rfl ?_
  intro p e s m args below meth c s₁ B hml hv
  obtain ⟨rfl, ⟨hsz, hP, hK, hD0, hG⟩, ok_L, -⟩ := hv
  have hx := B.exec
  have hb := B.bytes
  have hr := B.returns
  have hts := atoms_spec (ws := w_ln_clear) B.pre
  have hown : s.vm.findClass R_ln = some m.cls := findClass_of_methodNamed B.named
  have hlocks := B.notSynchronized
  have htg := fun w h => hts w (List.mem_cons_of_mem _ h)
  subst hsz
  have hD := hD0.self (sz := s.heap.size)
  generalize hAe : va_A [(Lh, .inr (1, [.ref La0, .int L.2])), (La0, .inl ((kC K), 100, .inl L.1))] s.heap.size = A at hD hG ⊢
  have hA : ∀ q : Nat, s.heap.size ≤ q → A q := fun q h => by rw [← hAe]; exact Or.inr h
  have hS : va_S A s.heap s.heap [] := va_S.rf
  have hl := lv_entry ([.ref Lh]) (n := 1) (Nat.le_of_ble_eq_true rfl)
  rw [lg_entry_eq]
  generalize (lg_sl ([.ref Lh]) ++ List.replicate (1 - (lg_sl ([.ref Lh])).length) Slot.unset).toArray = ls at hl ⊢
  have hl : lv_has ls 1 [(0, .ref Lh)] := hl
  have hF := f_ln_clear.eq_1 L
  refine lv_aload_n hx hb d_ln_clear_0 rfl (lv_at hl 0 rfl) ?_
  refine lv_iconst (v := 0) hx hb d_ln_clear_1 (by decide) ?_
  refine va_put (D := kD K) (ci := 1) (v := .int (0 : Int32)) (ty := .int) (C := R_ln) (T := T_ln) (N := 2) hx hb htg in_ln ty_ln ty_ln_ok nm_ln hown hK hP hD hS 0 rfl rfl 1 (by decide) (htg (.fieldLink R_ln 15 "GameNotation$Line" "size" "I") q_34) (fun _ h9 => h9) rfl (by decide +kernel) rfl rfl (Nat.le_of_ble_eq_true rfl) d_ln_clear_2 (fun H locs hP hD hS => ?_)
  have hP : va_P (kD K) vwCl [(Lh, .inr (1, [.ref La0, .int (0 : Int32)])), (La0, .inl ((kC K), 100, .inl L.1))] _ := hP
  have hD : va_D A [(Lh, .inr (1, [.ref La0, .int (0 : Int32)])), (La0, .inl ((kC K), 100, .inl L.1))] := hD
  exact W.vret hx hb hr (fun t ht hW => ⟨⟨(L.1, (0 : Int32)), rfl, ⟨hF, (lnok_clear ok_L), trivial⟩, ⟨by rw [ht]; exact hP, hD⟩⟩, hS.F ht⟩) hS.2.2 d_ln_clear_5
def f_ln_letter (L : LnT) (ix : Int32) : Int32 := (if ix < 0 then (0 : Int32) else (if L.2 ≤ ix then (0 : Int32) else (L.1 ix.toNatClampNeg)))
set_option maxHeartbeats 4000000 in
set_option maxRecDepth 100000 in
theorem c_ln_letter (l : Launch) (K : KT) (Lh La0 : Nat) (L : LnT) (ix : Int32) : Met l y_ln_letter w_ln_letter ({ frames := 0, cells := 0, slots := 0, locals := 0 } : Room) (va_Pc [.ref Lh, .int ix] (fun U => pRO K [(Lh, .inr (1, [.ref La0, .int L.2])), (La0, .inl ((kC K), 100, .inl L.1))] U ∧ LnOk L ∧ True)) (vp_Si (fun r => f_ln_letter L ix = r ∧ narrow .char (.int r) = .int r)) 0 0 (fun _ => False) := by
  refine Met.ofW (cc := b_ln_letter) (maxL := 2) (ret := (some .char)) (by decide) rfl ?_
  intro p e s m args below meth c s₁ B hml hv
  obtain ⟨rfl, ⟨hP, hK, hG⟩, ok_L, -⟩ := hv
  have hx := B.exec
  have hb := B.bytes
  have hr := B.returns
  have hts := atoms_spec (ws := w_ln_letter) B.pre
  have hown : s.vm.findClass R_ln = some m.cls := findClass_of_methodNamed B.named
  have hlocks := B.notSynchronized
  have htg := fun w h => hts w (List.mem_cons_of_mem _ h)
  have hS : va_S (fun _ => False) s.heap s.heap [] := va_S.rf
  have hl := lv_entry ([.ref Lh, .int ix]) (n := 2) (Nat.le_of_ble_eq_true rfl)
  rw [lg_entry_eq]
  generalize (lg_sl ([.ref Lh, .int ix]) ++ List.replicate (2 - (lg_sl ([.ref Lh, .int ix])).length) Slot.unset).toArray = ls at hl ⊢
  have hl : lv_has ls 2 [(0, .ref Lh), (1, .int ix)] := hl
  have hF := f_ln_letter.eq_1 L ix
  refine lv_iload_n hx hb d_ln_letter_0 rfl (lv_at hl 1 rfl) ?_
  refine lv_if_lt (tgt := 21) hx hb d_ln_letter_1 (by decide) (fun c_1 => ?_) (fun c_1 => ?_)
  · have hF := hF.trans (if_pos c_1)
    refine lv_iconst (v := 0) hx hb d_ln_letter_21 (by decide) ?_
    exact W.zret (v := (0 : Int32)) hx hb hr (rfl) (fun t ht hW => ⟨_, rfl, ⟨hF, rfl⟩, ht⟩) hS.2.2 d_ln_letter_22
  · have hF := hF.trans (if_neg c_1)
    refine lv_iload_n hx hb d_ln_letter_4 rfl (lv_at hl 1 rfl) ?_
    refine lv_aload_n hx hb d_ln_letter_5 rfl (lv_at hl 0 rfl) ?_
    refine va_get (D := kD K) (ci := 1) (v := .int L.2) (C := R_ln) (T := T_ln) (N := 2) hx hb htg in_ln hown hK hP 0 rfl rfl 1 (by decide) (htg (.fieldLink R_ln 15 "GameNotation$Line" "size" "I") q_34) (fun _ h9 => h9) rfl d_ln_letter_6 ?_
    refine lv_icmp_ge (tgt := 21) hx hb d_ln_letter_9 (by decide) (fun c_2 => ?_) (fun c_2 => ?_)
    · have hF := hF.trans (if_pos c_2)
      refine lv_iconst (v := 0) hx hb d_ln_letter_21 (by decide) ?_
      exact W.zret (v := (0 : Int32)) hx hb hr (rfl) (fun t ht hW => ⟨_, rfl, ⟨hF, rfl⟩, ht⟩) hS.2.2 d_ln_letter_22
    · have hF := hF.trans (if_neg c_2)
      refine lv_aload_n hx hb d_ln_letter_12 rfl (lv_at hl 0 rfl) ?_
      refine va_get (D := kD K) (ci := 1) (v := .ref La0) (C := R_ln) (T := T_ln) (N := 2) hx hb htg in_ln hown hK hP 0 rfl rfl 0 (by decide) (htg (.fieldLink R_ln 9 "GameNotation$Line" "letters" "[C") q_33) (fun _ h9 => h9) rfl d_ln_letter_13 ?_
      refine lv_iload_n hx hb d_ln_letter_16 rfl (lv_at hl 1 rfl) ?_
      have h_3 : vp_in ix 100 := lnok_in ok_L c_1 c_2
      refine va_cald hx hb hK hP 1 1 rfl rfl h_3 d_ln_letter_17 ?_
      refine lv_goto (tgt := 22) hx hb d_ln_letter_18 (by decide) ?_
      exact W.zret (v := L.1 ix.toNatClampNeg) hx hb hr (lnok_nar ok_L _) (fun t ht hW => ⟨_, rfl, ⟨hF, lnok_nar ok_L _⟩, ht⟩) hS.2.2 d_ln_letter_22
def f_ln_add (L : LnT) (ch : Int32) : LnT := (if (100 : Int32) ≤ L.2 then L else (upd L.1 L.2.toNatClampNeg (vp_nar .char ch), L.2 + (1 : Int32)))
set_option maxHeartbeats 4000000 in
set_option maxRecDepth 100000 in
theorem c_ln_add (l : Launch) (K : KT) (sz : Nat) (Lh La0 : Nat) (L : LnT) (ch : Int32) : Met l y_ln_add w_ln_add ({ frames := 0, cells := 0, slots := 0, locals := 0 } : Room) (va_Pc [.ref Lh, .int ch] (fun U => pMU K [(Lh, .inr (1, [.ref La0, .int L.2])), (La0, .inl ((kC K), 100, .inl L.1))] sz U ∧ LnOk L ∧ True)) (va_Qv (fun u : LnT => f_ln_add L ch = u ∧ LnOk u ∧ True) (fun (u : LnT) (t : State) => va_P (kD K) vwCl [(Lh, .inr (1, [.ref La0, .int u.2])), (La0, .inl ((kC K), 100, .inl u.1))] t.heap ∧ va_D (va_A [(Lh, .inr (1, [.ref La0, .int L.2])), (La0, .inl ((kC K), 100, .inl L.1))] sz) [(Lh, .inr (1, [.ref La0, .int u.2])), (La0, .inl ((kC K), 100, .inl u.1))]) (va_A [(Lh, .inr (1, [.ref La0, .int L.2])), (La0, .inl ((kC K), 100, .inl L.1))] sz)) 0 0 (va_A [(Lh, .inr (1, [.ref La0, .int L.2])), (La0, .inl ((kC K), 100, .inl L.1))] sz) := by
  refine Met.ofW (cc := b_ln_add) (maxL := 2) (ret := none) (by decide) rfl ?_
  intro p e s m args below meth c s₁ B hml hv
  obtain ⟨rfl, ⟨hsz, hP, hK, hD0, hG⟩, ok_L, -⟩ := hv
  have hx := B.exec
  have hb := B.bytes
  have hr := B.returns
  have hts := atoms_spec (ws := w_ln_add) B.pre
  have hown : s.vm.findClass R_ln = some m.cls := findClass_of_methodNamed B.named
  have hlocks := B.notSynchronized
  have htg := fun w h => hts w (List.mem_cons_of_mem _ h)
  subst hsz
  have hD := hD0.self (sz := s.heap.size)
  generalize hAe : va_A [(Lh, .inr (1, [.ref La0, .int L.2])), (La0, .inl ((kC K), 100, .inl L.1))] s.heap.size = A at hD hG ⊢
  have hA : ∀ q : Nat, s.heap.size ≤ q → A q := fun q h => by rw [← hAe]; exact Or.inr h
  have hS : va_S A s.heap s.heap [] := va_S.rf
  have hl := lv_entry ([.ref Lh, .int ch]) (n := 2) (Nat.le_of_ble_eq_true rfl)
  rw [lg_entry_eq]
  generalize (lg_sl ([.ref Lh, .int ch]) ++ List.replicate (2 - (lg_sl ([.ref Lh, .int ch])).length) Slot.unset).toArray = ls at hl ⊢
  have hl : lv_has ls 2 [(0, .ref Lh), (1, .int ch)] := hl
  have hF := f_ln_add.eq_1 L ch
  refine lv_aload_n hx hb d_ln_add_0 rfl (lv_at hl 0 rfl) ?_
  refine va_get (D := kD K) (ci := 1) (v := .int L.2) (C := R_ln) (T := T_ln) (N := 2) hx hb htg in_ln hown hK hP 0 rfl rfl 1 (by decide) (htg (.fieldLink R_ln 15 "GameNotation$Line" "size" "I") q_34) (fun _ h9 => h9) rfl d_ln_add_1 ?_
  refine lv_bipush (v := 100) hx hb d_ln_add_4 (by decide) ?_
  refine lv_icmp_ge (tgt := 29) hx hb d_ln_add_6 (by decide) (fun c_1 => ?_) (fun c_1 => ?_)
  · have hF := hF.trans (if_pos c_1)
    exact W.vret hx hb hr (fun t ht hW => ⟨⟨L, rfl, ⟨hF, (by first | assumption | exact lnok_add ok_L c_1), trivial⟩, ⟨by rw [ht]; exact hP, hD⟩⟩, hS.F ht⟩) hS.2.2 d_ln_add_29
  · have hF := hF.trans (if_neg c_1)
    refine lv_aload_n hx hb d_ln_add_9 rfl (lv_at hl 0 rfl) ?_
    refine va_get (D := kD K) (ci := 1) (v := .ref La0) (C := R_ln) (T := T_ln) (N := 2) hx hb htg in_ln hown hK hP 0 rfl rfl 0 (by decide) (htg (.fieldLink R_ln 9 "GameNotation$Line" "letters" "[C") q_33) (fun _ h9 => h9) rfl d_ln_add_10 ?_
    refine lv_aload_n hx hb d_ln_add_13 rfl (lv_at hl 0 rfl) ?_
    refine va_get (D := kD K) (ci := 1) (v := .int L.2) (C := R_ln) (T := T_ln) (N := 2) hx hb htg in_ln hown hK hP 0 rfl rfl 1 (by decide) (htg (.fieldLink R_ln 15 "GameNotation$Line" "size" "I") q_34) (fun _ h9 => h9) rfl d_ln_add_14 ?_
    refine lv_iload_n hx hb d_ln_add_17 rfl (lv_at hl 1 rfl) ?_
    have h_2 : vp_in L.2 100 := lnok_at ok_L c_1
    refine va_cast hx hb hK hP hD hS 1 1 rfl rfl h_2 d_ln_add_18 (fun H locs hP hD hS => ?_)
    have hP : va_P (kD K) vwCl [(Lh, .inr (1, [.ref La0, .int L.2])), (La0, .inl ((kC K), 100, .inl (upd L.1 L.2.toNatClampNeg (vp_nar .char ch))))] _ := hP
    have hD : va_D A [(Lh, .inr (1, [.ref La0, .int L.2])), (La0, .inl ((kC K), 100, .inl (upd L.1 L.2.toNatClampNeg (vp_nar .char ch))))] := hD
    refine lv_aload_n hx hb d_ln_add_19 rfl (lv_at hl 0 rfl) ?_
    refine lv_dup hx hb d_ln_add_20 rfl ?_
    refine va_get (D := kD K) (ci := 1) (v := .int L.2) (C := R_ln) (T := T_ln) (N := 2) hx hb htg in_ln hown hK hP 0 rfl rfl 1 (by decide) (htg (.fieldLink R_ln 15 "GameNotation$Line" "size" "I") q_34) (fun _ h9 => h9) rfl d_ln_add_21 ?_
    refine lv_iconst (v := 1) hx hb d_ln_add_24 (by decide) ?_
    refine lv_iadd hx hb d_ln_add_25 ?_
    refine va_put (D := kD K) (ci := 1) (v := .int (L.2 + (1 : Int32))) (ty := .int) (C := R_ln) (T := T_ln) (N := 2) hx hb htg in_ln ty_ln ty_ln_ok nm_ln hown hK hP hD hS 0 rfl rfl 1 (by decide) (htg (.fieldLink R_ln 15 "GameNotation$Line" "size" "I") q_34) (fun _ h9 => h9) rfl (by decide +kernel) rfl rfl (Nat.le_of_ble_eq_true rfl) d_ln_add_26 (fun H locs hP hD hS => ?_)
    have hP : va_P (kD K) vwCl [(Lh, .inr (1, [.ref La0, .int (L.2 + (1 : Int32))])), (La0, .inl ((kC K), 100, .inl (upd L.1 L.2.toNatClampNeg (vp_nar .char ch))))] _ := hP
    have hD : va_D A [(Lh, .inr (1, [.ref La0, .int (L.2 + (1 : Int32))])), (La0, .inl ((kC K), 100, .inl (upd L.1 L.2.toNatClampNeg (vp_nar .char ch))))] := hD
    exact W.vret hx hb hr (fun t ht hW => ⟨⟨(upd L.1 L.2.toNatClampNeg (vp_nar .char ch), L.2 + (1 : Int32)), rfl, ⟨hF, (by first | assumption | exact lnok_add ok_L c_1), trivial⟩, ⟨by rw [ht]; exact hP, hD⟩⟩, hS.F ht⟩) hS.2.2 d_ln_add_29
def f_ln_addAll_L2 (tx : Nat) : Nat → Int32 → LnT → LnT
  | 0, _, Lw => Lw
  | n + 1, v2, Lw => (bnd (f_st_length tx) (fun r_1 => (if r_1 ≤ v2 then Lw else (bnd (f_st_charAt tx v2) (fun r_3 => (bnd (f_ln_add Lw r_3) (fun u_4 => (f_ln_addAll_L2 tx  n (v2 + (1 : Int32)) u_4))))))))
def f_ln_addAll (L : LnT) (tx : Nat) : LnT := (f_ln_addAll_L2 tx  101 (0 : Int32) L)
set_option maxHeartbeats 4000000 in
set_option maxRecDepth 100000 in
theorem c_ln_addAll (l : Launch) (K : KT) (sz : Nat) (Lh La0 : Nat) (L : LnT) (tx : Nat) : Met l y_ln_addAll w_ln_addAll ({ frames := 4, cells := 0, slots := 0, locals := 85 } : Room) (va_Pc [.ref Lh, .ref (kK K tx)] (fun U => pMU K [(Lh, .inr (1, [.ref La0, .int L.2])), (La0, .inl ((kC K), 100, .inl L.1))] sz U ∧ tx < nSTR ∧ LnOk L ∧ True)) (va_Qv (fun u : LnT => f_ln_addAll L tx = u ∧ LnOk u ∧ True) (fun (u : LnT) (t : State) => va_P (kD K) vwCl [(Lh, .inr (1, [.ref La0, .int u.2])), (La0, .inl ((kC K), 100, .inl u.1))] t.heap ∧ va_D (va_A [(Lh, .inr (1, [.ref La0, .int L.2])), (La0, .inl ((kC K), 100, .inl L.1))] sz) [(Lh, .inr (1, [.ref La0, .int u.2])), (La0, .inl ((kC K), 100, .inl u.1))]) (va_A [(Lh, .inr (1, [.ref La0, .int L.2])), (La0, .inl ((kC K), 100, .inl L.1))] sz)) 0 0 (va_A [(Lh, .inr (1, [.ref La0, .int L.2])), (La0, .inl ((kC K), 100, .inl L.1))] sz) := by
  refine Met.ofW (cc := b_ln_addAll) (maxL := 3) (ret := none) (by decide) rfl ?_
  intro p e s m args below meth c s₁ B hml hv
  obtain ⟨rfl, ⟨hsz, hP, hK, hD0, hG⟩, h_tx, ok_L, -⟩ := hv
  have hx := B.exec
  have hb := B.bytes
  have hr := B.returns
  have hts := atoms_spec (ws := w_ln_addAll) B.pre
  have hown : s.vm.findClass R_ln = some m.cls := findClass_of_methodNamed B.named
  have hlocks := B.notSynchronized
  have htg := fun w h => hts w (List.mem_cons_of_mem _ h)
  subst hsz
  have hD := hD0.self (sz := s.heap.size)
  generalize hAe : va_A [(Lh, .inr (1, [.ref La0, .int L.2])), (La0, .inl ((kC K), 100, .inl L.1))] s.heap.size = A at hD hG ⊢
  have hA : ∀ q : Nat, s.heap.size ≤ q → A q := fun q h => by rw [← hAe]; exact Or.inr h
  have hS : va_S A s.heap s.heap [] := va_S.rf
  have hl := lv_entry ([.ref Lh, .ref (kK K tx)]) (n := 3) (Nat.le_of_ble_eq_true rfl)
  rw [lg_entry_eq]
  generalize (lg_sl ([.ref Lh, .ref (kK K tx)]) ++ List.replicate (3 - (lg_sl ([.ref Lh, .ref (kK K tx)])).length) Slot.unset).toArray = ls at hl ⊢
  have hl : lv_has ls 3 [(0, .ref Lh), (1, .ref (kK K tx))] := hl
  have hF := f_ln_addAll.eq_1 L tx
  refine lv_iconst (v := 0) hx hb d_ln_addAll_0 (by decide) ?_
  refine lv_istore_n (lv' := [(2, .int (0 : Int32)), (0, .ref Lh), (1, .ref (kK K tx))]) hx hb d_ln_addAll_1 rfl hl (by decide) rfl (fun ls hl => ?_)
  have loop2 : ∀ (n2 : Nat) (v2 : Int32) (Lw : LnT) (H : Heap) (locs : List Loc) (ls : Array Slot), LnOk Lw → 0 ≤ v2.toInt → (100 - v2.toInt).toNat < n2 → va_P (kD K) vwCl [(Lh, .inr (1, [.ref La0, .int Lw.2])), (La0, .inl ((kC K), 100, .inl Lw.1))] H → va_D A [(Lh, .inr (1, [.ref La0, .int Lw.2])), (La0, .inl ((kC K), 100, .inl Lw.1))] → va_S A s.heap H locs → lv_has ls 3 [(0, .ref Lh), (1, .ref (kK K tx)), (2, .int v2)] → f_ln_addAll L tx = f_ln_addAll_L2 tx  n2 v2 Lw → W p l e (headSpec w_ln_addAll ({ frames := 4, cells := 0, slots := 0, locals := 85 } : Room)).room s m ([(.ref Lh : Value), .ref (kK K tx)].toArray) below meth c H locs 0 0 (MQ below (va_Qv (fun u : LnT => f_ln_addAll L tx = u ∧ LnOk u ∧ True) (fun (u : LnT) (t : State) => va_P (kD K) vwCl [(Lh, .inr (1, [.ref La0, .int u.2])), (La0, .inl ((kC K), 100, .inl u.1))] t.heap ∧ va_D (A) [(Lh, .inr (1, [.ref La0, .int u.2])), (La0, .inl ((kC K), 100, .inl u.1))]) (A)) ([(.ref Lh : Value), .ref (kK K tx)].toArray) s 0 0 (A)) (F0 m 2 ls []) := by
    intro n2
    induction n2 with
    | zero =>
      intro _ _ _ _ _ _ _ hz
      exact absurd hz (Nat.not_lt_zero _)
    | succ n2 ih2 =>
      intro v2 Lw H locs ls ok_Lw i0 hm hP hD hS hl hF
      rw [f_ln_addAll_L2] at hF
      refine lv_iload_n hx hb d_ln_addAll_2 rfl (lv_at hl 2 rfl) ?_
      refine lv_aload_n hx hb d_ln_addAll_3 rfl (lv_at hl 1 rfl) ?_
      have hPc : va_P (kD K) vwCl [] _ := hP.sub [] rfl
      refine vp_callSi (va_Run.run (va_runV (As := []) (rest := [.int v2]) ⟨hx, hb, hml, hown, htg⟩ (c_st_length l K tx) (cwV 0 htg (g_V q_564 q_218 q_219 q_8 (g_w q_220)) rfl rfl rfl ⟨rfl, k_st_length⟩ ⟨Nat.le_of_ble_eq_true rfl, Nat.le_of_ble_eq_true rfl⟩) ⟨ro_blind, vk_recv hG.str h_tx hS, ro_use hPc hK hG hS ⟨h_tx, trivial⟩⟩ rfl rfl hl.1 rfl (lv_room (Nat.le_of_ble_eq_true rfl)) d_ln_addAll_4 ⟨Nat.zero_le _, Nat.zero_le _⟩)) (fun r_1 hw_1 => ?_)
      have hF := hF.trans (bnd_s hw_1.1)
      refine lv_icmp_ge (tgt := 25) hx hb d_ln_addAll_7 (by decide) (fun c_2 => ?_) (fun c_2 => ?_)
      · have hF := hF.trans (if_pos c_2)
        exact W.vret hx hb hr (fun t ht hW => ⟨⟨Lw, rfl, ⟨hF, (by assumption), trivial⟩, ⟨by rw [ht]; exact hP, hD⟩⟩, hS.F ht⟩) hS.2.2 d_ln_addAll_25
      · have hF := hF.trans (if_neg c_2)
        refine lv_aload_n hx hb d_ln_addAll_10 rfl (lv_at hl 0 rfl) ?_
        refine lv_aload_n hx hb d_ln_addAll_11 rfl (lv_at hl 1 rfl) ?_
        refine lv_iload_n hx hb d_ln_addAll_12 rfl (lv_at hl 2 rfl) ?_
        have hPc : va_P (kD K) vwCl [] _ := hP.sub [] rfl
        refine vp_callSi (va_Run.run (va_runV (As := [.int v2]) (rest := [.ref Lh]) ⟨hx, hb, hml, hown, htg⟩ (c_st_charAt l K tx v2) (cwV 1 htg (g_V q_566 q_319 q_320 q_8 (g_w q_321)) rfl rfl rfl ⟨rfl, k_st_charAt⟩ ⟨Nat.le_of_ble_eq_true rfl, Nat.le_of_ble_eq_true rfl⟩) ⟨ro_blind, vk_recv hG.str h_tx hS, ro_use hPc hK hG hS ⟨h_tx, (sx_in2 h_tx i0 hw_1 c_2), trivial⟩⟩ rfl rfl hl.1 rfl (lv_room (Nat.le_of_ble_eq_true rfl)) d_ln_addAll_13 ⟨Nat.zero_le _, Nat.zero_le _⟩)) (fun r_3 hw_3 => ?_)
        have hF := hF.trans (bnd_s hw_3.1)
        have hn_3 := hw_3.2
        have hPc : va_P (kD K) vwCl [(Lh, .inr (1, [.ref La0, .int Lw.2])), (La0, .inl ((kC K), 100, .inl Lw.1))] _ := hP.sub [0, 1] rfl
        have hDc : va_D A [(Lh, .inr (1, [.ref La0, .int Lw.2])), (La0, .inl ((kC K), 100, .inl Lw.1))] := hD.sub [0, 1] (by decide) rfl
        have hFc := va_free (wc := [(Lh, .inr (1, [.ref La0, .int Lw.2])), (La0, .inl ((kC K), 100, .inl Lw.1))]) hD hS hA [0, 1] rfl
        refine va_callv (va_runV (As := [.int r_3]) (rest := []) ⟨hx, hb, hml, hown, htg⟩ (c_ln_add l K _ Lh La0 Lw r_3) (cwV 1 htg (g_V q_474 q_162 q_163 q_2 (g_w q_164)) rfl rfl rfl ⟨rfl, k_ln_add⟩ ⟨Nat.le_of_ble_eq_true rfl, Nat.le_of_ble_eq_true rfl⟩) ⟨mu_blind, va_recv hK hPc (ci := 1) (q0 := 0) rfl rfl, mu_use hPc hK hDc hG hS hFc ⟨(by assumption), trivial⟩⟩ rfl rfl hl.1 rfl (lv_room (Nat.le_of_ble_eq_true rfl)) d_ln_addAll_16 ⟨Nat.zero_le _, Nat.zero_le _⟩) hS (fun q _ h => hFc q h) hFc (fun u_4 t H1 locs ht hvm hw_4 hB hz1 hk1 hS => ?_)
        obtain ⟨hP1, hD1⟩ := hB
        rw [ht] at hP1
        obtain ⟨hP, hD⟩ := va_join (wr := []) (w1 := [(Lh, .inr (1, [.ref La0, .int u_4.2])), (La0, .inl ((kC K), 100, .inl u_4.1))]) hP hD [0, 1] [] rfl rfl (by decide) (by decide) hk1 hFc hP1 hD1
        have hP : va_P (kD K) vwCl [(Lh, .inr (1, [.ref La0, .int u_4.2])), (La0, .inl ((kC K), 100, .inl u_4.1))] H1 := hP.sub [0, 1] rfl
        have hD : va_D A [(Lh, .inr (1, [.ref La0, .int u_4.2])), (La0, .inl ((kC K), 100, .inl u_4.1))] := hD.sub [0, 1] (by decide) rfl
        generalize H1 = H at hP hS ⊢
        have hF := hF.trans (bnd_s hw_4.1)
        have ok_4_L : LnOk u_4 := hw_4.2.1
        refine lv_iinc (v := v2 + (1 : Int32)) (lv' := [(2, .int (v2 + (1 : Int32))), (0, .ref Lh), (1, .ref (kK K tx))]) hx hb d_ln_addAll_19 hl (k := 2) rfl rfl (by decide) rfl (fun ls hl => ?_)
        refine lv_goto (tgt := 2) hx hb d_ln_addAll_22 (by decide) ?_
        exact ih2  (v2 + (1 : Int32)) u_4 _ _ ls (by assumption) (lp_s i0 c_2) (lp_d i0 c_2 (sx_le h_tx hw_1) hm) hP hD hS (lv_sub hl [1, 2, 0] rfl) hF
  exact loop2 101 (0 : Int32) L _ _ ls (by assumption) (by decide) (by decide) hP hD hS (lv_sub hl [1, 2, 0] rfl) hF
def f_ln_addNumber_L4 (nb : Int32) : Nat → Int32 → LnT → LnT
  | 0, _, Lw => Lw
  | n + 1, v2, Lw => (if v2 ≤ 0 then Lw else (if v2 ≤ nb then (bnd (f_ln_add Lw ((((48 : Int32) + ((nb / v2) - (nb / v2) / (10 : Int32) * (10 : Int32))).toUInt32 % 65536).toInt32)) (fun u_3 => (f_ln_addNumber_L4 nb  n (v2 / (10 : Int32)) u_3))) else (if v2 = (1 : Int32) then (bnd (f_ln_add Lw ((((48 : Int32) + ((nb / v2) - (nb / v2) / (10 : Int32) * (10 : Int32))).toUInt32 % 65536).toInt32)) (fun u_5 => (f_ln_addNumber_L4 nb  n (v2 / (10 : Int32)) u_5))) else (f_ln_addNumber_L4 nb  n (v2 / (10 : Int32)) Lw))))
def f_ln_addNumber (L : LnT) (nb : Int32) : LnT := (f_ln_addNumber_L4 nb  5 (1000 : Int32) L)
set_option maxHeartbeats 4000000 in
set_option maxRecDepth 100000 in
theorem c_ln_addNumber (l : Launch) (K : KT) (sz : Nat) (Lh La0 : Nat) (L : LnT) (nb : Int32) : Met l y_ln_addNumber w_ln_addNumber ({ frames := 1, cells := 0, slots := 0, locals := 21 } : Room) (va_Pc [.ref Lh, .int nb] (fun U => pMU K [(Lh, .inr (1, [.ref La0, .int L.2])), (La0, .inl ((kC K), 100, .inl L.1))] sz U ∧ LnOk L ∧ True)) (va_Qv (fun u : LnT => f_ln_addNumber L nb = u ∧ LnOk u ∧ True) (fun (u : LnT) (t : State) => va_P (kD K) vwCl [(Lh, .inr (1, [.ref La0, .int u.2])), (La0, .inl ((kC K), 100, .inl u.1))] t.heap ∧ va_D (va_A [(Lh, .inr (1, [.ref La0, .int L.2])), (La0, .inl ((kC K), 100, .inl L.1))] sz) [(Lh, .inr (1, [.ref La0, .int u.2])), (La0, .inl ((kC K), 100, .inl u.1))]) (va_A [(Lh, .inr (1, [.ref La0, .int L.2])), (La0, .inl ((kC K), 100, .inl L.1))] sz)) 0 0 (va_A [(Lh, .inr (1, [.ref La0, .int L.2])), (La0, .inl ((kC K), 100, .inl L.1))] sz) := by
  refine Met.ofW (cc := b_ln_addNumber) (maxL := 3) (ret := none) (by decide) rfl ?_
  intro p e s m args below meth c s₁ B hml hv
  obtain ⟨rfl, ⟨hsz, hP, hK, hD0, hG⟩, ok_L, -⟩ := hv
  have hx := B.exec
  have hb := B.bytes
  have hr := B.returns
  have hts := atoms_spec (ws := w_ln_addNumber) B.pre
  have hown : s.vm.findClass R_ln = some m.cls := findClass_of_methodNamed B.named
  have hlocks := B.notSynchronized
  have htg := fun w h => hts w (List.mem_cons_of_mem _ h)
  subst hsz
  have hD := hD0.self (sz := s.heap.size)
  generalize hAe : va_A [(Lh, .inr (1, [.ref La0, .int L.2])), (La0, .inl ((kC K), 100, .inl L.1))] s.heap.size = A at hD hG ⊢
  have hA : ∀ q : Nat, s.heap.size ≤ q → A q := fun q h => by rw [← hAe]; exact Or.inr h
  have hS : va_S A s.heap s.heap [] := va_S.rf
  have hl := lv_entry ([.ref Lh, .int nb]) (n := 3) (Nat.le_of_ble_eq_true rfl)
  rw [lg_entry_eq]
  generalize (lg_sl ([.ref Lh, .int nb]) ++ List.replicate (3 - (lg_sl ([.ref Lh, .int nb])).length) Slot.unset).toArray = ls at hl ⊢
  have hl : lv_has ls 3 [(0, .ref Lh), (1, .int nb)] := hl
  have hF := f_ln_addNumber.eq_1 L nb
  refine lv_sipush (v := 1000) hx hb d_ln_addNumber_0 (by decide) ?_
  refine lv_istore_n (lv' := [(2, .int (1000 : Int32)), (0, .ref Lh), (1, .int nb)]) hx hb d_ln_addNumber_3 rfl hl (by decide) rfl (fun ls hl => ?_)
  have loop4 : ∀ (n4 : Nat) (v2 : Int32) (Lw : LnT) (H : Heap) (locs : List Loc) (ls : Array Slot), LnOk Lw → au_ok v2 → au_m v2 < n4 → va_P (kD K) vwCl [(Lh, .inr (1, [.ref La0, .int Lw.2])), (La0, .inl ((kC K), 100, .inl Lw.1))] H → va_D A [(Lh, .inr (1, [.ref La0, .int Lw.2])), (La0, .inl ((kC K), 100, .inl Lw.1))] → va_S A s.heap H locs → lv_has ls 3 [(0, .ref Lh), (1, .int nb), (2, .int v2)] → f_ln_addNumber L nb = f_ln_addNumber_L4 nb  n4 v2 Lw → W p l e (headSpec w_ln_addNumber ({ frames := 1, cells := 0, slots := 0, locals := 21 } : Room)).room s m ([(.ref Lh : Value), .int nb].toArray) below meth c H locs 0 0 (MQ below (va_Qv (fun u : LnT => f_ln_addNumber L nb = u ∧ LnOk u ∧ True) (fun (u : LnT) (t : State) => va_P (kD K) vwCl [(Lh, .inr (1, [.ref La0, .int u.2])), (La0, .inl ((kC K), 100, .inl u.1))] t.heap ∧ va_D (A) [(Lh, .inr (1, [.ref La0, .int u.2])), (La0, .inl ((kC K), 100, .inl u.1))]) (A)) ([(.ref Lh : Value), .int nb].toArray) s 0 0 (A)) (F0 m 4 ls []) := by
    intro n4
    induction n4 with
    | zero =>
      intro _ _ _ _ _ _ _ hz
      exact absurd hz (Nat.not_lt_zero _)
    | succ n4 ih4 =>
      intro v2 Lw H locs ls ok_Lw i0 hm hP hD hS hl hF
      rw [f_ln_addNumber_L4] at hF
      refine lv_iload_n hx hb d_ln_addNumber_4 rfl (lv_at hl 2 rfl) ?_
      refine lv_if_le (tgt := 40) hx hb d_ln_addNumber_5 (by decide) (fun c_1 => ?_) (fun c_1 => ?_)
      · have hF := hF.trans (if_pos c_1)
        exact W.vret hx hb hr (fun t ht hW => ⟨⟨Lw, rfl, ⟨hF, (by assumption), trivial⟩, ⟨by rw [ht]; exact hP, hD⟩⟩, hS.F ht⟩) hS.2.2 d_ln_addNumber_40
      · have hF := hF.trans (if_neg c_1)
        refine lv_iload_n hx hb d_ln_addNumber_8 rfl (lv_at hl 1 rfl) ?_
        refine lv_iload_n hx hb d_ln_addNumber_9 rfl (lv_at hl 2 rfl) ?_
        refine lv_icmp_ge (tgt := 18) hx hb d_ln_addNumber_10 (by decide) (fun c_2 => ?_) (fun c_2 => ?_)
        · have hF := hF.trans (if_pos c_2)
          refine lv_aload_n hx hb d_ln_addNumber_18 rfl (lv_at hl 0 rfl) ?_
          refine lv_bipush (v := 48) hx hb d_ln_addNumber_19 (by decide) ?_
          refine lv_iload_n hx hb d_ln_addNumber_21 rfl (lv_at hl 1 rfl) ?_
          refine lv_iload_n hx hb d_ln_addNumber_22 rfl (lv_at hl 2 rfl) ?_
          refine lv_idiv hx hb d_ln_addNumber_23 (au_nz i0 c_1) ?_
          refine lv_bipush (v := 10) hx hb d_ln_addNumber_24 (by decide) ?_
          refine lv_irem hx hb d_ln_addNumber_26 (by decide) ?_
          refine lv_iadd hx hb d_ln_addNumber_27 ?_
          refine lv_i2c (v := (((48 : Int32) + ((nb / v2) - (nb / v2) / (10 : Int32) * (10 : Int32))).toUInt32 % 65536).toInt32) hx hb d_ln_addNumber_28 rfl ?_
          have hPc : va_P (kD K) vwCl [(Lh, .inr (1, [.ref La0, .int Lw.2])), (La0, .inl ((kC K), 100, .inl Lw.1))] _ := hP.sub [0, 1] rfl
          have hDc : va_D A [(Lh, .inr (1, [.ref La0, .int Lw.2])), (La0, .inl ((kC K), 100, .inl Lw.1))] := hD.sub [0, 1] (by decide) rfl
          have hFc := va_free (wc := [(Lh, .inr (1, [.ref La0, .int Lw.2])), (La0, .inl ((kC K), 100, .inl Lw.1))]) hD hS hA [0, 1] rfl
          refine va_callv (va_runV (As := [.int ((((48 : Int32) + ((nb / v2) - (nb / v2) / (10 : Int32) * (10 : Int32))).toUInt32 % 65536).toInt32)]) (rest := []) ⟨hx, hb, hml, hown, htg⟩ (c_ln_add l K _ Lh La0 Lw ((((48 : Int32) + ((nb / v2) - (nb / v2) / (10 : Int32) * (10 : Int32))).toUInt32 % 65536).toInt32)) (cwV 1 htg (g_V q_474 q_162 q_163 q_2 (g_w q_164)) rfl rfl rfl ⟨rfl, k_ln_add⟩ ⟨Nat.le_of_ble_eq_true rfl, Nat.le_of_ble_eq_true rfl⟩) ⟨mu_blind, va_recv hK hPc (ci := 1) (q0 := 0) rfl rfl, mu_use hPc hK hDc hG hS hFc ⟨(by assumption), trivial⟩⟩ rfl rfl hl.1 rfl (lv_room (Nat.le_of_ble_eq_true rfl)) d_ln_addNumber_29 ⟨Nat.zero_le _, Nat.zero_le _⟩) hS (fun q _ h => hFc q h) hFc (fun u_3 t H1 locs ht hvm hw_3 hB hz1 hk1 hS => ?_)
          obtain ⟨hP1, hD1⟩ := hB
          rw [ht] at hP1
          obtain ⟨hP, hD⟩ := va_join (wr := []) (w1 := [(Lh, .inr (1, [.ref La0, .int u_3.2])), (La0, .inl ((kC K), 100, .inl u_3.1))]) hP hD [0, 1] [] rfl rfl (by decide) (by decide) hk1 hFc hP1 hD1
          have hP : va_P (kD K) vwCl [(Lh, .inr (1, [.ref La0, .int u_3.2])), (La0, .inl ((kC K), 100, .inl u_3.1))] H1 := hP.sub [0, 1] rfl
          have hD : va_D A [(Lh, .inr (1, [.ref La0, .int u_3.2])), (La0, .inl ((kC K), 100, .inl u_3.1))] := hD.sub [0, 1] (by decide) rfl
          generalize H1 = H at hP hS ⊢
          have hF := hF.trans (bnd_s hw_3.1)
          have ok_3_L : LnOk u_3 := hw_3.2.1
          refine lv_iload_n hx hb d_ln_addNumber_32 rfl (lv_at hl 2 rfl) ?_
          refine lv_bipush (v := 10) hx hb d_ln_addNumber_33 (by decide) ?_
          refine lv_idiv hx hb d_ln_addNumber_35 (by decide) ?_
          refine lv_istore_n (lv' := [(2, .int (v2 / (10 : Int32))), (0, .ref Lh), (1, .int nb)]) hx hb d_ln_addNumber_36 rfl hl (by decide) rfl (fun ls hl => ?_)
          refine lv_goto (tgt := 4) hx hb d_ln_addNumber_37 (by decide) ?_
          exact ih4  (v2 / (10 : Int32)) u_3 _ _ ls (by assumption) (au_s i0 c_1) (au_d i0 c_1 hm) hP hD hS (lv_sub hl [1, 2, 0] rfl) hF
        · have hF := hF.trans (if_neg c_2)
          refine lv_iload_n hx hb d_ln_addNumber_13 rfl (lv_at hl 2 rfl) ?_
          refine lv_iconst (v := 1) hx hb d_ln_addNumber_14 (by decide) ?_
          refine lv_icmp_ne (tgt := 32) hx hb d_ln_addNumber_15 (by decide) (fun c_4 => ?_) (fun c_4 => ?_)
          · have hF := hF.trans (if_neg c_4)
            refine lv_iload_n hx hb d_ln_addNumber_32 rfl (lv_at hl 2 rfl) ?_
            refine lv_bipush (v := 10) hx hb d_ln_addNumber_33 (by decide) ?_
            refine lv_idiv hx hb d_ln_addNumber_35 (by decide) ?_
            refine lv_istore_n (lv' := [(2, .int (v2 / (10 : Int32))), (0, .ref Lh), (1, .int nb)]) hx hb d_ln_addNumber_36 rfl hl (by decide) rfl (fun ls hl => ?_)
            refine lv_goto (tgt := 4) hx hb d_ln_addNumber_37 (by decide) ?_
            exact ih4  (v2 / (10 : Int32)) Lw _ _ ls (by assumption) (au_s i0 c_1) (au_d i0 c_1 hm) hP hD hS (lv_sub hl [1, 2, 0] rfl) hF
          · have hF := hF.trans (if_pos c_4)
            refine lv_aload_n hx hb d_ln_addNumber_18 rfl (lv_at hl 0 rfl) ?_
            refine lv_bipush (v := 48) hx hb d_ln_addNumber_19 (by decide) ?_
            refine lv_iload_n hx hb d_ln_addNumber_21 rfl (lv_at hl 1 rfl) ?_
            refine lv_iload_n hx hb d_ln_addNumber_22 rfl (lv_at hl 2 rfl) ?_
            refine lv_idiv hx hb d_ln_addNumber_23 (au_nz i0 c_1) ?_
            refine lv_bipush (v := 10) hx hb d_ln_addNumber_24 (by decide) ?_
            refine lv_irem hx hb d_ln_addNumber_26 (by decide) ?_
            refine lv_iadd hx hb d_ln_addNumber_27 ?_
            refine lv_i2c (v := (((48 : Int32) + ((nb / v2) - (nb / v2) / (10 : Int32) * (10 : Int32))).toUInt32 % 65536).toInt32) hx hb d_ln_addNumber_28 rfl ?_
            have hPc : va_P (kD K) vwCl [(Lh, .inr (1, [.ref La0, .int Lw.2])), (La0, .inl ((kC K), 100, .inl Lw.1))] _ := hP.sub [0, 1] rfl
            have hDc : va_D A [(Lh, .inr (1, [.ref La0, .int Lw.2])), (La0, .inl ((kC K), 100, .inl Lw.1))] := hD.sub [0, 1] (by decide) rfl
            have hFc := va_free (wc := [(Lh, .inr (1, [.ref La0, .int Lw.2])), (La0, .inl ((kC K), 100, .inl Lw.1))]) hD hS hA [0, 1] rfl
            refine va_callv (va_runV (As := [.int ((((48 : Int32) + ((nb / v2) - (nb / v2) / (10 : Int32) * (10 : Int32))).toUInt32 % 65536).toInt32)]) (rest := []) ⟨hx, hb, hml, hown, htg⟩ (c_ln_add l K _ Lh La0 Lw ((((48 : Int32) + ((nb / v2) - (nb / v2) / (10 : Int32) * (10 : Int32))).toUInt32 % 65536).toInt32)) (cwV 1 htg (g_V q_474 q_162 q_163 q_2 (g_w q_164)) rfl rfl rfl ⟨rfl, k_ln_add⟩ ⟨Nat.le_of_ble_eq_true rfl, Nat.le_of_ble_eq_true rfl⟩) ⟨mu_blind, va_recv hK hPc (ci := 1) (q0 := 0) rfl rfl, mu_use hPc hK hDc hG hS hFc ⟨(by assumption), trivial⟩⟩ rfl rfl hl.1 rfl (lv_room (Nat.le_of_ble_eq_true rfl)) d_ln_addNumber_29 ⟨Nat.zero_le _, Nat.zero_le _⟩) hS (fun q _ h => hFc q h) hFc (fun u_5 t H1 locs ht hvm hw_5 hB hz1 hk1 hS => ?_)
            obtain ⟨hP1, hD1⟩ := hB
            rw [ht] at hP1
            obtain ⟨hP, hD⟩ := va_join (wr := []) (w1 := [(Lh, .inr (1, [.ref La0, .int u_5.2])), (La0, .inl ((kC K), 100, .inl u_5.1))]) hP hD [0, 1] [] rfl rfl (by decide) (by decide) hk1 hFc hP1 hD1
            have hP : va_P (kD K) vwCl [(Lh, .inr (1, [.ref La0, .int u_5.2])), (La0, .inl ((kC K), 100, .inl u_5.1))] H1 := hP.sub [0, 1] rfl
            have hD : va_D A [(Lh, .inr (1, [.ref La0, .int u_5.2])), (La0, .inl ((kC K), 100, .inl u_5.1))] := hD.sub [0, 1] (by decide) rfl
            generalize H1 = H at hP hS ⊢
            have hF := hF.trans (bnd_s hw_5.1)
            have ok_5_L : LnOk u_5 := hw_5.2.1
            refine lv_iload_n hx hb d_ln_addNumber_32 rfl (lv_at hl 2 rfl) ?_
            refine lv_bipush (v := 10) hx hb d_ln_addNumber_33 (by decide) ?_
            refine lv_idiv hx hb d_ln_addNumber_35 (by decide) ?_
            refine lv_istore_n (lv' := [(2, .int (v2 / (10 : Int32))), (0, .ref Lh), (1, .int nb)]) hx hb d_ln_addNumber_36 rfl hl (by decide) rfl (fun ls hl => ?_)
            refine lv_goto (tgt := 4) hx hb d_ln_addNumber_37 (by decide) ?_
            exact ih4  (v2 / (10 : Int32)) u_5 _ _ ls (by assumption) (au_s i0 c_1) (au_d i0 c_1 hm) hP hD hS (lv_sub hl [1, 2, 0] rfl) hF
  exact loop4 5 (1000 : Int32) L _ _ ls (by assumption) (Or.inl rfl) (by decide) hP hD hS (lv_sub hl [1, 2, 0] rfl) hF
def f_ln_addSquare (L : LnT) (sq : Int32) : LnT := (bnd (f_gn_fileOf sq) (fun r_1 => (bnd (f_gn_pick 3 r_1) (fun r_2 => (bnd (f_ln_add L r_2) (fun u_3 => (bnd (f_gn_rankOf sq) (fun r_4 => (bnd (f_gn_pick 0 r_4) (fun r_5 => (bnd (f_ln_add u_3 r_5) (fun u_6 => u_6))))))))))))
set_option maxHeartbeats 4000000 in
set_option maxRecDepth 100000 in
theorem c_ln_addSquare (l : Launch) (K : KT) (sz : Nat) (Lh La0 : Nat) (L : LnT) (sq : Int32) : Met l y_ln_addSquare w_ln_addSquare ({ frames := 5, cells := 0, slots := 0, locals := 106 } : Room) (va_Pc [.ref Lh, .int sq] (fun U => pMU K [(Lh, .inr (1, [.ref La0, .int L.2])), (La0, .inl ((kC K), 100, .inl L.1))] sz U ∧ LnOk L ∧ True)) (va_Qv (fun u : LnT => f_ln_addSquare L sq = u ∧ LnOk u ∧ True) (fun (u : LnT) (t : State) => va_P (kD K) vwCl [(Lh, .inr (1, [.ref La0, .int u.2])), (La0, .inl ((kC K), 100, .inl u.1))] t.heap ∧ va_D (va_A [(Lh, .inr (1, [.ref La0, .int L.2])), (La0, .inl ((kC K), 100, .inl L.1))] sz) [(Lh, .inr (1, [.ref La0, .int u.2])), (La0, .inl ((kC K), 100, .inl u.1))]) (va_A [(Lh, .inr (1, [.ref La0, .int L.2])), (La0, .inl ((kC K), 100, .inl L.1))] sz)) 0 0 (va_A [(Lh, .inr (1, [.ref La0, .int L.2])), (La0, .inl ((kC K), 100, .inl L.1))] sz) := by
  refine Met.ofW (cc := b_ln_addSquare) (maxL := 2) (ret := none) (by decide) rfl ?_
  intro p e s m args below meth c s₁ B hml hv
  obtain ⟨rfl, ⟨hsz, hP, hK, hD0, hG⟩, ok_L, -⟩ := hv
  have hx := B.exec
  have hb := B.bytes
  have hr := B.returns
  have hts := atoms_spec (ws := w_ln_addSquare) B.pre
  have hown : s.vm.findClass R_ln = some m.cls := findClass_of_methodNamed B.named
  have hlocks := B.notSynchronized
  have htg := fun w h => hts w (List.mem_cons_of_mem _ h)
  subst hsz
  have hD := hD0.self (sz := s.heap.size)
  generalize hAe : va_A [(Lh, .inr (1, [.ref La0, .int L.2])), (La0, .inl ((kC K), 100, .inl L.1))] s.heap.size = A at hD hG ⊢
  have hA : ∀ q : Nat, s.heap.size ≤ q → A q := fun q h => by rw [← hAe]; exact Or.inr h
  have hS : va_S A s.heap s.heap [] := va_S.rf
  have hl := lv_entry ([.ref Lh, .int sq]) (n := 2) (Nat.le_of_ble_eq_true rfl)
  rw [lg_entry_eq]
  generalize (lg_sl ([.ref Lh, .int sq]) ++ List.replicate (2 - (lg_sl ([.ref Lh, .int sq])).length) Slot.unset).toArray = ls at hl ⊢
  have hl : lv_has ls 2 [(0, .ref Lh), (1, .int sq)] := hl
  have hF := f_ln_addSquare.eq_1 L sq
  refine lv_aload_n hx hb d_ln_addSquare_0 rfl (lv_at hl 0 rfl) ?_
  refine va_ldcS hx hb hown (show vk_R R_ln 33 "abcdefgh" (kK K 3) s from hG.sr 18 (q := ("GameNotation$Line", 33, "abcdefgh", 3)) rfl) d_ln_addSquare_1 ?_
  refine lv_iload_n hx hb d_ln_addSquare_3 rfl (lv_at hl 1 rfl) ?_
  have hPc : va_P (kD K) vwCl [] _ := hP.sub [] rfl
  refine vp_callSi (va_Run.run (va_runSN (As := [.int sq]) (rest := [.ref (kK K 3), .ref Lh]) ⟨hx, hb, hml, hown, htg⟩ (c_gn_fileOf l K sq) (⟨va_cnB 1 htg (g_w q_424) rfl rfl rfl (hG.nw 43 rfl) (htg _ q_1) k_gn_fileOf ⟨Nat.le_of_ble_eq_true rfl, Nat.le_of_ble_eq_true rfl⟩, htg _ q_423, trivial⟩) ⟨ro_blind, ro_use hPc hK hG hS trivial⟩ rfl rfl hl.1 rfl (lv_room (Nat.le_of_ble_eq_true rfl)) d_ln_addSquare_4 ⟨Nat.zero_le _, Nat.zero_le _⟩)) (fun r_1 hw_1 => ?_)
  have hF := hF.trans (bnd_s hw_1.1)
  have hPc : va_P (kD K) vwCl [] _ := hP.sub [] rfl
  refine vp_callSi (va_Run.run (va_runSN (As := [.ref (kK K 3), .int r_1]) (rest := [.ref Lh]) ⟨hx, hb, hml, hown, htg⟩ (c_gn_pick l K 3 r_1) (⟨va_cnB 2 htg (g_w q_316) rfl rfl rfl (hG.nw 44 rfl) (htg _ q_1) k_gn_pick ⟨Nat.le_of_ble_eq_true rfl, Nat.le_of_ble_eq_true rfl⟩, htg _ q_315, trivial⟩) ⟨ro_blind, ro_use hPc hK hG hS ⟨(by decide), trivial⟩⟩ rfl rfl hl.1 rfl (lv_room (Nat.le_of_ble_eq_true rfl)) d_ln_addSquare_7 ⟨Nat.zero_le _, Nat.zero_le _⟩)) (fun r_2 hw_2 => ?_)
  have hF := hF.trans (bnd_s hw_2.1)
  have hn_2 := hw_2.2
  have hPc : va_P (kD K) vwCl [(Lh, .inr (1, [.ref La0, .int L.2])), (La0, .inl ((kC K), 100, .inl L.1))] _ := hP.sub [0, 1] rfl
  have hDc : va_D A [(Lh, .inr (1, [.ref La0, .int L.2])), (La0, .inl ((kC K), 100, .inl L.1))] := hD.sub [0, 1] (by decide) rfl
  have hFc := va_free (wc := [(Lh, .inr (1, [.ref La0, .int L.2])), (La0, .inl ((kC K), 100, .inl L.1))]) hD hS hA [0, 1] rfl
  refine va_callv (va_runV (As := [.int r_2]) (rest := []) ⟨hx, hb, hml, hown, htg⟩ (c_ln_add l K _ Lh La0 L r_2) (cwV 1 htg (g_V q_474 q_162 q_163 q_2 (g_w q_164)) rfl rfl rfl ⟨rfl, k_ln_add⟩ ⟨Nat.le_of_ble_eq_true rfl, Nat.le_of_ble_eq_true rfl⟩) ⟨mu_blind, va_recv hK hPc (ci := 1) (q0 := 0) rfl rfl, mu_use hPc hK hDc hG hS hFc ⟨(by assumption), trivial⟩⟩ rfl rfl hl.1 rfl (lv_room (Nat.le_of_ble_eq_true rfl)) d_ln_addSquare_10 ⟨Nat.zero_le _, Nat.zero_le _⟩) hS (fun q _ h => hFc q h) hFc (fun u_3 t H1 locs ht hvm hw_3 hB hz1 hk1 hS => ?_)
  obtain ⟨hP1, hD1⟩ := hB
  rw [ht] at hP1
  obtain ⟨hP, hD⟩ := va_join (wr := []) (w1 := [(Lh, .inr (1, [.ref La0, .int u_3.2])), (La0, .inl ((kC K), 100, .inl u_3.1))]) hP hD [0, 1] [] rfl rfl (by decide) (by decide) hk1 hFc hP1 hD1
  have hP : va_P (kD K) vwCl [(Lh, .inr (1, [.ref La0, .int u_3.2])), (La0, .inl ((kC K), 100, .inl u_3.1))] H1 := hP.sub [0, 1] rfl
  have hD : va_D A [(Lh, .inr (1, [.ref La0, .int u_3.2])), (La0, .inl ((kC K), 100, .inl u_3.1))] := hD.sub [0, 1] (by decide) rfl
  generalize H1 = H at hP hS ⊢
  have hF := hF.trans (bnd_s hw_3.1)
  have ok_3_L : LnOk u_3 := hw_3.2.1
  refine lv_aload_n hx hb d_ln_addSquare_13 rfl (lv_at hl 0 rfl) ?_
  refine va_ldcS hx hb hown (show vk_R R_ln 43 "12345678" (kK K 0) s from hG.sr 19 (q := ("GameNotation$Line", 43, "12345678", 0)) rfl) d_ln_addSquare_14 ?_
  refine lv_iload_n hx hb d_ln_addSquare_16 rfl (lv_at hl 1 rfl) ?_
  have hPc : va_P (kD K) vwCl [] _ := hP.sub [] rfl
  refine vp_callSi (va_Run.run (va_runSN (As := [.int sq]) (rest := [.ref (kK K 0), .ref Lh]) ⟨hx, hb, hml, hown, htg⟩ (c_gn_rankOf l K sq) (⟨va_cnB 1 htg (g_w q_427) rfl rfl rfl (hG.nw 45 rfl) (htg _ q_1) k_gn_rankOf ⟨Nat.le_of_ble_eq_true rfl, Nat.le_of_ble_eq_true rfl⟩, htg _ q_426, trivial⟩) ⟨ro_blind, ro_use hPc hK hG hS trivial⟩ rfl rfl hl.1 rfl (lv_room (Nat.le_of_ble_eq_true rfl)) d_ln_addSquare_17 ⟨Nat.zero_le _, Nat.zero_le _⟩)) (fun r_4 hw_4 => ?_)
  have hF := hF.trans (bnd_s hw_4.1)
  have hPc : va_P (kD K) vwCl [] _ := hP.sub [] rfl
  refine vp_callSi (va_Run.run (va_runSN (As := [.ref (kK K 0), .int r_4]) (rest := [.ref Lh]) ⟨hx, hb, hml, hown, htg⟩ (c_gn_pick l K 0 r_4) (⟨va_cnB 2 htg (g_w q_316) rfl rfl rfl (hG.nw 44 rfl) (htg _ q_1) k_gn_pick ⟨Nat.le_of_ble_eq_true rfl, Nat.le_of_ble_eq_true rfl⟩, htg _ q_315, trivial⟩) ⟨ro_blind, ro_use hPc hK hG hS ⟨(by decide), trivial⟩⟩ rfl rfl hl.1 rfl (lv_room (Nat.le_of_ble_eq_true rfl)) d_ln_addSquare_20 ⟨Nat.zero_le _, Nat.zero_le _⟩)) (fun r_5 hw_5 => ?_)
  have hF := hF.trans (bnd_s hw_5.1)
  have hn_5 := hw_5.2
  have hPc : va_P (kD K) vwCl [(Lh, .inr (1, [.ref La0, .int u_3.2])), (La0, .inl ((kC K), 100, .inl u_3.1))] _ := hP.sub [0, 1] rfl
  have hDc : va_D A [(Lh, .inr (1, [.ref La0, .int u_3.2])), (La0, .inl ((kC K), 100, .inl u_3.1))] := hD.sub [0, 1] (by decide) rfl
  have hFc := va_free (wc := [(Lh, .inr (1, [.ref La0, .int u_3.2])), (La0, .inl ((kC K), 100, .inl u_3.1))]) hD hS hA [0, 1] rfl
  refine va_callv (va_runV (As := [.int r_5]) (rest := []) ⟨hx, hb, hml, hown, htg⟩ (c_ln_add l K _ Lh La0 u_3 r_5) (cwV 1 htg (g_V q_474 q_162 q_163 q_2 (g_w q_164)) rfl rfl rfl ⟨rfl, k_ln_add⟩ ⟨Nat.le_of_ble_eq_true rfl, Nat.le_of_ble_eq_true rfl⟩) ⟨mu_blind, va_recv hK hPc (ci := 1) (q0 := 0) rfl rfl, mu_use hPc hK hDc hG hS hFc ⟨(by assumption), trivial⟩⟩ rfl rfl hl.1 rfl (lv_room (Nat.le_of_ble_eq_true rfl)) d_ln_addSquare_23 ⟨Nat.zero_le _, Nat.zero_le _⟩) hS (fun q _ h => hFc q h) hFc (fun u_6 t H1 locs ht hvm hw_6 hB hz1 hk1 hS => ?_)
  obtain ⟨hP1, hD1⟩ := hB
  rw [ht] at hP1
  obtain ⟨hP, hD⟩ := va_join (wr := []) (w1 := [(Lh, .inr (1, [.ref La0, .int u_6.2])), (La0, .inl ((kC K), 100, .inl u_6.1))]) hP hD [0, 1] [] rfl rfl (by decide) (by decide) hk1 hFc hP1 hD1
  have hP : va_P (kD K) vwCl [(Lh, .inr (1, [.ref La0, .int u_6.2])), (La0, .inl ((kC K), 100, .inl u_6.1))] H1 := hP.sub [0, 1] rfl
  have hD : va_D A [(Lh, .inr (1, [.ref La0, .int u_6.2])), (La0, .inl ((kC K), 100, .inl u_6.1))] := hD.sub [0, 1] (by decide) rfl
  generalize H1 = H at hP hS ⊢
  have hF := hF.trans (bnd_s hw_6.1)
  have ok_6_L : LnOk u_6 := hw_6.2.1
  exact W.vret hx hb hr (fun t ht hW => ⟨⟨u_6, rfl, ⟨hF, (by assumption), trivial⟩, ⟨by rw [ht]; exact hP, hD⟩⟩, hS.F ht⟩) hS.2.2 d_ln_addSquare_26
def f_ln_beginsWith_L12 (L : LnT) (T : LnT) (ct : Int32) : Nat → Int32 → Int32
  | 0, _ => 0
  | n + 1, v3 => (if T.2 ≤ v3 then (1 : Int32) else (bnd (f_ln_letter L v3) (fun r_3 => (bnd (f_ln_letter T v3) (fun r_4 => (if r_3 = r_4 then (f_ln_beginsWith_L12 L T ct  n (v3 + (1 : Int32))) else (0 : Int32)))))))
def f_ln_beginsWith (L : LnT) (T : LnT) (ct : Int32) : Int32 := (if T.2 = ct then (f_ln_beginsWith_L12 L T ct  101 (0 : Int32)) else (0 : Int32))
set_option maxHeartbeats 4000000 in
set_option maxRecDepth 100000 in
theorem c_ln_beginsWith (l : Launch) (K : KT) (Lh La0 : Nat) (L : LnT) (Th Ta0 : Nat) (T : LnT) (ct : Int32) : Met l y_ln_beginsWith w_ln_beginsWith ({ frames := 1, cells := 0, slots := 0, locals := 21 } : Room) (va_Pc [.ref Lh, .ref Th, .int ct] (fun U => pRO K [(Lh, .inr (1, [.ref La0, .int L.2])), (La0, .inl ((kC K), 100, .inl L.1)), (Th, .inr (1, [.ref Ta0, .int T.2])), (Ta0, .inl ((kC K), 100, .inl T.1))] U ∧ LnOk L ∧ LnOk T ∧ True)) (vp_Si (fun r => f_ln_beginsWith L T ct = r ∧ narrow .boolean (.int r) = .int r)) 0 0 (fun _ => False) := by
  refine Met.ofW (cc := b_ln_beginsWith) (maxL := 4) (ret := (some .boolean)) (by decide) rfl ?_
  intro p e s m args below meth c s₁ B hml hv
  obtain ⟨rfl, ⟨hP, hK, hG⟩, ok_L, ok_T, -⟩ := hv
  have hx := B.exec
  have hb := B.bytes
  have hr := B.returns
  have hts := atoms_spec (ws := w_ln_beginsWith) B.pre
  have hown : s.vm.findClass R_ln = some m.cls := findClass_of_methodNamed B.named
  have hlocks := B.notSynchronized
  have htg := fun w h => hts w (List.mem_cons_of_mem _ h)
  have hS : va_S (fun _ => False) s.heap s.heap [] := va_S.rf
  have hl := lv_entry ([.ref Lh, .ref Th, .int ct]) (n := 4) (Nat.le_of_ble_eq_true rfl)
  rw [lg_entry_eq]
  generalize (lg_sl ([.ref Lh, .ref Th, .int ct]) ++ List.replicate (4 - (lg_sl ([.ref Lh, .ref Th, .int ct])).length) Slot.unset).toArray = ls at hl ⊢
  have hl : lv_has ls 4 [(0, .ref Lh), (1, .ref Th), (2, .int ct)] := hl
  have hF := f_ln_beginsWith.eq_1 L T ct
  refine lv_aload_n hx hb d_ln_beginsWith_0 rfl (lv_at hl 1 rfl) ?_
  refine va_get (D := kD K) (ci := 1) (v := .int T.2) (C := R_ln) (T := T_ln) (N := 2) hx hb htg in_ln hown hK hP 2 rfl rfl 1 (by decide) (htg (.fieldLink R_ln 15 "GameNotation$Line" "size" "I") q_34) (fun _ h9 => h9) rfl d_ln_beginsWith_1 ?_
  refine lv_iload_n hx hb d_ln_beginsWith_4 rfl (lv_at hl 2 rfl) ?_
  refine lv_icmp_eq (tgt := 10) hx hb d_ln_beginsWith_5 (by decide) (fun c_1 => ?_) (fun c_1 => ?_)
  · have hF := hF.trans (if_pos c_1)
    refine lv_iconst (v := 0) hx hb d_ln_beginsWith_10 (by decide) ?_
    refine lv_istore_n (lv' := [(3, .int (0 : Int32)), (0, .ref Lh), (1, .ref Th), (2, .int ct)]) hx hb d_ln_beginsWith_11 rfl hl (by decide) rfl (fun ls hl => ?_)
    have loop12 : ∀ (n12 : Nat) (v3 : Int32) (ls : Array Slot), 0 ≤ v3.toInt → (100 - v3.toInt).toNat < n12 → lv_has ls 4 [(0, .ref Lh), (1, .ref Th), (2, .int ct), (3, .int v3)] → f_ln_beginsWith L T ct = f_ln_beginsWith_L12 L T ct  n12 v3 → W p l e (headSpec w_ln_beginsWith ({ frames := 1, cells := 0, slots := 0, locals := 21 } : Room)).room s m ([(.ref Lh : Value), .ref Th, .int ct].toArray) below meth c s.heap [] 0 0 (MQ below (vp_Si (fun r => f_ln_beginsWith L T ct = r ∧ narrow .boolean (.int r) = .int r)) ([(.ref Lh : Value), .ref Th, .int ct].toArray) s 0 0 ((fun _ => False))) (F0 m 12 ls []) := by
      intro n12
      induction n12 with
      | zero =>
        intro _ _ _ hz
        exact absurd hz (Nat.not_lt_zero _)
      | succ n12 ih12 =>
        intro v3 ls i0 hm hl hF
        rw [f_ln_beginsWith_L12] at hF
        refine lv_iload_n hx hb d_ln_beginsWith_12 rfl (lv_at hl 3 rfl) ?_
        refine lv_aload_n hx hb d_ln_beginsWith_13 rfl (lv_at hl 1 rfl) ?_
        refine va_get (D := kD K) (ci := 1) (v := .int T.2) (C := R_ln) (T := T_ln) (N := 2) hx hb htg in_ln hown hK hP 2 rfl rfl 1 (by decide) (htg (.fieldLink R_ln 15 "GameNotation$Line" "size" "I") q_34) (fun _ h9 => h9) rfl d_ln_beginsWith_14 ?_
        refine lv_icmp_ge (tgt := 41) hx hb d_ln_beginsWith_17 (by decide) (fun c_2 => ?_) (fun c_2 => ?_)
        · have hF := hF.trans (if_pos c_2)
          refine lv_iconst (v := 1) hx hb d_ln_beginsWith_41 (by decide) ?_
          exact W.zret (v := (1 : Int32)) hx hb hr (rfl) (fun t ht hW => ⟨_, rfl, ⟨hF, rfl⟩, ht⟩) hS.2.2 d_ln_beginsWith_42
        · have hF := hF.trans (if_neg c_2)
          refine lv_aload_n hx hb d_ln_beginsWith_20 rfl (lv_at hl 0 rfl) ?_
          refine lv_iload_n hx hb d_ln_beginsWith_21 rfl (lv_at hl 3 rfl) ?_
          have hPc : va_P (kD K) vwCl [(Lh, .inr (1, [.ref La0, .int L.2])), (La0, .inl ((kC K), 100, .inl L.1))] _ := hP.sub [0, 1] rfl
          refine vp_callSi (va_Run.run (va_runV (As := [.int v3]) (rest := []) ⟨hx, hb, hml, hown, htg⟩ (c_ln_letter l K Lh La0 L v3) (cwV 1 htg (g_V q_565 q_178 q_179 q_2 (g_w q_180)) rfl rfl rfl ⟨rfl, k_ln_letter⟩ ⟨Nat.le_of_ble_eq_true rfl, Nat.le_of_ble_eq_true rfl⟩) ⟨ro_blind, va_recv hK hPc (ci := 1) (q0 := 0) rfl rfl, ro_use hPc hK hG hS ⟨(by assumption), trivial⟩⟩ rfl rfl hl.1 rfl (lv_room (Nat.le_of_ble_eq_true rfl)) d_ln_beginsWith_22 ⟨Nat.zero_le _, Nat.zero_le _⟩)) (fun r_3 hw_3 => ?_)
          have hF := hF.trans (bnd_s hw_3.1)
          have hn_3 := hw_3.2
          refine lv_aload_n hx hb d_ln_beginsWith_25 rfl (lv_at hl 1 rfl) ?_
          refine lv_iload_n hx hb d_ln_beginsWith_26 rfl (lv_at hl 3 rfl) ?_
          have hPc : va_P (kD K) vwCl [(Th, .inr (1, [.ref Ta0, .int T.2])), (Ta0, .inl ((kC K), 100, .inl T.1))] _ := hP.sub [2, 3] rfl
          refine vp_callSi (va_Run.run (va_runV (As := [.int v3]) (rest := [.int r_3]) ⟨hx, hb, hml, hown, htg⟩ (c_ln_letter l K Th Ta0 T v3) (cwV 1 htg (g_V q_565 q_178 q_179 q_2 (g_w q_180)) rfl rfl rfl ⟨rfl, k_ln_letter⟩ ⟨Nat.le_of_ble_eq_true rfl, Nat.le_of_ble_eq_true rfl⟩) ⟨ro_blind, va_recv hK hPc (ci := 1) (q0 := 0) rfl rfl, ro_use hPc hK hG hS ⟨(by assumption), trivial⟩⟩ rfl rfl hl.1 rfl (lv_room (Nat.le_of_ble_eq_true rfl)) d_ln_beginsWith_27 ⟨Nat.zero_le _, Nat.zero_le _⟩)) (fun r_4 hw_4 => ?_)
          have hF := hF.trans (bnd_s hw_4.1)
          have hn_4 := hw_4.2
          refine lv_icmp_eq (tgt := 35) hx hb d_ln_beginsWith_30 (by decide) (fun c_5 => ?_) (fun c_5 => ?_)
          · have hF := hF.trans (if_pos c_5)
            refine lv_iinc (v := v3 + (1 : Int32)) (lv' := [(3, .int (v3 + (1 : Int32))), (0, .ref Lh), (1, .ref Th), (2, .int ct)]) hx hb d_ln_beginsWith_35 hl (k := 3) rfl rfl (by decide) rfl (fun ls hl => ?_)
            refine lv_goto (tgt := 12) hx hb d_ln_beginsWith_38 (by decide) ?_
            exact ih12  (v3 + (1 : Int32)) ls (lp_s i0 c_2) (lp_d i0 c_2 (lnok_le ok_T) hm) (lv_sub hl [1, 2, 3, 0] rfl) hF
          · have hF := hF.trans (if_neg c_5)
            refine lv_iconst (v := 0) hx hb d_ln_beginsWith_33 (by decide) ?_
            exact W.zret (v := (0 : Int32)) hx hb hr (rfl) (fun t ht hW => ⟨_, rfl, ⟨hF, rfl⟩, ht⟩) hS.2.2 d_ln_beginsWith_34
    exact loop12 101 (0 : Int32) ls (by decide) (by decide) (lv_sub hl [1, 2, 3, 0] rfl) hF
  · have hF := hF.trans (if_neg c_1)
    refine lv_iconst (v := 0) hx hb d_ln_beginsWith_8 (by decide) ?_
    exact W.zret (v := (0 : Int32)) hx hb hr (rfl) (fun t ht hW => ⟨_, rfl, ⟨hF, rfl⟩, ht⟩) hS.2.2 d_ln_beginsWith_9
def f_ln_beginsWithWord_L12 (L : LnT) (tx : Nat) (ct : Int32) : Nat → Int32 → Int32
  | 0, _ => 0
  | n + 1, v3 => (bnd (f_st_length tx) (fun r_3 => (if r_3 ≤ v3 then (1 : Int32) else (bnd (f_ln_letter L v3) (fun r_5 => (bnd (f_st_charAt tx v3) (fun r_6 => (if r_5 = r_6 then (f_ln_beginsWithWord_L12 L tx ct  n (v3 + (1 : Int32))) else (0 : Int32)))))))))
def f_ln_beginsWithWord (L : LnT) (tx : Nat) (ct : Int32) : Int32 := (bnd (f_st_length tx) (fun r_1 => (if r_1 = ct then (f_ln_beginsWithWord_L12 L tx ct  101 (0 : Int32)) else (0 : Int32))))
set_option maxHeartbeats 4000000 in
set_option maxRecDepth 100000 in
theorem c_ln_beginsWithWord (l : Launch) (K : KT) (Lh La0 : Nat) (L : LnT) (tx : Nat) (ct : Int32) : Met l y_ln_beginsWithWord w_ln_beginsWithWord ({ frames := 4, cells := 0, slots := 0, locals := 85 } : Room) (va_Pc [.ref Lh, .ref (kK K tx), .int ct] (fun U => pRO K [(Lh, .inr (1, [.ref La0, .int L.2])), (La0, .inl ((kC K), 100, .inl L.1))] U ∧ tx < nSTR ∧ LnOk L ∧ True)) (vp_Si (fun r => f_ln_beginsWithWord L tx ct = r ∧ narrow .boolean (.int r) = .int r)) 0 0 (fun _ => False) := by
  refine Met.ofW (cc := b_ln_beginsWithWord) (maxL := 4) (ret := (some .boolean)) (by decide) rfl ?_
  intro p e s m args below meth c s₁ B hml hv
  obtain ⟨rfl, ⟨hP, hK, hG⟩, h_tx, ok_L, -⟩ := hv
  have hx := B.exec
  have hb := B.bytes
  have hr := B.returns
  have hts := atoms_spec (ws := w_ln_beginsWithWord) B.pre
  have hown : s.vm.findClass R_ln = some m.cls := findClass_of_methodNamed B.named
  have hlocks := B.notSynchronized
  have htg := fun w h => hts w (List.mem_cons_of_mem _ h)
  have hS : va_S (fun _ => False) s.heap s.heap [] := va_S.rf
  have hl := lv_entry ([.ref Lh, .ref (kK K tx), .int ct]) (n := 4) (Nat.le_of_ble_eq_true rfl)
  rw [lg_entry_eq]
  generalize (lg_sl ([.ref Lh, .ref (kK K tx), .int ct]) ++ List.replicate (4 - (lg_sl ([.ref Lh, .ref (kK K tx), .int ct])).length) Slot.unset).toArray = ls at hl ⊢
  have hl : lv_has ls 4 [(0, .ref Lh), (1, .ref (kK K tx)), (2, .int ct)] := hl
  have hF := f_ln_beginsWithWord.eq_1 L tx ct
  refine lv_aload_n hx hb d_ln_beginsWithWord_0 rfl (lv_at hl 1 rfl) ?_
  have hPc : va_P (kD K) vwCl [] _ := hP.sub [] rfl
  refine vp_callSi (va_Run.run (va_runV (As := []) (rest := []) ⟨hx, hb, hml, hown, htg⟩ (c_st_length l K tx) (cwV 0 htg (g_V q_564 q_218 q_219 q_8 (g_w q_220)) rfl rfl rfl ⟨rfl, k_st_length⟩ ⟨Nat.le_of_ble_eq_true rfl, Nat.le_of_ble_eq_true rfl⟩) ⟨ro_blind, vk_recv hG.str h_tx hS, ro_use hPc hK hG hS ⟨h_tx, trivial⟩⟩ rfl rfl hl.1 rfl (lv_room (Nat.le_of_ble_eq_true rfl)) d_ln_beginsWithWord_1 ⟨Nat.zero_le _, Nat.zero_le _⟩)) (fun r_1 hw_1 => ?_)
  have hF := hF.trans (bnd_s hw_1.1)
  refine lv_iload_n hx hb d_ln_beginsWithWord_4 rfl (lv_at hl 2 rfl) ?_
  refine lv_icmp_eq (tgt := 10) hx hb d_ln_beginsWithWord_5 (by decide) (fun c_2 => ?_) (fun c_2 => ?_)
  · have hF := hF.trans (if_pos c_2)
    refine lv_iconst (v := 0) hx hb d_ln_beginsWithWord_10 (by decide) ?_
    refine lv_istore_n (lv' := [(3, .int (0 : Int32)), (0, .ref Lh), (1, .ref (kK K tx)), (2, .int ct)]) hx hb d_ln_beginsWithWord_11 rfl hl (by decide) rfl (fun ls hl => ?_)
    have loop12 : ∀ (n12 : Nat) (v3 : Int32) (ls : Array Slot), 0 ≤ v3.toInt → (100 - v3.toInt).toNat < n12 → lv_has ls 4 [(0, .ref Lh), (1, .ref (kK K tx)), (2, .int ct), (3, .int v3)] → f_ln_beginsWithWord L tx ct = f_ln_beginsWithWord_L12 L tx ct  n12 v3 → W p l e (headSpec w_ln_beginsWithWord ({ frames := 4, cells := 0, slots := 0, locals := 85 } : Room)).room s m ([(.ref Lh : Value), .ref (kK K tx), .int ct].toArray) below meth c s.heap [] 0 0 (MQ below (vp_Si (fun r => f_ln_beginsWithWord L tx ct = r ∧ narrow .boolean (.int r) = .int r)) ([(.ref Lh : Value), .ref (kK K tx), .int ct].toArray) s 0 0 ((fun _ => False))) (F0 m 12 ls []) := by
      intro n12
      induction n12 with
      | zero =>
        intro _ _ _ hz
        exact absurd hz (Nat.not_lt_zero _)
      | succ n12 ih12 =>
        intro v3 ls i0 hm hl hF
        rw [f_ln_beginsWithWord_L12] at hF
        refine lv_iload_n hx hb d_ln_beginsWithWord_12 rfl (lv_at hl 3 rfl) ?_
        refine lv_aload_n hx hb d_ln_beginsWithWord_13 rfl (lv_at hl 1 rfl) ?_
        have hPc : va_P (kD K) vwCl [] _ := hP.sub [] rfl
        refine vp_callSi (va_Run.run (va_runV (As := []) (rest := [.int v3]) ⟨hx, hb, hml, hown, htg⟩ (c_st_length l K tx) (cwV 0 htg (g_V q_564 q_218 q_219 q_8 (g_w q_220)) rfl rfl rfl ⟨rfl, k_st_length⟩ ⟨Nat.le_of_ble_eq_true rfl, Nat.le_of_ble_eq_true rfl⟩) ⟨ro_blind, vk_recv hG.str h_tx hS, ro_use hPc hK hG hS ⟨h_tx, trivial⟩⟩ rfl rfl hl.1 rfl (lv_room (Nat.le_of_ble_eq_true rfl)) d_ln_beginsWithWord_14 ⟨Nat.zero_le _, Nat.zero_le _⟩)) (fun r_3 hw_3 => ?_)
        have hF := hF.trans (bnd_s hw_3.1)
        refine lv_icmp_ge (tgt := 41) hx hb d_ln_beginsWithWord_17 (by decide) (fun c_4 => ?_) (fun c_4 => ?_)
        · have hF := hF.trans (if_pos c_4)
          refine lv_iconst (v := 1) hx hb d_ln_beginsWithWord_41 (by decide) ?_
          exact W.zret (v := (1 : Int32)) hx hb hr (rfl) (fun t ht hW => ⟨_, rfl, ⟨hF, rfl⟩, ht⟩) hS.2.2 d_ln_beginsWithWord_42
        · have hF := hF.trans (if_neg c_4)
          refine lv_aload_n hx hb d_ln_beginsWithWord_20 rfl (lv_at hl 0 rfl) ?_
          refine lv_iload_n hx hb d_ln_beginsWithWord_21 rfl (lv_at hl 3 rfl) ?_
          have hPc : va_P (kD K) vwCl [(Lh, .inr (1, [.ref La0, .int L.2])), (La0, .inl ((kC K), 100, .inl L.1))] _ := hP.sub [0, 1] rfl
          refine vp_callSi (va_Run.run (va_runV (As := [.int v3]) (rest := []) ⟨hx, hb, hml, hown, htg⟩ (c_ln_letter l K Lh La0 L v3) (cwV 1 htg (g_V q_565 q_178 q_179 q_2 (g_w q_180)) rfl rfl rfl ⟨rfl, k_ln_letter⟩ ⟨Nat.le_of_ble_eq_true rfl, Nat.le_of_ble_eq_true rfl⟩) ⟨ro_blind, va_recv hK hPc (ci := 1) (q0 := 0) rfl rfl, ro_use hPc hK hG hS ⟨(by assumption), trivial⟩⟩ rfl rfl hl.1 rfl (lv_room (Nat.le_of_ble_eq_true rfl)) d_ln_beginsWithWord_22 ⟨Nat.zero_le _, Nat.zero_le _⟩)) (fun r_5 hw_5 => ?_)
          have hF := hF.trans (bnd_s hw_5.1)
          have hn_5 := hw_5.2
          refine lv_aload_n hx hb d_ln_beginsWithWord_25 rfl (lv_at hl 1 rfl) ?_
          refine lv_iload_n hx hb d_ln_beginsWithWord_26 rfl (lv_at hl 3 rfl) ?_
          have hPc : va_P (kD K) vwCl [] _ := hP.sub [] rfl
          refine vp_callSi (va_Run.run (va_runV (As := [.int v3]) (rest := [.int r_5]) ⟨hx, hb, hml, hown, htg⟩ (c_st_charAt l K tx v3) (cwV 1 htg (g_V q_566 q_319 q_320 q_8 (g_w q_321)) rfl rfl rfl ⟨rfl, k_st_charAt⟩ ⟨Nat.le_of_ble_eq_true rfl, Nat.le_of_ble_eq_true rfl⟩) ⟨ro_blind, vk_recv hG.str h_tx hS, ro_use hPc hK hG hS ⟨h_tx, (sx_in2 h_tx i0 hw_3 c_4), trivial⟩⟩ rfl rfl hl.1 rfl (lv_room (Nat.le_of_ble_eq_true rfl)) d_ln_beginsWithWord_27 ⟨Nat.zero_le _, Nat.zero_le _⟩)) (fun r_6 hw_6 => ?_)
          have hF := hF.trans (bnd_s hw_6.1)
          have hn_6 := hw_6.2
          refine lv_icmp_eq (tgt := 35) hx hb d_ln_beginsWithWord_30 (by decide) (fun c_7 => ?_) (fun c_7 => ?_)
          · have hF := hF.trans (if_pos c_7)
            refine lv_iinc (v := v3 + (1 : Int32)) (lv' := [(3, .int (v3 + (1 : Int32))), (0, .ref Lh), (1, .ref (kK K tx)), (2, .int ct)]) hx hb d_ln_beginsWithWord_35 hl (k := 3) rfl rfl (by decide) rfl (fun ls hl => ?_)
            refine lv_goto (tgt := 12) hx hb d_ln_beginsWithWord_38 (by decide) ?_
            exact ih12  (v3 + (1 : Int32)) ls (lp_s i0 c_4) (lp_d i0 c_4 (sx_le h_tx hw_3) hm) (lv_sub hl [1, 2, 3, 0] rfl) hF
          · have hF := hF.trans (if_neg c_7)
            refine lv_iconst (v := 0) hx hb d_ln_beginsWithWord_33 (by decide) ?_
            exact W.zret (v := (0 : Int32)) hx hb hr (rfl) (fun t ht hW => ⟨_, rfl, ⟨hF, rfl⟩, ht⟩) hS.2.2 d_ln_beginsWithWord_34
    exact loop12 101 (0 : Int32) ls (by decide) (by decide) (lv_sub hl [1, 2, 3, 0] rfl) hF
  · have hF := hF.trans (if_neg c_2)
    refine lv_iconst (v := 0) hx hb d_ln_beginsWithWord_8 (by decide) ?_
    exact W.zret (v := (0 : Int32)) hx hb hr (rfl) (fun t ht hW => ⟨_, rfl, ⟨hF, rfl⟩, ht⟩) hS.2.2 d_ln_beginsWithWord_9
