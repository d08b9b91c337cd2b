set_option maxHeartbeats 1000000 in
set_option maxRecDepth 100000 in
theorem c_ln_init (l : Launch) (K : KT) (sz oh : Nat) : Met l y_ln_init w_ln_init ({ frames := 1, cells := 1, slots := 100, locals := 12 } : Room) (va_Pc [.ref oh] (fun U => pMU K [(oh, .inr (1, [.null, .int 0]))] sz U ∧ True)) (va_Qv (fun _ : Unit => True) (fun (_ : Unit) (t : State) => ∃ q7 : Nat, va_P (kD K) vwCl [(oh, .inr (1, [.ref q7, .int 0])), (q7, .inl ((kC K), 100, .inl (fun _ => 0)))] t.heap ∧ va_D (va_A [(oh, .inr (1, [.null, .int 0]))] sz) [(oh, .inr (1, [.ref q7, .int 0])), (q7, .inl ((kC K), 100, .inl (fun _ => 0)))]) (va_A [(oh, .inr (1, [.null, .int 0]))] sz)) 1 100 (va_A [(oh, .inr (1, [.null, .int 0]))] sz) := by
  refine Met.ofW (cc := b_ln_init) (maxL := 1) (ret := none) (by decide) rfl ?_
  intro p e s m args below meth c s₁ B hml hv
  obtain ⟨rfl, ⟨hsz, hP, hK, hD0, hG⟩, -⟩ := hv
  have hx := B.exec
  have hb := B.bytes
  have hr := B.returns
  have hts := atoms_spec (ws := w_ln_init) B.pre
  have hown : s.vm.findClass R_ln = some m.cls := findClass_of_methodNamed B.named
  have hlocks := B.notSynchronized
  have htg := fun w h => hts w (List.mem_cons_of_mem _ h)
  have hin : meth.name = "<init>" := (name_of_methodNamed B.named B.method).1
  subst hsz
  have hD := hD0.self (sz := s.heap.size)
  generalize hAe : va_A [(oh, .inr (1, [.null, .int 0]))] s.heap.size = A at hD hG ⊢
  have hA : ∀ q : Nat, s.heap.size ≤ q → A q := fun q h => by rw [← hAe]; exact Or.inr h
  have hS : va_S A s.heap s.heap [] := va_S.rf
  have hl := lv_entry ([.ref oh]) (n := 1) (Nat.le_of_ble_eq_true rfl)
  rw [lg_entry_eq]
  generalize (lg_sl ([.ref oh]) ++ List.replicate (1 - (lg_sl ([.ref oh])).length) Slot.unset).toArray = ls at hl ⊢
  have hl : lv_has ls 1 [(0, .ref oh)] := hl
  refine lv_aload_n hx hb d_ln_init_0 rfl (lv_at hl 0 rfl) ?_
  refine W.objInit hx hb hown (htg (.methodLink R_ln 3 objectInit) q_32) (htg (.instanceMethod objectInit) q_25) (htg _ q_26) rfl (by rw [hml]; exact hl.1) rfl d_ln_init_1 (Nat.le_of_ble_eq_true rfl) (Nat.le_of_ble_eq_true rfl) ?_
  refine W.eq (g2 := F0 m 4 ls []) rfl ?_
  refine lv_aload_n hx hb d_ln_init_4 rfl (lv_at hl 0 rfl) ?_
  refine lv_bipush (v := 100) hx hb d_ln_init_5 (by decide) ?_
  refine va_newa (atype := .char) (a0 := (100, .inl (fun _ => 0))) (N' := 100) hx hb (htg _ q_40) rfl hK hP hD hS hA (fun _ => rfl) (by decide) (by decide) (by decide) (Nat.le_of_ble_eq_true rfl) (Nat.le_of_ble_eq_true rfl) d_ln_init_7 (fun q7 cA H hK9 hP hD hS => ?_)
  obtain rfl : cA = kC K := kA_char hK hK9
  have hP : va_P (kD K) vwCl [(oh, .inr (1, [.null, .int 0])), (q7, .inl ((kC K), 100, .inl (fun _ => 0)))] _ := hP
  have hD : va_D A [(oh, .inr (1, [.null, .int 0])), (q7, .inl ((kC K), 100, .inl (fun _ => 0)))] := hD
  refine va_putF (D := kD K) (ci := 1) (v := .ref q7) (ty := (.array .char)) (C := R_ln) (T := T_ln) (N := 2) hx hb htg in_ln ty_ln ty_ln_ok nm_ln hown hK hP hD hS 0 rfl rfl 0 (by decide) (htg (.fieldLink R_ln 9 "GameNotation$Line" "letters" "[C") q_33) (fun _ h9 => h9) rfl hin rfl (by decide +kernel) rfl rfl (Nat.le_of_ble_eq_true rfl) d_ln_init_9 (fun H locs hP hD hS => ?_)
  have hP : va_P (kD K) vwCl [(oh, .inr (1, [.ref q7, .int 0])), (q7, .inl ((kC K), 100, .inl (fun _ => 0)))] _ := hP
  have hD : va_D A [(oh, .inr (1, [.ref q7, .int 0])), (q7, .inl ((kC K), 100, .inl (fun _ => 0)))] := hD
  refine W.widen (k := 1) (n := 100) (by decide) (by decide) ?_
  exact W.vret hx hb hr (fun t ht hW => ⟨⟨(), rfl, trivial, q7, by rw [ht]; exact hP, hD⟩, hS.F ht⟩) hS.2.2 d_ln_init_12
set_option maxHeartbeats 1000000 in
set_option maxRecDepth 100000 in
theorem c_ps_init (l : Launch) (K : KT) (sz oh : Nat) : Met l y_ps_init w_ps_init ({ frames := 1, cells := 1, slots := 64, locals := 12 } : Room) (va_Pc [.ref oh] (fun U => pMU K [(oh, .inr (2, [.null, .int 0, .int 0, .int 0, .int 0, .int 0]))] sz U ∧ True)) (va_Qv (fun _ : Unit => True) (fun (_ : Unit) (t : State) => ∃ q7 : Nat, va_P (kD K) vwCl [(oh, .inr (2, [.ref q7, .int 0, .int 0, .int (-1 : Int32), .int 0, .int (1 : Int32)])), (q7, .inl ((kI K), 64, .inl (fun _ => 0)))] t.heap ∧ va_D (va_A [(oh, .inr (2, [.null, .int 0, .int 0, .int 0, .int 0, .int 0]))] sz) [(oh, .inr (2, [.ref q7, .int 0, .int 0, .int (-1 : Int32), .int 0, .int (1 : Int32)])), (q7, .inl ((kI K), 64, .inl (fun _ => 0)))]) (va_A [(oh, .inr (2, [.null, .int 0, .int 0, .int 0, .int 0, .int 0]))] sz)) 1 64 (va_A [(oh, .inr (2, [.null, .int 0, .int 0, .int 0, .int 0, .int 0]))] sz) := by
  refine Met.ofW (cc := b_ps_init) (maxL := 1) (ret := none) (by decide) rfl ?_
  intro p e s m args below meth c s₁ B hml hv
  obtain ⟨rfl, ⟨hsz, hP, hK, hD0, hG⟩, -⟩ := hv
  have hx := B.exec
  have hb := B.bytes
  have hr := B.returns
  have hts := atoms_spec (ws := w_ps_init) B.pre
  have hown : s.vm.findClass R_ps = some m.cls := findClass_of_methodNamed B.named
  have hlocks := B.notSynchronized
  have htg := fun w h => hts w (List.mem_cons_of_mem _ h)
  have hin : meth.name = "<init>" := (name_of_methodNamed B.named B.method).1
  subst hsz
  have hD := hD0.self (sz := s.heap.size)
  generalize hAe : va_A [(oh, .inr (2, [.null, .int 0, .int 0, .int 0, .int 0, .int 0]))] s.heap.size = A at hD hG ⊢
  have hA : ∀ q : Nat, s.heap.size ≤ q → A q := fun q h => by rw [← hAe]; exact Or.inr h
  have hS : va_S A s.heap s.heap [] := va_S.rf
  have hl := lv_entry ([.ref oh]) (n := 1) (Nat.le_of_ble_eq_true rfl)
  rw [lg_entry_eq]
  generalize (lg_sl ([.ref oh]) ++ List.replicate (1 - (lg_sl ([.ref oh])).length) Slot.unset).toArray = ls at hl ⊢
  have hl : lv_has ls 1 [(0, .ref oh)] := hl
  refine lv_aload_n hx hb d_ps_init_0 rfl (lv_at hl 0 rfl) ?_
  refine W.objInit hx hb hown (htg (.methodLink R_ps 3 objectInit) q_98) (htg (.instanceMethod objectInit) q_25) (htg _ q_26) rfl (by rw [hml]; exact hl.1) rfl d_ps_init_1 (Nat.le_of_ble_eq_true rfl) (Nat.le_of_ble_eq_true rfl) ?_
  refine W.eq (g2 := F0 m 4 ls []) rfl ?_
  refine lv_aload_n hx hb d_ps_init_4 rfl (lv_at hl 0 rfl) ?_
  refine lv_bipush (v := 64) hx hb d_ps_init_5 (by decide) ?_
  refine va_newa (atype := .int) (a0 := (64, .inl (fun _ => 0))) (N' := 64) hx hb (htg _ q_67) rfl hK hP hD hS hA (fun _ => rfl) (by decide) (by decide) (by decide) (Nat.le_of_ble_eq_true rfl) (Nat.le_of_ble_eq_true rfl) d_ps_init_7 (fun q7 cA H hK9 hP hD hS => ?_)
  obtain rfl : cA = kI K := kA_int hK hK9
  have hP : va_P (kD K) vwCl [(oh, .inr (2, [.null, .int 0, .int 0, .int 0, .int 0, .int 0])), (q7, .inl ((kI K), 64, .inl (fun _ => 0)))] _ := hP
  have hD : va_D A [(oh, .inr (2, [.null, .int 0, .int 0, .int 0, .int 0, .int 0])), (q7, .inl ((kI K), 64, .inl (fun _ => 0)))] := hD
  refine va_putF (D := kD K) (ci := 2) (v := .ref q7) (ty := (.array .int)) (C := R_ps) (T := T_ps) (N := 6) hx hb htg in_ps ty_ps ty_ps_ok nm_ps hown hK hP hD hS 0 rfl rfl 0 (by decide) (htg (.fieldLink R_ps 9 "GameNotation$Position" "men" "[I") q_99) (fun _ h9 => h9) rfl hin rfl (by decide +kernel) rfl rfl (Nat.le_of_ble_eq_true rfl) d_ps_init_9 (fun H locs hP hD hS => ?_)
  have hP : va_P (kD K) vwCl [(oh, .inr (2, [.ref q7, .int 0, .int 0, .int 0, .int 0, .int 0])), (q7, .inl ((kI K), 64, .inl (fun _ => 0)))] _ := hP
  have hD : va_D A [(oh, .inr (2, [.ref q7, .int 0, .int 0, .int 0, .int 0, .int 0])), (q7, .inl ((kI K), 64, .inl (fun _ => 0)))] := hD
  refine lv_aload_n hx hb d_ps_init_12 rfl (lv_at hl 0 rfl) ?_
  refine lv_iconst (v := -1) hx hb d_ps_init_13 (by decide) ?_
  refine va_put (D := kD K) (ci := 2) (v := .int (-1 : Int32)) (ty := .int) (C := R_ps) (T := T_ps) (N := 6) hx hb htg in_ps ty_ps ty_ps_ok nm_ps hown hK hP hD hS 0 rfl rfl 3 (by decide) (htg (.fieldLink R_ps 15 "GameNotation$Position" "passant" "I") q_106) (fun _ h9 => h9) rfl (by decide +kernel) rfl rfl (Nat.le_of_ble_eq_true rfl) d_ps_init_14 (fun H locs hP hD hS => ?_)
  have hP : va_P (kD K) vwCl [(oh, .inr (2, [.ref q7, .int 0, .int 0, .int (-1 : Int32), .int 0, .int 0])), (q7, .inl ((kI K), 64, .inl (fun _ => 0)))] _ := hP
  have hD : va_D A [(oh, .inr (2, [.ref q7, .int 0, .int 0, .int (-1 : Int32), .int 0, .int 0])), (q7, .inl ((kI K), 64, .inl (fun _ => 0)))] := hD
  refine lv_aload_n hx hb d_ps_init_17 rfl (lv_at hl 0 rfl) ?_
  refine lv_iconst (v := 1) hx hb d_ps_init_18 (by decide) ?_
  refine va_put (D := kD K) (ci := 2) (v := .int (1 : Int32)) (ty := .int) (C := R_ps) (T := T_ps) (N := 6) hx hb htg in_ps ty_ps ty_ps_ok nm_ps hown hK hP hD hS 0 rfl rfl 5 (by decide) (htg (.fieldLink R_ps 19 "GameNotation$Position" "number" "I") q_112) (fun _ h9 => h9) rfl (by decide +kernel) rfl rfl (Nat.le_of_ble_eq_true rfl) d_ps_init_19 (fun H locs hP hD hS => ?_)
  have hP : va_P (kD K) vwCl [(oh, .inr (2, [.ref q7, .int 0, .int 0, .int (-1 : Int32), .int 0, .int (1 : Int32)])), (q7, .inl ((kI K), 64, .inl (fun _ => 0)))] _ := hP
  have hD : va_D A [(oh, .inr (2, [.ref q7, .int 0, .int 0, .int (-1 : Int32), .int 0, .int (1 : Int32)])), (q7, .inl ((kI K), 64, .inl (fun _ => 0)))] := hD
  refine W.widen (k := 1) (n := 64) (by decide) (by decide) ?_
  exact W.vret hx hb hr (fun t ht hW => ⟨⟨(), rfl, trivial, q7, by rw [ht]; exact hP, hD⟩, hS.F ht⟩) hS.2.2 d_ps_init_22
set_option maxHeartbeats 1000000 in
set_option maxRecDepth 100000 in
theorem c_rd_init (l : Launch) (K : KT) (sz oh : Nat) : Met l y_rd_init w_rd_init ({ frames := 1, cells := 0, slots := 0, locals := 12 } : Room) (va_Pc [.ref oh] (fun U => pMU K [(oh, .inr (3, [.int 0]))] sz U ∧ True)) (va_Qv (fun _ : Unit => True) (fun (_ : Unit) (t : State) => va_P (kD K) vwCl [(oh, .inr (3, [.int 0]))] t.heap ∧ va_D (va_A [(oh, .inr (3, [.int 0]))] sz) [(oh, .inr (3, [.int 0]))]) (va_A [(oh, .inr (3, [.int 0]))] sz)) 0 0 (va_A [(oh, .inr (3, [.int 0]))] sz) := by
  refine Met.ofW (cc := b_rd_init) (maxL := 1) (ret := none) (by decide) rfl ?_
  intro p e s m args below meth c s₁ B hml hv
  obtain ⟨rfl, ⟨hsz, hP, hK, hD0, hG⟩, -⟩ := hv
  have hx := B.exec
  have hb := B.bytes
  have hr := B.returns
  have hts := atoms_spec (ws := w_rd_init) B.pre
  have hown : s.vm.findClass R_rd = some m.cls := findClass_of_methodNamed B.named
  have hlocks := B.notSynchronized
  have htg := fun w h => hts w (List.mem_cons_of_mem _ h)
  have hin : meth.name = "<init>" := (name_of_methodNamed B.named B.method).1
  subst hsz
  have hD := hD0.self (sz := s.heap.size)
  generalize hAe : va_A [(oh, .inr (3, [.int 0]))] s.heap.size = A at hD hG ⊢
  have hA : ∀ q : Nat, s.heap.size ≤ q → A q := fun q h => by rw [← hAe]; exact Or.inr h
  have hS : va_S A s.heap s.heap [] := va_S.rf
  have hl := lv_entry ([.ref oh]) (n := 1) (Nat.le_of_ble_eq_true rfl)
  rw [lg_entry_eq]
  generalize (lg_sl ([.ref oh]) ++ List.replicate (1 - (lg_sl ([.ref oh])).length) Slot.unset).toArray = ls at hl ⊢
  have hl : lv_has ls 1 [(0, .ref oh)] := hl
  refine lv_aload_n hx hb d_rd_init_0 rfl (lv_at hl 0 rfl) ?_
  refine W.objInit hx hb hown (htg (.methodLink R_rd 3 objectInit) q_46) (htg (.instanceMethod objectInit) q_25) (htg _ q_26) rfl (by rw [hml]; exact hl.1) rfl d_rd_init_1 (Nat.le_of_ble_eq_true rfl) (Nat.le_of_ble_eq_true rfl) ?_
  refine W.eq (g2 := F0 m 4 ls []) rfl ?_
  refine W.widen (k := 0) (n := 0) (by decide) (by decide) ?_
  exact W.vret hx hb hr (fun t ht hW => ⟨⟨(), rfl, trivial, by rw [ht]; exact hP, hD⟩, hS.F ht⟩) hS.2.2 d_rd_init_4
set_option maxHeartbeats 1000000 in
set_option maxRecDepth 100000 in
theorem c_td_init (l : Launch) (K : KT) (sz oh : Nat) : Met l y_td_init w_td_init ({ frames := 1, cells := 2, slots := 660, locals := 12 } : Room) (va_Pc [.ref oh] (fun U => pMU K [(oh, .inr (4, [.null, .null, .int 0]))] sz U ∧ True)) (va_Qv (fun _ : Unit => True) (fun (_ : Unit) (t : State) => ∃ q8 q17 : Nat, va_P (kD K) vwCl [(oh, .inr (4, [.ref q8, .ref q17, .int 0])), (q8, .inl ((kI K), 330, .inl (fun _ => 0))), (q17, .inl ((kI K), 330, .inl (fun _ => 0)))] t.heap ∧ va_D (va_A [(oh, .inr (4, [.null, .null, .int 0]))] sz) [(oh, .inr (4, [.ref q8, .ref q17, .int 0])), (q8, .inl ((kI K), 330, .inl (fun _ => 0))), (q17, .inl ((kI K), 330, .inl (fun _ => 0)))]) (va_A [(oh, .inr (4, [.null, .null, .int 0]))] sz)) 2 660 (va_A [(oh, .inr (4, [.null, .null, .int 0]))] sz) := by
  refine Met.ofW (cc := b_td_init) (maxL := 1) (ret := none) (by decide) rfl ?_
  intro p e s m args below meth c s₁ B hml hv
  obtain ⟨rfl, ⟨hsz, hP, hK, hD0, hG⟩, -⟩ := hv
  have hx := B.exec
  have hb := B.bytes
  have hr := B.returns
  have hts := atoms_spec (ws := w_td_init) B.pre
  have hown : s.vm.findClass R_td = some m.cls := findClass_of_methodNamed B.named
  have hlocks := B.notSynchronized
  have htg := fun w h => hts w (List.mem_cons_of_mem _ h)
  have hin : meth.name = "<init>" := (name_of_methodNamed B.named B.method).1
  subst hsz
  have hD := hD0.self (sz := s.heap.size)
  generalize hAe : va_A [(oh, .inr (4, [.null, .null, .int 0]))] s.heap.size = A at hD hG ⊢
  have hA : ∀ q : Nat, s.heap.size ≤ q → A q := fun q h => by rw [← hAe]; exact Or.inr h
  have hS : va_S A s.heap s.heap [] := va_S.rf
  have hl := lv_entry ([.ref oh]) (n := 1) (Nat.le_of_ble_eq_true rfl)
  rw [lg_entry_eq]
  generalize (lg_sl ([.ref oh]) ++ List.replicate (1 - (lg_sl ([.ref oh])).length) Slot.unset).toArray = ls at hl ⊢
  have hl : lv_has ls 1 [(0, .ref oh)] := hl
  refine lv_aload_n hx hb d_td_init_0 rfl (lv_at hl 0 rfl) ?_
  refine W.objInit hx hb hown (htg (.methodLink R_td 3 objectInit) q_56) (htg (.instanceMethod objectInit) q_25) (htg _ q_26) rfl (by rw [hml]; exact hl.1) rfl d_td_init_1 (Nat.le_of_ble_eq_true rfl) (Nat.le_of_ble_eq_true rfl) ?_
  refine W.eq (g2 := F0 m 4 ls []) rfl ?_
  refine lv_aload_n hx hb d_td_init_4 rfl (lv_at hl 0 rfl) ?_
  refine lv_sipush (v := 330) hx hb d_td_init_5 (by decide) ?_
  refine va_newa (atype := .int) (a0 := (330, .inl (fun _ => 0))) (N' := 330) hx hb (htg _ q_67) rfl hK hP hD hS hA (fun _ => rfl) (by decide) (by decide) (by decide) (Nat.le_of_ble_eq_true rfl) (Nat.le_of_ble_eq_true rfl) d_td_init_8 (fun q8 cA H hK9 hP hD hS => ?_)
  obtain rfl : cA = kI K := kA_int hK hK9
  have hP : va_P (kD K) vwCl [(oh, .inr (4, [.null, .null, .int 0])), (q8, .inl ((kI K), 330, .inl (fun _ => 0)))] _ := hP
  have hD : va_D A [(oh, .inr (4, [.null, .null, .int 0])), (q8, .inl ((kI K), 330, .inl (fun _ => 0)))] := hD
  refine va_putF (D := kD K) (ci := 4) (v := .ref q8) (ty := (.array .int)) (C := R_td) (T := T_td) (N := 3) hx hb htg in_td ty_td ty_td_ok nm_td hown hK hP hD hS 0 rfl rfl 0 (by decide) (htg (.fieldLink R_td 9 "GameNotation$Told" "moves" "[I") q_57) (fun _ h9 => h9) rfl hin rfl (by decide +kernel) rfl rfl (Nat.le_of_ble_eq_true rfl) d_td_init_10 (fun H locs hP hD hS => ?_)
  have hP : va_P (kD K) vwCl [(oh, .inr (4, [.ref q8, .null, .int 0])), (q8, .inl ((kI K), 330, .inl (fun _ => 0)))] _ := hP
  have hD : va_D A [(oh, .inr (4, [.ref q8, .null, .int 0])), (q8, .inl ((kI K), 330, .inl (fun _ => 0)))] := hD
  refine lv_aload_n hx hb d_td_init_13 rfl (lv_at hl 0 rfl) ?_
  refine lv_sipush (v := 330) hx hb d_td_init_14 (by decide) ?_
  refine va_newa (atype := .int) (a0 := (330, .inl (fun _ => 0))) (N' := 330) hx hb (htg _ q_67) rfl hK hP hD hS hA (fun _ => rfl) (by decide) (by decide) (by decide) (Nat.le_of_ble_eq_true rfl) (Nat.le_of_ble_eq_true rfl) d_td_init_17 (fun q17 cA H hK9 hP hD hS => ?_)
  obtain rfl : cA = kI K := kA_int hK hK9
  have hP : va_P (kD K) vwCl [(oh, .inr (4, [.ref q8, .null, .int 0])), (q8, .inl ((kI K), 330, .inl (fun _ => 0))), (q17, .inl ((kI K), 330, .inl (fun _ => 0)))] _ := hP
  have hD : va_D A [(oh, .inr (4, [.ref q8, .null, .int 0])), (q8, .inl ((kI K), 330, .inl (fun _ => 0))), (q17, .inl ((kI K), 330, .inl (fun _ => 0)))] := hD
  refine va_putF (D := kD K) (ci := 4) (v := .ref q17) (ty := (.array .int)) (C := R_td) (T := T_td) (N := 3) hx hb htg in_td ty_td ty_td_ok nm_td hown hK hP hD hS 0 rfl rfl 1 (by decide) (htg (.fieldLink R_td 15 "GameNotation$Told" "signs" "[I") q_58) (fun _ h9 => h9) rfl hin rfl (by decide +kernel) rfl rfl (Nat.le_of_ble_eq_true rfl) d_td_init_19 (fun H locs hP hD hS => ?_)
  have hP : va_P (kD K) vwCl [(oh, .inr (4, [.ref q8, .ref q17, .int 0])), (q8, .inl ((kI K), 330, .inl (fun _ => 0))), (q17, .inl ((kI K), 330, .inl (fun _ => 0)))] _ := hP
  have hD : va_D A [(oh, .inr (4, [.ref q8, .ref q17, .int 0])), (q8, .inl ((kI K), 330, .inl (fun _ => 0))), (q17, .inl ((kI K), 330, .inl (fun _ => 0)))] := hD
  refine W.widen (k := 2) (n := 660) (by decide) (by decide) ?_
  exact W.vret hx hb hr (fun t ht hW => ⟨⟨(), rfl, trivial, q8, q17, by rw [ht]; exact hP, hD⟩, hS.F ht⟩) hS.2.2 d_td_init_22
set_option maxHeartbeats 1000000 in
set_option maxRecDepth 100000 in
theorem c_fm_init (l : Launch) (K : KT) (sz oh : Nat) : Met l y_fm_init w_fm_init ({ frames := 1, cells := 0, slots := 0, locals := 12 } : Room) (va_Pc [.ref oh] (fun U => pMU K [(oh, .inr (0, [.int 0, .int 0, .int 0, .int 0, .int 0, .int 0]))] sz U ∧ True)) (va_Qv (fun _ : Unit => True) (fun (_ : Unit) (t : State) => va_P (kD K) vwCl [(oh, .inr (0, [.int 0, .int 0, .int 0, .int 0, .int 0, .int 0]))] t.heap ∧ va_D (va_A [(oh, .inr (0, [.int 0, .int 0, .int 0, .int 0, .int 0, .int 0]))] sz) [(oh, .inr (0, [.int 0, .int 0, .int 0, .int 0, .int 0, .int 0]))]) (va_A [(oh, .inr (0, [.int 0, .int 0, .int 0, .int 0, .int 0, .int 0]))] sz)) 0 0 (va_A [(oh, .inr (0, [.int 0, .int 0, .int 0, .int 0, .int 0, .int 0]))] sz) := by
  refine Met.ofW (cc := b_fm_init) (maxL := 1) (ret := none) (by decide) rfl ?_
  intro p e s m args below meth c s₁ B hml hv
  obtain ⟨rfl, ⟨hsz, hP, hK, hD0, hG⟩, -⟩ := hv
  have hx := B.exec
  have hb := B.bytes
  have hr := B.returns
  have hts := atoms_spec (ws := w_fm_init) B.pre
  have hown : s.vm.findClass R_fm = some m.cls := findClass_of_methodNamed B.named
  have hlocks := B.notSynchronized
  have htg := fun w h => hts w (List.mem_cons_of_mem _ h)
  have hin : meth.name = "<init>" := (name_of_methodNamed B.named B.method).1
  subst hsz
  have hD := hD0.self (sz := s.heap.size)
  generalize hAe : va_A [(oh, .inr (0, [.int 0, .int 0, .int 0, .int 0, .int 0, .int 0]))] s.heap.size = A at hD hG ⊢
  have hA : ∀ q : Nat, s.heap.size ≤ q → A q := fun q h => by rw [← hAe]; exact Or.inr h
  have hS : va_S A s.heap s.heap [] := va_S.rf
  have hl := lv_entry ([.ref oh]) (n := 1) (Nat.le_of_ble_eq_true rfl)
  rw [lg_entry_eq]
  generalize (lg_sl ([.ref oh]) ++ List.replicate (1 - (lg_sl ([.ref oh])).length) Slot.unset).toArray = ls at hl ⊢
  have hl : lv_has ls 1 [(0, .ref oh)] := hl
  refine lv_aload_n hx hb d_fm_init_0 rfl (lv_at hl 0 rfl) ?_
  refine W.objInit hx hb hown (htg (.methodLink R_fm 3 objectInit) q_73) (htg (.instanceMethod objectInit) q_25) (htg _ q_26) rfl (by rw [hml]; exact hl.1) rfl d_fm_init_1 (Nat.le_of_ble_eq_true rfl) (Nat.le_of_ble_eq_true rfl) ?_
  refine W.eq (g2 := F0 m 4 ls []) rfl ?_
  refine W.widen (k := 0) (n := 0) (by decide) (by decide) ?_
  exact W.vret hx hb hr (fun t ht hW => ⟨⟨(), rfl, trivial, by rw [ht]; exact hP, hD⟩, hS.F ht⟩) hS.2.2 d_fm_init_4
set_option maxHeartbeats 1000000 in
set_option maxRecDepth 100000 in
theorem c_md_init (l : Launch) (K : KT) (sz oh : Nat) : Met l y_md_init w_md_init ({ frames := 1, cells := 6, slots := 904, locals := 12 } : Room) (va_Pc [.ref oh] (fun U => pMU K [(oh, .inr (6, [.int 0, .null, .int 0, .int 0, .int 0, .int 0, .int 0, .null, .int 0, .int 0, .null, .null, .int 0, .null, .int 0, .int 0, .int 0, .int 0, .int 0, .null, .int 0]))] sz U ∧ True)) (va_Qv (fun _ : Unit => True) (fun (_ : Unit) (t : State) => ∃ q7 q25 q34 q43 q51 q59 : Nat, va_P (kD K) vwCl [(oh, .inr (6, [.int 0, .ref q7, .int 0, .int 0, .int (-1 : Int32), .int 0, .int (1 : Int32), .ref q25, .int 0, .int 0, .ref q34, .ref q43, .int 0, .ref q51, .int 0, .int 0, .int 0, .int 0, .int 0, .ref q59, .int 0])), (q7, .inl ((kI K), 64, .inl (fun _ => 0))), (q25, .inl ((kI K), 100, .inl (fun _ => 0))), (q34, .inl ((kI K), 330, .inl (fun _ => 0))), (q43, .inl ((kI K), 330, .inl (fun _ => 0))), (q51, .inl ((kI K), 64, .inl (fun _ => 0))), (q59, .inl ((kI K), 16, .inl (fun _ => 0)))] t.heap ∧ va_D (va_A [(oh, .inr (6, [.int 0, .null, .int 0, .int 0, .int 0, .int 0, .int 0, .null, .int 0, .int 0, .null, .null, .int 0, .null, .int 0, .int 0, .int 0, .int 0, .int 0, .null, .int 0]))] sz) [(oh, .inr (6, [.int 0, .ref q7, .int 0, .int 0, .int (-1 : Int32), .int 0, .int (1 : Int32), .ref q25, .int 0, .int 0, .ref q34, .ref q43, .int 0, .ref q51, .int 0, .int 0, .int 0, .int 0, .int 0, .ref q59, .int 0])), (q7, .inl ((kI K), 64, .inl (fun _ => 0))), (q25, .inl ((kI K), 100, .inl (fun _ => 0))), (q34, .inl ((kI K), 330, .inl (fun _ => 0))), (q43, .inl ((kI K), 330, .inl (fun _ => 0))), (q51, .inl ((kI K), 64, .inl (fun _ => 0))), (q59, .inl ((kI K), 16, .inl (fun _ => 0)))]) (va_A [(oh, .inr (6, [.int 0, .null, .int 0, .int 0, .int 0, .int 0, .int 0, .null, .int 0, .int 0, .null, .null, .int 0, .null, .int 0, .int 0, .int 0, .int 0, .int 0, .null, .int 0]))] sz)) 6 904 (va_A [(oh, .inr (6, [.int 0, .null, .int 0, .int 0, .int 0, .int 0, .int 0, .null, .int 0, .int 0, .null, .null, .int 0, .null, .int 0, .int 0, .int 0, .int 0, .int 0, .null, .int 0]))] sz) := by
  refine Met.ofW (cc := b_md_init) (maxL := 1) (ret := none) (by decide) rfl ?_
  intro p e s m args below meth c s₁ B hml hv
  obtain ⟨rfl, ⟨hsz, hP, hK, hD0, hG⟩, -⟩ := hv
  have hx := B.exec
  have hb := B.bytes
  have hr := B.returns
  have hts := atoms_spec (ws := w_md_init) B.pre
  have hown : s.vm.findClass R_md = some m.cls := findClass_of_methodNamed B.named
  have hlocks := B.notSynchronized
  have htg := fun w h => hts w (List.mem_cons_of_mem _ h)
  have hin : meth.name = "<init>" := (name_of_methodNamed B.named B.method).1
  subst hsz
  have hD := hD0.self (sz := s.heap.size)
  generalize hAe : va_A [(oh, .inr (6, [.int 0, .null, .int 0, .int 0, .int 0, .int 0, .int 0, .null, .int 0, .int 0, .null, .null, .int 0, .null, .int 0, .int 0, .int 0, .int 0, .int 0, .null, .int 0]))] s.heap.size = A at hD hG ⊢
  have hA : ∀ q : Nat, s.heap.size ≤ q → A q := fun q h => by rw [← hAe]; exact Or.inr h
  have hS : va_S A s.heap s.heap [] := va_S.rf
  have hl := lv_entry ([.ref oh]) (n := 1) (Nat.le_of_ble_eq_true rfl)
  rw [lg_entry_eq]
  generalize (lg_sl ([.ref oh]) ++ List.replicate (1 - (lg_sl ([.ref oh])).length) Slot.unset).toArray = ls at hl ⊢
  have hl : lv_has ls 1 [(0, .ref oh)] := hl
  refine lv_aload_n hx hb d_md_init_0 rfl (lv_at hl 0 rfl) ?_
  refine W.objInit hx hb hown (htg (.methodLink R_md 1 objectInit) q_793) (htg (.instanceMethod objectInit) q_25) (htg _ q_26) rfl (by rw [hml]; exact hl.1) rfl d_md_init_1 (Nat.le_of_ble_eq_true rfl) (Nat.le_of_ble_eq_true rfl) ?_
  refine W.eq (g2 := F0 m 4 ls []) rfl ?_
  refine lv_aload_n hx hb d_md_init_4 rfl (lv_at hl 0 rfl) ?_
  refine lv_bipush (v := 64) hx hb d_md_init_5 (by decide) ?_
  refine va_newa (atype := .int) (a0 := (64, .inl (fun _ => 0))) (N' := 64) hx hb (htg _ q_67) rfl hK hP hD hS hA (fun _ => rfl) (by decide) (by decide) (by decide) (Nat.le_of_ble_eq_true rfl) (Nat.le_of_ble_eq_true rfl) d_md_init_7 (fun q7 cA H hK9 hP hD hS => ?_)
  obtain rfl : cA = kI K := kA_int hK hK9
  have hP : va_P (kD K) vwCl [(oh, .inr (6, [.int 0, .null, .int 0, .int 0, .int 0, .int 0, .int 0, .null, .int 0, .int 0, .null, .null, .int 0, .null, .int 0, .int 0, .int 0, .int 0, .int 0, .null, .int 0])), (q7, .inl ((kI K), 64, .inl (fun _ => 0)))] _ := hP
  have hD : va_D A [(oh, .inr (6, [.int 0, .null, .int 0, .int 0, .int 0, .int 0, .int 0, .null, .int 0, .int 0, .null, .null, .int 0, .null, .int 0, .int 0, .int 0, .int 0, .int 0, .null, .int 0])), (q7, .inl ((kI K), 64, .inl (fun _ => 0)))] := hD
  refine va_putF (D := kD K) (ci := 6) (v := .ref q7) (ty := (.array .int)) (C := R_md) (T := T_md) (N := 21) hx hb htg in_md ty_md ty_md_ok nm_md hown hK hP hD hS 0 rfl rfl 1 (by decide) (htg (.fieldLink R_md 7 "GameNotationModel" "board" "[I") q_795) (fun _ h9 => h9) rfl hin rfl (by decide +kernel) rfl rfl (Nat.le_of_ble_eq_true rfl) d_md_init_9 (fun H locs hP hD hS => ?_)
  have hP : va_P (kD K) vwCl [(oh, .inr (6, [.int 0, .ref q7, .int 0, .int 0, .int 0, .int 0, .int 0, .null, .int 0, .int 0, .null, .null, .int 0, .null, .int 0, .int 0, .int 0, .int 0, .int 0, .null, .int 0])), (q7, .inl ((kI K), 64, .inl (fun _ => 0)))] _ := hP
  have hD : va_D A [(oh, .inr (6, [.int 0, .ref q7, .int 0, .int 0, .int 0, .int 0, .int 0, .null, .int 0, .int 0, .null, .null, .int 0, .null, .int 0, .int 0, .int 0, .int 0, .int 0, .null, .int 0])), (q7, .inl ((kI K), 64, .inl (fun _ => 0)))] := hD
  refine lv_aload_n hx hb d_md_init_12 rfl (lv_at hl 0 rfl) ?_
  refine lv_iconst (v := -1) hx hb d_md_init_13 (by decide) ?_
  refine va_put (D := kD K) (ci := 6) (v := .int (-1 : Int32)) (ty := .int) (C := R_md) (T := T_md) (N := 21) hx hb htg in_md ty_md ty_md_ok nm_md hown hK hP hD hS 0 rfl rfl 4 (by decide) (htg (.fieldLink R_md 13 "GameNotationModel" "passant" "I") q_798) (fun _ h9 => h9) rfl (by decide +kernel) rfl rfl (Nat.le_of_ble_eq_true rfl) d_md_init_14 (fun H locs hP hD hS => ?_)
  have hP : va_P (kD K) vwCl [(oh, .inr (6, [.int 0, .ref q7, .int 0, .int 0, .int (-1 : Int32), .int 0, .int 0, .null, .int 0, .int 0, .null, .null, .int 0, .null, .int 0, .int 0, .int 0, .int 0, .int 0, .null, .int 0])), (q7, .inl ((kI K), 64, .inl (fun _ => 0)))] _ := hP
  have hD : va_D A [(oh, .inr (6, [.int 0, .ref q7, .int 0, .int 0, .int (-1 : Int32), .int 0, .int 0, .null, .int 0, .int 0, .null, .null, .int 0, .null, .int 0, .int 0, .int 0, .int 0, .int 0, .null, .int 0])), (q7, .inl ((kI K), 64, .inl (fun _ => 0)))] := hD
  refine lv_aload_n hx hb d_md_init_17 rfl (lv_at hl 0 rfl) ?_
  refine lv_iconst (v := 1) hx hb d_md_init_18 (by decide) ?_
  refine va_put (D := kD K) (ci := 6) (v := .int (1 : Int32)) (ty := .int) (C := R_md) (T := T_md) (N := 21) hx hb htg in_md ty_md ty_md_ok nm_md hown hK hP hD hS 0 rfl rfl 6 (by decide) (htg (.fieldLink R_md 17 "GameNotationModel" "number" "I") q_800) (fun _ h9 => h9) rfl (by decide +kernel) rfl rfl (Nat.le_of_ble_eq_true rfl) d_md_init_19 (fun H locs hP hD hS => ?_)
  have hP : va_P (kD K) vwCl [(oh, .inr (6, [.int 0, .ref q7, .int 0, .int 0, .int (-1 : Int32), .int 0, .int (1 : Int32), .null, .int 0, .int 0, .null, .null, .int 0, .null, .int 0, .int 0, .int 0, .int 0, .int 0, .null, .int 0])), (q7, .inl ((kI K), 64, .inl (fun _ => 0)))] _ := hP
  have hD : va_D A [(oh, .inr (6, [.int 0, .ref q7, .int 0, .int 0, .int (-1 : Int32), .int 0, .int (1 : Int32), .null, .int 0, .int 0, .null, .null, .int 0, .null, .int 0, .int 0, .int 0, .int 0, .int 0, .null, .int 0])), (q7, .inl ((kI K), 64, .inl (fun _ => 0)))] := hD
  refine lv_aload_n hx hb d_md_init_22 rfl (lv_at hl 0 rfl) ?_
  refine lv_bipush (v := 100) hx hb d_md_init_23 (by decide) ?_
  refine va_newa (atype := .int) (a0 := (100, .inl (fun _ => 0))) (N' := 100) hx hb (htg _ q_67) rfl hK hP hD hS hA (fun _ => rfl) (by decide) (by decide) (by decide) (Nat.le_of_ble_eq_true rfl) (Nat.le_of_ble_eq_true rfl) d_md_init_25 (fun q25 cA H hK9 hP hD hS => ?_)
  obtain rfl : cA = kI K := kA_int hK hK9
  have hP : va_P (kD K) vwCl [(oh, .inr (6, [.int 0, .ref q7, .int 0, .int 0, .int (-1 : Int32), .int 0, .int (1 : Int32), .null, .int 0, .int 0, .null, .null, .int 0, .null, .int 0, .int 0, .int 0, .int 0, .int 0, .null, .int 0])), (q7, .inl ((kI K), 64, .inl (fun _ => 0))), (q25, .inl ((kI K), 100, .inl (fun _ => 0)))] _ := hP
  have hD : va_D A [(oh, .inr (6, [.int 0, .ref q7, .int 0, .int 0, .int (-1 : Int32), .int 0, .int (1 : Int32), .null, .int 0, .int 0, .null, .null, .int 0, .null, .int 0, .int 0, .int 0, .int 0, .int 0, .null, .int 0])), (q7, .inl ((kI K), 64, .inl (fun _ => 0))), (q25, .inl ((kI K), 100, .inl (fun _ => 0)))] := hD
  refine va_putF (D := kD K) (ci := 6) (v := .ref q25) (ty := (.array .int)) (C := R_md) (T := T_md) (N := 21) hx hb htg in_md ty_md ty_md_ok nm_md hown hK hP hD hS 0 rfl rfl 7 (by decide) (htg (.fieldLink R_md 20 "GameNotationModel" "text" "[I") q_801) (fun _ h9 => h9) rfl hin rfl (by decide +kernel) rfl rfl (Nat.le_of_ble_eq_true rfl) d_md_init_27 (fun H locs hP hD hS => ?_)
  have hP : va_P (kD K) vwCl [(oh, .inr (6, [.int 0, .ref q7, .int 0, .int 0, .int (-1 : Int32), .int 0, .int (1 : Int32), .ref q25, .int 0, .int 0, .null, .null, .int 0, .null, .int 0, .int 0, .int 0, .int 0, .int 0, .null, .int 0])), (q7, .inl ((kI K), 64, .inl (fun _ => 0))), (q25, .inl ((kI K), 100, .inl (fun _ => 0)))] _ := hP
  have hD : va_D A [(oh, .inr (6, [.int 0, .ref q7, .int 0, .int 0, .int (-1 : Int32), .int 0, .int (1 : Int32), .ref q25, .int 0, .int 0, .null, .null, .int 0, .null, .int 0, .int 0, .int 0, .int 0, .int 0, .null, .int 0])), (q7, .inl ((kI K), 64, .inl (fun _ => 0))), (q25, .inl ((kI K), 100, .inl (fun _ => 0)))] := hD
  refine lv_aload_n hx hb d_md_init_30 rfl (lv_at hl 0 rfl) ?_
  refine lv_sipush (v := 330) hx hb d_md_init_31 (by decide) ?_
  refine va_newa (atype := .int) (a0 := (330, .inl (fun _ => 0))) (N' := 330) hx hb (htg _ q_67) rfl hK hP hD hS hA (fun _ => rfl) (by decide) (by decide) (by decide) (Nat.le_of_ble_eq_true rfl) (Nat.le_of_ble_eq_true rfl) d_md_init_34 (fun q34 cA H hK9 hP hD hS => ?_)
  obtain rfl : cA = kI K := kA_int hK hK9
  have hP : va_P (kD K) vwCl [(oh, .inr (6, [.int 0, .ref q7, .int 0, .int 0, .int (-1 : Int32), .int 0, .int (1 : Int32), .ref q25, .int 0, .int 0, .null, .null, .int 0, .null, .int 0, .int 0, .int 0, .int 0, .int 0, .null, .int 0])), (q7, .inl ((kI K), 64, .inl (fun _ => 0))), (q25, .inl ((kI K), 100, .inl (fun _ => 0))), (q34, .inl ((kI K), 330, .inl (fun _ => 0)))] _ := hP
  have hD : va_D A [(oh, .inr (6, [.int 0, .ref q7, .int 0, .int 0, .int (-1 : Int32), .int 0, .int (1 : Int32), .ref q25, .int 0, .int 0, .null, .null, .int 0, .null, .int 0, .int 0, .int 0, .int 0, .int 0, .null, .int 0])), (q7, .inl ((kI K), 64, .inl (fun _ => 0))), (q25, .inl ((kI K), 100, .inl (fun _ => 0))), (q34, .inl ((kI K), 330, .inl (fun _ => 0)))] := hD
  refine va_putF (D := kD K) (ci := 6) (v := .ref q34) (ty := (.array .int)) (C := R_md) (T := T_md) (N := 21) hx hb htg in_md ty_md ty_md_ok nm_md hown hK hP hD hS 0 rfl rfl 10 (by decide) (htg (.fieldLink R_md 23 "GameNotationModel" "moves" "[I") q_804) (fun _ h9 => h9) rfl hin rfl (by decide +kernel) rfl rfl (Nat.le_of_ble_eq_true rfl) d_md_init_36 (fun H locs hP hD hS => ?_)
  have hP : va_P (kD K) vwCl [(oh, .inr (6, [.int 0, .ref q7, .int 0, .int 0, .int (-1 : Int32), .int 0, .int (1 : Int32), .ref q25, .int 0, .int 0, .ref q34, .null, .int 0, .null, .int 0, .int 0, .int 0, .int 0, .int 0, .null, .int 0])), (q7, .inl ((kI K), 64, .inl (fun _ => 0))), (q25, .inl ((kI K), 100, .inl (fun _ => 0))), (q34, .inl ((kI K), 330, .inl (fun _ => 0)))] _ := hP
  have hD : va_D A [(oh, .inr (6, [.int 0, .ref q7, .int 0, .int 0, .int (-1 : Int32), .int 0, .int (1 : Int32), .ref q25, .int 0, .int 0, .ref q34, .null, .int 0, .null, .int 0, .int 0, .int 0, .int 0, .int 0, .null, .int 0])), (q7, .inl ((kI K), 64, .inl (fun _ => 0))), (q25, .inl ((kI K), 100, .inl (fun _ => 0))), (q34, .inl ((kI K), 330, .inl (fun _ => 0)))] := hD
  refine lv_aload_n hx hb d_md_init_39 rfl (lv_at hl 0 rfl) ?_
  refine lv_sipush (v := 330) hx hb d_md_init_40 (by decide) ?_
  refine va_newa (atype := .int) (a0 := (330, .inl (fun _ => 0))) (N' := 330) hx hb (htg _ q_67) rfl hK hP hD hS hA (fun _ => rfl) (by decide) (by decide) (by decide) (Nat.le_of_ble_eq_true rfl) (Nat.le_of_ble_eq_true rfl) d_md_init_43 (fun q43 cA H hK9 hP hD hS => ?_)
  obtain rfl : cA = kI K := kA_int hK hK9
  have hP : va_P (kD K) vwCl [(oh, .inr (6, [.int 0, .ref q7, .int 0, .int 0, .int (-1 : Int32), .int 0, .int (1 : Int32), .ref q25, .int 0, .int 0, .ref q34, .null, .int 0, .null, .int 0, .int 0, .int 0, .int 0, .int 0, .null, .int 0])), (q7, .inl ((kI K), 64, .inl (fun _ => 0))), (q25, .inl ((kI K), 100, .inl (fun _ => 0))), (q34, .inl ((kI K), 330, .inl (fun _ => 0))), (q43, .inl ((kI K), 330, .inl (fun _ => 0)))] _ := hP
  have hD : va_D A [(oh, .inr (6, [.int 0, .ref q7, .int 0, .int 0, .int (-1 : Int32), .int 0, .int (1 : Int32), .ref q25, .int 0, .int 0, .ref q34, .null, .int 0, .null, .int 0, .int 0, .int 0, .int 0, .int 0, .null, .int 0])), (q7, .inl ((kI K), 64, .inl (fun _ => 0))), (q25, .inl ((kI K), 100, .inl (fun _ => 0))), (q34, .inl ((kI K), 330, .inl (fun _ => 0))), (q43, .inl ((kI K), 330, .inl (fun _ => 0)))] := hD
  refine va_putF (D := kD K) (ci := 6) (v := .ref q43) (ty := (.array .int)) (C := R_md) (T := T_md) (N := 21) hx hb htg in_md ty_md ty_md_ok nm_md hown hK hP hD hS 0 rfl rfl 11 (by decide) (htg (.fieldLink R_md 26 "GameNotationModel" "signs" "[I") q_805) (fun _ h9 => h9) rfl hin rfl (by decide +kernel) rfl rfl (Nat.le_of_ble_eq_true rfl) d_md_init_45 (fun H locs hP hD hS => ?_)
  have hP : va_P (kD K) vwCl [(oh, .inr (6, [.int 0, .ref q7, .int 0, .int 0, .int (-1 : Int32), .int 0, .int (1 : Int32), .ref q25, .int 0, .int 0, .ref q34, .ref q43, .int 0, .null, .int 0, .int 0, .int 0, .int 0, .int 0, .null, .int 0])), (q7, .inl ((kI K), 64, .inl (fun _ => 0))), (q25, .inl ((kI K), 100, .inl (fun _ => 0))), (q34, .inl ((kI K), 330, .inl (fun _ => 0))), (q43, .inl ((kI K), 330, .inl (fun _ => 0)))] _ := hP
  have hD : va_D A [(oh, .inr (6, [.int 0, .ref q7, .int 0, .int 0, .int (-1 : Int32), .int 0, .int (1 : Int32), .ref q25, .int 0, .int 0, .ref q34, .ref q43, .int 0, .null, .int 0, .int 0, .int 0, .int 0, .int 0, .null, .int 0])), (q7, .inl ((kI K), 64, .inl (fun _ => 0))), (q25, .inl ((kI K), 100, .inl (fun _ => 0))), (q34, .inl ((kI K), 330, .inl (fun _ => 0))), (q43, .inl ((kI K), 330, .inl (fun _ => 0)))] := hD
  refine lv_aload_n hx hb d_md_init_48 rfl (lv_at hl 0 rfl) ?_
  refine lv_bipush (v := 64) hx hb d_md_init_49 (by decide) ?_
  refine va_newa (atype := .int) (a0 := (64, .inl (fun _ => 0))) (N' := 64) hx hb (htg _ q_67) rfl hK hP hD hS hA (fun _ => rfl) (by decide) (by decide) (by decide) (Nat.le_of_ble_eq_true rfl) (Nat.le_of_ble_eq_true rfl) d_md_init_51 (fun q51 cA H hK9 hP hD hS => ?_)
  obtain rfl : cA = kI K := kA_int hK hK9
  have hP : va_P (kD K) vwCl [(oh, .inr (6, [.int 0, .ref q7, .int 0, .int 0, .int (-1 : Int32), .int 0, .int (1 : Int32), .ref q25, .int 0, .int 0, .ref q34, .ref q43, .int 0, .null, .int 0, .int 0, .int 0, .int 0, .int 0, .null, .int 0])), (q7, .inl ((kI K), 64, .inl (fun _ => 0))), (q25, .inl ((kI K), 100, .inl (fun _ => 0))), (q34, .inl ((kI K), 330, .inl (fun _ => 0))), (q43, .inl ((kI K), 330, .inl (fun _ => 0))), (q51, .inl ((kI K), 64, .inl (fun _ => 0)))] _ := hP
  have hD : va_D A [(oh, .inr (6, [.int 0, .ref q7, .int 0, .int 0, .int (-1 : Int32), .int 0, .int (1 : Int32), .ref q25, .int 0, .int 0, .ref q34, .ref q43, .int 0, .null, .int 0, .int 0, .int 0, .int 0, .int 0, .null, .int 0])), (q7, .inl ((kI K), 64, .inl (fun _ => 0))), (q25, .inl ((kI K), 100, .inl (fun _ => 0))), (q34, .inl ((kI K), 330, .inl (fun _ => 0))), (q43, .inl ((kI K), 330, .inl (fun _ => 0))), (q51, .inl ((kI K), 64, .inl (fun _ => 0)))] := hD
  refine va_putF (D := kD K) (ci := 6) (v := .ref q51) (ty := (.array .int)) (C := R_md) (T := T_md) (N := 21) hx hb htg in_md ty_md ty_md_ok nm_md hown hK hP hD hS 0 rfl rfl 13 (by decide) (htg (.fieldLink R_md 29 "GameNotationModel" "newBoard" "[I") q_807) (fun _ h9 => h9) rfl hin rfl (by decide +kernel) rfl rfl (Nat.le_of_ble_eq_true rfl) d_md_init_53 (fun H locs hP hD hS => ?_)
  have hP : va_P (kD K) vwCl [(oh, .inr (6, [.int 0, .ref q7, .int 0, .int 0, .int (-1 : Int32), .int 0, .int (1 : Int32), .ref q25, .int 0, .int 0, .ref q34, .ref q43, .int 0, .ref q51, .int 0, .int 0, .int 0, .int 0, .int 0, .null, .int 0])), (q7, .inl ((kI K), 64, .inl (fun _ => 0))), (q25, .inl ((kI K), 100, .inl (fun _ => 0))), (q34, .inl ((kI K), 330, .inl (fun _ => 0))), (q43, .inl ((kI K), 330, .inl (fun _ => 0))), (q51, .inl ((kI K), 64, .inl (fun _ => 0)))] _ := hP
  have hD : va_D A [(oh, .inr (6, [.int 0, .ref q7, .int 0, .int 0, .int (-1 : Int32), .int 0, .int (1 : Int32), .ref q25, .int 0, .int 0, .ref q34, .ref q43, .int 0, .ref q51, .int 0, .int 0, .int 0, .int 0, .int 0, .null, .int 0])), (q7, .inl ((kI K), 64, .inl (fun _ => 0))), (q25, .inl ((kI K), 100, .inl (fun _ => 0))), (q34, .inl ((kI K), 330, .inl (fun _ => 0))), (q43, .inl ((kI K), 330, .inl (fun _ => 0))), (q51, .inl ((kI K), 64, .inl (fun _ => 0)))] := hD
  refine lv_aload_n hx hb d_md_init_56 rfl (lv_at hl 0 rfl) ?_
  refine lv_bipush (v := 16) hx hb d_md_init_57 (by decide) ?_
  refine va_newa (atype := .int) (a0 := (16, .inl (fun _ => 0))) (N' := 16) hx hb (htg _ q_67) rfl hK hP hD hS hA (fun _ => rfl) (by decide) (by decide) (by decide) (Nat.le_of_ble_eq_true rfl) (Nat.le_of_ble_eq_true rfl) d_md_init_59 (fun q59 cA H hK9 hP hD hS => ?_)
  obtain rfl : cA = kI K := kA_int hK hK9
  have hP : va_P (kD K) vwCl [(oh, .inr (6, [.int 0, .ref q7, .int 0, .int 0, .int (-1 : Int32), .int 0, .int (1 : Int32), .ref q25, .int 0, .int 0, .ref q34, .ref q43, .int 0, .ref q51, .int 0, .int 0, .int 0, .int 0, .int 0, .null, .int 0])), (q7, .inl ((kI K), 64, .inl (fun _ => 0))), (q25, .inl ((kI K), 100, .inl (fun _ => 0))), (q34, .inl ((kI K), 330, .inl (fun _ => 0))), (q43, .inl ((kI K), 330, .inl (fun _ => 0))), (q51, .inl ((kI K), 64, .inl (fun _ => 0))), (q59, .inl ((kI K), 16, .inl (fun _ => 0)))] _ := hP
  have hD : va_D A [(oh, .inr (6, [.int 0, .ref q7, .int 0, .int 0, .int (-1 : Int32), .int 0, .int (1 : Int32), .ref q25, .int 0, .int 0, .ref q34, .ref q43, .int 0, .ref q51, .int 0, .int 0, .int 0, .int 0, .int 0, .null, .int 0])), (q7, .inl ((kI K), 64, .inl (fun _ => 0))), (q25, .inl ((kI K), 100, .inl (fun _ => 0))), (q34, .inl ((kI K), 330, .inl (fun _ => 0))), (q43, .inl ((kI K), 330, .inl (fun _ => 0))), (q51, .inl ((kI K), 64, .inl (fun _ => 0))), (q59, .inl ((kI K), 16, .inl (fun _ => 0)))] := hD
  refine va_putF (D := kD K) (ci := 6) (v := .ref q59) (ty := (.array .int)) (C := R_md) (T := T_md) (N := 21) hx hb htg in_md ty_md ty_md_ok nm_md hown hK hP hD hS 0 rfl rfl 19 (by decide) (htg (.fieldLink R_md 32 "GameNotationModel" "out" "[I") q_813) (fun _ h9 => h9) rfl hin rfl (by decide +kernel) rfl rfl (Nat.le_of_ble_eq_true rfl) d_md_init_61 (fun H locs hP hD hS => ?_)
  have hP : va_P (kD K) vwCl [(oh, .inr (6, [.int 0, .ref q7, .int 0, .int 0, .int (-1 : Int32), .int 0, .int (1 : Int32), .ref q25, .int 0, .int 0, .ref q34, .ref q43, .int 0, .ref q51, .int 0, .int 0, .int 0, .int 0, .int 0, .ref q59, .int 0])), (q7, .inl ((kI K), 64, .inl (fun _ => 0))), (q25, .inl ((kI K), 100, .inl (fun _ => 0))), (q34, .inl ((kI K), 330, .inl (fun _ => 0))), (q43, .inl ((kI K), 330, .inl (fun _ => 0))), (q51, .inl ((kI K), 64, .inl (fun _ => 0))), (q59, .inl ((kI K), 16, .inl (fun _ => 0)))] _ := hP
  have hD : va_D A [(oh, .inr (6, [.int 0, .ref q7, .int 0, .int 0, .int (-1 : Int32), .int 0, .int (1 : Int32), .ref q25, .int 0, .int 0, .ref q34, .ref q43, .int 0, .ref q51, .int 0, .int 0, .int 0, .int 0, .int 0, .ref q59, .int 0])), (q7, .inl ((kI K), 64, .inl (fun _ => 0))), (q25, .inl ((kI K), 100, .inl (fun _ => 0))), (q34, .inl ((kI K), 330, .inl (fun _ => 0))), (q43, .inl ((kI K), 330, .inl (fun _ => 0))), (q51, .inl ((kI K), 64, .inl (fun _ => 0))), (q59, .inl ((kI K), 16, .inl (fun _ => 0)))] := hD
  refine W.widen (k := 6) (n := 904) (by decide) (by decide) ?_
  exact W.vret hx hb hr (fun t ht hW => ⟨⟨(), rfl, trivial, q7, q25, q34, q43, q51, q59, by rw [ht]; exact hP, hD⟩, hS.F ht⟩) hS.2.2 d_md_init_64
