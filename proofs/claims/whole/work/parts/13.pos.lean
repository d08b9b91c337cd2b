def f_ps_clearBoard_L2  : Nat → Int32 → PsT → PsT
  | 0, _, Pw => Pw
  | n + 1, v1, Pw => (if (64 : Int32) ≤ v1 then Pw else (f_ps_clearBoard_L2  n (v1 + (1 : Int32)) (upd Pw.1 v1.toNatClampNeg (0 : Int32), Pw.2.1, Pw.2.2.1, Pw.2.2.2.1, Pw.2.2.2.2.1, Pw.2.2.2.2.2)))
def f_ps_clearBoard (P : PsT) : PsT := (f_ps_clearBoard_L2  65 (0 : Int32) P)
set_option maxHeartbeats 4000000 in
set_option maxRecDepth 100000 in
theorem c_ps_clearBoard (l : Launch) (K : KT) (sz : Nat) (Ph Pa0 : Nat) (P : PsT) : Met l y_ps_clearBoard w_ps_clearBoard ({ frames := 0, cells := 0, slots := 0, locals := 0 } : Room) (va_Pc [.ref Ph] (fun U => pMU K [(Ph, .inr (2, [.ref Pa0, .int P.2.1, .int P.2.2.1, .int P.2.2.2.1, .int P.2.2.2.2.1, .int P.2.2.2.2.2])), (Pa0, .inl ((kI K), 64, .inl P.1))] sz U ∧ True)) (va_Qv (fun u : PsT => f_ps_clearBoard P = u ∧ True) (fun (u : PsT) (t : State) => va_P (kD K) vwCl [(Ph, .inr (2, [.ref Pa0, .int u.2.1, .int u.2.2.1, .int u.2.2.2.1, .int u.2.2.2.2.1, .int u.2.2.2.2.2])), (Pa0, .inl ((kI K), 64, .inl u.1))] t.heap ∧ va_D (va_A [(Ph, .inr (2, [.ref Pa0, .int P.2.1, .int P.2.2.1, .int P.2.2.2.1, .int P.2.2.2.2.1, .int P.2.2.2.2.2])), (Pa0, .inl ((kI K), 64, .inl P.1))] sz) [(Ph, .inr (2, [.ref Pa0, .int u.2.1, .int u.2.2.1, .int u.2.2.2.1, .int u.2.2.2.2.1, .int u.2.2.2.2.2])), (Pa0, .inl ((kI K), 64, .inl u.1))]) (va_A [(Ph, .inr (2, [.ref Pa0, .int P.2.1, .int P.2.2.1, .int P.2.2.2.1, .int P.2.2.2.2.1, .int P.2.2.2.2.2])), (Pa0, .inl ((kI K), 64, .inl P.1))] sz)) 0 0 (va_A [(Ph, .inr (2, [.ref Pa0, .int P.2.1, .int P.2.2.1, .int P.2.2.2.1, .int P.2.2.2.2.1, .int P.2.2.2.2.2])), (Pa0, .inl ((kI K), 64, .inl P.1))] sz) := by
  refine Met.ofW (cc := b_ps_clearBoard) (maxL := 2) (ret := none) (by decide) rfl ?_
  intro p e s m args below meth c s₁ B hml hv
  obtain ⟨rfl, ⟨hsz, hP, hK, hD0, hG⟩, -⟩ := hv
  have hx := B.exec
  have hb := B.bytes
  have hr := B.returns
  have hts := atoms_spec (ws := w_ps_clearBoard) B.pre
  have hown : s.vm.findClass R_ps = some m.cls := findClass_of_methodNamed B.named
  have hlocks := B.notSynchronized
  have htg := fun w h => hts w (List.mem_cons_of_mem _ h)
  subst hsz
  have hD := hD0.self (sz := s.heap.size)
  generalize hAe : va_A [(Ph, .inr (2, [.ref Pa0, .int P.2.1, .int P.2.2.1, .int P.2.2.2.1, .int P.2.2.2.2.1, .int P.2.2.2.2.2])), (Pa0, .inl ((kI K), 64, .inl P.1))] s.heap.size = A at hD hG ⊢
  have hA : ∀ q : Nat, s.heap.size ≤ q → A q := fun q h => by rw [← hAe]; exact Or.inr h
  have hS : va_S A s.heap s.heap [] := va_S.rf
  have hl := lv_entry ([.ref Ph]) (n := 2) (Nat.le_of_ble_eq_true rfl)
  rw [lg_entry_eq]
  generalize (lg_sl ([.ref Ph]) ++ List.replicate (2 - (lg_sl ([.ref Ph])).length) Slot.unset).toArray = ls at hl ⊢
  have hl : lv_has ls 2 [(0, .ref Ph)] := hl
  have hF := f_ps_clearBoard.eq_1 P
  refine lv_iconst (v := 0) hx hb d_ps_clearBoard_0 (by decide) ?_
  refine lv_istore_n (lv' := [(1, .int (0 : Int32)), (0, .ref Ph)]) hx hb d_ps_clearBoard_1 rfl hl (by decide) rfl (fun ls hl => ?_)
  have loop2 : ∀ (n2 : Nat) (v1 : Int32) (Pw : PsT) (H : Heap) (locs : List Loc) (ls : Array Slot), 0 ≤ v1.toInt → (64 - v1.toInt).toNat < n2 → va_P (kD K) vwCl [(Ph, .inr (2, [.ref Pa0, .int Pw.2.1, .int Pw.2.2.1, .int Pw.2.2.2.1, .int Pw.2.2.2.2.1, .int Pw.2.2.2.2.2])), (Pa0, .inl ((kI K), 64, .inl Pw.1))] H → va_D A [(Ph, .inr (2, [.ref Pa0, .int Pw.2.1, .int Pw.2.2.1, .int Pw.2.2.2.1, .int Pw.2.2.2.2.1, .int Pw.2.2.2.2.2])), (Pa0, .inl ((kI K), 64, .inl Pw.1))] → va_S A s.heap H locs → lv_has ls 2 [(0, .ref Ph), (1, .int v1)] → f_ps_clearBoard P = f_ps_clearBoard_L2  n2 v1 Pw → W p l e (headSpec w_ps_clearBoard ({ frames := 0, cells := 0, slots := 0, locals := 0 } : Room)).room s m ([(.ref Ph : Value)].toArray) below meth c H locs 0 0 (MQ below (va_Qv (fun u : PsT => f_ps_clearBoard P = u ∧ True) (fun (u : PsT) (t : State) => va_P (kD K) vwCl [(Ph, .inr (2, [.ref Pa0, .int u.2.1, .int u.2.2.1, .int u.2.2.2.1, .int u.2.2.2.2.1, .int u.2.2.2.2.2])), (Pa0, .inl ((kI K), 64, .inl u.1))] t.heap ∧ va_D (A) [(Ph, .inr (2, [.ref Pa0, .int u.2.1, .int u.2.2.1, .int u.2.2.2.1, .int u.2.2.2.2.1, .int u.2.2.2.2.2])), (Pa0, .inl ((kI K), 64, .inl u.1))]) (A)) ([(.ref Ph : Value)].toArray) s 0 0 (A)) (F0 m 2 ls []) := by
    intro n2
    induction n2 with
    | zero =>
      intro _ _ _ _ _ _ hz
      exact absurd hz (Nat.not_lt_zero _)
    | succ n2 ih2 =>
      intro v1 Pw H locs ls i0 hm hP hD hS hl hF
      rw [f_ps_clearBoard_L2] at hF
      refine lv_iload_n hx hb d_ps_clearBoard_2 rfl (lv_at hl 1 rfl) ?_
      refine lv_bipush (v := 64) hx hb d_ps_clearBoard_3 (by decide) ?_
      refine lv_icmp_ge (tgt := 21) hx hb d_ps_clearBoard_5 (by decide) (fun c_1 => ?_) (fun c_1 => ?_)
      · have hF := hF.trans (if_pos c_1)
        exact W.vret hx hb hr (fun t ht hW => ⟨⟨Pw, rfl, ⟨hF, trivial⟩, ⟨by rw [ht]; exact hP, hD⟩⟩, hS.F ht⟩) hS.2.2 d_ps_clearBoard_21
      · have hF := hF.trans (if_neg c_1)
        refine lv_aload_n hx hb d_ps_clearBoard_8 rfl (lv_at hl 0 rfl) ?_
        refine va_get (D := kD K) (ci := 2) (v := .ref Pa0) (C := R_ps) (T := T_ps) (N := 6) hx hb htg in_ps hown hK hP 0 rfl rfl 0 (by decide) (htg (.fieldLink R_ps 9 "GameNotation$Position" "men" "[I") q_99) (fun _ h9 => h9) rfl d_ps_clearBoard_9 ?_
        refine lv_iload_n hx hb d_ps_clearBoard_12 rfl (lv_at hl 1 rfl) ?_
        refine lv_iconst (v := 0) hx hb d_ps_clearBoard_13 (by decide) ?_
        have h_2 : vp_in v1 64 := lp_in i0 c_1 (by decide)
        refine va_iast hx hb hK hP hD hS 1 0 rfl rfl h_2 d_ps_clearBoard_14 (fun H locs hP hD hS => ?_)
        have hP : va_P (kD K) vwCl [(Ph, .inr (2, [.ref Pa0, .int Pw.2.1, .int Pw.2.2.1, .int Pw.2.2.2.1, .int Pw.2.2.2.2.1, .int Pw.2.2.2.2.2])), (Pa0, .inl ((kI K), 64, .inl (upd Pw.1 v1.toNatClampNeg (0 : Int32))))] _ := hP
        have hD : va_D A [(Ph, .inr (2, [.ref Pa0, .int Pw.2.1, .int Pw.2.2.1, .int Pw.2.2.2.1, .int Pw.2.2.2.2.1, .int Pw.2.2.2.2.2])), (Pa0, .inl ((kI K), 64, .inl (upd Pw.1 v1.toNatClampNeg (0 : Int32))))] := hD
        refine lv_iinc (v := v1 + (1 : Int32)) (lv' := [(1, .int (v1 + (1 : Int32))), (0, .ref Ph)]) hx hb d_ps_clearBoard_15 hl (k := 1) rfl rfl (by decide) rfl (fun ls hl => ?_)
        refine lv_goto (tgt := 2) hx hb d_ps_clearBoard_18 (by decide) ?_
        exact ih2  (v1 + (1 : Int32)) (upd Pw.1 v1.toNatClampNeg (0 : Int32), Pw.2.1, Pw.2.2.1, Pw.2.2.2.1, Pw.2.2.2.2.1, Pw.2.2.2.2.2) _ _ ls  (lp_s i0 c_1) (lp_d i0 c_1 (by decide) hm) hP hD hS (lv_sub hl [1, 0] rfl) hF
  exact loop2 65 (0 : Int32) P _ _ ls  (by decide) (by decide) hP hD hS (lv_sub hl [1, 0] rfl) hF
def f_ps_place (P : PsT) (sq : Int32) (mn : Int32) : PsT := (bnd (f_gn_isSquare sq) (fun r_1 => (if r_1 = 0 then P else (upd P.1 sq.toNatClampNeg mn, P.2.1, P.2.2.1, P.2.2.2.1, P.2.2.2.2.1, P.2.2.2.2.2))))
set_option maxHeartbeats 4000000 in
set_option maxRecDepth 100000 in
theorem c_ps_place (l : Launch) (K : KT) (sz : Nat) (Ph Pa0 : Nat) (P : PsT) (sq : Int32) (mn : Int32) : Met l y_ps_place w_ps_place ({ frames := 1, cells := 0, slots := 0, locals := 20 } : Room) (va_Pc [.ref Ph, .int sq, .int mn] (fun U => pMU K [(Ph, .inr (2, [.ref Pa0, .int P.2.1, .int P.2.2.1, .int P.2.2.2.1, .int P.2.2.2.2.1, .int P.2.2.2.2.2])), (Pa0, .inl ((kI K), 64, .inl P.1))] sz U ∧ True)) (va_Qv (fun u : PsT => f_ps_place P sq mn = u ∧ True) (fun (u : PsT) (t : State) => va_P (kD K) vwCl [(Ph, .inr (2, [.ref Pa0, .int u.2.1, .int u.2.2.1, .int u.2.2.2.1, .int u.2.2.2.2.1, .int u.2.2.2.2.2])), (Pa0, .inl ((kI K), 64, .inl u.1))] t.heap ∧ va_D (va_A [(Ph, .inr (2, [.ref Pa0, .int P.2.1, .int P.2.2.1, .int P.2.2.2.1, .int P.2.2.2.2.1, .int P.2.2.2.2.2])), (Pa0, .inl ((kI K), 64, .inl P.1))] sz) [(Ph, .inr (2, [.ref Pa0, .int u.2.1, .int u.2.2.1, .int u.2.2.2.1, .int u.2.2.2.2.1, .int u.2.2.2.2.2])), (Pa0, .inl ((kI K), 64, .inl u.1))]) (va_A [(Ph, .inr (2, [.ref Pa0, .int P.2.1, .int P.2.2.1, .int P.2.2.2.1, .int P.2.2.2.2.1, .int P.2.2.2.2.2])), (Pa0, .inl ((kI K), 64, .inl P.1))] sz)) 0 0 (va_A [(Ph, .inr (2, [.ref Pa0, .int P.2.1, .int P.2.2.1, .int P.2.2.2.1, .int P.2.2.2.2.1, .int P.2.2.2.2.2])), (Pa0, .inl ((kI K), 64, .inl P.1))] sz) := by
  refine Met.ofW (cc := b_ps_place) (maxL := 3) (ret := none) (by decide) rfl ?_
  intro p e s m args below meth c s₁ B hml hv
  obtain ⟨rfl, ⟨hsz, hP, hK, hD0, hG⟩, -⟩ := hv
  have hx := B.exec
  have hb := B.bytes
  have hr := B.returns
  have hts := atoms_spec (ws := w_ps_place) B.pre
  have hown : s.vm.findClass R_ps = some m.cls := findClass_of_methodNamed B.named
  have hlocks := B.notSynchronized
  have htg := fun w h => hts w (List.mem_cons_of_mem _ h)
  subst hsz
  have hD := hD0.self (sz := s.heap.size)
  generalize hAe : va_A [(Ph, .inr (2, [.ref Pa0, .int P.2.1, .int P.2.2.1, .int P.2.2.2.1, .int P.2.2.2.2.1, .int P.2.2.2.2.2])), (Pa0, .inl ((kI K), 64, .inl P.1))] s.heap.size = A at hD hG ⊢
  have hA : ∀ q : Nat, s.heap.size ≤ q → A q := fun q h => by rw [← hAe]; exact Or.inr h
  have hS : va_S A s.heap s.heap [] := va_S.rf
  have hl := lv_entry ([.ref Ph, .int sq, .int mn]) (n := 3) (Nat.le_of_ble_eq_true rfl)
  rw [lg_entry_eq]
  generalize (lg_sl ([.ref Ph, .int sq, .int mn]) ++ List.replicate (3 - (lg_sl ([.ref Ph, .int sq, .int mn])).length) Slot.unset).toArray = ls at hl ⊢
  have hl : lv_has ls 3 [(0, .ref Ph), (1, .int sq), (2, .int mn)] := hl
  have hF := f_ps_place.eq_1 P sq mn
  refine lv_iload_n hx hb d_ps_place_0 rfl (lv_at hl 1 rfl) ?_
  have hPc : va_P (kD K) vwCl [] _ := hP.sub [] rfl
  refine vp_callSi (va_Run.run (va_runSN (As := [.int sq]) (rest := []) ⟨hx, hb, hml, hown, htg⟩ (c_gn_isSquare l K sq) (⟨va_cnB 1 htg (g_w q_299) rfl rfl rfl (hG.nw 22 rfl) (htg _ q_1) k_gn_isSquare ⟨Nat.le_of_ble_eq_true rfl, Nat.le_of_ble_eq_true rfl⟩, htg _ q_298, trivial⟩) ⟨ro_blind, ro_use hPc hK hG hS trivial⟩ rfl rfl hl.1 rfl (lv_room (Nat.le_of_ble_eq_true rfl)) d_ps_place_1 ⟨Nat.zero_le _, Nat.zero_le _⟩)) (fun r_1 hw_1 => ?_)
  have hF := hF.trans (bnd_s hw_1.1)
  have hn_1 := hw_1.2
  refine lv_if_eq (tgt := 14) hx hb d_ps_place_4 (by decide) (fun c_2 => ?_) (fun c_2 => ?_)
  · have hF := hF.trans (if_pos c_2)
    exact W.vret hx hb hr (fun t ht hW => ⟨⟨P, rfl, ⟨hF, trivial⟩, ⟨by rw [ht]; exact hP, hD⟩⟩, hS.F ht⟩) hS.2.2 d_ps_place_14
  · have hF := hF.trans (if_neg c_2)
    refine lv_aload_n hx hb d_ps_place_7 rfl (lv_at hl 0 rfl) ?_
    refine va_get (D := kD K) (ci := 2) (v := .ref Pa0) (C := R_ps) (T := T_ps) (N := 6) hx hb htg in_ps hown hK hP 0 rfl rfl 0 (by decide) (htg (.fieldLink R_ps 9 "GameNotation$Position" "men" "[I") q_99) (fun _ h9 => h9) rfl d_ps_place_8 ?_
    refine lv_iload_n hx hb d_ps_place_11 rfl (lv_at hl 1 rfl) ?_
    refine lv_iload_n hx hb d_ps_place_12 rfl (lv_at hl 2 rfl) ?_
    have h_3 : vp_in sq 64 := sq_in hw_1 c_2
    refine va_iast hx hb hK hP hD hS 1 0 rfl rfl h_3 d_ps_place_13 (fun H locs hP hD hS => ?_)
    have hP : va_P (kD K) vwCl [(Ph, .inr (2, [.ref Pa0, .int P.2.1, .int P.2.2.1, .int P.2.2.2.1, .int P.2.2.2.2.1, .int P.2.2.2.2.2])), (Pa0, .inl ((kI K), 64, .inl (upd P.1 sq.toNatClampNeg mn)))] _ := hP
    have hD : va_D A [(Ph, .inr (2, [.ref Pa0, .int P.2.1, .int P.2.2.1, .int P.2.2.2.1, .int P.2.2.2.2.1, .int P.2.2.2.2.2])), (Pa0, .inl ((kI K), 64, .inl (upd P.1 sq.toNatClampNeg mn)))] := hD
    exact W.vret hx hb hr (fun t ht hW => ⟨⟨(upd P.1 sq.toNatClampNeg mn, P.2.1, P.2.2.1, P.2.2.2.1, P.2.2.2.2.1, P.2.2.2.2.2), rfl, ⟨hF, trivial⟩, ⟨by rw [ht]; exact hP, hD⟩⟩, hS.F ht⟩) hS.2.2 d_ps_place_14
def f_ps_manOn (P : PsT) (sq : Int32) : Int32 := (if sq < 0 then (-1 : Int32) else (if (64 : Int32) ≤ sq then (-1 : Int32) else (P.1 sq.toNatClampNeg)))
set_option maxHeartbeats 4000000 in
set_option maxRecDepth 100000 in
theorem c_ps_manOn (l : Launch) (K : KT) (Ph Pa0 : Nat) (P : PsT) (sq : Int32) : Met l y_ps_manOn w_ps_manOn ({ frames := 0, cells := 0, slots := 0, locals := 0 } : Room) (va_Pc [.ref Ph, .int sq] (fun U => pRO K [(Ph, .inr (2, [.ref Pa0, .int P.2.1, .int P.2.2.1, .int P.2.2.2.1, .int P.2.2.2.2.1, .int P.2.2.2.2.2])), (Pa0, .inl ((kI K), 64, .inl P.1))] U ∧ True)) (vp_Si (fun r => f_ps_manOn P sq = r ∧ True)) 0 0 (fun _ => False) := by
  refine Met.ofW (cc := b_ps_manOn) (maxL := 2) (ret := (some .int)) (by decide) rfl ?_
  intro p e s m args below meth c s₁ B hml hv
  obtain ⟨rfl, ⟨hP, hK, hG⟩, -⟩ := hv
  have hx := B.exec
  have hb := B.bytes
  have hr := B.returns
  have hts := atoms_spec (ws := w_ps_manOn) B.pre
  have hown : s.vm.findClass R_ps = some m.cls := findClass_of_methodNamed B.named
  have hlocks := B.notSynchronized
  have htg := fun w h => hts w (List.mem_cons_of_mem _ h)
  have hS : va_S (fun _ => False) s.heap s.heap [] := va_S.rf
  have hl := lv_entry ([.ref Ph, .int sq]) (n := 2) (Nat.le_of_ble_eq_true rfl)
  rw [lg_entry_eq]
  generalize (lg_sl ([.ref Ph, .int sq]) ++ List.replicate (2 - (lg_sl ([.ref Ph, .int sq])).length) Slot.unset).toArray = ls at hl ⊢
  have hl : lv_has ls 2 [(0, .ref Ph), (1, .int sq)] := hl
  have hF := f_ps_manOn.eq_1 P sq
  refine lv_iload_n hx hb d_ps_manOn_0 rfl (lv_at hl 1 rfl) ?_
  refine lv_if_lt (tgt := 19) hx hb d_ps_manOn_1 (by decide) (fun c_1 => ?_) (fun c_1 => ?_)
  · have hF := hF.trans (if_pos c_1)
    refine lv_iconst (v := -1) hx hb d_ps_manOn_19 (by decide) ?_
    exact W.iret (v := (-1 : Int32)) hx hb hr (fun t ht hW => ⟨_, rfl, ⟨hF, trivial⟩, ht⟩) hS.2.2 d_ps_manOn_20
  · have hF := hF.trans (if_neg c_1)
    refine lv_iload_n hx hb d_ps_manOn_4 rfl (lv_at hl 1 rfl) ?_
    refine lv_bipush (v := 64) hx hb d_ps_manOn_5 (by decide) ?_
    refine lv_icmp_ge (tgt := 19) hx hb d_ps_manOn_7 (by decide) (fun c_2 => ?_) (fun c_2 => ?_)
    · have hF := hF.trans (if_pos c_2)
      refine lv_iconst (v := -1) hx hb d_ps_manOn_19 (by decide) ?_
      exact W.iret (v := (-1 : Int32)) hx hb hr (fun t ht hW => ⟨_, rfl, ⟨hF, trivial⟩, ht⟩) hS.2.2 d_ps_manOn_20
    · have hF := hF.trans (if_neg c_2)
      refine lv_aload_n hx hb d_ps_manOn_10 rfl (lv_at hl 0 rfl) ?_
      refine va_get (D := kD K) (ci := 2) (v := .ref Pa0) (C := R_ps) (T := T_ps) (N := 6) hx hb htg in_ps hown hK hP 0 rfl rfl 0 (by decide) (htg (.fieldLink R_ps 9 "GameNotation$Position" "men" "[I") q_99) (fun _ h9 => h9) rfl d_ps_manOn_11 ?_
      refine lv_iload_n hx hb d_ps_manOn_14 rfl (lv_at hl 1 rfl) ?_
      have h_3 : vp_in sq 64 := in64 c_1 c_2
      refine va_iald hx hb hK hP 1 0 rfl rfl h_3 d_ps_manOn_15 ?_
      refine lv_goto (tgt := 20) hx hb d_ps_manOn_16 (by decide) ?_
      exact W.iret (v := P.1 sq.toNatClampNeg) hx hb hr (fun t ht hW => ⟨_, rfl, ⟨hF, trivial⟩, ht⟩) hS.2.2 d_ps_manOn_20
def f_ps_manAt (P : PsT) (fl : Int32) (rk : Int32) : Int32 := (if fl < 0 then (-1 : Int32) else (if (8 : Int32) ≤ fl then (-1 : Int32) else (if rk < 0 then (-1 : Int32) else (if (8 : Int32) ≤ rk then (-1 : Int32) else (P.1 ((rk * (8 : Int32)) + fl).toNatClampNeg)))))
set_option maxHeartbeats 4000000 in
set_option maxRecDepth 100000 in
theorem c_ps_manAt (l : Launch) (K : KT) (Ph Pa0 : Nat) (P : PsT) (fl : Int32) (rk : Int32) : Met l y_ps_manAt w_ps_manAt ({ frames := 0, cells := 0, slots := 0, locals := 0 } : Room) (va_Pc [.ref Ph, .int fl, .int rk] (fun U => pRO K [(Ph, .inr (2, [.ref Pa0, .int P.2.1, .int P.2.2.1, .int P.2.2.2.1, .int P.2.2.2.2.1, .int P.2.2.2.2.2])), (Pa0, .inl ((kI K), 64, .inl P.1))] U ∧ True)) (vp_Si (fun r => f_ps_manAt P fl rk = r ∧ True)) 0 0 (fun _ => False) := by
  refine Met.ofW (cc := b_ps_manAt) (maxL := 4) (ret := (some .int)) (by decide) rfl ?_
  intro p e s m args below meth c s₁ B hml hv
  obtain ⟨rfl, ⟨hP, hK, hG⟩, -⟩ := hv
  have hx := B.exec
  have hb := B.bytes
  have hr := B.returns
  have hts := atoms_spec (ws := w_ps_manAt) B.pre
  have hown : s.vm.findClass R_ps = some m.cls := findClass_of_methodNamed B.named
  have hlocks := B.notSynchronized
  have htg := fun w h => hts w (List.mem_cons_of_mem _ h)
  have hS : va_S (fun _ => False) s.heap s.heap [] := va_S.rf
  have hl := lv_entry ([.ref Ph, .int fl, .int rk]) (n := 4) (Nat.le_of_ble_eq_true rfl)
  rw [lg_entry_eq]
  generalize (lg_sl ([.ref Ph, .int fl, .int rk]) ++ List.replicate (4 - (lg_sl ([.ref Ph, .int fl, .int rk])).length) Slot.unset).toArray = ls at hl ⊢
  have hl : lv_has ls 4 [(0, .ref Ph), (1, .int fl), (2, .int rk)] := hl
  have hF := f_ps_manAt.eq_1 P fl rk
  refine lv_iload_n hx hb d_ps_manAt_0 rfl (lv_at hl 1 rfl) ?_
  refine lv_if_lt (tgt := 24) hx hb d_ps_manAt_1 (by decide) (fun c_1 => ?_) (fun c_1 => ?_)
  · have hF := hF.trans (if_pos c_1)
    refine lv_iconst (v := 0) hx hb d_ps_manAt_24 (by decide) ?_
    refine lv_istore_n (lv' := [(3, .int (0 : Int32)), (0, .ref Ph), (1, .int fl), (2, .int rk)]) hx hb d_ps_manAt_25 rfl hl (by decide) rfl (fun ls hl => ?_)
    refine lv_iload_n hx hb d_ps_manAt_26 rfl (lv_at hl 0 rfl) ?_
    refine lv_if_eq (tgt := 44) hx hb d_ps_manAt_27 (by decide) (fun _ => ?_) (fun c => False.elim (by revert c; decide))
    refine lv_iconst (v := -1) hx hb d_ps_manAt_44 (by decide) ?_
    exact W.iret (v := (-1 : Int32)) hx hb hr (fun t ht hW => ⟨_, rfl, ⟨hF, trivial⟩, ht⟩) hS.2.2 d_ps_manAt_45
  · have hF := hF.trans (if_neg c_1)
    refine lv_iload_n hx hb d_ps_manAt_4 rfl (lv_at hl 1 rfl) ?_
    refine lv_bipush (v := 8) hx hb d_ps_manAt_5 (by decide) ?_
    refine lv_icmp_ge (tgt := 24) hx hb d_ps_manAt_7 (by decide) (fun c_2 => ?_) (fun c_2 => ?_)
    · have hF := hF.trans (if_pos c_2)
      refine lv_iconst (v := 0) hx hb d_ps_manAt_24 (by decide) ?_
      refine lv_istore_n (lv' := [(3, .int (0 : Int32)), (0, .ref Ph), (1, .int fl), (2, .int rk)]) hx hb d_ps_manAt_25 rfl hl (by decide) rfl (fun ls hl => ?_)
      refine lv_iload_n hx hb d_ps_manAt_26 rfl (lv_at hl 0 rfl) ?_
      refine lv_if_eq (tgt := 44) hx hb d_ps_manAt_27 (by decide) (fun _ => ?_) (fun c => False.elim (by revert c; decide))
      refine lv_iconst (v := -1) hx hb d_ps_manAt_44 (by decide) ?_
      exact W.iret (v := (-1 : Int32)) hx hb hr (fun t ht hW => ⟨_, rfl, ⟨hF, trivial⟩, ht⟩) hS.2.2 d_ps_manAt_45
    · have hF := hF.trans (if_neg c_2)
      refine lv_iload_n hx hb d_ps_manAt_10 rfl (lv_at hl 2 rfl) ?_
      refine lv_if_lt (tgt := 24) hx hb d_ps_manAt_11 (by decide) (fun c_3 => ?_) (fun c_3 => ?_)
      · have hF := hF.trans (if_pos c_3)
        refine lv_iconst (v := 0) hx hb d_ps_manAt_24 (by decide) ?_
        refine lv_istore_n (lv' := [(3, .int (0 : Int32)), (0, .ref Ph), (1, .int fl), (2, .int rk)]) hx hb d_ps_manAt_25 rfl hl (by decide) rfl (fun ls hl => ?_)
        refine lv_iload_n hx hb d_ps_manAt_26 rfl (lv_at hl 0 rfl) ?_
        refine lv_if_eq (tgt := 44) hx hb d_ps_manAt_27 (by decide) (fun _ => ?_) (fun c => False.elim (by revert c; decide))
        refine lv_iconst (v := -1) hx hb d_ps_manAt_44 (by decide) ?_
        exact W.iret (v := (-1 : Int32)) hx hb hr (fun t ht hW => ⟨_, rfl, ⟨hF, trivial⟩, ht⟩) hS.2.2 d_ps_manAt_45
      · have hF := hF.trans (if_neg c_3)
        refine lv_iload_n hx hb d_ps_manAt_14 rfl (lv_at hl 2 rfl) ?_
        refine lv_bipush (v := 8) hx hb d_ps_manAt_15 (by decide) ?_
        refine lv_icmp_ge (tgt := 24) hx hb d_ps_manAt_17 (by decide) (fun c_4 => ?_) (fun c_4 => ?_)
        · have hF := hF.trans (if_pos c_4)
          refine lv_iconst (v := 0) hx hb d_ps_manAt_24 (by decide) ?_
          refine lv_istore_n (lv' := [(3, .int (0 : Int32)), (0, .ref Ph), (1, .int fl), (2, .int rk)]) hx hb d_ps_manAt_25 rfl hl (by decide) rfl (fun ls hl => ?_)
          refine lv_iload_n hx hb d_ps_manAt_26 rfl (lv_at hl 0 rfl) ?_
          refine lv_if_eq (tgt := 44) hx hb d_ps_manAt_27 (by decide) (fun _ => ?_) (fun c => False.elim (by revert c; decide))
          refine lv_iconst (v := -1) hx hb d_ps_manAt_44 (by decide) ?_
          exact W.iret (v := (-1 : Int32)) hx hb hr (fun t ht hW => ⟨_, rfl, ⟨hF, trivial⟩, ht⟩) hS.2.2 d_ps_manAt_45
        · have hF := hF.trans (if_neg c_4)
          refine lv_iconst (v := 1) hx hb d_ps_manAt_20 (by decide) ?_
          refine lv_goto (tgt := 25) hx hb d_ps_manAt_21 (by decide) ?_
          refine lv_istore_n (lv' := [(3, .int (1 : Int32)), (0, .ref Ph), (1, .int fl), (2, .int rk)]) hx hb d_ps_manAt_25 rfl hl (by decide) rfl (fun ls hl => ?_)
          refine lv_iload_n hx hb d_ps_manAt_26 rfl (lv_at hl 0 rfl) ?_
          refine lv_if_eq (tgt := 44) hx hb d_ps_manAt_27 (by decide) (fun c => False.elim (by revert c; decide)) (fun _ => ?_)
          refine lv_aload_n hx hb d_ps_manAt_30 rfl (lv_at hl 1 rfl) ?_
          refine va_get (D := kD K) (ci := 2) (v := .ref Pa0) (C := R_ps) (T := T_ps) (N := 6) hx hb htg in_ps hown hK hP 0 rfl rfl 0 (by decide) (htg (.fieldLink R_ps 9 "GameNotation$Position" "men" "[I") q_99) (fun _ h9 => h9) rfl d_ps_manAt_31 ?_
          refine lv_iload_n hx hb d_ps_manAt_34 rfl (lv_at hl 3 rfl) ?_
          refine lv_bipush (v := 8) hx hb d_ps_manAt_35 (by decide) ?_
          refine lv_imul hx hb d_ps_manAt_37 ?_
          refine lv_iload_n hx hb d_ps_manAt_38 rfl (lv_at hl 2 rfl) ?_
          refine lv_iadd hx hb d_ps_manAt_39 ?_
          have h_5 : vp_in ((rk * (8 : Int32)) + fl) 64 := ma_in c_1 c_2 c_3 c_4
          refine va_iald hx hb hK hP 1 0 rfl rfl h_5 d_ps_manAt_40 ?_
          refine lv_goto (tgt := 45) hx hb d_ps_manAt_41 (by decide) ?_
          exact W.iret (v := P.1 ((rk * (8 : Int32)) + fl).toNatClampNeg) hx hb hr (fun t ht hW => ⟨_, rfl, ⟨hF, trivial⟩, ht⟩) hS.2.2 d_ps_manAt_45
def f_ps_hasRight (P : PsT) (wh : Int32) : Int32 := (if ((P.2.2.1 >>> (wh &&& 31)) &&& (1 : Int32)) = 0 then (0 : Int32) else (1 : Int32))
set_option maxHeartbeats 4000000 in
set_option maxRecDepth 100000 in
theorem c_ps_hasRight (l : Launch) (K : KT) (Ph Pa0 : Nat) (P : PsT) (wh : Int32) : Met l y_ps_hasRight w_ps_hasRight ({ frames := 0, cells := 0, slots := 0, locals := 0 } : Room) (va_Pc [.ref Ph, .int wh] (fun U => pRO K [(Ph, .inr (2, [.ref Pa0, .int P.2.1, .int P.2.2.1, .int P.2.2.2.1, .int P.2.2.2.2.1, .int P.2.2.2.2.2])), (Pa0, .inl ((kI K), 64, .inl P.1))] U ∧ True)) (vp_Si (fun r => f_ps_hasRight P wh = r ∧ narrow .boolean (.int r) = .int r)) 0 0 (fun _ => False) := by
  refine Met.ofW (cc := b_ps_hasRight) (maxL := 2) (ret := (some .boolean)) (by decide) rfl ?_
  intro p e s m args below meth c s₁ B hml hv
  obtain ⟨rfl, ⟨hP, hK, hG⟩, -⟩ := hv
  have hx := B.exec
  have hb := B.bytes
  have hr := B.returns
  have hts := atoms_spec (ws := w_ps_hasRight) B.pre
  have hown : s.vm.findClass R_ps = some m.cls := findClass_of_methodNamed B.named
  have hlocks := B.notSynchronized
  have htg := fun w h => hts w (List.mem_cons_of_mem _ h)
  have hS : va_S (fun _ => False) s.heap s.heap [] := va_S.rf
  have hl := lv_entry ([.ref Ph, .int wh]) (n := 2) (Nat.le_of_ble_eq_true rfl)
  rw [lg_entry_eq]
  generalize (lg_sl ([.ref Ph, .int wh]) ++ List.replicate (2 - (lg_sl ([.ref Ph, .int wh])).length) Slot.unset).toArray = ls at hl ⊢
  have hl : lv_has ls 2 [(0, .ref Ph), (1, .int wh)] := hl
  have hF := f_ps_hasRight.eq_1 P wh
  refine lv_aload_n hx hb d_ps_hasRight_0 rfl (lv_at hl 0 rfl) ?_
  refine va_get (D := kD K) (ci := 2) (v := .int P.2.2.1) (C := R_ps) (T := T_ps) (N := 6) hx hb htg in_ps hown hK hP 0 rfl rfl 2 (by decide) (htg (.fieldLink R_ps 26 "GameNotation$Position" "rights" "I") q_103) (fun _ h9 => h9) rfl d_ps_hasRight_1 ?_
  refine lv_iload_n hx hb d_ps_hasRight_4 rfl (lv_at hl 1 rfl) ?_
  refine lv_ishr hx hb d_ps_hasRight_5 ?_
  refine lv_iconst (v := 1) hx hb d_ps_hasRight_6 (by decide) ?_
  refine lv_iand hx hb d_ps_hasRight_7 ?_
  refine lv_if_eq (tgt := 15) hx hb d_ps_hasRight_8 (by decide) (fun c_1 => ?_) (fun c_1 => ?_)
  · have hF := hF.trans (if_pos c_1)
    refine lv_iconst (v := 0) hx hb d_ps_hasRight_15 (by decide) ?_
    exact W.zret (v := (0 : Int32)) hx hb hr (rfl) (fun t ht hW => ⟨_, rfl, ⟨hF, rfl⟩, ht⟩) hS.2.2 d_ps_hasRight_16
  · have hF := hF.trans (if_neg c_1)
    refine lv_iconst (v := 1) hx hb d_ps_hasRight_11 (by decide) ?_
    refine lv_goto (tgt := 16) hx hb d_ps_hasRight_12 (by decide) ?_
    exact W.zret (v := (1 : Int32)) hx hb hr (rfl) (fun t ht hW => ⟨_, rfl, ⟨hF, rfl⟩, ht⟩) hS.2.2 d_ps_hasRight_16
def f_ps_isNear_L3 (P : PsT) (sq : Int32) (mn : Int32) (fs : Nat) (rs : Nat) : Nat → Int32 → Int32
  | 0, _ => 0
  | n + 1, v5 => (if (Int32.ofNat (tbN fs)) ≤ v5 then (0 : Int32) else (if (Int32.ofNat (tbN rs)) ≤ v5 then (0 : Int32) else (bnd (f_gn_fileOf sq) (fun r_3 => (bnd (f_gn_rankOf sq) (fun r_5 => (bnd (f_ps_manAt P (r_3 + ((tbl fs) v5.toNatClampNeg)) (r_5 + ((tbl rs) v5.toNatClampNeg))) (fun r_7 => (if r_7 = mn then (1 : Int32) else (f_ps_isNear_L3 P sq mn fs rs  n (v5 + (1 : Int32))))))))))))
def f_ps_isNear (P : PsT) (sq : Int32) (mn : Int32) (fs : Nat) (rs : Nat) : Int32 := (f_ps_isNear_L3 P sq mn fs rs  9 (0 : Int32))
set_option maxHeartbeats 4000000 in
set_option maxRecDepth 100000 in
theorem c_ps_isNear (l : Launch) (K : KT) (Ph Pa0 : Nat) (P : PsT) (sq : Int32) (mn : Int32) (fs : Nat) (rs : Nat) : Met l y_ps_isNear w_ps_isNear ({ frames := 1, cells := 0, slots := 0, locals := 23 } : Room) (va_Pc [.ref Ph, .int sq, .int mn, .ref (kT K fs), .ref (kT K rs)] (fun U => pRO K [(Ph, .inr (2, [.ref Pa0, .int P.2.1, .int P.2.2.1, .int P.2.2.2.1, .int P.2.2.2.2.1, .int P.2.2.2.2.2])), (Pa0, .inl ((kI K), 64, .inl P.1))] U ∧ fs < nTAB ∧ rs < nTAB ∧ True)) (vp_Si (fun r => f_ps_isNear P sq mn fs rs = r ∧ narrow .boolean (.int r) = .int r)) 0 0 (fun _ => False) := by
  refine Met.ofW (cc := b_ps_isNear) (maxL := 6) (ret := (some .boolean)) (by decide) rfl ?_
  intro p e s m args below meth c s₁ B hml hv
  obtain ⟨rfl, ⟨hP, hK, hG⟩, h_fs, h_rs, -⟩ := hv
  have hx := B.exec
  have hb := B.bytes
  have hr := B.returns
  have hts := atoms_spec (ws := w_ps_isNear) B.pre
  have hown : s.vm.findClass R_ps = some m.cls := findClass_of_methodNamed B.named
  have hlocks := B.notSynchronized
  have htg := fun w h => hts w (List.mem_cons_of_mem _ h)
  have hS : va_S (fun _ => False) s.heap s.heap [] := va_S.rf
  have hl := lv_entry ([.ref Ph, .int sq, .int mn, .ref (kT K fs), .ref (kT K rs)]) (n := 6) (Nat.le_of_ble_eq_true rfl)
  rw [lg_entry_eq]
  generalize (lg_sl ([.ref Ph, .int sq, .int mn, .ref (kT K fs), .ref (kT K rs)]) ++ List.replicate (6 - (lg_sl ([.ref Ph, .int sq, .int mn, .ref (kT K fs), .ref (kT K rs)])).length) Slot.unset).toArray = ls at hl ⊢
  have hl : lv_has ls 6 [(0, .ref Ph), (1, .int sq), (2, .int mn), (3, .ref (kT K fs)), (4, .ref (kT K rs))] := hl
  have hF := f_ps_isNear.eq_1 P sq mn fs rs
  refine lv_iconst (v := 0) hx hb d_ps_isNear_0 (by decide) ?_
  refine lv_istore (lv' := [(5, .int (0 : Int32)), (0, .ref Ph), (1, .int sq), (2, .int mn), (3, .ref (kT K fs)), (4, .ref (kT K rs))]) hx hb d_ps_isNear_1 hl (by decide) rfl (fun ls hl => ?_)
  have loop3 : ∀ (n3 : Nat) (v5 : Int32) (ls : Array Slot), 0 ≤ v5.toInt → (8 - v5.toInt).toNat < n3 → lv_has ls 6 [(0, .ref Ph), (1, .int sq), (2, .int mn), (3, .ref (kT K fs)), (4, .ref (kT K rs)), (5, .int v5)] → f_ps_isNear P sq mn fs rs = f_ps_isNear_L3 P sq mn fs rs  n3 v5 → W p l e (headSpec w_ps_isNear ({ frames := 1, cells := 0, slots := 0, locals := 23 } : Room)).room s m ([(.ref Ph : Value), .int sq, .int mn, .ref (kT K fs), .ref (kT K rs)].toArray) below meth c s.heap [] 0 0 (MQ below (vp_Si (fun r => f_ps_isNear P sq mn fs rs = r ∧ narrow .boolean (.int r) = .int r)) ([(.ref Ph : Value), .int sq, .int mn, .ref (kT K fs), .ref (kT K rs)].toArray) s 0 0 ((fun _ => False))) (F0 m 3 ls []) := by
    intro n3
    induction n3 with
    | zero =>
      intro _ _ _ hz
      exact absurd hz (Nat.not_lt_zero _)
    | succ n3 ih3 =>
      intro v5 ls i0 hm hl hF
      rw [f_ps_isNear_L3] at hF
      refine lv_iload hx hb d_ps_isNear_3 (lv_at hl 5 rfl) ?_
      refine lv_aload_n hx hb d_ps_isNear_5 rfl (lv_at hl 3 rfl) ?_
      refine va_tlen hx hb (hG.tab fs h_fs) hS rfl d_ps_isNear_6 ?_
      refine lv_icmp_ge (tgt := 53) hx hb d_ps_isNear_7 (by decide) (fun c_1 => ?_) (fun c_1 => ?_)
      · have hF := hF.trans (if_pos c_1)
        refine lv_iconst (v := 0) hx hb d_ps_isNear_53 (by decide) ?_
        exact W.zret (v := (0 : Int32)) hx hb hr (rfl) (fun t ht hW => ⟨_, rfl, ⟨hF, rfl⟩, ht⟩) hS.2.2 d_ps_isNear_54
      · have hF := hF.trans (if_neg c_1)
        refine lv_iload hx hb d_ps_isNear_10 (lv_at hl 5 rfl) ?_
        refine lv_aload hx hb d_ps_isNear_12 (lv_at hl 4 rfl) ?_
        refine va_tlen hx hb (hG.tab rs h_rs) hS rfl d_ps_isNear_14 ?_
        refine lv_icmp_ge (tgt := 53) hx hb d_ps_isNear_15 (by decide) (fun c_2 => ?_) (fun c_2 => ?_)
        · have hF := hF.trans (if_pos c_2)
          refine lv_iconst (v := 0) hx hb d_ps_isNear_53 (by decide) ?_
          exact W.zret (v := (0 : Int32)) hx hb hr (rfl) (fun t ht hW => ⟨_, rfl, ⟨hF, rfl⟩, ht⟩) hS.2.2 d_ps_isNear_54
        · have hF := hF.trans (if_neg c_2)
          refine lv_aload_n hx hb d_ps_isNear_18 rfl (lv_at hl 0 rfl) ?_
          refine lv_iload_n hx hb d_ps_isNear_19 rfl (lv_at hl 1 rfl) ?_
          have hPc : va_P (kD K) vwCl [] _ := hP.sub [] rfl
          refine vp_callSi (va_Run.run (va_runSN (As := [.int sq]) (rest := [.ref Ph]) ⟨hx, hb, hml, hown, htg⟩ (c_gn_fileOf l K sq) (⟨va_cnB 1 htg (g_w q_424) rfl rfl rfl (hG.nw 28 rfl) (htg _ q_1) k_gn_fileOf ⟨Nat.le_of_ble_eq_true rfl, Nat.le_of_ble_eq_true rfl⟩, htg _ q_423, trivial⟩) ⟨ro_blind, ro_use hPc hK hG hS trivial⟩ rfl rfl hl.1 rfl (lv_room (Nat.le_of_ble_eq_true rfl)) d_ps_isNear_20 ⟨Nat.zero_le _, Nat.zero_le _⟩)) (fun r_3 hw_3 => ?_)
          have hF := hF.trans (bnd_s hw_3.1)
          refine lv_aload_n hx hb d_ps_isNear_23 rfl (lv_at hl 3 rfl) ?_
          refine lv_iload hx hb d_ps_isNear_24 (lv_at hl 5 rfl) ?_
          have h_4 : vp_in v5 (tbN fs) := lp_in i0 c_1 (Int.le_of_eq (tb_i h_fs))
          refine va_ti (v := .int ((tbl fs) v5.toNatClampNeg)) hx hb (hG.tab fs h_fs) hS h_4 rfl d_ps_isNear_26 ?_
          refine lv_iadd hx hb d_ps_isNear_27 ?_
          refine lv_iload_n hx hb d_ps_isNear_28 rfl (lv_at hl 1 rfl) ?_
          have hPc : va_P (kD K) vwCl [] _ := hP.sub [] rfl
          refine vp_callSi (va_Run.run (va_runSN (As := [.int sq]) (rest := [.int (r_3 + ((tbl fs) v5.toNatClampNeg)), .ref Ph]) ⟨hx, hb, hml, hown, htg⟩ (c_gn_rankOf l K sq) (⟨va_cnB 1 htg (g_w q_427) rfl rfl rfl (hG.nw 29 rfl) (htg _ q_1) k_gn_rankOf ⟨Nat.le_of_ble_eq_true rfl, Nat.le_of_ble_eq_true rfl⟩, htg _ q_426, trivial⟩) ⟨ro_blind, ro_use hPc hK hG hS trivial⟩ rfl rfl hl.1 rfl (lv_room (Nat.le_of_ble_eq_true rfl)) d_ps_isNear_29 ⟨Nat.zero_le _, Nat.zero_le _⟩)) (fun r_5 hw_5 => ?_)
          have hF := hF.trans (bnd_s hw_5.1)
          refine lv_aload hx hb d_ps_isNear_32 (lv_at hl 4 rfl) ?_
          refine lv_iload hx hb d_ps_isNear_34 (lv_at hl 5 rfl) ?_
          have h_6 : vp_in v5 (tbN rs) := lp_in i0 c_2 (Int.le_of_eq (tb_i h_rs))
          refine va_ti (v := .int ((tbl rs) v5.toNatClampNeg)) hx hb (hG.tab rs h_rs) hS h_6 rfl d_ps_isNear_36 ?_
          refine lv_iadd hx hb d_ps_isNear_37 ?_
          have hPc : va_P (kD K) vwCl [(Ph, .inr (2, [.ref Pa0, .int P.2.1, .int P.2.2.1, .int P.2.2.2.1, .int P.2.2.2.2.1, .int P.2.2.2.2.2])), (Pa0, .inl ((kI K), 64, .inl P.1))] _ := hP.sub [0, 1] rfl
          refine vp_callSi (va_Run.run (va_runV (As := [.int (r_3 + ((tbl fs) v5.toNatClampNeg)), .int (r_5 + ((tbl rs) v5.toNatClampNeg))]) (rest := []) ⟨hx, hb, hml, hown, htg⟩ (c_ps_manAt l K Ph Pa0 P (r_3 + ((tbl fs) v5.toNatClampNeg)) (r_5 + ((tbl rs) v5.toNatClampNeg))) (cwV 2 htg (g_V q_369 q_370 q_371 q_6 (g_w q_372)) rfl rfl rfl ⟨rfl, k_ps_manAt⟩ ⟨Nat.le_of_ble_eq_true rfl, Nat.le_of_ble_eq_true rfl⟩) ⟨ro_blind, va_recv hK hPc (ci := 2) (q0 := 0) rfl rfl, ro_use hPc hK hG hS trivial⟩ rfl rfl hl.1 rfl (lv_room (Nat.le_of_ble_eq_true rfl)) d_ps_isNear_38 ⟨Nat.zero_le _, Nat.zero_le _⟩)) (fun r_7 hw_7 => ?_)
          have hF := hF.trans (bnd_s hw_7.1)
          refine lv_iload_n hx hb d_ps_isNear_41 rfl (lv_at hl 2 rfl) ?_
          refine lv_icmp_ne (tgt := 47) hx hb d_ps_isNear_42 (by decide) (fun c_8 => ?_) (fun c_8 => ?_)
          · have hF := hF.trans (if_neg c_8)
            refine lv_iinc (v := v5 + (1 : Int32)) (lv' := [(5, .int (v5 + (1 : Int32))), (0, .ref Ph), (1, .int sq), (2, .int mn), (3, .ref (kT K fs)), (4, .ref (kT K rs))]) hx hb d_ps_isNear_47 hl (k := 5) rfl rfl (by decide) rfl (fun ls hl => ?_)
            refine lv_goto (tgt := 3) hx hb d_ps_isNear_50 (by decide) ?_
            exact ih3  (v5 + (1 : Int32)) ls (lp_s i0 c_1) (lp_d i0 c_1 (tb_le h_fs) hm) (lv_sub hl [1, 2, 3, 4, 5, 0] rfl) hF
          · have hF := hF.trans (if_pos c_8)
            refine lv_iconst (v := 1) hx hb d_ps_isNear_45 (by decide) ?_
            exact W.zret (v := (1 : Int32)) hx hb hr (rfl) (fun t ht hW => ⟨_, rfl, ⟨hF, rfl⟩, ht⟩) hS.2.2 d_ps_isNear_46
  exact loop3 9 (0 : Int32) ls (by decide) (by decide) (lv_sub hl [1, 2, 3, 4, 5, 0] rfl) hF
def f_ps_isAttackedByPawn (P : PsT) (sq : Int32) (by_ : Int32) : Int32 := (bnd (f_gn_manOf (1 : Int32) by_) (fun r_1 => (if by_ = 0 then (bnd (f_gn_rankOf sq) (fun r_10 => (bnd (f_gn_fileOf sq) (fun r_11 => (bnd (f_ps_manAt P (r_11 - (1 : Int32)) (r_10 - (1 : Int32))) (fun r_12 => (if r_12 = r_1 then (1 : Int32) else (bnd (f_gn_fileOf sq) (fun r_14 => (bnd (f_ps_manAt P (r_14 + (1 : Int32)) (r_10 - (1 : Int32))) (fun r_15 => (if r_15 = r_1 then (1 : Int32) else (0 : Int32))))))))))))) else (bnd (f_gn_rankOf sq) (fun r_3 => (bnd (f_gn_fileOf sq) (fun r_4 => (bnd (f_ps_manAt P (r_4 - (1 : Int32)) (r_3 + (1 : Int32))) (fun r_5 => (if r_5 = r_1 then (1 : Int32) else (bnd (f_gn_fileOf sq) (fun r_7 => (bnd (f_ps_manAt P (r_7 + (1 : Int32)) (r_3 + (1 : Int32))) (fun r_8 => (if r_8 = r_1 then (1 : Int32) else (0 : Int32))))))))))))))))
set_option maxHeartbeats 4000000 in
set_option maxRecDepth 100000 in
theorem c_ps_isAttackedByPawn (l : Launch) (K : KT) (Ph Pa0 : Nat) (P : PsT) (sq : Int32) (by_ : Int32) : Met l y_ps_isAttackedByPawn w_ps_isAttackedByPawn ({ frames := 1, cells := 0, slots := 0, locals := 23 } : Room) (va_Pc [.ref Ph, .int sq, .int by_] (fun U => pRO K [(Ph, .inr (2, [.ref Pa0, .int P.2.1, .int P.2.2.1, .int P.2.2.2.1, .int P.2.2.2.2.1, .int P.2.2.2.2.2])), (Pa0, .inl ((kI K), 64, .inl P.1))] U ∧ True)) (vp_Si (fun r => f_ps_isAttackedByPawn P sq by_ = r ∧ narrow .boolean (.int r) = .int r)) 0 0 (fun _ => False) := by
  refine Met.ofW (cc := b_ps_isAttackedByPawn) (maxL := 5) (ret := (some .boolean)) (by decide) rfl ?_
  intro p e s m args below meth c s₁ B hml hv
  obtain ⟨rfl, ⟨hP, hK, hG⟩, -⟩ := hv
  have hx := B.exec
  have hb := B.bytes
  have hr := B.returns
  have hts := atoms_spec (ws := w_ps_isAttackedByPawn) B.pre
  have hown : s.vm.findClass R_ps = some m.cls := findClass_of_methodNamed B.named
  have hlocks := B.notSynchronized
  have htg := fun w h => hts w (List.mem_cons_of_mem _ h)
  have hS : va_S (fun _ => False) s.heap s.heap [] := va_S.rf
  have hl := lv_entry ([.ref Ph, .int sq, .int by_]) (n := 5) (Nat.le_of_ble_eq_true rfl)
  rw [lg_entry_eq]
  generalize (lg_sl ([.ref Ph, .int sq, .int by_]) ++ List.replicate (5 - (lg_sl ([.ref Ph, .int sq, .int by_])).length) Slot.unset).toArray = ls at hl ⊢
  have hl : lv_has ls 5 [(0, .ref Ph), (1, .int sq), (2, .int by_)] := hl
  have hF := f_ps_isAttackedByPawn.eq_1 P sq by_
  refine lv_iconst (v := 1) hx hb d_ps_isAttackedByPawn_0 (by decide) ?_
  refine lv_iload_n hx hb d_ps_isAttackedByPawn_1 rfl (lv_at hl 2 rfl) ?_
  have hPc : va_P (kD K) vwCl [] _ := hP.sub [] rfl
  refine vp_callSi (va_Run.run (va_runSN (As := [.int (1 : Int32), .int by_]) (rest := []) ⟨hx, hb, hml, hown, htg⟩ (c_gn_manOf l K (1 : Int32) by_) (⟨va_cnB 2 htg (g_w q_360) rfl rfl rfl (hG.nw 25 rfl) (htg _ q_1) k_gn_manOf ⟨Nat.le_of_ble_eq_true rfl, Nat.le_of_ble_eq_true rfl⟩, htg _ q_359, trivial⟩) ⟨ro_blind, ro_use hPc hK hG hS trivial⟩ rfl rfl hl.1 rfl (lv_room (Nat.le_of_ble_eq_true rfl)) d_ps_isAttackedByPawn_2 ⟨Nat.zero_le _, Nat.zero_le _⟩)) (fun r_1 hw_1 => ?_)
  have hF := hF.trans (bnd_s hw_1.1)
  refine lv_istore_n (lv' := [(3, .int r_1), (0, .ref Ph), (1, .int sq), (2, .int by_)]) hx hb d_ps_isAttackedByPawn_5 rfl hl (by decide) rfl (fun ls hl => ?_)
  refine lv_iload_n hx hb d_ps_isAttackedByPawn_6 rfl (lv_at hl 3 rfl) ?_
  refine lv_if_ne (tgt := 19) hx hb d_ps_isAttackedByPawn_7 (by decide) (fun c_2 => ?_) (fun c_2 => ?_)
  · have hF := hF.trans (if_neg c_2)
    refine lv_iload_n hx hb d_ps_isAttackedByPawn_19 rfl (lv_at hl 2 rfl) ?_
    have hPc : va_P (kD K) vwCl [] _ := hP.sub [] rfl
    refine vp_callSi (va_Run.run (va_runSN (As := [.int sq]) (rest := []) ⟨hx, hb, hml, hown, htg⟩ (c_gn_rankOf l K sq) (⟨va_cnB 1 htg (g_w q_427) rfl rfl rfl (hG.nw 29 rfl) (htg _ q_1) k_gn_rankOf ⟨Nat.le_of_ble_eq_true rfl, Nat.le_of_ble_eq_true rfl⟩, htg _ q_426, trivial⟩) ⟨ro_blind, ro_use hPc hK hG hS trivial⟩ rfl rfl hl.1 rfl (lv_room (Nat.le_of_ble_eq_true rfl)) d_ps_isAttackedByPawn_20 ⟨Nat.zero_le _, Nat.zero_le _⟩)) (fun r_3 hw_3 => ?_)
    have hF := hF.trans (bnd_s hw_3.1)
    refine lv_iconst (v := 1) hx hb d_ps_isAttackedByPawn_23 (by decide) ?_
    refine lv_iadd hx hb d_ps_isAttackedByPawn_24 ?_
    refine lv_istore (lv' := [(4, .int (r_3 + (1 : Int32))), (3, .int r_1), (0, .ref Ph), (1, .int sq), (2, .int by_)]) hx hb d_ps_isAttackedByPawn_25 hl (by decide) rfl (fun ls hl => ?_)
    refine lv_aload_n hx hb d_ps_isAttackedByPawn_27 rfl (lv_at hl 2 rfl) ?_
    refine lv_iload_n hx hb d_ps_isAttackedByPawn_28 rfl (lv_at hl 3 rfl) ?_
    have hPc : va_P (kD K) vwCl [] _ := hP.sub [] rfl
    refine vp_callSi (va_Run.run (va_runSN (As := [.int sq]) (rest := [.ref Ph]) ⟨hx, hb, hml, hown, htg⟩ (c_gn_fileOf l K sq) (⟨va_cnB 1 htg (g_w q_424) rfl rfl rfl (hG.nw 28 rfl) (htg _ q_1) k_gn_fileOf ⟨Nat.le_of_ble_eq_true rfl, Nat.le_of_ble_eq_true rfl⟩, htg _ q_423, trivial⟩) ⟨ro_blind, ro_use hPc hK hG hS trivial⟩ rfl rfl hl.1 rfl (lv_room (Nat.le_of_ble_eq_true rfl)) d_ps_isAttackedByPawn_29 ⟨Nat.zero_le _, Nat.zero_le _⟩)) (fun r_4 hw_4 => ?_)
    have hF := hF.trans (bnd_s hw_4.1)
    refine lv_iconst (v := 1) hx hb d_ps_isAttackedByPawn_32 (by decide) ?_
    refine lv_isub hx hb d_ps_isAttackedByPawn_33 ?_
    refine lv_iload hx hb d_ps_isAttackedByPawn_34 (lv_at hl 0 rfl) ?_
    have hPc : va_P (kD K) vwCl [(Ph, .inr (2, [.ref Pa0, .int P.2.1, .int P.2.2.1, .int P.2.2.2.1, .int P.2.2.2.2.1, .int P.2.2.2.2.2])), (Pa0, .inl ((kI K), 64, .inl P.1))] _ := hP.sub [0, 1] rfl
    refine vp_callSi (va_Run.run (va_runV (As := [.int (r_4 - (1 : Int32)), .int (r_3 + (1 : Int32))]) (rest := []) ⟨hx, hb, hml, hown, htg⟩ (c_ps_manAt l K Ph Pa0 P (r_4 - (1 : Int32)) (r_3 + (1 : Int32))) (cwV 2 htg (g_V q_369 q_370 q_371 q_6 (g_w q_372)) rfl rfl rfl ⟨rfl, k_ps_manAt⟩ ⟨Nat.le_of_ble_eq_true rfl, Nat.le_of_ble_eq_true rfl⟩) ⟨ro_blind, va_recv hK hPc (ci := 2) (q0 := 0) rfl rfl, ro_use hPc hK hG hS trivial⟩ rfl rfl hl.1 rfl (lv_room (Nat.le_of_ble_eq_true rfl)) d_ps_isAttackedByPawn_36 ⟨Nat.zero_le _, Nat.zero_le _⟩)) (fun r_5 hw_5 => ?_)
    have hF := hF.trans (bnd_s hw_5.1)
    refine lv_iload_n hx hb d_ps_isAttackedByPawn_39 rfl (lv_at hl 1 rfl) ?_
    refine lv_icmp_eq (tgt := 59) hx hb d_ps_isAttackedByPawn_40 (by decide) (fun c_6 => ?_) (fun c_6 => ?_)
    · have hF := hF.trans (if_pos c_6)
      refine lv_iconst (v := 1) hx hb d_ps_isAttackedByPawn_59 (by decide) ?_
      refine lv_goto (tgt := 64) hx hb d_ps_isAttackedByPawn_60 (by decide) ?_
      exact W.zret (v := (1 : Int32)) hx hb hr (rfl) (fun t ht hW => ⟨_, rfl, ⟨hF, rfl⟩, ht⟩) hS.2.2 d_ps_isAttackedByPawn_64
    · have hF := hF.trans (if_neg c_6)
      refine lv_aload_n hx hb d_ps_isAttackedByPawn_43 rfl (lv_at hl 2 rfl) ?_
      refine lv_iload_n hx hb d_ps_isAttackedByPawn_44 rfl (lv_at hl 3 rfl) ?_
      have hPc : va_P (kD K) vwCl [] _ := hP.sub [] rfl
      refine vp_callSi (va_Run.run (va_runSN (As := [.int sq]) (rest := [.ref Ph]) ⟨hx, hb, hml, hown, htg⟩ (c_gn_fileOf l K sq) (⟨va_cnB 1 htg (g_w q_424) rfl rfl rfl (hG.nw 28 rfl) (htg _ q_1) k_gn_fileOf ⟨Nat.le_of_ble_eq_true rfl, Nat.le_of_ble_eq_true rfl⟩, htg _ q_423, trivial⟩) ⟨ro_blind, ro_use hPc hK hG hS trivial⟩ rfl rfl hl.1 rfl (lv_room (Nat.le_of_ble_eq_true rfl)) d_ps_isAttackedByPawn_45 ⟨Nat.zero_le _, Nat.zero_le _⟩)) (fun r_7 hw_7 => ?_)
      have hF := hF.trans (bnd_s hw_7.1)
      refine lv_iconst (v := 1) hx hb d_ps_isAttackedByPawn_48 (by decide) ?_
      refine lv_iadd hx hb d_ps_isAttackedByPawn_49 ?_
      refine lv_iload hx hb d_ps_isAttackedByPawn_50 (lv_at hl 0 rfl) ?_
      have hPc : va_P (kD K) vwCl [(Ph, .inr (2, [.ref Pa0, .int P.2.1, .int P.2.2.1, .int P.2.2.2.1, .int P.2.2.2.2.1, .int P.2.2.2.2.2])), (Pa0, .inl ((kI K), 64, .inl P.1))] _ := hP.sub [0, 1] rfl
      refine vp_callSi (va_Run.run (va_runV (As := [.int (r_7 + (1 : Int32)), .int (r_3 + (1 : Int32))]) (rest := []) ⟨hx, hb, hml, hown, htg⟩ (c_ps_manAt l K Ph Pa0 P (r_7 + (1 : Int32)) (r_3 + (1 : Int32))) (cwV 2 htg (g_V q_369 q_370 q_371 q_6 (g_w q_372)) rfl rfl rfl ⟨rfl, k_ps_manAt⟩ ⟨Nat.le_of_ble_eq_true rfl, Nat.le_of_ble_eq_true rfl⟩) ⟨ro_blind, va_recv hK hPc (ci := 2) (q0 := 0) rfl rfl, ro_use hPc hK hG hS trivial⟩ rfl rfl hl.1 rfl (lv_room (Nat.le_of_ble_eq_true rfl)) d_ps_isAttackedByPawn_52 ⟨Nat.zero_le _, Nat.zero_le _⟩)) (fun r_8 hw_8 => ?_)
      have hF := hF.trans (bnd_s hw_8.1)
      refine lv_iload_n hx hb d_ps_isAttackedByPawn_55 rfl (lv_at hl 1 rfl) ?_
      refine lv_icmp_ne (tgt := 63) hx hb d_ps_isAttackedByPawn_56 (by decide) (fun c_9 => ?_) (fun c_9 => ?_)
      · have hF := hF.trans (if_neg c_9)
        refine lv_iconst (v := 0) hx hb d_ps_isAttackedByPawn_63 (by decide) ?_
        exact W.zret (v := (0 : Int32)) hx hb hr (rfl) (fun t ht hW => ⟨_, rfl, ⟨hF, rfl⟩, ht⟩) hS.2.2 d_ps_isAttackedByPawn_64
      · have hF := hF.trans (if_pos c_9)
        refine lv_iconst (v := 1) hx hb d_ps_isAttackedByPawn_59 (by decide) ?_
        refine lv_goto (tgt := 64) hx hb d_ps_isAttackedByPawn_60 (by decide) ?_
        exact W.zret (v := (1 : Int32)) hx hb hr (rfl) (fun t ht hW => ⟨_, rfl, ⟨hF, rfl⟩, ht⟩) hS.2.2 d_ps_isAttackedByPawn_64
  · have hF := hF.trans (if_pos c_2)
    refine lv_iload_n hx hb d_ps_isAttackedByPawn_10 rfl (lv_at hl 2 rfl) ?_
    have hPc : va_P (kD K) vwCl [] _ := hP.sub [] rfl
    refine vp_callSi (va_Run.run (va_runSN (As := [.int sq]) (rest := []) ⟨hx, hb, hml, hown, htg⟩ (c_gn_rankOf l K sq) (⟨va_cnB 1 htg (g_w q_427) rfl rfl rfl (hG.nw 29 rfl) (htg _ q_1) k_gn_rankOf ⟨Nat.le_of_ble_eq_true rfl, Nat.le_of_ble_eq_true rfl⟩, htg _ q_426, trivial⟩) ⟨ro_blind, ro_use hPc hK hG hS trivial⟩ rfl rfl hl.1 rfl (lv_room (Nat.le_of_ble_eq_true rfl)) d_ps_isAttackedByPawn_11 ⟨Nat.zero_le _, Nat.zero_le _⟩)) (fun r_10 hw_10 => ?_)
    have hF := hF.trans (bnd_s hw_10.1)
    refine lv_iconst (v := 1) hx hb d_ps_isAttackedByPawn_14 (by decide) ?_
    refine lv_isub hx hb d_ps_isAttackedByPawn_15 ?_
    refine lv_goto (tgt := 25) hx hb d_ps_isAttackedByPawn_16 (by decide) ?_
    refine lv_istore (lv' := [(4, .int (r_10 - (1 : Int32))), (3, .int r_1), (0, .ref Ph), (1, .int sq), (2, .int by_)]) hx hb d_ps_isAttackedByPawn_25 hl (by decide) rfl (fun ls hl => ?_)
    refine lv_aload_n hx hb d_ps_isAttackedByPawn_27 rfl (lv_at hl 2 rfl) ?_
    refine lv_iload_n hx hb d_ps_isAttackedByPawn_28 rfl (lv_at hl 3 rfl) ?_
    have hPc : va_P (kD K) vwCl [] _ := hP.sub [] rfl
    refine vp_callSi (va_Run.run (va_runSN (As := [.int sq]) (rest := [.ref Ph]) ⟨hx, hb, hml, hown, htg⟩ (c_gn_fileOf l K sq) (⟨va_cnB 1 htg (g_w q_424) rfl rfl rfl (hG.nw 28 rfl) (htg _ q_1) k_gn_fileOf ⟨Nat.le_of_ble_eq_true rfl, Nat.le_of_ble_eq_true rfl⟩, htg _ q_423, trivial⟩) ⟨ro_blind, ro_use hPc hK hG hS trivial⟩ rfl rfl hl.1 rfl (lv_room (Nat.le_of_ble_eq_true rfl)) d_ps_isAttackedByPawn_29 ⟨Nat.zero_le _, Nat.zero_le _⟩)) (fun r_11 hw_11 => ?_)
    have hF := hF.trans (bnd_s hw_11.1)
    refine lv_iconst (v := 1) hx hb d_ps_isAttackedByPawn_32 (by decide) ?_
    refine lv_isub hx hb d_ps_isAttackedByPawn_33 ?_
    refine lv_iload hx hb d_ps_isAttackedByPawn_34 (lv_at hl 0 rfl) ?_
    have hPc : va_P (kD K) vwCl [(Ph, .inr (2, [.ref Pa0, .int P.2.1, .int P.2.2.1, .int P.2.2.2.1, .int P.2.2.2.2.1, .int P.2.2.2.2.2])), (Pa0, .inl ((kI K), 64, .inl P.1))] _ := hP.sub [0, 1] rfl
    refine vp_callSi (va_Run.run (va_runV (As := [.int (r_11 - (1 : Int32)), .int (r_10 - (1 : Int32))]) (rest := []) ⟨hx, hb, hml, hown, htg⟩ (c_ps_manAt l K Ph Pa0 P (r_11 - (1 : Int32)) (r_10 - (1 : Int32))) (cwV 2 htg (g_V q_369 q_370 q_371 q_6 (g_w q_372)) rfl rfl rfl ⟨rfl, k_ps_manAt⟩ ⟨Nat.le_of_ble_eq_true rfl, Nat.le_of_ble_eq_true rfl⟩) ⟨ro_blind, va_recv hK hPc (ci := 2) (q0 := 0) rfl rfl, ro_use hPc hK hG hS trivial⟩ rfl rfl hl.1 rfl (lv_room (Nat.le_of_ble_eq_true rfl)) d_ps_isAttackedByPawn_36 ⟨Nat.zero_le _, Nat.zero_le _⟩)) (fun r_12 hw_12 => ?_)
    have hF := hF.trans (bnd_s hw_12.1)
    refine lv_iload_n hx hb d_ps_isAttackedByPawn_39 rfl (lv_at hl 1 rfl) ?_
    refine lv_icmp_eq (tgt := 59) hx hb d_ps_isAttackedByPawn_40 (by decide) (fun c_13 => ?_) (fun c_13 => ?_)
    · have hF := hF.trans (if_pos c_13)
      refine lv_iconst (v := 1) hx hb d_ps_isAttackedByPawn_59 (by decide) ?_
      refine lv_goto (tgt := 64) hx hb d_ps_isAttackedByPawn_60 (by decide) ?_
      exact W.zret (v := (1 : Int32)) hx hb hr (rfl) (fun t ht hW => ⟨_, rfl, ⟨hF, rfl⟩, ht⟩) hS.2.2 d_ps_isAttackedByPawn_64
    · have hF := hF.trans (if_neg c_13)
      refine lv_aload_n hx hb d_ps_isAttackedByPawn_43 rfl (lv_at hl 2 rfl) ?_
      refine lv_iload_n hx hb d_ps_isAttackedByPawn_44 rfl (lv_at hl 3 rfl) ?_
      have hPc : va_P (kD K) vwCl [] _ := hP.sub [] rfl
      refine vp_callSi (va_Run.run (va_runSN (As := [.int sq]) (rest := [.ref Ph]) ⟨hx, hb, hml, hown, htg⟩ (c_gn_fileOf l K sq) (⟨va_cnB 1 htg (g_w q_424) rfl rfl rfl (hG.nw 28 rfl) (htg _ q_1) k_gn_fileOf ⟨Nat.le_of_ble_eq_true rfl, Nat.le_of_ble_eq_true rfl⟩, htg _ q_423, trivial⟩) ⟨ro_blind, ro_use hPc hK hG hS trivial⟩ rfl rfl hl.1 rfl (lv_room (Nat.le_of_ble_eq_true rfl)) d_ps_isAttackedByPawn_45 ⟨Nat.zero_le _, Nat.zero_le _⟩)) (fun r_14 hw_14 => ?_)
      have hF := hF.trans (bnd_s hw_14.1)
      refine lv_iconst (v := 1) hx hb d_ps_isAttackedByPawn_48 (by decide) ?_
      refine lv_iadd hx hb d_ps_isAttackedByPawn_49 ?_
      refine lv_iload hx hb d_ps_isAttackedByPawn_50 (lv_at hl 0 rfl) ?_
      have hPc : va_P (kD K) vwCl [(Ph, .inr (2, [.ref Pa0, .int P.2.1, .int P.2.2.1, .int P.2.2.2.1, .int P.2.2.2.2.1, .int P.2.2.2.2.2])), (Pa0, .inl ((kI K), 64, .inl P.1))] _ := hP.sub [0, 1] rfl
      refine vp_callSi (va_Run.run (va_runV (As := [.int (r_14 + (1 : Int32)), .int (r_10 - (1 : Int32))]) (rest := []) ⟨hx, hb, hml, hown, htg⟩ (c_ps_manAt l K Ph Pa0 P (r_14 + (1 : Int32)) (r_10 - (1 : Int32))) (cwV 2 htg (g_V q_369 q_370 q_371 q_6 (g_w q_372)) rfl rfl rfl ⟨rfl, k_ps_manAt⟩ ⟨Nat.le_of_ble_eq_true rfl, Nat.le_of_ble_eq_true rfl⟩) ⟨ro_blind, va_recv hK hPc (ci := 2) (q0 := 0) rfl rfl, ro_use hPc hK hG hS trivial⟩ rfl rfl hl.1 rfl (lv_room (Nat.le_of_ble_eq_true rfl)) d_ps_isAttackedByPawn_52 ⟨Nat.zero_le _, Nat.zero_le _⟩)) (fun r_15 hw_15 => ?_)
      have hF := hF.trans (bnd_s hw_15.1)
      refine lv_iload_n hx hb d_ps_isAttackedByPawn_55 rfl (lv_at hl 1 rfl) ?_
      refine lv_icmp_ne (tgt := 63) hx hb d_ps_isAttackedByPawn_56 (by decide) (fun c_16 => ?_) (fun c_16 => ?_)
      · have hF := hF.trans (if_neg c_16)
        refine lv_iconst (v := 0) hx hb d_ps_isAttackedByPawn_63 (by decide) ?_
        exact W.zret (v := (0 : Int32)) hx hb hr (rfl) (fun t ht hW => ⟨_, rfl, ⟨hF, rfl⟩, ht⟩) hS.2.2 d_ps_isAttackedByPawn_64
      · have hF := hF.trans (if_pos c_16)
        refine lv_iconst (v := 1) hx hb d_ps_isAttackedByPawn_59 (by decide) ?_
        refine lv_goto (tgt := 64) hx hb d_ps_isAttackedByPawn_60 (by decide) ?_
        exact W.zret (v := (1 : Int32)) hx hb hr (rfl) (fun t ht hW => ⟨_, rfl, ⟨hF, rfl⟩, ht⟩) hS.2.2 d_ps_isAttackedByPawn_64
def f_ps_firstInLine_L3 (P : PsT) (sq : Int32) (fi : Int32) (ra : Int32) : Nat → Int32 → Int32
  | 0, _ => 0
  | n + 1, v4 => (if (8 : Int32) ≤ v4 then (-1 : Int32) else (bnd (f_gn_fileOf sq) (fun r_2 => (bnd (f_gn_rankOf sq) (fun r_3 => (bnd (f_ps_manAt P (r_2 + (v4 * fi)) (r_3 + (v4 * ra))) (fun r_4 => (if r_4 = 0 then (f_ps_firstInLine_L3 P sq fi ra  n (v4 + (1 : Int32))) else r_4))))))))
def f_ps_firstInLine (P : PsT) (sq : Int32) (fi : Int32) (ra : Int32) : Int32 := (f_ps_firstInLine_L3 P sq fi ra  9 (1 : Int32))
set_option maxHeartbeats 4000000 in
set_option maxRecDepth 100000 in
theorem c_ps_firstInLine (l : Launch) (K : KT) (Ph Pa0 : Nat) (P : PsT) (sq : Int32) (fi : Int32) (ra : Int32) : Met l y_ps_firstInLine w_ps_firstInLine ({ frames := 1, cells := 0, slots := 0, locals := 23 } : Room) (va_Pc [.ref Ph, .int sq, .int fi, .int ra] (fun U => pRO K [(Ph, .inr (2, [.ref Pa0, .int P.2.1, .int P.2.2.1, .int P.2.2.2.1, .int P.2.2.2.2.1, .int P.2.2.2.2.2])), (Pa0, .inl ((kI K), 64, .inl P.1))] U ∧ True)) (vp_Si (fun r => f_ps_firstInLine P sq fi ra = r ∧ True)) 0 0 (fun _ => False) := by
  refine Met.ofW (cc := b_ps_firstInLine) (maxL := 6) (ret := (some .int)) (by decide) rfl ?_
  intro p e s m args below meth c s₁ B hml hv
  obtain ⟨rfl, ⟨hP, hK, hG⟩, -⟩ := hv
  have hx := B.exec
  have hb := B.bytes
  have hr := B.returns
  have hts := atoms_spec (ws := w_ps_firstInLine) B.pre
  have hown : s.vm.findClass R_ps = some m.cls := findClass_of_methodNamed B.named
  have hlocks := B.notSynchronized
  have htg := fun w h => hts w (List.mem_cons_of_mem _ h)
  have hS : va_S (fun _ => False) s.heap s.heap [] := va_S.rf
  have hl := lv_entry ([.ref Ph, .int sq, .int fi, .int ra]) (n := 6) (Nat.le_of_ble_eq_true rfl)
  rw [lg_entry_eq]
  generalize (lg_sl ([.ref Ph, .int sq, .int fi, .int ra]) ++ List.replicate (6 - (lg_sl ([.ref Ph, .int sq, .int fi, .int ra])).length) Slot.unset).toArray = ls at hl ⊢
  have hl : lv_has ls 6 [(0, .ref Ph), (1, .int sq), (2, .int fi), (3, .int ra)] := hl
  have hF := f_ps_firstInLine.eq_1 P sq fi ra
  refine lv_iconst (v := 1) hx hb d_ps_firstInLine_0 (by decide) ?_
  refine lv_istore (lv' := [(4, .int (1 : Int32)), (0, .ref Ph), (1, .int sq), (2, .int fi), (3, .int ra)]) hx hb d_ps_firstInLine_1 hl (by decide) rfl (fun ls hl => ?_)
  have loop3 : ∀ (n3 : Nat) (v4 : Int32) (ls : Array Slot), 0 ≤ v4.toInt → (8 - v4.toInt).toNat < n3 → lv_has ls 6 [(0, .ref Ph), (1, .int sq), (2, .int fi), (3, .int ra), (4, .int v4)] → f_ps_firstInLine P sq fi ra = f_ps_firstInLine_L3 P sq fi ra  n3 v4 → W p l e (headSpec w_ps_firstInLine ({ frames := 1, cells := 0, slots := 0, locals := 23 } : Room)).room s m ([(.ref Ph : Value), .int sq, .int fi, .int ra].toArray) below meth c s.heap [] 0 0 (MQ below (vp_Si (fun r => f_ps_firstInLine P sq fi ra = r ∧ True)) ([(.ref Ph : Value), .int sq, .int fi, .int ra].toArray) s 0 0 ((fun _ => False))) (F0 m 3 ls []) := by
    intro n3
    induction n3 with
    | zero =>
      intro _ _ _ hz
      exact absurd hz (Nat.not_lt_zero _)
    | succ n3 ih3 =>
      intro v4 ls i0 hm hl hF
      rw [f_ps_firstInLine_L3] at hF
      refine lv_iload hx hb d_ps_firstInLine_3 (lv_at hl 4 rfl) ?_
      refine lv_bipush (v := 8) hx hb d_ps_firstInLine_5 (by decide) ?_
      refine lv_icmp_ge (tgt := 48) hx hb d_ps_firstInLine_7 (by decide) (fun c_1 => ?_) (fun c_1 => ?_)
      · have hF := hF.trans (if_pos c_1)
        refine lv_iconst (v := -1) hx hb d_ps_firstInLine_48 (by decide) ?_
        exact W.iret (v := (-1 : Int32)) hx hb hr (fun t ht hW => ⟨_, rfl, ⟨hF, trivial⟩, ht⟩) hS.2.2 d_ps_firstInLine_49
      · have hF := hF.trans (if_neg c_1)
        refine lv_aload_n hx hb d_ps_firstInLine_10 rfl (lv_at hl 0 rfl) ?_
        refine lv_iload_n hx hb d_ps_firstInLine_11 rfl (lv_at hl 1 rfl) ?_
        have hPc : va_P (kD K) vwCl [] _ := hP.sub [] rfl
        refine vp_callSi (va_Run.run (va_runSN (As := [.int sq]) (rest := [.ref Ph]) ⟨hx, hb, hml, hown, htg⟩ (c_gn_fileOf l K sq) (⟨va_cnB 1 htg (g_w q_424) rfl rfl rfl (hG.nw 28 rfl) (htg _ q_1) k_gn_fileOf ⟨Nat.le_of_ble_eq_true rfl, Nat.le_of_ble_eq_true rfl⟩, htg _ q_423, trivial⟩) ⟨ro_blind, ro_use hPc hK hG hS trivial⟩ rfl rfl hl.1 rfl (lv_room (Nat.le_of_ble_eq_true rfl)) d_ps_firstInLine_12 ⟨Nat.zero_le _, Nat.zero_le _⟩)) (fun r_2 hw_2 => ?_)
        have hF := hF.trans (bnd_s hw_2.1)
        refine lv_iload hx hb d_ps_firstInLine_15 (lv_at hl 4 rfl) ?_
        refine lv_iload_n hx hb d_ps_firstInLine_17 rfl (lv_at hl 2 rfl) ?_
        refine lv_imul hx hb d_ps_firstInLine_18 ?_
        refine lv_iadd hx hb d_ps_firstInLine_19 ?_
        refine lv_iload_n hx hb d_ps_firstInLine_20 rfl (lv_at hl 1 rfl) ?_
        have hPc : va_P (kD K) vwCl [] _ := hP.sub [] rfl
        refine vp_callSi (va_Run.run (va_runSN (As := [.int sq]) (rest := [.int (r_2 + (v4 * fi)), .ref Ph]) ⟨hx, hb, hml, hown, htg⟩ (c_gn_rankOf l K sq) (⟨va_cnB 1 htg (g_w q_427) rfl rfl rfl (hG.nw 29 rfl) (htg _ q_1) k_gn_rankOf ⟨Nat.le_of_ble_eq_true rfl, Nat.le_of_ble_eq_true rfl⟩, htg _ q_426, trivial⟩) ⟨ro_blind, ro_use hPc hK hG hS trivial⟩ rfl rfl hl.1 rfl (lv_room (Nat.le_of_ble_eq_true rfl)) d_ps_firstInLine_21 ⟨Nat.zero_le _, Nat.zero_le _⟩)) (fun r_3 hw_3 => ?_)
        have hF := hF.trans (bnd_s hw_3.1)
        refine lv_iload hx hb d_ps_firstInLine_24 (lv_at hl 4 rfl) ?_
        refine lv_iload_n hx hb d_ps_firstInLine_26 rfl (lv_at hl 3 rfl) ?_
        refine lv_imul hx hb d_ps_firstInLine_27 ?_
        refine lv_iadd hx hb d_ps_firstInLine_28 ?_
        have hPc : va_P (kD K) vwCl [(Ph, .inr (2, [.ref Pa0, .int P.2.1, .int P.2.2.1, .int P.2.2.2.1, .int P.2.2.2.2.1, .int P.2.2.2.2.2])), (Pa0, .inl ((kI K), 64, .inl P.1))] _ := hP.sub [0, 1] rfl
        refine vp_callSi (va_Run.run (va_runV (As := [.int (r_2 + (v4 * fi)), .int (r_3 + (v4 * ra))]) (rest := []) ⟨hx, hb, hml, hown, htg⟩ (c_ps_manAt l K Ph Pa0 P (r_2 + (v4 * fi)) (r_3 + (v4 * ra))) (cwV 2 htg (g_V q_369 q_370 q_371 q_6 (g_w q_372)) rfl rfl rfl ⟨rfl, k_ps_manAt⟩ ⟨Nat.le_of_ble_eq_true rfl, Nat.le_of_ble_eq_true rfl⟩) ⟨ro_blind, va_recv hK hPc (ci := 2) (q0 := 0) rfl rfl, ro_use hPc hK hG hS trivial⟩ rfl rfl hl.1 rfl (lv_room (Nat.le_of_ble_eq_true rfl)) d_ps_firstInLine_29 ⟨Nat.zero_le _, Nat.zero_le _⟩)) (fun r_4 hw_4 => ?_)
        have hF := hF.trans (bnd_s hw_4.1)
        refine lv_istore (lv' := [(5, .int r_4), (0, .ref Ph), (1, .int sq), (2, .int fi), (3, .int ra), (4, .int v4)]) hx hb d_ps_firstInLine_32 hl (by decide) rfl (fun ls hl => ?_)
        refine lv_iload hx hb d_ps_firstInLine_34 (lv_at hl 0 rfl) ?_
        refine lv_if_eq (tgt := 42) hx hb d_ps_firstInLine_36 (by decide) (fun c_5 => ?_) (fun c_5 => ?_)
        · have hF := hF.trans (if_pos c_5)
          refine lv_iinc (v := v4 + (1 : Int32)) (lv' := [(4, .int (v4 + (1 : Int32))), (5, .int r_4), (0, .ref Ph), (1, .int sq), (2, .int fi), (3, .int ra)]) hx hb d_ps_firstInLine_42 hl (k := 5) rfl rfl (by decide) rfl (fun ls hl => ?_)
          refine lv_goto (tgt := 3) hx hb d_ps_firstInLine_45 (by decide) ?_
          exact ih3  (v4 + (1 : Int32)) ls (lp_s i0 c_1) (lp_d i0 c_1 (by decide) hm) (lv_sub hl [2, 3, 4, 5, 0] rfl) hF
        · have hF := hF.trans (if_neg c_5)
          refine lv_iload hx hb d_ps_firstInLine_39 (lv_at hl 0 rfl) ?_
          exact W.iret (v := r_4) hx hb hr (fun t ht hW => ⟨_, rfl, ⟨hF, trivial⟩, ht⟩) hS.2.2 d_ps_firstInLine_41
  exact loop3 9 (1 : Int32) ls (by decide) (by decide) (lv_sub hl [1, 2, 3, 4, 0] rfl) hF
def f_ps_isInLine_L3 (P : PsT) (sq : Int32) (mn : Int32) (by_ : Int32) (fs : Nat) (rs : Nat) : Nat → Int32 → Int32
  | 0, _ => 0
  | n + 1, v6 => (if (Int32.ofNat (tbN fs)) ≤ v6 then (0 : Int32) else (if (Int32.ofNat (tbN rs)) ≤ v6 then (0 : Int32) else (bnd (f_ps_firstInLine P sq ((tbl fs) v6.toNatClampNeg) ((tbl rs) v6.toNatClampNeg)) (fun r_5 => (if r_5 = mn then (1 : Int32) else (bnd (f_gn_manOf (5 : Int32) by_) (fun r_7 => (if r_5 = r_7 then (1 : Int32) else (f_ps_isInLine_L3 P sq mn by_ fs rs  n (v6 + (1 : Int32)))))))))))
def f_ps_isInLine (P : PsT) (sq : Int32) (mn : Int32) (by_ : Int32) (fs : Nat) (rs : Nat) : Int32 := (f_ps_isInLine_L3 P sq mn by_ fs rs  9 (0 : Int32))
set_option maxHeartbeats 4000000 in
set_option maxRecDepth 100000 in
theorem c_ps_isInLine (l : Launch) (K : KT) (Ph Pa0 : Nat) (P : PsT) (sq : Int32) (mn : Int32) (by_ : Int32) (fs : Nat) (rs : Nat) : Met l y_ps_isInLine w_ps_isInLine ({ frames := 2, cells := 0, slots := 0, locals := 48 } : Room) (va_Pc [.ref Ph, .int sq, .int mn, .int by_, .ref (kT K fs), .ref (kT K rs)] (fun U => pRO K [(Ph, .inr (2, [.ref Pa0, .int P.2.1, .int P.2.2.1, .int P.2.2.2.1, .int P.2.2.2.2.1, .int P.2.2.2.2.2])), (Pa0, .inl ((kI K), 64, .inl P.1))] U ∧ fs < nTAB ∧ rs < nTAB ∧ True)) (vp_Si (fun r => f_ps_isInLine P sq mn by_ fs rs = r ∧ narrow .boolean (.int r) = .int r)) 0 0 (fun _ => False) := by
  refine Met.ofW (cc := b_ps_isInLine) (maxL := 8) (ret := (some .boolean)) (by decide) rfl ?_
  intro p e s m args below meth c s₁ B hml hv
  obtain ⟨rfl, ⟨hP, hK, hG⟩, h_fs, h_rs, -⟩ := hv
  have hx := B.exec
  have hb := B.bytes
  have hr := B.returns
  have hts := atoms_spec (ws := w_ps_isInLine) B.pre
  have hown : s.vm.findClass R_ps = some m.cls := findClass_of_methodNamed B.named
  have hlocks := B.notSynchronized
  have htg := fun w h => hts w (List.mem_cons_of_mem _ h)
  have hS : va_S (fun _ => False) s.heap s.heap [] := va_S.rf
  have hl := lv_entry ([.ref Ph, .int sq, .int mn, .int by_, .ref (kT K fs), .ref (kT K rs)]) (n := 8) (Nat.le_of_ble_eq_true rfl)
  rw [lg_entry_eq]
  generalize (lg_sl ([.ref Ph, .int sq, .int mn, .int by_, .ref (kT K fs), .ref (kT K rs)]) ++ List.replicate (8 - (lg_sl ([.ref Ph, .int sq, .int mn, .int by_, .ref (kT K fs), .ref (kT K rs)])).length) Slot.unset).toArray = ls at hl ⊢
  have hl : lv_has ls 8 [(0, .ref Ph), (1, .int sq), (2, .int mn), (3, .int by_), (4, .ref (kT K fs)), (5, .ref (kT K rs))] := hl
  have hF := f_ps_isInLine.eq_1 P sq mn by_ fs rs
  refine lv_iconst (v := 0) hx hb d_ps_isInLine_0 (by decide) ?_
  refine lv_istore (lv' := [(6, .int (0 : Int32)), (0, .ref Ph), (1, .int sq), (2, .int mn), (3, .int by_), (4, .ref (kT K fs)), (5, .ref (kT K rs))]) hx hb d_ps_isInLine_1 hl (by decide) rfl (fun ls hl => ?_)
  have loop3 : ∀ (n3 : Nat) (v6 : Int32) (ls : Array Slot), 0 ≤ v6.toInt → (8 - v6.toInt).toNat < n3 → lv_has ls 8 [(0, .ref Ph), (1, .int sq), (2, .int mn), (3, .int by_), (4, .ref (kT K fs)), (5, .ref (kT K rs)), (6, .int v6)] → f_ps_isInLine P sq mn by_ fs rs = f_ps_isInLine_L3 P sq mn by_ fs rs  n3 v6 → W p l e (headSpec w_ps_isInLine ({ frames := 2, cells := 0, slots := 0, locals := 48 } : Room)).room s m ([(.ref Ph : Value), .int sq, .int mn, .int by_, .ref (kT K fs), .ref (kT K rs)].toArray) below meth c s.heap [] 0 0 (MQ below (vp_Si (fun r => f_ps_isInLine P sq mn by_ fs rs = r ∧ narrow .boolean (.int r) = .int r)) ([(.ref Ph : Value), .int sq, .int mn, .int by_, .ref (kT K fs), .ref (kT K rs)].toArray) s 0 0 ((fun _ => False))) (F0 m 3 ls []) := by
    intro n3
    induction n3 with
    | zero =>
      intro _ _ _ hz
      exact absurd hz (Nat.not_lt_zero _)
    | succ n3 ih3 =>
      intro v6 ls i0 hm hl hF
      rw [f_ps_isInLine_L3] at hF
      refine lv_iload hx hb d_ps_isInLine_3 (lv_at hl 6 rfl) ?_
      refine lv_aload hx hb d_ps_isInLine_5 (lv_at hl 4 rfl) ?_
      refine va_tlen hx hb (hG.tab fs h_fs) hS rfl d_ps_isInLine_7 ?_
      refine lv_icmp_ge (tgt := 60) hx hb d_ps_isInLine_8 (by decide) (fun c_1 => ?_) (fun c_1 => ?_)
      · have hF := hF.trans (if_pos c_1)
        refine lv_iconst (v := 0) hx hb d_ps_isInLine_60 (by decide) ?_
        exact W.zret (v := (0 : Int32)) hx hb hr (rfl) (fun t ht hW => ⟨_, rfl, ⟨hF, rfl⟩, ht⟩) hS.2.2 d_ps_isInLine_61
      · have hF := hF.trans (if_neg c_1)
        refine lv_iload hx hb d_ps_isInLine_11 (lv_at hl 6 rfl) ?_
        refine lv_aload hx hb d_ps_isInLine_13 (lv_at hl 5 rfl) ?_
        refine va_tlen hx hb (hG.tab rs h_rs) hS rfl d_ps_isInLine_15 ?_
        refine lv_icmp_ge (tgt := 60) hx hb d_ps_isInLine_16 (by decide) (fun c_2 => ?_) (fun c_2 => ?_)
        · have hF := hF.trans (if_pos c_2)
          refine lv_iconst (v := 0) hx hb d_ps_isInLine_60 (by decide) ?_
          exact W.zret (v := (0 : Int32)) hx hb hr (rfl) (fun t ht hW => ⟨_, rfl, ⟨hF, rfl⟩, ht⟩) hS.2.2 d_ps_isInLine_61
        · have hF := hF.trans (if_neg c_2)
          refine lv_aload_n hx hb d_ps_isInLine_19 rfl (lv_at hl 0 rfl) ?_
          refine lv_iload_n hx hb d_ps_isInLine_20 rfl (lv_at hl 1 rfl) ?_
          refine lv_aload hx hb d_ps_isInLine_21 (lv_at hl 4 rfl) ?_
          refine lv_iload hx hb d_ps_isInLine_23 (lv_at hl 6 rfl) ?_
          have h_3 : vp_in v6 (tbN fs) := lp_in i0 c_1 (Int.le_of_eq (tb_i h_fs))
          refine va_ti (v := .int ((tbl fs) v6.toNatClampNeg)) hx hb (hG.tab fs h_fs) hS h_3 rfl d_ps_isInLine_25 ?_
          refine lv_aload hx hb d_ps_isInLine_26 (lv_at hl 5 rfl) ?_
          refine lv_iload hx hb d_ps_isInLine_28 (lv_at hl 6 rfl) ?_
          have h_4 : vp_in v6 (tbN rs) := lp_in i0 c_2 (Int.le_of_eq (tb_i h_rs))
          refine va_ti (v := .int ((tbl rs) v6.toNatClampNeg)) hx hb (hG.tab rs h_rs) hS h_4 rfl d_ps_isInLine_30 ?_
          have hPc : va_P (kD K) vwCl [(Ph, .inr (2, [.ref Pa0, .int P.2.1, .int P.2.2.1, .int P.2.2.2.1, .int P.2.2.2.2.1, .int P.2.2.2.2.2])), (Pa0, .inl ((kI K), 64, .inl P.1))] _ := hP.sub [0, 1] rfl
          refine vp_callSi (va_Run.run (va_runV (As := [.int sq, .int ((tbl fs) v6.toNatClampNeg), .int ((tbl rs) v6.toNatClampNeg)]) (rest := []) ⟨hx, hb, hml, hown, htg⟩ (c_ps_firstInLine l K Ph Pa0 P sq ((tbl fs) v6.toNatClampNeg) ((tbl rs) v6.toNatClampNeg)) (cwV 3 htg (g_V q_444 q_446 qs_18 q_6 (g_w q_447)) rfl rfl rfl ⟨rfl, k_ps_firstInLine⟩ ⟨Nat.le_of_ble_eq_true rfl, Nat.le_of_ble_eq_true rfl⟩) ⟨ro_blind, va_recv hK hPc (ci := 2) (q0 := 0) rfl rfl, ro_use hPc hK hG hS trivial⟩ rfl rfl hl.1 rfl (lv_room (Nat.le_of_ble_eq_true rfl)) d_ps_isInLine_31 ⟨Nat.zero_le _, Nat.zero_le _⟩)) (fun r_5 hw_5 => ?_)
          have hF := hF.trans (bnd_s hw_5.1)
          refine lv_istore (lv' := [(7, .int r_5), (0, .ref Ph), (1, .int sq), (2, .int mn), (3, .int by_), (4, .ref (kT K fs)), (5, .ref (kT K rs)), (6, .int v6)]) hx hb d_ps_isInLine_34 hl (by decide) rfl (fun ls hl => ?_)
          refine lv_iload hx hb d_ps_isInLine_36 (lv_at hl 0 rfl) ?_
          refine lv_iload_n hx hb d_ps_isInLine_38 rfl (lv_at hl 3 rfl) ?_
          refine lv_icmp_eq (tgt := 52) hx hb d_ps_isInLine_39 (by decide) (fun c_6 => ?_) (fun c_6 => ?_)
          · have hF := hF.trans (if_pos c_6)
            refine lv_iconst (v := 1) hx hb d_ps_isInLine_52 (by decide) ?_
            exact W.zret (v := (1 : Int32)) hx hb hr (rfl) (fun t ht hW => ⟨_, rfl, ⟨hF, rfl⟩, ht⟩) hS.2.2 d_ps_isInLine_53
          · have hF := hF.trans (if_neg c_6)
            refine lv_iload hx hb d_ps_isInLine_42 (lv_at hl 0 rfl) ?_
            refine lv_iconst (v := 5) hx hb d_ps_isInLine_44 (by decide) ?_
            refine lv_iload_n hx hb d_ps_isInLine_45 rfl (lv_at hl 4 rfl) ?_
            have hPc : va_P (kD K) vwCl [] _ := hP.sub [] rfl
            refine vp_callSi (va_Run.run (va_runSN (As := [.int (5 : Int32), .int by_]) (rest := [.int r_5]) ⟨hx, hb, hml, hown, htg⟩ (c_gn_manOf l K (5 : Int32) by_) (⟨va_cnB 2 htg (g_w q_360) rfl rfl rfl (hG.nw 25 rfl) (htg _ q_1) k_gn_manOf ⟨Nat.le_of_ble_eq_true rfl, Nat.le_of_ble_eq_true rfl⟩, htg _ q_359, trivial⟩) ⟨ro_blind, ro_use hPc hK hG hS trivial⟩ rfl rfl hl.1 rfl (lv_room (Nat.le_of_ble_eq_true rfl)) d_ps_isInLine_46 ⟨Nat.zero_le _, Nat.zero_le _⟩)) (fun r_7 hw_7 => ?_)
            have hF := hF.trans (bnd_s hw_7.1)
            refine lv_icmp_ne (tgt := 54) hx hb d_ps_isInLine_49 (by decide) (fun c_8 => ?_) (fun c_8 => ?_)
            · have hF := hF.trans (if_neg c_8)
              refine lv_iinc (v := v6 + (1 : Int32)) (lv' := [(6, .int (v6 + (1 : Int32))), (7, .int r_5), (0, .ref Ph), (1, .int sq), (2, .int mn), (3, .int by_), (4, .ref (kT K fs)), (5, .ref (kT K rs))]) hx hb d_ps_isInLine_54 hl (k := 7) rfl rfl (by decide) rfl (fun ls hl => ?_)
              refine lv_goto (tgt := 3) hx hb d_ps_isInLine_57 (by decide) ?_
              exact ih3  (v6 + (1 : Int32)) ls (lp_s i0 c_1) (lp_d i0 c_1 (tb_le h_fs) hm) (lv_sub hl [2, 3, 4, 5, 6, 7, 0] rfl) hF
            · have hF := hF.trans (if_pos c_8)
              refine lv_iconst (v := 1) hx hb d_ps_isInLine_52 (by decide) ?_
              exact W.zret (v := (1 : Int32)) hx hb hr (rfl) (fun t ht hW => ⟨_, rfl, ⟨hF, rfl⟩, ht⟩) hS.2.2 d_ps_isInLine_53
  exact loop3 9 (0 : Int32) ls (by decide) (by decide) (lv_sub hl [1, 2, 3, 4, 5, 6, 0] rfl) hF
def f_ps_isAttacked (P : PsT) (sq : Int32) (by_ : Int32) : Int32 := (bnd (f_gn_manOf (2 : Int32) by_) (fun r_1 => (bnd (f_ps_isNear P sq r_1 0 1) (fun r_2 => (if r_2 = 0 then (bnd (f_gn_manOf (6 : Int32) by_) (fun r_4 => (bnd (f_ps_isNear P sq r_4 2 3) (fun r_5 => (if r_5 = 0 then (bnd (f_gn_manOf (6 : Int32) by_) (fun r_7 => (bnd (f_ps_isNear P sq r_7 4 5) (fun r_8 => (if r_8 = 0 then (bnd (f_ps_isAttackedByPawn P sq by_) (fun r_10 => (if r_10 = 0 then (bnd (f_gn_manOf (4 : Int32) by_) (fun r_12 => (bnd (f_ps_isInLine P sq r_12 by_ 2 3) (fun r_13 => (if r_13 = 0 then (bnd (f_gn_manOf (3 : Int32) by_) (fun r_15 => (bnd (f_ps_isInLine P sq r_15 by_ 4 5) (fun r_16 => (if r_16 = 0 then (0 : Int32) else (1 : Int32)))))) else (1 : Int32)))))) else (1 : Int32)))) else (1 : Int32)))))) else (1 : Int32)))))) else (1 : Int32))))))
set_option maxHeartbeats 4000000 in
set_option maxRecDepth 100000 in
theorem c_ps_isAttacked (l : Launch) (K : KT) (Ph Pa0 : Nat) (P : PsT) (sq : Int32) (by_ : Int32) : Met l y_ps_isAttacked w_ps_isAttacked ({ frames := 3, cells := 0, slots := 0, locals := 75 } : Room) (va_Pc [.ref Ph, .int sq, .int by_] (fun U => pRO K [(Ph, .inr (2, [.ref Pa0, .int P.2.1, .int P.2.2.1, .int P.2.2.2.1, .int P.2.2.2.2.1, .int P.2.2.2.2.2])), (Pa0, .inl ((kI K), 64, .inl P.1))] U ∧ True)) (vp_Si (fun r => f_ps_isAttacked P sq by_ = r ∧ narrow .boolean (.int r) = .int r)) 0 0 (fun _ => False) := by
  refine Met.ofW (cc := b_ps_isAttacked) (maxL := 3) (ret := (some .boolean)) (by decide) rfl ?_
  intro p e s m args below meth c s₁ B hml hv
  obtain ⟨rfl, ⟨hP, hK, hG⟩, -⟩ := hv
  have hx := B.exec
  have hb := B.bytes
  have hr := B.returns
  have hts := atoms_spec (ws := w_ps_isAttacked) B.pre
  have hown : s.vm.findClass R_ps = some m.cls := findClass_of_methodNamed B.named
  have hlocks := B.notSynchronized
  have htg := fun w h => hts w (List.mem_cons_of_mem _ h)
  have hS : va_S (fun _ => False) s.heap s.heap [] := va_S.rf
  have hl := lv_entry ([.ref Ph, .int sq, .int by_]) (n := 3) (Nat.le_of_ble_eq_true rfl)
  rw [lg_entry_eq]
  generalize (lg_sl ([.ref Ph, .int sq, .int by_]) ++ List.replicate (3 - (lg_sl ([.ref Ph, .int sq, .int by_])).length) Slot.unset).toArray = ls at hl ⊢
  have hl : lv_has ls 3 [(0, .ref Ph), (1, .int sq), (2, .int by_)] := hl
  have hF := f_ps_isAttacked.eq_1 P sq by_
  refine lv_aload_n hx hb d_ps_isAttacked_0 rfl (lv_at hl 0 rfl) ?_
  refine lv_iload_n hx hb d_ps_isAttacked_1 rfl (lv_at hl 1 rfl) ?_
  refine lv_iconst (v := 2) hx hb d_ps_isAttacked_2 (by decide) ?_
  refine lv_iload_n hx hb d_ps_isAttacked_3 rfl (lv_at hl 2 rfl) ?_
  have hPc : va_P (kD K) vwCl [] _ := hP.sub [] rfl
  refine vp_callSi (va_Run.run (va_runSN (As := [.int (2 : Int32), .int by_]) (rest := [.int sq, .ref Ph]) ⟨hx, hb, hml, hown, htg⟩ (c_gn_manOf l K (2 : Int32) by_) (⟨va_cnB 2 htg (g_w q_360) rfl rfl rfl (hG.nw 25 rfl) (htg _ q_1) k_gn_manOf ⟨Nat.le_of_ble_eq_true rfl, Nat.le_of_ble_eq_true rfl⟩, htg _ q_359, trivial⟩) ⟨ro_blind, ro_use hPc hK hG hS trivial⟩ rfl rfl hl.1 rfl (lv_room (Nat.le_of_ble_eq_true rfl)) d_ps_isAttacked_4 ⟨Nat.zero_le _, Nat.zero_le _⟩)) (fun r_1 hw_1 => ?_)
  have hF := hF.trans (bnd_s hw_1.1)
  refine va_getsN hx hb (hG.tabZ 0 (by decide)) hS hown (va_Nw.use rfl (hG.nw 10 rfl)) (fun _ h9 => h9) d_ps_isAttacked_7 ?_
  refine va_getsN hx hb (hG.tabZ 1 (by decide)) hS hown (va_Nw.use rfl (hG.nw 11 rfl)) (fun _ h9 => h9) d_ps_isAttacked_10 ?_
  have hPc : va_P (kD K) vwCl [(Ph, .inr (2, [.ref Pa0, .int P.2.1, .int P.2.2.1, .int P.2.2.2.1, .int P.2.2.2.2.1, .int P.2.2.2.2.2])), (Pa0, .inl ((kI K), 64, .inl P.1))] _ := hP.sub [0, 1] rfl
  refine vp_callSi (va_Run.run (va_runV (As := [.int sq, .int r_1, .ref (kT K 0), .ref (kT K 1)]) (rest := []) ⟨hx, hb, hml, hown, htg⟩ (c_ps_isNear l K Ph Pa0 P sq r_1 0 1) (cwV 4 htg (g_V q_418 q_420 qs_15 q_6 (g_w q_421)) rfl rfl rfl ⟨rfl, k_ps_isNear⟩ ⟨Nat.le_of_ble_eq_true rfl, Nat.le_of_ble_eq_true rfl⟩) ⟨ro_blind, va_recv hK hPc (ci := 2) (q0 := 0) rfl rfl, ro_use hPc hK hG hS ⟨(by decide), (by decide), trivial⟩⟩ rfl rfl hl.1 rfl (lv_room (Nat.le_of_ble_eq_true rfl)) d_ps_isAttacked_13 ⟨Nat.zero_le _, Nat.zero_le _⟩)) (fun r_2 hw_2 => ?_)
  have hF := hF.trans (bnd_s hw_2.1)
  have hn_2 := hw_2.2
  refine lv_if_ne (tgt := 108) hx hb d_ps_isAttacked_16 (by decide) (fun c_3 => ?_) (fun c_3 => ?_)
  · have hF := hF.trans (if_neg c_3)
    refine lv_iconst (v := 1) hx hb d_ps_isAttacked_108 (by decide) ?_
    refine lv_goto (tgt := 113) hx hb d_ps_isAttacked_109 (by decide) ?_
    exact W.zret (v := (1 : Int32)) hx hb hr (rfl) (fun t ht hW => ⟨_, rfl, ⟨hF, rfl⟩, ht⟩) hS.2.2 d_ps_isAttacked_113
  · have hF := hF.trans (if_pos c_3)
    refine lv_aload_n hx hb d_ps_isAttacked_19 rfl (lv_at hl 0 rfl) ?_
    refine lv_iload_n hx hb d_ps_isAttacked_20 rfl (lv_at hl 1 rfl) ?_
    refine lv_bipush (v := 6) hx hb d_ps_isAttacked_21 (by decide) ?_
    refine lv_iload_n hx hb d_ps_isAttacked_23 rfl (lv_at hl 2 rfl) ?_
    have hPc : va_P (kD K) vwCl [] _ := hP.sub [] rfl
    refine vp_callSi (va_Run.run (va_runSN (As := [.int (6 : Int32), .int by_]) (rest := [.int sq, .ref Ph]) ⟨hx, hb, hml, hown, htg⟩ (c_gn_manOf l K (6 : Int32) by_) (⟨va_cnB 2 htg (g_w q_360) rfl rfl rfl (hG.nw 25 rfl) (htg _ q_1) k_gn_manOf ⟨Nat.le_of_ble_eq_true rfl, Nat.le_of_ble_eq_true rfl⟩, htg _ q_359, trivial⟩) ⟨ro_blind, ro_use hPc hK hG hS trivial⟩ rfl rfl hl.1 rfl (lv_room (Nat.le_of_ble_eq_true rfl)) d_ps_isAttacked_24 ⟨Nat.zero_le _, Nat.zero_le _⟩)) (fun r_4 hw_4 => ?_)
    have hF := hF.trans (bnd_s hw_4.1)
    refine va_getsN hx hb (hG.tabZ 2 (by decide)) hS hown (va_Nw.use rfl (hG.nw 12 rfl)) (fun _ h9 => h9) d_ps_isAttacked_27 ?_
    refine va_getsN hx hb (hG.tabZ 3 (by decide)) hS hown (va_Nw.use rfl (hG.nw 13 rfl)) (fun _ h9 => h9) d_ps_isAttacked_30 ?_
    have hPc : va_P (kD K) vwCl [(Ph, .inr (2, [.ref Pa0, .int P.2.1, .int P.2.2.1, .int P.2.2.2.1, .int P.2.2.2.2.1, .int P.2.2.2.2.2])), (Pa0, .inl ((kI K), 64, .inl P.1))] _ := hP.sub [0, 1] rfl
    refine vp_callSi (va_Run.run (va_runV (As := [.int sq, .int r_4, .ref (kT K 2), .ref (kT K 3)]) (rest := []) ⟨hx, hb, hml, hown, htg⟩ (c_ps_isNear l K Ph Pa0 P sq r_4 2 3) (cwV 4 htg (g_V q_418 q_420 qs_15 q_6 (g_w q_421)) rfl rfl rfl ⟨rfl, k_ps_isNear⟩ ⟨Nat.le_of_ble_eq_true rfl, Nat.le_of_ble_eq_true rfl⟩) ⟨ro_blind, va_recv hK hPc (ci := 2) (q0 := 0) rfl rfl, ro_use hPc hK hG hS ⟨(by decide), (by decide), trivial⟩⟩ rfl rfl hl.1 rfl (lv_room (Nat.le_of_ble_eq_true rfl)) d_ps_isAttacked_33 ⟨Nat.zero_le _, Nat.zero_le _⟩)) (fun r_5 hw_5 => ?_)
    have hF := hF.trans (bnd_s hw_5.1)
    have hn_5 := hw_5.2
    refine lv_if_ne (tgt := 108) hx hb d_ps_isAttacked_36 (by decide) (fun c_6 => ?_) (fun c_6 => ?_)
    · have hF := hF.trans (if_neg c_6)
      refine lv_iconst (v := 1) hx hb d_ps_isAttacked_108 (by decide) ?_
      refine lv_goto (tgt := 113) hx hb d_ps_isAttacked_109 (by decide) ?_
      exact W.zret (v := (1 : Int32)) hx hb hr (rfl) (fun t ht hW => ⟨_, rfl, ⟨hF, rfl⟩, ht⟩) hS.2.2 d_ps_isAttacked_113
    · have hF := hF.trans (if_pos c_6)
      refine lv_aload_n hx hb d_ps_isAttacked_39 rfl (lv_at hl 0 rfl) ?_
      refine lv_iload_n hx hb d_ps_isAttacked_40 rfl (lv_at hl 1 rfl) ?_
      refine lv_bipush (v := 6) hx hb d_ps_isAttacked_41 (by decide) ?_
      refine lv_iload_n hx hb d_ps_isAttacked_43 rfl (lv_at hl 2 rfl) ?_
      have hPc : va_P (kD K) vwCl [] _ := hP.sub [] rfl
      refine vp_callSi (va_Run.run (va_runSN (As := [.int (6 : Int32), .int by_]) (rest := [.int sq, .ref Ph]) ⟨hx, hb, hml, hown, htg⟩ (c_gn_manOf l K (6 : Int32) by_) (⟨va_cnB 2 htg (g_w q_360) rfl rfl rfl (hG.nw 25 rfl) (htg _ q_1) k_gn_manOf ⟨Nat.le_of_ble_eq_true rfl, Nat.le_of_ble_eq_true rfl⟩, htg _ q_359, trivial⟩) ⟨ro_blind, ro_use hPc hK hG hS trivial⟩ rfl rfl hl.1 rfl (lv_room (Nat.le_of_ble_eq_true rfl)) d_ps_isAttacked_44 ⟨Nat.zero_le _, Nat.zero_le _⟩)) (fun r_7 hw_7 => ?_)
      have hF := hF.trans (bnd_s hw_7.1)
      refine va_getsN hx hb (hG.tabZ 4 (by decide)) hS hown (va_Nw.use rfl (hG.nw 14 rfl)) (fun _ h9 => h9) d_ps_isAttacked_47 ?_
      refine va_getsN hx hb (hG.tabZ 5 (by decide)) hS hown (va_Nw.use rfl (hG.nw 15 rfl)) (fun _ h9 => h9) d_ps_isAttacked_50 ?_
      have hPc : va_P (kD K) vwCl [(Ph, .inr (2, [.ref Pa0, .int P.2.1, .int P.2.2.1, .int P.2.2.2.1, .int P.2.2.2.2.1, .int P.2.2.2.2.2])), (Pa0, .inl ((kI K), 64, .inl P.1))] _ := hP.sub [0, 1] rfl
      refine vp_callSi (va_Run.run (va_runV (As := [.int sq, .int r_7, .ref (kT K 4), .ref (kT K 5)]) (rest := []) ⟨hx, hb, hml, hown, htg⟩ (c_ps_isNear l K Ph Pa0 P sq r_7 4 5) (cwV 4 htg (g_V q_418 q_420 qs_15 q_6 (g_w q_421)) rfl rfl rfl ⟨rfl, k_ps_isNear⟩ ⟨Nat.le_of_ble_eq_true rfl, Nat.le_of_ble_eq_true rfl⟩) ⟨ro_blind, va_recv hK hPc (ci := 2) (q0 := 0) rfl rfl, ro_use hPc hK hG hS ⟨(by decide), (by decide), trivial⟩⟩ rfl rfl hl.1 rfl (lv_room (Nat.le_of_ble_eq_true rfl)) d_ps_isAttacked_53 ⟨Nat.zero_le _, Nat.zero_le _⟩)) (fun r_8 hw_8 => ?_)
      have hF := hF.trans (bnd_s hw_8.1)
      have hn_8 := hw_8.2
      refine lv_if_ne (tgt := 108) hx hb d_ps_isAttacked_56 (by decide) (fun c_9 => ?_) (fun c_9 => ?_)
      · have hF := hF.trans (if_neg c_9)
        refine lv_iconst (v := 1) hx hb d_ps_isAttacked_108 (by decide) ?_
        refine lv_goto (tgt := 113) hx hb d_ps_isAttacked_109 (by decide) ?_
        exact W.zret (v := (1 : Int32)) hx hb hr (rfl) (fun t ht hW => ⟨_, rfl, ⟨hF, rfl⟩, ht⟩) hS.2.2 d_ps_isAttacked_113
      · have hF := hF.trans (if_pos c_9)
        refine lv_aload_n hx hb d_ps_isAttacked_59 rfl (lv_at hl 0 rfl) ?_
        refine lv_iload_n hx hb d_ps_isAttacked_60 rfl (lv_at hl 1 rfl) ?_
        refine lv_iload_n hx hb d_ps_isAttacked_61 rfl (lv_at hl 2 rfl) ?_
        have hPc : va_P (kD K) vwCl [(Ph, .inr (2, [.ref Pa0, .int P.2.1, .int P.2.2.1, .int P.2.2.2.1, .int P.2.2.2.2.1, .int P.2.2.2.2.2])), (Pa0, .inl ((kI K), 64, .inl P.1))] _ := hP.sub [0, 1] rfl
        refine vp_callSi (va_Run.run (va_runV (As := [.int sq, .int by_]) (rest := []) ⟨hx, hb, hml, hown, htg⟩ (c_ps_isAttackedByPawn l K Ph Pa0 P sq by_) (cwV 2 htg (g_V q_436 q_438 qs_16 q_6 (g_w q_439)) rfl rfl rfl ⟨rfl, k_ps_isAttackedByPawn⟩ ⟨Nat.le_of_ble_eq_true rfl, Nat.le_of_ble_eq_true rfl⟩) ⟨ro_blind, va_recv hK hPc (ci := 2) (q0 := 0) rfl rfl, ro_use hPc hK hG hS trivial⟩ rfl rfl hl.1 rfl (lv_room (Nat.le_of_ble_eq_true rfl)) d_ps_isAttacked_62 ⟨Nat.zero_le _, Nat.zero_le _⟩)) (fun r_10 hw_10 => ?_)
        have hF := hF.trans (bnd_s hw_10.1)
        have hn_10 := hw_10.2
        refine lv_if_ne (tgt := 108) hx hb d_ps_isAttacked_65 (by decide) (fun c_11 => ?_) (fun c_11 => ?_)
        · have hF := hF.trans (if_neg c_11)
          refine lv_iconst (v := 1) hx hb d_ps_isAttacked_108 (by decide) ?_
          refine lv_goto (tgt := 113) hx hb d_ps_isAttacked_109 (by decide) ?_
          exact W.zret (v := (1 : Int32)) hx hb hr (rfl) (fun t ht hW => ⟨_, rfl, ⟨hF, rfl⟩, ht⟩) hS.2.2 d_ps_isAttacked_113
        · have hF := hF.trans (if_pos c_11)
          refine lv_aload_n hx hb d_ps_isAttacked_68 rfl (lv_at hl 0 rfl) ?_
          refine lv_iload_n hx hb d_ps_isAttacked_69 rfl (lv_at hl 1 rfl) ?_
          refine lv_iconst (v := 4) hx hb d_ps_isAttacked_70 (by decide) ?_
          refine lv_iload_n hx hb d_ps_isAttacked_71 rfl (lv_at hl 2 rfl) ?_
          have hPc : va_P (kD K) vwCl [] _ := hP.sub [] rfl
          refine vp_callSi (va_Run.run (va_runSN (As := [.int (4 : Int32), .int by_]) (rest := [.int sq, .ref Ph]) ⟨hx, hb, hml, hown, htg⟩ (c_gn_manOf l K (4 : Int32) by_) (⟨va_cnB 2 htg (g_w q_360) rfl rfl rfl (hG.nw 25 rfl) (htg _ q_1) k_gn_manOf ⟨Nat.le_of_ble_eq_true rfl, Nat.le_of_ble_eq_true rfl⟩, htg _ q_359, trivial⟩) ⟨ro_blind, ro_use hPc hK hG hS trivial⟩ rfl rfl hl.1 rfl (lv_room (Nat.le_of_ble_eq_true rfl)) d_ps_isAttacked_72 ⟨Nat.zero_le _, Nat.zero_le _⟩)) (fun r_12 hw_12 => ?_)
          have hF := hF.trans (bnd_s hw_12.1)
          refine lv_iload_n hx hb d_ps_isAttacked_75 rfl (lv_at hl 2 rfl) ?_
          refine va_getsN hx hb (hG.tabZ 2 (by decide)) hS hown (va_Nw.use rfl (hG.nw 12 rfl)) (fun _ h9 => h9) d_ps_isAttacked_76 ?_
          refine va_getsN hx hb (hG.tabZ 3 (by decide)) hS hown (va_Nw.use rfl (hG.nw 13 rfl)) (fun _ h9 => h9) d_ps_isAttacked_79 ?_
          have hPc : va_P (kD K) vwCl [(Ph, .inr (2, [.ref Pa0, .int P.2.1, .int P.2.2.1, .int P.2.2.2.1, .int P.2.2.2.2.1, .int P.2.2.2.2.2])), (Pa0, .inl ((kI K), 64, .inl P.1))] _ := hP.sub [0, 1] rfl
          refine vp_callSi (va_Run.run (va_runV (As := [.int sq, .int r_12, .int by_, .ref (kT K 2), .ref (kT K 3)]) (rest := []) ⟨hx, hb, hml, hown, htg⟩ (c_ps_isInLine l K Ph Pa0 P sq r_12 by_ 2 3) (cwV 5 htg (g_V q_440 q_442 qs_17 q_6 (g_w q_443)) rfl rfl rfl ⟨rfl, k_ps_isInLine⟩ ⟨Nat.le_of_ble_eq_true rfl, Nat.le_of_ble_eq_true rfl⟩) ⟨ro_blind, va_recv hK hPc (ci := 2) (q0 := 0) rfl rfl, ro_use hPc hK hG hS ⟨(by decide), (by decide), trivial⟩⟩ rfl rfl hl.1 rfl (lv_room (Nat.le_of_ble_eq_true rfl)) d_ps_isAttacked_82 ⟨Nat.zero_le _, Nat.zero_le _⟩)) (fun r_13 hw_13 => ?_)
          have hF := hF.trans (bnd_s hw_13.1)
          have hn_13 := hw_13.2
          refine lv_if_ne (tgt := 108) hx hb d_ps_isAttacked_85 (by decide) (fun c_14 => ?_) (fun c_14 => ?_)
          · have hF := hF.trans (if_neg c_14)
            refine lv_iconst (v := 1) hx hb d_ps_isAttacked_108 (by decide) ?_
            refine lv_goto (tgt := 113) hx hb d_ps_isAttacked_109 (by decide) ?_
            exact W.zret (v := (1 : Int32)) hx hb hr (rfl) (fun t ht hW => ⟨_, rfl, ⟨hF, rfl⟩, ht⟩) hS.2.2 d_ps_isAttacked_113
          · have hF := hF.trans (if_pos c_14)
            refine lv_aload_n hx hb d_ps_isAttacked_88 rfl (lv_at hl 0 rfl) ?_
            refine lv_iload_n hx hb d_ps_isAttacked_89 rfl (lv_at hl 1 rfl) ?_
            refine lv_iconst (v := 3) hx hb d_ps_isAttacked_90 (by decide) ?_
            refine lv_iload_n hx hb d_ps_isAttacked_91 rfl (lv_at hl 2 rfl) ?_
            have hPc : va_P (kD K) vwCl [] _ := hP.sub [] rfl
            refine vp_callSi (va_Run.run (va_runSN (As := [.int (3 : Int32), .int by_]) (rest := [.int sq, .ref Ph]) ⟨hx, hb, hml, hown, htg⟩ (c_gn_manOf l K (3 : Int32) by_) (⟨va_cnB 2 htg (g_w q_360) rfl rfl rfl (hG.nw 25 rfl) (htg _ q_1) k_gn_manOf ⟨Nat.le_of_ble_eq_true rfl, Nat.le_of_ble_eq_true rfl⟩, htg _ q_359, trivial⟩) ⟨ro_blind, ro_use hPc hK hG hS trivial⟩ rfl rfl hl.1 rfl (lv_room (Nat.le_of_ble_eq_true rfl)) d_ps_isAttacked_92 ⟨Nat.zero_le _, Nat.zero_le _⟩)) (fun r_15 hw_15 => ?_)
            have hF := hF.trans (bnd_s hw_15.1)
            refine lv_iload_n hx hb d_ps_isAttacked_95 rfl (lv_at hl 2 rfl) ?_
            refine va_getsN hx hb (hG.tabZ 4 (by decide)) hS hown (va_Nw.use rfl (hG.nw 14 rfl)) (fun _ h9 => h9) d_ps_isAttacked_96 ?_
            refine va_getsN hx hb (hG.tabZ 5 (by decide)) hS hown (va_Nw.use rfl (hG.nw 15 rfl)) (fun _ h9 => h9) d_ps_isAttacked_99 ?_
            have hPc : va_P (kD K) vwCl [(Ph, .inr (2, [.ref Pa0, .int P.2.1, .int P.2.2.1, .int P.2.2.2.1, .int P.2.2.2.2.1, .int P.2.2.2.2.2])), (Pa0, .inl ((kI K), 64, .inl P.1))] _ := hP.sub [0, 1] rfl
            refine vp_callSi (va_Run.run (va_runV (As := [.int sq, .int r_15, .int by_, .ref (kT K 4), .ref (kT K 5)]) (rest := []) ⟨hx, hb, hml, hown, htg⟩ (c_ps_isInLine l K Ph Pa0 P sq r_15 by_ 4 5) (cwV 5 htg (g_V q_440 q_442 qs_17 q_6 (g_w q_443)) rfl rfl rfl ⟨rfl, k_ps_isInLine⟩ ⟨Nat.le_of_ble_eq_true rfl, Nat.le_of_ble_eq_true rfl⟩) ⟨ro_blind, va_recv hK hPc (ci := 2) (q0 := 0) rfl rfl, ro_use hPc hK hG hS ⟨(by decide), (by decide), trivial⟩⟩ rfl rfl hl.1 rfl (lv_room (Nat.le_of_ble_eq_true rfl)) d_ps_isAttacked_102 ⟨Nat.zero_le _, Nat.zero_le _⟩)) (fun r_16 hw_16 => ?_)
            have hF := hF.trans (bnd_s hw_16.1)
            have hn_16 := hw_16.2
            refine lv_if_eq (tgt := 112) hx hb d_ps_isAttacked_105 (by decide) (fun c_17 => ?_) (fun c_17 => ?_)
            · have hF := hF.trans (if_pos c_17)
              refine lv_iconst (v := 0) hx hb d_ps_isAttacked_112 (by decide) ?_
              exact W.zret (v := (0 : Int32)) hx hb hr (rfl) (fun t ht hW => ⟨_, rfl, ⟨hF, rfl⟩, ht⟩) hS.2.2 d_ps_isAttacked_113
            · have hF := hF.trans (if_neg c_17)
              refine lv_iconst (v := 1) hx hb d_ps_isAttacked_108 (by decide) ?_
              refine lv_goto (tgt := 113) hx hb d_ps_isAttacked_109 (by decide) ?_
              exact W.zret (v := (1 : Int32)) hx hb hr (rfl) (fun t ht hW => ⟨_, rfl, ⟨hF, rfl⟩, ht⟩) hS.2.2 d_ps_isAttacked_113
def f_ps_count_L4 (P : PsT) (mn : Int32) : Nat → Int32 → Int32 → Int32
  | 0, _, _ => 0
  | n + 1, v2, v3 => (if (64 : Int32) ≤ v3 then v2 else (if (P.1 v3.toNatClampNeg) = mn then (f_ps_count_L4 P mn  n (v2 + (1 : Int32)) (v3 + (1 : Int32))) else (f_ps_count_L4 P mn  n v2 (v3 + (1 : Int32)))))
def f_ps_count (P : PsT) (mn : Int32) : Int32 := (f_ps_count_L4 P mn  65 (0 : Int32) (0 : Int32))
set_option maxHeartbeats 4000000 in
set_option maxRecDepth 100000 in
theorem c_ps_count (l : Launch) (K : KT) (Ph Pa0 : Nat) (P : PsT) (mn : Int32) : Met l y_ps_count w_ps_count ({ frames := 0, cells := 0, slots := 0, locals := 0 } : Room) (va_Pc [.ref Ph, .int mn] (fun U => pRO K [(Ph, .inr (2, [.ref Pa0, .int P.2.1, .int P.2.2.1, .int P.2.2.2.1, .int P.2.2.2.2.1, .int P.2.2.2.2.2])), (Pa0, .inl ((kI K), 64, .inl P.1))] U ∧ True)) (vp_Si (fun r => f_ps_count P mn = r ∧ True)) 0 0 (fun _ => False) := by
  refine Met.ofW (cc := b_ps_count) (maxL := 4) (ret := (some .int)) (by decide) rfl ?_
  intro p e s m args below meth c s₁ B hml hv
  obtain ⟨rfl, ⟨hP, hK, hG⟩, -⟩ := hv
  have hx := B.exec
  have hb := B.bytes
  have hr := B.returns
  have hts := atoms_spec (ws := w_ps_count) B.pre
  have hown : s.vm.findClass R_ps = some m.cls := findClass_of_methodNamed B.named
  have hlocks := B.notSynchronized
  have htg := fun w h => hts w (List.mem_cons_of_mem _ h)
  have hS : va_S (fun _ => False) s.heap s.heap [] := va_S.rf
  have hl := lv_entry ([.ref Ph, .int mn]) (n := 4) (Nat.le_of_ble_eq_true rfl)
  rw [lg_entry_eq]
  generalize (lg_sl ([.ref Ph, .int mn]) ++ List.replicate (4 - (lg_sl ([.ref Ph, .int mn])).length) Slot.unset).toArray = ls at hl ⊢
  have hl : lv_has ls 4 [(0, .ref Ph), (1, .int mn)] := hl
  have hF := f_ps_count.eq_1 P mn
  refine lv_iconst (v := 0) hx hb d_ps_count_0 (by decide) ?_
  refine lv_istore_n (lv' := [(2, .int (0 : Int32)), (0, .ref Ph), (1, .int mn)]) hx hb d_ps_count_1 rfl hl (by decide) rfl (fun ls hl => ?_)
  refine lv_iconst (v := 0) hx hb d_ps_count_2 (by decide) ?_
  refine lv_istore_n (lv' := [(3, .int (0 : Int32)), (2, .int (0 : Int32)), (0, .ref Ph), (1, .int mn)]) hx hb d_ps_count_3 rfl hl (by decide) rfl (fun ls hl => ?_)
  have loop4 : ∀ (n4 : Nat) (v2 : Int32) (v3 : Int32) (ls : Array Slot), 0 ≤ v3.toInt → (64 - v3.toInt).toNat < n4 → lv_has ls 4 [(0, .ref Ph), (1, .int mn), (2, .int v2), (3, .int v3)] → f_ps_count P mn = f_ps_count_L4 P mn  n4 v2 v3 → W p l e (headSpec w_ps_count ({ frames := 0, cells := 0, slots := 0, locals := 0 } : Room)).room s m ([(.ref Ph : Value), .int mn].toArray) below meth c s.heap [] 0 0 (MQ below (vp_Si (fun r => f_ps_count P mn = r ∧ True)) ([(.ref Ph : Value), .int mn].toArray) s 0 0 ((fun _ => False))) (F0 m 4 ls []) := by
    intro n4
    induction n4 with
    | zero =>
      intro _ _ _ _ hz
      exact absurd hz (Nat.not_lt_zero _)
    | succ n4 ih4 =>
      intro v2 v3 ls i0 hm hl hF
      rw [f_ps_count_L4] at hF
      refine lv_iload_n hx hb d_ps_count_4 rfl (lv_at hl 3 rfl) ?_
      refine lv_bipush (v := 64) hx hb d_ps_count_5 (by decide) ?_
      refine lv_icmp_ge (tgt := 29) hx hb d_ps_count_7 (by decide) (fun c_1 => ?_) (fun c_1 => ?_)
      · have hF := hF.trans (if_pos c_1)
        refine lv_iload_n hx hb d_ps_count_29 rfl (lv_at hl 2 rfl) ?_
        exact W.iret (v := v2) hx hb hr (fun t ht hW => ⟨_, rfl, ⟨hF, trivial⟩, ht⟩) hS.2.2 d_ps_count_30
      · have hF := hF.trans (if_neg c_1)
        refine lv_aload_n hx hb d_ps_count_10 rfl (lv_at hl 0 rfl) ?_
        refine va_get (D := kD K) (ci := 2) (v := .ref Pa0) (C := R_ps) (T := T_ps) (N := 6) hx hb htg in_ps hown hK hP 0 rfl rfl 0 (by decide) (htg (.fieldLink R_ps 9 "GameNotation$Position" "men" "[I") q_99) (fun _ h9 => h9) rfl d_ps_count_11 ?_
        refine lv_iload_n hx hb d_ps_count_14 rfl (lv_at hl 3 rfl) ?_
        have h_2 : vp_in v3 64 := lp_in i0 c_1 (by decide)
        refine va_iald hx hb hK hP 1 0 rfl rfl h_2 d_ps_count_15 ?_
        refine lv_iload_n hx hb d_ps_count_16 rfl (lv_at hl 1 rfl) ?_
        refine lv_icmp_ne (tgt := 23) hx hb d_ps_count_17 (by decide) (fun c_3 => ?_) (fun c_3 => ?_)
        · have hF := hF.trans (if_neg c_3)
          refine lv_iinc (v := v3 + (1 : Int32)) (lv' := [(3, .int (v3 + (1 : Int32))), (0, .ref Ph), (1, .int mn), (2, .int v2)]) hx hb d_ps_count_23 hl (k := 3) rfl rfl (by decide) rfl (fun ls hl => ?_)
          refine lv_goto (tgt := 4) hx hb d_ps_count_26 (by decide) ?_
          exact ih4  v2 (v3 + (1 : Int32)) ls (lp_s i0 c_1) (lp_d i0 c_1 (by decide) hm) (lv_sub hl [1, 2, 3, 0] rfl) hF
        · have hF := hF.trans (if_pos c_3)
          refine lv_iinc (v := v2 + (1 : Int32)) (lv' := [(2, .int (v2 + (1 : Int32))), (0, .ref Ph), (1, .int mn), (3, .int v3)]) hx hb d_ps_count_20 hl (k := 2) rfl rfl (by decide) rfl (fun ls hl => ?_)
          refine lv_iinc (v := v3 + (1 : Int32)) (lv' := [(3, .int (v3 + (1 : Int32))), (2, .int (v2 + (1 : Int32))), (0, .ref Ph), (1, .int mn)]) hx hb d_ps_count_23 hl (k := 3) rfl rfl (by decide) rfl (fun ls hl => ?_)
          refine lv_goto (tgt := 4) hx hb d_ps_count_26 (by decide) ?_
          exact ih4  (v2 + (1 : Int32)) (v3 + (1 : Int32)) ls (lp_s i0 c_1) (lp_d i0 c_1 (by decide) hm) (lv_sub hl [2, 3, 1, 0] rfl) hF
  exact loop4 65 (0 : Int32) (0 : Int32) ls (by decide) (by decide) (lv_sub hl [2, 3, 1, 0] rfl) hF
def f_ps_kingSquare_L2 (P : PsT) (of_ : Int32) : Nat → Int32 → Int32
  | 0, _ => 0
  | n + 1, v2 => (if (64 : Int32) ≤ v2 then (-1 : Int32) else (bnd (f_gn_manOf (6 : Int32) of_) (fun r_3 => (if (P.1 v2.toNatClampNeg) = r_3 then v2 else (f_ps_kingSquare_L2 P of_  n (v2 + (1 : Int32)))))))
def f_ps_kingSquare (P : PsT) (of_ : Int32) : Int32 := (f_ps_kingSquare_L2 P of_  65 (0 : Int32))
set_option maxHeartbeats 4000000 in
set_option maxRecDepth 100000 in
theorem c_ps_kingSquare (l : Launch) (K : KT) (Ph Pa0 : Nat) (P : PsT) (of_ : Int32) : Met l y_ps_kingSquare w_ps_kingSquare ({ frames := 1, cells := 0, slots := 0, locals := 21 } : Room) (va_Pc [.ref Ph, .int of_] (fun U => pRO K [(Ph, .inr (2, [.ref Pa0, .int P.2.1, .int P.2.2.1, .int P.2.2.2.1, .int P.2.2.2.2.1, .int P.2.2.2.2.2])), (Pa0, .inl ((kI K), 64, .inl P.1))] U ∧ True)) (vp_Si (fun r => f_ps_kingSquare P of_ = r ∧ True)) 0 0 (fun _ => False) := by
  refine Met.ofW (cc := b_ps_kingSquare) (maxL := 3) (ret := (some .int)) (by decide) rfl ?_
  intro p e s m args below meth c s₁ B hml hv
  obtain ⟨rfl, ⟨hP, hK, hG⟩, -⟩ := hv
  have hx := B.exec
  have hb := B.bytes
  have hr := B.returns
  have hts := atoms_spec (ws := w_ps_kingSquare) B.pre
  have hown : s.vm.findClass R_ps = some m.cls := findClass_of_methodNamed B.named
  have hlocks := B.notSynchronized
  have htg := fun w h => hts w (List.mem_cons_of_mem _ h)
  have hS : va_S (fun _ => False) s.heap s.heap [] := va_S.rf
  have hl := lv_entry ([.ref Ph, .int of_]) (n := 3) (Nat.le_of_ble_eq_true rfl)
  rw [lg_entry_eq]
  generalize (lg_sl ([.ref Ph, .int of_]) ++ List.replicate (3 - (lg_sl ([.ref Ph, .int of_])).length) Slot.unset).toArray = ls at hl ⊢
  have hl : lv_has ls 3 [(0, .ref Ph), (1, .int of_)] := hl
  have hF := f_ps_kingSquare.eq_1 P of_
  refine lv_iconst (v := 0) hx hb d_ps_kingSquare_0 (by decide) ?_
  refine lv_istore_n (lv' := [(2, .int (0 : Int32)), (0, .ref Ph), (1, .int of_)]) hx hb d_ps_kingSquare_1 rfl hl (by decide) rfl (fun ls hl => ?_)
  have loop2 : ∀ (n2 : Nat) (v2 : Int32) (ls : Array Slot), 0 ≤ v2.toInt → (64 - v2.toInt).toNat < n2 → lv_has ls 3 [(0, .ref Ph), (1, .int of_), (2, .int v2)] → f_ps_kingSquare P of_ = f_ps_kingSquare_L2 P of_  n2 v2 → W p l e (headSpec w_ps_kingSquare ({ frames := 1, cells := 0, slots := 0, locals := 21 } : Room)).room s m ([(.ref Ph : Value), .int of_].toArray) below meth c s.heap [] 0 0 (MQ below (vp_Si (fun r => f_ps_kingSquare P of_ = r ∧ True)) ([(.ref Ph : Value), .int of_].toArray) s 0 0 ((fun _ => False))) (F0 m 2 ls []) := by
    intro n2
    induction n2 with
    | zero =>
      intro _ _ _ hz
      exact absurd hz (Nat.not_lt_zero _)
    | succ n2 ih2 =>
      intro v2 ls i0 hm hl hF
      rw [f_ps_kingSquare_L2] at hF
      refine lv_iload_n hx hb d_ps_kingSquare_2 rfl (lv_at hl 2 rfl) ?_
      refine lv_bipush (v := 64) hx hb d_ps_kingSquare_3 (by decide) ?_
      refine lv_icmp_ge (tgt := 31) hx hb d_ps_kingSquare_5 (by decide) (fun c_1 => ?_) (fun c_1 => ?_)
      · have hF := hF.trans (if_pos c_1)
        refine lv_iconst (v := -1) hx hb d_ps_kingSquare_31 (by decide) ?_
        exact W.iret (v := (-1 : Int32)) hx hb hr (fun t ht hW => ⟨_, rfl, ⟨hF, trivial⟩, ht⟩) hS.2.2 d_ps_kingSquare_32
      · have hF := hF.trans (if_neg c_1)
        refine lv_aload_n hx hb d_ps_kingSquare_8 rfl (lv_at hl 0 rfl) ?_
        refine va_get (D := kD K) (ci := 2) (v := .ref Pa0) (C := R_ps) (T := T_ps) (N := 6) hx hb htg in_ps hown hK hP 0 rfl rfl 0 (by decide) (htg (.fieldLink R_ps 9 "GameNotation$Position" "men" "[I") q_99) (fun _ h9 => h9) rfl d_ps_kingSquare_9 ?_
        refine lv_iload_n hx hb d_ps_kingSquare_12 rfl (lv_at hl 2 rfl) ?_
        have h_2 : vp_in v2 64 := lp_in i0 c_1 (by decide)
        refine va_iald hx hb hK hP 1 0 rfl rfl h_2 d_ps_kingSquare_13 ?_
        refine lv_bipush (v := 6) hx hb d_ps_kingSquare_14 (by decide) ?_
        refine lv_iload_n hx hb d_ps_kingSquare_16 rfl (lv_at hl 1 rfl) ?_
        have hPc : va_P (kD K) vwCl [] _ := hP.sub [] rfl
        refine vp_callSi (va_Run.run (va_runSN (As := [.int (6 : Int32), .int of_]) (rest := [.int (P.1 v2.toNatClampNeg)]) ⟨hx, hb, hml, hown, htg⟩ (c_gn_manOf l K (6 : Int32) of_) (⟨va_cnB 2 htg (g_w q_360) rfl rfl rfl (hG.nw 25 rfl) (htg _ q_1) k_gn_manOf ⟨Nat.le_of_ble_eq_true rfl, Nat.le_of_ble_eq_true rfl⟩, htg _ q_359, trivial⟩) ⟨ro_blind, ro_use hPc hK hG hS trivial⟩ rfl rfl hl.1 rfl (lv_room (Nat.le_of_ble_eq_true rfl)) d_ps_kingSquare_17 ⟨Nat.zero_le _, Nat.zero_le _⟩)) (fun r_3 hw_3 => ?_)
        have hF := hF.trans (bnd_s hw_3.1)
        refine lv_icmp_ne (tgt := 25) hx hb d_ps_kingSquare_20 (by decide) (fun c_4 => ?_) (fun c_4 => ?_)
        · have hF := hF.trans (if_neg c_4)
          refine lv_iinc (v := v2 + (1 : Int32)) (lv' := [(2, .int (v2 + (1 : Int32))), (0, .ref Ph), (1, .int of_)]) hx hb d_ps_kingSquare_25 hl (k := 2) rfl rfl (by decide) rfl (fun ls hl => ?_)
          refine lv_goto (tgt := 2) hx hb d_ps_kingSquare_28 (by decide) ?_
          exact ih2  (v2 + (1 : Int32)) ls (lp_s i0 c_1) (lp_d i0 c_1 (by decide) hm) (lv_sub hl [1, 2, 0] rfl) hF
        · have hF := hF.trans (if_pos c_4)
          refine lv_iload_n hx hb d_ps_kingSquare_23 rfl (lv_at hl 2 rfl) ?_
          exact W.iret (v := v2) hx hb hr (fun t ht hW => ⟨_, rfl, ⟨hF, trivial⟩, ht⟩) hS.2.2 d_ps_kingSquare_24
  exact loop2 65 (0 : Int32) ls (by decide) (by decide) (lv_sub hl [1, 2, 0] rfl) hF
def f_ps_hasMisplacedPawn_L2 (P : PsT) : Nat → Int32 → Int32
  | 0, _ => 0
  | n + 1, v1 => (if (8 : Int32) ≤ v1 then (0 : Int32) else (bnd (f_ps_manAt P v1 (0 : Int32)) (fun r_2 => (bnd (f_gn_kindOf r_2) (fun r_3 => (if r_3 = (1 : Int32) then (1 : Int32) else (bnd (f_ps_manAt P v1 (7 : Int32)) (fun r_5 => (bnd (f_gn_kindOf r_5) (fun r_6 => (if r_6 = (1 : Int32) then (1 : Int32) else (f_ps_hasMisplacedPawn_L2 P  n (v1 + (1 : Int32))))))))))))))
def f_ps_hasMisplacedPawn (P : PsT) : Int32 := (f_ps_hasMisplacedPawn_L2 P  9 (0 : Int32))
set_option maxHeartbeats 4000000 in
set_option maxRecDepth 100000 in
theorem c_ps_hasMisplacedPawn (l : Launch) (K : KT) (Ph Pa0 : Nat) (P : PsT) : Met l y_ps_hasMisplacedPawn w_ps_hasMisplacedPawn ({ frames := 1, cells := 0, slots := 0, locals := 23 } : Room) (va_Pc [.ref Ph] (fun U => pRO K [(Ph, .inr (2, [.ref Pa0, .int P.2.1, .int P.2.2.1, .int P.2.2.2.1, .int P.2.2.2.2.1, .int P.2.2.2.2.2])), (Pa0, .inl ((kI K), 64, .inl P.1))] U ∧ True)) (vp_Si (fun r => f_ps_hasMisplacedPawn P = r ∧ narrow .boolean (.int r) = .int r)) 0 0 (fun _ => False) := by
  refine Met.ofW (cc := b_ps_hasMisplacedPawn) (maxL := 2) (ret := (some .boolean)) (by decide) rfl ?_
  intro p e s m args below meth c s₁ B hml hv
  obtain ⟨rfl, ⟨hP, hK, hG⟩, -⟩ := hv
  have hx := B.exec
  have hb := B.bytes
  have hr := B.returns
  have hts := atoms_spec (ws := w_ps_hasMisplacedPawn) B.pre
  have hown : s.vm.findClass R_ps = some m.cls := findClass_of_methodNamed B.named
  have hlocks := B.notSynchronized
  have htg := fun w h => hts w (List.mem_cons_of_mem _ h)
  have hS : va_S (fun _ => False) s.heap s.heap [] := va_S.rf
  have hl := lv_entry ([.ref Ph]) (n := 2) (Nat.le_of_ble_eq_true rfl)
  rw [lg_entry_eq]
  generalize (lg_sl ([.ref Ph]) ++ List.replicate (2 - (lg_sl ([.ref Ph])).length) Slot.unset).toArray = ls at hl ⊢
  have hl : lv_has ls 2 [(0, .ref Ph)] := hl
  have hF := f_ps_hasMisplacedPawn.eq_1 P
  refine lv_iconst (v := 0) hx hb d_ps_hasMisplacedPawn_0 (by decide) ?_
  refine lv_istore_n (lv' := [(1, .int (0 : Int32)), (0, .ref Ph)]) hx hb d_ps_hasMisplacedPawn_1 rfl hl (by decide) rfl (fun ls hl => ?_)
  have loop2 : ∀ (n2 : Nat) (v1 : Int32) (ls : Array Slot), 0 ≤ v1.toInt → (8 - v1.toInt).toNat < n2 → lv_has ls 2 [(0, .ref Ph), (1, .int v1)] → f_ps_hasMisplacedPawn P = f_ps_hasMisplacedPawn_L2 P  n2 v1 → W p l e (headSpec w_ps_hasMisplacedPawn ({ frames := 1, cells := 0, slots := 0, locals := 23 } : Room)).room s m ([(.ref Ph : Value)].toArray) below meth c s.heap [] 0 0 (MQ below (vp_Si (fun r => f_ps_hasMisplacedPawn P = r ∧ narrow .boolean (.int r) = .int r)) ([(.ref Ph : Value)].toArray) s 0 0 ((fun _ => False))) (F0 m 2 ls []) := by
    intro n2
    induction n2 with
    | zero =>
      intro _ _ _ hz
      exact absurd hz (Nat.not_lt_zero _)
    | succ n2 ih2 =>
      intro v1 ls i0 hm hl hF
      rw [f_ps_hasMisplacedPawn_L2] at hF
      refine lv_iload_n hx hb d_ps_hasMisplacedPawn_2 rfl (lv_at hl 1 rfl) ?_
      refine lv_bipush (v := 8) hx hb d_ps_hasMisplacedPawn_3 (by decide) ?_
      refine lv_icmp_ge (tgt := 43) hx hb d_ps_hasMisplacedPawn_5 (by decide) (fun c_1 => ?_) (fun c_1 => ?_)
      · have hF := hF.trans (if_pos c_1)
        refine lv_iconst (v := 0) hx hb d_ps_hasMisplacedPawn_43 (by decide) ?_
        exact W.zret (v := (0 : Int32)) hx hb hr (rfl) (fun t ht hW => ⟨_, rfl, ⟨hF, rfl⟩, ht⟩) hS.2.2 d_ps_hasMisplacedPawn_44
      · have hF := hF.trans (if_neg c_1)
        refine lv_aload_n hx hb d_ps_hasMisplacedPawn_8 rfl (lv_at hl 0 rfl) ?_
        refine lv_iload_n hx hb d_ps_hasMisplacedPawn_9 rfl (lv_at hl 1 rfl) ?_
        refine lv_iconst (v := 0) hx hb d_ps_hasMisplacedPawn_10 (by decide) ?_
        have hPc : va_P (kD K) vwCl [(Ph, .inr (2, [.ref Pa0, .int P.2.1, .int P.2.2.1, .int P.2.2.2.1, .int P.2.2.2.2.1, .int P.2.2.2.2.2])), (Pa0, .inl ((kI K), 64, .inl P.1))] _ := hP.sub [0, 1] rfl
        refine vp_callSi (va_Run.run (va_runV (As := [.int v1, .int (0 : Int32)]) (rest := []) ⟨hx, hb, hml, hown, htg⟩ (c_ps_manAt l K Ph Pa0 P v1 (0 : Int32)) (cwV 2 htg (g_V q_369 q_370 q_371 q_6 (g_w q_372)) rfl rfl rfl ⟨rfl, k_ps_manAt⟩ ⟨Nat.le_of_ble_eq_true rfl, Nat.le_of_ble_eq_true rfl⟩) ⟨ro_blind, va_recv hK hPc (ci := 2) (q0 := 0) rfl rfl, ro_use hPc hK hG hS trivial⟩ rfl rfl hl.1 rfl (lv_room (Nat.le_of_ble_eq_true rfl)) d_ps_hasMisplacedPawn_11 ⟨Nat.zero_le _, Nat.zero_le _⟩)) (fun r_2 hw_2 => ?_)
        have hF := hF.trans (bnd_s hw_2.1)
        have hPc : va_P (kD K) vwCl [] _ := hP.sub [] rfl
        refine vp_callSi (va_Run.run (va_runSN (As := [.int r_2]) (rest := []) ⟨hx, hb, hml, hown, htg⟩ (c_gn_kindOf l K r_2) (⟨va_cnB 1 htg (g_w q_375) rfl rfl rfl (hG.nw 26 rfl) (htg _ q_1) k_gn_kindOf ⟨Nat.le_of_ble_eq_true rfl, Nat.le_of_ble_eq_true rfl⟩, htg _ q_374, trivial⟩) ⟨ro_blind, ro_use hPc hK hG hS trivial⟩ rfl rfl hl.1 rfl (lv_room (Nat.le_of_ble_eq_true rfl)) d_ps_hasMisplacedPawn_14 ⟨Nat.zero_le _, Nat.zero_le _⟩)) (fun r_3 hw_3 => ?_)
        have hF := hF.trans (bnd_s hw_3.1)
        refine lv_iconst (v := 1) hx hb d_ps_hasMisplacedPawn_17 (by decide) ?_
        refine lv_icmp_eq (tgt := 35) hx hb d_ps_hasMisplacedPawn_18 (by decide) (fun c_4 => ?_) (fun c_4 => ?_)
        · have hF := hF.trans (if_pos c_4)
          refine lv_iconst (v := 1) hx hb d_ps_hasMisplacedPawn_35 (by decide) ?_
          exact W.zret (v := (1 : Int32)) hx hb hr (rfl) (fun t ht hW => ⟨_, rfl, ⟨hF, rfl⟩, ht⟩) hS.2.2 d_ps_hasMisplacedPawn_36
        · have hF := hF.trans (if_neg c_4)
          refine lv_aload_n hx hb d_ps_hasMisplacedPawn_21 rfl (lv_at hl 0 rfl) ?_
          refine lv_iload_n hx hb d_ps_hasMisplacedPawn_22 rfl (lv_at hl 1 rfl) ?_
          refine lv_bipush (v := 7) hx hb d_ps_hasMisplacedPawn_23 (by decide) ?_
          have hPc : va_P (kD K) vwCl [(Ph, .inr (2, [.ref Pa0, .int P.2.1, .int P.2.2.1, .int P.2.2.2.1, .int P.2.2.2.2.1, .int P.2.2.2.2.2])), (Pa0, .inl ((kI K), 64, .inl P.1))] _ := hP.sub [0, 1] rfl
          refine vp_callSi (va_Run.run (va_runV (As := [.int v1, .int (7 : Int32)]) (rest := []) ⟨hx, hb, hml, hown, htg⟩ (c_ps_manAt l K Ph Pa0 P v1 (7 : Int32)) (cwV 2 htg (g_V q_369 q_370 q_371 q_6 (g_w q_372)) rfl rfl rfl ⟨rfl, k_ps_manAt⟩ ⟨Nat.le_of_ble_eq_true rfl, Nat.le_of_ble_eq_true rfl⟩) ⟨ro_blind, va_recv hK hPc (ci := 2) (q0 := 0) rfl rfl, ro_use hPc hK hG hS trivial⟩ rfl rfl hl.1 rfl (lv_room (Nat.le_of_ble_eq_true rfl)) d_ps_hasMisplacedPawn_25 ⟨Nat.zero_le _, Nat.zero_le _⟩)) (fun r_5 hw_5 => ?_)
          have hF := hF.trans (bnd_s hw_5.1)
          have hPc : va_P (kD K) vwCl [] _ := hP.sub [] rfl
          refine vp_callSi (va_Run.run (va_runSN (As := [.int r_5]) (rest := []) ⟨hx, hb, hml, hown, htg⟩ (c_gn_kindOf l K r_5) (⟨va_cnB 1 htg (g_w q_375) rfl rfl rfl (hG.nw 26 rfl) (htg _ q_1) k_gn_kindOf ⟨Nat.le_of_ble_eq_true rfl, Nat.le_of_ble_eq_true rfl⟩, htg _ q_374, trivial⟩) ⟨ro_blind, ro_use hPc hK hG hS trivial⟩ rfl rfl hl.1 rfl (lv_room (Nat.le_of_ble_eq_true rfl)) d_ps_hasMisplacedPawn_28 ⟨Nat.zero_le _, Nat.zero_le _⟩)) (fun r_6 hw_6 => ?_)
          have hF := hF.trans (bnd_s hw_6.1)
          refine lv_iconst (v := 1) hx hb d_ps_hasMisplacedPawn_31 (by decide) ?_
          refine lv_icmp_ne (tgt := 37) hx hb d_ps_hasMisplacedPawn_32 (by decide) (fun c_7 => ?_) (fun c_7 => ?_)
          · have hF := hF.trans (if_neg c_7)
            refine lv_iinc (v := v1 + (1 : Int32)) (lv' := [(1, .int (v1 + (1 : Int32))), (0, .ref Ph)]) hx hb d_ps_hasMisplacedPawn_37 hl (k := 1) rfl rfl (by decide) rfl (fun ls hl => ?_)
            refine lv_goto (tgt := 2) hx hb d_ps_hasMisplacedPawn_40 (by decide) ?_
            exact ih2  (v1 + (1 : Int32)) ls (lp_s i0 c_1) (lp_d i0 c_1 (by decide) hm) (lv_sub hl [1, 0] rfl) hF
          · have hF := hF.trans (if_pos c_7)
            refine lv_iconst (v := 1) hx hb d_ps_hasMisplacedPawn_35 (by decide) ?_
            exact W.zret (v := (1 : Int32)) hx hb hr (rfl) (fun t ht hW => ⟨_, rfl, ⟨hF, rfl⟩, ht⟩) hS.2.2 d_ps_hasMisplacedPawn_36
  exact loop2 9 (0 : Int32) ls (by decide) (by decide) (lv_sub hl [1, 0] rfl) hF
def f_ps_extra (P : PsT) (kd : Int32) (of_ : Int32) (us : Int32) : Int32 := (bnd (f_gn_manOf kd of_) (fun r_1 => (bnd (f_ps_count P r_1) (fun r_2 => (if (0 : Int32) < (r_2 - us) then (r_2 - us) else (0 : Int32))))))
set_option maxHeartbeats 4000000 in
set_option maxRecDepth 100000 in
theorem c_ps_extra (l : Launch) (K : KT) (Ph Pa0 : Nat) (P : PsT) (kd : Int32) (of_ : Int32) (us : Int32) : Met l y_ps_extra w_ps_extra ({ frames := 1, cells := 0, slots := 0, locals := 23 } : Room) (va_Pc [.ref Ph, .int kd, .int of_, .int us] (fun U => pRO K [(Ph, .inr (2, [.ref Pa0, .int P.2.1, .int P.2.2.1, .int P.2.2.2.1, .int P.2.2.2.2.1, .int P.2.2.2.2.2])), (Pa0, .inl ((kI K), 64, .inl P.1))] U ∧ True)) (vp_Si (fun r => f_ps_extra P kd of_ us = r ∧ True)) 0 0 (fun _ => False) := by
  refine Met.ofW (cc := b_ps_extra) (maxL := 4) (ret := (some .int)) (by decide) rfl ?_
  intro p e s m args below meth c s₁ B hml hv
  obtain ⟨rfl, ⟨hP, hK, hG⟩, -⟩ := hv
  have hx := B.exec
  have hb := B.bytes
  have hr := B.returns
  have hts := atoms_spec (ws := w_ps_extra) B.pre
  have hown : s.vm.findClass R_ps = some m.cls := findClass_of_methodNamed B.named
  have hlocks := B.notSynchronized
  have htg := fun w h => hts w (List.mem_cons_of_mem _ h)
  have hS : va_S (fun _ => False) s.heap s.heap [] := va_S.rf
  have hl := lv_entry ([.ref Ph, .int kd, .int of_, .int us]) (n := 4) (Nat.le_of_ble_eq_true rfl)
  rw [lg_entry_eq]
  generalize (lg_sl ([.ref Ph, .int kd, .int of_, .int us]) ++ List.replicate (4 - (lg_sl ([.ref Ph, .int kd, .int of_, .int us])).length) Slot.unset).toArray = ls at hl ⊢
  have hl : lv_has ls 4 [(0, .ref Ph), (1, .int kd), (2, .int of_), (3, .int us)] := hl
  have hF := f_ps_extra.eq_1 P kd of_ us
  refine lv_iconst (v := 0) hx hb d_ps_extra_0 (by decide) ?_
  refine lv_aload_n hx hb d_ps_extra_1 rfl (lv_at hl 0 rfl) ?_
  refine lv_iload_n hx hb d_ps_extra_2 rfl (lv_at hl 1 rfl) ?_
  refine lv_iload_n hx hb d_ps_extra_3 rfl (lv_at hl 2 rfl) ?_
  have hPc : va_P (kD K) vwCl [] _ := hP.sub [] rfl
  refine vp_callSi (va_Run.run (va_runSN (As := [.int kd, .int of_]) (rest := [.ref Ph, .int (0 : Int32)]) ⟨hx, hb, hml, hown, htg⟩ (c_gn_manOf l K kd of_) (⟨va_cnB 2 htg (g_w q_360) rfl rfl rfl (hG.nw 25 rfl) (htg _ q_1) k_gn_manOf ⟨Nat.le_of_ble_eq_true rfl, Nat.le_of_ble_eq_true rfl⟩, htg _ q_359, trivial⟩) ⟨ro_blind, ro_use hPc hK hG hS trivial⟩ rfl rfl hl.1 rfl (lv_room (Nat.le_of_ble_eq_true rfl)) d_ps_extra_4 ⟨Nat.zero_le _, Nat.zero_le _⟩)) (fun r_1 hw_1 => ?_)
  have hF := hF.trans (bnd_s hw_1.1)
  have hPc : va_P (kD K) vwCl [(Ph, .inr (2, [.ref Pa0, .int P.2.1, .int P.2.2.1, .int P.2.2.2.1, .int P.2.2.2.2.1, .int P.2.2.2.2.2])), (Pa0, .inl ((kI K), 64, .inl P.1))] _ := hP.sub [0, 1] rfl
  refine vp_callSi (va_Run.run (va_runV (As := [.int r_1]) (rest := [.int (0 : Int32)]) ⟨hx, hb, hml, hown, htg⟩ (c_ps_count l K Ph Pa0 P r_1) (cwV 1 htg (g_V q_361 q_363 qs_7 q_6 (g_w q_364)) rfl rfl rfl ⟨rfl, k_ps_count⟩ ⟨Nat.le_of_ble_eq_true rfl, Nat.le_of_ble_eq_true rfl⟩) ⟨ro_blind, va_recv hK hPc (ci := 2) (q0 := 0) rfl rfl, ro_use hPc hK hG hS trivial⟩ rfl rfl hl.1 rfl (lv_room (Nat.le_of_ble_eq_true rfl)) d_ps_extra_7 ⟨Nat.zero_le _, Nat.zero_le _⟩)) (fun r_2 hw_2 => ?_)
  have hF := hF.trans (bnd_s hw_2.1)
  refine lv_iload_n hx hb d_ps_extra_10 rfl (lv_at hl 3 rfl) ?_
  refine lv_isub hx hb d_ps_extra_11 ?_
  refine va_mmax hx hb (hml.trans hl.1.symm) hown (htg _ q_384) (htg _ q_232) (htg _ q_10) (htg _ q_233) (Nat.le_of_ble_eq_true rfl) (Nat.le_of_ble_eq_true rfl) (Nat.zero_le _) (Nat.zero_le _) d_ps_extra_12 ?_
  exact W.iret (v := (if (0 : Int32) < (r_2 - us) then (r_2 - us) else (0 : Int32))) hx hb hr (fun t ht hW => ⟨_, rfl, ⟨hF, trivial⟩, ht⟩) hS.2.2 d_ps_extra_15
def f_ps_hasTooMany (P : PsT) (of_ : Int32) : Int32 := (bnd (f_ps_extra P (2 : Int32) of_ (2 : Int32)) (fun r_1 => (bnd (f_ps_extra P (3 : Int32) of_ (2 : Int32)) (fun r_2 => (bnd (f_ps_extra P (4 : Int32) of_ (2 : Int32)) (fun r_3 => (bnd (f_ps_extra P (5 : Int32) of_ (1 : Int32)) (fun r_4 => (bnd (f_gn_manOf (1 : Int32) of_) (fun r_5 => (bnd (f_ps_count P r_5) (fun r_6 => (if (((r_1 + r_2) + r_3) + r_4) ≤ ((8 : Int32) - r_6) then (0 : Int32) else (1 : Int32))))))))))))))
set_option maxHeartbeats 4000000 in
set_option maxRecDepth 100000 in
theorem c_ps_hasTooMany (l : Launch) (K : KT) (Ph Pa0 : Nat) (P : PsT) (of_ : Int32) : Met l y_ps_hasTooMany w_ps_hasTooMany ({ frames := 2, cells := 0, slots := 0, locals := 46 } : Room) (va_Pc [.ref Ph, .int of_] (fun U => pRO K [(Ph, .inr (2, [.ref Pa0, .int P.2.1, .int P.2.2.1, .int P.2.2.2.1, .int P.2.2.2.2.1, .int P.2.2.2.2.2])), (Pa0, .inl ((kI K), 64, .inl P.1))] U ∧ True)) (vp_Si (fun r => f_ps_hasTooMany P of_ = r ∧ narrow .boolean (.int r) = .int r)) 0 0 (fun _ => False) := by
  refine Met.ofW (cc := b_ps_hasTooMany) (maxL := 3) (ret := (some .boolean)) (by decide) rfl ?_
  intro p e s m args below meth c s₁ B hml hv
  obtain ⟨rfl, ⟨hP, hK, hG⟩, -⟩ := hv
  have hx := B.exec
  have hb := B.bytes
  have hr := B.returns
  have hts := atoms_spec (ws := w_ps_hasTooMany) B.pre
  have hown : s.vm.findClass R_ps = some m.cls := findClass_of_methodNamed B.named
  have hlocks := B.notSynchronized
  have htg := fun w h => hts w (List.mem_cons_of_mem _ h)
  have hS : va_S (fun _ => False) s.heap s.heap [] := va_S.rf
  have hl := lv_entry ([.ref Ph, .int of_]) (n := 3) (Nat.le_of_ble_eq_true rfl)
  rw [lg_entry_eq]
  generalize (lg_sl ([.ref Ph, .int of_]) ++ List.replicate (3 - (lg_sl ([.ref Ph, .int of_])).length) Slot.unset).toArray = ls at hl ⊢
  have hl : lv_has ls 3 [(0, .ref Ph), (1, .int of_)] := hl
  have hF := f_ps_hasTooMany.eq_1 P of_
  refine lv_aload_n hx hb d_ps_hasTooMany_0 rfl (lv_at hl 0 rfl) ?_
  refine lv_iconst (v := 2) hx hb d_ps_hasTooMany_1 (by decide) ?_
  refine lv_iload_n hx hb d_ps_hasTooMany_2 rfl (lv_at hl 1 rfl) ?_
  refine lv_iconst (v := 2) hx hb d_ps_hasTooMany_3 (by decide) ?_
  have hPc : va_P (kD K) vwCl [(Ph, .inr (2, [.ref Pa0, .int P.2.1, .int P.2.2.1, .int P.2.2.2.1, .int P.2.2.2.2.1, .int P.2.2.2.2.2])), (Pa0, .inl ((kI K), 64, .inl P.1))] _ := hP.sub [0, 1] rfl
  refine vp_callSi (va_Run.run (va_runV (As := [.int (2 : Int32), .int of_, .int (2 : Int32)]) (rest := []) ⟨hx, hb, hml, hown, htg⟩ (c_ps_extra l K Ph Pa0 P (2 : Int32) of_ (2 : Int32)) (cwV 3 htg (g_V q_380 q_382 qs_10 q_6 (g_w q_383)) rfl rfl rfl ⟨rfl, k_ps_extra⟩ ⟨Nat.le_of_ble_eq_true rfl, Nat.le_of_ble_eq_true rfl⟩) ⟨ro_blind, va_recv hK hPc (ci := 2) (q0 := 0) rfl rfl, ro_use hPc hK hG hS trivial⟩ rfl rfl hl.1 rfl (lv_room (Nat.le_of_ble_eq_true rfl)) d_ps_hasTooMany_4 ⟨Nat.zero_le _, Nat.zero_le _⟩)) (fun r_1 hw_1 => ?_)
  have hF := hF.trans (bnd_s hw_1.1)
  refine lv_aload_n hx hb d_ps_hasTooMany_7 rfl (lv_at hl 0 rfl) ?_
  refine lv_iconst (v := 3) hx hb d_ps_hasTooMany_8 (by decide) ?_
  refine lv_iload_n hx hb d_ps_hasTooMany_9 rfl (lv_at hl 1 rfl) ?_
  refine lv_iconst (v := 2) hx hb d_ps_hasTooMany_10 (by decide) ?_
  have hPc : va_P (kD K) vwCl [(Ph, .inr (2, [.ref Pa0, .int P.2.1, .int P.2.2.1, .int P.2.2.2.1, .int P.2.2.2.2.1, .int P.2.2.2.2.2])), (Pa0, .inl ((kI K), 64, .inl P.1))] _ := hP.sub [0, 1] rfl
  refine vp_callSi (va_Run.run (va_runV (As := [.int (3 : Int32), .int of_, .int (2 : Int32)]) (rest := [.int r_1]) ⟨hx, hb, hml, hown, htg⟩ (c_ps_extra l K Ph Pa0 P (3 : Int32) of_ (2 : Int32)) (cwV 3 htg (g_V q_380 q_382 qs_10 q_6 (g_w q_383)) rfl rfl rfl ⟨rfl, k_ps_extra⟩ ⟨Nat.le_of_ble_eq_true rfl, Nat.le_of_ble_eq_true rfl⟩) ⟨ro_blind, va_recv hK hPc (ci := 2) (q0 := 0) rfl rfl, ro_use hPc hK hG hS trivial⟩ rfl rfl hl.1 rfl (lv_room (Nat.le_of_ble_eq_true rfl)) d_ps_hasTooMany_11 ⟨Nat.zero_le _, Nat.zero_le _⟩)) (fun r_2 hw_2 => ?_)
  have hF := hF.trans (bnd_s hw_2.1)
  refine lv_iadd hx hb d_ps_hasTooMany_14 ?_
  refine lv_aload_n hx hb d_ps_hasTooMany_15 rfl (lv_at hl 0 rfl) ?_
  refine lv_iconst (v := 4) hx hb d_ps_hasTooMany_16 (by decide) ?_
  refine lv_iload_n hx hb d_ps_hasTooMany_17 rfl (lv_at hl 1 rfl) ?_
  refine lv_iconst (v := 2) hx hb d_ps_hasTooMany_18 (by decide) ?_
  have hPc : va_P (kD K) vwCl [(Ph, .inr (2, [.ref Pa0, .int P.2.1, .int P.2.2.1, .int P.2.2.2.1, .int P.2.2.2.2.1, .int P.2.2.2.2.2])), (Pa0, .inl ((kI K), 64, .inl P.1))] _ := hP.sub [0, 1] rfl
  refine vp_callSi (va_Run.run (va_runV (As := [.int (4 : Int32), .int of_, .int (2 : Int32)]) (rest := [.int (r_1 + r_2)]) ⟨hx, hb, hml, hown, htg⟩ (c_ps_extra l K Ph Pa0 P (4 : Int32) of_ (2 : Int32)) (cwV 3 htg (g_V q_380 q_382 qs_10 q_6 (g_w q_383)) rfl rfl rfl ⟨rfl, k_ps_extra⟩ ⟨Nat.le_of_ble_eq_true rfl, Nat.le_of_ble_eq_true rfl⟩) ⟨ro_blind, va_recv hK hPc (ci := 2) (q0 := 0) rfl rfl, ro_use hPc hK hG hS trivial⟩ rfl rfl hl.1 rfl (lv_room (Nat.le_of_ble_eq_true rfl)) d_ps_hasTooMany_19 ⟨Nat.zero_le _, Nat.zero_le _⟩)) (fun r_3 hw_3 => ?_)
  have hF := hF.trans (bnd_s hw_3.1)
  refine lv_iadd hx hb d_ps_hasTooMany_22 ?_
  refine lv_aload_n hx hb d_ps_hasTooMany_23 rfl (lv_at hl 0 rfl) ?_
  refine lv_iconst (v := 5) hx hb d_ps_hasTooMany_24 (by decide) ?_
  refine lv_iload_n hx hb d_ps_hasTooMany_25 rfl (lv_at hl 1 rfl) ?_
  refine lv_iconst (v := 1) hx hb d_ps_hasTooMany_26 (by decide) ?_
  have hPc : va_P (kD K) vwCl [(Ph, .inr (2, [.ref Pa0, .int P.2.1, .int P.2.2.1, .int P.2.2.2.1, .int P.2.2.2.2.1, .int P.2.2.2.2.2])), (Pa0, .inl ((kI K), 64, .inl P.1))] _ := hP.sub [0, 1] rfl
  refine vp_callSi (va_Run.run (va_runV (As := [.int (5 : Int32), .int of_, .int (1 : Int32)]) (rest := [.int ((r_1 + r_2) + r_3)]) ⟨hx, hb, hml, hown, htg⟩ (c_ps_extra l K Ph Pa0 P (5 : Int32) of_ (1 : Int32)) (cwV 3 htg (g_V q_380 q_382 qs_10 q_6 (g_w q_383)) rfl rfl rfl ⟨rfl, k_ps_extra⟩ ⟨Nat.le_of_ble_eq_true rfl, Nat.le_of_ble_eq_true rfl⟩) ⟨ro_blind, va_recv hK hPc (ci := 2) (q0 := 0) rfl rfl, ro_use hPc hK hG hS trivial⟩ rfl rfl hl.1 rfl (lv_room (Nat.le_of_ble_eq_true rfl)) d_ps_hasTooMany_27 ⟨Nat.zero_le _, Nat.zero_le _⟩)) (fun r_4 hw_4 => ?_)
  have hF := hF.trans (bnd_s hw_4.1)
  refine lv_iadd hx hb d_ps_hasTooMany_30 ?_
  refine lv_istore_n (lv' := [(2, .int (((r_1 + r_2) + r_3) + r_4)), (0, .ref Ph), (1, .int of_)]) hx hb d_ps_hasTooMany_31 rfl hl (by decide) rfl (fun ls hl => ?_)
  refine lv_iload_n hx hb d_ps_hasTooMany_32 rfl (lv_at hl 0 rfl) ?_
  refine lv_bipush (v := 8) hx hb d_ps_hasTooMany_33 (by decide) ?_
  refine lv_aload_n hx hb d_ps_hasTooMany_35 rfl (lv_at hl 1 rfl) ?_
  refine lv_iconst (v := 1) hx hb d_ps_hasTooMany_36 (by decide) ?_
  refine lv_iload_n hx hb d_ps_hasTooMany_37 rfl (lv_at hl 2 rfl) ?_
  have hPc : va_P (kD K) vwCl [] _ := hP.sub [] rfl
  refine vp_callSi (va_Run.run (va_runSN (As := [.int (1 : Int32), .int of_]) (rest := [.ref Ph, .int (8 : Int32), .int (((r_1 + r_2) + r_3) + r_4)]) ⟨hx, hb, hml, hown, htg⟩ (c_gn_manOf l K (1 : Int32) of_) (⟨va_cnB 2 htg (g_w q_360) rfl rfl rfl (hG.nw 25 rfl) (htg _ q_1) k_gn_manOf ⟨Nat.le_of_ble_eq_true rfl, Nat.le_of_ble_eq_true rfl⟩, htg _ q_359, trivial⟩) ⟨ro_blind, ro_use hPc hK hG hS trivial⟩ rfl rfl hl.1 rfl (lv_room (Nat.le_of_ble_eq_true rfl)) d_ps_hasTooMany_38 ⟨Nat.zero_le _, Nat.zero_le _⟩)) (fun r_5 hw_5 => ?_)
  have hF := hF.trans (bnd_s hw_5.1)
  have hPc : va_P (kD K) vwCl [(Ph, .inr (2, [.ref Pa0, .int P.2.1, .int P.2.2.1, .int P.2.2.2.1, .int P.2.2.2.2.1, .int P.2.2.2.2.2])), (Pa0, .inl ((kI K), 64, .inl P.1))] _ := hP.sub [0, 1] rfl
  refine vp_callSi (va_Run.run (va_runV (As := [.int r_5]) (rest := [.int (8 : Int32), .int (((r_1 + r_2) + r_3) + r_4)]) ⟨hx, hb, hml, hown, htg⟩ (c_ps_count l K Ph Pa0 P r_5) (cwV 1 htg (g_V q_361 q_363 qs_7 q_6 (g_w q_364)) rfl rfl rfl ⟨rfl, k_ps_count⟩ ⟨Nat.le_of_ble_eq_true rfl, Nat.le_of_ble_eq_true rfl⟩) ⟨ro_blind, va_recv hK hPc (ci := 2) (q0 := 0) rfl rfl, ro_use hPc hK hG hS trivial⟩ rfl rfl hl.1 rfl (lv_room (Nat.le_of_ble_eq_true rfl)) d_ps_hasTooMany_41 ⟨Nat.zero_le _, Nat.zero_le _⟩)) (fun r_6 hw_6 => ?_)
  have hF := hF.trans (bnd_s hw_6.1)
  refine lv_isub hx hb d_ps_hasTooMany_44 ?_
  refine lv_icmp_le (tgt := 52) hx hb d_ps_hasTooMany_45 (by decide) (fun c_7 => ?_) (fun c_7 => ?_)
  · have hF := hF.trans (if_pos c_7)
    refine lv_iconst (v := 0) hx hb d_ps_hasTooMany_52 (by decide) ?_
    exact W.zret (v := (0 : Int32)) hx hb hr (rfl) (fun t ht hW => ⟨_, rfl, ⟨hF, rfl⟩, ht⟩) hS.2.2 d_ps_hasTooMany_53
  · have hF := hF.trans (if_neg c_7)
    refine lv_iconst (v := 1) hx hb d_ps_hasTooMany_48 (by decide) ?_
    refine lv_goto (tgt := 53) hx hb d_ps_hasTooMany_49 (by decide) ?_
    exact W.zret (v := (1 : Int32)) hx hb hr (rfl) (fun t ht hW => ⟨_, rfl, ⟨hF, rfl⟩, ht⟩) hS.2.2 d_ps_hasTooMany_53
def f_ps_rightHolds (P : PsT) (wh : Int32) : Int32 := (if (2 : Int32) ≤ wh then (if (wh - wh / (2 : Int32) * (2 : Int32)) = 0 then (bnd (f_gn_ownRank (0 : Int32) (1 : Int32)) (fun r_10 => (bnd (f_ps_manAt P (4 : Int32) r_10) (fun r_11 => (bnd (f_gn_manOf (6 : Int32) (1 : Int32)) (fun r_12 => (if r_11 = r_12 then (bnd (f_ps_manAt P (7 : Int32) r_10) (fun r_14 => (bnd (f_gn_manOf (4 : Int32) (1 : Int32)) (fun r_15 => (if r_14 = r_15 then (1 : Int32) else (0 : Int32)))))) else (0 : Int32)))))))) else (bnd (f_gn_ownRank (0 : Int32) (1 : Int32)) (fun r_3 => (bnd (f_ps_manAt P (4 : Int32) r_3) (fun r_4 => (bnd (f_gn_manOf (6 : Int32) (1 : Int32)) (fun r_5 => (if r_4 = r_5 then (bnd (f_ps_manAt P (0 : Int32) r_3) (fun r_7 => (bnd (f_gn_manOf (4 : Int32) (1 : Int32)) (fun r_8 => (if r_7 = r_8 then (1 : Int32) else (0 : Int32)))))) else (0 : Int32))))))))) else (if (wh - wh / (2 : Int32) * (2 : Int32)) = 0 then (bnd (f_gn_ownRank (0 : Int32) (0 : Int32)) (fun r_25 => (bnd (f_ps_manAt P (4 : Int32) r_25) (fun r_26 => (bnd (f_gn_manOf (6 : Int32) (0 : Int32)) (fun r_27 => (if r_26 = r_27 then (bnd (f_ps_manAt P (7 : Int32) r_25) (fun r_29 => (bnd (f_gn_manOf (4 : Int32) (0 : Int32)) (fun r_30 => (if r_29 = r_30 then (1 : Int32) else (0 : Int32)))))) else (0 : Int32)))))))) else (bnd (f_gn_ownRank (0 : Int32) (0 : Int32)) (fun r_18 => (bnd (f_ps_manAt P (4 : Int32) r_18) (fun r_19 => (bnd (f_gn_manOf (6 : Int32) (0 : Int32)) (fun r_20 => (if r_19 = r_20 then (bnd (f_ps_manAt P (0 : Int32) r_18) (fun r_22 => (bnd (f_gn_manOf (4 : Int32) (0 : Int32)) (fun r_23 => (if r_22 = r_23 then (1 : Int32) else (0 : Int32)))))) else (0 : Int32))))))))))
set_option maxHeartbeats 4000000 in
set_option maxRecDepth 100000 in
theorem c_ps_rightHolds (l : Launch) (K : KT) (Ph Pa0 : Nat) (P : PsT) (wh : Int32) : Met l y_ps_rightHolds w_ps_rightHolds ({ frames := 1, cells := 0, slots := 0, locals := 23 } : Room) (va_Pc [.ref Ph, .int wh] (fun U => pRO K [(Ph, .inr (2, [.ref Pa0, .int P.2.1, .int P.2.2.1, .int P.2.2.2.1, .int P.2.2.2.2.1, .int P.2.2.2.2.2])), (Pa0, .inl ((kI K), 64, .inl P.1))] U ∧ True)) (vp_Si (fun r => f_ps_rightHolds P wh = r ∧ narrow .boolean (.int r) = .int r)) 0 0 (fun _ => False) := by
  refine Met.ofW (cc := b_ps_rightHolds) (maxL := 5) (ret := (some .boolean)) (by decide) rfl ?_
  intro p e s m args below meth c s₁ B hml hv
  obtain ⟨rfl, ⟨hP, hK, hG⟩, -⟩ := hv
  have hx := B.exec
  have hb := B.bytes
  have hr := B.returns
  have hts := atoms_spec (ws := w_ps_rightHolds) B.pre
  have hown : s.vm.findClass R_ps = some m.cls := findClass_of_methodNamed B.named
  have hlocks := B.notSynchronized
  have htg := fun w h => hts w (List.mem_cons_of_mem _ h)
  have hS : va_S (fun _ => False) s.heap s.heap [] := va_S.rf
  have hl := lv_entry ([.ref Ph, .int wh]) (n := 5) (Nat.le_of_ble_eq_true rfl)
  rw [lg_entry_eq]
  generalize (lg_sl ([.ref Ph, .int wh]) ++ List.replicate (5 - (lg_sl ([.ref Ph, .int wh])).length) Slot.unset).toArray = ls at hl ⊢
  have hl : lv_has ls 5 [(0, .ref Ph), (1, .int wh)] := hl
  have hF := f_ps_rightHolds.eq_1 P wh
  refine lv_iload_n hx hb d_ps_rightHolds_0 rfl (lv_at hl 1 rfl) ?_
  refine lv_iconst (v := 2) hx hb d_ps_rightHolds_1 (by decide) ?_
  refine lv_icmp_ge (tgt := 9) hx hb d_ps_rightHolds_2 (by decide) (fun c_1 => ?_) (fun c_1 => ?_)
  · have hF := hF.trans (if_pos c_1)
    refine lv_iconst (v := 1) hx hb d_ps_rightHolds_9 (by decide) ?_
    refine lv_istore_n (lv' := [(2, .int (1 : Int32)), (0, .ref Ph), (1, .int wh)]) hx hb d_ps_rightHolds_10 rfl hl (by decide) rfl (fun ls hl => ?_)
    refine lv_iload_n hx hb d_ps_rightHolds_11 rfl (lv_at hl 2 rfl) ?_
    refine lv_iconst (v := 2) hx hb d_ps_rightHolds_12 (by decide) ?_
    refine lv_irem hx hb d_ps_rightHolds_13 (by decide) ?_
    refine lv_if_ne (tgt := 22) hx hb d_ps_rightHolds_14 (by decide) (fun c_2 => ?_) (fun c_2 => ?_)
    · have hF := hF.trans (if_neg c_2)
      refine lv_iconst (v := 0) hx hb d_ps_rightHolds_22 (by decide) ?_
      refine lv_istore_n (lv' := [(3, .int (0 : Int32)), (2, .int (1 : Int32)), (0, .ref Ph), (1, .int wh)]) hx hb d_ps_rightHolds_23 rfl hl (by decide) rfl (fun ls hl => ?_)
      refine lv_iconst (v := 0) hx hb d_ps_rightHolds_24 (by decide) ?_
      refine lv_iload_n hx hb d_ps_rightHolds_25 rfl (lv_at hl 1 rfl) ?_
      have hPc : va_P (kD K) vwCl [] _ := hP.sub [] rfl
      refine vp_callSi (va_Run.run (va_runSN (As := [.int (0 : Int32), .int (1 : Int32)]) (rest := []) ⟨hx, hb, hml, hown, htg⟩ (c_gn_ownRank l K (0 : Int32) (1 : Int32)) (⟨va_cnB 2 htg (g_w q_401) rfl rfl rfl (hG.nw 27 rfl) (htg _ q_1) k_gn_ownRank ⟨Nat.le_of_ble_eq_true rfl, Nat.le_of_ble_eq_true rfl⟩, htg _ q_400, trivial⟩) ⟨ro_blind, ro_use hPc hK hG hS trivial⟩ rfl rfl hl.1 rfl (lv_room (Nat.le_of_ble_eq_true rfl)) d_ps_rightHolds_26 ⟨Nat.zero_le _, Nat.zero_le _⟩)) (fun r_3 hw_3 => ?_)
      have hF := hF.trans (bnd_s hw_3.1)
      refine lv_istore (lv' := [(4, .int r_3), (3, .int (0 : Int32)), (2, .int (1 : Int32)), (0, .ref Ph), (1, .int wh)]) hx hb d_ps_rightHolds_29 hl (by decide) rfl (fun ls hl => ?_)
      refine lv_aload_n hx hb d_ps_rightHolds_31 rfl (lv_at hl 3 rfl) ?_
      refine lv_iconst (v := 4) hx hb d_ps_rightHolds_32 (by decide) ?_
      refine lv_iload hx hb d_ps_rightHolds_33 (lv_at hl 0 rfl) ?_
      have hPc : va_P (kD K) vwCl [(Ph, .inr (2, [.ref Pa0, .int P.2.1, .int P.2.2.1, .int P.2.2.2.1, .int P.2.2.2.2.1, .int P.2.2.2.2.2])), (Pa0, .inl ((kI K), 64, .inl P.1))] _ := hP.sub [0, 1] rfl
      refine vp_callSi (va_Run.run (va_runV (As := [.int (4 : Int32), .int r_3]) (rest := []) ⟨hx, hb, hml, hown, htg⟩ (c_ps_manAt l K Ph Pa0 P (4 : Int32) r_3) (cwV 2 htg (g_V q_369 q_370 q_371 q_6 (g_w q_372)) rfl rfl rfl ⟨rfl, k_ps_manAt⟩ ⟨Nat.le_of_ble_eq_true rfl, Nat.le_of_ble_eq_true rfl⟩) ⟨ro_blind, va_recv hK hPc (ci := 2) (q0 := 0) rfl rfl, ro_use hPc hK hG hS trivial⟩ rfl rfl hl.1 rfl (lv_room (Nat.le_of_ble_eq_true rfl)) d_ps_rightHolds_35 ⟨Nat.zero_le _, Nat.zero_le _⟩)) (fun r_4 hw_4 => ?_)
      have hF := hF.trans (bnd_s hw_4.1)
      refine lv_bipush (v := 6) hx hb d_ps_rightHolds_38 (by decide) ?_
      refine lv_iload_n hx hb d_ps_rightHolds_40 rfl (lv_at hl 2 rfl) ?_
      have hPc : va_P (kD K) vwCl [] _ := hP.sub [] rfl
      refine vp_callSi (va_Run.run (va_runSN (As := [.int (6 : Int32), .int (1 : Int32)]) (rest := [.int r_4]) ⟨hx, hb, hml, hown, htg⟩ (c_gn_manOf l K (6 : Int32) (1 : Int32)) (⟨va_cnB 2 htg (g_w q_360) rfl rfl rfl (hG.nw 25 rfl) (htg _ q_1) k_gn_manOf ⟨Nat.le_of_ble_eq_true rfl, Nat.le_of_ble_eq_true rfl⟩, htg _ q_359, trivial⟩) ⟨ro_blind, ro_use hPc hK hG hS trivial⟩ rfl rfl hl.1 rfl (lv_room (Nat.le_of_ble_eq_true rfl)) d_ps_rightHolds_41 ⟨Nat.zero_le _, Nat.zero_le _⟩)) (fun r_5 hw_5 => ?_)
      have hF := hF.trans (bnd_s hw_5.1)
      refine lv_icmp_ne (tgt := 66) hx hb d_ps_rightHolds_44 (by decide) (fun c_6 => ?_) (fun c_6 => ?_)
      · have hF := hF.trans (if_neg c_6)
        refine lv_iconst (v := 0) hx hb d_ps_rightHolds_66 (by decide) ?_
        exact W.zret (v := (0 : Int32)) hx hb hr (rfl) (fun t ht hW => ⟨_, rfl, ⟨hF, rfl⟩, ht⟩) hS.2.2 d_ps_rightHolds_67
      · have hF := hF.trans (if_pos c_6)
        refine lv_aload_n hx hb d_ps_rightHolds_47 rfl (lv_at hl 3 rfl) ?_
        refine lv_iload_n hx hb d_ps_rightHolds_48 rfl (lv_at hl 1 rfl) ?_
        refine lv_iload hx hb d_ps_rightHolds_49 (lv_at hl 0 rfl) ?_
        have hPc : va_P (kD K) vwCl [(Ph, .inr (2, [.ref Pa0, .int P.2.1, .int P.2.2.1, .int P.2.2.2.1, .int P.2.2.2.2.1, .int P.2.2.2.2.2])), (Pa0, .inl ((kI K), 64, .inl P.1))] _ := hP.sub [0, 1] rfl
        refine vp_callSi (va_Run.run (va_runV (As := [.int (0 : Int32), .int r_3]) (rest := []) ⟨hx, hb, hml, hown, htg⟩ (c_ps_manAt l K Ph Pa0 P (0 : Int32) r_3) (cwV 2 htg (g_V q_369 q_370 q_371 q_6 (g_w q_372)) rfl rfl rfl ⟨rfl, k_ps_manAt⟩ ⟨Nat.le_of_ble_eq_true rfl, Nat.le_of_ble_eq_true rfl⟩) ⟨ro_blind, va_recv hK hPc (ci := 2) (q0 := 0) rfl rfl, ro_use hPc hK hG hS trivial⟩ rfl rfl hl.1 rfl (lv_room (Nat.le_of_ble_eq_true rfl)) d_ps_rightHolds_51 ⟨Nat.zero_le _, Nat.zero_le _⟩)) (fun r_7 hw_7 => ?_)
        have hF := hF.trans (bnd_s hw_7.1)
        refine lv_iconst (v := 4) hx hb d_ps_rightHolds_54 (by decide) ?_
        refine lv_iload_n hx hb d_ps_rightHolds_55 rfl (lv_at hl 2 rfl) ?_
        have hPc : va_P (kD K) vwCl [] _ := hP.sub [] rfl
        refine vp_callSi (va_Run.run (va_runSN (As := [.int (4 : Int32), .int (1 : Int32)]) (rest := [.int r_7]) ⟨hx, hb, hml, hown, htg⟩ (c_gn_manOf l K (4 : Int32) (1 : Int32)) (⟨va_cnB 2 htg (g_w q_360) rfl rfl rfl (hG.nw 25 rfl) (htg _ q_1) k_gn_manOf ⟨Nat.le_of_ble_eq_true rfl, Nat.le_of_ble_eq_true rfl⟩, htg _ q_359, trivial⟩) ⟨ro_blind, ro_use hPc hK hG hS trivial⟩ rfl rfl hl.1 rfl (lv_room (Nat.le_of_ble_eq_true rfl)) d_ps_rightHolds_56 ⟨Nat.zero_le _, Nat.zero_le _⟩)) (fun r_8 hw_8 => ?_)
        have hF := hF.trans (bnd_s hw_8.1)
        refine lv_icmp_ne (tgt := 66) hx hb d_ps_rightHolds_59 (by decide) (fun c_9 => ?_) (fun c_9 => ?_)
        · have hF := hF.trans (if_neg c_9)
          refine lv_iconst (v := 0) hx hb d_ps_rightHolds_66 (by decide) ?_
          exact W.zret (v := (0 : Int32)) hx hb hr (rfl) (fun t ht hW => ⟨_, rfl, ⟨hF, rfl⟩, ht⟩) hS.2.2 d_ps_rightHolds_67
        · have hF := hF.trans (if_pos c_9)
          refine lv_iconst (v := 1) hx hb d_ps_rightHolds_62 (by decide) ?_
          refine lv_goto (tgt := 67) hx hb d_ps_rightHolds_63 (by decide) ?_
          exact W.zret (v := (1 : Int32)) hx hb hr (rfl) (fun t ht hW => ⟨_, rfl, ⟨hF, rfl⟩, ht⟩) hS.2.2 d_ps_rightHolds_67
    · have hF := hF.trans (if_pos c_2)
      refine lv_bipush (v := 7) hx hb d_ps_rightHolds_17 (by decide) ?_
      refine lv_goto (tgt := 23) hx hb d_ps_rightHolds_19 (by decide) ?_
      refine lv_istore_n (lv' := [(3, .int (7 : Int32)), (2, .int (1 : Int32)), (0, .ref Ph), (1, .int wh)]) hx hb d_ps_rightHolds_23 rfl hl (by decide) rfl (fun ls hl => ?_)
      refine lv_iconst (v := 0) hx hb d_ps_rightHolds_24 (by decide) ?_
      refine lv_iload_n hx hb d_ps_rightHolds_25 rfl (lv_at hl 1 rfl) ?_
      have hPc : va_P (kD K) vwCl [] _ := hP.sub [] rfl
      refine vp_callSi (va_Run.run (va_runSN (As := [.int (0 : Int32), .int (1 : Int32)]) (rest := []) ⟨hx, hb, hml, hown, htg⟩ (c_gn_ownRank l K (0 : Int32) (1 : Int32)) (⟨va_cnB 2 htg (g_w q_401) rfl rfl rfl (hG.nw 27 rfl) (htg _ q_1) k_gn_ownRank ⟨Nat.le_of_ble_eq_true rfl, Nat.le_of_ble_eq_true rfl⟩, htg _ q_400, trivial⟩) ⟨ro_blind, ro_use hPc hK hG hS trivial⟩ rfl rfl hl.1 rfl (lv_room (Nat.le_of_ble_eq_true rfl)) d_ps_rightHolds_26 ⟨Nat.zero_le _, Nat.zero_le _⟩)) (fun r_10 hw_10 => ?_)
      have hF := hF.trans (bnd_s hw_10.1)
      refine lv_istore (lv' := [(4, .int r_10), (3, .int (7 : Int32)), (2, .int (1 : Int32)), (0, .ref Ph), (1, .int wh)]) hx hb d_ps_rightHolds_29 hl (by decide) rfl (fun ls hl => ?_)
      refine lv_aload_n hx hb d_ps_rightHolds_31 rfl (lv_at hl 3 rfl) ?_
      refine lv_iconst (v := 4) hx hb d_ps_rightHolds_32 (by decide) ?_
      refine lv_iload hx hb d_ps_rightHolds_33 (lv_at hl 0 rfl) ?_
      have hPc : va_P (kD K) vwCl [(Ph, .inr (2, [.ref Pa0, .int P.2.1, .int P.2.2.1, .int P.2.2.2.1, .int P.2.2.2.2.1, .int P.2.2.2.2.2])), (Pa0, .inl ((kI K), 64, .inl P.1))] _ := hP.sub [0, 1] rfl
      refine vp_callSi (va_Run.run (va_runV (As := [.int (4 : Int32), .int r_10]) (rest := []) ⟨hx, hb, hml, hown, htg⟩ (c_ps_manAt l K Ph Pa0 P (4 : Int32) r_10) (cwV 2 htg (g_V q_369 q_370 q_371 q_6 (g_w q_372)) rfl rfl rfl ⟨rfl, k_ps_manAt⟩ ⟨Nat.le_of_ble_eq_true rfl, Nat.le_of_ble_eq_true rfl⟩) ⟨ro_blind, va_recv hK hPc (ci := 2) (q0 := 0) rfl rfl, ro_use hPc hK hG hS trivial⟩ rfl rfl hl.1 rfl (lv_room (Nat.le_of_ble_eq_true rfl)) d_ps_rightHolds_35 ⟨Nat.zero_le _, Nat.zero_le _⟩)) (fun r_11 hw_11 => ?_)
      have hF := hF.trans (bnd_s hw_11.1)
      refine lv_bipush (v := 6) hx hb d_ps_rightHolds_38 (by decide) ?_
      refine lv_iload_n hx hb d_ps_rightHolds_40 rfl (lv_at hl 2 rfl) ?_
      have hPc : va_P (kD K) vwCl [] _ := hP.sub [] rfl
      refine vp_callSi (va_Run.run (va_runSN (As := [.int (6 : Int32), .int (1 : Int32)]) (rest := [.int r_11]) ⟨hx, hb, hml, hown, htg⟩ (c_gn_manOf l K (6 : Int32) (1 : Int32)) (⟨va_cnB 2 htg (g_w q_360) rfl rfl rfl (hG.nw 25 rfl) (htg _ q_1) k_gn_manOf ⟨Nat.le_of_ble_eq_true rfl, Nat.le_of_ble_eq_true rfl⟩, htg _ q_359, trivial⟩) ⟨ro_blind, ro_use hPc hK hG hS trivial⟩ rfl rfl hl.1 rfl (lv_room (Nat.le_of_ble_eq_true rfl)) d_ps_rightHolds_41 ⟨Nat.zero_le _, Nat.zero_le _⟩)) (fun r_12 hw_12 => ?_)
      have hF := hF.trans (bnd_s hw_12.1)
      refine lv_icmp_ne (tgt := 66) hx hb d_ps_rightHolds_44 (by decide) (fun c_13 => ?_) (fun c_13 => ?_)
      · have hF := hF.trans (if_neg c_13)
        refine lv_iconst (v := 0) hx hb d_ps_rightHolds_66 (by decide) ?_
        exact W.zret (v := (0 : Int32)) hx hb hr (rfl) (fun t ht hW => ⟨_, rfl, ⟨hF, rfl⟩, ht⟩) hS.2.2 d_ps_rightHolds_67
      · have hF := hF.trans (if_pos c_13)
        refine lv_aload_n hx hb d_ps_rightHolds_47 rfl (lv_at hl 3 rfl) ?_
        refine lv_iload_n hx hb d_ps_rightHolds_48 rfl (lv_at hl 1 rfl) ?_
        refine lv_iload hx hb d_ps_rightHolds_49 (lv_at hl 0 rfl) ?_
        have hPc : va_P (kD K) vwCl [(Ph, .inr (2, [.ref Pa0, .int P.2.1, .int P.2.2.1, .int P.2.2.2.1, .int P.2.2.2.2.1, .int P.2.2.2.2.2])), (Pa0, .inl ((kI K), 64, .inl P.1))] _ := hP.sub [0, 1] rfl
        refine vp_callSi (va_Run.run (va_runV (As := [.int (7 : Int32), .int r_10]) (rest := []) ⟨hx, hb, hml, hown, htg⟩ (c_ps_manAt l K Ph Pa0 P (7 : Int32) r_10) (cwV 2 htg (g_V q_369 q_370 q_371 q_6 (g_w q_372)) rfl rfl rfl ⟨rfl, k_ps_manAt⟩ ⟨Nat.le_of_ble_eq_true rfl, Nat.le_of_ble_eq_true rfl⟩) ⟨ro_blind, va_recv hK hPc (ci := 2) (q0 := 0) rfl rfl, ro_use hPc hK hG hS trivial⟩ rfl rfl hl.1 rfl (lv_room (Nat.le_of_ble_eq_true rfl)) d_ps_rightHolds_51 ⟨Nat.zero_le _, Nat.zero_le _⟩)) (fun r_14 hw_14 => ?_)
        have hF := hF.trans (bnd_s hw_14.1)
        refine lv_iconst (v := 4) hx hb d_ps_rightHolds_54 (by decide) ?_
        refine lv_iload_n hx hb d_ps_rightHolds_55 rfl (lv_at hl 2 rfl) ?_
        have hPc : va_P (kD K) vwCl [] _ := hP.sub [] rfl
        refine vp_callSi (va_Run.run (va_runSN (As := [.int (4 : Int32), .int (1 : Int32)]) (rest := [.int r_14]) ⟨hx, hb, hml, hown, htg⟩ (c_gn_manOf l K (4 : Int32) (1 : Int32)) (⟨va_cnB 2 htg (g_w q_360) rfl rfl rfl (hG.nw 25 rfl) (htg _ q_1) k_gn_manOf ⟨Nat.le_of_ble_eq_true rfl, Nat.le_of_ble_eq_true rfl⟩, htg _ q_359, trivial⟩) ⟨ro_blind, ro_use hPc hK hG hS trivial⟩ rfl rfl hl.1 rfl (lv_room (Nat.le_of_ble_eq_true rfl)) d_ps_rightHolds_56 ⟨Nat.zero_le _, Nat.zero_le _⟩)) (fun r_15 hw_15 => ?_)
        have hF := hF.trans (bnd_s hw_15.1)
        refine lv_icmp_ne (tgt := 66) hx hb d_ps_rightHolds_59 (by decide) (fun c_16 => ?_) (fun c_16 => ?_)
        · have hF := hF.trans (if_neg c_16)
          refine lv_iconst (v := 0) hx hb d_ps_rightHolds_66 (by decide) ?_
          exact W.zret (v := (0 : Int32)) hx hb hr (rfl) (fun t ht hW => ⟨_, rfl, ⟨hF, rfl⟩, ht⟩) hS.2.2 d_ps_rightHolds_67
        · have hF := hF.trans (if_pos c_16)
          refine lv_iconst (v := 1) hx hb d_ps_rightHolds_62 (by decide) ?_
          refine lv_goto (tgt := 67) hx hb d_ps_rightHolds_63 (by decide) ?_
          exact W.zret (v := (1 : Int32)) hx hb hr (rfl) (fun t ht hW => ⟨_, rfl, ⟨hF, rfl⟩, ht⟩) hS.2.2 d_ps_rightHolds_67
  · have hF := hF.trans (if_neg c_1)
    refine lv_iconst (v := 0) hx hb d_ps_rightHolds_5 (by decide) ?_
    refine lv_goto (tgt := 10) hx hb d_ps_rightHolds_6 (by decide) ?_
    refine lv_istore_n (lv' := [(2, .int (0 : Int32)), (0, .ref Ph), (1, .int wh)]) hx hb d_ps_rightHolds_10 rfl hl (by decide) rfl (fun ls hl => ?_)
    refine lv_iload_n hx hb d_ps_rightHolds_11 rfl (lv_at hl 2 rfl) ?_
    refine lv_iconst (v := 2) hx hb d_ps_rightHolds_12 (by decide) ?_
    refine lv_irem hx hb d_ps_rightHolds_13 (by decide) ?_
    refine lv_if_ne (tgt := 22) hx hb d_ps_rightHolds_14 (by decide) (fun c_17 => ?_) (fun c_17 => ?_)
    · have hF := hF.trans (if_neg c_17)
      refine lv_iconst (v := 0) hx hb d_ps_rightHolds_22 (by decide) ?_
      refine lv_istore_n (lv' := [(3, .int (0 : Int32)), (2, .int (0 : Int32)), (0, .ref Ph), (1, .int wh)]) hx hb d_ps_rightHolds_23 rfl hl (by decide) rfl (fun ls hl => ?_)
      refine lv_iconst (v := 0) hx hb d_ps_rightHolds_24 (by decide) ?_
      refine lv_iload_n hx hb d_ps_rightHolds_25 rfl (lv_at hl 1 rfl) ?_
      have hPc : va_P (kD K) vwCl [] _ := hP.sub [] rfl
      refine vp_callSi (va_Run.run (va_runSN (As := [.int (0 : Int32), .int (0 : Int32)]) (rest := []) ⟨hx, hb, hml, hown, htg⟩ (c_gn_ownRank l K (0 : Int32) (0 : Int32)) (⟨va_cnB 2 htg (g_w q_401) rfl rfl rfl (hG.nw 27 rfl) (htg _ q_1) k_gn_ownRank ⟨Nat.le_of_ble_eq_true rfl, Nat.le_of_ble_eq_true rfl⟩, htg _ q_400, trivial⟩) ⟨ro_blind, ro_use hPc hK hG hS trivial⟩ rfl rfl hl.1 rfl (lv_room (Nat.le_of_ble_eq_true rfl)) d_ps_rightHolds_26 ⟨Nat.zero_le _, Nat.zero_le _⟩)) (fun r_18 hw_18 => ?_)
      have hF := hF.trans (bnd_s hw_18.1)
      refine lv_istore (lv' := [(4, .int r_18), (3, .int (0 : Int32)), (2, .int (0 : Int32)), (0, .ref Ph), (1, .int wh)]) hx hb d_ps_rightHolds_29 hl (by decide) rfl (fun ls hl => ?_)
      refine lv_aload_n hx hb d_ps_rightHolds_31 rfl (lv_at hl 3 rfl) ?_
      refine lv_iconst (v := 4) hx hb d_ps_rightHolds_32 (by decide) ?_
      refine lv_iload hx hb d_ps_rightHolds_33 (lv_at hl 0 rfl) ?_
      have hPc : va_P (kD K) vwCl [(Ph, .inr (2, [.ref Pa0, .int P.2.1, .int P.2.2.1, .int P.2.2.2.1, .int P.2.2.2.2.1, .int P.2.2.2.2.2])), (Pa0, .inl ((kI K), 64, .inl P.1))] _ := hP.sub [0, 1] rfl
      refine vp_callSi (va_Run.run (va_runV (As := [.int (4 : Int32), .int r_18]) (rest := []) ⟨hx, hb, hml, hown, htg⟩ (c_ps_manAt l K Ph Pa0 P (4 : Int32) r_18) (cwV 2 htg (g_V q_369 q_370 q_371 q_6 (g_w q_372)) rfl rfl rfl ⟨rfl, k_ps_manAt⟩ ⟨Nat.le_of_ble_eq_true rfl, Nat.le_of_ble_eq_true rfl⟩) ⟨ro_blind, va_recv hK hPc (ci := 2) (q0 := 0) rfl rfl, ro_use hPc hK hG hS trivial⟩ rfl rfl hl.1 rfl (lv_room (Nat.le_of_ble_eq_true rfl)) d_ps_rightHolds_35 ⟨Nat.zero_le _, Nat.zero_le _⟩)) (fun r_19 hw_19 => ?_)
      have hF := hF.trans (bnd_s hw_19.1)
      refine lv_bipush (v := 6) hx hb d_ps_rightHolds_38 (by decide) ?_
      refine lv_iload_n hx hb d_ps_rightHolds_40 rfl (lv_at hl 2 rfl) ?_
      have hPc : va_P (kD K) vwCl [] _ := hP.sub [] rfl
      refine vp_callSi (va_Run.run (va_runSN (As := [.int (6 : Int32), .int (0 : Int32)]) (rest := [.int r_19]) ⟨hx, hb, hml, hown, htg⟩ (c_gn_manOf l K (6 : Int32) (0 : Int32)) (⟨va_cnB 2 htg (g_w q_360) rfl rfl rfl (hG.nw 25 rfl) (htg _ q_1) k_gn_manOf ⟨Nat.le_of_ble_eq_true rfl, Nat.le_of_ble_eq_true rfl⟩, htg _ q_359, trivial⟩) ⟨ro_blind, ro_use hPc hK hG hS trivial⟩ rfl rfl hl.1 rfl (lv_room (Nat.le_of_ble_eq_true rfl)) d_ps_rightHolds_41 ⟨Nat.zero_le _, Nat.zero_le _⟩)) (fun r_20 hw_20 => ?_)
      have hF := hF.trans (bnd_s hw_20.1)
      refine lv_icmp_ne (tgt := 66) hx hb d_ps_rightHolds_44 (by decide) (fun c_21 => ?_) (fun c_21 => ?_)
      · have hF := hF.trans (if_neg c_21)
        refine lv_iconst (v := 0) hx hb d_ps_rightHolds_66 (by decide) ?_
        exact W.zret (v := (0 : Int32)) hx hb hr (rfl) (fun t ht hW => ⟨_, rfl, ⟨hF, rfl⟩, ht⟩) hS.2.2 d_ps_rightHolds_67
      · have hF := hF.trans (if_pos c_21)
        refine lv_aload_n hx hb d_ps_rightHolds_47 rfl (lv_at hl 3 rfl) ?_
        refine lv_iload_n hx hb d_ps_rightHolds_48 rfl (lv_at hl 1 rfl) ?_
        refine lv_iload hx hb d_ps_rightHolds_49 (lv_at hl 0 rfl) ?_
        have hPc : va_P (kD K) vwCl [(Ph, .inr (2, [.ref Pa0, .int P.2.1, .int P.2.2.1, .int P.2.2.2.1, .int P.2.2.2.2.1, .int P.2.2.2.2.2])), (Pa0, .inl ((kI K), 64, .inl P.1))] _ := hP.sub [0, 1] rfl
        refine vp_callSi (va_Run.run (va_runV (As := [.int (0 : Int32), .int r_18]) (rest := []) ⟨hx, hb, hml, hown, htg⟩ (c_ps_manAt l K Ph Pa0 P (0 : Int32) r_18) (cwV 2 htg (g_V q_369 q_370 q_371 q_6 (g_w q_372)) rfl rfl rfl ⟨rfl, k_ps_manAt⟩ ⟨Nat.le_of_ble_eq_true rfl, Nat.le_of_ble_eq_true rfl⟩) ⟨ro_blind, va_recv hK hPc (ci := 2) (q0 := 0) rfl rfl, ro_use hPc hK hG hS trivial⟩ rfl rfl hl.1 rfl (lv_room (Nat.le_of_ble_eq_true rfl)) d_ps_rightHolds_51 ⟨Nat.zero_le _, Nat.zero_le _⟩)) (fun r_22 hw_22 => ?_)
        have hF := hF.trans (bnd_s hw_22.1)
        refine lv_iconst (v := 4) hx hb d_ps_rightHolds_54 (by decide) ?_
        refine lv_iload_n hx hb d_ps_rightHolds_55 rfl (lv_at hl 2 rfl) ?_
        have hPc : va_P (kD K) vwCl [] _ := hP.sub [] rfl
        refine vp_callSi (va_Run.run (va_runSN (As := [.int (4 : Int32), .int (0 : Int32)]) (rest := [.int r_22]) ⟨hx, hb, hml, hown, htg⟩ (c_gn_manOf l K (4 : Int32) (0 : Int32)) (⟨va_cnB 2 htg (g_w q_360) rfl rfl rfl (hG.nw 25 rfl) (htg _ q_1) k_gn_manOf ⟨Nat.le_of_ble_eq_true rfl, Nat.le_of_ble_eq_true rfl⟩, htg _ q_359, trivial⟩) ⟨ro_blind, ro_use hPc hK hG hS trivial⟩ rfl rfl hl.1 rfl (lv_room (Nat.le_of_ble_eq_true rfl)) d_ps_rightHolds_56 ⟨Nat.zero_le _, Nat.zero_le _⟩)) (fun r_23 hw_23 => ?_)
        have hF := hF.trans (bnd_s hw_23.1)
        refine lv_icmp_ne (tgt := 66) hx hb d_ps_rightHolds_59 (by decide) (fun c_24 => ?_) (fun c_24 => ?_)
        · have hF := hF.trans (if_neg c_24)
          refine lv_iconst (v := 0) hx hb d_ps_rightHolds_66 (by decide) ?_
          exact W.zret (v := (0 : Int32)) hx hb hr (rfl) (fun t ht hW => ⟨_, rfl, ⟨hF, rfl⟩, ht⟩) hS.2.2 d_ps_rightHolds_67
        · have hF := hF.trans (if_pos c_24)
          refine lv_iconst (v := 1) hx hb d_ps_rightHolds_62 (by decide) ?_
          refine lv_goto (tgt := 67) hx hb d_ps_rightHolds_63 (by decide) ?_
          exact W.zret (v := (1 : Int32)) hx hb hr (rfl) (fun t ht hW => ⟨_, rfl, ⟨hF, rfl⟩, ht⟩) hS.2.2 d_ps_rightHolds_67
    · have hF := hF.trans (if_pos c_17)
      refine lv_bipush (v := 7) hx hb d_ps_rightHolds_17 (by decide) ?_
      refine lv_goto (tgt := 23) hx hb d_ps_rightHolds_19 (by decide) ?_
      refine lv_istore_n (lv' := [(3, .int (7 : Int32)), (2, .int (0 : Int32)), (0, .ref Ph), (1, .int wh)]) hx hb d_ps_rightHolds_23 rfl hl (by decide) rfl (fun ls hl => ?_)
      refine lv_iconst (v := 0) hx hb d_ps_rightHolds_24 (by decide) ?_
      refine lv_iload_n hx hb d_ps_rightHolds_25 rfl (lv_at hl 1 rfl) ?_
      have hPc : va_P (kD K) vwCl [] _ := hP.sub [] rfl
      refine vp_callSi (va_Run.run (va_runSN (As := [.int (0 : Int32), .int (0 : Int32)]) (rest := []) ⟨hx, hb, hml, hown, htg⟩ (c_gn_ownRank l K (0 : Int32) (0 : Int32)) (⟨va_cnB 2 htg (g_w q_401) rfl rfl rfl (hG.nw 27 rfl) (htg _ q_1) k_gn_ownRank ⟨Nat.le_of_ble_eq_true rfl, Nat.le_of_ble_eq_true rfl⟩, htg _ q_400, trivial⟩) ⟨ro_blind, ro_use hPc hK hG hS trivial⟩ rfl rfl hl.1 rfl (lv_room (Nat.le_of_ble_eq_true rfl)) d_ps_rightHolds_26 ⟨Nat.zero_le _, Nat.zero_le _⟩)) (fun r_25 hw_25 => ?_)
      have hF := hF.trans (bnd_s hw_25.1)
      refine lv_istore (lv' := [(4, .int r_25), (3, .int (7 : Int32)), (2, .int (0 : Int32)), (0, .ref Ph), (1, .int wh)]) hx hb d_ps_rightHolds_29 hl (by decide) rfl (fun ls hl => ?_)
      refine lv_aload_n hx hb d_ps_rightHolds_31 rfl (lv_at hl 3 rfl) ?_
      refine lv_iconst (v := 4) hx hb d_ps_rightHolds_32 (by decide) ?_
      refine lv_iload hx hb d_ps_rightHolds_33 (lv_at hl 0 rfl) ?_
      have hPc : va_P (kD K) vwCl [(Ph, .inr (2, [.ref Pa0, .int P.2.1, .int P.2.2.1, .int P.2.2.2.1, .int P.2.2.2.2.1, .int P.2.2.2.2.2])), (Pa0, .inl ((kI K), 64, .inl P.1))] _ := hP.sub [0, 1] rfl
      refine vp_callSi (va_Run.run (va_runV (As := [.int (4 : Int32), .int r_25]) (rest := []) ⟨hx, hb, hml, hown, htg⟩ (c_ps_manAt l K Ph Pa0 P (4 : Int32) r_25) (cwV 2 htg (g_V q_369 q_370 q_371 q_6 (g_w q_372)) rfl rfl rfl ⟨rfl, k_ps_manAt⟩ ⟨Nat.le_of_ble_eq_true rfl, Nat.le_of_ble_eq_true rfl⟩) ⟨ro_blind, va_recv hK hPc (ci := 2) (q0 := 0) rfl rfl, ro_use hPc hK hG hS trivial⟩ rfl rfl hl.1 rfl (lv_room (Nat.le_of_ble_eq_true rfl)) d_ps_rightHolds_35 ⟨Nat.zero_le _, Nat.zero_le _⟩)) (fun r_26 hw_26 => ?_)
      have hF := hF.trans (bnd_s hw_26.1)
      refine lv_bipush (v := 6) hx hb d_ps_rightHolds_38 (by decide) ?_
      refine lv_iload_n hx hb d_ps_rightHolds_40 rfl (lv_at hl 2 rfl) ?_
      have hPc : va_P (kD K) vwCl [] _ := hP.sub [] rfl
      refine vp_callSi (va_Run.run (va_runSN (As := [.int (6 : Int32), .int (0 : Int32)]) (rest := [.int r_26]) ⟨hx, hb, hml, hown, htg⟩ (c_gn_manOf l K (6 : Int32) (0 : Int32)) (⟨va_cnB 2 htg (g_w q_360) rfl rfl rfl (hG.nw 25 rfl) (htg _ q_1) k_gn_manOf ⟨Nat.le_of_ble_eq_true rfl, Nat.le_of_ble_eq_true rfl⟩, htg _ q_359, trivial⟩) ⟨ro_blind, ro_use hPc hK hG hS trivial⟩ rfl rfl hl.1 rfl (lv_room (Nat.le_of_ble_eq_true rfl)) d_ps_rightHolds_41 ⟨Nat.zero_le _, Nat.zero_le _⟩)) (fun r_27 hw_27 => ?_)
      have hF := hF.trans (bnd_s hw_27.1)
      refine lv_icmp_ne (tgt := 66) hx hb d_ps_rightHolds_44 (by decide) (fun c_28 => ?_) (fun c_28 => ?_)
      · have hF := hF.trans (if_neg c_28)
        refine lv_iconst (v := 0) hx hb d_ps_rightHolds_66 (by decide) ?_
        exact W.zret (v := (0 : Int32)) hx hb hr (rfl) (fun t ht hW => ⟨_, rfl, ⟨hF, rfl⟩, ht⟩) hS.2.2 d_ps_rightHolds_67
      · have hF := hF.trans (if_pos c_28)
        refine lv_aload_n hx hb d_ps_rightHolds_47 rfl (lv_at hl 3 rfl) ?_
        refine lv_iload_n hx hb d_ps_rightHolds_48 rfl (lv_at hl 1 rfl) ?_
        refine lv_iload hx hb d_ps_rightHolds_49 (lv_at hl 0 rfl) ?_
        have hPc : va_P (kD K) vwCl [(Ph, .inr (2, [.ref Pa0, .int P.2.1, .int P.2.2.1, .int P.2.2.2.1, .int P.2.2.2.2.1, .int P.2.2.2.2.2])), (Pa0, .inl ((kI K), 64, .inl P.1))] _ := hP.sub [0, 1] rfl
        refine vp_callSi (va_Run.run (va_runV (As := [.int (7 : Int32), .int r_25]) (rest := []) ⟨hx, hb, hml, hown, htg⟩ (c_ps_manAt l K Ph Pa0 P (7 : Int32) r_25) (cwV 2 htg (g_V q_369 q_370 q_371 q_6 (g_w q_372)) rfl rfl rfl ⟨rfl, k_ps_manAt⟩ ⟨Nat.le_of_ble_eq_true rfl, Nat.le_of_ble_eq_true rfl⟩) ⟨ro_blind, va_recv hK hPc (ci := 2) (q0 := 0) rfl rfl, ro_use hPc hK hG hS trivial⟩ rfl rfl hl.1 rfl (lv_room (Nat.le_of_ble_eq_true rfl)) d_ps_rightHolds_51 ⟨Nat.zero_le _, Nat.zero_le _⟩)) (fun r_29 hw_29 => ?_)
        have hF := hF.trans (bnd_s hw_29.1)
        refine lv_iconst (v := 4) hx hb d_ps_rightHolds_54 (by decide) ?_
        refine lv_iload_n hx hb d_ps_rightHolds_55 rfl (lv_at hl 2 rfl) ?_
        have hPc : va_P (kD K) vwCl [] _ := hP.sub [] rfl
        refine vp_callSi (va_Run.run (va_runSN (As := [.int (4 : Int32), .int (0 : Int32)]) (rest := [.int r_29]) ⟨hx, hb, hml, hown, htg⟩ (c_gn_manOf l K (4 : Int32) (0 : Int32)) (⟨va_cnB 2 htg (g_w q_360) rfl rfl rfl (hG.nw 25 rfl) (htg _ q_1) k_gn_manOf ⟨Nat.le_of_ble_eq_true rfl, Nat.le_of_ble_eq_true rfl⟩, htg _ q_359, trivial⟩) ⟨ro_blind, ro_use hPc hK hG hS trivial⟩ rfl rfl hl.1 rfl (lv_room (Nat.le_of_ble_eq_true rfl)) d_ps_rightHolds_56 ⟨Nat.zero_le _, Nat.zero_le _⟩)) (fun r_30 hw_30 => ?_)
        have hF := hF.trans (bnd_s hw_30.1)
        refine lv_icmp_ne (tgt := 66) hx hb d_ps_rightHolds_59 (by decide) (fun c_31 => ?_) (fun c_31 => ?_)
        · have hF := hF.trans (if_neg c_31)
          refine lv_iconst (v := 0) hx hb d_ps_rightHolds_66 (by decide) ?_
          exact W.zret (v := (0 : Int32)) hx hb hr (rfl) (fun t ht hW => ⟨_, rfl, ⟨hF, rfl⟩, ht⟩) hS.2.2 d_ps_rightHolds_67
        · have hF := hF.trans (if_pos c_31)
          refine lv_iconst (v := 1) hx hb d_ps_rightHolds_62 (by decide) ?_
          refine lv_goto (tgt := 67) hx hb d_ps_rightHolds_63 (by decide) ?_
          exact W.zret (v := (1 : Int32)) hx hb hr (rfl) (fun t ht hW => ⟨_, rfl, ⟨hF, rfl⟩, ht⟩) hS.2.2 d_ps_rightHolds_67
def f_ps_rightsHold_L2 (P : PsT) : Nat → Int32 → Int32
  | 0, _ => 0
  | n + 1, v1 => (bnd (f_st_length 2) (fun r_1 => (if r_1 ≤ v1 then (1 : Int32) else (bnd (f_ps_hasRight P v1) (fun r_3 => (if r_3 = 0 then (f_ps_rightsHold_L2 P  n (v1 + (1 : Int32))) else (bnd (f_ps_rightHolds P v1) (fun r_5 => (if r_5 = 0 then (0 : Int32) else (f_ps_rightsHold_L2 P  n (v1 + (1 : Int32))))))))))))
def f_ps_rightsHold (P : PsT) : Int32 := (f_ps_rightsHold_L2 P  101 (0 : Int32))
set_option maxHeartbeats 4000000 in
set_option maxRecDepth 100000 in
theorem c_ps_rightsHold (l : Launch) (K : KT) (Ph Pa0 : Nat) (P : PsT) : Met l y_ps_rightsHold w_ps_rightsHold ({ frames := 2, cells := 0, slots := 0, locals := 47 } : Room) (va_Pc [.ref Ph] (fun U => pRO K [(Ph, .inr (2, [.ref Pa0, .int P.2.1, .int P.2.2.1, .int P.2.2.2.1, .int P.2.2.2.2.1, .int P.2.2.2.2.2])), (Pa0, .inl ((kI K), 64, .inl P.1))] U ∧ True)) (vp_Si (fun r => f_ps_rightsHold P = r ∧ narrow .boolean (.int r) = .int r)) 0 0 (fun _ => False) := by
  refine Met.ofW (cc := b_ps_rightsHold) (maxL := 2) (ret := (some .boolean)) (by decide) rfl ?_
  intro p e s m args below meth c s₁ B hml hv
  obtain ⟨rfl, ⟨hP, hK, hG⟩, -⟩ := hv
  have hx := B.exec
  have hb := B.bytes
  have hr := B.returns
  have hts := atoms_spec (ws := w_ps_rightsHold) B.pre
  have hown : s.vm.findClass R_ps = some m.cls := findClass_of_methodNamed B.named
  have hlocks := B.notSynchronized
  have htg := fun w h => hts w (List.mem_cons_of_mem _ h)
  have hS : va_S (fun _ => False) s.heap s.heap [] := va_S.rf
  have hl := lv_entry ([.ref Ph]) (n := 2) (Nat.le_of_ble_eq_true rfl)
  rw [lg_entry_eq]
  generalize (lg_sl ([.ref Ph]) ++ List.replicate (2 - (lg_sl ([.ref Ph])).length) Slot.unset).toArray = ls at hl ⊢
  have hl : lv_has ls 2 [(0, .ref Ph)] := hl
  have hF := f_ps_rightsHold.eq_1 P
  refine lv_iconst (v := 0) hx hb d_ps_rightsHold_0 (by decide) ?_
  refine lv_istore_n (lv' := [(1, .int (0 : Int32)), (0, .ref Ph)]) hx hb d_ps_rightsHold_1 rfl hl (by decide) rfl (fun ls hl => ?_)
  have loop2 : ∀ (n2 : Nat) (v1 : Int32) (ls : Array Slot), 0 ≤ v1.toInt → (100 - v1.toInt).toNat < n2 → lv_has ls 2 [(0, .ref Ph), (1, .int v1)] → f_ps_rightsHold P = f_ps_rightsHold_L2 P  n2 v1 → W p l e (headSpec w_ps_rightsHold ({ frames := 2, cells := 0, slots := 0, locals := 47 } : Room)).room s m ([(.ref Ph : Value)].toArray) below meth c s.heap [] 0 0 (MQ below (vp_Si (fun r => f_ps_rightsHold P = r ∧ narrow .boolean (.int r) = .int r)) ([(.ref Ph : Value)].toArray) s 0 0 ((fun _ => False))) (F0 m 2 ls []) := by
    intro n2
    induction n2 with
    | zero =>
      intro _ _ _ hz
      exact absurd hz (Nat.not_lt_zero _)
    | succ n2 ih2 =>
      intro v1 ls i0 hm hl hF
      rw [f_ps_rightsHold_L2] at hF
      refine lv_iload_n hx hb d_ps_rightsHold_2 rfl (lv_at hl 1 rfl) ?_
      refine va_ldcS hx hb hown (show vk_R R_ps 113 "KQkq" (kK K 2) s from hG.sr 4 (q := ("GameNotation$Position", 113, "KQkq", 2)) rfl) d_ps_rightsHold_3 ?_
      have hPc : va_P (kD K) vwCl [] _ := hP.sub [] rfl
      refine vp_callSi (va_Run.run (va_runV (As := []) (rest := [.int v1]) ⟨hx, hb, hml, hown, htg⟩ (c_st_length l K 2) (cwV 0 htg (g_V q_390 q_218 q_219 q_8 (g_w q_220)) rfl rfl rfl ⟨rfl, k_st_length⟩ ⟨Nat.le_of_ble_eq_true rfl, Nat.le_of_ble_eq_true rfl⟩) ⟨ro_blind, vk_recv hG.str (by decide) hS, ro_use hPc hK hG hS ⟨(by decide), trivial⟩⟩ rfl rfl hl.1 rfl (lv_room (Nat.le_of_ble_eq_true rfl)) d_ps_rightsHold_5 ⟨Nat.zero_le _, Nat.zero_le _⟩)) (fun r_1 hw_1 => ?_)
      have hF := hF.trans (bnd_s hw_1.1)
      refine lv_icmp_ge (tgt := 35) hx hb d_ps_rightsHold_8 (by decide) (fun c_2 => ?_) (fun c_2 => ?_)
      · have hF := hF.trans (if_pos c_2)
        refine lv_iconst (v := 1) hx hb d_ps_rightsHold_35 (by decide) ?_
        exact W.zret (v := (1 : Int32)) hx hb hr (rfl) (fun t ht hW => ⟨_, rfl, ⟨hF, rfl⟩, ht⟩) hS.2.2 d_ps_rightsHold_36
      · have hF := hF.trans (if_neg c_2)
        refine lv_aload_n hx hb d_ps_rightsHold_11 rfl (lv_at hl 0 rfl) ?_
        refine lv_iload_n hx hb d_ps_rightsHold_12 rfl (lv_at hl 1 rfl) ?_
        have hPc : va_P (kD K) vwCl [(Ph, .inr (2, [.ref Pa0, .int P.2.1, .int P.2.2.1, .int P.2.2.2.1, .int P.2.2.2.2.1, .int P.2.2.2.2.2])), (Pa0, .inl ((kI K), 64, .inl P.1))] _ := hP.sub [0, 1] rfl
        refine vp_callSi (va_Run.run (va_runV (As := [.int v1]) (rest := []) ⟨hx, hb, hml, hown, htg⟩ (c_ps_hasRight l K Ph Pa0 P v1) (cwV 1 htg (g_V q_391 q_392 q_393 q_6 (g_w q_394)) rfl rfl rfl ⟨rfl, k_ps_hasRight⟩ ⟨Nat.le_of_ble_eq_true rfl, Nat.le_of_ble_eq_true rfl⟩) ⟨ro_blind, va_recv hK hPc (ci := 2) (q0 := 0) rfl rfl, ro_use hPc hK hG hS trivial⟩ rfl rfl hl.1 rfl (lv_room (Nat.le_of_ble_eq_true rfl)) d_ps_rightsHold_13 ⟨Nat.zero_le _, Nat.zero_le _⟩)) (fun r_3 hw_3 => ?_)
        have hF := hF.trans (bnd_s hw_3.1)
        have hn_3 := hw_3.2
        refine lv_if_eq (tgt := 29) hx hb d_ps_rightsHold_16 (by decide) (fun c_4 => ?_) (fun c_4 => ?_)
        · have hF := hF.trans (if_pos c_4)
          refine lv_iinc (v := v1 + (1 : Int32)) (lv' := [(1, .int (v1 + (1 : Int32))), (0, .ref Ph)]) hx hb d_ps_rightsHold_29 hl (k := 1) rfl rfl (by decide) rfl (fun ls hl => ?_)
          refine lv_goto (tgt := 2) hx hb d_ps_rightsHold_32 (by decide) ?_
          exact ih2  (v1 + (1 : Int32)) ls (lp_s i0 c_2) (lp_d i0 c_2 (sx_le (by decide) hw_1) hm) (lv_sub hl [1, 0] rfl) hF
        · have hF := hF.trans (if_neg c_4)
          refine lv_aload_n hx hb d_ps_rightsHold_19 rfl (lv_at hl 0 rfl) ?_
          refine lv_iload_n hx hb d_ps_rightsHold_20 rfl (lv_at hl 1 rfl) ?_
          have hPc : va_P (kD K) vwCl [(Ph, .inr (2, [.ref Pa0, .int P.2.1, .int P.2.2.1, .int P.2.2.2.1, .int P.2.2.2.2.1, .int P.2.2.2.2.2])), (Pa0, .inl ((kI K), 64, .inl P.1))] _ := hP.sub [0, 1] rfl
          refine vp_callSi (va_Run.run (va_runV (As := [.int v1]) (rest := []) ⟨hx, hb, hml, hown, htg⟩ (c_ps_rightHolds l K Ph Pa0 P v1) (cwV 1 htg (g_V q_395 q_397 qs_12 q_6 (g_w q_398)) rfl rfl rfl ⟨rfl, k_ps_rightHolds⟩ ⟨Nat.le_of_ble_eq_true rfl, Nat.le_of_ble_eq_true rfl⟩) ⟨ro_blind, va_recv hK hPc (ci := 2) (q0 := 0) rfl rfl, ro_use hPc hK hG hS trivial⟩ rfl rfl hl.1 rfl (lv_room (Nat.le_of_ble_eq_true rfl)) d_ps_rightsHold_21 ⟨Nat.zero_le _, Nat.zero_le _⟩)) (fun r_5 hw_5 => ?_)
          have hF := hF.trans (bnd_s hw_5.1)
          have hn_5 := hw_5.2
          refine lv_if_ne (tgt := 29) hx hb d_ps_rightsHold_24 (by decide) (fun c_6 => ?_) (fun c_6 => ?_)
          · have hF := hF.trans (if_neg c_6)
            refine lv_iinc (v := v1 + (1 : Int32)) (lv' := [(1, .int (v1 + (1 : Int32))), (0, .ref Ph)]) hx hb d_ps_rightsHold_29 hl (k := 1) rfl rfl (by decide) rfl (fun ls hl => ?_)
            refine lv_goto (tgt := 2) hx hb d_ps_rightsHold_32 (by decide) ?_
            exact ih2  (v1 + (1 : Int32)) ls (lp_s i0 c_2) (lp_d i0 c_2 (sx_le (by decide) hw_1) hm) (lv_sub hl [1, 0] rfl) hF
          · have hF := hF.trans (if_pos c_6)
            refine lv_iconst (v := 0) hx hb d_ps_rightsHold_27 (by decide) ?_
            exact W.zret (v := (0 : Int32)) hx hb hr (rfl) (fun t ht hW => ⟨_, rfl, ⟨hF, rfl⟩, ht⟩) hS.2.2 d_ps_rightsHold_28
  exact loop2 101 (0 : Int32) ls (by decide) (by decide) (lv_sub hl [1, 0] rfl) hF
def f_ps_passantHolds (P : PsT) : Int32 := (bnd (f_gn_ownRank (3 : Int32) ((1 : Int32) - P.2.1)) (fun r_1 => (bnd (f_ps_manAt P P.2.2.2.1 r_1) (fun r_2 => (bnd (f_gn_manOf (1 : Int32) ((1 : Int32) - P.2.1)) (fun r_3 => (if r_2 = r_3 then (bnd (f_gn_ownRank (2 : Int32) ((1 : Int32) - P.2.1)) (fun r_5 => (bnd (f_ps_manAt P P.2.2.2.1 r_5) (fun r_6 => (if r_6 = 0 then (bnd (f_gn_ownRank (1 : Int32) ((1 : Int32) - P.2.1)) (fun r_8 => (bnd (f_ps_manAt P P.2.2.2.1 r_8) (fun r_9 => (if r_9 = 0 then (if P.2.2.2.2.1 = 0 then (1 : Int32) else (0 : Int32)) else (0 : Int32)))))) else (0 : Int32)))))) else (0 : Int32))))))))
set_option maxHeartbeats 4000000 in
set_option maxRecDepth 100000 in
theorem c_ps_passantHolds (l : Launch) (K : KT) (Ph Pa0 : Nat) (P : PsT) : Met l y_ps_passantHolds w_ps_passantHolds ({ frames := 1, cells := 0, slots := 0, locals := 23 } : Room) (va_Pc [.ref Ph] (fun U => pRO K [(Ph, .inr (2, [.ref Pa0, .int P.2.1, .int P.2.2.1, .int P.2.2.2.1, .int P.2.2.2.2.1, .int P.2.2.2.2.2])), (Pa0, .inl ((kI K), 64, .inl P.1))] U ∧ True)) (vp_Si (fun r => f_ps_passantHolds P = r ∧ narrow .boolean (.int r) = .int r)) 0 0 (fun _ => False) := by
  refine Met.ofW (cc := b_ps_passantHolds) (maxL := 2) (ret := (some .boolean)) (by decide) rfl ?_
  intro p e s m args below meth c s₁ B hml hv
  obtain ⟨rfl, ⟨hP, hK, hG⟩, -⟩ := hv
  have hx := B.exec
  have hb := B.bytes
  have hr := B.returns
  have hts := atoms_spec (ws := w_ps_passantHolds) B.pre
  have hown : s.vm.findClass R_ps = some m.cls := findClass_of_methodNamed B.named
  have hlocks := B.notSynchronized
  have htg := fun w h => hts w (List.mem_cons_of_mem _ h)
  have hS : va_S (fun _ => False) s.heap s.heap [] := va_S.rf
  have hl := lv_entry ([.ref Ph]) (n := 2) (Nat.le_of_ble_eq_true rfl)
  rw [lg_entry_eq]
  generalize (lg_sl ([.ref Ph]) ++ List.replicate (2 - (lg_sl ([.ref Ph])).length) Slot.unset).toArray = ls at hl ⊢
  have hl : lv_has ls 2 [(0, .ref Ph)] := hl
  have hF := f_ps_passantHolds.eq_1 P
  refine lv_iconst (v := 1) hx hb d_ps_passantHolds_0 (by decide) ?_
  refine lv_aload_n hx hb d_ps_passantHolds_1 rfl (lv_at hl 0 rfl) ?_
  refine va_get (D := kD K) (ci := 2) (v := .int P.2.1) (C := R_ps) (T := T_ps) (N := 6) hx hb htg in_ps hown hK hP 0 rfl rfl 1 (by decide) (htg (.fieldLink R_ps 50 "GameNotation$Position" "side" "I") q_102) (fun _ h9 => h9) rfl d_ps_passantHolds_2 ?_
  refine lv_isub hx hb d_ps_passantHolds_5 ?_
  refine lv_istore_n (lv' := [(1, .int ((1 : Int32) - P.2.1)), (0, .ref Ph)]) hx hb d_ps_passantHolds_6 rfl hl (by decide) rfl (fun ls hl => ?_)
  refine lv_aload_n hx hb d_ps_passantHolds_7 rfl (lv_at hl 1 rfl) ?_
  refine lv_aload_n hx hb d_ps_passantHolds_8 rfl (lv_at hl 1 rfl) ?_
  refine va_get (D := kD K) (ci := 2) (v := .int P.2.2.2.1) (C := R_ps) (T := T_ps) (N := 6) hx hb htg in_ps hown hK hP 0 rfl rfl 3 (by decide) (htg (.fieldLink R_ps 15 "GameNotation$Position" "passant" "I") q_106) (fun _ h9 => h9) rfl d_ps_passantHolds_9 ?_
  refine lv_iconst (v := 3) hx hb d_ps_passantHolds_12 (by decide) ?_
  refine lv_iload_n hx hb d_ps_passantHolds_13 rfl (lv_at hl 0 rfl) ?_
  have hPc : va_P (kD K) vwCl [] _ := hP.sub [] rfl
  refine vp_callSi (va_Run.run (va_runSN (As := [.int (3 : Int32), .int ((1 : Int32) - P.2.1)]) (rest := [.int P.2.2.2.1, .ref Ph]) ⟨hx, hb, hml, hown, htg⟩ (c_gn_ownRank l K (3 : Int32) ((1 : Int32) - P.2.1)) (⟨va_cnB 2 htg (g_w q_401) rfl rfl rfl (hG.nw 27 rfl) (htg _ q_1) k_gn_ownRank ⟨Nat.le_of_ble_eq_true rfl, Nat.le_of_ble_eq_true rfl⟩, htg _ q_400, trivial⟩) ⟨ro_blind, ro_use hPc hK hG hS trivial⟩ rfl rfl hl.1 rfl (lv_room (Nat.le_of_ble_eq_true rfl)) d_ps_passantHolds_14 ⟨Nat.zero_le _, Nat.zero_le _⟩)) (fun r_1 hw_1 => ?_)
  have hF := hF.trans (bnd_s hw_1.1)
  have hPc : va_P (kD K) vwCl [(Ph, .inr (2, [.ref Pa0, .int P.2.1, .int P.2.2.1, .int P.2.2.2.1, .int P.2.2.2.2.1, .int P.2.2.2.2.2])), (Pa0, .inl ((kI K), 64, .inl P.1))] _ := hP.sub [0, 1] rfl
  refine vp_callSi (va_Run.run (va_runV (As := [.int P.2.2.2.1, .int r_1]) (rest := []) ⟨hx, hb, hml, hown, htg⟩ (c_ps_manAt l K Ph Pa0 P P.2.2.2.1 r_1) (cwV 2 htg (g_V q_369 q_370 q_371 q_6 (g_w q_372)) rfl rfl rfl ⟨rfl, k_ps_manAt⟩ ⟨Nat.le_of_ble_eq_true rfl, Nat.le_of_ble_eq_true rfl⟩) ⟨ro_blind, va_recv hK hPc (ci := 2) (q0 := 0) rfl rfl, ro_use hPc hK hG hS trivial⟩ rfl rfl hl.1 rfl (lv_room (Nat.le_of_ble_eq_true rfl)) d_ps_passantHolds_17 ⟨Nat.zero_le _, Nat.zero_le _⟩)) (fun r_2 hw_2 => ?_)
  have hF := hF.trans (bnd_s hw_2.1)
  refine lv_iconst (v := 1) hx hb d_ps_passantHolds_20 (by decide) ?_
  refine lv_iload_n hx hb d_ps_passantHolds_21 rfl (lv_at hl 0 rfl) ?_
  have hPc : va_P (kD K) vwCl [] _ := hP.sub [] rfl
  refine vp_callSi (va_Run.run (va_runSN (As := [.int (1 : Int32), .int ((1 : Int32) - P.2.1)]) (rest := [.int r_2]) ⟨hx, hb, hml, hown, htg⟩ (c_gn_manOf l K (1 : Int32) ((1 : Int32) - P.2.1)) (⟨va_cnB 2 htg (g_w q_360) rfl rfl rfl (hG.nw 25 rfl) (htg _ q_1) k_gn_manOf ⟨Nat.le_of_ble_eq_true rfl, Nat.le_of_ble_eq_true rfl⟩, htg _ q_359, trivial⟩) ⟨ro_blind, ro_use hPc hK hG hS trivial⟩ rfl rfl hl.1 rfl (lv_room (Nat.le_of_ble_eq_true rfl)) d_ps_passantHolds_22 ⟨Nat.zero_le _, Nat.zero_le _⟩)) (fun r_3 hw_3 => ?_)
  have hF := hF.trans (bnd_s hw_3.1)
  refine lv_icmp_ne (tgt := 71) hx hb d_ps_passantHolds_25 (by decide) (fun c_4 => ?_) (fun c_4 => ?_)
  · have hF := hF.trans (if_neg c_4)
    refine lv_iconst (v := 0) hx hb d_ps_passantHolds_71 (by decide) ?_
    exact W.zret (v := (0 : Int32)) hx hb hr (rfl) (fun t ht hW => ⟨_, rfl, ⟨hF, rfl⟩, ht⟩) hS.2.2 d_ps_passantHolds_72
  · have hF := hF.trans (if_pos c_4)
    refine lv_aload_n hx hb d_ps_passantHolds_28 rfl (lv_at hl 1 rfl) ?_
    refine lv_aload_n hx hb d_ps_passantHolds_29 rfl (lv_at hl 1 rfl) ?_
    refine va_get (D := kD K) (ci := 2) (v := .int P.2.2.2.1) (C := R_ps) (T := T_ps) (N := 6) hx hb htg in_ps hown hK hP 0 rfl rfl 3 (by decide) (htg (.fieldLink R_ps 15 "GameNotation$Position" "passant" "I") q_106) (fun _ h9 => h9) rfl d_ps_passantHolds_30 ?_
    refine lv_iconst (v := 2) hx hb d_ps_passantHolds_33 (by decide) ?_
    refine lv_iload_n hx hb d_ps_passantHolds_34 rfl (lv_at hl 0 rfl) ?_
    have hPc : va_P (kD K) vwCl [] _ := hP.sub [] rfl
    refine vp_callSi (va_Run.run (va_runSN (As := [.int (2 : Int32), .int ((1 : Int32) - P.2.1)]) (rest := [.int P.2.2.2.1, .ref Ph]) ⟨hx, hb, hml, hown, htg⟩ (c_gn_ownRank l K (2 : Int32) ((1 : Int32) - P.2.1)) (⟨va_cnB 2 htg (g_w q_401) rfl rfl rfl (hG.nw 27 rfl) (htg _ q_1) k_gn_ownRank ⟨Nat.le_of_ble_eq_true rfl, Nat.le_of_ble_eq_true rfl⟩, htg _ q_400, trivial⟩) ⟨ro_blind, ro_use hPc hK hG hS trivial⟩ rfl rfl hl.1 rfl (lv_room (Nat.le_of_ble_eq_true rfl)) d_ps_passantHolds_35 ⟨Nat.zero_le _, Nat.zero_le _⟩)) (fun r_5 hw_5 => ?_)
    have hF := hF.trans (bnd_s hw_5.1)
    have hPc : va_P (kD K) vwCl [(Ph, .inr (2, [.ref Pa0, .int P.2.1, .int P.2.2.1, .int P.2.2.2.1, .int P.2.2.2.2.1, .int P.2.2.2.2.2])), (Pa0, .inl ((kI K), 64, .inl P.1))] _ := hP.sub [0, 1] rfl
    refine vp_callSi (va_Run.run (va_runV (As := [.int P.2.2.2.1, .int r_5]) (rest := []) ⟨hx, hb, hml, hown, htg⟩ (c_ps_manAt l K Ph Pa0 P P.2.2.2.1 r_5) (cwV 2 htg (g_V q_369 q_370 q_371 q_6 (g_w q_372)) rfl rfl rfl ⟨rfl, k_ps_manAt⟩ ⟨Nat.le_of_ble_eq_true rfl, Nat.le_of_ble_eq_true rfl⟩) ⟨ro_blind, va_recv hK hPc (ci := 2) (q0 := 0) rfl rfl, ro_use hPc hK hG hS trivial⟩ rfl rfl hl.1 rfl (lv_room (Nat.le_of_ble_eq_true rfl)) d_ps_passantHolds_38 ⟨Nat.zero_le _, Nat.zero_le _⟩)) (fun r_6 hw_6 => ?_)
    have hF := hF.trans (bnd_s hw_6.1)
    refine lv_if_ne (tgt := 71) hx hb d_ps_passantHolds_41 (by decide) (fun c_7 => ?_) (fun c_7 => ?_)
    · have hF := hF.trans (if_neg c_7)
      refine lv_iconst (v := 0) hx hb d_ps_passantHolds_71 (by decide) ?_
      exact W.zret (v := (0 : Int32)) hx hb hr (rfl) (fun t ht hW => ⟨_, rfl, ⟨hF, rfl⟩, ht⟩) hS.2.2 d_ps_passantHolds_72
    · have hF := hF.trans (if_pos c_7)
      refine lv_aload_n hx hb d_ps_passantHolds_44 rfl (lv_at hl 1 rfl) ?_
      refine lv_aload_n hx hb d_ps_passantHolds_45 rfl (lv_at hl 1 rfl) ?_
      refine va_get (D := kD K) (ci := 2) (v := .int P.2.2.2.1) (C := R_ps) (T := T_ps) (N := 6) hx hb htg in_ps hown hK hP 0 rfl rfl 3 (by decide) (htg (.fieldLink R_ps 15 "GameNotation$Position" "passant" "I") q_106) (fun _ h9 => h9) rfl d_ps_passantHolds_46 ?_
      refine lv_iconst (v := 1) hx hb d_ps_passantHolds_49 (by decide) ?_
      refine lv_iload_n hx hb d_ps_passantHolds_50 rfl (lv_at hl 0 rfl) ?_
      have hPc : va_P (kD K) vwCl [] _ := hP.sub [] rfl
      refine vp_callSi (va_Run.run (va_runSN (As := [.int (1 : Int32), .int ((1 : Int32) - P.2.1)]) (rest := [.int P.2.2.2.1, .ref Ph]) ⟨hx, hb, hml, hown, htg⟩ (c_gn_ownRank l K (1 : Int32) ((1 : Int32) - P.2.1)) (⟨va_cnB 2 htg (g_w q_401) rfl rfl rfl (hG.nw 27 rfl) (htg _ q_1) k_gn_ownRank ⟨Nat.le_of_ble_eq_true rfl, Nat.le_of_ble_eq_true rfl⟩, htg _ q_400, trivial⟩) ⟨ro_blind, ro_use hPc hK hG hS trivial⟩ rfl rfl hl.1 rfl (lv_room (Nat.le_of_ble_eq_true rfl)) d_ps_passantHolds_51 ⟨Nat.zero_le _, Nat.zero_le _⟩)) (fun r_8 hw_8 => ?_)
      have hF := hF.trans (bnd_s hw_8.1)
      have hPc : va_P (kD K) vwCl [(Ph, .inr (2, [.ref Pa0, .int P.2.1, .int P.2.2.1, .int P.2.2.2.1, .int P.2.2.2.2.1, .int P.2.2.2.2.2])), (Pa0, .inl ((kI K), 64, .inl P.1))] _ := hP.sub [0, 1] rfl
      refine vp_callSi (va_Run.run (va_runV (As := [.int P.2.2.2.1, .int r_8]) (rest := []) ⟨hx, hb, hml, hown, htg⟩ (c_ps_manAt l K Ph Pa0 P P.2.2.2.1 r_8) (cwV 2 htg (g_V q_369 q_370 q_371 q_6 (g_w q_372)) rfl rfl rfl ⟨rfl, k_ps_manAt⟩ ⟨Nat.le_of_ble_eq_true rfl, Nat.le_of_ble_eq_true rfl⟩) ⟨ro_blind, va_recv hK hPc (ci := 2) (q0 := 0) rfl rfl, ro_use hPc hK hG hS trivial⟩ rfl rfl hl.1 rfl (lv_room (Nat.le_of_ble_eq_true rfl)) d_ps_passantHolds_54 ⟨Nat.zero_le _, Nat.zero_le _⟩)) (fun r_9 hw_9 => ?_)
      have hF := hF.trans (bnd_s hw_9.1)
      refine lv_if_ne (tgt := 71) hx hb d_ps_passantHolds_57 (by decide) (fun c_10 => ?_) (fun c_10 => ?_)
      · have hF := hF.trans (if_neg c_10)
        refine lv_iconst (v := 0) hx hb d_ps_passantHolds_71 (by decide) ?_
        exact W.zret (v := (0 : Int32)) hx hb hr (rfl) (fun t ht hW => ⟨_, rfl, ⟨hF, rfl⟩, ht⟩) hS.2.2 d_ps_passantHolds_72
      · have hF := hF.trans (if_pos c_10)
        refine lv_aload_n hx hb d_ps_passantHolds_60 rfl (lv_at hl 1 rfl) ?_
        refine va_get (D := kD K) (ci := 2) (v := .int P.2.2.2.2.1) (C := R_ps) (T := T_ps) (N := 6) hx hb htg in_ps hown hK hP 0 rfl rfl 4 (by decide) (htg (.fieldLink R_ps 130 "GameNotation$Position" "clock" "I") q_111) (fun _ h9 => h9) rfl d_ps_passantHolds_61 ?_
        refine lv_if_ne (tgt := 71) hx hb d_ps_passantHolds_64 (by decide) (fun c_11 => ?_) (fun c_11 => ?_)
        · have hF := hF.trans (if_neg c_11)
          refine lv_iconst (v := 0) hx hb d_ps_passantHolds_71 (by decide) ?_
          exact W.zret (v := (0 : Int32)) hx hb hr (rfl) (fun t ht hW => ⟨_, rfl, ⟨hF, rfl⟩, ht⟩) hS.2.2 d_ps_passantHolds_72
        · have hF := hF.trans (if_pos c_11)
          refine lv_iconst (v := 1) hx hb d_ps_passantHolds_67 (by decide) ?_
          refine lv_goto (tgt := 72) hx hb d_ps_passantHolds_68 (by decide) ?_
          exact W.zret (v := (1 : Int32)) hx hb hr (rfl) (fun t ht hW => ⟨_, rfl, ⟨hF, rfl⟩, ht⟩) hS.2.2 d_ps_passantHolds_72
def f_ps_firstFault (P : PsT) : Int32 := (bnd (f_gn_manOf (6 : Int32) (0 : Int32)) (fun r_1 => (bnd (f_ps_count P r_1) (fun r_2 => (if r_2 = (1 : Int32) then (bnd (f_gn_manOf (6 : Int32) (1 : Int32)) (fun r_4 => (bnd (f_ps_count P r_4) (fun r_5 => (if r_5 = (1 : Int32) then (bnd (f_ps_hasMisplacedPawn P) (fun r_7 => (if r_7 = 0 then (bnd (f_ps_hasTooMany P (0 : Int32)) (fun r_9 => (if r_9 = 0 then (bnd (f_ps_hasTooMany P (1 : Int32)) (fun r_11 => (if r_11 = 0 then (bnd (f_ps_rightsHold P) (fun r_13 => (if r_13 = 0 then (9 : Int32) else (if P.2.2.2.1 = (-1 : Int32) then (bnd (f_ps_kingSquare P ((1 : Int32) - P.2.1)) (fun r_16 => (bnd (f_ps_isAttacked P r_16 P.2.1) (fun r_17 => (if r_17 = 0 then (0 : Int32) else (11 : Int32)))))) else (bnd (f_ps_passantHolds P) (fun r_19 => (if r_19 = 0 then (10 : Int32) else (bnd (f_ps_kingSquare P ((1 : Int32) - P.2.1)) (fun r_21 => (bnd (f_ps_isAttacked P r_21 P.2.1) (fun r_22 => (if r_22 = 0 then (0 : Int32) else (11 : Int32))))))))))))) else (8 : Int32)))) else (8 : Int32)))) else (8 : Int32)))) else (7 : Int32)))))) else (7 : Int32))))))
set_option maxHeartbeats 4000000 in
set_option maxRecDepth 100000 in
theorem c_ps_firstFault (l : Launch) (K : KT) (Ph Pa0 : Nat) (P : PsT) : Met l y_ps_firstFault w_ps_firstFault ({ frames := 4, cells := 0, slots := 0, locals := 97 } : Room) (va_Pc [.ref Ph] (fun U => pRO K [(Ph, .inr (2, [.ref Pa0, .int P.2.1, .int P.2.2.1, .int P.2.2.2.1, .int P.2.2.2.2.1, .int P.2.2.2.2.2])), (Pa0, .inl ((kI K), 64, .inl P.1))] U ∧ True)) (vp_Si (fun r => f_ps_firstFault P = r ∧ True)) 0 0 (fun _ => False) := by
  refine Met.ofW (cc := b_ps_firstFault) (maxL := 1) (ret := (some .int)) (by decide) rfl ?_
  intro p e s m args below meth c s₁ B hml hv
  obtain ⟨rfl, ⟨hP, hK, hG⟩, -⟩ := hv
  have hx := B.exec
  have hb := B.bytes
  have hr := B.returns
  have hts := atoms_spec (ws := w_ps_firstFault) B.pre
  have hown : s.vm.findClass R_ps = some m.cls := findClass_of_methodNamed B.named
  have hlocks := B.notSynchronized
  have htg := fun w h => hts w (List.mem_cons_of_mem _ h)
  have hS : va_S (fun _ => False) s.heap s.heap [] := va_S.rf
  have hl := lv_entry ([.ref Ph]) (n := 1) (Nat.le_of_ble_eq_true rfl)
  rw [lg_entry_eq]
  generalize (lg_sl ([.ref Ph]) ++ List.replicate (1 - (lg_sl ([.ref Ph])).length) Slot.unset).toArray = ls at hl ⊢
  have hl : lv_has ls 1 [(0, .ref Ph)] := hl
  have hF := f_ps_firstFault.eq_1 P
  refine lv_aload_n hx hb d_ps_firstFault_0 rfl (lv_at hl 0 rfl) ?_
  refine lv_bipush (v := 6) hx hb d_ps_firstFault_1 (by decide) ?_
  refine lv_iconst (v := 0) hx hb d_ps_firstFault_3 (by decide) ?_
  have hPc : va_P (kD K) vwCl [] _ := hP.sub [] rfl
  refine vp_callSi (va_Run.run (va_runSN (As := [.int (6 : Int32), .int (0 : Int32)]) (rest := [.ref Ph]) ⟨hx, hb, hml, hown, htg⟩ (c_gn_manOf l K (6 : Int32) (0 : Int32)) (⟨va_cnB 2 htg (g_w q_360) rfl rfl rfl (hG.nw 25 rfl) (htg _ q_1) k_gn_manOf ⟨Nat.le_of_ble_eq_true rfl, Nat.le_of_ble_eq_true rfl⟩, htg _ q_359, trivial⟩) ⟨ro_blind, ro_use hPc hK hG hS trivial⟩ rfl rfl hl.1 rfl (lv_room (Nat.le_of_ble_eq_true rfl)) d_ps_firstFault_4 ⟨Nat.zero_le _, Nat.zero_le _⟩)) (fun r_1 hw_1 => ?_)
  have hF := hF.trans (bnd_s hw_1.1)
  have hPc : va_P (kD K) vwCl [(Ph, .inr (2, [.ref Pa0, .int P.2.1, .int P.2.2.1, .int P.2.2.2.1, .int P.2.2.2.2.1, .int P.2.2.2.2.2])), (Pa0, .inl ((kI K), 64, .inl P.1))] _ := hP.sub [0, 1] rfl
  refine vp_callSi (va_Run.run (va_runV (As := [.int r_1]) (rest := []) ⟨hx, hb, hml, hown, htg⟩ (c_ps_count l K Ph Pa0 P r_1) (cwV 1 htg (g_V q_361 q_363 qs_7 q_6 (g_w q_364)) rfl rfl rfl ⟨rfl, k_ps_count⟩ ⟨Nat.le_of_ble_eq_true rfl, Nat.le_of_ble_eq_true rfl⟩) ⟨ro_blind, va_recv hK hPc (ci := 2) (q0 := 0) rfl rfl, ro_use hPc hK hG hS trivial⟩ rfl rfl hl.1 rfl (lv_room (Nat.le_of_ble_eq_true rfl)) d_ps_firstFault_7 ⟨Nat.zero_le _, Nat.zero_le _⟩)) (fun r_2 hw_2 => ?_)
  have hF := hF.trans (bnd_s hw_2.1)
  refine lv_iconst (v := 1) hx hb d_ps_firstFault_10 (by decide) ?_
  refine lv_icmp_ne (tgt := 28) hx hb d_ps_firstFault_11 (by decide) (fun c_3 => ?_) (fun c_3 => ?_)
  · have hF := hF.trans (if_neg c_3)
    refine lv_bipush (v := 7) hx hb d_ps_firstFault_28 (by decide) ?_
    exact W.iret (v := (7 : Int32)) hx hb hr (fun t ht hW => ⟨_, rfl, ⟨hF, trivial⟩, ht⟩) hS.2.2 d_ps_firstFault_30
  · have hF := hF.trans (if_pos c_3)
    refine lv_aload_n hx hb d_ps_firstFault_14 rfl (lv_at hl 0 rfl) ?_
    refine lv_bipush (v := 6) hx hb d_ps_firstFault_15 (by decide) ?_
    refine lv_iconst (v := 1) hx hb d_ps_firstFault_17 (by decide) ?_
    have hPc : va_P (kD K) vwCl [] _ := hP.sub [] rfl
    refine vp_callSi (va_Run.run (va_runSN (As := [.int (6 : Int32), .int (1 : Int32)]) (rest := [.ref Ph]) ⟨hx, hb, hml, hown, htg⟩ (c_gn_manOf l K (6 : Int32) (1 : Int32)) (⟨va_cnB 2 htg (g_w q_360) rfl rfl rfl (hG.nw 25 rfl) (htg _ q_1) k_gn_manOf ⟨Nat.le_of_ble_eq_true rfl, Nat.le_of_ble_eq_true rfl⟩, htg _ q_359, trivial⟩) ⟨ro_blind, ro_use hPc hK hG hS trivial⟩ rfl rfl hl.1 rfl (lv_room (Nat.le_of_ble_eq_true rfl)) d_ps_firstFault_18 ⟨Nat.zero_le _, Nat.zero_le _⟩)) (fun r_4 hw_4 => ?_)
    have hF := hF.trans (bnd_s hw_4.1)
    have hPc : va_P (kD K) vwCl [(Ph, .inr (2, [.ref Pa0, .int P.2.1, .int P.2.2.1, .int P.2.2.2.1, .int P.2.2.2.2.1, .int P.2.2.2.2.2])), (Pa0, .inl ((kI K), 64, .inl P.1))] _ := hP.sub [0, 1] rfl
    refine vp_callSi (va_Run.run (va_runV (As := [.int r_4]) (rest := []) ⟨hx, hb, hml, hown, htg⟩ (c_ps_count l K Ph Pa0 P r_4) (cwV 1 htg (g_V q_361 q_363 qs_7 q_6 (g_w q_364)) rfl rfl rfl ⟨rfl, k_ps_count⟩ ⟨Nat.le_of_ble_eq_true rfl, Nat.le_of_ble_eq_true rfl⟩) ⟨ro_blind, va_recv hK hPc (ci := 2) (q0 := 0) rfl rfl, ro_use hPc hK hG hS trivial⟩ rfl rfl hl.1 rfl (lv_room (Nat.le_of_ble_eq_true rfl)) d_ps_firstFault_21 ⟨Nat.zero_le _, Nat.zero_le _⟩)) (fun r_5 hw_5 => ?_)
    have hF := hF.trans (bnd_s hw_5.1)
    refine lv_iconst (v := 1) hx hb d_ps_firstFault_24 (by decide) ?_
    refine lv_icmp_eq (tgt := 31) hx hb d_ps_firstFault_25 (by decide) (fun c_6 => ?_) (fun c_6 => ?_)
    · have hF := hF.trans (if_pos c_6)
      refine lv_aload_n hx hb d_ps_firstFault_31 rfl (lv_at hl 0 rfl) ?_
      have hPc : va_P (kD K) vwCl [(Ph, .inr (2, [.ref Pa0, .int P.2.1, .int P.2.2.1, .int P.2.2.2.1, .int P.2.2.2.2.1, .int P.2.2.2.2.2])), (Pa0, .inl ((kI K), 64, .inl P.1))] _ := hP.sub [0, 1] rfl
      refine vp_callSi (va_Run.run (va_runV (As := []) (rest := []) ⟨hx, hb, hml, hown, htg⟩ (c_ps_hasMisplacedPawn l K Ph Pa0 P) (cwV 0 htg (g_V q_365 q_367 qs_8 q_6 (g_w q_368)) rfl rfl rfl ⟨rfl, k_ps_hasMisplacedPawn⟩ ⟨Nat.le_of_ble_eq_true rfl, Nat.le_of_ble_eq_true rfl⟩) ⟨ro_blind, va_recv hK hPc (ci := 2) (q0 := 0) rfl rfl, ro_use hPc hK hG hS trivial⟩ rfl rfl hl.1 rfl (lv_room (Nat.le_of_ble_eq_true rfl)) d_ps_firstFault_32 ⟨Nat.zero_le _, Nat.zero_le _⟩)) (fun r_7 hw_7 => ?_)
      have hF := hF.trans (bnd_s hw_7.1)
      have hn_7 := hw_7.2
      refine lv_if_ne (tgt := 54) hx hb d_ps_firstFault_35 (by decide) (fun c_8 => ?_) (fun c_8 => ?_)
      · have hF := hF.trans (if_neg c_8)
        refine lv_bipush (v := 8) hx hb d_ps_firstFault_54 (by decide) ?_
        exact W.iret (v := (8 : Int32)) hx hb hr (fun t ht hW => ⟨_, rfl, ⟨hF, trivial⟩, ht⟩) hS.2.2 d_ps_firstFault_56
      · have hF := hF.trans (if_pos c_8)
        refine lv_aload_n hx hb d_ps_firstFault_38 rfl (lv_at hl 0 rfl) ?_
        refine lv_iconst (v := 0) hx hb d_ps_firstFault_39 (by decide) ?_
        have hPc : va_P (kD K) vwCl [(Ph, .inr (2, [.ref Pa0, .int P.2.1, .int P.2.2.1, .int P.2.2.2.1, .int P.2.2.2.2.1, .int P.2.2.2.2.2])), (Pa0, .inl ((kI K), 64, .inl P.1))] _ := hP.sub [0, 1] rfl
        refine vp_callSi (va_Run.run (va_runV (As := [.int (0 : Int32)]) (rest := []) ⟨hx, hb, hml, hown, htg⟩ (c_ps_hasTooMany l K Ph Pa0 P (0 : Int32)) (cwV 1 htg (g_V q_376 q_378 qs_9 q_6 (g_w q_379)) rfl rfl rfl ⟨rfl, k_ps_hasTooMany⟩ ⟨Nat.le_of_ble_eq_true rfl, Nat.le_of_ble_eq_true rfl⟩) ⟨ro_blind, va_recv hK hPc (ci := 2) (q0 := 0) rfl rfl, ro_use hPc hK hG hS trivial⟩ rfl rfl hl.1 rfl (lv_room (Nat.le_of_ble_eq_true rfl)) d_ps_firstFault_40 ⟨Nat.zero_le _, Nat.zero_le _⟩)) (fun r_9 hw_9 => ?_)
        have hF := hF.trans (bnd_s hw_9.1)
        have hn_9 := hw_9.2
        refine lv_if_ne (tgt := 54) hx hb d_ps_firstFault_43 (by decide) (fun c_10 => ?_) (fun c_10 => ?_)
        · have hF := hF.trans (if_neg c_10)
          refine lv_bipush (v := 8) hx hb d_ps_firstFault_54 (by decide) ?_
          exact W.iret (v := (8 : Int32)) hx hb hr (fun t ht hW => ⟨_, rfl, ⟨hF, trivial⟩, ht⟩) hS.2.2 d_ps_firstFault_56
        · have hF := hF.trans (if_pos c_10)
          refine lv_aload_n hx hb d_ps_firstFault_46 rfl (lv_at hl 0 rfl) ?_
          refine lv_iconst (v := 1) hx hb d_ps_firstFault_47 (by decide) ?_
          have hPc : va_P (kD K) vwCl [(Ph, .inr (2, [.ref Pa0, .int P.2.1, .int P.2.2.1, .int P.2.2.2.1, .int P.2.2.2.2.1, .int P.2.2.2.2.2])), (Pa0, .inl ((kI K), 64, .inl P.1))] _ := hP.sub [0, 1] rfl
          refine vp_callSi (va_Run.run (va_runV (As := [.int (1 : Int32)]) (rest := []) ⟨hx, hb, hml, hown, htg⟩ (c_ps_hasTooMany l K Ph Pa0 P (1 : Int32)) (cwV 1 htg (g_V q_376 q_378 qs_9 q_6 (g_w q_379)) rfl rfl rfl ⟨rfl, k_ps_hasTooMany⟩ ⟨Nat.le_of_ble_eq_true rfl, Nat.le_of_ble_eq_true rfl⟩) ⟨ro_blind, va_recv hK hPc (ci := 2) (q0 := 0) rfl rfl, ro_use hPc hK hG hS trivial⟩ rfl rfl hl.1 rfl (lv_room (Nat.le_of_ble_eq_true rfl)) d_ps_firstFault_48 ⟨Nat.zero_le _, Nat.zero_le _⟩)) (fun r_11 hw_11 => ?_)
          have hF := hF.trans (bnd_s hw_11.1)
          have hn_11 := hw_11.2
          refine lv_if_eq (tgt := 57) hx hb d_ps_firstFault_51 (by decide) (fun c_12 => ?_) (fun c_12 => ?_)
          · have hF := hF.trans (if_pos c_12)
            refine lv_aload_n hx hb d_ps_firstFault_57 rfl (lv_at hl 0 rfl) ?_
            have hPc : va_P (kD K) vwCl [(Ph, .inr (2, [.ref Pa0, .int P.2.1, .int P.2.2.1, .int P.2.2.2.1, .int P.2.2.2.2.1, .int P.2.2.2.2.2])), (Pa0, .inl ((kI K), 64, .inl P.1))] _ := hP.sub [0, 1] rfl
            refine vp_callSi (va_Run.run (va_runV (As := []) (rest := []) ⟨hx, hb, hml, hown, htg⟩ (c_ps_rightsHold l K Ph Pa0 P) (cwV 0 htg (g_V q_385 q_387 qs_11 q_6 (g_w q_388)) rfl rfl rfl ⟨rfl, k_ps_rightsHold⟩ ⟨Nat.le_of_ble_eq_true rfl, Nat.le_of_ble_eq_true rfl⟩) ⟨ro_blind, va_recv hK hPc (ci := 2) (q0 := 0) rfl rfl, ro_use hPc hK hG hS trivial⟩ rfl rfl hl.1 rfl (lv_room (Nat.le_of_ble_eq_true rfl)) d_ps_firstFault_58 ⟨Nat.zero_le _, Nat.zero_le _⟩)) (fun r_13 hw_13 => ?_)
            have hF := hF.trans (bnd_s hw_13.1)
            have hn_13 := hw_13.2
            refine lv_if_ne (tgt := 67) hx hb d_ps_firstFault_61 (by decide) (fun c_14 => ?_) (fun c_14 => ?_)
            · have hF := hF.trans (if_neg c_14)
              refine lv_aload_n hx hb d_ps_firstFault_67 rfl (lv_at hl 0 rfl) ?_
              refine va_get (D := kD K) (ci := 2) (v := .int P.2.2.2.1) (C := R_ps) (T := T_ps) (N := 6) hx hb htg in_ps hown hK hP 0 rfl rfl 3 (by decide) (htg (.fieldLink R_ps 15 "GameNotation$Position" "passant" "I") q_106) (fun _ h9 => h9) rfl d_ps_firstFault_68 ?_
              refine lv_iconst (v := -1) hx hb d_ps_firstFault_71 (by decide) ?_
              refine lv_icmp_eq (tgt := 85) hx hb d_ps_firstFault_72 (by decide) (fun c_15 => ?_) (fun c_15 => ?_)
              · have hF := hF.trans (if_pos c_15)
                refine lv_aload_n hx hb d_ps_firstFault_85 rfl (lv_at hl 0 rfl) ?_
                refine lv_aload_n hx hb d_ps_firstFault_86 rfl (lv_at hl 0 rfl) ?_
                refine lv_iconst (v := 1) hx hb d_ps_firstFault_87 (by decide) ?_
                refine lv_aload_n hx hb d_ps_firstFault_88 rfl (lv_at hl 0 rfl) ?_
                refine va_get (D := kD K) (ci := 2) (v := .int P.2.1) (C := R_ps) (T := T_ps) (N := 6) hx hb htg in_ps hown hK hP 0 rfl rfl 1 (by decide) (htg (.fieldLink R_ps 50 "GameNotation$Position" "side" "I") q_102) (fun _ h9 => h9) rfl d_ps_firstFault_89 ?_
                refine lv_isub hx hb d_ps_firstFault_92 ?_
                have hPc : va_P (kD K) vwCl [(Ph, .inr (2, [.ref Pa0, .int P.2.1, .int P.2.2.1, .int P.2.2.2.1, .int P.2.2.2.2.1, .int P.2.2.2.2.2])), (Pa0, .inl ((kI K), 64, .inl P.1))] _ := hP.sub [0, 1] rfl
                refine vp_callSi (va_Run.run (va_runV (As := [.int ((1 : Int32) - P.2.1)]) (rest := [.ref Ph]) ⟨hx, hb, hml, hown, htg⟩ (c_ps_kingSquare l K Ph Pa0 P ((1 : Int32) - P.2.1)) (cwV 1 htg (g_V q_406 q_408 qs_14 q_6 (g_w q_409)) rfl rfl rfl ⟨rfl, k_ps_kingSquare⟩ ⟨Nat.le_of_ble_eq_true rfl, Nat.le_of_ble_eq_true rfl⟩) ⟨ro_blind, va_recv hK hPc (ci := 2) (q0 := 0) rfl rfl, ro_use hPc hK hG hS trivial⟩ rfl rfl hl.1 rfl (lv_room (Nat.le_of_ble_eq_true rfl)) d_ps_firstFault_93 ⟨Nat.zero_le _, Nat.zero_le _⟩)) (fun r_16 hw_16 => ?_)
                have hF := hF.trans (bnd_s hw_16.1)
                refine lv_aload_n hx hb d_ps_firstFault_96 rfl (lv_at hl 0 rfl) ?_
                refine va_get (D := kD K) (ci := 2) (v := .int P.2.1) (C := R_ps) (T := T_ps) (N := 6) hx hb htg in_ps hown hK hP 0 rfl rfl 1 (by decide) (htg (.fieldLink R_ps 50 "GameNotation$Position" "side" "I") q_102) (fun _ h9 => h9) rfl d_ps_firstFault_97 ?_
                have hPc : va_P (kD K) vwCl [(Ph, .inr (2, [.ref Pa0, .int P.2.1, .int P.2.2.1, .int P.2.2.2.1, .int P.2.2.2.2.1, .int P.2.2.2.2.2])), (Pa0, .inl ((kI K), 64, .inl P.1))] _ := hP.sub [0, 1] rfl
                refine vp_callSi (va_Run.run (va_runV (As := [.int r_16, .int P.2.1]) (rest := []) ⟨hx, hb, hml, hown, htg⟩ (c_ps_isAttacked l K Ph Pa0 P r_16 P.2.1) (cwV 2 htg (g_V q_410 q_411 q_412 q_6 (g_w q_413)) rfl rfl rfl ⟨rfl, k_ps_isAttacked⟩ ⟨Nat.le_of_ble_eq_true rfl, Nat.le_of_ble_eq_true rfl⟩) ⟨ro_blind, va_recv hK hPc (ci := 2) (q0 := 0) rfl rfl, ro_use hPc hK hG hS trivial⟩ rfl rfl hl.1 rfl (lv_room (Nat.le_of_ble_eq_true rfl)) d_ps_firstFault_100 ⟨Nat.zero_le _, Nat.zero_le _⟩)) (fun r_17 hw_17 => ?_)
                have hF := hF.trans (bnd_s hw_17.1)
                have hn_17 := hw_17.2
                refine lv_if_eq (tgt := 111) hx hb d_ps_firstFault_103 (by decide) (fun c_18 => ?_) (fun c_18 => ?_)
                · have hF := hF.trans (if_pos c_18)
                  refine lv_iconst (v := 0) hx hb d_ps_firstFault_111 (by decide) ?_
                  exact W.iret (v := (0 : Int32)) hx hb hr (fun t ht hW => ⟨_, rfl, ⟨hF, trivial⟩, ht⟩) hS.2.2 d_ps_firstFault_112
                · have hF := hF.trans (if_neg c_18)
                  refine lv_bipush (v := 11) hx hb d_ps_firstFault_106 (by decide) ?_
                  refine lv_goto (tgt := 112) hx hb d_ps_firstFault_108 (by decide) ?_
                  exact W.iret (v := (11 : Int32)) hx hb hr (fun t ht hW => ⟨_, rfl, ⟨hF, trivial⟩, ht⟩) hS.2.2 d_ps_firstFault_112
              · have hF := hF.trans (if_neg c_15)
                refine lv_aload_n hx hb d_ps_firstFault_75 rfl (lv_at hl 0 rfl) ?_
                have hPc : va_P (kD K) vwCl [(Ph, .inr (2, [.ref Pa0, .int P.2.1, .int P.2.2.1, .int P.2.2.2.1, .int P.2.2.2.2.1, .int P.2.2.2.2.2])), (Pa0, .inl ((kI K), 64, .inl P.1))] _ := hP.sub [0, 1] rfl
                refine vp_callSi (va_Run.run (va_runV (As := []) (rest := []) ⟨hx, hb, hml, hown, htg⟩ (c_ps_passantHolds l K Ph Pa0 P) (cwV 0 htg (g_V q_402 q_404 qs_13 q_6 (g_w q_405)) rfl rfl rfl ⟨rfl, k_ps_passantHolds⟩ ⟨Nat.le_of_ble_eq_true rfl, Nat.le_of_ble_eq_true rfl⟩) ⟨ro_blind, va_recv hK hPc (ci := 2) (q0 := 0) rfl rfl, ro_use hPc hK hG hS trivial⟩ rfl rfl hl.1 rfl (lv_room (Nat.le_of_ble_eq_true rfl)) d_ps_firstFault_76 ⟨Nat.zero_le _, Nat.zero_le _⟩)) (fun r_19 hw_19 => ?_)
                have hF := hF.trans (bnd_s hw_19.1)
                have hn_19 := hw_19.2
                refine lv_if_ne (tgt := 85) hx hb d_ps_firstFault_79 (by decide) (fun c_20 => ?_) (fun c_20 => ?_)
                · have hF := hF.trans (if_neg c_20)
                  refine lv_aload_n hx hb d_ps_firstFault_85 rfl (lv_at hl 0 rfl) ?_
                  refine lv_aload_n hx hb d_ps_firstFault_86 rfl (lv_at hl 0 rfl) ?_
                  refine lv_iconst (v := 1) hx hb d_ps_firstFault_87 (by decide) ?_
                  refine lv_aload_n hx hb d_ps_firstFault_88 rfl (lv_at hl 0 rfl) ?_
                  refine va_get (D := kD K) (ci := 2) (v := .int P.2.1) (C := R_ps) (T := T_ps) (N := 6) hx hb htg in_ps hown hK hP 0 rfl rfl 1 (by decide) (htg (.fieldLink R_ps 50 "GameNotation$Position" "side" "I") q_102) (fun _ h9 => h9) rfl d_ps_firstFault_89 ?_
                  refine lv_isub hx hb d_ps_firstFault_92 ?_
                  have hPc : va_P (kD K) vwCl [(Ph, .inr (2, [.ref Pa0, .int P.2.1, .int P.2.2.1, .int P.2.2.2.1, .int P.2.2.2.2.1, .int P.2.2.2.2.2])), (Pa0, .inl ((kI K), 64, .inl P.1))] _ := hP.sub [0, 1] rfl
                  refine vp_callSi (va_Run.run (va_runV (As := [.int ((1 : Int32) - P.2.1)]) (rest := [.ref Ph]) ⟨hx, hb, hml, hown, htg⟩ (c_ps_kingSquare l K Ph Pa0 P ((1 : Int32) - P.2.1)) (cwV 1 htg (g_V q_406 q_408 qs_14 q_6 (g_w q_409)) rfl rfl rfl ⟨rfl, k_ps_kingSquare⟩ ⟨Nat.le_of_ble_eq_true rfl, Nat.le_of_ble_eq_true rfl⟩) ⟨ro_blind, va_recv hK hPc (ci := 2) (q0 := 0) rfl rfl, ro_use hPc hK hG hS trivial⟩ rfl rfl hl.1 rfl (lv_room (Nat.le_of_ble_eq_true rfl)) d_ps_firstFault_93 ⟨Nat.zero_le _, Nat.zero_le _⟩)) (fun r_21 hw_21 => ?_)
                  have hF := hF.trans (bnd_s hw_21.1)
                  refine lv_aload_n hx hb d_ps_firstFault_96 rfl (lv_at hl 0 rfl) ?_
                  refine va_get (D := kD K) (ci := 2) (v := .int P.2.1) (C := R_ps) (T := T_ps) (N := 6) hx hb htg in_ps hown hK hP 0 rfl rfl 1 (by decide) (htg (.fieldLink R_ps 50 "GameNotation$Position" "side" "I") q_102) (fun _ h9 => h9) rfl d_ps_firstFault_97 ?_
                  have hPc : va_P (kD K) vwCl [(Ph, .inr (2, [.ref Pa0, .int P.2.1, .int P.2.2.1, .int P.2.2.2.1, .int P.2.2.2.2.1, .int P.2.2.2.2.2])), (Pa0, .inl ((kI K), 64, .inl P.1))] _ := hP.sub [0, 1] rfl
                  refine vp_callSi (va_Run.run (va_runV (As := [.int r_21, .int P.2.1]) (rest := []) ⟨hx, hb, hml, hown, htg⟩ (c_ps_isAttacked l K Ph Pa0 P r_21 P.2.1) (cwV 2 htg (g_V q_410 q_411 q_412 q_6 (g_w q_413)) rfl rfl rfl ⟨rfl, k_ps_isAttacked⟩ ⟨Nat.le_of_ble_eq_true rfl, Nat.le_of_ble_eq_true rfl⟩) ⟨ro_blind, va_recv hK hPc (ci := 2) (q0 := 0) rfl rfl, ro_use hPc hK hG hS trivial⟩ rfl rfl hl.1 rfl (lv_room (Nat.le_of_ble_eq_true rfl)) d_ps_firstFault_100 ⟨Nat.zero_le _, Nat.zero_le _⟩)) (fun r_22 hw_22 => ?_)
                  have hF := hF.trans (bnd_s hw_22.1)
                  have hn_22 := hw_22.2
                  refine lv_if_eq (tgt := 111) hx hb d_ps_firstFault_103 (by decide) (fun c_23 => ?_) (fun c_23 => ?_)
                  · have hF := hF.trans (if_pos c_23)
                    refine lv_iconst (v := 0) hx hb d_ps_firstFault_111 (by decide) ?_
                    exact W.iret (v := (0 : Int32)) hx hb hr (fun t ht hW => ⟨_, rfl, ⟨hF, trivial⟩, ht⟩) hS.2.2 d_ps_firstFault_112
                  · have hF := hF.trans (if_neg c_23)
                    refine lv_bipush (v := 11) hx hb d_ps_firstFault_106 (by decide) ?_
                    refine lv_goto (tgt := 112) hx hb d_ps_firstFault_108 (by decide) ?_
                    exact W.iret (v := (11 : Int32)) hx hb hr (fun t ht hW => ⟨_, rfl, ⟨hF, trivial⟩, ht⟩) hS.2.2 d_ps_firstFault_112
                · have hF := hF.trans (if_pos c_20)
                  refine lv_bipush (v := 10) hx hb d_ps_firstFault_82 (by decide) ?_
                  exact W.iret (v := (10 : Int32)) hx hb hr (fun t ht hW => ⟨_, rfl, ⟨hF, trivial⟩, ht⟩) hS.2.2 d_ps_firstFault_84
            · have hF := hF.trans (if_pos c_14)
              refine lv_bipush (v := 9) hx hb d_ps_firstFault_64 (by decide) ?_
              exact W.iret (v := (9 : Int32)) hx hb hr (fun t ht hW => ⟨_, rfl, ⟨hF, trivial⟩, ht⟩) hS.2.2 d_ps_firstFault_66
          · have hF := hF.trans (if_neg c_12)
            refine lv_bipush (v := 8) hx hb d_ps_firstFault_54 (by decide) ?_
            exact W.iret (v := (8 : Int32)) hx hb hr (fun t ht hW => ⟨_, rfl, ⟨hF, trivial⟩, ht⟩) hS.2.2 d_ps_firstFault_56
    · have hF := hF.trans (if_neg c_6)
      refine lv_bipush (v := 7) hx hb d_ps_firstFault_28 (by decide) ?_
      exact W.iret (v := (7 : Int32)) hx hb hr (fun t ht hW => ⟨_, rfl, ⟨hF, trivial⟩, ht⟩) hS.2.2 d_ps_firstFault_30
def f_gn_castlingOf (mv : Int32) (P : PsT) : Int32 := (bnd (f_gn_fromOf mv) (fun r_1 => (bnd (f_ps_manOn P r_1) (fun r_2 => (bnd (f_gn_kindOf r_2) (fun r_3 => (if r_3 = (6 : Int32) then (bnd (f_gn_toOf mv) (fun r_5 => (bnd (f_gn_fileOf r_5) (fun r_6 => (bnd (f_gn_fromOf mv) (fun r_7 => (bnd (f_gn_fileOf r_7) (fun r_8 => (if (r_6 - r_8) < (2 : Int32) then (if (-2 : Int32) < (r_6 - r_8) then (0 : Int32) else (-1 : Int32)) else (1 : Int32)))))))))) else (0 : Int32))))))))
set_option maxHeartbeats 4000000 in
set_option maxRecDepth 100000 in
theorem c_gn_castlingOf (l : Launch) (K : KT) (mv : Int32) (Ph Pa0 : Nat) (P : PsT) : Met l y_gn_castlingOf w_gn_castlingOf ({ frames := 1, cells := 0, slots := 0, locals := 21 } : Room) (va_Pc [.int mv, .ref Ph] (fun U => pRO K [(Ph, .inr (2, [.ref Pa0, .int P.2.1, .int P.2.2.1, .int P.2.2.2.1, .int P.2.2.2.2.1, .int P.2.2.2.2.2])), (Pa0, .inl ((kI K), 64, .inl P.1))] U ∧ True)) (vp_Si (fun r => f_gn_castlingOf mv P = r ∧ True)) 0 0 (fun _ => False) := by
  refine Met.ofW (cc := b_gn_castlingOf) (maxL := 3) (ret := (some .int)) (by decide) rfl ?_
  intro p e s m args below meth c s₁ B hml hv
  obtain ⟨rfl, ⟨hP, hK, hG⟩, -⟩ := hv
  have hx := B.exec
  have hb := B.bytes
  have hr := B.returns
  have hts := atoms_spec (ws := w_gn_castlingOf) B.pre
  have hown : s.vm.findClass R_gn = some m.cls := findClass_of_methodNamed B.named
  have hlocks := B.notSynchronized
  have htg := fun w h => hts w (List.mem_cons_of_mem _ h)
  have hS : va_S (fun _ => False) s.heap s.heap [] := va_S.rf
  have hl := lv_entry ([.int mv, .ref Ph]) (n := 3) (Nat.le_of_ble_eq_true rfl)
  rw [lg_entry_eq]
  generalize (lg_sl ([.int mv, .ref Ph]) ++ List.replicate (3 - (lg_sl ([.int mv, .ref Ph])).length) Slot.unset).toArray = ls at hl ⊢
  have hl : lv_has ls 3 [(0, .int mv), (1, .ref Ph)] := hl
  have hF := f_gn_castlingOf.eq_1 mv P
  refine lv_aload_n hx hb d_gn_castlingOf_0 rfl (lv_at hl 1 rfl) ?_
  refine lv_iload_n hx hb d_gn_castlingOf_1 rfl (lv_at hl 0 rfl) ?_
  have hPc : va_P (kD K) vwCl [] _ := hP.sub [] rfl
  refine vp_callSi (va_Run.run (va_runS (As := [.int mv]) (rest := [.ref Ph]) ⟨hx, hb, hml, hown, htg⟩ (c_gn_fromOf l K mv) (va_cwS 1 htg (g_S q_524 q_525 q_1 (g_w q_526)) rfl rfl rfl k_gn_fromOf ⟨Nat.le_of_ble_eq_true rfl, Nat.le_of_ble_eq_true rfl⟩) ⟨ro_blind, ro_use hPc hK hG hS trivial⟩ rfl rfl hl.1 rfl (lv_room (Nat.le_of_ble_eq_true rfl)) d_gn_castlingOf_2 ⟨Nat.zero_le _, Nat.zero_le _⟩)) (fun r_1 hw_1 => ?_)
  have hF := hF.trans (bnd_s hw_1.1)
  have hPc : va_P (kD K) vwCl [(Ph, .inr (2, [.ref Pa0, .int P.2.1, .int P.2.2.1, .int P.2.2.2.1, .int P.2.2.2.2.1, .int P.2.2.2.2.2])), (Pa0, .inl ((kI K), 64, .inl P.1))] _ := hP.sub [0, 1] rfl
  refine vp_callSi (va_Run.run (va_runV (As := [.int r_1]) (rest := []) ⟨hx, hb, hml, hown, htg⟩ (c_ps_manOn l K Ph Pa0 P r_1) (cwV 1 htg (g_V q_507 q_508 q_509 q_6 (g_w q_510)) rfl rfl rfl ⟨rfl, k_ps_manOn⟩ ⟨Nat.le_of_ble_eq_true rfl, Nat.le_of_ble_eq_true rfl⟩) ⟨ro_blind, va_recv hK hPc (ci := 2) (q0 := 0) rfl rfl, ro_use hPc hK hG hS trivial⟩ rfl rfl hl.1 rfl (lv_room (Nat.le_of_ble_eq_true rfl)) d_gn_castlingOf_5 ⟨Nat.zero_le _, Nat.zero_le _⟩)) (fun r_2 hw_2 => ?_)
  have hF := hF.trans (bnd_s hw_2.1)
  have hPc : va_P (kD K) vwCl [] _ := hP.sub [] rfl
  refine vp_callSi (va_Run.run (va_runS (As := [.int r_2]) (rest := []) ⟨hx, hb, hml, hown, htg⟩ (c_gn_kindOf l K r_2) (va_cwS 1 htg (g_S q_530 q_374 q_1 (g_w q_375)) rfl rfl rfl k_gn_kindOf ⟨Nat.le_of_ble_eq_true rfl, Nat.le_of_ble_eq_true rfl⟩) ⟨ro_blind, ro_use hPc hK hG hS trivial⟩ rfl rfl hl.1 rfl (lv_room (Nat.le_of_ble_eq_true rfl)) d_gn_castlingOf_8 ⟨Nat.zero_le _, Nat.zero_le _⟩)) (fun r_3 hw_3 => ?_)
  have hF := hF.trans (bnd_s hw_3.1)
  refine lv_bipush (v := 6) hx hb d_gn_castlingOf_11 (by decide) ?_
  refine lv_icmp_eq (tgt := 18) hx hb d_gn_castlingOf_13 (by decide) (fun c_4 => ?_) (fun c_4 => ?_)
  · have hF := hF.trans (if_pos c_4)
    refine lv_iload_n hx hb d_gn_castlingOf_18 rfl (lv_at hl 0 rfl) ?_
    have hPc : va_P (kD K) vwCl [] _ := hP.sub [] rfl
    refine vp_callSi (va_Run.run (va_runS (As := [.int mv]) (rest := []) ⟨hx, hb, hml, hown, htg⟩ (c_gn_toOf l K mv) (va_cwS 1 htg (g_S q_527 q_528 q_1 (g_w q_529)) rfl rfl rfl k_gn_toOf ⟨Nat.le_of_ble_eq_true rfl, Nat.le_of_ble_eq_true rfl⟩) ⟨ro_blind, ro_use hPc hK hG hS trivial⟩ rfl rfl hl.1 rfl (lv_room (Nat.le_of_ble_eq_true rfl)) d_gn_castlingOf_19 ⟨Nat.zero_le _, Nat.zero_le _⟩)) (fun r_5 hw_5 => ?_)
    have hF := hF.trans (bnd_s hw_5.1)
    have hPc : va_P (kD K) vwCl [] _ := hP.sub [] rfl
    refine vp_callSi (va_Run.run (va_runS (As := [.int r_5]) (rest := []) ⟨hx, hb, hml, hown, htg⟩ (c_gn_fileOf l K r_5) (va_cwS 1 htg (g_S q_613 q_423 q_1 (g_w q_424)) rfl rfl rfl k_gn_fileOf ⟨Nat.le_of_ble_eq_true rfl, Nat.le_of_ble_eq_true rfl⟩) ⟨ro_blind, ro_use hPc hK hG hS trivial⟩ rfl rfl hl.1 rfl (lv_room (Nat.le_of_ble_eq_true rfl)) d_gn_castlingOf_22 ⟨Nat.zero_le _, Nat.zero_le _⟩)) (fun r_6 hw_6 => ?_)
    have hF := hF.trans (bnd_s hw_6.1)
    refine lv_iload_n hx hb d_gn_castlingOf_25 rfl (lv_at hl 0 rfl) ?_
    have hPc : va_P (kD K) vwCl [] _ := hP.sub [] rfl
    refine vp_callSi (va_Run.run (va_runS (As := [.int mv]) (rest := [.int r_6]) ⟨hx, hb, hml, hown, htg⟩ (c_gn_fromOf l K mv) (va_cwS 1 htg (g_S q_524 q_525 q_1 (g_w q_526)) rfl rfl rfl k_gn_fromOf ⟨Nat.le_of_ble_eq_true rfl, Nat.le_of_ble_eq_true rfl⟩) ⟨ro_blind, ro_use hPc hK hG hS trivial⟩ rfl rfl hl.1 rfl (lv_room (Nat.le_of_ble_eq_true rfl)) d_gn_castlingOf_26 ⟨Nat.zero_le _, Nat.zero_le _⟩)) (fun r_7 hw_7 => ?_)
    have hF := hF.trans (bnd_s hw_7.1)
    have hPc : va_P (kD K) vwCl [] _ := hP.sub [] rfl
    refine vp_callSi (va_Run.run (va_runS (As := [.int r_7]) (rest := [.int r_6]) ⟨hx, hb, hml, hown, htg⟩ (c_gn_fileOf l K r_7) (va_cwS 1 htg (g_S q_613 q_423 q_1 (g_w q_424)) rfl rfl rfl k_gn_fileOf ⟨Nat.le_of_ble_eq_true rfl, Nat.le_of_ble_eq_true rfl⟩) ⟨ro_blind, ro_use hPc hK hG hS trivial⟩ rfl rfl hl.1 rfl (lv_room (Nat.le_of_ble_eq_true rfl)) d_gn_castlingOf_29 ⟨Nat.zero_le _, Nat.zero_le _⟩)) (fun r_8 hw_8 => ?_)
    have hF := hF.trans (bnd_s hw_8.1)
    refine lv_isub hx hb d_gn_castlingOf_32 ?_
    refine lv_istore_n (lv' := [(2, .int (r_6 - r_8)), (0, .int mv), (1, .ref Ph)]) hx hb d_gn_castlingOf_33 rfl hl (by decide) rfl (fun ls hl => ?_)
    refine lv_iload_n hx hb d_gn_castlingOf_34 rfl (lv_at hl 0 rfl) ?_
    refine lv_iconst (v := 2) hx hb d_gn_castlingOf_35 (by decide) ?_
    refine lv_icmp_lt (tgt := 41) hx hb d_gn_castlingOf_36 (by decide) (fun c_9 => ?_) (fun c_9 => ?_)
    · have hF := hF.trans (if_pos c_9)
      refine lv_iload_n hx hb d_gn_castlingOf_41 rfl (lv_at hl 0 rfl) ?_
      refine lv_bipush (v := -2) hx hb d_gn_castlingOf_42 (by decide) ?_
      refine lv_icmp_gt (tgt := 51) hx hb d_gn_castlingOf_44 (by decide) (fun c_10 => ?_) (fun c_10 => ?_)
      · have hF := hF.trans (if_pos c_10)
        refine lv_iconst (v := 0) hx hb d_gn_castlingOf_51 (by decide) ?_
        exact W.iret (v := (0 : Int32)) hx hb hr (fun t ht hW => ⟨_, rfl, ⟨hF, trivial⟩, ht⟩) hS.2.2 d_gn_castlingOf_52
      · have hF := hF.trans (if_neg c_10)
        refine lv_iconst (v := -1) hx hb d_gn_castlingOf_47 (by decide) ?_
        refine lv_goto (tgt := 52) hx hb d_gn_castlingOf_48 (by decide) ?_
        exact W.iret (v := (-1 : Int32)) hx hb hr (fun t ht hW => ⟨_, rfl, ⟨hF, trivial⟩, ht⟩) hS.2.2 d_gn_castlingOf_52
    · have hF := hF.trans (if_neg c_9)
      refine lv_iconst (v := 1) hx hb d_gn_castlingOf_39 (by decide) ?_
      exact W.iret (v := (1 : Int32)) hx hb hr (fun t ht hW => ⟨_, rfl, ⟨hF, trivial⟩, ht⟩) hS.2.2 d_gn_castlingOf_40
  · have hF := hF.trans (if_neg c_4)
    refine lv_iconst (v := 0) hx hb d_gn_castlingOf_16 (by decide) ?_
    exact W.iret (v := (0 : Int32)) hx hb hr (fun t ht hW => ⟨_, rfl, ⟨hF, trivial⟩, ht⟩) hS.2.2 d_gn_castlingOf_17
