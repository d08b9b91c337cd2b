def f_md_howMany_L4 (M_newBoard : (Nat → Int32)) (mn : Int32) : Nat → Int32 → Int32 → Int32
  | 0, _, _ => 0
  | n + 1, v2, v3 => (if (64 : Int32) ≤ v3 then v2 else (if (M_newBoard v3.toNatClampNeg) = mn then (f_md_howMany_L4 M_newBoard mn  n (v2 + (1 : Int32)) (v3 + (1 : Int32))) else (f_md_howMany_L4 M_newBoard mn  n (v2 + (0 : Int32)) (v3 + (1 : Int32)))))
def f_md_howMany (M_newBoard : (Nat → Int32)) (mn : Int32) : Int32 := (f_md_howMany_L4 M_newBoard mn  65 (0 : Int32) (0 : Int32))
set_option maxHeartbeats 4000000 in
set_option maxRecDepth 100000 in
theorem c_md_howMany (l : Launch) (K : KT) (Mh Ma0 Ma1 Ma2 Ma3 Ma4 Ma5 : Nat) (M_board : (Nat → Int32)) (M_text : (Nat → Int32)) (M_moves : (Nat → Int32)) (M_signs : (Nat → Int32)) (M_newBoard : (Nat → Int32)) (M_out : (Nat → Int32)) (M_thrown : Int32) (M_side : Int32) (M_rights : Int32) (M_passant : Int32) (M_clock : Int32) (M_number : Int32) (M_size : Int32) (M_told : Int32) (M_at : Int32) (M_newSide : Int32) (M_newRights : Int32) (M_newPassant : Int32) (M_newClock : Int32) (M_newNumber : Int32) (M_outs : Int32) (mn : Int32) : Met l y_md_howMany w_md_howMany ({ frames := 0, cells := 0, slots := 0, locals := 0 } : Room) (va_Pc [.ref Mh, .int mn] (fun U => pRO K [(Mh, .inr (6, [.int M_thrown, .ref Ma0, .int M_side, .int M_rights, .int M_passant, .int M_clock, .int M_number, .ref Ma1, .int M_size, .int M_told, .ref Ma2, .ref Ma3, .int M_at, .ref Ma4, .int M_newSide, .int M_newRights, .int M_newPassant, .int M_newClock, .int M_newNumber, .ref Ma5, .int M_outs])), (Ma0, .inl ((kI K), 64, .inl M_board)), (Ma1, .inl ((kI K), 100, .inl M_text)), (Ma2, .inl ((kI K), 330, .inl M_moves)), (Ma3, .inl ((kI K), 330, .inl M_signs)), (Ma4, .inl ((kI K), 64, .inl M_newBoard)), (Ma5, .inl ((kI K), 16, .inl M_out))] U ∧ True)) (vp_Si (fun r => f_md_howMany M_newBoard mn = r ∧ True)) 0 0 (fun _ => False) := by
  refine Met.ofW (cc := b_md_howMany) (maxL := 4) (ret := (some .int)) (by decide) rfl ?_
  intro p e s m args below meth c s₁ B hml hv
  obtain ⟨rfl, ⟨hP, hK, hG⟩, -⟩ := hv
  have hx := B.exec
  have hb := B.bytes
  have hr := B.returns
  have hts := atoms_spec (ws := w_md_howMany) B.pre
  have hown : s.vm.findClass R_md = some m.cls := findClass_of_methodNamed B.named
  have hlocks := B.notSynchronized
  have htg := fun w h => hts w (List.mem_cons_of_mem _ h)
  have hS : va_S (fun _ => False) s.heap s.heap [] := va_S.rf
  have hl := lv_entry ([.ref Mh, .int mn]) (n := 4) (Nat.le_of_ble_eq_true rfl)
  rw [lg_entry_eq]
  generalize (lg_sl ([.ref Mh, .int mn]) ++ List.replicate (4 - (lg_sl ([.ref Mh, .int mn])).length) Slot.unset).toArray = ls at hl ⊢
  have hl : lv_has ls 4 [(0, .ref Mh), (1, .int mn)] := hl
  have z0 : (0 : Int32).toInt = 0 := by decide
  have z1 : (1 : Int32).toInt = 1 := by decide
  have zm1 : (-1 : Int32).toInt = -1 := by decide
  have z2 : (2 : Int32).toInt = 2 := by decide
  have z3 : (3 : Int32).toInt = 3 := by decide
  have z7 : (7 : Int32).toInt = 7 := by decide
  have z8 : (8 : Int32).toInt = 8 := by decide
  have z16 : (16 : Int32).toInt = 16 := by decide
  have z64 : (64 : Int32).toInt = 64 := by decide
  have z100 : (100 : Int32).toInt = 100 := by decide
  have z330 : (330 : Int32).toInt = 330 := by decide
  have hF := f_md_howMany.eq_1 M_newBoard mn
  refine lv_iconst (v := 0) hx hb d_md_howMany_0 (by decide) ?_
  refine lv_istore_n (lv' := [(2, .int (0 : Int32)), (0, .ref Mh), (1, .int mn)]) hx hb d_md_howMany_1 rfl hl (by decide) rfl (fun ls hl => ?_)
  refine lv_iconst (v := 0) hx hb d_md_howMany_2 (by decide) ?_
  refine lv_istore_n (lv' := [(3, .int (0 : Int32)), (2, .int (0 : Int32)), (0, .ref Mh), (1, .int mn)]) hx hb d_md_howMany_3 rfl hl (by decide) rfl (fun ls hl => ?_)
  have loop4 : ∀ (n4 : Nat) (v2 : Int32) (v3 : Int32) (ls : Array Slot), 0 ≤ v3.toInt → ((64 : Int) - v3.toInt).toNat < n4 → lv_has ls 4 [(0, .ref Mh), (1, .int mn), (2, .int v2), (3, .int v3)] → f_md_howMany M_newBoard mn = f_md_howMany_L4 M_newBoard mn  n4 v2 v3 → W p l e (headSpec w_md_howMany ({ frames := 0, cells := 0, slots := 0, locals := 0 } : Room)).room s m ([(.ref Mh : Value), .int mn].toArray) below meth c s.heap [] 0 0 (MQ below (vp_Si (fun r => f_md_howMany M_newBoard mn = r ∧ True)) ([(.ref Mh : Value), .int mn].toArray) s 0 0 ((fun _ => False))) (F0 m 4 ls []) := by
    intro n4
    induction n4 with
    | zero =>
      intro _ _ _ _ hz
      exact absurd hz (Nat.not_lt_zero _)
    | succ n4 ih4 =>
      intro v2 v3 ls i0 hm hl hF
      rw [f_md_howMany_L4] at hF
      refine lv_iload_n hx hb d_md_howMany_4 rfl (lv_at hl 3 rfl) ?_
      refine lv_bipush (v := 64) hx hb d_md_howMany_5 (by decide) ?_
      refine lv_icmp_ge (tgt := 34) hx hb d_md_howMany_7 (by decide) (fun c_1 => ?_) (fun c_1 => ?_)
      · have hF := hF.trans (if_pos c_1)
        refine lv_iload_n hx hb d_md_howMany_34 rfl (lv_at hl 2 rfl) ?_
        exact W.iret (v := v2) hx hb hr (fun t ht hW => ⟨_, rfl, ⟨hF, trivial⟩, ht⟩) hS.2.2 d_md_howMany_35
      · have hF := hF.trans (if_neg c_1)
        refine lv_iload_n hx hb d_md_howMany_10 rfl (lv_at hl 2 rfl) ?_
        refine lv_aload_n hx hb d_md_howMany_11 rfl (lv_at hl 0 rfl) ?_
        refine va_get (D := kD K) (ci := 6) (v := .ref Ma4) (C := R_md) (T := T_md) (N := 21) hx hb htg in_md hown hK hP 0 rfl rfl 13 (by decide) (htg (.fieldLink R_md 29 "GameNotationModel" "newBoard" "[I") q_807) (fun _ h9 => h9) rfl d_md_howMany_12 ?_
        refine lv_iload_n hx hb d_md_howMany_15 rfl (lv_at hl 3 rfl) ?_
        have h_2 : vp_in v3 64 := lp_in i0 c_1 (by decide)
        refine va_iald hx hb hK hP 5 0 rfl rfl h_2 d_md_howMany_16 ?_
        refine lv_iload_n hx hb d_md_howMany_17 rfl (lv_at hl 1 rfl) ?_
        refine lv_icmp_ne (tgt := 25) hx hb d_md_howMany_18 (by decide) (fun c_3 => ?_) (fun c_3 => ?_)
        · have hF := hF.trans (if_neg c_3)
          refine lv_iconst (v := 0) hx hb d_md_howMany_25 (by decide) ?_
          refine lv_iadd hx hb d_md_howMany_26 ?_
          refine lv_istore_n (lv' := [(2, .int (v2 + (0 : Int32))), (0, .ref Mh), (1, .int mn), (3, .int v3)]) hx hb d_md_howMany_27 rfl hl (by decide) rfl (fun ls hl => ?_)
          refine lv_iinc (v := v3 + (1 : Int32)) (lv' := [(3, .int (v3 + (1 : Int32))), (2, .int (v2 + (0 : Int32))), (0, .ref Mh), (1, .int mn)]) hx hb d_md_howMany_28 hl (k := 3) rfl rfl (by decide) rfl (fun ls hl => ?_)
          refine lv_goto (tgt := 4) hx hb d_md_howMany_31 (by decide) ?_
          exact ih4  (v2 + (0 : Int32)) (v3 + (1 : Int32)) ls (lp_s i0 c_1) (lp_d i0 c_1 (by decide) hm) (lv_sub hl [2, 3, 1, 0] rfl) hF
        · have hF := hF.trans (if_pos c_3)
          refine lv_iconst (v := 1) hx hb d_md_howMany_21 (by decide) ?_
          refine lv_goto (tgt := 26) hx hb d_md_howMany_22 (by decide) ?_
          refine lv_iadd hx hb d_md_howMany_26 ?_
          refine lv_istore_n (lv' := [(2, .int (v2 + (1 : Int32))), (0, .ref Mh), (1, .int mn), (3, .int v3)]) hx hb d_md_howMany_27 rfl hl (by decide) rfl (fun ls hl => ?_)
          refine lv_iinc (v := v3 + (1 : Int32)) (lv' := [(3, .int (v3 + (1 : Int32))), (2, .int (v2 + (1 : Int32))), (0, .ref Mh), (1, .int mn)]) hx hb d_md_howMany_28 hl (k := 3) rfl rfl (by decide) rfl (fun ls hl => ?_)
          refine lv_goto (tgt := 4) hx hb d_md_howMany_31 (by decide) ?_
          exact ih4  (v2 + (1 : Int32)) (v3 + (1 : Int32)) ls (lp_s i0 c_1) (lp_d i0 c_1 (by decide) hm) (lv_sub hl [2, 3, 1, 0] rfl) hF
  exact loop4 65 (0 : Int32) (0 : Int32) ls (by decide) (by decide) (lv_sub hl [2, 3, 1, 0] rfl) hF
def f_md_kingOf_L4 (M_newBoard : (Nat → Int32)) (of_ : Int32) : Nat → Int32 → Int32 → Int32
  | 0, _, _ => 0
  | n + 1, v2, v3 => (if (64 : Int32) ≤ v3 then v2 else (if (M_newBoard v3.toNatClampNeg) = ((6 : Int32) + ((6 : Int32) * of_)) then (f_md_kingOf_L4 M_newBoard of_  n v3 (v3 + (1 : Int32))) else (f_md_kingOf_L4 M_newBoard of_  n v2 (v3 + (1 : Int32)))))
def f_md_kingOf (M_newBoard : (Nat → Int32)) (of_ : Int32) : Int32 := (f_md_kingOf_L4 M_newBoard of_  65 (0 : Int32) (0 : Int32))
set_option maxHeartbeats 4000000 in
set_option maxRecDepth 100000 in
theorem c_md_kingOf (l : Launch) (K : KT) (Mh Ma0 Ma1 Ma2 Ma3 Ma4 Ma5 : Nat) (M_board : (Nat → Int32)) (M_text : (Nat → Int32)) (M_moves : (Nat → Int32)) (M_signs : (Nat → Int32)) (M_newBoard : (Nat → Int32)) (M_out : (Nat → Int32)) (M_thrown : Int32) (M_side : Int32) (M_rights : Int32) (M_passant : Int32) (M_clock : Int32) (M_number : Int32) (M_size : Int32) (M_told : Int32) (M_at : Int32) (M_newSide : Int32) (M_newRights : Int32) (M_newPassant : Int32) (M_newClock : Int32) (M_newNumber : Int32) (M_outs : Int32) (of_ : Int32) : Met l y_md_kingOf w_md_kingOf ({ frames := 0, cells := 0, slots := 0, locals := 0 } : Room) (va_Pc [.ref Mh, .int of_] (fun U => pRO K [(Mh, .inr (6, [.int M_thrown, .ref Ma0, .int M_side, .int M_rights, .int M_passant, .int M_clock, .int M_number, .ref Ma1, .int M_size, .int M_told, .ref Ma2, .ref Ma3, .int M_at, .ref Ma4, .int M_newSide, .int M_newRights, .int M_newPassant, .int M_newClock, .int M_newNumber, .ref Ma5, .int M_outs])), (Ma0, .inl ((kI K), 64, .inl M_board)), (Ma1, .inl ((kI K), 100, .inl M_text)), (Ma2, .inl ((kI K), 330, .inl M_moves)), (Ma3, .inl ((kI K), 330, .inl M_signs)), (Ma4, .inl ((kI K), 64, .inl M_newBoard)), (Ma5, .inl ((kI K), 16, .inl M_out))] U ∧ True)) (vp_Si (fun r => f_md_kingOf M_newBoard of_ = r ∧ (0 ≤ r.toInt ∧ r.toInt < 64) ∧ True)) 0 0 (fun _ => False) := by
  refine Met.ofW (cc := b_md_kingOf) (maxL := 4) (ret := (some .int)) (by decide) rfl ?_
  intro p e s m args below meth c s₁ B hml hv
  obtain ⟨rfl, ⟨hP, hK, hG⟩, -⟩ := hv
  have hx := B.exec
  have hb := B.bytes
  have hr := B.returns
  have hts := atoms_spec (ws := w_md_kingOf) B.pre
  have hown : s.vm.findClass R_md = some m.cls := findClass_of_methodNamed B.named
  have hlocks := B.notSynchronized
  have htg := fun w h => hts w (List.mem_cons_of_mem _ h)
  have hS : va_S (fun _ => False) s.heap s.heap [] := va_S.rf
  have hl := lv_entry ([.ref Mh, .int of_]) (n := 4) (Nat.le_of_ble_eq_true rfl)
  rw [lg_entry_eq]
  generalize (lg_sl ([.ref Mh, .int of_]) ++ List.replicate (4 - (lg_sl ([.ref Mh, .int of_])).length) Slot.unset).toArray = ls at hl ⊢
  have hl : lv_has ls 4 [(0, .ref Mh), (1, .int of_)] := hl
  have z0 : (0 : Int32).toInt = 0 := by decide
  have z1 : (1 : Int32).toInt = 1 := by decide
  have zm1 : (-1 : Int32).toInt = -1 := by decide
  have z2 : (2 : Int32).toInt = 2 := by decide
  have z3 : (3 : Int32).toInt = 3 := by decide
  have z7 : (7 : Int32).toInt = 7 := by decide
  have z8 : (8 : Int32).toInt = 8 := by decide
  have z16 : (16 : Int32).toInt = 16 := by decide
  have z64 : (64 : Int32).toInt = 64 := by decide
  have z100 : (100 : Int32).toInt = 100 := by decide
  have z330 : (330 : Int32).toInt = 330 := by decide
  have hF := f_md_kingOf.eq_1 M_newBoard of_
  refine lv_iconst (v := 0) hx hb d_md_kingOf_0 (by decide) ?_
  refine lv_istore_n (lv' := [(2, .int (0 : Int32)), (0, .ref Mh), (1, .int of_)]) hx hb d_md_kingOf_1 rfl hl (by decide) rfl (fun ls hl => ?_)
  refine lv_iconst (v := 0) hx hb d_md_kingOf_2 (by decide) ?_
  refine lv_istore_n (lv' := [(3, .int (0 : Int32)), (2, .int (0 : Int32)), (0, .ref Mh), (1, .int of_)]) hx hb d_md_kingOf_3 rfl hl (by decide) rfl (fun ls hl => ?_)
  have loop4 : ∀ (n4 : Nat) (v2 : Int32) (v3 : Int32) (ls : Array Slot), 0 ≤ v3.toInt → 0 ≤ v2.toInt ∧ v2.toInt < 64 → ((64 : Int) - v3.toInt).toNat < n4 → lv_has ls 4 [(0, .ref Mh), (1, .int of_), (2, .int v2), (3, .int v3)] → f_md_kingOf M_newBoard of_ = f_md_kingOf_L4 M_newBoard of_  n4 v2 v3 → W p l e (headSpec w_md_kingOf ({ frames := 0, cells := 0, slots := 0, locals := 0 } : Room)).room s m ([(.ref Mh : Value), .int of_].toArray) below meth c s.heap [] 0 0 (MQ below (vp_Si (fun r => f_md_kingOf M_newBoard of_ = r ∧ (0 ≤ r.toInt ∧ r.toInt < 64) ∧ True)) ([(.ref Mh : Value), .int of_].toArray) s 0 0 ((fun _ => False))) (F0 m 4 ls []) := by
    intro n4
    induction n4 with
    | zero =>
      intro _ _ _ _ _ hz
      exact absurd hz (Nat.not_lt_zero _)
    | succ n4 ih4 =>
      intro v2 v3 ls i0 i1 hm hl hF
      rw [f_md_kingOf_L4] at hF
      refine lv_iload_n hx hb d_md_kingOf_4 rfl (lv_at hl 3 rfl) ?_
      refine lv_bipush (v := 64) hx hb d_md_kingOf_5 (by decide) ?_
      refine lv_icmp_ge (tgt := 38) hx hb d_md_kingOf_7 (by decide) (fun c_1 => ?_) (fun c_1 => ?_)
      · have hF := hF.trans (if_pos c_1)
        refine lv_iload_n hx hb d_md_kingOf_38 rfl (lv_at hl 2 rfl) ?_
        exact W.iret (v := v2) hx hb hr (fun t ht hW => ⟨_, rfl, ⟨hF, (by assumption), trivial⟩, ht⟩) hS.2.2 d_md_kingOf_39
      · have hF := hF.trans (if_neg c_1)
        refine lv_aload_n hx hb d_md_kingOf_10 rfl (lv_at hl 0 rfl) ?_
        refine va_get (D := kD K) (ci := 6) (v := .ref Ma4) (C := R_md) (T := T_md) (N := 21) hx hb htg in_md hown hK hP 0 rfl rfl 13 (by decide) (htg (.fieldLink R_md 29 "GameNotationModel" "newBoard" "[I") q_807) (fun _ h9 => h9) rfl d_md_kingOf_11 ?_
        refine lv_iload_n hx hb d_md_kingOf_14 rfl (lv_at hl 3 rfl) ?_
        have h_2 : vp_in v3 64 := lp_in i0 c_1 (by decide)
        refine va_iald hx hb hK hP 5 0 rfl rfl h_2 d_md_kingOf_15 ?_
        refine lv_bipush (v := 6) hx hb d_md_kingOf_16 (by decide) ?_
        refine lv_bipush (v := 6) hx hb d_md_kingOf_18 (by decide) ?_
        refine lv_iload_n hx hb d_md_kingOf_20 rfl (lv_at hl 1 rfl) ?_
        refine lv_imul hx hb d_md_kingOf_21 ?_
        refine lv_iadd hx hb d_md_kingOf_22 ?_
        refine lv_icmp_ne (tgt := 30) hx hb d_md_kingOf_23 (by decide) (fun c_3 => ?_) (fun c_3 => ?_)
        · have hF := hF.trans (if_neg c_3)
          refine lv_iload_n hx hb d_md_kingOf_30 rfl (lv_at hl 2 rfl) ?_
          refine lv_istore_n (lv' := [(2, .int v2), (0, .ref Mh), (1, .int of_), (3, .int v3)]) hx hb d_md_kingOf_31 rfl hl (by decide) rfl (fun ls hl => ?_)
          refine lv_iinc (v := v3 + (1 : Int32)) (lv' := [(3, .int (v3 + (1 : Int32))), (2, .int v2), (0, .ref Mh), (1, .int of_)]) hx hb d_md_kingOf_32 hl (k := 3) rfl rfl (by decide) rfl (fun ls hl => ?_)
          refine lv_goto (tgt := 4) hx hb d_md_kingOf_35 (by decide) ?_
          exact ih4  v2 (v3 + (1 : Int32)) ls (lp_s i0 c_1) (by first | exact i1 | exact ko_s i0 c_1) (lp_d i0 c_1 (by decide) hm) (lv_sub hl [2, 3, 1, 0] rfl) hF
        · have hF := hF.trans (if_pos c_3)
          refine lv_iload_n hx hb d_md_kingOf_26 rfl (lv_at hl 3 rfl) ?_
          refine lv_goto (tgt := 31) hx hb d_md_kingOf_27 (by decide) ?_
          refine lv_istore_n (lv' := [(2, .int v3), (0, .ref Mh), (1, .int of_), (3, .int v3)]) hx hb d_md_kingOf_31 rfl hl (by decide) rfl (fun ls hl => ?_)
          refine lv_iinc (v := v3 + (1 : Int32)) (lv' := [(3, .int (v3 + (1 : Int32))), (2, .int v3), (0, .ref Mh), (1, .int of_)]) hx hb d_md_kingOf_32 hl (k := 3) rfl rfl (by decide) rfl (fun ls hl => ?_)
          refine lv_goto (tgt := 4) hx hb d_md_kingOf_35 (by decide) ?_
          exact ih4  v3 (v3 + (1 : Int32)) ls (lp_s i0 c_1) (by first | exact i1 | exact ko_s i0 c_1) (lp_d i0 c_1 (by decide) hm) (lv_sub hl [2, 3, 1, 0] rfl) hF
  exact loop4 65 (0 : Int32) (0 : Int32) ls (by decide) (by decide) (by decide) (lv_sub hl [2, 3, 1, 0] rfl) hF
def f_md_rightsFit_C81 (M_newRights : Int32) (k4 : Int32 → Int32 → Int32) (v1 : Int32) (v2 : Int32) (t0 : Int32)  : Int32 := (if v1 = 0 then (k4 (0 : Int32) (v2 + (1 : Int32))) else (if t0 = 0 then (if ((M_newRights >>> (v2 &&& 31)) &&& (1 : Int32)) = 0 then (k4 (1 : Int32) (v2 + (1 : Int32))) else (k4 (0 : Int32) (v2 + (1 : Int32)))) else (k4 (1 : Int32) (v2 + (1 : Int32)))))
def f_md_rightsFit_L4 (M_newBoard : (Nat → Int32)) (M_newRights : Int32) : Nat → Int32 → Int32 → Int32
  | 0, _, _ => 0
  | n + 1, v1, v2 => (if (4 : Int32) ≤ v2 then v1 else (if (2 : Int32) ≤ v2 then (if (M_newBoard ((56 : Int32) + (4 : Int32)).toNatClampNeg) = ((6 : Int32) + (6 : Int32)) then (if (v2 - v2 / (2 : Int32) * (2 : Int32)) = 0 then (if (M_newBoard ((56 : Int32) + (7 : Int32)).toNatClampNeg) = ((4 : Int32) + (6 : Int32)) then (f_md_rightsFit_C81 M_newRights (fun a0 a1 => (f_md_rightsFit_L4 M_newBoard M_newRights  n a0 a1)) v1 v2 (1 : Int32)) else (f_md_rightsFit_C81 M_newRights (fun a0 a1 => (f_md_rightsFit_L4 M_newBoard M_newRights  n a0 a1)) v1 v2 (0 : Int32))) else (if (M_newBoard (56 : Int32).toNatClampNeg) = ((4 : Int32) + (6 : Int32)) then (f_md_rightsFit_C81 M_newRights (fun a0 a1 => (f_md_rightsFit_L4 M_newBoard M_newRights  n a0 a1)) v1 v2 (1 : Int32)) else (f_md_rightsFit_C81 M_newRights (fun a0 a1 => (f_md_rightsFit_L4 M_newBoard M_newRights  n a0 a1)) v1 v2 (0 : Int32)))) else (f_md_rightsFit_C81 M_newRights (fun a0 a1 => (f_md_rightsFit_L4 M_newBoard M_newRights  n a0 a1)) v1 v2 (0 : Int32))) else (if (M_newBoard ((0 : Int32) + (4 : Int32)).toNatClampNeg) = ((6 : Int32) + (0 : Int32)) then (if (v2 - v2 / (2 : Int32) * (2 : Int32)) = 0 then (if (M_newBoard ((0 : Int32) + (7 : Int32)).toNatClampNeg) = ((4 : Int32) + (0 : Int32)) then (f_md_rightsFit_C81 M_newRights (fun a0 a1 => (f_md_rightsFit_L4 M_newBoard M_newRights  n a0 a1)) v1 v2 (1 : Int32)) else (f_md_rightsFit_C81 M_newRights (fun a0 a1 => (f_md_rightsFit_L4 M_newBoard M_newRights  n a0 a1)) v1 v2 (0 : Int32))) else (if (M_newBoard (0 : Int32).toNatClampNeg) = ((4 : Int32) + (0 : Int32)) then (f_md_rightsFit_C81 M_newRights (fun a0 a1 => (f_md_rightsFit_L4 M_newBoard M_newRights  n a0 a1)) v1 v2 (1 : Int32)) else (f_md_rightsFit_C81 M_newRights (fun a0 a1 => (f_md_rightsFit_L4 M_newBoard M_newRights  n a0 a1)) v1 v2 (0 : Int32)))) else (f_md_rightsFit_C81 M_newRights (fun a0 a1 => (f_md_rightsFit_L4 M_newBoard M_newRights  n a0 a1)) v1 v2 (0 : Int32)))))
def f_md_rightsFit (M_newBoard : (Nat → Int32)) (M_newRights : Int32) : Int32 := (f_md_rightsFit_L4 M_newBoard M_newRights  5 (1 : Int32) (0 : Int32))
set_option maxHeartbeats 4000000 in
set_option maxRecDepth 100000 in
theorem c_md_rightsFit (l : Launch) (K : KT) (Mh Ma0 Ma1 Ma2 Ma3 Ma4 Ma5 : Nat) (M_board : (Nat → Int32)) (M_text : (Nat → Int32)) (M_moves : (Nat → Int32)) (M_signs : (Nat → Int32)) (M_newBoard : (Nat → Int32)) (M_out : (Nat → Int32)) (M_thrown : Int32) (M_side : Int32) (M_rights : Int32) (M_passant : Int32) (M_clock : Int32) (M_number : Int32) (M_size : Int32) (M_told : Int32) (M_at : Int32) (M_newSide : Int32) (M_newRights : Int32) (M_newPassant : Int32) (M_newClock : Int32) (M_newNumber : Int32) (M_outs : Int32) : Met l y_md_rightsFit w_md_rightsFit ({ frames := 0, cells := 0, slots := 0, locals := 0 } : Room) (va_Pc [.ref Mh] (fun U => pRO K [(Mh, .inr (6, [.int M_thrown, .ref Ma0, .int M_side, .int M_rights, .int M_passant, .int M_clock, .int M_number, .ref Ma1, .int M_size, .int M_told, .ref Ma2, .ref Ma3, .int M_at, .ref Ma4, .int M_newSide, .int M_newRights, .int M_newPassant, .int M_newClock, .int M_newNumber, .ref Ma5, .int M_outs])), (Ma0, .inl ((kI K), 64, .inl M_board)), (Ma1, .inl ((kI K), 100, .inl M_text)), (Ma2, .inl ((kI K), 330, .inl M_moves)), (Ma3, .inl ((kI K), 330, .inl M_signs)), (Ma4, .inl ((kI K), 64, .inl M_newBoard)), (Ma5, .inl ((kI K), 16, .inl M_out))] U ∧ True)) (vp_Si (fun r => f_md_rightsFit M_newBoard M_newRights = r ∧ narrow .boolean (.int r) = .int r)) 0 0 (fun _ => False) := by
  refine Met.ofW (cc := b_md_rightsFit) (maxL := 6) (ret := (some .boolean)) (by decide) rfl ?_
  intro p e s m args below meth c s₁ B hml hv
  obtain ⟨rfl, ⟨hP, hK, hG⟩, -⟩ := hv
  have hx := B.exec
  have hb := B.bytes
  have hr := B.returns
  have hts := atoms_spec (ws := w_md_rightsFit) B.pre
  have hown : s.vm.findClass R_md = some m.cls := findClass_of_methodNamed B.named
  have hlocks := B.notSynchronized
  have htg := fun w h => hts w (List.mem_cons_of_mem _ h)
  have hS : va_S (fun _ => False) s.heap s.heap [] := va_S.rf
  have hl := lv_entry ([.ref Mh]) (n := 6) (Nat.le_of_ble_eq_true rfl)
  rw [lg_entry_eq]
  generalize (lg_sl ([.ref Mh]) ++ List.replicate (6 - (lg_sl ([.ref Mh])).length) Slot.unset).toArray = ls at hl ⊢
  have hl : lv_has ls 6 [(0, .ref Mh)] := hl
  have z0 : (0 : Int32).toInt = 0 := by decide
  have z1 : (1 : Int32).toInt = 1 := by decide
  have zm1 : (-1 : Int32).toInt = -1 := by decide
  have z2 : (2 : Int32).toInt = 2 := by decide
  have z3 : (3 : Int32).toInt = 3 := by decide
  have z7 : (7 : Int32).toInt = 7 := by decide
  have z8 : (8 : Int32).toInt = 8 := by decide
  have z16 : (16 : Int32).toInt = 16 := by decide
  have z64 : (64 : Int32).toInt = 64 := by decide
  have z100 : (100 : Int32).toInt = 100 := by decide
  have z330 : (330 : Int32).toInt = 330 := by decide
  have hF := f_md_rightsFit.eq_1 M_newBoard M_newRights
  refine lv_iconst (v := 1) hx hb d_md_rightsFit_0 (by decide) ?_
  refine lv_istore_n (lv' := [(1, .int (1 : Int32)), (0, .ref Mh)]) hx hb d_md_rightsFit_1 rfl hl (by decide) rfl (fun ls hl => ?_)
  refine lv_iconst (v := 0) hx hb d_md_rightsFit_2 (by decide) ?_
  refine lv_istore_n (lv' := [(2, .int (0 : Int32)), (1, .int (1 : Int32)), (0, .ref Mh)]) hx hb d_md_rightsFit_3 rfl hl (by decide) rfl (fun ls hl => ?_)
  have loop4 : ∀ (n4 : Nat) (v1 : Int32) (v2 : Int32) (ls : Array Slot), 0 ≤ v2.toInt → narrow .boolean (.int v1) = .int v1 → ((4 : Int) - v2.toInt).toNat < n4 → lv_has ls 6 [(0, .ref Mh), (1, .int v1), (2, .int v2)] → f_md_rightsFit M_newBoard M_newRights = f_md_rightsFit_L4 M_newBoard M_newRights  n4 v1 v2 → W p l e (headSpec w_md_rightsFit ({ frames := 0, cells := 0, slots := 0, locals := 0 } : Room)).room s m ([(.ref Mh : Value)].toArray) below meth c s.heap [] 0 0 (MQ below (vp_Si (fun r => f_md_rightsFit M_newBoard M_newRights = r ∧ narrow .boolean (.int r) = .int r)) ([(.ref Mh : Value)].toArray) s 0 0 ((fun _ => False))) (F0 m 4 ls []) := by
    intro n4
    induction n4 with
    | zero =>
      intro _ _ _ _ _ hz
      exact absurd hz (Nat.not_lt_zero _)
    | succ n4 ih4 =>
      intro v1 v2 ls i0 nb hm hl hF
      rw [f_md_rightsFit_L4] at hF
      refine lv_iload_n hx hb d_md_rightsFit_4 rfl (lv_at hl 2 rfl) ?_
      refine lv_iconst (v := 4) hx hb d_md_rightsFit_5 (by decide) ?_
      refine lv_icmp_ge (tgt := 115) hx hb d_md_rightsFit_6 (by decide) (fun c_1 => ?_) (fun c_1 => ?_)
      · have hF := hF.trans (if_pos c_1)
        refine lv_iload_n hx hb d_md_rightsFit_115 rfl (lv_at hl 1 rfl) ?_
        exact W.zret (v := v1) hx hb hr (nb) (fun t ht hW => ⟨_, rfl, ⟨hF, nb⟩, ht⟩) hS.2.2 d_md_rightsFit_116
      · have hF := hF.trans (if_neg c_1)
        refine lv_iload_n hx hb d_md_rightsFit_9 rfl (lv_at hl 2 rfl) ?_
        refine lv_iconst (v := 2) hx hb d_md_rightsFit_10 (by decide) ?_
        refine lv_icmp_ge (tgt := 18) hx hb d_md_rightsFit_11 (by decide) (fun c_2 => ?_) (fun c_2 => ?_)
        · have hF := hF.trans (if_pos c_2)
          refine lv_bipush (v := 56) hx hb d_md_rightsFit_18 (by decide) ?_
          refine lv_istore_n (lv' := [(3, .int (56 : Int32)), (0, .ref Mh), (1, .int v1), (2, .int v2)]) hx hb d_md_rightsFit_20 rfl hl (by decide) rfl (fun ls hl => ?_)
          refine lv_iload_n hx hb d_md_rightsFit_21 rfl (lv_at hl 3 rfl) ?_
          refine lv_iconst (v := 2) hx hb d_md_rightsFit_22 (by decide) ?_
          refine lv_icmp_ge (tgt := 30) hx hb d_md_rightsFit_23 (by decide) (fun _ => ?_) (fun c => absurd c_2 c)
          refine lv_bipush (v := 6) hx hb d_md_rightsFit_30 (by decide) ?_
          refine lv_istore (lv' := [(4, .int (6 : Int32)), (3, .int (56 : Int32)), (0, .ref Mh), (1, .int v1), (2, .int v2)]) hx hb d_md_rightsFit_32 hl (by decide) rfl (fun ls hl => ?_)
          refine lv_aload_n hx hb d_md_rightsFit_34 rfl (lv_at hl 2 rfl) ?_
          refine va_get (D := kD K) (ci := 6) (v := .ref Ma4) (C := R_md) (T := T_md) (N := 21) hx hb htg in_md hown hK hP 0 rfl rfl 13 (by decide) (htg (.fieldLink R_md 29 "GameNotationModel" "newBoard" "[I") q_807) (fun _ h9 => h9) rfl d_md_rightsFit_35 ?_
          refine lv_iload_n hx hb d_md_rightsFit_38 rfl (lv_at hl 1 rfl) ?_
          refine lv_iconst (v := 4) hx hb d_md_rightsFit_39 (by decide) ?_
          refine lv_iadd hx hb d_md_rightsFit_40 ?_
          have h_3 : vp_in ((56 : Int32) + (4 : Int32)) 64 := vp_in_iff.mpr (by decide)
          refine va_iald hx hb hK hP 5 0 rfl rfl h_3 d_md_rightsFit_41 ?_
          refine lv_bipush (v := 6) hx hb d_md_rightsFit_42 (by decide) ?_
          refine lv_iload hx hb d_md_rightsFit_44 (lv_at hl 0 rfl) ?_
          refine lv_iadd hx hb d_md_rightsFit_46 ?_
          have cut81 : ∀ (v1 : Int32) (v2 : Int32) (t0 : Int32) (ls : Array Slot), 0 ≤ v2.toInt → ¬ (4 : Int32) ≤ v2 → ((4 : Int) - v2.toInt).toNat < n4 + 1 → lv_has ls 6 [(0, .ref Mh), (1, .int v1), (2, .int v2)] → f_md_rightsFit M_newBoard M_newRights = f_md_rightsFit_C81 M_newRights (fun a0 a1 => (f_md_rightsFit_L4 M_newBoard M_newRights  n4 a0 a1)) v1 v2 t0 → W p l e (headSpec w_md_rightsFit ({ frames := 0, cells := 0, slots := 0, locals := 0 } : Room)).room s m ([(.ref Mh : Value)].toArray) below meth c s.heap [] 0 0 (MQ below (vp_Si (fun r => f_md_rightsFit M_newBoard M_newRights = r ∧ narrow .boolean (.int r) = .int r)) ([(.ref Mh : Value)].toArray) s 0 0 ((fun _ => False))) (F0 m 81 ls [.int t0]) := by
            intro v1 v2 t0 ls i0 j1 hm hl hF
            rw [f_md_rightsFit_C81] at hF
            refine lv_istore (lv' := [(5, .int t0), (0, .ref Mh), (1, .int v1), (2, .int v2)]) hx hb d_md_rightsFit_81 hl (by decide) rfl (fun ls hl => ?_)
            refine lv_iload_n hx hb d_md_rightsFit_83 rfl (lv_at hl 2 rfl) ?_
            refine lv_if_eq (tgt := 107) hx hb d_md_rightsFit_84 (by decide) (fun c_4 => ?_) (fun c_4 => ?_)
            · have hF := hF.trans (if_pos c_4)
              refine lv_iconst (v := 0) hx hb d_md_rightsFit_107 (by decide) ?_
              refine lv_istore_n (lv' := [(1, .int (0 : Int32)), (5, .int t0), (0, .ref Mh), (2, .int v2)]) hx hb d_md_rightsFit_108 rfl hl (by decide) rfl (fun ls hl => ?_)
              refine lv_iinc (v := v2 + (1 : Int32)) (lv' := [(2, .int (v2 + (1 : Int32))), (1, .int (0 : Int32)), (5, .int t0), (0, .ref Mh)]) hx hb d_md_rightsFit_109 hl (k := 3) rfl rfl (by decide) rfl (fun ls hl => ?_)
              refine lv_goto (tgt := 4) hx hb d_md_rightsFit_112 (by decide) ?_
              exact ih4  (0 : Int32) (v2 + (1 : Int32)) ls (lp_s i0 j1) (rfl) (lp_d i0 j1 (by decide) hm) (lv_sub hl [3, 1, 0] rfl) hF
            · have hF := hF.trans (if_neg c_4)
              refine lv_iload hx hb d_md_rightsFit_87 (lv_at hl 0 rfl) ?_
              refine lv_if_ne (tgt := 103) hx hb d_md_rightsFit_89 (by decide) (fun c_5 => ?_) (fun c_5 => ?_)
              · have hF := hF.trans (if_neg c_5)
                refine lv_iconst (v := 1) hx hb d_md_rightsFit_103 (by decide) ?_
                refine lv_goto (tgt := 108) hx hb d_md_rightsFit_104 (by decide) ?_
                refine lv_istore_n (lv' := [(1, .int (1 : Int32)), (5, .int t0), (0, .ref Mh), (2, .int v2)]) hx hb d_md_rightsFit_108 rfl hl (by decide) rfl (fun ls hl => ?_)
                refine lv_iinc (v := v2 + (1 : Int32)) (lv' := [(2, .int (v2 + (1 : Int32))), (1, .int (1 : Int32)), (5, .int t0), (0, .ref Mh)]) hx hb d_md_rightsFit_109 hl (k := 3) rfl rfl (by decide) rfl (fun ls hl => ?_)
                refine lv_goto (tgt := 4) hx hb d_md_rightsFit_112 (by decide) ?_
                exact ih4  (1 : Int32) (v2 + (1 : Int32)) ls (lp_s i0 j1) (rfl) (lp_d i0 j1 (by decide) hm) (lv_sub hl [3, 1, 0] rfl) hF
              · have hF := hF.trans (if_pos c_5)
                refine lv_aload_n hx hb d_md_rightsFit_92 rfl (lv_at hl 1 rfl) ?_
                refine va_get (D := kD K) (ci := 6) (v := .int M_newRights) (C := R_md) (T := T_md) (N := 21) hx hb htg in_md hown hK hP 0 rfl rfl 15 (by decide) (htg (.fieldLink R_md 61 "GameNotationModel" "newRights" "I") q_809) (fun _ h9 => h9) rfl d_md_rightsFit_93 ?_
                refine lv_iload_n hx hb d_md_rightsFit_96 rfl (lv_at hl 3 rfl) ?_
                refine lv_ishr hx hb d_md_rightsFit_97 ?_
                refine lv_iconst (v := 1) hx hb d_md_rightsFit_98 (by decide) ?_
                refine lv_iand hx hb d_md_rightsFit_99 ?_
                refine lv_if_ne (tgt := 107) hx hb d_md_rightsFit_100 (by decide) (fun c_6 => ?_) (fun c_6 => ?_)
                · have hF := hF.trans (if_neg c_6)
                  refine lv_iconst (v := 0) hx hb d_md_rightsFit_107 (by decide) ?_
                  refine lv_istore_n (lv' := [(1, .int (0 : Int32)), (5, .int t0), (0, .ref Mh), (2, .int v2)]) hx hb d_md_rightsFit_108 rfl hl (by decide) rfl (fun ls hl => ?_)
                  refine lv_iinc (v := v2 + (1 : Int32)) (lv' := [(2, .int (v2 + (1 : Int32))), (1, .int (0 : Int32)), (5, .int t0), (0, .ref Mh)]) hx hb d_md_rightsFit_109 hl (k := 3) rfl rfl (by decide) rfl (fun ls hl => ?_)
                  refine lv_goto (tgt := 4) hx hb d_md_rightsFit_112 (by decide) ?_
                  exact ih4  (0 : Int32) (v2 + (1 : Int32)) ls (lp_s i0 j1) (rfl) (lp_d i0 j1 (by decide) hm) (lv_sub hl [3, 1, 0] rfl) hF
                · have hF := hF.trans (if_pos c_6)
                  refine lv_iconst (v := 1) hx hb d_md_rightsFit_103 (by decide) ?_
                  refine lv_goto (tgt := 108) hx hb d_md_rightsFit_104 (by decide) ?_
                  refine lv_istore_n (lv' := [(1, .int (1 : Int32)), (5, .int t0), (0, .ref Mh), (2, .int v2)]) hx hb d_md_rightsFit_108 rfl hl (by decide) rfl (fun ls hl => ?_)
                  refine lv_iinc (v := v2 + (1 : Int32)) (lv' := [(2, .int (v2 + (1 : Int32))), (1, .int (1 : Int32)), (5, .int t0), (0, .ref Mh)]) hx hb d_md_rightsFit_109 hl (k := 3) rfl rfl (by decide) rfl (fun ls hl => ?_)
                  refine lv_goto (tgt := 4) hx hb d_md_rightsFit_112 (by decide) ?_
                  exact ih4  (1 : Int32) (v2 + (1 : Int32)) ls (lp_s i0 j1) (rfl) (lp_d i0 j1 (by decide) hm) (lv_sub hl [3, 1, 0] rfl) hF
          refine lv_icmp_ne (tgt := 80) hx hb d_md_rightsFit_47 (by decide) (fun c_7 => ?_) (fun c_7 => ?_)
          · have hF := hF.trans (if_neg c_7)
            refine lv_iconst (v := 0) hx hb d_md_rightsFit_80 (by decide) ?_
            exact cut81 v1 v2 (0 : Int32) ls (i0) (c_1) (hm) (lv_sub hl [2, 3, 4] rfl) hF
          · have hF := hF.trans (if_pos c_7)
            refine lv_aload_n hx hb d_md_rightsFit_50 rfl (lv_at hl 2 rfl) ?_
            refine va_get (D := kD K) (ci := 6) (v := .ref Ma4) (C := R_md) (T := T_md) (N := 21) hx hb htg in_md hown hK hP 0 rfl rfl 13 (by decide) (htg (.fieldLink R_md 29 "GameNotationModel" "newBoard" "[I") q_807) (fun _ h9 => h9) rfl d_md_rightsFit_51 ?_
            refine lv_iload_n hx hb d_md_rightsFit_54 rfl (lv_at hl 4 rfl) ?_
            refine lv_iconst (v := 2) hx hb d_md_rightsFit_55 (by decide) ?_
            refine lv_irem hx hb d_md_rightsFit_56 (by decide) ?_
            refine lv_if_ne (tgt := 67) hx hb d_md_rightsFit_57 (by decide) (fun c_8 => ?_) (fun c_8 => ?_)
            · have hF := hF.trans (if_neg c_8)
              refine lv_iload_n hx hb d_md_rightsFit_67 rfl (lv_at hl 1 rfl) ?_
              have h_9 : vp_in (56 : Int32) 64 := vp_in_iff.mpr (by decide)
              refine va_iald hx hb hK hP 5 0 rfl rfl h_9 d_md_rightsFit_68 ?_
              refine lv_iconst (v := 4) hx hb d_md_rightsFit_69 (by decide) ?_
              refine lv_iload hx hb d_md_rightsFit_70 (lv_at hl 0 rfl) ?_
              refine lv_iadd hx hb d_md_rightsFit_72 ?_
              refine lv_icmp_ne (tgt := 80) hx hb d_md_rightsFit_73 (by decide) (fun c_10 => ?_) (fun c_10 => ?_)
              · have hF := hF.trans (if_neg c_10)
                refine lv_iconst (v := 0) hx hb d_md_rightsFit_80 (by decide) ?_
                exact cut81 v1 v2 (0 : Int32) ls (i0) (c_1) (hm) (lv_sub hl [2, 3, 4] rfl) hF
              · have hF := hF.trans (if_pos c_10)
                refine lv_iconst (v := 1) hx hb d_md_rightsFit_76 (by decide) ?_
                refine lv_goto (tgt := 81) hx hb d_md_rightsFit_77 (by decide) ?_
                exact cut81 v1 v2 (1 : Int32) ls (i0) (c_1) (hm) (lv_sub hl [2, 3, 4] rfl) hF
            · have hF := hF.trans (if_pos c_8)
              refine lv_iload_n hx hb d_md_rightsFit_60 rfl (lv_at hl 1 rfl) ?_
              refine lv_bipush (v := 7) hx hb d_md_rightsFit_61 (by decide) ?_
              refine lv_iadd hx hb d_md_rightsFit_63 ?_
              refine lv_goto (tgt := 68) hx hb d_md_rightsFit_64 (by decide) ?_
              have h_11 : vp_in ((56 : Int32) + (7 : Int32)) 64 := vp_in_iff.mpr (by decide)
              refine va_iald hx hb hK hP 5 0 rfl rfl h_11 d_md_rightsFit_68 ?_
              refine lv_iconst (v := 4) hx hb d_md_rightsFit_69 (by decide) ?_
              refine lv_iload hx hb d_md_rightsFit_70 (lv_at hl 0 rfl) ?_
              refine lv_iadd hx hb d_md_rightsFit_72 ?_
              refine lv_icmp_ne (tgt := 80) hx hb d_md_rightsFit_73 (by decide) (fun c_12 => ?_) (fun c_12 => ?_)
              · have hF := hF.trans (if_neg c_12)
                refine lv_iconst (v := 0) hx hb d_md_rightsFit_80 (by decide) ?_
                exact cut81 v1 v2 (0 : Int32) ls (i0) (c_1) (hm) (lv_sub hl [2, 3, 4] rfl) hF
              · have hF := hF.trans (if_pos c_12)
                refine lv_iconst (v := 1) hx hb d_md_rightsFit_76 (by decide) ?_
                refine lv_goto (tgt := 81) hx hb d_md_rightsFit_77 (by decide) ?_
                exact cut81 v1 v2 (1 : Int32) ls (i0) (c_1) (hm) (lv_sub hl [2, 3, 4] rfl) hF
        · have hF := hF.trans (if_neg c_2)
          refine lv_iconst (v := 0) hx hb d_md_rightsFit_14 (by decide) ?_
          refine lv_goto (tgt := 20) hx hb d_md_rightsFit_15 (by decide) ?_
          refine lv_istore_n (lv' := [(3, .int (0 : Int32)), (0, .ref Mh), (1, .int v1), (2, .int v2)]) hx hb d_md_rightsFit_20 rfl hl (by decide) rfl (fun ls hl => ?_)
          refine lv_iload_n hx hb d_md_rightsFit_21 rfl (lv_at hl 3 rfl) ?_
          refine lv_iconst (v := 2) hx hb d_md_rightsFit_22 (by decide) ?_
          refine lv_icmp_ge (tgt := 30) hx hb d_md_rightsFit_23 (by decide) (fun c => absurd c c_2) (fun _ => ?_)
          refine lv_iconst (v := 0) hx hb d_md_rightsFit_26 (by decide) ?_
          refine lv_goto (tgt := 32) hx hb d_md_rightsFit_27 (by decide) ?_
          refine lv_istore (lv' := [(4, .int (0 : Int32)), (3, .int (0 : Int32)), (0, .ref Mh), (1, .int v1), (2, .int v2)]) hx hb d_md_rightsFit_32 hl (by decide) rfl (fun ls hl => ?_)
          refine lv_aload_n hx hb d_md_rightsFit_34 rfl (lv_at hl 2 rfl) ?_
          refine va_get (D := kD K) (ci := 6) (v := .ref Ma4) (C := R_md) (T := T_md) (N := 21) hx hb htg in_md hown hK hP 0 rfl rfl 13 (by decide) (htg (.fieldLink R_md 29 "GameNotationModel" "newBoard" "[I") q_807) (fun _ h9 => h9) rfl d_md_rightsFit_35 ?_
          refine lv_iload_n hx hb d_md_rightsFit_38 rfl (lv_at hl 1 rfl) ?_
          refine lv_iconst (v := 4) hx hb d_md_rightsFit_39 (by decide) ?_
          refine lv_iadd hx hb d_md_rightsFit_40 ?_
          have h_13 : vp_in ((0 : Int32) + (4 : Int32)) 64 := vp_in_iff.mpr (by decide)
          refine va_iald hx hb hK hP 5 0 rfl rfl h_13 d_md_rightsFit_41 ?_
          refine lv_bipush (v := 6) hx hb d_md_rightsFit_42 (by decide) ?_
          refine lv_iload hx hb d_md_rightsFit_44 (lv_at hl 0 rfl) ?_
          refine lv_iadd hx hb d_md_rightsFit_46 ?_
          have cut81 : ∀ (v1 : Int32) (v2 : Int32) (t0 : Int32) (ls : Array Slot), 0 ≤ v2.toInt → ¬ (4 : Int32) ≤ v2 → ((4 : Int) - v2.toInt).toNat < n4 + 1 → lv_has ls 6 [(0, .ref Mh), (1, .int v1), (2, .int v2)] → f_md_rightsFit M_newBoard M_newRights = f_md_rightsFit_C81 M_newRights (fun a0 a1 => (f_md_rightsFit_L4 M_newBoard M_newRights  n4 a0 a1)) v1 v2 t0 → W p l e (headSpec w_md_rightsFit ({ frames := 0, cells := 0, slots := 0, locals := 0 } : Room)).room s m ([(.ref Mh : Value)].toArray) below meth c s.heap [] 0 0 (MQ below (vp_Si (fun r => f_md_rightsFit M_newBoard M_newRights = r ∧ narrow .boolean (.int r) = .int r)) ([(.ref Mh : Value)].toArray) s 0 0 ((fun _ => False))) (F0 m 81 ls [.int t0]) := by
            intro v1 v2 t0 ls i0 j1 hm hl hF
            rw [f_md_rightsFit_C81] at hF
            refine lv_istore (lv' := [(5, .int t0), (0, .ref Mh), (1, .int v1), (2, .int v2)]) hx hb d_md_rightsFit_81 hl (by decide) rfl (fun ls hl => ?_)
            refine lv_iload_n hx hb d_md_rightsFit_83 rfl (lv_at hl 2 rfl) ?_
            refine lv_if_eq (tgt := 107) hx hb d_md_rightsFit_84 (by decide) (fun c_14 => ?_) (fun c_14 => ?_)
            · have hF := hF.trans (if_pos c_14)
              refine lv_iconst (v := 0) hx hb d_md_rightsFit_107 (by decide) ?_
              refine lv_istore_n (lv' := [(1, .int (0 : Int32)), (5, .int t0), (0, .ref Mh), (2, .int v2)]) hx hb d_md_rightsFit_108 rfl hl (by decide) rfl (fun ls hl => ?_)
              refine lv_iinc (v := v2 + (1 : Int32)) (lv' := [(2, .int (v2 + (1 : Int32))), (1, .int (0 : Int32)), (5, .int t0), (0, .ref Mh)]) hx hb d_md_rightsFit_109 hl (k := 3) rfl rfl (by decide) rfl (fun ls hl => ?_)
              refine lv_goto (tgt := 4) hx hb d_md_rightsFit_112 (by decide) ?_
              exact ih4  (0 : Int32) (v2 + (1 : Int32)) ls (lp_s i0 j1) (rfl) (lp_d i0 j1 (by decide) hm) (lv_sub hl [3, 1, 0] rfl) hF
            · have hF := hF.trans (if_neg c_14)
              refine lv_iload hx hb d_md_rightsFit_87 (lv_at hl 0 rfl) ?_
              refine lv_if_ne (tgt := 103) hx hb d_md_rightsFit_89 (by decide) (fun c_15 => ?_) (fun c_15 => ?_)
              · have hF := hF.trans (if_neg c_15)
                refine lv_iconst (v := 1) hx hb d_md_rightsFit_103 (by decide) ?_
                refine lv_goto (tgt := 108) hx hb d_md_rightsFit_104 (by decide) ?_
                refine lv_istore_n (lv' := [(1, .int (1 : Int32)), (5, .int t0), (0, .ref Mh), (2, .int v2)]) hx hb d_md_rightsFit_108 rfl hl (by decide) rfl (fun ls hl => ?_)
                refine lv_iinc (v := v2 + (1 : Int32)) (lv' := [(2, .int (v2 + (1 : Int32))), (1, .int (1 : Int32)), (5, .int t0), (0, .ref Mh)]) hx hb d_md_rightsFit_109 hl (k := 3) rfl rfl (by decide) rfl (fun ls hl => ?_)
                refine lv_goto (tgt := 4) hx hb d_md_rightsFit_112 (by decide) ?_
                exact ih4  (1 : Int32) (v2 + (1 : Int32)) ls (lp_s i0 j1) (rfl) (lp_d i0 j1 (by decide) hm) (lv_sub hl [3, 1, 0] rfl) hF
              · have hF := hF.trans (if_pos c_15)
                refine lv_aload_n hx hb d_md_rightsFit_92 rfl (lv_at hl 1 rfl) ?_
                refine va_get (D := kD K) (ci := 6) (v := .int M_newRights) (C := R_md) (T := T_md) (N := 21) hx hb htg in_md hown hK hP 0 rfl rfl 15 (by decide) (htg (.fieldLink R_md 61 "GameNotationModel" "newRights" "I") q_809) (fun _ h9 => h9) rfl d_md_rightsFit_93 ?_
                refine lv_iload_n hx hb d_md_rightsFit_96 rfl (lv_at hl 3 rfl) ?_
                refine lv_ishr hx hb d_md_rightsFit_97 ?_
                refine lv_iconst (v := 1) hx hb d_md_rightsFit_98 (by decide) ?_
                refine lv_iand hx hb d_md_rightsFit_99 ?_
                refine lv_if_ne (tgt := 107) hx hb d_md_rightsFit_100 (by decide) (fun c_16 => ?_) (fun c_16 => ?_)
                · have hF := hF.trans (if_neg c_16)
                  refine lv_iconst (v := 0) hx hb d_md_rightsFit_107 (by decide) ?_
                  refine lv_istore_n (lv' := [(1, .int (0 : Int32)), (5, .int t0), (0, .ref Mh), (2, .int v2)]) hx hb d_md_rightsFit_108 rfl hl (by decide) rfl (fun ls hl => ?_)
                  refine lv_iinc (v := v2 + (1 : Int32)) (lv' := [(2, .int (v2 + (1 : Int32))), (1, .int (0 : Int32)), (5, .int t0), (0, .ref Mh)]) hx hb d_md_rightsFit_109 hl (k := 3) rfl rfl (by decide) rfl (fun ls hl => ?_)
                  refine lv_goto (tgt := 4) hx hb d_md_rightsFit_112 (by decide) ?_
                  exact ih4  (0 : Int32) (v2 + (1 : Int32)) ls (lp_s i0 j1) (rfl) (lp_d i0 j1 (by decide) hm) (lv_sub hl [3, 1, 0] rfl) hF
                · have hF := hF.trans (if_pos c_16)
                  refine lv_iconst (v := 1) hx hb d_md_rightsFit_103 (by decide) ?_
                  refine lv_goto (tgt := 108) hx hb d_md_rightsFit_104 (by decide) ?_
                  refine lv_istore_n (lv' := [(1, .int (1 : Int32)), (5, .int t0), (0, .ref Mh), (2, .int v2)]) hx hb d_md_rightsFit_108 rfl hl (by decide) rfl (fun ls hl => ?_)
                  refine lv_iinc (v := v2 + (1 : Int32)) (lv' := [(2, .int (v2 + (1 : Int32))), (1, .int (1 : Int32)), (5, .int t0), (0, .ref Mh)]) hx hb d_md_rightsFit_109 hl (k := 3) rfl rfl (by decide) rfl (fun ls hl => ?_)
                  refine lv_goto (tgt := 4) hx hb d_md_rightsFit_112 (by decide) ?_
                  exact ih4  (1 : Int32) (v2 + (1 : Int32)) ls (lp_s i0 j1) (rfl) (lp_d i0 j1 (by decide) hm) (lv_sub hl [3, 1, 0] rfl) hF
          refine lv_icmp_ne (tgt := 80) hx hb d_md_rightsFit_47 (by decide) (fun c_17 => ?_) (fun c_17 => ?_)
          · have hF := hF.trans (if_neg c_17)
            refine lv_iconst (v := 0) hx hb d_md_rightsFit_80 (by decide) ?_
            exact cut81 v1 v2 (0 : Int32) ls (i0) (c_1) (hm) (lv_sub hl [2, 3, 4] rfl) hF
          · have hF := hF.trans (if_pos c_17)
            refine lv_aload_n hx hb d_md_rightsFit_50 rfl (lv_at hl 2 rfl) ?_
            refine va_get (D := kD K) (ci := 6) (v := .ref Ma4) (C := R_md) (T := T_md) (N := 21) hx hb htg in_md hown hK hP 0 rfl rfl 13 (by decide) (htg (.fieldLink R_md 29 "GameNotationModel" "newBoard" "[I") q_807) (fun _ h9 => h9) rfl d_md_rightsFit_51 ?_
            refine lv_iload_n hx hb d_md_rightsFit_54 rfl (lv_at hl 4 rfl) ?_
            refine lv_iconst (v := 2) hx hb d_md_rightsFit_55 (by decide) ?_
            refine lv_irem hx hb d_md_rightsFit_56 (by decide) ?_
            refine lv_if_ne (tgt := 67) hx hb d_md_rightsFit_57 (by decide) (fun c_18 => ?_) (fun c_18 => ?_)
            · have hF := hF.trans (if_neg c_18)
              refine lv_iload_n hx hb d_md_rightsFit_67 rfl (lv_at hl 1 rfl) ?_
              have h_19 : vp_in (0 : Int32) 64 := vp_in_iff.mpr (by decide)
              refine va_iald hx hb hK hP 5 0 rfl rfl h_19 d_md_rightsFit_68 ?_
              refine lv_iconst (v := 4) hx hb d_md_rightsFit_69 (by decide) ?_
              refine lv_iload hx hb d_md_rightsFit_70 (lv_at hl 0 rfl) ?_
              refine lv_iadd hx hb d_md_rightsFit_72 ?_
              refine lv_icmp_ne (tgt := 80) hx hb d_md_rightsFit_73 (by decide) (fun c_20 => ?_) (fun c_20 => ?_)
              · have hF := hF.trans (if_neg c_20)
                refine lv_iconst (v := 0) hx hb d_md_rightsFit_80 (by decide) ?_
                exact cut81 v1 v2 (0 : Int32) ls (i0) (c_1) (hm) (lv_sub hl [2, 3, 4] rfl) hF
              · have hF := hF.trans (if_pos c_20)
                refine lv_iconst (v := 1) hx hb d_md_rightsFit_76 (by decide) ?_
                refine lv_goto (tgt := 81) hx hb d_md_rightsFit_77 (by decide) ?_
                exact cut81 v1 v2 (1 : Int32) ls (i0) (c_1) (hm) (lv_sub hl [2, 3, 4] rfl) hF
            · have hF := hF.trans (if_pos c_18)
              refine lv_iload_n hx hb d_md_rightsFit_60 rfl (lv_at hl 1 rfl) ?_
              refine lv_bipush (v := 7) hx hb d_md_rightsFit_61 (by decide) ?_
              refine lv_iadd hx hb d_md_rightsFit_63 ?_
              refine lv_goto (tgt := 68) hx hb d_md_rightsFit_64 (by decide) ?_
              have h_21 : vp_in ((0 : Int32) + (7 : Int32)) 64 := vp_in_iff.mpr (by decide)
              refine va_iald hx hb hK hP 5 0 rfl rfl h_21 d_md_rightsFit_68 ?_
              refine lv_iconst (v := 4) hx hb d_md_rightsFit_69 (by decide) ?_
              refine lv_iload hx hb d_md_rightsFit_70 (lv_at hl 0 rfl) ?_
              refine lv_iadd hx hb d_md_rightsFit_72 ?_
              refine lv_icmp_ne (tgt := 80) hx hb d_md_rightsFit_73 (by decide) (fun c_22 => ?_) (fun c_22 => ?_)
              · have hF := hF.trans (if_neg c_22)
                refine lv_iconst (v := 0) hx hb d_md_rightsFit_80 (by decide) ?_
                exact cut81 v1 v2 (0 : Int32) ls (i0) (c_1) (hm) (lv_sub hl [2, 3, 4] rfl) hF
              · have hF := hF.trans (if_pos c_22)
                refine lv_iconst (v := 1) hx hb d_md_rightsFit_76 (by decide) ?_
                refine lv_goto (tgt := 81) hx hb d_md_rightsFit_77 (by decide) ?_
                exact cut81 v1 v2 (1 : Int32) ls (i0) (c_1) (hm) (lv_sub hl [2, 3, 4] rfl) hF
  exact loop4 5 (1 : Int32) (0 : Int32) ls (by decide) (rfl) (by decide) (lv_sub hl [2, 1, 0] rfl) hF
def f_md_passantFits (M_newBoard : (Nat → Int32)) (M_newSide : Int32) (M_newPassant : Int32) (M_newClock : Int32) : Int32 := (if 0 ≤ M_newPassant then (if M_newSide = 0 then (if (M_newBoard (M_newPassant + (48 : Int32)).toNatClampNeg) = 0 then (if (M_newBoard ((M_newPassant + (48 : Int32)) + (-8 : Int32)).toNatClampNeg) = 0 then (if (M_newBoard ((M_newPassant + (48 : Int32)) + ((2 : Int32) * (-8 : Int32))).toNatClampNeg) = (7 : Int32) then (if M_newClock = 0 then (1 : Int32) else (0 : Int32)) else (0 : Int32)) else (0 : Int32)) else (0 : Int32)) else (if (M_newBoard (M_newPassant + (8 : Int32)).toNatClampNeg) = 0 then (if (M_newBoard ((M_newPassant + (8 : Int32)) + (8 : Int32)).toNatClampNeg) = 0 then (if (M_newBoard ((M_newPassant + (8 : Int32)) + ((2 : Int32) * (8 : Int32))).toNatClampNeg) = (1 : Int32) then (if M_newClock = 0 then (1 : Int32) else (0 : Int32)) else (0 : Int32)) else (0 : Int32)) else (0 : Int32))) else (1 : Int32))
set_option maxHeartbeats 4000000 in
set_option maxRecDepth 100000 in
theorem c_md_passantFits (l : Launch) (K : KT) (Mh Ma0 Ma1 Ma2 Ma3 Ma4 Ma5 : Nat) (M_board : (Nat → Int32)) (M_text : (Nat → Int32)) (M_moves : (Nat → Int32)) (M_signs : (Nat → Int32)) (M_newBoard : (Nat → Int32)) (M_out : (Nat → Int32)) (M_thrown : Int32) (M_side : Int32) (M_rights : Int32) (M_passant : Int32) (M_clock : Int32) (M_number : Int32) (M_size : Int32) (M_told : Int32) (M_at : Int32) (M_newSide : Int32) (M_newRights : Int32) (M_newPassant : Int32) (M_newClock : Int32) (M_newNumber : Int32) (M_outs : Int32) : Met l y_md_passantFits w_md_passantFits ({ frames := 0, cells := 0, slots := 0, locals := 0 } : Room) (va_Pc [.ref Mh] (fun U => pRO K [(Mh, .inr (6, [.int M_thrown, .ref Ma0, .int M_side, .int M_rights, .int M_passant, .int M_clock, .int M_number, .ref Ma1, .int M_size, .int M_told, .ref Ma2, .ref Ma3, .int M_at, .ref Ma4, .int M_newSide, .int M_newRights, .int M_newPassant, .int M_newClock, .int M_newNumber, .ref Ma5, .int M_outs])), (Ma0, .inl ((kI K), 64, .inl M_board)), (Ma1, .inl ((kI K), 100, .inl M_text)), (Ma2, .inl ((kI K), 330, .inl M_moves)), (Ma3, .inl ((kI K), 330, .inl M_signs)), (Ma4, .inl ((kI K), 64, .inl M_newBoard)), (Ma5, .inl ((kI K), 16, .inl M_out))] U ∧ M_newPassant.toInt ≤ 7 ∧ True)) (vp_Si (fun r => f_md_passantFits M_newBoard M_newSide M_newPassant M_newClock = r ∧ narrow .boolean (.int r) = .int r)) 0 0 (fun _ => False) := by
  refine Met.ofW (cc := b_md_passantFits) (maxL := 3) (ret := (some .boolean)) (by decide) rfl ?_
  intro p e s m args below meth c s₁ B hml hv
  obtain ⟨rfl, ⟨hP, hK, hG⟩, h_p, -⟩ := hv
  have hx := B.exec
  have hb := B.bytes
  have hr := B.returns
  have hts := atoms_spec (ws := w_md_passantFits) B.pre
  have hown : s.vm.findClass R_md = some m.cls := findClass_of_methodNamed B.named
  have hlocks := B.notSynchronized
  have htg := fun w h => hts w (List.mem_cons_of_mem _ h)
  have hS : va_S (fun _ => False) s.heap s.heap [] := va_S.rf
  have hl := lv_entry ([.ref Mh]) (n := 3) (Nat.le_of_ble_eq_true rfl)
  rw [lg_entry_eq]
  generalize (lg_sl ([.ref Mh]) ++ List.replicate (3 - (lg_sl ([.ref Mh])).length) Slot.unset).toArray = ls at hl ⊢
  have hl : lv_has ls 3 [(0, .ref Mh)] := hl
  have z0 : (0 : Int32).toInt = 0 := by decide
  have z1 : (1 : Int32).toInt = 1 := by decide
  have zm1 : (-1 : Int32).toInt = -1 := by decide
  have z2 : (2 : Int32).toInt = 2 := by decide
  have z3 : (3 : Int32).toInt = 3 := by decide
  have z7 : (7 : Int32).toInt = 7 := by decide
  have z8 : (8 : Int32).toInt = 8 := by decide
  have z16 : (16 : Int32).toInt = 16 := by decide
  have z64 : (64 : Int32).toInt = 64 := by decide
  have z100 : (100 : Int32).toInt = 100 := by decide
  have z330 : (330 : Int32).toInt = 330 := by decide
  have hF := f_md_passantFits.eq_1 M_newBoard M_newSide M_newPassant M_newClock
  refine lv_aload_n hx hb d_md_passantFits_0 rfl (lv_at hl 0 rfl) ?_
  refine va_get (D := kD K) (ci := 6) (v := .int M_newPassant) (C := R_md) (T := T_md) (N := 21) hx hb htg in_md hown hK hP 0 rfl rfl 16 (by decide) (htg (.fieldLink R_md 64 "GameNotationModel" "newPassant" "I") q_810) (fun _ h9 => h9) rfl d_md_passantFits_1 ?_
  refine lv_if_ge (tgt := 9) hx hb d_md_passantFits_4 (by decide) (fun c_1 => ?_) (fun c_1 => ?_)
  · have hF := hF.trans (if_pos c_1)
    refine lv_aload_n hx hb d_md_passantFits_9 rfl (lv_at hl 0 rfl) ?_
    refine va_get (D := kD K) (ci := 6) (v := .int M_newSide) (C := R_md) (T := T_md) (N := 21) hx hb htg in_md hown hK hP 0 rfl rfl 14 (by decide) (htg (.fieldLink R_md 67 "GameNotationModel" "newSide" "I") q_808) (fun _ h9 => h9) rfl d_md_passantFits_10 ?_
    refine lv_if_ne (tgt := 21) hx hb d_md_passantFits_13 (by decide) (fun c_2 => ?_) (fun c_2 => ?_)
    · have hF := hF.trans (if_neg c_2)
      refine lv_bipush (v := 8) hx hb d_md_passantFits_21 (by decide) ?_
      refine lv_istore_n (lv' := [(1, .int (8 : Int32)), (0, .ref Mh)]) hx hb d_md_passantFits_23 rfl hl (by decide) rfl (fun ls hl => ?_)
      refine lv_aload_n hx hb d_md_passantFits_24 rfl (lv_at hl 1 rfl) ?_
      refine va_get (D := kD K) (ci := 6) (v := .int M_newPassant) (C := R_md) (T := T_md) (N := 21) hx hb htg in_md hown hK hP 0 rfl rfl 16 (by decide) (htg (.fieldLink R_md 64 "GameNotationModel" "newPassant" "I") q_810) (fun _ h9 => h9) rfl d_md_passantFits_25 ?_
      refine lv_aload_n hx hb d_md_passantFits_28 rfl (lv_at hl 1 rfl) ?_
      refine va_get (D := kD K) (ci := 6) (v := .int M_newSide) (C := R_md) (T := T_md) (N := 21) hx hb htg in_md hown hK hP 0 rfl rfl 14 (by decide) (htg (.fieldLink R_md 67 "GameNotationModel" "newSide" "I") q_808) (fun _ h9 => h9) rfl d_md_passantFits_29 ?_
      refine lv_if_ne (tgt := 40) hx hb d_md_passantFits_32 (by decide) (fun _ => ?_) (fun c => absurd c c_2)
      refine lv_bipush (v := 8) hx hb d_md_passantFits_40 (by decide) ?_
      refine lv_iadd hx hb d_md_passantFits_42 ?_
      refine lv_istore_n (lv' := [(2, .int (M_newPassant + (8 : Int32))), (1, .int (8 : Int32)), (0, .ref Mh)]) hx hb d_md_passantFits_43 rfl hl (by decide) rfl (fun ls hl => ?_)
      refine lv_aload_n hx hb d_md_passantFits_44 rfl (lv_at hl 2 rfl) ?_
      refine va_get (D := kD K) (ci := 6) (v := .ref Ma4) (C := R_md) (T := T_md) (N := 21) hx hb htg in_md hown hK hP 0 rfl rfl 13 (by decide) (htg (.fieldLink R_md 29 "GameNotationModel" "newBoard" "[I") q_807) (fun _ h9 => h9) rfl d_md_passantFits_45 ?_
      refine lv_iload_n hx hb d_md_passantFits_48 rfl (lv_at hl 0 rfl) ?_
      have h_3 : vp_in (M_newPassant + (8 : Int32)) 64 := pq1 h_p c_1 (by decide) (by decide)
      refine va_iald hx hb hK hP 5 0 rfl rfl h_3 d_md_passantFits_49 ?_
      refine lv_if_ne (tgt := 101) hx hb d_md_passantFits_50 (by decide) (fun c_4 => ?_) (fun c_4 => ?_)
      · have hF := hF.trans (if_neg c_4)
        refine lv_iconst (v := 0) hx hb d_md_passantFits_101 (by decide) ?_
        exact W.zret (v := (0 : Int32)) hx hb hr (rfl) (fun t ht hW => ⟨_, rfl, ⟨hF, rfl⟩, ht⟩) hS.2.2 d_md_passantFits_102
      · have hF := hF.trans (if_pos c_4)
        refine lv_aload_n hx hb d_md_passantFits_53 rfl (lv_at hl 2 rfl) ?_
        refine va_get (D := kD K) (ci := 6) (v := .ref Ma4) (C := R_md) (T := T_md) (N := 21) hx hb htg in_md hown hK hP 0 rfl rfl 13 (by decide) (htg (.fieldLink R_md 29 "GameNotationModel" "newBoard" "[I") q_807) (fun _ h9 => h9) rfl d_md_passantFits_54 ?_
        refine lv_iload_n hx hb d_md_passantFits_57 rfl (lv_at hl 0 rfl) ?_
        refine lv_iload_n hx hb d_md_passantFits_58 rfl (lv_at hl 1 rfl) ?_
        refine lv_iadd hx hb d_md_passantFits_59 ?_
        have h_5 : vp_in ((M_newPassant + (8 : Int32)) + (8 : Int32)) 64 := pq2 h_p c_1 (by decide) (by decide) (by decide) (by decide)
        refine va_iald hx hb hK hP 5 0 rfl rfl h_5 d_md_passantFits_60 ?_
        refine lv_if_ne (tgt := 101) hx hb d_md_passantFits_61 (by decide) (fun c_6 => ?_) (fun c_6 => ?_)
        · have hF := hF.trans (if_neg c_6)
          refine lv_iconst (v := 0) hx hb d_md_passantFits_101 (by decide) ?_
          exact W.zret (v := (0 : Int32)) hx hb hr (rfl) (fun t ht hW => ⟨_, rfl, ⟨hF, rfl⟩, ht⟩) hS.2.2 d_md_passantFits_102
        · have hF := hF.trans (if_pos c_6)
          refine lv_aload_n hx hb d_md_passantFits_64 rfl (lv_at hl 2 rfl) ?_
          refine va_get (D := kD K) (ci := 6) (v := .ref Ma4) (C := R_md) (T := T_md) (N := 21) hx hb htg in_md hown hK hP 0 rfl rfl 13 (by decide) (htg (.fieldLink R_md 29 "GameNotationModel" "newBoard" "[I") q_807) (fun _ h9 => h9) rfl d_md_passantFits_65 ?_
          refine lv_iload_n hx hb d_md_passantFits_68 rfl (lv_at hl 0 rfl) ?_
          refine lv_iconst (v := 2) hx hb d_md_passantFits_69 (by decide) ?_
          refine lv_iload_n hx hb d_md_passantFits_70 rfl (lv_at hl 1 rfl) ?_
          refine lv_imul hx hb d_md_passantFits_71 ?_
          refine lv_iadd hx hb d_md_passantFits_72 ?_
          have h_7 : vp_in ((M_newPassant + (8 : Int32)) + ((2 : Int32) * (8 : Int32))) 64 := pq2 h_p c_1 (by decide) (by decide) (by decide) (by decide)
          refine va_iald hx hb hK hP 5 0 rfl rfl h_7 d_md_passantFits_73 ?_
          refine lv_aload_n hx hb d_md_passantFits_74 rfl (lv_at hl 2 rfl) ?_
          refine va_get (D := kD K) (ci := 6) (v := .int M_newSide) (C := R_md) (T := T_md) (N := 21) hx hb htg in_md hown hK hP 0 rfl rfl 14 (by decide) (htg (.fieldLink R_md 67 "GameNotationModel" "newSide" "I") q_808) (fun _ h9 => h9) rfl d_md_passantFits_75 ?_
          refine lv_if_ne (tgt := 86) hx hb d_md_passantFits_78 (by decide) (fun _ => ?_) (fun c => absurd c c_2)
          refine lv_iconst (v := 1) hx hb d_md_passantFits_86 (by decide) ?_
          refine lv_icmp_ne (tgt := 101) hx hb d_md_passantFits_87 (by decide) (fun c_8 => ?_) (fun c_8 => ?_)
          · have hF := hF.trans (if_neg c_8)
            refine lv_iconst (v := 0) hx hb d_md_passantFits_101 (by decide) ?_
            exact W.zret (v := (0 : Int32)) hx hb hr (rfl) (fun t ht hW => ⟨_, rfl, ⟨hF, rfl⟩, ht⟩) hS.2.2 d_md_passantFits_102
          · have hF := hF.trans (if_pos c_8)
            refine lv_aload_n hx hb d_md_passantFits_90 rfl (lv_at hl 2 rfl) ?_
            refine va_get (D := kD K) (ci := 6) (v := .int M_newClock) (C := R_md) (T := T_md) (N := 21) hx hb htg in_md hown hK hP 0 rfl rfl 17 (by decide) (htg (.fieldLink R_md 86 "GameNotationModel" "newClock" "I") q_811) (fun _ h9 => h9) rfl d_md_passantFits_91 ?_
            refine lv_if_ne (tgt := 101) hx hb d_md_passantFits_94 (by decide) (fun c_9 => ?_) (fun c_9 => ?_)
            · have hF := hF.trans (if_neg c_9)
              refine lv_iconst (v := 0) hx hb d_md_passantFits_101 (by decide) ?_
              exact W.zret (v := (0 : Int32)) hx hb hr (rfl) (fun t ht hW => ⟨_, rfl, ⟨hF, rfl⟩, ht⟩) hS.2.2 d_md_passantFits_102
            · have hF := hF.trans (if_pos c_9)
              refine lv_iconst (v := 1) hx hb d_md_passantFits_97 (by decide) ?_
              refine lv_goto (tgt := 102) hx hb d_md_passantFits_98 (by decide) ?_
              exact W.zret (v := (1 : Int32)) hx hb hr (rfl) (fun t ht hW => ⟨_, rfl, ⟨hF, rfl⟩, ht⟩) hS.2.2 d_md_passantFits_102
    · have hF := hF.trans (if_pos c_2)
      refine lv_bipush (v := -8) hx hb d_md_passantFits_16 (by decide) ?_
      refine lv_goto (tgt := 23) hx hb d_md_passantFits_18 (by decide) ?_
      refine lv_istore_n (lv' := [(1, .int (-8 : Int32)), (0, .ref Mh)]) hx hb d_md_passantFits_23 rfl hl (by decide) rfl (fun ls hl => ?_)
      refine lv_aload_n hx hb d_md_passantFits_24 rfl (lv_at hl 1 rfl) ?_
      refine va_get (D := kD K) (ci := 6) (v := .int M_newPassant) (C := R_md) (T := T_md) (N := 21) hx hb htg in_md hown hK hP 0 rfl rfl 16 (by decide) (htg (.fieldLink R_md 64 "GameNotationModel" "newPassant" "I") q_810) (fun _ h9 => h9) rfl d_md_passantFits_25 ?_
      refine lv_aload_n hx hb d_md_passantFits_28 rfl (lv_at hl 1 rfl) ?_
      refine va_get (D := kD K) (ci := 6) (v := .int M_newSide) (C := R_md) (T := T_md) (N := 21) hx hb htg in_md hown hK hP 0 rfl rfl 14 (by decide) (htg (.fieldLink R_md 67 "GameNotationModel" "newSide" "I") q_808) (fun _ h9 => h9) rfl d_md_passantFits_29 ?_
      refine lv_if_ne (tgt := 40) hx hb d_md_passantFits_32 (by decide) (fun c => absurd c_2 c) (fun _ => ?_)
      refine lv_bipush (v := 48) hx hb d_md_passantFits_35 (by decide) ?_
      refine lv_goto (tgt := 42) hx hb d_md_passantFits_37 (by decide) ?_
      refine lv_iadd hx hb d_md_passantFits_42 ?_
      refine lv_istore_n (lv' := [(2, .int (M_newPassant + (48 : Int32))), (1, .int (-8 : Int32)), (0, .ref Mh)]) hx hb d_md_passantFits_43 rfl hl (by decide) rfl (fun ls hl => ?_)
      refine lv_aload_n hx hb d_md_passantFits_44 rfl (lv_at hl 2 rfl) ?_
      refine va_get (D := kD K) (ci := 6) (v := .ref Ma4) (C := R_md) (T := T_md) (N := 21) hx hb htg in_md hown hK hP 0 rfl rfl 13 (by decide) (htg (.fieldLink R_md 29 "GameNotationModel" "newBoard" "[I") q_807) (fun _ h9 => h9) rfl d_md_passantFits_45 ?_
      refine lv_iload_n hx hb d_md_passantFits_48 rfl (lv_at hl 0 rfl) ?_
      have h_10 : vp_in (M_newPassant + (48 : Int32)) 64 := pq1 h_p c_1 (by decide) (by decide)
      refine va_iald hx hb hK hP 5 0 rfl rfl h_10 d_md_passantFits_49 ?_
      refine lv_if_ne (tgt := 101) hx hb d_md_passantFits_50 (by decide) (fun c_11 => ?_) (fun c_11 => ?_)
      · have hF := hF.trans (if_neg c_11)
        refine lv_iconst (v := 0) hx hb d_md_passantFits_101 (by decide) ?_
        exact W.zret (v := (0 : Int32)) hx hb hr (rfl) (fun t ht hW => ⟨_, rfl, ⟨hF, rfl⟩, ht⟩) hS.2.2 d_md_passantFits_102
      · have hF := hF.trans (if_pos c_11)
        refine lv_aload_n hx hb d_md_passantFits_53 rfl (lv_at hl 2 rfl) ?_
        refine va_get (D := kD K) (ci := 6) (v := .ref Ma4) (C := R_md) (T := T_md) (N := 21) hx hb htg in_md hown hK hP 0 rfl rfl 13 (by decide) (htg (.fieldLink R_md 29 "GameNotationModel" "newBoard" "[I") q_807) (fun _ h9 => h9) rfl d_md_passantFits_54 ?_
        refine lv_iload_n hx hb d_md_passantFits_57 rfl (lv_at hl 0 rfl) ?_
        refine lv_iload_n hx hb d_md_passantFits_58 rfl (lv_at hl 1 rfl) ?_
        refine lv_iadd hx hb d_md_passantFits_59 ?_
        have h_12 : vp_in ((M_newPassant + (48 : Int32)) + (-8 : Int32)) 64 := pq2 h_p c_1 (by decide) (by decide) (by decide) (by decide)
        refine va_iald hx hb hK hP 5 0 rfl rfl h_12 d_md_passantFits_60 ?_
        refine lv_if_ne (tgt := 101) hx hb d_md_passantFits_61 (by decide) (fun c_13 => ?_) (fun c_13 => ?_)
        · have hF := hF.trans (if_neg c_13)
          refine lv_iconst (v := 0) hx hb d_md_passantFits_101 (by decide) ?_
          exact W.zret (v := (0 : Int32)) hx hb hr (rfl) (fun t ht hW => ⟨_, rfl, ⟨hF, rfl⟩, ht⟩) hS.2.2 d_md_passantFits_102
        · have hF := hF.trans (if_pos c_13)
          refine lv_aload_n hx hb d_md_passantFits_64 rfl (lv_at hl 2 rfl) ?_
          refine va_get (D := kD K) (ci := 6) (v := .ref Ma4) (C := R_md) (T := T_md) (N := 21) hx hb htg in_md hown hK hP 0 rfl rfl 13 (by decide) (htg (.fieldLink R_md 29 "GameNotationModel" "newBoard" "[I") q_807) (fun _ h9 => h9) rfl d_md_passantFits_65 ?_
          refine lv_iload_n hx hb d_md_passantFits_68 rfl (lv_at hl 0 rfl) ?_
          refine lv_iconst (v := 2) hx hb d_md_passantFits_69 (by decide) ?_
          refine lv_iload_n hx hb d_md_passantFits_70 rfl (lv_at hl 1 rfl) ?_
          refine lv_imul hx hb d_md_passantFits_71 ?_
          refine lv_iadd hx hb d_md_passantFits_72 ?_
          have h_14 : vp_in ((M_newPassant + (48 : Int32)) + ((2 : Int32) * (-8 : Int32))) 64 := pq2 h_p c_1 (by decide) (by decide) (by decide) (by decide)
          refine va_iald hx hb hK hP 5 0 rfl rfl h_14 d_md_passantFits_73 ?_
          refine lv_aload_n hx hb d_md_passantFits_74 rfl (lv_at hl 2 rfl) ?_
          refine va_get (D := kD K) (ci := 6) (v := .int M_newSide) (C := R_md) (T := T_md) (N := 21) hx hb htg in_md hown hK hP 0 rfl rfl 14 (by decide) (htg (.fieldLink R_md 67 "GameNotationModel" "newSide" "I") q_808) (fun _ h9 => h9) rfl d_md_passantFits_75 ?_
          refine lv_if_ne (tgt := 86) hx hb d_md_passantFits_78 (by decide) (fun c => absurd c_2 c) (fun _ => ?_)
          refine lv_bipush (v := 7) hx hb d_md_passantFits_81 (by decide) ?_
          refine lv_goto (tgt := 87) hx hb d_md_passantFits_83 (by decide) ?_
          refine lv_icmp_ne (tgt := 101) hx hb d_md_passantFits_87 (by decide) (fun c_15 => ?_) (fun c_15 => ?_)
          · have hF := hF.trans (if_neg c_15)
            refine lv_iconst (v := 0) hx hb d_md_passantFits_101 (by decide) ?_
            exact W.zret (v := (0 : Int32)) hx hb hr (rfl) (fun t ht hW => ⟨_, rfl, ⟨hF, rfl⟩, ht⟩) hS.2.2 d_md_passantFits_102
          · have hF := hF.trans (if_pos c_15)
            refine lv_aload_n hx hb d_md_passantFits_90 rfl (lv_at hl 2 rfl) ?_
            refine va_get (D := kD K) (ci := 6) (v := .int M_newClock) (C := R_md) (T := T_md) (N := 21) hx hb htg in_md hown hK hP 0 rfl rfl 17 (by decide) (htg (.fieldLink R_md 86 "GameNotationModel" "newClock" "I") q_811) (fun _ h9 => h9) rfl d_md_passantFits_91 ?_
            refine lv_if_ne (tgt := 101) hx hb d_md_passantFits_94 (by decide) (fun c_16 => ?_) (fun c_16 => ?_)
            · have hF := hF.trans (if_neg c_16)
              refine lv_iconst (v := 0) hx hb d_md_passantFits_101 (by decide) ?_
              exact W.zret (v := (0 : Int32)) hx hb hr (rfl) (fun t ht hW => ⟨_, rfl, ⟨hF, rfl⟩, ht⟩) hS.2.2 d_md_passantFits_102
            · have hF := hF.trans (if_pos c_16)
              refine lv_iconst (v := 1) hx hb d_md_passantFits_97 (by decide) ?_
              refine lv_goto (tgt := 102) hx hb d_md_passantFits_98 (by decide) ?_
              exact W.zret (v := (1 : Int32)) hx hb hr (rfl) (fun t ht hW => ⟨_, rfl, ⟨hF, rfl⟩, ht⟩) hS.2.2 d_md_passantFits_102
  · have hF := hF.trans (if_neg c_1)
    refine lv_iconst (v := 1) hx hb d_md_passantFits_7 (by decide) ?_
    exact W.zret (v := (1 : Int32)) hx hb hr (rfl) (fun t ht hW => ⟨_, rfl, ⟨hF, rfl⟩, ht⟩) hS.2.2 d_md_passantFits_8
def f_md_above (n_ : Int32) (mo : Int32) : Int32 := (if n_ ≤ mo then (0 : Int32) else (n_ - mo))
set_option maxHeartbeats 4000000 in
set_option maxRecDepth 100000 in
theorem c_md_above (l : Launch) (K : KT) (n_ : Int32) (mo : Int32) : Met l y_md_above w_md_above ({ frames := 0, cells := 0, slots := 0, locals := 0 } : Room) (va_Pc [.int n_, .int mo] (fun U => pRO K [] U ∧ True)) (vp_Si (fun r => f_md_above n_ mo = r ∧ True)) 0 0 (fun _ => False) := by
  refine Met.ofW (cc := b_md_above) (maxL := 2) (ret := (some .int)) (by decide) rfl ?_
  intro p e s m args below meth c s₁ B hml hv
  obtain ⟨rfl, ⟨hP, hK, hG⟩, -⟩ := hv
  have hx := B.exec
  have hb := B.bytes
  have hr := B.returns
  have hts := atoms_spec (ws := w_md_above) B.pre
  have hown : s.vm.findClass R_md = some m.cls := findClass_of_methodNamed B.named
  have hlocks := B.notSynchronized
  have htg := fun w h => hts w (List.mem_cons_of_mem _ h)
  have hS : va_S (fun _ => False) s.heap s.heap [] := va_S.rf
  have hl := lv_entry ([.int n_, .int mo]) (n := 2) (Nat.le_of_ble_eq_true rfl)
  rw [lg_entry_eq]
  generalize (lg_sl ([.int n_, .int mo]) ++ List.replicate (2 - (lg_sl ([.int n_, .int mo])).length) Slot.unset).toArray = ls at hl ⊢
  have hl : lv_has ls 2 [(0, .int n_), (1, .int mo)] := hl
  have z0 : (0 : Int32).toInt = 0 := by decide
  have z1 : (1 : Int32).toInt = 1 := by decide
  have zm1 : (-1 : Int32).toInt = -1 := by decide
  have z2 : (2 : Int32).toInt = 2 := by decide
  have z3 : (3 : Int32).toInt = 3 := by decide
  have z7 : (7 : Int32).toInt = 7 := by decide
  have z8 : (8 : Int32).toInt = 8 := by decide
  have z16 : (16 : Int32).toInt = 16 := by decide
  have z64 : (64 : Int32).toInt = 64 := by decide
  have z100 : (100 : Int32).toInt = 100 := by decide
  have z330 : (330 : Int32).toInt = 330 := by decide
  have hF := f_md_above.eq_1 n_ mo
  refine lv_iload_n hx hb d_md_above_0 rfl (lv_at hl 0 rfl) ?_
  refine lv_iload_n hx hb d_md_above_1 rfl (lv_at hl 1 rfl) ?_
  refine lv_icmp_le (tgt := 11) hx hb d_md_above_2 (by decide) (fun c_1 => ?_) (fun c_1 => ?_)
  · have hF := hF.trans (if_pos c_1)
    refine lv_iconst (v := 0) hx hb d_md_above_11 (by decide) ?_
    exact W.iret (v := (0 : Int32)) hx hb hr (fun t ht hW => ⟨_, rfl, ⟨hF, trivial⟩, ht⟩) hS.2.2 d_md_above_12
  · have hF := hF.trans (if_neg c_1)
    refine lv_iload_n hx hb d_md_above_5 rfl (lv_at hl 0 rfl) ?_
    refine lv_iload_n hx hb d_md_above_6 rfl (lv_at hl 1 rfl) ?_
    refine lv_isub hx hb d_md_above_7 ?_
    refine lv_goto (tgt := 12) hx hb d_md_above_8 (by decide) ?_
    exact W.iret (v := n_ - mo) hx hb hr (fun t ht hW => ⟨_, rfl, ⟨hF, trivial⟩, ht⟩) hS.2.2 d_md_above_12
def f_md_tooMany (M_newBoard : (Nat → Int32)) (fi : Int32) : Int32 := (bnd (f_md_howMany M_newBoard ((1 : Int32) + fi)) (fun r_1 => (bnd (f_md_howMany M_newBoard ((2 : Int32) + fi)) (fun r_2 => (bnd (f_md_above r_2 (2 : Int32)) (fun r_3 => (bnd (f_md_howMany M_newBoard ((3 : Int32) + fi)) (fun r_4 => (bnd (f_md_above r_4 (2 : Int32)) (fun r_5 => (bnd (f_md_howMany M_newBoard ((4 : Int32) + fi)) (fun r_6 => (bnd (f_md_above r_6 (2 : Int32)) (fun r_7 => (bnd (f_md_howMany M_newBoard ((5 : Int32) + fi)) (fun r_8 => (bnd (f_md_above r_8 (1 : Int32)) (fun r_9 => (if (8 : Int32) < r_1 then (1 : Int32) else (if (((r_3 + r_5) + r_7) + r_9) ≤ ((8 : Int32) - r_1) then (0 : Int32) else (1 : Int32)))))))))))))))))))))
set_option maxHeartbeats 4000000 in
set_option maxRecDepth 100000 in
theorem c_md_tooMany (l : Launch) (K : KT) (Mh Ma0 Ma1 Ma2 Ma3 Ma4 Ma5 : Nat) (M_board : (Nat → Int32)) (M_text : (Nat → Int32)) (M_moves : (Nat → Int32)) (M_signs : (Nat → Int32)) (M_newBoard : (Nat → Int32)) (M_out : (Nat → Int32)) (M_thrown : Int32) (M_side : Int32) (M_rights : Int32) (M_passant : Int32) (M_clock : Int32) (M_number : Int32) (M_size : Int32) (M_told : Int32) (M_at : Int32) (M_newSide : Int32) (M_newRights : Int32) (M_newPassant : Int32) (M_newClock : Int32) (M_newNumber : Int32) (M_outs : Int32) (fi : Int32) : Met l y_md_tooMany w_md_tooMany ({ frames := 1, cells := 0, slots := 0, locals := 23 } : Room) (va_Pc [.ref Mh, .int fi] (fun U => pRO K [(Mh, .inr (6, [.int M_thrown, .ref Ma0, .int M_side, .int M_rights, .int M_passant, .int M_clock, .int M_number, .ref Ma1, .int M_size, .int M_told, .ref Ma2, .ref Ma3, .int M_at, .ref Ma4, .int M_newSide, .int M_newRights, .int M_newPassant, .int M_newClock, .int M_newNumber, .ref Ma5, .int M_outs])), (Ma0, .inl ((kI K), 64, .inl M_board)), (Ma1, .inl ((kI K), 100, .inl M_text)), (Ma2, .inl ((kI K), 330, .inl M_moves)), (Ma3, .inl ((kI K), 330, .inl M_signs)), (Ma4, .inl ((kI K), 64, .inl M_newBoard)), (Ma5, .inl ((kI K), 16, .inl M_out))] U ∧ True)) (vp_Si (fun r => f_md_tooMany M_newBoard fi = r ∧ narrow .boolean (.int r) = .int r)) 0 0 (fun _ => False) := by
  refine Met.ofW (cc := b_md_tooMany) (maxL := 4) (ret := (some .boolean)) (by decide) rfl ?_
  intro p e s m args below meth c s₁ B hml hv
  obtain ⟨rfl, ⟨hP, hK, hG⟩, -⟩ := hv
  have hx := B.exec
  have hb := B.bytes
  have hr := B.returns
  have hts := atoms_spec (ws := w_md_tooMany) B.pre
  have hown : s.vm.findClass R_md = some m.cls := findClass_of_methodNamed B.named
  have hlocks := B.notSynchronized
  have htg := fun w h => hts w (List.mem_cons_of_mem _ h)
  have hS : va_S (fun _ => False) s.heap s.heap [] := va_S.rf
  have hl := lv_entry ([.ref Mh, .int fi]) (n := 4) (Nat.le_of_ble_eq_true rfl)
  rw [lg_entry_eq]
  generalize (lg_sl ([.ref Mh, .int fi]) ++ List.replicate (4 - (lg_sl ([.ref Mh, .int fi])).length) Slot.unset).toArray = ls at hl ⊢
  have hl : lv_has ls 4 [(0, .ref Mh), (1, .int fi)] := hl
  have z0 : (0 : Int32).toInt = 0 := by decide
  have z1 : (1 : Int32).toInt = 1 := by decide
  have zm1 : (-1 : Int32).toInt = -1 := by decide
  have z2 : (2 : Int32).toInt = 2 := by decide
  have z3 : (3 : Int32).toInt = 3 := by decide
  have z7 : (7 : Int32).toInt = 7 := by decide
  have z8 : (8 : Int32).toInt = 8 := by decide
  have z16 : (16 : Int32).toInt = 16 := by decide
  have z64 : (64 : Int32).toInt = 64 := by decide
  have z100 : (100 : Int32).toInt = 100 := by decide
  have z330 : (330 : Int32).toInt = 330 := by decide
  have hF := f_md_tooMany.eq_1 M_newBoard fi
  refine lv_aload_n hx hb d_md_tooMany_0 rfl (lv_at hl 0 rfl) ?_
  refine lv_iconst (v := 1) hx hb d_md_tooMany_1 (by decide) ?_
  refine lv_iload_n hx hb d_md_tooMany_2 rfl (lv_at hl 1 rfl) ?_
  refine lv_iadd hx hb d_md_tooMany_3 ?_
  have hPc : va_P (kD K) vwCl [(Mh, .inr (6, [.int M_thrown, .ref Ma0, .int M_side, .int M_rights, .int M_passant, .int M_clock, .int M_number, .ref Ma1, .int M_size, .int M_told, .ref Ma2, .ref Ma3, .int M_at, .ref Ma4, .int M_newSide, .int M_newRights, .int M_newPassant, .int M_newClock, .int M_newNumber, .ref Ma5, .int M_outs])), (Ma0, .inl ((kI K), 64, .inl M_board)), (Ma1, .inl ((kI K), 100, .inl M_text)), (Ma2, .inl ((kI K), 330, .inl M_moves)), (Ma3, .inl ((kI K), 330, .inl M_signs)), (Ma4, .inl ((kI K), 64, .inl M_newBoard)), (Ma5, .inl ((kI K), 16, .inl M_out))] _ := hP.sub [0, 1, 2, 3, 4, 5, 6] rfl
  refine vp_callSi (va_Run.run (va_runV (As := [.int ((1 : Int32) + fi)]) (rest := []) ⟨hx, hb, hml, hown, htg⟩ (c_md_howMany l K Mh Ma0 Ma1 Ma2 Ma3 Ma4 Ma5 M_board M_text M_moves M_signs M_newBoard M_out M_thrown M_side M_rights M_passant M_clock M_number M_size M_told M_at M_newSide M_newRights M_newPassant M_newClock M_newNumber M_outs ((1 : Int32) + fi)) (cwV 1 htg (g_V q_916 q_918 qs_39 q_7 (g_w q_919)) rfl rfl rfl ⟨rfl, k_md_howMany⟩ ⟨Nat.le_of_ble_eq_true rfl, Nat.le_of_ble_eq_true rfl⟩) ⟨ro_blind, va_recv hK hPc (ci := 6) (q0 := 0) rfl rfl, ro_use hPc hK hG hS trivial⟩ rfl rfl hl.1 rfl (lv_room (Nat.le_of_ble_eq_true rfl)) d_md_tooMany_4 ⟨Nat.zero_le _, Nat.zero_le _⟩)) (fun r_1 hw_1 => ?_)
  have hF := hF.trans (bnd_s hw_1.1)
  refine lv_istore_n (lv' := [(2, .int r_1), (0, .ref Mh), (1, .int fi)]) hx hb d_md_tooMany_7 rfl hl (by decide) rfl (fun ls hl => ?_)
  refine lv_aload_n hx hb d_md_tooMany_8 rfl (lv_at hl 1 rfl) ?_
  refine lv_iconst (v := 2) hx hb d_md_tooMany_9 (by decide) ?_
  refine lv_iload_n hx hb d_md_tooMany_10 rfl (lv_at hl 2 rfl) ?_
  refine lv_iadd hx hb d_md_tooMany_11 ?_
  have hPc : va_P (kD K) vwCl [(Mh, .inr (6, [.int M_thrown, .ref Ma0, .int M_side, .int M_rights, .int M_passant, .int M_clock, .int M_number, .ref Ma1, .int M_size, .int M_told, .ref Ma2, .ref Ma3, .int M_at, .ref Ma4, .int M_newSide, .int M_newRights, .int M_newPassant, .int M_newClock, .int M_newNumber, .ref Ma5, .int M_outs])), (Ma0, .inl ((kI K), 64, .inl M_board)), (Ma1, .inl ((kI K), 100, .inl M_text)), (Ma2, .inl ((kI K), 330, .inl M_moves)), (Ma3, .inl ((kI K), 330, .inl M_signs)), (Ma4, .inl ((kI K), 64, .inl M_newBoard)), (Ma5, .inl ((kI K), 16, .inl M_out))] _ := hP.sub [0, 1, 2, 3, 4, 5, 6] rfl
  refine vp_callSi (va_Run.run (va_runV (As := [.int ((2 : Int32) + fi)]) (rest := []) ⟨hx, hb, hml, hown, htg⟩ (c_md_howMany l K Mh Ma0 Ma1 Ma2 Ma3 Ma4 Ma5 M_board M_text M_moves M_signs M_newBoard M_out M_thrown M_side M_rights M_passant M_clock M_number M_size M_told M_at M_newSide M_newRights M_newPassant M_newClock M_newNumber M_outs ((2 : Int32) + fi)) (cwV 1 htg (g_V q_916 q_918 qs_39 q_7 (g_w q_919)) rfl rfl rfl ⟨rfl, k_md_howMany⟩ ⟨Nat.le_of_ble_eq_true rfl, Nat.le_of_ble_eq_true rfl⟩) ⟨ro_blind, va_recv hK hPc (ci := 6) (q0 := 0) rfl rfl, ro_use hPc hK hG hS trivial⟩ rfl rfl hl.1 rfl (lv_room (Nat.le_of_ble_eq_true rfl)) d_md_tooMany_12 ⟨Nat.zero_le _, Nat.zero_le _⟩)) (fun r_2 hw_2 => ?_)
  have hF := hF.trans (bnd_s hw_2.1)
  refine lv_iconst (v := 2) hx hb d_md_tooMany_15 (by decide) ?_
  have hPc : va_P (kD K) vwCl [] _ := hP.sub [] rfl
  refine vp_callSi (va_Run.run (va_runS (As := [.int r_2, .int (2 : Int32)]) (rest := []) ⟨hx, hb, hml, hown, htg⟩ (c_md_above l K r_2 (2 : Int32)) (va_cwS 2 htg (g_S q_928 q_929 q_7 (g_w q_930)) rfl rfl rfl k_md_above ⟨Nat.le_of_ble_eq_true rfl, Nat.le_of_ble_eq_true rfl⟩) ⟨ro_blind, ro_use hPc hK hG hS trivial⟩ rfl rfl hl.1 rfl (lv_room (Nat.le_of_ble_eq_true rfl)) d_md_tooMany_16 ⟨Nat.zero_le _, Nat.zero_le _⟩)) (fun r_3 hw_3 => ?_)
  have hF := hF.trans (bnd_s hw_3.1)
  refine lv_aload_n hx hb d_md_tooMany_19 rfl (lv_at hl 1 rfl) ?_
  refine lv_iconst (v := 3) hx hb d_md_tooMany_20 (by decide) ?_
  refine lv_iload_n hx hb d_md_tooMany_21 rfl (lv_at hl 2 rfl) ?_
  refine lv_iadd hx hb d_md_tooMany_22 ?_
  have hPc : va_P (kD K) vwCl [(Mh, .inr (6, [.int M_thrown, .ref Ma0, .int M_side, .int M_rights, .int M_passant, .int M_clock, .int M_number, .ref Ma1, .int M_size, .int M_told, .ref Ma2, .ref Ma3, .int M_at, .ref Ma4, .int M_newSide, .int M_newRights, .int M_newPassant, .int M_newClock, .int M_newNumber, .ref Ma5, .int M_outs])), (Ma0, .inl ((kI K), 64, .inl M_board)), (Ma1, .inl ((kI K), 100, .inl M_text)), (Ma2, .inl ((kI K), 330, .inl M_moves)), (Ma3, .inl ((kI K), 330, .inl M_signs)), (Ma4, .inl ((kI K), 64, .inl M_newBoard)), (Ma5, .inl ((kI K), 16, .inl M_out))] _ := hP.sub [0, 1, 2, 3, 4, 5, 6] rfl
  refine vp_callSi (va_Run.run (va_runV (As := [.int ((3 : Int32) + fi)]) (rest := [.int r_3]) ⟨hx, hb, hml, hown, htg⟩ (c_md_howMany l K Mh Ma0 Ma1 Ma2 Ma3 Ma4 Ma5 M_board M_text M_moves M_signs M_newBoard M_out M_thrown M_side M_rights M_passant M_clock M_number M_size M_told M_at M_newSide M_newRights M_newPassant M_newClock M_newNumber M_outs ((3 : Int32) + fi)) (cwV 1 htg (g_V q_916 q_918 qs_39 q_7 (g_w q_919)) rfl rfl rfl ⟨rfl, k_md_howMany⟩ ⟨Nat.le_of_ble_eq_true rfl, Nat.le_of_ble_eq_true rfl⟩) ⟨ro_blind, va_recv hK hPc (ci := 6) (q0 := 0) rfl rfl, ro_use hPc hK hG hS trivial⟩ rfl rfl hl.1 rfl (lv_room (Nat.le_of_ble_eq_true rfl)) d_md_tooMany_23 ⟨Nat.zero_le _, Nat.zero_le _⟩)) (fun r_4 hw_4 => ?_)
  have hF := hF.trans (bnd_s hw_4.1)
  refine lv_iconst (v := 2) hx hb d_md_tooMany_26 (by decide) ?_
  have hPc : va_P (kD K) vwCl [] _ := hP.sub [] rfl
  refine vp_callSi (va_Run.run (va_runS (As := [.int r_4, .int (2 : Int32)]) (rest := [.int r_3]) ⟨hx, hb, hml, hown, htg⟩ (c_md_above l K r_4 (2 : Int32)) (va_cwS 2 htg (g_S q_928 q_929 q_7 (g_w q_930)) rfl rfl rfl k_md_above ⟨Nat.le_of_ble_eq_true rfl, Nat.le_of_ble_eq_true rfl⟩) ⟨ro_blind, ro_use hPc hK hG hS trivial⟩ rfl rfl hl.1 rfl (lv_room (Nat.le_of_ble_eq_true rfl)) d_md_tooMany_27 ⟨Nat.zero_le _, Nat.zero_le _⟩)) (fun r_5 hw_5 => ?_)
  have hF := hF.trans (bnd_s hw_5.1)
  refine lv_iadd hx hb d_md_tooMany_30 ?_
  refine lv_aload_n hx hb d_md_tooMany_31 rfl (lv_at hl 1 rfl) ?_
  refine lv_iconst (v := 4) hx hb d_md_tooMany_32 (by decide) ?_
  refine lv_iload_n hx hb d_md_tooMany_33 rfl (lv_at hl 2 rfl) ?_
  refine lv_iadd hx hb d_md_tooMany_34 ?_
  have hPc : va_P (kD K) vwCl [(Mh, .inr (6, [.int M_thrown, .ref Ma0, .int M_side, .int M_rights, .int M_passant, .int M_clock, .int M_number, .ref Ma1, .int M_size, .int M_told, .ref Ma2, .ref Ma3, .int M_at, .ref Ma4, .int M_newSide, .int M_newRights, .int M_newPassant, .int M_newClock, .int M_newNumber, .ref Ma5, .int M_outs])), (Ma0, .inl ((kI K), 64, .inl M_board)), (Ma1, .inl ((kI K), 100, .inl M_text)), (Ma2, .inl ((kI K), 330, .inl M_moves)), (Ma3, .inl ((kI K), 330, .inl M_signs)), (Ma4, .inl ((kI K), 64, .inl M_newBoard)), (Ma5, .inl ((kI K), 16, .inl M_out))] _ := hP.sub [0, 1, 2, 3, 4, 5, 6] rfl
  refine vp_callSi (va_Run.run (va_runV (As := [.int ((4 : Int32) + fi)]) (rest := [.int (r_3 + r_5)]) ⟨hx, hb, hml, hown, htg⟩ (c_md_howMany l K Mh Ma0 Ma1 Ma2 Ma3 Ma4 Ma5 M_board M_text M_moves M_signs M_newBoard M_out M_thrown M_side M_rights M_passant M_clock M_number M_size M_told M_at M_newSide M_newRights M_newPassant M_newClock M_newNumber M_outs ((4 : Int32) + fi)) (cwV 1 htg (g_V q_916 q_918 qs_39 q_7 (g_w q_919)) rfl rfl rfl ⟨rfl, k_md_howMany⟩ ⟨Nat.le_of_ble_eq_true rfl, Nat.le_of_ble_eq_true rfl⟩) ⟨ro_blind, va_recv hK hPc (ci := 6) (q0 := 0) rfl rfl, ro_use hPc hK hG hS trivial⟩ rfl rfl hl.1 rfl (lv_room (Nat.le_of_ble_eq_true rfl)) d_md_tooMany_35 ⟨Nat.zero_le _, Nat.zero_le _⟩)) (fun r_6 hw_6 => ?_)
  have hF := hF.trans (bnd_s hw_6.1)
  refine lv_iconst (v := 2) hx hb d_md_tooMany_38 (by decide) ?_
  have hPc : va_P (kD K) vwCl [] _ := hP.sub [] rfl
  refine vp_callSi (va_Run.run (va_runS (As := [.int r_6, .int (2 : Int32)]) (rest := [.int (r_3 + r_5)]) ⟨hx, hb, hml, hown, htg⟩ (c_md_above l K r_6 (2 : Int32)) (va_cwS 2 htg (g_S q_928 q_929 q_7 (g_w q_930)) rfl rfl rfl k_md_above ⟨Nat.le_of_ble_eq_true rfl, Nat.le_of_ble_eq_true rfl⟩) ⟨ro_blind, ro_use hPc hK hG hS trivial⟩ rfl rfl hl.1 rfl (lv_room (Nat.le_of_ble_eq_true rfl)) d_md_tooMany_39 ⟨Nat.zero_le _, Nat.zero_le _⟩)) (fun r_7 hw_7 => ?_)
  have hF := hF.trans (bnd_s hw_7.1)
  refine lv_iadd hx hb d_md_tooMany_42 ?_
  refine lv_aload_n hx hb d_md_tooMany_43 rfl (lv_at hl 1 rfl) ?_
  refine lv_iconst (v := 5) hx hb d_md_tooMany_44 (by decide) ?_
  refine lv_iload_n hx hb d_md_tooMany_45 rfl (lv_at hl 2 rfl) ?_
  refine lv_iadd hx hb d_md_tooMany_46 ?_
  have hPc : va_P (kD K) vwCl [(Mh, .inr (6, [.int M_thrown, .ref Ma0, .int M_side, .int M_rights, .int M_passant, .int M_clock, .int M_number, .ref Ma1, .int M_size, .int M_told, .ref Ma2, .ref Ma3, .int M_at, .ref Ma4, .int M_newSide, .int M_newRights, .int M_newPassant, .int M_newClock, .int M_newNumber, .ref Ma5, .int M_outs])), (Ma0, .inl ((kI K), 64, .inl M_board)), (Ma1, .inl ((kI K), 100, .inl M_text)), (Ma2, .inl ((kI K), 330, .inl M_moves)), (Ma3, .inl ((kI K), 330, .inl M_signs)), (Ma4, .inl ((kI K), 64, .inl M_newBoard)), (Ma5, .inl ((kI K), 16, .inl M_out))] _ := hP.sub [0, 1, 2, 3, 4, 5, 6] rfl
  refine vp_callSi (va_Run.run (va_runV (As := [.int ((5 : Int32) + fi)]) (rest := [.int ((r_3 + r_5) + r_7)]) ⟨hx, hb, hml, hown, htg⟩ (c_md_howMany l K Mh Ma0 Ma1 Ma2 Ma3 Ma4 Ma5 M_board M_text M_moves M_signs M_newBoard M_out M_thrown M_side M_rights M_passant M_clock M_number M_size M_told M_at M_newSide M_newRights M_newPassant M_newClock M_newNumber M_outs ((5 : Int32) + fi)) (cwV 1 htg (g_V q_916 q_918 qs_39 q_7 (g_w q_919)) rfl rfl rfl ⟨rfl, k_md_howMany⟩ ⟨Nat.le_of_ble_eq_true rfl, Nat.le_of_ble_eq_true rfl⟩) ⟨ro_blind, va_recv hK hPc (ci := 6) (q0 := 0) rfl rfl, ro_use hPc hK hG hS trivial⟩ rfl rfl hl.1 rfl (lv_room (Nat.le_of_ble_eq_true rfl)) d_md_tooMany_47 ⟨Nat.zero_le _, Nat.zero_le _⟩)) (fun r_8 hw_8 => ?_)
  have hF := hF.trans (bnd_s hw_8.1)
  refine lv_iconst (v := 1) hx hb d_md_tooMany_50 (by decide) ?_
  have hPc : va_P (kD K) vwCl [] _ := hP.sub [] rfl
  refine vp_callSi (va_Run.run (va_runS (As := [.int r_8, .int (1 : Int32)]) (rest := [.int ((r_3 + r_5) + r_7)]) ⟨hx, hb, hml, hown, htg⟩ (c_md_above l K r_8 (1 : Int32)) (va_cwS 2 htg (g_S q_928 q_929 q_7 (g_w q_930)) rfl rfl rfl k_md_above ⟨Nat.le_of_ble_eq_true rfl, Nat.le_of_ble_eq_true rfl⟩) ⟨ro_blind, ro_use hPc hK hG hS trivial⟩ rfl rfl hl.1 rfl (lv_room (Nat.le_of_ble_eq_true rfl)) d_md_tooMany_51 ⟨Nat.zero_le _, Nat.zero_le _⟩)) (fun r_9 hw_9 => ?_)
  have hF := hF.trans (bnd_s hw_9.1)
  refine lv_iadd hx hb d_md_tooMany_54 ?_
  refine lv_istore_n (lv' := [(3, .int (((r_3 + r_5) + r_7) + r_9)), (2, .int r_1), (0, .ref Mh), (1, .int fi)]) hx hb d_md_tooMany_55 rfl hl (by decide) rfl (fun ls hl => ?_)
  refine lv_iload_n hx hb d_md_tooMany_56 rfl (lv_at hl 1 rfl) ?_
  refine lv_bipush (v := 8) hx hb d_md_tooMany_57 (by decide) ?_
  refine lv_icmp_gt (tgt := 70) hx hb d_md_tooMany_59 (by decide) (fun c_10 => ?_) (fun c_10 => ?_)
  · have hF := hF.trans (if_pos c_10)
    refine lv_iconst (v := 1) hx hb d_md_tooMany_70 (by decide) ?_
    refine lv_goto (tgt := 75) hx hb d_md_tooMany_71 (by decide) ?_
    exact W.zret (v := (1 : Int32)) hx hb hr (rfl) (fun t ht hW => ⟨_, rfl, ⟨hF, rfl⟩, ht⟩) hS.2.2 d_md_tooMany_75
  · have hF := hF.trans (if_neg c_10)
    refine lv_iload_n hx hb d_md_tooMany_62 rfl (lv_at hl 0 rfl) ?_
    refine lv_bipush (v := 8) hx hb d_md_tooMany_63 (by decide) ?_
    refine lv_iload_n hx hb d_md_tooMany_65 rfl (lv_at hl 1 rfl) ?_
    refine lv_isub hx hb d_md_tooMany_66 ?_
    refine lv_icmp_le (tgt := 74) hx hb d_md_tooMany_67 (by decide) (fun c_11 => ?_) (fun c_11 => ?_)
    · have hF := hF.trans (if_pos c_11)
      refine lv_iconst (v := 0) hx hb d_md_tooMany_74 (by decide) ?_
      exact W.zret (v := (0 : Int32)) hx hb hr (rfl) (fun t ht hW => ⟨_, rfl, ⟨hF, rfl⟩, ht⟩) hS.2.2 d_md_tooMany_75
    · have hF := hF.trans (if_neg c_11)
      refine lv_iconst (v := 1) hx hb d_md_tooMany_70 (by decide) ?_
      refine lv_goto (tgt := 75) hx hb d_md_tooMany_71 (by decide) ?_
      exact W.zret (v := (1 : Int32)) hx hb hr (rfl) (fun t ht hW => ⟨_, rfl, ⟨hF, rfl⟩, ht⟩) hS.2.2 d_md_tooMany_75
def f_md_pawnsFit_L4 (M_newBoard : (Nat → Int32)) : Nat → Int32 → Int32 → Int32
  | 0, _, _ => 0
  | n + 1, v1, v2 => (if (8 : Int32) ≤ v2 then (if v1 = 0 then (0 : Int32) else (bnd (f_md_tooMany M_newBoard (0 : Int32)) (fun r_3 => (if r_3 = 0 then (bnd (f_md_tooMany M_newBoard (6 : Int32)) (fun r_5 => (if r_5 = 0 then (1 : Int32) else (0 : Int32)))) else (0 : Int32))))) else (if v1 = 0 then (f_md_pawnsFit_L4 M_newBoard  n (0 : Int32) (v2 + (1 : Int32))) else (if ((M_newBoard v2.toNatClampNeg) - (M_newBoard v2.toNatClampNeg) / (6 : Int32) * (6 : Int32)) = (1 : Int32) then (f_md_pawnsFit_L4 M_newBoard  n (0 : Int32) (v2 + (1 : Int32))) else (if ((M_newBoard ((56 : Int32) + v2).toNatClampNeg) - (M_newBoard ((56 : Int32) + v2).toNatClampNeg) / (6 : Int32) * (6 : Int32)) = (1 : Int32) then (f_md_pawnsFit_L4 M_newBoard  n (0 : Int32) (v2 + (1 : Int32))) else (f_md_pawnsFit_L4 M_newBoard  n (1 : Int32) (v2 + (1 : Int32)))))))
def f_md_pawnsFit (M_newBoard : (Nat → Int32)) : Int32 := (f_md_pawnsFit_L4 M_newBoard  9 (1 : Int32) (0 : Int32))
set_option maxHeartbeats 4000000 in
set_option maxRecDepth 100000 in
theorem c_md_pawnsFit (l : Launch) (K : KT) (Mh Ma0 Ma1 Ma2 Ma3 Ma4 Ma5 : Nat) (M_board : (Nat → Int32)) (M_text : (Nat → Int32)) (M_moves : (Nat → Int32)) (M_signs : (Nat → Int32)) (M_newBoard : (Nat → Int32)) (M_out : (Nat → Int32)) (M_thrown : Int32) (M_side : Int32) (M_rights : Int32) (M_passant : Int32) (M_clock : Int32) (M_number : Int32) (M_size : Int32) (M_told : Int32) (M_at : Int32) (M_newSide : Int32) (M_newRights : Int32) (M_newPassant : Int32) (M_newClock : Int32) (M_newNumber : Int32) (M_outs : Int32) : Met l y_md_pawnsFit w_md_pawnsFit ({ frames := 2, cells := 0, slots := 0, locals := 46 } : Room) (va_Pc [.ref Mh] (fun U => pRO K [(Mh, .inr (6, [.int M_thrown, .ref Ma0, .int M_side, .int M_rights, .int M_passant, .int M_clock, .int M_number, .ref Ma1, .int M_size, .int M_told, .ref Ma2, .ref Ma3, .int M_at, .ref Ma4, .int M_newSide, .int M_newRights, .int M_newPassant, .int M_newClock, .int M_newNumber, .ref Ma5, .int M_outs])), (Ma0, .inl ((kI K), 64, .inl M_board)), (Ma1, .inl ((kI K), 100, .inl M_text)), (Ma2, .inl ((kI K), 330, .inl M_moves)), (Ma3, .inl ((kI K), 330, .inl M_signs)), (Ma4, .inl ((kI K), 64, .inl M_newBoard)), (Ma5, .inl ((kI K), 16, .inl M_out))] U ∧ True)) (vp_Si (fun r => f_md_pawnsFit M_newBoard = r ∧ narrow .boolean (.int r) = .int r)) 0 0 (fun _ => False) := by
  refine Met.ofW (cc := b_md_pawnsFit) (maxL := 3) (ret := (some .boolean)) (by decide) rfl ?_
  intro p e s m args below meth c s₁ B hml hv
  obtain ⟨rfl, ⟨hP, hK, hG⟩, -⟩ := hv
  have hx := B.exec
  have hb := B.bytes
  have hr := B.returns
  have hts := atoms_spec (ws := w_md_pawnsFit) B.pre
  have hown : s.vm.findClass R_md = some m.cls := findClass_of_methodNamed B.named
  have hlocks := B.notSynchronized
  have htg := fun w h => hts w (List.mem_cons_of_mem _ h)
  have hS : va_S (fun _ => False) s.heap s.heap [] := va_S.rf
  have hl := lv_entry ([.ref Mh]) (n := 3) (Nat.le_of_ble_eq_true rfl)
  rw [lg_entry_eq]
  generalize (lg_sl ([.ref Mh]) ++ List.replicate (3 - (lg_sl ([.ref Mh])).length) Slot.unset).toArray = ls at hl ⊢
  have hl : lv_has ls 3 [(0, .ref Mh)] := hl
  have z0 : (0 : Int32).toInt = 0 := by decide
  have z1 : (1 : Int32).toInt = 1 := by decide
  have zm1 : (-1 : Int32).toInt = -1 := by decide
  have z2 : (2 : Int32).toInt = 2 := by decide
  have z3 : (3 : Int32).toInt = 3 := by decide
  have z7 : (7 : Int32).toInt = 7 := by decide
  have z8 : (8 : Int32).toInt = 8 := by decide
  have z16 : (16 : Int32).toInt = 16 := by decide
  have z64 : (64 : Int32).toInt = 64 := by decide
  have z100 : (100 : Int32).toInt = 100 := by decide
  have z330 : (330 : Int32).toInt = 330 := by decide
  have hF := f_md_pawnsFit.eq_1 M_newBoard
  refine lv_iconst (v := 1) hx hb d_md_pawnsFit_0 (by decide) ?_
  refine lv_istore_n (lv' := [(1, .int (1 : Int32)), (0, .ref Mh)]) hx hb d_md_pawnsFit_1 rfl hl (by decide) rfl (fun ls hl => ?_)
  refine lv_iconst (v := 0) hx hb d_md_pawnsFit_2 (by decide) ?_
  refine lv_istore_n (lv' := [(2, .int (0 : Int32)), (1, .int (1 : Int32)), (0, .ref Mh)]) hx hb d_md_pawnsFit_3 rfl hl (by decide) rfl (fun ls hl => ?_)
  have loop4 : ∀ (n4 : Nat) (v1 : Int32) (v2 : Int32) (ls : Array Slot), 0 ≤ v2.toInt → ((8 : Int) - v2.toInt).toNat < n4 → lv_has ls 3 [(0, .ref Mh), (1, .int v1), (2, .int v2)] → f_md_pawnsFit M_newBoard = f_md_pawnsFit_L4 M_newBoard  n4 v1 v2 → W p l e (headSpec w_md_pawnsFit ({ frames := 2, cells := 0, slots := 0, locals := 46 } : Room)).room s m ([(.ref Mh : Value)].toArray) below meth c s.heap [] 0 0 (MQ below (vp_Si (fun r => f_md_pawnsFit M_newBoard = r ∧ narrow .boolean (.int r) = .int r)) ([(.ref Mh : Value)].toArray) s 0 0 ((fun _ => False))) (F0 m 4 ls []) := by
    intro n4
    induction n4 with
    | zero =>
      intro _ _ _ _ hz
      exact absurd hz (Nat.not_lt_zero _)
    | succ n4 ih4 =>
      intro v1 v2 ls i0 hm hl hF
      rw [f_md_pawnsFit_L4] at hF
      refine lv_iload_n hx hb d_md_pawnsFit_4 rfl (lv_at hl 2 rfl) ?_
      refine lv_bipush (v := 8) hx hb d_md_pawnsFit_5 (by decide) ?_
      refine lv_icmp_ge (tgt := 55) hx hb d_md_pawnsFit_7 (by decide) (fun c_1 => ?_) (fun c_1 => ?_)
      · have hF := hF.trans (if_pos c_1)
        refine lv_iload_n hx hb d_md_pawnsFit_55 rfl (lv_at hl 1 rfl) ?_
        refine lv_if_eq (tgt := 80) hx hb d_md_pawnsFit_56 (by decide) (fun c_2 => ?_) (fun c_2 => ?_)
        · have hF := hF.trans (if_pos c_2)
          refine lv_iconst (v := 0) hx hb d_md_pawnsFit_80 (by decide) ?_
          exact W.zret (v := (0 : Int32)) hx hb hr (rfl) (fun t ht hW => ⟨_, rfl, ⟨hF, rfl⟩, ht⟩) hS.2.2 d_md_pawnsFit_81
        · have hF := hF.trans (if_neg c_2)
          refine lv_aload_n hx hb d_md_pawnsFit_59 rfl (lv_at hl 0 rfl) ?_
          refine lv_iconst (v := 0) hx hb d_md_pawnsFit_60 (by decide) ?_
          have hPc : va_P (kD K) vwCl [(Mh, .inr (6, [.int M_thrown, .ref Ma0, .int M_side, .int M_rights, .int M_passant, .int M_clock, .int M_number, .ref Ma1, .int M_size, .int M_told, .ref Ma2, .ref Ma3, .int M_at, .ref Ma4, .int M_newSide, .int M_newRights, .int M_newPassant, .int M_newClock, .int M_newNumber, .ref Ma5, .int M_outs])), (Ma0, .inl ((kI K), 64, .inl M_board)), (Ma1, .inl ((kI K), 100, .inl M_text)), (Ma2, .inl ((kI K), 330, .inl M_moves)), (Ma3, .inl ((kI K), 330, .inl M_signs)), (Ma4, .inl ((kI K), 64, .inl M_newBoard)), (Ma5, .inl ((kI K), 16, .inl M_out))] _ := hP.sub [0, 1, 2, 3, 4, 5, 6] rfl
          refine vp_callSi (va_Run.run (va_runV (As := [.int (0 : Int32)]) (rest := []) ⟨hx, hb, hml, hown, htg⟩ (c_md_tooMany l K Mh Ma0 Ma1 Ma2 Ma3 Ma4 Ma5 M_board M_text M_moves M_signs M_newBoard M_out M_thrown M_side M_rights M_passant M_clock M_number M_size M_told M_at M_newSide M_newRights M_newPassant M_newClock M_newNumber M_outs (0 : Int32)) (cwV 1 htg (g_V q_924 q_926 qs_41 q_7 (g_w q_927)) rfl rfl rfl ⟨rfl, k_md_tooMany⟩ ⟨Nat.le_of_ble_eq_true rfl, Nat.le_of_ble_eq_true rfl⟩) ⟨ro_blind, va_recv hK hPc (ci := 6) (q0 := 0) rfl rfl, ro_use hPc hK hG hS trivial⟩ rfl rfl hl.1 rfl (lv_room (Nat.le_of_ble_eq_true rfl)) d_md_pawnsFit_61 ⟨Nat.zero_le _, Nat.zero_le _⟩)) (fun r_3 hw_3 => ?_)
          have hF := hF.trans (bnd_s hw_3.1)
          have hn_3 := hw_3.2
          refine lv_if_ne (tgt := 80) hx hb d_md_pawnsFit_64 (by decide) (fun c_4 => ?_) (fun c_4 => ?_)
          · have hF := hF.trans (if_neg c_4)
            refine lv_iconst (v := 0) hx hb d_md_pawnsFit_80 (by decide) ?_
            exact W.zret (v := (0 : Int32)) hx hb hr (rfl) (fun t ht hW => ⟨_, rfl, ⟨hF, rfl⟩, ht⟩) hS.2.2 d_md_pawnsFit_81
          · have hF := hF.trans (if_pos c_4)
            refine lv_aload_n hx hb d_md_pawnsFit_67 rfl (lv_at hl 0 rfl) ?_
            refine lv_bipush (v := 6) hx hb d_md_pawnsFit_68 (by decide) ?_
            have hPc : va_P (kD K) vwCl [(Mh, .inr (6, [.int M_thrown, .ref Ma0, .int M_side, .int M_rights, .int M_passant, .int M_clock, .int M_number, .ref Ma1, .int M_size, .int M_told, .ref Ma2, .ref Ma3, .int M_at, .ref Ma4, .int M_newSide, .int M_newRights, .int M_newPassant, .int M_newClock, .int M_newNumber, .ref Ma5, .int M_outs])), (Ma0, .inl ((kI K), 64, .inl M_board)), (Ma1, .inl ((kI K), 100, .inl M_text)), (Ma2, .inl ((kI K), 330, .inl M_moves)), (Ma3, .inl ((kI K), 330, .inl M_signs)), (Ma4, .inl ((kI K), 64, .inl M_newBoard)), (Ma5, .inl ((kI K), 16, .inl M_out))] _ := hP.sub [0, 1, 2, 3, 4, 5, 6] rfl
            refine vp_callSi (va_Run.run (va_runV (As := [.int (6 : Int32)]) (rest := []) ⟨hx, hb, hml, hown, htg⟩ (c_md_tooMany l K Mh Ma0 Ma1 Ma2 Ma3 Ma4 Ma5 M_board M_text M_moves M_signs M_newBoard M_out M_thrown M_side M_rights M_passant M_clock M_number M_size M_told M_at M_newSide M_newRights M_newPassant M_newClock M_newNumber M_outs (6 : Int32)) (cwV 1 htg (g_V q_924 q_926 qs_41 q_7 (g_w q_927)) rfl rfl rfl ⟨rfl, k_md_tooMany⟩ ⟨Nat.le_of_ble_eq_true rfl, Nat.le_of_ble_eq_true rfl⟩) ⟨ro_blind, va_recv hK hPc (ci := 6) (q0 := 0) rfl rfl, ro_use hPc hK hG hS trivial⟩ rfl rfl hl.1 rfl (lv_room (Nat.le_of_ble_eq_true rfl)) d_md_pawnsFit_70 ⟨Nat.zero_le _, Nat.zero_le _⟩)) (fun r_5 hw_5 => ?_)
            have hF := hF.trans (bnd_s hw_5.1)
            have hn_5 := hw_5.2
            refine lv_if_ne (tgt := 80) hx hb d_md_pawnsFit_73 (by decide) (fun c_6 => ?_) (fun c_6 => ?_)
            · have hF := hF.trans (if_neg c_6)
              refine lv_iconst (v := 0) hx hb d_md_pawnsFit_80 (by decide) ?_
              exact W.zret (v := (0 : Int32)) hx hb hr (rfl) (fun t ht hW => ⟨_, rfl, ⟨hF, rfl⟩, ht⟩) hS.2.2 d_md_pawnsFit_81
            · have hF := hF.trans (if_pos c_6)
              refine lv_iconst (v := 1) hx hb d_md_pawnsFit_76 (by decide) ?_
              refine lv_goto (tgt := 81) hx hb d_md_pawnsFit_77 (by decide) ?_
              exact W.zret (v := (1 : Int32)) hx hb hr (rfl) (fun t ht hW => ⟨_, rfl, ⟨hF, rfl⟩, ht⟩) hS.2.2 d_md_pawnsFit_81
      · have hF := hF.trans (if_neg c_1)
        refine lv_iload_n hx hb d_md_pawnsFit_10 rfl (lv_at hl 1 rfl) ?_
        refine lv_if_eq (tgt := 47) hx hb d_md_pawnsFit_11 (by decide) (fun c_7 => ?_) (fun c_7 => ?_)
        · have hF := hF.trans (if_pos c_7)
          refine lv_iconst (v := 0) hx hb d_md_pawnsFit_47 (by decide) ?_
          refine lv_istore_n (lv' := [(1, .int (0 : Int32)), (0, .ref Mh), (2, .int v2)]) hx hb d_md_pawnsFit_48 rfl hl (by decide) rfl (fun ls hl => ?_)
          refine lv_iinc (v := v2 + (1 : Int32)) (lv' := [(2, .int (v2 + (1 : Int32))), (1, .int (0 : Int32)), (0, .ref Mh)]) hx hb d_md_pawnsFit_49 hl (k := 2) rfl rfl (by decide) rfl (fun ls hl => ?_)
          refine lv_goto (tgt := 4) hx hb d_md_pawnsFit_52 (by decide) ?_
          exact ih4  (0 : Int32) (v2 + (1 : Int32)) ls (lp_s i0 c_1) (lp_d i0 c_1 (by decide) hm) (lv_sub hl [2, 1, 0] rfl) hF
        · have hF := hF.trans (if_neg c_7)
          refine lv_aload_n hx hb d_md_pawnsFit_14 rfl (lv_at hl 0 rfl) ?_
          refine va_get (D := kD K) (ci := 6) (v := .ref Ma4) (C := R_md) (T := T_md) (N := 21) hx hb htg in_md hown hK hP 0 rfl rfl 13 (by decide) (htg (.fieldLink R_md 29 "GameNotationModel" "newBoard" "[I") q_807) (fun _ h9 => h9) rfl d_md_pawnsFit_15 ?_
          refine lv_iload_n hx hb d_md_pawnsFit_18 rfl (lv_at hl 2 rfl) ?_
          have h_8 : vp_in v2 64 := lp_in i0 c_1 (by decide)
          refine va_iald hx hb hK hP 5 0 rfl rfl h_8 d_md_pawnsFit_19 ?_
          refine lv_bipush (v := 6) hx hb d_md_pawnsFit_20 (by decide) ?_
          refine lv_irem hx hb d_md_pawnsFit_22 (by decide) ?_
          refine lv_iconst (v := 1) hx hb d_md_pawnsFit_23 (by decide) ?_
          refine lv_icmp_eq (tgt := 47) hx hb d_md_pawnsFit_24 (by decide) (fun c_9 => ?_) (fun c_9 => ?_)
          · have hF := hF.trans (if_pos c_9)
            refine lv_iconst (v := 0) hx hb d_md_pawnsFit_47 (by decide) ?_
            refine lv_istore_n (lv' := [(1, .int (0 : Int32)), (0, .ref Mh), (2, .int v2)]) hx hb d_md_pawnsFit_48 rfl hl (by decide) rfl (fun ls hl => ?_)
            refine lv_iinc (v := v2 + (1 : Int32)) (lv' := [(2, .int (v2 + (1 : Int32))), (1, .int (0 : Int32)), (0, .ref Mh)]) hx hb d_md_pawnsFit_49 hl (k := 2) rfl rfl (by decide) rfl (fun ls hl => ?_)
            refine lv_goto (tgt := 4) hx hb d_md_pawnsFit_52 (by decide) ?_
            exact ih4  (0 : Int32) (v2 + (1 : Int32)) ls (lp_s i0 c_1) (lp_d i0 c_1 (by decide) hm) (lv_sub hl [2, 1, 0] rfl) hF
          · have hF := hF.trans (if_neg c_9)
            refine lv_aload_n hx hb d_md_pawnsFit_27 rfl (lv_at hl 0 rfl) ?_
            refine va_get (D := kD K) (ci := 6) (v := .ref Ma4) (C := R_md) (T := T_md) (N := 21) hx hb htg in_md hown hK hP 0 rfl rfl 13 (by decide) (htg (.fieldLink R_md 29 "GameNotationModel" "newBoard" "[I") q_807) (fun _ h9 => h9) rfl d_md_pawnsFit_28 ?_
            refine lv_bipush (v := 56) hx hb d_md_pawnsFit_31 (by decide) ?_
            refine lv_iload_n hx hb d_md_pawnsFit_33 rfl (lv_at hl 2 rfl) ?_
            refine lv_iadd hx hb d_md_pawnsFit_34 ?_
            have h_10 : vp_in ((56 : Int32) + v2) 64 := pf_in i0 c_1
            refine va_iald hx hb hK hP 5 0 rfl rfl h_10 d_md_pawnsFit_35 ?_
            refine lv_bipush (v := 6) hx hb d_md_pawnsFit_36 (by decide) ?_
            refine lv_irem hx hb d_md_pawnsFit_38 (by decide) ?_
            refine lv_iconst (v := 1) hx hb d_md_pawnsFit_39 (by decide) ?_
            refine lv_icmp_eq (tgt := 47) hx hb d_md_pawnsFit_40 (by decide) (fun c_11 => ?_) (fun c_11 => ?_)
            · have hF := hF.trans (if_pos c_11)
              refine lv_iconst (v := 0) hx hb d_md_pawnsFit_47 (by decide) ?_
              refine lv_istore_n (lv' := [(1, .int (0 : Int32)), (0, .ref Mh), (2, .int v2)]) hx hb d_md_pawnsFit_48 rfl hl (by decide) rfl (fun ls hl => ?_)
              refine lv_iinc (v := v2 + (1 : Int32)) (lv' := [(2, .int (v2 + (1 : Int32))), (1, .int (0 : Int32)), (0, .ref Mh)]) hx hb d_md_pawnsFit_49 hl (k := 2) rfl rfl (by decide) rfl (fun ls hl => ?_)
              refine lv_goto (tgt := 4) hx hb d_md_pawnsFit_52 (by decide) ?_
              exact ih4  (0 : Int32) (v2 + (1 : Int32)) ls (lp_s i0 c_1) (lp_d i0 c_1 (by decide) hm) (lv_sub hl [2, 1, 0] rfl) hF
            · have hF := hF.trans (if_neg c_11)
              refine lv_iconst (v := 1) hx hb d_md_pawnsFit_43 (by decide) ?_
              refine lv_goto (tgt := 48) hx hb d_md_pawnsFit_44 (by decide) ?_
              refine lv_istore_n (lv' := [(1, .int (1 : Int32)), (0, .ref Mh), (2, .int v2)]) hx hb d_md_pawnsFit_48 rfl hl (by decide) rfl (fun ls hl => ?_)
              refine lv_iinc (v := v2 + (1 : Int32)) (lv' := [(2, .int (v2 + (1 : Int32))), (1, .int (1 : Int32)), (0, .ref Mh)]) hx hb d_md_pawnsFit_49 hl (k := 2) rfl rfl (by decide) rfl (fun ls hl => ?_)
              refine lv_goto (tgt := 4) hx hb d_md_pawnsFit_52 (by decide) ?_
              exact ih4  (1 : Int32) (v2 + (1 : Int32)) ls (lp_s i0 c_1) (lp_d i0 c_1 (by decide) hm) (lv_sub hl [2, 1, 0] rfl) hF
  exact loop4 9 (1 : Int32) (0 : Int32) ls (by decide) (by decide) (lv_sub hl [2, 1, 0] rfl) hF
