def f_md_isText_L16 (M_text : (Nat → Int32)) (M_out : (Nat → Int32)) (n_ : Int32) : Nat → Int32 → Int32 → Int32
  | 0, _, _ => 0
  | n + 1, v2, v3 => (if n_ ≤ v3 then v2 else (if v2 = 0 then v2 else (if (M_out v3.toNatClampNeg) = (M_text v3.toNatClampNeg) then (f_md_isText_L16 M_text M_out n_  n (1 : Int32) (v3 + (1 : Int32))) else (f_md_isText_L16 M_text M_out n_  n (0 : Int32) (v3 + (1 : Int32))))))
def f_md_isText (M_text : (Nat → Int32)) (M_out : (Nat → Int32)) (M_outs : Int32) (n_ : Int32) : Int32 := (if M_outs = n_ then (f_md_isText_L16 M_text M_out n_  17 (1 : Int32) (0 : Int32)) else (f_md_isText_L16 M_text M_out n_  17 (0 : Int32) (0 : Int32)))
set_option maxHeartbeats 4000000 in
set_option maxRecDepth 100000 in
theorem c_md_isText (l : Launch) (K : KT) (Mh Ma0 Ma1 Ma2 Ma3 Ma4 Ma5 : Nat) (M_board : (Nat → Int32)) (M_text : (Nat → Int32)) (M_moves : (Nat → Int32)) (M_signs : (Nat → Int32)) (M_newBoard : (Nat → Int32)) (M_out : (Nat → Int32)) (M_thrown : Int32) (M_side : Int32) (M_rights : Int32) (M_passant : Int32) (M_clock : Int32) (M_number : Int32) (M_size : Int32) (M_told : Int32) (M_at : Int32) (M_newSide : Int32) (M_newRights : Int32) (M_newPassant : Int32) (M_newClock : Int32) (M_newNumber : Int32) (M_outs : Int32) (n_ : Int32) : Met l y_md_isText w_md_isText ({ frames := 0, cells := 0, slots := 0, locals := 0 } : Room) (va_Pc [.ref Mh, .int n_] (fun U => pRO K [(Mh, .inr (6, [.int M_thrown, .ref Ma0, .int M_side, .int M_rights, .int M_passant, .int M_clock, .int M_number, .ref Ma1, .int M_size, .int M_told, .ref Ma2, .ref Ma3, .int M_at, .ref Ma4, .int M_newSide, .int M_newRights, .int M_newPassant, .int M_newClock, .int M_newNumber, .ref Ma5, .int M_outs])), (Ma0, .inl ((kI K), 64, .inl M_board)), (Ma1, .inl ((kI K), 100, .inl M_text)), (Ma2, .inl ((kI K), 330, .inl M_moves)), (Ma3, .inl ((kI K), 330, .inl M_signs)), (Ma4, .inl ((kI K), 64, .inl M_newBoard)), (Ma5, .inl ((kI K), 16, .inl M_out))] U ∧ M_outs.toInt ≤ 16 ∧ True)) (vp_Si (fun r => f_md_isText M_text M_out M_outs n_ = r ∧ narrow .boolean (.int r) = .int r)) 0 0 (fun _ => False) := by
  refine Met.ofW (cc := b_md_isText) (maxL := 4) (ret := (some .boolean)) (by decide) rfl ?_
  intro p e s m args below meth c s₁ B hml hv
  obtain ⟨rfl, ⟨hP, hK, hG⟩, h_o1, -⟩ := hv
  have hx := B.exec
  have hb := B.bytes
  have hr := B.returns
  have hts := atoms_spec (ws := w_md_isText) B.pre
  have hown : s.vm.findClass R_md = some m.cls := findClass_of_methodNamed B.named
  have hlocks := B.notSynchronized
  have htg := fun w h => hts w (List.mem_cons_of_mem _ h)
  have hS : va_S (fun _ => False) s.heap s.heap [] := va_S.rf
  have hl := lv_entry ([.ref Mh, .int n_]) (n := 4) (Nat.le_of_ble_eq_true rfl)
  rw [lg_entry_eq]
  generalize (lg_sl ([.ref Mh, .int n_]) ++ List.replicate (4 - (lg_sl ([.ref Mh, .int n_])).length) Slot.unset).toArray = ls at hl ⊢
  have hl : lv_has ls 4 [(0, .ref Mh), (1, .int n_)] := hl
  have z0 : (0 : Int32).toInt = 0 := by decide
  have z1 : (1 : Int32).toInt = 1 := by decide
  have zm1 : (-1 : Int32).toInt = -1 := by decide
  have z2 : (2 : Int32).toInt = 2 := by decide
  have z3 : (3 : Int32).toInt = 3 := by decide
  have z7 : (7 : Int32).toInt = 7 := by decide
  have z8 : (8 : Int32).toInt = 8 := by decide
  have z16 : (16 : Int32).toInt = 16 := by decide
  have z64 : (64 : Int32).toInt = 64 := by decide
  have z100 : (100 : Int32).toInt = 100 := by decide
  have z330 : (330 : Int32).toInt = 330 := by decide
  have hF := f_md_isText.eq_1 M_text M_out M_outs n_
  refine lv_aload_n hx hb d_md_isText_0 rfl (lv_at hl 0 rfl) ?_
  refine va_get (D := kD K) (ci := 6) (v := .int M_outs) (C := R_md) (T := T_md) (N := 21) hx hb htg in_md hown hK hP 0 rfl rfl 20 (by decide) (htg (.fieldLink R_md 158 "GameNotationModel" "outs" "I") q_814) (fun _ h9 => h9) rfl d_md_isText_1 ?_
  refine lv_iload_n hx hb d_md_isText_4 rfl (lv_at hl 1 rfl) ?_
  refine lv_icmp_ne (tgt := 12) hx hb d_md_isText_5 (by decide) (fun c_1 => ?_) (fun c_1 => ?_)
  · have hF := hF.trans (if_neg c_1)
    refine lv_iconst (v := 0) hx hb d_md_isText_12 (by decide) ?_
    refine lv_istore_n (lv' := [(2, .int (0 : Int32)), (0, .ref Mh), (1, .int n_)]) hx hb d_md_isText_13 rfl hl (by decide) rfl (fun ls hl => ?_)
    refine lv_iconst (v := 0) hx hb d_md_isText_14 (by decide) ?_
    refine lv_istore_n (lv' := [(3, .int (0 : Int32)), (2, .int (0 : Int32)), (0, .ref Mh), (1, .int n_)]) hx hb d_md_isText_15 rfl hl (by decide) rfl (fun ls hl => ?_)
    have loop16 : ∀ (n16 : Nat) (v2 : Int32) (v3 : Int32) (ls : Array Slot), 0 ≤ v3.toInt → v2 = 0 ∨ M_outs.toInt ≤ 16 ∧ M_outs = n_ → narrow .boolean (.int v2) = .int v2 → ((16 : Int) - v3.toInt).toNat < n16 → lv_has ls 4 [(0, .ref Mh), (1, .int n_), (2, .int v2), (3, .int v3)] → f_md_isText M_text M_out M_outs n_ = f_md_isText_L16 M_text M_out n_  n16 v2 v3 → W p l e (headSpec w_md_isText ({ frames := 0, cells := 0, slots := 0, locals := 0 } : Room)).room s m ([(.ref Mh : Value), .int n_].toArray) below meth c s.heap [] 0 0 (MQ below (vp_Si (fun r => f_md_isText M_text M_out M_outs n_ = r ∧ narrow .boolean (.int r) = .int r)) ([(.ref Mh : Value), .int n_].toArray) s 0 0 ((fun _ => False))) (F0 m 16 ls []) := by
      intro n16
      induction n16 with
      | zero =>
        intro _ _ _ _ _ _ hz
        exact absurd hz (Nat.not_lt_zero _)
      | succ n16 ih16 =>
        intro v2 v3 ls i0 t0 nb hm hl hF
        rw [f_md_isText_L16] at hF
        refine lv_iload_n hx hb d_md_isText_16 rfl (lv_at hl 3 rfl) ?_
        refine lv_iload_n hx hb d_md_isText_17 rfl (lv_at hl 1 rfl) ?_
        refine lv_icmp_ge (tgt := 52) hx hb d_md_isText_18 (by decide) (fun c_2 => ?_) (fun c_2 => ?_)
        · have hF := hF.trans (if_pos c_2)
          refine lv_iload_n hx hb d_md_isText_52 rfl (lv_at hl 2 rfl) ?_
          exact W.zret (v := v2) hx hb hr (nb) (fun t ht hW => ⟨_, rfl, ⟨hF, nb⟩, ht⟩) hS.2.2 d_md_isText_53
        · have hF := hF.trans (if_neg c_2)
          refine lv_iload_n hx hb d_md_isText_21 rfl (lv_at hl 2 rfl) ?_
          refine lv_if_eq (tgt := 52) hx hb d_md_isText_22 (by decide) (fun c_3 => ?_) (fun c_3 => ?_)
          · have hF := hF.trans (if_pos c_3)
            refine lv_iload_n hx hb d_md_isText_52 rfl (lv_at hl 2 rfl) ?_
            exact W.zret (v := v2) hx hb hr (nb) (fun t ht hW => ⟨_, rfl, ⟨hF, nb⟩, ht⟩) hS.2.2 d_md_isText_53
          · have hF := hF.trans (if_neg c_3)
            refine lv_aload_n hx hb d_md_isText_25 rfl (lv_at hl 0 rfl) ?_
            refine va_get (D := kD K) (ci := 6) (v := .ref Ma5) (C := R_md) (T := T_md) (N := 21) hx hb htg in_md hown hK hP 0 rfl rfl 19 (by decide) (htg (.fieldLink R_md 32 "GameNotationModel" "out" "[I") q_813) (fun _ h9 => h9) rfl d_md_isText_26 ?_
            refine lv_iload_n hx hb d_md_isText_29 rfl (lv_at hl 3 rfl) ?_
            have h_4 : vp_in v3 16 := it_in i0 c_2 c_3 t0 (by decide)
            refine va_iald hx hb hK hP 6 0 rfl rfl h_4 d_md_isText_30 ?_
            refine lv_aload_n hx hb d_md_isText_31 rfl (lv_at hl 0 rfl) ?_
            refine va_get (D := kD K) (ci := 6) (v := .ref Ma1) (C := R_md) (T := T_md) (N := 21) hx hb htg in_md hown hK hP 0 rfl rfl 7 (by decide) (htg (.fieldLink R_md 20 "GameNotationModel" "text" "[I") q_801) (fun _ h9 => h9) rfl d_md_isText_32 ?_
            refine lv_iload_n hx hb d_md_isText_35 rfl (lv_at hl 3 rfl) ?_
            have h_5 : vp_in v3 100 := it_in i0 c_2 c_3 t0 (by decide)
            refine va_iald hx hb hK hP 2 0 rfl rfl h_5 d_md_isText_36 ?_
            refine lv_icmp_ne (tgt := 44) hx hb d_md_isText_37 (by decide) (fun c_6 => ?_) (fun c_6 => ?_)
            · have hF := hF.trans (if_neg c_6)
              refine lv_iconst (v := 0) hx hb d_md_isText_44 (by decide) ?_
              refine lv_istore_n (lv' := [(2, .int (0 : Int32)), (0, .ref Mh), (1, .int n_), (3, .int v3)]) hx hb d_md_isText_45 rfl hl (by decide) rfl (fun ls hl => ?_)
              refine lv_iinc (v := v3 + (1 : Int32)) (lv' := [(3, .int (v3 + (1 : Int32))), (2, .int (0 : Int32)), (0, .ref Mh), (1, .int n_)]) hx hb d_md_isText_46 hl (k := 3) rfl rfl (by decide) rfl (fun ls hl => ?_)
              refine lv_goto (tgt := 16) hx hb d_md_isText_49 (by decide) ?_
              exact ih16  (0 : Int32) (v3 + (1 : Int32)) ls (lp_s i0 c_2) (by first | exact Or.inl rfl | exact Or.inr (t0.resolve_left c_3)) (rfl) (it_d i0 c_2 c_3 t0 hm) (lv_sub hl [2, 3, 1, 0] rfl) hF
            · have hF := hF.trans (if_pos c_6)
              refine lv_iconst (v := 1) hx hb d_md_isText_40 (by decide) ?_
              refine lv_goto (tgt := 45) hx hb d_md_isText_41 (by decide) ?_
              refine lv_istore_n (lv' := [(2, .int (1 : Int32)), (0, .ref Mh), (1, .int n_), (3, .int v3)]) hx hb d_md_isText_45 rfl hl (by decide) rfl (fun ls hl => ?_)
              refine lv_iinc (v := v3 + (1 : Int32)) (lv' := [(3, .int (v3 + (1 : Int32))), (2, .int (1 : Int32)), (0, .ref Mh), (1, .int n_)]) hx hb d_md_isText_46 hl (k := 3) rfl rfl (by decide) rfl (fun ls hl => ?_)
              refine lv_goto (tgt := 16) hx hb d_md_isText_49 (by decide) ?_
              exact ih16  (1 : Int32) (v3 + (1 : Int32)) ls (lp_s i0 c_2) (by first | exact Or.inl rfl | exact Or.inr (t0.resolve_left c_3)) (rfl) (it_d i0 c_2 c_3 t0 hm) (lv_sub hl [2, 3, 1, 0] rfl) hF
    exact loop16 17 (0 : Int32) (0 : Int32) ls (by decide) (by first | exact Or.inl rfl | exact Or.inr ⟨h_o1, c_1⟩) (rfl) (by decide) (lv_sub hl [2, 3, 1, 0] rfl) hF
  · have hF := hF.trans (if_pos c_1)
    refine lv_iconst (v := 1) hx hb d_md_isText_8 (by decide) ?_
    refine lv_goto (tgt := 13) hx hb d_md_isText_9 (by decide) ?_
    refine lv_istore_n (lv' := [(2, .int (1 : Int32)), (0, .ref Mh), (1, .int n_)]) hx hb d_md_isText_13 rfl hl (by decide) rfl (fun ls hl => ?_)
    refine lv_iconst (v := 0) hx hb d_md_isText_14 (by decide) ?_
    refine lv_istore_n (lv' := [(3, .int (0 : Int32)), (2, .int (1 : Int32)), (0, .ref Mh), (1, .int n_)]) hx hb d_md_isText_15 rfl hl (by decide) rfl (fun ls hl => ?_)
    have loop16 : ∀ (n16 : Nat) (v2 : Int32) (v3 : Int32) (ls : Array Slot), 0 ≤ v3.toInt → v2 = 0 ∨ M_outs.toInt ≤ 16 ∧ M_outs = n_ → narrow .boolean (.int v2) = .int v2 → ((16 : Int) - v3.toInt).toNat < n16 → lv_has ls 4 [(0, .ref Mh), (1, .int n_), (2, .int v2), (3, .int v3)] → f_md_isText M_text M_out M_outs n_ = f_md_isText_L16 M_text M_out n_  n16 v2 v3 → W p l e (headSpec w_md_isText ({ frames := 0, cells := 0, slots := 0, locals := 0 } : Room)).room s m ([(.ref Mh : Value), .int n_].toArray) below meth c s.heap [] 0 0 (MQ below (vp_Si (fun r => f_md_isText M_text M_out M_outs n_ = r ∧ narrow .boolean (.int r) = .int r)) ([(.ref Mh : Value), .int n_].toArray) s 0 0 ((fun _ => False))) (F0 m 16 ls []) := by
      intro n16
      induction n16 with
      | zero =>
        intro _ _ _ _ _ _ hz
        exact absurd hz (Nat.not_lt_zero _)
      | succ n16 ih16 =>
        intro v2 v3 ls i0 t0 nb hm hl hF
        rw [f_md_isText_L16] at hF
        refine lv_iload_n hx hb d_md_isText_16 rfl (lv_at hl 3 rfl) ?_
        refine lv_iload_n hx hb d_md_isText_17 rfl (lv_at hl 1 rfl) ?_
        refine lv_icmp_ge (tgt := 52) hx hb d_md_isText_18 (by decide) (fun c_7 => ?_) (fun c_7 => ?_)
        · have hF := hF.trans (if_pos c_7)
          refine lv_iload_n hx hb d_md_isText_52 rfl (lv_at hl 2 rfl) ?_
          exact W.zret (v := v2) hx hb hr (nb) (fun t ht hW => ⟨_, rfl, ⟨hF, nb⟩, ht⟩) hS.2.2 d_md_isText_53
        · have hF := hF.trans (if_neg c_7)
          refine lv_iload_n hx hb d_md_isText_21 rfl (lv_at hl 2 rfl) ?_
          refine lv_if_eq (tgt := 52) hx hb d_md_isText_22 (by decide) (fun c_8 => ?_) (fun c_8 => ?_)
          · have hF := hF.trans (if_pos c_8)
            refine lv_iload_n hx hb d_md_isText_52 rfl (lv_at hl 2 rfl) ?_
            exact W.zret (v := v2) hx hb hr (nb) (fun t ht hW => ⟨_, rfl, ⟨hF, nb⟩, ht⟩) hS.2.2 d_md_isText_53
          · have hF := hF.trans (if_neg c_8)
            refine lv_aload_n hx hb d_md_isText_25 rfl (lv_at hl 0 rfl) ?_
            refine va_get (D := kD K) (ci := 6) (v := .ref Ma5) (C := R_md) (T := T_md) (N := 21) hx hb htg in_md hown hK hP 0 rfl rfl 19 (by decide) (htg (.fieldLink R_md 32 "GameNotationModel" "out" "[I") q_813) (fun _ h9 => h9) rfl d_md_isText_26 ?_
            refine lv_iload_n hx hb d_md_isText_29 rfl (lv_at hl 3 rfl) ?_
            have h_9 : vp_in v3 16 := it_in i0 c_7 c_8 t0 (by decide)
            refine va_iald hx hb hK hP 6 0 rfl rfl h_9 d_md_isText_30 ?_
            refine lv_aload_n hx hb d_md_isText_31 rfl (lv_at hl 0 rfl) ?_
            refine va_get (D := kD K) (ci := 6) (v := .ref Ma1) (C := R_md) (T := T_md) (N := 21) hx hb htg in_md hown hK hP 0 rfl rfl 7 (by decide) (htg (.fieldLink R_md 20 "GameNotationModel" "text" "[I") q_801) (fun _ h9 => h9) rfl d_md_isText_32 ?_
            refine lv_iload_n hx hb d_md_isText_35 rfl (lv_at hl 3 rfl) ?_
            have h_10 : vp_in v3 100 := it_in i0 c_7 c_8 t0 (by decide)
            refine va_iald hx hb hK hP 2 0 rfl rfl h_10 d_md_isText_36 ?_
            refine lv_icmp_ne (tgt := 44) hx hb d_md_isText_37 (by decide) (fun c_11 => ?_) (fun c_11 => ?_)
            · have hF := hF.trans (if_neg c_11)
              refine lv_iconst (v := 0) hx hb d_md_isText_44 (by decide) ?_
              refine lv_istore_n (lv' := [(2, .int (0 : Int32)), (0, .ref Mh), (1, .int n_), (3, .int v3)]) hx hb d_md_isText_45 rfl hl (by decide) rfl (fun ls hl => ?_)
              refine lv_iinc (v := v3 + (1 : Int32)) (lv' := [(3, .int (v3 + (1 : Int32))), (2, .int (0 : Int32)), (0, .ref Mh), (1, .int n_)]) hx hb d_md_isText_46 hl (k := 3) rfl rfl (by decide) rfl (fun ls hl => ?_)
              refine lv_goto (tgt := 16) hx hb d_md_isText_49 (by decide) ?_
              exact ih16  (0 : Int32) (v3 + (1 : Int32)) ls (lp_s i0 c_7) (by first | exact Or.inl rfl | exact Or.inr (t0.resolve_left c_8)) (rfl) (it_d i0 c_7 c_8 t0 hm) (lv_sub hl [2, 3, 1, 0] rfl) hF
            · have hF := hF.trans (if_pos c_11)
              refine lv_iconst (v := 1) hx hb d_md_isText_40 (by decide) ?_
              refine lv_goto (tgt := 45) hx hb d_md_isText_41 (by decide) ?_
              refine lv_istore_n (lv' := [(2, .int (1 : Int32)), (0, .ref Mh), (1, .int n_), (3, .int v3)]) hx hb d_md_isText_45 rfl hl (by decide) rfl (fun ls hl => ?_)
              refine lv_iinc (v := v3 + (1 : Int32)) (lv' := [(3, .int (v3 + (1 : Int32))), (2, .int (1 : Int32)), (0, .ref Mh), (1, .int n_)]) hx hb d_md_isText_46 hl (k := 3) rfl rfl (by decide) rfl (fun ls hl => ?_)
              refine lv_goto (tgt := 16) hx hb d_md_isText_49 (by decide) ?_
              exact ih16  (1 : Int32) (v3 + (1 : Int32)) ls (lp_s i0 c_7) (by first | exact Or.inl rfl | exact Or.inr (t0.resolve_left c_8)) (rfl) (it_d i0 c_7 c_8 t0 hm) (lv_sub hl [2, 3, 1, 0] rfl) hF
    exact loop16 17 (1 : Int32) (0 : Int32) ls (by decide) (by first | exact Or.inl rfl | exact Or.inr ⟨h_o1, c_1⟩) (rfl) (by decide) (lv_sub hl [2, 3, 1, 0] rfl) hF
def f_md_isFile (M_text : (Nat → Int32)) (M_size : Int32) (M_at : Int32) : Int32 := (bnd (f_md_peek M_text M_size M_at) (fun r_1 => (if r_1 < (97 : Int32) then (0 : Int32) else (bnd (f_md_peek M_text M_size M_at) (fun r_3 => (if (104 : Int32) < r_3 then (0 : Int32) else (1 : Int32)))))))
set_option maxHeartbeats 4000000 in
set_option maxRecDepth 100000 in
theorem c_md_isFile (l : Launch) (K : KT) (Mh Ma0 Ma1 Ma2 Ma3 Ma4 Ma5 : Nat) (M_board : (Nat → Int32)) (M_text : (Nat → Int32)) (M_moves : (Nat → Int32)) (M_signs : (Nat → Int32)) (M_newBoard : (Nat → Int32)) (M_out : (Nat → Int32)) (M_thrown : Int32) (M_side : Int32) (M_rights : Int32) (M_passant : Int32) (M_clock : Int32) (M_number : Int32) (M_size : Int32) (M_told : Int32) (M_at : Int32) (M_newSide : Int32) (M_newRights : Int32) (M_newPassant : Int32) (M_newClock : Int32) (M_newNumber : Int32) (M_outs : Int32) : Met l y_md_isFile w_md_isFile ({ frames := 1, cells := 0, slots := 0, locals := 20 } : Room) (va_Pc [.ref Mh] (fun U => pRO K [(Mh, .inr (6, [.int M_thrown, .ref Ma0, .int M_side, .int M_rights, .int M_passant, .int M_clock, .int M_number, .ref Ma1, .int M_size, .int M_told, .ref Ma2, .ref Ma3, .int M_at, .ref Ma4, .int M_newSide, .int M_newRights, .int M_newPassant, .int M_newClock, .int M_newNumber, .ref Ma5, .int M_outs])), (Ma0, .inl ((kI K), 64, .inl M_board)), (Ma1, .inl ((kI K), 100, .inl M_text)), (Ma2, .inl ((kI K), 330, .inl M_moves)), (Ma3, .inl ((kI K), 330, .inl M_signs)), (Ma4, .inl ((kI K), 64, .inl M_newBoard)), (Ma5, .inl ((kI K), 16, .inl M_out))] U ∧ 0 ≤ M_at.toInt ∧ M_size.toInt ≤ 100 ∧ True)) (vp_Si (fun r => f_md_isFile M_text M_size M_at = r ∧ narrow .boolean (.int r) = .int r)) 0 0 (fun _ => False) := by
  refine Met.ofW (cc := b_md_isFile) (maxL := 1) (ret := (some .boolean)) (by decide) rfl ?_
  intro p e s m args below meth c s₁ B hml hv
  obtain ⟨rfl, ⟨hP, hK, hG⟩, h_a, h_s, -⟩ := hv
  have hx := B.exec
  have hb := B.bytes
  have hr := B.returns
  have hts := atoms_spec (ws := w_md_isFile) B.pre
  have hown : s.vm.findClass R_md = some m.cls := findClass_of_methodNamed B.named
  have hlocks := B.notSynchronized
  have htg := fun w h => hts w (List.mem_cons_of_mem _ h)
  have hS : va_S (fun _ => False) s.heap s.heap [] := va_S.rf
  have hl := lv_entry ([.ref Mh]) (n := 1) (Nat.le_of_ble_eq_true rfl)
  rw [lg_entry_eq]
  generalize (lg_sl ([.ref Mh]) ++ List.replicate (1 - (lg_sl ([.ref Mh])).length) Slot.unset).toArray = ls at hl ⊢
  have hl : lv_has ls 1 [(0, .ref Mh)] := hl
  have z0 : (0 : Int32).toInt = 0 := by decide
  have z1 : (1 : Int32).toInt = 1 := by decide
  have zm1 : (-1 : Int32).toInt = -1 := by decide
  have z2 : (2 : Int32).toInt = 2 := by decide
  have z3 : (3 : Int32).toInt = 3 := by decide
  have z7 : (7 : Int32).toInt = 7 := by decide
  have z8 : (8 : Int32).toInt = 8 := by decide
  have z16 : (16 : Int32).toInt = 16 := by decide
  have z64 : (64 : Int32).toInt = 64 := by decide
  have z100 : (100 : Int32).toInt = 100 := by decide
  have z330 : (330 : Int32).toInt = 330 := by decide
  have hF := f_md_isFile.eq_1 M_text M_size M_at
  refine lv_aload_n hx hb d_md_isFile_0 rfl (lv_at hl 0 rfl) ?_
  have hPc : va_P (kD K) vwCl [(Mh, .inr (6, [.int M_thrown, .ref Ma0, .int M_side, .int M_rights, .int M_passant, .int M_clock, .int M_number, .ref Ma1, .int M_size, .int M_told, .ref Ma2, .ref Ma3, .int M_at, .ref Ma4, .int M_newSide, .int M_newRights, .int M_newPassant, .int M_newClock, .int M_newNumber, .ref Ma5, .int M_outs])), (Ma0, .inl ((kI K), 64, .inl M_board)), (Ma1, .inl ((kI K), 100, .inl M_text)), (Ma2, .inl ((kI K), 330, .inl M_moves)), (Ma3, .inl ((kI K), 330, .inl M_signs)), (Ma4, .inl ((kI K), 64, .inl M_newBoard)), (Ma5, .inl ((kI K), 16, .inl M_out))] _ := hP.sub [0, 1, 2, 3, 4, 5, 6] rfl
  refine vp_callSi (va_Run.run (va_runV (As := []) (rest := []) ⟨hx, hb, hml, hown, htg⟩ (c_md_peek l K Mh Ma0 Ma1 Ma2 Ma3 Ma4 Ma5 M_board M_text M_moves M_signs M_newBoard M_out M_thrown M_side M_rights M_passant M_clock M_number M_size M_told M_at M_newSide M_newRights M_newPassant M_newClock M_newNumber M_outs) (cwV 0 htg (g_V q_887 q_889 qs_34 q_7 (g_w q_890)) rfl rfl rfl ⟨rfl, k_md_peek⟩ ⟨Nat.le_of_ble_eq_true rfl, Nat.le_of_ble_eq_true rfl⟩) ⟨ro_blind, va_recv hK hPc (ci := 6) (q0 := 0) rfl rfl, ro_use hPc hK hG hS ⟨(by first | assumption | omega), (by first | assumption | omega), trivial⟩⟩ rfl rfl hl.1 rfl (lv_room (Nat.le_of_ble_eq_true rfl)) d_md_isFile_1 ⟨Nat.zero_le _, Nat.zero_le _⟩)) (fun r_1 hw_1 => ?_)
  have hF := hF.trans (bnd_s hw_1.1)
  have fp_1_0 : r_1 = 0 ∨ M_at.toInt < M_size.toInt := hw_1.2.1
  refine lv_bipush (v := 97) hx hb d_md_isFile_4 (by decide) ?_
  refine lv_icmp_lt (tgt := 22) hx hb d_md_isFile_6 (by decide) (fun c_2 => ?_) (fun c_2 => ?_)
  · have hF := hF.trans (if_pos c_2)
    refine lv_iconst (v := 0) hx hb d_md_isFile_22 (by decide) ?_
    exact W.zret (v := (0 : Int32)) hx hb hr (rfl) (fun t ht hW => ⟨_, rfl, ⟨hF, rfl⟩, ht⟩) hS.2.2 d_md_isFile_23
  · have hF := hF.trans (if_neg c_2)
    refine lv_aload_n hx hb d_md_isFile_9 rfl (lv_at hl 0 rfl) ?_
    have hPc : va_P (kD K) vwCl [(Mh, .inr (6, [.int M_thrown, .ref Ma0, .int M_side, .int M_rights, .int M_passant, .int M_clock, .int M_number, .ref Ma1, .int M_size, .int M_told, .ref Ma2, .ref Ma3, .int M_at, .ref Ma4, .int M_newSide, .int M_newRights, .int M_newPassant, .int M_newClock, .int M_newNumber, .ref Ma5, .int M_outs])), (Ma0, .inl ((kI K), 64, .inl M_board)), (Ma1, .inl ((kI K), 100, .inl M_text)), (Ma2, .inl ((kI K), 330, .inl M_moves)), (Ma3, .inl ((kI K), 330, .inl M_signs)), (Ma4, .inl ((kI K), 64, .inl M_newBoard)), (Ma5, .inl ((kI K), 16, .inl M_out))] _ := hP.sub [0, 1, 2, 3, 4, 5, 6] rfl
    refine vp_callSi (va_Run.run (va_runV (As := []) (rest := []) ⟨hx, hb, hml, hown, htg⟩ (c_md_peek l K Mh Ma0 Ma1 Ma2 Ma3 Ma4 Ma5 M_board M_text M_moves M_signs M_newBoard M_out M_thrown M_side M_rights M_passant M_clock M_number M_size M_told M_at M_newSide M_newRights M_newPassant M_newClock M_newNumber M_outs) (cwV 0 htg (g_V q_887 q_889 qs_34 q_7 (g_w q_890)) rfl rfl rfl ⟨rfl, k_md_peek⟩ ⟨Nat.le_of_ble_eq_true rfl, Nat.le_of_ble_eq_true rfl⟩) ⟨ro_blind, va_recv hK hPc (ci := 6) (q0 := 0) rfl rfl, ro_use hPc hK hG hS ⟨(by first | assumption | omega), (by first | assumption | omega), trivial⟩⟩ rfl rfl hl.1 rfl (lv_room (Nat.le_of_ble_eq_true rfl)) d_md_isFile_10 ⟨Nat.zero_le _, Nat.zero_le _⟩)) (fun r_3 hw_3 => ?_)
    have hF := hF.trans (bnd_s hw_3.1)
    have fp_3_0 : r_3 = 0 ∨ M_at.toInt < M_size.toInt := hw_3.2.1
    refine lv_bipush (v := 104) hx hb d_md_isFile_13 (by decide) ?_
    refine lv_icmp_gt (tgt := 22) hx hb d_md_isFile_15 (by decide) (fun c_4 => ?_) (fun c_4 => ?_)
    · have hF := hF.trans (if_pos c_4)
      refine lv_iconst (v := 0) hx hb d_md_isFile_22 (by decide) ?_
      exact W.zret (v := (0 : Int32)) hx hb hr (rfl) (fun t ht hW => ⟨_, rfl, ⟨hF, rfl⟩, ht⟩) hS.2.2 d_md_isFile_23
    · have hF := hF.trans (if_neg c_4)
      refine lv_iconst (v := 1) hx hb d_md_isFile_18 (by decide) ?_
      refine lv_goto (tgt := 23) hx hb d_md_isFile_19 (by decide) ?_
      exact W.zret (v := (1 : Int32)) hx hb hr (rfl) (fun t ht hW => ⟨_, rfl, ⟨hF, rfl⟩, ht⟩) hS.2.2 d_md_isFile_23
def f_md_isRank (M_text : (Nat → Int32)) (M_size : Int32) (M_at : Int32) : Int32 := (bnd (f_md_peek M_text M_size M_at) (fun r_1 => (if r_1 < (49 : Int32) then (0 : Int32) else (bnd (f_md_peek M_text M_size M_at) (fun r_3 => (if (56 : Int32) < r_3 then (0 : Int32) else (1 : Int32)))))))
set_option maxHeartbeats 4000000 in
set_option maxRecDepth 100000 in
theorem c_md_isRank (l : Launch) (K : KT) (Mh Ma0 Ma1 Ma2 Ma3 Ma4 Ma5 : Nat) (M_board : (Nat → Int32)) (M_text : (Nat → Int32)) (M_moves : (Nat → Int32)) (M_signs : (Nat → Int32)) (M_newBoard : (Nat → Int32)) (M_out : (Nat → Int32)) (M_thrown : Int32) (M_side : Int32) (M_rights : Int32) (M_passant : Int32) (M_clock : Int32) (M_number : Int32) (M_size : Int32) (M_told : Int32) (M_at : Int32) (M_newSide : Int32) (M_newRights : Int32) (M_newPassant : Int32) (M_newClock : Int32) (M_newNumber : Int32) (M_outs : Int32) : Met l y_md_isRank w_md_isRank ({ frames := 1, cells := 0, slots := 0, locals := 20 } : Room) (va_Pc [.ref Mh] (fun U => pRO K [(Mh, .inr (6, [.int M_thrown, .ref Ma0, .int M_side, .int M_rights, .int M_passant, .int M_clock, .int M_number, .ref Ma1, .int M_size, .int M_told, .ref Ma2, .ref Ma3, .int M_at, .ref Ma4, .int M_newSide, .int M_newRights, .int M_newPassant, .int M_newClock, .int M_newNumber, .ref Ma5, .int M_outs])), (Ma0, .inl ((kI K), 64, .inl M_board)), (Ma1, .inl ((kI K), 100, .inl M_text)), (Ma2, .inl ((kI K), 330, .inl M_moves)), (Ma3, .inl ((kI K), 330, .inl M_signs)), (Ma4, .inl ((kI K), 64, .inl M_newBoard)), (Ma5, .inl ((kI K), 16, .inl M_out))] U ∧ 0 ≤ M_at.toInt ∧ M_size.toInt ≤ 100 ∧ True)) (vp_Si (fun r => f_md_isRank M_text M_size M_at = r ∧ narrow .boolean (.int r) = .int r ∧ (r = 0 ∨ M_at.toInt < M_size.toInt) ∧ True)) 0 0 (fun _ => False) := by
  refine Met.ofW (cc := b_md_isRank) (maxL := 1) (ret := (some .boolean)) (by decide) rfl ?_
  intro p e s m args below meth c s₁ B hml hv
  obtain ⟨rfl, ⟨hP, hK, hG⟩, h_a, h_s, -⟩ := hv
  have hx := B.exec
  have hb := B.bytes
  have hr := B.returns
  have hts := atoms_spec (ws := w_md_isRank) B.pre
  have hown : s.vm.findClass R_md = some m.cls := findClass_of_methodNamed B.named
  have hlocks := B.notSynchronized
  have htg := fun w h => hts w (List.mem_cons_of_mem _ h)
  have hS : va_S (fun _ => False) s.heap s.heap [] := va_S.rf
  have hl := lv_entry ([.ref Mh]) (n := 1) (Nat.le_of_ble_eq_true rfl)
  rw [lg_entry_eq]
  generalize (lg_sl ([.ref Mh]) ++ List.replicate (1 - (lg_sl ([.ref Mh])).length) Slot.unset).toArray = ls at hl ⊢
  have hl : lv_has ls 1 [(0, .ref Mh)] := hl
  have z0 : (0 : Int32).toInt = 0 := by decide
  have z1 : (1 : Int32).toInt = 1 := by decide
  have zm1 : (-1 : Int32).toInt = -1 := by decide
  have z2 : (2 : Int32).toInt = 2 := by decide
  have z3 : (3 : Int32).toInt = 3 := by decide
  have z7 : (7 : Int32).toInt = 7 := by decide
  have z8 : (8 : Int32).toInt = 8 := by decide
  have z16 : (16 : Int32).toInt = 16 := by decide
  have z64 : (64 : Int32).toInt = 64 := by decide
  have z100 : (100 : Int32).toInt = 100 := by decide
  have z330 : (330 : Int32).toInt = 330 := by decide
  have hF := f_md_isRank.eq_1 M_text M_size M_at
  refine lv_aload_n hx hb d_md_isRank_0 rfl (lv_at hl 0 rfl) ?_
  have hPc : va_P (kD K) vwCl [(Mh, .inr (6, [.int M_thrown, .ref Ma0, .int M_side, .int M_rights, .int M_passant, .int M_clock, .int M_number, .ref Ma1, .int M_size, .int M_told, .ref Ma2, .ref Ma3, .int M_at, .ref Ma4, .int M_newSide, .int M_newRights, .int M_newPassant, .int M_newClock, .int M_newNumber, .ref Ma5, .int M_outs])), (Ma0, .inl ((kI K), 64, .inl M_board)), (Ma1, .inl ((kI K), 100, .inl M_text)), (Ma2, .inl ((kI K), 330, .inl M_moves)), (Ma3, .inl ((kI K), 330, .inl M_signs)), (Ma4, .inl ((kI K), 64, .inl M_newBoard)), (Ma5, .inl ((kI K), 16, .inl M_out))] _ := hP.sub [0, 1, 2, 3, 4, 5, 6] rfl
  refine vp_callSi (va_Run.run (va_runV (As := []) (rest := []) ⟨hx, hb, hml, hown, htg⟩ (c_md_peek l K Mh Ma0 Ma1 Ma2 Ma3 Ma4 Ma5 M_board M_text M_moves M_signs M_newBoard M_out M_thrown M_side M_rights M_passant M_clock M_number M_size M_told M_at M_newSide M_newRights M_newPassant M_newClock M_newNumber M_outs) (cwV 0 htg (g_V q_887 q_889 qs_34 q_7 (g_w q_890)) rfl rfl rfl ⟨rfl, k_md_peek⟩ ⟨Nat.le_of_ble_eq_true rfl, Nat.le_of_ble_eq_true rfl⟩) ⟨ro_blind, va_recv hK hPc (ci := 6) (q0 := 0) rfl rfl, ro_use hPc hK hG hS ⟨(by first | assumption | omega), (by first | assumption | omega), trivial⟩⟩ rfl rfl hl.1 rfl (lv_room (Nat.le_of_ble_eq_true rfl)) d_md_isRank_1 ⟨Nat.zero_le _, Nat.zero_le _⟩)) (fun r_1 hw_1 => ?_)
  have hF := hF.trans (bnd_s hw_1.1)
  have fp_1_0 : r_1 = 0 ∨ M_at.toInt < M_size.toInt := hw_1.2.1
  refine lv_bipush (v := 49) hx hb d_md_isRank_4 (by decide) ?_
  refine lv_icmp_lt (tgt := 22) hx hb d_md_isRank_6 (by decide) (fun c_2 => ?_) (fun c_2 => ?_)
  · have hF := hF.trans (if_pos c_2)
    refine lv_iconst (v := 0) hx hb d_md_isRank_22 (by decide) ?_
    exact W.zret (v := (0 : Int32)) hx hb hr (rfl) (fun t ht hW => ⟨_, rfl, ⟨hF, rfl, (by first | exact Or.inl rfl | exact Or.inr (c49_n c_2 fp_1_0)), trivial⟩, ht⟩) hS.2.2 d_md_isRank_23
  · have hF := hF.trans (if_neg c_2)
    refine lv_aload_n hx hb d_md_isRank_9 rfl (lv_at hl 0 rfl) ?_
    have hPc : va_P (kD K) vwCl [(Mh, .inr (6, [.int M_thrown, .ref Ma0, .int M_side, .int M_rights, .int M_passant, .int M_clock, .int M_number, .ref Ma1, .int M_size, .int M_told, .ref Ma2, .ref Ma3, .int M_at, .ref Ma4, .int M_newSide, .int M_newRights, .int M_newPassant, .int M_newClock, .int M_newNumber, .ref Ma5, .int M_outs])), (Ma0, .inl ((kI K), 64, .inl M_board)), (Ma1, .inl ((kI K), 100, .inl M_text)), (Ma2, .inl ((kI K), 330, .inl M_moves)), (Ma3, .inl ((kI K), 330, .inl M_signs)), (Ma4, .inl ((kI K), 64, .inl M_newBoard)), (Ma5, .inl ((kI K), 16, .inl M_out))] _ := hP.sub [0, 1, 2, 3, 4, 5, 6] rfl
    refine vp_callSi (va_Run.run (va_runV (As := []) (rest := []) ⟨hx, hb, hml, hown, htg⟩ (c_md_peek l K Mh Ma0 Ma1 Ma2 Ma3 Ma4 Ma5 M_board M_text M_moves M_signs M_newBoard M_out M_thrown M_side M_rights M_passant M_clock M_number M_size M_told M_at M_newSide M_newRights M_newPassant M_newClock M_newNumber M_outs) (cwV 0 htg (g_V q_887 q_889 qs_34 q_7 (g_w q_890)) rfl rfl rfl ⟨rfl, k_md_peek⟩ ⟨Nat.le_of_ble_eq_true rfl, Nat.le_of_ble_eq_true rfl⟩) ⟨ro_blind, va_recv hK hPc (ci := 6) (q0 := 0) rfl rfl, ro_use hPc hK hG hS ⟨(by first | assumption | omega), (by first | assumption | omega), trivial⟩⟩ rfl rfl hl.1 rfl (lv_room (Nat.le_of_ble_eq_true rfl)) d_md_isRank_10 ⟨Nat.zero_le _, Nat.zero_le _⟩)) (fun r_3 hw_3 => ?_)
    have hF := hF.trans (bnd_s hw_3.1)
    have fp_3_0 : r_3 = 0 ∨ M_at.toInt < M_size.toInt := hw_3.2.1
    refine lv_bipush (v := 56) hx hb d_md_isRank_13 (by decide) ?_
    refine lv_icmp_gt (tgt := 22) hx hb d_md_isRank_15 (by decide) (fun c_4 => ?_) (fun c_4 => ?_)
    · have hF := hF.trans (if_pos c_4)
      refine lv_iconst (v := 0) hx hb d_md_isRank_22 (by decide) ?_
      exact W.zret (v := (0 : Int32)) hx hb hr (rfl) (fun t ht hW => ⟨_, rfl, ⟨hF, rfl, (by first | exact Or.inl rfl | exact Or.inr (c49_n c_2 fp_1_0)), trivial⟩, ht⟩) hS.2.2 d_md_isRank_23
    · have hF := hF.trans (if_neg c_4)
      refine lv_iconst (v := 1) hx hb d_md_isRank_18 (by decide) ?_
      refine lv_goto (tgt := 23) hx hb d_md_isRank_19 (by decide) ?_
      exact W.zret (v := (1 : Int32)) hx hb hr (rfl) (fun t ht hW => ⟨_, rfl, ⟨hF, rfl, (by first | exact Or.inl rfl | exact Or.inr (c49_n c_2 fp_1_0)), trivial⟩, ht⟩) hS.2.2 d_md_isRank_23
def f_md_isOfficer (ch : Int32) (kg : Int32) : Int32 := (if ch = (81 : Int32) then (1 : Int32) else (if ch = (82 : Int32) then (1 : Int32) else (if ch = (66 : Int32) then (1 : Int32) else (if ch = (78 : Int32) then (1 : Int32) else (if kg = 0 then (0 : Int32) else (if ch = (75 : Int32) then (1 : Int32) else (0 : Int32)))))))
set_option maxHeartbeats 4000000 in
set_option maxRecDepth 100000 in
theorem c_md_isOfficer (l : Launch) (K : KT) (ch : Int32) (kg : Int32) : Met l y_md_isOfficer w_md_isOfficer ({ frames := 0, cells := 0, slots := 0, locals := 0 } : Room) (va_Pc [.int ch, .int kg] (fun U => pRO K [] U ∧ True)) (vp_Si (fun r => f_md_isOfficer ch kg = r ∧ narrow .boolean (.int r) = .int r)) 0 0 (fun _ => False) := by
  refine Met.ofW (cc := b_md_isOfficer) (maxL := 2) (ret := (some .boolean)) (by decide) rfl ?_
  intro p e s m args below meth c s₁ B hml hv
  obtain ⟨rfl, ⟨hP, hK, hG⟩, -⟩ := hv
  have hx := B.exec
  have hb := B.bytes
  have hr := B.returns
  have hts := atoms_spec (ws := w_md_isOfficer) B.pre
  have hown : s.vm.findClass R_md = some m.cls := findClass_of_methodNamed B.named
  have hlocks := B.notSynchronized
  have htg := fun w h => hts w (List.mem_cons_of_mem _ h)
  have hS : va_S (fun _ => False) s.heap s.heap [] := va_S.rf
  have hl := lv_entry ([.int ch, .int kg]) (n := 2) (Nat.le_of_ble_eq_true rfl)
  rw [lg_entry_eq]
  generalize (lg_sl ([.int ch, .int kg]) ++ List.replicate (2 - (lg_sl ([.int ch, .int kg])).length) Slot.unset).toArray = ls at hl ⊢
  have hl : lv_has ls 2 [(0, .int ch), (1, .int kg)] := hl
  have z0 : (0 : Int32).toInt = 0 := by decide
  have z1 : (1 : Int32).toInt = 1 := by decide
  have zm1 : (-1 : Int32).toInt = -1 := by decide
  have z2 : (2 : Int32).toInt = 2 := by decide
  have z3 : (3 : Int32).toInt = 3 := by decide
  have z7 : (7 : Int32).toInt = 7 := by decide
  have z8 : (8 : Int32).toInt = 8 := by decide
  have z16 : (16 : Int32).toInt = 16 := by decide
  have z64 : (64 : Int32).toInt = 64 := by decide
  have z100 : (100 : Int32).toInt = 100 := by decide
  have z330 : (330 : Int32).toInt = 330 := by decide
  have hF := f_md_isOfficer.eq_1 ch kg
  refine lv_iload_n hx hb d_md_isOfficer_0 rfl (lv_at hl 0 rfl) ?_
  refine lv_bipush (v := 81) hx hb d_md_isOfficer_1 (by decide) ?_
  refine lv_icmp_eq (tgt := 34) hx hb d_md_isOfficer_3 (by decide) (fun c_1 => ?_) (fun c_1 => ?_)
  · have hF := hF.trans (if_pos c_1)
    refine lv_iconst (v := 1) hx hb d_md_isOfficer_34 (by decide) ?_
    refine lv_goto (tgt := 39) hx hb d_md_isOfficer_35 (by decide) ?_
    exact W.zret (v := (1 : Int32)) hx hb hr (rfl) (fun t ht hW => ⟨_, rfl, ⟨hF, rfl⟩, ht⟩) hS.2.2 d_md_isOfficer_39
  · have hF := hF.trans (if_neg c_1)
    refine lv_iload_n hx hb d_md_isOfficer_6 rfl (lv_at hl 0 rfl) ?_
    refine lv_bipush (v := 82) hx hb d_md_isOfficer_7 (by decide) ?_
    refine lv_icmp_eq (tgt := 34) hx hb d_md_isOfficer_9 (by decide) (fun c_2 => ?_) (fun c_2 => ?_)
    · have hF := hF.trans (if_pos c_2)
      refine lv_iconst (v := 1) hx hb d_md_isOfficer_34 (by decide) ?_
      refine lv_goto (tgt := 39) hx hb d_md_isOfficer_35 (by decide) ?_
      exact W.zret (v := (1 : Int32)) hx hb hr (rfl) (fun t ht hW => ⟨_, rfl, ⟨hF, rfl⟩, ht⟩) hS.2.2 d_md_isOfficer_39
    · have hF := hF.trans (if_neg c_2)
      refine lv_iload_n hx hb d_md_isOfficer_12 rfl (lv_at hl 0 rfl) ?_
      refine lv_bipush (v := 66) hx hb d_md_isOfficer_13 (by decide) ?_
      refine lv_icmp_eq (tgt := 34) hx hb d_md_isOfficer_15 (by decide) (fun c_3 => ?_) (fun c_3 => ?_)
      · have hF := hF.trans (if_pos c_3)
        refine lv_iconst (v := 1) hx hb d_md_isOfficer_34 (by decide) ?_
        refine lv_goto (tgt := 39) hx hb d_md_isOfficer_35 (by decide) ?_
        exact W.zret (v := (1 : Int32)) hx hb hr (rfl) (fun t ht hW => ⟨_, rfl, ⟨hF, rfl⟩, ht⟩) hS.2.2 d_md_isOfficer_39
      · have hF := hF.trans (if_neg c_3)
        refine lv_iload_n hx hb d_md_isOfficer_18 rfl (lv_at hl 0 rfl) ?_
        refine lv_bipush (v := 78) hx hb d_md_isOfficer_19 (by decide) ?_
        refine lv_icmp_eq (tgt := 34) hx hb d_md_isOfficer_21 (by decide) (fun c_4 => ?_) (fun c_4 => ?_)
        · have hF := hF.trans (if_pos c_4)
          refine lv_iconst (v := 1) hx hb d_md_isOfficer_34 (by decide) ?_
          refine lv_goto (tgt := 39) hx hb d_md_isOfficer_35 (by decide) ?_
          exact W.zret (v := (1 : Int32)) hx hb hr (rfl) (fun t ht hW => ⟨_, rfl, ⟨hF, rfl⟩, ht⟩) hS.2.2 d_md_isOfficer_39
        · have hF := hF.trans (if_neg c_4)
          refine lv_iload_n hx hb d_md_isOfficer_24 rfl (lv_at hl 1 rfl) ?_
          refine lv_if_eq (tgt := 38) hx hb d_md_isOfficer_25 (by decide) (fun c_5 => ?_) (fun c_5 => ?_)
          · have hF := hF.trans (if_pos c_5)
            refine lv_iconst (v := 0) hx hb d_md_isOfficer_38 (by decide) ?_
            exact W.zret (v := (0 : Int32)) hx hb hr (rfl) (fun t ht hW => ⟨_, rfl, ⟨hF, rfl⟩, ht⟩) hS.2.2 d_md_isOfficer_39
          · have hF := hF.trans (if_neg c_5)
            refine lv_iload_n hx hb d_md_isOfficer_28 rfl (lv_at hl 0 rfl) ?_
            refine lv_bipush (v := 75) hx hb d_md_isOfficer_29 (by decide) ?_
            refine lv_icmp_ne (tgt := 38) hx hb d_md_isOfficer_31 (by decide) (fun c_6 => ?_) (fun c_6 => ?_)
            · have hF := hF.trans (if_neg c_6)
              refine lv_iconst (v := 0) hx hb d_md_isOfficer_38 (by decide) ?_
              exact W.zret (v := (0 : Int32)) hx hb hr (rfl) (fun t ht hW => ⟨_, rfl, ⟨hF, rfl⟩, ht⟩) hS.2.2 d_md_isOfficer_39
            · have hF := hF.trans (if_pos c_6)
              refine lv_iconst (v := 1) hx hb d_md_isOfficer_34 (by decide) ?_
              refine lv_goto (tgt := 39) hx hb d_md_isOfficer_35 (by decide) ?_
              exact W.zret (v := (1 : Int32)) hx hb hr (rfl) (fun t ht hW => ⟨_, rfl, ⟨hF, rfl⟩, ht⟩) hS.2.2 d_md_isOfficer_39
def f_md_bare (M_text : (Nat → Int32)) (M_size : Int32) : Int32 := (if M_size ≤ 0 then M_size else (if (M_text (M_size - (1 : Int32)).toNatClampNeg) = (43 : Int32) then (M_size - (1 : Int32)) else (if (M_text (M_size - (1 : Int32)).toNatClampNeg) = (35 : Int32) then (M_size - (1 : Int32)) else M_size)))
set_option maxHeartbeats 4000000 in
set_option maxRecDepth 100000 in
theorem c_md_bare (l : Launch) (K : KT) (Mh Ma0 Ma1 Ma2 Ma3 Ma4 Ma5 : Nat) (M_board : (Nat → Int32)) (M_text : (Nat → Int32)) (M_moves : (Nat → Int32)) (M_signs : (Nat → Int32)) (M_newBoard : (Nat → Int32)) (M_out : (Nat → Int32)) (M_thrown : Int32) (M_side : Int32) (M_rights : Int32) (M_passant : Int32) (M_clock : Int32) (M_number : Int32) (M_size : Int32) (M_told : Int32) (M_at : Int32) (M_newSide : Int32) (M_newRights : Int32) (M_newPassant : Int32) (M_newClock : Int32) (M_newNumber : Int32) (M_outs : Int32) : Met l y_md_bare w_md_bare ({ frames := 0, cells := 0, slots := 0, locals := 0 } : Room) (va_Pc [.ref Mh] (fun U => pRO K [(Mh, .inr (6, [.int M_thrown, .ref Ma0, .int M_side, .int M_rights, .int M_passant, .int M_clock, .int M_number, .ref Ma1, .int M_size, .int M_told, .ref Ma2, .ref Ma3, .int M_at, .ref Ma4, .int M_newSide, .int M_newRights, .int M_newPassant, .int M_newClock, .int M_newNumber, .ref Ma5, .int M_outs])), (Ma0, .inl ((kI K), 64, .inl M_board)), (Ma1, .inl ((kI K), 100, .inl M_text)), (Ma2, .inl ((kI K), 330, .inl M_moves)), (Ma3, .inl ((kI K), 330, .inl M_signs)), (Ma4, .inl ((kI K), 64, .inl M_newBoard)), (Ma5, .inl ((kI K), 16, .inl M_out))] U ∧ 0 ≤ M_size.toInt ∧ M_size.toInt ≤ 100 ∧ True)) (vp_Si (fun r => f_md_bare M_text M_size = r ∧ (r.toInt ≤ M_size.toInt) ∧ (0 ≤ r.toInt) ∧ True)) 0 0 (fun _ => False) := by
  refine Met.ofW (cc := b_md_bare) (maxL := 1) (ret := (some .int)) (by decide) rfl ?_
  intro p e s m args below meth c s₁ B hml hv
  obtain ⟨rfl, ⟨hP, hK, hG⟩, h_s0, h_s, -⟩ := hv
  have hx := B.exec
  have hb := B.bytes
  have hr := B.returns
  have hts := atoms_spec (ws := w_md_bare) B.pre
  have hown : s.vm.findClass R_md = some m.cls := findClass_of_methodNamed B.named
  have hlocks := B.notSynchronized
  have htg := fun w h => hts w (List.mem_cons_of_mem _ h)
  have hS : va_S (fun _ => False) s.heap s.heap [] := va_S.rf
  have hl := lv_entry ([.ref Mh]) (n := 1) (Nat.le_of_ble_eq_true rfl)
  rw [lg_entry_eq]
  generalize (lg_sl ([.ref Mh]) ++ List.replicate (1 - (lg_sl ([.ref Mh])).length) Slot.unset).toArray = ls at hl ⊢
  have hl : lv_has ls 1 [(0, .ref Mh)] := hl
  have z0 : (0 : Int32).toInt = 0 := by decide
  have z1 : (1 : Int32).toInt = 1 := by decide
  have zm1 : (-1 : Int32).toInt = -1 := by decide
  have z2 : (2 : Int32).toInt = 2 := by decide
  have z3 : (3 : Int32).toInt = 3 := by decide
  have z7 : (7 : Int32).toInt = 7 := by decide
  have z8 : (8 : Int32).toInt = 8 := by decide
  have z16 : (16 : Int32).toInt = 16 := by decide
  have z64 : (64 : Int32).toInt = 64 := by decide
  have z100 : (100 : Int32).toInt = 100 := by decide
  have z330 : (330 : Int32).toInt = 330 := by decide
  have hF := f_md_bare.eq_1 M_text M_size
  refine lv_aload_n hx hb d_md_bare_0 rfl (lv_at hl 0 rfl) ?_
  refine va_get (D := kD K) (ci := 6) (v := .int M_size) (C := R_md) (T := T_md) (N := 21) hx hb htg in_md hown hK hP 0 rfl rfl 8 (by decide) (htg (.fieldLink R_md 38 "GameNotationModel" "size" "I") q_802) (fun _ h9 => h9) rfl d_md_bare_1 ?_
  refine lv_if_le (tgt := 48) hx hb d_md_bare_4 (by decide) (fun c_1 => ?_) (fun c_1 => ?_)
  · have hF := hF.trans (if_pos c_1)
    refine lv_aload_n hx hb d_md_bare_48 rfl (lv_at hl 0 rfl) ?_
    refine va_get (D := kD K) (ci := 6) (v := .int M_size) (C := R_md) (T := T_md) (N := 21) hx hb htg in_md hown hK hP 0 rfl rfl 8 (by decide) (htg (.fieldLink R_md 38 "GameNotationModel" "size" "I") q_802) (fun _ h9 => h9) rfl d_md_bare_49 ?_
    exact W.iret (v := M_size) hx hb hr (fun t ht hW => ⟨_, rfl, ⟨hF, (br_1 h_s0 (by first | exact Or.inl rfl | exact Or.inr rfl)), (by first | assumption | exact br_2 c_1), trivial⟩, ht⟩) hS.2.2 d_md_bare_52
  · have hF := hF.trans (if_neg c_1)
    refine lv_aload_n hx hb d_md_bare_7 rfl (lv_at hl 0 rfl) ?_
    refine va_get (D := kD K) (ci := 6) (v := .ref Ma1) (C := R_md) (T := T_md) (N := 21) hx hb htg in_md hown hK hP 0 rfl rfl 7 (by decide) (htg (.fieldLink R_md 20 "GameNotationModel" "text" "[I") q_801) (fun _ h9 => h9) rfl d_md_bare_8 ?_
    refine lv_aload_n hx hb d_md_bare_11 rfl (lv_at hl 0 rfl) ?_
    refine va_get (D := kD K) (ci := 6) (v := .int M_size) (C := R_md) (T := T_md) (N := 21) hx hb htg in_md hown hK hP 0 rfl rfl 8 (by decide) (htg (.fieldLink R_md 38 "GameNotationModel" "size" "I") q_802) (fun _ h9 => h9) rfl d_md_bare_12 ?_
    refine lv_iconst (v := 1) hx hb d_md_bare_15 (by decide) ?_
    refine lv_isub hx hb d_md_bare_16 ?_
    have h_2 : vp_in (M_size - (1 : Int32)) 100 := br_in h_s c_1
    refine va_iald hx hb hK hP 2 0 rfl rfl h_2 d_md_bare_17 ?_
    refine lv_bipush (v := 43) hx hb d_md_bare_18 (by decide) ?_
    refine lv_icmp_eq (tgt := 39) hx hb d_md_bare_20 (by decide) (fun c_3 => ?_) (fun c_3 => ?_)
    · have hF := hF.trans (if_pos c_3)
      refine lv_aload_n hx hb d_md_bare_39 rfl (lv_at hl 0 rfl) ?_
      refine va_get (D := kD K) (ci := 6) (v := .int M_size) (C := R_md) (T := T_md) (N := 21) hx hb htg in_md hown hK hP 0 rfl rfl 8 (by decide) (htg (.fieldLink R_md 38 "GameNotationModel" "size" "I") q_802) (fun _ h9 => h9) rfl d_md_bare_40 ?_
      refine lv_iconst (v := 1) hx hb d_md_bare_43 (by decide) ?_
      refine lv_isub hx hb d_md_bare_44 ?_
      refine lv_goto (tgt := 52) hx hb d_md_bare_45 (by decide) ?_
      exact W.iret (v := M_size - (1 : Int32)) hx hb hr (fun t ht hW => ⟨_, rfl, ⟨hF, (br_1 h_s0 (by first | exact Or.inl rfl | exact Or.inr rfl)), (by first | assumption | exact br_2 c_1), trivial⟩, ht⟩) hS.2.2 d_md_bare_52
    · have hF := hF.trans (if_neg c_3)
      refine lv_aload_n hx hb d_md_bare_23 rfl (lv_at hl 0 rfl) ?_
      refine va_get (D := kD K) (ci := 6) (v := .ref Ma1) (C := R_md) (T := T_md) (N := 21) hx hb htg in_md hown hK hP 0 rfl rfl 7 (by decide) (htg (.fieldLink R_md 20 "GameNotationModel" "text" "[I") q_801) (fun _ h9 => h9) rfl d_md_bare_24 ?_
      refine lv_aload_n hx hb d_md_bare_27 rfl (lv_at hl 0 rfl) ?_
      refine va_get (D := kD K) (ci := 6) (v := .int M_size) (C := R_md) (T := T_md) (N := 21) hx hb htg in_md hown hK hP 0 rfl rfl 8 (by decide) (htg (.fieldLink R_md 38 "GameNotationModel" "size" "I") q_802) (fun _ h9 => h9) rfl d_md_bare_28 ?_
      refine lv_iconst (v := 1) hx hb d_md_bare_31 (by decide) ?_
      refine lv_isub hx hb d_md_bare_32 ?_
      have h_4 : vp_in (M_size - (1 : Int32)) 100 := br_in h_s c_1
      refine va_iald hx hb hK hP 2 0 rfl rfl h_4 d_md_bare_33 ?_
      refine lv_bipush (v := 35) hx hb d_md_bare_34 (by decide) ?_
      refine lv_icmp_ne (tgt := 48) hx hb d_md_bare_36 (by decide) (fun c_5 => ?_) (fun c_5 => ?_)
      · have hF := hF.trans (if_neg c_5)
        refine lv_aload_n hx hb d_md_bare_48 rfl (lv_at hl 0 rfl) ?_
        refine va_get (D := kD K) (ci := 6) (v := .int M_size) (C := R_md) (T := T_md) (N := 21) hx hb htg in_md hown hK hP 0 rfl rfl 8 (by decide) (htg (.fieldLink R_md 38 "GameNotationModel" "size" "I") q_802) (fun _ h9 => h9) rfl d_md_bare_49 ?_
        exact W.iret (v := M_size) hx hb hr (fun t ht hW => ⟨_, rfl, ⟨hF, (br_1 h_s0 (by first | exact Or.inl rfl | exact Or.inr rfl)), (by first | assumption | exact br_2 c_1), trivial⟩, ht⟩) hS.2.2 d_md_bare_52
      · have hF := hF.trans (if_pos c_5)
        refine lv_aload_n hx hb d_md_bare_39 rfl (lv_at hl 0 rfl) ?_
        refine va_get (D := kD K) (ci := 6) (v := .int M_size) (C := R_md) (T := T_md) (N := 21) hx hb htg in_md hown hK hP 0 rfl rfl 8 (by decide) (htg (.fieldLink R_md 38 "GameNotationModel" "size" "I") q_802) (fun _ h9 => h9) rfl d_md_bare_40 ?_
        refine lv_iconst (v := 1) hx hb d_md_bare_43 (by decide) ?_
        refine lv_isub hx hb d_md_bare_44 ?_
        refine lv_goto (tgt := 52) hx hb d_md_bare_45 (by decide) ?_
        exact W.iret (v := M_size - (1 : Int32)) hx hb hr (fun t ht hW => ⟨_, rfl, ⟨hF, (br_1 h_s0 (by first | exact Or.inl rfl | exact Or.inr rfl)), (by first | assumption | exact br_2 c_1), trivial⟩, ht⟩) hS.2.2 d_md_bare_52
