def f_md_put (M_board : (Nat → Int32)) (M_told : Int32) (sq : Int32) (mn : Int32) : Int32 × Int32 × (Nat → Int32) × Int32 := (if sq < 0 then ((0 : Int32), ((0 : Int32), M_board, M_told)) else (if (63 : Int32) < sq then ((0 : Int32), ((0 : Int32), M_board, M_told)) else (if mn < 0 then ((0 : Int32), ((0 : Int32), M_board, M_told)) else (if mn ≤ (12 : Int32) then ((1 : Int32), ((0 : Int32), upd M_board sq.toNatClampNeg mn, (0 : Int32))) else ((0 : Int32), ((0 : Int32), M_board, M_told))))))
set_option maxHeartbeats 4000000 in
set_option maxRecDepth 100000 in
theorem c_md_put (l : Launch) (K : KT) (sz : Nat) (Mh Ma0 Ma1 Ma2 Ma3 Ma4 Ma5 : Nat) (M_board : (Nat → Int32)) (M_text : (Nat → Int32)) (M_moves : (Nat → Int32)) (M_signs : (Nat → Int32)) (M_newBoard : (Nat → Int32)) (M_out : (Nat → Int32)) (M_thrown : Int32) (M_side : Int32) (M_rights : Int32) (M_passant : Int32) (M_clock : Int32) (M_number : Int32) (M_size : Int32) (M_told : Int32) (M_at : Int32) (M_newSide : Int32) (M_newRights : Int32) (M_newPassant : Int32) (M_newClock : Int32) (M_newNumber : Int32) (M_outs : Int32) (sq : Int32) (mn : Int32) : Met l y_md_put w_md_put ({ frames := 0, cells := 0, slots := 0, locals := 0 } : Room) (va_Pc [.ref Mh, .int sq, .int mn] (fun U => pMU K [(Mh, .inr (6, [.int M_thrown, .ref Ma0, .int M_side, .int M_rights, .int M_passant, .int M_clock, .int M_number, .ref Ma1, .int M_size, .int M_told, .ref Ma2, .ref Ma3, .int M_at, .ref Ma4, .int M_newSide, .int M_newRights, .int M_newPassant, .int M_newClock, .int M_newNumber, .ref Ma5, .int M_outs])), (Ma0, .inl ((kI K), 64, .inl M_board)), (Ma1, .inl ((kI K), 100, .inl M_text)), (Ma2, .inl ((kI K), 330, .inl M_moves)), (Ma3, .inl ((kI K), 330, .inl M_signs)), (Ma4, .inl ((kI K), 64, .inl M_newBoard)), (Ma5, .inl ((kI K), 16, .inl M_out))] sz U ∧ True)) (va_Qi (fun (r : Int32) (u : Int32 × (Nat → Int32) × Int32) => f_md_put M_board M_told sq mn = (r, u) ∧ narrow .boolean (.int r) = .int r ∧ True) (fun (u : Int32 × (Nat → Int32) × Int32) (t : State) => va_P (kD K) vwCl [(Mh, .inr (6, [.int u.1, .ref Ma0, .int M_side, .int M_rights, .int M_passant, .int M_clock, .int M_number, .ref Ma1, .int M_size, .int u.2.2, .ref Ma2, .ref Ma3, .int M_at, .ref Ma4, .int M_newSide, .int M_newRights, .int M_newPassant, .int M_newClock, .int M_newNumber, .ref Ma5, .int M_outs])), (Ma0, .inl ((kI K), 64, .inl u.2.1)), (Ma1, .inl ((kI K), 100, .inl M_text)), (Ma2, .inl ((kI K), 330, .inl M_moves)), (Ma3, .inl ((kI K), 330, .inl M_signs)), (Ma4, .inl ((kI K), 64, .inl M_newBoard)), (Ma5, .inl ((kI K), 16, .inl M_out))] t.heap ∧ va_D (va_A [(Mh, .inr (6, [.int M_thrown, .ref Ma0, .int M_side, .int M_rights, .int M_passant, .int M_clock, .int M_number, .ref Ma1, .int M_size, .int M_told, .ref Ma2, .ref Ma3, .int M_at, .ref Ma4, .int M_newSide, .int M_newRights, .int M_newPassant, .int M_newClock, .int M_newNumber, .ref Ma5, .int M_outs])), (Ma0, .inl ((kI K), 64, .inl M_board)), (Ma1, .inl ((kI K), 100, .inl M_text)), (Ma2, .inl ((kI K), 330, .inl M_moves)), (Ma3, .inl ((kI K), 330, .inl M_signs)), (Ma4, .inl ((kI K), 64, .inl M_newBoard)), (Ma5, .inl ((kI K), 16, .inl M_out))] sz) [(Mh, .inr (6, [.int u.1, .ref Ma0, .int M_side, .int M_rights, .int M_passant, .int M_clock, .int M_number, .ref Ma1, .int M_size, .int u.2.2, .ref Ma2, .ref Ma3, .int M_at, .ref Ma4, .int M_newSide, .int M_newRights, .int M_newPassant, .int M_newClock, .int M_newNumber, .ref Ma5, .int M_outs])), (Ma0, .inl ((kI K), 64, .inl u.2.1)), (Ma1, .inl ((kI K), 100, .inl M_text)), (Ma2, .inl ((kI K), 330, .inl M_moves)), (Ma3, .inl ((kI K), 330, .inl M_signs)), (Ma4, .inl ((kI K), 64, .inl M_newBoard)), (Ma5, .inl ((kI K), 16, .inl M_out))]) (va_A [(Mh, .inr (6, [.int M_thrown, .ref Ma0, .int M_side, .int M_rights, .int M_passant, .int M_clock, .int M_number, .ref Ma1, .int M_size, .int M_told, .ref Ma2, .ref Ma3, .int M_at, .ref Ma4, .int M_newSide, .int M_newRights, .int M_newPassant, .int M_newClock, .int M_newNumber, .ref Ma5, .int M_outs])), (Ma0, .inl ((kI K), 64, .inl M_board)), (Ma1, .inl ((kI K), 100, .inl M_text)), (Ma2, .inl ((kI K), 330, .inl M_moves)), (Ma3, .inl ((kI K), 330, .inl M_signs)), (Ma4, .inl ((kI K), 64, .inl M_newBoard)), (Ma5, .inl ((kI K), 16, .inl M_out))] sz)) 0 0 (va_A [(Mh, .inr (6, [.int M_thrown, .ref Ma0, .int M_side, .int M_rights, .int M_passant, .int M_clock, .int M_number, .ref Ma1, .int M_size, .int M_told, .ref Ma2, .ref Ma3, .int M_at, .ref Ma4, .int M_newSide, .int M_newRights, .int M_newPassant, .int M_newClock, .int M_newNumber, .ref Ma5, .int M_outs])), (Ma0, .inl ((kI K), 64, .inl M_board)), (Ma1, .inl ((kI K), 100, .inl M_text)), (Ma2, .inl ((kI K), 330, .inl M_moves)), (Ma3, .inl ((kI K), 330, .inl M_signs)), (Ma4, .inl ((kI K), 64, .inl M_newBoard)), (Ma5, .inl ((kI K), 16, .inl M_out))] sz) := by
  refine Met.ofW (cc := b_md_put) (maxL := 3) (ret := (some .boolean)) (by decide) rfl ?_
  intro p e s m args below meth c s₁ B hml hv
  obtain ⟨rfl, ⟨hsz, hP, hK, hD0, hG⟩, -⟩ := hv
  have hx := B.exec
  have hb := B.bytes
  have hr := B.returns
  have hts := atoms_spec (ws := w_md_put) B.pre
  have hown : s.vm.findClass R_md = some m.cls := findClass_of_methodNamed B.named
  have hlocks := B.notSynchronized
  have htg := fun w h => hts w (List.mem_cons_of_mem _ h)
  subst hsz
  have hD := hD0.self (sz := s.heap.size)
  generalize hAe : va_A [(Mh, .inr (6, [.int M_thrown, .ref Ma0, .int M_side, .int M_rights, .int M_passant, .int M_clock, .int M_number, .ref Ma1, .int M_size, .int M_told, .ref Ma2, .ref Ma3, .int M_at, .ref Ma4, .int M_newSide, .int M_newRights, .int M_newPassant, .int M_newClock, .int M_newNumber, .ref Ma5, .int M_outs])), (Ma0, .inl ((kI K), 64, .inl M_board)), (Ma1, .inl ((kI K), 100, .inl M_text)), (Ma2, .inl ((kI K), 330, .inl M_moves)), (Ma3, .inl ((kI K), 330, .inl M_signs)), (Ma4, .inl ((kI K), 64, .inl M_newBoard)), (Ma5, .inl ((kI K), 16, .inl M_out))] s.heap.size = A at hD hG ⊢
  have hA : ∀ q : Nat, s.heap.size ≤ q → A q := fun q h => by rw [← hAe]; exact Or.inr h
  have hS : va_S A s.heap s.heap [] := va_S.rf
  have hl := lv_entry ([.ref Mh, .int sq, .int mn]) (n := 3) (Nat.le_of_ble_eq_true rfl)
  rw [lg_entry_eq]
  generalize (lg_sl ([.ref Mh, .int sq, .int mn]) ++ List.replicate (3 - (lg_sl ([.ref Mh, .int sq, .int mn])).length) Slot.unset).toArray = ls at hl ⊢
  have hl : lv_has ls 3 [(0, .ref Mh), (1, .int sq), (2, .int mn)] := hl
  have z0 : (0 : Int32).toInt = 0 := by decide
  have z1 : (1 : Int32).toInt = 1 := by decide
  have zm1 : (-1 : Int32).toInt = -1 := by decide
  have z2 : (2 : Int32).toInt = 2 := by decide
  have z3 : (3 : Int32).toInt = 3 := by decide
  have z7 : (7 : Int32).toInt = 7 := by decide
  have z8 : (8 : Int32).toInt = 8 := by decide
  have z16 : (16 : Int32).toInt = 16 := by decide
  have z64 : (64 : Int32).toInt = 64 := by decide
  have z100 : (100 : Int32).toInt = 100 := by decide
  have z330 : (330 : Int32).toInt = 330 := by decide
  have hF := f_md_put.eq_1 M_board M_told sq mn
  refine lv_aload_n hx hb d_md_put_0 rfl (lv_at hl 0 rfl) ?_
  refine lv_iconst (v := 0) hx hb d_md_put_1 (by decide) ?_
  refine va_put (D := kD K) (ci := 6) (v := .int (0 : Int32)) (ty := .int) (C := R_md) (T := T_md) (N := 21) hx hb htg in_md ty_md ty_md_ok nm_md hown hK hP hD hS 0 rfl rfl 0 (by decide) (htg (.fieldLink R_md 35 "GameNotationModel" "thrown" "I") q_794) (fun _ h9 => h9) rfl (by decide +kernel) rfl rfl (Nat.le_of_ble_eq_true rfl) d_md_put_2 (fun H locs hP hD hS => ?_)
  have hP : va_P (kD K) vwCl [(Mh, .inr (6, [.int (0 : Int32), .ref Ma0, .int M_side, .int M_rights, .int M_passant, .int M_clock, .int M_number, .ref Ma1, .int M_size, .int M_told, .ref Ma2, .ref Ma3, .int M_at, .ref Ma4, .int M_newSide, .int M_newRights, .int M_newPassant, .int M_newClock, .int M_newNumber, .ref Ma5, .int M_outs])), (Ma0, .inl ((kI K), 64, .inl M_board)), (Ma1, .inl ((kI K), 100, .inl M_text)), (Ma2, .inl ((kI K), 330, .inl M_moves)), (Ma3, .inl ((kI K), 330, .inl M_signs)), (Ma4, .inl ((kI K), 64, .inl M_newBoard)), (Ma5, .inl ((kI K), 16, .inl M_out))] _ := hP
  have hD : va_D A [(Mh, .inr (6, [.int (0 : Int32), .ref Ma0, .int M_side, .int M_rights, .int M_passant, .int M_clock, .int M_number, .ref Ma1, .int M_size, .int M_told, .ref Ma2, .ref Ma3, .int M_at, .ref Ma4, .int M_newSide, .int M_newRights, .int M_newPassant, .int M_newClock, .int M_newNumber, .ref Ma5, .int M_outs])), (Ma0, .inl ((kI K), 64, .inl M_board)), (Ma1, .inl ((kI K), 100, .inl M_text)), (Ma2, .inl ((kI K), 330, .inl M_moves)), (Ma3, .inl ((kI K), 330, .inl M_signs)), (Ma4, .inl ((kI K), 64, .inl M_newBoard)), (Ma5, .inl ((kI K), 16, .inl M_out))] := hD
  refine lv_iload_n hx hb d_md_put_5 rfl (lv_at hl 1 rfl) ?_
  refine lv_if_lt (tgt := 25) hx hb d_md_put_6 (by decide) (fun c_1 => ?_) (fun c_1 => ?_)
  · have hF := hF.trans (if_pos c_1)
    refine lv_iconst (v := 0) hx hb d_md_put_25 (by decide) ?_
    exact W.zret (v := (0 : Int32)) hx hb hr (rfl) (fun t ht hW => ⟨⟨(0 : Int32), ((0 : Int32), M_board, M_told), rfl, ⟨hF, rfl, trivial⟩, ⟨by rw [ht]; exact hP, hD⟩⟩, hS.F ht⟩) hS.2.2 d_md_put_26
  · have hF := hF.trans (if_neg c_1)
    refine lv_iload_n hx hb d_md_put_9 rfl (lv_at hl 1 rfl) ?_
    refine lv_bipush (v := 63) hx hb d_md_put_10 (by decide) ?_
    refine lv_icmp_gt (tgt := 25) hx hb d_md_put_12 (by decide) (fun c_2 => ?_) (fun c_2 => ?_)
    · have hF := hF.trans (if_pos c_2)
      refine lv_iconst (v := 0) hx hb d_md_put_25 (by decide) ?_
      exact W.zret (v := (0 : Int32)) hx hb hr (rfl) (fun t ht hW => ⟨⟨(0 : Int32), ((0 : Int32), M_board, M_told), rfl, ⟨hF, rfl, trivial⟩, ⟨by rw [ht]; exact hP, hD⟩⟩, hS.F ht⟩) hS.2.2 d_md_put_26
    · have hF := hF.trans (if_neg c_2)
      refine lv_iload_n hx hb d_md_put_15 rfl (lv_at hl 2 rfl) ?_
      refine lv_if_lt (tgt := 25) hx hb d_md_put_16 (by decide) (fun c_3 => ?_) (fun c_3 => ?_)
      · have hF := hF.trans (if_pos c_3)
        refine lv_iconst (v := 0) hx hb d_md_put_25 (by decide) ?_
        exact W.zret (v := (0 : Int32)) hx hb hr (rfl) (fun t ht hW => ⟨⟨(0 : Int32), ((0 : Int32), M_board, M_told), rfl, ⟨hF, rfl, trivial⟩, ⟨by rw [ht]; exact hP, hD⟩⟩, hS.F ht⟩) hS.2.2 d_md_put_26
      · have hF := hF.trans (if_neg c_3)
        refine lv_iload_n hx hb d_md_put_19 rfl (lv_at hl 2 rfl) ?_
        refine lv_bipush (v := 12) hx hb d_md_put_20 (by decide) ?_
        refine lv_icmp_le (tgt := 27) hx hb d_md_put_22 (by decide) (fun c_4 => ?_) (fun c_4 => ?_)
        · have hF := hF.trans (if_pos c_4)
          refine lv_aload_n hx hb d_md_put_27 rfl (lv_at hl 0 rfl) ?_
          refine va_get (D := kD K) (ci := 6) (v := .ref Ma0) (C := R_md) (T := T_md) (N := 21) hx hb htg in_md hown hK hP 0 rfl rfl 1 (by decide) (htg (.fieldLink R_md 7 "GameNotationModel" "board" "[I") q_795) (fun _ h9 => h9) rfl d_md_put_28 ?_
          refine lv_iload_n hx hb d_md_put_31 rfl (lv_at hl 1 rfl) ?_
          refine lv_iload_n hx hb d_md_put_32 rfl (lv_at hl 2 rfl) ?_
          have h_5 : vp_in sq 64 := in63 c_1 c_2
          refine va_iast hx hb hK hP hD hS 1 0 rfl rfl h_5 d_md_put_33 (fun H locs hP hD hS => ?_)
          have hP : va_P (kD K) vwCl [(Mh, .inr (6, [.int (0 : Int32), .ref Ma0, .int M_side, .int M_rights, .int M_passant, .int M_clock, .int M_number, .ref Ma1, .int M_size, .int M_told, .ref Ma2, .ref Ma3, .int M_at, .ref Ma4, .int M_newSide, .int M_newRights, .int M_newPassant, .int M_newClock, .int M_newNumber, .ref Ma5, .int M_outs])), (Ma0, .inl ((kI K), 64, .inl (upd M_board sq.toNatClampNeg mn))), (Ma1, .inl ((kI K), 100, .inl M_text)), (Ma2, .inl ((kI K), 330, .inl M_moves)), (Ma3, .inl ((kI K), 330, .inl M_signs)), (Ma4, .inl ((kI K), 64, .inl M_newBoard)), (Ma5, .inl ((kI K), 16, .inl M_out))] _ := hP
          have hD : va_D A [(Mh, .inr (6, [.int (0 : Int32), .ref Ma0, .int M_side, .int M_rights, .int M_passant, .int M_clock, .int M_number, .ref Ma1, .int M_size, .int M_told, .ref Ma2, .ref Ma3, .int M_at, .ref Ma4, .int M_newSide, .int M_newRights, .int M_newPassant, .int M_newClock, .int M_newNumber, .ref Ma5, .int M_outs])), (Ma0, .inl ((kI K), 64, .inl (upd M_board sq.toNatClampNeg mn))), (Ma1, .inl ((kI K), 100, .inl M_text)), (Ma2, .inl ((kI K), 330, .inl M_moves)), (Ma3, .inl ((kI K), 330, .inl M_signs)), (Ma4, .inl ((kI K), 64, .inl M_newBoard)), (Ma5, .inl ((kI K), 16, .inl M_out))] := hD
          refine lv_aload_n hx hb d_md_put_34 rfl (lv_at hl 0 rfl) ?_
          refine lv_iconst (v := 0) hx hb d_md_put_35 (by decide) ?_
          refine va_put (D := kD K) (ci := 6) (v := .int (0 : Int32)) (ty := .int) (C := R_md) (T := T_md) (N := 21) hx hb htg in_md ty_md ty_md_ok nm_md hown hK hP hD hS 0 rfl rfl 9 (by decide) (htg (.fieldLink R_md 133 "GameNotationModel" "told" "I") q_803) (fun _ h9 => h9) rfl (by decide +kernel) rfl rfl (Nat.le_of_ble_eq_true rfl) d_md_put_36 (fun H locs hP hD hS => ?_)
          have hP : va_P (kD K) vwCl [(Mh, .inr (6, [.int (0 : Int32), .ref Ma0, .int M_side, .int M_rights, .int M_passant, .int M_clock, .int M_number, .ref Ma1, .int M_size, .int (0 : Int32), .ref Ma2, .ref Ma3, .int M_at, .ref Ma4, .int M_newSide, .int M_newRights, .int M_newPassant, .int M_newClock, .int M_newNumber, .ref Ma5, .int M_outs])), (Ma0, .inl ((kI K), 64, .inl (upd M_board sq.toNatClampNeg mn))), (Ma1, .inl ((kI K), 100, .inl M_text)), (Ma2, .inl ((kI K), 330, .inl M_moves)), (Ma3, .inl ((kI K), 330, .inl M_signs)), (Ma4, .inl ((kI K), 64, .inl M_newBoard)), (Ma5, .inl ((kI K), 16, .inl M_out))] _ := hP
          have hD : va_D A [(Mh, .inr (6, [.int (0 : Int32), .ref Ma0, .int M_side, .int M_rights, .int M_passant, .int M_clock, .int M_number, .ref Ma1, .int M_size, .int (0 : Int32), .ref Ma2, .ref Ma3, .int M_at, .ref Ma4, .int M_newSide, .int M_newRights, .int M_newPassant, .int M_newClock, .int M_newNumber, .ref Ma5, .int M_outs])), (Ma0, .inl ((kI K), 64, .inl (upd M_board sq.toNatClampNeg mn))), (Ma1, .inl ((kI K), 100, .inl M_text)), (Ma2, .inl ((kI K), 330, .inl M_moves)), (Ma3, .inl ((kI K), 330, .inl M_signs)), (Ma4, .inl ((kI K), 64, .inl M_newBoard)), (Ma5, .inl ((kI K), 16, .inl M_out))] := hD
          refine lv_iconst (v := 1) hx hb d_md_put_39 (by decide) ?_
          exact W.zret (v := (1 : Int32)) hx hb hr (rfl) (fun t ht hW => ⟨⟨(1 : Int32), ((0 : Int32), upd M_board sq.toNatClampNeg mn, (0 : Int32)), rfl, ⟨hF, rfl, trivial⟩, ⟨by rw [ht]; exact hP, hD⟩⟩, hS.F ht⟩) hS.2.2 d_md_put_40
        · have hF := hF.trans (if_neg c_4)
          refine lv_iconst (v := 0) hx hb d_md_put_25 (by decide) ?_
          exact W.zret (v := (0 : Int32)) hx hb hr (rfl) (fun t ht hW => ⟨⟨(0 : Int32), ((0 : Int32), M_board, M_told), rfl, ⟨hF, rfl, trivial⟩, ⟨by rw [ht]; exact hP, hD⟩⟩, hS.F ht⟩) hS.2.2 d_md_put_26
def f_md_state (M_side : Int32) (M_rights : Int32) (M_passant : Int32) (M_clock : Int32) (M_number : Int32) (b1 : Int32) (b2 : Int32) (b3 : Int32) (b4 : Int32) (b5 : Int32) : Int32 × Int32 × Int32 × Int32 × Int32 × Int32 × Int32 := (if b1 < 0 then ((0 : Int32), ((0 : Int32), M_side, M_rights, M_passant, M_clock, M_number)) else (if (2 : Int32) ≤ b1 then ((0 : Int32), ((0 : Int32), M_side, M_rights, M_passant, M_clock, M_number)) else (if b2 < 0 then ((0 : Int32), ((0 : Int32), M_side, M_rights, M_passant, M_clock, M_number)) else (if (16 : Int32) ≤ b2 then ((0 : Int32), ((0 : Int32), M_side, M_rights, M_passant, M_clock, M_number)) else (if b3 < (-1 : Int32) then ((0 : Int32), ((0 : Int32), M_side, M_rights, M_passant, M_clock, M_number)) else (if (8 : Int32) ≤ b3 then ((0 : Int32), ((0 : Int32), M_side, M_rights, M_passant, M_clock, M_number)) else (if b4 < 0 then ((0 : Int32), ((0 : Int32), M_side, M_rights, M_passant, M_clock, M_number)) else (if (999 : Int32) < b4 then ((0 : Int32), ((0 : Int32), M_side, M_rights, M_passant, M_clock, M_number)) else (if b5 < (1 : Int32) then ((0 : Int32), ((0 : Int32), M_side, M_rights, M_passant, M_clock, M_number)) else (if b5 ≤ (9999 : Int32) then ((1 : Int32), ((0 : Int32), b1, b2, b3, b4, b5)) else ((0 : Int32), ((0 : Int32), M_side, M_rights, M_passant, M_clock, M_number))))))))))))
set_option maxHeartbeats 4000000 in
set_option maxRecDepth 100000 in
theorem c_md_state (l : Launch) (K : KT) (sz : Nat) (Mh Ma0 Ma1 Ma2 Ma3 Ma4 Ma5 : Nat) (M_board : (Nat → Int32)) (M_text : (Nat → Int32)) (M_moves : (Nat → Int32)) (M_signs : (Nat → Int32)) (M_newBoard : (Nat → Int32)) (M_out : (Nat → Int32)) (M_thrown : Int32) (M_side : Int32) (M_rights : Int32) (M_passant : Int32) (M_clock : Int32) (M_number : Int32) (M_size : Int32) (M_told : Int32) (M_at : Int32) (M_newSide : Int32) (M_newRights : Int32) (M_newPassant : Int32) (M_newClock : Int32) (M_newNumber : Int32) (M_outs : Int32) (b1 : Int32) (b2 : Int32) (b3 : Int32) (b4 : Int32) (b5 : Int32) : Met l y_md_state w_md_state ({ frames := 0, cells := 0, slots := 0, locals := 0 } : Room) (va_Pc [.ref Mh, .int b1, .int b2, .int b3, .int b4, .int b5] (fun U => pMU K [(Mh, .inr (6, [.int M_thrown, .ref Ma0, .int M_side, .int M_rights, .int M_passant, .int M_clock, .int M_number, .ref Ma1, .int M_size, .int M_told, .ref Ma2, .ref Ma3, .int M_at, .ref Ma4, .int M_newSide, .int M_newRights, .int M_newPassant, .int M_newClock, .int M_newNumber, .ref Ma5, .int M_outs])), (Ma0, .inl ((kI K), 64, .inl M_board)), (Ma1, .inl ((kI K), 100, .inl M_text)), (Ma2, .inl ((kI K), 330, .inl M_moves)), (Ma3, .inl ((kI K), 330, .inl M_signs)), (Ma4, .inl ((kI K), 64, .inl M_newBoard)), (Ma5, .inl ((kI K), 16, .inl M_out))] sz U ∧ True)) (va_Qi (fun (r : Int32) (u : Int32 × Int32 × Int32 × Int32 × Int32 × Int32) => f_md_state M_side M_rights M_passant M_clock M_number b1 b2 b3 b4 b5 = (r, u) ∧ narrow .boolean (.int r) = .int r ∧ True) (fun (u : Int32 × Int32 × Int32 × Int32 × Int32 × Int32) (t : State) => va_P (kD K) vwCl [(Mh, .inr (6, [.int u.1, .ref Ma0, .int u.2.1, .int u.2.2.1, .int u.2.2.2.1, .int u.2.2.2.2.1, .int u.2.2.2.2.2, .ref Ma1, .int M_size, .int M_told, .ref Ma2, .ref Ma3, .int M_at, .ref Ma4, .int M_newSide, .int M_newRights, .int M_newPassant, .int M_newClock, .int M_newNumber, .ref Ma5, .int M_outs])), (Ma0, .inl ((kI K), 64, .inl M_board)), (Ma1, .inl ((kI K), 100, .inl M_text)), (Ma2, .inl ((kI K), 330, .inl M_moves)), (Ma3, .inl ((kI K), 330, .inl M_signs)), (Ma4, .inl ((kI K), 64, .inl M_newBoard)), (Ma5, .inl ((kI K), 16, .inl M_out))] t.heap ∧ va_D (va_A [(Mh, .inr (6, [.int M_thrown, .ref Ma0, .int M_side, .int M_rights, .int M_passant, .int M_clock, .int M_number, .ref Ma1, .int M_size, .int M_told, .ref Ma2, .ref Ma3, .int M_at, .ref Ma4, .int M_newSide, .int M_newRights, .int M_newPassant, .int M_newClock, .int M_newNumber, .ref Ma5, .int M_outs])), (Ma0, .inl ((kI K), 64, .inl M_board)), (Ma1, .inl ((kI K), 100, .inl M_text)), (Ma2, .inl ((kI K), 330, .inl M_moves)), (Ma3, .inl ((kI K), 330, .inl M_signs)), (Ma4, .inl ((kI K), 64, .inl M_newBoard)), (Ma5, .inl ((kI K), 16, .inl M_out))] sz) [(Mh, .inr (6, [.int u.1, .ref Ma0, .int u.2.1, .int u.2.2.1, .int u.2.2.2.1, .int u.2.2.2.2.1, .int u.2.2.2.2.2, .ref Ma1, .int M_size, .int M_told, .ref Ma2, .ref Ma3, .int M_at, .ref Ma4, .int M_newSide, .int M_newRights, .int M_newPassant, .int M_newClock, .int M_newNumber, .ref Ma5, .int M_outs])), (Ma0, .inl ((kI K), 64, .inl M_board)), (Ma1, .inl ((kI K), 100, .inl M_text)), (Ma2, .inl ((kI K), 330, .inl M_moves)), (Ma3, .inl ((kI K), 330, .inl M_signs)), (Ma4, .inl ((kI K), 64, .inl M_newBoard)), (Ma5, .inl ((kI K), 16, .inl M_out))]) (va_A [(Mh, .inr (6, [.int M_thrown, .ref Ma0, .int M_side, .int M_rights, .int M_passant, .int M_clock, .int M_number, .ref Ma1, .int M_size, .int M_told, .ref Ma2, .ref Ma3, .int M_at, .ref Ma4, .int M_newSide, .int M_newRights, .int M_newPassant, .int M_newClock, .int M_newNumber, .ref Ma5, .int M_outs])), (Ma0, .inl ((kI K), 64, .inl M_board)), (Ma1, .inl ((kI K), 100, .inl M_text)), (Ma2, .inl ((kI K), 330, .inl M_moves)), (Ma3, .inl ((kI K), 330, .inl M_signs)), (Ma4, .inl ((kI K), 64, .inl M_newBoard)), (Ma5, .inl ((kI K), 16, .inl M_out))] sz)) 0 0 (va_A [(Mh, .inr (6, [.int M_thrown, .ref Ma0, .int M_side, .int M_rights, .int M_passant, .int M_clock, .int M_number, .ref Ma1, .int M_size, .int M_told, .ref Ma2, .ref Ma3, .int M_at, .ref Ma4, .int M_newSide, .int M_newRights, .int M_newPassant, .int M_newClock, .int M_newNumber, .ref Ma5, .int M_outs])), (Ma0, .inl ((kI K), 64, .inl M_board)), (Ma1, .inl ((kI K), 100, .inl M_text)), (Ma2, .inl ((kI K), 330, .inl M_moves)), (Ma3, .inl ((kI K), 330, .inl M_signs)), (Ma4, .inl ((kI K), 64, .inl M_newBoard)), (Ma5, .inl ((kI K), 16, .inl M_out))] sz) := by
  refine Met.ofW (cc := b_md_state) (maxL := 7) (ret := (some .boolean)) (by decide) rfl ?_
  intro p e s m args below meth c s₁ B hml hv
  obtain ⟨rfl, ⟨hsz, hP, hK, hD0, hG⟩, -⟩ := hv
  have hx := B.exec
  have hb := B.bytes
  have hr := B.returns
  have hts := atoms_spec (ws := w_md_state) B.pre
  have hown : s.vm.findClass R_md = some m.cls := findClass_of_methodNamed B.named
  have hlocks := B.notSynchronized
  have htg := fun w h => hts w (List.mem_cons_of_mem _ h)
  subst hsz
  have hD := hD0.self (sz := s.heap.size)
  generalize hAe : va_A [(Mh, .inr (6, [.int M_thrown, .ref Ma0, .int M_side, .int M_rights, .int M_passant, .int M_clock, .int M_number, .ref Ma1, .int M_size, .int M_told, .ref Ma2, .ref Ma3, .int M_at, .ref Ma4, .int M_newSide, .int M_newRights, .int M_newPassant, .int M_newClock, .int M_newNumber, .ref Ma5, .int M_outs])), (Ma0, .inl ((kI K), 64, .inl M_board)), (Ma1, .inl ((kI K), 100, .inl M_text)), (Ma2, .inl ((kI K), 330, .inl M_moves)), (Ma3, .inl ((kI K), 330, .inl M_signs)), (Ma4, .inl ((kI K), 64, .inl M_newBoard)), (Ma5, .inl ((kI K), 16, .inl M_out))] s.heap.size = A at hD hG ⊢
  have hA : ∀ q : Nat, s.heap.size ≤ q → A q := fun q h => by rw [← hAe]; exact Or.inr h
  have hS : va_S A s.heap s.heap [] := va_S.rf
  have hl := lv_entry ([.ref Mh, .int b1, .int b2, .int b3, .int b4, .int b5]) (n := 7) (Nat.le_of_ble_eq_true rfl)
  rw [lg_entry_eq]
  generalize (lg_sl ([.ref Mh, .int b1, .int b2, .int b3, .int b4, .int b5]) ++ List.replicate (7 - (lg_sl ([.ref Mh, .int b1, .int b2, .int b3, .int b4, .int b5])).length) Slot.unset).toArray = ls at hl ⊢
  have hl : lv_has ls 7 [(0, .ref Mh), (1, .int b1), (2, .int b2), (3, .int b3), (4, .int b4), (5, .int b5)] := hl
  have z0 : (0 : Int32).toInt = 0 := by decide
  have z1 : (1 : Int32).toInt = 1 := by decide
  have zm1 : (-1 : Int32).toInt = -1 := by decide
  have z2 : (2 : Int32).toInt = 2 := by decide
  have z3 : (3 : Int32).toInt = 3 := by decide
  have z7 : (7 : Int32).toInt = 7 := by decide
  have z8 : (8 : Int32).toInt = 8 := by decide
  have z16 : (16 : Int32).toInt = 16 := by decide
  have z64 : (64 : Int32).toInt = 64 := by decide
  have z100 : (100 : Int32).toInt = 100 := by decide
  have z330 : (330 : Int32).toInt = 330 := by decide
  have hF := f_md_state.eq_1 M_side M_rights M_passant M_clock M_number b1 b2 b3 b4 b5
  refine lv_aload_n hx hb d_md_state_0 rfl (lv_at hl 0 rfl) ?_
  refine lv_iconst (v := 0) hx hb d_md_state_1 (by decide) ?_
  refine va_put (D := kD K) (ci := 6) (v := .int (0 : Int32)) (ty := .int) (C := R_md) (T := T_md) (N := 21) hx hb htg in_md ty_md ty_md_ok nm_md hown hK hP hD hS 0 rfl rfl 0 (by decide) (htg (.fieldLink R_md 35 "GameNotationModel" "thrown" "I") q_794) (fun _ h9 => h9) rfl (by decide +kernel) rfl rfl (Nat.le_of_ble_eq_true rfl) d_md_state_2 (fun H locs hP hD hS => ?_)
  have hP : va_P (kD K) vwCl [(Mh, .inr (6, [.int (0 : Int32), .ref Ma0, .int M_side, .int M_rights, .int M_passant, .int M_clock, .int M_number, .ref Ma1, .int M_size, .int M_told, .ref Ma2, .ref Ma3, .int M_at, .ref Ma4, .int M_newSide, .int M_newRights, .int M_newPassant, .int M_newClock, .int M_newNumber, .ref Ma5, .int M_outs])), (Ma0, .inl ((kI K), 64, .inl M_board)), (Ma1, .inl ((kI K), 100, .inl M_text)), (Ma2, .inl ((kI K), 330, .inl M_moves)), (Ma3, .inl ((kI K), 330, .inl M_signs)), (Ma4, .inl ((kI K), 64, .inl M_newBoard)), (Ma5, .inl ((kI K), 16, .inl M_out))] _ := hP
  have hD : va_D A [(Mh, .inr (6, [.int (0 : Int32), .ref Ma0, .int M_side, .int M_rights, .int M_passant, .int M_clock, .int M_number, .ref Ma1, .int M_size, .int M_told, .ref Ma2, .ref Ma3, .int M_at, .ref Ma4, .int M_newSide, .int M_newRights, .int M_newPassant, .int M_newClock, .int M_newNumber, .ref Ma5, .int M_outs])), (Ma0, .inl ((kI K), 64, .inl M_board)), (Ma1, .inl ((kI K), 100, .inl M_text)), (Ma2, .inl ((kI K), 330, .inl M_moves)), (Ma3, .inl ((kI K), 330, .inl M_signs)), (Ma4, .inl ((kI K), 64, .inl M_newBoard)), (Ma5, .inl ((kI K), 16, .inl M_out))] := hD
  refine lv_iload_n hx hb d_md_state_5 rfl (lv_at hl 1 rfl) ?_
  refine lv_if_lt (tgt := 39) hx hb d_md_state_6 (by decide) (fun c_1 => ?_) (fun c_1 => ?_)
  · have hF := hF.trans (if_pos c_1)
    refine lv_iconst (v := 0) hx hb d_md_state_39 (by decide) ?_
    refine lv_istore (lv' := [(6, .int (0 : Int32)), (0, .ref Mh), (1, .int b1), (2, .int b2), (3, .int b3), (4, .int b4), (5, .int b5)]) hx hb d_md_state_40 hl (by decide) rfl (fun ls hl => ?_)
    refine lv_iload hx hb d_md_state_42 (lv_at hl 0 rfl) ?_
    refine lv_if_eq (tgt := 74) hx hb d_md_state_44 (by decide) (fun _ => ?_) (fun c => False.elim (by revert c; decide))
    refine lv_iconst (v := 0) hx hb d_md_state_74 (by decide) ?_
    exact W.zret (v := (0 : Int32)) hx hb hr (rfl) (fun t ht hW => ⟨⟨(0 : Int32), ((0 : Int32), M_side, M_rights, M_passant, M_clock, M_number), rfl, ⟨hF, rfl, trivial⟩, ⟨by rw [ht]; exact hP, hD⟩⟩, hS.F ht⟩) hS.2.2 d_md_state_75
  · have hF := hF.trans (if_neg c_1)
    refine lv_iload_n hx hb d_md_state_9 rfl (lv_at hl 1 rfl) ?_
    refine lv_iconst (v := 2) hx hb d_md_state_10 (by decide) ?_
    refine lv_icmp_ge (tgt := 39) hx hb d_md_state_11 (by decide) (fun c_2 => ?_) (fun c_2 => ?_)
    · have hF := hF.trans (if_pos c_2)
      refine lv_iconst (v := 0) hx hb d_md_state_39 (by decide) ?_
      refine lv_istore (lv' := [(6, .int (0 : Int32)), (0, .ref Mh), (1, .int b1), (2, .int b2), (3, .int b3), (4, .int b4), (5, .int b5)]) hx hb d_md_state_40 hl (by decide) rfl (fun ls hl => ?_)
      refine lv_iload hx hb d_md_state_42 (lv_at hl 0 rfl) ?_
      refine lv_if_eq (tgt := 74) hx hb d_md_state_44 (by decide) (fun _ => ?_) (fun c => False.elim (by revert c; decide))
      refine lv_iconst (v := 0) hx hb d_md_state_74 (by decide) ?_
      exact W.zret (v := (0 : Int32)) hx hb hr (rfl) (fun t ht hW => ⟨⟨(0 : Int32), ((0 : Int32), M_side, M_rights, M_passant, M_clock, M_number), rfl, ⟨hF, rfl, trivial⟩, ⟨by rw [ht]; exact hP, hD⟩⟩, hS.F ht⟩) hS.2.2 d_md_state_75
    · have hF := hF.trans (if_neg c_2)
      refine lv_iload_n hx hb d_md_state_14 rfl (lv_at hl 2 rfl) ?_
      refine lv_if_lt (tgt := 39) hx hb d_md_state_15 (by decide) (fun c_3 => ?_) (fun c_3 => ?_)
      · have hF := hF.trans (if_pos c_3)
        refine lv_iconst (v := 0) hx hb d_md_state_39 (by decide) ?_
        refine lv_istore (lv' := [(6, .int (0 : Int32)), (0, .ref Mh), (1, .int b1), (2, .int b2), (3, .int b3), (4, .int b4), (5, .int b5)]) hx hb d_md_state_40 hl (by decide) rfl (fun ls hl => ?_)
        refine lv_iload hx hb d_md_state_42 (lv_at hl 0 rfl) ?_
        refine lv_if_eq (tgt := 74) hx hb d_md_state_44 (by decide) (fun _ => ?_) (fun c => False.elim (by revert c; decide))
        refine lv_iconst (v := 0) hx hb d_md_state_74 (by decide) ?_
        exact W.zret (v := (0 : Int32)) hx hb hr (rfl) (fun t ht hW => ⟨⟨(0 : Int32), ((0 : Int32), M_side, M_rights, M_passant, M_clock, M_number), rfl, ⟨hF, rfl, trivial⟩, ⟨by rw [ht]; exact hP, hD⟩⟩, hS.F ht⟩) hS.2.2 d_md_state_75
      · have hF := hF.trans (if_neg c_3)
        refine lv_iload_n hx hb d_md_state_18 rfl (lv_at hl 2 rfl) ?_
        refine lv_bipush (v := 16) hx hb d_md_state_19 (by decide) ?_
        refine lv_icmp_ge (tgt := 39) hx hb d_md_state_21 (by decide) (fun c_4 => ?_) (fun c_4 => ?_)
        · have hF := hF.trans (if_pos c_4)
          refine lv_iconst (v := 0) hx hb d_md_state_39 (by decide) ?_
          refine lv_istore (lv' := [(6, .int (0 : Int32)), (0, .ref Mh), (1, .int b1), (2, .int b2), (3, .int b3), (4, .int b4), (5, .int b5)]) hx hb d_md_state_40 hl (by decide) rfl (fun ls hl => ?_)
          refine lv_iload hx hb d_md_state_42 (lv_at hl 0 rfl) ?_
          refine lv_if_eq (tgt := 74) hx hb d_md_state_44 (by decide) (fun _ => ?_) (fun c => False.elim (by revert c; decide))
          refine lv_iconst (v := 0) hx hb d_md_state_74 (by decide) ?_
          exact W.zret (v := (0 : Int32)) hx hb hr (rfl) (fun t ht hW => ⟨⟨(0 : Int32), ((0 : Int32), M_side, M_rights, M_passant, M_clock, M_number), rfl, ⟨hF, rfl, trivial⟩, ⟨by rw [ht]; exact hP, hD⟩⟩, hS.F ht⟩) hS.2.2 d_md_state_75
        · have hF := hF.trans (if_neg c_4)
          refine lv_iload_n hx hb d_md_state_24 rfl (lv_at hl 3 rfl) ?_
          refine lv_iconst (v := -1) hx hb d_md_state_25 (by decide) ?_
          refine lv_icmp_lt (tgt := 39) hx hb d_md_state_26 (by decide) (fun c_5 => ?_) (fun c_5 => ?_)
          · have hF := hF.trans (if_pos c_5)
            refine lv_iconst (v := 0) hx hb d_md_state_39 (by decide) ?_
            refine lv_istore (lv' := [(6, .int (0 : Int32)), (0, .ref Mh), (1, .int b1), (2, .int b2), (3, .int b3), (4, .int b4), (5, .int b5)]) hx hb d_md_state_40 hl (by decide) rfl (fun ls hl => ?_)
            refine lv_iload hx hb d_md_state_42 (lv_at hl 0 rfl) ?_
            refine lv_if_eq (tgt := 74) hx hb d_md_state_44 (by decide) (fun _ => ?_) (fun c => False.elim (by revert c; decide))
            refine lv_iconst (v := 0) hx hb d_md_state_74 (by decide) ?_
            exact W.zret (v := (0 : Int32)) hx hb hr (rfl) (fun t ht hW => ⟨⟨(0 : Int32), ((0 : Int32), M_side, M_rights, M_passant, M_clock, M_number), rfl, ⟨hF, rfl, trivial⟩, ⟨by rw [ht]; exact hP, hD⟩⟩, hS.F ht⟩) hS.2.2 d_md_state_75
          · have hF := hF.trans (if_neg c_5)
            refine lv_iload_n hx hb d_md_state_29 rfl (lv_at hl 3 rfl) ?_
            refine lv_bipush (v := 8) hx hb d_md_state_30 (by decide) ?_
            refine lv_icmp_ge (tgt := 39) hx hb d_md_state_32 (by decide) (fun c_6 => ?_) (fun c_6 => ?_)
            · have hF := hF.trans (if_pos c_6)
              refine lv_iconst (v := 0) hx hb d_md_state_39 (by decide) ?_
              refine lv_istore (lv' := [(6, .int (0 : Int32)), (0, .ref Mh), (1, .int b1), (2, .int b2), (3, .int b3), (4, .int b4), (5, .int b5)]) hx hb d_md_state_40 hl (by decide) rfl (fun ls hl => ?_)
              refine lv_iload hx hb d_md_state_42 (lv_at hl 0 rfl) ?_
              refine lv_if_eq (tgt := 74) hx hb d_md_state_44 (by decide) (fun _ => ?_) (fun c => False.elim (by revert c; decide))
              refine lv_iconst (v := 0) hx hb d_md_state_74 (by decide) ?_
              exact W.zret (v := (0 : Int32)) hx hb hr (rfl) (fun t ht hW => ⟨⟨(0 : Int32), ((0 : Int32), M_side, M_rights, M_passant, M_clock, M_number), rfl, ⟨hF, rfl, trivial⟩, ⟨by rw [ht]; exact hP, hD⟩⟩, hS.F ht⟩) hS.2.2 d_md_state_75
            · have hF := hF.trans (if_neg c_6)
              refine lv_iconst (v := 1) hx hb d_md_state_35 (by decide) ?_
              refine lv_goto (tgt := 40) hx hb d_md_state_36 (by decide) ?_
              refine lv_istore (lv' := [(6, .int (1 : Int32)), (0, .ref Mh), (1, .int b1), (2, .int b2), (3, .int b3), (4, .int b4), (5, .int b5)]) hx hb d_md_state_40 hl (by decide) rfl (fun ls hl => ?_)
              refine lv_iload hx hb d_md_state_42 (lv_at hl 0 rfl) ?_
              refine lv_if_eq (tgt := 74) hx hb d_md_state_44 (by decide) (fun c => False.elim (by revert c; decide)) (fun _ => ?_)
              refine lv_iload hx hb d_md_state_47 (lv_at hl 5 rfl) ?_
              refine lv_if_lt (tgt := 74) hx hb d_md_state_49 (by decide) (fun c_7 => ?_) (fun c_7 => ?_)
              · have hF := hF.trans (if_pos c_7)
                refine lv_iconst (v := 0) hx hb d_md_state_74 (by decide) ?_
                exact W.zret (v := (0 : Int32)) hx hb hr (rfl) (fun t ht hW => ⟨⟨(0 : Int32), ((0 : Int32), M_side, M_rights, M_passant, M_clock, M_number), rfl, ⟨hF, rfl, trivial⟩, ⟨by rw [ht]; exact hP, hD⟩⟩, hS.F ht⟩) hS.2.2 d_md_state_75
              · have hF := hF.trans (if_neg c_7)
                refine lv_iload hx hb d_md_state_52 (lv_at hl 5 rfl) ?_
                refine lv_sipush (v := 999) hx hb d_md_state_54 (by decide) ?_
                refine lv_icmp_gt (tgt := 74) hx hb d_md_state_57 (by decide) (fun c_8 => ?_) (fun c_8 => ?_)
                · have hF := hF.trans (if_pos c_8)
                  refine lv_iconst (v := 0) hx hb d_md_state_74 (by decide) ?_
                  exact W.zret (v := (0 : Int32)) hx hb hr (rfl) (fun t ht hW => ⟨⟨(0 : Int32), ((0 : Int32), M_side, M_rights, M_passant, M_clock, M_number), rfl, ⟨hF, rfl, trivial⟩, ⟨by rw [ht]; exact hP, hD⟩⟩, hS.F ht⟩) hS.2.2 d_md_state_75
                · have hF := hF.trans (if_neg c_8)
                  refine lv_iload hx hb d_md_state_60 (lv_at hl 6 rfl) ?_
                  refine lv_iconst (v := 1) hx hb d_md_state_62 (by decide) ?_
                  refine lv_icmp_lt (tgt := 74) hx hb d_md_state_63 (by decide) (fun c_9 => ?_) (fun c_9 => ?_)
                  · have hF := hF.trans (if_pos c_9)
                    refine lv_iconst (v := 0) hx hb d_md_state_74 (by decide) ?_
                    exact W.zret (v := (0 : Int32)) hx hb hr (rfl) (fun t ht hW => ⟨⟨(0 : Int32), ((0 : Int32), M_side, M_rights, M_passant, M_clock, M_number), rfl, ⟨hF, rfl, trivial⟩, ⟨by rw [ht]; exact hP, hD⟩⟩, hS.F ht⟩) hS.2.2 d_md_state_75
                  · have hF := hF.trans (if_neg c_9)
                    refine lv_iload hx hb d_md_state_66 (lv_at hl 6 rfl) ?_
                    refine lv_sipush (v := 9999) hx hb d_md_state_68 (by decide) ?_
                    refine lv_icmp_le (tgt := 76) hx hb d_md_state_71 (by decide) (fun c_10 => ?_) (fun c_10 => ?_)
                    · have hF := hF.trans (if_pos c_10)
                      refine lv_aload_n hx hb d_md_state_76 rfl (lv_at hl 1 rfl) ?_
                      refine lv_iload_n hx hb d_md_state_77 rfl (lv_at hl 2 rfl) ?_
                      refine va_put (D := kD K) (ci := 6) (v := .int b1) (ty := .int) (C := R_md) (T := T_md) (N := 21) hx hb htg in_md ty_md ty_md_ok nm_md hown hK hP hD hS 0 rfl rfl 2 (by decide) (htg (.fieldLink R_md 124 "GameNotationModel" "side" "I") q_796) (fun _ h9 => h9) rfl (by decide +kernel) rfl rfl (Nat.le_of_ble_eq_true rfl) d_md_state_78 (fun H locs hP hD hS => ?_)
                      have hP : va_P (kD K) vwCl [(Mh, .inr (6, [.int (0 : Int32), .ref Ma0, .int b1, .int M_rights, .int M_passant, .int M_clock, .int M_number, .ref Ma1, .int M_size, .int M_told, .ref Ma2, .ref Ma3, .int M_at, .ref Ma4, .int M_newSide, .int M_newRights, .int M_newPassant, .int M_newClock, .int M_newNumber, .ref Ma5, .int M_outs])), (Ma0, .inl ((kI K), 64, .inl M_board)), (Ma1, .inl ((kI K), 100, .inl M_text)), (Ma2, .inl ((kI K), 330, .inl M_moves)), (Ma3, .inl ((kI K), 330, .inl M_signs)), (Ma4, .inl ((kI K), 64, .inl M_newBoard)), (Ma5, .inl ((kI K), 16, .inl M_out))] _ := hP
                      have hD : va_D A [(Mh, .inr (6, [.int (0 : Int32), .ref Ma0, .int b1, .int M_rights, .int M_passant, .int M_clock, .int M_number, .ref Ma1, .int M_size, .int M_told, .ref Ma2, .ref Ma3, .int M_at, .ref Ma4, .int M_newSide, .int M_newRights, .int M_newPassant, .int M_newClock, .int M_newNumber, .ref Ma5, .int M_outs])), (Ma0, .inl ((kI K), 64, .inl M_board)), (Ma1, .inl ((kI K), 100, .inl M_text)), (Ma2, .inl ((kI K), 330, .inl M_moves)), (Ma3, .inl ((kI K), 330, .inl M_signs)), (Ma4, .inl ((kI K), 64, .inl M_newBoard)), (Ma5, .inl ((kI K), 16, .inl M_out))] := hD
                      refine lv_aload_n hx hb d_md_state_81 rfl (lv_at hl 1 rfl) ?_
                      refine lv_iload_n hx hb d_md_state_82 rfl (lv_at hl 3 rfl) ?_
                      refine va_put (D := kD K) (ci := 6) (v := .int b2) (ty := .int) (C := R_md) (T := T_md) (N := 21) hx hb htg in_md ty_md ty_md_ok nm_md hown hK hP hD hS 0 rfl rfl 3 (by decide) (htg (.fieldLink R_md 127 "GameNotationModel" "rights" "I") q_797) (fun _ h9 => h9) rfl (by decide +kernel) rfl rfl (Nat.le_of_ble_eq_true rfl) d_md_state_83 (fun H locs hP hD hS => ?_)
                      have hP : va_P (kD K) vwCl [(Mh, .inr (6, [.int (0 : Int32), .ref Ma0, .int b1, .int b2, .int M_passant, .int M_clock, .int M_number, .ref Ma1, .int M_size, .int M_told, .ref Ma2, .ref Ma3, .int M_at, .ref Ma4, .int M_newSide, .int M_newRights, .int M_newPassant, .int M_newClock, .int M_newNumber, .ref Ma5, .int M_outs])), (Ma0, .inl ((kI K), 64, .inl M_board)), (Ma1, .inl ((kI K), 100, .inl M_text)), (Ma2, .inl ((kI K), 330, .inl M_moves)), (Ma3, .inl ((kI K), 330, .inl M_signs)), (Ma4, .inl ((kI K), 64, .inl M_newBoard)), (Ma5, .inl ((kI K), 16, .inl M_out))] _ := hP
                      have hD : va_D A [(Mh, .inr (6, [.int (0 : Int32), .ref Ma0, .int b1, .int b2, .int M_passant, .int M_clock, .int M_number, .ref Ma1, .int M_size, .int M_told, .ref Ma2, .ref Ma3, .int M_at, .ref Ma4, .int M_newSide, .int M_newRights, .int M_newPassant, .int M_newClock, .int M_newNumber, .ref Ma5, .int M_outs])), (Ma0, .inl ((kI K), 64, .inl M_board)), (Ma1, .inl ((kI K), 100, .inl M_text)), (Ma2, .inl ((kI K), 330, .inl M_moves)), (Ma3, .inl ((kI K), 330, .inl M_signs)), (Ma4, .inl ((kI K), 64, .inl M_newBoard)), (Ma5, .inl ((kI K), 16, .inl M_out))] := hD
                      refine lv_aload_n hx hb d_md_state_86 rfl (lv_at hl 1 rfl) ?_
                      refine lv_iload_n hx hb d_md_state_87 rfl (lv_at hl 4 rfl) ?_
                      refine va_put (D := kD K) (ci := 6) (v := .int b3) (ty := .int) (C := R_md) (T := T_md) (N := 21) hx hb htg in_md ty_md ty_md_ok nm_md hown hK hP hD hS 0 rfl rfl 4 (by decide) (htg (.fieldLink R_md 13 "GameNotationModel" "passant" "I") q_798) (fun _ h9 => h9) rfl (by decide +kernel) rfl rfl (Nat.le_of_ble_eq_true rfl) d_md_state_88 (fun H locs hP hD hS => ?_)
                      have hP : va_P (kD K) vwCl [(Mh, .inr (6, [.int (0 : Int32), .ref Ma0, .int b1, .int b2, .int b3, .int M_clock, .int M_number, .ref Ma1, .int M_size, .int M_told, .ref Ma2, .ref Ma3, .int M_at, .ref Ma4, .int M_newSide, .int M_newRights, .int M_newPassant, .int M_newClock, .int M_newNumber, .ref Ma5, .int M_outs])), (Ma0, .inl ((kI K), 64, .inl M_board)), (Ma1, .inl ((kI K), 100, .inl M_text)), (Ma2, .inl ((kI K), 330, .inl M_moves)), (Ma3, .inl ((kI K), 330, .inl M_signs)), (Ma4, .inl ((kI K), 64, .inl M_newBoard)), (Ma5, .inl ((kI K), 16, .inl M_out))] _ := hP
                      have hD : va_D A [(Mh, .inr (6, [.int (0 : Int32), .ref Ma0, .int b1, .int b2, .int b3, .int M_clock, .int M_number, .ref Ma1, .int M_size, .int M_told, .ref Ma2, .ref Ma3, .int M_at, .ref Ma4, .int M_newSide, .int M_newRights, .int M_newPassant, .int M_newClock, .int M_newNumber, .ref Ma5, .int M_outs])), (Ma0, .inl ((kI K), 64, .inl M_board)), (Ma1, .inl ((kI K), 100, .inl M_text)), (Ma2, .inl ((kI K), 330, .inl M_moves)), (Ma3, .inl ((kI K), 330, .inl M_signs)), (Ma4, .inl ((kI K), 64, .inl M_newBoard)), (Ma5, .inl ((kI K), 16, .inl M_out))] := hD
                      refine lv_aload_n hx hb d_md_state_91 rfl (lv_at hl 1 rfl) ?_
                      refine lv_iload hx hb d_md_state_92 (lv_at hl 5 rfl) ?_
                      refine va_put (D := kD K) (ci := 6) (v := .int b4) (ty := .int) (C := R_md) (T := T_md) (N := 21) hx hb htg in_md ty_md ty_md_ok nm_md hown hK hP hD hS 0 rfl rfl 5 (by decide) (htg (.fieldLink R_md 130 "GameNotationModel" "clock" "I") q_799) (fun _ h9 => h9) rfl (by decide +kernel) rfl rfl (Nat.le_of_ble_eq_true rfl) d_md_state_94 (fun H locs hP hD hS => ?_)
                      have hP : va_P (kD K) vwCl [(Mh, .inr (6, [.int (0 : Int32), .ref Ma0, .int b1, .int b2, .int b3, .int b4, .int M_number, .ref Ma1, .int M_size, .int M_told, .ref Ma2, .ref Ma3, .int M_at, .ref Ma4, .int M_newSide, .int M_newRights, .int M_newPassant, .int M_newClock, .int M_newNumber, .ref Ma5, .int M_outs])), (Ma0, .inl ((kI K), 64, .inl M_board)), (Ma1, .inl ((kI K), 100, .inl M_text)), (Ma2, .inl ((kI K), 330, .inl M_moves)), (Ma3, .inl ((kI K), 330, .inl M_signs)), (Ma4, .inl ((kI K), 64, .inl M_newBoard)), (Ma5, .inl ((kI K), 16, .inl M_out))] _ := hP
                      have hD : va_D A [(Mh, .inr (6, [.int (0 : Int32), .ref Ma0, .int b1, .int b2, .int b3, .int b4, .int M_number, .ref Ma1, .int M_size, .int M_told, .ref Ma2, .ref Ma3, .int M_at, .ref Ma4, .int M_newSide, .int M_newRights, .int M_newPassant, .int M_newClock, .int M_newNumber, .ref Ma5, .int M_outs])), (Ma0, .inl ((kI K), 64, .inl M_board)), (Ma1, .inl ((kI K), 100, .inl M_text)), (Ma2, .inl ((kI K), 330, .inl M_moves)), (Ma3, .inl ((kI K), 330, .inl M_signs)), (Ma4, .inl ((kI K), 64, .inl M_newBoard)), (Ma5, .inl ((kI K), 16, .inl M_out))] := hD
                      refine lv_aload_n hx hb d_md_state_97 rfl (lv_at hl 1 rfl) ?_
                      refine lv_iload hx hb d_md_state_98 (lv_at hl 6 rfl) ?_
                      refine va_put (D := kD K) (ci := 6) (v := .int b5) (ty := .int) (C := R_md) (T := T_md) (N := 21) hx hb htg in_md ty_md ty_md_ok nm_md hown hK hP hD hS 0 rfl rfl 6 (by decide) (htg (.fieldLink R_md 17 "GameNotationModel" "number" "I") q_800) (fun _ h9 => h9) rfl (by decide +kernel) rfl rfl (Nat.le_of_ble_eq_true rfl) d_md_state_100 (fun H locs hP hD hS => ?_)
                      have hP : va_P (kD K) vwCl [(Mh, .inr (6, [.int (0 : Int32), .ref Ma0, .int b1, .int b2, .int b3, .int b4, .int b5, .ref Ma1, .int M_size, .int M_told, .ref Ma2, .ref Ma3, .int M_at, .ref Ma4, .int M_newSide, .int M_newRights, .int M_newPassant, .int M_newClock, .int M_newNumber, .ref Ma5, .int M_outs])), (Ma0, .inl ((kI K), 64, .inl M_board)), (Ma1, .inl ((kI K), 100, .inl M_text)), (Ma2, .inl ((kI K), 330, .inl M_moves)), (Ma3, .inl ((kI K), 330, .inl M_signs)), (Ma4, .inl ((kI K), 64, .inl M_newBoard)), (Ma5, .inl ((kI K), 16, .inl M_out))] _ := hP
                      have hD : va_D A [(Mh, .inr (6, [.int (0 : Int32), .ref Ma0, .int b1, .int b2, .int b3, .int b4, .int b5, .ref Ma1, .int M_size, .int M_told, .ref Ma2, .ref Ma3, .int M_at, .ref Ma4, .int M_newSide, .int M_newRights, .int M_newPassant, .int M_newClock, .int M_newNumber, .ref Ma5, .int M_outs])), (Ma0, .inl ((kI K), 64, .inl M_board)), (Ma1, .inl ((kI K), 100, .inl M_text)), (Ma2, .inl ((kI K), 330, .inl M_moves)), (Ma3, .inl ((kI K), 330, .inl M_signs)), (Ma4, .inl ((kI K), 64, .inl M_newBoard)), (Ma5, .inl ((kI K), 16, .inl M_out))] := hD
                      refine lv_iconst (v := 1) hx hb d_md_state_103 (by decide) ?_
                      exact W.zret (v := (1 : Int32)) hx hb hr (rfl) (fun t ht hW => ⟨⟨(1 : Int32), ((0 : Int32), b1, b2, b3, b4, b5), rfl, ⟨hF, rfl, trivial⟩, ⟨by rw [ht]; exact hP, hD⟩⟩, hS.F ht⟩) hS.2.2 d_md_state_104
                    · have hF := hF.trans (if_neg c_10)
                      refine lv_iconst (v := 0) hx hb d_md_state_74 (by decide) ?_
                      exact W.zret (v := (0 : Int32)) hx hb hr (rfl) (fun t ht hW => ⟨⟨(0 : Int32), ((0 : Int32), M_side, M_rights, M_passant, M_clock, M_number), rfl, ⟨hF, rfl, trivial⟩, ⟨by rw [ht]; exact hP, hD⟩⟩, hS.F ht⟩) hS.2.2 d_md_state_75
def f_md_at (M_board : (Nat → Int32)) (sq : Int32) : Int32 × Int32 := (if sq < 0 then ((-1 : Int32), (0 : Int32)) else (if sq ≤ (63 : Int32) then (M_board sq.toNatClampNeg, (0 : Int32)) else ((-1 : Int32), (0 : Int32))))
set_option maxHeartbeats 4000000 in
set_option maxRecDepth 100000 in
theorem c_md_at (l : Launch) (K : KT) (sz : Nat) (Mh Ma0 Ma1 Ma2 Ma3 Ma4 Ma5 : Nat) (M_board : (Nat → Int32)) (M_text : (Nat → Int32)) (M_moves : (Nat → Int32)) (M_signs : (Nat → Int32)) (M_newBoard : (Nat → Int32)) (M_out : (Nat → Int32)) (M_thrown : Int32) (M_side : Int32) (M_rights : Int32) (M_passant : Int32) (M_clock : Int32) (M_number : Int32) (M_size : Int32) (M_told : Int32) (M_at : Int32) (M_newSide : Int32) (M_newRights : Int32) (M_newPassant : Int32) (M_newClock : Int32) (M_newNumber : Int32) (M_outs : Int32) (sq : Int32) : Met l y_md_at w_md_at ({ frames := 0, cells := 0, slots := 0, locals := 0 } : Room) (va_Pc [.ref Mh, .int sq] (fun U => pMU K [(Mh, .inr (6, [.int M_thrown, .ref Ma0, .int M_side, .int M_rights, .int M_passant, .int M_clock, .int M_number, .ref Ma1, .int M_size, .int M_told, .ref Ma2, .ref Ma3, .int M_at, .ref Ma4, .int M_newSide, .int M_newRights, .int M_newPassant, .int M_newClock, .int M_newNumber, .ref Ma5, .int M_outs])), (Ma0, .inl ((kI K), 64, .inl M_board)), (Ma1, .inl ((kI K), 100, .inl M_text)), (Ma2, .inl ((kI K), 330, .inl M_moves)), (Ma3, .inl ((kI K), 330, .inl M_signs)), (Ma4, .inl ((kI K), 64, .inl M_newBoard)), (Ma5, .inl ((kI K), 16, .inl M_out))] sz U ∧ True)) (va_Qi (fun (r : Int32) (u : Int32) => f_md_at M_board sq = (r, u) ∧ True) (fun (u : Int32) (t : State) => va_P (kD K) vwCl [(Mh, .inr (6, [.int u, .ref Ma0, .int M_side, .int M_rights, .int M_passant, .int M_clock, .int M_number, .ref Ma1, .int M_size, .int M_told, .ref Ma2, .ref Ma3, .int M_at, .ref Ma4, .int M_newSide, .int M_newRights, .int M_newPassant, .int M_newClock, .int M_newNumber, .ref Ma5, .int M_outs])), (Ma0, .inl ((kI K), 64, .inl M_board)), (Ma1, .inl ((kI K), 100, .inl M_text)), (Ma2, .inl ((kI K), 330, .inl M_moves)), (Ma3, .inl ((kI K), 330, .inl M_signs)), (Ma4, .inl ((kI K), 64, .inl M_newBoard)), (Ma5, .inl ((kI K), 16, .inl M_out))] t.heap ∧ va_D (va_A [(Mh, .inr (6, [.int M_thrown, .ref Ma0, .int M_side, .int M_rights, .int M_passant, .int M_clock, .int M_number, .ref Ma1, .int M_size, .int M_told, .ref Ma2, .ref Ma3, .int M_at, .ref Ma4, .int M_newSide, .int M_newRights, .int M_newPassant, .int M_newClock, .int M_newNumber, .ref Ma5, .int M_outs])), (Ma0, .inl ((kI K), 64, .inl M_board)), (Ma1, .inl ((kI K), 100, .inl M_text)), (Ma2, .inl ((kI K), 330, .inl M_moves)), (Ma3, .inl ((kI K), 330, .inl M_signs)), (Ma4, .inl ((kI K), 64, .inl M_newBoard)), (Ma5, .inl ((kI K), 16, .inl M_out))] sz) [(Mh, .inr (6, [.int u, .ref Ma0, .int M_side, .int M_rights, .int M_passant, .int M_clock, .int M_number, .ref Ma1, .int M_size, .int M_told, .ref Ma2, .ref Ma3, .int M_at, .ref Ma4, .int M_newSide, .int M_newRights, .int M_newPassant, .int M_newClock, .int M_newNumber, .ref Ma5, .int M_outs])), (Ma0, .inl ((kI K), 64, .inl M_board)), (Ma1, .inl ((kI K), 100, .inl M_text)), (Ma2, .inl ((kI K), 330, .inl M_moves)), (Ma3, .inl ((kI K), 330, .inl M_signs)), (Ma4, .inl ((kI K), 64, .inl M_newBoard)), (Ma5, .inl ((kI K), 16, .inl M_out))]) (va_A [(Mh, .inr (6, [.int M_thrown, .ref Ma0, .int M_side, .int M_rights, .int M_passant, .int M_clock, .int M_number, .ref Ma1, .int M_size, .int M_told, .ref Ma2, .ref Ma3, .int M_at, .ref Ma4, .int M_newSide, .int M_newRights, .int M_newPassant, .int M_newClock, .int M_newNumber, .ref Ma5, .int M_outs])), (Ma0, .inl ((kI K), 64, .inl M_board)), (Ma1, .inl ((kI K), 100, .inl M_text)), (Ma2, .inl ((kI K), 330, .inl M_moves)), (Ma3, .inl ((kI K), 330, .inl M_signs)), (Ma4, .inl ((kI K), 64, .inl M_newBoard)), (Ma5, .inl ((kI K), 16, .inl M_out))] sz)) 0 0 (va_A [(Mh, .inr (6, [.int M_thrown, .ref Ma0, .int M_side, .int M_rights, .int M_passant, .int M_clock, .int M_number, .ref Ma1, .int M_size, .int M_told, .ref Ma2, .ref Ma3, .int M_at, .ref Ma4, .int M_newSide, .int M_newRights, .int M_newPassant, .int M_newClock, .int M_newNumber, .ref Ma5, .int M_outs])), (Ma0, .inl ((kI K), 64, .inl M_board)), (Ma1, .inl ((kI K), 100, .inl M_text)), (Ma2, .inl ((kI K), 330, .inl M_moves)), (Ma3, .inl ((kI K), 330, .inl M_signs)), (Ma4, .inl ((kI K), 64, .inl M_newBoard)), (Ma5, .inl ((kI K), 16, .inl M_out))] sz) := by
  refine Met.ofW (cc := b_md_at) (maxL := 2) (ret := (some .int)) (by decide) rfl ?_
  intro p e s m args below meth c s₁ B hml hv
  obtain ⟨rfl, ⟨hsz, hP, hK, hD0, hG⟩, -⟩ := hv
  have hx := B.exec
  have hb := B.bytes
  have hr := B.returns
  have hts := atoms_spec (ws := w_md_at) B.pre
  have hown : s.vm.findClass R_md = some m.cls := findClass_of_methodNamed B.named
  have hlocks := B.notSynchronized
  have htg := fun w h => hts w (List.mem_cons_of_mem _ h)
  subst hsz
  have hD := hD0.self (sz := s.heap.size)
  generalize hAe : va_A [(Mh, .inr (6, [.int M_thrown, .ref Ma0, .int M_side, .int M_rights, .int M_passant, .int M_clock, .int M_number, .ref Ma1, .int M_size, .int M_told, .ref Ma2, .ref Ma3, .int M_at, .ref Ma4, .int M_newSide, .int M_newRights, .int M_newPassant, .int M_newClock, .int M_newNumber, .ref Ma5, .int M_outs])), (Ma0, .inl ((kI K), 64, .inl M_board)), (Ma1, .inl ((kI K), 100, .inl M_text)), (Ma2, .inl ((kI K), 330, .inl M_moves)), (Ma3, .inl ((kI K), 330, .inl M_signs)), (Ma4, .inl ((kI K), 64, .inl M_newBoard)), (Ma5, .inl ((kI K), 16, .inl M_out))] s.heap.size = A at hD hG ⊢
  have hA : ∀ q : Nat, s.heap.size ≤ q → A q := fun q h => by rw [← hAe]; exact Or.inr h
  have hS : va_S A s.heap s.heap [] := va_S.rf
  have hl := lv_entry ([.ref Mh, .int sq]) (n := 2) (Nat.le_of_ble_eq_true rfl)
  rw [lg_entry_eq]
  generalize (lg_sl ([.ref Mh, .int sq]) ++ List.replicate (2 - (lg_sl ([.ref Mh, .int sq])).length) Slot.unset).toArray = ls at hl ⊢
  have hl : lv_has ls 2 [(0, .ref Mh), (1, .int sq)] := hl
  have z0 : (0 : Int32).toInt = 0 := by decide
  have z1 : (1 : Int32).toInt = 1 := by decide
  have zm1 : (-1 : Int32).toInt = -1 := by decide
  have z2 : (2 : Int32).toInt = 2 := by decide
  have z3 : (3 : Int32).toInt = 3 := by decide
  have z7 : (7 : Int32).toInt = 7 := by decide
  have z8 : (8 : Int32).toInt = 8 := by decide
  have z16 : (16 : Int32).toInt = 16 := by decide
  have z64 : (64 : Int32).toInt = 64 := by decide
  have z100 : (100 : Int32).toInt = 100 := by decide
  have z330 : (330 : Int32).toInt = 330 := by decide
  have hF := f_md_at.eq_1 M_board sq
  refine lv_aload_n hx hb d_md_at_0 rfl (lv_at hl 0 rfl) ?_
  refine lv_iconst (v := 0) hx hb d_md_at_1 (by decide) ?_
  refine va_put (D := kD K) (ci := 6) (v := .int (0 : Int32)) (ty := .int) (C := R_md) (T := T_md) (N := 21) hx hb htg in_md ty_md ty_md_ok nm_md hown hK hP hD hS 0 rfl rfl 0 (by decide) (htg (.fieldLink R_md 35 "GameNotationModel" "thrown" "I") q_794) (fun _ h9 => h9) rfl (by decide +kernel) rfl rfl (Nat.le_of_ble_eq_true rfl) d_md_at_2 (fun H locs hP hD hS => ?_)
  have hP : va_P (kD K) vwCl [(Mh, .inr (6, [.int (0 : Int32), .ref Ma0, .int M_side, .int M_rights, .int M_passant, .int M_clock, .int M_number, .ref Ma1, .int M_size, .int M_told, .ref Ma2, .ref Ma3, .int M_at, .ref Ma4, .int M_newSide, .int M_newRights, .int M_newPassant, .int M_newClock, .int M_newNumber, .ref Ma5, .int M_outs])), (Ma0, .inl ((kI K), 64, .inl M_board)), (Ma1, .inl ((kI K), 100, .inl M_text)), (Ma2, .inl ((kI K), 330, .inl M_moves)), (Ma3, .inl ((kI K), 330, .inl M_signs)), (Ma4, .inl ((kI K), 64, .inl M_newBoard)), (Ma5, .inl ((kI K), 16, .inl M_out))] _ := hP
  have hD : va_D A [(Mh, .inr (6, [.int (0 : Int32), .ref Ma0, .int M_side, .int M_rights, .int M_passant, .int M_clock, .int M_number, .ref Ma1, .int M_size, .int M_told, .ref Ma2, .ref Ma3, .int M_at, .ref Ma4, .int M_newSide, .int M_newRights, .int M_newPassant, .int M_newClock, .int M_newNumber, .ref Ma5, .int M_outs])), (Ma0, .inl ((kI K), 64, .inl M_board)), (Ma1, .inl ((kI K), 100, .inl M_text)), (Ma2, .inl ((kI K), 330, .inl M_moves)), (Ma3, .inl ((kI K), 330, .inl M_signs)), (Ma4, .inl ((kI K), 64, .inl M_newBoard)), (Ma5, .inl ((kI K), 16, .inl M_out))] := hD
  refine lv_iload_n hx hb d_md_at_5 rfl (lv_at hl 1 rfl) ?_
  refine lv_if_lt (tgt := 15) hx hb d_md_at_6 (by decide) (fun c_1 => ?_) (fun c_1 => ?_)
  · have hF := hF.trans (if_pos c_1)
    refine lv_iconst (v := -1) hx hb d_md_at_15 (by decide) ?_
    refine lv_goto (tgt := 25) hx hb d_md_at_16 (by decide) ?_
    exact W.iret (v := (-1 : Int32)) hx hb hr (fun t ht hW => ⟨⟨(-1 : Int32), (0 : Int32), rfl, ⟨hF, trivial⟩, ⟨by rw [ht]; exact hP, hD⟩⟩, hS.F ht⟩) hS.2.2 d_md_at_25
  · have hF := hF.trans (if_neg c_1)
    refine lv_iload_n hx hb d_md_at_9 rfl (lv_at hl 1 rfl) ?_
    refine lv_bipush (v := 63) hx hb d_md_at_10 (by decide) ?_
    refine lv_icmp_le (tgt := 19) hx hb d_md_at_12 (by decide) (fun c_2 => ?_) (fun c_2 => ?_)
    · have hF := hF.trans (if_pos c_2)
      refine lv_aload_n hx hb d_md_at_19 rfl (lv_at hl 0 rfl) ?_
      refine va_get (D := kD K) (ci := 6) (v := .ref Ma0) (C := R_md) (T := T_md) (N := 21) hx hb htg in_md hown hK hP 0 rfl rfl 1 (by decide) (htg (.fieldLink R_md 7 "GameNotationModel" "board" "[I") q_795) (fun _ h9 => h9) rfl d_md_at_20 ?_
      refine lv_iload_n hx hb d_md_at_23 rfl (lv_at hl 1 rfl) ?_
      have h_3 : vp_in sq 64 := in63b c_1 c_2
      refine va_iald hx hb hK hP 1 0 rfl rfl h_3 d_md_at_24 ?_
      exact W.iret (v := M_board sq.toNatClampNeg) hx hb hr (fun t ht hW => ⟨⟨M_board sq.toNatClampNeg, (0 : Int32), rfl, ⟨hF, trivial⟩, ⟨by rw [ht]; exact hP, hD⟩⟩, hS.F ht⟩) hS.2.2 d_md_at_25
    · have hF := hF.trans (if_neg c_2)
      refine lv_iconst (v := -1) hx hb d_md_at_15 (by decide) ?_
      refine lv_goto (tgt := 25) hx hb d_md_at_16 (by decide) ?_
      exact W.iret (v := (-1 : Int32)) hx hb hr (fun t ht hW => ⟨⟨(-1 : Int32), (0 : Int32), rfl, ⟨hF, trivial⟩, ⟨by rw [ht]; exact hP, hD⟩⟩, hS.F ht⟩) hS.2.2 d_md_at_25
def f_md_fromOf (mv : Int32) : Int32 := (mv &&& (63 : Int32))
theorem fr_in {mv r : Int32} {Q : Prop} (w : f_md_fromOf mv = r ∧ Q) : vp_in r 64 := by
  rw [← w.1]; exact pk_andIn mv 6 (by decide) (by decide)
set_option maxHeartbeats 4000000 in
set_option maxRecDepth 100000 in
theorem c_md_fromOf (l : Launch) (K : KT) (mv : Int32) : Met l y_md_fromOf w_md_fromOf ({ frames := 0, cells := 0, slots := 0, locals := 0 } : Room) (va_Pc [.int mv] (fun U => pRO K [] U ∧ True)) (vp_Si (fun r => f_md_fromOf mv = r ∧ True)) 0 0 (fun _ => False) := by
  refine Met.ofW (cc := b_md_fromOf) (maxL := 1) (ret := (some .int)) (by decide) rfl ?_
  intro p e s m args below meth c s₁ B hml hv
  obtain ⟨rfl, ⟨hP, hK, hG⟩, -⟩ := hv
  have hx := B.exec
  have hb := B.bytes
  have hr := B.returns
  have hts := atoms_spec (ws := w_md_fromOf) B.pre
  have hown : s.vm.findClass R_md = some m.cls := findClass_of_methodNamed B.named
  have hlocks := B.notSynchronized
  have htg := fun w h => hts w (List.mem_cons_of_mem _ h)
  have hS : va_S (fun _ => False) s.heap s.heap [] := va_S.rf
  have hl := lv_entry ([.int mv]) (n := 1) (Nat.le_of_ble_eq_true rfl)
  rw [lg_entry_eq]
  generalize (lg_sl ([.int mv]) ++ List.replicate (1 - (lg_sl ([.int mv])).length) Slot.unset).toArray = ls at hl ⊢
  have hl : lv_has ls 1 [(0, .int mv)] := hl
  have z0 : (0 : Int32).toInt = 0 := by decide
  have z1 : (1 : Int32).toInt = 1 := by decide
  have zm1 : (-1 : Int32).toInt = -1 := by decide
  have z2 : (2 : Int32).toInt = 2 := by decide
  have z3 : (3 : Int32).toInt = 3 := by decide
  have z7 : (7 : Int32).toInt = 7 := by decide
  have z8 : (8 : Int32).toInt = 8 := by decide
  have z16 : (16 : Int32).toInt = 16 := by decide
  have z64 : (64 : Int32).toInt = 64 := by decide
  have z100 : (100 : Int32).toInt = 100 := by decide
  have z330 : (330 : Int32).toInt = 330 := by decide
  have hF := f_md_fromOf.eq_1 mv
  refine lv_iload_n hx hb d_md_fromOf_0 rfl (lv_at hl 0 rfl) ?_
  refine lv_bipush (v := 63) hx hb d_md_fromOf_1 (by decide) ?_
  refine lv_iand hx hb d_md_fromOf_3 ?_
  exact W.iret (v := mv &&& (63 : Int32)) hx hb hr (fun t ht hW => ⟨_, rfl, ⟨hF, trivial⟩, ht⟩) hS.2.2 d_md_fromOf_4
def f_md_toOf (mv : Int32) : Int32 := ((mv >>> ((6 : Int32) &&& 31)) &&& (63 : Int32))
theorem to_in {mv r : Int32} {Q : Prop} (w : f_md_toOf mv = r ∧ Q) : vp_in r 64 := by
  rw [← w.1]; exact pk_andIn _ 6 (by decide) (by decide)
set_option maxHeartbeats 4000000 in
set_option maxRecDepth 100000 in
theorem c_md_toOf (l : Launch) (K : KT) (mv : Int32) : Met l y_md_toOf w_md_toOf ({ frames := 0, cells := 0, slots := 0, locals := 0 } : Room) (va_Pc [.int mv] (fun U => pRO K [] U ∧ True)) (vp_Si (fun r => f_md_toOf mv = r ∧ True)) 0 0 (fun _ => False) := by
  refine Met.ofW (cc := b_md_toOf) (maxL := 1) (ret := (some .int)) (by decide) rfl ?_
  intro p e s m args below meth c s₁ B hml hv
  obtain ⟨rfl, ⟨hP, hK, hG⟩, -⟩ := hv
  have hx := B.exec
  have hb := B.bytes
  have hr := B.returns
  have hts := atoms_spec (ws := w_md_toOf) B.pre
  have hown : s.vm.findClass R_md = some m.cls := findClass_of_methodNamed B.named
  have hlocks := B.notSynchronized
  have htg := fun w h => hts w (List.mem_cons_of_mem _ h)
  have hS : va_S (fun _ => False) s.heap s.heap [] := va_S.rf
  have hl := lv_entry ([.int mv]) (n := 1) (Nat.le_of_ble_eq_true rfl)
  rw [lg_entry_eq]
  generalize (lg_sl ([.int mv]) ++ List.replicate (1 - (lg_sl ([.int mv])).length) Slot.unset).toArray = ls at hl ⊢
  have hl : lv_has ls 1 [(0, .int mv)] := hl
  have z0 : (0 : Int32).toInt = 0 := by decide
  have z1 : (1 : Int32).toInt = 1 := by decide
  have zm1 : (-1 : Int32).toInt = -1 := by decide
  have z2 : (2 : Int32).toInt = 2 := by decide
  have z3 : (3 : Int32).toInt = 3 := by decide
  have z7 : (7 : Int32).toInt = 7 := by decide
  have z8 : (8 : Int32).toInt = 8 := by decide
  have z16 : (16 : Int32).toInt = 16 := by decide
  have z64 : (64 : Int32).toInt = 64 := by decide
  have z100 : (100 : Int32).toInt = 100 := by decide
  have z330 : (330 : Int32).toInt = 330 := by decide
  have hF := f_md_toOf.eq_1 mv
  refine lv_iload_n hx hb d_md_toOf_0 rfl (lv_at hl 0 rfl) ?_
  refine lv_bipush (v := 6) hx hb d_md_toOf_1 (by decide) ?_
  refine lv_ishr hx hb d_md_toOf_3 ?_
  refine lv_bipush (v := 63) hx hb d_md_toOf_4 (by decide) ?_
  refine lv_iand hx hb d_md_toOf_6 ?_
  exact W.iret (v := (mv >>> ((6 : Int32) &&& 31)) &&& (63 : Int32)) hx hb hr (fun t ht hW => ⟨_, rfl, ⟨hF, trivial⟩, ht⟩) hS.2.2 d_md_toOf_7
def f_md_place_L4 (M_moves : (Nat → Int32)) (M_told : Int32) (mv : Int32) : Nat → Int32 → Int32 → Int32
  | 0, _, _ => 0
  | n + 1, v2, v3 => (if M_told ≤ v3 then v2 else (if (M_moves v3.toNatClampNeg) = mv then (f_md_place_L4 M_moves M_told mv  n v3 (v3 + (1 : Int32))) else (f_md_place_L4 M_moves M_told mv  n v2 (v3 + (1 : Int32)))))
def f_md_place (M_moves : (Nat → Int32)) (M_told : Int32) (mv : Int32) : Int32 := (f_md_place_L4 M_moves M_told mv  331 (-1 : Int32) (0 : Int32))
set_option maxHeartbeats 4000000 in
set_option maxRecDepth 100000 in
theorem c_md_place (l : Launch) (K : KT) (Mh Ma0 Ma1 Ma2 Ma3 Ma4 Ma5 : Nat) (M_board : (Nat → Int32)) (M_text : (Nat → Int32)) (M_moves : (Nat → Int32)) (M_signs : (Nat → Int32)) (M_newBoard : (Nat → Int32)) (M_out : (Nat → Int32)) (M_thrown : Int32) (M_side : Int32) (M_rights : Int32) (M_passant : Int32) (M_clock : Int32) (M_number : Int32) (M_size : Int32) (M_told : Int32) (M_at : Int32) (M_newSide : Int32) (M_newRights : Int32) (M_newPassant : Int32) (M_newClock : Int32) (M_newNumber : Int32) (M_outs : Int32) (mv : Int32) : Met l y_md_place w_md_place ({ frames := 0, cells := 0, slots := 0, locals := 0 } : Room) (va_Pc [.ref Mh, .int mv] (fun U => pRO K [(Mh, .inr (6, [.int M_thrown, .ref Ma0, .int M_side, .int M_rights, .int M_passant, .int M_clock, .int M_number, .ref Ma1, .int M_size, .int M_told, .ref Ma2, .ref Ma3, .int M_at, .ref Ma4, .int M_newSide, .int M_newRights, .int M_newPassant, .int M_newClock, .int M_newNumber, .ref Ma5, .int M_outs])), (Ma0, .inl ((kI K), 64, .inl M_board)), (Ma1, .inl ((kI K), 100, .inl M_text)), (Ma2, .inl ((kI K), 330, .inl M_moves)), (Ma3, .inl ((kI K), 330, .inl M_signs)), (Ma4, .inl ((kI K), 64, .inl M_newBoard)), (Ma5, .inl ((kI K), 16, .inl M_out))] U ∧ M_told.toInt ≤ 330 ∧ True)) (vp_Si (fun r => f_md_place M_moves M_told mv = r ∧ (r.toInt < 330) ∧ True)) 0 0 (fun _ => False) := by
  refine Met.ofW (cc := b_md_place) (maxL := 4) (ret := (some .int)) (by decide) rfl ?_
  intro p e s m args below meth c s₁ B hml hv
  obtain ⟨rfl, ⟨hP, hK, hG⟩, h_t, -⟩ := hv
  have hx := B.exec
  have hb := B.bytes
  have hr := B.returns
  have hts := atoms_spec (ws := w_md_place) B.pre
  have hown : s.vm.findClass R_md = some m.cls := findClass_of_methodNamed B.named
  have hlocks := B.notSynchronized
  have htg := fun w h => hts w (List.mem_cons_of_mem _ h)
  have hS : va_S (fun _ => False) s.heap s.heap [] := va_S.rf
  have hl := lv_entry ([.ref Mh, .int mv]) (n := 4) (Nat.le_of_ble_eq_true rfl)
  rw [lg_entry_eq]
  generalize (lg_sl ([.ref Mh, .int mv]) ++ List.replicate (4 - (lg_sl ([.ref Mh, .int mv])).length) Slot.unset).toArray = ls at hl ⊢
  have hl : lv_has ls 4 [(0, .ref Mh), (1, .int mv)] := hl
  have z0 : (0 : Int32).toInt = 0 := by decide
  have z1 : (1 : Int32).toInt = 1 := by decide
  have zm1 : (-1 : Int32).toInt = -1 := by decide
  have z2 : (2 : Int32).toInt = 2 := by decide
  have z3 : (3 : Int32).toInt = 3 := by decide
  have z7 : (7 : Int32).toInt = 7 := by decide
  have z8 : (8 : Int32).toInt = 8 := by decide
  have z16 : (16 : Int32).toInt = 16 := by decide
  have z64 : (64 : Int32).toInt = 64 := by decide
  have z100 : (100 : Int32).toInt = 100 := by decide
  have z330 : (330 : Int32).toInt = 330 := by decide
  have hF := f_md_place.eq_1 M_moves M_told mv
  refine lv_iconst (v := -1) hx hb d_md_place_0 (by decide) ?_
  refine lv_istore_n (lv' := [(2, .int (-1 : Int32)), (0, .ref Mh), (1, .int mv)]) hx hb d_md_place_1 rfl hl (by decide) rfl (fun ls hl => ?_)
  refine lv_iconst (v := 0) hx hb d_md_place_2 (by decide) ?_
  refine lv_istore_n (lv' := [(3, .int (0 : Int32)), (2, .int (-1 : Int32)), (0, .ref Mh), (1, .int mv)]) hx hb d_md_place_3 rfl hl (by decide) rfl (fun ls hl => ?_)
  have loop4 : ∀ (n4 : Nat) (v2 : Int32) (v3 : Int32) (ls : Array Slot), 0 ≤ v3.toInt → v2.toInt < 330 → ((330 : Int) - v3.toInt).toNat < n4 → lv_has ls 4 [(0, .ref Mh), (1, .int mv), (2, .int v2), (3, .int v3)] → f_md_place M_moves M_told mv = f_md_place_L4 M_moves M_told mv  n4 v2 v3 → W p l e (headSpec w_md_place ({ frames := 0, cells := 0, slots := 0, locals := 0 } : Room)).room s m ([(.ref Mh : Value), .int mv].toArray) below meth c s.heap [] 0 0 (MQ below (vp_Si (fun r => f_md_place M_moves M_told mv = r ∧ (r.toInt < 330) ∧ True)) ([(.ref Mh : Value), .int mv].toArray) s 0 0 ((fun _ => False))) (F0 m 4 ls []) := by
    intro n4
    induction n4 with
    | zero =>
      intro _ _ _ _ _ hz
      exact absurd hz (Nat.not_lt_zero _)
    | succ n4 ih4 =>
      intro v2 v3 ls i0 i1 hm hl hF
      rw [f_md_place_L4] at hF
      refine lv_iload_n hx hb d_md_place_4 rfl (lv_at hl 3 rfl) ?_
      refine lv_aload_n hx hb d_md_place_5 rfl (lv_at hl 0 rfl) ?_
      refine va_get (D := kD K) (ci := 6) (v := .int M_told) (C := R_md) (T := T_md) (N := 21) hx hb htg in_md hown hK hP 0 rfl rfl 9 (by decide) (htg (.fieldLink R_md 133 "GameNotationModel" "told" "I") q_803) (fun _ h9 => h9) rfl d_md_place_6 ?_
      refine lv_icmp_ge (tgt := 34) hx hb d_md_place_9 (by decide) (fun c_1 => ?_) (fun c_1 => ?_)
      · have hF := hF.trans (if_pos c_1)
        refine lv_iload_n hx hb d_md_place_34 rfl (lv_at hl 2 rfl) ?_
        exact W.iret (v := v2) hx hb hr (fun t ht hW => ⟨_, rfl, ⟨hF, (by assumption), trivial⟩, ht⟩) hS.2.2 d_md_place_35
      · have hF := hF.trans (if_neg c_1)
        refine lv_aload_n hx hb d_md_place_12 rfl (lv_at hl 0 rfl) ?_
        refine va_get (D := kD K) (ci := 6) (v := .ref Ma2) (C := R_md) (T := T_md) (N := 21) hx hb htg in_md hown hK hP 0 rfl rfl 10 (by decide) (htg (.fieldLink R_md 23 "GameNotationModel" "moves" "[I") q_804) (fun _ h9 => h9) rfl d_md_place_13 ?_
        refine lv_iload_n hx hb d_md_place_16 rfl (lv_at hl 3 rfl) ?_
        have h_2 : vp_in v3 330 := lp_in i0 c_1 h_t
        refine va_iald hx hb hK hP 3 0 rfl rfl h_2 d_md_place_17 ?_
        refine lv_iload_n hx hb d_md_place_18 rfl (lv_at hl 1 rfl) ?_
        refine lv_icmp_ne (tgt := 26) hx hb d_md_place_19 (by decide) (fun c_3 => ?_) (fun c_3 => ?_)
        · have hF := hF.trans (if_neg c_3)
          refine lv_iload_n hx hb d_md_place_26 rfl (lv_at hl 2 rfl) ?_
          refine lv_istore_n (lv' := [(2, .int v2), (0, .ref Mh), (1, .int mv), (3, .int v3)]) hx hb d_md_place_27 rfl hl (by decide) rfl (fun ls hl => ?_)
          refine lv_iinc (v := v3 + (1 : Int32)) (lv' := [(3, .int (v3 + (1 : Int32))), (2, .int v2), (0, .ref Mh), (1, .int mv)]) hx hb d_md_place_28 hl (k := 3) rfl rfl (by decide) rfl (fun ls hl => ?_)
          refine lv_goto (tgt := 4) hx hb d_md_place_31 (by decide) ?_
          exact ih4  v2 (v3 + (1 : Int32)) ls (lp_s i0 c_1) (by first | exact i1 | exact pl_s c_1 h_t) (lp_d i0 c_1 h_t hm) (lv_sub hl [2, 3, 1, 0] rfl) hF
        · have hF := hF.trans (if_pos c_3)
          refine lv_iload_n hx hb d_md_place_22 rfl (lv_at hl 3 rfl) ?_
          refine lv_goto (tgt := 27) hx hb d_md_place_23 (by decide) ?_
          refine lv_istore_n (lv' := [(2, .int v3), (0, .ref Mh), (1, .int mv), (3, .int v3)]) hx hb d_md_place_27 rfl hl (by decide) rfl (fun ls hl => ?_)
          refine lv_iinc (v := v3 + (1 : Int32)) (lv' := [(3, .int (v3 + (1 : Int32))), (2, .int v3), (0, .ref Mh), (1, .int mv)]) hx hb d_md_place_28 hl (k := 3) rfl rfl (by decide) rfl (fun ls hl => ?_)
          refine lv_goto (tgt := 4) hx hb d_md_place_31 (by decide) ?_
          exact ih4  v3 (v3 + (1 : Int32)) ls (lp_s i0 c_1) (by first | exact i1 | exact pl_s c_1 h_t) (lp_d i0 c_1 h_t hm) (lv_sub hl [2, 3, 1, 0] rfl) hF
  exact loop4 331 (-1 : Int32) (0 : Int32) ls (by decide) (by decide) (by decide) (lv_sub hl [2, 3, 1, 0] rfl) hF
def f_md_isPawn (mn : Int32) : Int32 := (if mn = (1 : Int32) then (1 : Int32) else (if mn = (7 : Int32) then (1 : Int32) else (0 : Int32)))
set_option maxHeartbeats 4000000 in
set_option maxRecDepth 100000 in
theorem c_md_isPawn (l : Launch) (K : KT) (Mh Ma0 Ma1 Ma2 Ma3 Ma4 Ma5 : Nat) (M_board : (Nat → Int32)) (M_text : (Nat → Int32)) (M_moves : (Nat → Int32)) (M_signs : (Nat → Int32)) (M_newBoard : (Nat → Int32)) (M_out : (Nat → Int32)) (M_thrown : Int32) (M_side : Int32) (M_rights : Int32) (M_passant : Int32) (M_clock : Int32) (M_number : Int32) (M_size : Int32) (M_told : Int32) (M_at : Int32) (M_newSide : Int32) (M_newRights : Int32) (M_newPassant : Int32) (M_newClock : Int32) (M_newNumber : Int32) (M_outs : Int32) (mn : Int32) : Met l y_md_isPawn w_md_isPawn ({ frames := 0, cells := 0, slots := 0, locals := 0 } : Room) (va_Pc [.ref Mh, .int mn] (fun U => pRO K [(Mh, .inr (6, [.int M_thrown, .ref Ma0, .int M_side, .int M_rights, .int M_passant, .int M_clock, .int M_number, .ref Ma1, .int M_size, .int M_told, .ref Ma2, .ref Ma3, .int M_at, .ref Ma4, .int M_newSide, .int M_newRights, .int M_newPassant, .int M_newClock, .int M_newNumber, .ref Ma5, .int M_outs])), (Ma0, .inl ((kI K), 64, .inl M_board)), (Ma1, .inl ((kI K), 100, .inl M_text)), (Ma2, .inl ((kI K), 330, .inl M_moves)), (Ma3, .inl ((kI K), 330, .inl M_signs)), (Ma4, .inl ((kI K), 64, .inl M_newBoard)), (Ma5, .inl ((kI K), 16, .inl M_out))] U ∧ True)) (vp_Si (fun r => f_md_isPawn mn = r ∧ narrow .boolean (.int r) = .int r)) 0 0 (fun _ => False) := by
  refine Met.ofW (cc := b_md_isPawn) (maxL := 2) (ret := (some .boolean)) (by decide) rfl ?_
  intro p e s m args below meth c s₁ B hml hv
  obtain ⟨rfl, ⟨hP, hK, hG⟩, -⟩ := hv
  have hx := B.exec
  have hb := B.bytes
  have hr := B.returns
  have hts := atoms_spec (ws := w_md_isPawn) B.pre
  have hown : s.vm.findClass R_md = some m.cls := findClass_of_methodNamed B.named
  have hlocks := B.notSynchronized
  have htg := fun w h => hts w (List.mem_cons_of_mem _ h)
  have hS : va_S (fun _ => False) s.heap s.heap [] := va_S.rf
  have hl := lv_entry ([.ref Mh, .int mn]) (n := 2) (Nat.le_of_ble_eq_true rfl)
  rw [lg_entry_eq]
  generalize (lg_sl ([.ref Mh, .int mn]) ++ List.replicate (2 - (lg_sl ([.ref Mh, .int mn])).length) Slot.unset).toArray = ls at hl ⊢
  have hl : lv_has ls 2 [(0, .ref Mh), (1, .int mn)] := hl
  have z0 : (0 : Int32).toInt = 0 := by decide
  have z1 : (1 : Int32).toInt = 1 := by decide
  have zm1 : (-1 : Int32).toInt = -1 := by decide
  have z2 : (2 : Int32).toInt = 2 := by decide
  have z3 : (3 : Int32).toInt = 3 := by decide
  have z7 : (7 : Int32).toInt = 7 := by decide
  have z8 : (8 : Int32).toInt = 8 := by decide
  have z16 : (16 : Int32).toInt = 16 := by decide
  have z64 : (64 : Int32).toInt = 64 := by decide
  have z100 : (100 : Int32).toInt = 100 := by decide
  have z330 : (330 : Int32).toInt = 330 := by decide
  have hF := f_md_isPawn.eq_1 mn
  refine lv_iload_n hx hb d_md_isPawn_0 rfl (lv_at hl 1 rfl) ?_
  refine lv_iconst (v := 1) hx hb d_md_isPawn_1 (by decide) ?_
  refine lv_icmp_eq (tgt := 11) hx hb d_md_isPawn_2 (by decide) (fun c_1 => ?_) (fun c_1 => ?_)
  · have hF := hF.trans (if_pos c_1)
    refine lv_iconst (v := 1) hx hb d_md_isPawn_11 (by decide) ?_
    refine lv_goto (tgt := 16) hx hb d_md_isPawn_12 (by decide) ?_
    exact W.zret (v := (1 : Int32)) hx hb hr (rfl) (fun t ht hW => ⟨_, rfl, ⟨hF, rfl⟩, ht⟩) hS.2.2 d_md_isPawn_16
  · have hF := hF.trans (if_neg c_1)
    refine lv_iload_n hx hb d_md_isPawn_5 rfl (lv_at hl 1 rfl) ?_
    refine lv_bipush (v := 7) hx hb d_md_isPawn_6 (by decide) ?_
    refine lv_icmp_ne (tgt := 15) hx hb d_md_isPawn_8 (by decide) (fun c_2 => ?_) (fun c_2 => ?_)
    · have hF := hF.trans (if_neg c_2)
      refine lv_iconst (v := 0) hx hb d_md_isPawn_15 (by decide) ?_
      exact W.zret (v := (0 : Int32)) hx hb hr (rfl) (fun t ht hW => ⟨_, rfl, ⟨hF, rfl⟩, ht⟩) hS.2.2 d_md_isPawn_16
    · have hF := hF.trans (if_pos c_2)
      refine lv_iconst (v := 1) hx hb d_md_isPawn_11 (by decide) ?_
      refine lv_goto (tgt := 16) hx hb d_md_isPawn_12 (by decide) ?_
      exact W.zret (v := (1 : Int32)) hx hb hr (rfl) (fun t ht hW => ⟨_, rfl, ⟨hF, rfl⟩, ht⟩) hS.2.2 d_md_isPawn_16
def f_md_tell (M_board : (Nat → Int32)) (M_moves : (Nat → Int32)) (M_signs : (Nat → Int32)) (M_told : Int32) (mv : Int32) (sg : Int32) : Int32 × Int32 × (Nat → Int32) × (Nat → Int32) × Int32 := (if (mv >>> ((12 : Int32) &&& 31)) < 0 then ((0 : Int32), ((0 : Int32), M_moves, M_signs, M_told)) else (if (mv >>> ((12 : Int32) &&& 31)) = (1 : Int32) then ((0 : Int32), ((0 : Int32), M_moves, M_signs, M_told)) else (if (5 : Int32) < (mv >>> ((12 : Int32) &&& 31)) then ((0 : Int32), ((0 : Int32), M_moves, M_signs, M_told)) else (if sg < 0 then ((0 : Int32), ((0 : Int32), M_moves, M_signs, M_told)) else (if (2 : Int32) < sg then ((0 : Int32), ((0 : Int32), M_moves, M_signs, M_told)) else (if M_told = (330 : Int32) then ((0 : Int32), ((0 : Int32), M_moves, M_signs, M_told)) else (bnd (f_md_fromOf mv) (fun r_7 => (bnd (f_md_fromOf mv) (fun r_9 => (bnd (f_md_toOf mv) (fun r_10 => (if r_9 = r_10 then ((0 : Int32), ((0 : Int32), M_moves, M_signs, M_told)) else (if (M_board r_7.toNatClampNeg) = 0 then ((0 : Int32), ((0 : Int32), M_moves, M_signs, M_told)) else (if (mv >>> ((12 : Int32) &&& 31)) ≤ 0 then (bnd (f_md_place M_moves M_told mv) (fun r_14 => (if r_14 < 0 then ((1 : Int32), ((0 : Int32), upd M_moves M_told.toNatClampNeg mv, upd M_signs M_told.toNatClampNeg sg, M_told + (1 : Int32))) else ((0 : Int32), ((0 : Int32), M_moves, M_signs, M_told))))) else (bnd (f_md_isPawn (M_board r_7.toNatClampNeg)) (fun r_18 => (if r_18 = 0 then ((0 : Int32), ((0 : Int32), M_moves, M_signs, M_told)) else (bnd (f_md_place M_moves M_told mv) (fun r_20 => (if r_20 < 0 then ((1 : Int32), ((0 : Int32), upd M_moves M_told.toNatClampNeg mv, upd M_signs M_told.toNatClampNeg sg, M_told + (1 : Int32))) else ((0 : Int32), ((0 : Int32), M_moves, M_signs, M_told)))))))))))))))))))))))
set_option maxHeartbeats 4000000 in
set_option maxRecDepth 100000 in
theorem c_md_tell (l : Launch) (K : KT) (sz : Nat) (Mh Ma0 Ma1 Ma2 Ma3 Ma4 Ma5 : Nat) (M_board : (Nat → Int32)) (M_text : (Nat → Int32)) (M_moves : (Nat → Int32)) (M_signs : (Nat → Int32)) (M_newBoard : (Nat → Int32)) (M_out : (Nat → Int32)) (M_thrown : Int32) (M_side : Int32) (M_rights : Int32) (M_passant : Int32) (M_clock : Int32) (M_number : Int32) (M_size : Int32) (M_told : Int32) (M_at : Int32) (M_newSide : Int32) (M_newRights : Int32) (M_newPassant : Int32) (M_newClock : Int32) (M_newNumber : Int32) (M_outs : Int32) (mv : Int32) (sg : Int32) : Met l y_md_tell w_md_tell ({ frames := 1, cells := 0, slots := 0, locals := 23 } : Room) (va_Pc [.ref Mh, .int mv, .int sg] (fun U => pMU K [(Mh, .inr (6, [.int M_thrown, .ref Ma0, .int M_side, .int M_rights, .int M_passant, .int M_clock, .int M_number, .ref Ma1, .int M_size, .int M_told, .ref Ma2, .ref Ma3, .int M_at, .ref Ma4, .int M_newSide, .int M_newRights, .int M_newPassant, .int M_newClock, .int M_newNumber, .ref Ma5, .int M_outs])), (Ma0, .inl ((kI K), 64, .inl M_board)), (Ma1, .inl ((kI K), 100, .inl M_text)), (Ma2, .inl ((kI K), 330, .inl M_moves)), (Ma3, .inl ((kI K), 330, .inl M_signs)), (Ma4, .inl ((kI K), 64, .inl M_newBoard)), (Ma5, .inl ((kI K), 16, .inl M_out))] sz U ∧ 0 ≤ M_told.toInt ∧ M_told.toInt ≤ 330 ∧ True)) (va_Qi (fun (r : Int32) (u : Int32 × (Nat → Int32) × (Nat → Int32) × Int32) => f_md_tell M_board M_moves M_signs M_told mv sg = (r, u) ∧ narrow .boolean (.int r) = .int r ∧ True) (fun (u : Int32 × (Nat → Int32) × (Nat → Int32) × Int32) (t : State) => va_P (kD K) vwCl [(Mh, .inr (6, [.int u.1, .ref Ma0, .int M_side, .int M_rights, .int M_passant, .int M_clock, .int M_number, .ref Ma1, .int M_size, .int u.2.2.2, .ref Ma2, .ref Ma3, .int M_at, .ref Ma4, .int M_newSide, .int M_newRights, .int M_newPassant, .int M_newClock, .int M_newNumber, .ref Ma5, .int M_outs])), (Ma0, .inl ((kI K), 64, .inl M_board)), (Ma1, .inl ((kI K), 100, .inl M_text)), (Ma2, .inl ((kI K), 330, .inl u.2.1)), (Ma3, .inl ((kI K), 330, .inl u.2.2.1)), (Ma4, .inl ((kI K), 64, .inl M_newBoard)), (Ma5, .inl ((kI K), 16, .inl M_out))] t.heap ∧ va_D (va_A [(Mh, .inr (6, [.int M_thrown, .ref Ma0, .int M_side, .int M_rights, .int M_passant, .int M_clock, .int M_number, .ref Ma1, .int M_size, .int M_told, .ref Ma2, .ref Ma3, .int M_at, .ref Ma4, .int M_newSide, .int M_newRights, .int M_newPassant, .int M_newClock, .int M_newNumber, .ref Ma5, .int M_outs])), (Ma0, .inl ((kI K), 64, .inl M_board)), (Ma1, .inl ((kI K), 100, .inl M_text)), (Ma2, .inl ((kI K), 330, .inl M_moves)), (Ma3, .inl ((kI K), 330, .inl M_signs)), (Ma4, .inl ((kI K), 64, .inl M_newBoard)), (Ma5, .inl ((kI K), 16, .inl M_out))] sz) [(Mh, .inr (6, [.int u.1, .ref Ma0, .int M_side, .int M_rights, .int M_passant, .int M_clock, .int M_number, .ref Ma1, .int M_size, .int u.2.2.2, .ref Ma2, .ref Ma3, .int M_at, .ref Ma4, .int M_newSide, .int M_newRights, .int M_newPassant, .int M_newClock, .int M_newNumber, .ref Ma5, .int M_outs])), (Ma0, .inl ((kI K), 64, .inl M_board)), (Ma1, .inl ((kI K), 100, .inl M_text)), (Ma2, .inl ((kI K), 330, .inl u.2.1)), (Ma3, .inl ((kI K), 330, .inl u.2.2.1)), (Ma4, .inl ((kI K), 64, .inl M_newBoard)), (Ma5, .inl ((kI K), 16, .inl M_out))]) (va_A [(Mh, .inr (6, [.int M_thrown, .ref Ma0, .int M_side, .int M_rights, .int M_passant, .int M_clock, .int M_number, .ref Ma1, .int M_size, .int M_told, .ref Ma2, .ref Ma3, .int M_at, .ref Ma4, .int M_newSide, .int M_newRights, .int M_newPassant, .int M_newClock, .int M_newNumber, .ref Ma5, .int M_outs])), (Ma0, .inl ((kI K), 64, .inl M_board)), (Ma1, .inl ((kI K), 100, .inl M_text)), (Ma2, .inl ((kI K), 330, .inl M_moves)), (Ma3, .inl ((kI K), 330, .inl M_signs)), (Ma4, .inl ((kI K), 64, .inl M_newBoard)), (Ma5, .inl ((kI K), 16, .inl M_out))] sz)) 0 0 (va_A [(Mh, .inr (6, [.int M_thrown, .ref Ma0, .int M_side, .int M_rights, .int M_passant, .int M_clock, .int M_number, .ref Ma1, .int M_size, .int M_told, .ref Ma2, .ref Ma3, .int M_at, .ref Ma4, .int M_newSide, .int M_newRights, .int M_newPassant, .int M_newClock, .int M_newNumber, .ref Ma5, .int M_outs])), (Ma0, .inl ((kI K), 64, .inl M_board)), (Ma1, .inl ((kI K), 100, .inl M_text)), (Ma2, .inl ((kI K), 330, .inl M_moves)), (Ma3, .inl ((kI K), 330, .inl M_signs)), (Ma4, .inl ((kI K), 64, .inl M_newBoard)), (Ma5, .inl ((kI K), 16, .inl M_out))] sz) := by
  refine Met.ofW (cc := b_md_tell) (maxL := 5) (ret := (some .boolean)) (by decide) rfl ?_
  intro p e s m args below meth c s₁ B hml hv
  obtain ⟨rfl, ⟨hsz, hP, hK, hD0, hG⟩, h_t0, h_t, -⟩ := hv
  have hx := B.exec
  have hb := B.bytes
  have hr := B.returns
  have hts := atoms_spec (ws := w_md_tell) B.pre
  have hown : s.vm.findClass R_md = some m.cls := findClass_of_methodNamed B.named
  have hlocks := B.notSynchronized
  have htg := fun w h => hts w (List.mem_cons_of_mem _ h)
  subst hsz
  have hD := hD0.self (sz := s.heap.size)
  generalize hAe : va_A [(Mh, .inr (6, [.int M_thrown, .ref Ma0, .int M_side, .int M_rights, .int M_passant, .int M_clock, .int M_number, .ref Ma1, .int M_size, .int M_told, .ref Ma2, .ref Ma3, .int M_at, .ref Ma4, .int M_newSide, .int M_newRights, .int M_newPassant, .int M_newClock, .int M_newNumber, .ref Ma5, .int M_outs])), (Ma0, .inl ((kI K), 64, .inl M_board)), (Ma1, .inl ((kI K), 100, .inl M_text)), (Ma2, .inl ((kI K), 330, .inl M_moves)), (Ma3, .inl ((kI K), 330, .inl M_signs)), (Ma4, .inl ((kI K), 64, .inl M_newBoard)), (Ma5, .inl ((kI K), 16, .inl M_out))] s.heap.size = A at hD hG ⊢
  have hA : ∀ q : Nat, s.heap.size ≤ q → A q := fun q h => by rw [← hAe]; exact Or.inr h
  have hS : va_S A s.heap s.heap [] := va_S.rf
  have hl := lv_entry ([.ref Mh, .int mv, .int sg]) (n := 5) (Nat.le_of_ble_eq_true rfl)
  rw [lg_entry_eq]
  generalize (lg_sl ([.ref Mh, .int mv, .int sg]) ++ List.replicate (5 - (lg_sl ([.ref Mh, .int mv, .int sg])).length) Slot.unset).toArray = ls at hl ⊢
  have hl : lv_has ls 5 [(0, .ref Mh), (1, .int mv), (2, .int sg)] := hl
  have z0 : (0 : Int32).toInt = 0 := by decide
  have z1 : (1 : Int32).toInt = 1 := by decide
  have zm1 : (-1 : Int32).toInt = -1 := by decide
  have z2 : (2 : Int32).toInt = 2 := by decide
  have z3 : (3 : Int32).toInt = 3 := by decide
  have z7 : (7 : Int32).toInt = 7 := by decide
  have z8 : (8 : Int32).toInt = 8 := by decide
  have z16 : (16 : Int32).toInt = 16 := by decide
  have z64 : (64 : Int32).toInt = 64 := by decide
  have z100 : (100 : Int32).toInt = 100 := by decide
  have z330 : (330 : Int32).toInt = 330 := by decide
  have hF := f_md_tell.eq_1 M_board M_moves M_signs M_told mv sg
  refine lv_aload_n hx hb d_md_tell_0 rfl (lv_at hl 0 rfl) ?_
  refine lv_iconst (v := 0) hx hb d_md_tell_1 (by decide) ?_
  refine va_put (D := kD K) (ci := 6) (v := .int (0 : Int32)) (ty := .int) (C := R_md) (T := T_md) (N := 21) hx hb htg in_md ty_md ty_md_ok nm_md hown hK hP hD hS 0 rfl rfl 0 (by decide) (htg (.fieldLink R_md 35 "GameNotationModel" "thrown" "I") q_794) (fun _ h9 => h9) rfl (by decide +kernel) rfl rfl (Nat.le_of_ble_eq_true rfl) d_md_tell_2 (fun H locs hP hD hS => ?_)
  have hP : va_P (kD K) vwCl [(Mh, .inr (6, [.int (0 : Int32), .ref Ma0, .int M_side, .int M_rights, .int M_passant, .int M_clock, .int M_number, .ref Ma1, .int M_size, .int M_told, .ref Ma2, .ref Ma3, .int M_at, .ref Ma4, .int M_newSide, .int M_newRights, .int M_newPassant, .int M_newClock, .int M_newNumber, .ref Ma5, .int M_outs])), (Ma0, .inl ((kI K), 64, .inl M_board)), (Ma1, .inl ((kI K), 100, .inl M_text)), (Ma2, .inl ((kI K), 330, .inl M_moves)), (Ma3, .inl ((kI K), 330, .inl M_signs)), (Ma4, .inl ((kI K), 64, .inl M_newBoard)), (Ma5, .inl ((kI K), 16, .inl M_out))] _ := hP
  have hD : va_D A [(Mh, .inr (6, [.int (0 : Int32), .ref Ma0, .int M_side, .int M_rights, .int M_passant, .int M_clock, .int M_number, .ref Ma1, .int M_size, .int M_told, .ref Ma2, .ref Ma3, .int M_at, .ref Ma4, .int M_newSide, .int M_newRights, .int M_newPassant, .int M_newClock, .int M_newNumber, .ref Ma5, .int M_outs])), (Ma0, .inl ((kI K), 64, .inl M_board)), (Ma1, .inl ((kI K), 100, .inl M_text)), (Ma2, .inl ((kI K), 330, .inl M_moves)), (Ma3, .inl ((kI K), 330, .inl M_signs)), (Ma4, .inl ((kI K), 64, .inl M_newBoard)), (Ma5, .inl ((kI K), 16, .inl M_out))] := hD
  refine lv_iload_n hx hb d_md_tell_5 rfl (lv_at hl 1 rfl) ?_
  refine lv_bipush (v := 12) hx hb d_md_tell_6 (by decide) ?_
  refine lv_ishr hx hb d_md_tell_8 ?_
  refine lv_istore_n (lv' := [(3, .int (mv >>> ((12 : Int32) &&& 31))), (0, .ref Mh), (1, .int mv), (2, .int sg)]) hx hb d_md_tell_9 rfl hl (by decide) rfl (fun ls hl => ?_)
  refine lv_iload_n hx hb d_md_tell_10 rfl (lv_at hl 0 rfl) ?_
  refine lv_if_lt (tgt := 43) hx hb d_md_tell_11 (by decide) (fun c_1 => ?_) (fun c_1 => ?_)
  · have hF := hF.trans (if_pos c_1)
    refine lv_iconst (v := 0) hx hb d_md_tell_43 (by decide) ?_
    exact W.zret (v := (0 : Int32)) hx hb hr (rfl) (fun t ht hW => ⟨⟨(0 : Int32), ((0 : Int32), M_moves, M_signs, M_told), rfl, ⟨hF, rfl, trivial⟩, ⟨by rw [ht]; exact hP, hD⟩⟩, hS.F ht⟩) hS.2.2 d_md_tell_44
  · have hF := hF.trans (if_neg c_1)
    refine lv_iload_n hx hb d_md_tell_14 rfl (lv_at hl 0 rfl) ?_
    refine lv_iconst (v := 1) hx hb d_md_tell_15 (by decide) ?_
    refine lv_icmp_eq (tgt := 43) hx hb d_md_tell_16 (by decide) (fun c_2 => ?_) (fun c_2 => ?_)
    · have hF := hF.trans (if_pos c_2)
      refine lv_iconst (v := 0) hx hb d_md_tell_43 (by decide) ?_
      exact W.zret (v := (0 : Int32)) hx hb hr (rfl) (fun t ht hW => ⟨⟨(0 : Int32), ((0 : Int32), M_moves, M_signs, M_told), rfl, ⟨hF, rfl, trivial⟩, ⟨by rw [ht]; exact hP, hD⟩⟩, hS.F ht⟩) hS.2.2 d_md_tell_44
    · have hF := hF.trans (if_neg c_2)
      refine lv_iload_n hx hb d_md_tell_19 rfl (lv_at hl 0 rfl) ?_
      refine lv_iconst (v := 5) hx hb d_md_tell_20 (by decide) ?_
      refine lv_icmp_gt (tgt := 43) hx hb d_md_tell_21 (by decide) (fun c_3 => ?_) (fun c_3 => ?_)
      · have hF := hF.trans (if_pos c_3)
        refine lv_iconst (v := 0) hx hb d_md_tell_43 (by decide) ?_
        exact W.zret (v := (0 : Int32)) hx hb hr (rfl) (fun t ht hW => ⟨⟨(0 : Int32), ((0 : Int32), M_moves, M_signs, M_told), rfl, ⟨hF, rfl, trivial⟩, ⟨by rw [ht]; exact hP, hD⟩⟩, hS.F ht⟩) hS.2.2 d_md_tell_44
      · have hF := hF.trans (if_neg c_3)
        refine lv_iload_n hx hb d_md_tell_24 rfl (lv_at hl 3 rfl) ?_
        refine lv_if_lt (tgt := 43) hx hb d_md_tell_25 (by decide) (fun c_4 => ?_) (fun c_4 => ?_)
        · have hF := hF.trans (if_pos c_4)
          refine lv_iconst (v := 0) hx hb d_md_tell_43 (by decide) ?_
          exact W.zret (v := (0 : Int32)) hx hb hr (rfl) (fun t ht hW => ⟨⟨(0 : Int32), ((0 : Int32), M_moves, M_signs, M_told), rfl, ⟨hF, rfl, trivial⟩, ⟨by rw [ht]; exact hP, hD⟩⟩, hS.F ht⟩) hS.2.2 d_md_tell_44
        · have hF := hF.trans (if_neg c_4)
          refine lv_iload_n hx hb d_md_tell_28 rfl (lv_at hl 3 rfl) ?_
          refine lv_iconst (v := 2) hx hb d_md_tell_29 (by decide) ?_
          refine lv_icmp_gt (tgt := 43) hx hb d_md_tell_30 (by decide) (fun c_5 => ?_) (fun c_5 => ?_)
          · have hF := hF.trans (if_pos c_5)
            refine lv_iconst (v := 0) hx hb d_md_tell_43 (by decide) ?_
            exact W.zret (v := (0 : Int32)) hx hb hr (rfl) (fun t ht hW => ⟨⟨(0 : Int32), ((0 : Int32), M_moves, M_signs, M_told), rfl, ⟨hF, rfl, trivial⟩, ⟨by rw [ht]; exact hP, hD⟩⟩, hS.F ht⟩) hS.2.2 d_md_tell_44
          · have hF := hF.trans (if_neg c_5)
            refine lv_aload_n hx hb d_md_tell_33 rfl (lv_at hl 1 rfl) ?_
            refine va_get (D := kD K) (ci := 6) (v := .int M_told) (C := R_md) (T := T_md) (N := 21) hx hb htg in_md hown hK hP 0 rfl rfl 9 (by decide) (htg (.fieldLink R_md 133 "GameNotationModel" "told" "I") q_803) (fun _ h9 => h9) rfl d_md_tell_34 ?_
            refine lv_sipush (v := 330) hx hb d_md_tell_37 (by decide) ?_
            refine lv_icmp_ne (tgt := 45) hx hb d_md_tell_40 (by decide) (fun c_6 => ?_) (fun c_6 => ?_)
            · have hF := hF.trans (if_neg c_6)
              refine lv_aload_n hx hb d_md_tell_45 rfl (lv_at hl 1 rfl) ?_
              refine va_get (D := kD K) (ci := 6) (v := .ref Ma0) (C := R_md) (T := T_md) (N := 21) hx hb htg in_md hown hK hP 0 rfl rfl 1 (by decide) (htg (.fieldLink R_md 7 "GameNotationModel" "board" "[I") q_795) (fun _ h9 => h9) rfl d_md_tell_46 ?_
              refine lv_iload_n hx hb d_md_tell_49 rfl (lv_at hl 2 rfl) ?_
              have hPc : va_P (kD K) vwCl [] _ := hP.sub [] rfl
              refine vp_callSi (va_Run.run (va_runS (As := [.int mv]) (rest := [.ref Ma0]) ⟨hx, hb, hml, hown, htg⟩ (c_md_fromOf l K mv) (va_cwS 1 htg (g_S q_985 q_986 q_7 (g_w q_987)) rfl rfl rfl k_md_fromOf ⟨Nat.le_of_ble_eq_true rfl, Nat.le_of_ble_eq_true rfl⟩) ⟨ro_blind, ro_use hPc hK hG hS trivial⟩ rfl rfl hl.1 rfl (lv_room (Nat.le_of_ble_eq_true rfl)) d_md_tell_50 ⟨Nat.zero_le _, Nat.zero_le _⟩)) (fun r_7 hw_7 => ?_)
              have hF := hF.trans (bnd_s hw_7.1)
              have h_8 : vp_in r_7 64 := fr_in hw_7
              refine va_iald hx hb hK hP 1 0 rfl rfl h_8 d_md_tell_53 ?_
              refine lv_istore (lv' := [(4, .int (M_board r_7.toNatClampNeg)), (3, .int (mv >>> ((12 : Int32) &&& 31))), (0, .ref Mh), (1, .int mv), (2, .int sg)]) hx hb d_md_tell_54 hl (by decide) rfl (fun ls hl => ?_)
              refine lv_iload_n hx hb d_md_tell_56 rfl (lv_at hl 3 rfl) ?_
              have hPc : va_P (kD K) vwCl [] _ := hP.sub [] rfl
              refine vp_callSi (va_Run.run (va_runS (As := [.int mv]) (rest := []) ⟨hx, hb, hml, hown, htg⟩ (c_md_fromOf l K mv) (va_cwS 1 htg (g_S q_985 q_986 q_7 (g_w q_987)) rfl rfl rfl k_md_fromOf ⟨Nat.le_of_ble_eq_true rfl, Nat.le_of_ble_eq_true rfl⟩) ⟨ro_blind, ro_use hPc hK hG hS trivial⟩ rfl rfl hl.1 rfl (lv_room (Nat.le_of_ble_eq_true rfl)) d_md_tell_57 ⟨Nat.zero_le _, Nat.zero_le _⟩)) (fun r_9 hw_9 => ?_)
              have hF := hF.trans (bnd_s hw_9.1)
              refine lv_iload_n hx hb d_md_tell_60 rfl (lv_at hl 3 rfl) ?_
              have hPc : va_P (kD K) vwCl [] _ := hP.sub [] rfl
              refine vp_callSi (va_Run.run (va_runS (As := [.int mv]) (rest := [.int r_9]) ⟨hx, hb, hml, hown, htg⟩ (c_md_toOf l K mv) (va_cwS 1 htg (g_S q_988 q_989 q_7 (g_w q_990)) rfl rfl rfl k_md_toOf ⟨Nat.le_of_ble_eq_true rfl, Nat.le_of_ble_eq_true rfl⟩) ⟨ro_blind, ro_use hPc hK hG hS trivial⟩ rfl rfl hl.1 rfl (lv_room (Nat.le_of_ble_eq_true rfl)) d_md_tell_61 ⟨Nat.zero_le _, Nat.zero_le _⟩)) (fun r_10 hw_10 => ?_)
              have hF := hF.trans (bnd_s hw_10.1)
              refine lv_icmp_eq (tgt := 93) hx hb d_md_tell_64 (by decide) (fun c_11 => ?_) (fun c_11 => ?_)
              · have hF := hF.trans (if_pos c_11)
                refine lv_iconst (v := 0) hx hb d_md_tell_93 (by decide) ?_
                exact W.zret (v := (0 : Int32)) hx hb hr (rfl) (fun t ht hW => ⟨⟨(0 : Int32), ((0 : Int32), M_moves, M_signs, M_told), rfl, ⟨hF, rfl, trivial⟩, ⟨by rw [ht]; exact hP, hD⟩⟩, hS.F ht⟩) hS.2.2 d_md_tell_94
              · have hF := hF.trans (if_neg c_11)
                refine lv_iload hx hb d_md_tell_67 (lv_at hl 0 rfl) ?_
                refine lv_if_eq (tgt := 93) hx hb d_md_tell_69 (by decide) (fun c_12 => ?_) (fun c_12 => ?_)
                · have hF := hF.trans (if_pos c_12)
                  refine lv_iconst (v := 0) hx hb d_md_tell_93 (by decide) ?_
                  exact W.zret (v := (0 : Int32)) hx hb hr (rfl) (fun t ht hW => ⟨⟨(0 : Int32), ((0 : Int32), M_moves, M_signs, M_told), rfl, ⟨hF, rfl, trivial⟩, ⟨by rw [ht]; exact hP, hD⟩⟩, hS.F ht⟩) hS.2.2 d_md_tell_94
                · have hF := hF.trans (if_neg c_12)
                  refine lv_iload_n hx hb d_md_tell_72 rfl (lv_at hl 1 rfl) ?_
                  refine lv_if_le (tgt := 85) hx hb d_md_tell_73 (by decide) (fun c_13 => ?_) (fun c_13 => ?_)
                  · have hF := hF.trans (if_pos c_13)
                    refine lv_aload_n hx hb d_md_tell_85 rfl (lv_at hl 2 rfl) ?_
                    refine lv_iload_n hx hb d_md_tell_86 rfl (lv_at hl 3 rfl) ?_
                    have hPc : va_P (kD K) vwCl [(Mh, .inr (6, [.int (0 : Int32), .ref Ma0, .int M_side, .int M_rights, .int M_passant, .int M_clock, .int M_number, .ref Ma1, .int M_size, .int M_told, .ref Ma2, .ref Ma3, .int M_at, .ref Ma4, .int M_newSide, .int M_newRights, .int M_newPassant, .int M_newClock, .int M_newNumber, .ref Ma5, .int M_outs])), (Ma0, .inl ((kI K), 64, .inl M_board)), (Ma1, .inl ((kI K), 100, .inl M_text)), (Ma2, .inl ((kI K), 330, .inl M_moves)), (Ma3, .inl ((kI K), 330, .inl M_signs)), (Ma4, .inl ((kI K), 64, .inl M_newBoard)), (Ma5, .inl ((kI K), 16, .inl M_out))] _ := hP.sub [0, 1, 2, 3, 4, 5, 6] rfl
                    refine vp_callSi (va_Run.run (va_runV (As := [.int mv]) (rest := []) ⟨hx, hb, hml, hown, htg⟩ (c_md_place l K Mh Ma0 Ma1 Ma2 Ma3 Ma4 Ma5 M_board M_text M_moves M_signs M_newBoard M_out (0 : Int32) M_side M_rights M_passant M_clock M_number M_size M_told M_at M_newSide M_newRights M_newPassant M_newClock M_newNumber M_outs mv) (cwV 1 htg (g_V q_995 q_997 qs_49 q_7 (g_w q_998)) rfl rfl rfl ⟨rfl, k_md_place⟩ ⟨Nat.le_of_ble_eq_true rfl, Nat.le_of_ble_eq_true rfl⟩) ⟨ro_blind, va_recv hK hPc (ci := 6) (q0 := 0) rfl rfl, ro_use hPc hK hG hS ⟨(by first | assumption | omega), trivial⟩⟩ rfl rfl hl.1 rfl (lv_room (Nat.le_of_ble_eq_true rfl)) d_md_tell_87 ⟨Nat.zero_le _, Nat.zero_le _⟩)) (fun r_14 hw_14 => ?_)
                    have hF := hF.trans (bnd_s hw_14.1)
                    have fp_14_0 : r_14.toInt < 330 := hw_14.2.1
                    refine lv_if_lt (tgt := 95) hx hb d_md_tell_90 (by decide) (fun c_15 => ?_) (fun c_15 => ?_)
                    · have hF := hF.trans (if_pos c_15)
                      refine lv_aload_n hx hb d_md_tell_95 rfl (lv_at hl 2 rfl) ?_
                      refine va_get (D := kD K) (ci := 6) (v := .ref Ma2) (C := R_md) (T := T_md) (N := 21) hx hb htg in_md hown hK hP 0 rfl rfl 10 (by decide) (htg (.fieldLink R_md 23 "GameNotationModel" "moves" "[I") q_804) (fun _ h9 => h9) rfl d_md_tell_96 ?_
                      refine lv_aload_n hx hb d_md_tell_99 rfl (lv_at hl 2 rfl) ?_
                      refine va_get (D := kD K) (ci := 6) (v := .int M_told) (C := R_md) (T := T_md) (N := 21) hx hb htg in_md hown hK hP 0 rfl rfl 9 (by decide) (htg (.fieldLink R_md 133 "GameNotationModel" "told" "I") q_803) (fun _ h9 => h9) rfl d_md_tell_100 ?_
                      refine lv_iload_n hx hb d_md_tell_103 rfl (lv_at hl 3 rfl) ?_
                      have h_16 : vp_in M_told 330 := tl_in h_t0 h_t c_6
                      refine va_iast hx hb hK hP hD hS 3 0 rfl rfl h_16 d_md_tell_104 (fun H locs hP hD hS => ?_)
                      have hP : va_P (kD K) vwCl [(Mh, .inr (6, [.int (0 : Int32), .ref Ma0, .int M_side, .int M_rights, .int M_passant, .int M_clock, .int M_number, .ref Ma1, .int M_size, .int M_told, .ref Ma2, .ref Ma3, .int M_at, .ref Ma4, .int M_newSide, .int M_newRights, .int M_newPassant, .int M_newClock, .int M_newNumber, .ref Ma5, .int M_outs])), (Ma0, .inl ((kI K), 64, .inl M_board)), (Ma1, .inl ((kI K), 100, .inl M_text)), (Ma2, .inl ((kI K), 330, .inl (upd M_moves M_told.toNatClampNeg mv))), (Ma3, .inl ((kI K), 330, .inl M_signs)), (Ma4, .inl ((kI K), 64, .inl M_newBoard)), (Ma5, .inl ((kI K), 16, .inl M_out))] _ := hP
                      have hD : va_D A [(Mh, .inr (6, [.int (0 : Int32), .ref Ma0, .int M_side, .int M_rights, .int M_passant, .int M_clock, .int M_number, .ref Ma1, .int M_size, .int M_told, .ref Ma2, .ref Ma3, .int M_at, .ref Ma4, .int M_newSide, .int M_newRights, .int M_newPassant, .int M_newClock, .int M_newNumber, .ref Ma5, .int M_outs])), (Ma0, .inl ((kI K), 64, .inl M_board)), (Ma1, .inl ((kI K), 100, .inl M_text)), (Ma2, .inl ((kI K), 330, .inl (upd M_moves M_told.toNatClampNeg mv))), (Ma3, .inl ((kI K), 330, .inl M_signs)), (Ma4, .inl ((kI K), 64, .inl M_newBoard)), (Ma5, .inl ((kI K), 16, .inl M_out))] := hD
                      refine lv_aload_n hx hb d_md_tell_105 rfl (lv_at hl 2 rfl) ?_
                      refine va_get (D := kD K) (ci := 6) (v := .ref Ma3) (C := R_md) (T := T_md) (N := 21) hx hb htg in_md hown hK hP 0 rfl rfl 11 (by decide) (htg (.fieldLink R_md 26 "GameNotationModel" "signs" "[I") q_805) (fun _ h9 => h9) rfl d_md_tell_106 ?_
                      refine lv_aload_n hx hb d_md_tell_109 rfl (lv_at hl 2 rfl) ?_
                      refine va_get (D := kD K) (ci := 6) (v := .int M_told) (C := R_md) (T := T_md) (N := 21) hx hb htg in_md hown hK hP 0 rfl rfl 9 (by decide) (htg (.fieldLink R_md 133 "GameNotationModel" "told" "I") q_803) (fun _ h9 => h9) rfl d_md_tell_110 ?_
                      refine lv_iload_n hx hb d_md_tell_113 rfl (lv_at hl 4 rfl) ?_
                      have h_17 : vp_in M_told 330 := tl_in h_t0 h_t c_6
                      refine va_iast hx hb hK hP hD hS 4 0 rfl rfl h_17 d_md_tell_114 (fun H locs hP hD hS => ?_)
                      have hP : va_P (kD K) vwCl [(Mh, .inr (6, [.int (0 : Int32), .ref Ma0, .int M_side, .int M_rights, .int M_passant, .int M_clock, .int M_number, .ref Ma1, .int M_size, .int M_told, .ref Ma2, .ref Ma3, .int M_at, .ref Ma4, .int M_newSide, .int M_newRights, .int M_newPassant, .int M_newClock, .int M_newNumber, .ref Ma5, .int M_outs])), (Ma0, .inl ((kI K), 64, .inl M_board)), (Ma1, .inl ((kI K), 100, .inl M_text)), (Ma2, .inl ((kI K), 330, .inl (upd M_moves M_told.toNatClampNeg mv))), (Ma3, .inl ((kI K), 330, .inl (upd M_signs M_told.toNatClampNeg sg))), (Ma4, .inl ((kI K), 64, .inl M_newBoard)), (Ma5, .inl ((kI K), 16, .inl M_out))] _ := hP
                      have hD : va_D A [(Mh, .inr (6, [.int (0 : Int32), .ref Ma0, .int M_side, .int M_rights, .int M_passant, .int M_clock, .int M_number, .ref Ma1, .int M_size, .int M_told, .ref Ma2, .ref Ma3, .int M_at, .ref Ma4, .int M_newSide, .int M_newRights, .int M_newPassant, .int M_newClock, .int M_newNumber, .ref Ma5, .int M_outs])), (Ma0, .inl ((kI K), 64, .inl M_board)), (Ma1, .inl ((kI K), 100, .inl M_text)), (Ma2, .inl ((kI K), 330, .inl (upd M_moves M_told.toNatClampNeg mv))), (Ma3, .inl ((kI K), 330, .inl (upd M_signs M_told.toNatClampNeg sg))), (Ma4, .inl ((kI K), 64, .inl M_newBoard)), (Ma5, .inl ((kI K), 16, .inl M_out))] := hD
                      refine lv_aload_n hx hb d_md_tell_115 rfl (lv_at hl 2 rfl) ?_
                      refine lv_dup hx hb d_md_tell_116 rfl ?_
                      refine va_get (D := kD K) (ci := 6) (v := .int M_told) (C := R_md) (T := T_md) (N := 21) hx hb htg in_md hown hK hP 0 rfl rfl 9 (by decide) (htg (.fieldLink R_md 133 "GameNotationModel" "told" "I") q_803) (fun _ h9 => h9) rfl d_md_tell_117 ?_
                      refine lv_iconst (v := 1) hx hb d_md_tell_120 (by decide) ?_
                      refine lv_iadd hx hb d_md_tell_121 ?_
                      refine va_put (D := kD K) (ci := 6) (v := .int (M_told + (1 : Int32))) (ty := .int) (C := R_md) (T := T_md) (N := 21) hx hb htg in_md ty_md ty_md_ok nm_md hown hK hP hD hS 0 rfl rfl 9 (by decide) (htg (.fieldLink R_md 133 "GameNotationModel" "told" "I") q_803) (fun _ h9 => h9) rfl (by decide +kernel) rfl rfl (Nat.le_of_ble_eq_true rfl) d_md_tell_122 (fun H locs hP hD hS => ?_)
                      have hP : va_P (kD K) vwCl [(Mh, .inr (6, [.int (0 : Int32), .ref Ma0, .int M_side, .int M_rights, .int M_passant, .int M_clock, .int M_number, .ref Ma1, .int M_size, .int (M_told + (1 : Int32)), .ref Ma2, .ref Ma3, .int M_at, .ref Ma4, .int M_newSide, .int M_newRights, .int M_newPassant, .int M_newClock, .int M_newNumber, .ref Ma5, .int M_outs])), (Ma0, .inl ((kI K), 64, .inl M_board)), (Ma1, .inl ((kI K), 100, .inl M_text)), (Ma2, .inl ((kI K), 330, .inl (upd M_moves M_told.toNatClampNeg mv))), (Ma3, .inl ((kI K), 330, .inl (upd M_signs M_told.toNatClampNeg sg))), (Ma4, .inl ((kI K), 64, .inl M_newBoard)), (Ma5, .inl ((kI K), 16, .inl M_out))] _ := hP
                      have hD : va_D A [(Mh, .inr (6, [.int (0 : Int32), .ref Ma0, .int M_side, .int M_rights, .int M_passant, .int M_clock, .int M_number, .ref Ma1, .int M_size, .int (M_told + (1 : Int32)), .ref Ma2, .ref Ma3, .int M_at, .ref Ma4, .int M_newSide, .int M_newRights, .int M_newPassant, .int M_newClock, .int M_newNumber, .ref Ma5, .int M_outs])), (Ma0, .inl ((kI K), 64, .inl M_board)), (Ma1, .inl ((kI K), 100, .inl M_text)), (Ma2, .inl ((kI K), 330, .inl (upd M_moves M_told.toNatClampNeg mv))), (Ma3, .inl ((kI K), 330, .inl (upd M_signs M_told.toNatClampNeg sg))), (Ma4, .inl ((kI K), 64, .inl M_newBoard)), (Ma5, .inl ((kI K), 16, .inl M_out))] := hD
                      refine lv_iconst (v := 1) hx hb d_md_tell_125 (by decide) ?_
                      exact W.zret (v := (1 : Int32)) hx hb hr (rfl) (fun t ht hW => ⟨⟨(1 : Int32), ((0 : Int32), upd M_moves M_told.toNatClampNeg mv, upd M_signs M_told.toNatClampNeg sg, M_told + (1 : Int32)), rfl, ⟨hF, rfl, trivial⟩, ⟨by rw [ht]; exact hP, hD⟩⟩, hS.F ht⟩) hS.2.2 d_md_tell_126
                    · have hF := hF.trans (if_neg c_15)
                      refine lv_iconst (v := 0) hx hb d_md_tell_93 (by decide) ?_
                      exact W.zret (v := (0 : Int32)) hx hb hr (rfl) (fun t ht hW => ⟨⟨(0 : Int32), ((0 : Int32), M_moves, M_signs, M_told), rfl, ⟨hF, rfl, trivial⟩, ⟨by rw [ht]; exact hP, hD⟩⟩, hS.F ht⟩) hS.2.2 d_md_tell_94
                  · have hF := hF.trans (if_neg c_13)
                    refine lv_aload_n hx hb d_md_tell_76 rfl (lv_at hl 2 rfl) ?_
                    refine lv_iload hx hb d_md_tell_77 (lv_at hl 0 rfl) ?_
                    have hPc : va_P (kD K) vwCl [(Mh, .inr (6, [.int (0 : Int32), .ref Ma0, .int M_side, .int M_rights, .int M_passant, .int M_clock, .int M_number, .ref Ma1, .int M_size, .int M_told, .ref Ma2, .ref Ma3, .int M_at, .ref Ma4, .int M_newSide, .int M_newRights, .int M_newPassant, .int M_newClock, .int M_newNumber, .ref Ma5, .int M_outs])), (Ma0, .inl ((kI K), 64, .inl M_board)), (Ma1, .inl ((kI K), 100, .inl M_text)), (Ma2, .inl ((kI K), 330, .inl M_moves)), (Ma3, .inl ((kI K), 330, .inl M_signs)), (Ma4, .inl ((kI K), 64, .inl M_newBoard)), (Ma5, .inl ((kI K), 16, .inl M_out))] _ := hP.sub [0, 1, 2, 3, 4, 5, 6] rfl
                    refine vp_callSi (va_Run.run (va_runV (As := [.int (M_board r_7.toNatClampNeg)]) (rest := []) ⟨hx, hb, hml, hown, htg⟩ (c_md_isPawn l K Mh Ma0 Ma1 Ma2 Ma3 Ma4 Ma5 M_board M_text M_moves M_signs M_newBoard M_out (0 : Int32) M_side M_rights M_passant M_clock M_number M_size M_told M_at M_newSide M_newRights M_newPassant M_newClock M_newNumber M_outs (M_board r_7.toNatClampNeg)) (cwV 1 htg (g_V q_991 q_993 qs_48 q_7 (g_w q_994)) rfl rfl rfl ⟨rfl, k_md_isPawn⟩ ⟨Nat.le_of_ble_eq_true rfl, Nat.le_of_ble_eq_true rfl⟩) ⟨ro_blind, va_recv hK hPc (ci := 6) (q0 := 0) rfl rfl, ro_use hPc hK hG hS trivial⟩ rfl rfl hl.1 rfl (lv_room (Nat.le_of_ble_eq_true rfl)) d_md_tell_79 ⟨Nat.zero_le _, Nat.zero_le _⟩)) (fun r_18 hw_18 => ?_)
                    have hF := hF.trans (bnd_s hw_18.1)
                    have hn_18 := hw_18.2
                    refine lv_if_eq (tgt := 93) hx hb d_md_tell_82 (by decide) (fun c_19 => ?_) (fun c_19 => ?_)
                    · have hF := hF.trans (if_pos c_19)
                      refine lv_iconst (v := 0) hx hb d_md_tell_93 (by decide) ?_
                      exact W.zret (v := (0 : Int32)) hx hb hr (rfl) (fun t ht hW => ⟨⟨(0 : Int32), ((0 : Int32), M_moves, M_signs, M_told), rfl, ⟨hF, rfl, trivial⟩, ⟨by rw [ht]; exact hP, hD⟩⟩, hS.F ht⟩) hS.2.2 d_md_tell_94
                    · have hF := hF.trans (if_neg c_19)
                      refine lv_aload_n hx hb d_md_tell_85 rfl (lv_at hl 2 rfl) ?_
                      refine lv_iload_n hx hb d_md_tell_86 rfl (lv_at hl 3 rfl) ?_
                      have hPc : va_P (kD K) vwCl [(Mh, .inr (6, [.int (0 : Int32), .ref Ma0, .int M_side, .int M_rights, .int M_passant, .int M_clock, .int M_number, .ref Ma1, .int M_size, .int M_told, .ref Ma2, .ref Ma3, .int M_at, .ref Ma4, .int M_newSide, .int M_newRights, .int M_newPassant, .int M_newClock, .int M_newNumber, .ref Ma5, .int M_outs])), (Ma0, .inl ((kI K), 64, .inl M_board)), (Ma1, .inl ((kI K), 100, .inl M_text)), (Ma2, .inl ((kI K), 330, .inl M_moves)), (Ma3, .inl ((kI K), 330, .inl M_signs)), (Ma4, .inl ((kI K), 64, .inl M_newBoard)), (Ma5, .inl ((kI K), 16, .inl M_out))] _ := hP.sub [0, 1, 2, 3, 4, 5, 6] rfl
                      refine vp_callSi (va_Run.run (va_runV (As := [.int mv]) (rest := []) ⟨hx, hb, hml, hown, htg⟩ (c_md_place l K Mh Ma0 Ma1 Ma2 Ma3 Ma4 Ma5 M_board M_text M_moves M_signs M_newBoard M_out (0 : Int32) M_side M_rights M_passant M_clock M_number M_size M_told M_at M_newSide M_newRights M_newPassant M_newClock M_newNumber M_outs mv) (cwV 1 htg (g_V q_995 q_997 qs_49 q_7 (g_w q_998)) rfl rfl rfl ⟨rfl, k_md_place⟩ ⟨Nat.le_of_ble_eq_true rfl, Nat.le_of_ble_eq_true rfl⟩) ⟨ro_blind, va_recv hK hPc (ci := 6) (q0 := 0) rfl rfl, ro_use hPc hK hG hS ⟨(by first | assumption | omega), trivial⟩⟩ rfl rfl hl.1 rfl (lv_room (Nat.le_of_ble_eq_true rfl)) d_md_tell_87 ⟨Nat.zero_le _, Nat.zero_le _⟩)) (fun r_20 hw_20 => ?_)
                      have hF := hF.trans (bnd_s hw_20.1)
                      have fp_20_0 : r_20.toInt < 330 := hw_20.2.1
                      refine lv_if_lt (tgt := 95) hx hb d_md_tell_90 (by decide) (fun c_21 => ?_) (fun c_21 => ?_)
                      · have hF := hF.trans (if_pos c_21)
                        refine lv_aload_n hx hb d_md_tell_95 rfl (lv_at hl 2 rfl) ?_
                        refine va_get (D := kD K) (ci := 6) (v := .ref Ma2) (C := R_md) (T := T_md) (N := 21) hx hb htg in_md hown hK hP 0 rfl rfl 10 (by decide) (htg (.fieldLink R_md 23 "GameNotationModel" "moves" "[I") q_804) (fun _ h9 => h9) rfl d_md_tell_96 ?_
                        refine lv_aload_n hx hb d_md_tell_99 rfl (lv_at hl 2 rfl) ?_
                        refine va_get (D := kD K) (ci := 6) (v := .int M_told) (C := R_md) (T := T_md) (N := 21) hx hb htg in_md hown hK hP 0 rfl rfl 9 (by decide) (htg (.fieldLink R_md 133 "GameNotationModel" "told" "I") q_803) (fun _ h9 => h9) rfl d_md_tell_100 ?_
                        refine lv_iload_n hx hb d_md_tell_103 rfl (lv_at hl 3 rfl) ?_
                        have h_22 : vp_in M_told 330 := tl_in h_t0 h_t c_6
                        refine va_iast hx hb hK hP hD hS 3 0 rfl rfl h_22 d_md_tell_104 (fun H locs hP hD hS => ?_)
                        have hP : va_P (kD K) vwCl [(Mh, .inr (6, [.int (0 : Int32), .ref Ma0, .int M_side, .int M_rights, .int M_passant, .int M_clock, .int M_number, .ref Ma1, .int M_size, .int M_told, .ref Ma2, .ref Ma3, .int M_at, .ref Ma4, .int M_newSide, .int M_newRights, .int M_newPassant, .int M_newClock, .int M_newNumber, .ref Ma5, .int M_outs])), (Ma0, .inl ((kI K), 64, .inl M_board)), (Ma1, .inl ((kI K), 100, .inl M_text)), (Ma2, .inl ((kI K), 330, .inl (upd M_moves M_told.toNatClampNeg mv))), (Ma3, .inl ((kI K), 330, .inl M_signs)), (Ma4, .inl ((kI K), 64, .inl M_newBoard)), (Ma5, .inl ((kI K), 16, .inl M_out))] _ := hP
                        have hD : va_D A [(Mh, .inr (6, [.int (0 : Int32), .ref Ma0, .int M_side, .int M_rights, .int M_passant, .int M_clock, .int M_number, .ref Ma1, .int M_size, .int M_told, .ref Ma2, .ref Ma3, .int M_at, .ref Ma4, .int M_newSide, .int M_newRights, .int M_newPassant, .int M_newClock, .int M_newNumber, .ref Ma5, .int M_outs])), (Ma0, .inl ((kI K), 64, .inl M_board)), (Ma1, .inl ((kI K), 100, .inl M_text)), (Ma2, .inl ((kI K), 330, .inl (upd M_moves M_told.toNatClampNeg mv))), (Ma3, .inl ((kI K), 330, .inl M_signs)), (Ma4, .inl ((kI K), 64, .inl M_newBoard)), (Ma5, .inl ((kI K), 16, .inl M_out))] := hD
                        refine lv_aload_n hx hb d_md_tell_105 rfl (lv_at hl 2 rfl) ?_
                        refine va_get (D := kD K) (ci := 6) (v := .ref Ma3) (C := R_md) (T := T_md) (N := 21) hx hb htg in_md hown hK hP 0 rfl rfl 11 (by decide) (htg (.fieldLink R_md 26 "GameNotationModel" "signs" "[I") q_805) (fun _ h9 => h9) rfl d_md_tell_106 ?_
                        refine lv_aload_n hx hb d_md_tell_109 rfl (lv_at hl 2 rfl) ?_
                        refine va_get (D := kD K) (ci := 6) (v := .int M_told) (C := R_md) (T := T_md) (N := 21) hx hb htg in_md hown hK hP 0 rfl rfl 9 (by decide) (htg (.fieldLink R_md 133 "GameNotationModel" "told" "I") q_803) (fun _ h9 => h9) rfl d_md_tell_110 ?_
                        refine lv_iload_n hx hb d_md_tell_113 rfl (lv_at hl 4 rfl) ?_
                        have h_23 : vp_in M_told 330 := tl_in h_t0 h_t c_6
                        refine va_iast hx hb hK hP hD hS 4 0 rfl rfl h_23 d_md_tell_114 (fun H locs hP hD hS => ?_)
                        have hP : va_P (kD K) vwCl [(Mh, .inr (6, [.int (0 : Int32), .ref Ma0, .int M_side, .int M_rights, .int M_passant, .int M_clock, .int M_number, .ref Ma1, .int M_size, .int M_told, .ref Ma2, .ref Ma3, .int M_at, .ref Ma4, .int M_newSide, .int M_newRights, .int M_newPassant, .int M_newClock, .int M_newNumber, .ref Ma5, .int M_outs])), (Ma0, .inl ((kI K), 64, .inl M_board)), (Ma1, .inl ((kI K), 100, .inl M_text)), (Ma2, .inl ((kI K), 330, .inl (upd M_moves M_told.toNatClampNeg mv))), (Ma3, .inl ((kI K), 330, .inl (upd M_signs M_told.toNatClampNeg sg))), (Ma4, .inl ((kI K), 64, .inl M_newBoard)), (Ma5, .inl ((kI K), 16, .inl M_out))] _ := hP
                        have hD : va_D A [(Mh, .inr (6, [.int (0 : Int32), .ref Ma0, .int M_side, .int M_rights, .int M_passant, .int M_clock, .int M_number, .ref Ma1, .int M_size, .int M_told, .ref Ma2, .ref Ma3, .int M_at, .ref Ma4, .int M_newSide, .int M_newRights, .int M_newPassant, .int M_newClock, .int M_newNumber, .ref Ma5, .int M_outs])), (Ma0, .inl ((kI K), 64, .inl M_board)), (Ma1, .inl ((kI K), 100, .inl M_text)), (Ma2, .inl ((kI K), 330, .inl (upd M_moves M_told.toNatClampNeg mv))), (Ma3, .inl ((kI K), 330, .inl (upd M_signs M_told.toNatClampNeg sg))), (Ma4, .inl ((kI K), 64, .inl M_newBoard)), (Ma5, .inl ((kI K), 16, .inl M_out))] := hD
                        refine lv_aload_n hx hb d_md_tell_115 rfl (lv_at hl 2 rfl) ?_
                        refine lv_dup hx hb d_md_tell_116 rfl ?_
                        refine va_get (D := kD K) (ci := 6) (v := .int M_told) (C := R_md) (T := T_md) (N := 21) hx hb htg in_md hown hK hP 0 rfl rfl 9 (by decide) (htg (.fieldLink R_md 133 "GameNotationModel" "told" "I") q_803) (fun _ h9 => h9) rfl d_md_tell_117 ?_
                        refine lv_iconst (v := 1) hx hb d_md_tell_120 (by decide) ?_
                        refine lv_iadd hx hb d_md_tell_121 ?_
                        refine va_put (D := kD K) (ci := 6) (v := .int (M_told + (1 : Int32))) (ty := .int) (C := R_md) (T := T_md) (N := 21) hx hb htg in_md ty_md ty_md_ok nm_md hown hK hP hD hS 0 rfl rfl 9 (by decide) (htg (.fieldLink R_md 133 "GameNotationModel" "told" "I") q_803) (fun _ h9 => h9) rfl (by decide +kernel) rfl rfl (Nat.le_of_ble_eq_true rfl) d_md_tell_122 (fun H locs hP hD hS => ?_)
                        have hP : va_P (kD K) vwCl [(Mh, .inr (6, [.int (0 : Int32), .ref Ma0, .int M_side, .int M_rights, .int M_passant, .int M_clock, .int M_number, .ref Ma1, .int M_size, .int (M_told + (1 : Int32)), .ref Ma2, .ref Ma3, .int M_at, .ref Ma4, .int M_newSide, .int M_newRights, .int M_newPassant, .int M_newClock, .int M_newNumber, .ref Ma5, .int M_outs])), (Ma0, .inl ((kI K), 64, .inl M_board)), (Ma1, .inl ((kI K), 100, .inl M_text)), (Ma2, .inl ((kI K), 330, .inl (upd M_moves M_told.toNatClampNeg mv))), (Ma3, .inl ((kI K), 330, .inl (upd M_signs M_told.toNatClampNeg sg))), (Ma4, .inl ((kI K), 64, .inl M_newBoard)), (Ma5, .inl ((kI K), 16, .inl M_out))] _ := hP
                        have hD : va_D A [(Mh, .inr (6, [.int (0 : Int32), .ref Ma0, .int M_side, .int M_rights, .int M_passant, .int M_clock, .int M_number, .ref Ma1, .int M_size, .int (M_told + (1 : Int32)), .ref Ma2, .ref Ma3, .int M_at, .ref Ma4, .int M_newSide, .int M_newRights, .int M_newPassant, .int M_newClock, .int M_newNumber, .ref Ma5, .int M_outs])), (Ma0, .inl ((kI K), 64, .inl M_board)), (Ma1, .inl ((kI K), 100, .inl M_text)), (Ma2, .inl ((kI K), 330, .inl (upd M_moves M_told.toNatClampNeg mv))), (Ma3, .inl ((kI K), 330, .inl (upd M_signs M_told.toNatClampNeg sg))), (Ma4, .inl ((kI K), 64, .inl M_newBoard)), (Ma5, .inl ((kI K), 16, .inl M_out))] := hD
                        refine lv_iconst (v := 1) hx hb d_md_tell_125 (by decide) ?_
                        exact W.zret (v := (1 : Int32)) hx hb hr (rfl) (fun t ht hW => ⟨⟨(1 : Int32), ((0 : Int32), upd M_moves M_told.toNatClampNeg mv, upd M_signs M_told.toNatClampNeg sg, M_told + (1 : Int32)), rfl, ⟨hF, rfl, trivial⟩, ⟨by rw [ht]; exact hP, hD⟩⟩, hS.F ht⟩) hS.2.2 d_md_tell_126
                      · have hF := hF.trans (if_neg c_21)
                        refine lv_iconst (v := 0) hx hb d_md_tell_93 (by decide) ?_
                        exact W.zret (v := (0 : Int32)) hx hb hr (rfl) (fun t ht hW => ⟨⟨(0 : Int32), ((0 : Int32), M_moves, M_signs, M_told), rfl, ⟨hF, rfl, trivial⟩, ⟨by rw [ht]; exact hP, hD⟩⟩, hS.F ht⟩) hS.2.2 d_md_tell_94
            · have hF := hF.trans (if_pos c_6)
              refine lv_iconst (v := 0) hx hb d_md_tell_43 (by decide) ?_
              exact W.zret (v := (0 : Int32)) hx hb hr (rfl) (fun t ht hW => ⟨⟨(0 : Int32), ((0 : Int32), M_moves, M_signs, M_told), rfl, ⟨hF, rfl, trivial⟩, ⟨by rw [ht]; exact hP, hD⟩⟩, hS.F ht⟩) hS.2.2 d_md_tell_44
def f_md_forget  : Int32 × Int32 := ((0 : Int32), (0 : Int32))
set_option maxHeartbeats 4000000 in
set_option maxRecDepth 100000 in
theorem c_md_forget (l : Launch) (K : KT) (sz : Nat) (Mh Ma0 Ma1 Ma2 Ma3 Ma4 Ma5 : Nat) (M_board : (Nat → Int32)) (M_text : (Nat → Int32)) (M_moves : (Nat → Int32)) (M_signs : (Nat → Int32)) (M_newBoard : (Nat → Int32)) (M_out : (Nat → Int32)) (M_thrown : Int32) (M_side : Int32) (M_rights : Int32) (M_passant : Int32) (M_clock : Int32) (M_number : Int32) (M_size : Int32) (M_told : Int32) (M_at : Int32) (M_newSide : Int32) (M_newRights : Int32) (M_newPassant : Int32) (M_newClock : Int32) (M_newNumber : Int32) (M_outs : Int32) : Met l y_md_forget w_md_forget ({ frames := 0, cells := 0, slots := 0, locals := 0 } : Room) (va_Pc [.ref Mh] (fun U => pMU K [(Mh, .inr (6, [.int M_thrown, .ref Ma0, .int M_side, .int M_rights, .int M_passant, .int M_clock, .int M_number, .ref Ma1, .int M_size, .int M_told, .ref Ma2, .ref Ma3, .int M_at, .ref Ma4, .int M_newSide, .int M_newRights, .int M_newPassant, .int M_newClock, .int M_newNumber, .ref Ma5, .int M_outs])), (Ma0, .inl ((kI K), 64, .inl M_board)), (Ma1, .inl ((kI K), 100, .inl M_text)), (Ma2, .inl ((kI K), 330, .inl M_moves)), (Ma3, .inl ((kI K), 330, .inl M_signs)), (Ma4, .inl ((kI K), 64, .inl M_newBoard)), (Ma5, .inl ((kI K), 16, .inl M_out))] sz U ∧ True)) (va_Qv (fun u : Int32 × Int32 => f_md_forget = u ∧ True) (fun (u : Int32 × Int32) (t : State) => va_P (kD K) vwCl [(Mh, .inr (6, [.int u.1, .ref Ma0, .int M_side, .int M_rights, .int M_passant, .int M_clock, .int M_number, .ref Ma1, .int M_size, .int u.2, .ref Ma2, .ref Ma3, .int M_at, .ref Ma4, .int M_newSide, .int M_newRights, .int M_newPassant, .int M_newClock, .int M_newNumber, .ref Ma5, .int M_outs])), (Ma0, .inl ((kI K), 64, .inl M_board)), (Ma1, .inl ((kI K), 100, .inl M_text)), (Ma2, .inl ((kI K), 330, .inl M_moves)), (Ma3, .inl ((kI K), 330, .inl M_signs)), (Ma4, .inl ((kI K), 64, .inl M_newBoard)), (Ma5, .inl ((kI K), 16, .inl M_out))] t.heap ∧ va_D (va_A [(Mh, .inr (6, [.int M_thrown, .ref Ma0, .int M_side, .int M_rights, .int M_passant, .int M_clock, .int M_number, .ref Ma1, .int M_size, .int M_told, .ref Ma2, .ref Ma3, .int M_at, .ref Ma4, .int M_newSide, .int M_newRights, .int M_newPassant, .int M_newClock, .int M_newNumber, .ref Ma5, .int M_outs])), (Ma0, .inl ((kI K), 64, .inl M_board)), (Ma1, .inl ((kI K), 100, .inl M_text)), (Ma2, .inl ((kI K), 330, .inl M_moves)), (Ma3, .inl ((kI K), 330, .inl M_signs)), (Ma4, .inl ((kI K), 64, .inl M_newBoard)), (Ma5, .inl ((kI K), 16, .inl M_out))] sz) [(Mh, .inr (6, [.int u.1, .ref Ma0, .int M_side, .int M_rights, .int M_passant, .int M_clock, .int M_number, .ref Ma1, .int M_size, .int u.2, .ref Ma2, .ref Ma3, .int M_at, .ref Ma4, .int M_newSide, .int M_newRights, .int M_newPassant, .int M_newClock, .int M_newNumber, .ref Ma5, .int M_outs])), (Ma0, .inl ((kI K), 64, .inl M_board)), (Ma1, .inl ((kI K), 100, .inl M_text)), (Ma2, .inl ((kI K), 330, .inl M_moves)), (Ma3, .inl ((kI K), 330, .inl M_signs)), (Ma4, .inl ((kI K), 64, .inl M_newBoard)), (Ma5, .inl ((kI K), 16, .inl M_out))]) (va_A [(Mh, .inr (6, [.int M_thrown, .ref Ma0, .int M_side, .int M_rights, .int M_passant, .int M_clock, .int M_number, .ref Ma1, .int M_size, .int M_told, .ref Ma2, .ref Ma3, .int M_at, .ref Ma4, .int M_newSide, .int M_newRights, .int M_newPassant, .int M_newClock, .int M_newNumber, .ref Ma5, .int M_outs])), (Ma0, .inl ((kI K), 64, .inl M_board)), (Ma1, .inl ((kI K), 100, .inl M_text)), (Ma2, .inl ((kI K), 330, .inl M_moves)), (Ma3, .inl ((kI K), 330, .inl M_signs)), (Ma4, .inl ((kI K), 64, .inl M_newBoard)), (Ma5, .inl ((kI K), 16, .inl M_out))] sz)) 0 0 (va_A [(Mh, .inr (6, [.int M_thrown, .ref Ma0, .int M_side, .int M_rights, .int M_passant, .int M_clock, .int M_number, .ref Ma1, .int M_size, .int M_told, .ref Ma2, .ref Ma3, .int M_at, .ref Ma4, .int M_newSide, .int M_newRights, .int M_newPassant, .int M_newClock, .int M_newNumber, .ref Ma5, .int M_outs])), (Ma0, .inl ((kI K), 64, .inl M_board)), (Ma1, .inl ((kI K), 100, .inl M_text)), (Ma2, .inl ((kI K), 330, .inl M_moves)), (Ma3, .inl ((kI K), 330, .inl M_signs)), (Ma4, .inl ((kI K), 64, .inl M_newBoard)), (Ma5, .inl ((kI K), 16, .inl M_out))] sz) := by
  refine Met.ofW (cc := b_md_forget) (maxL := 1) (ret := none) (by decide) rfl ?_
  intro p e s m args below meth c s₁ B hml hv
  obtain ⟨rfl, ⟨hsz, hP, hK, hD0, hG⟩, -⟩ := hv
  have hx := B.exec
  have hb := B.bytes
  have hr := B.returns
  have hts := atoms_spec (ws := w_md_forget) B.pre
  have hown : s.vm.findClass R_md = some m.cls := findClass_of_methodNamed B.named
  have hlocks := B.notSynchronized
  have htg := fun w h => hts w (List.mem_cons_of_mem _ h)
  subst hsz
  have hD := hD0.self (sz := s.heap.size)
  generalize hAe : va_A [(Mh, .inr (6, [.int M_thrown, .ref Ma0, .int M_side, .int M_rights, .int M_passant, .int M_clock, .int M_number, .ref Ma1, .int M_size, .int M_told, .ref Ma2, .ref Ma3, .int M_at, .ref Ma4, .int M_newSide, .int M_newRights, .int M_newPassant, .int M_newClock, .int M_newNumber, .ref Ma5, .int M_outs])), (Ma0, .inl ((kI K), 64, .inl M_board)), (Ma1, .inl ((kI K), 100, .inl M_text)), (Ma2, .inl ((kI K), 330, .inl M_moves)), (Ma3, .inl ((kI K), 330, .inl M_signs)), (Ma4, .inl ((kI K), 64, .inl M_newBoard)), (Ma5, .inl ((kI K), 16, .inl M_out))] s.heap.size = A at hD hG ⊢
  have hA : ∀ q : Nat, s.heap.size ≤ q → A q := fun q h => by rw [← hAe]; exact Or.inr h
  have hS : va_S A s.heap s.heap [] := va_S.rf
  have hl := lv_entry ([.ref Mh]) (n := 1) (Nat.le_of_ble_eq_true rfl)
  rw [lg_entry_eq]
  generalize (lg_sl ([.ref Mh]) ++ List.replicate (1 - (lg_sl ([.ref Mh])).length) Slot.unset).toArray = ls at hl ⊢
  have hl : lv_has ls 1 [(0, .ref Mh)] := hl
  have z0 : (0 : Int32).toInt = 0 := by decide
  have z1 : (1 : Int32).toInt = 1 := by decide
  have zm1 : (-1 : Int32).toInt = -1 := by decide
  have z2 : (2 : Int32).toInt = 2 := by decide
  have z3 : (3 : Int32).toInt = 3 := by decide
  have z7 : (7 : Int32).toInt = 7 := by decide
  have z8 : (8 : Int32).toInt = 8 := by decide
  have z16 : (16 : Int32).toInt = 16 := by decide
  have z64 : (64 : Int32).toInt = 64 := by decide
  have z100 : (100 : Int32).toInt = 100 := by decide
  have z330 : (330 : Int32).toInt = 330 := by decide
  have hF := f_md_forget.eq_1 
  refine lv_aload_n hx hb d_md_forget_0 rfl (lv_at hl 0 rfl) ?_
  refine lv_iconst (v := 0) hx hb d_md_forget_1 (by decide) ?_
  refine va_put (D := kD K) (ci := 6) (v := .int (0 : Int32)) (ty := .int) (C := R_md) (T := T_md) (N := 21) hx hb htg in_md ty_md ty_md_ok nm_md hown hK hP hD hS 0 rfl rfl 0 (by decide) (htg (.fieldLink R_md 35 "GameNotationModel" "thrown" "I") q_794) (fun _ h9 => h9) rfl (by decide +kernel) rfl rfl (Nat.le_of_ble_eq_true rfl) d_md_forget_2 (fun H locs hP hD hS => ?_)
  have hP : va_P (kD K) vwCl [(Mh, .inr (6, [.int (0 : Int32), .ref Ma0, .int M_side, .int M_rights, .int M_passant, .int M_clock, .int M_number, .ref Ma1, .int M_size, .int M_told, .ref Ma2, .ref Ma3, .int M_at, .ref Ma4, .int M_newSide, .int M_newRights, .int M_newPassant, .int M_newClock, .int M_newNumber, .ref Ma5, .int M_outs])), (Ma0, .inl ((kI K), 64, .inl M_board)), (Ma1, .inl ((kI K), 100, .inl M_text)), (Ma2, .inl ((kI K), 330, .inl M_moves)), (Ma3, .inl ((kI K), 330, .inl M_signs)), (Ma4, .inl ((kI K), 64, .inl M_newBoard)), (Ma5, .inl ((kI K), 16, .inl M_out))] _ := hP
  have hD : va_D A [(Mh, .inr (6, [.int (0 : Int32), .ref Ma0, .int M_side, .int M_rights, .int M_passant, .int M_clock, .int M_number, .ref Ma1, .int M_size, .int M_told, .ref Ma2, .ref Ma3, .int M_at, .ref Ma4, .int M_newSide, .int M_newRights, .int M_newPassant, .int M_newClock, .int M_newNumber, .ref Ma5, .int M_outs])), (Ma0, .inl ((kI K), 64, .inl M_board)), (Ma1, .inl ((kI K), 100, .inl M_text)), (Ma2, .inl ((kI K), 330, .inl M_moves)), (Ma3, .inl ((kI K), 330, .inl M_signs)), (Ma4, .inl ((kI K), 64, .inl M_newBoard)), (Ma5, .inl ((kI K), 16, .inl M_out))] := hD
  refine lv_aload_n hx hb d_md_forget_5 rfl (lv_at hl 0 rfl) ?_
  refine lv_iconst (v := 0) hx hb d_md_forget_6 (by decide) ?_
  refine va_put (D := kD K) (ci := 6) (v := .int (0 : Int32)) (ty := .int) (C := R_md) (T := T_md) (N := 21) hx hb htg in_md ty_md ty_md_ok nm_md hown hK hP hD hS 0 rfl rfl 9 (by decide) (htg (.fieldLink R_md 133 "GameNotationModel" "told" "I") q_803) (fun _ h9 => h9) rfl (by decide +kernel) rfl rfl (Nat.le_of_ble_eq_true rfl) d_md_forget_7 (fun H locs hP hD hS => ?_)
  have hP : va_P (kD K) vwCl [(Mh, .inr (6, [.int (0 : Int32), .ref Ma0, .int M_side, .int M_rights, .int M_passant, .int M_clock, .int M_number, .ref Ma1, .int M_size, .int (0 : Int32), .ref Ma2, .ref Ma3, .int M_at, .ref Ma4, .int M_newSide, .int M_newRights, .int M_newPassant, .int M_newClock, .int M_newNumber, .ref Ma5, .int M_outs])), (Ma0, .inl ((kI K), 64, .inl M_board)), (Ma1, .inl ((kI K), 100, .inl M_text)), (Ma2, .inl ((kI K), 330, .inl M_moves)), (Ma3, .inl ((kI K), 330, .inl M_signs)), (Ma4, .inl ((kI K), 64, .inl M_newBoard)), (Ma5, .inl ((kI K), 16, .inl M_out))] _ := hP
  have hD : va_D A [(Mh, .inr (6, [.int (0 : Int32), .ref Ma0, .int M_side, .int M_rights, .int M_passant, .int M_clock, .int M_number, .ref Ma1, .int M_size, .int (0 : Int32), .ref Ma2, .ref Ma3, .int M_at, .ref Ma4, .int M_newSide, .int M_newRights, .int M_newPassant, .int M_newClock, .int M_newNumber, .ref Ma5, .int M_outs])), (Ma0, .inl ((kI K), 64, .inl M_board)), (Ma1, .inl ((kI K), 100, .inl M_text)), (Ma2, .inl ((kI K), 330, .inl M_moves)), (Ma3, .inl ((kI K), 330, .inl M_signs)), (Ma4, .inl ((kI K), 64, .inl M_newBoard)), (Ma5, .inl ((kI K), 16, .inl M_out))] := hD
  exact W.vret hx hb hr (fun t ht hW => ⟨⟨((0 : Int32), (0 : Int32)), rfl, ⟨hF, trivial⟩, ⟨by rw [ht]; exact hP, hD⟩⟩, hS.F ht⟩) hS.2.2 d_md_forget_10
def f_md_look (M_side : Int32) (M_rights : Int32) (M_passant : Int32) (M_clock : Int32) (M_number : Int32) (M_size : Int32) (M_told : Int32) (wh : Int32) : Int32 × Int32 := (if wh = (0 : Int32) then (M_size, (0 : Int32)) else (if wh = (1 : Int32) then (M_side, (0 : Int32)) else (if wh = (2 : Int32) then (M_rights, (0 : Int32)) else (if wh = (3 : Int32) then (M_passant, (0 : Int32)) else (if wh = (4 : Int32) then (M_clock, (0 : Int32)) else (if wh = (5 : Int32) then (M_number, (0 : Int32)) else (if wh = (6 : Int32) then (M_told, (0 : Int32)) else ((-1 : Int32), (0 : Int32)))))))))
set_option maxHeartbeats 4000000 in
set_option maxRecDepth 100000 in
theorem c_md_look (l : Launch) (K : KT) (sz : Nat) (Mh Ma0 Ma1 Ma2 Ma3 Ma4 Ma5 : Nat) (M_board : (Nat → Int32)) (M_text : (Nat → Int32)) (M_moves : (Nat → Int32)) (M_signs : (Nat → Int32)) (M_newBoard : (Nat → Int32)) (M_out : (Nat → Int32)) (M_thrown : Int32) (M_side : Int32) (M_rights : Int32) (M_passant : Int32) (M_clock : Int32) (M_number : Int32) (M_size : Int32) (M_told : Int32) (M_at : Int32) (M_newSide : Int32) (M_newRights : Int32) (M_newPassant : Int32) (M_newClock : Int32) (M_newNumber : Int32) (M_outs : Int32) (wh : Int32) : Met l y_md_look w_md_look ({ frames := 0, cells := 0, slots := 0, locals := 0 } : Room) (va_Pc [.ref Mh, .int wh] (fun U => pMU K [(Mh, .inr (6, [.int M_thrown, .ref Ma0, .int M_side, .int M_rights, .int M_passant, .int M_clock, .int M_number, .ref Ma1, .int M_size, .int M_told, .ref Ma2, .ref Ma3, .int M_at, .ref Ma4, .int M_newSide, .int M_newRights, .int M_newPassant, .int M_newClock, .int M_newNumber, .ref Ma5, .int M_outs])), (Ma0, .inl ((kI K), 64, .inl M_board)), (Ma1, .inl ((kI K), 100, .inl M_text)), (Ma2, .inl ((kI K), 330, .inl M_moves)), (Ma3, .inl ((kI K), 330, .inl M_signs)), (Ma4, .inl ((kI K), 64, .inl M_newBoard)), (Ma5, .inl ((kI K), 16, .inl M_out))] sz U ∧ True)) (va_Qi (fun (r : Int32) (u : Int32) => f_md_look M_side M_rights M_passant M_clock M_number M_size M_told wh = (r, u) ∧ True) (fun (u : Int32) (t : State) => va_P (kD K) vwCl [(Mh, .inr (6, [.int u, .ref Ma0, .int M_side, .int M_rights, .int M_passant, .int M_clock, .int M_number, .ref Ma1, .int M_size, .int M_told, .ref Ma2, .ref Ma3, .int M_at, .ref Ma4, .int M_newSide, .int M_newRights, .int M_newPassant, .int M_newClock, .int M_newNumber, .ref Ma5, .int M_outs])), (Ma0, .inl ((kI K), 64, .inl M_board)), (Ma1, .inl ((kI K), 100, .inl M_text)), (Ma2, .inl ((kI K), 330, .inl M_moves)), (Ma3, .inl ((kI K), 330, .inl M_signs)), (Ma4, .inl ((kI K), 64, .inl M_newBoard)), (Ma5, .inl ((kI K), 16, .inl M_out))] t.heap ∧ va_D (va_A [(Mh, .inr (6, [.int M_thrown, .ref Ma0, .int M_side, .int M_rights, .int M_passant, .int M_clock, .int M_number, .ref Ma1, .int M_size, .int M_told, .ref Ma2, .ref Ma3, .int M_at, .ref Ma4, .int M_newSide, .int M_newRights, .int M_newPassant, .int M_newClock, .int M_newNumber, .ref Ma5, .int M_outs])), (Ma0, .inl ((kI K), 64, .inl M_board)), (Ma1, .inl ((kI K), 100, .inl M_text)), (Ma2, .inl ((kI K), 330, .inl M_moves)), (Ma3, .inl ((kI K), 330, .inl M_signs)), (Ma4, .inl ((kI K), 64, .inl M_newBoard)), (Ma5, .inl ((kI K), 16, .inl M_out))] sz) [(Mh, .inr (6, [.int u, .ref Ma0, .int M_side, .int M_rights, .int M_passant, .int M_clock, .int M_number, .ref Ma1, .int M_size, .int M_told, .ref Ma2, .ref Ma3, .int M_at, .ref Ma4, .int M_newSide, .int M_newRights, .int M_newPassant, .int M_newClock, .int M_newNumber, .ref Ma5, .int M_outs])), (Ma0, .inl ((kI K), 64, .inl M_board)), (Ma1, .inl ((kI K), 100, .inl M_text)), (Ma2, .inl ((kI K), 330, .inl M_moves)), (Ma3, .inl ((kI K), 330, .inl M_signs)), (Ma4, .inl ((kI K), 64, .inl M_newBoard)), (Ma5, .inl ((kI K), 16, .inl M_out))]) (va_A [(Mh, .inr (6, [.int M_thrown, .ref Ma0, .int M_side, .int M_rights, .int M_passant, .int M_clock, .int M_number, .ref Ma1, .int M_size, .int M_told, .ref Ma2, .ref Ma3, .int M_at, .ref Ma4, .int M_newSide, .int M_newRights, .int M_newPassant, .int M_newClock, .int M_newNumber, .ref Ma5, .int M_outs])), (Ma0, .inl ((kI K), 64, .inl M_board)), (Ma1, .inl ((kI K), 100, .inl M_text)), (Ma2, .inl ((kI K), 330, .inl M_moves)), (Ma3, .inl ((kI K), 330, .inl M_signs)), (Ma4, .inl ((kI K), 64, .inl M_newBoard)), (Ma5, .inl ((kI K), 16, .inl M_out))] sz)) 0 0 (va_A [(Mh, .inr (6, [.int M_thrown, .ref Ma0, .int M_side, .int M_rights, .int M_passant, .int M_clock, .int M_number, .ref Ma1, .int M_size, .int M_told, .ref Ma2, .ref Ma3, .int M_at, .ref Ma4, .int M_newSide, .int M_newRights, .int M_newPassant, .int M_newClock, .int M_newNumber, .ref Ma5, .int M_outs])), (Ma0, .inl ((kI K), 64, .inl M_board)), (Ma1, .inl ((kI K), 100, .inl M_text)), (Ma2, .inl ((kI K), 330, .inl M_moves)), (Ma3, .inl ((kI K), 330, .inl M_signs)), (Ma4, .inl ((kI K), 64, .inl M_newBoard)), (Ma5, .inl ((kI K), 16, .inl M_out))] sz) := by
  refine Met.ofW (cc := b_md_look) (maxL := 2) (ret := (some .int)) (by decide) rfl ?_
  intro p e s m args below meth c s₁ B hml hv
  obtain ⟨rfl, ⟨hsz, hP, hK, hD0, hG⟩, -⟩ := hv
  have hx := B.exec
  have hb := B.bytes
  have hr := B.returns
  have hts := atoms_spec (ws := w_md_look) B.pre
  have hown : s.vm.findClass R_md = some m.cls := findClass_of_methodNamed B.named
  have hlocks := B.notSynchronized
  have htg := fun w h => hts w (List.mem_cons_of_mem _ h)
  subst hsz
  have hD := hD0.self (sz := s.heap.size)
  generalize hAe : va_A [(Mh, .inr (6, [.int M_thrown, .ref Ma0, .int M_side, .int M_rights, .int M_passant, .int M_clock, .int M_number, .ref Ma1, .int M_size, .int M_told, .ref Ma2, .ref Ma3, .int M_at, .ref Ma4, .int M_newSide, .int M_newRights, .int M_newPassant, .int M_newClock, .int M_newNumber, .ref Ma5, .int M_outs])), (Ma0, .inl ((kI K), 64, .inl M_board)), (Ma1, .inl ((kI K), 100, .inl M_text)), (Ma2, .inl ((kI K), 330, .inl M_moves)), (Ma3, .inl ((kI K), 330, .inl M_signs)), (Ma4, .inl ((kI K), 64, .inl M_newBoard)), (Ma5, .inl ((kI K), 16, .inl M_out))] s.heap.size = A at hD hG ⊢
  have hA : ∀ q : Nat, s.heap.size ≤ q → A q := fun q h => by rw [← hAe]; exact Or.inr h
  have hS : va_S A s.heap s.heap [] := va_S.rf
  have hl := lv_entry ([.ref Mh, .int wh]) (n := 2) (Nat.le_of_ble_eq_true rfl)
  rw [lg_entry_eq]
  generalize (lg_sl ([.ref Mh, .int wh]) ++ List.replicate (2 - (lg_sl ([.ref Mh, .int wh])).length) Slot.unset).toArray = ls at hl ⊢
  have hl : lv_has ls 2 [(0, .ref Mh), (1, .int wh)] := hl
  have z0 : (0 : Int32).toInt = 0 := by decide
  have z1 : (1 : Int32).toInt = 1 := by decide
  have zm1 : (-1 : Int32).toInt = -1 := by decide
  have z2 : (2 : Int32).toInt = 2 := by decide
  have z3 : (3 : Int32).toInt = 3 := by decide
  have z7 : (7 : Int32).toInt = 7 := by decide
  have z8 : (8 : Int32).toInt = 8 := by decide
  have z16 : (16 : Int32).toInt = 16 := by decide
  have z64 : (64 : Int32).toInt = 64 := by decide
  have z100 : (100 : Int32).toInt = 100 := by decide
  have z330 : (330 : Int32).toInt = 330 := by decide
  have hF := f_md_look.eq_1 M_side M_rights M_passant M_clock M_number M_size M_told wh
  refine lv_aload_n hx hb d_md_look_0 rfl (lv_at hl 0 rfl) ?_
  refine lv_iconst (v := 0) hx hb d_md_look_1 (by decide) ?_
  refine va_put (D := kD K) (ci := 6) (v := .int (0 : Int32)) (ty := .int) (C := R_md) (T := T_md) (N := 21) hx hb htg in_md ty_md ty_md_ok nm_md hown hK hP hD hS 0 rfl rfl 0 (by decide) (htg (.fieldLink R_md 35 "GameNotationModel" "thrown" "I") q_794) (fun _ h9 => h9) rfl (by decide +kernel) rfl rfl (Nat.le_of_ble_eq_true rfl) d_md_look_2 (fun H locs hP hD hS => ?_)
  have hP : va_P (kD K) vwCl [(Mh, .inr (6, [.int (0 : Int32), .ref Ma0, .int M_side, .int M_rights, .int M_passant, .int M_clock, .int M_number, .ref Ma1, .int M_size, .int M_told, .ref Ma2, .ref Ma3, .int M_at, .ref Ma4, .int M_newSide, .int M_newRights, .int M_newPassant, .int M_newClock, .int M_newNumber, .ref Ma5, .int M_outs])), (Ma0, .inl ((kI K), 64, .inl M_board)), (Ma1, .inl ((kI K), 100, .inl M_text)), (Ma2, .inl ((kI K), 330, .inl M_moves)), (Ma3, .inl ((kI K), 330, .inl M_signs)), (Ma4, .inl ((kI K), 64, .inl M_newBoard)), (Ma5, .inl ((kI K), 16, .inl M_out))] _ := hP
  have hD : va_D A [(Mh, .inr (6, [.int (0 : Int32), .ref Ma0, .int M_side, .int M_rights, .int M_passant, .int M_clock, .int M_number, .ref Ma1, .int M_size, .int M_told, .ref Ma2, .ref Ma3, .int M_at, .ref Ma4, .int M_newSide, .int M_newRights, .int M_newPassant, .int M_newClock, .int M_newNumber, .ref Ma5, .int M_outs])), (Ma0, .inl ((kI K), 64, .inl M_board)), (Ma1, .inl ((kI K), 100, .inl M_text)), (Ma2, .inl ((kI K), 330, .inl M_moves)), (Ma3, .inl ((kI K), 330, .inl M_signs)), (Ma4, .inl ((kI K), 64, .inl M_newBoard)), (Ma5, .inl ((kI K), 16, .inl M_out))] := hD
  refine lv_iload_n hx hb d_md_look_5 rfl (lv_at hl 1 rfl) ?_
  by_cases c_1 : wh = (0 : Int32)
  · have hF := hF.trans (if_pos c_1)
    refine lv_tableIn (tgt := 48) hx hb d_md_look_6 (by rw [c_1]; decide) (by rw [c_1]; decide) (by rw [c_1]; rfl) (by decide) ?_
    refine lv_aload_n hx hb d_md_look_48 rfl (lv_at hl 0 rfl) ?_
    refine va_get (D := kD K) (ci := 6) (v := .int M_size) (C := R_md) (T := T_md) (N := 21) hx hb htg in_md hown hK hP 0 rfl rfl 8 (by decide) (htg (.fieldLink R_md 38 "GameNotationModel" "size" "I") q_802) (fun _ h9 => h9) rfl d_md_look_49 ?_
    exact W.iret (v := M_size) hx hb hr (fun t ht hW => ⟨⟨M_size, (0 : Int32), rfl, ⟨hF, trivial⟩, ⟨by rw [ht]; exact hP, hD⟩⟩, hS.F ht⟩) hS.2.2 d_md_look_52
  · have hF := hF.trans (if_neg c_1)
    have o_1 := ne_i (b := 0) c_1 rfl
    by_cases c_2 : wh = (1 : Int32)
    · have hF := hF.trans (if_pos c_2)
      refine lv_tableIn (tgt := 53) hx hb d_md_look_6 (by rw [c_2]; decide) (by rw [c_2]; decide) (by rw [c_2]; rfl) (by decide) ?_
      refine lv_aload_n hx hb d_md_look_53 rfl (lv_at hl 0 rfl) ?_
      refine va_get (D := kD K) (ci := 6) (v := .int M_side) (C := R_md) (T := T_md) (N := 21) hx hb htg in_md hown hK hP 0 rfl rfl 2 (by decide) (htg (.fieldLink R_md 124 "GameNotationModel" "side" "I") q_796) (fun _ h9 => h9) rfl d_md_look_54 ?_
      exact W.iret (v := M_side) hx hb hr (fun t ht hW => ⟨⟨M_side, (0 : Int32), rfl, ⟨hF, trivial⟩, ⟨by rw [ht]; exact hP, hD⟩⟩, hS.F ht⟩) hS.2.2 d_md_look_57
    · have hF := hF.trans (if_neg c_2)
      have o_2 := ne_i (b := 1) c_2 rfl
      by_cases c_3 : wh = (2 : Int32)
      · have hF := hF.trans (if_pos c_3)
        refine lv_tableIn (tgt := 58) hx hb d_md_look_6 (by rw [c_3]; decide) (by rw [c_3]; decide) (by rw [c_3]; rfl) (by decide) ?_
        refine lv_aload_n hx hb d_md_look_58 rfl (lv_at hl 0 rfl) ?_
        refine va_get (D := kD K) (ci := 6) (v := .int M_rights) (C := R_md) (T := T_md) (N := 21) hx hb htg in_md hown hK hP 0 rfl rfl 3 (by decide) (htg (.fieldLink R_md 127 "GameNotationModel" "rights" "I") q_797) (fun _ h9 => h9) rfl d_md_look_59 ?_
        exact W.iret (v := M_rights) hx hb hr (fun t ht hW => ⟨⟨M_rights, (0 : Int32), rfl, ⟨hF, trivial⟩, ⟨by rw [ht]; exact hP, hD⟩⟩, hS.F ht⟩) hS.2.2 d_md_look_62
      · have hF := hF.trans (if_neg c_3)
        have o_3 := ne_i (b := 2) c_3 rfl
        by_cases c_4 : wh = (3 : Int32)
        · have hF := hF.trans (if_pos c_4)
          refine lv_tableIn (tgt := 63) hx hb d_md_look_6 (by rw [c_4]; decide) (by rw [c_4]; decide) (by rw [c_4]; rfl) (by decide) ?_
          refine lv_aload_n hx hb d_md_look_63 rfl (lv_at hl 0 rfl) ?_
          refine va_get (D := kD K) (ci := 6) (v := .int M_passant) (C := R_md) (T := T_md) (N := 21) hx hb htg in_md hown hK hP 0 rfl rfl 4 (by decide) (htg (.fieldLink R_md 13 "GameNotationModel" "passant" "I") q_798) (fun _ h9 => h9) rfl d_md_look_64 ?_
          exact W.iret (v := M_passant) hx hb hr (fun t ht hW => ⟨⟨M_passant, (0 : Int32), rfl, ⟨hF, trivial⟩, ⟨by rw [ht]; exact hP, hD⟩⟩, hS.F ht⟩) hS.2.2 d_md_look_67
        · have hF := hF.trans (if_neg c_4)
          have o_4 := ne_i (b := 3) c_4 rfl
          by_cases c_5 : wh = (4 : Int32)
          · have hF := hF.trans (if_pos c_5)
            refine lv_tableIn (tgt := 68) hx hb d_md_look_6 (by rw [c_5]; decide) (by rw [c_5]; decide) (by rw [c_5]; rfl) (by decide) ?_
            refine lv_aload_n hx hb d_md_look_68 rfl (lv_at hl 0 rfl) ?_
            refine va_get (D := kD K) (ci := 6) (v := .int M_clock) (C := R_md) (T := T_md) (N := 21) hx hb htg in_md hown hK hP 0 rfl rfl 5 (by decide) (htg (.fieldLink R_md 130 "GameNotationModel" "clock" "I") q_799) (fun _ h9 => h9) rfl d_md_look_69 ?_
            exact W.iret (v := M_clock) hx hb hr (fun t ht hW => ⟨⟨M_clock, (0 : Int32), rfl, ⟨hF, trivial⟩, ⟨by rw [ht]; exact hP, hD⟩⟩, hS.F ht⟩) hS.2.2 d_md_look_72
          · have hF := hF.trans (if_neg c_5)
            have o_5 := ne_i (b := 4) c_5 rfl
            by_cases c_6 : wh = (5 : Int32)
            · have hF := hF.trans (if_pos c_6)
              refine lv_tableIn (tgt := 73) hx hb d_md_look_6 (by rw [c_6]; decide) (by rw [c_6]; decide) (by rw [c_6]; rfl) (by decide) ?_
              refine lv_aload_n hx hb d_md_look_73 rfl (lv_at hl 0 rfl) ?_
              refine va_get (D := kD K) (ci := 6) (v := .int M_number) (C := R_md) (T := T_md) (N := 21) hx hb htg in_md hown hK hP 0 rfl rfl 6 (by decide) (htg (.fieldLink R_md 17 "GameNotationModel" "number" "I") q_800) (fun _ h9 => h9) rfl d_md_look_74 ?_
              exact W.iret (v := M_number) hx hb hr (fun t ht hW => ⟨⟨M_number, (0 : Int32), rfl, ⟨hF, trivial⟩, ⟨by rw [ht]; exact hP, hD⟩⟩, hS.F ht⟩) hS.2.2 d_md_look_77
            · have hF := hF.trans (if_neg c_6)
              have o_6 := ne_i (b := 5) c_6 rfl
              by_cases c_7 : wh = (6 : Int32)
              · have hF := hF.trans (if_pos c_7)
                refine lv_tableIn (tgt := 78) hx hb d_md_look_6 (by rw [c_7]; decide) (by rw [c_7]; decide) (by rw [c_7]; rfl) (by decide) ?_
                refine lv_aload_n hx hb d_md_look_78 rfl (lv_at hl 0 rfl) ?_
                refine va_get (D := kD K) (ci := 6) (v := .int M_told) (C := R_md) (T := T_md) (N := 21) hx hb htg in_md hown hK hP 0 rfl rfl 9 (by decide) (htg (.fieldLink R_md 133 "GameNotationModel" "told" "I") q_803) (fun _ h9 => h9) rfl d_md_look_79 ?_
                exact W.iret (v := M_told) hx hb hr (fun t ht hW => ⟨⟨M_told, (0 : Int32), rfl, ⟨hF, trivial⟩, ⟨by rw [ht]; exact hP, hD⟩⟩, hS.F ht⟩) hS.2.2 d_md_look_82
              · have hF := hF.trans (if_neg c_7)
                have o_7 := ne_i (b := 6) c_7 rfl
                refine lv_tableOut (tgt := 83) hx hb d_md_look_6 (by omega) (by decide) ?_
                refine lv_iconst (v := -1) hx hb d_md_look_83 (by decide) ?_
                exact W.iret (v := (-1 : Int32)) hx hb hr (fun t ht hW => ⟨⟨(-1 : Int32), (0 : Int32), rfl, ⟨hF, trivial⟩, ⟨by rw [ht]; exact hP, hD⟩⟩, hS.F ht⟩) hS.2.2 d_md_look_84
