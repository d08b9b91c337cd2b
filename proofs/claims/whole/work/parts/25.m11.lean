def f_md_isLike (M_board : (Nat → Int32)) (M_text : (Nat → Int32)) (M_size : Int32) (mv : Int32) (fo : Int32) : Int32 := (if fo < (3 : Int32) then (bnd (f_md_castles M_board mv) (fun r_2 => (if r_2 = fo then (1 : Int32) else (0 : Int32)))) else (bnd (f_md_castles M_board mv) (fun r_4 => (if r_4 ≤ 0 then (bnd (f_md_bare M_text M_size) (fun r_6 => (bnd (f_md_fromOf mv) (fun r_7 => (if (M_board r_7.toNatClampNeg) ≤ (6 : Int32) then (if fo = (3 : Int32) then (bnd (f_md_letter (M_board r_7.toNatClampNeg)) (fun r_43 => (if r_43 = (M_text (0 : Int32).toNatClampNeg) then (if (M_board r_7.toNatClampNeg) = (1 : Int32) then (0 : Int32) else (bnd (f_md_toOf mv) (fun r_47 => (if r_47 = (((M_text (r_6 - (2 : Int32)).toNatClampNeg) - (97 : Int32)) + ((8 : Int32) * ((M_text (r_6 - (1 : Int32)).toNatClampNeg) - (49 : Int32)))) then (1 : Int32) else (0 : Int32))))) else (0 : Int32)))) else (bnd (f_md_isOfficer (M_text (r_6 - (1 : Int32)).toNatClampNeg) (0 : Int32)) (fun r_12 => (if r_12 = 0 then (if (mv >>> ((12 : Int32) &&& 31)) ≤ 0 then (if (M_board r_7.toNatClampNeg) = (1 : Int32) then (bnd (f_md_toOf mv) (fun r_16 => (if r_16 = (((M_text (r_6 - (2 : Int32)).toNatClampNeg) - (97 : Int32)) + ((8 : Int32) * ((M_text (r_6 - (1 : Int32)).toNatClampNeg) - (49 : Int32)))) then (1 : Int32) else (0 : Int32)))) else (0 : Int32)) else (bnd (f_md_letter (mv >>> ((12 : Int32) &&& 31))) (fun r_20 => (if (M_board r_7.toNatClampNeg) = (1 : Int32) then (if r_20 = (0 : Int32) then (bnd (f_md_toOf mv) (fun r_23 => (if r_23 = (((M_text (r_6 - (2 : Int32)).toNatClampNeg) - (97 : Int32)) + ((8 : Int32) * ((M_text (r_6 - (1 : Int32)).toNatClampNeg) - (49 : Int32)))) then (1 : Int32) else (0 : Int32)))) else (0 : Int32)) else (0 : Int32))))) else (if (mv >>> ((12 : Int32) &&& 31)) ≤ 0 then (if (M_board r_7.toNatClampNeg) = (1 : Int32) then (if (0 : Int32) = (M_text (r_6 - (1 : Int32)).toNatClampNeg) then (bnd (f_md_toOf mv) (fun r_31 => (if r_31 = (((M_text ((r_6 - (1 : Int32)) - (2 : Int32)).toNatClampNeg) - (97 : Int32)) + ((8 : Int32) * ((M_text ((r_6 - (1 : Int32)) - (1 : Int32)).toNatClampNeg) - (49 : Int32)))) then (1 : Int32) else (0 : Int32)))) else (0 : Int32)) else (0 : Int32)) else (bnd (f_md_letter (mv >>> ((12 : Int32) &&& 31))) (fun r_35 => (if (M_board r_7.toNatClampNeg) = (1 : Int32) then (if r_35 = (M_text (r_6 - (1 : Int32)).toNatClampNeg) then (bnd (f_md_toOf mv) (fun r_39 => (if r_39 = (((M_text ((r_6 - (1 : Int32)) - (2 : Int32)).toNatClampNeg) - (97 : Int32)) + ((8 : Int32) * ((M_text ((r_6 - (1 : Int32)) - (1 : Int32)).toNatClampNeg) - (49 : Int32)))) then (1 : Int32) else (0 : Int32)))) else (0 : Int32)) else (0 : Int32))))))))) else (if fo = (3 : Int32) then (bnd (f_md_letter ((M_board r_7.toNatClampNeg) - (6 : Int32))) (fun r_84 => (if r_84 = (M_text (0 : Int32).toNatClampNeg) then (if ((M_board r_7.toNatClampNeg) - (6 : Int32)) = (1 : Int32) then (0 : Int32) else (bnd (f_md_toOf mv) (fun r_88 => (if r_88 = (((M_text (r_6 - (2 : Int32)).toNatClampNeg) - (97 : Int32)) + ((8 : Int32) * ((M_text (r_6 - (1 : Int32)).toNatClampNeg) - (49 : Int32)))) then (1 : Int32) else (0 : Int32))))) else (0 : Int32)))) else (bnd (f_md_isOfficer (M_text (r_6 - (1 : Int32)).toNatClampNeg) (0 : Int32)) (fun r_53 => (if r_53 = 0 then (if (mv >>> ((12 : Int32) &&& 31)) ≤ 0 then (if ((M_board r_7.toNatClampNeg) - (6 : Int32)) = (1 : Int32) then (bnd (f_md_toOf mv) (fun r_57 => (if r_57 = (((M_text (r_6 - (2 : Int32)).toNatClampNeg) - (97 : Int32)) + ((8 : Int32) * ((M_text (r_6 - (1 : Int32)).toNatClampNeg) - (49 : Int32)))) then (1 : Int32) else (0 : Int32)))) else (0 : Int32)) else (bnd (f_md_letter (mv >>> ((12 : Int32) &&& 31))) (fun r_61 => (if ((M_board r_7.toNatClampNeg) - (6 : Int32)) = (1 : Int32) then (if r_61 = (0 : Int32) then (bnd (f_md_toOf mv) (fun r_64 => (if r_64 = (((M_text (r_6 - (2 : Int32)).toNatClampNeg) - (97 : Int32)) + ((8 : Int32) * ((M_text (r_6 - (1 : Int32)).toNatClampNeg) - (49 : Int32)))) then (1 : Int32) else (0 : Int32)))) else (0 : Int32)) else (0 : Int32))))) else (if (mv >>> ((12 : Int32) &&& 31)) ≤ 0 then (if ((M_board r_7.toNatClampNeg) - (6 : Int32)) = (1 : Int32) then (if (0 : Int32) = (M_text (r_6 - (1 : Int32)).toNatClampNeg) then (bnd (f_md_toOf mv) (fun r_72 => (if r_72 = (((M_text ((r_6 - (1 : Int32)) - (2 : Int32)).toNatClampNeg) - (97 : Int32)) + ((8 : Int32) * ((M_text ((r_6 - (1 : Int32)) - (1 : Int32)).toNatClampNeg) - (49 : Int32)))) then (1 : Int32) else (0 : Int32)))) else (0 : Int32)) else (0 : Int32)) else (bnd (f_md_letter (mv >>> ((12 : Int32) &&& 31))) (fun r_76 => (if ((M_board r_7.toNatClampNeg) - (6 : Int32)) = (1 : Int32) then (if r_76 = (M_text (r_6 - (1 : Int32)).toNatClampNeg) then (bnd (f_md_toOf mv) (fun r_80 => (if r_80 = (((M_text ((r_6 - (1 : Int32)) - (2 : Int32)).toNatClampNeg) - (97 : Int32)) + ((8 : Int32) * ((M_text ((r_6 - (1 : Int32)) - (1 : Int32)).toNatClampNeg) - (49 : Int32)))) then (1 : Int32) else (0 : Int32)))) else (0 : Int32)) else (0 : Int32)))))))))))))) else (bnd (f_md_castles M_board mv) (fun r_92 => (if r_92 = fo then (1 : Int32) else (0 : Int32))))))))
set_option maxHeartbeats 4000000 in
set_option maxRecDepth 100000 in
theorem c_md_isLike (l : Launch) (K : KT) (Mh Ma0 Ma1 Ma2 Ma3 Ma4 Ma5 : Nat) (M_board : (Nat → Int32)) (M_text : (Nat → Int32)) (M_moves : (Nat → Int32)) (M_signs : (Nat → Int32)) (M_newBoard : (Nat → Int32)) (M_out : (Nat → Int32)) (M_thrown : Int32) (M_side : Int32) (M_rights : Int32) (M_passant : Int32) (M_clock : Int32) (M_number : Int32) (M_size : Int32) (M_told : Int32) (M_at : Int32) (M_newSide : Int32) (M_newRights : Int32) (M_newPassant : Int32) (M_newClock : Int32) (M_newNumber : Int32) (M_outs : Int32) (mv : Int32) (fo : Int32) : Met l y_md_isLike w_md_isLike ({ frames := 2, cells := 0, slots := 0, locals := 43 } : Room) (va_Pc [.ref Mh, .int mv, .int fo] (fun U => pRO K [(Mh, .inr (6, [.int M_thrown, .ref Ma0, .int M_side, .int M_rights, .int M_passant, .int M_clock, .int M_number, .ref Ma1, .int M_size, .int M_told, .ref Ma2, .ref Ma3, .int M_at, .ref Ma4, .int M_newSide, .int M_newRights, .int M_newPassant, .int M_newClock, .int M_newNumber, .ref Ma5, .int M_outs])), (Ma0, .inl ((kI K), 64, .inl M_board)), (Ma1, .inl ((kI K), 100, .inl M_text)), (Ma2, .inl ((kI K), 330, .inl M_moves)), (Ma3, .inl ((kI K), 330, .inl M_signs)), (Ma4, .inl ((kI K), 64, .inl M_newBoard)), (Ma5, .inl ((kI K), 16, .inl M_out))] U ∧ 0 ≤ M_size.toInt ∧ M_size.toInt ≤ 100 ∧ (¬ fo = 3 ∨ 3 ≤ (f_md_bare M_text M_size).toInt) ∧ (¬ fo = 4 ∨ (2 ≤ (f_md_bare M_text M_size).toInt ∧ (f_md_isOfficer (M_text ((f_md_bare M_text M_size) - (1 : Int32)).toNatClampNeg) (0 : Int32) = 0 ∨ 3 ≤ (f_md_bare M_text M_size).toInt))) ∧ fo.toInt ≤ 4 ∧ True)) (vp_Si (fun r => f_md_isLike M_board M_text M_size mv fo = r ∧ narrow .boolean (.int r) = .int r)) 0 0 (fun _ => False) := by
  refine Met.ofW (cc := b_md_isLike) (maxL := 9) (ret := (some .boolean)) (by decide) rfl ?_
  intro p e s m args below meth c s₁ B hml hv
  obtain ⟨rfl, ⟨hP, hK, hG⟩, h_s0, h_s, h_3, h_4, h_f, -⟩ := hv
  have hx := B.exec
  have hb := B.bytes
  have hr := B.returns
  have hts := atoms_spec (ws := w_md_isLike) B.pre
  have hown : s.vm.findClass R_md = some m.cls := findClass_of_methodNamed B.named
  have hlocks := B.notSynchronized
  have htg := fun w h => hts w (List.mem_cons_of_mem _ h)
  have hS : va_S (fun _ => False) s.heap s.heap [] := va_S.rf
  have hl := lv_entry ([.ref Mh, .int mv, .int fo]) (n := 9) (Nat.le_of_ble_eq_true rfl)
  rw [lg_entry_eq]
  generalize (lg_sl ([.ref Mh, .int mv, .int fo]) ++ List.replicate (9 - (lg_sl ([.ref Mh, .int mv, .int fo])).length) Slot.unset).toArray = ls at hl ⊢
  have hl : lv_has ls 9 [(0, .ref Mh), (1, .int mv), (2, .int fo)] := hl
  have z0 : (0 : Int32).toInt = 0 := by decide
  have z1 : (1 : Int32).toInt = 1 := by decide
  have zm1 : (-1 : Int32).toInt = -1 := by decide
  have z2 : (2 : Int32).toInt = 2 := by decide
  have z3 : (3 : Int32).toInt = 3 := by decide
  have z7 : (7 : Int32).toInt = 7 := by decide
  have z8 : (8 : Int32).toInt = 8 := by decide
  have z16 : (16 : Int32).toInt = 16 := by decide
  have z64 : (64 : Int32).toInt = 64 := by decide
  have z100 : (100 : Int32).toInt = 100 := by decide
  have z330 : (330 : Int32).toInt = 330 := by decide
  have hF := f_md_isLike.eq_1 M_board M_text M_size mv fo
  refine lv_iload_n hx hb d_md_isLike_0 rfl (lv_at hl 2 rfl) ?_
  refine lv_iconst (v := 3) hx hb d_md_isLike_1 (by decide) ?_
  refine lv_icmp_lt (tgt := 13) hx hb d_md_isLike_2 (by decide) (fun c_1 => ?_) (fun c_1 => ?_)
  · have hF := hF.trans (if_pos c_1)
    refine lv_aload_n hx hb d_md_isLike_13 rfl (lv_at hl 0 rfl) ?_
    refine lv_iload_n hx hb d_md_isLike_14 rfl (lv_at hl 1 rfl) ?_
    have hPc : va_P (kD K) vwCl [(Mh, .inr (6, [.int M_thrown, .ref Ma0, .int M_side, .int M_rights, .int M_passant, .int M_clock, .int M_number, .ref Ma1, .int M_size, .int M_told, .ref Ma2, .ref Ma3, .int M_at, .ref Ma4, .int M_newSide, .int M_newRights, .int M_newPassant, .int M_newClock, .int M_newNumber, .ref Ma5, .int M_outs])), (Ma0, .inl ((kI K), 64, .inl M_board)), (Ma1, .inl ((kI K), 100, .inl M_text)), (Ma2, .inl ((kI K), 330, .inl M_moves)), (Ma3, .inl ((kI K), 330, .inl M_signs)), (Ma4, .inl ((kI K), 64, .inl M_newBoard)), (Ma5, .inl ((kI K), 16, .inl M_out))] _ := hP.sub [0, 1, 2, 3, 4, 5, 6] rfl
    refine vp_callSi (va_Run.run (va_runV (As := [.int mv]) (rest := []) ⟨hx, hb, hml, hown, htg⟩ (c_md_castles l K Mh Ma0 Ma1 Ma2 Ma3 Ma4 Ma5 M_board M_text M_moves M_signs M_newBoard M_out M_thrown M_side M_rights M_passant M_clock M_number M_size M_told M_at M_newSide M_newRights M_newPassant M_newClock M_newNumber M_outs mv) (cwV 1 htg (g_V q_1011 q_1013 qs_51 q_7 (g_w q_1014)) rfl rfl rfl ⟨rfl, k_md_castles⟩ ⟨Nat.le_of_ble_eq_true rfl, Nat.le_of_ble_eq_true rfl⟩) ⟨ro_blind, va_recv hK hPc (ci := 6) (q0 := 0) rfl rfl, ro_use hPc hK hG hS trivial⟩ rfl rfl hl.1 rfl (lv_room (Nat.le_of_ble_eq_true rfl)) d_md_isLike_15 ⟨Nat.zero_le _, Nat.zero_le _⟩)) (fun r_2 hw_2 => ?_)
    have hF := hF.trans (bnd_s hw_2.1)
    refine lv_iload_n hx hb d_md_isLike_18 rfl (lv_at hl 2 rfl) ?_
    refine lv_icmp_ne (tgt := 26) hx hb d_md_isLike_19 (by decide) (fun c_3 => ?_) (fun c_3 => ?_)
    · have hF := hF.trans (if_neg c_3)
      refine lv_iconst (v := 0) hx hb d_md_isLike_26 (by decide) ?_
      exact W.zret (v := (0 : Int32)) hx hb hr (rfl) (fun t ht hW => ⟨_, rfl, ⟨hF, rfl⟩, ht⟩) hS.2.2 d_md_isLike_27
    · have hF := hF.trans (if_pos c_3)
      refine lv_iconst (v := 1) hx hb d_md_isLike_22 (by decide) ?_
      refine lv_goto (tgt := 27) hx hb d_md_isLike_23 (by decide) ?_
      exact W.zret (v := (1 : Int32)) hx hb hr (rfl) (fun t ht hW => ⟨_, rfl, ⟨hF, rfl⟩, ht⟩) hS.2.2 d_md_isLike_27
  · have hF := hF.trans (if_neg c_1)
    refine lv_aload_n hx hb d_md_isLike_5 rfl (lv_at hl 0 rfl) ?_
    refine lv_iload_n hx hb d_md_isLike_6 rfl (lv_at hl 1 rfl) ?_
    have hPc : va_P (kD K) vwCl [(Mh, .inr (6, [.int M_thrown, .ref Ma0, .int M_side, .int M_rights, .int M_passant, .int M_clock, .int M_number, .ref Ma1, .int M_size, .int M_told, .ref Ma2, .ref Ma3, .int M_at, .ref Ma4, .int M_newSide, .int M_newRights, .int M_newPassant, .int M_newClock, .int M_newNumber, .ref Ma5, .int M_outs])), (Ma0, .inl ((kI K), 64, .inl M_board)), (Ma1, .inl ((kI K), 100, .inl M_text)), (Ma2, .inl ((kI K), 330, .inl M_moves)), (Ma3, .inl ((kI K), 330, .inl M_signs)), (Ma4, .inl ((kI K), 64, .inl M_newBoard)), (Ma5, .inl ((kI K), 16, .inl M_out))] _ := hP.sub [0, 1, 2, 3, 4, 5, 6] rfl
    refine vp_callSi (va_Run.run (va_runV (As := [.int mv]) (rest := []) ⟨hx, hb, hml, hown, htg⟩ (c_md_castles l K Mh Ma0 Ma1 Ma2 Ma3 Ma4 Ma5 M_board M_text M_moves M_signs M_newBoard M_out M_thrown M_side M_rights M_passant M_clock M_number M_size M_told M_at M_newSide M_newRights M_newPassant M_newClock M_newNumber M_outs mv) (cwV 1 htg (g_V q_1011 q_1013 qs_51 q_7 (g_w q_1014)) rfl rfl rfl ⟨rfl, k_md_castles⟩ ⟨Nat.le_of_ble_eq_true rfl, Nat.le_of_ble_eq_true rfl⟩) ⟨ro_blind, va_recv hK hPc (ci := 6) (q0 := 0) rfl rfl, ro_use hPc hK hG hS trivial⟩ rfl rfl hl.1 rfl (lv_room (Nat.le_of_ble_eq_true rfl)) d_md_isLike_7 ⟨Nat.zero_le _, Nat.zero_le _⟩)) (fun r_4 hw_4 => ?_)
    have hF := hF.trans (bnd_s hw_4.1)
    refine lv_if_le (tgt := 28) hx hb d_md_isLike_10 (by decide) (fun c_5 => ?_) (fun c_5 => ?_)
    · have hF := hF.trans (if_pos c_5)
      refine lv_aload_n hx hb d_md_isLike_28 rfl (lv_at hl 0 rfl) ?_
      have hPc : va_P (kD K) vwCl [(Mh, .inr (6, [.int M_thrown, .ref Ma0, .int M_side, .int M_rights, .int M_passant, .int M_clock, .int M_number, .ref Ma1, .int M_size, .int M_told, .ref Ma2, .ref Ma3, .int M_at, .ref Ma4, .int M_newSide, .int M_newRights, .int M_newPassant, .int M_newClock, .int M_newNumber, .ref Ma5, .int M_outs])), (Ma0, .inl ((kI K), 64, .inl M_board)), (Ma1, .inl ((kI K), 100, .inl M_text)), (Ma2, .inl ((kI K), 330, .inl M_moves)), (Ma3, .inl ((kI K), 330, .inl M_signs)), (Ma4, .inl ((kI K), 64, .inl M_newBoard)), (Ma5, .inl ((kI K), 16, .inl M_out))] _ := hP.sub [0, 1, 2, 3, 4, 5, 6] rfl
      refine vp_callSi (va_Run.run (va_runV (As := []) (rest := []) ⟨hx, hb, hml, hown, htg⟩ (c_md_bare l K Mh Ma0 Ma1 Ma2 Ma3 Ma4 Ma5 M_board M_text M_moves M_signs M_newBoard M_out M_thrown M_side M_rights M_passant M_clock M_number M_size M_told M_at M_newSide M_newRights M_newPassant M_newClock M_newNumber M_outs) (cwV 0 htg (g_V q_1047 q_1049 qs_59 q_7 (g_w q_1050)) rfl rfl rfl ⟨rfl, k_md_bare⟩ ⟨Nat.le_of_ble_eq_true rfl, Nat.le_of_ble_eq_true rfl⟩) ⟨ro_blind, va_recv hK hPc (ci := 6) (q0 := 0) rfl rfl, ro_use hPc hK hG hS ⟨(by first | assumption | omega | decide), (by first | assumption | omega | decide), trivial⟩⟩ rfl rfl hl.1 rfl (lv_room (Nat.le_of_ble_eq_true rfl)) d_md_isLike_29 ⟨Nat.zero_le _, Nat.zero_le _⟩)) (fun r_6 hw_6 => ?_)
      have hF := hF.trans (bnd_s hw_6.1)
      have fp_6_0 : r_6.toInt ≤ M_size.toInt := hw_6.2.1
      have fp_6_1 : 0 ≤ r_6.toInt := hw_6.2.2.1
      refine lv_istore_n (lv' := [(3, .int r_6), (0, .ref Mh), (1, .int mv), (2, .int fo)]) hx hb d_md_isLike_32 rfl hl (by decide) rfl (fun ls hl => ?_)
      refine lv_aload_n hx hb d_md_isLike_33 rfl (lv_at hl 1 rfl) ?_
      refine va_get (D := kD K) (ci := 6) (v := .ref Ma0) (C := R_md) (T := T_md) (N := 21) hx hb htg in_md hown hK hP 0 rfl rfl 1 (by decide) (htg (.fieldLink R_md 7 "GameNotationModel" "board" "[I") q_795) (fun _ h9 => h9) rfl d_md_isLike_34 ?_
      refine lv_iload_n hx hb d_md_isLike_37 rfl (lv_at hl 2 rfl) ?_
      have hPc : va_P (kD K) vwCl [] _ := hP.sub [] rfl
      refine vp_callSi (va_Run.run (va_runS (As := [.int mv]) (rest := [.ref Ma0]) ⟨hx, hb, hml, hown, htg⟩ (c_md_fromOf l K mv) (va_cwS 1 htg (g_S q_985 q_986 q_7 (g_w q_987)) rfl rfl rfl k_md_fromOf ⟨Nat.le_of_ble_eq_true rfl, Nat.le_of_ble_eq_true rfl⟩) ⟨ro_blind, ro_use hPc hK hG hS trivial⟩ rfl rfl hl.1 rfl (lv_room (Nat.le_of_ble_eq_true rfl)) d_md_isLike_38 ⟨Nat.zero_le _, Nat.zero_le _⟩)) (fun r_7 hw_7 => ?_)
      have hF := hF.trans (bnd_s hw_7.1)
      have h_8 : vp_in r_7 64 := fr_in hw_7
      refine va_iald hx hb hK hP 1 0 rfl rfl h_8 d_md_isLike_41 ?_
      refine lv_istore (lv' := [(4, .int (M_board r_7.toNatClampNeg)), (3, .int r_6), (0, .ref Mh), (1, .int mv), (2, .int fo)]) hx hb d_md_isLike_42 hl (by decide) rfl (fun ls hl => ?_)
      refine lv_iload hx hb d_md_isLike_44 (lv_at hl 0 rfl) ?_
      refine lv_bipush (v := 6) hx hb d_md_isLike_46 (by decide) ?_
      refine lv_icmp_le (tgt := 59) hx hb d_md_isLike_48 (by decide) (fun c_9 => ?_) (fun c_9 => ?_)
      · have hF := hF.trans (if_pos c_9)
        refine lv_iload hx hb d_md_isLike_59 (lv_at hl 0 rfl) ?_
        refine lv_istore (lv' := [(5, .int (M_board r_7.toNatClampNeg)), (4, .int (M_board r_7.toNatClampNeg)), (3, .int r_6), (0, .ref Mh), (1, .int mv), (2, .int fo)]) hx hb d_md_isLike_61 hl (by decide) rfl (fun ls hl => ?_)
        refine lv_iload_n hx hb d_md_isLike_63 rfl (lv_at hl 5 rfl) ?_
        refine lv_iconst (v := 3) hx hb d_md_isLike_64 (by decide) ?_
        refine lv_icmp_ne (tgt := 127) hx hb d_md_isLike_65 (by decide) (fun c_10 => ?_) (fun c_10 => ?_)
        · have hF := hF.trans (if_neg c_10)
          refine lv_aload_n hx hb d_md_isLike_127 rfl (lv_at hl 3 rfl) ?_
          refine va_get (D := kD K) (ci := 6) (v := .ref Ma1) (C := R_md) (T := T_md) (N := 21) hx hb htg in_md hown hK hP 0 rfl rfl 7 (by decide) (htg (.fieldLink R_md 20 "GameNotationModel" "text" "[I") q_801) (fun _ h9 => h9) rfl d_md_isLike_128 ?_
          refine lv_iload_n hx hb d_md_isLike_131 rfl (lv_at hl 2 rfl) ?_
          refine lv_iconst (v := 1) hx hb d_md_isLike_132 (by decide) ?_
          refine lv_isub hx hb d_md_isLike_133 ?_
          have h_11 : vp_in (r_6 - (1 : Int32)) 100 := ix1 (Int.le_trans (by decide) (lk4 hw_6 h_4 (f4 c_1 c_10 h_f)).1) fp_6_0 h_s
          refine va_iald hx hb hK hP 2 0 rfl rfl h_11 d_md_isLike_134 ?_
          refine lv_iconst (v := 0) hx hb d_md_isLike_135 (by decide) ?_
          have hPc : va_P (kD K) vwCl [] _ := hP.sub [] rfl
          refine vp_callSi (va_Run.run (va_runS (As := [.int (M_text (r_6 - (1 : Int32)).toNatClampNeg), .int (0 : Int32)]) (rest := []) ⟨hx, hb, hml, hown, htg⟩ (c_md_isOfficer l K (M_text (r_6 - (1 : Int32)).toNatClampNeg) (0 : Int32)) (va_cwS 2 htg (g_S q_1051 q_1052 q_7 (g_w q_1053)) rfl rfl rfl k_md_isOfficer ⟨Nat.le_of_ble_eq_true rfl, Nat.le_of_ble_eq_true rfl⟩) ⟨ro_blind, ro_use hPc hK hG hS trivial⟩ rfl rfl hl.1 rfl (lv_room (Nat.le_of_ble_eq_true rfl)) d_md_isLike_136 ⟨Nat.zero_le _, Nat.zero_le _⟩)) (fun r_12 hw_12 => ?_)
          have hF := hF.trans (bnd_s hw_12.1)
          have hn_12 := hw_12.2
          refine lv_istore (lv' := [(6, .int r_12), (5, .int (M_board r_7.toNatClampNeg)), (4, .int (M_board r_7.toNatClampNeg)), (3, .int r_6), (0, .ref Mh), (1, .int mv), (2, .int fo)]) hx hb d_md_isLike_139 hl (by decide) rfl (fun ls hl => ?_)
          refine lv_iload hx hb d_md_isLike_141 (lv_at hl 0 rfl) ?_
          refine lv_if_eq (tgt := 152) hx hb d_md_isLike_143 (by decide) (fun c_13 => ?_) (fun c_13 => ?_)
          · have hF := hF.trans (if_pos c_13)
            refine lv_iload_n hx hb d_md_isLike_152 rfl (lv_at hl 3 rfl) ?_
            refine lv_istore (lv' := [(7, .int r_6), (6, .int r_12), (5, .int (M_board r_7.toNatClampNeg)), (4, .int (M_board r_7.toNatClampNeg)), (3, .int r_6), (0, .ref Mh), (1, .int mv), (2, .int fo)]) hx hb d_md_isLike_153 hl (by decide) rfl (fun ls hl => ?_)
            refine lv_iload_n hx hb d_md_isLike_155 rfl (lv_at hl 6 rfl) ?_
            refine lv_bipush (v := 12) hx hb d_md_isLike_156 (by decide) ?_
            refine lv_ishr hx hb d_md_isLike_158 ?_
            refine lv_if_le (tgt := 172) hx hb d_md_isLike_159 (by decide) (fun c_14 => ?_) (fun c_14 => ?_)
            · have hF := hF.trans (if_pos c_14)
              refine lv_iconst (v := 0) hx hb d_md_isLike_172 (by decide) ?_
              refine lv_istore (lv' := [(8, .int (0 : Int32)), (7, .int r_6), (6, .int r_12), (5, .int (M_board r_7.toNatClampNeg)), (4, .int (M_board r_7.toNatClampNeg)), (3, .int r_6), (0, .ref Mh), (1, .int mv), (2, .int fo)]) hx hb d_md_isLike_173 hl (by decide) rfl (fun ls hl => ?_)
              refine lv_iload hx hb d_md_isLike_175 (lv_at hl 3 rfl) ?_
              refine lv_iconst (v := 1) hx hb d_md_isLike_177 (by decide) ?_
              refine lv_icmp_ne (tgt := 242) hx hb d_md_isLike_178 (by decide) (fun c_15 => ?_) (fun c_15 => ?_)
              · have hF := hF.trans (if_neg c_15)
                refine lv_iconst (v := 0) hx hb d_md_isLike_242 (by decide) ?_
                exact W.zret (v := (0 : Int32)) hx hb hr (rfl) (fun t ht hW => ⟨_, rfl, ⟨hF, rfl⟩, ht⟩) hS.2.2 d_md_isLike_243
              · have hF := hF.trans (if_pos c_15)
                refine lv_iload hx hb d_md_isLike_181 (lv_at hl 0 rfl) ?_
                refine lv_iload hx hb d_md_isLike_183 (lv_at hl 2 rfl) ?_
                refine lv_if_eq (tgt := 199) hx hb d_md_isLike_185 (by decide) (fun _ => ?_) (fun c => absurd c_13 c)
                refine lv_iconst (v := 0) hx hb d_md_isLike_199 (by decide) ?_
                refine lv_icmp_ne (tgt := 242) hx hb d_md_isLike_200 (by decide) (fun c => False.elim (by revert c; decide)) (fun _ => ?_)
                refine lv_iload_n hx hb d_md_isLike_203 rfl (lv_at hl 7 rfl) ?_
                have hPc : va_P (kD K) vwCl [] _ := hP.sub [] rfl
                refine vp_callSi (va_Run.run (va_runS (As := [.int mv]) (rest := []) ⟨hx, hb, hml, hown, htg⟩ (c_md_toOf l K mv) (va_cwS 1 htg (g_S q_988 q_989 q_7 (g_w q_990)) rfl rfl rfl k_md_toOf ⟨Nat.le_of_ble_eq_true rfl, Nat.le_of_ble_eq_true rfl⟩) ⟨ro_blind, ro_use hPc hK hG hS trivial⟩ rfl rfl hl.1 rfl (lv_room (Nat.le_of_ble_eq_true rfl)) d_md_isLike_204 ⟨Nat.zero_le _, Nat.zero_le _⟩)) (fun r_16 hw_16 => ?_)
                have hF := hF.trans (bnd_s hw_16.1)
                refine lv_aload_n hx hb d_md_isLike_207 rfl (lv_at hl 6 rfl) ?_
                refine va_get (D := kD K) (ci := 6) (v := .ref Ma1) (C := R_md) (T := T_md) (N := 21) hx hb htg in_md hown hK hP 0 rfl rfl 7 (by decide) (htg (.fieldLink R_md 20 "GameNotationModel" "text" "[I") q_801) (fun _ h9 => h9) rfl d_md_isLike_208 ?_
                refine lv_iload hx hb d_md_isLike_211 (lv_at hl 1 rfl) ?_
                refine lv_iconst (v := 2) hx hb d_md_isLike_213 (by decide) ?_
                refine lv_isub hx hb d_md_isLike_214 ?_
                have h_17 : vp_in (r_6 - (2 : Int32)) 100 := by first | exact ix2 (lk4 hw_6 h_4 (f4 c_1 c_10 h_f)).1 fp_6_0 h_s | exact ix3 (lk5 (lk4 hw_6 h_4 (f4 c_1 c_10 h_f)).2 hw_12 c_13) fp_6_0 h_s
                refine va_iald hx hb hK hP 2 0 rfl rfl h_17 d_md_isLike_215 ?_
                refine lv_bipush (v := 97) hx hb d_md_isLike_216 (by decide) ?_
                refine lv_isub hx hb d_md_isLike_218 ?_
                refine lv_bipush (v := 8) hx hb d_md_isLike_219 (by decide) ?_
                refine lv_aload_n hx hb d_md_isLike_221 rfl (lv_at hl 6 rfl) ?_
                refine va_get (D := kD K) (ci := 6) (v := .ref Ma1) (C := R_md) (T := T_md) (N := 21) hx hb htg in_md hown hK hP 0 rfl rfl 7 (by decide) (htg (.fieldLink R_md 20 "GameNotationModel" "text" "[I") q_801) (fun _ h9 => h9) rfl d_md_isLike_222 ?_
                refine lv_iload hx hb d_md_isLike_225 (lv_at hl 1 rfl) ?_
                refine lv_iconst (v := 1) hx hb d_md_isLike_227 (by decide) ?_
                refine lv_isub hx hb d_md_isLike_228 ?_
                have h_18 : vp_in (r_6 - (1 : Int32)) 100 := by first | exact ix1 (Int.le_trans (by decide) (lk4 hw_6 h_4 (f4 c_1 c_10 h_f)).1) fp_6_0 h_s | exact ix4 (lk5 (lk4 hw_6 h_4 (f4 c_1 c_10 h_f)).2 hw_12 c_13) fp_6_0 h_s
                refine va_iald hx hb hK hP 2 0 rfl rfl h_18 d_md_isLike_229 ?_
                refine lv_bipush (v := 49) hx hb d_md_isLike_230 (by decide) ?_
                refine lv_isub hx hb d_md_isLike_232 ?_
                refine lv_imul hx hb d_md_isLike_233 ?_
                refine lv_iadd hx hb d_md_isLike_234 ?_
                refine lv_icmp_ne (tgt := 242) hx hb d_md_isLike_235 (by decide) (fun c_19 => ?_) (fun c_19 => ?_)
                · have hF := hF.trans (if_neg c_19)
                  refine lv_iconst (v := 0) hx hb d_md_isLike_242 (by decide) ?_
                  exact W.zret (v := (0 : Int32)) hx hb hr (rfl) (fun t ht hW => ⟨_, rfl, ⟨hF, rfl⟩, ht⟩) hS.2.2 d_md_isLike_243
                · have hF := hF.trans (if_pos c_19)
                  refine lv_iconst (v := 1) hx hb d_md_isLike_238 (by decide) ?_
                  refine lv_goto (tgt := 243) hx hb d_md_isLike_239 (by decide) ?_
                  exact W.zret (v := (1 : Int32)) hx hb hr (rfl) (fun t ht hW => ⟨_, rfl, ⟨hF, rfl⟩, ht⟩) hS.2.2 d_md_isLike_243
            · have hF := hF.trans (if_neg c_14)
              refine lv_iload_n hx hb d_md_isLike_162 rfl (lv_at hl 6 rfl) ?_
              refine lv_bipush (v := 12) hx hb d_md_isLike_163 (by decide) ?_
              refine lv_ishr hx hb d_md_isLike_165 ?_
              have hPc : va_P (kD K) vwCl [] _ := hP.sub [] rfl
              refine vp_callSi (va_Run.run (va_runS (As := [.int (mv >>> ((12 : Int32) &&& 31))]) (rest := []) ⟨hx, hb, hml, hown, htg⟩ (c_md_letter l K (mv >>> ((12 : Int32) &&& 31))) (va_cwS 1 htg (g_S q_894 q_895 q_7 (g_w q_896)) rfl rfl rfl k_md_letter ⟨Nat.le_of_ble_eq_true rfl, Nat.le_of_ble_eq_true rfl⟩) ⟨ro_blind, ro_use hPc hK hG hS trivial⟩ rfl rfl hl.1 rfl (lv_room (Nat.le_of_ble_eq_true rfl)) d_md_isLike_166 ⟨Nat.zero_le _, Nat.zero_le _⟩)) (fun r_20 hw_20 => ?_)
              have hF := hF.trans (bnd_s hw_20.1)
              refine lv_goto (tgt := 173) hx hb d_md_isLike_169 (by decide) ?_
              refine lv_istore (lv' := [(8, .int r_20), (7, .int r_6), (6, .int r_12), (5, .int (M_board r_7.toNatClampNeg)), (4, .int (M_board r_7.toNatClampNeg)), (3, .int r_6), (0, .ref Mh), (1, .int mv), (2, .int fo)]) hx hb d_md_isLike_173 hl (by decide) rfl (fun ls hl => ?_)
              refine lv_iload hx hb d_md_isLike_175 (lv_at hl 3 rfl) ?_
              refine lv_iconst (v := 1) hx hb d_md_isLike_177 (by decide) ?_
              refine lv_icmp_ne (tgt := 242) hx hb d_md_isLike_178 (by decide) (fun c_21 => ?_) (fun c_21 => ?_)
              · have hF := hF.trans (if_neg c_21)
                refine lv_iconst (v := 0) hx hb d_md_isLike_242 (by decide) ?_
                exact W.zret (v := (0 : Int32)) hx hb hr (rfl) (fun t ht hW => ⟨_, rfl, ⟨hF, rfl⟩, ht⟩) hS.2.2 d_md_isLike_243
              · have hF := hF.trans (if_pos c_21)
                refine lv_iload hx hb d_md_isLike_181 (lv_at hl 0 rfl) ?_
                refine lv_iload hx hb d_md_isLike_183 (lv_at hl 2 rfl) ?_
                refine lv_if_eq (tgt := 199) hx hb d_md_isLike_185 (by decide) (fun _ => ?_) (fun c => absurd c_13 c)
                refine lv_iconst (v := 0) hx hb d_md_isLike_199 (by decide) ?_
                refine lv_icmp_ne (tgt := 242) hx hb d_md_isLike_200 (by decide) (fun c_22 => ?_) (fun c_22 => ?_)
                · have hF := hF.trans (if_neg c_22)
                  refine lv_iconst (v := 0) hx hb d_md_isLike_242 (by decide) ?_
                  exact W.zret (v := (0 : Int32)) hx hb hr (rfl) (fun t ht hW => ⟨_, rfl, ⟨hF, rfl⟩, ht⟩) hS.2.2 d_md_isLike_243
                · have hF := hF.trans (if_pos c_22)
                  refine lv_iload_n hx hb d_md_isLike_203 rfl (lv_at hl 7 rfl) ?_
                  have hPc : va_P (kD K) vwCl [] _ := hP.sub [] rfl
                  refine vp_callSi (va_Run.run (va_runS (As := [.int mv]) (rest := []) ⟨hx, hb, hml, hown, htg⟩ (c_md_toOf l K mv) (va_cwS 1 htg (g_S q_988 q_989 q_7 (g_w q_990)) rfl rfl rfl k_md_toOf ⟨Nat.le_of_ble_eq_true rfl, Nat.le_of_ble_eq_true rfl⟩) ⟨ro_blind, ro_use hPc hK hG hS trivial⟩ rfl rfl hl.1 rfl (lv_room (Nat.le_of_ble_eq_true rfl)) d_md_isLike_204 ⟨Nat.zero_le _, Nat.zero_le _⟩)) (fun r_23 hw_23 => ?_)
                  have hF := hF.trans (bnd_s hw_23.1)
                  refine lv_aload_n hx hb d_md_isLike_207 rfl (lv_at hl 6 rfl) ?_
                  refine va_get (D := kD K) (ci := 6) (v := .ref Ma1) (C := R_md) (T := T_md) (N := 21) hx hb htg in_md hown hK hP 0 rfl rfl 7 (by decide) (htg (.fieldLink R_md 20 "GameNotationModel" "text" "[I") q_801) (fun _ h9 => h9) rfl d_md_isLike_208 ?_
                  refine lv_iload hx hb d_md_isLike_211 (lv_at hl 1 rfl) ?_
                  refine lv_iconst (v := 2) hx hb d_md_isLike_213 (by decide) ?_
                  refine lv_isub hx hb d_md_isLike_214 ?_
                  have h_24 : vp_in (r_6 - (2 : Int32)) 100 := by first | exact ix2 (lk4 hw_6 h_4 (f4 c_1 c_10 h_f)).1 fp_6_0 h_s | exact ix3 (lk5 (lk4 hw_6 h_4 (f4 c_1 c_10 h_f)).2 hw_12 c_13) fp_6_0 h_s
                  refine va_iald hx hb hK hP 2 0 rfl rfl h_24 d_md_isLike_215 ?_
                  refine lv_bipush (v := 97) hx hb d_md_isLike_216 (by decide) ?_
                  refine lv_isub hx hb d_md_isLike_218 ?_
                  refine lv_bipush (v := 8) hx hb d_md_isLike_219 (by decide) ?_
                  refine lv_aload_n hx hb d_md_isLike_221 rfl (lv_at hl 6 rfl) ?_
                  refine va_get (D := kD K) (ci := 6) (v := .ref Ma1) (C := R_md) (T := T_md) (N := 21) hx hb htg in_md hown hK hP 0 rfl rfl 7 (by decide) (htg (.fieldLink R_md 20 "GameNotationModel" "text" "[I") q_801) (fun _ h9 => h9) rfl d_md_isLike_222 ?_
                  refine lv_iload hx hb d_md_isLike_225 (lv_at hl 1 rfl) ?_
                  refine lv_iconst (v := 1) hx hb d_md_isLike_227 (by decide) ?_
                  refine lv_isub hx hb d_md_isLike_228 ?_
                  have h_25 : vp_in (r_6 - (1 : Int32)) 100 := by first | exact ix1 (Int.le_trans (by decide) (lk4 hw_6 h_4 (f4 c_1 c_10 h_f)).1) fp_6_0 h_s | exact ix4 (lk5 (lk4 hw_6 h_4 (f4 c_1 c_10 h_f)).2 hw_12 c_13) fp_6_0 h_s
                  refine va_iald hx hb hK hP 2 0 rfl rfl h_25 d_md_isLike_229 ?_
                  refine lv_bipush (v := 49) hx hb d_md_isLike_230 (by decide) ?_
                  refine lv_isub hx hb d_md_isLike_232 ?_
                  refine lv_imul hx hb d_md_isLike_233 ?_
                  refine lv_iadd hx hb d_md_isLike_234 ?_
                  refine lv_icmp_ne (tgt := 242) hx hb d_md_isLike_235 (by decide) (fun c_26 => ?_) (fun c_26 => ?_)
                  · have hF := hF.trans (if_neg c_26)
                    refine lv_iconst (v := 0) hx hb d_md_isLike_242 (by decide) ?_
                    exact W.zret (v := (0 : Int32)) hx hb hr (rfl) (fun t ht hW => ⟨_, rfl, ⟨hF, rfl⟩, ht⟩) hS.2.2 d_md_isLike_243
                  · have hF := hF.trans (if_pos c_26)
                    refine lv_iconst (v := 1) hx hb d_md_isLike_238 (by decide) ?_
                    refine lv_goto (tgt := 243) hx hb d_md_isLike_239 (by decide) ?_
                    exact W.zret (v := (1 : Int32)) hx hb hr (rfl) (fun t ht hW => ⟨_, rfl, ⟨hF, rfl⟩, ht⟩) hS.2.2 d_md_isLike_243
          · have hF := hF.trans (if_neg c_13)
            refine lv_iload_n hx hb d_md_isLike_146 rfl (lv_at hl 3 rfl) ?_
            refine lv_iconst (v := 1) hx hb d_md_isLike_147 (by decide) ?_
            refine lv_isub hx hb d_md_isLike_148 ?_
            refine lv_goto (tgt := 153) hx hb d_md_isLike_149 (by decide) ?_
            refine lv_istore (lv' := [(7, .int (r_6 - (1 : Int32))), (6, .int r_12), (5, .int (M_board r_7.toNatClampNeg)), (4, .int (M_board r_7.toNatClampNeg)), (3, .int r_6), (0, .ref Mh), (1, .int mv), (2, .int fo)]) hx hb d_md_isLike_153 hl (by decide) rfl (fun ls hl => ?_)
            refine lv_iload_n hx hb d_md_isLike_155 rfl (lv_at hl 6 rfl) ?_
            refine lv_bipush (v := 12) hx hb d_md_isLike_156 (by decide) ?_
            refine lv_ishr hx hb d_md_isLike_158 ?_
            refine lv_if_le (tgt := 172) hx hb d_md_isLike_159 (by decide) (fun c_27 => ?_) (fun c_27 => ?_)
            · have hF := hF.trans (if_pos c_27)
              refine lv_iconst (v := 0) hx hb d_md_isLike_172 (by decide) ?_
              refine lv_istore (lv' := [(8, .int (0 : Int32)), (7, .int (r_6 - (1 : Int32))), (6, .int r_12), (5, .int (M_board r_7.toNatClampNeg)), (4, .int (M_board r_7.toNatClampNeg)), (3, .int r_6), (0, .ref Mh), (1, .int mv), (2, .int fo)]) hx hb d_md_isLike_173 hl (by decide) rfl (fun ls hl => ?_)
              refine lv_iload hx hb d_md_isLike_175 (lv_at hl 3 rfl) ?_
              refine lv_iconst (v := 1) hx hb d_md_isLike_177 (by decide) ?_
              refine lv_icmp_ne (tgt := 242) hx hb d_md_isLike_178 (by decide) (fun c_28 => ?_) (fun c_28 => ?_)
              · have hF := hF.trans (if_neg c_28)
                refine lv_iconst (v := 0) hx hb d_md_isLike_242 (by decide) ?_
                exact W.zret (v := (0 : Int32)) hx hb hr (rfl) (fun t ht hW => ⟨_, rfl, ⟨hF, rfl⟩, ht⟩) hS.2.2 d_md_isLike_243
              · have hF := hF.trans (if_pos c_28)
                refine lv_iload hx hb d_md_isLike_181 (lv_at hl 0 rfl) ?_
                refine lv_iload hx hb d_md_isLike_183 (lv_at hl 2 rfl) ?_
                refine lv_if_eq (tgt := 199) hx hb d_md_isLike_185 (by decide) (fun c => absurd c c_13) (fun _ => ?_)
                refine lv_aload_n hx hb d_md_isLike_188 rfl (lv_at hl 6 rfl) ?_
                refine va_get (D := kD K) (ci := 6) (v := .ref Ma1) (C := R_md) (T := T_md) (N := 21) hx hb htg in_md hown hK hP 0 rfl rfl 7 (by decide) (htg (.fieldLink R_md 20 "GameNotationModel" "text" "[I") q_801) (fun _ h9 => h9) rfl d_md_isLike_189 ?_
                refine lv_iload_n hx hb d_md_isLike_192 rfl (lv_at hl 5 rfl) ?_
                refine lv_iconst (v := 1) hx hb d_md_isLike_193 (by decide) ?_
                refine lv_isub hx hb d_md_isLike_194 ?_
                have h_29 : vp_in (r_6 - (1 : Int32)) 100 := ix1 (Int.le_trans (by decide) (lk4 hw_6 h_4 (f4 c_1 c_10 h_f)).1) fp_6_0 h_s
                refine va_iald hx hb hK hP 2 0 rfl rfl h_29 d_md_isLike_195 ?_
                refine lv_goto (tgt := 200) hx hb d_md_isLike_196 (by decide) ?_
                refine lv_icmp_ne (tgt := 242) hx hb d_md_isLike_200 (by decide) (fun c_30 => ?_) (fun c_30 => ?_)
                · have hF := hF.trans (if_neg c_30)
                  refine lv_iconst (v := 0) hx hb d_md_isLike_242 (by decide) ?_
                  exact W.zret (v := (0 : Int32)) hx hb hr (rfl) (fun t ht hW => ⟨_, rfl, ⟨hF, rfl⟩, ht⟩) hS.2.2 d_md_isLike_243
                · have hF := hF.trans (if_pos c_30)
                  refine lv_iload_n hx hb d_md_isLike_203 rfl (lv_at hl 7 rfl) ?_
                  have hPc : va_P (kD K) vwCl [] _ := hP.sub [] rfl
                  refine vp_callSi (va_Run.run (va_runS (As := [.int mv]) (rest := []) ⟨hx, hb, hml, hown, htg⟩ (c_md_toOf l K mv) (va_cwS 1 htg (g_S q_988 q_989 q_7 (g_w q_990)) rfl rfl rfl k_md_toOf ⟨Nat.le_of_ble_eq_true rfl, Nat.le_of_ble_eq_true rfl⟩) ⟨ro_blind, ro_use hPc hK hG hS trivial⟩ rfl rfl hl.1 rfl (lv_room (Nat.le_of_ble_eq_true rfl)) d_md_isLike_204 ⟨Nat.zero_le _, Nat.zero_le _⟩)) (fun r_31 hw_31 => ?_)
                  have hF := hF.trans (bnd_s hw_31.1)
                  refine lv_aload_n hx hb d_md_isLike_207 rfl (lv_at hl 6 rfl) ?_
                  refine va_get (D := kD K) (ci := 6) (v := .ref Ma1) (C := R_md) (T := T_md) (N := 21) hx hb htg in_md hown hK hP 0 rfl rfl 7 (by decide) (htg (.fieldLink R_md 20 "GameNotationModel" "text" "[I") q_801) (fun _ h9 => h9) rfl d_md_isLike_208 ?_
                  refine lv_iload hx hb d_md_isLike_211 (lv_at hl 1 rfl) ?_
                  refine lv_iconst (v := 2) hx hb d_md_isLike_213 (by decide) ?_
                  refine lv_isub hx hb d_md_isLike_214 ?_
                  have h_32 : vp_in ((r_6 - (1 : Int32)) - (2 : Int32)) 100 := by first | exact ix2 (lk4 hw_6 h_4 (f4 c_1 c_10 h_f)).1 fp_6_0 h_s | exact ix3 (lk5 (lk4 hw_6 h_4 (f4 c_1 c_10 h_f)).2 hw_12 c_13) fp_6_0 h_s
                  refine va_iald hx hb hK hP 2 0 rfl rfl h_32 d_md_isLike_215 ?_
                  refine lv_bipush (v := 97) hx hb d_md_isLike_216 (by decide) ?_
                  refine lv_isub hx hb d_md_isLike_218 ?_
                  refine lv_bipush (v := 8) hx hb d_md_isLike_219 (by decide) ?_
                  refine lv_aload_n hx hb d_md_isLike_221 rfl (lv_at hl 6 rfl) ?_
                  refine va_get (D := kD K) (ci := 6) (v := .ref Ma1) (C := R_md) (T := T_md) (N := 21) hx hb htg in_md hown hK hP 0 rfl rfl 7 (by decide) (htg (.fieldLink R_md 20 "GameNotationModel" "text" "[I") q_801) (fun _ h9 => h9) rfl d_md_isLike_222 ?_
                  refine lv_iload hx hb d_md_isLike_225 (lv_at hl 1 rfl) ?_
                  refine lv_iconst (v := 1) hx hb d_md_isLike_227 (by decide) ?_
                  refine lv_isub hx hb d_md_isLike_228 ?_
                  have h_33 : vp_in ((r_6 - (1 : Int32)) - (1 : Int32)) 100 := by first | exact ix1 (Int.le_trans (by decide) (lk4 hw_6 h_4 (f4 c_1 c_10 h_f)).1) fp_6_0 h_s | exact ix4 (lk5 (lk4 hw_6 h_4 (f4 c_1 c_10 h_f)).2 hw_12 c_13) fp_6_0 h_s
                  refine va_iald hx hb hK hP 2 0 rfl rfl h_33 d_md_isLike_229 ?_
                  refine lv_bipush (v := 49) hx hb d_md_isLike_230 (by decide) ?_
                  refine lv_isub hx hb d_md_isLike_232 ?_
                  refine lv_imul hx hb d_md_isLike_233 ?_
                  refine lv_iadd hx hb d_md_isLike_234 ?_
                  refine lv_icmp_ne (tgt := 242) hx hb d_md_isLike_235 (by decide) (fun c_34 => ?_) (fun c_34 => ?_)
                  · have hF := hF.trans (if_neg c_34)
                    refine lv_iconst (v := 0) hx hb d_md_isLike_242 (by decide) ?_
                    exact W.zret (v := (0 : Int32)) hx hb hr (rfl) (fun t ht hW => ⟨_, rfl, ⟨hF, rfl⟩, ht⟩) hS.2.2 d_md_isLike_243
                  · have hF := hF.trans (if_pos c_34)
                    refine lv_iconst (v := 1) hx hb d_md_isLike_238 (by decide) ?_
                    refine lv_goto (tgt := 243) hx hb d_md_isLike_239 (by decide) ?_
                    exact W.zret (v := (1 : Int32)) hx hb hr (rfl) (fun t ht hW => ⟨_, rfl, ⟨hF, rfl⟩, ht⟩) hS.2.2 d_md_isLike_243
            · have hF := hF.trans (if_neg c_27)
              refine lv_iload_n hx hb d_md_isLike_162 rfl (lv_at hl 6 rfl) ?_
              refine lv_bipush (v := 12) hx hb d_md_isLike_163 (by decide) ?_
              refine lv_ishr hx hb d_md_isLike_165 ?_
              have hPc : va_P (kD K) vwCl [] _ := hP.sub [] rfl
              refine vp_callSi (va_Run.run (va_runS (As := [.int (mv >>> ((12 : Int32) &&& 31))]) (rest := []) ⟨hx, hb, hml, hown, htg⟩ (c_md_letter l K (mv >>> ((12 : Int32) &&& 31))) (va_cwS 1 htg (g_S q_894 q_895 q_7 (g_w q_896)) rfl rfl rfl k_md_letter ⟨Nat.le_of_ble_eq_true rfl, Nat.le_of_ble_eq_true rfl⟩) ⟨ro_blind, ro_use hPc hK hG hS trivial⟩ rfl rfl hl.1 rfl (lv_room (Nat.le_of_ble_eq_true rfl)) d_md_isLike_166 ⟨Nat.zero_le _, Nat.zero_le _⟩)) (fun r_35 hw_35 => ?_)
              have hF := hF.trans (bnd_s hw_35.1)
              refine lv_goto (tgt := 173) hx hb d_md_isLike_169 (by decide) ?_
              refine lv_istore (lv' := [(8, .int r_35), (7, .int (r_6 - (1 : Int32))), (6, .int r_12), (5, .int (M_board r_7.toNatClampNeg)), (4, .int (M_board r_7.toNatClampNeg)), (3, .int r_6), (0, .ref Mh), (1, .int mv), (2, .int fo)]) hx hb d_md_isLike_173 hl (by decide) rfl (fun ls hl => ?_)
              refine lv_iload hx hb d_md_isLike_175 (lv_at hl 3 rfl) ?_
              refine lv_iconst (v := 1) hx hb d_md_isLike_177 (by decide) ?_
              refine lv_icmp_ne (tgt := 242) hx hb d_md_isLike_178 (by decide) (fun c_36 => ?_) (fun c_36 => ?_)
              · have hF := hF.trans (if_neg c_36)
                refine lv_iconst (v := 0) hx hb d_md_isLike_242 (by decide) ?_
                exact W.zret (v := (0 : Int32)) hx hb hr (rfl) (fun t ht hW => ⟨_, rfl, ⟨hF, rfl⟩, ht⟩) hS.2.2 d_md_isLike_243
              · have hF := hF.trans (if_pos c_36)
                refine lv_iload hx hb d_md_isLike_181 (lv_at hl 0 rfl) ?_
                refine lv_iload hx hb d_md_isLike_183 (lv_at hl 2 rfl) ?_
                refine lv_if_eq (tgt := 199) hx hb d_md_isLike_185 (by decide) (fun c => absurd c c_13) (fun _ => ?_)
                refine lv_aload_n hx hb d_md_isLike_188 rfl (lv_at hl 6 rfl) ?_
                refine va_get (D := kD K) (ci := 6) (v := .ref Ma1) (C := R_md) (T := T_md) (N := 21) hx hb htg in_md hown hK hP 0 rfl rfl 7 (by decide) (htg (.fieldLink R_md 20 "GameNotationModel" "text" "[I") q_801) (fun _ h9 => h9) rfl d_md_isLike_189 ?_
                refine lv_iload_n hx hb d_md_isLike_192 rfl (lv_at hl 5 rfl) ?_
                refine lv_iconst (v := 1) hx hb d_md_isLike_193 (by decide) ?_
                refine lv_isub hx hb d_md_isLike_194 ?_
                have h_37 : vp_in (r_6 - (1 : Int32)) 100 := ix1 (Int.le_trans (by decide) (lk4 hw_6 h_4 (f4 c_1 c_10 h_f)).1) fp_6_0 h_s
                refine va_iald hx hb hK hP 2 0 rfl rfl h_37 d_md_isLike_195 ?_
                refine lv_goto (tgt := 200) hx hb d_md_isLike_196 (by decide) ?_
                refine lv_icmp_ne (tgt := 242) hx hb d_md_isLike_200 (by decide) (fun c_38 => ?_) (fun c_38 => ?_)
                · have hF := hF.trans (if_neg c_38)
                  refine lv_iconst (v := 0) hx hb d_md_isLike_242 (by decide) ?_
                  exact W.zret (v := (0 : Int32)) hx hb hr (rfl) (fun t ht hW => ⟨_, rfl, ⟨hF, rfl⟩, ht⟩) hS.2.2 d_md_isLike_243
                · have hF := hF.trans (if_pos c_38)
                  refine lv_iload_n hx hb d_md_isLike_203 rfl (lv_at hl 7 rfl) ?_
                  have hPc : va_P (kD K) vwCl [] _ := hP.sub [] rfl
                  refine vp_callSi (va_Run.run (va_runS (As := [.int mv]) (rest := []) ⟨hx, hb, hml, hown, htg⟩ (c_md_toOf l K mv) (va_cwS 1 htg (g_S q_988 q_989 q_7 (g_w q_990)) rfl rfl rfl k_md_toOf ⟨Nat.le_of_ble_eq_true rfl, Nat.le_of_ble_eq_true rfl⟩) ⟨ro_blind, ro_use hPc hK hG hS trivial⟩ rfl rfl hl.1 rfl (lv_room (Nat.le_of_ble_eq_true rfl)) d_md_isLike_204 ⟨Nat.zero_le _, Nat.zero_le _⟩)) (fun r_39 hw_39 => ?_)
                  have hF := hF.trans (bnd_s hw_39.1)
                  refine lv_aload_n hx hb d_md_isLike_207 rfl (lv_at hl 6 rfl) ?_
                  refine va_get (D := kD K) (ci := 6) (v := .ref Ma1) (C := R_md) (T := T_md) (N := 21) hx hb htg in_md hown hK hP 0 rfl rfl 7 (by decide) (htg (.fieldLink R_md 20 "GameNotationModel" "text" "[I") q_801) (fun _ h9 => h9) rfl d_md_isLike_208 ?_
                  refine lv_iload hx hb d_md_isLike_211 (lv_at hl 1 rfl) ?_
                  refine lv_iconst (v := 2) hx hb d_md_isLike_213 (by decide) ?_
                  refine lv_isub hx hb d_md_isLike_214 ?_
                  have h_40 : vp_in ((r_6 - (1 : Int32)) - (2 : Int32)) 100 := by first | exact ix2 (lk4 hw_6 h_4 (f4 c_1 c_10 h_f)).1 fp_6_0 h_s | exact ix3 (lk5 (lk4 hw_6 h_4 (f4 c_1 c_10 h_f)).2 hw_12 c_13) fp_6_0 h_s
                  refine va_iald hx hb hK hP 2 0 rfl rfl h_40 d_md_isLike_215 ?_
                  refine lv_bipush (v := 97) hx hb d_md_isLike_216 (by decide) ?_
                  refine lv_isub hx hb d_md_isLike_218 ?_
                  refine lv_bipush (v := 8) hx hb d_md_isLike_219 (by decide) ?_
                  refine lv_aload_n hx hb d_md_isLike_221 rfl (lv_at hl 6 rfl) ?_
                  refine va_get (D := kD K) (ci := 6) (v := .ref Ma1) (C := R_md) (T := T_md) (N := 21) hx hb htg in_md hown hK hP 0 rfl rfl 7 (by decide) (htg (.fieldLink R_md 20 "GameNotationModel" "text" "[I") q_801) (fun _ h9 => h9) rfl d_md_isLike_222 ?_
                  refine lv_iload hx hb d_md_isLike_225 (lv_at hl 1 rfl) ?_
                  refine lv_iconst (v := 1) hx hb d_md_isLike_227 (by decide) ?_
                  refine lv_isub hx hb d_md_isLike_228 ?_
                  have h_41 : vp_in ((r_6 - (1 : Int32)) - (1 : Int32)) 100 := by first | exact ix1 (Int.le_trans (by decide) (lk4 hw_6 h_4 (f4 c_1 c_10 h_f)).1) fp_6_0 h_s | exact ix4 (lk5 (lk4 hw_6 h_4 (f4 c_1 c_10 h_f)).2 hw_12 c_13) fp_6_0 h_s
                  refine va_iald hx hb hK hP 2 0 rfl rfl h_41 d_md_isLike_229 ?_
                  refine lv_bipush (v := 49) hx hb d_md_isLike_230 (by decide) ?_
                  refine lv_isub hx hb d_md_isLike_232 ?_
                  refine lv_imul hx hb d_md_isLike_233 ?_
                  refine lv_iadd hx hb d_md_isLike_234 ?_
                  refine lv_icmp_ne (tgt := 242) hx hb d_md_isLike_235 (by decide) (fun c_42 => ?_) (fun c_42 => ?_)
                  · have hF := hF.trans (if_neg c_42)
                    refine lv_iconst (v := 0) hx hb d_md_isLike_242 (by decide) ?_
                    exact W.zret (v := (0 : Int32)) hx hb hr (rfl) (fun t ht hW => ⟨_, rfl, ⟨hF, rfl⟩, ht⟩) hS.2.2 d_md_isLike_243
                  · have hF := hF.trans (if_pos c_42)
                    refine lv_iconst (v := 1) hx hb d_md_isLike_238 (by decide) ?_
                    refine lv_goto (tgt := 243) hx hb d_md_isLike_239 (by decide) ?_
                    exact W.zret (v := (1 : Int32)) hx hb hr (rfl) (fun t ht hW => ⟨_, rfl, ⟨hF, rfl⟩, ht⟩) hS.2.2 d_md_isLike_243
        · have hF := hF.trans (if_pos c_10)
          refine lv_iload hx hb d_md_isLike_68 (lv_at hl 0 rfl) ?_
          have hPc : va_P (kD K) vwCl [] _ := hP.sub [] rfl
          refine vp_callSi (va_Run.run (va_runS (As := [.int (M_board r_7.toNatClampNeg)]) (rest := []) ⟨hx, hb, hml, hown, htg⟩ (c_md_letter l K (M_board r_7.toNatClampNeg)) (va_cwS 1 htg (g_S q_894 q_895 q_7 (g_w q_896)) rfl rfl rfl k_md_letter ⟨Nat.le_of_ble_eq_true rfl, Nat.le_of_ble_eq_true rfl⟩) ⟨ro_blind, ro_use hPc hK hG hS trivial⟩ rfl rfl hl.1 rfl (lv_room (Nat.le_of_ble_eq_true rfl)) d_md_isLike_70 ⟨Nat.zero_le _, Nat.zero_le _⟩)) (fun r_43 hw_43 => ?_)
          have hF := hF.trans (bnd_s hw_43.1)
          refine lv_aload_n hx hb d_md_isLike_73 rfl (lv_at hl 3 rfl) ?_
          refine va_get (D := kD K) (ci := 6) (v := .ref Ma1) (C := R_md) (T := T_md) (N := 21) hx hb htg in_md hown hK hP 0 rfl rfl 7 (by decide) (htg (.fieldLink R_md 20 "GameNotationModel" "text" "[I") q_801) (fun _ h9 => h9) rfl d_md_isLike_74 ?_
          refine lv_iconst (v := 0) hx hb d_md_isLike_77 (by decide) ?_
          have h_44 : vp_in (0 : Int32) 100 := vp_in_iff.mpr (by decide)
          refine va_iald hx hb hK hP 2 0 rfl rfl h_44 d_md_isLike_78 ?_
          refine lv_icmp_ne (tgt := 125) hx hb d_md_isLike_79 (by decide) (fun c_45 => ?_) (fun c_45 => ?_)
          · have hF := hF.trans (if_neg c_45)
            refine lv_iconst (v := 0) hx hb d_md_isLike_125 (by decide) ?_
            exact W.zret (v := (0 : Int32)) hx hb hr (rfl) (fun t ht hW => ⟨_, rfl, ⟨hF, rfl⟩, ht⟩) hS.2.2 d_md_isLike_126
          · have hF := hF.trans (if_pos c_45)
            refine lv_iload hx hb d_md_isLike_82 (lv_at hl 0 rfl) ?_
            refine lv_iconst (v := 1) hx hb d_md_isLike_84 (by decide) ?_
            refine lv_icmp_eq (tgt := 125) hx hb d_md_isLike_85 (by decide) (fun c_46 => ?_) (fun c_46 => ?_)
            · have hF := hF.trans (if_pos c_46)
              refine lv_iconst (v := 0) hx hb d_md_isLike_125 (by decide) ?_
              exact W.zret (v := (0 : Int32)) hx hb hr (rfl) (fun t ht hW => ⟨_, rfl, ⟨hF, rfl⟩, ht⟩) hS.2.2 d_md_isLike_126
            · have hF := hF.trans (if_neg c_46)
              refine lv_iload_n hx hb d_md_isLike_88 rfl (lv_at hl 4 rfl) ?_
              have hPc : va_P (kD K) vwCl [] _ := hP.sub [] rfl
              refine vp_callSi (va_Run.run (va_runS (As := [.int mv]) (rest := []) ⟨hx, hb, hml, hown, htg⟩ (c_md_toOf l K mv) (va_cwS 1 htg (g_S q_988 q_989 q_7 (g_w q_990)) rfl rfl rfl k_md_toOf ⟨Nat.le_of_ble_eq_true rfl, Nat.le_of_ble_eq_true rfl⟩) ⟨ro_blind, ro_use hPc hK hG hS trivial⟩ rfl rfl hl.1 rfl (lv_room (Nat.le_of_ble_eq_true rfl)) d_md_isLike_89 ⟨Nat.zero_le _, Nat.zero_le _⟩)) (fun r_47 hw_47 => ?_)
              have hF := hF.trans (bnd_s hw_47.1)
              refine lv_aload_n hx hb d_md_isLike_92 rfl (lv_at hl 3 rfl) ?_
              refine va_get (D := kD K) (ci := 6) (v := .ref Ma1) (C := R_md) (T := T_md) (N := 21) hx hb htg in_md hown hK hP 0 rfl rfl 7 (by decide) (htg (.fieldLink R_md 20 "GameNotationModel" "text" "[I") q_801) (fun _ h9 => h9) rfl d_md_isLike_93 ?_
              refine lv_iload_n hx hb d_md_isLike_96 rfl (lv_at hl 2 rfl) ?_
              refine lv_iconst (v := 2) hx hb d_md_isLike_97 (by decide) ?_
              refine lv_isub hx hb d_md_isLike_98 ?_
              have h_48 : vp_in (r_6 - (2 : Int32)) 100 := ix2 (Int.le_trans (by decide) (lk3 hw_6 h_3 c_10)) fp_6_0 h_s
              refine va_iald hx hb hK hP 2 0 rfl rfl h_48 d_md_isLike_99 ?_
              refine lv_bipush (v := 97) hx hb d_md_isLike_100 (by decide) ?_
              refine lv_isub hx hb d_md_isLike_102 ?_
              refine lv_bipush (v := 8) hx hb d_md_isLike_103 (by decide) ?_
              refine lv_aload_n hx hb d_md_isLike_105 rfl (lv_at hl 3 rfl) ?_
              refine va_get (D := kD K) (ci := 6) (v := .ref Ma1) (C := R_md) (T := T_md) (N := 21) hx hb htg in_md hown hK hP 0 rfl rfl 7 (by decide) (htg (.fieldLink R_md 20 "GameNotationModel" "text" "[I") q_801) (fun _ h9 => h9) rfl d_md_isLike_106 ?_
              refine lv_iload_n hx hb d_md_isLike_109 rfl (lv_at hl 2 rfl) ?_
              refine lv_iconst (v := 1) hx hb d_md_isLike_110 (by decide) ?_
              refine lv_isub hx hb d_md_isLike_111 ?_
              have h_49 : vp_in (r_6 - (1 : Int32)) 100 := ix1 (Int.le_trans (by decide) (lk3 hw_6 h_3 c_10)) fp_6_0 h_s
              refine va_iald hx hb hK hP 2 0 rfl rfl h_49 d_md_isLike_112 ?_
              refine lv_bipush (v := 49) hx hb d_md_isLike_113 (by decide) ?_
              refine lv_isub hx hb d_md_isLike_115 ?_
              refine lv_imul hx hb d_md_isLike_116 ?_
              refine lv_iadd hx hb d_md_isLike_117 ?_
              refine lv_icmp_ne (tgt := 125) hx hb d_md_isLike_118 (by decide) (fun c_50 => ?_) (fun c_50 => ?_)
              · have hF := hF.trans (if_neg c_50)
                refine lv_iconst (v := 0) hx hb d_md_isLike_125 (by decide) ?_
                exact W.zret (v := (0 : Int32)) hx hb hr (rfl) (fun t ht hW => ⟨_, rfl, ⟨hF, rfl⟩, ht⟩) hS.2.2 d_md_isLike_126
              · have hF := hF.trans (if_pos c_50)
                refine lv_iconst (v := 1) hx hb d_md_isLike_121 (by decide) ?_
                refine lv_goto (tgt := 126) hx hb d_md_isLike_122 (by decide) ?_
                exact W.zret (v := (1 : Int32)) hx hb hr (rfl) (fun t ht hW => ⟨_, rfl, ⟨hF, rfl⟩, ht⟩) hS.2.2 d_md_isLike_126
      · have hF := hF.trans (if_neg c_9)
        refine lv_iload hx hb d_md_isLike_51 (lv_at hl 0 rfl) ?_
        refine lv_bipush (v := 6) hx hb d_md_isLike_53 (by decide) ?_
        refine lv_isub hx hb d_md_isLike_55 ?_
        refine lv_goto (tgt := 61) hx hb d_md_isLike_56 (by decide) ?_
        refine lv_istore (lv' := [(5, .int ((M_board r_7.toNatClampNeg) - (6 : Int32))), (4, .int (M_board r_7.toNatClampNeg)), (3, .int r_6), (0, .ref Mh), (1, .int mv), (2, .int fo)]) hx hb d_md_isLike_61 hl (by decide) rfl (fun ls hl => ?_)
        refine lv_iload_n hx hb d_md_isLike_63 rfl (lv_at hl 5 rfl) ?_
        refine lv_iconst (v := 3) hx hb d_md_isLike_64 (by decide) ?_
        refine lv_icmp_ne (tgt := 127) hx hb d_md_isLike_65 (by decide) (fun c_51 => ?_) (fun c_51 => ?_)
        · have hF := hF.trans (if_neg c_51)
          refine lv_aload_n hx hb d_md_isLike_127 rfl (lv_at hl 3 rfl) ?_
          refine va_get (D := kD K) (ci := 6) (v := .ref Ma1) (C := R_md) (T := T_md) (N := 21) hx hb htg in_md hown hK hP 0 rfl rfl 7 (by decide) (htg (.fieldLink R_md 20 "GameNotationModel" "text" "[I") q_801) (fun _ h9 => h9) rfl d_md_isLike_128 ?_
          refine lv_iload_n hx hb d_md_isLike_131 rfl (lv_at hl 2 rfl) ?_
          refine lv_iconst (v := 1) hx hb d_md_isLike_132 (by decide) ?_
          refine lv_isub hx hb d_md_isLike_133 ?_
          have h_52 : vp_in (r_6 - (1 : Int32)) 100 := ix1 (Int.le_trans (by decide) (lk4 hw_6 h_4 (f4 c_1 c_51 h_f)).1) fp_6_0 h_s
          refine va_iald hx hb hK hP 2 0 rfl rfl h_52 d_md_isLike_134 ?_
          refine lv_iconst (v := 0) hx hb d_md_isLike_135 (by decide) ?_
          have hPc : va_P (kD K) vwCl [] _ := hP.sub [] rfl
          refine vp_callSi (va_Run.run (va_runS (As := [.int (M_text (r_6 - (1 : Int32)).toNatClampNeg), .int (0 : Int32)]) (rest := []) ⟨hx, hb, hml, hown, htg⟩ (c_md_isOfficer l K (M_text (r_6 - (1 : Int32)).toNatClampNeg) (0 : Int32)) (va_cwS 2 htg (g_S q_1051 q_1052 q_7 (g_w q_1053)) rfl rfl rfl k_md_isOfficer ⟨Nat.le_of_ble_eq_true rfl, Nat.le_of_ble_eq_true rfl⟩) ⟨ro_blind, ro_use hPc hK hG hS trivial⟩ rfl rfl hl.1 rfl (lv_room (Nat.le_of_ble_eq_true rfl)) d_md_isLike_136 ⟨Nat.zero_le _, Nat.zero_le _⟩)) (fun r_53 hw_53 => ?_)
          have hF := hF.trans (bnd_s hw_53.1)
          have hn_53 := hw_53.2
          refine lv_istore (lv' := [(6, .int r_53), (5, .int ((M_board r_7.toNatClampNeg) - (6 : Int32))), (4, .int (M_board r_7.toNatClampNeg)), (3, .int r_6), (0, .ref Mh), (1, .int mv), (2, .int fo)]) hx hb d_md_isLike_139 hl (by decide) rfl (fun ls hl => ?_)
          refine lv_iload hx hb d_md_isLike_141 (lv_at hl 0 rfl) ?_
          refine lv_if_eq (tgt := 152) hx hb d_md_isLike_143 (by decide) (fun c_54 => ?_) (fun c_54 => ?_)
          · have hF := hF.trans (if_pos c_54)
            refine lv_iload_n hx hb d_md_isLike_152 rfl (lv_at hl 3 rfl) ?_
            refine lv_istore (lv' := [(7, .int r_6), (6, .int r_53), (5, .int ((M_board r_7.toNatClampNeg) - (6 : Int32))), (4, .int (M_board r_7.toNatClampNeg)), (3, .int r_6), (0, .ref Mh), (1, .int mv), (2, .int fo)]) hx hb d_md_isLike_153 hl (by decide) rfl (fun ls hl => ?_)
            refine lv_iload_n hx hb d_md_isLike_155 rfl (lv_at hl 6 rfl) ?_
            refine lv_bipush (v := 12) hx hb d_md_isLike_156 (by decide) ?_
            refine lv_ishr hx hb d_md_isLike_158 ?_
            refine lv_if_le (tgt := 172) hx hb d_md_isLike_159 (by decide) (fun c_55 => ?_) (fun c_55 => ?_)
            · have hF := hF.trans (if_pos c_55)
              refine lv_iconst (v := 0) hx hb d_md_isLike_172 (by decide) ?_
              refine lv_istore (lv' := [(8, .int (0 : Int32)), (7, .int r_6), (6, .int r_53), (5, .int ((M_board r_7.toNatClampNeg) - (6 : Int32))), (4, .int (M_board r_7.toNatClampNeg)), (3, .int r_6), (0, .ref Mh), (1, .int mv), (2, .int fo)]) hx hb d_md_isLike_173 hl (by decide) rfl (fun ls hl => ?_)
              refine lv_iload hx hb d_md_isLike_175 (lv_at hl 3 rfl) ?_
              refine lv_iconst (v := 1) hx hb d_md_isLike_177 (by decide) ?_
              refine lv_icmp_ne (tgt := 242) hx hb d_md_isLike_178 (by decide) (fun c_56 => ?_) (fun c_56 => ?_)
              · have hF := hF.trans (if_neg c_56)
                refine lv_iconst (v := 0) hx hb d_md_isLike_242 (by decide) ?_
                exact W.zret (v := (0 : Int32)) hx hb hr (rfl) (fun t ht hW => ⟨_, rfl, ⟨hF, rfl⟩, ht⟩) hS.2.2 d_md_isLike_243
              · have hF := hF.trans (if_pos c_56)
                refine lv_iload hx hb d_md_isLike_181 (lv_at hl 0 rfl) ?_
                refine lv_iload hx hb d_md_isLike_183 (lv_at hl 2 rfl) ?_
                refine lv_if_eq (tgt := 199) hx hb d_md_isLike_185 (by decide) (fun _ => ?_) (fun c => absurd c_54 c)
                refine lv_iconst (v := 0) hx hb d_md_isLike_199 (by decide) ?_
                refine lv_icmp_ne (tgt := 242) hx hb d_md_isLike_200 (by decide) (fun c => False.elim (by revert c; decide)) (fun _ => ?_)
                refine lv_iload_n hx hb d_md_isLike_203 rfl (lv_at hl 7 rfl) ?_
                have hPc : va_P (kD K) vwCl [] _ := hP.sub [] rfl
                refine vp_callSi (va_Run.run (va_runS (As := [.int mv]) (rest := []) ⟨hx, hb, hml, hown, htg⟩ (c_md_toOf l K mv) (va_cwS 1 htg (g_S q_988 q_989 q_7 (g_w q_990)) rfl rfl rfl k_md_toOf ⟨Nat.le_of_ble_eq_true rfl, Nat.le_of_ble_eq_true rfl⟩) ⟨ro_blind, ro_use hPc hK hG hS trivial⟩ rfl rfl hl.1 rfl (lv_room (Nat.le_of_ble_eq_true rfl)) d_md_isLike_204 ⟨Nat.zero_le _, Nat.zero_le _⟩)) (fun r_57 hw_57 => ?_)
                have hF := hF.trans (bnd_s hw_57.1)
                refine lv_aload_n hx hb d_md_isLike_207 rfl (lv_at hl 6 rfl) ?_
                refine va_get (D := kD K) (ci := 6) (v := .ref Ma1) (C := R_md) (T := T_md) (N := 21) hx hb htg in_md hown hK hP 0 rfl rfl 7 (by decide) (htg (.fieldLink R_md 20 "GameNotationModel" "text" "[I") q_801) (fun _ h9 => h9) rfl d_md_isLike_208 ?_
                refine lv_iload hx hb d_md_isLike_211 (lv_at hl 1 rfl) ?_
                refine lv_iconst (v := 2) hx hb d_md_isLike_213 (by decide) ?_
                refine lv_isub hx hb d_md_isLike_214 ?_
                have h_58 : vp_in (r_6 - (2 : Int32)) 100 := by first | exact ix2 (lk4 hw_6 h_4 (f4 c_1 c_51 h_f)).1 fp_6_0 h_s | exact ix3 (lk5 (lk4 hw_6 h_4 (f4 c_1 c_51 h_f)).2 hw_53 c_54) fp_6_0 h_s
                refine va_iald hx hb hK hP 2 0 rfl rfl h_58 d_md_isLike_215 ?_
                refine lv_bipush (v := 97) hx hb d_md_isLike_216 (by decide) ?_
                refine lv_isub hx hb d_md_isLike_218 ?_
                refine lv_bipush (v := 8) hx hb d_md_isLike_219 (by decide) ?_
                refine lv_aload_n hx hb d_md_isLike_221 rfl (lv_at hl 6 rfl) ?_
                refine va_get (D := kD K) (ci := 6) (v := .ref Ma1) (C := R_md) (T := T_md) (N := 21) hx hb htg in_md hown hK hP 0 rfl rfl 7 (by decide) (htg (.fieldLink R_md 20 "GameNotationModel" "text" "[I") q_801) (fun _ h9 => h9) rfl d_md_isLike_222 ?_
                refine lv_iload hx hb d_md_isLike_225 (lv_at hl 1 rfl) ?_
                refine lv_iconst (v := 1) hx hb d_md_isLike_227 (by decide) ?_
                refine lv_isub hx hb d_md_isLike_228 ?_
                have h_59 : vp_in (r_6 - (1 : Int32)) 100 := by first | exact ix1 (Int.le_trans (by decide) (lk4 hw_6 h_4 (f4 c_1 c_51 h_f)).1) fp_6_0 h_s | exact ix4 (lk5 (lk4 hw_6 h_4 (f4 c_1 c_51 h_f)).2 hw_53 c_54) fp_6_0 h_s
                refine va_iald hx hb hK hP 2 0 rfl rfl h_59 d_md_isLike_229 ?_
                refine lv_bipush (v := 49) hx hb d_md_isLike_230 (by decide) ?_
                refine lv_isub hx hb d_md_isLike_232 ?_
                refine lv_imul hx hb d_md_isLike_233 ?_
                refine lv_iadd hx hb d_md_isLike_234 ?_
                refine lv_icmp_ne (tgt := 242) hx hb d_md_isLike_235 (by decide) (fun c_60 => ?_) (fun c_60 => ?_)
                · have hF := hF.trans (if_neg c_60)
                  refine lv_iconst (v := 0) hx hb d_md_isLike_242 (by decide) ?_
                  exact W.zret (v := (0 : Int32)) hx hb hr (rfl) (fun t ht hW => ⟨_, rfl, ⟨hF, rfl⟩, ht⟩) hS.2.2 d_md_isLike_243
                · have hF := hF.trans (if_pos c_60)
                  refine lv_iconst (v := 1) hx hb d_md_isLike_238 (by decide) ?_
                  refine lv_goto (tgt := 243) hx hb d_md_isLike_239 (by decide) ?_
                  exact W.zret (v := (1 : Int32)) hx hb hr (rfl) (fun t ht hW => ⟨_, rfl, ⟨hF, rfl⟩, ht⟩) hS.2.2 d_md_isLike_243
            · have hF := hF.trans (if_neg c_55)
              refine lv_iload_n hx hb d_md_isLike_162 rfl (lv_at hl 6 rfl) ?_
              refine lv_bipush (v := 12) hx hb d_md_isLike_163 (by decide) ?_
              refine lv_ishr hx hb d_md_isLike_165 ?_
              have hPc : va_P (kD K) vwCl [] _ := hP.sub [] rfl
              refine vp_callSi (va_Run.run (va_runS (As := [.int (mv >>> ((12 : Int32) &&& 31))]) (rest := []) ⟨hx, hb, hml, hown, htg⟩ (c_md_letter l K (mv >>> ((12 : Int32) &&& 31))) (va_cwS 1 htg (g_S q_894 q_895 q_7 (g_w q_896)) rfl rfl rfl k_md_letter ⟨Nat.le_of_ble_eq_true rfl, Nat.le_of_ble_eq_true rfl⟩) ⟨ro_blind, ro_use hPc hK hG hS trivial⟩ rfl rfl hl.1 rfl (lv_room (Nat.le_of_ble_eq_true rfl)) d_md_isLike_166 ⟨Nat.zero_le _, Nat.zero_le _⟩)) (fun r_61 hw_61 => ?_)
              have hF := hF.trans (bnd_s hw_61.1)
              refine lv_goto (tgt := 173) hx hb d_md_isLike_169 (by decide) ?_
              refine lv_istore (lv' := [(8, .int r_61), (7, .int r_6), (6, .int r_53), (5, .int ((M_board r_7.toNatClampNeg) - (6 : Int32))), (4, .int (M_board r_7.toNatClampNeg)), (3, .int r_6), (0, .ref Mh), (1, .int mv), (2, .int fo)]) hx hb d_md_isLike_173 hl (by decide) rfl (fun ls hl => ?_)
              refine lv_iload hx hb d_md_isLike_175 (lv_at hl 3 rfl) ?_
              refine lv_iconst (v := 1) hx hb d_md_isLike_177 (by decide) ?_
              refine lv_icmp_ne (tgt := 242) hx hb d_md_isLike_178 (by decide) (fun c_62 => ?_) (fun c_62 => ?_)
              · have hF := hF.trans (if_neg c_62)
                refine lv_iconst (v := 0) hx hb d_md_isLike_242 (by decide) ?_
                exact W.zret (v := (0 : Int32)) hx hb hr (rfl) (fun t ht hW => ⟨_, rfl, ⟨hF, rfl⟩, ht⟩) hS.2.2 d_md_isLike_243
              · have hF := hF.trans (if_pos c_62)
                refine lv_iload hx hb d_md_isLike_181 (lv_at hl 0 rfl) ?_
                refine lv_iload hx hb d_md_isLike_183 (lv_at hl 2 rfl) ?_
                refine lv_if_eq (tgt := 199) hx hb d_md_isLike_185 (by decide) (fun _ => ?_) (fun c => absurd c_54 c)
                refine lv_iconst (v := 0) hx hb d_md_isLike_199 (by decide) ?_
                refine lv_icmp_ne (tgt := 242) hx hb d_md_isLike_200 (by decide) (fun c_63 => ?_) (fun c_63 => ?_)
                · have hF := hF.trans (if_neg c_63)
                  refine lv_iconst (v := 0) hx hb d_md_isLike_242 (by decide) ?_
                  exact W.zret (v := (0 : Int32)) hx hb hr (rfl) (fun t ht hW => ⟨_, rfl, ⟨hF, rfl⟩, ht⟩) hS.2.2 d_md_isLike_243
                · have hF := hF.trans (if_pos c_63)
                  refine lv_iload_n hx hb d_md_isLike_203 rfl (lv_at hl 7 rfl) ?_
                  have hPc : va_P (kD K) vwCl [] _ := hP.sub [] rfl
                  refine vp_callSi (va_Run.run (va_runS (As := [.int mv]) (rest := []) ⟨hx, hb, hml, hown, htg⟩ (c_md_toOf l K mv) (va_cwS 1 htg (g_S q_988 q_989 q_7 (g_w q_990)) rfl rfl rfl k_md_toOf ⟨Nat.le_of_ble_eq_true rfl, Nat.le_of_ble_eq_true rfl⟩) ⟨ro_blind, ro_use hPc hK hG hS trivial⟩ rfl rfl hl.1 rfl (lv_room (Nat.le_of_ble_eq_true rfl)) d_md_isLike_204 ⟨Nat.zero_le _, Nat.zero_le _⟩)) (fun r_64 hw_64 => ?_)
                  have hF := hF.trans (bnd_s hw_64.1)
                  refine lv_aload_n hx hb d_md_isLike_207 rfl (lv_at hl 6 rfl) ?_
                  refine va_get (D := kD K) (ci := 6) (v := .ref Ma1) (C := R_md) (T := T_md) (N := 21) hx hb htg in_md hown hK hP 0 rfl rfl 7 (by decide) (htg (.fieldLink R_md 20 "GameNotationModel" "text" "[I") q_801) (fun _ h9 => h9) rfl d_md_isLike_208 ?_
                  refine lv_iload hx hb d_md_isLike_211 (lv_at hl 1 rfl) ?_
                  refine lv_iconst (v := 2) hx hb d_md_isLike_213 (by decide) ?_
                  refine lv_isub hx hb d_md_isLike_214 ?_
                  have h_65 : vp_in (r_6 - (2 : Int32)) 100 := by first | exact ix2 (lk4 hw_6 h_4 (f4 c_1 c_51 h_f)).1 fp_6_0 h_s | exact ix3 (lk5 (lk4 hw_6 h_4 (f4 c_1 c_51 h_f)).2 hw_53 c_54) fp_6_0 h_s
                  refine va_iald hx hb hK hP 2 0 rfl rfl h_65 d_md_isLike_215 ?_
                  refine lv_bipush (v := 97) hx hb d_md_isLike_216 (by decide) ?_
                  refine lv_isub hx hb d_md_isLike_218 ?_
                  refine lv_bipush (v := 8) hx hb d_md_isLike_219 (by decide) ?_
                  refine lv_aload_n hx hb d_md_isLike_221 rfl (lv_at hl 6 rfl) ?_
                  refine va_get (D := kD K) (ci := 6) (v := .ref Ma1) (C := R_md) (T := T_md) (N := 21) hx hb htg in_md hown hK hP 0 rfl rfl 7 (by decide) (htg (.fieldLink R_md 20 "GameNotationModel" "text" "[I") q_801) (fun _ h9 => h9) rfl d_md_isLike_222 ?_
                  refine lv_iload hx hb d_md_isLike_225 (lv_at hl 1 rfl) ?_
                  refine lv_iconst (v := 1) hx hb d_md_isLike_227 (by decide) ?_
                  refine lv_isub hx hb d_md_isLike_228 ?_
                  have h_66 : vp_in (r_6 - (1 : Int32)) 100 := by first | exact ix1 (Int.le_trans (by decide) (lk4 hw_6 h_4 (f4 c_1 c_51 h_f)).1) fp_6_0 h_s | exact ix4 (lk5 (lk4 hw_6 h_4 (f4 c_1 c_51 h_f)).2 hw_53 c_54) fp_6_0 h_s
                  refine va_iald hx hb hK hP 2 0 rfl rfl h_66 d_md_isLike_229 ?_
                  refine lv_bipush (v := 49) hx hb d_md_isLike_230 (by decide) ?_
                  refine lv_isub hx hb d_md_isLike_232 ?_
                  refine lv_imul hx hb d_md_isLike_233 ?_
                  refine lv_iadd hx hb d_md_isLike_234 ?_
                  refine lv_icmp_ne (tgt := 242) hx hb d_md_isLike_235 (by decide) (fun c_67 => ?_) (fun c_67 => ?_)
                  · have hF := hF.trans (if_neg c_67)
                    refine lv_iconst (v := 0) hx hb d_md_isLike_242 (by decide) ?_
                    exact W.zret (v := (0 : Int32)) hx hb hr (rfl) (fun t ht hW => ⟨_, rfl, ⟨hF, rfl⟩, ht⟩) hS.2.2 d_md_isLike_243
                  · have hF := hF.trans (if_pos c_67)
                    refine lv_iconst (v := 1) hx hb d_md_isLike_238 (by decide) ?_
                    refine lv_goto (tgt := 243) hx hb d_md_isLike_239 (by decide) ?_
                    exact W.zret (v := (1 : Int32)) hx hb hr (rfl) (fun t ht hW => ⟨_, rfl, ⟨hF, rfl⟩, ht⟩) hS.2.2 d_md_isLike_243
          · have hF := hF.trans (if_neg c_54)
            refine lv_iload_n hx hb d_md_isLike_146 rfl (lv_at hl 3 rfl) ?_
            refine lv_iconst (v := 1) hx hb d_md_isLike_147 (by decide) ?_
            refine lv_isub hx hb d_md_isLike_148 ?_
            refine lv_goto (tgt := 153) hx hb d_md_isLike_149 (by decide) ?_
            refine lv_istore (lv' := [(7, .int (r_6 - (1 : Int32))), (6, .int r_53), (5, .int ((M_board r_7.toNatClampNeg) - (6 : Int32))), (4, .int (M_board r_7.toNatClampNeg)), (3, .int r_6), (0, .ref Mh), (1, .int mv), (2, .int fo)]) hx hb d_md_isLike_153 hl (by decide) rfl (fun ls hl => ?_)
            refine lv_iload_n hx hb d_md_isLike_155 rfl (lv_at hl 6 rfl) ?_
            refine lv_bipush (v := 12) hx hb d_md_isLike_156 (by decide) ?_
            refine lv_ishr hx hb d_md_isLike_158 ?_
            refine lv_if_le (tgt := 172) hx hb d_md_isLike_159 (by decide) (fun c_68 => ?_) (fun c_68 => ?_)
            · have hF := hF.trans (if_pos c_68)
              refine lv_iconst (v := 0) hx hb d_md_isLike_172 (by decide) ?_
              refine lv_istore (lv' := [(8, .int (0 : Int32)), (7, .int (r_6 - (1 : Int32))), (6, .int r_53), (5, .int ((M_board r_7.toNatClampNeg) - (6 : Int32))), (4, .int (M_board r_7.toNatClampNeg)), (3, .int r_6), (0, .ref Mh), (1, .int mv), (2, .int fo)]) hx hb d_md_isLike_173 hl (by decide) rfl (fun ls hl => ?_)
              refine lv_iload hx hb d_md_isLike_175 (lv_at hl 3 rfl) ?_
              refine lv_iconst (v := 1) hx hb d_md_isLike_177 (by decide) ?_
              refine lv_icmp_ne (tgt := 242) hx hb d_md_isLike_178 (by decide) (fun c_69 => ?_) (fun c_69 => ?_)
              · have hF := hF.trans (if_neg c_69)
                refine lv_iconst (v := 0) hx hb d_md_isLike_242 (by decide) ?_
                exact W.zret (v := (0 : Int32)) hx hb hr (rfl) (fun t ht hW => ⟨_, rfl, ⟨hF, rfl⟩, ht⟩) hS.2.2 d_md_isLike_243
              · have hF := hF.trans (if_pos c_69)
                refine lv_iload hx hb d_md_isLike_181 (lv_at hl 0 rfl) ?_
                refine lv_iload hx hb d_md_isLike_183 (lv_at hl 2 rfl) ?_
                refine lv_if_eq (tgt := 199) hx hb d_md_isLike_185 (by decide) (fun c => absurd c c_54) (fun _ => ?_)
                refine lv_aload_n hx hb d_md_isLike_188 rfl (lv_at hl 6 rfl) ?_
                refine va_get (D := kD K) (ci := 6) (v := .ref Ma1) (C := R_md) (T := T_md) (N := 21) hx hb htg in_md hown hK hP 0 rfl rfl 7 (by decide) (htg (.fieldLink R_md 20 "GameNotationModel" "text" "[I") q_801) (fun _ h9 => h9) rfl d_md_isLike_189 ?_
                refine lv_iload_n hx hb d_md_isLike_192 rfl (lv_at hl 5 rfl) ?_
                refine lv_iconst (v := 1) hx hb d_md_isLike_193 (by decide) ?_
                refine lv_isub hx hb d_md_isLike_194 ?_
                have h_70 : vp_in (r_6 - (1 : Int32)) 100 := ix1 (Int.le_trans (by decide) (lk4 hw_6 h_4 (f4 c_1 c_51 h_f)).1) fp_6_0 h_s
                refine va_iald hx hb hK hP 2 0 rfl rfl h_70 d_md_isLike_195 ?_
                refine lv_goto (tgt := 200) hx hb d_md_isLike_196 (by decide) ?_
                refine lv_icmp_ne (tgt := 242) hx hb d_md_isLike_200 (by decide) (fun c_71 => ?_) (fun c_71 => ?_)
                · have hF := hF.trans (if_neg c_71)
                  refine lv_iconst (v := 0) hx hb d_md_isLike_242 (by decide) ?_
                  exact W.zret (v := (0 : Int32)) hx hb hr (rfl) (fun t ht hW => ⟨_, rfl, ⟨hF, rfl⟩, ht⟩) hS.2.2 d_md_isLike_243
                · have hF := hF.trans (if_pos c_71)
                  refine lv_iload_n hx hb d_md_isLike_203 rfl (lv_at hl 7 rfl) ?_
                  have hPc : va_P (kD K) vwCl [] _ := hP.sub [] rfl
                  refine vp_callSi (va_Run.run (va_runS (As := [.int mv]) (rest := []) ⟨hx, hb, hml, hown, htg⟩ (c_md_toOf l K mv) (va_cwS 1 htg (g_S q_988 q_989 q_7 (g_w q_990)) rfl rfl rfl k_md_toOf ⟨Nat.le_of_ble_eq_true rfl, Nat.le_of_ble_eq_true rfl⟩) ⟨ro_blind, ro_use hPc hK hG hS trivial⟩ rfl rfl hl.1 rfl (lv_room (Nat.le_of_ble_eq_true rfl)) d_md_isLike_204 ⟨Nat.zero_le _, Nat.zero_le _⟩)) (fun r_72 hw_72 => ?_)
                  have hF := hF.trans (bnd_s hw_72.1)
                  refine lv_aload_n hx hb d_md_isLike_207 rfl (lv_at hl 6 rfl) ?_
                  refine va_get (D := kD K) (ci := 6) (v := .ref Ma1) (C := R_md) (T := T_md) (N := 21) hx hb htg in_md hown hK hP 0 rfl rfl 7 (by decide) (htg (.fieldLink R_md 20 "GameNotationModel" "text" "[I") q_801) (fun _ h9 => h9) rfl d_md_isLike_208 ?_
                  refine lv_iload hx hb d_md_isLike_211 (lv_at hl 1 rfl) ?_
                  refine lv_iconst (v := 2) hx hb d_md_isLike_213 (by decide) ?_
                  refine lv_isub hx hb d_md_isLike_214 ?_
                  have h_73 : vp_in ((r_6 - (1 : Int32)) - (2 : Int32)) 100 := by first | exact ix2 (lk4 hw_6 h_4 (f4 c_1 c_51 h_f)).1 fp_6_0 h_s | exact ix3 (lk5 (lk4 hw_6 h_4 (f4 c_1 c_51 h_f)).2 hw_53 c_54) fp_6_0 h_s
                  refine va_iald hx hb hK hP 2 0 rfl rfl h_73 d_md_isLike_215 ?_
                  refine lv_bipush (v := 97) hx hb d_md_isLike_216 (by decide) ?_
                  refine lv_isub hx hb d_md_isLike_218 ?_
                  refine lv_bipush (v := 8) hx hb d_md_isLike_219 (by decide) ?_
                  refine lv_aload_n hx hb d_md_isLike_221 rfl (lv_at hl 6 rfl) ?_
                  refine va_get (D := kD K) (ci := 6) (v := .ref Ma1) (C := R_md) (T := T_md) (N := 21) hx hb htg in_md hown hK hP 0 rfl rfl 7 (by decide) (htg (.fieldLink R_md 20 "GameNotationModel" "text" "[I") q_801) (fun _ h9 => h9) rfl d_md_isLike_222 ?_
                  refine lv_iload hx hb d_md_isLike_225 (lv_at hl 1 rfl) ?_
                  refine lv_iconst (v := 1) hx hb d_md_isLike_227 (by decide) ?_
                  refine lv_isub hx hb d_md_isLike_228 ?_
                  have h_74 : vp_in ((r_6 - (1 : Int32)) - (1 : Int32)) 100 := by first | exact ix1 (Int.le_trans (by decide) (lk4 hw_6 h_4 (f4 c_1 c_51 h_f)).1) fp_6_0 h_s | exact ix4 (lk5 (lk4 hw_6 h_4 (f4 c_1 c_51 h_f)).2 hw_53 c_54) fp_6_0 h_s
                  refine va_iald hx hb hK hP 2 0 rfl rfl h_74 d_md_isLike_229 ?_
                  refine lv_bipush (v := 49) hx hb d_md_isLike_230 (by decide) ?_
                  refine lv_isub hx hb d_md_isLike_232 ?_
                  refine lv_imul hx hb d_md_isLike_233 ?_
                  refine lv_iadd hx hb d_md_isLike_234 ?_
                  refine lv_icmp_ne (tgt := 242) hx hb d_md_isLike_235 (by decide) (fun c_75 => ?_) (fun c_75 => ?_)
                  · have hF := hF.trans (if_neg c_75)
                    refine lv_iconst (v := 0) hx hb d_md_isLike_242 (by decide) ?_
                    exact W.zret (v := (0 : Int32)) hx hb hr (rfl) (fun t ht hW => ⟨_, rfl, ⟨hF, rfl⟩, ht⟩) hS.2.2 d_md_isLike_243
                  · have hF := hF.trans (if_pos c_75)
                    refine lv_iconst (v := 1) hx hb d_md_isLike_238 (by decide) ?_
                    refine lv_goto (tgt := 243) hx hb d_md_isLike_239 (by decide) ?_
                    exact W.zret (v := (1 : Int32)) hx hb hr (rfl) (fun t ht hW => ⟨_, rfl, ⟨hF, rfl⟩, ht⟩) hS.2.2 d_md_isLike_243
            · have hF := hF.trans (if_neg c_68)
              refine lv_iload_n hx hb d_md_isLike_162 rfl (lv_at hl 6 rfl) ?_
              refine lv_bipush (v := 12) hx hb d_md_isLike_163 (by decide) ?_
              refine lv_ishr hx hb d_md_isLike_165 ?_
              have hPc : va_P (kD K) vwCl [] _ := hP.sub [] rfl
              refine vp_callSi (va_Run.run (va_runS (As := [.int (mv >>> ((12 : Int32) &&& 31))]) (rest := []) ⟨hx, hb, hml, hown, htg⟩ (c_md_letter l K (mv >>> ((12 : Int32) &&& 31))) (va_cwS 1 htg (g_S q_894 q_895 q_7 (g_w q_896)) rfl rfl rfl k_md_letter ⟨Nat.le_of_ble_eq_true rfl, Nat.le_of_ble_eq_true rfl⟩) ⟨ro_blind, ro_use hPc hK hG hS trivial⟩ rfl rfl hl.1 rfl (lv_room (Nat.le_of_ble_eq_true rfl)) d_md_isLike_166 ⟨Nat.zero_le _, Nat.zero_le _⟩)) (fun r_76 hw_76 => ?_)
              have hF := hF.trans (bnd_s hw_76.1)
              refine lv_goto (tgt := 173) hx hb d_md_isLike_169 (by decide) ?_
              refine lv_istore (lv' := [(8, .int r_76), (7, .int (r_6 - (1 : Int32))), (6, .int r_53), (5, .int ((M_board r_7.toNatClampNeg) - (6 : Int32))), (4, .int (M_board r_7.toNatClampNeg)), (3, .int r_6), (0, .ref Mh), (1, .int mv), (2, .int fo)]) hx hb d_md_isLike_173 hl (by decide) rfl (fun ls hl => ?_)
              refine lv_iload hx hb d_md_isLike_175 (lv_at hl 3 rfl) ?_
              refine lv_iconst (v := 1) hx hb d_md_isLike_177 (by decide) ?_
              refine lv_icmp_ne (tgt := 242) hx hb d_md_isLike_178 (by decide) (fun c_77 => ?_) (fun c_77 => ?_)
              · have hF := hF.trans (if_neg c_77)
                refine lv_iconst (v := 0) hx hb d_md_isLike_242 (by decide) ?_
                exact W.zret (v := (0 : Int32)) hx hb hr (rfl) (fun t ht hW => ⟨_, rfl, ⟨hF, rfl⟩, ht⟩) hS.2.2 d_md_isLike_243
              · have hF := hF.trans (if_pos c_77)
                refine lv_iload hx hb d_md_isLike_181 (lv_at hl 0 rfl) ?_
                refine lv_iload hx hb d_md_isLike_183 (lv_at hl 2 rfl) ?_
                refine lv_if_eq (tgt := 199) hx hb d_md_isLike_185 (by decide) (fun c => absurd c c_54) (fun _ => ?_)
                refine lv_aload_n hx hb d_md_isLike_188 rfl (lv_at hl 6 rfl) ?_
                refine va_get (D := kD K) (ci := 6) (v := .ref Ma1) (C := R_md) (T := T_md) (N := 21) hx hb htg in_md hown hK hP 0 rfl rfl 7 (by decide) (htg (.fieldLink R_md 20 "GameNotationModel" "text" "[I") q_801) (fun _ h9 => h9) rfl d_md_isLike_189 ?_
                refine lv_iload_n hx hb d_md_isLike_192 rfl (lv_at hl 5 rfl) ?_
                refine lv_iconst (v := 1) hx hb d_md_isLike_193 (by decide) ?_
                refine lv_isub hx hb d_md_isLike_194 ?_
                have h_78 : vp_in (r_6 - (1 : Int32)) 100 := ix1 (Int.le_trans (by decide) (lk4 hw_6 h_4 (f4 c_1 c_51 h_f)).1) fp_6_0 h_s
                refine va_iald hx hb hK hP 2 0 rfl rfl h_78 d_md_isLike_195 ?_
                refine lv_goto (tgt := 200) hx hb d_md_isLike_196 (by decide) ?_
                refine lv_icmp_ne (tgt := 242) hx hb d_md_isLike_200 (by decide) (fun c_79 => ?_) (fun c_79 => ?_)
                · have hF := hF.trans (if_neg c_79)
                  refine lv_iconst (v := 0) hx hb d_md_isLike_242 (by decide) ?_
                  exact W.zret (v := (0 : Int32)) hx hb hr (rfl) (fun t ht hW => ⟨_, rfl, ⟨hF, rfl⟩, ht⟩) hS.2.2 d_md_isLike_243
                · have hF := hF.trans (if_pos c_79)
                  refine lv_iload_n hx hb d_md_isLike_203 rfl (lv_at hl 7 rfl) ?_
                  have hPc : va_P (kD K) vwCl [] _ := hP.sub [] rfl
                  refine vp_callSi (va_Run.run (va_runS (As := [.int mv]) (rest := []) ⟨hx, hb, hml, hown, htg⟩ (c_md_toOf l K mv) (va_cwS 1 htg (g_S q_988 q_989 q_7 (g_w q_990)) rfl rfl rfl k_md_toOf ⟨Nat.le_of_ble_eq_true rfl, Nat.le_of_ble_eq_true rfl⟩) ⟨ro_blind, ro_use hPc hK hG hS trivial⟩ rfl rfl hl.1 rfl (lv_room (Nat.le_of_ble_eq_true rfl)) d_md_isLike_204 ⟨Nat.zero_le _, Nat.zero_le _⟩)) (fun r_80 hw_80 => ?_)
                  have hF := hF.trans (bnd_s hw_80.1)
                  refine lv_aload_n hx hb d_md_isLike_207 rfl (lv_at hl 6 rfl) ?_
                  refine va_get (D := kD K) (ci := 6) (v := .ref Ma1) (C := R_md) (T := T_md) (N := 21) hx hb htg in_md hown hK hP 0 rfl rfl 7 (by decide) (htg (.fieldLink R_md 20 "GameNotationModel" "text" "[I") q_801) (fun _ h9 => h9) rfl d_md_isLike_208 ?_
                  refine lv_iload hx hb d_md_isLike_211 (lv_at hl 1 rfl) ?_
                  refine lv_iconst (v := 2) hx hb d_md_isLike_213 (by decide) ?_
                  refine lv_isub hx hb d_md_isLike_214 ?_
                  have h_81 : vp_in ((r_6 - (1 : Int32)) - (2 : Int32)) 100 := by first | exact ix2 (lk4 hw_6 h_4 (f4 c_1 c_51 h_f)).1 fp_6_0 h_s | exact ix3 (lk5 (lk4 hw_6 h_4 (f4 c_1 c_51 h_f)).2 hw_53 c_54) fp_6_0 h_s
                  refine va_iald hx hb hK hP 2 0 rfl rfl h_81 d_md_isLike_215 ?_
                  refine lv_bipush (v := 97) hx hb d_md_isLike_216 (by decide) ?_
                  refine lv_isub hx hb d_md_isLike_218 ?_
                  refine lv_bipush (v := 8) hx hb d_md_isLike_219 (by decide) ?_
                  refine lv_aload_n hx hb d_md_isLike_221 rfl (lv_at hl 6 rfl) ?_
                  refine va_get (D := kD K) (ci := 6) (v := .ref Ma1) (C := R_md) (T := T_md) (N := 21) hx hb htg in_md hown hK hP 0 rfl rfl 7 (by decide) (htg (.fieldLink R_md 20 "GameNotationModel" "text" "[I") q_801) (fun _ h9 => h9) rfl d_md_isLike_222 ?_
                  refine lv_iload hx hb d_md_isLike_225 (lv_at hl 1 rfl) ?_
                  refine lv_iconst (v := 1) hx hb d_md_isLike_227 (by decide) ?_
                  refine lv_isub hx hb d_md_isLike_228 ?_
                  have h_82 : vp_in ((r_6 - (1 : Int32)) - (1 : Int32)) 100 := by first | exact ix1 (Int.le_trans (by decide) (lk4 hw_6 h_4 (f4 c_1 c_51 h_f)).1) fp_6_0 h_s | exact ix4 (lk5 (lk4 hw_6 h_4 (f4 c_1 c_51 h_f)).2 hw_53 c_54) fp_6_0 h_s
                  refine va_iald hx hb hK hP 2 0 rfl rfl h_82 d_md_isLike_229 ?_
                  refine lv_bipush (v := 49) hx hb d_md_isLike_230 (by decide) ?_
                  refine lv_isub hx hb d_md_isLike_232 ?_
                  refine lv_imul hx hb d_md_isLike_233 ?_
                  refine lv_iadd hx hb d_md_isLike_234 ?_
                  refine lv_icmp_ne (tgt := 242) hx hb d_md_isLike_235 (by decide) (fun c_83 => ?_) (fun c_83 => ?_)
                  · have hF := hF.trans (if_neg c_83)
                    refine lv_iconst (v := 0) hx hb d_md_isLike_242 (by decide) ?_
                    exact W.zret (v := (0 : Int32)) hx hb hr (rfl) (fun t ht hW => ⟨_, rfl, ⟨hF, rfl⟩, ht⟩) hS.2.2 d_md_isLike_243
                  · have hF := hF.trans (if_pos c_83)
                    refine lv_iconst (v := 1) hx hb d_md_isLike_238 (by decide) ?_
                    refine lv_goto (tgt := 243) hx hb d_md_isLike_239 (by decide) ?_
                    exact W.zret (v := (1 : Int32)) hx hb hr (rfl) (fun t ht hW => ⟨_, rfl, ⟨hF, rfl⟩, ht⟩) hS.2.2 d_md_isLike_243
        · have hF := hF.trans (if_pos c_51)
          refine lv_iload hx hb d_md_isLike_68 (lv_at hl 0 rfl) ?_
          have hPc : va_P (kD K) vwCl [] _ := hP.sub [] rfl
          refine vp_callSi (va_Run.run (va_runS (As := [.int ((M_board r_7.toNatClampNeg) - (6 : Int32))]) (rest := []) ⟨hx, hb, hml, hown, htg⟩ (c_md_letter l K ((M_board r_7.toNatClampNeg) - (6 : Int32))) (va_cwS 1 htg (g_S q_894 q_895 q_7 (g_w q_896)) rfl rfl rfl k_md_letter ⟨Nat.le_of_ble_eq_true rfl, Nat.le_of_ble_eq_true rfl⟩) ⟨ro_blind, ro_use hPc hK hG hS trivial⟩ rfl rfl hl.1 rfl (lv_room (Nat.le_of_ble_eq_true rfl)) d_md_isLike_70 ⟨Nat.zero_le _, Nat.zero_le _⟩)) (fun r_84 hw_84 => ?_)
          have hF := hF.trans (bnd_s hw_84.1)
          refine lv_aload_n hx hb d_md_isLike_73 rfl (lv_at hl 3 rfl) ?_
          refine va_get (D := kD K) (ci := 6) (v := .ref Ma1) (C := R_md) (T := T_md) (N := 21) hx hb htg in_md hown hK hP 0 rfl rfl 7 (by decide) (htg (.fieldLink R_md 20 "GameNotationModel" "text" "[I") q_801) (fun _ h9 => h9) rfl d_md_isLike_74 ?_
          refine lv_iconst (v := 0) hx hb d_md_isLike_77 (by decide) ?_
          have h_85 : vp_in (0 : Int32) 100 := vp_in_iff.mpr (by decide)
          refine va_iald hx hb hK hP 2 0 rfl rfl h_85 d_md_isLike_78 ?_
          refine lv_icmp_ne (tgt := 125) hx hb d_md_isLike_79 (by decide) (fun c_86 => ?_) (fun c_86 => ?_)
          · have hF := hF.trans (if_neg c_86)
            refine lv_iconst (v := 0) hx hb d_md_isLike_125 (by decide) ?_
            exact W.zret (v := (0 : Int32)) hx hb hr (rfl) (fun t ht hW => ⟨_, rfl, ⟨hF, rfl⟩, ht⟩) hS.2.2 d_md_isLike_126
          · have hF := hF.trans (if_pos c_86)
            refine lv_iload hx hb d_md_isLike_82 (lv_at hl 0 rfl) ?_
            refine lv_iconst (v := 1) hx hb d_md_isLike_84 (by decide) ?_
            refine lv_icmp_eq (tgt := 125) hx hb d_md_isLike_85 (by decide) (fun c_87 => ?_) (fun c_87 => ?_)
            · have hF := hF.trans (if_pos c_87)
              refine lv_iconst (v := 0) hx hb d_md_isLike_125 (by decide) ?_
              exact W.zret (v := (0 : Int32)) hx hb hr (rfl) (fun t ht hW => ⟨_, rfl, ⟨hF, rfl⟩, ht⟩) hS.2.2 d_md_isLike_126
            · have hF := hF.trans (if_neg c_87)
              refine lv_iload_n hx hb d_md_isLike_88 rfl (lv_at hl 4 rfl) ?_
              have hPc : va_P (kD K) vwCl [] _ := hP.sub [] rfl
              refine vp_callSi (va_Run.run (va_runS (As := [.int mv]) (rest := []) ⟨hx, hb, hml, hown, htg⟩ (c_md_toOf l K mv) (va_cwS 1 htg (g_S q_988 q_989 q_7 (g_w q_990)) rfl rfl rfl k_md_toOf ⟨Nat.le_of_ble_eq_true rfl, Nat.le_of_ble_eq_true rfl⟩) ⟨ro_blind, ro_use hPc hK hG hS trivial⟩ rfl rfl hl.1 rfl (lv_room (Nat.le_of_ble_eq_true rfl)) d_md_isLike_89 ⟨Nat.zero_le _, Nat.zero_le _⟩)) (fun r_88 hw_88 => ?_)
              have hF := hF.trans (bnd_s hw_88.1)
              refine lv_aload_n hx hb d_md_isLike_92 rfl (lv_at hl 3 rfl) ?_
              refine va_get (D := kD K) (ci := 6) (v := .ref Ma1) (C := R_md) (T := T_md) (N := 21) hx hb htg in_md hown hK hP 0 rfl rfl 7 (by decide) (htg (.fieldLink R_md 20 "GameNotationModel" "text" "[I") q_801) (fun _ h9 => h9) rfl d_md_isLike_93 ?_
              refine lv_iload_n hx hb d_md_isLike_96 rfl (lv_at hl 2 rfl) ?_
              refine lv_iconst (v := 2) hx hb d_md_isLike_97 (by decide) ?_
              refine lv_isub hx hb d_md_isLike_98 ?_
              have h_89 : vp_in (r_6 - (2 : Int32)) 100 := ix2 (Int.le_trans (by decide) (lk3 hw_6 h_3 c_51)) fp_6_0 h_s
              refine va_iald hx hb hK hP 2 0 rfl rfl h_89 d_md_isLike_99 ?_
              refine lv_bipush (v := 97) hx hb d_md_isLike_100 (by decide) ?_
              refine lv_isub hx hb d_md_isLike_102 ?_
              refine lv_bipush (v := 8) hx hb d_md_isLike_103 (by decide) ?_
              refine lv_aload_n hx hb d_md_isLike_105 rfl (lv_at hl 3 rfl) ?_
              refine va_get (D := kD K) (ci := 6) (v := .ref Ma1) (C := R_md) (T := T_md) (N := 21) hx hb htg in_md hown hK hP 0 rfl rfl 7 (by decide) (htg (.fieldLink R_md 20 "GameNotationModel" "text" "[I") q_801) (fun _ h9 => h9) rfl d_md_isLike_106 ?_
              refine lv_iload_n hx hb d_md_isLike_109 rfl (lv_at hl 2 rfl) ?_
              refine lv_iconst (v := 1) hx hb d_md_isLike_110 (by decide) ?_
              refine lv_isub hx hb d_md_isLike_111 ?_
              have h_90 : vp_in (r_6 - (1 : Int32)) 100 := ix1 (Int.le_trans (by decide) (lk3 hw_6 h_3 c_51)) fp_6_0 h_s
              refine va_iald hx hb hK hP 2 0 rfl rfl h_90 d_md_isLike_112 ?_
              refine lv_bipush (v := 49) hx hb d_md_isLike_113 (by decide) ?_
              refine lv_isub hx hb d_md_isLike_115 ?_
              refine lv_imul hx hb d_md_isLike_116 ?_
              refine lv_iadd hx hb d_md_isLike_117 ?_
              refine lv_icmp_ne (tgt := 125) hx hb d_md_isLike_118 (by decide) (fun c_91 => ?_) (fun c_91 => ?_)
              · have hF := hF.trans (if_neg c_91)
                refine lv_iconst (v := 0) hx hb d_md_isLike_125 (by decide) ?_
                exact W.zret (v := (0 : Int32)) hx hb hr (rfl) (fun t ht hW => ⟨_, rfl, ⟨hF, rfl⟩, ht⟩) hS.2.2 d_md_isLike_126
              · have hF := hF.trans (if_pos c_91)
                refine lv_iconst (v := 1) hx hb d_md_isLike_121 (by decide) ?_
                refine lv_goto (tgt := 126) hx hb d_md_isLike_122 (by decide) ?_
                exact W.zret (v := (1 : Int32)) hx hb hr (rfl) (fun t ht hW => ⟨_, rfl, ⟨hF, rfl⟩, ht⟩) hS.2.2 d_md_isLike_126
    · have hF := hF.trans (if_neg c_5)
      refine lv_aload_n hx hb d_md_isLike_13 rfl (lv_at hl 0 rfl) ?_
      refine lv_iload_n hx hb d_md_isLike_14 rfl (lv_at hl 1 rfl) ?_
      have hPc : va_P (kD K) vwCl [(Mh, .inr (6, [.int M_thrown, .ref Ma0, .int M_side, .int M_rights, .int M_passant, .int M_clock, .int M_number, .ref Ma1, .int M_size, .int M_told, .ref Ma2, .ref Ma3, .int M_at, .ref Ma4, .int M_newSide, .int M_newRights, .int M_newPassant, .int M_newClock, .int M_newNumber, .ref Ma5, .int M_outs])), (Ma0, .inl ((kI K), 64, .inl M_board)), (Ma1, .inl ((kI K), 100, .inl M_text)), (Ma2, .inl ((kI K), 330, .inl M_moves)), (Ma3, .inl ((kI K), 330, .inl M_signs)), (Ma4, .inl ((kI K), 64, .inl M_newBoard)), (Ma5, .inl ((kI K), 16, .inl M_out))] _ := hP.sub [0, 1, 2, 3, 4, 5, 6] rfl
      refine vp_callSi (va_Run.run (va_runV (As := [.int mv]) (rest := []) ⟨hx, hb, hml, hown, htg⟩ (c_md_castles l K Mh Ma0 Ma1 Ma2 Ma3 Ma4 Ma5 M_board M_text M_moves M_signs M_newBoard M_out M_thrown M_side M_rights M_passant M_clock M_number M_size M_told M_at M_newSide M_newRights M_newPassant M_newClock M_newNumber M_outs mv) (cwV 1 htg (g_V q_1011 q_1013 qs_51 q_7 (g_w q_1014)) rfl rfl rfl ⟨rfl, k_md_castles⟩ ⟨Nat.le_of_ble_eq_true rfl, Nat.le_of_ble_eq_true rfl⟩) ⟨ro_blind, va_recv hK hPc (ci := 6) (q0 := 0) rfl rfl, ro_use hPc hK hG hS trivial⟩ rfl rfl hl.1 rfl (lv_room (Nat.le_of_ble_eq_true rfl)) d_md_isLike_15 ⟨Nat.zero_le _, Nat.zero_le _⟩)) (fun r_92 hw_92 => ?_)
      have hF := hF.trans (bnd_s hw_92.1)
      refine lv_iload_n hx hb d_md_isLike_18 rfl (lv_at hl 2 rfl) ?_
      refine lv_icmp_ne (tgt := 26) hx hb d_md_isLike_19 (by decide) (fun c_93 => ?_) (fun c_93 => ?_)
      · have hF := hF.trans (if_neg c_93)
        refine lv_iconst (v := 0) hx hb d_md_isLike_26 (by decide) ?_
        exact W.zret (v := (0 : Int32)) hx hb hr (rfl) (fun t ht hW => ⟨_, rfl, ⟨hF, rfl⟩, ht⟩) hS.2.2 d_md_isLike_27
      · have hF := hF.trans (if_pos c_93)
        refine lv_iconst (v := 1) hx hb d_md_isLike_22 (by decide) ?_
        refine lv_goto (tgt := 27) hx hb d_md_isLike_23 (by decide) ?_
        exact W.zret (v := (1 : Int32)) hx hb hr (rfl) (fun t ht hW => ⟨_, rfl, ⟨hF, rfl⟩, ht⟩) hS.2.2 d_md_isLike_27
