def f_md_say (M_out : (Nat → Int32)) (M_outs : Int32) (ch : Int32) : (Nat → Int32) × Int32 := (upd M_out M_outs.toNatClampNeg ch, M_outs + (1 : Int32))
set_option maxHeartbeats 4000000 in
set_option maxRecDepth 100000 in
theorem c_md_say (l : Launch) (K : KT) (sz : Nat) (Mh Ma0 Ma1 Ma2 Ma3 Ma4 Ma5 : Nat) (M_board : (Nat → Int32)) (M_text : (Nat → Int32)) (M_moves : (Nat → Int32)) (M_signs : (Nat → Int32)) (M_newBoard : (Nat → Int32)) (M_out : (Nat → Int32)) (M_thrown : Int32) (M_side : Int32) (M_rights : Int32) (M_passant : Int32) (M_clock : Int32) (M_number : Int32) (M_size : Int32) (M_told : Int32) (M_at : Int32) (M_newSide : Int32) (M_newRights : Int32) (M_newPassant : Int32) (M_newClock : Int32) (M_newNumber : Int32) (M_outs : Int32) (ch : Int32) : Met l y_md_say w_md_say ({ frames := 0, cells := 0, slots := 0, locals := 0 } : Room) (va_Pc [.ref Mh, .int ch] (fun U => pMU K [(Mh, .inr (6, [.int M_thrown, .ref Ma0, .int M_side, .int M_rights, .int M_passant, .int M_clock, .int M_number, .ref Ma1, .int M_size, .int M_told, .ref Ma2, .ref Ma3, .int M_at, .ref Ma4, .int M_newSide, .int M_newRights, .int M_newPassant, .int M_newClock, .int M_newNumber, .ref Ma5, .int M_outs])), (Ma0, .inl ((kI K), 64, .inl M_board)), (Ma1, .inl ((kI K), 100, .inl M_text)), (Ma2, .inl ((kI K), 330, .inl M_moves)), (Ma3, .inl ((kI K), 330, .inl M_signs)), (Ma4, .inl ((kI K), 64, .inl M_newBoard)), (Ma5, .inl ((kI K), 16, .inl M_out))] sz U ∧ 0 ≤ M_outs.toInt ∧ M_outs.toInt ≤ 15 ∧ True)) (va_Qv (fun u : (Nat → Int32) × Int32 => f_md_say M_out M_outs ch = u ∧ (u.2.toInt = M_outs.toInt + 1) ∧ True) (fun (u : (Nat → Int32) × Int32) (t : State) => va_P (kD K) vwCl [(Mh, .inr (6, [.int M_thrown, .ref Ma0, .int M_side, .int M_rights, .int M_passant, .int M_clock, .int M_number, .ref Ma1, .int M_size, .int M_told, .ref Ma2, .ref Ma3, .int M_at, .ref Ma4, .int M_newSide, .int M_newRights, .int M_newPassant, .int M_newClock, .int M_newNumber, .ref Ma5, .int u.2])), (Ma0, .inl ((kI K), 64, .inl M_board)), (Ma1, .inl ((kI K), 100, .inl M_text)), (Ma2, .inl ((kI K), 330, .inl M_moves)), (Ma3, .inl ((kI K), 330, .inl M_signs)), (Ma4, .inl ((kI K), 64, .inl M_newBoard)), (Ma5, .inl ((kI K), 16, .inl u.1))] t.heap ∧ va_D (va_A [(Mh, .inr (6, [.int M_thrown, .ref Ma0, .int M_side, .int M_rights, .int M_passant, .int M_clock, .int M_number, .ref Ma1, .int M_size, .int M_told, .ref Ma2, .ref Ma3, .int M_at, .ref Ma4, .int M_newSide, .int M_newRights, .int M_newPassant, .int M_newClock, .int M_newNumber, .ref Ma5, .int M_outs])), (Ma0, .inl ((kI K), 64, .inl M_board)), (Ma1, .inl ((kI K), 100, .inl M_text)), (Ma2, .inl ((kI K), 330, .inl M_moves)), (Ma3, .inl ((kI K), 330, .inl M_signs)), (Ma4, .inl ((kI K), 64, .inl M_newBoard)), (Ma5, .inl ((kI K), 16, .inl M_out))] sz) [(Mh, .inr (6, [.int M_thrown, .ref Ma0, .int M_side, .int M_rights, .int M_passant, .int M_clock, .int M_number, .ref Ma1, .int M_size, .int M_told, .ref Ma2, .ref Ma3, .int M_at, .ref Ma4, .int M_newSide, .int M_newRights, .int M_newPassant, .int M_newClock, .int M_newNumber, .ref Ma5, .int u.2])), (Ma0, .inl ((kI K), 64, .inl M_board)), (Ma1, .inl ((kI K), 100, .inl M_text)), (Ma2, .inl ((kI K), 330, .inl M_moves)), (Ma3, .inl ((kI K), 330, .inl M_signs)), (Ma4, .inl ((kI K), 64, .inl M_newBoard)), (Ma5, .inl ((kI K), 16, .inl u.1))]) (va_A [(Mh, .inr (6, [.int M_thrown, .ref Ma0, .int M_side, .int M_rights, .int M_passant, .int M_clock, .int M_number, .ref Ma1, .int M_size, .int M_told, .ref Ma2, .ref Ma3, .int M_at, .ref Ma4, .int M_newSide, .int M_newRights, .int M_newPassant, .int M_newClock, .int M_newNumber, .ref Ma5, .int M_outs])), (Ma0, .inl ((kI K), 64, .inl M_board)), (Ma1, .inl ((kI K), 100, .inl M_text)), (Ma2, .inl ((kI K), 330, .inl M_moves)), (Ma3, .inl ((kI K), 330, .inl M_signs)), (Ma4, .inl ((kI K), 64, .inl M_newBoard)), (Ma5, .inl ((kI K), 16, .inl M_out))] sz)) 0 0 (va_A [(Mh, .inr (6, [.int M_thrown, .ref Ma0, .int M_side, .int M_rights, .int M_passant, .int M_clock, .int M_number, .ref Ma1, .int M_size, .int M_told, .ref Ma2, .ref Ma3, .int M_at, .ref Ma4, .int M_newSide, .int M_newRights, .int M_newPassant, .int M_newClock, .int M_newNumber, .ref Ma5, .int M_outs])), (Ma0, .inl ((kI K), 64, .inl M_board)), (Ma1, .inl ((kI K), 100, .inl M_text)), (Ma2, .inl ((kI K), 330, .inl M_moves)), (Ma3, .inl ((kI K), 330, .inl M_signs)), (Ma4, .inl ((kI K), 64, .inl M_newBoard)), (Ma5, .inl ((kI K), 16, .inl M_out))] sz) := by
  refine Met.ofW (cc := b_md_say) (maxL := 2) (ret := none) (by decide) rfl ?_
  intro p e s m args below meth c s₁ B hml hv
  obtain ⟨rfl, ⟨hsz, hP, hK, hD0, hG⟩, h_o, h_o1, -⟩ := hv
  have hx := B.exec
  have hb := B.bytes
  have hr := B.returns
  have hts := atoms_spec (ws := w_md_say) B.pre
  have hown : s.vm.findClass R_md = some m.cls := findClass_of_methodNamed B.named
  have hlocks := B.notSynchronized
  have htg := fun w h => hts w (List.mem_cons_of_mem _ h)
  subst hsz
  have hD := hD0.self (sz := s.heap.size)
  generalize hAe : va_A [(Mh, .inr (6, [.int M_thrown, .ref Ma0, .int M_side, .int M_rights, .int M_passant, .int M_clock, .int M_number, .ref Ma1, .int M_size, .int M_told, .ref Ma2, .ref Ma3, .int M_at, .ref Ma4, .int M_newSide, .int M_newRights, .int M_newPassant, .int M_newClock, .int M_newNumber, .ref Ma5, .int M_outs])), (Ma0, .inl ((kI K), 64, .inl M_board)), (Ma1, .inl ((kI K), 100, .inl M_text)), (Ma2, .inl ((kI K), 330, .inl M_moves)), (Ma3, .inl ((kI K), 330, .inl M_signs)), (Ma4, .inl ((kI K), 64, .inl M_newBoard)), (Ma5, .inl ((kI K), 16, .inl M_out))] s.heap.size = A at hD hG ⊢
  have hA : ∀ q : Nat, s.heap.size ≤ q → A q := fun q h => by rw [← hAe]; exact Or.inr h
  have hS : va_S A s.heap s.heap [] := va_S.rf
  have hl := lv_entry ([.ref Mh, .int ch]) (n := 2) (Nat.le_of_ble_eq_true rfl)
  rw [lg_entry_eq]
  generalize (lg_sl ([.ref Mh, .int ch]) ++ List.replicate (2 - (lg_sl ([.ref Mh, .int ch])).length) Slot.unset).toArray = ls at hl ⊢
  have hl : lv_has ls 2 [(0, .ref Mh), (1, .int ch)] := hl
  have z0 : (0 : Int32).toInt = 0 := by decide
  have z1 : (1 : Int32).toInt = 1 := by decide
  have zm1 : (-1 : Int32).toInt = -1 := by decide
  have z2 : (2 : Int32).toInt = 2 := by decide
  have z3 : (3 : Int32).toInt = 3 := by decide
  have z7 : (7 : Int32).toInt = 7 := by decide
  have z8 : (8 : Int32).toInt = 8 := by decide
  have z16 : (16 : Int32).toInt = 16 := by decide
  have z64 : (64 : Int32).toInt = 64 := by decide
  have z100 : (100 : Int32).toInt = 100 := by decide
  have z330 : (330 : Int32).toInt = 330 := by decide
  have hF := f_md_say.eq_1 M_out M_outs ch
  refine lv_aload_n hx hb d_md_say_0 rfl (lv_at hl 0 rfl) ?_
  refine va_get (D := kD K) (ci := 6) (v := .ref Ma5) (C := R_md) (T := T_md) (N := 21) hx hb htg in_md hown hK hP 0 rfl rfl 19 (by decide) (htg (.fieldLink R_md 32 "GameNotationModel" "out" "[I") q_813) (fun _ h9 => h9) rfl d_md_say_1 ?_
  refine lv_aload_n hx hb d_md_say_4 rfl (lv_at hl 0 rfl) ?_
  refine va_get (D := kD K) (ci := 6) (v := .int M_outs) (C := R_md) (T := T_md) (N := 21) hx hb htg in_md hown hK hP 0 rfl rfl 20 (by decide) (htg (.fieldLink R_md 158 "GameNotationModel" "outs" "I") q_814) (fun _ h9 => h9) rfl d_md_say_5 ?_
  refine lv_iload_n hx hb d_md_say_8 rfl (lv_at hl 1 rfl) ?_
  have h_1 : vp_in M_outs 16 := ou_in h_o h_o1
  refine va_iast hx hb hK hP hD hS 6 0 rfl rfl h_1 d_md_say_9 (fun H locs hP hD hS => ?_)
  have hP : va_P (kD K) vwCl [(Mh, .inr (6, [.int M_thrown, .ref Ma0, .int M_side, .int M_rights, .int M_passant, .int M_clock, .int M_number, .ref Ma1, .int M_size, .int M_told, .ref Ma2, .ref Ma3, .int M_at, .ref Ma4, .int M_newSide, .int M_newRights, .int M_newPassant, .int M_newClock, .int M_newNumber, .ref Ma5, .int M_outs])), (Ma0, .inl ((kI K), 64, .inl M_board)), (Ma1, .inl ((kI K), 100, .inl M_text)), (Ma2, .inl ((kI K), 330, .inl M_moves)), (Ma3, .inl ((kI K), 330, .inl M_signs)), (Ma4, .inl ((kI K), 64, .inl M_newBoard)), (Ma5, .inl ((kI K), 16, .inl (upd M_out M_outs.toNatClampNeg ch)))] _ := hP
  have hD : va_D A [(Mh, .inr (6, [.int M_thrown, .ref Ma0, .int M_side, .int M_rights, .int M_passant, .int M_clock, .int M_number, .ref Ma1, .int M_size, .int M_told, .ref Ma2, .ref Ma3, .int M_at, .ref Ma4, .int M_newSide, .int M_newRights, .int M_newPassant, .int M_newClock, .int M_newNumber, .ref Ma5, .int M_outs])), (Ma0, .inl ((kI K), 64, .inl M_board)), (Ma1, .inl ((kI K), 100, .inl M_text)), (Ma2, .inl ((kI K), 330, .inl M_moves)), (Ma3, .inl ((kI K), 330, .inl M_signs)), (Ma4, .inl ((kI K), 64, .inl M_newBoard)), (Ma5, .inl ((kI K), 16, .inl (upd M_out M_outs.toNatClampNeg ch)))] := hD
  refine lv_aload_n hx hb d_md_say_10 rfl (lv_at hl 0 rfl) ?_
  refine lv_dup hx hb d_md_say_11 rfl ?_
  refine va_get (D := kD K) (ci := 6) (v := .int M_outs) (C := R_md) (T := T_md) (N := 21) hx hb htg in_md hown hK hP 0 rfl rfl 20 (by decide) (htg (.fieldLink R_md 158 "GameNotationModel" "outs" "I") q_814) (fun _ h9 => h9) rfl d_md_say_12 ?_
  refine lv_iconst (v := 1) hx hb d_md_say_15 (by decide) ?_
  refine lv_iadd hx hb d_md_say_16 ?_
  refine va_put (D := kD K) (ci := 6) (v := .int (M_outs + (1 : Int32))) (ty := .int) (C := R_md) (T := T_md) (N := 21) hx hb htg in_md ty_md ty_md_ok nm_md hown hK hP hD hS 0 rfl rfl 20 (by decide) (htg (.fieldLink R_md 158 "GameNotationModel" "outs" "I") q_814) (fun _ h9 => h9) rfl (by decide +kernel) rfl rfl (Nat.le_of_ble_eq_true rfl) d_md_say_17 (fun H locs hP hD hS => ?_)
  have hP : va_P (kD K) vwCl [(Mh, .inr (6, [.int M_thrown, .ref Ma0, .int M_side, .int M_rights, .int M_passant, .int M_clock, .int M_number, .ref Ma1, .int M_size, .int M_told, .ref Ma2, .ref Ma3, .int M_at, .ref Ma4, .int M_newSide, .int M_newRights, .int M_newPassant, .int M_newClock, .int M_newNumber, .ref Ma5, .int (M_outs + (1 : Int32))])), (Ma0, .inl ((kI K), 64, .inl M_board)), (Ma1, .inl ((kI K), 100, .inl M_text)), (Ma2, .inl ((kI K), 330, .inl M_moves)), (Ma3, .inl ((kI K), 330, .inl M_signs)), (Ma4, .inl ((kI K), 64, .inl M_newBoard)), (Ma5, .inl ((kI K), 16, .inl (upd M_out M_outs.toNatClampNeg ch)))] _ := hP
  have hD : va_D A [(Mh, .inr (6, [.int M_thrown, .ref Ma0, .int M_side, .int M_rights, .int M_passant, .int M_clock, .int M_number, .ref Ma1, .int M_size, .int M_told, .ref Ma2, .ref Ma3, .int M_at, .ref Ma4, .int M_newSide, .int M_newRights, .int M_newPassant, .int M_newClock, .int M_newNumber, .ref Ma5, .int (M_outs + (1 : Int32))])), (Ma0, .inl ((kI K), 64, .inl M_board)), (Ma1, .inl ((kI K), 100, .inl M_text)), (Ma2, .inl ((kI K), 330, .inl M_moves)), (Ma3, .inl ((kI K), 330, .inl M_signs)), (Ma4, .inl ((kI K), 64, .inl M_newBoard)), (Ma5, .inl ((kI K), 16, .inl (upd M_out M_outs.toNatClampNeg ch)))] := hD
  exact W.vret hx hb hr (fun t ht hW => ⟨⟨(upd M_out M_outs.toNatClampNeg ch, M_outs + (1 : Int32)), rfl, ⟨hF, (show (M_outs + (1 : Int32)).toInt = M_outs.toInt + 1 from ad1 (by omega)), trivial⟩, ⟨by rw [ht]; exact hP, hD⟩⟩, hS.F ht⟩) hS.2.2 d_md_say_20
def f_md_castles (M_board : (Nat → Int32)) (mv : Int32) : Int32 := (bnd (f_md_fromOf mv) (fun r_1 => (bnd (f_md_toOf mv) (fun r_3 => (bnd (f_md_fromOf mv) (fun r_4 => (if (M_board r_1.toNatClampNeg) = (6 : Int32) then (if ((r_3 - r_3 / (8 : Int32) * (8 : Int32)) - (r_4 - r_4 / (8 : Int32) * (8 : Int32))) ≤ (1 : Int32) then (if (-1 : Int32) ≤ ((r_3 - r_3 / (8 : Int32) * (8 : Int32)) - (r_4 - r_4 / (8 : Int32) * (8 : Int32))) then (0 : Int32) else (2 : Int32)) else (1 : Int32)) else (if (M_board r_1.toNatClampNeg) = (12 : Int32) then (if ((r_3 - r_3 / (8 : Int32) * (8 : Int32)) - (r_4 - r_4 / (8 : Int32) * (8 : Int32))) ≤ (1 : Int32) then (if (-1 : Int32) ≤ ((r_3 - r_3 / (8 : Int32) * (8 : Int32)) - (r_4 - r_4 / (8 : Int32) * (8 : Int32))) then (0 : Int32) else (2 : Int32)) else (1 : Int32)) else (0 : Int32)))))))))
set_option maxHeartbeats 4000000 in
set_option maxRecDepth 100000 in
theorem c_md_castles (l : Launch) (K : KT) (Mh Ma0 Ma1 Ma2 Ma3 Ma4 Ma5 : Nat) (M_board : (Nat → Int32)) (M_text : (Nat → Int32)) (M_moves : (Nat → Int32)) (M_signs : (Nat → Int32)) (M_newBoard : (Nat → Int32)) (M_out : (Nat → Int32)) (M_thrown : Int32) (M_side : Int32) (M_rights : Int32) (M_passant : Int32) (M_clock : Int32) (M_number : Int32) (M_size : Int32) (M_told : Int32) (M_at : Int32) (M_newSide : Int32) (M_newRights : Int32) (M_newPassant : Int32) (M_newClock : Int32) (M_newNumber : Int32) (M_outs : Int32) (mv : Int32) : Met l y_md_castles w_md_castles ({ frames := 1, cells := 0, slots := 0, locals := 20 } : Room) (va_Pc [.ref Mh, .int mv] (fun U => pRO K [(Mh, .inr (6, [.int M_thrown, .ref Ma0, .int M_side, .int M_rights, .int M_passant, .int M_clock, .int M_number, .ref Ma1, .int M_size, .int M_told, .ref Ma2, .ref Ma3, .int M_at, .ref Ma4, .int M_newSide, .int M_newRights, .int M_newPassant, .int M_newClock, .int M_newNumber, .ref Ma5, .int M_outs])), (Ma0, .inl ((kI K), 64, .inl M_board)), (Ma1, .inl ((kI K), 100, .inl M_text)), (Ma2, .inl ((kI K), 330, .inl M_moves)), (Ma3, .inl ((kI K), 330, .inl M_signs)), (Ma4, .inl ((kI K), 64, .inl M_newBoard)), (Ma5, .inl ((kI K), 16, .inl M_out))] U ∧ True)) (vp_Si (fun r => f_md_castles M_board mv = r ∧ True)) 0 0 (fun _ => False) := by
  refine Met.ofW (cc := b_md_castles) (maxL := 4) (ret := (some .int)) (by decide) rfl ?_
  intro p e s m args below meth c s₁ B hml hv
  obtain ⟨rfl, ⟨hP, hK, hG⟩, -⟩ := hv
  have hx := B.exec
  have hb := B.bytes
  have hr := B.returns
  have hts := atoms_spec (ws := w_md_castles) B.pre
  have hown : s.vm.findClass R_md = some m.cls := findClass_of_methodNamed B.named
  have hlocks := B.notSynchronized
  have htg := fun w h => hts w (List.mem_cons_of_mem _ h)
  have hS : va_S (fun _ => False) s.heap s.heap [] := va_S.rf
  have hl := lv_entry ([.ref Mh, .int mv]) (n := 4) (Nat.le_of_ble_eq_true rfl)
  rw [lg_entry_eq]
  generalize (lg_sl ([.ref Mh, .int mv]) ++ List.replicate (4 - (lg_sl ([.ref Mh, .int mv])).length) Slot.unset).toArray = ls at hl ⊢
  have hl : lv_has ls 4 [(0, .ref Mh), (1, .int mv)] := hl
  have z0 : (0 : Int32).toInt = 0 := by decide
  have z1 : (1 : Int32).toInt = 1 := by decide
  have zm1 : (-1 : Int32).toInt = -1 := by decide
  have z2 : (2 : Int32).toInt = 2 := by decide
  have z3 : (3 : Int32).toInt = 3 := by decide
  have z7 : (7 : Int32).toInt = 7 := by decide
  have z8 : (8 : Int32).toInt = 8 := by decide
  have z16 : (16 : Int32).toInt = 16 := by decide
  have z64 : (64 : Int32).toInt = 64 := by decide
  have z100 : (100 : Int32).toInt = 100 := by decide
  have z330 : (330 : Int32).toInt = 330 := by decide
  have hF := f_md_castles.eq_1 M_board mv
  refine lv_aload_n hx hb d_md_castles_0 rfl (lv_at hl 0 rfl) ?_
  refine va_get (D := kD K) (ci := 6) (v := .ref Ma0) (C := R_md) (T := T_md) (N := 21) hx hb htg in_md hown hK hP 0 rfl rfl 1 (by decide) (htg (.fieldLink R_md 7 "GameNotationModel" "board" "[I") q_795) (fun _ h9 => h9) rfl d_md_castles_1 ?_
  refine lv_iload_n hx hb d_md_castles_4 rfl (lv_at hl 1 rfl) ?_
  have hPc : va_P (kD K) vwCl [] _ := hP.sub [] rfl
  refine vp_callSi (va_Run.run (va_runS (As := [.int mv]) (rest := [.ref Ma0]) ⟨hx, hb, hml, hown, htg⟩ (c_md_fromOf l K mv) (va_cwS 1 htg (g_S q_985 q_986 q_7 (g_w q_987)) rfl rfl rfl k_md_fromOf ⟨Nat.le_of_ble_eq_true rfl, Nat.le_of_ble_eq_true rfl⟩) ⟨ro_blind, ro_use hPc hK hG hS trivial⟩ rfl rfl hl.1 rfl (lv_room (Nat.le_of_ble_eq_true rfl)) d_md_castles_5 ⟨Nat.zero_le _, Nat.zero_le _⟩)) (fun r_1 hw_1 => ?_)
  have hF := hF.trans (bnd_s hw_1.1)
  have h_2 : vp_in r_1 64 := fr_in hw_1
  refine va_iald hx hb hK hP 1 0 rfl rfl h_2 d_md_castles_8 ?_
  refine lv_istore_n (lv' := [(2, .int (M_board r_1.toNatClampNeg)), (0, .ref Mh), (1, .int mv)]) hx hb d_md_castles_9 rfl hl (by decide) rfl (fun ls hl => ?_)
  refine lv_iload_n hx hb d_md_castles_10 rfl (lv_at hl 2 rfl) ?_
  have hPc : va_P (kD K) vwCl [] _ := hP.sub [] rfl
  refine vp_callSi (va_Run.run (va_runS (As := [.int mv]) (rest := []) ⟨hx, hb, hml, hown, htg⟩ (c_md_toOf l K mv) (va_cwS 1 htg (g_S q_988 q_989 q_7 (g_w q_990)) rfl rfl rfl k_md_toOf ⟨Nat.le_of_ble_eq_true rfl, Nat.le_of_ble_eq_true rfl⟩) ⟨ro_blind, ro_use hPc hK hG hS trivial⟩ rfl rfl hl.1 rfl (lv_room (Nat.le_of_ble_eq_true rfl)) d_md_castles_11 ⟨Nat.zero_le _, Nat.zero_le _⟩)) (fun r_3 hw_3 => ?_)
  have hF := hF.trans (bnd_s hw_3.1)
  refine lv_bipush (v := 8) hx hb d_md_castles_14 (by decide) ?_
  refine lv_irem hx hb d_md_castles_16 (by decide) ?_
  refine lv_iload_n hx hb d_md_castles_17 rfl (lv_at hl 2 rfl) ?_
  have hPc : va_P (kD K) vwCl [] _ := hP.sub [] rfl
  refine vp_callSi (va_Run.run (va_runS (As := [.int mv]) (rest := [.int (r_3 - r_3 / (8 : Int32) * (8 : Int32))]) ⟨hx, hb, hml, hown, htg⟩ (c_md_fromOf l K mv) (va_cwS 1 htg (g_S q_985 q_986 q_7 (g_w q_987)) rfl rfl rfl k_md_fromOf ⟨Nat.le_of_ble_eq_true rfl, Nat.le_of_ble_eq_true rfl⟩) ⟨ro_blind, ro_use hPc hK hG hS trivial⟩ rfl rfl hl.1 rfl (lv_room (Nat.le_of_ble_eq_true rfl)) d_md_castles_18 ⟨Nat.zero_le _, Nat.zero_le _⟩)) (fun r_4 hw_4 => ?_)
  have hF := hF.trans (bnd_s hw_4.1)
  refine lv_bipush (v := 8) hx hb d_md_castles_21 (by decide) ?_
  refine lv_irem hx hb d_md_castles_23 (by decide) ?_
  refine lv_isub hx hb d_md_castles_24 ?_
  refine lv_istore_n (lv' := [(3, .int ((r_3 - r_3 / (8 : Int32) * (8 : Int32)) - (r_4 - r_4 / (8 : Int32) * (8 : Int32)))), (2, .int (M_board r_1.toNatClampNeg)), (0, .ref Mh), (1, .int mv)]) hx hb d_md_castles_25 rfl hl (by decide) rfl (fun ls hl => ?_)
  refine lv_iload_n hx hb d_md_castles_26 rfl (lv_at hl 1 rfl) ?_
  refine lv_bipush (v := 6) hx hb d_md_castles_27 (by decide) ?_
  refine lv_icmp_eq (tgt := 42) hx hb d_md_castles_29 (by decide) (fun c_5 => ?_) (fun c_5 => ?_)
  · have hF := hF.trans (if_pos c_5)
    refine lv_iload_n hx hb d_md_castles_42 rfl (lv_at hl 0 rfl) ?_
    refine lv_iconst (v := 1) hx hb d_md_castles_43 (by decide) ?_
    refine lv_icmp_le (tgt := 51) hx hb d_md_castles_44 (by decide) (fun c_6 => ?_) (fun c_6 => ?_)
    · have hF := hF.trans (if_pos c_6)
      refine lv_iload_n hx hb d_md_castles_51 rfl (lv_at hl 0 rfl) ?_
      refine lv_iconst (v := -1) hx hb d_md_castles_52 (by decide) ?_
      refine lv_icmp_ge (tgt := 60) hx hb d_md_castles_53 (by decide) (fun c_7 => ?_) (fun c_7 => ?_)
      · have hF := hF.trans (if_pos c_7)
        refine lv_iconst (v := 0) hx hb d_md_castles_60 (by decide) ?_
        exact W.iret (v := (0 : Int32)) hx hb hr (fun t ht hW => ⟨_, rfl, ⟨hF, trivial⟩, ht⟩) hS.2.2 d_md_castles_61
      · have hF := hF.trans (if_neg c_7)
        refine lv_iconst (v := 2) hx hb d_md_castles_56 (by decide) ?_
        refine lv_goto (tgt := 61) hx hb d_md_castles_57 (by decide) ?_
        exact W.iret (v := (2 : Int32)) hx hb hr (fun t ht hW => ⟨_, rfl, ⟨hF, trivial⟩, ht⟩) hS.2.2 d_md_castles_61
    · have hF := hF.trans (if_neg c_6)
      refine lv_iconst (v := 1) hx hb d_md_castles_47 (by decide) ?_
      refine lv_goto (tgt := 61) hx hb d_md_castles_48 (by decide) ?_
      exact W.iret (v := (1 : Int32)) hx hb hr (fun t ht hW => ⟨_, rfl, ⟨hF, trivial⟩, ht⟩) hS.2.2 d_md_castles_61
  · have hF := hF.trans (if_neg c_5)
    refine lv_iload_n hx hb d_md_castles_32 rfl (lv_at hl 1 rfl) ?_
    refine lv_bipush (v := 12) hx hb d_md_castles_33 (by decide) ?_
    refine lv_icmp_eq (tgt := 42) hx hb d_md_castles_35 (by decide) (fun c_8 => ?_) (fun c_8 => ?_)
    · have hF := hF.trans (if_pos c_8)
      refine lv_iload_n hx hb d_md_castles_42 rfl (lv_at hl 0 rfl) ?_
      refine lv_iconst (v := 1) hx hb d_md_castles_43 (by decide) ?_
      refine lv_icmp_le (tgt := 51) hx hb d_md_castles_44 (by decide) (fun c_9 => ?_) (fun c_9 => ?_)
      · have hF := hF.trans (if_pos c_9)
        refine lv_iload_n hx hb d_md_castles_51 rfl (lv_at hl 0 rfl) ?_
        refine lv_iconst (v := -1) hx hb d_md_castles_52 (by decide) ?_
        refine lv_icmp_ge (tgt := 60) hx hb d_md_castles_53 (by decide) (fun c_10 => ?_) (fun c_10 => ?_)
        · have hF := hF.trans (if_pos c_10)
          refine lv_iconst (v := 0) hx hb d_md_castles_60 (by decide) ?_
          exact W.iret (v := (0 : Int32)) hx hb hr (fun t ht hW => ⟨_, rfl, ⟨hF, trivial⟩, ht⟩) hS.2.2 d_md_castles_61
        · have hF := hF.trans (if_neg c_10)
          refine lv_iconst (v := 2) hx hb d_md_castles_56 (by decide) ?_
          refine lv_goto (tgt := 61) hx hb d_md_castles_57 (by decide) ?_
          exact W.iret (v := (2 : Int32)) hx hb hr (fun t ht hW => ⟨_, rfl, ⟨hF, trivial⟩, ht⟩) hS.2.2 d_md_castles_61
      · have hF := hF.trans (if_neg c_9)
        refine lv_iconst (v := 1) hx hb d_md_castles_47 (by decide) ?_
        refine lv_goto (tgt := 61) hx hb d_md_castles_48 (by decide) ?_
        exact W.iret (v := (1 : Int32)) hx hb hr (fun t ht hW => ⟨_, rfl, ⟨hF, trivial⟩, ht⟩) hS.2.2 d_md_castles_61
    · have hF := hF.trans (if_neg c_8)
      refine lv_iconst (v := 0) hx hb d_md_castles_38 (by decide) ?_
      refine lv_goto (tgt := 61) hx hb d_md_castles_39 (by decide) ?_
      exact W.iret (v := (0 : Int32)) hx hb hr (fun t ht hW => ⟨_, rfl, ⟨hF, trivial⟩, ht⟩) hS.2.2 d_md_castles_61
def f_md_sayCastling (M_out : (Nat → Int32)) (M_outs : Int32) (wh : Int32) : (Nat → Int32) × Int32 := (bnd (f_md_say M_out M_outs (48 : Int32)) (fun u_1 => (bnd (f_md_say u_1.1 u_1.2 (45 : Int32)) (fun u_2 => (bnd (f_md_say u_2.1 u_2.2 (48 : Int32)) (fun u_3 => (if wh = (2 : Int32) then (bnd (f_md_say u_3.1 u_3.2 (45 : Int32)) (fun u_5 => (bnd (f_md_say u_5.1 u_5.2 (48 : Int32)) (fun u_6 => (u_6.1, u_6.2))))) else (u_3.1, u_3.2))))))))
set_option maxHeartbeats 4000000 in
set_option maxRecDepth 100000 in
theorem c_md_sayCastling (l : Launch) (K : KT) (sz : Nat) (Mh Ma0 Ma1 Ma2 Ma3 Ma4 Ma5 : Nat) (M_board : (Nat → Int32)) (M_text : (Nat → Int32)) (M_moves : (Nat → Int32)) (M_signs : (Nat → Int32)) (M_newBoard : (Nat → Int32)) (M_out : (Nat → Int32)) (M_thrown : Int32) (M_side : Int32) (M_rights : Int32) (M_passant : Int32) (M_clock : Int32) (M_number : Int32) (M_size : Int32) (M_told : Int32) (M_at : Int32) (M_newSide : Int32) (M_newRights : Int32) (M_newPassant : Int32) (M_newClock : Int32) (M_newNumber : Int32) (M_outs : Int32) (wh : Int32) : Met l y_md_sayCastling w_md_sayCastling ({ frames := 1, cells := 0, slots := 0, locals := 21 } : Room) (va_Pc [.ref Mh, .int wh] (fun U => pMU K [(Mh, .inr (6, [.int M_thrown, .ref Ma0, .int M_side, .int M_rights, .int M_passant, .int M_clock, .int M_number, .ref Ma1, .int M_size, .int M_told, .ref Ma2, .ref Ma3, .int M_at, .ref Ma4, .int M_newSide, .int M_newRights, .int M_newPassant, .int M_newClock, .int M_newNumber, .ref Ma5, .int M_outs])), (Ma0, .inl ((kI K), 64, .inl M_board)), (Ma1, .inl ((kI K), 100, .inl M_text)), (Ma2, .inl ((kI K), 330, .inl M_moves)), (Ma3, .inl ((kI K), 330, .inl M_signs)), (Ma4, .inl ((kI K), 64, .inl M_newBoard)), (Ma5, .inl ((kI K), 16, .inl M_out))] sz U ∧ 0 ≤ M_outs.toInt ∧ M_outs.toInt ≤ 11 ∧ True)) (va_Qv (fun u : (Nat → Int32) × Int32 => f_md_sayCastling M_out M_outs wh = u ∧ (u.2.toInt ≤ M_outs.toInt + 5) ∧ (0 ≤ u.2.toInt) ∧ True) (fun (u : (Nat → Int32) × Int32) (t : State) => va_P (kD K) vwCl [(Mh, .inr (6, [.int M_thrown, .ref Ma0, .int M_side, .int M_rights, .int M_passant, .int M_clock, .int M_number, .ref Ma1, .int M_size, .int M_told, .ref Ma2, .ref Ma3, .int M_at, .ref Ma4, .int M_newSide, .int M_newRights, .int M_newPassant, .int M_newClock, .int M_newNumber, .ref Ma5, .int u.2])), (Ma0, .inl ((kI K), 64, .inl M_board)), (Ma1, .inl ((kI K), 100, .inl M_text)), (Ma2, .inl ((kI K), 330, .inl M_moves)), (Ma3, .inl ((kI K), 330, .inl M_signs)), (Ma4, .inl ((kI K), 64, .inl M_newBoard)), (Ma5, .inl ((kI K), 16, .inl u.1))] t.heap ∧ va_D (va_A [(Mh, .inr (6, [.int M_thrown, .ref Ma0, .int M_side, .int M_rights, .int M_passant, .int M_clock, .int M_number, .ref Ma1, .int M_size, .int M_told, .ref Ma2, .ref Ma3, .int M_at, .ref Ma4, .int M_newSide, .int M_newRights, .int M_newPassant, .int M_newClock, .int M_newNumber, .ref Ma5, .int M_outs])), (Ma0, .inl ((kI K), 64, .inl M_board)), (Ma1, .inl ((kI K), 100, .inl M_text)), (Ma2, .inl ((kI K), 330, .inl M_moves)), (Ma3, .inl ((kI K), 330, .inl M_signs)), (Ma4, .inl ((kI K), 64, .inl M_newBoard)), (Ma5, .inl ((kI K), 16, .inl M_out))] sz) [(Mh, .inr (6, [.int M_thrown, .ref Ma0, .int M_side, .int M_rights, .int M_passant, .int M_clock, .int M_number, .ref Ma1, .int M_size, .int M_told, .ref Ma2, .ref Ma3, .int M_at, .ref Ma4, .int M_newSide, .int M_newRights, .int M_newPassant, .int M_newClock, .int M_newNumber, .ref Ma5, .int u.2])), (Ma0, .inl ((kI K), 64, .inl M_board)), (Ma1, .inl ((kI K), 100, .inl M_text)), (Ma2, .inl ((kI K), 330, .inl M_moves)), (Ma3, .inl ((kI K), 330, .inl M_signs)), (Ma4, .inl ((kI K), 64, .inl M_newBoard)), (Ma5, .inl ((kI K), 16, .inl u.1))]) (va_A [(Mh, .inr (6, [.int M_thrown, .ref Ma0, .int M_side, .int M_rights, .int M_passant, .int M_clock, .int M_number, .ref Ma1, .int M_size, .int M_told, .ref Ma2, .ref Ma3, .int M_at, .ref Ma4, .int M_newSide, .int M_newRights, .int M_newPassant, .int M_newClock, .int M_newNumber, .ref Ma5, .int M_outs])), (Ma0, .inl ((kI K), 64, .inl M_board)), (Ma1, .inl ((kI K), 100, .inl M_text)), (Ma2, .inl ((kI K), 330, .inl M_moves)), (Ma3, .inl ((kI K), 330, .inl M_signs)), (Ma4, .inl ((kI K), 64, .inl M_newBoard)), (Ma5, .inl ((kI K), 16, .inl M_out))] sz)) 0 0 (va_A [(Mh, .inr (6, [.int M_thrown, .ref Ma0, .int M_side, .int M_rights, .int M_passant, .int M_clock, .int M_number, .ref Ma1, .int M_size, .int M_told, .ref Ma2, .ref Ma3, .int M_at, .ref Ma4, .int M_newSide, .int M_newRights, .int M_newPassant, .int M_newClock, .int M_newNumber, .ref Ma5, .int M_outs])), (Ma0, .inl ((kI K), 64, .inl M_board)), (Ma1, .inl ((kI K), 100, .inl M_text)), (Ma2, .inl ((kI K), 330, .inl M_moves)), (Ma3, .inl ((kI K), 330, .inl M_signs)), (Ma4, .inl ((kI K), 64, .inl M_newBoard)), (Ma5, .inl ((kI K), 16, .inl M_out))] sz) := by
  refine Met.ofW (cc := b_md_sayCastling) (maxL := 2) (ret := none) (by decide) rfl ?_
  intro p e s m args below meth c s₁ B hml hv
  obtain ⟨rfl, ⟨hsz, hP, hK, hD0, hG⟩, h_o, h_o1, -⟩ := hv
  have hx := B.exec
  have hb := B.bytes
  have hr := B.returns
  have hts := atoms_spec (ws := w_md_sayCastling) B.pre
  have hown : s.vm.findClass R_md = some m.cls := findClass_of_methodNamed B.named
  have hlocks := B.notSynchronized
  have htg := fun w h => hts w (List.mem_cons_of_mem _ h)
  subst hsz
  have hD := hD0.self (sz := s.heap.size)
  generalize hAe : va_A [(Mh, .inr (6, [.int M_thrown, .ref Ma0, .int M_side, .int M_rights, .int M_passant, .int M_clock, .int M_number, .ref Ma1, .int M_size, .int M_told, .ref Ma2, .ref Ma3, .int M_at, .ref Ma4, .int M_newSide, .int M_newRights, .int M_newPassant, .int M_newClock, .int M_newNumber, .ref Ma5, .int M_outs])), (Ma0, .inl ((kI K), 64, .inl M_board)), (Ma1, .inl ((kI K), 100, .inl M_text)), (Ma2, .inl ((kI K), 330, .inl M_moves)), (Ma3, .inl ((kI K), 330, .inl M_signs)), (Ma4, .inl ((kI K), 64, .inl M_newBoard)), (Ma5, .inl ((kI K), 16, .inl M_out))] s.heap.size = A at hD hG ⊢
  have hA : ∀ q : Nat, s.heap.size ≤ q → A q := fun q h => by rw [← hAe]; exact Or.inr h
  have hS : va_S A s.heap s.heap [] := va_S.rf
  have hl := lv_entry ([.ref Mh, .int wh]) (n := 2) (Nat.le_of_ble_eq_true rfl)
  rw [lg_entry_eq]
  generalize (lg_sl ([.ref Mh, .int wh]) ++ List.replicate (2 - (lg_sl ([.ref Mh, .int wh])).length) Slot.unset).toArray = ls at hl ⊢
  have hl : lv_has ls 2 [(0, .ref Mh), (1, .int wh)] := hl
  have z0 : (0 : Int32).toInt = 0 := by decide
  have z1 : (1 : Int32).toInt = 1 := by decide
  have zm1 : (-1 : Int32).toInt = -1 := by decide
  have z2 : (2 : Int32).toInt = 2 := by decide
  have z3 : (3 : Int32).toInt = 3 := by decide
  have z7 : (7 : Int32).toInt = 7 := by decide
  have z8 : (8 : Int32).toInt = 8 := by decide
  have z16 : (16 : Int32).toInt = 16 := by decide
  have z64 : (64 : Int32).toInt = 64 := by decide
  have z100 : (100 : Int32).toInt = 100 := by decide
  have z330 : (330 : Int32).toInt = 330 := by decide
  have hF := f_md_sayCastling.eq_1 M_out M_outs wh
  refine lv_aload_n hx hb d_md_sayCastling_0 rfl (lv_at hl 0 rfl) ?_
  refine lv_bipush (v := 48) hx hb d_md_sayCastling_1 (by decide) ?_
  have hPc : va_P (kD K) vwCl [(Mh, .inr (6, [.int M_thrown, .ref Ma0, .int M_side, .int M_rights, .int M_passant, .int M_clock, .int M_number, .ref Ma1, .int M_size, .int M_told, .ref Ma2, .ref Ma3, .int M_at, .ref Ma4, .int M_newSide, .int M_newRights, .int M_newPassant, .int M_newClock, .int M_newNumber, .ref Ma5, .int M_outs])), (Ma0, .inl ((kI K), 64, .inl M_board)), (Ma1, .inl ((kI K), 100, .inl M_text)), (Ma2, .inl ((kI K), 330, .inl M_moves)), (Ma3, .inl ((kI K), 330, .inl M_signs)), (Ma4, .inl ((kI K), 64, .inl M_newBoard)), (Ma5, .inl ((kI K), 16, .inl M_out))] _ := hP.sub [0, 1, 2, 3, 4, 5, 6] rfl
  have hDc : va_D A [(Mh, .inr (6, [.int M_thrown, .ref Ma0, .int M_side, .int M_rights, .int M_passant, .int M_clock, .int M_number, .ref Ma1, .int M_size, .int M_told, .ref Ma2, .ref Ma3, .int M_at, .ref Ma4, .int M_newSide, .int M_newRights, .int M_newPassant, .int M_newClock, .int M_newNumber, .ref Ma5, .int M_outs])), (Ma0, .inl ((kI K), 64, .inl M_board)), (Ma1, .inl ((kI K), 100, .inl M_text)), (Ma2, .inl ((kI K), 330, .inl M_moves)), (Ma3, .inl ((kI K), 330, .inl M_signs)), (Ma4, .inl ((kI K), 64, .inl M_newBoard)), (Ma5, .inl ((kI K), 16, .inl M_out))] := hD.sub [0, 1, 2, 3, 4, 5, 6] (by decide) rfl
  have hFc := va_free (wc := [(Mh, .inr (6, [.int M_thrown, .ref Ma0, .int M_side, .int M_rights, .int M_passant, .int M_clock, .int M_number, .ref Ma1, .int M_size, .int M_told, .ref Ma2, .ref Ma3, .int M_at, .ref Ma4, .int M_newSide, .int M_newRights, .int M_newPassant, .int M_newClock, .int M_newNumber, .ref Ma5, .int M_outs])), (Ma0, .inl ((kI K), 64, .inl M_board)), (Ma1, .inl ((kI K), 100, .inl M_text)), (Ma2, .inl ((kI K), 330, .inl M_moves)), (Ma3, .inl ((kI K), 330, .inl M_signs)), (Ma4, .inl ((kI K), 64, .inl M_newBoard)), (Ma5, .inl ((kI K), 16, .inl M_out))]) hD hS hA [0, 1, 2, 3, 4, 5, 6] rfl
  refine va_callv (va_runV (As := [.int (48 : Int32)]) (rest := []) ⟨hx, hb, hml, hown, htg⟩ (c_md_say l K _ Mh Ma0 Ma1 Ma2 Ma3 Ma4 Ma5 M_board M_text M_moves M_signs M_newBoard M_out M_thrown M_side M_rights M_passant M_clock M_number M_size M_told M_at M_newSide M_newRights M_newPassant M_newClock M_newNumber M_outs (48 : Int32)) (cwV 1 htg (g_V q_1019 q_1021 qs_53 q_7 (g_w q_1022)) rfl rfl rfl ⟨rfl, k_md_say⟩ ⟨Nat.le_of_ble_eq_true rfl, Nat.le_of_ble_eq_true rfl⟩) ⟨mu_blind, va_recv hK hPc (ci := 6) (q0 := 0) rfl rfl, mu_use hPc hK hDc hG hS hFc ⟨(by first | assumption | omega), (by first | assumption | omega), trivial⟩⟩ rfl rfl hl.1 rfl (lv_room (Nat.le_of_ble_eq_true rfl)) d_md_sayCastling_3 ⟨Nat.zero_le _, Nat.zero_le _⟩) hS (fun q _ h => hFc q h) hFc (fun u_1 t H1 locs ht hvm hw_1 hB hz1 hk1 hS => ?_)
  obtain ⟨hP1, hD1⟩ := hB
  rw [ht] at hP1
  obtain ⟨hP, hD⟩ := va_join (wr := []) (w1 := [(Mh, .inr (6, [.int M_thrown, .ref Ma0, .int M_side, .int M_rights, .int M_passant, .int M_clock, .int M_number, .ref Ma1, .int M_size, .int M_told, .ref Ma2, .ref Ma3, .int M_at, .ref Ma4, .int M_newSide, .int M_newRights, .int M_newPassant, .int M_newClock, .int M_newNumber, .ref Ma5, .int u_1.2])), (Ma0, .inl ((kI K), 64, .inl M_board)), (Ma1, .inl ((kI K), 100, .inl M_text)), (Ma2, .inl ((kI K), 330, .inl M_moves)), (Ma3, .inl ((kI K), 330, .inl M_signs)), (Ma4, .inl ((kI K), 64, .inl M_newBoard)), (Ma5, .inl ((kI K), 16, .inl u_1.1))]) hP hD [0, 1, 2, 3, 4, 5, 6] [] rfl rfl (by decide) (by decide) hk1 hFc hP1 hD1
  have hP : va_P (kD K) vwCl [(Mh, .inr (6, [.int M_thrown, .ref Ma0, .int M_side, .int M_rights, .int M_passant, .int M_clock, .int M_number, .ref Ma1, .int M_size, .int M_told, .ref Ma2, .ref Ma3, .int M_at, .ref Ma4, .int M_newSide, .int M_newRights, .int M_newPassant, .int M_newClock, .int M_newNumber, .ref Ma5, .int u_1.2])), (Ma0, .inl ((kI K), 64, .inl M_board)), (Ma1, .inl ((kI K), 100, .inl M_text)), (Ma2, .inl ((kI K), 330, .inl M_moves)), (Ma3, .inl ((kI K), 330, .inl M_signs)), (Ma4, .inl ((kI K), 64, .inl M_newBoard)), (Ma5, .inl ((kI K), 16, .inl u_1.1))] H1 := hP.sub [0, 1, 2, 3, 4, 5, 6] rfl
  have hD : va_D A [(Mh, .inr (6, [.int M_thrown, .ref Ma0, .int M_side, .int M_rights, .int M_passant, .int M_clock, .int M_number, .ref Ma1, .int M_size, .int M_told, .ref Ma2, .ref Ma3, .int M_at, .ref Ma4, .int M_newSide, .int M_newRights, .int M_newPassant, .int M_newClock, .int M_newNumber, .ref Ma5, .int u_1.2])), (Ma0, .inl ((kI K), 64, .inl M_board)), (Ma1, .inl ((kI K), 100, .inl M_text)), (Ma2, .inl ((kI K), 330, .inl M_moves)), (Ma3, .inl ((kI K), 330, .inl M_signs)), (Ma4, .inl ((kI K), 64, .inl M_newBoard)), (Ma5, .inl ((kI K), 16, .inl u_1.1))] := hD.sub [0, 1, 2, 3, 4, 5, 6] (by decide) rfl
  generalize H1 = H at hP hS ⊢
  have hF := hF.trans (bnd_s hw_1.1)
  have fp_1_0 : u_1.2.toInt = M_outs.toInt + 1 := hw_1.2.1
  refine lv_aload_n hx hb d_md_sayCastling_6 rfl (lv_at hl 0 rfl) ?_
  refine lv_bipush (v := 45) hx hb d_md_sayCastling_7 (by decide) ?_
  have hPc : va_P (kD K) vwCl [(Mh, .inr (6, [.int M_thrown, .ref Ma0, .int M_side, .int M_rights, .int M_passant, .int M_clock, .int M_number, .ref Ma1, .int M_size, .int M_told, .ref Ma2, .ref Ma3, .int M_at, .ref Ma4, .int M_newSide, .int M_newRights, .int M_newPassant, .int M_newClock, .int M_newNumber, .ref Ma5, .int u_1.2])), (Ma0, .inl ((kI K), 64, .inl M_board)), (Ma1, .inl ((kI K), 100, .inl M_text)), (Ma2, .inl ((kI K), 330, .inl M_moves)), (Ma3, .inl ((kI K), 330, .inl M_signs)), (Ma4, .inl ((kI K), 64, .inl M_newBoard)), (Ma5, .inl ((kI K), 16, .inl u_1.1))] _ := hP.sub [0, 1, 2, 3, 4, 5, 6] rfl
  have hDc : va_D A [(Mh, .inr (6, [.int M_thrown, .ref Ma0, .int M_side, .int M_rights, .int M_passant, .int M_clock, .int M_number, .ref Ma1, .int M_size, .int M_told, .ref Ma2, .ref Ma3, .int M_at, .ref Ma4, .int M_newSide, .int M_newRights, .int M_newPassant, .int M_newClock, .int M_newNumber, .ref Ma5, .int u_1.2])), (Ma0, .inl ((kI K), 64, .inl M_board)), (Ma1, .inl ((kI K), 100, .inl M_text)), (Ma2, .inl ((kI K), 330, .inl M_moves)), (Ma3, .inl ((kI K), 330, .inl M_signs)), (Ma4, .inl ((kI K), 64, .inl M_newBoard)), (Ma5, .inl ((kI K), 16, .inl u_1.1))] := hD.sub [0, 1, 2, 3, 4, 5, 6] (by decide) rfl
  have hFc := va_free (wc := [(Mh, .inr (6, [.int M_thrown, .ref Ma0, .int M_side, .int M_rights, .int M_passant, .int M_clock, .int M_number, .ref Ma1, .int M_size, .int M_told, .ref Ma2, .ref Ma3, .int M_at, .ref Ma4, .int M_newSide, .int M_newRights, .int M_newPassant, .int M_newClock, .int M_newNumber, .ref Ma5, .int u_1.2])), (Ma0, .inl ((kI K), 64, .inl M_board)), (Ma1, .inl ((kI K), 100, .inl M_text)), (Ma2, .inl ((kI K), 330, .inl M_moves)), (Ma3, .inl ((kI K), 330, .inl M_signs)), (Ma4, .inl ((kI K), 64, .inl M_newBoard)), (Ma5, .inl ((kI K), 16, .inl u_1.1))]) hD hS hA [0, 1, 2, 3, 4, 5, 6] rfl
  refine va_callv (va_runV (As := [.int (45 : Int32)]) (rest := []) ⟨hx, hb, hml, hown, htg⟩ (c_md_say l K _ Mh Ma0 Ma1 Ma2 Ma3 Ma4 Ma5 M_board M_text M_moves M_signs M_newBoard u_1.1 M_thrown M_side M_rights M_passant M_clock M_number M_size M_told M_at M_newSide M_newRights M_newPassant M_newClock M_newNumber u_1.2 (45 : Int32)) (cwV 1 htg (g_V q_1019 q_1021 qs_53 q_7 (g_w q_1022)) rfl rfl rfl ⟨rfl, k_md_say⟩ ⟨Nat.le_of_ble_eq_true rfl, Nat.le_of_ble_eq_true rfl⟩) ⟨mu_blind, va_recv hK hPc (ci := 6) (q0 := 0) rfl rfl, mu_use hPc hK hDc hG hS hFc ⟨(by first | assumption | omega), (by first | assumption | omega), trivial⟩⟩ rfl rfl hl.1 rfl (lv_room (Nat.le_of_ble_eq_true rfl)) d_md_sayCastling_9 ⟨Nat.zero_le _, Nat.zero_le _⟩) hS (fun q _ h => hFc q h) hFc (fun u_2 t H1 locs ht hvm hw_2 hB hz1 hk1 hS => ?_)
  obtain ⟨hP1, hD1⟩ := hB
  rw [ht] at hP1
  obtain ⟨hP, hD⟩ := va_join (wr := []) (w1 := [(Mh, .inr (6, [.int M_thrown, .ref Ma0, .int M_side, .int M_rights, .int M_passant, .int M_clock, .int M_number, .ref Ma1, .int M_size, .int M_told, .ref Ma2, .ref Ma3, .int M_at, .ref Ma4, .int M_newSide, .int M_newRights, .int M_newPassant, .int M_newClock, .int M_newNumber, .ref Ma5, .int u_2.2])), (Ma0, .inl ((kI K), 64, .inl M_board)), (Ma1, .inl ((kI K), 100, .inl M_text)), (Ma2, .inl ((kI K), 330, .inl M_moves)), (Ma3, .inl ((kI K), 330, .inl M_signs)), (Ma4, .inl ((kI K), 64, .inl M_newBoard)), (Ma5, .inl ((kI K), 16, .inl u_2.1))]) hP hD [0, 1, 2, 3, 4, 5, 6] [] rfl rfl (by decide) (by decide) hk1 hFc hP1 hD1
  have hP : va_P (kD K) vwCl [(Mh, .inr (6, [.int M_thrown, .ref Ma0, .int M_side, .int M_rights, .int M_passant, .int M_clock, .int M_number, .ref Ma1, .int M_size, .int M_told, .ref Ma2, .ref Ma3, .int M_at, .ref Ma4, .int M_newSide, .int M_newRights, .int M_newPassant, .int M_newClock, .int M_newNumber, .ref Ma5, .int u_2.2])), (Ma0, .inl ((kI K), 64, .inl M_board)), (Ma1, .inl ((kI K), 100, .inl M_text)), (Ma2, .inl ((kI K), 330, .inl M_moves)), (Ma3, .inl ((kI K), 330, .inl M_signs)), (Ma4, .inl ((kI K), 64, .inl M_newBoard)), (Ma5, .inl ((kI K), 16, .inl u_2.1))] H1 := hP.sub [0, 1, 2, 3, 4, 5, 6] rfl
  have hD : va_D A [(Mh, .inr (6, [.int M_thrown, .ref Ma0, .int M_side, .int M_rights, .int M_passant, .int M_clock, .int M_number, .ref Ma1, .int M_size, .int M_told, .ref Ma2, .ref Ma3, .int M_at, .ref Ma4, .int M_newSide, .int M_newRights, .int M_newPassant, .int M_newClock, .int M_newNumber, .ref Ma5, .int u_2.2])), (Ma0, .inl ((kI K), 64, .inl M_board)), (Ma1, .inl ((kI K), 100, .inl M_text)), (Ma2, .inl ((kI K), 330, .inl M_moves)), (Ma3, .inl ((kI K), 330, .inl M_signs)), (Ma4, .inl ((kI K), 64, .inl M_newBoard)), (Ma5, .inl ((kI K), 16, .inl u_2.1))] := hD.sub [0, 1, 2, 3, 4, 5, 6] (by decide) rfl
  generalize H1 = H at hP hS ⊢
  have hF := hF.trans (bnd_s hw_2.1)
  have fp_2_0 : u_2.2.toInt = u_1.2.toInt + 1 := hw_2.2.1
  refine lv_aload_n hx hb d_md_sayCastling_12 rfl (lv_at hl 0 rfl) ?_
  refine lv_bipush (v := 48) hx hb d_md_sayCastling_13 (by decide) ?_
  have hPc : va_P (kD K) vwCl [(Mh, .inr (6, [.int M_thrown, .ref Ma0, .int M_side, .int M_rights, .int M_passant, .int M_clock, .int M_number, .ref Ma1, .int M_size, .int M_told, .ref Ma2, .ref Ma3, .int M_at, .ref Ma4, .int M_newSide, .int M_newRights, .int M_newPassant, .int M_newClock, .int M_newNumber, .ref Ma5, .int u_2.2])), (Ma0, .inl ((kI K), 64, .inl M_board)), (Ma1, .inl ((kI K), 100, .inl M_text)), (Ma2, .inl ((kI K), 330, .inl M_moves)), (Ma3, .inl ((kI K), 330, .inl M_signs)), (Ma4, .inl ((kI K), 64, .inl M_newBoard)), (Ma5, .inl ((kI K), 16, .inl u_2.1))] _ := hP.sub [0, 1, 2, 3, 4, 5, 6] rfl
  have hDc : va_D A [(Mh, .inr (6, [.int M_thrown, .ref Ma0, .int M_side, .int M_rights, .int M_passant, .int M_clock, .int M_number, .ref Ma1, .int M_size, .int M_told, .ref Ma2, .ref Ma3, .int M_at, .ref Ma4, .int M_newSide, .int M_newRights, .int M_newPassant, .int M_newClock, .int M_newNumber, .ref Ma5, .int u_2.2])), (Ma0, .inl ((kI K), 64, .inl M_board)), (Ma1, .inl ((kI K), 100, .inl M_text)), (Ma2, .inl ((kI K), 330, .inl M_moves)), (Ma3, .inl ((kI K), 330, .inl M_signs)), (Ma4, .inl ((kI K), 64, .inl M_newBoard)), (Ma5, .inl ((kI K), 16, .inl u_2.1))] := hD.sub [0, 1, 2, 3, 4, 5, 6] (by decide) rfl
  have hFc := va_free (wc := [(Mh, .inr (6, [.int M_thrown, .ref Ma0, .int M_side, .int M_rights, .int M_passant, .int M_clock, .int M_number, .ref Ma1, .int M_size, .int M_told, .ref Ma2, .ref Ma3, .int M_at, .ref Ma4, .int M_newSide, .int M_newRights, .int M_newPassant, .int M_newClock, .int M_newNumber, .ref Ma5, .int u_2.2])), (Ma0, .inl ((kI K), 64, .inl M_board)), (Ma1, .inl ((kI K), 100, .inl M_text)), (Ma2, .inl ((kI K), 330, .inl M_moves)), (Ma3, .inl ((kI K), 330, .inl M_signs)), (Ma4, .inl ((kI K), 64, .inl M_newBoard)), (Ma5, .inl ((kI K), 16, .inl u_2.1))]) hD hS hA [0, 1, 2, 3, 4, 5, 6] rfl
  refine va_callv (va_runV (As := [.int (48 : Int32)]) (rest := []) ⟨hx, hb, hml, hown, htg⟩ (c_md_say l K _ Mh Ma0 Ma1 Ma2 Ma3 Ma4 Ma5 M_board M_text M_moves M_signs M_newBoard u_2.1 M_thrown M_side M_rights M_passant M_clock M_number M_size M_told M_at M_newSide M_newRights M_newPassant M_newClock M_newNumber u_2.2 (48 : Int32)) (cwV 1 htg (g_V q_1019 q_1021 qs_53 q_7 (g_w q_1022)) rfl rfl rfl ⟨rfl, k_md_say⟩ ⟨Nat.le_of_ble_eq_true rfl, Nat.le_of_ble_eq_true rfl⟩) ⟨mu_blind, va_recv hK hPc (ci := 6) (q0 := 0) rfl rfl, mu_use hPc hK hDc hG hS hFc ⟨(by first | assumption | omega), (by first | assumption | omega), trivial⟩⟩ rfl rfl hl.1 rfl (lv_room (Nat.le_of_ble_eq_true rfl)) d_md_sayCastling_15 ⟨Nat.zero_le _, Nat.zero_le _⟩) hS (fun q _ h => hFc q h) hFc (fun u_3 t H1 locs ht hvm hw_3 hB hz1 hk1 hS => ?_)
  obtain ⟨hP1, hD1⟩ := hB
  rw [ht] at hP1
  obtain ⟨hP, hD⟩ := va_join (wr := []) (w1 := [(Mh, .inr (6, [.int M_thrown, .ref Ma0, .int M_side, .int M_rights, .int M_passant, .int M_clock, .int M_number, .ref Ma1, .int M_size, .int M_told, .ref Ma2, .ref Ma3, .int M_at, .ref Ma4, .int M_newSide, .int M_newRights, .int M_newPassant, .int M_newClock, .int M_newNumber, .ref Ma5, .int u_3.2])), (Ma0, .inl ((kI K), 64, .inl M_board)), (Ma1, .inl ((kI K), 100, .inl M_text)), (Ma2, .inl ((kI K), 330, .inl M_moves)), (Ma3, .inl ((kI K), 330, .inl M_signs)), (Ma4, .inl ((kI K), 64, .inl M_newBoard)), (Ma5, .inl ((kI K), 16, .inl u_3.1))]) hP hD [0, 1, 2, 3, 4, 5, 6] [] rfl rfl (by decide) (by decide) hk1 hFc hP1 hD1
  have hP : va_P (kD K) vwCl [(Mh, .inr (6, [.int M_thrown, .ref Ma0, .int M_side, .int M_rights, .int M_passant, .int M_clock, .int M_number, .ref Ma1, .int M_size, .int M_told, .ref Ma2, .ref Ma3, .int M_at, .ref Ma4, .int M_newSide, .int M_newRights, .int M_newPassant, .int M_newClock, .int M_newNumber, .ref Ma5, .int u_3.2])), (Ma0, .inl ((kI K), 64, .inl M_board)), (Ma1, .inl ((kI K), 100, .inl M_text)), (Ma2, .inl ((kI K), 330, .inl M_moves)), (Ma3, .inl ((kI K), 330, .inl M_signs)), (Ma4, .inl ((kI K), 64, .inl M_newBoard)), (Ma5, .inl ((kI K), 16, .inl u_3.1))] H1 := hP.sub [0, 1, 2, 3, 4, 5, 6] rfl
  have hD : va_D A [(Mh, .inr (6, [.int M_thrown, .ref Ma0, .int M_side, .int M_rights, .int M_passant, .int M_clock, .int M_number, .ref Ma1, .int M_size, .int M_told, .ref Ma2, .ref Ma3, .int M_at, .ref Ma4, .int M_newSide, .int M_newRights, .int M_newPassant, .int M_newClock, .int M_newNumber, .ref Ma5, .int u_3.2])), (Ma0, .inl ((kI K), 64, .inl M_board)), (Ma1, .inl ((kI K), 100, .inl M_text)), (Ma2, .inl ((kI K), 330, .inl M_moves)), (Ma3, .inl ((kI K), 330, .inl M_signs)), (Ma4, .inl ((kI K), 64, .inl M_newBoard)), (Ma5, .inl ((kI K), 16, .inl u_3.1))] := hD.sub [0, 1, 2, 3, 4, 5, 6] (by decide) rfl
  generalize H1 = H at hP hS ⊢
  have hF := hF.trans (bnd_s hw_3.1)
  have fp_3_0 : u_3.2.toInt = u_2.2.toInt + 1 := hw_3.2.1
  refine lv_iload_n hx hb d_md_sayCastling_18 rfl (lv_at hl 1 rfl) ?_
  refine lv_iconst (v := 2) hx hb d_md_sayCastling_19 (by decide) ?_
  refine lv_icmp_ne (tgt := 35) hx hb d_md_sayCastling_20 (by decide) (fun c_4 => ?_) (fun c_4 => ?_)
  · have hF := hF.trans (if_neg c_4)
    exact W.vret hx hb hr (fun t ht hW => ⟨⟨(u_3.1, u_3.2), rfl, ⟨hF, (show u_3.2.toInt ≤ M_outs.toInt + 5 from by omega), (show 0 ≤ u_3.2.toInt from by omega), trivial⟩, ⟨by rw [ht]; exact hP, hD⟩⟩, hS.F ht⟩) hS.2.2 d_md_sayCastling_35
  · have hF := hF.trans (if_pos c_4)
    refine lv_aload_n hx hb d_md_sayCastling_23 rfl (lv_at hl 0 rfl) ?_
    refine lv_bipush (v := 45) hx hb d_md_sayCastling_24 (by decide) ?_
    have hPc : va_P (kD K) vwCl [(Mh, .inr (6, [.int M_thrown, .ref Ma0, .int M_side, .int M_rights, .int M_passant, .int M_clock, .int M_number, .ref Ma1, .int M_size, .int M_told, .ref Ma2, .ref Ma3, .int M_at, .ref Ma4, .int M_newSide, .int M_newRights, .int M_newPassant, .int M_newClock, .int M_newNumber, .ref Ma5, .int u_3.2])), (Ma0, .inl ((kI K), 64, .inl M_board)), (Ma1, .inl ((kI K), 100, .inl M_text)), (Ma2, .inl ((kI K), 330, .inl M_moves)), (Ma3, .inl ((kI K), 330, .inl M_signs)), (Ma4, .inl ((kI K), 64, .inl M_newBoard)), (Ma5, .inl ((kI K), 16, .inl u_3.1))] _ := hP.sub [0, 1, 2, 3, 4, 5, 6] rfl
    have hDc : va_D A [(Mh, .inr (6, [.int M_thrown, .ref Ma0, .int M_side, .int M_rights, .int M_passant, .int M_clock, .int M_number, .ref Ma1, .int M_size, .int M_told, .ref Ma2, .ref Ma3, .int M_at, .ref Ma4, .int M_newSide, .int M_newRights, .int M_newPassant, .int M_newClock, .int M_newNumber, .ref Ma5, .int u_3.2])), (Ma0, .inl ((kI K), 64, .inl M_board)), (Ma1, .inl ((kI K), 100, .inl M_text)), (Ma2, .inl ((kI K), 330, .inl M_moves)), (Ma3, .inl ((kI K), 330, .inl M_signs)), (Ma4, .inl ((kI K), 64, .inl M_newBoard)), (Ma5, .inl ((kI K), 16, .inl u_3.1))] := hD.sub [0, 1, 2, 3, 4, 5, 6] (by decide) rfl
    have hFc := va_free (wc := [(Mh, .inr (6, [.int M_thrown, .ref Ma0, .int M_side, .int M_rights, .int M_passant, .int M_clock, .int M_number, .ref Ma1, .int M_size, .int M_told, .ref Ma2, .ref Ma3, .int M_at, .ref Ma4, .int M_newSide, .int M_newRights, .int M_newPassant, .int M_newClock, .int M_newNumber, .ref Ma5, .int u_3.2])), (Ma0, .inl ((kI K), 64, .inl M_board)), (Ma1, .inl ((kI K), 100, .inl M_text)), (Ma2, .inl ((kI K), 330, .inl M_moves)), (Ma3, .inl ((kI K), 330, .inl M_signs)), (Ma4, .inl ((kI K), 64, .inl M_newBoard)), (Ma5, .inl ((kI K), 16, .inl u_3.1))]) hD hS hA [0, 1, 2, 3, 4, 5, 6] rfl
    refine va_callv (va_runV (As := [.int (45 : Int32)]) (rest := []) ⟨hx, hb, hml, hown, htg⟩ (c_md_say l K _ Mh Ma0 Ma1 Ma2 Ma3 Ma4 Ma5 M_board M_text M_moves M_signs M_newBoard u_3.1 M_thrown M_side M_rights M_passant M_clock M_number M_size M_told M_at M_newSide M_newRights M_newPassant M_newClock M_newNumber u_3.2 (45 : Int32)) (cwV 1 htg (g_V q_1019 q_1021 qs_53 q_7 (g_w q_1022)) rfl rfl rfl ⟨rfl, k_md_say⟩ ⟨Nat.le_of_ble_eq_true rfl, Nat.le_of_ble_eq_true rfl⟩) ⟨mu_blind, va_recv hK hPc (ci := 6) (q0 := 0) rfl rfl, mu_use hPc hK hDc hG hS hFc ⟨(by first | assumption | omega), (by first | assumption | omega), trivial⟩⟩ rfl rfl hl.1 rfl (lv_room (Nat.le_of_ble_eq_true rfl)) d_md_sayCastling_26 ⟨Nat.zero_le _, Nat.zero_le _⟩) hS (fun q _ h => hFc q h) hFc (fun u_5 t H1 locs ht hvm hw_5 hB hz1 hk1 hS => ?_)
    obtain ⟨hP1, hD1⟩ := hB
    rw [ht] at hP1
    obtain ⟨hP, hD⟩ := va_join (wr := []) (w1 := [(Mh, .inr (6, [.int M_thrown, .ref Ma0, .int M_side, .int M_rights, .int M_passant, .int M_clock, .int M_number, .ref Ma1, .int M_size, .int M_told, .ref Ma2, .ref Ma3, .int M_at, .ref Ma4, .int M_newSide, .int M_newRights, .int M_newPassant, .int M_newClock, .int M_newNumber, .ref Ma5, .int u_5.2])), (Ma0, .inl ((kI K), 64, .inl M_board)), (Ma1, .inl ((kI K), 100, .inl M_text)), (Ma2, .inl ((kI K), 330, .inl M_moves)), (Ma3, .inl ((kI K), 330, .inl M_signs)), (Ma4, .inl ((kI K), 64, .inl M_newBoard)), (Ma5, .inl ((kI K), 16, .inl u_5.1))]) hP hD [0, 1, 2, 3, 4, 5, 6] [] rfl rfl (by decide) (by decide) hk1 hFc hP1 hD1
    have hP : va_P (kD K) vwCl [(Mh, .inr (6, [.int M_thrown, .ref Ma0, .int M_side, .int M_rights, .int M_passant, .int M_clock, .int M_number, .ref Ma1, .int M_size, .int M_told, .ref Ma2, .ref Ma3, .int M_at, .ref Ma4, .int M_newSide, .int M_newRights, .int M_newPassant, .int M_newClock, .int M_newNumber, .ref Ma5, .int u_5.2])), (Ma0, .inl ((kI K), 64, .inl M_board)), (Ma1, .inl ((kI K), 100, .inl M_text)), (Ma2, .inl ((kI K), 330, .inl M_moves)), (Ma3, .inl ((kI K), 330, .inl M_signs)), (Ma4, .inl ((kI K), 64, .inl M_newBoard)), (Ma5, .inl ((kI K), 16, .inl u_5.1))] H1 := hP.sub [0, 1, 2, 3, 4, 5, 6] rfl
    have hD : va_D A [(Mh, .inr (6, [.int M_thrown, .ref Ma0, .int M_side, .int M_rights, .int M_passant, .int M_clock, .int M_number, .ref Ma1, .int M_size, .int M_told, .ref Ma2, .ref Ma3, .int M_at, .ref Ma4, .int M_newSide, .int M_newRights, .int M_newPassant, .int M_newClock, .int M_newNumber, .ref Ma5, .int u_5.2])), (Ma0, .inl ((kI K), 64, .inl M_board)), (Ma1, .inl ((kI K), 100, .inl M_text)), (Ma2, .inl ((kI K), 330, .inl M_moves)), (Ma3, .inl ((kI K), 330, .inl M_signs)), (Ma4, .inl ((kI K), 64, .inl M_newBoard)), (Ma5, .inl ((kI K), 16, .inl u_5.1))] := hD.sub [0, 1, 2, 3, 4, 5, 6] (by decide) rfl
    generalize H1 = H at hP hS ⊢
    have hF := hF.trans (bnd_s hw_5.1)
    have fp_5_0 : u_5.2.toInt = u_3.2.toInt + 1 := hw_5.2.1
    refine lv_aload_n hx hb d_md_sayCastling_29 rfl (lv_at hl 0 rfl) ?_
    refine lv_bipush (v := 48) hx hb d_md_sayCastling_30 (by decide) ?_
    have hPc : va_P (kD K) vwCl [(Mh, .inr (6, [.int M_thrown, .ref Ma0, .int M_side, .int M_rights, .int M_passant, .int M_clock, .int M_number, .ref Ma1, .int M_size, .int M_told, .ref Ma2, .ref Ma3, .int M_at, .ref Ma4, .int M_newSide, .int M_newRights, .int M_newPassant, .int M_newClock, .int M_newNumber, .ref Ma5, .int u_5.2])), (Ma0, .inl ((kI K), 64, .inl M_board)), (Ma1, .inl ((kI K), 100, .inl M_text)), (Ma2, .inl ((kI K), 330, .inl M_moves)), (Ma3, .inl ((kI K), 330, .inl M_signs)), (Ma4, .inl ((kI K), 64, .inl M_newBoard)), (Ma5, .inl ((kI K), 16, .inl u_5.1))] _ := hP.sub [0, 1, 2, 3, 4, 5, 6] rfl
    have hDc : va_D A [(Mh, .inr (6, [.int M_thrown, .ref Ma0, .int M_side, .int M_rights, .int M_passant, .int M_clock, .int M_number, .ref Ma1, .int M_size, .int M_told, .ref Ma2, .ref Ma3, .int M_at, .ref Ma4, .int M_newSide, .int M_newRights, .int M_newPassant, .int M_newClock, .int M_newNumber, .ref Ma5, .int u_5.2])), (Ma0, .inl ((kI K), 64, .inl M_board)), (Ma1, .inl ((kI K), 100, .inl M_text)), (Ma2, .inl ((kI K), 330, .inl M_moves)), (Ma3, .inl ((kI K), 330, .inl M_signs)), (Ma4, .inl ((kI K), 64, .inl M_newBoard)), (Ma5, .inl ((kI K), 16, .inl u_5.1))] := hD.sub [0, 1, 2, 3, 4, 5, 6] (by decide) rfl
    have hFc := va_free (wc := [(Mh, .inr (6, [.int M_thrown, .ref Ma0, .int M_side, .int M_rights, .int M_passant, .int M_clock, .int M_number, .ref Ma1, .int M_size, .int M_told, .ref Ma2, .ref Ma3, .int M_at, .ref Ma4, .int M_newSide, .int M_newRights, .int M_newPassant, .int M_newClock, .int M_newNumber, .ref Ma5, .int u_5.2])), (Ma0, .inl ((kI K), 64, .inl M_board)), (Ma1, .inl ((kI K), 100, .inl M_text)), (Ma2, .inl ((kI K), 330, .inl M_moves)), (Ma3, .inl ((kI K), 330, .inl M_signs)), (Ma4, .inl ((kI K), 64, .inl M_newBoard)), (Ma5, .inl ((kI K), 16, .inl u_5.1))]) hD hS hA [0, 1, 2, 3, 4, 5, 6] rfl
    refine va_callv (va_runV (As := [.int (48 : Int32)]) (rest := []) ⟨hx, hb, hml, hown, htg⟩ (c_md_say l K _ Mh Ma0 Ma1 Ma2 Ma3 Ma4 Ma5 M_board M_text M_moves M_signs M_newBoard u_5.1 M_thrown M_side M_rights M_passant M_clock M_number M_size M_told M_at M_newSide M_newRights M_newPassant M_newClock M_newNumber u_5.2 (48 : Int32)) (cwV 1 htg (g_V q_1019 q_1021 qs_53 q_7 (g_w q_1022)) rfl rfl rfl ⟨rfl, k_md_say⟩ ⟨Nat.le_of_ble_eq_true rfl, Nat.le_of_ble_eq_true rfl⟩) ⟨mu_blind, va_recv hK hPc (ci := 6) (q0 := 0) rfl rfl, mu_use hPc hK hDc hG hS hFc ⟨(by first | assumption | omega), (by first | assumption | omega), trivial⟩⟩ rfl rfl hl.1 rfl (lv_room (Nat.le_of_ble_eq_true rfl)) d_md_sayCastling_32 ⟨Nat.zero_le _, Nat.zero_le _⟩) hS (fun q _ h => hFc q h) hFc (fun u_6 t H1 locs ht hvm hw_6 hB hz1 hk1 hS => ?_)
    obtain ⟨hP1, hD1⟩ := hB
    rw [ht] at hP1
    obtain ⟨hP, hD⟩ := va_join (wr := []) (w1 := [(Mh, .inr (6, [.int M_thrown, .ref Ma0, .int M_side, .int M_rights, .int M_passant, .int M_clock, .int M_number, .ref Ma1, .int M_size, .int M_told, .ref Ma2, .ref Ma3, .int M_at, .ref Ma4, .int M_newSide, .int M_newRights, .int M_newPassant, .int M_newClock, .int M_newNumber, .ref Ma5, .int u_6.2])), (Ma0, .inl ((kI K), 64, .inl M_board)), (Ma1, .inl ((kI K), 100, .inl M_text)), (Ma2, .inl ((kI K), 330, .inl M_moves)), (Ma3, .inl ((kI K), 330, .inl M_signs)), (Ma4, .inl ((kI K), 64, .inl M_newBoard)), (Ma5, .inl ((kI K), 16, .inl u_6.1))]) hP hD [0, 1, 2, 3, 4, 5, 6] [] rfl rfl (by decide) (by decide) hk1 hFc hP1 hD1
    have hP : va_P (kD K) vwCl [(Mh, .inr (6, [.int M_thrown, .ref Ma0, .int M_side, .int M_rights, .int M_passant, .int M_clock, .int M_number, .ref Ma1, .int M_size, .int M_told, .ref Ma2, .ref Ma3, .int M_at, .ref Ma4, .int M_newSide, .int M_newRights, .int M_newPassant, .int M_newClock, .int M_newNumber, .ref Ma5, .int u_6.2])), (Ma0, .inl ((kI K), 64, .inl M_board)), (Ma1, .inl ((kI K), 100, .inl M_text)), (Ma2, .inl ((kI K), 330, .inl M_moves)), (Ma3, .inl ((kI K), 330, .inl M_signs)), (Ma4, .inl ((kI K), 64, .inl M_newBoard)), (Ma5, .inl ((kI K), 16, .inl u_6.1))] H1 := hP.sub [0, 1, 2, 3, 4, 5, 6] rfl
    have hD : va_D A [(Mh, .inr (6, [.int M_thrown, .ref Ma0, .int M_side, .int M_rights, .int M_passant, .int M_clock, .int M_number, .ref Ma1, .int M_size, .int M_told, .ref Ma2, .ref Ma3, .int M_at, .ref Ma4, .int M_newSide, .int M_newRights, .int M_newPassant, .int M_newClock, .int M_newNumber, .ref Ma5, .int u_6.2])), (Ma0, .inl ((kI K), 64, .inl M_board)), (Ma1, .inl ((kI K), 100, .inl M_text)), (Ma2, .inl ((kI K), 330, .inl M_moves)), (Ma3, .inl ((kI K), 330, .inl M_signs)), (Ma4, .inl ((kI K), 64, .inl M_newBoard)), (Ma5, .inl ((kI K), 16, .inl u_6.1))] := hD.sub [0, 1, 2, 3, 4, 5, 6] (by decide) rfl
    generalize H1 = H at hP hS ⊢
    have hF := hF.trans (bnd_s hw_6.1)
    have fp_6_0 : u_6.2.toInt = u_5.2.toInt + 1 := hw_6.2.1
    exact W.vret hx hb hr (fun t ht hW => ⟨⟨(u_6.1, u_6.2), rfl, ⟨hF, (show u_6.2.toInt ≤ M_outs.toInt + 5 from by omega), (show 0 ≤ u_6.2.toInt from by omega), trivial⟩, ⟨by rw [ht]; exact hP, hD⟩⟩, hS.F ht⟩) hS.2.2 d_md_sayCastling_35
def f_md_saySquare (M_out : (Nat → Int32)) (M_outs : Int32) (sq : Int32) : (Nat → Int32) × Int32 := (bnd (f_md_say M_out M_outs ((97 : Int32) + (sq - sq / (8 : Int32) * (8 : Int32)))) (fun u_1 => (bnd (f_md_say u_1.1 u_1.2 ((49 : Int32) + (sq / (8 : Int32)))) (fun u_2 => (u_2.1, u_2.2)))))
set_option maxHeartbeats 4000000 in
set_option maxRecDepth 100000 in
theorem c_md_saySquare (l : Launch) (K : KT) (sz : Nat) (Mh Ma0 Ma1 Ma2 Ma3 Ma4 Ma5 : Nat) (M_board : (Nat → Int32)) (M_text : (Nat → Int32)) (M_moves : (Nat → Int32)) (M_signs : (Nat → Int32)) (M_newBoard : (Nat → Int32)) (M_out : (Nat → Int32)) (M_thrown : Int32) (M_side : Int32) (M_rights : Int32) (M_passant : Int32) (M_clock : Int32) (M_number : Int32) (M_size : Int32) (M_told : Int32) (M_at : Int32) (M_newSide : Int32) (M_newRights : Int32) (M_newPassant : Int32) (M_newClock : Int32) (M_newNumber : Int32) (M_outs : Int32) (sq : Int32) : Met l y_md_saySquare w_md_saySquare ({ frames := 1, cells := 0, slots := 0, locals := 21 } : Room) (va_Pc [.ref Mh, .int sq] (fun U => pMU K [(Mh, .inr (6, [.int M_thrown, .ref Ma0, .int M_side, .int M_rights, .int M_passant, .int M_clock, .int M_number, .ref Ma1, .int M_size, .int M_told, .ref Ma2, .ref Ma3, .int M_at, .ref Ma4, .int M_newSide, .int M_newRights, .int M_newPassant, .int M_newClock, .int M_newNumber, .ref Ma5, .int M_outs])), (Ma0, .inl ((kI K), 64, .inl M_board)), (Ma1, .inl ((kI K), 100, .inl M_text)), (Ma2, .inl ((kI K), 330, .inl M_moves)), (Ma3, .inl ((kI K), 330, .inl M_signs)), (Ma4, .inl ((kI K), 64, .inl M_newBoard)), (Ma5, .inl ((kI K), 16, .inl M_out))] sz U ∧ 0 ≤ M_outs.toInt ∧ M_outs.toInt ≤ 14 ∧ True)) (va_Qv (fun u : (Nat → Int32) × Int32 => f_md_saySquare M_out M_outs sq = u ∧ (u.2.toInt = M_outs.toInt + 2) ∧ True) (fun (u : (Nat → Int32) × Int32) (t : State) => va_P (kD K) vwCl [(Mh, .inr (6, [.int M_thrown, .ref Ma0, .int M_side, .int M_rights, .int M_passant, .int M_clock, .int M_number, .ref Ma1, .int M_size, .int M_told, .ref Ma2, .ref Ma3, .int M_at, .ref Ma4, .int M_newSide, .int M_newRights, .int M_newPassant, .int M_newClock, .int M_newNumber, .ref Ma5, .int u.2])), (Ma0, .inl ((kI K), 64, .inl M_board)), (Ma1, .inl ((kI K), 100, .inl M_text)), (Ma2, .inl ((kI K), 330, .inl M_moves)), (Ma3, .inl ((kI K), 330, .inl M_signs)), (Ma4, .inl ((kI K), 64, .inl M_newBoard)), (Ma5, .inl ((kI K), 16, .inl u.1))] t.heap ∧ va_D (va_A [(Mh, .inr (6, [.int M_thrown, .ref Ma0, .int M_side, .int M_rights, .int M_passant, .int M_clock, .int M_number, .ref Ma1, .int M_size, .int M_told, .ref Ma2, .ref Ma3, .int M_at, .ref Ma4, .int M_newSide, .int M_newRights, .int M_newPassant, .int M_newClock, .int M_newNumber, .ref Ma5, .int M_outs])), (Ma0, .inl ((kI K), 64, .inl M_board)), (Ma1, .inl ((kI K), 100, .inl M_text)), (Ma2, .inl ((kI K), 330, .inl M_moves)), (Ma3, .inl ((kI K), 330, .inl M_signs)), (Ma4, .inl ((kI K), 64, .inl M_newBoard)), (Ma5, .inl ((kI K), 16, .inl M_out))] sz) [(Mh, .inr (6, [.int M_thrown, .ref Ma0, .int M_side, .int M_rights, .int M_passant, .int M_clock, .int M_number, .ref Ma1, .int M_size, .int M_told, .ref Ma2, .ref Ma3, .int M_at, .ref Ma4, .int M_newSide, .int M_newRights, .int M_newPassant, .int M_newClock, .int M_newNumber, .ref Ma5, .int u.2])), (Ma0, .inl ((kI K), 64, .inl M_board)), (Ma1, .inl ((kI K), 100, .inl M_text)), (Ma2, .inl ((kI K), 330, .inl M_moves)), (Ma3, .inl ((kI K), 330, .inl M_signs)), (Ma4, .inl ((kI K), 64, .inl M_newBoard)), (Ma5, .inl ((kI K), 16, .inl u.1))]) (va_A [(Mh, .inr (6, [.int M_thrown, .ref Ma0, .int M_side, .int M_rights, .int M_passant, .int M_clock, .int M_number, .ref Ma1, .int M_size, .int M_told, .ref Ma2, .ref Ma3, .int M_at, .ref Ma4, .int M_newSide, .int M_newRights, .int M_newPassant, .int M_newClock, .int M_newNumber, .ref Ma5, .int M_outs])), (Ma0, .inl ((kI K), 64, .inl M_board)), (Ma1, .inl ((kI K), 100, .inl M_text)), (Ma2, .inl ((kI K), 330, .inl M_moves)), (Ma3, .inl ((kI K), 330, .inl M_signs)), (Ma4, .inl ((kI K), 64, .inl M_newBoard)), (Ma5, .inl ((kI K), 16, .inl M_out))] sz)) 0 0 (va_A [(Mh, .inr (6, [.int M_thrown, .ref Ma0, .int M_side, .int M_rights, .int M_passant, .int M_clock, .int M_number, .ref Ma1, .int M_size, .int M_told, .ref Ma2, .ref Ma3, .int M_at, .ref Ma4, .int M_newSide, .int M_newRights, .int M_newPassant, .int M_newClock, .int M_newNumber, .ref Ma5, .int M_outs])), (Ma0, .inl ((kI K), 64, .inl M_board)), (Ma1, .inl ((kI K), 100, .inl M_text)), (Ma2, .inl ((kI K), 330, .inl M_moves)), (Ma3, .inl ((kI K), 330, .inl M_signs)), (Ma4, .inl ((kI K), 64, .inl M_newBoard)), (Ma5, .inl ((kI K), 16, .inl M_out))] sz) := by
  refine Met.ofW (cc := b_md_saySquare) (maxL := 2) (ret := none) (by decide) rfl ?_
  intro p e s m args below meth c s₁ B hml hv
  obtain ⟨rfl, ⟨hsz, hP, hK, hD0, hG⟩, h_o, h_o1, -⟩ := hv
  have hx := B.exec
  have hb := B.bytes
  have hr := B.returns
  have hts := atoms_spec (ws := w_md_saySquare) B.pre
  have hown : s.vm.findClass R_md = some m.cls := findClass_of_methodNamed B.named
  have hlocks := B.notSynchronized
  have htg := fun w h => hts w (List.mem_cons_of_mem _ h)
  subst hsz
  have hD := hD0.self (sz := s.heap.size)
  generalize hAe : va_A [(Mh, .inr (6, [.int M_thrown, .ref Ma0, .int M_side, .int M_rights, .int M_passant, .int M_clock, .int M_number, .ref Ma1, .int M_size, .int M_told, .ref Ma2, .ref Ma3, .int M_at, .ref Ma4, .int M_newSide, .int M_newRights, .int M_newPassant, .int M_newClock, .int M_newNumber, .ref Ma5, .int M_outs])), (Ma0, .inl ((kI K), 64, .inl M_board)), (Ma1, .inl ((kI K), 100, .inl M_text)), (Ma2, .inl ((kI K), 330, .inl M_moves)), (Ma3, .inl ((kI K), 330, .inl M_signs)), (Ma4, .inl ((kI K), 64, .inl M_newBoard)), (Ma5, .inl ((kI K), 16, .inl M_out))] s.heap.size = A at hD hG ⊢
  have hA : ∀ q : Nat, s.heap.size ≤ q → A q := fun q h => by rw [← hAe]; exact Or.inr h
  have hS : va_S A s.heap s.heap [] := va_S.rf
  have hl := lv_entry ([.ref Mh, .int sq]) (n := 2) (Nat.le_of_ble_eq_true rfl)
  rw [lg_entry_eq]
  generalize (lg_sl ([.ref Mh, .int sq]) ++ List.replicate (2 - (lg_sl ([.ref Mh, .int sq])).length) Slot.unset).toArray = ls at hl ⊢
  have hl : lv_has ls 2 [(0, .ref Mh), (1, .int sq)] := hl
  have z0 : (0 : Int32).toInt = 0 := by decide
  have z1 : (1 : Int32).toInt = 1 := by decide
  have zm1 : (-1 : Int32).toInt = -1 := by decide
  have z2 : (2 : Int32).toInt = 2 := by decide
  have z3 : (3 : Int32).toInt = 3 := by decide
  have z7 : (7 : Int32).toInt = 7 := by decide
  have z8 : (8 : Int32).toInt = 8 := by decide
  have z16 : (16 : Int32).toInt = 16 := by decide
  have z64 : (64 : Int32).toInt = 64 := by decide
  have z100 : (100 : Int32).toInt = 100 := by decide
  have z330 : (330 : Int32).toInt = 330 := by decide
  have hF := f_md_saySquare.eq_1 M_out M_outs sq
  refine lv_aload_n hx hb d_md_saySquare_0 rfl (lv_at hl 0 rfl) ?_
  refine lv_bipush (v := 97) hx hb d_md_saySquare_1 (by decide) ?_
  refine lv_iload_n hx hb d_md_saySquare_3 rfl (lv_at hl 1 rfl) ?_
  refine lv_bipush (v := 8) hx hb d_md_saySquare_4 (by decide) ?_
  refine lv_irem hx hb d_md_saySquare_6 (by decide) ?_
  refine lv_iadd hx hb d_md_saySquare_7 ?_
  have hPc : va_P (kD K) vwCl [(Mh, .inr (6, [.int M_thrown, .ref Ma0, .int M_side, .int M_rights, .int M_passant, .int M_clock, .int M_number, .ref Ma1, .int M_size, .int M_told, .ref Ma2, .ref Ma3, .int M_at, .ref Ma4, .int M_newSide, .int M_newRights, .int M_newPassant, .int M_newClock, .int M_newNumber, .ref Ma5, .int M_outs])), (Ma0, .inl ((kI K), 64, .inl M_board)), (Ma1, .inl ((kI K), 100, .inl M_text)), (Ma2, .inl ((kI K), 330, .inl M_moves)), (Ma3, .inl ((kI K), 330, .inl M_signs)), (Ma4, .inl ((kI K), 64, .inl M_newBoard)), (Ma5, .inl ((kI K), 16, .inl M_out))] _ := hP.sub [0, 1, 2, 3, 4, 5, 6] rfl
  have hDc : va_D A [(Mh, .inr (6, [.int M_thrown, .ref Ma0, .int M_side, .int M_rights, .int M_passant, .int M_clock, .int M_number, .ref Ma1, .int M_size, .int M_told, .ref Ma2, .ref Ma3, .int M_at, .ref Ma4, .int M_newSide, .int M_newRights, .int M_newPassant, .int M_newClock, .int M_newNumber, .ref Ma5, .int M_outs])), (Ma0, .inl ((kI K), 64, .inl M_board)), (Ma1, .inl ((kI K), 100, .inl M_text)), (Ma2, .inl ((kI K), 330, .inl M_moves)), (Ma3, .inl ((kI K), 330, .inl M_signs)), (Ma4, .inl ((kI K), 64, .inl M_newBoard)), (Ma5, .inl ((kI K), 16, .inl M_out))] := hD.sub [0, 1, 2, 3, 4, 5, 6] (by decide) rfl
  have hFc := va_free (wc := [(Mh, .inr (6, [.int M_thrown, .ref Ma0, .int M_side, .int M_rights, .int M_passant, .int M_clock, .int M_number, .ref Ma1, .int M_size, .int M_told, .ref Ma2, .ref Ma3, .int M_at, .ref Ma4, .int M_newSide, .int M_newRights, .int M_newPassant, .int M_newClock, .int M_newNumber, .ref Ma5, .int M_outs])), (Ma0, .inl ((kI K), 64, .inl M_board)), (Ma1, .inl ((kI K), 100, .inl M_text)), (Ma2, .inl ((kI K), 330, .inl M_moves)), (Ma3, .inl ((kI K), 330, .inl M_signs)), (Ma4, .inl ((kI K), 64, .inl M_newBoard)), (Ma5, .inl ((kI K), 16, .inl M_out))]) hD hS hA [0, 1, 2, 3, 4, 5, 6] rfl
  refine va_callv (va_runV (As := [.int ((97 : Int32) + (sq - sq / (8 : Int32) * (8 : Int32)))]) (rest := []) ⟨hx, hb, hml, hown, htg⟩ (c_md_say l K _ Mh Ma0 Ma1 Ma2 Ma3 Ma4 Ma5 M_board M_text M_moves M_signs M_newBoard M_out M_thrown M_side M_rights M_passant M_clock M_number M_size M_told M_at M_newSide M_newRights M_newPassant M_newClock M_newNumber M_outs ((97 : Int32) + (sq - sq / (8 : Int32) * (8 : Int32)))) (cwV 1 htg (g_V q_1019 q_1021 qs_53 q_7 (g_w q_1022)) rfl rfl rfl ⟨rfl, k_md_say⟩ ⟨Nat.le_of_ble_eq_true rfl, Nat.le_of_ble_eq_true rfl⟩) ⟨mu_blind, va_recv hK hPc (ci := 6) (q0 := 0) rfl rfl, mu_use hPc hK hDc hG hS hFc ⟨(by first | assumption | omega), (by first | assumption | omega), trivial⟩⟩ rfl rfl hl.1 rfl (lv_room (Nat.le_of_ble_eq_true rfl)) d_md_saySquare_8 ⟨Nat.zero_le _, Nat.zero_le _⟩) hS (fun q _ h => hFc q h) hFc (fun u_1 t H1 locs ht hvm hw_1 hB hz1 hk1 hS => ?_)
  obtain ⟨hP1, hD1⟩ := hB
  rw [ht] at hP1
  obtain ⟨hP, hD⟩ := va_join (wr := []) (w1 := [(Mh, .inr (6, [.int M_thrown, .ref Ma0, .int M_side, .int M_rights, .int M_passant, .int M_clock, .int M_number, .ref Ma1, .int M_size, .int M_told, .ref Ma2, .ref Ma3, .int M_at, .ref Ma4, .int M_newSide, .int M_newRights, .int M_newPassant, .int M_newClock, .int M_newNumber, .ref Ma5, .int u_1.2])), (Ma0, .inl ((kI K), 64, .inl M_board)), (Ma1, .inl ((kI K), 100, .inl M_text)), (Ma2, .inl ((kI K), 330, .inl M_moves)), (Ma3, .inl ((kI K), 330, .inl M_signs)), (Ma4, .inl ((kI K), 64, .inl M_newBoard)), (Ma5, .inl ((kI K), 16, .inl u_1.1))]) hP hD [0, 1, 2, 3, 4, 5, 6] [] rfl rfl (by decide) (by decide) hk1 hFc hP1 hD1
  have hP : va_P (kD K) vwCl [(Mh, .inr (6, [.int M_thrown, .ref Ma0, .int M_side, .int M_rights, .int M_passant, .int M_clock, .int M_number, .ref Ma1, .int M_size, .int M_told, .ref Ma2, .ref Ma3, .int M_at, .ref Ma4, .int M_newSide, .int M_newRights, .int M_newPassant, .int M_newClock, .int M_newNumber, .ref Ma5, .int u_1.2])), (Ma0, .inl ((kI K), 64, .inl M_board)), (Ma1, .inl ((kI K), 100, .inl M_text)), (Ma2, .inl ((kI K), 330, .inl M_moves)), (Ma3, .inl ((kI K), 330, .inl M_signs)), (Ma4, .inl ((kI K), 64, .inl M_newBoard)), (Ma5, .inl ((kI K), 16, .inl u_1.1))] H1 := hP.sub [0, 1, 2, 3, 4, 5, 6] rfl
  have hD : va_D A [(Mh, .inr (6, [.int M_thrown, .ref Ma0, .int M_side, .int M_rights, .int M_passant, .int M_clock, .int M_number, .ref Ma1, .int M_size, .int M_told, .ref Ma2, .ref Ma3, .int M_at, .ref Ma4, .int M_newSide, .int M_newRights, .int M_newPassant, .int M_newClock, .int M_newNumber, .ref Ma5, .int u_1.2])), (Ma0, .inl ((kI K), 64, .inl M_board)), (Ma1, .inl ((kI K), 100, .inl M_text)), (Ma2, .inl ((kI K), 330, .inl M_moves)), (Ma3, .inl ((kI K), 330, .inl M_signs)), (Ma4, .inl ((kI K), 64, .inl M_newBoard)), (Ma5, .inl ((kI K), 16, .inl u_1.1))] := hD.sub [0, 1, 2, 3, 4, 5, 6] (by decide) rfl
  generalize H1 = H at hP hS ⊢
  have hF := hF.trans (bnd_s hw_1.1)
  have fp_1_0 : u_1.2.toInt = M_outs.toInt + 1 := hw_1.2.1
  refine lv_aload_n hx hb d_md_saySquare_11 rfl (lv_at hl 0 rfl) ?_
  refine lv_bipush (v := 49) hx hb d_md_saySquare_12 (by decide) ?_
  refine lv_iload_n hx hb d_md_saySquare_14 rfl (lv_at hl 1 rfl) ?_
  refine lv_bipush (v := 8) hx hb d_md_saySquare_15 (by decide) ?_
  refine lv_idiv hx hb d_md_saySquare_17 (by decide) ?_
  refine lv_iadd hx hb d_md_saySquare_18 ?_
  have hPc : va_P (kD K) vwCl [(Mh, .inr (6, [.int M_thrown, .ref Ma0, .int M_side, .int M_rights, .int M_passant, .int M_clock, .int M_number, .ref Ma1, .int M_size, .int M_told, .ref Ma2, .ref Ma3, .int M_at, .ref Ma4, .int M_newSide, .int M_newRights, .int M_newPassant, .int M_newClock, .int M_newNumber, .ref Ma5, .int u_1.2])), (Ma0, .inl ((kI K), 64, .inl M_board)), (Ma1, .inl ((kI K), 100, .inl M_text)), (Ma2, .inl ((kI K), 330, .inl M_moves)), (Ma3, .inl ((kI K), 330, .inl M_signs)), (Ma4, .inl ((kI K), 64, .inl M_newBoard)), (Ma5, .inl ((kI K), 16, .inl u_1.1))] _ := hP.sub [0, 1, 2, 3, 4, 5, 6] rfl
  have hDc : va_D A [(Mh, .inr (6, [.int M_thrown, .ref Ma0, .int M_side, .int M_rights, .int M_passant, .int M_clock, .int M_number, .ref Ma1, .int M_size, .int M_told, .ref Ma2, .ref Ma3, .int M_at, .ref Ma4, .int M_newSide, .int M_newRights, .int M_newPassant, .int M_newClock, .int M_newNumber, .ref Ma5, .int u_1.2])), (Ma0, .inl ((kI K), 64, .inl M_board)), (Ma1, .inl ((kI K), 100, .inl M_text)), (Ma2, .inl ((kI K), 330, .inl M_moves)), (Ma3, .inl ((kI K), 330, .inl M_signs)), (Ma4, .inl ((kI K), 64, .inl M_newBoard)), (Ma5, .inl ((kI K), 16, .inl u_1.1))] := hD.sub [0, 1, 2, 3, 4, 5, 6] (by decide) rfl
  have hFc := va_free (wc := [(Mh, .inr (6, [.int M_thrown, .ref Ma0, .int M_side, .int M_rights, .int M_passant, .int M_clock, .int M_number, .ref Ma1, .int M_size, .int M_told, .ref Ma2, .ref Ma3, .int M_at, .ref Ma4, .int M_newSide, .int M_newRights, .int M_newPassant, .int M_newClock, .int M_newNumber, .ref Ma5, .int u_1.2])), (Ma0, .inl ((kI K), 64, .inl M_board)), (Ma1, .inl ((kI K), 100, .inl M_text)), (Ma2, .inl ((kI K), 330, .inl M_moves)), (Ma3, .inl ((kI K), 330, .inl M_signs)), (Ma4, .inl ((kI K), 64, .inl M_newBoard)), (Ma5, .inl ((kI K), 16, .inl u_1.1))]) hD hS hA [0, 1, 2, 3, 4, 5, 6] rfl
  refine va_callv (va_runV (As := [.int ((49 : Int32) + (sq / (8 : Int32)))]) (rest := []) ⟨hx, hb, hml, hown, htg⟩ (c_md_say l K _ Mh Ma0 Ma1 Ma2 Ma3 Ma4 Ma5 M_board M_text M_moves M_signs M_newBoard u_1.1 M_thrown M_side M_rights M_passant M_clock M_number M_size M_told M_at M_newSide M_newRights M_newPassant M_newClock M_newNumber u_1.2 ((49 : Int32) + (sq / (8 : Int32)))) (cwV 1 htg (g_V q_1019 q_1021 qs_53 q_7 (g_w q_1022)) rfl rfl rfl ⟨rfl, k_md_say⟩ ⟨Nat.le_of_ble_eq_true rfl, Nat.le_of_ble_eq_true rfl⟩) ⟨mu_blind, va_recv hK hPc (ci := 6) (q0 := 0) rfl rfl, mu_use hPc hK hDc hG hS hFc ⟨(by first | assumption | omega), (by first | assumption | omega), trivial⟩⟩ rfl rfl hl.1 rfl (lv_room (Nat.le_of_ble_eq_true rfl)) d_md_saySquare_19 ⟨Nat.zero_le _, Nat.zero_le _⟩) hS (fun q _ h => hFc q h) hFc (fun u_2 t H1 locs ht hvm hw_2 hB hz1 hk1 hS => ?_)
  obtain ⟨hP1, hD1⟩ := hB
  rw [ht] at hP1
  obtain ⟨hP, hD⟩ := va_join (wr := []) (w1 := [(Mh, .inr (6, [.int M_thrown, .ref Ma0, .int M_side, .int M_rights, .int M_passant, .int M_clock, .int M_number, .ref Ma1, .int M_size, .int M_told, .ref Ma2, .ref Ma3, .int M_at, .ref Ma4, .int M_newSide, .int M_newRights, .int M_newPassant, .int M_newClock, .int M_newNumber, .ref Ma5, .int u_2.2])), (Ma0, .inl ((kI K), 64, .inl M_board)), (Ma1, .inl ((kI K), 100, .inl M_text)), (Ma2, .inl ((kI K), 330, .inl M_moves)), (Ma3, .inl ((kI K), 330, .inl M_signs)), (Ma4, .inl ((kI K), 64, .inl M_newBoard)), (Ma5, .inl ((kI K), 16, .inl u_2.1))]) hP hD [0, 1, 2, 3, 4, 5, 6] [] rfl rfl (by decide) (by decide) hk1 hFc hP1 hD1
  have hP : va_P (kD K) vwCl [(Mh, .inr (6, [.int M_thrown, .ref Ma0, .int M_side, .int M_rights, .int M_passant, .int M_clock, .int M_number, .ref Ma1, .int M_size, .int M_told, .ref Ma2, .ref Ma3, .int M_at, .ref Ma4, .int M_newSide, .int M_newRights, .int M_newPassant, .int M_newClock, .int M_newNumber, .ref Ma5, .int u_2.2])), (Ma0, .inl ((kI K), 64, .inl M_board)), (Ma1, .inl ((kI K), 100, .inl M_text)), (Ma2, .inl ((kI K), 330, .inl M_moves)), (Ma3, .inl ((kI K), 330, .inl M_signs)), (Ma4, .inl ((kI K), 64, .inl M_newBoard)), (Ma5, .inl ((kI K), 16, .inl u_2.1))] H1 := hP.sub [0, 1, 2, 3, 4, 5, 6] rfl
  have hD : va_D A [(Mh, .inr (6, [.int M_thrown, .ref Ma0, .int M_side, .int M_rights, .int M_passant, .int M_clock, .int M_number, .ref Ma1, .int M_size, .int M_told, .ref Ma2, .ref Ma3, .int M_at, .ref Ma4, .int M_newSide, .int M_newRights, .int M_newPassant, .int M_newClock, .int M_newNumber, .ref Ma5, .int u_2.2])), (Ma0, .inl ((kI K), 64, .inl M_board)), (Ma1, .inl ((kI K), 100, .inl M_text)), (Ma2, .inl ((kI K), 330, .inl M_moves)), (Ma3, .inl ((kI K), 330, .inl M_signs)), (Ma4, .inl ((kI K), 64, .inl M_newBoard)), (Ma5, .inl ((kI K), 16, .inl u_2.1))] := hD.sub [0, 1, 2, 3, 4, 5, 6] (by decide) rfl
  generalize H1 = H at hP hS ⊢
  have hF := hF.trans (bnd_s hw_2.1)
  have fp_2_0 : u_2.2.toInt = u_1.2.toInt + 1 := hw_2.2.1
  exact W.vret hx hb hr (fun t ht hW => ⟨⟨(u_2.1, u_2.2), rfl, ⟨hF, (show u_2.2.toInt = M_outs.toInt + 2 from by omega), trivial⟩, ⟨by rw [ht]; exact hP, hD⟩⟩, hS.F ht⟩) hS.2.2 d_md_saySquare_22
def f_md_rivals_L11 (M_board : (Nat → Int32)) (M_moves : (Nat → Int32)) (M_told : Int32) (mv : Int32) (wt : Int32) : Nat → Int32 → Int32 → Int32 → Int32
  | 0, _, _, _ => 0
  | n + 1, v3, v4, v5 => (if M_told ≤ v5 then v4 else (bnd (f_md_fromOf (M_moves v5.toNatClampNeg)) (fun r_4 => (if r_4 = v3 then (f_md_rivals_L11 M_board M_moves M_told mv wt  n v3 (v4 + (0 : Int32)) (v5 + (1 : Int32))) else (bnd (f_md_toOf (M_moves v5.toNatClampNeg)) (fun r_7 => (bnd (f_md_toOf mv) (fun r_8 => (if r_7 = r_8 then (if (M_board r_4.toNatClampNeg) = (M_board v3.toNatClampNeg) then (if wt = 0 then (f_md_rivals_L11 M_board M_moves M_told mv wt  n v3 (v4 + (1 : Int32)) (v5 + (1 : Int32))) else (if wt = (1 : Int32) then (if (r_4 - r_4 / (8 : Int32) * (8 : Int32)) = (v3 - v3 / (8 : Int32) * (8 : Int32)) then (f_md_rivals_L11 M_board M_moves M_told mv wt  n v3 (v4 + (1 : Int32)) (v5 + (1 : Int32))) else (if wt = (2 : Int32) then (if (r_4 / (8 : Int32)) = (v3 / (8 : Int32)) then (f_md_rivals_L11 M_board M_moves M_told mv wt  n v3 (v4 + (1 : Int32)) (v5 + (1 : Int32))) else (f_md_rivals_L11 M_board M_moves M_told mv wt  n v3 (v4 + (0 : Int32)) (v5 + (1 : Int32)))) else (f_md_rivals_L11 M_board M_moves M_told mv wt  n v3 (v4 + (0 : Int32)) (v5 + (1 : Int32))))) else (if wt = (2 : Int32) then (if (r_4 / (8 : Int32)) = (v3 / (8 : Int32)) then (f_md_rivals_L11 M_board M_moves M_told mv wt  n v3 (v4 + (1 : Int32)) (v5 + (1 : Int32))) else (f_md_rivals_L11 M_board M_moves M_told mv wt  n v3 (v4 + (0 : Int32)) (v5 + (1 : Int32)))) else (f_md_rivals_L11 M_board M_moves M_told mv wt  n v3 (v4 + (0 : Int32)) (v5 + (1 : Int32)))))) else (f_md_rivals_L11 M_board M_moves M_told mv wt  n v3 (v4 + (0 : Int32)) (v5 + (1 : Int32)))) else (f_md_rivals_L11 M_board M_moves M_told mv wt  n v3 (v4 + (0 : Int32)) (v5 + (1 : Int32))))))))))))
def f_md_rivals (M_board : (Nat → Int32)) (M_moves : (Nat → Int32)) (M_told : Int32) (mv : Int32) (wt : Int32) : Int32 := (bnd (f_md_fromOf mv) (fun r_1 => (f_md_rivals_L11 M_board M_moves M_told mv wt  331 r_1 (0 : Int32) (0 : Int32))))
set_option maxHeartbeats 4000000 in
set_option maxRecDepth 100000 in
theorem c_md_rivals (l : Launch) (K : KT) (Mh Ma0 Ma1 Ma2 Ma3 Ma4 Ma5 : Nat) (M_board : (Nat → Int32)) (M_text : (Nat → Int32)) (M_moves : (Nat → Int32)) (M_signs : (Nat → Int32)) (M_newBoard : (Nat → Int32)) (M_out : (Nat → Int32)) (M_thrown : Int32) (M_side : Int32) (M_rights : Int32) (M_passant : Int32) (M_clock : Int32) (M_number : Int32) (M_size : Int32) (M_told : Int32) (M_at : Int32) (M_newSide : Int32) (M_newRights : Int32) (M_newPassant : Int32) (M_newClock : Int32) (M_newNumber : Int32) (M_outs : Int32) (mv : Int32) (wt : Int32) : Met l y_md_rivals w_md_rivals ({ frames := 1, cells := 0, slots := 0, locals := 20 } : Room) (va_Pc [.ref Mh, .int mv, .int wt] (fun U => pRO K [(Mh, .inr (6, [.int M_thrown, .ref Ma0, .int M_side, .int M_rights, .int M_passant, .int M_clock, .int M_number, .ref Ma1, .int M_size, .int M_told, .ref Ma2, .ref Ma3, .int M_at, .ref Ma4, .int M_newSide, .int M_newRights, .int M_newPassant, .int M_newClock, .int M_newNumber, .ref Ma5, .int M_outs])), (Ma0, .inl ((kI K), 64, .inl M_board)), (Ma1, .inl ((kI K), 100, .inl M_text)), (Ma2, .inl ((kI K), 330, .inl M_moves)), (Ma3, .inl ((kI K), 330, .inl M_signs)), (Ma4, .inl ((kI K), 64, .inl M_newBoard)), (Ma5, .inl ((kI K), 16, .inl M_out))] U ∧ M_told.toInt ≤ 330 ∧ True)) (vp_Si (fun r => f_md_rivals M_board M_moves M_told mv wt = r ∧ True)) 0 0 (fun _ => False) := by
  refine Met.ofW (cc := b_md_rivals) (maxL := 8) (ret := (some .int)) (by decide) rfl ?_
  intro p e s m args below meth c s₁ B hml hv
  obtain ⟨rfl, ⟨hP, hK, hG⟩, h_t, -⟩ := hv
  have hx := B.exec
  have hb := B.bytes
  have hr := B.returns
  have hts := atoms_spec (ws := w_md_rivals) B.pre
  have hown : s.vm.findClass R_md = some m.cls := findClass_of_methodNamed B.named
  have hlocks := B.notSynchronized
  have htg := fun w h => hts w (List.mem_cons_of_mem _ h)
  have hS : va_S (fun _ => False) s.heap s.heap [] := va_S.rf
  have hl := lv_entry ([.ref Mh, .int mv, .int wt]) (n := 8) (Nat.le_of_ble_eq_true rfl)
  rw [lg_entry_eq]
  generalize (lg_sl ([.ref Mh, .int mv, .int wt]) ++ List.replicate (8 - (lg_sl ([.ref Mh, .int mv, .int wt])).length) Slot.unset).toArray = ls at hl ⊢
  have hl : lv_has ls 8 [(0, .ref Mh), (1, .int mv), (2, .int wt)] := hl
  have z0 : (0 : Int32).toInt = 0 := by decide
  have z1 : (1 : Int32).toInt = 1 := by decide
  have zm1 : (-1 : Int32).toInt = -1 := by decide
  have z2 : (2 : Int32).toInt = 2 := by decide
  have z3 : (3 : Int32).toInt = 3 := by decide
  have z7 : (7 : Int32).toInt = 7 := by decide
  have z8 : (8 : Int32).toInt = 8 := by decide
  have z16 : (16 : Int32).toInt = 16 := by decide
  have z64 : (64 : Int32).toInt = 64 := by decide
  have z100 : (100 : Int32).toInt = 100 := by decide
  have z330 : (330 : Int32).toInt = 330 := by decide
  have hF := f_md_rivals.eq_1 M_board M_moves M_told mv wt
  refine lv_iload_n hx hb d_md_rivals_0 rfl (lv_at hl 1 rfl) ?_
  have hPc : va_P (kD K) vwCl [] _ := hP.sub [] rfl
  refine vp_callSi (va_Run.run (va_runS (As := [.int mv]) (rest := []) ⟨hx, hb, hml, hown, htg⟩ (c_md_fromOf l K mv) (va_cwS 1 htg (g_S q_985 q_986 q_7 (g_w q_987)) rfl rfl rfl k_md_fromOf ⟨Nat.le_of_ble_eq_true rfl, Nat.le_of_ble_eq_true rfl⟩) ⟨ro_blind, ro_use hPc hK hG hS trivial⟩ rfl rfl hl.1 rfl (lv_room (Nat.le_of_ble_eq_true rfl)) d_md_rivals_1 ⟨Nat.zero_le _, Nat.zero_le _⟩)) (fun r_1 hw_1 => ?_)
  have hF := hF.trans (bnd_s hw_1.1)
  refine lv_istore_n (lv' := [(3, .int r_1), (0, .ref Mh), (1, .int mv), (2, .int wt)]) hx hb d_md_rivals_4 rfl hl (by decide) rfl (fun ls hl => ?_)
  refine lv_iconst (v := 0) hx hb d_md_rivals_5 (by decide) ?_
  refine lv_istore (lv' := [(4, .int (0 : Int32)), (3, .int r_1), (0, .ref Mh), (1, .int mv), (2, .int wt)]) hx hb d_md_rivals_6 hl (by decide) rfl (fun ls hl => ?_)
  refine lv_iconst (v := 0) hx hb d_md_rivals_8 (by decide) ?_
  refine lv_istore (lv' := [(5, .int (0 : Int32)), (4, .int (0 : Int32)), (3, .int r_1), (0, .ref Mh), (1, .int mv), (2, .int wt)]) hx hb d_md_rivals_9 hl (by decide) rfl (fun ls hl => ?_)
  have loop11 : ∀ (n11 : Nat) (v3 : Int32) (v4 : Int32) (v5 : Int32) (ls : Array Slot), 0 ≤ v5.toInt → vp_in v3 64 → ((330 : Int) - v5.toInt).toNat < n11 → lv_has ls 8 [(0, .ref Mh), (1, .int mv), (2, .int wt), (3, .int v3), (4, .int v4), (5, .int v5)] → f_md_rivals M_board M_moves M_told mv wt = f_md_rivals_L11 M_board M_moves M_told mv wt  n11 v3 v4 v5 → W p l e (headSpec w_md_rivals ({ frames := 1, cells := 0, slots := 0, locals := 20 } : Room)).room s m ([(.ref Mh : Value), .int mv, .int wt].toArray) below meth c s.heap [] 0 0 (MQ below (vp_Si (fun r => f_md_rivals M_board M_moves M_told mv wt = r ∧ True)) ([(.ref Mh : Value), .int mv, .int wt].toArray) s 0 0 ((fun _ => False))) (F0 m 11 ls []) := by
    intro n11
    induction n11 with
    | zero =>
      intro _ _ _ _ _ _ hz
      exact absurd hz (Nat.not_lt_zero _)
    | succ n11 ih11 =>
      intro v3 v4 v5 ls i0 f0 hm hl hF
      rw [f_md_rivals_L11] at hF
      refine lv_iload hx hb d_md_rivals_11 (lv_at hl 5 rfl) ?_
      refine lv_aload_n hx hb d_md_rivals_13 rfl (lv_at hl 0 rfl) ?_
      refine va_get (D := kD K) (ci := 6) (v := .int M_told) (C := R_md) (T := T_md) (N := 21) hx hb htg in_md hown hK hP 0 rfl rfl 9 (by decide) (htg (.fieldLink R_md 133 "GameNotationModel" "told" "I") q_803) (fun _ h9 => h9) rfl d_md_rivals_14 ?_
      refine lv_icmp_ge (tgt := 137) hx hb d_md_rivals_17 (by decide) (fun c_2 => ?_) (fun c_2 => ?_)
      · have hF := hF.trans (if_pos c_2)
        refine lv_iload hx hb d_md_rivals_137 (lv_at hl 4 rfl) ?_
        exact W.iret (v := v4) hx hb hr (fun t ht hW => ⟨_, rfl, ⟨hF, trivial⟩, ht⟩) hS.2.2 d_md_rivals_139
      · have hF := hF.trans (if_neg c_2)
        refine lv_aload_n hx hb d_md_rivals_20 rfl (lv_at hl 0 rfl) ?_
        refine va_get (D := kD K) (ci := 6) (v := .ref Ma2) (C := R_md) (T := T_md) (N := 21) hx hb htg in_md hown hK hP 0 rfl rfl 10 (by decide) (htg (.fieldLink R_md 23 "GameNotationModel" "moves" "[I") q_804) (fun _ h9 => h9) rfl d_md_rivals_21 ?_
        refine lv_iload hx hb d_md_rivals_24 (lv_at hl 5 rfl) ?_
        have h_3 : vp_in v5 330 := lp_in i0 c_2 h_t
        refine va_iald hx hb hK hP 3 0 rfl rfl h_3 d_md_rivals_26 ?_
        have hPc : va_P (kD K) vwCl [] _ := hP.sub [] rfl
        refine vp_callSi (va_Run.run (va_runS (As := [.int (M_moves v5.toNatClampNeg)]) (rest := []) ⟨hx, hb, hml, hown, htg⟩ (c_md_fromOf l K (M_moves v5.toNatClampNeg)) (va_cwS 1 htg (g_S q_985 q_986 q_7 (g_w q_987)) rfl rfl rfl k_md_fromOf ⟨Nat.le_of_ble_eq_true rfl, Nat.le_of_ble_eq_true rfl⟩) ⟨ro_blind, ro_use hPc hK hG hS trivial⟩ rfl rfl hl.1 rfl (lv_room (Nat.le_of_ble_eq_true rfl)) d_md_rivals_27 ⟨Nat.zero_le _, Nat.zero_le _⟩)) (fun r_4 hw_4 => ?_)
        have hF := hF.trans (bnd_s hw_4.1)
        refine lv_istore (lv' := [(6, .int r_4), (0, .ref Mh), (1, .int mv), (2, .int wt), (3, .int v3), (4, .int v4), (5, .int v5)]) hx hb d_md_rivals_30 hl (by decide) rfl (fun ls hl => ?_)
        refine lv_iload hx hb d_md_rivals_32 (lv_at hl 0 rfl) ?_
        refine lv_iload_n hx hb d_md_rivals_34 rfl (lv_at hl 4 rfl) ?_
        refine lv_icmp_eq (tgt := 75) hx hb d_md_rivals_35 (by decide) (fun c_5 => ?_) (fun c_5 => ?_)
        · have hF := hF.trans (if_pos c_5)
          refine lv_iconst (v := 0) hx hb d_md_rivals_75 (by decide) ?_
          refine lv_istore (lv' := [(7, .int (0 : Int32)), (6, .int r_4), (0, .ref Mh), (1, .int mv), (2, .int wt), (3, .int v3), (4, .int v4), (5, .int v5)]) hx hb d_md_rivals_76 hl (by decide) rfl (fun ls hl => ?_)
          refine lv_iload hx hb d_md_rivals_78 (lv_at hl 6 rfl) ?_
          refine lv_iload hx hb d_md_rivals_80 (lv_at hl 0 rfl) ?_
          refine lv_if_eq (tgt := 127) hx hb d_md_rivals_82 (by decide) (fun _ => ?_) (fun c => False.elim (by revert c; decide))
          refine lv_iconst (v := 0) hx hb d_md_rivals_127 (by decide) ?_
          refine lv_iadd hx hb d_md_rivals_128 ?_
          refine lv_istore (lv' := [(4, .int (v4 + (0 : Int32))), (7, .int (0 : Int32)), (6, .int r_4), (0, .ref Mh), (1, .int mv), (2, .int wt), (3, .int v3), (5, .int v5)]) hx hb d_md_rivals_129 hl (by decide) rfl (fun ls hl => ?_)
          refine lv_iinc (v := v5 + (1 : Int32)) (lv' := [(5, .int (v5 + (1 : Int32))), (4, .int (v4 + (0 : Int32))), (7, .int (0 : Int32)), (6, .int r_4), (0, .ref Mh), (1, .int mv), (2, .int wt), (3, .int v3)]) hx hb d_md_rivals_131 hl (k := 7) rfl rfl (by decide) rfl (fun ls hl => ?_)
          refine lv_goto (tgt := 11) hx hb d_md_rivals_134 (by decide) ?_
          exact ih11  v3 (v4 + (0 : Int32)) (v5 + (1 : Int32)) ls (lp_s i0 c_2) (f0) (lp_d i0 c_2 h_t hm) (lv_sub hl [4, 5, 6, 7, 1, 0] rfl) hF
        · have hF := hF.trans (if_neg c_5)
          refine lv_aload_n hx hb d_md_rivals_38 rfl (lv_at hl 1 rfl) ?_
          refine va_get (D := kD K) (ci := 6) (v := .ref Ma2) (C := R_md) (T := T_md) (N := 21) hx hb htg in_md hown hK hP 0 rfl rfl 10 (by decide) (htg (.fieldLink R_md 23 "GameNotationModel" "moves" "[I") q_804) (fun _ h9 => h9) rfl d_md_rivals_39 ?_
          refine lv_iload hx hb d_md_rivals_42 (lv_at hl 6 rfl) ?_
          have h_6 : vp_in v5 330 := lp_in i0 c_2 h_t
          refine va_iald hx hb hK hP 3 0 rfl rfl h_6 d_md_rivals_44 ?_
          have hPc : va_P (kD K) vwCl [] _ := hP.sub [] rfl
          refine vp_callSi (va_Run.run (va_runS (As := [.int (M_moves v5.toNatClampNeg)]) (rest := []) ⟨hx, hb, hml, hown, htg⟩ (c_md_toOf l K (M_moves v5.toNatClampNeg)) (va_cwS 1 htg (g_S q_988 q_989 q_7 (g_w q_990)) rfl rfl rfl k_md_toOf ⟨Nat.le_of_ble_eq_true rfl, Nat.le_of_ble_eq_true rfl⟩) ⟨ro_blind, ro_use hPc hK hG hS trivial⟩ rfl rfl hl.1 rfl (lv_room (Nat.le_of_ble_eq_true rfl)) d_md_rivals_45 ⟨Nat.zero_le _, Nat.zero_le _⟩)) (fun r_7 hw_7 => ?_)
          have hF := hF.trans (bnd_s hw_7.1)
          refine lv_iload_n hx hb d_md_rivals_48 rfl (lv_at hl 2 rfl) ?_
          have hPc : va_P (kD K) vwCl [] _ := hP.sub [] rfl
          refine vp_callSi (va_Run.run (va_runS (As := [.int mv]) (rest := [.int r_7]) ⟨hx, hb, hml, hown, htg⟩ (c_md_toOf l K mv) (va_cwS 1 htg (g_S q_988 q_989 q_7 (g_w q_990)) rfl rfl rfl k_md_toOf ⟨Nat.le_of_ble_eq_true rfl, Nat.le_of_ble_eq_true rfl⟩) ⟨ro_blind, ro_use hPc hK hG hS trivial⟩ rfl rfl hl.1 rfl (lv_room (Nat.le_of_ble_eq_true rfl)) d_md_rivals_49 ⟨Nat.zero_le _, Nat.zero_le _⟩)) (fun r_8 hw_8 => ?_)
          have hF := hF.trans (bnd_s hw_8.1)
          refine lv_icmp_ne (tgt := 75) hx hb d_md_rivals_52 (by decide) (fun c_9 => ?_) (fun c_9 => ?_)
          · have hF := hF.trans (if_neg c_9)
            refine lv_iconst (v := 0) hx hb d_md_rivals_75 (by decide) ?_
            refine lv_istore (lv' := [(7, .int (0 : Int32)), (6, .int r_4), (0, .ref Mh), (1, .int mv), (2, .int wt), (3, .int v3), (4, .int v4), (5, .int v5)]) hx hb d_md_rivals_76 hl (by decide) rfl (fun ls hl => ?_)
            refine lv_iload hx hb d_md_rivals_78 (lv_at hl 6 rfl) ?_
            refine lv_iload hx hb d_md_rivals_80 (lv_at hl 0 rfl) ?_
            refine lv_if_eq (tgt := 127) hx hb d_md_rivals_82 (by decide) (fun _ => ?_) (fun c => False.elim (by revert c; decide))
            refine lv_iconst (v := 0) hx hb d_md_rivals_127 (by decide) ?_
            refine lv_iadd hx hb d_md_rivals_128 ?_
            refine lv_istore (lv' := [(4, .int (v4 + (0 : Int32))), (7, .int (0 : Int32)), (6, .int r_4), (0, .ref Mh), (1, .int mv), (2, .int wt), (3, .int v3), (5, .int v5)]) hx hb d_md_rivals_129 hl (by decide) rfl (fun ls hl => ?_)
            refine lv_iinc (v := v5 + (1 : Int32)) (lv' := [(5, .int (v5 + (1 : Int32))), (4, .int (v4 + (0 : Int32))), (7, .int (0 : Int32)), (6, .int r_4), (0, .ref Mh), (1, .int mv), (2, .int wt), (3, .int v3)]) hx hb d_md_rivals_131 hl (k := 7) rfl rfl (by decide) rfl (fun ls hl => ?_)
            refine lv_goto (tgt := 11) hx hb d_md_rivals_134 (by decide) ?_
            exact ih11  v3 (v4 + (0 : Int32)) (v5 + (1 : Int32)) ls (lp_s i0 c_2) (f0) (lp_d i0 c_2 h_t hm) (lv_sub hl [4, 5, 6, 7, 1, 0] rfl) hF
          · have hF := hF.trans (if_pos c_9)
            refine lv_aload_n hx hb d_md_rivals_55 rfl (lv_at hl 1 rfl) ?_
            refine va_get (D := kD K) (ci := 6) (v := .ref Ma0) (C := R_md) (T := T_md) (N := 21) hx hb htg in_md hown hK hP 0 rfl rfl 1 (by decide) (htg (.fieldLink R_md 7 "GameNotationModel" "board" "[I") q_795) (fun _ h9 => h9) rfl d_md_rivals_56 ?_
            refine lv_iload hx hb d_md_rivals_59 (lv_at hl 0 rfl) ?_
            have h_10 : vp_in r_4 64 := fr_in hw_4
            refine va_iald hx hb hK hP 1 0 rfl rfl h_10 d_md_rivals_61 ?_
            refine lv_aload_n hx hb d_md_rivals_62 rfl (lv_at hl 1 rfl) ?_
            refine va_get (D := kD K) (ci := 6) (v := .ref Ma0) (C := R_md) (T := T_md) (N := 21) hx hb htg in_md hown hK hP 0 rfl rfl 1 (by decide) (htg (.fieldLink R_md 7 "GameNotationModel" "board" "[I") q_795) (fun _ h9 => h9) rfl d_md_rivals_63 ?_
            refine lv_iload_n hx hb d_md_rivals_66 rfl (lv_at hl 4 rfl) ?_
            have h_11 : vp_in v3 64 := f0
            refine va_iald hx hb hK hP 1 0 rfl rfl h_11 d_md_rivals_67 ?_
            refine lv_icmp_ne (tgt := 75) hx hb d_md_rivals_68 (by decide) (fun c_12 => ?_) (fun c_12 => ?_)
            · have hF := hF.trans (if_neg c_12)
              refine lv_iconst (v := 0) hx hb d_md_rivals_75 (by decide) ?_
              refine lv_istore (lv' := [(7, .int (0 : Int32)), (6, .int r_4), (0, .ref Mh), (1, .int mv), (2, .int wt), (3, .int v3), (4, .int v4), (5, .int v5)]) hx hb d_md_rivals_76 hl (by decide) rfl (fun ls hl => ?_)
              refine lv_iload hx hb d_md_rivals_78 (lv_at hl 6 rfl) ?_
              refine lv_iload hx hb d_md_rivals_80 (lv_at hl 0 rfl) ?_
              refine lv_if_eq (tgt := 127) hx hb d_md_rivals_82 (by decide) (fun _ => ?_) (fun c => False.elim (by revert c; decide))
              refine lv_iconst (v := 0) hx hb d_md_rivals_127 (by decide) ?_
              refine lv_iadd hx hb d_md_rivals_128 ?_
              refine lv_istore (lv' := [(4, .int (v4 + (0 : Int32))), (7, .int (0 : Int32)), (6, .int r_4), (0, .ref Mh), (1, .int mv), (2, .int wt), (3, .int v3), (5, .int v5)]) hx hb d_md_rivals_129 hl (by decide) rfl (fun ls hl => ?_)
              refine lv_iinc (v := v5 + (1 : Int32)) (lv' := [(5, .int (v5 + (1 : Int32))), (4, .int (v4 + (0 : Int32))), (7, .int (0 : Int32)), (6, .int r_4), (0, .ref Mh), (1, .int mv), (2, .int wt), (3, .int v3)]) hx hb d_md_rivals_131 hl (k := 7) rfl rfl (by decide) rfl (fun ls hl => ?_)
              refine lv_goto (tgt := 11) hx hb d_md_rivals_134 (by decide) ?_
              exact ih11  v3 (v4 + (0 : Int32)) (v5 + (1 : Int32)) ls (lp_s i0 c_2) (f0) (lp_d i0 c_2 h_t hm) (lv_sub hl [4, 5, 6, 7, 1, 0] rfl) hF
            · have hF := hF.trans (if_pos c_12)
              refine lv_iconst (v := 1) hx hb d_md_rivals_71 (by decide) ?_
              refine lv_goto (tgt := 76) hx hb d_md_rivals_72 (by decide) ?_
              refine lv_istore (lv' := [(7, .int (1 : Int32)), (6, .int r_4), (0, .ref Mh), (1, .int mv), (2, .int wt), (3, .int v3), (4, .int v4), (5, .int v5)]) hx hb d_md_rivals_76 hl (by decide) rfl (fun ls hl => ?_)
              refine lv_iload hx hb d_md_rivals_78 (lv_at hl 6 rfl) ?_
              refine lv_iload hx hb d_md_rivals_80 (lv_at hl 0 rfl) ?_
              refine lv_if_eq (tgt := 127) hx hb d_md_rivals_82 (by decide) (fun c => False.elim (by revert c; decide)) (fun _ => ?_)
              refine lv_iload_n hx hb d_md_rivals_85 rfl (lv_at hl 4 rfl) ?_
              refine lv_if_eq (tgt := 123) hx hb d_md_rivals_86 (by decide) (fun c_13 => ?_) (fun c_13 => ?_)
              · have hF := hF.trans (if_pos c_13)
                refine lv_iconst (v := 1) hx hb d_md_rivals_123 (by decide) ?_
                refine lv_goto (tgt := 128) hx hb d_md_rivals_124 (by decide) ?_
                refine lv_iadd hx hb d_md_rivals_128 ?_
                refine lv_istore (lv' := [(4, .int (v4 + (1 : Int32))), (7, .int (1 : Int32)), (6, .int r_4), (0, .ref Mh), (1, .int mv), (2, .int wt), (3, .int v3), (5, .int v5)]) hx hb d_md_rivals_129 hl (by decide) rfl (fun ls hl => ?_)
                refine lv_iinc (v := v5 + (1 : Int32)) (lv' := [(5, .int (v5 + (1 : Int32))), (4, .int (v4 + (1 : Int32))), (7, .int (1 : Int32)), (6, .int r_4), (0, .ref Mh), (1, .int mv), (2, .int wt), (3, .int v3)]) hx hb d_md_rivals_131 hl (k := 7) rfl rfl (by decide) rfl (fun ls hl => ?_)
                refine lv_goto (tgt := 11) hx hb d_md_rivals_134 (by decide) ?_
                exact ih11  v3 (v4 + (1 : Int32)) (v5 + (1 : Int32)) ls (lp_s i0 c_2) (f0) (lp_d i0 c_2 h_t hm) (lv_sub hl [4, 5, 6, 7, 1, 0] rfl) hF
              · have hF := hF.trans (if_neg c_13)
                refine lv_iload_n hx hb d_md_rivals_89 rfl (lv_at hl 4 rfl) ?_
                refine lv_iconst (v := 1) hx hb d_md_rivals_90 (by decide) ?_
                refine lv_icmp_ne (tgt := 106) hx hb d_md_rivals_91 (by decide) (fun c_14 => ?_) (fun c_14 => ?_)
                · have hF := hF.trans (if_neg c_14)
                  refine lv_iload_n hx hb d_md_rivals_106 rfl (lv_at hl 4 rfl) ?_
                  refine lv_iconst (v := 2) hx hb d_md_rivals_107 (by decide) ?_
                  refine lv_icmp_ne (tgt := 127) hx hb d_md_rivals_108 (by decide) (fun c_15 => ?_) (fun c_15 => ?_)
                  · have hF := hF.trans (if_neg c_15)
                    refine lv_iconst (v := 0) hx hb d_md_rivals_127 (by decide) ?_
                    refine lv_iadd hx hb d_md_rivals_128 ?_
                    refine lv_istore (lv' := [(4, .int (v4 + (0 : Int32))), (7, .int (1 : Int32)), (6, .int r_4), (0, .ref Mh), (1, .int mv), (2, .int wt), (3, .int v3), (5, .int v5)]) hx hb d_md_rivals_129 hl (by decide) rfl (fun ls hl => ?_)
                    refine lv_iinc (v := v5 + (1 : Int32)) (lv' := [(5, .int (v5 + (1 : Int32))), (4, .int (v4 + (0 : Int32))), (7, .int (1 : Int32)), (6, .int r_4), (0, .ref Mh), (1, .int mv), (2, .int wt), (3, .int v3)]) hx hb d_md_rivals_131 hl (k := 7) rfl rfl (by decide) rfl (fun ls hl => ?_)
                    refine lv_goto (tgt := 11) hx hb d_md_rivals_134 (by decide) ?_
                    exact ih11  v3 (v4 + (0 : Int32)) (v5 + (1 : Int32)) ls (lp_s i0 c_2) (f0) (lp_d i0 c_2 h_t hm) (lv_sub hl [4, 5, 6, 7, 1, 0] rfl) hF
                  · have hF := hF.trans (if_pos c_15)
                    refine lv_iload hx hb d_md_rivals_111 (lv_at hl 1 rfl) ?_
                    refine lv_bipush (v := 8) hx hb d_md_rivals_113 (by decide) ?_
                    refine lv_idiv hx hb d_md_rivals_115 (by decide) ?_
                    refine lv_iload_n hx hb d_md_rivals_116 rfl (lv_at hl 5 rfl) ?_
                    refine lv_bipush (v := 8) hx hb d_md_rivals_117 (by decide) ?_
                    refine lv_idiv hx hb d_md_rivals_119 (by decide) ?_
                    refine lv_icmp_ne (tgt := 127) hx hb d_md_rivals_120 (by decide) (fun c_16 => ?_) (fun c_16 => ?_)
                    · have hF := hF.trans (if_neg c_16)
                      refine lv_iconst (v := 0) hx hb d_md_rivals_127 (by decide) ?_
                      refine lv_iadd hx hb d_md_rivals_128 ?_
                      refine lv_istore (lv' := [(4, .int (v4 + (0 : Int32))), (7, .int (1 : Int32)), (6, .int r_4), (0, .ref Mh), (1, .int mv), (2, .int wt), (3, .int v3), (5, .int v5)]) hx hb d_md_rivals_129 hl (by decide) rfl (fun ls hl => ?_)
                      refine lv_iinc (v := v5 + (1 : Int32)) (lv' := [(5, .int (v5 + (1 : Int32))), (4, .int (v4 + (0 : Int32))), (7, .int (1 : Int32)), (6, .int r_4), (0, .ref Mh), (1, .int mv), (2, .int wt), (3, .int v3)]) hx hb d_md_rivals_131 hl (k := 7) rfl rfl (by decide) rfl (fun ls hl => ?_)
                      refine lv_goto (tgt := 11) hx hb d_md_rivals_134 (by decide) ?_
                      exact ih11  v3 (v4 + (0 : Int32)) (v5 + (1 : Int32)) ls (lp_s i0 c_2) (f0) (lp_d i0 c_2 h_t hm) (lv_sub hl [4, 5, 6, 7, 1, 0] rfl) hF
                    · have hF := hF.trans (if_pos c_16)
                      refine lv_iconst (v := 1) hx hb d_md_rivals_123 (by decide) ?_
                      refine lv_goto (tgt := 128) hx hb d_md_rivals_124 (by decide) ?_
                      refine lv_iadd hx hb d_md_rivals_128 ?_
                      refine lv_istore (lv' := [(4, .int (v4 + (1 : Int32))), (7, .int (1 : Int32)), (6, .int r_4), (0, .ref Mh), (1, .int mv), (2, .int wt), (3, .int v3), (5, .int v5)]) hx hb d_md_rivals_129 hl (by decide) rfl (fun ls hl => ?_)
                      refine lv_iinc (v := v5 + (1 : Int32)) (lv' := [(5, .int (v5 + (1 : Int32))), (4, .int (v4 + (1 : Int32))), (7, .int (1 : Int32)), (6, .int r_4), (0, .ref Mh), (1, .int mv), (2, .int wt), (3, .int v3)]) hx hb d_md_rivals_131 hl (k := 7) rfl rfl (by decide) rfl (fun ls hl => ?_)
                      refine lv_goto (tgt := 11) hx hb d_md_rivals_134 (by decide) ?_
                      exact ih11  v3 (v4 + (1 : Int32)) (v5 + (1 : Int32)) ls (lp_s i0 c_2) (f0) (lp_d i0 c_2 h_t hm) (lv_sub hl [4, 5, 6, 7, 1, 0] rfl) hF
                · have hF := hF.trans (if_pos c_14)
                  refine lv_iload hx hb d_md_rivals_94 (lv_at hl 1 rfl) ?_
                  refine lv_bipush (v := 8) hx hb d_md_rivals_96 (by decide) ?_
                  refine lv_irem hx hb d_md_rivals_98 (by decide) ?_
                  refine lv_iload_n hx hb d_md_rivals_99 rfl (lv_at hl 5 rfl) ?_
                  refine lv_bipush (v := 8) hx hb d_md_rivals_100 (by decide) ?_
                  refine lv_irem hx hb d_md_rivals_102 (by decide) ?_
                  refine lv_icmp_eq (tgt := 123) hx hb d_md_rivals_103 (by decide) (fun c_17 => ?_) (fun c_17 => ?_)
                  · have hF := hF.trans (if_pos c_17)
                    refine lv_iconst (v := 1) hx hb d_md_rivals_123 (by decide) ?_
                    refine lv_goto (tgt := 128) hx hb d_md_rivals_124 (by decide) ?_
                    refine lv_iadd hx hb d_md_rivals_128 ?_
                    refine lv_istore (lv' := [(4, .int (v4 + (1 : Int32))), (7, .int (1 : Int32)), (6, .int r_4), (0, .ref Mh), (1, .int mv), (2, .int wt), (3, .int v3), (5, .int v5)]) hx hb d_md_rivals_129 hl (by decide) rfl (fun ls hl => ?_)
                    refine lv_iinc (v := v5 + (1 : Int32)) (lv' := [(5, .int (v5 + (1 : Int32))), (4, .int (v4 + (1 : Int32))), (7, .int (1 : Int32)), (6, .int r_4), (0, .ref Mh), (1, .int mv), (2, .int wt), (3, .int v3)]) hx hb d_md_rivals_131 hl (k := 7) rfl rfl (by decide) rfl (fun ls hl => ?_)
                    refine lv_goto (tgt := 11) hx hb d_md_rivals_134 (by decide) ?_
                    exact ih11  v3 (v4 + (1 : Int32)) (v5 + (1 : Int32)) ls (lp_s i0 c_2) (f0) (lp_d i0 c_2 h_t hm) (lv_sub hl [4, 5, 6, 7, 1, 0] rfl) hF
                  · have hF := hF.trans (if_neg c_17)
                    refine lv_iload_n hx hb d_md_rivals_106 rfl (lv_at hl 4 rfl) ?_
                    refine lv_iconst (v := 2) hx hb d_md_rivals_107 (by decide) ?_
                    refine lv_icmp_ne (tgt := 127) hx hb d_md_rivals_108 (by decide) (fun c_18 => ?_) (fun c_18 => ?_)
                    · have hF := hF.trans (if_neg c_18)
                      refine lv_iconst (v := 0) hx hb d_md_rivals_127 (by decide) ?_
                      refine lv_iadd hx hb d_md_rivals_128 ?_
                      refine lv_istore (lv' := [(4, .int (v4 + (0 : Int32))), (7, .int (1 : Int32)), (6, .int r_4), (0, .ref Mh), (1, .int mv), (2, .int wt), (3, .int v3), (5, .int v5)]) hx hb d_md_rivals_129 hl (by decide) rfl (fun ls hl => ?_)
                      refine lv_iinc (v := v5 + (1 : Int32)) (lv' := [(5, .int (v5 + (1 : Int32))), (4, .int (v4 + (0 : Int32))), (7, .int (1 : Int32)), (6, .int r_4), (0, .ref Mh), (1, .int mv), (2, .int wt), (3, .int v3)]) hx hb d_md_rivals_131 hl (k := 7) rfl rfl (by decide) rfl (fun ls hl => ?_)
                      refine lv_goto (tgt := 11) hx hb d_md_rivals_134 (by decide) ?_
                      exact ih11  v3 (v4 + (0 : Int32)) (v5 + (1 : Int32)) ls (lp_s i0 c_2) (f0) (lp_d i0 c_2 h_t hm) (lv_sub hl [4, 5, 6, 7, 1, 0] rfl) hF
                    · have hF := hF.trans (if_pos c_18)
                      refine lv_iload hx hb d_md_rivals_111 (lv_at hl 1 rfl) ?_
                      refine lv_bipush (v := 8) hx hb d_md_rivals_113 (by decide) ?_
                      refine lv_idiv hx hb d_md_rivals_115 (by decide) ?_
                      refine lv_iload_n hx hb d_md_rivals_116 rfl (lv_at hl 5 rfl) ?_
                      refine lv_bipush (v := 8) hx hb d_md_rivals_117 (by decide) ?_
                      refine lv_idiv hx hb d_md_rivals_119 (by decide) ?_
                      refine lv_icmp_ne (tgt := 127) hx hb d_md_rivals_120 (by decide) (fun c_19 => ?_) (fun c_19 => ?_)
                      · have hF := hF.trans (if_neg c_19)
                        refine lv_iconst (v := 0) hx hb d_md_rivals_127 (by decide) ?_
                        refine lv_iadd hx hb d_md_rivals_128 ?_
                        refine lv_istore (lv' := [(4, .int (v4 + (0 : Int32))), (7, .int (1 : Int32)), (6, .int r_4), (0, .ref Mh), (1, .int mv), (2, .int wt), (3, .int v3), (5, .int v5)]) hx hb d_md_rivals_129 hl (by decide) rfl (fun ls hl => ?_)
                        refine lv_iinc (v := v5 + (1 : Int32)) (lv' := [(5, .int (v5 + (1 : Int32))), (4, .int (v4 + (0 : Int32))), (7, .int (1 : Int32)), (6, .int r_4), (0, .ref Mh), (1, .int mv), (2, .int wt), (3, .int v3)]) hx hb d_md_rivals_131 hl (k := 7) rfl rfl (by decide) rfl (fun ls hl => ?_)
                        refine lv_goto (tgt := 11) hx hb d_md_rivals_134 (by decide) ?_
                        exact ih11  v3 (v4 + (0 : Int32)) (v5 + (1 : Int32)) ls (lp_s i0 c_2) (f0) (lp_d i0 c_2 h_t hm) (lv_sub hl [4, 5, 6, 7, 1, 0] rfl) hF
                      · have hF := hF.trans (if_pos c_19)
                        refine lv_iconst (v := 1) hx hb d_md_rivals_123 (by decide) ?_
                        refine lv_goto (tgt := 128) hx hb d_md_rivals_124 (by decide) ?_
                        refine lv_iadd hx hb d_md_rivals_128 ?_
                        refine lv_istore (lv' := [(4, .int (v4 + (1 : Int32))), (7, .int (1 : Int32)), (6, .int r_4), (0, .ref Mh), (1, .int mv), (2, .int wt), (3, .int v3), (5, .int v5)]) hx hb d_md_rivals_129 hl (by decide) rfl (fun ls hl => ?_)
                        refine lv_iinc (v := v5 + (1 : Int32)) (lv' := [(5, .int (v5 + (1 : Int32))), (4, .int (v4 + (1 : Int32))), (7, .int (1 : Int32)), (6, .int r_4), (0, .ref Mh), (1, .int mv), (2, .int wt), (3, .int v3)]) hx hb d_md_rivals_131 hl (k := 7) rfl rfl (by decide) rfl (fun ls hl => ?_)
                        refine lv_goto (tgt := 11) hx hb d_md_rivals_134 (by decide) ?_
                        exact ih11  v3 (v4 + (1 : Int32)) (v5 + (1 : Int32)) ls (lp_s i0 c_2) (f0) (lp_d i0 c_2 h_t hm) (lv_sub hl [4, 5, 6, 7, 1, 0] rfl) hF
  exact loop11 331 r_1 (0 : Int32) (0 : Int32) ls (by decide) (fr_in hw_1) (by decide) (lv_sub hl [3, 4, 5, 2, 1, 0] rfl) hF
def f_md_sayOrigin (M_board : (Nat → Int32)) (M_moves : (Nat → Int32)) (M_out : (Nat → Int32)) (M_told : Int32) (M_outs : Int32) (mv : Int32) : (Nat → Int32) × Int32 := (bnd (f_md_fromOf mv) (fun r_1 => (bnd (f_md_rivals M_board M_moves M_told mv (0 : Int32)) (fun r_2 => (if r_2 = 0 then (M_out, M_outs) else (bnd (f_md_rivals M_board M_moves M_told mv (1 : Int32)) (fun r_4 => (if r_4 = 0 then (bnd (f_md_say M_out M_outs ((97 : Int32) + (r_1 - r_1 / (8 : Int32) * (8 : Int32)))) (fun u_11 => (u_11.1, u_11.2))) else (bnd (f_md_rivals M_board M_moves M_told mv (2 : Int32)) (fun r_6 => (if r_6 = 0 then (bnd (f_md_say M_out M_outs ((49 : Int32) + (r_1 / (8 : Int32)))) (fun u_10 => (u_10.1, u_10.2))) else (bnd (f_md_say M_out M_outs ((97 : Int32) + (r_1 - r_1 / (8 : Int32) * (8 : Int32)))) (fun u_8 => (bnd (f_md_say u_8.1 u_8.2 ((49 : Int32) + (r_1 / (8 : Int32)))) (fun u_9 => (u_9.1, u_9.2))))))))))))))))
set_option maxHeartbeats 4000000 in
set_option maxRecDepth 100000 in
theorem c_md_sayOrigin (l : Launch) (K : KT) (sz : Nat) (Mh Ma0 Ma1 Ma2 Ma3 Ma4 Ma5 : Nat) (M_board : (Nat → Int32)) (M_text : (Nat → Int32)) (M_moves : (Nat → Int32)) (M_signs : (Nat → Int32)) (M_newBoard : (Nat → Int32)) (M_out : (Nat → Int32)) (M_thrown : Int32) (M_side : Int32) (M_rights : Int32) (M_passant : Int32) (M_clock : Int32) (M_number : Int32) (M_size : Int32) (M_told : Int32) (M_at : Int32) (M_newSide : Int32) (M_newRights : Int32) (M_newPassant : Int32) (M_newClock : Int32) (M_newNumber : Int32) (M_outs : Int32) (mv : Int32) : Met l y_md_sayOrigin w_md_sayOrigin ({ frames := 2, cells := 0, slots := 0, locals := 47 } : Room) (va_Pc [.ref Mh, .int mv] (fun U => pMU K [(Mh, .inr (6, [.int M_thrown, .ref Ma0, .int M_side, .int M_rights, .int M_passant, .int M_clock, .int M_number, .ref Ma1, .int M_size, .int M_told, .ref Ma2, .ref Ma3, .int M_at, .ref Ma4, .int M_newSide, .int M_newRights, .int M_newPassant, .int M_newClock, .int M_newNumber, .ref Ma5, .int M_outs])), (Ma0, .inl ((kI K), 64, .inl M_board)), (Ma1, .inl ((kI K), 100, .inl M_text)), (Ma2, .inl ((kI K), 330, .inl M_moves)), (Ma3, .inl ((kI K), 330, .inl M_signs)), (Ma4, .inl ((kI K), 64, .inl M_newBoard)), (Ma5, .inl ((kI K), 16, .inl M_out))] sz U ∧ 0 ≤ M_outs.toInt ∧ M_outs.toInt ≤ 14 ∧ M_told.toInt ≤ 330 ∧ True)) (va_Qv (fun u : (Nat → Int32) × Int32 => f_md_sayOrigin M_board M_moves M_out M_told M_outs mv = u ∧ (u.2.toInt ≤ M_outs.toInt + 2) ∧ (0 ≤ u.2.toInt) ∧ True) (fun (u : (Nat → Int32) × Int32) (t : State) => va_P (kD K) vwCl [(Mh, .inr (6, [.int M_thrown, .ref Ma0, .int M_side, .int M_rights, .int M_passant, .int M_clock, .int M_number, .ref Ma1, .int M_size, .int M_told, .ref Ma2, .ref Ma3, .int M_at, .ref Ma4, .int M_newSide, .int M_newRights, .int M_newPassant, .int M_newClock, .int M_newNumber, .ref Ma5, .int u.2])), (Ma0, .inl ((kI K), 64, .inl M_board)), (Ma1, .inl ((kI K), 100, .inl M_text)), (Ma2, .inl ((kI K), 330, .inl M_moves)), (Ma3, .inl ((kI K), 330, .inl M_signs)), (Ma4, .inl ((kI K), 64, .inl M_newBoard)), (Ma5, .inl ((kI K), 16, .inl u.1))] t.heap ∧ va_D (va_A [(Mh, .inr (6, [.int M_thrown, .ref Ma0, .int M_side, .int M_rights, .int M_passant, .int M_clock, .int M_number, .ref Ma1, .int M_size, .int M_told, .ref Ma2, .ref Ma3, .int M_at, .ref Ma4, .int M_newSide, .int M_newRights, .int M_newPassant, .int M_newClock, .int M_newNumber, .ref Ma5, .int M_outs])), (Ma0, .inl ((kI K), 64, .inl M_board)), (Ma1, .inl ((kI K), 100, .inl M_text)), (Ma2, .inl ((kI K), 330, .inl M_moves)), (Ma3, .inl ((kI K), 330, .inl M_signs)), (Ma4, .inl ((kI K), 64, .inl M_newBoard)), (Ma5, .inl ((kI K), 16, .inl M_out))] sz) [(Mh, .inr (6, [.int M_thrown, .ref Ma0, .int M_side, .int M_rights, .int M_passant, .int M_clock, .int M_number, .ref Ma1, .int M_size, .int M_told, .ref Ma2, .ref Ma3, .int M_at, .ref Ma4, .int M_newSide, .int M_newRights, .int M_newPassant, .int M_newClock, .int M_newNumber, .ref Ma5, .int u.2])), (Ma0, .inl ((kI K), 64, .inl M_board)), (Ma1, .inl ((kI K), 100, .inl M_text)), (Ma2, .inl ((kI K), 330, .inl M_moves)), (Ma3, .inl ((kI K), 330, .inl M_signs)), (Ma4, .inl ((kI K), 64, .inl M_newBoard)), (Ma5, .inl ((kI K), 16, .inl u.1))]) (va_A [(Mh, .inr (6, [.int M_thrown, .ref Ma0, .int M_side, .int M_rights, .int M_passant, .int M_clock, .int M_number, .ref Ma1, .int M_size, .int M_told, .ref Ma2, .ref Ma3, .int M_at, .ref Ma4, .int M_newSide, .int M_newRights, .int M_newPassant, .int M_newClock, .int M_newNumber, .ref Ma5, .int M_outs])), (Ma0, .inl ((kI K), 64, .inl M_board)), (Ma1, .inl ((kI K), 100, .inl M_text)), (Ma2, .inl ((kI K), 330, .inl M_moves)), (Ma3, .inl ((kI K), 330, .inl M_signs)), (Ma4, .inl ((kI K), 64, .inl M_newBoard)), (Ma5, .inl ((kI K), 16, .inl M_out))] sz)) 0 0 (va_A [(Mh, .inr (6, [.int M_thrown, .ref Ma0, .int M_side, .int M_rights, .int M_passant, .int M_clock, .int M_number, .ref Ma1, .int M_size, .int M_told, .ref Ma2, .ref Ma3, .int M_at, .ref Ma4, .int M_newSide, .int M_newRights, .int M_newPassant, .int M_newClock, .int M_newNumber, .ref Ma5, .int M_outs])), (Ma0, .inl ((kI K), 64, .inl M_board)), (Ma1, .inl ((kI K), 100, .inl M_text)), (Ma2, .inl ((kI K), 330, .inl M_moves)), (Ma3, .inl ((kI K), 330, .inl M_signs)), (Ma4, .inl ((kI K), 64, .inl M_newBoard)), (Ma5, .inl ((kI K), 16, .inl M_out))] sz) := by
  refine Met.ofW (cc := b_md_sayOrigin) (maxL := 5) (ret := none) (by decide) rfl ?_
  intro p e s m args below meth c s₁ B hml hv
  obtain ⟨rfl, ⟨hsz, hP, hK, hD0, hG⟩, h_o, h_o1, h_t, -⟩ := hv
  have hx := B.exec
  have hb := B.bytes
  have hr := B.returns
  have hts := atoms_spec (ws := w_md_sayOrigin) B.pre
  have hown : s.vm.findClass R_md = some m.cls := findClass_of_methodNamed B.named
  have hlocks := B.notSynchronized
  have htg := fun w h => hts w (List.mem_cons_of_mem _ h)
  subst hsz
  have hD := hD0.self (sz := s.heap.size)
  generalize hAe : va_A [(Mh, .inr (6, [.int M_thrown, .ref Ma0, .int M_side, .int M_rights, .int M_passant, .int M_clock, .int M_number, .ref Ma1, .int M_size, .int M_told, .ref Ma2, .ref Ma3, .int M_at, .ref Ma4, .int M_newSide, .int M_newRights, .int M_newPassant, .int M_newClock, .int M_newNumber, .ref Ma5, .int M_outs])), (Ma0, .inl ((kI K), 64, .inl M_board)), (Ma1, .inl ((kI K), 100, .inl M_text)), (Ma2, .inl ((kI K), 330, .inl M_moves)), (Ma3, .inl ((kI K), 330, .inl M_signs)), (Ma4, .inl ((kI K), 64, .inl M_newBoard)), (Ma5, .inl ((kI K), 16, .inl M_out))] s.heap.size = A at hD hG ⊢
  have hA : ∀ q : Nat, s.heap.size ≤ q → A q := fun q h => by rw [← hAe]; exact Or.inr h
  have hS : va_S A s.heap s.heap [] := va_S.rf
  have hl := lv_entry ([.ref Mh, .int mv]) (n := 5) (Nat.le_of_ble_eq_true rfl)
  rw [lg_entry_eq]
  generalize (lg_sl ([.ref Mh, .int mv]) ++ List.replicate (5 - (lg_sl ([.ref Mh, .int mv])).length) Slot.unset).toArray = ls at hl ⊢
  have hl : lv_has ls 5 [(0, .ref Mh), (1, .int mv)] := hl
  have z0 : (0 : Int32).toInt = 0 := by decide
  have z1 : (1 : Int32).toInt = 1 := by decide
  have zm1 : (-1 : Int32).toInt = -1 := by decide
  have z2 : (2 : Int32).toInt = 2 := by decide
  have z3 : (3 : Int32).toInt = 3 := by decide
  have z7 : (7 : Int32).toInt = 7 := by decide
  have z8 : (8 : Int32).toInt = 8 := by decide
  have z16 : (16 : Int32).toInt = 16 := by decide
  have z64 : (64 : Int32).toInt = 64 := by decide
  have z100 : (100 : Int32).toInt = 100 := by decide
  have z330 : (330 : Int32).toInt = 330 := by decide
  have hF := f_md_sayOrigin.eq_1 M_board M_moves M_out M_told M_outs mv
  refine lv_iload_n hx hb d_md_sayOrigin_0 rfl (lv_at hl 1 rfl) ?_
  have hPc : va_P (kD K) vwCl [] _ := hP.sub [] rfl
  refine vp_callSi (va_Run.run (va_runS (As := [.int mv]) (rest := []) ⟨hx, hb, hml, hown, htg⟩ (c_md_fromOf l K mv) (va_cwS 1 htg (g_S q_985 q_986 q_7 (g_w q_987)) rfl rfl rfl k_md_fromOf ⟨Nat.le_of_ble_eq_true rfl, Nat.le_of_ble_eq_true rfl⟩) ⟨ro_blind, ro_use hPc hK hG hS trivial⟩ rfl rfl hl.1 rfl (lv_room (Nat.le_of_ble_eq_true rfl)) d_md_sayOrigin_1 ⟨Nat.zero_le _, Nat.zero_le _⟩)) (fun r_1 hw_1 => ?_)
  have hF := hF.trans (bnd_s hw_1.1)
  refine lv_istore_n (lv' := [(2, .int r_1), (0, .ref Mh), (1, .int mv)]) hx hb d_md_sayOrigin_4 rfl hl (by decide) rfl (fun ls hl => ?_)
  refine lv_aload_n hx hb d_md_sayOrigin_5 rfl (lv_at hl 1 rfl) ?_
  refine lv_iload_n hx hb d_md_sayOrigin_6 rfl (lv_at hl 2 rfl) ?_
  refine lv_iconst (v := 0) hx hb d_md_sayOrigin_7 (by decide) ?_
  have hPc : va_P (kD K) vwCl [(Mh, .inr (6, [.int M_thrown, .ref Ma0, .int M_side, .int M_rights, .int M_passant, .int M_clock, .int M_number, .ref Ma1, .int M_size, .int M_told, .ref Ma2, .ref Ma3, .int M_at, .ref Ma4, .int M_newSide, .int M_newRights, .int M_newPassant, .int M_newClock, .int M_newNumber, .ref Ma5, .int M_outs])), (Ma0, .inl ((kI K), 64, .inl M_board)), (Ma1, .inl ((kI K), 100, .inl M_text)), (Ma2, .inl ((kI K), 330, .inl M_moves)), (Ma3, .inl ((kI K), 330, .inl M_signs)), (Ma4, .inl ((kI K), 64, .inl M_newBoard)), (Ma5, .inl ((kI K), 16, .inl M_out))] _ := hP.sub [0, 1, 2, 3, 4, 5, 6] rfl
  refine vp_callSi (va_Run.run (va_runV (As := [.int mv, .int (0 : Int32)]) (rest := []) ⟨hx, hb, hml, hown, htg⟩ (c_md_rivals l K Mh Ma0 Ma1 Ma2 Ma3 Ma4 Ma5 M_board M_text M_moves M_signs M_newBoard M_out M_thrown M_side M_rights M_passant M_clock M_number M_size M_told M_at M_newSide M_newRights M_newPassant M_newClock M_newNumber M_outs mv (0 : Int32)) (cwV 2 htg (g_V q_1031 q_1033 qs_56 q_7 (g_w q_1034)) rfl rfl rfl ⟨rfl, k_md_rivals⟩ ⟨Nat.le_of_ble_eq_true rfl, Nat.le_of_ble_eq_true rfl⟩) ⟨ro_blind, va_recv hK hPc (ci := 6) (q0 := 0) rfl rfl, ro_use hPc hK hG hS ⟨(by first | assumption | omega), trivial⟩⟩ rfl rfl hl.1 rfl (lv_room (Nat.le_of_ble_eq_true rfl)) d_md_sayOrigin_8 ⟨Nat.zero_le _, Nat.zero_le _⟩)) (fun r_2 hw_2 => ?_)
  have hF := hF.trans (bnd_s hw_2.1)
  refine lv_if_ne (tgt := 15) hx hb d_md_sayOrigin_11 (by decide) (fun c_3 => ?_) (fun c_3 => ?_)
  · have hF := hF.trans (if_neg c_3)
    refine lv_aload_n hx hb d_md_sayOrigin_15 rfl (lv_at hl 1 rfl) ?_
    refine lv_iload_n hx hb d_md_sayOrigin_16 rfl (lv_at hl 2 rfl) ?_
    refine lv_iconst (v := 1) hx hb d_md_sayOrigin_17 (by decide) ?_
    have hPc : va_P (kD K) vwCl [(Mh, .inr (6, [.int M_thrown, .ref Ma0, .int M_side, .int M_rights, .int M_passant, .int M_clock, .int M_number, .ref Ma1, .int M_size, .int M_told, .ref Ma2, .ref Ma3, .int M_at, .ref Ma4, .int M_newSide, .int M_newRights, .int M_newPassant, .int M_newClock, .int M_newNumber, .ref Ma5, .int M_outs])), (Ma0, .inl ((kI K), 64, .inl M_board)), (Ma1, .inl ((kI K), 100, .inl M_text)), (Ma2, .inl ((kI K), 330, .inl M_moves)), (Ma3, .inl ((kI K), 330, .inl M_signs)), (Ma4, .inl ((kI K), 64, .inl M_newBoard)), (Ma5, .inl ((kI K), 16, .inl M_out))] _ := hP.sub [0, 1, 2, 3, 4, 5, 6] rfl
    refine vp_callSi (va_Run.run (va_runV (As := [.int mv, .int (1 : Int32)]) (rest := []) ⟨hx, hb, hml, hown, htg⟩ (c_md_rivals l K Mh Ma0 Ma1 Ma2 Ma3 Ma4 Ma5 M_board M_text M_moves M_signs M_newBoard M_out M_thrown M_side M_rights M_passant M_clock M_number M_size M_told M_at M_newSide M_newRights M_newPassant M_newClock M_newNumber M_outs mv (1 : Int32)) (cwV 2 htg (g_V q_1031 q_1033 qs_56 q_7 (g_w q_1034)) rfl rfl rfl ⟨rfl, k_md_rivals⟩ ⟨Nat.le_of_ble_eq_true rfl, Nat.le_of_ble_eq_true rfl⟩) ⟨ro_blind, va_recv hK hPc (ci := 6) (q0 := 0) rfl rfl, ro_use hPc hK hG hS ⟨(by first | assumption | omega), trivial⟩⟩ rfl rfl hl.1 rfl (lv_room (Nat.le_of_ble_eq_true rfl)) d_md_sayOrigin_18 ⟨Nat.zero_le _, Nat.zero_le _⟩)) (fun r_4 hw_4 => ?_)
    have hF := hF.trans (bnd_s hw_4.1)
    refine lv_if_ne (tgt := 28) hx hb d_md_sayOrigin_21 (by decide) (fun c_5 => ?_) (fun c_5 => ?_)
    · have hF := hF.trans (if_neg c_5)
      refine lv_iconst (v := 0) hx hb d_md_sayOrigin_28 (by decide) ?_
      refine lv_istore_n (lv' := [(3, .int (0 : Int32)), (2, .int r_1), (0, .ref Mh), (1, .int mv)]) hx hb d_md_sayOrigin_29 rfl hl (by decide) rfl (fun ls hl => ?_)
      refine lv_iload_n hx hb d_md_sayOrigin_30 rfl (lv_at hl 0 rfl) ?_
      refine lv_if_ne (tgt := 47) hx hb d_md_sayOrigin_31 (by decide) (fun c => False.elim (by revert c; decide)) (fun _ => ?_)
      refine lv_aload_n hx hb d_md_sayOrigin_34 rfl (lv_at hl 2 rfl) ?_
      refine lv_iload_n hx hb d_md_sayOrigin_35 rfl (lv_at hl 3 rfl) ?_
      refine lv_iconst (v := 2) hx hb d_md_sayOrigin_36 (by decide) ?_
      have hPc : va_P (kD K) vwCl [(Mh, .inr (6, [.int M_thrown, .ref Ma0, .int M_side, .int M_rights, .int M_passant, .int M_clock, .int M_number, .ref Ma1, .int M_size, .int M_told, .ref Ma2, .ref Ma3, .int M_at, .ref Ma4, .int M_newSide, .int M_newRights, .int M_newPassant, .int M_newClock, .int M_newNumber, .ref Ma5, .int M_outs])), (Ma0, .inl ((kI K), 64, .inl M_board)), (Ma1, .inl ((kI K), 100, .inl M_text)), (Ma2, .inl ((kI K), 330, .inl M_moves)), (Ma3, .inl ((kI K), 330, .inl M_signs)), (Ma4, .inl ((kI K), 64, .inl M_newBoard)), (Ma5, .inl ((kI K), 16, .inl M_out))] _ := hP.sub [0, 1, 2, 3, 4, 5, 6] rfl
      refine vp_callSi (va_Run.run (va_runV (As := [.int mv, .int (2 : Int32)]) (rest := []) ⟨hx, hb, hml, hown, htg⟩ (c_md_rivals l K Mh Ma0 Ma1 Ma2 Ma3 Ma4 Ma5 M_board M_text M_moves M_signs M_newBoard M_out M_thrown M_side M_rights M_passant M_clock M_number M_size M_told M_at M_newSide M_newRights M_newPassant M_newClock M_newNumber M_outs mv (2 : Int32)) (cwV 2 htg (g_V q_1031 q_1033 qs_56 q_7 (g_w q_1034)) rfl rfl rfl ⟨rfl, k_md_rivals⟩ ⟨Nat.le_of_ble_eq_true rfl, Nat.le_of_ble_eq_true rfl⟩) ⟨ro_blind, va_recv hK hPc (ci := 6) (q0 := 0) rfl rfl, ro_use hPc hK hG hS ⟨(by first | assumption | omega), trivial⟩⟩ rfl rfl hl.1 rfl (lv_room (Nat.le_of_ble_eq_true rfl)) d_md_sayOrigin_37 ⟨Nat.zero_le _, Nat.zero_le _⟩)) (fun r_6 hw_6 => ?_)
      have hF := hF.trans (bnd_s hw_6.1)
      refine lv_if_ne (tgt := 47) hx hb d_md_sayOrigin_40 (by decide) (fun c_7 => ?_) (fun c_7 => ?_)
      · have hF := hF.trans (if_neg c_7)
        refine lv_iconst (v := 0) hx hb d_md_sayOrigin_47 (by decide) ?_
        refine lv_istore (lv' := [(4, .int (0 : Int32)), (3, .int (0 : Int32)), (2, .int r_1), (0, .ref Mh), (1, .int mv)]) hx hb d_md_sayOrigin_48 hl (by decide) rfl (fun ls hl => ?_)
        refine lv_iload_n hx hb d_md_sayOrigin_50 rfl (lv_at hl 1 rfl) ?_
        refine lv_if_ne (tgt := 59) hx hb d_md_sayOrigin_51 (by decide) (fun c => False.elim (by revert c; decide)) (fun _ => ?_)
        refine lv_iload hx hb d_md_sayOrigin_54 (lv_at hl 0 rfl) ?_
        refine lv_if_ne (tgt := 70) hx hb d_md_sayOrigin_56 (by decide) (fun c => False.elim (by revert c; decide)) (fun _ => ?_)
        refine lv_aload_n hx hb d_md_sayOrigin_59 rfl (lv_at hl 3 rfl) ?_
        refine lv_bipush (v := 97) hx hb d_md_sayOrigin_60 (by decide) ?_
        refine lv_iload_n hx hb d_md_sayOrigin_62 rfl (lv_at hl 2 rfl) ?_
        refine lv_bipush (v := 8) hx hb d_md_sayOrigin_63 (by decide) ?_
        refine lv_irem hx hb d_md_sayOrigin_65 (by decide) ?_
        refine lv_iadd hx hb d_md_sayOrigin_66 ?_
        have hPc : va_P (kD K) vwCl [(Mh, .inr (6, [.int M_thrown, .ref Ma0, .int M_side, .int M_rights, .int M_passant, .int M_clock, .int M_number, .ref Ma1, .int M_size, .int M_told, .ref Ma2, .ref Ma3, .int M_at, .ref Ma4, .int M_newSide, .int M_newRights, .int M_newPassant, .int M_newClock, .int M_newNumber, .ref Ma5, .int M_outs])), (Ma0, .inl ((kI K), 64, .inl M_board)), (Ma1, .inl ((kI K), 100, .inl M_text)), (Ma2, .inl ((kI K), 330, .inl M_moves)), (Ma3, .inl ((kI K), 330, .inl M_signs)), (Ma4, .inl ((kI K), 64, .inl M_newBoard)), (Ma5, .inl ((kI K), 16, .inl M_out))] _ := hP.sub [0, 1, 2, 3, 4, 5, 6] rfl
        have hDc : va_D A [(Mh, .inr (6, [.int M_thrown, .ref Ma0, .int M_side, .int M_rights, .int M_passant, .int M_clock, .int M_number, .ref Ma1, .int M_size, .int M_told, .ref Ma2, .ref Ma3, .int M_at, .ref Ma4, .int M_newSide, .int M_newRights, .int M_newPassant, .int M_newClock, .int M_newNumber, .ref Ma5, .int M_outs])), (Ma0, .inl ((kI K), 64, .inl M_board)), (Ma1, .inl ((kI K), 100, .inl M_text)), (Ma2, .inl ((kI K), 330, .inl M_moves)), (Ma3, .inl ((kI K), 330, .inl M_signs)), (Ma4, .inl ((kI K), 64, .inl M_newBoard)), (Ma5, .inl ((kI K), 16, .inl M_out))] := hD.sub [0, 1, 2, 3, 4, 5, 6] (by decide) rfl
        have hFc := va_free (wc := [(Mh, .inr (6, [.int M_thrown, .ref Ma0, .int M_side, .int M_rights, .int M_passant, .int M_clock, .int M_number, .ref Ma1, .int M_size, .int M_told, .ref Ma2, .ref Ma3, .int M_at, .ref Ma4, .int M_newSide, .int M_newRights, .int M_newPassant, .int M_newClock, .int M_newNumber, .ref Ma5, .int M_outs])), (Ma0, .inl ((kI K), 64, .inl M_board)), (Ma1, .inl ((kI K), 100, .inl M_text)), (Ma2, .inl ((kI K), 330, .inl M_moves)), (Ma3, .inl ((kI K), 330, .inl M_signs)), (Ma4, .inl ((kI K), 64, .inl M_newBoard)), (Ma5, .inl ((kI K), 16, .inl M_out))]) hD hS hA [0, 1, 2, 3, 4, 5, 6] rfl
        refine va_callv (va_runV (As := [.int ((97 : Int32) + (r_1 - r_1 / (8 : Int32) * (8 : Int32)))]) (rest := []) ⟨hx, hb, hml, hown, htg⟩ (c_md_say l K _ Mh Ma0 Ma1 Ma2 Ma3 Ma4 Ma5 M_board M_text M_moves M_signs M_newBoard M_out M_thrown M_side M_rights M_passant M_clock M_number M_size M_told M_at M_newSide M_newRights M_newPassant M_newClock M_newNumber M_outs ((97 : Int32) + (r_1 - r_1 / (8 : Int32) * (8 : Int32)))) (cwV 1 htg (g_V q_1019 q_1021 qs_53 q_7 (g_w q_1022)) rfl rfl rfl ⟨rfl, k_md_say⟩ ⟨Nat.le_of_ble_eq_true rfl, Nat.le_of_ble_eq_true rfl⟩) ⟨mu_blind, va_recv hK hPc (ci := 6) (q0 := 0) rfl rfl, mu_use hPc hK hDc hG hS hFc ⟨(by first | assumption | omega), (by first | assumption | omega), trivial⟩⟩ rfl rfl hl.1 rfl (lv_room (Nat.le_of_ble_eq_true rfl)) d_md_sayOrigin_67 ⟨Nat.zero_le _, Nat.zero_le _⟩) hS (fun q _ h => hFc q h) hFc (fun u_8 t H1 locs ht hvm hw_8 hB hz1 hk1 hS => ?_)
        obtain ⟨hP1, hD1⟩ := hB
        rw [ht] at hP1
        obtain ⟨hP, hD⟩ := va_join (wr := []) (w1 := [(Mh, .inr (6, [.int M_thrown, .ref Ma0, .int M_side, .int M_rights, .int M_passant, .int M_clock, .int M_number, .ref Ma1, .int M_size, .int M_told, .ref Ma2, .ref Ma3, .int M_at, .ref Ma4, .int M_newSide, .int M_newRights, .int M_newPassant, .int M_newClock, .int M_newNumber, .ref Ma5, .int u_8.2])), (Ma0, .inl ((kI K), 64, .inl M_board)), (Ma1, .inl ((kI K), 100, .inl M_text)), (Ma2, .inl ((kI K), 330, .inl M_moves)), (Ma3, .inl ((kI K), 330, .inl M_signs)), (Ma4, .inl ((kI K), 64, .inl M_newBoard)), (Ma5, .inl ((kI K), 16, .inl u_8.1))]) hP hD [0, 1, 2, 3, 4, 5, 6] [] rfl rfl (by decide) (by decide) hk1 hFc hP1 hD1
        have hP : va_P (kD K) vwCl [(Mh, .inr (6, [.int M_thrown, .ref Ma0, .int M_side, .int M_rights, .int M_passant, .int M_clock, .int M_number, .ref Ma1, .int M_size, .int M_told, .ref Ma2, .ref Ma3, .int M_at, .ref Ma4, .int M_newSide, .int M_newRights, .int M_newPassant, .int M_newClock, .int M_newNumber, .ref Ma5, .int u_8.2])), (Ma0, .inl ((kI K), 64, .inl M_board)), (Ma1, .inl ((kI K), 100, .inl M_text)), (Ma2, .inl ((kI K), 330, .inl M_moves)), (Ma3, .inl ((kI K), 330, .inl M_signs)), (Ma4, .inl ((kI K), 64, .inl M_newBoard)), (Ma5, .inl ((kI K), 16, .inl u_8.1))] H1 := hP.sub [0, 1, 2, 3, 4, 5, 6] rfl
        have hD : va_D A [(Mh, .inr (6, [.int M_thrown, .ref Ma0, .int M_side, .int M_rights, .int M_passant, .int M_clock, .int M_number, .ref Ma1, .int M_size, .int M_told, .ref Ma2, .ref Ma3, .int M_at, .ref Ma4, .int M_newSide, .int M_newRights, .int M_newPassant, .int M_newClock, .int M_newNumber, .ref Ma5, .int u_8.2])), (Ma0, .inl ((kI K), 64, .inl M_board)), (Ma1, .inl ((kI K), 100, .inl M_text)), (Ma2, .inl ((kI K), 330, .inl M_moves)), (Ma3, .inl ((kI K), 330, .inl M_signs)), (Ma4, .inl ((kI K), 64, .inl M_newBoard)), (Ma5, .inl ((kI K), 16, .inl u_8.1))] := hD.sub [0, 1, 2, 3, 4, 5, 6] (by decide) rfl
        generalize H1 = H at hP hS ⊢
        have hF := hF.trans (bnd_s hw_8.1)
        have fp_8_0 : u_8.2.toInt = M_outs.toInt + 1 := hw_8.2.1
        refine lv_iload_n hx hb d_md_sayOrigin_70 rfl (lv_at hl 1 rfl) ?_
        refine lv_if_ne (tgt := 85) hx hb d_md_sayOrigin_71 (by decide) (fun c => False.elim (by revert c; decide)) (fun _ => ?_)
        refine lv_aload_n hx hb d_md_sayOrigin_74 rfl (lv_at hl 3 rfl) ?_
        refine lv_bipush (v := 49) hx hb d_md_sayOrigin_75 (by decide) ?_
        refine lv_iload_n hx hb d_md_sayOrigin_77 rfl (lv_at hl 2 rfl) ?_
        refine lv_bipush (v := 8) hx hb d_md_sayOrigin_78 (by decide) ?_
        refine lv_idiv hx hb d_md_sayOrigin_80 (by decide) ?_
        refine lv_iadd hx hb d_md_sayOrigin_81 ?_
        have hPc : va_P (kD K) vwCl [(Mh, .inr (6, [.int M_thrown, .ref Ma0, .int M_side, .int M_rights, .int M_passant, .int M_clock, .int M_number, .ref Ma1, .int M_size, .int M_told, .ref Ma2, .ref Ma3, .int M_at, .ref Ma4, .int M_newSide, .int M_newRights, .int M_newPassant, .int M_newClock, .int M_newNumber, .ref Ma5, .int u_8.2])), (Ma0, .inl ((kI K), 64, .inl M_board)), (Ma1, .inl ((kI K), 100, .inl M_text)), (Ma2, .inl ((kI K), 330, .inl M_moves)), (Ma3, .inl ((kI K), 330, .inl M_signs)), (Ma4, .inl ((kI K), 64, .inl M_newBoard)), (Ma5, .inl ((kI K), 16, .inl u_8.1))] _ := hP.sub [0, 1, 2, 3, 4, 5, 6] rfl
        have hDc : va_D A [(Mh, .inr (6, [.int M_thrown, .ref Ma0, .int M_side, .int M_rights, .int M_passant, .int M_clock, .int M_number, .ref Ma1, .int M_size, .int M_told, .ref Ma2, .ref Ma3, .int M_at, .ref Ma4, .int M_newSide, .int M_newRights, .int M_newPassant, .int M_newClock, .int M_newNumber, .ref Ma5, .int u_8.2])), (Ma0, .inl ((kI K), 64, .inl M_board)), (Ma1, .inl ((kI K), 100, .inl M_text)), (Ma2, .inl ((kI K), 330, .inl M_moves)), (Ma3, .inl ((kI K), 330, .inl M_signs)), (Ma4, .inl ((kI K), 64, .inl M_newBoard)), (Ma5, .inl ((kI K), 16, .inl u_8.1))] := hD.sub [0, 1, 2, 3, 4, 5, 6] (by decide) rfl
        have hFc := va_free (wc := [(Mh, .inr (6, [.int M_thrown, .ref Ma0, .int M_side, .int M_rights, .int M_passant, .int M_clock, .int M_number, .ref Ma1, .int M_size, .int M_told, .ref Ma2, .ref Ma3, .int M_at, .ref Ma4, .int M_newSide, .int M_newRights, .int M_newPassant, .int M_newClock, .int M_newNumber, .ref Ma5, .int u_8.2])), (Ma0, .inl ((kI K), 64, .inl M_board)), (Ma1, .inl ((kI K), 100, .inl M_text)), (Ma2, .inl ((kI K), 330, .inl M_moves)), (Ma3, .inl ((kI K), 330, .inl M_signs)), (Ma4, .inl ((kI K), 64, .inl M_newBoard)), (Ma5, .inl ((kI K), 16, .inl u_8.1))]) hD hS hA [0, 1, 2, 3, 4, 5, 6] rfl
        refine va_callv (va_runV (As := [.int ((49 : Int32) + (r_1 / (8 : Int32)))]) (rest := []) ⟨hx, hb, hml, hown, htg⟩ (c_md_say l K _ Mh Ma0 Ma1 Ma2 Ma3 Ma4 Ma5 M_board M_text M_moves M_signs M_newBoard u_8.1 M_thrown M_side M_rights M_passant M_clock M_number M_size M_told M_at M_newSide M_newRights M_newPassant M_newClock M_newNumber u_8.2 ((49 : Int32) + (r_1 / (8 : Int32)))) (cwV 1 htg (g_V q_1019 q_1021 qs_53 q_7 (g_w q_1022)) rfl rfl rfl ⟨rfl, k_md_say⟩ ⟨Nat.le_of_ble_eq_true rfl, Nat.le_of_ble_eq_true rfl⟩) ⟨mu_blind, va_recv hK hPc (ci := 6) (q0 := 0) rfl rfl, mu_use hPc hK hDc hG hS hFc ⟨(by first | assumption | omega), (by first | assumption | omega), trivial⟩⟩ rfl rfl hl.1 rfl (lv_room (Nat.le_of_ble_eq_true rfl)) d_md_sayOrigin_82 ⟨Nat.zero_le _, Nat.zero_le _⟩) hS (fun q _ h => hFc q h) hFc (fun u_9 t H1 locs ht hvm hw_9 hB hz1 hk1 hS => ?_)
        obtain ⟨hP1, hD1⟩ := hB
        rw [ht] at hP1
        obtain ⟨hP, hD⟩ := va_join (wr := []) (w1 := [(Mh, .inr (6, [.int M_thrown, .ref Ma0, .int M_side, .int M_rights, .int M_passant, .int M_clock, .int M_number, .ref Ma1, .int M_size, .int M_told, .ref Ma2, .ref Ma3, .int M_at, .ref Ma4, .int M_newSide, .int M_newRights, .int M_newPassant, .int M_newClock, .int M_newNumber, .ref Ma5, .int u_9.2])), (Ma0, .inl ((kI K), 64, .inl M_board)), (Ma1, .inl ((kI K), 100, .inl M_text)), (Ma2, .inl ((kI K), 330, .inl M_moves)), (Ma3, .inl ((kI K), 330, .inl M_signs)), (Ma4, .inl ((kI K), 64, .inl M_newBoard)), (Ma5, .inl ((kI K), 16, .inl u_9.1))]) hP hD [0, 1, 2, 3, 4, 5, 6] [] rfl rfl (by decide) (by decide) hk1 hFc hP1 hD1
        have hP : va_P (kD K) vwCl [(Mh, .inr (6, [.int M_thrown, .ref Ma0, .int M_side, .int M_rights, .int M_passant, .int M_clock, .int M_number, .ref Ma1, .int M_size, .int M_told, .ref Ma2, .ref Ma3, .int M_at, .ref Ma4, .int M_newSide, .int M_newRights, .int M_newPassant, .int M_newClock, .int M_newNumber, .ref Ma5, .int u_9.2])), (Ma0, .inl ((kI K), 64, .inl M_board)), (Ma1, .inl ((kI K), 100, .inl M_text)), (Ma2, .inl ((kI K), 330, .inl M_moves)), (Ma3, .inl ((kI K), 330, .inl M_signs)), (Ma4, .inl ((kI K), 64, .inl M_newBoard)), (Ma5, .inl ((kI K), 16, .inl u_9.1))] H1 := hP.sub [0, 1, 2, 3, 4, 5, 6] rfl
        have hD : va_D A [(Mh, .inr (6, [.int M_thrown, .ref Ma0, .int M_side, .int M_rights, .int M_passant, .int M_clock, .int M_number, .ref Ma1, .int M_size, .int M_told, .ref Ma2, .ref Ma3, .int M_at, .ref Ma4, .int M_newSide, .int M_newRights, .int M_newPassant, .int M_newClock, .int M_newNumber, .ref Ma5, .int u_9.2])), (Ma0, .inl ((kI K), 64, .inl M_board)), (Ma1, .inl ((kI K), 100, .inl M_text)), (Ma2, .inl ((kI K), 330, .inl M_moves)), (Ma3, .inl ((kI K), 330, .inl M_signs)), (Ma4, .inl ((kI K), 64, .inl M_newBoard)), (Ma5, .inl ((kI K), 16, .inl u_9.1))] := hD.sub [0, 1, 2, 3, 4, 5, 6] (by decide) rfl
        generalize H1 = H at hP hS ⊢
        have hF := hF.trans (bnd_s hw_9.1)
        have fp_9_0 : u_9.2.toInt = u_8.2.toInt + 1 := hw_9.2.1
        exact W.vret hx hb hr (fun t ht hW => ⟨⟨(u_9.1, u_9.2), rfl, ⟨hF, (show u_9.2.toInt ≤ M_outs.toInt + 2 from by omega), (show 0 ≤ u_9.2.toInt from by omega), trivial⟩, ⟨by rw [ht]; exact hP, hD⟩⟩, hS.F ht⟩) hS.2.2 d_md_sayOrigin_85
      · have hF := hF.trans (if_pos c_7)
        refine lv_iconst (v := 1) hx hb d_md_sayOrigin_43 (by decide) ?_
        refine lv_goto (tgt := 48) hx hb d_md_sayOrigin_44 (by decide) ?_
        refine lv_istore (lv' := [(4, .int (1 : Int32)), (3, .int (0 : Int32)), (2, .int r_1), (0, .ref Mh), (1, .int mv)]) hx hb d_md_sayOrigin_48 hl (by decide) rfl (fun ls hl => ?_)
        refine lv_iload_n hx hb d_md_sayOrigin_50 rfl (lv_at hl 1 rfl) ?_
        refine lv_if_ne (tgt := 59) hx hb d_md_sayOrigin_51 (by decide) (fun c => False.elim (by revert c; decide)) (fun _ => ?_)
        refine lv_iload hx hb d_md_sayOrigin_54 (lv_at hl 0 rfl) ?_
        refine lv_if_ne (tgt := 70) hx hb d_md_sayOrigin_56 (by decide) (fun _ => ?_) (fun c => False.elim (by revert c; decide))
        refine lv_iload_n hx hb d_md_sayOrigin_70 rfl (lv_at hl 1 rfl) ?_
        refine lv_if_ne (tgt := 85) hx hb d_md_sayOrigin_71 (by decide) (fun c => False.elim (by revert c; decide)) (fun _ => ?_)
        refine lv_aload_n hx hb d_md_sayOrigin_74 rfl (lv_at hl 3 rfl) ?_
        refine lv_bipush (v := 49) hx hb d_md_sayOrigin_75 (by decide) ?_
        refine lv_iload_n hx hb d_md_sayOrigin_77 rfl (lv_at hl 2 rfl) ?_
        refine lv_bipush (v := 8) hx hb d_md_sayOrigin_78 (by decide) ?_
        refine lv_idiv hx hb d_md_sayOrigin_80 (by decide) ?_
        refine lv_iadd hx hb d_md_sayOrigin_81 ?_
        have hPc : va_P (kD K) vwCl [(Mh, .inr (6, [.int M_thrown, .ref Ma0, .int M_side, .int M_rights, .int M_passant, .int M_clock, .int M_number, .ref Ma1, .int M_size, .int M_told, .ref Ma2, .ref Ma3, .int M_at, .ref Ma4, .int M_newSide, .int M_newRights, .int M_newPassant, .int M_newClock, .int M_newNumber, .ref Ma5, .int M_outs])), (Ma0, .inl ((kI K), 64, .inl M_board)), (Ma1, .inl ((kI K), 100, .inl M_text)), (Ma2, .inl ((kI K), 330, .inl M_moves)), (Ma3, .inl ((kI K), 330, .inl M_signs)), (Ma4, .inl ((kI K), 64, .inl M_newBoard)), (Ma5, .inl ((kI K), 16, .inl M_out))] _ := hP.sub [0, 1, 2, 3, 4, 5, 6] rfl
        have hDc : va_D A [(Mh, .inr (6, [.int M_thrown, .ref Ma0, .int M_side, .int M_rights, .int M_passant, .int M_clock, .int M_number, .ref Ma1, .int M_size, .int M_told, .ref Ma2, .ref Ma3, .int M_at, .ref Ma4, .int M_newSide, .int M_newRights, .int M_newPassant, .int M_newClock, .int M_newNumber, .ref Ma5, .int M_outs])), (Ma0, .inl ((kI K), 64, .inl M_board)), (Ma1, .inl ((kI K), 100, .inl M_text)), (Ma2, .inl ((kI K), 330, .inl M_moves)), (Ma3, .inl ((kI K), 330, .inl M_signs)), (Ma4, .inl ((kI K), 64, .inl M_newBoard)), (Ma5, .inl ((kI K), 16, .inl M_out))] := hD.sub [0, 1, 2, 3, 4, 5, 6] (by decide) rfl
        have hFc := va_free (wc := [(Mh, .inr (6, [.int M_thrown, .ref Ma0, .int M_side, .int M_rights, .int M_passant, .int M_clock, .int M_number, .ref Ma1, .int M_size, .int M_told, .ref Ma2, .ref Ma3, .int M_at, .ref Ma4, .int M_newSide, .int M_newRights, .int M_newPassant, .int M_newClock, .int M_newNumber, .ref Ma5, .int M_outs])), (Ma0, .inl ((kI K), 64, .inl M_board)), (Ma1, .inl ((kI K), 100, .inl M_text)), (Ma2, .inl ((kI K), 330, .inl M_moves)), (Ma3, .inl ((kI K), 330, .inl M_signs)), (Ma4, .inl ((kI K), 64, .inl M_newBoard)), (Ma5, .inl ((kI K), 16, .inl M_out))]) hD hS hA [0, 1, 2, 3, 4, 5, 6] rfl
        refine va_callv (va_runV (As := [.int ((49 : Int32) + (r_1 / (8 : Int32)))]) (rest := []) ⟨hx, hb, hml, hown, htg⟩ (c_md_say l K _ Mh Ma0 Ma1 Ma2 Ma3 Ma4 Ma5 M_board M_text M_moves M_signs M_newBoard M_out M_thrown M_side M_rights M_passant M_clock M_number M_size M_told M_at M_newSide M_newRights M_newPassant M_newClock M_newNumber M_outs ((49 : Int32) + (r_1 / (8 : Int32)))) (cwV 1 htg (g_V q_1019 q_1021 qs_53 q_7 (g_w q_1022)) rfl rfl rfl ⟨rfl, k_md_say⟩ ⟨Nat.le_of_ble_eq_true rfl, Nat.le_of_ble_eq_true rfl⟩) ⟨mu_blind, va_recv hK hPc (ci := 6) (q0 := 0) rfl rfl, mu_use hPc hK hDc hG hS hFc ⟨(by first | assumption | omega), (by first | assumption | omega), trivial⟩⟩ rfl rfl hl.1 rfl (lv_room (Nat.le_of_ble_eq_true rfl)) d_md_sayOrigin_82 ⟨Nat.zero_le _, Nat.zero_le _⟩) hS (fun q _ h => hFc q h) hFc (fun u_10 t H1 locs ht hvm hw_10 hB hz1 hk1 hS => ?_)
        obtain ⟨hP1, hD1⟩ := hB
        rw [ht] at hP1
        obtain ⟨hP, hD⟩ := va_join (wr := []) (w1 := [(Mh, .inr (6, [.int M_thrown, .ref Ma0, .int M_side, .int M_rights, .int M_passant, .int M_clock, .int M_number, .ref Ma1, .int M_size, .int M_told, .ref Ma2, .ref Ma3, .int M_at, .ref Ma4, .int M_newSide, .int M_newRights, .int M_newPassant, .int M_newClock, .int M_newNumber, .ref Ma5, .int u_10.2])), (Ma0, .inl ((kI K), 64, .inl M_board)), (Ma1, .inl ((kI K), 100, .inl M_text)), (Ma2, .inl ((kI K), 330, .inl M_moves)), (Ma3, .inl ((kI K), 330, .inl M_signs)), (Ma4, .inl ((kI K), 64, .inl M_newBoard)), (Ma5, .inl ((kI K), 16, .inl u_10.1))]) hP hD [0, 1, 2, 3, 4, 5, 6] [] rfl rfl (by decide) (by decide) hk1 hFc hP1 hD1
        have hP : va_P (kD K) vwCl [(Mh, .inr (6, [.int M_thrown, .ref Ma0, .int M_side, .int M_rights, .int M_passant, .int M_clock, .int M_number, .ref Ma1, .int M_size, .int M_told, .ref Ma2, .ref Ma3, .int M_at, .ref Ma4, .int M_newSide, .int M_newRights, .int M_newPassant, .int M_newClock, .int M_newNumber, .ref Ma5, .int u_10.2])), (Ma0, .inl ((kI K), 64, .inl M_board)), (Ma1, .inl ((kI K), 100, .inl M_text)), (Ma2, .inl ((kI K), 330, .inl M_moves)), (Ma3, .inl ((kI K), 330, .inl M_signs)), (Ma4, .inl ((kI K), 64, .inl M_newBoard)), (Ma5, .inl ((kI K), 16, .inl u_10.1))] H1 := hP.sub [0, 1, 2, 3, 4, 5, 6] rfl
        have hD : va_D A [(Mh, .inr (6, [.int M_thrown, .ref Ma0, .int M_side, .int M_rights, .int M_passant, .int M_clock, .int M_number, .ref Ma1, .int M_size, .int M_told, .ref Ma2, .ref Ma3, .int M_at, .ref Ma4, .int M_newSide, .int M_newRights, .int M_newPassant, .int M_newClock, .int M_newNumber, .ref Ma5, .int u_10.2])), (Ma0, .inl ((kI K), 64, .inl M_board)), (Ma1, .inl ((kI K), 100, .inl M_text)), (Ma2, .inl ((kI K), 330, .inl M_moves)), (Ma3, .inl ((kI K), 330, .inl M_signs)), (Ma4, .inl ((kI K), 64, .inl M_newBoard)), (Ma5, .inl ((kI K), 16, .inl u_10.1))] := hD.sub [0, 1, 2, 3, 4, 5, 6] (by decide) rfl
        generalize H1 = H at hP hS ⊢
        have hF := hF.trans (bnd_s hw_10.1)
        have fp_10_0 : u_10.2.toInt = M_outs.toInt + 1 := hw_10.2.1
        exact W.vret hx hb hr (fun t ht hW => ⟨⟨(u_10.1, u_10.2), rfl, ⟨hF, (show u_10.2.toInt ≤ M_outs.toInt + 2 from by omega), (show 0 ≤ u_10.2.toInt from by omega), trivial⟩, ⟨by rw [ht]; exact hP, hD⟩⟩, hS.F ht⟩) hS.2.2 d_md_sayOrigin_85
    · have hF := hF.trans (if_pos c_5)
      refine lv_iconst (v := 1) hx hb d_md_sayOrigin_24 (by decide) ?_
      refine lv_goto (tgt := 29) hx hb d_md_sayOrigin_25 (by decide) ?_
      refine lv_istore_n (lv' := [(3, .int (1 : Int32)), (2, .int r_1), (0, .ref Mh), (1, .int mv)]) hx hb d_md_sayOrigin_29 rfl hl (by decide) rfl (fun ls hl => ?_)
      refine lv_iload_n hx hb d_md_sayOrigin_30 rfl (lv_at hl 0 rfl) ?_
      refine lv_if_ne (tgt := 47) hx hb d_md_sayOrigin_31 (by decide) (fun _ => ?_) (fun c => False.elim (by revert c; decide))
      refine lv_iconst (v := 0) hx hb d_md_sayOrigin_47 (by decide) ?_
      refine lv_istore (lv' := [(4, .int (0 : Int32)), (3, .int (1 : Int32)), (2, .int r_1), (0, .ref Mh), (1, .int mv)]) hx hb d_md_sayOrigin_48 hl (by decide) rfl (fun ls hl => ?_)
      refine lv_iload_n hx hb d_md_sayOrigin_50 rfl (lv_at hl 1 rfl) ?_
      refine lv_if_ne (tgt := 59) hx hb d_md_sayOrigin_51 (by decide) (fun _ => ?_) (fun c => False.elim (by revert c; decide))
      refine lv_aload_n hx hb d_md_sayOrigin_59 rfl (lv_at hl 3 rfl) ?_
      refine lv_bipush (v := 97) hx hb d_md_sayOrigin_60 (by decide) ?_
      refine lv_iload_n hx hb d_md_sayOrigin_62 rfl (lv_at hl 2 rfl) ?_
      refine lv_bipush (v := 8) hx hb d_md_sayOrigin_63 (by decide) ?_
      refine lv_irem hx hb d_md_sayOrigin_65 (by decide) ?_
      refine lv_iadd hx hb d_md_sayOrigin_66 ?_
      have hPc : va_P (kD K) vwCl [(Mh, .inr (6, [.int M_thrown, .ref Ma0, .int M_side, .int M_rights, .int M_passant, .int M_clock, .int M_number, .ref Ma1, .int M_size, .int M_told, .ref Ma2, .ref Ma3, .int M_at, .ref Ma4, .int M_newSide, .int M_newRights, .int M_newPassant, .int M_newClock, .int M_newNumber, .ref Ma5, .int M_outs])), (Ma0, .inl ((kI K), 64, .inl M_board)), (Ma1, .inl ((kI K), 100, .inl M_text)), (Ma2, .inl ((kI K), 330, .inl M_moves)), (Ma3, .inl ((kI K), 330, .inl M_signs)), (Ma4, .inl ((kI K), 64, .inl M_newBoard)), (Ma5, .inl ((kI K), 16, .inl M_out))] _ := hP.sub [0, 1, 2, 3, 4, 5, 6] rfl
      have hDc : va_D A [(Mh, .inr (6, [.int M_thrown, .ref Ma0, .int M_side, .int M_rights, .int M_passant, .int M_clock, .int M_number, .ref Ma1, .int M_size, .int M_told, .ref Ma2, .ref Ma3, .int M_at, .ref Ma4, .int M_newSide, .int M_newRights, .int M_newPassant, .int M_newClock, .int M_newNumber, .ref Ma5, .int M_outs])), (Ma0, .inl ((kI K), 64, .inl M_board)), (Ma1, .inl ((kI K), 100, .inl M_text)), (Ma2, .inl ((kI K), 330, .inl M_moves)), (Ma3, .inl ((kI K), 330, .inl M_signs)), (Ma4, .inl ((kI K), 64, .inl M_newBoard)), (Ma5, .inl ((kI K), 16, .inl M_out))] := hD.sub [0, 1, 2, 3, 4, 5, 6] (by decide) rfl
      have hFc := va_free (wc := [(Mh, .inr (6, [.int M_thrown, .ref Ma0, .int M_side, .int M_rights, .int M_passant, .int M_clock, .int M_number, .ref Ma1, .int M_size, .int M_told, .ref Ma2, .ref Ma3, .int M_at, .ref Ma4, .int M_newSide, .int M_newRights, .int M_newPassant, .int M_newClock, .int M_newNumber, .ref Ma5, .int M_outs])), (Ma0, .inl ((kI K), 64, .inl M_board)), (Ma1, .inl ((kI K), 100, .inl M_text)), (Ma2, .inl ((kI K), 330, .inl M_moves)), (Ma3, .inl ((kI K), 330, .inl M_signs)), (Ma4, .inl ((kI K), 64, .inl M_newBoard)), (Ma5, .inl ((kI K), 16, .inl M_out))]) hD hS hA [0, 1, 2, 3, 4, 5, 6] rfl
      refine va_callv (va_runV (As := [.int ((97 : Int32) + (r_1 - r_1 / (8 : Int32) * (8 : Int32)))]) (rest := []) ⟨hx, hb, hml, hown, htg⟩ (c_md_say l K _ Mh Ma0 Ma1 Ma2 Ma3 Ma4 Ma5 M_board M_text M_moves M_signs M_newBoard M_out M_thrown M_side M_rights M_passant M_clock M_number M_size M_told M_at M_newSide M_newRights M_newPassant M_newClock M_newNumber M_outs ((97 : Int32) + (r_1 - r_1 / (8 : Int32) * (8 : Int32)))) (cwV 1 htg (g_V q_1019 q_1021 qs_53 q_7 (g_w q_1022)) rfl rfl rfl ⟨rfl, k_md_say⟩ ⟨Nat.le_of_ble_eq_true rfl, Nat.le_of_ble_eq_true rfl⟩) ⟨mu_blind, va_recv hK hPc (ci := 6) (q0 := 0) rfl rfl, mu_use hPc hK hDc hG hS hFc ⟨(by first | assumption | omega), (by first | assumption | omega), trivial⟩⟩ rfl rfl hl.1 rfl (lv_room (Nat.le_of_ble_eq_true rfl)) d_md_sayOrigin_67 ⟨Nat.zero_le _, Nat.zero_le _⟩) hS (fun q _ h => hFc q h) hFc (fun u_11 t H1 locs ht hvm hw_11 hB hz1 hk1 hS => ?_)
      obtain ⟨hP1, hD1⟩ := hB
      rw [ht] at hP1
      obtain ⟨hP, hD⟩ := va_join (wr := []) (w1 := [(Mh, .inr (6, [.int M_thrown, .ref Ma0, .int M_side, .int M_rights, .int M_passant, .int M_clock, .int M_number, .ref Ma1, .int M_size, .int M_told, .ref Ma2, .ref Ma3, .int M_at, .ref Ma4, .int M_newSide, .int M_newRights, .int M_newPassant, .int M_newClock, .int M_newNumber, .ref Ma5, .int u_11.2])), (Ma0, .inl ((kI K), 64, .inl M_board)), (Ma1, .inl ((kI K), 100, .inl M_text)), (Ma2, .inl ((kI K), 330, .inl M_moves)), (Ma3, .inl ((kI K), 330, .inl M_signs)), (Ma4, .inl ((kI K), 64, .inl M_newBoard)), (Ma5, .inl ((kI K), 16, .inl u_11.1))]) hP hD [0, 1, 2, 3, 4, 5, 6] [] rfl rfl (by decide) (by decide) hk1 hFc hP1 hD1
      have hP : va_P (kD K) vwCl [(Mh, .inr (6, [.int M_thrown, .ref Ma0, .int M_side, .int M_rights, .int M_passant, .int M_clock, .int M_number, .ref Ma1, .int M_size, .int M_told, .ref Ma2, .ref Ma3, .int M_at, .ref Ma4, .int M_newSide, .int M_newRights, .int M_newPassant, .int M_newClock, .int M_newNumber, .ref Ma5, .int u_11.2])), (Ma0, .inl ((kI K), 64, .inl M_board)), (Ma1, .inl ((kI K), 100, .inl M_text)), (Ma2, .inl ((kI K), 330, .inl M_moves)), (Ma3, .inl ((kI K), 330, .inl M_signs)), (Ma4, .inl ((kI K), 64, .inl M_newBoard)), (Ma5, .inl ((kI K), 16, .inl u_11.1))] H1 := hP.sub [0, 1, 2, 3, 4, 5, 6] rfl
      have hD : va_D A [(Mh, .inr (6, [.int M_thrown, .ref Ma0, .int M_side, .int M_rights, .int M_passant, .int M_clock, .int M_number, .ref Ma1, .int M_size, .int M_told, .ref Ma2, .ref Ma3, .int M_at, .ref Ma4, .int M_newSide, .int M_newRights, .int M_newPassant, .int M_newClock, .int M_newNumber, .ref Ma5, .int u_11.2])), (Ma0, .inl ((kI K), 64, .inl M_board)), (Ma1, .inl ((kI K), 100, .inl M_text)), (Ma2, .inl ((kI K), 330, .inl M_moves)), (Ma3, .inl ((kI K), 330, .inl M_signs)), (Ma4, .inl ((kI K), 64, .inl M_newBoard)), (Ma5, .inl ((kI K), 16, .inl u_11.1))] := hD.sub [0, 1, 2, 3, 4, 5, 6] (by decide) rfl
      generalize H1 = H at hP hS ⊢
      have hF := hF.trans (bnd_s hw_11.1)
      have fp_11_0 : u_11.2.toInt = M_outs.toInt + 1 := hw_11.2.1
      refine lv_iload_n hx hb d_md_sayOrigin_70 rfl (lv_at hl 1 rfl) ?_
      refine lv_if_ne (tgt := 85) hx hb d_md_sayOrigin_71 (by decide) (fun _ => ?_) (fun c => False.elim (by revert c; decide))
      exact W.vret hx hb hr (fun t ht hW => ⟨⟨(u_11.1, u_11.2), rfl, ⟨hF, (show u_11.2.toInt ≤ M_outs.toInt + 2 from by omega), (show 0 ≤ u_11.2.toInt from by omega), trivial⟩, ⟨by rw [ht]; exact hP, hD⟩⟩, hS.F ht⟩) hS.2.2 d_md_sayOrigin_85
  · have hF := hF.trans (if_pos c_3)
    exact W.vret hx hb hr (fun t ht hW => ⟨⟨(M_out, M_outs), rfl, ⟨hF, (show M_outs.toInt ≤ M_outs.toInt + 2 from by omega), (show 0 ≤ M_outs.toInt from by omega), trivial⟩, ⟨by rw [ht]; exact hP, hD⟩⟩, hS.F ht⟩) hS.2.2 d_md_sayOrigin_14
