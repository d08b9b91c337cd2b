def f_gn_attackedT (sq : Int32) (sd : Int32) (ln : LnT) (tr : LnT) (rd : Int32) (td : TdT) (fm : FmT) (ps : PsT) (sp : PsT) : Int32 := (bnd (f_gn_isSquare sq) (fun r_1 => (if r_1 = 0 then (0 : Int32) else (bnd (f_gn_isSide sd) (fun r_3 => (0 : Int32))))))
set_option maxHeartbeats 4000000 in
set_option maxRecDepth 100000 in
theorem c_gn_attackedT (l : Launch) (hfl : l.flags = pinnedFlags ++ [noTraceFlag]) (K : KT) (Gh : Nat) (sq : Int32) (sd : Int32) (lnh lna0 : Nat) (ln : LnT) (trh tra0 : Nat) (tr : LnT) (rdh : Nat) (rd : Int32) (tdh tda0 tda1 : Nat) (td : TdT) (fmh : Nat) (fm : FmT) (psh psa0 : Nat) (ps : PsT) (sph spa0 : Nat) (sp : PsT) : MetT l y_gn_attacked w_gn_attacked ({ frames := 6, cells := 1, slots := 6, locals := 90 } : Room) (va_Pc [.ref Gh, .int sq, .int sd] (fun U => pRO K [(Gh, .inr (5, [.ref lnh, .ref trh, .ref rdh, .ref tdh, .ref fmh, .ref psh, .ref sph])), (lnh, .inr (1, [.ref lna0, .int ln.2])), (lna0, .inl ((kC K), 100, .inl ln.1)), (trh, .inr (1, [.ref tra0, .int tr.2])), (tra0, .inl ((kC K), 100, .inl tr.1)), (rdh, .inr (3, [.int rd])), (tdh, .inr (4, [.ref tda0, .ref tda1, .int td.2.2])), (tda0, .inl ((kI K), 330, .inl td.1)), (tda1, .inl ((kI K), 330, .inl td.2.1)), (fmh, .inr (0, [.int fm.1, .int fm.2.1, .int fm.2.2.1, .int fm.2.2.2.1, .int fm.2.2.2.2.1, .int fm.2.2.2.2.2])), (psh, .inr (2, [.ref psa0, .int ps.2.1, .int ps.2.2.1, .int ps.2.2.2.1, .int ps.2.2.2.2.1, .int ps.2.2.2.2.2])), (psa0, .inl ((kI K), 64, .inl ps.1)), (sph, .inr (2, [.ref spa0, .int sp.2.1, .int sp.2.2.1, .int sp.2.2.2.1, .int sp.2.2.2.2.1, .int sp.2.2.2.2.2])), (spa0, .inl ((kI K), 64, .inl sp.1))] U ∧ thS (fun _ => False) U U.heap ∧ LnOk ln ∧ LnOk tr ∧ TdOk td ∧ (f_gn_isSquare sq = 0 ∨ f_gn_isSide sd = 0) ∧ True)) (thQ "java/lang/IndexOutOfBoundsException") 1 6 := by
  refine MetT.ofW (cc := b_gn_attacked) (maxL := 3) (ret := (some .boolean)) (by decide) rfl ?_
  intro p e s m args below meth c s₁ B hml hv
  obtain ⟨rfl, ⟨hP, hK, hG⟩, hTh, ok_ln, ok_tr, ok_td, h_a, -⟩ := hv
  have hx := B.exec
  have hb := B.bytes
  have hr := B.returns
  have hts := atoms_spec (ws := w_gn_attacked) B.pre
  have hown : s.vm.findClass R_gn = some m.cls := findClass_of_methodNamed B.named
  have hlocks := B.notSynchronized
  have htg := fun w h => hts w (List.mem_cons_of_mem _ h)
  have hS : va_S (fun _ => False) s.heap s.heap [] := va_S.rf
  have hl := lv_entry ([.ref Gh, .int sq, .int sd]) (n := 3) (Nat.le_of_ble_eq_true rfl)
  rw [lg_entry_eq]
  generalize (lg_sl ([.ref Gh, .int sq, .int sd]) ++ List.replicate (3 - (lg_sl ([.ref Gh, .int sq, .int sd])).length) Slot.unset).toArray = ls at hl ⊢
  have hl : lv_has ls 3 [(0, .ref Gh), (1, .int sq), (2, .int sd)] := hl
  have hF := f_gn_attackedT.eq_1 sq sd ln tr rd td fm ps sp
  refine lv_iload_n hx hb d_gn_attacked_0 rfl (lv_at hl 1 rfl) ?_
  have hPc : va_P (kD K) vwCl [] _ := hP.sub [] rfl
  refine vp_callSi (va_Run.run (va_runS (As := [.int sq]) (rest := []) ⟨hx, hb, hml, hown, htg⟩ (c_gn_isSquare l K sq) (va_cwS 1 htg (g_S q_494 q_298 q_1 (g_w q_299)) rfl rfl rfl k_gn_isSquare ⟨Nat.le_of_ble_eq_true rfl, Nat.le_of_ble_eq_true rfl⟩) ⟨ro_blind, ro_use hPc hK hG hS trivial⟩ rfl rfl hl.1 rfl (lv_room (Nat.le_of_ble_eq_true rfl)) d_gn_attacked_1 ⟨Nat.zero_le _, Nat.zero_le _⟩)) (fun r_1 hw_1 => ?_)
  have hF := hF.trans (bnd_s hw_1.1)
  have hn_1 := hw_1.2
  refine lv_if_eq (tgt := 14) hx hb d_gn_attacked_4 (by decide) (fun c_2 => ?_) (fun c_2 => ?_)
  · have hF := hF.trans (if_pos c_2)
    refine W.newc hx hb hown (htg (.classLink R_gn 127 "java/lang/IndexOutOfBoundsException") q_695) (htg (.instantiable "java/lang/IndexOutOfBoundsException" 6) q_696) (htg (.initialized "java/lang/IndexOutOfBoundsException") q_17) rfl d_gn_attacked_14 (Nat.le_of_ble_eq_true rfl) (Nat.le_of_ble_eq_true rfl) (fun cX kX hX1 hX2 _ _ => ?_)
    refine W.eq (g2 := F0 m 17 ls [.ref s.heap.size]) rfl ?_
    refine lv_dup hx hb d_gn_attacked_17 rfl ?_
    refine va_ldcS hx hb hown (show vk_R R_gn 129 "no such square or side" (kK K 8) s from hG.sr 22 (q := ("GameNotation", 129, "no such square or side", 8)) rfl) d_gn_attacked_18 ?_
    exact W.throwS hx hb hfl hown (by decide +kernel) (by decide +kernel) (thAtoms htg hTh oa_131) hX1 hX2 (by simp) (Nat.le_refl _) rfl (hl.1.trans hml.symm) d_gn_attacked_20 d_gn_attacked_23 (B.noHandlers (hts _ List.mem_cons_self)) (Nat.lt_of_succ_le (Nat.le_of_ble_eq_true rfl)) (Nat.le_of_ble_eq_true rfl) hlocks
  · have hF := hF.trans (if_neg c_2)
    refine lv_iload_n hx hb d_gn_attacked_7 rfl (lv_at hl 2 rfl) ?_
    have hPc : va_P (kD K) vwCl [] _ := hP.sub [] rfl
    refine vp_callSi (va_Run.run (va_runS (As := [.int sd]) (rest := []) ⟨hx, hb, hml, hown, htg⟩ (c_gn_isSide l K sd) (va_cwS 1 htg (g_S q_500 q_501 q_1 (g_w q_502)) rfl rfl rfl k_gn_isSide ⟨Nat.le_of_ble_eq_true rfl, Nat.le_of_ble_eq_true rfl⟩) ⟨ro_blind, ro_use hPc hK hG hS trivial⟩ rfl rfl hl.1 rfl (lv_room (Nat.le_of_ble_eq_true rfl)) d_gn_attacked_8 ⟨Nat.zero_le _, Nat.zero_le _⟩)) (fun r_3 hw_3 => ?_)
    have hF := hF.trans (bnd_s hw_3.1)
    have hn_3 := hw_3.2
    refine lv_if_ne (tgt := 24) hx hb d_gn_attacked_11 (by decide) (fun c => False.elim (h_a.elim (fun h => c_2 (hw_1.1.symm.trans h)) (fun h => c (hw_3.1.symm.trans h)))) (fun _ => ?_)
    refine W.newc hx hb hown (htg (.classLink R_gn 127 "java/lang/IndexOutOfBoundsException") q_695) (htg (.instantiable "java/lang/IndexOutOfBoundsException" 6) q_696) (htg (.initialized "java/lang/IndexOutOfBoundsException") q_17) rfl d_gn_attacked_14 (Nat.le_of_ble_eq_true rfl) (Nat.le_of_ble_eq_true rfl) (fun cX kX hX1 hX2 _ _ => ?_)
    refine W.eq (g2 := F0 m 17 ls [.ref s.heap.size]) rfl ?_
    refine lv_dup hx hb d_gn_attacked_17 rfl ?_
    refine va_ldcS hx hb hown (show vk_R R_gn 129 "no such square or side" (kK K 8) s from hG.sr 22 (q := ("GameNotation", 129, "no such square or side", 8)) rfl) d_gn_attacked_18 ?_
    exact W.throwS hx hb hfl hown (by decide +kernel) (by decide +kernel) (thAtoms htg hTh oa_131) hX1 hX2 (by simp) (Nat.le_refl _) rfl (hl.1.trans hml.symm) d_gn_attacked_20 d_gn_attacked_23 (B.noHandlers (hts _ List.mem_cons_self)) (Nat.lt_of_succ_le (Nat.le_of_ble_eq_true rfl)) (Nat.le_of_ble_eq_true rfl) hlocks
def f_gn_spellT (mv : Int32) (ln : LnT) (tr : LnT) (rd : Int32) (td : TdT) (fm : FmT) (ps : PsT) (sp : PsT) : Int32 := (bnd (f_td_indexOf td mv) (fun r_1 => (0 : Int32)))
set_option maxHeartbeats 4000000 in
set_option maxRecDepth 100000 in
theorem c_gn_spellT (l : Launch) (hfl : l.flags = pinnedFlags ++ [noTraceFlag]) (K : KT) (Gh : Nat) (mv : Int32) (lnh lna0 : Nat) (ln : LnT) (trh tra0 : Nat) (tr : LnT) (rdh : Nat) (rd : Int32) (tdh tda0 tda1 : Nat) (td : TdT) (fmh : Nat) (fm : FmT) (psh psa0 : Nat) (ps : PsT) (sph spa0 : Nat) (sp : PsT) : MetT l y_gn_spell w_gn_spell ({ frames := 6, cells := 1, slots := 6, locals := 90 } : Room) (va_Pc [.ref Gh, .int mv] (fun U => pRO K [(Gh, .inr (5, [.ref lnh, .ref trh, .ref rdh, .ref tdh, .ref fmh, .ref psh, .ref sph])), (lnh, .inr (1, [.ref lna0, .int ln.2])), (lna0, .inl ((kC K), 100, .inl ln.1)), (trh, .inr (1, [.ref tra0, .int tr.2])), (tra0, .inl ((kC K), 100, .inl tr.1)), (rdh, .inr (3, [.int rd])), (tdh, .inr (4, [.ref tda0, .ref tda1, .int td.2.2])), (tda0, .inl ((kI K), 330, .inl td.1)), (tda1, .inl ((kI K), 330, .inl td.2.1)), (fmh, .inr (0, [.int fm.1, .int fm.2.1, .int fm.2.2.1, .int fm.2.2.2.1, .int fm.2.2.2.2.1, .int fm.2.2.2.2.2])), (psh, .inr (2, [.ref psa0, .int ps.2.1, .int ps.2.2.1, .int ps.2.2.2.1, .int ps.2.2.2.2.1, .int ps.2.2.2.2.2])), (psa0, .inl ((kI K), 64, .inl ps.1)), (sph, .inr (2, [.ref spa0, .int sp.2.1, .int sp.2.2.1, .int sp.2.2.2.1, .int sp.2.2.2.2.1, .int sp.2.2.2.2.2])), (spa0, .inl ((kI K), 64, .inl sp.1))] U ∧ thS (fun _ => False) U U.heap ∧ LnOk ln ∧ LnOk tr ∧ TdOk td ∧ f_td_indexOf td mv = -1 ∧ True)) (thQ "java/lang/IllegalArgumentException") 1 6 := by
  refine MetT.ofW (cc := b_gn_spell) (maxL := 4) (ret := (some .int)) (by decide) rfl ?_
  intro p e s m args below meth c s₁ B hml hv
  obtain ⟨rfl, ⟨hP, hK, hG⟩, hTh, ok_ln, ok_tr, ok_td, h_a, -⟩ := hv
  have hx := B.exec
  have hb := B.bytes
  have hr := B.returns
  have hts := atoms_spec (ws := w_gn_spell) B.pre
  have hown : s.vm.findClass R_gn = some m.cls := findClass_of_methodNamed B.named
  have hlocks := B.notSynchronized
  have htg := fun w h => hts w (List.mem_cons_of_mem _ h)
  have hS : va_S (fun _ => False) s.heap s.heap [] := va_S.rf
  have hl := lv_entry ([.ref Gh, .int mv]) (n := 4) (Nat.le_of_ble_eq_true rfl)
  rw [lg_entry_eq]
  generalize (lg_sl ([.ref Gh, .int mv]) ++ List.replicate (4 - (lg_sl ([.ref Gh, .int mv])).length) Slot.unset).toArray = ls at hl ⊢
  have hl : lv_has ls 4 [(0, .ref Gh), (1, .int mv)] := hl
  have hF := f_gn_spellT.eq_1 mv ln tr rd td fm ps sp
  refine lv_aload_n hx hb d_gn_spell_0 rfl (lv_at hl 0 rfl) ?_
  refine va_get (D := kD K) (ci := 5) (v := .ref tdh) (C := R_gn) (T := T_gn) (N := 7) hx hb htg in_gn hown hK hP 0 rfl rfl 3 (by decide) (htg (.fieldLink R_gn 29 "GameNotation" "told" "LGameNotation$Told;") q_131) (fun _ h9 => h9) rfl d_gn_spell_1 ?_
  refine lv_iload_n hx hb d_gn_spell_4 rfl (lv_at hl 1 rfl) ?_
  have hPc : va_P (kD K) vwCl [(tdh, .inr (4, [.ref tda0, .ref tda1, .int td.2.2])), (tda0, .inl ((kI K), 330, .inl td.1)), (tda1, .inl ((kI K), 330, .inl td.2.1))] _ := hP.sub [6, 7, 8] rfl
  refine vp_callSi (va_Run.run (va_runV (As := [.int mv]) (rest := []) ⟨hx, hb, hml, hown, htg⟩ (c_td_indexOf l K tdh tda0 tda1 td mv) (cwV 1 htg (g_V q_770 q_536 q_537 q_4 (g_w q_538)) rfl rfl rfl ⟨rfl, k_td_indexOf⟩ ⟨Nat.le_of_ble_eq_true rfl, Nat.le_of_ble_eq_true rfl⟩) ⟨ro_blind, va_recv hK hPc (ci := 4) (q0 := 0) rfl rfl, ro_use hPc hK hG hS ⟨(by assumption), trivial⟩⟩ rfl rfl hl.1 rfl (lv_room (Nat.le_of_ble_eq_true rfl)) d_gn_spell_5 ⟨Nat.zero_le _, Nat.zero_le _⟩)) (fun r_1 hw_1 => ?_)
  have hF := hF.trans (bnd_s hw_1.1)
  refine lv_istore_n (lv' := [(2, .int r_1), (0, .ref Gh), (1, .int mv)]) hx hb d_gn_spell_8 rfl hl (by decide) rfl (fun ls hl => ?_)
  refine lv_iload_n hx hb d_gn_spell_9 rfl (lv_at hl 0 rfl) ?_
  refine lv_iconst (v := -1) hx hb d_gn_spell_10 (by decide) ?_
  refine lv_icmp_ne (tgt := 24) hx hb d_gn_spell_11 (by decide) (fun c => False.elim (c (hw_1.1.symm.trans h_a))) (fun _ => ?_)
  refine W.newc hx hb hown (htg (.classLink R_gn 159 "java/lang/IllegalArgumentException") q_771) (htg (.instantiable "java/lang/IllegalArgumentException" 6) q_772) (htg (.initialized "java/lang/IllegalArgumentException") q_18) rfl d_gn_spell_14 (Nat.le_of_ble_eq_true rfl) (Nat.le_of_ble_eq_true rfl) (fun cX kX hX1 hX2 _ _ => ?_)
  refine W.eq (g2 := F0 m 17 ls [.ref s.heap.size]) rfl ?_
  refine lv_dup hx hb d_gn_spell_17 rfl ?_
  refine va_ldcS hx hb hown (show vk_R R_gn 161 "the move was not told" (kK K 9) s from hG.sr 23 (q := ("GameNotation", 161, "the move was not told", 9)) rfl) d_gn_spell_18 ?_
  exact W.throwS hx hb hfl hown (by decide +kernel) (by decide +kernel) (thAtoms htg hTh oa_163) hX1 hX2 (by simp) (Nat.le_refl _) rfl (hl.1.trans hml.symm) d_gn_spell_20 d_gn_spell_23 (B.noHandlers (hts _ List.mem_cons_self)) (Nat.lt_of_succ_le (Nat.le_of_ble_eq_true rfl)) (Nat.le_of_ble_eq_true rfl) hlocks
