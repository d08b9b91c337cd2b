def f_fm_unsignedSize (F : FmT) : Int32 := F.1
set_option maxHeartbeats 4000000 in
set_option maxRecDepth 100000 in
theorem c_fm_unsignedSize (l : Launch) (K : KT) (Fh : Nat) (F : FmT) : Met l y_fm_unsignedSize w_fm_unsignedSize ({ frames := 0, cells := 0, slots := 0, locals := 0 } : Room) (va_Pc [.ref Fh] (fun U => pRO K [(Fh, .inr (0, [.int F.1, .int F.2.1, .int F.2.2.1, .int F.2.2.2.1, .int F.2.2.2.2.1, .int F.2.2.2.2.2]))] U ∧ True)) (vp_Si (fun r => f_fm_unsignedSize F = r ∧ True)) 0 0 (fun _ => False) := by
  refine Met.ofW (cc := b_fm_unsignedSize) (maxL := 1) (ret := (some .int)) (by decide) rfl ?_
  intro p e s m args below meth c s₁ B hml hv
  obtain ⟨rfl, ⟨hP, hK, hG⟩, -⟩ := hv
  have hx := B.exec
  have hb := B.bytes
  have hr := B.returns
  have hts := atoms_spec (ws := w_fm_unsignedSize) B.pre
  have hown : s.vm.findClass R_fm = some m.cls := findClass_of_methodNamed B.named
  have hlocks := B.notSynchronized
  have htg := fun w h => hts w (List.mem_cons_of_mem _ h)
  have hS : va_S (fun _ => False) s.heap s.heap [] := va_S.rf
  have hl := lv_entry ([.ref Fh]) (n := 1) (Nat.le_of_ble_eq_true rfl)
  rw [lg_entry_eq]
  generalize (lg_sl ([.ref Fh]) ++ List.replicate (1 - (lg_sl ([.ref Fh])).length) Slot.unset).toArray = ls at hl ⊢
  have hl : lv_has ls 1 [(0, .ref Fh)] := hl
  have hF := f_fm_unsignedSize.eq_1 F
  refine lv_aload_n hx hb d_fm_unsignedSize_0 rfl (lv_at hl 0 rfl) ?_
  refine va_get (D := kD K) (ci := 0) (v := .int F.1) (C := R_fm) (T := T_fm) (N := 6) hx hb htg in_fm hown hK hP 0 rfl rfl 0 (by decide) (htg (.fieldLink R_fm 9 "GameNotation$Form" "unsignedSize" "I") q_74) (fun _ h9 => h9) rfl d_fm_unsignedSize_1 ?_
  exact W.iret (v := F.1) hx hb hr (fun t ht hW => ⟨_, rfl, ⟨hF, trivial⟩, ht⟩) hS.2.2 d_fm_unsignedSize_4
def f_fm_sign (F : FmT) : Int32 := F.2.1
set_option maxHeartbeats 4000000 in
set_option maxRecDepth 100000 in
theorem c_fm_sign (l : Launch) (K : KT) (Fh : Nat) (F : FmT) : Met l y_fm_sign w_fm_sign ({ frames := 0, cells := 0, slots := 0, locals := 0 } : Room) (va_Pc [.ref Fh] (fun U => pRO K [(Fh, .inr (0, [.int F.1, .int F.2.1, .int F.2.2.1, .int F.2.2.2.1, .int F.2.2.2.2.1, .int F.2.2.2.2.2]))] U ∧ True)) (vp_Si (fun r => f_fm_sign F = r ∧ True)) 0 0 (fun _ => False) := by
  refine Met.ofW (cc := b_fm_sign) (maxL := 1) (ret := (some .int)) (by decide) rfl ?_
  intro p e s m args below meth c s₁ B hml hv
  obtain ⟨rfl, ⟨hP, hK, hG⟩, -⟩ := hv
  have hx := B.exec
  have hb := B.bytes
  have hr := B.returns
  have hts := atoms_spec (ws := w_fm_sign) B.pre
  have hown : s.vm.findClass R_fm = some m.cls := findClass_of_methodNamed B.named
  have hlocks := B.notSynchronized
  have htg := fun w h => hts w (List.mem_cons_of_mem _ h)
  have hS : va_S (fun _ => False) s.heap s.heap [] := va_S.rf
  have hl := lv_entry ([.ref Fh]) (n := 1) (Nat.le_of_ble_eq_true rfl)
  rw [lg_entry_eq]
  generalize (lg_sl ([.ref Fh]) ++ List.replicate (1 - (lg_sl ([.ref Fh])).length) Slot.unset).toArray = ls at hl ⊢
  have hl : lv_has ls 1 [(0, .ref Fh)] := hl
  have hF := f_fm_sign.eq_1 F
  refine lv_aload_n hx hb d_fm_sign_0 rfl (lv_at hl 0 rfl) ?_
  refine va_get (D := kD K) (ci := 0) (v := .int F.2.1) (C := R_fm) (T := T_fm) (N := 6) hx hb htg in_fm hown hK hP 0 rfl rfl 1 (by decide) (htg (.fieldLink R_fm 15 "GameNotation$Form" "sign" "I") q_75) (fun _ h9 => h9) rfl d_fm_sign_1 ?_
  exact W.iret (v := F.2.1) hx hb hr (fun t ht hW => ⟨_, rfl, ⟨hF, trivial⟩, ht⟩) hS.2.2 d_fm_sign_4
def f_fm_fileIn (L : LnT) (pl : Int32) : Int32 := (bnd (f_ln_letter L pl) (fun r_1 => (bnd (f_st_indexOf 3 r_1) (fun r_2 => r_2))))
set_option maxHeartbeats 4000000 in
set_option maxRecDepth 100000 in
theorem c_fm_fileIn (l : Launch) (K : KT) (Lh La0 : Nat) (L : LnT) (pl : Int32) : Met l y_fm_fileIn w_fm_fileIn ({ frames := 4, cells := 0, slots := 0, locals := 91 } : Room) (va_Pc [.ref Lh, .int pl] (fun U => pRO K [(Lh, .inr (1, [.ref La0, .int L.2])), (La0, .inl ((kC K), 100, .inl L.1))] U ∧ LnOk L ∧ True)) (vp_Si (fun r => f_fm_fileIn L pl = r ∧ True)) 0 0 (fun _ => False) := by
  refine Met.ofW (cc := b_fm_fileIn) (maxL := 2) (ret := (some .int)) (by decide) rfl ?_
  intro p e s m args below meth c s₁ B hml hv
  obtain ⟨rfl, ⟨hP, hK, hG⟩, ok_L, -⟩ := hv
  have hx := B.exec
  have hb := B.bytes
  have hr := B.returns
  have hts := atoms_spec (ws := w_fm_fileIn) B.pre
  have hown : s.vm.findClass R_fm = some m.cls := findClass_of_methodNamed B.named
  have hlocks := B.notSynchronized
  have htg := fun w h => hts w (List.mem_cons_of_mem _ h)
  have hS : va_S (fun _ => False) s.heap s.heap [] := va_S.rf
  have hl := lv_entry ([.ref Lh, .int pl]) (n := 2) (Nat.le_of_ble_eq_true rfl)
  rw [lg_entry_eq]
  generalize (lg_sl ([.ref Lh, .int pl]) ++ List.replicate (2 - (lg_sl ([.ref Lh, .int pl])).length) Slot.unset).toArray = ls at hl ⊢
  have hl : lv_has ls 2 [(0, .ref Lh), (1, .int pl)] := hl
  have hF := f_fm_fileIn.eq_1 L pl
  refine va_ldcS hx hb hown (show vk_R R_fm 103 "abcdefgh" (kK K 3) s from hG.sr 13 (q := ("GameNotation$Form", 103, "abcdefgh", 3)) rfl) d_fm_fileIn_0 ?_
  refine lv_aload_n hx hb d_fm_fileIn_2 rfl (lv_at hl 0 rfl) ?_
  refine lv_iload_n hx hb d_fm_fileIn_3 rfl (lv_at hl 1 rfl) ?_
  have hPc : va_P (kD K) vwCl [(Lh, .inr (1, [.ref La0, .int L.2])), (La0, .inl ((kC K), 100, .inl L.1))] _ := hP.sub [0, 1] rfl
  refine vp_callSi (va_Run.run (va_runV (As := [.int pl]) (rest := [.ref (kK K 3)]) ⟨hx, hb, hml, hown, htg⟩ (c_ln_letter l K Lh La0 L pl) (cwV 1 htg (g_V q_553 q_178 q_179 q_2 (g_w q_180)) rfl rfl rfl ⟨rfl, k_ln_letter⟩ ⟨Nat.le_of_ble_eq_true rfl, Nat.le_of_ble_eq_true rfl⟩) ⟨ro_blind, va_recv hK hPc (ci := 1) (q0 := 0) rfl rfl, ro_use hPc hK hG hS ⟨(by assumption), trivial⟩⟩ rfl rfl hl.1 rfl (lv_room (Nat.le_of_ble_eq_true rfl)) d_fm_fileIn_4 ⟨Nat.zero_le _, Nat.zero_le _⟩)) (fun r_1 hw_1 => ?_)
  have hF := hF.trans (bnd_s hw_1.1)
  have hn_1 := hw_1.2
  have hPc : va_P (kD K) vwCl [] _ := hP.sub [] rfl
  refine vp_callSi (va_Run.run (va_runV (As := [.int r_1]) (rest := []) ⟨hx, hb, hml, hown, htg⟩ (c_st_indexOf l K 3 r_1) (cwV 1 htg (g_V q_554 q_204 q_205 q_8 (g_w q_206)) rfl rfl rfl ⟨rfl, k_st_indexOf⟩ ⟨Nat.le_of_ble_eq_true rfl, Nat.le_of_ble_eq_true rfl⟩) ⟨ro_blind, vk_recv hG.str (by decide) hS, ro_use hPc hK hG hS ⟨(by decide), trivial⟩⟩ rfl rfl hl.1 rfl (lv_room (Nat.le_of_ble_eq_true rfl)) d_fm_fileIn_7 ⟨Nat.zero_le _, Nat.zero_le _⟩)) (fun r_2 hw_2 => ?_)
  have hF := hF.trans (bnd_s hw_2.1)
  exact W.iret (v := r_2) hx hb hr (fun t ht hW => ⟨_, rfl, ⟨hF, trivial⟩, ht⟩) hS.2.2 d_fm_fileIn_10
def f_fm_rankIn (L : LnT) (pl : Int32) : Int32 := (bnd (f_ln_letter L pl) (fun r_1 => (bnd (f_st_indexOf 0 r_1) (fun r_2 => r_2))))
set_option maxHeartbeats 4000000 in
set_option maxRecDepth 100000 in
theorem c_fm_rankIn (l : Launch) (K : KT) (Lh La0 : Nat) (L : LnT) (pl : Int32) : Met l y_fm_rankIn w_fm_rankIn ({ frames := 4, cells := 0, slots := 0, locals := 91 } : Room) (va_Pc [.ref Lh, .int pl] (fun U => pRO K [(Lh, .inr (1, [.ref La0, .int L.2])), (La0, .inl ((kC K), 100, .inl L.1))] U ∧ LnOk L ∧ True)) (vp_Si (fun r => f_fm_rankIn L pl = r ∧ True)) 0 0 (fun _ => False) := by
  refine Met.ofW (cc := b_fm_rankIn) (maxL := 2) (ret := (some .int)) (by decide) rfl ?_
  intro p e s m args below meth c s₁ B hml hv
  obtain ⟨rfl, ⟨hP, hK, hG⟩, ok_L, -⟩ := hv
  have hx := B.exec
  have hb := B.bytes
  have hr := B.returns
  have hts := atoms_spec (ws := w_fm_rankIn) B.pre
  have hown : s.vm.findClass R_fm = some m.cls := findClass_of_methodNamed B.named
  have hlocks := B.notSynchronized
  have htg := fun w h => hts w (List.mem_cons_of_mem _ h)
  have hS : va_S (fun _ => False) s.heap s.heap [] := va_S.rf
  have hl := lv_entry ([.ref Lh, .int pl]) (n := 2) (Nat.le_of_ble_eq_true rfl)
  rw [lg_entry_eq]
  generalize (lg_sl ([.ref Lh, .int pl]) ++ List.replicate (2 - (lg_sl ([.ref Lh, .int pl])).length) Slot.unset).toArray = ls at hl ⊢
  have hl : lv_has ls 2 [(0, .ref Lh), (1, .int pl)] := hl
  have hF := f_fm_rankIn.eq_1 L pl
  refine va_ldcS hx hb hown (show vk_R R_fm 105 "12345678" (kK K 0) s from hG.sr 14 (q := ("GameNotation$Form", 105, "12345678", 0)) rfl) d_fm_rankIn_0 ?_
  refine lv_aload_n hx hb d_fm_rankIn_2 rfl (lv_at hl 0 rfl) ?_
  refine lv_iload_n hx hb d_fm_rankIn_3 rfl (lv_at hl 1 rfl) ?_
  have hPc : va_P (kD K) vwCl [(Lh, .inr (1, [.ref La0, .int L.2])), (La0, .inl ((kC K), 100, .inl L.1))] _ := hP.sub [0, 1] rfl
  refine vp_callSi (va_Run.run (va_runV (As := [.int pl]) (rest := [.ref (kK K 0)]) ⟨hx, hb, hml, hown, htg⟩ (c_ln_letter l K Lh La0 L pl) (cwV 1 htg (g_V q_553 q_178 q_179 q_2 (g_w q_180)) rfl rfl rfl ⟨rfl, k_ln_letter⟩ ⟨Nat.le_of_ble_eq_true rfl, Nat.le_of_ble_eq_true rfl⟩) ⟨ro_blind, va_recv hK hPc (ci := 1) (q0 := 0) rfl rfl, ro_use hPc hK hG hS ⟨(by assumption), trivial⟩⟩ rfl rfl hl.1 rfl (lv_room (Nat.le_of_ble_eq_true rfl)) d_fm_rankIn_4 ⟨Nat.zero_le _, Nat.zero_le _⟩)) (fun r_1 hw_1 => ?_)
  have hF := hF.trans (bnd_s hw_1.1)
  have hn_1 := hw_1.2
  have hPc : va_P (kD K) vwCl [] _ := hP.sub [] rfl
  refine vp_callSi (va_Run.run (va_runV (As := [.int r_1]) (rest := []) ⟨hx, hb, hml, hown, htg⟩ (c_st_indexOf l K 0 r_1) (cwV 1 htg (g_V q_554 q_204 q_205 q_8 (g_w q_206)) rfl rfl rfl ⟨rfl, k_st_indexOf⟩ ⟨Nat.le_of_ble_eq_true rfl, Nat.le_of_ble_eq_true rfl⟩) ⟨ro_blind, vk_recv hG.str (by decide) hS, ro_use hPc hK hG hS ⟨(by decide), trivial⟩⟩ rfl rfl hl.1 rfl (lv_room (Nat.le_of_ble_eq_true rfl)) d_fm_rankIn_7 ⟨Nat.zero_le _, Nat.zero_le _⟩)) (fun r_2 hw_2 => ?_)
  have hF := hF.trans (bnd_s hw_2.1)
  exact W.iret (v := r_2) hx hb hr (fun t ht hW => ⟨_, rfl, ⟨hF, trivial⟩, ht⟩) hS.2.2 d_fm_rankIn_10
def f_fm_squareIn (L : LnT) (pl : Int32) : Int32 := (bnd (f_fm_fileIn L pl) (fun r_1 => (bnd (f_fm_rankIn L (pl + (1 : Int32))) (fun r_2 => (bnd (f_gn_squareOf r_1 r_2) (fun r_3 => r_3))))))
set_option maxHeartbeats 4000000 in
set_option maxRecDepth 100000 in
theorem c_fm_squareIn (l : Launch) (K : KT) (Lh La0 : Nat) (L : LnT) (pl : Int32) : Met l y_fm_squareIn w_fm_squareIn ({ frames := 5, cells := 0, slots := 0, locals := 112 } : Room) (va_Pc [.ref Lh, .int pl] (fun U => pRO K [(Lh, .inr (1, [.ref La0, .int L.2])), (La0, .inl ((kC K), 100, .inl L.1))] U ∧ LnOk L ∧ True)) (vp_Si (fun r => f_fm_squareIn L pl = r ∧ True)) 0 0 (fun _ => False) := by
  refine Met.ofW (cc := b_fm_squareIn) (maxL := 2) (ret := (some .int)) (by decide) rfl ?_
  intro p e s m args below meth c s₁ B hml hv
  obtain ⟨rfl, ⟨hP, hK, hG⟩, ok_L, -⟩ := hv
  have hx := B.exec
  have hb := B.bytes
  have hr := B.returns
  have hts := atoms_spec (ws := w_fm_squareIn) B.pre
  have hown : s.vm.findClass R_fm = some m.cls := findClass_of_methodNamed B.named
  have hlocks := B.notSynchronized
  have htg := fun w h => hts w (List.mem_cons_of_mem _ h)
  have hS : va_S (fun _ => False) s.heap s.heap [] := va_S.rf
  have hl := lv_entry ([.ref Lh, .int pl]) (n := 2) (Nat.le_of_ble_eq_true rfl)
  rw [lg_entry_eq]
  generalize (lg_sl ([.ref Lh, .int pl]) ++ List.replicate (2 - (lg_sl ([.ref Lh, .int pl])).length) Slot.unset).toArray = ls at hl ⊢
  have hl : lv_has ls 2 [(0, .ref Lh), (1, .int pl)] := hl
  have hF := f_fm_squareIn.eq_1 L pl
  refine lv_aload_n hx hb d_fm_squareIn_0 rfl (lv_at hl 0 rfl) ?_
  refine lv_iload_n hx hb d_fm_squareIn_1 rfl (lv_at hl 1 rfl) ?_
  have hPc : va_P (kD K) vwCl [(Lh, .inr (1, [.ref La0, .int L.2])), (La0, .inl ((kC K), 100, .inl L.1))] _ := hP.sub [0, 1] rfl
  refine vp_callSi (va_Run.run (va_runS (As := [.ref Lh, .int pl]) (rest := []) ⟨hx, hb, hml, hown, htg⟩ (c_fm_fileIn l K Lh La0 L pl) (va_cwS 2 htg (g_S q_576 q_577 q_5 (g_w q_578)) rfl rfl rfl k_fm_fileIn ⟨Nat.le_of_ble_eq_true rfl, Nat.le_of_ble_eq_true rfl⟩) ⟨ro_blind, ro_use hPc hK hG hS ⟨(by assumption), trivial⟩⟩ rfl rfl hl.1 rfl (lv_room (Nat.le_of_ble_eq_true rfl)) d_fm_squareIn_2 ⟨Nat.zero_le _, Nat.zero_le _⟩)) (fun r_1 hw_1 => ?_)
  have hF := hF.trans (bnd_s hw_1.1)
  refine lv_aload_n hx hb d_fm_squareIn_5 rfl (lv_at hl 0 rfl) ?_
  refine lv_iload_n hx hb d_fm_squareIn_6 rfl (lv_at hl 1 rfl) ?_
  refine lv_iconst (v := 1) hx hb d_fm_squareIn_7 (by decide) ?_
  refine lv_iadd hx hb d_fm_squareIn_8 ?_
  have hPc : va_P (kD K) vwCl [(Lh, .inr (1, [.ref La0, .int L.2])), (La0, .inl ((kC K), 100, .inl L.1))] _ := hP.sub [0, 1] rfl
  refine vp_callSi (va_Run.run (va_runS (As := [.ref Lh, .int (pl + (1 : Int32))]) (rest := [.int r_1]) ⟨hx, hb, hml, hown, htg⟩ (c_fm_rankIn l K Lh La0 L (pl + (1 : Int32))) (va_cwS 2 htg (g_S q_580 q_581 q_5 (g_w q_582)) rfl rfl rfl k_fm_rankIn ⟨Nat.le_of_ble_eq_true rfl, Nat.le_of_ble_eq_true rfl⟩) ⟨ro_blind, ro_use hPc hK hG hS ⟨(by assumption), trivial⟩⟩ rfl rfl hl.1 rfl (lv_room (Nat.le_of_ble_eq_true rfl)) d_fm_squareIn_9 ⟨Nat.zero_le _, Nat.zero_le _⟩)) (fun r_2 hw_2 => ?_)
  have hF := hF.trans (bnd_s hw_2.1)
  have hPc : va_P (kD K) vwCl [] _ := hP.sub [] rfl
  refine vp_callSi (va_Run.run (va_runSN (As := [.int r_1, .int r_2]) (rest := []) ⟨hx, hb, hml, hown, htg⟩ (c_gn_squareOf l K r_1 r_2) (⟨va_cnB 2 htg (g_w q_292) rfl rfl rfl (hG.nw 30 rfl) (htg _ q_1) k_gn_squareOf ⟨Nat.le_of_ble_eq_true rfl, Nat.le_of_ble_eq_true rfl⟩, htg _ q_291, trivial⟩) ⟨ro_blind, ro_use hPc hK hG hS trivial⟩ rfl rfl hl.1 rfl (lv_room (Nat.le_of_ble_eq_true rfl)) d_fm_squareIn_12 ⟨Nat.zero_le _, Nat.zero_le _⟩)) (fun r_3 hw_3 => ?_)
  have hF := hF.trans (bnd_s hw_3.1)
  exact W.iret (v := r_3) hx hb hr (fun t ht hW => ⟨_, rfl, ⟨hF, trivial⟩, ht⟩) hS.2.2 d_fm_squareIn_15
def f_fm_isCastling (F : FmT) (L : LnT) : Int32 × FmT := (bnd (f_ln_beginsWithWord L 6 F.1) (fun r_1 => (if r_1 = 0 then (bnd (f_ln_beginsWithWord L 7 F.1) (fun r_3 => (if r_3 = 0 then ((0 : Int32), (F.1, F.2.1, (0 : Int32), F.2.2.2.1, F.2.2.2.2.1, F.2.2.2.2.2)) else ((1 : Int32), (F.1, F.2.1, (-1 : Int32), F.2.2.2.1, F.2.2.2.2.1, F.2.2.2.2.2))))) else ((1 : Int32), (F.1, F.2.1, (1 : Int32), F.2.2.2.1, F.2.2.2.2.1, F.2.2.2.2.2)))))
set_option maxHeartbeats 4000000 in
set_option maxRecDepth 100000 in
theorem c_fm_isCastling (l : Launch) (K : KT) (sz : Nat) (Fh : Nat) (F : FmT) (Lh La0 : Nat) (L : LnT) : Met l y_fm_isCastling w_fm_isCastling ({ frames := 5, cells := 0, slots := 0, locals := 108 } : Room) (va_Pc [.ref Fh, .ref Lh] (fun U => pMU K [(Fh, .inr (0, [.int F.1, .int F.2.1, .int F.2.2.1, .int F.2.2.2.1, .int F.2.2.2.2.1, .int F.2.2.2.2.2])), (Lh, .inr (1, [.ref La0, .int L.2])), (La0, .inl ((kC K), 100, .inl L.1))] sz U ∧ LnOk L ∧ True)) (va_Qi (fun (r : Int32) (u : FmT) => f_fm_isCastling F L = (r, u) ∧ narrow .boolean (.int r) = .int r ∧ True) (fun (u : FmT) (t : State) => va_P (kD K) vwCl [(Fh, .inr (0, [.int u.1, .int u.2.1, .int u.2.2.1, .int u.2.2.2.1, .int u.2.2.2.2.1, .int u.2.2.2.2.2])), (Lh, .inr (1, [.ref La0, .int L.2])), (La0, .inl ((kC K), 100, .inl L.1))] t.heap ∧ va_D (va_A [(Fh, .inr (0, [.int F.1, .int F.2.1, .int F.2.2.1, .int F.2.2.2.1, .int F.2.2.2.2.1, .int F.2.2.2.2.2])), (Lh, .inr (1, [.ref La0, .int L.2])), (La0, .inl ((kC K), 100, .inl L.1))] sz) [(Fh, .inr (0, [.int u.1, .int u.2.1, .int u.2.2.1, .int u.2.2.2.1, .int u.2.2.2.2.1, .int u.2.2.2.2.2])), (Lh, .inr (1, [.ref La0, .int L.2])), (La0, .inl ((kC K), 100, .inl L.1))]) (va_A [(Fh, .inr (0, [.int F.1, .int F.2.1, .int F.2.2.1, .int F.2.2.2.1, .int F.2.2.2.2.1, .int F.2.2.2.2.2])), (Lh, .inr (1, [.ref La0, .int L.2])), (La0, .inl ((kC K), 100, .inl L.1))] sz)) 0 0 (va_A [(Fh, .inr (0, [.int F.1, .int F.2.1, .int F.2.2.1, .int F.2.2.2.1, .int F.2.2.2.2.1, .int F.2.2.2.2.2])), (Lh, .inr (1, [.ref La0, .int L.2])), (La0, .inl ((kC K), 100, .inl L.1))] sz) := by
  refine Met.ofW (cc := b_fm_isCastling) (maxL := 2) (ret := (some .boolean)) (by decide) rfl ?_
  intro p e s m args below meth c s₁ B hml hv
  obtain ⟨rfl, ⟨hsz, hP, hK, hD0, hG⟩, ok_L, -⟩ := hv
  have hx := B.exec
  have hb := B.bytes
  have hr := B.returns
  have hts := atoms_spec (ws := w_fm_isCastling) B.pre
  have hown : s.vm.findClass R_fm = some m.cls := findClass_of_methodNamed B.named
  have hlocks := B.notSynchronized
  have htg := fun w h => hts w (List.mem_cons_of_mem _ h)
  subst hsz
  have hD := hD0.self (sz := s.heap.size)
  generalize hAe : va_A [(Fh, .inr (0, [.int F.1, .int F.2.1, .int F.2.2.1, .int F.2.2.2.1, .int F.2.2.2.2.1, .int F.2.2.2.2.2])), (Lh, .inr (1, [.ref La0, .int L.2])), (La0, .inl ((kC K), 100, .inl L.1))] s.heap.size = A at hD hG ⊢
  have hA : ∀ q : Nat, s.heap.size ≤ q → A q := fun q h => by rw [← hAe]; exact Or.inr h
  have hS : va_S A s.heap s.heap [] := va_S.rf
  have hl := lv_entry ([.ref Fh, .ref Lh]) (n := 2) (Nat.le_of_ble_eq_true rfl)
  rw [lg_entry_eq]
  generalize (lg_sl ([.ref Fh, .ref Lh]) ++ List.replicate (2 - (lg_sl ([.ref Fh, .ref Lh])).length) Slot.unset).toArray = ls at hl ⊢
  have hl : lv_has ls 2 [(0, .ref Fh), (1, .ref Lh)] := hl
  have hF := f_fm_isCastling.eq_1 F L
  refine lv_aload_n hx hb d_fm_isCastling_0 rfl (lv_at hl 0 rfl) ?_
  refine lv_iconst (v := 0) hx hb d_fm_isCastling_1 (by decide) ?_
  refine va_put (D := kD K) (ci := 0) (v := .int (0 : Int32)) (ty := .int) (C := R_fm) (T := T_fm) (N := 6) hx hb htg in_fm ty_fm ty_fm_ok nm_fm hown hK hP hD hS 0 rfl rfl 2 (by decide) (htg (.fieldLink R_fm 50 "GameNotation$Form" "castling" "I") q_76) (fun _ h9 => h9) rfl (by decide +kernel) rfl rfl (Nat.le_of_ble_eq_true rfl) d_fm_isCastling_2 (fun H locs hP hD hS => ?_)
  have hP : va_P (kD K) vwCl [(Fh, .inr (0, [.int F.1, .int F.2.1, .int (0 : Int32), .int F.2.2.2.1, .int F.2.2.2.2.1, .int F.2.2.2.2.2])), (Lh, .inr (1, [.ref La0, .int L.2])), (La0, .inl ((kC K), 100, .inl L.1))] _ := hP
  have hD : va_D A [(Fh, .inr (0, [.int F.1, .int F.2.1, .int (0 : Int32), .int F.2.2.2.1, .int F.2.2.2.2.1, .int F.2.2.2.2.2])), (Lh, .inr (1, [.ref La0, .int L.2])), (La0, .inl ((kC K), 100, .inl L.1))] := hD
  refine lv_aload_n hx hb d_fm_isCastling_5 rfl (lv_at hl 1 rfl) ?_
  refine va_ldcS hx hb hown (show vk_R R_fm 79 "0-0" (kK K 6) s from hG.sr 10 (q := ("GameNotation$Form", 79, "0-0", 6)) rfl) d_fm_isCastling_6 ?_
  refine lv_aload_n hx hb d_fm_isCastling_8 rfl (lv_at hl 0 rfl) ?_
  refine va_get (D := kD K) (ci := 0) (v := .int F.1) (C := R_fm) (T := T_fm) (N := 6) hx hb htg in_fm hown hK hP 0 rfl rfl 0 (by decide) (htg (.fieldLink R_fm 9 "GameNotation$Form" "unsignedSize" "I") q_74) (fun _ h9 => h9) rfl d_fm_isCastling_9 ?_
  have hPc : va_P (kD K) vwCl [(Lh, .inr (1, [.ref La0, .int L.2])), (La0, .inl ((kC K), 100, .inl L.1))] _ := hP.sub [1, 2] rfl
  refine vp_callSi (va_Run.run (va_runV (As := [.ref (kK K 6), .int F.1]) (rest := []) ⟨hx, hb, hml, hown, htg⟩ (c_ln_beginsWithWord l K Lh La0 L 6 F.1) (cwV 2 htg (g_V q_560 q_561 q_562 q_2 (g_w q_563)) rfl rfl rfl ⟨rfl, k_ln_beginsWithWord⟩ ⟨Nat.le_of_ble_eq_true rfl, Nat.le_of_ble_eq_true rfl⟩) ⟨ro_blind, va_recv hK hPc (ci := 1) (q0 := 0) rfl rfl, ro_use hPc hK hG hS ⟨(by decide), (by assumption), trivial⟩⟩ rfl rfl hl.1 rfl (lv_room (Nat.le_of_ble_eq_true rfl)) d_fm_isCastling_12 ⟨Nat.zero_le _, Nat.zero_le _⟩)) (fun r_1 hw_1 => ?_)
  have hF := hF.trans (bnd_s hw_1.1)
  have hn_1 := hw_1.2
  refine lv_if_eq (tgt := 26) hx hb d_fm_isCastling_15 (by decide) (fun c_2 => ?_) (fun c_2 => ?_)
  · have hF := hF.trans (if_pos c_2)
    refine lv_aload_n hx hb d_fm_isCastling_26 rfl (lv_at hl 1 rfl) ?_
    refine va_ldcS hx hb hown (show vk_R R_fm 85 "0-0-0" (kK K 7) s from hG.sr 11 (q := ("GameNotation$Form", 85, "0-0-0", 7)) rfl) d_fm_isCastling_27 ?_
    refine lv_aload_n hx hb d_fm_isCastling_29 rfl (lv_at hl 0 rfl) ?_
    refine va_get (D := kD K) (ci := 0) (v := .int F.1) (C := R_fm) (T := T_fm) (N := 6) hx hb htg in_fm hown hK hP 0 rfl rfl 0 (by decide) (htg (.fieldLink R_fm 9 "GameNotation$Form" "unsignedSize" "I") q_74) (fun _ h9 => h9) rfl d_fm_isCastling_30 ?_
    have hPc : va_P (kD K) vwCl [(Lh, .inr (1, [.ref La0, .int L.2])), (La0, .inl ((kC K), 100, .inl L.1))] _ := hP.sub [1, 2] rfl
    refine vp_callSi (va_Run.run (va_runV (As := [.ref (kK K 7), .int F.1]) (rest := []) ⟨hx, hb, hml, hown, htg⟩ (c_ln_beginsWithWord l K Lh La0 L 7 F.1) (cwV 2 htg (g_V q_560 q_561 q_562 q_2 (g_w q_563)) rfl rfl rfl ⟨rfl, k_ln_beginsWithWord⟩ ⟨Nat.le_of_ble_eq_true rfl, Nat.le_of_ble_eq_true rfl⟩) ⟨ro_blind, va_recv hK hPc (ci := 1) (q0 := 0) rfl rfl, ro_use hPc hK hG hS ⟨(by decide), (by assumption), trivial⟩⟩ rfl rfl hl.1 rfl (lv_room (Nat.le_of_ble_eq_true rfl)) d_fm_isCastling_33 ⟨Nat.zero_le _, Nat.zero_le _⟩)) (fun r_3 hw_3 => ?_)
    have hF := hF.trans (bnd_s hw_3.1)
    have hn_3 := hw_3.2
    refine lv_if_eq (tgt := 44) hx hb d_fm_isCastling_36 (by decide) (fun c_4 => ?_) (fun c_4 => ?_)
    · have hF := hF.trans (if_pos c_4)
      refine lv_aload_n hx hb d_fm_isCastling_44 rfl (lv_at hl 0 rfl) ?_
      refine va_get (D := kD K) (ci := 0) (v := .int (0 : Int32)) (C := R_fm) (T := T_fm) (N := 6) hx hb htg in_fm hown hK hP 0 rfl rfl 2 (by decide) (htg (.fieldLink R_fm 50 "GameNotation$Form" "castling" "I") q_76) (fun _ h9 => h9) rfl d_fm_isCastling_45 ?_
      refine lv_if_eq (tgt := 55) hx hb d_fm_isCastling_48 (by decide) (fun _ => ?_) (fun c => False.elim (by revert c; decide))
      refine lv_iconst (v := 0) hx hb d_fm_isCastling_55 (by decide) ?_
      exact W.zret (v := (0 : Int32)) hx hb hr (rfl) (fun t ht hW => ⟨⟨(0 : Int32), (F.1, F.2.1, (0 : Int32), F.2.2.2.1, F.2.2.2.2.1, F.2.2.2.2.2), rfl, ⟨hF, rfl, trivial⟩, ⟨by rw [ht]; exact hP, hD⟩⟩, hS.F ht⟩) hS.2.2 d_fm_isCastling_56
    · have hF := hF.trans (if_neg c_4)
      refine lv_aload_n hx hb d_fm_isCastling_39 rfl (lv_at hl 0 rfl) ?_
      refine lv_iconst (v := -1) hx hb d_fm_isCastling_40 (by decide) ?_
      refine va_put (D := kD K) (ci := 0) (v := .int (-1 : Int32)) (ty := .int) (C := R_fm) (T := T_fm) (N := 6) hx hb htg in_fm ty_fm ty_fm_ok nm_fm hown hK hP hD hS 0 rfl rfl 2 (by decide) (htg (.fieldLink R_fm 50 "GameNotation$Form" "castling" "I") q_76) (fun _ h9 => h9) rfl (by decide +kernel) rfl rfl (Nat.le_of_ble_eq_true rfl) d_fm_isCastling_41 (fun H locs hP hD hS => ?_)
      have hP : va_P (kD K) vwCl [(Fh, .inr (0, [.int F.1, .int F.2.1, .int (-1 : Int32), .int F.2.2.2.1, .int F.2.2.2.2.1, .int F.2.2.2.2.2])), (Lh, .inr (1, [.ref La0, .int L.2])), (La0, .inl ((kC K), 100, .inl L.1))] _ := hP
      have hD : va_D A [(Fh, .inr (0, [.int F.1, .int F.2.1, .int (-1 : Int32), .int F.2.2.2.1, .int F.2.2.2.2.1, .int F.2.2.2.2.2])), (Lh, .inr (1, [.ref La0, .int L.2])), (La0, .inl ((kC K), 100, .inl L.1))] := hD
      refine lv_aload_n hx hb d_fm_isCastling_44 rfl (lv_at hl 0 rfl) ?_
      refine va_get (D := kD K) (ci := 0) (v := .int (-1 : Int32)) (C := R_fm) (T := T_fm) (N := 6) hx hb htg in_fm hown hK hP 0 rfl rfl 2 (by decide) (htg (.fieldLink R_fm 50 "GameNotation$Form" "castling" "I") q_76) (fun _ h9 => h9) rfl d_fm_isCastling_45 ?_
      refine lv_if_eq (tgt := 55) hx hb d_fm_isCastling_48 (by decide) (fun c => False.elim (by revert c; decide)) (fun _ => ?_)
      refine lv_iconst (v := 1) hx hb d_fm_isCastling_51 (by decide) ?_
      refine lv_goto (tgt := 56) hx hb d_fm_isCastling_52 (by decide) ?_
      exact W.zret (v := (1 : Int32)) hx hb hr (rfl) (fun t ht hW => ⟨⟨(1 : Int32), (F.1, F.2.1, (-1 : Int32), F.2.2.2.1, F.2.2.2.2.1, F.2.2.2.2.2), rfl, ⟨hF, rfl, trivial⟩, ⟨by rw [ht]; exact hP, hD⟩⟩, hS.F ht⟩) hS.2.2 d_fm_isCastling_56
  · have hF := hF.trans (if_neg c_2)
    refine lv_aload_n hx hb d_fm_isCastling_18 rfl (lv_at hl 0 rfl) ?_
    refine lv_iconst (v := 1) hx hb d_fm_isCastling_19 (by decide) ?_
    refine va_put (D := kD K) (ci := 0) (v := .int (1 : Int32)) (ty := .int) (C := R_fm) (T := T_fm) (N := 6) hx hb htg in_fm ty_fm ty_fm_ok nm_fm hown hK hP hD hS 0 rfl rfl 2 (by decide) (htg (.fieldLink R_fm 50 "GameNotation$Form" "castling" "I") q_76) (fun _ h9 => h9) rfl (by decide +kernel) rfl rfl (Nat.le_of_ble_eq_true rfl) d_fm_isCastling_20 (fun H locs hP hD hS => ?_)
    have hP : va_P (kD K) vwCl [(Fh, .inr (0, [.int F.1, .int F.2.1, .int (1 : Int32), .int F.2.2.2.1, .int F.2.2.2.2.1, .int F.2.2.2.2.2])), (Lh, .inr (1, [.ref La0, .int L.2])), (La0, .inl ((kC K), 100, .inl L.1))] _ := hP
    have hD : va_D A [(Fh, .inr (0, [.int F.1, .int F.2.1, .int (1 : Int32), .int F.2.2.2.1, .int F.2.2.2.2.1, .int F.2.2.2.2.2])), (Lh, .inr (1, [.ref La0, .int L.2])), (La0, .inl ((kC K), 100, .inl L.1))] := hD
    refine lv_goto (tgt := 44) hx hb d_fm_isCastling_23 (by decide) ?_
    refine lv_aload_n hx hb d_fm_isCastling_44 rfl (lv_at hl 0 rfl) ?_
    refine va_get (D := kD K) (ci := 0) (v := .int (1 : Int32)) (C := R_fm) (T := T_fm) (N := 6) hx hb htg in_fm hown hK hP 0 rfl rfl 2 (by decide) (htg (.fieldLink R_fm 50 "GameNotation$Form" "castling" "I") q_76) (fun _ h9 => h9) rfl d_fm_isCastling_45 ?_
    refine lv_if_eq (tgt := 55) hx hb d_fm_isCastling_48 (by decide) (fun c => False.elim (by revert c; decide)) (fun _ => ?_)
    refine lv_iconst (v := 1) hx hb d_fm_isCastling_51 (by decide) ?_
    refine lv_goto (tgt := 56) hx hb d_fm_isCastling_52 (by decide) ?_
    exact W.zret (v := (1 : Int32)) hx hb hr (rfl) (fun t ht hW => ⟨⟨(1 : Int32), (F.1, F.2.1, (1 : Int32), F.2.2.2.1, F.2.2.2.2.1, F.2.2.2.2.2), rfl, ⟨hF, rfl, trivial⟩, ⟨by rw [ht]; exact hP, hD⟩⟩, hS.F ht⟩) hS.2.2 d_fm_isCastling_56
def f_fm_isManMove (F : FmT) (L : LnT) : Int32 × FmT := (bnd (f_ln_letter L (0 : Int32)) (fun r_1 => (bnd (f_st_indexOf 1 r_1) (fun r_2 => (bnd (f_fm_squareIn L (F.1 - (2 : Int32))) (fun r_3 => (if (r_2 + (1 : Int32)) < (2 : Int32) then ((0 : Int32), (F.1, F.2.1, F.2.2.1, r_2 + (1 : Int32), r_3, (0 : Int32))) else (if (6 : Int32) < (r_2 + (1 : Int32)) then ((0 : Int32), (F.1, F.2.1, F.2.2.1, r_2 + (1 : Int32), r_3, (0 : Int32))) else (if r_3 = (-1 : Int32) then ((0 : Int32), (F.1, F.2.1, F.2.2.1, r_2 + (1 : Int32), r_3, (0 : Int32))) else (bnd (f_ln_letter L ((F.1 - (2 : Int32)) - (1 : Int32))) (fun r_7 => (if r_7 = (120 : Int32) then (bnd (f_fm_rankIn L (((F.1 - (2 : Int32)) + (-1 : Int32)) - (1 : Int32))) (fun r_19 => (if r_19 < 0 then (bnd (f_fm_fileIn L (((F.1 - (2 : Int32)) + (-1 : Int32)) - (1 : Int32))) (fun r_21 => (if r_21 < 0 then (if ((F.1 - (2 : Int32)) + (-1 : Int32)) = (1 : Int32) then ((1 : Int32), (F.1, F.2.1, F.2.2.1, r_2 + (1 : Int32), r_3, (0 : Int32))) else ((0 : Int32), (F.1, F.2.1, F.2.2.1, r_2 + (1 : Int32), r_3, (0 : Int32)))) else (if (((F.1 - (2 : Int32)) + (-1 : Int32)) + (-1 : Int32)) = (1 : Int32) then ((1 : Int32), (F.1, F.2.1, F.2.2.1, r_2 + (1 : Int32), r_3, (0 : Int32))) else ((0 : Int32), (F.1, F.2.1, F.2.2.1, r_2 + (1 : Int32), r_3, (0 : Int32))))))) else (bnd (f_fm_fileIn L ((((F.1 - (2 : Int32)) + (-1 : Int32)) + (-1 : Int32)) - (1 : Int32))) (fun r_25 => (if r_25 < 0 then (if (((F.1 - (2 : Int32)) + (-1 : Int32)) + (-1 : Int32)) = (1 : Int32) then ((1 : Int32), (F.1, F.2.1, F.2.2.1, r_2 + (1 : Int32), r_3, (0 : Int32))) else ((0 : Int32), (F.1, F.2.1, F.2.2.1, r_2 + (1 : Int32), r_3, (0 : Int32)))) else (if ((((F.1 - (2 : Int32)) + (-1 : Int32)) + (-1 : Int32)) + (-1 : Int32)) = (1 : Int32) then ((1 : Int32), (F.1, F.2.1, F.2.2.1, r_2 + (1 : Int32), r_3, (0 : Int32))) else ((0 : Int32), (F.1, F.2.1, F.2.2.1, r_2 + (1 : Int32), r_3, (0 : Int32)))))))))) else (bnd (f_fm_rankIn L ((F.1 - (2 : Int32)) - (1 : Int32))) (fun r_9 => (if r_9 < 0 then (bnd (f_fm_fileIn L ((F.1 - (2 : Int32)) - (1 : Int32))) (fun r_11 => (if r_11 < 0 then (if (F.1 - (2 : Int32)) = (1 : Int32) then ((1 : Int32), (F.1, F.2.1, F.2.2.1, r_2 + (1 : Int32), r_3, (0 : Int32))) else ((0 : Int32), (F.1, F.2.1, F.2.2.1, r_2 + (1 : Int32), r_3, (0 : Int32)))) else (if ((F.1 - (2 : Int32)) + (-1 : Int32)) = (1 : Int32) then ((1 : Int32), (F.1, F.2.1, F.2.2.1, r_2 + (1 : Int32), r_3, (0 : Int32))) else ((0 : Int32), (F.1, F.2.1, F.2.2.1, r_2 + (1 : Int32), r_3, (0 : Int32))))))) else (bnd (f_fm_fileIn L (((F.1 - (2 : Int32)) + (-1 : Int32)) - (1 : Int32))) (fun r_15 => (if r_15 < 0 then (if ((F.1 - (2 : Int32)) + (-1 : Int32)) = (1 : Int32) then ((1 : Int32), (F.1, F.2.1, F.2.2.1, r_2 + (1 : Int32), r_3, (0 : Int32))) else ((0 : Int32), (F.1, F.2.1, F.2.2.1, r_2 + (1 : Int32), r_3, (0 : Int32)))) else (if (((F.1 - (2 : Int32)) + (-1 : Int32)) + (-1 : Int32)) = (1 : Int32) then ((1 : Int32), (F.1, F.2.1, F.2.2.1, r_2 + (1 : Int32), r_3, (0 : Int32))) else ((0 : Int32), (F.1, F.2.1, F.2.2.1, r_2 + (1 : Int32), r_3, (0 : Int32))))))))))))))))))))))
set_option maxHeartbeats 4000000 in
set_option maxRecDepth 100000 in
theorem c_fm_isManMove (l : Launch) (K : KT) (sz : Nat) (Fh : Nat) (F : FmT) (Lh La0 : Nat) (L : LnT) : Met l y_fm_isManMove w_fm_isManMove ({ frames := 6, cells := 0, slots := 0, locals := 133 } : Room) (va_Pc [.ref Fh, .ref Lh] (fun U => pMU K [(Fh, .inr (0, [.int F.1, .int F.2.1, .int F.2.2.1, .int F.2.2.2.1, .int F.2.2.2.2.1, .int F.2.2.2.2.2])), (Lh, .inr (1, [.ref La0, .int L.2])), (La0, .inl ((kC K), 100, .inl L.1))] sz U ∧ LnOk L ∧ True)) (va_Qi (fun (r : Int32) (u : FmT) => f_fm_isManMove F L = (r, u) ∧ narrow .boolean (.int r) = .int r ∧ True) (fun (u : FmT) (t : State) => va_P (kD K) vwCl [(Fh, .inr (0, [.int u.1, .int u.2.1, .int u.2.2.1, .int u.2.2.2.1, .int u.2.2.2.2.1, .int u.2.2.2.2.2])), (Lh, .inr (1, [.ref La0, .int L.2])), (La0, .inl ((kC K), 100, .inl L.1))] t.heap ∧ va_D (va_A [(Fh, .inr (0, [.int F.1, .int F.2.1, .int F.2.2.1, .int F.2.2.2.1, .int F.2.2.2.2.1, .int F.2.2.2.2.2])), (Lh, .inr (1, [.ref La0, .int L.2])), (La0, .inl ((kC K), 100, .inl L.1))] sz) [(Fh, .inr (0, [.int u.1, .int u.2.1, .int u.2.2.1, .int u.2.2.2.1, .int u.2.2.2.2.1, .int u.2.2.2.2.2])), (Lh, .inr (1, [.ref La0, .int L.2])), (La0, .inl ((kC K), 100, .inl L.1))]) (va_A [(Fh, .inr (0, [.int F.1, .int F.2.1, .int F.2.2.1, .int F.2.2.2.1, .int F.2.2.2.2.1, .int F.2.2.2.2.2])), (Lh, .inr (1, [.ref La0, .int L.2])), (La0, .inl ((kC K), 100, .inl L.1))] sz)) 0 0 (va_A [(Fh, .inr (0, [.int F.1, .int F.2.1, .int F.2.2.1, .int F.2.2.2.1, .int F.2.2.2.2.1, .int F.2.2.2.2.2])), (Lh, .inr (1, [.ref La0, .int L.2])), (La0, .inl ((kC K), 100, .inl L.1))] sz) := by
  refine Met.ofW (cc := b_fm_isManMove) (maxL := 3) (ret := (some .boolean)) (by decide) rfl ?_
  intro p e s m args below meth c s₁ B hml hv
  obtain ⟨rfl, ⟨hsz, hP, hK, hD0, hG⟩, ok_L, -⟩ := hv
  have hx := B.exec
  have hb := B.bytes
  have hr := B.returns
  have hts := atoms_spec (ws := w_fm_isManMove) B.pre
  have hown : s.vm.findClass R_fm = some m.cls := findClass_of_methodNamed B.named
  have hlocks := B.notSynchronized
  have htg := fun w h => hts w (List.mem_cons_of_mem _ h)
  subst hsz
  have hD := hD0.self (sz := s.heap.size)
  generalize hAe : va_A [(Fh, .inr (0, [.int F.1, .int F.2.1, .int F.2.2.1, .int F.2.2.2.1, .int F.2.2.2.2.1, .int F.2.2.2.2.2])), (Lh, .inr (1, [.ref La0, .int L.2])), (La0, .inl ((kC K), 100, .inl L.1))] s.heap.size = A at hD hG ⊢
  have hA : ∀ q : Nat, s.heap.size ≤ q → A q := fun q h => by rw [← hAe]; exact Or.inr h
  have hS : va_S A s.heap s.heap [] := va_S.rf
  have hl := lv_entry ([.ref Fh, .ref Lh]) (n := 3) (Nat.le_of_ble_eq_true rfl)
  rw [lg_entry_eq]
  generalize (lg_sl ([.ref Fh, .ref Lh]) ++ List.replicate (3 - (lg_sl ([.ref Fh, .ref Lh])).length) Slot.unset).toArray = ls at hl ⊢
  have hl : lv_has ls 3 [(0, .ref Fh), (1, .ref Lh)] := hl
  have hF := f_fm_isManMove.eq_1 F L
  refine lv_aload_n hx hb d_fm_isManMove_0 rfl (lv_at hl 0 rfl) ?_
  refine va_get (D := kD K) (ci := 0) (v := .int F.1) (C := R_fm) (T := T_fm) (N := 6) hx hb htg in_fm hown hK hP 0 rfl rfl 0 (by decide) (htg (.fieldLink R_fm 9 "GameNotation$Form" "unsignedSize" "I") q_74) (fun _ h9 => h9) rfl d_fm_isManMove_1 ?_
  refine lv_iconst (v := 2) hx hb d_fm_isManMove_4 (by decide) ?_
  refine lv_isub hx hb d_fm_isManMove_5 ?_
  refine lv_istore_n (lv' := [(2, .int (F.1 - (2 : Int32))), (0, .ref Fh), (1, .ref Lh)]) hx hb d_fm_isManMove_6 rfl hl (by decide) rfl (fun ls hl => ?_)
  refine lv_aload_n hx hb d_fm_isManMove_7 rfl (lv_at hl 1 rfl) ?_
  refine va_ldcS hx hb hown (show vk_R R_fm 87 "PNBRQKpnbrqk" (kK K 1) s from hG.sr 12 (q := ("GameNotation$Form", 87, "PNBRQKpnbrqk", 1)) rfl) d_fm_isManMove_8 ?_
  refine lv_aload_n hx hb d_fm_isManMove_10 rfl (lv_at hl 2 rfl) ?_
  refine lv_iconst (v := 0) hx hb d_fm_isManMove_11 (by decide) ?_
  have hPc : va_P (kD K) vwCl [(Lh, .inr (1, [.ref La0, .int L.2])), (La0, .inl ((kC K), 100, .inl L.1))] _ := hP.sub [1, 2] rfl
  refine vp_callSi (va_Run.run (va_runV (As := [.int (0 : Int32)]) (rest := [.ref (kK K 1), .ref Fh]) ⟨hx, hb, hml, hown, htg⟩ (c_ln_letter l K Lh La0 L (0 : Int32)) (cwV 1 htg (g_V q_553 q_178 q_179 q_2 (g_w q_180)) rfl rfl rfl ⟨rfl, k_ln_letter⟩ ⟨Nat.le_of_ble_eq_true rfl, Nat.le_of_ble_eq_true rfl⟩) ⟨ro_blind, va_recv hK hPc (ci := 1) (q0 := 0) rfl rfl, ro_use hPc hK hG hS ⟨(by assumption), trivial⟩⟩ rfl rfl hl.1 rfl (lv_room (Nat.le_of_ble_eq_true rfl)) d_fm_isManMove_12 ⟨Nat.zero_le _, Nat.zero_le _⟩)) (fun r_1 hw_1 => ?_)
  have hF := hF.trans (bnd_s hw_1.1)
  have hn_1 := hw_1.2
  have hPc : va_P (kD K) vwCl [] _ := hP.sub [] rfl
  refine vp_callSi (va_Run.run (va_runV (As := [.int r_1]) (rest := [.ref Fh]) ⟨hx, hb, hml, hown, htg⟩ (c_st_indexOf l K 1 r_1) (cwV 1 htg (g_V q_554 q_204 q_205 q_8 (g_w q_206)) rfl rfl rfl ⟨rfl, k_st_indexOf⟩ ⟨Nat.le_of_ble_eq_true rfl, Nat.le_of_ble_eq_true rfl⟩) ⟨ro_blind, vk_recv hG.str (by decide) hS, ro_use hPc hK hG hS ⟨(by decide), trivial⟩⟩ rfl rfl hl.1 rfl (lv_room (Nat.le_of_ble_eq_true rfl)) d_fm_isManMove_15 ⟨Nat.zero_le _, Nat.zero_le _⟩)) (fun r_2 hw_2 => ?_)
  have hF := hF.trans (bnd_s hw_2.1)
  refine lv_iconst (v := 1) hx hb d_fm_isManMove_18 (by decide) ?_
  refine lv_iadd hx hb d_fm_isManMove_19 ?_
  refine va_put (D := kD K) (ci := 0) (v := .int (r_2 + (1 : Int32))) (ty := .int) (C := R_fm) (T := T_fm) (N := 6) hx hb htg in_fm ty_fm ty_fm_ok nm_fm hown hK hP hD hS 0 rfl rfl 3 (by decide) (htg (.fieldLink R_fm 64 "GameNotation$Form" "kind" "I") q_77) (fun _ h9 => h9) rfl (by decide +kernel) rfl rfl (Nat.le_of_ble_eq_true rfl) d_fm_isManMove_20 (fun H locs hP hD hS => ?_)
  have hP : va_P (kD K) vwCl [(Fh, .inr (0, [.int F.1, .int F.2.1, .int F.2.2.1, .int (r_2 + (1 : Int32)), .int F.2.2.2.2.1, .int F.2.2.2.2.2])), (Lh, .inr (1, [.ref La0, .int L.2])), (La0, .inl ((kC K), 100, .inl L.1))] _ := hP
  have hD : va_D A [(Fh, .inr (0, [.int F.1, .int F.2.1, .int F.2.2.1, .int (r_2 + (1 : Int32)), .int F.2.2.2.2.1, .int F.2.2.2.2.2])), (Lh, .inr (1, [.ref La0, .int L.2])), (La0, .inl ((kC K), 100, .inl L.1))] := hD
  refine lv_aload_n hx hb d_fm_isManMove_23 rfl (lv_at hl 1 rfl) ?_
  refine lv_aload_n hx hb d_fm_isManMove_24 rfl (lv_at hl 2 rfl) ?_
  refine lv_iload_n hx hb d_fm_isManMove_25 rfl (lv_at hl 0 rfl) ?_
  have hPc : va_P (kD K) vwCl [(Lh, .inr (1, [.ref La0, .int L.2])), (La0, .inl ((kC K), 100, .inl L.1))] _ := hP.sub [1, 2] rfl
  refine vp_callSi (va_Run.run (va_runS (As := [.ref Lh, .int (F.1 - (2 : Int32))]) (rest := [.ref Fh]) ⟨hx, hb, hml, hown, htg⟩ (c_fm_squareIn l K Lh La0 L (F.1 - (2 : Int32))) (va_cwS 2 htg (g_S q_573 q_574 q_5 (g_w q_575)) rfl rfl rfl k_fm_squareIn ⟨Nat.le_of_ble_eq_true rfl, Nat.le_of_ble_eq_true rfl⟩) ⟨ro_blind, ro_use hPc hK hG hS ⟨(by assumption), trivial⟩⟩ rfl rfl hl.1 rfl (lv_room (Nat.le_of_ble_eq_true rfl)) d_fm_isManMove_26 ⟨Nat.zero_le _, Nat.zero_le _⟩)) (fun r_3 hw_3 => ?_)
  have hF := hF.trans (bnd_s hw_3.1)
  refine va_put (D := kD K) (ci := 0) (v := .int r_3) (ty := .int) (C := R_fm) (T := T_fm) (N := 6) hx hb htg in_fm ty_fm ty_fm_ok nm_fm hown hK hP hD hS 0 rfl rfl 4 (by decide) (htg (.fieldLink R_fm 70 "GameNotation$Form" "target" "I") q_78) (fun _ h9 => h9) rfl (by decide +kernel) rfl rfl (Nat.le_of_ble_eq_true rfl) d_fm_isManMove_29 (fun H locs hP hD hS => ?_)
  have hP : va_P (kD K) vwCl [(Fh, .inr (0, [.int F.1, .int F.2.1, .int F.2.2.1, .int (r_2 + (1 : Int32)), .int r_3, .int F.2.2.2.2.2])), (Lh, .inr (1, [.ref La0, .int L.2])), (La0, .inl ((kC K), 100, .inl L.1))] _ := hP
  have hD : va_D A [(Fh, .inr (0, [.int F.1, .int F.2.1, .int F.2.2.1, .int (r_2 + (1 : Int32)), .int r_3, .int F.2.2.2.2.2])), (Lh, .inr (1, [.ref La0, .int L.2])), (La0, .inl ((kC K), 100, .inl L.1))] := hD
  refine lv_aload_n hx hb d_fm_isManMove_32 rfl (lv_at hl 1 rfl) ?_
  refine lv_iconst (v := 0) hx hb d_fm_isManMove_33 (by decide) ?_
  refine va_put (D := kD K) (ci := 0) (v := .int (0 : Int32)) (ty := .int) (C := R_fm) (T := T_fm) (N := 6) hx hb htg in_fm ty_fm ty_fm_ok nm_fm hown hK hP hD hS 0 rfl rfl 5 (by decide) (htg (.fieldLink R_fm 76 "GameNotation$Form" "becomes" "I") q_79) (fun _ h9 => h9) rfl (by decide +kernel) rfl rfl (Nat.le_of_ble_eq_true rfl) d_fm_isManMove_34 (fun H locs hP hD hS => ?_)
  have hP : va_P (kD K) vwCl [(Fh, .inr (0, [.int F.1, .int F.2.1, .int F.2.2.1, .int (r_2 + (1 : Int32)), .int r_3, .int (0 : Int32)])), (Lh, .inr (1, [.ref La0, .int L.2])), (La0, .inl ((kC K), 100, .inl L.1))] _ := hP
  have hD : va_D A [(Fh, .inr (0, [.int F.1, .int F.2.1, .int F.2.2.1, .int (r_2 + (1 : Int32)), .int r_3, .int (0 : Int32)])), (Lh, .inr (1, [.ref La0, .int L.2])), (La0, .inl ((kC K), 100, .inl L.1))] := hD
  refine lv_aload_n hx hb d_fm_isManMove_37 rfl (lv_at hl 1 rfl) ?_
  refine va_get (D := kD K) (ci := 0) (v := .int (r_2 + (1 : Int32))) (C := R_fm) (T := T_fm) (N := 6) hx hb htg in_fm hown hK hP 0 rfl rfl 3 (by decide) (htg (.fieldLink R_fm 64 "GameNotation$Form" "kind" "I") q_77) (fun _ h9 => h9) rfl d_fm_isManMove_38 ?_
  refine lv_iconst (v := 2) hx hb d_fm_isManMove_41 (by decide) ?_
  refine lv_icmp_lt (tgt := 62) hx hb d_fm_isManMove_42 (by decide) (fun c_4 => ?_) (fun c_4 => ?_)
  · have hF := hF.trans (if_pos c_4)
    refine lv_iconst (v := 0) hx hb d_fm_isManMove_62 (by decide) ?_
    exact W.zret (v := (0 : Int32)) hx hb hr (rfl) (fun t ht hW => ⟨⟨(0 : Int32), (F.1, F.2.1, F.2.2.1, r_2 + (1 : Int32), r_3, (0 : Int32)), rfl, ⟨hF, rfl, trivial⟩, ⟨by rw [ht]; exact hP, hD⟩⟩, hS.F ht⟩) hS.2.2 d_fm_isManMove_63
  · have hF := hF.trans (if_neg c_4)
    refine lv_aload_n hx hb d_fm_isManMove_45 rfl (lv_at hl 1 rfl) ?_
    refine va_get (D := kD K) (ci := 0) (v := .int (r_2 + (1 : Int32))) (C := R_fm) (T := T_fm) (N := 6) hx hb htg in_fm hown hK hP 0 rfl rfl 3 (by decide) (htg (.fieldLink R_fm 64 "GameNotation$Form" "kind" "I") q_77) (fun _ h9 => h9) rfl d_fm_isManMove_46 ?_
    refine lv_bipush (v := 6) hx hb d_fm_isManMove_49 (by decide) ?_
    refine lv_icmp_gt (tgt := 62) hx hb d_fm_isManMove_51 (by decide) (fun c_5 => ?_) (fun c_5 => ?_)
    · have hF := hF.trans (if_pos c_5)
      refine lv_iconst (v := 0) hx hb d_fm_isManMove_62 (by decide) ?_
      exact W.zret (v := (0 : Int32)) hx hb hr (rfl) (fun t ht hW => ⟨⟨(0 : Int32), (F.1, F.2.1, F.2.2.1, r_2 + (1 : Int32), r_3, (0 : Int32)), rfl, ⟨hF, rfl, trivial⟩, ⟨by rw [ht]; exact hP, hD⟩⟩, hS.F ht⟩) hS.2.2 d_fm_isManMove_63
    · have hF := hF.trans (if_neg c_5)
      refine lv_aload_n hx hb d_fm_isManMove_54 rfl (lv_at hl 1 rfl) ?_
      refine va_get (D := kD K) (ci := 0) (v := .int r_3) (C := R_fm) (T := T_fm) (N := 6) hx hb htg in_fm hown hK hP 0 rfl rfl 4 (by decide) (htg (.fieldLink R_fm 70 "GameNotation$Form" "target" "I") q_78) (fun _ h9 => h9) rfl d_fm_isManMove_55 ?_
      refine lv_iconst (v := -1) hx hb d_fm_isManMove_58 (by decide) ?_
      refine lv_icmp_ne (tgt := 64) hx hb d_fm_isManMove_59 (by decide) (fun c_6 => ?_) (fun c_6 => ?_)
      · have hF := hF.trans (if_neg c_6)
        refine lv_aload_n hx hb d_fm_isManMove_64 rfl (lv_at hl 2 rfl) ?_
        refine lv_iload_n hx hb d_fm_isManMove_65 rfl (lv_at hl 0 rfl) ?_
        refine lv_iconst (v := 1) hx hb d_fm_isManMove_66 (by decide) ?_
        refine lv_isub hx hb d_fm_isManMove_67 ?_
        have hPc : va_P (kD K) vwCl [(Lh, .inr (1, [.ref La0, .int L.2])), (La0, .inl ((kC K), 100, .inl L.1))] _ := hP.sub [1, 2] rfl
        refine vp_callSi (va_Run.run (va_runV (As := [.int ((F.1 - (2 : Int32)) - (1 : Int32))]) (rest := []) ⟨hx, hb, hml, hown, htg⟩ (c_ln_letter l K Lh La0 L ((F.1 - (2 : Int32)) - (1 : Int32))) (cwV 1 htg (g_V q_553 q_178 q_179 q_2 (g_w q_180)) rfl rfl rfl ⟨rfl, k_ln_letter⟩ ⟨Nat.le_of_ble_eq_true rfl, Nat.le_of_ble_eq_true rfl⟩) ⟨ro_blind, va_recv hK hPc (ci := 1) (q0 := 0) rfl rfl, ro_use hPc hK hG hS ⟨(by assumption), trivial⟩⟩ rfl rfl hl.1 rfl (lv_room (Nat.le_of_ble_eq_true rfl)) d_fm_isManMove_68 ⟨Nat.zero_le _, Nat.zero_le _⟩)) (fun r_7 hw_7 => ?_)
        have hF := hF.trans (bnd_s hw_7.1)
        have hn_7 := hw_7.2
        refine lv_bipush (v := 120) hx hb d_fm_isManMove_71 (by decide) ?_
        refine lv_icmp_ne (tgt := 79) hx hb d_fm_isManMove_73 (by decide) (fun c_8 => ?_) (fun c_8 => ?_)
        · have hF := hF.trans (if_neg c_8)
          refine lv_aload_n hx hb d_fm_isManMove_79 rfl (lv_at hl 2 rfl) ?_
          refine lv_iload_n hx hb d_fm_isManMove_80 rfl (lv_at hl 0 rfl) ?_
          refine lv_iconst (v := 1) hx hb d_fm_isManMove_81 (by decide) ?_
          refine lv_isub hx hb d_fm_isManMove_82 ?_
          have hPc : va_P (kD K) vwCl [(Lh, .inr (1, [.ref La0, .int L.2])), (La0, .inl ((kC K), 100, .inl L.1))] _ := hP.sub [1, 2] rfl
          refine vp_callSi (va_Run.run (va_runS (As := [.ref Lh, .int ((F.1 - (2 : Int32)) - (1 : Int32))]) (rest := []) ⟨hx, hb, hml, hown, htg⟩ (c_fm_rankIn l K Lh La0 L ((F.1 - (2 : Int32)) - (1 : Int32))) (va_cwS 2 htg (g_S q_580 q_581 q_5 (g_w q_582)) rfl rfl rfl k_fm_rankIn ⟨Nat.le_of_ble_eq_true rfl, Nat.le_of_ble_eq_true rfl⟩) ⟨ro_blind, ro_use hPc hK hG hS ⟨(by assumption), trivial⟩⟩ rfl rfl hl.1 rfl (lv_room (Nat.le_of_ble_eq_true rfl)) d_fm_isManMove_83 ⟨Nat.zero_le _, Nat.zero_le _⟩)) (fun r_9 hw_9 => ?_)
          have hF := hF.trans (bnd_s hw_9.1)
          refine lv_if_lt (tgt := 92) hx hb d_fm_isManMove_86 (by decide) (fun c_10 => ?_) (fun c_10 => ?_)
          · have hF := hF.trans (if_pos c_10)
            refine lv_aload_n hx hb d_fm_isManMove_92 rfl (lv_at hl 2 rfl) ?_
            refine lv_iload_n hx hb d_fm_isManMove_93 rfl (lv_at hl 0 rfl) ?_
            refine lv_iconst (v := 1) hx hb d_fm_isManMove_94 (by decide) ?_
            refine lv_isub hx hb d_fm_isManMove_95 ?_
            have hPc : va_P (kD K) vwCl [(Lh, .inr (1, [.ref La0, .int L.2])), (La0, .inl ((kC K), 100, .inl L.1))] _ := hP.sub [1, 2] rfl
            refine vp_callSi (va_Run.run (va_runS (As := [.ref Lh, .int ((F.1 - (2 : Int32)) - (1 : Int32))]) (rest := []) ⟨hx, hb, hml, hown, htg⟩ (c_fm_fileIn l K Lh La0 L ((F.1 - (2 : Int32)) - (1 : Int32))) (va_cwS 2 htg (g_S q_576 q_577 q_5 (g_w q_578)) rfl rfl rfl k_fm_fileIn ⟨Nat.le_of_ble_eq_true rfl, Nat.le_of_ble_eq_true rfl⟩) ⟨ro_blind, ro_use hPc hK hG hS ⟨(by assumption), trivial⟩⟩ rfl rfl hl.1 rfl (lv_room (Nat.le_of_ble_eq_true rfl)) d_fm_isManMove_96 ⟨Nat.zero_le _, Nat.zero_le _⟩)) (fun r_11 hw_11 => ?_)
            have hF := hF.trans (bnd_s hw_11.1)
            refine lv_if_lt (tgt := 105) hx hb d_fm_isManMove_99 (by decide) (fun c_12 => ?_) (fun c_12 => ?_)
            · have hF := hF.trans (if_pos c_12)
              refine lv_iload_n hx hb d_fm_isManMove_105 rfl (lv_at hl 0 rfl) ?_
              refine lv_iconst (v := 1) hx hb d_fm_isManMove_106 (by decide) ?_
              refine lv_icmp_ne (tgt := 114) hx hb d_fm_isManMove_107 (by decide) (fun c_13 => ?_) (fun c_13 => ?_)
              · have hF := hF.trans (if_neg c_13)
                refine lv_iconst (v := 0) hx hb d_fm_isManMove_114 (by decide) ?_
                exact W.zret (v := (0 : Int32)) hx hb hr (rfl) (fun t ht hW => ⟨⟨(0 : Int32), (F.1, F.2.1, F.2.2.1, r_2 + (1 : Int32), r_3, (0 : Int32)), rfl, ⟨hF, rfl, trivial⟩, ⟨by rw [ht]; exact hP, hD⟩⟩, hS.F ht⟩) hS.2.2 d_fm_isManMove_115
              · have hF := hF.trans (if_pos c_13)
                refine lv_iconst (v := 1) hx hb d_fm_isManMove_110 (by decide) ?_
                refine lv_goto (tgt := 115) hx hb d_fm_isManMove_111 (by decide) ?_
                exact W.zret (v := (1 : Int32)) hx hb hr (rfl) (fun t ht hW => ⟨⟨(1 : Int32), (F.1, F.2.1, F.2.2.1, r_2 + (1 : Int32), r_3, (0 : Int32)), rfl, ⟨hF, rfl, trivial⟩, ⟨by rw [ht]; exact hP, hD⟩⟩, hS.F ht⟩) hS.2.2 d_fm_isManMove_115
            · have hF := hF.trans (if_neg c_12)
              refine lv_iinc (v := (F.1 - (2 : Int32)) + (-1 : Int32)) (lv' := [(2, .int ((F.1 - (2 : Int32)) + (-1 : Int32))), (0, .ref Fh), (1, .ref Lh)]) hx hb d_fm_isManMove_102 hl (k := 0) rfl rfl (by decide) rfl (fun ls hl => ?_)
              refine lv_iload_n hx hb d_fm_isManMove_105 rfl (lv_at hl 0 rfl) ?_
              refine lv_iconst (v := 1) hx hb d_fm_isManMove_106 (by decide) ?_
              refine lv_icmp_ne (tgt := 114) hx hb d_fm_isManMove_107 (by decide) (fun c_14 => ?_) (fun c_14 => ?_)
              · have hF := hF.trans (if_neg c_14)
                refine lv_iconst (v := 0) hx hb d_fm_isManMove_114 (by decide) ?_
                exact W.zret (v := (0 : Int32)) hx hb hr (rfl) (fun t ht hW => ⟨⟨(0 : Int32), (F.1, F.2.1, F.2.2.1, r_2 + (1 : Int32), r_3, (0 : Int32)), rfl, ⟨hF, rfl, trivial⟩, ⟨by rw [ht]; exact hP, hD⟩⟩, hS.F ht⟩) hS.2.2 d_fm_isManMove_115
              · have hF := hF.trans (if_pos c_14)
                refine lv_iconst (v := 1) hx hb d_fm_isManMove_110 (by decide) ?_
                refine lv_goto (tgt := 115) hx hb d_fm_isManMove_111 (by decide) ?_
                exact W.zret (v := (1 : Int32)) hx hb hr (rfl) (fun t ht hW => ⟨⟨(1 : Int32), (F.1, F.2.1, F.2.2.1, r_2 + (1 : Int32), r_3, (0 : Int32)), rfl, ⟨hF, rfl, trivial⟩, ⟨by rw [ht]; exact hP, hD⟩⟩, hS.F ht⟩) hS.2.2 d_fm_isManMove_115
          · have hF := hF.trans (if_neg c_10)
            refine lv_iinc (v := (F.1 - (2 : Int32)) + (-1 : Int32)) (lv' := [(2, .int ((F.1 - (2 : Int32)) + (-1 : Int32))), (0, .ref Fh), (1, .ref Lh)]) hx hb d_fm_isManMove_89 hl (k := 0) rfl rfl (by decide) rfl (fun ls hl => ?_)
            refine lv_aload_n hx hb d_fm_isManMove_92 rfl (lv_at hl 2 rfl) ?_
            refine lv_iload_n hx hb d_fm_isManMove_93 rfl (lv_at hl 0 rfl) ?_
            refine lv_iconst (v := 1) hx hb d_fm_isManMove_94 (by decide) ?_
            refine lv_isub hx hb d_fm_isManMove_95 ?_
            have hPc : va_P (kD K) vwCl [(Lh, .inr (1, [.ref La0, .int L.2])), (La0, .inl ((kC K), 100, .inl L.1))] _ := hP.sub [1, 2] rfl
            refine vp_callSi (va_Run.run (va_runS (As := [.ref Lh, .int (((F.1 - (2 : Int32)) + (-1 : Int32)) - (1 : Int32))]) (rest := []) ⟨hx, hb, hml, hown, htg⟩ (c_fm_fileIn l K Lh La0 L (((F.1 - (2 : Int32)) + (-1 : Int32)) - (1 : Int32))) (va_cwS 2 htg (g_S q_576 q_577 q_5 (g_w q_578)) rfl rfl rfl k_fm_fileIn ⟨Nat.le_of_ble_eq_true rfl, Nat.le_of_ble_eq_true rfl⟩) ⟨ro_blind, ro_use hPc hK hG hS ⟨(by assumption), trivial⟩⟩ rfl rfl hl.1 rfl (lv_room (Nat.le_of_ble_eq_true rfl)) d_fm_isManMove_96 ⟨Nat.zero_le _, Nat.zero_le _⟩)) (fun r_15 hw_15 => ?_)
            have hF := hF.trans (bnd_s hw_15.1)
            refine lv_if_lt (tgt := 105) hx hb d_fm_isManMove_99 (by decide) (fun c_16 => ?_) (fun c_16 => ?_)
            · have hF := hF.trans (if_pos c_16)
              refine lv_iload_n hx hb d_fm_isManMove_105 rfl (lv_at hl 0 rfl) ?_
              refine lv_iconst (v := 1) hx hb d_fm_isManMove_106 (by decide) ?_
              refine lv_icmp_ne (tgt := 114) hx hb d_fm_isManMove_107 (by decide) (fun c_17 => ?_) (fun c_17 => ?_)
              · have hF := hF.trans (if_neg c_17)
                refine lv_iconst (v := 0) hx hb d_fm_isManMove_114 (by decide) ?_
                exact W.zret (v := (0 : Int32)) hx hb hr (rfl) (fun t ht hW => ⟨⟨(0 : Int32), (F.1, F.2.1, F.2.2.1, r_2 + (1 : Int32), r_3, (0 : Int32)), rfl, ⟨hF, rfl, trivial⟩, ⟨by rw [ht]; exact hP, hD⟩⟩, hS.F ht⟩) hS.2.2 d_fm_isManMove_115
              · have hF := hF.trans (if_pos c_17)
                refine lv_iconst (v := 1) hx hb d_fm_isManMove_110 (by decide) ?_
                refine lv_goto (tgt := 115) hx hb d_fm_isManMove_111 (by decide) ?_
                exact W.zret (v := (1 : Int32)) hx hb hr (rfl) (fun t ht hW => ⟨⟨(1 : Int32), (F.1, F.2.1, F.2.2.1, r_2 + (1 : Int32), r_3, (0 : Int32)), rfl, ⟨hF, rfl, trivial⟩, ⟨by rw [ht]; exact hP, hD⟩⟩, hS.F ht⟩) hS.2.2 d_fm_isManMove_115
            · have hF := hF.trans (if_neg c_16)
              refine lv_iinc (v := ((F.1 - (2 : Int32)) + (-1 : Int32)) + (-1 : Int32)) (lv' := [(2, .int (((F.1 - (2 : Int32)) + (-1 : Int32)) + (-1 : Int32))), (0, .ref Fh), (1, .ref Lh)]) hx hb d_fm_isManMove_102 hl (k := 0) rfl rfl (by decide) rfl (fun ls hl => ?_)
              refine lv_iload_n hx hb d_fm_isManMove_105 rfl (lv_at hl 0 rfl) ?_
              refine lv_iconst (v := 1) hx hb d_fm_isManMove_106 (by decide) ?_
              refine lv_icmp_ne (tgt := 114) hx hb d_fm_isManMove_107 (by decide) (fun c_18 => ?_) (fun c_18 => ?_)
              · have hF := hF.trans (if_neg c_18)
                refine lv_iconst (v := 0) hx hb d_fm_isManMove_114 (by decide) ?_
                exact W.zret (v := (0 : Int32)) hx hb hr (rfl) (fun t ht hW => ⟨⟨(0 : Int32), (F.1, F.2.1, F.2.2.1, r_2 + (1 : Int32), r_3, (0 : Int32)), rfl, ⟨hF, rfl, trivial⟩, ⟨by rw [ht]; exact hP, hD⟩⟩, hS.F ht⟩) hS.2.2 d_fm_isManMove_115
              · have hF := hF.trans (if_pos c_18)
                refine lv_iconst (v := 1) hx hb d_fm_isManMove_110 (by decide) ?_
                refine lv_goto (tgt := 115) hx hb d_fm_isManMove_111 (by decide) ?_
                exact W.zret (v := (1 : Int32)) hx hb hr (rfl) (fun t ht hW => ⟨⟨(1 : Int32), (F.1, F.2.1, F.2.2.1, r_2 + (1 : Int32), r_3, (0 : Int32)), rfl, ⟨hF, rfl, trivial⟩, ⟨by rw [ht]; exact hP, hD⟩⟩, hS.F ht⟩) hS.2.2 d_fm_isManMove_115
        · have hF := hF.trans (if_pos c_8)
          refine lv_iinc (v := (F.1 - (2 : Int32)) + (-1 : Int32)) (lv' := [(2, .int ((F.1 - (2 : Int32)) + (-1 : Int32))), (0, .ref Fh), (1, .ref Lh)]) hx hb d_fm_isManMove_76 hl (k := 0) rfl rfl (by decide) rfl (fun ls hl => ?_)
          refine lv_aload_n hx hb d_fm_isManMove_79 rfl (lv_at hl 2 rfl) ?_
          refine lv_iload_n hx hb d_fm_isManMove_80 rfl (lv_at hl 0 rfl) ?_
          refine lv_iconst (v := 1) hx hb d_fm_isManMove_81 (by decide) ?_
          refine lv_isub hx hb d_fm_isManMove_82 ?_
          have hPc : va_P (kD K) vwCl [(Lh, .inr (1, [.ref La0, .int L.2])), (La0, .inl ((kC K), 100, .inl L.1))] _ := hP.sub [1, 2] rfl
          refine vp_callSi (va_Run.run (va_runS (As := [.ref Lh, .int (((F.1 - (2 : Int32)) + (-1 : Int32)) - (1 : Int32))]) (rest := []) ⟨hx, hb, hml, hown, htg⟩ (c_fm_rankIn l K Lh La0 L (((F.1 - (2 : Int32)) + (-1 : Int32)) - (1 : Int32))) (va_cwS 2 htg (g_S q_580 q_581 q_5 (g_w q_582)) rfl rfl rfl k_fm_rankIn ⟨Nat.le_of_ble_eq_true rfl, Nat.le_of_ble_eq_true rfl⟩) ⟨ro_blind, ro_use hPc hK hG hS ⟨(by assumption), trivial⟩⟩ rfl rfl hl.1 rfl (lv_room (Nat.le_of_ble_eq_true rfl)) d_fm_isManMove_83 ⟨Nat.zero_le _, Nat.zero_le _⟩)) (fun r_19 hw_19 => ?_)
          have hF := hF.trans (bnd_s hw_19.1)
          refine lv_if_lt (tgt := 92) hx hb d_fm_isManMove_86 (by decide) (fun c_20 => ?_) (fun c_20 => ?_)
          · have hF := hF.trans (if_pos c_20)
            refine lv_aload_n hx hb d_fm_isManMove_92 rfl (lv_at hl 2 rfl) ?_
            refine lv_iload_n hx hb d_fm_isManMove_93 rfl (lv_at hl 0 rfl) ?_
            refine lv_iconst (v := 1) hx hb d_fm_isManMove_94 (by decide) ?_
            refine lv_isub hx hb d_fm_isManMove_95 ?_
            have hPc : va_P (kD K) vwCl [(Lh, .inr (1, [.ref La0, .int L.2])), (La0, .inl ((kC K), 100, .inl L.1))] _ := hP.sub [1, 2] rfl
            refine vp_callSi (va_Run.run (va_runS (As := [.ref Lh, .int (((F.1 - (2 : Int32)) + (-1 : Int32)) - (1 : Int32))]) (rest := []) ⟨hx, hb, hml, hown, htg⟩ (c_fm_fileIn l K Lh La0 L (((F.1 - (2 : Int32)) + (-1 : Int32)) - (1 : Int32))) (va_cwS 2 htg (g_S q_576 q_577 q_5 (g_w q_578)) rfl rfl rfl k_fm_fileIn ⟨Nat.le_of_ble_eq_true rfl, Nat.le_of_ble_eq_true rfl⟩) ⟨ro_blind, ro_use hPc hK hG hS ⟨(by assumption), trivial⟩⟩ rfl rfl hl.1 rfl (lv_room (Nat.le_of_ble_eq_true rfl)) d_fm_isManMove_96 ⟨Nat.zero_le _, Nat.zero_le _⟩)) (fun r_21 hw_21 => ?_)
            have hF := hF.trans (bnd_s hw_21.1)
            refine lv_if_lt (tgt := 105) hx hb d_fm_isManMove_99 (by decide) (fun c_22 => ?_) (fun c_22 => ?_)
            · have hF := hF.trans (if_pos c_22)
              refine lv_iload_n hx hb d_fm_isManMove_105 rfl (lv_at hl 0 rfl) ?_
              refine lv_iconst (v := 1) hx hb d_fm_isManMove_106 (by decide) ?_
              refine lv_icmp_ne (tgt := 114) hx hb d_fm_isManMove_107 (by decide) (fun c_23 => ?_) (fun c_23 => ?_)
              · have hF := hF.trans (if_neg c_23)
                refine lv_iconst (v := 0) hx hb d_fm_isManMove_114 (by decide) ?_
                exact W.zret (v := (0 : Int32)) hx hb hr (rfl) (fun t ht hW => ⟨⟨(0 : Int32), (F.1, F.2.1, F.2.2.1, r_2 + (1 : Int32), r_3, (0 : Int32)), rfl, ⟨hF, rfl, trivial⟩, ⟨by rw [ht]; exact hP, hD⟩⟩, hS.F ht⟩) hS.2.2 d_fm_isManMove_115
              · have hF := hF.trans (if_pos c_23)
                refine lv_iconst (v := 1) hx hb d_fm_isManMove_110 (by decide) ?_
                refine lv_goto (tgt := 115) hx hb d_fm_isManMove_111 (by decide) ?_
                exact W.zret (v := (1 : Int32)) hx hb hr (rfl) (fun t ht hW => ⟨⟨(1 : Int32), (F.1, F.2.1, F.2.2.1, r_2 + (1 : Int32), r_3, (0 : Int32)), rfl, ⟨hF, rfl, trivial⟩, ⟨by rw [ht]; exact hP, hD⟩⟩, hS.F ht⟩) hS.2.2 d_fm_isManMove_115
            · have hF := hF.trans (if_neg c_22)
              refine lv_iinc (v := ((F.1 - (2 : Int32)) + (-1 : Int32)) + (-1 : Int32)) (lv' := [(2, .int (((F.1 - (2 : Int32)) + (-1 : Int32)) + (-1 : Int32))), (0, .ref Fh), (1, .ref Lh)]) hx hb d_fm_isManMove_102 hl (k := 0) rfl rfl (by decide) rfl (fun ls hl => ?_)
              refine lv_iload_n hx hb d_fm_isManMove_105 rfl (lv_at hl 0 rfl) ?_
              refine lv_iconst (v := 1) hx hb d_fm_isManMove_106 (by decide) ?_
              refine lv_icmp_ne (tgt := 114) hx hb d_fm_isManMove_107 (by decide) (fun c_24 => ?_) (fun c_24 => ?_)
              · have hF := hF.trans (if_neg c_24)
                refine lv_iconst (v := 0) hx hb d_fm_isManMove_114 (by decide) ?_
                exact W.zret (v := (0 : Int32)) hx hb hr (rfl) (fun t ht hW => ⟨⟨(0 : Int32), (F.1, F.2.1, F.2.2.1, r_2 + (1 : Int32), r_3, (0 : Int32)), rfl, ⟨hF, rfl, trivial⟩, ⟨by rw [ht]; exact hP, hD⟩⟩, hS.F ht⟩) hS.2.2 d_fm_isManMove_115
              · have hF := hF.trans (if_pos c_24)
                refine lv_iconst (v := 1) hx hb d_fm_isManMove_110 (by decide) ?_
                refine lv_goto (tgt := 115) hx hb d_fm_isManMove_111 (by decide) ?_
                exact W.zret (v := (1 : Int32)) hx hb hr (rfl) (fun t ht hW => ⟨⟨(1 : Int32), (F.1, F.2.1, F.2.2.1, r_2 + (1 : Int32), r_3, (0 : Int32)), rfl, ⟨hF, rfl, trivial⟩, ⟨by rw [ht]; exact hP, hD⟩⟩, hS.F ht⟩) hS.2.2 d_fm_isManMove_115
          · have hF := hF.trans (if_neg c_20)
            refine lv_iinc (v := ((F.1 - (2 : Int32)) + (-1 : Int32)) + (-1 : Int32)) (lv' := [(2, .int (((F.1 - (2 : Int32)) + (-1 : Int32)) + (-1 : Int32))), (0, .ref Fh), (1, .ref Lh)]) hx hb d_fm_isManMove_89 hl (k := 0) rfl rfl (by decide) rfl (fun ls hl => ?_)
            refine lv_aload_n hx hb d_fm_isManMove_92 rfl (lv_at hl 2 rfl) ?_
            refine lv_iload_n hx hb d_fm_isManMove_93 rfl (lv_at hl 0 rfl) ?_
            refine lv_iconst (v := 1) hx hb d_fm_isManMove_94 (by decide) ?_
            refine lv_isub hx hb d_fm_isManMove_95 ?_
            have hPc : va_P (kD K) vwCl [(Lh, .inr (1, [.ref La0, .int L.2])), (La0, .inl ((kC K), 100, .inl L.1))] _ := hP.sub [1, 2] rfl
            refine vp_callSi (va_Run.run (va_runS (As := [.ref Lh, .int ((((F.1 - (2 : Int32)) + (-1 : Int32)) + (-1 : Int32)) - (1 : Int32))]) (rest := []) ⟨hx, hb, hml, hown, htg⟩ (c_fm_fileIn l K Lh La0 L ((((F.1 - (2 : Int32)) + (-1 : Int32)) + (-1 : Int32)) - (1 : Int32))) (va_cwS 2 htg (g_S q_576 q_577 q_5 (g_w q_578)) rfl rfl rfl k_fm_fileIn ⟨Nat.le_of_ble_eq_true rfl, Nat.le_of_ble_eq_true rfl⟩) ⟨ro_blind, ro_use hPc hK hG hS ⟨(by assumption), trivial⟩⟩ rfl rfl hl.1 rfl (lv_room (Nat.le_of_ble_eq_true rfl)) d_fm_isManMove_96 ⟨Nat.zero_le _, Nat.zero_le _⟩)) (fun r_25 hw_25 => ?_)
            have hF := hF.trans (bnd_s hw_25.1)
            refine lv_if_lt (tgt := 105) hx hb d_fm_isManMove_99 (by decide) (fun c_26 => ?_) (fun c_26 => ?_)
            · have hF := hF.trans (if_pos c_26)
              refine lv_iload_n hx hb d_fm_isManMove_105 rfl (lv_at hl 0 rfl) ?_
              refine lv_iconst (v := 1) hx hb d_fm_isManMove_106 (by decide) ?_
              refine lv_icmp_ne (tgt := 114) hx hb d_fm_isManMove_107 (by decide) (fun c_27 => ?_) (fun c_27 => ?_)
              · have hF := hF.trans (if_neg c_27)
                refine lv_iconst (v := 0) hx hb d_fm_isManMove_114 (by decide) ?_
                exact W.zret (v := (0 : Int32)) hx hb hr (rfl) (fun t ht hW => ⟨⟨(0 : Int32), (F.1, F.2.1, F.2.2.1, r_2 + (1 : Int32), r_3, (0 : Int32)), rfl, ⟨hF, rfl, trivial⟩, ⟨by rw [ht]; exact hP, hD⟩⟩, hS.F ht⟩) hS.2.2 d_fm_isManMove_115
              · have hF := hF.trans (if_pos c_27)
                refine lv_iconst (v := 1) hx hb d_fm_isManMove_110 (by decide) ?_
                refine lv_goto (tgt := 115) hx hb d_fm_isManMove_111 (by decide) ?_
                exact W.zret (v := (1 : Int32)) hx hb hr (rfl) (fun t ht hW => ⟨⟨(1 : Int32), (F.1, F.2.1, F.2.2.1, r_2 + (1 : Int32), r_3, (0 : Int32)), rfl, ⟨hF, rfl, trivial⟩, ⟨by rw [ht]; exact hP, hD⟩⟩, hS.F ht⟩) hS.2.2 d_fm_isManMove_115
            · have hF := hF.trans (if_neg c_26)
              refine lv_iinc (v := (((F.1 - (2 : Int32)) + (-1 : Int32)) + (-1 : Int32)) + (-1 : Int32)) (lv' := [(2, .int ((((F.1 - (2 : Int32)) + (-1 : Int32)) + (-1 : Int32)) + (-1 : Int32))), (0, .ref Fh), (1, .ref Lh)]) hx hb d_fm_isManMove_102 hl (k := 0) rfl rfl (by decide) rfl (fun ls hl => ?_)
              refine lv_iload_n hx hb d_fm_isManMove_105 rfl (lv_at hl 0 rfl) ?_
              refine lv_iconst (v := 1) hx hb d_fm_isManMove_106 (by decide) ?_
              refine lv_icmp_ne (tgt := 114) hx hb d_fm_isManMove_107 (by decide) (fun c_28 => ?_) (fun c_28 => ?_)
              · have hF := hF.trans (if_neg c_28)
                refine lv_iconst (v := 0) hx hb d_fm_isManMove_114 (by decide) ?_
                exact W.zret (v := (0 : Int32)) hx hb hr (rfl) (fun t ht hW => ⟨⟨(0 : Int32), (F.1, F.2.1, F.2.2.1, r_2 + (1 : Int32), r_3, (0 : Int32)), rfl, ⟨hF, rfl, trivial⟩, ⟨by rw [ht]; exact hP, hD⟩⟩, hS.F ht⟩) hS.2.2 d_fm_isManMove_115
              · have hF := hF.trans (if_pos c_28)
                refine lv_iconst (v := 1) hx hb d_fm_isManMove_110 (by decide) ?_
                refine lv_goto (tgt := 115) hx hb d_fm_isManMove_111 (by decide) ?_
                exact W.zret (v := (1 : Int32)) hx hb hr (rfl) (fun t ht hW => ⟨⟨(1 : Int32), (F.1, F.2.1, F.2.2.1, r_2 + (1 : Int32), r_3, (0 : Int32)), rfl, ⟨hF, rfl, trivial⟩, ⟨by rw [ht]; exact hP, hD⟩⟩, hS.F ht⟩) hS.2.2 d_fm_isManMove_115
      · have hF := hF.trans (if_pos c_6)
        refine lv_iconst (v := 0) hx hb d_fm_isManMove_62 (by decide) ?_
        exact W.zret (v := (0 : Int32)) hx hb hr (rfl) (fun t ht hW => ⟨⟨(0 : Int32), (F.1, F.2.1, F.2.2.1, r_2 + (1 : Int32), r_3, (0 : Int32)), rfl, ⟨hF, rfl, trivial⟩, ⟨by rw [ht]; exact hP, hD⟩⟩, hS.F ht⟩) hS.2.2 d_fm_isManMove_63
def f_fm_isPawnMove (F : FmT) (L : LnT) : Int32 × FmT := (bnd (f_ln_letter L (F.1 - (1 : Int32))) (fun r_1 => (bnd (f_st_indexOf 1 r_1) (fun r_2 => (bnd (f_gn_isPromotion (r_2 + (1 : Int32))) (fun r_3 => (if r_3 = 0 then (bnd (f_fm_squareIn L (F.1 - (2 : Int32))) (fun r_5 => (if r_5 = (-1 : Int32) then ((0 : Int32), (F.1, F.2.1, F.2.2.1, (1 : Int32), r_5, (0 : Int32))) else (if (F.1 - (2 : Int32)) = 0 then ((1 : Int32), (F.1, F.2.1, F.2.2.1, (1 : Int32), r_5, (0 : Int32))) else (if (F.1 - (2 : Int32)) = (2 : Int32) then (bnd (f_ln_letter L (1 : Int32)) (fun r_9 => (if r_9 = (120 : Int32) then (bnd (f_fm_fileIn L (0 : Int32)) (fun r_11 => (if r_11 < 0 then ((0 : Int32), (F.1, F.2.1, F.2.2.1, (1 : Int32), r_5, (0 : Int32))) else ((1 : Int32), (F.1, F.2.1, F.2.2.1, (1 : Int32), r_5, (0 : Int32)))))) else ((0 : Int32), (F.1, F.2.1, F.2.2.1, (1 : Int32), r_5, (0 : Int32)))))) else ((0 : Int32), (F.1, F.2.1, F.2.2.1, (1 : Int32), r_5, (0 : Int32)))))))) else (if (r_2 + (1 : Int32)) ≤ 0 then (bnd (f_fm_squareIn L (F.1 - (2 : Int32))) (fun r_14 => (if r_14 = (-1 : Int32) then ((0 : Int32), (F.1, F.2.1, F.2.2.1, (1 : Int32), r_14, r_2 + (1 : Int32))) else (if (F.1 - (2 : Int32)) = 0 then ((1 : Int32), (F.1, F.2.1, F.2.2.1, (1 : Int32), r_14, r_2 + (1 : Int32))) else (if (F.1 - (2 : Int32)) = (2 : Int32) then (bnd (f_ln_letter L (1 : Int32)) (fun r_18 => (if r_18 = (120 : Int32) then (bnd (f_fm_fileIn L (0 : Int32)) (fun r_20 => (if r_20 < 0 then ((0 : Int32), (F.1, F.2.1, F.2.2.1, (1 : Int32), r_14, r_2 + (1 : Int32))) else ((1 : Int32), (F.1, F.2.1, F.2.2.1, (1 : Int32), r_14, r_2 + (1 : Int32)))))) else ((0 : Int32), (F.1, F.2.1, F.2.2.1, (1 : Int32), r_14, r_2 + (1 : Int32)))))) else ((0 : Int32), (F.1, F.2.1, F.2.2.1, (1 : Int32), r_14, r_2 + (1 : Int32)))))))) else (bnd (f_fm_squareIn L (F.1 - (3 : Int32))) (fun r_22 => (if r_22 = (-1 : Int32) then ((0 : Int32), (F.1, F.2.1, F.2.2.1, (1 : Int32), r_22, r_2 + (1 : Int32))) else (if (F.1 - (3 : Int32)) = 0 then ((1 : Int32), (F.1, F.2.1, F.2.2.1, (1 : Int32), r_22, r_2 + (1 : Int32))) else (if (F.1 - (3 : Int32)) = (2 : Int32) then (bnd (f_ln_letter L (1 : Int32)) (fun r_26 => (if r_26 = (120 : Int32) then (bnd (f_fm_fileIn L (0 : Int32)) (fun r_28 => (if r_28 < 0 then ((0 : Int32), (F.1, F.2.1, F.2.2.1, (1 : Int32), r_22, r_2 + (1 : Int32))) else ((1 : Int32), (F.1, F.2.1, F.2.2.1, (1 : Int32), r_22, r_2 + (1 : Int32)))))) else ((0 : Int32), (F.1, F.2.1, F.2.2.1, (1 : Int32), r_22, r_2 + (1 : Int32)))))) else ((0 : Int32), (F.1, F.2.1, F.2.2.1, (1 : Int32), r_22, r_2 + (1 : Int32))))))))))))))))
set_option maxHeartbeats 4000000 in
set_option maxRecDepth 100000 in
theorem c_fm_isPawnMove (l : Launch) (K : KT) (sz : Nat) (Fh : Nat) (F : FmT) (Lh La0 : Nat) (L : LnT) : Met l y_fm_isPawnMove w_fm_isPawnMove ({ frames := 6, cells := 0, slots := 0, locals := 133 } : Room) (va_Pc [.ref Fh, .ref Lh] (fun U => pMU K [(Fh, .inr (0, [.int F.1, .int F.2.1, .int F.2.2.1, .int F.2.2.2.1, .int F.2.2.2.2.1, .int F.2.2.2.2.2])), (Lh, .inr (1, [.ref La0, .int L.2])), (La0, .inl ((kC K), 100, .inl L.1))] sz U ∧ LnOk L ∧ True)) (va_Qi (fun (r : Int32) (u : FmT) => f_fm_isPawnMove F L = (r, u) ∧ narrow .boolean (.int r) = .int r ∧ True) (fun (u : FmT) (t : State) => va_P (kD K) vwCl [(Fh, .inr (0, [.int u.1, .int u.2.1, .int u.2.2.1, .int u.2.2.2.1, .int u.2.2.2.2.1, .int u.2.2.2.2.2])), (Lh, .inr (1, [.ref La0, .int L.2])), (La0, .inl ((kC K), 100, .inl L.1))] t.heap ∧ va_D (va_A [(Fh, .inr (0, [.int F.1, .int F.2.1, .int F.2.2.1, .int F.2.2.2.1, .int F.2.2.2.2.1, .int F.2.2.2.2.2])), (Lh, .inr (1, [.ref La0, .int L.2])), (La0, .inl ((kC K), 100, .inl L.1))] sz) [(Fh, .inr (0, [.int u.1, .int u.2.1, .int u.2.2.1, .int u.2.2.2.1, .int u.2.2.2.2.1, .int u.2.2.2.2.2])), (Lh, .inr (1, [.ref La0, .int L.2])), (La0, .inl ((kC K), 100, .inl L.1))]) (va_A [(Fh, .inr (0, [.int F.1, .int F.2.1, .int F.2.2.1, .int F.2.2.2.1, .int F.2.2.2.2.1, .int F.2.2.2.2.2])), (Lh, .inr (1, [.ref La0, .int L.2])), (La0, .inl ((kC K), 100, .inl L.1))] sz)) 0 0 (va_A [(Fh, .inr (0, [.int F.1, .int F.2.1, .int F.2.2.1, .int F.2.2.2.1, .int F.2.2.2.2.1, .int F.2.2.2.2.2])), (Lh, .inr (1, [.ref La0, .int L.2])), (La0, .inl ((kC K), 100, .inl L.1))] sz) := by
  refine Met.ofW (cc := b_fm_isPawnMove) (maxL := 4) (ret := (some .boolean)) (by decide) rfl ?_
  intro p e s m args below meth c s₁ B hml hv
  obtain ⟨rfl, ⟨hsz, hP, hK, hD0, hG⟩, ok_L, -⟩ := hv
  have hx := B.exec
  have hb := B.bytes
  have hr := B.returns
  have hts := atoms_spec (ws := w_fm_isPawnMove) B.pre
  have hown : s.vm.findClass R_fm = some m.cls := findClass_of_methodNamed B.named
  have hlocks := B.notSynchronized
  have htg := fun w h => hts w (List.mem_cons_of_mem _ h)
  subst hsz
  have hD := hD0.self (sz := s.heap.size)
  generalize hAe : va_A [(Fh, .inr (0, [.int F.1, .int F.2.1, .int F.2.2.1, .int F.2.2.2.1, .int F.2.2.2.2.1, .int F.2.2.2.2.2])), (Lh, .inr (1, [.ref La0, .int L.2])), (La0, .inl ((kC K), 100, .inl L.1))] s.heap.size = A at hD hG ⊢
  have hA : ∀ q : Nat, s.heap.size ≤ q → A q := fun q h => by rw [← hAe]; exact Or.inr h
  have hS : va_S A s.heap s.heap [] := va_S.rf
  have hl := lv_entry ([.ref Fh, .ref Lh]) (n := 4) (Nat.le_of_ble_eq_true rfl)
  rw [lg_entry_eq]
  generalize (lg_sl ([.ref Fh, .ref Lh]) ++ List.replicate (4 - (lg_sl ([.ref Fh, .ref Lh])).length) Slot.unset).toArray = ls at hl ⊢
  have hl : lv_has ls 4 [(0, .ref Fh), (1, .ref Lh)] := hl
  have hF := f_fm_isPawnMove.eq_1 F L
  refine va_ldcS hx hb hown (show vk_R R_fm 87 "PNBRQKpnbrqk" (kK K 1) s from hG.sr 12 (q := ("GameNotation$Form", 87, "PNBRQKpnbrqk", 1)) rfl) d_fm_isPawnMove_0 ?_
  refine lv_aload_n hx hb d_fm_isPawnMove_2 rfl (lv_at hl 1 rfl) ?_
  refine lv_aload_n hx hb d_fm_isPawnMove_3 rfl (lv_at hl 0 rfl) ?_
  refine va_get (D := kD K) (ci := 0) (v := .int F.1) (C := R_fm) (T := T_fm) (N := 6) hx hb htg in_fm hown hK hP 0 rfl rfl 0 (by decide) (htg (.fieldLink R_fm 9 "GameNotation$Form" "unsignedSize" "I") q_74) (fun _ h9 => h9) rfl d_fm_isPawnMove_4 ?_
  refine lv_iconst (v := 1) hx hb d_fm_isPawnMove_7 (by decide) ?_
  refine lv_isub hx hb d_fm_isPawnMove_8 ?_
  have hPc : va_P (kD K) vwCl [(Lh, .inr (1, [.ref La0, .int L.2])), (La0, .inl ((kC K), 100, .inl L.1))] _ := hP.sub [1, 2] rfl
  refine vp_callSi (va_Run.run (va_runV (As := [.int (F.1 - (1 : Int32))]) (rest := [.ref (kK K 1)]) ⟨hx, hb, hml, hown, htg⟩ (c_ln_letter l K Lh La0 L (F.1 - (1 : Int32))) (cwV 1 htg (g_V q_553 q_178 q_179 q_2 (g_w q_180)) rfl rfl rfl ⟨rfl, k_ln_letter⟩ ⟨Nat.le_of_ble_eq_true rfl, Nat.le_of_ble_eq_true rfl⟩) ⟨ro_blind, va_recv hK hPc (ci := 1) (q0 := 0) rfl rfl, ro_use hPc hK hG hS ⟨(by assumption), trivial⟩⟩ rfl rfl hl.1 rfl (lv_room (Nat.le_of_ble_eq_true rfl)) d_fm_isPawnMove_9 ⟨Nat.zero_le _, Nat.zero_le _⟩)) (fun r_1 hw_1 => ?_)
  have hF := hF.trans (bnd_s hw_1.1)
  have hn_1 := hw_1.2
  have hPc : va_P (kD K) vwCl [] _ := hP.sub [] rfl
  refine vp_callSi (va_Run.run (va_runV (As := [.int r_1]) (rest := []) ⟨hx, hb, hml, hown, htg⟩ (c_st_indexOf l K 1 r_1) (cwV 1 htg (g_V q_554 q_204 q_205 q_8 (g_w q_206)) rfl rfl rfl ⟨rfl, k_st_indexOf⟩ ⟨Nat.le_of_ble_eq_true rfl, Nat.le_of_ble_eq_true rfl⟩) ⟨ro_blind, vk_recv hG.str (by decide) hS, ro_use hPc hK hG hS ⟨(by decide), trivial⟩⟩ rfl rfl hl.1 rfl (lv_room (Nat.le_of_ble_eq_true rfl)) d_fm_isPawnMove_12 ⟨Nat.zero_le _, Nat.zero_le _⟩)) (fun r_2 hw_2 => ?_)
  have hF := hF.trans (bnd_s hw_2.1)
  refine lv_iconst (v := 1) hx hb d_fm_isPawnMove_15 (by decide) ?_
  refine lv_iadd hx hb d_fm_isPawnMove_16 ?_
  refine lv_istore_n (lv' := [(2, .int (r_2 + (1 : Int32))), (0, .ref Fh), (1, .ref Lh)]) hx hb d_fm_isPawnMove_17 rfl hl (by decide) rfl (fun ls hl => ?_)
  refine lv_aload_n hx hb d_fm_isPawnMove_18 rfl (lv_at hl 1 rfl) ?_
  refine lv_iload_n hx hb d_fm_isPawnMove_19 rfl (lv_at hl 0 rfl) ?_
  have hPc : va_P (kD K) vwCl [] _ := hP.sub [] rfl
  refine vp_callSi (va_Run.run (va_runSN (As := [.int (r_2 + (1 : Int32))]) (rest := [.ref Fh]) ⟨hx, hb, hml, hown, htg⟩ (c_gn_isPromotion l K (r_2 + (1 : Int32))) (⟨va_cnB 1 htg (g_w q_523) rfl rfl rfl (hG.nw 31 rfl) (htg _ q_1) k_gn_isPromotion ⟨Nat.le_of_ble_eq_true rfl, Nat.le_of_ble_eq_true rfl⟩, htg _ q_522, trivial⟩) ⟨ro_blind, ro_use hPc hK hG hS trivial⟩ rfl rfl hl.1 rfl (lv_room (Nat.le_of_ble_eq_true rfl)) d_fm_isPawnMove_20 ⟨Nat.zero_le _, Nat.zero_le _⟩)) (fun r_3 hw_3 => ?_)
  have hF := hF.trans (bnd_s hw_3.1)
  have hn_3 := hw_3.2
  refine lv_if_eq (tgt := 30) hx hb d_fm_isPawnMove_23 (by decide) (fun c_4 => ?_) (fun c_4 => ?_)
  · have hF := hF.trans (if_pos c_4)
    refine lv_iconst (v := 0) hx hb d_fm_isPawnMove_30 (by decide) ?_
    refine va_put (D := kD K) (ci := 0) (v := .int (0 : Int32)) (ty := .int) (C := R_fm) (T := T_fm) (N := 6) hx hb htg in_fm ty_fm ty_fm_ok nm_fm hown hK hP hD hS 0 rfl rfl 5 (by decide) (htg (.fieldLink R_fm 76 "GameNotation$Form" "becomes" "I") q_79) (fun _ h9 => h9) rfl (by decide +kernel) rfl rfl (Nat.le_of_ble_eq_true rfl) d_fm_isPawnMove_31 (fun H locs hP hD hS => ?_)
    have hP : va_P (kD K) vwCl [(Fh, .inr (0, [.int F.1, .int F.2.1, .int F.2.2.1, .int F.2.2.2.1, .int F.2.2.2.2.1, .int (0 : Int32)])), (Lh, .inr (1, [.ref La0, .int L.2])), (La0, .inl ((kC K), 100, .inl L.1))] _ := hP
    have hD : va_D A [(Fh, .inr (0, [.int F.1, .int F.2.1, .int F.2.2.1, .int F.2.2.2.1, .int F.2.2.2.2.1, .int (0 : Int32)])), (Lh, .inr (1, [.ref La0, .int L.2])), (La0, .inl ((kC K), 100, .inl L.1))] := hD
    refine lv_aload_n hx hb d_fm_isPawnMove_34 rfl (lv_at hl 1 rfl) ?_
    refine va_get (D := kD K) (ci := 0) (v := .int (0 : Int32)) (C := R_fm) (T := T_fm) (N := 6) hx hb htg in_fm hown hK hP 0 rfl rfl 5 (by decide) (htg (.fieldLink R_fm 76 "GameNotation$Form" "becomes" "I") q_79) (fun _ h9 => h9) rfl d_fm_isPawnMove_35 ?_
    refine lv_if_le (tgt := 50) hx hb d_fm_isPawnMove_38 (by decide) (fun _ => ?_) (fun c => False.elim (by revert c; decide))
    refine lv_aload_n hx hb d_fm_isPawnMove_50 rfl (lv_at hl 1 rfl) ?_
    refine va_get (D := kD K) (ci := 0) (v := .int F.1) (C := R_fm) (T := T_fm) (N := 6) hx hb htg in_fm hown hK hP 0 rfl rfl 0 (by decide) (htg (.fieldLink R_fm 9 "GameNotation$Form" "unsignedSize" "I") q_74) (fun _ h9 => h9) rfl d_fm_isPawnMove_51 ?_
    refine lv_iconst (v := 2) hx hb d_fm_isPawnMove_54 (by decide) ?_
    refine lv_isub hx hb d_fm_isPawnMove_55 ?_
    refine lv_istore_n (lv' := [(3, .int (F.1 - (2 : Int32))), (2, .int (r_2 + (1 : Int32))), (0, .ref Fh), (1, .ref Lh)]) hx hb d_fm_isPawnMove_56 rfl hl (by decide) rfl (fun ls hl => ?_)
    refine lv_aload_n hx hb d_fm_isPawnMove_57 rfl (lv_at hl 2 rfl) ?_
    refine lv_iconst (v := 1) hx hb d_fm_isPawnMove_58 (by decide) ?_
    refine va_put (D := kD K) (ci := 0) (v := .int (1 : Int32)) (ty := .int) (C := R_fm) (T := T_fm) (N := 6) hx hb htg in_fm ty_fm ty_fm_ok nm_fm hown hK hP hD hS 0 rfl rfl 3 (by decide) (htg (.fieldLink R_fm 64 "GameNotation$Form" "kind" "I") q_77) (fun _ h9 => h9) rfl (by decide +kernel) rfl rfl (Nat.le_of_ble_eq_true rfl) d_fm_isPawnMove_59 (fun H locs hP hD hS => ?_)
    have hP : va_P (kD K) vwCl [(Fh, .inr (0, [.int F.1, .int F.2.1, .int F.2.2.1, .int (1 : Int32), .int F.2.2.2.2.1, .int (0 : Int32)])), (Lh, .inr (1, [.ref La0, .int L.2])), (La0, .inl ((kC K), 100, .inl L.1))] _ := hP
    have hD : va_D A [(Fh, .inr (0, [.int F.1, .int F.2.1, .int F.2.2.1, .int (1 : Int32), .int F.2.2.2.2.1, .int (0 : Int32)])), (Lh, .inr (1, [.ref La0, .int L.2])), (La0, .inl ((kC K), 100, .inl L.1))] := hD
    refine lv_aload_n hx hb d_fm_isPawnMove_62 rfl (lv_at hl 2 rfl) ?_
    refine lv_aload_n hx hb d_fm_isPawnMove_63 rfl (lv_at hl 3 rfl) ?_
    refine lv_iload_n hx hb d_fm_isPawnMove_64 rfl (lv_at hl 0 rfl) ?_
    have hPc : va_P (kD K) vwCl [(Lh, .inr (1, [.ref La0, .int L.2])), (La0, .inl ((kC K), 100, .inl L.1))] _ := hP.sub [1, 2] rfl
    refine vp_callSi (va_Run.run (va_runS (As := [.ref Lh, .int (F.1 - (2 : Int32))]) (rest := [.ref Fh]) ⟨hx, hb, hml, hown, htg⟩ (c_fm_squareIn l K Lh La0 L (F.1 - (2 : Int32))) (va_cwS 2 htg (g_S q_573 q_574 q_5 (g_w q_575)) rfl rfl rfl k_fm_squareIn ⟨Nat.le_of_ble_eq_true rfl, Nat.le_of_ble_eq_true rfl⟩) ⟨ro_blind, ro_use hPc hK hG hS ⟨(by assumption), trivial⟩⟩ rfl rfl hl.1 rfl (lv_room (Nat.le_of_ble_eq_true rfl)) d_fm_isPawnMove_65 ⟨Nat.zero_le _, Nat.zero_le _⟩)) (fun r_5 hw_5 => ?_)
    have hF := hF.trans (bnd_s hw_5.1)
    refine va_put (D := kD K) (ci := 0) (v := .int r_5) (ty := .int) (C := R_fm) (T := T_fm) (N := 6) hx hb htg in_fm ty_fm ty_fm_ok nm_fm hown hK hP hD hS 0 rfl rfl 4 (by decide) (htg (.fieldLink R_fm 70 "GameNotation$Form" "target" "I") q_78) (fun _ h9 => h9) rfl (by decide +kernel) rfl rfl (Nat.le_of_ble_eq_true rfl) d_fm_isPawnMove_68 (fun H locs hP hD hS => ?_)
    have hP : va_P (kD K) vwCl [(Fh, .inr (0, [.int F.1, .int F.2.1, .int F.2.2.1, .int (1 : Int32), .int r_5, .int (0 : Int32)])), (Lh, .inr (1, [.ref La0, .int L.2])), (La0, .inl ((kC K), 100, .inl L.1))] _ := hP
    have hD : va_D A [(Fh, .inr (0, [.int F.1, .int F.2.1, .int F.2.2.1, .int (1 : Int32), .int r_5, .int (0 : Int32)])), (Lh, .inr (1, [.ref La0, .int L.2])), (La0, .inl ((kC K), 100, .inl L.1))] := hD
    refine lv_aload_n hx hb d_fm_isPawnMove_71 rfl (lv_at hl 2 rfl) ?_
    refine va_get (D := kD K) (ci := 0) (v := .int r_5) (C := R_fm) (T := T_fm) (N := 6) hx hb htg in_fm hown hK hP 0 rfl rfl 4 (by decide) (htg (.fieldLink R_fm 70 "GameNotation$Form" "target" "I") q_78) (fun _ h9 => h9) rfl d_fm_isPawnMove_72 ?_
    refine lv_iconst (v := -1) hx hb d_fm_isPawnMove_75 (by decide) ?_
    refine lv_icmp_ne (tgt := 81) hx hb d_fm_isPawnMove_76 (by decide) (fun c_6 => ?_) (fun c_6 => ?_)
    · have hF := hF.trans (if_neg c_6)
      refine lv_iload_n hx hb d_fm_isPawnMove_81 rfl (lv_at hl 0 rfl) ?_
      refine lv_if_eq (tgt := 108) hx hb d_fm_isPawnMove_82 (by decide) (fun c_7 => ?_) (fun c_7 => ?_)
      · have hF := hF.trans (if_pos c_7)
        refine lv_iconst (v := 1) hx hb d_fm_isPawnMove_108 (by decide) ?_
        refine lv_goto (tgt := 113) hx hb d_fm_isPawnMove_109 (by decide) ?_
        exact W.zret (v := (1 : Int32)) hx hb hr (rfl) (fun t ht hW => ⟨⟨(1 : Int32), (F.1, F.2.1, F.2.2.1, (1 : Int32), r_5, (0 : Int32)), rfl, ⟨hF, rfl, trivial⟩, ⟨by rw [ht]; exact hP, hD⟩⟩, hS.F ht⟩) hS.2.2 d_fm_isPawnMove_113
      · have hF := hF.trans (if_neg c_7)
        refine lv_iload_n hx hb d_fm_isPawnMove_85 rfl (lv_at hl 0 rfl) ?_
        refine lv_iconst (v := 2) hx hb d_fm_isPawnMove_86 (by decide) ?_
        refine lv_icmp_ne (tgt := 112) hx hb d_fm_isPawnMove_87 (by decide) (fun c_8 => ?_) (fun c_8 => ?_)
        · have hF := hF.trans (if_neg c_8)
          refine lv_iconst (v := 0) hx hb d_fm_isPawnMove_112 (by decide) ?_
          exact W.zret (v := (0 : Int32)) hx hb hr (rfl) (fun t ht hW => ⟨⟨(0 : Int32), (F.1, F.2.1, F.2.2.1, (1 : Int32), r_5, (0 : Int32)), rfl, ⟨hF, rfl, trivial⟩, ⟨by rw [ht]; exact hP, hD⟩⟩, hS.F ht⟩) hS.2.2 d_fm_isPawnMove_113
        · have hF := hF.trans (if_pos c_8)
          refine lv_aload_n hx hb d_fm_isPawnMove_90 rfl (lv_at hl 3 rfl) ?_
          refine lv_iconst (v := 1) hx hb d_fm_isPawnMove_91 (by decide) ?_
          have hPc : va_P (kD K) vwCl [(Lh, .inr (1, [.ref La0, .int L.2])), (La0, .inl ((kC K), 100, .inl L.1))] _ := hP.sub [1, 2] rfl
          refine vp_callSi (va_Run.run (va_runV (As := [.int (1 : Int32)]) (rest := []) ⟨hx, hb, hml, hown, htg⟩ (c_ln_letter l K Lh La0 L (1 : Int32)) (cwV 1 htg (g_V q_553 q_178 q_179 q_2 (g_w q_180)) rfl rfl rfl ⟨rfl, k_ln_letter⟩ ⟨Nat.le_of_ble_eq_true rfl, Nat.le_of_ble_eq_true rfl⟩) ⟨ro_blind, va_recv hK hPc (ci := 1) (q0 := 0) rfl rfl, ro_use hPc hK hG hS ⟨(by assumption), trivial⟩⟩ rfl rfl hl.1 rfl (lv_room (Nat.le_of_ble_eq_true rfl)) d_fm_isPawnMove_92 ⟨Nat.zero_le _, Nat.zero_le _⟩)) (fun r_9 hw_9 => ?_)
          have hF := hF.trans (bnd_s hw_9.1)
          have hn_9 := hw_9.2
          refine lv_bipush (v := 120) hx hb d_fm_isPawnMove_95 (by decide) ?_
          refine lv_icmp_ne (tgt := 112) hx hb d_fm_isPawnMove_97 (by decide) (fun c_10 => ?_) (fun c_10 => ?_)
          · have hF := hF.trans (if_neg c_10)
            refine lv_iconst (v := 0) hx hb d_fm_isPawnMove_112 (by decide) ?_
            exact W.zret (v := (0 : Int32)) hx hb hr (rfl) (fun t ht hW => ⟨⟨(0 : Int32), (F.1, F.2.1, F.2.2.1, (1 : Int32), r_5, (0 : Int32)), rfl, ⟨hF, rfl, trivial⟩, ⟨by rw [ht]; exact hP, hD⟩⟩, hS.F ht⟩) hS.2.2 d_fm_isPawnMove_113
          · have hF := hF.trans (if_pos c_10)
            refine lv_aload_n hx hb d_fm_isPawnMove_100 rfl (lv_at hl 3 rfl) ?_
            refine lv_iconst (v := 0) hx hb d_fm_isPawnMove_101 (by decide) ?_
            have hPc : va_P (kD K) vwCl [(Lh, .inr (1, [.ref La0, .int L.2])), (La0, .inl ((kC K), 100, .inl L.1))] _ := hP.sub [1, 2] rfl
            refine vp_callSi (va_Run.run (va_runS (As := [.ref Lh, .int (0 : Int32)]) (rest := []) ⟨hx, hb, hml, hown, htg⟩ (c_fm_fileIn l K Lh La0 L (0 : Int32)) (va_cwS 2 htg (g_S q_576 q_577 q_5 (g_w q_578)) rfl rfl rfl k_fm_fileIn ⟨Nat.le_of_ble_eq_true rfl, Nat.le_of_ble_eq_true rfl⟩) ⟨ro_blind, ro_use hPc hK hG hS ⟨(by assumption), trivial⟩⟩ rfl rfl hl.1 rfl (lv_room (Nat.le_of_ble_eq_true rfl)) d_fm_isPawnMove_102 ⟨Nat.zero_le _, Nat.zero_le _⟩)) (fun r_11 hw_11 => ?_)
            have hF := hF.trans (bnd_s hw_11.1)
            refine lv_if_lt (tgt := 112) hx hb d_fm_isPawnMove_105 (by decide) (fun c_12 => ?_) (fun c_12 => ?_)
            · have hF := hF.trans (if_pos c_12)
              refine lv_iconst (v := 0) hx hb d_fm_isPawnMove_112 (by decide) ?_
              exact W.zret (v := (0 : Int32)) hx hb hr (rfl) (fun t ht hW => ⟨⟨(0 : Int32), (F.1, F.2.1, F.2.2.1, (1 : Int32), r_5, (0 : Int32)), rfl, ⟨hF, rfl, trivial⟩, ⟨by rw [ht]; exact hP, hD⟩⟩, hS.F ht⟩) hS.2.2 d_fm_isPawnMove_113
            · have hF := hF.trans (if_neg c_12)
              refine lv_iconst (v := 1) hx hb d_fm_isPawnMove_108 (by decide) ?_
              refine lv_goto (tgt := 113) hx hb d_fm_isPawnMove_109 (by decide) ?_
              exact W.zret (v := (1 : Int32)) hx hb hr (rfl) (fun t ht hW => ⟨⟨(1 : Int32), (F.1, F.2.1, F.2.2.1, (1 : Int32), r_5, (0 : Int32)), rfl, ⟨hF, rfl, trivial⟩, ⟨by rw [ht]; exact hP, hD⟩⟩, hS.F ht⟩) hS.2.2 d_fm_isPawnMove_113
    · have hF := hF.trans (if_pos c_6)
      refine lv_iconst (v := 0) hx hb d_fm_isPawnMove_79 (by decide) ?_
      exact W.zret (v := (0 : Int32)) hx hb hr (rfl) (fun t ht hW => ⟨⟨(0 : Int32), (F.1, F.2.1, F.2.2.1, (1 : Int32), r_5, (0 : Int32)), rfl, ⟨hF, rfl, trivial⟩, ⟨by rw [ht]; exact hP, hD⟩⟩, hS.F ht⟩) hS.2.2 d_fm_isPawnMove_80
  · have hF := hF.trans (if_neg c_4)
    refine lv_iload_n hx hb d_fm_isPawnMove_26 rfl (lv_at hl 0 rfl) ?_
    refine lv_goto (tgt := 31) hx hb d_fm_isPawnMove_27 (by decide) ?_
    refine va_put (D := kD K) (ci := 0) (v := .int (r_2 + (1 : Int32))) (ty := .int) (C := R_fm) (T := T_fm) (N := 6) hx hb htg in_fm ty_fm ty_fm_ok nm_fm hown hK hP hD hS 0 rfl rfl 5 (by decide) (htg (.fieldLink R_fm 76 "GameNotation$Form" "becomes" "I") q_79) (fun _ h9 => h9) rfl (by decide +kernel) rfl rfl (Nat.le_of_ble_eq_true rfl) d_fm_isPawnMove_31 (fun H locs hP hD hS => ?_)
    have hP : va_P (kD K) vwCl [(Fh, .inr (0, [.int F.1, .int F.2.1, .int F.2.2.1, .int F.2.2.2.1, .int F.2.2.2.2.1, .int (r_2 + (1 : Int32))])), (Lh, .inr (1, [.ref La0, .int L.2])), (La0, .inl ((kC K), 100, .inl L.1))] _ := hP
    have hD : va_D A [(Fh, .inr (0, [.int F.1, .int F.2.1, .int F.2.2.1, .int F.2.2.2.1, .int F.2.2.2.2.1, .int (r_2 + (1 : Int32))])), (Lh, .inr (1, [.ref La0, .int L.2])), (La0, .inl ((kC K), 100, .inl L.1))] := hD
    refine lv_aload_n hx hb d_fm_isPawnMove_34 rfl (lv_at hl 1 rfl) ?_
    refine va_get (D := kD K) (ci := 0) (v := .int (r_2 + (1 : Int32))) (C := R_fm) (T := T_fm) (N := 6) hx hb htg in_fm hown hK hP 0 rfl rfl 5 (by decide) (htg (.fieldLink R_fm 76 "GameNotation$Form" "becomes" "I") q_79) (fun _ h9 => h9) rfl d_fm_isPawnMove_35 ?_
    refine lv_if_le (tgt := 50) hx hb d_fm_isPawnMove_38 (by decide) (fun c_13 => ?_) (fun c_13 => ?_)
    · have hF := hF.trans (if_pos c_13)
      refine lv_aload_n hx hb d_fm_isPawnMove_50 rfl (lv_at hl 1 rfl) ?_
      refine va_get (D := kD K) (ci := 0) (v := .int F.1) (C := R_fm) (T := T_fm) (N := 6) hx hb htg in_fm hown hK hP 0 rfl rfl 0 (by decide) (htg (.fieldLink R_fm 9 "GameNotation$Form" "unsignedSize" "I") q_74) (fun _ h9 => h9) rfl d_fm_isPawnMove_51 ?_
      refine lv_iconst (v := 2) hx hb d_fm_isPawnMove_54 (by decide) ?_
      refine lv_isub hx hb d_fm_isPawnMove_55 ?_
      refine lv_istore_n (lv' := [(3, .int (F.1 - (2 : Int32))), (2, .int (r_2 + (1 : Int32))), (0, .ref Fh), (1, .ref Lh)]) hx hb d_fm_isPawnMove_56 rfl hl (by decide) rfl (fun ls hl => ?_)
      refine lv_aload_n hx hb d_fm_isPawnMove_57 rfl (lv_at hl 2 rfl) ?_
      refine lv_iconst (v := 1) hx hb d_fm_isPawnMove_58 (by decide) ?_
      refine va_put (D := kD K) (ci := 0) (v := .int (1 : Int32)) (ty := .int) (C := R_fm) (T := T_fm) (N := 6) hx hb htg in_fm ty_fm ty_fm_ok nm_fm hown hK hP hD hS 0 rfl rfl 3 (by decide) (htg (.fieldLink R_fm 64 "GameNotation$Form" "kind" "I") q_77) (fun _ h9 => h9) rfl (by decide +kernel) rfl rfl (Nat.le_of_ble_eq_true rfl) d_fm_isPawnMove_59 (fun H locs hP hD hS => ?_)
      have hP : va_P (kD K) vwCl [(Fh, .inr (0, [.int F.1, .int F.2.1, .int F.2.2.1, .int (1 : Int32), .int F.2.2.2.2.1, .int (r_2 + (1 : Int32))])), (Lh, .inr (1, [.ref La0, .int L.2])), (La0, .inl ((kC K), 100, .inl L.1))] _ := hP
      have hD : va_D A [(Fh, .inr (0, [.int F.1, .int F.2.1, .int F.2.2.1, .int (1 : Int32), .int F.2.2.2.2.1, .int (r_2 + (1 : Int32))])), (Lh, .inr (1, [.ref La0, .int L.2])), (La0, .inl ((kC K), 100, .inl L.1))] := hD
      refine lv_aload_n hx hb d_fm_isPawnMove_62 rfl (lv_at hl 2 rfl) ?_
      refine lv_aload_n hx hb d_fm_isPawnMove_63 rfl (lv_at hl 3 rfl) ?_
      refine lv_iload_n hx hb d_fm_isPawnMove_64 rfl (lv_at hl 0 rfl) ?_
      have hPc : va_P (kD K) vwCl [(Lh, .inr (1, [.ref La0, .int L.2])), (La0, .inl ((kC K), 100, .inl L.1))] _ := hP.sub [1, 2] rfl
      refine vp_callSi (va_Run.run (va_runS (As := [.ref Lh, .int (F.1 - (2 : Int32))]) (rest := [.ref Fh]) ⟨hx, hb, hml, hown, htg⟩ (c_fm_squareIn l K Lh La0 L (F.1 - (2 : Int32))) (va_cwS 2 htg (g_S q_573 q_574 q_5 (g_w q_575)) rfl rfl rfl k_fm_squareIn ⟨Nat.le_of_ble_eq_true rfl, Nat.le_of_ble_eq_true rfl⟩) ⟨ro_blind, ro_use hPc hK hG hS ⟨(by assumption), trivial⟩⟩ rfl rfl hl.1 rfl (lv_room (Nat.le_of_ble_eq_true rfl)) d_fm_isPawnMove_65 ⟨Nat.zero_le _, Nat.zero_le _⟩)) (fun r_14 hw_14 => ?_)
      have hF := hF.trans (bnd_s hw_14.1)
      refine va_put (D := kD K) (ci := 0) (v := .int r_14) (ty := .int) (C := R_fm) (T := T_fm) (N := 6) hx hb htg in_fm ty_fm ty_fm_ok nm_fm hown hK hP hD hS 0 rfl rfl 4 (by decide) (htg (.fieldLink R_fm 70 "GameNotation$Form" "target" "I") q_78) (fun _ h9 => h9) rfl (by decide +kernel) rfl rfl (Nat.le_of_ble_eq_true rfl) d_fm_isPawnMove_68 (fun H locs hP hD hS => ?_)
      have hP : va_P (kD K) vwCl [(Fh, .inr (0, [.int F.1, .int F.2.1, .int F.2.2.1, .int (1 : Int32), .int r_14, .int (r_2 + (1 : Int32))])), (Lh, .inr (1, [.ref La0, .int L.2])), (La0, .inl ((kC K), 100, .inl L.1))] _ := hP
      have hD : va_D A [(Fh, .inr (0, [.int F.1, .int F.2.1, .int F.2.2.1, .int (1 : Int32), .int r_14, .int (r_2 + (1 : Int32))])), (Lh, .inr (1, [.ref La0, .int L.2])), (La0, .inl ((kC K), 100, .inl L.1))] := hD
      refine lv_aload_n hx hb d_fm_isPawnMove_71 rfl (lv_at hl 2 rfl) ?_
      refine va_get (D := kD K) (ci := 0) (v := .int r_14) (C := R_fm) (T := T_fm) (N := 6) hx hb htg in_fm hown hK hP 0 rfl rfl 4 (by decide) (htg (.fieldLink R_fm 70 "GameNotation$Form" "target" "I") q_78) (fun _ h9 => h9) rfl d_fm_isPawnMove_72 ?_
      refine lv_iconst (v := -1) hx hb d_fm_isPawnMove_75 (by decide) ?_
      refine lv_icmp_ne (tgt := 81) hx hb d_fm_isPawnMove_76 (by decide) (fun c_15 => ?_) (fun c_15 => ?_)
      · have hF := hF.trans (if_neg c_15)
        refine lv_iload_n hx hb d_fm_isPawnMove_81 rfl (lv_at hl 0 rfl) ?_
        refine lv_if_eq (tgt := 108) hx hb d_fm_isPawnMove_82 (by decide) (fun c_16 => ?_) (fun c_16 => ?_)
        · have hF := hF.trans (if_pos c_16)
          refine lv_iconst (v := 1) hx hb d_fm_isPawnMove_108 (by decide) ?_
          refine lv_goto (tgt := 113) hx hb d_fm_isPawnMove_109 (by decide) ?_
          exact W.zret (v := (1 : Int32)) hx hb hr (rfl) (fun t ht hW => ⟨⟨(1 : Int32), (F.1, F.2.1, F.2.2.1, (1 : Int32), r_14, r_2 + (1 : Int32)), rfl, ⟨hF, rfl, trivial⟩, ⟨by rw [ht]; exact hP, hD⟩⟩, hS.F ht⟩) hS.2.2 d_fm_isPawnMove_113
        · have hF := hF.trans (if_neg c_16)
          refine lv_iload_n hx hb d_fm_isPawnMove_85 rfl (lv_at hl 0 rfl) ?_
          refine lv_iconst (v := 2) hx hb d_fm_isPawnMove_86 (by decide) ?_
          refine lv_icmp_ne (tgt := 112) hx hb d_fm_isPawnMove_87 (by decide) (fun c_17 => ?_) (fun c_17 => ?_)
          · have hF := hF.trans (if_neg c_17)
            refine lv_iconst (v := 0) hx hb d_fm_isPawnMove_112 (by decide) ?_
            exact W.zret (v := (0 : Int32)) hx hb hr (rfl) (fun t ht hW => ⟨⟨(0 : Int32), (F.1, F.2.1, F.2.2.1, (1 : Int32), r_14, r_2 + (1 : Int32)), rfl, ⟨hF, rfl, trivial⟩, ⟨by rw [ht]; exact hP, hD⟩⟩, hS.F ht⟩) hS.2.2 d_fm_isPawnMove_113
          · have hF := hF.trans (if_pos c_17)
            refine lv_aload_n hx hb d_fm_isPawnMove_90 rfl (lv_at hl 3 rfl) ?_
            refine lv_iconst (v := 1) hx hb d_fm_isPawnMove_91 (by decide) ?_
            have hPc : va_P (kD K) vwCl [(Lh, .inr (1, [.ref La0, .int L.2])), (La0, .inl ((kC K), 100, .inl L.1))] _ := hP.sub [1, 2] rfl
            refine vp_callSi (va_Run.run (va_runV (As := [.int (1 : Int32)]) (rest := []) ⟨hx, hb, hml, hown, htg⟩ (c_ln_letter l K Lh La0 L (1 : Int32)) (cwV 1 htg (g_V q_553 q_178 q_179 q_2 (g_w q_180)) rfl rfl rfl ⟨rfl, k_ln_letter⟩ ⟨Nat.le_of_ble_eq_true rfl, Nat.le_of_ble_eq_true rfl⟩) ⟨ro_blind, va_recv hK hPc (ci := 1) (q0 := 0) rfl rfl, ro_use hPc hK hG hS ⟨(by assumption), trivial⟩⟩ rfl rfl hl.1 rfl (lv_room (Nat.le_of_ble_eq_true rfl)) d_fm_isPawnMove_92 ⟨Nat.zero_le _, Nat.zero_le _⟩)) (fun r_18 hw_18 => ?_)
            have hF := hF.trans (bnd_s hw_18.1)
            have hn_18 := hw_18.2
            refine lv_bipush (v := 120) hx hb d_fm_isPawnMove_95 (by decide) ?_
            refine lv_icmp_ne (tgt := 112) hx hb d_fm_isPawnMove_97 (by decide) (fun c_19 => ?_) (fun c_19 => ?_)
            · have hF := hF.trans (if_neg c_19)
              refine lv_iconst (v := 0) hx hb d_fm_isPawnMove_112 (by decide) ?_
              exact W.zret (v := (0 : Int32)) hx hb hr (rfl) (fun t ht hW => ⟨⟨(0 : Int32), (F.1, F.2.1, F.2.2.1, (1 : Int32), r_14, r_2 + (1 : Int32)), rfl, ⟨hF, rfl, trivial⟩, ⟨by rw [ht]; exact hP, hD⟩⟩, hS.F ht⟩) hS.2.2 d_fm_isPawnMove_113
            · have hF := hF.trans (if_pos c_19)
              refine lv_aload_n hx hb d_fm_isPawnMove_100 rfl (lv_at hl 3 rfl) ?_
              refine lv_iconst (v := 0) hx hb d_fm_isPawnMove_101 (by decide) ?_
              have hPc : va_P (kD K) vwCl [(Lh, .inr (1, [.ref La0, .int L.2])), (La0, .inl ((kC K), 100, .inl L.1))] _ := hP.sub [1, 2] rfl
              refine vp_callSi (va_Run.run (va_runS (As := [.ref Lh, .int (0 : Int32)]) (rest := []) ⟨hx, hb, hml, hown, htg⟩ (c_fm_fileIn l K Lh La0 L (0 : Int32)) (va_cwS 2 htg (g_S q_576 q_577 q_5 (g_w q_578)) rfl rfl rfl k_fm_fileIn ⟨Nat.le_of_ble_eq_true rfl, Nat.le_of_ble_eq_true rfl⟩) ⟨ro_blind, ro_use hPc hK hG hS ⟨(by assumption), trivial⟩⟩ rfl rfl hl.1 rfl (lv_room (Nat.le_of_ble_eq_true rfl)) d_fm_isPawnMove_102 ⟨Nat.zero_le _, Nat.zero_le _⟩)) (fun r_20 hw_20 => ?_)
              have hF := hF.trans (bnd_s hw_20.1)
              refine lv_if_lt (tgt := 112) hx hb d_fm_isPawnMove_105 (by decide) (fun c_21 => ?_) (fun c_21 => ?_)
              · have hF := hF.trans (if_pos c_21)
                refine lv_iconst (v := 0) hx hb d_fm_isPawnMove_112 (by decide) ?_
                exact W.zret (v := (0 : Int32)) hx hb hr (rfl) (fun t ht hW => ⟨⟨(0 : Int32), (F.1, F.2.1, F.2.2.1, (1 : Int32), r_14, r_2 + (1 : Int32)), rfl, ⟨hF, rfl, trivial⟩, ⟨by rw [ht]; exact hP, hD⟩⟩, hS.F ht⟩) hS.2.2 d_fm_isPawnMove_113
              · have hF := hF.trans (if_neg c_21)
                refine lv_iconst (v := 1) hx hb d_fm_isPawnMove_108 (by decide) ?_
                refine lv_goto (tgt := 113) hx hb d_fm_isPawnMove_109 (by decide) ?_
                exact W.zret (v := (1 : Int32)) hx hb hr (rfl) (fun t ht hW => ⟨⟨(1 : Int32), (F.1, F.2.1, F.2.2.1, (1 : Int32), r_14, r_2 + (1 : Int32)), rfl, ⟨hF, rfl, trivial⟩, ⟨by rw [ht]; exact hP, hD⟩⟩, hS.F ht⟩) hS.2.2 d_fm_isPawnMove_113
      · have hF := hF.trans (if_pos c_15)
        refine lv_iconst (v := 0) hx hb d_fm_isPawnMove_79 (by decide) ?_
        exact W.zret (v := (0 : Int32)) hx hb hr (rfl) (fun t ht hW => ⟨⟨(0 : Int32), (F.1, F.2.1, F.2.2.1, (1 : Int32), r_14, r_2 + (1 : Int32)), rfl, ⟨hF, rfl, trivial⟩, ⟨by rw [ht]; exact hP, hD⟩⟩, hS.F ht⟩) hS.2.2 d_fm_isPawnMove_80
    · have hF := hF.trans (if_neg c_13)
      refine lv_aload_n hx hb d_fm_isPawnMove_41 rfl (lv_at hl 1 rfl) ?_
      refine va_get (D := kD K) (ci := 0) (v := .int F.1) (C := R_fm) (T := T_fm) (N := 6) hx hb htg in_fm hown hK hP 0 rfl rfl 0 (by decide) (htg (.fieldLink R_fm 9 "GameNotation$Form" "unsignedSize" "I") q_74) (fun _ h9 => h9) rfl d_fm_isPawnMove_42 ?_
      refine lv_iconst (v := 3) hx hb d_fm_isPawnMove_45 (by decide) ?_
      refine lv_isub hx hb d_fm_isPawnMove_46 ?_
      refine lv_goto (tgt := 56) hx hb d_fm_isPawnMove_47 (by decide) ?_
      refine lv_istore_n (lv' := [(3, .int (F.1 - (3 : Int32))), (2, .int (r_2 + (1 : Int32))), (0, .ref Fh), (1, .ref Lh)]) hx hb d_fm_isPawnMove_56 rfl hl (by decide) rfl (fun ls hl => ?_)
      refine lv_aload_n hx hb d_fm_isPawnMove_57 rfl (lv_at hl 2 rfl) ?_
      refine lv_iconst (v := 1) hx hb d_fm_isPawnMove_58 (by decide) ?_
      refine va_put (D := kD K) (ci := 0) (v := .int (1 : Int32)) (ty := .int) (C := R_fm) (T := T_fm) (N := 6) hx hb htg in_fm ty_fm ty_fm_ok nm_fm hown hK hP hD hS 0 rfl rfl 3 (by decide) (htg (.fieldLink R_fm 64 "GameNotation$Form" "kind" "I") q_77) (fun _ h9 => h9) rfl (by decide +kernel) rfl rfl (Nat.le_of_ble_eq_true rfl) d_fm_isPawnMove_59 (fun H locs hP hD hS => ?_)
      have hP : va_P (kD K) vwCl [(Fh, .inr (0, [.int F.1, .int F.2.1, .int F.2.2.1, .int (1 : Int32), .int F.2.2.2.2.1, .int (r_2 + (1 : Int32))])), (Lh, .inr (1, [.ref La0, .int L.2])), (La0, .inl ((kC K), 100, .inl L.1))] _ := hP
      have hD : va_D A [(Fh, .inr (0, [.int F.1, .int F.2.1, .int F.2.2.1, .int (1 : Int32), .int F.2.2.2.2.1, .int (r_2 + (1 : Int32))])), (Lh, .inr (1, [.ref La0, .int L.2])), (La0, .inl ((kC K), 100, .inl L.1))] := hD
      refine lv_aload_n hx hb d_fm_isPawnMove_62 rfl (lv_at hl 2 rfl) ?_
      refine lv_aload_n hx hb d_fm_isPawnMove_63 rfl (lv_at hl 3 rfl) ?_
      refine lv_iload_n hx hb d_fm_isPawnMove_64 rfl (lv_at hl 0 rfl) ?_
      have hPc : va_P (kD K) vwCl [(Lh, .inr (1, [.ref La0, .int L.2])), (La0, .inl ((kC K), 100, .inl L.1))] _ := hP.sub [1, 2] rfl
      refine vp_callSi (va_Run.run (va_runS (As := [.ref Lh, .int (F.1 - (3 : Int32))]) (rest := [.ref Fh]) ⟨hx, hb, hml, hown, htg⟩ (c_fm_squareIn l K Lh La0 L (F.1 - (3 : Int32))) (va_cwS 2 htg (g_S q_573 q_574 q_5 (g_w q_575)) rfl rfl rfl k_fm_squareIn ⟨Nat.le_of_ble_eq_true rfl, Nat.le_of_ble_eq_true rfl⟩) ⟨ro_blind, ro_use hPc hK hG hS ⟨(by assumption), trivial⟩⟩ rfl rfl hl.1 rfl (lv_room (Nat.le_of_ble_eq_true rfl)) d_fm_isPawnMove_65 ⟨Nat.zero_le _, Nat.zero_le _⟩)) (fun r_22 hw_22 => ?_)
      have hF := hF.trans (bnd_s hw_22.1)
      refine va_put (D := kD K) (ci := 0) (v := .int r_22) (ty := .int) (C := R_fm) (T := T_fm) (N := 6) hx hb htg in_fm ty_fm ty_fm_ok nm_fm hown hK hP hD hS 0 rfl rfl 4 (by decide) (htg (.fieldLink R_fm 70 "GameNotation$Form" "target" "I") q_78) (fun _ h9 => h9) rfl (by decide +kernel) rfl rfl (Nat.le_of_ble_eq_true rfl) d_fm_isPawnMove_68 (fun H locs hP hD hS => ?_)
      have hP : va_P (kD K) vwCl [(Fh, .inr (0, [.int F.1, .int F.2.1, .int F.2.2.1, .int (1 : Int32), .int r_22, .int (r_2 + (1 : Int32))])), (Lh, .inr (1, [.ref La0, .int L.2])), (La0, .inl ((kC K), 100, .inl L.1))] _ := hP
      have hD : va_D A [(Fh, .inr (0, [.int F.1, .int F.2.1, .int F.2.2.1, .int (1 : Int32), .int r_22, .int (r_2 + (1 : Int32))])), (Lh, .inr (1, [.ref La0, .int L.2])), (La0, .inl ((kC K), 100, .inl L.1))] := hD
      refine lv_aload_n hx hb d_fm_isPawnMove_71 rfl (lv_at hl 2 rfl) ?_
      refine va_get (D := kD K) (ci := 0) (v := .int r_22) (C := R_fm) (T := T_fm) (N := 6) hx hb htg in_fm hown hK hP 0 rfl rfl 4 (by decide) (htg (.fieldLink R_fm 70 "GameNotation$Form" "target" "I") q_78) (fun _ h9 => h9) rfl d_fm_isPawnMove_72 ?_
      refine lv_iconst (v := -1) hx hb d_fm_isPawnMove_75 (by decide) ?_
      refine lv_icmp_ne (tgt := 81) hx hb d_fm_isPawnMove_76 (by decide) (fun c_23 => ?_) (fun c_23 => ?_)
      · have hF := hF.trans (if_neg c_23)
        refine lv_iload_n hx hb d_fm_isPawnMove_81 rfl (lv_at hl 0 rfl) ?_
        refine lv_if_eq (tgt := 108) hx hb d_fm_isPawnMove_82 (by decide) (fun c_24 => ?_) (fun c_24 => ?_)
        · have hF := hF.trans (if_pos c_24)
          refine lv_iconst (v := 1) hx hb d_fm_isPawnMove_108 (by decide) ?_
          refine lv_goto (tgt := 113) hx hb d_fm_isPawnMove_109 (by decide) ?_
          exact W.zret (v := (1 : Int32)) hx hb hr (rfl) (fun t ht hW => ⟨⟨(1 : Int32), (F.1, F.2.1, F.2.2.1, (1 : Int32), r_22, r_2 + (1 : Int32)), rfl, ⟨hF, rfl, trivial⟩, ⟨by rw [ht]; exact hP, hD⟩⟩, hS.F ht⟩) hS.2.2 d_fm_isPawnMove_113
        · have hF := hF.trans (if_neg c_24)
          refine lv_iload_n hx hb d_fm_isPawnMove_85 rfl (lv_at hl 0 rfl) ?_
          refine lv_iconst (v := 2) hx hb d_fm_isPawnMove_86 (by decide) ?_
          refine lv_icmp_ne (tgt := 112) hx hb d_fm_isPawnMove_87 (by decide) (fun c_25 => ?_) (fun c_25 => ?_)
          · have hF := hF.trans (if_neg c_25)
            refine lv_iconst (v := 0) hx hb d_fm_isPawnMove_112 (by decide) ?_
            exact W.zret (v := (0 : Int32)) hx hb hr (rfl) (fun t ht hW => ⟨⟨(0 : Int32), (F.1, F.2.1, F.2.2.1, (1 : Int32), r_22, r_2 + (1 : Int32)), rfl, ⟨hF, rfl, trivial⟩, ⟨by rw [ht]; exact hP, hD⟩⟩, hS.F ht⟩) hS.2.2 d_fm_isPawnMove_113
          · have hF := hF.trans (if_pos c_25)
            refine lv_aload_n hx hb d_fm_isPawnMove_90 rfl (lv_at hl 3 rfl) ?_
            refine lv_iconst (v := 1) hx hb d_fm_isPawnMove_91 (by decide) ?_
            have hPc : va_P (kD K) vwCl [(Lh, .inr (1, [.ref La0, .int L.2])), (La0, .inl ((kC K), 100, .inl L.1))] _ := hP.sub [1, 2] rfl
            refine vp_callSi (va_Run.run (va_runV (As := [.int (1 : Int32)]) (rest := []) ⟨hx, hb, hml, hown, htg⟩ (c_ln_letter l K Lh La0 L (1 : Int32)) (cwV 1 htg (g_V q_553 q_178 q_179 q_2 (g_w q_180)) rfl rfl rfl ⟨rfl, k_ln_letter⟩ ⟨Nat.le_of_ble_eq_true rfl, Nat.le_of_ble_eq_true rfl⟩) ⟨ro_blind, va_recv hK hPc (ci := 1) (q0 := 0) rfl rfl, ro_use hPc hK hG hS ⟨(by assumption), trivial⟩⟩ rfl rfl hl.1 rfl (lv_room (Nat.le_of_ble_eq_true rfl)) d_fm_isPawnMove_92 ⟨Nat.zero_le _, Nat.zero_le _⟩)) (fun r_26 hw_26 => ?_)
            have hF := hF.trans (bnd_s hw_26.1)
            have hn_26 := hw_26.2
            refine lv_bipush (v := 120) hx hb d_fm_isPawnMove_95 (by decide) ?_
            refine lv_icmp_ne (tgt := 112) hx hb d_fm_isPawnMove_97 (by decide) (fun c_27 => ?_) (fun c_27 => ?_)
            · have hF := hF.trans (if_neg c_27)
              refine lv_iconst (v := 0) hx hb d_fm_isPawnMove_112 (by decide) ?_
              exact W.zret (v := (0 : Int32)) hx hb hr (rfl) (fun t ht hW => ⟨⟨(0 : Int32), (F.1, F.2.1, F.2.2.1, (1 : Int32), r_22, r_2 + (1 : Int32)), rfl, ⟨hF, rfl, trivial⟩, ⟨by rw [ht]; exact hP, hD⟩⟩, hS.F ht⟩) hS.2.2 d_fm_isPawnMove_113
            · have hF := hF.trans (if_pos c_27)
              refine lv_aload_n hx hb d_fm_isPawnMove_100 rfl (lv_at hl 3 rfl) ?_
              refine lv_iconst (v := 0) hx hb d_fm_isPawnMove_101 (by decide) ?_
              have hPc : va_P (kD K) vwCl [(Lh, .inr (1, [.ref La0, .int L.2])), (La0, .inl ((kC K), 100, .inl L.1))] _ := hP.sub [1, 2] rfl
              refine vp_callSi (va_Run.run (va_runS (As := [.ref Lh, .int (0 : Int32)]) (rest := []) ⟨hx, hb, hml, hown, htg⟩ (c_fm_fileIn l K Lh La0 L (0 : Int32)) (va_cwS 2 htg (g_S q_576 q_577 q_5 (g_w q_578)) rfl rfl rfl k_fm_fileIn ⟨Nat.le_of_ble_eq_true rfl, Nat.le_of_ble_eq_true rfl⟩) ⟨ro_blind, ro_use hPc hK hG hS ⟨(by assumption), trivial⟩⟩ rfl rfl hl.1 rfl (lv_room (Nat.le_of_ble_eq_true rfl)) d_fm_isPawnMove_102 ⟨Nat.zero_le _, Nat.zero_le _⟩)) (fun r_28 hw_28 => ?_)
              have hF := hF.trans (bnd_s hw_28.1)
              refine lv_if_lt (tgt := 112) hx hb d_fm_isPawnMove_105 (by decide) (fun c_29 => ?_) (fun c_29 => ?_)
              · have hF := hF.trans (if_pos c_29)
                refine lv_iconst (v := 0) hx hb d_fm_isPawnMove_112 (by decide) ?_
                exact W.zret (v := (0 : Int32)) hx hb hr (rfl) (fun t ht hW => ⟨⟨(0 : Int32), (F.1, F.2.1, F.2.2.1, (1 : Int32), r_22, r_2 + (1 : Int32)), rfl, ⟨hF, rfl, trivial⟩, ⟨by rw [ht]; exact hP, hD⟩⟩, hS.F ht⟩) hS.2.2 d_fm_isPawnMove_113
              · have hF := hF.trans (if_neg c_29)
                refine lv_iconst (v := 1) hx hb d_fm_isPawnMove_108 (by decide) ?_
                refine lv_goto (tgt := 113) hx hb d_fm_isPawnMove_109 (by decide) ?_
                exact W.zret (v := (1 : Int32)) hx hb hr (rfl) (fun t ht hW => ⟨⟨(1 : Int32), (F.1, F.2.1, F.2.2.1, (1 : Int32), r_22, r_2 + (1 : Int32)), rfl, ⟨hF, rfl, trivial⟩, ⟨by rw [ht]; exact hP, hD⟩⟩, hS.F ht⟩) hS.2.2 d_fm_isPawnMove_113
      · have hF := hF.trans (if_pos c_23)
        refine lv_iconst (v := 0) hx hb d_fm_isPawnMove_79 (by decide) ?_
        exact W.zret (v := (0 : Int32)) hx hb hr (rfl) (fun t ht hW => ⟨⟨(0 : Int32), (F.1, F.2.1, F.2.2.1, (1 : Int32), r_22, r_2 + (1 : Int32)), rfl, ⟨hF, rfl, trivial⟩, ⟨by rw [ht]; exact hP, hD⟩⟩, hS.F ht⟩) hS.2.2 d_fm_isPawnMove_80
def f_fm_isOf (F : FmT) (L : LnT) : Int32 × FmT := (bnd (f_ln_size L) (fun r_1 => (bnd (f_ln_letter L (r_1 - (1 : Int32))) (fun r_2 => (bnd (f_st_indexOf 5 r_2) (fun r_3 => (if (r_3 + (1 : Int32)) ≤ 0 then (bnd (f_ln_size L) (fun r_5 => (bnd2 (f_fm_isCastling (r_5, r_3 + (1 : Int32), F.2.2.1, F.2.2.2.1, F.2.2.2.2.1, F.2.2.2.2.2) L) (fun r_6 u_6 => (if r_6 = 0 then (bnd2 (f_fm_isManMove u_6 L) (fun r_8 u_8 => (if r_8 = 0 then (bnd2 (f_fm_isPawnMove u_8 L) (fun r_10 u_10 => (if r_10 = 0 then ((0 : Int32), u_10) else ((1 : Int32), u_10)))) else ((1 : Int32), u_8)))) else ((1 : Int32), u_6)))))) else (bnd (f_ln_size L) (fun r_12 => (bnd2 (f_fm_isCastling (r_12 - (1 : Int32), r_3 + (1 : Int32), F.2.2.1, F.2.2.2.1, F.2.2.2.2.1, F.2.2.2.2.2) L) (fun r_13 u_13 => (if r_13 = 0 then (bnd2 (f_fm_isManMove u_13 L) (fun r_15 u_15 => (if r_15 = 0 then (bnd2 (f_fm_isPawnMove u_15 L) (fun r_17 u_17 => (if r_17 = 0 then ((0 : Int32), u_17) else ((1 : Int32), u_17)))) else ((1 : Int32), u_15)))) else ((1 : Int32), u_13)))))))))))))
set_option maxHeartbeats 4000000 in
set_option maxRecDepth 100000 in
theorem c_fm_isOf (l : Launch) (K : KT) (sz : Nat) (Fh : Nat) (F : FmT) (Lh La0 : Nat) (L : LnT) : Met l y_fm_isOf w_fm_isOf ({ frames := 7, cells := 0, slots := 0, locals := 156 } : Room) (va_Pc [.ref Fh, .ref Lh] (fun U => pMU K [(Fh, .inr (0, [.int F.1, .int F.2.1, .int F.2.2.1, .int F.2.2.2.1, .int F.2.2.2.2.1, .int F.2.2.2.2.2])), (Lh, .inr (1, [.ref La0, .int L.2])), (La0, .inl ((kC K), 100, .inl L.1))] sz U ∧ LnOk L ∧ True)) (va_Qi (fun (r : Int32) (u : FmT) => f_fm_isOf F L = (r, u) ∧ narrow .boolean (.int r) = .int r ∧ True) (fun (u : FmT) (t : State) => va_P (kD K) vwCl [(Fh, .inr (0, [.int u.1, .int u.2.1, .int u.2.2.1, .int u.2.2.2.1, .int u.2.2.2.2.1, .int u.2.2.2.2.2])), (Lh, .inr (1, [.ref La0, .int L.2])), (La0, .inl ((kC K), 100, .inl L.1))] t.heap ∧ va_D (va_A [(Fh, .inr (0, [.int F.1, .int F.2.1, .int F.2.2.1, .int F.2.2.2.1, .int F.2.2.2.2.1, .int F.2.2.2.2.2])), (Lh, .inr (1, [.ref La0, .int L.2])), (La0, .inl ((kC K), 100, .inl L.1))] sz) [(Fh, .inr (0, [.int u.1, .int u.2.1, .int u.2.2.1, .int u.2.2.2.1, .int u.2.2.2.2.1, .int u.2.2.2.2.2])), (Lh, .inr (1, [.ref La0, .int L.2])), (La0, .inl ((kC K), 100, .inl L.1))]) (va_A [(Fh, .inr (0, [.int F.1, .int F.2.1, .int F.2.2.1, .int F.2.2.2.1, .int F.2.2.2.2.1, .int F.2.2.2.2.2])), (Lh, .inr (1, [.ref La0, .int L.2])), (La0, .inl ((kC K), 100, .inl L.1))] sz)) 0 0 (va_A [(Fh, .inr (0, [.int F.1, .int F.2.1, .int F.2.2.1, .int F.2.2.2.1, .int F.2.2.2.2.1, .int F.2.2.2.2.2])), (Lh, .inr (1, [.ref La0, .int L.2])), (La0, .inl ((kC K), 100, .inl L.1))] sz) := by
  refine Met.ofW (cc := b_fm_isOf) (maxL := 2) (ret := (some .boolean)) (by decide) rfl ?_
  intro p e s m args below meth c s₁ B hml hv
  obtain ⟨rfl, ⟨hsz, hP, hK, hD0, hG⟩, ok_L, -⟩ := hv
  have hx := B.exec
  have hb := B.bytes
  have hr := B.returns
  have hts := atoms_spec (ws := w_fm_isOf) B.pre
  have hown : s.vm.findClass R_fm = some m.cls := findClass_of_methodNamed B.named
  have hlocks := B.notSynchronized
  have htg := fun w h => hts w (List.mem_cons_of_mem _ h)
  subst hsz
  have hD := hD0.self (sz := s.heap.size)
  generalize hAe : va_A [(Fh, .inr (0, [.int F.1, .int F.2.1, .int F.2.2.1, .int F.2.2.2.1, .int F.2.2.2.2.1, .int F.2.2.2.2.2])), (Lh, .inr (1, [.ref La0, .int L.2])), (La0, .inl ((kC K), 100, .inl L.1))] s.heap.size = A at hD hG ⊢
  have hA : ∀ q : Nat, s.heap.size ≤ q → A q := fun q h => by rw [← hAe]; exact Or.inr h
  have hS : va_S A s.heap s.heap [] := va_S.rf
  have hl := lv_entry ([.ref Fh, .ref Lh]) (n := 2) (Nat.le_of_ble_eq_true rfl)
  rw [lg_entry_eq]
  generalize (lg_sl ([.ref Fh, .ref Lh]) ++ List.replicate (2 - (lg_sl ([.ref Fh, .ref Lh])).length) Slot.unset).toArray = ls at hl ⊢
  have hl : lv_has ls 2 [(0, .ref Fh), (1, .ref Lh)] := hl
  have hF := f_fm_isOf.eq_1 F L
  refine lv_aload_n hx hb d_fm_isOf_0 rfl (lv_at hl 0 rfl) ?_
  refine va_ldcS hx hb hown (show vk_R R_fm 18 "+#" (kK K 5) s from hG.sr 9 (q := ("GameNotation$Form", 18, "+#", 5)) rfl) d_fm_isOf_1 ?_
  refine lv_aload_n hx hb d_fm_isOf_3 rfl (lv_at hl 1 rfl) ?_
  refine lv_aload_n hx hb d_fm_isOf_4 rfl (lv_at hl 1 rfl) ?_
  have hPc : va_P (kD K) vwCl [(Lh, .inr (1, [.ref La0, .int L.2])), (La0, .inl ((kC K), 100, .inl L.1))] _ := hP.sub [1, 2] rfl
  refine vp_callSi (va_Run.run (va_runV (As := []) (rest := [.ref Lh, .ref (kK K 5), .ref Fh]) ⟨hx, hb, hml, hown, htg⟩ (c_ln_size l K Lh La0 L) (cwV 0 htg (g_V q_552 q_158 q_159 q_2 (g_w q_160)) rfl rfl rfl ⟨rfl, k_ln_size⟩ ⟨Nat.le_of_ble_eq_true rfl, Nat.le_of_ble_eq_true rfl⟩) ⟨ro_blind, va_recv hK hPc (ci := 1) (q0 := 0) rfl rfl, ro_use hPc hK hG hS ⟨(by assumption), trivial⟩⟩ rfl rfl hl.1 rfl (lv_room (Nat.le_of_ble_eq_true rfl)) d_fm_isOf_5 ⟨Nat.zero_le _, Nat.zero_le _⟩)) (fun r_1 hw_1 => ?_)
  have hF := hF.trans (bnd_s hw_1.1)
  refine lv_iconst (v := 1) hx hb d_fm_isOf_8 (by decide) ?_
  refine lv_isub hx hb d_fm_isOf_9 ?_
  have hPc : va_P (kD K) vwCl [(Lh, .inr (1, [.ref La0, .int L.2])), (La0, .inl ((kC K), 100, .inl L.1))] _ := hP.sub [1, 2] rfl
  refine vp_callSi (va_Run.run (va_runV (As := [.int (r_1 - (1 : Int32))]) (rest := [.ref (kK K 5), .ref Fh]) ⟨hx, hb, hml, hown, htg⟩ (c_ln_letter l K Lh La0 L (r_1 - (1 : Int32))) (cwV 1 htg (g_V q_553 q_178 q_179 q_2 (g_w q_180)) rfl rfl rfl ⟨rfl, k_ln_letter⟩ ⟨Nat.le_of_ble_eq_true rfl, Nat.le_of_ble_eq_true rfl⟩) ⟨ro_blind, va_recv hK hPc (ci := 1) (q0 := 0) rfl rfl, ro_use hPc hK hG hS ⟨(by assumption), trivial⟩⟩ rfl rfl hl.1 rfl (lv_room (Nat.le_of_ble_eq_true rfl)) d_fm_isOf_10 ⟨Nat.zero_le _, Nat.zero_le _⟩)) (fun r_2 hw_2 => ?_)
  have hF := hF.trans (bnd_s hw_2.1)
  have hn_2 := hw_2.2
  have hPc : va_P (kD K) vwCl [] _ := hP.sub [] rfl
  refine vp_callSi (va_Run.run (va_runV (As := [.int r_2]) (rest := [.ref Fh]) ⟨hx, hb, hml, hown, htg⟩ (c_st_indexOf l K 5 r_2) (cwV 1 htg (g_V q_554 q_204 q_205 q_8 (g_w q_206)) rfl rfl rfl ⟨rfl, k_st_indexOf⟩ ⟨Nat.le_of_ble_eq_true rfl, Nat.le_of_ble_eq_true rfl⟩) ⟨ro_blind, vk_recv hG.str (by decide) hS, ro_use hPc hK hG hS ⟨(by decide), trivial⟩⟩ rfl rfl hl.1 rfl (lv_room (Nat.le_of_ble_eq_true rfl)) d_fm_isOf_13 ⟨Nat.zero_le _, Nat.zero_le _⟩)) (fun r_3 hw_3 => ?_)
  have hF := hF.trans (bnd_s hw_3.1)
  refine lv_iconst (v := 1) hx hb d_fm_isOf_16 (by decide) ?_
  refine lv_iadd hx hb d_fm_isOf_17 ?_
  refine va_put (D := kD K) (ci := 0) (v := .int (r_3 + (1 : Int32))) (ty := .int) (C := R_fm) (T := T_fm) (N := 6) hx hb htg in_fm ty_fm ty_fm_ok nm_fm hown hK hP hD hS 0 rfl rfl 1 (by decide) (htg (.fieldLink R_fm 15 "GameNotation$Form" "sign" "I") q_75) (fun _ h9 => h9) rfl (by decide +kernel) rfl rfl (Nat.le_of_ble_eq_true rfl) d_fm_isOf_18 (fun H locs hP hD hS => ?_)
  have hP : va_P (kD K) vwCl [(Fh, .inr (0, [.int F.1, .int (r_3 + (1 : Int32)), .int F.2.2.1, .int F.2.2.2.1, .int F.2.2.2.2.1, .int F.2.2.2.2.2])), (Lh, .inr (1, [.ref La0, .int L.2])), (La0, .inl ((kC K), 100, .inl L.1))] _ := hP
  have hD : va_D A [(Fh, .inr (0, [.int F.1, .int (r_3 + (1 : Int32)), .int F.2.2.1, .int F.2.2.2.1, .int F.2.2.2.2.1, .int F.2.2.2.2.2])), (Lh, .inr (1, [.ref La0, .int L.2])), (La0, .inl ((kC K), 100, .inl L.1))] := hD
  refine lv_aload_n hx hb d_fm_isOf_21 rfl (lv_at hl 0 rfl) ?_
  refine lv_aload_n hx hb d_fm_isOf_22 rfl (lv_at hl 0 rfl) ?_
  refine va_get (D := kD K) (ci := 0) (v := .int (r_3 + (1 : Int32))) (C := R_fm) (T := T_fm) (N := 6) hx hb htg in_fm hown hK hP 0 rfl rfl 1 (by decide) (htg (.fieldLink R_fm 15 "GameNotation$Form" "sign" "I") q_75) (fun _ h9 => h9) rfl d_fm_isOf_23 ?_
  refine lv_if_le (tgt := 38) hx hb d_fm_isOf_26 (by decide) (fun c_4 => ?_) (fun c_4 => ?_)
  · have hF := hF.trans (if_pos c_4)
    refine lv_aload_n hx hb d_fm_isOf_38 rfl (lv_at hl 1 rfl) ?_
    have hPc : va_P (kD K) vwCl [(Lh, .inr (1, [.ref La0, .int L.2])), (La0, .inl ((kC K), 100, .inl L.1))] _ := hP.sub [1, 2] rfl
    refine vp_callSi (va_Run.run (va_runV (As := []) (rest := [.ref Fh]) ⟨hx, hb, hml, hown, htg⟩ (c_ln_size l K Lh La0 L) (cwV 0 htg (g_V q_552 q_158 q_159 q_2 (g_w q_160)) rfl rfl rfl ⟨rfl, k_ln_size⟩ ⟨Nat.le_of_ble_eq_true rfl, Nat.le_of_ble_eq_true rfl⟩) ⟨ro_blind, va_recv hK hPc (ci := 1) (q0 := 0) rfl rfl, ro_use hPc hK hG hS ⟨(by assumption), trivial⟩⟩ rfl rfl hl.1 rfl (lv_room (Nat.le_of_ble_eq_true rfl)) d_fm_isOf_39 ⟨Nat.zero_le _, Nat.zero_le _⟩)) (fun r_5 hw_5 => ?_)
    have hF := hF.trans (bnd_s hw_5.1)
    refine va_put (D := kD K) (ci := 0) (v := .int r_5) (ty := .int) (C := R_fm) (T := T_fm) (N := 6) hx hb htg in_fm ty_fm ty_fm_ok nm_fm hown hK hP hD hS 0 rfl rfl 0 (by decide) (htg (.fieldLink R_fm 9 "GameNotation$Form" "unsignedSize" "I") q_74) (fun _ h9 => h9) rfl (by decide +kernel) rfl rfl (Nat.le_of_ble_eq_true rfl) d_fm_isOf_42 (fun H locs hP hD hS => ?_)
    have hP : va_P (kD K) vwCl [(Fh, .inr (0, [.int r_5, .int (r_3 + (1 : Int32)), .int F.2.2.1, .int F.2.2.2.1, .int F.2.2.2.2.1, .int F.2.2.2.2.2])), (Lh, .inr (1, [.ref La0, .int L.2])), (La0, .inl ((kC K), 100, .inl L.1))] _ := hP
    have hD : va_D A [(Fh, .inr (0, [.int r_5, .int (r_3 + (1 : Int32)), .int F.2.2.1, .int F.2.2.2.1, .int F.2.2.2.2.1, .int F.2.2.2.2.2])), (Lh, .inr (1, [.ref La0, .int L.2])), (La0, .inl ((kC K), 100, .inl L.1))] := hD
    refine lv_aload_n hx hb d_fm_isOf_45 rfl (lv_at hl 0 rfl) ?_
    refine lv_aload_n hx hb d_fm_isOf_46 rfl (lv_at hl 1 rfl) ?_
    have hPc : va_P (kD K) vwCl [(Fh, .inr (0, [.int r_5, .int (r_3 + (1 : Int32)), .int F.2.2.1, .int F.2.2.2.1, .int F.2.2.2.2.1, .int F.2.2.2.2.2])), (Lh, .inr (1, [.ref La0, .int L.2])), (La0, .inl ((kC K), 100, .inl L.1))] _ := hP.sub [0, 1, 2] rfl
    have hDc : va_D A [(Fh, .inr (0, [.int r_5, .int (r_3 + (1 : Int32)), .int F.2.2.1, .int F.2.2.2.1, .int F.2.2.2.2.1, .int F.2.2.2.2.2])), (Lh, .inr (1, [.ref La0, .int L.2])), (La0, .inl ((kC K), 100, .inl L.1))] := hD.sub [0, 1, 2] (by decide) rfl
    have hFc := va_free (wc := [(Fh, .inr (0, [.int r_5, .int (r_3 + (1 : Int32)), .int F.2.2.1, .int F.2.2.2.1, .int F.2.2.2.2.1, .int F.2.2.2.2.2])), (Lh, .inr (1, [.ref La0, .int L.2])), (La0, .inl ((kC K), 100, .inl L.1))]) hD hS hA [0, 1, 2] rfl
    refine va_calli (va_runV (As := [.ref Lh]) (rest := []) ⟨hx, hb, hml, hown, htg⟩ (c_fm_isCastling l K _ Fh (r_5, r_3 + (1 : Int32), F.2.2.1, F.2.2.2.1, F.2.2.2.2.1, F.2.2.2.2.2) Lh La0 L) (cwV 1 htg (g_V q_555 q_557 qs_24 q_5 (g_w q_558)) rfl rfl rfl ⟨rfl, k_fm_isCastling⟩ ⟨Nat.le_of_ble_eq_true rfl, Nat.le_of_ble_eq_true rfl⟩) ⟨mu_blind, va_recv hK hPc (ci := 0) (q0 := 0) rfl rfl, mu_use hPc hK hDc hG hS hFc ⟨(by assumption), trivial⟩⟩ rfl rfl hl.1 rfl (lv_room (Nat.le_of_ble_eq_true rfl)) d_fm_isOf_47 ⟨Nat.zero_le _, Nat.zero_le _⟩) hS (fun q _ h => hFc q h) hFc (fun r_6 u_6 t H1 locs ht hvm hw_6 hB hz1 hk1 hS => ?_)
    obtain ⟨hP1, hD1⟩ := hB
    rw [ht] at hP1
    obtain ⟨hP, hD⟩ := va_join (wr := []) (w1 := [(Fh, .inr (0, [.int u_6.1, .int u_6.2.1, .int u_6.2.2.1, .int u_6.2.2.2.1, .int u_6.2.2.2.2.1, .int u_6.2.2.2.2.2])), (Lh, .inr (1, [.ref La0, .int L.2])), (La0, .inl ((kC K), 100, .inl L.1))]) hP hD [0, 1, 2] [] rfl rfl (by decide) (by decide) hk1 hFc hP1 hD1
    have hP : va_P (kD K) vwCl [(Fh, .inr (0, [.int u_6.1, .int u_6.2.1, .int u_6.2.2.1, .int u_6.2.2.2.1, .int u_6.2.2.2.2.1, .int u_6.2.2.2.2.2])), (Lh, .inr (1, [.ref La0, .int L.2])), (La0, .inl ((kC K), 100, .inl L.1))] H1 := hP.sub [0, 1, 2] rfl
    have hD : va_D A [(Fh, .inr (0, [.int u_6.1, .int u_6.2.1, .int u_6.2.2.1, .int u_6.2.2.2.1, .int u_6.2.2.2.2.1, .int u_6.2.2.2.2.2])), (Lh, .inr (1, [.ref La0, .int L.2])), (La0, .inl ((kC K), 100, .inl L.1))] := hD.sub [0, 1, 2] (by decide) rfl
    generalize H1 = H at hP hS ⊢
    have hF := hF.trans (bnd2_s hw_6.1)
    have hn_6 := hw_6.2.1
    refine lv_if_ne (tgt := 69) hx hb d_fm_isOf_50 (by decide) (fun c_7 => ?_) (fun c_7 => ?_)
    · have hF := hF.trans (if_neg c_7)
      refine lv_iconst (v := 1) hx hb d_fm_isOf_69 (by decide) ?_
      refine lv_goto (tgt := 74) hx hb d_fm_isOf_70 (by decide) ?_
      exact W.zret (v := (1 : Int32)) hx hb hr (rfl) (fun t ht hW => ⟨⟨(1 : Int32), u_6, rfl, ⟨hF, rfl, trivial⟩, ⟨by rw [ht]; exact hP, hD⟩⟩, hS.F ht⟩) hS.2.2 d_fm_isOf_74
    · have hF := hF.trans (if_pos c_7)
      refine lv_aload_n hx hb d_fm_isOf_53 rfl (lv_at hl 0 rfl) ?_
      refine lv_aload_n hx hb d_fm_isOf_54 rfl (lv_at hl 1 rfl) ?_
      have hPc : va_P (kD K) vwCl [(Fh, .inr (0, [.int u_6.1, .int u_6.2.1, .int u_6.2.2.1, .int u_6.2.2.2.1, .int u_6.2.2.2.2.1, .int u_6.2.2.2.2.2])), (Lh, .inr (1, [.ref La0, .int L.2])), (La0, .inl ((kC K), 100, .inl L.1))] _ := hP.sub [0, 1, 2] rfl
      have hDc : va_D A [(Fh, .inr (0, [.int u_6.1, .int u_6.2.1, .int u_6.2.2.1, .int u_6.2.2.2.1, .int u_6.2.2.2.2.1, .int u_6.2.2.2.2.2])), (Lh, .inr (1, [.ref La0, .int L.2])), (La0, .inl ((kC K), 100, .inl L.1))] := hD.sub [0, 1, 2] (by decide) rfl
      have hFc := va_free (wc := [(Fh, .inr (0, [.int u_6.1, .int u_6.2.1, .int u_6.2.2.1, .int u_6.2.2.2.1, .int u_6.2.2.2.2.1, .int u_6.2.2.2.2.2])), (Lh, .inr (1, [.ref La0, .int L.2])), (La0, .inl ((kC K), 100, .inl L.1))]) hD hS hA [0, 1, 2] rfl
      refine va_calli (va_runV (As := [.ref Lh]) (rest := []) ⟨hx, hb, hml, hown, htg⟩ (c_fm_isManMove l K _ Fh u_6 Lh La0 L) (cwV 1 htg (g_V q_568 q_570 qs_25 q_5 (g_w q_571)) rfl rfl rfl ⟨rfl, k_fm_isManMove⟩ ⟨Nat.le_of_ble_eq_true rfl, Nat.le_of_ble_eq_true rfl⟩) ⟨mu_blind, va_recv hK hPc (ci := 0) (q0 := 0) rfl rfl, mu_use hPc hK hDc hG hS hFc ⟨(by assumption), trivial⟩⟩ rfl rfl hl.1 rfl (lv_room (Nat.le_of_ble_eq_true rfl)) d_fm_isOf_55 ⟨Nat.zero_le _, Nat.zero_le _⟩) hS (fun q _ h => hFc q h) hFc (fun r_8 u_8 t H1 locs ht hvm hw_8 hB hz1 hk1 hS => ?_)
      obtain ⟨hP1, hD1⟩ := hB
      rw [ht] at hP1
      obtain ⟨hP, hD⟩ := va_join (wr := []) (w1 := [(Fh, .inr (0, [.int u_8.1, .int u_8.2.1, .int u_8.2.2.1, .int u_8.2.2.2.1, .int u_8.2.2.2.2.1, .int u_8.2.2.2.2.2])), (Lh, .inr (1, [.ref La0, .int L.2])), (La0, .inl ((kC K), 100, .inl L.1))]) hP hD [0, 1, 2] [] rfl rfl (by decide) (by decide) hk1 hFc hP1 hD1
      have hP : va_P (kD K) vwCl [(Fh, .inr (0, [.int u_8.1, .int u_8.2.1, .int u_8.2.2.1, .int u_8.2.2.2.1, .int u_8.2.2.2.2.1, .int u_8.2.2.2.2.2])), (Lh, .inr (1, [.ref La0, .int L.2])), (La0, .inl ((kC K), 100, .inl L.1))] H1 := hP.sub [0, 1, 2] rfl
      have hD : va_D A [(Fh, .inr (0, [.int u_8.1, .int u_8.2.1, .int u_8.2.2.1, .int u_8.2.2.2.1, .int u_8.2.2.2.2.1, .int u_8.2.2.2.2.2])), (Lh, .inr (1, [.ref La0, .int L.2])), (La0, .inl ((kC K), 100, .inl L.1))] := hD.sub [0, 1, 2] (by decide) rfl
      generalize H1 = H at hP hS ⊢
      have hF := hF.trans (bnd2_s hw_8.1)
      have hn_8 := hw_8.2.1
      refine lv_if_ne (tgt := 69) hx hb d_fm_isOf_58 (by decide) (fun c_9 => ?_) (fun c_9 => ?_)
      · have hF := hF.trans (if_neg c_9)
        refine lv_iconst (v := 1) hx hb d_fm_isOf_69 (by decide) ?_
        refine lv_goto (tgt := 74) hx hb d_fm_isOf_70 (by decide) ?_
        exact W.zret (v := (1 : Int32)) hx hb hr (rfl) (fun t ht hW => ⟨⟨(1 : Int32), u_8, rfl, ⟨hF, rfl, trivial⟩, ⟨by rw [ht]; exact hP, hD⟩⟩, hS.F ht⟩) hS.2.2 d_fm_isOf_74
      · have hF := hF.trans (if_pos c_9)
        refine lv_aload_n hx hb d_fm_isOf_61 rfl (lv_at hl 0 rfl) ?_
        refine lv_aload_n hx hb d_fm_isOf_62 rfl (lv_at hl 1 rfl) ?_
        have hPc : va_P (kD K) vwCl [(Fh, .inr (0, [.int u_8.1, .int u_8.2.1, .int u_8.2.2.1, .int u_8.2.2.2.1, .int u_8.2.2.2.2.1, .int u_8.2.2.2.2.2])), (Lh, .inr (1, [.ref La0, .int L.2])), (La0, .inl ((kC K), 100, .inl L.1))] _ := hP.sub [0, 1, 2] rfl
        have hDc : va_D A [(Fh, .inr (0, [.int u_8.1, .int u_8.2.1, .int u_8.2.2.1, .int u_8.2.2.2.1, .int u_8.2.2.2.2.1, .int u_8.2.2.2.2.2])), (Lh, .inr (1, [.ref La0, .int L.2])), (La0, .inl ((kC K), 100, .inl L.1))] := hD.sub [0, 1, 2] (by decide) rfl
        have hFc := va_free (wc := [(Fh, .inr (0, [.int u_8.1, .int u_8.2.1, .int u_8.2.2.1, .int u_8.2.2.2.1, .int u_8.2.2.2.2.1, .int u_8.2.2.2.2.2])), (Lh, .inr (1, [.ref La0, .int L.2])), (La0, .inl ((kC K), 100, .inl L.1))]) hD hS hA [0, 1, 2] rfl
        refine va_calli (va_runV (As := [.ref Lh]) (rest := []) ⟨hx, hb, hml, hown, htg⟩ (c_fm_isPawnMove l K _ Fh u_8 Lh La0 L) (cwV 1 htg (g_V q_585 q_587 qs_26 q_5 (g_w q_588)) rfl rfl rfl ⟨rfl, k_fm_isPawnMove⟩ ⟨Nat.le_of_ble_eq_true rfl, Nat.le_of_ble_eq_true rfl⟩) ⟨mu_blind, va_recv hK hPc (ci := 0) (q0 := 0) rfl rfl, mu_use hPc hK hDc hG hS hFc ⟨(by assumption), trivial⟩⟩ rfl rfl hl.1 rfl (lv_room (Nat.le_of_ble_eq_true rfl)) d_fm_isOf_63 ⟨Nat.zero_le _, Nat.zero_le _⟩) hS (fun q _ h => hFc q h) hFc (fun r_10 u_10 t H1 locs ht hvm hw_10 hB hz1 hk1 hS => ?_)
        obtain ⟨hP1, hD1⟩ := hB
        rw [ht] at hP1
        obtain ⟨hP, hD⟩ := va_join (wr := []) (w1 := [(Fh, .inr (0, [.int u_10.1, .int u_10.2.1, .int u_10.2.2.1, .int u_10.2.2.2.1, .int u_10.2.2.2.2.1, .int u_10.2.2.2.2.2])), (Lh, .inr (1, [.ref La0, .int L.2])), (La0, .inl ((kC K), 100, .inl L.1))]) hP hD [0, 1, 2] [] rfl rfl (by decide) (by decide) hk1 hFc hP1 hD1
        have hP : va_P (kD K) vwCl [(Fh, .inr (0, [.int u_10.1, .int u_10.2.1, .int u_10.2.2.1, .int u_10.2.2.2.1, .int u_10.2.2.2.2.1, .int u_10.2.2.2.2.2])), (Lh, .inr (1, [.ref La0, .int L.2])), (La0, .inl ((kC K), 100, .inl L.1))] H1 := hP.sub [0, 1, 2] rfl
        have hD : va_D A [(Fh, .inr (0, [.int u_10.1, .int u_10.2.1, .int u_10.2.2.1, .int u_10.2.2.2.1, .int u_10.2.2.2.2.1, .int u_10.2.2.2.2.2])), (Lh, .inr (1, [.ref La0, .int L.2])), (La0, .inl ((kC K), 100, .inl L.1))] := hD.sub [0, 1, 2] (by decide) rfl
        generalize H1 = H at hP hS ⊢
        have hF := hF.trans (bnd2_s hw_10.1)
        have hn_10 := hw_10.2.1
        refine lv_if_eq (tgt := 73) hx hb d_fm_isOf_66 (by decide) (fun c_11 => ?_) (fun c_11 => ?_)
        · have hF := hF.trans (if_pos c_11)
          refine lv_iconst (v := 0) hx hb d_fm_isOf_73 (by decide) ?_
          exact W.zret (v := (0 : Int32)) hx hb hr (rfl) (fun t ht hW => ⟨⟨(0 : Int32), u_10, rfl, ⟨hF, rfl, trivial⟩, ⟨by rw [ht]; exact hP, hD⟩⟩, hS.F ht⟩) hS.2.2 d_fm_isOf_74
        · have hF := hF.trans (if_neg c_11)
          refine lv_iconst (v := 1) hx hb d_fm_isOf_69 (by decide) ?_
          refine lv_goto (tgt := 74) hx hb d_fm_isOf_70 (by decide) ?_
          exact W.zret (v := (1 : Int32)) hx hb hr (rfl) (fun t ht hW => ⟨⟨(1 : Int32), u_10, rfl, ⟨hF, rfl, trivial⟩, ⟨by rw [ht]; exact hP, hD⟩⟩, hS.F ht⟩) hS.2.2 d_fm_isOf_74
  · have hF := hF.trans (if_neg c_4)
    refine lv_aload_n hx hb d_fm_isOf_29 rfl (lv_at hl 1 rfl) ?_
    have hPc : va_P (kD K) vwCl [(Lh, .inr (1, [.ref La0, .int L.2])), (La0, .inl ((kC K), 100, .inl L.1))] _ := hP.sub [1, 2] rfl
    refine vp_callSi (va_Run.run (va_runV (As := []) (rest := [.ref Fh]) ⟨hx, hb, hml, hown, htg⟩ (c_ln_size l K Lh La0 L) (cwV 0 htg (g_V q_552 q_158 q_159 q_2 (g_w q_160)) rfl rfl rfl ⟨rfl, k_ln_size⟩ ⟨Nat.le_of_ble_eq_true rfl, Nat.le_of_ble_eq_true rfl⟩) ⟨ro_blind, va_recv hK hPc (ci := 1) (q0 := 0) rfl rfl, ro_use hPc hK hG hS ⟨(by assumption), trivial⟩⟩ rfl rfl hl.1 rfl (lv_room (Nat.le_of_ble_eq_true rfl)) d_fm_isOf_30 ⟨Nat.zero_le _, Nat.zero_le _⟩)) (fun r_12 hw_12 => ?_)
    have hF := hF.trans (bnd_s hw_12.1)
    refine lv_iconst (v := 1) hx hb d_fm_isOf_33 (by decide) ?_
    refine lv_isub hx hb d_fm_isOf_34 ?_
    refine lv_goto (tgt := 42) hx hb d_fm_isOf_35 (by decide) ?_
    refine va_put (D := kD K) (ci := 0) (v := .int (r_12 - (1 : Int32))) (ty := .int) (C := R_fm) (T := T_fm) (N := 6) hx hb htg in_fm ty_fm ty_fm_ok nm_fm hown hK hP hD hS 0 rfl rfl 0 (by decide) (htg (.fieldLink R_fm 9 "GameNotation$Form" "unsignedSize" "I") q_74) (fun _ h9 => h9) rfl (by decide +kernel) rfl rfl (Nat.le_of_ble_eq_true rfl) d_fm_isOf_42 (fun H locs hP hD hS => ?_)
    have hP : va_P (kD K) vwCl [(Fh, .inr (0, [.int (r_12 - (1 : Int32)), .int (r_3 + (1 : Int32)), .int F.2.2.1, .int F.2.2.2.1, .int F.2.2.2.2.1, .int F.2.2.2.2.2])), (Lh, .inr (1, [.ref La0, .int L.2])), (La0, .inl ((kC K), 100, .inl L.1))] _ := hP
    have hD : va_D A [(Fh, .inr (0, [.int (r_12 - (1 : Int32)), .int (r_3 + (1 : Int32)), .int F.2.2.1, .int F.2.2.2.1, .int F.2.2.2.2.1, .int F.2.2.2.2.2])), (Lh, .inr (1, [.ref La0, .int L.2])), (La0, .inl ((kC K), 100, .inl L.1))] := hD
    refine lv_aload_n hx hb d_fm_isOf_45 rfl (lv_at hl 0 rfl) ?_
    refine lv_aload_n hx hb d_fm_isOf_46 rfl (lv_at hl 1 rfl) ?_
    have hPc : va_P (kD K) vwCl [(Fh, .inr (0, [.int (r_12 - (1 : Int32)), .int (r_3 + (1 : Int32)), .int F.2.2.1, .int F.2.2.2.1, .int F.2.2.2.2.1, .int F.2.2.2.2.2])), (Lh, .inr (1, [.ref La0, .int L.2])), (La0, .inl ((kC K), 100, .inl L.1))] _ := hP.sub [0, 1, 2] rfl
    have hDc : va_D A [(Fh, .inr (0, [.int (r_12 - (1 : Int32)), .int (r_3 + (1 : Int32)), .int F.2.2.1, .int F.2.2.2.1, .int F.2.2.2.2.1, .int F.2.2.2.2.2])), (Lh, .inr (1, [.ref La0, .int L.2])), (La0, .inl ((kC K), 100, .inl L.1))] := hD.sub [0, 1, 2] (by decide) rfl
    have hFc := va_free (wc := [(Fh, .inr (0, [.int (r_12 - (1 : Int32)), .int (r_3 + (1 : Int32)), .int F.2.2.1, .int F.2.2.2.1, .int F.2.2.2.2.1, .int F.2.2.2.2.2])), (Lh, .inr (1, [.ref La0, .int L.2])), (La0, .inl ((kC K), 100, .inl L.1))]) hD hS hA [0, 1, 2] rfl
    refine va_calli (va_runV (As := [.ref Lh]) (rest := []) ⟨hx, hb, hml, hown, htg⟩ (c_fm_isCastling l K _ Fh (r_12 - (1 : Int32), r_3 + (1 : Int32), F.2.2.1, F.2.2.2.1, F.2.2.2.2.1, F.2.2.2.2.2) Lh La0 L) (cwV 1 htg (g_V q_555 q_557 qs_24 q_5 (g_w q_558)) rfl rfl rfl ⟨rfl, k_fm_isCastling⟩ ⟨Nat.le_of_ble_eq_true rfl, Nat.le_of_ble_eq_true rfl⟩) ⟨mu_blind, va_recv hK hPc (ci := 0) (q0 := 0) rfl rfl, mu_use hPc hK hDc hG hS hFc ⟨(by assumption), trivial⟩⟩ rfl rfl hl.1 rfl (lv_room (Nat.le_of_ble_eq_true rfl)) d_fm_isOf_47 ⟨Nat.zero_le _, Nat.zero_le _⟩) hS (fun q _ h => hFc q h) hFc (fun r_13 u_13 t H1 locs ht hvm hw_13 hB hz1 hk1 hS => ?_)
    obtain ⟨hP1, hD1⟩ := hB
    rw [ht] at hP1
    obtain ⟨hP, hD⟩ := va_join (wr := []) (w1 := [(Fh, .inr (0, [.int u_13.1, .int u_13.2.1, .int u_13.2.2.1, .int u_13.2.2.2.1, .int u_13.2.2.2.2.1, .int u_13.2.2.2.2.2])), (Lh, .inr (1, [.ref La0, .int L.2])), (La0, .inl ((kC K), 100, .inl L.1))]) hP hD [0, 1, 2] [] rfl rfl (by decide) (by decide) hk1 hFc hP1 hD1
    have hP : va_P (kD K) vwCl [(Fh, .inr (0, [.int u_13.1, .int u_13.2.1, .int u_13.2.2.1, .int u_13.2.2.2.1, .int u_13.2.2.2.2.1, .int u_13.2.2.2.2.2])), (Lh, .inr (1, [.ref La0, .int L.2])), (La0, .inl ((kC K), 100, .inl L.1))] H1 := hP.sub [0, 1, 2] rfl
    have hD : va_D A [(Fh, .inr (0, [.int u_13.1, .int u_13.2.1, .int u_13.2.2.1, .int u_13.2.2.2.1, .int u_13.2.2.2.2.1, .int u_13.2.2.2.2.2])), (Lh, .inr (1, [.ref La0, .int L.2])), (La0, .inl ((kC K), 100, .inl L.1))] := hD.sub [0, 1, 2] (by decide) rfl
    generalize H1 = H at hP hS ⊢
    have hF := hF.trans (bnd2_s hw_13.1)
    have hn_13 := hw_13.2.1
    refine lv_if_ne (tgt := 69) hx hb d_fm_isOf_50 (by decide) (fun c_14 => ?_) (fun c_14 => ?_)
    · have hF := hF.trans (if_neg c_14)
      refine lv_iconst (v := 1) hx hb d_fm_isOf_69 (by decide) ?_
      refine lv_goto (tgt := 74) hx hb d_fm_isOf_70 (by decide) ?_
      exact W.zret (v := (1 : Int32)) hx hb hr (rfl) (fun t ht hW => ⟨⟨(1 : Int32), u_13, rfl, ⟨hF, rfl, trivial⟩, ⟨by rw [ht]; exact hP, hD⟩⟩, hS.F ht⟩) hS.2.2 d_fm_isOf_74
    · have hF := hF.trans (if_pos c_14)
      refine lv_aload_n hx hb d_fm_isOf_53 rfl (lv_at hl 0 rfl) ?_
      refine lv_aload_n hx hb d_fm_isOf_54 rfl (lv_at hl 1 rfl) ?_
      have hPc : va_P (kD K) vwCl [(Fh, .inr (0, [.int u_13.1, .int u_13.2.1, .int u_13.2.2.1, .int u_13.2.2.2.1, .int u_13.2.2.2.2.1, .int u_13.2.2.2.2.2])), (Lh, .inr (1, [.ref La0, .int L.2])), (La0, .inl ((kC K), 100, .inl L.1))] _ := hP.sub [0, 1, 2] rfl
      have hDc : va_D A [(Fh, .inr (0, [.int u_13.1, .int u_13.2.1, .int u_13.2.2.1, .int u_13.2.2.2.1, .int u_13.2.2.2.2.1, .int u_13.2.2.2.2.2])), (Lh, .inr (1, [.ref La0, .int L.2])), (La0, .inl ((kC K), 100, .inl L.1))] := hD.sub [0, 1, 2] (by decide) rfl
      have hFc := va_free (wc := [(Fh, .inr (0, [.int u_13.1, .int u_13.2.1, .int u_13.2.2.1, .int u_13.2.2.2.1, .int u_13.2.2.2.2.1, .int u_13.2.2.2.2.2])), (Lh, .inr (1, [.ref La0, .int L.2])), (La0, .inl ((kC K), 100, .inl L.1))]) hD hS hA [0, 1, 2] rfl
      refine va_calli (va_runV (As := [.ref Lh]) (rest := []) ⟨hx, hb, hml, hown, htg⟩ (c_fm_isManMove l K _ Fh u_13 Lh La0 L) (cwV 1 htg (g_V q_568 q_570 qs_25 q_5 (g_w q_571)) rfl rfl rfl ⟨rfl, k_fm_isManMove⟩ ⟨Nat.le_of_ble_eq_true rfl, Nat.le_of_ble_eq_true rfl⟩) ⟨mu_blind, va_recv hK hPc (ci := 0) (q0 := 0) rfl rfl, mu_use hPc hK hDc hG hS hFc ⟨(by assumption), trivial⟩⟩ rfl rfl hl.1 rfl (lv_room (Nat.le_of_ble_eq_true rfl)) d_fm_isOf_55 ⟨Nat.zero_le _, Nat.zero_le _⟩) hS (fun q _ h => hFc q h) hFc (fun r_15 u_15 t H1 locs ht hvm hw_15 hB hz1 hk1 hS => ?_)
      obtain ⟨hP1, hD1⟩ := hB
      rw [ht] at hP1
      obtain ⟨hP, hD⟩ := va_join (wr := []) (w1 := [(Fh, .inr (0, [.int u_15.1, .int u_15.2.1, .int u_15.2.2.1, .int u_15.2.2.2.1, .int u_15.2.2.2.2.1, .int u_15.2.2.2.2.2])), (Lh, .inr (1, [.ref La0, .int L.2])), (La0, .inl ((kC K), 100, .inl L.1))]) hP hD [0, 1, 2] [] rfl rfl (by decide) (by decide) hk1 hFc hP1 hD1
      have hP : va_P (kD K) vwCl [(Fh, .inr (0, [.int u_15.1, .int u_15.2.1, .int u_15.2.2.1, .int u_15.2.2.2.1, .int u_15.2.2.2.2.1, .int u_15.2.2.2.2.2])), (Lh, .inr (1, [.ref La0, .int L.2])), (La0, .inl ((kC K), 100, .inl L.1))] H1 := hP.sub [0, 1, 2] rfl
      have hD : va_D A [(Fh, .inr (0, [.int u_15.1, .int u_15.2.1, .int u_15.2.2.1, .int u_15.2.2.2.1, .int u_15.2.2.2.2.1, .int u_15.2.2.2.2.2])), (Lh, .inr (1, [.ref La0, .int L.2])), (La0, .inl ((kC K), 100, .inl L.1))] := hD.sub [0, 1, 2] (by decide) rfl
      generalize H1 = H at hP hS ⊢
      have hF := hF.trans (bnd2_s hw_15.1)
      have hn_15 := hw_15.2.1
      refine lv_if_ne (tgt := 69) hx hb d_fm_isOf_58 (by decide) (fun c_16 => ?_) (fun c_16 => ?_)
      · have hF := hF.trans (if_neg c_16)
        refine lv_iconst (v := 1) hx hb d_fm_isOf_69 (by decide) ?_
        refine lv_goto (tgt := 74) hx hb d_fm_isOf_70 (by decide) ?_
        exact W.zret (v := (1 : Int32)) hx hb hr (rfl) (fun t ht hW => ⟨⟨(1 : Int32), u_15, rfl, ⟨hF, rfl, trivial⟩, ⟨by rw [ht]; exact hP, hD⟩⟩, hS.F ht⟩) hS.2.2 d_fm_isOf_74
      · have hF := hF.trans (if_pos c_16)
        refine lv_aload_n hx hb d_fm_isOf_61 rfl (lv_at hl 0 rfl) ?_
        refine lv_aload_n hx hb d_fm_isOf_62 rfl (lv_at hl 1 rfl) ?_
        have hPc : va_P (kD K) vwCl [(Fh, .inr (0, [.int u_15.1, .int u_15.2.1, .int u_15.2.2.1, .int u_15.2.2.2.1, .int u_15.2.2.2.2.1, .int u_15.2.2.2.2.2])), (Lh, .inr (1, [.ref La0, .int L.2])), (La0, .inl ((kC K), 100, .inl L.1))] _ := hP.sub [0, 1, 2] rfl
        have hDc : va_D A [(Fh, .inr (0, [.int u_15.1, .int u_15.2.1, .int u_15.2.2.1, .int u_15.2.2.2.1, .int u_15.2.2.2.2.1, .int u_15.2.2.2.2.2])), (Lh, .inr (1, [.ref La0, .int L.2])), (La0, .inl ((kC K), 100, .inl L.1))] := hD.sub [0, 1, 2] (by decide) rfl
        have hFc := va_free (wc := [(Fh, .inr (0, [.int u_15.1, .int u_15.2.1, .int u_15.2.2.1, .int u_15.2.2.2.1, .int u_15.2.2.2.2.1, .int u_15.2.2.2.2.2])), (Lh, .inr (1, [.ref La0, .int L.2])), (La0, .inl ((kC K), 100, .inl L.1))]) hD hS hA [0, 1, 2] rfl
        refine va_calli (va_runV (As := [.ref Lh]) (rest := []) ⟨hx, hb, hml, hown, htg⟩ (c_fm_isPawnMove l K _ Fh u_15 Lh La0 L) (cwV 1 htg (g_V q_585 q_587 qs_26 q_5 (g_w q_588)) rfl rfl rfl ⟨rfl, k_fm_isPawnMove⟩ ⟨Nat.le_of_ble_eq_true rfl, Nat.le_of_ble_eq_true rfl⟩) ⟨mu_blind, va_recv hK hPc (ci := 0) (q0 := 0) rfl rfl, mu_use hPc hK hDc hG hS hFc ⟨(by assumption), trivial⟩⟩ rfl rfl hl.1 rfl (lv_room (Nat.le_of_ble_eq_true rfl)) d_fm_isOf_63 ⟨Nat.zero_le _, Nat.zero_le _⟩) hS (fun q _ h => hFc q h) hFc (fun r_17 u_17 t H1 locs ht hvm hw_17 hB hz1 hk1 hS => ?_)
        obtain ⟨hP1, hD1⟩ := hB
        rw [ht] at hP1
        obtain ⟨hP, hD⟩ := va_join (wr := []) (w1 := [(Fh, .inr (0, [.int u_17.1, .int u_17.2.1, .int u_17.2.2.1, .int u_17.2.2.2.1, .int u_17.2.2.2.2.1, .int u_17.2.2.2.2.2])), (Lh, .inr (1, [.ref La0, .int L.2])), (La0, .inl ((kC K), 100, .inl L.1))]) hP hD [0, 1, 2] [] rfl rfl (by decide) (by decide) hk1 hFc hP1 hD1
        have hP : va_P (kD K) vwCl [(Fh, .inr (0, [.int u_17.1, .int u_17.2.1, .int u_17.2.2.1, .int u_17.2.2.2.1, .int u_17.2.2.2.2.1, .int u_17.2.2.2.2.2])), (Lh, .inr (1, [.ref La0, .int L.2])), (La0, .inl ((kC K), 100, .inl L.1))] H1 := hP.sub [0, 1, 2] rfl
        have hD : va_D A [(Fh, .inr (0, [.int u_17.1, .int u_17.2.1, .int u_17.2.2.1, .int u_17.2.2.2.1, .int u_17.2.2.2.2.1, .int u_17.2.2.2.2.2])), (Lh, .inr (1, [.ref La0, .int L.2])), (La0, .inl ((kC K), 100, .inl L.1))] := hD.sub [0, 1, 2] (by decide) rfl
        generalize H1 = H at hP hS ⊢
        have hF := hF.trans (bnd2_s hw_17.1)
        have hn_17 := hw_17.2.1
        refine lv_if_eq (tgt := 73) hx hb d_fm_isOf_66 (by decide) (fun c_18 => ?_) (fun c_18 => ?_)
        · have hF := hF.trans (if_pos c_18)
          refine lv_iconst (v := 0) hx hb d_fm_isOf_73 (by decide) ?_
          exact W.zret (v := (0 : Int32)) hx hb hr (rfl) (fun t ht hW => ⟨⟨(0 : Int32), u_17, rfl, ⟨hF, rfl, trivial⟩, ⟨by rw [ht]; exact hP, hD⟩⟩, hS.F ht⟩) hS.2.2 d_fm_isOf_74
        · have hF := hF.trans (if_neg c_18)
          refine lv_iconst (v := 1) hx hb d_fm_isOf_69 (by decide) ?_
          refine lv_goto (tgt := 74) hx hb d_fm_isOf_70 (by decide) ?_
          exact W.zret (v := (1 : Int32)) hx hb hr (rfl) (fun t ht hW => ⟨⟨(1 : Int32), u_17, rfl, ⟨hF, rfl, trivial⟩, ⟨by rw [ht]; exact hP, hD⟩⟩, hS.F ht⟩) hS.2.2 d_fm_isOf_74
def f_fm_fits (F : FmT) (mv : Int32) (P : PsT) : Int32 := (bnd (f_gn_castlingOf mv P) (fun r_1 => (if F.2.2.1 = 0 then (if r_1 = 0 then (bnd (f_gn_fromOf mv) (fun r_5 => (bnd (f_ps_manOn P r_5) (fun r_6 => (bnd (f_gn_kindOf r_6) (fun r_7 => (if r_7 = F.2.2.2.1 then (bnd (f_gn_toOf mv) (fun r_9 => (if r_9 = F.2.2.2.2.1 then (bnd (f_gn_becomesOf mv) (fun r_11 => (if r_11 = F.2.2.2.2.2 then (1 : Int32) else (0 : Int32)))) else (0 : Int32)))) else (0 : Int32)))))))) else (if F.2.2.1 = r_1 then (1 : Int32) else (0 : Int32))) else (if F.2.2.1 = r_1 then (1 : Int32) else (0 : Int32)))))
set_option maxHeartbeats 4000000 in
set_option maxRecDepth 100000 in
theorem c_fm_fits (l : Launch) (K : KT) (Fh : Nat) (F : FmT) (mv : Int32) (Ph Pa0 : Nat) (P : PsT) : Met l y_fm_fits w_fm_fits ({ frames := 2, cells := 0, slots := 0, locals := 43 } : Room) (va_Pc [.ref Fh, .int mv, .ref Ph] (fun U => pRO K [(Fh, .inr (0, [.int F.1, .int F.2.1, .int F.2.2.1, .int F.2.2.2.1, .int F.2.2.2.2.1, .int F.2.2.2.2.2])), (Ph, .inr (2, [.ref Pa0, .int P.2.1, .int P.2.2.1, .int P.2.2.2.1, .int P.2.2.2.2.1, .int P.2.2.2.2.2])), (Pa0, .inl ((kI K), 64, .inl P.1))] U ∧ True)) (vp_Si (fun r => f_fm_fits F mv P = r ∧ narrow .boolean (.int r) = .int r)) 0 0 (fun _ => False) := by
  refine Met.ofW (cc := b_fm_fits) (maxL := 4) (ret := (some .boolean)) (by decide) rfl ?_
  intro p e s m args below meth c s₁ B hml hv
  obtain ⟨rfl, ⟨hP, hK, hG⟩, -⟩ := hv
  have hx := B.exec
  have hb := B.bytes
  have hr := B.returns
  have hts := atoms_spec (ws := w_fm_fits) B.pre
  have hown : s.vm.findClass R_fm = some m.cls := findClass_of_methodNamed B.named
  have hlocks := B.notSynchronized
  have htg := fun w h => hts w (List.mem_cons_of_mem _ h)
  have hS : va_S (fun _ => False) s.heap s.heap [] := va_S.rf
  have hl := lv_entry ([.ref Fh, .int mv, .ref Ph]) (n := 4) (Nat.le_of_ble_eq_true rfl)
  rw [lg_entry_eq]
  generalize (lg_sl ([.ref Fh, .int mv, .ref Ph]) ++ List.replicate (4 - (lg_sl ([.ref Fh, .int mv, .ref Ph])).length) Slot.unset).toArray = ls at hl ⊢
  have hl : lv_has ls 4 [(0, .ref Fh), (1, .int mv), (2, .ref Ph)] := hl
  have hF := f_fm_fits.eq_1 F mv P
  refine lv_iload_n hx hb d_fm_fits_0 rfl (lv_at hl 1 rfl) ?_
  refine lv_aload_n hx hb d_fm_fits_1 rfl (lv_at hl 2 rfl) ?_
  have hPc : va_P (kD K) vwCl [(Ph, .inr (2, [.ref Pa0, .int P.2.1, .int P.2.2.1, .int P.2.2.2.1, .int P.2.2.2.2.1, .int P.2.2.2.2.2])), (Pa0, .inl ((kI K), 64, .inl P.1))] _ := hP.sub [1, 2] rfl
  refine vp_callSi (va_Run.run (va_runSN (As := [.int mv, .ref Ph]) (rest := []) ⟨hx, hb, hml, hown, htg⟩ (c_gn_castlingOf l K mv Ph Pa0 P) (⟨va_cnB 2 htg (g_w q_612) rfl rfl rfl (hG.nw 32 rfl) (htg _ q_1) k_gn_castlingOf ⟨Nat.le_of_ble_eq_true rfl, Nat.le_of_ble_eq_true rfl⟩, htg _ q_611, trivial⟩) ⟨ro_blind, ro_use hPc hK hG hS trivial⟩ rfl rfl hl.1 rfl (lv_room (Nat.le_of_ble_eq_true rfl)) d_fm_fits_2 ⟨Nat.zero_le _, Nat.zero_le _⟩)) (fun r_1 hw_1 => ?_)
  have hF := hF.trans (bnd_s hw_1.1)
  refine lv_istore_n (lv' := [(3, .int r_1), (0, .ref Fh), (1, .int mv), (2, .ref Ph)]) hx hb d_fm_fits_5 rfl hl (by decide) rfl (fun ls hl => ?_)
  refine lv_aload_n hx hb d_fm_fits_6 rfl (lv_at hl 1 rfl) ?_
  refine va_get (D := kD K) (ci := 0) (v := .int F.2.2.1) (C := R_fm) (T := T_fm) (N := 6) hx hb htg in_fm hown hK hP 0 rfl rfl 2 (by decide) (htg (.fieldLink R_fm 50 "GameNotation$Form" "castling" "I") q_76) (fun _ h9 => h9) rfl d_fm_fits_7 ?_
  refine lv_if_ne (tgt := 17) hx hb d_fm_fits_10 (by decide) (fun c_2 => ?_) (fun c_2 => ?_)
  · have hF := hF.trans (if_neg c_2)
    refine lv_aload_n hx hb d_fm_fits_17 rfl (lv_at hl 1 rfl) ?_
    refine va_get (D := kD K) (ci := 0) (v := .int F.2.2.1) (C := R_fm) (T := T_fm) (N := 6) hx hb htg in_fm hown hK hP 0 rfl rfl 2 (by decide) (htg (.fieldLink R_fm 50 "GameNotation$Form" "castling" "I") q_76) (fun _ h9 => h9) rfl d_fm_fits_18 ?_
    refine lv_iload_n hx hb d_fm_fits_21 rfl (lv_at hl 0 rfl) ?_
    refine lv_icmp_ne (tgt := 29) hx hb d_fm_fits_22 (by decide) (fun c_3 => ?_) (fun c_3 => ?_)
    · have hF := hF.trans (if_neg c_3)
      refine lv_iconst (v := 0) hx hb d_fm_fits_29 (by decide) ?_
      exact W.zret (v := (0 : Int32)) hx hb hr (rfl) (fun t ht hW => ⟨_, rfl, ⟨hF, rfl⟩, ht⟩) hS.2.2 d_fm_fits_30
    · have hF := hF.trans (if_pos c_3)
      refine lv_iconst (v := 1) hx hb d_fm_fits_25 (by decide) ?_
      refine lv_goto (tgt := 30) hx hb d_fm_fits_26 (by decide) ?_
      exact W.zret (v := (1 : Int32)) hx hb hr (rfl) (fun t ht hW => ⟨_, rfl, ⟨hF, rfl⟩, ht⟩) hS.2.2 d_fm_fits_30
  · have hF := hF.trans (if_pos c_2)
    refine lv_iload_n hx hb d_fm_fits_13 rfl (lv_at hl 0 rfl) ?_
    refine lv_if_eq (tgt := 31) hx hb d_fm_fits_14 (by decide) (fun c_4 => ?_) (fun c_4 => ?_)
    · have hF := hF.trans (if_pos c_4)
      refine lv_aload_n hx hb d_fm_fits_31 rfl (lv_at hl 3 rfl) ?_
      refine lv_iload_n hx hb d_fm_fits_32 rfl (lv_at hl 2 rfl) ?_
      have hPc : va_P (kD K) vwCl [] _ := hP.sub [] rfl
      refine vp_callSi (va_Run.run (va_runSN (As := [.int mv]) (rest := [.ref Ph]) ⟨hx, hb, hml, hown, htg⟩ (c_gn_fromOf l K mv) (⟨va_cnB 1 htg (g_w q_526) rfl rfl rfl (hG.nw 33 rfl) (htg _ q_1) k_gn_fromOf ⟨Nat.le_of_ble_eq_true rfl, Nat.le_of_ble_eq_true rfl⟩, htg _ q_525, trivial⟩) ⟨ro_blind, ro_use hPc hK hG hS trivial⟩ rfl rfl hl.1 rfl (lv_room (Nat.le_of_ble_eq_true rfl)) d_fm_fits_33 ⟨Nat.zero_le _, Nat.zero_le _⟩)) (fun r_5 hw_5 => ?_)
      have hF := hF.trans (bnd_s hw_5.1)
      have hPc : va_P (kD K) vwCl [(Ph, .inr (2, [.ref Pa0, .int P.2.1, .int P.2.2.1, .int P.2.2.2.1, .int P.2.2.2.2.1, .int P.2.2.2.2.2])), (Pa0, .inl ((kI K), 64, .inl P.1))] _ := hP.sub [1, 2] rfl
      refine vp_callSi (va_Run.run (va_runV (As := [.int r_5]) (rest := []) ⟨hx, hb, hml, hown, htg⟩ (c_ps_manOn l K Ph Pa0 P r_5) (cwV 1 htg (g_V q_615 q_508 q_509 q_6 (g_w q_510)) rfl rfl rfl ⟨rfl, k_ps_manOn⟩ ⟨Nat.le_of_ble_eq_true rfl, Nat.le_of_ble_eq_true rfl⟩) ⟨ro_blind, va_recv hK hPc (ci := 2) (q0 := 0) rfl rfl, ro_use hPc hK hG hS trivial⟩ rfl rfl hl.1 rfl (lv_room (Nat.le_of_ble_eq_true rfl)) d_fm_fits_36 ⟨Nat.zero_le _, Nat.zero_le _⟩)) (fun r_6 hw_6 => ?_)
      have hF := hF.trans (bnd_s hw_6.1)
      have hPc : va_P (kD K) vwCl [] _ := hP.sub [] rfl
      refine vp_callSi (va_Run.run (va_runSN (As := [.int r_6]) (rest := []) ⟨hx, hb, hml, hown, htg⟩ (c_gn_kindOf l K r_6) (⟨va_cnB 1 htg (g_w q_375) rfl rfl rfl (hG.nw 34 rfl) (htg _ q_1) k_gn_kindOf ⟨Nat.le_of_ble_eq_true rfl, Nat.le_of_ble_eq_true rfl⟩, htg _ q_374, trivial⟩) ⟨ro_blind, ro_use hPc hK hG hS trivial⟩ rfl rfl hl.1 rfl (lv_room (Nat.le_of_ble_eq_true rfl)) d_fm_fits_39 ⟨Nat.zero_le _, Nat.zero_le _⟩)) (fun r_7 hw_7 => ?_)
      have hF := hF.trans (bnd_s hw_7.1)
      refine lv_aload_n hx hb d_fm_fits_42 rfl (lv_at hl 1 rfl) ?_
      refine va_get (D := kD K) (ci := 0) (v := .int F.2.2.2.1) (C := R_fm) (T := T_fm) (N := 6) hx hb htg in_fm hown hK hP 0 rfl rfl 3 (by decide) (htg (.fieldLink R_fm 64 "GameNotation$Form" "kind" "I") q_77) (fun _ h9 => h9) rfl d_fm_fits_43 ?_
      refine lv_icmp_ne (tgt := 75) hx hb d_fm_fits_46 (by decide) (fun c_8 => ?_) (fun c_8 => ?_)
      · have hF := hF.trans (if_neg c_8)
        refine lv_iconst (v := 0) hx hb d_fm_fits_75 (by decide) ?_
        exact W.zret (v := (0 : Int32)) hx hb hr (rfl) (fun t ht hW => ⟨_, rfl, ⟨hF, rfl⟩, ht⟩) hS.2.2 d_fm_fits_76
      · have hF := hF.trans (if_pos c_8)
        refine lv_iload_n hx hb d_fm_fits_49 rfl (lv_at hl 2 rfl) ?_
        have hPc : va_P (kD K) vwCl [] _ := hP.sub [] rfl
        refine vp_callSi (va_Run.run (va_runSN (As := [.int mv]) (rest := []) ⟨hx, hb, hml, hown, htg⟩ (c_gn_toOf l K mv) (⟨va_cnB 1 htg (g_w q_529) rfl rfl rfl (hG.nw 35 rfl) (htg _ q_1) k_gn_toOf ⟨Nat.le_of_ble_eq_true rfl, Nat.le_of_ble_eq_true rfl⟩, htg _ q_528, trivial⟩) ⟨ro_blind, ro_use hPc hK hG hS trivial⟩ rfl rfl hl.1 rfl (lv_room (Nat.le_of_ble_eq_true rfl)) d_fm_fits_50 ⟨Nat.zero_le _, Nat.zero_le _⟩)) (fun r_9 hw_9 => ?_)
        have hF := hF.trans (bnd_s hw_9.1)
        refine lv_aload_n hx hb d_fm_fits_53 rfl (lv_at hl 1 rfl) ?_
        refine va_get (D := kD K) (ci := 0) (v := .int F.2.2.2.2.1) (C := R_fm) (T := T_fm) (N := 6) hx hb htg in_fm hown hK hP 0 rfl rfl 4 (by decide) (htg (.fieldLink R_fm 70 "GameNotation$Form" "target" "I") q_78) (fun _ h9 => h9) rfl d_fm_fits_54 ?_
        refine lv_icmp_ne (tgt := 75) hx hb d_fm_fits_57 (by decide) (fun c_10 => ?_) (fun c_10 => ?_)
        · have hF := hF.trans (if_neg c_10)
          refine lv_iconst (v := 0) hx hb d_fm_fits_75 (by decide) ?_
          exact W.zret (v := (0 : Int32)) hx hb hr (rfl) (fun t ht hW => ⟨_, rfl, ⟨hF, rfl⟩, ht⟩) hS.2.2 d_fm_fits_76
        · have hF := hF.trans (if_pos c_10)
          refine lv_iload_n hx hb d_fm_fits_60 rfl (lv_at hl 2 rfl) ?_
          have hPc : va_P (kD K) vwCl [] _ := hP.sub [] rfl
          refine vp_callSi (va_Run.run (va_runSN (As := [.int mv]) (rest := []) ⟨hx, hb, hml, hown, htg⟩ (c_gn_becomesOf l K mv) (⟨va_cnB 1 htg (g_w q_520) rfl rfl rfl (hG.nw 36 rfl) (htg _ q_1) k_gn_becomesOf ⟨Nat.le_of_ble_eq_true rfl, Nat.le_of_ble_eq_true rfl⟩, htg _ q_519, trivial⟩) ⟨ro_blind, ro_use hPc hK hG hS trivial⟩ rfl rfl hl.1 rfl (lv_room (Nat.le_of_ble_eq_true rfl)) d_fm_fits_61 ⟨Nat.zero_le _, Nat.zero_le _⟩)) (fun r_11 hw_11 => ?_)
          have hF := hF.trans (bnd_s hw_11.1)
          refine lv_aload_n hx hb d_fm_fits_64 rfl (lv_at hl 1 rfl) ?_
          refine va_get (D := kD K) (ci := 0) (v := .int F.2.2.2.2.2) (C := R_fm) (T := T_fm) (N := 6) hx hb htg in_fm hown hK hP 0 rfl rfl 5 (by decide) (htg (.fieldLink R_fm 76 "GameNotation$Form" "becomes" "I") q_79) (fun _ h9 => h9) rfl d_fm_fits_65 ?_
          refine lv_icmp_ne (tgt := 75) hx hb d_fm_fits_68 (by decide) (fun c_12 => ?_) (fun c_12 => ?_)
          · have hF := hF.trans (if_neg c_12)
            refine lv_iconst (v := 0) hx hb d_fm_fits_75 (by decide) ?_
            exact W.zret (v := (0 : Int32)) hx hb hr (rfl) (fun t ht hW => ⟨_, rfl, ⟨hF, rfl⟩, ht⟩) hS.2.2 d_fm_fits_76
          · have hF := hF.trans (if_pos c_12)
            refine lv_iconst (v := 1) hx hb d_fm_fits_71 (by decide) ?_
            refine lv_goto (tgt := 76) hx hb d_fm_fits_72 (by decide) ?_
            exact W.zret (v := (1 : Int32)) hx hb hr (rfl) (fun t ht hW => ⟨_, rfl, ⟨hF, rfl⟩, ht⟩) hS.2.2 d_fm_fits_76
    · have hF := hF.trans (if_neg c_4)
      refine lv_aload_n hx hb d_fm_fits_17 rfl (lv_at hl 1 rfl) ?_
      refine va_get (D := kD K) (ci := 0) (v := .int F.2.2.1) (C := R_fm) (T := T_fm) (N := 6) hx hb htg in_fm hown hK hP 0 rfl rfl 2 (by decide) (htg (.fieldLink R_fm 50 "GameNotation$Form" "castling" "I") q_76) (fun _ h9 => h9) rfl d_fm_fits_18 ?_
      refine lv_iload_n hx hb d_fm_fits_21 rfl (lv_at hl 0 rfl) ?_
      refine lv_icmp_ne (tgt := 29) hx hb d_fm_fits_22 (by decide) (fun c_13 => ?_) (fun c_13 => ?_)
      · have hF := hF.trans (if_neg c_13)
        refine lv_iconst (v := 0) hx hb d_fm_fits_29 (by decide) ?_
        exact W.zret (v := (0 : Int32)) hx hb hr (rfl) (fun t ht hW => ⟨_, rfl, ⟨hF, rfl⟩, ht⟩) hS.2.2 d_fm_fits_30
      · have hF := hF.trans (if_pos c_13)
        refine lv_iconst (v := 1) hx hb d_fm_fits_25 (by decide) ?_
        refine lv_goto (tgt := 30) hx hb d_fm_fits_26 (by decide) ?_
        exact W.zret (v := (1 : Int32)) hx hb hr (rfl) (fun t ht hW => ⟨_, rfl, ⟨hF, rfl⟩, ht⟩) hS.2.2 d_fm_fits_30
