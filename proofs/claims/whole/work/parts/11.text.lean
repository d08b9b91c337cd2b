def f_st_isLatin1 (tx : Nat) : Int32 := (1 : Int32)
set_option maxHeartbeats 4000000 in
set_option maxRecDepth 100000 in
theorem c_st_isLatin1 (l : Launch) (K : KT) (tx : Nat) : Met l y_st_isLatin1 w_st_isLatin1 ({ frames := 0, cells := 0, slots := 0, locals := 0 } : Room) (va_Pc [.ref (kK K tx)] (fun U => pRO K [] U ∧ tx < nSTR ∧ True)) (vp_Si (fun r => f_st_isLatin1 tx = r ∧ narrow .boolean (.int r) = .int r)) 0 0 (fun _ => False) := by
  refine va_MetF (cc := b_st_isLatin1) (maxL := 1) (ret := (some .boolean)) (by decide) rfl ?_
  intro p e s m args below meth c s₁ B hml hv
  obtain ⟨rfl, ⟨hP, hK, hG⟩, h_tx, -⟩ := hv
  have hx := B.exec
  have hb := B.bytes
  have hr := B.returns
  have hts := atoms_spec (ws := w_st_isLatin1) B.pre
  have hown : s.vm.findClass R_st = some m.cls := findClass_of_methodNamed B.named
  have hlocks := B.notSynchronized
  have htg := fun w h => hts w (List.mem_cons_of_mem _ h)
  have hS : va_S (fun _ => False) s.heap s.heap [] := va_S.rf
  have hl := lv_entry ([.ref (kK K tx)]) (n := 1) (Nat.le_of_ble_eq_true rfl)
  rw [lg_entry_eq]
  generalize (lg_sl ([.ref (kK K tx)]) ++ List.replicate (1 - (lg_sl ([.ref (kK K tx)])).length) Slot.unset).toArray = ls at hl ⊢
  have hl : lv_has ls 1 [(0, .ref (kK K tx))] := hl
  have hF := f_st_isLatin1.eq_1 tx
  refine va_gets hx hb hG.cs hS hown (htg (.fieldLink R_st 38 "java/lang/String" "COMPACT_STRINGS" "Z") q_215) (fun _ h9 => h9) d_st_isLatin1_0 ?_
  refine lv_if_eq (tgt := 17) hx hb d_st_isLatin1_3 (by decide) (fun c => False.elim (by revert c; decide)) (fun _ => ?_)
  refine lv_aload_n hx hb d_st_isLatin1_6 rfl (lv_at hl 0 rfl) ?_
  refine vk_getf hx hb (hG.str.1 tx h_tx).2.1 hS hown (htg (.fieldLink R_st 15 "java/lang/String" "coder" "B") q_1085) (fun _ h9 => h9) d_st_isLatin1_7 ?_
  refine lv_if_ne (tgt := 17) hx hb d_st_isLatin1_10 (by decide) (fun c => False.elim (by revert c; decide)) (fun _ => ?_)
  refine lv_iconst (v := 1) hx hb d_st_isLatin1_13 (by decide) ?_
  refine lv_goto (tgt := 18) hx hb d_st_isLatin1_14 (by decide) ?_
  exact W.zret (v := (1 : Int32)) hx hb hr (rfl) (fun t ht hW => ⟨_, rfl, ⟨hF, rfl⟩, ht⟩) hS.2.2 d_st_isLatin1_18
def f_st_coder (tx : Nat) : Int32 := (0 : Int32)
set_option maxHeartbeats 4000000 in
set_option maxRecDepth 100000 in
theorem c_st_coder (l : Launch) (K : KT) (tx : Nat) : Met l y_st_coder w_st_coder ({ frames := 0, cells := 0, slots := 0, locals := 0 } : Room) (va_Pc [.ref (kK K tx)] (fun U => pRO K [] U ∧ tx < nSTR ∧ True)) (vp_Si (fun r => f_st_coder tx = r ∧ narrow .byte (.int r) = .int r)) 0 0 (fun _ => False) := by
  refine va_MetF (cc := b_st_coder) (maxL := 1) (ret := (some .byte)) (by decide) rfl ?_
  intro p e s m args below meth c s₁ B hml hv
  obtain ⟨rfl, ⟨hP, hK, hG⟩, h_tx, -⟩ := hv
  have hx := B.exec
  have hb := B.bytes
  have hr := B.returns
  have hts := atoms_spec (ws := w_st_coder) B.pre
  have hown : s.vm.findClass R_st = some m.cls := findClass_of_methodNamed B.named
  have hlocks := B.notSynchronized
  have htg := fun w h => hts w (List.mem_cons_of_mem _ h)
  have hS : va_S (fun _ => False) s.heap s.heap [] := va_S.rf
  have hl := lv_entry ([.ref (kK K tx)]) (n := 1) (Nat.le_of_ble_eq_true rfl)
  rw [lg_entry_eq]
  generalize (lg_sl ([.ref (kK K tx)]) ++ List.replicate (1 - (lg_sl ([.ref (kK K tx)])).length) Slot.unset).toArray = ls at hl ⊢
  have hl : lv_has ls 1 [(0, .ref (kK K tx))] := hl
  have hF := f_st_coder.eq_1 tx
  refine va_gets hx hb hG.cs hS hown (htg (.fieldLink R_st 38 "java/lang/String" "COMPACT_STRINGS" "Z") q_215) (fun _ h9 => h9) d_st_coder_0 ?_
  refine lv_if_eq (tgt := 13) hx hb d_st_coder_3 (by decide) (fun c => False.elim (by revert c; decide)) (fun _ => ?_)
  refine lv_aload_n hx hb d_st_coder_6 rfl (lv_at hl 0 rfl) ?_
  refine vk_getf hx hb (hG.str.1 tx h_tx).2.1 hS hown (htg (.fieldLink R_st 15 "java/lang/String" "coder" "B") q_1085) (fun _ h9 => h9) d_st_coder_7 ?_
  refine lv_goto (tgt := 14) hx hb d_st_coder_10 (by decide) ?_
  exact W.zret (v := (0 : Int32)) hx hb hr (rfl) (fun t ht hW => ⟨_, rfl, ⟨hF, rfl⟩, ht⟩) hS.2.2 d_st_coder_14
def f_st_length (tx : Nat) : Int32 := ((Int32.ofNat (sLn tx)) >>> ((0 : Int32) &&& 31))
theorem st_len {tx : Nat} {r : Int32} {Q : Prop} (w : f_st_length tx = r ∧ Q) : r = nI (sLn tx) := by
  rw [← w.1]
  show nI (sLn tx) >>> ((0 : Int32) &&& 31) = nI (sLn tx)
  exact sb_shr0 _
theorem sx_le {tx : Nat} {r : Int32} {Q : Prop} (h : tx < nSTR) (w : f_st_length tx = r ∧ Q) : r.toInt ≤ 100 := by
  rw [st_len w, nI_toInt (by have := sx_L h; omega)]
  have := sx_L h; omega
theorem sx_in {tx : Nat} {ix r : Int32} {Q : Prop} (h : tx < nSTR) (c1 : ¬ ix < 0) (w : f_st_length tx = r ∧ Q) (c2 : ¬ r ≤ ix) : vp_in ix (sLn tx) := by
  have h0 : (0 : Int32).toInt = 0 := by decide
  have a := i_nlt c1
  have b := i_nle c2
  rw [st_len w, nI_toInt (by have := sx_L h; omega)] at b
  exact vp_in_iff.mpr ⟨by omega, b⟩
theorem sx_in2 {tx : Nat} {ix r : Int32} {Q : Prop} (h : tx < nSTR) (c1 : 0 ≤ ix.toInt) (w : f_st_length tx = r ∧ Q) (c2 : ¬ r ≤ ix) : vp_in ix (sLn tx) := by
  have b := i_nle c2
  rw [st_len w, nI_toInt (by have := sx_L h; omega)] at b
  exact vp_in_iff.mpr ⟨c1, b⟩
set_option maxHeartbeats 4000000 in
set_option maxRecDepth 100000 in
theorem c_st_length (l : Launch) (K : KT) (tx : Nat) : Met l y_st_length w_st_length ({ frames := 1, cells := 0, slots := 0, locals := 20 } : Room) (va_Pc [.ref (kK K tx)] (fun U => pRO K [] U ∧ tx < nSTR ∧ True)) (vp_Si (fun r => f_st_length tx = r ∧ True)) 0 0 (fun _ => False) := by
  refine va_MetF (cc := b_st_length) (maxL := 1) (ret := (some .int)) (by decide) rfl ?_
  intro p e s m args below meth c s₁ B hml hv
  obtain ⟨rfl, ⟨hP, hK, hG⟩, h_tx, -⟩ := hv
  have hx := B.exec
  have hb := B.bytes
  have hr := B.returns
  have hts := atoms_spec (ws := w_st_length) B.pre
  have hown : s.vm.findClass R_st = some m.cls := findClass_of_methodNamed B.named
  have hlocks := B.notSynchronized
  have htg := fun w h => hts w (List.mem_cons_of_mem _ h)
  have hS : va_S (fun _ => False) s.heap s.heap [] := va_S.rf
  have hl := lv_entry ([.ref (kK K tx)]) (n := 1) (Nat.le_of_ble_eq_true rfl)
  rw [lg_entry_eq]
  generalize (lg_sl ([.ref (kK K tx)]) ++ List.replicate (1 - (lg_sl ([.ref (kK K tx)])).length) Slot.unset).toArray = ls at hl ⊢
  have hl : lv_has ls 1 [(0, .ref (kK K tx))] := hl
  have hF := f_st_length.eq_1 tx
  refine lv_aload_n hx hb d_st_length_0 rfl (lv_at hl 0 rfl) ?_
  refine vk_getf hx hb (hG.str.1 tx h_tx).2.2.1 hS hown (htg (.fieldLink R_st 9 "java/lang/String" "value" "[B") q_1086) (fun _ h9 => h9) d_st_length_1 ?_
  refine va_tlen hx hb (hG.str.1 tx h_tx).2.2.2 hS rfl d_st_length_4 ?_
  refine lv_aload_n hx hb d_st_length_5 rfl (lv_at hl 0 rfl) ?_
  have hPc : va_P (kD K) vwCl [] _ := hP.sub [] rfl
  refine vp_callSi (va_Run.run (va_runV (As := []) (rest := [.int (Int32.ofNat (sLn tx))]) ⟨hx, hb, hml, hown, htg⟩ (c_st_coder l K tx) (cwV 0 htg (g_V q_221 q_222 q_223 q_8 (g_w q_224)) rfl rfl rfl ⟨rfl, k_st_coder⟩ ⟨Nat.le_of_ble_eq_true rfl, Nat.le_of_ble_eq_true rfl⟩) ⟨ro_blind, vk_recv hG.str h_tx hS, ro_use hPc hK hG hS ⟨h_tx, trivial⟩⟩ rfl rfl hl.1 rfl (lv_room (Nat.le_of_ble_eq_true rfl)) d_st_length_6 ⟨Nat.zero_le _, Nat.zero_le _⟩)) (fun r_1 hw_1 => ?_)
  obtain rfl : (0 : Int32) = r_1 := hw_1.1
  refine lv_ishr hx hb d_st_length_9 ?_
  exact W.iret (v := (Int32.ofNat (sLn tx)) >>> ((0 : Int32) &&& 31)) hx hb hr (fun t ht hW => ⟨_, rfl, ⟨hF, trivial⟩, ht⟩) hS.2.2 d_st_length_10
def f_sl_canEncode (ch : Int32) : Int32 := (if ch < 0 then (0 : Int32) else (if (255 : Int32) < ch then (0 : Int32) else (1 : Int32)))
set_option maxHeartbeats 4000000 in
set_option maxRecDepth 100000 in
theorem c_sl_canEncode (l : Launch) (K : KT) (ch : Int32) : Met l y_sl_canEncode w_sl_canEncode ({ frames := 0, cells := 0, slots := 0, locals := 0 } : Room) (va_Pc [.int ch] (fun U => pRO K [] U ∧ True)) (vp_Si (fun r => f_sl_canEncode ch = r ∧ narrow .boolean (.int r) = .int r)) 0 0 (fun _ => False) := by
  refine va_MetF (cc := b_sl_canEncode) (maxL := 1) (ret := (some .boolean)) (by decide) rfl ?_
  intro p e s m args below meth c s₁ B hml hv
  obtain ⟨rfl, ⟨hP, hK, hG⟩, -⟩ := hv
  have hx := B.exec
  have hb := B.bytes
  have hr := B.returns
  have hts := atoms_spec (ws := w_sl_canEncode) B.pre
  have hown : s.vm.findClass R_sl = some m.cls := findClass_of_methodNamed B.named
  have hlocks := B.notSynchronized
  have htg := fun w h => hts w (List.mem_cons_of_mem _ h)
  have hS : va_S (fun _ => False) s.heap s.heap [] := va_S.rf
  have hl := lv_entry ([.int ch]) (n := 1) (Nat.le_of_ble_eq_true rfl)
  rw [lg_entry_eq]
  generalize (lg_sl ([.int ch]) ++ List.replicate (1 - (lg_sl ([.int ch])).length) Slot.unset).toArray = ls at hl ⊢
  have hl : lv_has ls 1 [(0, .int ch)] := hl
  have hF := f_sl_canEncode.eq_1 ch
  refine lv_iload_n hx hb d_sl_canEncode_0 rfl (lv_at hl 0 rfl) ?_
  refine lv_if_lt (tgt := 15) hx hb d_sl_canEncode_1 (by decide) (fun c_1 => ?_) (fun c_1 => ?_)
  · have hF := hF.trans (if_pos c_1)
    refine lv_iconst (v := 0) hx hb d_sl_canEncode_15 (by decide) ?_
    exact W.zret (v := (0 : Int32)) hx hb hr (rfl) (fun t ht hW => ⟨_, rfl, ⟨hF, rfl⟩, ht⟩) hS.2.2 d_sl_canEncode_16
  · have hF := hF.trans (if_neg c_1)
    refine lv_iload_n hx hb d_sl_canEncode_4 rfl (lv_at hl 0 rfl) ?_
    refine lv_sipush (v := 255) hx hb d_sl_canEncode_5 (by decide) ?_
    refine lv_icmp_gt (tgt := 15) hx hb d_sl_canEncode_8 (by decide) (fun c_2 => ?_) (fun c_2 => ?_)
    · have hF := hF.trans (if_pos c_2)
      refine lv_iconst (v := 0) hx hb d_sl_canEncode_15 (by decide) ?_
      exact W.zret (v := (0 : Int32)) hx hb hr (rfl) (fun t ht hW => ⟨_, rfl, ⟨hF, rfl⟩, ht⟩) hS.2.2 d_sl_canEncode_16
    · have hF := hF.trans (if_neg c_2)
      refine lv_iconst (v := 1) hx hb d_sl_canEncode_11 (by decide) ?_
      refine lv_goto (tgt := 16) hx hb d_sl_canEncode_12 (by decide) ?_
      exact W.zret (v := (1 : Int32)) hx hb hr (rfl) (fun t ht hW => ⟨_, rfl, ⟨hF, rfl⟩, ht⟩) hS.2.2 d_sl_canEncode_16
def f_sl_indexOfChar_L7 (tx : Nat) (ch : Int32) (fr : Int32) (to : Int32) : Nat → Int32 → Int32 → Int32
  | 0, _, _ => 0
  | n + 1, v4, v5 => (if to ≤ v5 then (-1 : Int32) else (if ((sBt tx) v5.toNatClampNeg) = v4 then v5 else (f_sl_indexOfChar_L7 tx ch fr to  n v4 (v5 + (1 : Int32)))))
def f_sl_indexOfChar (tx : Nat) (ch : Int32) (fr : Int32) (to : Int32) : Int32 := (f_sl_indexOfChar_L7 tx ch fr to  23 ch.toInt8.toInt32 fr)
set_option maxHeartbeats 4000000 in
set_option maxRecDepth 100000 in
theorem c_sl_indexOfChar (l : Launch) (K : KT) (tx : Nat) (ch : Int32) (fr : Int32) (to : Int32) : Met l y_sl_indexOfChar w_sl_indexOfChar ({ frames := 0, cells := 0, slots := 0, locals := 0 } : Room) (va_Pc [.ref (kV K tx), .int ch, .int fr, .int to] (fun U => pRO K [] U ∧ tx < nSTR ∧ 0 ≤ fr.toInt ∧ to.toInt ≤ sLn tx ∧ True)) (vp_Si (fun r => f_sl_indexOfChar tx ch fr to = r ∧ True)) 0 0 (fun _ => False) := by
  refine va_MetF (cc := b_sl_indexOfChar) (maxL := 6) (ret := (some .int)) (by decide) rfl ?_
  intro p e s m args below meth c s₁ B hml hv
  obtain ⟨rfl, ⟨hP, hK, hG⟩, h_tx, h_f, h_t, -⟩ := hv
  have hx := B.exec
  have hb := B.bytes
  have hr := B.returns
  have hts := atoms_spec (ws := w_sl_indexOfChar) B.pre
  have hown : s.vm.findClass R_sl = some m.cls := findClass_of_methodNamed B.named
  have hlocks := B.notSynchronized
  have htg := fun w h => hts w (List.mem_cons_of_mem _ h)
  have hS : va_S (fun _ => False) s.heap s.heap [] := va_S.rf
  have hl := lv_entry ([.ref (kV K tx), .int ch, .int fr, .int to]) (n := 6) (Nat.le_of_ble_eq_true rfl)
  rw [lg_entry_eq]
  generalize (lg_sl ([.ref (kV K tx), .int ch, .int fr, .int to]) ++ List.replicate (6 - (lg_sl ([.ref (kV K tx), .int ch, .int fr, .int to])).length) Slot.unset).toArray = ls at hl ⊢
  have hl : lv_has ls 6 [(0, .ref (kV K tx)), (1, .int ch), (2, .int fr), (3, .int to)] := hl
  have hF := f_sl_indexOfChar.eq_1 tx ch fr to
  refine lv_iload_n hx hb d_sl_indexOfChar_0 rfl (lv_at hl 1 rfl) ?_
  refine lv_i2b (v := ch.toInt8.toInt32) hx hb d_sl_indexOfChar_1 rfl ?_
  refine lv_istore (lv' := [(4, .int ch.toInt8.toInt32), (0, .ref (kV K tx)), (1, .int ch), (2, .int fr), (3, .int to)]) hx hb d_sl_indexOfChar_2 hl (by decide) rfl (fun ls hl => ?_)
  refine lv_iload_n hx hb d_sl_indexOfChar_4 rfl (lv_at hl 3 rfl) ?_
  refine lv_istore (lv' := [(5, .int fr), (4, .int ch.toInt8.toInt32), (0, .ref (kV K tx)), (1, .int ch), (2, .int fr), (3, .int to)]) hx hb d_sl_indexOfChar_5 hl (by decide) rfl (fun ls hl => ?_)
  have loop7 : ∀ (n7 : Nat) (v4 : Int32) (v5 : Int32) (ls : Array Slot), 0 ≤ v5.toInt → ((sLn tx : Int) - v5.toInt).toNat < n7 → lv_has ls 6 [(0, .ref (kV K tx)), (1, .int ch), (2, .int fr), (3, .int to), (4, .int v4), (5, .int v5)] → f_sl_indexOfChar tx ch fr to = f_sl_indexOfChar_L7 tx ch fr to  n7 v4 v5 → W p l e (headSpec w_sl_indexOfChar ({ frames := 0, cells := 0, slots := 0, locals := 0 } : Room)).room s m ([(.ref (kV K tx) : Value), .int ch, .int fr, .int to].toArray) below meth c s.heap [] 0 0 (MQ below (vp_Si (fun r => f_sl_indexOfChar tx ch fr to = r ∧ True)) ([(.ref (kV K tx) : Value), .int ch, .int fr, .int to].toArray) s 0 0 ((fun _ => False))) (F0 m 7 ls []) := by
    intro n7
    induction n7 with
    | zero =>
      intro _ _ _ _ hz
      exact absurd hz (Nat.not_lt_zero _)
    | succ n7 ih7 =>
      intro v4 v5 ls i0 hm hl hF
      rw [f_sl_indexOfChar_L7] at hF
      refine lv_iload hx hb d_sl_indexOfChar_7 (lv_at hl 5 rfl) ?_
      refine lv_iload_n hx hb d_sl_indexOfChar_9 rfl (lv_at hl 3 rfl) ?_
      refine lv_icmp_ge (tgt := 31) hx hb d_sl_indexOfChar_10 (by decide) (fun c_1 => ?_) (fun c_1 => ?_)
      · have hF := hF.trans (if_pos c_1)
        refine lv_iconst (v := -1) hx hb d_sl_indexOfChar_31 (by decide) ?_
        exact W.iret (v := (-1 : Int32)) hx hb hr (fun t ht hW => ⟨_, rfl, ⟨hF, trivial⟩, ht⟩) hS.2.2 d_sl_indexOfChar_32
      · have hF := hF.trans (if_neg c_1)
        refine lv_aload_n hx hb d_sl_indexOfChar_13 rfl (lv_at hl 0 rfl) ?_
        refine lv_iload hx hb d_sl_indexOfChar_14 (lv_at hl 5 rfl) ?_
        have h_2 : vp_in v5 (sLn tx) := lp_in i0 c_1 h_t
        refine va_tb (v := .int ((sBt tx) v5.toNatClampNeg)) hx hb (hG.str.1 tx h_tx).2.2.2 hS h_2 rfl d_sl_indexOfChar_16 ?_
        refine lv_iload hx hb d_sl_indexOfChar_17 (lv_at hl 4 rfl) ?_
        refine lv_icmp_ne (tgt := 25) hx hb d_sl_indexOfChar_19 (by decide) (fun c_3 => ?_) (fun c_3 => ?_)
        · have hF := hF.trans (if_neg c_3)
          refine lv_iinc (v := v5 + (1 : Int32)) (lv' := [(5, .int (v5 + (1 : Int32))), (0, .ref (kV K tx)), (1, .int ch), (2, .int fr), (3, .int to), (4, .int v4)]) hx hb d_sl_indexOfChar_25 hl (k := 5) rfl rfl (by decide) rfl (fun ls hl => ?_)
          refine lv_goto (tgt := 7) hx hb d_sl_indexOfChar_28 (by decide) ?_
          exact ih7  v4 (v5 + (1 : Int32)) ls (lp_s i0 c_1) (lp_d i0 c_1 h_t hm) (lv_sub hl [1, 2, 3, 4, 5, 0] rfl) hF
        · have hF := hF.trans (if_pos c_3)
          refine lv_iload hx hb d_sl_indexOfChar_22 (lv_at hl 5 rfl) ?_
          exact W.iret (v := v5) hx hb hr (fun t ht hW => ⟨_, rfl, ⟨hF, trivial⟩, ht⟩) hS.2.2 d_sl_indexOfChar_24
  exact loop7 23 ch.toInt8.toInt32 fr ls (h_f) (sx_m h_tx h_f) (lv_sub hl [2, 3, 4, 5, 1, 0] rfl) hF
def f_sl_indexOf (tx : Nat) (ch : Int32) (fr : Int32) (to : Int32) : Int32 := (bnd (f_sl_canEncode ch) (fun r_1 => (if r_1 = 0 then (-1 : Int32) else (if (if fr < (0 : Int32) then (0 : Int32) else fr) < (if (Int32.ofNat (sLn tx)) < to then (Int32.ofNat (sLn tx)) else to) then (bnd (f_sl_indexOfChar tx ch (if fr < (0 : Int32) then (0 : Int32) else fr) (if (Int32.ofNat (sLn tx)) < to then (Int32.ofNat (sLn tx)) else to)) (fun r_4 => r_4)) else (-1 : Int32)))))
set_option maxHeartbeats 4000000 in
set_option maxRecDepth 100000 in
theorem c_sl_indexOf (l : Launch) (K : KT) (tx : Nat) (ch : Int32) (fr : Int32) (to : Int32) : Met l y_sl_indexOf w_sl_indexOf ({ frames := 1, cells := 0, slots := 0, locals := 25 } : Room) (va_Pc [.ref (kV K tx), .int ch, .int fr, .int to] (fun U => pRO K [] U ∧ tx < nSTR ∧ True)) (vp_Si (fun r => f_sl_indexOf tx ch fr to = r ∧ True)) 0 0 (fun _ => False) := by
  refine va_MetF (cc := b_sl_indexOf) (maxL := 4) (ret := (some .int)) (by decide) rfl ?_
  intro p e s m args below meth c s₁ B hml hv
  obtain ⟨rfl, ⟨hP, hK, hG⟩, h_tx, -⟩ := hv
  have hx := B.exec
  have hb := B.bytes
  have hr := B.returns
  have hts := atoms_spec (ws := w_sl_indexOf) B.pre
  have hown : s.vm.findClass R_sl = some m.cls := findClass_of_methodNamed B.named
  have hlocks := B.notSynchronized
  have htg := fun w h => hts w (List.mem_cons_of_mem _ h)
  have hS : va_S (fun _ => False) s.heap s.heap [] := va_S.rf
  have hl := lv_entry ([.ref (kV K tx), .int ch, .int fr, .int to]) (n := 4) (Nat.le_of_ble_eq_true rfl)
  rw [lg_entry_eq]
  generalize (lg_sl ([.ref (kV K tx), .int ch, .int fr, .int to]) ++ List.replicate (4 - (lg_sl ([.ref (kV K tx), .int ch, .int fr, .int to])).length) Slot.unset).toArray = ls at hl ⊢
  have hl : lv_has ls 4 [(0, .ref (kV K tx)), (1, .int ch), (2, .int fr), (3, .int to)] := hl
  have hF := f_sl_indexOf.eq_1 tx ch fr to
  refine lv_iload_n hx hb d_sl_indexOf_0 rfl (lv_at hl 1 rfl) ?_
  have hPc : va_P (kD K) vwCl [] _ := hP.sub [] rfl
  refine vp_callSi (va_Run.run (va_runS (As := [.int ch]) (rest := []) ⟨hx, hb, hml, hown, htg⟩ (c_sl_canEncode l K ch) (va_cwS 1 htg (g_S q_228 q_229 q_9 (g_w q_230)) rfl rfl rfl k_sl_canEncode ⟨Nat.le_of_ble_eq_true rfl, Nat.le_of_ble_eq_true rfl⟩) ⟨ro_blind, ro_use hPc hK hG hS trivial⟩ rfl rfl hl.1 rfl (lv_room (Nat.le_of_ble_eq_true rfl)) d_sl_indexOf_1 ⟨Nat.zero_le _, Nat.zero_le _⟩)) (fun r_1 hw_1 => ?_)
  have hF := hF.trans (bnd_s hw_1.1)
  have hn_1 := hw_1.2
  refine lv_if_ne (tgt := 9) hx hb d_sl_indexOf_4 (by decide) (fun c_2 => ?_) (fun c_2 => ?_)
  · have hF := hF.trans (if_neg c_2)
    refine lv_iload_n hx hb d_sl_indexOf_9 rfl (lv_at hl 2 rfl) ?_
    refine lv_iconst (v := 0) hx hb d_sl_indexOf_10 (by decide) ?_
    refine va_mmax hx hb (hml.trans hl.1.symm) hown (htg _ q_231) (htg _ q_232) (htg _ q_10) (htg _ q_233) (Nat.le_of_ble_eq_true rfl) (Nat.le_of_ble_eq_true rfl) (Nat.zero_le _) (Nat.zero_le _) d_sl_indexOf_11 ?_
    refine lv_istore_n (lv' := [(2, .int (if fr < (0 : Int32) then (0 : Int32) else fr)), (0, .ref (kV K tx)), (1, .int ch), (3, .int to)]) hx hb d_sl_indexOf_14 rfl hl (by decide) rfl (fun ls hl => ?_)
    refine lv_iload_n hx hb d_sl_indexOf_15 rfl (lv_at hl 3 rfl) ?_
    refine lv_aload_n hx hb d_sl_indexOf_16 rfl (lv_at hl 1 rfl) ?_
    refine va_tlen hx hb (hG.str.1 tx h_tx).2.2.2 hS rfl d_sl_indexOf_17 ?_
    refine va_mmin hx hb (hml.trans hl.1.symm) hown (htg _ q_234) (htg _ q_235) (htg _ q_10) (htg _ q_236) (Nat.le_of_ble_eq_true rfl) (Nat.le_of_ble_eq_true rfl) (Nat.zero_le _) (Nat.zero_le _) d_sl_indexOf_18 ?_
    refine lv_istore_n (lv' := [(3, .int (if (Int32.ofNat (sLn tx)) < to then (Int32.ofNat (sLn tx)) else to)), (2, .int (if fr < (0 : Int32) then (0 : Int32) else fr)), (0, .ref (kV K tx)), (1, .int ch)]) hx hb d_sl_indexOf_21 rfl hl (by decide) rfl (fun ls hl => ?_)
    refine lv_iload_n hx hb d_sl_indexOf_22 rfl (lv_at hl 1 rfl) ?_
    refine lv_iload_n hx hb d_sl_indexOf_23 rfl (lv_at hl 0 rfl) ?_
    refine lv_icmp_lt (tgt := 29) hx hb d_sl_indexOf_24 (by decide) (fun c_3 => ?_) (fun c_3 => ?_)
    · have hF := hF.trans (if_pos c_3)
      refine lv_aload_n hx hb d_sl_indexOf_29 rfl (lv_at hl 2 rfl) ?_
      refine lv_iload_n hx hb d_sl_indexOf_30 rfl (lv_at hl 3 rfl) ?_
      refine lv_iload_n hx hb d_sl_indexOf_31 rfl (lv_at hl 1 rfl) ?_
      refine lv_iload_n hx hb d_sl_indexOf_32 rfl (lv_at hl 0 rfl) ?_
      have hPc : va_P (kD K) vwCl [] _ := hP.sub [] rfl
      refine vp_callSi (va_Run.run (va_runS (As := [.ref (kV K tx), .int ch, .int (if fr < (0 : Int32) then (0 : Int32) else fr), .int (if (Int32.ofNat (sLn tx)) < to then (Int32.ofNat (sLn tx)) else to)]) (rest := []) ⟨hx, hb, hml, hown, htg⟩ (c_sl_indexOfChar l K tx ch (if fr < (0 : Int32) then (0 : Int32) else fr) (if (Int32.ofNat (sLn tx)) < to then (Int32.ofNat (sLn tx)) else to)) (va_cwS 4 htg (g_S q_237 q_238 q_9 (g_w q_239)) rfl rfl rfl k_sl_indexOfChar ⟨Nat.le_of_ble_eq_true rfl, Nat.le_of_ble_eq_true rfl⟩) ⟨ro_blind, ro_use hPc hK hG hS ⟨h_tx, (mx_0), (mn_l h_tx), trivial⟩⟩ rfl rfl hl.1 rfl (lv_room (Nat.le_of_ble_eq_true rfl)) d_sl_indexOf_33 ⟨Nat.zero_le _, Nat.zero_le _⟩)) (fun r_4 hw_4 => ?_)
      have hF := hF.trans (bnd_s hw_4.1)
      exact W.iret (v := r_4) hx hb hr (fun t ht hW => ⟨_, rfl, ⟨hF, trivial⟩, ht⟩) hS.2.2 d_sl_indexOf_36
    · have hF := hF.trans (if_neg c_3)
      refine lv_iconst (v := -1) hx hb d_sl_indexOf_27 (by decide) ?_
      exact W.iret (v := (-1 : Int32)) hx hb hr (fun t ht hW => ⟨_, rfl, ⟨hF, trivial⟩, ht⟩) hS.2.2 d_sl_indexOf_28
  · have hF := hF.trans (if_pos c_2)
    refine lv_iconst (v := -1) hx hb d_sl_indexOf_7 (by decide) ?_
    exact W.iret (v := (-1 : Int32)) hx hb hr (fun t ht hW => ⟨_, rfl, ⟨hF, trivial⟩, ht⟩) hS.2.2 d_sl_indexOf_8
def f_st_indexOf2 (tx : Nat) (ch : Int32) (fr : Int32) : Int32 := (bnd (f_st_length tx) (fun r_2 => (bnd (f_sl_indexOf tx ch fr r_2) (fun r_3 => r_3))))
set_option maxHeartbeats 4000000 in
set_option maxRecDepth 100000 in
theorem c_st_indexOf2 (l : Launch) (K : KT) (tx : Nat) (ch : Int32) (fr : Int32) : Met l y_st_indexOf2 w_st_indexOf2 ({ frames := 2, cells := 0, slots := 0, locals := 48 } : Room) (va_Pc [.ref (kK K tx), .int ch, .int fr] (fun U => pRO K [] U ∧ tx < nSTR ∧ True)) (vp_Si (fun r => f_st_indexOf2 tx ch fr = r ∧ True)) 0 0 (fun _ => False) := by
  refine va_MetF (cc := b_st_indexOf2) (maxL := 3) (ret := (some .int)) (by decide) rfl ?_
  intro p e s m args below meth c s₁ B hml hv
  obtain ⟨rfl, ⟨hP, hK, hG⟩, h_tx, -⟩ := hv
  have hx := B.exec
  have hb := B.bytes
  have hr := B.returns
  have hts := atoms_spec (ws := w_st_indexOf2) B.pre
  have hown : s.vm.findClass R_st = some m.cls := findClass_of_methodNamed B.named
  have hlocks := B.notSynchronized
  have htg := fun w h => hts w (List.mem_cons_of_mem _ h)
  have hS : va_S (fun _ => False) s.heap s.heap [] := va_S.rf
  have hl := lv_entry ([.ref (kK K tx), .int ch, .int fr]) (n := 3) (Nat.le_of_ble_eq_true rfl)
  rw [lg_entry_eq]
  generalize (lg_sl ([.ref (kK K tx), .int ch, .int fr]) ++ List.replicate (3 - (lg_sl ([.ref (kK K tx), .int ch, .int fr])).length) Slot.unset).toArray = ls at hl ⊢
  have hl : lv_has ls 3 [(0, .ref (kK K tx)), (1, .int ch), (2, .int fr)] := hl
  have hF := f_st_indexOf2.eq_1 tx ch fr
  refine lv_aload_n hx hb d_st_indexOf2_0 rfl (lv_at hl 0 rfl) ?_
  have hPc : va_P (kD K) vwCl [] _ := hP.sub [] rfl
  refine vp_callSi (va_Run.run (va_runV (As := []) (rest := []) ⟨hx, hb, hml, hown, htg⟩ (c_st_isLatin1 l K tx) (cwV 0 htg (g_V q_211 q_212 q_213 q_8 (g_w q_214)) rfl rfl rfl ⟨rfl, k_st_isLatin1⟩ ⟨Nat.le_of_ble_eq_true rfl, Nat.le_of_ble_eq_true rfl⟩) ⟨ro_blind, vk_recv hG.str h_tx hS, ro_use hPc hK hG hS ⟨h_tx, trivial⟩⟩ rfl rfl hl.1 rfl (lv_room (Nat.le_of_ble_eq_true rfl)) d_st_indexOf2_1 ⟨Nat.zero_le _, Nat.zero_le _⟩)) (fun r_1 hw_1 => ?_)
  obtain rfl : (1 : Int32) = r_1 := hw_1.1
  refine lv_if_eq (tgt := 23) hx hb d_st_indexOf2_4 (by decide) (fun c => False.elim (by revert c; decide)) (fun _ => ?_)
  refine lv_aload_n hx hb d_st_indexOf2_7 rfl (lv_at hl 0 rfl) ?_
  refine vk_getf hx hb (hG.str.1 tx h_tx).2.2.1 hS hown (htg (.fieldLink R_st 9 "java/lang/String" "value" "[B") q_1086) (fun _ h9 => h9) d_st_indexOf2_8 ?_
  refine lv_iload_n hx hb d_st_indexOf2_11 rfl (lv_at hl 1 rfl) ?_
  refine lv_iload_n hx hb d_st_indexOf2_12 rfl (lv_at hl 2 rfl) ?_
  refine lv_aload_n hx hb d_st_indexOf2_13 rfl (lv_at hl 0 rfl) ?_
  have hPc : va_P (kD K) vwCl [] _ := hP.sub [] rfl
  refine vp_callSi (va_Run.run (va_runV (As := []) (rest := [.int fr, .int ch, .ref (kV K tx)]) ⟨hx, hb, hml, hown, htg⟩ (c_st_length l K tx) (cwV 0 htg (g_V q_217 q_218 q_219 q_8 (g_w q_220)) rfl rfl rfl ⟨rfl, k_st_length⟩ ⟨Nat.le_of_ble_eq_true rfl, Nat.le_of_ble_eq_true rfl⟩) ⟨ro_blind, vk_recv hG.str h_tx hS, ro_use hPc hK hG hS ⟨h_tx, trivial⟩⟩ rfl rfl hl.1 rfl (lv_room (Nat.le_of_ble_eq_true rfl)) d_st_indexOf2_14 ⟨Nat.zero_le _, Nat.zero_le _⟩)) (fun r_2 hw_2 => ?_)
  have hF := hF.trans (bnd_s hw_2.1)
  have hPc : va_P (kD K) vwCl [] _ := hP.sub [] rfl
  refine vp_callSi (va_Run.run (va_runS (As := [.ref (kV K tx), .int ch, .int fr, .int r_2]) (rest := []) ⟨hx, hb, hml, hown, htg⟩ (c_sl_indexOf l K tx ch fr r_2) (va_cwS 4 htg (g_S q_225 q_226 q_9 (g_w q_227)) rfl rfl rfl k_sl_indexOf ⟨Nat.le_of_ble_eq_true rfl, Nat.le_of_ble_eq_true rfl⟩) ⟨ro_blind, ro_use hPc hK hG hS ⟨h_tx, trivial⟩⟩ rfl rfl hl.1 rfl (lv_room (Nat.le_of_ble_eq_true rfl)) d_st_indexOf2_17 ⟨Nat.zero_le _, Nat.zero_le _⟩)) (fun r_3 hw_3 => ?_)
  have hF := hF.trans (bnd_s hw_3.1)
  refine lv_goto (tgt := 36) hx hb d_st_indexOf2_20 (by decide) ?_
  exact W.iret (v := r_3) hx hb hr (fun t ht hW => ⟨_, rfl, ⟨hF, trivial⟩, ht⟩) hS.2.2 d_st_indexOf2_36
def f_st_indexOf (tx : Nat) (ch : Int32) : Int32 := (bnd (f_st_indexOf2 tx ch (0 : Int32)) (fun r_1 => r_1))
set_option maxHeartbeats 4000000 in
set_option maxRecDepth 100000 in
theorem c_st_indexOf (l : Launch) (K : KT) (tx : Nat) (ch : Int32) : Met l y_st_indexOf w_st_indexOf ({ frames := 3, cells := 0, slots := 0, locals := 70 } : Room) (va_Pc [.ref (kK K tx), .int ch] (fun U => pRO K [] U ∧ tx < nSTR ∧ True)) (vp_Si (fun r => f_st_indexOf tx ch = r ∧ True)) 0 0 (fun _ => False) := by
  refine va_MetF (cc := b_st_indexOf) (maxL := 2) (ret := (some .int)) (by decide) rfl ?_
  intro p e s m args below meth c s₁ B hml hv
  obtain ⟨rfl, ⟨hP, hK, hG⟩, h_tx, -⟩ := hv
  have hx := B.exec
  have hb := B.bytes
  have hr := B.returns
  have hts := atoms_spec (ws := w_st_indexOf) B.pre
  have hown : s.vm.findClass R_st = some m.cls := findClass_of_methodNamed B.named
  have hlocks := B.notSynchronized
  have htg := fun w h => hts w (List.mem_cons_of_mem _ h)
  have hS : va_S (fun _ => False) s.heap s.heap [] := va_S.rf
  have hl := lv_entry ([.ref (kK K tx), .int ch]) (n := 2) (Nat.le_of_ble_eq_true rfl)
  rw [lg_entry_eq]
  generalize (lg_sl ([.ref (kK K tx), .int ch]) ++ List.replicate (2 - (lg_sl ([.ref (kK K tx), .int ch])).length) Slot.unset).toArray = ls at hl ⊢
  have hl : lv_has ls 2 [(0, .ref (kK K tx)), (1, .int ch)] := hl
  have hF := f_st_indexOf.eq_1 tx ch
  refine lv_aload_n hx hb d_st_indexOf_0 rfl (lv_at hl 0 rfl) ?_
  refine lv_iload_n hx hb d_st_indexOf_1 rfl (lv_at hl 1 rfl) ?_
  refine lv_iconst (v := 0) hx hb d_st_indexOf_2 (by decide) ?_
  have hPc : va_P (kD K) vwCl [] _ := hP.sub [] rfl
  refine vp_callSi (va_Run.run (va_runV (As := [.int ch, .int (0 : Int32)]) (rest := []) ⟨hx, hb, hml, hown, htg⟩ (c_st_indexOf2 l K tx ch (0 : Int32)) (cwV 2 htg (g_V q_207 q_208 q_209 q_8 (g_w q_210)) rfl rfl rfl ⟨rfl, k_st_indexOf2⟩ ⟨Nat.le_of_ble_eq_true rfl, Nat.le_of_ble_eq_true rfl⟩) ⟨ro_blind, vk_recv hG.str h_tx hS, ro_use hPc hK hG hS ⟨h_tx, trivial⟩⟩ rfl rfl hl.1 rfl (lv_room (Nat.le_of_ble_eq_true rfl)) d_st_indexOf_3 ⟨Nat.zero_le _, Nat.zero_le _⟩)) (fun r_1 hw_1 => ?_)
  have hF := hF.trans (bnd_s hw_1.1)
  exact W.iret (v := r_1) hx hb hr (fun t ht hW => ⟨_, rfl, ⟨hF, trivial⟩, ht⟩) hS.2.2 d_st_indexOf_6
def f_pc_checkIndexN (ix : Int32) (ln : Int32) : Int32 := ix
set_option maxHeartbeats 4000000 in
set_option maxRecDepth 100000 in
theorem c_pc_checkIndexN (l : Launch) (K : KT) (ix : Int32) (ln : Int32) : Met l y_pc_checkIndex w_pc_checkIndex ({ frames := 0, cells := 0, slots := 0, locals := 0 } : Room) (va_Pc [.int ix, .int ln, .null] (fun U => pRO K [] U ∧ 0 ≤ ix.toInt ∧ ix.toInt < ln.toInt ∧ True)) (vp_Si (fun r => f_pc_checkIndexN ix ln = r ∧ True)) 0 0 (fun _ => False) := by
  refine va_MetF (cc := b_pc_checkIndex) (maxL := 3) (ret := (some .int)) (by decide) rfl ?_
  intro p e s m args below meth c s₁ B hml hv
  obtain ⟨rfl, ⟨hP, hK, hG⟩, h_0, h_l, -⟩ := hv
  have hx := B.exec
  have hb := B.bytes
  have hr := B.returns
  have hts := atoms_spec (ws := w_pc_checkIndex) B.pre
  have hown : s.vm.findClass R_pc = some m.cls := findClass_of_methodNamed B.named
  have hlocks := B.notSynchronized
  have htg := fun w h => hts w (List.mem_cons_of_mem _ h)
  have hS : va_S (fun _ => False) s.heap s.heap [] := va_S.rf
  have hl := lv_entry ([.int ix, .int ln, .null]) (n := 3) (Nat.le_of_ble_eq_true rfl)
  rw [lg_entry_eq]
  generalize (lg_sl ([.int ix, .int ln, .null]) ++ List.replicate (3 - (lg_sl ([.int ix, .int ln, .null])).length) Slot.unset).toArray = ls at hl ⊢
  have hl : lv_has ls 3 [(0, .int ix), (1, .int ln), (2, .null)] := hl
  have hF := f_pc_checkIndexN.eq_1 ix ln
  refine lv_iload_n hx hb d_pc_checkIndex_0 rfl (lv_at hl 0 rfl) ?_
  refine lv_if_lt (tgt := 9) hx hb d_pc_checkIndex_1 (by decide) (fun c => False.elim (dead_lt c h_0)) (fun _ => ?_)
  refine lv_iload_n hx hb d_pc_checkIndex_4 rfl (lv_at hl 0 rfl) ?_
  refine lv_iload_n hx hb d_pc_checkIndex_5 rfl (lv_at hl 1 rfl) ?_
  refine lv_icmp_lt (tgt := 16) hx hb d_pc_checkIndex_6 (by decide) (fun _ => ?_) (fun c => False.elim (dead_nlt c h_l))
  refine lv_iload_n hx hb d_pc_checkIndex_16 rfl (lv_at hl 0 rfl) ?_
  exact W.iret (v := ix) hx hb hr (fun t ht hW => ⟨_, rfl, ⟨hF, trivial⟩, ht⟩) hS.2.2 d_pc_checkIndex_17
def f_pc_checkIndex (ix : Int32) (ln : Int32) : Int32 := ix
set_option maxHeartbeats 4000000 in
set_option maxRecDepth 100000 in
theorem c_pc_checkIndex (l : Launch) (K : KT) (ix : Int32) (ln : Int32) (fo : Nat) : Met l y_pc_checkIndex w_pc_checkIndex ({ frames := 0, cells := 0, slots := 0, locals := 0 } : Room) (va_Pc [.int ix, .int ln, .ref fo] (fun U => pRO K [] U ∧ 0 ≤ ix.toInt ∧ ix.toInt < ln.toInt ∧ True)) (vp_Si (fun r => f_pc_checkIndex ix ln = r ∧ True)) 0 0 (fun _ => False) := by
  refine va_MetF (cc := b_pc_checkIndex) (maxL := 3) (ret := (some .int)) (by decide) rfl ?_
  intro p e s m args below meth c s₁ B hml hv
  obtain ⟨rfl, ⟨hP, hK, hG⟩, h_0, h_l, -⟩ := hv
  have hx := B.exec
  have hb := B.bytes
  have hr := B.returns
  have hts := atoms_spec (ws := w_pc_checkIndex) B.pre
  have hown : s.vm.findClass R_pc = some m.cls := findClass_of_methodNamed B.named
  have hlocks := B.notSynchronized
  have htg := fun w h => hts w (List.mem_cons_of_mem _ h)
  have hS : va_S (fun _ => False) s.heap s.heap [] := va_S.rf
  have hl := lv_entry ([.int ix, .int ln, .ref fo]) (n := 3) (Nat.le_of_ble_eq_true rfl)
  rw [lg_entry_eq]
  generalize (lg_sl ([.int ix, .int ln, .ref fo]) ++ List.replicate (3 - (lg_sl ([.int ix, .int ln, .ref fo])).length) Slot.unset).toArray = ls at hl ⊢
  have hl : lv_has ls 3 [(0, .int ix), (1, .int ln), (2, .ref fo)] := hl
  have hF := f_pc_checkIndex.eq_1 ix ln
  refine lv_iload_n hx hb d_pc_checkIndex_0 rfl (lv_at hl 0 rfl) ?_
  refine lv_if_lt (tgt := 9) hx hb d_pc_checkIndex_1 (by decide) (fun c => False.elim (dead_lt c h_0)) (fun _ => ?_)
  refine lv_iload_n hx hb d_pc_checkIndex_4 rfl (lv_at hl 0 rfl) ?_
  refine lv_iload_n hx hb d_pc_checkIndex_5 rfl (lv_at hl 1 rfl) ?_
  refine lv_icmp_lt (tgt := 16) hx hb d_pc_checkIndex_6 (by decide) (fun _ => ?_) (fun c => False.elim (dead_nlt c h_l))
  refine lv_iload_n hx hb d_pc_checkIndex_16 rfl (lv_at hl 0 rfl) ?_
  exact W.iret (v := ix) hx hb hr (fun t ht hW => ⟨_, rfl, ⟨hF, trivial⟩, ht⟩) hS.2.2 d_pc_checkIndex_17
def f_st_checkIndex (ix : Int32) (ln : Int32) : Unit := ()
set_option maxHeartbeats 4000000 in
set_option maxRecDepth 100000 in
theorem c_st_checkIndex (l : Launch) (K : KT) (ix : Int32) (ln : Int32) : Met l y_st_checkIndex w_st_checkIndex ({ frames := 1, cells := 0, slots := 0, locals := 22 } : Room) (va_Pc [.int ix, .int ln] (fun U => pRO K [] U ∧ 0 ≤ ix.toInt ∧ ix.toInt < ln.toInt ∧ True)) (va_Sv (fun _ => True)) 0 0 (fun _ => False) := by
  refine va_MetF (cc := b_st_checkIndex) (maxL := 2) (ret := none) (by decide) rfl ?_
  intro p e s m args below meth c s₁ B hml hv
  obtain ⟨rfl, ⟨hP, hK, hG⟩, h_0, h_l, -⟩ := hv
  have hx := B.exec
  have hb := B.bytes
  have hr := B.returns
  have hts := atoms_spec (ws := w_st_checkIndex) B.pre
  have hown : s.vm.findClass R_st = some m.cls := findClass_of_methodNamed B.named
  have hlocks := B.notSynchronized
  have htg := fun w h => hts w (List.mem_cons_of_mem _ h)
  have hS : va_S (fun _ => False) s.heap s.heap [] := va_S.rf
  have hl := lv_entry ([.int ix, .int ln]) (n := 2) (Nat.le_of_ble_eq_true rfl)
  rw [lg_entry_eq]
  generalize (lg_sl ([.int ix, .int ln]) ++ List.replicate (2 - (lg_sl ([.int ix, .int ln])).length) Slot.unset).toArray = ls at hl ⊢
  have hl : lv_has ls 2 [(0, .int ix), (1, .int ln)] := hl
  have hF := f_st_checkIndex.eq_1 ix ln
  refine lv_iload_n hx hb d_st_checkIndex_0 rfl (lv_at hl 0 rfl) ?_
  refine lv_iload_n hx hb d_st_checkIndex_1 rfl (lv_at hl 1 rfl) ?_
  rcases hG.fo with hz | ⟨t9, hz⟩
  · refine va_gets hx hb hz hS hown (htg (.fieldLink R_st 1053 "jdk/internal/util/Preconditions" "SIOOBE_FORMATTER" "Ljava/util/function/BiFunction;") q_258) (fun _ h9 => h9) d_st_checkIndex_2 ?_
    have hPc : va_P (kD K) vwCl [] _ := hP.sub [] rfl
    refine vp_callSi (va_Run.run (va_runS (As := [.int ix, .int ln, .null]) (rest := []) ⟨hx, hb, hml, hown, htg⟩ (c_pc_checkIndexN l K ix ln) (va_cwS 3 htg (g_S q_328 q_329 q_12 (g_w q_330)) rfl rfl rfl k_pc_checkIndex ⟨Nat.le_of_ble_eq_true rfl, Nat.le_of_ble_eq_true rfl⟩) ⟨ro_blind, ro_use hPc hK hG hS ⟨(by assumption), (by assumption), trivial⟩⟩ rfl rfl hl.1 rfl (lv_room (Nat.le_of_ble_eq_true rfl)) d_st_checkIndex_5 ⟨Nat.zero_le _, Nat.zero_le _⟩)) (fun r_1 hw_1 => ?_)
    refine lv_pop hx hb d_st_checkIndex_8 rfl ?_
    exact W.vret hx hb hr (fun t ht hW => ⟨rfl, trivial, ht⟩) hS.2.2 d_st_checkIndex_9
  · refine va_gets hx hb hz hS hown (htg (.fieldLink R_st 1053 "jdk/internal/util/Preconditions" "SIOOBE_FORMATTER" "Ljava/util/function/BiFunction;") q_258) (fun _ h9 => h9) d_st_checkIndex_2 ?_
    have hPc : va_P (kD K) vwCl [] _ := hP.sub [] rfl
    refine vp_callSi (va_Run.run (va_runS (As := [.int ix, .int ln, .ref t9]) (rest := []) ⟨hx, hb, hml, hown, htg⟩ (c_pc_checkIndex l K ix ln t9) (va_cwS 3 htg (g_S q_328 q_329 q_12 (g_w q_330)) rfl rfl rfl k_pc_checkIndex ⟨Nat.le_of_ble_eq_true rfl, Nat.le_of_ble_eq_true rfl⟩) ⟨ro_blind, ro_use hPc hK hG hS ⟨(by assumption), (by assumption), trivial⟩⟩ rfl rfl hl.1 rfl (lv_room (Nat.le_of_ble_eq_true rfl)) d_st_checkIndex_5 ⟨Nat.zero_le _, Nat.zero_le _⟩)) (fun r_2 hw_2 => ?_)
    refine lv_pop hx hb d_st_checkIndex_8 rfl ?_
    exact W.vret hx hb hr (fun t ht hW => ⟨rfl, trivial, ht⟩) hS.2.2 d_st_checkIndex_9
def f_sl_charAt (tx : Nat) (ix : Int32) : Int32 := (((((sBt tx) ix.toNatClampNeg) &&& (255 : Int32)).toUInt32 % 65536).toInt32)
set_option maxHeartbeats 4000000 in
set_option maxRecDepth 100000 in
theorem c_sl_charAt (l : Launch) (K : KT) (tx : Nat) (ix : Int32) : Met l y_sl_charAt w_sl_charAt ({ frames := 2, cells := 0, slots := 0, locals := 43 } : Room) (va_Pc [.ref (kV K tx), .int ix] (fun U => pRO K [] U ∧ tx < nSTR ∧ vp_in ix (sLn tx) ∧ True)) (vp_Si (fun r => f_sl_charAt tx ix = r ∧ narrow .char (.int r) = .int r)) 0 0 (fun _ => False) := by
  refine va_MetF (cc := b_sl_charAt) (maxL := 2) (ret := (some .char)) (by decide) rfl ?_
  intro p e s m args below meth c s₁ B hml hv
  obtain ⟨rfl, ⟨hP, hK, hG⟩, h_tx, h_in, -⟩ := hv
  have hx := B.exec
  have hb := B.bytes
  have hr := B.returns
  have hts := atoms_spec (ws := w_sl_charAt) B.pre
  have hown : s.vm.findClass R_sl = some m.cls := findClass_of_methodNamed B.named
  have hlocks := B.notSynchronized
  have htg := fun w h => hts w (List.mem_cons_of_mem _ h)
  have hS : va_S (fun _ => False) s.heap s.heap [] := va_S.rf
  have hl := lv_entry ([.ref (kV K tx), .int ix]) (n := 2) (Nat.le_of_ble_eq_true rfl)
  rw [lg_entry_eq]
  generalize (lg_sl ([.ref (kV K tx), .int ix]) ++ List.replicate (2 - (lg_sl ([.ref (kV K tx), .int ix])).length) Slot.unset).toArray = ls at hl ⊢
  have hl : lv_has ls 2 [(0, .ref (kV K tx)), (1, .int ix)] := hl
  have hF := f_sl_charAt.eq_1 tx ix
  refine lv_iload_n hx hb d_sl_charAt_0 rfl (lv_at hl 1 rfl) ?_
  refine lv_aload_n hx hb d_sl_charAt_1 rfl (lv_at hl 0 rfl) ?_
  refine va_tlen hx hb (hG.str.1 tx h_tx).2.2.2 hS rfl d_sl_charAt_2 ?_
  have hPc : va_P (kD K) vwCl [] _ := hP.sub [] rfl
  refine va_csv (va_Run.run (va_runS (As := [.int ix, .int (Int32.ofNat (sLn tx))]) (rest := []) ⟨hx, hb, hml, hown, htg⟩ (c_st_checkIndex l K ix (Int32.ofNat (sLn tx))) (va_cwS 2 htg (g_S q_325 q_326 q_8 (g_w q_327)) rfl rfl rfl k_st_checkIndex ⟨Nat.le_of_ble_eq_true rfl, Nat.le_of_ble_eq_true rfl⟩) ⟨ro_blind, ro_use hPc hK hG hS ⟨((vp_in_iff.mp h_in).1), (sx_lt h_tx h_in), trivial⟩⟩ rfl rfl hl.1 rfl (lv_room (Nat.le_of_ble_eq_true rfl)) d_sl_charAt_3 ⟨Nat.zero_le _, Nat.zero_le _⟩)) (fun _ => ?_)
  refine lv_aload_n hx hb d_sl_charAt_6 rfl (lv_at hl 0 rfl) ?_
  refine lv_iload_n hx hb d_sl_charAt_7 rfl (lv_at hl 1 rfl) ?_
  have h_2 : vp_in ix (sLn tx) := h_in
  refine va_tb (v := .int ((sBt tx) ix.toNatClampNeg)) hx hb (hG.str.1 tx h_tx).2.2.2 hS h_2 rfl d_sl_charAt_8 ?_
  refine lv_sipush (v := 255) hx hb d_sl_charAt_9 (by decide) ?_
  refine lv_iand hx hb d_sl_charAt_12 ?_
  refine lv_i2c (v := ((((sBt tx) ix.toNatClampNeg) &&& (255 : Int32)).toUInt32 % 65536).toInt32) hx hb d_sl_charAt_13 rfl ?_
  exact W.zret (v := ((((sBt tx) ix.toNatClampNeg) &&& (255 : Int32)).toUInt32 % 65536).toInt32) hx hb hr (pk_nc _) (fun t ht hW => ⟨_, rfl, ⟨hF, pk_nc _⟩, ht⟩) hS.2.2 d_sl_charAt_14
def f_st_charAt (tx : Nat) (ix : Int32) : Int32 := (bnd (f_sl_charAt tx ix) (fun r_2 => r_2))
set_option maxHeartbeats 4000000 in
set_option maxRecDepth 100000 in
theorem c_st_charAt (l : Launch) (K : KT) (tx : Nat) (ix : Int32) : Met l y_st_charAt w_st_charAt ({ frames := 3, cells := 0, slots := 0, locals := 64 } : Room) (va_Pc [.ref (kK K tx), .int ix] (fun U => pRO K [] U ∧ tx < nSTR ∧ vp_in ix (sLn tx) ∧ True)) (vp_Si (fun r => f_st_charAt tx ix = r ∧ narrow .char (.int r) = .int r)) 0 0 (fun _ => False) := by
  refine va_MetF (cc := b_st_charAt) (maxL := 2) (ret := (some .char)) (by decide) rfl ?_
  intro p e s m args below meth c s₁ B hml hv
  obtain ⟨rfl, ⟨hP, hK, hG⟩, h_tx, h_in, -⟩ := hv
  have hx := B.exec
  have hb := B.bytes
  have hr := B.returns
  have hts := atoms_spec (ws := w_st_charAt) B.pre
  have hown : s.vm.findClass R_st = some m.cls := findClass_of_methodNamed B.named
  have hlocks := B.notSynchronized
  have htg := fun w h => hts w (List.mem_cons_of_mem _ h)
  have hS : va_S (fun _ => False) s.heap s.heap [] := va_S.rf
  have hl := lv_entry ([.ref (kK K tx), .int ix]) (n := 2) (Nat.le_of_ble_eq_true rfl)
  rw [lg_entry_eq]
  generalize (lg_sl ([.ref (kK K tx), .int ix]) ++ List.replicate (2 - (lg_sl ([.ref (kK K tx), .int ix])).length) Slot.unset).toArray = ls at hl ⊢
  have hl : lv_has ls 2 [(0, .ref (kK K tx)), (1, .int ix)] := hl
  have hF := f_st_charAt.eq_1 tx ix
  refine lv_aload_n hx hb d_st_charAt_0 rfl (lv_at hl 0 rfl) ?_
  have hPc : va_P (kD K) vwCl [] _ := hP.sub [] rfl
  refine vp_callSi (va_Run.run (va_runV (As := []) (rest := []) ⟨hx, hb, hml, hown, htg⟩ (c_st_isLatin1 l K tx) (cwV 0 htg (g_V q_211 q_212 q_213 q_8 (g_w q_214)) rfl rfl rfl ⟨rfl, k_st_isLatin1⟩ ⟨Nat.le_of_ble_eq_true rfl, Nat.le_of_ble_eq_true rfl⟩) ⟨ro_blind, vk_recv hG.str h_tx hS, ro_use hPc hK hG hS ⟨h_tx, trivial⟩⟩ rfl rfl hl.1 rfl (lv_room (Nat.le_of_ble_eq_true rfl)) d_st_charAt_1 ⟨Nat.zero_le _, Nat.zero_le _⟩)) (fun r_1 hw_1 => ?_)
  obtain rfl : (1 : Int32) = r_1 := hw_1.1
  refine lv_if_eq (tgt := 16) hx hb d_st_charAt_4 (by decide) (fun c => False.elim (by revert c; decide)) (fun _ => ?_)
  refine lv_aload_n hx hb d_st_charAt_7 rfl (lv_at hl 0 rfl) ?_
  refine vk_getf hx hb (hG.str.1 tx h_tx).2.2.1 hS hown (htg (.fieldLink R_st 9 "java/lang/String" "value" "[B") q_1086) (fun _ h9 => h9) d_st_charAt_8 ?_
  refine lv_iload_n hx hb d_st_charAt_11 rfl (lv_at hl 1 rfl) ?_
  have hPc : va_P (kD K) vwCl [] _ := hP.sub [] rfl
  refine vp_callSi (va_Run.run (va_runS (As := [.ref (kV K tx), .int ix]) (rest := []) ⟨hx, hb, hml, hown, htg⟩ (c_sl_charAt l K tx ix) (va_cwS 2 htg (g_S q_322 q_323 q_9 (g_w q_324)) rfl rfl rfl k_sl_charAt ⟨Nat.le_of_ble_eq_true rfl, Nat.le_of_ble_eq_true rfl⟩) ⟨ro_blind, ro_use hPc hK hG hS ⟨h_tx, (by assumption), trivial⟩⟩ rfl rfl hl.1 rfl (lv_room (Nat.le_of_ble_eq_true rfl)) d_st_charAt_12 ⟨Nat.zero_le _, Nat.zero_le _⟩)) (fun r_2 hw_2 => ?_)
  have hF := hF.trans (bnd_s hw_2.1)
  have hn_2 := hw_2.2
  exact W.zret (v := r_2) hx hb hr (hn_2) (fun t ht hW => ⟨_, rfl, ⟨hF, hn_2⟩, ht⟩) hS.2.2 d_st_charAt_15
def f_gn_pick (tx : Nat) (ix : Int32) : Int32 := (if ix < 0 then (0 : Int32) else (bnd (f_st_length tx) (fun r_2 => (if r_2 ≤ ix then (0 : Int32) else (bnd (f_st_charAt tx ix) (fun r_4 => r_4))))))
set_option maxHeartbeats 4000000 in
set_option maxRecDepth 100000 in
theorem c_gn_pick (l : Launch) (K : KT) (tx : Nat) (ix : Int32) : Met l y_gn_pick w_gn_pick ({ frames := 4, cells := 0, slots := 0, locals := 85 } : Room) (va_Pc [.ref (kK K tx), .int ix] (fun U => pRO K [] U ∧ tx < nSTR ∧ True)) (vp_Si (fun r => f_gn_pick tx ix = r ∧ narrow .char (.int r) = .int r)) 0 0 (fun _ => False) := by
  refine Met.ofW (cc := b_gn_pick) (maxL := 2) (ret := (some .char)) (by decide) rfl ?_
  intro p e s m args below meth c s₁ B hml hv
  obtain ⟨rfl, ⟨hP, hK, hG⟩, h_tx, -⟩ := hv
  have hx := B.exec
  have hb := B.bytes
  have hr := B.returns
  have hts := atoms_spec (ws := w_gn_pick) B.pre
  have hown : s.vm.findClass R_gn = some m.cls := findClass_of_methodNamed B.named
  have hlocks := B.notSynchronized
  have htg := fun w h => hts w (List.mem_cons_of_mem _ h)
  have hS : va_S (fun _ => False) s.heap s.heap [] := va_S.rf
  have hl := lv_entry ([.ref (kK K tx), .int ix]) (n := 2) (Nat.le_of_ble_eq_true rfl)
  rw [lg_entry_eq]
  generalize (lg_sl ([.ref (kK K tx), .int ix]) ++ List.replicate (2 - (lg_sl ([.ref (kK K tx), .int ix])).length) Slot.unset).toArray = ls at hl ⊢
  have hl : lv_has ls 2 [(0, .ref (kK K tx)), (1, .int ix)] := hl
  have hF := f_gn_pick.eq_1 tx ix
  refine lv_iload_n hx hb d_gn_pick_0 rfl (lv_at hl 1 rfl) ?_
  refine lv_if_lt (tgt := 20) hx hb d_gn_pick_1 (by decide) (fun c_1 => ?_) (fun c_1 => ?_)
  · have hF := hF.trans (if_pos c_1)
    refine lv_iconst (v := 0) hx hb d_gn_pick_20 (by decide) ?_
    exact W.zret (v := (0 : Int32)) hx hb hr (rfl) (fun t ht hW => ⟨_, rfl, ⟨hF, rfl⟩, ht⟩) hS.2.2 d_gn_pick_21
  · have hF := hF.trans (if_neg c_1)
    refine lv_iload_n hx hb d_gn_pick_4 rfl (lv_at hl 1 rfl) ?_
    refine lv_aload_n hx hb d_gn_pick_5 rfl (lv_at hl 0 rfl) ?_
    have hPc : va_P (kD K) vwCl [] _ := hP.sub [] rfl
    refine vp_callSi (va_Run.run (va_runV (As := []) (rest := [.int ix]) ⟨hx, hb, hml, hown, htg⟩ (c_st_length l K tx) (cwV 0 htg (g_V q_317 q_218 q_219 q_8 (g_w q_220)) rfl rfl rfl ⟨rfl, k_st_length⟩ ⟨Nat.le_of_ble_eq_true rfl, Nat.le_of_ble_eq_true rfl⟩) ⟨ro_blind, vk_recv hG.str h_tx hS, ro_use hPc hK hG hS ⟨h_tx, trivial⟩⟩ rfl rfl hl.1 rfl (lv_room (Nat.le_of_ble_eq_true rfl)) d_gn_pick_6 ⟨Nat.zero_le _, Nat.zero_le _⟩)) (fun r_2 hw_2 => ?_)
    have hF := hF.trans (bnd_s hw_2.1)
    refine lv_icmp_ge (tgt := 20) hx hb d_gn_pick_9 (by decide) (fun c_3 => ?_) (fun c_3 => ?_)
    · have hF := hF.trans (if_pos c_3)
      refine lv_iconst (v := 0) hx hb d_gn_pick_20 (by decide) ?_
      exact W.zret (v := (0 : Int32)) hx hb hr (rfl) (fun t ht hW => ⟨_, rfl, ⟨hF, rfl⟩, ht⟩) hS.2.2 d_gn_pick_21
    · have hF := hF.trans (if_neg c_3)
      refine lv_aload_n hx hb d_gn_pick_12 rfl (lv_at hl 0 rfl) ?_
      refine lv_iload_n hx hb d_gn_pick_13 rfl (lv_at hl 1 rfl) ?_
      have hPc : va_P (kD K) vwCl [] _ := hP.sub [] rfl
      refine vp_callSi (va_Run.run (va_runV (As := [.int ix]) (rest := []) ⟨hx, hb, hml, hown, htg⟩ (c_st_charAt l K tx ix) (cwV 1 htg (g_V q_318 q_319 q_320 q_8 (g_w q_321)) rfl rfl rfl ⟨rfl, k_st_charAt⟩ ⟨Nat.le_of_ble_eq_true rfl, Nat.le_of_ble_eq_true rfl⟩) ⟨ro_blind, vk_recv hG.str h_tx hS, ro_use hPc hK hG hS ⟨h_tx, (sx_in h_tx c_1 hw_2 c_3), trivial⟩⟩ rfl rfl hl.1 rfl (lv_room (Nat.le_of_ble_eq_true rfl)) d_gn_pick_14 ⟨Nat.zero_le _, Nat.zero_le _⟩)) (fun r_4 hw_4 => ?_)
      have hF := hF.trans (bnd_s hw_4.1)
      have hn_4 := hw_4.2
      refine lv_goto (tgt := 21) hx hb d_gn_pick_17 (by decide) ?_
      exact W.zret (v := r_4) hx hb hr (hn_4) (fun t ht hW => ⟨_, rfl, ⟨hF, hn_4⟩, ht⟩) hS.2.2 d_gn_pick_21
