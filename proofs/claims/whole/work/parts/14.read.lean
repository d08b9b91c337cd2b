def f_rd_passes (R : Int32) (L : LnT) (ch : Int32) : Int32 × Int32 := (bnd (f_ln_letter L R) (fun r_1 => (if r_1 = ch then ((1 : Int32), R + (1 : Int32)) else ((0 : Int32), R))))
set_option maxHeartbeats 4000000 in
set_option maxRecDepth 100000 in
theorem c_rd_passes (l : Launch) (K : KT) (sz : Nat) (Rh : Nat) (R : Int32) (Lh La0 : Nat) (L : LnT) (ch : Int32) : Met l y_rd_passes w_rd_passes ({ frames := 1, cells := 0, slots := 0, locals := 21 } : Room) (va_Pc [.ref Rh, .ref Lh, .int ch] (fun U => pMU K [(Rh, .inr (3, [.int R])), (Lh, .inr (1, [.ref La0, .int L.2])), (La0, .inl ((kC K), 100, .inl L.1))] sz U ∧ LnOk L ∧ True)) (va_Qi (fun (r : Int32) (u : Int32) => f_rd_passes R L ch = (r, u) ∧ narrow .boolean (.int r) = .int r ∧ True) (fun (u : Int32) (t : State) => va_P (kD K) vwCl [(Rh, .inr (3, [.int u])), (Lh, .inr (1, [.ref La0, .int L.2])), (La0, .inl ((kC K), 100, .inl L.1))] t.heap ∧ va_D (va_A [(Rh, .inr (3, [.int R])), (Lh, .inr (1, [.ref La0, .int L.2])), (La0, .inl ((kC K), 100, .inl L.1))] sz) [(Rh, .inr (3, [.int u])), (Lh, .inr (1, [.ref La0, .int L.2])), (La0, .inl ((kC K), 100, .inl L.1))]) (va_A [(Rh, .inr (3, [.int R])), (Lh, .inr (1, [.ref La0, .int L.2])), (La0, .inl ((kC K), 100, .inl L.1))] sz)) 0 0 (va_A [(Rh, .inr (3, [.int R])), (Lh, .inr (1, [.ref La0, .int L.2])), (La0, .inl ((kC K), 100, .inl L.1))] sz) := by
  refine Met.ofW (cc := b_rd_passes) (maxL := 3) (ret := (some .boolean)) (by decide) rfl ?_
  intro p e s m args below meth c s₁ B hml hv
  obtain ⟨rfl, ⟨hsz, hP, hK, hD0, hG⟩, ok_L, -⟩ := hv
  have hx := B.exec
  have hb := B.bytes
  have hr := B.returns
  have hts := atoms_spec (ws := w_rd_passes) B.pre
  have hown : s.vm.findClass R_rd = some m.cls := findClass_of_methodNamed B.named
  have hlocks := B.notSynchronized
  have htg := fun w h => hts w (List.mem_cons_of_mem _ h)
  subst hsz
  have hD := hD0.self (sz := s.heap.size)
  generalize hAe : va_A [(Rh, .inr (3, [.int R])), (Lh, .inr (1, [.ref La0, .int L.2])), (La0, .inl ((kC K), 100, .inl L.1))] s.heap.size = A at hD hG ⊢
  have hA : ∀ q : Nat, s.heap.size ≤ q → A q := fun q h => by rw [← hAe]; exact Or.inr h
  have hS : va_S A s.heap s.heap [] := va_S.rf
  have hl := lv_entry ([.ref Rh, .ref Lh, .int ch]) (n := 3) (Nat.le_of_ble_eq_true rfl)
  rw [lg_entry_eq]
  generalize (lg_sl ([.ref Rh, .ref Lh, .int ch]) ++ List.replicate (3 - (lg_sl ([.ref Rh, .ref Lh, .int ch])).length) Slot.unset).toArray = ls at hl ⊢
  have hl : lv_has ls 3 [(0, .ref Rh), (1, .ref Lh), (2, .int ch)] := hl
  have hF := f_rd_passes.eq_1 R L ch
  refine lv_aload_n hx hb d_rd_passes_0 rfl (lv_at hl 1 rfl) ?_
  refine lv_aload_n hx hb d_rd_passes_1 rfl (lv_at hl 0 rfl) ?_
  refine va_get (D := kD K) (ci := 3) (v := .int R) (C := R_rd) (T := T_rd) (N := 1) hx hb htg in_rd hown hK hP 0 rfl rfl 0 (by decide) (htg (.fieldLink R_rd 9 "GameNotation$RecordReader" "place" "I") q_47) (fun _ h9 => h9) rfl d_rd_passes_2 ?_
  have hPc : va_P (kD K) vwCl [(Lh, .inr (1, [.ref La0, .int L.2])), (La0, .inl ((kC K), 100, .inl L.1))] _ := hP.sub [1, 2] rfl
  refine vp_callSi (va_Run.run (va_runV (As := [.int R]) (rest := []) ⟨hx, hb, hml, hown, htg⟩ (c_ln_letter l K Lh La0 L R) (cwV 1 htg (g_V q_202 q_178 q_179 q_2 (g_w q_180)) rfl rfl rfl ⟨rfl, k_ln_letter⟩ ⟨Nat.le_of_ble_eq_true rfl, Nat.le_of_ble_eq_true rfl⟩) ⟨ro_blind, va_recv hK hPc (ci := 1) (q0 := 0) rfl rfl, ro_use hPc hK hG hS ⟨(by assumption), trivial⟩⟩ rfl rfl hl.1 rfl (lv_room (Nat.le_of_ble_eq_true rfl)) d_rd_passes_5 ⟨Nat.zero_le _, Nat.zero_le _⟩)) (fun r_1 hw_1 => ?_)
  have hF := hF.trans (bnd_s hw_1.1)
  have hn_1 := hw_1.2
  refine lv_iload_n hx hb d_rd_passes_8 rfl (lv_at hl 2 rfl) ?_
  refine lv_icmp_eq (tgt := 14) hx hb d_rd_passes_9 (by decide) (fun c_2 => ?_) (fun c_2 => ?_)
  · have hF := hF.trans (if_pos c_2)
    refine lv_aload_n hx hb d_rd_passes_14 rfl (lv_at hl 0 rfl) ?_
    refine lv_dup hx hb d_rd_passes_15 rfl ?_
    refine va_get (D := kD K) (ci := 3) (v := .int R) (C := R_rd) (T := T_rd) (N := 1) hx hb htg in_rd hown hK hP 0 rfl rfl 0 (by decide) (htg (.fieldLink R_rd 9 "GameNotation$RecordReader" "place" "I") q_47) (fun _ h9 => h9) rfl d_rd_passes_16 ?_
    refine lv_iconst (v := 1) hx hb d_rd_passes_19 (by decide) ?_
    refine lv_iadd hx hb d_rd_passes_20 ?_
    refine va_put (D := kD K) (ci := 3) (v := .int (R + (1 : Int32))) (ty := .int) (C := R_rd) (T := T_rd) (N := 1) hx hb htg in_rd ty_rd ty_rd_ok nm_rd hown hK hP hD hS 0 rfl rfl 0 (by decide) (htg (.fieldLink R_rd 9 "GameNotation$RecordReader" "place" "I") q_47) (fun _ h9 => h9) rfl (by decide +kernel) rfl rfl (Nat.le_of_ble_eq_true rfl) d_rd_passes_21 (fun H locs hP hD hS => ?_)
    have hP : va_P (kD K) vwCl [(Rh, .inr (3, [.int (R + (1 : Int32))])), (Lh, .inr (1, [.ref La0, .int L.2])), (La0, .inl ((kC K), 100, .inl L.1))] _ := hP
    have hD : va_D A [(Rh, .inr (3, [.int (R + (1 : Int32))])), (Lh, .inr (1, [.ref La0, .int L.2])), (La0, .inl ((kC K), 100, .inl L.1))] := hD
    refine lv_iconst (v := 1) hx hb d_rd_passes_24 (by decide) ?_
    exact W.zret (v := (1 : Int32)) hx hb hr (rfl) (fun t ht hW => ⟨⟨(1 : Int32), R + (1 : Int32), rfl, ⟨hF, rfl, trivial⟩, ⟨by rw [ht]; exact hP, hD⟩⟩, hS.F ht⟩) hS.2.2 d_rd_passes_25
  · have hF := hF.trans (if_neg c_2)
    refine lv_iconst (v := 0) hx hb d_rd_passes_12 (by decide) ?_
    exact W.zret (v := (0 : Int32)) hx hb hr (rfl) (fun t ht hW => ⟨⟨(0 : Int32), R, rfl, ⟨hF, rfl, trivial⟩, ⟨by rw [ht]; exact hP, hD⟩⟩, hS.F ht⟩) hS.2.2 d_rd_passes_13
def f_rd_readNumber_L11 (L : LnT) (most : Int32) : Nat → Int32 → Int32 → Int32 → Int32 → Int32 × Int32
  | 0, _, _, _, Rw => (0, Rw)
  | n + 1, v3, v4, v5, Rw => (if (5 : Int32) ≤ v5 then (if (Rw - v3) ≤ (1 : Int32) then (if (Rw - v3) = 0 then ((-1 : Int32), Rw) else (if v4 ≤ most then (v4, Rw) else ((-1 : Int32), Rw))) else (bnd (f_ln_letter L v3) (fun r_5 => (if r_5 = (48 : Int32) then (if (Rw - v3) = 0 then ((-1 : Int32), Rw) else ((-1 : Int32), Rw)) else (if (Rw - v3) = 0 then ((-1 : Int32), Rw) else (if v4 ≤ most then (v4, Rw) else ((-1 : Int32), Rw))))))) else (bnd (f_ln_letter L Rw) (fun r_10 => (bnd (f_rd_isDigit r_10) (fun r_11 => (if r_11 = 0 then (if (Rw - v3) ≤ (1 : Int32) then (if (Rw - v3) = 0 then ((-1 : Int32), Rw) else (if v4 ≤ most then (v4, Rw) else ((-1 : Int32), Rw))) else (bnd (f_ln_letter L v3) (fun r_16 => (if r_16 = (48 : Int32) then (if (Rw - v3) = 0 then ((-1 : Int32), Rw) else ((-1 : Int32), Rw)) else (if (Rw - v3) = 0 then ((-1 : Int32), Rw) else (if v4 ≤ most then (v4, Rw) else ((-1 : Int32), Rw))))))) else (bnd (f_ln_letter L Rw) (fun r_21 => (f_rd_readNumber_L11 L most  n v3 ((v4 * (10 : Int32)) + (r_21 - (48 : Int32))) (v5 + (1 : Int32)) (Rw + (1 : Int32)))))))))))
def f_rd_readNumber (R : Int32) (L : LnT) (most : Int32) : Int32 × Int32 := (f_rd_readNumber_L11 L most  6 R (0 : Int32) (0 : Int32) R)
set_option maxHeartbeats 4000000 in
set_option maxRecDepth 100000 in
theorem c_rd_readNumber (l : Launch) (K : KT) (sz : Nat) (Rh : Nat) (R : Int32) (Lh La0 : Nat) (L : LnT) (most : Int32) : Met l y_rd_readNumber w_rd_readNumber ({ frames := 1, cells := 0, slots := 0, locals := 21 } : Room) (va_Pc [.ref Rh, .ref Lh, .int most] (fun U => pMU K [(Rh, .inr (3, [.int R])), (Lh, .inr (1, [.ref La0, .int L.2])), (La0, .inl ((kC K), 100, .inl L.1))] sz U ∧ LnOk L ∧ True)) (va_Qi (fun (r : Int32) (u : Int32) => f_rd_readNumber R L most = (r, u) ∧ True) (fun (u : Int32) (t : State) => va_P (kD K) vwCl [(Rh, .inr (3, [.int u])), (Lh, .inr (1, [.ref La0, .int L.2])), (La0, .inl ((kC K), 100, .inl L.1))] t.heap ∧ va_D (va_A [(Rh, .inr (3, [.int R])), (Lh, .inr (1, [.ref La0, .int L.2])), (La0, .inl ((kC K), 100, .inl L.1))] sz) [(Rh, .inr (3, [.int u])), (Lh, .inr (1, [.ref La0, .int L.2])), (La0, .inl ((kC K), 100, .inl L.1))]) (va_A [(Rh, .inr (3, [.int R])), (Lh, .inr (1, [.ref La0, .int L.2])), (La0, .inl ((kC K), 100, .inl L.1))] sz)) 0 0 (va_A [(Rh, .inr (3, [.int R])), (Lh, .inr (1, [.ref La0, .int L.2])), (La0, .inl ((kC K), 100, .inl L.1))] sz) := by
  refine Met.ofW (cc := b_rd_readNumber) (maxL := 7) (ret := (some .int)) (by decide) rfl ?_
  intro p e s m args below meth c s₁ B hml hv
  obtain ⟨rfl, ⟨hsz, hP, hK, hD0, hG⟩, ok_L, -⟩ := hv
  have hx := B.exec
  have hb := B.bytes
  have hr := B.returns
  have hts := atoms_spec (ws := w_rd_readNumber) B.pre
  have hown : s.vm.findClass R_rd = some m.cls := findClass_of_methodNamed B.named
  have hlocks := B.notSynchronized
  have htg := fun w h => hts w (List.mem_cons_of_mem _ h)
  subst hsz
  have hD := hD0.self (sz := s.heap.size)
  generalize hAe : va_A [(Rh, .inr (3, [.int R])), (Lh, .inr (1, [.ref La0, .int L.2])), (La0, .inl ((kC K), 100, .inl L.1))] s.heap.size = A at hD hG ⊢
  have hA : ∀ q : Nat, s.heap.size ≤ q → A q := fun q h => by rw [← hAe]; exact Or.inr h
  have hS : va_S A s.heap s.heap [] := va_S.rf
  have hl := lv_entry ([.ref Rh, .ref Lh, .int most]) (n := 7) (Nat.le_of_ble_eq_true rfl)
  rw [lg_entry_eq]
  generalize (lg_sl ([.ref Rh, .ref Lh, .int most]) ++ List.replicate (7 - (lg_sl ([.ref Rh, .ref Lh, .int most])).length) Slot.unset).toArray = ls at hl ⊢
  have hl : lv_has ls 7 [(0, .ref Rh), (1, .ref Lh), (2, .int most)] := hl
  have hF := f_rd_readNumber.eq_1 R L most
  refine lv_aload_n hx hb d_rd_readNumber_0 rfl (lv_at hl 0 rfl) ?_
  refine va_get (D := kD K) (ci := 3) (v := .int R) (C := R_rd) (T := T_rd) (N := 1) hx hb htg in_rd hown hK hP 0 rfl rfl 0 (by decide) (htg (.fieldLink R_rd 9 "GameNotation$RecordReader" "place" "I") q_47) (fun _ h9 => h9) rfl d_rd_readNumber_1 ?_
  refine lv_istore_n (lv' := [(3, .int R), (0, .ref Rh), (1, .ref Lh), (2, .int most)]) hx hb d_rd_readNumber_4 rfl hl (by decide) rfl (fun ls hl => ?_)
  refine lv_iconst (v := 0) hx hb d_rd_readNumber_5 (by decide) ?_
  refine lv_istore (lv' := [(4, .int (0 : Int32)), (3, .int R), (0, .ref Rh), (1, .ref Lh), (2, .int most)]) hx hb d_rd_readNumber_6 hl (by decide) rfl (fun ls hl => ?_)
  refine lv_iconst (v := 0) hx hb d_rd_readNumber_8 (by decide) ?_
  refine lv_istore (lv' := [(5, .int (0 : Int32)), (4, .int (0 : Int32)), (3, .int R), (0, .ref Rh), (1, .ref Lh), (2, .int most)]) hx hb d_rd_readNumber_9 hl (by decide) rfl (fun ls hl => ?_)
  have loop11 : ∀ (n11 : Nat) (v3 : Int32) (v4 : Int32) (v5 : Int32) (Rw : Int32) (H : Heap) (locs : List Loc) (ls : Array Slot), 0 ≤ v5.toInt → (5 - v5.toInt).toNat < n11 → va_P (kD K) vwCl [(Rh, .inr (3, [.int Rw])), (Lh, .inr (1, [.ref La0, .int L.2])), (La0, .inl ((kC K), 100, .inl L.1))] H → va_D A [(Rh, .inr (3, [.int Rw])), (Lh, .inr (1, [.ref La0, .int L.2])), (La0, .inl ((kC K), 100, .inl L.1))] → va_S A s.heap H locs → lv_has ls 7 [(0, .ref Rh), (1, .ref Lh), (2, .int most), (3, .int v3), (4, .int v4), (5, .int v5)] → f_rd_readNumber R L most = f_rd_readNumber_L11 L most  n11 v3 v4 v5 Rw → W p l e (headSpec w_rd_readNumber ({ frames := 1, cells := 0, slots := 0, locals := 21 } : Room)).room s m ([(.ref Rh : Value), .ref Lh, .int most].toArray) below meth c H locs 0 0 (MQ below (va_Qi (fun (r : Int32) (u : Int32) => f_rd_readNumber R L most = (r, u) ∧ True) (fun (u : Int32) (t : State) => va_P (kD K) vwCl [(Rh, .inr (3, [.int u])), (Lh, .inr (1, [.ref La0, .int L.2])), (La0, .inl ((kC K), 100, .inl L.1))] t.heap ∧ va_D (A) [(Rh, .inr (3, [.int u])), (Lh, .inr (1, [.ref La0, .int L.2])), (La0, .inl ((kC K), 100, .inl L.1))]) (A)) ([(.ref Rh : Value), .ref Lh, .int most].toArray) s 0 0 (A)) (F0 m 11 ls []) := by
    intro n11
    induction n11 with
    | zero =>
      intro _ _ _ _ _ _ _ _ hz
      exact absurd hz (Nat.not_lt_zero _)
    | succ n11 ih11 =>
      intro v3 v4 v5 Rw H locs ls i0 hm hP hD hS hl hF
      rw [f_rd_readNumber_L11] at hF
      refine lv_iload hx hb d_rd_readNumber_11 (lv_at hl 5 rfl) ?_
      refine lv_iconst (v := 5) hx hb d_rd_readNumber_13 (by decide) ?_
      refine lv_icmp_ge (tgt := 66) hx hb d_rd_readNumber_14 (by decide) (fun c_1 => ?_) (fun c_1 => ?_)
      · have hF := hF.trans (if_pos c_1)
        refine lv_aload_n hx hb d_rd_readNumber_66 rfl (lv_at hl 0 rfl) ?_
        refine va_get (D := kD K) (ci := 3) (v := .int Rw) (C := R_rd) (T := T_rd) (N := 1) hx hb htg in_rd hown hK hP 0 rfl rfl 0 (by decide) (htg (.fieldLink R_rd 9 "GameNotation$RecordReader" "place" "I") q_47) (fun _ h9 => h9) rfl d_rd_readNumber_67 ?_
        refine lv_iload_n hx hb d_rd_readNumber_70 rfl (lv_at hl 3 rfl) ?_
        refine lv_isub hx hb d_rd_readNumber_71 ?_
        refine lv_istore (lv' := [(5, .int (Rw - v3)), (0, .ref Rh), (1, .ref Lh), (2, .int most), (3, .int v3), (4, .int v4)]) hx hb d_rd_readNumber_72 hl (by decide) rfl (fun ls hl => ?_)
        refine lv_iload hx hb d_rd_readNumber_74 (lv_at hl 0 rfl) ?_
        refine lv_iconst (v := 1) hx hb d_rd_readNumber_76 (by decide) ?_
        refine lv_icmp_le (tgt := 94) hx hb d_rd_readNumber_77 (by decide) (fun c_2 => ?_) (fun c_2 => ?_)
        · have hF := hF.trans (if_pos c_2)
          refine lv_iconst (v := 0) hx hb d_rd_readNumber_94 (by decide) ?_
          refine lv_istore (lv' := [(6, .int (0 : Int32)), (5, .int (Rw - v3)), (0, .ref Rh), (1, .ref Lh), (2, .int most), (3, .int v3), (4, .int v4)]) hx hb d_rd_readNumber_95 hl (by decide) rfl (fun ls hl => ?_)
          refine lv_iload hx hb d_rd_readNumber_97 (lv_at hl 1 rfl) ?_
          refine lv_if_eq (tgt := 113) hx hb d_rd_readNumber_99 (by decide) (fun c_3 => ?_) (fun c_3 => ?_)
          · have hF := hF.trans (if_pos c_3)
            refine lv_iconst (v := -1) hx hb d_rd_readNumber_113 (by decide) ?_
            refine lv_goto (tgt := 119) hx hb d_rd_readNumber_114 (by decide) ?_
            exact W.iret (v := (-1 : Int32)) hx hb hr (fun t ht hW => ⟨⟨(-1 : Int32), Rw, rfl, ⟨hF, trivial⟩, ⟨by rw [ht]; exact hP, hD⟩⟩, hS.F ht⟩) hS.2.2 d_rd_readNumber_119
          · have hF := hF.trans (if_neg c_3)
            refine lv_iload hx hb d_rd_readNumber_102 (lv_at hl 0 rfl) ?_
            refine lv_if_ne (tgt := 113) hx hb d_rd_readNumber_104 (by decide) (fun c => False.elim (by revert c; decide)) (fun _ => ?_)
            refine lv_iload hx hb d_rd_readNumber_107 (lv_at hl 6 rfl) ?_
            refine lv_iload_n hx hb d_rd_readNumber_109 rfl (lv_at hl 4 rfl) ?_
            refine lv_icmp_le (tgt := 117) hx hb d_rd_readNumber_110 (by decide) (fun c_4 => ?_) (fun c_4 => ?_)
            · have hF := hF.trans (if_pos c_4)
              refine lv_iload hx hb d_rd_readNumber_117 (lv_at hl 6 rfl) ?_
              exact W.iret (v := v4) hx hb hr (fun t ht hW => ⟨⟨v4, Rw, rfl, ⟨hF, trivial⟩, ⟨by rw [ht]; exact hP, hD⟩⟩, hS.F ht⟩) hS.2.2 d_rd_readNumber_119
            · have hF := hF.trans (if_neg c_4)
              refine lv_iconst (v := -1) hx hb d_rd_readNumber_113 (by decide) ?_
              refine lv_goto (tgt := 119) hx hb d_rd_readNumber_114 (by decide) ?_
              exact W.iret (v := (-1 : Int32)) hx hb hr (fun t ht hW => ⟨⟨(-1 : Int32), Rw, rfl, ⟨hF, trivial⟩, ⟨by rw [ht]; exact hP, hD⟩⟩, hS.F ht⟩) hS.2.2 d_rd_readNumber_119
        · have hF := hF.trans (if_neg c_2)
          refine lv_aload_n hx hb d_rd_readNumber_80 rfl (lv_at hl 2 rfl) ?_
          refine lv_iload_n hx hb d_rd_readNumber_81 rfl (lv_at hl 4 rfl) ?_
          have hPc : va_P (kD K) vwCl [(Lh, .inr (1, [.ref La0, .int L.2])), (La0, .inl ((kC K), 100, .inl L.1))] _ := hP.sub [1, 2] rfl
          refine vp_callSi (va_Run.run (va_runV (As := [.int v3]) (rest := []) ⟨hx, hb, hml, hown, htg⟩ (c_ln_letter l K Lh La0 L v3) (cwV 1 htg (g_V q_202 q_178 q_179 q_2 (g_w q_180)) rfl rfl rfl ⟨rfl, k_ln_letter⟩ ⟨Nat.le_of_ble_eq_true rfl, Nat.le_of_ble_eq_true rfl⟩) ⟨ro_blind, va_recv hK hPc (ci := 1) (q0 := 0) rfl rfl, ro_use hPc hK hG hS ⟨(by assumption), trivial⟩⟩ rfl rfl hl.1 rfl (lv_room (Nat.le_of_ble_eq_true rfl)) d_rd_readNumber_82 ⟨Nat.zero_le _, Nat.zero_le _⟩)) (fun r_5 hw_5 => ?_)
          have hF := hF.trans (bnd_s hw_5.1)
          have hn_5 := hw_5.2
          refine lv_bipush (v := 48) hx hb d_rd_readNumber_85 (by decide) ?_
          refine lv_icmp_ne (tgt := 94) hx hb d_rd_readNumber_87 (by decide) (fun c_6 => ?_) (fun c_6 => ?_)
          · have hF := hF.trans (if_neg c_6)
            refine lv_iconst (v := 0) hx hb d_rd_readNumber_94 (by decide) ?_
            refine lv_istore (lv' := [(6, .int (0 : Int32)), (5, .int (Rw - v3)), (0, .ref Rh), (1, .ref Lh), (2, .int most), (3, .int v3), (4, .int v4)]) hx hb d_rd_readNumber_95 hl (by decide) rfl (fun ls hl => ?_)
            refine lv_iload hx hb d_rd_readNumber_97 (lv_at hl 1 rfl) ?_
            refine lv_if_eq (tgt := 113) hx hb d_rd_readNumber_99 (by decide) (fun c_7 => ?_) (fun c_7 => ?_)
            · have hF := hF.trans (if_pos c_7)
              refine lv_iconst (v := -1) hx hb d_rd_readNumber_113 (by decide) ?_
              refine lv_goto (tgt := 119) hx hb d_rd_readNumber_114 (by decide) ?_
              exact W.iret (v := (-1 : Int32)) hx hb hr (fun t ht hW => ⟨⟨(-1 : Int32), Rw, rfl, ⟨hF, trivial⟩, ⟨by rw [ht]; exact hP, hD⟩⟩, hS.F ht⟩) hS.2.2 d_rd_readNumber_119
            · have hF := hF.trans (if_neg c_7)
              refine lv_iload hx hb d_rd_readNumber_102 (lv_at hl 0 rfl) ?_
              refine lv_if_ne (tgt := 113) hx hb d_rd_readNumber_104 (by decide) (fun c => False.elim (by revert c; decide)) (fun _ => ?_)
              refine lv_iload hx hb d_rd_readNumber_107 (lv_at hl 6 rfl) ?_
              refine lv_iload_n hx hb d_rd_readNumber_109 rfl (lv_at hl 4 rfl) ?_
              refine lv_icmp_le (tgt := 117) hx hb d_rd_readNumber_110 (by decide) (fun c_8 => ?_) (fun c_8 => ?_)
              · have hF := hF.trans (if_pos c_8)
                refine lv_iload hx hb d_rd_readNumber_117 (lv_at hl 6 rfl) ?_
                exact W.iret (v := v4) hx hb hr (fun t ht hW => ⟨⟨v4, Rw, rfl, ⟨hF, trivial⟩, ⟨by rw [ht]; exact hP, hD⟩⟩, hS.F ht⟩) hS.2.2 d_rd_readNumber_119
              · have hF := hF.trans (if_neg c_8)
                refine lv_iconst (v := -1) hx hb d_rd_readNumber_113 (by decide) ?_
                refine lv_goto (tgt := 119) hx hb d_rd_readNumber_114 (by decide) ?_
                exact W.iret (v := (-1 : Int32)) hx hb hr (fun t ht hW => ⟨⟨(-1 : Int32), Rw, rfl, ⟨hF, trivial⟩, ⟨by rw [ht]; exact hP, hD⟩⟩, hS.F ht⟩) hS.2.2 d_rd_readNumber_119
          · have hF := hF.trans (if_pos c_6)
            refine lv_iconst (v := 1) hx hb d_rd_readNumber_90 (by decide) ?_
            refine lv_goto (tgt := 95) hx hb d_rd_readNumber_91 (by decide) ?_
            refine lv_istore (lv' := [(6, .int (1 : Int32)), (5, .int (Rw - v3)), (0, .ref Rh), (1, .ref Lh), (2, .int most), (3, .int v3), (4, .int v4)]) hx hb d_rd_readNumber_95 hl (by decide) rfl (fun ls hl => ?_)
            refine lv_iload hx hb d_rd_readNumber_97 (lv_at hl 1 rfl) ?_
            refine lv_if_eq (tgt := 113) hx hb d_rd_readNumber_99 (by decide) (fun c_9 => ?_) (fun c_9 => ?_)
            · have hF := hF.trans (if_pos c_9)
              refine lv_iconst (v := -1) hx hb d_rd_readNumber_113 (by decide) ?_
              refine lv_goto (tgt := 119) hx hb d_rd_readNumber_114 (by decide) ?_
              exact W.iret (v := (-1 : Int32)) hx hb hr (fun t ht hW => ⟨⟨(-1 : Int32), Rw, rfl, ⟨hF, trivial⟩, ⟨by rw [ht]; exact hP, hD⟩⟩, hS.F ht⟩) hS.2.2 d_rd_readNumber_119
            · have hF := hF.trans (if_neg c_9)
              refine lv_iload hx hb d_rd_readNumber_102 (lv_at hl 0 rfl) ?_
              refine lv_if_ne (tgt := 113) hx hb d_rd_readNumber_104 (by decide) (fun _ => ?_) (fun c => False.elim (by revert c; decide))
              refine lv_iconst (v := -1) hx hb d_rd_readNumber_113 (by decide) ?_
              refine lv_goto (tgt := 119) hx hb d_rd_readNumber_114 (by decide) ?_
              exact W.iret (v := (-1 : Int32)) hx hb hr (fun t ht hW => ⟨⟨(-1 : Int32), Rw, rfl, ⟨hF, trivial⟩, ⟨by rw [ht]; exact hP, hD⟩⟩, hS.F ht⟩) hS.2.2 d_rd_readNumber_119
      · have hF := hF.trans (if_neg c_1)
        refine lv_aload_n hx hb d_rd_readNumber_17 rfl (lv_at hl 1 rfl) ?_
        refine lv_aload_n hx hb d_rd_readNumber_18 rfl (lv_at hl 0 rfl) ?_
        refine va_get (D := kD K) (ci := 3) (v := .int Rw) (C := R_rd) (T := T_rd) (N := 1) hx hb htg in_rd hown hK hP 0 rfl rfl 0 (by decide) (htg (.fieldLink R_rd 9 "GameNotation$RecordReader" "place" "I") q_47) (fun _ h9 => h9) rfl d_rd_readNumber_19 ?_
        have hPc : va_P (kD K) vwCl [(Lh, .inr (1, [.ref La0, .int L.2])), (La0, .inl ((kC K), 100, .inl L.1))] _ := hP.sub [1, 2] rfl
        refine vp_callSi (va_Run.run (va_runV (As := [.int Rw]) (rest := []) ⟨hx, hb, hml, hown, htg⟩ (c_ln_letter l K Lh La0 L Rw) (cwV 1 htg (g_V q_202 q_178 q_179 q_2 (g_w q_180)) rfl rfl rfl ⟨rfl, k_ln_letter⟩ ⟨Nat.le_of_ble_eq_true rfl, Nat.le_of_ble_eq_true rfl⟩) ⟨ro_blind, va_recv hK hPc (ci := 1) (q0 := 0) rfl rfl, ro_use hPc hK hG hS ⟨(by assumption), trivial⟩⟩ rfl rfl hl.1 rfl (lv_room (Nat.le_of_ble_eq_true rfl)) d_rd_readNumber_22 ⟨Nat.zero_le _, Nat.zero_le _⟩)) (fun r_10 hw_10 => ?_)
        have hF := hF.trans (bnd_s hw_10.1)
        have hn_10 := hw_10.2
        have hPc : va_P (kD K) vwCl [] _ := hP.sub [] rfl
        refine vp_callSi (va_Run.run (va_runS (As := [.int r_10]) (rest := []) ⟨hx, hb, hml, hown, htg⟩ (c_rd_isDigit l K r_10) (va_cwS 1 htg (g_S q_350 q_351 q_3 (g_w q_352)) rfl rfl rfl k_rd_isDigit ⟨Nat.le_of_ble_eq_true rfl, Nat.le_of_ble_eq_true rfl⟩) ⟨ro_blind, ro_use hPc hK hG hS trivial⟩ rfl rfl hl.1 rfl (lv_room (Nat.le_of_ble_eq_true rfl)) d_rd_readNumber_25 ⟨Nat.zero_le _, Nat.zero_le _⟩)) (fun r_11 hw_11 => ?_)
        have hF := hF.trans (bnd_s hw_11.1)
        have hn_11 := hw_11.2
        refine lv_if_eq (tgt := 66) hx hb d_rd_readNumber_28 (by decide) (fun c_12 => ?_) (fun c_12 => ?_)
        · have hF := hF.trans (if_pos c_12)
          refine lv_aload_n hx hb d_rd_readNumber_66 rfl (lv_at hl 0 rfl) ?_
          refine va_get (D := kD K) (ci := 3) (v := .int Rw) (C := R_rd) (T := T_rd) (N := 1) hx hb htg in_rd hown hK hP 0 rfl rfl 0 (by decide) (htg (.fieldLink R_rd 9 "GameNotation$RecordReader" "place" "I") q_47) (fun _ h9 => h9) rfl d_rd_readNumber_67 ?_
          refine lv_iload_n hx hb d_rd_readNumber_70 rfl (lv_at hl 3 rfl) ?_
          refine lv_isub hx hb d_rd_readNumber_71 ?_
          refine lv_istore (lv' := [(5, .int (Rw - v3)), (0, .ref Rh), (1, .ref Lh), (2, .int most), (3, .int v3), (4, .int v4)]) hx hb d_rd_readNumber_72 hl (by decide) rfl (fun ls hl => ?_)
          refine lv_iload hx hb d_rd_readNumber_74 (lv_at hl 0 rfl) ?_
          refine lv_iconst (v := 1) hx hb d_rd_readNumber_76 (by decide) ?_
          refine lv_icmp_le (tgt := 94) hx hb d_rd_readNumber_77 (by decide) (fun c_13 => ?_) (fun c_13 => ?_)
          · have hF := hF.trans (if_pos c_13)
            refine lv_iconst (v := 0) hx hb d_rd_readNumber_94 (by decide) ?_
            refine lv_istore (lv' := [(6, .int (0 : Int32)), (5, .int (Rw - v3)), (0, .ref Rh), (1, .ref Lh), (2, .int most), (3, .int v3), (4, .int v4)]) hx hb d_rd_readNumber_95 hl (by decide) rfl (fun ls hl => ?_)
            refine lv_iload hx hb d_rd_readNumber_97 (lv_at hl 1 rfl) ?_
            refine lv_if_eq (tgt := 113) hx hb d_rd_readNumber_99 (by decide) (fun c_14 => ?_) (fun c_14 => ?_)
            · have hF := hF.trans (if_pos c_14)
              refine lv_iconst (v := -1) hx hb d_rd_readNumber_113 (by decide) ?_
              refine lv_goto (tgt := 119) hx hb d_rd_readNumber_114 (by decide) ?_
              exact W.iret (v := (-1 : Int32)) hx hb hr (fun t ht hW => ⟨⟨(-1 : Int32), Rw, rfl, ⟨hF, trivial⟩, ⟨by rw [ht]; exact hP, hD⟩⟩, hS.F ht⟩) hS.2.2 d_rd_readNumber_119
            · have hF := hF.trans (if_neg c_14)
              refine lv_iload hx hb d_rd_readNumber_102 (lv_at hl 0 rfl) ?_
              refine lv_if_ne (tgt := 113) hx hb d_rd_readNumber_104 (by decide) (fun c => False.elim (by revert c; decide)) (fun _ => ?_)
              refine lv_iload hx hb d_rd_readNumber_107 (lv_at hl 6 rfl) ?_
              refine lv_iload_n hx hb d_rd_readNumber_109 rfl (lv_at hl 4 rfl) ?_
              refine lv_icmp_le (tgt := 117) hx hb d_rd_readNumber_110 (by decide) (fun c_15 => ?_) (fun c_15 => ?_)
              · have hF := hF.trans (if_pos c_15)
                refine lv_iload hx hb d_rd_readNumber_117 (lv_at hl 6 rfl) ?_
                exact W.iret (v := v4) hx hb hr (fun t ht hW => ⟨⟨v4, Rw, rfl, ⟨hF, trivial⟩, ⟨by rw [ht]; exact hP, hD⟩⟩, hS.F ht⟩) hS.2.2 d_rd_readNumber_119
              · have hF := hF.trans (if_neg c_15)
                refine lv_iconst (v := -1) hx hb d_rd_readNumber_113 (by decide) ?_
                refine lv_goto (tgt := 119) hx hb d_rd_readNumber_114 (by decide) ?_
                exact W.iret (v := (-1 : Int32)) hx hb hr (fun t ht hW => ⟨⟨(-1 : Int32), Rw, rfl, ⟨hF, trivial⟩, ⟨by rw [ht]; exact hP, hD⟩⟩, hS.F ht⟩) hS.2.2 d_rd_readNumber_119
          · have hF := hF.trans (if_neg c_13)
            refine lv_aload_n hx hb d_rd_readNumber_80 rfl (lv_at hl 2 rfl) ?_
            refine lv_iload_n hx hb d_rd_readNumber_81 rfl (lv_at hl 4 rfl) ?_
            have hPc : va_P (kD K) vwCl [(Lh, .inr (1, [.ref La0, .int L.2])), (La0, .inl ((kC K), 100, .inl L.1))] _ := hP.sub [1, 2] rfl
            refine vp_callSi (va_Run.run (va_runV (As := [.int v3]) (rest := []) ⟨hx, hb, hml, hown, htg⟩ (c_ln_letter l K Lh La0 L v3) (cwV 1 htg (g_V q_202 q_178 q_179 q_2 (g_w q_180)) rfl rfl rfl ⟨rfl, k_ln_letter⟩ ⟨Nat.le_of_ble_eq_true rfl, Nat.le_of_ble_eq_true rfl⟩) ⟨ro_blind, va_recv hK hPc (ci := 1) (q0 := 0) rfl rfl, ro_use hPc hK hG hS ⟨(by assumption), trivial⟩⟩ rfl rfl hl.1 rfl (lv_room (Nat.le_of_ble_eq_true rfl)) d_rd_readNumber_82 ⟨Nat.zero_le _, Nat.zero_le _⟩)) (fun r_16 hw_16 => ?_)
            have hF := hF.trans (bnd_s hw_16.1)
            have hn_16 := hw_16.2
            refine lv_bipush (v := 48) hx hb d_rd_readNumber_85 (by decide) ?_
            refine lv_icmp_ne (tgt := 94) hx hb d_rd_readNumber_87 (by decide) (fun c_17 => ?_) (fun c_17 => ?_)
            · have hF := hF.trans (if_neg c_17)
              refine lv_iconst (v := 0) hx hb d_rd_readNumber_94 (by decide) ?_
              refine lv_istore (lv' := [(6, .int (0 : Int32)), (5, .int (Rw - v3)), (0, .ref Rh), (1, .ref Lh), (2, .int most), (3, .int v3), (4, .int v4)]) hx hb d_rd_readNumber_95 hl (by decide) rfl (fun ls hl => ?_)
              refine lv_iload hx hb d_rd_readNumber_97 (lv_at hl 1 rfl) ?_
              refine lv_if_eq (tgt := 113) hx hb d_rd_readNumber_99 (by decide) (fun c_18 => ?_) (fun c_18 => ?_)
              · have hF := hF.trans (if_pos c_18)
                refine lv_iconst (v := -1) hx hb d_rd_readNumber_113 (by decide) ?_
                refine lv_goto (tgt := 119) hx hb d_rd_readNumber_114 (by decide) ?_
                exact W.iret (v := (-1 : Int32)) hx hb hr (fun t ht hW => ⟨⟨(-1 : Int32), Rw, rfl, ⟨hF, trivial⟩, ⟨by rw [ht]; exact hP, hD⟩⟩, hS.F ht⟩) hS.2.2 d_rd_readNumber_119
              · have hF := hF.trans (if_neg c_18)
                refine lv_iload hx hb d_rd_readNumber_102 (lv_at hl 0 rfl) ?_
                refine lv_if_ne (tgt := 113) hx hb d_rd_readNumber_104 (by decide) (fun c => False.elim (by revert c; decide)) (fun _ => ?_)
                refine lv_iload hx hb d_rd_readNumber_107 (lv_at hl 6 rfl) ?_
                refine lv_iload_n hx hb d_rd_readNumber_109 rfl (lv_at hl 4 rfl) ?_
                refine lv_icmp_le (tgt := 117) hx hb d_rd_readNumber_110 (by decide) (fun c_19 => ?_) (fun c_19 => ?_)
                · have hF := hF.trans (if_pos c_19)
                  refine lv_iload hx hb d_rd_readNumber_117 (lv_at hl 6 rfl) ?_
                  exact W.iret (v := v4) hx hb hr (fun t ht hW => ⟨⟨v4, Rw, rfl, ⟨hF, trivial⟩, ⟨by rw [ht]; exact hP, hD⟩⟩, hS.F ht⟩) hS.2.2 d_rd_readNumber_119
                · have hF := hF.trans (if_neg c_19)
                  refine lv_iconst (v := -1) hx hb d_rd_readNumber_113 (by decide) ?_
                  refine lv_goto (tgt := 119) hx hb d_rd_readNumber_114 (by decide) ?_
                  exact W.iret (v := (-1 : Int32)) hx hb hr (fun t ht hW => ⟨⟨(-1 : Int32), Rw, rfl, ⟨hF, trivial⟩, ⟨by rw [ht]; exact hP, hD⟩⟩, hS.F ht⟩) hS.2.2 d_rd_readNumber_119
            · have hF := hF.trans (if_pos c_17)
              refine lv_iconst (v := 1) hx hb d_rd_readNumber_90 (by decide) ?_
              refine lv_goto (tgt := 95) hx hb d_rd_readNumber_91 (by decide) ?_
              refine lv_istore (lv' := [(6, .int (1 : Int32)), (5, .int (Rw - v3)), (0, .ref Rh), (1, .ref Lh), (2, .int most), (3, .int v3), (4, .int v4)]) hx hb d_rd_readNumber_95 hl (by decide) rfl (fun ls hl => ?_)
              refine lv_iload hx hb d_rd_readNumber_97 (lv_at hl 1 rfl) ?_
              refine lv_if_eq (tgt := 113) hx hb d_rd_readNumber_99 (by decide) (fun c_20 => ?_) (fun c_20 => ?_)
              · have hF := hF.trans (if_pos c_20)
                refine lv_iconst (v := -1) hx hb d_rd_readNumber_113 (by decide) ?_
                refine lv_goto (tgt := 119) hx hb d_rd_readNumber_114 (by decide) ?_
                exact W.iret (v := (-1 : Int32)) hx hb hr (fun t ht hW => ⟨⟨(-1 : Int32), Rw, rfl, ⟨hF, trivial⟩, ⟨by rw [ht]; exact hP, hD⟩⟩, hS.F ht⟩) hS.2.2 d_rd_readNumber_119
              · have hF := hF.trans (if_neg c_20)
                refine lv_iload hx hb d_rd_readNumber_102 (lv_at hl 0 rfl) ?_
                refine lv_if_ne (tgt := 113) hx hb d_rd_readNumber_104 (by decide) (fun _ => ?_) (fun c => False.elim (by revert c; decide))
                refine lv_iconst (v := -1) hx hb d_rd_readNumber_113 (by decide) ?_
                refine lv_goto (tgt := 119) hx hb d_rd_readNumber_114 (by decide) ?_
                exact W.iret (v := (-1 : Int32)) hx hb hr (fun t ht hW => ⟨⟨(-1 : Int32), Rw, rfl, ⟨hF, trivial⟩, ⟨by rw [ht]; exact hP, hD⟩⟩, hS.F ht⟩) hS.2.2 d_rd_readNumber_119
        · have hF := hF.trans (if_neg c_12)
          refine lv_iload hx hb d_rd_readNumber_31 (lv_at hl 4 rfl) ?_
          refine lv_bipush (v := 10) hx hb d_rd_readNumber_33 (by decide) ?_
          refine lv_imul hx hb d_rd_readNumber_35 ?_
          refine lv_aload_n hx hb d_rd_readNumber_36 rfl (lv_at hl 1 rfl) ?_
          refine lv_aload_n hx hb d_rd_readNumber_37 rfl (lv_at hl 0 rfl) ?_
          refine va_get (D := kD K) (ci := 3) (v := .int Rw) (C := R_rd) (T := T_rd) (N := 1) hx hb htg in_rd hown hK hP 0 rfl rfl 0 (by decide) (htg (.fieldLink R_rd 9 "GameNotation$RecordReader" "place" "I") q_47) (fun _ h9 => h9) rfl d_rd_readNumber_38 ?_
          have hPc : va_P (kD K) vwCl [(Lh, .inr (1, [.ref La0, .int L.2])), (La0, .inl ((kC K), 100, .inl L.1))] _ := hP.sub [1, 2] rfl
          refine vp_callSi (va_Run.run (va_runV (As := [.int Rw]) (rest := [.int (v4 * (10 : Int32))]) ⟨hx, hb, hml, hown, htg⟩ (c_ln_letter l K Lh La0 L Rw) (cwV 1 htg (g_V q_202 q_178 q_179 q_2 (g_w q_180)) rfl rfl rfl ⟨rfl, k_ln_letter⟩ ⟨Nat.le_of_ble_eq_true rfl, Nat.le_of_ble_eq_true rfl⟩) ⟨ro_blind, va_recv hK hPc (ci := 1) (q0 := 0) rfl rfl, ro_use hPc hK hG hS ⟨(by assumption), trivial⟩⟩ rfl rfl hl.1 rfl (lv_room (Nat.le_of_ble_eq_true rfl)) d_rd_readNumber_41 ⟨Nat.zero_le _, Nat.zero_le _⟩)) (fun r_21 hw_21 => ?_)
          have hF := hF.trans (bnd_s hw_21.1)
          have hn_21 := hw_21.2
          refine lv_bipush (v := 48) hx hb d_rd_readNumber_44 (by decide) ?_
          refine lv_isub hx hb d_rd_readNumber_46 ?_
          refine lv_iadd hx hb d_rd_readNumber_47 ?_
          refine lv_istore (lv' := [(4, .int ((v4 * (10 : Int32)) + (r_21 - (48 : Int32)))), (0, .ref Rh), (1, .ref Lh), (2, .int most), (3, .int v3), (5, .int v5)]) hx hb d_rd_readNumber_48 hl (by decide) rfl (fun ls hl => ?_)
          refine lv_aload_n hx hb d_rd_readNumber_50 rfl (lv_at hl 1 rfl) ?_
          refine lv_dup hx hb d_rd_readNumber_51 rfl ?_
          refine va_get (D := kD K) (ci := 3) (v := .int Rw) (C := R_rd) (T := T_rd) (N := 1) hx hb htg in_rd hown hK hP 0 rfl rfl 0 (by decide) (htg (.fieldLink R_rd 9 "GameNotation$RecordReader" "place" "I") q_47) (fun _ h9 => h9) rfl d_rd_readNumber_52 ?_
          refine lv_iconst (v := 1) hx hb d_rd_readNumber_55 (by decide) ?_
          refine lv_iadd hx hb d_rd_readNumber_56 ?_
          refine va_put (D := kD K) (ci := 3) (v := .int (Rw + (1 : Int32))) (ty := .int) (C := R_rd) (T := T_rd) (N := 1) hx hb htg in_rd ty_rd ty_rd_ok nm_rd hown hK hP hD hS 0 rfl rfl 0 (by decide) (htg (.fieldLink R_rd 9 "GameNotation$RecordReader" "place" "I") q_47) (fun _ h9 => h9) rfl (by decide +kernel) rfl rfl (Nat.le_of_ble_eq_true rfl) d_rd_readNumber_57 (fun H locs hP hD hS => ?_)
          have hP : va_P (kD K) vwCl [(Rh, .inr (3, [.int (Rw + (1 : Int32))])), (Lh, .inr (1, [.ref La0, .int L.2])), (La0, .inl ((kC K), 100, .inl L.1))] _ := hP
          have hD : va_D A [(Rh, .inr (3, [.int (Rw + (1 : Int32))])), (Lh, .inr (1, [.ref La0, .int L.2])), (La0, .inl ((kC K), 100, .inl L.1))] := hD
          refine lv_iinc (v := v5 + (1 : Int32)) (lv' := [(5, .int (v5 + (1 : Int32))), (4, .int ((v4 * (10 : Int32)) + (r_21 - (48 : Int32)))), (0, .ref Rh), (1, .ref Lh), (2, .int most), (3, .int v3)]) hx hb d_rd_readNumber_60 hl (k := 5) rfl rfl (by decide) rfl (fun ls hl => ?_)
          refine lv_goto (tgt := 11) hx hb d_rd_readNumber_63 (by decide) ?_
          exact ih11  v3 ((v4 * (10 : Int32)) + (r_21 - (48 : Int32))) (v5 + (1 : Int32)) (Rw + (1 : Int32)) _ _ ls  (lp_s i0 c_1) (lp_d i0 c_1 (by decide) hm) hP hD hS (lv_sub hl [2, 3, 4, 5, 1, 0] rfl) hF
  exact loop11 6 R (0 : Int32) (0 : Int32) R _ _ ls  (by decide) (by decide) hP hD hS (lv_sub hl [3, 4, 5, 2, 1, 0] rfl) hF
def f_rd_readSide (R : Int32) (P : PsT) (L : LnT) : Int32 × Int32 × PsT := (bnd2 (f_rd_passes R L (98 : Int32)) (fun r_1 u_1 => (if r_1 = 0 then (bnd2 (f_rd_passes u_1 L (119 : Int32)) (fun r_3 u_3 => (if r_3 = 0 then ((0 : Int32), (u_3, (P.1, (0 : Int32), P.2.2.1, P.2.2.2.1, P.2.2.2.2.1, P.2.2.2.2.2))) else ((1 : Int32), (u_3, (P.1, (0 : Int32), P.2.2.1, P.2.2.2.1, P.2.2.2.2.1, P.2.2.2.2.2)))))) else ((1 : Int32), (u_1, (P.1, (1 : Int32), P.2.2.1, P.2.2.2.1, P.2.2.2.2.1, P.2.2.2.2.2))))))
set_option maxHeartbeats 4000000 in
set_option maxRecDepth 100000 in
theorem c_rd_readSide (l : Launch) (K : KT) (sz : Nat) (Rh : Nat) (R : Int32) (Ph Pa0 : Nat) (P : PsT) (Lh La0 : Nat) (L : LnT) : Met l y_rd_readSide w_rd_readSide ({ frames := 2, cells := 0, slots := 0, locals := 43 } : Room) (va_Pc [.ref Rh, .ref Ph, .ref Lh] (fun U => pMU K [(Rh, .inr (3, [.int R])), (Ph, .inr (2, [.ref Pa0, .int P.2.1, .int P.2.2.1, .int P.2.2.2.1, .int P.2.2.2.2.1, .int P.2.2.2.2.2])), (Pa0, .inl ((kI K), 64, .inl P.1)), (Lh, .inr (1, [.ref La0, .int L.2])), (La0, .inl ((kC K), 100, .inl L.1))] sz U ∧ LnOk L ∧ True)) (va_Qi (fun (r : Int32) (u : Int32 × PsT) => f_rd_readSide R P L = (r, u) ∧ narrow .boolean (.int r) = .int r ∧ True) (fun (u : Int32 × PsT) (t : State) => va_P (kD K) vwCl [(Rh, .inr (3, [.int u.1])), (Ph, .inr (2, [.ref Pa0, .int u.2.2.1, .int u.2.2.2.1, .int u.2.2.2.2.1, .int u.2.2.2.2.2.1, .int u.2.2.2.2.2.2])), (Pa0, .inl ((kI K), 64, .inl u.2.1)), (Lh, .inr (1, [.ref La0, .int L.2])), (La0, .inl ((kC K), 100, .inl L.1))] t.heap ∧ va_D (va_A [(Rh, .inr (3, [.int R])), (Ph, .inr (2, [.ref Pa0, .int P.2.1, .int P.2.2.1, .int P.2.2.2.1, .int P.2.2.2.2.1, .int P.2.2.2.2.2])), (Pa0, .inl ((kI K), 64, .inl P.1)), (Lh, .inr (1, [.ref La0, .int L.2])), (La0, .inl ((kC K), 100, .inl L.1))] sz) [(Rh, .inr (3, [.int u.1])), (Ph, .inr (2, [.ref Pa0, .int u.2.2.1, .int u.2.2.2.1, .int u.2.2.2.2.1, .int u.2.2.2.2.2.1, .int u.2.2.2.2.2.2])), (Pa0, .inl ((kI K), 64, .inl u.2.1)), (Lh, .inr (1, [.ref La0, .int L.2])), (La0, .inl ((kC K), 100, .inl L.1))]) (va_A [(Rh, .inr (3, [.int R])), (Ph, .inr (2, [.ref Pa0, .int P.2.1, .int P.2.2.1, .int P.2.2.2.1, .int P.2.2.2.2.1, .int P.2.2.2.2.2])), (Pa0, .inl ((kI K), 64, .inl P.1)), (Lh, .inr (1, [.ref La0, .int L.2])), (La0, .inl ((kC K), 100, .inl L.1))] sz)) 0 0 (va_A [(Rh, .inr (3, [.int R])), (Ph, .inr (2, [.ref Pa0, .int P.2.1, .int P.2.2.1, .int P.2.2.2.1, .int P.2.2.2.2.1, .int P.2.2.2.2.2])), (Pa0, .inl ((kI K), 64, .inl P.1)), (Lh, .inr (1, [.ref La0, .int L.2])), (La0, .inl ((kC K), 100, .inl L.1))] sz) := by
  refine Met.ofW (cc := b_rd_readSide) (maxL := 3) (ret := (some .boolean)) (by decide) rfl ?_
  intro p e s m args below meth c s₁ B hml hv
  obtain ⟨rfl, ⟨hsz, hP, hK, hD0, hG⟩, ok_L, -⟩ := hv
  have hx := B.exec
  have hb := B.bytes
  have hr := B.returns
  have hts := atoms_spec (ws := w_rd_readSide) B.pre
  have hown : s.vm.findClass R_rd = some m.cls := findClass_of_methodNamed B.named
  have hlocks := B.notSynchronized
  have htg := fun w h => hts w (List.mem_cons_of_mem _ h)
  subst hsz
  have hD := hD0.self (sz := s.heap.size)
  generalize hAe : va_A [(Rh, .inr (3, [.int R])), (Ph, .inr (2, [.ref Pa0, .int P.2.1, .int P.2.2.1, .int P.2.2.2.1, .int P.2.2.2.2.1, .int P.2.2.2.2.2])), (Pa0, .inl ((kI K), 64, .inl P.1)), (Lh, .inr (1, [.ref La0, .int L.2])), (La0, .inl ((kC K), 100, .inl L.1))] s.heap.size = A at hD hG ⊢
  have hA : ∀ q : Nat, s.heap.size ≤ q → A q := fun q h => by rw [← hAe]; exact Or.inr h
  have hS : va_S A s.heap s.heap [] := va_S.rf
  have hl := lv_entry ([.ref Rh, .ref Ph, .ref Lh]) (n := 3) (Nat.le_of_ble_eq_true rfl)
  rw [lg_entry_eq]
  generalize (lg_sl ([.ref Rh, .ref Ph, .ref Lh]) ++ List.replicate (3 - (lg_sl ([.ref Rh, .ref Ph, .ref Lh])).length) Slot.unset).toArray = ls at hl ⊢
  have hl : lv_has ls 3 [(0, .ref Rh), (1, .ref Ph), (2, .ref Lh)] := hl
  have hF := f_rd_readSide.eq_1 R P L
  refine lv_aload_n hx hb d_rd_readSide_0 rfl (lv_at hl 1 rfl) ?_
  refine lv_aload_n hx hb d_rd_readSide_1 rfl (lv_at hl 0 rfl) ?_
  refine lv_aload_n hx hb d_rd_readSide_2 rfl (lv_at hl 2 rfl) ?_
  refine lv_bipush (v := 98) hx hb d_rd_readSide_3 (by decide) ?_
  have hPc : va_P (kD K) vwCl [(Rh, .inr (3, [.int R])), (Lh, .inr (1, [.ref La0, .int L.2])), (La0, .inl ((kC K), 100, .inl L.1))] _ := hP.sub [0, 3, 4] rfl
  have hDc : va_D A [(Rh, .inr (3, [.int R])), (Lh, .inr (1, [.ref La0, .int L.2])), (La0, .inl ((kC K), 100, .inl L.1))] := hD.sub [0, 3, 4] (by decide) rfl
  have hFc := va_free (wc := [(Rh, .inr (3, [.int R])), (Lh, .inr (1, [.ref La0, .int L.2])), (La0, .inl ((kC K), 100, .inl L.1))]) hD hS hA [0, 3, 4] rfl
  refine va_calli (va_runV (As := [.ref Lh, .int (98 : Int32)]) (rest := [.ref Ph]) ⟨hx, hb, hml, hown, htg⟩ (c_rd_passes l K _ Rh R Lh La0 L (98 : Int32)) (cwV 2 htg (g_V q_300 q_302 qs_2 q_3 (g_w q_303)) rfl rfl rfl ⟨rfl, k_rd_passes⟩ ⟨Nat.le_of_ble_eq_true rfl, Nat.le_of_ble_eq_true rfl⟩) ⟨mu_blind, va_recv hK hPc (ci := 3) (q0 := 0) rfl rfl, mu_use hPc hK hDc hG hS hFc ⟨(by assumption), trivial⟩⟩ rfl rfl hl.1 rfl (lv_room (Nat.le_of_ble_eq_true rfl)) d_rd_readSide_5 ⟨Nat.zero_le _, Nat.zero_le _⟩) hS (fun q _ h => hFc q h) hFc (fun r_1 u_1 t H1 locs ht hvm hw_1 hB hz1 hk1 hS => ?_)
  obtain ⟨hP1, hD1⟩ := hB
  rw [ht] at hP1
  obtain ⟨hP, hD⟩ := va_join (wr := [(Ph, .inr (2, [.ref Pa0, .int P.2.1, .int P.2.2.1, .int P.2.2.2.1, .int P.2.2.2.2.1, .int P.2.2.2.2.2])), (Pa0, .inl ((kI K), 64, .inl P.1))]) (w1 := [(Rh, .inr (3, [.int u_1])), (Lh, .inr (1, [.ref La0, .int L.2])), (La0, .inl ((kC K), 100, .inl L.1))]) hP hD [0, 3, 4] [1, 2] rfl rfl (by decide) (by decide) hk1 hFc hP1 hD1
  have hP : va_P (kD K) vwCl [(Rh, .inr (3, [.int u_1])), (Ph, .inr (2, [.ref Pa0, .int P.2.1, .int P.2.2.1, .int P.2.2.2.1, .int P.2.2.2.2.1, .int P.2.2.2.2.2])), (Pa0, .inl ((kI K), 64, .inl P.1)), (Lh, .inr (1, [.ref La0, .int L.2])), (La0, .inl ((kC K), 100, .inl L.1))] H1 := hP.sub [2, 0, 1, 3, 4] rfl
  have hD : va_D A [(Rh, .inr (3, [.int u_1])), (Ph, .inr (2, [.ref Pa0, .int P.2.1, .int P.2.2.1, .int P.2.2.2.1, .int P.2.2.2.2.1, .int P.2.2.2.2.2])), (Pa0, .inl ((kI K), 64, .inl P.1)), (Lh, .inr (1, [.ref La0, .int L.2])), (La0, .inl ((kC K), 100, .inl L.1))] := hD.sub [2, 0, 1, 3, 4] (by decide) rfl
  generalize H1 = H at hP hS ⊢
  have hF := hF.trans (bnd2_s hw_1.1)
  have hn_1 := hw_1.2.1
  refine lv_if_eq (tgt := 15) hx hb d_rd_readSide_8 (by decide) (fun c_2 => ?_) (fun c_2 => ?_)
  · have hF := hF.trans (if_pos c_2)
    refine lv_iconst (v := 0) hx hb d_rd_readSide_15 (by decide) ?_
    refine va_putN (D := kD K) (ci := 2) (v := .int (0 : Int32)) (ty := .int) (C := R_ps) (T := T_ps) (N := 6) hx hb htg in_ps ty_ps ty_ps_ok nm_ps hown hK hP hD hS 1 rfl rfl 1 (by decide) (va_Nw.use rfl (hG.nw 0 rfl)) (fun _ h9 => h9) rfl (by decide +kernel) rfl rfl (Nat.le_of_ble_eq_true rfl) d_rd_readSide_16 (fun H locs hP hD hS => ?_)
    have hP : va_P (kD K) vwCl [(Rh, .inr (3, [.int u_1])), (Ph, .inr (2, [.ref Pa0, .int (0 : Int32), .int P.2.2.1, .int P.2.2.2.1, .int P.2.2.2.2.1, .int P.2.2.2.2.2])), (Pa0, .inl ((kI K), 64, .inl P.1)), (Lh, .inr (1, [.ref La0, .int L.2])), (La0, .inl ((kC K), 100, .inl L.1))] _ := hP
    have hD : va_D A [(Rh, .inr (3, [.int u_1])), (Ph, .inr (2, [.ref Pa0, .int (0 : Int32), .int P.2.2.1, .int P.2.2.2.1, .int P.2.2.2.2.1, .int P.2.2.2.2.2])), (Pa0, .inl ((kI K), 64, .inl P.1)), (Lh, .inr (1, [.ref La0, .int L.2])), (La0, .inl ((kC K), 100, .inl L.1))] := hD
    refine lv_aload_n hx hb d_rd_readSide_19 rfl (lv_at hl 1 rfl) ?_
    refine va_getN (D := kD K) (ci := 2) (v := .int (0 : Int32)) (C := R_ps) (T := T_ps) (N := 6) hx hb htg in_ps hown hK hP 1 rfl rfl 1 (by decide) (va_Nw.use rfl (hG.nw 0 rfl)) (fun _ h9 => h9) rfl d_rd_readSide_20 ?_
    refine lv_iconst (v := 1) hx hb d_rd_readSide_23 (by decide) ?_
    refine lv_icmp_eq (tgt := 37) hx hb d_rd_readSide_24 (by decide) (fun c => False.elim (by revert c; decide)) (fun _ => ?_)
    refine lv_aload_n hx hb d_rd_readSide_27 rfl (lv_at hl 0 rfl) ?_
    refine lv_aload_n hx hb d_rd_readSide_28 rfl (lv_at hl 2 rfl) ?_
    refine lv_bipush (v := 119) hx hb d_rd_readSide_29 (by decide) ?_
    have hPc : va_P (kD K) vwCl [(Rh, .inr (3, [.int u_1])), (Lh, .inr (1, [.ref La0, .int L.2])), (La0, .inl ((kC K), 100, .inl L.1))] _ := hP.sub [0, 3, 4] rfl
    have hDc : va_D A [(Rh, .inr (3, [.int u_1])), (Lh, .inr (1, [.ref La0, .int L.2])), (La0, .inl ((kC K), 100, .inl L.1))] := hD.sub [0, 3, 4] (by decide) rfl
    have hFc := va_free (wc := [(Rh, .inr (3, [.int u_1])), (Lh, .inr (1, [.ref La0, .int L.2])), (La0, .inl ((kC K), 100, .inl L.1))]) hD hS hA [0, 3, 4] rfl
    refine va_calli (va_runV (As := [.ref Lh, .int (119 : Int32)]) (rest := []) ⟨hx, hb, hml, hown, htg⟩ (c_rd_passes l K _ Rh u_1 Lh La0 L (119 : Int32)) (cwV 2 htg (g_V q_300 q_302 qs_2 q_3 (g_w q_303)) rfl rfl rfl ⟨rfl, k_rd_passes⟩ ⟨Nat.le_of_ble_eq_true rfl, Nat.le_of_ble_eq_true rfl⟩) ⟨mu_blind, va_recv hK hPc (ci := 3) (q0 := 0) rfl rfl, mu_use hPc hK hDc hG hS hFc ⟨(by assumption), trivial⟩⟩ rfl rfl hl.1 rfl (lv_room (Nat.le_of_ble_eq_true rfl)) d_rd_readSide_31 ⟨Nat.zero_le _, Nat.zero_le _⟩) hS (fun q _ h => hFc q h) hFc (fun r_3 u_3 t H1 locs ht hvm hw_3 hB hz1 hk1 hS => ?_)
    obtain ⟨hP1, hD1⟩ := hB
    rw [ht] at hP1
    obtain ⟨hP, hD⟩ := va_join (wr := [(Ph, .inr (2, [.ref Pa0, .int (0 : Int32), .int P.2.2.1, .int P.2.2.2.1, .int P.2.2.2.2.1, .int P.2.2.2.2.2])), (Pa0, .inl ((kI K), 64, .inl P.1))]) (w1 := [(Rh, .inr (3, [.int u_3])), (Lh, .inr (1, [.ref La0, .int L.2])), (La0, .inl ((kC K), 100, .inl L.1))]) hP hD [0, 3, 4] [1, 2] rfl rfl (by decide) (by decide) hk1 hFc hP1 hD1
    have hP : va_P (kD K) vwCl [(Rh, .inr (3, [.int u_3])), (Ph, .inr (2, [.ref Pa0, .int (0 : Int32), .int P.2.2.1, .int P.2.2.2.1, .int P.2.2.2.2.1, .int P.2.2.2.2.2])), (Pa0, .inl ((kI K), 64, .inl P.1)), (Lh, .inr (1, [.ref La0, .int L.2])), (La0, .inl ((kC K), 100, .inl L.1))] H1 := hP.sub [2, 0, 1, 3, 4] rfl
    have hD : va_D A [(Rh, .inr (3, [.int u_3])), (Ph, .inr (2, [.ref Pa0, .int (0 : Int32), .int P.2.2.1, .int P.2.2.2.1, .int P.2.2.2.2.1, .int P.2.2.2.2.2])), (Pa0, .inl ((kI K), 64, .inl P.1)), (Lh, .inr (1, [.ref La0, .int L.2])), (La0, .inl ((kC K), 100, .inl L.1))] := hD.sub [2, 0, 1, 3, 4] (by decide) rfl
    generalize H1 = H at hP hS ⊢
    have hF := hF.trans (bnd2_s hw_3.1)
    have hn_3 := hw_3.2.1
    refine lv_if_eq (tgt := 41) hx hb d_rd_readSide_34 (by decide) (fun c_4 => ?_) (fun c_4 => ?_)
    · have hF := hF.trans (if_pos c_4)
      refine lv_iconst (v := 0) hx hb d_rd_readSide_41 (by decide) ?_
      exact W.zret (v := (0 : Int32)) hx hb hr (rfl) (fun t ht hW => ⟨⟨(0 : Int32), (u_3, (P.1, (0 : Int32), P.2.2.1, P.2.2.2.1, P.2.2.2.2.1, P.2.2.2.2.2)), rfl, ⟨hF, rfl, trivial⟩, ⟨by rw [ht]; exact hP, hD⟩⟩, hS.F ht⟩) hS.2.2 d_rd_readSide_42
    · have hF := hF.trans (if_neg c_4)
      refine lv_iconst (v := 1) hx hb d_rd_readSide_37 (by decide) ?_
      refine lv_goto (tgt := 42) hx hb d_rd_readSide_38 (by decide) ?_
      exact W.zret (v := (1 : Int32)) hx hb hr (rfl) (fun t ht hW => ⟨⟨(1 : Int32), (u_3, (P.1, (0 : Int32), P.2.2.1, P.2.2.2.1, P.2.2.2.2.1, P.2.2.2.2.2)), rfl, ⟨hF, rfl, trivial⟩, ⟨by rw [ht]; exact hP, hD⟩⟩, hS.F ht⟩) hS.2.2 d_rd_readSide_42
  · have hF := hF.trans (if_neg c_2)
    refine lv_iconst (v := 1) hx hb d_rd_readSide_11 (by decide) ?_
    refine lv_goto (tgt := 16) hx hb d_rd_readSide_12 (by decide) ?_
    refine va_putN (D := kD K) (ci := 2) (v := .int (1 : Int32)) (ty := .int) (C := R_ps) (T := T_ps) (N := 6) hx hb htg in_ps ty_ps ty_ps_ok nm_ps hown hK hP hD hS 1 rfl rfl 1 (by decide) (va_Nw.use rfl (hG.nw 0 rfl)) (fun _ h9 => h9) rfl (by decide +kernel) rfl rfl (Nat.le_of_ble_eq_true rfl) d_rd_readSide_16 (fun H locs hP hD hS => ?_)
    have hP : va_P (kD K) vwCl [(Rh, .inr (3, [.int u_1])), (Ph, .inr (2, [.ref Pa0, .int (1 : Int32), .int P.2.2.1, .int P.2.2.2.1, .int P.2.2.2.2.1, .int P.2.2.2.2.2])), (Pa0, .inl ((kI K), 64, .inl P.1)), (Lh, .inr (1, [.ref La0, .int L.2])), (La0, .inl ((kC K), 100, .inl L.1))] _ := hP
    have hD : va_D A [(Rh, .inr (3, [.int u_1])), (Ph, .inr (2, [.ref Pa0, .int (1 : Int32), .int P.2.2.1, .int P.2.2.2.1, .int P.2.2.2.2.1, .int P.2.2.2.2.2])), (Pa0, .inl ((kI K), 64, .inl P.1)), (Lh, .inr (1, [.ref La0, .int L.2])), (La0, .inl ((kC K), 100, .inl L.1))] := hD
    refine lv_aload_n hx hb d_rd_readSide_19 rfl (lv_at hl 1 rfl) ?_
    refine va_getN (D := kD K) (ci := 2) (v := .int (1 : Int32)) (C := R_ps) (T := T_ps) (N := 6) hx hb htg in_ps hown hK hP 1 rfl rfl 1 (by decide) (va_Nw.use rfl (hG.nw 0 rfl)) (fun _ h9 => h9) rfl d_rd_readSide_20 ?_
    refine lv_iconst (v := 1) hx hb d_rd_readSide_23 (by decide) ?_
    refine lv_icmp_eq (tgt := 37) hx hb d_rd_readSide_24 (by decide) (fun _ => ?_) (fun c => False.elim (by revert c; decide))
    refine lv_iconst (v := 1) hx hb d_rd_readSide_37 (by decide) ?_
    refine lv_goto (tgt := 42) hx hb d_rd_readSide_38 (by decide) ?_
    exact W.zret (v := (1 : Int32)) hx hb hr (rfl) (fun t ht hW => ⟨⟨(1 : Int32), (u_1, (P.1, (1 : Int32), P.2.2.1, P.2.2.2.1, P.2.2.2.2.1, P.2.2.2.2.2)), rfl, ⟨hF, rfl, trivial⟩, ⟨by rw [ht]; exact hP, hD⟩⟩, hS.F ht⟩) hS.2.2 d_rd_readSide_42
def f_rd_readRights_L19 (L : LnT) : Nat → Int32 → Int32 → PsT → Int32 × Int32 × PsT
  | 0, _, Rw, Pw => (0, Rw, Pw)
  | n + 1, v3, Rw, Pw => (bnd (f_st_length 2) (fun r_3 => (if r_3 ≤ v3 then (if Pw.2.2.1 = 0 then ((0 : Int32), (Rw, Pw)) else ((1 : Int32), (Rw, Pw))) else (bnd (f_gn_pick 2 v3) (fun r_6 => (bnd2 (f_rd_passes Rw L r_6) (fun r_7 u_7 => (if r_7 = 0 then (f_rd_readRights_L19 L  n (v3 + (1 : Int32)) u_7 Pw) else (f_rd_readRights_L19 L  n (v3 + (1 : Int32)) u_7 (Pw.1, Pw.2.1, Pw.2.2.1 + ((1 : Int32) <<< (v3 &&& 31)), Pw.2.2.2.1, Pw.2.2.2.2.1, Pw.2.2.2.2.2))))))))))
def f_rd_readRights (R : Int32) (P : PsT) (L : LnT) : Int32 × Int32 × PsT := (bnd2 (f_rd_passes R L (45 : Int32)) (fun r_1 u_1 => (if r_1 = 0 then (f_rd_readRights_L19 L  101 (0 : Int32) u_1 (P.1, P.2.1, (0 : Int32), P.2.2.2.1, P.2.2.2.2.1, P.2.2.2.2.2)) else ((1 : Int32), (u_1, (P.1, P.2.1, (0 : Int32), P.2.2.2.1, P.2.2.2.2.1, P.2.2.2.2.2))))))
set_option maxHeartbeats 4000000 in
set_option maxRecDepth 100000 in
theorem c_rd_readRights (l : Launch) (K : KT) (sz : Nat) (Rh : Nat) (R : Int32) (Ph Pa0 : Nat) (P : PsT) (Lh La0 : Nat) (L : LnT) : Met l y_rd_readRights w_rd_readRights ({ frames := 5, cells := 0, slots := 0, locals := 106 } : Room) (va_Pc [.ref Rh, .ref Ph, .ref Lh] (fun U => pMU K [(Rh, .inr (3, [.int R])), (Ph, .inr (2, [.ref Pa0, .int P.2.1, .int P.2.2.1, .int P.2.2.2.1, .int P.2.2.2.2.1, .int P.2.2.2.2.2])), (Pa0, .inl ((kI K), 64, .inl P.1)), (Lh, .inr (1, [.ref La0, .int L.2])), (La0, .inl ((kC K), 100, .inl L.1))] sz U ∧ LnOk L ∧ True)) (va_Qi (fun (r : Int32) (u : Int32 × PsT) => f_rd_readRights R P L = (r, u) ∧ narrow .boolean (.int r) = .int r ∧ True) (fun (u : Int32 × PsT) (t : State) => va_P (kD K) vwCl [(Rh, .inr (3, [.int u.1])), (Ph, .inr (2, [.ref Pa0, .int u.2.2.1, .int u.2.2.2.1, .int u.2.2.2.2.1, .int u.2.2.2.2.2.1, .int u.2.2.2.2.2.2])), (Pa0, .inl ((kI K), 64, .inl u.2.1)), (Lh, .inr (1, [.ref La0, .int L.2])), (La0, .inl ((kC K), 100, .inl L.1))] t.heap ∧ va_D (va_A [(Rh, .inr (3, [.int R])), (Ph, .inr (2, [.ref Pa0, .int P.2.1, .int P.2.2.1, .int P.2.2.2.1, .int P.2.2.2.2.1, .int P.2.2.2.2.2])), (Pa0, .inl ((kI K), 64, .inl P.1)), (Lh, .inr (1, [.ref La0, .int L.2])), (La0, .inl ((kC K), 100, .inl L.1))] sz) [(Rh, .inr (3, [.int u.1])), (Ph, .inr (2, [.ref Pa0, .int u.2.2.1, .int u.2.2.2.1, .int u.2.2.2.2.1, .int u.2.2.2.2.2.1, .int u.2.2.2.2.2.2])), (Pa0, .inl ((kI K), 64, .inl u.2.1)), (Lh, .inr (1, [.ref La0, .int L.2])), (La0, .inl ((kC K), 100, .inl L.1))]) (va_A [(Rh, .inr (3, [.int R])), (Ph, .inr (2, [.ref Pa0, .int P.2.1, .int P.2.2.1, .int P.2.2.2.1, .int P.2.2.2.2.1, .int P.2.2.2.2.2])), (Pa0, .inl ((kI K), 64, .inl P.1)), (Lh, .inr (1, [.ref La0, .int L.2])), (La0, .inl ((kC K), 100, .inl L.1))] sz)) 0 0 (va_A [(Rh, .inr (3, [.int R])), (Ph, .inr (2, [.ref Pa0, .int P.2.1, .int P.2.2.1, .int P.2.2.2.1, .int P.2.2.2.2.1, .int P.2.2.2.2.2])), (Pa0, .inl ((kI K), 64, .inl P.1)), (Lh, .inr (1, [.ref La0, .int L.2])), (La0, .inl ((kC K), 100, .inl L.1))] sz) := by
  refine Met.ofW (cc := b_rd_readRights) (maxL := 4) (ret := (some .boolean)) (by decide) rfl ?_
  intro p e s m args below meth c s₁ B hml hv
  obtain ⟨rfl, ⟨hsz, hP, hK, hD0, hG⟩, ok_L, -⟩ := hv
  have hx := B.exec
  have hb := B.bytes
  have hr := B.returns
  have hts := atoms_spec (ws := w_rd_readRights) B.pre
  have hown : s.vm.findClass R_rd = some m.cls := findClass_of_methodNamed B.named
  have hlocks := B.notSynchronized
  have htg := fun w h => hts w (List.mem_cons_of_mem _ h)
  subst hsz
  have hD := hD0.self (sz := s.heap.size)
  generalize hAe : va_A [(Rh, .inr (3, [.int R])), (Ph, .inr (2, [.ref Pa0, .int P.2.1, .int P.2.2.1, .int P.2.2.2.1, .int P.2.2.2.2.1, .int P.2.2.2.2.2])), (Pa0, .inl ((kI K), 64, .inl P.1)), (Lh, .inr (1, [.ref La0, .int L.2])), (La0, .inl ((kC K), 100, .inl L.1))] s.heap.size = A at hD hG ⊢
  have hA : ∀ q : Nat, s.heap.size ≤ q → A q := fun q h => by rw [← hAe]; exact Or.inr h
  have hS : va_S A s.heap s.heap [] := va_S.rf
  have hl := lv_entry ([.ref Rh, .ref Ph, .ref Lh]) (n := 4) (Nat.le_of_ble_eq_true rfl)
  rw [lg_entry_eq]
  generalize (lg_sl ([.ref Rh, .ref Ph, .ref Lh]) ++ List.replicate (4 - (lg_sl ([.ref Rh, .ref Ph, .ref Lh])).length) Slot.unset).toArray = ls at hl ⊢
  have hl : lv_has ls 4 [(0, .ref Rh), (1, .ref Ph), (2, .ref Lh)] := hl
  have hF := f_rd_readRights.eq_1 R P L
  refine lv_aload_n hx hb d_rd_readRights_0 rfl (lv_at hl 1 rfl) ?_
  refine lv_iconst (v := 0) hx hb d_rd_readRights_1 (by decide) ?_
  refine va_putN (D := kD K) (ci := 2) (v := .int (0 : Int32)) (ty := .int) (C := R_ps) (T := T_ps) (N := 6) hx hb htg in_ps ty_ps ty_ps_ok nm_ps hown hK hP hD hS 1 rfl rfl 2 (by decide) (va_Nw.use rfl (hG.nw 2 rfl)) (fun _ h9 => h9) rfl (by decide +kernel) rfl rfl (Nat.le_of_ble_eq_true rfl) d_rd_readRights_2 (fun H locs hP hD hS => ?_)
  have hP : va_P (kD K) vwCl [(Rh, .inr (3, [.int R])), (Ph, .inr (2, [.ref Pa0, .int P.2.1, .int (0 : Int32), .int P.2.2.2.1, .int P.2.2.2.2.1, .int P.2.2.2.2.2])), (Pa0, .inl ((kI K), 64, .inl P.1)), (Lh, .inr (1, [.ref La0, .int L.2])), (La0, .inl ((kC K), 100, .inl L.1))] _ := hP
  have hD : va_D A [(Rh, .inr (3, [.int R])), (Ph, .inr (2, [.ref Pa0, .int P.2.1, .int (0 : Int32), .int P.2.2.2.1, .int P.2.2.2.2.1, .int P.2.2.2.2.2])), (Pa0, .inl ((kI K), 64, .inl P.1)), (Lh, .inr (1, [.ref La0, .int L.2])), (La0, .inl ((kC K), 100, .inl L.1))] := hD
  refine lv_aload_n hx hb d_rd_readRights_5 rfl (lv_at hl 0 rfl) ?_
  refine lv_aload_n hx hb d_rd_readRights_6 rfl (lv_at hl 2 rfl) ?_
  refine lv_bipush (v := 45) hx hb d_rd_readRights_7 (by decide) ?_
  have hPc : va_P (kD K) vwCl [(Rh, .inr (3, [.int R])), (Lh, .inr (1, [.ref La0, .int L.2])), (La0, .inl ((kC K), 100, .inl L.1))] _ := hP.sub [0, 3, 4] rfl
  have hDc : va_D A [(Rh, .inr (3, [.int R])), (Lh, .inr (1, [.ref La0, .int L.2])), (La0, .inl ((kC K), 100, .inl L.1))] := hD.sub [0, 3, 4] (by decide) rfl
  have hFc := va_free (wc := [(Rh, .inr (3, [.int R])), (Lh, .inr (1, [.ref La0, .int L.2])), (La0, .inl ((kC K), 100, .inl L.1))]) hD hS hA [0, 3, 4] rfl
  refine va_calli (va_runV (As := [.ref Lh, .int (45 : Int32)]) (rest := []) ⟨hx, hb, hml, hown, htg⟩ (c_rd_passes l K _ Rh R Lh La0 L (45 : Int32)) (cwV 2 htg (g_V q_300 q_302 qs_2 q_3 (g_w q_303)) rfl rfl rfl ⟨rfl, k_rd_passes⟩ ⟨Nat.le_of_ble_eq_true rfl, Nat.le_of_ble_eq_true rfl⟩) ⟨mu_blind, va_recv hK hPc (ci := 3) (q0 := 0) rfl rfl, mu_use hPc hK hDc hG hS hFc ⟨(by assumption), trivial⟩⟩ rfl rfl hl.1 rfl (lv_room (Nat.le_of_ble_eq_true rfl)) d_rd_readRights_9 ⟨Nat.zero_le _, Nat.zero_le _⟩) hS (fun q _ h => hFc q h) hFc (fun r_1 u_1 t H1 locs ht hvm hw_1 hB hz1 hk1 hS => ?_)
  obtain ⟨hP1, hD1⟩ := hB
  rw [ht] at hP1
  obtain ⟨hP, hD⟩ := va_join (wr := [(Ph, .inr (2, [.ref Pa0, .int P.2.1, .int (0 : Int32), .int P.2.2.2.1, .int P.2.2.2.2.1, .int P.2.2.2.2.2])), (Pa0, .inl ((kI K), 64, .inl P.1))]) (w1 := [(Rh, .inr (3, [.int u_1])), (Lh, .inr (1, [.ref La0, .int L.2])), (La0, .inl ((kC K), 100, .inl L.1))]) hP hD [0, 3, 4] [1, 2] rfl rfl (by decide) (by decide) hk1 hFc hP1 hD1
  have hP : va_P (kD K) vwCl [(Rh, .inr (3, [.int u_1])), (Ph, .inr (2, [.ref Pa0, .int P.2.1, .int (0 : Int32), .int P.2.2.2.1, .int P.2.2.2.2.1, .int P.2.2.2.2.2])), (Pa0, .inl ((kI K), 64, .inl P.1)), (Lh, .inr (1, [.ref La0, .int L.2])), (La0, .inl ((kC K), 100, .inl L.1))] H1 := hP.sub [2, 0, 1, 3, 4] rfl
  have hD : va_D A [(Rh, .inr (3, [.int u_1])), (Ph, .inr (2, [.ref Pa0, .int P.2.1, .int (0 : Int32), .int P.2.2.2.1, .int P.2.2.2.2.1, .int P.2.2.2.2.2])), (Pa0, .inl ((kI K), 64, .inl P.1)), (Lh, .inr (1, [.ref La0, .int L.2])), (La0, .inl ((kC K), 100, .inl L.1))] := hD.sub [2, 0, 1, 3, 4] (by decide) rfl
  generalize H1 = H at hP hS ⊢
  have hF := hF.trans (bnd2_s hw_1.1)
  have hn_1 := hw_1.2.1
  refine lv_if_eq (tgt := 17) hx hb d_rd_readRights_12 (by decide) (fun c_2 => ?_) (fun c_2 => ?_)
  · have hF := hF.trans (if_pos c_2)
    refine lv_iconst (v := 0) hx hb d_rd_readRights_17 (by decide) ?_
    refine lv_istore_n (lv' := [(3, .int (0 : Int32)), (0, .ref Rh), (1, .ref Ph), (2, .ref Lh)]) hx hb d_rd_readRights_18 rfl hl (by decide) rfl (fun ls hl => ?_)
    have loop19 : ∀ (n19 : Nat) (v3 : Int32) (Rw : Int32) (Pw : PsT) (H : Heap) (locs : List Loc) (ls : Array Slot), 0 ≤ v3.toInt → (100 - v3.toInt).toNat < n19 → va_P (kD K) vwCl [(Rh, .inr (3, [.int Rw])), (Ph, .inr (2, [.ref Pa0, .int Pw.2.1, .int Pw.2.2.1, .int Pw.2.2.2.1, .int Pw.2.2.2.2.1, .int Pw.2.2.2.2.2])), (Pa0, .inl ((kI K), 64, .inl Pw.1)), (Lh, .inr (1, [.ref La0, .int L.2])), (La0, .inl ((kC K), 100, .inl L.1))] H → va_D A [(Rh, .inr (3, [.int Rw])), (Ph, .inr (2, [.ref Pa0, .int Pw.2.1, .int Pw.2.2.1, .int Pw.2.2.2.1, .int Pw.2.2.2.2.1, .int Pw.2.2.2.2.2])), (Pa0, .inl ((kI K), 64, .inl Pw.1)), (Lh, .inr (1, [.ref La0, .int L.2])), (La0, .inl ((kC K), 100, .inl L.1))] → va_S A s.heap H locs → lv_has ls 4 [(0, .ref Rh), (1, .ref Ph), (2, .ref Lh), (3, .int v3)] → f_rd_readRights R P L = f_rd_readRights_L19 L  n19 v3 Rw Pw → W p l e (headSpec w_rd_readRights ({ frames := 5, cells := 0, slots := 0, locals := 106 } : Room)).room s m ([(.ref Rh : Value), .ref Ph, .ref Lh].toArray) below meth c H locs 0 0 (MQ below (va_Qi (fun (r : Int32) (u : Int32 × PsT) => f_rd_readRights R P L = (r, u) ∧ narrow .boolean (.int r) = .int r ∧ True) (fun (u : Int32 × PsT) (t : State) => va_P (kD K) vwCl [(Rh, .inr (3, [.int u.1])), (Ph, .inr (2, [.ref Pa0, .int u.2.2.1, .int u.2.2.2.1, .int u.2.2.2.2.1, .int u.2.2.2.2.2.1, .int u.2.2.2.2.2.2])), (Pa0, .inl ((kI K), 64, .inl u.2.1)), (Lh, .inr (1, [.ref La0, .int L.2])), (La0, .inl ((kC K), 100, .inl L.1))] t.heap ∧ va_D (A) [(Rh, .inr (3, [.int u.1])), (Ph, .inr (2, [.ref Pa0, .int u.2.2.1, .int u.2.2.2.1, .int u.2.2.2.2.1, .int u.2.2.2.2.2.1, .int u.2.2.2.2.2.2])), (Pa0, .inl ((kI K), 64, .inl u.2.1)), (Lh, .inr (1, [.ref La0, .int L.2])), (La0, .inl ((kC K), 100, .inl L.1))]) (A)) ([(.ref Rh : Value), .ref Ph, .ref Lh].toArray) s 0 0 (A)) (F0 m 19 ls []) := by
      intro n19
      induction n19 with
      | zero =>
        intro _ _ _ _ _ _ _ hz
        exact absurd hz (Nat.not_lt_zero _)
      | succ n19 ih19 =>
        intro v3 Rw Pw H locs ls i0 hm hP hD hS hl hF
        rw [f_rd_readRights_L19] at hF
        refine lv_iload_n hx hb d_rd_readRights_19 rfl (lv_at hl 3 rfl) ?_
        refine va_ldcS hx hb hown (show vk_R R_rd 84 "KQkq" (kK K 2) s from hG.sr 2 (q := ("GameNotation$RecordReader", 84, "KQkq", 2)) rfl) d_rd_readRights_20 ?_
        have hPc : va_P (kD K) vwCl [] _ := hP.sub [] rfl
        refine vp_callSi (va_Run.run (va_runV (As := []) (rest := [.int v3]) ⟨hx, hb, hml, hown, htg⟩ (c_st_length l K 2) (cwV 0 htg (g_V q_313 q_218 q_219 q_8 (g_w q_220)) rfl rfl rfl ⟨rfl, k_st_length⟩ ⟨Nat.le_of_ble_eq_true rfl, Nat.le_of_ble_eq_true rfl⟩) ⟨ro_blind, vk_recv hG.str (by decide) hS, ro_use hPc hK hG hS ⟨(by decide), trivial⟩⟩ rfl rfl hl.1 rfl (lv_room (Nat.le_of_ble_eq_true rfl)) d_rd_readRights_22 ⟨Nat.zero_le _, Nat.zero_le _⟩)) (fun r_3 hw_3 => ?_)
        have hF := hF.trans (bnd_s hw_3.1)
        refine lv_icmp_ge (tgt := 60) hx hb d_rd_readRights_25 (by decide) (fun c_4 => ?_) (fun c_4 => ?_)
        · have hF := hF.trans (if_pos c_4)
          refine lv_aload_n hx hb d_rd_readRights_60 rfl (lv_at hl 1 rfl) ?_
          refine va_getN (D := kD K) (ci := 2) (v := .int Pw.2.2.1) (C := R_ps) (T := T_ps) (N := 6) hx hb htg in_ps hown hK hP 1 rfl rfl 2 (by decide) (va_Nw.use rfl (hG.nw 2 rfl)) (fun _ h9 => h9) rfl d_rd_readRights_61 ?_
          refine lv_if_eq (tgt := 71) hx hb d_rd_readRights_64 (by decide) (fun c_5 => ?_) (fun c_5 => ?_)
          · have hF := hF.trans (if_pos c_5)
            refine lv_iconst (v := 0) hx hb d_rd_readRights_71 (by decide) ?_
            exact W.zret (v := (0 : Int32)) hx hb hr (rfl) (fun t ht hW => ⟨⟨(0 : Int32), (Rw, Pw), rfl, ⟨hF, rfl, trivial⟩, ⟨by rw [ht]; exact hP, hD⟩⟩, hS.F ht⟩) hS.2.2 d_rd_readRights_72
          · have hF := hF.trans (if_neg c_5)
            refine lv_iconst (v := 1) hx hb d_rd_readRights_67 (by decide) ?_
            refine lv_goto (tgt := 72) hx hb d_rd_readRights_68 (by decide) ?_
            exact W.zret (v := (1 : Int32)) hx hb hr (rfl) (fun t ht hW => ⟨⟨(1 : Int32), (Rw, Pw), rfl, ⟨hF, rfl, trivial⟩, ⟨by rw [ht]; exact hP, hD⟩⟩, hS.F ht⟩) hS.2.2 d_rd_readRights_72
        · have hF := hF.trans (if_neg c_4)
          refine lv_aload_n hx hb d_rd_readRights_28 rfl (lv_at hl 0 rfl) ?_
          refine lv_aload_n hx hb d_rd_readRights_29 rfl (lv_at hl 2 rfl) ?_
          refine va_ldcS hx hb hown (show vk_R R_rd 84 "KQkq" (kK K 2) s from hG.sr 2 (q := ("GameNotation$RecordReader", 84, "KQkq", 2)) rfl) d_rd_readRights_30 ?_
          refine lv_iload_n hx hb d_rd_readRights_32 rfl (lv_at hl 3 rfl) ?_
          have hPc : va_P (kD K) vwCl [] _ := hP.sub [] rfl
          refine vp_callSi (va_Run.run (va_runSN (As := [.ref (kK K 2), .int v3]) (rest := [.ref Lh, .ref Rh]) ⟨hx, hb, hml, hown, htg⟩ (c_gn_pick l K 2 v3) (⟨va_cnB 2 htg (g_w q_316) rfl rfl rfl (hG.nw 23 rfl) (htg _ q_1) k_gn_pick ⟨Nat.le_of_ble_eq_true rfl, Nat.le_of_ble_eq_true rfl⟩, htg _ q_315, trivial⟩) ⟨ro_blind, ro_use hPc hK hG hS ⟨(by decide), trivial⟩⟩ rfl rfl hl.1 rfl (lv_room (Nat.le_of_ble_eq_true rfl)) d_rd_readRights_33 ⟨Nat.zero_le _, Nat.zero_le _⟩)) (fun r_6 hw_6 => ?_)
          have hF := hF.trans (bnd_s hw_6.1)
          have hn_6 := hw_6.2
          have hPc : va_P (kD K) vwCl [(Rh, .inr (3, [.int Rw])), (Lh, .inr (1, [.ref La0, .int L.2])), (La0, .inl ((kC K), 100, .inl L.1))] _ := hP.sub [0, 3, 4] rfl
          have hDc : va_D A [(Rh, .inr (3, [.int Rw])), (Lh, .inr (1, [.ref La0, .int L.2])), (La0, .inl ((kC K), 100, .inl L.1))] := hD.sub [0, 3, 4] (by decide) rfl
          have hFc := va_free (wc := [(Rh, .inr (3, [.int Rw])), (Lh, .inr (1, [.ref La0, .int L.2])), (La0, .inl ((kC K), 100, .inl L.1))]) hD hS hA [0, 3, 4] rfl
          refine va_calli (va_runV (As := [.ref Lh, .int r_6]) (rest := []) ⟨hx, hb, hml, hown, htg⟩ (c_rd_passes l K _ Rh Rw Lh La0 L r_6) (cwV 2 htg (g_V q_300 q_302 qs_2 q_3 (g_w q_303)) rfl rfl rfl ⟨rfl, k_rd_passes⟩ ⟨Nat.le_of_ble_eq_true rfl, Nat.le_of_ble_eq_true rfl⟩) ⟨mu_blind, va_recv hK hPc (ci := 3) (q0 := 0) rfl rfl, mu_use hPc hK hDc hG hS hFc ⟨(by assumption), trivial⟩⟩ rfl rfl hl.1 rfl (lv_room (Nat.le_of_ble_eq_true rfl)) d_rd_readRights_36 ⟨Nat.zero_le _, Nat.zero_le _⟩) hS (fun q _ h => hFc q h) hFc (fun r_7 u_7 t H1 locs ht hvm hw_7 hB hz1 hk1 hS => ?_)
          obtain ⟨hP1, hD1⟩ := hB
          rw [ht] at hP1
          obtain ⟨hP, hD⟩ := va_join (wr := [(Ph, .inr (2, [.ref Pa0, .int Pw.2.1, .int Pw.2.2.1, .int Pw.2.2.2.1, .int Pw.2.2.2.2.1, .int Pw.2.2.2.2.2])), (Pa0, .inl ((kI K), 64, .inl Pw.1))]) (w1 := [(Rh, .inr (3, [.int u_7])), (Lh, .inr (1, [.ref La0, .int L.2])), (La0, .inl ((kC K), 100, .inl L.1))]) hP hD [0, 3, 4] [1, 2] rfl rfl (by decide) (by decide) hk1 hFc hP1 hD1
          have hP : va_P (kD K) vwCl [(Rh, .inr (3, [.int u_7])), (Ph, .inr (2, [.ref Pa0, .int Pw.2.1, .int Pw.2.2.1, .int Pw.2.2.2.1, .int Pw.2.2.2.2.1, .int Pw.2.2.2.2.2])), (Pa0, .inl ((kI K), 64, .inl Pw.1)), (Lh, .inr (1, [.ref La0, .int L.2])), (La0, .inl ((kC K), 100, .inl L.1))] H1 := hP.sub [2, 0, 1, 3, 4] rfl
          have hD : va_D A [(Rh, .inr (3, [.int u_7])), (Ph, .inr (2, [.ref Pa0, .int Pw.2.1, .int Pw.2.2.1, .int Pw.2.2.2.1, .int Pw.2.2.2.2.1, .int Pw.2.2.2.2.2])), (Pa0, .inl ((kI K), 64, .inl Pw.1)), (Lh, .inr (1, [.ref La0, .int L.2])), (La0, .inl ((kC K), 100, .inl L.1))] := hD.sub [2, 0, 1, 3, 4] (by decide) rfl
          generalize H1 = H at hP hS ⊢
          have hF := hF.trans (bnd2_s hw_7.1)
          have hn_7 := hw_7.2.1
          refine lv_if_eq (tgt := 54) hx hb d_rd_readRights_39 (by decide) (fun c_8 => ?_) (fun c_8 => ?_)
          · have hF := hF.trans (if_pos c_8)
            refine lv_iinc (v := v3 + (1 : Int32)) (lv' := [(3, .int (v3 + (1 : Int32))), (0, .ref Rh), (1, .ref Ph), (2, .ref Lh)]) hx hb d_rd_readRights_54 hl (k := 3) rfl rfl (by decide) rfl (fun ls hl => ?_)
            refine lv_goto (tgt := 19) hx hb d_rd_readRights_57 (by decide) ?_
            exact ih19  (v3 + (1 : Int32)) u_7 Pw _ _ ls  (lp_s i0 c_4) (lp_d i0 c_4 (sx_le (by decide) hw_3) hm) hP hD hS (lv_sub hl [1, 2, 3, 0] rfl) hF
          · have hF := hF.trans (if_neg c_8)
            refine lv_aload_n hx hb d_rd_readRights_42 rfl (lv_at hl 1 rfl) ?_
            refine lv_dup hx hb d_rd_readRights_43 rfl ?_
            refine va_getN (D := kD K) (ci := 2) (v := .int Pw.2.2.1) (C := R_ps) (T := T_ps) (N := 6) hx hb htg in_ps hown hK hP 1 rfl rfl 2 (by decide) (va_Nw.use rfl (hG.nw 2 rfl)) (fun _ h9 => h9) rfl d_rd_readRights_44 ?_
            refine lv_iconst (v := 1) hx hb d_rd_readRights_47 (by decide) ?_
            refine lv_iload_n hx hb d_rd_readRights_48 rfl (lv_at hl 3 rfl) ?_
            refine lv_ishl hx hb d_rd_readRights_49 ?_
            refine lv_iadd hx hb d_rd_readRights_50 ?_
            refine va_putN (D := kD K) (ci := 2) (v := .int (Pw.2.2.1 + ((1 : Int32) <<< (v3 &&& 31)))) (ty := .int) (C := R_ps) (T := T_ps) (N := 6) hx hb htg in_ps ty_ps ty_ps_ok nm_ps hown hK hP hD hS 1 rfl rfl 2 (by decide) (va_Nw.use rfl (hG.nw 2 rfl)) (fun _ h9 => h9) rfl (by decide +kernel) rfl rfl (Nat.le_of_ble_eq_true rfl) d_rd_readRights_51 (fun H locs hP hD hS => ?_)
            have hP : va_P (kD K) vwCl [(Rh, .inr (3, [.int u_7])), (Ph, .inr (2, [.ref Pa0, .int Pw.2.1, .int (Pw.2.2.1 + ((1 : Int32) <<< (v3 &&& 31))), .int Pw.2.2.2.1, .int Pw.2.2.2.2.1, .int Pw.2.2.2.2.2])), (Pa0, .inl ((kI K), 64, .inl Pw.1)), (Lh, .inr (1, [.ref La0, .int L.2])), (La0, .inl ((kC K), 100, .inl L.1))] _ := hP
            have hD : va_D A [(Rh, .inr (3, [.int u_7])), (Ph, .inr (2, [.ref Pa0, .int Pw.2.1, .int (Pw.2.2.1 + ((1 : Int32) <<< (v3 &&& 31))), .int Pw.2.2.2.1, .int Pw.2.2.2.2.1, .int Pw.2.2.2.2.2])), (Pa0, .inl ((kI K), 64, .inl Pw.1)), (Lh, .inr (1, [.ref La0, .int L.2])), (La0, .inl ((kC K), 100, .inl L.1))] := hD
            refine lv_iinc (v := v3 + (1 : Int32)) (lv' := [(3, .int (v3 + (1 : Int32))), (0, .ref Rh), (1, .ref Ph), (2, .ref Lh)]) hx hb d_rd_readRights_54 hl (k := 3) rfl rfl (by decide) rfl (fun ls hl => ?_)
            refine lv_goto (tgt := 19) hx hb d_rd_readRights_57 (by decide) ?_
            exact ih19  (v3 + (1 : Int32)) u_7 (Pw.1, Pw.2.1, Pw.2.2.1 + ((1 : Int32) <<< (v3 &&& 31)), Pw.2.2.2.1, Pw.2.2.2.2.1, Pw.2.2.2.2.2) _ _ ls  (lp_s i0 c_4) (lp_d i0 c_4 (sx_le (by decide) hw_3) hm) hP hD hS (lv_sub hl [1, 2, 3, 0] rfl) hF
    exact loop19 101 (0 : Int32) u_1 (P.1, P.2.1, (0 : Int32), P.2.2.2.1, P.2.2.2.2.1, P.2.2.2.2.2) _ _ ls  (by decide) (by decide) hP hD hS (lv_sub hl [1, 2, 3, 0] rfl) hF
  · have hF := hF.trans (if_neg c_2)
    refine lv_iconst (v := 1) hx hb d_rd_readRights_15 (by decide) ?_
    exact W.zret (v := (1 : Int32)) hx hb hr (rfl) (fun t ht hW => ⟨⟨(1 : Int32), (u_1, (P.1, P.2.1, (0 : Int32), P.2.2.2.1, P.2.2.2.2.1, P.2.2.2.2.2)), rfl, ⟨hF, rfl, trivial⟩, ⟨by rw [ht]; exact hP, hD⟩⟩, hS.F ht⟩) hS.2.2 d_rd_readRights_16
def f_rd_readPassant (R : Int32) (P : PsT) (L : LnT) : Int32 × Int32 × PsT := (bnd2 (f_rd_passes R L (45 : Int32)) (fun r_1 u_1 => (if r_1 = 0 then (bnd (f_ln_letter L u_1) (fun r_3 => (bnd (f_st_indexOf 3 r_3) (fun r_4 => (if r_4 < 0 then ((0 : Int32), (u_1 + (1 : Int32), (P.1, P.2.1, P.2.2.1, r_4, P.2.2.2.2.1, P.2.2.2.2.2))) else (bnd (f_gn_passantRank P.2.1) (fun r_6 => (bnd2 (f_rd_passes (u_1 + (1 : Int32)) L r_6) (fun r_7 u_7 => (if r_7 = 0 then ((0 : Int32), (u_7, (P.1, P.2.1, P.2.2.1, r_4, P.2.2.2.2.1, P.2.2.2.2.2))) else ((1 : Int32), (u_7, (P.1, P.2.1, P.2.2.1, r_4, P.2.2.2.2.1, P.2.2.2.2.2))))))))))))) else ((1 : Int32), (u_1, (P.1, P.2.1, P.2.2.1, (-1 : Int32), P.2.2.2.2.1, P.2.2.2.2.2))))))
set_option maxHeartbeats 4000000 in
set_option maxRecDepth 100000 in
theorem c_rd_readPassant (l : Launch) (K : KT) (sz : Nat) (Rh : Nat) (R : Int32) (Ph Pa0 : Nat) (P : PsT) (Lh La0 : Nat) (L : LnT) : Met l y_rd_readPassant w_rd_readPassant ({ frames := 4, cells := 0, slots := 0, locals := 91 } : Room) (va_Pc [.ref Rh, .ref Ph, .ref Lh] (fun U => pMU K [(Rh, .inr (3, [.int R])), (Ph, .inr (2, [.ref Pa0, .int P.2.1, .int P.2.2.1, .int P.2.2.2.1, .int P.2.2.2.2.1, .int P.2.2.2.2.2])), (Pa0, .inl ((kI K), 64, .inl P.1)), (Lh, .inr (1, [.ref La0, .int L.2])), (La0, .inl ((kC K), 100, .inl L.1))] sz U ∧ LnOk L ∧ True)) (va_Qi (fun (r : Int32) (u : Int32 × PsT) => f_rd_readPassant R P L = (r, u) ∧ narrow .boolean (.int r) = .int r ∧ True) (fun (u : Int32 × PsT) (t : State) => va_P (kD K) vwCl [(Rh, .inr (3, [.int u.1])), (Ph, .inr (2, [.ref Pa0, .int u.2.2.1, .int u.2.2.2.1, .int u.2.2.2.2.1, .int u.2.2.2.2.2.1, .int u.2.2.2.2.2.2])), (Pa0, .inl ((kI K), 64, .inl u.2.1)), (Lh, .inr (1, [.ref La0, .int L.2])), (La0, .inl ((kC K), 100, .inl L.1))] t.heap ∧ va_D (va_A [(Rh, .inr (3, [.int R])), (Ph, .inr (2, [.ref Pa0, .int P.2.1, .int P.2.2.1, .int P.2.2.2.1, .int P.2.2.2.2.1, .int P.2.2.2.2.2])), (Pa0, .inl ((kI K), 64, .inl P.1)), (Lh, .inr (1, [.ref La0, .int L.2])), (La0, .inl ((kC K), 100, .inl L.1))] sz) [(Rh, .inr (3, [.int u.1])), (Ph, .inr (2, [.ref Pa0, .int u.2.2.1, .int u.2.2.2.1, .int u.2.2.2.2.1, .int u.2.2.2.2.2.1, .int u.2.2.2.2.2.2])), (Pa0, .inl ((kI K), 64, .inl u.2.1)), (Lh, .inr (1, [.ref La0, .int L.2])), (La0, .inl ((kC K), 100, .inl L.1))]) (va_A [(Rh, .inr (3, [.int R])), (Ph, .inr (2, [.ref Pa0, .int P.2.1, .int P.2.2.1, .int P.2.2.2.1, .int P.2.2.2.2.1, .int P.2.2.2.2.2])), (Pa0, .inl ((kI K), 64, .inl P.1)), (Lh, .inr (1, [.ref La0, .int L.2])), (La0, .inl ((kC K), 100, .inl L.1))] sz)) 0 0 (va_A [(Rh, .inr (3, [.int R])), (Ph, .inr (2, [.ref Pa0, .int P.2.1, .int P.2.2.1, .int P.2.2.2.1, .int P.2.2.2.2.1, .int P.2.2.2.2.2])), (Pa0, .inl ((kI K), 64, .inl P.1)), (Lh, .inr (1, [.ref La0, .int L.2])), (La0, .inl ((kC K), 100, .inl L.1))] sz) := by
  refine Met.ofW (cc := b_rd_readPassant) (maxL := 3) (ret := (some .boolean)) (by decide) rfl ?_
  intro p e s m args below meth c s₁ B hml hv
  obtain ⟨rfl, ⟨hsz, hP, hK, hD0, hG⟩, ok_L, -⟩ := hv
  have hx := B.exec
  have hb := B.bytes
  have hr := B.returns
  have hts := atoms_spec (ws := w_rd_readPassant) B.pre
  have hown : s.vm.findClass R_rd = some m.cls := findClass_of_methodNamed B.named
  have hlocks := B.notSynchronized
  have htg := fun w h => hts w (List.mem_cons_of_mem _ h)
  subst hsz
  have hD := hD0.self (sz := s.heap.size)
  generalize hAe : va_A [(Rh, .inr (3, [.int R])), (Ph, .inr (2, [.ref Pa0, .int P.2.1, .int P.2.2.1, .int P.2.2.2.1, .int P.2.2.2.2.1, .int P.2.2.2.2.2])), (Pa0, .inl ((kI K), 64, .inl P.1)), (Lh, .inr (1, [.ref La0, .int L.2])), (La0, .inl ((kC K), 100, .inl L.1))] s.heap.size = A at hD hG ⊢
  have hA : ∀ q : Nat, s.heap.size ≤ q → A q := fun q h => by rw [← hAe]; exact Or.inr h
  have hS : va_S A s.heap s.heap [] := va_S.rf
  have hl := lv_entry ([.ref Rh, .ref Ph, .ref Lh]) (n := 3) (Nat.le_of_ble_eq_true rfl)
  rw [lg_entry_eq]
  generalize (lg_sl ([.ref Rh, .ref Ph, .ref Lh]) ++ List.replicate (3 - (lg_sl ([.ref Rh, .ref Ph, .ref Lh])).length) Slot.unset).toArray = ls at hl ⊢
  have hl : lv_has ls 3 [(0, .ref Rh), (1, .ref Ph), (2, .ref Lh)] := hl
  have hF := f_rd_readPassant.eq_1 R P L
  refine lv_aload_n hx hb d_rd_readPassant_0 rfl (lv_at hl 1 rfl) ?_
  refine lv_iconst (v := -1) hx hb d_rd_readPassant_1 (by decide) ?_
  refine va_putN (D := kD K) (ci := 2) (v := .int (-1 : Int32)) (ty := .int) (C := R_ps) (T := T_ps) (N := 6) hx hb htg in_ps ty_ps ty_ps_ok nm_ps hown hK hP hD hS 1 rfl rfl 3 (by decide) (va_Nw.use rfl (hG.nw 4 rfl)) (fun _ h9 => h9) rfl (by decide +kernel) rfl rfl (Nat.le_of_ble_eq_true rfl) d_rd_readPassant_2 (fun H locs hP hD hS => ?_)
  have hP : va_P (kD K) vwCl [(Rh, .inr (3, [.int R])), (Ph, .inr (2, [.ref Pa0, .int P.2.1, .int P.2.2.1, .int (-1 : Int32), .int P.2.2.2.2.1, .int P.2.2.2.2.2])), (Pa0, .inl ((kI K), 64, .inl P.1)), (Lh, .inr (1, [.ref La0, .int L.2])), (La0, .inl ((kC K), 100, .inl L.1))] _ := hP
  have hD : va_D A [(Rh, .inr (3, [.int R])), (Ph, .inr (2, [.ref Pa0, .int P.2.1, .int P.2.2.1, .int (-1 : Int32), .int P.2.2.2.2.1, .int P.2.2.2.2.2])), (Pa0, .inl ((kI K), 64, .inl P.1)), (Lh, .inr (1, [.ref La0, .int L.2])), (La0, .inl ((kC K), 100, .inl L.1))] := hD
  refine lv_aload_n hx hb d_rd_readPassant_5 rfl (lv_at hl 0 rfl) ?_
  refine lv_aload_n hx hb d_rd_readPassant_6 rfl (lv_at hl 2 rfl) ?_
  refine lv_bipush (v := 45) hx hb d_rd_readPassant_7 (by decide) ?_
  have hPc : va_P (kD K) vwCl [(Rh, .inr (3, [.int R])), (Lh, .inr (1, [.ref La0, .int L.2])), (La0, .inl ((kC K), 100, .inl L.1))] _ := hP.sub [0, 3, 4] rfl
  have hDc : va_D A [(Rh, .inr (3, [.int R])), (Lh, .inr (1, [.ref La0, .int L.2])), (La0, .inl ((kC K), 100, .inl L.1))] := hD.sub [0, 3, 4] (by decide) rfl
  have hFc := va_free (wc := [(Rh, .inr (3, [.int R])), (Lh, .inr (1, [.ref La0, .int L.2])), (La0, .inl ((kC K), 100, .inl L.1))]) hD hS hA [0, 3, 4] rfl
  refine va_calli (va_runV (As := [.ref Lh, .int (45 : Int32)]) (rest := []) ⟨hx, hb, hml, hown, htg⟩ (c_rd_passes l K _ Rh R Lh La0 L (45 : Int32)) (cwV 2 htg (g_V q_300 q_302 qs_2 q_3 (g_w q_303)) rfl rfl rfl ⟨rfl, k_rd_passes⟩ ⟨Nat.le_of_ble_eq_true rfl, Nat.le_of_ble_eq_true rfl⟩) ⟨mu_blind, va_recv hK hPc (ci := 3) (q0 := 0) rfl rfl, mu_use hPc hK hDc hG hS hFc ⟨(by assumption), trivial⟩⟩ rfl rfl hl.1 rfl (lv_room (Nat.le_of_ble_eq_true rfl)) d_rd_readPassant_9 ⟨Nat.zero_le _, Nat.zero_le _⟩) hS (fun q _ h => hFc q h) hFc (fun r_1 u_1 t H1 locs ht hvm hw_1 hB hz1 hk1 hS => ?_)
  obtain ⟨hP1, hD1⟩ := hB
  rw [ht] at hP1
  obtain ⟨hP, hD⟩ := va_join (wr := [(Ph, .inr (2, [.ref Pa0, .int P.2.1, .int P.2.2.1, .int (-1 : Int32), .int P.2.2.2.2.1, .int P.2.2.2.2.2])), (Pa0, .inl ((kI K), 64, .inl P.1))]) (w1 := [(Rh, .inr (3, [.int u_1])), (Lh, .inr (1, [.ref La0, .int L.2])), (La0, .inl ((kC K), 100, .inl L.1))]) hP hD [0, 3, 4] [1, 2] rfl rfl (by decide) (by decide) hk1 hFc hP1 hD1
  have hP : va_P (kD K) vwCl [(Rh, .inr (3, [.int u_1])), (Ph, .inr (2, [.ref Pa0, .int P.2.1, .int P.2.2.1, .int (-1 : Int32), .int P.2.2.2.2.1, .int P.2.2.2.2.2])), (Pa0, .inl ((kI K), 64, .inl P.1)), (Lh, .inr (1, [.ref La0, .int L.2])), (La0, .inl ((kC K), 100, .inl L.1))] H1 := hP.sub [2, 0, 1, 3, 4] rfl
  have hD : va_D A [(Rh, .inr (3, [.int u_1])), (Ph, .inr (2, [.ref Pa0, .int P.2.1, .int P.2.2.1, .int (-1 : Int32), .int P.2.2.2.2.1, .int P.2.2.2.2.2])), (Pa0, .inl ((kI K), 64, .inl P.1)), (Lh, .inr (1, [.ref La0, .int L.2])), (La0, .inl ((kC K), 100, .inl L.1))] := hD.sub [2, 0, 1, 3, 4] (by decide) rfl
  generalize H1 = H at hP hS ⊢
  have hF := hF.trans (bnd2_s hw_1.1)
  have hn_1 := hw_1.2.1
  refine lv_if_eq (tgt := 17) hx hb d_rd_readPassant_12 (by decide) (fun c_2 => ?_) (fun c_2 => ?_)
  · have hF := hF.trans (if_pos c_2)
    refine lv_aload_n hx hb d_rd_readPassant_17 rfl (lv_at hl 1 rfl) ?_
    refine va_ldcS hx hb hown (show vk_R R_rd 96 "abcdefgh" (kK K 3) s from hG.sr 3 (q := ("GameNotation$RecordReader", 96, "abcdefgh", 3)) rfl) d_rd_readPassant_18 ?_
    refine lv_aload_n hx hb d_rd_readPassant_20 rfl (lv_at hl 2 rfl) ?_
    refine lv_aload_n hx hb d_rd_readPassant_21 rfl (lv_at hl 0 rfl) ?_
    refine va_get (D := kD K) (ci := 3) (v := .int u_1) (C := R_rd) (T := T_rd) (N := 1) hx hb htg in_rd hown hK hP 0 rfl rfl 0 (by decide) (htg (.fieldLink R_rd 9 "GameNotation$RecordReader" "place" "I") q_47) (fun _ h9 => h9) rfl d_rd_readPassant_22 ?_
    have hPc : va_P (kD K) vwCl [(Lh, .inr (1, [.ref La0, .int L.2])), (La0, .inl ((kC K), 100, .inl L.1))] _ := hP.sub [3, 4] rfl
    refine vp_callSi (va_Run.run (va_runV (As := [.int u_1]) (rest := [.ref (kK K 3), .ref Ph]) ⟨hx, hb, hml, hown, htg⟩ (c_ln_letter l K Lh La0 L u_1) (cwV 1 htg (g_V q_202 q_178 q_179 q_2 (g_w q_180)) rfl rfl rfl ⟨rfl, k_ln_letter⟩ ⟨Nat.le_of_ble_eq_true rfl, Nat.le_of_ble_eq_true rfl⟩) ⟨ro_blind, va_recv hK hPc (ci := 1) (q0 := 0) rfl rfl, ro_use hPc hK hG hS ⟨(by assumption), trivial⟩⟩ rfl rfl hl.1 rfl (lv_room (Nat.le_of_ble_eq_true rfl)) d_rd_readPassant_25 ⟨Nat.zero_le _, Nat.zero_le _⟩)) (fun r_3 hw_3 => ?_)
    have hF := hF.trans (bnd_s hw_3.1)
    have hn_3 := hw_3.2
    have hPc : va_P (kD K) vwCl [] _ := hP.sub [] rfl
    refine vp_callSi (va_Run.run (va_runV (As := [.int r_3]) (rest := [.ref Ph]) ⟨hx, hb, hml, hown, htg⟩ (c_st_indexOf l K 3 r_3) (cwV 1 htg (g_V q_203 q_204 q_205 q_8 (g_w q_206)) rfl rfl rfl ⟨rfl, k_st_indexOf⟩ ⟨Nat.le_of_ble_eq_true rfl, Nat.le_of_ble_eq_true rfl⟩) ⟨ro_blind, vk_recv hG.str (by decide) hS, ro_use hPc hK hG hS ⟨(by decide), trivial⟩⟩ rfl rfl hl.1 rfl (lv_room (Nat.le_of_ble_eq_true rfl)) d_rd_readPassant_28 ⟨Nat.zero_le _, Nat.zero_le _⟩)) (fun r_4 hw_4 => ?_)
    have hF := hF.trans (bnd_s hw_4.1)
    refine va_putN (D := kD K) (ci := 2) (v := .int r_4) (ty := .int) (C := R_ps) (T := T_ps) (N := 6) hx hb htg in_ps ty_ps ty_ps_ok nm_ps hown hK hP hD hS 1 rfl rfl 3 (by decide) (va_Nw.use rfl (hG.nw 4 rfl)) (fun _ h9 => h9) rfl (by decide +kernel) rfl rfl (Nat.le_of_ble_eq_true rfl) d_rd_readPassant_31 (fun H locs hP hD hS => ?_)
    have hP : va_P (kD K) vwCl [(Rh, .inr (3, [.int u_1])), (Ph, .inr (2, [.ref Pa0, .int P.2.1, .int P.2.2.1, .int r_4, .int P.2.2.2.2.1, .int P.2.2.2.2.2])), (Pa0, .inl ((kI K), 64, .inl P.1)), (Lh, .inr (1, [.ref La0, .int L.2])), (La0, .inl ((kC K), 100, .inl L.1))] _ := hP
    have hD : va_D A [(Rh, .inr (3, [.int u_1])), (Ph, .inr (2, [.ref Pa0, .int P.2.1, .int P.2.2.1, .int r_4, .int P.2.2.2.2.1, .int P.2.2.2.2.2])), (Pa0, .inl ((kI K), 64, .inl P.1)), (Lh, .inr (1, [.ref La0, .int L.2])), (La0, .inl ((kC K), 100, .inl L.1))] := hD
    refine lv_aload_n hx hb d_rd_readPassant_34 rfl (lv_at hl 0 rfl) ?_
    refine lv_dup hx hb d_rd_readPassant_35 rfl ?_
    refine va_get (D := kD K) (ci := 3) (v := .int u_1) (C := R_rd) (T := T_rd) (N := 1) hx hb htg in_rd hown hK hP 0 rfl rfl 0 (by decide) (htg (.fieldLink R_rd 9 "GameNotation$RecordReader" "place" "I") q_47) (fun _ h9 => h9) rfl d_rd_readPassant_36 ?_
    refine lv_iconst (v := 1) hx hb d_rd_readPassant_39 (by decide) ?_
    refine lv_iadd hx hb d_rd_readPassant_40 ?_
    refine va_put (D := kD K) (ci := 3) (v := .int (u_1 + (1 : Int32))) (ty := .int) (C := R_rd) (T := T_rd) (N := 1) hx hb htg in_rd ty_rd ty_rd_ok nm_rd hown hK hP hD hS 0 rfl rfl 0 (by decide) (htg (.fieldLink R_rd 9 "GameNotation$RecordReader" "place" "I") q_47) (fun _ h9 => h9) rfl (by decide +kernel) rfl rfl (Nat.le_of_ble_eq_true rfl) d_rd_readPassant_41 (fun H locs hP hD hS => ?_)
    have hP : va_P (kD K) vwCl [(Rh, .inr (3, [.int (u_1 + (1 : Int32))])), (Ph, .inr (2, [.ref Pa0, .int P.2.1, .int P.2.2.1, .int r_4, .int P.2.2.2.2.1, .int P.2.2.2.2.2])), (Pa0, .inl ((kI K), 64, .inl P.1)), (Lh, .inr (1, [.ref La0, .int L.2])), (La0, .inl ((kC K), 100, .inl L.1))] _ := hP
    have hD : va_D A [(Rh, .inr (3, [.int (u_1 + (1 : Int32))])), (Ph, .inr (2, [.ref Pa0, .int P.2.1, .int P.2.2.1, .int r_4, .int P.2.2.2.2.1, .int P.2.2.2.2.2])), (Pa0, .inl ((kI K), 64, .inl P.1)), (Lh, .inr (1, [.ref La0, .int L.2])), (La0, .inl ((kC K), 100, .inl L.1))] := hD
    refine lv_aload_n hx hb d_rd_readPassant_44 rfl (lv_at hl 1 rfl) ?_
    refine va_getN (D := kD K) (ci := 2) (v := .int r_4) (C := R_ps) (T := T_ps) (N := 6) hx hb htg in_ps hown hK hP 1 rfl rfl 3 (by decide) (va_Nw.use rfl (hG.nw 4 rfl)) (fun _ h9 => h9) rfl d_rd_readPassant_45 ?_
    refine lv_if_lt (tgt := 70) hx hb d_rd_readPassant_48 (by decide) (fun c_5 => ?_) (fun c_5 => ?_)
    · have hF := hF.trans (if_pos c_5)
      refine lv_iconst (v := 0) hx hb d_rd_readPassant_70 (by decide) ?_
      exact W.zret (v := (0 : Int32)) hx hb hr (rfl) (fun t ht hW => ⟨⟨(0 : Int32), (u_1 + (1 : Int32), (P.1, P.2.1, P.2.2.1, r_4, P.2.2.2.2.1, P.2.2.2.2.2)), rfl, ⟨hF, rfl, trivial⟩, ⟨by rw [ht]; exact hP, hD⟩⟩, hS.F ht⟩) hS.2.2 d_rd_readPassant_71
    · have hF := hF.trans (if_neg c_5)
      refine lv_aload_n hx hb d_rd_readPassant_51 rfl (lv_at hl 0 rfl) ?_
      refine lv_aload_n hx hb d_rd_readPassant_52 rfl (lv_at hl 2 rfl) ?_
      refine lv_aload_n hx hb d_rd_readPassant_53 rfl (lv_at hl 1 rfl) ?_
      refine va_getN (D := kD K) (ci := 2) (v := .int P.2.1) (C := R_ps) (T := T_ps) (N := 6) hx hb htg in_ps hown hK hP 1 rfl rfl 1 (by decide) (va_Nw.use rfl (hG.nw 0 rfl)) (fun _ h9 => h9) rfl d_rd_readPassant_54 ?_
      have hPc : va_P (kD K) vwCl [] _ := hP.sub [] rfl
      refine vp_callSi (va_Run.run (va_runSN (As := [.int P.2.1]) (rest := [.ref Lh, .ref Rh]) ⟨hx, hb, hml, hown, htg⟩ (c_gn_passantRank l K P.2.1) (⟨va_cnB 1 htg (g_w q_345) rfl rfl rfl (hG.nw 24 rfl) (htg _ q_1) k_gn_passantRank ⟨Nat.le_of_ble_eq_true rfl, Nat.le_of_ble_eq_true rfl⟩, htg _ q_344, trivial⟩) ⟨ro_blind, ro_use hPc hK hG hS trivial⟩ rfl rfl hl.1 rfl (lv_room (Nat.le_of_ble_eq_true rfl)) d_rd_readPassant_57 ⟨Nat.zero_le _, Nat.zero_le _⟩)) (fun r_6 hw_6 => ?_)
      have hF := hF.trans (bnd_s hw_6.1)
      have hn_6 := hw_6.2
      have hPc : va_P (kD K) vwCl [(Rh, .inr (3, [.int (u_1 + (1 : Int32))])), (Lh, .inr (1, [.ref La0, .int L.2])), (La0, .inl ((kC K), 100, .inl L.1))] _ := hP.sub [0, 3, 4] rfl
      have hDc : va_D A [(Rh, .inr (3, [.int (u_1 + (1 : Int32))])), (Lh, .inr (1, [.ref La0, .int L.2])), (La0, .inl ((kC K), 100, .inl L.1))] := hD.sub [0, 3, 4] (by decide) rfl
      have hFc := va_free (wc := [(Rh, .inr (3, [.int (u_1 + (1 : Int32))])), (Lh, .inr (1, [.ref La0, .int L.2])), (La0, .inl ((kC K), 100, .inl L.1))]) hD hS hA [0, 3, 4] rfl
      refine va_calli (va_runV (As := [.ref Lh, .int r_6]) (rest := []) ⟨hx, hb, hml, hown, htg⟩ (c_rd_passes l K _ Rh (u_1 + (1 : Int32)) Lh La0 L r_6) (cwV 2 htg (g_V q_300 q_302 qs_2 q_3 (g_w q_303)) rfl rfl rfl ⟨rfl, k_rd_passes⟩ ⟨Nat.le_of_ble_eq_true rfl, Nat.le_of_ble_eq_true rfl⟩) ⟨mu_blind, va_recv hK hPc (ci := 3) (q0 := 0) rfl rfl, mu_use hPc hK hDc hG hS hFc ⟨(by assumption), trivial⟩⟩ rfl rfl hl.1 rfl (lv_room (Nat.le_of_ble_eq_true rfl)) d_rd_readPassant_60 ⟨Nat.zero_le _, Nat.zero_le _⟩) hS (fun q _ h => hFc q h) hFc (fun r_7 u_7 t H1 locs ht hvm hw_7 hB hz1 hk1 hS => ?_)
      obtain ⟨hP1, hD1⟩ := hB
      rw [ht] at hP1
      obtain ⟨hP, hD⟩ := va_join (wr := [(Ph, .inr (2, [.ref Pa0, .int P.2.1, .int P.2.2.1, .int r_4, .int P.2.2.2.2.1, .int P.2.2.2.2.2])), (Pa0, .inl ((kI K), 64, .inl P.1))]) (w1 := [(Rh, .inr (3, [.int u_7])), (Lh, .inr (1, [.ref La0, .int L.2])), (La0, .inl ((kC K), 100, .inl L.1))]) hP hD [0, 3, 4] [1, 2] rfl rfl (by decide) (by decide) hk1 hFc hP1 hD1
      have hP : va_P (kD K) vwCl [(Rh, .inr (3, [.int u_7])), (Ph, .inr (2, [.ref Pa0, .int P.2.1, .int P.2.2.1, .int r_4, .int P.2.2.2.2.1, .int P.2.2.2.2.2])), (Pa0, .inl ((kI K), 64, .inl P.1)), (Lh, .inr (1, [.ref La0, .int L.2])), (La0, .inl ((kC K), 100, .inl L.1))] H1 := hP.sub [2, 0, 1, 3, 4] rfl
      have hD : va_D A [(Rh, .inr (3, [.int u_7])), (Ph, .inr (2, [.ref Pa0, .int P.2.1, .int P.2.2.1, .int r_4, .int P.2.2.2.2.1, .int P.2.2.2.2.2])), (Pa0, .inl ((kI K), 64, .inl P.1)), (Lh, .inr (1, [.ref La0, .int L.2])), (La0, .inl ((kC K), 100, .inl L.1))] := hD.sub [2, 0, 1, 3, 4] (by decide) rfl
      generalize H1 = H at hP hS ⊢
      have hF := hF.trans (bnd2_s hw_7.1)
      have hn_7 := hw_7.2.1
      refine lv_if_eq (tgt := 70) hx hb d_rd_readPassant_63 (by decide) (fun c_8 => ?_) (fun c_8 => ?_)
      · have hF := hF.trans (if_pos c_8)
        refine lv_iconst (v := 0) hx hb d_rd_readPassant_70 (by decide) ?_
        exact W.zret (v := (0 : Int32)) hx hb hr (rfl) (fun t ht hW => ⟨⟨(0 : Int32), (u_7, (P.1, P.2.1, P.2.2.1, r_4, P.2.2.2.2.1, P.2.2.2.2.2)), rfl, ⟨hF, rfl, trivial⟩, ⟨by rw [ht]; exact hP, hD⟩⟩, hS.F ht⟩) hS.2.2 d_rd_readPassant_71
      · have hF := hF.trans (if_neg c_8)
        refine lv_iconst (v := 1) hx hb d_rd_readPassant_66 (by decide) ?_
        refine lv_goto (tgt := 71) hx hb d_rd_readPassant_67 (by decide) ?_
        exact W.zret (v := (1 : Int32)) hx hb hr (rfl) (fun t ht hW => ⟨⟨(1 : Int32), (u_7, (P.1, P.2.1, P.2.2.1, r_4, P.2.2.2.2.1, P.2.2.2.2.2)), rfl, ⟨hF, rfl, trivial⟩, ⟨by rw [ht]; exact hP, hD⟩⟩, hS.F ht⟩) hS.2.2 d_rd_readPassant_71
  · have hF := hF.trans (if_neg c_2)
    refine lv_iconst (v := 1) hx hb d_rd_readPassant_15 (by decide) ?_
    exact W.zret (v := (1 : Int32)) hx hb hr (rfl) (fun t ht hW => ⟨⟨(1 : Int32), (u_1, (P.1, P.2.1, P.2.2.1, (-1 : Int32), P.2.2.2.2.1, P.2.2.2.2.2)), rfl, ⟨hF, rfl, trivial⟩, ⟨by rw [ht]; exact hP, hD⟩⟩, hS.F ht⟩) hS.2.2 d_rd_readPassant_16
def f_rd_readRank_L9 (L : LnT) (rk : Int32) : Nat → Int32 → Int32 → Int32 → Int32 → PsT → Int32 × Int32 × PsT
  | 0, _, _, _, Rw, Pw => (0, Rw, Pw)
  | n + 1, v4, v5, v6, Rw, Pw => (if (8 : Int32) ≤ v6 then (if v4 = (8 : Int32) then ((1 : Int32), (Rw, Pw)) else ((0 : Int32), (Rw, Pw))) else (if (8 : Int32) ≤ v4 then (if v4 = (8 : Int32) then ((1 : Int32), (Rw, Pw)) else ((0 : Int32), (Rw, Pw))) else (bnd (f_ln_letter L Rw) (fun r_5 => (bnd (f_st_indexOf 0 r_5) (fun r_6 => (bnd (f_ln_letter L Rw) (fun r_7 => (bnd (f_st_indexOf 1 r_7) (fun r_8 => (if (r_8 + (1 : Int32)) = 0 then (if (r_6 + (1 : Int32)) = 0 then ((0 : Int32), (Rw, Pw)) else (if v5 = 0 then (if (r_8 + (1 : Int32)) ≤ 0 then (f_rd_readRank_L9 L rk  n (v4 + (r_6 + (1 : Int32))) (1 : Int32) (v6 + (1 : Int32)) (Rw + (1 : Int32)) Pw) else (bnd (f_gn_squareOf v4 rk) (fun r_16 => (bnd (f_ps_place Pw r_16 (r_8 + (1 : Int32))) (fun u_17 => (f_rd_readRank_L9 L rk  n (v4 + (1 : Int32)) (1 : Int32) (v6 + (1 : Int32)) (Rw + (1 : Int32)) u_17)))))) else ((0 : Int32), (Rw, Pw)))) else (if (r_8 + (1 : Int32)) ≤ 0 then (f_rd_readRank_L9 L rk  n (v4 + (r_6 + (1 : Int32))) (0 : Int32) (v6 + (1 : Int32)) (Rw + (1 : Int32)) Pw) else (bnd (f_gn_squareOf v4 rk) (fun r_11 => (bnd (f_ps_place Pw r_11 (r_8 + (1 : Int32))) (fun u_12 => (f_rd_readRank_L9 L rk  n (v4 + (1 : Int32)) (0 : Int32) (v6 + (1 : Int32)) (Rw + (1 : Int32)) u_12)))))))))))))))))
def f_rd_readRank (R : Int32) (P : PsT) (L : LnT) (rk : Int32) : Int32 × Int32 × PsT := (f_rd_readRank_L9 L rk  9 (0 : Int32) (0 : Int32) (0 : Int32) R P)
set_option maxHeartbeats 4000000 in
set_option maxRecDepth 100000 in
theorem c_rd_readRank (l : Launch) (K : KT) (sz : Nat) (Rh : Nat) (R : Int32) (Ph Pa0 : Nat) (P : PsT) (Lh La0 : Nat) (L : LnT) (rk : Int32) : Met l y_rd_readRank w_rd_readRank ({ frames := 4, cells := 0, slots := 0, locals := 91 } : Room) (va_Pc [.ref Rh, .ref Ph, .ref Lh, .int rk] (fun U => pMU K [(Rh, .inr (3, [.int R])), (Ph, .inr (2, [.ref Pa0, .int P.2.1, .int P.2.2.1, .int P.2.2.2.1, .int P.2.2.2.2.1, .int P.2.2.2.2.2])), (Pa0, .inl ((kI K), 64, .inl P.1)), (Lh, .inr (1, [.ref La0, .int L.2])), (La0, .inl ((kC K), 100, .inl L.1))] sz U ∧ LnOk L ∧ True)) (va_Qi (fun (r : Int32) (u : Int32 × PsT) => f_rd_readRank R P L rk = (r, u) ∧ narrow .boolean (.int r) = .int r ∧ True) (fun (u : Int32 × PsT) (t : State) => va_P (kD K) vwCl [(Rh, .inr (3, [.int u.1])), (Ph, .inr (2, [.ref Pa0, .int u.2.2.1, .int u.2.2.2.1, .int u.2.2.2.2.1, .int u.2.2.2.2.2.1, .int u.2.2.2.2.2.2])), (Pa0, .inl ((kI K), 64, .inl u.2.1)), (Lh, .inr (1, [.ref La0, .int L.2])), (La0, .inl ((kC K), 100, .inl L.1))] t.heap ∧ va_D (va_A [(Rh, .inr (3, [.int R])), (Ph, .inr (2, [.ref Pa0, .int P.2.1, .int P.2.2.1, .int P.2.2.2.1, .int P.2.2.2.2.1, .int P.2.2.2.2.2])), (Pa0, .inl ((kI K), 64, .inl P.1)), (Lh, .inr (1, [.ref La0, .int L.2])), (La0, .inl ((kC K), 100, .inl L.1))] sz) [(Rh, .inr (3, [.int u.1])), (Ph, .inr (2, [.ref Pa0, .int u.2.2.1, .int u.2.2.2.1, .int u.2.2.2.2.1, .int u.2.2.2.2.2.1, .int u.2.2.2.2.2.2])), (Pa0, .inl ((kI K), 64, .inl u.2.1)), (Lh, .inr (1, [.ref La0, .int L.2])), (La0, .inl ((kC K), 100, .inl L.1))]) (va_A [(Rh, .inr (3, [.int R])), (Ph, .inr (2, [.ref Pa0, .int P.2.1, .int P.2.2.1, .int P.2.2.2.1, .int P.2.2.2.2.1, .int P.2.2.2.2.2])), (Pa0, .inl ((kI K), 64, .inl P.1)), (Lh, .inr (1, [.ref La0, .int L.2])), (La0, .inl ((kC K), 100, .inl L.1))] sz)) 0 0 (va_A [(Rh, .inr (3, [.int R])), (Ph, .inr (2, [.ref Pa0, .int P.2.1, .int P.2.2.1, .int P.2.2.2.1, .int P.2.2.2.2.1, .int P.2.2.2.2.2])), (Pa0, .inl ((kI K), 64, .inl P.1)), (Lh, .inr (1, [.ref La0, .int L.2])), (La0, .inl ((kC K), 100, .inl L.1))] sz) := by
  refine Met.ofW (cc := b_rd_readRank) (maxL := 9) (ret := (some .boolean)) (by decide) rfl ?_
  intro p e s m args below meth c s₁ B hml hv
  obtain ⟨rfl, ⟨hsz, hP, hK, hD0, hG⟩, ok_L, -⟩ := hv
  have hx := B.exec
  have hb := B.bytes
  have hr := B.returns
  have hts := atoms_spec (ws := w_rd_readRank) B.pre
  have hown : s.vm.findClass R_rd = some m.cls := findClass_of_methodNamed B.named
  have hlocks := B.notSynchronized
  have htg := fun w h => hts w (List.mem_cons_of_mem _ h)
  subst hsz
  have hD := hD0.self (sz := s.heap.size)
  generalize hAe : va_A [(Rh, .inr (3, [.int R])), (Ph, .inr (2, [.ref Pa0, .int P.2.1, .int P.2.2.1, .int P.2.2.2.1, .int P.2.2.2.2.1, .int P.2.2.2.2.2])), (Pa0, .inl ((kI K), 64, .inl P.1)), (Lh, .inr (1, [.ref La0, .int L.2])), (La0, .inl ((kC K), 100, .inl L.1))] s.heap.size = A at hD hG ⊢
  have hA : ∀ q : Nat, s.heap.size ≤ q → A q := fun q h => by rw [← hAe]; exact Or.inr h
  have hS : va_S A s.heap s.heap [] := va_S.rf
  have hl := lv_entry ([.ref Rh, .ref Ph, .ref Lh, .int rk]) (n := 9) (Nat.le_of_ble_eq_true rfl)
  rw [lg_entry_eq]
  generalize (lg_sl ([.ref Rh, .ref Ph, .ref Lh, .int rk]) ++ List.replicate (9 - (lg_sl ([.ref Rh, .ref Ph, .ref Lh, .int rk])).length) Slot.unset).toArray = ls at hl ⊢
  have hl : lv_has ls 9 [(0, .ref Rh), (1, .ref Ph), (2, .ref Lh), (3, .int rk)] := hl
  have hF := f_rd_readRank.eq_1 R P L rk
  refine lv_iconst (v := 0) hx hb d_rd_readRank_0 (by decide) ?_
  refine lv_istore (lv' := [(4, .int (0 : Int32)), (0, .ref Rh), (1, .ref Ph), (2, .ref Lh), (3, .int rk)]) hx hb d_rd_readRank_1 hl (by decide) rfl (fun ls hl => ?_)
  refine lv_iconst (v := 0) hx hb d_rd_readRank_3 (by decide) ?_
  refine lv_istore (lv' := [(5, .int (0 : Int32)), (4, .int (0 : Int32)), (0, .ref Rh), (1, .ref Ph), (2, .ref Lh), (3, .int rk)]) hx hb d_rd_readRank_4 hl (by decide) rfl (fun ls hl => ?_)
  refine lv_iconst (v := 0) hx hb d_rd_readRank_6 (by decide) ?_
  refine lv_istore (lv' := [(6, .int (0 : Int32)), (5, .int (0 : Int32)), (4, .int (0 : Int32)), (0, .ref Rh), (1, .ref Ph), (2, .ref Lh), (3, .int rk)]) hx hb d_rd_readRank_7 hl (by decide) rfl (fun ls hl => ?_)
  have loop9 : ∀ (n9 : Nat) (v4 : Int32) (v5 : Int32) (v6 : Int32) (Rw : Int32) (Pw : PsT) (H : Heap) (locs : List Loc) (ls : Array Slot), 0 ≤ v6.toInt → (8 - v6.toInt).toNat < n9 → va_P (kD K) vwCl [(Rh, .inr (3, [.int Rw])), (Ph, .inr (2, [.ref Pa0, .int Pw.2.1, .int Pw.2.2.1, .int Pw.2.2.2.1, .int Pw.2.2.2.2.1, .int Pw.2.2.2.2.2])), (Pa0, .inl ((kI K), 64, .inl Pw.1)), (Lh, .inr (1, [.ref La0, .int L.2])), (La0, .inl ((kC K), 100, .inl L.1))] H → va_D A [(Rh, .inr (3, [.int Rw])), (Ph, .inr (2, [.ref Pa0, .int Pw.2.1, .int Pw.2.2.1, .int Pw.2.2.2.1, .int Pw.2.2.2.2.1, .int Pw.2.2.2.2.2])), (Pa0, .inl ((kI K), 64, .inl Pw.1)), (Lh, .inr (1, [.ref La0, .int L.2])), (La0, .inl ((kC K), 100, .inl L.1))] → va_S A s.heap H locs → lv_has ls 9 [(0, .ref Rh), (1, .ref Ph), (2, .ref Lh), (3, .int rk), (4, .int v4), (5, .int v5), (6, .int v6)] → f_rd_readRank R P L rk = f_rd_readRank_L9 L rk  n9 v4 v5 v6 Rw Pw → W p l e (headSpec w_rd_readRank ({ frames := 4, cells := 0, slots := 0, locals := 91 } : Room)).room s m ([(.ref Rh : Value), .ref Ph, .ref Lh, .int rk].toArray) below meth c H locs 0 0 (MQ below (va_Qi (fun (r : Int32) (u : Int32 × PsT) => f_rd_readRank R P L rk = (r, u) ∧ narrow .boolean (.int r) = .int r ∧ True) (fun (u : Int32 × PsT) (t : State) => va_P (kD K) vwCl [(Rh, .inr (3, [.int u.1])), (Ph, .inr (2, [.ref Pa0, .int u.2.2.1, .int u.2.2.2.1, .int u.2.2.2.2.1, .int u.2.2.2.2.2.1, .int u.2.2.2.2.2.2])), (Pa0, .inl ((kI K), 64, .inl u.2.1)), (Lh, .inr (1, [.ref La0, .int L.2])), (La0, .inl ((kC K), 100, .inl L.1))] t.heap ∧ va_D (A) [(Rh, .inr (3, [.int u.1])), (Ph, .inr (2, [.ref Pa0, .int u.2.2.1, .int u.2.2.2.1, .int u.2.2.2.2.1, .int u.2.2.2.2.2.1, .int u.2.2.2.2.2.2])), (Pa0, .inl ((kI K), 64, .inl u.2.1)), (Lh, .inr (1, [.ref La0, .int L.2])), (La0, .inl ((kC K), 100, .inl L.1))]) (A)) ([(.ref Rh : Value), .ref Ph, .ref Lh, .int rk].toArray) s 0 0 (A)) (F0 m 9 ls []) := by
    intro n9
    induction n9 with
    | zero =>
      intro _ _ _ _ _ _ _ _ _ hz
      exact absurd hz (Nat.not_lt_zero _)
    | succ n9 ih9 =>
      intro v4 v5 v6 Rw Pw H locs ls i0 hm hP hD hS hl hF
      rw [f_rd_readRank_L9] at hF
      refine lv_iload hx hb d_rd_readRank_9 (lv_at hl 6 rfl) ?_
      refine lv_bipush (v := 8) hx hb d_rd_readRank_11 (by decide) ?_
      refine lv_icmp_ge (tgt := 135) hx hb d_rd_readRank_13 (by decide) (fun c_1 => ?_) (fun c_1 => ?_)
      · have hF := hF.trans (if_pos c_1)
        refine lv_iload hx hb d_rd_readRank_135 (lv_at hl 4 rfl) ?_
        refine lv_bipush (v := 8) hx hb d_rd_readRank_137 (by decide) ?_
        refine lv_icmp_ne (tgt := 146) hx hb d_rd_readRank_139 (by decide) (fun c_2 => ?_) (fun c_2 => ?_)
        · have hF := hF.trans (if_neg c_2)
          refine lv_iconst (v := 0) hx hb d_rd_readRank_146 (by decide) ?_
          exact W.zret (v := (0 : Int32)) hx hb hr (rfl) (fun t ht hW => ⟨⟨(0 : Int32), (Rw, Pw), rfl, ⟨hF, rfl, trivial⟩, ⟨by rw [ht]; exact hP, hD⟩⟩, hS.F ht⟩) hS.2.2 d_rd_readRank_147
        · have hF := hF.trans (if_pos c_2)
          refine lv_iconst (v := 1) hx hb d_rd_readRank_142 (by decide) ?_
          refine lv_goto (tgt := 147) hx hb d_rd_readRank_143 (by decide) ?_
          exact W.zret (v := (1 : Int32)) hx hb hr (rfl) (fun t ht hW => ⟨⟨(1 : Int32), (Rw, Pw), rfl, ⟨hF, rfl, trivial⟩, ⟨by rw [ht]; exact hP, hD⟩⟩, hS.F ht⟩) hS.2.2 d_rd_readRank_147
      · have hF := hF.trans (if_neg c_1)
        refine lv_iload hx hb d_rd_readRank_16 (lv_at hl 4 rfl) ?_
        refine lv_bipush (v := 8) hx hb d_rd_readRank_18 (by decide) ?_
        refine lv_icmp_ge (tgt := 135) hx hb d_rd_readRank_20 (by decide) (fun c_3 => ?_) (fun c_3 => ?_)
        · have hF := hF.trans (if_pos c_3)
          refine lv_iload hx hb d_rd_readRank_135 (lv_at hl 4 rfl) ?_
          refine lv_bipush (v := 8) hx hb d_rd_readRank_137 (by decide) ?_
          refine lv_icmp_ne (tgt := 146) hx hb d_rd_readRank_139 (by decide) (fun c_4 => ?_) (fun c_4 => ?_)
          · have hF := hF.trans (if_neg c_4)
            refine lv_iconst (v := 0) hx hb d_rd_readRank_146 (by decide) ?_
            exact W.zret (v := (0 : Int32)) hx hb hr (rfl) (fun t ht hW => ⟨⟨(0 : Int32), (Rw, Pw), rfl, ⟨hF, rfl, trivial⟩, ⟨by rw [ht]; exact hP, hD⟩⟩, hS.F ht⟩) hS.2.2 d_rd_readRank_147
          · have hF := hF.trans (if_pos c_4)
            refine lv_iconst (v := 1) hx hb d_rd_readRank_142 (by decide) ?_
            refine lv_goto (tgt := 147) hx hb d_rd_readRank_143 (by decide) ?_
            exact W.zret (v := (1 : Int32)) hx hb hr (rfl) (fun t ht hW => ⟨⟨(1 : Int32), (Rw, Pw), rfl, ⟨hF, rfl, trivial⟩, ⟨by rw [ht]; exact hP, hD⟩⟩, hS.F ht⟩) hS.2.2 d_rd_readRank_147
        · have hF := hF.trans (if_neg c_3)
          refine va_ldcS hx hb hown (show vk_R R_rd 61 "12345678" (kK K 0) s from hG.sr 0 (q := ("GameNotation$RecordReader", 61, "12345678", 0)) rfl) d_rd_readRank_23 ?_
          refine lv_aload_n hx hb d_rd_readRank_25 rfl (lv_at hl 2 rfl) ?_
          refine lv_aload_n hx hb d_rd_readRank_26 rfl (lv_at hl 0 rfl) ?_
          refine va_get (D := kD K) (ci := 3) (v := .int Rw) (C := R_rd) (T := T_rd) (N := 1) hx hb htg in_rd hown hK hP 0 rfl rfl 0 (by decide) (htg (.fieldLink R_rd 9 "GameNotation$RecordReader" "place" "I") q_47) (fun _ h9 => h9) rfl d_rd_readRank_27 ?_
          have hPc : va_P (kD K) vwCl [(Lh, .inr (1, [.ref La0, .int L.2])), (La0, .inl ((kC K), 100, .inl L.1))] _ := hP.sub [3, 4] rfl
          refine vp_callSi (va_Run.run (va_runV (As := [.int Rw]) (rest := [.ref (kK K 0)]) ⟨hx, hb, hml, hown, htg⟩ (c_ln_letter l K Lh La0 L Rw) (cwV 1 htg (g_V q_202 q_178 q_179 q_2 (g_w q_180)) rfl rfl rfl ⟨rfl, k_ln_letter⟩ ⟨Nat.le_of_ble_eq_true rfl, Nat.le_of_ble_eq_true rfl⟩) ⟨ro_blind, va_recv hK hPc (ci := 1) (q0 := 0) rfl rfl, ro_use hPc hK hG hS ⟨(by assumption), trivial⟩⟩ rfl rfl hl.1 rfl (lv_room (Nat.le_of_ble_eq_true rfl)) d_rd_readRank_30 ⟨Nat.zero_le _, Nat.zero_le _⟩)) (fun r_5 hw_5 => ?_)
          have hF := hF.trans (bnd_s hw_5.1)
          have hn_5 := hw_5.2
          have hPc : va_P (kD K) vwCl [] _ := hP.sub [] rfl
          refine vp_callSi (va_Run.run (va_runV (As := [.int r_5]) (rest := []) ⟨hx, hb, hml, hown, htg⟩ (c_st_indexOf l K 0 r_5) (cwV 1 htg (g_V q_203 q_204 q_205 q_8 (g_w q_206)) rfl rfl rfl ⟨rfl, k_st_indexOf⟩ ⟨Nat.le_of_ble_eq_true rfl, Nat.le_of_ble_eq_true rfl⟩) ⟨ro_blind, vk_recv hG.str (by decide) hS, ro_use hPc hK hG hS ⟨(by decide), trivial⟩⟩ rfl rfl hl.1 rfl (lv_room (Nat.le_of_ble_eq_true rfl)) d_rd_readRank_33 ⟨Nat.zero_le _, Nat.zero_le _⟩)) (fun r_6 hw_6 => ?_)
          have hF := hF.trans (bnd_s hw_6.1)
          refine lv_iconst (v := 1) hx hb d_rd_readRank_36 (by decide) ?_
          refine lv_iadd hx hb d_rd_readRank_37 ?_
          refine lv_istore (lv' := [(7, .int (r_6 + (1 : Int32))), (0, .ref Rh), (1, .ref Ph), (2, .ref Lh), (3, .int rk), (4, .int v4), (5, .int v5), (6, .int v6)]) hx hb d_rd_readRank_38 hl (by decide) rfl (fun ls hl => ?_)
          refine va_ldcS hx hb hown (show vk_R R_rd 69 "PNBRQKpnbrqk" (kK K 1) s from hG.sr 1 (q := ("GameNotation$RecordReader", 69, "PNBRQKpnbrqk", 1)) rfl) d_rd_readRank_40 ?_
          refine lv_aload_n hx hb d_rd_readRank_42 rfl (lv_at hl 3 rfl) ?_
          refine lv_aload_n hx hb d_rd_readRank_43 rfl (lv_at hl 1 rfl) ?_
          refine va_get (D := kD K) (ci := 3) (v := .int Rw) (C := R_rd) (T := T_rd) (N := 1) hx hb htg in_rd hown hK hP 0 rfl rfl 0 (by decide) (htg (.fieldLink R_rd 9 "GameNotation$RecordReader" "place" "I") q_47) (fun _ h9 => h9) rfl d_rd_readRank_44 ?_
          have hPc : va_P (kD K) vwCl [(Lh, .inr (1, [.ref La0, .int L.2])), (La0, .inl ((kC K), 100, .inl L.1))] _ := hP.sub [3, 4] rfl
          refine vp_callSi (va_Run.run (va_runV (As := [.int Rw]) (rest := [.ref (kK K 1)]) ⟨hx, hb, hml, hown, htg⟩ (c_ln_letter l K Lh La0 L Rw) (cwV 1 htg (g_V q_202 q_178 q_179 q_2 (g_w q_180)) rfl rfl rfl ⟨rfl, k_ln_letter⟩ ⟨Nat.le_of_ble_eq_true rfl, Nat.le_of_ble_eq_true rfl⟩) ⟨ro_blind, va_recv hK hPc (ci := 1) (q0 := 0) rfl rfl, ro_use hPc hK hG hS ⟨(by assumption), trivial⟩⟩ rfl rfl hl.1 rfl (lv_room (Nat.le_of_ble_eq_true rfl)) d_rd_readRank_47 ⟨Nat.zero_le _, Nat.zero_le _⟩)) (fun r_7 hw_7 => ?_)
          have hF := hF.trans (bnd_s hw_7.1)
          have hn_7 := hw_7.2
          have hPc : va_P (kD K) vwCl [] _ := hP.sub [] rfl
          refine vp_callSi (va_Run.run (va_runV (As := [.int r_7]) (rest := []) ⟨hx, hb, hml, hown, htg⟩ (c_st_indexOf l K 1 r_7) (cwV 1 htg (g_V q_203 q_204 q_205 q_8 (g_w q_206)) rfl rfl rfl ⟨rfl, k_st_indexOf⟩ ⟨Nat.le_of_ble_eq_true rfl, Nat.le_of_ble_eq_true rfl⟩) ⟨ro_blind, vk_recv hG.str (by decide) hS, ro_use hPc hK hG hS ⟨(by decide), trivial⟩⟩ rfl rfl hl.1 rfl (lv_room (Nat.le_of_ble_eq_true rfl)) d_rd_readRank_50 ⟨Nat.zero_le _, Nat.zero_le _⟩)) (fun r_8 hw_8 => ?_)
          have hF := hF.trans (bnd_s hw_8.1)
          refine lv_iconst (v := 1) hx hb d_rd_readRank_53 (by decide) ?_
          refine lv_iadd hx hb d_rd_readRank_54 ?_
          refine lv_istore (lv' := [(8, .int (r_8 + (1 : Int32))), (7, .int (r_6 + (1 : Int32))), (0, .ref Rh), (1, .ref Ph), (2, .ref Lh), (3, .int rk), (4, .int v4), (5, .int v5), (6, .int v6)]) hx hb d_rd_readRank_55 hl (by decide) rfl (fun ls hl => ?_)
          refine lv_iload hx hb d_rd_readRank_57 (lv_at hl 0 rfl) ?_
          refine lv_if_ne (tgt := 74) hx hb d_rd_readRank_59 (by decide) (fun c_9 => ?_) (fun c_9 => ?_)
          · have hF := hF.trans (if_neg c_9)
            refine lv_iload hx hb d_rd_readRank_74 (lv_at hl 0 rfl) ?_
            refine lv_if_le (tgt := 91) hx hb d_rd_readRank_76 (by decide) (fun c_10 => ?_) (fun c_10 => ?_)
            · have hF := hF.trans (if_pos c_10)
              refine lv_iload hx hb d_rd_readRank_91 (lv_at hl 6 rfl) ?_
              refine lv_iload hx hb d_rd_readRank_93 (lv_at hl 0 rfl) ?_
              refine lv_if_le (tgt := 102) hx hb d_rd_readRank_95 (by decide) (fun _ => ?_) (fun c => absurd c_10 c)
              refine lv_iload hx hb d_rd_readRank_102 (lv_at hl 1 rfl) ?_
              refine lv_iadd hx hb d_rd_readRank_104 ?_
              refine lv_istore (lv' := [(4, .int (v4 + (r_6 + (1 : Int32)))), (8, .int (r_8 + (1 : Int32))), (7, .int (r_6 + (1 : Int32))), (0, .ref Rh), (1, .ref Ph), (2, .ref Lh), (3, .int rk), (5, .int v5), (6, .int v6)]) hx hb d_rd_readRank_105 hl (by decide) rfl (fun ls hl => ?_)
              refine lv_iload hx hb d_rd_readRank_107 (lv_at hl 1 rfl) ?_
              refine lv_if_ne (tgt := 116) hx hb d_rd_readRank_109 (by decide) (fun _ => ?_) (fun c => absurd c c_9)
              refine lv_iconst (v := 0) hx hb d_rd_readRank_116 (by decide) ?_
              refine lv_istore (lv' := [(5, .int (0 : Int32)), (4, .int (v4 + (r_6 + (1 : Int32)))), (8, .int (r_8 + (1 : Int32))), (7, .int (r_6 + (1 : Int32))), (0, .ref Rh), (1, .ref Ph), (2, .ref Lh), (3, .int rk), (6, .int v6)]) hx hb d_rd_readRank_117 hl (by decide) rfl (fun ls hl => ?_)
              refine lv_aload_n hx hb d_rd_readRank_119 rfl (lv_at hl 4 rfl) ?_
              refine lv_dup hx hb d_rd_readRank_120 rfl ?_
              refine va_get (D := kD K) (ci := 3) (v := .int Rw) (C := R_rd) (T := T_rd) (N := 1) hx hb htg in_rd hown hK hP 0 rfl rfl 0 (by decide) (htg (.fieldLink R_rd 9 "GameNotation$RecordReader" "place" "I") q_47) (fun _ h9 => h9) rfl d_rd_readRank_121 ?_
              refine lv_iconst (v := 1) hx hb d_rd_readRank_124 (by decide) ?_
              refine lv_iadd hx hb d_rd_readRank_125 ?_
              refine va_put (D := kD K) (ci := 3) (v := .int (Rw + (1 : Int32))) (ty := .int) (C := R_rd) (T := T_rd) (N := 1) hx hb htg in_rd ty_rd ty_rd_ok nm_rd hown hK hP hD hS 0 rfl rfl 0 (by decide) (htg (.fieldLink R_rd 9 "GameNotation$RecordReader" "place" "I") q_47) (fun _ h9 => h9) rfl (by decide +kernel) rfl rfl (Nat.le_of_ble_eq_true rfl) d_rd_readRank_126 (fun H locs hP hD hS => ?_)
              have hP : va_P (kD K) vwCl [(Rh, .inr (3, [.int (Rw + (1 : Int32))])), (Ph, .inr (2, [.ref Pa0, .int Pw.2.1, .int Pw.2.2.1, .int Pw.2.2.2.1, .int Pw.2.2.2.2.1, .int Pw.2.2.2.2.2])), (Pa0, .inl ((kI K), 64, .inl Pw.1)), (Lh, .inr (1, [.ref La0, .int L.2])), (La0, .inl ((kC K), 100, .inl L.1))] _ := hP
              have hD : va_D A [(Rh, .inr (3, [.int (Rw + (1 : Int32))])), (Ph, .inr (2, [.ref Pa0, .int Pw.2.1, .int Pw.2.2.1, .int Pw.2.2.2.1, .int Pw.2.2.2.2.1, .int Pw.2.2.2.2.2])), (Pa0, .inl ((kI K), 64, .inl Pw.1)), (Lh, .inr (1, [.ref La0, .int L.2])), (La0, .inl ((kC K), 100, .inl L.1))] := hD
              refine lv_iinc (v := v6 + (1 : Int32)) (lv' := [(6, .int (v6 + (1 : Int32))), (5, .int (0 : Int32)), (4, .int (v4 + (r_6 + (1 : Int32)))), (8, .int (r_8 + (1 : Int32))), (7, .int (r_6 + (1 : Int32))), (0, .ref Rh), (1, .ref Ph), (2, .ref Lh), (3, .int rk)]) hx hb d_rd_readRank_129 hl (k := 8) rfl rfl (by decide) rfl (fun ls hl => ?_)
              refine lv_goto (tgt := 9) hx hb d_rd_readRank_132 (by decide) ?_
              exact ih9  (v4 + (r_6 + (1 : Int32))) (0 : Int32) (v6 + (1 : Int32)) (Rw + (1 : Int32)) Pw _ _ ls  (lp_s i0 c_1) (lp_d i0 c_1 (by decide) hm) hP hD hS (lv_sub hl [5, 6, 7, 8, 2, 1, 0] rfl) hF
            · have hF := hF.trans (if_neg c_10)
              refine lv_aload_n hx hb d_rd_readRank_79 rfl (lv_at hl 3 rfl) ?_
              refine lv_iload hx hb d_rd_readRank_80 (lv_at hl 6 rfl) ?_
              refine lv_iload_n hx hb d_rd_readRank_82 rfl (lv_at hl 5 rfl) ?_
              have hPc : va_P (kD K) vwCl [] _ := hP.sub [] rfl
              refine vp_callSi (va_Run.run (va_runSN (As := [.int v4, .int rk]) (rest := [.ref Ph]) ⟨hx, hb, hml, hown, htg⟩ (c_gn_squareOf l K v4 rk) (⟨va_cnB 2 htg (g_w q_292) rfl rfl rfl (hG.nw 21 rfl) (htg _ q_1) k_gn_squareOf ⟨Nat.le_of_ble_eq_true rfl, Nat.le_of_ble_eq_true rfl⟩, htg _ q_291, trivial⟩) ⟨ro_blind, ro_use hPc hK hG hS trivial⟩ rfl rfl hl.1 rfl (lv_room (Nat.le_of_ble_eq_true rfl)) d_rd_readRank_83 ⟨Nat.zero_le _, Nat.zero_le _⟩)) (fun r_11 hw_11 => ?_)
              have hF := hF.trans (bnd_s hw_11.1)
              refine lv_iload hx hb d_rd_readRank_86 (lv_at hl 0 rfl) ?_
              have hPc : va_P (kD K) vwCl [(Ph, .inr (2, [.ref Pa0, .int Pw.2.1, .int Pw.2.2.1, .int Pw.2.2.2.1, .int Pw.2.2.2.2.1, .int Pw.2.2.2.2.2])), (Pa0, .inl ((kI K), 64, .inl Pw.1))] _ := hP.sub [1, 2] rfl
              have hDc : va_D A [(Ph, .inr (2, [.ref Pa0, .int Pw.2.1, .int Pw.2.2.1, .int Pw.2.2.2.1, .int Pw.2.2.2.2.1, .int Pw.2.2.2.2.2])), (Pa0, .inl ((kI K), 64, .inl Pw.1))] := hD.sub [1, 2] (by decide) rfl
              have hFc := va_free (wc := [(Ph, .inr (2, [.ref Pa0, .int Pw.2.1, .int Pw.2.2.1, .int Pw.2.2.2.1, .int Pw.2.2.2.2.1, .int Pw.2.2.2.2.2])), (Pa0, .inl ((kI K), 64, .inl Pw.1))]) hD hS hA [1, 2] rfl
              refine va_callv (va_runV (As := [.int r_11, .int (r_8 + (1 : Int32))]) (rest := []) ⟨hx, hb, hml, hown, htg⟩ (c_ps_place l K _ Ph Pa0 Pw r_11 (r_8 + (1 : Int32))) (cwV 2 htg (g_V q_293 q_294 q_295 q_6 (g_w q_296)) rfl rfl rfl ⟨rfl, k_ps_place⟩ ⟨Nat.le_of_ble_eq_true rfl, Nat.le_of_ble_eq_true rfl⟩) ⟨mu_blind, va_recv hK hPc (ci := 2) (q0 := 0) rfl rfl, mu_use hPc hK hDc hG hS hFc trivial⟩ rfl rfl hl.1 rfl (lv_room (Nat.le_of_ble_eq_true rfl)) d_rd_readRank_88 ⟨Nat.zero_le _, Nat.zero_le _⟩) hS (fun q _ h => hFc q h) hFc (fun u_12 t H1 locs ht hvm hw_12 hB hz1 hk1 hS => ?_)
              obtain ⟨hP1, hD1⟩ := hB
              rw [ht] at hP1
              obtain ⟨hP, hD⟩ := va_join (wr := [(Rh, .inr (3, [.int Rw])), (Lh, .inr (1, [.ref La0, .int L.2])), (La0, .inl ((kC K), 100, .inl L.1))]) (w1 := [(Ph, .inr (2, [.ref Pa0, .int u_12.2.1, .int u_12.2.2.1, .int u_12.2.2.2.1, .int u_12.2.2.2.2.1, .int u_12.2.2.2.2.2])), (Pa0, .inl ((kI K), 64, .inl u_12.1))]) hP hD [1, 2] [0, 3, 4] rfl rfl (by decide) (by decide) hk1 hFc hP1 hD1
              have hP : va_P (kD K) vwCl [(Rh, .inr (3, [.int Rw])), (Ph, .inr (2, [.ref Pa0, .int u_12.2.1, .int u_12.2.2.1, .int u_12.2.2.2.1, .int u_12.2.2.2.2.1, .int u_12.2.2.2.2.2])), (Pa0, .inl ((kI K), 64, .inl u_12.1)), (Lh, .inr (1, [.ref La0, .int L.2])), (La0, .inl ((kC K), 100, .inl L.1))] H1 := hP.sub [0, 3, 4, 1, 2] rfl
              have hD : va_D A [(Rh, .inr (3, [.int Rw])), (Ph, .inr (2, [.ref Pa0, .int u_12.2.1, .int u_12.2.2.1, .int u_12.2.2.2.1, .int u_12.2.2.2.2.1, .int u_12.2.2.2.2.2])), (Pa0, .inl ((kI K), 64, .inl u_12.1)), (Lh, .inr (1, [.ref La0, .int L.2])), (La0, .inl ((kC K), 100, .inl L.1))] := hD.sub [0, 3, 4, 1, 2] (by decide) rfl
              generalize H1 = H at hP hS ⊢
              have hF := hF.trans (bnd_s hw_12.1)
              refine lv_iload hx hb d_rd_readRank_91 (lv_at hl 6 rfl) ?_
              refine lv_iload hx hb d_rd_readRank_93 (lv_at hl 0 rfl) ?_
              refine lv_if_le (tgt := 102) hx hb d_rd_readRank_95 (by decide) (fun c => absurd c c_10) (fun _ => ?_)
              refine lv_iconst (v := 1) hx hb d_rd_readRank_98 (by decide) ?_
              refine lv_goto (tgt := 104) hx hb d_rd_readRank_99 (by decide) ?_
              refine lv_iadd hx hb d_rd_readRank_104 ?_
              refine lv_istore (lv' := [(4, .int (v4 + (1 : Int32))), (8, .int (r_8 + (1 : Int32))), (7, .int (r_6 + (1 : Int32))), (0, .ref Rh), (1, .ref Ph), (2, .ref Lh), (3, .int rk), (5, .int v5), (6, .int v6)]) hx hb d_rd_readRank_105 hl (by decide) rfl (fun ls hl => ?_)
              refine lv_iload hx hb d_rd_readRank_107 (lv_at hl 1 rfl) ?_
              refine lv_if_ne (tgt := 116) hx hb d_rd_readRank_109 (by decide) (fun _ => ?_) (fun c => absurd c c_9)
              refine lv_iconst (v := 0) hx hb d_rd_readRank_116 (by decide) ?_
              refine lv_istore (lv' := [(5, .int (0 : Int32)), (4, .int (v4 + (1 : Int32))), (8, .int (r_8 + (1 : Int32))), (7, .int (r_6 + (1 : Int32))), (0, .ref Rh), (1, .ref Ph), (2, .ref Lh), (3, .int rk), (6, .int v6)]) hx hb d_rd_readRank_117 hl (by decide) rfl (fun ls hl => ?_)
              refine lv_aload_n hx hb d_rd_readRank_119 rfl (lv_at hl 4 rfl) ?_
              refine lv_dup hx hb d_rd_readRank_120 rfl ?_
              refine va_get (D := kD K) (ci := 3) (v := .int Rw) (C := R_rd) (T := T_rd) (N := 1) hx hb htg in_rd hown hK hP 0 rfl rfl 0 (by decide) (htg (.fieldLink R_rd 9 "GameNotation$RecordReader" "place" "I") q_47) (fun _ h9 => h9) rfl d_rd_readRank_121 ?_
              refine lv_iconst (v := 1) hx hb d_rd_readRank_124 (by decide) ?_
              refine lv_iadd hx hb d_rd_readRank_125 ?_
              refine va_put (D := kD K) (ci := 3) (v := .int (Rw + (1 : Int32))) (ty := .int) (C := R_rd) (T := T_rd) (N := 1) hx hb htg in_rd ty_rd ty_rd_ok nm_rd hown hK hP hD hS 0 rfl rfl 0 (by decide) (htg (.fieldLink R_rd 9 "GameNotation$RecordReader" "place" "I") q_47) (fun _ h9 => h9) rfl (by decide +kernel) rfl rfl (Nat.le_of_ble_eq_true rfl) d_rd_readRank_126 (fun H locs hP hD hS => ?_)
              have hP : va_P (kD K) vwCl [(Rh, .inr (3, [.int (Rw + (1 : Int32))])), (Ph, .inr (2, [.ref Pa0, .int u_12.2.1, .int u_12.2.2.1, .int u_12.2.2.2.1, .int u_12.2.2.2.2.1, .int u_12.2.2.2.2.2])), (Pa0, .inl ((kI K), 64, .inl u_12.1)), (Lh, .inr (1, [.ref La0, .int L.2])), (La0, .inl ((kC K), 100, .inl L.1))] _ := hP
              have hD : va_D A [(Rh, .inr (3, [.int (Rw + (1 : Int32))])), (Ph, .inr (2, [.ref Pa0, .int u_12.2.1, .int u_12.2.2.1, .int u_12.2.2.2.1, .int u_12.2.2.2.2.1, .int u_12.2.2.2.2.2])), (Pa0, .inl ((kI K), 64, .inl u_12.1)), (Lh, .inr (1, [.ref La0, .int L.2])), (La0, .inl ((kC K), 100, .inl L.1))] := hD
              refine lv_iinc (v := v6 + (1 : Int32)) (lv' := [(6, .int (v6 + (1 : Int32))), (5, .int (0 : Int32)), (4, .int (v4 + (1 : Int32))), (8, .int (r_8 + (1 : Int32))), (7, .int (r_6 + (1 : Int32))), (0, .ref Rh), (1, .ref Ph), (2, .ref Lh), (3, .int rk)]) hx hb d_rd_readRank_129 hl (k := 8) rfl rfl (by decide) rfl (fun ls hl => ?_)
              refine lv_goto (tgt := 9) hx hb d_rd_readRank_132 (by decide) ?_
              exact ih9  (v4 + (1 : Int32)) (0 : Int32) (v6 + (1 : Int32)) (Rw + (1 : Int32)) u_12 _ _ ls  (lp_s i0 c_1) (lp_d i0 c_1 (by decide) hm) hP hD hS (lv_sub hl [5, 6, 7, 8, 2, 1, 0] rfl) hF
          · have hF := hF.trans (if_pos c_9)
            refine lv_iload hx hb d_rd_readRank_62 (lv_at hl 1 rfl) ?_
            refine lv_if_eq (tgt := 72) hx hb d_rd_readRank_64 (by decide) (fun c_13 => ?_) (fun c_13 => ?_)
            · have hF := hF.trans (if_pos c_13)
              refine lv_iconst (v := 0) hx hb d_rd_readRank_72 (by decide) ?_
              exact W.zret (v := (0 : Int32)) hx hb hr (rfl) (fun t ht hW => ⟨⟨(0 : Int32), (Rw, Pw), rfl, ⟨hF, rfl, trivial⟩, ⟨by rw [ht]; exact hP, hD⟩⟩, hS.F ht⟩) hS.2.2 d_rd_readRank_73
            · have hF := hF.trans (if_neg c_13)
              refine lv_iload hx hb d_rd_readRank_67 (lv_at hl 7 rfl) ?_
              refine lv_if_eq (tgt := 74) hx hb d_rd_readRank_69 (by decide) (fun c_14 => ?_) (fun c_14 => ?_)
              · have hF := hF.trans (if_pos c_14)
                refine lv_iload hx hb d_rd_readRank_74 (lv_at hl 0 rfl) ?_
                refine lv_if_le (tgt := 91) hx hb d_rd_readRank_76 (by decide) (fun c_15 => ?_) (fun c_15 => ?_)
                · have hF := hF.trans (if_pos c_15)
                  refine lv_iload hx hb d_rd_readRank_91 (lv_at hl 6 rfl) ?_
                  refine lv_iload hx hb d_rd_readRank_93 (lv_at hl 0 rfl) ?_
                  refine lv_if_le (tgt := 102) hx hb d_rd_readRank_95 (by decide) (fun _ => ?_) (fun c => absurd c_15 c)
                  refine lv_iload hx hb d_rd_readRank_102 (lv_at hl 1 rfl) ?_
                  refine lv_iadd hx hb d_rd_readRank_104 ?_
                  refine lv_istore (lv' := [(4, .int (v4 + (r_6 + (1 : Int32)))), (8, .int (r_8 + (1 : Int32))), (7, .int (r_6 + (1 : Int32))), (0, .ref Rh), (1, .ref Ph), (2, .ref Lh), (3, .int rk), (5, .int v5), (6, .int v6)]) hx hb d_rd_readRank_105 hl (by decide) rfl (fun ls hl => ?_)
                  refine lv_iload hx hb d_rd_readRank_107 (lv_at hl 1 rfl) ?_
                  refine lv_if_ne (tgt := 116) hx hb d_rd_readRank_109 (by decide) (fun c => absurd c_9 c) (fun _ => ?_)
                  refine lv_iconst (v := 1) hx hb d_rd_readRank_112 (by decide) ?_
                  refine lv_goto (tgt := 117) hx hb d_rd_readRank_113 (by decide) ?_
                  refine lv_istore (lv' := [(5, .int (1 : Int32)), (4, .int (v4 + (r_6 + (1 : Int32)))), (8, .int (r_8 + (1 : Int32))), (7, .int (r_6 + (1 : Int32))), (0, .ref Rh), (1, .ref Ph), (2, .ref Lh), (3, .int rk), (6, .int v6)]) hx hb d_rd_readRank_117 hl (by decide) rfl (fun ls hl => ?_)
                  refine lv_aload_n hx hb d_rd_readRank_119 rfl (lv_at hl 4 rfl) ?_
                  refine lv_dup hx hb d_rd_readRank_120 rfl ?_
                  refine va_get (D := kD K) (ci := 3) (v := .int Rw) (C := R_rd) (T := T_rd) (N := 1) hx hb htg in_rd hown hK hP 0 rfl rfl 0 (by decide) (htg (.fieldLink R_rd 9 "GameNotation$RecordReader" "place" "I") q_47) (fun _ h9 => h9) rfl d_rd_readRank_121 ?_
                  refine lv_iconst (v := 1) hx hb d_rd_readRank_124 (by decide) ?_
                  refine lv_iadd hx hb d_rd_readRank_125 ?_
                  refine va_put (D := kD K) (ci := 3) (v := .int (Rw + (1 : Int32))) (ty := .int) (C := R_rd) (T := T_rd) (N := 1) hx hb htg in_rd ty_rd ty_rd_ok nm_rd hown hK hP hD hS 0 rfl rfl 0 (by decide) (htg (.fieldLink R_rd 9 "GameNotation$RecordReader" "place" "I") q_47) (fun _ h9 => h9) rfl (by decide +kernel) rfl rfl (Nat.le_of_ble_eq_true rfl) d_rd_readRank_126 (fun H locs hP hD hS => ?_)
                  have hP : va_P (kD K) vwCl [(Rh, .inr (3, [.int (Rw + (1 : Int32))])), (Ph, .inr (2, [.ref Pa0, .int Pw.2.1, .int Pw.2.2.1, .int Pw.2.2.2.1, .int Pw.2.2.2.2.1, .int Pw.2.2.2.2.2])), (Pa0, .inl ((kI K), 64, .inl Pw.1)), (Lh, .inr (1, [.ref La0, .int L.2])), (La0, .inl ((kC K), 100, .inl L.1))] _ := hP
                  have hD : va_D A [(Rh, .inr (3, [.int (Rw + (1 : Int32))])), (Ph, .inr (2, [.ref Pa0, .int Pw.2.1, .int Pw.2.2.1, .int Pw.2.2.2.1, .int Pw.2.2.2.2.1, .int Pw.2.2.2.2.2])), (Pa0, .inl ((kI K), 64, .inl Pw.1)), (Lh, .inr (1, [.ref La0, .int L.2])), (La0, .inl ((kC K), 100, .inl L.1))] := hD
                  refine lv_iinc (v := v6 + (1 : Int32)) (lv' := [(6, .int (v6 + (1 : Int32))), (5, .int (1 : Int32)), (4, .int (v4 + (r_6 + (1 : Int32)))), (8, .int (r_8 + (1 : Int32))), (7, .int (r_6 + (1 : Int32))), (0, .ref Rh), (1, .ref Ph), (2, .ref Lh), (3, .int rk)]) hx hb d_rd_readRank_129 hl (k := 8) rfl rfl (by decide) rfl (fun ls hl => ?_)
                  refine lv_goto (tgt := 9) hx hb d_rd_readRank_132 (by decide) ?_
                  exact ih9  (v4 + (r_6 + (1 : Int32))) (1 : Int32) (v6 + (1 : Int32)) (Rw + (1 : Int32)) Pw _ _ ls  (lp_s i0 c_1) (lp_d i0 c_1 (by decide) hm) hP hD hS (lv_sub hl [5, 6, 7, 8, 2, 1, 0] rfl) hF
                · have hF := hF.trans (if_neg c_15)
                  refine lv_aload_n hx hb d_rd_readRank_79 rfl (lv_at hl 3 rfl) ?_
                  refine lv_iload hx hb d_rd_readRank_80 (lv_at hl 6 rfl) ?_
                  refine lv_iload_n hx hb d_rd_readRank_82 rfl (lv_at hl 5 rfl) ?_
                  have hPc : va_P (kD K) vwCl [] _ := hP.sub [] rfl
                  refine vp_callSi (va_Run.run (va_runSN (As := [.int v4, .int rk]) (rest := [.ref Ph]) ⟨hx, hb, hml, hown, htg⟩ (c_gn_squareOf l K v4 rk) (⟨va_cnB 2 htg (g_w q_292) rfl rfl rfl (hG.nw 21 rfl) (htg _ q_1) k_gn_squareOf ⟨Nat.le_of_ble_eq_true rfl, Nat.le_of_ble_eq_true rfl⟩, htg _ q_291, trivial⟩) ⟨ro_blind, ro_use hPc hK hG hS trivial⟩ rfl rfl hl.1 rfl (lv_room (Nat.le_of_ble_eq_true rfl)) d_rd_readRank_83 ⟨Nat.zero_le _, Nat.zero_le _⟩)) (fun r_16 hw_16 => ?_)
                  have hF := hF.trans (bnd_s hw_16.1)
                  refine lv_iload hx hb d_rd_readRank_86 (lv_at hl 0 rfl) ?_
                  have hPc : va_P (kD K) vwCl [(Ph, .inr (2, [.ref Pa0, .int Pw.2.1, .int Pw.2.2.1, .int Pw.2.2.2.1, .int Pw.2.2.2.2.1, .int Pw.2.2.2.2.2])), (Pa0, .inl ((kI K), 64, .inl Pw.1))] _ := hP.sub [1, 2] rfl
                  have hDc : va_D A [(Ph, .inr (2, [.ref Pa0, .int Pw.2.1, .int Pw.2.2.1, .int Pw.2.2.2.1, .int Pw.2.2.2.2.1, .int Pw.2.2.2.2.2])), (Pa0, .inl ((kI K), 64, .inl Pw.1))] := hD.sub [1, 2] (by decide) rfl
                  have hFc := va_free (wc := [(Ph, .inr (2, [.ref Pa0, .int Pw.2.1, .int Pw.2.2.1, .int Pw.2.2.2.1, .int Pw.2.2.2.2.1, .int Pw.2.2.2.2.2])), (Pa0, .inl ((kI K), 64, .inl Pw.1))]) hD hS hA [1, 2] rfl
                  refine va_callv (va_runV (As := [.int r_16, .int (r_8 + (1 : Int32))]) (rest := []) ⟨hx, hb, hml, hown, htg⟩ (c_ps_place l K _ Ph Pa0 Pw r_16 (r_8 + (1 : Int32))) (cwV 2 htg (g_V q_293 q_294 q_295 q_6 (g_w q_296)) rfl rfl rfl ⟨rfl, k_ps_place⟩ ⟨Nat.le_of_ble_eq_true rfl, Nat.le_of_ble_eq_true rfl⟩) ⟨mu_blind, va_recv hK hPc (ci := 2) (q0 := 0) rfl rfl, mu_use hPc hK hDc hG hS hFc trivial⟩ rfl rfl hl.1 rfl (lv_room (Nat.le_of_ble_eq_true rfl)) d_rd_readRank_88 ⟨Nat.zero_le _, Nat.zero_le _⟩) hS (fun q _ h => hFc q h) hFc (fun u_17 t H1 locs ht hvm hw_17 hB hz1 hk1 hS => ?_)
                  obtain ⟨hP1, hD1⟩ := hB
                  rw [ht] at hP1
                  obtain ⟨hP, hD⟩ := va_join (wr := [(Rh, .inr (3, [.int Rw])), (Lh, .inr (1, [.ref La0, .int L.2])), (La0, .inl ((kC K), 100, .inl L.1))]) (w1 := [(Ph, .inr (2, [.ref Pa0, .int u_17.2.1, .int u_17.2.2.1, .int u_17.2.2.2.1, .int u_17.2.2.2.2.1, .int u_17.2.2.2.2.2])), (Pa0, .inl ((kI K), 64, .inl u_17.1))]) hP hD [1, 2] [0, 3, 4] rfl rfl (by decide) (by decide) hk1 hFc hP1 hD1
                  have hP : va_P (kD K) vwCl [(Rh, .inr (3, [.int Rw])), (Ph, .inr (2, [.ref Pa0, .int u_17.2.1, .int u_17.2.2.1, .int u_17.2.2.2.1, .int u_17.2.2.2.2.1, .int u_17.2.2.2.2.2])), (Pa0, .inl ((kI K), 64, .inl u_17.1)), (Lh, .inr (1, [.ref La0, .int L.2])), (La0, .inl ((kC K), 100, .inl L.1))] H1 := hP.sub [0, 3, 4, 1, 2] rfl
                  have hD : va_D A [(Rh, .inr (3, [.int Rw])), (Ph, .inr (2, [.ref Pa0, .int u_17.2.1, .int u_17.2.2.1, .int u_17.2.2.2.1, .int u_17.2.2.2.2.1, .int u_17.2.2.2.2.2])), (Pa0, .inl ((kI K), 64, .inl u_17.1)), (Lh, .inr (1, [.ref La0, .int L.2])), (La0, .inl ((kC K), 100, .inl L.1))] := hD.sub [0, 3, 4, 1, 2] (by decide) rfl
                  generalize H1 = H at hP hS ⊢
                  have hF := hF.trans (bnd_s hw_17.1)
                  refine lv_iload hx hb d_rd_readRank_91 (lv_at hl 6 rfl) ?_
                  refine lv_iload hx hb d_rd_readRank_93 (lv_at hl 0 rfl) ?_
                  refine lv_if_le (tgt := 102) hx hb d_rd_readRank_95 (by decide) (fun c => absurd c c_15) (fun _ => ?_)
                  refine lv_iconst (v := 1) hx hb d_rd_readRank_98 (by decide) ?_
                  refine lv_goto (tgt := 104) hx hb d_rd_readRank_99 (by decide) ?_
                  refine lv_iadd hx hb d_rd_readRank_104 ?_
                  refine lv_istore (lv' := [(4, .int (v4 + (1 : Int32))), (8, .int (r_8 + (1 : Int32))), (7, .int (r_6 + (1 : Int32))), (0, .ref Rh), (1, .ref Ph), (2, .ref Lh), (3, .int rk), (5, .int v5), (6, .int v6)]) hx hb d_rd_readRank_105 hl (by decide) rfl (fun ls hl => ?_)
                  refine lv_iload hx hb d_rd_readRank_107 (lv_at hl 1 rfl) ?_
                  refine lv_if_ne (tgt := 116) hx hb d_rd_readRank_109 (by decide) (fun c => absurd c_9 c) (fun _ => ?_)
                  refine lv_iconst (v := 1) hx hb d_rd_readRank_112 (by decide) ?_
                  refine lv_goto (tgt := 117) hx hb d_rd_readRank_113 (by decide) ?_
                  refine lv_istore (lv' := [(5, .int (1 : Int32)), (4, .int (v4 + (1 : Int32))), (8, .int (r_8 + (1 : Int32))), (7, .int (r_6 + (1 : Int32))), (0, .ref Rh), (1, .ref Ph), (2, .ref Lh), (3, .int rk), (6, .int v6)]) hx hb d_rd_readRank_117 hl (by decide) rfl (fun ls hl => ?_)
                  refine lv_aload_n hx hb d_rd_readRank_119 rfl (lv_at hl 4 rfl) ?_
                  refine lv_dup hx hb d_rd_readRank_120 rfl ?_
                  refine va_get (D := kD K) (ci := 3) (v := .int Rw) (C := R_rd) (T := T_rd) (N := 1) hx hb htg in_rd hown hK hP 0 rfl rfl 0 (by decide) (htg (.fieldLink R_rd 9 "GameNotation$RecordReader" "place" "I") q_47) (fun _ h9 => h9) rfl d_rd_readRank_121 ?_
                  refine lv_iconst (v := 1) hx hb d_rd_readRank_124 (by decide) ?_
                  refine lv_iadd hx hb d_rd_readRank_125 ?_
                  refine va_put (D := kD K) (ci := 3) (v := .int (Rw + (1 : Int32))) (ty := .int) (C := R_rd) (T := T_rd) (N := 1) hx hb htg in_rd ty_rd ty_rd_ok nm_rd hown hK hP hD hS 0 rfl rfl 0 (by decide) (htg (.fieldLink R_rd 9 "GameNotation$RecordReader" "place" "I") q_47) (fun _ h9 => h9) rfl (by decide +kernel) rfl rfl (Nat.le_of_ble_eq_true rfl) d_rd_readRank_126 (fun H locs hP hD hS => ?_)
                  have hP : va_P (kD K) vwCl [(Rh, .inr (3, [.int (Rw + (1 : Int32))])), (Ph, .inr (2, [.ref Pa0, .int u_17.2.1, .int u_17.2.2.1, .int u_17.2.2.2.1, .int u_17.2.2.2.2.1, .int u_17.2.2.2.2.2])), (Pa0, .inl ((kI K), 64, .inl u_17.1)), (Lh, .inr (1, [.ref La0, .int L.2])), (La0, .inl ((kC K), 100, .inl L.1))] _ := hP
                  have hD : va_D A [(Rh, .inr (3, [.int (Rw + (1 : Int32))])), (Ph, .inr (2, [.ref Pa0, .int u_17.2.1, .int u_17.2.2.1, .int u_17.2.2.2.1, .int u_17.2.2.2.2.1, .int u_17.2.2.2.2.2])), (Pa0, .inl ((kI K), 64, .inl u_17.1)), (Lh, .inr (1, [.ref La0, .int L.2])), (La0, .inl ((kC K), 100, .inl L.1))] := hD
                  refine lv_iinc (v := v6 + (1 : Int32)) (lv' := [(6, .int (v6 + (1 : Int32))), (5, .int (1 : Int32)), (4, .int (v4 + (1 : Int32))), (8, .int (r_8 + (1 : Int32))), (7, .int (r_6 + (1 : Int32))), (0, .ref Rh), (1, .ref Ph), (2, .ref Lh), (3, .int rk)]) hx hb d_rd_readRank_129 hl (k := 8) rfl rfl (by decide) rfl (fun ls hl => ?_)
                  refine lv_goto (tgt := 9) hx hb d_rd_readRank_132 (by decide) ?_
                  exact ih9  (v4 + (1 : Int32)) (1 : Int32) (v6 + (1 : Int32)) (Rw + (1 : Int32)) u_17 _ _ ls  (lp_s i0 c_1) (lp_d i0 c_1 (by decide) hm) hP hD hS (lv_sub hl [5, 6, 7, 8, 2, 1, 0] rfl) hF
              · have hF := hF.trans (if_neg c_14)
                refine lv_iconst (v := 0) hx hb d_rd_readRank_72 (by decide) ?_
                exact W.zret (v := (0 : Int32)) hx hb hr (rfl) (fun t ht hW => ⟨⟨(0 : Int32), (Rw, Pw), rfl, ⟨hF, rfl, trivial⟩, ⟨by rw [ht]; exact hP, hD⟩⟩, hS.F ht⟩) hS.2.2 d_rd_readRank_73
  exact loop9 9 (0 : Int32) (0 : Int32) (0 : Int32) R P _ _ ls  (by decide) (by decide) hP hD hS (lv_sub hl [3, 4, 5, 6, 2, 1, 0] rfl) hF
def f_rd_readRanks_L3 (L : LnT) : Nat → Int32 → Int32 → PsT → Int32 × Int32 × PsT
  | 0, _, Rw, Pw => (0, Rw, Pw)
  | n + 1, v3, Rw, Pw => (if v3 < 0 then ((1 : Int32), (Rw, Pw)) else (bnd2 (f_rd_readRank Rw Pw L v3) (fun r_2 u_2 => (if r_2 = 0 then ((0 : Int32), (u_2.1, u_2.2)) else (if v3 ≤ 0 then (f_rd_readRanks_L3 L  n (v3 + (-1 : Int32)) u_2.1 u_2.2) else (bnd2 (f_rd_passes u_2.1 L (47 : Int32)) (fun r_5 u_5 => (if r_5 = 0 then ((0 : Int32), (u_5, u_2.2)) else (f_rd_readRanks_L3 L  n (v3 + (-1 : Int32)) u_5 u_2.2)))))))))
def f_rd_readRanks (R : Int32) (P : PsT) (L : LnT) : Int32 × Int32 × PsT := (f_rd_readRanks_L3 L  9 (7 : Int32) R P)
set_option maxHeartbeats 4000000 in
set_option maxRecDepth 100000 in
theorem c_rd_readRanks (l : Launch) (K : KT) (sz : Nat) (Rh : Nat) (R : Int32) (Ph Pa0 : Nat) (P : PsT) (Lh La0 : Nat) (L : LnT) : Met l y_rd_readRanks w_rd_readRanks ({ frames := 5, cells := 0, slots := 0, locals := 119 } : Room) (va_Pc [.ref Rh, .ref Ph, .ref Lh] (fun U => pMU K [(Rh, .inr (3, [.int R])), (Ph, .inr (2, [.ref Pa0, .int P.2.1, .int P.2.2.1, .int P.2.2.2.1, .int P.2.2.2.2.1, .int P.2.2.2.2.2])), (Pa0, .inl ((kI K), 64, .inl P.1)), (Lh, .inr (1, [.ref La0, .int L.2])), (La0, .inl ((kC K), 100, .inl L.1))] sz U ∧ LnOk L ∧ True)) (va_Qi (fun (r : Int32) (u : Int32 × PsT) => f_rd_readRanks R P L = (r, u) ∧ narrow .boolean (.int r) = .int r ∧ True) (fun (u : Int32 × PsT) (t : State) => va_P (kD K) vwCl [(Rh, .inr (3, [.int u.1])), (Ph, .inr (2, [.ref Pa0, .int u.2.2.1, .int u.2.2.2.1, .int u.2.2.2.2.1, .int u.2.2.2.2.2.1, .int u.2.2.2.2.2.2])), (Pa0, .inl ((kI K), 64, .inl u.2.1)), (Lh, .inr (1, [.ref La0, .int L.2])), (La0, .inl ((kC K), 100, .inl L.1))] t.heap ∧ va_D (va_A [(Rh, .inr (3, [.int R])), (Ph, .inr (2, [.ref Pa0, .int P.2.1, .int P.2.2.1, .int P.2.2.2.1, .int P.2.2.2.2.1, .int P.2.2.2.2.2])), (Pa0, .inl ((kI K), 64, .inl P.1)), (Lh, .inr (1, [.ref La0, .int L.2])), (La0, .inl ((kC K), 100, .inl L.1))] sz) [(Rh, .inr (3, [.int u.1])), (Ph, .inr (2, [.ref Pa0, .int u.2.2.1, .int u.2.2.2.1, .int u.2.2.2.2.1, .int u.2.2.2.2.2.1, .int u.2.2.2.2.2.2])), (Pa0, .inl ((kI K), 64, .inl u.2.1)), (Lh, .inr (1, [.ref La0, .int L.2])), (La0, .inl ((kC K), 100, .inl L.1))]) (va_A [(Rh, .inr (3, [.int R])), (Ph, .inr (2, [.ref Pa0, .int P.2.1, .int P.2.2.1, .int P.2.2.2.1, .int P.2.2.2.2.1, .int P.2.2.2.2.2])), (Pa0, .inl ((kI K), 64, .inl P.1)), (Lh, .inr (1, [.ref La0, .int L.2])), (La0, .inl ((kC K), 100, .inl L.1))] sz)) 0 0 (va_A [(Rh, .inr (3, [.int R])), (Ph, .inr (2, [.ref Pa0, .int P.2.1, .int P.2.2.1, .int P.2.2.2.1, .int P.2.2.2.2.1, .int P.2.2.2.2.2])), (Pa0, .inl ((kI K), 64, .inl P.1)), (Lh, .inr (1, [.ref La0, .int L.2])), (La0, .inl ((kC K), 100, .inl L.1))] sz) := by
  refine Met.ofW (cc := b_rd_readRanks) (maxL := 4) (ret := (some .boolean)) (by decide) rfl ?_
  intro p e s m args below meth c s₁ B hml hv
  obtain ⟨rfl, ⟨hsz, hP, hK, hD0, hG⟩, ok_L, -⟩ := hv
  have hx := B.exec
  have hb := B.bytes
  have hr := B.returns
  have hts := atoms_spec (ws := w_rd_readRanks) B.pre
  have hown : s.vm.findClass R_rd = some m.cls := findClass_of_methodNamed B.named
  have hlocks := B.notSynchronized
  have htg := fun w h => hts w (List.mem_cons_of_mem _ h)
  subst hsz
  have hD := hD0.self (sz := s.heap.size)
  generalize hAe : va_A [(Rh, .inr (3, [.int R])), (Ph, .inr (2, [.ref Pa0, .int P.2.1, .int P.2.2.1, .int P.2.2.2.1, .int P.2.2.2.2.1, .int P.2.2.2.2.2])), (Pa0, .inl ((kI K), 64, .inl P.1)), (Lh, .inr (1, [.ref La0, .int L.2])), (La0, .inl ((kC K), 100, .inl L.1))] s.heap.size = A at hD hG ⊢
  have hA : ∀ q : Nat, s.heap.size ≤ q → A q := fun q h => by rw [← hAe]; exact Or.inr h
  have hS : va_S A s.heap s.heap [] := va_S.rf
  have hl := lv_entry ([.ref Rh, .ref Ph, .ref Lh]) (n := 4) (Nat.le_of_ble_eq_true rfl)
  rw [lg_entry_eq]
  generalize (lg_sl ([.ref Rh, .ref Ph, .ref Lh]) ++ List.replicate (4 - (lg_sl ([.ref Rh, .ref Ph, .ref Lh])).length) Slot.unset).toArray = ls at hl ⊢
  have hl : lv_has ls 4 [(0, .ref Rh), (1, .ref Ph), (2, .ref Lh)] := hl
  have hF := f_rd_readRanks.eq_1 R P L
  refine lv_bipush (v := 7) hx hb d_rd_readRanks_0 (by decide) ?_
  refine lv_istore_n (lv' := [(3, .int (7 : Int32)), (0, .ref Rh), (1, .ref Ph), (2, .ref Lh)]) hx hb d_rd_readRanks_2 rfl hl (by decide) rfl (fun ls hl => ?_)
  have loop3 : ∀ (n3 : Nat) (v3 : Int32) (Rw : Int32) (Pw : PsT) (H : Heap) (locs : List Loc) (ls : Array Slot), v3.toInt ≤ 7 → (v3.toInt + 1).toNat < n3 → va_P (kD K) vwCl [(Rh, .inr (3, [.int Rw])), (Ph, .inr (2, [.ref Pa0, .int Pw.2.1, .int Pw.2.2.1, .int Pw.2.2.2.1, .int Pw.2.2.2.2.1, .int Pw.2.2.2.2.2])), (Pa0, .inl ((kI K), 64, .inl Pw.1)), (Lh, .inr (1, [.ref La0, .int L.2])), (La0, .inl ((kC K), 100, .inl L.1))] H → va_D A [(Rh, .inr (3, [.int Rw])), (Ph, .inr (2, [.ref Pa0, .int Pw.2.1, .int Pw.2.2.1, .int Pw.2.2.2.1, .int Pw.2.2.2.2.1, .int Pw.2.2.2.2.2])), (Pa0, .inl ((kI K), 64, .inl Pw.1)), (Lh, .inr (1, [.ref La0, .int L.2])), (La0, .inl ((kC K), 100, .inl L.1))] → va_S A s.heap H locs → lv_has ls 4 [(0, .ref Rh), (1, .ref Ph), (2, .ref Lh), (3, .int v3)] → f_rd_readRanks R P L = f_rd_readRanks_L3 L  n3 v3 Rw Pw → W p l e (headSpec w_rd_readRanks ({ frames := 5, cells := 0, slots := 0, locals := 119 } : Room)).room s m ([(.ref Rh : Value), .ref Ph, .ref Lh].toArray) below meth c H locs 0 0 (MQ below (va_Qi (fun (r : Int32) (u : Int32 × PsT) => f_rd_readRanks R P L = (r, u) ∧ narrow .boolean (.int r) = .int r ∧ True) (fun (u : Int32 × PsT) (t : State) => va_P (kD K) vwCl [(Rh, .inr (3, [.int u.1])), (Ph, .inr (2, [.ref Pa0, .int u.2.2.1, .int u.2.2.2.1, .int u.2.2.2.2.1, .int u.2.2.2.2.2.1, .int u.2.2.2.2.2.2])), (Pa0, .inl ((kI K), 64, .inl u.2.1)), (Lh, .inr (1, [.ref La0, .int L.2])), (La0, .inl ((kC K), 100, .inl L.1))] t.heap ∧ va_D (A) [(Rh, .inr (3, [.int u.1])), (Ph, .inr (2, [.ref Pa0, .int u.2.2.1, .int u.2.2.2.1, .int u.2.2.2.2.1, .int u.2.2.2.2.2.1, .int u.2.2.2.2.2.2])), (Pa0, .inl ((kI K), 64, .inl u.2.1)), (Lh, .inr (1, [.ref La0, .int L.2])), (La0, .inl ((kC K), 100, .inl L.1))]) (A)) ([(.ref Rh : Value), .ref Ph, .ref Lh].toArray) s 0 0 (A)) (F0 m 3 ls []) := by
    intro n3
    induction n3 with
    | zero =>
      intro _ _ _ _ _ _ _ hz
      exact absurd hz (Nat.not_lt_zero _)
    | succ n3 ih3 =>
      intro v3 Rw Pw H locs ls i0 hm hP hD hS hl hF
      rw [f_rd_readRanks_L3] at hF
      refine lv_iload_n hx hb d_rd_readRanks_3 rfl (lv_at hl 3 rfl) ?_
      refine lv_if_lt (tgt := 41) hx hb d_rd_readRanks_4 (by decide) (fun c_1 => ?_) (fun c_1 => ?_)
      · have hF := hF.trans (if_pos c_1)
        refine lv_iconst (v := 1) hx hb d_rd_readRanks_41 (by decide) ?_
        exact W.zret (v := (1 : Int32)) hx hb hr (rfl) (fun t ht hW => ⟨⟨(1 : Int32), (Rw, Pw), rfl, ⟨hF, rfl, trivial⟩, ⟨by rw [ht]; exact hP, hD⟩⟩, hS.F ht⟩) hS.2.2 d_rd_readRanks_42
      · have hF := hF.trans (if_neg c_1)
        refine lv_aload_n hx hb d_rd_readRanks_7 rfl (lv_at hl 0 rfl) ?_
        refine lv_aload_n hx hb d_rd_readRanks_8 rfl (lv_at hl 1 rfl) ?_
        refine lv_aload_n hx hb d_rd_readRanks_9 rfl (lv_at hl 2 rfl) ?_
        refine lv_iload_n hx hb d_rd_readRanks_10 rfl (lv_at hl 3 rfl) ?_
        have hPc : va_P (kD K) vwCl [(Rh, .inr (3, [.int Rw])), (Ph, .inr (2, [.ref Pa0, .int Pw.2.1, .int Pw.2.2.1, .int Pw.2.2.2.1, .int Pw.2.2.2.2.1, .int Pw.2.2.2.2.2])), (Pa0, .inl ((kI K), 64, .inl Pw.1)), (Lh, .inr (1, [.ref La0, .int L.2])), (La0, .inl ((kC K), 100, .inl L.1))] _ := hP.sub [0, 1, 2, 3, 4] rfl
        have hDc : va_D A [(Rh, .inr (3, [.int Rw])), (Ph, .inr (2, [.ref Pa0, .int Pw.2.1, .int Pw.2.2.1, .int Pw.2.2.2.1, .int Pw.2.2.2.2.1, .int Pw.2.2.2.2.2])), (Pa0, .inl ((kI K), 64, .inl Pw.1)), (Lh, .inr (1, [.ref La0, .int L.2])), (La0, .inl ((kC K), 100, .inl L.1))] := hD.sub [0, 1, 2, 3, 4] (by decide) rfl
        have hFc := va_free (wc := [(Rh, .inr (3, [.int Rw])), (Ph, .inr (2, [.ref Pa0, .int Pw.2.1, .int Pw.2.2.1, .int Pw.2.2.2.1, .int Pw.2.2.2.2.1, .int Pw.2.2.2.2.2])), (Pa0, .inl ((kI K), 64, .inl Pw.1)), (Lh, .inr (1, [.ref La0, .int L.2])), (La0, .inl ((kC K), 100, .inl L.1))]) hD hS hA [0, 1, 2, 3, 4] rfl
        refine va_calli (va_runV (As := [.ref Ph, .ref Lh, .int v3]) (rest := []) ⟨hx, hb, hml, hown, htg⟩ (c_rd_readRank l K _ Rh Rw Ph Pa0 Pw Lh La0 L v3) (cwV 3 htg (g_V q_197 q_199 qs_1 q_3 (g_w q_200)) rfl rfl rfl ⟨rfl, k_rd_readRank⟩ ⟨Nat.le_of_ble_eq_true rfl, Nat.le_of_ble_eq_true rfl⟩) ⟨mu_blind, va_recv hK hPc (ci := 3) (q0 := 0) rfl rfl, mu_use hPc hK hDc hG hS hFc ⟨(by assumption), trivial⟩⟩ rfl rfl hl.1 rfl (lv_room (Nat.le_of_ble_eq_true rfl)) d_rd_readRanks_11 ⟨Nat.zero_le _, Nat.zero_le _⟩) hS (fun q _ h => hFc q h) hFc (fun r_2 u_2 t H1 locs ht hvm hw_2 hB hz1 hk1 hS => ?_)
        obtain ⟨hP1, hD1⟩ := hB
        rw [ht] at hP1
        obtain ⟨hP, hD⟩ := va_join (wr := []) (w1 := [(Rh, .inr (3, [.int u_2.1])), (Ph, .inr (2, [.ref Pa0, .int u_2.2.2.1, .int u_2.2.2.2.1, .int u_2.2.2.2.2.1, .int u_2.2.2.2.2.2.1, .int u_2.2.2.2.2.2.2])), (Pa0, .inl ((kI K), 64, .inl u_2.2.1)), (Lh, .inr (1, [.ref La0, .int L.2])), (La0, .inl ((kC K), 100, .inl L.1))]) hP hD [0, 1, 2, 3, 4] [] rfl rfl (by decide) (by decide) hk1 hFc hP1 hD1
        have hP : va_P (kD K) vwCl [(Rh, .inr (3, [.int u_2.1])), (Ph, .inr (2, [.ref Pa0, .int u_2.2.2.1, .int u_2.2.2.2.1, .int u_2.2.2.2.2.1, .int u_2.2.2.2.2.2.1, .int u_2.2.2.2.2.2.2])), (Pa0, .inl ((kI K), 64, .inl u_2.2.1)), (Lh, .inr (1, [.ref La0, .int L.2])), (La0, .inl ((kC K), 100, .inl L.1))] H1 := hP.sub [0, 1, 2, 3, 4] rfl
        have hD : va_D A [(Rh, .inr (3, [.int u_2.1])), (Ph, .inr (2, [.ref Pa0, .int u_2.2.2.1, .int u_2.2.2.2.1, .int u_2.2.2.2.2.1, .int u_2.2.2.2.2.2.1, .int u_2.2.2.2.2.2.2])), (Pa0, .inl ((kI K), 64, .inl u_2.2.1)), (Lh, .inr (1, [.ref La0, .int L.2])), (La0, .inl ((kC K), 100, .inl L.1))] := hD.sub [0, 1, 2, 3, 4] (by decide) rfl
        generalize H1 = H at hP hS ⊢
        have hF := hF.trans (bnd2_s hw_2.1)
        have hn_2 := hw_2.2.1
        refine lv_if_ne (tgt := 19) hx hb d_rd_readRanks_14 (by decide) (fun c_3 => ?_) (fun c_3 => ?_)
        · have hF := hF.trans (if_neg c_3)
          refine lv_iload_n hx hb d_rd_readRanks_19 rfl (lv_at hl 3 rfl) ?_
          refine lv_if_le (tgt := 35) hx hb d_rd_readRanks_20 (by decide) (fun c_4 => ?_) (fun c_4 => ?_)
          · have hF := hF.trans (if_pos c_4)
            refine lv_iinc (v := v3 + (-1 : Int32)) (lv' := [(3, .int (v3 + (-1 : Int32))), (0, .ref Rh), (1, .ref Ph), (2, .ref Lh)]) hx hb d_rd_readRanks_35 hl (k := 3) rfl rfl (by decide) rfl (fun ls hl => ?_)
            refine lv_goto (tgt := 3) hx hb d_rd_readRanks_38 (by decide) ?_
            exact ih3  (v3 + (-1 : Int32)) u_2.1 u_2.2 _ _ ls  (ld1_s i0 c_1) (ld1_d i0 c_1 hm) hP hD hS (lv_sub hl [1, 2, 3, 0] rfl) hF
          · have hF := hF.trans (if_neg c_4)
            refine lv_aload_n hx hb d_rd_readRanks_23 rfl (lv_at hl 0 rfl) ?_
            refine lv_aload_n hx hb d_rd_readRanks_24 rfl (lv_at hl 2 rfl) ?_
            refine lv_bipush (v := 47) hx hb d_rd_readRanks_25 (by decide) ?_
            have hPc : va_P (kD K) vwCl [(Rh, .inr (3, [.int u_2.1])), (Lh, .inr (1, [.ref La0, .int L.2])), (La0, .inl ((kC K), 100, .inl L.1))] _ := hP.sub [0, 3, 4] rfl
            have hDc : va_D A [(Rh, .inr (3, [.int u_2.1])), (Lh, .inr (1, [.ref La0, .int L.2])), (La0, .inl ((kC K), 100, .inl L.1))] := hD.sub [0, 3, 4] (by decide) rfl
            have hFc := va_free (wc := [(Rh, .inr (3, [.int u_2.1])), (Lh, .inr (1, [.ref La0, .int L.2])), (La0, .inl ((kC K), 100, .inl L.1))]) hD hS hA [0, 3, 4] rfl
            refine va_calli (va_runV (As := [.ref Lh, .int (47 : Int32)]) (rest := []) ⟨hx, hb, hml, hown, htg⟩ (c_rd_passes l K _ Rh u_2.1 Lh La0 L (47 : Int32)) (cwV 2 htg (g_V q_300 q_302 qs_2 q_3 (g_w q_303)) rfl rfl rfl ⟨rfl, k_rd_passes⟩ ⟨Nat.le_of_ble_eq_true rfl, Nat.le_of_ble_eq_true rfl⟩) ⟨mu_blind, va_recv hK hPc (ci := 3) (q0 := 0) rfl rfl, mu_use hPc hK hDc hG hS hFc ⟨(by assumption), trivial⟩⟩ rfl rfl hl.1 rfl (lv_room (Nat.le_of_ble_eq_true rfl)) d_rd_readRanks_27 ⟨Nat.zero_le _, Nat.zero_le _⟩) hS (fun q _ h => hFc q h) hFc (fun r_5 u_5 t H1 locs ht hvm hw_5 hB hz1 hk1 hS => ?_)
            obtain ⟨hP1, hD1⟩ := hB
            rw [ht] at hP1
            obtain ⟨hP, hD⟩ := va_join (wr := [(Ph, .inr (2, [.ref Pa0, .int u_2.2.2.1, .int u_2.2.2.2.1, .int u_2.2.2.2.2.1, .int u_2.2.2.2.2.2.1, .int u_2.2.2.2.2.2.2])), (Pa0, .inl ((kI K), 64, .inl u_2.2.1))]) (w1 := [(Rh, .inr (3, [.int u_5])), (Lh, .inr (1, [.ref La0, .int L.2])), (La0, .inl ((kC K), 100, .inl L.1))]) hP hD [0, 3, 4] [1, 2] rfl rfl (by decide) (by decide) hk1 hFc hP1 hD1
            have hP : va_P (kD K) vwCl [(Rh, .inr (3, [.int u_5])), (Ph, .inr (2, [.ref Pa0, .int u_2.2.2.1, .int u_2.2.2.2.1, .int u_2.2.2.2.2.1, .int u_2.2.2.2.2.2.1, .int u_2.2.2.2.2.2.2])), (Pa0, .inl ((kI K), 64, .inl u_2.2.1)), (Lh, .inr (1, [.ref La0, .int L.2])), (La0, .inl ((kC K), 100, .inl L.1))] H1 := hP.sub [2, 0, 1, 3, 4] rfl
            have hD : va_D A [(Rh, .inr (3, [.int u_5])), (Ph, .inr (2, [.ref Pa0, .int u_2.2.2.1, .int u_2.2.2.2.1, .int u_2.2.2.2.2.1, .int u_2.2.2.2.2.2.1, .int u_2.2.2.2.2.2.2])), (Pa0, .inl ((kI K), 64, .inl u_2.2.1)), (Lh, .inr (1, [.ref La0, .int L.2])), (La0, .inl ((kC K), 100, .inl L.1))] := hD.sub [2, 0, 1, 3, 4] (by decide) rfl
            generalize H1 = H at hP hS ⊢
            have hF := hF.trans (bnd2_s hw_5.1)
            have hn_5 := hw_5.2.1
            refine lv_if_ne (tgt := 35) hx hb d_rd_readRanks_30 (by decide) (fun c_6 => ?_) (fun c_6 => ?_)
            · have hF := hF.trans (if_neg c_6)
              refine lv_iinc (v := v3 + (-1 : Int32)) (lv' := [(3, .int (v3 + (-1 : Int32))), (0, .ref Rh), (1, .ref Ph), (2, .ref Lh)]) hx hb d_rd_readRanks_35 hl (k := 3) rfl rfl (by decide) rfl (fun ls hl => ?_)
              refine lv_goto (tgt := 3) hx hb d_rd_readRanks_38 (by decide) ?_
              exact ih3  (v3 + (-1 : Int32)) u_5 u_2.2 _ _ ls  (ld1_s i0 c_1) (ld1_d i0 c_1 hm) hP hD hS (lv_sub hl [1, 2, 3, 0] rfl) hF
            · have hF := hF.trans (if_pos c_6)
              refine lv_iconst (v := 0) hx hb d_rd_readRanks_33 (by decide) ?_
              exact W.zret (v := (0 : Int32)) hx hb hr (rfl) (fun t ht hW => ⟨⟨(0 : Int32), (u_5, u_2.2), rfl, ⟨hF, rfl, trivial⟩, ⟨by rw [ht]; exact hP, hD⟩⟩, hS.F ht⟩) hS.2.2 d_rd_readRanks_34
        · have hF := hF.trans (if_pos c_3)
          refine lv_iconst (v := 0) hx hb d_rd_readRanks_17 (by decide) ?_
          exact W.zret (v := (0 : Int32)) hx hb hr (rfl) (fun t ht hW => ⟨⟨(0 : Int32), (u_2.1, u_2.2), rfl, ⟨hF, rfl, trivial⟩, ⟨by rw [ht]; exact hP, hD⟩⟩, hS.F ht⟩) hS.2.2 d_rd_readRanks_18
  exact loop3 9 (7 : Int32) R P _ _ ls  (by decide) (by decide) hP hD hS (lv_sub hl [1, 2, 3, 0] rfl) hF
def f_rd_readInto (R : Int32) (P : PsT) (L : LnT) : Int32 × Int32 × PsT := (bnd (f_ps_clearBoard P) (fun u_1 => (bnd2 (f_rd_readRanks (0 : Int32) u_1 L) (fun r_2 u_2 => (if r_2 = 0 then ((1 : Int32), (u_2.1, u_2.2)) else (bnd2 (f_rd_passes u_2.1 L (32 : Int32)) (fun r_4 u_4 => (if r_4 = 0 then ((1 : Int32), (u_4, u_2.2)) else (bnd2 (f_rd_readSide u_4 u_2.2 L) (fun r_6 u_6 => (if r_6 = 0 then ((2 : Int32), (u_6.1, u_6.2)) else (bnd2 (f_rd_passes u_6.1 L (32 : Int32)) (fun r_8 u_8 => (if r_8 = 0 then ((2 : Int32), (u_8, u_6.2)) else (bnd2 (f_rd_readRights u_8 u_6.2 L) (fun r_10 u_10 => (if r_10 = 0 then ((3 : Int32), (u_10.1, u_10.2)) else (bnd2 (f_rd_passes u_10.1 L (32 : Int32)) (fun r_12 u_12 => (if r_12 = 0 then ((3 : Int32), (u_12, u_10.2)) else (bnd2 (f_rd_readPassant u_12 u_10.2 L) (fun r_14 u_14 => (if r_14 = 0 then ((4 : Int32), (u_14.1, u_14.2)) else (bnd2 (f_rd_passes u_14.1 L (32 : Int32)) (fun r_16 u_16 => (if r_16 = 0 then ((4 : Int32), (u_16, u_14.2)) else (bnd2 (f_rd_readNumber u_16 L (999 : Int32)) (fun r_18 u_18 => (if r_18 = (-1 : Int32) then ((5 : Int32), (u_18, (u_14.2.1, u_14.2.2.1, u_14.2.2.2.1, u_14.2.2.2.2.1, r_18, u_14.2.2.2.2.2.2))) else (bnd2 (f_rd_passes u_18 L (32 : Int32)) (fun r_20 u_20 => (if r_20 = 0 then ((5 : Int32), (u_20, (u_14.2.1, u_14.2.2.1, u_14.2.2.2.1, u_14.2.2.2.2.1, r_18, u_14.2.2.2.2.2.2))) else (bnd2 (f_rd_readNumber u_20 L (9999 : Int32)) (fun r_22 u_22 => (if r_22 < (1 : Int32) then ((6 : Int32), (u_22, (u_14.2.1, u_14.2.2.1, u_14.2.2.2.1, u_14.2.2.2.2.1, r_18, r_22))) else (bnd (f_ln_size L) (fun r_24 => (if u_22 = r_24 then ((0 : Int32), (u_22, (u_14.2.1, u_14.2.2.1, u_14.2.2.2.1, u_14.2.2.2.2.1, r_18, r_22))) else ((6 : Int32), (u_22, (u_14.2.1, u_14.2.2.1, u_14.2.2.2.1, u_14.2.2.2.2.1, r_18, r_22)))))))))))))))))))))))))))))))))))))))))
set_option maxHeartbeats 4000000 in
set_option maxRecDepth 100000 in
theorem c_rd_readInto (l : Launch) (K : KT) (sz : Nat) (Rh : Nat) (R : Int32) (Ph Pa0 : Nat) (P : PsT) (Lh La0 : Nat) (L : LnT) : Met l y_rd_readInto w_rd_readInto ({ frames := 6, cells := 0, slots := 0, locals := 142 } : Room) (va_Pc [.ref Rh, .ref Ph, .ref Lh] (fun U => pMU K [(Rh, .inr (3, [.int R])), (Ph, .inr (2, [.ref Pa0, .int P.2.1, .int P.2.2.1, .int P.2.2.2.1, .int P.2.2.2.2.1, .int P.2.2.2.2.2])), (Pa0, .inl ((kI K), 64, .inl P.1)), (Lh, .inr (1, [.ref La0, .int L.2])), (La0, .inl ((kC K), 100, .inl L.1))] sz U ∧ LnOk L ∧ True)) (va_Qi (fun (r : Int32) (u : Int32 × PsT) => f_rd_readInto R P L = (r, u) ∧ True) (fun (u : Int32 × PsT) (t : State) => va_P (kD K) vwCl [(Rh, .inr (3, [.int u.1])), (Ph, .inr (2, [.ref Pa0, .int u.2.2.1, .int u.2.2.2.1, .int u.2.2.2.2.1, .int u.2.2.2.2.2.1, .int u.2.2.2.2.2.2])), (Pa0, .inl ((kI K), 64, .inl u.2.1)), (Lh, .inr (1, [.ref La0, .int L.2])), (La0, .inl ((kC K), 100, .inl L.1))] t.heap ∧ va_D (va_A [(Rh, .inr (3, [.int R])), (Ph, .inr (2, [.ref Pa0, .int P.2.1, .int P.2.2.1, .int P.2.2.2.1, .int P.2.2.2.2.1, .int P.2.2.2.2.2])), (Pa0, .inl ((kI K), 64, .inl P.1)), (Lh, .inr (1, [.ref La0, .int L.2])), (La0, .inl ((kC K), 100, .inl L.1))] sz) [(Rh, .inr (3, [.int u.1])), (Ph, .inr (2, [.ref Pa0, .int u.2.2.1, .int u.2.2.2.1, .int u.2.2.2.2.1, .int u.2.2.2.2.2.1, .int u.2.2.2.2.2.2])), (Pa0, .inl ((kI K), 64, .inl u.2.1)), (Lh, .inr (1, [.ref La0, .int L.2])), (La0, .inl ((kC K), 100, .inl L.1))]) (va_A [(Rh, .inr (3, [.int R])), (Ph, .inr (2, [.ref Pa0, .int P.2.1, .int P.2.2.1, .int P.2.2.2.1, .int P.2.2.2.2.1, .int P.2.2.2.2.2])), (Pa0, .inl ((kI K), 64, .inl P.1)), (Lh, .inr (1, [.ref La0, .int L.2])), (La0, .inl ((kC K), 100, .inl L.1))] sz)) 0 0 (va_A [(Rh, .inr (3, [.int R])), (Ph, .inr (2, [.ref Pa0, .int P.2.1, .int P.2.2.1, .int P.2.2.2.1, .int P.2.2.2.2.1, .int P.2.2.2.2.2])), (Pa0, .inl ((kI K), 64, .inl P.1)), (Lh, .inr (1, [.ref La0, .int L.2])), (La0, .inl ((kC K), 100, .inl L.1))] sz) := by
  refine Met.ofW (cc := b_rd_readInto) (maxL := 3) (ret := (some .int)) (by decide) rfl ?_
  intro p e s m args below meth c s₁ B hml hv
  obtain ⟨rfl, ⟨hsz, hP, hK, hD0, hG⟩, ok_L, -⟩ := hv
  have hx := B.exec
  have hb := B.bytes
  have hr := B.returns
  have hts := atoms_spec (ws := w_rd_readInto) B.pre
  have hown : s.vm.findClass R_rd = some m.cls := findClass_of_methodNamed B.named
  have hlocks := B.notSynchronized
  have htg := fun w h => hts w (List.mem_cons_of_mem _ h)
  subst hsz
  have hD := hD0.self (sz := s.heap.size)
  generalize hAe : va_A [(Rh, .inr (3, [.int R])), (Ph, .inr (2, [.ref Pa0, .int P.2.1, .int P.2.2.1, .int P.2.2.2.1, .int P.2.2.2.2.1, .int P.2.2.2.2.2])), (Pa0, .inl ((kI K), 64, .inl P.1)), (Lh, .inr (1, [.ref La0, .int L.2])), (La0, .inl ((kC K), 100, .inl L.1))] s.heap.size = A at hD hG ⊢
  have hA : ∀ q : Nat, s.heap.size ≤ q → A q := fun q h => by rw [← hAe]; exact Or.inr h
  have hS : va_S A s.heap s.heap [] := va_S.rf
  have hl := lv_entry ([.ref Rh, .ref Ph, .ref Lh]) (n := 3) (Nat.le_of_ble_eq_true rfl)
  rw [lg_entry_eq]
  generalize (lg_sl ([.ref Rh, .ref Ph, .ref Lh]) ++ List.replicate (3 - (lg_sl ([.ref Rh, .ref Ph, .ref Lh])).length) Slot.unset).toArray = ls at hl ⊢
  have hl : lv_has ls 3 [(0, .ref Rh), (1, .ref Ph), (2, .ref Lh)] := hl
  have hF := f_rd_readInto.eq_1 R P L
  refine lv_aload_n hx hb d_rd_readInto_0 rfl (lv_at hl 0 rfl) ?_
  refine lv_iconst (v := 0) hx hb d_rd_readInto_1 (by decide) ?_
  refine va_put (D := kD K) (ci := 3) (v := .int (0 : Int32)) (ty := .int) (C := R_rd) (T := T_rd) (N := 1) hx hb htg in_rd ty_rd ty_rd_ok nm_rd hown hK hP hD hS 0 rfl rfl 0 (by decide) (htg (.fieldLink R_rd 9 "GameNotation$RecordReader" "place" "I") q_47) (fun _ h9 => h9) rfl (by decide +kernel) rfl rfl (Nat.le_of_ble_eq_true rfl) d_rd_readInto_2 (fun H locs hP hD hS => ?_)
  have hP : va_P (kD K) vwCl [(Rh, .inr (3, [.int (0 : Int32)])), (Ph, .inr (2, [.ref Pa0, .int P.2.1, .int P.2.2.1, .int P.2.2.2.1, .int P.2.2.2.2.1, .int P.2.2.2.2.2])), (Pa0, .inl ((kI K), 64, .inl P.1)), (Lh, .inr (1, [.ref La0, .int L.2])), (La0, .inl ((kC K), 100, .inl L.1))] _ := hP
  have hD : va_D A [(Rh, .inr (3, [.int (0 : Int32)])), (Ph, .inr (2, [.ref Pa0, .int P.2.1, .int P.2.2.1, .int P.2.2.2.1, .int P.2.2.2.2.1, .int P.2.2.2.2.2])), (Pa0, .inl ((kI K), 64, .inl P.1)), (Lh, .inr (1, [.ref La0, .int L.2])), (La0, .inl ((kC K), 100, .inl L.1))] := hD
  refine lv_aload_n hx hb d_rd_readInto_5 rfl (lv_at hl 1 rfl) ?_
  have hPc : va_P (kD K) vwCl [(Ph, .inr (2, [.ref Pa0, .int P.2.1, .int P.2.2.1, .int P.2.2.2.1, .int P.2.2.2.2.1, .int P.2.2.2.2.2])), (Pa0, .inl ((kI K), 64, .inl P.1))] _ := hP.sub [1, 2] rfl
  have hDc : va_D A [(Ph, .inr (2, [.ref Pa0, .int P.2.1, .int P.2.2.1, .int P.2.2.2.1, .int P.2.2.2.2.1, .int P.2.2.2.2.2])), (Pa0, .inl ((kI K), 64, .inl P.1))] := hD.sub [1, 2] (by decide) rfl
  have hFc := va_free (wc := [(Ph, .inr (2, [.ref Pa0, .int P.2.1, .int P.2.2.1, .int P.2.2.2.1, .int P.2.2.2.2.1, .int P.2.2.2.2.2])), (Pa0, .inl ((kI K), 64, .inl P.1))]) hD hS hA [1, 2] rfl
  refine va_callv (va_runV (As := []) (rest := []) ⟨hx, hb, hml, hown, htg⟩ (c_ps_clearBoard l K _ Ph Pa0 P) (cwV 0 htg (g_V q_189 q_190 q_191 q_6 (g_w q_192)) rfl rfl rfl ⟨rfl, k_ps_clearBoard⟩ ⟨Nat.le_of_ble_eq_true rfl, Nat.le_of_ble_eq_true rfl⟩) ⟨mu_blind, va_recv hK hPc (ci := 2) (q0 := 0) rfl rfl, mu_use hPc hK hDc hG hS hFc trivial⟩ rfl rfl hl.1 rfl (lv_room (Nat.le_of_ble_eq_true rfl)) d_rd_readInto_6 ⟨Nat.zero_le _, Nat.zero_le _⟩) hS (fun q _ h => hFc q h) hFc (fun u_1 t H1 locs ht hvm hw_1 hB hz1 hk1 hS => ?_)
  obtain ⟨hP1, hD1⟩ := hB
  rw [ht] at hP1
  obtain ⟨hP, hD⟩ := va_join (wr := [(Rh, .inr (3, [.int (0 : Int32)])), (Lh, .inr (1, [.ref La0, .int L.2])), (La0, .inl ((kC K), 100, .inl L.1))]) (w1 := [(Ph, .inr (2, [.ref Pa0, .int u_1.2.1, .int u_1.2.2.1, .int u_1.2.2.2.1, .int u_1.2.2.2.2.1, .int u_1.2.2.2.2.2])), (Pa0, .inl ((kI K), 64, .inl u_1.1))]) hP hD [1, 2] [0, 3, 4] rfl rfl (by decide) (by decide) hk1 hFc hP1 hD1
  have hP : va_P (kD K) vwCl [(Rh, .inr (3, [.int (0 : Int32)])), (Ph, .inr (2, [.ref Pa0, .int u_1.2.1, .int u_1.2.2.1, .int u_1.2.2.2.1, .int u_1.2.2.2.2.1, .int u_1.2.2.2.2.2])), (Pa0, .inl ((kI K), 64, .inl u_1.1)), (Lh, .inr (1, [.ref La0, .int L.2])), (La0, .inl ((kC K), 100, .inl L.1))] H1 := hP.sub [0, 3, 4, 1, 2] rfl
  have hD : va_D A [(Rh, .inr (3, [.int (0 : Int32)])), (Ph, .inr (2, [.ref Pa0, .int u_1.2.1, .int u_1.2.2.1, .int u_1.2.2.2.1, .int u_1.2.2.2.2.1, .int u_1.2.2.2.2.2])), (Pa0, .inl ((kI K), 64, .inl u_1.1)), (Lh, .inr (1, [.ref La0, .int L.2])), (La0, .inl ((kC K), 100, .inl L.1))] := hD.sub [0, 3, 4, 1, 2] (by decide) rfl
  generalize H1 = H at hP hS ⊢
  have hF := hF.trans (bnd_s hw_1.1)
  refine lv_aload_n hx hb d_rd_readInto_9 rfl (lv_at hl 0 rfl) ?_
  refine lv_aload_n hx hb d_rd_readInto_10 rfl (lv_at hl 1 rfl) ?_
  refine lv_aload_n hx hb d_rd_readInto_11 rfl (lv_at hl 2 rfl) ?_
  have hPc : va_P (kD K) vwCl [(Rh, .inr (3, [.int (0 : Int32)])), (Ph, .inr (2, [.ref Pa0, .int u_1.2.1, .int u_1.2.2.1, .int u_1.2.2.2.1, .int u_1.2.2.2.2.1, .int u_1.2.2.2.2.2])), (Pa0, .inl ((kI K), 64, .inl u_1.1)), (Lh, .inr (1, [.ref La0, .int L.2])), (La0, .inl ((kC K), 100, .inl L.1))] _ := hP.sub [0, 1, 2, 3, 4] rfl
  have hDc : va_D A [(Rh, .inr (3, [.int (0 : Int32)])), (Ph, .inr (2, [.ref Pa0, .int u_1.2.1, .int u_1.2.2.1, .int u_1.2.2.2.1, .int u_1.2.2.2.2.1, .int u_1.2.2.2.2.2])), (Pa0, .inl ((kI K), 64, .inl u_1.1)), (Lh, .inr (1, [.ref La0, .int L.2])), (La0, .inl ((kC K), 100, .inl L.1))] := hD.sub [0, 1, 2, 3, 4] (by decide) rfl
  have hFc := va_free (wc := [(Rh, .inr (3, [.int (0 : Int32)])), (Ph, .inr (2, [.ref Pa0, .int u_1.2.1, .int u_1.2.2.1, .int u_1.2.2.2.1, .int u_1.2.2.2.2.1, .int u_1.2.2.2.2.2])), (Pa0, .inl ((kI K), 64, .inl u_1.1)), (Lh, .inr (1, [.ref La0, .int L.2])), (La0, .inl ((kC K), 100, .inl L.1))]) hD hS hA [0, 1, 2, 3, 4] rfl
  refine va_calli (va_runV (As := [.ref Ph, .ref Lh]) (rest := []) ⟨hx, hb, hml, hown, htg⟩ (c_rd_readRanks l K _ Rh (0 : Int32) Ph Pa0 u_1 Lh La0 L) (cwV 2 htg (g_V q_193 q_195 qs_0 q_3 (g_w q_196)) rfl rfl rfl ⟨rfl, k_rd_readRanks⟩ ⟨Nat.le_of_ble_eq_true rfl, Nat.le_of_ble_eq_true rfl⟩) ⟨mu_blind, va_recv hK hPc (ci := 3) (q0 := 0) rfl rfl, mu_use hPc hK hDc hG hS hFc ⟨(by assumption), trivial⟩⟩ rfl rfl hl.1 rfl (lv_room (Nat.le_of_ble_eq_true rfl)) d_rd_readInto_12 ⟨Nat.zero_le _, Nat.zero_le _⟩) hS (fun q _ h => hFc q h) hFc (fun r_2 u_2 t H1 locs ht hvm hw_2 hB hz1 hk1 hS => ?_)
  obtain ⟨hP1, hD1⟩ := hB
  rw [ht] at hP1
  obtain ⟨hP, hD⟩ := va_join (wr := []) (w1 := [(Rh, .inr (3, [.int u_2.1])), (Ph, .inr (2, [.ref Pa0, .int u_2.2.2.1, .int u_2.2.2.2.1, .int u_2.2.2.2.2.1, .int u_2.2.2.2.2.2.1, .int u_2.2.2.2.2.2.2])), (Pa0, .inl ((kI K), 64, .inl u_2.2.1)), (Lh, .inr (1, [.ref La0, .int L.2])), (La0, .inl ((kC K), 100, .inl L.1))]) hP hD [0, 1, 2, 3, 4] [] rfl rfl (by decide) (by decide) hk1 hFc hP1 hD1
  have hP : va_P (kD K) vwCl [(Rh, .inr (3, [.int u_2.1])), (Ph, .inr (2, [.ref Pa0, .int u_2.2.2.1, .int u_2.2.2.2.1, .int u_2.2.2.2.2.1, .int u_2.2.2.2.2.2.1, .int u_2.2.2.2.2.2.2])), (Pa0, .inl ((kI K), 64, .inl u_2.2.1)), (Lh, .inr (1, [.ref La0, .int L.2])), (La0, .inl ((kC K), 100, .inl L.1))] H1 := hP.sub [0, 1, 2, 3, 4] rfl
  have hD : va_D A [(Rh, .inr (3, [.int u_2.1])), (Ph, .inr (2, [.ref Pa0, .int u_2.2.2.1, .int u_2.2.2.2.1, .int u_2.2.2.2.2.1, .int u_2.2.2.2.2.2.1, .int u_2.2.2.2.2.2.2])), (Pa0, .inl ((kI K), 64, .inl u_2.2.1)), (Lh, .inr (1, [.ref La0, .int L.2])), (La0, .inl ((kC K), 100, .inl L.1))] := hD.sub [0, 1, 2, 3, 4] (by decide) rfl
  generalize H1 = H at hP hS ⊢
  have hF := hF.trans (bnd2_s hw_2.1)
  have hn_2 := hw_2.2.1
  refine lv_if_eq (tgt := 28) hx hb d_rd_readInto_15 (by decide) (fun c_3 => ?_) (fun c_3 => ?_)
  · have hF := hF.trans (if_pos c_3)
    refine lv_iconst (v := 1) hx hb d_rd_readInto_28 (by decide) ?_
    exact W.iret (v := (1 : Int32)) hx hb hr (fun t ht hW => ⟨⟨(1 : Int32), (u_2.1, u_2.2), rfl, ⟨hF, trivial⟩, ⟨by rw [ht]; exact hP, hD⟩⟩, hS.F ht⟩) hS.2.2 d_rd_readInto_29
  · have hF := hF.trans (if_neg c_3)
    refine lv_aload_n hx hb d_rd_readInto_18 rfl (lv_at hl 0 rfl) ?_
    refine lv_aload_n hx hb d_rd_readInto_19 rfl (lv_at hl 2 rfl) ?_
    refine lv_bipush (v := 32) hx hb d_rd_readInto_20 (by decide) ?_
    have hPc : va_P (kD K) vwCl [(Rh, .inr (3, [.int u_2.1])), (Lh, .inr (1, [.ref La0, .int L.2])), (La0, .inl ((kC K), 100, .inl L.1))] _ := hP.sub [0, 3, 4] rfl
    have hDc : va_D A [(Rh, .inr (3, [.int u_2.1])), (Lh, .inr (1, [.ref La0, .int L.2])), (La0, .inl ((kC K), 100, .inl L.1))] := hD.sub [0, 3, 4] (by decide) rfl
    have hFc := va_free (wc := [(Rh, .inr (3, [.int u_2.1])), (Lh, .inr (1, [.ref La0, .int L.2])), (La0, .inl ((kC K), 100, .inl L.1))]) hD hS hA [0, 3, 4] rfl
    refine va_calli (va_runV (As := [.ref Lh, .int (32 : Int32)]) (rest := []) ⟨hx, hb, hml, hown, htg⟩ (c_rd_passes l K _ Rh u_2.1 Lh La0 L (32 : Int32)) (cwV 2 htg (g_V q_300 q_302 qs_2 q_3 (g_w q_303)) rfl rfl rfl ⟨rfl, k_rd_passes⟩ ⟨Nat.le_of_ble_eq_true rfl, Nat.le_of_ble_eq_true rfl⟩) ⟨mu_blind, va_recv hK hPc (ci := 3) (q0 := 0) rfl rfl, mu_use hPc hK hDc hG hS hFc ⟨(by assumption), trivial⟩⟩ rfl rfl hl.1 rfl (lv_room (Nat.le_of_ble_eq_true rfl)) d_rd_readInto_22 ⟨Nat.zero_le _, Nat.zero_le _⟩) hS (fun q _ h => hFc q h) hFc (fun r_4 u_4 t H1 locs ht hvm hw_4 hB hz1 hk1 hS => ?_)
    obtain ⟨hP1, hD1⟩ := hB
    rw [ht] at hP1
    obtain ⟨hP, hD⟩ := va_join (wr := [(Ph, .inr (2, [.ref Pa0, .int u_2.2.2.1, .int u_2.2.2.2.1, .int u_2.2.2.2.2.1, .int u_2.2.2.2.2.2.1, .int u_2.2.2.2.2.2.2])), (Pa0, .inl ((kI K), 64, .inl u_2.2.1))]) (w1 := [(Rh, .inr (3, [.int u_4])), (Lh, .inr (1, [.ref La0, .int L.2])), (La0, .inl ((kC K), 100, .inl L.1))]) hP hD [0, 3, 4] [1, 2] rfl rfl (by decide) (by decide) hk1 hFc hP1 hD1
    have hP : va_P (kD K) vwCl [(Rh, .inr (3, [.int u_4])), (Ph, .inr (2, [.ref Pa0, .int u_2.2.2.1, .int u_2.2.2.2.1, .int u_2.2.2.2.2.1, .int u_2.2.2.2.2.2.1, .int u_2.2.2.2.2.2.2])), (Pa0, .inl ((kI K), 64, .inl u_2.2.1)), (Lh, .inr (1, [.ref La0, .int L.2])), (La0, .inl ((kC K), 100, .inl L.1))] H1 := hP.sub [2, 0, 1, 3, 4] rfl
    have hD : va_D A [(Rh, .inr (3, [.int u_4])), (Ph, .inr (2, [.ref Pa0, .int u_2.2.2.1, .int u_2.2.2.2.1, .int u_2.2.2.2.2.1, .int u_2.2.2.2.2.2.1, .int u_2.2.2.2.2.2.2])), (Pa0, .inl ((kI K), 64, .inl u_2.2.1)), (Lh, .inr (1, [.ref La0, .int L.2])), (La0, .inl ((kC K), 100, .inl L.1))] := hD.sub [2, 0, 1, 3, 4] (by decide) rfl
    generalize H1 = H at hP hS ⊢
    have hF := hF.trans (bnd2_s hw_4.1)
    have hn_4 := hw_4.2.1
    refine lv_if_ne (tgt := 30) hx hb d_rd_readInto_25 (by decide) (fun c_5 => ?_) (fun c_5 => ?_)
    · have hF := hF.trans (if_neg c_5)
      refine lv_aload_n hx hb d_rd_readInto_30 rfl (lv_at hl 0 rfl) ?_
      refine lv_aload_n hx hb d_rd_readInto_31 rfl (lv_at hl 1 rfl) ?_
      refine lv_aload_n hx hb d_rd_readInto_32 rfl (lv_at hl 2 rfl) ?_
      have hPc : va_P (kD K) vwCl [(Rh, .inr (3, [.int u_4])), (Ph, .inr (2, [.ref Pa0, .int u_2.2.2.1, .int u_2.2.2.2.1, .int u_2.2.2.2.2.1, .int u_2.2.2.2.2.2.1, .int u_2.2.2.2.2.2.2])), (Pa0, .inl ((kI K), 64, .inl u_2.2.1)), (Lh, .inr (1, [.ref La0, .int L.2])), (La0, .inl ((kC K), 100, .inl L.1))] _ := hP.sub [0, 1, 2, 3, 4] rfl
      have hDc : va_D A [(Rh, .inr (3, [.int u_4])), (Ph, .inr (2, [.ref Pa0, .int u_2.2.2.1, .int u_2.2.2.2.1, .int u_2.2.2.2.2.1, .int u_2.2.2.2.2.2.1, .int u_2.2.2.2.2.2.2])), (Pa0, .inl ((kI K), 64, .inl u_2.2.1)), (Lh, .inr (1, [.ref La0, .int L.2])), (La0, .inl ((kC K), 100, .inl L.1))] := hD.sub [0, 1, 2, 3, 4] (by decide) rfl
      have hFc := va_free (wc := [(Rh, .inr (3, [.int u_4])), (Ph, .inr (2, [.ref Pa0, .int u_2.2.2.1, .int u_2.2.2.2.1, .int u_2.2.2.2.2.1, .int u_2.2.2.2.2.2.1, .int u_2.2.2.2.2.2.2])), (Pa0, .inl ((kI K), 64, .inl u_2.2.1)), (Lh, .inr (1, [.ref La0, .int L.2])), (La0, .inl ((kC K), 100, .inl L.1))]) hD hS hA [0, 1, 2, 3, 4] rfl
      refine va_calli (va_runV (As := [.ref Ph, .ref Lh]) (rest := []) ⟨hx, hb, hml, hown, htg⟩ (c_rd_readSide l K _ Rh u_4 Ph Pa0 u_2.2 Lh La0 L) (cwV 2 htg (g_V q_304 q_306 qs_3 q_3 (g_w q_307)) rfl rfl rfl ⟨rfl, k_rd_readSide⟩ ⟨Nat.le_of_ble_eq_true rfl, Nat.le_of_ble_eq_true rfl⟩) ⟨mu_blind, va_recv hK hPc (ci := 3) (q0 := 0) rfl rfl, mu_use hPc hK hDc hG hS hFc ⟨(by assumption), trivial⟩⟩ rfl rfl hl.1 rfl (lv_room (Nat.le_of_ble_eq_true rfl)) d_rd_readInto_33 ⟨Nat.zero_le _, Nat.zero_le _⟩) hS (fun q _ h => hFc q h) hFc (fun r_6 u_6 t H1 locs ht hvm hw_6 hB hz1 hk1 hS => ?_)
      obtain ⟨hP1, hD1⟩ := hB
      rw [ht] at hP1
      obtain ⟨hP, hD⟩ := va_join (wr := []) (w1 := [(Rh, .inr (3, [.int u_6.1])), (Ph, .inr (2, [.ref Pa0, .int u_6.2.2.1, .int u_6.2.2.2.1, .int u_6.2.2.2.2.1, .int u_6.2.2.2.2.2.1, .int u_6.2.2.2.2.2.2])), (Pa0, .inl ((kI K), 64, .inl u_6.2.1)), (Lh, .inr (1, [.ref La0, .int L.2])), (La0, .inl ((kC K), 100, .inl L.1))]) hP hD [0, 1, 2, 3, 4] [] rfl rfl (by decide) (by decide) hk1 hFc hP1 hD1
      have hP : va_P (kD K) vwCl [(Rh, .inr (3, [.int u_6.1])), (Ph, .inr (2, [.ref Pa0, .int u_6.2.2.1, .int u_6.2.2.2.1, .int u_6.2.2.2.2.1, .int u_6.2.2.2.2.2.1, .int u_6.2.2.2.2.2.2])), (Pa0, .inl ((kI K), 64, .inl u_6.2.1)), (Lh, .inr (1, [.ref La0, .int L.2])), (La0, .inl ((kC K), 100, .inl L.1))] H1 := hP.sub [0, 1, 2, 3, 4] rfl
      have hD : va_D A [(Rh, .inr (3, [.int u_6.1])), (Ph, .inr (2, [.ref Pa0, .int u_6.2.2.1, .int u_6.2.2.2.1, .int u_6.2.2.2.2.1, .int u_6.2.2.2.2.2.1, .int u_6.2.2.2.2.2.2])), (Pa0, .inl ((kI K), 64, .inl u_6.2.1)), (Lh, .inr (1, [.ref La0, .int L.2])), (La0, .inl ((kC K), 100, .inl L.1))] := hD.sub [0, 1, 2, 3, 4] (by decide) rfl
      generalize H1 = H at hP hS ⊢
      have hF := hF.trans (bnd2_s hw_6.1)
      have hn_6 := hw_6.2.1
      refine lv_if_eq (tgt := 49) hx hb d_rd_readInto_36 (by decide) (fun c_7 => ?_) (fun c_7 => ?_)
      · have hF := hF.trans (if_pos c_7)
        refine lv_iconst (v := 2) hx hb d_rd_readInto_49 (by decide) ?_
        exact W.iret (v := (2 : Int32)) hx hb hr (fun t ht hW => ⟨⟨(2 : Int32), (u_6.1, u_6.2), rfl, ⟨hF, trivial⟩, ⟨by rw [ht]; exact hP, hD⟩⟩, hS.F ht⟩) hS.2.2 d_rd_readInto_50
      · have hF := hF.trans (if_neg c_7)
        refine lv_aload_n hx hb d_rd_readInto_39 rfl (lv_at hl 0 rfl) ?_
        refine lv_aload_n hx hb d_rd_readInto_40 rfl (lv_at hl 2 rfl) ?_
        refine lv_bipush (v := 32) hx hb d_rd_readInto_41 (by decide) ?_
        have hPc : va_P (kD K) vwCl [(Rh, .inr (3, [.int u_6.1])), (Lh, .inr (1, [.ref La0, .int L.2])), (La0, .inl ((kC K), 100, .inl L.1))] _ := hP.sub [0, 3, 4] rfl
        have hDc : va_D A [(Rh, .inr (3, [.int u_6.1])), (Lh, .inr (1, [.ref La0, .int L.2])), (La0, .inl ((kC K), 100, .inl L.1))] := hD.sub [0, 3, 4] (by decide) rfl
        have hFc := va_free (wc := [(Rh, .inr (3, [.int u_6.1])), (Lh, .inr (1, [.ref La0, .int L.2])), (La0, .inl ((kC K), 100, .inl L.1))]) hD hS hA [0, 3, 4] rfl
        refine va_calli (va_runV (As := [.ref Lh, .int (32 : Int32)]) (rest := []) ⟨hx, hb, hml, hown, htg⟩ (c_rd_passes l K _ Rh u_6.1 Lh La0 L (32 : Int32)) (cwV 2 htg (g_V q_300 q_302 qs_2 q_3 (g_w q_303)) rfl rfl rfl ⟨rfl, k_rd_passes⟩ ⟨Nat.le_of_ble_eq_true rfl, Nat.le_of_ble_eq_true rfl⟩) ⟨mu_blind, va_recv hK hPc (ci := 3) (q0 := 0) rfl rfl, mu_use hPc hK hDc hG hS hFc ⟨(by assumption), trivial⟩⟩ rfl rfl hl.1 rfl (lv_room (Nat.le_of_ble_eq_true rfl)) d_rd_readInto_43 ⟨Nat.zero_le _, Nat.zero_le _⟩) hS (fun q _ h => hFc q h) hFc (fun r_8 u_8 t H1 locs ht hvm hw_8 hB hz1 hk1 hS => ?_)
        obtain ⟨hP1, hD1⟩ := hB
        rw [ht] at hP1
        obtain ⟨hP, hD⟩ := va_join (wr := [(Ph, .inr (2, [.ref Pa0, .int u_6.2.2.1, .int u_6.2.2.2.1, .int u_6.2.2.2.2.1, .int u_6.2.2.2.2.2.1, .int u_6.2.2.2.2.2.2])), (Pa0, .inl ((kI K), 64, .inl u_6.2.1))]) (w1 := [(Rh, .inr (3, [.int u_8])), (Lh, .inr (1, [.ref La0, .int L.2])), (La0, .inl ((kC K), 100, .inl L.1))]) hP hD [0, 3, 4] [1, 2] rfl rfl (by decide) (by decide) hk1 hFc hP1 hD1
        have hP : va_P (kD K) vwCl [(Rh, .inr (3, [.int u_8])), (Ph, .inr (2, [.ref Pa0, .int u_6.2.2.1, .int u_6.2.2.2.1, .int u_6.2.2.2.2.1, .int u_6.2.2.2.2.2.1, .int u_6.2.2.2.2.2.2])), (Pa0, .inl ((kI K), 64, .inl u_6.2.1)), (Lh, .inr (1, [.ref La0, .int L.2])), (La0, .inl ((kC K), 100, .inl L.1))] H1 := hP.sub [2, 0, 1, 3, 4] rfl
        have hD : va_D A [(Rh, .inr (3, [.int u_8])), (Ph, .inr (2, [.ref Pa0, .int u_6.2.2.1, .int u_6.2.2.2.1, .int u_6.2.2.2.2.1, .int u_6.2.2.2.2.2.1, .int u_6.2.2.2.2.2.2])), (Pa0, .inl ((kI K), 64, .inl u_6.2.1)), (Lh, .inr (1, [.ref La0, .int L.2])), (La0, .inl ((kC K), 100, .inl L.1))] := hD.sub [2, 0, 1, 3, 4] (by decide) rfl
        generalize H1 = H at hP hS ⊢
        have hF := hF.trans (bnd2_s hw_8.1)
        have hn_8 := hw_8.2.1
        refine lv_if_ne (tgt := 51) hx hb d_rd_readInto_46 (by decide) (fun c_9 => ?_) (fun c_9 => ?_)
        · have hF := hF.trans (if_neg c_9)
          refine lv_aload_n hx hb d_rd_readInto_51 rfl (lv_at hl 0 rfl) ?_
          refine lv_aload_n hx hb d_rd_readInto_52 rfl (lv_at hl 1 rfl) ?_
          refine lv_aload_n hx hb d_rd_readInto_53 rfl (lv_at hl 2 rfl) ?_
          have hPc : va_P (kD K) vwCl [(Rh, .inr (3, [.int u_8])), (Ph, .inr (2, [.ref Pa0, .int u_6.2.2.1, .int u_6.2.2.2.1, .int u_6.2.2.2.2.1, .int u_6.2.2.2.2.2.1, .int u_6.2.2.2.2.2.2])), (Pa0, .inl ((kI K), 64, .inl u_6.2.1)), (Lh, .inr (1, [.ref La0, .int L.2])), (La0, .inl ((kC K), 100, .inl L.1))] _ := hP.sub [0, 1, 2, 3, 4] rfl
          have hDc : va_D A [(Rh, .inr (3, [.int u_8])), (Ph, .inr (2, [.ref Pa0, .int u_6.2.2.1, .int u_6.2.2.2.1, .int u_6.2.2.2.2.1, .int u_6.2.2.2.2.2.1, .int u_6.2.2.2.2.2.2])), (Pa0, .inl ((kI K), 64, .inl u_6.2.1)), (Lh, .inr (1, [.ref La0, .int L.2])), (La0, .inl ((kC K), 100, .inl L.1))] := hD.sub [0, 1, 2, 3, 4] (by decide) rfl
          have hFc := va_free (wc := [(Rh, .inr (3, [.int u_8])), (Ph, .inr (2, [.ref Pa0, .int u_6.2.2.1, .int u_6.2.2.2.1, .int u_6.2.2.2.2.1, .int u_6.2.2.2.2.2.1, .int u_6.2.2.2.2.2.2])), (Pa0, .inl ((kI K), 64, .inl u_6.2.1)), (Lh, .inr (1, [.ref La0, .int L.2])), (La0, .inl ((kC K), 100, .inl L.1))]) hD hS hA [0, 1, 2, 3, 4] rfl
          refine va_calli (va_runV (As := [.ref Ph, .ref Lh]) (rest := []) ⟨hx, hb, hml, hown, htg⟩ (c_rd_readRights l K _ Rh u_8 Ph Pa0 u_6.2 Lh La0 L) (cwV 2 htg (g_V q_308 q_310 qs_4 q_3 (g_w q_311)) rfl rfl rfl ⟨rfl, k_rd_readRights⟩ ⟨Nat.le_of_ble_eq_true rfl, Nat.le_of_ble_eq_true rfl⟩) ⟨mu_blind, va_recv hK hPc (ci := 3) (q0 := 0) rfl rfl, mu_use hPc hK hDc hG hS hFc ⟨(by assumption), trivial⟩⟩ rfl rfl hl.1 rfl (lv_room (Nat.le_of_ble_eq_true rfl)) d_rd_readInto_54 ⟨Nat.zero_le _, Nat.zero_le _⟩) hS (fun q _ h => hFc q h) hFc (fun r_10 u_10 t H1 locs ht hvm hw_10 hB hz1 hk1 hS => ?_)
          obtain ⟨hP1, hD1⟩ := hB
          rw [ht] at hP1
          obtain ⟨hP, hD⟩ := va_join (wr := []) (w1 := [(Rh, .inr (3, [.int u_10.1])), (Ph, .inr (2, [.ref Pa0, .int u_10.2.2.1, .int u_10.2.2.2.1, .int u_10.2.2.2.2.1, .int u_10.2.2.2.2.2.1, .int u_10.2.2.2.2.2.2])), (Pa0, .inl ((kI K), 64, .inl u_10.2.1)), (Lh, .inr (1, [.ref La0, .int L.2])), (La0, .inl ((kC K), 100, .inl L.1))]) hP hD [0, 1, 2, 3, 4] [] rfl rfl (by decide) (by decide) hk1 hFc hP1 hD1
          have hP : va_P (kD K) vwCl [(Rh, .inr (3, [.int u_10.1])), (Ph, .inr (2, [.ref Pa0, .int u_10.2.2.1, .int u_10.2.2.2.1, .int u_10.2.2.2.2.1, .int u_10.2.2.2.2.2.1, .int u_10.2.2.2.2.2.2])), (Pa0, .inl ((kI K), 64, .inl u_10.2.1)), (Lh, .inr (1, [.ref La0, .int L.2])), (La0, .inl ((kC K), 100, .inl L.1))] H1 := hP.sub [0, 1, 2, 3, 4] rfl
          have hD : va_D A [(Rh, .inr (3, [.int u_10.1])), (Ph, .inr (2, [.ref Pa0, .int u_10.2.2.1, .int u_10.2.2.2.1, .int u_10.2.2.2.2.1, .int u_10.2.2.2.2.2.1, .int u_10.2.2.2.2.2.2])), (Pa0, .inl ((kI K), 64, .inl u_10.2.1)), (Lh, .inr (1, [.ref La0, .int L.2])), (La0, .inl ((kC K), 100, .inl L.1))] := hD.sub [0, 1, 2, 3, 4] (by decide) rfl
          generalize H1 = H at hP hS ⊢
          have hF := hF.trans (bnd2_s hw_10.1)
          have hn_10 := hw_10.2.1
          refine lv_if_eq (tgt := 70) hx hb d_rd_readInto_57 (by decide) (fun c_11 => ?_) (fun c_11 => ?_)
          · have hF := hF.trans (if_pos c_11)
            refine lv_iconst (v := 3) hx hb d_rd_readInto_70 (by decide) ?_
            exact W.iret (v := (3 : Int32)) hx hb hr (fun t ht hW => ⟨⟨(3 : Int32), (u_10.1, u_10.2), rfl, ⟨hF, trivial⟩, ⟨by rw [ht]; exact hP, hD⟩⟩, hS.F ht⟩) hS.2.2 d_rd_readInto_71
          · have hF := hF.trans (if_neg c_11)
            refine lv_aload_n hx hb d_rd_readInto_60 rfl (lv_at hl 0 rfl) ?_
            refine lv_aload_n hx hb d_rd_readInto_61 rfl (lv_at hl 2 rfl) ?_
            refine lv_bipush (v := 32) hx hb d_rd_readInto_62 (by decide) ?_
            have hPc : va_P (kD K) vwCl [(Rh, .inr (3, [.int u_10.1])), (Lh, .inr (1, [.ref La0, .int L.2])), (La0, .inl ((kC K), 100, .inl L.1))] _ := hP.sub [0, 3, 4] rfl
            have hDc : va_D A [(Rh, .inr (3, [.int u_10.1])), (Lh, .inr (1, [.ref La0, .int L.2])), (La0, .inl ((kC K), 100, .inl L.1))] := hD.sub [0, 3, 4] (by decide) rfl
            have hFc := va_free (wc := [(Rh, .inr (3, [.int u_10.1])), (Lh, .inr (1, [.ref La0, .int L.2])), (La0, .inl ((kC K), 100, .inl L.1))]) hD hS hA [0, 3, 4] rfl
            refine va_calli (va_runV (As := [.ref Lh, .int (32 : Int32)]) (rest := []) ⟨hx, hb, hml, hown, htg⟩ (c_rd_passes l K _ Rh u_10.1 Lh La0 L (32 : Int32)) (cwV 2 htg (g_V q_300 q_302 qs_2 q_3 (g_w q_303)) rfl rfl rfl ⟨rfl, k_rd_passes⟩ ⟨Nat.le_of_ble_eq_true rfl, Nat.le_of_ble_eq_true rfl⟩) ⟨mu_blind, va_recv hK hPc (ci := 3) (q0 := 0) rfl rfl, mu_use hPc hK hDc hG hS hFc ⟨(by assumption), trivial⟩⟩ rfl rfl hl.1 rfl (lv_room (Nat.le_of_ble_eq_true rfl)) d_rd_readInto_64 ⟨Nat.zero_le _, Nat.zero_le _⟩) hS (fun q _ h => hFc q h) hFc (fun r_12 u_12 t H1 locs ht hvm hw_12 hB hz1 hk1 hS => ?_)
            obtain ⟨hP1, hD1⟩ := hB
            rw [ht] at hP1
            obtain ⟨hP, hD⟩ := va_join (wr := [(Ph, .inr (2, [.ref Pa0, .int u_10.2.2.1, .int u_10.2.2.2.1, .int u_10.2.2.2.2.1, .int u_10.2.2.2.2.2.1, .int u_10.2.2.2.2.2.2])), (Pa0, .inl ((kI K), 64, .inl u_10.2.1))]) (w1 := [(Rh, .inr (3, [.int u_12])), (Lh, .inr (1, [.ref La0, .int L.2])), (La0, .inl ((kC K), 100, .inl L.1))]) hP hD [0, 3, 4] [1, 2] rfl rfl (by decide) (by decide) hk1 hFc hP1 hD1
            have hP : va_P (kD K) vwCl [(Rh, .inr (3, [.int u_12])), (Ph, .inr (2, [.ref Pa0, .int u_10.2.2.1, .int u_10.2.2.2.1, .int u_10.2.2.2.2.1, .int u_10.2.2.2.2.2.1, .int u_10.2.2.2.2.2.2])), (Pa0, .inl ((kI K), 64, .inl u_10.2.1)), (Lh, .inr (1, [.ref La0, .int L.2])), (La0, .inl ((kC K), 100, .inl L.1))] H1 := hP.sub [2, 0, 1, 3, 4] rfl
            have hD : va_D A [(Rh, .inr (3, [.int u_12])), (Ph, .inr (2, [.ref Pa0, .int u_10.2.2.1, .int u_10.2.2.2.1, .int u_10.2.2.2.2.1, .int u_10.2.2.2.2.2.1, .int u_10.2.2.2.2.2.2])), (Pa0, .inl ((kI K), 64, .inl u_10.2.1)), (Lh, .inr (1, [.ref La0, .int L.2])), (La0, .inl ((kC K), 100, .inl L.1))] := hD.sub [2, 0, 1, 3, 4] (by decide) rfl
            generalize H1 = H at hP hS ⊢
            have hF := hF.trans (bnd2_s hw_12.1)
            have hn_12 := hw_12.2.1
            refine lv_if_ne (tgt := 72) hx hb d_rd_readInto_67 (by decide) (fun c_13 => ?_) (fun c_13 => ?_)
            · have hF := hF.trans (if_neg c_13)
              refine lv_aload_n hx hb d_rd_readInto_72 rfl (lv_at hl 0 rfl) ?_
              refine lv_aload_n hx hb d_rd_readInto_73 rfl (lv_at hl 1 rfl) ?_
              refine lv_aload_n hx hb d_rd_readInto_74 rfl (lv_at hl 2 rfl) ?_
              have hPc : va_P (kD K) vwCl [(Rh, .inr (3, [.int u_12])), (Ph, .inr (2, [.ref Pa0, .int u_10.2.2.1, .int u_10.2.2.2.1, .int u_10.2.2.2.2.1, .int u_10.2.2.2.2.2.1, .int u_10.2.2.2.2.2.2])), (Pa0, .inl ((kI K), 64, .inl u_10.2.1)), (Lh, .inr (1, [.ref La0, .int L.2])), (La0, .inl ((kC K), 100, .inl L.1))] _ := hP.sub [0, 1, 2, 3, 4] rfl
              have hDc : va_D A [(Rh, .inr (3, [.int u_12])), (Ph, .inr (2, [.ref Pa0, .int u_10.2.2.1, .int u_10.2.2.2.1, .int u_10.2.2.2.2.1, .int u_10.2.2.2.2.2.1, .int u_10.2.2.2.2.2.2])), (Pa0, .inl ((kI K), 64, .inl u_10.2.1)), (Lh, .inr (1, [.ref La0, .int L.2])), (La0, .inl ((kC K), 100, .inl L.1))] := hD.sub [0, 1, 2, 3, 4] (by decide) rfl
              have hFc := va_free (wc := [(Rh, .inr (3, [.int u_12])), (Ph, .inr (2, [.ref Pa0, .int u_10.2.2.1, .int u_10.2.2.2.1, .int u_10.2.2.2.2.1, .int u_10.2.2.2.2.2.1, .int u_10.2.2.2.2.2.2])), (Pa0, .inl ((kI K), 64, .inl u_10.2.1)), (Lh, .inr (1, [.ref La0, .int L.2])), (La0, .inl ((kC K), 100, .inl L.1))]) hD hS hA [0, 1, 2, 3, 4] rfl
              refine va_calli (va_runV (As := [.ref Ph, .ref Lh]) (rest := []) ⟨hx, hb, hml, hown, htg⟩ (c_rd_readPassant l K _ Rh u_12 Ph Pa0 u_10.2 Lh La0 L) (cwV 2 htg (g_V q_338 q_340 qs_5 q_3 (g_w q_341)) rfl rfl rfl ⟨rfl, k_rd_readPassant⟩ ⟨Nat.le_of_ble_eq_true rfl, Nat.le_of_ble_eq_true rfl⟩) ⟨mu_blind, va_recv hK hPc (ci := 3) (q0 := 0) rfl rfl, mu_use hPc hK hDc hG hS hFc ⟨(by assumption), trivial⟩⟩ rfl rfl hl.1 rfl (lv_room (Nat.le_of_ble_eq_true rfl)) d_rd_readInto_75 ⟨Nat.zero_le _, Nat.zero_le _⟩) hS (fun q _ h => hFc q h) hFc (fun r_14 u_14 t H1 locs ht hvm hw_14 hB hz1 hk1 hS => ?_)
              obtain ⟨hP1, hD1⟩ := hB
              rw [ht] at hP1
              obtain ⟨hP, hD⟩ := va_join (wr := []) (w1 := [(Rh, .inr (3, [.int u_14.1])), (Ph, .inr (2, [.ref Pa0, .int u_14.2.2.1, .int u_14.2.2.2.1, .int u_14.2.2.2.2.1, .int u_14.2.2.2.2.2.1, .int u_14.2.2.2.2.2.2])), (Pa0, .inl ((kI K), 64, .inl u_14.2.1)), (Lh, .inr (1, [.ref La0, .int L.2])), (La0, .inl ((kC K), 100, .inl L.1))]) hP hD [0, 1, 2, 3, 4] [] rfl rfl (by decide) (by decide) hk1 hFc hP1 hD1
              have hP : va_P (kD K) vwCl [(Rh, .inr (3, [.int u_14.1])), (Ph, .inr (2, [.ref Pa0, .int u_14.2.2.1, .int u_14.2.2.2.1, .int u_14.2.2.2.2.1, .int u_14.2.2.2.2.2.1, .int u_14.2.2.2.2.2.2])), (Pa0, .inl ((kI K), 64, .inl u_14.2.1)), (Lh, .inr (1, [.ref La0, .int L.2])), (La0, .inl ((kC K), 100, .inl L.1))] H1 := hP.sub [0, 1, 2, 3, 4] rfl
              have hD : va_D A [(Rh, .inr (3, [.int u_14.1])), (Ph, .inr (2, [.ref Pa0, .int u_14.2.2.1, .int u_14.2.2.2.1, .int u_14.2.2.2.2.1, .int u_14.2.2.2.2.2.1, .int u_14.2.2.2.2.2.2])), (Pa0, .inl ((kI K), 64, .inl u_14.2.1)), (Lh, .inr (1, [.ref La0, .int L.2])), (La0, .inl ((kC K), 100, .inl L.1))] := hD.sub [0, 1, 2, 3, 4] (by decide) rfl
              generalize H1 = H at hP hS ⊢
              have hF := hF.trans (bnd2_s hw_14.1)
              have hn_14 := hw_14.2.1
              refine lv_if_eq (tgt := 91) hx hb d_rd_readInto_78 (by decide) (fun c_15 => ?_) (fun c_15 => ?_)
              · have hF := hF.trans (if_pos c_15)
                refine lv_iconst (v := 4) hx hb d_rd_readInto_91 (by decide) ?_
                exact W.iret (v := (4 : Int32)) hx hb hr (fun t ht hW => ⟨⟨(4 : Int32), (u_14.1, u_14.2), rfl, ⟨hF, trivial⟩, ⟨by rw [ht]; exact hP, hD⟩⟩, hS.F ht⟩) hS.2.2 d_rd_readInto_92
              · have hF := hF.trans (if_neg c_15)
                refine lv_aload_n hx hb d_rd_readInto_81 rfl (lv_at hl 0 rfl) ?_
                refine lv_aload_n hx hb d_rd_readInto_82 rfl (lv_at hl 2 rfl) ?_
                refine lv_bipush (v := 32) hx hb d_rd_readInto_83 (by decide) ?_
                have hPc : va_P (kD K) vwCl [(Rh, .inr (3, [.int u_14.1])), (Lh, .inr (1, [.ref La0, .int L.2])), (La0, .inl ((kC K), 100, .inl L.1))] _ := hP.sub [0, 3, 4] rfl
                have hDc : va_D A [(Rh, .inr (3, [.int u_14.1])), (Lh, .inr (1, [.ref La0, .int L.2])), (La0, .inl ((kC K), 100, .inl L.1))] := hD.sub [0, 3, 4] (by decide) rfl
                have hFc := va_free (wc := [(Rh, .inr (3, [.int u_14.1])), (Lh, .inr (1, [.ref La0, .int L.2])), (La0, .inl ((kC K), 100, .inl L.1))]) hD hS hA [0, 3, 4] rfl
                refine va_calli (va_runV (As := [.ref Lh, .int (32 : Int32)]) (rest := []) ⟨hx, hb, hml, hown, htg⟩ (c_rd_passes l K _ Rh u_14.1 Lh La0 L (32 : Int32)) (cwV 2 htg (g_V q_300 q_302 qs_2 q_3 (g_w q_303)) rfl rfl rfl ⟨rfl, k_rd_passes⟩ ⟨Nat.le_of_ble_eq_true rfl, Nat.le_of_ble_eq_true rfl⟩) ⟨mu_blind, va_recv hK hPc (ci := 3) (q0 := 0) rfl rfl, mu_use hPc hK hDc hG hS hFc ⟨(by assumption), trivial⟩⟩ rfl rfl hl.1 rfl (lv_room (Nat.le_of_ble_eq_true rfl)) d_rd_readInto_85 ⟨Nat.zero_le _, Nat.zero_le _⟩) hS (fun q _ h => hFc q h) hFc (fun r_16 u_16 t H1 locs ht hvm hw_16 hB hz1 hk1 hS => ?_)
                obtain ⟨hP1, hD1⟩ := hB
                rw [ht] at hP1
                obtain ⟨hP, hD⟩ := va_join (wr := [(Ph, .inr (2, [.ref Pa0, .int u_14.2.2.1, .int u_14.2.2.2.1, .int u_14.2.2.2.2.1, .int u_14.2.2.2.2.2.1, .int u_14.2.2.2.2.2.2])), (Pa0, .inl ((kI K), 64, .inl u_14.2.1))]) (w1 := [(Rh, .inr (3, [.int u_16])), (Lh, .inr (1, [.ref La0, .int L.2])), (La0, .inl ((kC K), 100, .inl L.1))]) hP hD [0, 3, 4] [1, 2] rfl rfl (by decide) (by decide) hk1 hFc hP1 hD1
                have hP : va_P (kD K) vwCl [(Rh, .inr (3, [.int u_16])), (Ph, .inr (2, [.ref Pa0, .int u_14.2.2.1, .int u_14.2.2.2.1, .int u_14.2.2.2.2.1, .int u_14.2.2.2.2.2.1, .int u_14.2.2.2.2.2.2])), (Pa0, .inl ((kI K), 64, .inl u_14.2.1)), (Lh, .inr (1, [.ref La0, .int L.2])), (La0, .inl ((kC K), 100, .inl L.1))] H1 := hP.sub [2, 0, 1, 3, 4] rfl
                have hD : va_D A [(Rh, .inr (3, [.int u_16])), (Ph, .inr (2, [.ref Pa0, .int u_14.2.2.1, .int u_14.2.2.2.1, .int u_14.2.2.2.2.1, .int u_14.2.2.2.2.2.1, .int u_14.2.2.2.2.2.2])), (Pa0, .inl ((kI K), 64, .inl u_14.2.1)), (Lh, .inr (1, [.ref La0, .int L.2])), (La0, .inl ((kC K), 100, .inl L.1))] := hD.sub [2, 0, 1, 3, 4] (by decide) rfl
                generalize H1 = H at hP hS ⊢
                have hF := hF.trans (bnd2_s hw_16.1)
                have hn_16 := hw_16.2.1
                refine lv_if_ne (tgt := 93) hx hb d_rd_readInto_88 (by decide) (fun c_17 => ?_) (fun c_17 => ?_)
                · have hF := hF.trans (if_neg c_17)
                  refine lv_aload_n hx hb d_rd_readInto_93 rfl (lv_at hl 1 rfl) ?_
                  refine lv_aload_n hx hb d_rd_readInto_94 rfl (lv_at hl 0 rfl) ?_
                  refine lv_aload_n hx hb d_rd_readInto_95 rfl (lv_at hl 2 rfl) ?_
                  refine lv_sipush (v := 999) hx hb d_rd_readInto_96 (by decide) ?_
                  have hPc : va_P (kD K) vwCl [(Rh, .inr (3, [.int u_16])), (Lh, .inr (1, [.ref La0, .int L.2])), (La0, .inl ((kC K), 100, .inl L.1))] _ := hP.sub [0, 3, 4] rfl
                  have hDc : va_D A [(Rh, .inr (3, [.int u_16])), (Lh, .inr (1, [.ref La0, .int L.2])), (La0, .inl ((kC K), 100, .inl L.1))] := hD.sub [0, 3, 4] (by decide) rfl
                  have hFc := va_free (wc := [(Rh, .inr (3, [.int u_16])), (Lh, .inr (1, [.ref La0, .int L.2])), (La0, .inl ((kC K), 100, .inl L.1))]) hD hS hA [0, 3, 4] rfl
                  refine va_calli (va_runV (As := [.ref Lh, .int (999 : Int32)]) (rest := [.ref Ph]) ⟨hx, hb, hml, hown, htg⟩ (c_rd_readNumber l K _ Rh u_16 Lh La0 L (999 : Int32)) (cwV 2 htg (g_V q_346 q_348 qs_6 q_3 (g_w q_349)) rfl rfl rfl ⟨rfl, k_rd_readNumber⟩ ⟨Nat.le_of_ble_eq_true rfl, Nat.le_of_ble_eq_true rfl⟩) ⟨mu_blind, va_recv hK hPc (ci := 3) (q0 := 0) rfl rfl, mu_use hPc hK hDc hG hS hFc ⟨(by assumption), trivial⟩⟩ rfl rfl hl.1 rfl (lv_room (Nat.le_of_ble_eq_true rfl)) d_rd_readInto_99 ⟨Nat.zero_le _, Nat.zero_le _⟩) hS (fun q _ h => hFc q h) hFc (fun r_18 u_18 t H1 locs ht hvm hw_18 hB hz1 hk1 hS => ?_)
                  obtain ⟨hP1, hD1⟩ := hB
                  rw [ht] at hP1
                  obtain ⟨hP, hD⟩ := va_join (wr := [(Ph, .inr (2, [.ref Pa0, .int u_14.2.2.1, .int u_14.2.2.2.1, .int u_14.2.2.2.2.1, .int u_14.2.2.2.2.2.1, .int u_14.2.2.2.2.2.2])), (Pa0, .inl ((kI K), 64, .inl u_14.2.1))]) (w1 := [(Rh, .inr (3, [.int u_18])), (Lh, .inr (1, [.ref La0, .int L.2])), (La0, .inl ((kC K), 100, .inl L.1))]) hP hD [0, 3, 4] [1, 2] rfl rfl (by decide) (by decide) hk1 hFc hP1 hD1
                  have hP : va_P (kD K) vwCl [(Rh, .inr (3, [.int u_18])), (Ph, .inr (2, [.ref Pa0, .int u_14.2.2.1, .int u_14.2.2.2.1, .int u_14.2.2.2.2.1, .int u_14.2.2.2.2.2.1, .int u_14.2.2.2.2.2.2])), (Pa0, .inl ((kI K), 64, .inl u_14.2.1)), (Lh, .inr (1, [.ref La0, .int L.2])), (La0, .inl ((kC K), 100, .inl L.1))] H1 := hP.sub [2, 0, 1, 3, 4] rfl
                  have hD : va_D A [(Rh, .inr (3, [.int u_18])), (Ph, .inr (2, [.ref Pa0, .int u_14.2.2.1, .int u_14.2.2.2.1, .int u_14.2.2.2.2.1, .int u_14.2.2.2.2.2.1, .int u_14.2.2.2.2.2.2])), (Pa0, .inl ((kI K), 64, .inl u_14.2.1)), (Lh, .inr (1, [.ref La0, .int L.2])), (La0, .inl ((kC K), 100, .inl L.1))] := hD.sub [2, 0, 1, 3, 4] (by decide) rfl
                  generalize H1 = H at hP hS ⊢
                  have hF := hF.trans (bnd2_s hw_18.1)
                  refine va_putN (D := kD K) (ci := 2) (v := .int r_18) (ty := .int) (C := R_ps) (T := T_ps) (N := 6) hx hb htg in_ps ty_ps ty_ps_ok nm_ps hown hK hP hD hS 1 rfl rfl 4 (by decide) (va_Nw.use rfl (hG.nw 6 rfl)) (fun _ h9 => h9) rfl (by decide +kernel) rfl rfl (Nat.le_of_ble_eq_true rfl) d_rd_readInto_102 (fun H locs hP hD hS => ?_)
                  have hP : va_P (kD K) vwCl [(Rh, .inr (3, [.int u_18])), (Ph, .inr (2, [.ref Pa0, .int u_14.2.2.1, .int u_14.2.2.2.1, .int u_14.2.2.2.2.1, .int r_18, .int u_14.2.2.2.2.2.2])), (Pa0, .inl ((kI K), 64, .inl u_14.2.1)), (Lh, .inr (1, [.ref La0, .int L.2])), (La0, .inl ((kC K), 100, .inl L.1))] _ := hP
                  have hD : va_D A [(Rh, .inr (3, [.int u_18])), (Ph, .inr (2, [.ref Pa0, .int u_14.2.2.1, .int u_14.2.2.2.1, .int u_14.2.2.2.2.1, .int r_18, .int u_14.2.2.2.2.2.2])), (Pa0, .inl ((kI K), 64, .inl u_14.2.1)), (Lh, .inr (1, [.ref La0, .int L.2])), (La0, .inl ((kC K), 100, .inl L.1))] := hD
                  refine lv_aload_n hx hb d_rd_readInto_105 rfl (lv_at hl 1 rfl) ?_
                  refine va_getN (D := kD K) (ci := 2) (v := .int r_18) (C := R_ps) (T := T_ps) (N := 6) hx hb htg in_ps hown hK hP 1 rfl rfl 4 (by decide) (va_Nw.use rfl (hG.nw 6 rfl)) (fun _ h9 => h9) rfl d_rd_readInto_106 ?_
                  refine lv_iconst (v := -1) hx hb d_rd_readInto_109 (by decide) ?_
                  refine lv_icmp_eq (tgt := 123) hx hb d_rd_readInto_110 (by decide) (fun c_19 => ?_) (fun c_19 => ?_)
                  · have hF := hF.trans (if_pos c_19)
                    refine lv_iconst (v := 5) hx hb d_rd_readInto_123 (by decide) ?_
                    exact W.iret (v := (5 : Int32)) hx hb hr (fun t ht hW => ⟨⟨(5 : Int32), (u_18, (u_14.2.1, u_14.2.2.1, u_14.2.2.2.1, u_14.2.2.2.2.1, r_18, u_14.2.2.2.2.2.2)), rfl, ⟨hF, trivial⟩, ⟨by rw [ht]; exact hP, hD⟩⟩, hS.F ht⟩) hS.2.2 d_rd_readInto_124
                  · have hF := hF.trans (if_neg c_19)
                    refine lv_aload_n hx hb d_rd_readInto_113 rfl (lv_at hl 0 rfl) ?_
                    refine lv_aload_n hx hb d_rd_readInto_114 rfl (lv_at hl 2 rfl) ?_
                    refine lv_bipush (v := 32) hx hb d_rd_readInto_115 (by decide) ?_
                    have hPc : va_P (kD K) vwCl [(Rh, .inr (3, [.int u_18])), (Lh, .inr (1, [.ref La0, .int L.2])), (La0, .inl ((kC K), 100, .inl L.1))] _ := hP.sub [0, 3, 4] rfl
                    have hDc : va_D A [(Rh, .inr (3, [.int u_18])), (Lh, .inr (1, [.ref La0, .int L.2])), (La0, .inl ((kC K), 100, .inl L.1))] := hD.sub [0, 3, 4] (by decide) rfl
                    have hFc := va_free (wc := [(Rh, .inr (3, [.int u_18])), (Lh, .inr (1, [.ref La0, .int L.2])), (La0, .inl ((kC K), 100, .inl L.1))]) hD hS hA [0, 3, 4] rfl
                    refine va_calli (va_runV (As := [.ref Lh, .int (32 : Int32)]) (rest := []) ⟨hx, hb, hml, hown, htg⟩ (c_rd_passes l K _ Rh u_18 Lh La0 L (32 : Int32)) (cwV 2 htg (g_V q_300 q_302 qs_2 q_3 (g_w q_303)) rfl rfl rfl ⟨rfl, k_rd_passes⟩ ⟨Nat.le_of_ble_eq_true rfl, Nat.le_of_ble_eq_true rfl⟩) ⟨mu_blind, va_recv hK hPc (ci := 3) (q0 := 0) rfl rfl, mu_use hPc hK hDc hG hS hFc ⟨(by assumption), trivial⟩⟩ rfl rfl hl.1 rfl (lv_room (Nat.le_of_ble_eq_true rfl)) d_rd_readInto_117 ⟨Nat.zero_le _, Nat.zero_le _⟩) hS (fun q _ h => hFc q h) hFc (fun r_20 u_20 t H1 locs ht hvm hw_20 hB hz1 hk1 hS => ?_)
                    obtain ⟨hP1, hD1⟩ := hB
                    rw [ht] at hP1
                    obtain ⟨hP, hD⟩ := va_join (wr := [(Ph, .inr (2, [.ref Pa0, .int u_14.2.2.1, .int u_14.2.2.2.1, .int u_14.2.2.2.2.1, .int r_18, .int u_14.2.2.2.2.2.2])), (Pa0, .inl ((kI K), 64, .inl u_14.2.1))]) (w1 := [(Rh, .inr (3, [.int u_20])), (Lh, .inr (1, [.ref La0, .int L.2])), (La0, .inl ((kC K), 100, .inl L.1))]) hP hD [0, 3, 4] [1, 2] rfl rfl (by decide) (by decide) hk1 hFc hP1 hD1
                    have hP : va_P (kD K) vwCl [(Rh, .inr (3, [.int u_20])), (Ph, .inr (2, [.ref Pa0, .int u_14.2.2.1, .int u_14.2.2.2.1, .int u_14.2.2.2.2.1, .int r_18, .int u_14.2.2.2.2.2.2])), (Pa0, .inl ((kI K), 64, .inl u_14.2.1)), (Lh, .inr (1, [.ref La0, .int L.2])), (La0, .inl ((kC K), 100, .inl L.1))] H1 := hP.sub [2, 0, 1, 3, 4] rfl
                    have hD : va_D A [(Rh, .inr (3, [.int u_20])), (Ph, .inr (2, [.ref Pa0, .int u_14.2.2.1, .int u_14.2.2.2.1, .int u_14.2.2.2.2.1, .int r_18, .int u_14.2.2.2.2.2.2])), (Pa0, .inl ((kI K), 64, .inl u_14.2.1)), (Lh, .inr (1, [.ref La0, .int L.2])), (La0, .inl ((kC K), 100, .inl L.1))] := hD.sub [2, 0, 1, 3, 4] (by decide) rfl
                    generalize H1 = H at hP hS ⊢
                    have hF := hF.trans (bnd2_s hw_20.1)
                    have hn_20 := hw_20.2.1
                    refine lv_if_ne (tgt := 125) hx hb d_rd_readInto_120 (by decide) (fun c_21 => ?_) (fun c_21 => ?_)
                    · have hF := hF.trans (if_neg c_21)
                      refine lv_aload_n hx hb d_rd_readInto_125 rfl (lv_at hl 1 rfl) ?_
                      refine lv_aload_n hx hb d_rd_readInto_126 rfl (lv_at hl 0 rfl) ?_
                      refine lv_aload_n hx hb d_rd_readInto_127 rfl (lv_at hl 2 rfl) ?_
                      refine lv_sipush (v := 9999) hx hb d_rd_readInto_128 (by decide) ?_
                      have hPc : va_P (kD K) vwCl [(Rh, .inr (3, [.int u_20])), (Lh, .inr (1, [.ref La0, .int L.2])), (La0, .inl ((kC K), 100, .inl L.1))] _ := hP.sub [0, 3, 4] rfl
                      have hDc : va_D A [(Rh, .inr (3, [.int u_20])), (Lh, .inr (1, [.ref La0, .int L.2])), (La0, .inl ((kC K), 100, .inl L.1))] := hD.sub [0, 3, 4] (by decide) rfl
                      have hFc := va_free (wc := [(Rh, .inr (3, [.int u_20])), (Lh, .inr (1, [.ref La0, .int L.2])), (La0, .inl ((kC K), 100, .inl L.1))]) hD hS hA [0, 3, 4] rfl
                      refine va_calli (va_runV (As := [.ref Lh, .int (9999 : Int32)]) (rest := [.ref Ph]) ⟨hx, hb, hml, hown, htg⟩ (c_rd_readNumber l K _ Rh u_20 Lh La0 L (9999 : Int32)) (cwV 2 htg (g_V q_346 q_348 qs_6 q_3 (g_w q_349)) rfl rfl rfl ⟨rfl, k_rd_readNumber⟩ ⟨Nat.le_of_ble_eq_true rfl, Nat.le_of_ble_eq_true rfl⟩) ⟨mu_blind, va_recv hK hPc (ci := 3) (q0 := 0) rfl rfl, mu_use hPc hK hDc hG hS hFc ⟨(by assumption), trivial⟩⟩ rfl rfl hl.1 rfl (lv_room (Nat.le_of_ble_eq_true rfl)) d_rd_readInto_131 ⟨Nat.zero_le _, Nat.zero_le _⟩) hS (fun q _ h => hFc q h) hFc (fun r_22 u_22 t H1 locs ht hvm hw_22 hB hz1 hk1 hS => ?_)
                      obtain ⟨hP1, hD1⟩ := hB
                      rw [ht] at hP1
                      obtain ⟨hP, hD⟩ := va_join (wr := [(Ph, .inr (2, [.ref Pa0, .int u_14.2.2.1, .int u_14.2.2.2.1, .int u_14.2.2.2.2.1, .int r_18, .int u_14.2.2.2.2.2.2])), (Pa0, .inl ((kI K), 64, .inl u_14.2.1))]) (w1 := [(Rh, .inr (3, [.int u_22])), (Lh, .inr (1, [.ref La0, .int L.2])), (La0, .inl ((kC K), 100, .inl L.1))]) hP hD [0, 3, 4] [1, 2] rfl rfl (by decide) (by decide) hk1 hFc hP1 hD1
                      have hP : va_P (kD K) vwCl [(Rh, .inr (3, [.int u_22])), (Ph, .inr (2, [.ref Pa0, .int u_14.2.2.1, .int u_14.2.2.2.1, .int u_14.2.2.2.2.1, .int r_18, .int u_14.2.2.2.2.2.2])), (Pa0, .inl ((kI K), 64, .inl u_14.2.1)), (Lh, .inr (1, [.ref La0, .int L.2])), (La0, .inl ((kC K), 100, .inl L.1))] H1 := hP.sub [2, 0, 1, 3, 4] rfl
                      have hD : va_D A [(Rh, .inr (3, [.int u_22])), (Ph, .inr (2, [.ref Pa0, .int u_14.2.2.1, .int u_14.2.2.2.1, .int u_14.2.2.2.2.1, .int r_18, .int u_14.2.2.2.2.2.2])), (Pa0, .inl ((kI K), 64, .inl u_14.2.1)), (Lh, .inr (1, [.ref La0, .int L.2])), (La0, .inl ((kC K), 100, .inl L.1))] := hD.sub [2, 0, 1, 3, 4] (by decide) rfl
                      generalize H1 = H at hP hS ⊢
                      have hF := hF.trans (bnd2_s hw_22.1)
                      refine va_putN (D := kD K) (ci := 2) (v := .int r_22) (ty := .int) (C := R_ps) (T := T_ps) (N := 6) hx hb htg in_ps ty_ps ty_ps_ok nm_ps hown hK hP hD hS 1 rfl rfl 5 (by decide) (va_Nw.use rfl (hG.nw 8 rfl)) (fun _ h9 => h9) rfl (by decide +kernel) rfl rfl (Nat.le_of_ble_eq_true rfl) d_rd_readInto_134 (fun H locs hP hD hS => ?_)
                      have hP : va_P (kD K) vwCl [(Rh, .inr (3, [.int u_22])), (Ph, .inr (2, [.ref Pa0, .int u_14.2.2.1, .int u_14.2.2.2.1, .int u_14.2.2.2.2.1, .int r_18, .int r_22])), (Pa0, .inl ((kI K), 64, .inl u_14.2.1)), (Lh, .inr (1, [.ref La0, .int L.2])), (La0, .inl ((kC K), 100, .inl L.1))] _ := hP
                      have hD : va_D A [(Rh, .inr (3, [.int u_22])), (Ph, .inr (2, [.ref Pa0, .int u_14.2.2.1, .int u_14.2.2.2.1, .int u_14.2.2.2.2.1, .int r_18, .int r_22])), (Pa0, .inl ((kI K), 64, .inl u_14.2.1)), (Lh, .inr (1, [.ref La0, .int L.2])), (La0, .inl ((kC K), 100, .inl L.1))] := hD
                      refine lv_aload_n hx hb d_rd_readInto_137 rfl (lv_at hl 1 rfl) ?_
                      refine va_getN (D := kD K) (ci := 2) (v := .int r_22) (C := R_ps) (T := T_ps) (N := 6) hx hb htg in_ps hown hK hP 1 rfl rfl 5 (by decide) (va_Nw.use rfl (hG.nw 8 rfl)) (fun _ h9 => h9) rfl d_rd_readInto_138 ?_
                      refine lv_iconst (v := 1) hx hb d_rd_readInto_141 (by decide) ?_
                      refine lv_icmp_lt (tgt := 156) hx hb d_rd_readInto_142 (by decide) (fun c_23 => ?_) (fun c_23 => ?_)
                      · have hF := hF.trans (if_pos c_23)
                        refine lv_bipush (v := 6) hx hb d_rd_readInto_156 (by decide) ?_
                        refine lv_goto (tgt := 162) hx hb d_rd_readInto_158 (by decide) ?_
                        exact W.iret (v := (6 : Int32)) hx hb hr (fun t ht hW => ⟨⟨(6 : Int32), (u_22, (u_14.2.1, u_14.2.2.1, u_14.2.2.2.1, u_14.2.2.2.2.1, r_18, r_22)), rfl, ⟨hF, trivial⟩, ⟨by rw [ht]; exact hP, hD⟩⟩, hS.F ht⟩) hS.2.2 d_rd_readInto_162
                      · have hF := hF.trans (if_neg c_23)
                        refine lv_aload_n hx hb d_rd_readInto_145 rfl (lv_at hl 0 rfl) ?_
                        refine va_get (D := kD K) (ci := 3) (v := .int u_22) (C := R_rd) (T := T_rd) (N := 1) hx hb htg in_rd hown hK hP 0 rfl rfl 0 (by decide) (htg (.fieldLink R_rd 9 "GameNotation$RecordReader" "place" "I") q_47) (fun _ h9 => h9) rfl d_rd_readInto_146 ?_
                        refine lv_aload_n hx hb d_rd_readInto_149 rfl (lv_at hl 2 rfl) ?_
                        have hPc : va_P (kD K) vwCl [(Lh, .inr (1, [.ref La0, .int L.2])), (La0, .inl ((kC K), 100, .inl L.1))] _ := hP.sub [3, 4] rfl
                        refine vp_callSi (va_Run.run (va_runV (As := []) (rest := [.int u_22]) ⟨hx, hb, hml, hown, htg⟩ (c_ln_size l K Lh La0 L) (cwV 0 htg (g_V q_353 q_158 q_159 q_2 (g_w q_160)) rfl rfl rfl ⟨rfl, k_ln_size⟩ ⟨Nat.le_of_ble_eq_true rfl, Nat.le_of_ble_eq_true rfl⟩) ⟨ro_blind, va_recv hK hPc (ci := 1) (q0 := 0) rfl rfl, ro_use hPc hK hG hS ⟨(by assumption), trivial⟩⟩ rfl rfl hl.1 rfl (lv_room (Nat.le_of_ble_eq_true rfl)) d_rd_readInto_150 ⟨Nat.zero_le _, Nat.zero_le _⟩)) (fun r_24 hw_24 => ?_)
                        have hF := hF.trans (bnd_s hw_24.1)
                        refine lv_icmp_eq (tgt := 161) hx hb d_rd_readInto_153 (by decide) (fun c_25 => ?_) (fun c_25 => ?_)
                        · have hF := hF.trans (if_pos c_25)
                          refine lv_iconst (v := 0) hx hb d_rd_readInto_161 (by decide) ?_
                          exact W.iret (v := (0 : Int32)) hx hb hr (fun t ht hW => ⟨⟨(0 : Int32), (u_22, (u_14.2.1, u_14.2.2.1, u_14.2.2.2.1, u_14.2.2.2.2.1, r_18, r_22)), rfl, ⟨hF, trivial⟩, ⟨by rw [ht]; exact hP, hD⟩⟩, hS.F ht⟩) hS.2.2 d_rd_readInto_162
                        · have hF := hF.trans (if_neg c_25)
                          refine lv_bipush (v := 6) hx hb d_rd_readInto_156 (by decide) ?_
                          refine lv_goto (tgt := 162) hx hb d_rd_readInto_158 (by decide) ?_
                          exact W.iret (v := (6 : Int32)) hx hb hr (fun t ht hW => ⟨⟨(6 : Int32), (u_22, (u_14.2.1, u_14.2.2.1, u_14.2.2.2.1, u_14.2.2.2.2.1, r_18, r_22)), rfl, ⟨hF, trivial⟩, ⟨by rw [ht]; exact hP, hD⟩⟩, hS.F ht⟩) hS.2.2 d_rd_readInto_162
                    · have hF := hF.trans (if_pos c_21)
                      refine lv_iconst (v := 5) hx hb d_rd_readInto_123 (by decide) ?_
                      exact W.iret (v := (5 : Int32)) hx hb hr (fun t ht hW => ⟨⟨(5 : Int32), (u_20, (u_14.2.1, u_14.2.2.1, u_14.2.2.2.1, u_14.2.2.2.2.1, r_18, u_14.2.2.2.2.2.2)), rfl, ⟨hF, trivial⟩, ⟨by rw [ht]; exact hP, hD⟩⟩, hS.F ht⟩) hS.2.2 d_rd_readInto_124
                · have hF := hF.trans (if_pos c_17)
                  refine lv_iconst (v := 4) hx hb d_rd_readInto_91 (by decide) ?_
                  exact W.iret (v := (4 : Int32)) hx hb hr (fun t ht hW => ⟨⟨(4 : Int32), (u_16, u_14.2), rfl, ⟨hF, trivial⟩, ⟨by rw [ht]; exact hP, hD⟩⟩, hS.F ht⟩) hS.2.2 d_rd_readInto_92
            · have hF := hF.trans (if_pos c_13)
              refine lv_iconst (v := 3) hx hb d_rd_readInto_70 (by decide) ?_
              exact W.iret (v := (3 : Int32)) hx hb hr (fun t ht hW => ⟨⟨(3 : Int32), (u_12, u_10.2), rfl, ⟨hF, trivial⟩, ⟨by rw [ht]; exact hP, hD⟩⟩, hS.F ht⟩) hS.2.2 d_rd_readInto_71
        · have hF := hF.trans (if_pos c_9)
          refine lv_iconst (v := 2) hx hb d_rd_readInto_49 (by decide) ?_
          exact W.iret (v := (2 : Int32)) hx hb hr (fun t ht hW => ⟨⟨(2 : Int32), (u_8, u_6.2), rfl, ⟨hF, trivial⟩, ⟨by rw [ht]; exact hP, hD⟩⟩, hS.F ht⟩) hS.2.2 d_rd_readInto_50
    · have hF := hF.trans (if_pos c_5)
      refine lv_iconst (v := 1) hx hb d_rd_readInto_28 (by decide) ?_
      exact W.iret (v := (1 : Int32)) hx hb hr (fun t ht hW => ⟨⟨(1 : Int32), (u_4, u_2.2), rfl, ⟨hF, trivial⟩, ⟨by rw [ht]; exact hP, hD⟩⟩, hS.F ht⟩) hS.2.2 d_rd_readInto_29
