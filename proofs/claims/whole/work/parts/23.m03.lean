def f_md_readBoard_L113 (k11 : Int32 → Int32 → Int32 → (Nat → Int32) → Int32 → (Int32 × (Nat → Int32) × Int32)) : Nat → Int32 → Int32 → Int32 → Int32 → Int32 → Int32 → Int32 → (Nat → Int32) → Int32 → Int32 × (Nat → Int32) × Int32
  | 0, _, _, _, _, _, _, _, M_newBoardw, M_atw => (0, M_newBoardw, M_atw)
  | n + 1, v1, v2, v3, v4, v5, v6, v7, M_newBoardw, M_atw => (if (v4 - (48 : Int32)) ≤ v7 then (k11 v1 (v2 + (v4 - (48 : Int32))) (1 : Int32) M_newBoardw M_atw) else (f_md_readBoard_L113  k11 n v1 v2 v3 v4 v5 v6 (v7 + (1 : Int32)) (upd M_newBoardw ((((8 : Int32) * v1) + v2) + v7).toNatClampNeg (0 : Int32)) M_atw))
def f_md_readBoard_L11 (M_text : (Nat → Int32)) (M_size : Int32) (k3 : Int32 → (Nat → Int32) → Int32 → (Int32 × (Nat → Int32) × Int32)) : Nat → Int32 → Int32 → Int32 → (Nat → Int32) → Int32 → Int32 × (Nat → Int32) × Int32
  | 0, _, _, _, M_newBoardw, M_atw => (0, M_newBoardw, M_atw)
  | n + 1, v1, v2, v3, M_newBoardw, M_atw => (if (8 : Int32) ≤ v2 then (if v1 ≤ 0 then (k3 (v1 + (-1 : Int32)) M_newBoardw M_atw) else (bnd2 (f_md_eat M_text M_size M_atw (47 : Int32)) (fun r_4 u_4 => (if r_4 = 0 then ((0 : Int32), (M_newBoardw, u_4)) else (k3 (v1 + (-1 : Int32)) M_newBoardw u_4))))) else (bnd (f_md_peek M_text M_size M_atw) (fun r_6 => (bnd (f_md_manOf r_6) (fun r_7 => (if r_7 ≤ 0 then (if r_6 < (49 : Int32) then ((0 : Int32), (M_newBoardw, M_atw + (1 : Int32))) else (if (56 : Int32) < r_6 then ((0 : Int32), (M_newBoardw, M_atw + (1 : Int32))) else (if v3 = 0 then (if (8 : Int32) < ((v2 + r_6) - (48 : Int32)) then ((0 : Int32), (M_newBoardw, M_atw + (1 : Int32))) else (f_md_readBoard_L113  (fun a0 a1 a2 a3 a4 => (f_md_readBoard_L11 M_text M_size k3 n a0 a1 a2 a3 a4)) 10 v1 v2 v3 r_6 r_7 (1 : Int32) (0 : Int32) M_newBoardw (M_atw + (1 : Int32)))) else ((0 : Int32), (M_newBoardw, M_atw + (1 : Int32)))))) else (f_md_readBoard_L11 M_text M_size k3 n v1 (v2 + (1 : Int32)) (0 : Int32) (upd M_newBoardw (((8 : Int32) * v1) + v2).toNatClampNeg r_7) (M_atw + (1 : Int32)))))))))
def f_md_readBoard_L3 (M_text : (Nat → Int32)) (M_size : Int32) : Nat → Int32 → (Nat → Int32) → Int32 → Int32 × (Nat → Int32) × Int32
  | 0, _, M_newBoardw, M_atw => (0, M_newBoardw, M_atw)
  | n + 1, v1, M_newBoardw, M_atw => (if v1 < 0 then ((1 : Int32), (M_newBoardw, M_atw)) else (f_md_readBoard_L11 M_text M_size (fun a0 a1 a2 => (f_md_readBoard_L3 M_text M_size  n a0 a1 a2)) 9 v1 (0 : Int32) (0 : Int32) M_newBoardw M_atw))
def f_md_readBoard (M_text : (Nat → Int32)) (M_newBoard : (Nat → Int32)) (M_size : Int32) (M_at : Int32) : Int32 × (Nat → Int32) × Int32 := (f_md_readBoard_L3 M_text M_size  9 (7 : Int32) M_newBoard M_at)
set_option maxHeartbeats 4000000 in
set_option maxRecDepth 100000 in
theorem c_md_readBoard (l : Launch) (K : KT) (sz : Nat) (Mh Ma0 Ma1 Ma2 Ma3 Ma4 Ma5 : Nat) (M_board : (Nat → Int32)) (M_text : (Nat → Int32)) (M_moves : (Nat → Int32)) (M_signs : (Nat → Int32)) (M_newBoard : (Nat → Int32)) (M_out : (Nat → Int32)) (M_thrown : Int32) (M_side : Int32) (M_rights : Int32) (M_passant : Int32) (M_clock : Int32) (M_number : Int32) (M_size : Int32) (M_told : Int32) (M_at : Int32) (M_newSide : Int32) (M_newRights : Int32) (M_newPassant : Int32) (M_newClock : Int32) (M_newNumber : Int32) (M_outs : Int32) : Met l y_md_readBoard w_md_readBoard ({ frames := 2, cells := 0, slots := 0, locals := 44 } : Room) (va_Pc [.ref Mh] (fun U => pMU K [(Mh, .inr (6, [.int M_thrown, .ref Ma0, .int M_side, .int M_rights, .int M_passant, .int M_clock, .int M_number, .ref Ma1, .int M_size, .int M_told, .ref Ma2, .ref Ma3, .int M_at, .ref Ma4, .int M_newSide, .int M_newRights, .int M_newPassant, .int M_newClock, .int M_newNumber, .ref Ma5, .int M_outs])), (Ma0, .inl ((kI K), 64, .inl M_board)), (Ma1, .inl ((kI K), 100, .inl M_text)), (Ma2, .inl ((kI K), 330, .inl M_moves)), (Ma3, .inl ((kI K), 330, .inl M_signs)), (Ma4, .inl ((kI K), 64, .inl M_newBoard)), (Ma5, .inl ((kI K), 16, .inl M_out))] sz U ∧ 0 ≤ M_at.toInt ∧ M_at.toInt ≤ M_size.toInt ∧ M_size.toInt ≤ 100 ∧ True)) (va_Qi (fun (r : Int32) (u : (Nat → Int32) × Int32) => f_md_readBoard M_text M_newBoard M_size M_at = (r, u) ∧ narrow .boolean (.int r) = .int r ∧ (r = 0 ∨ (0 ≤ u.2.toInt ∧ u.2.toInt ≤ M_size.toInt)) ∧ True) (fun (u : (Nat → Int32) × Int32) (t : State) => va_P (kD K) vwCl [(Mh, .inr (6, [.int M_thrown, .ref Ma0, .int M_side, .int M_rights, .int M_passant, .int M_clock, .int M_number, .ref Ma1, .int M_size, .int M_told, .ref Ma2, .ref Ma3, .int u.2, .ref Ma4, .int M_newSide, .int M_newRights, .int M_newPassant, .int M_newClock, .int M_newNumber, .ref Ma5, .int M_outs])), (Ma0, .inl ((kI K), 64, .inl M_board)), (Ma1, .inl ((kI K), 100, .inl M_text)), (Ma2, .inl ((kI K), 330, .inl M_moves)), (Ma3, .inl ((kI K), 330, .inl M_signs)), (Ma4, .inl ((kI K), 64, .inl u.1)), (Ma5, .inl ((kI K), 16, .inl M_out))] t.heap ∧ va_D (va_A [(Mh, .inr (6, [.int M_thrown, .ref Ma0, .int M_side, .int M_rights, .int M_passant, .int M_clock, .int M_number, .ref Ma1, .int M_size, .int M_told, .ref Ma2, .ref Ma3, .int M_at, .ref Ma4, .int M_newSide, .int M_newRights, .int M_newPassant, .int M_newClock, .int M_newNumber, .ref Ma5, .int M_outs])), (Ma0, .inl ((kI K), 64, .inl M_board)), (Ma1, .inl ((kI K), 100, .inl M_text)), (Ma2, .inl ((kI K), 330, .inl M_moves)), (Ma3, .inl ((kI K), 330, .inl M_signs)), (Ma4, .inl ((kI K), 64, .inl M_newBoard)), (Ma5, .inl ((kI K), 16, .inl M_out))] sz) [(Mh, .inr (6, [.int M_thrown, .ref Ma0, .int M_side, .int M_rights, .int M_passant, .int M_clock, .int M_number, .ref Ma1, .int M_size, .int M_told, .ref Ma2, .ref Ma3, .int u.2, .ref Ma4, .int M_newSide, .int M_newRights, .int M_newPassant, .int M_newClock, .int M_newNumber, .ref Ma5, .int M_outs])), (Ma0, .inl ((kI K), 64, .inl M_board)), (Ma1, .inl ((kI K), 100, .inl M_text)), (Ma2, .inl ((kI K), 330, .inl M_moves)), (Ma3, .inl ((kI K), 330, .inl M_signs)), (Ma4, .inl ((kI K), 64, .inl u.1)), (Ma5, .inl ((kI K), 16, .inl M_out))]) (va_A [(Mh, .inr (6, [.int M_thrown, .ref Ma0, .int M_side, .int M_rights, .int M_passant, .int M_clock, .int M_number, .ref Ma1, .int M_size, .int M_told, .ref Ma2, .ref Ma3, .int M_at, .ref Ma4, .int M_newSide, .int M_newRights, .int M_newPassant, .int M_newClock, .int M_newNumber, .ref Ma5, .int M_outs])), (Ma0, .inl ((kI K), 64, .inl M_board)), (Ma1, .inl ((kI K), 100, .inl M_text)), (Ma2, .inl ((kI K), 330, .inl M_moves)), (Ma3, .inl ((kI K), 330, .inl M_signs)), (Ma4, .inl ((kI K), 64, .inl M_newBoard)), (Ma5, .inl ((kI K), 16, .inl M_out))] sz)) 0 0 (va_A [(Mh, .inr (6, [.int M_thrown, .ref Ma0, .int M_side, .int M_rights, .int M_passant, .int M_clock, .int M_number, .ref Ma1, .int M_size, .int M_told, .ref Ma2, .ref Ma3, .int M_at, .ref Ma4, .int M_newSide, .int M_newRights, .int M_newPassant, .int M_newClock, .int M_newNumber, .ref Ma5, .int M_outs])), (Ma0, .inl ((kI K), 64, .inl M_board)), (Ma1, .inl ((kI K), 100, .inl M_text)), (Ma2, .inl ((kI K), 330, .inl M_moves)), (Ma3, .inl ((kI K), 330, .inl M_signs)), (Ma4, .inl ((kI K), 64, .inl M_newBoard)), (Ma5, .inl ((kI K), 16, .inl M_out))] sz) := by
  refine Met.ofW (cc := b_md_readBoard) (maxL := 8) (ret := (some .boolean)) (by decide) rfl ?_
  intro p e s m args below meth c s₁ B hml hv
  obtain ⟨rfl, ⟨hsz, hP, hK, hD0, hG⟩, h_a, h_b, h_s, -⟩ := hv
  have hx := B.exec
  have hb := B.bytes
  have hr := B.returns
  have hts := atoms_spec (ws := w_md_readBoard) B.pre
  have hown : s.vm.findClass R_md = some m.cls := findClass_of_methodNamed B.named
  have hlocks := B.notSynchronized
  have htg := fun w h => hts w (List.mem_cons_of_mem _ h)
  subst hsz
  have hD := hD0.self (sz := s.heap.size)
  generalize hAe : va_A [(Mh, .inr (6, [.int M_thrown, .ref Ma0, .int M_side, .int M_rights, .int M_passant, .int M_clock, .int M_number, .ref Ma1, .int M_size, .int M_told, .ref Ma2, .ref Ma3, .int M_at, .ref Ma4, .int M_newSide, .int M_newRights, .int M_newPassant, .int M_newClock, .int M_newNumber, .ref Ma5, .int M_outs])), (Ma0, .inl ((kI K), 64, .inl M_board)), (Ma1, .inl ((kI K), 100, .inl M_text)), (Ma2, .inl ((kI K), 330, .inl M_moves)), (Ma3, .inl ((kI K), 330, .inl M_signs)), (Ma4, .inl ((kI K), 64, .inl M_newBoard)), (Ma5, .inl ((kI K), 16, .inl M_out))] s.heap.size = A at hD hG ⊢
  have hA : ∀ q : Nat, s.heap.size ≤ q → A q := fun q h => by rw [← hAe]; exact Or.inr h
  have hS : va_S A s.heap s.heap [] := va_S.rf
  have hl := lv_entry ([.ref Mh]) (n := 8) (Nat.le_of_ble_eq_true rfl)
  rw [lg_entry_eq]
  generalize (lg_sl ([.ref Mh]) ++ List.replicate (8 - (lg_sl ([.ref Mh])).length) Slot.unset).toArray = ls at hl ⊢
  have hl : lv_has ls 8 [(0, .ref Mh)] := hl
  have z0 : (0 : Int32).toInt = 0 := by decide
  have z1 : (1 : Int32).toInt = 1 := by decide
  have zm1 : (-1 : Int32).toInt = -1 := by decide
  have z2 : (2 : Int32).toInt = 2 := by decide
  have z3 : (3 : Int32).toInt = 3 := by decide
  have z7 : (7 : Int32).toInt = 7 := by decide
  have z8 : (8 : Int32).toInt = 8 := by decide
  have z16 : (16 : Int32).toInt = 16 := by decide
  have z64 : (64 : Int32).toInt = 64 := by decide
  have z100 : (100 : Int32).toInt = 100 := by decide
  have z330 : (330 : Int32).toInt = 330 := by decide
  have hF := f_md_readBoard.eq_1 M_text M_newBoard M_size M_at
  refine lv_bipush (v := 7) hx hb d_md_readBoard_0 (by decide) ?_
  refine lv_istore_n (lv' := [(1, .int (7 : Int32)), (0, .ref Mh)]) hx hb d_md_readBoard_2 rfl hl (by decide) rfl (fun ls hl => ?_)
  have loop3 : ∀ (n3 : Nat) (v1 : Int32) (M_newBoardw : (Nat → Int32)) (M_atw : Int32) (H : Heap) (locs : List Loc) (ls : Array Slot), 0 ≤ M_atw.toInt → M_atw.toInt ≤ M_size.toInt → v1.toInt ≤ 7 → (v1.toInt + 1).toNat < n3 → va_P (kD K) vwCl [(Mh, .inr (6, [.int M_thrown, .ref Ma0, .int M_side, .int M_rights, .int M_passant, .int M_clock, .int M_number, .ref Ma1, .int M_size, .int M_told, .ref Ma2, .ref Ma3, .int M_atw, .ref Ma4, .int M_newSide, .int M_newRights, .int M_newPassant, .int M_newClock, .int M_newNumber, .ref Ma5, .int M_outs])), (Ma0, .inl ((kI K), 64, .inl M_board)), (Ma1, .inl ((kI K), 100, .inl M_text)), (Ma2, .inl ((kI K), 330, .inl M_moves)), (Ma3, .inl ((kI K), 330, .inl M_signs)), (Ma4, .inl ((kI K), 64, .inl M_newBoardw)), (Ma5, .inl ((kI K), 16, .inl M_out))] H → va_D A [(Mh, .inr (6, [.int M_thrown, .ref Ma0, .int M_side, .int M_rights, .int M_passant, .int M_clock, .int M_number, .ref Ma1, .int M_size, .int M_told, .ref Ma2, .ref Ma3, .int M_atw, .ref Ma4, .int M_newSide, .int M_newRights, .int M_newPassant, .int M_newClock, .int M_newNumber, .ref Ma5, .int M_outs])), (Ma0, .inl ((kI K), 64, .inl M_board)), (Ma1, .inl ((kI K), 100, .inl M_text)), (Ma2, .inl ((kI K), 330, .inl M_moves)), (Ma3, .inl ((kI K), 330, .inl M_signs)), (Ma4, .inl ((kI K), 64, .inl M_newBoardw)), (Ma5, .inl ((kI K), 16, .inl M_out))] → va_S A s.heap H locs → lv_has ls 8 [(0, .ref Mh), (1, .int v1)] → f_md_readBoard M_text M_newBoard M_size M_at = f_md_readBoard_L3 M_text M_size  n3 v1 M_newBoardw M_atw → W p l e (headSpec w_md_readBoard ({ frames := 2, cells := 0, slots := 0, locals := 44 } : Room)).room s m ([(.ref Mh : Value)].toArray) below meth c H locs 0 0 (MQ below (va_Qi (fun (r : Int32) (u : (Nat → Int32) × Int32) => f_md_readBoard M_text M_newBoard M_size M_at = (r, u) ∧ narrow .boolean (.int r) = .int r ∧ (r = 0 ∨ (0 ≤ u.2.toInt ∧ u.2.toInt ≤ M_size.toInt)) ∧ True) (fun (u : (Nat → Int32) × Int32) (t : State) => va_P (kD K) vwCl [(Mh, .inr (6, [.int M_thrown, .ref Ma0, .int M_side, .int M_rights, .int M_passant, .int M_clock, .int M_number, .ref Ma1, .int M_size, .int M_told, .ref Ma2, .ref Ma3, .int u.2, .ref Ma4, .int M_newSide, .int M_newRights, .int M_newPassant, .int M_newClock, .int M_newNumber, .ref Ma5, .int M_outs])), (Ma0, .inl ((kI K), 64, .inl M_board)), (Ma1, .inl ((kI K), 100, .inl M_text)), (Ma2, .inl ((kI K), 330, .inl M_moves)), (Ma3, .inl ((kI K), 330, .inl M_signs)), (Ma4, .inl ((kI K), 64, .inl u.1)), (Ma5, .inl ((kI K), 16, .inl M_out))] t.heap ∧ va_D (A) [(Mh, .inr (6, [.int M_thrown, .ref Ma0, .int M_side, .int M_rights, .int M_passant, .int M_clock, .int M_number, .ref Ma1, .int M_size, .int M_told, .ref Ma2, .ref Ma3, .int u.2, .ref Ma4, .int M_newSide, .int M_newRights, .int M_newPassant, .int M_newClock, .int M_newNumber, .ref Ma5, .int M_outs])), (Ma0, .inl ((kI K), 64, .inl M_board)), (Ma1, .inl ((kI K), 100, .inl M_text)), (Ma2, .inl ((kI K), 330, .inl M_moves)), (Ma3, .inl ((kI K), 330, .inl M_signs)), (Ma4, .inl ((kI K), 64, .inl u.1)), (Ma5, .inl ((kI K), 16, .inl M_out))]) (A)) ([(.ref Mh : Value)].toArray) s 0 0 (A)) (F0 m 3 ls []) := by
    intro n3
    induction n3 with
    | zero =>
      intro _ _ _ _ _ _ _ _ _ hz
      exact absurd hz (Nat.not_lt_zero _)
    | succ n3 ih3 =>
      intro v1 M_newBoardw M_atw H locs ls a0 a1 b0 hm3 hP hD hS hl hF
      rw [f_md_readBoard_L3] at hF
      refine lv_iload_n hx hb d_md_readBoard_3 rfl (lv_at hl 1 rfl) ?_
      refine lv_if_lt (tgt := 178) hx hb d_md_readBoard_4 (by decide) (fun c_1 => ?_) (fun c_1 => ?_)
      · have hF := hF.trans (if_pos c_1)
        refine lv_iconst (v := 1) hx hb d_md_readBoard_178 (by decide) ?_
        exact W.zret (v := (1 : Int32)) hx hb hr (rfl) (fun t ht hW => ⟨⟨(1 : Int32), (M_newBoardw, M_atw), rfl, ⟨hF, rfl, (by first | exact Or.inl rfl | exact Or.inr ⟨by assumption, by assumption⟩), trivial⟩, ⟨by rw [ht]; exact hP, hD⟩⟩, hS.F ht⟩) hS.2.2 d_md_readBoard_179
      · have hF := hF.trans (if_neg c_1)
        refine lv_iconst (v := 0) hx hb d_md_readBoard_7 (by decide) ?_
        refine lv_istore_n (lv' := [(2, .int (0 : Int32)), (0, .ref Mh), (1, .int v1)]) hx hb d_md_readBoard_8 rfl hl (by decide) rfl (fun ls hl => ?_)
        refine lv_iconst (v := 0) hx hb d_md_readBoard_9 (by decide) ?_
        refine lv_istore_n (lv' := [(3, .int (0 : Int32)), (2, .int (0 : Int32)), (0, .ref Mh), (1, .int v1)]) hx hb d_md_readBoard_10 rfl hl (by decide) rfl (fun ls hl => ?_)
        have loop11 : ∀ (n11 : Nat) (v1 : Int32) (v2 : Int32) (v3 : Int32) (M_newBoardw : (Nat → Int32)) (M_atw : Int32) (H : Heap) (locs : List Loc) (ls : Array Slot), 0 ≤ M_atw.toInt → M_atw.toInt ≤ M_size.toInt → v1.toInt ≤ 7 → ¬ v1 < 0 → 0 ≤ v2.toInt ∧ v2.toInt ≤ 8 → (v1.toInt + 1).toNat < n3 + 1 → (8 - v2.toInt).toNat < n11 → va_P (kD K) vwCl [(Mh, .inr (6, [.int M_thrown, .ref Ma0, .int M_side, .int M_rights, .int M_passant, .int M_clock, .int M_number, .ref Ma1, .int M_size, .int M_told, .ref Ma2, .ref Ma3, .int M_atw, .ref Ma4, .int M_newSide, .int M_newRights, .int M_newPassant, .int M_newClock, .int M_newNumber, .ref Ma5, .int M_outs])), (Ma0, .inl ((kI K), 64, .inl M_board)), (Ma1, .inl ((kI K), 100, .inl M_text)), (Ma2, .inl ((kI K), 330, .inl M_moves)), (Ma3, .inl ((kI K), 330, .inl M_signs)), (Ma4, .inl ((kI K), 64, .inl M_newBoardw)), (Ma5, .inl ((kI K), 16, .inl M_out))] H → va_D A [(Mh, .inr (6, [.int M_thrown, .ref Ma0, .int M_side, .int M_rights, .int M_passant, .int M_clock, .int M_number, .ref Ma1, .int M_size, .int M_told, .ref Ma2, .ref Ma3, .int M_atw, .ref Ma4, .int M_newSide, .int M_newRights, .int M_newPassant, .int M_newClock, .int M_newNumber, .ref Ma5, .int M_outs])), (Ma0, .inl ((kI K), 64, .inl M_board)), (Ma1, .inl ((kI K), 100, .inl M_text)), (Ma2, .inl ((kI K), 330, .inl M_moves)), (Ma3, .inl ((kI K), 330, .inl M_signs)), (Ma4, .inl ((kI K), 64, .inl M_newBoardw)), (Ma5, .inl ((kI K), 16, .inl M_out))] → va_S A s.heap H locs → lv_has ls 8 [(0, .ref Mh), (1, .int v1), (2, .int v2), (3, .int v3)] → f_md_readBoard M_text M_newBoard M_size M_at = f_md_readBoard_L11 M_text M_size (fun a0 a1 a2 => (f_md_readBoard_L3 M_text M_size  n3 a0 a1 a2)) n11 v1 v2 v3 M_newBoardw M_atw → W p l e (headSpec w_md_readBoard ({ frames := 2, cells := 0, slots := 0, locals := 44 } : Room)).room s m ([(.ref Mh : Value)].toArray) below meth c H locs 0 0 (MQ below (va_Qi (fun (r : Int32) (u : (Nat → Int32) × Int32) => f_md_readBoard M_text M_newBoard M_size M_at = (r, u) ∧ narrow .boolean (.int r) = .int r ∧ (r = 0 ∨ (0 ≤ u.2.toInt ∧ u.2.toInt ≤ M_size.toInt)) ∧ True) (fun (u : (Nat → Int32) × Int32) (t : State) => va_P (kD K) vwCl [(Mh, .inr (6, [.int M_thrown, .ref Ma0, .int M_side, .int M_rights, .int M_passant, .int M_clock, .int M_number, .ref Ma1, .int M_size, .int M_told, .ref Ma2, .ref Ma3, .int u.2, .ref Ma4, .int M_newSide, .int M_newRights, .int M_newPassant, .int M_newClock, .int M_newNumber, .ref Ma5, .int M_outs])), (Ma0, .inl ((kI K), 64, .inl M_board)), (Ma1, .inl ((kI K), 100, .inl M_text)), (Ma2, .inl ((kI K), 330, .inl M_moves)), (Ma3, .inl ((kI K), 330, .inl M_signs)), (Ma4, .inl ((kI K), 64, .inl u.1)), (Ma5, .inl ((kI K), 16, .inl M_out))] t.heap ∧ va_D (A) [(Mh, .inr (6, [.int M_thrown, .ref Ma0, .int M_side, .int M_rights, .int M_passant, .int M_clock, .int M_number, .ref Ma1, .int M_size, .int M_told, .ref Ma2, .ref Ma3, .int u.2, .ref Ma4, .int M_newSide, .int M_newRights, .int M_newPassant, .int M_newClock, .int M_newNumber, .ref Ma5, .int M_outs])), (Ma0, .inl ((kI K), 64, .inl M_board)), (Ma1, .inl ((kI K), 100, .inl M_text)), (Ma2, .inl ((kI K), 330, .inl M_moves)), (Ma3, .inl ((kI K), 330, .inl M_signs)), (Ma4, .inl ((kI K), 64, .inl u.1)), (Ma5, .inl ((kI K), 16, .inl M_out))]) (A)) ([(.ref Mh : Value)].toArray) s 0 0 (A)) (F0 m 11 ls []) := by
          intro n11
          induction n11 with
          | zero =>
            intro _ _ _ _ _ _ _ _ _ _ _ _ _ _ hz
            exact absurd hz (Nat.not_lt_zero _)
          | succ n11 ih11 =>
            intro v1 v2 v3 M_newBoardw M_atw H locs ls a0 a1 b0 b1 b2 b6 hm11 hP hD hS hl hF
            rw [f_md_readBoard_L11] at hF
            refine lv_iload_n hx hb d_md_readBoard_11 rfl (lv_at hl 2 rfl) ?_
            refine lv_bipush (v := 8) hx hb d_md_readBoard_12 (by decide) ?_
            refine lv_icmp_ge (tgt := 157) hx hb d_md_readBoard_14 (by decide) (fun c_2 => ?_) (fun c_2 => ?_)
            · have hF := hF.trans (if_pos c_2)
              refine lv_iload_n hx hb d_md_readBoard_157 rfl (lv_at hl 1 rfl) ?_
              refine lv_if_le (tgt := 172) hx hb d_md_readBoard_158 (by decide) (fun c_3 => ?_) (fun c_3 => ?_)
              · have hF := hF.trans (if_pos c_3)
                refine lv_iinc (v := v1 + (-1 : Int32)) (lv' := [(1, .int (v1 + (-1 : Int32))), (0, .ref Mh), (2, .int v2), (3, .int v3)]) hx hb d_md_readBoard_172 hl (k := 1) rfl rfl (by decide) rfl (fun ls hl => ?_)
                refine lv_goto (tgt := 3) hx hb d_md_readBoard_175 (by decide) ?_
                exact ih3  (v1 + (-1 : Int32)) M_newBoardw M_atw _ _ ls  (by assumption) (by assumption) (ld1_s b0 b1) (ld1_d b0 b1 b6) hP hD hS (lv_sub hl [1, 0] rfl) hF
              · have hF := hF.trans (if_neg c_3)
                refine lv_aload_n hx hb d_md_readBoard_161 rfl (lv_at hl 0 rfl) ?_
                refine lv_bipush (v := 47) hx hb d_md_readBoard_162 (by decide) ?_
                have hPc : va_P (kD K) vwCl [(Mh, .inr (6, [.int M_thrown, .ref Ma0, .int M_side, .int M_rights, .int M_passant, .int M_clock, .int M_number, .ref Ma1, .int M_size, .int M_told, .ref Ma2, .ref Ma3, .int M_atw, .ref Ma4, .int M_newSide, .int M_newRights, .int M_newPassant, .int M_newClock, .int M_newNumber, .ref Ma5, .int M_outs])), (Ma0, .inl ((kI K), 64, .inl M_board)), (Ma1, .inl ((kI K), 100, .inl M_text)), (Ma2, .inl ((kI K), 330, .inl M_moves)), (Ma3, .inl ((kI K), 330, .inl M_signs)), (Ma4, .inl ((kI K), 64, .inl M_newBoardw)), (Ma5, .inl ((kI K), 16, .inl M_out))] _ := hP.sub [0, 1, 2, 3, 4, 5, 6] rfl
                have hDc : va_D A [(Mh, .inr (6, [.int M_thrown, .ref Ma0, .int M_side, .int M_rights, .int M_passant, .int M_clock, .int M_number, .ref Ma1, .int M_size, .int M_told, .ref Ma2, .ref Ma3, .int M_atw, .ref Ma4, .int M_newSide, .int M_newRights, .int M_newPassant, .int M_newClock, .int M_newNumber, .ref Ma5, .int M_outs])), (Ma0, .inl ((kI K), 64, .inl M_board)), (Ma1, .inl ((kI K), 100, .inl M_text)), (Ma2, .inl ((kI K), 330, .inl M_moves)), (Ma3, .inl ((kI K), 330, .inl M_signs)), (Ma4, .inl ((kI K), 64, .inl M_newBoardw)), (Ma5, .inl ((kI K), 16, .inl M_out))] := hD.sub [0, 1, 2, 3, 4, 5, 6] (by decide) rfl
                have hFc := va_free (wc := [(Mh, .inr (6, [.int M_thrown, .ref Ma0, .int M_side, .int M_rights, .int M_passant, .int M_clock, .int M_number, .ref Ma1, .int M_size, .int M_told, .ref Ma2, .ref Ma3, .int M_atw, .ref Ma4, .int M_newSide, .int M_newRights, .int M_newPassant, .int M_newClock, .int M_newNumber, .ref Ma5, .int M_outs])), (Ma0, .inl ((kI K), 64, .inl M_board)), (Ma1, .inl ((kI K), 100, .inl M_text)), (Ma2, .inl ((kI K), 330, .inl M_moves)), (Ma3, .inl ((kI K), 330, .inl M_signs)), (Ma4, .inl ((kI K), 64, .inl M_newBoardw)), (Ma5, .inl ((kI K), 16, .inl M_out))]) hD hS hA [0, 1, 2, 3, 4, 5, 6] rfl
                refine va_calli (va_runV (As := [.int (47 : Int32)]) (rest := []) ⟨hx, hb, hml, hown, htg⟩ (c_md_eat l K _ Mh Ma0 Ma1 Ma2 Ma3 Ma4 Ma5 M_board M_text M_moves M_signs M_newBoardw M_out M_thrown M_side M_rights M_passant M_clock M_number M_size M_told M_atw M_newSide M_newRights M_newPassant M_newClock M_newNumber M_outs (47 : Int32)) (cwV 1 htg (g_V q_897 q_899 qs_35 q_7 (g_w q_900)) rfl rfl rfl ⟨rfl, k_md_eat⟩ ⟨Nat.le_of_ble_eq_true rfl, Nat.le_of_ble_eq_true rfl⟩) ⟨mu_blind, va_recv hK hPc (ci := 6) (q0 := 0) rfl rfl, mu_use hPc hK hDc hG hS hFc ⟨(by first | assumption | omega), (by first | assumption | omega), (by first | assumption | omega), (by decide), trivial⟩⟩ rfl rfl hl.1 rfl (lv_room (Nat.le_of_ble_eq_true rfl)) d_md_readBoard_164 ⟨Nat.zero_le _, Nat.zero_le _⟩) hS (fun q _ h => hFc q h) hFc (fun r_4 u_4 t H1 locs ht hvm hw_4 hB hz1 hk1 hS => ?_)
                obtain ⟨hP1, hD1⟩ := hB
                rw [ht] at hP1
                obtain ⟨hP, hD⟩ := va_join (wr := []) (w1 := [(Mh, .inr (6, [.int M_thrown, .ref Ma0, .int M_side, .int M_rights, .int M_passant, .int M_clock, .int M_number, .ref Ma1, .int M_size, .int M_told, .ref Ma2, .ref Ma3, .int u_4, .ref Ma4, .int M_newSide, .int M_newRights, .int M_newPassant, .int M_newClock, .int M_newNumber, .ref Ma5, .int M_outs])), (Ma0, .inl ((kI K), 64, .inl M_board)), (Ma1, .inl ((kI K), 100, .inl M_text)), (Ma2, .inl ((kI K), 330, .inl M_moves)), (Ma3, .inl ((kI K), 330, .inl M_signs)), (Ma4, .inl ((kI K), 64, .inl M_newBoardw)), (Ma5, .inl ((kI K), 16, .inl M_out))]) hP hD [0, 1, 2, 3, 4, 5, 6] [] rfl rfl (by decide) (by decide) hk1 hFc hP1 hD1
                have hP : va_P (kD K) vwCl [(Mh, .inr (6, [.int M_thrown, .ref Ma0, .int M_side, .int M_rights, .int M_passant, .int M_clock, .int M_number, .ref Ma1, .int M_size, .int M_told, .ref Ma2, .ref Ma3, .int u_4, .ref Ma4, .int M_newSide, .int M_newRights, .int M_newPassant, .int M_newClock, .int M_newNumber, .ref Ma5, .int M_outs])), (Ma0, .inl ((kI K), 64, .inl M_board)), (Ma1, .inl ((kI K), 100, .inl M_text)), (Ma2, .inl ((kI K), 330, .inl M_moves)), (Ma3, .inl ((kI K), 330, .inl M_signs)), (Ma4, .inl ((kI K), 64, .inl M_newBoardw)), (Ma5, .inl ((kI K), 16, .inl M_out))] H1 := hP.sub [0, 1, 2, 3, 4, 5, 6] rfl
                have hD : va_D A [(Mh, .inr (6, [.int M_thrown, .ref Ma0, .int M_side, .int M_rights, .int M_passant, .int M_clock, .int M_number, .ref Ma1, .int M_size, .int M_told, .ref Ma2, .ref Ma3, .int u_4, .ref Ma4, .int M_newSide, .int M_newRights, .int M_newPassant, .int M_newClock, .int M_newNumber, .ref Ma5, .int M_outs])), (Ma0, .inl ((kI K), 64, .inl M_board)), (Ma1, .inl ((kI K), 100, .inl M_text)), (Ma2, .inl ((kI K), 330, .inl M_moves)), (Ma3, .inl ((kI K), 330, .inl M_signs)), (Ma4, .inl ((kI K), 64, .inl M_newBoardw)), (Ma5, .inl ((kI K), 16, .inl M_out))] := hD.sub [0, 1, 2, 3, 4, 5, 6] (by decide) rfl
                generalize H1 = H at hP hS ⊢
                have hF := hF.trans (bnd2_s hw_4.1)
                have hn_4 := hw_4.2.1
                have fp_4_0 : 0 ≤ u_4.toInt := hw_4.2.2.1
                have fp_4_1 : u_4.toInt ≤ M_size.toInt := hw_4.2.2.2.1
                refine lv_if_ne (tgt := 172) hx hb d_md_readBoard_167 (by decide) (fun c_5 => ?_) (fun c_5 => ?_)
                · have hF := hF.trans (if_neg c_5)
                  refine lv_iinc (v := v1 + (-1 : Int32)) (lv' := [(1, .int (v1 + (-1 : Int32))), (0, .ref Mh), (2, .int v2), (3, .int v3)]) hx hb d_md_readBoard_172 hl (k := 1) rfl rfl (by decide) rfl (fun ls hl => ?_)
                  refine lv_goto (tgt := 3) hx hb d_md_readBoard_175 (by decide) ?_
                  exact ih3  (v1 + (-1 : Int32)) M_newBoardw u_4 _ _ ls  (by assumption) (by assumption) (ld1_s b0 b1) (ld1_d b0 b1 b6) hP hD hS (lv_sub hl [1, 0] rfl) hF
                · have hF := hF.trans (if_pos c_5)
                  refine lv_iconst (v := 0) hx hb d_md_readBoard_170 (by decide) ?_
                  exact W.zret (v := (0 : Int32)) hx hb hr (rfl) (fun t ht hW => ⟨⟨(0 : Int32), (M_newBoardw, u_4), rfl, ⟨hF, rfl, (by first | exact Or.inl rfl | exact Or.inr ⟨by assumption, by assumption⟩), trivial⟩, ⟨by rw [ht]; exact hP, hD⟩⟩, hS.F ht⟩) hS.2.2 d_md_readBoard_171
            · have hF := hF.trans (if_neg c_2)
              refine lv_aload_n hx hb d_md_readBoard_17 rfl (lv_at hl 0 rfl) ?_
              have hPc : va_P (kD K) vwCl [(Mh, .inr (6, [.int M_thrown, .ref Ma0, .int M_side, .int M_rights, .int M_passant, .int M_clock, .int M_number, .ref Ma1, .int M_size, .int M_told, .ref Ma2, .ref Ma3, .int M_atw, .ref Ma4, .int M_newSide, .int M_newRights, .int M_newPassant, .int M_newClock, .int M_newNumber, .ref Ma5, .int M_outs])), (Ma0, .inl ((kI K), 64, .inl M_board)), (Ma1, .inl ((kI K), 100, .inl M_text)), (Ma2, .inl ((kI K), 330, .inl M_moves)), (Ma3, .inl ((kI K), 330, .inl M_signs)), (Ma4, .inl ((kI K), 64, .inl M_newBoardw)), (Ma5, .inl ((kI K), 16, .inl M_out))] _ := hP.sub [0, 1, 2, 3, 4, 5, 6] rfl
              refine vp_callSi (va_Run.run (va_runV (As := []) (rest := []) ⟨hx, hb, hml, hown, htg⟩ (c_md_peek l K Mh Ma0 Ma1 Ma2 Ma3 Ma4 Ma5 M_board M_text M_moves M_signs M_newBoardw M_out M_thrown M_side M_rights M_passant M_clock M_number M_size M_told M_atw M_newSide M_newRights M_newPassant M_newClock M_newNumber M_outs) (cwV 0 htg (g_V q_887 q_889 qs_34 q_7 (g_w q_890)) rfl rfl rfl ⟨rfl, k_md_peek⟩ ⟨Nat.le_of_ble_eq_true rfl, Nat.le_of_ble_eq_true rfl⟩) ⟨ro_blind, va_recv hK hPc (ci := 6) (q0 := 0) rfl rfl, ro_use hPc hK hG hS ⟨(by first | assumption | omega), (by first | assumption | omega), trivial⟩⟩ rfl rfl hl.1 rfl (lv_room (Nat.le_of_ble_eq_true rfl)) d_md_readBoard_18 ⟨Nat.zero_le _, Nat.zero_le _⟩)) (fun r_6 hw_6 => ?_)
              have hF := hF.trans (bnd_s hw_6.1)
              have fp_6_0 : r_6 = 0 ∨ M_atw.toInt < M_size.toInt := hw_6.2.1
              refine lv_istore (lv' := [(4, .int r_6), (0, .ref Mh), (1, .int v1), (2, .int v2), (3, .int v3)]) hx hb d_md_readBoard_21 hl (by decide) rfl (fun ls hl => ?_)
              refine lv_iload hx hb d_md_readBoard_23 (lv_at hl 0 rfl) ?_
              have hPc : va_P (kD K) vwCl [] _ := hP.sub [] rfl
              refine vp_callSi (va_Run.run (va_runS (As := [.int r_6]) (rest := []) ⟨hx, hb, hml, hown, htg⟩ (c_md_manOf l K r_6) (va_cwS 1 htg (g_S q_891 q_892 q_7 (g_w q_893)) rfl rfl rfl k_md_manOf ⟨Nat.le_of_ble_eq_true rfl, Nat.le_of_ble_eq_true rfl⟩) ⟨ro_blind, ro_use hPc hK hG hS trivial⟩ rfl rfl hl.1 rfl (lv_room (Nat.le_of_ble_eq_true rfl)) d_md_readBoard_25 ⟨Nat.zero_le _, Nat.zero_le _⟩)) (fun r_7 hw_7 => ?_)
              have hF := hF.trans (bnd_s hw_7.1)
              refine lv_istore (lv' := [(5, .int r_7), (4, .int r_6), (0, .ref Mh), (1, .int v1), (2, .int v2), (3, .int v3)]) hx hb d_md_readBoard_28 hl (by decide) rfl (fun ls hl => ?_)
              refine lv_aload_n hx hb d_md_readBoard_30 rfl (lv_at hl 2 rfl) ?_
              refine lv_dup hx hb d_md_readBoard_31 rfl ?_
              refine va_get (D := kD K) (ci := 6) (v := .int M_atw) (C := R_md) (T := T_md) (N := 21) hx hb htg in_md hown hK hP 0 rfl rfl 12 (by decide) (htg (.fieldLink R_md 43 "GameNotationModel" "at" "I") q_806) (fun _ h9 => h9) rfl d_md_readBoard_32 ?_
              refine lv_iconst (v := 1) hx hb d_md_readBoard_35 (by decide) ?_
              refine lv_iadd hx hb d_md_readBoard_36 ?_
              refine va_put (D := kD K) (ci := 6) (v := .int (M_atw + (1 : Int32))) (ty := .int) (C := R_md) (T := T_md) (N := 21) hx hb htg in_md ty_md ty_md_ok nm_md hown hK hP hD hS 0 rfl rfl 12 (by decide) (htg (.fieldLink R_md 43 "GameNotationModel" "at" "I") q_806) (fun _ h9 => h9) rfl (by decide +kernel) rfl rfl (Nat.le_of_ble_eq_true rfl) d_md_readBoard_37 (fun H locs hP hD hS => ?_)
              have hP : va_P (kD K) vwCl [(Mh, .inr (6, [.int M_thrown, .ref Ma0, .int M_side, .int M_rights, .int M_passant, .int M_clock, .int M_number, .ref Ma1, .int M_size, .int M_told, .ref Ma2, .ref Ma3, .int (M_atw + (1 : Int32)), .ref Ma4, .int M_newSide, .int M_newRights, .int M_newPassant, .int M_newClock, .int M_newNumber, .ref Ma5, .int M_outs])), (Ma0, .inl ((kI K), 64, .inl M_board)), (Ma1, .inl ((kI K), 100, .inl M_text)), (Ma2, .inl ((kI K), 330, .inl M_moves)), (Ma3, .inl ((kI K), 330, .inl M_signs)), (Ma4, .inl ((kI K), 64, .inl M_newBoardw)), (Ma5, .inl ((kI K), 16, .inl M_out))] _ := hP
              have hD : va_D A [(Mh, .inr (6, [.int M_thrown, .ref Ma0, .int M_side, .int M_rights, .int M_passant, .int M_clock, .int M_number, .ref Ma1, .int M_size, .int M_told, .ref Ma2, .ref Ma3, .int (M_atw + (1 : Int32)), .ref Ma4, .int M_newSide, .int M_newRights, .int M_newPassant, .int M_newClock, .int M_newNumber, .ref Ma5, .int M_outs])), (Ma0, .inl ((kI K), 64, .inl M_board)), (Ma1, .inl ((kI K), 100, .inl M_text)), (Ma2, .inl ((kI K), 330, .inl M_moves)), (Ma3, .inl ((kI K), 330, .inl M_signs)), (Ma4, .inl ((kI K), 64, .inl M_newBoardw)), (Ma5, .inl ((kI K), 16, .inl M_out))] := hD
              refine lv_iload hx hb d_md_readBoard_40 (lv_at hl 0 rfl) ?_
              refine lv_if_le (tgt := 66) hx hb d_md_readBoard_42 (by decide) (fun c_8 => ?_) (fun c_8 => ?_)
              · have hF := hF.trans (if_pos c_8)
                refine lv_iload hx hb d_md_readBoard_66 (lv_at hl 1 rfl) ?_
                refine lv_bipush (v := 49) hx hb d_md_readBoard_68 (by decide) ?_
                refine lv_icmp_lt (tgt := 100) hx hb d_md_readBoard_70 (by decide) (fun c_9 => ?_) (fun c_9 => ?_)
                · have hF := hF.trans (if_pos c_9)
                  refine lv_iconst (v := 0) hx hb d_md_readBoard_100 (by decide) ?_
                  refine lv_istore (lv' := [(6, .int (0 : Int32)), (5, .int r_7), (4, .int r_6), (0, .ref Mh), (1, .int v1), (2, .int v2), (3, .int v3)]) hx hb d_md_readBoard_101 hl (by decide) rfl (fun ls hl => ?_)
                  refine lv_iload hx hb d_md_readBoard_103 (lv_at hl 0 rfl) ?_
                  refine lv_if_ne (tgt := 110) hx hb d_md_readBoard_105 (by decide) (fun c => False.elim (by revert c; decide)) (fun _ => ?_)
                  refine lv_iconst (v := 0) hx hb d_md_readBoard_108 (by decide) ?_
                  exact W.zret (v := (0 : Int32)) hx hb hr (rfl) (fun t ht hW => ⟨⟨(0 : Int32), (M_newBoardw, M_atw + (1 : Int32)), rfl, ⟨hF, rfl, (by first | exact Or.inl rfl | exact Or.inr ⟨by assumption, by assumption⟩), trivial⟩, ⟨by rw [ht]; exact hP, hD⟩⟩, hS.F ht⟩) hS.2.2 d_md_readBoard_109
                · have hF := hF.trans (if_neg c_9)
                  refine lv_iload hx hb d_md_readBoard_73 (lv_at hl 1 rfl) ?_
                  refine lv_bipush (v := 56) hx hb d_md_readBoard_75 (by decide) ?_
                  refine lv_icmp_gt (tgt := 100) hx hb d_md_readBoard_77 (by decide) (fun c_10 => ?_) (fun c_10 => ?_)
                  · have hF := hF.trans (if_pos c_10)
                    refine lv_iconst (v := 0) hx hb d_md_readBoard_100 (by decide) ?_
                    refine lv_istore (lv' := [(6, .int (0 : Int32)), (5, .int r_7), (4, .int r_6), (0, .ref Mh), (1, .int v1), (2, .int v2), (3, .int v3)]) hx hb d_md_readBoard_101 hl (by decide) rfl (fun ls hl => ?_)
                    refine lv_iload hx hb d_md_readBoard_103 (lv_at hl 0 rfl) ?_
                    refine lv_if_ne (tgt := 110) hx hb d_md_readBoard_105 (by decide) (fun c => False.elim (by revert c; decide)) (fun _ => ?_)
                    refine lv_iconst (v := 0) hx hb d_md_readBoard_108 (by decide) ?_
                    exact W.zret (v := (0 : Int32)) hx hb hr (rfl) (fun t ht hW => ⟨⟨(0 : Int32), (M_newBoardw, M_atw + (1 : Int32)), rfl, ⟨hF, rfl, (by first | exact Or.inl rfl | exact Or.inr ⟨by assumption, by assumption⟩), trivial⟩, ⟨by rw [ht]; exact hP, hD⟩⟩, hS.F ht⟩) hS.2.2 d_md_readBoard_109
                  · have hF := hF.trans (if_neg c_10)
                    refine lv_iload_n hx hb d_md_readBoard_80 rfl (lv_at hl 5 rfl) ?_
                    refine lv_if_ne (tgt := 100) hx hb d_md_readBoard_81 (by decide) (fun c_11 => ?_) (fun c_11 => ?_)
                    · have hF := hF.trans (if_neg c_11)
                      refine lv_iconst (v := 0) hx hb d_md_readBoard_100 (by decide) ?_
                      refine lv_istore (lv' := [(6, .int (0 : Int32)), (5, .int r_7), (4, .int r_6), (0, .ref Mh), (1, .int v1), (2, .int v2), (3, .int v3)]) hx hb d_md_readBoard_101 hl (by decide) rfl (fun ls hl => ?_)
                      refine lv_iload hx hb d_md_readBoard_103 (lv_at hl 0 rfl) ?_
                      refine lv_if_ne (tgt := 110) hx hb d_md_readBoard_105 (by decide) (fun c => False.elim (by revert c; decide)) (fun _ => ?_)
                      refine lv_iconst (v := 0) hx hb d_md_readBoard_108 (by decide) ?_
                      exact W.zret (v := (0 : Int32)) hx hb hr (rfl) (fun t ht hW => ⟨⟨(0 : Int32), (M_newBoardw, M_atw + (1 : Int32)), rfl, ⟨hF, rfl, (by first | exact Or.inl rfl | exact Or.inr ⟨by assumption, by assumption⟩), trivial⟩, ⟨by rw [ht]; exact hP, hD⟩⟩, hS.F ht⟩) hS.2.2 d_md_readBoard_109
                    · have hF := hF.trans (if_pos c_11)
                      refine lv_iload_n hx hb d_md_readBoard_84 rfl (lv_at hl 4 rfl) ?_
                      refine lv_iload hx hb d_md_readBoard_85 (lv_at hl 1 rfl) ?_
                      refine lv_iadd hx hb d_md_readBoard_87 ?_
                      refine lv_bipush (v := 48) hx hb d_md_readBoard_88 (by decide) ?_
                      refine lv_isub hx hb d_md_readBoard_90 ?_
                      refine lv_bipush (v := 8) hx hb d_md_readBoard_91 (by decide) ?_
                      refine lv_icmp_gt (tgt := 100) hx hb d_md_readBoard_93 (by decide) (fun c_12 => ?_) (fun c_12 => ?_)
                      · have hF := hF.trans (if_pos c_12)
                        refine lv_iconst (v := 0) hx hb d_md_readBoard_100 (by decide) ?_
                        refine lv_istore (lv' := [(6, .int (0 : Int32)), (5, .int r_7), (4, .int r_6), (0, .ref Mh), (1, .int v1), (2, .int v2), (3, .int v3)]) hx hb d_md_readBoard_101 hl (by decide) rfl (fun ls hl => ?_)
                        refine lv_iload hx hb d_md_readBoard_103 (lv_at hl 0 rfl) ?_
                        refine lv_if_ne (tgt := 110) hx hb d_md_readBoard_105 (by decide) (fun c => False.elim (by revert c; decide)) (fun _ => ?_)
                        refine lv_iconst (v := 0) hx hb d_md_readBoard_108 (by decide) ?_
                        exact W.zret (v := (0 : Int32)) hx hb hr (rfl) (fun t ht hW => ⟨⟨(0 : Int32), (M_newBoardw, M_atw + (1 : Int32)), rfl, ⟨hF, rfl, (by first | exact Or.inl rfl | exact Or.inr ⟨by assumption, by assumption⟩), trivial⟩, ⟨by rw [ht]; exact hP, hD⟩⟩, hS.F ht⟩) hS.2.2 d_md_readBoard_109
                      · have hF := hF.trans (if_neg c_12)
                        refine lv_iconst (v := 1) hx hb d_md_readBoard_96 (by decide) ?_
                        refine lv_goto (tgt := 101) hx hb d_md_readBoard_97 (by decide) ?_
                        refine lv_istore (lv' := [(6, .int (1 : Int32)), (5, .int r_7), (4, .int r_6), (0, .ref Mh), (1, .int v1), (2, .int v2), (3, .int v3)]) hx hb d_md_readBoard_101 hl (by decide) rfl (fun ls hl => ?_)
                        refine lv_iload hx hb d_md_readBoard_103 (lv_at hl 0 rfl) ?_
                        refine lv_if_ne (tgt := 110) hx hb d_md_readBoard_105 (by decide) (fun _ => ?_) (fun c => False.elim (by revert c; decide))
                        refine lv_iconst (v := 0) hx hb d_md_readBoard_110 (by decide) ?_
                        refine lv_istore (lv' := [(7, .int (0 : Int32)), (6, .int (1 : Int32)), (5, .int r_7), (4, .int r_6), (0, .ref Mh), (1, .int v1), (2, .int v2), (3, .int v3)]) hx hb d_md_readBoard_111 hl (by decide) rfl (fun ls hl => ?_)
                        have loop113 : ∀ (n113 : Nat) (v1 : Int32) (v2 : Int32) (v3 : Int32) (v4 : Int32) (v5 : Int32) (v6 : Int32) (v7 : Int32) (M_newBoardw : (Nat → Int32)) (M_atw : Int32) (H : Heap) (locs : List Loc) (ls : Array Slot), 0 ≤ M_atw.toInt → M_atw.toInt ≤ M_size.toInt → v1.toInt ≤ 7 → ¬ v1 < 0 → 0 ≤ v2.toInt → 49 ≤ v4.toInt ∧ v4.toInt ≤ 56 ∧ v2.toInt + (v4.toInt - 48) ≤ 8 → 0 ≤ v7.toInt → (8 - v2.toInt).toNat < n11 + 1 → (v1.toInt + 1).toNat < n3 + 1 → (9 - v7.toInt).toNat < n113 → va_P (kD K) vwCl [(Mh, .inr (6, [.int M_thrown, .ref Ma0, .int M_side, .int M_rights, .int M_passant, .int M_clock, .int M_number, .ref Ma1, .int M_size, .int M_told, .ref Ma2, .ref Ma3, .int M_atw, .ref Ma4, .int M_newSide, .int M_newRights, .int M_newPassant, .int M_newClock, .int M_newNumber, .ref Ma5, .int M_outs])), (Ma0, .inl ((kI K), 64, .inl M_board)), (Ma1, .inl ((kI K), 100, .inl M_text)), (Ma2, .inl ((kI K), 330, .inl M_moves)), (Ma3, .inl ((kI K), 330, .inl M_signs)), (Ma4, .inl ((kI K), 64, .inl M_newBoardw)), (Ma5, .inl ((kI K), 16, .inl M_out))] H → va_D A [(Mh, .inr (6, [.int M_thrown, .ref Ma0, .int M_side, .int M_rights, .int M_passant, .int M_clock, .int M_number, .ref Ma1, .int M_size, .int M_told, .ref Ma2, .ref Ma3, .int M_atw, .ref Ma4, .int M_newSide, .int M_newRights, .int M_newPassant, .int M_newClock, .int M_newNumber, .ref Ma5, .int M_outs])), (Ma0, .inl ((kI K), 64, .inl M_board)), (Ma1, .inl ((kI K), 100, .inl M_text)), (Ma2, .inl ((kI K), 330, .inl M_moves)), (Ma3, .inl ((kI K), 330, .inl M_signs)), (Ma4, .inl ((kI K), 64, .inl M_newBoardw)), (Ma5, .inl ((kI K), 16, .inl M_out))] → va_S A s.heap H locs → lv_has ls 8 [(0, .ref Mh), (1, .int v1), (2, .int v2), (3, .int v3), (4, .int v4), (5, .int v5), (6, .int v6), (7, .int v7)] → f_md_readBoard M_text M_newBoard M_size M_at = f_md_readBoard_L113  (fun a0 a1 a2 a3 a4 => (f_md_readBoard_L11 M_text M_size (fun a0 a1 a2 => (f_md_readBoard_L3 M_text M_size  n3 a0 a1 a2)) n11 a0 a1 a2 a3 a4)) n113 v1 v2 v3 v4 v5 v6 v7 M_newBoardw M_atw → W p l e (headSpec w_md_readBoard ({ frames := 2, cells := 0, slots := 0, locals := 44 } : Room)).room s m ([(.ref Mh : Value)].toArray) below meth c H locs 0 0 (MQ below (va_Qi (fun (r : Int32) (u : (Nat → Int32) × Int32) => f_md_readBoard M_text M_newBoard M_size M_at = (r, u) ∧ narrow .boolean (.int r) = .int r ∧ (r = 0 ∨ (0 ≤ u.2.toInt ∧ u.2.toInt ≤ M_size.toInt)) ∧ True) (fun (u : (Nat → Int32) × Int32) (t : State) => va_P (kD K) vwCl [(Mh, .inr (6, [.int M_thrown, .ref Ma0, .int M_side, .int M_rights, .int M_passant, .int M_clock, .int M_number, .ref Ma1, .int M_size, .int M_told, .ref Ma2, .ref Ma3, .int u.2, .ref Ma4, .int M_newSide, .int M_newRights, .int M_newPassant, .int M_newClock, .int M_newNumber, .ref Ma5, .int M_outs])), (Ma0, .inl ((kI K), 64, .inl M_board)), (Ma1, .inl ((kI K), 100, .inl M_text)), (Ma2, .inl ((kI K), 330, .inl M_moves)), (Ma3, .inl ((kI K), 330, .inl M_signs)), (Ma4, .inl ((kI K), 64, .inl u.1)), (Ma5, .inl ((kI K), 16, .inl M_out))] t.heap ∧ va_D (A) [(Mh, .inr (6, [.int M_thrown, .ref Ma0, .int M_side, .int M_rights, .int M_passant, .int M_clock, .int M_number, .ref Ma1, .int M_size, .int M_told, .ref Ma2, .ref Ma3, .int u.2, .ref Ma4, .int M_newSide, .int M_newRights, .int M_newPassant, .int M_newClock, .int M_newNumber, .ref Ma5, .int M_outs])), (Ma0, .inl ((kI K), 64, .inl M_board)), (Ma1, .inl ((kI K), 100, .inl M_text)), (Ma2, .inl ((kI K), 330, .inl M_moves)), (Ma3, .inl ((kI K), 330, .inl M_signs)), (Ma4, .inl ((kI K), 64, .inl u.1)), (Ma5, .inl ((kI K), 16, .inl M_out))]) (A)) ([(.ref Mh : Value)].toArray) s 0 0 (A)) (F0 m 113 ls []) := by
                          intro n113
                          induction n113 with
                          | zero =>
                            intro _ _ _ _ _ _ _ _ _ _ _ _ _ _ _ _ _ _ _ _ _ hz
                            exact absurd hz (Nat.not_lt_zero _)
                          | succ n113 ih113 =>
                            intro v1 v2 v3 v4 v5 v6 v7 M_newBoardw M_atw H locs ls a0 a1 b0 b1 b2 b3 b4 b5 b6 hm113 hP hD hS hl hF
                            rw [f_md_readBoard_L113] at hF
                            refine lv_iload hx hb d_md_readBoard_113 (lv_at hl 7 rfl) ?_
                            refine lv_iload hx hb d_md_readBoard_115 (lv_at hl 4 rfl) ?_
                            refine lv_bipush (v := 48) hx hb d_md_readBoard_117 (by decide) ?_
                            refine lv_isub hx hb d_md_readBoard_119 ?_
                            refine lv_icmp_ge (tgt := 144) hx hb d_md_readBoard_120 (by decide) (fun c_13 => ?_) (fun c_13 => ?_)
                            · have hF := hF.trans (if_pos c_13)
                              refine lv_iload_n hx hb d_md_readBoard_144 rfl (lv_at hl 2 rfl) ?_
                              refine lv_iload hx hb d_md_readBoard_145 (lv_at hl 4 rfl) ?_
                              refine lv_bipush (v := 48) hx hb d_md_readBoard_147 (by decide) ?_
                              refine lv_isub hx hb d_md_readBoard_149 ?_
                              refine lv_iadd hx hb d_md_readBoard_150 ?_
                              refine lv_istore_n (lv' := [(2, .int (v2 + (v4 - (48 : Int32)))), (0, .ref Mh), (1, .int v1), (3, .int v3), (4, .int v4), (5, .int v5), (6, .int v6), (7, .int v7)]) hx hb d_md_readBoard_151 rfl hl (by decide) rfl (fun ls hl => ?_)
                              refine lv_iconst (v := 1) hx hb d_md_readBoard_152 (by decide) ?_
                              refine lv_istore_n (lv' := [(3, .int (1 : Int32)), (2, .int (v2 + (v4 - (48 : Int32)))), (0, .ref Mh), (1, .int v1), (4, .int v4), (5, .int v5), (6, .int v6), (7, .int v7)]) hx hb d_md_readBoard_153 rfl hl (by decide) rfl (fun ls hl => ?_)
                              refine lv_goto (tgt := 11) hx hb d_md_readBoard_154 (by decide) ?_
                              exact ih11  v1 (v2 + (v4 - (48 : Int32))) (1 : Int32) M_newBoardw M_atw _ _ ls  (a0) (a1) (b0) (b1) (rb_h b2 b3) (b6) (rb_k b2 b3 b5) hP hD hS (lv_sub hl [2, 3, 1, 0] rfl) hF
                            · have hF := hF.trans (if_neg c_13)
                              refine lv_aload_n hx hb d_md_readBoard_123 rfl (lv_at hl 0 rfl) ?_
                              refine va_get (D := kD K) (ci := 6) (v := .ref Ma4) (C := R_md) (T := T_md) (N := 21) hx hb htg in_md hown hK hP 0 rfl rfl 13 (by decide) (htg (.fieldLink R_md 29 "GameNotationModel" "newBoard" "[I") q_807) (fun _ h9 => h9) rfl d_md_readBoard_124 ?_
                              refine lv_bipush (v := 8) hx hb d_md_readBoard_127 (by decide) ?_
                              refine lv_iload_n hx hb d_md_readBoard_129 rfl (lv_at hl 1 rfl) ?_
                              refine lv_imul hx hb d_md_readBoard_130 ?_
                              refine lv_iload_n hx hb d_md_readBoard_131 rfl (lv_at hl 2 rfl) ?_
                              refine lv_iadd hx hb d_md_readBoard_132 ?_
                              refine lv_iload hx hb d_md_readBoard_133 (lv_at hl 7 rfl) ?_
                              refine lv_iadd hx hb d_md_readBoard_135 ?_
                              refine lv_iconst (v := 0) hx hb d_md_readBoard_136 (by decide) ?_
                              have h_14 : vp_in ((((8 : Int32) * v1) + v2) + v7) 64 := rb_in2 b0 b1 b2 b3 b4 c_13
                              refine va_iast hx hb hK hP hD hS 5 0 rfl rfl h_14 d_md_readBoard_137 (fun H locs hP hD hS => ?_)
                              have hP : va_P (kD K) vwCl [(Mh, .inr (6, [.int M_thrown, .ref Ma0, .int M_side, .int M_rights, .int M_passant, .int M_clock, .int M_number, .ref Ma1, .int M_size, .int M_told, .ref Ma2, .ref Ma3, .int M_atw, .ref Ma4, .int M_newSide, .int M_newRights, .int M_newPassant, .int M_newClock, .int M_newNumber, .ref Ma5, .int M_outs])), (Ma0, .inl ((kI K), 64, .inl M_board)), (Ma1, .inl ((kI K), 100, .inl M_text)), (Ma2, .inl ((kI K), 330, .inl M_moves)), (Ma3, .inl ((kI K), 330, .inl M_signs)), (Ma4, .inl ((kI K), 64, .inl (upd M_newBoardw ((((8 : Int32) * v1) + v2) + v7).toNatClampNeg (0 : Int32)))), (Ma5, .inl ((kI K), 16, .inl M_out))] _ := hP
                              have hD : va_D A [(Mh, .inr (6, [.int M_thrown, .ref Ma0, .int M_side, .int M_rights, .int M_passant, .int M_clock, .int M_number, .ref Ma1, .int M_size, .int M_told, .ref Ma2, .ref Ma3, .int M_atw, .ref Ma4, .int M_newSide, .int M_newRights, .int M_newPassant, .int M_newClock, .int M_newNumber, .ref Ma5, .int M_outs])), (Ma0, .inl ((kI K), 64, .inl M_board)), (Ma1, .inl ((kI K), 100, .inl M_text)), (Ma2, .inl ((kI K), 330, .inl M_moves)), (Ma3, .inl ((kI K), 330, .inl M_signs)), (Ma4, .inl ((kI K), 64, .inl (upd M_newBoardw ((((8 : Int32) * v1) + v2) + v7).toNatClampNeg (0 : Int32)))), (Ma5, .inl ((kI K), 16, .inl M_out))] := hD
                              refine lv_iinc (v := v7 + (1 : Int32)) (lv' := [(7, .int (v7 + (1 : Int32))), (0, .ref Mh), (1, .int v1), (2, .int v2), (3, .int v3), (4, .int v4), (5, .int v5), (6, .int v6)]) hx hb d_md_readBoard_138 hl (k := 7) rfl rfl (by decide) rfl (fun ls hl => ?_)
                              refine lv_goto (tgt := 113) hx hb d_md_readBoard_141 (by decide) ?_
                              exact ih113  v1 v2 v3 v4 v5 v6 (v7 + (1 : Int32)) (upd M_newBoardw ((((8 : Int32) * v1) + v2) + v7).toNatClampNeg (0 : Int32)) M_atw _ _ ls  (a0) (a1) (b0) (b1) (b2) (b3) (rb_s b3 b4 c_13) (b5) (b6) (rb_d b3 b4 c_13 hm113) hP hD hS (lv_sub hl [1, 2, 3, 4, 5, 6, 7, 0] rfl) hF
                        exact loop113 10 v1 v2 v3 r_6 r_7 (1 : Int32) (0 : Int32) M_newBoardw (M_atw + (1 : Int32)) _ _ ls  ((at_up a0 (c49_n c_9 fp_6_0)).1) ((at_up a0 (c49_n c_9 fp_6_0)).2) (b0) (b1) (b2.1) (rb_e b2 c_9 c_10 c_12) (by decide) (hm11) (b6) (by decide) hP hD hS (lv_sub hl [4, 5, 6, 7, 3, 2, 1, 0] rfl) hF
              · have hF := hF.trans (if_neg c_8)
                refine lv_aload_n hx hb d_md_readBoard_45 rfl (lv_at hl 2 rfl) ?_
                refine va_get (D := kD K) (ci := 6) (v := .ref Ma4) (C := R_md) (T := T_md) (N := 21) hx hb htg in_md hown hK hP 0 rfl rfl 13 (by decide) (htg (.fieldLink R_md 29 "GameNotationModel" "newBoard" "[I") q_807) (fun _ h9 => h9) rfl d_md_readBoard_46 ?_
                refine lv_bipush (v := 8) hx hb d_md_readBoard_49 (by decide) ?_
                refine lv_iload_n hx hb d_md_readBoard_51 rfl (lv_at hl 3 rfl) ?_
                refine lv_imul hx hb d_md_readBoard_52 ?_
                refine lv_iload_n hx hb d_md_readBoard_53 rfl (lv_at hl 4 rfl) ?_
                refine lv_iadd hx hb d_md_readBoard_54 ?_
                refine lv_iload hx hb d_md_readBoard_55 (lv_at hl 0 rfl) ?_
                have h_15 : vp_in (((8 : Int32) * v1) + v2) 64 := rb_in b0 b1 b2 c_2
                refine va_iast hx hb hK hP hD hS 5 0 rfl rfl h_15 d_md_readBoard_57 (fun H locs hP hD hS => ?_)
                have hP : va_P (kD K) vwCl [(Mh, .inr (6, [.int M_thrown, .ref Ma0, .int M_side, .int M_rights, .int M_passant, .int M_clock, .int M_number, .ref Ma1, .int M_size, .int M_told, .ref Ma2, .ref Ma3, .int (M_atw + (1 : Int32)), .ref Ma4, .int M_newSide, .int M_newRights, .int M_newPassant, .int M_newClock, .int M_newNumber, .ref Ma5, .int M_outs])), (Ma0, .inl ((kI K), 64, .inl M_board)), (Ma1, .inl ((kI K), 100, .inl M_text)), (Ma2, .inl ((kI K), 330, .inl M_moves)), (Ma3, .inl ((kI K), 330, .inl M_signs)), (Ma4, .inl ((kI K), 64, .inl (upd M_newBoardw (((8 : Int32) * v1) + v2).toNatClampNeg r_7))), (Ma5, .inl ((kI K), 16, .inl M_out))] _ := hP
                have hD : va_D A [(Mh, .inr (6, [.int M_thrown, .ref Ma0, .int M_side, .int M_rights, .int M_passant, .int M_clock, .int M_number, .ref Ma1, .int M_size, .int M_told, .ref Ma2, .ref Ma3, .int (M_atw + (1 : Int32)), .ref Ma4, .int M_newSide, .int M_newRights, .int M_newPassant, .int M_newClock, .int M_newNumber, .ref Ma5, .int M_outs])), (Ma0, .inl ((kI K), 64, .inl M_board)), (Ma1, .inl ((kI K), 100, .inl M_text)), (Ma2, .inl ((kI K), 330, .inl M_moves)), (Ma3, .inl ((kI K), 330, .inl M_signs)), (Ma4, .inl ((kI K), 64, .inl (upd M_newBoardw (((8 : Int32) * v1) + v2).toNatClampNeg r_7))), (Ma5, .inl ((kI K), 16, .inl M_out))] := hD
                refine lv_iinc (v := v2 + (1 : Int32)) (lv' := [(2, .int (v2 + (1 : Int32))), (5, .int r_7), (4, .int r_6), (0, .ref Mh), (1, .int v1), (3, .int v3)]) hx hb d_md_readBoard_58 hl (k := 4) rfl rfl (by decide) rfl (fun ls hl => ?_)
                refine lv_iconst (v := 0) hx hb d_md_readBoard_61 (by decide) ?_
                refine lv_istore_n (lv' := [(3, .int (0 : Int32)), (2, .int (v2 + (1 : Int32))), (5, .int r_7), (4, .int r_6), (0, .ref Mh), (1, .int v1)]) hx hb d_md_readBoard_62 rfl hl (by decide) rfl (fun ls hl => ?_)
                refine lv_goto (tgt := 154) hx hb d_md_readBoard_63 (by decide) ?_
                refine lv_goto (tgt := 11) hx hb d_md_readBoard_154 (by decide) ?_
                exact ih11  v1 (v2 + (1 : Int32)) (0 : Int32) (upd M_newBoardw (((8 : Int32) * v1) + v2).toNatClampNeg r_7) (M_atw + (1 : Int32)) _ _ ls  ((at_up a0 (mo_n hw_7 c_8 fp_6_0)).1) ((at_up a0 (mo_n hw_7 c_8 fp_6_0)).2) (b0) (b1) (rb_f b2 c_2) (b6) (rb_g b2 c_2 hm11) hP hD hS (lv_sub hl [4, 5, 1, 0] rfl) hF
        exact loop11 9 v1 (0 : Int32) (0 : Int32) M_newBoardw M_atw _ _ ls  (by assumption) (by assumption) (b0) (c_1) (by decide) (hm3) (by decide) hP hD hS (lv_sub hl [2, 3, 1, 0] rfl) hF
  exact loop3 9 (7 : Int32) M_newBoard M_at _ _ ls  (by assumption) (by assumption) (by decide) (by decide) hP hD hS (lv_sub hl [1, 0] rfl) hF
