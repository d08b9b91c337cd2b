def f_md_thrown (M_thrown : Int32) : Int32 := M_thrown
set_option maxHeartbeats 4000000 in
set_option maxRecDepth 100000 in
theorem c_md_thrown (l : Launch) (K : KT) (Mh Ma0 Ma1 Ma2 Ma3 Ma4 Ma5 : Nat) (M_board : (Nat → Int32)) (M_text : (Nat → Int32)) (M_moves : (Nat → Int32)) (M_signs : (Nat → Int32)) (M_newBoard : (Nat → Int32)) (M_out : (Nat → Int32)) (M_thrown : Int32) (M_side : Int32) (M_rights : Int32) (M_passant : Int32) (M_clock : Int32) (M_number : Int32) (M_size : Int32) (M_told : Int32) (M_at : Int32) (M_newSide : Int32) (M_newRights : Int32) (M_newPassant : Int32) (M_newClock : Int32) (M_newNumber : Int32) (M_outs : Int32) : Met l y_md_thrown w_md_thrown ({ frames := 0, cells := 0, slots := 0, locals := 0 } : Room) (va_Pc [.ref Mh] (fun U => pRO K [(Mh, .inr (6, [.int M_thrown, .ref Ma0, .int M_side, .int M_rights, .int M_passant, .int M_clock, .int M_number, .ref Ma1, .int M_size, .int M_told, .ref Ma2, .ref Ma3, .int M_at, .ref Ma4, .int M_newSide, .int M_newRights, .int M_newPassant, .int M_newClock, .int M_newNumber, .ref Ma5, .int M_outs])), (Ma0, .inl ((kI K), 64, .inl M_board)), (Ma1, .inl ((kI K), 100, .inl M_text)), (Ma2, .inl ((kI K), 330, .inl M_moves)), (Ma3, .inl ((kI K), 330, .inl M_signs)), (Ma4, .inl ((kI K), 64, .inl M_newBoard)), (Ma5, .inl ((kI K), 16, .inl M_out))] U ∧ True)) (vp_Si (fun r => f_md_thrown M_thrown = r ∧ True)) 0 0 (fun _ => False) := by
  refine Met.ofW (cc := b_md_thrown) (maxL := 1) (ret := (some .int)) (by decide) rfl ?_
  intro p e s m args below meth c s₁ B hml hv
  obtain ⟨rfl, ⟨hP, hK, hG⟩, -⟩ := hv
  have hx := B.exec
  have hb := B.bytes
  have hr := B.returns
  have hts := atoms_spec (ws := w_md_thrown) B.pre
  have hown : s.vm.findClass R_md = some m.cls := findClass_of_methodNamed B.named
  have hlocks := B.notSynchronized
  have htg := fun w h => hts w (List.mem_cons_of_mem _ h)
  have hS : va_S (fun _ => False) s.heap s.heap [] := va_S.rf
  have hl := lv_entry ([.ref Mh]) (n := 1) (Nat.le_of_ble_eq_true rfl)
  rw [lg_entry_eq]
  generalize (lg_sl ([.ref Mh]) ++ List.replicate (1 - (lg_sl ([.ref Mh])).length) Slot.unset).toArray = ls at hl ⊢
  have hl : lv_has ls 1 [(0, .ref Mh)] := hl
  have z0 : (0 : Int32).toInt = 0 := by decide
  have z1 : (1 : Int32).toInt = 1 := by decide
  have zm1 : (-1 : Int32).toInt = -1 := by decide
  have z2 : (2 : Int32).toInt = 2 := by decide
  have z3 : (3 : Int32).toInt = 3 := by decide
  have z7 : (7 : Int32).toInt = 7 := by decide
  have z8 : (8 : Int32).toInt = 8 := by decide
  have z16 : (16 : Int32).toInt = 16 := by decide
  have z64 : (64 : Int32).toInt = 64 := by decide
  have z100 : (100 : Int32).toInt = 100 := by decide
  have z330 : (330 : Int32).toInt = 330 := by decide
  have hF := f_md_thrown.eq_1 M_thrown
  refine lv_aload_n hx hb d_md_thrown_0 rfl (lv_at hl 0 rfl) ?_
  refine va_get (D := kD K) (ci := 6) (v := .int M_thrown) (C := R_md) (T := T_md) (N := 21) hx hb htg in_md hown hK hP 0 rfl rfl 0 (by decide) (htg (.fieldLink R_md 35 "GameNotationModel" "thrown" "I") q_794) (fun _ h9 => h9) rfl d_md_thrown_1 ?_
  exact W.iret (v := M_thrown) hx hb hr (fun t ht hW => ⟨_, rfl, ⟨hF, trivial⟩, ht⟩) hS.2.2 d_md_thrown_4
def f_md_type_L14 (part : Int64) : Nat → Int32 → Int32 → Int32 → (Nat → Int32) → Int32 → Int32 × Int32 × (Nat → Int32) × Int32
  | 0, _, _, M_thrownw, M_textw, M_sizew => (0, M_thrownw, M_textw, M_sizew)
  | n + 1, v3, v4, M_thrownw, M_textw, M_sizew => (if v4 < 0 then ((1 : Int32), (M_thrownw, M_textw, v3)) else (if (((part >>> (((8 : Int32) * v4).toInt64 &&& 63)) &&& (255 : Int64)).toInt32) = 0 then (f_md_type_L14 part  n v3 (v4 + (-1 : Int32)) M_thrownw M_textw M_sizew) else (if (((part >>> (((8 : Int32) * v4).toInt64 &&& 63)) &&& (255 : Int64)).toInt32) < (32 : Int32) then ((0 : Int32), (M_thrownw, M_textw, M_sizew)) else (if (126 : Int32) < (((part >>> (((8 : Int32) * v4).toInt64 &&& 63)) &&& (255 : Int64)).toInt32) then ((0 : Int32), (M_thrownw, M_textw, M_sizew)) else (if v3 = (100 : Int32) then ((0 : Int32), (M_thrownw, M_textw, M_sizew)) else (f_md_type_L14 part  n (v3 + (1 : Int32)) (v4 + (-1 : Int32)) M_thrownw (upd M_textw v3.toNatClampNeg (((part >>> (((8 : Int32) * v4).toInt64 &&& 63)) &&& (255 : Int64)).toInt32)) M_sizew))))))
def f_md_type (M_text : (Nat → Int32)) (M_size : Int32) (part : Int64) : Int32 × Int32 × (Nat → Int32) × Int32 := (f_md_type_L14 part  9 M_size (7 : Int32) (0 : Int32) M_text M_size)
set_option maxHeartbeats 4000000 in
set_option maxRecDepth 100000 in
theorem c_md_type (l : Launch) (K : KT) (sz : Nat) (Mh Ma0 Ma1 Ma2 Ma3 Ma4 Ma5 : Nat) (M_board : (Nat → Int32)) (M_text : (Nat → Int32)) (M_moves : (Nat → Int32)) (M_signs : (Nat → Int32)) (M_newBoard : (Nat → Int32)) (M_out : (Nat → Int32)) (M_thrown : Int32) (M_side : Int32) (M_rights : Int32) (M_passant : Int32) (M_clock : Int32) (M_number : Int32) (M_size : Int32) (M_told : Int32) (M_at : Int32) (M_newSide : Int32) (M_newRights : Int32) (M_newPassant : Int32) (M_newClock : Int32) (M_newNumber : Int32) (M_outs : Int32) (part : Int64) : Met l y_md_type w_md_type ({ frames := 0, cells := 0, slots := 0, locals := 0 } : Room) (va_Pc [.ref Mh, .long part] (fun U => pMU K [(Mh, .inr (6, [.int M_thrown, .ref Ma0, .int M_side, .int M_rights, .int M_passant, .int M_clock, .int M_number, .ref Ma1, .int M_size, .int M_told, .ref Ma2, .ref Ma3, .int M_at, .ref Ma4, .int M_newSide, .int M_newRights, .int M_newPassant, .int M_newClock, .int M_newNumber, .ref Ma5, .int M_outs])), (Ma0, .inl ((kI K), 64, .inl M_board)), (Ma1, .inl ((kI K), 100, .inl M_text)), (Ma2, .inl ((kI K), 330, .inl M_moves)), (Ma3, .inl ((kI K), 330, .inl M_signs)), (Ma4, .inl ((kI K), 64, .inl M_newBoard)), (Ma5, .inl ((kI K), 16, .inl M_out))] sz U ∧ 0 ≤ M_size.toInt ∧ M_size.toInt ≤ 100 ∧ True)) (va_Qi (fun (r : Int32) (u : Int32 × (Nat → Int32) × Int32) => f_md_type M_text M_size part = (r, u) ∧ narrow .boolean (.int r) = .int r ∧ True) (fun (u : Int32 × (Nat → Int32) × Int32) (t : State) => va_P (kD K) vwCl [(Mh, .inr (6, [.int u.1, .ref Ma0, .int M_side, .int M_rights, .int M_passant, .int M_clock, .int M_number, .ref Ma1, .int u.2.2, .int M_told, .ref Ma2, .ref Ma3, .int M_at, .ref Ma4, .int M_newSide, .int M_newRights, .int M_newPassant, .int M_newClock, .int M_newNumber, .ref Ma5, .int M_outs])), (Ma0, .inl ((kI K), 64, .inl M_board)), (Ma1, .inl ((kI K), 100, .inl u.2.1)), (Ma2, .inl ((kI K), 330, .inl M_moves)), (Ma3, .inl ((kI K), 330, .inl M_signs)), (Ma4, .inl ((kI K), 64, .inl M_newBoard)), (Ma5, .inl ((kI K), 16, .inl M_out))] t.heap ∧ va_D (va_A [(Mh, .inr (6, [.int M_thrown, .ref Ma0, .int M_side, .int M_rights, .int M_passant, .int M_clock, .int M_number, .ref Ma1, .int M_size, .int M_told, .ref Ma2, .ref Ma3, .int M_at, .ref Ma4, .int M_newSide, .int M_newRights, .int M_newPassant, .int M_newClock, .int M_newNumber, .ref Ma5, .int M_outs])), (Ma0, .inl ((kI K), 64, .inl M_board)), (Ma1, .inl ((kI K), 100, .inl M_text)), (Ma2, .inl ((kI K), 330, .inl M_moves)), (Ma3, .inl ((kI K), 330, .inl M_signs)), (Ma4, .inl ((kI K), 64, .inl M_newBoard)), (Ma5, .inl ((kI K), 16, .inl M_out))] sz) [(Mh, .inr (6, [.int u.1, .ref Ma0, .int M_side, .int M_rights, .int M_passant, .int M_clock, .int M_number, .ref Ma1, .int u.2.2, .int M_told, .ref Ma2, .ref Ma3, .int M_at, .ref Ma4, .int M_newSide, .int M_newRights, .int M_newPassant, .int M_newClock, .int M_newNumber, .ref Ma5, .int M_outs])), (Ma0, .inl ((kI K), 64, .inl M_board)), (Ma1, .inl ((kI K), 100, .inl u.2.1)), (Ma2, .inl ((kI K), 330, .inl M_moves)), (Ma3, .inl ((kI K), 330, .inl M_signs)), (Ma4, .inl ((kI K), 64, .inl M_newBoard)), (Ma5, .inl ((kI K), 16, .inl M_out))]) (va_A [(Mh, .inr (6, [.int M_thrown, .ref Ma0, .int M_side, .int M_rights, .int M_passant, .int M_clock, .int M_number, .ref Ma1, .int M_size, .int M_told, .ref Ma2, .ref Ma3, .int M_at, .ref Ma4, .int M_newSide, .int M_newRights, .int M_newPassant, .int M_newClock, .int M_newNumber, .ref Ma5, .int M_outs])), (Ma0, .inl ((kI K), 64, .inl M_board)), (Ma1, .inl ((kI K), 100, .inl M_text)), (Ma2, .inl ((kI K), 330, .inl M_moves)), (Ma3, .inl ((kI K), 330, .inl M_signs)), (Ma4, .inl ((kI K), 64, .inl M_newBoard)), (Ma5, .inl ((kI K), 16, .inl M_out))] sz)) 0 0 (va_A [(Mh, .inr (6, [.int M_thrown, .ref Ma0, .int M_side, .int M_rights, .int M_passant, .int M_clock, .int M_number, .ref Ma1, .int M_size, .int M_told, .ref Ma2, .ref Ma3, .int M_at, .ref Ma4, .int M_newSide, .int M_newRights, .int M_newPassant, .int M_newClock, .int M_newNumber, .ref Ma5, .int M_outs])), (Ma0, .inl ((kI K), 64, .inl M_board)), (Ma1, .inl ((kI K), 100, .inl M_text)), (Ma2, .inl ((kI K), 330, .inl M_moves)), (Ma3, .inl ((kI K), 330, .inl M_signs)), (Ma4, .inl ((kI K), 64, .inl M_newBoard)), (Ma5, .inl ((kI K), 16, .inl M_out))] sz) := by
  refine Met.ofW (cc := b_md_type) (maxL := 6) (ret := (some .boolean)) (by decide) rfl ?_
  intro p e s m args below meth c s₁ B hml hv
  obtain ⟨rfl, ⟨hsz, hP, hK, hD0, hG⟩, h_s0, h_s, -⟩ := hv
  have hx := B.exec
  have hb := B.bytes
  have hr := B.returns
  have hts := atoms_spec (ws := w_md_type) B.pre
  have hown : s.vm.findClass R_md = some m.cls := findClass_of_methodNamed B.named
  have hlocks := B.notSynchronized
  have htg := fun w h => hts w (List.mem_cons_of_mem _ h)
  subst hsz
  have hD := hD0.self (sz := s.heap.size)
  generalize hAe : va_A [(Mh, .inr (6, [.int M_thrown, .ref Ma0, .int M_side, .int M_rights, .int M_passant, .int M_clock, .int M_number, .ref Ma1, .int M_size, .int M_told, .ref Ma2, .ref Ma3, .int M_at, .ref Ma4, .int M_newSide, .int M_newRights, .int M_newPassant, .int M_newClock, .int M_newNumber, .ref Ma5, .int M_outs])), (Ma0, .inl ((kI K), 64, .inl M_board)), (Ma1, .inl ((kI K), 100, .inl M_text)), (Ma2, .inl ((kI K), 330, .inl M_moves)), (Ma3, .inl ((kI K), 330, .inl M_signs)), (Ma4, .inl ((kI K), 64, .inl M_newBoard)), (Ma5, .inl ((kI K), 16, .inl M_out))] s.heap.size = A at hD hG ⊢
  have hA : ∀ q : Nat, s.heap.size ≤ q → A q := fun q h => by rw [← hAe]; exact Or.inr h
  have hS : va_S A s.heap s.heap [] := va_S.rf
  have hl := lv_entry ([.ref Mh, .long part]) (n := 6) (Nat.le_of_ble_eq_true rfl)
  rw [lg_entry_eq]
  generalize (lg_sl ([.ref Mh, .long part]) ++ List.replicate (6 - (lg_sl ([.ref Mh, .long part])).length) Slot.unset).toArray = ls at hl ⊢
  have hl : lv_has ls 6 [(0, .ref Mh), (1, .long part)] := hl
  have z0 : (0 : Int32).toInt = 0 := by decide
  have z1 : (1 : Int32).toInt = 1 := by decide
  have zm1 : (-1 : Int32).toInt = -1 := by decide
  have z2 : (2 : Int32).toInt = 2 := by decide
  have z3 : (3 : Int32).toInt = 3 := by decide
  have z7 : (7 : Int32).toInt = 7 := by decide
  have z8 : (8 : Int32).toInt = 8 := by decide
  have z16 : (16 : Int32).toInt = 16 := by decide
  have z64 : (64 : Int32).toInt = 64 := by decide
  have z100 : (100 : Int32).toInt = 100 := by decide
  have z330 : (330 : Int32).toInt = 330 := by decide
  have hF := f_md_type.eq_1 M_text M_size part
  refine lv_aload_n hx hb d_md_type_0 rfl (lv_at hl 0 rfl) ?_
  refine lv_iconst (v := 0) hx hb d_md_type_1 (by decide) ?_
  refine va_put (D := kD K) (ci := 6) (v := .int (0 : Int32)) (ty := .int) (C := R_md) (T := T_md) (N := 21) hx hb htg in_md ty_md ty_md_ok nm_md hown hK hP hD hS 0 rfl rfl 0 (by decide) (htg (.fieldLink R_md 35 "GameNotationModel" "thrown" "I") q_794) (fun _ h9 => h9) rfl (by decide +kernel) rfl rfl (Nat.le_of_ble_eq_true rfl) d_md_type_2 (fun H locs hP hD hS => ?_)
  have hP : va_P (kD K) vwCl [(Mh, .inr (6, [.int (0 : Int32), .ref Ma0, .int M_side, .int M_rights, .int M_passant, .int M_clock, .int M_number, .ref Ma1, .int M_size, .int M_told, .ref Ma2, .ref Ma3, .int M_at, .ref Ma4, .int M_newSide, .int M_newRights, .int M_newPassant, .int M_newClock, .int M_newNumber, .ref Ma5, .int M_outs])), (Ma0, .inl ((kI K), 64, .inl M_board)), (Ma1, .inl ((kI K), 100, .inl M_text)), (Ma2, .inl ((kI K), 330, .inl M_moves)), (Ma3, .inl ((kI K), 330, .inl M_signs)), (Ma4, .inl ((kI K), 64, .inl M_newBoard)), (Ma5, .inl ((kI K), 16, .inl M_out))] _ := hP
  have hD : va_D A [(Mh, .inr (6, [.int (0 : Int32), .ref Ma0, .int M_side, .int M_rights, .int M_passant, .int M_clock, .int M_number, .ref Ma1, .int M_size, .int M_told, .ref Ma2, .ref Ma3, .int M_at, .ref Ma4, .int M_newSide, .int M_newRights, .int M_newPassant, .int M_newClock, .int M_newNumber, .ref Ma5, .int M_outs])), (Ma0, .inl ((kI K), 64, .inl M_board)), (Ma1, .inl ((kI K), 100, .inl M_text)), (Ma2, .inl ((kI K), 330, .inl M_moves)), (Ma3, .inl ((kI K), 330, .inl M_signs)), (Ma4, .inl ((kI K), 64, .inl M_newBoard)), (Ma5, .inl ((kI K), 16, .inl M_out))] := hD
  refine lv_aload_n hx hb d_md_type_5 rfl (lv_at hl 0 rfl) ?_
  refine va_get (D := kD K) (ci := 6) (v := .int M_size) (C := R_md) (T := T_md) (N := 21) hx hb htg in_md hown hK hP 0 rfl rfl 8 (by decide) (htg (.fieldLink R_md 38 "GameNotationModel" "size" "I") q_802) (fun _ h9 => h9) rfl d_md_type_6 ?_
  refine lv_istore_n (lv' := [(3, .int M_size), (0, .ref Mh), (1, .long part)]) hx hb d_md_type_9 rfl hl (by decide) rfl (fun ls hl => ?_)
  refine lv_bipush (v := 7) hx hb d_md_type_10 (by decide) ?_
  refine lv_istore (lv' := [(4, .int (7 : Int32)), (3, .int M_size), (0, .ref Mh), (1, .long part)]) hx hb d_md_type_12 hl (by decide) rfl (fun ls hl => ?_)
  have loop14 : ∀ (n14 : Nat) (v3 : Int32) (v4 : Int32) (M_thrownw : Int32) (M_textw : (Nat → Int32)) (M_sizew : Int32) (H : Heap) (locs : List Loc) (ls : Array Slot), v4.toInt ≤ 7 → 0 ≤ v3.toInt ∧ v3.toInt ≤ 100 → (v4.toInt + 1).toNat < n14 → va_P (kD K) vwCl [(Mh, .inr (6, [.int M_thrownw, .ref Ma0, .int M_side, .int M_rights, .int M_passant, .int M_clock, .int M_number, .ref Ma1, .int M_sizew, .int M_told, .ref Ma2, .ref Ma3, .int M_at, .ref Ma4, .int M_newSide, .int M_newRights, .int M_newPassant, .int M_newClock, .int M_newNumber, .ref Ma5, .int M_outs])), (Ma0, .inl ((kI K), 64, .inl M_board)), (Ma1, .inl ((kI K), 100, .inl M_textw)), (Ma2, .inl ((kI K), 330, .inl M_moves)), (Ma3, .inl ((kI K), 330, .inl M_signs)), (Ma4, .inl ((kI K), 64, .inl M_newBoard)), (Ma5, .inl ((kI K), 16, .inl M_out))] H → va_D A [(Mh, .inr (6, [.int M_thrownw, .ref Ma0, .int M_side, .int M_rights, .int M_passant, .int M_clock, .int M_number, .ref Ma1, .int M_sizew, .int M_told, .ref Ma2, .ref Ma3, .int M_at, .ref Ma4, .int M_newSide, .int M_newRights, .int M_newPassant, .int M_newClock, .int M_newNumber, .ref Ma5, .int M_outs])), (Ma0, .inl ((kI K), 64, .inl M_board)), (Ma1, .inl ((kI K), 100, .inl M_textw)), (Ma2, .inl ((kI K), 330, .inl M_moves)), (Ma3, .inl ((kI K), 330, .inl M_signs)), (Ma4, .inl ((kI K), 64, .inl M_newBoard)), (Ma5, .inl ((kI K), 16, .inl M_out))] → va_S A s.heap H locs → lv_has ls 6 [(0, .ref Mh), (1, .long part), (3, .int v3), (4, .int v4)] → f_md_type M_text M_size part = f_md_type_L14 part  n14 v3 v4 M_thrownw M_textw M_sizew → W p l e (headSpec w_md_type ({ frames := 0, cells := 0, slots := 0, locals := 0 } : Room)).room s m ([(.ref Mh : Value), .long part].toArray) below meth c H locs 0 0 (MQ below (va_Qi (fun (r : Int32) (u : Int32 × (Nat → Int32) × Int32) => f_md_type M_text M_size part = (r, u) ∧ narrow .boolean (.int r) = .int r ∧ True) (fun (u : Int32 × (Nat → Int32) × Int32) (t : State) => va_P (kD K) vwCl [(Mh, .inr (6, [.int u.1, .ref Ma0, .int M_side, .int M_rights, .int M_passant, .int M_clock, .int M_number, .ref Ma1, .int u.2.2, .int M_told, .ref Ma2, .ref Ma3, .int M_at, .ref Ma4, .int M_newSide, .int M_newRights, .int M_newPassant, .int M_newClock, .int M_newNumber, .ref Ma5, .int M_outs])), (Ma0, .inl ((kI K), 64, .inl M_board)), (Ma1, .inl ((kI K), 100, .inl u.2.1)), (Ma2, .inl ((kI K), 330, .inl M_moves)), (Ma3, .inl ((kI K), 330, .inl M_signs)), (Ma4, .inl ((kI K), 64, .inl M_newBoard)), (Ma5, .inl ((kI K), 16, .inl M_out))] t.heap ∧ va_D (A) [(Mh, .inr (6, [.int u.1, .ref Ma0, .int M_side, .int M_rights, .int M_passant, .int M_clock, .int M_number, .ref Ma1, .int u.2.2, .int M_told, .ref Ma2, .ref Ma3, .int M_at, .ref Ma4, .int M_newSide, .int M_newRights, .int M_newPassant, .int M_newClock, .int M_newNumber, .ref Ma5, .int M_outs])), (Ma0, .inl ((kI K), 64, .inl M_board)), (Ma1, .inl ((kI K), 100, .inl u.2.1)), (Ma2, .inl ((kI K), 330, .inl M_moves)), (Ma3, .inl ((kI K), 330, .inl M_signs)), (Ma4, .inl ((kI K), 64, .inl M_newBoard)), (Ma5, .inl ((kI K), 16, .inl M_out))]) (A)) ([(.ref Mh : Value), .long part].toArray) s 0 0 (A)) (F0 m 14 ls []) := by
    intro n14
    induction n14 with
    | zero =>
      intro _ _ _ _ _ _ _ _ _ _ hz
      exact absurd hz (Nat.not_lt_zero _)
    | succ n14 ih14 =>
      intro v3 v4 M_thrownw M_textw M_sizew H locs ls i0 i1 hm hP hD hS hl hF
      rw [f_md_type_L14] at hF
      refine lv_iload hx hb d_md_type_14 (lv_at hl 3 rfl) ?_
      refine lv_if_lt (tgt := 77) hx hb d_md_type_16 (by decide) (fun c_1 => ?_) (fun c_1 => ?_)
      · have hF := hF.trans (if_pos c_1)
        refine lv_aload_n hx hb d_md_type_77 rfl (lv_at hl 0 rfl) ?_
        refine lv_iload_n hx hb d_md_type_78 rfl (lv_at hl 2 rfl) ?_
        refine va_put (D := kD K) (ci := 6) (v := .int v3) (ty := .int) (C := R_md) (T := T_md) (N := 21) hx hb htg in_md ty_md ty_md_ok nm_md hown hK hP hD hS 0 rfl rfl 8 (by decide) (htg (.fieldLink R_md 38 "GameNotationModel" "size" "I") q_802) (fun _ h9 => h9) rfl (by decide +kernel) rfl rfl (Nat.le_of_ble_eq_true rfl) d_md_type_79 (fun H locs hP hD hS => ?_)
        have hP : va_P (kD K) vwCl [(Mh, .inr (6, [.int M_thrownw, .ref Ma0, .int M_side, .int M_rights, .int M_passant, .int M_clock, .int M_number, .ref Ma1, .int v3, .int M_told, .ref Ma2, .ref Ma3, .int M_at, .ref Ma4, .int M_newSide, .int M_newRights, .int M_newPassant, .int M_newClock, .int M_newNumber, .ref Ma5, .int M_outs])), (Ma0, .inl ((kI K), 64, .inl M_board)), (Ma1, .inl ((kI K), 100, .inl M_textw)), (Ma2, .inl ((kI K), 330, .inl M_moves)), (Ma3, .inl ((kI K), 330, .inl M_signs)), (Ma4, .inl ((kI K), 64, .inl M_newBoard)), (Ma5, .inl ((kI K), 16, .inl M_out))] _ := hP
        have hD : va_D A [(Mh, .inr (6, [.int M_thrownw, .ref Ma0, .int M_side, .int M_rights, .int M_passant, .int M_clock, .int M_number, .ref Ma1, .int v3, .int M_told, .ref Ma2, .ref Ma3, .int M_at, .ref Ma4, .int M_newSide, .int M_newRights, .int M_newPassant, .int M_newClock, .int M_newNumber, .ref Ma5, .int M_outs])), (Ma0, .inl ((kI K), 64, .inl M_board)), (Ma1, .inl ((kI K), 100, .inl M_textw)), (Ma2, .inl ((kI K), 330, .inl M_moves)), (Ma3, .inl ((kI K), 330, .inl M_signs)), (Ma4, .inl ((kI K), 64, .inl M_newBoard)), (Ma5, .inl ((kI K), 16, .inl M_out))] := hD
        refine lv_iconst (v := 1) hx hb d_md_type_82 (by decide) ?_
        exact W.zret (v := (1 : Int32)) hx hb hr (rfl) (fun t ht hW => ⟨⟨(1 : Int32), (M_thrownw, M_textw, v3), rfl, ⟨hF, rfl, trivial⟩, ⟨by rw [ht]; exact hP, hD⟩⟩, hS.F ht⟩) hS.2.2 d_md_type_83
      · have hF := hF.trans (if_neg c_1)
        refine lv_lload_n hx hb d_md_type_19 rfl (lv_at hl 1 rfl) ?_
        refine lv_bipush (v := 8) hx hb d_md_type_20 (by decide) ?_
        refine lv_iload hx hb d_md_type_22 (lv_at hl 3 rfl) ?_
        refine lv_imul hx hb d_md_type_24 ?_
        refine lv_lshr (v := part >>> (((8 : Int32) * v4).toInt64 &&& 63)) hx hb d_md_type_25 rfl ?_
        refine lv_ldc2 (v := (255 : Int64)) hx hb hown (htg _ q_866) d_md_type_26 ?_
        refine lv_land hx hb d_md_type_29 ?_
        refine lv_l2i (v := ((part >>> (((8 : Int32) * v4).toInt64 &&& 63)) &&& (255 : Int64)).toInt32) hx hb d_md_type_30 rfl ?_
        refine lv_istore (lv' := [(5, .int (((part >>> (((8 : Int32) * v4).toInt64 &&& 63)) &&& (255 : Int64)).toInt32)), (0, .ref Mh), (1, .long part), (3, .int v3), (4, .int v4)]) hx hb d_md_type_31 hl (by decide) rfl (fun ls hl => ?_)
        refine lv_iload hx hb d_md_type_33 (lv_at hl 0 rfl) ?_
        refine lv_if_eq (tgt := 71) hx hb d_md_type_35 (by decide) (fun c_2 => ?_) (fun c_2 => ?_)
        · have hF := hF.trans (if_pos c_2)
          refine lv_iinc (v := v4 + (-1 : Int32)) (lv' := [(4, .int (v4 + (-1 : Int32))), (5, .int (((part >>> (((8 : Int32) * v4).toInt64 &&& 63)) &&& (255 : Int64)).toInt32)), (0, .ref Mh), (1, .long part), (3, .int v3)]) hx hb d_md_type_71 hl (k := 4) rfl rfl (by decide) rfl (fun ls hl => ?_)
          refine lv_goto (tgt := 14) hx hb d_md_type_74 (by decide) ?_
          exact ih14  v3 (v4 + (-1 : Int32)) M_thrownw M_textw M_sizew _ _ ls  (ld1_s i0 c_1) (by first | exact i1 | exact ty_s i1 c_2) (ld1_d i0 c_1 hm) hP hD hS (lv_sub hl [2, 3, 4, 0] rfl) hF
        · have hF := hF.trans (if_neg c_2)
          refine lv_iload hx hb d_md_type_38 (lv_at hl 0 rfl) ?_
          refine lv_bipush (v := 32) hx hb d_md_type_40 (by decide) ?_
          refine lv_icmp_lt (tgt := 58) hx hb d_md_type_42 (by decide) (fun c_3 => ?_) (fun c_3 => ?_)
          · have hF := hF.trans (if_pos c_3)
            refine lv_iconst (v := 0) hx hb d_md_type_58 (by decide) ?_
            exact W.zret (v := (0 : Int32)) hx hb hr (rfl) (fun t ht hW => ⟨⟨(0 : Int32), (M_thrownw, M_textw, M_sizew), rfl, ⟨hF, rfl, trivial⟩, ⟨by rw [ht]; exact hP, hD⟩⟩, hS.F ht⟩) hS.2.2 d_md_type_59
          · have hF := hF.trans (if_neg c_3)
            refine lv_iload hx hb d_md_type_45 (lv_at hl 0 rfl) ?_
            refine lv_bipush (v := 126) hx hb d_md_type_47 (by decide) ?_
            refine lv_icmp_gt (tgt := 58) hx hb d_md_type_49 (by decide) (fun c_4 => ?_) (fun c_4 => ?_)
            · have hF := hF.trans (if_pos c_4)
              refine lv_iconst (v := 0) hx hb d_md_type_58 (by decide) ?_
              exact W.zret (v := (0 : Int32)) hx hb hr (rfl) (fun t ht hW => ⟨⟨(0 : Int32), (M_thrownw, M_textw, M_sizew), rfl, ⟨hF, rfl, trivial⟩, ⟨by rw [ht]; exact hP, hD⟩⟩, hS.F ht⟩) hS.2.2 d_md_type_59
            · have hF := hF.trans (if_neg c_4)
              refine lv_iload_n hx hb d_md_type_52 rfl (lv_at hl 3 rfl) ?_
              refine lv_bipush (v := 100) hx hb d_md_type_53 (by decide) ?_
              refine lv_icmp_ne (tgt := 60) hx hb d_md_type_55 (by decide) (fun c_5 => ?_) (fun c_5 => ?_)
              · have hF := hF.trans (if_neg c_5)
                refine lv_aload_n hx hb d_md_type_60 rfl (lv_at hl 1 rfl) ?_
                refine va_get (D := kD K) (ci := 6) (v := .ref Ma1) (C := R_md) (T := T_md) (N := 21) hx hb htg in_md hown hK hP 0 rfl rfl 7 (by decide) (htg (.fieldLink R_md 20 "GameNotationModel" "text" "[I") q_801) (fun _ h9 => h9) rfl d_md_type_61 ?_
                refine lv_iload_n hx hb d_md_type_64 rfl (lv_at hl 3 rfl) ?_
                refine lv_iload hx hb d_md_type_65 (lv_at hl 0 rfl) ?_
                have h_6 : vp_in v3 100 := ty_in i1 c_5
                refine va_iast hx hb hK hP hD hS 2 0 rfl rfl h_6 d_md_type_67 (fun H locs hP hD hS => ?_)
                have hP : va_P (kD K) vwCl [(Mh, .inr (6, [.int M_thrownw, .ref Ma0, .int M_side, .int M_rights, .int M_passant, .int M_clock, .int M_number, .ref Ma1, .int M_sizew, .int M_told, .ref Ma2, .ref Ma3, .int M_at, .ref Ma4, .int M_newSide, .int M_newRights, .int M_newPassant, .int M_newClock, .int M_newNumber, .ref Ma5, .int M_outs])), (Ma0, .inl ((kI K), 64, .inl M_board)), (Ma1, .inl ((kI K), 100, .inl (upd M_textw v3.toNatClampNeg (((part >>> (((8 : Int32) * v4).toInt64 &&& 63)) &&& (255 : Int64)).toInt32)))), (Ma2, .inl ((kI K), 330, .inl M_moves)), (Ma3, .inl ((kI K), 330, .inl M_signs)), (Ma4, .inl ((kI K), 64, .inl M_newBoard)), (Ma5, .inl ((kI K), 16, .inl M_out))] _ := hP
                have hD : va_D A [(Mh, .inr (6, [.int M_thrownw, .ref Ma0, .int M_side, .int M_rights, .int M_passant, .int M_clock, .int M_number, .ref Ma1, .int M_sizew, .int M_told, .ref Ma2, .ref Ma3, .int M_at, .ref Ma4, .int M_newSide, .int M_newRights, .int M_newPassant, .int M_newClock, .int M_newNumber, .ref Ma5, .int M_outs])), (Ma0, .inl ((kI K), 64, .inl M_board)), (Ma1, .inl ((kI K), 100, .inl (upd M_textw v3.toNatClampNeg (((part >>> (((8 : Int32) * v4).toInt64 &&& 63)) &&& (255 : Int64)).toInt32)))), (Ma2, .inl ((kI K), 330, .inl M_moves)), (Ma3, .inl ((kI K), 330, .inl M_signs)), (Ma4, .inl ((kI K), 64, .inl M_newBoard)), (Ma5, .inl ((kI K), 16, .inl M_out))] := hD
                refine lv_iinc (v := v3 + (1 : Int32)) (lv' := [(3, .int (v3 + (1 : Int32))), (5, .int (((part >>> (((8 : Int32) * v4).toInt64 &&& 63)) &&& (255 : Int64)).toInt32)), (0, .ref Mh), (1, .long part), (4, .int v4)]) hx hb d_md_type_68 hl (k := 3) rfl rfl (by decide) rfl (fun ls hl => ?_)
                refine lv_iinc (v := v4 + (-1 : Int32)) (lv' := [(4, .int (v4 + (-1 : Int32))), (3, .int (v3 + (1 : Int32))), (5, .int (((part >>> (((8 : Int32) * v4).toInt64 &&& 63)) &&& (255 : Int64)).toInt32)), (0, .ref Mh), (1, .long part)]) hx hb d_md_type_71 hl (k := 4) rfl rfl (by decide) rfl (fun ls hl => ?_)
                refine lv_goto (tgt := 14) hx hb d_md_type_74 (by decide) ?_
                exact ih14  (v3 + (1 : Int32)) (v4 + (-1 : Int32)) M_thrownw (upd M_textw v3.toNatClampNeg (((part >>> (((8 : Int32) * v4).toInt64 &&& 63)) &&& (255 : Int64)).toInt32)) M_sizew _ _ ls  (ld1_s i0 c_1) (by first | exact i1 | exact ty_s i1 c_5) (ld1_d i0 c_1 hm) hP hD hS (lv_sub hl [3, 4, 1, 0] rfl) hF
              · have hF := hF.trans (if_pos c_5)
                refine lv_iconst (v := 0) hx hb d_md_type_58 (by decide) ?_
                exact W.zret (v := (0 : Int32)) hx hb hr (rfl) (fun t ht hW => ⟨⟨(0 : Int32), (M_thrownw, M_textw, M_sizew), rfl, ⟨hF, rfl, trivial⟩, ⟨by rw [ht]; exact hP, hD⟩⟩, hS.F ht⟩) hS.2.2 d_md_type_59
  exact loop14 9 M_size (7 : Int32) (0 : Int32) M_text M_size _ _ ls  (by decide) (⟨h_s0, h_s⟩) (by decide) hP hD hS (lv_sub hl [2, 3, 1, 0] rfl) hF
def f_md_wipe  : Int32 × Int32 := ((0 : Int32), (0 : Int32))
set_option maxHeartbeats 4000000 in
set_option maxRecDepth 100000 in
theorem c_md_wipe (l : Launch) (K : KT) (sz : Nat) (Mh Ma0 Ma1 Ma2 Ma3 Ma4 Ma5 : Nat) (M_board : (Nat → Int32)) (M_text : (Nat → Int32)) (M_moves : (Nat → Int32)) (M_signs : (Nat → Int32)) (M_newBoard : (Nat → Int32)) (M_out : (Nat → Int32)) (M_thrown : Int32) (M_side : Int32) (M_rights : Int32) (M_passant : Int32) (M_clock : Int32) (M_number : Int32) (M_size : Int32) (M_told : Int32) (M_at : Int32) (M_newSide : Int32) (M_newRights : Int32) (M_newPassant : Int32) (M_newClock : Int32) (M_newNumber : Int32) (M_outs : Int32) : Met l y_md_wipe w_md_wipe ({ frames := 0, cells := 0, slots := 0, locals := 0 } : Room) (va_Pc [.ref Mh] (fun U => pMU K [(Mh, .inr (6, [.int M_thrown, .ref Ma0, .int M_side, .int M_rights, .int M_passant, .int M_clock, .int M_number, .ref Ma1, .int M_size, .int M_told, .ref Ma2, .ref Ma3, .int M_at, .ref Ma4, .int M_newSide, .int M_newRights, .int M_newPassant, .int M_newClock, .int M_newNumber, .ref Ma5, .int M_outs])), (Ma0, .inl ((kI K), 64, .inl M_board)), (Ma1, .inl ((kI K), 100, .inl M_text)), (Ma2, .inl ((kI K), 330, .inl M_moves)), (Ma3, .inl ((kI K), 330, .inl M_signs)), (Ma4, .inl ((kI K), 64, .inl M_newBoard)), (Ma5, .inl ((kI K), 16, .inl M_out))] sz U ∧ True)) (va_Qv (fun u : Int32 × Int32 => f_md_wipe = u ∧ True) (fun (u : Int32 × Int32) (t : State) => va_P (kD K) vwCl [(Mh, .inr (6, [.int u.1, .ref Ma0, .int M_side, .int M_rights, .int M_passant, .int M_clock, .int M_number, .ref Ma1, .int u.2, .int M_told, .ref Ma2, .ref Ma3, .int M_at, .ref Ma4, .int M_newSide, .int M_newRights, .int M_newPassant, .int M_newClock, .int M_newNumber, .ref Ma5, .int M_outs])), (Ma0, .inl ((kI K), 64, .inl M_board)), (Ma1, .inl ((kI K), 100, .inl M_text)), (Ma2, .inl ((kI K), 330, .inl M_moves)), (Ma3, .inl ((kI K), 330, .inl M_signs)), (Ma4, .inl ((kI K), 64, .inl M_newBoard)), (Ma5, .inl ((kI K), 16, .inl M_out))] t.heap ∧ va_D (va_A [(Mh, .inr (6, [.int M_thrown, .ref Ma0, .int M_side, .int M_rights, .int M_passant, .int M_clock, .int M_number, .ref Ma1, .int M_size, .int M_told, .ref Ma2, .ref Ma3, .int M_at, .ref Ma4, .int M_newSide, .int M_newRights, .int M_newPassant, .int M_newClock, .int M_newNumber, .ref Ma5, .int M_outs])), (Ma0, .inl ((kI K), 64, .inl M_board)), (Ma1, .inl ((kI K), 100, .inl M_text)), (Ma2, .inl ((kI K), 330, .inl M_moves)), (Ma3, .inl ((kI K), 330, .inl M_signs)), (Ma4, .inl ((kI K), 64, .inl M_newBoard)), (Ma5, .inl ((kI K), 16, .inl M_out))] sz) [(Mh, .inr (6, [.int u.1, .ref Ma0, .int M_side, .int M_rights, .int M_passant, .int M_clock, .int M_number, .ref Ma1, .int u.2, .int M_told, .ref Ma2, .ref Ma3, .int M_at, .ref Ma4, .int M_newSide, .int M_newRights, .int M_newPassant, .int M_newClock, .int M_newNumber, .ref Ma5, .int M_outs])), (Ma0, .inl ((kI K), 64, .inl M_board)), (Ma1, .inl ((kI K), 100, .inl M_text)), (Ma2, .inl ((kI K), 330, .inl M_moves)), (Ma3, .inl ((kI K), 330, .inl M_signs)), (Ma4, .inl ((kI K), 64, .inl M_newBoard)), (Ma5, .inl ((kI K), 16, .inl M_out))]) (va_A [(Mh, .inr (6, [.int M_thrown, .ref Ma0, .int M_side, .int M_rights, .int M_passant, .int M_clock, .int M_number, .ref Ma1, .int M_size, .int M_told, .ref Ma2, .ref Ma3, .int M_at, .ref Ma4, .int M_newSide, .int M_newRights, .int M_newPassant, .int M_newClock, .int M_newNumber, .ref Ma5, .int M_outs])), (Ma0, .inl ((kI K), 64, .inl M_board)), (Ma1, .inl ((kI K), 100, .inl M_text)), (Ma2, .inl ((kI K), 330, .inl M_moves)), (Ma3, .inl ((kI K), 330, .inl M_signs)), (Ma4, .inl ((kI K), 64, .inl M_newBoard)), (Ma5, .inl ((kI K), 16, .inl M_out))] sz)) 0 0 (va_A [(Mh, .inr (6, [.int M_thrown, .ref Ma0, .int M_side, .int M_rights, .int M_passant, .int M_clock, .int M_number, .ref Ma1, .int M_size, .int M_told, .ref Ma2, .ref Ma3, .int M_at, .ref Ma4, .int M_newSide, .int M_newRights, .int M_newPassant, .int M_newClock, .int M_newNumber, .ref Ma5, .int M_outs])), (Ma0, .inl ((kI K), 64, .inl M_board)), (Ma1, .inl ((kI K), 100, .inl M_text)), (Ma2, .inl ((kI K), 330, .inl M_moves)), (Ma3, .inl ((kI K), 330, .inl M_signs)), (Ma4, .inl ((kI K), 64, .inl M_newBoard)), (Ma5, .inl ((kI K), 16, .inl M_out))] sz) := by
  refine Met.ofW (cc := b_md_wipe) (maxL := 1) (ret := none) (by decide) rfl ?_
  intro p e s m args below meth c s₁ B hml hv
  obtain ⟨rfl, ⟨hsz, hP, hK, hD0, hG⟩, -⟩ := hv
  have hx := B.exec
  have hb := B.bytes
  have hr := B.returns
  have hts := atoms_spec (ws := w_md_wipe) B.pre
  have hown : s.vm.findClass R_md = some m.cls := findClass_of_methodNamed B.named
  have hlocks := B.notSynchronized
  have htg := fun w h => hts w (List.mem_cons_of_mem _ h)
  subst hsz
  have hD := hD0.self (sz := s.heap.size)
  generalize hAe : va_A [(Mh, .inr (6, [.int M_thrown, .ref Ma0, .int M_side, .int M_rights, .int M_passant, .int M_clock, .int M_number, .ref Ma1, .int M_size, .int M_told, .ref Ma2, .ref Ma3, .int M_at, .ref Ma4, .int M_newSide, .int M_newRights, .int M_newPassant, .int M_newClock, .int M_newNumber, .ref Ma5, .int M_outs])), (Ma0, .inl ((kI K), 64, .inl M_board)), (Ma1, .inl ((kI K), 100, .inl M_text)), (Ma2, .inl ((kI K), 330, .inl M_moves)), (Ma3, .inl ((kI K), 330, .inl M_signs)), (Ma4, .inl ((kI K), 64, .inl M_newBoard)), (Ma5, .inl ((kI K), 16, .inl M_out))] s.heap.size = A at hD hG ⊢
  have hA : ∀ q : Nat, s.heap.size ≤ q → A q := fun q h => by rw [← hAe]; exact Or.inr h
  have hS : va_S A s.heap s.heap [] := va_S.rf
  have hl := lv_entry ([.ref Mh]) (n := 1) (Nat.le_of_ble_eq_true rfl)
  rw [lg_entry_eq]
  generalize (lg_sl ([.ref Mh]) ++ List.replicate (1 - (lg_sl ([.ref Mh])).length) Slot.unset).toArray = ls at hl ⊢
  have hl : lv_has ls 1 [(0, .ref Mh)] := hl
  have z0 : (0 : Int32).toInt = 0 := by decide
  have z1 : (1 : Int32).toInt = 1 := by decide
  have zm1 : (-1 : Int32).toInt = -1 := by decide
  have z2 : (2 : Int32).toInt = 2 := by decide
  have z3 : (3 : Int32).toInt = 3 := by decide
  have z7 : (7 : Int32).toInt = 7 := by decide
  have z8 : (8 : Int32).toInt = 8 := by decide
  have z16 : (16 : Int32).toInt = 16 := by decide
  have z64 : (64 : Int32).toInt = 64 := by decide
  have z100 : (100 : Int32).toInt = 100 := by decide
  have z330 : (330 : Int32).toInt = 330 := by decide
  have hF := f_md_wipe.eq_1 
  refine lv_aload_n hx hb d_md_wipe_0 rfl (lv_at hl 0 rfl) ?_
  refine lv_iconst (v := 0) hx hb d_md_wipe_1 (by decide) ?_
  refine va_put (D := kD K) (ci := 6) (v := .int (0 : Int32)) (ty := .int) (C := R_md) (T := T_md) (N := 21) hx hb htg in_md ty_md ty_md_ok nm_md hown hK hP hD hS 0 rfl rfl 0 (by decide) (htg (.fieldLink R_md 35 "GameNotationModel" "thrown" "I") q_794) (fun _ h9 => h9) rfl (by decide +kernel) rfl rfl (Nat.le_of_ble_eq_true rfl) d_md_wipe_2 (fun H locs hP hD hS => ?_)
  have hP : va_P (kD K) vwCl [(Mh, .inr (6, [.int (0 : Int32), .ref Ma0, .int M_side, .int M_rights, .int M_passant, .int M_clock, .int M_number, .ref Ma1, .int M_size, .int M_told, .ref Ma2, .ref Ma3, .int M_at, .ref Ma4, .int M_newSide, .int M_newRights, .int M_newPassant, .int M_newClock, .int M_newNumber, .ref Ma5, .int M_outs])), (Ma0, .inl ((kI K), 64, .inl M_board)), (Ma1, .inl ((kI K), 100, .inl M_text)), (Ma2, .inl ((kI K), 330, .inl M_moves)), (Ma3, .inl ((kI K), 330, .inl M_signs)), (Ma4, .inl ((kI K), 64, .inl M_newBoard)), (Ma5, .inl ((kI K), 16, .inl M_out))] _ := hP
  have hD : va_D A [(Mh, .inr (6, [.int (0 : Int32), .ref Ma0, .int M_side, .int M_rights, .int M_passant, .int M_clock, .int M_number, .ref Ma1, .int M_size, .int M_told, .ref Ma2, .ref Ma3, .int M_at, .ref Ma4, .int M_newSide, .int M_newRights, .int M_newPassant, .int M_newClock, .int M_newNumber, .ref Ma5, .int M_outs])), (Ma0, .inl ((kI K), 64, .inl M_board)), (Ma1, .inl ((kI K), 100, .inl M_text)), (Ma2, .inl ((kI K), 330, .inl M_moves)), (Ma3, .inl ((kI K), 330, .inl M_signs)), (Ma4, .inl ((kI K), 64, .inl M_newBoard)), (Ma5, .inl ((kI K), 16, .inl M_out))] := hD
  refine lv_aload_n hx hb d_md_wipe_5 rfl (lv_at hl 0 rfl) ?_
  refine lv_iconst (v := 0) hx hb d_md_wipe_6 (by decide) ?_
  refine va_put (D := kD K) (ci := 6) (v := .int (0 : Int32)) (ty := .int) (C := R_md) (T := T_md) (N := 21) hx hb htg in_md ty_md ty_md_ok nm_md hown hK hP hD hS 0 rfl rfl 8 (by decide) (htg (.fieldLink R_md 38 "GameNotationModel" "size" "I") q_802) (fun _ h9 => h9) rfl (by decide +kernel) rfl rfl (Nat.le_of_ble_eq_true rfl) d_md_wipe_7 (fun H locs hP hD hS => ?_)
  have hP : va_P (kD K) vwCl [(Mh, .inr (6, [.int (0 : Int32), .ref Ma0, .int M_side, .int M_rights, .int M_passant, .int M_clock, .int M_number, .ref Ma1, .int (0 : Int32), .int M_told, .ref Ma2, .ref Ma3, .int M_at, .ref Ma4, .int M_newSide, .int M_newRights, .int M_newPassant, .int M_newClock, .int M_newNumber, .ref Ma5, .int M_outs])), (Ma0, .inl ((kI K), 64, .inl M_board)), (Ma1, .inl ((kI K), 100, .inl M_text)), (Ma2, .inl ((kI K), 330, .inl M_moves)), (Ma3, .inl ((kI K), 330, .inl M_signs)), (Ma4, .inl ((kI K), 64, .inl M_newBoard)), (Ma5, .inl ((kI K), 16, .inl M_out))] _ := hP
  have hD : va_D A [(Mh, .inr (6, [.int (0 : Int32), .ref Ma0, .int M_side, .int M_rights, .int M_passant, .int M_clock, .int M_number, .ref Ma1, .int (0 : Int32), .int M_told, .ref Ma2, .ref Ma3, .int M_at, .ref Ma4, .int M_newSide, .int M_newRights, .int M_newPassant, .int M_newClock, .int M_newNumber, .ref Ma5, .int M_outs])), (Ma0, .inl ((kI K), 64, .inl M_board)), (Ma1, .inl ((kI K), 100, .inl M_text)), (Ma2, .inl ((kI K), 330, .inl M_moves)), (Ma3, .inl ((kI K), 330, .inl M_signs)), (Ma4, .inl ((kI K), 64, .inl M_newBoard)), (Ma5, .inl ((kI K), 16, .inl M_out))] := hD
  exact W.vret hx hb hr (fun t ht hW => ⟨⟨((0 : Int32), (0 : Int32)), rfl, ⟨hF, trivial⟩, ⟨by rw [ht]; exact hP, hD⟩⟩, hS.F ht⟩) hS.2.2 d_md_wipe_10
def f_md_text (M_text : (Nat → Int32)) (M_size : Int32) (ix : Int32) : Int32 × Int32 := (if ix < 0 then ((-1 : Int32), (0 : Int32)) else (if ix < M_size then (M_text ix.toNatClampNeg, (0 : Int32)) else ((-1 : Int32), (0 : Int32))))
set_option maxHeartbeats 4000000 in
set_option maxRecDepth 100000 in
theorem c_md_text (l : Launch) (K : KT) (sz : Nat) (Mh Ma0 Ma1 Ma2 Ma3 Ma4 Ma5 : Nat) (M_board : (Nat → Int32)) (M_text : (Nat → Int32)) (M_moves : (Nat → Int32)) (M_signs : (Nat → Int32)) (M_newBoard : (Nat → Int32)) (M_out : (Nat → Int32)) (M_thrown : Int32) (M_side : Int32) (M_rights : Int32) (M_passant : Int32) (M_clock : Int32) (M_number : Int32) (M_size : Int32) (M_told : Int32) (M_at : Int32) (M_newSide : Int32) (M_newRights : Int32) (M_newPassant : Int32) (M_newClock : Int32) (M_newNumber : Int32) (M_outs : Int32) (ix : Int32) : Met l y_md_text w_md_text ({ frames := 0, cells := 0, slots := 0, locals := 0 } : Room) (va_Pc [.ref Mh, .int ix] (fun U => pMU K [(Mh, .inr (6, [.int M_thrown, .ref Ma0, .int M_side, .int M_rights, .int M_passant, .int M_clock, .int M_number, .ref Ma1, .int M_size, .int M_told, .ref Ma2, .ref Ma3, .int M_at, .ref Ma4, .int M_newSide, .int M_newRights, .int M_newPassant, .int M_newClock, .int M_newNumber, .ref Ma5, .int M_outs])), (Ma0, .inl ((kI K), 64, .inl M_board)), (Ma1, .inl ((kI K), 100, .inl M_text)), (Ma2, .inl ((kI K), 330, .inl M_moves)), (Ma3, .inl ((kI K), 330, .inl M_signs)), (Ma4, .inl ((kI K), 64, .inl M_newBoard)), (Ma5, .inl ((kI K), 16, .inl M_out))] sz U ∧ M_size.toInt ≤ 100 ∧ True)) (va_Qi (fun (r : Int32) (u : Int32) => f_md_text M_text M_size ix = (r, u) ∧ True) (fun (u : Int32) (t : State) => va_P (kD K) vwCl [(Mh, .inr (6, [.int u, .ref Ma0, .int M_side, .int M_rights, .int M_passant, .int M_clock, .int M_number, .ref Ma1, .int M_size, .int M_told, .ref Ma2, .ref Ma3, .int M_at, .ref Ma4, .int M_newSide, .int M_newRights, .int M_newPassant, .int M_newClock, .int M_newNumber, .ref Ma5, .int M_outs])), (Ma0, .inl ((kI K), 64, .inl M_board)), (Ma1, .inl ((kI K), 100, .inl M_text)), (Ma2, .inl ((kI K), 330, .inl M_moves)), (Ma3, .inl ((kI K), 330, .inl M_signs)), (Ma4, .inl ((kI K), 64, .inl M_newBoard)), (Ma5, .inl ((kI K), 16, .inl M_out))] t.heap ∧ va_D (va_A [(Mh, .inr (6, [.int M_thrown, .ref Ma0, .int M_side, .int M_rights, .int M_passant, .int M_clock, .int M_number, .ref Ma1, .int M_size, .int M_told, .ref Ma2, .ref Ma3, .int M_at, .ref Ma4, .int M_newSide, .int M_newRights, .int M_newPassant, .int M_newClock, .int M_newNumber, .ref Ma5, .int M_outs])), (Ma0, .inl ((kI K), 64, .inl M_board)), (Ma1, .inl ((kI K), 100, .inl M_text)), (Ma2, .inl ((kI K), 330, .inl M_moves)), (Ma3, .inl ((kI K), 330, .inl M_signs)), (Ma4, .inl ((kI K), 64, .inl M_newBoard)), (Ma5, .inl ((kI K), 16, .inl M_out))] sz) [(Mh, .inr (6, [.int u, .ref Ma0, .int M_side, .int M_rights, .int M_passant, .int M_clock, .int M_number, .ref Ma1, .int M_size, .int M_told, .ref Ma2, .ref Ma3, .int M_at, .ref Ma4, .int M_newSide, .int M_newRights, .int M_newPassant, .int M_newClock, .int M_newNumber, .ref Ma5, .int M_outs])), (Ma0, .inl ((kI K), 64, .inl M_board)), (Ma1, .inl ((kI K), 100, .inl M_text)), (Ma2, .inl ((kI K), 330, .inl M_moves)), (Ma3, .inl ((kI K), 330, .inl M_signs)), (Ma4, .inl ((kI K), 64, .inl M_newBoard)), (Ma5, .inl ((kI K), 16, .inl M_out))]) (va_A [(Mh, .inr (6, [.int M_thrown, .ref Ma0, .int M_side, .int M_rights, .int M_passant, .int M_clock, .int M_number, .ref Ma1, .int M_size, .int M_told, .ref Ma2, .ref Ma3, .int M_at, .ref Ma4, .int M_newSide, .int M_newRights, .int M_newPassant, .int M_newClock, .int M_newNumber, .ref Ma5, .int M_outs])), (Ma0, .inl ((kI K), 64, .inl M_board)), (Ma1, .inl ((kI K), 100, .inl M_text)), (Ma2, .inl ((kI K), 330, .inl M_moves)), (Ma3, .inl ((kI K), 330, .inl M_signs)), (Ma4, .inl ((kI K), 64, .inl M_newBoard)), (Ma5, .inl ((kI K), 16, .inl M_out))] sz)) 0 0 (va_A [(Mh, .inr (6, [.int M_thrown, .ref Ma0, .int M_side, .int M_rights, .int M_passant, .int M_clock, .int M_number, .ref Ma1, .int M_size, .int M_told, .ref Ma2, .ref Ma3, .int M_at, .ref Ma4, .int M_newSide, .int M_newRights, .int M_newPassant, .int M_newClock, .int M_newNumber, .ref Ma5, .int M_outs])), (Ma0, .inl ((kI K), 64, .inl M_board)), (Ma1, .inl ((kI K), 100, .inl M_text)), (Ma2, .inl ((kI K), 330, .inl M_moves)), (Ma3, .inl ((kI K), 330, .inl M_signs)), (Ma4, .inl ((kI K), 64, .inl M_newBoard)), (Ma5, .inl ((kI K), 16, .inl M_out))] sz) := by
  refine Met.ofW (cc := b_md_text) (maxL := 2) (ret := (some .int)) (by decide) rfl ?_
  intro p e s m args below meth c s₁ B hml hv
  obtain ⟨rfl, ⟨hsz, hP, hK, hD0, hG⟩, h_s, -⟩ := hv
  have hx := B.exec
  have hb := B.bytes
  have hr := B.returns
  have hts := atoms_spec (ws := w_md_text) B.pre
  have hown : s.vm.findClass R_md = some m.cls := findClass_of_methodNamed B.named
  have hlocks := B.notSynchronized
  have htg := fun w h => hts w (List.mem_cons_of_mem _ h)
  subst hsz
  have hD := hD0.self (sz := s.heap.size)
  generalize hAe : va_A [(Mh, .inr (6, [.int M_thrown, .ref Ma0, .int M_side, .int M_rights, .int M_passant, .int M_clock, .int M_number, .ref Ma1, .int M_size, .int M_told, .ref Ma2, .ref Ma3, .int M_at, .ref Ma4, .int M_newSide, .int M_newRights, .int M_newPassant, .int M_newClock, .int M_newNumber, .ref Ma5, .int M_outs])), (Ma0, .inl ((kI K), 64, .inl M_board)), (Ma1, .inl ((kI K), 100, .inl M_text)), (Ma2, .inl ((kI K), 330, .inl M_moves)), (Ma3, .inl ((kI K), 330, .inl M_signs)), (Ma4, .inl ((kI K), 64, .inl M_newBoard)), (Ma5, .inl ((kI K), 16, .inl M_out))] s.heap.size = A at hD hG ⊢
  have hA : ∀ q : Nat, s.heap.size ≤ q → A q := fun q h => by rw [← hAe]; exact Or.inr h
  have hS : va_S A s.heap s.heap [] := va_S.rf
  have hl := lv_entry ([.ref Mh, .int ix]) (n := 2) (Nat.le_of_ble_eq_true rfl)
  rw [lg_entry_eq]
  generalize (lg_sl ([.ref Mh, .int ix]) ++ List.replicate (2 - (lg_sl ([.ref Mh, .int ix])).length) Slot.unset).toArray = ls at hl ⊢
  have hl : lv_has ls 2 [(0, .ref Mh), (1, .int ix)] := hl
  have z0 : (0 : Int32).toInt = 0 := by decide
  have z1 : (1 : Int32).toInt = 1 := by decide
  have zm1 : (-1 : Int32).toInt = -1 := by decide
  have z2 : (2 : Int32).toInt = 2 := by decide
  have z3 : (3 : Int32).toInt = 3 := by decide
  have z7 : (7 : Int32).toInt = 7 := by decide
  have z8 : (8 : Int32).toInt = 8 := by decide
  have z16 : (16 : Int32).toInt = 16 := by decide
  have z64 : (64 : Int32).toInt = 64 := by decide
  have z100 : (100 : Int32).toInt = 100 := by decide
  have z330 : (330 : Int32).toInt = 330 := by decide
  have hF := f_md_text.eq_1 M_text M_size ix
  refine lv_aload_n hx hb d_md_text_0 rfl (lv_at hl 0 rfl) ?_
  refine lv_iconst (v := 0) hx hb d_md_text_1 (by decide) ?_
  refine va_put (D := kD K) (ci := 6) (v := .int (0 : Int32)) (ty := .int) (C := R_md) (T := T_md) (N := 21) hx hb htg in_md ty_md ty_md_ok nm_md hown hK hP hD hS 0 rfl rfl 0 (by decide) (htg (.fieldLink R_md 35 "GameNotationModel" "thrown" "I") q_794) (fun _ h9 => h9) rfl (by decide +kernel) rfl rfl (Nat.le_of_ble_eq_true rfl) d_md_text_2 (fun H locs hP hD hS => ?_)
  have hP : va_P (kD K) vwCl [(Mh, .inr (6, [.int (0 : Int32), .ref Ma0, .int M_side, .int M_rights, .int M_passant, .int M_clock, .int M_number, .ref Ma1, .int M_size, .int M_told, .ref Ma2, .ref Ma3, .int M_at, .ref Ma4, .int M_newSide, .int M_newRights, .int M_newPassant, .int M_newClock, .int M_newNumber, .ref Ma5, .int M_outs])), (Ma0, .inl ((kI K), 64, .inl M_board)), (Ma1, .inl ((kI K), 100, .inl M_text)), (Ma2, .inl ((kI K), 330, .inl M_moves)), (Ma3, .inl ((kI K), 330, .inl M_signs)), (Ma4, .inl ((kI K), 64, .inl M_newBoard)), (Ma5, .inl ((kI K), 16, .inl M_out))] _ := hP
  have hD : va_D A [(Mh, .inr (6, [.int (0 : Int32), .ref Ma0, .int M_side, .int M_rights, .int M_passant, .int M_clock, .int M_number, .ref Ma1, .int M_size, .int M_told, .ref Ma2, .ref Ma3, .int M_at, .ref Ma4, .int M_newSide, .int M_newRights, .int M_newPassant, .int M_newClock, .int M_newNumber, .ref Ma5, .int M_outs])), (Ma0, .inl ((kI K), 64, .inl M_board)), (Ma1, .inl ((kI K), 100, .inl M_text)), (Ma2, .inl ((kI K), 330, .inl M_moves)), (Ma3, .inl ((kI K), 330, .inl M_signs)), (Ma4, .inl ((kI K), 64, .inl M_newBoard)), (Ma5, .inl ((kI K), 16, .inl M_out))] := hD
  refine lv_iload_n hx hb d_md_text_5 rfl (lv_at hl 1 rfl) ?_
  refine lv_if_lt (tgt := 17) hx hb d_md_text_6 (by decide) (fun c_1 => ?_) (fun c_1 => ?_)
  · have hF := hF.trans (if_pos c_1)
    refine lv_iconst (v := -1) hx hb d_md_text_17 (by decide) ?_
    refine lv_goto (tgt := 27) hx hb d_md_text_18 (by decide) ?_
    exact W.iret (v := (-1 : Int32)) hx hb hr (fun t ht hW => ⟨⟨(-1 : Int32), (0 : Int32), rfl, ⟨hF, trivial⟩, ⟨by rw [ht]; exact hP, hD⟩⟩, hS.F ht⟩) hS.2.2 d_md_text_27
  · have hF := hF.trans (if_neg c_1)
    refine lv_iload_n hx hb d_md_text_9 rfl (lv_at hl 1 rfl) ?_
    refine lv_aload_n hx hb d_md_text_10 rfl (lv_at hl 0 rfl) ?_
    refine va_get (D := kD K) (ci := 6) (v := .int M_size) (C := R_md) (T := T_md) (N := 21) hx hb htg in_md hown hK hP 0 rfl rfl 8 (by decide) (htg (.fieldLink R_md 38 "GameNotationModel" "size" "I") q_802) (fun _ h9 => h9) rfl d_md_text_11 ?_
    refine lv_icmp_lt (tgt := 21) hx hb d_md_text_14 (by decide) (fun c_2 => ?_) (fun c_2 => ?_)
    · have hF := hF.trans (if_pos c_2)
      refine lv_aload_n hx hb d_md_text_21 rfl (lv_at hl 0 rfl) ?_
      refine va_get (D := kD K) (ci := 6) (v := .ref Ma1) (C := R_md) (T := T_md) (N := 21) hx hb htg in_md hown hK hP 0 rfl rfl 7 (by decide) (htg (.fieldLink R_md 20 "GameNotationModel" "text" "[I") q_801) (fun _ h9 => h9) rfl d_md_text_22 ?_
      refine lv_iload_n hx hb d_md_text_25 rfl (lv_at hl 1 rfl) ?_
      have h_3 : vp_in ix 100 := tx_in2 h_s c_1 c_2
      refine va_iald hx hb hK hP 2 0 rfl rfl h_3 d_md_text_26 ?_
      exact W.iret (v := M_text ix.toNatClampNeg) hx hb hr (fun t ht hW => ⟨⟨M_text ix.toNatClampNeg, (0 : Int32), rfl, ⟨hF, trivial⟩, ⟨by rw [ht]; exact hP, hD⟩⟩, hS.F ht⟩) hS.2.2 d_md_text_27
    · have hF := hF.trans (if_neg c_2)
      refine lv_iconst (v := -1) hx hb d_md_text_17 (by decide) ?_
      refine lv_goto (tgt := 27) hx hb d_md_text_18 (by decide) ?_
      exact W.iret (v := (-1 : Int32)) hx hb hr (fun t ht hW => ⟨⟨(-1 : Int32), (0 : Int32), rfl, ⟨hF, trivial⟩, ⟨by rw [ht]; exact hP, hD⟩⟩, hS.F ht⟩) hS.2.2 d_md_text_27
def f_md_peek (M_text : (Nat → Int32)) (M_size : Int32) (M_at : Int32) : Int32 := (if M_size ≤ M_at then (0 : Int32) else (M_text M_at.toNatClampNeg))
set_option maxHeartbeats 4000000 in
set_option maxRecDepth 100000 in
theorem c_md_peek (l : Launch) (K : KT) (Mh Ma0 Ma1 Ma2 Ma3 Ma4 Ma5 : Nat) (M_board : (Nat → Int32)) (M_text : (Nat → Int32)) (M_moves : (Nat → Int32)) (M_signs : (Nat → Int32)) (M_newBoard : (Nat → Int32)) (M_out : (Nat → Int32)) (M_thrown : Int32) (M_side : Int32) (M_rights : Int32) (M_passant : Int32) (M_clock : Int32) (M_number : Int32) (M_size : Int32) (M_told : Int32) (M_at : Int32) (M_newSide : Int32) (M_newRights : Int32) (M_newPassant : Int32) (M_newClock : Int32) (M_newNumber : Int32) (M_outs : Int32) : Met l y_md_peek w_md_peek ({ frames := 0, cells := 0, slots := 0, locals := 0 } : Room) (va_Pc [.ref Mh] (fun U => pRO K [(Mh, .inr (6, [.int M_thrown, .ref Ma0, .int M_side, .int M_rights, .int M_passant, .int M_clock, .int M_number, .ref Ma1, .int M_size, .int M_told, .ref Ma2, .ref Ma3, .int M_at, .ref Ma4, .int M_newSide, .int M_newRights, .int M_newPassant, .int M_newClock, .int M_newNumber, .ref Ma5, .int M_outs])), (Ma0, .inl ((kI K), 64, .inl M_board)), (Ma1, .inl ((kI K), 100, .inl M_text)), (Ma2, .inl ((kI K), 330, .inl M_moves)), (Ma3, .inl ((kI K), 330, .inl M_signs)), (Ma4, .inl ((kI K), 64, .inl M_newBoard)), (Ma5, .inl ((kI K), 16, .inl M_out))] U ∧ 0 ≤ M_at.toInt ∧ M_size.toInt ≤ 100 ∧ True)) (vp_Si (fun r => f_md_peek M_text M_size M_at = r ∧ (r = 0 ∨ M_at.toInt < M_size.toInt) ∧ True)) 0 0 (fun _ => False) := by
  refine Met.ofW (cc := b_md_peek) (maxL := 1) (ret := (some .int)) (by decide) rfl ?_
  intro p e s m args below meth c s₁ B hml hv
  obtain ⟨rfl, ⟨hP, hK, hG⟩, h_a, h_s, -⟩ := hv
  have hx := B.exec
  have hb := B.bytes
  have hr := B.returns
  have hts := atoms_spec (ws := w_md_peek) B.pre
  have hown : s.vm.findClass R_md = some m.cls := findClass_of_methodNamed B.named
  have hlocks := B.notSynchronized
  have htg := fun w h => hts w (List.mem_cons_of_mem _ h)
  have hS : va_S (fun _ => False) s.heap s.heap [] := va_S.rf
  have hl := lv_entry ([.ref Mh]) (n := 1) (Nat.le_of_ble_eq_true rfl)
  rw [lg_entry_eq]
  generalize (lg_sl ([.ref Mh]) ++ List.replicate (1 - (lg_sl ([.ref Mh])).length) Slot.unset).toArray = ls at hl ⊢
  have hl : lv_has ls 1 [(0, .ref Mh)] := hl
  have z0 : (0 : Int32).toInt = 0 := by decide
  have z1 : (1 : Int32).toInt = 1 := by decide
  have zm1 : (-1 : Int32).toInt = -1 := by decide
  have z2 : (2 : Int32).toInt = 2 := by decide
  have z3 : (3 : Int32).toInt = 3 := by decide
  have z7 : (7 : Int32).toInt = 7 := by decide
  have z8 : (8 : Int32).toInt = 8 := by decide
  have z16 : (16 : Int32).toInt = 16 := by decide
  have z64 : (64 : Int32).toInt = 64 := by decide
  have z100 : (100 : Int32).toInt = 100 := by decide
  have z330 : (330 : Int32).toInt = 330 := by decide
  have hF := f_md_peek.eq_1 M_text M_size M_at
  refine lv_aload_n hx hb d_md_peek_0 rfl (lv_at hl 0 rfl) ?_
  refine va_get (D := kD K) (ci := 6) (v := .int M_at) (C := R_md) (T := T_md) (N := 21) hx hb htg in_md hown hK hP 0 rfl rfl 12 (by decide) (htg (.fieldLink R_md 43 "GameNotationModel" "at" "I") q_806) (fun _ h9 => h9) rfl d_md_peek_1 ?_
  refine lv_aload_n hx hb d_md_peek_4 rfl (lv_at hl 0 rfl) ?_
  refine va_get (D := kD K) (ci := 6) (v := .int M_size) (C := R_md) (T := T_md) (N := 21) hx hb htg in_md hown hK hP 0 rfl rfl 8 (by decide) (htg (.fieldLink R_md 38 "GameNotationModel" "size" "I") q_802) (fun _ h9 => h9) rfl d_md_peek_5 ?_
  refine lv_icmp_ge (tgt := 23) hx hb d_md_peek_8 (by decide) (fun c_1 => ?_) (fun c_1 => ?_)
  · have hF := hF.trans (if_pos c_1)
    refine lv_iconst (v := 0) hx hb d_md_peek_23 (by decide) ?_
    exact W.iret (v := (0 : Int32)) hx hb hr (fun t ht hW => ⟨_, rfl, ⟨hF, (by first | exact Or.inl rfl | exact Or.inr (i_nle c_1)), trivial⟩, ht⟩) hS.2.2 d_md_peek_24
  · have hF := hF.trans (if_neg c_1)
    refine lv_aload_n hx hb d_md_peek_11 rfl (lv_at hl 0 rfl) ?_
    refine va_get (D := kD K) (ci := 6) (v := .ref Ma1) (C := R_md) (T := T_md) (N := 21) hx hb htg in_md hown hK hP 0 rfl rfl 7 (by decide) (htg (.fieldLink R_md 20 "GameNotationModel" "text" "[I") q_801) (fun _ h9 => h9) rfl d_md_peek_12 ?_
    refine lv_aload_n hx hb d_md_peek_15 rfl (lv_at hl 0 rfl) ?_
    refine va_get (D := kD K) (ci := 6) (v := .int M_at) (C := R_md) (T := T_md) (N := 21) hx hb htg in_md hown hK hP 0 rfl rfl 12 (by decide) (htg (.fieldLink R_md 43 "GameNotationModel" "at" "I") q_806) (fun _ h9 => h9) rfl d_md_peek_16 ?_
    have h_2 : vp_in M_at 100 := pk_at h_a h_s c_1
    refine va_iald hx hb hK hP 2 0 rfl rfl h_2 d_md_peek_19 ?_
    refine lv_goto (tgt := 24) hx hb d_md_peek_20 (by decide) ?_
    exact W.iret (v := M_text M_at.toNatClampNeg) hx hb hr (fun t ht hW => ⟨_, rfl, ⟨hF, (by first | exact Or.inl rfl | exact Or.inr (i_nle c_1)), trivial⟩, ht⟩) hS.2.2 d_md_peek_24
def f_md_eat (M_text : (Nat → Int32)) (M_size : Int32) (M_at : Int32) (ch : Int32) : Int32 × Int32 := (bnd (f_md_peek M_text M_size M_at) (fun r_1 => (if r_1 = ch then ((1 : Int32), M_at + (1 : Int32)) else ((0 : Int32), M_at))))
set_option maxHeartbeats 4000000 in
set_option maxRecDepth 100000 in
theorem c_md_eat (l : Launch) (K : KT) (sz : Nat) (Mh Ma0 Ma1 Ma2 Ma3 Ma4 Ma5 : Nat) (M_board : (Nat → Int32)) (M_text : (Nat → Int32)) (M_moves : (Nat → Int32)) (M_signs : (Nat → Int32)) (M_newBoard : (Nat → Int32)) (M_out : (Nat → Int32)) (M_thrown : Int32) (M_side : Int32) (M_rights : Int32) (M_passant : Int32) (M_clock : Int32) (M_number : Int32) (M_size : Int32) (M_told : Int32) (M_at : Int32) (M_newSide : Int32) (M_newRights : Int32) (M_newPassant : Int32) (M_newClock : Int32) (M_newNumber : Int32) (M_outs : Int32) (ch : Int32) : Met l y_md_eat w_md_eat ({ frames := 1, cells := 0, slots := 0, locals := 20 } : Room) (va_Pc [.ref Mh, .int ch] (fun U => pMU K [(Mh, .inr (6, [.int M_thrown, .ref Ma0, .int M_side, .int M_rights, .int M_passant, .int M_clock, .int M_number, .ref Ma1, .int M_size, .int M_told, .ref Ma2, .ref Ma3, .int M_at, .ref Ma4, .int M_newSide, .int M_newRights, .int M_newPassant, .int M_newClock, .int M_newNumber, .ref Ma5, .int M_outs])), (Ma0, .inl ((kI K), 64, .inl M_board)), (Ma1, .inl ((kI K), 100, .inl M_text)), (Ma2, .inl ((kI K), 330, .inl M_moves)), (Ma3, .inl ((kI K), 330, .inl M_signs)), (Ma4, .inl ((kI K), 64, .inl M_newBoard)), (Ma5, .inl ((kI K), 16, .inl M_out))] sz U ∧ 0 ≤ M_at.toInt ∧ M_at.toInt ≤ M_size.toInt ∧ M_size.toInt ≤ 100 ∧ ¬ ch = 0 ∧ True)) (va_Qi (fun (r : Int32) (u : Int32) => f_md_eat M_text M_size M_at ch = (r, u) ∧ narrow .boolean (.int r) = .int r ∧ (0 ≤ u.toInt) ∧ (u.toInt ≤ M_size.toInt) ∧ True) (fun (u : Int32) (t : State) => va_P (kD K) vwCl [(Mh, .inr (6, [.int M_thrown, .ref Ma0, .int M_side, .int M_rights, .int M_passant, .int M_clock, .int M_number, .ref Ma1, .int M_size, .int M_told, .ref Ma2, .ref Ma3, .int u, .ref Ma4, .int M_newSide, .int M_newRights, .int M_newPassant, .int M_newClock, .int M_newNumber, .ref Ma5, .int M_outs])), (Ma0, .inl ((kI K), 64, .inl M_board)), (Ma1, .inl ((kI K), 100, .inl M_text)), (Ma2, .inl ((kI K), 330, .inl M_moves)), (Ma3, .inl ((kI K), 330, .inl M_signs)), (Ma4, .inl ((kI K), 64, .inl M_newBoard)), (Ma5, .inl ((kI K), 16, .inl M_out))] t.heap ∧ va_D (va_A [(Mh, .inr (6, [.int M_thrown, .ref Ma0, .int M_side, .int M_rights, .int M_passant, .int M_clock, .int M_number, .ref Ma1, .int M_size, .int M_told, .ref Ma2, .ref Ma3, .int M_at, .ref Ma4, .int M_newSide, .int M_newRights, .int M_newPassant, .int M_newClock, .int M_newNumber, .ref Ma5, .int M_outs])), (Ma0, .inl ((kI K), 64, .inl M_board)), (Ma1, .inl ((kI K), 100, .inl M_text)), (Ma2, .inl ((kI K), 330, .inl M_moves)), (Ma3, .inl ((kI K), 330, .inl M_signs)), (Ma4, .inl ((kI K), 64, .inl M_newBoard)), (Ma5, .inl ((kI K), 16, .inl M_out))] sz) [(Mh, .inr (6, [.int M_thrown, .ref Ma0, .int M_side, .int M_rights, .int M_passant, .int M_clock, .int M_number, .ref Ma1, .int M_size, .int M_told, .ref Ma2, .ref Ma3, .int u, .ref Ma4, .int M_newSide, .int M_newRights, .int M_newPassant, .int M_newClock, .int M_newNumber, .ref Ma5, .int M_outs])), (Ma0, .inl ((kI K), 64, .inl M_board)), (Ma1, .inl ((kI K), 100, .inl M_text)), (Ma2, .inl ((kI K), 330, .inl M_moves)), (Ma3, .inl ((kI K), 330, .inl M_signs)), (Ma4, .inl ((kI K), 64, .inl M_newBoard)), (Ma5, .inl ((kI K), 16, .inl M_out))]) (va_A [(Mh, .inr (6, [.int M_thrown, .ref Ma0, .int M_side, .int M_rights, .int M_passant, .int M_clock, .int M_number, .ref Ma1, .int M_size, .int M_told, .ref Ma2, .ref Ma3, .int M_at, .ref Ma4, .int M_newSide, .int M_newRights, .int M_newPassant, .int M_newClock, .int M_newNumber, .ref Ma5, .int M_outs])), (Ma0, .inl ((kI K), 64, .inl M_board)), (Ma1, .inl ((kI K), 100, .inl M_text)), (Ma2, .inl ((kI K), 330, .inl M_moves)), (Ma3, .inl ((kI K), 330, .inl M_signs)), (Ma4, .inl ((kI K), 64, .inl M_newBoard)), (Ma5, .inl ((kI K), 16, .inl M_out))] sz)) 0 0 (va_A [(Mh, .inr (6, [.int M_thrown, .ref Ma0, .int M_side, .int M_rights, .int M_passant, .int M_clock, .int M_number, .ref Ma1, .int M_size, .int M_told, .ref Ma2, .ref Ma3, .int M_at, .ref Ma4, .int M_newSide, .int M_newRights, .int M_newPassant, .int M_newClock, .int M_newNumber, .ref Ma5, .int M_outs])), (Ma0, .inl ((kI K), 64, .inl M_board)), (Ma1, .inl ((kI K), 100, .inl M_text)), (Ma2, .inl ((kI K), 330, .inl M_moves)), (Ma3, .inl ((kI K), 330, .inl M_signs)), (Ma4, .inl ((kI K), 64, .inl M_newBoard)), (Ma5, .inl ((kI K), 16, .inl M_out))] sz) := by
  refine Met.ofW (cc := b_md_eat) (maxL := 2) (ret := (some .boolean)) (by decide) rfl ?_
  intro p e s m args below meth c s₁ B hml hv
  obtain ⟨rfl, ⟨hsz, hP, hK, hD0, hG⟩, h_a, h_b, h_s, h_c, -⟩ := hv
  have hx := B.exec
  have hb := B.bytes
  have hr := B.returns
  have hts := atoms_spec (ws := w_md_eat) B.pre
  have hown : s.vm.findClass R_md = some m.cls := findClass_of_methodNamed B.named
  have hlocks := B.notSynchronized
  have htg := fun w h => hts w (List.mem_cons_of_mem _ h)
  subst hsz
  have hD := hD0.self (sz := s.heap.size)
  generalize hAe : va_A [(Mh, .inr (6, [.int M_thrown, .ref Ma0, .int M_side, .int M_rights, .int M_passant, .int M_clock, .int M_number, .ref Ma1, .int M_size, .int M_told, .ref Ma2, .ref Ma3, .int M_at, .ref Ma4, .int M_newSide, .int M_newRights, .int M_newPassant, .int M_newClock, .int M_newNumber, .ref Ma5, .int M_outs])), (Ma0, .inl ((kI K), 64, .inl M_board)), (Ma1, .inl ((kI K), 100, .inl M_text)), (Ma2, .inl ((kI K), 330, .inl M_moves)), (Ma3, .inl ((kI K), 330, .inl M_signs)), (Ma4, .inl ((kI K), 64, .inl M_newBoard)), (Ma5, .inl ((kI K), 16, .inl M_out))] s.heap.size = A at hD hG ⊢
  have hA : ∀ q : Nat, s.heap.size ≤ q → A q := fun q h => by rw [← hAe]; exact Or.inr h
  have hS : va_S A s.heap s.heap [] := va_S.rf
  have hl := lv_entry ([.ref Mh, .int ch]) (n := 2) (Nat.le_of_ble_eq_true rfl)
  rw [lg_entry_eq]
  generalize (lg_sl ([.ref Mh, .int ch]) ++ List.replicate (2 - (lg_sl ([.ref Mh, .int ch])).length) Slot.unset).toArray = ls at hl ⊢
  have hl : lv_has ls 2 [(0, .ref Mh), (1, .int ch)] := hl
  have z0 : (0 : Int32).toInt = 0 := by decide
  have z1 : (1 : Int32).toInt = 1 := by decide
  have zm1 : (-1 : Int32).toInt = -1 := by decide
  have z2 : (2 : Int32).toInt = 2 := by decide
  have z3 : (3 : Int32).toInt = 3 := by decide
  have z7 : (7 : Int32).toInt = 7 := by decide
  have z8 : (8 : Int32).toInt = 8 := by decide
  have z16 : (16 : Int32).toInt = 16 := by decide
  have z64 : (64 : Int32).toInt = 64 := by decide
  have z100 : (100 : Int32).toInt = 100 := by decide
  have z330 : (330 : Int32).toInt = 330 := by decide
  have hF := f_md_eat.eq_1 M_text M_size M_at ch
  refine lv_aload_n hx hb d_md_eat_0 rfl (lv_at hl 0 rfl) ?_
  have hPc : va_P (kD K) vwCl [(Mh, .inr (6, [.int M_thrown, .ref Ma0, .int M_side, .int M_rights, .int M_passant, .int M_clock, .int M_number, .ref Ma1, .int M_size, .int M_told, .ref Ma2, .ref Ma3, .int M_at, .ref Ma4, .int M_newSide, .int M_newRights, .int M_newPassant, .int M_newClock, .int M_newNumber, .ref Ma5, .int M_outs])), (Ma0, .inl ((kI K), 64, .inl M_board)), (Ma1, .inl ((kI K), 100, .inl M_text)), (Ma2, .inl ((kI K), 330, .inl M_moves)), (Ma3, .inl ((kI K), 330, .inl M_signs)), (Ma4, .inl ((kI K), 64, .inl M_newBoard)), (Ma5, .inl ((kI K), 16, .inl M_out))] _ := hP.sub [0, 1, 2, 3, 4, 5, 6] rfl
  refine vp_callSi (va_Run.run (va_runV (As := []) (rest := []) ⟨hx, hb, hml, hown, htg⟩ (c_md_peek l K Mh Ma0 Ma1 Ma2 Ma3 Ma4 Ma5 M_board M_text M_moves M_signs M_newBoard M_out M_thrown M_side M_rights M_passant M_clock M_number M_size M_told M_at M_newSide M_newRights M_newPassant M_newClock M_newNumber M_outs) (cwV 0 htg (g_V q_887 q_889 qs_34 q_7 (g_w q_890)) rfl rfl rfl ⟨rfl, k_md_peek⟩ ⟨Nat.le_of_ble_eq_true rfl, Nat.le_of_ble_eq_true rfl⟩) ⟨ro_blind, va_recv hK hPc (ci := 6) (q0 := 0) rfl rfl, ro_use hPc hK hG hS ⟨(by first | assumption | omega), (by first | assumption | omega), trivial⟩⟩ rfl rfl hl.1 rfl (lv_room (Nat.le_of_ble_eq_true rfl)) d_md_eat_1 ⟨Nat.zero_le _, Nat.zero_le _⟩)) (fun r_1 hw_1 => ?_)
  have hF := hF.trans (bnd_s hw_1.1)
  have fp_1_0 : r_1 = 0 ∨ M_at.toInt < M_size.toInt := hw_1.2.1
  refine lv_iload_n hx hb d_md_eat_4 rfl (lv_at hl 1 rfl) ?_
  refine lv_icmp_eq (tgt := 10) hx hb d_md_eat_5 (by decide) (fun c_2 => ?_) (fun c_2 => ?_)
  · have hF := hF.trans (if_pos c_2)
    refine lv_aload_n hx hb d_md_eat_10 rfl (lv_at hl 0 rfl) ?_
    refine lv_dup hx hb d_md_eat_11 rfl ?_
    refine va_get (D := kD K) (ci := 6) (v := .int M_at) (C := R_md) (T := T_md) (N := 21) hx hb htg in_md hown hK hP 0 rfl rfl 12 (by decide) (htg (.fieldLink R_md 43 "GameNotationModel" "at" "I") q_806) (fun _ h9 => h9) rfl d_md_eat_12 ?_
    refine lv_iconst (v := 1) hx hb d_md_eat_15 (by decide) ?_
    refine lv_iadd hx hb d_md_eat_16 ?_
    refine va_put (D := kD K) (ci := 6) (v := .int (M_at + (1 : Int32))) (ty := .int) (C := R_md) (T := T_md) (N := 21) hx hb htg in_md ty_md ty_md_ok nm_md hown hK hP hD hS 0 rfl rfl 12 (by decide) (htg (.fieldLink R_md 43 "GameNotationModel" "at" "I") q_806) (fun _ h9 => h9) rfl (by decide +kernel) rfl rfl (Nat.le_of_ble_eq_true rfl) d_md_eat_17 (fun H locs hP hD hS => ?_)
    have hP : va_P (kD K) vwCl [(Mh, .inr (6, [.int M_thrown, .ref Ma0, .int M_side, .int M_rights, .int M_passant, .int M_clock, .int M_number, .ref Ma1, .int M_size, .int M_told, .ref Ma2, .ref Ma3, .int (M_at + (1 : Int32)), .ref Ma4, .int M_newSide, .int M_newRights, .int M_newPassant, .int M_newClock, .int M_newNumber, .ref Ma5, .int M_outs])), (Ma0, .inl ((kI K), 64, .inl M_board)), (Ma1, .inl ((kI K), 100, .inl M_text)), (Ma2, .inl ((kI K), 330, .inl M_moves)), (Ma3, .inl ((kI K), 330, .inl M_signs)), (Ma4, .inl ((kI K), 64, .inl M_newBoard)), (Ma5, .inl ((kI K), 16, .inl M_out))] _ := hP
    have hD : va_D A [(Mh, .inr (6, [.int M_thrown, .ref Ma0, .int M_side, .int M_rights, .int M_passant, .int M_clock, .int M_number, .ref Ma1, .int M_size, .int M_told, .ref Ma2, .ref Ma3, .int (M_at + (1 : Int32)), .ref Ma4, .int M_newSide, .int M_newRights, .int M_newPassant, .int M_newClock, .int M_newNumber, .ref Ma5, .int M_outs])), (Ma0, .inl ((kI K), 64, .inl M_board)), (Ma1, .inl ((kI K), 100, .inl M_text)), (Ma2, .inl ((kI K), 330, .inl M_moves)), (Ma3, .inl ((kI K), 330, .inl M_signs)), (Ma4, .inl ((kI K), 64, .inl M_newBoard)), (Ma5, .inl ((kI K), 16, .inl M_out))] := hD
    refine lv_iconst (v := 1) hx hb d_md_eat_20 (by decide) ?_
    exact W.zret (v := (1 : Int32)) hx hb hr (rfl) (fun t ht hW => ⟨⟨(1 : Int32), M_at + (1 : Int32), rfl, ⟨hF, rfl, ((at_up h_a (eat_n c_2 h_c fp_1_0)).1), ((at_up h_a (eat_n c_2 h_c fp_1_0)).2), trivial⟩, ⟨by rw [ht]; exact hP, hD⟩⟩, hS.F ht⟩) hS.2.2 d_md_eat_21
  · have hF := hF.trans (if_neg c_2)
    refine lv_iconst (v := 0) hx hb d_md_eat_8 (by decide) ?_
    exact W.zret (v := (0 : Int32)) hx hb hr (rfl) (fun t ht hW => ⟨⟨(0 : Int32), M_at, rfl, ⟨hF, rfl, (by assumption), (by assumption), trivial⟩, ⟨by rw [ht]; exact hP, hD⟩⟩, hS.F ht⟩) hS.2.2 d_md_eat_9
def f_md_letter (mn : Int32) : Int32 := (if mn ≤ (6 : Int32) then (if mn = (1 : Int32) then (80 : Int32) else (if mn = (2 : Int32) then (78 : Int32) else (if mn = (3 : Int32) then (66 : Int32) else (if mn = (4 : Int32) then (82 : Int32) else (if mn = (5 : Int32) then (81 : Int32) else (75 : Int32)))))) else (if (mn - (6 : Int32)) = (1 : Int32) then ((80 : Int32) + (32 : Int32)) else (if (mn - (6 : Int32)) = (2 : Int32) then ((78 : Int32) + (32 : Int32)) else (if (mn - (6 : Int32)) = (3 : Int32) then ((66 : Int32) + (32 : Int32)) else (if (mn - (6 : Int32)) = (4 : Int32) then ((82 : Int32) + (32 : Int32)) else (if (mn - (6 : Int32)) = (5 : Int32) then ((81 : Int32) + (32 : Int32)) else ((75 : Int32) + (32 : Int32))))))))
set_option maxHeartbeats 4000000 in
set_option maxRecDepth 100000 in
theorem c_md_letter (l : Launch) (K : KT) (mn : Int32) : Met l y_md_letter w_md_letter ({ frames := 0, cells := 0, slots := 0, locals := 0 } : Room) (va_Pc [.int mn] (fun U => pRO K [] U ∧ True)) (vp_Si (fun r => f_md_letter mn = r ∧ True)) 0 0 (fun _ => False) := by
  refine Met.ofW (cc := b_md_letter) (maxL := 3) (ret := (some .int)) (by decide) rfl ?_
  intro p e s m args below meth c s₁ B hml hv
  obtain ⟨rfl, ⟨hP, hK, hG⟩, -⟩ := hv
  have hx := B.exec
  have hb := B.bytes
  have hr := B.returns
  have hts := atoms_spec (ws := w_md_letter) B.pre
  have hown : s.vm.findClass R_md = some m.cls := findClass_of_methodNamed B.named
  have hlocks := B.notSynchronized
  have htg := fun w h => hts w (List.mem_cons_of_mem _ h)
  have hS : va_S (fun _ => False) s.heap s.heap [] := va_S.rf
  have hl := lv_entry ([.int mn]) (n := 3) (Nat.le_of_ble_eq_true rfl)
  rw [lg_entry_eq]
  generalize (lg_sl ([.int mn]) ++ List.replicate (3 - (lg_sl ([.int mn])).length) Slot.unset).toArray = ls at hl ⊢
  have hl : lv_has ls 3 [(0, .int mn)] := hl
  have z0 : (0 : Int32).toInt = 0 := by decide
  have z1 : (1 : Int32).toInt = 1 := by decide
  have zm1 : (-1 : Int32).toInt = -1 := by decide
  have z2 : (2 : Int32).toInt = 2 := by decide
  have z3 : (3 : Int32).toInt = 3 := by decide
  have z7 : (7 : Int32).toInt = 7 := by decide
  have z8 : (8 : Int32).toInt = 8 := by decide
  have z16 : (16 : Int32).toInt = 16 := by decide
  have z64 : (64 : Int32).toInt = 64 := by decide
  have z100 : (100 : Int32).toInt = 100 := by decide
  have z330 : (330 : Int32).toInt = 330 := by decide
  have hF := f_md_letter.eq_1 mn
  refine lv_iload_n hx hb d_md_letter_0 rfl (lv_at hl 0 rfl) ?_
  refine lv_bipush (v := 6) hx hb d_md_letter_1 (by decide) ?_
  refine lv_icmp_le (tgt := 13) hx hb d_md_letter_3 (by decide) (fun c_1 => ?_) (fun c_1 => ?_)
  · have hF := hF.trans (if_pos c_1)
    refine lv_iload_n hx hb d_md_letter_13 rfl (lv_at hl 0 rfl) ?_
    refine lv_istore_n (lv' := [(1, .int mn), (0, .int mn)]) hx hb d_md_letter_14 rfl hl (by decide) rfl (fun ls hl => ?_)
    refine lv_iload_n hx hb d_md_letter_15 rfl (lv_at hl 0 rfl) ?_
    refine lv_iconst (v := 1) hx hb d_md_letter_16 (by decide) ?_
    refine lv_icmp_ne (tgt := 25) hx hb d_md_letter_17 (by decide) (fun c_2 => ?_) (fun c_2 => ?_)
    · have hF := hF.trans (if_neg c_2)
      refine lv_iload_n hx hb d_md_letter_25 rfl (lv_at hl 0 rfl) ?_
      refine lv_iconst (v := 2) hx hb d_md_letter_26 (by decide) ?_
      refine lv_icmp_ne (tgt := 35) hx hb d_md_letter_27 (by decide) (fun c_3 => ?_) (fun c_3 => ?_)
      · have hF := hF.trans (if_neg c_3)
        refine lv_iload_n hx hb d_md_letter_35 rfl (lv_at hl 0 rfl) ?_
        refine lv_iconst (v := 3) hx hb d_md_letter_36 (by decide) ?_
        refine lv_icmp_ne (tgt := 45) hx hb d_md_letter_37 (by decide) (fun c_4 => ?_) (fun c_4 => ?_)
        · have hF := hF.trans (if_neg c_4)
          refine lv_iload_n hx hb d_md_letter_45 rfl (lv_at hl 0 rfl) ?_
          refine lv_iconst (v := 4) hx hb d_md_letter_46 (by decide) ?_
          refine lv_icmp_ne (tgt := 55) hx hb d_md_letter_47 (by decide) (fun c_5 => ?_) (fun c_5 => ?_)
          · have hF := hF.trans (if_neg c_5)
            refine lv_iload_n hx hb d_md_letter_55 rfl (lv_at hl 0 rfl) ?_
            refine lv_iconst (v := 5) hx hb d_md_letter_56 (by decide) ?_
            refine lv_icmp_ne (tgt := 65) hx hb d_md_letter_57 (by decide) (fun c_6 => ?_) (fun c_6 => ?_)
            · have hF := hF.trans (if_neg c_6)
              refine lv_bipush (v := 75) hx hb d_md_letter_65 (by decide) ?_
              refine lv_istore_n (lv' := [(2, .int (75 : Int32)), (1, .int mn), (0, .int mn)]) hx hb d_md_letter_67 rfl hl (by decide) rfl (fun ls hl => ?_)
              refine lv_iload_n hx hb d_md_letter_68 rfl (lv_at hl 2 rfl) ?_
              refine lv_bipush (v := 6) hx hb d_md_letter_69 (by decide) ?_
              refine lv_icmp_le (tgt := 81) hx hb d_md_letter_71 (by decide) (fun _ => ?_) (fun c => absurd c_1 c)
              refine lv_iload_n hx hb d_md_letter_81 rfl (lv_at hl 0 rfl) ?_
              exact W.iret (v := (75 : Int32)) hx hb hr (fun t ht hW => ⟨_, rfl, ⟨hF, trivial⟩, ht⟩) hS.2.2 d_md_letter_82
            · have hF := hF.trans (if_pos c_6)
              refine lv_bipush (v := 81) hx hb d_md_letter_60 (by decide) ?_
              refine lv_goto (tgt := 67) hx hb d_md_letter_62 (by decide) ?_
              refine lv_istore_n (lv' := [(2, .int (81 : Int32)), (1, .int mn), (0, .int mn)]) hx hb d_md_letter_67 rfl hl (by decide) rfl (fun ls hl => ?_)
              refine lv_iload_n hx hb d_md_letter_68 rfl (lv_at hl 2 rfl) ?_
              refine lv_bipush (v := 6) hx hb d_md_letter_69 (by decide) ?_
              refine lv_icmp_le (tgt := 81) hx hb d_md_letter_71 (by decide) (fun _ => ?_) (fun c => absurd c_1 c)
              refine lv_iload_n hx hb d_md_letter_81 rfl (lv_at hl 0 rfl) ?_
              exact W.iret (v := (81 : Int32)) hx hb hr (fun t ht hW => ⟨_, rfl, ⟨hF, trivial⟩, ht⟩) hS.2.2 d_md_letter_82
          · have hF := hF.trans (if_pos c_5)
            refine lv_bipush (v := 82) hx hb d_md_letter_50 (by decide) ?_
            refine lv_goto (tgt := 67) hx hb d_md_letter_52 (by decide) ?_
            refine lv_istore_n (lv' := [(2, .int (82 : Int32)), (1, .int mn), (0, .int mn)]) hx hb d_md_letter_67 rfl hl (by decide) rfl (fun ls hl => ?_)
            refine lv_iload_n hx hb d_md_letter_68 rfl (lv_at hl 2 rfl) ?_
            refine lv_bipush (v := 6) hx hb d_md_letter_69 (by decide) ?_
            refine lv_icmp_le (tgt := 81) hx hb d_md_letter_71 (by decide) (fun _ => ?_) (fun c => absurd c_1 c)
            refine lv_iload_n hx hb d_md_letter_81 rfl (lv_at hl 0 rfl) ?_
            exact W.iret (v := (82 : Int32)) hx hb hr (fun t ht hW => ⟨_, rfl, ⟨hF, trivial⟩, ht⟩) hS.2.2 d_md_letter_82
        · have hF := hF.trans (if_pos c_4)
          refine lv_bipush (v := 66) hx hb d_md_letter_40 (by decide) ?_
          refine lv_goto (tgt := 67) hx hb d_md_letter_42 (by decide) ?_
          refine lv_istore_n (lv' := [(2, .int (66 : Int32)), (1, .int mn), (0, .int mn)]) hx hb d_md_letter_67 rfl hl (by decide) rfl (fun ls hl => ?_)
          refine lv_iload_n hx hb d_md_letter_68 rfl (lv_at hl 2 rfl) ?_
          refine lv_bipush (v := 6) hx hb d_md_letter_69 (by decide) ?_
          refine lv_icmp_le (tgt := 81) hx hb d_md_letter_71 (by decide) (fun _ => ?_) (fun c => absurd c_1 c)
          refine lv_iload_n hx hb d_md_letter_81 rfl (lv_at hl 0 rfl) ?_
          exact W.iret (v := (66 : Int32)) hx hb hr (fun t ht hW => ⟨_, rfl, ⟨hF, trivial⟩, ht⟩) hS.2.2 d_md_letter_82
      · have hF := hF.trans (if_pos c_3)
        refine lv_bipush (v := 78) hx hb d_md_letter_30 (by decide) ?_
        refine lv_goto (tgt := 67) hx hb d_md_letter_32 (by decide) ?_
        refine lv_istore_n (lv' := [(2, .int (78 : Int32)), (1, .int mn), (0, .int mn)]) hx hb d_md_letter_67 rfl hl (by decide) rfl (fun ls hl => ?_)
        refine lv_iload_n hx hb d_md_letter_68 rfl (lv_at hl 2 rfl) ?_
        refine lv_bipush (v := 6) hx hb d_md_letter_69 (by decide) ?_
        refine lv_icmp_le (tgt := 81) hx hb d_md_letter_71 (by decide) (fun _ => ?_) (fun c => absurd c_1 c)
        refine lv_iload_n hx hb d_md_letter_81 rfl (lv_at hl 0 rfl) ?_
        exact W.iret (v := (78 : Int32)) hx hb hr (fun t ht hW => ⟨_, rfl, ⟨hF, trivial⟩, ht⟩) hS.2.2 d_md_letter_82
    · have hF := hF.trans (if_pos c_2)
      refine lv_bipush (v := 80) hx hb d_md_letter_20 (by decide) ?_
      refine lv_goto (tgt := 67) hx hb d_md_letter_22 (by decide) ?_
      refine lv_istore_n (lv' := [(2, .int (80 : Int32)), (1, .int mn), (0, .int mn)]) hx hb d_md_letter_67 rfl hl (by decide) rfl (fun ls hl => ?_)
      refine lv_iload_n hx hb d_md_letter_68 rfl (lv_at hl 2 rfl) ?_
      refine lv_bipush (v := 6) hx hb d_md_letter_69 (by decide) ?_
      refine lv_icmp_le (tgt := 81) hx hb d_md_letter_71 (by decide) (fun _ => ?_) (fun c => absurd c_1 c)
      refine lv_iload_n hx hb d_md_letter_81 rfl (lv_at hl 0 rfl) ?_
      exact W.iret (v := (80 : Int32)) hx hb hr (fun t ht hW => ⟨_, rfl, ⟨hF, trivial⟩, ht⟩) hS.2.2 d_md_letter_82
  · have hF := hF.trans (if_neg c_1)
    refine lv_iload_n hx hb d_md_letter_6 rfl (lv_at hl 0 rfl) ?_
    refine lv_bipush (v := 6) hx hb d_md_letter_7 (by decide) ?_
    refine lv_isub hx hb d_md_letter_9 ?_
    refine lv_goto (tgt := 14) hx hb d_md_letter_10 (by decide) ?_
    refine lv_istore_n (lv' := [(1, .int (mn - (6 : Int32))), (0, .int mn)]) hx hb d_md_letter_14 rfl hl (by decide) rfl (fun ls hl => ?_)
    refine lv_iload_n hx hb d_md_letter_15 rfl (lv_at hl 0 rfl) ?_
    refine lv_iconst (v := 1) hx hb d_md_letter_16 (by decide) ?_
    refine lv_icmp_ne (tgt := 25) hx hb d_md_letter_17 (by decide) (fun c_7 => ?_) (fun c_7 => ?_)
    · have hF := hF.trans (if_neg c_7)
      refine lv_iload_n hx hb d_md_letter_25 rfl (lv_at hl 0 rfl) ?_
      refine lv_iconst (v := 2) hx hb d_md_letter_26 (by decide) ?_
      refine lv_icmp_ne (tgt := 35) hx hb d_md_letter_27 (by decide) (fun c_8 => ?_) (fun c_8 => ?_)
      · have hF := hF.trans (if_neg c_8)
        refine lv_iload_n hx hb d_md_letter_35 rfl (lv_at hl 0 rfl) ?_
        refine lv_iconst (v := 3) hx hb d_md_letter_36 (by decide) ?_
        refine lv_icmp_ne (tgt := 45) hx hb d_md_letter_37 (by decide) (fun c_9 => ?_) (fun c_9 => ?_)
        · have hF := hF.trans (if_neg c_9)
          refine lv_iload_n hx hb d_md_letter_45 rfl (lv_at hl 0 rfl) ?_
          refine lv_iconst (v := 4) hx hb d_md_letter_46 (by decide) ?_
          refine lv_icmp_ne (tgt := 55) hx hb d_md_letter_47 (by decide) (fun c_10 => ?_) (fun c_10 => ?_)
          · have hF := hF.trans (if_neg c_10)
            refine lv_iload_n hx hb d_md_letter_55 rfl (lv_at hl 0 rfl) ?_
            refine lv_iconst (v := 5) hx hb d_md_letter_56 (by decide) ?_
            refine lv_icmp_ne (tgt := 65) hx hb d_md_letter_57 (by decide) (fun c_11 => ?_) (fun c_11 => ?_)
            · have hF := hF.trans (if_neg c_11)
              refine lv_bipush (v := 75) hx hb d_md_letter_65 (by decide) ?_
              refine lv_istore_n (lv' := [(2, .int (75 : Int32)), (1, .int (mn - (6 : Int32))), (0, .int mn)]) hx hb d_md_letter_67 rfl hl (by decide) rfl (fun ls hl => ?_)
              refine lv_iload_n hx hb d_md_letter_68 rfl (lv_at hl 2 rfl) ?_
              refine lv_bipush (v := 6) hx hb d_md_letter_69 (by decide) ?_
              refine lv_icmp_le (tgt := 81) hx hb d_md_letter_71 (by decide) (fun c => absurd c c_1) (fun _ => ?_)
              refine lv_iload_n hx hb d_md_letter_74 rfl (lv_at hl 0 rfl) ?_
              refine lv_bipush (v := 32) hx hb d_md_letter_75 (by decide) ?_
              refine lv_iadd hx hb d_md_letter_77 ?_
              refine lv_goto (tgt := 82) hx hb d_md_letter_78 (by decide) ?_
              exact W.iret (v := (75 : Int32) + (32 : Int32)) hx hb hr (fun t ht hW => ⟨_, rfl, ⟨hF, trivial⟩, ht⟩) hS.2.2 d_md_letter_82
            · have hF := hF.trans (if_pos c_11)
              refine lv_bipush (v := 81) hx hb d_md_letter_60 (by decide) ?_
              refine lv_goto (tgt := 67) hx hb d_md_letter_62 (by decide) ?_
              refine lv_istore_n (lv' := [(2, .int (81 : Int32)), (1, .int (mn - (6 : Int32))), (0, .int mn)]) hx hb d_md_letter_67 rfl hl (by decide) rfl (fun ls hl => ?_)
              refine lv_iload_n hx hb d_md_letter_68 rfl (lv_at hl 2 rfl) ?_
              refine lv_bipush (v := 6) hx hb d_md_letter_69 (by decide) ?_
              refine lv_icmp_le (tgt := 81) hx hb d_md_letter_71 (by decide) (fun c => absurd c c_1) (fun _ => ?_)
              refine lv_iload_n hx hb d_md_letter_74 rfl (lv_at hl 0 rfl) ?_
              refine lv_bipush (v := 32) hx hb d_md_letter_75 (by decide) ?_
              refine lv_iadd hx hb d_md_letter_77 ?_
              refine lv_goto (tgt := 82) hx hb d_md_letter_78 (by decide) ?_
              exact W.iret (v := (81 : Int32) + (32 : Int32)) hx hb hr (fun t ht hW => ⟨_, rfl, ⟨hF, trivial⟩, ht⟩) hS.2.2 d_md_letter_82
          · have hF := hF.trans (if_pos c_10)
            refine lv_bipush (v := 82) hx hb d_md_letter_50 (by decide) ?_
            refine lv_goto (tgt := 67) hx hb d_md_letter_52 (by decide) ?_
            refine lv_istore_n (lv' := [(2, .int (82 : Int32)), (1, .int (mn - (6 : Int32))), (0, .int mn)]) hx hb d_md_letter_67 rfl hl (by decide) rfl (fun ls hl => ?_)
            refine lv_iload_n hx hb d_md_letter_68 rfl (lv_at hl 2 rfl) ?_
            refine lv_bipush (v := 6) hx hb d_md_letter_69 (by decide) ?_
            refine lv_icmp_le (tgt := 81) hx hb d_md_letter_71 (by decide) (fun c => absurd c c_1) (fun _ => ?_)
            refine lv_iload_n hx hb d_md_letter_74 rfl (lv_at hl 0 rfl) ?_
            refine lv_bipush (v := 32) hx hb d_md_letter_75 (by decide) ?_
            refine lv_iadd hx hb d_md_letter_77 ?_
            refine lv_goto (tgt := 82) hx hb d_md_letter_78 (by decide) ?_
            exact W.iret (v := (82 : Int32) + (32 : Int32)) hx hb hr (fun t ht hW => ⟨_, rfl, ⟨hF, trivial⟩, ht⟩) hS.2.2 d_md_letter_82
        · have hF := hF.trans (if_pos c_9)
          refine lv_bipush (v := 66) hx hb d_md_letter_40 (by decide) ?_
          refine lv_goto (tgt := 67) hx hb d_md_letter_42 (by decide) ?_
          refine lv_istore_n (lv' := [(2, .int (66 : Int32)), (1, .int (mn - (6 : Int32))), (0, .int mn)]) hx hb d_md_letter_67 rfl hl (by decide) rfl (fun ls hl => ?_)
          refine lv_iload_n hx hb d_md_letter_68 rfl (lv_at hl 2 rfl) ?_
          refine lv_bipush (v := 6) hx hb d_md_letter_69 (by decide) ?_
          refine lv_icmp_le (tgt := 81) hx hb d_md_letter_71 (by decide) (fun c => absurd c c_1) (fun _ => ?_)
          refine lv_iload_n hx hb d_md_letter_74 rfl (lv_at hl 0 rfl) ?_
          refine lv_bipush (v := 32) hx hb d_md_letter_75 (by decide) ?_
          refine lv_iadd hx hb d_md_letter_77 ?_
          refine lv_goto (tgt := 82) hx hb d_md_letter_78 (by decide) ?_
          exact W.iret (v := (66 : Int32) + (32 : Int32)) hx hb hr (fun t ht hW => ⟨_, rfl, ⟨hF, trivial⟩, ht⟩) hS.2.2 d_md_letter_82
      · have hF := hF.trans (if_pos c_8)
        refine lv_bipush (v := 78) hx hb d_md_letter_30 (by decide) ?_
        refine lv_goto (tgt := 67) hx hb d_md_letter_32 (by decide) ?_
        refine lv_istore_n (lv' := [(2, .int (78 : Int32)), (1, .int (mn - (6 : Int32))), (0, .int mn)]) hx hb d_md_letter_67 rfl hl (by decide) rfl (fun ls hl => ?_)
        refine lv_iload_n hx hb d_md_letter_68 rfl (lv_at hl 2 rfl) ?_
        refine lv_bipush (v := 6) hx hb d_md_letter_69 (by decide) ?_
        refine lv_icmp_le (tgt := 81) hx hb d_md_letter_71 (by decide) (fun c => absurd c c_1) (fun _ => ?_)
        refine lv_iload_n hx hb d_md_letter_74 rfl (lv_at hl 0 rfl) ?_
        refine lv_bipush (v := 32) hx hb d_md_letter_75 (by decide) ?_
        refine lv_iadd hx hb d_md_letter_77 ?_
        refine lv_goto (tgt := 82) hx hb d_md_letter_78 (by decide) ?_
        exact W.iret (v := (78 : Int32) + (32 : Int32)) hx hb hr (fun t ht hW => ⟨_, rfl, ⟨hF, trivial⟩, ht⟩) hS.2.2 d_md_letter_82
    · have hF := hF.trans (if_pos c_7)
      refine lv_bipush (v := 80) hx hb d_md_letter_20 (by decide) ?_
      refine lv_goto (tgt := 67) hx hb d_md_letter_22 (by decide) ?_
      refine lv_istore_n (lv' := [(2, .int (80 : Int32)), (1, .int (mn - (6 : Int32))), (0, .int mn)]) hx hb d_md_letter_67 rfl hl (by decide) rfl (fun ls hl => ?_)
      refine lv_iload_n hx hb d_md_letter_68 rfl (lv_at hl 2 rfl) ?_
      refine lv_bipush (v := 6) hx hb d_md_letter_69 (by decide) ?_
      refine lv_icmp_le (tgt := 81) hx hb d_md_letter_71 (by decide) (fun c => absurd c c_1) (fun _ => ?_)
      refine lv_iload_n hx hb d_md_letter_74 rfl (lv_at hl 0 rfl) ?_
      refine lv_bipush (v := 32) hx hb d_md_letter_75 (by decide) ?_
      refine lv_iadd hx hb d_md_letter_77 ?_
      refine lv_goto (tgt := 82) hx hb d_md_letter_78 (by decide) ?_
      exact W.iret (v := (80 : Int32) + (32 : Int32)) hx hb hr (fun t ht hW => ⟨_, rfl, ⟨hF, trivial⟩, ht⟩) hS.2.2 d_md_letter_82
def f_md_manOf_L4 (ch : Int32) : Nat → Int32 → Int32 → Int32
  | 0, _, _ => 0
  | n + 1, v1, v2 => (if (13 : Int32) ≤ v2 then v1 else (bnd (f_md_letter v2) (fun r_2 => (if r_2 = ch then (f_md_manOf_L4 ch  n v2 (v2 + (1 : Int32))) else (f_md_manOf_L4 ch  n v1 (v2 + (1 : Int32)))))))
def f_md_manOf (ch : Int32) : Int32 := (f_md_manOf_L4 ch  14 (0 : Int32) (1 : Int32))
theorem mo_n {r r2 : Int32} {Q P : Prop} (w : f_md_manOf r = r2 ∧ Q) (c : ¬ r2 ≤ 0) (f : r = 0 ∨ P) : P := by
  refine f.resolve_left (fun e => c ?_)
  rw [← w.1, e]; decide
set_option maxHeartbeats 4000000 in
set_option maxRecDepth 100000 in
theorem c_md_manOf (l : Launch) (K : KT) (ch : Int32) : Met l y_md_manOf w_md_manOf ({ frames := 1, cells := 0, slots := 0, locals := 22 } : Room) (va_Pc [.int ch] (fun U => pRO K [] U ∧ True)) (vp_Si (fun r => f_md_manOf ch = r ∧ True)) 0 0 (fun _ => False) := by
  refine Met.ofW (cc := b_md_manOf) (maxL := 3) (ret := (some .int)) (by decide) rfl ?_
  intro p e s m args below meth c s₁ B hml hv
  obtain ⟨rfl, ⟨hP, hK, hG⟩, -⟩ := hv
  have hx := B.exec
  have hb := B.bytes
  have hr := B.returns
  have hts := atoms_spec (ws := w_md_manOf) B.pre
  have hown : s.vm.findClass R_md = some m.cls := findClass_of_methodNamed B.named
  have hlocks := B.notSynchronized
  have htg := fun w h => hts w (List.mem_cons_of_mem _ h)
  have hS : va_S (fun _ => False) s.heap s.heap [] := va_S.rf
  have hl := lv_entry ([.int ch]) (n := 3) (Nat.le_of_ble_eq_true rfl)
  rw [lg_entry_eq]
  generalize (lg_sl ([.int ch]) ++ List.replicate (3 - (lg_sl ([.int ch])).length) Slot.unset).toArray = ls at hl ⊢
  have hl : lv_has ls 3 [(0, .int ch)] := hl
  have z0 : (0 : Int32).toInt = 0 := by decide
  have z1 : (1 : Int32).toInt = 1 := by decide
  have zm1 : (-1 : Int32).toInt = -1 := by decide
  have z2 : (2 : Int32).toInt = 2 := by decide
  have z3 : (3 : Int32).toInt = 3 := by decide
  have z7 : (7 : Int32).toInt = 7 := by decide
  have z8 : (8 : Int32).toInt = 8 := by decide
  have z16 : (16 : Int32).toInt = 16 := by decide
  have z64 : (64 : Int32).toInt = 64 := by decide
  have z100 : (100 : Int32).toInt = 100 := by decide
  have z330 : (330 : Int32).toInt = 330 := by decide
  have hF := f_md_manOf.eq_1 ch
  refine lv_iconst (v := 0) hx hb d_md_manOf_0 (by decide) ?_
  refine lv_istore_n (lv' := [(1, .int (0 : Int32)), (0, .int ch)]) hx hb d_md_manOf_1 rfl hl (by decide) rfl (fun ls hl => ?_)
  refine lv_iconst (v := 1) hx hb d_md_manOf_2 (by decide) ?_
  refine lv_istore_n (lv' := [(2, .int (1 : Int32)), (1, .int (0 : Int32)), (0, .int ch)]) hx hb d_md_manOf_3 rfl hl (by decide) rfl (fun ls hl => ?_)
  have loop4 : ∀ (n4 : Nat) (v1 : Int32) (v2 : Int32) (ls : Array Slot), 0 ≤ v2.toInt → ((13 : Int) - v2.toInt).toNat < n4 → lv_has ls 3 [(0, .int ch), (1, .int v1), (2, .int v2)] → f_md_manOf ch = f_md_manOf_L4 ch  n4 v1 v2 → W p l e (headSpec w_md_manOf ({ frames := 1, cells := 0, slots := 0, locals := 22 } : Room)).room s m ([(.int ch : Value)].toArray) below meth c s.heap [] 0 0 (MQ below (vp_Si (fun r => f_md_manOf ch = r ∧ True)) ([(.int ch : Value)].toArray) s 0 0 ((fun _ => False))) (F0 m 4 ls []) := by
    intro n4
    induction n4 with
    | zero =>
      intro _ _ _ _ hz
      exact absurd hz (Nat.not_lt_zero _)
    | succ n4 ih4 =>
      intro v1 v2 ls i0 hm hl hF
      rw [f_md_manOf_L4] at hF
      refine lv_iload_n hx hb d_md_manOf_4 rfl (lv_at hl 2 rfl) ?_
      refine lv_bipush (v := 13) hx hb d_md_manOf_5 (by decide) ?_
      refine lv_icmp_ge (tgt := 30) hx hb d_md_manOf_7 (by decide) (fun c_1 => ?_) (fun c_1 => ?_)
      · have hF := hF.trans (if_pos c_1)
        refine lv_iload_n hx hb d_md_manOf_30 rfl (lv_at hl 1 rfl) ?_
        exact W.iret (v := v1) hx hb hr (fun t ht hW => ⟨_, rfl, ⟨hF, trivial⟩, ht⟩) hS.2.2 d_md_manOf_31
      · have hF := hF.trans (if_neg c_1)
        refine lv_iload_n hx hb d_md_manOf_10 rfl (lv_at hl 2 rfl) ?_
        have hPc : va_P (kD K) vwCl [] _ := hP.sub [] rfl
        refine vp_callSi (va_Run.run (va_runS (As := [.int v2]) (rest := []) ⟨hx, hb, hml, hown, htg⟩ (c_md_letter l K v2) (va_cwS 1 htg (g_S q_894 q_895 q_7 (g_w q_896)) rfl rfl rfl k_md_letter ⟨Nat.le_of_ble_eq_true rfl, Nat.le_of_ble_eq_true rfl⟩) ⟨ro_blind, ro_use hPc hK hG hS trivial⟩ rfl rfl hl.1 rfl (lv_room (Nat.le_of_ble_eq_true rfl)) d_md_manOf_11 ⟨Nat.zero_le _, Nat.zero_le _⟩)) (fun r_2 hw_2 => ?_)
        have hF := hF.trans (bnd_s hw_2.1)
        refine lv_iload_n hx hb d_md_manOf_14 rfl (lv_at hl 0 rfl) ?_
        refine lv_icmp_ne (tgt := 22) hx hb d_md_manOf_15 (by decide) (fun c_3 => ?_) (fun c_3 => ?_)
        · have hF := hF.trans (if_neg c_3)
          refine lv_iload_n hx hb d_md_manOf_22 rfl (lv_at hl 1 rfl) ?_
          refine lv_istore_n (lv' := [(1, .int v1), (0, .int ch), (2, .int v2)]) hx hb d_md_manOf_23 rfl hl (by decide) rfl (fun ls hl => ?_)
          refine lv_iinc (v := v2 + (1 : Int32)) (lv' := [(2, .int (v2 + (1 : Int32))), (1, .int v1), (0, .int ch)]) hx hb d_md_manOf_24 hl (k := 2) rfl rfl (by decide) rfl (fun ls hl => ?_)
          refine lv_goto (tgt := 4) hx hb d_md_manOf_27 (by decide) ?_
          exact ih4  v1 (v2 + (1 : Int32)) ls (lp_s i0 c_1) (lp_d i0 c_1 (by decide) hm) (lv_sub hl [2, 1, 0] rfl) hF
        · have hF := hF.trans (if_pos c_3)
          refine lv_iload_n hx hb d_md_manOf_18 rfl (lv_at hl 2 rfl) ?_
          refine lv_goto (tgt := 23) hx hb d_md_manOf_19 (by decide) ?_
          refine lv_istore_n (lv' := [(1, .int v2), (0, .int ch), (2, .int v2)]) hx hb d_md_manOf_23 rfl hl (by decide) rfl (fun ls hl => ?_)
          refine lv_iinc (v := v2 + (1 : Int32)) (lv' := [(2, .int (v2 + (1 : Int32))), (1, .int v2), (0, .int ch)]) hx hb d_md_manOf_24 hl (k := 2) rfl rfl (by decide) rfl (fun ls hl => ?_)
          refine lv_goto (tgt := 4) hx hb d_md_manOf_27 (by decide) ?_
          exact ih4  v2 (v2 + (1 : Int32)) ls (lp_s i0 c_1) (lp_d i0 c_1 (by decide) hm) (lv_sub hl [2, 1, 0] rfl) hF
  exact loop4 14 (0 : Int32) (1 : Int32) ls (by decide) (by decide) (lv_sub hl [2, 1, 0] rfl) hF
def f_md_isDigit (ch : Int32) : Int32 := (if ch < (48 : Int32) then (0 : Int32) else (if (57 : Int32) < ch then (0 : Int32) else (1 : Int32)))
theorem dg_n {r r2 : Int32} {Q P : Prop} (w : f_md_isDigit r = r2 ∧ Q) (c : ¬ r2 = 0) (f : r = 0 ∨ P) : P := by
  refine f.resolve_left (fun e => c ?_)
  rw [← w.1, e]; decide
set_option maxHeartbeats 4000000 in
set_option maxRecDepth 100000 in
theorem c_md_isDigit (l : Launch) (K : KT) (ch : Int32) : Met l y_md_isDigit w_md_isDigit ({ frames := 0, cells := 0, slots := 0, locals := 0 } : Room) (va_Pc [.int ch] (fun U => pRO K [] U ∧ True)) (vp_Si (fun r => f_md_isDigit ch = r ∧ narrow .boolean (.int r) = .int r)) 0 0 (fun _ => False) := by
  refine Met.ofW (cc := b_md_isDigit) (maxL := 1) (ret := (some .boolean)) (by decide) rfl ?_
  intro p e s m args below meth c s₁ B hml hv
  obtain ⟨rfl, ⟨hP, hK, hG⟩, -⟩ := hv
  have hx := B.exec
  have hb := B.bytes
  have hr := B.returns
  have hts := atoms_spec (ws := w_md_isDigit) B.pre
  have hown : s.vm.findClass R_md = some m.cls := findClass_of_methodNamed B.named
  have hlocks := B.notSynchronized
  have htg := fun w h => hts w (List.mem_cons_of_mem _ h)
  have hS : va_S (fun _ => False) s.heap s.heap [] := va_S.rf
  have hl := lv_entry ([.int ch]) (n := 1) (Nat.le_of_ble_eq_true rfl)
  rw [lg_entry_eq]
  generalize (lg_sl ([.int ch]) ++ List.replicate (1 - (lg_sl ([.int ch])).length) Slot.unset).toArray = ls at hl ⊢
  have hl : lv_has ls 1 [(0, .int ch)] := hl
  have z0 : (0 : Int32).toInt = 0 := by decide
  have z1 : (1 : Int32).toInt = 1 := by decide
  have zm1 : (-1 : Int32).toInt = -1 := by decide
  have z2 : (2 : Int32).toInt = 2 := by decide
  have z3 : (3 : Int32).toInt = 3 := by decide
  have z7 : (7 : Int32).toInt = 7 := by decide
  have z8 : (8 : Int32).toInt = 8 := by decide
  have z16 : (16 : Int32).toInt = 16 := by decide
  have z64 : (64 : Int32).toInt = 64 := by decide
  have z100 : (100 : Int32).toInt = 100 := by decide
  have z330 : (330 : Int32).toInt = 330 := by decide
  have hF := f_md_isDigit.eq_1 ch
  refine lv_iload_n hx hb d_md_isDigit_0 rfl (lv_at hl 0 rfl) ?_
  refine lv_bipush (v := 48) hx hb d_md_isDigit_1 (by decide) ?_
  refine lv_icmp_lt (tgt := 16) hx hb d_md_isDigit_3 (by decide) (fun c_1 => ?_) (fun c_1 => ?_)
  · have hF := hF.trans (if_pos c_1)
    refine lv_iconst (v := 0) hx hb d_md_isDigit_16 (by decide) ?_
    exact W.zret (v := (0 : Int32)) hx hb hr (rfl) (fun t ht hW => ⟨_, rfl, ⟨hF, rfl⟩, ht⟩) hS.2.2 d_md_isDigit_17
  · have hF := hF.trans (if_neg c_1)
    refine lv_iload_n hx hb d_md_isDigit_6 rfl (lv_at hl 0 rfl) ?_
    refine lv_bipush (v := 57) hx hb d_md_isDigit_7 (by decide) ?_
    refine lv_icmp_gt (tgt := 16) hx hb d_md_isDigit_9 (by decide) (fun c_2 => ?_) (fun c_2 => ?_)
    · have hF := hF.trans (if_pos c_2)
      refine lv_iconst (v := 0) hx hb d_md_isDigit_16 (by decide) ?_
      exact W.zret (v := (0 : Int32)) hx hb hr (rfl) (fun t ht hW => ⟨_, rfl, ⟨hF, rfl⟩, ht⟩) hS.2.2 d_md_isDigit_17
    · have hF := hF.trans (if_neg c_2)
      refine lv_iconst (v := 1) hx hb d_md_isDigit_12 (by decide) ?_
      refine lv_goto (tgt := 17) hx hb d_md_isDigit_13 (by decide) ?_
      exact W.zret (v := (1 : Int32)) hx hb hr (rfl) (fun t ht hW => ⟨_, rfl, ⟨hF, rfl⟩, ht⟩) hS.2.2 d_md_isDigit_17
