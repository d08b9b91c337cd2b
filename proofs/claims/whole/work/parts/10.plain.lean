def f_gn_byteOf (part : Int64) (shift : Int32) : Int32 := ((((part.toUInt64 >>> (shift.toInt64.toUInt64 &&& Int64.toUInt64 63)).toInt64).toInt32) &&& (255 : Int32))
set_option maxHeartbeats 4000000 in
set_option maxRecDepth 100000 in
theorem c_gn_byteOf (l : Launch) (K : KT) (part : Int64) (shift : Int32) : Met l y_gn_byteOf w_gn_byteOf ({ frames := 0, cells := 0, slots := 0, locals := 0 } : Room) (va_Pc [.long part, .int shift] (fun U => pRO K [] U ∧ True)) (vp_Si (fun r => f_gn_byteOf part shift = r ∧ True)) 0 0 (fun _ => False) := by
  refine Met.ofW (cc := b_gn_byteOf) (maxL := 3) (ret := (some .int)) (by decide) rfl ?_
  intro p e s m args below meth c s₁ B hml hv
  obtain ⟨rfl, ⟨hP, hK, hG⟩, -⟩ := hv
  have hx := B.exec
  have hb := B.bytes
  have hr := B.returns
  have hts := atoms_spec (ws := w_gn_byteOf) B.pre
  have hown : s.vm.findClass R_gn = some m.cls := findClass_of_methodNamed B.named
  have hlocks := B.notSynchronized
  have htg := fun w h => hts w (List.mem_cons_of_mem _ h)
  have hS : va_S (fun _ => False) s.heap s.heap [] := va_S.rf
  have hl := lv_entry ([.long part, .int shift]) (n := 3) (Nat.le_of_ble_eq_true rfl)
  rw [lg_entry_eq]
  generalize (lg_sl ([.long part, .int shift]) ++ List.replicate (3 - (lg_sl ([.long part, .int shift])).length) Slot.unset).toArray = ls at hl ⊢
  have hl : lv_has ls 3 [(0, .long part), (2, .int shift)] := hl
  have hF := f_gn_byteOf.eq_1 part shift
  refine lv_lload_n hx hb d_gn_byteOf_0 rfl (lv_at hl 0 rfl) ?_
  refine lv_iload_n hx hb d_gn_byteOf_1 rfl (lv_at hl 1 rfl) ?_
  refine lv_lushr (v := (part.toUInt64 >>> (shift.toInt64.toUInt64 &&& Int64.toUInt64 63)).toInt64) hx hb d_gn_byteOf_2 rfl ?_
  refine lv_l2i (v := ((part.toUInt64 >>> (shift.toInt64.toUInt64 &&& Int64.toUInt64 63)).toInt64).toInt32) hx hb d_gn_byteOf_3 rfl ?_
  refine lv_sipush (v := 255) hx hb d_gn_byteOf_4 (by decide) ?_
  refine lv_iand hx hb d_gn_byteOf_7 ?_
  exact W.iret (v := (((part.toUInt64 >>> (shift.toInt64.toUInt64 &&& Int64.toUInt64 63)).toInt64).toInt32) &&& (255 : Int32)) hx hb hr (fun t ht hW => ⟨_, rfl, ⟨hF, trivial⟩, ht⟩) hS.2.2 d_gn_byteOf_8
def f_gn_isSquare (sq : Int32) : Int32 := (if sq < 0 then (0 : Int32) else (if (64 : Int32) ≤ sq then (0 : Int32) else (1 : Int32)))
theorem sq_in {sq r : Int32} {Q : Prop} (w : f_gn_isSquare sq = r ∧ Q) (c : ¬ r = 0) : vp_in sq 64 := by
  have e := w.1
  unfold f_gn_isSquare at e
  by_cases c1 : sq < 0
  · rw [if_pos c1] at e; exact absurd e.symm c
  · rw [if_neg c1] at e
    by_cases c2 : (64 : Int32) ≤ sq
    · rw [if_pos c2] at e; exact absurd e.symm c
    · exact in64 c1 c2
set_option maxHeartbeats 4000000 in
set_option maxRecDepth 100000 in
theorem c_gn_isSquare (l : Launch) (K : KT) (sq : Int32) : Met l y_gn_isSquare w_gn_isSquare ({ frames := 0, cells := 0, slots := 0, locals := 0 } : Room) (va_Pc [.int sq] (fun U => pRO K [] U ∧ True)) (vp_Si (fun r => f_gn_isSquare sq = r ∧ narrow .boolean (.int r) = .int r)) 0 0 (fun _ => False) := by
  refine Met.ofW (cc := b_gn_isSquare) (maxL := 1) (ret := (some .boolean)) (by decide) rfl ?_
  intro p e s m args below meth c s₁ B hml hv
  obtain ⟨rfl, ⟨hP, hK, hG⟩, -⟩ := hv
  have hx := B.exec
  have hb := B.bytes
  have hr := B.returns
  have hts := atoms_spec (ws := w_gn_isSquare) B.pre
  have hown : s.vm.findClass R_gn = some m.cls := findClass_of_methodNamed B.named
  have hlocks := B.notSynchronized
  have htg := fun w h => hts w (List.mem_cons_of_mem _ h)
  have hS : va_S (fun _ => False) s.heap s.heap [] := va_S.rf
  have hl := lv_entry ([.int sq]) (n := 1) (Nat.le_of_ble_eq_true rfl)
  rw [lg_entry_eq]
  generalize (lg_sl ([.int sq]) ++ List.replicate (1 - (lg_sl ([.int sq])).length) Slot.unset).toArray = ls at hl ⊢
  have hl : lv_has ls 1 [(0, .int sq)] := hl
  have hF := f_gn_isSquare.eq_1 sq
  refine lv_iload_n hx hb d_gn_isSquare_0 rfl (lv_at hl 0 rfl) ?_
  refine lv_if_lt (tgt := 14) hx hb d_gn_isSquare_1 (by decide) (fun c_1 => ?_) (fun c_1 => ?_)
  · have hF := hF.trans (if_pos c_1)
    refine lv_iconst (v := 0) hx hb d_gn_isSquare_14 (by decide) ?_
    exact W.zret (v := (0 : Int32)) hx hb hr (rfl) (fun t ht hW => ⟨_, rfl, ⟨hF, rfl⟩, ht⟩) hS.2.2 d_gn_isSquare_15
  · have hF := hF.trans (if_neg c_1)
    refine lv_iload_n hx hb d_gn_isSquare_4 rfl (lv_at hl 0 rfl) ?_
    refine lv_bipush (v := 64) hx hb d_gn_isSquare_5 (by decide) ?_
    refine lv_icmp_ge (tgt := 14) hx hb d_gn_isSquare_7 (by decide) (fun c_2 => ?_) (fun c_2 => ?_)
    · have hF := hF.trans (if_pos c_2)
      refine lv_iconst (v := 0) hx hb d_gn_isSquare_14 (by decide) ?_
      exact W.zret (v := (0 : Int32)) hx hb hr (rfl) (fun t ht hW => ⟨_, rfl, ⟨hF, rfl⟩, ht⟩) hS.2.2 d_gn_isSquare_15
    · have hF := hF.trans (if_neg c_2)
      refine lv_iconst (v := 1) hx hb d_gn_isSquare_10 (by decide) ?_
      refine lv_goto (tgt := 15) hx hb d_gn_isSquare_11 (by decide) ?_
      exact W.zret (v := (1 : Int32)) hx hb hr (rfl) (fun t ht hW => ⟨_, rfl, ⟨hF, rfl⟩, ht⟩) hS.2.2 d_gn_isSquare_15
def f_gn_isSide (sd : Int32) : Int32 := (if sd = 0 then (1 : Int32) else (if sd = (1 : Int32) then (1 : Int32) else (0 : Int32)))
set_option maxHeartbeats 4000000 in
set_option maxRecDepth 100000 in
theorem c_gn_isSide (l : Launch) (K : KT) (sd : Int32) : Met l y_gn_isSide w_gn_isSide ({ frames := 0, cells := 0, slots := 0, locals := 0 } : Room) (va_Pc [.int sd] (fun U => pRO K [] U ∧ True)) (vp_Si (fun r => f_gn_isSide sd = r ∧ narrow .boolean (.int r) = .int r)) 0 0 (fun _ => False) := by
  refine Met.ofW (cc := b_gn_isSide) (maxL := 1) (ret := (some .boolean)) (by decide) rfl ?_
  intro p e s m args below meth c s₁ B hml hv
  obtain ⟨rfl, ⟨hP, hK, hG⟩, -⟩ := hv
  have hx := B.exec
  have hb := B.bytes
  have hr := B.returns
  have hts := atoms_spec (ws := w_gn_isSide) B.pre
  have hown : s.vm.findClass R_gn = some m.cls := findClass_of_methodNamed B.named
  have hlocks := B.notSynchronized
  have htg := fun w h => hts w (List.mem_cons_of_mem _ h)
  have hS : va_S (fun _ => False) s.heap s.heap [] := va_S.rf
  have hl := lv_entry ([.int sd]) (n := 1) (Nat.le_of_ble_eq_true rfl)
  rw [lg_entry_eq]
  generalize (lg_sl ([.int sd]) ++ List.replicate (1 - (lg_sl ([.int sd])).length) Slot.unset).toArray = ls at hl ⊢
  have hl : lv_has ls 1 [(0, .int sd)] := hl
  have hF := f_gn_isSide.eq_1 sd
  refine lv_iload_n hx hb d_gn_isSide_0 rfl (lv_at hl 0 rfl) ?_
  refine lv_if_eq (tgt := 9) hx hb d_gn_isSide_1 (by decide) (fun c_1 => ?_) (fun c_1 => ?_)
  · have hF := hF.trans (if_pos c_1)
    refine lv_iconst (v := 1) hx hb d_gn_isSide_9 (by decide) ?_
    refine lv_goto (tgt := 14) hx hb d_gn_isSide_10 (by decide) ?_
    exact W.zret (v := (1 : Int32)) hx hb hr (rfl) (fun t ht hW => ⟨_, rfl, ⟨hF, rfl⟩, ht⟩) hS.2.2 d_gn_isSide_14
  · have hF := hF.trans (if_neg c_1)
    refine lv_iload_n hx hb d_gn_isSide_4 rfl (lv_at hl 0 rfl) ?_
    refine lv_iconst (v := 1) hx hb d_gn_isSide_5 (by decide) ?_
    refine lv_icmp_ne (tgt := 13) hx hb d_gn_isSide_6 (by decide) (fun c_2 => ?_) (fun c_2 => ?_)
    · have hF := hF.trans (if_neg c_2)
      refine lv_iconst (v := 0) hx hb d_gn_isSide_13 (by decide) ?_
      exact W.zret (v := (0 : Int32)) hx hb hr (rfl) (fun t ht hW => ⟨_, rfl, ⟨hF, rfl⟩, ht⟩) hS.2.2 d_gn_isSide_14
    · have hF := hF.trans (if_pos c_2)
      refine lv_iconst (v := 1) hx hb d_gn_isSide_9 (by decide) ?_
      refine lv_goto (tgt := 14) hx hb d_gn_isSide_10 (by decide) ?_
      exact W.zret (v := (1 : Int32)) hx hb hr (rfl) (fun t ht hW => ⟨_, rfl, ⟨hF, rfl⟩, ht⟩) hS.2.2 d_gn_isSide_14
def f_gn_fileOf (sq : Int32) : Int32 := (sq - sq / (8 : Int32) * (8 : Int32))
set_option maxHeartbeats 4000000 in
set_option maxRecDepth 100000 in
theorem c_gn_fileOf (l : Launch) (K : KT) (sq : Int32) : Met l y_gn_fileOf w_gn_fileOf ({ frames := 0, cells := 0, slots := 0, locals := 0 } : Room) (va_Pc [.int sq] (fun U => pRO K [] U ∧ True)) (vp_Si (fun r => f_gn_fileOf sq = r ∧ True)) 0 0 (fun _ => False) := by
  refine Met.ofW (cc := b_gn_fileOf) (maxL := 1) (ret := (some .int)) (by decide) rfl ?_
  intro p e s m args below meth c s₁ B hml hv
  obtain ⟨rfl, ⟨hP, hK, hG⟩, -⟩ := hv
  have hx := B.exec
  have hb := B.bytes
  have hr := B.returns
  have hts := atoms_spec (ws := w_gn_fileOf) B.pre
  have hown : s.vm.findClass R_gn = some m.cls := findClass_of_methodNamed B.named
  have hlocks := B.notSynchronized
  have htg := fun w h => hts w (List.mem_cons_of_mem _ h)
  have hS : va_S (fun _ => False) s.heap s.heap [] := va_S.rf
  have hl := lv_entry ([.int sq]) (n := 1) (Nat.le_of_ble_eq_true rfl)
  rw [lg_entry_eq]
  generalize (lg_sl ([.int sq]) ++ List.replicate (1 - (lg_sl ([.int sq])).length) Slot.unset).toArray = ls at hl ⊢
  have hl : lv_has ls 1 [(0, .int sq)] := hl
  have hF := f_gn_fileOf.eq_1 sq
  refine lv_iload_n hx hb d_gn_fileOf_0 rfl (lv_at hl 0 rfl) ?_
  refine lv_bipush (v := 8) hx hb d_gn_fileOf_1 (by decide) ?_
  refine lv_irem hx hb d_gn_fileOf_3 (by decide) ?_
  exact W.iret (v := sq - sq / (8 : Int32) * (8 : Int32)) hx hb hr (fun t ht hW => ⟨_, rfl, ⟨hF, trivial⟩, ht⟩) hS.2.2 d_gn_fileOf_4
def f_gn_rankOf (sq : Int32) : Int32 := (sq / (8 : Int32))
set_option maxHeartbeats 4000000 in
set_option maxRecDepth 100000 in
theorem c_gn_rankOf (l : Launch) (K : KT) (sq : Int32) : Met l y_gn_rankOf w_gn_rankOf ({ frames := 0, cells := 0, slots := 0, locals := 0 } : Room) (va_Pc [.int sq] (fun U => pRO K [] U ∧ True)) (vp_Si (fun r => f_gn_rankOf sq = r ∧ True)) 0 0 (fun _ => False) := by
  refine Met.ofW (cc := b_gn_rankOf) (maxL := 1) (ret := (some .int)) (by decide) rfl ?_
  intro p e s m args below meth c s₁ B hml hv
  obtain ⟨rfl, ⟨hP, hK, hG⟩, -⟩ := hv
  have hx := B.exec
  have hb := B.bytes
  have hr := B.returns
  have hts := atoms_spec (ws := w_gn_rankOf) B.pre
  have hown : s.vm.findClass R_gn = some m.cls := findClass_of_methodNamed B.named
  have hlocks := B.notSynchronized
  have htg := fun w h => hts w (List.mem_cons_of_mem _ h)
  have hS : va_S (fun _ => False) s.heap s.heap [] := va_S.rf
  have hl := lv_entry ([.int sq]) (n := 1) (Nat.le_of_ble_eq_true rfl)
  rw [lg_entry_eq]
  generalize (lg_sl ([.int sq]) ++ List.replicate (1 - (lg_sl ([.int sq])).length) Slot.unset).toArray = ls at hl ⊢
  have hl : lv_has ls 1 [(0, .int sq)] := hl
  have hF := f_gn_rankOf.eq_1 sq
  refine lv_iload_n hx hb d_gn_rankOf_0 rfl (lv_at hl 0 rfl) ?_
  refine lv_bipush (v := 8) hx hb d_gn_rankOf_1 (by decide) ?_
  refine lv_idiv hx hb d_gn_rankOf_3 (by decide) ?_
  exact W.iret (v := sq / (8 : Int32)) hx hb hr (fun t ht hW => ⟨_, rfl, ⟨hF, trivial⟩, ht⟩) hS.2.2 d_gn_rankOf_4
def f_gn_squareOf (fl : Int32) (rk : Int32) : Int32 := (if fl < 0 then (-1 : Int32) else (if (8 : Int32) ≤ fl then (-1 : Int32) else (if rk < 0 then (-1 : Int32) else (if rk < (8 : Int32) then ((rk * (8 : Int32)) + fl) else (-1 : Int32)))))
set_option maxHeartbeats 4000000 in
set_option maxRecDepth 100000 in
theorem c_gn_squareOf (l : Launch) (K : KT) (fl : Int32) (rk : Int32) : Met l y_gn_squareOf w_gn_squareOf ({ frames := 0, cells := 0, slots := 0, locals := 0 } : Room) (va_Pc [.int fl, .int rk] (fun U => pRO K [] U ∧ True)) (vp_Si (fun r => f_gn_squareOf fl rk = r ∧ True)) 0 0 (fun _ => False) := by
  refine Met.ofW (cc := b_gn_squareOf) (maxL := 2) (ret := (some .int)) (by decide) rfl ?_
  intro p e s m args below meth c s₁ B hml hv
  obtain ⟨rfl, ⟨hP, hK, hG⟩, -⟩ := hv
  have hx := B.exec
  have hb := B.bytes
  have hr := B.returns
  have hts := atoms_spec (ws := w_gn_squareOf) B.pre
  have hown : s.vm.findClass R_gn = some m.cls := findClass_of_methodNamed B.named
  have hlocks := B.notSynchronized
  have htg := fun w h => hts w (List.mem_cons_of_mem _ h)
  have hS : va_S (fun _ => False) s.heap s.heap [] := va_S.rf
  have hl := lv_entry ([.int fl, .int rk]) (n := 2) (Nat.le_of_ble_eq_true rfl)
  rw [lg_entry_eq]
  generalize (lg_sl ([.int fl, .int rk]) ++ List.replicate (2 - (lg_sl ([.int fl, .int rk])).length) Slot.unset).toArray = ls at hl ⊢
  have hl : lv_has ls 2 [(0, .int fl), (1, .int rk)] := hl
  have hF := f_gn_squareOf.eq_1 fl rk
  refine lv_iload_n hx hb d_gn_squareOf_0 rfl (lv_at hl 0 rfl) ?_
  refine lv_if_lt (tgt := 20) hx hb d_gn_squareOf_1 (by decide) (fun c_1 => ?_) (fun c_1 => ?_)
  · have hF := hF.trans (if_pos c_1)
    refine lv_iconst (v := -1) hx hb d_gn_squareOf_20 (by decide) ?_
    exact W.iret (v := (-1 : Int32)) hx hb hr (fun t ht hW => ⟨_, rfl, ⟨hF, trivial⟩, ht⟩) hS.2.2 d_gn_squareOf_21
  · have hF := hF.trans (if_neg c_1)
    refine lv_iload_n hx hb d_gn_squareOf_4 rfl (lv_at hl 0 rfl) ?_
    refine lv_bipush (v := 8) hx hb d_gn_squareOf_5 (by decide) ?_
    refine lv_icmp_ge (tgt := 20) hx hb d_gn_squareOf_7 (by decide) (fun c_2 => ?_) (fun c_2 => ?_)
    · have hF := hF.trans (if_pos c_2)
      refine lv_iconst (v := -1) hx hb d_gn_squareOf_20 (by decide) ?_
      exact W.iret (v := (-1 : Int32)) hx hb hr (fun t ht hW => ⟨_, rfl, ⟨hF, trivial⟩, ht⟩) hS.2.2 d_gn_squareOf_21
    · have hF := hF.trans (if_neg c_2)
      refine lv_iload_n hx hb d_gn_squareOf_10 rfl (lv_at hl 1 rfl) ?_
      refine lv_if_lt (tgt := 20) hx hb d_gn_squareOf_11 (by decide) (fun c_3 => ?_) (fun c_3 => ?_)
      · have hF := hF.trans (if_pos c_3)
        refine lv_iconst (v := -1) hx hb d_gn_squareOf_20 (by decide) ?_
        exact W.iret (v := (-1 : Int32)) hx hb hr (fun t ht hW => ⟨_, rfl, ⟨hF, trivial⟩, ht⟩) hS.2.2 d_gn_squareOf_21
      · have hF := hF.trans (if_neg c_3)
        refine lv_iload_n hx hb d_gn_squareOf_14 rfl (lv_at hl 1 rfl) ?_
        refine lv_bipush (v := 8) hx hb d_gn_squareOf_15 (by decide) ?_
        refine lv_icmp_lt (tgt := 22) hx hb d_gn_squareOf_17 (by decide) (fun c_4 => ?_) (fun c_4 => ?_)
        · have hF := hF.trans (if_pos c_4)
          refine lv_iload_n hx hb d_gn_squareOf_22 rfl (lv_at hl 1 rfl) ?_
          refine lv_bipush (v := 8) hx hb d_gn_squareOf_23 (by decide) ?_
          refine lv_imul hx hb d_gn_squareOf_25 ?_
          refine lv_iload_n hx hb d_gn_squareOf_26 rfl (lv_at hl 0 rfl) ?_
          refine lv_iadd hx hb d_gn_squareOf_27 ?_
          exact W.iret (v := (rk * (8 : Int32)) + fl) hx hb hr (fun t ht hW => ⟨_, rfl, ⟨hF, trivial⟩, ht⟩) hS.2.2 d_gn_squareOf_28
        · have hF := hF.trans (if_neg c_4)
          refine lv_iconst (v := -1) hx hb d_gn_squareOf_20 (by decide) ?_
          exact W.iret (v := (-1 : Int32)) hx hb hr (fun t ht hW => ⟨_, rfl, ⟨hF, trivial⟩, ht⟩) hS.2.2 d_gn_squareOf_21
def f_gn_manOf (kd : Int32) (sd : Int32) : Int32 := (if sd = 0 then kd else (kd + (6 : Int32)))
set_option maxHeartbeats 4000000 in
set_option maxRecDepth 100000 in
theorem c_gn_manOf (l : Launch) (K : KT) (kd : Int32) (sd : Int32) : Met l y_gn_manOf w_gn_manOf ({ frames := 0, cells := 0, slots := 0, locals := 0 } : Room) (va_Pc [.int kd, .int sd] (fun U => pRO K [] U ∧ True)) (vp_Si (fun r => f_gn_manOf kd sd = r ∧ True)) 0 0 (fun _ => False) := by
  refine Met.ofW (cc := b_gn_manOf) (maxL := 2) (ret := (some .int)) (by decide) rfl ?_
  intro p e s m args below meth c s₁ B hml hv
  obtain ⟨rfl, ⟨hP, hK, hG⟩, -⟩ := hv
  have hx := B.exec
  have hb := B.bytes
  have hr := B.returns
  have hts := atoms_spec (ws := w_gn_manOf) B.pre
  have hown : s.vm.findClass R_gn = some m.cls := findClass_of_methodNamed B.named
  have hlocks := B.notSynchronized
  have htg := fun w h => hts w (List.mem_cons_of_mem _ h)
  have hS : va_S (fun _ => False) s.heap s.heap [] := va_S.rf
  have hl := lv_entry ([.int kd, .int sd]) (n := 2) (Nat.le_of_ble_eq_true rfl)
  rw [lg_entry_eq]
  generalize (lg_sl ([.int kd, .int sd]) ++ List.replicate (2 - (lg_sl ([.int kd, .int sd])).length) Slot.unset).toArray = ls at hl ⊢
  have hl : lv_has ls 2 [(0, .int kd), (1, .int sd)] := hl
  have hF := f_gn_manOf.eq_1 kd sd
  refine lv_iload_n hx hb d_gn_manOf_0 rfl (lv_at hl 1 rfl) ?_
  refine lv_if_ne (tgt := 8) hx hb d_gn_manOf_1 (by decide) (fun c_1 => ?_) (fun c_1 => ?_)
  · have hF := hF.trans (if_neg c_1)
    refine lv_iload_n hx hb d_gn_manOf_8 rfl (lv_at hl 0 rfl) ?_
    refine lv_bipush (v := 6) hx hb d_gn_manOf_9 (by decide) ?_
    refine lv_iadd hx hb d_gn_manOf_11 ?_
    exact W.iret (v := kd + (6 : Int32)) hx hb hr (fun t ht hW => ⟨_, rfl, ⟨hF, trivial⟩, ht⟩) hS.2.2 d_gn_manOf_12
  · have hF := hF.trans (if_pos c_1)
    refine lv_iload_n hx hb d_gn_manOf_4 rfl (lv_at hl 0 rfl) ?_
    refine lv_goto (tgt := 12) hx hb d_gn_manOf_5 (by decide) ?_
    exact W.iret (v := kd) hx hb hr (fun t ht hW => ⟨_, rfl, ⟨hF, trivial⟩, ht⟩) hS.2.2 d_gn_manOf_12
def f_gn_kindOf (mn : Int32) : Int32 := (if mn ≤ (6 : Int32) then mn else (mn - (6 : Int32)))
set_option maxHeartbeats 4000000 in
set_option maxRecDepth 100000 in
theorem c_gn_kindOf (l : Launch) (K : KT) (mn : Int32) : Met l y_gn_kindOf w_gn_kindOf ({ frames := 0, cells := 0, slots := 0, locals := 0 } : Room) (va_Pc [.int mn] (fun U => pRO K [] U ∧ True)) (vp_Si (fun r => f_gn_kindOf mn = r ∧ True)) 0 0 (fun _ => False) := by
  refine Met.ofW (cc := b_gn_kindOf) (maxL := 1) (ret := (some .int)) (by decide) rfl ?_
  intro p e s m args below meth c s₁ B hml hv
  obtain ⟨rfl, ⟨hP, hK, hG⟩, -⟩ := hv
  have hx := B.exec
  have hb := B.bytes
  have hr := B.returns
  have hts := atoms_spec (ws := w_gn_kindOf) B.pre
  have hown : s.vm.findClass R_gn = some m.cls := findClass_of_methodNamed B.named
  have hlocks := B.notSynchronized
  have htg := fun w h => hts w (List.mem_cons_of_mem _ h)
  have hS : va_S (fun _ => False) s.heap s.heap [] := va_S.rf
  have hl := lv_entry ([.int mn]) (n := 1) (Nat.le_of_ble_eq_true rfl)
  rw [lg_entry_eq]
  generalize (lg_sl ([.int mn]) ++ List.replicate (1 - (lg_sl ([.int mn])).length) Slot.unset).toArray = ls at hl ⊢
  have hl : lv_has ls 1 [(0, .int mn)] := hl
  have hF := f_gn_kindOf.eq_1 mn
  refine lv_iload_n hx hb d_gn_kindOf_0 rfl (lv_at hl 0 rfl) ?_
  refine lv_bipush (v := 6) hx hb d_gn_kindOf_1 (by decide) ?_
  refine lv_icmp_le (tgt := 13) hx hb d_gn_kindOf_3 (by decide) (fun c_1 => ?_) (fun c_1 => ?_)
  · have hF := hF.trans (if_pos c_1)
    refine lv_iload_n hx hb d_gn_kindOf_13 rfl (lv_at hl 0 rfl) ?_
    exact W.iret (v := mn) hx hb hr (fun t ht hW => ⟨_, rfl, ⟨hF, trivial⟩, ht⟩) hS.2.2 d_gn_kindOf_14
  · have hF := hF.trans (if_neg c_1)
    refine lv_iload_n hx hb d_gn_kindOf_6 rfl (lv_at hl 0 rfl) ?_
    refine lv_bipush (v := 6) hx hb d_gn_kindOf_7 (by decide) ?_
    refine lv_isub hx hb d_gn_kindOf_9 ?_
    refine lv_goto (tgt := 14) hx hb d_gn_kindOf_10 (by decide) ?_
    exact W.iret (v := mn - (6 : Int32)) hx hb hr (fun t ht hW => ⟨_, rfl, ⟨hF, trivial⟩, ht⟩) hS.2.2 d_gn_kindOf_14
def f_gn_ownRank (rk : Int32) (sd : Int32) : Int32 := (if sd = 0 then rk else ((7 : Int32) - rk))
set_option maxHeartbeats 4000000 in
set_option maxRecDepth 100000 in
theorem c_gn_ownRank (l : Launch) (K : KT) (rk : Int32) (sd : Int32) : Met l y_gn_ownRank w_gn_ownRank ({ frames := 0, cells := 0, slots := 0, locals := 0 } : Room) (va_Pc [.int rk, .int sd] (fun U => pRO K [] U ∧ True)) (vp_Si (fun r => f_gn_ownRank rk sd = r ∧ True)) 0 0 (fun _ => False) := by
  refine Met.ofW (cc := b_gn_ownRank) (maxL := 2) (ret := (some .int)) (by decide) rfl ?_
  intro p e s m args below meth c s₁ B hml hv
  obtain ⟨rfl, ⟨hP, hK, hG⟩, -⟩ := hv
  have hx := B.exec
  have hb := B.bytes
  have hr := B.returns
  have hts := atoms_spec (ws := w_gn_ownRank) B.pre
  have hown : s.vm.findClass R_gn = some m.cls := findClass_of_methodNamed B.named
  have hlocks := B.notSynchronized
  have htg := fun w h => hts w (List.mem_cons_of_mem _ h)
  have hS : va_S (fun _ => False) s.heap s.heap [] := va_S.rf
  have hl := lv_entry ([.int rk, .int sd]) (n := 2) (Nat.le_of_ble_eq_true rfl)
  rw [lg_entry_eq]
  generalize (lg_sl ([.int rk, .int sd]) ++ List.replicate (2 - (lg_sl ([.int rk, .int sd])).length) Slot.unset).toArray = ls at hl ⊢
  have hl : lv_has ls 2 [(0, .int rk), (1, .int sd)] := hl
  have hF := f_gn_ownRank.eq_1 rk sd
  refine lv_iload_n hx hb d_gn_ownRank_0 rfl (lv_at hl 1 rfl) ?_
  refine lv_if_ne (tgt := 8) hx hb d_gn_ownRank_1 (by decide) (fun c_1 => ?_) (fun c_1 => ?_)
  · have hF := hF.trans (if_neg c_1)
    refine lv_bipush (v := 7) hx hb d_gn_ownRank_8 (by decide) ?_
    refine lv_iload_n hx hb d_gn_ownRank_10 rfl (lv_at hl 0 rfl) ?_
    refine lv_isub hx hb d_gn_ownRank_11 ?_
    exact W.iret (v := (7 : Int32) - rk) hx hb hr (fun t ht hW => ⟨_, rfl, ⟨hF, trivial⟩, ht⟩) hS.2.2 d_gn_ownRank_12
  · have hF := hF.trans (if_pos c_1)
    refine lv_iload_n hx hb d_gn_ownRank_4 rfl (lv_at hl 0 rfl) ?_
    refine lv_goto (tgt := 12) hx hb d_gn_ownRank_5 (by decide) ?_
    exact W.iret (v := rk) hx hb hr (fun t ht hW => ⟨_, rfl, ⟨hF, trivial⟩, ht⟩) hS.2.2 d_gn_ownRank_12
def f_gn_passantRank (sd : Int32) : Int32 := (if sd = 0 then (54 : Int32) else (51 : Int32))
set_option maxHeartbeats 4000000 in
set_option maxRecDepth 100000 in
theorem c_gn_passantRank (l : Launch) (K : KT) (sd : Int32) : Met l y_gn_passantRank w_gn_passantRank ({ frames := 0, cells := 0, slots := 0, locals := 0 } : Room) (va_Pc [.int sd] (fun U => pRO K [] U ∧ True)) (vp_Si (fun r => f_gn_passantRank sd = r ∧ narrow .char (.int r) = .int r)) 0 0 (fun _ => False) := by
  refine Met.ofW (cc := b_gn_passantRank) (maxL := 1) (ret := (some .char)) (by decide) rfl ?_
  intro p e s m args below meth c s₁ B hml hv
  obtain ⟨rfl, ⟨hP, hK, hG⟩, -⟩ := hv
  have hx := B.exec
  have hb := B.bytes
  have hr := B.returns
  have hts := atoms_spec (ws := w_gn_passantRank) B.pre
  have hown : s.vm.findClass R_gn = some m.cls := findClass_of_methodNamed B.named
  have hlocks := B.notSynchronized
  have htg := fun w h => hts w (List.mem_cons_of_mem _ h)
  have hS : va_S (fun _ => False) s.heap s.heap [] := va_S.rf
  have hl := lv_entry ([.int sd]) (n := 1) (Nat.le_of_ble_eq_true rfl)
  rw [lg_entry_eq]
  generalize (lg_sl ([.int sd]) ++ List.replicate (1 - (lg_sl ([.int sd])).length) Slot.unset).toArray = ls at hl ⊢
  have hl : lv_has ls 1 [(0, .int sd)] := hl
  have hF := f_gn_passantRank.eq_1 sd
  refine lv_iload_n hx hb d_gn_passantRank_0 rfl (lv_at hl 0 rfl) ?_
  refine lv_if_ne (tgt := 9) hx hb d_gn_passantRank_1 (by decide) (fun c_1 => ?_) (fun c_1 => ?_)
  · have hF := hF.trans (if_neg c_1)
    refine lv_bipush (v := 51) hx hb d_gn_passantRank_9 (by decide) ?_
    exact W.zret (v := (51 : Int32)) hx hb hr (rfl) (fun t ht hW => ⟨_, rfl, ⟨hF, rfl⟩, ht⟩) hS.2.2 d_gn_passantRank_11
  · have hF := hF.trans (if_pos c_1)
    refine lv_bipush (v := 54) hx hb d_gn_passantRank_4 (by decide) ?_
    refine lv_goto (tgt := 11) hx hb d_gn_passantRank_6 (by decide) ?_
    exact W.zret (v := (54 : Int32)) hx hb hr (rfl) (fun t ht hW => ⟨_, rfl, ⟨hF, rfl⟩, ht⟩) hS.2.2 d_gn_passantRank_11
def f_gn_becomesOf (mv : Int32) : Int32 := (mv >>> ((12 : Int32) &&& 31))
set_option maxHeartbeats 4000000 in
set_option maxRecDepth 100000 in
theorem c_gn_becomesOf (l : Launch) (K : KT) (mv : Int32) : Met l y_gn_becomesOf w_gn_becomesOf ({ frames := 0, cells := 0, slots := 0, locals := 0 } : Room) (va_Pc [.int mv] (fun U => pRO K [] U ∧ True)) (vp_Si (fun r => f_gn_becomesOf mv = r ∧ True)) 0 0 (fun _ => False) := by
  refine Met.ofW (cc := b_gn_becomesOf) (maxL := 1) (ret := (some .int)) (by decide) rfl ?_
  intro p e s m args below meth c s₁ B hml hv
  obtain ⟨rfl, ⟨hP, hK, hG⟩, -⟩ := hv
  have hx := B.exec
  have hb := B.bytes
  have hr := B.returns
  have hts := atoms_spec (ws := w_gn_becomesOf) B.pre
  have hown : s.vm.findClass R_gn = some m.cls := findClass_of_methodNamed B.named
  have hlocks := B.notSynchronized
  have htg := fun w h => hts w (List.mem_cons_of_mem _ h)
  have hS : va_S (fun _ => False) s.heap s.heap [] := va_S.rf
  have hl := lv_entry ([.int mv]) (n := 1) (Nat.le_of_ble_eq_true rfl)
  rw [lg_entry_eq]
  generalize (lg_sl ([.int mv]) ++ List.replicate (1 - (lg_sl ([.int mv])).length) Slot.unset).toArray = ls at hl ⊢
  have hl : lv_has ls 1 [(0, .int mv)] := hl
  have hF := f_gn_becomesOf.eq_1 mv
  refine lv_iload_n hx hb d_gn_becomesOf_0 rfl (lv_at hl 0 rfl) ?_
  refine lv_bipush (v := 12) hx hb d_gn_becomesOf_1 (by decide) ?_
  refine lv_ishr hx hb d_gn_becomesOf_3 ?_
  exact W.iret (v := mv >>> ((12 : Int32) &&& 31)) hx hb hr (fun t ht hW => ⟨_, rfl, ⟨hF, trivial⟩, ht⟩) hS.2.2 d_gn_becomesOf_4
def f_gn_isPromotion (kd : Int32) : Int32 := (if kd < (2 : Int32) then (0 : Int32) else (if (5 : Int32) < kd then (0 : Int32) else (1 : Int32)))
set_option maxHeartbeats 4000000 in
set_option maxRecDepth 100000 in
theorem c_gn_isPromotion (l : Launch) (K : KT) (kd : Int32) : Met l y_gn_isPromotion w_gn_isPromotion ({ frames := 0, cells := 0, slots := 0, locals := 0 } : Room) (va_Pc [.int kd] (fun U => pRO K [] U ∧ True)) (vp_Si (fun r => f_gn_isPromotion kd = r ∧ narrow .boolean (.int r) = .int r)) 0 0 (fun _ => False) := by
  refine Met.ofW (cc := b_gn_isPromotion) (maxL := 1) (ret := (some .boolean)) (by decide) rfl ?_
  intro p e s m args below meth c s₁ B hml hv
  obtain ⟨rfl, ⟨hP, hK, hG⟩, -⟩ := hv
  have hx := B.exec
  have hb := B.bytes
  have hr := B.returns
  have hts := atoms_spec (ws := w_gn_isPromotion) B.pre
  have hown : s.vm.findClass R_gn = some m.cls := findClass_of_methodNamed B.named
  have hlocks := B.notSynchronized
  have htg := fun w h => hts w (List.mem_cons_of_mem _ h)
  have hS : va_S (fun _ => False) s.heap s.heap [] := va_S.rf
  have hl := lv_entry ([.int kd]) (n := 1) (Nat.le_of_ble_eq_true rfl)
  rw [lg_entry_eq]
  generalize (lg_sl ([.int kd]) ++ List.replicate (1 - (lg_sl ([.int kd])).length) Slot.unset).toArray = ls at hl ⊢
  have hl : lv_has ls 1 [(0, .int kd)] := hl
  have hF := f_gn_isPromotion.eq_1 kd
  refine lv_iload_n hx hb d_gn_isPromotion_0 rfl (lv_at hl 0 rfl) ?_
  refine lv_iconst (v := 2) hx hb d_gn_isPromotion_1 (by decide) ?_
  refine lv_icmp_lt (tgt := 14) hx hb d_gn_isPromotion_2 (by decide) (fun c_1 => ?_) (fun c_1 => ?_)
  · have hF := hF.trans (if_pos c_1)
    refine lv_iconst (v := 0) hx hb d_gn_isPromotion_14 (by decide) ?_
    exact W.zret (v := (0 : Int32)) hx hb hr (rfl) (fun t ht hW => ⟨_, rfl, ⟨hF, rfl⟩, ht⟩) hS.2.2 d_gn_isPromotion_15
  · have hF := hF.trans (if_neg c_1)
    refine lv_iload_n hx hb d_gn_isPromotion_5 rfl (lv_at hl 0 rfl) ?_
    refine lv_iconst (v := 5) hx hb d_gn_isPromotion_6 (by decide) ?_
    refine lv_icmp_gt (tgt := 14) hx hb d_gn_isPromotion_7 (by decide) (fun c_2 => ?_) (fun c_2 => ?_)
    · have hF := hF.trans (if_pos c_2)
      refine lv_iconst (v := 0) hx hb d_gn_isPromotion_14 (by decide) ?_
      exact W.zret (v := (0 : Int32)) hx hb hr (rfl) (fun t ht hW => ⟨_, rfl, ⟨hF, rfl⟩, ht⟩) hS.2.2 d_gn_isPromotion_15
    · have hF := hF.trans (if_neg c_2)
      refine lv_iconst (v := 1) hx hb d_gn_isPromotion_10 (by decide) ?_
      refine lv_goto (tgt := 15) hx hb d_gn_isPromotion_11 (by decide) ?_
      exact W.zret (v := (1 : Int32)) hx hb hr (rfl) (fun t ht hW => ⟨_, rfl, ⟨hF, rfl⟩, ht⟩) hS.2.2 d_gn_isPromotion_15
def f_gn_isMove (mv : Int32) : Int32 := (bnd (f_gn_becomesOf mv) (fun r_1 => (if mv < 0 then (0 : Int32) else (if r_1 = 0 then (1 : Int32) else (bnd (f_gn_isPromotion r_1) (fun r_4 => (if r_4 = 0 then (0 : Int32) else (1 : Int32))))))))
set_option maxHeartbeats 4000000 in
set_option maxRecDepth 100000 in
theorem c_gn_isMove (l : Launch) (K : KT) (mv : Int32) : Met l y_gn_isMove w_gn_isMove ({ frames := 1, cells := 0, slots := 0, locals := 20 } : Room) (va_Pc [.int mv] (fun U => pRO K [] U ∧ True)) (vp_Si (fun r => f_gn_isMove mv = r ∧ narrow .boolean (.int r) = .int r)) 0 0 (fun _ => False) := by
  refine Met.ofW (cc := b_gn_isMove) (maxL := 2) (ret := (some .boolean)) (by decide) rfl ?_
  intro p e s m args below meth c s₁ B hml hv
  obtain ⟨rfl, ⟨hP, hK, hG⟩, -⟩ := hv
  have hx := B.exec
  have hb := B.bytes
  have hr := B.returns
  have hts := atoms_spec (ws := w_gn_isMove) B.pre
  have hown : s.vm.findClass R_gn = some m.cls := findClass_of_methodNamed B.named
  have hlocks := B.notSynchronized
  have htg := fun w h => hts w (List.mem_cons_of_mem _ h)
  have hS : va_S (fun _ => False) s.heap s.heap [] := va_S.rf
  have hl := lv_entry ([.int mv]) (n := 2) (Nat.le_of_ble_eq_true rfl)
  rw [lg_entry_eq]
  generalize (lg_sl ([.int mv]) ++ List.replicate (2 - (lg_sl ([.int mv])).length) Slot.unset).toArray = ls at hl ⊢
  have hl : lv_has ls 2 [(0, .int mv)] := hl
  have hF := f_gn_isMove.eq_1 mv
  refine lv_iload_n hx hb d_gn_isMove_0 rfl (lv_at hl 0 rfl) ?_
  have hPc : va_P (kD K) vwCl [] _ := hP.sub [] rfl
  refine vp_callSi (va_Run.run (va_runS (As := [.int mv]) (rest := []) ⟨hx, hb, hml, hown, htg⟩ (c_gn_becomesOf l K mv) (va_cwS 1 htg (g_S q_518 q_519 q_1 (g_w q_520)) rfl rfl rfl k_gn_becomesOf ⟨Nat.le_of_ble_eq_true rfl, Nat.le_of_ble_eq_true rfl⟩) ⟨ro_blind, ro_use hPc hK hG hS trivial⟩ rfl rfl hl.1 rfl (lv_room (Nat.le_of_ble_eq_true rfl)) d_gn_isMove_1 ⟨Nat.zero_le _, Nat.zero_le _⟩)) (fun r_1 hw_1 => ?_)
  have hF := hF.trans (bnd_s hw_1.1)
  refine lv_istore_n (lv' := [(1, .int r_1), (0, .int mv)]) hx hb d_gn_isMove_4 rfl hl (by decide) rfl (fun ls hl => ?_)
  refine lv_iload_n hx hb d_gn_isMove_5 rfl (lv_at hl 1 rfl) ?_
  refine lv_if_lt (tgt := 24) hx hb d_gn_isMove_6 (by decide) (fun c_2 => ?_) (fun c_2 => ?_)
  · have hF := hF.trans (if_pos c_2)
    refine lv_iconst (v := 0) hx hb d_gn_isMove_24 (by decide) ?_
    exact W.zret (v := (0 : Int32)) hx hb hr (rfl) (fun t ht hW => ⟨_, rfl, ⟨hF, rfl⟩, ht⟩) hS.2.2 d_gn_isMove_25
  · have hF := hF.trans (if_neg c_2)
    refine lv_iload_n hx hb d_gn_isMove_9 rfl (lv_at hl 0 rfl) ?_
    refine lv_if_eq (tgt := 20) hx hb d_gn_isMove_10 (by decide) (fun c_3 => ?_) (fun c_3 => ?_)
    · have hF := hF.trans (if_pos c_3)
      refine lv_iconst (v := 1) hx hb d_gn_isMove_20 (by decide) ?_
      refine lv_goto (tgt := 25) hx hb d_gn_isMove_21 (by decide) ?_
      exact W.zret (v := (1 : Int32)) hx hb hr (rfl) (fun t ht hW => ⟨_, rfl, ⟨hF, rfl⟩, ht⟩) hS.2.2 d_gn_isMove_25
    · have hF := hF.trans (if_neg c_3)
      refine lv_iload_n hx hb d_gn_isMove_13 rfl (lv_at hl 0 rfl) ?_
      have hPc : va_P (kD K) vwCl [] _ := hP.sub [] rfl
      refine vp_callSi (va_Run.run (va_runS (As := [.int r_1]) (rest := []) ⟨hx, hb, hml, hown, htg⟩ (c_gn_isPromotion l K r_1) (va_cwS 1 htg (g_S q_521 q_522 q_1 (g_w q_523)) rfl rfl rfl k_gn_isPromotion ⟨Nat.le_of_ble_eq_true rfl, Nat.le_of_ble_eq_true rfl⟩) ⟨ro_blind, ro_use hPc hK hG hS trivial⟩ rfl rfl hl.1 rfl (lv_room (Nat.le_of_ble_eq_true rfl)) d_gn_isMove_14 ⟨Nat.zero_le _, Nat.zero_le _⟩)) (fun r_4 hw_4 => ?_)
      have hF := hF.trans (bnd_s hw_4.1)
      have hn_4 := hw_4.2
      refine lv_if_eq (tgt := 24) hx hb d_gn_isMove_17 (by decide) (fun c_5 => ?_) (fun c_5 => ?_)
      · have hF := hF.trans (if_pos c_5)
        refine lv_iconst (v := 0) hx hb d_gn_isMove_24 (by decide) ?_
        exact W.zret (v := (0 : Int32)) hx hb hr (rfl) (fun t ht hW => ⟨_, rfl, ⟨hF, rfl⟩, ht⟩) hS.2.2 d_gn_isMove_25
      · have hF := hF.trans (if_neg c_5)
        refine lv_iconst (v := 1) hx hb d_gn_isMove_20 (by decide) ?_
        refine lv_goto (tgt := 25) hx hb d_gn_isMove_21 (by decide) ?_
        exact W.zret (v := (1 : Int32)) hx hb hr (rfl) (fun t ht hW => ⟨_, rfl, ⟨hF, rfl⟩, ht⟩) hS.2.2 d_gn_isMove_25
def f_gn_fromOf (mv : Int32) : Int32 := (mv &&& (63 : Int32))
set_option maxHeartbeats 4000000 in
set_option maxRecDepth 100000 in
theorem c_gn_fromOf (l : Launch) (K : KT) (mv : Int32) : Met l y_gn_fromOf w_gn_fromOf ({ frames := 0, cells := 0, slots := 0, locals := 0 } : Room) (va_Pc [.int mv] (fun U => pRO K [] U ∧ True)) (vp_Si (fun r => f_gn_fromOf mv = r ∧ True)) 0 0 (fun _ => False) := by
  refine Met.ofW (cc := b_gn_fromOf) (maxL := 1) (ret := (some .int)) (by decide) rfl ?_
  intro p e s m args below meth c s₁ B hml hv
  obtain ⟨rfl, ⟨hP, hK, hG⟩, -⟩ := hv
  have hx := B.exec
  have hb := B.bytes
  have hr := B.returns
  have hts := atoms_spec (ws := w_gn_fromOf) B.pre
  have hown : s.vm.findClass R_gn = some m.cls := findClass_of_methodNamed B.named
  have hlocks := B.notSynchronized
  have htg := fun w h => hts w (List.mem_cons_of_mem _ h)
  have hS : va_S (fun _ => False) s.heap s.heap [] := va_S.rf
  have hl := lv_entry ([.int mv]) (n := 1) (Nat.le_of_ble_eq_true rfl)
  rw [lg_entry_eq]
  generalize (lg_sl ([.int mv]) ++ List.replicate (1 - (lg_sl ([.int mv])).length) Slot.unset).toArray = ls at hl ⊢
  have hl : lv_has ls 1 [(0, .int mv)] := hl
  have hF := f_gn_fromOf.eq_1 mv
  refine lv_iload_n hx hb d_gn_fromOf_0 rfl (lv_at hl 0 rfl) ?_
  refine lv_bipush (v := 63) hx hb d_gn_fromOf_1 (by decide) ?_
  refine lv_iand hx hb d_gn_fromOf_3 ?_
  exact W.iret (v := mv &&& (63 : Int32)) hx hb hr (fun t ht hW => ⟨_, rfl, ⟨hF, trivial⟩, ht⟩) hS.2.2 d_gn_fromOf_4
def f_gn_toOf (mv : Int32) : Int32 := ((mv >>> ((6 : Int32) &&& 31)) &&& (63 : Int32))
set_option maxHeartbeats 4000000 in
set_option maxRecDepth 100000 in
theorem c_gn_toOf (l : Launch) (K : KT) (mv : Int32) : Met l y_gn_toOf w_gn_toOf ({ frames := 0, cells := 0, slots := 0, locals := 0 } : Room) (va_Pc [.int mv] (fun U => pRO K [] U ∧ True)) (vp_Si (fun r => f_gn_toOf mv = r ∧ True)) 0 0 (fun _ => False) := by
  refine Met.ofW (cc := b_gn_toOf) (maxL := 1) (ret := (some .int)) (by decide) rfl ?_
  intro p e s m args below meth c s₁ B hml hv
  obtain ⟨rfl, ⟨hP, hK, hG⟩, -⟩ := hv
  have hx := B.exec
  have hb := B.bytes
  have hr := B.returns
  have hts := atoms_spec (ws := w_gn_toOf) B.pre
  have hown : s.vm.findClass R_gn = some m.cls := findClass_of_methodNamed B.named
  have hlocks := B.notSynchronized
  have htg := fun w h => hts w (List.mem_cons_of_mem _ h)
  have hS : va_S (fun _ => False) s.heap s.heap [] := va_S.rf
  have hl := lv_entry ([.int mv]) (n := 1) (Nat.le_of_ble_eq_true rfl)
  rw [lg_entry_eq]
  generalize (lg_sl ([.int mv]) ++ List.replicate (1 - (lg_sl ([.int mv])).length) Slot.unset).toArray = ls at hl ⊢
  have hl : lv_has ls 1 [(0, .int mv)] := hl
  have hF := f_gn_toOf.eq_1 mv
  refine lv_iload_n hx hb d_gn_toOf_0 rfl (lv_at hl 0 rfl) ?_
  refine lv_bipush (v := 6) hx hb d_gn_toOf_1 (by decide) ?_
  refine lv_ishr hx hb d_gn_toOf_3 ?_
  refine lv_bipush (v := 63) hx hb d_gn_toOf_4 (by decide) ?_
  refine lv_iand hx hb d_gn_toOf_6 ?_
  exact W.iret (v := (mv >>> ((6 : Int32) &&& 31)) &&& (63 : Int32)) hx hb hr (fun t ht hW => ⟨_, rfl, ⟨hF, trivial⟩, ht⟩) hS.2.2 d_gn_toOf_7
def f_rd_isDigit (ch : Int32) : Int32 := (if ch < (48 : Int32) then (0 : Int32) else (if (57 : Int32) < ch then (0 : Int32) else (1 : Int32)))
set_option maxHeartbeats 4000000 in
set_option maxRecDepth 100000 in
theorem c_rd_isDigit (l : Launch) (K : KT) (ch : Int32) : Met l y_rd_isDigit w_rd_isDigit ({ frames := 0, cells := 0, slots := 0, locals := 0 } : Room) (va_Pc [.int ch] (fun U => pRO K [] U ∧ True)) (vp_Si (fun r => f_rd_isDigit ch = r ∧ narrow .boolean (.int r) = .int r)) 0 0 (fun _ => False) := by
  refine Met.ofW (cc := b_rd_isDigit) (maxL := 1) (ret := (some .boolean)) (by decide) rfl ?_
  intro p e s m args below meth c s₁ B hml hv
  obtain ⟨rfl, ⟨hP, hK, hG⟩, -⟩ := hv
  have hx := B.exec
  have hb := B.bytes
  have hr := B.returns
  have hts := atoms_spec (ws := w_rd_isDigit) B.pre
  have hown : s.vm.findClass R_rd = some m.cls := findClass_of_methodNamed B.named
  have hlocks := B.notSynchronized
  have htg := fun w h => hts w (List.mem_cons_of_mem _ h)
  have hS : va_S (fun _ => False) s.heap s.heap [] := va_S.rf
  have hl := lv_entry ([.int ch]) (n := 1) (Nat.le_of_ble_eq_true rfl)
  rw [lg_entry_eq]
  generalize (lg_sl ([.int ch]) ++ List.replicate (1 - (lg_sl ([.int ch])).length) Slot.unset).toArray = ls at hl ⊢
  have hl : lv_has ls 1 [(0, .int ch)] := hl
  have hF := f_rd_isDigit.eq_1 ch
  refine lv_iload_n hx hb d_rd_isDigit_0 rfl (lv_at hl 0 rfl) ?_
  refine lv_bipush (v := 48) hx hb d_rd_isDigit_1 (by decide) ?_
  refine lv_icmp_lt (tgt := 16) hx hb d_rd_isDigit_3 (by decide) (fun c_1 => ?_) (fun c_1 => ?_)
  · have hF := hF.trans (if_pos c_1)
    refine lv_iconst (v := 0) hx hb d_rd_isDigit_16 (by decide) ?_
    exact W.zret (v := (0 : Int32)) hx hb hr (rfl) (fun t ht hW => ⟨_, rfl, ⟨hF, rfl⟩, ht⟩) hS.2.2 d_rd_isDigit_17
  · have hF := hF.trans (if_neg c_1)
    refine lv_iload_n hx hb d_rd_isDigit_6 rfl (lv_at hl 0 rfl) ?_
    refine lv_bipush (v := 57) hx hb d_rd_isDigit_7 (by decide) ?_
    refine lv_icmp_gt (tgt := 16) hx hb d_rd_isDigit_9 (by decide) (fun c_2 => ?_) (fun c_2 => ?_)
    · have hF := hF.trans (if_pos c_2)
      refine lv_iconst (v := 0) hx hb d_rd_isDigit_16 (by decide) ?_
      exact W.zret (v := (0 : Int32)) hx hb hr (rfl) (fun t ht hW => ⟨_, rfl, ⟨hF, rfl⟩, ht⟩) hS.2.2 d_rd_isDigit_17
    · have hF := hF.trans (if_neg c_2)
      refine lv_iconst (v := 1) hx hb d_rd_isDigit_12 (by decide) ?_
      refine lv_goto (tgt := 17) hx hb d_rd_isDigit_13 (by decide) ?_
      exact W.zret (v := (1 : Int32)) hx hb hr (rfl) (fun t ht hW => ⟨_, rfl, ⟨hF, rfl⟩, ht⟩) hS.2.2 d_rd_isDigit_17
