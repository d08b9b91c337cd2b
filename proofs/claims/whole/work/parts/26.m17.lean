def f_md_isAttacked_C277 (on : (Nat → Int32)) (sq : Int32) (by_ : Int32) (k14 : Int32 → Int32 → Int32 → Int32) (v3 : Int32) (v4 : Int32) (v5 : Int32) (v12 : Int32) (v13 : Int32) (t0 : Int32)  : Int32 := (if v12 = 0 then (if v13 = 0 then (if t0 = 0 then (k14 v3 v4 (v5 + (1 : Int32))) else (bnd (f_md_isOpen on v5 sq) (fun r_12 => (if r_12 = 0 then (k14 v3 v4 (v5 + (1 : Int32))) else (1 : Int32))))) else (bnd (f_md_isOpen on v5 sq) (fun r_9 => (if r_9 = 0 then (k14 v3 v4 (v5 + (1 : Int32))) else (1 : Int32))))) else (1 : Int32))
def f_md_isAttacked_C248 (on : (Nat → Int32)) (sq : Int32) (by_ : Int32) (k14 : Int32 → Int32 → Int32 → Int32) (v3 : Int32) (v4 : Int32) (v5 : Int32) (v7 : Int32) (v10 : Int32) (v11 : Int32) (v12 : Int32) (t0 : Int32)  : Int32 := (if v10 = 0 then (if v7 = (4 : Int32) then (f_md_isAttacked_C277 on sq by_ k14 v3 v4 v5 v12 t0 (1 : Int32)) else (if v7 = (5 : Int32) then (f_md_isAttacked_C277 on sq by_ k14 v3 v4 v5 v12 t0 (1 : Int32)) else (f_md_isAttacked_C277 on sq by_ k14 v3 v4 v5 v12 t0 (0 : Int32)))) else (if v11 = 0 then (if v7 = (4 : Int32) then (f_md_isAttacked_C277 on sq by_ k14 v3 v4 v5 v12 t0 (1 : Int32)) else (if v7 = (5 : Int32) then (f_md_isAttacked_C277 on sq by_ k14 v3 v4 v5 v12 t0 (1 : Int32)) else (f_md_isAttacked_C277 on sq by_ k14 v3 v4 v5 v12 t0 (0 : Int32)))) else (f_md_isAttacked_C277 on sq by_ k14 v3 v4 v5 v12 t0 (0 : Int32))))
def f_md_isAttacked_C222 (on : (Nat → Int32)) (sq : Int32) (by_ : Int32) (k14 : Int32 → Int32 → Int32 → Int32) (v3 : Int32) (v4 : Int32) (v5 : Int32) (v7 : Int32) (v10 : Int32) (v11 : Int32) (t0 : Int32)  : Int32 := (if v10 = v11 then (if v7 = (3 : Int32) then (f_md_isAttacked_C248 on sq by_ k14 v3 v4 v5 v7 v10 v11 t0 (1 : Int32)) else (if v7 = (5 : Int32) then (f_md_isAttacked_C248 on sq by_ k14 v3 v4 v5 v7 v10 v11 t0 (1 : Int32)) else (f_md_isAttacked_C248 on sq by_ k14 v3 v4 v5 v7 v10 v11 t0 (0 : Int32)))) else (f_md_isAttacked_C248 on sq by_ k14 v3 v4 v5 v7 v10 v11 t0 (0 : Int32)))
def f_md_isAttacked_C93 (on : (Nat → Int32)) (sq : Int32) (by_ : Int32) (k14 : Int32 → Int32 → Int32 → Int32) (v3 : Int32) (v4 : Int32) (v5 : Int32) (v6 : Int32) (v7 : Int32) (v9 : Int32) (v10 : Int32) (t0 : Int32)  : Int32 := (if v6 ≤ 0 then (k14 v3 v4 (v5 + (1 : Int32))) else (if v6 ≤ (6 : Int32) then (if by_ = (1 : Int32) then (k14 v3 v4 (v5 + (1 : Int32))) else (if v5 = sq then (k14 v3 v4 (v5 + (1 : Int32))) else (if v7 = (1 : Int32) then (if v10 = (1 : Int32) then (if by_ = 0 then (if v9 = (1 : Int32) then (f_md_isAttacked_C222 on sq by_ k14 v3 v4 v5 v7 v10 t0 (1 : Int32)) else (f_md_isAttacked_C222 on sq by_ k14 v3 v4 v5 v7 v10 t0 (0 : Int32))) else (if v9 = (-1 : Int32) then (f_md_isAttacked_C222 on sq by_ k14 v3 v4 v5 v7 v10 t0 (1 : Int32)) else (f_md_isAttacked_C222 on sq by_ k14 v3 v4 v5 v7 v10 t0 (0 : Int32)))) else (f_md_isAttacked_C222 on sq by_ k14 v3 v4 v5 v7 v10 t0 (0 : Int32))) else (if v7 = (2 : Int32) then (if (v10 + t0) = (3 : Int32) then (if v10 ≤ 0 then (f_md_isAttacked_C222 on sq by_ k14 v3 v4 v5 v7 v10 t0 (0 : Int32)) else (if t0 ≤ 0 then (f_md_isAttacked_C222 on sq by_ k14 v3 v4 v5 v7 v10 t0 (0 : Int32)) else (f_md_isAttacked_C222 on sq by_ k14 v3 v4 v5 v7 v10 t0 (1 : Int32)))) else (f_md_isAttacked_C222 on sq by_ k14 v3 v4 v5 v7 v10 t0 (0 : Int32))) else (if v7 = (6 : Int32) then (if (2 : Int32) ≤ v10 then (f_md_isAttacked_C222 on sq by_ k14 v3 v4 v5 v7 v10 t0 (0 : Int32)) else (if (2 : Int32) ≤ t0 then (f_md_isAttacked_C222 on sq by_ k14 v3 v4 v5 v7 v10 t0 (0 : Int32)) else (f_md_isAttacked_C222 on sq by_ k14 v3 v4 v5 v7 v10 t0 (1 : Int32)))) else (f_md_isAttacked_C222 on sq by_ k14 v3 v4 v5 v7 v10 t0 (0 : Int32))))))) else (if by_ = (1 : Int32) then (if v5 = sq then (k14 v3 v4 (v5 + (1 : Int32))) else (if v7 = (1 : Int32) then (if v10 = (1 : Int32) then (if by_ = 0 then (if v9 = (1 : Int32) then (f_md_isAttacked_C222 on sq by_ k14 v3 v4 v5 v7 v10 t0 (1 : Int32)) else (f_md_isAttacked_C222 on sq by_ k14 v3 v4 v5 v7 v10 t0 (0 : Int32))) else (if v9 = (-1 : Int32) then (f_md_isAttacked_C222 on sq by_ k14 v3 v4 v5 v7 v10 t0 (1 : Int32)) else (f_md_isAttacked_C222 on sq by_ k14 v3 v4 v5 v7 v10 t0 (0 : Int32)))) else (f_md_isAttacked_C222 on sq by_ k14 v3 v4 v5 v7 v10 t0 (0 : Int32))) else (if v7 = (2 : Int32) then (if (v10 + t0) = (3 : Int32) then (if v10 ≤ 0 then (f_md_isAttacked_C222 on sq by_ k14 v3 v4 v5 v7 v10 t0 (0 : Int32)) else (if t0 ≤ 0 then (f_md_isAttacked_C222 on sq by_ k14 v3 v4 v5 v7 v10 t0 (0 : Int32)) else (f_md_isAttacked_C222 on sq by_ k14 v3 v4 v5 v7 v10 t0 (1 : Int32)))) else (f_md_isAttacked_C222 on sq by_ k14 v3 v4 v5 v7 v10 t0 (0 : Int32))) else (if v7 = (6 : Int32) then (if (2 : Int32) ≤ v10 then (f_md_isAttacked_C222 on sq by_ k14 v3 v4 v5 v7 v10 t0 (0 : Int32)) else (if (2 : Int32) ≤ t0 then (f_md_isAttacked_C222 on sq by_ k14 v3 v4 v5 v7 v10 t0 (0 : Int32)) else (f_md_isAttacked_C222 on sq by_ k14 v3 v4 v5 v7 v10 t0 (1 : Int32)))) else (f_md_isAttacked_C222 on sq by_ k14 v3 v4 v5 v7 v10 t0 (0 : Int32)))))) else (k14 v3 v4 (v5 + (1 : Int32))))))
def f_md_isAttacked_C78 (on : (Nat → Int32)) (sq : Int32) (by_ : Int32) (k14 : Int32 → Int32 → Int32 → Int32) (v3 : Int32) (v4 : Int32) (v5 : Int32) (v6 : Int32) (v7 : Int32) (v9 : Int32) (t0 : Int32)  : Int32 := (if 0 ≤ v9 then (f_md_isAttacked_C93 on sq by_ k14 v3 v4 v5 v6 v7 v9 t0 v9) else (f_md_isAttacked_C93 on sq by_ k14 v3 v4 v5 v6 v7 v9 t0 (-v9)))
def f_md_isAttacked_C44 (on : (Nat → Int32)) (sq : Int32) (by_ : Int32) (k14 : Int32 → Int32 → Int32 → Int32) (v3 : Int32) (v4 : Int32) (v5 : Int32) (v6 : Int32) (t0 : Int32)  : Int32 := (if 0 ≤ (v3 - (v5 - v5 / (8 : Int32) * (8 : Int32))) then (f_md_isAttacked_C78 on sq by_ k14 v3 v4 v5 v6 t0 (v4 - (v5 / (8 : Int32))) (v3 - (v5 - v5 / (8 : Int32) * (8 : Int32)))) else (f_md_isAttacked_C78 on sq by_ k14 v3 v4 v5 v6 t0 (v4 - (v5 / (8 : Int32))) (-(v3 - (v5 - v5 / (8 : Int32) * (8 : Int32))))))
def f_md_isAttacked_L14 (on : (Nat → Int32)) (sq : Int32) (by_ : Int32) : Nat → Int32 → Int32 → Int32 → Int32
  | 0, _, _, _ => 0
  | n + 1, v3, v4, v5 => (if (64 : Int32) ≤ v5 then (0 : Int32) else (if (on v5.toNatClampNeg) ≤ (6 : Int32) then (f_md_isAttacked_C44 on sq by_ (fun a0 a1 a2 => (f_md_isAttacked_L14 on sq by_  n a0 a1 a2)) v3 v4 v5 (on v5.toNatClampNeg) (on v5.toNatClampNeg)) else (f_md_isAttacked_C44 on sq by_ (fun a0 a1 a2 => (f_md_isAttacked_L14 on sq by_  n a0 a1 a2)) v3 v4 v5 (on v5.toNatClampNeg) ((on v5.toNatClampNeg) - (6 : Int32)))))
def f_md_isAttacked (on : (Nat → Int32)) (sq : Int32) (by_ : Int32) : Int32 := (f_md_isAttacked_L14 on sq by_  65 (sq - sq / (8 : Int32) * (8 : Int32)) (sq / (8 : Int32)) (0 : Int32))
set_option maxHeartbeats 4000000 in
set_option maxRecDepth 100000 in
theorem c_md_isAttacked (l : Launch) (K : KT) (onh : Nat) (on : (Nat → Int32)) (sq : Int32) (by_ : Int32) : Met l y_md_isAttacked w_md_isAttacked ({ frames := 1, cells := 0, slots := 0, locals := 26 } : Room) (va_Pc [.ref onh, .int sq, .int by_] (fun U => pRO K [(onh, .inl ((kI K), 64, .inl on))] U ∧ (0 ≤ sq.toInt ∧ sq.toInt < 64) ∧ True)) (vp_Si (fun r => f_md_isAttacked on sq by_ = r ∧ narrow .boolean (.int r) = .int r)) 0 0 (fun _ => False) := by
  refine Met.ofW (cc := b_md_isAttacked) (maxL := 15) (ret := (some .boolean)) (by decide) rfl ?_
  intro p e s m args below meth c s₁ B hml hv
  obtain ⟨rfl, ⟨hP, hK, hG⟩, h_q, -⟩ := hv
  have hx := B.exec
  have hb := B.bytes
  have hr := B.returns
  have hts := atoms_spec (ws := w_md_isAttacked) B.pre
  have hown : s.vm.findClass R_md = some m.cls := findClass_of_methodNamed B.named
  have hlocks := B.notSynchronized
  have htg := fun w h => hts w (List.mem_cons_of_mem _ h)
  have hS : va_S (fun _ => False) s.heap s.heap [] := va_S.rf
  have hl := lv_entry ([.ref onh, .int sq, .int by_]) (n := 15) (Nat.le_of_ble_eq_true rfl)
  rw [lg_entry_eq]
  generalize (lg_sl ([.ref onh, .int sq, .int by_]) ++ List.replicate (15 - (lg_sl ([.ref onh, .int sq, .int by_])).length) Slot.unset).toArray = ls at hl ⊢
  have hl : lv_has ls 15 [(0, .ref onh), (1, .int sq), (2, .int by_)] := hl
  have z0 : (0 : Int32).toInt = 0 := by decide
  have z1 : (1 : Int32).toInt = 1 := by decide
  have zm1 : (-1 : Int32).toInt = -1 := by decide
  have z2 : (2 : Int32).toInt = 2 := by decide
  have z3 : (3 : Int32).toInt = 3 := by decide
  have z7 : (7 : Int32).toInt = 7 := by decide
  have z8 : (8 : Int32).toInt = 8 := by decide
  have z16 : (16 : Int32).toInt = 16 := by decide
  have z64 : (64 : Int32).toInt = 64 := by decide
  have z100 : (100 : Int32).toInt = 100 := by decide
  have z330 : (330 : Int32).toInt = 330 := by decide
  have hF := f_md_isAttacked.eq_1 on sq by_
  refine lv_iload_n hx hb d_md_isAttacked_0 rfl (lv_at hl 1 rfl) ?_
  refine lv_bipush (v := 8) hx hb d_md_isAttacked_1 (by decide) ?_
  refine lv_irem hx hb d_md_isAttacked_3 (by decide) ?_
  refine lv_istore_n (lv' := [(3, .int (sq - sq / (8 : Int32) * (8 : Int32))), (0, .ref onh), (1, .int sq), (2, .int by_)]) hx hb d_md_isAttacked_4 rfl hl (by decide) rfl (fun ls hl => ?_)
  refine lv_iload_n hx hb d_md_isAttacked_5 rfl (lv_at hl 2 rfl) ?_
  refine lv_bipush (v := 8) hx hb d_md_isAttacked_6 (by decide) ?_
  refine lv_idiv hx hb d_md_isAttacked_8 (by decide) ?_
  refine lv_istore (lv' := [(4, .int (sq / (8 : Int32))), (3, .int (sq - sq / (8 : Int32) * (8 : Int32))), (0, .ref onh), (1, .int sq), (2, .int by_)]) hx hb d_md_isAttacked_9 hl (by decide) rfl (fun ls hl => ?_)
  refine lv_iconst (v := 0) hx hb d_md_isAttacked_11 (by decide) ?_
  refine lv_istore (lv' := [(5, .int (0 : Int32)), (4, .int (sq / (8 : Int32))), (3, .int (sq - sq / (8 : Int32) * (8 : Int32))), (0, .ref onh), (1, .int sq), (2, .int by_)]) hx hb d_md_isAttacked_12 hl (by decide) rfl (fun ls hl => ?_)
  have loop14 : ∀ (n14 : Nat) (v3 : Int32) (v4 : Int32) (v5 : Int32) (ls : Array Slot), 0 ≤ v5.toInt → v3 = sq - sq / (8 : Int32) * (8 : Int32) → v4 = sq / (8 : Int32) → ((64 : Int) - v5.toInt).toNat < n14 → lv_has ls 15 [(0, .ref onh), (1, .int sq), (2, .int by_), (3, .int v3), (4, .int v4), (5, .int v5)] → f_md_isAttacked on sq by_ = f_md_isAttacked_L14 on sq by_  n14 v3 v4 v5 → W p l e (headSpec w_md_isAttacked ({ frames := 1, cells := 0, slots := 0, locals := 26 } : Room)).room s m ([(.ref onh : Value), .int sq, .int by_].toArray) below meth c s.heap [] 0 0 (MQ below (vp_Si (fun r => f_md_isAttacked on sq by_ = r ∧ narrow .boolean (.int r) = .int r)) ([(.ref onh : Value), .int sq, .int by_].toArray) s 0 0 ((fun _ => False))) (F0 m 14 ls []) := by
    intro n14
    induction n14 with
    | zero =>
      intro _ _ _ _ _ _ _ hz
      exact absurd hz (Nat.not_lt_zero _)
    | succ n14 ih14 =>
      intro v3 v4 v5 ls i0 f0 r0 hm hl hF
      rw [f_md_isAttacked_L14] at hF
      refine lv_iload hx hb d_md_isAttacked_14 (lv_at hl 5 rfl) ?_
      refine lv_bipush (v := 64) hx hb d_md_isAttacked_16 (by decide) ?_
      refine lv_icmp_ge (tgt := 312) hx hb d_md_isAttacked_18 (by decide) (fun c_1 => ?_) (fun c_1 => ?_)
      · have hF := hF.trans (if_pos c_1)
        refine lv_iconst (v := 0) hx hb d_md_isAttacked_312 (by decide) ?_
        exact W.zret (v := (0 : Int32)) hx hb hr (rfl) (fun t ht hW => ⟨_, rfl, ⟨hF, rfl⟩, ht⟩) hS.2.2 d_md_isAttacked_313
      · have hF := hF.trans (if_neg c_1)
        refine lv_aload_n hx hb d_md_isAttacked_21 rfl (lv_at hl 0 rfl) ?_
        refine lv_iload hx hb d_md_isAttacked_22 (lv_at hl 5 rfl) ?_
        have h_2 : vp_in v5 64 := lp_in i0 c_1 (by decide)
        refine va_iald hx hb hK hP 0 0 rfl rfl h_2 d_md_isAttacked_24 ?_
        refine lv_istore (lv' := [(6, .int (on v5.toNatClampNeg)), (0, .ref onh), (1, .int sq), (2, .int by_), (3, .int v3), (4, .int v4), (5, .int v5)]) hx hb d_md_isAttacked_25 hl (by decide) rfl (fun ls hl => ?_)
        refine lv_iload hx hb d_md_isAttacked_27 (lv_at hl 0 rfl) ?_
        refine lv_bipush (v := 6) hx hb d_md_isAttacked_29 (by decide) ?_
        have cut44 : ∀ (v3 : Int32) (v4 : Int32) (v5 : Int32) (v6 : Int32) (t0 : Int32) (ls : Array Slot), 0 ≤ v5.toInt → v3 = sq - sq / (8 : Int32) * (8 : Int32) → v4 = sq / (8 : Int32) → ¬ (64 : Int32) ≤ v5 → ((64 : Int) - v5.toInt).toNat < n14 + 1 → lv_has ls 15 [(0, .ref onh), (1, .int sq), (2, .int by_), (3, .int v3), (4, .int v4), (5, .int v5), (6, .int v6)] → f_md_isAttacked on sq by_ = f_md_isAttacked_C44 on sq by_ (fun a0 a1 a2 => (f_md_isAttacked_L14 on sq by_  n14 a0 a1 a2)) v3 v4 v5 v6 t0 → W p l e (headSpec w_md_isAttacked ({ frames := 1, cells := 0, slots := 0, locals := 26 } : Room)).room s m ([(.ref onh : Value), .int sq, .int by_].toArray) below meth c s.heap [] 0 0 (MQ below (vp_Si (fun r => f_md_isAttacked on sq by_ = r ∧ narrow .boolean (.int r) = .int r)) ([(.ref onh : Value), .int sq, .int by_].toArray) s 0 0 ((fun _ => False))) (F0 m 44 ls [.int t0]) := by
          intro v3 v4 v5 v6 t0 ls i0 f0 r0 j1 hm hl hF
          rw [f_md_isAttacked_C44] at hF
          refine lv_istore (lv' := [(7, .int t0), (0, .ref onh), (1, .int sq), (2, .int by_), (3, .int v3), (4, .int v4), (5, .int v5), (6, .int v6)]) hx hb d_md_isAttacked_44 hl (by decide) rfl (fun ls hl => ?_)
          refine lv_iload_n hx hb d_md_isAttacked_46 rfl (lv_at hl 4 rfl) ?_
          refine lv_iload hx hb d_md_isAttacked_47 (lv_at hl 6 rfl) ?_
          refine lv_bipush (v := 8) hx hb d_md_isAttacked_49 (by decide) ?_
          refine lv_irem hx hb d_md_isAttacked_51 (by decide) ?_
          refine lv_isub hx hb d_md_isAttacked_52 ?_
          refine lv_istore (lv' := [(8, .int (v3 - (v5 - v5 / (8 : Int32) * (8 : Int32)))), (7, .int t0), (0, .ref onh), (1, .int sq), (2, .int by_), (3, .int v3), (4, .int v4), (5, .int v5), (6, .int v6)]) hx hb d_md_isAttacked_53 hl (by decide) rfl (fun ls hl => ?_)
          refine lv_iload hx hb d_md_isAttacked_55 (lv_at hl 6 rfl) ?_
          refine lv_iload hx hb d_md_isAttacked_57 (lv_at hl 7 rfl) ?_
          refine lv_bipush (v := 8) hx hb d_md_isAttacked_59 (by decide) ?_
          refine lv_idiv hx hb d_md_isAttacked_61 (by decide) ?_
          refine lv_isub hx hb d_md_isAttacked_62 ?_
          refine lv_istore (lv' := [(9, .int (v4 - (v5 / (8 : Int32)))), (8, .int (v3 - (v5 - v5 / (8 : Int32) * (8 : Int32)))), (7, .int t0), (0, .ref onh), (1, .int sq), (2, .int by_), (3, .int v3), (4, .int v4), (5, .int v5), (6, .int v6)]) hx hb d_md_isAttacked_63 hl (by decide) rfl (fun ls hl => ?_)
          refine lv_iload hx hb d_md_isAttacked_65 (lv_at hl 1 rfl) ?_
          have cut78 : ∀ (v3 : Int32) (v4 : Int32) (v5 : Int32) (v6 : Int32) (v7 : Int32) (v9 : Int32) (t0 : Int32) (ls : Array Slot), 0 ≤ v5.toInt → v3 = sq - sq / (8 : Int32) * (8 : Int32) → v4 = sq / (8 : Int32) → ¬ (64 : Int32) ≤ v5 → ((64 : Int) - v5.toInt).toNat < n14 + 1 → t0 = iab (v3 - (v5 - v5 / (8 : Int32) * (8 : Int32))) → v9 = v4 - v5 / (8 : Int32) → lv_has ls 15 [(0, .ref onh), (1, .int sq), (2, .int by_), (3, .int v3), (4, .int v4), (5, .int v5), (6, .int v6), (7, .int v7), (9, .int v9)] → f_md_isAttacked on sq by_ = f_md_isAttacked_C78 on sq by_ (fun a0 a1 a2 => (f_md_isAttacked_L14 on sq by_  n14 a0 a1 a2)) v3 v4 v5 v6 v7 v9 t0 → W p l e (headSpec w_md_isAttacked ({ frames := 1, cells := 0, slots := 0, locals := 26 } : Room)).room s m ([(.ref onh : Value), .int sq, .int by_].toArray) below meth c s.heap [] 0 0 (MQ below (vp_Si (fun r => f_md_isAttacked on sq by_ = r ∧ narrow .boolean (.int r) = .int r)) ([(.ref onh : Value), .int sq, .int by_].toArray) s 0 0 ((fun _ => False))) (F0 m 78 ls [.int t0]) := by
            intro v3 v4 v5 v6 v7 v9 t0 ls i0 f0 r0 j1 hm av w9 hl hF
            rw [f_md_isAttacked_C78] at hF
            refine lv_istore (lv' := [(10, .int t0), (0, .ref onh), (1, .int sq), (2, .int by_), (3, .int v3), (4, .int v4), (5, .int v5), (6, .int v6), (7, .int v7), (9, .int v9)]) hx hb d_md_isAttacked_78 hl (by decide) rfl (fun ls hl => ?_)
            refine lv_iload hx hb d_md_isAttacked_80 (lv_at hl 9 rfl) ?_
            have cut93 : ∀ (v3 : Int32) (v4 : Int32) (v5 : Int32) (v6 : Int32) (v7 : Int32) (v9 : Int32) (v10 : Int32) (t0 : Int32) (ls : Array Slot), 0 ≤ v5.toInt → v3 = sq - sq / (8 : Int32) * (8 : Int32) → v4 = sq / (8 : Int32) → ¬ (64 : Int32) ≤ v5 → ((64 : Int) - v5.toInt).toNat < n14 + 1 → v10 = iab (v3 - (v5 - v5 / (8 : Int32) * (8 : Int32))) → t0 = iab v9 → v9 = v4 - v5 / (8 : Int32) → lv_has ls 15 [(0, .ref onh), (1, .int sq), (2, .int by_), (3, .int v3), (4, .int v4), (5, .int v5), (6, .int v6), (7, .int v7), (9, .int v9), (10, .int v10)] → f_md_isAttacked on sq by_ = f_md_isAttacked_C93 on sq by_ (fun a0 a1 a2 => (f_md_isAttacked_L14 on sq by_  n14 a0 a1 a2)) v3 v4 v5 v6 v7 v9 v10 t0 → W p l e (headSpec w_md_isAttacked ({ frames := 1, cells := 0, slots := 0, locals := 26 } : Room)).room s m ([(.ref onh : Value), .int sq, .int by_].toArray) below meth c s.heap [] 0 0 (MQ below (vp_Si (fun r => f_md_isAttacked on sq by_ = r ∧ narrow .boolean (.int r) = .int r)) ([(.ref onh : Value), .int sq, .int by_].toArray) s 0 0 ((fun _ => False))) (F0 m 93 ls [.int t0]) := by
              intro v3 v4 v5 v6 v7 v9 v10 t0 ls i0 f0 r0 j1 hm a0 bv w9 hl hF
              rw [f_md_isAttacked_C93] at hF
              refine lv_istore (lv' := [(11, .int t0), (0, .ref onh), (1, .int sq), (2, .int by_), (3, .int v3), (4, .int v4), (5, .int v5), (6, .int v6), (7, .int v7), (9, .int v9), (10, .int v10)]) hx hb d_md_isAttacked_93 hl (by decide) rfl (fun ls hl => ?_)
              refine lv_iload hx hb d_md_isAttacked_95 (lv_at hl 7 rfl) ?_
              refine lv_if_le (tgt := 306) hx hb d_md_isAttacked_97 (by decide) (fun c_3 => ?_) (fun c_3 => ?_)
              · have hF := hF.trans (if_pos c_3)
                refine lv_iinc (v := v5 + (1 : Int32)) (lv' := [(5, .int (v5 + (1 : Int32))), (11, .int t0), (0, .ref onh), (1, .int sq), (2, .int by_), (3, .int v3), (4, .int v4), (6, .int v6), (7, .int v7), (9, .int v9), (10, .int v10)]) hx hb d_md_isAttacked_306 hl (k := 6) rfl rfl (by decide) rfl (fun ls hl => ?_)
                refine lv_goto (tgt := 14) hx hb d_md_isAttacked_309 (by decide) ?_
                exact ih14  v3 v4 (v5 + (1 : Int32)) ls (lp_s i0 j1) (f0) (r0) (lp_d i0 j1 (by decide) hm) (lv_sub hl [2, 3, 4, 5, 6, 0] rfl) hF
              · have hF := hF.trans (if_neg c_3)
                refine lv_iload hx hb d_md_isAttacked_100 (lv_at hl 7 rfl) ?_
                refine lv_bipush (v := 6) hx hb d_md_isAttacked_102 (by decide) ?_
                refine lv_icmp_le (tgt := 111) hx hb d_md_isAttacked_104 (by decide) (fun c_4 => ?_) (fun c_4 => ?_)
                · have hF := hF.trans (if_pos c_4)
                  refine lv_iconst (v := 0) hx hb d_md_isAttacked_111 (by decide) ?_
                  refine lv_iload_n hx hb d_md_isAttacked_112 rfl (lv_at hl 3 rfl) ?_
                  refine lv_iconst (v := 1) hx hb d_md_isAttacked_113 (by decide) ?_
                  refine lv_icmp_ne (tgt := 121) hx hb d_md_isAttacked_114 (by decide) (fun c_5 => ?_) (fun c_5 => ?_)
                  · have hF := hF.trans (if_neg c_5)
                    refine lv_iconst (v := 0) hx hb d_md_isAttacked_121 (by decide) ?_
                    refine lv_icmp_ne (tgt := 306) hx hb d_md_isAttacked_122 (by decide) (fun c => False.elim (by revert c; decide)) (fun _ => ?_)
                    refine lv_iload hx hb d_md_isAttacked_125 (lv_at hl 6 rfl) ?_
                    refine lv_iload_n hx hb d_md_isAttacked_127 rfl (lv_at hl 2 rfl) ?_
                    refine lv_icmp_eq (tgt := 306) hx hb d_md_isAttacked_128 (by decide) (fun c_6 => ?_) (fun c_6 => ?_)
                    · have hF := hF.trans (if_pos c_6)
                      refine lv_iinc (v := v5 + (1 : Int32)) (lv' := [(5, .int (v5 + (1 : Int32))), (11, .int t0), (0, .ref onh), (1, .int sq), (2, .int by_), (3, .int v3), (4, .int v4), (6, .int v6), (7, .int v7), (9, .int v9), (10, .int v10)]) hx hb d_md_isAttacked_306 hl (k := 6) rfl rfl (by decide) rfl (fun ls hl => ?_)
                      refine lv_goto (tgt := 14) hx hb d_md_isAttacked_309 (by decide) ?_
                      exact ih14  v3 v4 (v5 + (1 : Int32)) ls (lp_s i0 j1) (f0) (r0) (lp_d i0 j1 (by decide) hm) (lv_sub hl [2, 3, 4, 5, 6, 0] rfl) hF
                    · have hF := hF.trans (if_neg c_6)
                      refine lv_iload hx hb d_md_isAttacked_131 (lv_at hl 8 rfl) ?_
                      refine lv_iconst (v := 1) hx hb d_md_isAttacked_133 (by decide) ?_
                      have cut222 : ∀ (v3 : Int32) (v4 : Int32) (v5 : Int32) (v7 : Int32) (v10 : Int32) (v11 : Int32) (t0 : Int32) (ls : Array Slot), 0 ≤ v5.toInt → v3 = sq - sq / (8 : Int32) * (8 : Int32) → v4 = sq / (8 : Int32) → ¬ (64 : Int32) ≤ v5 → ((64 : Int) - v5.toInt).toNat < n14 + 1 → v10 = iab (v3 - (v5 - v5 / (8 : Int32) * (8 : Int32))) → v11 = iab (v4 - v5 / (8 : Int32)) → ¬ v5 = sq → lv_has ls 15 [(0, .ref onh), (1, .int sq), (2, .int by_), (3, .int v3), (4, .int v4), (5, .int v5), (7, .int v7), (10, .int v10), (11, .int v11)] → f_md_isAttacked on sq by_ = f_md_isAttacked_C222 on sq by_ (fun a0 a1 a2 => (f_md_isAttacked_L14 on sq by_  n14 a0 a1 a2)) v3 v4 v5 v7 v10 v11 t0 → W p l e (headSpec w_md_isAttacked ({ frames := 1, cells := 0, slots := 0, locals := 26 } : Room)).room s m ([(.ref onh : Value), .int sq, .int by_].toArray) below meth c s.heap [] 0 0 (MQ below (vp_Si (fun r => f_md_isAttacked on sq by_ = r ∧ narrow .boolean (.int r) = .int r)) ([(.ref onh : Value), .int sq, .int by_].toArray) s 0 0 ((fun _ => False))) (F0 m 222 ls [.int t0]) := by
                        intro v3 v4 v5 v7 v10 v11 t0 ls i0 f0 r0 j1 hm a0 b0 d0 hl hF
                        rw [f_md_isAttacked_C222] at hF
                        refine lv_istore (lv' := [(12, .int t0), (0, .ref onh), (1, .int sq), (2, .int by_), (3, .int v3), (4, .int v4), (5, .int v5), (7, .int v7), (10, .int v10), (11, .int v11)]) hx hb d_md_isAttacked_222 hl (by decide) rfl (fun ls hl => ?_)
                        refine lv_iload hx hb d_md_isAttacked_224 (lv_at hl 8 rfl) ?_
                        refine lv_iload hx hb d_md_isAttacked_226 (lv_at hl 9 rfl) ?_
                        have cut248 : ∀ (v3 : Int32) (v4 : Int32) (v5 : Int32) (v7 : Int32) (v10 : Int32) (v11 : Int32) (v12 : Int32) (t0 : Int32) (ls : Array Slot), 0 ≤ v5.toInt → v3 = sq - sq / (8 : Int32) * (8 : Int32) → v4 = sq / (8 : Int32) → ¬ (64 : Int32) ≤ v5 → ((64 : Int) - v5.toInt).toNat < n14 + 1 → v10 = iab (v3 - (v5 - v5 / (8 : Int32) * (8 : Int32))) → v11 = iab (v4 - v5 / (8 : Int32)) → ¬ v5 = sq → (t0 = 0 ∨ v10 = v11) → lv_has ls 15 [(0, .ref onh), (1, .int sq), (2, .int by_), (3, .int v3), (4, .int v4), (5, .int v5), (7, .int v7), (10, .int v10), (11, .int v11), (12, .int v12)] → f_md_isAttacked on sq by_ = f_md_isAttacked_C248 on sq by_ (fun a0 a1 a2 => (f_md_isAttacked_L14 on sq by_  n14 a0 a1 a2)) v3 v4 v5 v7 v10 v11 v12 t0 → W p l e (headSpec w_md_isAttacked ({ frames := 1, cells := 0, slots := 0, locals := 26 } : Room)).room s m ([(.ref onh : Value), .int sq, .int by_].toArray) below meth c s.heap [] 0 0 (MQ below (vp_Si (fun r => f_md_isAttacked on sq by_ = r ∧ narrow .boolean (.int r) = .int r)) ([(.ref onh : Value), .int sq, .int by_].toArray) s 0 0 ((fun _ => False))) (F0 m 248 ls [.int t0]) := by
                          intro v3 v4 v5 v7 v10 v11 v12 t0 ls i0 f0 r0 j1 hm a0 b0 d0 k0 hl hF
                          rw [f_md_isAttacked_C248] at hF
                          refine lv_istore (lv' := [(13, .int t0), (0, .ref onh), (1, .int sq), (2, .int by_), (3, .int v3), (4, .int v4), (5, .int v5), (7, .int v7), (10, .int v10), (11, .int v11), (12, .int v12)]) hx hb d_md_isAttacked_248 hl (by decide) rfl (fun ls hl => ?_)
                          refine lv_iload hx hb d_md_isAttacked_250 (lv_at hl 8 rfl) ?_
                          have cut277 : ∀ (v3 : Int32) (v4 : Int32) (v5 : Int32) (v12 : Int32) (v13 : Int32) (t0 : Int32) (ls : Array Slot), 0 ≤ v5.toInt → v3 = sq - sq / (8 : Int32) * (8 : Int32) → v4 = sq / (8 : Int32) → ¬ (64 : Int32) ≤ v5 → ((64 : Int) - v5.toInt).toNat < n14 + 1 → v10 = iab (v3 - (v5 - v5 / (8 : Int32) * (8 : Int32))) → v11 = iab (v4 - v5 / (8 : Int32)) → ¬ v5 = sq → (v13 = 0 ∨ v10 = v11) → (t0 = 0 ∨ (v10 = 0 ∨ v11 = 0)) → lv_has ls 15 [(0, .ref onh), (1, .int sq), (2, .int by_), (3, .int v3), (4, .int v4), (5, .int v5), (12, .int v12), (13, .int v13)] → f_md_isAttacked on sq by_ = f_md_isAttacked_C277 on sq by_ (fun a0 a1 a2 => (f_md_isAttacked_L14 on sq by_  n14 a0 a1 a2)) v3 v4 v5 v12 v13 t0 → W p l e (headSpec w_md_isAttacked ({ frames := 1, cells := 0, slots := 0, locals := 26 } : Room)).room s m ([(.ref onh : Value), .int sq, .int by_].toArray) below meth c s.heap [] 0 0 (MQ below (vp_Si (fun r => f_md_isAttacked on sq by_ = r ∧ narrow .boolean (.int r) = .int r)) ([(.ref onh : Value), .int sq, .int by_].toArray) s 0 0 ((fun _ => False))) (F0 m 277 ls [.int t0]) := by
                            intro v3 v4 v5 v12 v13 t0 ls i0 f0 r0 j1 hm a0 b0 d0 k1 k2 hl hF
                            rw [f_md_isAttacked_C277] at hF
                            refine lv_istore (lv' := [(14, .int t0), (0, .ref onh), (1, .int sq), (2, .int by_), (3, .int v3), (4, .int v4), (5, .int v5), (12, .int v12), (13, .int v13)]) hx hb d_md_isAttacked_277 hl (by decide) rfl (fun ls hl => ?_)
                            refine lv_iload hx hb d_md_isAttacked_279 (lv_at hl 7 rfl) ?_
                            refine lv_if_ne (tgt := 304) hx hb d_md_isAttacked_281 (by decide) (fun c_7 => ?_) (fun c_7 => ?_)
                            · have hF := hF.trans (if_neg c_7)
                              refine lv_iconst (v := 1) hx hb d_md_isAttacked_304 (by decide) ?_
                              exact W.zret (v := (1 : Int32)) hx hb hr (rfl) (fun t ht hW => ⟨_, rfl, ⟨hF, rfl⟩, ht⟩) hS.2.2 d_md_isAttacked_305
                            · have hF := hF.trans (if_pos c_7)
                              refine lv_iload hx hb d_md_isAttacked_284 (lv_at hl 8 rfl) ?_
                              refine lv_if_ne (tgt := 294) hx hb d_md_isAttacked_286 (by decide) (fun c_8 => ?_) (fun c_8 => ?_)
                              · have hF := hF.trans (if_neg c_8)
                                refine lv_aload_n hx hb d_md_isAttacked_294 rfl (lv_at hl 1 rfl) ?_
                                refine lv_iload hx hb d_md_isAttacked_295 (lv_at hl 6 rfl) ?_
                                refine lv_iload_n hx hb d_md_isAttacked_297 rfl (lv_at hl 2 rfl) ?_
                                have hPc : va_P (kD K) vwCl [(onh, .inl ((kI K), 64, .inl on))] _ := hP.sub [0] rfl
                                refine vp_callSi (va_Run.run (va_runS (As := [.ref onh, .int v5, .int sq]) (rest := []) ⟨hx, hb, hml, hown, htg⟩ (c_md_isOpen l K onh on v5 sq) (va_cwS 3 htg (g_S q_946 q_947 q_7 (g_w q_948)) rfl rfl rfl k_md_isOpen ⟨Nat.le_of_ble_eq_true rfl, Nat.le_of_ble_eq_true rfl⟩) ⟨ro_blind, ro_use hPc hK hG hS ⟨(by first | exact at_op i0 j1 h_q d0 f0 r0 a0 b0 (Or.inl (k1.resolve_left c_8)) | exact at_op i0 j1 h_q d0 f0 r0 a0 b0 (Or.inr (k2.resolve_left trivial))), trivial⟩⟩ rfl rfl hl.1 rfl (lv_room (Nat.le_of_ble_eq_true rfl)) d_md_isAttacked_298 ⟨Nat.zero_le _, Nat.zero_le _⟩)) (fun r_9 hw_9 => ?_)
                                have hF := hF.trans (bnd_s hw_9.1)
                                have hn_9 := hw_9.2
                                refine lv_if_eq (tgt := 306) hx hb d_md_isAttacked_301 (by decide) (fun c_10 => ?_) (fun c_10 => ?_)
                                · have hF := hF.trans (if_pos c_10)
                                  refine lv_iinc (v := v5 + (1 : Int32)) (lv' := [(5, .int (v5 + (1 : Int32))), (14, .int t0), (0, .ref onh), (1, .int sq), (2, .int by_), (3, .int v3), (4, .int v4), (12, .int v12), (13, .int v13)]) hx hb d_md_isAttacked_306 hl (k := 6) rfl rfl (by decide) rfl (fun ls hl => ?_)
                                  refine lv_goto (tgt := 14) hx hb d_md_isAttacked_309 (by decide) ?_
                                  exact ih14  v3 v4 (v5 + (1 : Int32)) ls (lp_s i0 j1) (f0) (r0) (lp_d i0 j1 (by decide) hm) (lv_sub hl [2, 3, 4, 5, 6, 0] rfl) hF
                                · have hF := hF.trans (if_neg c_10)
                                  refine lv_iconst (v := 1) hx hb d_md_isAttacked_304 (by decide) ?_
                                  exact W.zret (v := (1 : Int32)) hx hb hr (rfl) (fun t ht hW => ⟨_, rfl, ⟨hF, rfl⟩, ht⟩) hS.2.2 d_md_isAttacked_305
                              · have hF := hF.trans (if_pos c_8)
                                refine lv_iload hx hb d_md_isAttacked_289 (lv_at hl 0 rfl) ?_
                                refine lv_if_eq (tgt := 306) hx hb d_md_isAttacked_291 (by decide) (fun c_11 => ?_) (fun c_11 => ?_)
                                · have hF := hF.trans (if_pos c_11)
                                  refine lv_iinc (v := v5 + (1 : Int32)) (lv' := [(5, .int (v5 + (1 : Int32))), (14, .int t0), (0, .ref onh), (1, .int sq), (2, .int by_), (3, .int v3), (4, .int v4), (12, .int v12), (13, .int v13)]) hx hb d_md_isAttacked_306 hl (k := 6) rfl rfl (by decide) rfl (fun ls hl => ?_)
                                  refine lv_goto (tgt := 14) hx hb d_md_isAttacked_309 (by decide) ?_
                                  exact ih14  v3 v4 (v5 + (1 : Int32)) ls (lp_s i0 j1) (f0) (r0) (lp_d i0 j1 (by decide) hm) (lv_sub hl [2, 3, 4, 5, 6, 0] rfl) hF
                                · have hF := hF.trans (if_neg c_11)
                                  refine lv_aload_n hx hb d_md_isAttacked_294 rfl (lv_at hl 1 rfl) ?_
                                  refine lv_iload hx hb d_md_isAttacked_295 (lv_at hl 6 rfl) ?_
                                  refine lv_iload_n hx hb d_md_isAttacked_297 rfl (lv_at hl 2 rfl) ?_
                                  have hPc : va_P (kD K) vwCl [(onh, .inl ((kI K), 64, .inl on))] _ := hP.sub [0] rfl
                                  refine vp_callSi (va_Run.run (va_runS (As := [.ref onh, .int v5, .int sq]) (rest := []) ⟨hx, hb, hml, hown, htg⟩ (c_md_isOpen l K onh on v5 sq) (va_cwS 3 htg (g_S q_946 q_947 q_7 (g_w q_948)) rfl rfl rfl k_md_isOpen ⟨Nat.le_of_ble_eq_true rfl, Nat.le_of_ble_eq_true rfl⟩) ⟨ro_blind, ro_use hPc hK hG hS ⟨(by first | exact at_op i0 j1 h_q d0 f0 r0 a0 b0 (Or.inl (k1.resolve_left c_8)) | exact at_op i0 j1 h_q d0 f0 r0 a0 b0 (Or.inr (k2.resolve_left c_11))), trivial⟩⟩ rfl rfl hl.1 rfl (lv_room (Nat.le_of_ble_eq_true rfl)) d_md_isAttacked_298 ⟨Nat.zero_le _, Nat.zero_le _⟩)) (fun r_12 hw_12 => ?_)
                                  have hF := hF.trans (bnd_s hw_12.1)
                                  have hn_12 := hw_12.2
                                  refine lv_if_eq (tgt := 306) hx hb d_md_isAttacked_301 (by decide) (fun c_13 => ?_) (fun c_13 => ?_)
                                  · have hF := hF.trans (if_pos c_13)
                                    refine lv_iinc (v := v5 + (1 : Int32)) (lv' := [(5, .int (v5 + (1 : Int32))), (14, .int t0), (0, .ref onh), (1, .int sq), (2, .int by_), (3, .int v3), (4, .int v4), (12, .int v12), (13, .int v13)]) hx hb d_md_isAttacked_306 hl (k := 6) rfl rfl (by decide) rfl (fun ls hl => ?_)
                                    refine lv_goto (tgt := 14) hx hb d_md_isAttacked_309 (by decide) ?_
                                    exact ih14  v3 v4 (v5 + (1 : Int32)) ls (lp_s i0 j1) (f0) (r0) (lp_d i0 j1 (by decide) hm) (lv_sub hl [2, 3, 4, 5, 6, 0] rfl) hF
                                  · have hF := hF.trans (if_neg c_13)
                                    refine lv_iconst (v := 1) hx hb d_md_isAttacked_304 (by decide) ?_
                                    exact W.zret (v := (1 : Int32)) hx hb hr (rfl) (fun t ht hW => ⟨_, rfl, ⟨hF, rfl⟩, ht⟩) hS.2.2 d_md_isAttacked_305
                          refine lv_if_eq (tgt := 260) hx hb d_md_isAttacked_252 (by decide) (fun c_14 => ?_) (fun c_14 => ?_)
                          · have hF := hF.trans (if_pos c_14)
                            refine lv_iload hx hb d_md_isAttacked_260 (lv_at hl 7 rfl) ?_
                            refine lv_iconst (v := 4) hx hb d_md_isAttacked_262 (by decide) ?_
                            refine lv_icmp_eq (tgt := 272) hx hb d_md_isAttacked_263 (by decide) (fun c_15 => ?_) (fun c_15 => ?_)
                            · have hF := hF.trans (if_pos c_15)
                              refine lv_iconst (v := 1) hx hb d_md_isAttacked_272 (by decide) ?_
                              refine lv_goto (tgt := 277) hx hb d_md_isAttacked_273 (by decide) ?_
                              exact cut277 v3 v4 v5 v12 t0 (1 : Int32) ls (i0) (f0) (r0) (j1) (hm) (a0) (b0) (d0) (k0) (by first | exact Or.inl rfl | exact Or.inr (Or.inl c_14) | exact Or.inr (Or.inr c_15)) (lv_sub hl [1, 2, 3, 4, 5, 6, 10, 0] rfl) hF
                            · have hF := hF.trans (if_neg c_15)
                              refine lv_iload hx hb d_md_isAttacked_266 (lv_at hl 7 rfl) ?_
                              refine lv_iconst (v := 5) hx hb d_md_isAttacked_268 (by decide) ?_
                              refine lv_icmp_ne (tgt := 276) hx hb d_md_isAttacked_269 (by decide) (fun c_16 => ?_) (fun c_16 => ?_)
                              · have hF := hF.trans (if_neg c_16)
                                refine lv_iconst (v := 0) hx hb d_md_isAttacked_276 (by decide) ?_
                                exact cut277 v3 v4 v5 v12 t0 (0 : Int32) ls (i0) (f0) (r0) (j1) (hm) (a0) (b0) (d0) (k0) (by first | exact Or.inl rfl | exact Or.inr (Or.inl c_14) | exact Or.inr (Or.inr c_15)) (lv_sub hl [1, 2, 3, 4, 5, 6, 10, 0] rfl) hF
                              · have hF := hF.trans (if_pos c_16)
                                refine lv_iconst (v := 1) hx hb d_md_isAttacked_272 (by decide) ?_
                                refine lv_goto (tgt := 277) hx hb d_md_isAttacked_273 (by decide) ?_
                                exact cut277 v3 v4 v5 v12 t0 (1 : Int32) ls (i0) (f0) (r0) (j1) (hm) (a0) (b0) (d0) (k0) (by first | exact Or.inl rfl | exact Or.inr (Or.inl c_14) | exact Or.inr (Or.inr c_15)) (lv_sub hl [1, 2, 3, 4, 5, 6, 10, 0] rfl) hF
                          · have hF := hF.trans (if_neg c_14)
                            refine lv_iload hx hb d_md_isAttacked_255 (lv_at hl 9 rfl) ?_
                            refine lv_if_ne (tgt := 276) hx hb d_md_isAttacked_257 (by decide) (fun c_17 => ?_) (fun c_17 => ?_)
                            · have hF := hF.trans (if_neg c_17)
                              refine lv_iconst (v := 0) hx hb d_md_isAttacked_276 (by decide) ?_
                              exact cut277 v3 v4 v5 v12 t0 (0 : Int32) ls (i0) (f0) (r0) (j1) (hm) (a0) (b0) (d0) (k0) (by first | exact Or.inl rfl | exact Or.inr (Or.inl c_14) | exact Or.inr (Or.inr c_17)) (lv_sub hl [1, 2, 3, 4, 5, 6, 10, 0] rfl) hF
                            · have hF := hF.trans (if_pos c_17)
                              refine lv_iload hx hb d_md_isAttacked_260 (lv_at hl 7 rfl) ?_
                              refine lv_iconst (v := 4) hx hb d_md_isAttacked_262 (by decide) ?_
                              refine lv_icmp_eq (tgt := 272) hx hb d_md_isAttacked_263 (by decide) (fun c_18 => ?_) (fun c_18 => ?_)
                              · have hF := hF.trans (if_pos c_18)
                                refine lv_iconst (v := 1) hx hb d_md_isAttacked_272 (by decide) ?_
                                refine lv_goto (tgt := 277) hx hb d_md_isAttacked_273 (by decide) ?_
                                exact cut277 v3 v4 v5 v12 t0 (1 : Int32) ls (i0) (f0) (r0) (j1) (hm) (a0) (b0) (d0) (k0) (by first | exact Or.inl rfl | exact Or.inr (Or.inl c_14) | exact Or.inr (Or.inr c_17)) (lv_sub hl [1, 2, 3, 4, 5, 6, 10, 0] rfl) hF
                              · have hF := hF.trans (if_neg c_18)
                                refine lv_iload hx hb d_md_isAttacked_266 (lv_at hl 7 rfl) ?_
                                refine lv_iconst (v := 5) hx hb d_md_isAttacked_268 (by decide) ?_
                                refine lv_icmp_ne (tgt := 276) hx hb d_md_isAttacked_269 (by decide) (fun c_19 => ?_) (fun c_19 => ?_)
                                · have hF := hF.trans (if_neg c_19)
                                  refine lv_iconst (v := 0) hx hb d_md_isAttacked_276 (by decide) ?_
                                  exact cut277 v3 v4 v5 v12 t0 (0 : Int32) ls (i0) (f0) (r0) (j1) (hm) (a0) (b0) (d0) (k0) (by first | exact Or.inl rfl | exact Or.inr (Or.inl c_14) | exact Or.inr (Or.inr c_17)) (lv_sub hl [1, 2, 3, 4, 5, 6, 10, 0] rfl) hF
                                · have hF := hF.trans (if_pos c_19)
                                  refine lv_iconst (v := 1) hx hb d_md_isAttacked_272 (by decide) ?_
                                  refine lv_goto (tgt := 277) hx hb d_md_isAttacked_273 (by decide) ?_
                                  exact cut277 v3 v4 v5 v12 t0 (1 : Int32) ls (i0) (f0) (r0) (j1) (hm) (a0) (b0) (d0) (k0) (by first | exact Or.inl rfl | exact Or.inr (Or.inl c_14) | exact Or.inr (Or.inr c_17)) (lv_sub hl [1, 2, 3, 4, 5, 6, 10, 0] rfl) hF
                        refine lv_icmp_ne (tgt := 247) hx hb d_md_isAttacked_228 (by decide) (fun c_20 => ?_) (fun c_20 => ?_)
                        · have hF := hF.trans (if_neg c_20)
                          refine lv_iconst (v := 0) hx hb d_md_isAttacked_247 (by decide) ?_
                          exact cut248 v3 v4 v5 v7 v10 v11 t0 (0 : Int32) ls (i0) (f0) (r0) (j1) (hm) (a0) (b0) (d0) (by first | exact Or.inl rfl | exact Or.inr c_20) (lv_sub hl [1, 2, 3, 4, 5, 6, 7, 8, 9, 0] rfl) hF
                        · have hF := hF.trans (if_pos c_20)
                          refine lv_iload hx hb d_md_isAttacked_231 (lv_at hl 7 rfl) ?_
                          refine lv_iconst (v := 3) hx hb d_md_isAttacked_233 (by decide) ?_
                          refine lv_icmp_eq (tgt := 243) hx hb d_md_isAttacked_234 (by decide) (fun c_21 => ?_) (fun c_21 => ?_)
                          · have hF := hF.trans (if_pos c_21)
                            refine lv_iconst (v := 1) hx hb d_md_isAttacked_243 (by decide) ?_
                            refine lv_goto (tgt := 248) hx hb d_md_isAttacked_244 (by decide) ?_
                            exact cut248 v3 v4 v5 v7 v10 v11 t0 (1 : Int32) ls (i0) (f0) (r0) (j1) (hm) (a0) (b0) (d0) (by first | exact Or.inl rfl | exact Or.inr c_20) (lv_sub hl [1, 2, 3, 4, 5, 6, 7, 8, 9, 0] rfl) hF
                          · have hF := hF.trans (if_neg c_21)
                            refine lv_iload hx hb d_md_isAttacked_237 (lv_at hl 7 rfl) ?_
                            refine lv_iconst (v := 5) hx hb d_md_isAttacked_239 (by decide) ?_
                            refine lv_icmp_ne (tgt := 247) hx hb d_md_isAttacked_240 (by decide) (fun c_22 => ?_) (fun c_22 => ?_)
                            · have hF := hF.trans (if_neg c_22)
                              refine lv_iconst (v := 0) hx hb d_md_isAttacked_247 (by decide) ?_
                              exact cut248 v3 v4 v5 v7 v10 v11 t0 (0 : Int32) ls (i0) (f0) (r0) (j1) (hm) (a0) (b0) (d0) (by first | exact Or.inl rfl | exact Or.inr c_20) (lv_sub hl [1, 2, 3, 4, 5, 6, 7, 8, 9, 0] rfl) hF
                            · have hF := hF.trans (if_pos c_22)
                              refine lv_iconst (v := 1) hx hb d_md_isAttacked_243 (by decide) ?_
                              refine lv_goto (tgt := 248) hx hb d_md_isAttacked_244 (by decide) ?_
                              exact cut248 v3 v4 v5 v7 v10 v11 t0 (1 : Int32) ls (i0) (f0) (r0) (j1) (hm) (a0) (b0) (d0) (by first | exact Or.inl rfl | exact Or.inr c_20) (lv_sub hl [1, 2, 3, 4, 5, 6, 7, 8, 9, 0] rfl) hF
                      refine lv_icmp_ne (tgt := 165) hx hb d_md_isAttacked_134 (by decide) (fun c_23 => ?_) (fun c_23 => ?_)
                      · have hF := hF.trans (if_neg c_23)
                        refine lv_iload hx hb d_md_isAttacked_165 (lv_at hl 8 rfl) ?_
                        refine lv_iconst (v := 2) hx hb d_md_isAttacked_167 (by decide) ?_
                        refine lv_icmp_ne (tgt := 198) hx hb d_md_isAttacked_168 (by decide) (fun c_24 => ?_) (fun c_24 => ?_)
                        · have hF := hF.trans (if_neg c_24)
                          refine lv_iload hx hb d_md_isAttacked_198 (lv_at hl 8 rfl) ?_
                          refine lv_bipush (v := 6) hx hb d_md_isAttacked_200 (by decide) ?_
                          refine lv_icmp_ne (tgt := 221) hx hb d_md_isAttacked_202 (by decide) (fun c_25 => ?_) (fun c_25 => ?_)
                          · have hF := hF.trans (if_neg c_25)
                            refine lv_iconst (v := 0) hx hb d_md_isAttacked_221 (by decide) ?_
                            exact cut222 v3 v4 v5 v7 v10 t0 (0 : Int32) ls (i0) (f0) (r0) (j1) (hm) (a0) (bv.trans (by rw [w9])) (c_6) (lv_sub hl [1, 2, 3, 4, 5, 6, 8, 10, 0] rfl) hF
                          · have hF := hF.trans (if_pos c_25)
                            refine lv_iload hx hb d_md_isAttacked_205 (lv_at hl 10 rfl) ?_
                            refine lv_iconst (v := 2) hx hb d_md_isAttacked_207 (by decide) ?_
                            refine lv_icmp_ge (tgt := 221) hx hb d_md_isAttacked_208 (by decide) (fun c_26 => ?_) (fun c_26 => ?_)
                            · have hF := hF.trans (if_pos c_26)
                              refine lv_iconst (v := 0) hx hb d_md_isAttacked_221 (by decide) ?_
                              exact cut222 v3 v4 v5 v7 v10 t0 (0 : Int32) ls (i0) (f0) (r0) (j1) (hm) (a0) (bv.trans (by rw [w9])) (c_6) (lv_sub hl [1, 2, 3, 4, 5, 6, 8, 10, 0] rfl) hF
                            · have hF := hF.trans (if_neg c_26)
                              refine lv_iload hx hb d_md_isAttacked_211 (lv_at hl 0 rfl) ?_
                              refine lv_iconst (v := 2) hx hb d_md_isAttacked_213 (by decide) ?_
                              refine lv_icmp_ge (tgt := 221) hx hb d_md_isAttacked_214 (by decide) (fun c_27 => ?_) (fun c_27 => ?_)
                              · have hF := hF.trans (if_pos c_27)
                                refine lv_iconst (v := 0) hx hb d_md_isAttacked_221 (by decide) ?_
                                exact cut222 v3 v4 v5 v7 v10 t0 (0 : Int32) ls (i0) (f0) (r0) (j1) (hm) (a0) (bv.trans (by rw [w9])) (c_6) (lv_sub hl [1, 2, 3, 4, 5, 6, 8, 10, 0] rfl) hF
                              · have hF := hF.trans (if_neg c_27)
                                refine lv_iconst (v := 1) hx hb d_md_isAttacked_217 (by decide) ?_
                                refine lv_goto (tgt := 222) hx hb d_md_isAttacked_218 (by decide) ?_
                                exact cut222 v3 v4 v5 v7 v10 t0 (1 : Int32) ls (i0) (f0) (r0) (j1) (hm) (a0) (bv.trans (by rw [w9])) (c_6) (lv_sub hl [1, 2, 3, 4, 5, 6, 8, 10, 0] rfl) hF
                        · have hF := hF.trans (if_pos c_24)
                          refine lv_iload hx hb d_md_isAttacked_171 (lv_at hl 10 rfl) ?_
                          refine lv_iload hx hb d_md_isAttacked_173 (lv_at hl 0 rfl) ?_
                          refine lv_iadd hx hb d_md_isAttacked_175 ?_
                          refine lv_iconst (v := 3) hx hb d_md_isAttacked_176 (by decide) ?_
                          refine lv_icmp_ne (tgt := 194) hx hb d_md_isAttacked_177 (by decide) (fun c_28 => ?_) (fun c_28 => ?_)
                          · have hF := hF.trans (if_neg c_28)
                            refine lv_iconst (v := 0) hx hb d_md_isAttacked_194 (by decide) ?_
                            refine lv_goto (tgt := 222) hx hb d_md_isAttacked_195 (by decide) ?_
                            exact cut222 v3 v4 v5 v7 v10 t0 (0 : Int32) ls (i0) (f0) (r0) (j1) (hm) (a0) (bv.trans (by rw [w9])) (c_6) (lv_sub hl [1, 2, 3, 4, 5, 6, 8, 10, 0] rfl) hF
                          · have hF := hF.trans (if_pos c_28)
                            refine lv_iload hx hb d_md_isAttacked_180 (lv_at hl 10 rfl) ?_
                            refine lv_if_le (tgt := 194) hx hb d_md_isAttacked_182 (by decide) (fun c_29 => ?_) (fun c_29 => ?_)
                            · have hF := hF.trans (if_pos c_29)
                              refine lv_iconst (v := 0) hx hb d_md_isAttacked_194 (by decide) ?_
                              refine lv_goto (tgt := 222) hx hb d_md_isAttacked_195 (by decide) ?_
                              exact cut222 v3 v4 v5 v7 v10 t0 (0 : Int32) ls (i0) (f0) (r0) (j1) (hm) (a0) (bv.trans (by rw [w9])) (c_6) (lv_sub hl [1, 2, 3, 4, 5, 6, 8, 10, 0] rfl) hF
                            · have hF := hF.trans (if_neg c_29)
                              refine lv_iload hx hb d_md_isAttacked_185 (lv_at hl 0 rfl) ?_
                              refine lv_if_le (tgt := 194) hx hb d_md_isAttacked_187 (by decide) (fun c_30 => ?_) (fun c_30 => ?_)
                              · have hF := hF.trans (if_pos c_30)
                                refine lv_iconst (v := 0) hx hb d_md_isAttacked_194 (by decide) ?_
                                refine lv_goto (tgt := 222) hx hb d_md_isAttacked_195 (by decide) ?_
                                exact cut222 v3 v4 v5 v7 v10 t0 (0 : Int32) ls (i0) (f0) (r0) (j1) (hm) (a0) (bv.trans (by rw [w9])) (c_6) (lv_sub hl [1, 2, 3, 4, 5, 6, 8, 10, 0] rfl) hF
                              · have hF := hF.trans (if_neg c_30)
                                refine lv_iconst (v := 1) hx hb d_md_isAttacked_190 (by decide) ?_
                                refine lv_goto (tgt := 222) hx hb d_md_isAttacked_191 (by decide) ?_
                                exact cut222 v3 v4 v5 v7 v10 t0 (1 : Int32) ls (i0) (f0) (r0) (j1) (hm) (a0) (bv.trans (by rw [w9])) (c_6) (lv_sub hl [1, 2, 3, 4, 5, 6, 8, 10, 0] rfl) hF
                      · have hF := hF.trans (if_pos c_23)
                        refine lv_iload hx hb d_md_isAttacked_137 (lv_at hl 10 rfl) ?_
                        refine lv_iconst (v := 1) hx hb d_md_isAttacked_139 (by decide) ?_
                        refine lv_icmp_ne (tgt := 161) hx hb d_md_isAttacked_140 (by decide) (fun c_31 => ?_) (fun c_31 => ?_)
                        · have hF := hF.trans (if_neg c_31)
                          refine lv_iconst (v := 0) hx hb d_md_isAttacked_161 (by decide) ?_
                          refine lv_goto (tgt := 222) hx hb d_md_isAttacked_162 (by decide) ?_
                          exact cut222 v3 v4 v5 v7 v10 t0 (0 : Int32) ls (i0) (f0) (r0) (j1) (hm) (a0) (bv.trans (by rw [w9])) (c_6) (lv_sub hl [1, 2, 3, 4, 5, 6, 8, 10, 0] rfl) hF
                        · have hF := hF.trans (if_pos c_31)
                          refine lv_iload hx hb d_md_isAttacked_143 (lv_at hl 9 rfl) ?_
                          refine lv_iload_n hx hb d_md_isAttacked_145 rfl (lv_at hl 3 rfl) ?_
                          refine lv_if_ne (tgt := 153) hx hb d_md_isAttacked_146 (by decide) (fun c_32 => ?_) (fun c_32 => ?_)
                          · have hF := hF.trans (if_neg c_32)
                            refine lv_iconst (v := -1) hx hb d_md_isAttacked_153 (by decide) ?_
                            refine lv_icmp_ne (tgt := 161) hx hb d_md_isAttacked_154 (by decide) (fun c_33 => ?_) (fun c_33 => ?_)
                            · have hF := hF.trans (if_neg c_33)
                              refine lv_iconst (v := 0) hx hb d_md_isAttacked_161 (by decide) ?_
                              refine lv_goto (tgt := 222) hx hb d_md_isAttacked_162 (by decide) ?_
                              exact cut222 v3 v4 v5 v7 v10 t0 (0 : Int32) ls (i0) (f0) (r0) (j1) (hm) (a0) (bv.trans (by rw [w9])) (c_6) (lv_sub hl [1, 2, 3, 4, 5, 6, 8, 10, 0] rfl) hF
                            · have hF := hF.trans (if_pos c_33)
                              refine lv_iconst (v := 1) hx hb d_md_isAttacked_157 (by decide) ?_
                              refine lv_goto (tgt := 222) hx hb d_md_isAttacked_158 (by decide) ?_
                              exact cut222 v3 v4 v5 v7 v10 t0 (1 : Int32) ls (i0) (f0) (r0) (j1) (hm) (a0) (bv.trans (by rw [w9])) (c_6) (lv_sub hl [1, 2, 3, 4, 5, 6, 8, 10, 0] rfl) hF
                          · have hF := hF.trans (if_pos c_32)
                            refine lv_iconst (v := 1) hx hb d_md_isAttacked_149 (by decide) ?_
                            refine lv_goto (tgt := 154) hx hb d_md_isAttacked_150 (by decide) ?_
                            refine lv_icmp_ne (tgt := 161) hx hb d_md_isAttacked_154 (by decide) (fun c_34 => ?_) (fun c_34 => ?_)
                            · have hF := hF.trans (if_neg c_34)
                              refine lv_iconst (v := 0) hx hb d_md_isAttacked_161 (by decide) ?_
                              refine lv_goto (tgt := 222) hx hb d_md_isAttacked_162 (by decide) ?_
                              exact cut222 v3 v4 v5 v7 v10 t0 (0 : Int32) ls (i0) (f0) (r0) (j1) (hm) (a0) (bv.trans (by rw [w9])) (c_6) (lv_sub hl [1, 2, 3, 4, 5, 6, 8, 10, 0] rfl) hF
                            · have hF := hF.trans (if_pos c_34)
                              refine lv_iconst (v := 1) hx hb d_md_isAttacked_157 (by decide) ?_
                              refine lv_goto (tgt := 222) hx hb d_md_isAttacked_158 (by decide) ?_
                              exact cut222 v3 v4 v5 v7 v10 t0 (1 : Int32) ls (i0) (f0) (r0) (j1) (hm) (a0) (bv.trans (by rw [w9])) (c_6) (lv_sub hl [1, 2, 3, 4, 5, 6, 8, 10, 0] rfl) hF
                  · have hF := hF.trans (if_pos c_5)
                    refine lv_iconst (v := 1) hx hb d_md_isAttacked_117 (by decide) ?_
                    refine lv_goto (tgt := 122) hx hb d_md_isAttacked_118 (by decide) ?_
                    refine lv_icmp_ne (tgt := 306) hx hb d_md_isAttacked_122 (by decide) (fun _ => ?_) (fun c => False.elim (by revert c; decide))
                    refine lv_iinc (v := v5 + (1 : Int32)) (lv' := [(5, .int (v5 + (1 : Int32))), (11, .int t0), (0, .ref onh), (1, .int sq), (2, .int by_), (3, .int v3), (4, .int v4), (6, .int v6), (7, .int v7), (9, .int v9), (10, .int v10)]) hx hb d_md_isAttacked_306 hl (k := 6) rfl rfl (by decide) rfl (fun ls hl => ?_)
                    refine lv_goto (tgt := 14) hx hb d_md_isAttacked_309 (by decide) ?_
                    exact ih14  v3 v4 (v5 + (1 : Int32)) ls (lp_s i0 j1) (f0) (r0) (lp_d i0 j1 (by decide) hm) (lv_sub hl [2, 3, 4, 5, 6, 0] rfl) hF
                · have hF := hF.trans (if_neg c_4)
                  refine lv_iconst (v := 1) hx hb d_md_isAttacked_107 (by decide) ?_
                  refine lv_goto (tgt := 112) hx hb d_md_isAttacked_108 (by decide) ?_
                  refine lv_iload_n hx hb d_md_isAttacked_112 rfl (lv_at hl 3 rfl) ?_
                  refine lv_iconst (v := 1) hx hb d_md_isAttacked_113 (by decide) ?_
                  refine lv_icmp_ne (tgt := 121) hx hb d_md_isAttacked_114 (by decide) (fun c_35 => ?_) (fun c_35 => ?_)
                  · have hF := hF.trans (if_neg c_35)
                    refine lv_iconst (v := 0) hx hb d_md_isAttacked_121 (by decide) ?_
                    refine lv_icmp_ne (tgt := 306) hx hb d_md_isAttacked_122 (by decide) (fun _ => ?_) (fun c => False.elim (by revert c; decide))
                    refine lv_iinc (v := v5 + (1 : Int32)) (lv' := [(5, .int (v5 + (1 : Int32))), (11, .int t0), (0, .ref onh), (1, .int sq), (2, .int by_), (3, .int v3), (4, .int v4), (6, .int v6), (7, .int v7), (9, .int v9), (10, .int v10)]) hx hb d_md_isAttacked_306 hl (k := 6) rfl rfl (by decide) rfl (fun ls hl => ?_)
                    refine lv_goto (tgt := 14) hx hb d_md_isAttacked_309 (by decide) ?_
                    exact ih14  v3 v4 (v5 + (1 : Int32)) ls (lp_s i0 j1) (f0) (r0) (lp_d i0 j1 (by decide) hm) (lv_sub hl [2, 3, 4, 5, 6, 0] rfl) hF
                  · have hF := hF.trans (if_pos c_35)
                    refine lv_iconst (v := 1) hx hb d_md_isAttacked_117 (by decide) ?_
                    refine lv_goto (tgt := 122) hx hb d_md_isAttacked_118 (by decide) ?_
                    refine lv_icmp_ne (tgt := 306) hx hb d_md_isAttacked_122 (by decide) (fun c => False.elim (by revert c; decide)) (fun _ => ?_)
                    refine lv_iload hx hb d_md_isAttacked_125 (lv_at hl 6 rfl) ?_
                    refine lv_iload_n hx hb d_md_isAttacked_127 rfl (lv_at hl 2 rfl) ?_
                    refine lv_icmp_eq (tgt := 306) hx hb d_md_isAttacked_128 (by decide) (fun c_36 => ?_) (fun c_36 => ?_)
                    · have hF := hF.trans (if_pos c_36)
                      refine lv_iinc (v := v5 + (1 : Int32)) (lv' := [(5, .int (v5 + (1 : Int32))), (11, .int t0), (0, .ref onh), (1, .int sq), (2, .int by_), (3, .int v3), (4, .int v4), (6, .int v6), (7, .int v7), (9, .int v9), (10, .int v10)]) hx hb d_md_isAttacked_306 hl (k := 6) rfl rfl (by decide) rfl (fun ls hl => ?_)
                      refine lv_goto (tgt := 14) hx hb d_md_isAttacked_309 (by decide) ?_
                      exact ih14  v3 v4 (v5 + (1 : Int32)) ls (lp_s i0 j1) (f0) (r0) (lp_d i0 j1 (by decide) hm) (lv_sub hl [2, 3, 4, 5, 6, 0] rfl) hF
                    · have hF := hF.trans (if_neg c_36)
                      refine lv_iload hx hb d_md_isAttacked_131 (lv_at hl 8 rfl) ?_
                      refine lv_iconst (v := 1) hx hb d_md_isAttacked_133 (by decide) ?_
                      have cut222 : ∀ (v3 : Int32) (v4 : Int32) (v5 : Int32) (v7 : Int32) (v10 : Int32) (v11 : Int32) (t0 : Int32) (ls : Array Slot), 0 ≤ v5.toInt → v3 = sq - sq / (8 : Int32) * (8 : Int32) → v4 = sq / (8 : Int32) → ¬ (64 : Int32) ≤ v5 → ((64 : Int) - v5.toInt).toNat < n14 + 1 → v10 = iab (v3 - (v5 - v5 / (8 : Int32) * (8 : Int32))) → v11 = iab (v4 - v5 / (8 : Int32)) → ¬ v5 = sq → lv_has ls 15 [(0, .ref onh), (1, .int sq), (2, .int by_), (3, .int v3), (4, .int v4), (5, .int v5), (7, .int v7), (10, .int v10), (11, .int v11)] → f_md_isAttacked on sq by_ = f_md_isAttacked_C222 on sq by_ (fun a0 a1 a2 => (f_md_isAttacked_L14 on sq by_  n14 a0 a1 a2)) v3 v4 v5 v7 v10 v11 t0 → W p l e (headSpec w_md_isAttacked ({ frames := 1, cells := 0, slots := 0, locals := 26 } : Room)).room s m ([(.ref onh : Value), .int sq, .int by_].toArray) below meth c s.heap [] 0 0 (MQ below (vp_Si (fun r => f_md_isAttacked on sq by_ = r ∧ narrow .boolean (.int r) = .int r)) ([(.ref onh : Value), .int sq, .int by_].toArray) s 0 0 ((fun _ => False))) (F0 m 222 ls [.int t0]) := by
                        intro v3 v4 v5 v7 v10 v11 t0 ls i0 f0 r0 j1 hm a0 b0 d0 hl hF
                        rw [f_md_isAttacked_C222] at hF
                        refine lv_istore (lv' := [(12, .int t0), (0, .ref onh), (1, .int sq), (2, .int by_), (3, .int v3), (4, .int v4), (5, .int v5), (7, .int v7), (10, .int v10), (11, .int v11)]) hx hb d_md_isAttacked_222 hl (by decide) rfl (fun ls hl => ?_)
                        refine lv_iload hx hb d_md_isAttacked_224 (lv_at hl 8 rfl) ?_
                        refine lv_iload hx hb d_md_isAttacked_226 (lv_at hl 9 rfl) ?_
                        have cut248 : ∀ (v3 : Int32) (v4 : Int32) (v5 : Int32) (v7 : Int32) (v10 : Int32) (v11 : Int32) (v12 : Int32) (t0 : Int32) (ls : Array Slot), 0 ≤ v5.toInt → v3 = sq - sq / (8 : Int32) * (8 : Int32) → v4 = sq / (8 : Int32) → ¬ (64 : Int32) ≤ v5 → ((64 : Int) - v5.toInt).toNat < n14 + 1 → v10 = iab (v3 - (v5 - v5 / (8 : Int32) * (8 : Int32))) → v11 = iab (v4 - v5 / (8 : Int32)) → ¬ v5 = sq → (t0 = 0 ∨ v10 = v11) → lv_has ls 15 [(0, .ref onh), (1, .int sq), (2, .int by_), (3, .int v3), (4, .int v4), (5, .int v5), (7, .int v7), (10, .int v10), (11, .int v11), (12, .int v12)] → f_md_isAttacked on sq by_ = f_md_isAttacked_C248 on sq by_ (fun a0 a1 a2 => (f_md_isAttacked_L14 on sq by_  n14 a0 a1 a2)) v3 v4 v5 v7 v10 v11 v12 t0 → W p l e (headSpec w_md_isAttacked ({ frames := 1, cells := 0, slots := 0, locals := 26 } : Room)).room s m ([(.ref onh : Value), .int sq, .int by_].toArray) below meth c s.heap [] 0 0 (MQ below (vp_Si (fun r => f_md_isAttacked on sq by_ = r ∧ narrow .boolean (.int r) = .int r)) ([(.ref onh : Value), .int sq, .int by_].toArray) s 0 0 ((fun _ => False))) (F0 m 248 ls [.int t0]) := by
                          intro v3 v4 v5 v7 v10 v11 v12 t0 ls i0 f0 r0 j1 hm a0 b0 d0 k0 hl hF
                          rw [f_md_isAttacked_C248] at hF
                          refine lv_istore (lv' := [(13, .int t0), (0, .ref onh), (1, .int sq), (2, .int by_), (3, .int v3), (4, .int v4), (5, .int v5), (7, .int v7), (10, .int v10), (11, .int v11), (12, .int v12)]) hx hb d_md_isAttacked_248 hl (by decide) rfl (fun ls hl => ?_)
                          refine lv_iload hx hb d_md_isAttacked_250 (lv_at hl 8 rfl) ?_
                          have cut277 : ∀ (v3 : Int32) (v4 : Int32) (v5 : Int32) (v12 : Int32) (v13 : Int32) (t0 : Int32) (ls : Array Slot), 0 ≤ v5.toInt → v3 = sq - sq / (8 : Int32) * (8 : Int32) → v4 = sq / (8 : Int32) → ¬ (64 : Int32) ≤ v5 → ((64 : Int) - v5.toInt).toNat < n14 + 1 → v10 = iab (v3 - (v5 - v5 / (8 : Int32) * (8 : Int32))) → v11 = iab (v4 - v5 / (8 : Int32)) → ¬ v5 = sq → (v13 = 0 ∨ v10 = v11) → (t0 = 0 ∨ (v10 = 0 ∨ v11 = 0)) → lv_has ls 15 [(0, .ref onh), (1, .int sq), (2, .int by_), (3, .int v3), (4, .int v4), (5, .int v5), (12, .int v12), (13, .int v13)] → f_md_isAttacked on sq by_ = f_md_isAttacked_C277 on sq by_ (fun a0 a1 a2 => (f_md_isAttacked_L14 on sq by_  n14 a0 a1 a2)) v3 v4 v5 v12 v13 t0 → W p l e (headSpec w_md_isAttacked ({ frames := 1, cells := 0, slots := 0, locals := 26 } : Room)).room s m ([(.ref onh : Value), .int sq, .int by_].toArray) below meth c s.heap [] 0 0 (MQ below (vp_Si (fun r => f_md_isAttacked on sq by_ = r ∧ narrow .boolean (.int r) = .int r)) ([(.ref onh : Value), .int sq, .int by_].toArray) s 0 0 ((fun _ => False))) (F0 m 277 ls [.int t0]) := by
                            intro v3 v4 v5 v12 v13 t0 ls i0 f0 r0 j1 hm a0 b0 d0 k1 k2 hl hF
                            rw [f_md_isAttacked_C277] at hF
                            refine lv_istore (lv' := [(14, .int t0), (0, .ref onh), (1, .int sq), (2, .int by_), (3, .int v3), (4, .int v4), (5, .int v5), (12, .int v12), (13, .int v13)]) hx hb d_md_isAttacked_277 hl (by decide) rfl (fun ls hl => ?_)
                            refine lv_iload hx hb d_md_isAttacked_279 (lv_at hl 7 rfl) ?_
                            refine lv_if_ne (tgt := 304) hx hb d_md_isAttacked_281 (by decide) (fun c_37 => ?_) (fun c_37 => ?_)
                            · have hF := hF.trans (if_neg c_37)
                              refine lv_iconst (v := 1) hx hb d_md_isAttacked_304 (by decide) ?_
                              exact W.zret (v := (1 : Int32)) hx hb hr (rfl) (fun t ht hW => ⟨_, rfl, ⟨hF, rfl⟩, ht⟩) hS.2.2 d_md_isAttacked_305
                            · have hF := hF.trans (if_pos c_37)
                              refine lv_iload hx hb d_md_isAttacked_284 (lv_at hl 8 rfl) ?_
                              refine lv_if_ne (tgt := 294) hx hb d_md_isAttacked_286 (by decide) (fun c_38 => ?_) (fun c_38 => ?_)
                              · have hF := hF.trans (if_neg c_38)
                                refine lv_aload_n hx hb d_md_isAttacked_294 rfl (lv_at hl 1 rfl) ?_
                                refine lv_iload hx hb d_md_isAttacked_295 (lv_at hl 6 rfl) ?_
                                refine lv_iload_n hx hb d_md_isAttacked_297 rfl (lv_at hl 2 rfl) ?_
                                have hPc : va_P (kD K) vwCl [(onh, .inl ((kI K), 64, .inl on))] _ := hP.sub [0] rfl
                                refine vp_callSi (va_Run.run (va_runS (As := [.ref onh, .int v5, .int sq]) (rest := []) ⟨hx, hb, hml, hown, htg⟩ (c_md_isOpen l K onh on v5 sq) (va_cwS 3 htg (g_S q_946 q_947 q_7 (g_w q_948)) rfl rfl rfl k_md_isOpen ⟨Nat.le_of_ble_eq_true rfl, Nat.le_of_ble_eq_true rfl⟩) ⟨ro_blind, ro_use hPc hK hG hS ⟨(by first | exact at_op i0 j1 h_q d0 f0 r0 a0 b0 (Or.inl (k1.resolve_left c_38)) | exact at_op i0 j1 h_q d0 f0 r0 a0 b0 (Or.inr (k2.resolve_left trivial))), trivial⟩⟩ rfl rfl hl.1 rfl (lv_room (Nat.le_of_ble_eq_true rfl)) d_md_isAttacked_298 ⟨Nat.zero_le _, Nat.zero_le _⟩)) (fun r_39 hw_39 => ?_)
                                have hF := hF.trans (bnd_s hw_39.1)
                                have hn_39 := hw_39.2
                                refine lv_if_eq (tgt := 306) hx hb d_md_isAttacked_301 (by decide) (fun c_40 => ?_) (fun c_40 => ?_)
                                · have hF := hF.trans (if_pos c_40)
                                  refine lv_iinc (v := v5 + (1 : Int32)) (lv' := [(5, .int (v5 + (1 : Int32))), (14, .int t0), (0, .ref onh), (1, .int sq), (2, .int by_), (3, .int v3), (4, .int v4), (12, .int v12), (13, .int v13)]) hx hb d_md_isAttacked_306 hl (k := 6) rfl rfl (by decide) rfl (fun ls hl => ?_)
                                  refine lv_goto (tgt := 14) hx hb d_md_isAttacked_309 (by decide) ?_
                                  exact ih14  v3 v4 (v5 + (1 : Int32)) ls (lp_s i0 j1) (f0) (r0) (lp_d i0 j1 (by decide) hm) (lv_sub hl [2, 3, 4, 5, 6, 0] rfl) hF
                                · have hF := hF.trans (if_neg c_40)
                                  refine lv_iconst (v := 1) hx hb d_md_isAttacked_304 (by decide) ?_
                                  exact W.zret (v := (1 : Int32)) hx hb hr (rfl) (fun t ht hW => ⟨_, rfl, ⟨hF, rfl⟩, ht⟩) hS.2.2 d_md_isAttacked_305
                              · have hF := hF.trans (if_pos c_38)
                                refine lv_iload hx hb d_md_isAttacked_289 (lv_at hl 0 rfl) ?_
                                refine lv_if_eq (tgt := 306) hx hb d_md_isAttacked_291 (by decide) (fun c_41 => ?_) (fun c_41 => ?_)
                                · have hF := hF.trans (if_pos c_41)
                                  refine lv_iinc (v := v5 + (1 : Int32)) (lv' := [(5, .int (v5 + (1 : Int32))), (14, .int t0), (0, .ref onh), (1, .int sq), (2, .int by_), (3, .int v3), (4, .int v4), (12, .int v12), (13, .int v13)]) hx hb d_md_isAttacked_306 hl (k := 6) rfl rfl (by decide) rfl (fun ls hl => ?_)
                                  refine lv_goto (tgt := 14) hx hb d_md_isAttacked_309 (by decide) ?_
                                  exact ih14  v3 v4 (v5 + (1 : Int32)) ls (lp_s i0 j1) (f0) (r0) (lp_d i0 j1 (by decide) hm) (lv_sub hl [2, 3, 4, 5, 6, 0] rfl) hF
                                · have hF := hF.trans (if_neg c_41)
                                  refine lv_aload_n hx hb d_md_isAttacked_294 rfl (lv_at hl 1 rfl) ?_
                                  refine lv_iload hx hb d_md_isAttacked_295 (lv_at hl 6 rfl) ?_
                                  refine lv_iload_n hx hb d_md_isAttacked_297 rfl (lv_at hl 2 rfl) ?_
                                  have hPc : va_P (kD K) vwCl [(onh, .inl ((kI K), 64, .inl on))] _ := hP.sub [0] rfl
                                  refine vp_callSi (va_Run.run (va_runS (As := [.ref onh, .int v5, .int sq]) (rest := []) ⟨hx, hb, hml, hown, htg⟩ (c_md_isOpen l K onh on v5 sq) (va_cwS 3 htg (g_S q_946 q_947 q_7 (g_w q_948)) rfl rfl rfl k_md_isOpen ⟨Nat.le_of_ble_eq_true rfl, Nat.le_of_ble_eq_true rfl⟩) ⟨ro_blind, ro_use hPc hK hG hS ⟨(by first | exact at_op i0 j1 h_q d0 f0 r0 a0 b0 (Or.inl (k1.resolve_left c_38)) | exact at_op i0 j1 h_q d0 f0 r0 a0 b0 (Or.inr (k2.resolve_left c_41))), trivial⟩⟩ rfl rfl hl.1 rfl (lv_room (Nat.le_of_ble_eq_true rfl)) d_md_isAttacked_298 ⟨Nat.zero_le _, Nat.zero_le _⟩)) (fun r_42 hw_42 => ?_)
                                  have hF := hF.trans (bnd_s hw_42.1)
                                  have hn_42 := hw_42.2
                                  refine lv_if_eq (tgt := 306) hx hb d_md_isAttacked_301 (by decide) (fun c_43 => ?_) (fun c_43 => ?_)
                                  · have hF := hF.trans (if_pos c_43)
                                    refine lv_iinc (v := v5 + (1 : Int32)) (lv' := [(5, .int (v5 + (1 : Int32))), (14, .int t0), (0, .ref onh), (1, .int sq), (2, .int by_), (3, .int v3), (4, .int v4), (12, .int v12), (13, .int v13)]) hx hb d_md_isAttacked_306 hl (k := 6) rfl rfl (by decide) rfl (fun ls hl => ?_)
                                    refine lv_goto (tgt := 14) hx hb d_md_isAttacked_309 (by decide) ?_
                                    exact ih14  v3 v4 (v5 + (1 : Int32)) ls (lp_s i0 j1) (f0) (r0) (lp_d i0 j1 (by decide) hm) (lv_sub hl [2, 3, 4, 5, 6, 0] rfl) hF
                                  · have hF := hF.trans (if_neg c_43)
                                    refine lv_iconst (v := 1) hx hb d_md_isAttacked_304 (by decide) ?_
                                    exact W.zret (v := (1 : Int32)) hx hb hr (rfl) (fun t ht hW => ⟨_, rfl, ⟨hF, rfl⟩, ht⟩) hS.2.2 d_md_isAttacked_305
                          refine lv_if_eq (tgt := 260) hx hb d_md_isAttacked_252 (by decide) (fun c_44 => ?_) (fun c_44 => ?_)
                          · have hF := hF.trans (if_pos c_44)
                            refine lv_iload hx hb d_md_isAttacked_260 (lv_at hl 7 rfl) ?_
                            refine lv_iconst (v := 4) hx hb d_md_isAttacked_262 (by decide) ?_
                            refine lv_icmp_eq (tgt := 272) hx hb d_md_isAttacked_263 (by decide) (fun c_45 => ?_) (fun c_45 => ?_)
                            · have hF := hF.trans (if_pos c_45)
                              refine lv_iconst (v := 1) hx hb d_md_isAttacked_272 (by decide) ?_
                              refine lv_goto (tgt := 277) hx hb d_md_isAttacked_273 (by decide) ?_
                              exact cut277 v3 v4 v5 v12 t0 (1 : Int32) ls (i0) (f0) (r0) (j1) (hm) (a0) (b0) (d0) (k0) (by first | exact Or.inl rfl | exact Or.inr (Or.inl c_44) | exact Or.inr (Or.inr c_45)) (lv_sub hl [1, 2, 3, 4, 5, 6, 10, 0] rfl) hF
                            · have hF := hF.trans (if_neg c_45)
                              refine lv_iload hx hb d_md_isAttacked_266 (lv_at hl 7 rfl) ?_
                              refine lv_iconst (v := 5) hx hb d_md_isAttacked_268 (by decide) ?_
                              refine lv_icmp_ne (tgt := 276) hx hb d_md_isAttacked_269 (by decide) (fun c_46 => ?_) (fun c_46 => ?_)
                              · have hF := hF.trans (if_neg c_46)
                                refine lv_iconst (v := 0) hx hb d_md_isAttacked_276 (by decide) ?_
                                exact cut277 v3 v4 v5 v12 t0 (0 : Int32) ls (i0) (f0) (r0) (j1) (hm) (a0) (b0) (d0) (k0) (by first | exact Or.inl rfl | exact Or.inr (Or.inl c_44) | exact Or.inr (Or.inr c_45)) (lv_sub hl [1, 2, 3, 4, 5, 6, 10, 0] rfl) hF
                              · have hF := hF.trans (if_pos c_46)
                                refine lv_iconst (v := 1) hx hb d_md_isAttacked_272 (by decide) ?_
                                refine lv_goto (tgt := 277) hx hb d_md_isAttacked_273 (by decide) ?_
                                exact cut277 v3 v4 v5 v12 t0 (1 : Int32) ls (i0) (f0) (r0) (j1) (hm) (a0) (b0) (d0) (k0) (by first | exact Or.inl rfl | exact Or.inr (Or.inl c_44) | exact Or.inr (Or.inr c_45)) (lv_sub hl [1, 2, 3, 4, 5, 6, 10, 0] rfl) hF
                          · have hF := hF.trans (if_neg c_44)
                            refine lv_iload hx hb d_md_isAttacked_255 (lv_at hl 9 rfl) ?_
                            refine lv_if_ne (tgt := 276) hx hb d_md_isAttacked_257 (by decide) (fun c_47 => ?_) (fun c_47 => ?_)
                            · have hF := hF.trans (if_neg c_47)
                              refine lv_iconst (v := 0) hx hb d_md_isAttacked_276 (by decide) ?_
                              exact cut277 v3 v4 v5 v12 t0 (0 : Int32) ls (i0) (f0) (r0) (j1) (hm) (a0) (b0) (d0) (k0) (by first | exact Or.inl rfl | exact Or.inr (Or.inl c_44) | exact Or.inr (Or.inr c_47)) (lv_sub hl [1, 2, 3, 4, 5, 6, 10, 0] rfl) hF
                            · have hF := hF.trans (if_pos c_47)
                              refine lv_iload hx hb d_md_isAttacked_260 (lv_at hl 7 rfl) ?_
                              refine lv_iconst (v := 4) hx hb d_md_isAttacked_262 (by decide) ?_
                              refine lv_icmp_eq (tgt := 272) hx hb d_md_isAttacked_263 (by decide) (fun c_48 => ?_) (fun c_48 => ?_)
                              · have hF := hF.trans (if_pos c_48)
                                refine lv_iconst (v := 1) hx hb d_md_isAttacked_272 (by decide) ?_
                                refine lv_goto (tgt := 277) hx hb d_md_isAttacked_273 (by decide) ?_
                                exact cut277 v3 v4 v5 v12 t0 (1 : Int32) ls (i0) (f0) (r0) (j1) (hm) (a0) (b0) (d0) (k0) (by first | exact Or.inl rfl | exact Or.inr (Or.inl c_44) | exact Or.inr (Or.inr c_47)) (lv_sub hl [1, 2, 3, 4, 5, 6, 10, 0] rfl) hF
                              · have hF := hF.trans (if_neg c_48)
                                refine lv_iload hx hb d_md_isAttacked_266 (lv_at hl 7 rfl) ?_
                                refine lv_iconst (v := 5) hx hb d_md_isAttacked_268 (by decide) ?_
                                refine lv_icmp_ne (tgt := 276) hx hb d_md_isAttacked_269 (by decide) (fun c_49 => ?_) (fun c_49 => ?_)
                                · have hF := hF.trans (if_neg c_49)
                                  refine lv_iconst (v := 0) hx hb d_md_isAttacked_276 (by decide) ?_
                                  exact cut277 v3 v4 v5 v12 t0 (0 : Int32) ls (i0) (f0) (r0) (j1) (hm) (a0) (b0) (d0) (k0) (by first | exact Or.inl rfl | exact Or.inr (Or.inl c_44) | exact Or.inr (Or.inr c_47)) (lv_sub hl [1, 2, 3, 4, 5, 6, 10, 0] rfl) hF
                                · have hF := hF.trans (if_pos c_49)
                                  refine lv_iconst (v := 1) hx hb d_md_isAttacked_272 (by decide) ?_
                                  refine lv_goto (tgt := 277) hx hb d_md_isAttacked_273 (by decide) ?_
                                  exact cut277 v3 v4 v5 v12 t0 (1 : Int32) ls (i0) (f0) (r0) (j1) (hm) (a0) (b0) (d0) (k0) (by first | exact Or.inl rfl | exact Or.inr (Or.inl c_44) | exact Or.inr (Or.inr c_47)) (lv_sub hl [1, 2, 3, 4, 5, 6, 10, 0] rfl) hF
                        refine lv_icmp_ne (tgt := 247) hx hb d_md_isAttacked_228 (by decide) (fun c_50 => ?_) (fun c_50 => ?_)
                        · have hF := hF.trans (if_neg c_50)
                          refine lv_iconst (v := 0) hx hb d_md_isAttacked_247 (by decide) ?_
                          exact cut248 v3 v4 v5 v7 v10 v11 t0 (0 : Int32) ls (i0) (f0) (r0) (j1) (hm) (a0) (b0) (d0) (by first | exact Or.inl rfl | exact Or.inr c_50) (lv_sub hl [1, 2, 3, 4, 5, 6, 7, 8, 9, 0] rfl) hF
                        · have hF := hF.trans (if_pos c_50)
                          refine lv_iload hx hb d_md_isAttacked_231 (lv_at hl 7 rfl) ?_
                          refine lv_iconst (v := 3) hx hb d_md_isAttacked_233 (by decide) ?_
                          refine lv_icmp_eq (tgt := 243) hx hb d_md_isAttacked_234 (by decide) (fun c_51 => ?_) (fun c_51 => ?_)
                          · have hF := hF.trans (if_pos c_51)
                            refine lv_iconst (v := 1) hx hb d_md_isAttacked_243 (by decide) ?_
                            refine lv_goto (tgt := 248) hx hb d_md_isAttacked_244 (by decide) ?_
                            exact cut248 v3 v4 v5 v7 v10 v11 t0 (1 : Int32) ls (i0) (f0) (r0) (j1) (hm) (a0) (b0) (d0) (by first | exact Or.inl rfl | exact Or.inr c_50) (lv_sub hl [1, 2, 3, 4, 5, 6, 7, 8, 9, 0] rfl) hF
                          · have hF := hF.trans (if_neg c_51)
                            refine lv_iload hx hb d_md_isAttacked_237 (lv_at hl 7 rfl) ?_
                            refine lv_iconst (v := 5) hx hb d_md_isAttacked_239 (by decide) ?_
                            refine lv_icmp_ne (tgt := 247) hx hb d_md_isAttacked_240 (by decide) (fun c_52 => ?_) (fun c_52 => ?_)
                            · have hF := hF.trans (if_neg c_52)
                              refine lv_iconst (v := 0) hx hb d_md_isAttacked_247 (by decide) ?_
                              exact cut248 v3 v4 v5 v7 v10 v11 t0 (0 : Int32) ls (i0) (f0) (r0) (j1) (hm) (a0) (b0) (d0) (by first | exact Or.inl rfl | exact Or.inr c_50) (lv_sub hl [1, 2, 3, 4, 5, 6, 7, 8, 9, 0] rfl) hF
                            · have hF := hF.trans (if_pos c_52)
                              refine lv_iconst (v := 1) hx hb d_md_isAttacked_243 (by decide) ?_
                              refine lv_goto (tgt := 248) hx hb d_md_isAttacked_244 (by decide) ?_
                              exact cut248 v3 v4 v5 v7 v10 v11 t0 (1 : Int32) ls (i0) (f0) (r0) (j1) (hm) (a0) (b0) (d0) (by first | exact Or.inl rfl | exact Or.inr c_50) (lv_sub hl [1, 2, 3, 4, 5, 6, 7, 8, 9, 0] rfl) hF
                      refine lv_icmp_ne (tgt := 165) hx hb d_md_isAttacked_134 (by decide) (fun c_53 => ?_) (fun c_53 => ?_)
                      · have hF := hF.trans (if_neg c_53)
                        refine lv_iload hx hb d_md_isAttacked_165 (lv_at hl 8 rfl) ?_
                        refine lv_iconst (v := 2) hx hb d_md_isAttacked_167 (by decide) ?_
                        refine lv_icmp_ne (tgt := 198) hx hb d_md_isAttacked_168 (by decide) (fun c_54 => ?_) (fun c_54 => ?_)
                        · have hF := hF.trans (if_neg c_54)
                          refine lv_iload hx hb d_md_isAttacked_198 (lv_at hl 8 rfl) ?_
                          refine lv_bipush (v := 6) hx hb d_md_isAttacked_200 (by decide) ?_
                          refine lv_icmp_ne (tgt := 221) hx hb d_md_isAttacked_202 (by decide) (fun c_55 => ?_) (fun c_55 => ?_)
                          · have hF := hF.trans (if_neg c_55)
                            refine lv_iconst (v := 0) hx hb d_md_isAttacked_221 (by decide) ?_
                            exact cut222 v3 v4 v5 v7 v10 t0 (0 : Int32) ls (i0) (f0) (r0) (j1) (hm) (a0) (bv.trans (by rw [w9])) (c_36) (lv_sub hl [1, 2, 3, 4, 5, 6, 8, 10, 0] rfl) hF
                          · have hF := hF.trans (if_pos c_55)
                            refine lv_iload hx hb d_md_isAttacked_205 (lv_at hl 10 rfl) ?_
                            refine lv_iconst (v := 2) hx hb d_md_isAttacked_207 (by decide) ?_
                            refine lv_icmp_ge (tgt := 221) hx hb d_md_isAttacked_208 (by decide) (fun c_56 => ?_) (fun c_56 => ?_)
                            · have hF := hF.trans (if_pos c_56)
                              refine lv_iconst (v := 0) hx hb d_md_isAttacked_221 (by decide) ?_
                              exact cut222 v3 v4 v5 v7 v10 t0 (0 : Int32) ls (i0) (f0) (r0) (j1) (hm) (a0) (bv.trans (by rw [w9])) (c_36) (lv_sub hl [1, 2, 3, 4, 5, 6, 8, 10, 0] rfl) hF
                            · have hF := hF.trans (if_neg c_56)
                              refine lv_iload hx hb d_md_isAttacked_211 (lv_at hl 0 rfl) ?_
                              refine lv_iconst (v := 2) hx hb d_md_isAttacked_213 (by decide) ?_
                              refine lv_icmp_ge (tgt := 221) hx hb d_md_isAttacked_214 (by decide) (fun c_57 => ?_) (fun c_57 => ?_)
                              · have hF := hF.trans (if_pos c_57)
                                refine lv_iconst (v := 0) hx hb d_md_isAttacked_221 (by decide) ?_
                                exact cut222 v3 v4 v5 v7 v10 t0 (0 : Int32) ls (i0) (f0) (r0) (j1) (hm) (a0) (bv.trans (by rw [w9])) (c_36) (lv_sub hl [1, 2, 3, 4, 5, 6, 8, 10, 0] rfl) hF
                              · have hF := hF.trans (if_neg c_57)
                                refine lv_iconst (v := 1) hx hb d_md_isAttacked_217 (by decide) ?_
                                refine lv_goto (tgt := 222) hx hb d_md_isAttacked_218 (by decide) ?_
                                exact cut222 v3 v4 v5 v7 v10 t0 (1 : Int32) ls (i0) (f0) (r0) (j1) (hm) (a0) (bv.trans (by rw [w9])) (c_36) (lv_sub hl [1, 2, 3, 4, 5, 6, 8, 10, 0] rfl) hF
                        · have hF := hF.trans (if_pos c_54)
                          refine lv_iload hx hb d_md_isAttacked_171 (lv_at hl 10 rfl) ?_
                          refine lv_iload hx hb d_md_isAttacked_173 (lv_at hl 0 rfl) ?_
                          refine lv_iadd hx hb d_md_isAttacked_175 ?_
                          refine lv_iconst (v := 3) hx hb d_md_isAttacked_176 (by decide) ?_
                          refine lv_icmp_ne (tgt := 194) hx hb d_md_isAttacked_177 (by decide) (fun c_58 => ?_) (fun c_58 => ?_)
                          · have hF := hF.trans (if_neg c_58)
                            refine lv_iconst (v := 0) hx hb d_md_isAttacked_194 (by decide) ?_
                            refine lv_goto (tgt := 222) hx hb d_md_isAttacked_195 (by decide) ?_
                            exact cut222 v3 v4 v5 v7 v10 t0 (0 : Int32) ls (i0) (f0) (r0) (j1) (hm) (a0) (bv.trans (by rw [w9])) (c_36) (lv_sub hl [1, 2, 3, 4, 5, 6, 8, 10, 0] rfl) hF
                          · have hF := hF.trans (if_pos c_58)
                            refine lv_iload hx hb d_md_isAttacked_180 (lv_at hl 10 rfl) ?_
                            refine lv_if_le (tgt := 194) hx hb d_md_isAttacked_182 (by decide) (fun c_59 => ?_) (fun c_59 => ?_)
                            · have hF := hF.trans (if_pos c_59)
                              refine lv_iconst (v := 0) hx hb d_md_isAttacked_194 (by decide) ?_
                              refine lv_goto (tgt := 222) hx hb d_md_isAttacked_195 (by decide) ?_
                              exact cut222 v3 v4 v5 v7 v10 t0 (0 : Int32) ls (i0) (f0) (r0) (j1) (hm) (a0) (bv.trans (by rw [w9])) (c_36) (lv_sub hl [1, 2, 3, 4, 5, 6, 8, 10, 0] rfl) hF
                            · have hF := hF.trans (if_neg c_59)
                              refine lv_iload hx hb d_md_isAttacked_185 (lv_at hl 0 rfl) ?_
                              refine lv_if_le (tgt := 194) hx hb d_md_isAttacked_187 (by decide) (fun c_60 => ?_) (fun c_60 => ?_)
                              · have hF := hF.trans (if_pos c_60)
                                refine lv_iconst (v := 0) hx hb d_md_isAttacked_194 (by decide) ?_
                                refine lv_goto (tgt := 222) hx hb d_md_isAttacked_195 (by decide) ?_
                                exact cut222 v3 v4 v5 v7 v10 t0 (0 : Int32) ls (i0) (f0) (r0) (j1) (hm) (a0) (bv.trans (by rw [w9])) (c_36) (lv_sub hl [1, 2, 3, 4, 5, 6, 8, 10, 0] rfl) hF
                              · have hF := hF.trans (if_neg c_60)
                                refine lv_iconst (v := 1) hx hb d_md_isAttacked_190 (by decide) ?_
                                refine lv_goto (tgt := 222) hx hb d_md_isAttacked_191 (by decide) ?_
                                exact cut222 v3 v4 v5 v7 v10 t0 (1 : Int32) ls (i0) (f0) (r0) (j1) (hm) (a0) (bv.trans (by rw [w9])) (c_36) (lv_sub hl [1, 2, 3, 4, 5, 6, 8, 10, 0] rfl) hF
                      · have hF := hF.trans (if_pos c_53)
                        refine lv_iload hx hb d_md_isAttacked_137 (lv_at hl 10 rfl) ?_
                        refine lv_iconst (v := 1) hx hb d_md_isAttacked_139 (by decide) ?_
                        refine lv_icmp_ne (tgt := 161) hx hb d_md_isAttacked_140 (by decide) (fun c_61 => ?_) (fun c_61 => ?_)
                        · have hF := hF.trans (if_neg c_61)
                          refine lv_iconst (v := 0) hx hb d_md_isAttacked_161 (by decide) ?_
                          refine lv_goto (tgt := 222) hx hb d_md_isAttacked_162 (by decide) ?_
                          exact cut222 v3 v4 v5 v7 v10 t0 (0 : Int32) ls (i0) (f0) (r0) (j1) (hm) (a0) (bv.trans (by rw [w9])) (c_36) (lv_sub hl [1, 2, 3, 4, 5, 6, 8, 10, 0] rfl) hF
                        · have hF := hF.trans (if_pos c_61)
                          refine lv_iload hx hb d_md_isAttacked_143 (lv_at hl 9 rfl) ?_
                          refine lv_iload_n hx hb d_md_isAttacked_145 rfl (lv_at hl 3 rfl) ?_
                          refine lv_if_ne (tgt := 153) hx hb d_md_isAttacked_146 (by decide) (fun c_62 => ?_) (fun c_62 => ?_)
                          · have hF := hF.trans (if_neg c_62)
                            refine lv_iconst (v := -1) hx hb d_md_isAttacked_153 (by decide) ?_
                            refine lv_icmp_ne (tgt := 161) hx hb d_md_isAttacked_154 (by decide) (fun c_63 => ?_) (fun c_63 => ?_)
                            · have hF := hF.trans (if_neg c_63)
                              refine lv_iconst (v := 0) hx hb d_md_isAttacked_161 (by decide) ?_
                              refine lv_goto (tgt := 222) hx hb d_md_isAttacked_162 (by decide) ?_
                              exact cut222 v3 v4 v5 v7 v10 t0 (0 : Int32) ls (i0) (f0) (r0) (j1) (hm) (a0) (bv.trans (by rw [w9])) (c_36) (lv_sub hl [1, 2, 3, 4, 5, 6, 8, 10, 0] rfl) hF
                            · have hF := hF.trans (if_pos c_63)
                              refine lv_iconst (v := 1) hx hb d_md_isAttacked_157 (by decide) ?_
                              refine lv_goto (tgt := 222) hx hb d_md_isAttacked_158 (by decide) ?_
                              exact cut222 v3 v4 v5 v7 v10 t0 (1 : Int32) ls (i0) (f0) (r0) (j1) (hm) (a0) (bv.trans (by rw [w9])) (c_36) (lv_sub hl [1, 2, 3, 4, 5, 6, 8, 10, 0] rfl) hF
                          · have hF := hF.trans (if_pos c_62)
                            refine lv_iconst (v := 1) hx hb d_md_isAttacked_149 (by decide) ?_
                            refine lv_goto (tgt := 154) hx hb d_md_isAttacked_150 (by decide) ?_
                            refine lv_icmp_ne (tgt := 161) hx hb d_md_isAttacked_154 (by decide) (fun c_64 => ?_) (fun c_64 => ?_)
                            · have hF := hF.trans (if_neg c_64)
                              refine lv_iconst (v := 0) hx hb d_md_isAttacked_161 (by decide) ?_
                              refine lv_goto (tgt := 222) hx hb d_md_isAttacked_162 (by decide) ?_
                              exact cut222 v3 v4 v5 v7 v10 t0 (0 : Int32) ls (i0) (f0) (r0) (j1) (hm) (a0) (bv.trans (by rw [w9])) (c_36) (lv_sub hl [1, 2, 3, 4, 5, 6, 8, 10, 0] rfl) hF
                            · have hF := hF.trans (if_pos c_64)
                              refine lv_iconst (v := 1) hx hb d_md_isAttacked_157 (by decide) ?_
                              refine lv_goto (tgt := 222) hx hb d_md_isAttacked_158 (by decide) ?_
                              exact cut222 v3 v4 v5 v7 v10 t0 (1 : Int32) ls (i0) (f0) (r0) (j1) (hm) (a0) (bv.trans (by rw [w9])) (c_36) (lv_sub hl [1, 2, 3, 4, 5, 6, 8, 10, 0] rfl) hF
            refine lv_if_ge (tgt := 91) hx hb d_md_isAttacked_82 (by decide) (fun c_65 => ?_) (fun c_65 => ?_)
            · have hF := hF.trans (if_pos c_65)
              refine lv_iload hx hb d_md_isAttacked_91 (lv_at hl 9 rfl) ?_
              exact cut93 v3 v4 v5 v6 v7 v9 t0 v9 ls (i0) (f0) (r0) (j1) (hm) (av) (by first | exact (if_pos c_65).symm | exact (if_neg c_65).symm) (w9) (lv_sub hl [1, 2, 3, 4, 5, 6, 7, 8, 9, 0] rfl) hF
            · have hF := hF.trans (if_neg c_65)
              refine lv_iload hx hb d_md_isAttacked_85 (lv_at hl 9 rfl) ?_
              refine lv_ineg hx hb d_md_isAttacked_87 ?_
              refine lv_goto (tgt := 93) hx hb d_md_isAttacked_88 (by decide) ?_
              exact cut93 v3 v4 v5 v6 v7 v9 t0 (-v9) ls (i0) (f0) (r0) (j1) (hm) (av) (by first | exact (if_pos c_65).symm | exact (if_neg c_65).symm) (w9) (lv_sub hl [1, 2, 3, 4, 5, 6, 7, 8, 9, 0] rfl) hF
          refine lv_if_ge (tgt := 76) hx hb d_md_isAttacked_67 (by decide) (fun c_66 => ?_) (fun c_66 => ?_)
          · have hF := hF.trans (if_pos c_66)
            refine lv_iload hx hb d_md_isAttacked_76 (lv_at hl 1 rfl) ?_
            exact cut78 v3 v4 v5 v6 t0 (v4 - (v5 / (8 : Int32))) (v3 - (v5 - v5 / (8 : Int32) * (8 : Int32))) ls (i0) (f0) (r0) (j1) (hm) (by first | exact (if_pos c_66).symm | exact (if_neg c_66).symm) (rfl) (lv_sub hl [3, 4, 5, 6, 7, 8, 9, 2, 0] rfl) hF
          · have hF := hF.trans (if_neg c_66)
            refine lv_iload hx hb d_md_isAttacked_70 (lv_at hl 1 rfl) ?_
            refine lv_ineg hx hb d_md_isAttacked_72 ?_
            refine lv_goto (tgt := 78) hx hb d_md_isAttacked_73 (by decide) ?_
            exact cut78 v3 v4 v5 v6 t0 (v4 - (v5 / (8 : Int32))) (-(v3 - (v5 - v5 / (8 : Int32) * (8 : Int32)))) ls (i0) (f0) (r0) (j1) (hm) (by first | exact (if_pos c_66).symm | exact (if_neg c_66).symm) (rfl) (lv_sub hl [3, 4, 5, 6, 7, 8, 9, 2, 0] rfl) hF
        refine lv_icmp_le (tgt := 42) hx hb d_md_isAttacked_31 (by decide) (fun c_67 => ?_) (fun c_67 => ?_)
        · have hF := hF.trans (if_pos c_67)
          refine lv_iload hx hb d_md_isAttacked_42 (lv_at hl 0 rfl) ?_
          exact cut44 v3 v4 v5 (on v5.toNatClampNeg) (on v5.toNatClampNeg) ls (i0) (f0) (r0) (c_1) (hm) (lv_sub hl [1, 2, 3, 4, 5, 6, 0] rfl) hF
        · have hF := hF.trans (if_neg c_67)
          refine lv_iload hx hb d_md_isAttacked_34 (lv_at hl 0 rfl) ?_
          refine lv_bipush (v := 6) hx hb d_md_isAttacked_36 (by decide) ?_
          refine lv_isub hx hb d_md_isAttacked_38 ?_
          refine lv_goto (tgt := 44) hx hb d_md_isAttacked_39 (by decide) ?_
          exact cut44 v3 v4 v5 (on v5.toNatClampNeg) ((on v5.toNatClampNeg) - (6 : Int32)) ls (i0) (f0) (r0) (c_1) (hm) (lv_sub hl [1, 2, 3, 4, 5, 6, 0] rfl) hF
  exact loop14 65 (sq - sq / (8 : Int32) * (8 : Int32)) (sq / (8 : Int32)) (0 : Int32) ls (by decide) (rfl) (rfl) (by decide) (lv_sub hl [3, 4, 5, 2, 1, 0] rfl) hF
