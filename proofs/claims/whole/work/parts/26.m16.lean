def f_md_isOpen_L79 (on : (Nat → Int32)) (fr : Int32) (to : Int32) : Nat → Int32 → Int32 → Int32 → Int32 → Int32
  | 0, _, _, _, _ => 0
  | n + 1, v3, v4, v5, v6 => (if v6 = to then v5 else (if v5 = 0 then (f_md_isOpen_L79 on fr to  n v3 v4 (0 : Int32) (v6 + (v3 + ((8 : Int32) * v4)))) else (if (on v6.toNatClampNeg) = 0 then (f_md_isOpen_L79 on fr to  n v3 v4 (1 : Int32) (v6 + (v3 + ((8 : Int32) * v4)))) else (f_md_isOpen_L79 on fr to  n v3 v4 (0 : Int32) (v6 + (v3 + ((8 : Int32) * v4)))))))
def f_md_isOpen (on : (Nat → Int32)) (fr : Int32) (to : Int32) : Int32 := (if (to - to / (8 : Int32) * (8 : Int32)) ≤ (fr - fr / (8 : Int32) * (8 : Int32)) then (if (fr - fr / (8 : Int32) * (8 : Int32)) ≤ (to - to / (8 : Int32) * (8 : Int32)) then (if (to / (8 : Int32)) ≤ (fr / (8 : Int32)) then (if (fr / (8 : Int32)) ≤ (to / (8 : Int32)) then (f_md_isOpen_L79 on fr to  9 (0 : Int32) (0 : Int32) (1 : Int32) ((fr + (0 : Int32)) + ((8 : Int32) * (0 : Int32)))) else (f_md_isOpen_L79 on fr to  9 (0 : Int32) (-1 : Int32) (1 : Int32) ((fr + (0 : Int32)) + ((8 : Int32) * (-1 : Int32))))) else (f_md_isOpen_L79 on fr to  9 (0 : Int32) (1 : Int32) (1 : Int32) ((fr + (0 : Int32)) + ((8 : Int32) * (1 : Int32))))) else (if (to / (8 : Int32)) ≤ (fr / (8 : Int32)) then (if (fr / (8 : Int32)) ≤ (to / (8 : Int32)) then (f_md_isOpen_L79 on fr to  9 (-1 : Int32) (0 : Int32) (1 : Int32) ((fr + (-1 : Int32)) + ((8 : Int32) * (0 : Int32)))) else (f_md_isOpen_L79 on fr to  9 (-1 : Int32) (-1 : Int32) (1 : Int32) ((fr + (-1 : Int32)) + ((8 : Int32) * (-1 : Int32))))) else (f_md_isOpen_L79 on fr to  9 (-1 : Int32) (1 : Int32) (1 : Int32) ((fr + (-1 : Int32)) + ((8 : Int32) * (1 : Int32)))))) else (if (to / (8 : Int32)) ≤ (fr / (8 : Int32)) then (if (fr / (8 : Int32)) ≤ (to / (8 : Int32)) then (f_md_isOpen_L79 on fr to  9 (1 : Int32) (0 : Int32) (1 : Int32) ((fr + (1 : Int32)) + ((8 : Int32) * (0 : Int32)))) else (f_md_isOpen_L79 on fr to  9 (1 : Int32) (-1 : Int32) (1 : Int32) ((fr + (1 : Int32)) + ((8 : Int32) * (-1 : Int32))))) else (f_md_isOpen_L79 on fr to  9 (1 : Int32) (1 : Int32) (1 : Int32) ((fr + (1 : Int32)) + ((8 : Int32) * (1 : Int32))))))
set_option maxHeartbeats 4000000 in
set_option maxRecDepth 100000 in
theorem c_md_isOpen (l : Launch) (K : KT) (onh : Nat) (on : (Nat → Int32)) (fr : Int32) (to : Int32) : Met l y_md_isOpen w_md_isOpen ({ frames := 0, cells := 0, slots := 0, locals := 0 } : Room) (va_Pc [.ref onh, .int fr, .int to] (fun U => pRO K [(onh, .inl ((kI K), 64, .inl on))] U ∧ opn fr to ∧ True)) (vp_Si (fun r => f_md_isOpen on fr to = r ∧ narrow .boolean (.int r) = .int r)) 0 0 (fun _ => False) := by
  refine Met.ofW (cc := b_md_isOpen) (maxL := 7) (ret := (some .boolean)) (by decide) rfl ?_
  intro p e s m args below meth c s₁ B hml hv
  obtain ⟨rfl, ⟨hP, hK, hG⟩, h_o, -⟩ := hv
  have hx := B.exec
  have hb := B.bytes
  have hr := B.returns
  have hts := atoms_spec (ws := w_md_isOpen) B.pre
  have hown : s.vm.findClass R_md = some m.cls := findClass_of_methodNamed B.named
  have hlocks := B.notSynchronized
  have htg := fun w h => hts w (List.mem_cons_of_mem _ h)
  have hS : va_S (fun _ => False) s.heap s.heap [] := va_S.rf
  have hl := lv_entry ([.ref onh, .int fr, .int to]) (n := 7) (Nat.le_of_ble_eq_true rfl)
  rw [lg_entry_eq]
  generalize (lg_sl ([.ref onh, .int fr, .int to]) ++ List.replicate (7 - (lg_sl ([.ref onh, .int fr, .int to])).length) Slot.unset).toArray = ls at hl ⊢
  have hl : lv_has ls 7 [(0, .ref onh), (1, .int fr), (2, .int to)] := hl
  have z0 : (0 : Int32).toInt = 0 := by decide
  have z1 : (1 : Int32).toInt = 1 := by decide
  have zm1 : (-1 : Int32).toInt = -1 := by decide
  have z2 : (2 : Int32).toInt = 2 := by decide
  have z3 : (3 : Int32).toInt = 3 := by decide
  have z7 : (7 : Int32).toInt = 7 := by decide
  have z8 : (8 : Int32).toInt = 8 := by decide
  have z16 : (16 : Int32).toInt = 16 := by decide
  have z64 : (64 : Int32).toInt = 64 := by decide
  have z100 : (100 : Int32).toInt = 100 := by decide
  have z330 : (330 : Int32).toInt = 330 := by decide
  have hF := f_md_isOpen.eq_1 on fr to
  refine lv_iload_n hx hb d_md_isOpen_0 rfl (lv_at hl 2 rfl) ?_
  refine lv_bipush (v := 8) hx hb d_md_isOpen_1 (by decide) ?_
  refine lv_irem hx hb d_md_isOpen_3 (by decide) ?_
  refine lv_iload_n hx hb d_md_isOpen_4 rfl (lv_at hl 1 rfl) ?_
  refine lv_bipush (v := 8) hx hb d_md_isOpen_5 (by decide) ?_
  refine lv_irem hx hb d_md_isOpen_7 (by decide) ?_
  refine lv_icmp_le (tgt := 15) hx hb d_md_isOpen_8 (by decide) (fun c_1 => ?_) (fun c_1 => ?_)
  · have hF := hF.trans (if_pos c_1)
    refine lv_iload_n hx hb d_md_isOpen_15 rfl (lv_at hl 2 rfl) ?_
    refine lv_bipush (v := 8) hx hb d_md_isOpen_16 (by decide) ?_
    refine lv_irem hx hb d_md_isOpen_18 (by decide) ?_
    refine lv_iload_n hx hb d_md_isOpen_19 rfl (lv_at hl 1 rfl) ?_
    refine lv_bipush (v := 8) hx hb d_md_isOpen_20 (by decide) ?_
    refine lv_irem hx hb d_md_isOpen_22 (by decide) ?_
    refine lv_icmp_ge (tgt := 30) hx hb d_md_isOpen_23 (by decide) (fun c_2 => ?_) (fun c_2 => ?_)
    · have hF := hF.trans (if_pos c_2)
      refine lv_iconst (v := 0) hx hb d_md_isOpen_30 (by decide) ?_
      refine lv_istore_n (lv' := [(3, .int (0 : Int32)), (0, .ref onh), (1, .int fr), (2, .int to)]) hx hb d_md_isOpen_31 rfl hl (by decide) rfl (fun ls hl => ?_)
      refine lv_iload_n hx hb d_md_isOpen_32 rfl (lv_at hl 3 rfl) ?_
      refine lv_bipush (v := 8) hx hb d_md_isOpen_33 (by decide) ?_
      refine lv_idiv hx hb d_md_isOpen_35 (by decide) ?_
      refine lv_iload_n hx hb d_md_isOpen_36 rfl (lv_at hl 2 rfl) ?_
      refine lv_bipush (v := 8) hx hb d_md_isOpen_37 (by decide) ?_
      refine lv_idiv hx hb d_md_isOpen_39 (by decide) ?_
      refine lv_icmp_le (tgt := 47) hx hb d_md_isOpen_40 (by decide) (fun c_3 => ?_) (fun c_3 => ?_)
      · have hF := hF.trans (if_pos c_3)
        refine lv_iload_n hx hb d_md_isOpen_47 rfl (lv_at hl 3 rfl) ?_
        refine lv_bipush (v := 8) hx hb d_md_isOpen_48 (by decide) ?_
        refine lv_idiv hx hb d_md_isOpen_50 (by decide) ?_
        refine lv_iload_n hx hb d_md_isOpen_51 rfl (lv_at hl 2 rfl) ?_
        refine lv_bipush (v := 8) hx hb d_md_isOpen_52 (by decide) ?_
        refine lv_idiv hx hb d_md_isOpen_54 (by decide) ?_
        refine lv_icmp_ge (tgt := 62) hx hb d_md_isOpen_55 (by decide) (fun c_4 => ?_) (fun c_4 => ?_)
        · have hF := hF.trans (if_pos c_4)
          refine lv_iconst (v := 0) hx hb d_md_isOpen_62 (by decide) ?_
          refine lv_istore (lv' := [(4, .int (0 : Int32)), (3, .int (0 : Int32)), (0, .ref onh), (1, .int fr), (2, .int to)]) hx hb d_md_isOpen_63 hl (by decide) rfl (fun ls hl => ?_)
          refine lv_iconst (v := 1) hx hb d_md_isOpen_65 (by decide) ?_
          refine lv_istore (lv' := [(5, .int (1 : Int32)), (4, .int (0 : Int32)), (3, .int (0 : Int32)), (0, .ref onh), (1, .int fr), (2, .int to)]) hx hb d_md_isOpen_66 hl (by decide) rfl (fun ls hl => ?_)
          refine lv_iload_n hx hb d_md_isOpen_68 rfl (lv_at hl 4 rfl) ?_
          refine lv_iload_n hx hb d_md_isOpen_69 rfl (lv_at hl 2 rfl) ?_
          refine lv_iadd hx hb d_md_isOpen_70 ?_
          refine lv_bipush (v := 8) hx hb d_md_isOpen_71 (by decide) ?_
          refine lv_iload hx hb d_md_isOpen_73 (lv_at hl 1 rfl) ?_
          refine lv_imul hx hb d_md_isOpen_75 ?_
          refine lv_iadd hx hb d_md_isOpen_76 ?_
          refine lv_istore (lv' := [(6, .int ((fr + (0 : Int32)) + ((8 : Int32) * (0 : Int32)))), (5, .int (1 : Int32)), (4, .int (0 : Int32)), (3, .int (0 : Int32)), (0, .ref onh), (1, .int fr), (2, .int to)]) hx hb d_md_isOpen_77 hl (by decide) rfl (fun ls hl => ?_)
          have loop79 : ∀ (n79 : Nat) (v3 : Int32) (v4 : Int32) (v5 : Int32) (v6 : Int32) (ls : Array Slot), (∃ k, k < n79 ∧ opR to (v3 + (8 : Int32) * v4) k v6) → narrow .boolean (.int v5) = .int v5 → 0 < n79 → lv_has ls 7 [(0, .ref onh), (1, .int fr), (2, .int to), (3, .int v3), (4, .int v4), (5, .int v5), (6, .int v6)] → f_md_isOpen on fr to = f_md_isOpen_L79 on fr to  n79 v3 v4 v5 v6 → W p l e (headSpec w_md_isOpen ({ frames := 0, cells := 0, slots := 0, locals := 0 } : Room)).room s m ([(.ref onh : Value), .int fr, .int to].toArray) below meth c s.heap [] 0 0 (MQ below (vp_Si (fun r => f_md_isOpen on fr to = r ∧ narrow .boolean (.int r) = .int r)) ([(.ref onh : Value), .int fr, .int to].toArray) s 0 0 ((fun _ => False))) (F0 m 79 ls []) := by
            intro n79
            induction n79 with
            | zero =>
              intro _ _ _ _ _ _ _ hz
              exact absurd hz (Nat.not_lt_zero _)
            | succ n79 ih79 =>
              intro v3 v4 v5 v6 ls w0 nb hm hl hF
              rw [f_md_isOpen_L79] at hF
              refine lv_iload hx hb d_md_isOpen_79 (lv_at hl 6 rfl) ?_
              refine lv_iload_n hx hb d_md_isOpen_81 rfl (lv_at hl 2 rfl) ?_
              refine lv_icmp_eq (tgt := 119) hx hb d_md_isOpen_82 (by decide) (fun c_5 => ?_) (fun c_5 => ?_)
              · have hF := hF.trans (if_pos c_5)
                refine lv_iload hx hb d_md_isOpen_119 (lv_at hl 5 rfl) ?_
                exact W.zret (v := v5) hx hb hr (nb) (fun t ht hW => ⟨_, rfl, ⟨hF, nb⟩, ht⟩) hS.2.2 d_md_isOpen_121
              · have hF := hF.trans (if_neg c_5)
                refine lv_iload hx hb d_md_isOpen_85 (lv_at hl 5 rfl) ?_
                refine lv_if_eq (tgt := 101) hx hb d_md_isOpen_87 (by decide) (fun c_6 => ?_) (fun c_6 => ?_)
                · have hF := hF.trans (if_pos c_6)
                  refine lv_iconst (v := 0) hx hb d_md_isOpen_101 (by decide) ?_
                  refine lv_istore (lv' := [(5, .int (0 : Int32)), (0, .ref onh), (1, .int fr), (2, .int to), (3, .int v3), (4, .int v4), (6, .int v6)]) hx hb d_md_isOpen_102 hl (by decide) rfl (fun ls hl => ?_)
                  refine lv_iload hx hb d_md_isOpen_104 (lv_at hl 6 rfl) ?_
                  refine lv_iload_n hx hb d_md_isOpen_106 rfl (lv_at hl 4 rfl) ?_
                  refine lv_bipush (v := 8) hx hb d_md_isOpen_107 (by decide) ?_
                  refine lv_iload hx hb d_md_isOpen_109 (lv_at hl 5 rfl) ?_
                  refine lv_imul hx hb d_md_isOpen_111 ?_
                  refine lv_iadd hx hb d_md_isOpen_112 ?_
                  refine lv_iadd hx hb d_md_isOpen_113 ?_
                  refine lv_istore (lv' := [(6, .int (v6 + (v3 + ((8 : Int32) * v4)))), (5, .int (0 : Int32)), (0, .ref onh), (1, .int fr), (2, .int to), (3, .int v3), (4, .int v4)]) hx hb d_md_isOpen_114 hl (by decide) rfl (fun ls hl => ?_)
                  refine lv_goto (tgt := 79) hx hb d_md_isOpen_116 (by decide) ?_
                  exact ih79  v3 v4 (0 : Int32) (v6 + (v3 + ((8 : Int32) * v4))) ls (opr_s w0 c_5) (rfl) (opr_p w0 c_5) (lv_sub hl [2, 3, 4, 5, 6, 1, 0] rfl) hF
                · have hF := hF.trans (if_neg c_6)
                  refine lv_aload_n hx hb d_md_isOpen_90 rfl (lv_at hl 0 rfl) ?_
                  refine lv_iload hx hb d_md_isOpen_91 (lv_at hl 6 rfl) ?_
                  have h_7 : vp_in v6 64 := opr_i w0 c_5
                  refine va_iald hx hb hK hP 0 0 rfl rfl h_7 d_md_isOpen_93 ?_
                  refine lv_if_ne (tgt := 101) hx hb d_md_isOpen_94 (by decide) (fun c_8 => ?_) (fun c_8 => ?_)
                  · have hF := hF.trans (if_neg c_8)
                    refine lv_iconst (v := 0) hx hb d_md_isOpen_101 (by decide) ?_
                    refine lv_istore (lv' := [(5, .int (0 : Int32)), (0, .ref onh), (1, .int fr), (2, .int to), (3, .int v3), (4, .int v4), (6, .int v6)]) hx hb d_md_isOpen_102 hl (by decide) rfl (fun ls hl => ?_)
                    refine lv_iload hx hb d_md_isOpen_104 (lv_at hl 6 rfl) ?_
                    refine lv_iload_n hx hb d_md_isOpen_106 rfl (lv_at hl 4 rfl) ?_
                    refine lv_bipush (v := 8) hx hb d_md_isOpen_107 (by decide) ?_
                    refine lv_iload hx hb d_md_isOpen_109 (lv_at hl 5 rfl) ?_
                    refine lv_imul hx hb d_md_isOpen_111 ?_
                    refine lv_iadd hx hb d_md_isOpen_112 ?_
                    refine lv_iadd hx hb d_md_isOpen_113 ?_
                    refine lv_istore (lv' := [(6, .int (v6 + (v3 + ((8 : Int32) * v4)))), (5, .int (0 : Int32)), (0, .ref onh), (1, .int fr), (2, .int to), (3, .int v3), (4, .int v4)]) hx hb d_md_isOpen_114 hl (by decide) rfl (fun ls hl => ?_)
                    refine lv_goto (tgt := 79) hx hb d_md_isOpen_116 (by decide) ?_
                    exact ih79  v3 v4 (0 : Int32) (v6 + (v3 + ((8 : Int32) * v4))) ls (opr_s w0 c_5) (rfl) (opr_p w0 c_5) (lv_sub hl [2, 3, 4, 5, 6, 1, 0] rfl) hF
                  · have hF := hF.trans (if_pos c_8)
                    refine lv_iconst (v := 1) hx hb d_md_isOpen_97 (by decide) ?_
                    refine lv_goto (tgt := 102) hx hb d_md_isOpen_98 (by decide) ?_
                    refine lv_istore (lv' := [(5, .int (1 : Int32)), (0, .ref onh), (1, .int fr), (2, .int to), (3, .int v3), (4, .int v4), (6, .int v6)]) hx hb d_md_isOpen_102 hl (by decide) rfl (fun ls hl => ?_)
                    refine lv_iload hx hb d_md_isOpen_104 (lv_at hl 6 rfl) ?_
                    refine lv_iload_n hx hb d_md_isOpen_106 rfl (lv_at hl 4 rfl) ?_
                    refine lv_bipush (v := 8) hx hb d_md_isOpen_107 (by decide) ?_
                    refine lv_iload hx hb d_md_isOpen_109 (lv_at hl 5 rfl) ?_
                    refine lv_imul hx hb d_md_isOpen_111 ?_
                    refine lv_iadd hx hb d_md_isOpen_112 ?_
                    refine lv_iadd hx hb d_md_isOpen_113 ?_
                    refine lv_istore (lv' := [(6, .int (v6 + (v3 + ((8 : Int32) * v4)))), (5, .int (1 : Int32)), (0, .ref onh), (1, .int fr), (2, .int to), (3, .int v3), (4, .int v4)]) hx hb d_md_isOpen_114 hl (by decide) rfl (fun ls hl => ?_)
                    refine lv_goto (tgt := 79) hx hb d_md_isOpen_116 (by decide) ?_
                    exact ih79  v3 v4 (1 : Int32) (v6 + (v3 + ((8 : Int32) * v4))) ls (opr_s w0 c_5) (rfl) (opr_p w0 c_5) (lv_sub hl [2, 3, 4, 5, 6, 1, 0] rfl) hF
          exact loop79 9 (0 : Int32) (0 : Int32) (1 : Int32) ((fr + (0 : Int32)) + ((8 : Int32) * (0 : Int32))) ls (op_e h_o (by first | exact if_neg c_1 | exact (if_pos c_1).trans (if_neg c_2) | exact (if_pos c_1).trans (if_pos c_2)) (by first | exact if_neg c_4 | exact (if_pos c_3).trans (if_neg c_4) | exact (if_pos c_3).trans (if_pos c_4))) (rfl) (by decide) (lv_sub hl [4, 5, 6, 3, 2, 1, 0] rfl) hF
        · have hF := hF.trans (if_neg c_4)
          refine lv_iconst (v := -1) hx hb d_md_isOpen_58 (by decide) ?_
          refine lv_goto (tgt := 63) hx hb d_md_isOpen_59 (by decide) ?_
          refine lv_istore (lv' := [(4, .int (-1 : Int32)), (3, .int (0 : Int32)), (0, .ref onh), (1, .int fr), (2, .int to)]) hx hb d_md_isOpen_63 hl (by decide) rfl (fun ls hl => ?_)
          refine lv_iconst (v := 1) hx hb d_md_isOpen_65 (by decide) ?_
          refine lv_istore (lv' := [(5, .int (1 : Int32)), (4, .int (-1 : Int32)), (3, .int (0 : Int32)), (0, .ref onh), (1, .int fr), (2, .int to)]) hx hb d_md_isOpen_66 hl (by decide) rfl (fun ls hl => ?_)
          refine lv_iload_n hx hb d_md_isOpen_68 rfl (lv_at hl 4 rfl) ?_
          refine lv_iload_n hx hb d_md_isOpen_69 rfl (lv_at hl 2 rfl) ?_
          refine lv_iadd hx hb d_md_isOpen_70 ?_
          refine lv_bipush (v := 8) hx hb d_md_isOpen_71 (by decide) ?_
          refine lv_iload hx hb d_md_isOpen_73 (lv_at hl 1 rfl) ?_
          refine lv_imul hx hb d_md_isOpen_75 ?_
          refine lv_iadd hx hb d_md_isOpen_76 ?_
          refine lv_istore (lv' := [(6, .int ((fr + (0 : Int32)) + ((8 : Int32) * (-1 : Int32)))), (5, .int (1 : Int32)), (4, .int (-1 : Int32)), (3, .int (0 : Int32)), (0, .ref onh), (1, .int fr), (2, .int to)]) hx hb d_md_isOpen_77 hl (by decide) rfl (fun ls hl => ?_)
          have loop79 : ∀ (n79 : Nat) (v3 : Int32) (v4 : Int32) (v5 : Int32) (v6 : Int32) (ls : Array Slot), (∃ k, k < n79 ∧ opR to (v3 + (8 : Int32) * v4) k v6) → narrow .boolean (.int v5) = .int v5 → 0 < n79 → lv_has ls 7 [(0, .ref onh), (1, .int fr), (2, .int to), (3, .int v3), (4, .int v4), (5, .int v5), (6, .int v6)] → f_md_isOpen on fr to = f_md_isOpen_L79 on fr to  n79 v3 v4 v5 v6 → W p l e (headSpec w_md_isOpen ({ frames := 0, cells := 0, slots := 0, locals := 0 } : Room)).room s m ([(.ref onh : Value), .int fr, .int to].toArray) below meth c s.heap [] 0 0 (MQ below (vp_Si (fun r => f_md_isOpen on fr to = r ∧ narrow .boolean (.int r) = .int r)) ([(.ref onh : Value), .int fr, .int to].toArray) s 0 0 ((fun _ => False))) (F0 m 79 ls []) := by
            intro n79
            induction n79 with
            | zero =>
              intro _ _ _ _ _ _ _ hz
              exact absurd hz (Nat.not_lt_zero _)
            | succ n79 ih79 =>
              intro v3 v4 v5 v6 ls w0 nb hm hl hF
              rw [f_md_isOpen_L79] at hF
              refine lv_iload hx hb d_md_isOpen_79 (lv_at hl 6 rfl) ?_
              refine lv_iload_n hx hb d_md_isOpen_81 rfl (lv_at hl 2 rfl) ?_
              refine lv_icmp_eq (tgt := 119) hx hb d_md_isOpen_82 (by decide) (fun c_9 => ?_) (fun c_9 => ?_)
              · have hF := hF.trans (if_pos c_9)
                refine lv_iload hx hb d_md_isOpen_119 (lv_at hl 5 rfl) ?_
                exact W.zret (v := v5) hx hb hr (nb) (fun t ht hW => ⟨_, rfl, ⟨hF, nb⟩, ht⟩) hS.2.2 d_md_isOpen_121
              · have hF := hF.trans (if_neg c_9)
                refine lv_iload hx hb d_md_isOpen_85 (lv_at hl 5 rfl) ?_
                refine lv_if_eq (tgt := 101) hx hb d_md_isOpen_87 (by decide) (fun c_10 => ?_) (fun c_10 => ?_)
                · have hF := hF.trans (if_pos c_10)
                  refine lv_iconst (v := 0) hx hb d_md_isOpen_101 (by decide) ?_
                  refine lv_istore (lv' := [(5, .int (0 : Int32)), (0, .ref onh), (1, .int fr), (2, .int to), (3, .int v3), (4, .int v4), (6, .int v6)]) hx hb d_md_isOpen_102 hl (by decide) rfl (fun ls hl => ?_)
                  refine lv_iload hx hb d_md_isOpen_104 (lv_at hl 6 rfl) ?_
                  refine lv_iload_n hx hb d_md_isOpen_106 rfl (lv_at hl 4 rfl) ?_
                  refine lv_bipush (v := 8) hx hb d_md_isOpen_107 (by decide) ?_
                  refine lv_iload hx hb d_md_isOpen_109 (lv_at hl 5 rfl) ?_
                  refine lv_imul hx hb d_md_isOpen_111 ?_
                  refine lv_iadd hx hb d_md_isOpen_112 ?_
                  refine lv_iadd hx hb d_md_isOpen_113 ?_
                  refine lv_istore (lv' := [(6, .int (v6 + (v3 + ((8 : Int32) * v4)))), (5, .int (0 : Int32)), (0, .ref onh), (1, .int fr), (2, .int to), (3, .int v3), (4, .int v4)]) hx hb d_md_isOpen_114 hl (by decide) rfl (fun ls hl => ?_)
                  refine lv_goto (tgt := 79) hx hb d_md_isOpen_116 (by decide) ?_
                  exact ih79  v3 v4 (0 : Int32) (v6 + (v3 + ((8 : Int32) * v4))) ls (opr_s w0 c_9) (rfl) (opr_p w0 c_9) (lv_sub hl [2, 3, 4, 5, 6, 1, 0] rfl) hF
                · have hF := hF.trans (if_neg c_10)
                  refine lv_aload_n hx hb d_md_isOpen_90 rfl (lv_at hl 0 rfl) ?_
                  refine lv_iload hx hb d_md_isOpen_91 (lv_at hl 6 rfl) ?_
                  have h_11 : vp_in v6 64 := opr_i w0 c_9
                  refine va_iald hx hb hK hP 0 0 rfl rfl h_11 d_md_isOpen_93 ?_
                  refine lv_if_ne (tgt := 101) hx hb d_md_isOpen_94 (by decide) (fun c_12 => ?_) (fun c_12 => ?_)
                  · have hF := hF.trans (if_neg c_12)
                    refine lv_iconst (v := 0) hx hb d_md_isOpen_101 (by decide) ?_
                    refine lv_istore (lv' := [(5, .int (0 : Int32)), (0, .ref onh), (1, .int fr), (2, .int to), (3, .int v3), (4, .int v4), (6, .int v6)]) hx hb d_md_isOpen_102 hl (by decide) rfl (fun ls hl => ?_)
                    refine lv_iload hx hb d_md_isOpen_104 (lv_at hl 6 rfl) ?_
                    refine lv_iload_n hx hb d_md_isOpen_106 rfl (lv_at hl 4 rfl) ?_
                    refine lv_bipush (v := 8) hx hb d_md_isOpen_107 (by decide) ?_
                    refine lv_iload hx hb d_md_isOpen_109 (lv_at hl 5 rfl) ?_
                    refine lv_imul hx hb d_md_isOpen_111 ?_
                    refine lv_iadd hx hb d_md_isOpen_112 ?_
                    refine lv_iadd hx hb d_md_isOpen_113 ?_
                    refine lv_istore (lv' := [(6, .int (v6 + (v3 + ((8 : Int32) * v4)))), (5, .int (0 : Int32)), (0, .ref onh), (1, .int fr), (2, .int to), (3, .int v3), (4, .int v4)]) hx hb d_md_isOpen_114 hl (by decide) rfl (fun ls hl => ?_)
                    refine lv_goto (tgt := 79) hx hb d_md_isOpen_116 (by decide) ?_
                    exact ih79  v3 v4 (0 : Int32) (v6 + (v3 + ((8 : Int32) * v4))) ls (opr_s w0 c_9) (rfl) (opr_p w0 c_9) (lv_sub hl [2, 3, 4, 5, 6, 1, 0] rfl) hF
                  · have hF := hF.trans (if_pos c_12)
                    refine lv_iconst (v := 1) hx hb d_md_isOpen_97 (by decide) ?_
                    refine lv_goto (tgt := 102) hx hb d_md_isOpen_98 (by decide) ?_
                    refine lv_istore (lv' := [(5, .int (1 : Int32)), (0, .ref onh), (1, .int fr), (2, .int to), (3, .int v3), (4, .int v4), (6, .int v6)]) hx hb d_md_isOpen_102 hl (by decide) rfl (fun ls hl => ?_)
                    refine lv_iload hx hb d_md_isOpen_104 (lv_at hl 6 rfl) ?_
                    refine lv_iload_n hx hb d_md_isOpen_106 rfl (lv_at hl 4 rfl) ?_
                    refine lv_bipush (v := 8) hx hb d_md_isOpen_107 (by decide) ?_
                    refine lv_iload hx hb d_md_isOpen_109 (lv_at hl 5 rfl) ?_
                    refine lv_imul hx hb d_md_isOpen_111 ?_
                    refine lv_iadd hx hb d_md_isOpen_112 ?_
                    refine lv_iadd hx hb d_md_isOpen_113 ?_
                    refine lv_istore (lv' := [(6, .int (v6 + (v3 + ((8 : Int32) * v4)))), (5, .int (1 : Int32)), (0, .ref onh), (1, .int fr), (2, .int to), (3, .int v3), (4, .int v4)]) hx hb d_md_isOpen_114 hl (by decide) rfl (fun ls hl => ?_)
                    refine lv_goto (tgt := 79) hx hb d_md_isOpen_116 (by decide) ?_
                    exact ih79  v3 v4 (1 : Int32) (v6 + (v3 + ((8 : Int32) * v4))) ls (opr_s w0 c_9) (rfl) (opr_p w0 c_9) (lv_sub hl [2, 3, 4, 5, 6, 1, 0] rfl) hF
          exact loop79 9 (0 : Int32) (-1 : Int32) (1 : Int32) ((fr + (0 : Int32)) + ((8 : Int32) * (-1 : Int32))) ls (op_e h_o (by first | exact if_neg c_1 | exact (if_pos c_1).trans (if_neg c_2) | exact (if_pos c_1).trans (if_pos c_2)) (by first | exact if_neg c_4 | exact (if_pos c_3).trans (if_neg c_4) | exact (if_pos c_3).trans (if_pos c_4))) (rfl) (by decide) (lv_sub hl [4, 5, 6, 3, 2, 1, 0] rfl) hF
      · have hF := hF.trans (if_neg c_3)
        refine lv_iconst (v := 1) hx hb d_md_isOpen_43 (by decide) ?_
        refine lv_goto (tgt := 63) hx hb d_md_isOpen_44 (by decide) ?_
        refine lv_istore (lv' := [(4, .int (1 : Int32)), (3, .int (0 : Int32)), (0, .ref onh), (1, .int fr), (2, .int to)]) hx hb d_md_isOpen_63 hl (by decide) rfl (fun ls hl => ?_)
        refine lv_iconst (v := 1) hx hb d_md_isOpen_65 (by decide) ?_
        refine lv_istore (lv' := [(5, .int (1 : Int32)), (4, .int (1 : Int32)), (3, .int (0 : Int32)), (0, .ref onh), (1, .int fr), (2, .int to)]) hx hb d_md_isOpen_66 hl (by decide) rfl (fun ls hl => ?_)
        refine lv_iload_n hx hb d_md_isOpen_68 rfl (lv_at hl 4 rfl) ?_
        refine lv_iload_n hx hb d_md_isOpen_69 rfl (lv_at hl 2 rfl) ?_
        refine lv_iadd hx hb d_md_isOpen_70 ?_
        refine lv_bipush (v := 8) hx hb d_md_isOpen_71 (by decide) ?_
        refine lv_iload hx hb d_md_isOpen_73 (lv_at hl 1 rfl) ?_
        refine lv_imul hx hb d_md_isOpen_75 ?_
        refine lv_iadd hx hb d_md_isOpen_76 ?_
        refine lv_istore (lv' := [(6, .int ((fr + (0 : Int32)) + ((8 : Int32) * (1 : Int32)))), (5, .int (1 : Int32)), (4, .int (1 : Int32)), (3, .int (0 : Int32)), (0, .ref onh), (1, .int fr), (2, .int to)]) hx hb d_md_isOpen_77 hl (by decide) rfl (fun ls hl => ?_)
        have loop79 : ∀ (n79 : Nat) (v3 : Int32) (v4 : Int32) (v5 : Int32) (v6 : Int32) (ls : Array Slot), (∃ k, k < n79 ∧ opR to (v3 + (8 : Int32) * v4) k v6) → narrow .boolean (.int v5) = .int v5 → 0 < n79 → lv_has ls 7 [(0, .ref onh), (1, .int fr), (2, .int to), (3, .int v3), (4, .int v4), (5, .int v5), (6, .int v6)] → f_md_isOpen on fr to = f_md_isOpen_L79 on fr to  n79 v3 v4 v5 v6 → W p l e (headSpec w_md_isOpen ({ frames := 0, cells := 0, slots := 0, locals := 0 } : Room)).room s m ([(.ref onh : Value), .int fr, .int to].toArray) below meth c s.heap [] 0 0 (MQ below (vp_Si (fun r => f_md_isOpen on fr to = r ∧ narrow .boolean (.int r) = .int r)) ([(.ref onh : Value), .int fr, .int to].toArray) s 0 0 ((fun _ => False))) (F0 m 79 ls []) := by
          intro n79
          induction n79 with
          | zero =>
            intro _ _ _ _ _ _ _ hz
            exact absurd hz (Nat.not_lt_zero _)
          | succ n79 ih79 =>
            intro v3 v4 v5 v6 ls w0 nb hm hl hF
            rw [f_md_isOpen_L79] at hF
            refine lv_iload hx hb d_md_isOpen_79 (lv_at hl 6 rfl) ?_
            refine lv_iload_n hx hb d_md_isOpen_81 rfl (lv_at hl 2 rfl) ?_
            refine lv_icmp_eq (tgt := 119) hx hb d_md_isOpen_82 (by decide) (fun c_13 => ?_) (fun c_13 => ?_)
            · have hF := hF.trans (if_pos c_13)
              refine lv_iload hx hb d_md_isOpen_119 (lv_at hl 5 rfl) ?_
              exact W.zret (v := v5) hx hb hr (nb) (fun t ht hW => ⟨_, rfl, ⟨hF, nb⟩, ht⟩) hS.2.2 d_md_isOpen_121
            · have hF := hF.trans (if_neg c_13)
              refine lv_iload hx hb d_md_isOpen_85 (lv_at hl 5 rfl) ?_
              refine lv_if_eq (tgt := 101) hx hb d_md_isOpen_87 (by decide) (fun c_14 => ?_) (fun c_14 => ?_)
              · have hF := hF.trans (if_pos c_14)
                refine lv_iconst (v := 0) hx hb d_md_isOpen_101 (by decide) ?_
                refine lv_istore (lv' := [(5, .int (0 : Int32)), (0, .ref onh), (1, .int fr), (2, .int to), (3, .int v3), (4, .int v4), (6, .int v6)]) hx hb d_md_isOpen_102 hl (by decide) rfl (fun ls hl => ?_)
                refine lv_iload hx hb d_md_isOpen_104 (lv_at hl 6 rfl) ?_
                refine lv_iload_n hx hb d_md_isOpen_106 rfl (lv_at hl 4 rfl) ?_
                refine lv_bipush (v := 8) hx hb d_md_isOpen_107 (by decide) ?_
                refine lv_iload hx hb d_md_isOpen_109 (lv_at hl 5 rfl) ?_
                refine lv_imul hx hb d_md_isOpen_111 ?_
                refine lv_iadd hx hb d_md_isOpen_112 ?_
                refine lv_iadd hx hb d_md_isOpen_113 ?_
                refine lv_istore (lv' := [(6, .int (v6 + (v3 + ((8 : Int32) * v4)))), (5, .int (0 : Int32)), (0, .ref onh), (1, .int fr), (2, .int to), (3, .int v3), (4, .int v4)]) hx hb d_md_isOpen_114 hl (by decide) rfl (fun ls hl => ?_)
                refine lv_goto (tgt := 79) hx hb d_md_isOpen_116 (by decide) ?_
                exact ih79  v3 v4 (0 : Int32) (v6 + (v3 + ((8 : Int32) * v4))) ls (opr_s w0 c_13) (rfl) (opr_p w0 c_13) (lv_sub hl [2, 3, 4, 5, 6, 1, 0] rfl) hF
              · have hF := hF.trans (if_neg c_14)
                refine lv_aload_n hx hb d_md_isOpen_90 rfl (lv_at hl 0 rfl) ?_
                refine lv_iload hx hb d_md_isOpen_91 (lv_at hl 6 rfl) ?_
                have h_15 : vp_in v6 64 := opr_i w0 c_13
                refine va_iald hx hb hK hP 0 0 rfl rfl h_15 d_md_isOpen_93 ?_
                refine lv_if_ne (tgt := 101) hx hb d_md_isOpen_94 (by decide) (fun c_16 => ?_) (fun c_16 => ?_)
                · have hF := hF.trans (if_neg c_16)
                  refine lv_iconst (v := 0) hx hb d_md_isOpen_101 (by decide) ?_
                  refine lv_istore (lv' := [(5, .int (0 : Int32)), (0, .ref onh), (1, .int fr), (2, .int to), (3, .int v3), (4, .int v4), (6, .int v6)]) hx hb d_md_isOpen_102 hl (by decide) rfl (fun ls hl => ?_)
                  refine lv_iload hx hb d_md_isOpen_104 (lv_at hl 6 rfl) ?_
                  refine lv_iload_n hx hb d_md_isOpen_106 rfl (lv_at hl 4 rfl) ?_
                  refine lv_bipush (v := 8) hx hb d_md_isOpen_107 (by decide) ?_
                  refine lv_iload hx hb d_md_isOpen_109 (lv_at hl 5 rfl) ?_
                  refine lv_imul hx hb d_md_isOpen_111 ?_
                  refine lv_iadd hx hb d_md_isOpen_112 ?_
                  refine lv_iadd hx hb d_md_isOpen_113 ?_
                  refine lv_istore (lv' := [(6, .int (v6 + (v3 + ((8 : Int32) * v4)))), (5, .int (0 : Int32)), (0, .ref onh), (1, .int fr), (2, .int to), (3, .int v3), (4, .int v4)]) hx hb d_md_isOpen_114 hl (by decide) rfl (fun ls hl => ?_)
                  refine lv_goto (tgt := 79) hx hb d_md_isOpen_116 (by decide) ?_
                  exact ih79  v3 v4 (0 : Int32) (v6 + (v3 + ((8 : Int32) * v4))) ls (opr_s w0 c_13) (rfl) (opr_p w0 c_13) (lv_sub hl [2, 3, 4, 5, 6, 1, 0] rfl) hF
                · have hF := hF.trans (if_pos c_16)
                  refine lv_iconst (v := 1) hx hb d_md_isOpen_97 (by decide) ?_
                  refine lv_goto (tgt := 102) hx hb d_md_isOpen_98 (by decide) ?_
                  refine lv_istore (lv' := [(5, .int (1 : Int32)), (0, .ref onh), (1, .int fr), (2, .int to), (3, .int v3), (4, .int v4), (6, .int v6)]) hx hb d_md_isOpen_102 hl (by decide) rfl (fun ls hl => ?_)
                  refine lv_iload hx hb d_md_isOpen_104 (lv_at hl 6 rfl) ?_
                  refine lv_iload_n hx hb d_md_isOpen_106 rfl (lv_at hl 4 rfl) ?_
                  refine lv_bipush (v := 8) hx hb d_md_isOpen_107 (by decide) ?_
                  refine lv_iload hx hb d_md_isOpen_109 (lv_at hl 5 rfl) ?_
                  refine lv_imul hx hb d_md_isOpen_111 ?_
                  refine lv_iadd hx hb d_md_isOpen_112 ?_
                  refine lv_iadd hx hb d_md_isOpen_113 ?_
                  refine lv_istore (lv' := [(6, .int (v6 + (v3 + ((8 : Int32) * v4)))), (5, .int (1 : Int32)), (0, .ref onh), (1, .int fr), (2, .int to), (3, .int v3), (4, .int v4)]) hx hb d_md_isOpen_114 hl (by decide) rfl (fun ls hl => ?_)
                  refine lv_goto (tgt := 79) hx hb d_md_isOpen_116 (by decide) ?_
                  exact ih79  v3 v4 (1 : Int32) (v6 + (v3 + ((8 : Int32) * v4))) ls (opr_s w0 c_13) (rfl) (opr_p w0 c_13) (lv_sub hl [2, 3, 4, 5, 6, 1, 0] rfl) hF
        exact loop79 9 (0 : Int32) (1 : Int32) (1 : Int32) ((fr + (0 : Int32)) + ((8 : Int32) * (1 : Int32))) ls (op_e h_o (by first | exact if_neg c_1 | exact (if_pos c_1).trans (if_neg c_2) | exact (if_pos c_1).trans (if_pos c_2)) (by first | exact if_neg c_3 | exact (if_pos c_2).trans (if_neg c_3) | exact (if_pos c_2).trans (if_pos c_3))) (rfl) (by decide) (lv_sub hl [4, 5, 6, 3, 2, 1, 0] rfl) hF
    · have hF := hF.trans (if_neg c_2)
      refine lv_iconst (v := -1) hx hb d_md_isOpen_26 (by decide) ?_
      refine lv_goto (tgt := 31) hx hb d_md_isOpen_27 (by decide) ?_
      refine lv_istore_n (lv' := [(3, .int (-1 : Int32)), (0, .ref onh), (1, .int fr), (2, .int to)]) hx hb d_md_isOpen_31 rfl hl (by decide) rfl (fun ls hl => ?_)
      refine lv_iload_n hx hb d_md_isOpen_32 rfl (lv_at hl 3 rfl) ?_
      refine lv_bipush (v := 8) hx hb d_md_isOpen_33 (by decide) ?_
      refine lv_idiv hx hb d_md_isOpen_35 (by decide) ?_
      refine lv_iload_n hx hb d_md_isOpen_36 rfl (lv_at hl 2 rfl) ?_
      refine lv_bipush (v := 8) hx hb d_md_isOpen_37 (by decide) ?_
      refine lv_idiv hx hb d_md_isOpen_39 (by decide) ?_
      refine lv_icmp_le (tgt := 47) hx hb d_md_isOpen_40 (by decide) (fun c_17 => ?_) (fun c_17 => ?_)
      · have hF := hF.trans (if_pos c_17)
        refine lv_iload_n hx hb d_md_isOpen_47 rfl (lv_at hl 3 rfl) ?_
        refine lv_bipush (v := 8) hx hb d_md_isOpen_48 (by decide) ?_
        refine lv_idiv hx hb d_md_isOpen_50 (by decide) ?_
        refine lv_iload_n hx hb d_md_isOpen_51 rfl (lv_at hl 2 rfl) ?_
        refine lv_bipush (v := 8) hx hb d_md_isOpen_52 (by decide) ?_
        refine lv_idiv hx hb d_md_isOpen_54 (by decide) ?_
        refine lv_icmp_ge (tgt := 62) hx hb d_md_isOpen_55 (by decide) (fun c_18 => ?_) (fun c_18 => ?_)
        · have hF := hF.trans (if_pos c_18)
          refine lv_iconst (v := 0) hx hb d_md_isOpen_62 (by decide) ?_
          refine lv_istore (lv' := [(4, .int (0 : Int32)), (3, .int (-1 : Int32)), (0, .ref onh), (1, .int fr), (2, .int to)]) hx hb d_md_isOpen_63 hl (by decide) rfl (fun ls hl => ?_)
          refine lv_iconst (v := 1) hx hb d_md_isOpen_65 (by decide) ?_
          refine lv_istore (lv' := [(5, .int (1 : Int32)), (4, .int (0 : Int32)), (3, .int (-1 : Int32)), (0, .ref onh), (1, .int fr), (2, .int to)]) hx hb d_md_isOpen_66 hl (by decide) rfl (fun ls hl => ?_)
          refine lv_iload_n hx hb d_md_isOpen_68 rfl (lv_at hl 4 rfl) ?_
          refine lv_iload_n hx hb d_md_isOpen_69 rfl (lv_at hl 2 rfl) ?_
          refine lv_iadd hx hb d_md_isOpen_70 ?_
          refine lv_bipush (v := 8) hx hb d_md_isOpen_71 (by decide) ?_
          refine lv_iload hx hb d_md_isOpen_73 (lv_at hl 1 rfl) ?_
          refine lv_imul hx hb d_md_isOpen_75 ?_
          refine lv_iadd hx hb d_md_isOpen_76 ?_
          refine lv_istore (lv' := [(6, .int ((fr + (-1 : Int32)) + ((8 : Int32) * (0 : Int32)))), (5, .int (1 : Int32)), (4, .int (0 : Int32)), (3, .int (-1 : Int32)), (0, .ref onh), (1, .int fr), (2, .int to)]) hx hb d_md_isOpen_77 hl (by decide) rfl (fun ls hl => ?_)
          have loop79 : ∀ (n79 : Nat) (v3 : Int32) (v4 : Int32) (v5 : Int32) (v6 : Int32) (ls : Array Slot), (∃ k, k < n79 ∧ opR to (v3 + (8 : Int32) * v4) k v6) → narrow .boolean (.int v5) = .int v5 → 0 < n79 → lv_has ls 7 [(0, .ref onh), (1, .int fr), (2, .int to), (3, .int v3), (4, .int v4), (5, .int v5), (6, .int v6)] → f_md_isOpen on fr to = f_md_isOpen_L79 on fr to  n79 v3 v4 v5 v6 → W p l e (headSpec w_md_isOpen ({ frames := 0, cells := 0, slots := 0, locals := 0 } : Room)).room s m ([(.ref onh : Value), .int fr, .int to].toArray) below meth c s.heap [] 0 0 (MQ below (vp_Si (fun r => f_md_isOpen on fr to = r ∧ narrow .boolean (.int r) = .int r)) ([(.ref onh : Value), .int fr, .int to].toArray) s 0 0 ((fun _ => False))) (F0 m 79 ls []) := by
            intro n79
            induction n79 with
            | zero =>
              intro _ _ _ _ _ _ _ hz
              exact absurd hz (Nat.not_lt_zero _)
            | succ n79 ih79 =>
              intro v3 v4 v5 v6 ls w0 nb hm hl hF
              rw [f_md_isOpen_L79] at hF
              refine lv_iload hx hb d_md_isOpen_79 (lv_at hl 6 rfl) ?_
              refine lv_iload_n hx hb d_md_isOpen_81 rfl (lv_at hl 2 rfl) ?_
              refine lv_icmp_eq (tgt := 119) hx hb d_md_isOpen_82 (by decide) (fun c_19 => ?_) (fun c_19 => ?_)
              · have hF := hF.trans (if_pos c_19)
                refine lv_iload hx hb d_md_isOpen_119 (lv_at hl 5 rfl) ?_
                exact W.zret (v := v5) hx hb hr (nb) (fun t ht hW => ⟨_, rfl, ⟨hF, nb⟩, ht⟩) hS.2.2 d_md_isOpen_121
              · have hF := hF.trans (if_neg c_19)
                refine lv_iload hx hb d_md_isOpen_85 (lv_at hl 5 rfl) ?_
                refine lv_if_eq (tgt := 101) hx hb d_md_isOpen_87 (by decide) (fun c_20 => ?_) (fun c_20 => ?_)
                · have hF := hF.trans (if_pos c_20)
                  refine lv_iconst (v := 0) hx hb d_md_isOpen_101 (by decide) ?_
                  refine lv_istore (lv' := [(5, .int (0 : Int32)), (0, .ref onh), (1, .int fr), (2, .int to), (3, .int v3), (4, .int v4), (6, .int v6)]) hx hb d_md_isOpen_102 hl (by decide) rfl (fun ls hl => ?_)
                  refine lv_iload hx hb d_md_isOpen_104 (lv_at hl 6 rfl) ?_
                  refine lv_iload_n hx hb d_md_isOpen_106 rfl (lv_at hl 4 rfl) ?_
                  refine lv_bipush (v := 8) hx hb d_md_isOpen_107 (by decide) ?_
                  refine lv_iload hx hb d_md_isOpen_109 (lv_at hl 5 rfl) ?_
                  refine lv_imul hx hb d_md_isOpen_111 ?_
                  refine lv_iadd hx hb d_md_isOpen_112 ?_
                  refine lv_iadd hx hb d_md_isOpen_113 ?_
                  refine lv_istore (lv' := [(6, .int (v6 + (v3 + ((8 : Int32) * v4)))), (5, .int (0 : Int32)), (0, .ref onh), (1, .int fr), (2, .int to), (3, .int v3), (4, .int v4)]) hx hb d_md_isOpen_114 hl (by decide) rfl (fun ls hl => ?_)
                  refine lv_goto (tgt := 79) hx hb d_md_isOpen_116 (by decide) ?_
                  exact ih79  v3 v4 (0 : Int32) (v6 + (v3 + ((8 : Int32) * v4))) ls (opr_s w0 c_19) (rfl) (opr_p w0 c_19) (lv_sub hl [2, 3, 4, 5, 6, 1, 0] rfl) hF
                · have hF := hF.trans (if_neg c_20)
                  refine lv_aload_n hx hb d_md_isOpen_90 rfl (lv_at hl 0 rfl) ?_
                  refine lv_iload hx hb d_md_isOpen_91 (lv_at hl 6 rfl) ?_
                  have h_21 : vp_in v6 64 := opr_i w0 c_19
                  refine va_iald hx hb hK hP 0 0 rfl rfl h_21 d_md_isOpen_93 ?_
                  refine lv_if_ne (tgt := 101) hx hb d_md_isOpen_94 (by decide) (fun c_22 => ?_) (fun c_22 => ?_)
                  · have hF := hF.trans (if_neg c_22)
                    refine lv_iconst (v := 0) hx hb d_md_isOpen_101 (by decide) ?_
                    refine lv_istore (lv' := [(5, .int (0 : Int32)), (0, .ref onh), (1, .int fr), (2, .int to), (3, .int v3), (4, .int v4), (6, .int v6)]) hx hb d_md_isOpen_102 hl (by decide) rfl (fun ls hl => ?_)
                    refine lv_iload hx hb d_md_isOpen_104 (lv_at hl 6 rfl) ?_
                    refine lv_iload_n hx hb d_md_isOpen_106 rfl (lv_at hl 4 rfl) ?_
                    refine lv_bipush (v := 8) hx hb d_md_isOpen_107 (by decide) ?_
                    refine lv_iload hx hb d_md_isOpen_109 (lv_at hl 5 rfl) ?_
                    refine lv_imul hx hb d_md_isOpen_111 ?_
                    refine lv_iadd hx hb d_md_isOpen_112 ?_
                    refine lv_iadd hx hb d_md_isOpen_113 ?_
                    refine lv_istore (lv' := [(6, .int (v6 + (v3 + ((8 : Int32) * v4)))), (5, .int (0 : Int32)), (0, .ref onh), (1, .int fr), (2, .int to), (3, .int v3), (4, .int v4)]) hx hb d_md_isOpen_114 hl (by decide) rfl (fun ls hl => ?_)
                    refine lv_goto (tgt := 79) hx hb d_md_isOpen_116 (by decide) ?_
                    exact ih79  v3 v4 (0 : Int32) (v6 + (v3 + ((8 : Int32) * v4))) ls (opr_s w0 c_19) (rfl) (opr_p w0 c_19) (lv_sub hl [2, 3, 4, 5, 6, 1, 0] rfl) hF
                  · have hF := hF.trans (if_pos c_22)
                    refine lv_iconst (v := 1) hx hb d_md_isOpen_97 (by decide) ?_
                    refine lv_goto (tgt := 102) hx hb d_md_isOpen_98 (by decide) ?_
                    refine lv_istore (lv' := [(5, .int (1 : Int32)), (0, .ref onh), (1, .int fr), (2, .int to), (3, .int v3), (4, .int v4), (6, .int v6)]) hx hb d_md_isOpen_102 hl (by decide) rfl (fun ls hl => ?_)
                    refine lv_iload hx hb d_md_isOpen_104 (lv_at hl 6 rfl) ?_
                    refine lv_iload_n hx hb d_md_isOpen_106 rfl (lv_at hl 4 rfl) ?_
                    refine lv_bipush (v := 8) hx hb d_md_isOpen_107 (by decide) ?_
                    refine lv_iload hx hb d_md_isOpen_109 (lv_at hl 5 rfl) ?_
                    refine lv_imul hx hb d_md_isOpen_111 ?_
                    refine lv_iadd hx hb d_md_isOpen_112 ?_
                    refine lv_iadd hx hb d_md_isOpen_113 ?_
                    refine lv_istore (lv' := [(6, .int (v6 + (v3 + ((8 : Int32) * v4)))), (5, .int (1 : Int32)), (0, .ref onh), (1, .int fr), (2, .int to), (3, .int v3), (4, .int v4)]) hx hb d_md_isOpen_114 hl (by decide) rfl (fun ls hl => ?_)
                    refine lv_goto (tgt := 79) hx hb d_md_isOpen_116 (by decide) ?_
                    exact ih79  v3 v4 (1 : Int32) (v6 + (v3 + ((8 : Int32) * v4))) ls (opr_s w0 c_19) (rfl) (opr_p w0 c_19) (lv_sub hl [2, 3, 4, 5, 6, 1, 0] rfl) hF
          exact loop79 9 (-1 : Int32) (0 : Int32) (1 : Int32) ((fr + (-1 : Int32)) + ((8 : Int32) * (0 : Int32))) ls (op_e h_o (by first | exact if_neg c_1 | exact (if_pos c_1).trans (if_neg c_2) | exact (if_pos c_1).trans (if_pos c_2)) (by first | exact if_neg c_18 | exact (if_pos c_17).trans (if_neg c_18) | exact (if_pos c_17).trans (if_pos c_18))) (rfl) (by decide) (lv_sub hl [4, 5, 6, 3, 2, 1, 0] rfl) hF
        · have hF := hF.trans (if_neg c_18)
          refine lv_iconst (v := -1) hx hb d_md_isOpen_58 (by decide) ?_
          refine lv_goto (tgt := 63) hx hb d_md_isOpen_59 (by decide) ?_
          refine lv_istore (lv' := [(4, .int (-1 : Int32)), (3, .int (-1 : Int32)), (0, .ref onh), (1, .int fr), (2, .int to)]) hx hb d_md_isOpen_63 hl (by decide) rfl (fun ls hl => ?_)
          refine lv_iconst (v := 1) hx hb d_md_isOpen_65 (by decide) ?_
          refine lv_istore (lv' := [(5, .int (1 : Int32)), (4, .int (-1 : Int32)), (3, .int (-1 : Int32)), (0, .ref onh), (1, .int fr), (2, .int to)]) hx hb d_md_isOpen_66 hl (by decide) rfl (fun ls hl => ?_)
          refine lv_iload_n hx hb d_md_isOpen_68 rfl (lv_at hl 4 rfl) ?_
          refine lv_iload_n hx hb d_md_isOpen_69 rfl (lv_at hl 2 rfl) ?_
          refine lv_iadd hx hb d_md_isOpen_70 ?_
          refine lv_bipush (v := 8) hx hb d_md_isOpen_71 (by decide) ?_
          refine lv_iload hx hb d_md_isOpen_73 (lv_at hl 1 rfl) ?_
          refine lv_imul hx hb d_md_isOpen_75 ?_
          refine lv_iadd hx hb d_md_isOpen_76 ?_
          refine lv_istore (lv' := [(6, .int ((fr + (-1 : Int32)) + ((8 : Int32) * (-1 : Int32)))), (5, .int (1 : Int32)), (4, .int (-1 : Int32)), (3, .int (-1 : Int32)), (0, .ref onh), (1, .int fr), (2, .int to)]) hx hb d_md_isOpen_77 hl (by decide) rfl (fun ls hl => ?_)
          have loop79 : ∀ (n79 : Nat) (v3 : Int32) (v4 : Int32) (v5 : Int32) (v6 : Int32) (ls : Array Slot), (∃ k, k < n79 ∧ opR to (v3 + (8 : Int32) * v4) k v6) → narrow .boolean (.int v5) = .int v5 → 0 < n79 → lv_has ls 7 [(0, .ref onh), (1, .int fr), (2, .int to), (3, .int v3), (4, .int v4), (5, .int v5), (6, .int v6)] → f_md_isOpen on fr to = f_md_isOpen_L79 on fr to  n79 v3 v4 v5 v6 → W p l e (headSpec w_md_isOpen ({ frames := 0, cells := 0, slots := 0, locals := 0 } : Room)).room s m ([(.ref onh : Value), .int fr, .int to].toArray) below meth c s.heap [] 0 0 (MQ below (vp_Si (fun r => f_md_isOpen on fr to = r ∧ narrow .boolean (.int r) = .int r)) ([(.ref onh : Value), .int fr, .int to].toArray) s 0 0 ((fun _ => False))) (F0 m 79 ls []) := by
            intro n79
            induction n79 with
            | zero =>
              intro _ _ _ _ _ _ _ hz
              exact absurd hz (Nat.not_lt_zero _)
            | succ n79 ih79 =>
              intro v3 v4 v5 v6 ls w0 nb hm hl hF
              rw [f_md_isOpen_L79] at hF
              refine lv_iload hx hb d_md_isOpen_79 (lv_at hl 6 rfl) ?_
              refine lv_iload_n hx hb d_md_isOpen_81 rfl (lv_at hl 2 rfl) ?_
              refine lv_icmp_eq (tgt := 119) hx hb d_md_isOpen_82 (by decide) (fun c_23 => ?_) (fun c_23 => ?_)
              · have hF := hF.trans (if_pos c_23)
                refine lv_iload hx hb d_md_isOpen_119 (lv_at hl 5 rfl) ?_
                exact W.zret (v := v5) hx hb hr (nb) (fun t ht hW => ⟨_, rfl, ⟨hF, nb⟩, ht⟩) hS.2.2 d_md_isOpen_121
              · have hF := hF.trans (if_neg c_23)
                refine lv_iload hx hb d_md_isOpen_85 (lv_at hl 5 rfl) ?_
                refine lv_if_eq (tgt := 101) hx hb d_md_isOpen_87 (by decide) (fun c_24 => ?_) (fun c_24 => ?_)
                · have hF := hF.trans (if_pos c_24)
                  refine lv_iconst (v := 0) hx hb d_md_isOpen_101 (by decide) ?_
                  refine lv_istore (lv' := [(5, .int (0 : Int32)), (0, .ref onh), (1, .int fr), (2, .int to), (3, .int v3), (4, .int v4), (6, .int v6)]) hx hb d_md_isOpen_102 hl (by decide) rfl (fun ls hl => ?_)
                  refine lv_iload hx hb d_md_isOpen_104 (lv_at hl 6 rfl) ?_
                  refine lv_iload_n hx hb d_md_isOpen_106 rfl (lv_at hl 4 rfl) ?_
                  refine lv_bipush (v := 8) hx hb d_md_isOpen_107 (by decide) ?_
                  refine lv_iload hx hb d_md_isOpen_109 (lv_at hl 5 rfl) ?_
                  refine lv_imul hx hb d_md_isOpen_111 ?_
                  refine lv_iadd hx hb d_md_isOpen_112 ?_
                  refine lv_iadd hx hb d_md_isOpen_113 ?_
                  refine lv_istore (lv' := [(6, .int (v6 + (v3 + ((8 : Int32) * v4)))), (5, .int (0 : Int32)), (0, .ref onh), (1, .int fr), (2, .int to), (3, .int v3), (4, .int v4)]) hx hb d_md_isOpen_114 hl (by decide) rfl (fun ls hl => ?_)
                  refine lv_goto (tgt := 79) hx hb d_md_isOpen_116 (by decide) ?_
                  exact ih79  v3 v4 (0 : Int32) (v6 + (v3 + ((8 : Int32) * v4))) ls (opr_s w0 c_23) (rfl) (opr_p w0 c_23) (lv_sub hl [2, 3, 4, 5, 6, 1, 0] rfl) hF
                · have hF := hF.trans (if_neg c_24)
                  refine lv_aload_n hx hb d_md_isOpen_90 rfl (lv_at hl 0 rfl) ?_
                  refine lv_iload hx hb d_md_isOpen_91 (lv_at hl 6 rfl) ?_
                  have h_25 : vp_in v6 64 := opr_i w0 c_23
                  refine va_iald hx hb hK hP 0 0 rfl rfl h_25 d_md_isOpen_93 ?_
                  refine lv_if_ne (tgt := 101) hx hb d_md_isOpen_94 (by decide) (fun c_26 => ?_) (fun c_26 => ?_)
                  · have hF := hF.trans (if_neg c_26)
                    refine lv_iconst (v := 0) hx hb d_md_isOpen_101 (by decide) ?_
                    refine lv_istore (lv' := [(5, .int (0 : Int32)), (0, .ref onh), (1, .int fr), (2, .int to), (3, .int v3), (4, .int v4), (6, .int v6)]) hx hb d_md_isOpen_102 hl (by decide) rfl (fun ls hl => ?_)
                    refine lv_iload hx hb d_md_isOpen_104 (lv_at hl 6 rfl) ?_
                    refine lv_iload_n hx hb d_md_isOpen_106 rfl (lv_at hl 4 rfl) ?_
                    refine lv_bipush (v := 8) hx hb d_md_isOpen_107 (by decide) ?_
                    refine lv_iload hx hb d_md_isOpen_109 (lv_at hl 5 rfl) ?_
                    refine lv_imul hx hb d_md_isOpen_111 ?_
                    refine lv_iadd hx hb d_md_isOpen_112 ?_
                    refine lv_iadd hx hb d_md_isOpen_113 ?_
                    refine lv_istore (lv' := [(6, .int (v6 + (v3 + ((8 : Int32) * v4)))), (5, .int (0 : Int32)), (0, .ref onh), (1, .int fr), (2, .int to), (3, .int v3), (4, .int v4)]) hx hb d_md_isOpen_114 hl (by decide) rfl (fun ls hl => ?_)
                    refine lv_goto (tgt := 79) hx hb d_md_isOpen_116 (by decide) ?_
                    exact ih79  v3 v4 (0 : Int32) (v6 + (v3 + ((8 : Int32) * v4))) ls (opr_s w0 c_23) (rfl) (opr_p w0 c_23) (lv_sub hl [2, 3, 4, 5, 6, 1, 0] rfl) hF
                  · have hF := hF.trans (if_pos c_26)
                    refine lv_iconst (v := 1) hx hb d_md_isOpen_97 (by decide) ?_
                    refine lv_goto (tgt := 102) hx hb d_md_isOpen_98 (by decide) ?_
                    refine lv_istore (lv' := [(5, .int (1 : Int32)), (0, .ref onh), (1, .int fr), (2, .int to), (3, .int v3), (4, .int v4), (6, .int v6)]) hx hb d_md_isOpen_102 hl (by decide) rfl (fun ls hl => ?_)
                    refine lv_iload hx hb d_md_isOpen_104 (lv_at hl 6 rfl) ?_
                    refine lv_iload_n hx hb d_md_isOpen_106 rfl (lv_at hl 4 rfl) ?_
                    refine lv_bipush (v := 8) hx hb d_md_isOpen_107 (by decide) ?_
                    refine lv_iload hx hb d_md_isOpen_109 (lv_at hl 5 rfl) ?_
                    refine lv_imul hx hb d_md_isOpen_111 ?_
                    refine lv_iadd hx hb d_md_isOpen_112 ?_
                    refine lv_iadd hx hb d_md_isOpen_113 ?_
                    refine lv_istore (lv' := [(6, .int (v6 + (v3 + ((8 : Int32) * v4)))), (5, .int (1 : Int32)), (0, .ref onh), (1, .int fr), (2, .int to), (3, .int v3), (4, .int v4)]) hx hb d_md_isOpen_114 hl (by decide) rfl (fun ls hl => ?_)
                    refine lv_goto (tgt := 79) hx hb d_md_isOpen_116 (by decide) ?_
                    exact ih79  v3 v4 (1 : Int32) (v6 + (v3 + ((8 : Int32) * v4))) ls (opr_s w0 c_23) (rfl) (opr_p w0 c_23) (lv_sub hl [2, 3, 4, 5, 6, 1, 0] rfl) hF
          exact loop79 9 (-1 : Int32) (-1 : Int32) (1 : Int32) ((fr + (-1 : Int32)) + ((8 : Int32) * (-1 : Int32))) ls (op_e h_o (by first | exact if_neg c_1 | exact (if_pos c_1).trans (if_neg c_2) | exact (if_pos c_1).trans (if_pos c_2)) (by first | exact if_neg c_18 | exact (if_pos c_17).trans (if_neg c_18) | exact (if_pos c_17).trans (if_pos c_18))) (rfl) (by decide) (lv_sub hl [4, 5, 6, 3, 2, 1, 0] rfl) hF
      · have hF := hF.trans (if_neg c_17)
        refine lv_iconst (v := 1) hx hb d_md_isOpen_43 (by decide) ?_
        refine lv_goto (tgt := 63) hx hb d_md_isOpen_44 (by decide) ?_
        refine lv_istore (lv' := [(4, .int (1 : Int32)), (3, .int (-1 : Int32)), (0, .ref onh), (1, .int fr), (2, .int to)]) hx hb d_md_isOpen_63 hl (by decide) rfl (fun ls hl => ?_)
        refine lv_iconst (v := 1) hx hb d_md_isOpen_65 (by decide) ?_
        refine lv_istore (lv' := [(5, .int (1 : Int32)), (4, .int (1 : Int32)), (3, .int (-1 : Int32)), (0, .ref onh), (1, .int fr), (2, .int to)]) hx hb d_md_isOpen_66 hl (by decide) rfl (fun ls hl => ?_)
        refine lv_iload_n hx hb d_md_isOpen_68 rfl (lv_at hl 4 rfl) ?_
        refine lv_iload_n hx hb d_md_isOpen_69 rfl (lv_at hl 2 rfl) ?_
        refine lv_iadd hx hb d_md_isOpen_70 ?_
        refine lv_bipush (v := 8) hx hb d_md_isOpen_71 (by decide) ?_
        refine lv_iload hx hb d_md_isOpen_73 (lv_at hl 1 rfl) ?_
        refine lv_imul hx hb d_md_isOpen_75 ?_
        refine lv_iadd hx hb d_md_isOpen_76 ?_
        refine lv_istore (lv' := [(6, .int ((fr + (-1 : Int32)) + ((8 : Int32) * (1 : Int32)))), (5, .int (1 : Int32)), (4, .int (1 : Int32)), (3, .int (-1 : Int32)), (0, .ref onh), (1, .int fr), (2, .int to)]) hx hb d_md_isOpen_77 hl (by decide) rfl (fun ls hl => ?_)
        have loop79 : ∀ (n79 : Nat) (v3 : Int32) (v4 : Int32) (v5 : Int32) (v6 : Int32) (ls : Array Slot), (∃ k, k < n79 ∧ opR to (v3 + (8 : Int32) * v4) k v6) → narrow .boolean (.int v5) = .int v5 → 0 < n79 → lv_has ls 7 [(0, .ref onh), (1, .int fr), (2, .int to), (3, .int v3), (4, .int v4), (5, .int v5), (6, .int v6)] → f_md_isOpen on fr to = f_md_isOpen_L79 on fr to  n79 v3 v4 v5 v6 → W p l e (headSpec w_md_isOpen ({ frames := 0, cells := 0, slots := 0, locals := 0 } : Room)).room s m ([(.ref onh : Value), .int fr, .int to].toArray) below meth c s.heap [] 0 0 (MQ below (vp_Si (fun r => f_md_isOpen on fr to = r ∧ narrow .boolean (.int r) = .int r)) ([(.ref onh : Value), .int fr, .int to].toArray) s 0 0 ((fun _ => False))) (F0 m 79 ls []) := by
          intro n79
          induction n79 with
          | zero =>
            intro _ _ _ _ _ _ _ hz
            exact absurd hz (Nat.not_lt_zero _)
          | succ n79 ih79 =>
            intro v3 v4 v5 v6 ls w0 nb hm hl hF
            rw [f_md_isOpen_L79] at hF
            refine lv_iload hx hb d_md_isOpen_79 (lv_at hl 6 rfl) ?_
            refine lv_iload_n hx hb d_md_isOpen_81 rfl (lv_at hl 2 rfl) ?_
            refine lv_icmp_eq (tgt := 119) hx hb d_md_isOpen_82 (by decide) (fun c_27 => ?_) (fun c_27 => ?_)
            · have hF := hF.trans (if_pos c_27)
              refine lv_iload hx hb d_md_isOpen_119 (lv_at hl 5 rfl) ?_
              exact W.zret (v := v5) hx hb hr (nb) (fun t ht hW => ⟨_, rfl, ⟨hF, nb⟩, ht⟩) hS.2.2 d_md_isOpen_121
            · have hF := hF.trans (if_neg c_27)
              refine lv_iload hx hb d_md_isOpen_85 (lv_at hl 5 rfl) ?_
              refine lv_if_eq (tgt := 101) hx hb d_md_isOpen_87 (by decide) (fun c_28 => ?_) (fun c_28 => ?_)
              · have hF := hF.trans (if_pos c_28)
                refine lv_iconst (v := 0) hx hb d_md_isOpen_101 (by decide) ?_
                refine lv_istore (lv' := [(5, .int (0 : Int32)), (0, .ref onh), (1, .int fr), (2, .int to), (3, .int v3), (4, .int v4), (6, .int v6)]) hx hb d_md_isOpen_102 hl (by decide) rfl (fun ls hl => ?_)
                refine lv_iload hx hb d_md_isOpen_104 (lv_at hl 6 rfl) ?_
                refine lv_iload_n hx hb d_md_isOpen_106 rfl (lv_at hl 4 rfl) ?_
                refine lv_bipush (v := 8) hx hb d_md_isOpen_107 (by decide) ?_
                refine lv_iload hx hb d_md_isOpen_109 (lv_at hl 5 rfl) ?_
                refine lv_imul hx hb d_md_isOpen_111 ?_
                refine lv_iadd hx hb d_md_isOpen_112 ?_
                refine lv_iadd hx hb d_md_isOpen_113 ?_
                refine lv_istore (lv' := [(6, .int (v6 + (v3 + ((8 : Int32) * v4)))), (5, .int (0 : Int32)), (0, .ref onh), (1, .int fr), (2, .int to), (3, .int v3), (4, .int v4)]) hx hb d_md_isOpen_114 hl (by decide) rfl (fun ls hl => ?_)
                refine lv_goto (tgt := 79) hx hb d_md_isOpen_116 (by decide) ?_
                exact ih79  v3 v4 (0 : Int32) (v6 + (v3 + ((8 : Int32) * v4))) ls (opr_s w0 c_27) (rfl) (opr_p w0 c_27) (lv_sub hl [2, 3, 4, 5, 6, 1, 0] rfl) hF
              · have hF := hF.trans (if_neg c_28)
                refine lv_aload_n hx hb d_md_isOpen_90 rfl (lv_at hl 0 rfl) ?_
                refine lv_iload hx hb d_md_isOpen_91 (lv_at hl 6 rfl) ?_
                have h_29 : vp_in v6 64 := opr_i w0 c_27
                refine va_iald hx hb hK hP 0 0 rfl rfl h_29 d_md_isOpen_93 ?_
                refine lv_if_ne (tgt := 101) hx hb d_md_isOpen_94 (by decide) (fun c_30 => ?_) (fun c_30 => ?_)
                · have hF := hF.trans (if_neg c_30)
                  refine lv_iconst (v := 0) hx hb d_md_isOpen_101 (by decide) ?_
                  refine lv_istore (lv' := [(5, .int (0 : Int32)), (0, .ref onh), (1, .int fr), (2, .int to), (3, .int v3), (4, .int v4), (6, .int v6)]) hx hb d_md_isOpen_102 hl (by decide) rfl (fun ls hl => ?_)
                  refine lv_iload hx hb d_md_isOpen_104 (lv_at hl 6 rfl) ?_
                  refine lv_iload_n hx hb d_md_isOpen_106 rfl (lv_at hl 4 rfl) ?_
                  refine lv_bipush (v := 8) hx hb d_md_isOpen_107 (by decide) ?_
                  refine lv_iload hx hb d_md_isOpen_109 (lv_at hl 5 rfl) ?_
                  refine lv_imul hx hb d_md_isOpen_111 ?_
                  refine lv_iadd hx hb d_md_isOpen_112 ?_
                  refine lv_iadd hx hb d_md_isOpen_113 ?_
                  refine lv_istore (lv' := [(6, .int (v6 + (v3 + ((8 : Int32) * v4)))), (5, .int (0 : Int32)), (0, .ref onh), (1, .int fr), (2, .int to), (3, .int v3), (4, .int v4)]) hx hb d_md_isOpen_114 hl (by decide) rfl (fun ls hl => ?_)
                  refine lv_goto (tgt := 79) hx hb d_md_isOpen_116 (by decide) ?_
                  exact ih79  v3 v4 (0 : Int32) (v6 + (v3 + ((8 : Int32) * v4))) ls (opr_s w0 c_27) (rfl) (opr_p w0 c_27) (lv_sub hl [2, 3, 4, 5, 6, 1, 0] rfl) hF
                · have hF := hF.trans (if_pos c_30)
                  refine lv_iconst (v := 1) hx hb d_md_isOpen_97 (by decide) ?_
                  refine lv_goto (tgt := 102) hx hb d_md_isOpen_98 (by decide) ?_
                  refine lv_istore (lv' := [(5, .int (1 : Int32)), (0, .ref onh), (1, .int fr), (2, .int to), (3, .int v3), (4, .int v4), (6, .int v6)]) hx hb d_md_isOpen_102 hl (by decide) rfl (fun ls hl => ?_)
                  refine lv_iload hx hb d_md_isOpen_104 (lv_at hl 6 rfl) ?_
                  refine lv_iload_n hx hb d_md_isOpen_106 rfl (lv_at hl 4 rfl) ?_
                  refine lv_bipush (v := 8) hx hb d_md_isOpen_107 (by decide) ?_
                  refine lv_iload hx hb d_md_isOpen_109 (lv_at hl 5 rfl) ?_
                  refine lv_imul hx hb d_md_isOpen_111 ?_
                  refine lv_iadd hx hb d_md_isOpen_112 ?_
                  refine lv_iadd hx hb d_md_isOpen_113 ?_
                  refine lv_istore (lv' := [(6, .int (v6 + (v3 + ((8 : Int32) * v4)))), (5, .int (1 : Int32)), (0, .ref onh), (1, .int fr), (2, .int to), (3, .int v3), (4, .int v4)]) hx hb d_md_isOpen_114 hl (by decide) rfl (fun ls hl => ?_)
                  refine lv_goto (tgt := 79) hx hb d_md_isOpen_116 (by decide) ?_
                  exact ih79  v3 v4 (1 : Int32) (v6 + (v3 + ((8 : Int32) * v4))) ls (opr_s w0 c_27) (rfl) (opr_p w0 c_27) (lv_sub hl [2, 3, 4, 5, 6, 1, 0] rfl) hF
        exact loop79 9 (-1 : Int32) (1 : Int32) (1 : Int32) ((fr + (-1 : Int32)) + ((8 : Int32) * (1 : Int32))) ls (op_e h_o (by first | exact if_neg c_1 | exact (if_pos c_1).trans (if_neg c_2) | exact (if_pos c_1).trans (if_pos c_2)) (by first | exact if_neg c_17 | exact (if_pos c_2).trans (if_neg c_17) | exact (if_pos c_2).trans (if_pos c_17))) (rfl) (by decide) (lv_sub hl [4, 5, 6, 3, 2, 1, 0] rfl) hF
  · have hF := hF.trans (if_neg c_1)
    refine lv_iconst (v := 1) hx hb d_md_isOpen_11 (by decide) ?_
    refine lv_goto (tgt := 31) hx hb d_md_isOpen_12 (by decide) ?_
    refine lv_istore_n (lv' := [(3, .int (1 : Int32)), (0, .ref onh), (1, .int fr), (2, .int to)]) hx hb d_md_isOpen_31 rfl hl (by decide) rfl (fun ls hl => ?_)
    refine lv_iload_n hx hb d_md_isOpen_32 rfl (lv_at hl 3 rfl) ?_
    refine lv_bipush (v := 8) hx hb d_md_isOpen_33 (by decide) ?_
    refine lv_idiv hx hb d_md_isOpen_35 (by decide) ?_
    refine lv_iload_n hx hb d_md_isOpen_36 rfl (lv_at hl 2 rfl) ?_
    refine lv_bipush (v := 8) hx hb d_md_isOpen_37 (by decide) ?_
    refine lv_idiv hx hb d_md_isOpen_39 (by decide) ?_
    refine lv_icmp_le (tgt := 47) hx hb d_md_isOpen_40 (by decide) (fun c_31 => ?_) (fun c_31 => ?_)
    · have hF := hF.trans (if_pos c_31)
      refine lv_iload_n hx hb d_md_isOpen_47 rfl (lv_at hl 3 rfl) ?_
      refine lv_bipush (v := 8) hx hb d_md_isOpen_48 (by decide) ?_
      refine lv_idiv hx hb d_md_isOpen_50 (by decide) ?_
      refine lv_iload_n hx hb d_md_isOpen_51 rfl (lv_at hl 2 rfl) ?_
      refine lv_bipush (v := 8) hx hb d_md_isOpen_52 (by decide) ?_
      refine lv_idiv hx hb d_md_isOpen_54 (by decide) ?_
      refine lv_icmp_ge (tgt := 62) hx hb d_md_isOpen_55 (by decide) (fun c_32 => ?_) (fun c_32 => ?_)
      · have hF := hF.trans (if_pos c_32)
        refine lv_iconst (v := 0) hx hb d_md_isOpen_62 (by decide) ?_
        refine lv_istore (lv' := [(4, .int (0 : Int32)), (3, .int (1 : Int32)), (0, .ref onh), (1, .int fr), (2, .int to)]) hx hb d_md_isOpen_63 hl (by decide) rfl (fun ls hl => ?_)
        refine lv_iconst (v := 1) hx hb d_md_isOpen_65 (by decide) ?_
        refine lv_istore (lv' := [(5, .int (1 : Int32)), (4, .int (0 : Int32)), (3, .int (1 : Int32)), (0, .ref onh), (1, .int fr), (2, .int to)]) hx hb d_md_isOpen_66 hl (by decide) rfl (fun ls hl => ?_)
        refine lv_iload_n hx hb d_md_isOpen_68 rfl (lv_at hl 4 rfl) ?_
        refine lv_iload_n hx hb d_md_isOpen_69 rfl (lv_at hl 2 rfl) ?_
        refine lv_iadd hx hb d_md_isOpen_70 ?_
        refine lv_bipush (v := 8) hx hb d_md_isOpen_71 (by decide) ?_
        refine lv_iload hx hb d_md_isOpen_73 (lv_at hl 1 rfl) ?_
        refine lv_imul hx hb d_md_isOpen_75 ?_
        refine lv_iadd hx hb d_md_isOpen_76 ?_
        refine lv_istore (lv' := [(6, .int ((fr + (1 : Int32)) + ((8 : Int32) * (0 : Int32)))), (5, .int (1 : Int32)), (4, .int (0 : Int32)), (3, .int (1 : Int32)), (0, .ref onh), (1, .int fr), (2, .int to)]) hx hb d_md_isOpen_77 hl (by decide) rfl (fun ls hl => ?_)
        have loop79 : ∀ (n79 : Nat) (v3 : Int32) (v4 : Int32) (v5 : Int32) (v6 : Int32) (ls : Array Slot), (∃ k, k < n79 ∧ opR to (v3 + (8 : Int32) * v4) k v6) → narrow .boolean (.int v5) = .int v5 → 0 < n79 → lv_has ls 7 [(0, .ref onh), (1, .int fr), (2, .int to), (3, .int v3), (4, .int v4), (5, .int v5), (6, .int v6)] → f_md_isOpen on fr to = f_md_isOpen_L79 on fr to  n79 v3 v4 v5 v6 → W p l e (headSpec w_md_isOpen ({ frames := 0, cells := 0, slots := 0, locals := 0 } : Room)).room s m ([(.ref onh : Value), .int fr, .int to].toArray) below meth c s.heap [] 0 0 (MQ below (vp_Si (fun r => f_md_isOpen on fr to = r ∧ narrow .boolean (.int r) = .int r)) ([(.ref onh : Value), .int fr, .int to].toArray) s 0 0 ((fun _ => False))) (F0 m 79 ls []) := by
          intro n79
          induction n79 with
          | zero =>
            intro _ _ _ _ _ _ _ hz
            exact absurd hz (Nat.not_lt_zero _)
          | succ n79 ih79 =>
            intro v3 v4 v5 v6 ls w0 nb hm hl hF
            rw [f_md_isOpen_L79] at hF
            refine lv_iload hx hb d_md_isOpen_79 (lv_at hl 6 rfl) ?_
            refine lv_iload_n hx hb d_md_isOpen_81 rfl (lv_at hl 2 rfl) ?_
            refine lv_icmp_eq (tgt := 119) hx hb d_md_isOpen_82 (by decide) (fun c_33 => ?_) (fun c_33 => ?_)
            · have hF := hF.trans (if_pos c_33)
              refine lv_iload hx hb d_md_isOpen_119 (lv_at hl 5 rfl) ?_
              exact W.zret (v := v5) hx hb hr (nb) (fun t ht hW => ⟨_, rfl, ⟨hF, nb⟩, ht⟩) hS.2.2 d_md_isOpen_121
            · have hF := hF.trans (if_neg c_33)
              refine lv_iload hx hb d_md_isOpen_85 (lv_at hl 5 rfl) ?_
              refine lv_if_eq (tgt := 101) hx hb d_md_isOpen_87 (by decide) (fun c_34 => ?_) (fun c_34 => ?_)
              · have hF := hF.trans (if_pos c_34)
                refine lv_iconst (v := 0) hx hb d_md_isOpen_101 (by decide) ?_
                refine lv_istore (lv' := [(5, .int (0 : Int32)), (0, .ref onh), (1, .int fr), (2, .int to), (3, .int v3), (4, .int v4), (6, .int v6)]) hx hb d_md_isOpen_102 hl (by decide) rfl (fun ls hl => ?_)
                refine lv_iload hx hb d_md_isOpen_104 (lv_at hl 6 rfl) ?_
                refine lv_iload_n hx hb d_md_isOpen_106 rfl (lv_at hl 4 rfl) ?_
                refine lv_bipush (v := 8) hx hb d_md_isOpen_107 (by decide) ?_
                refine lv_iload hx hb d_md_isOpen_109 (lv_at hl 5 rfl) ?_
                refine lv_imul hx hb d_md_isOpen_111 ?_
                refine lv_iadd hx hb d_md_isOpen_112 ?_
                refine lv_iadd hx hb d_md_isOpen_113 ?_
                refine lv_istore (lv' := [(6, .int (v6 + (v3 + ((8 : Int32) * v4)))), (5, .int (0 : Int32)), (0, .ref onh), (1, .int fr), (2, .int to), (3, .int v3), (4, .int v4)]) hx hb d_md_isOpen_114 hl (by decide) rfl (fun ls hl => ?_)
                refine lv_goto (tgt := 79) hx hb d_md_isOpen_116 (by decide) ?_
                exact ih79  v3 v4 (0 : Int32) (v6 + (v3 + ((8 : Int32) * v4))) ls (opr_s w0 c_33) (rfl) (opr_p w0 c_33) (lv_sub hl [2, 3, 4, 5, 6, 1, 0] rfl) hF
              · have hF := hF.trans (if_neg c_34)
                refine lv_aload_n hx hb d_md_isOpen_90 rfl (lv_at hl 0 rfl) ?_
                refine lv_iload hx hb d_md_isOpen_91 (lv_at hl 6 rfl) ?_
                have h_35 : vp_in v6 64 := opr_i w0 c_33
                refine va_iald hx hb hK hP 0 0 rfl rfl h_35 d_md_isOpen_93 ?_
                refine lv_if_ne (tgt := 101) hx hb d_md_isOpen_94 (by decide) (fun c_36 => ?_) (fun c_36 => ?_)
                · have hF := hF.trans (if_neg c_36)
                  refine lv_iconst (v := 0) hx hb d_md_isOpen_101 (by decide) ?_
                  refine lv_istore (lv' := [(5, .int (0 : Int32)), (0, .ref onh), (1, .int fr), (2, .int to), (3, .int v3), (4, .int v4), (6, .int v6)]) hx hb d_md_isOpen_102 hl (by decide) rfl (fun ls hl => ?_)
                  refine lv_iload hx hb d_md_isOpen_104 (lv_at hl 6 rfl) ?_
                  refine lv_iload_n hx hb d_md_isOpen_106 rfl (lv_at hl 4 rfl) ?_
                  refine lv_bipush (v := 8) hx hb d_md_isOpen_107 (by decide) ?_
                  refine lv_iload hx hb d_md_isOpen_109 (lv_at hl 5 rfl) ?_
                  refine lv_imul hx hb d_md_isOpen_111 ?_
                  refine lv_iadd hx hb d_md_isOpen_112 ?_
                  refine lv_iadd hx hb d_md_isOpen_113 ?_
                  refine lv_istore (lv' := [(6, .int (v6 + (v3 + ((8 : Int32) * v4)))), (5, .int (0 : Int32)), (0, .ref onh), (1, .int fr), (2, .int to), (3, .int v3), (4, .int v4)]) hx hb d_md_isOpen_114 hl (by decide) rfl (fun ls hl => ?_)
                  refine lv_goto (tgt := 79) hx hb d_md_isOpen_116 (by decide) ?_
                  exact ih79  v3 v4 (0 : Int32) (v6 + (v3 + ((8 : Int32) * v4))) ls (opr_s w0 c_33) (rfl) (opr_p w0 c_33) (lv_sub hl [2, 3, 4, 5, 6, 1, 0] rfl) hF
                · have hF := hF.trans (if_pos c_36)
                  refine lv_iconst (v := 1) hx hb d_md_isOpen_97 (by decide) ?_
                  refine lv_goto (tgt := 102) hx hb d_md_isOpen_98 (by decide) ?_
                  refine lv_istore (lv' := [(5, .int (1 : Int32)), (0, .ref onh), (1, .int fr), (2, .int to), (3, .int v3), (4, .int v4), (6, .int v6)]) hx hb d_md_isOpen_102 hl (by decide) rfl (fun ls hl => ?_)
                  refine lv_iload hx hb d_md_isOpen_104 (lv_at hl 6 rfl) ?_
                  refine lv_iload_n hx hb d_md_isOpen_106 rfl (lv_at hl 4 rfl) ?_
                  refine lv_bipush (v := 8) hx hb d_md_isOpen_107 (by decide) ?_
                  refine lv_iload hx hb d_md_isOpen_109 (lv_at hl 5 rfl) ?_
                  refine lv_imul hx hb d_md_isOpen_111 ?_
                  refine lv_iadd hx hb d_md_isOpen_112 ?_
                  refine lv_iadd hx hb d_md_isOpen_113 ?_
                  refine lv_istore (lv' := [(6, .int (v6 + (v3 + ((8 : Int32) * v4)))), (5, .int (1 : Int32)), (0, .ref onh), (1, .int fr), (2, .int to), (3, .int v3), (4, .int v4)]) hx hb d_md_isOpen_114 hl (by decide) rfl (fun ls hl => ?_)
                  refine lv_goto (tgt := 79) hx hb d_md_isOpen_116 (by decide) ?_
                  exact ih79  v3 v4 (1 : Int32) (v6 + (v3 + ((8 : Int32) * v4))) ls (opr_s w0 c_33) (rfl) (opr_p w0 c_33) (lv_sub hl [2, 3, 4, 5, 6, 1, 0] rfl) hF
        exact loop79 9 (1 : Int32) (0 : Int32) (1 : Int32) ((fr + (1 : Int32)) + ((8 : Int32) * (0 : Int32))) ls (op_e h_o (by first | exact if_neg c_1 | exact (if_pos c_1).trans (if_neg c_31) | exact (if_pos c_1).trans (if_pos c_31)) (by first | exact if_neg c_32 | exact (if_pos c_31).trans (if_neg c_32) | exact (if_pos c_31).trans (if_pos c_32))) (rfl) (by decide) (lv_sub hl [4, 5, 6, 3, 2, 1, 0] rfl) hF
      · have hF := hF.trans (if_neg c_32)
        refine lv_iconst (v := -1) hx hb d_md_isOpen_58 (by decide) ?_
        refine lv_goto (tgt := 63) hx hb d_md_isOpen_59 (by decide) ?_
        refine lv_istore (lv' := [(4, .int (-1 : Int32)), (3, .int (1 : Int32)), (0, .ref onh), (1, .int fr), (2, .int to)]) hx hb d_md_isOpen_63 hl (by decide) rfl (fun ls hl => ?_)
        refine lv_iconst (v := 1) hx hb d_md_isOpen_65 (by decide) ?_
        refine lv_istore (lv' := [(5, .int (1 : Int32)), (4, .int (-1 : Int32)), (3, .int (1 : Int32)), (0, .ref onh), (1, .int fr), (2, .int to)]) hx hb d_md_isOpen_66 hl (by decide) rfl (fun ls hl => ?_)
        refine lv_iload_n hx hb d_md_isOpen_68 rfl (lv_at hl 4 rfl) ?_
        refine lv_iload_n hx hb d_md_isOpen_69 rfl (lv_at hl 2 rfl) ?_
        refine lv_iadd hx hb d_md_isOpen_70 ?_
        refine lv_bipush (v := 8) hx hb d_md_isOpen_71 (by decide) ?_
        refine lv_iload hx hb d_md_isOpen_73 (lv_at hl 1 rfl) ?_
        refine lv_imul hx hb d_md_isOpen_75 ?_
        refine lv_iadd hx hb d_md_isOpen_76 ?_
        refine lv_istore (lv' := [(6, .int ((fr + (1 : Int32)) + ((8 : Int32) * (-1 : Int32)))), (5, .int (1 : Int32)), (4, .int (-1 : Int32)), (3, .int (1 : Int32)), (0, .ref onh), (1, .int fr), (2, .int to)]) hx hb d_md_isOpen_77 hl (by decide) rfl (fun ls hl => ?_)
        have loop79 : ∀ (n79 : Nat) (v3 : Int32) (v4 : Int32) (v5 : Int32) (v6 : Int32) (ls : Array Slot), (∃ k, k < n79 ∧ opR to (v3 + (8 : Int32) * v4) k v6) → narrow .boolean (.int v5) = .int v5 → 0 < n79 → lv_has ls 7 [(0, .ref onh), (1, .int fr), (2, .int to), (3, .int v3), (4, .int v4), (5, .int v5), (6, .int v6)] → f_md_isOpen on fr to = f_md_isOpen_L79 on fr to  n79 v3 v4 v5 v6 → W p l e (headSpec w_md_isOpen ({ frames := 0, cells := 0, slots := 0, locals := 0 } : Room)).room s m ([(.ref onh : Value), .int fr, .int to].toArray) below meth c s.heap [] 0 0 (MQ below (vp_Si (fun r => f_md_isOpen on fr to = r ∧ narrow .boolean (.int r) = .int r)) ([(.ref onh : Value), .int fr, .int to].toArray) s 0 0 ((fun _ => False))) (F0 m 79 ls []) := by
          intro n79
          induction n79 with
          | zero =>
            intro _ _ _ _ _ _ _ hz
            exact absurd hz (Nat.not_lt_zero _)
          | succ n79 ih79 =>
            intro v3 v4 v5 v6 ls w0 nb hm hl hF
            rw [f_md_isOpen_L79] at hF
            refine lv_iload hx hb d_md_isOpen_79 (lv_at hl 6 rfl) ?_
            refine lv_iload_n hx hb d_md_isOpen_81 rfl (lv_at hl 2 rfl) ?_
            refine lv_icmp_eq (tgt := 119) hx hb d_md_isOpen_82 (by decide) (fun c_37 => ?_) (fun c_37 => ?_)
            · have hF := hF.trans (if_pos c_37)
              refine lv_iload hx hb d_md_isOpen_119 (lv_at hl 5 rfl) ?_
              exact W.zret (v := v5) hx hb hr (nb) (fun t ht hW => ⟨_, rfl, ⟨hF, nb⟩, ht⟩) hS.2.2 d_md_isOpen_121
            · have hF := hF.trans (if_neg c_37)
              refine lv_iload hx hb d_md_isOpen_85 (lv_at hl 5 rfl) ?_
              refine lv_if_eq (tgt := 101) hx hb d_md_isOpen_87 (by decide) (fun c_38 => ?_) (fun c_38 => ?_)
              · have hF := hF.trans (if_pos c_38)
                refine lv_iconst (v := 0) hx hb d_md_isOpen_101 (by decide) ?_
                refine lv_istore (lv' := [(5, .int (0 : Int32)), (0, .ref onh), (1, .int fr), (2, .int to), (3, .int v3), (4, .int v4), (6, .int v6)]) hx hb d_md_isOpen_102 hl (by decide) rfl (fun ls hl => ?_)
                refine lv_iload hx hb d_md_isOpen_104 (lv_at hl 6 rfl) ?_
                refine lv_iload_n hx hb d_md_isOpen_106 rfl (lv_at hl 4 rfl) ?_
                refine lv_bipush (v := 8) hx hb d_md_isOpen_107 (by decide) ?_
                refine lv_iload hx hb d_md_isOpen_109 (lv_at hl 5 rfl) ?_
                refine lv_imul hx hb d_md_isOpen_111 ?_
                refine lv_iadd hx hb d_md_isOpen_112 ?_
                refine lv_iadd hx hb d_md_isOpen_113 ?_
                refine lv_istore (lv' := [(6, .int (v6 + (v3 + ((8 : Int32) * v4)))), (5, .int (0 : Int32)), (0, .ref onh), (1, .int fr), (2, .int to), (3, .int v3), (4, .int v4)]) hx hb d_md_isOpen_114 hl (by decide) rfl (fun ls hl => ?_)
                refine lv_goto (tgt := 79) hx hb d_md_isOpen_116 (by decide) ?_
                exact ih79  v3 v4 (0 : Int32) (v6 + (v3 + ((8 : Int32) * v4))) ls (opr_s w0 c_37) (rfl) (opr_p w0 c_37) (lv_sub hl [2, 3, 4, 5, 6, 1, 0] rfl) hF
              · have hF := hF.trans (if_neg c_38)
                refine lv_aload_n hx hb d_md_isOpen_90 rfl (lv_at hl 0 rfl) ?_
                refine lv_iload hx hb d_md_isOpen_91 (lv_at hl 6 rfl) ?_
                have h_39 : vp_in v6 64 := opr_i w0 c_37
                refine va_iald hx hb hK hP 0 0 rfl rfl h_39 d_md_isOpen_93 ?_
                refine lv_if_ne (tgt := 101) hx hb d_md_isOpen_94 (by decide) (fun c_40 => ?_) (fun c_40 => ?_)
                · have hF := hF.trans (if_neg c_40)
                  refine lv_iconst (v := 0) hx hb d_md_isOpen_101 (by decide) ?_
                  refine lv_istore (lv' := [(5, .int (0 : Int32)), (0, .ref onh), (1, .int fr), (2, .int to), (3, .int v3), (4, .int v4), (6, .int v6)]) hx hb d_md_isOpen_102 hl (by decide) rfl (fun ls hl => ?_)
                  refine lv_iload hx hb d_md_isOpen_104 (lv_at hl 6 rfl) ?_
                  refine lv_iload_n hx hb d_md_isOpen_106 rfl (lv_at hl 4 rfl) ?_
                  refine lv_bipush (v := 8) hx hb d_md_isOpen_107 (by decide) ?_
                  refine lv_iload hx hb d_md_isOpen_109 (lv_at hl 5 rfl) ?_
                  refine lv_imul hx hb d_md_isOpen_111 ?_
                  refine lv_iadd hx hb d_md_isOpen_112 ?_
                  refine lv_iadd hx hb d_md_isOpen_113 ?_
                  refine lv_istore (lv' := [(6, .int (v6 + (v3 + ((8 : Int32) * v4)))), (5, .int (0 : Int32)), (0, .ref onh), (1, .int fr), (2, .int to), (3, .int v3), (4, .int v4)]) hx hb d_md_isOpen_114 hl (by decide) rfl (fun ls hl => ?_)
                  refine lv_goto (tgt := 79) hx hb d_md_isOpen_116 (by decide) ?_
                  exact ih79  v3 v4 (0 : Int32) (v6 + (v3 + ((8 : Int32) * v4))) ls (opr_s w0 c_37) (rfl) (opr_p w0 c_37) (lv_sub hl [2, 3, 4, 5, 6, 1, 0] rfl) hF
                · have hF := hF.trans (if_pos c_40)
                  refine lv_iconst (v := 1) hx hb d_md_isOpen_97 (by decide) ?_
                  refine lv_goto (tgt := 102) hx hb d_md_isOpen_98 (by decide) ?_
                  refine lv_istore (lv' := [(5, .int (1 : Int32)), (0, .ref onh), (1, .int fr), (2, .int to), (3, .int v3), (4, .int v4), (6, .int v6)]) hx hb d_md_isOpen_102 hl (by decide) rfl (fun ls hl => ?_)
                  refine lv_iload hx hb d_md_isOpen_104 (lv_at hl 6 rfl) ?_
                  refine lv_iload_n hx hb d_md_isOpen_106 rfl (lv_at hl 4 rfl) ?_
                  refine lv_bipush (v := 8) hx hb d_md_isOpen_107 (by decide) ?_
                  refine lv_iload hx hb d_md_isOpen_109 (lv_at hl 5 rfl) ?_
                  refine lv_imul hx hb d_md_isOpen_111 ?_
                  refine lv_iadd hx hb d_md_isOpen_112 ?_
                  refine lv_iadd hx hb d_md_isOpen_113 ?_
                  refine lv_istore (lv' := [(6, .int (v6 + (v3 + ((8 : Int32) * v4)))), (5, .int (1 : Int32)), (0, .ref onh), (1, .int fr), (2, .int to), (3, .int v3), (4, .int v4)]) hx hb d_md_isOpen_114 hl (by decide) rfl (fun ls hl => ?_)
                  refine lv_goto (tgt := 79) hx hb d_md_isOpen_116 (by decide) ?_
                  exact ih79  v3 v4 (1 : Int32) (v6 + (v3 + ((8 : Int32) * v4))) ls (opr_s w0 c_37) (rfl) (opr_p w0 c_37) (lv_sub hl [2, 3, 4, 5, 6, 1, 0] rfl) hF
        exact loop79 9 (1 : Int32) (-1 : Int32) (1 : Int32) ((fr + (1 : Int32)) + ((8 : Int32) * (-1 : Int32))) ls (op_e h_o (by first | exact if_neg c_1 | exact (if_pos c_1).trans (if_neg c_31) | exact (if_pos c_1).trans (if_pos c_31)) (by first | exact if_neg c_32 | exact (if_pos c_31).trans (if_neg c_32) | exact (if_pos c_31).trans (if_pos c_32))) (rfl) (by decide) (lv_sub hl [4, 5, 6, 3, 2, 1, 0] rfl) hF
    · have hF := hF.trans (if_neg c_31)
      refine lv_iconst (v := 1) hx hb d_md_isOpen_43 (by decide) ?_
      refine lv_goto (tgt := 63) hx hb d_md_isOpen_44 (by decide) ?_
      refine lv_istore (lv' := [(4, .int (1 : Int32)), (3, .int (1 : Int32)), (0, .ref onh), (1, .int fr), (2, .int to)]) hx hb d_md_isOpen_63 hl (by decide) rfl (fun ls hl => ?_)
      refine lv_iconst (v := 1) hx hb d_md_isOpen_65 (by decide) ?_
      refine lv_istore (lv' := [(5, .int (1 : Int32)), (4, .int (1 : Int32)), (3, .int (1 : Int32)), (0, .ref onh), (1, .int fr), (2, .int to)]) hx hb d_md_isOpen_66 hl (by decide) rfl (fun ls hl => ?_)
      refine lv_iload_n hx hb d_md_isOpen_68 rfl (lv_at hl 4 rfl) ?_
      refine lv_iload_n hx hb d_md_isOpen_69 rfl (lv_at hl 2 rfl) ?_
      refine lv_iadd hx hb d_md_isOpen_70 ?_
      refine lv_bipush (v := 8) hx hb d_md_isOpen_71 (by decide) ?_
      refine lv_iload hx hb d_md_isOpen_73 (lv_at hl 1 rfl) ?_
      refine lv_imul hx hb d_md_isOpen_75 ?_
      refine lv_iadd hx hb d_md_isOpen_76 ?_
      refine lv_istore (lv' := [(6, .int ((fr + (1 : Int32)) + ((8 : Int32) * (1 : Int32)))), (5, .int (1 : Int32)), (4, .int (1 : Int32)), (3, .int (1 : Int32)), (0, .ref onh), (1, .int fr), (2, .int to)]) hx hb d_md_isOpen_77 hl (by decide) rfl (fun ls hl => ?_)
      have loop79 : ∀ (n79 : Nat) (v3 : Int32) (v4 : Int32) (v5 : Int32) (v6 : Int32) (ls : Array Slot), (∃ k, k < n79 ∧ opR to (v3 + (8 : Int32) * v4) k v6) → narrow .boolean (.int v5) = .int v5 → 0 < n79 → lv_has ls 7 [(0, .ref onh), (1, .int fr), (2, .int to), (3, .int v3), (4, .int v4), (5, .int v5), (6, .int v6)] → f_md_isOpen on fr to = f_md_isOpen_L79 on fr to  n79 v3 v4 v5 v6 → W p l e (headSpec w_md_isOpen ({ frames := 0, cells := 0, slots := 0, locals := 0 } : Room)).room s m ([(.ref onh : Value), .int fr, .int to].toArray) below meth c s.heap [] 0 0 (MQ below (vp_Si (fun r => f_md_isOpen on fr to = r ∧ narrow .boolean (.int r) = .int r)) ([(.ref onh : Value), .int fr, .int to].toArray) s 0 0 ((fun _ => False))) (F0 m 79 ls []) := by
        intro n79
        induction n79 with
        | zero =>
          intro _ _ _ _ _ _ _ hz
          exact absurd hz (Nat.not_lt_zero _)
        | succ n79 ih79 =>
          intro v3 v4 v5 v6 ls w0 nb hm hl hF
          rw [f_md_isOpen_L79] at hF
          refine lv_iload hx hb d_md_isOpen_79 (lv_at hl 6 rfl) ?_
          refine lv_iload_n hx hb d_md_isOpen_81 rfl (lv_at hl 2 rfl) ?_
          refine lv_icmp_eq (tgt := 119) hx hb d_md_isOpen_82 (by decide) (fun c_41 => ?_) (fun c_41 => ?_)
          · have hF := hF.trans (if_pos c_41)
            refine lv_iload hx hb d_md_isOpen_119 (lv_at hl 5 rfl) ?_
            exact W.zret (v := v5) hx hb hr (nb) (fun t ht hW => ⟨_, rfl, ⟨hF, nb⟩, ht⟩) hS.2.2 d_md_isOpen_121
          · have hF := hF.trans (if_neg c_41)
            refine lv_iload hx hb d_md_isOpen_85 (lv_at hl 5 rfl) ?_
            refine lv_if_eq (tgt := 101) hx hb d_md_isOpen_87 (by decide) (fun c_42 => ?_) (fun c_42 => ?_)
            · have hF := hF.trans (if_pos c_42)
              refine lv_iconst (v := 0) hx hb d_md_isOpen_101 (by decide) ?_
              refine lv_istore (lv' := [(5, .int (0 : Int32)), (0, .ref onh), (1, .int fr), (2, .int to), (3, .int v3), (4, .int v4), (6, .int v6)]) hx hb d_md_isOpen_102 hl (by decide) rfl (fun ls hl => ?_)
              refine lv_iload hx hb d_md_isOpen_104 (lv_at hl 6 rfl) ?_
              refine lv_iload_n hx hb d_md_isOpen_106 rfl (lv_at hl 4 rfl) ?_
              refine lv_bipush (v := 8) hx hb d_md_isOpen_107 (by decide) ?_
              refine lv_iload hx hb d_md_isOpen_109 (lv_at hl 5 rfl) ?_
              refine lv_imul hx hb d_md_isOpen_111 ?_
              refine lv_iadd hx hb d_md_isOpen_112 ?_
              refine lv_iadd hx hb d_md_isOpen_113 ?_
              refine lv_istore (lv' := [(6, .int (v6 + (v3 + ((8 : Int32) * v4)))), (5, .int (0 : Int32)), (0, .ref onh), (1, .int fr), (2, .int to), (3, .int v3), (4, .int v4)]) hx hb d_md_isOpen_114 hl (by decide) rfl (fun ls hl => ?_)
              refine lv_goto (tgt := 79) hx hb d_md_isOpen_116 (by decide) ?_
              exact ih79  v3 v4 (0 : Int32) (v6 + (v3 + ((8 : Int32) * v4))) ls (opr_s w0 c_41) (rfl) (opr_p w0 c_41) (lv_sub hl [2, 3, 4, 5, 6, 1, 0] rfl) hF
            · have hF := hF.trans (if_neg c_42)
              refine lv_aload_n hx hb d_md_isOpen_90 rfl (lv_at hl 0 rfl) ?_
              refine lv_iload hx hb d_md_isOpen_91 (lv_at hl 6 rfl) ?_
              have h_43 : vp_in v6 64 := opr_i w0 c_41
              refine va_iald hx hb hK hP 0 0 rfl rfl h_43 d_md_isOpen_93 ?_
              refine lv_if_ne (tgt := 101) hx hb d_md_isOpen_94 (by decide) (fun c_44 => ?_) (fun c_44 => ?_)
              · have hF := hF.trans (if_neg c_44)
                refine lv_iconst (v := 0) hx hb d_md_isOpen_101 (by decide) ?_
                refine lv_istore (lv' := [(5, .int (0 : Int32)), (0, .ref onh), (1, .int fr), (2, .int to), (3, .int v3), (4, .int v4), (6, .int v6)]) hx hb d_md_isOpen_102 hl (by decide) rfl (fun ls hl => ?_)
                refine lv_iload hx hb d_md_isOpen_104 (lv_at hl 6 rfl) ?_
                refine lv_iload_n hx hb d_md_isOpen_106 rfl (lv_at hl 4 rfl) ?_
                refine lv_bipush (v := 8) hx hb d_md_isOpen_107 (by decide) ?_
                refine lv_iload hx hb d_md_isOpen_109 (lv_at hl 5 rfl) ?_
                refine lv_imul hx hb d_md_isOpen_111 ?_
                refine lv_iadd hx hb d_md_isOpen_112 ?_
                refine lv_iadd hx hb d_md_isOpen_113 ?_
                refine lv_istore (lv' := [(6, .int (v6 + (v3 + ((8 : Int32) * v4)))), (5, .int (0 : Int32)), (0, .ref onh), (1, .int fr), (2, .int to), (3, .int v3), (4, .int v4)]) hx hb d_md_isOpen_114 hl (by decide) rfl (fun ls hl => ?_)
                refine lv_goto (tgt := 79) hx hb d_md_isOpen_116 (by decide) ?_
                exact ih79  v3 v4 (0 : Int32) (v6 + (v3 + ((8 : Int32) * v4))) ls (opr_s w0 c_41) (rfl) (opr_p w0 c_41) (lv_sub hl [2, 3, 4, 5, 6, 1, 0] rfl) hF
              · have hF := hF.trans (if_pos c_44)
                refine lv_iconst (v := 1) hx hb d_md_isOpen_97 (by decide) ?_
                refine lv_goto (tgt := 102) hx hb d_md_isOpen_98 (by decide) ?_
                refine lv_istore (lv' := [(5, .int (1 : Int32)), (0, .ref onh), (1, .int fr), (2, .int to), (3, .int v3), (4, .int v4), (6, .int v6)]) hx hb d_md_isOpen_102 hl (by decide) rfl (fun ls hl => ?_)
                refine lv_iload hx hb d_md_isOpen_104 (lv_at hl 6 rfl) ?_
                refine lv_iload_n hx hb d_md_isOpen_106 rfl (lv_at hl 4 rfl) ?_
                refine lv_bipush (v := 8) hx hb d_md_isOpen_107 (by decide) ?_
                refine lv_iload hx hb d_md_isOpen_109 (lv_at hl 5 rfl) ?_
                refine lv_imul hx hb d_md_isOpen_111 ?_
                refine lv_iadd hx hb d_md_isOpen_112 ?_
                refine lv_iadd hx hb d_md_isOpen_113 ?_
                refine lv_istore (lv' := [(6, .int (v6 + (v3 + ((8 : Int32) * v4)))), (5, .int (1 : Int32)), (0, .ref onh), (1, .int fr), (2, .int to), (3, .int v3), (4, .int v4)]) hx hb d_md_isOpen_114 hl (by decide) rfl (fun ls hl => ?_)
                refine lv_goto (tgt := 79) hx hb d_md_isOpen_116 (by decide) ?_
                exact ih79  v3 v4 (1 : Int32) (v6 + (v3 + ((8 : Int32) * v4))) ls (opr_s w0 c_41) (rfl) (opr_p w0 c_41) (lv_sub hl [2, 3, 4, 5, 6, 1, 0] rfl) hF
      exact loop79 9 (1 : Int32) (1 : Int32) (1 : Int32) ((fr + (1 : Int32)) + ((8 : Int32) * (1 : Int32))) ls (op_e h_o (by first | exact if_neg c_1 | exact (if_pos c_1).trans (if_neg c_31) | exact (if_pos c_1).trans (if_pos c_31)) (by first | exact if_neg c_31 | exact (if_pos c_1).trans (if_neg c_31) | exact (if_pos c_1).trans (if_pos c_31))) (rfl) (by decide) (lv_sub hl [4, 5, 6, 3, 2, 1, 0] rfl) hF
