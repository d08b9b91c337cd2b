theorem q_692 : (.instanceMethod y_gn_attacked : Cond) ∈ gw := gw_t (List.mem_of_getElem? (i := 692) (by decide +kernel)) (by decide +kernel)
theorem q_693 : (.selects "GameNotation" y_gn_attacked y_gn_attacked : Cond) ∈ gw := gw_t (List.mem_of_getElem? (i := 693) (by decide +kernel)) (by decide +kernel)
theorem q_694 : (.code y_gn_attacked prog_1_method_10_code 3 (some .boolean) : Cond) ∈ gw := gw_t (List.mem_of_getElem? (i := 694) (by decide +kernel)) (by decide +kernel)
theorem q_767 : (.instanceMethod y_gn_spell : Cond) ∈ gw := gw_t (List.mem_of_getElem? (i := 767) (by decide +kernel)) (by decide +kernel)
theorem q_768 : (.selects "GameNotation" y_gn_spell y_gn_spell : Cond) ∈ gw := gw_t (List.mem_of_getElem? (i := 768) (by decide +kernel)) (by decide +kernel)
theorem q_769 : (.code y_gn_spell prog_1_method_13_code 4 (some .int) : Cond) ∈ gw := gw_t (List.mem_of_getElem? (i := 769) (by decide +kernel)) (by decide +kernel)
abbrev wG (K : KT) (Gh : Nat) (lnh lna0 : Nat) (ln : LnT) (trh tra0 : Nat) (tr : LnT) (rdh : Nat) (rd : Int32) (tdh tda0 tda1 : Nat) (td : TdT) (fmh : Nat) (fm : FmT) (psh psa0 : Nat) (ps : PsT) (sph spa0 : Nat) (sp : PsT) : va_W := [(Gh, .inr (5, [.ref lnh, .ref trh, .ref rdh, .ref tdh, .ref fmh, .ref psh, .ref sph])), (lnh, .inr (1, [.ref lna0, .int ln.2])), (lna0, .inl ((kC K), 100, .inl ln.1)), (trh, .inr (1, [.ref tra0, .int tr.2])), (tra0, .inl ((kC K), 100, .inl tr.1)), (rdh, .inr (3, [.int rd])), (tdh, .inr (4, [.ref tda0, .ref tda1, .int td.2.2])), (tda0, .inl ((kI K), 330, .inl td.1)), (tda1, .inl ((kI K), 330, .inl td.2.1)), (fmh, .inr (0, [.int fm.1, .int fm.2.1, .int fm.2.2.1, .int fm.2.2.2.1, .int fm.2.2.2.2.1, .int fm.2.2.2.2.2])), (psh, .inr (2, [.ref psa0, .int ps.2.1, .int ps.2.2.1, .int ps.2.2.2.1, .int ps.2.2.2.2.1, .int ps.2.2.2.2.2])), (psa0, .inl ((kI K), 64, .inl ps.1)), (sph, .inr (2, [.ref spa0, .int sp.2.1, .int sp.2.2.1, .int sp.2.2.2.1, .int sp.2.2.2.2.1, .int sp.2.2.2.2.2])), (spa0, .inl ((kI K), 64, .inl sp.1))]
abbrev wO (K : KT) (oh : Nat) (f : Nat → Int64) : Nat × va_E := (oh, .inl ((kJ K), 1, .inr (.inl f)))
theorem thS.blind {A : Nat → Prop} {U : State} {g : JFrame} {mk : MethodId} {a : Array Value} (h : thS A U U.heap) : thS A (U.calling g mk a) (U.calling g mk a).heap := h.moved (u := U) (U := U.calling g mk a) (Vm.Alike.refl U.vm)
theorem rt_blind {K : KT} {ws : va_W} {av : List Value} {A : Nat → Prop} {φ : Prop} : FrameBlind (va_Pc av (fun U => pRO K ws U ∧ thS A U U.heap ∧ φ)) :=
  fun a U g mk q => ⟨q.1, ⟨q.2.1.1, va_K.moved (u := U) (U := U.calling g mk a) (Vm.Alike.refl U.vm) q.2.1.2.1, q.2.1.2.2.blind⟩, q.2.2.1.blind, q.2.2.2⟩
theorem rt_use {K : KT} {ws : va_W} {av : List Value} {φ : Prop} {A : Nat → Prop} {s : State} {H : Heap} {locs : List Loc} (hP : va_P (kD K) vwCl ws H) (hK : va_K (kD K) vwCl (kY K) s) (hG : GC K A s s.heap) (hT : thS A s s.heap) (hS : va_S A s.heap H locs) (hφ : φ) :
    ∀ U : State, U.heap = H → s.WarmedH U.vm → va_Pc av (fun U => pRO K ws U ∧ thS (fun _ => False) U U.heap ∧ φ) av.toArray U :=
  fun U hU hW => ⟨rfl, ⟨by rw [hU]; exact hP, va_K.moved hW.alike hK, hG.mv hS (fun _ h => h.elim) hU hW⟩, hT.mv hS (fun _ h => h.elim) hU hW, hφ⟩
theorem mt_blind {K : KT} {ws : va_W} {sz : Nat} {av : List Value} {A : Nat → Prop} {φ : Prop} : FrameBlind (va_Pc av (fun U => pMU K ws sz U ∧ thS A U U.heap ∧ φ)) :=
  fun a U g mk q => ⟨q.1, ⟨q.2.1.1, q.2.1.2.1, va_K.moved (u := U) (U := U.calling g mk a) (Vm.Alike.refl U.vm) q.2.1.2.2.1, q.2.1.2.2.2.1, q.2.1.2.2.2.2.blind⟩, q.2.2.1.blind, q.2.2.2⟩
theorem mt_use {K : KT} {ws : va_W} {av : List Value} {φ : Prop} {A : Nat → Prop} {s : State} {H : Heap} {locs : List Loc} (hP : va_P (kD K) vwCl ws H) (hK : va_K (kD K) vwCl (kY K) s) (hD : va_D A ws) (hG : GC K A s s.heap) (hT : thS A s s.heap) (hS : va_S A s.heap H locs) (hF : ∀ q, va_A ws H.size q → A q) (hφ : φ) :
    ∀ U : State, U.heap = H → s.WarmedH U.vm → va_Pc av (fun U => pMU K ws H.size U ∧ thS (va_A ws H.size) U U.heap ∧ φ) av.toArray U :=
  fun U hU hW => ⟨rfl, ⟨by rw [hU], by rw [hU]; exact hP, va_K.moved hW.alike hK, hD.weaken (fun _ _ _ _ => trivial), hG.mv hS hF hU hW⟩, hT.mv hS hF hU hW, hφ⟩
theorem va_lt {D : va_G} {cl : List vw_C} {ws : va_W} {H : Heap} {k : Nat} {q : Nat × va_E} (hP : va_P D cl ws H) (hq : ws[k]? = some q) : q.1 < H.size := by
  obtain ⟨a, e⟩ := q
  have h := hP k _ hq
  cases e with
  | inl a => exact (Array.getElem?_eq_some_iff.mp h).1
  | inr o =>
    obtain ⟨r, h1, cell, g1, -⟩ := h
    exact (Array.getElem?_eq_some_iff.mp g1).1
theorem one_handler {p : Program} {l : Launch} {x : MethodName} {S : Spec} {cc : ByteArray} {maxL : Nat} {ret : Option FieldType} {e : Env} {s : State} {m : MethodId} {args : Array Value} {below : List Frame} {meth : Method} {c : Code} {s₁ : State} {h4 : Nat × Nat × Nat × Nat} (B : BodyLoose p l x S cc maxL ret e s m args below meth c s₁) (h : (Cond.codeWith x cc maxL ret [h4]).before args s = true) : ∃ x : ExceptionTableEntry, c.exceptionTable.toList = [x] ∧ x.startPc = h4.1 ∧ x.endPc = h4.2.1 ∧ x.handlerPc = h4.2.2.1 ∧ x.catchType = h4.2.2.2 := by
  obtain ⟨m9, meth9, c9, hn, hm9, hc9, -, -, he, -⟩ := Cond.codeWith_spec h
  cases B.named.symm.trans hn
  cases B.method.symm.trans hm9
  cases (Stand.of_body B).code.symm.trans hc9
  match hl : c.exceptionTable.toList, he with
  | [x], he =>
    simp only [List.map_cons, List.map_nil, List.cons.injEq, and_true] at he
    subst he
    exact ⟨x, rfl, rfl, rfl, rfl, rfl⟩
def w_lw_attacked : List Cond := .codeWith y_lw_attacked b_lw_attacked 5 (some .int) [(0, 17, 20, 13)] :: gw
set_option maxHeartbeats 4000000 in
set_option maxRecDepth 100000 in
theorem c_lw_attacked (l : Launch) (hfl : l.flags = pinnedFlags ++ [noTraceFlag]) (K : KT) (sz : Nat) (Gh : Nat) (lnh lna0 : Nat) (ln : LnT) (trh tra0 : Nat) (tr : LnT) (rdh : Nat) (rd : Int32) (tdh tda0 tda1 : Nat) (td : TdT) (fmh : Nat) (fm : FmT) (psh psa0 : Nat) (ps : PsT) (sph spa0 : Nat) (sp : PsT) (oh : Nat) (f : Nat → Int64) (sq sd : Int32) : Met l y_lw_attacked w_lw_attacked ({ frames := 7, cells := 1, slots := 6, locals := 130 } : Room) (va_Pc [.ref Gh, .int sq, .int sd, .ref oh] (fun U => pMU K (wG K Gh lnh lna0 ln trh tra0 tr rdh rd tdh tda0 tda1 td fmh fm psh psa0 ps sph spa0 sp ++ [wO K oh f]) sz U ∧ thS (va_A (wG K Gh lnh lna0 ln trh tra0 tr rdh rd tdh tda0 tda1 td fmh fm psh psa0 ps sph spa0 sp ++ [wO K oh f]) sz) U U.heap ∧ LnOk ln ∧ LnOk tr ∧ TdOk td ∧ True)) (va_Qi (fun (r : Int32) (u : Nat → Int64) => ((f_gn_isSquare sq = 0 ∨ f_gn_isSide sd = 0) ∧ r = 1 ∧ u = f) ∨ (¬ (f_gn_isSquare sq = 0 ∨ f_gn_isSide sd = 0) ∧ r = 0 ∧ u 0 = (if f_gn_attacked sq sd ln tr rd td fm ps sp = 0 then 0 else 1))) (fun (u : Nat → Int64) (t : State) => va_P (kD K) vwCl (wG K Gh lnh lna0 ln trh tra0 tr rdh rd tdh tda0 tda1 td fmh fm psh psa0 ps sph spa0 sp ++ [wO K oh u]) t.heap ∧ va_D (va_A (wG K Gh lnh lna0 ln trh tra0 tr rdh rd tdh tda0 tda1 td fmh fm psh psa0 ps sph spa0 sp ++ [wO K oh f]) sz) (wG K Gh lnh lna0 ln trh tra0 tr rdh rd tdh tda0 tda1 td fmh fm psh psa0 ps sph spa0 sp ++ [wO K oh u])) (va_A (wG K Gh lnh lna0 ln trh tra0 tr rdh rd tdh tda0 tda1 td fmh fm psh psa0 ps sph spa0 sp ++ [wO K oh f]) sz)) 1 6 (va_A (wG K Gh lnh lna0 ln trh tra0 tr rdh rd tdh tda0 tda1 td fmh fm psh psa0 ps sph spa0 sp ++ [wO K oh f]) sz) := by
  refine va_MetW (cc := b_lw_attacked) (maxL := 5) (ret := (some .int)) (hh := [(0, 17, 20, 13)]) (by decide) rfl ?_
  intro p e s m args below meth c s₁ B hml hv
  obtain ⟨rfl, ⟨hsz, hP, hK, hD0, hG⟩, hTh, ok_ln, ok_tr, ok_td, -⟩ := hv
  have hx := B.exec
  have hb := B.bytes
  have hr := B.returns
  have hts := atoms_spec (ws := w_lw_attacked) B.pre
  have hown : s.vm.findClass R_lw = some m.cls := findClass_of_methodNamed B.named
  have hlocks := B.notSynchronized
  have htg := fun w h => hts w (List.mem_cons_of_mem _ h)
  obtain ⟨hx1, hex, x1, x2, x3, x4⟩ := one_handler B (hts _ List.mem_cons_self)
  subst hsz
  have hD := hD0.self (sz := s.heap.size)
  generalize hAe : va_A (wG K Gh lnh lna0 ln trh tra0 tr rdh rd tdh tda0 tda1 td fmh fm psh psa0 ps sph spa0 sp ++ [wO K oh f]) s.heap.size = A at hD hG hTh ⊢
  have hA : ∀ q : Nat, s.heap.size ≤ q → A q := fun q h => by rw [← hAe]; exact Or.inr h
  have hS : va_S A s.heap s.heap [] := va_S.rf
  have hl := lv_entry ([.ref Gh, .int sq, .int sd, .ref oh]) (n := 5) (Nat.le_of_ble_eq_true rfl)
  rw [lg_entry_eq]
  generalize (lg_sl ([.ref Gh, .int sq, .int sd, .ref oh]) ++ List.replicate (5 - (lg_sl ([.ref Gh, .int sq, .int sd, .ref oh])).length) Slot.unset).toArray = ls at hl ⊢
  have hl : lv_has ls 5 [(0, .ref Gh), (1, .int sq), (2, .int sd), (3, .ref oh)] := hl
  refine lv_aload_n hx hb d_lw_attacked_0 rfl (lv_at hl 3 rfl) ?_
  refine lv_iconst (v := 0) hx hb d_lw_attacked_1 (by decide) ?_
  refine lv_aload_n hx hb d_lw_attacked_2 rfl (lv_at hl 0 rfl) ?_
  refine lv_iload_n hx hb d_lw_attacked_3 rfl (lv_at hl 1 rfl) ?_
  refine lv_iload_n hx hb d_lw_attacked_4 rfl (lv_at hl 2 rfl) ?_
  have hPc : va_P (kD K) vwCl (wG K Gh lnh lna0 ln trh tra0 tr rdh rd tdh tda0 tda1 td fmh fm psh psa0 ps sph spa0 sp) _ := hP.sub [0, 1, 2, 3, 4, 5, 6, 7, 8, 9, 10, 11, 12, 13] rfl
  by_cases hbad : f_gn_isSquare sq = 0 ∨ f_gn_isSide sd = 0
  · obtain ⟨⟨hrc, hrs, hfr, hlo, hws, hcw, hcode, hini, hy, hlen, hlk⟩, hin, hse⟩ := cwV (R := (headSpec w_lw_attacked { frames := 7, cells := 1, slots := 6, locals := 130 }).room) (rm := { frames := 6, cells := 1, slots := 6, locals := 90 }) 2 htg (g_V q_691 q_692 q_693 q_1 (g_w q_694)) rfl rfl rfl ⟨rfl, k_gn_attacked⟩ ⟨Nat.le_of_ble_eq_true rfl, Nat.le_of_ble_eq_true rfl⟩
    obtain ⟨cellB, hc1, hc2, hc3⟩ := va_recv hK hPc (ci := 5) (q0 := 0) rfl rfl
    refine W.callCaught (argsL := [.int sq, .int sd]) (rest := [.int 0, .ref oh]) hx hb hown hlk hin hse hcode hy (c_gn_attackedT l hfl K Gh sq sd lnh lna0 ln trh tra0 tr rdh rd tdh tda0 tda1 td fmh fm psh psa0 ps sph spa0 sp) rt_blind hrc hrs hfr hlo hws hcw hini hc1 hc2 hc3 (hl.1.trans hml.symm) (fun sig h => (hlen sig h)) (Nat.le_of_ble_eq_true rfl) d_lw_attacked_5 ⟨Nat.le_of_ble_eq_true rfl, Nat.le_of_ble_eq_true rfl⟩ (rt_use hPc hK hG hTh hS ⟨ok_ln, ok_tr, ok_td, hbad, trivial⟩) hx1 hex (by rw [covers, x1, x2]; decide) (by rw [x4]; decide) (by rw [x4]; exact htg _ q_690) (fun a H1 hz hk => ?_)
    rw [x3]
    have hS1 : va_S A s.heap H1 [] := ⟨hz, fun q hq _ => hk q hq, fun _ h => by cases h⟩
    have hP1 : va_P (kD K) vwCl (wG K Gh lnh lna0 ln trh tra0 tr rdh rd tdh tda0 tda1 td fmh fm psh psa0 ps sph spa0 sp ++ [wO K oh f]) H1 := fun k q hq => (hP k q hq).kept (hk q.1 (va_lt hP hq))
    refine lv_astore (lv' := [(4, .ref a), (0, .ref Gh), (1, .int sq), (2, .int sd), (3, .ref oh)]) hx hb d_lw_attacked_20 hl (by decide) rfl (fun ls hl => ?_)
    refine lv_iconst (v := 1) hx hb d_lw_attacked_22 (by decide) ?_
    exact W.iret (v := (1 : Int32)) hx hb hr (fun t ht hW => ⟨⟨(1 : Int32), f, rfl, .inl ⟨hbad, rfl, rfl⟩, ⟨by rw [ht]; exact hP1, hD⟩⟩, hS1.F ht⟩) hS1.2.2 d_lw_attacked_23
  · have h_a : ¬ f_gn_isSquare sq = 0 := fun q => hbad (.inl q)
    have h_b : ¬ f_gn_isSide sd = 0 := fun q => hbad (.inr q)
    refine vp_callSi (va_Run.run (va_runV (As := [.int sq, .int sd]) (rest := [.int 0, .ref oh]) ⟨hx, hb, hml, hown, htg⟩ (c_gn_attacked l K Gh sq sd lnh lna0 ln trh tra0 tr rdh rd tdh tda0 tda1 td fmh fm psh psa0 ps sph spa0 sp) (cwV 2 htg (g_V q_691 q_692 q_693 q_1 (g_w q_694)) rfl rfl rfl ⟨rfl, k_gn_attacked⟩ ⟨Nat.le_of_ble_eq_true rfl, Nat.le_of_ble_eq_true rfl⟩) ⟨ro_blind, va_recv hK hPc (ci := 5) (q0 := 0) rfl rfl, ro_use hPc hK hG hS ⟨ok_ln, ok_tr, ok_td, h_a, h_b, trivial⟩⟩ rfl rfl hl.1 rfl (lv_room (Nat.le_of_ble_eq_true rfl)) d_lw_attacked_5 ⟨Nat.zero_le _, Nat.zero_le _⟩)) (fun r_1 hw_1 => ?_)
    have fin : ∀ x : Int64, x = (if r_1 = 0 then 0 else 1) → W p l e (headSpec w_lw_attacked { frames := 7, cells := 1, slots := 6, locals := 130 }).room s m ([.ref Gh, .int sq, .int sd, .ref oh] : List Value).toArray below meth c s.heap [] 0 0 (MQ below (va_Qi (fun (r : Int32) (u : Nat → Int64) => ((f_gn_isSquare sq = 0 ∨ f_gn_isSide sd = 0) ∧ r = 1 ∧ u = f) ∨ (¬ (f_gn_isSquare sq = 0 ∨ f_gn_isSide sd = 0) ∧ r = 0 ∧ u 0 = (if f_gn_attacked sq sd ln tr rd td fm ps sp = 0 then 0 else 1))) (fun (u : Nat → Int64) (t : State) => va_P (kD K) vwCl (wG K Gh lnh lna0 ln trh tra0 tr rdh rd tdh tda0 tda1 td fmh fm psh psa0 ps sph spa0 sp ++ [wO K oh u]) t.heap ∧ va_D A (wG K Gh lnh lna0 ln trh tra0 tr rdh rd tdh tda0 tda1 td fmh fm psh psa0 ps sph spa0 sp ++ [wO K oh u])) A) ([.ref Gh, .int sq, .int sd, .ref oh] : List Value).toArray s 1 6 A) (F0 m 16 ls [.long x, .int 0, .ref oh]) := by
      intro x hxx
      refine va_last hx hb hK hP hD hS 14 2 rfl rfl (vp_in_iff.mpr ⟨by decide, by decide⟩) d_lw_attacked_16 (fun H1 locs1 hP hD hS => ?_)
      refine lv_goto (tgt := 24) hx hb d_lw_attacked_17 (by decide) ?_
      refine lv_iconst (v := 0) hx hb d_lw_attacked_24 (by decide) ?_
      refine W.widen (k := 1) (n := 6) (by decide) (by decide) ?_
      exact W.iret (v := (0 : Int32)) hx hb hr (fun t ht hW => ⟨⟨(0 : Int32), _, rfl, .inr ⟨hbad, rfl, by rw [hw_1.1]; exact hxx⟩, ⟨by rw [ht]; exact hP, hD⟩⟩, hS.F ht⟩) hS.2.2 d_lw_attacked_25
    refine lv_if_eq (tgt := 15) hx hb d_lw_attacked_8 (by decide) (fun c_1 => ?_) (fun c_1 => ?_)
    · refine lv_lconst (v := 0) hx hb d_lw_attacked_15 (by decide) ?_
      exact fin 0 (by rw [if_pos c_1])
    · refine lv_lconst (v := 1) hx hb d_lw_attacked_11 (by decide) ?_
      refine lv_goto (tgt := 16) hx hb d_lw_attacked_12 (by decide) ?_
      exact fin 1 (by rw [if_neg c_1])
def w_lw_spell : List Cond := .codeWith y_lw_spell b_lw_spell 4 (some .int) [(0, 9, 12, 19)] :: gw
set_option maxHeartbeats 4000000 in
set_option maxRecDepth 100000 in
theorem c_lw_spell (l : Launch) (hfl : l.flags = pinnedFlags ++ [noTraceFlag]) (K : KT) (sz : Nat) (Gh : Nat) (lnh lna0 : Nat) (ln : LnT) (trh tra0 : Nat) (tr : LnT) (rdh : Nat) (rd : Int32) (tdh tda0 tda1 : Nat) (td : TdT) (fmh : Nat) (fm : FmT) (psh psa0 : Nat) (ps : PsT) (sph spa0 : Nat) (sp : PsT) (oh : Nat) (f : Nat → Int64) (mv : Int32) : Met l y_lw_spell w_lw_spell ({ frames := 9, cells := 1, slots := 6, locals := 210 } : Room) (va_Pc [.ref Gh, .int mv, .ref oh] (fun U => pMU K (wG K Gh lnh lna0 ln trh tra0 tr rdh rd tdh tda0 tda1 td fmh fm psh psa0 ps sph spa0 sp ++ [wO K oh f]) sz U ∧ thS (va_A (wG K Gh lnh lna0 ln trh tra0 tr rdh rd tdh tda0 tda1 td fmh fm psh psa0 ps sph spa0 sp ++ [wO K oh f]) sz) U U.heap ∧ LnOk ln ∧ LnOk tr ∧ TdOk td ∧ True)) (va_Qi (fun (r : Int32) (u : LnT × (Nat → Int64)) => ((f_td_indexOf td mv = -1 ∧ r = 1 ∧ u = (ln, f)) ∨ (¬ f_td_indexOf td mv = -1 ∧ r = 0 ∧ ∃ q : Int32, f_gn_spell mv ln tr rd td fm ps sp = (q, u.1) ∧ u.2 0 = q.toInt64)) ∧ LnOk u.1) (fun (u : LnT × (Nat → Int64)) (t : State) => va_P (kD K) vwCl (wG K Gh lnh lna0 u.1 trh tra0 tr rdh rd tdh tda0 tda1 td fmh fm psh psa0 ps sph spa0 sp ++ [wO K oh u.2]) t.heap ∧ va_D (va_A (wG K Gh lnh lna0 ln trh tra0 tr rdh rd tdh tda0 tda1 td fmh fm psh psa0 ps sph spa0 sp ++ [wO K oh f]) sz) (wG K Gh lnh lna0 u.1 trh tra0 tr rdh rd tdh tda0 tda1 td fmh fm psh psa0 ps sph spa0 sp ++ [wO K oh u.2])) (va_A (wG K Gh lnh lna0 ln trh tra0 tr rdh rd tdh tda0 tda1 td fmh fm psh psa0 ps sph spa0 sp ++ [wO K oh f]) sz)) 1 6 (va_A (wG K Gh lnh lna0 ln trh tra0 tr rdh rd tdh tda0 tda1 td fmh fm psh psa0 ps sph spa0 sp ++ [wO K oh f]) sz) := by
  refine va_MetW (cc := b_lw_spell) (maxL := 4) (ret := (some .int)) (hh := [(0, 9, 12, 19)]) (by decide) rfl ?_
  intro p e s m args below meth c s₁ B hml hv
  obtain ⟨rfl, ⟨hsz, hP, hK, hD0, hG⟩, hTh, ok_ln, ok_tr, ok_td, -⟩ := hv
  have hx := B.exec
  have hb := B.bytes
  have hr := B.returns
  have hts := atoms_spec (ws := w_lw_spell) B.pre
  have hown : s.vm.findClass R_lw = some m.cls := findClass_of_methodNamed B.named
  have hlocks := B.notSynchronized
  have htg := fun w h => hts w (List.mem_cons_of_mem _ h)
  obtain ⟨hx1, hex, x1, x2, x3, x4⟩ := one_handler B (hts _ List.mem_cons_self)
  subst hsz
  have hD := hD0.self (sz := s.heap.size)
  generalize hAe : va_A (wG K Gh lnh lna0 ln trh tra0 tr rdh rd tdh tda0 tda1 td fmh fm psh psa0 ps sph spa0 sp ++ [wO K oh f]) s.heap.size = A at hD hG hTh ⊢
  have hA : ∀ q : Nat, s.heap.size ≤ q → A q := fun q h => by rw [← hAe]; exact Or.inr h
  have hS : va_S A s.heap s.heap [] := va_S.rf
  have hl := lv_entry ([.ref Gh, .int mv, .ref oh]) (n := 4) (Nat.le_of_ble_eq_true rfl)
  rw [lg_entry_eq]
  generalize (lg_sl ([.ref Gh, .int mv, .ref oh]) ++ List.replicate (4 - (lg_sl ([.ref Gh, .int mv, .ref oh])).length) Slot.unset).toArray = ls at hl ⊢
  have hl : lv_has ls 4 [(0, .ref Gh), (1, .int mv), (2, .ref oh)] := hl
  refine lv_aload_n hx hb d_lw_spell_0 rfl (lv_at hl 2 rfl) ?_
  refine lv_iconst (v := 0) hx hb d_lw_spell_1 (by decide) ?_
  refine lv_aload_n hx hb d_lw_spell_2 rfl (lv_at hl 0 rfl) ?_
  refine lv_iload_n hx hb d_lw_spell_3 rfl (lv_at hl 1 rfl) ?_
  have hPc : va_P (kD K) vwCl (wG K Gh lnh lna0 ln trh tra0 tr rdh rd tdh tda0 tda1 td fmh fm psh psa0 ps sph spa0 sp) _ := hP.sub [0, 1, 2, 3, 4, 5, 6, 7, 8, 9, 10, 11, 12, 13] rfl
  by_cases hbad : f_td_indexOf td mv = -1
  · obtain ⟨⟨hrc, hrs, hfr, hlo, hws, hcw, hcode, hini, hy, hlen, hlk⟩, hin, hse⟩ := cwV (R := (headSpec w_lw_spell { frames := 9, cells := 1, slots := 6, locals := 210 }).room) (rm := { frames := 6, cells := 1, slots := 6, locals := 90 }) 1 htg (g_V q_766 q_767 q_768 q_1 (g_w q_769)) rfl rfl rfl ⟨rfl, k_gn_spell⟩ ⟨Nat.le_of_ble_eq_true rfl, Nat.le_of_ble_eq_true rfl⟩
    obtain ⟨cellB, hc1, hc2, hc3⟩ := va_recv hK hPc (ci := 5) (q0 := 0) rfl rfl
    refine W.callCaught (argsL := [.int mv]) (rest := [.int 0, .ref oh]) hx hb hown hlk hin hse hcode hy (c_gn_spellT l hfl K Gh mv lnh lna0 ln trh tra0 tr rdh rd tdh tda0 tda1 td fmh fm psh psa0 ps sph spa0 sp) rt_blind hrc hrs hfr hlo hws hcw hini hc1 hc2 hc3 (hl.1.trans hml.symm) (fun sig h => (hlen sig h)) (Nat.le_of_ble_eq_true rfl) d_lw_spell_4 ⟨Nat.le_of_ble_eq_true rfl, Nat.le_of_ble_eq_true rfl⟩ (rt_use hPc hK hG hTh hS ⟨ok_ln, ok_tr, ok_td, hbad, trivial⟩) hx1 hex (by rw [covers, x1, x2]; decide) (by rw [x4]; decide) (by rw [x4]; exact htg _ q_765) (fun a H1 hz hk => ?_)
    rw [x3]
    have hS1 : va_S A s.heap H1 [] := ⟨hz, fun q hq _ => hk q hq, fun _ h => by cases h⟩
    have hP1 : va_P (kD K) vwCl (wG K Gh lnh lna0 ln trh tra0 tr rdh rd tdh tda0 tda1 td fmh fm psh psa0 ps sph spa0 sp ++ [wO K oh f]) H1 := fun k q hq => (hP k q hq).kept (hk q.1 (va_lt hP hq))
    refine lv_astore_n (lv' := [(3, .ref a), (0, .ref Gh), (1, .int mv), (2, .ref oh)]) hx hb d_lw_spell_12 rfl hl (by decide) rfl (fun ls hl => ?_)
    refine lv_iconst (v := 1) hx hb d_lw_spell_13 (by decide) ?_
    exact W.iret (v := (1 : Int32)) hx hb hr (fun t ht hW => ⟨⟨(1 : Int32), (ln, f), rfl, ⟨.inl ⟨hbad, rfl, rfl⟩, ok_ln⟩, ⟨by rw [ht]; exact hP1, hD⟩⟩, hS1.F ht⟩) hS1.2.2 d_lw_spell_14
  · have hDc : va_D A (wG K Gh lnh lna0 ln trh tra0 tr rdh rd tdh tda0 tda1 td fmh fm psh psa0 ps sph spa0 sp) := hD.sub [0, 1, 2, 3, 4, 5, 6, 7, 8, 9, 10, 11, 12, 13] (by decide) rfl
    have hFc := va_free (wc := wG K Gh lnh lna0 ln trh tra0 tr rdh rd tdh tda0 tda1 td fmh fm psh psa0 ps sph spa0 sp) hD hS hA [0, 1, 2, 3, 4, 5, 6, 7, 8, 9, 10, 11, 12, 13] rfl
    refine va_calli (va_runV (As := [.int mv]) (rest := [.int 0, .ref oh]) ⟨hx, hb, hml, hown, htg⟩ (c_gn_spell l K _ Gh mv lnh lna0 ln trh tra0 tr rdh rd tdh tda0 tda1 td fmh fm psh psa0 ps sph spa0 sp) (cwV 1 htg (g_V q_766 q_767 q_768 q_1 (g_w q_769)) rfl rfl rfl ⟨rfl, k_gn_spell⟩ ⟨Nat.le_of_ble_eq_true rfl, Nat.le_of_ble_eq_true rfl⟩) ⟨mu_blind, va_recv hK hPc (ci := 5) (q0 := 0) rfl rfl, mu_use hPc hK hDc hG hS hFc ⟨ok_ln, ok_tr, ok_td, hbad, trivial⟩⟩ rfl rfl hl.1 rfl (lv_room (Nat.le_of_ble_eq_true rfl)) d_lw_spell_4 ⟨Nat.zero_le _, Nat.zero_le _⟩) hS (fun q _ h => hFc q h) hFc (fun r_1 u_1 t H1 locs ht hvm hw_1 hB hz1 hk1 hS => ?_)
    obtain ⟨hP1, hD1⟩ := hB
    rw [ht] at hP1
    obtain ⟨hP, hD⟩ := va_join (wr := [wO K oh f]) (w1 := wG K Gh lnh lna0 u_1 trh tra0 tr rdh rd tdh tda0 tda1 td fmh fm psh psa0 ps sph spa0 sp) hP hD [0, 1, 2, 3, 4, 5, 6, 7, 8, 9, 10, 11, 12, 13] [14] rfl rfl (by decide) (by decide) hk1 hFc hP1 hD1
    have hP : va_P (kD K) vwCl (wG K Gh lnh lna0 u_1 trh tra0 tr rdh rd tdh tda0 tda1 td fmh fm psh psa0 ps sph spa0 sp ++ [wO K oh f]) H1 := hP.sub [1, 2, 3, 4, 5, 6, 7, 8, 9, 10, 11, 12, 13, 14, 0] rfl
    have hD : va_D A (wG K Gh lnh lna0 u_1 trh tra0 tr rdh rd tdh tda0 tda1 td fmh fm psh psa0 ps sph spa0 sp ++ [wO K oh f]) := hD.sub [1, 2, 3, 4, 5, 6, 7, 8, 9, 10, 11, 12, 13, 14, 0] (by decide) rfl
    refine lv_i2l hx hb d_lw_spell_7 rfl ?_
    refine va_last hx hb hK hP hD hS 14 2 rfl rfl (vp_in_iff.mpr ⟨by decide, by decide⟩) d_lw_spell_8 (fun H2 locs1 hP hD hS => ?_)
    refine lv_goto (tgt := 15) hx hb d_lw_spell_9 (by decide) ?_
    refine lv_iconst (v := 0) hx hb d_lw_spell_15 (by decide) ?_
    refine W.widen (k := 1) (n := 6) (by decide) (by decide) ?_
    exact W.iret (v := (0 : Int32)) hx hb hr (fun t ht hW => ⟨⟨(0 : Int32), (u_1, _), rfl, ⟨.inr ⟨hbad, rfl, r_1, hw_1.1, rfl⟩, hw_1.2.1⟩, ⟨by rw [ht]; exact hP, hD⟩⟩, hS.F ht⟩) hS.2.2 d_lw_spell_16
theorem lw_runSW {p : Program} {l : Launch} {e : Env} {R : Room} {s : State} {m : MethodId} {args : Array Value} {below : List Frame} {meth : Method} {c : Code} {H : Heap} {locs : List Loc} {cells slots : Nat}
    {y : MethodName} {bytes cc : ByteArray} {maxL nL mc ms n index : Nat} {ret : Option FieldType} {hh : List (Nat × Nat × Nat × Nat)} {rm : Room} {Pc : Array Value → State → Prop} {Qc : Array Value → State → Outcome → State → Prop} {free : Addr → Prop} {own : String} {As rest : List Value} {g : JFrame}
    (hx : p.tables.exec = Jvm.exec) (hb : c.code = cc) (hml : c.maxLocals = nL) (ho : s.vm.findClass own = some m.cls) (htg : ∀ w ∈ gw, w.before args s = true)
    (hM : Met l y (Cond.codeWith y bytes maxL ret hh :: gw) rm Pc Qc mc ms free) (hblind : FrameBlind Pc) (hrc : rm.cells = mc) (hrs : rm.slots = ms) (hfr : rm.frames + 1 ≤ R.frames) (hlo : 8 + (maxL + 11) + rm.locals ≤ R.locals)
    (hcw : Cond.codeWith y bytes maxL ret hh ∈ gw) (hlk : Cond.methodLink own index y ∈ gw) (hst : Cond.static y ∈ gw) (hini : Cond.initialized y.cls ∈ gw)
    (hy : y.cls ≠ "java/lang/invoke/MethodHandle" ∧ y.cls ≠ "java/lang/invoke/VarHandle" ∧ (parseMethodDescriptor y.desc).map (fun d => d.parameters.length) = some n)
    (hPc : ∀ U : State, U.heap = H → s.WarmedH U.vm → Pc As.toArray U) (hg : g.method = m) (hn : As.length = n) (hsize : g.locals.size = nL) (hstack : g.stack = As.reverse ++ rest) (hW : 2 * g.monitorRoom + (rest.map fun v => v.category).sum ≤ 8) (hdg : decode cc g.pc = .ok (.invokestatic index, 3)) (hf : cells + mc ≤ R.cells ∧ slots + ms ≤ R.slots) :
    va_Run p l e R s m args below meth c H locs cells slots mc ms g rest (Qc As.toArray) free := by
  have G := g_w hcw
  have hwi : ∀ a' U, s.WarmedH U.vm → (Cond.initialized y.cls).before a' U = true := fun a' U hW => word_at hW (g_w hini _ List.mem_cons_self).2 (htg _ hini)
  have hK : Back l R p e below s args y 3 8 (PreOf R mc ms Pc) (PostOf Qc mc ms free) := va_backW (hh := hh) (bytes := bytes) (maxL := maxL) (ret := ret) hM hblind hrc hrs hfr hlo (fun w hw a' U hW => word_at hW (G w hw).2 (htg _ (G w hw).1)) List.mem_cons_self hwi
  intro T hT X
  obtain ⟨mk, methM, cM, hnamed, hmethM, -, -, -, -, -, -, hsigM⟩ := Cond.codeWith_spec (htg _ hcw)
  have hstatic : methM.isStatic = true := Cond.static_spec hnamed hmethM (htg _ hst)
  obtain ⟨kP, hkP, -⟩ := className_of_methodNamed hnamed
  have hinitP : kP.init = .initialized := Cond.initialized_spec (findClass_of_methodNamed hnamed) hkP (htg _ hini)
  have hlen : As.length = methM.sig.parameters.length := by
    have h3 := hy.2.2
    rw [hsigM] at h3
    exact hn.trans (Option.some.inj h3).symm
  obtain ⟨vm₁, X₁, hstep₁⟩ := X.invokestatic hx ho (htg _ hlk) hnamed hmethM hstatic hkP hinitP ⟨hy.1, hy.2.1⟩ (g := g) hg (argsL := As) (rest := rest) hlen hstack (by rw [hb]; exact hdg)
  obtain ⟨v, ⟨U', l2, c2, s2⟩, X', ⟨g', mk', t, L, e1, e2, hq, h1, hL, h2, h3⟩, hsteps⟩ := hK m meth c ⟨T.setVm vm₁, locs, cells, slots⟩ { g with stack := rest } (.invokestatic index) mk As.toArray X₁ hg (hsize.trans hml.symm) (by rw [hb]; exact hdg) hW (X₁.named hnamed) ⟨hf.1, hf.2, hPc (T.setVm vm₁) hT X₁.warmed⟩
  dsimp only [Pt.U, Pt.locs, Pt.cells, Pt.slots] at X' e1 e2 h1 h2 h3 hsteps
  subst h1; subst h2; subst h3
  exact ⟨v, (T.setVm vm₁).calling g' mk' As.toArray, t, U', L, hT, X', hL, e1, e2, hq, fun target h => hstep₁ _ fun acts => by rw [doInvoke_state]; exact hsteps.trans h⟩
