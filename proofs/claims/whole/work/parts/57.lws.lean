theorem q_22 : (.instanceMethod y_gn_init : Cond) ∈ gw := gw_t (List.mem_of_getElem? (i := 22) (by decide +kernel)) (by decide +kernel)
theorem q_23 : (.code y_gn_init prog_1_method_1_code 1 none : Cond) ∈ gw := gw_t (List.mem_of_getElem? (i := 23) (by decide +kernel)) (by decide +kernel)
set_option maxHeartbeats 4000000 in
set_option maxRecDepth 100000 in
theorem whole_start {p : Program} {e : Env} {s : State} {m : MethodId} {below : List Frame} {meth : Method} {c : Code} (l : Launch) (hfl : l.flags = pinnedFlags ++ [noTraceFlag]) {b L : Nat} {xs : Nat → Int32} (hL : L ≤ 3072) (C0 : lw_At p s m meth c b L xs) : W p l e room_1 s m #[Value.ref b] below meth c s.heap [] 0 0 (lw_Z below #[Value.ref b] s) (entryFrame m ([Value.ref b] : List Value).toArray 7) := by
  obtain ⟨hx, hb, hr, hml, hown, hts, hX, hbl, hlocks, hgv⟩ := C0
  obtain ⟨K, hK, hG, hTh⟩ := lw_world hts hgv
  have htg : ∀ w ∈ gw, w.before #[Value.ref b] s = true := fun w h => hts w (List.mem_filter.mp h).1
  have hb : c.code = b_lw_law := hb
  have hown : s.vm.findClass R_lw = some m.cls := hown
  have C1 : LC l K p s m meth c b L xs := ⟨hx, hb, hr, hml, hown, htg, hX, hbl, hlocks, hK, hG, hTh, hfl, hL⟩
  have hA : ∀ q : Nat, s.heap.size ≤ q → nA s q := fun q h => h
  have hS : va_S (nA s) s.heap s.heap [] := va_S.rf
  have hP : va_P (kD K) vwCl [] s.heap := fun k q hq => by simp at hq
  have hD : va_D (nA s) [] := ⟨fun i j p q hp hq => by simp at hp, fun k q hq => by simp at hq⟩
  have hl := lv_entry ([.ref b]) (n := 7) (Nat.le_of_ble_eq_true rfl)
  rw [lg_entry_eq]
  generalize (lg_sl ([.ref b]) ++ List.replicate (7 - (lg_sl ([.ref b])).length) Slot.unset).toArray = ls at hl ⊢
  have hl : lv_has ls 7 [(0, .ref b)] := hl
  refine va_new (ci := 5) (fs := [.null, .null, .null, .null, .null, .null, .null]) (C := R_gn) (T := T_gn) (N := 7) hx hb htg in_gn ty_gn ty_gn_ok hown (htg (.classLink R_lw 8 R_gn) q_19) (htg (.instantiable R_gn 7) q_20) (htg (.initialized R_gn) q_1) hK hP hD hS hA rfl (fun j hj => by rcases (show j = 0 ∨ j = 1 ∨ j = 2 ∨ j = 3 ∨ j = 4 ∨ j = 5 ∨ j = 6 by omega) with rfl | rfl | rfl | rfl | rfl | rfl | rfl <;> rfl) (Nat.le_of_ble_eq_true rfl) (Nat.le_of_ble_eq_true rfl) d_lw_law_0 (fun Gh H hP hD hS => ?_)
  refine W.widen (k := 1) (n := 7) (by decide) (by decide) ?_
  have hP : va_P (kD K) vwCl ([(Gh, .inr (5, [.null, .null, .null, .null, .null, .null, .null]))]) _ := hP
  have hD : va_D (nA s) ([(Gh, .inr (5, [.null, .null, .null, .null, .null, .null, .null]))]) := hD
  refine lv_dup hx hb d_lw_law_3 rfl ?_
  have hPc : va_P (kD K) vwCl [(Gh, .inr (5, [.null, .null, .null, .null, .null, .null, .null]))] _ := hP.sub [0] rfl
  have hDc : va_D (nA s) [(Gh, .inr (5, [.null, .null, .null, .null, .null, .null, .null]))] := hD.sub [0] (by decide) rfl
  have hFc := va_free (wc := [(Gh, .inr (5, [.null, .null, .null, .null, .null, .null, .null]))]) hD hS hA [0] rfl
  refine va_callv (va_runI (As := []) (rest := [.ref Gh]) ⟨hx, hb, hml, hown, htg⟩ (c_gn_init l K _ Gh) (cwI 0 htg (g_w q_23) rfl rfl rfl (htg _ q_1) (htg (.methodLink R_lw 21 y_gn_init) q_21) (htg (.instanceMethod y_gn_init) q_22) rfl (by decide +kernel) ⟨Nat.le_of_ble_eq_true rfl, Nat.le_of_ble_eq_true rfl⟩) ⟨mu_blind, mu_use hPc hK hDc hG hS hFc trivial⟩ rfl rfl hl.1 rfl (lv_room (Nat.le_of_ble_eq_true rfl)) d_lw_law_4 ⟨Nat.le_of_ble_eq_true rfl, Nat.le_of_ble_eq_true rfl⟩) hS (fun q _ h => hFc q h) hFc (fun u t H1 locs ht hvm hw hB hz1 hk1 hS => ?_)
  obtain ⟨lnh, lna0, trh, tra0, rdh, tdh, tda0, tda1, fmh, psh, psa0, sph, spa0, hP1, hD1⟩ := hB
  rw [ht] at hP1
  obtain ⟨hP, hD⟩ := va_join (wr := []) (w1 := wG K Gh lnh lna0 ((fun _ => 0, 0) : LnT) trh tra0 ((fun _ => 0, 0) : LnT) rdh 0 tdh tda0 tda1 ((fun _ => 0, fun _ => 0, 0) : TdT) fmh ((0, 0, 0, 0, 0, 0) : FmT) psh psa0 ((fun _ => 0, 0, 0, -1, 0, 1) : PsT) sph spa0 ((fun _ => 0, 0, 0, -1, 0, 1) : PsT)) hP hD [0] [] rfl rfl (by decide) (by decide) hk1 hFc hP1 hD1
  have hP : va_P (kD K) vwCl (wG K Gh lnh lna0 ((fun _ => 0, 0) : LnT) trh tra0 ((fun _ => 0, 0) : LnT) rdh 0 tdh tda0 tda1 ((fun _ => 0, fun _ => 0, 0) : TdT) fmh ((0, 0, 0, 0, 0, 0) : FmT) psh psa0 ((fun _ => 0, 0, 0, -1, 0, 1) : PsT) sph spa0 ((fun _ => 0, 0, 0, -1, 0, 1) : PsT)) _ := hP
  have hD : va_D (nA s) (wG K Gh lnh lna0 ((fun _ => 0, 0) : LnT) trh tra0 ((fun _ => 0, 0) : LnT) rdh 0 tdh tda0 tda1 ((fun _ => 0, fun _ => 0, 0) : TdT) fmh ((0, 0, 0, 0, 0, 0) : FmT) psh psa0 ((fun _ => 0, 0, 0, -1, 0, 1) : PsT) sph spa0 ((fun _ => 0, 0, 0, -1, 0, 1) : PsT)) := hD
  generalize H1 = H at hP hS ⊢
  refine W.widen (k := 14) (n := 1021) (by decide) (by decide) ?_
  refine lv_astore_n (lv' := [(1, .ref Gh), (0, .ref b)]) hx hb d_lw_law_7 rfl hl (by decide) rfl (fun ls hl => ?_)
  refine va_new (ci := 6) (fs := [.int 0, .null, .int 0, .int 0, .int 0, .int 0, .int 0, .null, .int 0, .int 0, .null, .null, .int 0, .null, .int 0, .int 0, .int 0, .int 0, .int 0, .null, .int 0]) (C := R_md) (T := T_md) (N := 21) hx hb htg in_md ty_md ty_md_ok hown (htg (.classLink R_lw 22 R_md) q_788) (htg (.instantiable R_md 21) q_789) (htg (.initialized R_md) q_7) hK hP hD hS hA rfl (fun j hj => by rcases (show j = 0 ∨ j = 1 ∨ j = 2 ∨ j = 3 ∨ j = 4 ∨ j = 5 ∨ j = 6 ∨ j = 7 ∨ j = 8 ∨ j = 9 ∨ j = 10 ∨ j = 11 ∨ j = 12 ∨ j = 13 ∨ j = 14 ∨ j = 15 ∨ j = 16 ∨ j = 17 ∨ j = 18 ∨ j = 19 ∨ j = 20 by omega) with rfl | rfl | rfl | rfl | rfl | rfl | rfl | rfl | rfl | rfl | rfl | rfl | rfl | rfl | rfl | rfl | rfl | rfl | rfl | rfl | rfl <;> rfl) (Nat.le_of_ble_eq_true rfl) (Nat.le_of_ble_eq_true rfl) d_lw_law_8 (fun Mh H hP hD hS => ?_)
  refine W.widen (k := 15) (n := 1042) (by decide) (by decide) ?_
  have hP : va_P (kD K) vwCl (wG K Gh lnh lna0 ((fun _ => 0, 0) : LnT) trh tra0 ((fun _ => 0, 0) : LnT) rdh 0 tdh tda0 tda1 ((fun _ => 0, fun _ => 0, 0) : TdT) fmh ((0, 0, 0, 0, 0, 0) : FmT) psh psa0 ((fun _ => 0, 0, 0, -1, 0, 1) : PsT) sph spa0 ((fun _ => 0, 0, 0, -1, 0, 1) : PsT) ++ [(Mh, .inr (6, [.int 0, .null, .int 0, .int 0, .int 0, .int 0, .int 0, .null, .int 0, .int 0, .null, .null, .int 0, .null, .int 0, .int 0, .int 0, .int 0, .int 0, .null, .int 0]))]) _ := hP
  have hD : va_D (nA s) (wG K Gh lnh lna0 ((fun _ => 0, 0) : LnT) trh tra0 ((fun _ => 0, 0) : LnT) rdh 0 tdh tda0 tda1 ((fun _ => 0, fun _ => 0, 0) : TdT) fmh ((0, 0, 0, 0, 0, 0) : FmT) psh psa0 ((fun _ => 0, 0, 0, -1, 0, 1) : PsT) sph spa0 ((fun _ => 0, 0, 0, -1, 0, 1) : PsT) ++ [(Mh, .inr (6, [.int 0, .null, .int 0, .int 0, .int 0, .int 0, .int 0, .null, .int 0, .int 0, .null, .null, .int 0, .null, .int 0, .int 0, .int 0, .int 0, .int 0, .null, .int 0]))]) := hD
  refine lv_dup hx hb d_lw_law_11 rfl ?_
  have hPc : va_P (kD K) vwCl [(Mh, .inr (6, [.int 0, .null, .int 0, .int 0, .int 0, .int 0, .int 0, .null, .int 0, .int 0, .null, .null, .int 0, .null, .int 0, .int 0, .int 0, .int 0, .int 0, .null, .int 0]))] _ := hP.sub [14] rfl
  have hDc : va_D (nA s) [(Mh, .inr (6, [.int 0, .null, .int 0, .int 0, .int 0, .int 0, .int 0, .null, .int 0, .int 0, .null, .null, .int 0, .null, .int 0, .int 0, .int 0, .int 0, .int 0, .null, .int 0]))] := hD.sub [14] (by decide) rfl
  have hFc := va_free (wc := [(Mh, .inr (6, [.int 0, .null, .int 0, .int 0, .int 0, .int 0, .int 0, .null, .int 0, .int 0, .null, .null, .int 0, .null, .int 0, .int 0, .int 0, .int 0, .int 0, .null, .int 0]))]) hD hS hA [14] rfl
  refine va_callv (va_runI (As := []) (rest := [.ref Mh]) ⟨hx, hb, hml, hown, htg⟩ (c_md_init l K _ Mh) (cwI 0 htg (g_w q_792) rfl rfl rfl (htg _ q_7) (htg (.methodLink R_lw 24 y_md_init) q_790) (htg (.instanceMethod y_md_init) q_791) rfl (by decide +kernel) ⟨Nat.le_of_ble_eq_true rfl, Nat.le_of_ble_eq_true rfl⟩) ⟨mu_blind, mu_use hPc hK hDc hG hS hFc trivial⟩ rfl rfl hl.1 rfl (lv_room (Nat.le_of_ble_eq_true rfl)) d_lw_law_12 ⟨Nat.le_of_ble_eq_true rfl, Nat.le_of_ble_eq_true rfl⟩) hS (fun q _ h => hFc q h) hFc (fun u t H1 locs ht hvm hw hB hz1 hk1 hS => ?_)
  obtain ⟨Ma0, Ma1, Ma2, Ma3, Ma4, Ma5, hP1, hD1⟩ := hB
  rw [ht] at hP1
  obtain ⟨hP, hD⟩ := va_join (wr := wG K Gh lnh lna0 ((fun _ => 0, 0) : LnT) trh tra0 ((fun _ => 0, 0) : LnT) rdh 0 tdh tda0 tda1 ((fun _ => 0, fun _ => 0, 0) : TdT) fmh ((0, 0, 0, 0, 0, 0) : FmT) psh psa0 ((fun _ => 0, 0, 0, -1, 0, 1) : PsT) sph spa0 ((fun _ => 0, 0, 0, -1, 0, 1) : PsT)) (w1 := wM K Mh Ma0 Ma1 Ma2 Ma3 Ma4 Ma5 (fun _ => 0) (fun _ => 0) (fun _ => 0) (fun _ => 0) (fun _ => 0) (fun _ => 0) 0 0 0 (-1) 0 1 0 0 0 0 0 0 0 0 0) hP hD [14] [0, 1, 2, 3, 4, 5, 6, 7, 8, 9, 10, 11, 12, 13] rfl rfl (by decide) (by decide) hk1 hFc hP1 hD1
  have hP : va_P (kD K) vwCl (wG K Gh lnh lna0 ((fun _ => 0, 0) : LnT) trh tra0 ((fun _ => 0, 0) : LnT) rdh 0 tdh tda0 tda1 ((fun _ => 0, fun _ => 0, 0) : TdT) fmh ((0, 0, 0, 0, 0, 0) : FmT) psh psa0 ((fun _ => 0, 0, 0, -1, 0, 1) : PsT) sph spa0 ((fun _ => 0, 0, 0, -1, 0, 1) : PsT) ++ wM K Mh Ma0 Ma1 Ma2 Ma3 Ma4 Ma5 (fun _ => 0) (fun _ => 0) (fun _ => 0) (fun _ => 0) (fun _ => 0) (fun _ => 0) 0 0 0 (-1) 0 1 0 0 0 0 0 0 0 0 0) _ := hP
  have hD : va_D (nA s) (wG K Gh lnh lna0 ((fun _ => 0, 0) : LnT) trh tra0 ((fun _ => 0, 0) : LnT) rdh 0 tdh tda0 tda1 ((fun _ => 0, fun _ => 0, 0) : TdT) fmh ((0, 0, 0, 0, 0, 0) : FmT) psh psa0 ((fun _ => 0, 0, 0, -1, 0, 1) : PsT) sph spa0 ((fun _ => 0, 0, 0, -1, 0, 1) : PsT) ++ wM K Mh Ma0 Ma1 Ma2 Ma3 Ma4 Ma5 (fun _ => 0) (fun _ => 0) (fun _ => 0) (fun _ => 0) (fun _ => 0) (fun _ => 0) 0 0 0 (-1) 0 1 0 0 0 0 0 0 0 0 0) := hD
  generalize H1 = H at hP hS ⊢
  refine W.widen (k := 21) (n := 1946) (by decide) (by decide) ?_
  refine lv_astore_n (lv' := [(2, .ref Mh), (1, .ref Gh), (0, .ref b)]) hx hb d_lw_law_15 rfl hl (by decide) rfl (fun ls hl => ?_)
  refine lv_iconst (v := 1) hx hb d_lw_law_16 (by decide) ?_
  refine va_newa (atype := .long) (a0 := (1, .inr (.inl (fun _ => 0)))) (N' := 1) hx hb (htg _ q_1083) rfl hK hP hD hS hA (fun _ => rfl) (by decide) (by decide) (by decide) (Nat.le_of_ble_eq_true rfl) (Nat.le_of_ble_eq_true rfl) d_lw_law_17 (fun oh cA H hK9 hP hD hS => ?_)
  obtain rfl : cA = kJ K := kA_long hK hK9
  have hP : va_P (kD K) vwCl (wG K Gh lnh lna0 ((fun _ => 0, 0) : LnT) trh tra0 ((fun _ => 0, 0) : LnT) rdh 0 tdh tda0 tda1 ((fun _ => 0, fun _ => 0, 0) : TdT) fmh ((0, 0, 0, 0, 0, 0) : FmT) psh psa0 ((fun _ => 0, 0, 0, -1, 0, 1) : PsT) sph spa0 ((fun _ => 0, 0, 0, -1, 0, 1) : PsT) ++ wM K Mh Ma0 Ma1 Ma2 Ma3 Ma4 Ma5 (fun _ => 0) (fun _ => 0) (fun _ => 0) (fun _ => 0) (fun _ => 0) (fun _ => 0) 0 0 0 (-1) 0 1 0 0 0 0 0 0 0 0 0 ++ [wO K oh (fun _ => 0)]) _ := hP
  have hD : va_D (nA s) (wG K Gh lnh lna0 ((fun _ => 0, 0) : LnT) trh tra0 ((fun _ => 0, 0) : LnT) rdh 0 tdh tda0 tda1 ((fun _ => 0, fun _ => 0, 0) : TdT) fmh ((0, 0, 0, 0, 0, 0) : FmT) psh psa0 ((fun _ => 0, 0, 0, -1, 0, 1) : PsT) sph spa0 ((fun _ => 0, 0, 0, -1, 0, 1) : PsT) ++ wM K Mh Ma0 Ma1 Ma2 Ma3 Ma4 Ma5 (fun _ => 0) (fun _ => 0) (fun _ => 0) (fun _ => 0) (fun _ => 0) (fun _ => 0) 0 0 0 (-1) 0 1 0 0 0 0 0 0 0 0 0 ++ [wO K oh (fun _ => 0)]) := hD
  refine W.widen (k := 22) (n := 1947) (by decide) (by decide) ?_
  refine lv_astore_n (lv' := [(3, .ref oh), (2, .ref Mh), (1, .ref Gh), (0, .ref b)]) hx hb d_lw_law_19 rfl hl (by decide) rfl (fun ls hl => ?_)
  refine lv_iconst (v := 0) hx hb d_lw_law_20 (by decide) ?_
  refine lv_istore (lv' := [(4, .int 0), (3, .ref oh), (2, .ref Mh), (1, .ref Gh), (0, .ref b)]) hx hb d_lw_law_21 hl (by decide) rfl (fun ls hl => ?_)
  have hl : lv_has ls 7 (lvL b Gh Mh oh 0) := lv_sub hl [0, 4, 3, 2, 1] rfl
  have n0 : narrow .char (.int (0 : Int32)) = .int 0 := by decide
  have n1 : 0 ≤ (0 : Int32).toInt ∧ (0 : Int32).toInt ≤ 126 := by decide
  have n2 : 0 ≤ (0 : Int32).toInt ∧ (0 : Int32).toInt ≤ 12 := by decide
  have okL : LnOk ((fun _ => 0, 0) : LnT) := ⟨by decide, by decide, fun _ => n0⟩
  have okT : TdOk ((fun _ => 0, fun _ => 0, 0) : TdT) := ⟨by decide, by decide⟩
  have RL : pu_RL ((fun _ => 0, 0) : LnT) (fun _ => 0) 0 := ⟨rfl, by decide, by decide, fun _ _ => rfl, fun _ _ => n1⟩
  have RP : pu_RP ((fun _ => 0, 0, 0, -1, 0, 1) : PsT) (fun _ => 0) 0 0 (-1) 0 1 := ⟨⟨fun _ _ => rfl, fun _ _ => n2⟩, rfl, rfl, rfl, rfl, rfl, by decide, by decide, by decide, by decide, by decide⟩
  have z0 : ∀ j : Nat, ¬ (j : Int) < (0 : Int32).toInt := fun j => by rw [show (0 : Int32).toInt = 0 by decide]; omega
  have RT : pu_RT ((fun _ => 0, fun _ => 0, 0) : TdT) (fun _ => 0) (fun _ => 0) (fun _ => 0) 0 := ⟨rfl, by decide, by decide, fun _ _ => rfl, fun _ _ => rfl, fun j h => absurd h (z0 j), fun j h => absurd h (z0 j), fun i _ h => absurd h (z0 i)⟩
  exact lw_loop C1 513 0 22 1947 _ _ _ lnh lna0 ((fun _ => 0, 0) : LnT) trh tra0 ((fun _ => 0, 0) : LnT) rdh 0 tdh tda0 tda1 ((fun _ => 0, fun _ => 0, 0) : TdT) fmh ((0, 0, 0, 0, 0, 0) : FmT) psh psa0 ((fun _ => 0, 0, 0, -1, 0, 1) : PsT) sph spa0 ((fun _ => 0, 0, 0, -1, 0, 1) : PsT) Ma0 Ma1 Ma2 Ma3 Ma4 Ma5 (fun _ => 0) (fun _ => 0) (fun _ => 0) (fun _ => 0) (fun _ => 0) (fun _ => 0) 0 0 0 (-1) 0 1 0 0 0 0 0 0 0 0 0 (fun _ => 0) (by decide) (by decide) (by rw [show (0 : Int32).toInt = 0 by decide]; omega) (by decide) (by decide) ⟨hP, hD, hS, okL, okL, okT, RL, RP, RT⟩ hl
