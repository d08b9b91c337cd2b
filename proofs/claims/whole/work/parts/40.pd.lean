theorem pu_RB1.say {L : LnT} {t : Nat → Int32} {n c : Int32} {B : Int} (h : pu_RB1 L t n B) (hB : B < 100) (h0 : 0 ≤ c.toInt) (h1 : c.toInt ≤ 126) : pu_RB1 (f_ln_add L c) (f_md_say t n c).1 (f_md_say t n c).2 (B + 1) := h.add hB h0 h1
def pu_RB2 (L : LnT) (t : Nat → Int32) (n : Int32) (B : Int) : Prop := (pu_RB1 L t n B) ∧ (∀ j : Nat, (j : Int) < n.toInt → 45 ≤ (t j).toInt)
theorem pu_RB2.a {L : LnT} {t : Nat → Int32} {n : Int32} {B : Int} (h : pu_RB2 L t n B) : pu_RB1 L t n B := h.1
theorem pu_RB2.g {L : LnT} {t : Nat → Int32} {n : Int32} {B : Int} (h : pu_RB2 L t n B) : ∀ j : Nat, (j : Int) < n.toInt → 45 ≤ (t j).toInt := h.2
theorem pu_RB2.mono {L : LnT} {t : Nat → Int32} {n : Int32} {B C : Int} (h : pu_RB2 L t n B) (hBC : B ≤ C) : pu_RB2 L t n C := ⟨h.a.mono hBC, h.g⟩
theorem pu_RB2.say {L : LnT} {t : Nat → Int32} {n c : Int32} {B : Int} (h : pu_RB2 L t n B) (hB : B < 100) (h0 : 45 ≤ c.toInt) (h1 : c.toInt ≤ 126) : pu_RB2 (f_ln_add L c) (f_md_say t n c).1 (f_md_say t n c).2 (B + 1) := by
  refine ⟨h.a.say hB (by omega) h1, fun j hj => ?_⟩
  have hl := h.a.r.lo; have hb := h.a.b
  have e1 : (n + 1).toInt = n.toInt + 1 := by clear h; (simp only [Int32.lt_iff_toInt_lt, Int32.le_iff_toInt_le, ← Int32.toInt_inj, pu_ia, pu_isb, pu_im, pu_tn, pu_in1, pu_in2, pu_in3, pu_in4, pu_in8, Int32.reduceToInt, Int.reduceNeg, ne_eq] at *; omega)
  unfold f_md_say upd at *
  dsimp only at *
  split
  · exact h0
  · rename_i q; exact h.g j (by rw [pu_tn] at q; omega)
theorem pu_file_of {s : Int32} (h0 : 0 ≤ s.toInt) (h1 : s.toInt < 64) : f_gn_pick 3 (f_gn_fileOf s) = 97 + (s - s / 8 * 8) ∧ 45 ≤ (97 + (s - s / 8 * 8)).toInt ∧ (97 + (s - s / 8 * 8)).toInt ≤ 126 ∧ f_gn_pick 0 (f_gn_rankOf s) = 49 + s / 8 ∧ 45 ≤ (49 + s / 8).toInt ∧ (49 + s / 8).toInt ≤ 126 :=
  pu_all_rg (P := fun s => f_gn_pick 3 (f_gn_fileOf s) = 97 + (s - s / 8 * 8) ∧ 45 ≤ (97 + (s - s / 8 * 8)).toInt ∧ (97 + (s - s / 8 * 8)).toInt ≤ 126 ∧ f_gn_pick 0 (f_gn_rankOf s) = 49 + s / 8 ∧ 45 ≤ (49 + s / 8).toInt ∧ (49 + s / 8).toInt ≤ 126) 64 (by decide +kernel) h0 h1
theorem pu_square_eq {L : LnT} {t : Nat → Int32} {n s : Int32} {B : Int} (h : pu_RB2 L t n B) (hB : B < 99) (h0 : 0 ≤ s.toInt) (h1 : s.toInt < 64) : pu_RB2 (f_ln_addSquare L s) (f_md_saySquare t n s).1 (f_md_saySquare t n s).2 (B + 2) := by
  obtain ⟨a1, a2, a3, a4, a5, a6⟩ := pu_file_of h0 h1
  unfold f_ln_addSquare f_md_saySquare
  simp only [pu_bnd_k]
  rw [a1, a4]
  exact ((h.say (by omega) a2 a3).say (by omega) a5 a6).mono (by omega)
theorem pu_castle_eq {P : PsT} {b : Nat → Int32} (h : pu_RB P.1 b) (m : Int32) :
    (f_gn_castlingOf m P = 0 ∧ f_md_castles b m = 0) ∨ (f_gn_castlingOf m P = 1 ∧ f_md_castles b m = 1) ∨ (f_gn_castlingOf m P = -1 ∧ f_md_castles b m = 2) := by
  have hf := pu_from_rg m; have ht := pu_to_rg m
  have rM := h.rg (f_gn_fromOf m).toNatClampNeg (by rw [pu_tn]; omega)
  have kM := pu_kind_of rM.1 rM.2
  unfold f_gn_castlingOf f_md_castles
  simp only [pu_bnd_k]
  have eF : f_md_fromOf m = f_gn_fromOf m := rfl
  have eT : f_md_toOf m = f_gn_toOf m := rfl
  rw [pu_man_on h hf.1 hf.2, eF, eT]
  have e1 : f_gn_toOf m - f_gn_toOf m / 8 * 8 = f_gn_fileOf (f_gn_toOf m) := rfl
  have e2 : f_gn_fromOf m - f_gn_fromOf m / 8 * 8 = f_gn_fileOf (f_gn_fromOf m) := rfl
  rw [e1, e2]
  have g1 := (pu_sq_f hf.1 hf.2).1; have g2 := (pu_sq_f ht.1 ht.2).1
  generalize f_gn_fileOf (f_gn_toOf m) = x at *
  generalize f_gn_fileOf (f_gn_fromOf m) = y at *
  have ed : (x - y).toInt = x.toInt - y.toInt := by rw [pu_isb]; omega
  generalize b (f_gn_fromOf m).toNatClampNeg = mn at *
  have z2 : (2 : Int32).toInt = 2 := by decide
  have z1 : (1 : Int32).toInt = 1 := by decide
  by_cases c : f_gn_kindOf mn = 6
  · rw [if_pos c]
    have c' := kM.2.1.mp c
    have pick : ∀ A B : Int32, (if mn = 6 then A else if mn = 12 then A else B) = A := by
      intro A B
      rcases c' with w | w
      · rw [if_pos w]
      · by_cases q : mn = 6
        · rw [if_pos q]
        · rw [if_neg q, if_pos w]
    rw [pick]
    simp only [Int32.lt_iff_toInt_lt, Int32.le_iff_toInt_le, ed, z2, z1, pu_in1, pu_in2]
    by_cases d1 : x.toInt - y.toInt < 2
    · have d1' : x.toInt - y.toInt ≤ 1 := by omega
      simp only [if_pos d1, if_pos d1']
      by_cases d2 : -2 < x.toInt - y.toInt
      · have d2' : -1 ≤ x.toInt - y.toInt := by omega
        simp [d2, d2']
      · have d2' : ¬ -1 ≤ x.toInt - y.toInt := by omega
        simp [d2, d2']
    · have d1' : ¬ x.toInt - y.toInt ≤ 1 := by omega
      simp [d1, d1']
  · rw [if_neg c]
    have c' : ¬ (mn = 6 ∨ mn = 12) := fun q => c (kM.2.1.mpr q)
    rw [if_neg fun q => c' (.inl q), if_neg fun q => c' (.inr q)]
    exact .inl ⟨rfl, rfl⟩
def pu_riv (b mv : Nat → Int32) (m : Int32) (i : Nat) : Prop := f_gn_fromOf (mv i) ≠ f_gn_fromOf m ∧ f_gn_toOf (mv i) = f_gn_toOf m ∧ b (f_gn_fromOf (mv i)).toNatClampNeg = b (f_gn_fromOf m).toNatClampNeg
def pu_rivW (b mv : Nat → Int32) (m w : Int32) (i : Nat) : Prop := pu_riv b mv m i ∧ (w = 0 ∨ (w = 1 ∧ f_gn_fileOf (f_gn_fromOf (mv i)) = f_gn_fileOf (f_gn_fromOf m)) ∨ (w = 2 ∧ f_gn_rankOf (f_gn_fromOf (mv i)) = f_gn_rankOf (f_gn_fromOf m)))
theorem pu_riv_st (b mv : Nat → Int32) (tl m w : Int32) (k : Nat) (v4 v5 : Int32) (h : ¬ tl ≤ v5) :
    (pu_rivW b mv m w v5.toNatClampNeg → f_md_rivals_L11 b mv tl m w (k + 1) (f_gn_fromOf m) v4 v5 = f_md_rivals_L11 b mv tl m w k (f_gn_fromOf m) (v4 + 1) (v5 + 1)) ∧
    (¬ pu_rivW b mv m w v5.toNatClampNeg → f_md_rivals_L11 b mv tl m w (k + 1) (f_gn_fromOf m) v4 v5 = f_md_rivals_L11 b mv tl m w k (f_gn_fromOf m) v4 (v5 + 1)) := by
  rw [f_md_rivals_L11, if_neg h]
  simp only [pu_bnd_k, Int32.add_zero]
  generalize f_md_rivals_L11 b mv tl m w k (f_gn_fromOf m) (v4 + 1) (v5 + 1) = X1
  generalize f_md_rivals_L11 b mv tl m w k (f_gn_fromOf m) v4 (v5 + 1) = X0
  generalize v5.toNatClampNeg = i
  have eF : f_md_fromOf (mv i) = f_gn_fromOf (mv i) := rfl
  have eT : f_md_toOf (mv i) = f_gn_toOf (mv i) := rfl
  have eT2 : f_md_toOf m = f_gn_toOf m := rfl
  rw [eF, eT, eT2]
  unfold pu_rivW pu_riv f_gn_fileOf f_gn_rankOf
  generalize f_gn_fromOf (mv i) = a
  generalize f_gn_toOf (mv i) = c
  generalize f_gn_toOf m = d
  generalize f_gn_fromOf m = e
  generalize b a.toNatClampNeg = ba
  generalize b e.toNatClampNeg = be
  have n10 : ¬ (1 : Int32) = 0 := by decide
  have n20 : ¬ (2 : Int32) = 0 := by decide
  have n21 : ¬ (2 : Int32) = 1 := by decide
  grind
theorem pu_riv_L {b mv : Nat → Int32} {tl m w : Int32} (h3 : tl.toInt ≤ 330) : ∀ (k : Nat) (v4 v5 : Int32), 0 ≤ v5.toInt → (330 - v5.toInt).toNat < k → 0 ≤ v4.toInt → v4.toInt ≤ v5.toInt → v4.toInt ≤ 330 →
    v4.toInt ≤ (f_md_rivals_L11 b mv tl m w k (f_gn_fromOf m) v4 v5).toInt ∧ ((f_md_rivals_L11 b mv tl m w k (f_gn_fromOf m) v4 v5).toInt = v4.toInt ↔ ∀ i : Nat, v5.toInt ≤ i → (i : Int) < tl.toInt → ¬ pu_rivW b mv m w i) := by
  have z1 : (1 : Int32).toInt = 1 := by decide
  intro k
  induction k with
  | zero => intro v4 v5 h0 h1; omega
  | succ k ih =>
    intro v4 v5 h0 h1 q0 q1 q2
    by_cases c : tl ≤ v5
    · rw [f_md_rivals_L11, if_pos c]
      rw [Int32.le_iff_toInt_le] at c
      exact ⟨Int.le_refl _, fun _ i a1 a2 => by omega, fun _ => rfl⟩
    · obtain ⟨s1, s2⟩ := pu_riv_st b mv tl m w k v4 v5 c
      rw [Int32.le_iff_toInt_le] at c
      have e5 : (v5 + 1).toInt = v5.toInt + 1 := by rw [pu_ia, z1]; omega
      have g1 : 0 ≤ (v5 + 1).toInt := by omega
      have g2 : (330 - (v5 + 1).toInt).toNat < k := by omega
      by_cases d : pu_rivW b mv m w v5.toNatClampNeg
      · rw [s1 d]
        have e4 : (v4 + 1).toInt = v4.toInt + 1 := by rw [pu_ia, z1]; omega
        have g3 : 0 ≤ (v4 + 1).toInt := by omega
        have g4 : (v4 + 1).toInt ≤ (v5 + 1).toInt := by omega
        have g5 : (v4 + 1).toInt ≤ 330 := by omega
        obtain ⟨p1, p2⟩ := ih (v4 + 1) (v5 + 1) g1 g2 g3 g4 g5
        refine ⟨by omega, fun q => by omega, fun q => absurd d (q v5.toNatClampNeg (by rw [pu_tn]; omega) (by rw [pu_tn]; omega))⟩
      · rw [s2 d]
        have g4 : v4.toInt ≤ (v5 + 1).toInt := by omega
        obtain ⟨p1, p2⟩ := ih v4 (v5 + 1) g1 g2 q0 g4 q2
        refine ⟨p1, p2.trans ⟨fun q i a1 a2 => ?_, fun q i a1 a2 => q i (by omega) a2⟩⟩
        by_cases hi : (i : Int) = v5.toInt
        · have : i = v5.toNatClampNeg := by rw [pu_tn]; omega
          rw [this]; exact d
        · exact q i (by omega) a2
theorem pu_rivals_0 {b mv : Nat → Int32} {tl m w : Int32} (h3 : tl.toInt ≤ 330) : f_md_rivals b mv tl m w = 0 ↔ ∀ i : Nat, (i : Int) < tl.toInt → ¬ pu_rivW b mv m w i := by
  obtain ⟨p1, p2⟩ := pu_riv_L (b := b) (mv := mv) (tl := tl) (m := m) (w := w) h3 331 0 0 (by decide) (by decide) (by decide) (by decide) (by decide)
  have e : f_md_rivals b mv tl m w = f_md_rivals_L11 b mv tl m w 331 (f_gn_fromOf m) 0 0 := by unfold f_md_rivals; rw [bnd_s rfl]; rfl
  have z0 : (0 : Int32).toInt = 0 := by decide
  rw [e, pu_eq_i, p2]
  exact ⟨fun q i a => q i (by omega) a, fun q i _ a => q i a⟩
def pu_finO (v4 v5 v6 v7 : Int32) (L : LnT) : LnT := (if v5 = 0 then (if v6 = 0 then L else (f_ln_add L (f_gn_pick 0 (f_gn_rankOf v4)))) else (if v6 = 0 then (f_ln_add L (f_gn_pick 3 (f_gn_fileOf v4))) else (if v7 = 0 then (f_ln_add L (f_gn_pick 0 (f_gn_rankOf v4))) else (f_ln_add (f_ln_add L (f_gn_pick 3 (f_gn_fileOf v4))) (f_gn_pick 0 (f_gn_rankOf v4))))))
theorem pu_or_L {T : TdT} {b mv sg : Nat → Int32} {tl m : Int32} (h : pu_RT T b mv sg tl) {P : PsT} (hb : pu_RB P.1 b) (L : LnT) : ∀ (k : Nat) (v5 v6 v7 v8 : Int32), 0 ≤ v8.toInt → (330 - v8.toInt).toNat < k →
    ∃ r f q : Int32, f_td_addOrigin_L18 T m P k (f_gn_fromOf m) v5 v6 v7 v8 L = pu_finO (f_gn_fromOf m) r f q L ∧
      (r ≠ 0 ↔ v5 ≠ 0 ∨ ∃ i : Nat, v8.toInt ≤ i ∧ (i : Int) < tl.toInt ∧ pu_rivW b mv m 0 i) ∧ (f ≠ 0 ↔ v6 ≠ 0 ∨ ∃ i : Nat, v8.toInt ≤ i ∧ (i : Int) < tl.toInt ∧ pu_rivW b mv m 1 i) ∧ (q ≠ 0 ↔ v7 ≠ 0 ∨ ∃ i : Nat, v8.toInt ≤ i ∧ (i : Int) < tl.toInt ∧ pu_rivW b mv m 2 i) := by
  have z1 : (1 : Int32).toInt = 1 := by decide
  have hh := h.hi
  have n10 : ¬ (1 : Int32) = 0 := by decide
  have n20 : ¬ (2 : Int32) = 0 := by decide
  have n21 : ¬ (2 : Int32) = 1 := by decide
  have n12 : ¬ (1 : Int32) = 2 := by decide
  have n02 : ¬ (0 : Int32) = 2 := by decide
  have n01 : ¬ (0 : Int32) = 1 := by decide
  intro k
  induction k with
  | zero => intro v5 v6 v7 v8 h0 h1; omega
  | succ k ih =>
    intro v5 v6 v7 v8 h0 h1
    rw [f_td_addOrigin_L18, h.ct]
    by_cases c : tl ≤ v8
    · rw [if_pos c]
      rw [Int32.le_iff_toInt_le] at c
      have em : ∀ w, ¬ ∃ i : Nat, v8.toInt ≤ i ∧ (i : Int) < tl.toInt ∧ pu_rivW b mv m w i := fun w ⟨i, a1, a2, _⟩ => by omega
      refine ⟨v5, v6, v7, ?_, ?_, ?_, ?_⟩
      · simp only [pu_bnd_k]; rfl
      · exact ⟨.inl, fun q => q.resolve_right (em 0)⟩
      · exact ⟨.inl, fun q => q.resolve_right (em 1)⟩
      · exact ⟨.inl, fun q => q.resolve_right (em 2)⟩
    · rw [if_neg c]
      rw [Int32.le_iff_toInt_le] at c
      have e8 : (v8 + 1).toInt = v8.toInt + 1 := by rw [pu_ia, z1]; omega
      have g1 : 0 ≤ (v8 + 1).toInt := by omega
      have g2 : (330 - (v8 + 1).toInt).toNat < k := by omega
      have hm : f_td_move T v8 = mv v8.toNatClampNeg := by
        unfold f_td_move f_td_has
        rw [h.ct, if_neg (by rw [Int32.lt_iff_toInt_lt]; exact Int.not_lt.mpr h0), if_neg (by rw [Int32.le_iff_toInt_le]; exact c), if_neg (by rw [Int32.le_iff_toInt_le, show (330 : Int32).toInt = 330 by decide]; omega), bnd_s rfl, if_neg n10]
        exact h.emv _ (by rw [pu_tn]; omega)
      simp only [pu_bnd_k]
      rw [hm]
      have hf := pu_from_rg (mv v8.toNatClampNeg); have hf2 := pu_from_rg m
      have hr : f_td_isRival (mv v8.toNatClampNeg) m P = 0 ↔ ¬ pu_riv b mv m v8.toNatClampNeg := by
        unfold f_td_isRival pu_riv
        simp only [pu_bnd_k]
        rw [pu_man_on hb hf.1 hf.2, pu_man_on hb hf2.1 hf2.2]
        grind
      have split8 : ∀ w, (∃ i : Nat, v8.toInt ≤ i ∧ (i : Int) < tl.toInt ∧ pu_rivW b mv m w i) ↔ (pu_rivW b mv m w v8.toNatClampNeg ∨ ∃ i : Nat, (v8 + 1).toInt ≤ i ∧ (i : Int) < tl.toInt ∧ pu_rivW b mv m w i) := by
        intro w
        constructor
        · rintro ⟨i, a1, a2, a3⟩
          by_cases hi : (i : Int) = v8.toInt
          · have : i = v8.toNatClampNeg := by rw [pu_tn]; omega
            exact .inl (this ▸ a3)
          · exact .inr ⟨i, by omega, a2, a3⟩
        · rintro (a3 | ⟨i, a1, a2, a3⟩)
          · exact ⟨v8.toNatClampNeg, by rw [pu_tn]; omega, by rw [pu_tn]; omega, a3⟩
          · exact ⟨i, by omega, a2, a3⟩
      simp only [split8]
      have w0 : pu_rivW b mv m 0 v8.toNatClampNeg ↔ pu_riv b mv m v8.toNatClampNeg := by unfold pu_rivW; simp
      have w1 : pu_rivW b mv m 1 v8.toNatClampNeg ↔ pu_riv b mv m v8.toNatClampNeg ∧ f_gn_fileOf (f_gn_fromOf (mv v8.toNatClampNeg)) = f_gn_fileOf (f_gn_fromOf m) := by unfold pu_rivW; simp
      have w2 : pu_rivW b mv m 2 v8.toNatClampNeg ↔ pu_riv b mv m v8.toNatClampNeg ∧ f_gn_rankOf (f_gn_fromOf (mv v8.toNatClampNeg)) = f_gn_rankOf (f_gn_fromOf m) := by unfold pu_rivW; simp
      rw [w0, w1, w2]
      by_cases d : f_td_isRival (mv v8.toNatClampNeg) m P = 0
      · rw [if_pos d]
        have nr := hr.mp d
        obtain ⟨r, f, q, p1, p2, p3, p4⟩ := ih v5 v6 v7 (v8 + 1) g1 g2
        refine ⟨r, f, q, p1, ?_, ?_, ?_⟩
        · rw [p2]; simp [nr]
        · rw [p3]; simp [nr]
        · rw [p4]; simp [nr]
      · rw [if_neg d]
        have yr : pu_riv b mv m v8.toNatClampNeg := Classical.not_not.mp fun q => d (hr.mpr q)
        have go : ∀ x6 x7 : Int32, (x6 ≠ 0 ↔ v6 ≠ 0 ∨ f_gn_fileOf (f_gn_fromOf (mv v8.toNatClampNeg)) = f_gn_fileOf (f_gn_fromOf m)) → (x7 ≠ 0 ↔ v7 ≠ 0 ∨ f_gn_rankOf (f_gn_fromOf (mv v8.toNatClampNeg)) = f_gn_rankOf (f_gn_fromOf m)) →
            ∃ r f q : Int32, f_td_addOrigin_L18 T m P k (f_gn_fromOf m) 1 x6 x7 (v8 + 1) L = pu_finO (f_gn_fromOf m) r f q L ∧
            (r ≠ 0 ↔ v5 ≠ 0 ∨ (pu_riv b mv m v8.toNatClampNeg ∨ ∃ i : Nat, (v8 + 1).toInt ≤ i ∧ (i : Int) < tl.toInt ∧ pu_rivW b mv m 0 i)) ∧
            (f ≠ 0 ↔ v6 ≠ 0 ∨ (pu_riv b mv m v8.toNatClampNeg ∧ f_gn_fileOf (f_gn_fromOf (mv v8.toNatClampNeg)) = f_gn_fileOf (f_gn_fromOf m) ∨ ∃ i : Nat, (v8 + 1).toInt ≤ i ∧ (i : Int) < tl.toInt ∧ pu_rivW b mv m 1 i)) ∧
            (q ≠ 0 ↔ v7 ≠ 0 ∨ (pu_riv b mv m v8.toNatClampNeg ∧ f_gn_rankOf (f_gn_fromOf (mv v8.toNatClampNeg)) = f_gn_rankOf (f_gn_fromOf m) ∨ ∃ i : Nat, (v8 + 1).toInt ≤ i ∧ (i : Int) < tl.toInt ∧ pu_rivW b mv m 2 i)) := by
          intro x6 x7 h6 h7
          obtain ⟨r, f, q, p1, p2, p3, p4⟩ := ih 1 x6 x7 (v8 + 1) g1 g2
          refine ⟨r, f, q, p1, ?_, ?_, ?_⟩
          · rw [p2]; simp [yr]
          · rw [p3, h6]; simp only [yr, true_and, or_assoc]
          · rw [p4, h7]; simp only [yr, true_and, or_assoc]
        by_cases d6 : v6 = 0
        · rw [if_pos d6]
          by_cases df : f_gn_fileOf (f_gn_fromOf (mv v8.toNatClampNeg)) = f_gn_fileOf (f_gn_fromOf m)
          · rw [if_pos df]
            by_cases d7 : v7 = 0
            · rw [if_pos d7]
              by_cases dr : f_gn_rankOf (f_gn_fromOf (mv v8.toNatClampNeg)) = f_gn_rankOf (f_gn_fromOf m)
              · rw [if_pos dr]; exact go 1 1 (by simp [df]) (by simp [dr])
              · rw [if_neg dr]; exact go 1 0 (by simp [df]) (by simp [dr, d7])
            · rw [if_neg d7]; exact go 1 1 (by simp [df]) (by simp [d7])
          · rw [if_neg df]
            by_cases d7 : v7 = 0
            · rw [if_pos d7]
              by_cases dr : f_gn_rankOf (f_gn_fromOf (mv v8.toNatClampNeg)) = f_gn_rankOf (f_gn_fromOf m)
              · rw [if_pos dr]; exact go 0 1 (by simp [df, d6]) (by simp [dr])
              · rw [if_neg dr]; exact go 0 0 (by simp [df, d6]) (by simp [dr, d7])
            · rw [if_neg d7]; exact go 0 1 (by simp [df, d6]) (by simp [d7])
        · rw [if_neg d6]
          by_cases d7 : v7 = 0
          · rw [if_pos d7]
            by_cases dr : f_gn_rankOf (f_gn_fromOf (mv v8.toNatClampNeg)) = f_gn_rankOf (f_gn_fromOf m)
            · rw [if_pos dr]; exact go 1 1 (by simp [d6]) (by simp [dr])
            · rw [if_neg dr]; exact go 1 0 (by simp [d6]) (by simp [dr, d7])
          · rw [if_neg d7]; exact go 1 1 (by simp [d6]) (by simp [d7])
theorem pu_origin_eq {T : TdT} {b mv sg : Nat → Int32} {tl m : Int32} (h : pu_RT T b mv sg tl) {P : PsT} (hb : pu_RB P.1 b) {L : LnT} {t : Nat → Int32} {n : Int32} {B : Int} (hL : pu_RB2 L t n B) (hB : B < 99) :
    pu_RB2 (f_td_addOrigin T L m P) (f_md_sayOrigin b mv t tl n m).1 (f_md_sayOrigin b mv t tl n m).2 (B + 2) := by
  have hf := pu_from_rg m
  obtain ⟨a1, a2, a3, a4, a5, a6⟩ := pu_file_of hf.1 hf.2
  obtain ⟨r, f, q, p1, p2, p3, p4⟩ := pu_or_L (m := m) h hb L 331 0 0 0 0 (by decide) (by decide)
  have e : f_td_addOrigin T L m P = pu_finO (f_gn_fromOf m) r f q L := by unfold f_td_addOrigin; rw [bnd_s rfl]; exact p1
  have z0 : (0 : Int32).toInt = 0 := by decide
  have nz : ¬ ((0 : Int32) ≠ 0) := fun q => q rfl
  have ex : ∀ w, (∃ i : Nat, (0 : Int32).toInt ≤ i ∧ (i : Int) < tl.toInt ∧ pu_rivW b mv m w i) ↔ ¬ f_md_rivals b mv tl m w = 0 := by
    intro w
    rw [pu_rivals_0 h.hi]
    constructor
    · rintro ⟨i, -, b1, b2⟩ q; exact q i b1 b2
    · intro q
      refine Classical.byContradiction fun w2 => q fun i b1 b2 => w2 ⟨i, by rw [z0]; omega, b1, b2⟩
  simp only [ex, nz, false_or] at p2 p3 p4
  rw [e]
  unfold pu_finO f_md_sayOrigin
  simp only [pu_bnd_k]
  have eF : f_md_fromOf m = f_gn_fromOf m := rfl
  rw [eF, a1, a4]
  have i01 : f_md_rivals b mv tl m 0 = 0 → f_md_rivals b mv tl m 1 = 0 := by
    rw [pu_rivals_0 h.hi, pu_rivals_0 h.hi]
    intro q i b1 b2
    exact q i b1 ⟨b2.1, .inl rfl⟩
  generalize f_md_rivals b mv tl m 0 = R at *
  generalize f_md_rivals b mv tl m 1 = F at *
  generalize f_md_rivals b mv tl m 2 = K at *
  by_cases c1 : R = 0
  · have r0 : r = 0 := Decidable.not_not.mp fun w => p2.mp w c1
    have f0 : f = 0 := Decidable.not_not.mp fun w => p3.mp w (i01 c1)
    rw [if_pos c1, if_pos r0, if_pos f0]; exact hL.mono (by omega)
  · have r0 : ¬ r = 0 := p2.mpr c1
    rw [if_neg c1, if_neg r0]
    by_cases c2 : F = 0
    · have f0 : f = 0 := Decidable.not_not.mp fun w => p3.mp w c2
      rw [if_pos c2, if_pos f0]; exact (hL.say (by omega) a2 a3).mono (by omega)
    · have f0 : ¬ f = 0 := p3.mpr c2
      rw [if_neg c2, if_neg f0]
      by_cases c3 : K = 0
      · have q0 : q = 0 := Decidable.not_not.mp fun w => p4.mp w c3
        rw [if_pos c3, if_pos q0]; exact (hL.say (by omega) a5 a6).mono (by omega)
      · have q0 : ¬ q = 0 := p4.mpr c3
        rw [if_neg c3, if_neg q0]; exact ((hL.say (by omega) a2 a3).say (by omega) a5 a6).mono (by omega)
set_option maxRecDepth 16384 in
theorem pu_told_mv {T : TdT} {b mv sg : Nat → Int32} {tl : Int32} (h : pu_RT T b mv sg tl) {j : Nat} (hj : (j : Int) < tl.toInt) : f_td_move T (Int32.ofNat j) = mv j ∧ f_td_sign T (Int32.ofNat j) = sg j := by
  have hh := h.hi
  have e := pu_nat_ofn (k := j) (by omega)
  have e2 : (Int32.ofNat j).toNatClampNeg = j := by rw [pu_tn, e]; omega
  have n1 : ¬ (1 : Int32) = 0 := by decide
  have hs : f_td_has T (Int32.ofNat j) = 1 := by
    unfold f_td_has
    rw [h.ct, if_neg (by rw [Int32.lt_iff_toInt_lt, e]; show ¬ (j : Int) < 0; omega), if_neg (by rw [Int32.le_iff_toInt_le, e]; omega), if_neg (by rw [Int32.le_iff_toInt_le, e, show (330 : Int32).toInt = 330 by decide]; omega)]
  unfold f_td_move f_td_sign
  rw [hs, bnd_s rfl, bnd_s rfl, if_neg n1, if_neg n1, e2]
  exact ⟨h.emv j hj, h.esg j hj⟩
set_option maxRecDepth 16384 in
theorem pu_pick_man2 {m : Int32} (h0 : 1 ≤ m.toInt) (h1 : m.toInt ≤ 12) : f_gn_pick 1 (m - 1) = f_md_letter m ∧ 45 ≤ (f_md_letter m).toInt ∧ (f_md_letter m).toInt ≤ 126 := by
  have q : ∀ k : Nat, k < 13 → (0 < k → f_gn_pick 1 (Int32.ofNat k - 1) = f_md_letter (Int32.ofNat k) ∧ 45 ≤ (f_md_letter (Int32.ofNat k)).toInt ∧ (f_md_letter (Int32.ofNat k)).toInt ≤ 126) := by decide
  obtain ⟨k, hk, rfl⟩ := pu_of_rg (N := 13) (by omega : 0 ≤ m.toInt) (by omega)
  refine q k hk (Nat.pos_of_ne_zero ?_)
  rintro rfl
  revert h0; decide
set_option maxRecDepth 16384 in
theorem pu_spelling_eq {T : TdT} {b mv sg : Nat → Int32} {tl : Int32} (h : pu_RT T b mv sg tl) {P : PsT} (hb : pu_RB P.1 b) {j : Nat} (hj : (j : Int) < tl.toInt) {L : LnT} {out : Nat → Int32} (hL : pu_RB2 L out 0 0) :
    pu_RB2 (f_td_addUnsigned T L (Int32.ofNat j) P) (f_md_spelling b mv out tl (mv j)).1 (f_md_spelling b mv out tl (mv j)).2 7 := by
  have n1 : ¬ (1 : Int32) = 0 := by decide
  have ok := h.ok j hj
  have hm := (pu_told_mv h hj).1
  generalize mv j = m at *
  have hf := pu_from_rg m; have ht := pu_to_rg m
  have rM := hb.rg (f_gn_fromOf m).toNatClampNeg (by rw [pu_tn]; omega)
  have rT := hb.rg (f_gn_toOf m).toNatClampNeg (by rw [pu_tn]; omega)
  have kM := pu_kind_of rM.1 rM.2
  have eF : f_md_fromOf m = f_gn_fromOf m := rfl
  have eT : f_md_toOf m = f_gn_toOf m := rfl
  have eB : m >>> ((12 : Int32) &&& 31) = f_gn_becomesOf m := rfl
  unfold f_td_addUnsigned f_md_spelling
  simp only [pu_bnd_k]
  rw [hm, eF, eT, eB, pu_man_on hb hf.1 hf.2]
  have cs := pu_castle_eq hb m
  rcases cs with ⟨c1, c2⟩ | ⟨c1, c2⟩ | ⟨c1, c2⟩
  rotate_left
  ·
    rw [c1, c2, if_neg n1, if_neg (show ¬ (1 : Int32) ≤ 0 by decide), if_neg (show ¬ (1 : Int32) ≤ 0 by decide)]
    unfold f_md_sayCastling
    simp only [pu_bnd_k]
    rw [if_neg (by decide)]
    have e : f_ln_addAll L 6 = f_ln_add (f_ln_add (f_ln_add L 48) 45) 48 := by
      unfold f_ln_addAll
      have l3 : f_st_length 6 = 3 := by decide
      have k0 : f_st_charAt 6 0 = 48 := by decide
      have k1 : f_st_charAt 6 1 = 45 := by decide
      have k2 : f_st_charAt 6 2 = 48 := by decide
      rw [f_ln_addAll_L2, l3, bnd_s rfl, if_neg (by decide), k0, bnd_s rfl, bnd_s rfl, show (0 : Int32) + 1 = 1 by decide]
      rw [f_ln_addAll_L2, l3, bnd_s rfl, if_neg (by decide), k1, bnd_s rfl, bnd_s rfl, show (1 : Int32) + 1 = 2 by decide]
      rw [f_ln_addAll_L2, l3, bnd_s rfl, if_neg (by decide), k2, bnd_s rfl, bnd_s rfl, show (2 : Int32) + 1 = 3 by decide]
      rw [f_ln_addAll_L2, l3, bnd_s rfl, if_pos (by decide)]
    rw [e]
    exact (((hL.say (c := 48) (by decide) (by decide) (by decide)).say (c := 45) (by decide) (by decide) (by decide)).say (c := 48) (by decide) (by decide) (by decide)).mono (by decide)
  ·
    rw [c1, c2, if_neg (show ¬ (-1 : Int32) = 0 by decide), if_pos (show (-1 : Int32) ≤ 0 by decide), if_neg (show ¬ (2 : Int32) ≤ 0 by decide)]
    unfold f_md_sayCastling
    simp only [pu_bnd_k]
    simp only [if_true]
    have e : f_ln_addAll L 7 = f_ln_add (f_ln_add (f_ln_add (f_ln_add (f_ln_add L 48) 45) 48) 45) 48 := by
      unfold f_ln_addAll
      have l3 : f_st_length 7 = 5 := by decide
      have k0 : f_st_charAt 7 0 = 48 := by decide
      have k1 : f_st_charAt 7 1 = 45 := by decide
      have k2 : f_st_charAt 7 2 = 48 := by decide
      have k3 : f_st_charAt 7 3 = 45 := by decide
      have k4 : f_st_charAt 7 4 = 48 := by decide
      rw [f_ln_addAll_L2, l3, bnd_s rfl, if_neg (by decide), k0, bnd_s rfl, bnd_s rfl, show (0 : Int32) + 1 = 1 by decide]
      rw [f_ln_addAll_L2, l3, bnd_s rfl, if_neg (by decide), k1, bnd_s rfl, bnd_s rfl, show (1 : Int32) + 1 = 2 by decide]
      rw [f_ln_addAll_L2, l3, bnd_s rfl, if_neg (by decide), k2, bnd_s rfl, bnd_s rfl, show (2 : Int32) + 1 = 3 by decide]
      rw [f_ln_addAll_L2, l3, bnd_s rfl, if_neg (by decide), k3, bnd_s rfl, bnd_s rfl, show (3 : Int32) + 1 = 4 by decide]
      rw [f_ln_addAll_L2, l3, bnd_s rfl, if_neg (by decide), k4, bnd_s rfl, bnd_s rfl, show (4 : Int32) + 1 = 5 by decide]
      rw [f_ln_addAll_L2, l3, bnd_s rfl, if_pos (by decide)]
    rw [e]
    exact (((((hL.say (c := 48) (by decide) (by decide) (by decide)).say (c := 45) (by decide) (by decide) (by decide)).say (c := 48) (by decide) (by decide) (by decide)).say (c := 45) (by decide) (by decide) (by decide)).say (c := 48) (by decide) (by decide) (by decide)).mono (by decide)
  rw [c1, c2, if_pos rfl, if_pos (show (0 : Int32) ≤ 0 by decide)]
  obtain ⟨a1, a2, a3, a4, a5, a6⟩ := pu_file_of hf.1 hf.2
  have pw : f_md_isPawn (b (f_gn_fromOf m).toNatClampNeg) = if f_gn_kindOf (b (f_gn_fromOf m).toNatClampNeg) = 1 then 1 else 0 := by
    unfold f_md_isPawn
    by_cases q : f_gn_kindOf (b (f_gn_fromOf m).toNatClampNeg) = 1
    · rw [if_pos q]
      rcases kM.1.mp q with w | w
      · rw [if_pos w]
      · rw [w]; decide
    · rw [if_neg q]
      have q' := fun w => q (kM.1.mpr w)
      rw [if_neg fun w => q' (.inl w), if_neg fun w => q' (.inr w)]
  rw [pw]
  by_cases c : f_gn_kindOf (b (f_gn_fromOf m).toNatClampNeg) = 1
  · rw [if_pos c, if_pos c, if_neg n1]
    unfold f_td_addPawnMove
    simp only [pu_bnd_k]
    have ef1 : f_gn_fromOf m - f_gn_fromOf m / 8 * 8 = f_gn_fileOf (f_gn_fromOf m) := rfl
    have ef2 : f_gn_toOf m - f_gn_toOf m / 8 * 8 = f_gn_fileOf (f_gn_toOf m) := rfl
    have b0 := ok.b0; have b1 := ok.b1; have b5 := ok.b5
    generalize f_gn_becomesOf m = be at *
    have hbe : be = 0 ∨ (1 ≤ be.toInt ∧ be.toInt ≤ 12 ∧ ¬ be = 0 ∧ ¬ be ≤ 0) := by
      by_cases q : be = 0
      · exact .inl q
      · right
        have : be.toInt ≠ 0 := fun w => q (Int32.toInt_inj.mp w)
        exact ⟨by omega, by omega, q, by rw [Int32.le_iff_toInt_le]; show ¬ be.toInt ≤ 0; omega⟩
    rw [a1, ef1, ef2]
    rw [ef1] at a2 a3
    by_cases d : f_gn_fileOf (f_gn_fromOf m) = f_gn_fileOf (f_gn_toOf m)
    · rw [if_pos d, if_pos d]
      have q := pu_square_eq hL (by decide) ht.1 ht.2
      rcases hbe with w | ⟨w1, w2, w3, w4⟩
      · rw [if_pos w, if_pos (by rw [w]; decide)]; exact q.mono (by decide)
      · obtain ⟨p1, p2, p3⟩ := pu_pick_man2 w1 w2
        rw [if_neg w3, if_neg w4, p1]
        exact (q.say (by decide) p2 p3).mono (by decide)
    · rw [if_neg d, if_neg d]
      have q := pu_square_eq ((hL.say (by decide) a2 a3).say (c := 120) (by decide) (by decide) (by decide)) (by decide) ht.1 ht.2
      rcases hbe with w | ⟨w1, w2, w3, w4⟩
      · rw [if_pos w, if_pos (by rw [w]; decide)]; exact q.mono (by decide)
      · obtain ⟨p1, p2, p3⟩ := pu_pick_man2 w1 w2
        rw [if_neg w3, if_neg w4, p1]
        exact (q.say (by decide) p2 p3).mono (by decide)
  · rw [if_neg c, if_neg c, if_pos rfl]
    unfold f_td_addManMove
    simp only [pu_bnd_k]
    rw [pu_man_on hb hf.1 hf.2, pu_man_on hb ht.1 ht.2]
    have mnz := ok.mn
    generalize b (f_gn_fromOf m).toNatClampNeg = mn at *
    have mpos : 1 ≤ (f_gn_kindOf mn).toInt := by
      have : (f_gn_kindOf mn).toInt ≠ 0 := fun w => mnz (kM.2.2.2.2.2.mp w)
      have := kM.2.2.2.1
      omega
    obtain ⟨p1, p2, p3⟩ := pu_pick_man2 mpos (by have := kM.2.2.2.2.1; omega)
    have q1 := hL.say (by decide) p2 p3
    have q2 := pu_origin_eq (m := m) h hb q1 (by decide)
    have xx : (b (f_gn_toOf m).toNatClampNeg ≤ 0) ↔ b (f_gn_toOf m).toNatClampNeg = 0 := by
      rw [Int32.le_iff_toInt_le, pu_eq_i]
      show _ ≤ (0 : Int) ↔ _ = (0 : Int)
      omega
    rw [p1]
    have ek := kM.2.2.1
    have fin : ∀ {X : LnT} {o : (Nat → Int32) × Int32}, pu_RB2 X o.1 o.2 (0 + 1 + 2) →
        pu_RB2 (if b (f_gn_toOf m).toNatClampNeg = 0 then f_ln_addSquare X (f_gn_toOf m) else f_ln_addSquare (f_ln_add X 120) (f_gn_toOf m))
          (if b (f_gn_toOf m).toNatClampNeg ≤ 0 then ((f_md_saySquare o.1 o.2 (f_gn_toOf m)).1, (f_md_saySquare o.1 o.2 (f_gn_toOf m)).2) else ((f_md_saySquare (f_md_say o.1 o.2 120).1 (f_md_say o.1 o.2 120).2 (f_gn_toOf m)).1, (f_md_saySquare (f_md_say o.1 o.2 120).1 (f_md_say o.1 o.2 120).2 (f_gn_toOf m)).2)).1
          (if b (f_gn_toOf m).toNatClampNeg ≤ 0 then ((f_md_saySquare o.1 o.2 (f_gn_toOf m)).1, (f_md_saySquare o.1 o.2 (f_gn_toOf m)).2) else ((f_md_saySquare (f_md_say o.1 o.2 120).1 (f_md_say o.1 o.2 120).2 (f_gn_toOf m)).1, (f_md_saySquare (f_md_say o.1 o.2 120).1 (f_md_say o.1 o.2 120).2 (f_gn_toOf m)).2)).2 7 := by
      intro X o q
      by_cases w : b (f_gn_toOf m).toNatClampNeg = 0
      · rw [if_pos w, if_pos (xx.mpr w)]
        exact (pu_square_eq q (by decide) ht.1 ht.2).mono (by decide)
      · rw [if_neg w, if_neg (fun z => w (xx.mp z))]
        exact (pu_square_eq (q.say (c := 120) (by decide) (by decide) (by decide)) (by decide) ht.1 ht.2).mono (by decide)
    by_cases d : mn ≤ 6
    · rw [if_pos d] at ek
      rw [ek] at q2
      rw [if_pos d, ek]
      exact fin q2
    · rw [if_neg d] at ek
      rw [ek] at q2
      rw [if_neg d, ek]
      exact fin q2
set_option maxRecDepth 16384 in
theorem pu_sign_eq {L : LnT} {t : Nat → Int32} {n s : Int32} {B : Int} (h : pu_RB1 L t n B) (hB : B < 99) (hs : 0 ≤ s.toInt ∧ s.toInt ≤ 2) : pu_RB1 (if s ≤ 0 then L else f_ln_add L (f_gn_pick 5 (s - 1))) (f_md_saySign t n s).1 (f_md_saySign t n s).2 (B + 1) := by
  unfold f_md_saySign
  simp only [pu_bnd_k]
  by_cases c : s ≤ 0
  · rw [if_pos c, if_pos c]; exact h.mono (by omega)
  · rw [if_neg c, if_neg c]
    rw [Int32.le_iff_toInt_le] at c
    have c' : ¬ s.toInt ≤ 0 := c
    have : s = 1 ∨ s = 2 := by
      have : s.toInt = 1 ∨ s.toInt = 2 := by omega
      rcases this with w | w
      · exact .inl (Int32.toInt_inj.mp w)
      · exact .inr (Int32.toInt_inj.mp w)
    rcases this with rfl | rfl
    · rw [if_pos rfl, show f_gn_pick 5 (1 - 1) = 43 by decide]; exact h.say (by omega) (by decide) (by decide)
    · rw [if_neg (by decide), show f_gn_pick 5 (2 - 1) = 35 by decide]; exact h.say (by omega) (by decide) (by decide)
set_option maxRecDepth 16384 in
theorem pu_spc_L {v2 th n os : Int32} {out : Nat → Int32} (o16 : os.toInt ≤ 16) : ∀ (k : Nat) (v : Int32) (t : Nat → Int32), 0 ≤ v.toInt → (16 - v.toInt).toNat < k →
    ∃ t', f_md_spell_L53 k v2 v th t n out os = (n, th, t', n, out, os) ∧ ∀ j : Nat, t' j = if v.toInt ≤ j ∧ (j : Int) < os.toInt then out j else t j := by
  have z1 : (1 : Int32).toInt = 1 := by decide
  intro k
  induction k with
  | zero => intro v t h0 h1; omega
  | succ k ih =>
    intro v t h0 h1
    rw [f_md_spell_L53]
    by_cases c : os ≤ v
    · rw [if_pos c]
      rw [Int32.le_iff_toInt_le] at c
      exact ⟨t, rfl, fun j => by rw [if_neg (by omega)]⟩
    · rw [if_neg c]
      rw [Int32.le_iff_toInt_le] at c
      have e : (v + 1).toInt = v.toInt + 1 := by rw [pu_ia, z1]; omega
      have g1 : 0 ≤ (v + 1).toInt := by omega
      have g3 : (16 - (v + 1).toInt).toNat < k := by omega
      obtain ⟨t', p1, p2⟩ := ih (v + 1) (upd t v.toNatClampNeg (out v.toNatClampNeg)) g1 g3
      refine ⟨t', p1, fun j => ?_⟩
      rw [p2 j, e]
      unfold upd
      by_cases c1 : v.toInt + 1 ≤ (j : Int) ∧ (j : Int) < os.toInt
      · rw [if_pos c1, if_pos (by omega)]
      · rw [if_neg c1]
        by_cases c2 : j = v.toNatClampNeg
        · rw [if_pos c2, if_pos (by rw [c2, pu_tn]; omega), c2]
        · rw [if_neg c2, if_neg (by rw [pu_tn] at c2; omega)]
set_option maxRecDepth 16384 in
theorem pu_p_spell {ln tr : LnT} {rd : Int32} {td : TdT} {fm : FmT} {ps sp : PsT} {t b mv sg out : Nat → Int32} {n sd rt pa cl nu tl os m : Int32} (hl : pu_RL ln t n) (hp : pu_RP ps b sd rt pa cl nu) (h : pu_RT td b mv sg tl)
    {r' th n' os' : Int32} {t' out' : Nat → Int32} (e' : f_md_spell b t mv sg out n tl os m = (r', th, t', n', out', os')) :
    (f_td_indexOf td m = -1 ∧ th = 1 ∧ t' = t ∧ n' = n) ∨ (¬ f_td_indexOf td m = -1 ∧ th = 0 ∧ ∀ {r : Int32} {ln' : LnT}, f_gn_spell m ln tr rd td fm ps sp = (r, ln') → r = r' ∧ pu_RL ln' t' n') := by
  unfold f_md_spell at e'
  simp only [pu_bnd_k] at e'
  rcases pu_idx h m with ⟨j, j1, j2, j3, j4⟩ | ⟨j1, j2, j3⟩
  · have hh := h.hi
    have ej := pu_nat_ofn (k := j) (by omega)
    rw [j4, if_pos (by rw [Int32.le_iff_toInt_le, ej]; show (0 : Int) ≤ j; omega)] at e'
    have tj : (Int32.ofNat j).toNatClampNeg = j := by rw [pu_tn, ej]; omega
    rw [tj, ← j2] at e'
    have z : pu_RB2 (f_ln_clear ln) out 0 0 := ⟨⟨hl.zero _ _, by decide⟩, fun j hj => absurd hj (by simp)⟩
    have q1 := pu_spelling_eq h hp.bd j1 z
    have q2 := pu_sign_eq q1.a (by decide) (h.sr j j1)
    generalize f_md_spelling b mv out tl (mv j) = o1 at *
    generalize f_md_saySign o1.1 o1.2 (sg j) = o2 at *
    have qb := q2.b
    obtain ⟨t2, p1, p2⟩ := pu_spc_L (v2 := Int32.ofNat j) (th := 0) (n := o2.2) (os := o2.2) (out := o2.1) (by omega) 17 0 t (by decide) (by decide)
    rw [p1] at e'
    right
    refine ⟨?_, ?_, ?_⟩
    · rw [j3]; intro q; have := congrArg Int32.toInt q; rw [ej, pu_in1] at this; omega
    · cases e'; rfl
    · intro r ln' e
      unfold f_gn_spell at e
      simp only [pu_bnd_k] at e
      rw [j3, (pu_told_mv h j1).2] at e
      have e2 : (f_ln_size (if sg j ≤ 0 then f_td_addUnsigned td (f_ln_clear ln) (Int32.ofNat j) ps else f_ln_add (f_td_addUnsigned td (f_ln_clear ln) (Int32.ofNat j) ps) (f_gn_pick 5 (sg j - 1))), (if sg j ≤ 0 then f_td_addUnsigned td (f_ln_clear ln) (Int32.ofNat j) ps else f_ln_add (f_td_addUnsigned td (f_ln_clear ln) (Int32.ofNat j) ps) (f_gn_pick 5 (sg j - 1)))) = (r, ln') := by
        by_cases c : sg j ≤ 0
        · rw [if_pos c] at e ⊢; exact e
        · rw [if_neg c] at e ⊢; exact e
      generalize (if sg j ≤ 0 then f_td_addUnsigned td (f_ln_clear ln) (Int32.ofNat j) ps else f_ln_add (f_td_addUnsigned td (f_ln_clear ln) (Int32.ofNat j) ps) (f_gn_pick 5 (sg j - 1))) = X at *
      cases e2
      have q3 := q2.r
      cases e'
      have z0 : (0 : Int32).toInt = 0 := by decide
      have tt : ∀ i : Nat, (i : Int) < o2.2.toInt → t' i = o2.1 i := fun i hi => by rw [p2 i, if_pos (by rw [z0]; omega)]
      exact ⟨q3.sz, q3.sz, q3.lo, q3.hi, fun i hi => (q3.eq i hi).trans (tt i hi).symm, fun i hi => by rw [tt i hi]; exact q3.ch i hi⟩
  · rw [j3, if_neg (by decide)] at e'
    cases e'
    exact .inl ⟨j2, rfl, rfl, rfl⟩
