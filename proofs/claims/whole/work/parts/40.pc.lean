theorem pu_letter_eq {L : LnT} {t : Nat → Int32} {n a : Int32} (h : pu_RL L t n) (h0 : 0 ≤ a.toInt) : f_ln_letter L a = f_md_peek t n a := by
  unfold f_ln_letter f_md_peek
  rw [if_neg (by clear h; (simp only [Int32.lt_iff_toInt_lt, Int32.le_iff_toInt_le, ← Int32.toInt_inj, pu_ia, pu_isb, pu_im, pu_tn, pu_in1, pu_in2, pu_in3, pu_in4, pu_in8, Int32.reduceToInt, Int.reduceNeg, ne_eq] at *; omega)), h.sz]
  by_cases c : n ≤ a
  · rw [if_pos c, if_pos c]
  · rw [if_neg c, if_neg c]; exact h.eq _ (by clear h; (simp only [Int32.lt_iff_toInt_lt, Int32.le_iff_toInt_le, ← Int32.toInt_inj, pu_ia, pu_isb, pu_im, pu_tn, pu_in1, pu_in2, pu_in3, pu_in4, pu_in8, Int32.reduceToInt, Int.reduceNeg, ne_eq] at *; omega))
theorem pu_peek_rg {L : LnT} {t : Nat → Int32} {n a : Int32} (h : pu_RL L t n) (h0 : 0 ≤ a.toInt) : 0 ≤ (f_md_peek t n a).toInt ∧ (f_md_peek t n a).toInt ≤ 126 := by
  unfold f_md_peek
  by_cases c : n ≤ a
  · rw [if_pos c]; decide
  · rw [if_neg c]; exact h.ch _ (by clear h; (simp only [Int32.lt_iff_toInt_lt, Int32.le_iff_toInt_le, ← Int32.toInt_inj, pu_ia, pu_isb, pu_im, pu_tn, pu_in1, pu_in2, pu_in3, pu_in4, pu_in8, Int32.reduceToInt, Int.reduceNeg, ne_eq] at *; omega))
theorem pu_peek_lt {t : Nat → Int32} {n a : Int32} (h : f_md_peek t n a ≠ 0) : a.toInt < n.toInt := by
  unfold f_md_peek at h
  by_cases c : n ≤ a
  · rw [if_pos c] at h; exact absurd rfl h
  · clear h; (simp only [Int32.lt_iff_toInt_lt, Int32.le_iff_toInt_le, ← Int32.toInt_inj, pu_ia, pu_isb, pu_im, pu_tn, pu_in1, pu_in2, pu_in3, pu_in4, pu_in8, Int32.reduceToInt, Int.reduceNeg, ne_eq] at *; omega)
theorem pu_pass_eq {L : LnT} {t : Nat → Int32} {n a : Int32} (h : pu_RL L t n) (h0 : 0 ≤ a.toInt) (ch : Int32) : f_rd_passes a L ch = f_md_eat t n a ch := by
  unfold f_rd_passes f_md_eat
  rw [pu_letter_eq h h0]
theorem pu_eat_cases {L : LnT} {t : Nat → Int32} {n a ch : Int32} (h : pu_RL L t n) (h0 : 0 ≤ a.toInt) (hc : ch ≠ 0) :
    (f_md_peek t n a ≠ ch ∧ f_md_eat t n a ch = (0, a)) ∨ (f_md_peek t n a = ch ∧ f_md_eat t n a ch = (1, a + 1) ∧ (a + 1).toInt = a.toInt + 1 ∧ a.toInt < n.toInt) := by
  unfold f_md_eat
  rw [bnd_s rfl]
  by_cases c : f_md_peek t n a = ch
  · rw [if_pos c]
    have := pu_peek_lt (t := t) (n := n) (a := a) (by rw [c]; exact hc)
    have := h.hi
    exact .inr ⟨c, rfl, by clear c h; (simp only [Int32.lt_iff_toInt_lt, Int32.le_iff_toInt_le, ← Int32.toInt_inj, pu_ia, pu_isb, pu_im, pu_tn, pu_in1, pu_in2, pu_in3, pu_in4, pu_in8, Int32.reduceToInt, Int.reduceNeg, ne_eq] at *; omega), by assumption⟩
  · rw [if_neg c]; exact .inl ⟨c, rfl⟩
theorem pu_side_eq {L : LnT} {t : Nat → Int32} {n a : Int32} (h : pu_RL L t n) (h0 : 0 ≤ a.toInt) (_ha : a.toInt ≤ n.toInt) (P : PsT) :
    (∃ R' P', f_rd_readSide a P L = (0, R', P') ∧ ∃ u, f_md_eat t n a 119 = (0, u) ∧ ∃ w, f_md_eat t n u 98 = (0, w)) ∨
    (∃ s : Int32, (s = 0 ∨ s = 1) ∧ (a + 1).toInt = a.toInt + 1 ∧ (a + 1).toInt ≤ n.toInt ∧ f_rd_readSide a P L = (1, a + 1, (P.1, s, P.2.2.1, P.2.2.2.1, P.2.2.2.2.1, P.2.2.2.2.2)) ∧
      ((s = 0 ∧ f_md_peek t n a ≠ 98 ∧ f_md_eat t n a 119 = (1, a + 1)) ∨ (s = 1 ∧ f_md_peek t n a = 98 ∧ f_md_eat t n a 119 = (0, a) ∧ f_md_eat t n a 98 = (1, a + 1)))) := by
  unfold f_rd_readSide
  rw [pu_pass_eq h h0]
  rcases pu_eat_cases (ch := 98) h h0 (by decide) with ⟨c1, e1⟩ | ⟨c1, e1, e2, e3⟩
  · rw [e1]
    unfold bnd2; dsimp only
    rw [if_pos rfl, pu_pass_eq h h0]
    rcases pu_eat_cases (ch := 119) h h0 (by decide) with ⟨c3, e4⟩ | ⟨c3, e4, e5, e6⟩
    · rw [e4]
      exact .inl ⟨_, _, if_pos rfl, _, rfl, _, e1⟩
    · rw [e4]
      exact .inr ⟨0, .inl rfl, e5, by omega, if_neg (show ¬ (1 : Int32) = 0 by decide), .inl ⟨rfl, c1, rfl⟩⟩
  · rw [e1]
    unfold bnd2; dsimp only
    rw [if_neg (show ¬ (1 : Int32) = 0 by decide)]
    rcases pu_eat_cases (ch := 119) h h0 (by decide) with ⟨c3, e4⟩ | ⟨c3, e4, e5, e6⟩
    · exact .inr ⟨1, .inr rfl, e2, by omega, rfl, .inr ⟨rfl, c1, e4, rfl⟩⟩
    · rw [c1] at c3; exact absurd c3 (by decide)
theorem pu_right1 {L : LnT} {t : Nat → Int32} {n a : Int32} (h : pu_RL L t n) (h0 : 0 ≤ a.toInt) (ha : a.toInt ≤ n.toInt) {ch : Int32} (hc : ch ≠ 0) : ∃ a' r : Int32, f_rd_passes a L ch = (r, a') ∧ f_md_eat t n a ch = (r, a') ∧ (r = 0 ∨ r = 1) ∧ 0 ≤ a'.toInt ∧ a'.toInt ≤ n.toInt := by
  rw [pu_pass_eq h h0]
  rcases pu_eat_cases h h0 hc with ⟨c3, e4⟩ | ⟨c3, e4, e5, e6⟩
  · exact ⟨a, 0, e4, e4, .inl rfl, h0, ha⟩
  · exact ⟨a + 1, 1, e4, e4, .inr rfl, by omega, by omega⟩
theorem pu_rights_eq {L : LnT} {t : Nat → Int32} {n a : Int32} (h : pu_RL L t n) (h0 : 0 ≤ a.toInt) (ha : a.toInt ≤ n.toInt) (P : PsT) :
    ∃ a' r q : Int32, (r = 0 ∨ r = 1) ∧ f_rd_readRights a P L = (r, a', (P.1, P.2.1, q, P.2.2.2.1, P.2.2.2.2.1, P.2.2.2.2.2)) ∧ f_md_readRights t n a = (r, q, a') ∧ 0 ≤ a'.toInt ∧ a'.toInt ≤ n.toInt ∧ 0 ≤ q.toInt ∧ q.toInt ≤ 15 := by
  unfold f_rd_readRights f_md_readRights
  obtain ⟨a1, r1, e1, e2, hr1, p1, p2⟩ := pu_right1 h h0 ha (ch := 45) (by decide)
  rw [e1, e2]
  unfold bnd2; dsimp only
  rcases hr1 with rfl | rfl
  rotate_left
  · exact ⟨a1, 1, 0, .inr rfl, if_neg (by decide), if_neg (by decide), p1, p2, by decide, by decide⟩
  rw [if_pos rfl, if_pos rfl]
  have l4 : f_st_length 2 = 4 := by decide
  have k0 : f_gn_pick 2 0 = 75 := by decide
  have k1 : f_gn_pick 2 1 = 81 := by decide
  have k2 : f_gn_pick 2 2 = 107 := by decide
  have k3 : f_gn_pick 2 3 = 113 := by decide
  have j1 : (0 : Int32) + 1 = 1 := by decide
  have j2 : (1 : Int32) + 1 = 2 := by decide
  have j3 : (2 : Int32) + 1 = 3 := by decide
  have j4 : (3 : Int32) + 1 = 4 := by decide
  have s0 : (1 : Int32) <<< ((0 : Int32) &&& 31) = 1 := by decide
  have s1 : (1 : Int32) <<< ((1 : Int32) &&& 31) = 2 := by decide
  have s2 : (1 : Int32) <<< ((2 : Int32) &&& 31) = 4 := by decide
  have s3 : (1 : Int32) <<< ((3 : Int32) &&& 31) = 8 := by decide
  have f0 : ¬ (4 : Int32) ≤ 0 := by decide
  have f1 : ¬ (4 : Int32) ≤ 1 := by decide
  have f2 : ¬ (4 : Int32) ≤ 2 := by decide
  have f3 : ¬ (4 : Int32) ≤ 3 := by decide
  have f4 : (4 : Int32) ≤ 4 := by decide
  have n1 : ¬ (1 : Int32) = 0 := by decide
  have st : ∀ (k : Nat) (v Rw : Int32) (Pw : PsT) (q b : Int32), ¬ (4 : Int32) ≤ v → f_rd_passes Rw L (f_gn_pick 2 v) = (q, b) → f_rd_readRights_L19 L (k + 1) v Rw Pw = f_rd_readRights_L19 L k (v + 1) b (Pw.1, Pw.2.1, Pw.2.2.1 + (if q = 0 then 0 else (1 : Int32) <<< (v &&& 31)), Pw.2.2.2.1, Pw.2.2.2.2.1, Pw.2.2.2.2.2) := by
    intro k v Rw Pw q b hv hp
    rw [f_rd_readRights_L19, l4, bnd_s rfl, if_neg hv, bnd_s rfl, hp]
    unfold bnd2; dsimp only
    by_cases c : q = 0
    · rw [if_pos c, if_pos c, Int32.add_zero]
    · rw [if_neg c, if_neg c]
  obtain ⟨b1, q1, pu_u1, w1, hq1, o1, o2⟩ := pu_right1 h p1 p2 (ch := 75) (by decide)
  obtain ⟨b2, q2, u2, w2, hq2, o3, o4⟩ := pu_right1 h o1 o2 (ch := 81) (by decide)
  obtain ⟨b3, q3, u3, w3, hq3, o5, o6⟩ := pu_right1 h o3 o4 (ch := 107) (by decide)
  obtain ⟨b4, q4, u4, w4, hq4, o7, o8⟩ := pu_right1 h o5 o6 (ch := 113) (by decide)
  rw [w1]
  unfold f_md_readRights_C35 f_md_readRights_C58 f_md_readRights_C81 f_md_readRights_C105
  unfold bnd2; dsimp only
  rw [w2]; dsimp only
  rw [w3]; dsimp only
  rw [w4]; dsimp only
  refine ⟨b4, if ((0 : Int32) + (if q1 = 0 then 0 else 1) + (if q2 = 0 then 0 else 2) + (if q3 = 0 then 0 else 4) + (if q4 = 0 then 0 else 8)) = 0 then 0 else 1, (0 : Int32) + (if q1 = 0 then 0 else 1) + (if q2 = 0 then 0 else 2) + (if q3 = 0 then 0 else 4) + (if q4 = 0 then 0 else 8), ?_, ?_, ?_, o7, o8, ?_⟩
  · rcases hq1 with rfl | rfl <;> rcases hq2 with rfl | rfl <;> rcases hq3 with rfl | rfl <;> rcases hq4 with rfl | rfl <;> decide
  · rw [st 100 0 _ _ q1 b1 f0 (by rw [k0]; exact pu_u1), j1, s0, st 99 1 _ _ q2 b2 f1 (by rw [k1]; exact u2), j2, s1, st 98 2 _ _ q3 b3 f2 (by rw [k2]; exact u3), j3, s2, st 97 3 _ _ q4 b4 f3 (by rw [k3]; exact u4), j4, s3]
    rw [f_rd_readRights_L19, l4, bnd_s rfl, if_pos f4]
    dsimp only
    generalize ((0 : Int32) + (if q1 = 0 then 0 else 1) + (if q2 = 0 then 0 else 2) + (if q3 = 0 then 0 else 4) + (if q4 = 0 then 0 else 8)) = q
    by_cases c : q = 0
    · rw [if_pos c, if_pos c]
    · rw [if_neg c, if_neg c]
  · rcases hq1 with rfl | rfl <;> rcases hq2 with rfl | rfl <;> rcases hq3 with rfl | rfl <;> rcases hq4 with rfl | rfl <;> rfl
  · rcases hq1 with rfl | rfl <;> rcases hq2 with rfl | rfl <;> rcases hq3 with rfl | rfl <;> rcases hq4 with rfl | rfl <;> decide
theorem pu_fi_ch {c : Int32} (h0 : 0 ≤ c.toInt) (h1 : c.toInt ≤ 126) : f_st_indexOf 3 c = if 97 ≤ c ∧ c ≤ 104 then c - 97 else -1 :=
  pu_all_rg (P := fun c => f_st_indexOf 3 c = if 97 ≤ c ∧ c ≤ 104 then c - 97 else -1) 127 (by decide +kernel) h0 (by omega)
theorem pu_rk_ch {c : Int32} (h0 : 0 ≤ c.toInt) (h1 : c.toInt ≤ 126) : f_st_indexOf 0 c = if 49 ≤ c ∧ c ≤ 56 then c - 49 else -1 :=
  pu_all_rg (P := fun c => f_st_indexOf 0 c = if 49 ≤ c ∧ c ≤ 56 then c - 49 else -1) 127 (by decide +kernel) h0 (by omega)
theorem pu_mn_ch {c : Int32} (h0 : 0 ≤ c.toInt) (h1 : c.toInt ≤ 126) : f_st_indexOf 1 c + 1 = f_md_manOf c ∧ 0 ≤ (f_md_manOf c).toInt ∧ (f_md_manOf c).toInt ≤ 12 ∧ ((f_md_manOf c).toInt ≠ 0 → c ≠ 0) :=
  pu_all_rg (P := fun c => f_st_indexOf 1 c + 1 = f_md_manOf c ∧ 0 ≤ (f_md_manOf c).toInt ∧ (f_md_manOf c).toInt ≤ 12 ∧ ((f_md_manOf c).toInt ≠ 0 → c ≠ 0)) 127 (by decide +kernel) h0 (by omega)
theorem pu_passant_eq {L : LnT} {t : Nat → Int32} {n a : Int32} (h : pu_RL L t n) (h0 : 0 ≤ a.toInt) (ha : a.toInt ≤ n.toInt) (P : PsT) (hs : P.2.1 = 0 ∨ P.2.1 = 1) :
    (∃ R' P', f_rd_readPassant a P L = (0, R', P') ∧ ∃ x y, f_md_readPassant t n a P.2.1 = (0, x, y)) ∨
    (∃ a' q : Int32, f_rd_readPassant a P L = (1, a', (P.1, P.2.1, P.2.2.1, q, P.2.2.2.2.1, P.2.2.2.2.2)) ∧ f_md_readPassant t n a P.2.1 = (1, q, a') ∧ 0 ≤ a'.toInt ∧ a'.toInt ≤ n.toInt ∧ -1 ≤ q.toInt ∧ q.toInt ≤ 7) := by
  unfold f_rd_readPassant f_md_readPassant
  obtain ⟨a1, r1, e1, e2, hr1, p1, p2⟩ := pu_right1 h h0 ha (ch := 45) (by decide)
  rw [e1, e2]
  unfold bnd2; dsimp only
  rcases hr1 with rfl | rfl
  rotate_left
  · exact .inr ⟨a1, -1, if_neg (by decide), if_neg (by decide), p1, p2, by decide, by decide⟩
  rw [if_pos rfl, if_pos rfl]
  unfold bnd; dsimp only
  rw [pu_letter_eq h p1]
  obtain ⟨c0, c1⟩ := pu_peek_rg h p1
  have hn := h.hi
  have hlt : f_md_peek t n a1 ≠ 0 → a1.toInt < n.toInt := pu_peek_lt
  generalize f_md_peek t n a1 = c at *
  rw [pu_fi_ch c0 c1]
  by_cases d : 97 ≤ c ∧ c ≤ 104
  · have d1 := d.1; have d2 := d.2
    have l1 := hlt (by clear h hlt e1 e2 hs; (simp only [Int32.lt_iff_toInt_lt, Int32.le_iff_toInt_le, ← Int32.toInt_inj, pu_ia, pu_isb, pu_im, pu_tn, pu_in1, pu_in2, pu_in3, pu_in4, pu_in8, Int32.reduceToInt, Int.reduceNeg, ne_eq] at *; omega))
    have e3 : (a1 + 1).toInt = a1.toInt + 1 := by clear h hlt e1 e2 hs; (simp only [Int32.lt_iff_toInt_lt, Int32.le_iff_toInt_le, ← Int32.toInt_inj, pu_ia, pu_isb, pu_im, pu_tn, pu_in1, pu_in2, pu_in3, pu_in4, pu_in8, Int32.reduceToInt, Int.reduceNeg, ne_eq] at *; omega)
    have e4 : (c - 97).toInt = c.toInt - 97 := by clear h hlt e1 e2 hs d; (simp only [Int32.lt_iff_toInt_lt, Int32.le_iff_toInt_le, ← Int32.toInt_inj, pu_ia, pu_isb, pu_im, pu_tn, pu_in1, pu_in2, pu_in3, pu_in4, pu_in8, Int32.reduceToInt, Int.reduceNeg, ne_eq] at *; omega)
    have e5 : 97 ≤ c.toInt ∧ c.toInt ≤ 104 := by clear h hlt e1 e2 hs d; constructor <;> (simp only [Int32.lt_iff_toInt_lt, Int32.le_iff_toInt_le, ← Int32.toInt_inj, pu_ia, pu_isb, pu_im, pu_tn, pu_in1, pu_in2, pu_in3, pu_in4, pu_in8, Int32.reduceToInt, Int.reduceNeg, ne_eq] at *; omega)
    simp only [if_pos d]
    rw [if_neg (show ¬ c - 97 < 0 by clear h hlt e1 e2 hs d; (simp only [Int32.lt_iff_toInt_lt, Int32.le_iff_toInt_le, ← Int32.toInt_inj, pu_ia, pu_isb, pu_im, pu_tn, pu_in1, pu_in2, pu_in3, pu_in4, pu_in8, Int32.reduceToInt, Int.reduceNeg, ne_eq] at *; omega)), if_neg (show ¬ c - 97 < 0 by clear h hlt e1 e2 hs d; (simp only [Int32.lt_iff_toInt_lt, Int32.le_iff_toInt_le, ← Int32.toInt_inj, pu_ia, pu_isb, pu_im, pu_tn, pu_in1, pu_in2, pu_in3, pu_in4, pu_in8, Int32.reduceToInt, Int.reduceNeg, ne_eq] at *; omega)), if_neg (show ¬ 8 ≤ c - 97 by clear h hlt e1 e2 hs d; (simp only [Int32.lt_iff_toInt_lt, Int32.le_iff_toInt_le, ← Int32.toInt_inj, pu_ia, pu_isb, pu_im, pu_tn, pu_in1, pu_in2, pu_in3, pu_in4, pu_in8, Int32.reduceToInt, Int.reduceNeg, ne_eq] at *; omega))]
    rcases hs with hs | hs
    · rw [hs]
      have e6 : f_gn_passantRank 0 = 54 := by decide
      obtain ⟨a2, r2, pu_u1, u2, hr2, p3, p4⟩ := pu_right1 h (a := a1 + 1) (by omega) (by omega) (ch := 54) (by decide)
      rw [e6, pu_u1, u2, if_pos rfl]; dsimp only
      rcases hr2 with rfl | rfl
      · exact .inl ⟨_, _, if_pos rfl, _, _, if_pos rfl⟩
      · exact .inr ⟨a2, c - 97, if_neg (by decide), if_neg (by decide), p3, p4, by omega, by omega⟩
    · rw [hs]
      have e6 : f_gn_passantRank 1 = 51 := by decide
      obtain ⟨a2, r2, pu_u1, u2, hr2, p3, p4⟩ := pu_right1 h (a := a1 + 1) (by omega) (by omega) (ch := 51) (by decide)
      rw [e6, pu_u1, u2, if_neg (show ¬ (1 : Int32) = 0 by decide)]; dsimp only
      rcases hr2 with rfl | rfl
      · exact .inl ⟨_, _, if_pos rfl, _, _, if_pos rfl⟩
      · exact .inr ⟨a2, c - 97, if_neg (by decide), if_neg (by decide), p3, p4, by omega, by omega⟩
  · simp only [if_neg d]
    refine .inl ⟨_, _, if_pos (by decide), ?_⟩
    by_cases d1 : c - 97 < 0
    · rw [if_pos d1]; exact ⟨_, _, rfl⟩
    · rw [if_neg d1]
      have d3 : ¬ (97 ≤ c.toInt ∧ c.toInt ≤ 104) := by rw [Int32.le_iff_toInt_le, Int32.le_iff_toInt_le] at d; exact d
      rw [if_pos (show 8 ≤ c - 97 by clear h hlt e1 e2 hs d; (simp only [Int32.lt_iff_toInt_lt, Int32.le_iff_toInt_le, ← Int32.toInt_inj, pu_ia, pu_isb, pu_im, pu_tn, pu_in1, pu_in2, pu_in3, pu_in4, pu_in8, Int32.reduceToInt, Int.reduceNeg, ne_eq] at *; omega))]; exact ⟨_, _, rfl⟩
def pu_nfin (L : LnT) (most v3 v4 Rw : Int32) : Int32 × Int32 := (if (Rw - v3) ≤ (1 : Int32) then (if (Rw - v3) = 0 then ((-1 : Int32), Rw) else (if v4 ≤ most then (v4, Rw) else ((-1 : Int32), Rw))) else (bnd (f_ln_letter L v3) (fun r_5 => (if r_5 = (48 : Int32) then (if (Rw - v3) = 0 then ((-1 : Int32), Rw) else ((-1 : Int32), Rw)) else (if (Rw - v3) = 0 then ((-1 : Int32), Rw) else (if v4 ≤ most then (v4, Rw) else ((-1 : Int32), Rw)))))))
theorem pu_num_st (L : LnT) (most : Int32) (k : Nat) (v3 v4 v5 Rw : Int32) : f_rd_readNumber_L11 L most (k + 1) v3 v4 v5 Rw = if (5 : Int32) ≤ v5 then pu_nfin L most v3 v4 Rw else if f_rd_isDigit (f_ln_letter L Rw) = 0 then pu_nfin L most v3 v4 Rw else f_rd_readNumber_L11 L most k v3 ((v4 * (10 : Int32)) + (f_ln_letter L Rw - (48 : Int32))) (v5 + (1 : Int32)) (Rw + (1 : Int32)) := by
  rw [f_rd_readNumber_L11]; rfl
theorem pu_nfin_eq {L : LnT} {most a v Rw : Int32} {i : Int} (h0 : 0 ≤ i) (h1 : i ≤ 5) (_ha : 0 ≤ a.toInt ∧ a.toInt ≤ 100) (hr : Rw.toInt = a.toInt + i) :
    pu_nfin L most a v Rw = if i = 0 then (-1, Rw) else if 2 ≤ i ∧ f_ln_letter L a = 48 then (-1, Rw) else if v ≤ most then (v, Rw) else (-1, Rw) := by
  have e : (Rw - a).toInt = i := by rw [pu_isb]; omega
  have z1 : (1 : Int32).toInt = 1 := by decide
  have z0 : (0 : Int32).toInt = 0 := by decide
  unfold pu_nfin bnd
  simp only [Int32.le_iff_toInt_le (x := Rw - a), pu_eq_i (x := Rw - a), e, z1, z0]
  generalize f_ln_letter L a = q
  by_cases c : i = 0
  · have c1 : i ≤ 1 := by omega
    simp only [if_pos c, if_pos c1]
  · simp only [if_neg c]
    by_cases c1 : i ≤ 1
    · have c3 : ¬ (2 ≤ i ∧ q = 48) := fun w => by have := w.1; omega
      simp only [if_pos c1, if_neg c3]
    · simp only [if_neg c1]
      by_cases c2 : q = 48
      · have c3 : 2 ≤ i ∧ q = 48 := ⟨by omega, c2⟩
        simp only [if_pos c2, if_pos c3]
      · have c3 : ¬ (2 ≤ i ∧ q = 48) := fun w => c2 w.2
        simp only [if_neg c2, if_neg c3]
theorem pu_dig_iff {c : Int32} (h0 : 0 ≤ c.toInt) (h1 : c.toInt ≤ 126) : (f_rd_isDigit c = 0 ↔ ¬ (48 ≤ c.toInt ∧ c.toInt ≤ 57)) ∧ f_md_isDigit c = f_rd_isDigit c := by
  refine ⟨?_, rfl⟩
  unfold f_rd_isDigit
  have z1 : (48 : Int32).toInt = 48 := by decide
  have z0 : (57 : Int32).toInt = 57 := by decide
  simp only [Int32.lt_iff_toInt_lt, z1, z0]
  by_cases c1 : c.toInt < 48
  · rw [if_pos c1]; simp; omega
  · rw [if_neg c1]
    by_cases c2 : 57 < c.toInt
    · rw [if_pos c2]; simp; omega
    · rw [if_neg c2]; simp; omega
theorem pu_num_step {v c : Int32} (v0 : 0 ≤ v.toInt) (v1 : v.toInt < 100000) (c0 : 48 ≤ c.toInt) (c1 : c.toInt ≤ 57) : (v * 10 + (c - 48)).toInt = 10 * v.toInt + (c.toInt - 48) ∧ 10 * v + c - 48 = v * 10 + (c - 48) := by
  have e : (v * 10 + (c - 48)).toInt = 10 * v.toInt + (c.toInt - 48) := by (simp only [Int32.lt_iff_toInt_lt, Int32.le_iff_toInt_le, ← Int32.toInt_inj, pu_ia, pu_isb, pu_im, pu_tn, pu_in1, pu_in2, pu_in3, pu_in4, pu_in8, Int32.reduceToInt, Int.reduceNeg, ne_eq] at *; omega)
  refine ⟨e, ?_⟩
  apply Int32.toInt_inj.mp
  rw [e]
  clear e
  (simp only [Int32.lt_iff_toInt_lt, Int32.le_iff_toInt_le, ← Int32.toInt_inj, pu_ia, pu_isb, pu_im, pu_tn, pu_in1, pu_in2, pu_in3, pu_in4, pu_in8, Int32.reduceToInt, Int.reduceNeg, ne_eq] at *; omega)
theorem pu_num_tail {L : LnT} {t : Nat → Int32} {n a most : Int32} (h : pu_RL L t n) (h0 : 0 ≤ a.toInt) (hm : 0 ≤ most.toInt) : ∀ (j i k : Nat) (v at' : Int32), i + j = 5 → j < k → at'.toInt = a.toInt + i → at'.toInt ≤ n.toInt → 2 ≤ i → 0 ≤ v.toInt → v.toInt < 10 ^ i → (f_md_peek t n a = 48 ∨ most.toInt < v.toInt) →
    (f_rd_readNumber_L11 L most k a v (Int32.ofNat i) at').1 = -1 := by
  have hn := h.hi
  intro j
  induction j with
  | zero =>
    intro i k v at' hi hk ha hn' h2 v0 v1 hb
    obtain ⟨k, rfl⟩ : ∃ k', k = k' + 1 := ⟨k - 1, by omega⟩
    have : i = 5 := by omega
    subst this
    rw [pu_num_st, if_pos (by decide), pu_nfin_eq (i := 5) (by omega) (by omega) (by omega) (by omega), if_neg (by omega), pu_letter_eq h h0]
    rcases hb with hb | hb
    · rw [if_pos ⟨by omega, hb⟩]
    · by_cases c : (2 : Int) ≤ 5 ∧ f_md_peek t n a = 48
      · rw [if_pos c]
      · rw [if_neg c, if_neg (by rw [Int32.le_iff_toInt_le]; omega)]
  | succ j ih =>
    intro i k v at' hi hk ha hn' h2 v0 v1 hb
    obtain ⟨k, rfl⟩ : ∃ k', k = k' + 1 := ⟨k - 1, by omega⟩
    have ei : (Int32.ofNat i).toInt = i := pu_nat_ofn (by omega)
    have z5 : (5 : Int32).toInt = 5 := by decide
    have ep : (10 : Int) ^ (i + 1) = 10 * 10 ^ i := by rw [Int.pow_succ]; omega
    have hp : (10 : Int) ^ i ≤ 10000 := by
      have : i = 2 ∨ i = 3 ∨ i = 4 := by omega
      rcases this with rfl | rfl | rfl <;> decide
    have fin : (pu_nfin L most a v at').1 = -1 := by
      rw [pu_nfin_eq (i := i) (by omega) (by omega) (by omega) ha, if_neg (by omega), pu_letter_eq h h0]
      rcases hb with hb | hb
      · rw [if_pos ⟨by omega, hb⟩]
      · by_cases c : (2 : Int) ≤ i ∧ f_md_peek t n a = 48
        · rw [if_pos c]
        · rw [if_neg c, if_neg (by rw [Int32.le_iff_toInt_le]; omega)]
    rw [pu_num_st, if_neg (by rw [Int32.le_iff_toInt_le, ei, z5]; omega), pu_letter_eq h (by omega)]
    obtain ⟨c0, c1⟩ := pu_peek_rg h (a := at') (by omega)
    have hlt : f_md_peek t n at' ≠ 0 → at'.toInt < n.toInt := pu_peek_lt
    generalize f_md_peek t n at' = c at *
    by_cases d : f_rd_isDigit c = 0
    · rw [if_pos d]; exact fin
    · rw [if_neg d]
      have dd : 48 ≤ c.toInt ∧ c.toInt ≤ 57 := Decidable.not_not.mp fun q => d ((pu_dig_iff c0 c1).1.mpr q)
      have l1 := hlt (by rintro rfl; revert dd; decide)
      obtain ⟨s1, s2⟩ := pu_num_step v0 (by omega) dd.1 dd.2
      have ej : Int32.ofNat i + 1 = Int32.ofNat (i + 1) := by rw [Int32.ofNat_add]; rfl
      have ea : (at' + 1).toInt = a.toInt + ((i + 1 : Nat) : Int) := by
        have : (1 : Int32).toInt = 1 := by decide
        rw [pu_ia, this]; omega
      rw [ej]
      exact ih (i + 1) k _ (at' + 1) (by omega) (by omega) ea (by omega) (by omega) (by omega) (by omega) (by rcases hb with hb | hb; exact .inl hb; right; omega)
theorem pu_num_L {L : LnT} {t : Nat → Int32} {n a most d : Int32} (h : pu_RL L t n) (h0 : 0 ≤ a.toInt) (hd : (most = 999 ∧ d = 3) ∨ (most = 9999 ∧ d = 4)) : ∀ (j i k k' : Nat) (v at' : Int32), i + j = 5 → j < k → j < k' → at'.toInt = a.toInt + i → at'.toInt ≤ n.toInt → 0 ≤ v.toInt → v.toInt < 10 ^ i → (i = 0 ∨ f_md_peek t n a = 48 ∨ (10 : Int) ^ (i - 1) ≤ v.toInt) → (i : Int) ≤ d.toInt + 1 →
    ((f_rd_readNumber_L11 L most k a v (Int32.ofNat i) at').1 = -1 ∧ (f_md_readNumber_L10 t n d k' v (Int32.ofNat i) (f_md_peek t n a) at').1 = -1) ∨
    (∃ w a' : Int32, f_rd_readNumber_L11 L most k a v (Int32.ofNat i) at' = (w, a') ∧ f_md_readNumber_L10 t n d k' v (Int32.ofNat i) (f_md_peek t n a) at' = (w, a') ∧ 0 ≤ w.toInt ∧ w.toInt ≤ most.toInt ∧ 0 ≤ a'.toInt ∧ a'.toInt ≤ n.toInt) := by
  have hn := h.hi
  have hdt : (most.toInt = 999 ∧ d.toInt = 3) ∨ (most.toInt = 9999 ∧ d.toInt = 4) := by
    rcases hd with ⟨rfl, rfl⟩ | ⟨rfl, rfl⟩
    · left; decide
    · right; decide
  intro j
  induction j with
  | zero =>
    intro i k k' v at' hi hk hk' ha hn' v0 v1 hb hid
    obtain ⟨k, rfl⟩ : ∃ k', k = k' + 1 := ⟨k - 1, by omega⟩
    obtain ⟨k', rfl⟩ : ∃ k'', k' = k'' + 1 := ⟨k' - 1, by omega⟩
    have : i = 5 := by omega
    subst this
    refine .inl ⟨?_, ?_⟩
    · refine pu_num_tail h h0 (by omega) 0 5 _ v at' (by omega) (by omega) (by omega) hn' (by omega) v0 v1 ?_
      rcases hb with hb | hb | hb
      · omega
      · exact .inl hb
      · right; have : (10 : Int) ^ (5 - 1) = 10000 := by decide
        omega
    · have z5 : (Int32.ofNat 5) = 5 := by decide
      have c4 : d < 5 := by rw [Int32.lt_iff_toInt_lt]; show d.toInt < 5; omega
      rw [f_md_readNumber_L10, bnd_s rfl, bnd_s rfl, z5]
      by_cases c : f_md_isDigit (f_md_peek t n at') = 0
      · rw [if_pos c, if_neg (by decide), if_pos c4]
      · rw [if_neg c, if_pos c4, if_neg (by decide)]
  | succ j ih =>
    intro i k k' v at' hi hk hk' ha hn' v0 v1 hb hid
    obtain ⟨k, rfl⟩ : ∃ k', k = k' + 1 := ⟨k - 1, by omega⟩
    obtain ⟨k', rfl⟩ : ∃ k'', k' = k'' + 1 := ⟨k' - 1, by omega⟩
    have ei : (Int32.ofNat i).toInt = i := pu_nat_ofn (by omega)
    have z5 : (5 : Int32).toInt = 5 := by decide
    have z0 : (0 : Int32).toInt = 0 := by decide
    have z1 : (1 : Int32).toInt = 1 := by decide
    have ep : (10 : Int) ^ (i + 1) = 10 * 10 ^ i := by rw [Int.pow_succ]; omega
    have hp : (10 : Int) ^ i ≤ 10000 := by
      have : i = 0 ∨ i = 1 ∨ i = 2 ∨ i = 3 ∨ i = 4 := by omega
      rcases this with rfl | rfl | rfl | rfl | rfl <;> decide
    rw [pu_num_st, if_neg (by rw [Int32.le_iff_toInt_le, ei, z5]; omega), pu_letter_eq h (by omega), f_md_readNumber_L10, bnd_s rfl, bnd_s rfl, bnd_s rfl]
    obtain ⟨c0, c1⟩ := pu_peek_rg h (a := at') (by omega)
    have hlt : f_md_peek t n at' ≠ 0 → at'.toInt < n.toInt := pu_peek_lt
    generalize hpc : f_md_peek t n at' = c at *
    rw [(pu_dig_iff c0 c1).2]
    by_cases hg : f_rd_isDigit c = 0
    · rw [if_pos hg, if_pos hg, pu_nfin_eq (i := i) (by omega) (by omega) (by omega) ha, pu_letter_eq h h0]
      simp only [Int32.le_iff_toInt_le, Int32.lt_iff_toInt_lt, pu_eq_i (x := Int32.ofNat i), ei, z0, z1]
      by_cases i0 : i = 0
      · rw [if_pos (show (i : Int) = 0 by omega), if_pos (show (i : Int) ≤ 0 by omega)]
        exact .inl ⟨rfl, rfl⟩
      rw [if_neg (show ¬ (i : Int) = 0 by omega), if_neg (show ¬ (i : Int) ≤ 0 by omega)]
      by_cases i1 : d.toInt < i
      · rw [if_pos i1]
        left
        refine ⟨?_, rfl⟩
        by_cases c4 : (2 : Int) ≤ i ∧ f_md_peek t n a = 48
        · rw [if_pos c4]
        rw [if_neg c4, if_neg]
        rcases hb with hb | hb | hb
        · omega
        · exact absurd ⟨by omega, hb⟩ c4
        · rcases hdt with ⟨q1, q2⟩ | ⟨q1, q2⟩
          · have : i = 4 := by omega
            subst this
            have : (10 : Int) ^ (4 - 1) = 1000 := by decide
            omega
          · omega
      rw [if_neg i1]
      have hv : v.toInt ≤ most.toInt := by
        rcases hdt with ⟨q1, q2⟩ | ⟨q1, q2⟩
        · have : i = 1 ∨ i = 2 ∨ i = 3 := by omega
          rcases this with rfl | rfl | rfl
          · have : (10 : Int) ^ 1 = 10 := by decide
            omega
          · have : (10 : Int) ^ 2 = 100 := by decide
            omega
          · have : (10 : Int) ^ 3 = 1000 := by decide
            omega
        · omega
      by_cases i2 : i = 1
      · rw [if_neg (by rintro ⟨q, -⟩; omega), if_pos hv, if_pos (show (i : Int) = 1 by omega)]
        exact .inr ⟨v, at', rfl, rfl, v0, hv, by omega, hn'⟩
      · rw [if_neg (show ¬ ((i : Int) = 1) by omega)]
        by_cases c4 : f_md_peek t n a = 48
        · rw [if_pos ⟨by omega, c4⟩, if_pos c4]
          exact .inl ⟨rfl, rfl⟩
        · rw [if_neg (fun q => c4 q.2), if_pos hv, if_neg c4]
          exact .inr ⟨v, at', rfl, rfl, v0, hv, by omega, hn'⟩
    · have dd : 48 ≤ c.toInt ∧ c.toInt ≤ 57 := Decidable.not_not.mp fun q => hg ((pu_dig_iff c0 c1).1.mpr q)
      have l1 := hlt (by rintro rfl; revert dd; decide)
      obtain ⟨s1, s2⟩ := pu_num_step v0 (by omega) dd.1 dd.2
      have ej : Int32.ofNat i + 1 = Int32.ofNat (i + 1) := by rw [Int32.ofNat_add]; rfl
      have ea : (at' + 1).toInt = a.toInt + ((i + 1 : Nat) : Int) := by rw [pu_ia, z1]; omega
      have hb' : i + 1 = 0 ∨ f_md_peek t n a = 48 ∨ (10 : Int) ^ (i + 1 - 1) ≤ (v * 10 + (c - 48)).toInt := by
        right
        by_cases i0 : i = 0
        · subst i0
          have : at' = a := Int32.toInt_inj.mp (by omega)
          subst this
          rw [hpc]
          by_cases q : c = 48
          · exact .inl q
          · right
            have : c.toInt ≠ 48 := fun w => q (Int32.toInt_inj.mp w)
            have : (10 : Int) ^ (0 + 1 - 1) = 1 := by decide
            omega
        · rcases hb with hb | hb | hb
          · omega
          · exact .inl hb
          · right
            have : (10 : Int) ^ (i + 1 - 1) = 10 * 10 ^ (i - 1) := by
              have : i + 1 - 1 = (i - 1) + 1 := by omega
              rw [this, Int.pow_succ]; omega
            omega
      rw [if_neg hg, if_neg hg]
      by_cases i1 : d.toInt < i
      · rw [if_pos (by rw [Int32.lt_iff_toInt_lt, ei]; exact i1), if_neg (by rw [Int32.le_iff_toInt_le, ei, z0]; omega), ej]
        refine .inl ⟨pu_num_tail h h0 (by omega) j (i + 1) k _ (at' + 1) (by omega) (by omega) ea (by omega) (by omega) (by omega) (by omega) ?_, rfl⟩
        rcases hb' with q | q | q
        · omega
        · exact .inl q
        · right
          rcases hdt with ⟨q1, q2⟩ | ⟨q1, q2⟩
          · have : i = 4 := by omega
            subst this
            have : (10 : Int) ^ (4 + 1 - 1) = 10000 := by decide
            omega
          · omega
      · rw [if_neg (by rw [Int32.lt_iff_toInt_lt, ei]; exact i1), s2, ej]
        exact ih (i + 1) k k' _ (at' + 1) (by omega) (by omega) (by omega) ea (by omega) (by omega) (by omega) hb' (by omega)
theorem pu_number_eq {L : LnT} {t : Nat → Int32} {n a most d : Int32} (h : pu_RL L t n) (h0 : 0 ≤ a.toInt) (ha : a.toInt ≤ n.toInt) (hd : (most = 999 ∧ d = 3) ∨ (most = 9999 ∧ d = 4)) :
    ((f_rd_readNumber a L most).1 = -1 ∧ (f_md_readNumber t n a d).1 = -1) ∨ (∃ w a' : Int32, f_rd_readNumber a L most = (w, a') ∧ f_md_readNumber t n a d = (w, a') ∧ 0 ≤ w.toInt ∧ w.toInt ≤ most.toInt ∧ 0 ≤ a'.toInt ∧ a'.toInt ≤ n.toInt) := by
  have e : f_md_readNumber t n a d = f_md_readNumber_L10 t n d 6 0 0 (f_md_peek t n a) a := by unfold f_md_readNumber; rw [bnd_s rfl]
  rw [e]
  exact pu_num_L h h0 hd 5 0 6 6 0 a (by omega) (by omega) (by omega) (by omega) ha (by decide) (by decide) (.inl rfl) (by rcases hd with ⟨rfl, rfl⟩ | ⟨rfl, rfl⟩ <;> decide)
theorem pu_bnd_k {α β : Type} (v : α) (k : α → β) : bnd v k = k v := bnd_s (Eq.refl v)
theorem pu_bnd2_k {α β γ : Type} (v : α × β) (k : α → β → γ) : bnd2 v k = k v.1 v.2 := bnd2_s (Eq.refl v)
theorem pu_c_lt0 {v : Int32} (h : v < 0) : v.toInt < 0 := Int32.lt_iff_toInt_lt.mp h
theorem pu_c_ge0 {v : Int32} (h : ¬ v < 0) : 0 ≤ v.toInt := by rw [Int32.lt_iff_toInt_lt] at h; exact Int.not_lt.mp h
def pu_IB (p nb : Nat → Int32) (r f : Int) : Prop := (∀ j : Nat, j < 64 → (r < (j : Int) / 8 ∨ (r = (j : Int) / 8 ∧ (j : Int) % 8 < f)) → p j = nb j ∧ 0 ≤ (p j).toInt ∧ (p j).toInt ≤ 12) ∧ (∀ j : Nat, j < 64 → ¬ (r < (j : Int) / 8 ∨ (r = (j : Int) / 8 ∧ (j : Int) % 8 < f)) → p j = 0)
theorem pu_IB.cov {p nb : Nat → Int32} {r f : Int} (h : pu_IB p nb r f) : ∀ j : Nat, j < 64 → (r < (j : Int) / 8 ∨ (r = (j : Int) / 8 ∧ (j : Int) % 8 < f)) → p j = nb j ∧ 0 ≤ (p j).toInt ∧ (p j).toInt ≤ 12 := h.1
theorem pu_IB.unc {p nb : Nat → Int32} {r f : Int} (h : pu_IB p nb r f) : ∀ j : Nat, j < 64 → ¬ (r < (j : Int) / 8 ∨ (r = (j : Int) / 8 ∧ (j : Int) % 8 < f)) → p j = 0 := h.2
theorem pu_IB.man {p nb : Nat → Int32} {r f : Int} {m : Int32} {q : Nat} (h : pu_IB p nb r f) (hq : (q : Int) = 8 * r + f) (f0 : 0 ≤ f) (f7 : f < 8) (m0 : 0 ≤ m.toInt) (m1 : m.toInt ≤ 12) : pu_IB (upd p q m) (upd nb q m) r (f + 1) := by
  refine ⟨fun j hj hc => ?_, fun j hj hc => ?_⟩
  · unfold upd
    by_cases e : j = q
    · rw [if_pos e, if_pos e]; exact ⟨rfl, m0, m1⟩
    · rw [if_neg e, if_neg e]
      exact h.cov j hj (by omega)
  · unfold upd
    rw [if_neg (by omega)]
    exact h.unc j hj (by omega)
theorem pu_IB.gap {p nb nb' : Nat → Int32} {r f e : Int} (h : pu_IB p nb r f) (e0 : 0 ≤ e) (f0 : 0 ≤ f) (fe : f + e ≤ 8) (hz : ∀ j : Nat, j < 64 → nb' j = if 8 * r + f ≤ (j : Int) ∧ (j : Int) < 8 * r + f + e then 0 else nb j) : pu_IB p nb' r (f + e) := by
  refine ⟨fun j hj hc => ?_, fun j hj hc => ?_⟩
  · rw [hz j hj]
    by_cases e1 : 8 * r + f ≤ (j : Int) ∧ (j : Int) < 8 * r + f + e
    · rw [if_pos e1, h.unc j hj (by omega)]; decide
    · rw [if_neg e1]
      exact h.cov j hj (by omega)
  · exact h.unc j hj (by omega)
theorem pu_IB.next {p nb : Nat → Int32} {r : Int} (h : pu_IB p nb r 8) : pu_IB p nb (r - 1) 0 := by
  refine ⟨fun j hj hc => h.cov j hj (by omega), fun j hj hc => h.unc j hj (by omega)⟩
theorem pu_zero_L {k11 : Int32 → Int32 → Int32 → (Nat → Int32) → Int32 → (Int32 × (Nat → Int32) × Int32)} {v1 v2 v3 v4 v5 v6 a : Int32} (h1 : 0 ≤ v1.toInt ∧ v1.toInt ≤ 7) (h2 : 0 ≤ v2.toInt) (h4 : 49 ≤ v4.toInt) (h8 : v2.toInt + (v4.toInt - 48) ≤ 8) :
    ∀ (k : Nat) (v7 : Int32) (nb : Nat → Int32), 0 ≤ v7.toInt → v7.toInt ≤ v4.toInt - 48 → (v4.toInt - 48 - v7.toInt).toNat < k →
      ∃ nb', f_md_readBoard_L113 k11 k v1 v2 v3 v4 v5 v6 v7 nb a = k11 v1 (v2 + (v4 - 48)) 1 nb' a ∧ ∀ j : Nat, nb' j = if 8 * v1.toInt + v2.toInt + v7.toInt ≤ (j : Int) ∧ (j : Int) < 8 * v1.toInt + v2.toInt + (v4.toInt - 48) then 0 else nb j := by
  have e4 : (v4 - 48).toInt = v4.toInt - 48 := by (simp only [Int32.lt_iff_toInt_lt, Int32.le_iff_toInt_le, ← Int32.toInt_inj, pu_ia, pu_isb, pu_im, pu_tn, pu_in1, pu_in2, pu_in3, pu_in4, pu_in8, Int32.reduceToInt, Int.reduceNeg, ne_eq] at *; omega)
  intro k
  induction k with
  | zero => intro v7 nb q1 q2 q3; omega
  | succ k ih =>
    intro v7 nb q1 q2 q3
    rw [f_md_readBoard_L113]
    by_cases c : v4 - 48 ≤ v7
    · rw [if_pos c]
      rw [Int32.le_iff_toInt_le, e4] at c
      exact ⟨nb, rfl, fun j => by rw [if_neg (by omega)]⟩
    · rw [if_neg c]
      rw [Int32.le_iff_toInt_le, e4] at c
      have z1 : (1 : Int32).toInt = 1 := by decide
      have e7 : (v7 + 1).toInt = v7.toInt + 1 := by rw [pu_ia, z1]; omega
      obtain ⟨nb', p1, p2⟩ := ih (v7 + 1) (upd nb (8 * v1 + v2 + v7).toNatClampNeg 0) (by omega) (by omega) (by omega)
      refine ⟨nb', p1, fun j => ?_⟩
      rw [p2 j, e7]
      have ei : ((8 * v1 + v2 + v7).toNatClampNeg : Int) = 8 * v1.toInt + v2.toInt + v7.toInt := by clear ih p1 p2 e4 e7 c; (simp only [Int32.lt_iff_toInt_lt, Int32.le_iff_toInt_le, ← Int32.toInt_inj, pu_ia, pu_isb, pu_im, pu_tn, pu_in1, pu_in2, pu_in3, pu_in4, pu_in8, Int32.reduceToInt, Int.reduceNeg, ne_eq] at *; omega)
      unfold upd
      by_cases c1 : j = (8 * v1 + v2 + v7).toNatClampNeg
      · rw [if_pos c1, if_pos (show 8 * v1.toInt + v2.toInt + v7.toInt ≤ (j : Int) ∧ (j : Int) < 8 * v1.toInt + v2.toInt + (v4.toInt - 48) by omega)]
        split <;> rfl
      · rw [if_neg c1]
        by_cases c2 : 8 * v1.toInt + v2.toInt + (v7.toInt + 1) ≤ (j : Int) ∧ (j : Int) < 8 * v1.toInt + v2.toInt + (v4.toInt - 48)
        · rw [if_pos c2, if_pos (by omega)]
        · rw [if_neg c2, if_neg (by omega)]
def pu_endR (t : Nat → Int32) (n rk : Int32) (k3 : Int32 → (Nat → Int32) → Int32 → (Int32 × (Nat → Int32) × Int32)) (nb : Nat → Int32) (a : Int32) : Int32 × (Nat → Int32) × Int32 :=
  if rk ≤ 0 then (k3 (rk + (-1 : Int32)) nb a) else (bnd2 (f_md_eat t n a (47 : Int32)) (fun r_4 u_4 => (if r_4 = 0 then ((0 : Int32), (nb, u_4)) else (k3 (rk + (-1 : Int32)) nb u_4))))
theorem pu_rank_L {L : LnT} {t : Nat → Int32} {n rk : Int32} (h : pu_RL L t n) (r0 : 0 ≤ rk.toInt) (r1 : rk.toInt ≤ 7) {k3 : Int32 → (Nat → Int32) → Int32 → (Int32 × (Nat → Int32) × Int32)} :
    ∀ (k j : Nat) (v4 v5 v6 a : Int32) (P : PsT) (nb : Nat → Int32), 0 ≤ v6.toInt → v6.toInt ≤ v4.toInt → v4.toInt ≤ 8 → (8 - v4.toInt).toNat < k → (8 - v4.toInt).toNat < j → 0 ≤ a.toInt → a.toInt ≤ n.toInt → pu_IB P.1 nb rk.toInt v4.toInt →
    ((∃ R' P', f_rd_readRank_L9 L rk k v4 v5 v6 a P = (0, R', P')) ∧ ∃ x y, f_md_readBoard_L11 t n k3 j rk v4 v5 nb a = (0, x, y)) ∨
    (∃ a' P' nb', f_rd_readRank_L9 L rk k v4 v5 v6 a P = (1, a', P') ∧ f_md_readBoard_L11 t n k3 j rk v4 v5 nb a = pu_endR t n rk k3 nb' a' ∧ P'.2 = P.2 ∧ pu_IB P'.1 nb' rk.toInt 8 ∧ 0 ≤ a'.toInt ∧ a'.toInt ≤ n.toInt) := by
  have hn := h.hi
  have z1 : (1 : Int32).toInt = 1 := by decide
  have z8 : (8 : Int32).toInt = 8 := by decide
  intro k
  induction k with
  | zero => intro j v4 v5 v6 a P nb q1 q2 q3 q4; omega
  | succ k ih =>
    intro j v4 v5 v6 a P nb q1 q2 q3 q4 q5 a0 a1 hI
    obtain ⟨j, rfl⟩ : ∃ k', j = k' + 1 := ⟨j - 1, by omega⟩
    rw [f_rd_readRank_L9, f_md_readBoard_L11]
    by_cases c8 : v4.toInt = 8
    · have e8 : v4 = 8 := Int32.toInt_inj.mp (by rw [c8, z8])
      have c9 : (8 : Int32) ≤ v4 := by rw [e8]; decide
      rw [if_pos c9]
      simp only [if_pos e8, if_pos c9]
      refine .inr ⟨a, P, nb, ?_, rfl, rfl, c8 ▸ hI, a0, a1⟩
      split <;> rfl
    have c7 : v4.toInt < 8 := by omega
    have d1 : ¬ (8 : Int32) ≤ v6 := by rw [Int32.le_iff_toInt_le, z8]; omega
    have d2 : ¬ (8 : Int32) ≤ v4 := by rw [Int32.le_iff_toInt_le, z8]; omega
    rw [if_neg d1, if_neg d2, if_neg d2]
    simp only [pu_bnd_k]
    rw [pu_letter_eq h a0]
    obtain ⟨p0, p1⟩ := pu_peek_rg h a0
    have hlt : f_md_peek t n a ≠ 0 → a.toInt < n.toInt := pu_peek_lt
    generalize f_md_peek t n a = c at *
    obtain ⟨m1, m2, m3, m4⟩ := pu_mn_ch p0 p1
    have ek : f_st_indexOf 0 c + 1 = if 49 ≤ c ∧ c ≤ 56 then c - 48 else 0 := by
      rw [pu_rk_ch p0 p1]
      by_cases q : 49 ≤ c ∧ c ≤ 56
      · rw [if_pos q, if_pos q]
        obtain ⟨w1, w2⟩ := q
        clear ih hI h m1 m4 hlt; (simp only [Int32.lt_iff_toInt_lt, Int32.le_iff_toInt_le, ← Int32.toInt_inj, pu_ia, pu_isb, pu_im, pu_tn, pu_in1, pu_in2, pu_in3, pu_in4, pu_in8, Int32.reduceToInt, Int.reduceNeg, ne_eq] at *; omega)
      · rw [if_neg q, if_neg q]; decide
    rw [m1, ek]
    have e6 : (v6 + 1).toInt = v6.toInt + 1 := by rw [pu_ia, z1]; omega
    generalize f_md_manOf c = m at *
    by_cases cm : m = 0
    · have cm' : m ≤ 0 := by rw [cm]; decide
      simp only [if_pos cm, if_pos cm']
      by_cases q : 49 ≤ c ∧ c ≤ 56
      · obtain ⟨w1, w2⟩ := q
        have w3 : 49 ≤ c.toInt ∧ c.toInt ≤ 56 := by clear ih hI h m1 m4 hlt ek; constructor <;> (simp only [Int32.lt_iff_toInt_lt, Int32.le_iff_toInt_le, ← Int32.toInt_inj, pu_ia, pu_isb, pu_im, pu_tn, pu_in1, pu_in2, pu_in3, pu_in4, pu_in8, Int32.reduceToInt, Int.reduceNeg, ne_eq] at *; omega)
        have ec : (c - 48).toInt = c.toInt - 48 := by clear ih hI h m1 m4 hlt ek; (simp only [Int32.lt_iff_toInt_lt, Int32.le_iff_toInt_le, ← Int32.toInt_inj, pu_ia, pu_isb, pu_im, pu_tn, pu_in1, pu_in2, pu_in3, pu_in4, pu_in8, Int32.reduceToInt, Int.reduceNeg, ne_eq] at *; omega)
        have nz : ¬ c - 48 = 0 := fun e => by have := congrArg Int32.toInt e; rw [ec] at this; have z0 : (0 : Int32).toInt = 0 := by decide
                                              omega
        have l1 := hlt (by rintro rfl; revert w3; decide)
        have ea : (a + 1).toInt = a.toInt + 1 := by rw [pu_ia, z1]; omega
        have e4 : (v4 + (c - 48)).toInt = v4.toInt + (c.toInt - 48) := by rw [pu_ia, ec]; omega
        have nl : ¬ c < 49 := by rw [Int32.lt_iff_toInt_lt]; show ¬ c.toInt < 49; omega
        have nu : ¬ 56 < c := by rw [Int32.lt_iff_toInt_lt]; show ¬ 56 < c.toInt; omega
        simp only [if_pos (And.intro w1 w2), if_neg nz, if_neg nl, if_neg nu]
        by_cases c5 : v5 = 0
        · rw [if_pos c5, if_pos c5]
          have eg : (v4 + c - 48).toInt = v4.toInt + c.toInt - 48 := by clear ih hI h m1 m4 hlt ek e4; (simp only [Int32.lt_iff_toInt_lt, Int32.le_iff_toInt_le, ← Int32.toInt_inj, pu_ia, pu_isb, pu_im, pu_tn, pu_in1, pu_in2, pu_in3, pu_in4, pu_in8, Int32.reduceToInt, Int.reduceNeg, ne_eq] at *; omega)
          by_cases g : (8 : Int32) < v4 + c - 48
          · rw [if_pos g]
            rw [Int32.lt_iff_toInt_lt, z8, eg] at g
            refine .inl ⟨?_, _, _, rfl⟩
            obtain ⟨k, rfl⟩ : ∃ k', k = k' + 1 := ⟨k - 1, by omega⟩
            rw [f_rd_readRank_L9]
            have g1 : ¬ v4 + (c - 48) = 8 := fun e => by have := congrArg Int32.toInt e; rw [e4, z8] at this; omega
            have g2 : (8 : Int32) ≤ v4 + (c - 48) := by rw [Int32.le_iff_toInt_le, z8, e4]; omega
            simp only [if_neg g1, if_pos g2]
            exact ⟨a + 1, P, by split <;> rfl⟩
          · rw [if_neg g]
            rw [Int32.lt_iff_toInt_lt, z8, eg] at g
            obtain ⟨nb', s1, s2⟩ := pu_zero_L (k11 := fun a0 a1 a2 a3 a4 => f_md_readBoard_L11 t n k3 j a0 a1 a2 a3 a4) (v1 := rk) (v2 := v4) (v3 := v5) (v4 := c) (v5 := m) (v6 := 1) (a := a + 1) ⟨r0, r1⟩ (by omega) w3.1 (by omega) 10 0 nb (by decide) (by show (0 : Int) ≤ _; omega) (by show (c.toInt - 48 - 0).toNat < 10; omega)
            rw [s1]
            refine ih j (v4 + (c - 48)) 1 (v6 + 1) (a + 1) P nb' (by omega) (by omega) (by omega) (by omega) (by omega) (by omega) (by omega) ?_
            rw [e4]
            refine hI.gap (by omega) (by omega) (by omega) fun i hi => ?_
            rw [s2 i]
            have z0 : (0 : Int32).toInt = 0 := by decide
            rw [z0, Int.add_zero]
        · rw [if_neg c5, if_neg c5]
          exact .inl ⟨⟨_, _, rfl⟩, _, _, rfl⟩
      · simp only [if_neg q, if_true]
        refine .inl ⟨⟨_, _, rfl⟩, ?_⟩
        by_cases w1 : c < 49
        · rw [if_pos w1]; exact ⟨_, _, rfl⟩
        · rw [if_neg w1]
          have w2 : 56 < c := by
            rw [Int32.lt_iff_toInt_lt] at w1 ⊢
            rw [Int32.le_iff_toInt_le, Int32.le_iff_toInt_le] at q
            exact Int.not_le.mp fun w => q ⟨Int.not_lt.mp w1, w⟩
          rw [if_pos w2]; exact ⟨_, _, rfl⟩
    · have mp : m.toInt ≠ 0 := fun e => cm (Int32.toInt_inj.mp e)
      have cm' : ¬ m ≤ 0 := by rw [Int32.le_iff_toInt_le]; show ¬ m.toInt ≤ 0; omega
      simp only [if_neg cm, if_neg cm']
      have l1 := hlt (m4 mp)
      have ea : (a + 1).toInt = a.toInt + 1 := by rw [pu_ia, z1]; omega
      have e4 : (v4 + 1).toInt = v4.toInt + 1 := by rw [pu_ia, z1]; omega
      have es : f_gn_squareOf v4 rk = rk * 8 + v4 := by
        unfold f_gn_squareOf
        rw [if_neg (by rw [Int32.lt_iff_toInt_lt]; show ¬ v4.toInt < 0; omega), if_neg d2, if_neg (by rw [Int32.lt_iff_toInt_lt]; show ¬ rk.toInt < 0; omega), if_pos (by rw [Int32.lt_iff_toInt_lt, z8]; omega)]
      have er : (rk * 8 + v4).toInt = 8 * rk.toInt + v4.toInt := by clear ih hI h m1 m4 hlt ek es; (simp only [Int32.lt_iff_toInt_lt, Int32.le_iff_toInt_le, ← Int32.toInt_inj, pu_ia, pu_isb, pu_im, pu_tn, pu_in1, pu_in2, pu_in3, pu_in4, pu_in8, Int32.reduceToInt, Int.reduceNeg, ne_eq] at *; omega)
      have ex : 8 * rk + v4 = rk * 8 + v4 := by rw [Int32.mul_comm]
      have ep : f_ps_place P (f_gn_squareOf v4 rk) m = (upd P.1 (rk * 8 + v4).toNatClampNeg m, P.2) := by
        unfold f_ps_place
        rw [es, pu_isq1 (by rw [Int32.lt_iff_toInt_lt, er]; show ¬ _ < (0 : Int); omega) (by rw [Int32.lt_iff_toInt_lt, er]; show ¬ (63 : Int) < _; omega), bnd_s rfl, if_neg (by decide)]
      rw [ep, ex]
      rcases ih j (v4 + 1) 0 (v6 + 1) (a + 1) (upd P.1 (rk * 8 + v4).toNatClampNeg m, P.2) (upd nb (rk * 8 + v4).toNatClampNeg m) (by omega) (by omega) (by omega) (by omega) (by omega) (by omega) (by omega) (by rw [e4]; exact hI.man (by rw [pu_tn, er]; omega) (by omega) c7 m2 m3) with w | ⟨a', P', nb', w1, w2, w3, w4⟩
      · exact .inl w
      · exact .inr ⟨a', P', nb', w1, w2, w3, w4⟩
theorem pu_ranks_L {L : LnT} {t : Nat → Int32} {n : Int32} (h : pu_RL L t n) :
    ∀ (k j : Nat) (v a : Int32) (P : PsT) (nb : Nat → Int32), -1 ≤ v.toInt → v.toInt ≤ 7 → (v.toInt + 1).toNat < k → (v.toInt + 1).toNat < j → 0 ≤ a.toInt → a.toInt ≤ n.toInt → pu_IB P.1 nb v.toInt 0 →
    ((∃ R' P', f_rd_readRanks_L3 L k v a P = (0, R', P')) ∧ ∃ x y, f_md_readBoard_L3 t n j v nb a = (0, x, y)) ∨
    (∃ a' P' nb', f_rd_readRanks_L3 L k v a P = (1, a', P') ∧ f_md_readBoard_L3 t n j v nb a = (1, nb', a') ∧ P'.2 = P.2 ∧ pu_RB P'.1 nb' ∧ 0 ≤ a'.toInt ∧ a'.toInt ≤ n.toInt) := by
  intro k
  induction k with
  | zero => intro j v a P nb q1 q2 q3; omega
  | succ k ih =>
    intro j v a P nb q1 q2 q3 q4 a0 a1 hI
    obtain ⟨j, rfl⟩ : ∃ k', j = k' + 1 := ⟨j - 1, by omega⟩
    rw [f_rd_readRanks_L3, f_md_readBoard_L3]
    by_cases c : v < 0
    · rw [if_pos c, if_pos c]
      have cv : v.toInt < 0 := pu_c_lt0 c
      refine .inr ⟨a, P, nb, rfl, rfl, rfl, ⟨fun j hj => (hI.cov j hj (by omega)).1, fun j hj => ?_⟩, a0, a1⟩
      have := hI.cov j hj (by omega)
      rw [← this.1]; exact this.2
    · rw [if_neg c, if_neg c]
      have cv : 0 ≤ v.toInt := pu_c_ge0 c
      have em : (v + -1).toInt = v.toInt - 1 := by rw [pu_ia, pu_in1]; omega
      unfold f_rd_readRank
      generalize hN : (9 : Nat) = N
      have n8 : (8 - (0 : Int32).toInt).toNat < N := by rw [← hN]; decide
      have RK := pu_rank_L h cv q2 (k3 := fun a0 a1 a2 => f_md_readBoard_L3 t n j a0 a1 a2) N N 0 0 0 a P nb (by decide) (by decide) (by decide) n8 n8 a0 a1 hI
      clear n8
      rcases RK with ⟨⟨R', P', w1⟩, x, y, w2⟩ | ⟨a', P', nb', w1, w2, w3, w4, w5, w6⟩
      · rw [w1, w2, bnd2_s rfl, if_pos rfl]
        exact .inl ⟨⟨_, _, rfl⟩, _, _, rfl⟩
      · rw [w1, w2, bnd2_s rfl, if_neg (by decide)]
        unfold pu_endR
        have hI' : pu_IB P'.1 nb' (v + -1).toInt 0 := by rw [em]; exact w4.next
        have g1 : -1 ≤ (v + -1).toInt := by omega
        have g2 : (v + -1).toInt ≤ 7 := by omega
        have g3 : ((v + -1).toInt + 1).toNat < k := by omega
        have g4 : ((v + -1).toInt + 1).toNat < j := by omega
        by_cases c1 : v ≤ 0
        · rw [if_pos c1, if_pos c1]
          rcases ih j (v + -1) a' P' nb' g1 g2 g3 g4 w5 w6 hI' with w | ⟨a2, P2, nb2, pu_u1, u2, u3, u4⟩
          · exact .inl w
          · exact .inr ⟨a2, P2, nb2, pu_u1, u2, u3.trans w3, u4⟩
        · rw [if_neg c1, if_neg c1]
          obtain ⟨a3, r, e1, e2, hr, p1, p2⟩ := pu_right1 h w5 w6 (ch := 47) (by decide)
          rw [e1, e2, bnd2_s rfl, bnd2_s rfl]
          rcases hr with rfl | rfl
          · rw [if_pos rfl, if_pos rfl]
            exact .inl ⟨⟨_, _, rfl⟩, _, _, rfl⟩
          · rw [if_neg (by decide), if_neg (by decide)]
            rcases ih j (v + -1) a3 P' nb' g1 g2 g3 g4 p1 p2 hI' with w | ⟨a2, P2, nb2, pu_u1, u2, u3, u4⟩
            · exact .inl w
            · exact .inr ⟨a2, P2, nb2, pu_u1, u2, u3.trans w3, u4⟩
theorem pu_clear_L : ∀ (k : Nat) (v : Int32) (P : PsT), 0 ≤ v.toInt → (64 - v.toInt).toNat < k → (f_ps_clearBoard_L2 k v P).2 = P.2 ∧ ∀ j : Nat, j < 64 → (f_ps_clearBoard_L2 k v P).1 j = if v.toInt ≤ j then 0 else P.1 j := by
  intro k
  induction k with
  | zero => intro v P h0 h1; omega
  | succ k ih =>
    intro v P h0 h1
    rw [f_ps_clearBoard_L2]
    have z64 : (64 : Int32).toInt = 64 := by decide
    by_cases c : (64 : Int32) ≤ v
    · rw [if_pos c]
      rw [Int32.le_iff_toInt_le, z64] at c
      exact ⟨rfl, fun j hj => by rw [if_neg (by omega)]⟩
    · rw [if_neg c]
      rw [Int32.le_iff_toInt_le, z64] at c
      have z1 : (1 : Int32).toInt = 1 := by decide
      have e : (v + 1).toInt = v.toInt + 1 := by rw [pu_ia, z1]; omega
      obtain ⟨p1, p2⟩ := ih (v + 1) (upd P.1 v.toNatClampNeg (0 : Int32), P.2.1, P.2.2.1, P.2.2.2.1, P.2.2.2.2.1, P.2.2.2.2.2) (by omega) (by omega)
      refine ⟨p1, fun j hj => ?_⟩
      rw [p2 j hj, e]
      unfold upd; dsimp only
      by_cases c1 : v.toInt + 1 ≤ (j : Int)
      · rw [if_pos c1, if_pos (by omega)]
      · rw [if_neg c1]
        by_cases c2 : j = v.toNatClampNeg
        · rw [if_pos c2, if_pos (by rw [c2, pu_tn]; omega)]
        · rw [if_neg c2, if_neg (by rw [pu_tn] at c2; omega)]
def pu_ftail (t : Nat → Int32) (n : Int32) (nb : Nat → Int32) (s u M_newRights M_newPassant M_newClock M_newNumber : Int32) : Int32 × (Nat → Int32) × Int32 × Int32 × Int32 × Int32 × Int32 × Int32 :=
  (bnd2 (f_md_eat t n u (32 : Int32)) (fun r_9 u_9 => (if r_9 = 0 then ((2 : Int32), (nb, u_9, s, M_newRights, M_newPassant, M_newClock, M_newNumber)) else (bnd2 (f_md_readRights t n u_9) (fun r_11 u_11 => (if r_11 = 0 then ((3 : Int32), (nb, u_11.2, s, u_11.1, M_newPassant, M_newClock, M_newNumber)) else (bnd2 (f_md_eat t n u_11.2 (32 : Int32)) (fun r_13 u_13 => (if r_13 = 0 then ((3 : Int32), (nb, u_13, s, u_11.1, M_newPassant, M_newClock, M_newNumber)) else (bnd2 (f_md_readPassant t n u_13 s) (fun r_15 u_15 => (if r_15 = 0 then ((4 : Int32), (nb, u_15.2, s, u_11.1, u_15.1, M_newClock, M_newNumber)) else (bnd2 (f_md_eat t n u_15.2 (32 : Int32)) (fun r_17 u_17 => (if r_17 = 0 then ((4 : Int32), (nb, u_17, s, u_11.1, u_15.1, M_newClock, M_newNumber)) else (bnd2 (f_md_readNumber t n u_17 (3 : Int32)) (fun r_19 u_19 => (if r_19 < 0 then ((5 : Int32), (nb, u_19, s, u_11.1, u_15.1, r_19, M_newNumber)) else (bnd2 (f_md_eat t n u_19 (32 : Int32)) (fun r_21 u_21 => (if r_21 = 0 then ((5 : Int32), (nb, u_21, s, u_11.1, u_15.1, r_19, M_newNumber)) else (bnd2 (f_md_readNumber t n u_21 (4 : Int32)) (fun r_23 u_23 => (if r_23 < (1 : Int32) then ((6 : Int32), (nb, u_23, s, u_11.1, u_15.1, r_19, r_23)) else (if u_23 = n then ((0 : Int32), (nb, u_23, s, u_11.1, u_15.1, r_19, r_23)) else ((6 : Int32), (nb, u_23, s, u_11.1, u_15.1, r_19, r_23)))))))))))))))))))))))))))
theorem pu_ffields (t nb : Nat → Int32) (n sd rt pa cl nu : Int32) : f_md_readFields t nb n sd rt pa cl nu =
    (bnd2 (f_md_readBoard t nb n (0 : Int32)) (fun r_1 u_1 => (if r_1 = 0 then ((1 : Int32), (u_1.1, u_1.2, sd, rt, pa, cl, nu)) else (bnd2 (f_md_eat t n u_1.2 (32 : Int32)) (fun r_3 u_3 => (if r_3 = 0 then ((1 : Int32), (u_1.1, u_3, sd, rt, pa, cl, nu)) else (bnd (f_md_peek t n u_3) (fun r_5 => (if r_5 = (98 : Int32) then
      (bnd2 (f_md_eat t n u_3 (119 : Int32)) (fun r_45 u_45 => (if r_45 = 0 then (bnd2 (f_md_eat t n u_45 (98 : Int32)) (fun r_64 u_64 => (if r_64 = 0 then ((2 : Int32), (u_1.1, u_64, (1 : Int32), rt, pa, cl, nu)) else pu_ftail t n u_1.1 1 u_64 rt pa cl nu))) else pu_ftail t n u_1.1 1 u_45 rt pa cl nu)))
      else (bnd2 (f_md_eat t n u_3 (119 : Int32)) (fun r_7 u_7 => (if r_7 = 0 then (bnd2 (f_md_eat t n u_7 (98 : Int32)) (fun r_26 u_26 => (if r_26 = 0 then ((2 : Int32), (u_1.1, u_26, (0 : Int32), rt, pa, cl, nu)) else pu_ftail t n u_1.1 0 u_26 rt pa cl nu))) else pu_ftail t n u_1.1 0 u_7 rt pa cl nu)))))))))))) := by
  rw [f_md_readFields]
  simp only [pu_ftail]
theorem pu_bnd2_p {α β γ : Type} (x : α) (y : β) (k : α → β → γ) : bnd2 (x, y) k = k x y := bnd2_s (Eq.refl (x, y))
theorem pu_bnd2_e {α β γ : Type} {v : α × β} {x : α} {y : β} {k : α → β → γ} {z : γ} (h : v = (x, y)) (hz : k x y = z) : bnd2 v k = z := by rw [bnd2_s h]; exact hz
def pu_ctail (L : LnT) (u : Int32) (P : PsT) : Int32 × Int32 × PsT :=
  (bnd2 (f_rd_passes u L (32 : Int32)) (fun r_8 u_8 => (if r_8 = 0 then ((2 : Int32), (u_8, P)) else (bnd2 (f_rd_readRights u_8 P L) (fun r_10 u_10 => (if r_10 = 0 then ((3 : Int32), (u_10.1, u_10.2)) else (bnd2 (f_rd_passes u_10.1 L (32 : Int32)) (fun r_12 u_12 => (if r_12 = 0 then ((3 : Int32), (u_12, u_10.2)) else (bnd2 (f_rd_readPassant u_12 u_10.2 L) (fun r_14 u_14 => (if r_14 = 0 then ((4 : Int32), (u_14.1, u_14.2)) else (bnd2 (f_rd_passes u_14.1 L (32 : Int32)) (fun r_16 u_16 => (if r_16 = 0 then ((4 : Int32), (u_16, u_14.2)) else (bnd2 (f_rd_readNumber u_16 L (999 : Int32)) (fun r_18 u_18 => (if r_18 = (-1 : Int32) then ((5 : Int32), (u_18, (u_14.2.1, u_14.2.2.1, u_14.2.2.2.1, u_14.2.2.2.2.1, r_18, u_14.2.2.2.2.2.2))) else (bnd2 (f_rd_passes u_18 L (32 : Int32)) (fun r_20 u_20 => (if r_20 = 0 then ((5 : Int32), (u_20, (u_14.2.1, u_14.2.2.1, u_14.2.2.2.1, u_14.2.2.2.2.1, r_18, u_14.2.2.2.2.2.2))) else (bnd2 (f_rd_readNumber u_20 L (9999 : Int32)) (fun r_22 u_22 => (if r_22 < (1 : Int32) then ((6 : Int32), (u_22, (u_14.2.1, u_14.2.2.1, u_14.2.2.2.1, u_14.2.2.2.2.1, r_18, r_22))) else (bnd (f_ln_size L) (fun r_24 => (if u_22 = r_24 then ((0 : Int32), (u_22, (u_14.2.1, u_14.2.2.1, u_14.2.2.2.1, u_14.2.2.2.2.1, r_18, r_22))) else ((6 : Int32), (u_22, (u_14.2.1, u_14.2.2.1, u_14.2.2.2.1, u_14.2.2.2.2.1, r_18, r_22))))))))))))))))))))))))))))))
theorem pu_cfields (rd : Int32) (P : PsT) (L : LnT) : f_rd_readInto rd P L =
    (bnd (f_ps_clearBoard P) (fun u_1 => (bnd2 (f_rd_readRanks (0 : Int32) u_1 L) (fun r_2 u_2 => (if r_2 = 0 then ((1 : Int32), (u_2.1, u_2.2)) else (bnd2 (f_rd_passes u_2.1 L (32 : Int32)) (fun r_4 u_4 => (if r_4 = 0 then ((1 : Int32), (u_4, u_2.2)) else (bnd2 (f_rd_readSide u_4 u_2.2 L) (fun r_6 u_6 => (if r_6 = 0 then ((2 : Int32), (u_6.1, u_6.2)) else pu_ctail L u_6.1 u_6.2))))))))))) := by
  rw [f_rd_readInto]
  simp only [pu_ctail]
def pu_agree (x : Int32 × Int32 × PsT) (y : Int32 × (Nat → Int32) × Int32 × Int32 × Int32 × Int32 × Int32 × Int32) : Prop :=
  x.1 = y.1 ∧ 0 ≤ x.1.toInt ∧ x.1.toInt ≤ 6 ∧ (x.1 = 0 → pu_RP x.2.2 y.2.1 y.2.2.2.1 y.2.2.2.2.1 y.2.2.2.2.2.1 y.2.2.2.2.2.2.1 y.2.2.2.2.2.2.2)
theorem pu_agree_no {x : Int32 × Int32 × PsT} {y : Int32 × (Nat → Int32) × Int32 × Int32 × Int32 × Int32 × Int32 × Int32} (c : Int32) (h1 : 1 ≤ c.toInt) (h6 : c.toInt ≤ 6) (hx : x.1 = c) (hy : y.1 = c) : pu_agree x y :=
  ⟨hx.trans hy.symm, by rw [hx]; omega, by rw [hx]; exact h6, fun q => by rw [hx] at q; subst q; exact absurd h1 (by decide)⟩
theorem pu_tail_eq {L : LnT} {t : Nat → Int32} {n u s rt pa cl nu : Int32} (h : pu_RL L t n) {P : PsT} {nb : Nat → Int32} (hb : pu_RB P.1 nb) (hs : s = 0 ∨ s = 1) (hps : P.2.1 = s) (u0 : 0 ≤ u.toInt) (pu_u1 : u.toInt ≤ n.toInt) : pu_agree (pu_ctail L u P) (pu_ftail t n nb s u rt pa cl nu) := by
  have n1 : ¬ (1 : Int32) = 0 := by decide
  unfold pu_ctail pu_ftail
  obtain ⟨a1, r1, e1, e2, hr, p1, p2⟩ := pu_right1 h u0 pu_u1 (ch := 32) (by decide)
  rw [e1, e2]; simp only [pu_bnd2_p]
  rcases hr with rfl | rfl
  · rw [if_pos rfl, if_pos rfl]; exact pu_agree_no 2 (by decide) (by decide) rfl rfl
  rw [if_neg n1, if_neg n1]
  obtain ⟨a2, r2, q, hr, e1, e2, p3, p4, p5, p6⟩ := pu_rights_eq h p1 p2 P
  rw [e1, e2]; simp only [pu_bnd2_p]
  rcases hr with rfl | rfl
  · rw [if_pos rfl, if_pos rfl]; exact pu_agree_no 3 (by decide) (by decide) rfl rfl
  rw [if_neg n1, if_neg n1]
  obtain ⟨a3, r3, e1, e2, hr, p7, p8⟩ := pu_right1 h p3 p4 (ch := 32) (by decide)
  (try dsimp only)
  rw [e1, e2]; simp only [pu_bnd2_p]
  rcases hr with rfl | rfl
  · rw [if_pos rfl, if_pos rfl]; exact pu_agree_no 3 (by decide) (by decide) rfl rfl
  rw [if_neg n1, if_neg n1]
  rcases pu_passant_eq h p7 p8 (P.1, P.2.1, q, P.2.2.2.1, P.2.2.2.2.1, P.2.2.2.2.2) (by rw [hps]; exact hs) with ⟨R', P', e1, x, y, e2⟩ | ⟨a4, pq, e1, e2, p9, p10, p11, p12⟩
  · rw [hps] at e2
    rw [e1, e2]; simp only [pu_bnd2_p, if_true]; exact pu_agree_no 4 (by decide) (by decide) rfl rfl
  dsimp only at e1 e2
  rw [show P.2.1 = s from hps] at e2
  rw [e1, e2]; simp only [pu_bnd2_p, n1, if_false]
  (try dsimp only)
  obtain ⟨a5, r5, e1, e2, hr, p13, p14⟩ := pu_right1 h p9 p10 (ch := 32) (by decide)
  rw [e1, e2]; simp only [pu_bnd2_p]
  rcases hr with rfl | rfl
  · rw [if_pos rfl, if_pos rfl]; exact pu_agree_no 4 (by decide) (by decide) rfl rfl
  rw [if_neg n1, if_neg n1]
  rcases pu_number_eq h p13 p14 (most := 999) (d := 3) (.inl ⟨rfl, rfl⟩) with ⟨e1, e2⟩ | ⟨w, a6, e1, e2, w0, w1, p15, p16⟩
  · obtain ⟨x1, x2, ex⟩ : ∃ x1 x2, f_rd_readNumber a5 L 999 = (x1, x2) := ⟨_, _, rfl⟩
    obtain ⟨y1, y2, ey⟩ : ∃ y1 y2, f_md_readNumber t n a5 3 = (y1, y2) := ⟨_, _, rfl⟩
    rw [ex] at e1; rw [ey] at e2
    rw [ex, ey]; simp only [pu_bnd2_p]
    have e1' : x1 = -1 := e1
    have e2' : y1 = -1 := e2
    subst e1'; subst e2'
    rw [if_pos (by decide), if_pos (by decide)]; exact pu_agree_no 5 (by decide) (by decide) rfl rfl
  have wn : ¬ w = -1 := by rintro rfl; revert w0; decide
  have wl : ¬ w < 0 := by rw [Int32.lt_iff_toInt_lt]; exact Int.not_lt.mpr w0
  rw [e1, e2]; simp only [pu_bnd2_p]; rw [if_neg wn, if_neg wl]
  obtain ⟨a7, r7, e1, e2, hr, p17, p18⟩ := pu_right1 h p15 p16 (ch := 32) (by decide)
  rw [e1, e2]; simp only [pu_bnd2_p]
  rcases hr with rfl | rfl
  · rw [if_pos rfl, if_pos rfl]; exact pu_agree_no 5 (by decide) (by decide) rfl rfl
  rw [if_neg n1, if_neg n1]
  rcases pu_number_eq h p17 p18 (most := 9999) (d := 4) (.inr ⟨rfl, rfl⟩) with ⟨e1, e2⟩ | ⟨z, a8, e1, e2, z0, z1, p19, p20⟩
  · obtain ⟨x1, x2, ex⟩ : ∃ x1 x2, f_rd_readNumber a7 L 9999 = (x1, x2) := ⟨_, _, rfl⟩
    obtain ⟨y1, y2, ey⟩ : ∃ y1 y2, f_md_readNumber t n a7 4 = (y1, y2) := ⟨_, _, rfl⟩
    rw [ex] at e1; rw [ey] at e2
    rw [ex, ey]; simp only [pu_bnd2_p]
    have e1' : x1 = -1 := e1
    have e2' : y1 = -1 := e2
    subst e1'; subst e2'
    rw [if_pos (by decide), if_pos (by decide)]; exact pu_agree_no 6 (by decide) (by decide) rfl rfl
  rw [e1, e2]; simp only [pu_bnd2_p]
  by_cases c1 : z < 1
  · rw [if_pos c1, if_pos c1]; exact pu_agree_no 6 (by decide) (by decide) rfl rfl
  rw [if_neg c1, if_neg c1, bnd_s rfl, show f_ln_size L = n from h.sz]
  by_cases c2 : a8 = n
  · rw [if_pos c2, if_pos c2]
    refine ⟨rfl, (by decide : (0 : Int) ≤ (0 : Int32).toInt), (by decide : (0 : Int32).toInt ≤ 6), fun _ => ⟨hb, hps, rfl, rfl, rfl, rfl, ?_, ⟨p5, p6⟩, ⟨p11, p12⟩, ⟨w0, w1⟩, ?_, z1⟩⟩
    · show 0 ≤ s.toInt ∧ s.toInt ≤ 1
      clear hps; rcases hs with rfl | rfl <;> decide
    · rw [Int32.lt_iff_toInt_lt] at c1; exact Int.not_lt.mp c1
  · rw [if_neg c2, if_neg c2]; exact pu_agree_no 6 (by decide) (by decide) rfl rfl
theorem pu_fields_eq {L : LnT} {t : Nat → Int32} {n : Int32} (h : pu_RL L t n) (rd : Int32) (P : PsT) (nb : Nat → Int32) (sd rt pa cl nu : Int32) : pu_agree (f_rd_readInto rd P L) (f_md_readFields t nb n sd rt pa cl nu) := by
  have n1 : ¬ (1 : Int32) = 0 := by decide
  rw [pu_cfields, pu_ffields, bnd_s rfl]
  obtain ⟨k1, k2⟩ := pu_clear_L 65 0 P (by decide) (by decide)
  have hI : pu_IB (f_ps_clearBoard P).1 nb 7 0 := ⟨fun j hj q => by omega, fun j hj _ => by
    have := k2 j hj
    rw [if_pos (by show (0 : Int) ≤ j; omega)] at this
    exact this⟩
  have RK := pu_ranks_L h 9 9 7 0 (f_ps_clearBoard P) nb (by decide) (by decide) (by decide) (by decide) (by decide) h.lo hI
  have er : f_rd_readRanks 0 (f_ps_clearBoard P) L = f_rd_readRanks_L3 L 9 7 0 (f_ps_clearBoard P) := by unfold f_rd_readRanks; rfl
  have eb : f_md_readBoard t nb n 0 = f_md_readBoard_L3 t n 9 7 nb 0 := by unfold f_md_readBoard; rfl
  rw [er, eb]
  rcases RK with ⟨⟨R', P', e1⟩, x, y, e2⟩ | ⟨a1, P1, nb1, e1, e2, e3, hb, p1, p2⟩
  · rw [e1, e2]; simp only [pu_bnd2_p, if_true]; exact pu_agree_no 1 (by decide) (by decide) rfl rfl
  rw [e1, e2]; simp only [pu_bnd2_p, n1, if_false]
  (try dsimp only)
  obtain ⟨a2, r2, e1, e2, hr, p3, p4⟩ := pu_right1 h p1 p2 (ch := 32) (by decide)
  rw [e1, e2]; simp only [pu_bnd2_p]
  rcases hr with rfl | rfl
  · rw [if_pos rfl, if_pos rfl]; exact pu_agree_no 1 (by decide) (by decide) rfl rfl
  rw [if_neg n1, if_neg n1, bnd_s rfl]
  rcases pu_side_eq h p3 p4 P1 with ⟨R', P', e1, u, e2, w, e3⟩ | ⟨s, hs, q1, q2, e1, hq⟩
  · rw [e1, e2]; simp only [pu_bnd2_p, if_true]; rw [e3]; simp only [pu_bnd2_p, if_true]
    split <;> exact pu_agree_no 2 (by decide) (by decide) rfl rfl
  · rw [e1]; simp only [pu_bnd2_p, n1, if_false]
    (try dsimp only)
    rcases hq with ⟨rfl, w1, w2⟩ | ⟨rfl, w1, w2, w3⟩
    · rw [if_neg w1, w2]; simp only [pu_bnd2_p, n1, if_false]
      exact pu_tail_eq h (P := (P1.1, 0, P1.2.2.1, P1.2.2.2.1, P1.2.2.2.2.1, P1.2.2.2.2.2)) hb (.inl rfl) rfl (by omega) q2
    · rw [if_pos w1, w2]; simp only [pu_bnd2_p, if_true]; rw [w3]; simp only [pu_bnd2_p, n1, if_false]
      exact pu_tail_eq h (P := (P1.1, 1, P1.2.2.1, P1.2.2.2.1, P1.2.2.2.2.1, P1.2.2.2.2.2)) hb (.inr rfl) rfl (by omega) q2
theorem pu_cnt_eq {P : PsT} {b : Nat → Int32} (h : pu_RB P.1 b) (m : Int32) : ∀ (k : Nat) (c v : Int32), 0 ≤ v.toInt → f_ps_count_L4 P m k c v = f_md_howMany_L4 b m k c v := by
  intro k
  induction k with
  | zero => intro c v _; rfl
  | succ k ih =>
    intro c v h0
    rw [f_ps_count_L4, f_md_howMany_L4]
    have z64 : (64 : Int32).toInt = 64 := by decide
    have z1 : (1 : Int32).toInt = 1 := by decide
    by_cases q : (64 : Int32) ≤ v
    · rw [if_pos q, if_pos q]
    · rw [if_neg q, if_neg q]
      rw [Int32.le_iff_toInt_le, z64] at q
      have e : (v + 1).toInt = v.toInt + 1 := by rw [pu_ia, z1]; omega
      have g : 0 ≤ (v + 1).toInt := by omega
      rw [h.eq _ (by rw [pu_tn]; omega), Int32.add_zero, ih _ _ g, ih _ _ g]
theorem pu_count_eq {P : PsT} {b : Nat → Int32} (h : pu_RB P.1 b) (m : Int32) : f_ps_count P m = f_md_howMany b m := pu_cnt_eq h m 65 0 0 (by decide)
theorem pu_king_L {P : PsT} {b : Nat → Int32} (h : pu_RB P.1 b) {of_ : Int32} (ho : of_ = 0 ∨ of_ = 1) : ∀ (k : Nat) (v : Int32), 0 ≤ v.toInt → v.toInt ≤ 64 → (64 - v.toInt).toNat < k →
    ∃ N : Int, 0 ≤ N ∧ N ≤ 64 - v.toInt ∧ (∀ c : Int32, 0 ≤ c.toInt → c.toInt ≤ v.toInt → (f_md_howMany_L4 b (f_gn_manOf 6 of_) k c v).toInt = c.toInt + N) ∧
      (N = 0 → ∀ w, f_md_kingOf_L4 b of_ k w v = w) ∧ (N = 1 → ∃ s : Int32, 0 ≤ s.toInt ∧ s.toInt < 64 ∧ f_ps_kingSquare_L2 P of_ k v = s ∧ ∀ w, f_md_kingOf_L4 b of_ k w v = s) := by
  have em : (6 : Int32) + 6 * of_ = f_gn_manOf 6 of_ := by rcases ho with rfl | rfl <;> decide
  have z64 : (64 : Int32).toInt = 64 := by decide
  have z1 : (1 : Int32).toInt = 1 := by decide
  intro k
  induction k with
  | zero => intro v h0 h1 h2; omega
  | succ k ih =>
    intro v h0 h1 h2
    by_cases q : (64 : Int32) ≤ v
    · refine ⟨0, by omega, by omega, fun c _ _ => ?_, fun _ w => ?_, fun q => by omega⟩
      · rw [f_md_howMany_L4, if_pos q]; omega
      · rw [f_md_kingOf_L4, if_pos q]
    · have q' := q
      rw [Int32.le_iff_toInt_le, z64] at q'
      have e : (v + 1).toInt = v.toInt + 1 := by rw [pu_ia, z1]; omega
      have g1 : 0 ≤ (v + 1).toInt := by omega
      have g2 : (v + 1).toInt ≤ 64 := by omega
      have g3 : (64 - (v + 1).toInt).toNat < k := by omega
      obtain ⟨N, n0, n1, a1, a2, a3⟩ := ih (v + 1) g1 g2 g3
      by_cases d : b v.toNatClampNeg = f_gn_manOf 6 of_
      · refine ⟨N + 1, by omega, by omega, fun c c0 c1 => ?_, fun q => by omega, fun q9 => ⟨v, h0, by omega, ?_, fun w => ?_⟩⟩
        · have ec : (c + 1).toInt = c.toInt + 1 := by rw [pu_ia, z1]; omega
          have g4 : 0 ≤ (c + 1).toInt := by omega
          have g5 : (c + 1).toInt ≤ (v + 1).toInt := by omega
          rw [f_md_howMany_L4, if_neg q, if_pos d, a1 (c + 1) g4 g5]; omega
        · rw [f_ps_kingSquare_L2, if_neg q, bnd_s rfl, h.eq _ (by rw [pu_tn]; omega), if_pos d]
        · rw [f_md_kingOf_L4, if_neg q, em, if_pos d]
          exact a2 (by omega) v
      · refine ⟨N, by omega, by omega, fun c c0 c1 => ?_, fun q9 w => ?_, fun q9 => ?_⟩
        · have g5 : c.toInt ≤ (v + 1).toInt := by omega
          rw [f_md_howMany_L4, if_neg q, if_neg d, Int32.add_zero, a1 c c0 g5]
        · rw [f_md_kingOf_L4, if_neg q, em, if_neg d]; exact a2 q9 w
        · obtain ⟨s, s0, s1, s2, s3⟩ := a3 q9
          refine ⟨s, s0, s1, ?_, fun w => ?_⟩
          · rw [f_ps_kingSquare_L2, if_neg q, bnd_s rfl, h.eq _ (by rw [pu_tn]; omega), if_neg d]; exact s2
          · rw [f_md_kingOf_L4, if_neg q, em, if_neg d]; exact s3 w
theorem pu_king_eq {P : PsT} {b : Nat → Int32} (h : pu_RB P.1 b) {of_ : Int32} (ho : of_ = 0 ∨ of_ = 1) (h1 : f_md_howMany b (f_gn_manOf 6 of_) = 1) : f_ps_kingSquare P of_ = f_md_kingOf b of_ ∧ 0 ≤ (f_md_kingOf b of_).toInt ∧ (f_md_kingOf b of_).toInt < 64 := by
  obtain ⟨N, n0, n1, a1, a2, a3⟩ := pu_king_L h ho 65 0 (by decide) (by decide) (by decide)
  have e : (f_md_howMany b (f_gn_manOf 6 of_)).toInt = N := by
    have := a1 0 (by decide) (by decide)
    unfold f_md_howMany
    rw [this]; show (0 : Int) + N = N; omega
  rw [h1] at e
  have z1 : (1 : Int32).toInt = 1 := by decide
  obtain ⟨s, s0, s1, s2, s3⟩ := a3 (by omega)
  have e1 : f_ps_kingSquare P of_ = s := by unfold f_ps_kingSquare; exact s2
  have e2 : f_md_kingOf b of_ = s := by unfold f_md_kingOf; exact s3 0
  rw [e1, e2]; exact ⟨rfl, s0, s1⟩
theorem pu_hm_rg (b : Nat → Int32) (m : Int32) : ∀ (k : Nat) (c v : Int32), 0 ≤ v.toInt → v.toInt ≤ 64 → (64 - v.toInt).toNat < k → 0 ≤ c.toInt → c.toInt ≤ v.toInt → 0 ≤ (f_md_howMany_L4 b m k c v).toInt ∧ (f_md_howMany_L4 b m k c v).toInt ≤ 64 := by
  have z64 : (64 : Int32).toInt = 64 := by decide
  have z1 : (1 : Int32).toInt = 1 := by decide
  intro k
  induction k with
  | zero => intro c v h0 h1 h2; omega
  | succ k ih =>
    intro c v h0 h1 h2 c0 c1
    rw [f_md_howMany_L4]
    by_cases q : (64 : Int32) ≤ v
    · rw [if_pos q]; omega
    · rw [if_neg q]
      rw [Int32.le_iff_toInt_le, z64] at q
      have e : (v + 1).toInt = v.toInt + 1 := by rw [pu_ia, z1]; omega
      have ec : (c + 1).toInt = c.toInt + 1 := by rw [pu_ia, z1]; omega
      have g1 : 0 ≤ (v + 1).toInt := by omega
      have g2 : (v + 1).toInt ≤ 64 := by omega
      have g3 : (64 - (v + 1).toInt).toNat < k := by omega
      have g4 : 0 ≤ (c + 1).toInt := by omega
      have g5 : (c + 1).toInt ≤ (v + 1).toInt := by omega
      have g6 : c.toInt ≤ (v + 1).toInt := by omega
      rw [Int32.add_zero]
      split
      · exact ih _ _ g1 g2 g3 g4 g5
      · exact ih _ _ g1 g2 g3 c0 g6
theorem pu_howMany_rg (b : Nat → Int32) (m : Int32) : 0 ≤ (f_md_howMany b m).toInt ∧ (f_md_howMany b m).toInt ≤ 64 := pu_hm_rg b m 65 0 0 (by decide) (by decide) (by decide) (by decide) (by decide)
theorem pu_extra_eq {P : PsT} {b : Nat → Int32} (h : pu_RB P.1 b) {kd of_ us : Int32} (u0 : 0 ≤ us.toInt) (pu_u1 : us.toInt ≤ 2) : f_ps_extra P kd of_ us = f_md_above (f_md_howMany b (f_gn_manOf kd of_)) us ∧ 0 ≤ (f_md_above (f_md_howMany b (f_gn_manOf kd of_)) us).toInt ∧ (f_md_above (f_md_howMany b (f_gn_manOf kd of_)) us).toInt ≤ 64 := by
  have r := pu_howMany_rg b (f_gn_manOf kd of_)
  unfold f_ps_extra
  rw [bnd_s rfl, bnd_s rfl, pu_count_eq h]
  generalize f_md_howMany b (f_gn_manOf kd of_) = N at *
  unfold f_md_above
  have e : (N - us).toInt = N.toInt - us.toInt := by rw [pu_isb]; omega
  have z0 : (0 : Int32).toInt = 0 := by decide
  by_cases c : N ≤ us
  · have c1 : ¬ (0 : Int32) < N - us := by rw [Int32.lt_iff_toInt_lt, e, z0]; rw [Int32.le_iff_toInt_le] at c; omega
    rw [if_pos c, if_neg c1]; decide
  · have c1 : (0 : Int32) < N - us := by rw [Int32.lt_iff_toInt_lt, e, z0]; rw [Int32.le_iff_toInt_le] at c; omega
    rw [if_neg c, if_pos c1, e]
    rw [Int32.le_iff_toInt_le] at c
    exact ⟨rfl, by omega, by omega⟩
theorem pu_many_eq {P : PsT} {b : Nat → Int32} (h : pu_RB P.1 b) {of_ fi : Int32} (ho : (of_ = 0 ∧ fi = 0) ∨ (of_ = 1 ∧ fi = 6)) : f_ps_hasTooMany P of_ = f_md_tooMany b fi := by
  have m1 : (1 : Int32) + fi = f_gn_manOf 1 of_ := by rcases ho with ⟨rfl, rfl⟩ | ⟨rfl, rfl⟩ <;> decide
  have m2 : (2 : Int32) + fi = f_gn_manOf 2 of_ := by rcases ho with ⟨rfl, rfl⟩ | ⟨rfl, rfl⟩ <;> decide
  have m3 : (3 : Int32) + fi = f_gn_manOf 3 of_ := by rcases ho with ⟨rfl, rfl⟩ | ⟨rfl, rfl⟩ <;> decide
  have m4 : (4 : Int32) + fi = f_gn_manOf 4 of_ := by rcases ho with ⟨rfl, rfl⟩ | ⟨rfl, rfl⟩ <;> decide
  have m5 : (5 : Int32) + fi = f_gn_manOf 5 of_ := by rcases ho with ⟨rfl, rfl⟩ | ⟨rfl, rfl⟩ <;> decide
  obtain ⟨x2, a2, b2⟩ := pu_extra_eq h (kd := 2) (of_ := of_) (us := 2) (by decide) (by decide)
  obtain ⟨x3, a3, b3⟩ := pu_extra_eq h (kd := 3) (of_ := of_) (us := 2) (by decide) (by decide)
  obtain ⟨x4, a4, b4⟩ := pu_extra_eq h (kd := 4) (of_ := of_) (us := 2) (by decide) (by decide)
  obtain ⟨x5, a5, b5⟩ := pu_extra_eq h (kd := 5) (of_ := of_) (us := 1) (by decide) (by decide)
  have r := pu_howMany_rg b (f_gn_manOf 1 of_)
  unfold f_ps_hasTooMany f_md_tooMany
  simp only [pu_bnd_k]
  rw [m1, m2, m3, m4, m5, x2, x3, x4, x5, pu_count_eq h]
  generalize f_md_above (f_md_howMany b (f_gn_manOf 2 of_)) 2 = y2 at *
  generalize f_md_above (f_md_howMany b (f_gn_manOf 3 of_)) 2 = y3 at *
  generalize f_md_above (f_md_howMany b (f_gn_manOf 4 of_)) 2 = y4 at *
  generalize f_md_above (f_md_howMany b (f_gn_manOf 5 of_)) 1 = y5 at *
  generalize f_md_howMany b (f_gn_manOf 1 of_) = pw at *
  clear m1 m2 m3 m4 m5 x2 x3 x4 x5 ho h
  by_cases c : (8 : Int32) < pw
  · rw [if_pos c]
    rw [if_neg (by (simp only [Int32.lt_iff_toInt_lt, Int32.le_iff_toInt_le, ← Int32.toInt_inj, pu_ia, pu_isb, pu_im, pu_tn, pu_in1, pu_in2, pu_in3, pu_in4, pu_in8, Int32.reduceToInt, Int.reduceNeg, ne_eq] at *; omega))]
  · rw [if_neg c]
theorem pu_pawn6 {m : Int32} (h0 : 0 ≤ m.toInt) (h1 : m.toInt ≤ 12) : m - m / 6 * 6 = 1 ↔ f_gn_kindOf m = 1 :=
  pu_all_rg (P := fun m => m - m / 6 * 6 = 1 ↔ f_gn_kindOf m = 1) 13 (by decide) h0 (by omega)
theorem pu_pf0 (b : Nat → Int32) : ∀ (k : Nat) (v : Int32), f_md_pawnsFit_L4 b k 0 v = 0 := by
  intro k
  induction k with
  | zero => intro v; rfl
  | succ k ih =>
    intro v
    rw [f_md_pawnsFit_L4]
    by_cases c : (8 : Int32) ≤ v
    · rw [if_pos c, if_pos rfl]
    · rw [if_neg c, if_pos rfl]; exact ih _
def pu_pfin (b : Nat → Int32) : Int32 := (bnd (f_md_tooMany b (0 : Int32)) (fun r_3 => (if r_3 = 0 then (bnd (f_md_tooMany b (6 : Int32)) (fun r_5 => (if r_5 = 0 then (1 : Int32) else (0 : Int32)))) else (0 : Int32))))
theorem pu_pf1 {P : PsT} {b : Nat → Int32} (h : pu_RB P.1 b) : ∀ (k j : Nat) (v : Int32), 0 ≤ v.toInt → v.toInt ≤ 8 → (8 - v.toInt).toNat < k → (8 - v.toInt).toNat < j →
    f_md_pawnsFit_L4 b k 1 v = if f_ps_hasMisplacedPawn_L2 P j v = 0 then pu_pfin b else 0 := by
  have z8 : (8 : Int32).toInt = 8 := by decide
  have z1 : (1 : Int32).toInt = 1 := by decide
  have n1 : ¬ (1 : Int32) = 0 := by decide
  intro k
  induction k with
  | zero => intro j v h0 h1 h2; omega
  | succ k ih =>
    intro j v h0 h1 h2 h3
    obtain ⟨j, rfl⟩ : ∃ k', j = k' + 1 := ⟨j - 1, by omega⟩
    rw [f_md_pawnsFit_L4, f_ps_hasMisplacedPawn_L2]
    by_cases c : (8 : Int32) ≤ v
    · rw [if_pos c, if_pos c, if_neg n1, if_pos rfl]; rfl
    · rw [if_neg c, if_neg c, if_neg n1]
      rw [Int32.le_iff_toInt_le, z8] at c
      have e : (v + 1).toInt = v.toInt + 1 := by rw [pu_ia, z1]; omega
      have g1 : 0 ≤ (v + 1).toInt := by omega
      have g2 : (v + 1).toInt ≤ 8 := by omega
      have g3 : (8 - (v + 1).toInt).toNat < k := by omega
      have g4 : (8 - (v + 1).toInt).toNat < j := by omega
      simp only [pu_bnd_k]
      have c7 : v.toInt < 8 := by omega
      rw [pu_manAt_eq h h0 c7 (r := 0) (by decide) (by decide), pu_manAt_eq h h0 c7 (r := 7) (by decide) (by decide)]
      have i1 : (8 * 0 + v : Int32) = v := by rw [show (8 : Int32) * 0 = 0 by decide, Int32.zero_add]
      have i2 : (8 * 7 + v : Int32) = 56 + v := by rw [show (8 : Int32) * 7 = 56 by decide]
      rw [i1, i2]
      have e56 : (56 + v).toInt = 56 + v.toInt := by rw [pu_ia, show (56 : Int32).toInt = 56 by decide]; omega
      obtain ⟨u0, pu_u1⟩ := h.rg v.toNatClampNeg (by rw [pu_tn]; omega)
      obtain ⟨w0, w1⟩ := h.rg (56 + v).toNatClampNeg (by rw [pu_tn, e56]; omega)
      by_cases d1 : f_gn_kindOf (b v.toNatClampNeg) = 1
      · rw [if_pos ((pu_pawn6 u0 pu_u1).mpr d1), if_pos d1, if_neg n1, pu_pf0]
      · rw [if_neg (fun q => d1 ((pu_pawn6 u0 pu_u1).mp q)), if_neg d1]
        by_cases d2 : f_gn_kindOf (b (56 + v).toNatClampNeg) = 1
        · rw [if_pos ((pu_pawn6 w0 w1).mpr d2), if_pos d2, if_neg n1, pu_pf0]
        · rw [if_neg (fun q => d2 ((pu_pawn6 w0 w1).mp q)), if_neg d2]
          exact ih j (v + 1) g1 g2 g3 g4
theorem pu_pawns_eq {P : PsT} {b : Nat → Int32} (h : pu_RB P.1 b) : f_md_pawnsFit b = if f_ps_hasMisplacedPawn P = 0 then (if f_ps_hasTooMany P 0 = 0 then (if f_ps_hasTooMany P 1 = 0 then 1 else 0) else 0) else 0 := by
  have e1 := pu_pf1 h 9 9 0 (by decide) (by decide) (by decide) (by decide)
  have e2 : f_md_pawnsFit b = f_md_pawnsFit_L4 b 9 1 0 := by unfold f_md_pawnsFit; rfl
  have e3 : f_ps_hasMisplacedPawn P = f_ps_hasMisplacedPawn_L2 P 9 0 := by unfold f_ps_hasMisplacedPawn; rfl
  have e4 : pu_pfin b = (if f_ps_hasTooMany P 0 = 0 then (if f_ps_hasTooMany P 1 = 0 then 1 else 0) else 0) := by
    unfold pu_pfin
    simp only [pu_bnd_k]
    rw [pu_many_eq h (of_ := 0) (fi := 0) (.inl ⟨rfl, rfl⟩), pu_many_eq h (of_ := 1) (fi := 6) (.inr ⟨rfl, rfl⟩)]
  rw [e2, e3, e1, e4]
theorem pu_rf_step {P : PsT} {b : Nat → Int32} (h : pu_RB P.1 b) {rt v : Int32} (v0 : 0 ≤ v.toInt) (v3 : v.toInt < 4) (k : Nat) (v1 : Int32) :
    f_md_rightsFit_L4 b rt (k + 1) v1 v = f_md_rightsFit_C81 rt (fun a0 a1 => f_md_rightsFit_L4 b rt k a0 a1) v1 v (f_ps_rightHolds P v) := by
  have q : ∀ (f r : Int32), 0 ≤ f.toInt → f.toInt < 8 → 0 ≤ r.toInt → r.toInt < 8 → f_ps_manAt P f r = b (8 * r + f).toNatClampNeg := fun f r a1 a2 a3 a4 => pu_manAt_eq h a1 a2 a3 a4
  have q1 := q 4 0 (by decide) (by decide) (by decide) (by decide)
  have q2 := q 7 0 (by decide) (by decide) (by decide) (by decide)
  have q3 := q 0 0 (by decide) (by decide) (by decide) (by decide)
  have q4 := q 4 7 (by decide) (by decide) (by decide) (by decide)
  have q5 := q 7 7 (by decide) (by decide) (by decide) (by decide)
  have q6 := q 0 7 (by decide) (by decide) (by decide) (by decide)
  have o0 : f_gn_ownRank 0 0 = 0 := by decide
  have o1 : f_gn_ownRank 0 1 = 7 := by decide
  have k0 : f_gn_manOf 6 0 = 6 := by decide
  have k1 : f_gn_manOf 6 1 = 12 := by decide
  have r0 : f_gn_manOf 4 0 = 4 := by decide
  have r1 : f_gn_manOf 4 1 = 10 := by decide
  have i1 : (8 * 0 + 4 : Int32).toNatClampNeg = 4 := by decide
  have i2 : (8 * 0 + 7 : Int32).toNatClampNeg = 7 := by decide
  have i3 : (8 * 0 + 0 : Int32).toNatClampNeg = 0 := by decide
  have i4 : (8 * 7 + 4 : Int32).toNatClampNeg = 60 := by decide
  have i5 : (8 * 7 + 7 : Int32).toNatClampNeg = 63 := by decide
  have i6 : (8 * 7 + 0 : Int32).toNatClampNeg = 56 := by decide
  have j1 : (0 + 4 : Int32).toNatClampNeg = 4 := by decide
  have j2 : (0 + 7 : Int32).toNatClampNeg = 7 := by decide
  have j3 : (0 : Int32).toNatClampNeg = 0 := by decide
  have j4 : (56 + 4 : Int32).toNatClampNeg = 60 := by decide
  have j5 : (56 + 7 : Int32).toNatClampNeg = 63 := by decide
  have j6 : (56 : Int32).toNatClampNeg = 56 := by decide
  have m1 : (6 + 6 : Int32) = 12 := by decide
  have m2 : (4 + 6 : Int32) = 10 := by decide
  have m3 : (6 + 0 : Int32) = 6 := by decide
  have m4 : (4 + 0 : Int32) = 4 := by decide
  rw [i1] at q1; rw [i2] at q2; rw [i3] at q3; rw [i4] at q4; rw [i5] at q5; rw [i6] at q6
  rw [f_md_rightsFit_L4]
  unfold f_ps_rightHolds
  simp only [pu_bnd_k, o0, o1, k0, k1, r0, r1, q1, q2, q3, q4, q5, q6, j1, j2, j3, j4, j5, j6, m1, m2, m3, m4]
  have c4 : ¬ (4 : Int32) ≤ v := by rw [Int32.le_iff_toInt_le, show (4 : Int32).toInt = 4 by decide]; omega
  rw [if_neg c4]
  by_cases c2 : (2 : Int32) ≤ v
  · simp only [if_pos c2]
    by_cases c3 : v - v / 2 * 2 = 0
    · simp only [if_pos c3]
      by_cases a1 : b 60 = 12
      · simp only [if_pos a1]; split <;> rfl
      · simp only [if_neg a1]
    · simp only [if_neg c3]
      by_cases a1 : b 60 = 12
      · simp only [if_pos a1]; split <;> rfl
      · simp only [if_neg a1]
  · simp only [if_neg c2]
    by_cases c3 : v - v / 2 * 2 = 0
    · simp only [if_pos c3]
      by_cases a1 : b 4 = 6
      · simp only [if_pos a1]; split <;> rfl
      · simp only [if_neg a1]
    · simp only [if_neg c3]
      by_cases a1 : b 4 = 6
      · simp only [if_pos a1]; split <;> rfl
      · simp only [if_neg a1]
theorem pu_rf0 {P : PsT} {b : Nat → Int32} (h : pu_RB P.1 b) {rt : Int32} : ∀ (k : Nat) (v : Int32), 0 ≤ v.toInt → v.toInt ≤ 4 → f_md_rightsFit_L4 b rt k 0 v = 0 := by
  intro k
  induction k with
  | zero => intro v _ _; rfl
  | succ k ih =>
    intro v v0 v4
    by_cases c : v.toInt = 4
    · rw [f_md_rightsFit_L4, if_pos (by rw [Int32.le_iff_toInt_le, show (4 : Int32).toInt = 4 by decide]; omega)]
    · have z1 : (1 : Int32).toInt = 1 := by decide
      have e : (v + 1).toInt = v.toInt + 1 := by rw [pu_ia, z1]; omega
      have g1 : 0 ≤ (v + 1).toInt := by omega
      have g2 : (v + 1).toInt ≤ 4 := by omega
      have g3 : v.toInt < 4 := by omega
      rw [pu_rf_step h v0 g3]
      unfold f_md_rightsFit_C81
      rw [if_pos rfl]
      exact ih (v + 1) g1 g2
theorem pu_rights_fit {P : PsT} {b : Nat → Int32} (h : pu_RB P.1 b) {rt : Int32} (hr : P.2.2.1 = rt) : ∀ (k j : Nat) (v : Int32), 0 ≤ v.toInt → v.toInt ≤ 4 → (4 - v.toInt).toNat < k → (4 - v.toInt).toNat < j →
    f_ps_rightsHold_L2 P j v = f_md_rightsFit_L4 b rt k 1 v := by
  have z4 : (4 : Int32).toInt = 4 := by decide
  have z1 : (1 : Int32).toInt = 1 := by decide
  have n1 : ¬ (1 : Int32) = 0 := by decide
  have l4 : f_st_length 2 = 4 := by decide
  intro k
  induction k with
  | zero => intro j v h0 h1 h2; omega
  | succ k ih =>
    intro j v h0 h1 h2 h3
    obtain ⟨j, rfl⟩ : ∃ k', j = k' + 1 := ⟨j - 1, by omega⟩
    by_cases c : v.toInt = 4
    · have c4 : (4 : Int32) ≤ v := by rw [Int32.le_iff_toInt_le, z4]; omega
      rw [f_md_rightsFit_L4, f_ps_rightsHold_L2, l4, bnd_s rfl, if_pos c4, if_pos c4]
    · have g0 : v.toInt < 4 := by omega
      have c4 : ¬ (4 : Int32) ≤ v := by rw [Int32.le_iff_toInt_le, z4]; omega
      have e : (v + 1).toInt = v.toInt + 1 := by rw [pu_ia, z1]; omega
      have g1 : 0 ≤ (v + 1).toInt := by omega
      have g2 : (v + 1).toInt ≤ 4 := by omega
      have g3 : (4 - (v + 1).toInt).toNat < k := by omega
      have g4 : (4 - (v + 1).toInt).toNat < j := by omega
      rw [pu_rf_step h h0 g0, f_ps_rightsHold_L2, l4, bnd_s rfl, if_neg c4]
      unfold f_md_rightsFit_C81 f_ps_hasRight
      simp only [pu_bnd_k]
      rw [hr, if_neg n1]
      have i1 := ih j (v + 1) g1 g2 g3 g4
      have i0 := pu_rf0 h (rt := rt) k (v + 1) g1 g2
      generalize f_ps_rightHolds P v = x
      by_cases d : (rt >>> (v &&& 31)) &&& 1 = 0
      · simp only [if_pos d, if_true]
        rw [i1]; split <;> rfl
      · simp only [if_neg d, n1, if_false]
        by_cases w : x = 0
        · rw [if_pos w, if_pos w, i0]
        · rw [if_neg w, if_neg w, i1]
theorem pu_rights_h {P : PsT} {b : Nat → Int32} (h : pu_RB P.1 b) {rt : Int32} (hr : P.2.2.1 = rt) : f_ps_rightsHold P = f_md_rightsFit b rt := by
  have e1 := pu_rights_fit h hr 5 101 0 (by decide) (by decide) (by decide) (by decide)
  have e2 : f_ps_rightsHold P = f_ps_rightsHold_L2 P 101 0 := by unfold f_ps_rightsHold; rfl
  have e3 : f_md_rightsFit b rt = f_md_rightsFit_L4 b rt 5 1 0 := by unfold f_md_rightsFit; rfl
  rw [e2, e3, e1]
theorem pu_passant_h {P : PsT} {b : Nat → Int32} {sd rt pa cl nu : Int32} (h : pu_RP P b sd rt pa cl nu) : (pa = -1 → f_md_passantFits b sd pa cl = 1) ∧ (pa ≠ -1 → f_ps_passantHolds P = f_md_passantFits b sd pa cl) := by
  have pr := h.par; have sr := h.sdr
  constructor
  · rintro rfl
    unfold f_md_passantFits
    rw [if_neg (by decide)]
  · intro hp
    have p0 : 0 ≤ pa.toInt := by
      have : pa.toInt ≠ -1 := fun q => hp (Int32.toInt_inj.mp q)
      omega
    unfold f_md_passantFits f_ps_passantHolds
    simp only [pu_bnd_k]
    have hle : 0 ≤ pa := by rw [Int32.le_iff_toInt_le]; exact p0
    rw [if_pos hle, h.esd, h.epa, h.ecl]
    have q : ∀ r : Int32, 0 ≤ r.toInt → r.toInt < 8 → f_ps_manAt P pa r = b (8 * r + pa).toNatClampNeg := fun r a3 a4 => pu_manAt_eq h.bd p0 (by omega) a3 a4
    have hs : sd = 0 ∨ sd = 1 := by
      have : sd.toInt = 0 ∨ sd.toInt = 1 := by omega
      rcases this with w | w
      · exact .inl (Int32.toInt_inj.mp w)
      · exact .inr (Int32.toInt_inj.mp w)
    rcases hs with rfl | rfl
    · have o1 : f_gn_ownRank 3 (1 - 0) = 4 := by decide
      have o2 : f_gn_ownRank 2 (1 - 0) = 5 := by decide
      have o3 : f_gn_ownRank 1 (1 - 0) = 6 := by decide
      have o4 : f_gn_manOf 1 (1 - 0) = 7 := by decide
      rw [o1, o2, o3, o4, q 4 (by decide) (by decide), q 5 (by decide) (by decide), q 6 (by decide) (by decide), if_pos rfl]
      have e1 : (8 * 6 + pa : Int32) = pa + 48 := by rw [show (8 : Int32) * 6 = 48 by decide, Int32.add_comm]
      have e2 : (8 * 5 + pa : Int32) = pa + 48 + -8 := by rw [show (8 : Int32) * 5 = 48 + -8 by decide, Int32.add_comm, Int32.add_assoc]
      have e3 : (8 * 4 + pa : Int32) = pa + 48 + 2 * -8 := by rw [show (8 : Int32) * 4 = 48 + 2 * -8 by decide, Int32.add_comm, Int32.add_assoc]
      rw [e1, e2, e3]
      generalize b (pa + 48).toNatClampNeg = x1; generalize b (pa + 48 + -8).toNatClampNeg = x2; generalize b (pa + 48 + 2 * -8).toNatClampNeg = x3
      by_cases a1 : x1 = 0 <;> by_cases a2 : x2 = 0 <;> by_cases a3 : x3 = 7 <;> by_cases a4 : cl = 0 <;> simp only [a1, a2, a3, a4, if_true, if_false]
    · have o1 : f_gn_ownRank 3 (1 - 1) = 3 := by decide
      have o2 : f_gn_ownRank 2 (1 - 1) = 2 := by decide
      have o3 : f_gn_ownRank 1 (1 - 1) = 1 := by decide
      have o4 : f_gn_manOf 1 (1 - 1) = 1 := by decide
      rw [o1, o2, o3, o4, q 3 (by decide) (by decide), q 2 (by decide) (by decide), q 1 (by decide) (by decide), if_neg (show ¬ (1 : Int32) = 0 by decide)]
      have e1 : (8 * 1 + pa : Int32) = pa + 8 := by rw [show (8 : Int32) * 1 = 8 by decide, Int32.add_comm]
      have e2 : (8 * 2 + pa : Int32) = pa + 8 + 8 := by rw [show (8 : Int32) * 2 = 8 + 8 by decide, Int32.add_comm, Int32.add_assoc]
      have e3 : (8 * 3 + pa : Int32) = pa + 8 + 2 * 8 := by rw [show (8 : Int32) * 3 = 8 + 2 * 8 by decide, Int32.add_comm, Int32.add_assoc]
      rw [e1, e2, e3]
      generalize b (pa + 8).toNatClampNeg = x1; generalize b (pa + 8 + 8).toNatClampNeg = x2; generalize b (pa + 8 + 2 * 8).toNatClampNeg = x3
      by_cases a1 : x1 = 0 <;> by_cases a2 : x2 = 0 <;> by_cases a3 : x3 = 1 <;> by_cases a4 : cl = 0 <;> simp only [a1, a2, a3, a4, if_true, if_false]
theorem pu_copy_L {v1 th sd rt pa cl nu tl at_ sd2 rt2 pa2 cl2 nu2 : Int32} {nb : Nat → Int32} : ∀ (k : Nat) (v : Int32) (b : Nat → Int32), 0 ≤ v.toInt → v.toInt ≤ 64 → (64 - v.toInt).toNat < k →
    ∃ b', f_md_record_L98 k v1 v th b sd rt pa cl nu tl at_ nb sd2 rt2 pa2 cl2 nu2 = (0, th, b', sd2, rt2, pa2, cl2, nu2, 0, at_, nb, sd2, rt2, pa2, cl2, nu2) ∧ ∀ j : Nat, j < 64 → b' j = if v.toInt ≤ j then nb j else b j := by
  have z64 : (64 : Int32).toInt = 64 := by decide
  have z1 : (1 : Int32).toInt = 1 := by decide
  intro k
  induction k with
  | zero => intro v b h0 h1 h2; omega
  | succ k ih =>
    intro v b h0 h1 h2
    rw [f_md_record_L98]
    by_cases c : (64 : Int32) ≤ v
    · rw [if_pos c]
      rw [Int32.le_iff_toInt_le, z64] at c
      exact ⟨b, rfl, fun j hj => by rw [if_neg (by omega)]⟩
    · rw [if_neg c]
      rw [Int32.le_iff_toInt_le, z64] at c
      have e : (v + 1).toInt = v.toInt + 1 := by rw [pu_ia, z1]; omega
      have g1 : 0 ≤ (v + 1).toInt := by omega
      have g2 : (v + 1).toInt ≤ 64 := by omega
      have g3 : (64 - (v + 1).toInt).toNat < k := by omega
      obtain ⟨b', p1, p2⟩ := ih (v + 1) (upd b v.toNatClampNeg (nb v.toNatClampNeg)) g1 g2 g3
      refine ⟨b', p1, fun j hj => ?_⟩
      rw [p2 j hj, e]
      unfold upd
      by_cases c1 : v.toInt + 1 ≤ (j : Int)
      · rw [if_pos c1, if_pos (by omega)]
      · rw [if_neg c1]
        by_cases c2 : j = v.toNatClampNeg
        · rw [if_pos c2, if_pos (by rw [c2, pu_tn]; omega), c2]
        · rw [if_neg c2, if_neg (by rw [pu_tn] at c2; omega)]
def pu_rcode (nb : Nat → Int32) (sd rt pa cl : Int32) : Int32 :=
  if f_md_howMany nb 6 = 1 then (if f_md_howMany nb 12 = 1 then (if f_md_pawnsFit nb = 0 then 8 else if f_md_rightsFit nb rt = 0 then 9 else if f_md_passantFits nb sd pa cl = 0 then 10 else if f_md_isAttacked nb (f_md_kingOf nb (1 - sd)) sd = 0 then 0 else 11) else 7) else 7
theorem pu_ff_eq {P : PsT} {b : Nat → Int32} {sd rt pa cl nu : Int32} (h : pu_RP P b sd rt pa cl nu) : f_ps_firstFault P = pu_rcode b sd rt pa cl := by
  have m6 : f_gn_manOf 6 0 = 6 := by decide
  have m12 : f_gn_manOf 6 1 = 12 := by decide
  have n1 : ¬ (1 : Int32) = 0 := by decide
  have sr := h.sdr
  have hs : sd = 0 ∨ sd = 1 := by
    have : sd.toInt = 0 ∨ sd.toInt = 1 := by omega
    rcases this with w | w
    · exact .inl (Int32.toInt_inj.mp w)
    · exact .inr (Int32.toInt_inj.mp w)
  have ho : (1 : Int32) - sd = 0 ∨ (1 : Int32) - sd = 1 := by rcases hs with rfl | rfl <;> decide
  unfold f_ps_firstFault pu_rcode
  simp only [pu_bnd_k]
  rw [m6, m12, pu_count_eq h.bd, pu_count_eq h.bd, pu_pawns_eq h.bd, pu_rights_h h.bd h.ert, h.epa, h.esd]
  by_cases c1 : f_md_howMany b 6 = 1
  rotate_left
  · simp only [if_neg c1]
  simp only [if_pos c1]
  by_cases c2 : f_md_howMany b 12 = 1
  rotate_left
  · simp only [if_neg c2]
  simp only [if_pos c2]
  have hk : f_md_howMany b (f_gn_manOf 6 (1 - sd)) = 1 := by
    rcases ho with w | w <;> rw [w]
    · rw [m6]; exact c1
    · rw [m12]; exact c2
  obtain ⟨k1, k2, k3⟩ := pu_king_eq h.bd ho hk
  rw [k1, pu_att_eq h.bd hs k2 k3]
  obtain ⟨pa1, pa2⟩ := pu_passant_h h
  generalize f_md_isAttacked b (f_md_kingOf b (1 - sd)) sd = A
  generalize f_ps_hasMisplacedPawn P = x1
  generalize f_ps_hasTooMany P 0 = x2
  generalize f_ps_hasTooMany P 1 = x3
  generalize f_md_rightsFit b rt = x4
  by_cases d1 : x1 = 0
  rotate_left
  · simp only [if_neg d1, if_true]
  simp only [if_pos d1]
  by_cases d2 : x2 = 0
  rotate_left
  · simp only [if_neg d2, if_true]
  simp only [if_pos d2]
  by_cases d3 : x3 = 0
  rotate_left
  · simp only [if_neg d3, if_true]
  simp only [if_pos d3, n1, if_false]
  by_cases d4 : x4 = 0
  · simp only [if_pos d4]
  simp only [if_neg d4]
  by_cases d5 : pa = -1
  · rw [if_pos d5, pa1 d5, if_neg n1]
  · rw [if_neg d5, pa2 d5]
theorem pu_p_record {ln tr : LnT} {rd : Int32} {td : TdT} {fm : FmT} {ps sp : PsT} {t b nb mv sg : Nat → Int32} {n sd rt pa cl nu tl sd2 rt2 pa2 cl2 nu2 : Int32} (hl : pu_RL ln t n) (h : pu_RP ps b sd rt pa cl nu) (ht : pu_RT td b mv sg tl)
    {r rd' r' th sd' rt' pa' cl' nu' tl' at' sd3 rt3 pa3 cl3 nu3 : Int32} {td' : TdT} {ps' sp' : PsT} {b' nb' : Nat → Int32}
    (e : f_gn_record ln tr rd td fm ps sp = (r, rd', td', ps', sp')) (e' : f_md_record b t nb sd rt pa cl nu n tl sd2 rt2 pa2 cl2 nu2 = (r', th, b', sd', rt', pa', cl', nu', tl', at', nb', sd3, rt3, pa3, cl3, nu3)) :
    r = r' ∧ pu_RP ps' b' sd' rt' pa' cl' nu' ∧ pu_RT td' b' mv sg tl' := by
  have n1 : ¬ (1 : Int32) = 0 := by decide
  have fe := pu_fields_eq hl rd sp nb sd2 rt2 pa2 cl2 nu2
  unfold f_gn_record at e
  unfold f_md_record at e'
  rcases hx : f_rd_readInto rd sp ln with ⟨x1, x2, x3⟩
  rcases hy : f_md_readFields t nb n sd2 rt2 pa2 cl2 nu2 with ⟨y1, y2, y3, y4, y5, y6, y7, y8⟩
  rw [hx] at e fe; rw [hy] at e' fe
  clear hx hy
  obtain ⟨f1, f2, f3, f4⟩ := fe
  dsimp only at f1 f2 f3 f4
  subst f1
  simp only [pu_bnd2_p, pu_bnd_k] at e e'
  by_cases c0 : x1 = 0
  rotate_left
  · have c1 : ¬ x1 ≤ 0 := by
      rw [Int32.le_iff_toInt_le]
      have : x1.toInt ≠ 0 := fun q => c0 (Int32.toInt_inj.mp q)
      show ¬ x1.toInt ≤ 0
      omega
    rw [if_neg c0] at e; rw [if_neg c1] at e'
    cases e; cases e'; exact ⟨rfl, h, ht⟩
  have hp := f4 c0
  rw [if_pos c0, pu_ff_eq hp] at e
  rw [if_pos (by rw [c0]; decide)] at e'
  have no : ∀ c : Int32, c ≠ 0 → pu_rcode y2 y4 y5 y6 y7 = c → ∀ {z : Int32 × Int32 × (Nat → Int32) × Int32 × Int32 × Int32 × Int32 × Int32 × Int32 × Int32 × (Nat → Int32) × Int32 × Int32 × Int32 × Int32 × Int32}, z = (c, 0, b, sd, rt, pa, cl, nu, tl, y3, y2, y4, y5, y6, y7, y8) → z = (r', th, b', sd', rt', pa', cl', nu', tl', at', nb', sd3, rt3, pa3, cl3, nu3) → r = r' ∧ pu_RP ps' b' sd' rt' pa' cl' nu' ∧ pu_RT td' b' mv sg tl' := by
    intro c hc hr z w1 w2
    rw [hr, if_neg hc] at e
    rw [w1] at w2
    cases e; cases w2; exact ⟨rfl, h, ht⟩
  by_cases c1 : f_md_howMany y2 6 = 1
  rotate_left
  · exact no 7 (by decide) (by unfold pu_rcode; rw [if_neg c1]) (if_neg c1) e'
  rw [if_pos c1] at e'
  by_cases c2 : f_md_howMany y2 12 = 1
  rotate_left
  · exact no 7 (by decide) (by unfold pu_rcode; rw [if_pos c1, if_neg c2]) (if_neg c2) e'
  rw [if_pos c2] at e'
  by_cases c3 : f_md_pawnsFit y2 = 0
  · exact no 8 (by decide) (by unfold pu_rcode; rw [if_pos c1, if_pos c2, if_pos c3]) (if_pos c3) e'
  rw [if_neg c3] at e'
  by_cases c4 : f_md_rightsFit y2 y5 = 0
  · exact no 9 (by decide) (by unfold pu_rcode; rw [if_pos c1, if_pos c2, if_neg c3, if_pos c4]) (if_pos c4) e'
  rw [if_neg c4] at e'
  by_cases c5 : f_md_passantFits y2 y4 y6 y7 = 0
  · exact no 10 (by decide) (by unfold pu_rcode; rw [if_pos c1, if_pos c2, if_neg c3, if_neg c4, if_pos c5]) (if_pos c5) e'
  rw [if_neg c5] at e'
  by_cases c6 : f_md_isAttacked y2 (f_md_kingOf y2 (1 - y4)) y4 = 0
  rotate_left
  · exact no 11 (by decide) (by unfold pu_rcode; rw [if_pos c1, if_pos c2, if_neg c3, if_neg c4, if_neg c5, if_neg c6]) (if_neg c6) e'
  rw [if_pos c6] at e'
  have rc : pu_rcode y2 y4 y5 y6 y7 = 0 := by unfold pu_rcode; rw [if_pos c1, if_pos c2, if_neg c3, if_neg c4, if_neg c5, if_pos c6]
  rw [rc, if_pos rfl] at e
  obtain ⟨b2, p1, p2⟩ := pu_copy_L (v1 := x1) (th := 0) (sd := sd) (rt := rt) (pa := pa) (cl := cl) (nu := nu) (tl := tl) (at_ := y3) (sd2 := y4) (rt2 := y5) (pa2 := y6) (cl2 := y7) (nu2 := y8) (nb := y2) 65 0 b (by decide) (by decide) (by decide)
  rw [p1] at e'
  cases e; cases e'
  have hb : ∀ j : Nat, j < 64 → b' j = nb' j := fun j hj => by
    rw [p2 j hj, if_pos]; show (0 : Int) ≤ j; omega
  refine ⟨rfl, ⟨⟨fun j hj => (hp.bd.eq j hj).trans (hb j hj).symm, fun j hj => by rw [hb j hj]; exact hp.bd.rg j hj⟩, hp.esd, hp.ert, hp.epa, hp.ecl, hp.enu, hp.sdr, hp.rtr, hp.par, hp.clr, hp.nur⟩, ht.zero _⟩
