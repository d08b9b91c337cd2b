abbrev pu_cF (c : Int32) : Prop := 97 ≤ c.toInt ∧ c.toInt ≤ 104
abbrev pu_cR (c : Int32) : Prop := 49 ≤ c.toInt ∧ c.toInt ≤ 56
set_option maxRecDepth 16384 in
theorem pu_fi_in {L : LnT} {t : Nat → Int32} {n a : Int32} (h : pu_RL L t n) (h0 : 0 ≤ a.toInt) : f_fm_fileIn L a = if pu_cF (f_md_peek t n a) then f_md_peek t n a - 97 else -1 := by
  obtain ⟨c0, c1⟩ := pu_peek_rg h h0
  unfold f_fm_fileIn
  rw [pu_letter_eq h h0, bnd_s rfl, bnd_s rfl, pu_fi_ch c0 c1]
  by_cases q : pu_cF (f_md_peek t n a)
  · rw [if_pos q, if_pos (by rw [Int32.le_iff_toInt_le, Int32.le_iff_toInt_le]; exact q)]
  · rw [if_neg q, if_neg (by rw [Int32.le_iff_toInt_le, Int32.le_iff_toInt_le]; exact q)]
set_option maxRecDepth 16384 in
theorem pu_rk_in {L : LnT} {t : Nat → Int32} {n a : Int32} (h : pu_RL L t n) (h0 : 0 ≤ a.toInt) : f_fm_rankIn L a = if pu_cR (f_md_peek t n a) then f_md_peek t n a - 49 else -1 := by
  obtain ⟨c0, c1⟩ := pu_peek_rg h h0
  unfold f_fm_rankIn
  rw [pu_letter_eq h h0, bnd_s rfl, bnd_s rfl, pu_rk_ch c0 c1]
  by_cases q : pu_cR (f_md_peek t n a)
  · rw [if_pos q, if_pos (by rw [Int32.le_iff_toInt_le, Int32.le_iff_toInt_le]; exact q)]
  · rw [if_neg q, if_neg (by rw [Int32.le_iff_toInt_le, Int32.le_iff_toInt_le]; exact q)]
set_option maxRecDepth 16384 in
theorem pu_letter_neg {L : LnT} {a : Int32} (h : a.toInt < 0) : f_ln_letter L a = 0 := by
  unfold f_ln_letter
  rw [if_pos (by rw [Int32.lt_iff_toInt_lt]; exact h)]
set_option maxRecDepth 16384 in
theorem pu_fi_neg {L : LnT} {a : Int32} (h : a.toInt < 0) : f_fm_fileIn L a = -1 := by
  unfold f_fm_fileIn
  rw [pu_letter_neg h, bnd_s rfl, bnd_s rfl]; decide
set_option maxRecDepth 16384 in
theorem pu_fi_lt {c : Int32} (h : pu_cF c) : ¬ c - 97 < 0 ∧ (c - 97).toInt = c.toInt - 97 := by
  obtain ⟨h1, h2⟩ := h
  have e : (c - 97).toInt = c.toInt - 97 := by (simp only [Int32.lt_iff_toInt_lt, Int32.le_iff_toInt_le, ← Int32.toInt_inj, pu_ia, pu_isb, pu_im, pu_tn, pu_in1, pu_in2, pu_in3, pu_in4, pu_in8, Int32.reduceToInt, Int.reduceNeg, ne_eq] at *; omega)
  exact ⟨by rw [Int32.lt_iff_toInt_lt, e]; show ¬ _ < (0 : Int); omega, e⟩
set_option maxRecDepth 16384 in
theorem pu_rk_lt {c : Int32} (h : pu_cR c) : ¬ c - 49 < 0 ∧ (c - 49).toInt = c.toInt - 49 := by
  obtain ⟨h1, h2⟩ := h
  have e : (c - 49).toInt = c.toInt - 49 := by (simp only [Int32.lt_iff_toInt_lt, Int32.le_iff_toInt_le, ← Int32.toInt_inj, pu_ia, pu_isb, pu_im, pu_tn, pu_in1, pu_in2, pu_in3, pu_in4, pu_in8, Int32.reduceToInt, Int.reduceNeg, ne_eq] at *; omega)
  exact ⟨by rw [Int32.lt_iff_toInt_lt, e]; show ¬ _ < (0 : Int); omega, e⟩
set_option maxRecDepth 16384 in
theorem pu_fi_0 {L : LnT} {t : Nat → Int32} {n a : Int32} (h : pu_RL L t n) (h0 : 0 ≤ a.toInt) : (f_fm_fileIn L a < 0) ↔ ¬ pu_cF (f_md_peek t n a) := by
  rw [pu_fi_in h h0]
  by_cases q : pu_cF (f_md_peek t n a)
  · rw [if_pos q]; exact ⟨fun w => absurd w (pu_fi_lt q).1, fun w => absurd q w⟩
  · rw [if_neg q]; exact ⟨fun _ => q, fun _ => by decide⟩
set_option maxRecDepth 16384 in
theorem pu_rk_0 {L : LnT} {t : Nat → Int32} {n a : Int32} (h : pu_RL L t n) (h0 : 0 ≤ a.toInt) : (f_fm_rankIn L a < 0) ↔ ¬ pu_cR (f_md_peek t n a) := by
  rw [pu_rk_in h h0]
  by_cases q : pu_cR (f_md_peek t n a)
  · rw [if_pos q]; exact ⟨fun w => absurd w (pu_rk_lt q).1, fun w => absurd q w⟩
  · rw [if_neg q]; exact ⟨fun _ => q, fun _ => by decide⟩
set_option maxRecDepth 16384 in
theorem pu_mf_0 (t : Nat → Int32) (n a : Int32) : f_md_isFile t n a = if pu_cF (f_md_peek t n a) then 1 else 0 := by
  unfold f_md_isFile
  rw [bnd_s rfl, bnd_s rfl]
  simp only [Int32.lt_iff_toInt_lt, show (97 : Int32).toInt = 97 by decide, show (104 : Int32).toInt = 104 by decide]
  by_cases q : pu_cF (f_md_peek t n a)
  · have q' : 97 ≤ (f_md_peek t n a).toInt ∧ (f_md_peek t n a).toInt ≤ 104 := q
    rw [if_pos q, if_neg (by omega), if_neg (by omega)]
  · have q' : ¬ (97 ≤ (f_md_peek t n a).toInt ∧ (f_md_peek t n a).toInt ≤ 104) := q
    rw [if_neg q]
    by_cases w : (f_md_peek t n a).toInt < 97
    · rw [if_pos w]
    · rw [if_neg w, if_pos (by omega)]
set_option maxRecDepth 16384 in
theorem pu_mr_0 (t : Nat → Int32) (n a : Int32) : f_md_isRank t n a = if pu_cR (f_md_peek t n a) then 1 else 0 := by
  unfold f_md_isRank
  rw [bnd_s rfl, bnd_s rfl]
  simp only [Int32.lt_iff_toInt_lt, show (49 : Int32).toInt = 49 by decide, show (56 : Int32).toInt = 56 by decide]
  by_cases q : pu_cR (f_md_peek t n a)
  · have q' : 49 ≤ (f_md_peek t n a).toInt ∧ (f_md_peek t n a).toInt ≤ 56 := q
    rw [if_pos q, if_neg (by omega), if_neg (by omega)]
  · have q' : ¬ (49 ≤ (f_md_peek t n a).toInt ∧ (f_md_peek t n a).toInt ≤ 56) := q
    rw [if_neg q]
    by_cases w : (f_md_peek t n a).toInt < 49
    · rw [if_pos w]
    · rw [if_neg w, if_pos (by omega)]
def pu_sqc (f r : Int32) : Int32 := (r - 49) * 8 + (f - 97)
set_option maxRecDepth 16384 in
theorem pu_sq_in {L : LnT} {t : Nat → Int32} {n a : Int32} (h : pu_RL L t n) (h0 : 0 ≤ a.toInt) (h1 : a.toInt ≤ 200) : f_fm_squareIn L a = if pu_cF (f_md_peek t n a) ∧ pu_cR (f_md_peek t n (a + 1)) then pu_sqc (f_md_peek t n a) (f_md_peek t n (a + 1)) else -1 := by
  have ea : (a + 1).toInt = a.toInt + 1 := by rw [pu_ia, show (1 : Int32).toInt = 1 by decide]; omega
  have g : 0 ≤ (a + 1).toInt := by omega
  unfold f_fm_squareIn
  rw [bnd_s rfl, bnd_s rfl, bnd_s rfl, pu_fi_in h h0, pu_rk_in h g]
  generalize f_md_peek t n a = c
  generalize f_md_peek t n (a + 1) = d
  unfold f_gn_squareOf
  by_cases q1 : pu_cF c
  · obtain ⟨w1, w2⟩ := pu_fi_lt q1
    have q1' := q1
    obtain ⟨pu_u1, u2⟩ := q1'
    simp only [if_pos q1]
    rw [if_neg w1, if_neg (by rw [Int32.le_iff_toInt_le, w2, show (8 : Int32).toInt = 8 by decide]; omega)]
    by_cases q2 : pu_cR d
    · obtain ⟨w3, w4⟩ := pu_rk_lt q2
      have q2' := q2
      obtain ⟨u3, u4⟩ := q2'
      simp only [if_pos q2]
      rw [if_neg w3, if_pos (by rw [Int32.lt_iff_toInt_lt, w4, show (8 : Int32).toInt = 8 by decide]; omega), if_pos ⟨q1, q2⟩]; rfl
    · simp only [if_neg q2]
      rw [if_pos (by decide), if_neg (fun w => q2 w.2)]
  · simp only [if_neg q1]
    rw [if_pos (by decide), if_neg (fun w => q1 w.1)]
set_option maxRecDepth 16384 in
theorem pu_sq_neg {L : LnT} {a : Int32} (h : a.toInt < 0) : f_fm_squareIn L a = -1 := by
  unfold f_fm_squareIn
  rw [bnd_s rfl, bnd_s rfl, bnd_s rfl, pu_fi_neg h]
  unfold f_gn_squareOf
  rw [if_pos (by decide)]
set_option maxRecDepth 16384 in
theorem pu_sqc_ok {f r : Int32} (h1 : pu_cF f) (h2 : pu_cR r) : pu_sqc f r ≠ -1 ∧ pu_sqc f r = (f - 97) + 8 * (r - 49) := by
  obtain ⟨w1, w2⟩ := pu_fi_lt h1
  obtain ⟨w3, w4⟩ := pu_rk_lt h2
  obtain ⟨pu_u1, u2⟩ := h1
  obtain ⟨u3, u4⟩ := h2
  unfold pu_sqc
  constructor
  · intro e
    have := congrArg Int32.toInt e
    rw [pu_ia, pu_im, w2, w4, pu_in1, show (8 : Int32).toInt = 8 by decide] at this
    omega
  · rw [Int32.add_comm, Int32.mul_comm]
set_option maxRecDepth 16384 in
theorem pu_off_ch {c : Int32} (h0 : 0 ≤ c.toInt) (h1 : c.toInt ≤ 126) : (f_md_isOfficer c 1 = 0 ↔ ¬ (2 ≤ (f_md_manOf c).toInt ∧ (f_md_manOf c).toInt ≤ 6)) ∧ (f_md_isOfficer c 0 = 0 ↔ ¬ (2 ≤ (f_md_manOf c).toInt ∧ (f_md_manOf c).toInt ≤ 5)) ∧ (2 ≤ (f_md_manOf c).toInt → (f_md_manOf c).toInt ≤ 6 → 66 ≤ c.toInt ∧ c.toInt ≤ 82) ∧ (f_md_manOf c ≠ 0 → f_md_letter (f_md_manOf c) = c) :=
  pu_all_rg (P := fun c => (f_md_isOfficer c 1 = 0 ↔ ¬ (2 ≤ (f_md_manOf c).toInt ∧ (f_md_manOf c).toInt ≤ 6)) ∧ (f_md_isOfficer c 0 = 0 ↔ ¬ (2 ≤ (f_md_manOf c).toInt ∧ (f_md_manOf c).toInt ≤ 5)) ∧ (2 ≤ (f_md_manOf c).toInt → (f_md_manOf c).toInt ≤ 6 → 66 ≤ c.toInt ∧ c.toInt ≤ 82) ∧ (f_md_manOf c ≠ 0 → f_md_letter (f_md_manOf c) = c)) 127 (by decide +kernel) h0 (by omega)
set_option maxRecDepth 16384 in
theorem pu_peek_tx {L : LnT} {t : Nat → Int32} {n : Int32} (_h : pu_RL L t n) {k : Nat} (hk : (k : Int) < n.toInt) : f_md_peek t n (Int32.ofNat k) = t k := by
  have := Int32.toInt_lt n
  have e := pu_nat_ofn (k := k) (by omega)
  unfold f_md_peek
  rw [if_neg (by rw [Int32.le_iff_toInt_le, e]; omega), pu_tn, e]
  congr 1
set_option maxRecDepth 16384 in
theorem pu_sg_ch {c : Int32} (h0 : 0 ≤ c.toInt) (h1 : c.toInt ≤ 126) : f_st_indexOf 5 c + 1 = if c = 43 then 1 else if c = 35 then 2 else 0 :=
  pu_all_rg (P := fun c => f_st_indexOf 5 c + 1 = if c = 43 then 1 else if c = 35 then 2 else 0) 127 (by decide +kernel) h0 (by omega)
set_option maxRecDepth 16384 in
theorem pu_bare_eq {L : LnT} {t : Nat → Int32} {n : Int32} (h : pu_RL L t n) : ∃ s : Int32, (s = 0 ∨ s = 1 ∨ s = 2) ∧ f_st_indexOf 5 (f_ln_letter L (n - 1)) + 1 = s ∧ f_md_bare t n = (if s ≤ 0 then n else n - 1) ∧
    0 ≤ (f_md_bare t n).toInt ∧ (f_md_bare t n).toInt ≤ n.toInt ∧
    ((s = 0 ∧ f_md_bare t n = n ∧ (0 < n.toInt → t (n.toInt - 1).toNat ≠ 43 ∧ t (n.toInt - 1).toNat ≠ 35)) ∨ (s = 1 ∧ (f_md_bare t n).toInt = n.toInt - 1 ∧ t (n.toInt - 1).toNat = 43) ∨ (s = 2 ∧ (f_md_bare t n).toInt = n.toInt - 1 ∧ t (n.toInt - 1).toNat = 35)) := by
  have hl := h.lo; have hh := h.hi
  have e1 : (n - 1).toInt = n.toInt - 1 := by rw [pu_isb, show (1 : Int32).toInt = 1 by decide]; omega
  by_cases c : n.toInt = 0
  · have c0 : n = 0 := Int32.toInt_inj.mp c
    subst c0
    refine ⟨0, .inl rfl, ?_, ?_, ?_, ?_, .inl ⟨rfl, ?_, ?_⟩⟩
    · rw [pu_letter_neg (by rw [e1]; decide)]; decide
    · unfold f_md_bare; rw [if_pos (by decide), if_pos (by decide)]
    · unfold f_md_bare; rw [if_pos (by decide)]; decide
    · unfold f_md_bare; rw [if_pos (by decide)]; decide
    · unfold f_md_bare; rw [if_pos (by decide)]
    · intro q; exact absurd q (by decide)
  · have cn : ¬ n ≤ 0 := by rw [Int32.le_iff_toInt_le]; show ¬ n.toInt ≤ 0; omega
    have ei : (n - 1).toNatClampNeg = (n.toInt - 1).toNat := by rw [pu_tn, e1]
    have hch := h.ch (n.toInt - 1).toNat (by omega)
    have el : f_ln_letter L (n - 1) = t (n.toInt - 1).toNat := by
      unfold f_ln_letter
      rw [if_neg (by rw [Int32.lt_iff_toInt_lt, e1]; show ¬ _ < (0 : Int); omega), h.sz, if_neg (by rw [Int32.le_iff_toInt_le, e1]; omega), ei]
      exact h.eq _ (by omega)
    have eb : f_md_bare t n = if t (n.toInt - 1).toNat = 43 then n - 1 else if t (n.toInt - 1).toNat = 35 then n - 1 else n := by
      unfold f_md_bare; rw [if_neg cn, ei]
    rw [el, pu_sg_ch hch.1 hch.2, eb]
    generalize t (n.toInt - 1).toNat = x
    by_cases d1 : x = 43
    · refine ⟨1, .inr (.inl rfl), ?_, ?_, ?_, ?_, .inr (.inl ⟨rfl, ?_, d1⟩)⟩
      · rw [if_pos d1]
      · rw [if_pos d1, if_neg (by decide)]
      · rw [if_pos d1, e1]; omega
      · rw [if_pos d1, e1]; omega
      · rw [if_pos d1, e1]
    · by_cases d2 : x = 35
      · refine ⟨2, .inr (.inr rfl), ?_, ?_, ?_, ?_, .inr (.inr ⟨rfl, ?_, d2⟩)⟩
        · rw [if_neg d1, if_pos d2]
        · rw [if_neg d1, if_pos d2, if_neg (by decide)]
        · rw [if_neg d1, if_pos d2, e1]; omega
        · rw [if_neg d1, if_pos d2, e1]; omega
        · rw [if_neg d1, if_pos d2, e1]
      · refine ⟨0, .inl rfl, ?_, ?_, ?_, ?_, .inl ⟨rfl, ?_, fun _ => ⟨d1, d2⟩⟩⟩
        · rw [if_neg d1, if_neg d2]
        · rw [if_neg d1, if_neg d2, if_pos (by decide)]
        · rw [if_neg d1, if_neg d2]; omega
        · rw [if_neg d1, if_neg d2]; omega
        · rw [if_neg d1, if_neg d2]
set_option maxRecDepth 16384 in
theorem pu_man_fld (F : FmT) (L : LnT) : (f_fm_isManMove F L).2 = (F.1, F.2.1, F.2.2.1, f_st_indexOf 1 (f_ln_letter L 0) + 1, f_fm_squareIn L (F.1 - 2), 0) ∧ ((f_fm_isManMove F L).1 = 0 ∨ (f_fm_isManMove F L).1 = 1) := by
  unfold f_fm_isManMove
  simp only [pu_bnd_k]
  generalize f_st_indexOf 1 (f_ln_letter L 0) + 1 = x
  generalize f_fm_squareIn L (F.1 - 2) = y
  repeat' split
  all_goals first | exact ⟨rfl, .inl rfl⟩ | exact ⟨rfl, .inr rfl⟩
set_option maxRecDepth 16384 in
theorem pu_sqn {L : LnT} {t : Nat → Int32} {n a : Int32} (h : pu_RL L t n) (h0 : 0 ≤ a.toInt) (h1 : a.toInt ≤ 200) : f_fm_squareIn L a = -1 ↔ ¬ (pu_cF (f_md_peek t n a) ∧ pu_cR (f_md_peek t n (a + 1))) := by
  rw [pu_sq_in h h0 h1]
  by_cases q : pu_cF (f_md_peek t n a) ∧ pu_cR (f_md_peek t n (a + 1))
  · rw [if_pos q]; exact ⟨fun w => absurd w (pu_sqc_ok q.1 q.2).1, fun w => absurd q w⟩
  · rw [if_neg q]; exact ⟨fun _ => q, fun _ => rfl⟩
set_option maxRecDepth 16384 in
theorem pu_m_lt {x : Int32} : (x < 2 ↔ x.toInt < 2) ∧ ((6 : Int32) < x ↔ 6 < x.toInt) := ⟨Int32.lt_iff_toInt_lt, Int32.lt_iff_toInt_lt⟩
set_option maxRecDepth 16384 in
theorem pu_man3 {L : LnT} {t : Nat → Int32} {n : Int32} (h : pu_RL L t n) (F : FmT) (hF : F.1 = 3) : (f_fm_isManMove F L).1 = 0 ↔ ¬ ((2 ≤ (f_st_indexOf 1 (f_ln_letter L 0) + 1).toInt ∧ (f_st_indexOf 1 (f_ln_letter L 0) + 1).toInt ≤ 6) ∧ (f_md_isOfficerForm t n 3).1 ≠ 0) := by
  have k0 : 2 ≤ (f_st_indexOf 1 (f_ln_letter L 0) + 1).toInt → (f_st_indexOf 1 (f_ln_letter L 0) + 1).toInt ≤ 6 → ¬ pu_cF (f_md_peek t n 0) ∧ ¬ pu_cR (f_md_peek t n 0) ∧ f_md_peek t n 0 ≠ 120 := by
    intro q1 q2
    have hp := pu_peek_rg h (a := 0) (by decide)
    rw [pu_letter_eq h (by decide), (pu_mn_ch hp.1 hp.2).1] at q1 q2
    have := (pu_off_ch hp.1 hp.2).2.2.1 q1 q2
    unfold pu_cF pu_cR
    exact ⟨by omega, by omega, fun q => by rw [q] at this; exact absurd this (by decide)⟩
  unfold f_fm_isManMove f_md_isOfficerForm
  simp only [pu_bnd_k]
  rw [hF]
  simp only [Int32.reduceSub, Int32.reduceAdd, pu_mf_0, pu_mr_0]
  have s4 := pu_sqn h (a := 1) (by decide) (by decide)
  rw [show (1 : Int32) + 1 = 2 by decide] at s4
  have l0 := pu_letter_eq h (a := 0) (by decide)
  have r0 := pu_rk_0 h (a := 0) (by decide)
  have f0 := pu_fi_0 h (a := 0) (by decide)
  have it : ∀ (p : Prop) [Decidable p], ((if p then (1 : Int32) else 0) = 0) ↔ ¬ p := by intro p _; split <;> simp_all
  generalize (f_st_indexOf 1 (f_ln_letter L 0) + 1) = x at k0 ⊢
  simp only [s4, r0, f0, l0, pu_m_lt.1, pu_m_lt.2, it]
  generalize f_fm_squareIn L 1 = y
  clear s4 l0 r0 f0 h it
  generalize f_md_peek t n 0 = c0 at *
  generalize f_md_peek t n 1 = c1 at *
  generalize f_md_peek t n 2 = c2 at *
  have cls : ∀ c : Int32, (pu_cF c ∧ ¬ pu_cR c ∧ c ≠ 120) ∨ (¬ pu_cF c ∧ pu_cR c ∧ c ≠ 120) ∨ (¬ pu_cF c ∧ ¬ pu_cR c ∧ (c = 120) = True) ∨ (¬ pu_cF c ∧ ¬ pu_cR c ∧ c ≠ 120) := by
    intro c
    unfold pu_cF pu_cR
    have w : c = 120 ↔ c.toInt = 120 := pu_eq_i
    by_cases q : c = 120
    · have := w.mp q
      exact .inr (.inr (.inl ⟨by omega, by omega, eq_true q⟩))
    · by_cases q1 : 97 ≤ c.toInt ∧ c.toInt ≤ 104
      · exact .inl ⟨q1, by omega, q⟩
      · by_cases q2 : 49 ≤ c.toInt ∧ c.toInt ≤ 56
        · exact .inr (.inl ⟨q1, q2, q⟩)
        · exact .inr (.inr (.inr ⟨q1, q2, q⟩))
  by_cases a1 : x.toInt < 2
  · simp only [if_pos a1]; simp; omega
  by_cases a2 : 6 < x.toInt
  · simp only [if_neg a1, if_pos a2]; simp; omega
  obtain ⟨z1, z2, z3⟩ := k0 (by omega) (by omega)
  by_cases k4 : pu_cF c1
  rotate_left
  · simp [a1, a2, k4]
  by_cases k5 : pu_cR c2
  rotate_left
  · simp [a1, a2, k4, k5]
  simp [a1, a2, k4, k5, z1, z2, z3] <;> omega
set_option maxRecDepth 16384 in
theorem pu_man4 {L : LnT} {t : Nat → Int32} {n : Int32} (h : pu_RL L t n) (F : FmT) (hF : F.1 = 4) : (f_fm_isManMove F L).1 = 0 ↔ ¬ ((2 ≤ (f_st_indexOf 1 (f_ln_letter L 0) + 1).toInt ∧ (f_st_indexOf 1 (f_ln_letter L 0) + 1).toInt ≤ 6) ∧ (f_md_isOfficerForm t n 4).1 ≠ 0) := by
  have k0 : 2 ≤ (f_st_indexOf 1 (f_ln_letter L 0) + 1).toInt → (f_st_indexOf 1 (f_ln_letter L 0) + 1).toInt ≤ 6 → ¬ pu_cF (f_md_peek t n 0) ∧ ¬ pu_cR (f_md_peek t n 0) ∧ f_md_peek t n 0 ≠ 120 := by
    intro q1 q2
    have hp := pu_peek_rg h (a := 0) (by decide)
    rw [pu_letter_eq h (by decide), (pu_mn_ch hp.1 hp.2).1] at q1 q2
    have := (pu_off_ch hp.1 hp.2).2.2.1 q1 q2
    unfold pu_cF pu_cR
    exact ⟨by omega, by omega, fun q => by rw [q] at this; exact absurd this (by decide)⟩
  unfold f_fm_isManMove f_md_isOfficerForm
  simp only [pu_bnd_k]
  rw [hF]
  simp only [Int32.reduceSub, Int32.reduceAdd, pu_mf_0, pu_mr_0]
  have s4 := pu_sqn h (a := 2) (by decide) (by decide)
  rw [show (2 : Int32) + 1 = 3 by decide] at s4
  have l0 := pu_letter_eq h (a := 0) (by decide)
  have r0 := pu_rk_0 h (a := 0) (by decide)
  have f0 := pu_fi_0 h (a := 0) (by decide)
  have l1 := pu_letter_eq h (a := 1) (by decide)
  have r1 := pu_rk_0 h (a := 1) (by decide)
  have f1 := pu_fi_0 h (a := 1) (by decide)
  have it : ∀ (p : Prop) [Decidable p], ((if p then (1 : Int32) else 0) = 0) ↔ ¬ p := by intro p _; split <;> simp_all
  generalize (f_st_indexOf 1 (f_ln_letter L 0) + 1) = x at k0 ⊢
  simp only [s4, r0, f0, r1, f1, l1, pu_m_lt.1, pu_m_lt.2, it]
  generalize f_fm_squareIn L 2 = y
  clear s4 l0 r0 f0 l1 r1 f1 h it
  generalize f_md_peek t n 0 = c0 at *
  generalize f_md_peek t n 1 = c1 at *
  generalize f_md_peek t n 2 = c2 at *
  generalize f_md_peek t n 3 = c3 at *
  have cls : ∀ c : Int32, (pu_cF c ∧ ¬ pu_cR c ∧ c ≠ 120) ∨ (¬ pu_cF c ∧ pu_cR c ∧ c ≠ 120) ∨ (¬ pu_cF c ∧ ¬ pu_cR c ∧ (c = 120) = True) ∨ (¬ pu_cF c ∧ ¬ pu_cR c ∧ c ≠ 120) := by
    intro c
    unfold pu_cF pu_cR
    have w : c = 120 ↔ c.toInt = 120 := pu_eq_i
    by_cases q : c = 120
    · have := w.mp q
      exact .inr (.inr (.inl ⟨by omega, by omega, eq_true q⟩))
    · by_cases q1 : 97 ≤ c.toInt ∧ c.toInt ≤ 104
      · exact .inl ⟨q1, by omega, q⟩
      · by_cases q2 : 49 ≤ c.toInt ∧ c.toInt ≤ 56
        · exact .inr (.inl ⟨q1, q2, q⟩)
        · exact .inr (.inr (.inr ⟨q1, q2, q⟩))
  by_cases a1 : x.toInt < 2
  · simp only [if_pos a1]; simp; omega
  by_cases a2 : 6 < x.toInt
  · simp only [if_neg a1, if_pos a2]; simp; omega
  obtain ⟨z1, z2, z3⟩ := k0 (by omega) (by omega)
  by_cases k4 : pu_cF c2
  rotate_left
  · simp [a1, a2, k4]
  by_cases k5 : pu_cR c3
  rotate_left
  · simp [a1, a2, k4, k5]
  rcases cls c1 with ⟨p1, q1, s1⟩ | ⟨p1, q1, s1⟩ | ⟨p1, q1, s1⟩ | ⟨p1, q1, s1⟩ <;> simp [a1, a2, k4, k5, z1, z2, z3, p1, q1, s1] <;> omega
set_option maxRecDepth 16384 in
theorem pu_man5 {L : LnT} {t : Nat → Int32} {n : Int32} (h : pu_RL L t n) (F : FmT) (hF : F.1 = 5) : (f_fm_isManMove F L).1 = 0 ↔ ¬ ((2 ≤ (f_st_indexOf 1 (f_ln_letter L 0) + 1).toInt ∧ (f_st_indexOf 1 (f_ln_letter L 0) + 1).toInt ≤ 6) ∧ (f_md_isOfficerForm t n 5).1 ≠ 0) := by
  have k0 : 2 ≤ (f_st_indexOf 1 (f_ln_letter L 0) + 1).toInt → (f_st_indexOf 1 (f_ln_letter L 0) + 1).toInt ≤ 6 → ¬ pu_cF (f_md_peek t n 0) ∧ ¬ pu_cR (f_md_peek t n 0) ∧ f_md_peek t n 0 ≠ 120 := by
    intro q1 q2
    have hp := pu_peek_rg h (a := 0) (by decide)
    rw [pu_letter_eq h (by decide), (pu_mn_ch hp.1 hp.2).1] at q1 q2
    have := (pu_off_ch hp.1 hp.2).2.2.1 q1 q2
    unfold pu_cF pu_cR
    exact ⟨by omega, by omega, fun q => by rw [q] at this; exact absurd this (by decide)⟩
  unfold f_fm_isManMove f_md_isOfficerForm
  simp only [pu_bnd_k]
  rw [hF]
  simp only [Int32.reduceSub, Int32.reduceAdd, pu_mf_0, pu_mr_0]
  have s4 := pu_sqn h (a := 3) (by decide) (by decide)
  rw [show (3 : Int32) + 1 = 4 by decide] at s4
  have l0 := pu_letter_eq h (a := 0) (by decide)
  have r0 := pu_rk_0 h (a := 0) (by decide)
  have f0 := pu_fi_0 h (a := 0) (by decide)
  have l1 := pu_letter_eq h (a := 1) (by decide)
  have r1 := pu_rk_0 h (a := 1) (by decide)
  have f1 := pu_fi_0 h (a := 1) (by decide)
  have l2 := pu_letter_eq h (a := 2) (by decide)
  have r2 := pu_rk_0 h (a := 2) (by decide)
  have f2 := pu_fi_0 h (a := 2) (by decide)
  have it : ∀ (p : Prop) [Decidable p], ((if p then (1 : Int32) else 0) = 0) ↔ ¬ p := by intro p _; split <;> simp_all
  generalize (f_st_indexOf 1 (f_ln_letter L 0) + 1) = x at k0 ⊢
  simp only [s4, r0, f0, r1, f1, l1, r2, f2, l2, pu_m_lt.1, pu_m_lt.2, it]
  generalize f_fm_squareIn L 3 = y
  clear s4 l0 r0 f0 l1 r1 f1 l2 r2 f2 h it
  generalize f_md_peek t n 0 = c0 at *
  generalize f_md_peek t n 1 = c1 at *
  generalize f_md_peek t n 2 = c2 at *
  generalize f_md_peek t n 3 = c3 at *
  generalize f_md_peek t n 4 = c4 at *
  have cls : ∀ c : Int32, (pu_cF c ∧ ¬ pu_cR c ∧ c ≠ 120) ∨ (¬ pu_cF c ∧ pu_cR c ∧ c ≠ 120) ∨ (¬ pu_cF c ∧ ¬ pu_cR c ∧ (c = 120) = True) ∨ (¬ pu_cF c ∧ ¬ pu_cR c ∧ c ≠ 120) := by
    intro c
    unfold pu_cF pu_cR
    have w : c = 120 ↔ c.toInt = 120 := pu_eq_i
    by_cases q : c = 120
    · have := w.mp q
      exact .inr (.inr (.inl ⟨by omega, by omega, eq_true q⟩))
    · by_cases q1 : 97 ≤ c.toInt ∧ c.toInt ≤ 104
      · exact .inl ⟨q1, by omega, q⟩
      · by_cases q2 : 49 ≤ c.toInt ∧ c.toInt ≤ 56
        · exact .inr (.inl ⟨q1, q2, q⟩)
        · exact .inr (.inr (.inr ⟨q1, q2, q⟩))
  by_cases a1 : x.toInt < 2
  · simp only [if_pos a1]; simp; omega
  by_cases a2 : 6 < x.toInt
  · simp only [if_neg a1, if_pos a2]; simp; omega
  obtain ⟨z1, z2, z3⟩ := k0 (by omega) (by omega)
  by_cases k4 : pu_cF c3
  rotate_left
  · simp [a1, a2, k4]
  by_cases k5 : pu_cR c4
  rotate_left
  · simp [a1, a2, k4, k5]
  rcases cls c1 with ⟨p1, q1, s1⟩ | ⟨p1, q1, s1⟩ | ⟨p1, q1, s1⟩ | ⟨p1, q1, s1⟩ <;> rcases cls c2 with ⟨p2, q2, s2⟩ | ⟨p2, q2, s2⟩ | ⟨p2, q2, s2⟩ | ⟨p2, q2, s2⟩ <;> simp [a1, a2, k4, k5, z1, z2, z3, p1, q1, s1, p2, q2, s2] <;> omega
set_option maxRecDepth 16384 in
theorem pu_man6 {L : LnT} {t : Nat → Int32} {n : Int32} (h : pu_RL L t n) (F : FmT) (hF : F.1 = 6) : (f_fm_isManMove F L).1 = 0 ↔ ¬ ((2 ≤ (f_st_indexOf 1 (f_ln_letter L 0) + 1).toInt ∧ (f_st_indexOf 1 (f_ln_letter L 0) + 1).toInt ≤ 6) ∧ (f_md_isOfficerForm t n 6).1 ≠ 0) := by
  have k0 : 2 ≤ (f_st_indexOf 1 (f_ln_letter L 0) + 1).toInt → (f_st_indexOf 1 (f_ln_letter L 0) + 1).toInt ≤ 6 → ¬ pu_cF (f_md_peek t n 0) ∧ ¬ pu_cR (f_md_peek t n 0) ∧ f_md_peek t n 0 ≠ 120 := by
    intro q1 q2
    have hp := pu_peek_rg h (a := 0) (by decide)
    rw [pu_letter_eq h (by decide), (pu_mn_ch hp.1 hp.2).1] at q1 q2
    have := (pu_off_ch hp.1 hp.2).2.2.1 q1 q2
    unfold pu_cF pu_cR
    exact ⟨by omega, by omega, fun q => by rw [q] at this; exact absurd this (by decide)⟩
  unfold f_fm_isManMove f_md_isOfficerForm
  simp only [pu_bnd_k]
  rw [hF]
  simp only [Int32.reduceSub, Int32.reduceAdd, pu_mf_0, pu_mr_0]
  have s4 := pu_sqn h (a := 4) (by decide) (by decide)
  rw [show (4 : Int32) + 1 = 5 by decide] at s4
  have l0 := pu_letter_eq h (a := 0) (by decide)
  have r0 := pu_rk_0 h (a := 0) (by decide)
  have f0 := pu_fi_0 h (a := 0) (by decide)
  have l1 := pu_letter_eq h (a := 1) (by decide)
  have r1 := pu_rk_0 h (a := 1) (by decide)
  have f1 := pu_fi_0 h (a := 1) (by decide)
  have l2 := pu_letter_eq h (a := 2) (by decide)
  have r2 := pu_rk_0 h (a := 2) (by decide)
  have f2 := pu_fi_0 h (a := 2) (by decide)
  have l3 := pu_letter_eq h (a := 3) (by decide)
  have r3 := pu_rk_0 h (a := 3) (by decide)
  have f3 := pu_fi_0 h (a := 3) (by decide)
  have it : ∀ (p : Prop) [Decidable p], ((if p then (1 : Int32) else 0) = 0) ↔ ¬ p := by intro p _; split <;> simp_all
  generalize (f_st_indexOf 1 (f_ln_letter L 0) + 1) = x at k0 ⊢
  simp only [s4, r0, f0, r1, f1, l1, r2, f2, l2, r3, f3, l3, pu_m_lt.1, pu_m_lt.2, it]
  generalize f_fm_squareIn L 4 = y
  clear s4 l0 r0 f0 l1 r1 f1 l2 r2 f2 l3 r3 f3 h it
  generalize f_md_peek t n 0 = c0 at *
  generalize f_md_peek t n 1 = c1 at *
  generalize f_md_peek t n 2 = c2 at *
  generalize f_md_peek t n 3 = c3 at *
  generalize f_md_peek t n 4 = c4 at *
  generalize f_md_peek t n 5 = c5 at *
  have cls : ∀ c : Int32, (pu_cF c ∧ ¬ pu_cR c ∧ c ≠ 120) ∨ (¬ pu_cF c ∧ pu_cR c ∧ c ≠ 120) ∨ (¬ pu_cF c ∧ ¬ pu_cR c ∧ (c = 120) = True) ∨ (¬ pu_cF c ∧ ¬ pu_cR c ∧ c ≠ 120) := by
    intro c
    unfold pu_cF pu_cR
    have w : c = 120 ↔ c.toInt = 120 := pu_eq_i
    by_cases q : c = 120
    · have := w.mp q
      exact .inr (.inr (.inl ⟨by omega, by omega, eq_true q⟩))
    · by_cases q1 : 97 ≤ c.toInt ∧ c.toInt ≤ 104
      · exact .inl ⟨q1, by omega, q⟩
      · by_cases q2 : 49 ≤ c.toInt ∧ c.toInt ≤ 56
        · exact .inr (.inl ⟨q1, q2, q⟩)
        · exact .inr (.inr (.inr ⟨q1, q2, q⟩))
  by_cases a1 : x.toInt < 2
  · simp only [if_pos a1]; simp; omega
  by_cases a2 : 6 < x.toInt
  · simp only [if_neg a1, if_pos a2]; simp; omega
  obtain ⟨z1, z2, z3⟩ := k0 (by omega) (by omega)
  by_cases k4 : pu_cF c4
  rotate_left
  · simp [a1, a2, k4]
  by_cases k5 : pu_cR c5
  rotate_left
  · simp [a1, a2, k4, k5]
  rcases cls c1 with ⟨p1, q1, s1⟩ | ⟨p1, q1, s1⟩ | ⟨p1, q1, s1⟩ | ⟨p1, q1, s1⟩ <;> rcases cls c2 with ⟨p2, q2, s2⟩ | ⟨p2, q2, s2⟩ | ⟨p2, q2, s2⟩ | ⟨p2, q2, s2⟩ <;> rcases cls c3 with ⟨p3, q3, s3⟩ | ⟨p3, q3, s3⟩ | ⟨p3, q3, s3⟩ | ⟨p3, q3, s3⟩ <;> simp [a1, a2, k4, k5, z1, z2, z3, p1, q1, s1, p2, q2, s2, p3, q3, s3] <;> omega
set_option maxRecDepth 16384 in
theorem pu_ite0 {α : Type} {p : Prop} [Decidable p] {a b : Int32 × α} (ha : a.1 = 0) (hb : b.1 = 0) : (if p then a else b).1 = 0 := by
  by_cases h : p
  · rw [if_pos h]; exact ha
  · rw [if_neg h]; exact hb
set_option maxRecDepth 16384 in
theorem pu_man_lo {L : LnT} {t : Nat → Int32} {n N : Int32} (h : pu_RL L t n) (F : FmT) (hF : F.1 = N) (h0 : 0 ≤ N.toInt) (h2 : N.toInt ≤ 2) : (f_fm_isManMove F L).1 = 0 ∧ (f_md_isOfficerForm t n N).1 = 0 := by
  constructor
  · have hs : f_st_indexOf 1 (f_ln_letter L 0) + 1 < 2 ∨ 6 < f_st_indexOf 1 (f_ln_letter L 0) + 1 ∨ f_fm_squareIn L (N - 2) = -1 := by
      by_cases q1 : f_st_indexOf 1 (f_ln_letter L 0) + 1 < 2
      · exact .inl q1
      by_cases q2 : 6 < f_st_indexOf 1 (f_ln_letter L 0) + 1
      · exact .inr (.inl q2)
      refine .inr (.inr ?_)
      have e2 : (N - 2).toInt = N.toInt - 2 := by rw [pu_isb, show (2 : Int32).toInt = 2 by decide]; omega
      by_cases c : N.toInt = 2
      · have : N - 2 = 0 := Int32.toInt_inj.mp (by rw [e2, c]; decide)
        rw [this, pu_sqn h (by decide) (by decide)]
        intro w
        have hp := pu_peek_rg h (a := 0) (by decide)
        rw [pu_m_lt.1, pu_letter_eq h (by decide), (pu_mn_ch hp.1 hp.2).1] at q1
        rw [pu_m_lt.2, pu_letter_eq h (by decide), (pu_mn_ch hp.1 hp.2).1] at q2
        have := (pu_off_ch hp.1 hp.2).2.2.1 (by omega) (by omega)
        have := w.1
        unfold pu_cF at this
        omega
      · exact pu_sq_neg (by omega)
    unfold f_fm_isManMove
    simp only [pu_bnd_k]
    rw [hF]
    by_cases q1 : f_st_indexOf 1 (f_ln_letter L 0) + 1 < 2
    · rw [if_pos q1]
    rw [if_neg q1]
    by_cases q2 : 6 < f_st_indexOf 1 (f_ln_letter L 0) + 1
    · rw [if_pos q2]
    rw [if_neg q2, if_pos ((hs.resolve_left q1).resolve_left q2)]
  · unfold f_md_isOfficerForm
    rw [if_pos (by rw [Int32.lt_iff_toInt_lt, show (3 : Int32).toInt = 3 by decide]; omega)]
set_option maxRecDepth 16384 in
theorem pu_man_hi {L : LnT} {t : Nat → Int32} {n N : Int32} (F : FmT) (hF : F.1 = N) (h0 : 7 ≤ N.toInt) (h1 : N.toInt ≤ 100) : (f_fm_isManMove F L).1 = 0 ∧ (f_md_isOfficerForm t n N).1 = 0 := by
  have z2 : (2 : Int32).toInt = 2 := by decide
  have z1 : (1 : Int32).toInt = 1 := by decide
  have e2 : (N - 2).toInt = N.toInt - 2 := by rw [pu_isb, z2]; omega
  have e3 : (N - 2 + -1).toInt = N.toInt - 3 := by rw [pu_ia, pu_in1, e2]; omega
  have e4 : (N - 2 + -1 + -1).toInt = N.toInt - 4 := by rw [pu_ia, pu_in1, e3]; omega
  have e5 : (N - 2 + -1 + -1 + -1).toInt = N.toInt - 5 := by rw [pu_ia, pu_in1, e4]; omega
  have k2 : ¬ N - 2 = 1 := by rw [pu_eq_i, e2, z1]; omega
  have k3 : ¬ N - 2 + -1 = 1 := by rw [pu_eq_i, e3, z1]; omega
  have k4 : ¬ N - 2 + -1 + -1 = 1 := by rw [pu_eq_i, e4, z1]; omega
  have k5 : ¬ N - 2 + -1 + -1 + -1 = 1 := by rw [pu_eq_i, e5, z1]; omega
  have j1 : ¬ (1 : Int32) = N - 2 := fun q => k2 q.symm
  have j2 : ¬ (1 + 1 : Int32) = N - 2 := by rw [pu_eq_i, e2, show (1 + 1 : Int32).toInt = 2 by decide]; omega
  have j3 : ¬ (1 + 1 + 1 : Int32) = N - 2 := by rw [pu_eq_i, e2, show (1 + 1 + 1 : Int32).toInt = 3 by decide]; omega
  have j4 : ¬ (1 + 1 + 1 + 1 : Int32) = N - 2 := by rw [pu_eq_i, e2, show (1 + 1 + 1 + 1 : Int32).toInt = 4 by decide]; omega
  clear e2 e3 e4 e5
  constructor
  · unfold f_fm_isManMove
    simp only [pu_bnd_k]
    rw [hF]
    generalize f_st_indexOf 1 (f_ln_letter L 0) + 1 = x
    generalize f_fm_squareIn L (N - 2) = y
    rw [if_neg k2, if_neg k3, if_neg k4, if_neg k5]
    repeat' split
    all_goals rfl
  · unfold f_md_isOfficerForm
    simp only [pu_bnd_k]
    generalize (1 + 1 + 1 + 1 : Int32) = p4 at *
    generalize (1 + 1 + 1 : Int32) = p3 at *
    generalize (1 + 1 : Int32) = p2 at *
    simp only [if_neg j1, if_neg j2, if_neg j3, if_neg j4]
    repeat' first | refine pu_ite0 ?_ ?_ | exact Eq.refl (0 : Int32)
set_option maxRecDepth 16384 in
theorem pu_man_all {L : LnT} {t : Nat → Int32} {n N : Int32} (h : pu_RL L t n) (F : FmT) (hF : F.1 = N) (h0 : 0 ≤ N.toInt) (h1 : N.toInt ≤ 100) : (f_fm_isManMove F L).1 = 0 ↔ ¬ ((2 ≤ (f_st_indexOf 1 (f_ln_letter L 0) + 1).toInt ∧ (f_st_indexOf 1 (f_ln_letter L 0) + 1).toInt ≤ 6) ∧ (f_md_isOfficerForm t n N).1 ≠ 0) := by
  by_cases c2 : N.toInt ≤ 2
  · obtain ⟨q1, q2⟩ := pu_man_lo h F hF h0 c2
    rw [q1, q2]; exact ⟨fun _ w => w.2 rfl, fun _ => rfl⟩
  by_cases c7 : 7 ≤ N.toInt
  · obtain ⟨q1, q2⟩ := pu_man_hi (L := L) (t := t) (n := n) F hF c7 h1
    rw [q1, q2]; exact ⟨fun _ w => w.2 rfl, fun _ => rfl⟩
  have : N = 3 ∨ N = 4 ∨ N = 5 ∨ N = 6 := by
    simp only [pu_eq_i, show (3 : Int32).toInt = 3 by decide, show (4 : Int32).toInt = 4 by decide, show (5 : Int32).toInt = 5 by decide, show (6 : Int32).toInt = 6 by decide]; omega
  rcases this with w | w | w | w <;> rw [w] at hF ⊢
  · exact pu_man3 h F hF
  · exact pu_man4 h F hF
  · exact pu_man5 h F hF
  · exact pu_man6 h F hF
set_option maxRecDepth 16384 in
theorem pu_promo_i {x : Int32} : f_gn_isPromotion x = 0 ↔ ¬ (2 ≤ x.toInt ∧ x.toInt ≤ 5) := by
  unfold f_gn_isPromotion
  simp only [Int32.lt_iff_toInt_lt, show (2 : Int32).toInt = 2 by decide, show (5 : Int32).toInt = 5 by decide]
  by_cases c1 : x.toInt < 2
  · rw [if_pos c1]; simp; omega
  · rw [if_neg c1]
    by_cases c2 : 5 < x.toInt
    · rw [if_pos c2]; simp; omega
    · rw [if_neg c2]; simp; omega
def pu_pcore (F : FmT) (L : LnT) (p be : Int32) : Int32 × FmT := (if f_fm_squareIn L p = -1 then 0 else if p = 0 then 1 else if p = 2 then (if f_ln_letter L 1 = 120 then (if f_fm_fileIn L 0 < 0 then 0 else 1) else 0) else 0, (F.1, F.2.1, F.2.2.1, 1, f_fm_squareIn L p, be))
set_option maxRecDepth 16384 in
theorem pu_pawn_s (F : FmT) (L : LnT) : f_fm_isPawnMove F L = if f_gn_isPromotion (f_st_indexOf 1 (f_ln_letter L (F.1 - 1)) + 1) = 0 then pu_pcore F L (F.1 - 2) 0 else pu_pcore F L (F.1 - 3) (f_st_indexOf 1 (f_ln_letter L (F.1 - 1)) + 1) := by
  unfold f_fm_isPawnMove pu_pcore
  simp only [pu_bnd_k]
  generalize f_st_indexOf 1 (f_ln_letter L (F.1 - 1)) + 1 = x
  by_cases c : f_gn_isPromotion x = 0
  · rw [if_pos c, if_pos c]
    repeat' split
    all_goals rfl
  · rw [if_neg c, if_neg c]
    have c' : 2 ≤ x.toInt ∧ x.toInt ≤ 5 := Decidable.not_not.mp fun q => c (pu_promo_i.mpr q)
    rw [if_neg (show ¬ x ≤ 0 by rw [Int32.le_iff_toInt_le]; show ¬ x.toInt ≤ 0; omega)]
    repeat' split
    all_goals rfl
set_option maxRecDepth 16384 in
theorem pu_pawn2 {L : LnT} {t : Nat → Int32} {n : Int32} (h : pu_RL L t n) (hn : 2 ≤ n.toInt) (F : FmT) (hF : F.1 = 2) : (f_fm_isPawnMove F L).1 = 0 ↔ (f_md_isPawnForm t n 2).1 = 0 := by
  have t1 : t (1 : Int32).toNatClampNeg = f_md_peek t n 1 := (pu_peek_tx h (k := 1) (by omega)).symm
  rw [pu_pawn_s, hF]
  unfold pu_pcore f_md_isPawnForm
  simp only [pu_bnd_k]
  rw [t1, hF]
  simp only [Int32.reduceSub, Int32.reduceAdd, pu_mf_0, pu_mr_0]
  have it : ∀ (p : Prop) [Decidable p], ((if p then (1 : Int32) else 0) = 0) ↔ ¬ p := by intro p _; split <;> simp_all
  have ll := pu_letter_eq h (a := 1) (by decide)
  have l1 := pu_letter_eq h (a := 1) (by decide)
  have f0 := pu_fi_0 h (a := 0) (by decide)
  have s0 := pu_sqn h (a := 0) (by decide) (by decide)
  rw [show (0 : Int32) + 1 = 1 by decide] at s0
  have s99 : f_fm_squareIn L (-1) = -1 := pu_sq_neg (by decide)
  have hp0 := pu_peek_rg h (a := 0) (by decide)
  have o0 := (pu_off_ch hp0.1 hp0.2).2.1
  have m0 := (pu_mn_ch hp0.1 hp0.2).1
  have g0 := (pu_off_ch hp0.1 hp0.2).2.2.1
  have hp1 := pu_peek_rg h (a := 1) (by decide)
  have o1 := (pu_off_ch hp1.1 hp1.2).2.1
  have m1 := (pu_mn_ch hp1.1 hp1.2).1
  have g1 := (pu_off_ch hp1.1 hp1.2).2.2.1
  simp only [ll, l1, f0, s0, s99, o0, o1, m1, pu_promo_i, it]
  clear ll l1 f0 t1 h it s0 s99 hp0 o0 m0 hp1 o1 m1
  generalize f_fm_squareIn L 0 = y1
  generalize f_md_peek t n 0 = c0 at *
  generalize f_md_peek t n 1 = c1 at *
  have cls : ∀ c : Int32, (2 ≤ (f_md_manOf c).toInt → (f_md_manOf c).toInt ≤ 6 → 66 ≤ c.toInt ∧ c.toInt ≤ 82) → (pu_cF c ∧ ¬ pu_cR c ∧ c ≠ 120 ∧ ¬ (2 ≤ (f_md_manOf c).toInt ∧ (f_md_manOf c).toInt ≤ 5)) ∨ (¬ pu_cF c ∧ pu_cR c ∧ c ≠ 120 ∧ ¬ (2 ≤ (f_md_manOf c).toInt ∧ (f_md_manOf c).toInt ≤ 5)) ∨ (¬ pu_cF c ∧ ¬ pu_cR c ∧ (c = 120) = True ∧ ¬ (2 ≤ (f_md_manOf c).toInt ∧ (f_md_manOf c).toInt ≤ 5)) ∨ (¬ pu_cF c ∧ ¬ pu_cR c ∧ c ≠ 120 ∧ (2 ≤ (f_md_manOf c).toInt ∧ (f_md_manOf c).toInt ≤ 5)) ∨ (¬ pu_cF c ∧ ¬ pu_cR c ∧ c ≠ 120 ∧ ¬ (2 ≤ (f_md_manOf c).toInt ∧ (f_md_manOf c).toInt ≤ 5)) := by
    intro c hc
    unfold pu_cF pu_cR
    have w : c = 120 ↔ c.toInt = 120 := pu_eq_i
    by_cases q : c = 120
    · have := w.mp q
      exact .inr (.inr (.inl ⟨by omega, by omega, eq_true q, by omega⟩))
    · by_cases q1 : 97 ≤ c.toInt ∧ c.toInt ≤ 104
      · exact .inl ⟨q1, by omega, q, by omega⟩
      · by_cases q2 : 49 ≤ c.toInt ∧ c.toInt ≤ 56
        · exact .inr (.inl ⟨q1, q2, q, by omega⟩)
        · by_cases q3 : 2 ≤ (f_md_manOf c).toInt ∧ (f_md_manOf c).toInt ≤ 5
          · exact .inr (.inr (.inr (.inl ⟨q1, q2, q, q3⟩)))
          · exact .inr (.inr (.inr (.inr ⟨q1, q2, q, q3⟩)))
  have k0 := cls c0 g0
  clear g0
  have k1 := cls c1 g1
  clear g1
  clear cls
  have j0 : (pu_cF c0) ∨ (¬ pu_cF c0) := by
    rcases k0 with ⟨a, b, d, e⟩ | ⟨a, b, d, e⟩ | ⟨a, b, d, e⟩ | ⟨a, b, d, e⟩ | ⟨a, b, d, e⟩ <;> first | exact .inl ‹_› | exact .inr ‹_› | grind
  clear k0
  have j1 : ((c1 = 120) = True ∧ ¬ pu_cR c1 ∧ ¬ (2 ≤ (f_md_manOf c1).toInt ∧ (f_md_manOf c1).toInt ≤ 5)) ∨ (¬ c1 = 120 ∧ pu_cR c1 ∧ ¬ (2 ≤ (f_md_manOf c1).toInt ∧ (f_md_manOf c1).toInt ≤ 5)) ∨ (¬ c1 = 120 ∧ ¬ pu_cR c1 ∧ (2 ≤ (f_md_manOf c1).toInt ∧ (f_md_manOf c1).toInt ≤ 5)) ∨ (¬ c1 = 120 ∧ ¬ pu_cR c1 ∧ ¬ (2 ≤ (f_md_manOf c1).toInt ∧ (f_md_manOf c1).toInt ≤ 5)) := by
    rcases k1 with ⟨a, b, d, e⟩ | ⟨a, b, d, e⟩ | ⟨a, b, d, e⟩ | ⟨a, b, d, e⟩ | ⟨a, b, d, e⟩ <;> first | exact .inl ‹_› | exact .inr ‹_› | grind
  clear k1
  rcases j1 with ⟨d1, b1, e1⟩ | ⟨d1, b1, e1⟩ | ⟨d1, b1, e1⟩ | ⟨d1, b1, e1⟩ <;> rcases j0 with a0 | a0 <;> simp [a0, d1, b1, e1]
set_option maxRecDepth 16384 in
theorem pu_pawn3 {L : LnT} {t : Nat → Int32} {n : Int32} (h : pu_RL L t n) (hn : 3 ≤ n.toInt) (F : FmT) (hF : F.1 = 3) : (f_fm_isPawnMove F L).1 = 0 ↔ (f_md_isPawnForm t n 3).1 = 0 := by
  have t1 : t (1 : Int32).toNatClampNeg = f_md_peek t n 1 := (pu_peek_tx h (k := 1) (by omega)).symm
  rw [pu_pawn_s, hF]
  unfold pu_pcore f_md_isPawnForm
  simp only [pu_bnd_k]
  rw [t1, hF]
  simp only [Int32.reduceSub, Int32.reduceAdd, pu_mf_0, pu_mr_0]
  have it : ∀ (p : Prop) [Decidable p], ((if p then (1 : Int32) else 0) = 0) ↔ ¬ p := by intro p _; split <;> simp_all
  have ll := pu_letter_eq h (a := 2) (by decide)
  have l1 := pu_letter_eq h (a := 1) (by decide)
  have f0 := pu_fi_0 h (a := 0) (by decide)
  have s1 := pu_sqn h (a := 1) (by decide) (by decide)
  rw [show (1 : Int32) + 1 = 2 by decide] at s1
  have s0 := pu_sqn h (a := 0) (by decide) (by decide)
  rw [show (0 : Int32) + 1 = 1 by decide] at s0
  have hp0 := pu_peek_rg h (a := 0) (by decide)
  have o0 := (pu_off_ch hp0.1 hp0.2).2.1
  have m0 := (pu_mn_ch hp0.1 hp0.2).1
  have g0 := (pu_off_ch hp0.1 hp0.2).2.2.1
  have hp1 := pu_peek_rg h (a := 1) (by decide)
  have o1 := (pu_off_ch hp1.1 hp1.2).2.1
  have m1 := (pu_mn_ch hp1.1 hp1.2).1
  have g1 := (pu_off_ch hp1.1 hp1.2).2.2.1
  have hp2 := pu_peek_rg h (a := 2) (by decide)
  have o2 := (pu_off_ch hp2.1 hp2.2).2.1
  have m2 := (pu_mn_ch hp2.1 hp2.2).1
  have g2 := (pu_off_ch hp2.1 hp2.2).2.2.1
  simp only [ll, l1, f0, s1, s0, o0, o1, o2, m2, pu_promo_i, it]
  clear ll l1 f0 t1 h it s1 s0 hp0 o0 m0 hp1 o1 m1 hp2 o2 m2
  generalize f_fm_squareIn L 1 = y1
  generalize f_fm_squareIn L 0 = y2
  generalize f_md_peek t n 0 = c0 at *
  generalize f_md_peek t n 1 = c1 at *
  generalize f_md_peek t n 2 = c2 at *
  have cls : ∀ c : Int32, (2 ≤ (f_md_manOf c).toInt → (f_md_manOf c).toInt ≤ 6 → 66 ≤ c.toInt ∧ c.toInt ≤ 82) → (pu_cF c ∧ ¬ pu_cR c ∧ c ≠ 120 ∧ ¬ (2 ≤ (f_md_manOf c).toInt ∧ (f_md_manOf c).toInt ≤ 5)) ∨ (¬ pu_cF c ∧ pu_cR c ∧ c ≠ 120 ∧ ¬ (2 ≤ (f_md_manOf c).toInt ∧ (f_md_manOf c).toInt ≤ 5)) ∨ (¬ pu_cF c ∧ ¬ pu_cR c ∧ (c = 120) = True ∧ ¬ (2 ≤ (f_md_manOf c).toInt ∧ (f_md_manOf c).toInt ≤ 5)) ∨ (¬ pu_cF c ∧ ¬ pu_cR c ∧ c ≠ 120 ∧ (2 ≤ (f_md_manOf c).toInt ∧ (f_md_manOf c).toInt ≤ 5)) ∨ (¬ pu_cF c ∧ ¬ pu_cR c ∧ c ≠ 120 ∧ ¬ (2 ≤ (f_md_manOf c).toInt ∧ (f_md_manOf c).toInt ≤ 5)) := by
    intro c hc
    unfold pu_cF pu_cR
    have w : c = 120 ↔ c.toInt = 120 := pu_eq_i
    by_cases q : c = 120
    · have := w.mp q
      exact .inr (.inr (.inl ⟨by omega, by omega, eq_true q, by omega⟩))
    · by_cases q1 : 97 ≤ c.toInt ∧ c.toInt ≤ 104
      · exact .inl ⟨q1, by omega, q, by omega⟩
      · by_cases q2 : 49 ≤ c.toInt ∧ c.toInt ≤ 56
        · exact .inr (.inl ⟨q1, q2, q, by omega⟩)
        · by_cases q3 : 2 ≤ (f_md_manOf c).toInt ∧ (f_md_manOf c).toInt ≤ 5
          · exact .inr (.inr (.inr (.inl ⟨q1, q2, q, q3⟩)))
          · exact .inr (.inr (.inr (.inr ⟨q1, q2, q, q3⟩)))
  have k0 := cls c0 g0
  clear g0
  have k1 := cls c1 g1
  clear g1
  have k2 := cls c2 g2
  clear g2
  clear cls
  have j0 : (pu_cF c0) ∨ (¬ pu_cF c0) := by
    rcases k0 with ⟨a, b, d, e⟩ | ⟨a, b, d, e⟩ | ⟨a, b, d, e⟩ | ⟨a, b, d, e⟩ | ⟨a, b, d, e⟩ <;> first | exact .inl ‹_› | exact .inr ‹_› | grind
  clear k0
  have j1 : ((c1 = 120) = True ∧ ¬ pu_cR c1 ∧ ¬ (2 ≤ (f_md_manOf c1).toInt ∧ (f_md_manOf c1).toInt ≤ 5)) ∨ (¬ c1 = 120 ∧ pu_cR c1 ∧ ¬ (2 ≤ (f_md_manOf c1).toInt ∧ (f_md_manOf c1).toInt ≤ 5)) ∨ (¬ c1 = 120 ∧ ¬ pu_cR c1 ∧ (2 ≤ (f_md_manOf c1).toInt ∧ (f_md_manOf c1).toInt ≤ 5)) ∨ (¬ c1 = 120 ∧ ¬ pu_cR c1 ∧ ¬ (2 ≤ (f_md_manOf c1).toInt ∧ (f_md_manOf c1).toInt ≤ 5)) := by
    rcases k1 with ⟨a, b, d, e⟩ | ⟨a, b, d, e⟩ | ⟨a, b, d, e⟩ | ⟨a, b, d, e⟩ | ⟨a, b, d, e⟩ <;> first | exact .inl ‹_› | exact .inr ‹_› | grind
  clear k1
  have j2 : (pu_cF c2 ∧ ¬ (2 ≤ (f_md_manOf c2).toInt ∧ (f_md_manOf c2).toInt ≤ 5)) ∨ (¬ pu_cF c2 ∧ (2 ≤ (f_md_manOf c2).toInt ∧ (f_md_manOf c2).toInt ≤ 5)) ∨ (¬ pu_cF c2 ∧ ¬ (2 ≤ (f_md_manOf c2).toInt ∧ (f_md_manOf c2).toInt ≤ 5)) := by
    rcases k2 with ⟨a, b, d, e⟩ | ⟨a, b, d, e⟩ | ⟨a, b, d, e⟩ | ⟨a, b, d, e⟩ | ⟨a, b, d, e⟩ <;> first | exact .inl ‹_› | exact .inr ‹_› | grind
  clear k2
  rcases j2 with ⟨a2, e2⟩ | ⟨a2, e2⟩ | ⟨a2, e2⟩ <;> rcases j1 with ⟨d1, b1, e1⟩ | ⟨d1, b1, e1⟩ | ⟨d1, b1, e1⟩ | ⟨d1, b1, e1⟩ <;> rcases j0 with a0 | a0 <;> simp [a0, d1, b1, e1, a2, e2]
set_option maxRecDepth 16384 in
theorem pu_pawn4 {L : LnT} {t : Nat → Int32} {n : Int32} (h : pu_RL L t n) (hn : 4 ≤ n.toInt) (F : FmT) (hF : F.1 = 4) : (f_fm_isPawnMove F L).1 = 0 ↔ (f_md_isPawnForm t n 4).1 = 0 := by
  have t1 : t (1 : Int32).toNatClampNeg = f_md_peek t n 1 := (pu_peek_tx h (k := 1) (by omega)).symm
  rw [pu_pawn_s, hF]
  unfold pu_pcore f_md_isPawnForm
  simp only [pu_bnd_k]
  rw [t1, hF]
  simp only [Int32.reduceSub, Int32.reduceAdd, pu_mf_0, pu_mr_0]
  have it : ∀ (p : Prop) [Decidable p], ((if p then (1 : Int32) else 0) = 0) ↔ ¬ p := by intro p _; split <;> simp_all
  have ll := pu_letter_eq h (a := 3) (by decide)
  have l1 := pu_letter_eq h (a := 1) (by decide)
  have f0 := pu_fi_0 h (a := 0) (by decide)
  have s2 := pu_sqn h (a := 2) (by decide) (by decide)
  rw [show (2 : Int32) + 1 = 3 by decide] at s2
  have s1 := pu_sqn h (a := 1) (by decide) (by decide)
  rw [show (1 : Int32) + 1 = 2 by decide] at s1
  have hp0 := pu_peek_rg h (a := 0) (by decide)
  have o0 := (pu_off_ch hp0.1 hp0.2).2.1
  have m0 := (pu_mn_ch hp0.1 hp0.2).1
  have g0 := (pu_off_ch hp0.1 hp0.2).2.2.1
  have hp1 := pu_peek_rg h (a := 1) (by decide)
  have o1 := (pu_off_ch hp1.1 hp1.2).2.1
  have m1 := (pu_mn_ch hp1.1 hp1.2).1
  have g1 := (pu_off_ch hp1.1 hp1.2).2.2.1
  have hp2 := pu_peek_rg h (a := 2) (by decide)
  have o2 := (pu_off_ch hp2.1 hp2.2).2.1
  have m2 := (pu_mn_ch hp2.1 hp2.2).1
  have g2 := (pu_off_ch hp2.1 hp2.2).2.2.1
  have hp3 := pu_peek_rg h (a := 3) (by decide)
  have o3 := (pu_off_ch hp3.1 hp3.2).2.1
  have m3 := (pu_mn_ch hp3.1 hp3.2).1
  have g3 := (pu_off_ch hp3.1 hp3.2).2.2.1
  simp only [ll, l1, f0, s2, s1, o0, o1, o2, o3, m3, pu_promo_i, it]
  clear ll l1 f0 t1 h it s2 s1 hp0 o0 m0 hp1 o1 m1 hp2 o2 m2 hp3 o3 m3
  generalize f_fm_squareIn L 2 = y1
  generalize f_fm_squareIn L 1 = y2
  generalize f_md_peek t n 0 = c0 at *
  generalize f_md_peek t n 1 = c1 at *
  generalize f_md_peek t n 2 = c2 at *
  generalize f_md_peek t n 3 = c3 at *
  have cls : ∀ c : Int32, (2 ≤ (f_md_manOf c).toInt → (f_md_manOf c).toInt ≤ 6 → 66 ≤ c.toInt ∧ c.toInt ≤ 82) → (pu_cF c ∧ ¬ pu_cR c ∧ c ≠ 120 ∧ ¬ (2 ≤ (f_md_manOf c).toInt ∧ (f_md_manOf c).toInt ≤ 5)) ∨ (¬ pu_cF c ∧ pu_cR c ∧ c ≠ 120 ∧ ¬ (2 ≤ (f_md_manOf c).toInt ∧ (f_md_manOf c).toInt ≤ 5)) ∨ (¬ pu_cF c ∧ ¬ pu_cR c ∧ (c = 120) = True ∧ ¬ (2 ≤ (f_md_manOf c).toInt ∧ (f_md_manOf c).toInt ≤ 5)) ∨ (¬ pu_cF c ∧ ¬ pu_cR c ∧ c ≠ 120 ∧ (2 ≤ (f_md_manOf c).toInt ∧ (f_md_manOf c).toInt ≤ 5)) ∨ (¬ pu_cF c ∧ ¬ pu_cR c ∧ c ≠ 120 ∧ ¬ (2 ≤ (f_md_manOf c).toInt ∧ (f_md_manOf c).toInt ≤ 5)) := by
    intro c hc
    unfold pu_cF pu_cR
    have w : c = 120 ↔ c.toInt = 120 := pu_eq_i
    by_cases q : c = 120
    · have := w.mp q
      exact .inr (.inr (.inl ⟨by omega, by omega, eq_true q, by omega⟩))
    · by_cases q1 : 97 ≤ c.toInt ∧ c.toInt ≤ 104
      · exact .inl ⟨q1, by omega, q, by omega⟩
      · by_cases q2 : 49 ≤ c.toInt ∧ c.toInt ≤ 56
        · exact .inr (.inl ⟨q1, q2, q, by omega⟩)
        · by_cases q3 : 2 ≤ (f_md_manOf c).toInt ∧ (f_md_manOf c).toInt ≤ 5
          · exact .inr (.inr (.inr (.inl ⟨q1, q2, q, q3⟩)))
          · exact .inr (.inr (.inr (.inr ⟨q1, q2, q, q3⟩)))
  have k0 := cls c0 g0
  clear g0
  have k1 := cls c1 g1
  clear g1
  have k2 := cls c2 g2
  clear g2
  have k3 := cls c3 g3
  clear g3
  clear cls
  have j0 : (pu_cF c0) ∨ (¬ pu_cF c0) := by
    rcases k0 with ⟨a, b, d, e⟩ | ⟨a, b, d, e⟩ | ⟨a, b, d, e⟩ | ⟨a, b, d, e⟩ | ⟨a, b, d, e⟩ <;> first | exact .inl ‹_› | exact .inr ‹_› | grind
  clear k0
  have j1 : ((c1 = 120) = True ∧ ¬ pu_cR c1 ∧ ¬ (2 ≤ (f_md_manOf c1).toInt ∧ (f_md_manOf c1).toInt ≤ 5)) ∨ (¬ c1 = 120 ∧ pu_cR c1 ∧ ¬ (2 ≤ (f_md_manOf c1).toInt ∧ (f_md_manOf c1).toInt ≤ 5)) ∨ (¬ c1 = 120 ∧ ¬ pu_cR c1 ∧ (2 ≤ (f_md_manOf c1).toInt ∧ (f_md_manOf c1).toInt ≤ 5)) ∨ (¬ c1 = 120 ∧ ¬ pu_cR c1 ∧ ¬ (2 ≤ (f_md_manOf c1).toInt ∧ (f_md_manOf c1).toInt ≤ 5)) := by
    rcases k1 with ⟨a, b, d, e⟩ | ⟨a, b, d, e⟩ | ⟨a, b, d, e⟩ | ⟨a, b, d, e⟩ | ⟨a, b, d, e⟩ <;> first | exact .inl ‹_› | exact .inr ‹_› | grind
  clear k1
  have j2 : (pu_cF c2 ∧ ¬ (2 ≤ (f_md_manOf c2).toInt ∧ (f_md_manOf c2).toInt ≤ 5)) ∨ (¬ pu_cF c2 ∧ (2 ≤ (f_md_manOf c2).toInt ∧ (f_md_manOf c2).toInt ≤ 5)) ∨ (¬ pu_cF c2 ∧ ¬ (2 ≤ (f_md_manOf c2).toInt ∧ (f_md_manOf c2).toInt ≤ 5)) := by
    rcases k2 with ⟨a, b, d, e⟩ | ⟨a, b, d, e⟩ | ⟨a, b, d, e⟩ | ⟨a, b, d, e⟩ | ⟨a, b, d, e⟩ <;> first | exact .inl ‹_› | exact .inr ‹_› | grind
  clear k2
  have j3 : (pu_cR c3 ∧ ¬ (2 ≤ (f_md_manOf c3).toInt ∧ (f_md_manOf c3).toInt ≤ 5)) ∨ (¬ pu_cR c3 ∧ (2 ≤ (f_md_manOf c3).toInt ∧ (f_md_manOf c3).toInt ≤ 5)) ∨ (¬ pu_cR c3 ∧ ¬ (2 ≤ (f_md_manOf c3).toInt ∧ (f_md_manOf c3).toInt ≤ 5)) := by
    rcases k3 with ⟨a, b, d, e⟩ | ⟨a, b, d, e⟩ | ⟨a, b, d, e⟩ | ⟨a, b, d, e⟩ | ⟨a, b, d, e⟩ <;> first | exact .inl ‹_› | exact .inr ‹_› | grind
  clear k3
  rcases j3 with ⟨b3, e3⟩ | ⟨b3, e3⟩ | ⟨b3, e3⟩ <;> rcases j2 with ⟨a2, e2⟩ | ⟨a2, e2⟩ | ⟨a2, e2⟩ <;> rcases j1 with ⟨d1, b1, e1⟩ | ⟨d1, b1, e1⟩ | ⟨d1, b1, e1⟩ | ⟨d1, b1, e1⟩ <;> rcases j0 with a0 | a0 <;> simp [a0, d1, b1, e1, a2, e2, b3, e3]
set_option maxRecDepth 16384 in
theorem pu_pawn5 {L : LnT} {t : Nat → Int32} {n : Int32} (h : pu_RL L t n) (hn : 5 ≤ n.toInt) (F : FmT) (hF : F.1 = 5) : (f_fm_isPawnMove F L).1 = 0 ↔ (f_md_isPawnForm t n 5).1 = 0 := by
  have t1 : t (1 : Int32).toNatClampNeg = f_md_peek t n 1 := (pu_peek_tx h (k := 1) (by omega)).symm
  rw [pu_pawn_s, hF]
  unfold pu_pcore f_md_isPawnForm
  simp only [pu_bnd_k]
  rw [t1, hF]
  simp only [Int32.reduceSub, Int32.reduceAdd, pu_mf_0, pu_mr_0]
  have it : ∀ (p : Prop) [Decidable p], ((if p then (1 : Int32) else 0) = 0) ↔ ¬ p := by intro p _; split <;> simp_all
  have ll := pu_letter_eq h (a := 4) (by decide)
  have l1 := pu_letter_eq h (a := 1) (by decide)
  have f0 := pu_fi_0 h (a := 0) (by decide)
  have s3 := pu_sqn h (a := 3) (by decide) (by decide)
  rw [show (3 : Int32) + 1 = 4 by decide] at s3
  have s2 := pu_sqn h (a := 2) (by decide) (by decide)
  rw [show (2 : Int32) + 1 = 3 by decide] at s2
  have hp0 := pu_peek_rg h (a := 0) (by decide)
  have o0 := (pu_off_ch hp0.1 hp0.2).2.1
  have m0 := (pu_mn_ch hp0.1 hp0.2).1
  have g0 := (pu_off_ch hp0.1 hp0.2).2.2.1
  have hp1 := pu_peek_rg h (a := 1) (by decide)
  have o1 := (pu_off_ch hp1.1 hp1.2).2.1
  have m1 := (pu_mn_ch hp1.1 hp1.2).1
  have g1 := (pu_off_ch hp1.1 hp1.2).2.2.1
  have hp2 := pu_peek_rg h (a := 2) (by decide)
  have o2 := (pu_off_ch hp2.1 hp2.2).2.1
  have m2 := (pu_mn_ch hp2.1 hp2.2).1
  have g2 := (pu_off_ch hp2.1 hp2.2).2.2.1
  have hp3 := pu_peek_rg h (a := 3) (by decide)
  have o3 := (pu_off_ch hp3.1 hp3.2).2.1
  have m3 := (pu_mn_ch hp3.1 hp3.2).1
  have g3 := (pu_off_ch hp3.1 hp3.2).2.2.1
  have hp4 := pu_peek_rg h (a := 4) (by decide)
  have o4 := (pu_off_ch hp4.1 hp4.2).2.1
  have m4 := (pu_mn_ch hp4.1 hp4.2).1
  have g4 := (pu_off_ch hp4.1 hp4.2).2.2.1
  simp only [ll, l1, f0, s3, s2, o0, o1, o2, o3, o4, m4, pu_promo_i, it]
  clear ll l1 f0 t1 h it s3 s2 hp0 o0 m0 hp1 o1 m1 hp2 o2 m2 hp3 o3 m3 hp4 o4 m4
  generalize f_fm_squareIn L 3 = y1
  generalize f_fm_squareIn L 2 = y2
  generalize f_md_peek t n 0 = c0 at *
  generalize f_md_peek t n 1 = c1 at *
  generalize f_md_peek t n 2 = c2 at *
  generalize f_md_peek t n 3 = c3 at *
  generalize f_md_peek t n 4 = c4 at *
  have cls : ∀ c : Int32, (2 ≤ (f_md_manOf c).toInt → (f_md_manOf c).toInt ≤ 6 → 66 ≤ c.toInt ∧ c.toInt ≤ 82) → (pu_cF c ∧ ¬ pu_cR c ∧ c ≠ 120 ∧ ¬ (2 ≤ (f_md_manOf c).toInt ∧ (f_md_manOf c).toInt ≤ 5)) ∨ (¬ pu_cF c ∧ pu_cR c ∧ c ≠ 120 ∧ ¬ (2 ≤ (f_md_manOf c).toInt ∧ (f_md_manOf c).toInt ≤ 5)) ∨ (¬ pu_cF c ∧ ¬ pu_cR c ∧ (c = 120) = True ∧ ¬ (2 ≤ (f_md_manOf c).toInt ∧ (f_md_manOf c).toInt ≤ 5)) ∨ (¬ pu_cF c ∧ ¬ pu_cR c ∧ c ≠ 120 ∧ (2 ≤ (f_md_manOf c).toInt ∧ (f_md_manOf c).toInt ≤ 5)) ∨ (¬ pu_cF c ∧ ¬ pu_cR c ∧ c ≠ 120 ∧ ¬ (2 ≤ (f_md_manOf c).toInt ∧ (f_md_manOf c).toInt ≤ 5)) := by
    intro c hc
    unfold pu_cF pu_cR
    have w : c = 120 ↔ c.toInt = 120 := pu_eq_i
    by_cases q : c = 120
    · have := w.mp q
      exact .inr (.inr (.inl ⟨by omega, by omega, eq_true q, by omega⟩))
    · by_cases q1 : 97 ≤ c.toInt ∧ c.toInt ≤ 104
      · exact .inl ⟨q1, by omega, q, by omega⟩
      · by_cases q2 : 49 ≤ c.toInt ∧ c.toInt ≤ 56
        · exact .inr (.inl ⟨q1, q2, q, by omega⟩)
        · by_cases q3 : 2 ≤ (f_md_manOf c).toInt ∧ (f_md_manOf c).toInt ≤ 5
          · exact .inr (.inr (.inr (.inl ⟨q1, q2, q, q3⟩)))
          · exact .inr (.inr (.inr (.inr ⟨q1, q2, q, q3⟩)))
  have k0 := cls c0 g0
  clear g0
  have k1 := cls c1 g1
  clear g1
  have k2 := cls c2 g2
  clear g2
  have k3 := cls c3 g3
  clear g3
  have k4 := cls c4 g4
  clear g4
  clear cls
  have j0 : (pu_cF c0) ∨ (¬ pu_cF c0) := by
    rcases k0 with ⟨a, b, d, e⟩ | ⟨a, b, d, e⟩ | ⟨a, b, d, e⟩ | ⟨a, b, d, e⟩ | ⟨a, b, d, e⟩ <;> first | exact .inl ‹_› | exact .inr ‹_› | grind
  clear k0
  have j1 : ((c1 = 120) = True ∧ ¬ pu_cR c1 ∧ ¬ (2 ≤ (f_md_manOf c1).toInt ∧ (f_md_manOf c1).toInt ≤ 5)) ∨ (¬ c1 = 120 ∧ pu_cR c1 ∧ ¬ (2 ≤ (f_md_manOf c1).toInt ∧ (f_md_manOf c1).toInt ≤ 5)) ∨ (¬ c1 = 120 ∧ ¬ pu_cR c1 ∧ (2 ≤ (f_md_manOf c1).toInt ∧ (f_md_manOf c1).toInt ≤ 5)) ∨ (¬ c1 = 120 ∧ ¬ pu_cR c1 ∧ ¬ (2 ≤ (f_md_manOf c1).toInt ∧ (f_md_manOf c1).toInt ≤ 5)) := by
    rcases k1 with ⟨a, b, d, e⟩ | ⟨a, b, d, e⟩ | ⟨a, b, d, e⟩ | ⟨a, b, d, e⟩ | ⟨a, b, d, e⟩ <;> first | exact .inl ‹_› | exact .inr ‹_› | grind
  clear k1
  have j2 : (pu_cF c2 ∧ ¬ (2 ≤ (f_md_manOf c2).toInt ∧ (f_md_manOf c2).toInt ≤ 5)) ∨ (¬ pu_cF c2 ∧ (2 ≤ (f_md_manOf c2).toInt ∧ (f_md_manOf c2).toInt ≤ 5)) ∨ (¬ pu_cF c2 ∧ ¬ (2 ≤ (f_md_manOf c2).toInt ∧ (f_md_manOf c2).toInt ≤ 5)) := by
    rcases k2 with ⟨a, b, d, e⟩ | ⟨a, b, d, e⟩ | ⟨a, b, d, e⟩ | ⟨a, b, d, e⟩ | ⟨a, b, d, e⟩ <;> first | exact .inl ‹_› | exact .inr ‹_› | grind
  clear k2
  have j3 : (pu_cR c3 ∧ ¬ (2 ≤ (f_md_manOf c3).toInt ∧ (f_md_manOf c3).toInt ≤ 5)) ∨ (¬ pu_cR c3 ∧ (2 ≤ (f_md_manOf c3).toInt ∧ (f_md_manOf c3).toInt ≤ 5)) ∨ (¬ pu_cR c3 ∧ ¬ (2 ≤ (f_md_manOf c3).toInt ∧ (f_md_manOf c3).toInt ≤ 5)) := by
    rcases k3 with ⟨a, b, d, e⟩ | ⟨a, b, d, e⟩ | ⟨a, b, d, e⟩ | ⟨a, b, d, e⟩ | ⟨a, b, d, e⟩ <;> first | exact .inl ‹_› | exact .inr ‹_› | grind
  clear k3
  have j4 : ((2 ≤ (f_md_manOf c4).toInt ∧ (f_md_manOf c4).toInt ≤ 5)) ∨ (¬ (2 ≤ (f_md_manOf c4).toInt ∧ (f_md_manOf c4).toInt ≤ 5)) := by
    rcases k4 with ⟨a, b, d, e⟩ | ⟨a, b, d, e⟩ | ⟨a, b, d, e⟩ | ⟨a, b, d, e⟩ | ⟨a, b, d, e⟩ <;> first | exact .inl ‹_› | exact .inr ‹_› | grind
  clear k4
  rcases j4 with e4 | e4 <;> rcases j3 with ⟨b3, e3⟩ | ⟨b3, e3⟩ | ⟨b3, e3⟩ <;> rcases j2 with ⟨a2, e2⟩ | ⟨a2, e2⟩ | ⟨a2, e2⟩ <;> rcases j1 with ⟨d1, b1, e1⟩ | ⟨d1, b1, e1⟩ | ⟨d1, b1, e1⟩ | ⟨d1, b1, e1⟩ <;> rcases j0 with a0 | a0 <;> simp [a0, d1, b1, e1, a2, e2, b3, e3, e4]
set_option maxRecDepth 16384 in
theorem pu_pawn_lo {L : LnT} {t : Nat → Int32} {n N : Int32} (F : FmT) (hF : F.1 = N) (h0 : 0 ≤ N.toInt) (h1 : N.toInt ≤ 1) : (f_fm_isPawnMove F L).1 = 0 ∧ (f_md_isPawnForm t n N).1 = 0 := by
  have z1 : (1 : Int32).toInt = 1 := by decide
  have z0 : (0 : Int32).toInt = 0 := by decide
  constructor
  · have e2 : (N - 2).toInt = N.toInt - 2 := by rw [pu_isb, show (2 : Int32).toInt = 2 by decide]; omega
    have e3 : (N - 3).toInt = N.toInt - 3 := by rw [pu_isb, show (3 : Int32).toInt = 3 by decide]; omega
    rw [pu_pawn_s, hF]
    unfold pu_pcore
    rw [pu_sq_neg (by omega), pu_sq_neg (by omega), if_pos rfl, if_pos rfl]
    split <;> rfl
  · unfold f_md_isPawnForm
    simp only [pu_bnd_k]
    rw [if_pos (show N ≤ 1 by rw [Int32.le_iff_toInt_le, z1]; omega)]
    have e1 : N ≤ 0 + 1 := by rw [Int32.le_iff_toInt_le, show (0 + 1 : Int32).toInt = 1 by decide]; omega
    rw [if_pos e1]
    by_cases c : N ≤ 0
    · rw [if_pos c]
    · rw [if_neg c]
      split <;> rfl
set_option maxRecDepth 16384 in
theorem pu_itez {p : Prop} [Decidable p] : (if p then (0 : Int32) else 0) = 0 := by
  by_cases h : p
  · rw [if_pos h]
  · rw [if_neg h]
set_option maxRecDepth 16384 in
theorem pu_pawn_hi {L : LnT} {t : Nat → Int32} {n N : Int32} (F : FmT) (hF : F.1 = N) (h0 : 6 ≤ N.toInt) (h1 : N.toInt ≤ 100) : (f_fm_isPawnMove F L).1 = 0 ∧ (f_md_isPawnForm t n N).1 = 0 := by
  have z0 : (0 : Int32).toInt = 0 := by decide
  have z2 : (2 : Int32).toInt = 2 := by decide
  have e2 : (N - 2).toInt = N.toInt - 2 := by rw [pu_isb, z2]; omega
  have e3 : (N - 3).toInt = N.toInt - 3 := by rw [pu_isb, show (3 : Int32).toInt = 3 by decide]; omega
  have a1 : ¬ N - 2 = 0 := by rw [pu_eq_i, e2, z0]; omega
  have a2 : ¬ N - 2 = 2 := by rw [pu_eq_i, e2, z2]; omega
  have a3 : ¬ N - 3 = 0 := by rw [pu_eq_i, e3, z0]; omega
  have a4 : ¬ N - 3 = 2 := by rw [pu_eq_i, e3, z2]; omega
  have b2 : ¬ (0 + 1 + 1 : Int32) = N := by rw [pu_eq_i, show (0 + 1 + 1 : Int32).toInt = 2 by decide]; omega
  have b3 : ¬ (0 + 1 + 1 + 1 : Int32) = N := by rw [pu_eq_i, show (0 + 1 + 1 + 1 : Int32).toInt = 3 by decide]; omega
  have b4 : ¬ (2 + 1 + 1 : Int32) = N := by rw [pu_eq_i, show (2 + 1 + 1 : Int32).toInt = 4 by decide]; omega
  have b5 : ¬ (2 + 1 + 1 + 1 : Int32) = N := by rw [pu_eq_i, show (2 + 1 + 1 + 1 : Int32).toInt = 5 by decide]; omega
  clear e2 e3
  constructor
  · rw [pu_pawn_s, hF]
    unfold pu_pcore
    rw [if_neg a1, if_neg a2, if_neg a3, if_neg a4]
    generalize f_gn_isPromotion (f_st_indexOf 1 (f_ln_letter L (N - 1)) + 1) = x
    by_cases c : x = 0
    · rw [if_pos c]; dsimp only; exact pu_itez
    · rw [if_neg c]; dsimp only; exact pu_itez
  · unfold f_md_isPawnForm
    simp only [pu_bnd_k]
    generalize (0 + 1 + 1 + 1 : Int32) = p3 at *
    generalize (0 + 1 + 1 : Int32) = p2 at *
    generalize (0 + 1 : Int32) = p1 at *
    generalize (2 + 1 + 1 + 1 : Int32) = q5 at *
    generalize (2 + 1 + 1 : Int32) = q4 at *
    generalize (2 + 1 : Int32) = q3 at *
    simp only [if_neg b2, if_neg b3, if_neg b4, if_neg b5]
    repeat' first | refine pu_ite0 ?_ ?_ | exact Eq.refl (0 : Int32)
set_option maxRecDepth 16384 in
theorem pu_pawn_all {L : LnT} {t : Nat → Int32} {n N : Int32} (h : pu_RL L t n) (F : FmT) (hF : F.1 = N) (h0 : 0 ≤ N.toInt) (h1 : N.toInt ≤ n.toInt) : (f_fm_isPawnMove F L).1 = 0 ↔ (f_md_isPawnForm t n N).1 = 0 := by
  have hh := h.hi
  by_cases c2 : N.toInt ≤ 1
  · obtain ⟨q1, q2⟩ := pu_pawn_lo (L := L) (t := t) (n := n) F hF h0 c2
    rw [q1, q2]
  by_cases c7 : 6 ≤ N.toInt
  · obtain ⟨q1, q2⟩ := pu_pawn_hi (L := L) (t := t) (n := n) F hF c7 (by omega)
    rw [q1, q2]
  have : N = 2 ∨ N = 3 ∨ N = 4 ∨ N = 5 := by
    simp only [pu_eq_i, show (2 : Int32).toInt = 2 by decide, show (3 : Int32).toInt = 3 by decide, show (4 : Int32).toInt = 4 by decide, show (5 : Int32).toInt = 5 by decide]; omega
  rcases this with w | w | w | w
  · rw [w] at hF h1 ⊢; exact pu_pawn2 h h1 F hF
  · rw [w] at hF h1 ⊢; exact pu_pawn3 h h1 F hF
  · rw [w] at hF h1 ⊢; exact pu_pawn4 h h1 F hF
  · rw [w] at hF h1 ⊢; exact pu_pawn5 h h1 F hF
