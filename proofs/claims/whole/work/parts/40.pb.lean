def pu_nearP (by_ kd dr a c : Int32) : Prop := (kd = 1 ∧ a = 1 ∧ dr = if by_ = 0 then 1 else -1) ∨ (kd = 2 ∧ a + c = 3 ∧ ¬ a ≤ 0 ∧ ¬ c ≤ 0) ∨ (kd = 6 ∧ ¬ 2 ≤ a ∧ ¬ 2 ≤ c)
def pu_lineP (kd a c : Int32) : Prop := (a = c ∧ (kd = 3 ∨ kd = 5)) ∨ ((a = 0 ∨ c = 0) ∧ (kd = 4 ∨ kd = 5))
def pu_hitP (on : Nat → Int32) (sq by_ v5 m kd dr a c : Int32) : Prop := ¬ m ≤ 0 ∧ (if m ≤ 6 then ¬ by_ = 1 else by_ = 1) ∧ ¬ v5 = sq ∧ (pu_nearP by_ kd dr a c ∨ (pu_lineP kd a c ∧ ¬ f_md_isOpen on v5 sq = 0))
theorem pu_c277 {on : Nat → Int32} {sq by_ v3 v4 v5 v12 v13 t0 : Int32} {k14 : Int32 → Int32 → Int32 → Int32} : f_md_isAttacked_C277 on sq by_ k14 v3 v4 v5 v12 v13 t0 = 1 ∨ f_md_isAttacked_C277 on sq by_ k14 v3 v4 v5 v12 v13 t0 = k14 v3 v4 (v5 + 1) := by
  unfold f_md_isAttacked_C277 bnd
  grind
theorem pu_c277b {on : Nat → Int32} {sq by_ v3 v4 v5 v12 v13 t0 : Int32} {k14 : Int32 → Int32 → Int32 → Int32} : (¬ v12 = 0 ∨ ((¬ v13 = 0 ∨ ¬ t0 = 0) ∧ ¬ f_md_isOpen on v5 sq = 0) → f_md_isAttacked_C277 on sq by_ k14 v3 v4 v5 v12 v13 t0 = 1) ∧ (¬ (¬ v12 = 0 ∨ ((¬ v13 = 0 ∨ ¬ t0 = 0) ∧ ¬ f_md_isOpen on v5 sq = 0)) → f_md_isAttacked_C277 on sq by_ k14 v3 v4 v5 v12 v13 t0 = k14 v3 v4 (v5 + 1)) := by
  unfold f_md_isAttacked_C277 bnd
  grind
theorem pu_c222 {on : Nat → Int32} {sq by_ v3 v4 v5 kd a c t0 : Int32} {k14 : Int32 → Int32 → Int32 → Int32} : (¬ t0 = 0 ∨ (pu_lineP kd a c ∧ ¬ f_md_isOpen on v5 sq = 0) → f_md_isAttacked_C222 on sq by_ k14 v3 v4 v5 kd a c t0 = 1) ∧ (¬ (¬ t0 = 0 ∨ (pu_lineP kd a c ∧ ¬ f_md_isOpen on v5 sq = 0)) → f_md_isAttacked_C222 on sq by_ k14 v3 v4 v5 kd a c t0 = k14 v3 v4 (v5 + 1)) := by
  unfold f_md_isAttacked_C222 f_md_isAttacked_C248 pu_lineP
  have h := @pu_c277b
  grind
theorem pu_c93 {on : Nat → Int32} {sq by_ v3 v4 v5 m kd dr a c : Int32} {k14 : Int32 → Int32 → Int32 → Int32} : (pu_hitP on sq by_ v5 m kd dr a c → f_md_isAttacked_C93 on sq by_ k14 v3 v4 v5 m kd dr a c = 1) ∧ (¬ pu_hitP on sq by_ v5 m kd dr a c → f_md_isAttacked_C93 on sq by_ k14 v3 v4 v5 m kd dr a c = k14 v3 v4 (v5 + 1)) := by
  have h1 := (@pu_c222 on sq by_ v3 v4 v5 kd a c 1 k14).1 (.inl (by decide))
  have h0 := (@pu_c222 on sq by_ v3 v4 v5 kd a c 0 k14).1
  have h2 := (@pu_c222 on sq by_ v3 v4 v5 kd a c 0 k14).2
  simp only [not_true, false_or] at h0 h2
  unfold f_md_isAttacked_C93 pu_hitP pu_nearP
  rw [h1]
  generalize f_md_isAttacked_C222 on sq by_ k14 v3 v4 v5 kd a c 0 = r0 at h0 h2 ⊢
  generalize k14 v3 v4 (v5 + 1) = kk at h0 h2 ⊢
  generalize (pu_lineP kd a c ∧ ¬ f_md_isOpen on v5 sq = 0) = Lp at h0 h2 ⊢
  by_cases hL : Lp
  · have e := h0 hL
    subst e
    simp only [hL, or_true]
    grind
  · have e := h2 hL
    subst e
    simp only [hL, or_false]
    grind
def pu_ab (d : Int32) : Int32 := if 0 ≤ d then d else -d
def pu_hitS (b : Nat → Int32) (sq by_ x y : Int32) (v5 : Int32) : Prop :=
  pu_hitP b sq by_ v5 (b v5.toNatClampNeg) (if b v5.toNatClampNeg ≤ 6 then b v5.toNatClampNeg else b v5.toNatClampNeg - 6) (y - v5 / 8) (pu_ab (x - (v5 - v5 / 8 * 8))) (pu_ab (y - v5 / 8))
theorem pu_c44 {on : Nat → Int32} {sq by_ v3 v4 v5 m kd : Int32} {k14 : Int32 → Int32 → Int32 → Int32} : f_md_isAttacked_C44 on sq by_ k14 v3 v4 v5 m kd = f_md_isAttacked_C93 on sq by_ k14 v3 v4 v5 m kd (v4 - v5 / 8) (pu_ab (v3 - (v5 - v5 / 8 * 8))) (pu_ab (v4 - v5 / 8)) := by
  unfold f_md_isAttacked_C44 f_md_isAttacked_C78 pu_ab
  split <;> split <;> rfl
theorem pu_at_L {b : Nat → Int32} {sq by_ x y : Int32} : ∀ (k : Nat) (v : Int32), 0 ≤ v.toInt → (64 - v.toInt).toNat < k →
    (f_md_isAttacked_L14 b sq by_ k x y v = 1 ∧ ∃ s : Int32, v.toInt ≤ s.toInt ∧ s.toInt < 64 ∧ pu_hitS b sq by_ x y s) ∨ (f_md_isAttacked_L14 b sq by_ k x y v = 0 ∧ ∀ s : Int32, v.toInt ≤ s.toInt → s.toInt < 64 → ¬ pu_hitS b sq by_ x y s) := by
  intro k
  induction k with
  | zero => intro v h0 h1; omega
  | succ k ih =>
    intro v h0 h1
    rw [f_md_isAttacked_L14]
    by_cases c1 : (64 : Int32) ≤ v
    · rw [if_pos c1]
      exact .inr ⟨rfl, fun s a q => by clear ih; (simp only [Int32.lt_iff_toInt_lt, Int32.le_iff_toInt_le, ← Int32.toInt_inj, pu_ia, pu_isb, pu_im, pu_tn, pu_in1, pu_in2, pu_in3, pu_in4, pu_in8, Int32.reduceToInt, Int.reduceNeg, ne_eq] at *; omega)⟩
    rw [if_neg c1, pu_c44, pu_c44]
    have c9 : v.toInt < 64 := by clear ih; (simp only [Int32.lt_iff_toInt_lt, Int32.le_iff_toInt_le, ← Int32.toInt_inj, pu_ia, pu_isb, pu_im, pu_tn, pu_in1, pu_in2, pu_in3, pu_in4, pu_in8, Int32.reduceToInt, Int.reduceNeg, ne_eq] at *; omega)
    have e3 : (v + 1).toInt = v.toInt + 1 := by clear ih; (simp only [Int32.lt_iff_toInt_lt, Int32.le_iff_toInt_le, ← Int32.toInt_inj, pu_ia, pu_isb, pu_im, pu_tn, pu_in1, pu_in2, pu_in3, pu_in4, pu_in8, Int32.reduceToInt, Int.reduceNeg, ne_eq] at *; omega)
    have st : (if b v.toNatClampNeg ≤ 6 then f_md_isAttacked_C93 b sq by_ (fun a0 a1 a2 => f_md_isAttacked_L14 b sq by_ k a0 a1 a2) x y v (b v.toNatClampNeg) (b v.toNatClampNeg) (y - v / 8) (pu_ab (x - (v - v / 8 * 8))) (pu_ab (y - v / 8)) else f_md_isAttacked_C93 b sq by_ (fun a0 a1 a2 => f_md_isAttacked_L14 b sq by_ k a0 a1 a2) x y v (b v.toNatClampNeg) (b v.toNatClampNeg - 6) (y - v / 8) (pu_ab (x - (v - v / 8 * 8))) (pu_ab (y - v / 8))) =
        f_md_isAttacked_C93 b sq by_ (fun a0 a1 a2 => f_md_isAttacked_L14 b sq by_ k a0 a1 a2) x y v (b v.toNatClampNeg) (if b v.toNatClampNeg ≤ 6 then b v.toNatClampNeg else b v.toNatClampNeg - 6) (y - v / 8) (pu_ab (x - (v - v / 8 * 8))) (pu_ab (y - v / 8)) := by
      split <;> rfl
    rw [st]
    by_cases hh : pu_hitS b sq by_ x y v
    · rw [pu_c93.1 hh]
      exact .inl ⟨rfl, v, Int.le_refl _, c9, hh⟩
    · rw [pu_c93.2 hh]
      rcases ih (v + 1) (by omega) (by omega) with ⟨q, s, a1, a2, a3⟩ | ⟨q, a1⟩
      · exact .inl ⟨q, s, by omega, a2, a3⟩
      · refine .inr ⟨q, fun s p1 p2 => ?_⟩
        by_cases hs : s = v
        · subst hs; exact hh
        · exact a1 s (by
            have : s.toInt ≠ v.toInt := fun q => hs (Int32.toInt_inj.mp q)
            omega) p2
theorem pu_at_md (b : Nat → Int32) (sq by_ : Int32) :
    (f_md_isAttacked b sq by_ = 1 ∧ ∃ s : Int32, 0 ≤ s.toInt ∧ s.toInt < 64 ∧ pu_hitS b sq by_ (sq - sq / 8 * 8) (sq / 8) s) ∨ (f_md_isAttacked b sq by_ = 0 ∧ ∀ s : Int32, 0 ≤ s.toInt → s.toInt < 64 → ¬ pu_hitS b sq by_ (sq - sq / 8 * 8) (sq / 8) s) :=
  pu_at_L 65 0 (by decide) (by decide)
theorem pu_op_L {on : Nat → Int32} {fr to v3 v4 : Int32} {d : Int} (hd : (v3 + 8 * v4).toInt = d) (d0 : d ≠ 0) (t0 : 0 ≤ to.toInt) (t1 : to.toInt < 64) : ∀ (q n : Nat) (v5 v6 : Int32), q < n → 0 ≤ v6.toInt → v6.toInt < 64 → to.toInt = v6.toInt + q * d →
    (¬ f_md_isOpen_L79 on fr to n v3 v4 v5 v6 = 0 ↔ ¬ v5 = 0 ∧ ∀ i : Nat, i < q → on (v6.toInt + i * d).toNat = 0) := by
  intro q
  induction q with
  | zero =>
    intro n v5 v6 hn h0 h1 h2
    obtain ⟨n, rfl⟩ : ∃ n', n = n' + 1 := ⟨n - 1, by omega⟩
    have e : v6 = to := Int32.toInt_inj.mp (by omega)
    rw [f_md_isOpen_L79, if_pos e]
    exact ⟨fun h => ⟨h, fun i hi => by omega⟩, fun h => h.1⟩
  | succ q ih =>
    intro n v5 v6 hn h0 h1 h2
    obtain ⟨n, rfl⟩ : ∃ n', n = n' + 1 := ⟨n - 1, by omega⟩
    have e1 : ((q + 1 : Nat) : Int) * d = q * d + d := by rw [Int.natCast_add, Int.add_mul]; simp
    have hb : (0 ≤ q * d ∧ 0 < d) ∨ (q * d ≤ 0 ∧ d < 0) := by
      rcases Int.lt_or_gt_of_ne d0 with h | h
      · exact .inr ⟨Int.mul_nonpos_of_nonneg_of_nonpos (by omega) (by omega), h⟩
      · exact .inl ⟨Int.mul_nonneg (by omega) (by omega), h⟩
    have e : ¬ v6 = to := fun e => by subst e; omega
    have ev : (v6 + (v3 + 8 * v4)).toInt = v6.toInt + d := by
      rw [pu_ia, hd]; omega
    have h4 : to.toInt = (v6 + (v3 + 8 * v4)).toInt + q * d := by omega
    have hv0 : 0 ≤ (v6 + (v3 + 8 * v4)).toInt := by omega
    have hv1 : (v6 + (v3 + 8 * v4)).toInt < 64 := by omega
    rw [f_md_isOpen_L79, if_neg e]
    have e00 : v6.toInt + ((0 : Nat) : Int) * d = v6.toInt := by simp
    have ex : (∀ i : Nat, i < q + 1 → on (v6.toInt + i * d).toNat = 0) ↔ (on v6.toNatClampNeg = 0 ∧ ∀ i : Nat, i < q → on ((v6 + (v3 + 8 * v4)).toInt + i * d).toNat = 0) := by
      constructor
      · intro h
        refine ⟨by have := h 0 (by omega); rw [e00] at this; exact this, fun i hi => ?_⟩
        have := h (i + 1) (by omega)
        have e2 : v6.toInt + ((i + 1 : Nat) : Int) * d = (v6 + (v3 + 8 * v4)).toInt + i * d := by
          rw [ev, Int.natCast_add, Int.add_mul]; simp; omega
        rw [e2] at this; exact this
      · rintro ⟨h5, h6⟩ i hi
        cases i with
        | zero => rw [e00]; exact h5
        | succ i =>
          have e2 : v6.toInt + ((i + 1 : Nat) : Int) * d = (v6 + (v3 + 8 * v4)).toInt + i * d := by
            rw [ev, Int.natCast_add, Int.add_mul]; simp; omega
          rw [e2]; exact h6 i (by omega)
    rw [ex]
    by_cases c1 : v5 = 0
    · rw [if_pos c1, ih n 0 _ (by omega) hv0 hv1 h4]
      simp [c1]
    · rw [if_neg c1]
      by_cases c2 : on v6.toNatClampNeg = 0
      · rw [if_pos c2, ih n 1 _ (by omega) hv0 hv1 h4]
        simp [c1, c2]
      · rw [if_neg c2, ih n 0 _ (by omega) hv0 hv1 h4]
        simp [c2]
theorem pu_fl_i {s : Int32} (h0 : 0 ≤ s.toInt) (h1 : s.toInt < 64) : (s - s / 8 * 8).toInt = s.toInt % 8 ∧ (s / 8).toInt = s.toInt / 8 :=
  pu_all_rg (P := fun s => (s - s / 8 * 8).toInt = s.toInt % 8 ∧ (s / 8).toInt = s.toInt / 8) 64 (by decide) h0 h1
theorem pu_op_iff {on : Nat → Int32} {fr to : Int32} (f0 : 0 ≤ fr.toInt) (f1 : fr.toInt < 64) (t0 : 0 ≤ to.toInt) (t1 : to.toInt < 64) {fi ra : Int} {k : Nat} (hk : 1 ≤ k) (hk7 : k ≤ 7)
    (hfi : fi = -1 ∨ fi = 0 ∨ fi = 1) (hra : ra = -1 ∨ ra = 0 ∨ ra = 1) (hne : ¬ (fi = 0 ∧ ra = 0)) (hX : fr.toInt % 8 = to.toInt % 8 + k * fi) (hY : fr.toInt / 8 = to.toInt / 8 + k * ra) :
    (¬ f_md_isOpen on fr to = 0) ↔ ∀ j : Nat, 1 ≤ j → j < k → on (8 * (to.toInt / 8 + j * ra) + (to.toInt % 8 + j * fi)).toNat = 0 := by
  obtain ⟨a1, a2⟩ := pu_fl_i f0 f1
  obtain ⟨b1, b2⟩ := pu_fl_i t0 t1
  have go : ∀ (v3 v4 v6 : Int32) (d : Int), (v3 + 8 * v4).toInt = d → d ≠ 0 → d = -(fi + 8 * ra) → v6.toInt = fr.toInt + d →
      (¬ f_md_isOpen_L79 on fr to 9 v3 v4 1 v6 = 0 ↔ ∀ j : Nat, 1 ≤ j → j < k → on (8 * (to.toInt / 8 + j * ra) + (to.toInt % 8 + j * fi)).toNat = 0) := by
    intro v3 v4 v6 d hd d0 hd2 h6
    obtain ⟨q, rfl⟩ : ∃ q, k = q + 1 := ⟨k - 1, by omega⟩
    have e1 : ((q + 1 : Nat) : Int) * fi = q * fi + fi := by rw [Int.natCast_add, Int.add_mul]; simp
    have e2 : ((q + 1 : Nat) : Int) * ra = q * ra + ra := by rw [Int.natCast_add, Int.add_mul]; simp
    have e5 : ∀ z : Int, z * d = -(z * fi) - 8 * (z * ra) := fun z => by rw [hd2, Int.mul_neg, Int.mul_add, Int.mul_left_comm]; omega
    have e3 := e5 q
    rw [e1] at hX; rw [e2] at hY
    have h7 : to.toInt = v6.toInt + q * d := by omega
    have hq : v6.toInt = 8 * (to.toInt / 8 + q * ra) + (to.toInt % 8 + q * fi) := by omega
    have hb : -7 * 1 ≤ (q * fi) ∧ q * fi ≤ 7 ∧ -7 ≤ q * ra ∧ q * ra ≤ 7 := by
      rcases hfi with rfl | rfl | rfl <;> rcases hra with rfl | rfl | rfl <;> omega
    have hv : 0 ≤ v6.toInt ∧ v6.toInt < 64 := by
      rcases hfi with rfl | rfl | rfl <;> rcases hra with rfl | rfl | rfl <;> omega
    rw [pu_op_L hd d0 t0 t1 q 9 1 v6 (by omega) hv.1 hv.2 h7]
    constructor
    · rintro ⟨-, h⟩ j j1 j2
      have := h (q - j) (by omega)
      have e4 : v6.toInt + ((q - j : Nat) : Int) * d = 8 * (to.toInt / 8 + j * ra) + (to.toInt % 8 + j * fi) := by
        rw [Int.natCast_sub (by omega), Int.sub_mul, e3, hq, e5 j]; omega
      rw [e4] at this; exact this
    · intro h
      refine ⟨by decide, fun i hi => ?_⟩
      have := h (q - i) (by omega) (by omega)
      have e4 : v6.toInt + (i : Int) * d = 8 * (to.toInt / 8 + ((q - i : Nat) : Int) * ra) + (to.toInt % 8 + ((q - i : Nat) : Int) * fi) := by
        rw [Int.natCast_sub (by omega), Int.sub_mul, Int.sub_mul, hq, e5 i]; omega
      rw [e4]; exact this
  unfold f_md_isOpen
  simp only [Int32.le_iff_toInt_le, a1, a2, b1, b2]
  have hk' : (1 : Int) ≤ k := by omega
  have z1 : (0 : Int32).toInt = 0 := by decide
  have o1 : (1 : Int32).toInt = 1 := by decide
  rcases hfi with rfl | rfl | rfl <;> rcases hra with rfl | rfl | rfl
  · rw [if_neg (by omega), if_neg (by omega)]
    exact go _ _ _ 9 (by decide) (by decide) (by decide) (by clear go a1 a2 b1 b2; (simp only [Int32.lt_iff_toInt_lt, Int32.le_iff_toInt_le, ← Int32.toInt_inj, pu_ia, pu_isb, pu_im, pu_tn, pu_in1, pu_in2, pu_in3, pu_in4, pu_in8, Int32.reduceToInt, Int.reduceNeg, ne_eq] at *; omega))
  · rw [if_neg (by omega), if_pos (by omega), if_pos (by omega)]
    exact go _ _ _ 1 (by decide) (by decide) (by decide) (by clear go a1 a2 b1 b2; (simp only [Int32.lt_iff_toInt_lt, Int32.le_iff_toInt_le, ← Int32.toInt_inj, pu_ia, pu_isb, pu_im, pu_tn, pu_in1, pu_in2, pu_in3, pu_in4, pu_in8, Int32.reduceToInt, Int.reduceNeg, ne_eq] at *; omega))
  · rw [if_neg (by omega), if_pos (by omega), if_neg (by omega)]
    exact go _ _ _ (-7) (by decide) (by decide) (by decide) (by clear go a1 a2 b1 b2; (simp only [Int32.lt_iff_toInt_lt, Int32.le_iff_toInt_le, ← Int32.toInt_inj, pu_ia, pu_isb, pu_im, pu_tn, pu_in1, pu_in2, pu_in3, pu_in4, pu_in8, Int32.reduceToInt, Int.reduceNeg, ne_eq] at *; omega))
  · rw [if_pos (by omega), if_pos (by omega), if_neg (by omega)]
    exact go _ _ _ 8 (by decide) (by decide) (by decide) (by clear go a1 a2 b1 b2; (simp only [Int32.lt_iff_toInt_lt, Int32.le_iff_toInt_le, ← Int32.toInt_inj, pu_ia, pu_isb, pu_im, pu_tn, pu_in1, pu_in2, pu_in3, pu_in4, pu_in8, Int32.reduceToInt, Int.reduceNeg, ne_eq] at *; omega))
  · exact absurd ⟨rfl, rfl⟩ hne
  · rw [if_pos (by omega), if_pos (by omega), if_pos (by omega), if_neg (by omega)]
    exact go _ _ _ (-8) (by decide) (by decide) (by decide) (by clear go a1 a2 b1 b2; (simp only [Int32.lt_iff_toInt_lt, Int32.le_iff_toInt_le, ← Int32.toInt_inj, pu_ia, pu_isb, pu_im, pu_tn, pu_in1, pu_in2, pu_in3, pu_in4, pu_in8, Int32.reduceToInt, Int.reduceNeg, ne_eq] at *; omega))
  · rw [if_pos (by omega), if_neg (by omega), if_neg (by omega)]
    exact go _ _ _ 7 (by decide) (by decide) (by decide) (by clear go a1 a2 b1 b2; (simp only [Int32.lt_iff_toInt_lt, Int32.le_iff_toInt_le, ← Int32.toInt_inj, pu_ia, pu_isb, pu_im, pu_tn, pu_in1, pu_in2, pu_in3, pu_in4, pu_in8, Int32.reduceToInt, Int.reduceNeg, ne_eq] at *; omega))
  · rw [if_pos (by omega), if_neg (by omega), if_pos (by omega), if_pos (by omega)]
    exact go _ _ _ (-1) (by decide) (by decide) (by decide) (by clear go a1 a2 b1 b2; (simp only [Int32.lt_iff_toInt_lt, Int32.le_iff_toInt_le, ← Int32.toInt_inj, pu_ia, pu_isb, pu_im, pu_tn, pu_in1, pu_in2, pu_in3, pu_in4, pu_in8, Int32.reduceToInt, Int.reduceNeg, ne_eq] at *; omega))
  · rw [if_pos (by omega), if_neg (by omega), if_pos (by omega), if_neg (by omega)]
    exact go _ _ _ (-9) (by decide) (by decide) (by decide) (by clear go a1 a2 b1 b2; (simp only [Int32.lt_iff_toInt_lt, Int32.le_iff_toInt_le, ← Int32.toInt_inj, pu_ia, pu_isb, pu_im, pu_tn, pu_in1, pu_in2, pu_in3, pu_in4, pu_in8, Int32.reduceToInt, Int.reduceNeg, ne_eq] at *; omega))
def pu_bA (b : Nat → Int32) (X Y : Int) : Int32 := if 0 ≤ X ∧ X < 8 ∧ 0 ≤ Y ∧ Y < 8 then b (8 * Y + X).toNat else -1
theorem pu_manAt_i {P : PsT} {b : Nat → Int32} (h : pu_RB P.1 b) (f r : Int32) : f_ps_manAt P f r = pu_bA b f.toInt r.toInt := by
  unfold f_ps_manAt pu_bA
  by_cases c : 0 ≤ f.toInt ∧ f.toInt < 8 ∧ 0 ≤ r.toInt ∧ r.toInt < 8
  · obtain ⟨c1, c2, c3, c4⟩ := c
    have k : 0 ≤ f.toInt ∧ f.toInt < 8 ∧ 0 ≤ r.toInt ∧ r.toInt < 8 := ⟨c1, c2, c3, c4⟩
    rw [if_pos k, if_neg (by clear h; (simp only [Int32.lt_iff_toInt_lt, Int32.le_iff_toInt_le, ← Int32.toInt_inj, pu_ia, pu_isb, pu_im, pu_tn, pu_in1, pu_in2, pu_in3, pu_in4, pu_in8, Int32.reduceToInt, Int.reduceNeg, ne_eq] at *; omega)), if_neg (by clear h; (simp only [Int32.lt_iff_toInt_lt, Int32.le_iff_toInt_le, ← Int32.toInt_inj, pu_ia, pu_isb, pu_im, pu_tn, pu_in1, pu_in2, pu_in3, pu_in4, pu_in8, Int32.reduceToInt, Int.reduceNeg, ne_eq] at *; omega)), if_neg (by clear h; (simp only [Int32.lt_iff_toInt_lt, Int32.le_iff_toInt_le, ← Int32.toInt_inj, pu_ia, pu_isb, pu_im, pu_tn, pu_in1, pu_in2, pu_in3, pu_in4, pu_in8, Int32.reduceToInt, Int.reduceNeg, ne_eq] at *; omega)), if_neg (by clear h; (simp only [Int32.lt_iff_toInt_lt, Int32.le_iff_toInt_le, ← Int32.toInt_inj, pu_ia, pu_isb, pu_im, pu_tn, pu_in1, pu_in2, pu_in3, pu_in4, pu_in8, Int32.reduceToInt, Int.reduceNeg, ne_eq] at *; omega))]
    have e : (r * 8 + f).toNatClampNeg = (8 * r.toInt + f.toInt).toNat := by clear h; (simp only [Int32.lt_iff_toInt_lt, Int32.le_iff_toInt_le, ← Int32.toInt_inj, pu_ia, pu_isb, pu_im, pu_tn, pu_in1, pu_in2, pu_in3, pu_in4, pu_in8, Int32.reduceToInt, Int.reduceNeg, ne_eq] at *; omega)
    rw [e]
    exact h.eq _ (by omega)
  · rw [if_neg c]
    by_cases d1 : f < 0
    · rw [if_pos d1]
    rw [if_neg d1]
    by_cases d2 : 8 ≤ f
    · rw [if_pos d2]
    rw [if_neg d2]
    by_cases d3 : r < 0
    · rw [if_pos d3]
    rw [if_neg d3, if_pos]
    clear h; (simp only [Int32.lt_iff_toInt_lt, Int32.le_iff_toInt_le, ← Int32.toInt_inj, pu_ia, pu_isb, pu_im, pu_tn, pu_in1, pu_in2, pu_in3, pu_in4, pu_in8, Int32.reduceToInt, Int.reduceNeg, ne_eq] at *; omega)
theorem pu_sq_f {s : Int32} (h0 : 0 ≤ s.toInt) (h1 : s.toInt < 64) : (f_gn_fileOf s).toInt = s.toInt % 8 ∧ (f_gn_rankOf s).toInt = s.toInt / 8 := pu_fl_i h0 h1
theorem pu_near_L {P : PsT} {b : Nat → Int32} (h : pu_RB P.1 b) {sq mn : Int32} (h0 : 0 ≤ sq.toInt) (h1 : sq.toInt < 64) {fs rs N : Nat} (hf : tbN fs = N) (hr : tbN rs = N) (hN : N ≤ 8)
    (hT : ∀ i : Nat, i < N → (-2 ≤ (tbl fs i).toInt ∧ (tbl fs i).toInt ≤ 2) ∧ (-2 ≤ (tbl rs i).toInt ∧ (tbl rs i).toInt ≤ 2)) : ∀ (k : Nat) (v : Int32), 0 ≤ v.toInt → (8 - v.toInt).toNat < k →
    (f_ps_isNear_L3 P sq mn fs rs k v = 1 ∧ ∃ i : Nat, v.toInt ≤ i ∧ i < N ∧ pu_bA b (sq.toInt % 8 + (tbl fs i).toInt) (sq.toInt / 8 + (tbl rs i).toInt) = mn) ∨
    (f_ps_isNear_L3 P sq mn fs rs k v = 0 ∧ ∀ i : Nat, v.toInt ≤ i → i < N → pu_bA b (sq.toInt % 8 + (tbl fs i).toInt) (sq.toInt / 8 + (tbl rs i).toInt) ≠ mn) := by
  obtain ⟨a1, a2⟩ := pu_sq_f h0 h1
  have eN : (Int32.ofNat N).toInt = N := pu_nat_ofn (by omega)
  intro k
  induction k with
  | zero => intro v h0 h1; omega
  | succ k ih =>
    intro v v0 v1
    rw [f_ps_isNear_L3, hf, hr]
    unfold bnd; dsimp only
    by_cases c1 : Int32.ofNat N ≤ v
    · rw [if_pos c1]
      rw [Int32.le_iff_toInt_le, eN] at c1
      exact .inr ⟨rfl, fun i p1 p2 => by omega⟩
    have c2 : v.toInt < N := by rw [Int32.le_iff_toInt_le, eN] at c1; omega
    obtain ⟨⟨t1, t2⟩, t3, t4⟩ := hT v.toNatClampNeg (by rw [pu_tn]; omega)
    rw [if_neg c1, if_neg c1, pu_manAt_i h]
    have e1 : (f_gn_fileOf sq + tbl fs v.toNatClampNeg).toInt = sq.toInt % 8 + (tbl fs v.toNatClampNeg).toInt := by rw [pu_ia, a1]; omega
    have e2 : (f_gn_rankOf sq + tbl rs v.toNatClampNeg).toInt = sq.toInt / 8 + (tbl rs v.toNatClampNeg).toInt := by rw [pu_ia, a2]; omega
    rw [e1, e2]
    have e3 : (v + 1).toInt = v.toInt + 1 := by rw [pu_ia]; simp; omega
    by_cases c3 : pu_bA b (sq.toInt % 8 + (tbl fs v.toNatClampNeg).toInt) (sq.toInt / 8 + (tbl rs v.toNatClampNeg).toInt) = mn
    · rw [if_pos c3]
      exact .inl ⟨rfl, v.toNatClampNeg, by rw [pu_tn]; omega, by rw [pu_tn]; omega, c3⟩
    rw [if_neg c3]
    rcases ih (v + 1) (by omega) (by omega) with ⟨q, i, p1, p2, p3⟩ | ⟨q, p⟩
    · exact .inl ⟨q, i, by omega, p2, p3⟩
    · refine .inr ⟨q, fun i p1 p2 => ?_⟩
      by_cases hi : (i : Int) = v.toInt
      · have : i = v.toNatClampNeg := by rw [pu_tn]; omega
        rw [this]; exact c3
      · exact p i (by omega) p2
theorem pu_first_L {P : PsT} {b : Nat → Int32} (h : pu_RB P.1 b) {sq fi ra : Int32} (h0 : 0 ≤ sq.toInt) (h1 : sq.toInt < 64) (hf : -1 ≤ fi.toInt ∧ fi.toInt ≤ 1) (hr : -1 ≤ ra.toInt ∧ ra.toInt ≤ 1) : ∀ (k : Nat) (v : Int32), 1 ≤ v.toInt → (8 - v.toInt).toNat < k →
    (∃ j : Nat, v.toInt ≤ j ∧ j < 8 ∧ pu_bA b (sq.toInt % 8 + j * fi.toInt) (sq.toInt / 8 + j * ra.toInt) ≠ 0 ∧ f_ps_firstInLine_L3 P sq fi ra k v = pu_bA b (sq.toInt % 8 + j * fi.toInt) (sq.toInt / 8 + j * ra.toInt) ∧ ∀ i : Nat, v.toInt ≤ i → i < j → pu_bA b (sq.toInt % 8 + i * fi.toInt) (sq.toInt / 8 + i * ra.toInt) = 0) ∨
    ((∀ i : Nat, v.toInt ≤ i → i < 8 → pu_bA b (sq.toInt % 8 + i * fi.toInt) (sq.toInt / 8 + i * ra.toInt) = 0) ∧ f_ps_firstInLine_L3 P sq fi ra k v = -1) := by
  obtain ⟨a1, a2⟩ := pu_sq_f h0 h1
  intro k
  induction k with
  | zero => intro v h0 h1; omega
  | succ k ih =>
    intro v v0 v1
    rw [f_ps_firstInLine_L3]
    unfold bnd; dsimp only
    by_cases c1 : (8 : Int32) ≤ v
    · rw [if_pos c1]
      rw [Int32.le_iff_toInt_le] at c1
      have : (8 : Int32).toInt = 8 := by decide
      exact .inr ⟨fun i p1 p2 => by omega, rfl⟩
    have c2 : v.toInt < 8 := by rw [Int32.le_iff_toInt_le] at c1; have : (8 : Int32).toInt = 8 := by decide
                                omega
    rw [if_neg c1, pu_manAt_i h]
    have hv : v.toInt = ((v.toNatClampNeg : Nat) : Int) := by rw [pu_tn]; omega
    have m1 : -7 ≤ v.toInt * fi.toInt ∧ v.toInt * fi.toInt ≤ 7 := by
      have : fi.toInt = -1 ∨ fi.toInt = 0 ∨ fi.toInt = 1 := by omega
      rcases this with e | e | e <;> rw [e] <;> omega
    have m2 : -7 ≤ v.toInt * ra.toInt ∧ v.toInt * ra.toInt ≤ 7 := by
      have : ra.toInt = -1 ∨ ra.toInt = 0 ∨ ra.toInt = 1 := by omega
      rcases this with e | e | e <;> rw [e] <;> omega
    have q1 : (v * fi).toInt = v.toInt * fi.toInt := by rw [pu_im]; omega
    have q2 : (v * ra).toInt = v.toInt * ra.toInt := by rw [pu_im]; omega
    have e1 : (f_gn_fileOf sq + v * fi).toInt = sq.toInt % 8 + (v.toNatClampNeg : Nat) * fi.toInt := by rw [pu_ia, a1, q1, ← hv]; omega
    have e2 : (f_gn_rankOf sq + v * ra).toInt = sq.toInt / 8 + (v.toNatClampNeg : Nat) * ra.toInt := by rw [pu_ia, a2, q2, ← hv]; omega
    rw [e1, e2]
    have e3 : (v + 1).toInt = v.toInt + 1 := by rw [pu_ia]; simp; omega
    by_cases c3 : pu_bA b (sq.toInt % 8 + (v.toNatClampNeg : Nat) * fi.toInt) (sq.toInt / 8 + (v.toNatClampNeg : Nat) * ra.toInt) = 0
    · rw [if_pos c3]
      rcases ih (v + 1) (by omega) (by omega) with ⟨j, p1, p2, p3, p4, p5⟩ | ⟨p1, p2⟩
      · refine .inl ⟨j, by omega, p2, p3, p4, fun i w1 w2 => ?_⟩
        by_cases hi : (i : Int) = v.toInt
        · have : i = v.toNatClampNeg := by omega
          rw [this]; exact c3
        · exact p5 i (by omega) w2
      · refine .inr ⟨fun i w1 w2 => ?_, p2⟩
        by_cases hi : (i : Int) = v.toInt
        · have : i = v.toNatClampNeg := by omega
          rw [this]; exact c3
        · exact p1 i (by omega) w2
    · rw [if_neg c3]
      exact .inl ⟨v.toNatClampNeg, by omega, by omega, c3, rfl, fun i w1 w2 => by omega⟩
def pu_ray (b : Nat → Int32) (x y fi ra : Int) (mn : Int32) : Prop := ∃ j : Nat, 1 ≤ j ∧ j < 8 ∧ pu_bA b (x + j * fi) (y + j * ra) = mn ∧ ∀ i : Nat, 1 ≤ i → i < j → pu_bA b (x + i * fi) (y + i * ra) = 0
theorem pu_first_iff {P : PsT} {b : Nat → Int32} (h : pu_RB P.1 b) {sq fi ra : Int32} (h0 : 0 ≤ sq.toInt) (h1 : sq.toInt < 64) (hf : -1 ≤ fi.toInt ∧ fi.toInt ≤ 1) (hr : -1 ≤ ra.toInt ∧ ra.toInt ≤ 1) {mn : Int32} (hm : 1 ≤ mn.toInt) :
    f_ps_firstInLine P sq fi ra = mn ↔ pu_ray b (sq.toInt % 8) (sq.toInt / 8) fi.toInt ra.toInt mn := by
  have o1 : (1 : Int32).toInt = 1 := by decide
  have n1 : mn ≠ -1 := fun e => by subst e; revert hm; decide
  have n0 : mn ≠ 0 := fun e => by subst e; revert hm; decide
  unfold f_ps_firstInLine pu_ray
  rcases pu_first_L h h0 h1 hf hr 9 1 (by decide) (by decide) with ⟨j, p1, p2, p3, p4, p5⟩ | ⟨p1, p2⟩
  · rw [p4]
    constructor
    · intro e
      exact ⟨j, by omega, p2, e, fun i w1 w2 => p5 i (by omega) w2⟩
    · rintro ⟨j', w1, w2, w3, w4⟩
      have : j = j' := by
        rcases Nat.lt_trichotomy j j' with q | q | q
        · exact absurd (w4 j (by omega) q) p3
        · exact q
        · exact absurd (w3.symm.trans (p5 j' (by omega) q)) n0
      subst this; exact w3
  · rw [p2]
    constructor
    · intro e; exact absurd e.symm n1
    · rintro ⟨j', w1, w2, w3, w4⟩
      exact absurd (w3.symm.trans (p1 j' (by omega) w2)) n0
theorem pu_line_L {P : PsT} {b : Nat → Int32} (h : pu_RB P.1 b) {sq mn by_ : Int32} (h0 : 0 ≤ sq.toInt) (h1 : sq.toInt < 64) (hm : 1 ≤ mn.toInt) (hq : 1 ≤ (f_gn_manOf 5 by_).toInt) {fs rs N : Nat} (hf : tbN fs = N) (hr : tbN rs = N) (hN : N ≤ 8)
    (hT : ∀ i : Nat, i < N → (-1 ≤ (tbl fs i).toInt ∧ (tbl fs i).toInt ≤ 1) ∧ (-1 ≤ (tbl rs i).toInt ∧ (tbl rs i).toInt ≤ 1)) : ∀ (k : Nat) (v : Int32), 0 ≤ v.toInt → (8 - v.toInt).toNat < k →
    (f_ps_isInLine_L3 P sq mn by_ fs rs k v = 1 ∧ ∃ i : Nat, v.toInt ≤ i ∧ i < N ∧ (pu_ray b (sq.toInt % 8) (sq.toInt / 8) (tbl fs i).toInt (tbl rs i).toInt mn ∨ pu_ray b (sq.toInt % 8) (sq.toInt / 8) (tbl fs i).toInt (tbl rs i).toInt (f_gn_manOf 5 by_))) ∨
    (f_ps_isInLine_L3 P sq mn by_ fs rs k v = 0 ∧ ∀ i : Nat, v.toInt ≤ i → i < N → ¬ (pu_ray b (sq.toInt % 8) (sq.toInt / 8) (tbl fs i).toInt (tbl rs i).toInt mn ∨ pu_ray b (sq.toInt % 8) (sq.toInt / 8) (tbl fs i).toInt (tbl rs i).toInt (f_gn_manOf 5 by_))) := by
  have eN : (Int32.ofNat N).toInt = N := pu_nat_ofn (by omega)
  intro k
  induction k with
  | zero => intro v h0 h1; omega
  | succ k ih =>
    intro v v0 v1
    rw [f_ps_isInLine_L3, hf, hr]
    unfold bnd; dsimp only
    by_cases c1 : Int32.ofNat N ≤ v
    · rw [if_pos c1]
      rw [Int32.le_iff_toInt_le, eN] at c1
      exact .inr ⟨rfl, fun i p1 p2 => by omega⟩
    have c2 : v.toInt < N := by rw [Int32.le_iff_toInt_le, eN] at c1; omega
    obtain ⟨t1, t2⟩ := hT v.toNatClampNeg (by rw [pu_tn]; omega)
    rw [if_neg c1, if_neg c1]
    have e3 : (v + 1).toInt = v.toInt + 1 := by rw [pu_ia]; simp; omega
    have f1 := pu_first_iff h h0 h1 t1 t2 hm
    have f2 := pu_first_iff h h0 h1 t1 t2 hq
    by_cases c3 : f_ps_firstInLine P sq (tbl fs v.toNatClampNeg) (tbl rs v.toNatClampNeg) = mn
    · rw [if_pos c3]
      exact .inl ⟨rfl, v.toNatClampNeg, by rw [pu_tn]; omega, by rw [pu_tn]; omega, .inl (f1.mp c3)⟩
    rw [if_neg c3]
    by_cases c4 : f_ps_firstInLine P sq (tbl fs v.toNatClampNeg) (tbl rs v.toNatClampNeg) = f_gn_manOf 5 by_
    · rw [if_pos c4]
      exact .inl ⟨rfl, v.toNatClampNeg, by rw [pu_tn]; omega, by rw [pu_tn]; omega, .inr (f2.mp c4)⟩
    rw [if_neg c4]
    rcases ih (v + 1) (by omega) (by omega) with ⟨q, i, p1, p2, p3⟩ | ⟨q, p⟩
    · exact .inl ⟨q, i, by omega, p2, p3⟩
    · refine .inr ⟨q, fun i p1 p2 => ?_⟩
      by_cases hi : (i : Int) = v.toInt
      · have : i = v.toNatClampNeg := by rw [pu_tn]; omega
        rw [this]
        rintro (q | q)
        · exact c3 (f1.mpr q)
        · exact c4 (f2.mpr q)
      · exact p i (by omega) p2
theorem pu_ab_i {d : Int32} (h0 : -100 ≤ d.toInt) (h1 : d.toInt ≤ 100) : (pu_ab d).toInt = d.toInt.natAbs := by
  unfold pu_ab
  by_cases c : 0 ≤ d
  · rw [if_pos c]; rw [Int32.le_iff_toInt_le] at c; have : (0 : Int32).toInt = 0 := by decide
    omega
  · rw [if_neg c]; rw [Int32.le_iff_toInt_le] at c; have : (0 : Int32).toInt = 0 := by decide
    rw [Int32.toInt_neg]
    have : Int.bmod (-d.toInt) (2 ^ 32) = -d.toInt := Int.bmod_eq_of_le (by omega) (by omega)
    rw [this]; omega
theorem pu_eq_i {x y : Int32} : x = y ↔ x.toInt = y.toInt := Int32.toInt_inj.symm
def pu_hitI (b : Nat → Int32) (sq s : Int32) (K x y X Y : Int) (e : Int) : Prop :=
  1 ≤ K ∧ K ≤ 6 ∧ ((K = 1 ∧ (x - X).natAbs = 1 ∧ y - Y = e) ∨ (K = 2 ∧ (x - X).natAbs + (y - Y).natAbs = 3 ∧ x ≠ X ∧ y ≠ Y) ∨ (K = 6 ∧ (x - X).natAbs < 2 ∧ (y - Y).natAbs < 2) ∨
    ((((x - X).natAbs = (y - Y).natAbs ∧ (K = 3 ∨ K = 5)) ∨ ((x = X ∨ y = Y) ∧ (K = 4 ∨ K = 5))) ∧ ¬ f_md_isOpen b s sq = 0))
theorem pu_hit_iff {b : Nat → Int32} (hb : ∀ j : Nat, j < 64 → 0 ≤ (b j).toInt ∧ (b j).toInt ≤ 12) {sq by_ s : Int32} (hby : by_ = 0 ∨ by_ = 1) (q0 : 0 ≤ sq.toInt) (q1 : sq.toInt < 64) (s0 : 0 ≤ s.toInt) (s1 : s.toInt < 64) :
    pu_hitS b sq by_ (sq - sq / 8 * 8) (sq / 8) s ↔ s ≠ sq ∧ pu_hitI b sq s ((b s.toNatClampNeg).toInt - 6 * by_.toInt) (sq.toInt % 8) (sq.toInt / 8) (s.toInt % 8) (s.toInt / 8) (if by_ = 0 then 1 else -1) := by
  obtain ⟨a1, a2⟩ := pu_fl_i q0 q1
  obtain ⟨b1, b2⟩ := pu_fl_i s0 s1
  have hm := hb s.toNatClampNeg (by rw [pu_tn]; omega)
  unfold pu_hitS pu_hitP pu_nearP pu_lineP pu_hitI
  generalize b s.toNatClampNeg = m at hm ⊢
  generalize sq - sq / 8 * 8 = x at a1 ⊢
  generalize sq / 8 = y at a2 ⊢
  generalize s - s / 8 * 8 = X at b1 ⊢
  generalize s / 8 = Y at b2 ⊢
  have d1 : (x - X).toInt = sq.toInt % 8 - s.toInt % 8 := by rw [pu_isb, a1, b1]; omega
  have d2 : (y - Y).toInt = sq.toInt / 8 - s.toInt / 8 := by rw [pu_isb, a2, b2]; omega
  have d3 := pu_ab_i (d := x - X) (by omega) (by omega)
  have d4 := pu_ab_i (d := y - Y) (by omega) (by omega)
  have d5 : (pu_ab (x - X) + pu_ab (y - Y)).toInt = (x - X).toInt.natAbs + (y - Y).toInt.natAbs := by
    have w1 : (x - X).toInt.natAbs ≤ 7 := by omega
    have w2 : (y - Y).toInt.natAbs ≤ 7 := by omega
    rw [ad32 (by rw [d3, d4]; omega) (by rw [d3, d4]; omega), d3, d4]
  rw [d1] at d3; rw [d2] at d4; rw [d1, d2] at d5
  have z0 : (0 : Int32).toInt = 0 := by decide
  have z1 : (1 : Int32).toInt = 1 := by decide
  have z2 : (2 : Int32).toInt = 2 := by decide
  have z3 : (3 : Int32).toInt = 3 := by decide
  have z4 : (4 : Int32).toInt = 4 := by decide
  have z5 : (5 : Int32).toInt = 5 := by decide
  have z6 : (6 : Int32).toInt = 6 := by decide
  generalize pu_ab (x - X) = A at *
  generalize pu_ab (y - Y) = C at *
  generalize (¬ f_md_isOpen b s sq = 0) = O
  have m6 : 6 < m.toInt → (m - 6).toInt = m.toInt - 6 := by intro q; rw [pu_isb, z6]; omega
  rcases hby with rfl | rfl
  · by_cases c : m ≤ 6
    · simp only [if_pos c, if_true]
      rw [Int32.le_iff_toInt_le] at c
      simp only [pu_eq_i, Int32.le_iff_toInt_le, d5, d3, d4, d2, z0, z1, z2, z3, z4, z5, z6, ne_eq] at *
      generalize s.toInt % 8 = sx at *; generalize s.toInt / 8 = sy at *; generalize sq.toInt % 8 = qx at *; generalize sq.toInt / 8 = qy at *
      have nx : qx = sx ↔ (qx - sx).natAbs = 0 := by omega
      have ny : qy = sy ↔ (qy - sy).natAbs = 0 := by omega
      rw [nx, ny]
      generalize (qx - sx).natAbs = p at *; generalize (qy - sy).natAbs = q at *
      clear hb d1 a1 a2 b1 b2 m6 nx ny
      generalize qy - sy = w at *
      generalize m.toInt = mm at *
      grind
    · simp only [if_neg c]
      rw [Int32.le_iff_toInt_le] at c
      constructor
      · rintro ⟨-, h, -⟩; exact absurd h (by decide)
      · rintro ⟨-, h1, h2, -⟩; omega
  · by_cases c : m ≤ 6
    · simp only [if_pos c]
      rw [Int32.le_iff_toInt_le] at c
      constructor
      · rintro ⟨-, h, -⟩; exact absurd trivial h
      · rintro ⟨-, h1, h2, -⟩; omega
    · simp only [if_neg c]
      have n1 : ¬ (1 : Int32) = 0 := by decide
      simp only [if_neg n1]
      rw [Int32.le_iff_toInt_le] at c
      have m6' := m6 (by omega)
      simp only [pu_eq_i, Int32.le_iff_toInt_le, d5, d3, d4, d2, m6', pu_in1, z0, z1, z2, z3, z4, z5, z6, ne_eq] at *
      generalize s.toInt % 8 = sx at *; generalize s.toInt / 8 = sy at *; generalize sq.toInt % 8 = qx at *; generalize sq.toInt / 8 = qy at *
      have nx : qx = sx ↔ (qx - sx).natAbs = 0 := by omega
      have ny : qy = sy ↔ (qy - sy).natAbs = 0 := by omega
      rw [nx, ny]
      generalize (qx - sx).natAbs = p at *; generalize (qy - sy).natAbs = q at *
      clear hb d1 a1 a2 b1 b2 m6 nx ny
      generalize qy - sy = w at *
      generalize m.toInt = mm at *
      grind
def pu_clsA (b : Nat → Int32) (by_ : Int32) (x y : Int) : Prop :=
  (∃ i : Nat, i < 8 ∧ pu_bA b (x + (tbl 0 i).toInt) (y + (tbl 1 i).toInt) = f_gn_manOf 2 by_) ∨
  (∃ i : Nat, i < 4 ∧ pu_bA b (x + (tbl 2 i).toInt) (y + (tbl 3 i).toInt) = f_gn_manOf 6 by_) ∨
  (∃ i : Nat, i < 4 ∧ pu_bA b (x + (tbl 4 i).toInt) (y + (tbl 5 i).toInt) = f_gn_manOf 6 by_) ∨
  (pu_bA b (x - 1) (y + if by_ = 0 then -1 else 1) = f_gn_manOf 1 by_ ∨ pu_bA b (x + 1) (y + if by_ = 0 then -1 else 1) = f_gn_manOf 1 by_) ∨
  (∃ i : Nat, i < 4 ∧ (pu_ray b x y (tbl 2 i).toInt (tbl 3 i).toInt (f_gn_manOf 4 by_) ∨ pu_ray b x y (tbl 2 i).toInt (tbl 3 i).toInt (f_gn_manOf 5 by_))) ∨
  (∃ i : Nat, i < 4 ∧ (pu_ray b x y (tbl 4 i).toInt (tbl 5 i).toInt (f_gn_manOf 3 by_) ∨ pu_ray b x y (tbl 4 i).toInt (tbl 5 i).toInt (f_gn_manOf 5 by_)))
theorem pu_man_i {kd by_ : Int32} (hby : by_ = 0 ∨ by_ = 1) (h0 : 0 ≤ kd.toInt) (h1 : kd.toInt ≤ 6) : (f_gn_manOf kd by_).toInt = kd.toInt + 6 * by_.toInt := by
  unfold f_gn_manOf
  rcases hby with rfl | rfl
  · rw [if_pos rfl]; simp
  · rw [if_neg (by decide), pu_ia]; simp; omega
theorem pu_pawn_c {P : PsT} {b : Nat → Int32} (h : pu_RB P.1 b) {sq by_ : Int32} (h0 : 0 ≤ sq.toInt) (h1 : sq.toInt < 64) :
    (f_ps_isAttackedByPawn P sq by_ = 1 ∧ (pu_bA b (sq.toInt % 8 - 1) (sq.toInt / 8 + if by_ = 0 then -1 else 1) = f_gn_manOf 1 by_ ∨ pu_bA b (sq.toInt % 8 + 1) (sq.toInt / 8 + if by_ = 0 then -1 else 1) = f_gn_manOf 1 by_)) ∨
    (f_ps_isAttackedByPawn P sq by_ = 0 ∧ ¬ (pu_bA b (sq.toInt % 8 - 1) (sq.toInt / 8 + if by_ = 0 then -1 else 1) = f_gn_manOf 1 by_ ∨ pu_bA b (sq.toInt % 8 + 1) (sq.toInt / 8 + if by_ = 0 then -1 else 1) = f_gn_manOf 1 by_)) := by
  obtain ⟨a1, a2⟩ := pu_sq_f h0 h1
  have z1 : (1 : Int32).toInt = 1 := by decide
  have e1 : (f_gn_fileOf sq - 1).toInt = sq.toInt % 8 - 1 := by rw [pu_isb, a1, z1]; omega
  have e2 : (f_gn_fileOf sq + 1).toInt = sq.toInt % 8 + 1 := by rw [pu_ia, a1, z1]; omega
  have e3 : (f_gn_rankOf sq - 1).toInt = sq.toInt / 8 + -1 := by rw [pu_isb, a2, z1]; omega
  have e4 : (f_gn_rankOf sq + 1).toInt = sq.toInt / 8 + 1 := by rw [pu_ia, a2, z1]; omega
  unfold f_ps_isAttackedByPawn bnd; dsimp only
  simp only [pu_manAt_i h, e1, e2, e3, e4]
  by_cases c : by_ = 0
  · simp only [if_pos c]
    by_cases c1 : pu_bA b (sq.toInt % 8 - 1) (sq.toInt / 8 + -1) = f_gn_manOf 1 by_
    · rw [if_pos c1]; exact .inl ⟨rfl, .inl c1⟩
    rw [if_neg c1]
    by_cases c2 : pu_bA b (sq.toInt % 8 + 1) (sq.toInt / 8 + -1) = f_gn_manOf 1 by_
    · rw [if_pos c2]; exact .inl ⟨rfl, .inr c2⟩
    rw [if_neg c2]; exact .inr ⟨rfl, fun q => q.elim c1 c2⟩
  · simp only [if_neg c]
    by_cases c1 : pu_bA b (sq.toInt % 8 - 1) (sq.toInt / 8 + 1) = f_gn_manOf 1 by_
    · rw [if_pos c1]; exact .inl ⟨rfl, .inl c1⟩
    rw [if_neg c1]
    by_cases c2 : pu_bA b (sq.toInt % 8 + 1) (sq.toInt / 8 + 1) = f_gn_manOf 1 by_
    · rw [if_pos c2]; exact .inl ⟨rfl, .inr c2⟩
    rw [if_neg c2]; exact .inr ⟨rfl, fun q => q.elim c1 c2⟩
theorem pu_near_i {P : PsT} {b : Nat → Int32} (h : pu_RB P.1 b) {sq mn : Int32} (h0 : 0 ≤ sq.toInt) (h1 : sq.toInt < 64) {fs rs N : Nat} (hf : tbN fs = N) (hr : tbN rs = N) (hN : N ≤ 8)
    (hT : ∀ i : Nat, i < N → (-2 ≤ (tbl fs i).toInt ∧ (tbl fs i).toInt ≤ 2) ∧ (-2 ≤ (tbl rs i).toInt ∧ (tbl rs i).toInt ≤ 2)) :
    (f_ps_isNear P sq mn fs rs = 1 ∧ ∃ i : Nat, i < N ∧ pu_bA b (sq.toInt % 8 + (tbl fs i).toInt) (sq.toInt / 8 + (tbl rs i).toInt) = mn) ∨ (f_ps_isNear P sq mn fs rs = 0 ∧ ¬ ∃ i : Nat, i < N ∧ pu_bA b (sq.toInt % 8 + (tbl fs i).toInt) (sq.toInt / 8 + (tbl rs i).toInt) = mn) := by
  have z : (0 : Int32).toInt = 0 := by decide
  rcases pu_near_L h (mn := mn) h0 h1 hf hr hN hT 9 0 (by decide) (by decide) with ⟨q, i, _, p2, p3⟩ | ⟨q, p⟩
  · exact .inl ⟨q, i, p2, p3⟩
  · exact .inr ⟨q, fun ⟨i, p2, p3⟩ => p i (by omega) p2 p3⟩
theorem pu_line_i {P : PsT} {b : Nat → Int32} (h : pu_RB P.1 b) {sq mn by_ : Int32} (h0 : 0 ≤ sq.toInt) (h1 : sq.toInt < 64) (hm : 1 ≤ mn.toInt) (hq : 1 ≤ (f_gn_manOf 5 by_).toInt) {fs rs N : Nat} (hf : tbN fs = N) (hr : tbN rs = N) (hN : N ≤ 8)
    (hT : ∀ i : Nat, i < N → (-1 ≤ (tbl fs i).toInt ∧ (tbl fs i).toInt ≤ 1) ∧ (-1 ≤ (tbl rs i).toInt ∧ (tbl rs i).toInt ≤ 1)) :
    (f_ps_isInLine P sq mn by_ fs rs = 1 ∧ ∃ i : Nat, i < N ∧ (pu_ray b (sq.toInt % 8) (sq.toInt / 8) (tbl fs i).toInt (tbl rs i).toInt mn ∨ pu_ray b (sq.toInt % 8) (sq.toInt / 8) (tbl fs i).toInt (tbl rs i).toInt (f_gn_manOf 5 by_))) ∨
    (f_ps_isInLine P sq mn by_ fs rs = 0 ∧ ¬ ∃ i : Nat, i < N ∧ (pu_ray b (sq.toInt % 8) (sq.toInt / 8) (tbl fs i).toInt (tbl rs i).toInt mn ∨ pu_ray b (sq.toInt % 8) (sq.toInt / 8) (tbl fs i).toInt (tbl rs i).toInt (f_gn_manOf 5 by_))) := by
  have z : (0 : Int32).toInt = 0 := by decide
  rcases pu_line_L h (mn := mn) h0 h1 hm hq hf hr hN hT 9 0 (by decide) (by decide) with ⟨q, i, _, p2, p3⟩ | ⟨q, p⟩
  · exact .inl ⟨q, i, p2, p3⟩
  · exact .inr ⟨q, fun ⟨i, p2, p3⟩ => p i (by omega) p2 p3⟩
theorem pu_at_cls {P : PsT} {b : Nat → Int32} (h : pu_RB P.1 b) {sq by_ : Int32} (hby : by_ = 0 ∨ by_ = 1) (h0 : 0 ≤ sq.toInt) (h1 : sq.toInt < 64) :
    (f_ps_isAttacked P sq by_ = 1 ∧ pu_clsA b by_ (sq.toInt % 8) (sq.toInt / 8)) ∨ (f_ps_isAttacked P sq by_ = 0 ∧ ¬ pu_clsA b by_ (sq.toInt % 8) (sq.toInt / 8)) := by
  have pos : ∀ kd : Int32, 1 ≤ kd.toInt → kd.toInt ≤ 6 → 1 ≤ (f_gn_manOf kd by_).toInt := by
    intro kd q1 q2
    rw [pu_man_i hby (by omega) q2]
    rcases hby with rfl | rfl
    · show 1 ≤ kd.toInt + 6 * 0; omega
    · show 1 ≤ kd.toInt + 6 * 1; omega
  have r1 := pu_near_i h (mn := f_gn_manOf 2 by_) h0 h1 (fs := 0) (rs := 1) (N := 8) rfl rfl (by decide) (by decide)
  have r2 := pu_near_i h (mn := f_gn_manOf 6 by_) h0 h1 (fs := 2) (rs := 3) (N := 4) rfl rfl (by decide) (by decide)
  have r3 := pu_near_i h (mn := f_gn_manOf 6 by_) h0 h1 (fs := 4) (rs := 5) (N := 4) rfl rfl (by decide) (by decide)
  have r4 := pu_pawn_c h (by_ := by_) h0 h1
  have r5 := pu_line_i h (mn := f_gn_manOf 4 by_) (by_ := by_) h0 h1 (pos 4 (by decide) (by decide)) (pos 5 (by decide) (by decide)) (fs := 2) (rs := 3) (N := 4) rfl rfl (by decide) (by decide)
  have r6 := pu_line_i h (mn := f_gn_manOf 3 by_) (by_ := by_) h0 h1 (pos 3 (by decide) (by decide)) (pos 5 (by decide) (by decide)) (fs := 4) (rs := 5) (N := 4) rfl rfl (by decide) (by decide)
  have n1 : ¬ (1 : Int32) = 0 := by decide
  unfold f_ps_isAttacked bnd pu_clsA; dsimp only
  rcases r1 with ⟨e, q⟩ | ⟨e, q1⟩
  · rw [e, if_neg n1]; exact .inl ⟨rfl, .inl q⟩
  rw [e, if_pos rfl]
  rcases r2 with ⟨e, q⟩ | ⟨e, q2⟩
  · rw [e, if_neg n1]; exact .inl ⟨rfl, .inr (.inl q)⟩
  rw [e, if_pos rfl]
  rcases r3 with ⟨e, q⟩ | ⟨e, q3⟩
  · rw [e, if_neg n1]; exact .inl ⟨rfl, .inr (.inr (.inl q))⟩
  rw [e, if_pos rfl]
  rcases r4 with ⟨e, q⟩ | ⟨e, q4⟩
  · rw [e, if_neg n1]; exact .inl ⟨rfl, .inr (.inr (.inr (.inl q)))⟩
  rw [e, if_pos rfl]
  rcases r5 with ⟨e, q⟩ | ⟨e, q5⟩
  · rw [e, if_neg n1]; exact .inl ⟨rfl, .inr (.inr (.inr (.inr (.inl q))))⟩
  rw [e, if_pos rfl]
  rcases r6 with ⟨e, q⟩ | ⟨e, q6⟩
  · rw [e, if_neg n1]; exact .inl ⟨rfl, .inr (.inr (.inr (.inr (.inr q))))⟩
  rw [e, if_pos rfl]
  refine .inr ⟨rfl, ?_⟩
  rintro (q | q | q | q | q | q)
  · exact q1 q
  · exact q2 q
  · exact q3 q
  · exact q4 q
  · exact q5 q
  · exact q6 q
theorem pu_bA_pos {b : Nat → Int32} {X Y : Int} {mn : Int32} (h : pu_bA b X Y = mn) (hm : 1 ≤ mn.toInt) : (0 ≤ X ∧ X < 8 ∧ 0 ≤ Y ∧ Y < 8) ∧ b (8 * Y + X).toNat = mn := by
  unfold pu_bA at h
  split at h
  · exact ⟨by assumption, h⟩
  · rw [← h] at hm; exact absurd hm (by decide)
theorem pu_bA_on {b : Nat → Int32} {X Y : Int} (h : 0 ≤ X ∧ X < 8 ∧ 0 ≤ Y ∧ Y < 8) : pu_bA b X Y = b (8 * Y + X).toNat := if_pos h
theorem pu_mk_hit {b : Nat → Int32} {sq by_ kd : Int32} {X Y e : Int} (hby : by_ = 0 ∨ by_ = 1) (q0 : 0 ≤ sq.toInt) (q1 : sq.toInt < 64) (hon : 0 ≤ X ∧ X < 8 ∧ 0 ≤ Y ∧ Y < 8) (hne : ¬ (X = sq.toInt % 8 ∧ Y = sq.toInt / 8)) (k0 : 1 ≤ kd.toInt) (k1 : kd.toInt ≤ 6) (hb : b (8 * Y + X).toNat = f_gn_manOf kd by_)
    (hh : ∀ s : Int32, 0 ≤ s.toInt → s.toInt < 64 → s.toInt % 8 = X → s.toInt / 8 = Y → pu_hitI b sq s kd.toInt (sq.toInt % 8) (sq.toInt / 8) X Y e) :
    ∃ s : Int32, 0 ≤ s.toInt ∧ s.toInt < 64 ∧ s ≠ sq ∧ pu_hitI b sq s ((b s.toNatClampNeg).toInt - 6 * by_.toInt) (sq.toInt % 8) (sq.toInt / 8) (s.toInt % 8) (s.toInt / 8) e := by
  have e1 : (Int32.ofNat (8 * Y + X).toNat).toInt = 8 * Y + X := by rw [pu_nat_ofn (by omega)]; omega
  generalize Int32.ofNat (8 * Y + X).toNat = s at e1
  have e2 : s.toInt % 8 = X := by omega
  have e3 : s.toInt / 8 = Y := by omega
  refine ⟨s, by omega, by omega, fun q => hne (by subst q; exact ⟨e2.symm, e3.symm⟩), ?_⟩
  have e4 : (b s.toNatClampNeg).toInt - 6 * by_.toInt = kd.toInt := by
    rw [pu_tn, e1, hb, pu_man_i hby (by omega) k1]; omega
  rw [e4, e2, e3]
  exact hh s (by omega) (by omega) e2 e3
theorem pu_ray_hit {b : Nat → Int32} {sq by_ kd : Int32} {fi ra e : Int} (hby : by_ = 0 ∨ by_ = 1) (q0 : 0 ≤ sq.toInt) (q1 : sq.toInt < 64) (hfi : fi = -1 ∨ fi = 0 ∨ fi = 1) (hra : ra = -1 ∨ ra = 0 ∨ ra = 1) (hnz : ¬ (fi = 0 ∧ ra = 0))
    (k0 : 1 ≤ kd.toInt) (k1 : kd.toInt ≤ 6) (hk : ((fi ≠ 0 ∧ ra ≠ 0) ∧ (kd.toInt = 3 ∨ kd.toInt = 5)) ∨ ((fi = 0 ∨ ra = 0) ∧ (kd.toInt = 4 ∨ kd.toInt = 5))) (h : pu_ray b (sq.toInt % 8) (sq.toInt / 8) fi ra (f_gn_manOf kd by_)) :
    ∃ s : Int32, 0 ≤ s.toInt ∧ s.toInt < 64 ∧ s ≠ sq ∧ pu_hitI b sq s ((b s.toNatClampNeg).toInt - 6 * by_.toInt) (sq.toInt % 8) (sq.toInt / 8) (s.toInt % 8) (s.toInt / 8) e := by
  obtain ⟨j, j1, j2, h1, h2⟩ := h
  have pm : 1 ≤ (f_gn_manOf kd by_).toInt := by
    rw [pu_man_i hby (by omega) k1]
    rcases hby with rfl | rfl
    · show 1 ≤ kd.toInt + 6 * 0; omega
    · show 1 ≤ kd.toInt + 6 * 1; omega
  obtain ⟨hon, hb⟩ := pu_bA_pos h1 pm
  have hj : (1 : Int) ≤ j ∧ (j : Int) ≤ 7 := by omega
  have hne : ¬ (sq.toInt % 8 + j * fi = sq.toInt % 8 ∧ sq.toInt / 8 + j * ra = sq.toInt / 8) := by
    rcases hfi with rfl | rfl | rfl <;> rcases hra with rfl | rfl | rfl <;> omega
  refine pu_mk_hit hby q0 q1 hon hne k0 k1 hb fun s s0 s1 sx sy => ?_
  have ho := (pu_op_iff (on := b) s0 s1 q0 q1 (k := j) j1 (by omega) hfi hra hnz sx sy).mpr (by
    intro i i1 i2
    have := h2 i i1 i2
    rw [pu_bA_on] at this
    · exact this
    · have : (1 : Int) ≤ i ∧ (i : Int) < j := by omega
      rcases hfi with rfl | rfl | rfl <;> rcases hra with rfl | rfl | rfl <;> omega)
  refine ⟨k0, k1, .inr (.inr (.inr ⟨?_, ho⟩))⟩
  rcases hk with ⟨⟨z1, z2⟩, hk⟩ | ⟨z, hk⟩
  · left; refine ⟨?_, hk⟩
    rcases hfi with rfl | rfl | rfl <;> rcases hra with rfl | rfl | rfl <;> omega
  · right; refine ⟨?_, hk⟩
    rcases hfi with rfl | rfl | rfl <;> rcases hra with rfl | rfl | rfl <;> omega
theorem pu_tb_d (i : Nat) (h : i < 8) : ((tbl 0 i).toInt.natAbs + (tbl 1 i).toInt.natAbs = 3 ∧ (tbl 0 i).toInt ≠ 0 ∧ (tbl 1 i).toInt ≠ 0) := by
  have q : ∀ i : Nat, i < 8 → ((tbl 0 i).toInt.natAbs + (tbl 1 i).toInt.natAbs = 3 ∧ (tbl 0 i).toInt ≠ 0 ∧ (tbl 1 i).toInt ≠ 0) := by decide
  exact q i h
theorem pu_tb_s (i : Nat) (h : i < 4) : ((tbl 2 i).toInt = -1 ∨ (tbl 2 i).toInt = 0 ∨ (tbl 2 i).toInt = 1) ∧ ((tbl 3 i).toInt = -1 ∨ (tbl 3 i).toInt = 0 ∨ (tbl 3 i).toInt = 1) ∧ ¬ ((tbl 2 i).toInt = 0 ∧ (tbl 3 i).toInt = 0) ∧ ((tbl 2 i).toInt = 0 ∨ (tbl 3 i).toInt = 0) := by
  have q : ∀ i : Nat, i < 4 → ((tbl 2 i).toInt = -1 ∨ (tbl 2 i).toInt = 0 ∨ (tbl 2 i).toInt = 1) ∧ ((tbl 3 i).toInt = -1 ∨ (tbl 3 i).toInt = 0 ∨ (tbl 3 i).toInt = 1) ∧ ¬ ((tbl 2 i).toInt = 0 ∧ (tbl 3 i).toInt = 0) ∧ ((tbl 2 i).toInt = 0 ∨ (tbl 3 i).toInt = 0) := by decide
  exact q i h
theorem pu_tb_a (i : Nat) (h : i < 4) : ((tbl 4 i).toInt = -1 ∨ (tbl 4 i).toInt = 0 ∨ (tbl 4 i).toInt = 1) ∧ ((tbl 5 i).toInt = -1 ∨ (tbl 5 i).toInt = 0 ∨ (tbl 5 i).toInt = 1) ∧ (tbl 4 i).toInt ≠ 0 ∧ (tbl 5 i).toInt ≠ 0 := by
  have q : ∀ i : Nat, i < 4 → ((tbl 4 i).toInt = -1 ∨ (tbl 4 i).toInt = 0 ∨ (tbl 4 i).toInt = 1) ∧ ((tbl 5 i).toInt = -1 ∨ (tbl 5 i).toInt = 0 ∨ (tbl 5 i).toInt = 1) ∧ (tbl 4 i).toInt ≠ 0 ∧ (tbl 5 i).toInt ≠ 0 := by decide
  exact q i h
theorem pu_cls_hit {b : Nat → Int32} {sq by_ : Int32} (hby : by_ = 0 ∨ by_ = 1) (q0 : 0 ≤ sq.toInt) (q1 : sq.toInt < 64) (h : pu_clsA b by_ (sq.toInt % 8) (sq.toInt / 8)) :
    ∃ s : Int32, 0 ≤ s.toInt ∧ s.toInt < 64 ∧ s ≠ sq ∧ pu_hitI b sq s ((b s.toNatClampNeg).toInt - 6 * by_.toInt) (sq.toInt % 8) (sq.toInt / 8) (s.toInt % 8) (s.toInt / 8) (if by_ = 0 then 1 else -1) := by
  have pos : ∀ kd : Int32, 1 ≤ kd.toInt → kd.toInt ≤ 6 → 1 ≤ (f_gn_manOf kd by_).toInt := by
    intro kd q1 q2
    rw [pu_man_i hby (by omega) q2]
    rcases hby with rfl | rfl
    · show 1 ≤ kd.toInt + 6 * 0; omega
    · show 1 ≤ kd.toInt + 6 * 1; omega
  rcases h with ⟨i, hi, h⟩ | ⟨i, hi, h⟩ | ⟨i, hi, h⟩ | h | ⟨i, hi, h⟩ | ⟨i, hi, h⟩
  · obtain ⟨t1, t2, t3⟩ := pu_tb_d i hi
    obtain ⟨hon, hb⟩ := pu_bA_pos h (pos 2 (by decide) (by decide))
    generalize (tbl 0 i).toInt = u at *; generalize (tbl 1 i).toInt = w at *
    refine pu_mk_hit hby q0 q1 hon (by omega) (by decide) (by decide) hb fun s _ _ _ _ => ⟨by decide, by decide, .inr (.inl ⟨rfl, ?_, ?_, ?_⟩)⟩ <;> omega
  · obtain ⟨t1, t2, t3, t4⟩ := pu_tb_s i hi
    obtain ⟨hon, hb⟩ := pu_bA_pos h (pos 6 (by decide) (by decide))
    generalize (tbl 2 i).toInt = u at *; generalize (tbl 3 i).toInt = w at *
    refine pu_mk_hit hby q0 q1 hon (by omega) (by decide) (by decide) hb fun s _ _ _ _ => ⟨by decide, by decide, .inr (.inr (.inl ⟨rfl, ?_, ?_⟩))⟩ <;> omega
  · obtain ⟨t1, t2, t3, t4⟩ := pu_tb_a i hi
    obtain ⟨hon, hb⟩ := pu_bA_pos h (pos 6 (by decide) (by decide))
    generalize (tbl 4 i).toInt = u at *; generalize (tbl 5 i).toInt = w at *
    refine pu_mk_hit hby q0 q1 hon (by omega) (by decide) (by decide) hb fun s _ _ _ _ => ⟨by decide, by decide, .inr (.inr (.inl ⟨rfl, ?_, ?_⟩))⟩ <;> omega
  · have he : (if by_ = 0 then (-1 : Int) else 1) = -(if by_ = 0 then (1 : Int) else -1) := by split <;> rfl
    rw [he] at h
    generalize (if by_ = 0 then (1 : Int) else -1) = e at *
    rcases h with h | h
    · obtain ⟨hon, hb⟩ := pu_bA_pos h (pos 1 (by decide) (by decide))
      refine pu_mk_hit hby q0 q1 hon (by omega) (by decide) (by decide) hb fun s _ _ _ _ => ⟨by decide, by decide, .inl ⟨rfl, ?_, ?_⟩⟩ <;> omega
    · obtain ⟨hon, hb⟩ := pu_bA_pos h (pos 1 (by decide) (by decide))
      refine pu_mk_hit hby q0 q1 hon (by omega) (by decide) (by decide) hb fun s _ _ _ _ => ⟨by decide, by decide, .inl ⟨rfl, ?_, ?_⟩⟩ <;> omega
  · obtain ⟨t1, t2, t3, t4⟩ := pu_tb_s i hi
    rcases h with h | h
    · exact pu_ray_hit hby q0 q1 t1 t2 t3 (by decide) (by decide) (.inr ⟨t4, .inl rfl⟩) h
    · exact pu_ray_hit hby q0 q1 t1 t2 t3 (by decide) (by decide) (.inr ⟨t4, .inr rfl⟩) h
  · obtain ⟨t1, t2, t3, t4⟩ := pu_tb_a i hi
    rcases h with h | h
    · exact pu_ray_hit hby q0 q1 t1 t2 (fun q => t3 q.1) (by decide) (by decide) (.inl ⟨⟨t3, t4⟩, .inl rfl⟩) h
    · exact pu_ray_hit hby q0 q1 t1 t2 (fun q => t3 q.1) (by decide) (by decide) (.inl ⟨⟨t3, t4⟩, .inr rfl⟩) h
theorem pu_man_eq {m by_ kd : Int32} (hby : by_ = 0 ∨ by_ = 1) (h0 : 1 ≤ kd.toInt) (h1 : kd.toInt ≤ 6) (h : m.toInt - 6 * by_.toInt = kd.toInt) : m = f_gn_manOf kd by_ :=
  Int32.toInt_inj.mp (by rw [pu_man_i hby (by omega) h1]; omega)
theorem pu_hit_ray {b : Nat → Int32} {sq s by_ kd : Int32} {fi ra : Int} {k : Nat} (_hby : by_ = 0 ∨ by_ = 1) (q0 : 0 ≤ sq.toInt) (q1 : sq.toInt < 64) (s0 : 0 ≤ s.toInt) (s1 : s.toInt < 64) (hk : 1 ≤ k) (hk7 : k ≤ 7)
    (hfi : fi = -1 ∨ fi = 0 ∨ fi = 1) (hra : ra = -1 ∨ ra = 0 ∨ ra = 1) (hne : ¬ (fi = 0 ∧ ra = 0)) (hX : s.toInt % 8 = sq.toInt % 8 + k * fi) (hY : s.toInt / 8 = sq.toInt / 8 + k * ra)
    (hm : b s.toNatClampNeg = f_gn_manOf kd by_) (ho : ¬ f_md_isOpen b s sq = 0) : pu_ray b (sq.toInt % 8) (sq.toInt / 8) fi ra (f_gn_manOf kd by_) := by
  have h := (pu_op_iff s0 s1 q0 q1 hk hk7 hfi hra hne hX hY).mp ho
  refine ⟨k, hk, by omega, ?_, fun i i1 i2 => ?_⟩
  · rw [← hX, ← hY, pu_bA_on (by omega), ← hm, pu_tn]
    congr 2; omega
  · rw [pu_bA_on]
    · exact h i i1 i2
    · have : (1 : Int) ≤ i ∧ (i : Int) < k := by omega
      rcases hfi with rfl | rfl | rfl <;> rcases hra with rfl | rfl | rfl <;> omega
theorem pu_kn_t {u w : Int} (h1 : u.natAbs + w.natAbs = 3) (h2 : u ≠ 0) (h3 : w ≠ 0) : (u = 1 ∧ w = 2) ∨ (u = 2 ∧ w = 1) ∨ (u = 2 ∧ w = -1) ∨ (u = 1 ∧ w = -2) ∨ (u = -1 ∧ w = -2) ∨ (u = -2 ∧ w = -1) ∨ (u = -2 ∧ w = 1) ∨ (u = -1 ∧ w = 2) := by
  have hu : (u = 1 ∧ (w = 2 ∨ w = -2)) ∨ (u = -1 ∧ (w = 2 ∨ w = -2)) ∨ (u = 2 ∧ (w = 1 ∨ w = -1)) ∨ (u = -2 ∧ (w = 1 ∨ w = -1)) := by omega
  rcases hu with ⟨rfl, rfl | rfl⟩ | ⟨rfl, rfl | rfl⟩ | ⟨rfl, rfl | rfl⟩ | ⟨rfl, rfl | rfl⟩ <;> decide
theorem pu_kg_t {u w : Int} (h1 : u.natAbs < 2) (h2 : w.natAbs < 2) (h3 : ¬ (u = 0 ∧ w = 0)) : (u = 1 ∧ w = 0) ∨ (u = 0 ∧ w = 1) ∨ (u = -1 ∧ w = 0) ∨ (u = 0 ∧ w = -1) ∨ (u = 1 ∧ w = 1) ∨ (u = -1 ∧ w = 1) ∨ (u = -1 ∧ w = -1) ∨ (u = 1 ∧ w = -1) := by
  have hu : u = -1 ∨ u = 0 ∨ u = 1 := by omega
  have hw : w = -1 ∨ w = 0 ∨ w = 1 := by omega
  rcases hu with rfl | rfl | rfl <;> rcases hw with rfl | rfl | rfl <;> first | exact absurd ⟨rfl, rfl⟩ h3 | decide
theorem pu_hit_cls {b : Nat → Int32} {sq by_ s : Int32} (hby : by_ = 0 ∨ by_ = 1) (q0 : 0 ≤ sq.toInt) (q1 : sq.toInt < 64) (s0 : 0 ≤ s.toInt) (s1 : s.toInt < 64) (hs : s ≠ sq)
    (h : pu_hitI b sq s ((b s.toNatClampNeg).toInt - 6 * by_.toInt) (sq.toInt % 8) (sq.toInt / 8) (s.toInt % 8) (s.toInt / 8) (if by_ = 0 then 1 else -1)) : pu_clsA b by_ (sq.toInt % 8) (sq.toInt / 8) := by
  have hs' : s.toInt ≠ sq.toInt := fun q => hs (Int32.toInt_inj.mp q)
  have onb : ∀ (X Y : Int) (m : Int32), X = s.toInt % 8 → Y = s.toInt / 8 → b s.toNatClampNeg = m → pu_bA b X Y = m := by
    rintro X Y m rfl rfl rfl
    rw [pu_bA_on (by omega), pu_tn]
    congr 2; omega
  obtain ⟨k0, k1, h⟩ := h
  have go : ∀ kd : Int32, 1 ≤ kd.toInt → kd.toInt ≤ 6 → (b s.toNatClampNeg).toInt - 6 * by_.toInt = kd.toInt → b s.toNatClampNeg = f_gn_manOf kd by_ := fun kd a1 a2 a3 => pu_man_eq hby a1 a2 a3
  rcases h with ⟨e, h1, h2⟩ | ⟨e, h1, h2, h3⟩ | ⟨e, h1, h2⟩ | ⟨h, ho⟩
  · have hm := go 1 (by decide) (by decide) e
    have he : (if by_ = 0 then (-1 : Int) else 1) = -(if by_ = 0 then (1 : Int) else -1) := by split <;> rfl
    refine .inr (.inr (.inr (.inl ?_)))
    rw [he]
    generalize (if by_ = 0 then (1 : Int) else -1) = w at *
    by_cases c : s.toInt % 8 = sq.toInt % 8 - 1
    · exact .inl (onb _ _ _ (by omega) (by omega) hm)
    · exact .inr (onb _ _ _ (by omega) (by omega) hm)
  · have hm := go 2 (by decide) (by decide) e
    have : ∃ i : Nat, i < 8 ∧ (tbl 0 i).toInt = s.toInt % 8 - sq.toInt % 8 ∧ (tbl 1 i).toInt = s.toInt / 8 - sq.toInt / 8 := by
      rcases pu_kn_t (u := s.toInt % 8 - sq.toInt % 8) (w := s.toInt / 8 - sq.toInt / 8) (by omega) (by omega) (by omega) with ⟨a, c⟩ | ⟨a, c⟩ | ⟨a, c⟩ | ⟨a, c⟩ | ⟨a, c⟩ | ⟨a, c⟩ | ⟨a, c⟩ | ⟨a, c⟩ <;> rw [a, c]
      · exact ⟨0, by decide, by decide, by decide⟩
      · exact ⟨1, by decide, by decide, by decide⟩
      · exact ⟨2, by decide, by decide, by decide⟩
      · exact ⟨3, by decide, by decide, by decide⟩
      · exact ⟨4, by decide, by decide, by decide⟩
      · exact ⟨5, by decide, by decide, by decide⟩
      · exact ⟨6, by decide, by decide, by decide⟩
      · exact ⟨7, by decide, by decide, by decide⟩
    obtain ⟨i, hi, a, c⟩ := this
    exact .inl ⟨i, hi, onb _ _ _ (by omega) (by omega) hm⟩
  · have hm := go 6 (by decide) (by decide) e
    have sl : ∀ (i : Nat) (u w : Int), i < 4 → (tbl 2 i).toInt = u → (tbl 3 i).toInt = w → s.toInt % 8 - sq.toInt % 8 = u → s.toInt / 8 - sq.toInt / 8 = w → pu_clsA b by_ (sq.toInt % 8) (sq.toInt / 8) := by
      intro i u w hi t1 t2 e1 e2
      exact .inr (.inl ⟨i, hi, onb _ _ _ (by omega) (by omega) hm⟩)
    have sa : ∀ (i : Nat) (u w : Int), i < 4 → (tbl 4 i).toInt = u → (tbl 5 i).toInt = w → s.toInt % 8 - sq.toInt % 8 = u → s.toInt / 8 - sq.toInt / 8 = w → pu_clsA b by_ (sq.toInt % 8) (sq.toInt / 8) := by
      intro i u w hi t1 t2 e1 e2
      exact .inr (.inr (.inl ⟨i, hi, onb _ _ _ (by omega) (by omega) hm⟩))
    rcases pu_kg_t (u := s.toInt % 8 - sq.toInt % 8) (w := s.toInt / 8 - sq.toInt / 8) (by omega) (by omega) (by omega) with ⟨a, c⟩ | ⟨a, c⟩ | ⟨a, c⟩ | ⟨a, c⟩ | ⟨a, c⟩ | ⟨a, c⟩ | ⟨a, c⟩ | ⟨a, c⟩
    · exact sl 0 _ _ (by decide) (by decide) (by decide) a c
    · exact sl 1 _ _ (by decide) (by decide) (by decide) a c
    · exact sl 2 _ _ (by decide) (by decide) (by decide) a c
    · exact sl 3 _ _ (by decide) (by decide) (by decide) a c
    · exact sa 0 _ _ (by decide) (by decide) (by decide) a c
    · exact sa 1 _ _ (by decide) (by decide) (by decide) a c
    · exact sa 2 _ _ (by decide) (by decide) (by decide) a c
    · exact sa 3 _ _ (by decide) (by decide) (by decide) a c
  · rcases h with ⟨h1, hk⟩ | ⟨h1, hk⟩
    · have sa : ∀ (i : Nat) (u w : Int), i < 4 → (tbl 4 i).toInt = u → (tbl 5 i).toInt = w → (u = -1 ∨ u = 1) → (w = -1 ∨ w = 1) → s.toInt % 8 = sq.toInt % 8 + (s.toInt % 8 - sq.toInt % 8).natAbs * u → s.toInt / 8 = sq.toInt / 8 + (s.toInt % 8 - sq.toInt % 8).natAbs * w → pu_clsA b by_ (sq.toInt % 8) (sq.toInt / 8) := by
        intro i u w hi t1 t2 hu hw e1 e2
        refine .inr (.inr (.inr (.inr (.inr ⟨i, hi, ?_⟩))))
        rw [t1, t2]
        have r : ∀ kd : Int32, b s.toNatClampNeg = f_gn_manOf kd by_ → pu_ray b (sq.toInt % 8) (sq.toInt / 8) u w (f_gn_manOf kd by_) := fun kd hm => pu_hit_ray hby q0 q1 s0 s1 (by omega) (by omega) (by omega) (by omega) (by omega) e1 e2 hm ho
        rcases hk with e | e
        · exact .inl (r 3 (go 3 (by decide) (by decide) e))
        · exact .inr (r 5 (go 5 (by decide) (by decide) e))
      by_cases c1 : sq.toInt % 8 < s.toInt % 8
      · by_cases c2 : sq.toInt / 8 < s.toInt / 8
        · exact sa 0 1 1 (by decide) (by decide) (by decide) (by omega) (by omega) (by omega) (by omega)
        · exact sa 3 1 (-1) (by decide) (by decide) (by decide) (by omega) (by omega) (by omega) (by omega)
      · by_cases c2 : sq.toInt / 8 < s.toInt / 8
        · exact sa 1 (-1) 1 (by decide) (by decide) (by decide) (by omega) (by omega) (by omega) (by omega)
        · exact sa 2 (-1) (-1) (by decide) (by decide) (by decide) (by omega) (by omega) (by omega) (by omega)
    · have sl : ∀ (i k : Nat) (u w : Int), i < 4 → (tbl 2 i).toInt = u → (tbl 3 i).toInt = w → (u = -1 ∨ u = 0 ∨ u = 1) → (w = -1 ∨ w = 0 ∨ w = 1) → ¬ (u = 0 ∧ w = 0) → 1 ≤ k → k ≤ 7 → s.toInt % 8 = sq.toInt % 8 + k * u → s.toInt / 8 = sq.toInt / 8 + k * w → pu_clsA b by_ (sq.toInt % 8) (sq.toInt / 8) := by
        intro i k u w hi t1 t2 hu hw hn k1 k7 e1 e2
        refine .inr (.inr (.inr (.inr (.inl ⟨i, hi, ?_⟩))))
        rw [t1, t2]
        have r : ∀ kd : Int32, b s.toNatClampNeg = f_gn_manOf kd by_ → pu_ray b (sq.toInt % 8) (sq.toInt / 8) u w (f_gn_manOf kd by_) := fun kd hm => pu_hit_ray hby q0 q1 s0 s1 k1 k7 hu hw hn e1 e2 hm ho
        rcases hk with e | e
        · exact .inl (r 4 (go 4 (by decide) (by decide) e))
        · exact .inr (r 5 (go 5 (by decide) (by decide) e))
      by_cases c1 : sq.toInt % 8 = s.toInt % 8
      · by_cases c2 : sq.toInt / 8 < s.toInt / 8
        · exact sl 1 (s.toInt / 8 - sq.toInt / 8).natAbs 0 1 (by decide) (by decide) (by decide) (by omega) (by omega) (by omega) (by omega) (by omega) (by omega) (by omega)
        · exact sl 3 (s.toInt / 8 - sq.toInt / 8).natAbs 0 (-1) (by decide) (by decide) (by decide) (by omega) (by omega) (by omega) (by omega) (by omega) (by omega) (by omega)
      · by_cases c2 : sq.toInt % 8 < s.toInt % 8
        · exact sl 0 (s.toInt % 8 - sq.toInt % 8).natAbs 1 0 (by decide) (by decide) (by decide) (by omega) (by omega) (by omega) (by omega) (by omega) (by omega) (by omega)
        · exact sl 2 (s.toInt % 8 - sq.toInt % 8).natAbs (-1) 0 (by decide) (by decide) (by decide) (by omega) (by omega) (by omega) (by omega) (by omega) (by omega) (by omega)
theorem pu_att_eq {P : PsT} {b : Nat → Int32} (h : pu_RB P.1 b) {sq by_ : Int32} (hby : by_ = 0 ∨ by_ = 1) (h0 : 0 ≤ sq.toInt) (h1 : sq.toInt < 64) : f_ps_isAttacked P sq by_ = f_md_isAttacked b sq by_ := by
  rcases pu_at_cls h hby h0 h1 with ⟨e1, c⟩ | ⟨e1, c⟩ <;> rcases pu_at_md b sq by_ with ⟨e2, s, s0, s1, hs⟩ | ⟨e2, hs⟩
  · rw [e1, e2]
  · obtain ⟨s, s0, s1, n, hh⟩ := pu_cls_hit hby h0 h1 c
    exact absurd ((pu_hit_iff h.rg hby h0 h1 s0 s1).mpr ⟨n, hh⟩) (hs s s0 s1)
  · obtain ⟨n, hh⟩ := (pu_hit_iff h.rg hby h0 h1 s0 s1).mp hs
    exact absurd (pu_hit_cls hby h0 h1 s0 s1 n hh) c
  · rw [e1, e2]
theorem pu_at01 (b : Nat → Int32) (sq by_ : Int32) : f_md_isAttacked b sq by_ = 0 ∨ f_md_isAttacked b sq by_ = 1 := by
  rcases pu_at_md b sq by_ with ⟨e, -⟩ | ⟨e, -⟩
  · exact .inr e
  · exact .inl e
theorem pu_p_attacked {ln tr : LnT} {rd : Int32} {td : TdT} {fm : FmT} {ps sp : PsT} {b : Nat → Int32} {sd rt pa cl nu sq by_ r th : Int32} (h : pu_RP ps b sd rt pa cl nu) (e : f_md_attacked b sq by_ = (r, th)) :
    ((f_gn_isSquare sq = 0 ∨ f_gn_isSide by_ = 0) ∧ th = 1) ∨ ((¬ f_gn_isSquare sq = 0 ∧ ¬ f_gn_isSide by_ = 0) ∧ th = 0 ∧ f_gn_attacked sq by_ ln tr rd td fm ps sp = r ∧ (r = 0 ∨ r = 1)) := by
  have hA : f_gn_attacked sq by_ ln tr rd td fm ps sp = f_ps_isAttacked ps sq by_ := by
    unfold f_gn_attacked
    rw [bnd_s rfl, bnd_s rfl, bnd_s rfl]
  have h01 := pu_at01 b sq by_
  have hE : by_ = 0 ∨ by_ = 1 → 0 ≤ sq.toInt → sq.toInt < 64 → f_ps_isAttacked ps sq by_ = f_md_isAttacked b sq by_ := fun a1 a2 a3 => pu_att_eq h.bd a1 a2 a3
  rw [hA]
  unfold f_md_attacked bnd at e
  generalize f_md_isAttacked b sq by_ = A at *
  generalize f_ps_isAttacked ps sq by_ = B at *
  clear hA h
  by_cases c1 : sq < 0
  · rw [if_pos c1] at e; cases e; exact .inl ⟨.inl (pu_isq0 (.inl c1)), rfl⟩
  rw [if_neg c1] at e
  by_cases c2 : 63 < sq
  · rw [if_pos c2] at e; cases e; exact .inl ⟨.inl (pu_isq0 (.inr c2)), rfl⟩
  rw [if_neg c2] at e
  have hs : ¬ f_gn_isSquare sq = 0 := by rw [pu_isq1 c1 c2]; decide
  have sd0 : by_ < 0 ∨ 1 < by_ → f_gn_isSide by_ = 0 := by
    intro q
    unfold f_gn_isSide
    rw [if_neg (by clear e hE hs; rcases q with q | q <;> (simp only [Int32.lt_iff_toInt_lt, Int32.le_iff_toInt_le, ← Int32.toInt_inj, pu_ia, pu_isb, pu_im, pu_tn, pu_in1, pu_in2, pu_in3, pu_in4, pu_in8, Int32.reduceToInt, Int.reduceNeg, ne_eq] at *; omega)), if_neg (by clear e hE hs; rcases q with q | q <;> (simp only [Int32.lt_iff_toInt_lt, Int32.le_iff_toInt_le, ← Int32.toInt_inj, pu_ia, pu_isb, pu_im, pu_tn, pu_in1, pu_in2, pu_in3, pu_in4, pu_in8, Int32.reduceToInt, Int.reduceNeg, ne_eq] at *; omega))]
  by_cases c3 : by_ < 0
  · rw [if_pos c3] at e; cases e; exact .inl ⟨.inr (sd0 (.inl c3)), rfl⟩
  rw [if_neg c3] at e
  by_cases c4 : by_ ≤ 1
  · rw [if_pos c4] at e
    have hby : by_ = 0 ∨ by_ = 1 := by
      have : by_.toInt = 0 ∨ by_.toInt = 1 := by clear sd0 hs e hE; (simp only [Int32.lt_iff_toInt_lt, Int32.le_iff_toInt_le, ← Int32.toInt_inj, pu_ia, pu_isb, pu_im, pu_tn, pu_in1, pu_in2, pu_in3, pu_in4, pu_in8, Int32.reduceToInt, Int.reduceNeg, ne_eq] at *; omega)
      rcases this with q | q
      · exact .inl (Int32.toInt_inj.mp q)
      · exact .inr (Int32.toInt_inj.mp q)
    have hd : ¬ f_gn_isSide by_ = 0 := by rcases hby with rfl | rfl <;> decide
    right
    refine ⟨⟨hs, hd⟩, ?_⟩
    rw [hE hby (by clear sd0 hs e hE; (simp only [Int32.lt_iff_toInt_lt, Int32.le_iff_toInt_le, ← Int32.toInt_inj, pu_ia, pu_isb, pu_im, pu_tn, pu_in1, pu_in2, pu_in3, pu_in4, pu_in8, Int32.reduceToInt, Int.reduceNeg, ne_eq] at *; omega)) (by clear sd0 hs e hE; (simp only [Int32.lt_iff_toInt_lt, Int32.le_iff_toInt_le, ← Int32.toInt_inj, pu_ia, pu_isb, pu_im, pu_tn, pu_in1, pu_in2, pu_in3, pu_in4, pu_in8, Int32.reduceToInt, Int.reduceNeg, ne_eq] at *; omega))]
    rcases h01 with rfl | rfl
    · change (0, 0) = (r, th) at e; cases e; exact ⟨rfl, rfl, .inl rfl⟩
    · change (1, 0) = (r, th) at e; cases e; exact ⟨rfl, rfl, .inr rfl⟩
  · rw [if_neg c4] at e; cases e
    exact .inl ⟨.inr (sd0 (.inr (by clear sd0 hs hE; (simp only [Int32.lt_iff_toInt_lt, Int32.le_iff_toInt_le, ← Int32.toInt_inj, pu_ia, pu_isb, pu_im, pu_tn, pu_in1, pu_in2, pu_in3, pu_in4, pu_in8, Int32.reduceToInt, Int.reduceNeg, ne_eq] at *; omega)))), rfl⟩
