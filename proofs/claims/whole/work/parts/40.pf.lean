set_option maxRecDepth 16384 in
theorem pu_bww6 {L : LnT} {N : Int32} : f_ln_beginsWithWord L 6 N = if N = 3 ∧ f_ln_letter L 0 = 48 ∧ f_ln_letter L 1 = 45 ∧ f_ln_letter L 2 = 48 then 1 else 0 := by
  have l3 : f_st_length 6 = 3 := by decide
  have k0 : f_st_charAt 6 0 = 48 := by decide
  have k1 : f_st_charAt 6 1 = 45 := by decide
  have k2 : f_st_charAt 6 2 = 48 := by decide
  have j1 : (0 : Int32) + 1 = 1 := by decide
  have j2 : (1 : Int32) + 1 = 2 := by decide
  have j3 : (2 : Int32) + 1 = 3 := by decide
  unfold f_ln_beginsWithWord
  rw [l3, bnd_s rfl]
  by_cases c : N = 3
  · rw [if_pos c.symm]
    rw [f_ln_beginsWithWord_L12, l3, bnd_s rfl, if_neg (by decide), k0, bnd_s rfl, bnd_s rfl, j1]
    by_cases a : f_ln_letter L 0 = 48
    rotate_left
    · rw [if_neg a, if_neg (fun w => a w.2.1)]
    rw [if_pos a, f_ln_beginsWithWord_L12, l3, bnd_s rfl, if_neg (by decide), k1, bnd_s rfl, bnd_s rfl, j2]
    by_cases b : f_ln_letter L 1 = 45
    rotate_left
    · rw [if_neg b, if_neg (fun w => b w.2.2.1)]
    rw [if_pos b, f_ln_beginsWithWord_L12, l3, bnd_s rfl, if_neg (by decide), k2, bnd_s rfl, bnd_s rfl, j3]
    by_cases d : f_ln_letter L 2 = 48
    rotate_left
    · rw [if_neg d, if_neg (fun w => d w.2.2.2)]
    rw [if_pos d, f_ln_beginsWithWord_L12, l3, bnd_s rfl, if_pos (by decide), if_pos ⟨c, a, b, d⟩]
  · rw [if_neg (fun w => c w.symm), if_neg (fun w => c w.1)]
set_option maxRecDepth 16384 in
theorem pu_bww7 {L : LnT} {N : Int32} : f_ln_beginsWithWord L 7 N = if N = 5 ∧ f_ln_letter L 0 = 48 ∧ f_ln_letter L 1 = 45 ∧ f_ln_letter L 2 = 48 ∧ f_ln_letter L 3 = 45 ∧ f_ln_letter L 4 = 48 then 1 else 0 := by
  have l3 : f_st_length 7 = 5 := by decide
  have k0 : f_st_charAt 7 0 = 48 := by decide
  have k1 : f_st_charAt 7 1 = 45 := by decide
  have k2 : f_st_charAt 7 2 = 48 := by decide
  have k3 : f_st_charAt 7 3 = 45 := by decide
  have k4 : f_st_charAt 7 4 = 48 := by decide
  have j1 : (0 : Int32) + 1 = 1 := by decide
  have j2 : (1 : Int32) + 1 = 2 := by decide
  have j3 : (2 : Int32) + 1 = 3 := by decide
  have j4 : (3 : Int32) + 1 = 4 := by decide
  have j5 : (4 : Int32) + 1 = 5 := by decide
  unfold f_ln_beginsWithWord
  rw [l3, bnd_s rfl]
  by_cases c : N = 5
  · rw [if_pos c.symm]
    rw [f_ln_beginsWithWord_L12, l3, bnd_s rfl, if_neg (by decide), k0, bnd_s rfl, bnd_s rfl, j1]
    by_cases a : f_ln_letter L 0 = 48
    rotate_left
    · rw [if_neg a, if_neg (fun w => a w.2.1)]
    rw [if_pos a, f_ln_beginsWithWord_L12, l3, bnd_s rfl, if_neg (by decide), k1, bnd_s rfl, bnd_s rfl, j2]
    by_cases b : f_ln_letter L 1 = 45
    rotate_left
    · rw [if_neg b, if_neg (fun w => b w.2.2.1)]
    rw [if_pos b, f_ln_beginsWithWord_L12, l3, bnd_s rfl, if_neg (by decide), k2, bnd_s rfl, bnd_s rfl, j3]
    by_cases d : f_ln_letter L 2 = 48
    rotate_left
    · rw [if_neg d, if_neg (fun w => d w.2.2.2.1)]
    rw [if_pos d, f_ln_beginsWithWord_L12, l3, bnd_s rfl, if_neg (by decide), k3, bnd_s rfl, bnd_s rfl, j4]
    by_cases e : f_ln_letter L 3 = 45
    rotate_left
    · rw [if_neg e, if_neg (fun w => e w.2.2.2.2.1)]
    rw [if_pos e, f_ln_beginsWithWord_L12, l3, bnd_s rfl, if_neg (by decide), k4, bnd_s rfl, bnd_s rfl, j5]
    by_cases f : f_ln_letter L 4 = 48
    rotate_left
    · rw [if_neg f, if_neg (fun w => f w.2.2.2.2.2)]
    rw [if_pos f, f_ln_beginsWithWord_L12, l3, bnd_s rfl, if_pos (by decide), if_pos ⟨c, a, b, d, e, f⟩]
  · rw [if_neg (fun w => c w.symm), if_neg (fun w => c w.1)]
def pu_mrest (t : Nat → Int32) (n N : Int32) : Int32 × Int32 := (if N ≤ 0 then (bnd2 (f_md_isPawnForm t n N) (fun r_6 u_6 => (if r_6 = 0 then ((0 : Int32), u_6) else ((4 : Int32), u_6)))) else (bnd (f_md_isOfficer (t (0 : Int32).toNatClampNeg) (1 : Int32)) (fun r_9 => (if r_9 = 0 then (bnd2 (f_md_isPawnForm t n N) (fun r_11 u_11 => (if r_11 = 0 then ((0 : Int32), u_11) else ((4 : Int32), u_11)))) else (bnd2 (f_md_isOfficerForm t n N) (fun r_13 u_13 => (if r_13 = 0 then ((0 : Int32), u_13) else ((3 : Int32), u_13))))))))
set_option maxRecDepth 16384 in
theorem pu_L19_end (t : Nat → Int32) (n : Int32) (k : Nat) (N v2 v3 a : Int32) (h : N ≤ v3) : f_md_form_L19 t n (k + 1) N v2 v3 a = if v2 = 0 then pu_mrest t n N else if N = 3 then (1, a) else (2, a) := by
  rw [f_md_form_L19, if_pos h]; rfl
set_option maxRecDepth 16384 in
theorem pu_L19_0 (t : Nat → Int32) (n N a : Int32) : ∀ (k : Nat) (v : Int32), 0 ≤ v.toInt → v.toInt ≤ 100 → N.toInt ≤ 100 → (N.toInt - v.toInt).toNat < k → f_md_form_L19 t n k N 0 v a = pu_mrest t n N := by
  intro k
  induction k with
  | zero => intro v h0 h1 h2 h3; omega
  | succ k ih =>
    intro v h0 h1 h2 h3
    by_cases c : N ≤ v
    · rw [pu_L19_end t n k N 0 v a c, if_pos rfl]
    · rw [f_md_form_L19, if_neg c, if_pos rfl]
      rw [Int32.le_iff_toInt_le] at c
      have e : (v + 1).toInt = v.toInt + 1 := by rw [pu_ia, show (1 : Int32).toInt = 1 by decide]; omega
      have g1 : 0 ≤ (v + 1).toInt := by omega
      have g2 : (v + 1).toInt ≤ 100 := by omega
      have g3 : (N.toInt - (v + 1).toInt).toNat < k := by omega
      exact ih (v + 1) g1 g2 h2 g3
set_option maxRecDepth 16384 in
theorem pu_L19_s (t : Nat → Int32) (n N a : Int32) (k : Nat) (v w ch : Int32) (hv : ¬ N ≤ v) (hw : v + 1 = w) (hch : (v - v / 2 * 2 = 0 ∧ ch = 48) ∨ (¬ v - v / 2 * 2 = 0 ∧ ch = 45)) : f_md_form_L19 t n (k + 1) N 1 v a = if t v.toNatClampNeg = ch then f_md_form_L19 t n k N 1 w a else f_md_form_L19 t n k N 0 w a := by
  rw [f_md_form_L19, if_neg hv, if_neg (show ¬ (1 : Int32) = 0 by decide), hw]
  rcases hch with ⟨q, rfl⟩ | ⟨q, rfl⟩
  · rw [if_pos q]
  · rw [if_neg q]
set_option maxRecDepth 16384 in
theorem pu_md_form (t : Nat → Int32) (n a : Int32) : f_md_form t n a = if f_md_bare t n = 3 ∧ t 0 = 48 ∧ t 1 = 45 ∧ t 2 = 48 then (1, a) else if f_md_bare t n = 5 ∧ t 0 = 48 ∧ t 1 = 45 ∧ t 2 = 48 ∧ t 3 = 45 ∧ t 4 = 48 then (2, a) else pu_mrest t n (f_md_bare t n) := by
  unfold f_md_form
  rw [bnd_s rfl]
  generalize f_md_bare t n = N
  have n35 : ¬ (3 : Int32) = 5 := by decide
  have n53 : ¬ (5 : Int32) = 3 := by decide
  have n1 : ¬ (1 : Int32) = 0 := by decide
  have t0 : t (0 : Int32).toNatClampNeg = t 0 := rfl
  have t1 : t (1 : Int32).toNatClampNeg = t 1 := rfl
  have t2 : t (2 : Int32).toNatClampNeg = t 2 := rfl
  have t3 : t (3 : Int32).toNatClampNeg = t 3 := rfl
  have t4 : t (4 : Int32).toNatClampNeg = t 4 := rfl
  by_cases c3 : N = 3
  · subst c3
    have z : ∀ (k : Nat) (v : Int32), 0 ≤ v.toInt → v.toInt ≤ 3 → 3 < k → f_md_form_L19 t n k 3 0 v a = pu_mrest t n 3 := fun k v h0 h1 h2 => pu_L19_0 t n 3 a k v h0 (by omega) (by decide) (by rw [show (3 : Int32).toInt = 3 by decide]; omega)
    have x5 : ¬ ((3 : Int32) = 5 ∧ t 0 = 48 ∧ t 1 = 45 ∧ t 2 = 48 ∧ t 3 = 45 ∧ t 4 = 48) := fun w => n35 w.1
    rw [if_pos rfl, if_neg x5]
    rw [pu_L19_s t n 3 a 5 0 1 48 (by decide) (by decide) (.inl ⟨by decide, rfl⟩), t0]
    by_cases a0 : t 0 = 48
    rotate_left
    · rw [if_neg a0, if_neg (fun w => a0 w.2.1), z 5 1 (by decide) (by decide) (by decide)]
    rw [if_pos a0, pu_L19_s t n 3 a 4 1 2 45 (by decide) (by decide) (.inr ⟨by decide, rfl⟩), t1]
    by_cases a1 : t 1 = 45
    rotate_left
    · rw [if_neg a1, if_neg (fun w => a1 w.2.2.1), z 4 2 (by decide) (by decide) (by decide)]
    rw [if_pos a1, pu_L19_s t n 3 a 3 2 3 48 (by decide) (by decide) (.inl ⟨by decide, rfl⟩), t2]
    by_cases a2 : t 2 = 48
    rotate_left
    · rw [if_neg a2, if_neg (fun w => a2 w.2.2.2), pu_L19_0 t n 3 a 3 3 (by decide) (by decide) (by decide) (by decide)]
    rw [if_pos a2, if_pos ⟨rfl, a0, a1, a2⟩, pu_L19_end t n 2 3 1 3 a (by decide), if_neg n1, if_pos rfl]
  · by_cases c5 : N = 5
    · subst c5
      have x3 : ¬ ((5 : Int32) = 3 ∧ t 0 = 48 ∧ t 1 = 45 ∧ t 2 = 48) := fun w => n53 w.1
      rw [if_neg n53, if_pos rfl, if_neg x3]
      rw [pu_L19_s t n 5 a 5 0 1 48 (by decide) (by decide) (.inl ⟨by decide, rfl⟩), t0]
      by_cases a0 : t 0 = 48
      rotate_left
      · rw [if_neg a0, if_neg (fun w => a0 w.2.1), pu_L19_0 t n 5 a 5 1 (by decide) (by decide) (by decide) (by decide)]
      rw [if_pos a0, pu_L19_s t n 5 a 4 1 2 45 (by decide) (by decide) (.inr ⟨by decide, rfl⟩), t1]
      by_cases a1 : t 1 = 45
      rotate_left
      · rw [if_neg a1, if_neg (fun w => a1 w.2.2.1), pu_L19_0 t n 5 a 4 2 (by decide) (by decide) (by decide) (by decide)]
      rw [if_pos a1, pu_L19_s t n 5 a 3 2 3 48 (by decide) (by decide) (.inl ⟨by decide, rfl⟩), t2]
      by_cases a2 : t 2 = 48
      rotate_left
      · rw [if_neg a2, if_neg (fun w => a2 w.2.2.2.1), pu_L19_0 t n 5 a 3 3 (by decide) (by decide) (by decide) (by decide)]
      rw [if_pos a2, pu_L19_s t n 5 a 2 3 4 45 (by decide) (by decide) (.inr ⟨by decide, rfl⟩), t3]
      by_cases a3 : t 3 = 45
      rotate_left
      · rw [if_neg a3, if_neg (fun w => a3 w.2.2.2.2.1), pu_L19_0 t n 5 a 2 4 (by decide) (by decide) (by decide) (by decide)]
      rw [if_pos a3, pu_L19_s t n 5 a 1 4 5 48 (by decide) (by decide) (.inl ⟨by decide, rfl⟩), t4]
      by_cases a4 : t 4 = 48
      rotate_left
      · rw [if_neg a4, if_neg (fun w => a4 w.2.2.2.2.2), pu_L19_0 t n 5 a 1 5 (by decide) (by decide) (by decide) (by decide)]
      rw [if_pos a4, if_pos ⟨rfl, a0, a1, a2, a3, a4⟩, pu_L19_end t n 0 5 1 5 a (by decide), if_neg n1, if_neg n53]
    · have x3 : ¬ (N = 3 ∧ t 0 = 48 ∧ t 1 = 45 ∧ t 2 = 48) := fun w => c3 w.1
      have x5 : ¬ (N = 5 ∧ t 0 = 48 ∧ t 1 = 45 ∧ t 2 = 48 ∧ t 3 = 45 ∧ t 4 = 48) := fun w => c5 w.1
      rw [if_neg c3, if_neg c5, if_neg x3, if_neg x5]; rfl
set_option maxRecDepth 16384 in
theorem pu_mrest_1 (t : Nat → Int32) (n N : Int32) : (pu_mrest t n N).1 = if N ≤ 0 ∨ f_md_isOfficer (t 0) 1 = 0 then (if (f_md_isPawnForm t n N).1 = 0 then 0 else 4) else (if (f_md_isOfficerForm t n N).1 = 0 then 0 else 3) := by
  unfold pu_mrest
  have t0 : t (0 : Int32).toNatClampNeg = t 0 := rfl
  rw [pu_bnd_k, pu_bnd2_k, pu_bnd2_k, t0]
  have pr : ∀ (p : Prop) [Decidable p] (a b c d : Int32), (if p then (a, b) else (c, d)).1 = if p then a else c := by intro p _ a b c d; by_cases h : p <;> simp [h]
  by_cases c : N ≤ 0
  · have x : N ≤ 0 ∨ f_md_isOfficer (t 0) 1 = 0 := .inl c
    rw [if_pos c, if_pos x, pr]
  · rw [if_neg c]
    by_cases d : f_md_isOfficer (t 0) 1 = 0
    · have x : N ≤ 0 ∨ f_md_isOfficer (t 0) 1 = 0 := .inr d
      rw [if_pos d, if_pos x, pr]
    · have x : ¬ (N ≤ 0 ∨ f_md_isOfficer (t 0) 1 = 0) := fun w => w.elim c d
      rw [if_neg d, if_neg x, pr]
set_option maxRecDepth 16384 in
theorem pu_peek_t {t : Nat → Int32} {n p : Int32} (h1 : p.toInt < n.toInt) : f_md_peek t n p = t p.toNatClampNeg := by
  unfold f_md_peek
  rw [if_neg (by rw [Int32.le_iff_toInt_le]; omega)]
set_option maxRecDepth 16384 in
theorem pu_letter_t {L : LnT} {t : Nat → Int32} {n p : Int32} (h : pu_RL L t n) (h0 : 0 ≤ p.toInt) (h1 : p.toInt < n.toInt) : f_ln_letter L p = t p.toNatClampNeg := (pu_letter_eq h h0).trans (pu_peek_t h1)
def pu_FOk (t : Nat → Int32) (N s fo : Int32) (F : FmT) : Prop :=
  F.1 = N ∧ F.2.1 = s ∧ (
   (fo = 1 ∧ F.2.2.1 = 1) ∨ (fo = 2 ∧ F.2.2.1 = -1) ∨
   (fo = 3 ∧ F.2.2.1 = 0 ∧ 3 ≤ N.toInt ∧ F.2.2.2.1 = f_md_manOf (t 0) ∧ (0 ≤ (t 0).toInt ∧ (t 0).toInt ≤ 126) ∧ (2 ≤ (f_md_manOf (t 0)).toInt ∧ (f_md_manOf (t 0)).toInt ≤ 6) ∧ F.2.2.2.2.1 = (t (N - 2).toNatClampNeg - 97) + 8 * (t (N - 1).toNatClampNeg - 49) ∧ F.2.2.2.2.2 = 0) ∨
   (fo = 4 ∧ F.2.2.1 = 0 ∧ F.2.2.2.1 = 1 ∧ 2 ≤ N.toInt ∧ (0 ≤ (t (N - 1).toNatClampNeg).toInt ∧ (t (N - 1).toNatClampNeg).toInt ≤ 126) ∧
     ((f_md_isOfficer (t (N - 1).toNatClampNeg) 0 ≠ 0 ∧ F.2.2.2.2.2 = f_md_manOf (t (N - 1).toNatClampNeg) ∧ F.2.2.2.2.1 = (t (N - 1 - 2).toNatClampNeg - 97) + 8 * (t (N - 1 - 1).toNatClampNeg - 49)) ∨
      (f_md_isOfficer (t (N - 1).toNatClampNeg) 0 = 0 ∧ F.2.2.2.2.2 = 0 ∧ F.2.2.2.2.1 = (t (N - 2).toNatClampNeg - 97) + 8 * (t (N - 1).toNatClampNeg - 49)))))
def pu_cbody (G : FmT) (L : LnT) : Int32 × FmT := (bnd2 (f_fm_isCastling G L) (fun r_6 u_6 => (if r_6 = 0 then (bnd2 (f_fm_isManMove u_6 L) (fun r_8 u_8 => (if r_8 = 0 then (bnd2 (f_fm_isPawnMove u_8 L) (fun r_10 u_10 => (if r_10 = 0 then ((0 : Int32), u_10) else ((1 : Int32), u_10)))) else ((1 : Int32), u_8)))) else ((1 : Int32), u_6))))
set_option maxRecDepth 16384 in
theorem pu_isOf_c (F : FmT) (L : LnT) : f_fm_isOf F L = pu_cbody ((if f_st_indexOf 5 (f_ln_letter L (L.2 - 1)) + 1 ≤ 0 then L.2 else L.2 - 1), f_st_indexOf 5 (f_ln_letter L (L.2 - 1)) + 1, F.2.2.1, F.2.2.2.1, F.2.2.2.2.1, F.2.2.2.2.2) L := by
  unfold f_fm_isOf
  have e : f_ln_size L = L.2 := rfl
  simp only [pu_bnd_k, e]
  generalize f_st_indexOf 5 (f_ln_letter L (L.2 - 1)) + 1 = x
  by_cases c : x ≤ 0
  · simp only [if_pos c]; rfl
  · simp only [if_neg c]; rfl
set_option maxRecDepth 16384 in
theorem pu_target_sq {L : LnT} {t : Nat → Int32} {n a : Int32} (h : pu_RL L t n) (h0 : 0 ≤ a.toInt) (h1 : a.toInt + 1 < n.toInt) (hs : f_fm_squareIn L a ≠ -1) : f_fm_squareIn L a = (t a.toNatClampNeg - 97) + 8 * (t (a + 1).toNatClampNeg - 49) := by
  have hh := h.hi
  have ea : (a + 1).toInt = a.toInt + 1 := by rw [pu_ia, show (1 : Int32).toInt = 1 by decide]; omega
  rw [pu_sq_in h h0 (by omega)] at hs ⊢
  by_cases q : pu_cF (f_md_peek t n a) ∧ pu_cR (f_md_peek t n (a + 1))
  · rw [if_pos q, (pu_sqc_ok q.1 q.2).2, pu_peek_t (by omega), pu_peek_t (by omega)]
  · rw [if_neg q] at hs; exact absurd rfl hs
set_option maxRecDepth 16384 in
theorem pu_FOk4a {t : Nat → Int32} {N s x : Int32} (h1 : 2 ≤ N.toInt) (h2 : 0 ≤ (t (N - 1).toNatClampNeg).toInt ∧ (t (N - 1).toNatClampNeg).toInt ≤ 126) (h3 : f_md_isOfficer (t (N - 1).toNatClampNeg) 0 ≠ 0) (h4 : x = (t (N - 1 - 2).toNatClampNeg - 97) + 8 * (t (N - 1 - 1).toNatClampNeg - 49)) : pu_FOk t N s 4 (N, s, 0, 1, x, f_md_manOf (t (N - 1).toNatClampNeg)) :=
  ⟨rfl, rfl, Or.inr (Or.inr (Or.inr ⟨rfl, rfl, rfl, h1, h2, Or.inl ⟨h3, rfl, h4⟩⟩))⟩
set_option maxRecDepth 16384 in
theorem pu_FOk4b {t : Nat → Int32} {N s x : Int32} (h1 : 2 ≤ N.toInt) (h2 : 0 ≤ (t (N - 1).toNatClampNeg).toInt ∧ (t (N - 1).toNatClampNeg).toInt ≤ 126) (h3 : f_md_isOfficer (t (N - 1).toNatClampNeg) 0 = 0) (h4 : x = (t (N - 2).toNatClampNeg - 97) + 8 * (t (N - 1).toNatClampNeg - 49)) : pu_FOk t N s 4 (N, s, 0, 1, x, 0) :=
  ⟨rfl, rfl, Or.inr (Or.inr (Or.inr ⟨rfl, rfl, rfl, h1, h2, Or.inr ⟨h3, rfl, h4⟩⟩))⟩
set_option maxRecDepth 16384 in
theorem pu_FOk3 {t : Nat → Int32} {N s x : Int32} (h1 : 3 ≤ N.toInt) (h2 : 0 ≤ (t 0).toInt ∧ (t 0).toInt ≤ 126) (h3 : 2 ≤ (f_md_manOf (t 0)).toInt ∧ (f_md_manOf (t 0)).toInt ≤ 6) (h4 : x = (t (N - 2).toNatClampNeg - 97) + 8 * (t (N - 1).toNatClampNeg - 49)) : pu_FOk t N s 3 (N, s, 0, f_md_manOf (t 0), x, 0) :=
  ⟨rfl, rfl, Or.inr (Or.inr (Or.inl ⟨rfl, rfl, h1, rfl, h2, h3, h4, rfl⟩))⟩
set_option maxRecDepth 16384 in
theorem pu_pcore_2 (F : FmT) (L : LnT) (p be : Int32) : (pu_pcore F L p be).2 = (F.1, F.2.1, F.2.2.1, 1, f_fm_squareIn L p, be) := rfl
set_option maxRecDepth 16384 in
theorem pu_form_eq {L : LnT} {t : Nat → Int32} {n : Int32} (h : pu_RL L t n) (fm : FmT) (a : Int32) : ∃ s : Int32, (s = 0 ∨ s = 1 ∨ s = 2) ∧
    ((s = 0 ∧ f_md_bare t n = n ∧ (0 < n.toInt → t (n.toInt - 1).toNat ≠ 43 ∧ t (n.toInt - 1).toNat ≠ 35)) ∨ (s = 1 ∧ (f_md_bare t n).toInt = n.toInt - 1 ∧ t (n.toInt - 1).toNat = 43) ∨ (s = 2 ∧ (f_md_bare t n).toInt = n.toInt - 1 ∧ t (n.toInt - 1).toNat = 35)) ∧
    0 ≤ (f_md_bare t n).toInt ∧ (f_md_bare t n).toInt ≤ n.toInt ∧
    (((f_fm_isOf fm L).1 = 0 ∧ (f_md_form t n a).1 = 0) ∨ ((f_fm_isOf fm L).1 = 1 ∧ (f_md_form t n a).1 ≠ 0 ∧ pu_FOk t (f_md_bare t n) s (f_md_form t n a).1 (f_fm_isOf fm L).2)) := by
  have hh := h.hi
  obtain ⟨s, hs, b1, b2, b3, b4, b5⟩ := pu_bare_eq h
  refine ⟨s, hs, b5, b3, b4, ?_⟩
  rw [pu_isOf_c, h.sz, b1, ← b2, pu_md_form]
  generalize f_md_bare t n = N at *
  clear b2 b5
  generalize fm.2.2.1 = g1; generalize fm.2.2.2.1 = g2; generalize fm.2.2.2.2.1 = g3; generalize fm.2.2.2.2.2 = g4
  have n1 : ¬ (1 : Int32) = 0 := by decide
  have q3 : (N = 3 ∧ f_ln_letter L 0 = 48 ∧ f_ln_letter L 1 = 45 ∧ f_ln_letter L 2 = 48) ↔ (N = 3 ∧ t 0 = 48 ∧ t 1 = 45 ∧ t 2 = 48) := by
    by_cases c : N = 3
    · rw [c, show (3 : Int32).toInt = 3 by decide] at b4
      rw [pu_letter_t h (p := 0) (by decide) (by rw [show (0 : Int32).toInt = 0 by decide]; omega), pu_letter_t h (p := 1) (by decide) (by rw [show (1 : Int32).toInt = 1 by decide]; omega), pu_letter_t h (p := 2) (by decide) (by rw [show (2 : Int32).toInt = 2 by decide]; omega)]
      exact Iff.rfl
    · exact ⟨fun w => absurd w.1 c, fun w => absurd w.1 c⟩
  have q5 : (N = 5 ∧ f_ln_letter L 0 = 48 ∧ f_ln_letter L 1 = 45 ∧ f_ln_letter L 2 = 48 ∧ f_ln_letter L 3 = 45 ∧ f_ln_letter L 4 = 48) ↔ (N = 5 ∧ t 0 = 48 ∧ t 1 = 45 ∧ t 2 = 48 ∧ t 3 = 45 ∧ t 4 = 48) := by
    by_cases c : N = 5
    · rw [c, show (5 : Int32).toInt = 5 by decide] at b4
      rw [pu_letter_t h (p := 0) (by decide) (by rw [show (0 : Int32).toInt = 0 by decide]; omega), pu_letter_t h (p := 1) (by decide) (by rw [show (1 : Int32).toInt = 1 by decide]; omega), pu_letter_t h (p := 2) (by decide) (by rw [show (2 : Int32).toInt = 2 by decide]; omega), pu_letter_t h (p := 3) (by decide) (by rw [show (3 : Int32).toInt = 3 by decide]; omega), pu_letter_t h (p := 4) (by decide) (by rw [show (4 : Int32).toInt = 4 by decide]; omega)]
      exact Iff.rfl
    · exact ⟨fun w => absurd w.1 c, fun w => absurd w.1 c⟩
  unfold pu_cbody f_fm_isCastling
  simp only [pu_bnd_k]
  rw [pu_bww6, pu_bww7]
  simp only [q3, q5]
  by_cases c3 : N = 3 ∧ t 0 = 48 ∧ t 1 = 45 ∧ t 2 = 48
  · simp only [if_pos c3]
    rw [if_neg n1, bnd2_s rfl, if_neg n1]
    exact .inr ⟨rfl, by decide, rfl, rfl, .inl ⟨rfl, rfl⟩⟩
  simp only [if_neg c3, if_true]
  by_cases c5 : N = 5 ∧ t 0 = 48 ∧ t 1 = 45 ∧ t 2 = 48 ∧ t 3 = 45 ∧ t 4 = 48
  · simp only [if_pos c5]
    rw [if_neg n1, bnd2_s rfl, if_neg n1]
    exact .inr ⟨rfl, by decide, rfl, rfl, .inr (.inl ⟨rfl, rfl⟩)⟩
  simp only [if_neg c5, if_true]
  clear q3 q5 c3 c5
  rw [pu_mrest_1, bnd2_s rfl, if_pos rfl]
  have hp0 := pu_peek_rg h (a := 0) (by decide)
  have l0 := pu_letter_eq h (a := 0) (by decide)
  have m0 := (pu_mn_ch hp0.1 hp0.2).1
  have o0 := (pu_off_ch hp0.1 hp0.2).1
  have g0 := (pu_off_ch hp0.1 hp0.2).2.2.1
  have MA := pu_man_all (N := N) h (N, s, 0, g2, g3, g4) rfl b3 (by omega)
  obtain ⟨mf, m01⟩ := pu_man_fld (N, s, 0, g2, g3, g4) L
  rw [l0, m0] at MA mf
  have PA := pu_pawn_all (N := N) h (N, s, 0, f_md_manOf (f_md_peek t n 0), f_fm_squareIn L (N - 2), 0) rfl b3 b4
  have t0 : 0 < N.toInt → f_md_peek t n 0 = t 0 := fun q => pu_peek_t (by rw [show (0 : Int32).toInt = 0 by decide]; omega)
  rcases hM : f_fm_isManMove (N, s, 0, g2, g3, g4) L with ⟨r8, u8⟩
  rw [hM] at MA mf m01
  dsimp only at MA mf m01
  subst mf
  rw [pu_bnd2_p]
  rcases m01 with rfl | rfl
  ·
    rw [if_pos rfl]
    have nm := MA.mp rfl
    have key : (if N ≤ 0 ∨ f_md_isOfficer (t 0) 1 = 0 then (if (f_md_isPawnForm t n N).1 = 0 then (0 : Int32) else 4) else (if (f_md_isOfficerForm t n N).1 = 0 then 0 else 3)) = if (f_md_isPawnForm t n N).1 = 0 then 0 else 4 := by
      by_cases c : N ≤ 0 ∨ f_md_isOfficer (t 0) 1 = 0
      · rw [if_pos c]
      · rw [if_neg c]
        have c1 : ¬ N ≤ 0 := fun w => c (.inl w)
        have c2 : ¬ f_md_isOfficer (t 0) 1 = 0 := fun w => c (.inr w)
        have c1' : 0 < N.toInt := by rw [Int32.le_iff_toInt_le] at c1; exact Int.not_le.mp c1
        rw [← t0 c1', o0] at c2
        have c3 := Decidable.not_not.mp c2
        have of0 : (f_md_isOfficerForm t n N).1 = 0 := Decidable.not_not.mp fun w => nm ⟨c3, w⟩
        have nf : ¬ pu_cF (f_md_peek t n 0) := by
          have := g0 c3.1 c3.2
          unfold pu_cF; omega
        have pu_pf0 : (f_md_isPawnForm t n N).1 = 0 := by
          unfold f_md_isPawnForm
          simp only [pu_bnd_k, pu_mf_0, if_neg nf, if_true]
          repeat' first | refine pu_ite0 ?_ ?_ | exact Eq.refl (0 : Int32)
        rw [if_pos of0, if_pos pu_pf0]
    rw [key]
    have pcs := pu_pawn_s (N, s, 0, f_md_manOf (f_md_peek t n 0), f_fm_squareIn L (N - 2), 0) L
    rw [pcs] at PA ⊢
    dsimp only at PA ⊢
    by_cases c : (f_md_isPawnForm t n N).1 = 0
    · have d := PA.mpr c
      rw [if_pos c, pu_bnd2_k, if_pos d]; exact .inl ⟨rfl, rfl⟩
    · have d : ¬ _ = _ := fun w => c (PA.mp w)
      have N2 : 2 ≤ N.toInt := by
        refine Classical.byContradiction fun w => c (pu_pawn_lo (L := L) (N := N) (N, s, 0, f_md_manOf (f_md_peek t n 0), f_fm_squareIn L (N - 2), 0) rfl b3 (by omega)).2
      have e1 : (N - 1).toInt = N.toInt - 1 := by rw [pu_isb, show (1 : Int32).toInt = 1 by decide]; omega
      have e2 : (N - 2).toInt = N.toInt - 2 := by rw [pu_isb, show (2 : Int32).toInt = 2 by decide]; omega
      have e3 : (N - 3).toInt = N.toInt - 3 := by rw [pu_isb, show (3 : Int32).toInt = 3 by decide]; omega
      have lt := pu_letter_t h (p := N - 1) (by omega) (by omega)
      have hch := h.ch (N - 1).toNatClampNeg (by rw [pu_tn]; omega)
      have ml := (pu_mn_ch hch.1 hch.2).1
      have ol := (pu_off_ch hch.1 hch.2).2.1
      rw [lt, ml] at d ⊢
      rw [if_neg c, pu_bnd2_k, if_neg d]
      refine .inr ⟨rfl, by decide, ?_⟩
      by_cases pr : f_gn_isPromotion (f_md_manOf (t (N - 1).toNatClampNeg)) = 0
      · rw [if_pos pr] at d ⊢
        have sq : f_fm_squareIn L (N - 2) ≠ -1 := by
          intro w; apply d; unfold pu_pcore; rw [if_pos w]
        have a1 : N - 2 + 1 = N - 1 := Int32.toInt_inj.mp (by rw [pu_ia, e2, e1, show (1 : Int32).toInt = 1 by decide]; omega)
        have tg := pu_target_sq h (a := N - 2) (by omega) (by omega) sq
        rw [a1] at tg
        rw [pu_pcore_2]; dsimp only
        have A1 : f_md_isOfficer (t (N - 1).toNatClampNeg) 0 = 0 := ol.mpr (pu_promo_i.mp pr)
        exact pu_FOk4b N2 hch A1 tg
      · rw [if_neg pr] at d ⊢
        have sq : f_fm_squareIn L (N - 3) ≠ -1 := by
          intro w; apply d; unfold pu_pcore; rw [if_pos w]
        have N3 : 3 ≤ N.toInt := Classical.byContradiction fun w => sq (pu_sq_neg (by omega))
        have a1 : N - 3 + 1 = N - 1 - 1 := Int32.toInt_inj.mp (by rw [pu_ia, e3, pu_isb (N - 1) 1, e1, show (1 : Int32).toInt = 1 by decide]; omega)
        have a2 : N - 3 = N - 1 - 2 := Int32.toInt_inj.mp (by rw [pu_isb (N - 1), e3, e1, show (2 : Int32).toInt = 2 by decide]; omega)
        have tg := pu_target_sq h (a := N - 3) (by omega) (by omega) sq
        rw [a1] at tg
        have tg2 : f_fm_squareIn L (N - 3) = (t (N - 1 - 2).toNatClampNeg - 97) + 8 * (t (N - 1 - 1).toNatClampNeg - 49) := by rw [← a2]; exact tg
        rw [pu_pcore_2]; dsimp only
        have A1 : f_md_isOfficer (t (N - 1).toNatClampNeg) 0 ≠ 0 := fun w => pr (pu_promo_i.mpr (ol.mp w))
        exact pu_FOk4a N2 hch A1 tg2
  ·
    rw [if_neg n1]
    have ym : (2 ≤ (f_md_manOf (f_md_peek t n 0)).toInt ∧ (f_md_manOf (f_md_peek t n 0)).toInt ≤ 6) ∧ (f_md_isOfficerForm t n N).1 ≠ 0 := Classical.byContradiction fun w => n1 (MA.mpr w)
    have N3 : 3 ≤ N.toInt := Classical.byContradiction fun w => ym.2 (pu_man_lo (N := N) h (N, s, 0, g2, g3, g4) rfl b3 (by omega)).2
    have e1 : (N - 1).toInt = N.toInt - 1 := by rw [pu_isb, show (1 : Int32).toInt = 1 by decide]; omega
    have e2 : (N - 2).toInt = N.toInt - 2 := by rw [pu_isb, show (2 : Int32).toInt = 2 by decide]; omega
    have tt := t0 (by omega)
    rw [tt] at ym o0 hp0 ⊢
    have c : ¬ (N ≤ 0 ∨ f_md_isOfficer (t 0) 1 = 0) := by
      rintro (w | w)
      · rw [Int32.le_iff_toInt_le] at w
        have w' : N.toInt ≤ 0 := w
        omega
      · exact o0.mp w ym.1
    rw [if_neg c, if_neg ym.2]
    have sq : f_fm_squareIn L (N - 2) ≠ -1 := by
      intro w
      have : (f_fm_isManMove (N, s, 0, g2, g3, g4) L).1 = 0 := by
        unfold f_fm_isManMove
        simp only [pu_bnd_k]
        rw [w]
        simp only [if_true]
        repeat' first | refine pu_ite0 ?_ ?_ | exact Eq.refl (0 : Int32)
      rw [hM] at this
      exact n1 this
    have a1 : N - 2 + 1 = N - 1 := Int32.toInt_inj.mp (by rw [pu_ia, e2, e1, show (1 : Int32).toInt = 1 by decide]; omega)
    have tg := pu_target_sq h (a := N - 2) (by omega) (by omega) sq
    rw [a1] at tg
    exact .inr ⟨rfl, by decide, pu_FOk3 N3 hp0 ym.1 tg⟩
set_option maxRecDepth 16384 in
theorem pu_man_let {k : Int32} (h0 : 1 ≤ k.toInt) (h1 : k.toInt ≤ 12) : f_md_manOf (f_md_letter k) = k ∧ f_md_letter k ≠ 0 := by
  have q : ∀ j : Nat, j < 13 → 0 < j → f_md_manOf (f_md_letter (Int32.ofNat j)) = Int32.ofNat j ∧ f_md_letter (Int32.ofNat j) ≠ 0 := by decide +kernel
  obtain ⟨j, hj, rfl⟩ := pu_of_rg (N := 13) (by omega : 0 ≤ k.toInt) (by omega)
  refine q j hj (Nat.pos_of_ne_zero ?_)
  rintro rfl
  exact absurd h0 (by decide)
set_option maxRecDepth 16384 in
theorem pu_let_eq {k c : Int32} (h0 : 1 ≤ k.toInt) (h1 : k.toInt ≤ 12) (c0 : 0 ≤ c.toInt) (c1 : c.toInt ≤ 126) (hm : 2 ≤ (f_md_manOf c).toInt) : f_md_letter k = c ↔ k = f_md_manOf c := by
  constructor
  · intro e; rw [← e]; exact (pu_man_let h0 h1).1.symm
  · intro e
    rw [e]
    exact (pu_off_ch c0 c1).2.2.2 (fun w => by rw [w] at hm; exact absurd hm (by decide))
set_option maxRecDepth 16384 in
theorem pu_like_eq {b t : Nat → Int32} {n m s fo : Int32} {F : FmT} {P : PsT} (hb : pu_RB P.1 b) (ok : pu_MvOk b m) (hF : pu_FOk t (f_md_bare t n) s fo F) : f_fm_fits F m P = 0 ↔ f_md_isLike b t n m fo = 0 := by
  have n1 : ¬ (1 : Int32) = 0 := by decide
  have hf := pu_from_rg m; have ht := pu_to_rg m
  have rM := hb.rg (f_gn_fromOf m).toNatClampNeg (by rw [pu_tn]; omega)
  have kM := pu_kind_of rM.1 rM.2
  have eF : f_md_fromOf m = f_gn_fromOf m := rfl
  have eT : f_md_toOf m = f_gn_toOf m := rfl
  have eB : m >>> ((12 : Int32) &&& 31) = f_gn_becomesOf m := rfl
  have b0 := ok.b0; have b1 := ok.b1; have b5 := ok.b5; have mnz := ok.mn; have pw := ok.pw
  have cs := pu_castle_eq hb m
  unfold f_fm_fits f_md_isLike
  simp only [pu_bnd_k]
  rw [eF, eT, eB, pu_man_on hb hf.1 hf.2]
  generalize f_md_bare t n = N at *
  generalize f_gn_castlingOf m P = cc at *
  generalize f_md_castles b m = mc at *
  generalize f_gn_becomesOf m = be at *
  generalize f_gn_toOf m = to at *
  generalize b (f_gn_fromOf m).toNatClampNeg = mn at *
  obtain ⟨hN, hS, hF⟩ := hF
  have kpos : 1 ≤ (f_gn_kindOf mn).toInt := by
    have : (f_gn_kindOf mn).toInt ≠ 0 := fun w => mnz (kM.2.2.2.2.2.mp w)
    have := kM.2.2.2.1
    omega
  have k6 := kM.2.2.2.2.1
  have ek := kM.2.2.1
  have kp := kM.1
  rcases hF with ⟨rfl, hc⟩ | ⟨rfl, hc⟩ | ⟨rfl, hc, h3, hk, ht0, hm0, htg, hbe⟩ | ⟨rfl, hc, hk, h2, hl, hx⟩
  · rw [hc, if_neg n1, if_pos (show (1 : Int32) < 3 by decide)]
    rcases cs with ⟨rfl, rfl⟩ | ⟨rfl, rfl⟩ | ⟨rfl, rfl⟩ <;> decide
  · rw [hc, if_neg (show ¬ (-1 : Int32) = 0 by decide), if_pos (show (2 : Int32) < 3 by decide)]
    rcases cs with ⟨rfl, rfl⟩ | ⟨rfl, rfl⟩ | ⟨rfl, rfl⟩ <;> decide
  · rw [hc, if_pos rfl, if_neg (show ¬ (3 : Int32) < 3 by decide)]
    rcases cs with ⟨rfl, rfl⟩ | ⟨rfl, rfl⟩ | ⟨rfl, rfl⟩
    rotate_left
    · rw [if_neg n1, if_neg (show ¬ (0 : Int32) = 1 by decide), if_neg (show ¬ (1 : Int32) ≤ 0 by decide), if_neg (show ¬ (1 : Int32) = 3 by decide)]
    · rw [if_neg (show ¬ (-1 : Int32) = 0 by decide), if_neg (show ¬ (0 : Int32) = -1 by decide), if_neg (show ¬ (2 : Int32) ≤ 0 by decide), if_neg (show ¬ (2 : Int32) = 3 by decide)]
    rw [if_pos rfl, if_pos (show (0 : Int32) ≤ 0 by decide), hk, htg, hbe]
    have t0 : t (0 : Int32).toNatClampNeg = t 0 := rfl
    have le := pu_let_eq (k := f_gn_kindOf mn) kpos (by omega) ht0.1 ht0.2 hm0.1
    have nb : f_gn_kindOf mn = f_md_manOf (t 0) → be = 0 := by
      intro e
      refine Classical.byContradiction fun w => ?_
      have := kp.mpr (pw w)
      rw [this] at e
      rw [← e] at hm0
      exact absurd hm0.1 (by decide)
    have n1k : f_gn_kindOf mn = f_md_manOf (t 0) → ¬ f_gn_kindOf mn = 1 := by
      intro e w
      rw [w] at e
      rw [← e] at hm0
      exact absurd hm0.1 (by decide)
    by_cases c6 : mn ≤ 6
    · rw [if_pos c6] at ek
      simp only [if_pos c6, if_true, t0]
      rw [ek] at le nb n1k ⊢
      generalize (t (N - 2).toNatClampNeg - 97) + 8 * (t (N - 1).toNatClampNeg - 49) = tg
      by_cases d : mn = f_md_manOf (t 0)
      · rw [if_pos d, if_pos (le.mpr d), if_neg (n1k d), if_pos (nb d)]
      · rw [if_neg d, if_neg (fun w => d (le.mp w))]
    · rw [if_neg c6] at ek
      simp only [if_neg c6, if_true, t0]
      rw [ek] at le nb n1k ⊢
      generalize (t (N - 2).toNatClampNeg - 97) + 8 * (t (N - 1).toNatClampNeg - 49) = tg
      by_cases d : mn - 6 = f_md_manOf (t 0)
      · rw [if_pos d, if_pos (le.mpr d), if_neg (n1k d), if_pos (nb d)]
      · rw [if_neg d, if_neg (fun w => d (le.mp w))]
  · rw [hc, if_pos rfl, if_neg (show ¬ (4 : Int32) < 3 by decide)]
    rcases cs with ⟨rfl, rfl⟩ | ⟨rfl, rfl⟩ | ⟨rfl, rfl⟩
    rotate_left
    · rw [if_neg n1, if_neg (show ¬ (0 : Int32) = 1 by decide), if_neg (show ¬ (1 : Int32) ≤ 0 by decide), if_neg (show ¬ (1 : Int32) = 4 by decide)]
    · rw [if_neg (show ¬ (-1 : Int32) = 0 by decide), if_neg (show ¬ (0 : Int32) = -1 by decide), if_neg (show ¬ (2 : Int32) ≤ 0 by decide), if_neg (show ¬ (2 : Int32) = 4 by decide)]
    have n43 : ¬ (4 : Int32) = 3 := by decide
    rw [if_pos rfl, if_pos (show (0 : Int32) ≤ 0 by decide), hk]
    simp only [if_neg n43]
    generalize hla : t (N - 1).toNatClampNeg = la at *
    have ble : be ≤ 0 ↔ be = 0 := by
      rw [Int32.le_iff_toInt_le, pu_eq_i]
      show be.toInt ≤ 0 ↔ be.toInt = 0
      omega
    have bpos : ¬ be = 0 → 1 ≤ be.toInt := by
      intro w
      have : be.toInt ≠ 0 := fun q => w (Int32.toInt_inj.mp q)
      omega
    have ol := (pu_off_ch hl.1 hl.2).2.1
    generalize f_md_isOfficer la 0 = of at *
    generalize (t (N - 1 - 2).toNatClampNeg - 97) + 8 * (t (N - 1 - 1).toNatClampNeg - 49) = tg2 at *
    generalize (t (N - 2).toNatClampNeg - 97) + 8 * (la - 49) = tg1 at *
    rcases hx with ⟨x1, x2, x3⟩ | ⟨x1, x2, x3⟩
    · have om := Decidable.not_not.mp fun w => x1 (ol.mpr w)
      have lz : ¬ (0 : Int32) = la := by
        rintro rfl
        exact absurd om.1 (by decide)
      have le : ¬ be = 0 → (f_md_letter be = la ↔ be = f_md_manOf la) := fun w => pu_let_eq (bpos w) (by omega) hl.1 hl.2 om.1
      have mz : ¬ (0 : Int32) = f_md_manOf la := by
        intro w; rw [← w] at om; exact absurd om.1 (by decide)
      rw [x2, x3]
      simp only [if_neg x1]
      by_cases c6 : mn ≤ 6
      · rw [if_pos c6] at ek
        rw [if_pos c6, ek]
        by_cases d : mn = 1
        rotate_left
        · simp only [if_neg d]; split <;> simp
        simp only [if_pos d]
        by_cases w : be = 0
        · rw [if_pos (ble.mpr w), if_neg lz, w, if_neg mz]; split <;> simp
        · rw [if_neg (fun q => w (ble.mp q))]
          by_cases z : be = f_md_manOf la
          · rw [if_pos z, if_pos ((le w).mpr z)]
          · rw [if_neg z, if_neg (fun q => z ((le w).mp q))]; split <;> simp
      · rw [if_neg c6] at ek
        rw [if_neg c6, ek]
        by_cases d : mn - 6 = 1
        rotate_left
        · simp only [if_neg d]; split <;> simp
        simp only [if_pos d]
        by_cases w : be = 0
        · rw [if_pos (ble.mpr w), if_neg lz, w, if_neg mz]; split <;> simp
        · rw [if_neg (fun q => w (ble.mp q))]
          by_cases z : be = f_md_manOf la
          · rw [if_pos z, if_pos ((le w).mpr z)]
          · rw [if_neg z, if_neg (fun q => z ((le w).mp q))]; split <;> simp
    · rw [x2, x3]
      simp only [if_pos x1]
      have lz : ¬ be = 0 → ¬ f_md_letter be = 0 := fun w => (pu_man_let (bpos w) (by omega)).2
      by_cases c6 : mn ≤ 6
      · rw [if_pos c6] at ek
        rw [if_pos c6, ek]
        by_cases d : mn = 1
        rotate_left
        · simp only [if_neg d]; split <;> simp
        simp only [if_pos d]
        by_cases w : be = 0
        · rw [if_pos (ble.mpr w), if_pos w]
        · rw [if_neg (fun q => w (ble.mp q)), if_neg w, if_neg (lz w)]; split <;> simp
      · rw [if_neg c6] at ek
        rw [if_neg c6, ek]
        by_cases d : mn - 6 = 1
        rotate_left
        · simp only [if_neg d]; split <;> simp
        simp only [if_pos d]
        by_cases w : be = 0
        · rw [if_pos (ble.mpr w), if_pos w]
        · rw [if_neg (fun q => w (ble.mp q)), if_neg w, if_neg (lz w)]; split <;> simp
set_option maxRecDepth 16384 in
theorem pu_tx_L {t out : Nat → Int32} {N : Int32} (hN : N.toInt ≤ 16) : ∀ (k : Nat) (v : Int32), 0 ≤ v.toInt → (16 - v.toInt).toNat < k →
    ((∀ j : Nat, v.toInt ≤ j → (j : Int) < N.toInt → out j = t j) → f_md_isText_L16 t out N k 1 v = 1) ∧ (¬ (∀ j : Nat, v.toInt ≤ j → (j : Int) < N.toInt → out j = t j) → f_md_isText_L16 t out N k 1 v = 0) := by
  have z1 : (1 : Int32).toInt = 1 := by decide
  have n1 : ¬ (1 : Int32) = 0 := by decide
  intro k
  induction k with
  | zero => intro v h0 h1; omega
  | succ k ih =>
    intro v h0 h1
    rw [f_md_isText_L16]
    by_cases c : N ≤ v
    · rw [if_pos c]
      rw [Int32.le_iff_toInt_le] at c
      exact ⟨fun _ => rfl, fun q => absurd (fun j a b => by omega) q⟩
    · rw [if_neg c, if_neg n1]
      rw [Int32.le_iff_toInt_le] at c
      have e : (v + 1).toInt = v.toInt + 1 := by rw [pu_ia, z1]; omega
      have g1 : 0 ≤ (v + 1).toInt := by omega
      have g2 : (16 - (v + 1).toInt).toNat < k := by omega
      have vv : (v.toNatClampNeg : Int) = v.toInt := by rw [pu_tn]; omega
      by_cases d : out v.toNatClampNeg = t v.toNatClampNeg
      · rw [if_pos d]
        obtain ⟨i1, i2⟩ := ih (v + 1) g1 g2
        refine ⟨fun q => i1 fun j a b => q j (by omega) b, fun q => i2 fun w => q fun j a b => ?_⟩
        by_cases hj : (j : Int) = v.toInt
        · have : j = v.toNatClampNeg := by omega
          rw [this]; exact d
        · exact w j (by omega) b
      · rw [if_neg d]
        refine ⟨fun q => absurd (q v.toNatClampNeg (by omega) (by omega)) d, fun _ => ?_⟩
        cases k with
        | zero => rfl
        | succ k =>
          rw [f_md_isText_L16]
          by_cases c2 : N ≤ v + 1
          · rw [if_pos c2]
          · rw [if_neg c2, if_pos rfl]
set_option maxRecDepth 16384 in
theorem pu_isText_iff {t out : Nat → Int32} {os N : Int32} (ho : os.toInt ≤ 16) : f_md_isText t out os N ≠ 0 ↔ os = N ∧ ∀ j : Nat, (j : Int) < N.toInt → out j = t j := by
  unfold f_md_isText
  have n1 : ¬ (1 : Int32) = 0 := by decide
  have z0 : (0 : Int32).toInt = 0 := by decide
  by_cases c : os = N
  · rw [if_pos c]
    subst c
    obtain ⟨i1, i2⟩ := pu_tx_L (t := t) (out := out) ho 17 0 (by decide) (by decide)
    by_cases d : ∀ j : Nat, (0 : Int32).toInt ≤ j → (j : Int) < os.toInt → out j = t j
    · rw [i1 d]
      exact ⟨fun _ => ⟨rfl, fun j hj => d j (by rw [z0]; omega) hj⟩, fun _ => n1⟩
    · rw [i2 d]
      exact ⟨fun w => absurd rfl w, fun w => absurd (fun j _ hj => w.2 j hj) d⟩
  · rw [if_neg c]
    have : f_md_isText_L16 t out N 17 0 0 = 0 := by
      rw [f_md_isText_L16]
      by_cases d : N ≤ 0
      · rw [if_pos d]
      · rw [if_neg d, if_pos rfl]
    rw [this]
    exact ⟨fun w => absurd rfl w, fun w => absurd w.1 c⟩
set_option maxRecDepth 16384 in
theorem pu_bw_L {L T : LnT} {ct : Int32} (h0 : T.2.toInt ≤ 100) : ∀ (k : Nat) (v : Int32), 0 ≤ v.toInt → (100 - v.toInt).toNat < k →
    ((∀ j : Int32, v.toInt ≤ j.toInt → j.toInt < T.2.toInt → f_ln_letter L j = f_ln_letter T j) → f_ln_beginsWith_L12 L T ct k v = 1) ∧ (¬ (∀ j : Int32, v.toInt ≤ j.toInt → j.toInt < T.2.toInt → f_ln_letter L j = f_ln_letter T j) → f_ln_beginsWith_L12 L T ct k v = 0) := by
  have z1 : (1 : Int32).toInt = 1 := by decide
  intro k
  induction k with
  | zero => intro v h0 h1; omega
  | succ k ih =>
    intro v h0 h1
    rw [f_ln_beginsWith_L12]
    simp only [pu_bnd_k]
    by_cases c : T.2 ≤ v
    · rw [if_pos c]
      rw [Int32.le_iff_toInt_le] at c
      exact ⟨fun _ => rfl, fun q => absurd (fun j a b => by omega) q⟩
    · rw [if_neg c]
      rw [Int32.le_iff_toInt_le] at c
      have e : (v + 1).toInt = v.toInt + 1 := by rw [pu_ia, z1]; omega
      have g1 : 0 ≤ (v + 1).toInt := by omega
      have g2 : (100 - (v + 1).toInt).toNat < k := by omega
      by_cases d : f_ln_letter L v = f_ln_letter T v
      · rw [if_pos d]
        obtain ⟨i1, i2⟩ := ih (v + 1) g1 g2
        refine ⟨fun q => i1 fun j a b => q j (by omega) b, fun q => i2 fun w => q fun j a b => ?_⟩
        by_cases hj : j = v
        · rw [hj]; exact d
        · have : j.toInt ≠ v.toInt := fun q => hj (Int32.toInt_inj.mp q)
          exact w j (by omega) b
      · rw [if_neg d]
        exact ⟨fun q => absurd (q v (Int.le_refl _) (by omega)) d, fun _ => rfl⟩
set_option maxRecDepth 16384 in
theorem pu_bw_iff {L T : LnT} {ct : Int32} (h0 : T.2.toInt ≤ 100) : f_ln_beginsWith L T ct ≠ 0 ↔ T.2 = ct ∧ ∀ j : Int32, 0 ≤ j.toInt → j.toInt < T.2.toInt → f_ln_letter L j = f_ln_letter T j := by
  unfold f_ln_beginsWith
  have n1 : ¬ (1 : Int32) = 0 := by decide
  have z0 : (0 : Int32).toInt = 0 := by decide
  by_cases c : T.2 = ct
  · rw [if_pos c]
    obtain ⟨i1, i2⟩ := pu_bw_L (L := L) (T := T) (ct := ct) h0 101 0 (by decide) (by decide)
    by_cases d : ∀ j : Int32, (0 : Int32).toInt ≤ j.toInt → j.toInt < T.2.toInt → f_ln_letter L j = f_ln_letter T j
    · rw [i1 d]; exact ⟨fun _ => ⟨c, fun j a b => d j (by rw [z0]; exact a) b⟩, fun _ => n1⟩
    · rw [i2 d]; exact ⟨fun w => absurd rfl w, fun w => absurd (fun j a b => w.2 j (by rw [z0] at a; exact a) b) d⟩
  · rw [if_neg c]; exact ⟨fun w => absurd rfl w, fun w => absurd w.1 c⟩
set_option maxRecDepth 16384 in
theorem pu_close_eq {L X : LnT} {t o : Nat → Int32} {n os N s g : Int32} (h : pu_RL L t n) (hX : pu_RB2 X o os 7) (hN0 : 0 ≤ N.toInt) (hNn : N.toInt ≤ n.toInt) (hg : g = 0 ∨ g = 1 ∨ g = 2)
    (hs : (s = 0 ∧ N = n ∧ (0 < n.toInt → t (n.toInt - 1).toNat ≠ 43 ∧ t (n.toInt - 1).toNat ≠ 35)) ∨ (s = 1 ∧ N.toInt = n.toInt - 1 ∧ t (n.toInt - 1).toNat = 43) ∨ (s = 2 ∧ N.toInt = n.toInt - 1 ∧ t (n.toInt - 1).toNat = 35)) :
    (f_ln_beginsWith L X N ≠ 0 ↔ f_md_isText t o os N ≠ 0) ∧ (f_md_isText t (f_md_saySign o os g).1 (f_md_saySign o os g).2 n ≠ 0 ↔ f_md_isText t o os N ≠ 0 ∧ g = s) := by
  have hl := hX.a.r.lo; have hb := hX.a.b; have hz := hX.a.r.sz
  have nl := h.lo; have nh := h.hi
  constructor
  · rw [pu_isText_iff (by omega), pu_bw_iff (by rw [hz]; omega), hz]
    constructor
    · rintro ⟨e, w⟩
      refine ⟨e, fun j hj => ?_⟩
      have ej := pu_nat_ofn (k := j) (by omega)
      have tj : (Int32.ofNat j).toNatClampNeg = j := by rw [pu_tn, ej]; omega
      rw [← e] at hj
      have := w (Int32.ofNat j) (by omega) (by omega)
      rw [pu_letter_t h (by omega) (by rw [e] at hj; omega), pu_letter_t hX.a.r (by omega) (by omega), tj] at this
      exact this.symm
    · rintro ⟨e, w⟩
      refine ⟨e, fun j j0 j1 => ?_⟩
      rw [e] at j1
      rw [pu_letter_t h j0 (by omega), pu_letter_t hX.a.r j0 (by rw [e]; exact j1)]
      exact (w j.toNatClampNeg (by rw [pu_tn]; omega)).symm
  · have e1 : (os + 1).toInt = os.toInt + 1 := by rw [pu_ia, show (1 : Int32).toInt = 1 by decide]; omega
    have sg : ∀ ch : Int32, (¬ ch = 43 → ¬ ch = 35 → False) → (f_md_isText t (upd o os.toNatClampNeg ch) (os + 1) n ≠ 0 ↔ (os.toInt + 1 = n.toInt ∧ (∀ j : Nat, (j : Int) < os.toInt → o j = t j) ∧ t (n.toInt - 1).toNat = ch)) := by
      intro ch _
      rw [pu_isText_iff (by omega), pu_eq_i, e1]
      constructor
      · rintro ⟨e, w⟩
        refine ⟨e, fun j hj => ?_, ?_⟩
        · have := w j (by omega)
          unfold upd at this
          rw [if_neg (by rw [pu_tn]; omega)] at this
          exact this
        · have := w (n.toInt - 1).toNat (by omega)
          unfold upd at this
          rw [if_pos (by rw [pu_tn]; omega)] at this
          exact this.symm
      · rintro ⟨e, w, q⟩
        refine ⟨e, fun j hj => ?_⟩
        unfold upd
        by_cases c : j = os.toNatClampNeg
        · rw [if_pos c, ← q]
          congr 1
          rw [pu_tn] at c; omega
        · rw [if_neg c]; exact w j (by rw [pu_tn] at c; omega)
    have n0 : f_md_saySign o os 0 = (o, os) := by unfold f_md_saySign; rw [if_pos (by decide)]
    have g1 : f_md_saySign o os 1 = (upd o os.toNatClampNeg 43, os + 1) := by unfold f_md_saySign; rw [if_neg (by decide), if_pos rfl, bnd_s rfl]; rfl
    have g2 : f_md_saySign o os 2 = (upd o os.toNatClampNeg 35, os + 1) := by unfold f_md_saySign; rw [if_neg (by decide), if_neg (by decide), bnd_s rfl]; rfl
    have n43 : ¬ (43 : Int32) = 35 := by decide
    have n10 : ¬ (1 : Int32) = 0 := by decide
    have n20 : ¬ (2 : Int32) = 0 := by decide
    have n21 : ¬ (2 : Int32) = 1 := by decide
    rcases hg with rfl | rfl | rfl
    · rw [n0]
      dsimp only
      rw [pu_isText_iff (by omega), pu_isText_iff (by omega)]
      rcases hs with ⟨rfl, rfl, _⟩ | ⟨rfl, q1, q2⟩ | ⟨rfl, q1, q2⟩
      · simp
      · constructor
        · rintro ⟨e, w⟩
          have e' := congrArg Int32.toInt e
          have := w (n.toInt - 1).toNat (by omega)
          have gg := hX.g (n.toInt - 1).toNat (by omega)
          rw [this, q2] at gg
          exact absurd gg (by decide)
        · rintro ⟨_, w⟩; exact absurd w (by decide)
      · constructor
        · rintro ⟨e, w⟩
          have e' := congrArg Int32.toInt e
          have := w (n.toInt - 1).toNat (by omega)
          have gg := hX.g (n.toInt - 1).toNat (by omega)
          rw [this, q2] at gg
          exact absurd gg (by decide)
        · rintro ⟨_, w⟩; exact absurd w (by decide)
    · rw [g1]
      dsimp only
      rw [sg 43 (fun w _ => w rfl), pu_isText_iff (by omega), pu_eq_i (x := os) (y := N)]
      rcases hs with ⟨rfl, rfl, q2⟩ | ⟨rfl, q1, q2⟩ | ⟨rfl, q1, q2⟩
      · constructor
        · rintro ⟨e, w, q⟩; exact absurd q (q2 (by omega)).1
        · rintro ⟨_, w⟩; exact absurd w n10
      · constructor
        · rintro ⟨e, w, q⟩; exact ⟨⟨by omega, fun j hj => w j (by omega)⟩, rfl⟩
        · rintro ⟨⟨e, w⟩, _⟩; exact ⟨by omega, fun j hj => w j (by omega), q2⟩
      · constructor
        · rintro ⟨e, w, q⟩; exact absurd (q2.symm.trans q) (by decide)
        · rintro ⟨_, w⟩; exact absurd w (by decide)
    · rw [g2]
      dsimp only
      rw [sg 35 (fun _ w => w rfl), pu_isText_iff (by omega), pu_eq_i (x := os) (y := N)]
      rcases hs with ⟨rfl, rfl, q2⟩ | ⟨rfl, q1, q2⟩ | ⟨rfl, q1, q2⟩
      · constructor
        · rintro ⟨e, w, q⟩; exact absurd q (q2 (by omega)).2
        · rintro ⟨_, w⟩; exact absurd w n20
      · constructor
        · rintro ⟨e, w, q⟩; exact absurd (q2.symm.trans q) (by decide)
        · rintro ⟨_, w⟩; exact absurd w n21
      · constructor
        · rintro ⟨e, w, q⟩; exact ⟨⟨by omega, fun j hj => w j (by omega)⟩, rfl⟩
        · rintro ⟨⟨e, w⟩, _⟩; exact ⟨by omega, fun j hj => w j (by omega), q2⟩
set_option maxRecDepth 16384 in
theorem pu_find_L {ln : LnT} {rd : Int32} {td : TdT} {ps sp : PsT} {t b mv sg : Nat → Int32} {n tl s fo th at_ : Int32} {F : FmT} (hl : pu_RL ln t n) (hb : pu_RB ps.1 b) (h : pu_RT td b mv sg tl)
    (hN0 : 0 ≤ (f_md_bare t n).toInt) (hNn : (f_md_bare t n).toInt ≤ n.toInt)
    (hs : (s = 0 ∧ f_md_bare t n = n ∧ (0 < n.toInt → t (n.toInt - 1).toNat ≠ 43 ∧ t (n.toInt - 1).toNat ≠ 35)) ∨ (s = 1 ∧ (f_md_bare t n).toInt = n.toInt - 1 ∧ t (n.toInt - 1).toNat = 43) ∨ (s = 2 ∧ (f_md_bare t n).toInt = n.toInt - 1 ∧ t (n.toInt - 1).toNat = 35))
    (hF : pu_FOk t (f_md_bare t n) s fo F) :
    ∀ (k : Nat) (w v : Int32) (tr : LnT) (out : Nat → Int32) (os : Int32), (w = -2 ∨ w = -3 ∨ w = -4) → 0 ≤ v.toInt → (330 - v.toInt).toNat < k →
      (f_gn_find_L21 ln rd td ps sp k w v tr F).1 = (f_md_find_L21 b t mv sg n tl k fo w v th at_ out os).1 := by
  have z1 : (1 : Int32).toInt = 1 := by decide
  have hh := h.hi
  intro k
  induction k with
  | zero => intro w v tr out os _ h0 h1; omega
  | succ k ih =>
    intro w v tr out os hw h0 h1
    rw [f_gn_find_L21, f_md_find_L21, show f_td_count td = tl from h.ct, bnd_s rfl]
    by_cases c : tl ≤ v
    · rw [if_pos c, if_pos c]
    rw [if_neg c, if_neg c]
    rw [Int32.le_iff_toInt_le] at c
    have e : (v + 1).toInt = v.toInt + 1 := by rw [pu_ia, z1]; omega
    have g1 : 0 ≤ (v + 1).toInt := by omega
    have g2 : (330 - (v + 1).toInt).toNat < k := by omega
    have hj : ((v.toNatClampNeg : Nat) : Int) < tl.toInt := by rw [pu_tn]; omega
    have ev : v = Int32.ofNat v.toNatClampNeg := pu_ofn (by rw [pu_tn]; omega)
    obtain ⟨tm1, tm2⟩ := pu_told_mv h hj
    rw [← ev] at tm1 tm2
    have le := pu_like_eq (m := mv v.toNatClampNeg) hb (h.ok _ hj) hF
    have sr := h.sr _ hj
    have hg : sg v.toNatClampNeg = 0 ∨ sg v.toNatClampNeg = 1 ∨ sg v.toNatClampNeg = 2 := by
      have : (sg v.toNatClampNeg).toInt = 0 ∨ (sg v.toNatClampNeg).toInt = 1 ∨ (sg v.toNatClampNeg).toInt = 2 := by omega
      rcases this with q | q | q
      · exact .inl (Int32.toInt_inj.mp q)
      · exact .inr (.inl (Int32.toInt_inj.mp q))
      · exact .inr (.inr (Int32.toInt_inj.mp q))
    have zc : pu_RB2 (f_ln_clear tr) out 0 0 := ⟨⟨⟨rfl, by decide, by decide, fun j hj => absurd hj (by simp), fun j hj => absurd hj (by simp)⟩, by decide⟩, fun j hj => absurd hj (by simp)⟩
    have spl := pu_spelling_eq h hb hj zc
    rw [← ev] at spl
    have ce := pu_close_eq (g := sg v.toNatClampNeg) hl spl hN0 hNn hg hs
    have us : f_fm_unsignedSize F = f_md_bare t n := hF.1
    have fs : f_fm_sign F = s := hF.2.1
    have clo : f_gn_closeness v ln tr rd td F ps sp = if f_fm_fits F (mv v.toNatClampNeg) ps = 0 then ((-2 : Int32), tr) else if f_ln_beginsWith ln (f_td_addUnsigned td (f_ln_clear tr) v ps) (f_md_bare t n) = 0 then ((-3 : Int32), f_td_addUnsigned td (f_ln_clear tr) v ps) else if sg v.toNatClampNeg = s then ((0 : Int32), f_td_addUnsigned td (f_ln_clear tr) v ps) else ((-4 : Int32), f_td_addUnsigned td (f_ln_clear tr) v ps) := by
      unfold f_gn_closeness
      simp only [pu_bnd_k]
      rw [tm1, tm2, us, fs]
    rw [clo]
    simp only [pu_bnd_k]
    rw [tm1]
    clear clo tm1 tm2 us fs sr zc
    generalize f_td_addUnsigned td (f_ln_clear tr) v ps = X at *
    generalize f_md_spelling b mv out tl (mv v.toNatClampNeg) = o at *
    generalize f_md_saySign o.1 o.2 (sg v.toNatClampNeg) = o2 at *
    generalize f_fm_fits F (mv v.toNatClampNeg) ps = ff at *
    generalize f_md_isLike b t n (mv v.toNatClampNeg) fo = lk at *
    obtain ⟨ce1, ce2⟩ := ce
    generalize f_ln_beginsWith ln X (f_md_bare t n) = bw at *
    generalize f_md_isText t o.1 o.2 (f_md_bare t n) = it1 at *
    generalize f_md_isText t o2.1 o2.2 n = it2 at *
    have m2 : ∀ w : Int32, (w = -2 ∨ w = -3 ∨ w = -4) → (if (-2 : Int32) < w then (-2 : Int32) else w) = w ∧ (if (-3 : Int32) < w then (-3 : Int32) else w) = (if w = -2 then -3 else w) ∧ (if (-4 : Int32) < w then (-4 : Int32) else w) = -4 := by
      rintro w (rfl | rfl | rfl) <;> decide
    obtain ⟨q2, q3, q4⟩ := m2 w hw
    clear m2
    have nn2 : ¬ (-2 : Int32) = 0 := by decide
    have nn3 : ¬ (-3 : Int32) = 0 := by decide
    have nn4 : ¬ (-4 : Int32) = 0 := by decide
    by_cases d : ff = 0
    · rw [if_pos d, if_pos (le.mp d), pu_bnd2_p, if_neg nn2, q2]
      exact ih w (v + 1) tr out os hw g1 g2
    rw [if_neg d, if_neg (fun q => d (le.mpr q))]
    by_cases d1 : bw = 0
    · have i1 : it1 = 0 := Classical.byContradiction fun q => ce1.mpr q d1
      have i2 : it2 = 0 := Classical.byContradiction fun q => (ce2.mp q).1 i1
      rw [if_pos d1, pu_bnd2_p, if_neg nn3, q3, if_pos i2, if_pos i1, if_pos i2, if_pos i1]
      by_cases w2 : w = -2
      · rw [if_pos w2, if_pos w2]
        exact ih (-3) (v + 1) _ _ _ (.inr (.inl rfl)) g1 g2
      · rw [if_neg w2, if_neg w2]
        exact ih w (v + 1) _ _ _ hw g1 g2
    · have i1 : ¬ it1 = 0 := ce1.mp d1
      rw [if_neg d1]
      by_cases d2 : sg v.toNatClampNeg = s
      · have i2 : ¬ it2 = 0 := ce2.mpr ⟨i1, d2⟩
        rw [if_pos d2, pu_bnd2_p, if_pos rfl, if_neg i2, if_neg i2]
        split <;> rfl
      · have i2 : it2 = 0 := Classical.byContradiction fun q => d2 (ce2.mp q).2
        rw [if_neg d2, pu_bnd2_p, if_neg nn4, q4, if_pos i2, if_neg i1, if_pos i2, if_neg i1]
        have := ih (-4) (v + 1) X o2.1 o2.2 (.inr (.inr rfl)) g1 g2
        split <;> exact this
set_option maxRecDepth 16384 in
theorem pu_p_find {ln tr : LnT} {rd : Int32} {td : TdT} {fm : FmT} {ps sp : PsT} {t b mv sg out : Nat → Int32} {n sd rt pa cl nu tl os a : Int32} (hl : pu_RL ln t n) (hp : pu_RP ps b sd rt pa cl nu) (h : pu_RT td b mv sg tl)
    {r r' th at' os' : Int32} {tr' : LnT} {fm' : FmT} {out' : Nat → Int32} (e : f_gn_find ln tr rd td fm ps sp = (r, tr', fm')) (e' : f_md_find b t mv sg out n tl a os = (r', th, at', out', os')) : r = r' := by
  obtain ⟨s, hs, b5, b3, b4, hf⟩ := pu_form_eq hl fm a
  unfold f_gn_find at e
  unfold f_md_find at e'
  rw [pu_bnd2_k] at e e'
  have n1 : ¬ (1 : Int32) = 0 := by decide
  rcases hf with ⟨f1, f2⟩ | ⟨f1, f2, f3⟩
  · rw [if_pos f1] at e; rw [if_pos f2] at e'
    cases e; cases e'; rfl
  · rw [if_neg (by rw [f1]; exact n1)] at e; rw [if_neg f2] at e'
    have := pu_find_L (rd := rd) (sp := sp) (th := 0) (at_ := (f_md_form t n a).2) hl hp.bd h b3 b4 b5 f3 331 (-2) 0 tr out os (.inl rfl) (by decide) (by decide)
    rw [e, e'] at this
    exact this
