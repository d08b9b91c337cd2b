theorem in63 {x : Int32} (c1 : ¬ x < 0) (c2 : ¬ (63 : Int32) < x) : vp_in x 64 := by
  have h0 : (0 : Int32).toInt = 0 := by decide
  have h1 : (63 : Int32).toInt = 63 := by decide
  have := i_nlt c1; have := i_nlt c2
  exact vp_in_iff.mpr ⟨by omega, by omega⟩
theorem in63b {x : Int32} (c1 : ¬ x < 0) (c2 : x ≤ (63 : Int32)) : vp_in x 64 := by
  have h0 : (0 : Int32).toInt = 0 := by decide
  have h1 : (63 : Int32).toInt = 63 := by decide
  have := i_nlt c1; have := i_le c2
  exact vp_in_iff.mpr ⟨by omega, by omega⟩
theorem pl_s {v t : Int32} (c : ¬ t ≤ v) (h : t.toInt ≤ 330) : v.toInt < 330 := by
  have := i_nle c; omega
theorem tl_in {t : Int32} (h0 : 0 ≤ t.toInt) (h : t.toInt ≤ 330) (c : ¬ t = (330 : Int32)) : vp_in t 330 := by
  have := ne_i (b := 330) c (by decide)
  exact vp_in_iff.mpr ⟨h0, by omega⟩
theorem ou_in {o : Int32} (h0 : 0 ≤ o.toInt) (h : o.toInt ≤ 15) : vp_in o 16 := vp_in_iff.mpr ⟨h0, by omega⟩
theorem sp_in {r : Int32} (c : 0 ≤ r) (h : r.toInt < 330) : vp_in r 330 := by
  have h0 : (0 : Int32).toInt = 0 := by decide
  have := i_le c
  exact vp_in_iff.mpr ⟨by omega, by omega⟩
theorem it_in {v n o b : Int32} {M : Nat} (h : 0 ≤ v.toInt) (c1 : ¬ n ≤ v) (c2 : ¬ b = 0) (t : b = 0 ∨ o.toInt ≤ 16 ∧ o = n) (hM : 16 ≤ M) : vp_in v M := by
  obtain ⟨h1, rfl⟩ := t.resolve_left c2
  have := i_nle c1
  exact vp_in_iff.mpr ⟨h, by omega⟩
theorem it_d {v n o b : Int32} {k : Nat} (h : 0 ≤ v.toInt) (c1 : ¬ n ≤ v) (c2 : ¬ b = 0) (t : b = 0 ∨ o.toInt ≤ 16 ∧ o = n) (hm : ((16 : Int) - v.toInt).toNat < k + 1) : ((16 : Int) - (v + (1 : Int32)).toInt).toNat < k := by
  obtain ⟨h1, rfl⟩ := t.resolve_left c2
  have := i_nle c1
  rw [ad1 (by omega)]; omega
theorem br_v {s : Int32} (h : 0 ≤ s.toInt) : (s - (1 : Int32)).toInt = s.toInt - 1 := by
  have h1 : (1 : Int32).toInt = 1 := by decide
  have := lt_max s
  rw [sb32 (by omega) (by omega), h1]
theorem br_in {s : Int32} (h : s.toInt ≤ 100) (c : ¬ s ≤ 0) : vp_in (s - (1 : Int32)) 100 := by
  have h0 : (0 : Int32).toInt = 0 := by decide
  have := i_nle c
  have e := br_v (s := s) (by omega)
  exact vp_in_iff.mpr ⟨by omega, by omega⟩
theorem br_1 {s r : Int32} (h : 0 ≤ s.toInt) (e : r = s ∨ r = s - (1 : Int32)) : r.toInt ≤ s.toInt := by
  rcases e with rfl | rfl
  · omega
  · rw [br_v h]; omega
theorem br_2 {s : Int32} (c : ¬ s ≤ 0) : 0 ≤ (s - (1 : Int32)).toInt := by
  have h0 : (0 : Int32).toInt = 0 := by decide
  have := i_nle c
  rw [br_v (by omega)]; omega
