theorem of_3 {n : Int32} (c : ¬ n < (3 : Int32)) : 3 ≤ n.toInt := by
  have h3 : (3 : Int32).toInt = 3 := by decide
  have := i_nlt c; omega
theorem sb2 {n : Int32} (h : 0 ≤ n.toInt) : (n - (2 : Int32)).toInt = n.toInt - 2 := by
  have h1 : (2 : Int32).toInt = 2 := by decide
  have := lt_max n
  rw [sb32 (by omega) (by omega), h1]
theorem of_2 {n : Int32} (c : ¬ n < (3 : Int32)) : 0 ≤ (n - (2 : Int32)).toInt := by
  have := of_3 c
  rw [sb2 (by omega)]; omega
theorem of_1 {n : Int32} (c : ¬ n < (3 : Int32)) : 0 ≤ (n - (1 : Int32)).toInt := by
  have := of_3 c
  rw [br_v (by omega)]; omega
theorem pf_big {a n : Int32} {P : Prop} (c : a = n) (h : 3 ≤ a.toInt) : 2 ≤ n.toInt ∧ (P ∨ 3 ≤ n.toInt) := by
  subst c; exact ⟨by omega, Or.inr h⟩
theorem pf_two {n : Int32} {t : Nat → Int32} (c : (0 : Int32) + (1 : Int32) + (1 : Int32) = n) (h : f_md_isOfficer (t ((0 : Int32) + (1 : Int32)).toNatClampNeg) (0 : Int32) = 0) : 2 ≤ n.toInt ∧ (f_md_isOfficer (t (n - (1 : Int32)).toNatClampNeg) (0 : Int32) = 0 ∨ 3 ≤ n.toInt) := by
  subst c
  exact ⟨by decide, Or.inl h⟩
theorem rk_no {t : Nat → Int32} {s a r : Int32} {Q : Prop} (w : f_md_isRank t s a = r ∧ Q) (c : ¬ r = 0) : f_md_isOfficer (t a.toNatClampNeg) (0 : Int32) = 0 := by
  have e := w.1
  unfold f_md_isRank bnd f_md_peek at e
  by_cases c1 : s ≤ a
  · rw [if_pos c1] at e
    exact absurd (e.symm.trans (by decide)) c
  · rw [if_neg c1] at e
    dsimp only at e
    by_cases c2 : t a.toNatClampNeg < (49 : Int32)
    · rw [if_pos c2] at e; exact absurd e.symm c
    · rw [if_neg c2] at e
      by_cases c3 : (56 : Int32) < t a.toNatClampNeg
      · rw [if_pos c3] at e; exact absurd e.symm c
      · have h49 : (49 : Int32).toInt = 49 := by decide
        have h56 : (56 : Int32).toInt = 56 := by decide
        have q1 := i_nlt c2
        have q2 := i_nlt c3
        generalize t a.toNatClampNeg = x at q1 q2
        have n1 : ¬ x = (81 : Int32) := fun e => by rw [e] at q2; revert q2; decide
        have n2 : ¬ x = (82 : Int32) := fun e => by rw [e] at q2; revert q2; decide
        have n3 : ¬ x = (66 : Int32) := fun e => by rw [e] at q2; revert q2; decide
        have n4 : ¬ x = (78 : Int32) := fun e => by rw [e] at q2; revert q2; decide
        unfold f_md_isOfficer
        rw [if_neg n1, if_neg n2, if_neg n3, if_neg n4, if_pos rfl]
theorem f3_5 {r : Int32} (c : r = (3 : Int32)) : r.toInt ≤ 5 := by rw [c]; decide
theorem f5_5 {r : Int32} (c : r = (5 : Int32)) : r.toInt ≤ 5 := by rw [c]; decide
theorem lk3 {t : Nat → Int32} {s fo r : Int32} {Q : Prop} (w : f_md_bare t s = r ∧ Q) (h : ¬ fo = 3 ∨ 3 ≤ (f_md_bare t s).toInt) (c : fo = (3 : Int32)) : 3 ≤ r.toInt := by
  rw [w.1] at h
  exact h.resolve_left (fun n => n c)
theorem f4 {fo : Int32} (c1 : ¬ fo < (3 : Int32)) (c2 : ¬ fo = (3 : Int32)) (h : fo.toInt ≤ 4) : fo = (4 : Int32) := by
  have h4 : (4 : Int32).toInt = 4 := by decide
  have := of_3 c1
  have := ne_i (b := 3) c2 (by decide)
  exact Int32.toInt_inj.mp (by omega)
theorem lk4 {t : Nat → Int32} {s fo r : Int32} {Q : Prop} (w : f_md_bare t s = r ∧ Q) (h : ¬ fo = 4 ∨ (2 ≤ (f_md_bare t s).toInt ∧ (f_md_isOfficer (t ((f_md_bare t s) - (1 : Int32)).toNatClampNeg) (0 : Int32) = 0 ∨ 3 ≤ (f_md_bare t s).toInt))) (c : fo = (4 : Int32)) : 2 ≤ r.toInt ∧ (f_md_isOfficer (t (r - (1 : Int32)).toNatClampNeg) (0 : Int32) = 0 ∨ 3 ≤ r.toInt) := by
  rw [w.1] at h
  exact h.resolve_left (fun n => n c)
theorem lk5 {x r : Int32} {P : Prop} {Q : Prop} (h : f_md_isOfficer x (0 : Int32) = 0 ∨ P) (w : f_md_isOfficer x (0 : Int32) = r ∧ Q) (c : ¬ r = 0) : P := h.resolve_left (fun e => c (w.1.symm.trans e))
theorem ix1 {r s : Int32} (h : 1 ≤ r.toInt) (h1 : r.toInt ≤ s.toInt) (hs : s.toInt ≤ 100) : vp_in (r - (1 : Int32)) 100 := by
  have e := br_v (s := r) (by omega)
  exact vp_in_iff.mpr ⟨by omega, by omega⟩
theorem ix2 {r s : Int32} (h : 2 ≤ r.toInt) (h1 : r.toInt ≤ s.toInt) (hs : s.toInt ≤ 100) : vp_in (r - (2 : Int32)) 100 := by
  have e := sb2 (n := r) (by omega)
  exact vp_in_iff.mpr ⟨by omega, by omega⟩
theorem ix3 {r s : Int32} (h : 3 ≤ r.toInt) (h1 : r.toInt ≤ s.toInt) (hs : s.toInt ≤ 100) : vp_in (r - (1 : Int32) - (2 : Int32)) 100 := by
  have e := br_v (s := r) (by omega)
  have e2 := sb2 (n := r - (1 : Int32)) (by omega)
  exact vp_in_iff.mpr ⟨by omega, by omega⟩
theorem ix4 {r s : Int32} (h : 3 ≤ r.toInt) (h1 : r.toInt ≤ s.toInt) (hs : s.toInt ≤ 100) : vp_in (r - (1 : Int32) - (1 : Int32)) 100 := by
  have e := br_v (s := r) (by omega)
  have e2 := br_v (s := r - (1 : Int32)) (by omega)
  exact vp_in_iff.mpr ⟨by omega, by omega⟩
theorem pu_in {s : Int32} (h : 0 ≤ s.toInt) (h1 : s.toInt ≤ 99) : vp_in s 100 := vp_in_iff.mpr ⟨h, by omega⟩
def un_ok (v : Int32) : Prop := v = 1 ∨ v = 10 ∨ v = 100 ∨ v = 1000
def un_m (v : Int32) : Nat := if v = 1 then 3 else if v = 10 then 2 else if v = 100 then 1 else 0
theorem un_nz {v : Int32} (h : un_ok v) : ¬ v = 0 := by
  rcases h with h | h | h | h <;> subst h <;> decide
theorem un_k {nb : Int32} (h0 : 0 ≤ nb.toInt) (h9 : nb.toInt ≤ 9999) : nb / (1000 : Int32) ≤ (9 : Int32) := by
  have h1 : (1000 : Int32).toInt = 1000 := by decide
  have h2 : (9 : Int32).toInt = 9 := by decide
  apply Int32.le_iff_toInt_le.mpr
  rw [lg_idiv_nonneg h0 (by omega), h1, h2]
  omega
theorem un_s {v nb : Int32} (h : un_ok v) (h0 : 0 ≤ nb.toInt) (h9 : nb.toInt ≤ 9999) (c : ¬ nb / v ≤ (9 : Int32)) : un_ok (v * (10 : Int32)) := by
  rcases h with h | h | h | h <;> subst h
  · exact Or.inr (Or.inl (by decide))
  · exact Or.inr (Or.inr (Or.inl (by decide)))
  · exact Or.inr (Or.inr (Or.inr (by decide)))
  · exact absurd (un_k h0 h9) c
theorem un_d {v nb : Int32} {n : Nat} (h : un_ok v) (h0 : 0 ≤ nb.toInt) (h9 : nb.toInt ≤ 9999) (c : ¬ nb / v ≤ (9 : Int32)) (hm : un_m v < n + 1) : un_m (v * (10 : Int32)) < n := by
  rcases h with h | h | h | h <;> subst h
  · have e1 : un_m (1 : Int32) = 3 := by decide
    have e2 : un_m ((1 : Int32) * (10 : Int32)) = 2 := by decide
    omega
  · have e1 : un_m (10 : Int32) = 2 := by decide
    have e2 : un_m ((10 : Int32) * (10 : Int32)) = 1 := by decide
    omega
  · have e1 : un_m (100 : Int32) = 1 := by decide
    have e2 : un_m ((100 : Int32) * (10 : Int32)) = 0 := by decide
    omega
  · exact absurd (un_k h0 h9) c
theorem un_au {v : Int32} (h : un_ok v) : au_ok v := by
  rcases h with h | h | h | h <;> subst h
  · exact Or.inr (Or.inr (Or.inr (Or.inl rfl)))
  · exact Or.inr (Or.inr (Or.inl rfl))
  · exact Or.inr (Or.inl rfl)
  · exact Or.inl rfl
theorem un_5 {v : Int32} (h : un_ok v) : au_m v < 5 := by
  rcases h with h | h | h | h <;> subst h <;> decide
theorem un_p {v : Int32} {a b : Int} (h : un_ok v) (p : a ≤ b) : a ≤ b + 4 - (au_m v : Int) := by
  have := un_5 h; omega
theorem au_p {v : Int32} {a b : Int} (h : au_ok v) (c : ¬ v ≤ 0) (p : a ≤ b + 4 - (au_m v : Int) + 1) : a ≤ b + 4 - (au_m (v / (10 : Int32)) : Int) := by
  rcases h with h | h | h | h | h <;> subst h
  · have e1 : au_m (1000 : Int32) = 4 := by decide
    have e2 : au_m ((1000 : Int32) / (10 : Int32)) = 3 := by decide
    omega
  · have e1 : au_m (100 : Int32) = 3 := by decide
    have e2 : au_m ((100 : Int32) / (10 : Int32)) = 2 := by decide
    omega
  · have e1 : au_m (10 : Int32) = 2 := by decide
    have e2 : au_m ((10 : Int32) / (10 : Int32)) = 1 := by decide
    omega
  · have e1 : au_m (1 : Int32) = 1 := by decide
    have e2 : au_m ((1 : Int32) / (10 : Int32)) = 0 := by decide
    omega
  · exact absurd (by decide) c
theorem au_e {v : Int32} {a b : Int} (p : a ≤ b + 4 - (au_m v : Int)) : a ≤ b + 4 := by omega
