theorem au_99 {v : Int32} {a b : Int} (h : au_ok v) (c : ¬ v ≤ 0) (p : a ≤ b + 4 - (au_m v : Int)) (h6 : b ≤ 96) : a ≤ 99 := by
  have q : 1 ≤ au_m v := by
    rcases h with h | h | h | h | h <;> subst h
    · decide
    · decide
    · decide
    · decide
    · exact absurd (by decide) c
  omega
theorem pr_in {r v : Int32} (h0 : 0 ≤ r.toInt) (h7 : r.toInt ≤ 7) (i0 : 0 ≤ v.toInt) (c : ¬ (8 : Int32) ≤ v) : vp_in ((8 : Int32) * r + v) 64 := by
  have h8 : (8 : Int32).toInt = 8 := by decide
  have := i_nle c
  have e := m8 h0 h7
  have e2 : ((8 : Int32) * r + v).toInt = 8 * r.toInt + v.toInt := by rw [ad32 (by omega) (by omega), e]
  exact vp_in_iff.mpr ⟨by omega, by omega⟩
theorem dc1 {x : Int32} (h : 0 ≤ x.toInt) : (x + (-1 : Int32)).toInt = x.toInt - 1 := by
  have h1 : (-1 : Int32).toInt = -1 := by decide
  have := lt_max x
  rw [ad32 (by omega) (by omega), h1]
  omega
