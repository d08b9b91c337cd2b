def al8 (a b : Nat) : Bool := decide (a ≠ b) && (decide (a % 8 = b % 8) || decide (a / 8 = b / 8) || decide (a % 8 + b / 8 = b % 8 + a / 8) || decide (a % 8 + a / 8 = b % 8 + b / 8))
def opn (f t : Int32) : Prop := ∃ a b : Nat, a < 64 ∧ b < 64 ∧ f = nI a ∧ t = nI b ∧ al8 a b = true
def opX (f t : Int32) : Int32 := if t - t / (8 : Int32) * (8 : Int32) ≤ f - f / (8 : Int32) * (8 : Int32) then (if f - f / (8 : Int32) * (8 : Int32) ≤ t - t / (8 : Int32) * (8 : Int32) then 0 else -1) else 1
def opY (f t : Int32) : Int32 := if t / (8 : Int32) ≤ f / (8 : Int32) then (if f / (8 : Int32) ≤ t / (8 : Int32) then 0 else -1) else 1
def opR (t d : Int32) : Nat → Int32 → Prop
  | 0, v => v = t
  | k + 1, v => vp_in v 64 ∧ ¬ v = t ∧ opR t d k (v + d)
def opB (t d : Int32) : Nat → Int32 → Bool
  | 0, _ => false
  | k + 1, v => decide (v = t) || (decide (0 ≤ v.toInt) && decide (v.toInt < 64) && opB t d k (v + d))
theorem opB_R {t d : Int32} : ∀ (n : Nat) (v : Int32), opB t d n v = true → ∃ k, k < n ∧ opR t d k v := by
  intro n
  induction n with
  | zero => intro v h; exact absurd h (by simp [opB])
  | succ n ih =>
    intro v h
    by_cases c : v = t
    · exact ⟨0, Nat.succ_pos n, c⟩
    · rw [opB, decide_eq_false c, Bool.false_or, Bool.and_eq_true, Bool.and_eq_true, decide_eq_true_eq, decide_eq_true_eq] at h
      obtain ⟨k, hk, hr⟩ := ih (v + d) h.2
      exact ⟨k + 1, Nat.succ_lt_succ hk, vp_in_iff.mpr ⟨h.1.1, h.1.2⟩, c, hr⟩
theorem op_all : ∀ a, a < 64 → ∀ b, b < 64 → al8 a b = true → opB (nI b) (opX (nI a) (nI b) + (8 : Int32) * opY (nI a) (nI b)) 9 (nI a + opX (nI a) (nI b) + (8 : Int32) * opY (nI a) (nI b)) = true := by decide +kernel
theorem op_e {f t dx dy : Int32} (h : opn f t) (hx : opX f t = dx) (hy : opY f t = dy) : ∃ k, k < 9 ∧ opR t (dx + (8 : Int32) * dy) k (f + dx + (8 : Int32) * dy) := by
  obtain ⟨a, b, ha, hb, rfl, rfl, hal⟩ := h
  subst hx; subst hy
  exact opB_R 9 _ (op_all a ha b hb hal)
theorem opr_s {t d v : Int32} {n : Nat} (w : ∃ k, k < n + 1 ∧ opR t d k v) (c : ¬ v = t) : ∃ k, k < n ∧ opR t d k (v + d) := by
  obtain ⟨k, hk, hr⟩ := w
  cases k with
  | zero => exact absurd hr c
  | succ k => exact ⟨k, Nat.lt_of_succ_lt_succ hk, hr.2.2⟩
theorem opr_p {t d v : Int32} {n : Nat} (w : ∃ k, k < n + 1 ∧ opR t d k v) (c : ¬ v = t) : 0 < n := by
  obtain ⟨k, hk, -⟩ := opr_s w c
  exact Nat.lt_of_le_of_lt (Nat.zero_le _) hk
theorem opr_i {t d v : Int32} {n : Nat} (w : ∃ k, k < n + 1 ∧ opR t d k v) (c : ¬ v = t) : vp_in v 64 := by
  obtain ⟨k, hk, hr⟩ := w
  cases k with
  | zero => exact absurd hr c
  | succ k => exact hr.1
def iab (x : Int32) : Int32 := if 0 ≤ x then x else -x
theorem at_all : ∀ a, a < 64 → ∀ b, b < 64 → ¬ a = b → (let p := iab (nI b - nI b / (8 : Int32) * (8 : Int32) - (nI a - nI a / (8 : Int32) * (8 : Int32))); let q := iab (nI b / (8 : Int32) - nI a / (8 : Int32)); p = q ∨ (p = 0 ∨ q = 0)) → al8 a b = true := by decide +kernel
theorem at_op {s sq f r p q : Int32} (i0 : 0 ≤ s.toInt) (j1 : ¬ (64 : Int32) ≤ s) (hq : 0 ≤ sq.toInt ∧ sq.toInt < 64) (d0 : ¬ s = sq) (f0 : f = sq - sq / (8 : Int32) * (8 : Int32)) (r0 : r = sq / (8 : Int32)) (a0 : p = iab (f - (s - s / (8 : Int32) * (8 : Int32)))) (b0 : q = iab (r - s / (8 : Int32))) (h : p = q ∨ (p = 0 ∨ q = 0)) : opn s sq := by
  obtain ⟨a, ha, rfl⟩ := vp_in_of (lp_in i0 j1 (M := 64) (by decide)) (by decide)
  obtain ⟨b, hb, rfl⟩ := vp_in_of (vp_in_iff.mpr hq : vp_in sq 64) (by decide)
  subst f0; subst r0; subst a0; subst b0
  exact ⟨a, b, ha, hb, rfl, rfl, at_all a ha b hb (fun e => d0 (by rw [e])) h⟩
theorem aq_in {x : Int32} (c1 : ¬ x < 0) (c2 : ¬ (63 : Int32) < x) : 0 ≤ x.toInt ∧ x.toInt < 64 := vp_in_iff.mp (in63 c1 c2)
