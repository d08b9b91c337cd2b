theorem pu_in1 : (-1 : Int32).toInt = -1 := by decide
theorem pu_in2 : (-2 : Int32).toInt = -2 := by decide
theorem pu_in3 : (-3 : Int32).toInt = -3 := by decide
theorem pu_in4 : (-4 : Int32).toInt = -4 := by decide
theorem pu_in8 : (-8 : Int32).toInt = -8 := by decide
theorem pu_ia (x y : Int32) : (x + y).toInt = if (x.toInt + y.toInt) % 4294967296 < 2147483648 then (x.toInt + y.toInt) % 4294967296 else (x.toInt + y.toInt) % 4294967296 - 4294967296 := by
  rw [Int32.toInt_add]; rfl
theorem pu_isb (x y : Int32) : (x - y).toInt = if (x.toInt - y.toInt) % 4294967296 < 2147483648 then (x.toInt - y.toInt) % 4294967296 else (x.toInt - y.toInt) % 4294967296 - 4294967296 := by
  rw [Int32.toInt_sub]; rfl
theorem pu_im (x y : Int32) : (x * y).toInt = if (x.toInt * y.toInt) % 4294967296 < 2147483648 then (x.toInt * y.toInt) % 4294967296 else (x.toInt * y.toInt) % 4294967296 - 4294967296 := by
  rw [Int32.toInt_mul]; rfl
theorem pu_tn (x : Int32) : x.toNatClampNeg = x.toInt.toNat := rfl
def pu_RL (L : LnT) (t : Nat → Int32) (n : Int32) : Prop := (L.2 = n) ∧ (0 ≤ n.toInt) ∧ (n.toInt ≤ 100) ∧ (∀ j : Nat, (j : Int) < n.toInt → L.1 j = t j) ∧ (∀ j : Nat, (j : Int) < n.toInt → 0 ≤ (t j).toInt ∧ (t j).toInt ≤ 126)
theorem pu_RL.sz {L : LnT} {t : Nat → Int32} {n : Int32} (h : pu_RL L t n) : L.2 = n := h.1
theorem pu_RL.lo {L : LnT} {t : Nat → Int32} {n : Int32} (h : pu_RL L t n) : 0 ≤ n.toInt := h.2.1
theorem pu_RL.hi {L : LnT} {t : Nat → Int32} {n : Int32} (h : pu_RL L t n) : n.toInt ≤ 100 := h.2.2.1
theorem pu_RL.eq {L : LnT} {t : Nat → Int32} {n : Int32} (h : pu_RL L t n) : ∀ j : Nat, (j : Int) < n.toInt → L.1 j = t j := h.2.2.2.1
theorem pu_RL.ch {L : LnT} {t : Nat → Int32} {n : Int32} (h : pu_RL L t n) : ∀ j : Nat, (j : Int) < n.toInt → 0 ≤ (t j).toInt ∧ (t j).toInt ≤ 126 := h.2.2.2.2
def pu_RB (p b : Nat → Int32) : Prop := (∀ j : Nat, j < 64 → p j = b j) ∧ (∀ j : Nat, j < 64 → 0 ≤ (b j).toInt ∧ (b j).toInt ≤ 12)
theorem pu_RB.eq {p b : Nat → Int32} (h : pu_RB p b) : ∀ j : Nat, j < 64 → p j = b j := h.1
theorem pu_RB.rg {p b : Nat → Int32} (h : pu_RB p b) : ∀ j : Nat, j < 64 → 0 ≤ (b j).toInt ∧ (b j).toInt ≤ 12 := h.2
def pu_RP (P : PsT) (b : Nat → Int32) (sd rt pa cl nu : Int32) : Prop := (pu_RB P.1 b) ∧ (P.2.1 = sd) ∧ (P.2.2.1 = rt) ∧ (P.2.2.2.1 = pa) ∧ (P.2.2.2.2.1 = cl) ∧ (P.2.2.2.2.2 = nu) ∧ (0 ≤ sd.toInt ∧ sd.toInt ≤ 1) ∧ (0 ≤ rt.toInt ∧ rt.toInt ≤ 15) ∧ (-1 ≤ pa.toInt ∧ pa.toInt ≤ 7) ∧ (0 ≤ cl.toInt ∧ cl.toInt ≤ 999) ∧ (1 ≤ nu.toInt ∧ nu.toInt ≤ 9999)
theorem pu_RP.bd {P : PsT} {b : Nat → Int32} {sd rt pa cl nu : Int32} (h : pu_RP P b sd rt pa cl nu) : pu_RB P.1 b := h.1
theorem pu_RP.esd {P : PsT} {b : Nat → Int32} {sd rt pa cl nu : Int32} (h : pu_RP P b sd rt pa cl nu) : P.2.1 = sd := h.2.1
theorem pu_RP.ert {P : PsT} {b : Nat → Int32} {sd rt pa cl nu : Int32} (h : pu_RP P b sd rt pa cl nu) : P.2.2.1 = rt := h.2.2.1
theorem pu_RP.epa {P : PsT} {b : Nat → Int32} {sd rt pa cl nu : Int32} (h : pu_RP P b sd rt pa cl nu) : P.2.2.2.1 = pa := h.2.2.2.1
theorem pu_RP.ecl {P : PsT} {b : Nat → Int32} {sd rt pa cl nu : Int32} (h : pu_RP P b sd rt pa cl nu) : P.2.2.2.2.1 = cl := h.2.2.2.2.1
theorem pu_RP.enu {P : PsT} {b : Nat → Int32} {sd rt pa cl nu : Int32} (h : pu_RP P b sd rt pa cl nu) : P.2.2.2.2.2 = nu := h.2.2.2.2.2.1
theorem pu_RP.sdr {P : PsT} {b : Nat → Int32} {sd rt pa cl nu : Int32} (h : pu_RP P b sd rt pa cl nu) : 0 ≤ sd.toInt ∧ sd.toInt ≤ 1 := h.2.2.2.2.2.2.1
theorem pu_RP.rtr {P : PsT} {b : Nat → Int32} {sd rt pa cl nu : Int32} (h : pu_RP P b sd rt pa cl nu) : 0 ≤ rt.toInt ∧ rt.toInt ≤ 15 := h.2.2.2.2.2.2.2.1
theorem pu_RP.par {P : PsT} {b : Nat → Int32} {sd rt pa cl nu : Int32} (h : pu_RP P b sd rt pa cl nu) : -1 ≤ pa.toInt ∧ pa.toInt ≤ 7 := h.2.2.2.2.2.2.2.2.1
theorem pu_RP.clr {P : PsT} {b : Nat → Int32} {sd rt pa cl nu : Int32} (h : pu_RP P b sd rt pa cl nu) : 0 ≤ cl.toInt ∧ cl.toInt ≤ 999 := h.2.2.2.2.2.2.2.2.2.1
theorem pu_RP.nur {P : PsT} {b : Nat → Int32} {sd rt pa cl nu : Int32} (h : pu_RP P b sd rt pa cl nu) : 1 ≤ nu.toInt ∧ nu.toInt ≤ 9999 := h.2.2.2.2.2.2.2.2.2.2
def pu_MvOk (b : Nat → Int32) (m : Int32) : Prop := (0 ≤ (f_gn_becomesOf m).toInt) ∧ (f_gn_becomesOf m ≠ 1) ∧ ((f_gn_becomesOf m).toInt ≤ 5) ∧ (f_gn_fromOf m ≠ f_gn_toOf m) ∧ (b (f_gn_fromOf m).toNatClampNeg ≠ 0) ∧ (f_gn_becomesOf m ≠ 0 → b (f_gn_fromOf m).toNatClampNeg = 1 ∨ b (f_gn_fromOf m).toNatClampNeg = 7)
theorem pu_MvOk.b0 {b : Nat → Int32} {m : Int32} (h : pu_MvOk b m) : 0 ≤ (f_gn_becomesOf m).toInt := h.1
theorem pu_MvOk.b1 {b : Nat → Int32} {m : Int32} (h : pu_MvOk b m) : f_gn_becomesOf m ≠ 1 := h.2.1
theorem pu_MvOk.b5 {b : Nat → Int32} {m : Int32} (h : pu_MvOk b m) : (f_gn_becomesOf m).toInt ≤ 5 := h.2.2.1
theorem pu_MvOk.ft {b : Nat → Int32} {m : Int32} (h : pu_MvOk b m) : f_gn_fromOf m ≠ f_gn_toOf m := h.2.2.2.1
theorem pu_MvOk.mn {b : Nat → Int32} {m : Int32} (h : pu_MvOk b m) : b (f_gn_fromOf m).toNatClampNeg ≠ 0 := h.2.2.2.2.1
theorem pu_MvOk.pw {b : Nat → Int32} {m : Int32} (h : pu_MvOk b m) : f_gn_becomesOf m ≠ 0 → b (f_gn_fromOf m).toNatClampNeg = 1 ∨ b (f_gn_fromOf m).toNatClampNeg = 7 := h.2.2.2.2.2
def pu_RT (T : TdT) (b mv sg : Nat → Int32) (tl : Int32) : Prop := (T.2.2 = tl) ∧ (0 ≤ tl.toInt) ∧ (tl.toInt ≤ 330) ∧ (∀ j : Nat, (j : Int) < tl.toInt → T.1 j = mv j) ∧ (∀ j : Nat, (j : Int) < tl.toInt → T.2.1 j = sg j) ∧ (∀ j : Nat, (j : Int) < tl.toInt → pu_MvOk b (mv j)) ∧ (∀ j : Nat, (j : Int) < tl.toInt → 0 ≤ (sg j).toInt ∧ (sg j).toInt ≤ 2) ∧ (∀ i j : Nat, (i : Int) < tl.toInt → (j : Int) < tl.toInt → mv i = mv j → i = j)
theorem pu_RT.ct {T : TdT} {b mv sg : Nat → Int32} {tl : Int32} (h : pu_RT T b mv sg tl) : T.2.2 = tl := h.1
theorem pu_RT.lo {T : TdT} {b mv sg : Nat → Int32} {tl : Int32} (h : pu_RT T b mv sg tl) : 0 ≤ tl.toInt := h.2.1
theorem pu_RT.hi {T : TdT} {b mv sg : Nat → Int32} {tl : Int32} (h : pu_RT T b mv sg tl) : tl.toInt ≤ 330 := h.2.2.1
theorem pu_RT.emv {T : TdT} {b mv sg : Nat → Int32} {tl : Int32} (h : pu_RT T b mv sg tl) : ∀ j : Nat, (j : Int) < tl.toInt → T.1 j = mv j := h.2.2.2.1
theorem pu_RT.esg {T : TdT} {b mv sg : Nat → Int32} {tl : Int32} (h : pu_RT T b mv sg tl) : ∀ j : Nat, (j : Int) < tl.toInt → T.2.1 j = sg j := h.2.2.2.2.1
theorem pu_RT.ok {T : TdT} {b mv sg : Nat → Int32} {tl : Int32} (h : pu_RT T b mv sg tl) : ∀ j : Nat, (j : Int) < tl.toInt → pu_MvOk b (mv j) := h.2.2.2.2.2.1
theorem pu_RT.sr {T : TdT} {b mv sg : Nat → Int32} {tl : Int32} (h : pu_RT T b mv sg tl) : ∀ j : Nat, (j : Int) < tl.toInt → 0 ≤ (sg j).toInt ∧ (sg j).toInt ≤ 2 := h.2.2.2.2.2.2.1
theorem pu_RT.ne {T : TdT} {b mv sg : Nat → Int32} {tl : Int32} (h : pu_RT T b mv sg tl) : ∀ i j : Nat, (i : Int) < tl.toInt → (j : Int) < tl.toInt → mv i = mv j → i = j := h.2.2.2.2.2.2.2
theorem pu_RL.zero {L : LnT} {t : Nat → Int32} {n : Int32} (_h : pu_RL L t n) (L' : Nat → Int32) (t' : Nat → Int32) : pu_RL (L', 0) t' 0 :=
  ⟨rfl, by decide, by decide, fun j h => absurd h (by simp), fun j h => absurd h (by simp)⟩
theorem pu_RT.zero {T : TdT} {b mv sg : Nat → Int32} {tl : Int32} (_h : pu_RT T b mv sg tl) (b' : Nat → Int32) : pu_RT (f_td_clear T) b' mv sg 0 := by
  have e : ∀ j : Nat, (j : Int) < (0 : Int32).toInt → False := fun j h => by simp at h; omega
  exact ⟨rfl, by decide, by decide, fun j h => (e j h).elim, fun j h => (e j h).elim, fun j h => (e j h).elim, fun j h => (e j h).elim, fun i j h => (e i h).elim⟩
theorem pu_p_wipe {ln tr : LnT} {rd : Int32} {td : TdT} {fm : FmT} {ps sp : PsT} {t : Nat → Int32} {n : Int32} (h : pu_RL ln t n) : pu_RL (f_gn_wipe ln tr rd td fm ps sp) t f_md_wipe.2 := h.zero _ _
theorem pu_p_forget {ln tr : LnT} {rd : Int32} {td : TdT} {fm : FmT} {ps sp : PsT} {b mv sg : Nat → Int32} {tl : Int32} (h : pu_RT td b mv sg tl) : pu_RT (f_gn_forget ln tr rd td fm ps sp) b mv sg f_md_forget.2 := h.zero _
theorem pu_p_look {ln tr : LnT} {rd : Int32} {td : TdT} {fm : FmT} {ps sp : PsT} {t b mv sg : Nat → Int32} {n sd rt pa cl nu tl wh : Int32} (h : pu_RL ln t n) (hp : pu_RP ps b sd rt pa cl nu) (ht : pu_RT td b mv sg tl) :
    f_gn_look wh ln tr rd td fm ps sp = (f_md_look sd rt pa cl nu n tl wh).1 := by
  have e1 := h.sz; have e2 := hp.esd; have e3 := hp.ert; have e4 := hp.epa; have e5 := hp.ecl; have e6 := hp.enu; have e7 := ht.ct
  unfold f_gn_look f_md_look f_ln_size f_td_count bnd; dsimp only
  rw [e1, e2, e3, e4, e5, e6, e7]
  repeat' split
  all_goals rfl
theorem pu_p_text {ln tr : LnT} {rd : Int32} {td : TdT} {fm : FmT} {ps sp : PsT} {t : Nat → Int32} {n ix : Int32} (h : pu_RL ln t n) :
    f_gn_text ix ln tr rd td fm ps sp = (f_md_text t n ix).1 := by
  unfold f_gn_text f_md_text f_ln_size f_ln_letter bnd; dsimp only
  rw [h.sz]
  by_cases c1 : ix < 0
  · simp only [if_pos c1]
  · simp only [if_neg c1]
    by_cases c2 : ix < n
    · have c3 : ¬ n ≤ ix := by (simp only [Int32.lt_iff_toInt_lt, Int32.le_iff_toInt_le, ← Int32.toInt_inj, pu_ia, pu_isb, pu_im, pu_tn, pu_in1, pu_in2, pu_in3, pu_in4, pu_in8, Int32.reduceToInt, Int.reduceNeg, ne_eq] at *; omega)
      simp only [if_pos c2, if_neg c3]
      exact h.eq _ (by (simp only [Int32.lt_iff_toInt_lt, Int32.le_iff_toInt_le, ← Int32.toInt_inj, pu_ia, pu_isb, pu_im, pu_tn, pu_in1, pu_in2, pu_in3, pu_in4, pu_in8, Int32.reduceToInt, Int.reduceNeg, ne_eq] at *; omega))
    · have c3 : n ≤ ix := by (simp only [Int32.lt_iff_toInt_lt, Int32.le_iff_toInt_le, ← Int32.toInt_inj, pu_ia, pu_isb, pu_im, pu_tn, pu_in1, pu_in2, pu_in3, pu_in4, pu_in8, Int32.reduceToInt, Int.reduceNeg, ne_eq] at *; omega)
      simp only [if_neg c2, if_pos c3]
theorem pu_isq0 {sq : Int32} (h : sq < 0 ∨ 63 < sq) : f_gn_isSquare sq = 0 := by
  unfold f_gn_isSquare
  rcases h with h | h
  · rw [if_pos h]
  · rw [if_neg (by (simp only [Int32.lt_iff_toInt_lt, Int32.le_iff_toInt_le, ← Int32.toInt_inj, pu_ia, pu_isb, pu_im, pu_tn, pu_in1, pu_in2, pu_in3, pu_in4, pu_in8, Int32.reduceToInt, Int.reduceNeg, ne_eq] at *; omega)), if_pos (by (simp only [Int32.lt_iff_toInt_lt, Int32.le_iff_toInt_le, ← Int32.toInt_inj, pu_ia, pu_isb, pu_im, pu_tn, pu_in1, pu_in2, pu_in3, pu_in4, pu_in8, Int32.reduceToInt, Int.reduceNeg, ne_eq] at *; omega))]
theorem pu_isq1 {sq : Int32} (h : ¬ sq < 0) (h2 : ¬ 63 < sq) : f_gn_isSquare sq = 1 := by
  unfold f_gn_isSquare
  rw [if_neg h, if_neg (by (simp only [Int32.lt_iff_toInt_lt, Int32.le_iff_toInt_le, ← Int32.toInt_inj, pu_ia, pu_isb, pu_im, pu_tn, pu_in1, pu_in2, pu_in3, pu_in4, pu_in8, Int32.reduceToInt, Int.reduceNeg, ne_eq] at *; omega))]
theorem pu_p_at {ln tr : LnT} {rd : Int32} {td : TdT} {fm : FmT} {ps sp : PsT} {b : Nat → Int32} {sd rt pa cl nu sq : Int32} (h : pu_RP ps b sd rt pa cl nu) :
    f_gn_at sq ln tr rd td fm ps sp = (f_md_at b sq).1 := by
  unfold f_gn_at f_md_at f_ps_manOn bnd; dsimp only
  by_cases c1 : sq < 0
  · rw [if_pos c1, if_pos c1]
  · rw [if_neg c1, if_neg c1]
    by_cases c2 : sq ≤ 63
    · rw [if_pos c2, if_neg (by (simp only [Int32.lt_iff_toInt_lt, Int32.le_iff_toInt_le, ← Int32.toInt_inj, pu_ia, pu_isb, pu_im, pu_tn, pu_in1, pu_in2, pu_in3, pu_in4, pu_in8, Int32.reduceToInt, Int.reduceNeg, ne_eq] at *; omega))]
      exact h.bd.eq _ (by (simp only [Int32.lt_iff_toInt_lt, Int32.le_iff_toInt_le, ← Int32.toInt_inj, pu_ia, pu_isb, pu_im, pu_tn, pu_in1, pu_in2, pu_in3, pu_in4, pu_in8, Int32.reduceToInt, Int.reduceNeg, ne_eq] at *; omega))
    · rw [if_neg c2, if_pos (by (simp only [Int32.lt_iff_toInt_lt, Int32.le_iff_toInt_le, ← Int32.toInt_inj, pu_ia, pu_isb, pu_im, pu_tn, pu_in1, pu_in2, pu_in3, pu_in4, pu_in8, Int32.reduceToInt, Int.reduceNeg, ne_eq] at *; omega))]
theorem pu_p_put {ln tr : LnT} {rd : Int32} {td : TdT} {fm : FmT} {ps sp : PsT} {b mv sg : Nat → Int32} {sd rt pa cl nu tl sq mn : Int32} (h : pu_RP ps b sd rt pa cl nu) (ht : pu_RT td b mv sg tl)
    {r r' th tl' : Int32} {td' : TdT} {ps' : PsT} {b' : Nat → Int32} (e : f_gn_put sq mn ln tr rd td fm ps sp = (r, td', ps')) (e' : f_md_put b tl sq mn = (r', th, b', tl')) :
    r = r' ∧ pu_RP ps' b' sd rt pa cl nu ∧ pu_RT td' b' mv sg tl' := by
  unfold f_gn_put f_ps_place bnd at e; dsimp only at e
  unfold f_md_put at e'
  by_cases c1 : sq < 0
  · rw [if_pos c1] at e'; rw [if_pos (pu_isq0 (.inl c1))] at e
    cases e; cases e'; exact ⟨rfl, h, ht⟩
  · rw [if_neg c1] at e'
    by_cases c2 : 63 < sq
    · rw [if_pos c2] at e'; rw [if_pos (pu_isq0 (.inr c2))] at e
      cases e; cases e'; exact ⟨rfl, h, ht⟩
    · have c3 : ¬ f_gn_isSquare sq = 0 := by rw [pu_isq1 c1 c2]; decide
      rw [if_neg c2] at e'; rw [if_neg c3] at e
      by_cases c4 : mn < 0
      · rw [if_pos c4] at e e'
        cases e; cases e'; exact ⟨rfl, h, ht⟩
      · rw [if_neg c4] at e e'
        by_cases c5 : mn ≤ 12
        · rw [if_pos c5] at e e'
          rw [if_neg c3] at e
          cases e; cases e'
          refine ⟨rfl, ⟨⟨fun j hj => ?_, fun j hj => ?_⟩, h.esd, h.ert, h.epa, h.ecl, h.enu, h.sdr, h.rtr, h.par, h.clr, h.nur⟩, ht.zero _⟩
          · unfold upd; (try dsimp only); split
            · rfl
            · exact h.bd.eq j hj
          · unfold upd; (try dsimp only); split
            · (simp only [Int32.lt_iff_toInt_lt, Int32.le_iff_toInt_le, ← Int32.toInt_inj, pu_ia, pu_isb, pu_im, pu_tn, pu_in1, pu_in2, pu_in3, pu_in4, pu_in8, Int32.reduceToInt, Int.reduceNeg, ne_eq] at *; omega)
            · exact h.bd.rg j hj
        · rw [if_neg c5] at e e'
          cases e; cases e'; exact ⟨rfl, h, ht⟩
theorem pu_p_state {ln tr : LnT} {rd : Int32} {td : TdT} {fm : FmT} {ps sp : PsT} {b : Nat → Int32} {sd rt pa cl nu a1 a2 a3 a4 a5 : Int32} (h : pu_RP ps b sd rt pa cl nu)
    {r r' th sd' rt' pa' cl' nu' : Int32} {ps' : PsT} (e : f_gn_state a1 a2 a3 a4 a5 ln tr rd td fm ps sp = (r, ps')) (e' : f_md_state sd rt pa cl nu a1 a2 a3 a4 a5 = (r', th, sd', rt', pa', cl', nu')) :
    r = r' ∧ pu_RP ps' b sd' rt' pa' cl' nu' := by
  unfold f_gn_state f_gn_isSide bnd at e; dsimp only at e
  unfold f_md_state at e'
  have no : ∀ {x : Int32 × PsT} {y : Int32 × Int32 × Int32 × Int32 × Int32 × Int32 × Int32}, x = (0, ps) → y = (0, 0, sd, rt, pa, cl, nu) → x = (r, ps') → y = (r', th, sd', rt', pa', cl', nu') → r = r' ∧ pu_RP ps' b sd' rt' pa' cl' nu' := by
    intro x y h1 h2 h3 h4
    rw [h1] at h3; rw [h2] at h4; cases h3; cases h4; exact ⟨rfl, h⟩
  by_cases c1 : a1 = 0 ∨ a1 = 1
  · have q1 : ¬ a1 < 0 := by rcases c1 with rfl | rfl <;> decide
    have q2 : ¬ (2 : Int32) ≤ a1 := by rcases c1 with rfl | rfl <;> decide
    have q3 : ¬ (if a1 = 0 then (1 : Int32) else if a1 = 1 then 1 else 0) = 0 := by rcases c1 with rfl | rfl <;> decide
    rw [if_neg q1, if_neg q2] at e'; rw [if_neg q3] at e
    by_cases c2 : a2 < 0
    · exact no (if_pos c2) (if_pos c2) e e'
    rw [if_neg c2] at e e'
    by_cases c3 : a2 ≤ 15
    · rw [if_pos c3] at e; rw [if_neg (by (simp only [Int32.lt_iff_toInt_lt, Int32.le_iff_toInt_le, ← Int32.toInt_inj, pu_ia, pu_isb, pu_im, pu_tn, pu_in1, pu_in2, pu_in3, pu_in4, pu_in8, Int32.reduceToInt, Int.reduceNeg, ne_eq] at *; omega))] at e'
      by_cases c4 : a3 < -1
      · exact no (by rw [if_neg (by (simp only [Int32.lt_iff_toInt_lt, Int32.le_iff_toInt_le, ← Int32.toInt_inj, pu_ia, pu_isb, pu_im, pu_tn, pu_in1, pu_in2, pu_in3, pu_in4, pu_in8, Int32.reduceToInt, Int.reduceNeg, ne_eq] at *; omega)), if_pos (by (simp only [Int32.lt_iff_toInt_lt, Int32.le_iff_toInt_le, ← Int32.toInt_inj, pu_ia, pu_isb, pu_im, pu_tn, pu_in1, pu_in2, pu_in3, pu_in4, pu_in8, Int32.reduceToInt, Int.reduceNeg, ne_eq] at *; omega))]) (if_pos c4) e e'
      rw [if_neg c4] at e'
      by_cases c5 : (8 : Int32) ≤ a3
      · exact no (by rw [if_neg (by (simp only [Int32.lt_iff_toInt_lt, Int32.le_iff_toInt_le, ← Int32.toInt_inj, pu_ia, pu_isb, pu_im, pu_tn, pu_in1, pu_in2, pu_in3, pu_in4, pu_in8, Int32.reduceToInt, Int.reduceNeg, ne_eq] at *; omega)), if_neg (by (simp only [Int32.lt_iff_toInt_lt, Int32.le_iff_toInt_le, ← Int32.toInt_inj, pu_ia, pu_isb, pu_im, pu_tn, pu_in1, pu_in2, pu_in3, pu_in4, pu_in8, Int32.reduceToInt, Int.reduceNeg, ne_eq] at *; omega)), if_neg (by (simp only [Int32.lt_iff_toInt_lt, Int32.le_iff_toInt_le, ← Int32.toInt_inj, pu_ia, pu_isb, pu_im, pu_tn, pu_in1, pu_in2, pu_in3, pu_in4, pu_in8, Int32.reduceToInt, Int.reduceNeg, ne_eq] at *; omega))]) (if_pos c5) e e'
      rw [if_neg c5] at e'
      have yes : (if a4 < 0 then ((0 : Int32), ps) else (if (999 : Int32) < a4 then ((0 : Int32), ps) else (if a5 < (1 : Int32) then ((0 : Int32), ps) else (if a5 ≤ (9999 : Int32) then ((1 : Int32), (ps.1, a1, a2, a3, a4, a5)) else ((0 : Int32), ps))))) = (r, ps') := by
        by_cases c6 : a3 = -1
        · rw [if_pos c6] at e; exact e
        · rw [if_neg c6, if_neg (by (simp only [Int32.lt_iff_toInt_lt, Int32.le_iff_toInt_le, ← Int32.toInt_inj, pu_ia, pu_isb, pu_im, pu_tn, pu_in1, pu_in2, pu_in3, pu_in4, pu_in8, Int32.reduceToInt, Int.reduceNeg, ne_eq] at *; omega)), if_pos (by (simp only [Int32.lt_iff_toInt_lt, Int32.le_iff_toInt_le, ← Int32.toInt_inj, pu_ia, pu_isb, pu_im, pu_tn, pu_in1, pu_in2, pu_in3, pu_in4, pu_in8, Int32.reduceToInt, Int.reduceNeg, ne_eq] at *; omega))] at e; exact e
      clear e
      by_cases c7 : a4 < 0
      · exact no (if_pos c7) (if_pos c7) yes e'
      rw [if_neg c7] at yes e'
      by_cases c8 : 999 < a4
      · exact no (if_pos c8) (if_pos c8) yes e'
      rw [if_neg c8] at yes e'
      by_cases c9 : a5 < 1
      · exact no (if_pos c9) (if_pos c9) yes e'
      rw [if_neg c9] at yes e'
      by_cases c10 : a5 ≤ 9999
      · rw [if_pos c10] at yes e'
        cases yes; cases e'
        refine ⟨rfl, ⟨h.bd, rfl, rfl, rfl, rfl, rfl, ?_, ?_, ?_, ?_, ?_⟩⟩ <;> clear no <;> (simp only [Int32.lt_iff_toInt_lt, Int32.le_iff_toInt_le, ← Int32.toInt_inj, pu_ia, pu_isb, pu_im, pu_tn, pu_in1, pu_in2, pu_in3, pu_in4, pu_in8, Int32.reduceToInt, Int.reduceNeg, ne_eq] at *; omega)
      · exact no (if_neg c10) (if_neg c10) yes e'
    · exact no (if_neg c3) (by rw [if_pos (by (simp only [Int32.lt_iff_toInt_lt, Int32.le_iff_toInt_le, ← Int32.toInt_inj, pu_ia, pu_isb, pu_im, pu_tn, pu_in1, pu_in2, pu_in3, pu_in4, pu_in8, Int32.reduceToInt, Int.reduceNeg, ne_eq] at *; omega))]) e e'
  · have q3 : (if a1 = 0 then (1 : Int32) else if a1 = 1 then 1 else 0) = 0 := by rw [if_neg fun q => c1 (.inl q), if_neg fun q => c1 (.inr q)]
    refine no (if_pos q3) ?_ e e'
    by_cases q1 : a1 < 0
    · exact if_pos q1
    · rw [if_neg q1, if_pos]
      have : a1 ≠ 0 := fun q => c1 (.inl q)
      have : a1 ≠ 1 := fun q => c1 (.inr q)
      clear e e' q3 no h
      (simp only [Int32.lt_iff_toInt_lt, Int32.le_iff_toInt_le, ← Int32.toInt_inj, pu_ia, pu_isb, pu_im, pu_tn, pu_in1, pu_in2, pu_in3, pu_in4, pu_in8, Int32.reduceToInt, Int.reduceNeg, ne_eq] at *; omega)
theorem pu_of_rg {x : Int32} {N : Nat} (h0 : 0 ≤ x.toInt) (h1 : x.toInt < N) : ∃ k, k < N ∧ x = Int32.ofNat k := by
  refine ⟨x.toInt.toNat, by omega, ?_⟩
  have hx := Int32.toInt_lt x
  apply Int32.toInt_inj.mp
  rw [Int32.toInt_ofNat_of_lt (by omega)]
  omega
theorem pu_all_rg {P : Int32 → Prop} (N : Nat) (h : ∀ k : Nat, k < N → P (Int32.ofNat k)) {x : Int32} (h0 : 0 ≤ x.toInt) (h1 : x.toInt < N) : P x := by
  obtain ⟨k, hk, rfl⟩ := pu_of_rg h0 h1
  exact h k hk
theorem pu_low16 (c : Int32) (h0 : 0 ≤ c.toInt) (h1 : c.toInt ≤ 65535) : (c.toUInt32 % 65536).toInt32 = c := by
  have e : c.toUInt32.toNat = c.toInt.toNat := by
    have h2 : c.toInt = c.toUInt32.toBitVec.toInt := rfl
    have h3 := c.toUInt32.toBitVec.isLt
    rw [h2, BitVec.toInt_eq_toNat_cond]
    show c.toUInt32.toBitVec.toNat = _
    rw [h2, BitVec.toInt_eq_toNat_cond] at h0
    split at h0
    · rw [if_pos (by assumption)]; omega
    · omega
  have e2 : c.toUInt32 % 65536 = c.toUInt32 := by
    apply UInt32.toNat_inj.mp
    rw [UInt32.toNat_mod, e]
    show _ % 65536 = _
    omega
  rw [e2, Int32.toInt32_toUInt32]
theorem pu_vpn (c : Int32) (h0 : 0 ≤ c.toInt) (h1 : c.toInt ≤ 65535) : vp_nar .char c = c := by
  have h := pu_low16 c h0 h1
  rw [vp_nar_char, UInt32.toUInt32_toUInt16]
  exact h
theorem pu_dv {x y : Int32} (h0 : 0 ≤ x.toInt) (h1 : 0 < y.toInt) : (x / y).toInt = x.toInt / y.toInt := by
  rw [Int32.toInt_div, Int.tdiv_eq_ediv_of_nonneg h0]
  have h3 := Int32.toInt_lt x
  have h4 : x.toInt / y.toInt ≤ x.toInt := Int.ediv_le_self _ h0
  have h5 : 0 ≤ x.toInt / y.toInt := Int.ediv_nonneg h0 (by omega)
  exact Int.bmod_eq_of_le (by omega) (by omega)
def pu_RB1 (L : LnT) (t : Nat → Int32) (n : Int32) (B : Int) : Prop := (pu_RL L t n) ∧ (n.toInt ≤ B)
theorem pu_RB1.r {L : LnT} {t : Nat → Int32} {n : Int32} {B : Int} (h : pu_RB1 L t n B) : pu_RL L t n := h.1
theorem pu_RB1.b {L : LnT} {t : Nat → Int32} {n : Int32} {B : Int} (h : pu_RB1 L t n B) : n.toInt ≤ B := h.2
theorem pu_RB1.mono {L : LnT} {t : Nat → Int32} {n : Int32} {B C : Int} (h : pu_RB1 L t n B) (hBC : B ≤ C) : pu_RB1 L t n C := ⟨h.r, Int.le_trans h.b hBC⟩
theorem pu_RB1.add {L : LnT} {t : Nat → Int32} {n c : Int32} {B : Int} (h : pu_RB1 L t n B) (hB : B < 100) (h0 : 0 ≤ c.toInt) (h1 : c.toInt ≤ 126) : pu_RB1 (f_ln_add L c) (upd t n.toNatClampNeg c) (n + 1) (B + 1) := by
  have hs := h.r.sz; have hl := h.r.lo; have hb := h.b
  have e : f_ln_add L c = (upd L.1 n.toNatClampNeg c, n + 1) := by
    unfold f_ln_add
    rw [hs, if_neg (by (simp only [Int32.lt_iff_toInt_lt, Int32.le_iff_toInt_le, ← Int32.toInt_inj, pu_ia, pu_isb, pu_im, pu_tn, pu_in1, pu_in2, pu_in3, pu_in4, pu_in8, Int32.reduceToInt, Int.reduceNeg, ne_eq] at *; omega)), pu_vpn c h0 (by omega)]
  have e1 : (n + 1).toInt = n.toInt + 1 := by clear e; (simp only [Int32.lt_iff_toInt_lt, Int32.le_iff_toInt_le, ← Int32.toInt_inj, pu_ia, pu_isb, pu_im, pu_tn, pu_in1, pu_in2, pu_in3, pu_in4, pu_in8, Int32.reduceToInt, Int.reduceNeg, ne_eq] at *; omega)
  rw [e]
  refine ⟨⟨rfl, by omega, by omega, fun j hj => ?_, fun j hj => ?_⟩, by omega⟩
  · unfold upd; dsimp only; split
    · rfl
    · rename_i q; exact h.r.eq j (by rw [pu_tn] at q; omega)
  · unfold upd; split
    · exact ⟨h0, h1⟩
    · rename_i q; exact h.r.ch j (by rw [pu_tn] at q; omega)
theorem pu_RB1.put {L : LnT} {t : Nat → Int32} {n c : Int32} {B : Int} (h : pu_RB1 L t n B) (hB : B < 100) (h0 : 0 ≤ c.toInt) (h1 : c.toInt ≤ 126) : pu_RB1 (f_ln_add L c) (f_md_put1 t n c).1 (f_md_put1 t n c).2 (B + 1) := h.add hB h0 h1
def pu_dig (nb v : Int32) : Int32 := 48 + ((nb / v) - (nb / v) / 10 * 10)
theorem pu_dig_rg {nb v : Int32} (h0 : 0 ≤ nb.toInt) (h1 : 0 < v.toInt) : 48 ≤ (pu_dig nb v).toInt ∧ (pu_dig nb v).toInt ≤ 57 := by
  have e := pu_dv h0 h1
  have e0 : 0 ≤ nb.toInt / v.toInt := Int.ediv_nonneg h0 (by omega)
  have h5 := Int32.toInt_lt (nb / v)
  have e2 : (nb / v / 10).toInt = (nb.toInt / v.toInt) / 10 := by
    rw [pu_dv (by rw [e]; exact e0) (by decide), e]; rfl
  unfold pu_dig
  generalize nb / v = q at *
  generalize q / 10 = w at *
  rw [← e] at e0 e2
  clear e
  (simp only [Int32.lt_iff_toInt_lt, Int32.le_iff_toInt_le, ← Int32.toInt_inj, pu_ia, pu_isb, pu_im, pu_tn, pu_in1, pu_in2, pu_in3, pu_in4, pu_in8, Int32.reduceToInt, Int.reduceNeg, ne_eq] at *; omega)
theorem pu_dig_c {nb v : Int32} (h0 : 0 ≤ nb.toInt) (h1 : 0 < v.toInt) : (((48 : Int32) + ((nb / v) - (nb / v) / (10 : Int32) * (10 : Int32))).toUInt32 % 65536).toInt32 = pu_dig nb v := by
  have := pu_dig_rg h0 h1
  exact pu_low16 (pu_dig nb v) (by omega) (by omega)
theorem pu_u1000 : (1000 : Int32) / 10 = 100 := by decide
theorem pu_u100 : (100 : Int32) / 10 = 10 := by decide
theorem pu_u10 : (10 : Int32) / 10 = 1 := by decide
theorem pu_u1 : (1 : Int32) / 10 = 0 := by decide
theorem pu_addNum_step {nb v : Int32} {n : Nat} {L : LnT} (h0 : 0 ≤ nb.toInt) (h1 : 0 < v.toInt) : f_ln_addNumber_L4 nb (n + 1) v L = if v ≤ nb ∨ v = 1 then f_ln_addNumber_L4 nb n (v / 10) (f_ln_add L (pu_dig nb v)) else f_ln_addNumber_L4 nb n (v / 10) L := by
  rw [f_ln_addNumber_L4, if_neg (by (simp only [Int32.lt_iff_toInt_lt, Int32.le_iff_toInt_le, ← Int32.toInt_inj, pu_ia, pu_isb, pu_im, pu_tn, pu_in1, pu_in2, pu_in3, pu_in4, pu_in8, Int32.reduceToInt, Int.reduceNeg, ne_eq] at *; omega)), pu_dig_c h0 h1]
  unfold bnd
  by_cases c : v ≤ nb
  · rw [if_pos c, if_pos (.inl c)]
  · rw [if_neg c]
    by_cases c2 : v = 1
    · rw [if_pos c2, if_pos (.inr c2)]
    · rw [if_neg c2, if_neg (by rintro (q | q); exact c q; exact c2 q)]
theorem pu_addNum_end {nb : Int32} {n : Nat} {L : LnT} : f_ln_addNumber_L4 nb (n + 1) 0 L = L := by
  rw [f_ln_addNumber_L4, if_pos (by decide)]
theorem pu_addNum_eq {nb : Int32} {L : LnT} (h0 : 0 ≤ nb.toInt) : f_ln_addNumber L nb =
    (if nb.toInt < 10 then f_ln_add L (pu_dig nb 1) else if nb.toInt < 100 then f_ln_add (f_ln_add L (pu_dig nb 10)) (pu_dig nb 1)
     else if nb.toInt < 1000 then f_ln_add (f_ln_add (f_ln_add L (pu_dig nb 100)) (pu_dig nb 10)) (pu_dig nb 1)
     else f_ln_add (f_ln_add (f_ln_add (f_ln_add L (pu_dig nb 1000)) (pu_dig nb 100)) (pu_dig nb 10)) (pu_dig nb 1)) := by
  unfold f_ln_addNumber
  have f1 : ∀ (k : Nat) (L : LnT), f_ln_addNumber_L4 nb (k + 2) 1 L = f_ln_add L (pu_dig nb 1) := by
    intro k L
    rw [pu_addNum_step h0 (by decide), pu_u1, if_pos (.inr rfl), pu_addNum_end]
  have f2 : ∀ (k : Nat) (L : LnT), f_ln_addNumber_L4 nb (k + 3) 10 L = if nb.toInt < 10 then f_ln_add L (pu_dig nb 1) else f_ln_add (f_ln_add L (pu_dig nb 10)) (pu_dig nb 1) := by
    intro k L
    rw [pu_addNum_step h0 (by decide), pu_u10]
    by_cases c : nb.toInt < 10
    · rw [if_pos c, if_neg (by rintro (q | q); (clear f1; (simp only [Int32.lt_iff_toInt_lt, Int32.le_iff_toInt_le, ← Int32.toInt_inj, pu_ia, pu_isb, pu_im, pu_tn, pu_in1, pu_in2, pu_in3, pu_in4, pu_in8, Int32.reduceToInt, Int.reduceNeg, ne_eq] at *; omega)); revert q; decide), f1]
    · rw [if_neg c, if_pos (.inl (by clear f1; (simp only [Int32.lt_iff_toInt_lt, Int32.le_iff_toInt_le, ← Int32.toInt_inj, pu_ia, pu_isb, pu_im, pu_tn, pu_in1, pu_in2, pu_in3, pu_in4, pu_in8, Int32.reduceToInt, Int.reduceNeg, ne_eq] at *; omega))), f1]
  have f3 : ∀ (k : Nat) (L : LnT), f_ln_addNumber_L4 nb (k + 4) 100 L = if nb.toInt < 100 then f_ln_addNumber_L4 nb (k + 3) 10 L else f_ln_addNumber_L4 nb (k + 3) 10 (f_ln_add L (pu_dig nb 100)) := by
    intro k L
    rw [pu_addNum_step h0 (by decide), pu_u100]
    by_cases c : nb.toInt < 100
    · rw [if_pos c, if_neg (by rintro (q | q); (clear f1 f2; (simp only [Int32.lt_iff_toInt_lt, Int32.le_iff_toInt_le, ← Int32.toInt_inj, pu_ia, pu_isb, pu_im, pu_tn, pu_in1, pu_in2, pu_in3, pu_in4, pu_in8, Int32.reduceToInt, Int.reduceNeg, ne_eq] at *; omega)); revert q; decide)]
    · rw [if_neg c, if_pos (.inl (by clear f1 f2; (simp only [Int32.lt_iff_toInt_lt, Int32.le_iff_toInt_le, ← Int32.toInt_inj, pu_ia, pu_isb, pu_im, pu_tn, pu_in1, pu_in2, pu_in3, pu_in4, pu_in8, Int32.reduceToInt, Int.reduceNeg, ne_eq] at *; omega)))]
  have k0 : ((1000 : Int32) ≤ nb ∨ (1000 : Int32) = 1) ↔ ¬ nb.toInt < 1000 := by
    constructor
    · rintro (q | q)
      · clear f1 f2 f3; (simp only [Int32.lt_iff_toInt_lt, Int32.le_iff_toInt_le, ← Int32.toInt_inj, pu_ia, pu_isb, pu_im, pu_tn, pu_in1, pu_in2, pu_in3, pu_in4, pu_in8, Int32.reduceToInt, Int.reduceNeg, ne_eq] at *; omega)
      · exact absurd q (by decide)
    · intro q; exact .inl (by clear f1 f2 f3; (simp only [Int32.lt_iff_toInt_lt, Int32.le_iff_toInt_le, ← Int32.toInt_inj, pu_ia, pu_isb, pu_im, pu_tn, pu_in1, pu_in2, pu_in3, pu_in4, pu_in8, Int32.reduceToInt, Int.reduceNeg, ne_eq] at *; omega))
  rw [pu_addNum_step h0 (by decide), pu_u1000, f3 0, f3 0, f2 0, f2 0, f2 0, f2 0]
  simp only [k0]
  by_cases c1 : nb.toInt < 10
  · have c2 : nb.toInt < 100 := by omega
    have c3 : nb.toInt < 1000 := by omega
    simp only [c1, c2, c3, not_true, if_true, if_false]
  by_cases c2 : nb.toInt < 100
  · have c3 : nb.toInt < 1000 := by omega
    simp only [c1, c2, c3, not_true, if_true, if_false]
  by_cases c3 : nb.toInt < 1000
  · simp only [c1, c2, c3, not_true, if_true, if_false]
  · simp only [c1, c2, c3, not_false_eq_true, if_true, if_false]
theorem pu_putNum_step {nb v2 v : Int32} {k : Nat} {t : Nat → Int32} {n : Int32} (h1 : 0 < v.toInt) : f_md_putNumber_L20 nb (k + 1) v2 v t n = f_md_putNumber_L20 nb k v2 (v / 10) (f_md_put1 t n (pu_dig nb v)).1 (f_md_put1 t n (pu_dig nb v)).2 := by
  rw [f_md_putNumber_L20, if_neg (by (simp only [Int32.lt_iff_toInt_lt, Int32.le_iff_toInt_le, ← Int32.toInt_inj, pu_ia, pu_isb, pu_im, pu_tn, pu_in1, pu_in2, pu_in3, pu_in4, pu_in8, Int32.reduceToInt, Int.reduceNeg, ne_eq] at *; omega))]; rfl
theorem pu_putNum_end {nb v2 : Int32} {k : Nat} {t : Nat → Int32} {n : Int32} : f_md_putNumber_L20 nb (k + 1) v2 0 t n = (t, n) := by
  rw [f_md_putNumber_L20, if_pos (by decide)]
theorem pu_putNum {nb : Int32} {L : LnT} {t : Nat → Int32} {n : Int32} {B : Int} (h : pu_RB1 L t n B) (hB : B < 97) (h0 : 0 ≤ nb.toInt) (h9 : nb.toInt ≤ 9999) :
    pu_RB1 (f_ln_addNumber L nb) (f_md_putNumber t n nb).1 (f_md_putNumber t n nb).2 (B + 4) := by
  rw [pu_addNum_eq h0]
  unfold f_md_putNumber
  have d1 := pu_dig_rg (v := 1) h0 (by decide); have d2 := pu_dig_rg (v := 10) h0 (by decide); have d3 := pu_dig_rg (v := 100) h0 (by decide); have d4 := pu_dig_rg (v := 1000) h0 (by decide)
  have q1 : nb / 1 ≤ 9 ↔ nb.toInt < 10 := by rw [Int32.le_iff_toInt_le, pu_dv h0 (by decide)]; show nb.toInt / 1 ≤ 9 ↔ _; omega
  have q2 : nb / 10 ≤ 9 ↔ nb.toInt < 100 := by rw [Int32.le_iff_toInt_le, pu_dv h0 (by decide)]; show nb.toInt / 10 ≤ 9 ↔ _; omega
  have q3 : nb / 100 ≤ 9 ↔ nb.toInt < 1000 := by rw [Int32.le_iff_toInt_le, pu_dv h0 (by decide)]; show nb.toInt / 100 ≤ 9 ↔ _; omega
  have q4 : nb / 1000 ≤ 9 := by rw [Int32.le_iff_toInt_le, pu_dv h0 (by decide)]; show nb.toInt / 1000 ≤ 9; omega
  have m1 : (1 : Int32) * 10 = 10 := by decide
  have m2 : (10 : Int32) * 10 = 100 := by decide
  have m3 : (100 : Int32) * 10 = 1000 := by decide
  rw [f_md_putNumber_L2]
  by_cases c1 : nb.toInt < 10
  · rw [if_pos c1, if_pos (q1.mpr c1), pu_putNum_step (by decide), pu_u1, pu_putNum_end]
    exact (h.put (by omega) (by omega) (by omega)).mono (by omega)
  rw [if_neg c1, if_neg (fun q => c1 (q1.mp q)), m1, f_md_putNumber_L2]
  by_cases c2 : nb.toInt < 100
  · rw [if_pos c2, if_pos (q2.mpr c2), pu_putNum_step (by decide), pu_u10, pu_putNum_step (by decide), pu_u1, pu_putNum_end]
    exact ((h.put (by omega) (by omega) (by omega)).put (by omega) (by omega) (by omega)).mono (by omega)
  rw [if_neg c2, if_neg (fun q => c2 (q2.mp q)), m2, f_md_putNumber_L2]
  by_cases c3 : nb.toInt < 1000
  · rw [if_pos c3, if_pos (q3.mpr c3), pu_putNum_step (by decide), pu_u100, pu_putNum_step (by decide), pu_u10, pu_putNum_step (by decide), pu_u1, pu_putNum_end]
    exact (((h.put (by omega) (by omega) (by omega)).put (by omega) (by omega) (by omega)).put (by omega) (by omega) (by omega)).mono (by omega)
  rw [if_neg c3, if_neg (fun q => c3 (q3.mp q)), m3, f_md_putNumber_L2, if_pos q4, pu_putNum_step (by decide), pu_u1000, pu_putNum_step (by decide), pu_u100, pu_putNum_step (by decide), pu_u10, pu_putNum_step (by decide), pu_u1, pu_putNum_end]
  exact ((((h.put (by omega) (by omega) (by omega)).put (by omega) (by omega) (by omega)).put (by omega) (by omega) (by omega)).put (by omega) (by omega) (by omega)).mono (by omega)
theorem pu_pick_man {m : Int32} (h0 : 1 ≤ m.toInt) (h1 : m.toInt ≤ 12) : f_gn_pick 1 (m - 1) = f_md_letter m ∧ 0 ≤ (f_md_letter m).toInt ∧ (f_md_letter m).toInt ≤ 126 := by
  have q : ∀ k : Nat, k < 13 → (0 < k → f_gn_pick 1 (Int32.ofNat k - 1) = f_md_letter (Int32.ofNat k) ∧ 0 ≤ (f_md_letter (Int32.ofNat k)).toInt ∧ (f_md_letter (Int32.ofNat k)).toInt ≤ 126) := by decide
  obtain ⟨k, hk, rfl⟩ := pu_of_rg (N := 13) (by omega : 0 ≤ m.toInt) (by omega)
  refine q k hk (Nat.pos_of_ne_zero ?_)
  rintro rfl
  revert h0; decide
theorem pu_pick_file {f : Int32} (h0 : 0 ≤ f.toInt) (h1 : f.toInt < 8) : f_gn_pick 3 f = 97 + f ∧ 0 ≤ (97 + f).toInt ∧ (97 + f).toInt ≤ 126 :=
  pu_all_rg (P := fun f => f_gn_pick 3 f = 97 + f ∧ 0 ≤ (97 + f).toInt ∧ (97 + f).toInt ≤ 126) 8 (by decide) h0 h1
theorem pu_pick_rank {f : Int32} (h0 : 0 ≤ f.toInt) (h1 : f.toInt < 8) : f_gn_pick 0 f = 49 + f ∧ 0 ≤ (49 + f).toInt ∧ (49 + f).toInt ≤ 126 :=
  pu_all_rg (P := fun f => f_gn_pick 0 f = 49 + f ∧ 0 ≤ (49 + f).toInt ∧ (49 + f).toInt ≤ 126) 8 (by decide) h0 h1
theorem pu_em_dig {v : Int32} (h0 : 0 ≤ v.toInt) (h1 : v.toInt ≤ 9) : pu_dig v 1 = 48 + v :=
  pu_all_rg (P := fun v => pu_dig v 1 = 48 + v) 10 (by decide) h0 (by omega)
theorem pu_manAt_eq {P : PsT} {b : Nat → Int32} {f r : Int32} (h : pu_RB P.1 b) (f0 : 0 ≤ f.toInt) (f1 : f.toInt < 8) (r0 : 0 ≤ r.toInt) (r1 : r.toInt < 8) : f_ps_manAt P f r = b (8 * r + f).toNatClampNeg := by
  unfold f_ps_manAt
  have e : r * 8 + f = 8 * r + f := by rw [Int32.mul_comm]
  have e2 : (8 * r + f).toNatClampNeg < 64 := by clear h e; (simp only [Int32.lt_iff_toInt_lt, Int32.le_iff_toInt_le, ← Int32.toInt_inj, pu_ia, pu_isb, pu_im, pu_tn, pu_in1, pu_in2, pu_in3, pu_in4, pu_in8, Int32.reduceToInt, Int.reduceNeg, ne_eq] at *; omega)
  rw [if_neg (by clear e2 e; (simp only [Int32.lt_iff_toInt_lt, Int32.le_iff_toInt_le, ← Int32.toInt_inj, pu_ia, pu_isb, pu_im, pu_tn, pu_in1, pu_in2, pu_in3, pu_in4, pu_in8, Int32.reduceToInt, Int.reduceNeg, ne_eq] at *; omega)), if_neg (by clear e2 e; (simp only [Int32.lt_iff_toInt_lt, Int32.le_iff_toInt_le, ← Int32.toInt_inj, pu_ia, pu_isb, pu_im, pu_tn, pu_in1, pu_in2, pu_in3, pu_in4, pu_in8, Int32.reduceToInt, Int.reduceNeg, ne_eq] at *; omega)), if_neg (by clear e2 e; (simp only [Int32.lt_iff_toInt_lt, Int32.le_iff_toInt_le, ← Int32.toInt_inj, pu_ia, pu_isb, pu_im, pu_tn, pu_in1, pu_in2, pu_in3, pu_in4, pu_in8, Int32.reduceToInt, Int.reduceNeg, ne_eq] at *; omega)), if_neg (by clear e2 e; (simp only [Int32.lt_iff_toInt_lt, Int32.le_iff_toInt_le, ← Int32.toInt_inj, pu_ia, pu_isb, pu_im, pu_tn, pu_in1, pu_in2, pu_in3, pu_in4, pu_in8, Int32.reduceToInt, Int.reduceNeg, ne_eq] at *; omega)), e]
  exact h.eq _ e2
theorem pu_rank_step {P : PsT} {b : Nat → Int32} (hb : pu_RB P.1 b) {tr : LnT} {rd : Int32} {td : TdT} {fm : FmT} {sp : PsT} {rk : Int32} (r0 : 0 ≤ rk.toInt) (r1 : rk.toInt < 8) (B : Int) (hB : B ≤ 91) :
    ∀ (k : Nat) (v2 v3 : Int32) (L : LnT) (t : Nat → Int32) (n : Int32), 0 ≤ v3.toInt → (8 - v3.toInt).toNat < k → 0 ≤ v2.toInt → v2.toInt ≤ v3.toInt → pu_RL L t n → n.toInt + (if v2.toInt = 0 then 0 else 1) ≤ B + v3.toInt → v3.toInt ≤ 8 →
      pu_RB1 (f_gn_addRank_L4 rk tr rd td fm P sp k v2 v3 L) (f_md_putRank_L4 b rk k v2 v3 t n).1 (f_md_putRank_L4 b rk k v2 v3 t n).2 (B + 8) := by
  intro k
  induction k with
  | zero => intro v2 v3 L t n h1 h2; omega
  | succ k ih =>
    intro v2 v3 L t n h1 h2 h3 h4 hr h5 h6
    have hn : pu_RB1 L t n n.toInt := ⟨hr, Int.le_refl _⟩
    have em : ∀ v : Int32, v = v2 → ¬ v2 ≤ 0 → f_gn_addEmpty v2 L tr rd td fm P sp = f_ln_add L (48 + v2) := by
      intro v _ hv
      unfold f_gn_addEmpty bnd
      rw [if_neg hv, pu_addNum_eq h3, if_pos (by omega), pu_em_dig h3 (by omega)]
    have e48 : v2.toInt ≤ 8 → (48 + v2).toInt = 48 + v2.toInt := by intro q; clear em hr ih hn hb; (simp only [Int32.lt_iff_toInt_lt, Int32.le_iff_toInt_le, ← Int32.toInt_inj, pu_ia, pu_isb, pu_im, pu_tn, pu_in1, pu_in2, pu_in3, pu_in4, pu_in8, Int32.reduceToInt, Int.reduceNeg, ne_eq] at *; omega)
    rw [f_gn_addRank_L4, f_md_putRank_L4]
    by_cases c1 : (8 : Int32) ≤ v3
    · rw [if_pos c1, if_pos c1]
      have c8 : v3.toInt = 8 := by clear em hr ih hn hb; (simp only [Int32.lt_iff_toInt_lt, Int32.le_iff_toInt_le, ← Int32.toInt_inj, pu_ia, pu_isb, pu_im, pu_tn, pu_in1, pu_in2, pu_in3, pu_in4, pu_in8, Int32.reduceToInt, Int.reduceNeg, ne_eq] at *; omega)
      unfold bnd; dsimp only
      by_cases c2 : v2 ≤ 0
      · rw [if_pos c2]
        unfold f_gn_addEmpty
        rw [if_pos c2]
        exact hn.mono (by split at h5 <;> omega)
      · have c0 : v2.toInt ≠ 0 := by clear em hr ih hn hb; (simp only [Int32.lt_iff_toInt_lt, Int32.le_iff_toInt_le, ← Int32.toInt_inj, pu_ia, pu_isb, pu_im, pu_tn, pu_in1, pu_in2, pu_in3, pu_in4, pu_in8, Int32.reduceToInt, Int.reduceNeg, ne_eq] at *; omega)
        rw [if_neg c2, em _ rfl c2]
        rw [if_neg c0] at h5
        have := e48 (by omega)
        exact (hn.put (by omega) (by omega) (by omega)).mono (by omega)
    · rw [if_neg c1, if_neg c1]
      have c8 : v3.toInt < 8 := by clear em hr ih hn hb; (simp only [Int32.lt_iff_toInt_lt, Int32.le_iff_toInt_le, ← Int32.toInt_inj, pu_ia, pu_isb, pu_im, pu_tn, pu_in1, pu_in2, pu_in3, pu_in4, pu_in8, Int32.reduceToInt, Int.reduceNeg, ne_eq] at *; omega)
      have e3 : (v3 + 1).toInt = v3.toInt + 1 := by clear em hr ih hn hb; (simp only [Int32.lt_iff_toInt_lt, Int32.le_iff_toInt_le, ← Int32.toInt_inj, pu_ia, pu_isb, pu_im, pu_tn, pu_in1, pu_in2, pu_in3, pu_in4, pu_in8, Int32.reduceToInt, Int.reduceNeg, ne_eq] at *; omega)
      rw [pu_manAt_eq hb h1 c8 r0 r1]
      have hm := hb.rg (8 * rk + v3).toNatClampNeg (by clear em hr ih hn hb e48; (simp only [Int32.lt_iff_toInt_lt, Int32.le_iff_toInt_le, ← Int32.toInt_inj, pu_ia, pu_isb, pu_im, pu_tn, pu_in1, pu_in2, pu_in3, pu_in4, pu_in8, Int32.reduceToInt, Int.reduceNeg, ne_eq] at *; omega))
      generalize b (8 * rk + v3).toNatClampNeg = m at hm ⊢
      unfold bnd; dsimp only
      by_cases c2 : m ≤ 0
      · rw [if_pos c2, if_pos c2]
        have e2 : (v2 + 1).toInt = v2.toInt + 1 := by clear em hr ih hn hb; (simp only [Int32.lt_iff_toInt_lt, Int32.le_iff_toInt_le, ← Int32.toInt_inj, pu_ia, pu_isb, pu_im, pu_tn, pu_in1, pu_in2, pu_in3, pu_in4, pu_in8, Int32.reduceToInt, Int.reduceNeg, ne_eq] at *; omega)
        refine ih _ _ _ _ _ (by omega) (by omega) (by omega) (by omega) hr ?_ (by omega)
        rw [if_neg (by omega)]; split at h5 <;> omega
      · rw [if_neg c2, if_neg c2]
        have hm1 : 1 ≤ m.toInt := by clear em hr ih hn hb; (simp only [Int32.lt_iff_toInt_lt, Int32.le_iff_toInt_le, ← Int32.toInt_inj, pu_ia, pu_isb, pu_im, pu_tn, pu_in1, pu_in2, pu_in3, pu_in4, pu_in8, Int32.reduceToInt, Int.reduceNeg, ne_eq] at *; omega)
        obtain ⟨p1, p2, p3⟩ := pu_pick_man hm1 hm.2
        rw [p1]
        by_cases c3 : v2 ≤ 0
        · have c0 : v2.toInt = 0 := by clear em hr ih hn hb; (simp only [Int32.lt_iff_toInt_lt, Int32.le_iff_toInt_le, ← Int32.toInt_inj, pu_ia, pu_isb, pu_im, pu_tn, pu_in1, pu_in2, pu_in3, pu_in4, pu_in8, Int32.reduceToInt, Int.reduceNeg, ne_eq] at *; omega)
          rw [if_pos c0] at h5
          rw [if_pos c3]
          have e0 : f_gn_addEmpty v2 L tr rd td fm P sp = L := by unfold f_gn_addEmpty; rw [if_pos c3]
          rw [e0]
          have q := hn.put (by omega) p2 p3
          refine ih _ _ _ _ _ (by omega) (by omega) (by decide) (by rw [e3]; show 0 ≤ _; omega) q.r ?_ (by omega)
          have := q.b
          rw [if_pos (by decide)]; omega
        · have c0 : v2.toInt ≠ 0 := by clear em hr ih hn hb; (simp only [Int32.lt_iff_toInt_lt, Int32.le_iff_toInt_le, ← Int32.toInt_inj, pu_ia, pu_isb, pu_im, pu_tn, pu_in1, pu_in2, pu_in3, pu_in4, pu_in8, Int32.reduceToInt, Int.reduceNeg, ne_eq] at *; omega)
          rw [if_neg c0] at h5
          rw [if_neg c3, em _ rfl c3]
          have := e48 (by omega)
          have q := (hn.put (c := 48 + v2) (by omega) (by omega) (by omega)).put (by omega) p2 p3
          refine ih _ _ _ _ _ (by omega) (by omega) (by decide) (by rw [e3]; show 0 ≤ _; omega) q.r ?_ (by omega)
          have := q.b
          rw [if_pos (by decide)]; omega
theorem pu_putRank {P : PsT} {b : Nat → Int32} (hb : pu_RB P.1 b) {tr : LnT} {rd : Int32} {td : TdT} {fm : FmT} {sp : PsT} {rk : Int32} (r0 : 0 ≤ rk.toInt) (r1 : rk.toInt < 8) {B : Int} (hB : B ≤ 91) {L : LnT} {t : Nat → Int32} {n : Int32} (h : pu_RB1 L t n B) :
    pu_RB1 (f_gn_addRank rk L tr rd td fm P sp) (f_md_putRank b t n rk).1 (f_md_putRank b t n rk).2 (B + 8) :=
  pu_rank_step hb r0 r1 B hB 9 0 0 L t n (by decide) (by decide) (by decide) (by decide) h.r (by have := h.b; rw [if_pos (by decide)]; show n.toInt + 0 ≤ B + 0; omega) (by decide)
theorem pu_bit01 {r v : Int32} (h0 : 0 ≤ r.toInt) (h1 : r.toInt ≤ 15) (v0 : 0 ≤ v.toInt) (v1 : v.toInt < 4) : ((r >>> (v &&& 31)) &&& 1) = 0 ∨ ((r >>> (v &&& 31)) &&& 1) = 1 := by
  have q : ∀ a : Nat, a < 16 → ∀ c : Nat, c < 4 → ((Int32.ofNat a >>> (Int32.ofNat c &&& 31)) &&& 1) = 0 ∨ ((Int32.ofNat a >>> (Int32.ofNat c &&& 31)) &&& 1) = 1 := by decide
  obtain ⟨a, ha, rfl⟩ := pu_of_rg (N := 16) h0 (by omega)
  obtain ⟨c, hc, rfl⟩ := pu_of_rg (N := 4) v0 (by omega)
  exact q a ha c hc
theorem pu_rights_step {P : PsT} {sd rt pa cl nu : Int32} (hrt : P.2.2.1 = rt) (r0 : 0 ≤ rt.toInt) (r1 : rt.toInt ≤ 15) {tr : LnT} {rd : Int32} {td : TdT} {fm : FmT} {sp : PsT} {th : Int32} {D : Int} (hD : D ≤ 90) :
    ∀ (k : Nat) (j : Nat) (v : Int32) (L : LnT) (t : Nat → Int32) (n : Int32), 0 ≤ v.toInt → v.toInt ≤ 4 → (4 - v.toInt).toNat < k → (4 - v.toInt).toNat < j → pu_RB1 L t n (D + v.toInt) →
      ∃ t' n', pu_RB1 (f_gn_addRights_L21 tr rd td fm P sp k v L) t' n' (D + 4) ∧
        f_md_write_L82 sd rt pa cl nu j v th t n = (bnd (f_md_put1 t' n' (32 : Int32)) (fun u_5 => (if 0 ≤ pa then (f_md_write_C166 sd pa cl nu  ((97 : Int32) + pa) th u_5.1 u_5.2) else (f_md_write_C166 sd pa cl nu  (45 : Int32) th u_5.1 u_5.2)))) := by
  intro k
  induction k with
  | zero => intro j v L t n h1 h2 h3; omega
  | succ k ih =>
    intro j v L t n h1 h2 h3 h4 hr
    cases j with
    | zero => omega
    | succ j =>
      rw [f_gn_addRights_L21, f_md_write_L82]
      have l4 : f_st_length 2 = 4 := by decide
      rw [l4]
      unfold bnd; dsimp only
      by_cases c1 : (4 : Int32) ≤ v
      · have : v.toInt = 4 := by clear ih hr; (simp only [Int32.lt_iff_toInt_lt, Int32.le_iff_toInt_le, ← Int32.toInt_inj, pu_ia, pu_isb, pu_im, pu_tn, pu_in1, pu_in2, pu_in3, pu_in4, pu_in8, Int32.reduceToInt, Int.reduceNeg, ne_eq] at *; omega)
        rw [if_pos c1, if_pos c1]
        exact ⟨t, n, this ▸ hr, rfl⟩
      · have c4 : v.toInt < 4 := by clear ih hr; (simp only [Int32.lt_iff_toInt_lt, Int32.le_iff_toInt_le, ← Int32.toInt_inj, pu_ia, pu_isb, pu_im, pu_tn, pu_in1, pu_in2, pu_in3, pu_in4, pu_in8, Int32.reduceToInt, Int.reduceNeg, ne_eq] at *; omega)
        have e3 : (v + 1).toInt = v.toInt + 1 := by clear ih hr; (simp only [Int32.lt_iff_toInt_lt, Int32.le_iff_toInt_le, ← Int32.toInt_inj, pu_ia, pu_isb, pu_im, pu_tn, pu_in1, pu_in2, pu_in3, pu_in4, pu_in8, Int32.reduceToInt, Int.reduceNeg, ne_eq] at *; omega)
        rw [if_neg c1, if_neg c1]
        rcases pu_bit01 r0 r1 h1 c4 with c2 | c2
        · have hR : f_ps_hasRight P v = 0 := by unfold f_ps_hasRight; rw [hrt, if_pos c2]
          have c3 : ¬ (rt >>> (v &&& 31)) &&& 1 = 1 := fun q => absurd (c2.symm.trans q) (by decide)
          rw [if_pos hR, if_neg c3]
          exact ih j (v + 1) L t n (by omega) (by omega) (by omega) (by omega) (hr.mono (by omega))
        · have hR : f_ps_hasRight P v = 1 := by unfold f_ps_hasRight; rw [hrt, if_neg (fun q => absurd (c2.symm.trans q) (by decide))]
          have c3 : ¬ f_ps_hasRight P v = 0 := by rw [hR]; decide
          rw [if_neg c3, if_pos c2]
          have pk : ∀ a : Nat, a < 4 → f_gn_pick 2 (Int32.ofNat a) = if Int32.ofNat a = 0 then 75 else if Int32.ofNat a = 1 then 81 else if Int32.ofNat a = 2 then 107 else 113 := by decide
          have pk2 : f_gn_pick 2 v = if v = 0 then 75 else if v = 1 then 81 else if v = 2 then 107 else 113 := pu_all_rg (P := fun v => f_gn_pick 2 v = if v = 0 then 75 else if v = 1 then 81 else if v = 2 then 107 else 113) 4 pk h1 c4
          rw [pk2]
          have go : ∀ c : Int32, 0 ≤ c.toInt → c.toInt ≤ 126 → _ := fun c q0 q1 =>
            ih j (v + 1) (f_ln_add L c) (f_md_put1 t n c).1 (f_md_put1 t n c).2 (by omega) (by omega) (by omega) (by omega) ((hr.put (by omega) q0 q1).mono (by omega))
          by_cases d0 : v = 0
          · rw [if_pos d0, if_pos d0]; exact go 75 (by decide) (by decide)
          rw [if_neg d0, if_neg d0]
          by_cases d1 : v = 1
          · rw [if_pos d1, if_pos d1]; exact go 81 (by decide) (by decide)
          rw [if_neg d1, if_neg d1]
          by_cases d2 : v = 2
          · rw [if_pos d2, if_pos d2]; exact go 107 (by decide) (by decide)
          rw [if_neg d2, if_neg d2]
          exact go 113 (by decide) (by decide)
theorem pu_ranks_step {P : PsT} {b : Nat → Int32} (hb : pu_RB P.1 b) {sd rt pa cl nu : Int32} {tr : LnT} {rd : Int32} {td : TdT} {fm : FmT} {sp : PsT} {th : Int32} :
    ∀ (k : Nat) (v : Int32) (L : LnT) (t : Nat → Int32) (n : Int32), 0 ≤ v.toInt → v.toInt ≤ 7 → (v.toInt + 1).toNat < k → pu_RB1 L t n (9 * (7 - v.toInt)) →
      ∃ t' n', pu_RB1 (f_ln_add (f_gn_addRanks_L3 tr rd td fm P sp k v L) 32) t' n' 72 ∧
        f_md_write_L13 b sd rt pa cl nu k v th t n = (if sd = 0 then (f_md_write_C58 sd rt pa cl nu  (119 : Int32) th t' n') else (f_md_write_C58 sd rt pa cl nu  (98 : Int32) th t' n')) := by
  intro k
  induction k with
  | zero => intro v L t n h1 h2 h3; omega
  | succ k ih =>
    intro v L t n h1 h2 h3 hr
    rw [f_gn_addRanks_L3, f_md_write_L13]
    have q := pu_putRank (tr := tr) (rd := rd) (td := td) (fm := fm) (sp := sp) hb h1 (by omega) (by omega) hr
    unfold bnd; dsimp only
    have c0 : ¬ v < 0 := by clear ih hr q; (simp only [Int32.lt_iff_toInt_lt, Int32.le_iff_toInt_le, ← Int32.toInt_inj, pu_ia, pu_isb, pu_im, pu_tn, pu_in1, pu_in2, pu_in3, pu_in4, pu_in8, Int32.reduceToInt, Int.reduceNeg, ne_eq] at *; omega)
    rw [if_neg c0, if_neg c0]
    by_cases c1 : v ≤ 0
    · have e0 : v.toInt = 0 := by clear ih hr q; (simp only [Int32.lt_iff_toInt_lt, Int32.le_iff_toInt_le, ← Int32.toInt_inj, pu_ia, pu_isb, pu_im, pu_tn, pu_in1, pu_in2, pu_in3, pu_in4, pu_in8, Int32.reduceToInt, Int.reduceNeg, ne_eq] at *; omega)
      rw [if_pos c1, if_pos c1]
      have em : v + -1 < 0 := by clear ih hr q; (simp only [Int32.lt_iff_toInt_lt, Int32.le_iff_toInt_le, ← Int32.toInt_inj, pu_ia, pu_isb, pu_im, pu_tn, pu_in1, pu_in2, pu_in3, pu_in4, pu_in8, Int32.reduceToInt, Int.reduceNeg, ne_eq] at *; omega)
      obtain ⟨k, rfl⟩ : ∃ k', k = k' + 1 := ⟨k - 1, by omega⟩
      rw [f_gn_addRanks_L3, f_md_write_L13, if_pos em, if_pos em]
      rw [e0] at q
      exact ⟨_, _, (q.put (c := 32) (by omega) (by decide) (by decide)).mono (by omega), rfl⟩
    · have e0 : 0 < v.toInt := by clear ih hr q; (simp only [Int32.lt_iff_toInt_lt, Int32.le_iff_toInt_le, ← Int32.toInt_inj, pu_ia, pu_isb, pu_im, pu_tn, pu_in1, pu_in2, pu_in3, pu_in4, pu_in8, Int32.reduceToInt, Int.reduceNeg, ne_eq] at *; omega)
      have em : (v + -1).toInt = v.toInt - 1 := by clear ih hr q; (simp only [Int32.lt_iff_toInt_lt, Int32.le_iff_toInt_le, ← Int32.toInt_inj, pu_ia, pu_isb, pu_im, pu_tn, pu_in1, pu_in2, pu_in3, pu_in4, pu_in8, Int32.reduceToInt, Int.reduceNeg, ne_eq] at *; omega)
      rw [if_neg c1, if_neg c1]
      exact ih (v + -1) _ _ _ (by omega) (by omega) (by omega) ((q.put (c := 47) (by omega) (by decide) (by decide)).mono (by omega))
theorem pu_p_write {ln tr : LnT} {rd : Int32} {td : TdT} {fm : FmT} {ps sp : PsT} {t b : Nat → Int32} {n sd rt pa cl nu : Int32} (h : pu_RL ln t n) (hp : pu_RP ps b sd rt pa cl nu)
    {r r' th n' : Int32} {ln' : LnT} {t' : Nat → Int32} (e : f_gn_write ln tr rd td fm ps sp = (r, ln')) (e' : f_md_write b t sd rt pa cl nu = (r', th, t', n')) : r = r' ∧ pu_RL ln' t' n' := by
  unfold f_gn_write f_gn_addRights f_gn_addRanks f_gn_addPassant at e
  unfold f_md_write at e'
  have z : pu_RB1 (f_ln_clear ln) t 0 0 := ⟨h.zero _ _, by decide⟩
  obtain ⟨t1, n1, q1, w1⟩ := pu_ranks_step (sd := sd) (rt := rt) (pa := pa) (cl := cl) (nu := nu) (tr := tr) (rd := rd) (td := td) (fm := fm) (sp := sp) (th := 0) hp.bd 9 7 _ _ _ (by decide) (by decide) (by decide) (z.mono (by decide))
  have sr := hp.sdr; have rr := hp.rtr; have pr := hp.par; have cr := hp.clr; have nr := hp.nur
  have psd : f_gn_pick 4 ps.2.1 = if sd = 0 then 119 else 98 := by
    rw [hp.esd]
    exact pu_all_rg (P := fun v => f_gn_pick 4 v = if v = 0 then 119 else 98) 2 (by decide) sr.1 (by omega)
  have w2 : f_md_write_L13 b sd rt pa cl nu 9 7 0 t 0 = f_md_write_C58 sd rt pa cl nu (f_gn_pick 4 ps.2.1) 0 t1 n1 := by
    rw [w1, psd]; split <;> rfl
  rw [w2] at e'
  have p1 : 0 ≤ (f_gn_pick 4 ps.2.1).toInt ∧ (f_gn_pick 4 ps.2.1).toInt ≤ 126 := by rw [psd]; split <;> decide
  unfold f_md_write_C58 f_md_write_C80 at e'
  unfold bnd at e e'; dsimp only at e e'
  have q2 := (q1.put (by decide) p1.1 p1.2).put (c := 32) (by decide) (by decide) (by decide)
  obtain ⟨t3, n3, q3, w3⟩ : ∃ t3 n3, pu_RB1 (if ps.2.2.1 = 0 then f_gn_addRights_L21 tr rd td fm ps sp 101 0 (f_ln_add (f_ln_add (f_ln_add (f_ln_add (f_gn_addRanks_L3 tr rd td fm ps sp 9 7 (f_ln_clear ln)) 32) (f_gn_pick 4 ps.2.1)) 32) 45) else f_gn_addRights_L21 tr rd td fm ps sp 101 0 (f_ln_add (f_ln_add (f_ln_add (f_gn_addRanks_L3 tr rd td fm ps sp 9 7 (f_ln_clear ln)) 32) (f_gn_pick 4 ps.2.1)) 32)) t3 n3 79 ∧
      (bnd (f_md_put1 t3 n3 (32 : Int32)) (fun u_5 => (if 0 ≤ pa then (f_md_write_C166 sd pa cl nu  ((97 : Int32) + pa) 0 u_5.1 u_5.2) else (f_md_write_C166 sd pa cl nu  (45 : Int32) 0 u_5.1 u_5.2)))) = (r', th, t', n') := by
    rw [hp.ert]
    by_cases c : rt = 0
    · rw [if_pos c] at e' ⊢
      obtain ⟨t3, n3, q3, w3⟩ := pu_rights_step (sd := sd) (rt := rt) (pa := pa) (cl := cl) (nu := nu) (tr := tr) (rd := rd) (td := td) (fm := fm) (sp := sp) (th := 0) (D := 75) hp.ert rr.1 rr.2 (by decide) 101 5 0 _ _ _ (by decide) (by decide) (by decide) (by decide) ((q2.put (c := 45) (by decide) (by decide) (by decide)).mono (by decide))
      exact ⟨t3, n3, q3, w3.symm.trans e'⟩
    · rw [if_neg c] at e' ⊢
      obtain ⟨t3, n3, q3, w3⟩ := pu_rights_step (sd := sd) (rt := rt) (pa := pa) (cl := cl) (nu := nu) (tr := tr) (rd := rd) (td := td) (fm := fm) (sp := sp) (th := 0) (D := 75) hp.ert rr.1 rr.2 (by decide) 101 5 0 _ _ _ (by decide) (by decide) (by decide) (by decide) (q2.mono (by decide))
      exact ⟨t3, n3, q3, w3.symm.trans e'⟩
  clear e' w1 w2 q1 q2
  generalize (if ps.2.2.1 = 0 then f_gn_addRights_L21 tr rd td fm ps sp 101 0 (f_ln_add (f_ln_add (f_ln_add (f_ln_add (f_gn_addRanks_L3 tr rd td fm ps sp 9 7 (f_ln_clear ln)) 32) (f_gn_pick 4 ps.2.1)) 32) 45) else f_gn_addRights_L21 tr rd td fm ps sp 101 0 (f_ln_add (f_ln_add (f_ln_add (f_gn_addRanks_L3 tr rd td fm ps sp 9 7 (f_ln_clear ln)) 32) (f_gn_pick 4 ps.2.1)) 32)) = L3 at e q3
  rw [hp.epa, hp.esd, hp.ecl, hp.enu] at e
  have q4 := q3.put (c := 32) (by decide) (by decide) (by decide)
  unfold f_md_write_C166 f_md_write_C194 bnd at w3; dsimp only at w3
  have fin : ∀ {L5 : LnT} {t5 : Nat → Int32} {n5 : Int32}, pu_RB1 L5 t5 n5 82 →
      (f_ln_size (f_ln_addNumber (f_ln_add (f_ln_addNumber (f_ln_add L5 32) cl) 32) nu), f_ln_addNumber (f_ln_add (f_ln_addNumber (f_ln_add L5 32) cl) 32) nu) = (r, ln') →
      ((f_md_putNumber (f_md_put1 (f_md_putNumber (f_md_put1 t5 n5 32).1 (f_md_put1 t5 n5 32).2 cl).1 (f_md_putNumber (f_md_put1 t5 n5 32).1 (f_md_put1 t5 n5 32).2 cl).2 32).1 (f_md_put1 (f_md_putNumber (f_md_put1 t5 n5 32).1 (f_md_put1 t5 n5 32).2 cl).1 (f_md_putNumber (f_md_put1 t5 n5 32).1 (f_md_put1 t5 n5 32).2 cl).2 32).2 nu).2, (0 : Int32), (f_md_putNumber (f_md_put1 (f_md_putNumber (f_md_put1 t5 n5 32).1 (f_md_put1 t5 n5 32).2 cl).1 (f_md_putNumber (f_md_put1 t5 n5 32).1 (f_md_put1 t5 n5 32).2 cl).2 32).1 (f_md_put1 (f_md_putNumber (f_md_put1 t5 n5 32).1 (f_md_put1 t5 n5 32).2 cl).1 (f_md_putNumber (f_md_put1 t5 n5 32).1 (f_md_put1 t5 n5 32).2 cl).2 32).2 nu)) = (r', th, t', n') → r = r' ∧ pu_RL ln' t' n' := by
    intro L5 t5 n5 q5 e1 e2
    have q6 := pu_putNum (pu_putNum (q5.put (c := 32) (by decide) (by decide) (by decide)) (by decide) cr.1 (by omega) |>.put (c := 32) (by decide) (by decide) (by decide)) (by decide) (by omega : 0 ≤ nu.toInt) nr.2
    rw [Prod.mk.injEq, Prod.mk.injEq] at e2
    cases e1
    obtain ⟨e3, -, e4⟩ := e2
    rw [e4] at q6 e3
    exact ⟨q6.r.sz.trans e3, q6.r⟩
  by_cases c : pa < 0
  · have c1 : pa = -1 := by clear e w3 fin q3 q4 psd h hp z; (simp only [Int32.lt_iff_toInt_lt, Int32.le_iff_toInt_le, ← Int32.toInt_inj, pu_ia, pu_isb, pu_im, pu_tn, pu_in1, pu_in2, pu_in3, pu_in4, pu_in8, Int32.reduceToInt, Int.reduceNeg, ne_eq] at *; omega)
    rw [if_pos c1] at e
    rw [if_neg (by clear e w3 fin q3 q4 psd h hp z; (simp only [Int32.lt_iff_toInt_lt, Int32.le_iff_toInt_le, ← Int32.toInt_inj, pu_ia, pu_isb, pu_im, pu_tn, pu_in1, pu_in2, pu_in3, pu_in4, pu_in8, Int32.reduceToInt, Int.reduceNeg, ne_eq] at *; omega)), if_pos c] at w3
    exact fin ((q4.put (c := 45) (by decide) (by decide) (by decide)).mono (by decide)) e w3
  · have c1 : ¬ pa = -1 := by clear e w3 fin q3 q4 psd h hp z; (simp only [Int32.lt_iff_toInt_lt, Int32.le_iff_toInt_le, ← Int32.toInt_inj, pu_ia, pu_isb, pu_im, pu_tn, pu_in1, pu_in2, pu_in3, pu_in4, pu_in8, Int32.reduceToInt, Int.reduceNeg, ne_eq] at *; omega)
    have c2 : 0 ≤ pa := by clear e w3 fin q3 q4 psd h hp z; (simp only [Int32.lt_iff_toInt_lt, Int32.le_iff_toInt_le, ← Int32.toInt_inj, pu_ia, pu_isb, pu_im, pu_tn, pu_in1, pu_in2, pu_in3, pu_in4, pu_in8, Int32.reduceToInt, Int.reduceNeg, ne_eq] at *; omega)
    obtain ⟨p1, p2, p3⟩ := pu_pick_file (f := pa) (by clear e w3 fin q3 q4 psd h hp z; (simp only [Int32.lt_iff_toInt_lt, Int32.le_iff_toInt_le, ← Int32.toInt_inj, pu_ia, pu_isb, pu_im, pu_tn, pu_in1, pu_in2, pu_in3, pu_in4, pu_in8, Int32.reduceToInt, Int.reduceNeg, ne_eq] at *; omega)) (by omega)
    rw [if_neg c1, p1] at e
    rw [if_pos c2, if_neg c] at w3
    unfold f_gn_passantRank at e
    by_cases d : sd = 0
    · rw [if_pos d] at e w3
      exact fin ((q4.put (by decide) p2 p3).put (c := 54) (by decide) (by decide) (by decide)) e w3
    · rw [if_neg d] at e w3
      exact fin ((q4.put (by decide) p2 p3).put (c := 51) (by decide) (by decide) (by decide)) e w3
theorem pu_smd (s : Nat) (hs : s ≤ 56) : ((BitVec.ofNat 64 s).smod 64#64).toNat = s := by
  have q : ∀ s : Nat, s < 57 → ((BitVec.ofNat 64 s).smod 64#64).toNat = s := by decide
  exact q s (by omega)
theorem pu_b255 (j : Nat) (hj : j < 32) : (255#32)[j] = decide (j < 8) := by
  have q : ∀ j : Nat, (h : j < 32) → (255#32)[j] = decide (j < 8) := by decide
  exact q j hj
theorem pu_byte_eq (part : Int64) (s : Nat) (hs : s ≤ 56) : ((((part.toUInt64 >>> (UInt64.ofNat s)).toInt64).toInt32) &&& (255 : Int32)) = ((part >>> (Int64.ofNat s)) &&& (255 : Int64)).toInt32 := by
  apply Int32.toBitVec_inj.mp
  have e1 : (UInt64.ofNat s).toBitVec = BitVec.ofNat 64 s := rfl
  have e2 : (Int64.ofNat s).toBitVec = BitVec.ofNat 64 s := rfl
  have h1 : s % 64 = s := Nat.mod_eq_of_lt (by omega)
  simp only [Int32.toBitVec_and, Int64.toBitVec_toInt32, UInt64.toBitVec_toInt64, UInt64.toBitVec_shiftRight, Int64.toBitVec_and, Int64.toBitVec_shiftRight, e1, e2]
  ext j hj
  simp only [BitVec.getElem_and, BitVec.signExtend_and]
  have h8 : (BitVec.signExtend 32 (Int64.toBitVec 255))[j] = decide (j < 8) := pu_b255 j hj
  have h9 : (Int32.toBitVec 255)[j] = decide (j < 8) := pu_b255 j hj
  rw [h8, h9]
  by_cases c : j < 8
  · simp only [c, decide_true, Bool.and_true]
    have e4 : part.toBitVec.sshiftRight' ((BitVec.ofNat 64 s).smod 64) = part.toBitVec.sshiftRight s := by
      show part.toBitVec.sshiftRight ((BitVec.ofNat 64 s).smod 64#64).toNat = _
      rw [pu_smd s hs]
    have e5 : part.toUInt64.toBitVec >>> (BitVec.ofNat 64 s % 64) = part.toBitVec >>> s := by
      show part.toBitVec >>> (BitVec.ofNat 64 s % 64#64).toNat = _
      rw [show (BitVec.ofNat 64 s % 64#64).toNat = s by rw [BitVec.toNat_umod, BitVec.toNat_ofNat]; show s % 2 ^ 64 % 64 = s; omega]
    rw [e4, e5, BitVec.getElem_signExtend, BitVec.getElem_signExtend]
    have hj' : j < 64 := by omega
    simp only [hj', dite_true]
    rw [BitVec.getElem_ushiftRight, BitVec.getElem_sshiftRight, dif_pos (by omega : s + j < 64), BitVec.getLsbD_eq_getElem]
  · simp [c]
def pu_tby (part : Int64) (i : Nat) : Int32 := f_gn_byteOf part (Int32.ofNat (8 * i))
theorem pu_tby_md (part : Int64) (i : Nat) (hi : i < 8) : ((part >>> (((8 : Int32) * Int32.ofNat i).toInt64 &&& 63)) &&& (255 : Int64)).toInt32 = pu_tby part i := by
  have q1 : ∀ i : Nat, i < 8 → ((8 : Int32) * Int32.ofNat i).toInt64 &&& 63 = Int64.ofNat (8 * i) := by decide
  have q2 : ∀ i : Nat, i < 8 → (Int32.ofNat (8 * i)).toInt64.toUInt64 &&& Int64.toUInt64 63 = UInt64.ofNat (8 * i) := by decide
  unfold pu_tby f_gn_byteOf
  rw [q1 i hi, q2 i hi]
  exact (pu_byte_eq part (8 * i) (by omega)).symm
def pu_tok (c : Int32) : Prop := c = 0 ∨ (32 ≤ c.toInt ∧ c.toInt ≤ 126)
def pu_tcnt (part : Int64) : Nat → Nat
  | 0 => 0
  | m + 1 => pu_tcnt part m + if pu_tby part m = 0 then 0 else 1
theorem pu_ofn {x : Int32} {k : Nat} (h : x.toInt = k) : x = Int32.ofNat k := by
  have := Int32.toInt_lt x
  apply Int32.toInt_inj.mp
  rw [Int32.toInt_ofNat_of_lt (by omega)]
  exact h
theorem pu_ty_scan {part : Int64} {tr : LnT} {rd : Int32} {td : TdT} {fm : FmT} {ps sp : PsT} {L : LnT} (l0 : 0 ≤ L.2.toInt) (l1 : L.2.toInt ≤ 100) : ∀ (m k : Nat) (v3 v4 : Int32), m ≤ 8 → m < k → v4.toInt = 8 * m - 8 → 0 ≤ v3.toInt → v3.toInt + m ≤ 8 →
    ((∀ i, i < m → pu_tok (pu_tby part i)) → f_gn_type_L6 part tr rd td fm ps sp k v3 v4 L = if L.2.toInt + (v3.toInt + pu_tcnt part m) ≤ 100 then f_gn_type_L74 part tr rd td fm ps sp 65 (v3 + Int32.ofNat (pu_tcnt part m)) 56 L else (0, L)) ∧
    ((¬ ∀ i, i < m → pu_tok (pu_tby part i)) → f_gn_type_L6 part tr rd td fm ps sp k v3 v4 L = (0, L)) := by
  intro m
  induction m with
  | zero =>
    intro k v3 v4 hm hk h4 h3 h5
    obtain ⟨k, rfl⟩ : ∃ k', k = k' + 1 := ⟨k - 1, by omega⟩
    refine ⟨fun _ => ?_, fun q => (q fun i hi => by omega).elim⟩
    rw [f_gn_type_L6, if_pos (by (simp only [Int32.lt_iff_toInt_lt, Int32.le_iff_toInt_le, ← Int32.toInt_inj, pu_ia, pu_isb, pu_im, pu_tn, pu_in1, pu_in2, pu_in3, pu_in4, pu_in8, Int32.reduceToInt, Int.reduceNeg, ne_eq] at *; omega))]
    unfold bnd f_ln_size pu_tcnt; dsimp only
    have e : v3 + Int32.ofNat 0 = v3 := by
      show v3 + 0 = v3
      exact Int32.add_zero _
    rw [e]
    by_cases c : L.2 + v3 ≤ 100
    · rw [if_pos c, if_pos (by clear e; (simp only [Int32.lt_iff_toInt_lt, Int32.le_iff_toInt_le, ← Int32.toInt_inj, pu_ia, pu_isb, pu_im, pu_tn, pu_in1, pu_in2, pu_in3, pu_in4, pu_in8, Int32.reduceToInt, Int.reduceNeg, ne_eq] at *; omega))]
    · rw [if_neg c, if_neg (by clear e; (simp only [Int32.lt_iff_toInt_lt, Int32.le_iff_toInt_le, ← Int32.toInt_inj, pu_ia, pu_isb, pu_im, pu_tn, pu_in1, pu_in2, pu_in3, pu_in4, pu_in8, Int32.reduceToInt, Int.reduceNeg, ne_eq] at *; omega))]
  | succ m ih =>
    intro k v3 v4 hm hk h4 h3 h5
    obtain ⟨k, rfl⟩ : ∃ k', k = k' + 1 := ⟨k - 1, by omega⟩
    have e4 : v4 = Int32.ofNat (8 * m) := pu_ofn (by rw [h4]; omega)
    rw [f_gn_type_L6, if_neg (by clear ih e4; (simp only [Int32.lt_iff_toInt_lt, Int32.le_iff_toInt_le, ← Int32.toInt_inj, pu_ia, pu_isb, pu_im, pu_tn, pu_in1, pu_in2, pu_in3, pu_in4, pu_in8, Int32.reduceToInt, Int.reduceNeg, ne_eq] at *; omega))]
    have eb : f_gn_byteOf part v4 = pu_tby part m := by rw [e4]; rfl
    have e8 : (v4 + -8).toInt = 8 * m - 8 := by clear ih e4 eb; (simp only [Int32.lt_iff_toInt_lt, Int32.le_iff_toInt_le, ← Int32.toInt_inj, pu_ia, pu_isb, pu_im, pu_tn, pu_in1, pu_in2, pu_in3, pu_in4, pu_in8, Int32.reduceToInt, Int.reduceNeg, ne_eq] at *; omega)
    rw [eb]
    unfold bnd; dsimp only
    by_cases c0 : pu_tby part m = 0
    · rw [if_pos c0]
      obtain ⟨i1, i2⟩ := ih k v3 (v4 + -8) (by omega) (by omega) e8 h3 (by omega)
      refine ⟨fun q => ?_, fun q => ?_⟩
      · rw [i1 fun i hi => q i (by omega)]
        simp only [pu_tcnt, if_pos c0, Nat.add_zero]
      · refine i2 fun q' => q fun i hi => ?_
        by_cases hi' : i = m
        · subst hi'; exact .inl c0
        · exact q' i (by omega)
    · rw [if_neg c0]
      by_cases c1 : pu_tby part m < 32
      · rw [if_pos c1]
        refine ⟨fun q => ?_, fun _ => rfl⟩
        rcases q m (by omega) with q | q
        · exact absurd q c0
        · clear ih e4 eb; (simp only [Int32.lt_iff_toInt_lt, Int32.le_iff_toInt_le, ← Int32.toInt_inj, pu_ia, pu_isb, pu_im, pu_tn, pu_in1, pu_in2, pu_in3, pu_in4, pu_in8, Int32.reduceToInt, Int.reduceNeg, ne_eq] at *; omega)
      · rw [if_neg c1]
        by_cases c2 : pu_tby part m ≤ 126
        · rw [if_pos c2]
          have e3 : (v3 + 1).toInt = v3.toInt + 1 := by clear ih e4 eb; (simp only [Int32.lt_iff_toInt_lt, Int32.le_iff_toInt_le, ← Int32.toInt_inj, pu_ia, pu_isb, pu_im, pu_tn, pu_in1, pu_in2, pu_in3, pu_in4, pu_in8, Int32.reduceToInt, Int.reduceNeg, ne_eq] at *; omega)
          obtain ⟨i1, i2⟩ := ih k (v3 + 1) (v4 + -8) (by omega) (by omega) e8 (by omega) (by omega)
          refine ⟨fun q => ?_, fun q => ?_⟩
          · rw [i1 fun i hi => q i (by omega), e3]
            simp only [pu_tcnt, if_neg c0]
            have e5 : v3 + 1 + Int32.ofNat (pu_tcnt part m) = v3 + Int32.ofNat (pu_tcnt part m + 1) := by
              rw [Int32.ofNat_add, Int32.add_assoc, Int32.add_comm 1]; rfl
            rw [e5]
            have e6 : L.2.toInt + (v3.toInt + 1 + (pu_tcnt part m : Int)) = L.2.toInt + (v3.toInt + ((pu_tcnt part m + 1 : Nat) : Int)) := by omega
            rw [e6]
          · refine i2 fun q' => q fun i hi => ?_
            by_cases hi' : i = m
            · subst hi'; right; clear ih e4 eb; (simp only [Int32.lt_iff_toInt_lt, Int32.le_iff_toInt_le, ← Int32.toInt_inj, pu_ia, pu_isb, pu_im, pu_tn, pu_in1, pu_in2, pu_in3, pu_in4, pu_in8, Int32.reduceToInt, Int.reduceNeg, ne_eq] at *; omega)
            · exact q' i (by omega)
        · rw [if_neg c2]
          refine ⟨fun q => ?_, fun _ => rfl⟩
          rcases q m (by omega) with q | q
          · exact absurd q c0
          · clear ih e4 eb; (simp only [Int32.lt_iff_toInt_lt, Int32.le_iff_toInt_le, ← Int32.toInt_inj, pu_ia, pu_isb, pu_im, pu_tn, pu_in1, pu_in2, pu_in3, pu_in4, pu_in8, Int32.reduceToInt, Int.reduceNeg, ne_eq] at *; omega)
theorem pu_ty_fill {part : Int64} {tr : LnT} {rd : Int32} {td : TdT} {fm : FmT} {ps sp : PsT} {th n w : Int32} : ∀ (m k j : Nat) (v4 u v3 : Int32) (L : LnT) (t : Nat → Int32), m ≤ 8 → m < k → m < j → v4.toInt = 8 * m - 8 → u.toInt = m - 1 →
    (∀ i, i < m → pu_tok (pu_tby part i)) → v3.toInt + pu_tcnt part m ≤ 100 → pu_RL L t v3 →
    ∃ L' t' n', f_gn_type_L74 part tr rd td fm ps sp k w v4 L = (1, L') ∧ f_md_type_L14 part j v3 u th t n = (1, th, t', n') ∧ pu_RL L' t' n' := by
  intro m
  induction m with
  | zero =>
    intro k j v4 u v3 L t hm hk hj h4 h7 hg hc hr
    obtain ⟨k, rfl⟩ : ∃ k', k = k' + 1 := ⟨k - 1, by omega⟩
    obtain ⟨j, rfl⟩ : ∃ k', j = k' + 1 := ⟨j - 1, by omega⟩
    rw [f_gn_type_L74, f_md_type_L14, if_pos (by clear hr hg; (simp only [Int32.lt_iff_toInt_lt, Int32.le_iff_toInt_le, ← Int32.toInt_inj, pu_ia, pu_isb, pu_im, pu_tn, pu_in1, pu_in2, pu_in3, pu_in4, pu_in8, Int32.reduceToInt, Int.reduceNeg, ne_eq] at *; omega)), if_pos (by clear hr hg; (simp only [Int32.lt_iff_toInt_lt, Int32.le_iff_toInt_le, ← Int32.toInt_inj, pu_ia, pu_isb, pu_im, pu_tn, pu_in1, pu_in2, pu_in3, pu_in4, pu_in8, Int32.reduceToInt, Int.reduceNeg, ne_eq] at *; omega))]
    exact ⟨L, t, v3, rfl, rfl, hr⟩
  | succ m ih =>
    intro k j v4 u v3 L t hm hk hj h4 h7 hg hc hr
    obtain ⟨k, rfl⟩ : ∃ k', k = k' + 1 := ⟨k - 1, by omega⟩
    obtain ⟨j, rfl⟩ : ∃ k', j = k' + 1 := ⟨j - 1, by omega⟩
    have e4 : v4 = Int32.ofNat (8 * m) := pu_ofn (by rw [h4]; omega)
    have e7 : u = Int32.ofNat m := pu_ofn (by rw [h7]; omega)
    have hl := hr.lo; have hh := hr.hi
    have e8 : (v4 + -8).toInt = 8 * m - 8 := by clear ih e4 e7 hr hg; (simp only [Int32.lt_iff_toInt_lt, Int32.le_iff_toInt_le, ← Int32.toInt_inj, pu_ia, pu_isb, pu_im, pu_tn, pu_in1, pu_in2, pu_in3, pu_in4, pu_in8, Int32.reduceToInt, Int.reduceNeg, ne_eq] at *; omega)
    have e9 : (u + -1).toInt = m - 1 := by clear ih e4 e7 hr hg; (simp only [Int32.lt_iff_toInt_lt, Int32.le_iff_toInt_le, ← Int32.toInt_inj, pu_ia, pu_isb, pu_im, pu_tn, pu_in1, pu_in2, pu_in3, pu_in4, pu_in8, Int32.reduceToInt, Int.reduceNeg, ne_eq] at *; omega)
    have eb : f_gn_byteOf part v4 = pu_tby part m := by rw [e4]; rfl
    have em : (((part >>> (((8 : Int32) * u).toInt64 &&& 63)) &&& (255 : Int64)).toInt32) = pu_tby part m := by rw [e7]; exact pu_tby_md part m (by omega)
    rw [f_gn_type_L74, f_md_type_L14, if_neg (by clear ih e4 e7 hr hg eb em; (simp only [Int32.lt_iff_toInt_lt, Int32.le_iff_toInt_le, ← Int32.toInt_inj, pu_ia, pu_isb, pu_im, pu_tn, pu_in1, pu_in2, pu_in3, pu_in4, pu_in8, Int32.reduceToInt, Int.reduceNeg, ne_eq] at *; omega)), if_neg (by clear ih e4 e7 hr hg eb em; (simp only [Int32.lt_iff_toInt_lt, Int32.le_iff_toInt_le, ← Int32.toInt_inj, pu_ia, pu_isb, pu_im, pu_tn, pu_in1, pu_in2, pu_in3, pu_in4, pu_in8, Int32.reduceToInt, Int.reduceNeg, ne_eq] at *; omega)), eb, em]
    unfold bnd; dsimp only
    by_cases c0 : pu_tby part m = 0
    · rw [if_pos c0, if_pos c0]
      simp only [pu_tcnt, if_pos c0, Nat.add_zero] at hc
      exact ih k j _ _ _ _ _ (by omega) (by omega) (by omega) e8 e9 (fun i hi => hg i (by omega)) hc hr
    · have hk := (hg m (by omega)).resolve_left c0
      simp only [pu_tcnt, if_neg c0] at hc
      rw [if_neg c0, if_neg c0, if_neg (by clear ih e4 e7 hr hg eb em; (simp only [Int32.lt_iff_toInt_lt, Int32.le_iff_toInt_le, ← Int32.toInt_inj, pu_ia, pu_isb, pu_im, pu_tn, pu_in1, pu_in2, pu_in3, pu_in4, pu_in8, Int32.reduceToInt, Int.reduceNeg, ne_eq] at *; omega)), if_neg (by clear ih e4 e7 hr hg eb em; (simp only [Int32.lt_iff_toInt_lt, Int32.le_iff_toInt_le, ← Int32.toInt_inj, pu_ia, pu_isb, pu_im, pu_tn, pu_in1, pu_in2, pu_in3, pu_in4, pu_in8, Int32.reduceToInt, Int.reduceNeg, ne_eq] at *; omega)), if_neg (by clear ih e4 e7 hr hg eb em; (simp only [Int32.lt_iff_toInt_lt, Int32.le_iff_toInt_le, ← Int32.toInt_inj, pu_ia, pu_isb, pu_im, pu_tn, pu_in1, pu_in2, pu_in3, pu_in4, pu_in8, Int32.reduceToInt, Int.reduceNeg, ne_eq] at *; omega)), pu_low16 _ (by omega) (by omega)]
      have q : pu_RB1 L t v3 v3.toInt := ⟨hr, Int.le_refl _⟩
      have e3 : (v3 + 1).toInt = v3.toInt + 1 := by clear ih e4 e7 hr hg eb em q; (simp only [Int32.lt_iff_toInt_lt, Int32.le_iff_toInt_le, ← Int32.toInt_inj, pu_ia, pu_isb, pu_im, pu_tn, pu_in1, pu_in2, pu_in3, pu_in4, pu_in8, Int32.reduceToInt, Int.reduceNeg, ne_eq] at *; omega)
      exact ih k j _ _ _ _ _ (by omega) (by omega) (by omega) e8 e9 (fun i hi => hg i (by omega)) (by omega) (q.add (by omega) (by omega) (by omega)).r
theorem pu_ty_no {part : Int64} {th n : Int32} : ∀ (m j : Nat) (u v3 : Int32) (t : Nat → Int32), m ≤ 8 → m < j → u.toInt = m - 1 → 0 ≤ v3.toInt → v3.toInt ≤ 100 →
    ¬ ((∀ i, i < m → pu_tok (pu_tby part i)) ∧ v3.toInt + pu_tcnt part m ≤ 100) →
    ∃ t', f_md_type_L14 part j v3 u th t n = (0, th, t', n) ∧ ∀ i : Nat, (i : Int) < v3.toInt → t' i = t i := by
  intro m
  induction m with
  | zero =>
    intro j u v3 t hm hj h7 h0 h1 hn
    exact (hn ⟨fun i hi => by omega, by simpa [pu_tcnt] using h1⟩).elim
  | succ m ih =>
    intro j u v3 t hm hj h7 h0 h1 hn
    obtain ⟨j, rfl⟩ : ∃ k', j = k' + 1 := ⟨j - 1, by omega⟩
    have e7 : u = Int32.ofNat m := pu_ofn (by rw [h7]; omega)
    have e9 : (u + -1).toInt = m - 1 := by clear ih e7 hn; (simp only [Int32.lt_iff_toInt_lt, Int32.le_iff_toInt_le, ← Int32.toInt_inj, pu_ia, pu_isb, pu_im, pu_tn, pu_in1, pu_in2, pu_in3, pu_in4, pu_in8, Int32.reduceToInt, Int.reduceNeg, ne_eq] at *; omega)
    have em : (((part >>> (((8 : Int32) * u).toInt64 &&& 63)) &&& (255 : Int64)).toInt32) = pu_tby part m := by rw [e7]; exact pu_tby_md part m (by omega)
    rw [f_md_type_L14, if_neg (by clear ih e7 hn em; (simp only [Int32.lt_iff_toInt_lt, Int32.le_iff_toInt_le, ← Int32.toInt_inj, pu_ia, pu_isb, pu_im, pu_tn, pu_in1, pu_in2, pu_in3, pu_in4, pu_in8, Int32.reduceToInt, Int.reduceNeg, ne_eq] at *; omega)), em]
    by_cases c0 : pu_tby part m = 0
    · rw [if_pos c0]
      refine ih j _ _ _ (by omega) (by omega) e9 h0 h1 fun q => hn ⟨fun i hi => ?_, ?_⟩
      · by_cases hi' : i = m
        · subst hi'; exact .inl c0
        · exact q.1 i (by omega)
      · simp only [pu_tcnt, if_pos c0, Nat.add_zero]; exact q.2
    · rw [if_neg c0]
      by_cases c1 : pu_tby part m < 32
      · rw [if_pos c1]; exact ⟨t, rfl, fun _ _ => rfl⟩
      rw [if_neg c1]
      by_cases c2 : 126 < pu_tby part m
      · rw [if_pos c2]; exact ⟨t, rfl, fun _ _ => rfl⟩
      rw [if_neg c2]
      by_cases c3 : v3 = 100
      · rw [if_pos c3]; exact ⟨t, rfl, fun _ _ => rfl⟩
      rw [if_neg c3]
      have e3 : (v3 + 1).toInt = v3.toInt + 1 := by clear ih e7 hn em; (simp only [Int32.lt_iff_toInt_lt, Int32.le_iff_toInt_le, ← Int32.toInt_inj, pu_ia, pu_isb, pu_im, pu_tn, pu_in1, pu_in2, pu_in3, pu_in4, pu_in8, Int32.reduceToInt, Int.reduceNeg, ne_eq] at *; omega)
      have h99 : v3.toInt < 100 := by clear ih e7 hn em; (simp only [Int32.lt_iff_toInt_lt, Int32.le_iff_toInt_le, ← Int32.toInt_inj, pu_ia, pu_isb, pu_im, pu_tn, pu_in1, pu_in2, pu_in3, pu_in4, pu_in8, Int32.reduceToInt, Int.reduceNeg, ne_eq] at *; omega)
      obtain ⟨t', q1, q2⟩ := ih j (u + -1) (v3 + 1) (upd t v3.toNatClampNeg (pu_tby part m)) (by omega) (by omega) e9 (by omega) (by omega) (by
        intro q
        refine hn ⟨fun i hi => ?_, ?_⟩
        · by_cases hi' : i = m
          · subst hi'; right; clear ih e7 hn em q; (simp only [Int32.lt_iff_toInt_lt, Int32.le_iff_toInt_le, ← Int32.toInt_inj, pu_ia, pu_isb, pu_im, pu_tn, pu_in1, pu_in2, pu_in3, pu_in4, pu_in8, Int32.reduceToInt, Int.reduceNeg, ne_eq] at *; omega)
          · exact q.1 i (by omega)
        · simp only [pu_tcnt, if_neg c0]
          have := q.2
          omega)
      refine ⟨t', q1, fun i hi => ?_⟩
      rw [q2 i (by omega)]
      unfold upd
      rw [if_neg (by rw [pu_tn]; omega)]
theorem pu_p_type {ln tr : LnT} {rd : Int32} {td : TdT} {fm : FmT} {ps sp : PsT} {t : Nat → Int32} {n : Int32} {part : Int64} (h : pu_RL ln t n)
    {r r' th n' : Int32} {ln' : LnT} {t' : Nat → Int32} (e : f_gn_type part ln tr rd td fm ps sp = (r, ln')) (e' : f_md_type t n part = (r', th, t', n')) : r = r' ∧ pu_RL ln' t' n' := by
  unfold f_gn_type at e
  unfold f_md_type at e'
  have hl := h.lo; have hh := h.hi; have hs := h.sz
  obtain ⟨i1, i2⟩ := pu_ty_scan (part := part) (tr := tr) (rd := rd) (td := td) (fm := fm) (ps := ps) (sp := sp) (L := ln) (by rw [hs]; exact hl) (by rw [hs]; exact hh) 8 65 0 56 (by omega) (by omega) (by decide) (by decide) (by decide)
  by_cases c : (∀ i, i < 8 → pu_tok (pu_tby part i)) ∧ n.toInt + pu_tcnt part 8 ≤ 100
  · rw [i1 c.1, if_pos (by rw [hs]; show n.toInt + (0 + _) ≤ 100; have := c.2; omega)] at e
    obtain ⟨L', t'', n'', a1, a2, a3⟩ := pu_ty_fill (part := part) (tr := tr) (rd := rd) (td := td) (fm := fm) (ps := ps) (sp := sp) (th := 0) (n := n) (w := 0 + Int32.ofNat (pu_tcnt part 8)) 8 65 9 56 7 n ln t (by omega) (by omega) (by omega) (by decide) (by decide) c.1 c.2 h
    rw [a1] at e; rw [a2] at e'
    cases e; cases e'
    exact ⟨rfl, a3⟩
  · obtain ⟨t2, a1, a2⟩ := pu_ty_no (part := part) (th := 0) (n := n) 8 9 7 n t (by omega) (by omega) (by decide) hl hh c
    rw [a1] at e'
    have e0 : f_gn_type_L6 part tr rd td fm ps sp 65 0 56 ln = (0, ln) := by
      by_cases c1 : ∀ i, i < 8 → pu_tok (pu_tby part i)
      · rw [i1 c1, if_neg]
        rw [hs]; show ¬ n.toInt + (0 + _) ≤ 100
        intro q; exact c ⟨c1, by omega⟩
      · exact i2 c1
    rw [e0] at e
    cases e; cases e'
    exact ⟨rfl, ⟨h.sz, h.lo, h.hi, fun j hj => (h.eq j hj).trans (a2 j hj).symm, fun j hj => by rw [a2 j hj]; exact h.ch j hj⟩⟩
theorem pu_and63 (x : Int32) : 0 ≤ (x &&& 63).toInt ∧ (x &&& 63).toInt < 64 := by
  have h1 : (x &&& 63).toBitVec.toNat ≤ 63 := by
    rw [Int32.toBitVec_and, BitVec.toNat_and]
    exact Nat.and_le_right
  have h2 : (x &&& 63).toInt = (x &&& 63).toBitVec.toInt := rfl
  rw [h2, BitVec.toInt_eq_toNat_of_lt (by omega)]
  omega
theorem pu_from_rg (m : Int32) : 0 ≤ (f_gn_fromOf m).toInt ∧ (f_gn_fromOf m).toInt < 64 := pu_and63 m
theorem pu_to_rg (m : Int32) : 0 ≤ (f_gn_toOf m).toInt ∧ (f_gn_toOf m).toInt < 64 := pu_and63 _
theorem pu_shr12 (m : Int32) : (f_gn_becomesOf m).toInt = m.toInt / 4096 := by
  have e : f_gn_becomesOf m = m >>> 12 := rfl
  have h2 : (m >>> 12).toInt = (m >>> 12).toBitVec.toInt := rfl
  rw [e, h2, Int32.toBitVec_shiftRight]
  show (m.toBitVec.sshiftRight ((12#32).smod 32#32).toNat).toInt = _
  rw [show ((12#32).smod 32#32).toNat = 12 by decide, BitVec.toInt_sshiftRight, Int.shiftRight_eq_div_pow]
  rfl
theorem pu_nat_ofn {k : Nat} (h : k < 2 ^ 31) : (Int32.ofNat k).toInt = k := Int32.toInt_ofNat_of_lt h
theorem pu_idx_L {T : TdT} {m tl : Int32} (ht : T.2.2 = tl) (h3 : tl.toInt ≤ 330) : ∀ (k : Nat) (v : Int32), 0 ≤ v.toInt → (330 - v.toInt).toNat < k →
    (∃ j : Nat, v.toInt ≤ j ∧ (j : Int) < tl.toInt ∧ T.1 j = m ∧ f_td_indexOf_L2 T m k v = Int32.ofNat j) ∨ ((∀ j : Nat, v.toInt ≤ j → (j : Int) < tl.toInt → T.1 j ≠ m) ∧ f_td_indexOf_L2 T m k v = -1) := by
  intro k
  induction k with
  | zero => intro v h0 h1; omega
  | succ k ih =>
    intro v h0 h1
    rw [f_td_indexOf_L2, ht]
    by_cases c1 : tl ≤ v
    · rw [if_pos c1]
      exact .inr ⟨fun j a b => by clear ih; (simp only [Int32.lt_iff_toInt_lt, Int32.le_iff_toInt_le, ← Int32.toInt_inj, pu_ia, pu_isb, pu_im, pu_tn, pu_in1, pu_in2, pu_in3, pu_in4, pu_in8, Int32.reduceToInt, Int.reduceNeg, ne_eq] at *; omega), rfl⟩
    have c9 : v.toInt < tl.toInt := by clear ih; (simp only [Int32.lt_iff_toInt_lt, Int32.le_iff_toInt_le, ← Int32.toInt_inj, pu_ia, pu_isb, pu_im, pu_tn, pu_in1, pu_in2, pu_in3, pu_in4, pu_in8, Int32.reduceToInt, Int.reduceNeg, ne_eq] at *; omega)
    rw [if_neg c1, if_neg (by clear ih; (simp only [Int32.lt_iff_toInt_lt, Int32.le_iff_toInt_le, ← Int32.toInt_inj, pu_ia, pu_isb, pu_im, pu_tn, pu_in1, pu_in2, pu_in3, pu_in4, pu_in8, Int32.reduceToInt, Int.reduceNeg, ne_eq] at *; omega))]
    by_cases c2 : T.1 v.toNatClampNeg = m
    · rw [if_pos c2]
      exact .inl ⟨v.toNatClampNeg, by rw [pu_tn]; omega, by clear ih; (simp only [Int32.lt_iff_toInt_lt, Int32.le_iff_toInt_le, ← Int32.toInt_inj, pu_ia, pu_isb, pu_im, pu_tn, pu_in1, pu_in2, pu_in3, pu_in4, pu_in8, Int32.reduceToInt, Int.reduceNeg, ne_eq] at *; omega), c2, pu_ofn (by rw [pu_tn]; omega)⟩
    rw [if_neg c2]
    have e3 : (v + 1).toInt = v.toInt + 1 := by clear ih c2; (simp only [Int32.lt_iff_toInt_lt, Int32.le_iff_toInt_le, ← Int32.toInt_inj, pu_ia, pu_isb, pu_im, pu_tn, pu_in1, pu_in2, pu_in3, pu_in4, pu_in8, Int32.reduceToInt, Int.reduceNeg, ne_eq] at *; omega)
    rcases ih (v + 1) (by omega) (by omega) with ⟨j, a, b, c, d⟩ | ⟨a, b⟩
    · exact .inl ⟨j, by omega, b, c, d⟩
    · refine .inr ⟨fun j q1 q2 => ?_, b⟩
      by_cases hj : (j : Int) = v.toInt
      · have : j = v.toNatClampNeg := by rw [pu_tn]; omega
        rw [this]; exact c2
      · exact a j (by omega) q2
theorem pu_plc_L {mv : Nat → Int32} {m tl : Int32} (h3 : tl.toInt ≤ 330) : ∀ (k : Nat) (w v : Int32), 0 ≤ v.toInt → (330 - v.toInt).toNat < k →
    (∃ j : Nat, v.toInt ≤ j ∧ (j : Int) < tl.toInt ∧ mv j = m ∧ f_md_place_L4 mv tl m k w v = Int32.ofNat j) ∨ ((∀ j : Nat, v.toInt ≤ j → (j : Int) < tl.toInt → mv j ≠ m) ∧ f_md_place_L4 mv tl m k w v = w) := by
  intro k
  induction k with
  | zero => intro w v h0 h1; omega
  | succ k ih =>
    intro w v h0 h1
    rw [f_md_place_L4]
    by_cases c1 : tl ≤ v
    · rw [if_pos c1]
      exact .inr ⟨fun j a b => by clear ih; (simp only [Int32.lt_iff_toInt_lt, Int32.le_iff_toInt_le, ← Int32.toInt_inj, pu_ia, pu_isb, pu_im, pu_tn, pu_in1, pu_in2, pu_in3, pu_in4, pu_in8, Int32.reduceToInt, Int.reduceNeg, ne_eq] at *; omega), rfl⟩
    rw [if_neg c1]
    have c9 : v.toInt < tl.toInt := by clear ih; (simp only [Int32.lt_iff_toInt_lt, Int32.le_iff_toInt_le, ← Int32.toInt_inj, pu_ia, pu_isb, pu_im, pu_tn, pu_in1, pu_in2, pu_in3, pu_in4, pu_in8, Int32.reduceToInt, Int.reduceNeg, ne_eq] at *; omega)
    have e3 : (v + 1).toInt = v.toInt + 1 := by clear ih; (simp only [Int32.lt_iff_toInt_lt, Int32.le_iff_toInt_le, ← Int32.toInt_inj, pu_ia, pu_isb, pu_im, pu_tn, pu_in1, pu_in2, pu_in3, pu_in4, pu_in8, Int32.reduceToInt, Int.reduceNeg, ne_eq] at *; omega)
    by_cases c2 : mv v.toNatClampNeg = m
    · rw [if_pos c2]
      rcases ih v (v + 1) (by omega) (by omega) with ⟨j, a, b, c, d⟩ | ⟨a, b⟩
      · exact .inl ⟨j, by omega, b, c, d⟩
      · exact .inl ⟨v.toNatClampNeg, by rw [pu_tn]; omega, by clear ih; (simp only [Int32.lt_iff_toInt_lt, Int32.le_iff_toInt_le, ← Int32.toInt_inj, pu_ia, pu_isb, pu_im, pu_tn, pu_in1, pu_in2, pu_in3, pu_in4, pu_in8, Int32.reduceToInt, Int.reduceNeg, ne_eq] at *; omega), c2, by rw [b]; exact pu_ofn (by rw [pu_tn]; omega)⟩
    rw [if_neg c2]
    rcases ih w (v + 1) (by omega) (by omega) with ⟨j, a, b, c, d⟩ | ⟨a, b⟩
    · exact .inl ⟨j, by omega, b, c, d⟩
    · refine .inr ⟨fun j q1 q2 => ?_, b⟩
      by_cases hj : (j : Int) = v.toInt
      · have : j = v.toNatClampNeg := by rw [pu_tn]; omega
        rw [this]; exact c2
      · exact a j (by omega) q2
theorem pu_idx {T : TdT} {b mv sg : Nat → Int32} {tl : Int32} (h : pu_RT T b mv sg tl) (m : Int32) :
    (∃ j : Nat, (j : Int) < tl.toInt ∧ mv j = m ∧ f_td_indexOf T m = Int32.ofNat j ∧ f_md_place mv tl m = Int32.ofNat j) ∨ ((∀ j : Nat, (j : Int) < tl.toInt → mv j ≠ m) ∧ f_td_indexOf T m = -1 ∧ f_md_place mv tl m = -1) := by
  have z : (0 : Int32).toInt = 0 := by decide
  have hh := h.hi
  rcases pu_idx_L (m := m) h.ct h.hi 331 0 (by decide) (by decide) with ⟨j, a1, b1, c1, d1⟩ | ⟨a1, b1⟩
  · rcases pu_plc_L (mv := mv) (m := m) h.hi 331 (-1) 0 (by decide) (by decide) with ⟨i, a2, b2, c2, d2⟩ | ⟨a2, b2⟩
    · rw [h.emv j b1] at c1
      have := h.ne j i b1 b2 (c1.trans c2.symm)
      subst this
      exact .inl ⟨j, b1, c1, d1, d2⟩
    · rw [h.emv j b1] at c1
      exact absurd c1 (a2 j (by omega) b1)
  · rcases pu_plc_L (mv := mv) (m := m) h.hi 331 (-1) 0 (by decide) (by decide) with ⟨i, a2, b2, c2, d2⟩ | ⟨a2, b2⟩
    · rw [← h.emv i b2] at c2
      exact absurd c2 (a1 i (by omega) b2)
    · exact .inr ⟨fun j q => a2 j (by omega) q, b1, b2⟩
theorem pu_man_on {P : PsT} {b : Nat → Int32} {sq : Int32} (h : pu_RB P.1 b) (h0 : 0 ≤ sq.toInt) (h1 : sq.toInt < 64) : f_ps_manOn P sq = b sq.toNatClampNeg := by
  unfold f_ps_manOn
  rw [if_neg (by clear h; (simp only [Int32.lt_iff_toInt_lt, Int32.le_iff_toInt_le, ← Int32.toInt_inj, pu_ia, pu_isb, pu_im, pu_tn, pu_in1, pu_in2, pu_in3, pu_in4, pu_in8, Int32.reduceToInt, Int.reduceNeg, ne_eq] at *; omega)), if_neg (by clear h; (simp only [Int32.lt_iff_toInt_lt, Int32.le_iff_toInt_le, ← Int32.toInt_inj, pu_ia, pu_isb, pu_im, pu_tn, pu_in1, pu_in2, pu_in3, pu_in4, pu_in8, Int32.reduceToInt, Int.reduceNeg, ne_eq] at *; omega))]
  exact h.eq _ (by clear h; (simp only [Int32.lt_iff_toInt_lt, Int32.le_iff_toInt_le, ← Int32.toInt_inj, pu_ia, pu_isb, pu_im, pu_tn, pu_in1, pu_in2, pu_in3, pu_in4, pu_in8, Int32.reduceToInt, Int.reduceNeg, ne_eq] at *; omega))
theorem pu_kind_of {m : Int32} (h0 : 0 ≤ m.toInt) (h1 : m.toInt ≤ 12) : (f_gn_kindOf m = 1 ↔ (m = 1 ∨ m = 7)) ∧ (f_gn_kindOf m = 6 ↔ (m = 6 ∨ m = 12)) ∧ f_gn_kindOf m = (if m ≤ 6 then m else m - 6) ∧ 0 ≤ (f_gn_kindOf m).toInt ∧ (f_gn_kindOf m).toInt ≤ 6 ∧ ((f_gn_kindOf m).toInt = 0 ↔ m = 0) :=
  pu_all_rg (P := fun m => (f_gn_kindOf m = 1 ↔ (m = 1 ∨ m = 7)) ∧ (f_gn_kindOf m = 6 ↔ (m = 6 ∨ m = 12)) ∧ f_gn_kindOf m = (if m ≤ 6 then m else m - 6) ∧ 0 ≤ (f_gn_kindOf m).toInt ∧ (f_gn_kindOf m).toInt ≤ 6 ∧ ((f_gn_kindOf m).toInt = 0 ↔ m = 0)) 13 (by decide) h0 (by omega)
theorem pu_RT.take {T : TdT} {b mv sg : Nat → Int32} {tl m s : Int32} (h : pu_RT T b mv sg tl) (hc : tl.toInt < 330) (hn : ∀ j : Nat, (j : Int) < tl.toInt → mv j ≠ m) (hm : pu_MvOk b m) (hs : 0 ≤ s.toInt ∧ s.toInt ≤ 2) :
    pu_RT (upd T.1 tl.toNatClampNeg m, upd T.2.1 tl.toNatClampNeg s, tl + 1) b (upd mv tl.toNatClampNeg m) (upd sg tl.toNatClampNeg s) (tl + 1) := by
  have hl := h.lo
  have e3 : (tl + 1).toInt = tl.toInt + 1 := by clear h hn hm; (simp only [Int32.lt_iff_toInt_lt, Int32.le_iff_toInt_le, ← Int32.toInt_inj, pu_ia, pu_isb, pu_im, pu_tn, pu_in1, pu_in2, pu_in3, pu_in4, pu_in8, Int32.reduceToInt, Int.reduceNeg, ne_eq] at *; omega)
  refine ⟨rfl, by omega, by omega, fun j hj => ?_, fun j hj => ?_, fun j hj => ?_, fun j hj => ?_, fun i j hi hj => ?_⟩
  · unfold upd; dsimp only; split
    · rfl
    · rename_i q; exact h.emv j (by rw [pu_tn] at q; omega)
  · unfold upd; dsimp only; split
    · rfl
    · rename_i q; exact h.esg j (by rw [pu_tn] at q; omega)
  · unfold upd; split
    · exact hm
    · rename_i q; exact h.ok j (by rw [pu_tn] at q; omega)
  · unfold upd; split
    · exact hs
    · rename_i q; exact h.sr j (by rw [pu_tn] at q; omega)
  · unfold upd; split <;> split
    · intro _; omega
    · rename_i q1 q2; intro q; exact absurd q.symm (hn j (by rw [pu_tn] at q2; omega))
    · rename_i q1 q2; intro q; exact absurd q (hn i (by rw [pu_tn] at q1; omega))
    · rename_i q1 q2; exact h.ne i j (by rw [pu_tn] at q1; omega) (by rw [pu_tn] at q2; omega)
theorem pu_p_tell {ln tr : LnT} {rd : Int32} {td : TdT} {fm : FmT} {ps sp : PsT} {b mv sg : Nat → Int32} {sd rt pa cl nu tl m s : Int32} (h : pu_RT td b mv sg tl) (hp : pu_RP ps b sd rt pa cl nu)
    {r r' th tl' : Int32} {td' : TdT} {mv' sg' : Nat → Int32} (e : f_gn_tell m s ln tr rd td fm ps sp = (r, td')) (e' : f_md_tell b mv sg tl m s = (r', th, mv', sg', tl')) : r = r' ∧ pu_RT td' b mv' sg' tl' := by
  have hl := h.lo; have hh := h.hi
  have no : ∀ {x : Int32 × TdT} {y : Int32 × Int32 × (Nat → Int32) × (Nat → Int32) × Int32}, x = (0, td) → y = (0, 0, mv, sg, tl) → x = (r, td') → y = (r', th, mv', sg', tl') → r = r' ∧ pu_RT td' b mv' sg' tl' := by
    intro x y h1 h2 h3 h4
    rw [h1] at h3; rw [h2] at h4; cases h3; cases h4; exact ⟨rfl, h⟩
  have eB : m >>> ((12 : Int32) &&& 31) = f_gn_becomesOf m := rfl
  have eF : f_md_fromOf m = f_gn_fromOf m := rfl
  have eT : f_md_toOf m = f_gn_toOf m := rfl
  have hB := pu_shr12 m
  have hm1 := Int32.le_toInt m; have hm2 := Int32.toInt_lt m
  have hf := pu_from_rg m
  have eM := pu_man_on (P := ps) hp.bd hf.1 hf.2
  have rM := hp.bd.rg (f_gn_fromOf m).toNatClampNeg (by rw [pu_tn]; omega)
  have kM := pu_kind_of rM.1 rM.2
  unfold f_gn_tell f_gn_isMove f_gn_isPromotion bnd2 bnd at e; dsimp only at e
  unfold f_md_tell f_md_isPawn bnd at e'; dsimp only at e'
  rw [eB, eF, eT] at e'
  rw [eM] at e
  generalize hx : b (f_gn_fromOf m).toNatClampNeg = x at *
  generalize hbe : f_gn_becomesOf m = bec at *
  generalize hfr : f_gn_fromOf m = fr at *
  generalize hto : f_gn_toOf m = too at *
  have mvI : (¬ (if m < 0 then (0 : Int32) else if bec = 0 then 1 else if (if bec < 2 then (0 : Int32) else if 5 < bec then 0 else 1) = 0 then 0 else 1) = 0) ↔ (0 ≤ bec.toInt ∧ bec ≠ 1 ∧ bec.toInt ≤ 5) := by
    clear no e e' h hp kM eM
    constructor
    · intro q
      by_cases c1 : m < 0
      · rw [if_pos c1] at q; exact absurd rfl q
      rw [if_neg c1] at q
      by_cases c2 : bec = 0
      · subst c2; decide
      rw [if_neg c2] at q
      by_cases c3 : bec < 2
      · rw [if_pos c3, if_pos rfl] at q; exact absurd rfl q
      rw [if_neg c3] at q
      by_cases c4 : 5 < bec
      · rw [if_pos c4, if_pos rfl] at q; exact absurd rfl q
      clear q hx hbe hfr hto eB eF eT
      refine ⟨?_, ?_, ?_⟩ <;> (simp only [Int32.lt_iff_toInt_lt, Int32.le_iff_toInt_le, ← Int32.toInt_inj, pu_ia, pu_isb, pu_im, pu_tn, pu_in1, pu_in2, pu_in3, pu_in4, pu_in8, Int32.reduceToInt, Int.reduceNeg, ne_eq] at *; omega)
    · rintro ⟨q1, q2, q3⟩
      rw [if_neg (by clear hx hbe hfr hto eB eF eT; (simp only [Int32.lt_iff_toInt_lt, Int32.le_iff_toInt_le, ← Int32.toInt_inj, pu_ia, pu_isb, pu_im, pu_tn, pu_in1, pu_in2, pu_in3, pu_in4, pu_in8, Int32.reduceToInt, Int.reduceNeg, ne_eq] at *; omega))]
      by_cases c2 : bec = 0
      · rw [if_pos c2]; decide
      rw [if_neg c2, if_neg (by clear hx hbe hfr hto eB eF eT; (simp only [Int32.lt_iff_toInt_lt, Int32.le_iff_toInt_le, ← Int32.toInt_inj, pu_ia, pu_isb, pu_im, pu_tn, pu_in1, pu_in2, pu_in3, pu_in4, pu_in8, Int32.reduceToInt, Int.reduceNeg, ne_eq] at *; omega) : ¬ bec < 2), if_neg (by clear hx hbe hfr hto eB eF eT; (simp only [Int32.lt_iff_toInt_lt, Int32.le_iff_toInt_le, ← Int32.toInt_inj, pu_ia, pu_isb, pu_im, pu_tn, pu_in1, pu_in2, pu_in3, pu_in4, pu_in8, Int32.reduceToInt, Int.reduceNeg, ne_eq] at *; omega) : ¬ (5 : Int32) < bec), if_neg (by decide : ¬ (1 : Int32) = 0)]
      decide
  by_cases d : 0 ≤ bec.toInt ∧ bec ≠ 1 ∧ bec.toInt ≤ 5
  rotate_left
  · rw [if_pos (Decidable.not_not.mp fun q => d (mvI.mp q))] at e
    refine no rfl ?_ e e'
    by_cases c1 : bec < 0
    · rw [if_pos c1]
    rw [if_neg c1]
    by_cases c2 : bec = 1
    · rw [if_pos c2]
    rw [if_neg c2]
    rw [if_pos]
    have c4 : ¬ (0 ≤ bec.toInt ∧ bec.toInt ≤ 5) := fun q => d ⟨q.1, c2, q.2⟩
    clear no e e' h hp kM eM mvI hx hbe hfr hto eB eF eT d
    (simp only [Int32.lt_iff_toInt_lt, Int32.le_iff_toInt_le, ← Int32.toInt_inj, pu_ia, pu_isb, pu_im, pu_tn, pu_in1, pu_in2, pu_in3, pu_in4, pu_in8, Int32.reduceToInt, Int.reduceNeg, ne_eq] at *; omega)
  rw [if_neg (mvI.mpr d)] at e
  obtain ⟨d1, d2, d3⟩ := d
  clear mvI
  rw [if_neg (by clear no e e' h hp kM eM hx hbe hfr hto eB eF eT; (simp only [Int32.lt_iff_toInt_lt, Int32.le_iff_toInt_le, ← Int32.toInt_inj, pu_ia, pu_isb, pu_im, pu_tn, pu_in1, pu_in2, pu_in3, pu_in4, pu_in8, Int32.reduceToInt, Int.reduceNeg, ne_eq] at *; omega)), if_neg d2, if_neg (by clear no e e' h hp kM eM hx hbe hfr hto eB eF eT; (simp only [Int32.lt_iff_toInt_lt, Int32.le_iff_toInt_le, ← Int32.toInt_inj, pu_ia, pu_isb, pu_im, pu_tn, pu_in1, pu_in2, pu_in3, pu_in4, pu_in8, Int32.reduceToInt, Int.reduceNeg, ne_eq] at *; omega))] at e'
  by_cases s1 : s < 0
  · rw [if_pos s1] at e e'; exact no rfl rfl e e'
  rw [if_neg s1] at e e'
  by_cases s2 : 2 < s
  · rw [if_pos s2] at e e'; exact no rfl rfl e e'
  rw [if_neg s2] at e e'
  have hs : 0 ≤ s.toInt ∧ s.toInt ≤ 2 := by clear no e e' h hp kM eM hx hbe hfr hto eB eF eT; constructor <;> (simp only [Int32.lt_iff_toInt_lt, Int32.le_iff_toInt_le, ← Int32.toInt_inj, pu_ia, pu_isb, pu_im, pu_tn, pu_in1, pu_in2, pu_in3, pu_in4, pu_in8, Int32.reduceToInt, Int.reduceNeg, ne_eq] at *; omega)
  have tk : f_td_take td m s = if tl = 330 then (0, td) else if f_md_place mv tl m < 0 then (1, (upd td.1 tl.toNatClampNeg m, upd td.2.1 tl.toNatClampNeg s, tl + 1)) else (0, td) := by
    unfold f_td_take bnd; dsimp only
    rw [h.ct]
    by_cases c1 : tl = 330
    · rw [if_pos c1, if_pos (by subst c1; decide)]
    rw [if_neg c1, if_neg (by clear no e e' h hp kM eM hx hbe hfr hto eB eF eT; (simp only [Int32.lt_iff_toInt_lt, Int32.le_iff_toInt_le, ← Int32.toInt_inj, pu_ia, pu_isb, pu_im, pu_tn, pu_in1, pu_in2, pu_in3, pu_in4, pu_in8, Int32.reduceToInt, Int.reduceNeg, ne_eq] at *; omega))]
    rcases pu_idx h m with ⟨j, q1, q2, q3, q4⟩ | ⟨q1, q2, q3⟩
    · have q5 := pu_nat_ofn (k := j) (by omega)
      rw [q3, q4, if_neg (by clear no e e' h hp kM eM hx hbe hfr hto eB eF eT q2 q3 q4; (simp only [Int32.lt_iff_toInt_lt, Int32.le_iff_toInt_le, ← Int32.toInt_inj, pu_ia, pu_isb, pu_im, pu_tn, pu_in1, pu_in2, pu_in3, pu_in4, pu_in8, Int32.reduceToInt, Int.reduceNeg, ne_eq] at *; omega)), if_neg (by clear no e e' h hp kM eM hx hbe hfr hto eB eF eT q2 q3 q4; (simp only [Int32.lt_iff_toInt_lt, Int32.le_iff_toInt_le, ← Int32.toInt_inj, pu_ia, pu_isb, pu_im, pu_tn, pu_in1, pu_in2, pu_in3, pu_in4, pu_in8, Int32.reduceToInt, Int.reduceNeg, ne_eq] at *; omega))]
    · rw [q2, q3, if_pos rfl, if_pos (by decide)]
  by_cases t1 : tl = 330
  · rw [if_pos t1] at e' tk
    refine no ?_ rfl e e'
    rw [tk]
    repeat' split
    all_goals rfl
  rw [if_neg t1] at e' tk
  by_cases f1 : fr = too
  · rw [if_pos f1] at e e'; exact no rfl rfl e e'
  rw [if_neg f1] at e e'
  by_cases m1 : x = 0
  · rw [if_pos m1] at e'; rw [if_pos (by subst m1; decide)] at e; exact no rfl rfl e e'
  rw [if_neg m1] at e'
  rw [if_neg (by clear no e e' h hp kM eM hx hbe hfr hto eB eF eT tk; (simp only [Int32.lt_iff_toInt_lt, Int32.le_iff_toInt_le, ← Int32.toInt_inj, pu_ia, pu_isb, pu_im, pu_tn, pu_in1, pu_in2, pu_in3, pu_in4, pu_in8, Int32.reduceToInt, Int.reduceNeg, ne_eq] at *; omega))] at e
  have key : (bec ≠ 0 → x = 1 ∨ x = 7) → f_td_take td m s = (r, td') → (if f_md_place mv tl m < 0 then ((1 : Int32), ((0 : Int32), upd mv tl.toNatClampNeg m, upd sg tl.toNatClampNeg s, tl + (1 : Int32))) else ((0 : Int32), ((0 : Int32), mv, sg, tl))) = (r', th, mv', sg', tl') → r = r' ∧ pu_RT td' b mv' sg' tl' := by
    intro hpw q1 q2
    rw [tk] at q1
    rcases pu_idx h m with ⟨j, w1, w2, w3, w4⟩ | ⟨w1, w2, w3⟩
    · have q5 := pu_nat_ofn (k := j) (by omega)
      have : ¬ f_md_place mv tl m < 0 := by rw [w4]; clear no e e' h hp kM eM hx hbe hfr hto eB eF eT tk w2 w3 w4 q1 q2; (simp only [Int32.lt_iff_toInt_lt, Int32.le_iff_toInt_le, ← Int32.toInt_inj, pu_ia, pu_isb, pu_im, pu_tn, pu_in1, pu_in2, pu_in3, pu_in4, pu_in8, Int32.reduceToInt, Int.reduceNeg, ne_eq] at *; omega)
      rw [if_neg this] at q1 q2
      exact no rfl rfl q1 q2
    · have : f_md_place mv tl m < 0 := by rw [w3]; decide
      rw [if_pos this] at q1 q2
      cases q1; cases q2
      refine ⟨rfl, h.take ?_ w1 ⟨by rw [hbe]; exact d1, by rw [hbe]; exact d2, by rw [hbe]; exact d3, by rw [hfr, hto]; exact f1, by rw [hfr, hx]; exact m1, by rw [hbe, hfr, hx]; exact hpw⟩ hs⟩
      clear no e e' h hp kM eM hx hbe hfr hto eB eF eT tk w2 w3 this; (simp only [Int32.lt_iff_toInt_lt, Int32.le_iff_toInt_le, ← Int32.toInt_inj, pu_ia, pu_isb, pu_im, pu_tn, pu_in1, pu_in2, pu_in3, pu_in4, pu_in8, Int32.reduceToInt, Int.reduceNeg, ne_eq] at *; omega)
  by_cases b1 : bec = 0
  · rw [if_pos b1] at e
    rw [if_pos (by subst b1; decide)] at e'
    exact key (fun q => absurd b1 q) e e'
  rw [if_neg b1] at e
  rw [if_neg (by clear no e e' h hp kM eM hx hbe hfr hto eB eF eT tk key; (simp only [Int32.lt_iff_toInt_lt, Int32.le_iff_toInt_le, ← Int32.toInt_inj, pu_ia, pu_isb, pu_im, pu_tn, pu_in1, pu_in2, pu_in3, pu_in4, pu_in8, Int32.reduceToInt, Int.reduceNeg, ne_eq] at *; omega))] at e'
  by_cases k1 : f_gn_kindOf x = 1
  · rw [if_pos k1] at e
    have k2 := kM.1.mp k1
    have : ¬ (if x = 1 then (1 : Int32) else if x = 7 then 1 else 0) = 0 := by rcases k2 with k2 | k2 <;> subst k2 <;> decide
    rw [if_neg this] at e'
    exact key (fun _ => k2) e e'
  · rw [if_neg k1] at e
    have k2 : ¬ (x = 1 ∨ x = 7) := fun q => k1 (kM.1.mpr q)
    rw [if_neg fun q => k2 (.inl q), if_neg fun q => k2 (.inr q), if_pos rfl] at e'
    exact no rfl rfl e e'
