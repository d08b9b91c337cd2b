abbrev nSTR : Nat := 10
abbrev nTAB : Nat := 6
abbrev sLens : List Nat := [8, 12, 4, 8, 2, 2, 3, 5, 22, 21]
def sByts : List (List Int32) := [[49, 50, 51, 52, 53, 54, 55, 56], [80, 78, 66, 82, 81, 75, 112, 110, 98, 114, 113, 107], [75, 81, 107, 113], [97, 98, 99, 100, 101, 102, 103, 104], [119, 98], [43, 35], [48, 45, 48], [48, 45, 48, 45, 48], [110, 111, 32, 115, 117, 99, 104, 32, 115, 113, 117, 97, 114, 101, 32, 111, 114, 32, 115, 105, 100, 101], [116, 104, 101, 32, 109, 111, 118, 101, 32, 119, 97, 115, 32, 110, 111, 116, 32, 116, 111, 108, 100]]
def tbLs : List (List Int32) := [[1, 2, 2, 1, -1, -2, -2, -1], [2, 1, -1, -2, -2, -1, 1, 2], [1, 0, -1, 0], [0, 1, 0, -1], [1, -1, -1, 1], [1, 1, -1, -1]]
abbrev tbNm : List String := ["KNIGHT_FILES", "KNIGHT_RANKS", "STRAIGHT_FILES", "STRAIGHT_RANKS", "ASKEW_FILES", "ASKEW_RANKS"]
abbrev nwF : List (String × Nat × String × String × String × String) := [("GameNotation$RecordReader", 78, "GameNotation$Position", "side", "I", "GameNotation"), ("GameNotation", 82, "GameNotation$Position", "side", "I", "GameNotation"), ("GameNotation$RecordReader", 81, "GameNotation$Position", "rights", "I", "GameNotation"), ("GameNotation", 117, "GameNotation$Position", "rights", "I", "GameNotation"), ("GameNotation$RecordReader", 93, "GameNotation$Position", "passant", "I", "GameNotation"), ("GameNotation", 120, "GameNotation$Position", "passant", "I", "GameNotation"), ("GameNotation$RecordReader", 41, "GameNotation$Position", "clock", "I", "GameNotation"), ("GameNotation", 96, "GameNotation$Position", "clock", "I", "GameNotation"), ("GameNotation$RecordReader", 44, "GameNotation$Position", "number", "I", "GameNotation"), ("GameNotation", 103, "GameNotation$Position", "number", "I", "GameNotation"), ("GameNotation$Position", 60, "GameNotation", "KNIGHT_FILES", "[I", "GameNotation"), ("GameNotation$Position", 63, "GameNotation", "KNIGHT_RANKS", "[I", "GameNotation"), ("GameNotation$Position", 70, "GameNotation", "STRAIGHT_FILES", "[I", "GameNotation"), ("GameNotation$Position", 73, "GameNotation", "STRAIGHT_RANKS", "[I", "GameNotation"), ("GameNotation$Position", 76, "GameNotation", "ASKEW_FILES", "[I", "GameNotation"), ("GameNotation$Position", 79, "GameNotation", "ASKEW_RANKS", "[I", "GameNotation")]
abbrev nwM : List (String × Nat × MethodName × String) := [("GameNotation", 9, y_ln_init, "GameNotation"), ("GameNotation", 21, y_rd_init, "GameNotation"), ("GameNotation", 28, y_td_init, "GameNotation"), ("GameNotation", 35, y_fm_init, "GameNotation"), ("GameNotation", 42, y_ps_init, "GameNotation"), ("GameNotation$RecordReader", 71, y_gn_squareOf, "GameNotation"), ("GameNotation$Position", 22, y_gn_isSquare, "GameNotation"), ("GameNotation$RecordReader", 89, y_gn_pick, "GameNotation"), ("GameNotation$RecordReader", 98, y_gn_passantRank, "GameNotation"), ("GameNotation$Position", 29, y_gn_manOf, "GameNotation"), ("GameNotation$Position", 102, y_gn_kindOf, "GameNotation"), ("GameNotation$Position", 127, y_gn_ownRank, "GameNotation"), ("GameNotation$Position", 89, y_gn_fileOf, "GameNotation"), ("GameNotation$Position", 92, y_gn_rankOf, "GameNotation"), ("GameNotation$Form", 107, y_gn_squareOf, "GameNotation"), ("GameNotation$Form", 99, y_gn_isPromotion, "GameNotation"), ("GameNotation$Form", 46, y_gn_castlingOf, "GameNotation"), ("GameNotation$Form", 53, y_gn_fromOf, "GameNotation"), ("GameNotation$Form", 61, y_gn_kindOf, "GameNotation"), ("GameNotation$Form", 67, y_gn_toOf, "GameNotation"), ("GameNotation$Form", 73, y_gn_becomesOf, "GameNotation"), ("GameNotation$Told", 33, y_gn_castlingOf, "GameNotation"), ("GameNotation$Told", 47, y_gn_fromOf, "GameNotation"), ("GameNotation$Told", 55, y_gn_kindOf, "GameNotation"), ("GameNotation$Told", 66, y_gn_fileOf, "GameNotation"), ("GameNotation$Told", 69, y_gn_toOf, "GameNotation"), ("GameNotation$Told", 74, y_gn_pick, "GameNotation"), ("GameNotation$Line", 35, y_gn_fileOf, "GameNotation"), ("GameNotation$Line", 39, y_gn_pick, "GameNotation"), ("GameNotation$Line", 45, y_gn_rankOf, "GameNotation"), ("GameNotation$Told", 86, y_gn_becomesOf, "GameNotation"), ("GameNotation$Told", 98, y_gn_rankOf, "GameNotation")]
abbrev srL : List (String × Nat × String × Nat) := [("GameNotation$RecordReader", 61, "12345678", 0), ("GameNotation$RecordReader", 69, "PNBRQKpnbrqk", 1), ("GameNotation$RecordReader", 84, "KQkq", 2), ("GameNotation$RecordReader", 96, "abcdefgh", 3), ("GameNotation$Position", 113, "KQkq", 2), ("GameNotation", 201, "PNBRQKpnbrqk", 1), ("GameNotation", 80, "wb", 4), ("GameNotation", 203, "KQkq", 2), ("GameNotation", 213, "abcdefgh", 3), ("GameNotation$Form", 18, "+#", 5), ("GameNotation$Form", 79, "0-0", 6), ("GameNotation$Form", 85, "0-0-0", 7), ("GameNotation$Form", 87, "PNBRQKpnbrqk", 1), ("GameNotation$Form", 103, "abcdefgh", 3), ("GameNotation$Form", 105, "12345678", 0), ("GameNotation$Told", 37, "0-0", 6), ("GameNotation$Told", 39, "0-0-0", 7), ("GameNotation$Told", 72, "abcdefgh", 3), ("GameNotation$Line", 33, "abcdefgh", 3), ("GameNotation$Line", 43, "12345678", 0), ("GameNotation$Told", 89, "PNBRQKpnbrqk", 1), ("GameNotation$Told", 101, "12345678", 0), ("GameNotation", 129, "no such square or side", 8), ("GameNotation", 161, "the move was not told", 9), ("GameNotation", 171, "+#", 5)]
abbrev KT : Type := (Nat → ClassId) × (Nat → Nat → Nat) × (ClassId × ClassId × ClassId) × (Nat → Nat) × (Nat → Nat) × (Nat → Nat)
abbrev kD (K : KT) : va_G := (K.1, K.2.1)
abbrev kI (K : KT) : ClassId := K.2.2.1.1
abbrev kC (K : KT) : ClassId := K.2.2.1.2.1
abbrev kJ (K : KT) : ClassId := K.2.2.1.2.2
abbrev kK (K : KT) : Nat → Nat := K.2.2.2.1
abbrev kV (K : KT) : Nat → Nat := K.2.2.2.2.1
abbrev kT (K : KT) : Nat → Nat := K.2.2.2.2.2
abbrev kY (K : KT) : List (ClassId × FieldType) := [(kI K, .int), (kC K, .char), (kJ K, .long)]
theorem kA_int {K : KT} {s : State} {cA : ClassId} (hK : va_K (kD K) vwCl (kY K) s) (h9 : va_K (kD K) vwCl (kY K ++ [(cA, .int)]) s) : cA = kI K :=
  Option.some.inj ((va_nm_int (h9.2 3 _ rfl).2).symm.trans (va_nm_int (hK.2 0 _ rfl).2))
theorem kA_char {K : KT} {s : State} {cA : ClassId} (hK : va_K (kD K) vwCl (kY K) s) (h9 : va_K (kD K) vwCl (kY K ++ [(cA, .char)]) s) : cA = kC K :=
  Option.some.inj ((va_nm_char (h9.2 3 _ rfl).2).symm.trans (va_nm_char (hK.2 1 _ rfl).2))
theorem kA_long {K : KT} {s : State} {cA : ClassId} (hK : va_K (kD K) vwCl (kY K) s) (h9 : va_K (kD K) vwCl (kY K ++ [(cA, .long)]) s) : cA = kJ K :=
  Option.some.inj ((va_nm_long (h9.2 3 _ rfl).2).symm.trans (va_nm_long (hK.2 2 _ rfl).2))
abbrev tbN (k : Nat) : Nat := (tbLs.getD k []).length
def tbl (k : Nat) : Nat → Int32 := fun j => (tbLs.getD k []).getD j 0
abbrev sLn (k : Nat) : Nat := sLens.getD k 0
def sBt (k j : Nat) : Int32 := (sByts.getD k []).getD j 0
abbrev nwL : List Cond := nwF.map (fun q => Cond.fieldLinkNest q.1 q.2.1 q.2.2.1 q.2.2.2.1 q.2.2.2.2.1 q.2.2.2.2.2) ++ nwM.map (fun q => Cond.methodLinkNest q.1 q.2.1 q.2.2.1 q.2.2.2)
theorem nw_warm {s U : State} (hW : s.WarmedH U.vm) : ∀ w ∈ nwL, va_Nw w s → va_Nw w U := by
  intro w hw h
  rcases List.mem_append.mp hw with h1 | h1
  · obtain ⟨q, -, rfl⟩ := List.mem_map.mp h1
    exact va_Nw.warmF hW h
  · obtain ⟨q, -, rfl⟩ := List.mem_map.mp h1
    exact va_Nw.warmM hW h
theorem nw_tab : ∀ w ∈ nwL, w.onTables = true := by
  intro w hw
  rcases List.mem_append.mp hw with h1 | h1
  · obtain ⟨q, -, rfl⟩ := List.mem_map.mp h1
    rfl
  · obtain ⟨q, -, rfl⟩ := List.mem_map.mp h1
    rfl
/-- what nobody changes: links among nest mates, text constants, tables, two statics of the JDK -/
def GC (K : KT) (A : Nat → Prop) (U : State) (H : Heap) : Prop :=
  (∀ w ∈ nwL, va_Nw w U) ∧ (∀ q ∈ srL, vk_R q.1 q.2.1 q.2.2.1 (kK K q.2.2.2) U) ∧ vk_S nSTR sLens sByts (kK K) (kV K) A U H ∧
  (∀ k : Nat, k < nTAB → va_Z "GameNotation" (tbNm.getD k "") "[I" (.ref (kT K k)) A U H ∧ va_T .int (kT K k) (tbN k) (fun j => .int (tbl k j)) A U H) ∧
  va_Z "java/lang/String" "COMPACT_STRINGS" "Z" (.int 1) A U H ∧ va_Zq "jdk/internal/util/Preconditions" "SIOOBE_FORMATTER" "Ljava/util/function/BiFunction;" A U H
theorem GC.nw {K : KT} {A : Nat → Prop} {U : State} {H : Heap} (h : GC K A U H) (k : Nat) {w : Cond} (e : nwL[k]? = some w) : va_Nw w U := h.1 w (List.mem_of_getElem? e)
theorem GC.sr {K : KT} {A : Nat → Prop} {U : State} {H : Heap} (h : GC K A U H) (k : Nat) {q : String × Nat × String × Nat} (e : srL[k]? = some q) : vk_R q.1 q.2.1 q.2.2.1 (kK K q.2.2.2) U := h.2.1 q (List.mem_of_getElem? e)
theorem GC.str {K : KT} {A : Nat → Prop} {U : State} {H : Heap} (h : GC K A U H) : vk_S nSTR sLens sByts (kK K) (kV K) A U H := h.2.2.1
theorem GC.tabZ {K : KT} {A : Nat → Prop} {U : State} {H : Heap} (h : GC K A U H) (k : Nat) (hk : k < nTAB) : va_Z "GameNotation" (tbNm.getD k "") "[I" (.ref (kT K k)) A U H := (h.2.2.2.1 k hk).1
theorem GC.tab {K : KT} {A : Nat → Prop} {U : State} {H : Heap} (h : GC K A U H) (k : Nat) (hk : k < nTAB) : va_T .int (kT K k) (tbN k) (fun j => .int (tbl k j)) A U H := (h.2.2.2.1 k hk).2
theorem GC.cs {K : KT} {A : Nat → Prop} {U : State} {H : Heap} (h : GC K A U H) : va_Z "java/lang/String" "COMPACT_STRINGS" "Z" (.int 1) A U H := h.2.2.2.2.1
theorem GC.fo {K : KT} {A : Nat → Prop} {U : State} {H : Heap} (h : GC K A U H) : va_Zq "jdk/internal/util/Preconditions" "SIOOBE_FORMATTER" "Ljava/util/function/BiFunction;" A U H := h.2.2.2.2.2
theorem GC.mv {K : KT} {A B : Nat → Prop} {s U : State} {H : Heap} {locs : List Loc} (h : GC K A s s.heap) (hS : va_S A s.heap H locs) (hAB : ∀ q, B q → A q) (hU : U.heap = H) (hW : s.WarmedH U.vm) : GC K B U U.heap := by
  obtain ⟨h1, h2, h3, h4, h5, h6⟩ := h
  rw [hU]
  exact ⟨fun w hw => nw_warm hW w hw (h1 w hw), fun q hq => vk_R.warm hW (h2 q hq), vk_S.moved hW.alike ((h3.kept hS.2.1).narrow hAB), fun k hk => ⟨va_Z.moved hW.alike (((h4 k hk).1.kept hS.2.1).narrow hAB), va_T.moved hW.alike (((h4 k hk).2.kept hS.2.1).narrow hAB)⟩, va_Z.moved hW.alike ((h5.kept hS.2.1).narrow hAB), va_Zq.moved hW.alike ((h6.kept hS.2.1).narrow hAB)⟩
theorem GC.blind {K : KT} {A : Nat → Prop} {U : State} {g : JFrame} {mk : MethodId} {a : Array Value} (h : GC K A U U.heap) : GC K A (U.calling g mk a) (U.calling g mk a).heap := by
  obtain ⟨h1, h2, h3, h4, h5, h6⟩ := h
  exact ⟨fun w hw => va_Nw.same (u := U) (U := U.calling g mk a) (nw_tab w hw) rfl (h1 w hw), fun q hq => vk_R.same (u := U) (U := U.calling g mk a) rfl (h2 q hq), vk_S.moved (Vm.Alike.refl U.vm) h3, fun k hk => ⟨va_Z.moved (Vm.Alike.refl U.vm) (h4 k hk).1, va_T.moved (Vm.Alike.refl U.vm) (h4 k hk).2⟩, va_Z.moved (Vm.Alike.refl U.vm) h5, va_Zq.moved (Vm.Alike.refl U.vm) h6⟩
/-- the start of a method that only reads -/
def pRO (K : KT) (ws : va_W) (U : State) : Prop := va_P (kD K) vwCl ws U.heap ∧ va_K (kD K) vwCl (kY K) U ∧ GC K (fun _ => False) U U.heap
/-- the start of a method that may change its cells -/
def pMU (K : KT) (ws : va_W) (sz : Nat) (U : State) : Prop := U.heap.size = sz ∧ va_P (kD K) vwCl ws U.heap ∧ va_K (kD K) vwCl (kY K) U ∧ va_D (fun _ => True) ws ∧ GC K (va_A ws sz) U U.heap
theorem ro_blind {K : KT} {ws : va_W} {av : List Value} {φ : Prop} : FrameBlind (va_Pc av (fun U => pRO K ws U ∧ φ)) :=
  fun a U g mk q => ⟨q.1, ⟨q.2.1.1, va_K.moved (u := U) (U := U.calling g mk a) (Vm.Alike.refl U.vm) q.2.1.2.1, q.2.1.2.2.blind⟩, q.2.2⟩
theorem ro_use {K : KT} {ws : va_W} {av : List Value} {φ : Prop} {A : Nat → Prop} {s : State} {H : Heap} {locs : List Loc} (hP : va_P (kD K) vwCl ws H) (hK : va_K (kD K) vwCl (kY K) s) (hG : GC K A s s.heap) (hS : va_S A s.heap H locs) (hφ : φ) :
    ∀ U : State, U.heap = H → s.WarmedH U.vm → va_Pc av (fun U => pRO K ws U ∧ φ) av.toArray U :=
  fun U hU hW => ⟨rfl, ⟨by rw [hU]; exact hP, va_K.moved hW.alike hK, hG.mv hS (fun _ h => h.elim) hU hW⟩, hφ⟩
theorem mu_blind {K : KT} {ws : va_W} {sz : Nat} {av : List Value} {φ : Prop} : FrameBlind (va_Pc av (fun U => pMU K ws sz U ∧ φ)) :=
  fun a U g mk q => ⟨q.1, ⟨q.2.1.1, q.2.1.2.1, va_K.moved (u := U) (U := U.calling g mk a) (Vm.Alike.refl U.vm) q.2.1.2.2.1, q.2.1.2.2.2.1, q.2.1.2.2.2.2.blind⟩, q.2.2⟩
theorem mu_use {K : KT} {ws : va_W} {av : List Value} {φ : Prop} {A : Nat → Prop} {s : State} {H : Heap} {locs : List Loc} (hP : va_P (kD K) vwCl ws H) (hK : va_K (kD K) vwCl (kY K) s) (hD : va_D A ws) (hG : GC K A s s.heap) (hS : va_S A s.heap H locs) (hF : ∀ q, va_A ws H.size q → A q) (hφ : φ) :
    ∀ U : State, U.heap = H → s.WarmedH U.vm → va_Pc av (fun U => pMU K ws H.size U ∧ φ) av.toArray U :=
  fun U hU hW => ⟨rfl, ⟨by rw [hU], by rw [hU]; exact hP, va_K.moved hW.alike hK, hD.weaken (fun _ _ _ _ => trivial), hG.mv hS hF hU hW⟩, hφ⟩
theorem sx_L {k : Nat} (h : k < nSTR) : sLn k ≤ 22 := by
  have q : ∀ k, k < 10 → sLn k ≤ 22 := by decide
  exact q k h
theorem sx_m {k : Nat} {fr : Int32} (h : k < nSTR) (hf : 0 ≤ fr.toInt) : ((sLn k : Int) - fr.toInt).toNat < 23 := by
  have := sx_L h; omega
theorem sx_lt {k : Nat} {ix : Int32} (h : k < nSTR) (hi : vp_in ix (sLn k)) : ix.toInt < (Int32.ofNat (sLn k)).toInt := by
  have a := (vp_in_iff.mp hi).2
  have e : (Int32.ofNat (sLn k)).toInt = (sLn k : Int) := nI_toInt (by have := sx_L h; omega)
  omega
theorem mx_0 {fr : Int32} : 0 ≤ (if fr < (0 : Int32) then (0 : Int32) else fr).toInt := by
  have h0 : (0 : Int32).toInt = 0 := by decide
  by_cases c : fr < (0 : Int32)
  · rw [if_pos c]; omega
  · rw [if_neg c]; have := i_nlt c; omega
theorem mn_l {k : Nat} {to : Int32} (h : k < nSTR) : (if Int32.ofNat (sLn k) < to then Int32.ofNat (sLn k) else to).toInt ≤ sLn k := by
  have e : (Int32.ofNat (sLn k)).toInt = (sLn k : Int) := nI_toInt (by have := sx_L h; omega)
  by_cases c : Int32.ofNat (sLn k) < to
  · rw [if_pos c]; omega
  · rw [if_neg c]; have := i_nlt c; omega
theorem dead_lt {x : Int32} (c : x < 0) (h : 0 ≤ x.toInt) : False := by
  have h0 : (0 : Int32).toInt = 0 := by decide
  have := i_lt c; omega
theorem dead_nlt {x y : Int32} (c : ¬ x < y) (h : x.toInt < y.toInt) : False := by
  have := i_nlt c; omega
theorem tb_i {k : Nat} (h : k < nTAB) : (Int32.ofNat (tbN k)).toInt = (tbN k : Int) := by
  have q : ∀ k, k < 6 → tbN k ≤ 8 := by decide
  exact nI_toInt (by have := q k h; omega)
theorem tb_le {k : Nat} (h : k < nTAB) : (Int32.ofNat (tbN k)).toInt ≤ 8 := by
  have q : ∀ k, k < 6 → tbN k ≤ 8 := by decide
  rw [tb_i h]
  have := q k h; omega
