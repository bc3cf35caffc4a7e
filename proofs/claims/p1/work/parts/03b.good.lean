theorem wp_good : wp.all goodWord = true := by decide +kernel
theorem gwp : GoodIn wp wp := fun w hw => ⟨hw, good_of_word (List.all_eq_true.mp wp_good w hw)⟩
theorem gB {y : MethodName} {c : ByteArray} {n : Nat} {r : Option FieldType} (h : Cond.code y c n r ∈ wp) : GoodIn wp (Cond.code y c n r :: wp) := fun w hw => (List.mem_cons.mp hw).elim (fun e => by subst e; exact gwp _ h) (fun h => gwp w h)
theorem gV {own C : String} {idx : Nat} {y : MethodName} {c : ByteArray} {n : Nat} {r : Option FieldType} (h1 : Cond.methodLink own idx y ∈ wp) (h2 : Cond.instanceMethod y ∈ wp) (h3 : Cond.selects C y y ∈ wp) (h4 : Cond.initialized C ∈ wp) (h : Cond.code y c n r ∈ wp) : GoodIn wp (wsV own idx C y (Cond.code y c n r :: wp)) := by
  intro w hw
  rcases List.mem_append.mp hw with hw | hw
  · simp only [List.mem_cons, List.not_mem_nil, or_false] at hw
    rcases hw with rfl | rfl | rfl | rfl
    · exact gwp _ h1
    · exact gwp _ h2
    · exact gwp _ h3
    · exact gwp _ h4
  · exact gB h w hw
theorem gS {own : String} {idx : Nat} {y : MethodName} {c : ByteArray} {n : Nat} {r : Option FieldType} (h1 : Cond.methodLink own idx y ∈ wp) (h2 : Cond.static y ∈ wp) (h3 : Cond.initialized y.cls ∈ wp) (h : Cond.code y c n r ∈ wp) : GoodIn wp (va_wsS own idx y (Cond.code y c n r :: wp)) := by
  intro w hw
  rcases List.mem_append.mp hw with hw | hw
  · simp only [List.mem_cons, List.not_mem_nil, or_false] at hw
    rcases hw with rfl | rfl | rfl
    · exact gwp _ h1
    · exact gwp _ h2
    · exact gwp _ h3
  · exact gB h w hw
def nwM : List (String × Nat × MethodName × String) := [(RX0, 23, yX3_init, "RowTypes"), (RX6, 11, yX2_init, "RowTypes"), (RX5, 32, yX2_init, "RowTypes"), (RX9, 11, yX2_init, "RowTypes"), (RX10, 11, yX2_init, "RowTypes"), (RX1, 30, yX3_init, "RowTypes"), (RX4, 42, yX2_init, "RowTypes"), (RX8, 11, yX2_init, "RowTypes"), (RX7, 11, yX2_init, "RowTypes"), (RX11, 21, yX3_init, "RowTypes"), (RX11, 38, yX6_init, "RowTypes"), (RX11, 45, yX5_init, "RowTypes"), (RX11, 86, yX8_init, "RowTypes"), (RX11, 93, yX7_init, "RowTypes"), (RX11, 98, yX0_init, "RowTypes"), (RX6, 83, yX11_nameBit, "RowTypes")]
def nwO : List String := [RX3, RX0]
/-- what isn't among the words that a contract may carry: links to private members of nest mates, rows of objects -/
def nw (U : State) : Prop := (∀ q ∈ nwM, va_Nw (.methodLinkNest q.1 q.2.1 q.2.2.1 q.2.2.2) U) ∧ ∀ C ∈ nwO, va_AO C U
theorem nw.warm {s U : State} (hW : s.WarmedH U.vm) (h : nw s) : nw U := ⟨fun q hq => va_Nw.warmM hW (h.1 q hq), fun C hC => va_AO.moved hW.alike (h.2 C hC)⟩
theorem nw.same {u U : State} (e : u.vm = U.vm) (h : nw u) : nw U := ⟨fun q hq => va_Nw.same rfl e (h.1 q hq), fun C hC => va_AO.moved (by rw [← e]; exact Vm.Alike.refl u.vm) (h.2 C hC)⟩
theorem nn0 {U : State} (h : nw U) : va_Nw (.methodLinkNest RX0 23 yX3_init "RowTypes") U := h.1 _ (List.mem_of_getElem? (i := 0) rfl)
theorem nn1 {U : State} (h : nw U) : va_Nw (.methodLinkNest RX6 11 yX2_init "RowTypes") U := h.1 _ (List.mem_of_getElem? (i := 1) rfl)
theorem nn2 {U : State} (h : nw U) : va_Nw (.methodLinkNest RX5 32 yX2_init "RowTypes") U := h.1 _ (List.mem_of_getElem? (i := 2) rfl)
theorem nn3 {U : State} (h : nw U) : va_Nw (.methodLinkNest RX9 11 yX2_init "RowTypes") U := h.1 _ (List.mem_of_getElem? (i := 3) rfl)
theorem nn4 {U : State} (h : nw U) : va_Nw (.methodLinkNest RX10 11 yX2_init "RowTypes") U := h.1 _ (List.mem_of_getElem? (i := 4) rfl)
theorem nn5 {U : State} (h : nw U) : va_Nw (.methodLinkNest RX1 30 yX3_init "RowTypes") U := h.1 _ (List.mem_of_getElem? (i := 5) rfl)
theorem nn6 {U : State} (h : nw U) : va_Nw (.methodLinkNest RX4 42 yX2_init "RowTypes") U := h.1 _ (List.mem_of_getElem? (i := 6) rfl)
theorem nn7 {U : State} (h : nw U) : va_Nw (.methodLinkNest RX8 11 yX2_init "RowTypes") U := h.1 _ (List.mem_of_getElem? (i := 7) rfl)
theorem nn8 {U : State} (h : nw U) : va_Nw (.methodLinkNest RX7 11 yX2_init "RowTypes") U := h.1 _ (List.mem_of_getElem? (i := 8) rfl)
theorem nn9 {U : State} (h : nw U) : va_Nw (.methodLinkNest RX11 21 yX3_init "RowTypes") U := h.1 _ (List.mem_of_getElem? (i := 9) rfl)
theorem nn10 {U : State} (h : nw U) : va_Nw (.methodLinkNest RX11 38 yX6_init "RowTypes") U := h.1 _ (List.mem_of_getElem? (i := 10) rfl)
theorem nn11 {U : State} (h : nw U) : va_Nw (.methodLinkNest RX11 45 yX5_init "RowTypes") U := h.1 _ (List.mem_of_getElem? (i := 11) rfl)
theorem nn12 {U : State} (h : nw U) : va_Nw (.methodLinkNest RX11 86 yX8_init "RowTypes") U := h.1 _ (List.mem_of_getElem? (i := 12) rfl)
theorem nn13 {U : State} (h : nw U) : va_Nw (.methodLinkNest RX11 93 yX7_init "RowTypes") U := h.1 _ (List.mem_of_getElem? (i := 13) rfl)
theorem nn14 {U : State} (h : nw U) : va_Nw (.methodLinkNest RX11 98 yX0_init "RowTypes") U := h.1 _ (List.mem_of_getElem? (i := 14) rfl)
theorem nn15 {U : State} (h : nw U) : va_Nw (.methodLinkNest RX6 83 yX11_nameBit "RowTypes") U := h.1 _ (List.mem_of_getElem? (i := 15) rfl)
theorem ao0 {U : State} (h : nw U) : va_AO RX3 U := h.2 _ (List.mem_of_getElem? (i := 0) rfl)
theorem ao1 {U : State} (h : nw U) : va_AO RX0 U := h.2 _ (List.mem_of_getElem? (i := 1) rfl)
/-- a contract's start: the cells, their classes, apart -/
def cP (dC : Nat → ClassId) (dI : Nat → Nat → Nat) (av : List Value) (sz : Nat) (ws : va_W) (tys : List (ClassId × FieldType)) : Array Value → State → Prop := va_Pc av (fun U => U.heap.size = sz ∧ va_P (dC, dI) vwCl ws U.heap ∧ va_K (dC, dI) vwCl tys U ∧ va_D (fun _ => True) ws ∧ nw U)
theorem cP_blind {dC : Nat → ClassId} {dI : Nat → Nat → Nat} {av : List Value} {sz : Nat} {ws : va_W} {tys : List (ClassId × FieldType)} : FrameBlind (cP dC dI av sz ws tys) := fun a U g mk q => by
  obtain ⟨q0, q1, qP, qK, qD, qN⟩ := q
  exact ⟨q0, q1, qP, va_K.moved (u := U) (U := U.calling g mk a) (Vm.Alike.refl U.vm) qK, qD, qN.same rfl⟩
theorem cP_pre {dC : Nat → ClassId} {dI : Nat → Nat → Nat} {av : List Value} {ws : va_W} {tys : List (ClassId × FieldType)} {A : Nat → Prop} {s : State} {H : Heap} (hP : va_P (dC, dI) vwCl ws H) (hK : va_K (dC, dI) vwCl tys s) (hD : va_D A ws) (hN : nw s) : ∀ U : State, U.heap = H → s.WarmedH U.vm → cP dC dI av H.size ws tys av.toArray U := fun U hU hW => ⟨rfl, by rw [hU], by rw [hU]; exact hP, va_K.moved hW.alike hK, hD.weaken (fun _ _ _ _ => trivial), hN.warm hW⟩
/-- the cells behind a contract -/
def cB (dC : Nat → ClassId) (dI : Nat → Nat → Nat) (A : Nat → Prop) (ws : va_W) (tys : List (ClassId × FieldType)) (t : State) : Prop := va_P (dC, dI) vwCl ws t.heap ∧ va_K (dC, dI) vwCl tys t ∧ va_D A ws
theorem zz1 {x : Int32} (h1 : ¬ x < 0) (h2 : ¬ (0 : Int32) ≤ x) : False := h1 (Int32.not_le.mp h2)
theorem zz2 {x : Int32} (h0 : ¬ x = 0) (h1 : ¬ x < 0) (h2 : x ≤ 0) : False := h0 (Int32.le_antisymm h2 (Int32.not_lt.mp h1))
def cnt5 (x : Int32) : Int32 := if x = 0 then 0 else if x = 1 then 0 else if x = 2 then 0 else if x = 3 then 0 else if x = 4 then 0 else -1
theorem out5 {x : Int32} (h0 : ¬ x = 0) (h1 : ¬ x = 1) (h2 : ¬ x = 2) (h3 : ¬ x = 3) (h4 : ¬ x = 4) : x.toInt < 0 ∨ 4 < x.toInt := by
  have e0 : x.toInt ≠ 0 := fun e => h0 (Int32.toInt_inj.mp (e.trans (by decide)))
  have e1 : x.toInt ≠ 1 := fun e => h1 (Int32.toInt_inj.mp (e.trans (by decide)))
  have e2 : x.toInt ≠ 2 := fun e => h2 (Int32.toInt_inj.mp (e.trans (by decide)))
  have e3 : x.toInt ≠ 3 := fun e => h3 (Int32.toInt_inj.mp (e.trans (by decide)))
  have e4 : x.toInt ≠ 4 := fun e => h4 (Int32.toInt_inj.mp (e.trans (by decide)))
  omega
theorem lc_lt {x y : Int64} : lg_cmp x y < 0 ↔ x < y := by
  unfold lg_cmp
  by_cases h1 : y < x
  · simp [h1, Int64.lt_asymm h1]
  · by_cases h2 : x = y
    · simp [h1, h2]
    · have h3 : x < y := Int64.lt_of_le_of_ne (Int64.not_lt.mp h1) h2
      simp [h1, h2, h3]
theorem lc_gt {x y : Int64} : 0 < lg_cmp x y ↔ y < x := by
  unfold lg_cmp
  by_cases h1 : y < x
  · simp [h1]
  · by_cases h2 : x = y
    · simp [h1, h2]
    · simp [h1, h2]
theorem in_a {x lo hi : Int64} (c : lg_cmp x lo < 0) : (0 : Int32) = (if lo ≤ x ∧ x ≤ hi then 1 else 0) := (if_neg (fun h => absurd (lc_lt.mp c) (Int64.not_lt.mpr h.1))).symm
theorem in_b {x lo hi : Int64} (c : 0 < lg_cmp x hi) : (0 : Int32) = (if lo ≤ x ∧ x ≤ hi then 1 else 0) := (if_neg (fun h => absurd (lc_gt.mp c) (Int64.not_lt.mpr h.2))).symm
theorem in_c {x lo hi : Int64} (c1 : ¬ lg_cmp x lo < 0) (c2 : ¬ 0 < lg_cmp x hi) : (1 : Int32) = (if lo ≤ x ∧ x ≤ hi then 1 else 0) := (if_pos ⟨Int64.not_lt.mp (fun h => c1 (lc_lt.mpr h)), Int64.not_lt.mp (fun h => c2 (lc_gt.mpr h))⟩).symm
theorem in_neg (x : Int64) : ¬ ((0 : Int64) ≤ x ∧ x ≤ -1) := fun h => by
  have := Int64.le_trans h.1 h.2
  exact absurd this (by decide)
theorem in_ne {x : Int32} (h : ¬ x = 0) : ¬ ((0 : Int64) ≤ x.toInt64 ∧ x.toInt64 ≤ 0) := fun q => by
  have e : x.toInt64 = 0 := Int64.le_antisymm q.2 q.1
  have e2 : x.toInt64.toInt = (0 : Int64).toInt := congrArg Int64.toInt e
  rw [Int32.toInt_toInt64] at e2
  exact h (Int32.toInt_inj.mp (e2.trans (by decide)))
