abbrev NSE : String := "java/util/NoSuchElementException"
def wpr : List Cond := [Cond.classLink RX11 301 NSE, Cond.initialized NSE, Cond.fieldLink RX11 298 "RowTypes" "toldLength" "I"] ++ (wsX110 ++ (vx_at0 RX11 303 NSE ["java/lang/RuntimeException", "java/lang/Exception"]).filter goodWord)
def wplr : List Cond := [Cond.classLink RL 13 NSE, Cond.methodLink RL 7 yX11_row, Cond.instanceMethod yX11_row, Cond.selects RX11 yX11_row yX11_row, Cond.initialized RX11, Cond.code yX11_row cX11_row 2 (some .long)] ++ wpr
def rwL : List Cond := [Cond.castable NSE NSE, Cond.declares ⟨"java/lang/RuntimeException", "<init>", "()V"⟩, Cond.declares ⟨"java/lang/Exception", "<init>", "()V"⟩, Cond.declares ⟨"java/lang/Throwable", "<init>", "()V"⟩]
theorem rw_rest : ∀ w ∈ (vx_at0 RX11 303 NSE ["java/lang/RuntimeException", "java/lang/Exception"]).filter (fun w => !goodWord w), w ∈ rwL := by decide +kernel
theorem rw_good : ∀ w ∈ Cond.classLink RX11 301 NSE :: Cond.initialized NSE :: vx_at0 RX11 303 NSE ["java/lang/RuntimeException", "java/lang/Exception"], vx_ot w = true := by decide +kernel
/-- the two constants that a new exception takes, and that it may be cast to its own class -/
def stU (A : Nat → Prop) (U : State) : Prop := vx_Zq Bundle.tN "UNASSIGNED_STACK" Bundle.steD A U U.heap ∧ vx_Zq Bundle.tN "SUPPRESSED_SENTINEL" Bundle.listD A U U.heap ∧ va_Nw (.castable NSE NSE) U ∧ va_Nw (.declares ⟨"java/lang/RuntimeException", "<init>", "()V"⟩) U ∧ va_Nw (.declares ⟨"java/lang/Exception", "<init>", "()V"⟩) U ∧ va_Nw (.declares ⟨"java/lang/Throwable", "<init>", "()V"⟩) U
theorem stU.to {A A1 : Nat → Prop} {s U : State} {H : Heap} {locs : List Loc} (h : stU A s) (hS : va_S A s.heap H locs) (hF : ∀ q, A1 q → A q) (hU : U.heap = H) (hW : s.WarmedH U.vm) : stU A1 U := by
  obtain ⟨h1, h2, h3, h4, h5, h6⟩ := h
  refine ⟨?_, ?_, va_Nw.warmC hW h3, va_Nw.warmD hW h4, va_Nw.warmD hW h5, va_Nw.warmD hW h6⟩
  · rw [hU]; exact ((h1.moved hW.alike).kept (fun a ha hn => hS.2.1 a ha hn)).narrow hF
  · rw [hU]; exact ((h2.moved hW.alike).kept (fun a ha hn => hS.2.1 a ha hn)).narrow hF
def rP (dC : Nat → ClassId) (dI : Nat → Nat → Nat) (av : List Value) (sz : Nat) (ws : va_W) : Array Value → State → Prop := va_Pc av (fun U => U.heap.size = sz ∧ va_P (dC, dI) vwCl ws U.heap ∧ va_K (dC, dI) vwCl [] U ∧ va_D (fun _ => True) ws ∧ stU (va_A ws sz) U)
theorem rP_blind {dC : Nat → ClassId} {dI : Nat → Nat → Nat} {av : List Value} {sz : Nat} {ws : va_W} : FrameBlind (rP dC dI av sz ws) := fun a U g mk q => by
  obtain ⟨q0, q1, qP, qK, qD, q4, q5, q6⟩ := q
  exact ⟨q0, q1, qP, va_K.moved (u := U) (U := U.calling g mk a) (Vm.Alike.refl U.vm) qK, qD, q4.moved (u := U) (U := U.calling g mk a) (Vm.Alike.refl U.vm), q5.moved (u := U) (U := U.calling g mk a) (Vm.Alike.refl U.vm), va_Nw.same rfl rfl q6.1, va_Nw.same rfl rfl q6.2.1, va_Nw.same rfl rfl q6.2.2.1, va_Nw.same rfl rfl q6.2.2.2⟩
theorem rP_pre {dC : Nat → ClassId} {dI : Nat → Nat → Nat} {av : List Value} {ws : va_W} {A : Nat → Prop} {s : State} {H : Heap} {locs : List Loc} (hP : va_P (dC, dI) vwCl ws H) (hK : va_K (dC, dI) vwCl [] s) (hD : va_D A ws) (hst : stU A s) (hS : va_S A s.heap H locs) (hF : ∀ q, va_A ws H.size q → A q) : ∀ U : State, U.heap = H → s.WarmedH U.vm → rP dC dI av H.size ws av.toArray U := fun U hU hW => ⟨rfl, by rw [hU], by rw [hU]; exact hP, va_K.moved hW.alike hK, hD.weaken (fun _ _ _ _ => trivial), hst.to hS hF hU hW⟩
theorem gLR : GoodIn wplr (wsV RL 7 RX11 yX11_row (Cond.code yX11_row cX11_row 2 (some .long) :: wpr)) := by
  have hg : wplr.all goodWord = true := by decide +kernel
  have hm : ∀ w ∈ wplr, w ∈ wplr ∧ ((w.onTables && w.keeps) = true ∨ ∃ ty, w = .arrayClass ty) := fun w hw => ⟨hw, good_of_word (List.all_eq_true.mp hg w hw)⟩
  intro w hw
  rcases List.mem_append.mp hw with hw | hw
  · simp only [List.mem_cons, List.not_mem_nil, or_false] at hw
    rcases hw with rfl | rfl | rfl | rfl
    · exact hm _ (List.mem_append_left _ (List.mem_of_getElem? (i := 1) rfl))
    · exact hm _ (List.mem_append_left _ (List.mem_of_getElem? (i := 2) rfl))
    · exact hm _ (List.mem_append_left _ (List.mem_of_getElem? (i := 3) rfl))
    · exact hm _ (List.mem_append_left _ (List.mem_of_getElem? (i := 4) rfl))
  · rcases List.mem_cons.mp hw with rfl | hw
    · exact hm _ (List.mem_append_left _ (List.mem_of_getElem? (i := 5) rfl))
    · exact hm _ (List.mem_append_right _ hw)
set_option maxHeartbeats 4000000 in
set_option maxRecDepth 100000 in
theorem c_X11_row (l : Launch) (hl9 : l.stackTraces = false) (dC : Nat → ClassId) (dI : Nat → Nat → Nat) (sz : Nat) (h0 b1 b2 b3 b4 b5 b6 b7 b8 b9 b10 b11 b12 b13 : Nat) (p0 : Int32) : vx_Met l yX11_row (Cond.code yX11_row cX11_row 2 (some .long) :: wpr) ({ frames := 6, cells := 1, slots := 6, locals := 81 }) (rP dC dI [.ref h0, .int p0] sz [(h0, .inr (11, [.ref b1, .int 0, .ref b2, .int 0, .int 0, .ref b3, .ref b4, .int 0, .ref b5, .int 0, .int 9, .ref b6, .ref b7, .ref b8, .ref b9, .ref b10, .ref b11, .ref b12, .ref b13]))]) (va_Ql (fun (_ : Int64) (_ : Unit) => False) (fun (_ : Unit) (_ : State) => True) (va_A [(h0, .inr (11, [.ref b1, .int 0, .ref b2, .int 0, .int 0, .ref b3, .ref b4, .int 0, .ref b5, .int 0, .int 9, .ref b6, .ref b7, .ref b8, .ref b9, .ref b10, .ref b11, .ref b12, .ref b13]))] sz)) (vx_X (fun _ : Unit => True) (fun E (_ : Unit) (_ : State) => E = NSE) (va_A [(h0, .inr (11, [.ref b1, .int 0, .ref b2, .int 0, .int 0, .ref b3, .ref b4, .int 0, .ref b5, .int 0, .int 9, .ref b6, .ref b7, .ref b8, .ref b9, .ref b10, .ref b11, .ref b12, .ref b13]))] sz)) 1 6 (va_A [(h0, .inr (11, [.ref b1, .int 0, .ref b2, .int 0, .int 0, .ref b3, .ref b4, .int 0, .ref b5, .int 0, .int 9, .ref b6, .ref b7, .ref b8, .ref b9, .ref b10, .ref b11, .ref b12, .ref b13]))] sz) := by
  refine vx_ofW (cc := cX11_row) (maxL := 2) (ret := (some .long)) (by decide) rfl ?_
  intro p e s m args below meth c s₁ B hml hnoT hv
  obtain ⟨rfl, hsz, hP, hK, hD0, hst⟩ := hv
  have hx := B.exec
  have hb := B.bytes
  have hr := B.returns
  have hts := atoms_spec (ws := Cond.code yX11_row cX11_row 2 (some .long) :: wpr) B.pre
  have hw : ∀ w ∈ wpr, w.before _ s = true := fun w h => hts w (List.mem_cons_of_mem _ h)
  have hown : s.vm.findClass RX11 = some m.cls := findClass_of_methodNamed B.named
  have hlocks := B.notSynchronized
  subst hsz
  have hD := hD0.self (sz := s.heap.size)
  generalize hAe : va_A [(h0, .inr (11, [.ref b1, .int 0, .ref b2, .int 0, .int 0, .ref b3, .ref b4, .int 0, .ref b5, .int 0, .int 9, .ref b6, .ref b7, .ref b8, .ref b9, .ref b10, .ref b11, .ref b12, .ref b13]))] s.heap.size = A at hD hst ⊢
  have hA : ∀ q : Nat, s.heap.size ≤ q → A q := fun q h => by rw [← hAe]; exact Or.inr h
  have hS : va_S A s.heap s.heap [] := va_S.rf
  have hP : va_P (dC, dI) vwCl [(h0, .inr (11, [.ref b1, .int 0, .ref b2, .int 0, .int 0, .ref b3, .ref b4, .int 0, .ref b5, .int 0, .int 9, .ref b6, .ref b7, .ref b8, .ref b9, .ref b10, .ref b11, .ref b12, .ref b13]))] s.heap := hP
  have hl := lv_entry ([.ref h0, .int p0]) (n := 2) (Nat.le_of_ble_eq_true rfl)
  rw [lg_entry_eq]
  generalize (lg_sl ([.ref h0, .int p0]) ++ List.replicate (2 - (lg_sl ([.ref h0, .int p0])).length) Slot.unset).toArray = ls at hl ⊢
  have hl : lv_has ls 2 [(0, .ref h0), (1, .int p0)] := hl
  refine lv_iload_n hx hb dX11_row_0 rfl (lv_at hl 1 rfl) ?_
  refine lv_if_lt (tgt := 21) hx hb dX11_row_1 (by decide) (fun c1 => ?_) (fun c1 => ?_)
  · exact vx_throw0 (own := RX11) (cls := NSE) (names := ["java/lang/RuntimeException", "java/lang/Exception"]) (ik := 301) (ic := 303) hx hb hl9 hown (by decide +kernel) (by decide +kernel) (hw _ (List.mem_append_left _ (List.mem_of_getElem? (i := 0) rfl))) (hw _ (List.mem_append_left _ (List.mem_of_getElem? (i := 1) rfl))) (vx_hat (B := rwL) (fun w h => hw w (List.mem_append_right _ (List.mem_append_right _ h))) rw_rest (vx_c (va_Nw.use rfl hst.2.2.1) (vx_c (va_Nw.use rfl hst.2.2.2.1) (vx_c (va_Nw.use rfl hst.2.2.2.2.1) (vx_c (va_Nw.use rfl hst.2.2.2.2.2) vx_n))))) rw_good hst.1 hst.2.1 hS (by rw [hml]; exact hl.1) dX11_row_21 dX11_row_24 dX11_row_25 dX11_row_28 (fun x h => (hnoT x h).elim) (by decide) (by decide) (Nat.le_of_ble_eq_true rfl) (Nat.le_of_ble_eq_true rfl) hlocks (fun t _ h1 h2 => ⟨(), trivial, rfl, h1, fun q hq _ => h2 q hq⟩) (fun z h => absurd h List.not_mem_nil) (Nat.le_of_ble_eq_true rfl) (Nat.le_of_ble_eq_true rfl)
  · refine lv_iload_n hx hb dX11_row_4 rfl (lv_at hl 1 rfl) ?_
    refine lv_aload_n hx hb dX11_row_5 rfl (lv_at hl 0 rfl) ?_
    refine va_get (D := (dC, dI)) (ci := 11) (v := .int 0) (C := RX11) (T := TX11) (N := 19) hx hb hw (fun w h => List.mem_append_right _ (List.mem_append_left _ h)) hown hK hP 0 rfl rfl 9 (by decide) (hw _ (List.mem_append_left _ (List.mem_of_getElem? (i := 2) rfl))) (fun _ h9 => h9) rfl dX11_row_6 ?_
    refine lv_icmp_ge (tgt := 21) hx hb dX11_row_9 (by decide) (fun _ => ?_) (fun c2 => False.elim (zz1 c1 c2))
    exact vx_throw0 (own := RX11) (cls := NSE) (names := ["java/lang/RuntimeException", "java/lang/Exception"]) (ik := 301) (ic := 303) hx hb hl9 hown (by decide +kernel) (by decide +kernel) (hw _ (List.mem_append_left _ (List.mem_of_getElem? (i := 0) rfl))) (hw _ (List.mem_append_left _ (List.mem_of_getElem? (i := 1) rfl))) (vx_hat (B := rwL) (fun w h => hw w (List.mem_append_right _ (List.mem_append_right _ h))) rw_rest (vx_c (va_Nw.use rfl hst.2.2.1) (vx_c (va_Nw.use rfl hst.2.2.2.1) (vx_c (va_Nw.use rfl hst.2.2.2.2.1) (vx_c (va_Nw.use rfl hst.2.2.2.2.2) vx_n))))) rw_good hst.1 hst.2.1 hS (by rw [hml]; exact hl.1) dX11_row_21 dX11_row_24 dX11_row_25 dX11_row_28 (fun x h => (hnoT x h).elim) (by decide) (by decide) (Nat.le_of_ble_eq_true rfl) (Nat.le_of_ble_eq_true rfl) hlocks (fun t _ h1 h2 => ⟨(), trivial, rfl, h1, fun q hq _ => h2 q hq⟩) (fun z h => absurd h List.not_mem_nil) (Nat.le_of_ble_eq_true rfl) (Nat.le_of_ble_eq_true rfl)
set_option maxHeartbeats 4000000 in
set_option maxRecDepth 100000 in
theorem c_L_row (l : Launch) (hl9 : l.stackTraces = false) (dC : Nat → ClassId) (dI : Nat → Nat → Nat) (sz : Nat) (h0 b1 b2 b3 b4 b5 b6 b7 b8 b9 b10 b11 b12 b13 : Nat) (p0 : Int32) (o9 : Nat) : Met l yL_row (Cond.codeWith yL_row cL_row 4 (some .int) [(0, 8, 11, 13)] :: wplr) ({ frames := 7, cells := 1, slots := 6, locals := 102 }) (rP dC dI [.ref h0, .int p0, .ref o9] sz [(h0, .inr (11, [.ref b1, .int 0, .ref b2, .int 0, .int 0, .ref b3, .ref b4, .int 0, .ref b5, .int 0, .int 9, .ref b6, .ref b7, .ref b8, .ref b9, .ref b10, .ref b11, .ref b12, .ref b13]))]) (va_Qi (fun (r : Int32) (_ : Unit) => r = 1) (fun (_ : Unit) t => cB dC dI (va_A [(h0, .inr (11, [.ref b1, .int 0, .ref b2, .int 0, .int 0, .ref b3, .ref b4, .int 0, .ref b5, .int 0, .int 9, .ref b6, .ref b7, .ref b8, .ref b9, .ref b10, .ref b11, .ref b12, .ref b13]))] sz) [] [] t) (va_A [(h0, .inr (11, [.ref b1, .int 0, .ref b2, .int 0, .int 0, .ref b3, .ref b4, .int 0, .ref b5, .int 0, .int 9, .ref b6, .ref b7, .ref b8, .ref b9, .ref b10, .ref b11, .ref b12, .ref b13]))] sz)) 1 6 (va_A [(h0, .inr (11, [.ref b1, .int 0, .ref b2, .int 0, .int 0, .ref b3, .ref b4, .int 0, .ref b5, .int 0, .int 9, .ref b6, .ref b7, .ref b8, .ref b9, .ref b10, .ref b11, .ref b12, .ref b13]))] sz) := by
  refine va_MetW (cc := cL_row) (maxL := 4) (ret := (some .int)) (hh := [(0, 8, 11, 13)]) (by decide) rfl ?_
  intro p e s m args below meth c s₁ B hml hv
  obtain ⟨rfl, hsz, hP, hK, hD0, hst⟩ := hv
  have hx := B.exec
  have hb := B.bytes
  have hr := B.returns
  have hts := atoms_spec (ws := Cond.codeWith yL_row cL_row 4 (some .int) [(0, 8, 11, 13)] :: wplr) B.pre
  have hw : ∀ w ∈ wplr, w.before _ s = true := fun w h => hts w (List.mem_cons_of_mem _ h)
  have hown : s.vm.findClass RL = some m.cls := findClass_of_methodNamed B.named
  have htab : c.exceptionTable.toList = tableOf [(0, 8, 11, 13)] := vx_table (x := yL_row) B (hts _ List.mem_cons_self)
  have hlocks := B.notSynchronized
  subst hsz
  have hD := hD0.self (sz := s.heap.size)
  generalize hAe : va_A [(h0, .inr (11, [.ref b1, .int 0, .ref b2, .int 0, .int 0, .ref b3, .ref b4, .int 0, .ref b5, .int 0, .int 9, .ref b6, .ref b7, .ref b8, .ref b9, .ref b10, .ref b11, .ref b12, .ref b13]))] s.heap.size = A at hD hst ⊢
  have hA : ∀ q : Nat, s.heap.size ≤ q → A q := fun q h => by rw [← hAe]; exact Or.inr h
  have hS : va_S A s.heap s.heap [] := va_S.rf
  have hP : va_P (dC, dI) vwCl [(h0, .inr (11, [.ref b1, .int 0, .ref b2, .int 0, .int 0, .ref b3, .ref b4, .int 0, .ref b5, .int 0, .int 9, .ref b6, .ref b7, .ref b8, .ref b9, .ref b10, .ref b11, .ref b12, .ref b13]))] s.heap := hP
  have hl := lv_entry ([.ref h0, .int p0, .ref o9]) (n := 4) (Nat.le_of_ble_eq_true rfl)
  rw [lg_entry_eq]
  generalize (lg_sl ([.ref h0, .int p0, .ref o9]) ++ List.replicate (4 - (lg_sl ([.ref h0, .int p0, .ref o9])).length) Slot.unset).toArray = ls at hl ⊢
  have hl : lv_has ls 4 [(0, .ref h0), (1, .int p0), (2, .ref o9)] := hl
  refine lv_aload_n hx hb dL_row_0 rfl (lv_at hl 2 rfl) ?_
  refine lv_iconst (v := 0) hx hb dL_row_1 (by decide) ?_
  refine lv_aload_n hx hb dL_row_2 rfl (lv_at hl 0 rfl) ?_
  refine lv_iload_n hx hb dL_row_3 rfl (lv_at hl 1 rfl) ?_
  have hPc := hP.sub (ws' := [(h0, .inr (11, [.ref b1, .int 0, .ref b2, .int 0, .int 0, .ref b3, .ref b4, .int 0, .ref b5, .int 0, .int 9, .ref b6, .ref b7, .ref b8, .ref b9, .ref b10, .ref b11, .ref b12, .ref b13]))]) [0] rfl
  have hDc := hD.sub (ws' := [(h0, .inr (11, [.ref b1, .int 0, .ref b2, .int 0, .int 0, .ref b3, .ref b4, .int 0, .ref b5, .int 0, .int 9, .ref b6, .ref b7, .ref b8, .ref b9, .ref b10, .ref b11, .ref b12, .ref b13]))]) [0] (by decide) rfl
  have hKc := hK.sub (tys' := []) [] rfl
  have hFc := va_free (wc := [(h0, .inr (11, [.ref b1, .int 0, .ref b2, .int 0, .int 0, .ref b3, .ref b4, .int 0, .ref b5, .int 0, .int 9, .ref b6, .ref b7, .ref b8, .ref b9, .ref b10, .ref b11, .ref b12, .ref b13]))]) hD hS hA [0] rfl
  refine vx_calll (vx_runV (As := [.int p0]) (rest := [.int 0, .ref o9]) ⟨hx, hb, hml, hown, hw⟩ (c_X11_row l hl9 dC dI _ h0 b1 b2 b3 b4 b5 b6 b7 b8 b9 b10 b11 b12 b13 p0) (cwV 1 hw gLR rfl rfl rfl (by decide +kernel) ⟨Nat.le_of_ble_eq_true rfl, Nat.le_of_ble_eq_true rfl⟩) ⟨rP_blind, va_recv hKc hPc (ci := 11) (q0 := 0) rfl rfl, rP_pre hPc hKc hDc hst hS hFc⟩ rfl rfl hl.1 rfl (lv_room (Nat.le_of_ble_eq_true rfl)) dL_row_4 ⟨Nat.le_of_ble_eq_true rfl, Nat.le_of_ble_eq_true rfl⟩) hS (fun q _ h => hFc q h) hFc (fun q _ h => hFc q h) (fun E ce q9 u t H1 locs ht hvm hpx hBX hz1 hk1 hS hce hcv hcl => ?_) (fun r u t H1 locs ht hvm hw1 hB hz1 hk1 hS => hw1.elim)
  have hBX : E = NSE := hBX
  subst hBX
  refine vx_catch (name := NSE) hown [] ⟨0, 8, 11, 13⟩ [] (htab.trans rfl) (fun z hz => absurd hz List.not_mem_nil) (by decide) (by decide) (hw (.classLink RL 13 NSE) (List.mem_append_left _ (List.mem_of_getElem? (i := 0) rfl))) (va_Nw.use rfl hst.2.2.1) hce hcv hcl ?_
  refine W.widen (k := 1) (n := 6) (Nat.le_of_ble_eq_true rfl) (Nat.le_of_ble_eq_true rfl) ?_
  refine lv_astore_n (lv' := [(3, .ref q9), (0, .ref h0), (1, .int p0), (2, .ref o9)]) hx hb dL_row_11 rfl hl (by decide) rfl (fun ls hl => ?_)
  refine lv_iconst (v := 1) hx hb dL_row_12 (by decide) ?_
  have hK9 := hK.sub (tys' := []) [] rfl
  have hD9 := hD.sub (ws' := []) [] (by decide) rfl
  exact W.iret (v := 1) hx hb hr (fun t ht hW => ⟨⟨1, (), rfl, rfl, fun k q h => by simp at h, va_K.moved hW.alike hK9, hD9⟩, hS.F ht⟩) hS.2.2 dL_row_13
theorem rowIn : GoodIn lw_tbl (va_wsS RL 123 yL_row (Cond.codeWith yL_row cL_row 4 (some .int) [(0, 8, 11, 13)] :: wplr)) := goodIn_of _ (by decide +kernel)
