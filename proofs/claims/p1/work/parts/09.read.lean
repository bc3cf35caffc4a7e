set_option maxHeartbeats 4000000 in
set_option maxRecDepth 100000 in
theorem c_X0_take (l : Launch) (dC : Nat → ClassId) (dI : Nat → Nat → Nat) (sz : Nat) (e9 : Nat) (b1 : Nat) (e1 : Nat) (e2 : Nat) (e3 : Nat) (e4 : Nat) : Met l yX0_take (Cond.code yX0_take cX0_take 4 none :: wp) ({ frames := 0, cells := 0, slots := 0, locals := 0 }) (cP dC dI [.ref e9, .ref b1, .int 0] sz [(e9, .inr (0, [.ref e1, .ref e2, .ref e3, .int 0, .ref e4]))] []) (va_Qv (fun _ : Unit => True) (fun (_ : Unit) t => cB dC dI (va_A [(e9, .inr (0, [.ref e1, .ref e2, .ref e3, .int 0, .ref e4]))] sz) [(e9, .inr (0, [.ref e1, .ref e2, .ref e3, .int 0, .ref e4]))] [] t) (va_A [(e9, .inr (0, [.ref e1, .ref e2, .ref e3, .int 0, .ref e4]))] sz)) 0 0 (va_A [(e9, .inr (0, [.ref e1, .ref e2, .ref e3, .int 0, .ref e4]))] sz) := by
  refine Met.ofW (cc := cX0_take) (maxL := 4) (ret := none) (by decide) rfl ?_
  intro p e s m args below meth c s₁ B hml hv
  obtain ⟨rfl, hsz, hP, hK, hD0, hN⟩ := hv
  have hx := B.exec
  have hb := B.bytes
  have hr := B.returns
  have hts := atoms_spec (ws := Cond.code yX0_take cX0_take 4 none :: wp) B.pre
  have hw : ∀ w ∈ wp, w.before _ s = true := fun w h => hts w (List.mem_cons_of_mem _ h)
  have hown : s.vm.findClass RX0 = some m.cls := findClass_of_methodNamed B.named
  have hlocks := B.notSynchronized
  subst hsz
  have hD := hD0.self (sz := s.heap.size)
  generalize hAe : va_A [(e9, .inr (0, [.ref e1, .ref e2, .ref e3, .int 0, .ref e4]))] s.heap.size = A at hD ⊢
  have hA : ∀ q : Nat, s.heap.size ≤ q → A q := fun q h => by rw [← hAe]; exact Or.inr h
  have hS : va_S A s.heap s.heap [] := va_S.rf
  have hP : va_P (dC, dI) vwCl [(e9, .inr (0, [.ref e1, .ref e2, .ref e3, .int 0, .ref e4]))] s.heap := hP
  have hl := lv_entry ([.ref e9, .ref b1, .int 0]) (n := 4) (Nat.le_of_ble_eq_true rfl)
  rw [lg_entry_eq]
  generalize (lg_sl ([.ref e9, .ref b1, .int 0]) ++ List.replicate (4 - (lg_sl ([.ref e9, .ref b1, .int 0])).length) Slot.unset).toArray = ls at hl ⊢
  have hl : lv_has ls 4 [(0, .ref e9), (1, .ref b1), (2, .int 0)] := hl
  refine lv_aload_n hx hb dX0_take_0 rfl (lv_at hl 0 rfl) ?_
  refine lv_iconst (v := 0) hx hb dX0_take_1 (by decide) ?_
  refine va_put (D := (dC, dI)) (ci := 0) (v := .int 0) (ty := .int) (C := RX0) (T := TX0) (N := 5) hx hb hw uX0 tyX0 tyX0_ok nmX0 hown hK hP hD hS 0 rfl rfl 3 (by decide) (hw _ q161) (fun _ h9 => h9) rfl (by decide +kernel) rfl rfl (Nat.le_of_ble_eq_true rfl) dX0_take_2 (fun H locs hP hD hS => ?_)
  have hP : va_P (dC, dI) vwCl [(e9, .inr (0, [.ref e1, .ref e2, .ref e3, .int 0, .ref e4]))] H := hP
  have hD : va_D A [(e9, .inr (0, [.ref e1, .ref e2, .ref e3, .int 0, .ref e4]))] := hD
  refine lv_iconst (v := 0) hx hb dX0_take_5 (by decide) ?_
  refine lv_istore_n (lv' := [(3, .int 0), (0, .ref e9), (1, .ref b1), (2, .int 0)]) hx hb dX0_take_6 rfl hl (by decide) rfl (fun ls hl => ?_)
  refine lv_iload_n hx hb dX0_take_7 rfl (lv_at hl 0 rfl) ?_
  refine lv_iload_n hx hb dX0_take_8 rfl (lv_at hl 3 rfl) ?_
  refine lv_icmp_ge (tgt := 63) hx hb dX0_take_9 (by decide) (fun _ => ?_) (fun c9 => absurd c9 (by decide))
  have hP9 := hP.sub (ws' := [(e9, .inr (0, [.ref e1, .ref e2, .ref e3, .int 0, .ref e4]))]) [0] rfl
  have hD9 := hD.sub (ws' := [(e9, .inr (0, [.ref e1, .ref e2, .ref e3, .int 0, .ref e4]))]) [0] (by decide) rfl
  have hK9 := hK.sub (tys' := []) [] rfl
  exact W.vret hx hb hr (fun t ht hW => ⟨⟨(), rfl, trivial, by rw [ht]; exact hP9, va_K.moved hW.alike hK9, hD9⟩, hS.F ht⟩) hS.2.2 dX0_take_63
set_option maxHeartbeats 4000000 in
set_option maxRecDepth 100000 in
theorem c_X2_clear (l : Launch) (dC : Nat → ClassId) (dI : Nat → Nat → Nat) (sz : Nat) (e5 : Nat) (e8 : Nat) : Met l yX2_clear (Cond.code yX2_clear cX2_clear 1 none :: wp) ({ frames := 0, cells := 0, slots := 0, locals := 0 }) (cP dC dI [.ref e5] sz [(e5, .inr (2, [.ref e8, .int 0]))] []) (va_Qv (fun _ : Unit => True) (fun (_ : Unit) t => cB dC dI (va_A [(e5, .inr (2, [.ref e8, .int 0]))] sz) [(e5, .inr (2, [.ref e8, .int 0]))] [] t) (va_A [(e5, .inr (2, [.ref e8, .int 0]))] sz)) 0 0 (va_A [(e5, .inr (2, [.ref e8, .int 0]))] sz) := by
  refine Met.ofW (cc := cX2_clear) (maxL := 1) (ret := none) (by decide) rfl ?_
  intro p e s m args below meth c s₁ B hml hv
  obtain ⟨rfl, hsz, hP, hK, hD0, hN⟩ := hv
  have hx := B.exec
  have hb := B.bytes
  have hr := B.returns
  have hts := atoms_spec (ws := Cond.code yX2_clear cX2_clear 1 none :: wp) B.pre
  have hw : ∀ w ∈ wp, w.before _ s = true := fun w h => hts w (List.mem_cons_of_mem _ h)
  have hown : s.vm.findClass RX2 = some m.cls := findClass_of_methodNamed B.named
  have hlocks := B.notSynchronized
  subst hsz
  have hD := hD0.self (sz := s.heap.size)
  generalize hAe : va_A [(e5, .inr (2, [.ref e8, .int 0]))] s.heap.size = A at hD ⊢
  have hA : ∀ q : Nat, s.heap.size ≤ q → A q := fun q h => by rw [← hAe]; exact Or.inr h
  have hS : va_S A s.heap s.heap [] := va_S.rf
  have hP : va_P (dC, dI) vwCl [(e5, .inr (2, [.ref e8, .int 0]))] s.heap := hP
  have hl := lv_entry ([.ref e5]) (n := 1) (Nat.le_of_ble_eq_true rfl)
  rw [lg_entry_eq]
  generalize (lg_sl ([.ref e5]) ++ List.replicate (1 - (lg_sl ([.ref e5])).length) Slot.unset).toArray = ls at hl ⊢
  have hl : lv_has ls 1 [(0, .ref e5)] := hl
  refine lv_aload_n hx hb dX2_clear_0 rfl (lv_at hl 0 rfl) ?_
  refine lv_iconst (v := 0) hx hb dX2_clear_1 (by decide) ?_
  refine va_put (D := (dC, dI)) (ci := 2) (v := .int 0) (ty := .int) (C := RX2) (T := TX2) (N := 2) hx hb hw uX2 tyX2 tyX2_ok nmX2 hown hK hP hD hS 0 rfl rfl 1 (by decide) (hw _ q162) (fun _ h9 => h9) rfl (by decide +kernel) rfl rfl (Nat.le_of_ble_eq_true rfl) dX2_clear_2 (fun H locs hP hD hS => ?_)
  have hP : va_P (dC, dI) vwCl [(e5, .inr (2, [.ref e8, .int 0]))] H := hP
  have hD : va_D A [(e5, .inr (2, [.ref e8, .int 0]))] := hD
  have hP9 := hP.sub (ws' := [(e5, .inr (2, [.ref e8, .int 0]))]) [0] rfl
  have hD9 := hD.sub (ws' := [(e5, .inr (2, [.ref e8, .int 0]))]) [0] (by decide) rfl
  have hK9 := hK.sub (tys' := []) [] rfl
  exact W.vret hx hb hr (fun t ht hW => ⟨⟨(), rfl, trivial, by rw [ht]; exact hP9, va_K.moved hW.alike hK9, hD9⟩, hS.F ht⟩) hS.2.2 dX2_clear_5
set_option maxHeartbeats 4000000 in
set_option maxRecDepth 100000 in
theorem c_X2_push (l : Launch) (dC : Nat → ClassId) (dI : Nat → Nat → Nat) (sz : Nat) (e5 : Nat) (e8 : Nat) (cA3 : ClassId) : Met l yX2_push (Cond.code yX2_push cX2_push 2 none :: wp) ({ frames := 0, cells := 0, slots := 0, locals := 0 }) (cP dC dI [.ref e5, .int 69] sz [(e5, .inr (2, [.ref e8, .int 0])), (e8, .inl (cA3, 256, .inl (fun _ => 0)))] [(cA3, .int)]) (va_Qv (fun _ : Unit => True) (fun (_ : Unit) t => cB dC dI (va_A [(e5, .inr (2, [.ref e8, .int 0])), (e8, .inl (cA3, 256, .inl (fun _ => 0)))] sz) [(e5, .inr (2, [.ref e8, .int 1])), (e8, .inl (cA3, 256, .inl ((upd (fun _ => 0) (Int32.toNatClampNeg 0) 69))))] [(cA3, .int)] t) (va_A [(e5, .inr (2, [.ref e8, .int 0])), (e8, .inl (cA3, 256, .inl (fun _ => 0)))] sz)) 0 0 (va_A [(e5, .inr (2, [.ref e8, .int 0])), (e8, .inl (cA3, 256, .inl (fun _ => 0)))] sz) := by
  refine Met.ofW (cc := cX2_push) (maxL := 2) (ret := none) (by decide) rfl ?_
  intro p e s m args below meth c s₁ B hml hv
  obtain ⟨rfl, hsz, hP, hK, hD0, hN⟩ := hv
  have hx := B.exec
  have hb := B.bytes
  have hr := B.returns
  have hts := atoms_spec (ws := Cond.code yX2_push cX2_push 2 none :: wp) B.pre
  have hw : ∀ w ∈ wp, w.before _ s = true := fun w h => hts w (List.mem_cons_of_mem _ h)
  have hown : s.vm.findClass RX2 = some m.cls := findClass_of_methodNamed B.named
  have hlocks := B.notSynchronized
  subst hsz
  have hD := hD0.self (sz := s.heap.size)
  generalize hAe : va_A [(e5, .inr (2, [.ref e8, .int 0])), (e8, .inl (cA3, 256, .inl (fun _ => 0)))] s.heap.size = A at hD ⊢
  have hA : ∀ q : Nat, s.heap.size ≤ q → A q := fun q h => by rw [← hAe]; exact Or.inr h
  have hS : va_S A s.heap s.heap [] := va_S.rf
  have hP : va_P (dC, dI) vwCl [(e5, .inr (2, [.ref e8, .int 0])), (e8, .inl (cA3, 256, .inl (fun _ => 0)))] s.heap := hP
  have hl := lv_entry ([.ref e5, .int 69]) (n := 2) (Nat.le_of_ble_eq_true rfl)
  rw [lg_entry_eq]
  generalize (lg_sl ([.ref e5, .int 69]) ++ List.replicate (2 - (lg_sl ([.ref e5, .int 69])).length) Slot.unset).toArray = ls at hl ⊢
  have hl : lv_has ls 2 [(0, .ref e5), (1, .int 69)] := hl
  refine lv_aload_n hx hb dX2_push_0 rfl (lv_at hl 0 rfl) ?_
  refine va_get (D := (dC, dI)) (ci := 2) (v := .int 0) (C := RX2) (T := TX2) (N := 2) hx hb hw uX2 hown hK hP 0 rfl rfl 1 (by decide) (hw _ q162) (fun _ h9 => h9) rfl dX2_push_1 ?_
  refine lv_ldc (v := 1048576) hx hb hown (hw _ q163) dX2_push_4 ?_
  refine lv_icmp_lt (tgt := 10) hx hb dX2_push_6 (by decide) (fun _ => ?_) (fun c9 => absurd c9 (by decide))
  refine lv_aload_n hx hb dX2_push_10 rfl (lv_at hl 0 rfl) ?_
  refine va_get (D := (dC, dI)) (ci := 2) (v := .int 0) (C := RX2) (T := TX2) (N := 2) hx hb hw uX2 hown hK hP 0 rfl rfl 1 (by decide) (hw _ q162) (fun _ h9 => h9) rfl dX2_push_11 ?_
  refine lv_aload_n hx hb dX2_push_14 rfl (lv_at hl 0 rfl) ?_
  refine va_get (D := (dC, dI)) (ci := 2) (v := .ref e8) (C := RX2) (T := TX2) (N := 2) hx hb hw uX2 hown hK hP 0 rfl rfl 0 (by decide) (hw _ q8) (fun _ h9 => h9) rfl dX2_push_15 ?_
  refine va_alen (D := (dC, dI)) hx hb hK hP 1 0 rfl rfl (v := 256) rfl dX2_push_18 ?_
  refine lv_icmp_lt (tgt := 39) hx hb dX2_push_19 (by decide) (fun _ => ?_) (fun c9 => absurd c9 (by decide))
  refine lv_aload_n hx hb dX2_push_39 rfl (lv_at hl 0 rfl) ?_
  refine va_get (D := (dC, dI)) (ci := 2) (v := .ref e8) (C := RX2) (T := TX2) (N := 2) hx hb hw uX2 hown hK hP 0 rfl rfl 0 (by decide) (hw _ q8) (fun _ h9 => h9) rfl dX2_push_40 ?_
  refine lv_aload_n hx hb dX2_push_43 rfl (lv_at hl 0 rfl) ?_
  refine va_get (D := (dC, dI)) (ci := 2) (v := .int 0) (C := RX2) (T := TX2) (N := 2) hx hb hw uX2 hown hK hP 0 rfl rfl 1 (by decide) (hw _ q162) (fun _ h9 => h9) rfl dX2_push_44 ?_
  refine lv_iload_n hx hb dX2_push_47 rfl (lv_at hl 1 rfl) ?_
  refine va_iast (D := (dC, dI)) hx hb hK hP hD hS 1 0 rfl rfl (by unfold vp_in; decide) dX2_push_48 (fun H locs hP hD hS => ?_)
  have hP : va_P (dC, dI) vwCl [(e5, .inr (2, [.ref e8, .int 0])), (e8, .inl (cA3, 256, .inl ((upd (fun _ => 0) (Int32.toNatClampNeg 0) 69))))] H := hP
  have hD : va_D A [(e5, .inr (2, [.ref e8, .int 0])), (e8, .inl (cA3, 256, .inl ((upd (fun _ => 0) (Int32.toNatClampNeg 0) 69))))] := hD
  refine lv_aload_n hx hb dX2_push_49 rfl (lv_at hl 0 rfl) ?_
  refine lv_dup hx hb dX2_push_50 rfl ?_
  refine va_get (D := (dC, dI)) (ci := 2) (v := .int 0) (C := RX2) (T := TX2) (N := 2) hx hb hw uX2 hown hK hP 0 rfl rfl 1 (by decide) (hw _ q162) (fun _ h9 => h9) rfl dX2_push_51 ?_
  refine lv_iconst (v := 1) hx hb dX2_push_54 (by decide) ?_
  refine lv_iadd hx hb dX2_push_55 ?_
  refine lv_topi (fun y2 ey2 => ?_)
  have ey2 : y2 = 1 := ey2.trans (by decide +kernel)
  subst ey2
  refine va_put (D := (dC, dI)) (ci := 2) (v := .int 1) (ty := .int) (C := RX2) (T := TX2) (N := 2) hx hb hw uX2 tyX2 tyX2_ok nmX2 hown hK hP hD hS 0 rfl rfl 1 (by decide) (hw _ q162) (fun _ h9 => h9) rfl (by decide +kernel) rfl rfl (Nat.le_of_ble_eq_true rfl) dX2_push_56 (fun H locs hP hD hS => ?_)
  have hP : va_P (dC, dI) vwCl [(e5, .inr (2, [.ref e8, .int 1])), (e8, .inl (cA3, 256, .inl ((upd (fun _ => 0) (Int32.toNatClampNeg 0) 69))))] H := hP
  have hD : va_D A [(e5, .inr (2, [.ref e8, .int 1])), (e8, .inl (cA3, 256, .inl ((upd (fun _ => 0) (Int32.toNatClampNeg 0) 69))))] := hD
  have hP9 := hP.sub (ws' := [(e5, .inr (2, [.ref e8, .int 1])), (e8, .inl (cA3, 256, .inl ((upd (fun _ => 0) (Int32.toNatClampNeg 0) 69))))]) [0, 1] rfl
  have hD9 := hD.sub (ws' := [(e5, .inr (2, [.ref e8, .int 1])), (e8, .inl (cA3, 256, .inl ((upd (fun _ => 0) (Int32.toNatClampNeg 0) 69))))]) [0, 1] (by decide) rfl
  have hK9 := hK.sub (tys' := [(cA3, .int)]) [0] rfl
  exact W.vret hx hb hr (fun t ht hW => ⟨⟨(), rfl, trivial, by rw [ht]; exact hP9, va_K.moved hW.alike hK9, hD9⟩, hS.F ht⟩) hS.2.2 dX2_push_59
set_option maxHeartbeats 4000000 in
set_option maxRecDepth 100000 in
theorem c_X2_length (l : Launch) (dC : Nat → ClassId) (dI : Nat → Nat → Nat) (sz : Nat) (e5 : Nat) (e8 : Nat) : Met l yX2_length (Cond.code yX2_length cX2_length 1 (some .int) :: wp) ({ frames := 0, cells := 0, slots := 0, locals := 0 }) (cP dC dI [.ref e5] sz [(e5, .inr (2, [.ref e8, .int 1]))] []) (va_Qi (fun (r : Int32) (_ : Unit) => r = 1) (fun (_ : Unit) t => cB dC dI (va_A [(e5, .inr (2, [.ref e8, .int 1]))] sz) [(e5, .inr (2, [.ref e8, .int 1]))] [] t) (va_A [(e5, .inr (2, [.ref e8, .int 1]))] sz)) 0 0 (va_A [(e5, .inr (2, [.ref e8, .int 1]))] sz) := by
  refine Met.ofW (cc := cX2_length) (maxL := 1) (ret := (some .int)) (by decide) rfl ?_
  intro p e s m args below meth c s₁ B hml hv
  obtain ⟨rfl, hsz, hP, hK, hD0, hN⟩ := hv
  have hx := B.exec
  have hb := B.bytes
  have hr := B.returns
  have hts := atoms_spec (ws := Cond.code yX2_length cX2_length 1 (some .int) :: wp) B.pre
  have hw : ∀ w ∈ wp, w.before _ s = true := fun w h => hts w (List.mem_cons_of_mem _ h)
  have hown : s.vm.findClass RX2 = some m.cls := findClass_of_methodNamed B.named
  have hlocks := B.notSynchronized
  subst hsz
  have hD := hD0.self (sz := s.heap.size)
  generalize hAe : va_A [(e5, .inr (2, [.ref e8, .int 1]))] s.heap.size = A at hD ⊢
  have hA : ∀ q : Nat, s.heap.size ≤ q → A q := fun q h => by rw [← hAe]; exact Or.inr h
  have hS : va_S A s.heap s.heap [] := va_S.rf
  have hP : va_P (dC, dI) vwCl [(e5, .inr (2, [.ref e8, .int 1]))] s.heap := hP
  have hl := lv_entry ([.ref e5]) (n := 1) (Nat.le_of_ble_eq_true rfl)
  rw [lg_entry_eq]
  generalize (lg_sl ([.ref e5]) ++ List.replicate (1 - (lg_sl ([.ref e5])).length) Slot.unset).toArray = ls at hl ⊢
  have hl : lv_has ls 1 [(0, .ref e5)] := hl
  refine lv_aload_n hx hb dX2_length_0 rfl (lv_at hl 0 rfl) ?_
  refine va_get (D := (dC, dI)) (ci := 2) (v := .int 1) (C := RX2) (T := TX2) (N := 2) hx hb hw uX2 hown hK hP 0 rfl rfl 1 (by decide) (hw _ q162) (fun _ h9 => h9) rfl dX2_length_1 ?_
  have hP9 := hP.sub (ws' := [(e5, .inr (2, [.ref e8, .int 1]))]) [0] rfl
  have hD9 := hD.sub (ws' := [(e5, .inr (2, [.ref e8, .int 1]))]) [0] (by decide) rfl
  have hK9 := hK.sub (tys' := []) [] rfl
  exact W.iret (v := 1) hx hb hr (fun t ht hW => ⟨⟨1, (), rfl, rfl, by rw [ht]; exact hP9, va_K.moved hW.alike hK9, hD9⟩, hS.F ht⟩) hS.2.2 dX2_length_4
set_option maxHeartbeats 4000000 in
set_option maxRecDepth 100000 in
theorem c_X2_pop (l : Launch) (dC : Nat → ClassId) (dI : Nat → Nat → Nat) (sz : Nat) (e5 : Nat) (e8 : Nat) (cA3 : ClassId) : Met l yX2_pop (Cond.code yX2_pop cX2_pop 1 (some .int) :: wp) ({ frames := 0, cells := 0, slots := 0, locals := 0 }) (cP dC dI [.ref e5] sz [(e5, .inr (2, [.ref e8, .int 1])), (e8, .inl (cA3, 256, .inl ((upd (fun _ => 0) (Int32.toNatClampNeg 0) 69))))] [(cA3, .int)]) (va_Qi (fun (r : Int32) (_ : Unit) => r = 69) (fun (_ : Unit) t => cB dC dI (va_A [(e5, .inr (2, [.ref e8, .int 1])), (e8, .inl (cA3, 256, .inl ((upd (fun _ => 0) (Int32.toNatClampNeg 0) 69))))] sz) [] [] t) (va_A [(e5, .inr (2, [.ref e8, .int 1])), (e8, .inl (cA3, 256, .inl ((upd (fun _ => 0) (Int32.toNatClampNeg 0) 69))))] sz)) 0 0 (va_A [(e5, .inr (2, [.ref e8, .int 1])), (e8, .inl (cA3, 256, .inl ((upd (fun _ => 0) (Int32.toNatClampNeg 0) 69))))] sz) := by
  refine Met.ofW (cc := cX2_pop) (maxL := 1) (ret := (some .int)) (by decide) rfl ?_
  intro p e s m args below meth c s₁ B hml hv
  obtain ⟨rfl, hsz, hP, hK, hD0, hN⟩ := hv
  have hx := B.exec
  have hb := B.bytes
  have hr := B.returns
  have hts := atoms_spec (ws := Cond.code yX2_pop cX2_pop 1 (some .int) :: wp) B.pre
  have hw : ∀ w ∈ wp, w.before _ s = true := fun w h => hts w (List.mem_cons_of_mem _ h)
  have hown : s.vm.findClass RX2 = some m.cls := findClass_of_methodNamed B.named
  have hlocks := B.notSynchronized
  subst hsz
  have hD := hD0.self (sz := s.heap.size)
  generalize hAe : va_A [(e5, .inr (2, [.ref e8, .int 1])), (e8, .inl (cA3, 256, .inl ((upd (fun _ => 0) (Int32.toNatClampNeg 0) 69))))] s.heap.size = A at hD ⊢
  have hA : ∀ q : Nat, s.heap.size ≤ q → A q := fun q h => by rw [← hAe]; exact Or.inr h
  have hS : va_S A s.heap s.heap [] := va_S.rf
  have hP : va_P (dC, dI) vwCl [(e5, .inr (2, [.ref e8, .int 1])), (e8, .inl (cA3, 256, .inl ((upd (fun _ => 0) (Int32.toNatClampNeg 0) 69))))] s.heap := hP
  have hl := lv_entry ([.ref e5]) (n := 1) (Nat.le_of_ble_eq_true rfl)
  rw [lg_entry_eq]
  generalize (lg_sl ([.ref e5]) ++ List.replicate (1 - (lg_sl ([.ref e5])).length) Slot.unset).toArray = ls at hl ⊢
  have hl : lv_has ls 1 [(0, .ref e5)] := hl
  refine lv_aload_n hx hb dX2_pop_0 rfl (lv_at hl 0 rfl) ?_
  refine va_get (D := (dC, dI)) (ci := 2) (v := .int 1) (C := RX2) (T := TX2) (N := 2) hx hb hw uX2 hown hK hP 0 rfl rfl 1 (by decide) (hw _ q162) (fun _ h9 => h9) rfl dX2_pop_1 ?_
  refine lv_if_ne (tgt := 9) hx hb dX2_pop_4 (by decide) (fun _ => ?_) (fun c9 => absurd c9 (by decide))
  refine lv_aload_n hx hb dX2_pop_9 rfl (lv_at hl 0 rfl) ?_
  refine lv_dup hx hb dX2_pop_10 rfl ?_
  refine va_get (D := (dC, dI)) (ci := 2) (v := .int 1) (C := RX2) (T := TX2) (N := 2) hx hb hw uX2 hown hK hP 0 rfl rfl 1 (by decide) (hw _ q162) (fun _ h9 => h9) rfl dX2_pop_11 ?_
  refine lv_iconst (v := 1) hx hb dX2_pop_14 (by decide) ?_
  refine lv_isub hx hb dX2_pop_15 ?_
  refine lv_topi (fun y1 ey1 => ?_)
  have ey1 : y1 = 0 := ey1.trans (by decide +kernel)
  subst ey1
  refine va_put (D := (dC, dI)) (ci := 2) (v := .int 0) (ty := .int) (C := RX2) (T := TX2) (N := 2) hx hb hw uX2 tyX2 tyX2_ok nmX2 hown hK hP hD hS 0 rfl rfl 1 (by decide) (hw _ q162) (fun _ h9 => h9) rfl (by decide +kernel) rfl rfl (Nat.le_of_ble_eq_true rfl) dX2_pop_16 (fun H locs hP hD hS => ?_)
  have hP : va_P (dC, dI) vwCl [(e5, .inr (2, [.ref e8, .int 0])), (e8, .inl (cA3, 256, .inl ((upd (fun _ => 0) (Int32.toNatClampNeg 0) 69))))] H := hP
  have hD : va_D A [(e5, .inr (2, [.ref e8, .int 0])), (e8, .inl (cA3, 256, .inl ((upd (fun _ => 0) (Int32.toNatClampNeg 0) 69))))] := hD
  refine lv_aload_n hx hb dX2_pop_19 rfl (lv_at hl 0 rfl) ?_
  refine va_get (D := (dC, dI)) (ci := 2) (v := .ref e8) (C := RX2) (T := TX2) (N := 2) hx hb hw uX2 hown hK hP 0 rfl rfl 0 (by decide) (hw _ q8) (fun _ h9 => h9) rfl dX2_pop_20 ?_
  refine lv_aload_n hx hb dX2_pop_23 rfl (lv_at hl 0 rfl) ?_
  refine va_get (D := (dC, dI)) (ci := 2) (v := .int 0) (C := RX2) (T := TX2) (N := 2) hx hb hw uX2 hown hK hP 0 rfl rfl 1 (by decide) (hw _ q162) (fun _ h9 => h9) rfl dX2_pop_24 ?_
  refine va_iald (D := (dC, dI)) hx hb hK hP 1 0 rfl rfl (by unfold vp_in; decide) dX2_pop_27 ?_
  refine lv_topi (fun y2 ey2 => ?_)
  have ey2 : y2 = 69 := ey2.trans (by decide +kernel)
  subst ey2
  have hP9 := hP.sub (ws' := []) [] rfl
  have hD9 := hD.sub (ws' := []) [] (by decide) rfl
  have hK9 := hK.sub (tys' := []) [] rfl
  exact W.iret (v := 69) hx hb hr (fun t ht hW => ⟨⟨69, (), rfl, rfl, by rw [ht]; exact hP9, va_K.moved hW.alike hK9, hD9⟩, hS.F ht⟩) hS.2.2 dX2_pop_28
set_option maxHeartbeats 4000000 in
set_option maxRecDepth 100000 in
theorem c_X0_signAt (l : Launch) (dC : Nat → ClassId) (dI : Nat → Nat → Nat) (sz : Nat) (e9 : Nat) (e1 : Nat) (e2 : Nat) (e3 : Nat) (e4 : Nat) (p0 : Int32) : Met l yX0_signAt (Cond.code yX0_signAt cX0_signAt 2 (some .int) :: wp) ({ frames := 0, cells := 0, slots := 0, locals := 0 }) (cP dC dI [.ref e9, .int p0] sz [(e9, .inr (0, [.ref e1, .ref e2, .ref e3, .int 0, .ref e4]))] []) (va_Qi (fun (r : Int32) (_ : Unit) => r = -1) (fun (_ : Unit) t => cB dC dI (va_A [(e9, .inr (0, [.ref e1, .ref e2, .ref e3, .int 0, .ref e4]))] sz) [(e9, .inr (0, [.ref e1, .ref e2, .ref e3, .int 0, .ref e4]))] [] t) (va_A [(e9, .inr (0, [.ref e1, .ref e2, .ref e3, .int 0, .ref e4]))] sz)) 0 0 (va_A [(e9, .inr (0, [.ref e1, .ref e2, .ref e3, .int 0, .ref e4]))] sz) := by
  refine Met.ofW (cc := cX0_signAt) (maxL := 2) (ret := (some .int)) (by decide) rfl ?_
  intro p e s m args below meth c s₁ B hml hv
  obtain ⟨rfl, hsz, hP, hK, hD0, hN⟩ := hv
  have hx := B.exec
  have hb := B.bytes
  have hr := B.returns
  have hts := atoms_spec (ws := Cond.code yX0_signAt cX0_signAt 2 (some .int) :: wp) B.pre
  have hw : ∀ w ∈ wp, w.before _ s = true := fun w h => hts w (List.mem_cons_of_mem _ h)
  have hown : s.vm.findClass RX0 = some m.cls := findClass_of_methodNamed B.named
  have hlocks := B.notSynchronized
  subst hsz
  have hD := hD0.self (sz := s.heap.size)
  generalize hAe : va_A [(e9, .inr (0, [.ref e1, .ref e2, .ref e3, .int 0, .ref e4]))] s.heap.size = A at hD ⊢
  have hA : ∀ q : Nat, s.heap.size ≤ q → A q := fun q h => by rw [← hAe]; exact Or.inr h
  have hS : va_S A s.heap s.heap [] := va_S.rf
  have hP : va_P (dC, dI) vwCl [(e9, .inr (0, [.ref e1, .ref e2, .ref e3, .int 0, .ref e4]))] s.heap := hP
  have hl := lv_entry ([.ref e9, .int p0]) (n := 2) (Nat.le_of_ble_eq_true rfl)
  rw [lg_entry_eq]
  generalize (lg_sl ([.ref e9, .int p0]) ++ List.replicate (2 - (lg_sl ([.ref e9, .int p0])).length) Slot.unset).toArray = ls at hl ⊢
  have hl : lv_has ls 2 [(0, .ref e9), (1, .int p0)] := hl
  refine lv_iload_n hx hb dX0_signAt_0 rfl (lv_at hl 1 rfl) ?_
  refine lv_if_lt (tgt := 21) hx hb dX0_signAt_1 (by decide) (fun c1 => ?_) (fun c1 => ?_)
  · refine lv_iconst (v := (-1)) hx hb dX0_signAt_21 (by decide) ?_
    have hP9 := hP.sub (ws' := [(e9, .inr (0, [.ref e1, .ref e2, .ref e3, .int 0, .ref e4]))]) [0] rfl
    have hD9 := hD.sub (ws' := [(e9, .inr (0, [.ref e1, .ref e2, .ref e3, .int 0, .ref e4]))]) [0] (by decide) rfl
    have hK9 := hK.sub (tys' := []) [] rfl
    exact W.iret (v := (-1)) hx hb hr (fun t ht hW => ⟨⟨(-1), (), rfl, rfl, by rw [ht]; exact hP9, va_K.moved hW.alike hK9, hD9⟩, hS.F ht⟩) hS.2.2 dX0_signAt_22
  · refine lv_iload_n hx hb dX0_signAt_4 rfl (lv_at hl 1 rfl) ?_
    refine lv_aload_n hx hb dX0_signAt_5 rfl (lv_at hl 0 rfl) ?_
    refine va_get (D := (dC, dI)) (ci := 0) (v := .int 0) (C := RX0) (T := TX0) (N := 5) hx hb hw uX0 hown hK hP 0 rfl rfl 3 (by decide) (hw _ q161) (fun _ h9 => h9) rfl dX0_signAt_6 ?_
    refine lv_icmp_ge (tgt := 21) hx hb dX0_signAt_9 (by decide) (fun kc2 => ?_) (fun c2 => False.elim (zz1 c1 c2))
    refine lv_iconst (v := (-1)) hx hb dX0_signAt_21 (by decide) ?_
    have hP9 := hP.sub (ws' := [(e9, .inr (0, [.ref e1, .ref e2, .ref e3, .int 0, .ref e4]))]) [0] rfl
    have hD9 := hD.sub (ws' := [(e9, .inr (0, [.ref e1, .ref e2, .ref e3, .int 0, .ref e4]))]) [0] (by decide) rfl
    have hK9 := hK.sub (tys' := []) [] rfl
    exact W.iret (v := (-1)) hx hb hr (fun t ht hW => ⟨⟨(-1), (), rfl, rfl, by rw [ht]; exact hP9, va_K.moved hW.alike hK9, hD9⟩, hS.F ht⟩) hS.2.2 dX0_signAt_22
set_option maxHeartbeats 4000000 in
set_option maxRecDepth 100000 in
theorem c_X11_nameBit (l : Launch) (dC : Nat → ClassId) (dI : Nat → Nat → Nat) (sz : Nat)  : Met l yX11_nameBit (Cond.code yX11_nameBit cX11_nameBit 1 (some .int) :: wp) ({ frames := 0, cells := 0, slots := 0, locals := 0 }) (cP dC dI [.int (-1)] sz [] []) (va_Qi (fun (r : Int32) (_ : Unit) => r = 0) (fun (_ : Unit) t => cB dC dI (va_A [] sz) [] [] t) (va_A [] sz)) 0 0 (va_A [] sz) := by
  refine Met.ofW (cc := cX11_nameBit) (maxL := 1) (ret := (some .int)) (by decide) rfl ?_
  intro p e s m args below meth c s₁ B hml hv
  obtain ⟨rfl, hsz, hP, hK, hD0, hN⟩ := hv
  have hx := B.exec
  have hb := B.bytes
  have hr := B.returns
  have hts := atoms_spec (ws := Cond.code yX11_nameBit cX11_nameBit 1 (some .int) :: wp) B.pre
  have hw : ∀ w ∈ wp, w.before _ s = true := fun w h => hts w (List.mem_cons_of_mem _ h)
  have hown : s.vm.findClass RX11 = some m.cls := findClass_of_methodNamed B.named
  have hlocks := B.notSynchronized
  subst hsz
  have hD := hD0.self (sz := s.heap.size)
  generalize hAe : va_A [] s.heap.size = A at hD ⊢
  have hA : ∀ q : Nat, s.heap.size ≤ q → A q := fun q h => by rw [← hAe]; exact Or.inr h
  have hS : va_S A s.heap s.heap [] := va_S.rf
  have hP : va_P (dC, dI) vwCl [] s.heap := hP
  have hl := lv_entry ([.int (-1)]) (n := 1) (Nat.le_of_ble_eq_true rfl)
  rw [lg_entry_eq]
  generalize (lg_sl ([.int (-1)]) ++ List.replicate (1 - (lg_sl ([.int (-1)])).length) Slot.unset).toArray = ls at hl ⊢
  have hl : lv_has ls 1 [(0, .int (-1))] := hl
  refine lv_iload_n hx hb dX11_nameBit_0 rfl (lv_at hl 0 rfl) ?_
  refine lv_bipush (v := 97) hx hb dX11_nameBit_1 (by decide) ?_
  refine lv_icmp_lt (tgt := 21) hx hb dX11_nameBit_3 (by decide) (fun _ => ?_) (fun c9 => absurd c9 (by decide))
  refine lv_iconst (v := 0) hx hb dX11_nameBit_21 (by decide) ?_
  have hP9 := hP.sub (ws' := []) [] rfl
  have hD9 := hD.sub (ws' := []) [] (by decide) rfl
  have hK9 := hK.sub (tys' := []) [] rfl
  exact W.iret (v := 0) hx hb hr (fun t ht hW => ⟨⟨0, (), rfl, rfl, by rw [ht]; exact hP9, va_K.moved hW.alike hK9, hD9⟩, hS.F ht⟩) hS.2.2 dX11_nameBit_22
set_option maxHeartbeats 4000000 in
set_option maxRecDepth 100000 in
theorem c_X6_kindOf (l : Launch) (dC : Nat → ClassId) (dI : Nat → Nat → Nat) (sz : Nat)  : Met l yX6_kindOf (Cond.code yX6_kindOf cX6_kindOf 2 (some .int) :: wp) ({ frames := 1, cells := 0, slots := 0, locals := 20 }) (cP dC dI [.int (-1), .int (-1)] sz [] []) (va_Qi (fun (r : Int32) (_ : Unit) => r = -1) (fun (_ : Unit) t => cB dC dI (va_A [] sz) [] [] t) (va_A [] sz)) 0 0 (va_A [] sz) := by
  refine Met.ofW (cc := cX6_kindOf) (maxL := 2) (ret := (some .int)) (by decide) rfl ?_
  intro p e s m args below meth c s₁ B hml hv
  obtain ⟨rfl, hsz, hP, hK, hD0, hN⟩ := hv
  have hx := B.exec
  have hb := B.bytes
  have hr := B.returns
  have hts := atoms_spec (ws := Cond.code yX6_kindOf cX6_kindOf 2 (some .int) :: wp) B.pre
  have hw : ∀ w ∈ wp, w.before _ s = true := fun w h => hts w (List.mem_cons_of_mem _ h)
  have hown : s.vm.findClass RX6 = some m.cls := findClass_of_methodNamed B.named
  have hlocks := B.notSynchronized
  subst hsz
  have hD := hD0.self (sz := s.heap.size)
  generalize hAe : va_A [] s.heap.size = A at hD ⊢
  have hA : ∀ q : Nat, s.heap.size ≤ q → A q := fun q h => by rw [← hAe]; exact Or.inr h
  have hS : va_S A s.heap s.heap [] := va_S.rf
  have hP : va_P (dC, dI) vwCl [] s.heap := hP
  have hl := lv_entry ([.int (-1), .int (-1)]) (n := 2) (Nat.le_of_ble_eq_true rfl)
  rw [lg_entry_eq]
  generalize (lg_sl ([.int (-1), .int (-1)]) ++ List.replicate (2 - (lg_sl ([.int (-1), .int (-1)])).length) Slot.unset).toArray = ls at hl ⊢
  have hl : lv_has ls 2 [(0, .int (-1)), (1, .int (-1))] := hl
  refine lv_iload_n hx hb dX6_kindOf_0 rfl (lv_at hl 0 rfl) ?_
  refine lv_bipush (v := 48) hx hb dX6_kindOf_1 (by decide) ?_
  refine lv_icmp_lt (tgt := 14) hx hb dX6_kindOf_3 (by decide) (fun _ => ?_) (fun c9 => absurd c9 (by decide))
  refine lv_iload_n hx hb dX6_kindOf_14 rfl (lv_at hl 0 rfl) ?_
  have hPc := hP.sub (ws' := []) [] rfl
  have hDc := hD.sub (ws' := []) [] (by decide) rfl
  have hKc := hK.sub (tys' := []) [] rfl
  have hFc := va_free (wc := []) hD hS hA [] rfl
  refine va_calli (va_runSN (As := [.int (-1)]) (rest := []) ⟨hx, hb, hml, hown, hw⟩ (c_X11_nameBit l dC dI _ ) ⟨va_cnB 1 hw (gB q164) rfl rfl rfl (nn15 hN) (hw _ q153) (by decide +kernel) ⟨Nat.le_of_ble_eq_true rfl, Nat.le_of_ble_eq_true rfl⟩, hw _ q165, trivial⟩ ⟨cP_blind, cP_pre hPc hKc hDc hN⟩ rfl rfl hl.1 rfl (lv_room (Nat.le_of_ble_eq_true rfl)) dX6_kindOf_15 ⟨Nat.le_of_ble_eq_true rfl, Nat.le_of_ble_eq_true rfl⟩) hS (fun q _ h => hFc q h) hFc (fun r1 u9 t H1 locs ht hvm hw1 hB hz1 hk1 hS => ?_)
  obtain ⟨hP1, hK1, hD1⟩ := hB
  rw [ht] at hP1
  have hK1 := va_K.moved hvm.symm hK1
  obtain ⟨hP, hD⟩ := va_join (wr := []) (w1 := []) hP hD [] [] rfl rfl (by decide) (by decide) hk1 hFc hP1 hD1
  have hK := (hK.sub (tys' := []) [] rfl).app hK1
  generalize H1 = H at hP hS ⊢
  have hP : va_P (dC, dI) vwCl [] H := hP
  have hD : va_D A [] := hD
  have hK : va_K (dC, dI) vwCl [] s := hK
  subst hw1
  refine lv_if_eq (tgt := 23) hx hb dX6_kindOf_18 (by decide) (fun _ => ?_) (fun c9 => absurd c9 (by decide))
  refine lv_iload_n hx hb dX6_kindOf_23 rfl (lv_at hl 0 rfl) ?_
  refine lv_lookup (tgt := 147) (off := 123) hx hb dX6_kindOf_24 (by decide) (by decide) (by decide) ?_
  refine lv_iconst (v := (-1)) hx hb dX6_kindOf_147 (by decide) ?_
  have hP9 := hP.sub (ws' := []) [] rfl
  have hD9 := hD.sub (ws' := []) [] (by decide) rfl
  have hK9 := hK.sub (tys' := []) [] rfl
  exact W.iret (v := (-1)) hx hb hr (fun t ht hW => ⟨⟨(-1), (), rfl, rfl, by rw [ht]; exact hP9, va_K.moved hW.alike hK9, hD9⟩, hS.F ht⟩) hS.2.2 dX6_kindOf_148
set_option maxHeartbeats 4000000 in
set_option maxRecDepth 100000 in
theorem c_X6_acceptsExpression (l : Launch) (dC : Nat → ClassId) (dI : Nat → Nat → Nat) (sz : Nat) (b6 : Nat) (e5 : Nat) (e6 : Nat) (e7 : Nat) (e9 : Nat) (e1 : Nat) (e2 : Nat) (e3 : Nat) (e4 : Nat) : Met l yX6_acceptsExpression (Cond.code yX6_acceptsExpression cX6_acceptsExpression 3 (some .boolean) :: wp) ({ frames := 2, cells := 0, slots := 0, locals := 41 }) (cP dC dI [.ref b6] sz [(b6, .inr (6, [.ref e5, .ref e6, .ref e7, .ref e9, .int 0])), (e9, .inr (0, [.ref e1, .ref e2, .ref e3, .int 0, .ref e4]))] []) (va_Qi (fun (r : Int32) (_ : Unit) => r = 0) (fun (_ : Unit) t => cB dC dI (va_A [(b6, .inr (6, [.ref e5, .ref e6, .ref e7, .ref e9, .int 0])), (e9, .inr (0, [.ref e1, .ref e2, .ref e3, .int 0, .ref e4]))] sz) [(b6, .inr (6, [.ref e5, .ref e6, .ref e7, .ref e9, .int 0])), (e9, .inr (0, [.ref e1, .ref e2, .ref e3, .int 0, .ref e4]))] [] t) (va_A [(b6, .inr (6, [.ref e5, .ref e6, .ref e7, .ref e9, .int 0])), (e9, .inr (0, [.ref e1, .ref e2, .ref e3, .int 0, .ref e4]))] sz)) 0 0 (va_A [(b6, .inr (6, [.ref e5, .ref e6, .ref e7, .ref e9, .int 0])), (e9, .inr (0, [.ref e1, .ref e2, .ref e3, .int 0, .ref e4]))] sz) := by
  refine Met.ofW (cc := cX6_acceptsExpression) (maxL := 3) (ret := (some .boolean)) (by decide) rfl ?_
  intro p e s m args below meth c s₁ B hml hv
  obtain ⟨rfl, hsz, hP, hK, hD0, hN⟩ := hv
  have hx := B.exec
  have hb := B.bytes
  have hr := B.returns
  have hts := atoms_spec (ws := Cond.code yX6_acceptsExpression cX6_acceptsExpression 3 (some .boolean) :: wp) B.pre
  have hw : ∀ w ∈ wp, w.before _ s = true := fun w h => hts w (List.mem_cons_of_mem _ h)
  have hown : s.vm.findClass RX6 = some m.cls := findClass_of_methodNamed B.named
  have hlocks := B.notSynchronized
  subst hsz
  have hD := hD0.self (sz := s.heap.size)
  generalize hAe : va_A [(b6, .inr (6, [.ref e5, .ref e6, .ref e7, .ref e9, .int 0])), (e9, .inr (0, [.ref e1, .ref e2, .ref e3, .int 0, .ref e4]))] s.heap.size = A at hD ⊢
  have hA : ∀ q : Nat, s.heap.size ≤ q → A q := fun q h => by rw [← hAe]; exact Or.inr h
  have hS : va_S A s.heap s.heap [] := va_S.rf
  have hP : va_P (dC, dI) vwCl [(b6, .inr (6, [.ref e5, .ref e6, .ref e7, .ref e9, .int 0])), (e9, .inr (0, [.ref e1, .ref e2, .ref e3, .int 0, .ref e4]))] s.heap := hP
  have hl := lv_entry ([.ref b6]) (n := 3) (Nat.le_of_ble_eq_true rfl)
  rw [lg_entry_eq]
  generalize (lg_sl ([.ref b6]) ++ List.replicate (3 - (lg_sl ([.ref b6])).length) Slot.unset).toArray = ls at hl ⊢
  have hl : lv_has ls 3 [(0, .ref b6)] := hl
  refine lv_aload_n hx hb dX6_acceptsExpression_0 rfl (lv_at hl 0 rfl) ?_
  refine va_get (D := (dC, dI)) (ci := 6) (v := .ref e9) (C := RX6) (T := TX6) (N := 5) hx hb hw uX6 hown hK hP 0 rfl rfl 3 (by decide) (hw _ q166) (fun _ h9 => h9) rfl dX6_acceptsExpression_1 ?_
  refine lv_aload_n hx hb dX6_acceptsExpression_4 rfl (lv_at hl 0 rfl) ?_
  refine va_get (D := (dC, dI)) (ci := 6) (v := .int 0) (C := RX6) (T := TX6) (N := 5) hx hb hw uX6 hown hK hP 0 rfl rfl 4 (by decide) (hw _ q167) (fun _ h9 => h9) rfl dX6_acceptsExpression_5 ?_
  have hPc := hP.sub (ws' := [(e9, .inr (0, [.ref e1, .ref e2, .ref e3, .int 0, .ref e4]))]) [1] rfl
  have hDc := hD.sub (ws' := [(e9, .inr (0, [.ref e1, .ref e2, .ref e3, .int 0, .ref e4]))]) [1] (by decide) rfl
  have hKc := hK.sub (tys' := []) [] rfl
  have hFc := va_free (wc := [(e9, .inr (0, [.ref e1, .ref e2, .ref e3, .int 0, .ref e4]))]) hD hS hA [1] rfl
  refine va_calli (va_runV (As := [.int 0]) (rest := []) ⟨hx, hb, hml, hown, hw⟩ (c_X0_signAt l dC dI _ (e9) (e1) (e2) (e3) (e4) (0)) (cwV 1 hw (gV q169 q170 q171 q144 q168) rfl rfl rfl (by decide +kernel) ⟨Nat.le_of_ble_eq_true rfl, Nat.le_of_ble_eq_true rfl⟩) ⟨cP_blind, va_recv hKc hPc (ci := 0) (q0 := 0) rfl rfl, cP_pre hPc hKc hDc hN⟩ rfl rfl hl.1 rfl (lv_room (Nat.le_of_ble_eq_true rfl)) dX6_acceptsExpression_8 ⟨Nat.le_of_ble_eq_true rfl, Nat.le_of_ble_eq_true rfl⟩) hS (fun q _ h => hFc q h) hFc (fun r1 u9 t H1 locs ht hvm hw1 hB hz1 hk1 hS => ?_)
  obtain ⟨hP1, hK1, hD1⟩ := hB
  rw [ht] at hP1
  have hK1 := va_K.moved hvm.symm hK1
  obtain ⟨hP, hD⟩ := va_join (wr := [(b6, .inr (6, [.ref e5, .ref e6, .ref e7, .ref e9, .int 0]))]) (w1 := [(e9, .inr (0, [.ref e1, .ref e2, .ref e3, .int 0, .ref e4]))]) hP hD [1] [0] rfl rfl (by decide) (by decide) hk1 hFc hP1 hD1
  have hK := (hK.sub (tys' := []) [] rfl).app hK1
  generalize H1 = H at hP hS ⊢
  have hP : va_P (dC, dI) vwCl [(b6, .inr (6, [.ref e5, .ref e6, .ref e7, .ref e9, .int 0])), (e9, .inr (0, [.ref e1, .ref e2, .ref e3, .int 0, .ref e4]))] H := hP
  have hD : va_D A [(b6, .inr (6, [.ref e5, .ref e6, .ref e7, .ref e9, .int 0])), (e9, .inr (0, [.ref e1, .ref e2, .ref e3, .int 0, .ref e4]))] := hD
  have hK : va_K (dC, dI) vwCl [] s := hK
  subst hw1
  refine lv_aload_n hx hb dX6_acceptsExpression_11 rfl (lv_at hl 0 rfl) ?_
  refine va_get (D := (dC, dI)) (ci := 6) (v := .ref e9) (C := RX6) (T := TX6) (N := 5) hx hb hw uX6 hown hK hP 0 rfl rfl 3 (by decide) (hw _ q166) (fun _ h9 => h9) rfl dX6_acceptsExpression_12 ?_
  refine lv_aload_n hx hb dX6_acceptsExpression_15 rfl (lv_at hl 0 rfl) ?_
  refine va_get (D := (dC, dI)) (ci := 6) (v := .int 0) (C := RX6) (T := TX6) (N := 5) hx hb hw uX6 hown hK hP 0 rfl rfl 4 (by decide) (hw _ q167) (fun _ h9 => h9) rfl dX6_acceptsExpression_16 ?_
  refine lv_iconst (v := 1) hx hb dX6_acceptsExpression_19 (by decide) ?_
  refine lv_iadd hx hb dX6_acceptsExpression_20 ?_
  refine lv_topi (fun y2 ey2 => ?_)
  have ey2 : y2 = 1 := ey2.trans (by decide +kernel)
  subst ey2
  have hPc := hP.sub (ws' := [(e9, .inr (0, [.ref e1, .ref e2, .ref e3, .int 0, .ref e4]))]) [1] rfl
  have hDc := hD.sub (ws' := [(e9, .inr (0, [.ref e1, .ref e2, .ref e3, .int 0, .ref e4]))]) [1] (by decide) rfl
  have hKc := hK.sub (tys' := []) [] rfl
  have hFc := va_free (wc := [(e9, .inr (0, [.ref e1, .ref e2, .ref e3, .int 0, .ref e4]))]) hD hS hA [1] rfl
  refine va_calli (va_runV (As := [.int 1]) (rest := [.int (-1)]) ⟨hx, hb, hml, hown, hw⟩ (c_X0_signAt l dC dI _ (e9) (e1) (e2) (e3) (e4) (1)) (cwV 1 hw (gV q169 q170 q171 q144 q168) rfl rfl rfl (by decide +kernel) ⟨Nat.le_of_ble_eq_true rfl, Nat.le_of_ble_eq_true rfl⟩) ⟨cP_blind, va_recv hKc hPc (ci := 0) (q0 := 0) rfl rfl, cP_pre hPc hKc hDc hN⟩ rfl rfl hl.1 rfl (lv_room (Nat.le_of_ble_eq_true rfl)) dX6_acceptsExpression_21 ⟨Nat.le_of_ble_eq_true rfl, Nat.le_of_ble_eq_true rfl⟩) hS (fun q _ h => hFc q h) hFc (fun r3 u9 t H1 locs ht hvm hw1 hB hz1 hk1 hS => ?_)
  obtain ⟨hP1, hK1, hD1⟩ := hB
  rw [ht] at hP1
  have hK1 := va_K.moved hvm.symm hK1
  obtain ⟨hP, hD⟩ := va_join (wr := [(b6, .inr (6, [.ref e5, .ref e6, .ref e7, .ref e9, .int 0]))]) (w1 := [(e9, .inr (0, [.ref e1, .ref e2, .ref e3, .int 0, .ref e4]))]) hP hD [1] [0] rfl rfl (by decide) (by decide) hk1 hFc hP1 hD1
  have hK := (hK.sub (tys' := []) [] rfl).app hK1
  generalize H1 = H at hP hS ⊢
  have hP : va_P (dC, dI) vwCl [(b6, .inr (6, [.ref e5, .ref e6, .ref e7, .ref e9, .int 0])), (e9, .inr (0, [.ref e1, .ref e2, .ref e3, .int 0, .ref e4]))] H := hP
  have hD : va_D A [(b6, .inr (6, [.ref e5, .ref e6, .ref e7, .ref e9, .int 0])), (e9, .inr (0, [.ref e1, .ref e2, .ref e3, .int 0, .ref e4]))] := hD
  have hK : va_K (dC, dI) vwCl [] s := hK
  subst hw1
  have hPc := hP.sub (ws' := []) [] rfl
  have hDc := hD.sub (ws' := []) [] (by decide) rfl
  have hKc := hK.sub (tys' := []) [] rfl
  have hFc := va_free (wc := []) hD hS hA [] rfl
  refine va_calli (va_runS (As := [.int (-1), .int (-1)]) (rest := []) ⟨hx, hb, hml, hown, hw⟩ (c_X6_kindOf l dC dI _ ) (va_cwS 2 hw (gS q173 q174 q93 q172) rfl rfl rfl (by decide +kernel) ⟨Nat.le_of_ble_eq_true rfl, Nat.le_of_ble_eq_true rfl⟩) ⟨cP_blind, cP_pre hPc hKc hDc hN⟩ rfl rfl hl.1 rfl (lv_room (Nat.le_of_ble_eq_true rfl)) dX6_acceptsExpression_24 ⟨Nat.le_of_ble_eq_true rfl, Nat.le_of_ble_eq_true rfl⟩) hS (fun q _ h => hFc q h) hFc (fun r4 u9 t H1 locs ht hvm hw1 hB hz1 hk1 hS => ?_)
  obtain ⟨hP1, hK1, hD1⟩ := hB
  rw [ht] at hP1
  have hK1 := va_K.moved hvm.symm hK1
  obtain ⟨hP, hD⟩ := va_join (wr := [(b6, .inr (6, [.ref e5, .ref e6, .ref e7, .ref e9, .int 0])), (e9, .inr (0, [.ref e1, .ref e2, .ref e3, .int 0, .ref e4]))]) (w1 := []) hP hD [] [0, 1] rfl rfl (by decide) (by decide) hk1 hFc hP1 hD1
  have hK := (hK.sub (tys' := []) [] rfl).app hK1
  generalize H1 = H at hP hS ⊢
  have hP : va_P (dC, dI) vwCl [(b6, .inr (6, [.ref e5, .ref e6, .ref e7, .ref e9, .int 0])), (e9, .inr (0, [.ref e1, .ref e2, .ref e3, .int 0, .ref e4]))] H := hP
  have hD : va_D A [(b6, .inr (6, [.ref e5, .ref e6, .ref e7, .ref e9, .int 0])), (e9, .inr (0, [.ref e1, .ref e2, .ref e3, .int 0, .ref e4]))] := hD
  have hK : va_K (dC, dI) vwCl [] s := hK
  subst hw1
  refine lv_istore_n (lv' := [(1, .int (-1)), (0, .ref b6)]) hx hb dX6_acceptsExpression_27 rfl hl (by decide) rfl (fun ls hl => ?_)
  refine lv_iload_n hx hb dX6_acceptsExpression_28 rfl (lv_at hl 0 rfl) ?_
  refine lv_iconst (v := (-1)) hx hb dX6_acceptsExpression_29 (by decide) ?_
  refine lv_icmp_ne (tgt := 35) hx hb dX6_acceptsExpression_30 (by decide) (fun c9 => absurd c9 (by decide)) (fun _ => ?_)
  refine lv_iconst (v := 0) hx hb dX6_acceptsExpression_33 (by decide) ?_
  have hP9 := hP.sub (ws' := [(b6, .inr (6, [.ref e5, .ref e6, .ref e7, .ref e9, .int 0])), (e9, .inr (0, [.ref e1, .ref e2, .ref e3, .int 0, .ref e4]))]) [0, 1] rfl
  have hD9 := hD.sub (ws' := [(b6, .inr (6, [.ref e5, .ref e6, .ref e7, .ref e9, .int 0])), (e9, .inr (0, [.ref e1, .ref e2, .ref e3, .int 0, .ref e4]))]) [0, 1] (by decide) rfl
  have hK9 := hK.sub (tys' := []) [] rfl
  exact W.zret (v := 0) hx hb hr (rfl) (fun t ht hW => ⟨⟨0, (), rfl, rfl, by rw [ht]; exact hP9, va_K.moved hW.alike hK9, hD9⟩, hS.F ht⟩) hS.2.2 dX6_acceptsExpression_34
set_option maxHeartbeats 4000000 in
set_option maxRecDepth 100000 in
theorem c_X6_accepts (l : Launch) (dC : Nat → ClassId) (dI : Nat → Nat → Nat) (sz : Nat) (b6 : Nat) (e5 : Nat) (e6 : Nat) (e7 : Nat) (e9 : Nat) (e1 : Nat) (e2 : Nat) (e3 : Nat) (e4 : Nat) : Met l yX6_accepts (Cond.code yX6_accepts cX6_accepts 3 (some .boolean) :: wp) ({ frames := 3, cells := 0, slots := 0, locals := 63 }) (cP dC dI [.ref b6, .int 69, .int 0] sz [(b6, .inr (6, [.ref e5, .ref e6, .ref e7, .ref e9, .int 0])), (e9, .inr (0, [.ref e1, .ref e2, .ref e3, .int 0, .ref e4]))] []) (va_Qi (fun (r : Int32) (_ : Unit) => r = 0) (fun (_ : Unit) t => cB dC dI (va_A [(b6, .inr (6, [.ref e5, .ref e6, .ref e7, .ref e9, .int 0])), (e9, .inr (0, [.ref e1, .ref e2, .ref e3, .int 0, .ref e4]))] sz) [(b6, .inr (6, [.ref e5, .ref e6, .ref e7, .ref e9, .int 0])), (e9, .inr (0, [.ref e1, .ref e2, .ref e3, .int 0, .ref e4]))] [] t) (va_A [(b6, .inr (6, [.ref e5, .ref e6, .ref e7, .ref e9, .int 0])), (e9, .inr (0, [.ref e1, .ref e2, .ref e3, .int 0, .ref e4]))] sz)) 0 0 (va_A [(b6, .inr (6, [.ref e5, .ref e6, .ref e7, .ref e9, .int 0])), (e9, .inr (0, [.ref e1, .ref e2, .ref e3, .int 0, .ref e4]))] sz) := by
  refine Met.ofW (cc := cX6_accepts) (maxL := 3) (ret := (some .boolean)) (by decide) rfl ?_
  intro p e s m args below meth c s₁ B hml hv
  obtain ⟨rfl, hsz, hP, hK, hD0, hN⟩ := hv
  have hx := B.exec
  have hb := B.bytes
  have hr := B.returns
  have hts := atoms_spec (ws := Cond.code yX6_accepts cX6_accepts 3 (some .boolean) :: wp) B.pre
  have hw : ∀ w ∈ wp, w.before _ s = true := fun w h => hts w (List.mem_cons_of_mem _ h)
  have hown : s.vm.findClass RX6 = some m.cls := findClass_of_methodNamed B.named
  have hlocks := B.notSynchronized
  subst hsz
  have hD := hD0.self (sz := s.heap.size)
  generalize hAe : va_A [(b6, .inr (6, [.ref e5, .ref e6, .ref e7, .ref e9, .int 0])), (e9, .inr (0, [.ref e1, .ref e2, .ref e3, .int 0, .ref e4]))] s.heap.size = A at hD ⊢
  have hA : ∀ q : Nat, s.heap.size ≤ q → A q := fun q h => by rw [← hAe]; exact Or.inr h
  have hS : va_S A s.heap s.heap [] := va_S.rf
  have hP : va_P (dC, dI) vwCl [(b6, .inr (6, [.ref e5, .ref e6, .ref e7, .ref e9, .int 0])), (e9, .inr (0, [.ref e1, .ref e2, .ref e3, .int 0, .ref e4]))] s.heap := hP
  have hl := lv_entry ([.ref b6, .int 69, .int 0]) (n := 3) (Nat.le_of_ble_eq_true rfl)
  rw [lg_entry_eq]
  generalize (lg_sl ([.ref b6, .int 69, .int 0]) ++ List.replicate (3 - (lg_sl ([.ref b6, .int 69, .int 0])).length) Slot.unset).toArray = ls at hl ⊢
  have hl : lv_has ls 3 [(0, .ref b6), (1, .int 69), (2, .int 0)] := hl
  refine lv_iload_n hx hb dX6_accepts_0 rfl (lv_at hl 1 rfl) ?_
  refine lv_lookup (tgt := 44) (off := 43) hx hb dX6_accepts_1 (by decide) (by decide) (by decide) ?_
  refine lv_aload_n hx hb dX6_accepts_44 rfl (lv_at hl 0 rfl) ?_
  have hPc := hP.sub (ws' := [(b6, .inr (6, [.ref e5, .ref e6, .ref e7, .ref e9, .int 0])), (e9, .inr (0, [.ref e1, .ref e2, .ref e3, .int 0, .ref e4]))]) [0, 1] rfl
  have hDc := hD.sub (ws' := [(b6, .inr (6, [.ref e5, .ref e6, .ref e7, .ref e9, .int 0])), (e9, .inr (0, [.ref e1, .ref e2, .ref e3, .int 0, .ref e4]))]) [0, 1] (by decide) rfl
  have hKc := hK.sub (tys' := []) [] rfl
  have hFc := va_free (wc := [(b6, .inr (6, [.ref e5, .ref e6, .ref e7, .ref e9, .int 0])), (e9, .inr (0, [.ref e1, .ref e2, .ref e3, .int 0, .ref e4]))]) hD hS hA [0, 1] rfl
  refine va_calli (va_runV (As := []) (rest := []) ⟨hx, hb, hml, hown, hw⟩ (c_X6_acceptsExpression l dC dI _ (b6) (e5) (e6) (e7) (e9) (e1) (e2) (e3) (e4)) (cwV 0 hw (gV q176 q177 q178 q93 q175) rfl rfl rfl (by decide +kernel) ⟨Nat.le_of_ble_eq_true rfl, Nat.le_of_ble_eq_true rfl⟩) ⟨cP_blind, va_recv hKc hPc (ci := 6) (q0 := 0) rfl rfl, cP_pre hPc hKc hDc hN⟩ rfl rfl hl.1 rfl (lv_room (Nat.le_of_ble_eq_true rfl)) dX6_accepts_45 ⟨Nat.le_of_ble_eq_true rfl, Nat.le_of_ble_eq_true rfl⟩) hS (fun q _ h => hFc q h) hFc (fun r1 u9 t H1 locs ht hvm hw1 hB hz1 hk1 hS => ?_)
  obtain ⟨hP1, hK1, hD1⟩ := hB
  rw [ht] at hP1
  have hK1 := va_K.moved hvm.symm hK1
  obtain ⟨hP, hD⟩ := va_join (wr := []) (w1 := [(b6, .inr (6, [.ref e5, .ref e6, .ref e7, .ref e9, .int 0])), (e9, .inr (0, [.ref e1, .ref e2, .ref e3, .int 0, .ref e4]))]) hP hD [0, 1] [] rfl rfl (by decide) (by decide) hk1 hFc hP1 hD1
  have hK := (hK.sub (tys' := []) [] rfl).app hK1
  generalize H1 = H at hP hS ⊢
  have hP : va_P (dC, dI) vwCl [(b6, .inr (6, [.ref e5, .ref e6, .ref e7, .ref e9, .int 0])), (e9, .inr (0, [.ref e1, .ref e2, .ref e3, .int 0, .ref e4]))] H := hP
  have hD : va_D A [(b6, .inr (6, [.ref e5, .ref e6, .ref e7, .ref e9, .int 0])), (e9, .inr (0, [.ref e1, .ref e2, .ref e3, .int 0, .ref e4]))] := hD
  have hK : va_K (dC, dI) vwCl [] s := hK
  subst hw1
  have hP9 := hP.sub (ws' := [(b6, .inr (6, [.ref e5, .ref e6, .ref e7, .ref e9, .int 0])), (e9, .inr (0, [.ref e1, .ref e2, .ref e3, .int 0, .ref e4]))]) [0, 1] rfl
  have hD9 := hD.sub (ws' := [(b6, .inr (6, [.ref e5, .ref e6, .ref e7, .ref e9, .int 0])), (e9, .inr (0, [.ref e1, .ref e2, .ref e3, .int 0, .ref e4]))]) [0, 1] (by decide) rfl
  have hK9 := hK.sub (tys' := []) [] rfl
  exact W.zret (v := 0) hx hb hr (rfl) (fun t ht hW => ⟨⟨0, (), rfl, rfl, by rw [ht]; exact hP9, va_K.moved hW.alike hK9, hD9⟩, hS.F ht⟩) hS.2.2 dX6_accepts_48
set_option maxHeartbeats 4000000 in
set_option maxRecDepth 100000 in
theorem c_X6_read (l : Launch) (dC : Nat → ClassId) (dI : Nat → Nat → Nat) (sz : Nat) (b6 : Nat) (b1 : Nat) (e5 : Nat) (e6 : Nat) (e7 : Nat) (e8 : Nat) (cA3 : ClassId) (e9 : Nat) (e1 : Nat) (e2 : Nat) (e3 : Nat) (e4 : Nat) : Met l yX6_read (Cond.code yX6_read cX6_read 6 (some .int) :: wp) ({ frames := 4, cells := 0, slots := 0, locals := 85 }) (cP dC dI [.ref b6, .ref b1, .int 0, .ref e9] sz [(b6, .inr (6, [.ref e5, .ref e6, .ref e7, .null, .int 0])), (e5, .inr (2, [.ref e8, .int 0])), (e8, .inl (cA3, 256, .inl (fun _ => 0))), (e9, .inr (0, [.ref e1, .ref e2, .ref e3, .int 0, .ref e4]))] [(cA3, .int)]) (va_Qi (fun (r : Int32) (_ : Unit) => r = 0) (fun (_ : Unit) t => cB dC dI (va_A [(b6, .inr (6, [.ref e5, .ref e6, .ref e7, .null, .int 0])), (e5, .inr (2, [.ref e8, .int 0])), (e8, .inl (cA3, 256, .inl (fun _ => 0))), (e9, .inr (0, [.ref e1, .ref e2, .ref e3, .int 0, .ref e4]))] sz) [] [] t) (va_A [(b6, .inr (6, [.ref e5, .ref e6, .ref e7, .null, .int 0])), (e5, .inr (2, [.ref e8, .int 0])), (e8, .inl (cA3, 256, .inl (fun _ => 0))), (e9, .inr (0, [.ref e1, .ref e2, .ref e3, .int 0, .ref e4]))] sz)) 0 0 (va_A [(b6, .inr (6, [.ref e5, .ref e6, .ref e7, .null, .int 0])), (e5, .inr (2, [.ref e8, .int 0])), (e8, .inl (cA3, 256, .inl (fun _ => 0))), (e9, .inr (0, [.ref e1, .ref e2, .ref e3, .int 0, .ref e4]))] sz) := by
  refine Met.ofW (cc := cX6_read) (maxL := 6) (ret := (some .int)) (by decide) rfl ?_
  intro p e s m args below meth c s₁ B hml hv
  obtain ⟨rfl, hsz, hP, hK, hD0, hN⟩ := hv
  have hx := B.exec
  have hb := B.bytes
  have hr := B.returns
  have hts := atoms_spec (ws := Cond.code yX6_read cX6_read 6 (some .int) :: wp) B.pre
  have hw : ∀ w ∈ wp, w.before _ s = true := fun w h => hts w (List.mem_cons_of_mem _ h)
  have hown : s.vm.findClass RX6 = some m.cls := findClass_of_methodNamed B.named
  have hlocks := B.notSynchronized
  subst hsz
  have hD := hD0.self (sz := s.heap.size)
  generalize hAe : va_A [(b6, .inr (6, [.ref e5, .ref e6, .ref e7, .null, .int 0])), (e5, .inr (2, [.ref e8, .int 0])), (e8, .inl (cA3, 256, .inl (fun _ => 0))), (e9, .inr (0, [.ref e1, .ref e2, .ref e3, .int 0, .ref e4]))] s.heap.size = A at hD ⊢
  have hA : ∀ q : Nat, s.heap.size ≤ q → A q := fun q h => by rw [← hAe]; exact Or.inr h
  have hS : va_S A s.heap s.heap [] := va_S.rf
  have hP : va_P (dC, dI) vwCl [(b6, .inr (6, [.ref e5, .ref e6, .ref e7, .null, .int 0])), (e5, .inr (2, [.ref e8, .int 0])), (e8, .inl (cA3, 256, .inl (fun _ => 0))), (e9, .inr (0, [.ref e1, .ref e2, .ref e3, .int 0, .ref e4]))] s.heap := hP
  have hl := lv_entry ([.ref b6, .ref b1, .int 0, .ref e9]) (n := 6) (Nat.le_of_ble_eq_true rfl)
  rw [lg_entry_eq]
  generalize (lg_sl ([.ref b6, .ref b1, .int 0, .ref e9]) ++ List.replicate (6 - (lg_sl ([.ref b6, .ref b1, .int 0, .ref e9])).length) Slot.unset).toArray = ls at hl ⊢
  have hl : lv_has ls 6 [(0, .ref b6), (1, .ref b1), (2, .int 0), (3, .ref e9)] := hl
  refine lv_aload_n hx hb dX6_read_0 rfl (lv_at hl 0 rfl) ?_
  refine lv_aload_n hx hb dX6_read_1 rfl (lv_at hl 3 rfl) ?_
  refine va_put (D := (dC, dI)) (ci := 6) (v := .ref e9) (ty := .object "RowTypes$Expression") (C := RX6) (T := TX6) (N := 5) hx hb hw uX6 tyX6 tyX6_ok nmX6 hown hK hP hD hS 0 rfl rfl 3 (by decide) (hw _ q166) (fun _ h9 => h9) rfl (by decide +kernel) rfl rfl (Nat.le_of_ble_eq_true rfl) dX6_read_2 (fun H locs hP hD hS => ?_)
  have hP : va_P (dC, dI) vwCl [(b6, .inr (6, [.ref e5, .ref e6, .ref e7, .ref e9, .int 0])), (e5, .inr (2, [.ref e8, .int 0])), (e8, .inl (cA3, 256, .inl (fun _ => 0))), (e9, .inr (0, [.ref e1, .ref e2, .ref e3, .int 0, .ref e4]))] H := hP
  have hD : va_D A [(b6, .inr (6, [.ref e5, .ref e6, .ref e7, .ref e9, .int 0])), (e5, .inr (2, [.ref e8, .int 0])), (e8, .inl (cA3, 256, .inl (fun _ => 0))), (e9, .inr (0, [.ref e1, .ref e2, .ref e3, .int 0, .ref e4]))] := hD
  refine lv_aload_n hx hb dX6_read_5 rfl (lv_at hl 0 rfl) ?_
  refine va_get (D := (dC, dI)) (ci := 6) (v := .ref e9) (C := RX6) (T := TX6) (N := 5) hx hb hw uX6 hown hK hP 0 rfl rfl 3 (by decide) (hw _ q166) (fun _ h9 => h9) rfl dX6_read_6 ?_
  refine lv_aload_n hx hb dX6_read_9 rfl (lv_at hl 1 rfl) ?_
  refine lv_iload_n hx hb dX6_read_10 rfl (lv_at hl 2 rfl) ?_
  have hPc := hP.sub (ws' := [(e9, .inr (0, [.ref e1, .ref e2, .ref e3, .int 0, .ref e4]))]) [3] rfl
  have hDc := hD.sub (ws' := [(e9, .inr (0, [.ref e1, .ref e2, .ref e3, .int 0, .ref e4]))]) [3] (by decide) rfl
  have hKc := hK.sub (tys' := []) [] rfl
  have hFc := va_free (wc := [(e9, .inr (0, [.ref e1, .ref e2, .ref e3, .int 0, .ref e4]))]) hD hS hA [3] rfl
  refine va_callv (va_runV (As := [.ref b1, .int 0]) (rest := []) ⟨hx, hb, hml, hown, hw⟩ (c_X0_take l dC dI _ (e9) (b1) (e1) (e2) (e3) (e4)) (cwV 2 hw (gV q180 q181 q182 q144 q179) rfl rfl rfl (by decide +kernel) ⟨Nat.le_of_ble_eq_true rfl, Nat.le_of_ble_eq_true rfl⟩) ⟨cP_blind, va_recv hKc hPc (ci := 0) (q0 := 0) rfl rfl, cP_pre hPc hKc hDc hN⟩ rfl rfl hl.1 rfl (lv_room (Nat.le_of_ble_eq_true rfl)) dX6_read_11 ⟨Nat.le_of_ble_eq_true rfl, Nat.le_of_ble_eq_true rfl⟩) hS (fun q _ h => hFc q h) hFc (fun u9 t H1 locs ht hvm hw1 hB hz1 hk1 hS => ?_)
  obtain ⟨hP1, hK1, hD1⟩ := hB
  rw [ht] at hP1
  have hK1 := va_K.moved hvm.symm hK1
  obtain ⟨hP, hD⟩ := va_join (wr := [(b6, .inr (6, [.ref e5, .ref e6, .ref e7, .ref e9, .int 0])), (e5, .inr (2, [.ref e8, .int 0])), (e8, .inl (cA3, 256, .inl (fun _ => 0)))]) (w1 := [(e9, .inr (0, [.ref e1, .ref e2, .ref e3, .int 0, .ref e4]))]) hP hD [3] [0, 1, 2] rfl rfl (by decide) (by decide) hk1 hFc hP1 hD1
  have hK := (hK.sub (tys' := [(cA3, .int)]) [0] rfl).app hK1
  generalize H1 = H at hP hS ⊢
  have hP : va_P (dC, dI) vwCl [(b6, .inr (6, [.ref e5, .ref e6, .ref e7, .ref e9, .int 0])), (e5, .inr (2, [.ref e8, .int 0])), (e8, .inl (cA3, 256, .inl (fun _ => 0))), (e9, .inr (0, [.ref e1, .ref e2, .ref e3, .int 0, .ref e4]))] H := hP
  have hD : va_D A [(b6, .inr (6, [.ref e5, .ref e6, .ref e7, .ref e9, .int 0])), (e5, .inr (2, [.ref e8, .int 0])), (e8, .inl (cA3, 256, .inl (fun _ => 0))), (e9, .inr (0, [.ref e1, .ref e2, .ref e3, .int 0, .ref e4]))] := hD
  have hK : va_K (dC, dI) vwCl [(cA3, .int)] s := hK
  refine lv_aload_n hx hb dX6_read_14 rfl (lv_at hl 0 rfl) ?_
  refine lv_iconst (v := 0) hx hb dX6_read_15 (by decide) ?_
  refine va_put (D := (dC, dI)) (ci := 6) (v := .int 0) (ty := .int) (C := RX6) (T := TX6) (N := 5) hx hb hw uX6 tyX6 tyX6_ok nmX6 hown hK hP hD hS 0 rfl rfl 4 (by decide) (hw _ q167) (fun _ h9 => h9) rfl (by decide +kernel) rfl rfl (Nat.le_of_ble_eq_true rfl) dX6_read_16 (fun H locs hP hD hS => ?_)
  have hP : va_P (dC, dI) vwCl [(b6, .inr (6, [.ref e5, .ref e6, .ref e7, .ref e9, .int 0])), (e5, .inr (2, [.ref e8, .int 0])), (e8, .inl (cA3, 256, .inl (fun _ => 0))), (e9, .inr (0, [.ref e1, .ref e2, .ref e3, .int 0, .ref e4]))] H := hP
  have hD : va_D A [(b6, .inr (6, [.ref e5, .ref e6, .ref e7, .ref e9, .int 0])), (e5, .inr (2, [.ref e8, .int 0])), (e8, .inl (cA3, 256, .inl (fun _ => 0))), (e9, .inr (0, [.ref e1, .ref e2, .ref e3, .int 0, .ref e4]))] := hD
  refine lv_aload_n hx hb dX6_read_19 rfl (lv_at hl 0 rfl) ?_
  refine va_get (D := (dC, dI)) (ci := 6) (v := .ref e5) (C := RX6) (T := TX6) (N := 5) hx hb hw uX6 hown hK hP 0 rfl rfl 0 (by decide) (hw _ q25) (fun _ h9 => h9) rfl dX6_read_20 ?_
  have hPc := hP.sub (ws' := [(e5, .inr (2, [.ref e8, .int 0]))]) [1] rfl
  have hDc := hD.sub (ws' := [(e5, .inr (2, [.ref e8, .int 0]))]) [1] (by decide) rfl
  have hKc := hK.sub (tys' := []) [] rfl
  have hFc := va_free (wc := [(e5, .inr (2, [.ref e8, .int 0]))]) hD hS hA [1] rfl
  refine va_callv (va_runV (As := []) (rest := []) ⟨hx, hb, hml, hown, hw⟩ (c_X2_clear l dC dI _ (e5) (e8)) (cwV 0 hw (gV q184 q185 q186 q22 q183) rfl rfl rfl (by decide +kernel) ⟨Nat.le_of_ble_eq_true rfl, Nat.le_of_ble_eq_true rfl⟩) ⟨cP_blind, va_recv hKc hPc (ci := 2) (q0 := 0) rfl rfl, cP_pre hPc hKc hDc hN⟩ rfl rfl hl.1 rfl (lv_room (Nat.le_of_ble_eq_true rfl)) dX6_read_23 ⟨Nat.le_of_ble_eq_true rfl, Nat.le_of_ble_eq_true rfl⟩) hS (fun q _ h => hFc q h) hFc (fun u9 t H1 locs ht hvm hw1 hB hz1 hk1 hS => ?_)
  obtain ⟨hP1, hK1, hD1⟩ := hB
  rw [ht] at hP1
  have hK1 := va_K.moved hvm.symm hK1
  obtain ⟨hP, hD⟩ := va_join (wr := [(b6, .inr (6, [.ref e5, .ref e6, .ref e7, .ref e9, .int 0])), (e8, .inl (cA3, 256, .inl (fun _ => 0))), (e9, .inr (0, [.ref e1, .ref e2, .ref e3, .int 0, .ref e4]))]) (w1 := [(e5, .inr (2, [.ref e8, .int 0]))]) hP hD [1] [0, 2, 3] rfl rfl (by decide) (by decide) hk1 hFc hP1 hD1
  have hK := (hK.sub (tys' := [(cA3, .int)]) [0] rfl).app hK1
  generalize H1 = H at hP hS ⊢
  have hP : va_P (dC, dI) vwCl [(b6, .inr (6, [.ref e5, .ref e6, .ref e7, .ref e9, .int 0])), (e8, .inl (cA3, 256, .inl (fun _ => 0))), (e9, .inr (0, [.ref e1, .ref e2, .ref e3, .int 0, .ref e4])), (e5, .inr (2, [.ref e8, .int 0]))] H := hP
  have hD : va_D A [(b6, .inr (6, [.ref e5, .ref e6, .ref e7, .ref e9, .int 0])), (e8, .inl (cA3, 256, .inl (fun _ => 0))), (e9, .inr (0, [.ref e1, .ref e2, .ref e3, .int 0, .ref e4])), (e5, .inr (2, [.ref e8, .int 0]))] := hD
  have hK : va_K (dC, dI) vwCl [(cA3, .int)] s := hK
  refine lv_aload_n hx hb dX6_read_26 rfl (lv_at hl 0 rfl) ?_
  refine va_get (D := (dC, dI)) (ci := 6) (v := .ref e5) (C := RX6) (T := TX6) (N := 5) hx hb hw uX6 hown hK hP 0 rfl rfl 0 (by decide) (hw _ q25) (fun _ h9 => h9) rfl dX6_read_27 ?_
  refine lv_bipush (v := 69) hx hb dX6_read_30 (by decide) ?_
  have hPc := hP.sub (ws' := [(e5, .inr (2, [.ref e8, .int 0])), (e8, .inl (cA3, 256, .inl (fun _ => 0)))]) [3, 1] rfl
  have hDc := hD.sub (ws' := [(e5, .inr (2, [.ref e8, .int 0])), (e8, .inl (cA3, 256, .inl (fun _ => 0)))]) [3, 1] (by decide) rfl
  have hKc := hK.sub (tys' := [(cA3, .int)]) [0] rfl
  have hFc := va_free (wc := [(e5, .inr (2, [.ref e8, .int 0])), (e8, .inl (cA3, 256, .inl (fun _ => 0)))]) hD hS hA [3, 1] rfl
  refine va_callv (va_runV (As := [.int 69]) (rest := []) ⟨hx, hb, hml, hown, hw⟩ (c_X2_push l dC dI _ (e5) (e8) (cA3)) (cwV 1 hw (gV q188 q189 q190 q22 q187) rfl rfl rfl (by decide +kernel) ⟨Nat.le_of_ble_eq_true rfl, Nat.le_of_ble_eq_true rfl⟩) ⟨cP_blind, va_recv hKc hPc (ci := 2) (q0 := 0) rfl rfl, cP_pre hPc hKc hDc hN⟩ rfl rfl hl.1 rfl (lv_room (Nat.le_of_ble_eq_true rfl)) dX6_read_32 ⟨Nat.le_of_ble_eq_true rfl, Nat.le_of_ble_eq_true rfl⟩) hS (fun q _ h => hFc q h) hFc (fun u9 t H1 locs ht hvm hw1 hB hz1 hk1 hS => ?_)
  obtain ⟨hP1, hK1, hD1⟩ := hB
  rw [ht] at hP1
  have hK1 := va_K.moved hvm.symm hK1
  obtain ⟨hP, hD⟩ := va_join (wr := [(b6, .inr (6, [.ref e5, .ref e6, .ref e7, .ref e9, .int 0])), (e9, .inr (0, [.ref e1, .ref e2, .ref e3, .int 0, .ref e4]))]) (w1 := [(e5, .inr (2, [.ref e8, .int 1])), (e8, .inl (cA3, 256, .inl ((upd (fun _ => 0) (Int32.toNatClampNeg 0) 69))))]) hP hD [3, 1] [0, 2] rfl rfl (by decide) (by decide) hk1 hFc hP1 hD1
  have hK := (hK.sub (tys' := []) [] rfl).app hK1
  generalize H1 = H at hP hS ⊢
  have hP : va_P (dC, dI) vwCl [(b6, .inr (6, [.ref e5, .ref e6, .ref e7, .ref e9, .int 0])), (e9, .inr (0, [.ref e1, .ref e2, .ref e3, .int 0, .ref e4])), (e5, .inr (2, [.ref e8, .int 1])), (e8, .inl (cA3, 256, .inl ((upd (fun _ => 0) (Int32.toNatClampNeg 0) 69))))] H := hP
  have hD : va_D A [(b6, .inr (6, [.ref e5, .ref e6, .ref e7, .ref e9, .int 0])), (e9, .inr (0, [.ref e1, .ref e2, .ref e3, .int 0, .ref e4])), (e5, .inr (2, [.ref e8, .int 1])), (e8, .inl (cA3, 256, .inl ((upd (fun _ => 0) (Int32.toNatClampNeg 0) 69))))] := hD
  have hK : va_K (dC, dI) vwCl [(cA3, .int)] s := hK
  refine lv_iconst (v := 0) hx hb dX6_read_35 (by decide) ?_
  refine lv_istore (lv' := [(4, .int 0), (0, .ref b6), (1, .ref b1), (2, .int 0), (3, .ref e9)]) hx hb dX6_read_36 hl (by decide) rfl (fun ls hl => ?_)
  refine lv_iload hx hb dX6_read_38 (lv_at hl 0 rfl) ?_
  refine lv_ldc (v := 1000000) hx hb hown (hw _ q191) dX6_read_40 ?_
  refine lv_icmp_ge (tgt := 93) hx hb dX6_read_42 (by decide) (fun c9 => absurd c9 (by decide)) (fun _ => ?_)
  refine lv_aload_n hx hb dX6_read_45 rfl (lv_at hl 1 rfl) ?_
  refine va_get (D := (dC, dI)) (ci := 6) (v := .ref e5) (C := RX6) (T := TX6) (N := 5) hx hb hw uX6 hown hK hP 0 rfl rfl 0 (by decide) (hw _ q25) (fun _ h9 => h9) rfl dX6_read_46 ?_
  have hPc := hP.sub (ws' := [(e5, .inr (2, [.ref e8, .int 1]))]) [2] rfl
  have hDc := hD.sub (ws' := [(e5, .inr (2, [.ref e8, .int 1]))]) [2] (by decide) rfl
  have hKc := hK.sub (tys' := []) [] rfl
  have hFc := va_free (wc := [(e5, .inr (2, [.ref e8, .int 1]))]) hD hS hA [2] rfl
  refine va_calli (va_runV (As := []) (rest := []) ⟨hx, hb, hml, hown, hw⟩ (c_X2_length l dC dI _ (e5) (e8)) (cwV 0 hw (gV q193 q194 q195 q22 q192) rfl rfl rfl (by decide +kernel) ⟨Nat.le_of_ble_eq_true rfl, Nat.le_of_ble_eq_true rfl⟩) ⟨cP_blind, va_recv hKc hPc (ci := 2) (q0 := 0) rfl rfl, cP_pre hPc hKc hDc hN⟩ rfl rfl hl.1 rfl (lv_room (Nat.le_of_ble_eq_true rfl)) dX6_read_49 ⟨Nat.le_of_ble_eq_true rfl, Nat.le_of_ble_eq_true rfl⟩) hS (fun q _ h => hFc q h) hFc (fun r4 u9 t H1 locs ht hvm hw1 hB hz1 hk1 hS => ?_)
  obtain ⟨hP1, hK1, hD1⟩ := hB
  rw [ht] at hP1
  have hK1 := va_K.moved hvm.symm hK1
  obtain ⟨hP, hD⟩ := va_join (wr := [(b6, .inr (6, [.ref e5, .ref e6, .ref e7, .ref e9, .int 0])), (e9, .inr (0, [.ref e1, .ref e2, .ref e3, .int 0, .ref e4])), (e8, .inl (cA3, 256, .inl ((upd (fun _ => 0) (Int32.toNatClampNeg 0) 69))))]) (w1 := [(e5, .inr (2, [.ref e8, .int 1]))]) hP hD [2] [0, 1, 3] rfl rfl (by decide) (by decide) hk1 hFc hP1 hD1
  have hK := (hK.sub (tys' := [(cA3, .int)]) [0] rfl).app hK1
  generalize H1 = H at hP hS ⊢
  have hP : va_P (dC, dI) vwCl [(b6, .inr (6, [.ref e5, .ref e6, .ref e7, .ref e9, .int 0])), (e9, .inr (0, [.ref e1, .ref e2, .ref e3, .int 0, .ref e4])), (e8, .inl (cA3, 256, .inl ((upd (fun _ => 0) (Int32.toNatClampNeg 0) 69)))), (e5, .inr (2, [.ref e8, .int 1]))] H := hP
  have hD : va_D A [(b6, .inr (6, [.ref e5, .ref e6, .ref e7, .ref e9, .int 0])), (e9, .inr (0, [.ref e1, .ref e2, .ref e3, .int 0, .ref e4])), (e8, .inl (cA3, 256, .inl ((upd (fun _ => 0) (Int32.toNatClampNeg 0) 69)))), (e5, .inr (2, [.ref e8, .int 1]))] := hD
  have hK : va_K (dC, dI) vwCl [(cA3, .int)] s := hK
  subst hw1
  refine lv_if_le (tgt := 93) hx hb dX6_read_52 (by decide) (fun c9 => absurd c9 (by decide)) (fun _ => ?_)
  refine lv_aload_n hx hb dX6_read_55 rfl (lv_at hl 1 rfl) ?_
  refine va_get (D := (dC, dI)) (ci := 6) (v := .ref e5) (C := RX6) (T := TX6) (N := 5) hx hb hw uX6 hown hK hP 0 rfl rfl 0 (by decide) (hw _ q25) (fun _ h9 => h9) rfl dX6_read_56 ?_
  have hPc := hP.sub (ws' := [(e5, .inr (2, [.ref e8, .int 1])), (e8, .inl (cA3, 256, .inl ((upd (fun _ => 0) (Int32.toNatClampNeg 0) 69))))]) [3, 2] rfl
  have hDc := hD.sub (ws' := [(e5, .inr (2, [.ref e8, .int 1])), (e8, .inl (cA3, 256, .inl ((upd (fun _ => 0) (Int32.toNatClampNeg 0) 69))))]) [3, 2] (by decide) rfl
  have hKc := hK.sub (tys' := [(cA3, .int)]) [0] rfl
  have hFc := va_free (wc := [(e5, .inr (2, [.ref e8, .int 1])), (e8, .inl (cA3, 256, .inl ((upd (fun _ => 0) (Int32.toNatClampNeg 0) 69))))]) hD hS hA [3, 2] rfl
  refine va_calli (va_runV (As := []) (rest := []) ⟨hx, hb, hml, hown, hw⟩ (c_X2_pop l dC dI _ (e5) (e8) (cA3)) (cwV 0 hw (gV q197 q198 q199 q22 q196) rfl rfl rfl (by decide +kernel) ⟨Nat.le_of_ble_eq_true rfl, Nat.le_of_ble_eq_true rfl⟩) ⟨cP_blind, va_recv hKc hPc (ci := 2) (q0 := 0) rfl rfl, cP_pre hPc hKc hDc hN⟩ rfl rfl hl.1 rfl (lv_room (Nat.le_of_ble_eq_true rfl)) dX6_read_59 ⟨Nat.le_of_ble_eq_true rfl, Nat.le_of_ble_eq_true rfl⟩) hS (fun q _ h => hFc q h) hFc (fun r5 u9 t H1 locs ht hvm hw1 hB hz1 hk1 hS => ?_)
  obtain ⟨hP1, hK1, hD1⟩ := hB
  rw [ht] at hP1
  have hK1 := va_K.moved hvm.symm hK1
  obtain ⟨hP, hD⟩ := va_join (wr := [(b6, .inr (6, [.ref e5, .ref e6, .ref e7, .ref e9, .int 0])), (e9, .inr (0, [.ref e1, .ref e2, .ref e3, .int 0, .ref e4]))]) (w1 := []) hP hD [3, 2] [0, 1] rfl rfl (by decide) (by decide) hk1 hFc hP1 hD1
  have hK := (hK.sub (tys' := []) [] rfl).app hK1
  generalize H1 = H at hP hS ⊢
  have hP : va_P (dC, dI) vwCl [(b6, .inr (6, [.ref e5, .ref e6, .ref e7, .ref e9, .int 0])), (e9, .inr (0, [.ref e1, .ref e2, .ref e3, .int 0, .ref e4]))] H := hP
  have hD : va_D A [(b6, .inr (6, [.ref e5, .ref e6, .ref e7, .ref e9, .int 0])), (e9, .inr (0, [.ref e1, .ref e2, .ref e3, .int 0, .ref e4]))] := hD
  have hK : va_K (dC, dI) vwCl [] s := hK
  subst hw1
  refine lv_istore (lv' := [(5, .int 69), (4, .int 0), (0, .ref b6), (1, .ref b1), (2, .int 0), (3, .ref e9)]) hx hb dX6_read_62 hl (by decide) rfl (fun ls hl => ?_)
  refine lv_aload_n hx hb dX6_read_64 rfl (lv_at hl 2 rfl) ?_
  refine lv_iload hx hb dX6_read_65 (lv_at hl 0 rfl) ?_
  refine lv_sipush (v := 255) hx hb dX6_read_67 (by decide) ?_
  refine lv_iand hx hb dX6_read_70 ?_
  refine lv_topi (fun y6 ey6 => ?_)
  have ey6 : y6 = 69 := ey6.trans (by decide +kernel)
  subst ey6
  refine lv_iload hx hb dX6_read_71 (lv_at hl 0 rfl) ?_
  refine lv_bipush (v := 8) hx hb dX6_read_73 (by decide) ?_
  refine lv_ishr hx hb dX6_read_75 ?_
  refine lv_topi (fun y7 ey7 => ?_)
  have ey7 : y7 = 0 := ey7.trans (by decide +kernel)
  subst ey7
  have hPc := hP.sub (ws' := [(b6, .inr (6, [.ref e5, .ref e6, .ref e7, .ref e9, .int 0])), (e9, .inr (0, [.ref e1, .ref e2, .ref e3, .int 0, .ref e4]))]) [0, 1] rfl
  have hDc := hD.sub (ws' := [(b6, .inr (6, [.ref e5, .ref e6, .ref e7, .ref e9, .int 0])), (e9, .inr (0, [.ref e1, .ref e2, .ref e3, .int 0, .ref e4]))]) [0, 1] (by decide) rfl
  have hKc := hK.sub (tys' := []) [] rfl
  have hFc := va_free (wc := [(b6, .inr (6, [.ref e5, .ref e6, .ref e7, .ref e9, .int 0])), (e9, .inr (0, [.ref e1, .ref e2, .ref e3, .int 0, .ref e4]))]) hD hS hA [0, 1] rfl
  refine va_calli (va_runV (As := [.int 69, .int 0]) (rest := []) ⟨hx, hb, hml, hown, hw⟩ (c_X6_accepts l dC dI _ (b6) (e5) (e6) (e7) (e9) (e1) (e2) (e3) (e4)) (cwV 2 hw (gV q201 q202 q203 q93 q200) rfl rfl rfl (by decide +kernel) ⟨Nat.le_of_ble_eq_true rfl, Nat.le_of_ble_eq_true rfl⟩) ⟨cP_blind, va_recv hKc hPc (ci := 6) (q0 := 0) rfl rfl, cP_pre hPc hKc hDc hN⟩ rfl rfl hl.1 rfl (lv_room (Nat.le_of_ble_eq_true rfl)) dX6_read_76 ⟨Nat.le_of_ble_eq_true rfl, Nat.le_of_ble_eq_true rfl⟩) hS (fun q _ h => hFc q h) hFc (fun r8 u9 t H1 locs ht hvm hw1 hB hz1 hk1 hS => ?_)
  obtain ⟨hP1, hK1, hD1⟩ := hB
  rw [ht] at hP1
  have hK1 := va_K.moved hvm.symm hK1
  obtain ⟨hP, hD⟩ := va_join (wr := []) (w1 := [(b6, .inr (6, [.ref e5, .ref e6, .ref e7, .ref e9, .int 0])), (e9, .inr (0, [.ref e1, .ref e2, .ref e3, .int 0, .ref e4]))]) hP hD [0, 1] [] rfl rfl (by decide) (by decide) hk1 hFc hP1 hD1
  have hK := (hK.sub (tys' := []) [] rfl).app hK1
  generalize H1 = H at hP hS ⊢
  have hP : va_P (dC, dI) vwCl [(b6, .inr (6, [.ref e5, .ref e6, .ref e7, .ref e9, .int 0])), (e9, .inr (0, [.ref e1, .ref e2, .ref e3, .int 0, .ref e4]))] H := hP
  have hD : va_D A [(b6, .inr (6, [.ref e5, .ref e6, .ref e7, .ref e9, .int 0])), (e9, .inr (0, [.ref e1, .ref e2, .ref e3, .int 0, .ref e4]))] := hD
  have hK : va_K (dC, dI) vwCl [] s := hK
  subst hw1
  refine lv_if_ne (tgt := 87) hx hb dX6_read_79 (by decide) (fun c9 => absurd c9 (by decide)) (fun _ => ?_)
  refine lv_aload_n hx hb dX6_read_82 rfl (lv_at hl 2 rfl) ?_
  refine va_get (D := (dC, dI)) (ci := 6) (v := .int 0) (C := RX6) (T := TX6) (N := 5) hx hb hw uX6 hown hK hP 0 rfl rfl 4 (by decide) (hw _ q167) (fun _ h9 => h9) rfl dX6_read_83 ?_
  have hP9 := hP.sub (ws' := []) [] rfl
  have hD9 := hD.sub (ws' := []) [] (by decide) rfl
  have hK9 := hK.sub (tys' := []) [] rfl
  exact W.iret (v := 0) hx hb hr (fun t ht hW => ⟨⟨0, (), rfl, rfl, by rw [ht]; exact hP9, va_K.moved hW.alike hK9, hD9⟩, hS.F ht⟩) hS.2.2 dX6_read_86
set_option maxHeartbeats 4000000 in
set_option maxRecDepth 100000 in
theorem c_X11_readText (l : Launch) (dC : Nat → ClassId) (dI : Nat → Nat → Nat) (sz : Nat) (h0 : Nat) (b1 : Nat) (b2 : Nat) (b3 : Nat) (b4 : Nat) (b5 : Nat) (b6 : Nat) (b7 : Nat) (b8 : Nat) (b9 : Nat) (b10 : Nat) (b11 : Nat) (b12 : Nat) (b13 : Nat) (e1 : Nat) (e2 : Nat) (e3 : Nat) (e4 : Nat) (e5 : Nat) (e6 : Nat) (e7 : Nat) (e8 : Nat) (e9 : Nat) (g0 : Nat → Option Nat) (cA2 : ClassId) (cA3 : ClassId) : Met l yX11_readText (Cond.code yX11_readText cX11_readText 2 (some .int) :: wp) ({ frames := 5, cells := 0, slots := 0, locals := 110 }) (cP dC dI [.ref h0] sz [(h0, .inr (11, [.ref b1, .int 0, .ref b2, .int 0, .int 0, .ref b3, .ref b4, .int 0, .ref b5, .int 0, .int 9, .ref b6, .ref b7, .ref b8, .ref b9, .ref b10, .ref b11, .ref b12, .ref b13])), (b2, .inl (cA2, 10, .inr (.inr (.inr (.inr (va_up (g0) (Int32.toNatClampNeg 9) (some e9))))))), (e9, .inr (0, [.ref e1, .ref e2, .ref e3, .int 0, .ref e4])), (b6, .inr (6, [.ref e5, .ref e6, .ref e7, .null, .int 0])), (e5, .inr (2, [.ref e8, .int 0])), (e8, .inl (cA3, 256, .inl (fun _ => 0)))] [(cA2, .object RX0), (cA3, .int)]) (va_Qi (fun (r : Int32) (_ : Unit) => r = 0) (fun (_ : Unit) t => cB dC dI (va_A [(h0, .inr (11, [.ref b1, .int 0, .ref b2, .int 0, .int 0, .ref b3, .ref b4, .int 0, .ref b5, .int 0, .int 9, .ref b6, .ref b7, .ref b8, .ref b9, .ref b10, .ref b11, .ref b12, .ref b13])), (b2, .inl (cA2, 10, .inr (.inr (.inr (.inr (va_up (g0) (Int32.toNatClampNeg 9) (some e9))))))), (e9, .inr (0, [.ref e1, .ref e2, .ref e3, .int 0, .ref e4])), (b6, .inr (6, [.ref e5, .ref e6, .ref e7, .null, .int 0])), (e5, .inr (2, [.ref e8, .int 0])), (e8, .inl (cA3, 256, .inl (fun _ => 0)))] sz) [] [] t) (va_A [(h0, .inr (11, [.ref b1, .int 0, .ref b2, .int 0, .int 0, .ref b3, .ref b4, .int 0, .ref b5, .int 0, .int 9, .ref b6, .ref b7, .ref b8, .ref b9, .ref b10, .ref b11, .ref b12, .ref b13])), (b2, .inl (cA2, 10, .inr (.inr (.inr (.inr (va_up (g0) (Int32.toNatClampNeg 9) (some e9))))))), (e9, .inr (0, [.ref e1, .ref e2, .ref e3, .int 0, .ref e4])), (b6, .inr (6, [.ref e5, .ref e6, .ref e7, .null, .int 0])), (e5, .inr (2, [.ref e8, .int 0])), (e8, .inl (cA3, 256, .inl (fun _ => 0)))] sz)) 0 0 (va_A [(h0, .inr (11, [.ref b1, .int 0, .ref b2, .int 0, .int 0, .ref b3, .ref b4, .int 0, .ref b5, .int 0, .int 9, .ref b6, .ref b7, .ref b8, .ref b9, .ref b10, .ref b11, .ref b12, .ref b13])), (b2, .inl (cA2, 10, .inr (.inr (.inr (.inr (va_up (g0) (Int32.toNatClampNeg 9) (some e9))))))), (e9, .inr (0, [.ref e1, .ref e2, .ref e3, .int 0, .ref e4])), (b6, .inr (6, [.ref e5, .ref e6, .ref e7, .null, .int 0])), (e5, .inr (2, [.ref e8, .int 0])), (e8, .inl (cA3, 256, .inl (fun _ => 0)))] sz) := by
  refine Met.ofW (cc := cX11_readText) (maxL := 2) (ret := (some .int)) (by decide) rfl ?_
  intro p e s m args below meth c s₁ B hml hv
  obtain ⟨rfl, hsz, hP, hK, hD0, hN⟩ := hv
  have hx := B.exec
  have hb := B.bytes
  have hr := B.returns
  have hts := atoms_spec (ws := Cond.code yX11_readText cX11_readText 2 (some .int) :: wp) B.pre
  have hw : ∀ w ∈ wp, w.before _ s = true := fun w h => hts w (List.mem_cons_of_mem _ h)
  have hown : s.vm.findClass RX11 = some m.cls := findClass_of_methodNamed B.named
  have hlocks := B.notSynchronized
  subst hsz
  have hD := hD0.self (sz := s.heap.size)
  generalize hAe : va_A [(h0, .inr (11, [.ref b1, .int 0, .ref b2, .int 0, .int 0, .ref b3, .ref b4, .int 0, .ref b5, .int 0, .int 9, .ref b6, .ref b7, .ref b8, .ref b9, .ref b10, .ref b11, .ref b12, .ref b13])), (b2, .inl (cA2, 10, .inr (.inr (.inr (.inr (va_up (g0) (Int32.toNatClampNeg 9) (some e9))))))), (e9, .inr (0, [.ref e1, .ref e2, .ref e3, .int 0, .ref e4])), (b6, .inr (6, [.ref e5, .ref e6, .ref e7, .null, .int 0])), (e5, .inr (2, [.ref e8, .int 0])), (e8, .inl (cA3, 256, .inl (fun _ => 0)))] s.heap.size = A at hD ⊢
  have hA : ∀ q : Nat, s.heap.size ≤ q → A q := fun q h => by rw [← hAe]; exact Or.inr h
  have hS : va_S A s.heap s.heap [] := va_S.rf
  have hP : va_P (dC, dI) vwCl [(h0, .inr (11, [.ref b1, .int 0, .ref b2, .int 0, .int 0, .ref b3, .ref b4, .int 0, .ref b5, .int 0, .int 9, .ref b6, .ref b7, .ref b8, .ref b9, .ref b10, .ref b11, .ref b12, .ref b13])), (b2, .inl (cA2, 10, .inr (.inr (.inr (.inr (va_up (g0) (Int32.toNatClampNeg 9) (some e9))))))), (e9, .inr (0, [.ref e1, .ref e2, .ref e3, .int 0, .ref e4])), (b6, .inr (6, [.ref e5, .ref e6, .ref e7, .null, .int 0])), (e5, .inr (2, [.ref e8, .int 0])), (e8, .inl (cA3, 256, .inl (fun _ => 0)))] s.heap := hP
  have hl := lv_entry ([.ref h0]) (n := 2) (Nat.le_of_ble_eq_true rfl)
  rw [lg_entry_eq]
  generalize (lg_sl ([.ref h0]) ++ List.replicate (2 - (lg_sl ([.ref h0])).length) Slot.unset).toArray = ls at hl ⊢
  have hl : lv_has ls 2 [(0, .ref h0)] := hl
  refine lv_aload_n hx hb dX11_readText_0 rfl (lv_at hl 0 rfl) ?_
  refine va_get (D := (dC, dI)) (ci := 11) (v := .int 0) (C := RX11) (T := TX11) (N := 19) hx hb hw uX11 hown hK hP 0 rfl rfl 1 (by decide) (hw _ q159) (fun _ h9 => h9) rfl dX11_readText_1 ?_
  refine lv_istore_n (lv' := [(1, .int 0), (0, .ref h0)]) hx hb dX11_readText_4 rfl hl (by decide) rfl (fun ls hl => ?_)
  refine lv_aload_n hx hb dX11_readText_5 rfl (lv_at hl 1 rfl) ?_
  refine lv_iconst (v := 0) hx hb dX11_readText_6 (by decide) ?_
  refine va_put (D := (dC, dI)) (ci := 11) (v := .int 0) (ty := .int) (C := RX11) (T := TX11) (N := 19) hx hb hw uX11 tyX11 tyX11_ok nmX11 hown hK hP hD hS 0 rfl rfl 1 (by decide) (hw _ q159) (fun _ h9 => h9) rfl (by decide +kernel) rfl rfl (Nat.le_of_ble_eq_true rfl) dX11_readText_7 (fun H locs hP hD hS => ?_)
  have hP : va_P (dC, dI) vwCl [(h0, .inr (11, [.ref b1, .int 0, .ref b2, .int 0, .int 0, .ref b3, .ref b4, .int 0, .ref b5, .int 0, .int 9, .ref b6, .ref b7, .ref b8, .ref b9, .ref b10, .ref b11, .ref b12, .ref b13])), (b2, .inl (cA2, 10, .inr (.inr (.inr (.inr (va_up (g0) (Int32.toNatClampNeg 9) (some e9))))))), (e9, .inr (0, [.ref e1, .ref e2, .ref e3, .int 0, .ref e4])), (b6, .inr (6, [.ref e5, .ref e6, .ref e7, .null, .int 0])), (e5, .inr (2, [.ref e8, .int 0])), (e8, .inl (cA3, 256, .inl (fun _ => 0)))] H := hP
  have hD : va_D A [(h0, .inr (11, [.ref b1, .int 0, .ref b2, .int 0, .int 0, .ref b3, .ref b4, .int 0, .ref b5, .int 0, .int 9, .ref b6, .ref b7, .ref b8, .ref b9, .ref b10, .ref b11, .ref b12, .ref b13])), (b2, .inl (cA2, 10, .inr (.inr (.inr (.inr (va_up (g0) (Int32.toNatClampNeg 9) (some e9))))))), (e9, .inr (0, [.ref e1, .ref e2, .ref e3, .int 0, .ref e4])), (b6, .inr (6, [.ref e5, .ref e6, .ref e7, .null, .int 0])), (e5, .inr (2, [.ref e8, .int 0])), (e8, .inl (cA3, 256, .inl (fun _ => 0)))] := hD
  refine lv_aload_n hx hb dX11_readText_10 rfl (lv_at hl 1 rfl) ?_
  refine va_get (D := (dC, dI)) (ci := 11) (v := .ref b6) (C := RX11) (T := TX11) (N := 19) hx hb hw uX11 hown hK hP 0 rfl rfl 11 (by decide) (hw _ q96) (fun _ h9 => h9) rfl dX11_readText_11 ?_
  refine lv_aload_n hx hb dX11_readText_14 rfl (lv_at hl 1 rfl) ?_
  refine va_get (D := (dC, dI)) (ci := 11) (v := .ref b1) (C := RX11) (T := TX11) (N := 19) hx hb hw uX11 hown hK hP 0 rfl rfl 0 (by decide) (hw _ q83) (fun _ h9 => h9) rfl dX11_readText_15 ?_
  refine lv_iload_n hx hb dX11_readText_18 rfl (lv_at hl 0 rfl) ?_
  refine lv_aload_n hx hb dX11_readText_19 rfl (lv_at hl 1 rfl) ?_
  refine va_get (D := (dC, dI)) (ci := 11) (v := .ref b2) (C := RX11) (T := TX11) (N := 19) hx hb hw uX11 hown hK hP 0 rfl rfl 2 (by decide) (hw _ q85) (fun _ h9 => h9) rfl dX11_readText_20 ?_
  refine lv_bipush (v := 9) hx hb dX11_readText_23 (by decide) ?_
  refine va_aldq (D := (dC, dI)) hx hb hK hP 1 0 rfl rfl (by unfold vp_in; decide) dX11_readText_25 ?_
  refine W.eq (g2 := F0 m 26 ls [.ref e9, .int 0, .ref b1, .ref b6]) rfl ?_
  have hPc := hP.sub (ws' := [(b6, .inr (6, [.ref e5, .ref e6, .ref e7, .null, .int 0])), (e5, .inr (2, [.ref e8, .int 0])), (e8, .inl (cA3, 256, .inl (fun _ => 0))), (e9, .inr (0, [.ref e1, .ref e2, .ref e3, .int 0, .ref e4]))]) [3, 4, 5, 2] rfl
  have hDc := hD.sub (ws' := [(b6, .inr (6, [.ref e5, .ref e6, .ref e7, .null, .int 0])), (e5, .inr (2, [.ref e8, .int 0])), (e8, .inl (cA3, 256, .inl (fun _ => 0))), (e9, .inr (0, [.ref e1, .ref e2, .ref e3, .int 0, .ref e4]))]) [3, 4, 5, 2] (by decide) rfl
  have hKc := hK.sub (tys' := [(cA3, .int)]) [1] rfl
  have hFc := va_free (wc := [(b6, .inr (6, [.ref e5, .ref e6, .ref e7, .null, .int 0])), (e5, .inr (2, [.ref e8, .int 0])), (e8, .inl (cA3, 256, .inl (fun _ => 0))), (e9, .inr (0, [.ref e1, .ref e2, .ref e3, .int 0, .ref e4]))]) hD hS hA [3, 4, 5, 2] rfl
  refine va_calli (va_runV (As := [.ref b1, .int 0, .ref e9]) (rest := []) ⟨hx, hb, hml, hown, hw⟩ (c_X6_read l dC dI _ (b6) (b1) (e5) (e6) (e7) (e8) (cA3) (e9) (e1) (e2) (e3) (e4)) (cwV 3 hw (gV q205 q206 q207 q93 q204) rfl rfl rfl (by decide +kernel) ⟨Nat.le_of_ble_eq_true rfl, Nat.le_of_ble_eq_true rfl⟩) ⟨cP_blind, va_recv hKc hPc (ci := 6) (q0 := 0) rfl rfl, cP_pre hPc hKc hDc hN⟩ rfl rfl hl.1 rfl (lv_room (Nat.le_of_ble_eq_true rfl)) dX11_readText_26 ⟨Nat.le_of_ble_eq_true rfl, Nat.le_of_ble_eq_true rfl⟩) hS (fun q _ h => hFc q h) hFc (fun r1 u9 t H1 locs ht hvm hw1 hB hz1 hk1 hS => ?_)
  obtain ⟨hP1, hK1, hD1⟩ := hB
  rw [ht] at hP1
  have hK1 := va_K.moved hvm.symm hK1
  obtain ⟨hP, hD⟩ := va_join (wr := [(h0, .inr (11, [.ref b1, .int 0, .ref b2, .int 0, .int 0, .ref b3, .ref b4, .int 0, .ref b5, .int 0, .int 9, .ref b6, .ref b7, .ref b8, .ref b9, .ref b10, .ref b11, .ref b12, .ref b13])), (b2, .inl (cA2, 10, .inr (.inr (.inr (.inr (va_up (g0) (Int32.toNatClampNeg 9) (some e9)))))))]) (w1 := []) hP hD [3, 4, 5, 2] [0, 1] rfl rfl (by decide) (by decide) hk1 hFc hP1 hD1
  have hK := (hK.sub (tys' := [(cA2, .object RX0)]) [0] rfl).app hK1
  generalize H1 = H at hP hS ⊢
  have hP : va_P (dC, dI) vwCl [(h0, .inr (11, [.ref b1, .int 0, .ref b2, .int 0, .int 0, .ref b3, .ref b4, .int 0, .ref b5, .int 0, .int 9, .ref b6, .ref b7, .ref b8, .ref b9, .ref b10, .ref b11, .ref b12, .ref b13])), (b2, .inl (cA2, 10, .inr (.inr (.inr (.inr (va_up (g0) (Int32.toNatClampNeg 9) (some e9)))))))] H := hP
  have hD : va_D A [(h0, .inr (11, [.ref b1, .int 0, .ref b2, .int 0, .int 0, .ref b3, .ref b4, .int 0, .ref b5, .int 0, .int 9, .ref b6, .ref b7, .ref b8, .ref b9, .ref b10, .ref b11, .ref b12, .ref b13])), (b2, .inl (cA2, 10, .inr (.inr (.inr (.inr (va_up (g0) (Int32.toNatClampNeg 9) (some e9)))))))] := hD
  have hK : va_K (dC, dI) vwCl [(cA2, .object RX0)] s := hK
  subst hw1
  have hP9 := hP.sub (ws' := []) [] rfl
  have hD9 := hD.sub (ws' := []) [] (by decide) rfl
  have hK9 := hK.sub (tys' := []) [] rfl
  exact W.iret (v := 0) hx hb hr (fun t ht hW => ⟨⟨0, (), rfl, rfl, by rw [ht]; exact hP9, va_K.moved hW.alike hK9, hD9⟩, hS.F ht⟩) hS.2.2 dX11_readText_29
set_option maxHeartbeats 4000000 in
set_option maxRecDepth 100000 in
theorem c_X11_infers (l : Launch) (dC : Nat → ClassId) (dI : Nat → Nat → Nat) (sz : Nat) (h0 : Nat) (b1 : Nat) (b2 : Nat) (b3 : Nat) (b4 : Nat) (b5 : Nat) (b6 : Nat) (b7 : Nat) (b8 : Nat) (b9 : Nat) (b10 : Nat) (b11 : Nat) (b12 : Nat) (b13 : Nat) (e1 : Nat) (e2 : Nat) (e3 : Nat) (e4 : Nat) (e5 : Nat) (e6 : Nat) (e7 : Nat) (e8 : Nat) (e9 : Nat) (g0 : Nat → Option Nat) (cA2 : ClassId) (cA3 : ClassId) : Met l yX11_infers (Cond.code yX11_infers cX11_infers 2 (some .int) :: wp) ({ frames := 6, cells := 0, slots := 0, locals := 131 }) (cP dC dI [.ref h0] sz [(h0, .inr (11, [.ref b1, .int 0, .ref b2, .int 0, .int 0, .ref b3, .ref b4, .int 0, .ref b5, .int 0, .int 9, .ref b6, .ref b7, .ref b8, .ref b9, .ref b10, .ref b11, .ref b12, .ref b13])), (b2, .inl (cA2, 10, .inr (.inr (.inr (.inr (va_up (g0) (Int32.toNatClampNeg 9) (some e9))))))), (e9, .inr (0, [.ref e1, .ref e2, .ref e3, .int 0, .ref e4])), (b6, .inr (6, [.ref e5, .ref e6, .ref e7, .null, .int 0])), (e5, .inr (2, [.ref e8, .int 0])), (e8, .inl (cA3, 256, .inl (fun _ => 0)))] [(cA2, .object RX0), (cA3, .int)]) (va_Qi (fun (r : Int32) (_ : Unit) => r = -1) (fun (_ : Unit) t => cB dC dI (va_A [(h0, .inr (11, [.ref b1, .int 0, .ref b2, .int 0, .int 0, .ref b3, .ref b4, .int 0, .ref b5, .int 0, .int 9, .ref b6, .ref b7, .ref b8, .ref b9, .ref b10, .ref b11, .ref b12, .ref b13])), (b2, .inl (cA2, 10, .inr (.inr (.inr (.inr (va_up (g0) (Int32.toNatClampNeg 9) (some e9))))))), (e9, .inr (0, [.ref e1, .ref e2, .ref e3, .int 0, .ref e4])), (b6, .inr (6, [.ref e5, .ref e6, .ref e7, .null, .int 0])), (e5, .inr (2, [.ref e8, .int 0])), (e8, .inl (cA3, 256, .inl (fun _ => 0)))] sz) [] [] t) (va_A [(h0, .inr (11, [.ref b1, .int 0, .ref b2, .int 0, .int 0, .ref b3, .ref b4, .int 0, .ref b5, .int 0, .int 9, .ref b6, .ref b7, .ref b8, .ref b9, .ref b10, .ref b11, .ref b12, .ref b13])), (b2, .inl (cA2, 10, .inr (.inr (.inr (.inr (va_up (g0) (Int32.toNatClampNeg 9) (some e9))))))), (e9, .inr (0, [.ref e1, .ref e2, .ref e3, .int 0, .ref e4])), (b6, .inr (6, [.ref e5, .ref e6, .ref e7, .null, .int 0])), (e5, .inr (2, [.ref e8, .int 0])), (e8, .inl (cA3, 256, .inl (fun _ => 0)))] sz)) 0 0 (va_A [(h0, .inr (11, [.ref b1, .int 0, .ref b2, .int 0, .int 0, .ref b3, .ref b4, .int 0, .ref b5, .int 0, .int 9, .ref b6, .ref b7, .ref b8, .ref b9, .ref b10, .ref b11, .ref b12, .ref b13])), (b2, .inl (cA2, 10, .inr (.inr (.inr (.inr (va_up (g0) (Int32.toNatClampNeg 9) (some e9))))))), (e9, .inr (0, [.ref e1, .ref e2, .ref e3, .int 0, .ref e4])), (b6, .inr (6, [.ref e5, .ref e6, .ref e7, .null, .int 0])), (e5, .inr (2, [.ref e8, .int 0])), (e8, .inl (cA3, 256, .inl (fun _ => 0)))] sz) := by
  refine Met.ofW (cc := cX11_infers) (maxL := 2) (ret := (some .int)) (by decide) rfl ?_
  intro p e s m args below meth c s₁ B hml hv
  obtain ⟨rfl, hsz, hP, hK, hD0, hN⟩ := hv
  have hx := B.exec
  have hb := B.bytes
  have hr := B.returns
  have hts := atoms_spec (ws := Cond.code yX11_infers cX11_infers 2 (some .int) :: wp) B.pre
  have hw : ∀ w ∈ wp, w.before _ s = true := fun w h => hts w (List.mem_cons_of_mem _ h)
  have hown : s.vm.findClass RX11 = some m.cls := findClass_of_methodNamed B.named
  have hlocks := B.notSynchronized
  subst hsz
  have hD := hD0.self (sz := s.heap.size)
  generalize hAe : va_A [(h0, .inr (11, [.ref b1, .int 0, .ref b2, .int 0, .int 0, .ref b3, .ref b4, .int 0, .ref b5, .int 0, .int 9, .ref b6, .ref b7, .ref b8, .ref b9, .ref b10, .ref b11, .ref b12, .ref b13])), (b2, .inl (cA2, 10, .inr (.inr (.inr (.inr (va_up (g0) (Int32.toNatClampNeg 9) (some e9))))))), (e9, .inr (0, [.ref e1, .ref e2, .ref e3, .int 0, .ref e4])), (b6, .inr (6, [.ref e5, .ref e6, .ref e7, .null, .int 0])), (e5, .inr (2, [.ref e8, .int 0])), (e8, .inl (cA3, 256, .inl (fun _ => 0)))] s.heap.size = A at hD ⊢
  have hA : ∀ q : Nat, s.heap.size ≤ q → A q := fun q h => by rw [← hAe]; exact Or.inr h
  have hS : va_S A s.heap s.heap [] := va_S.rf
  have hP : va_P (dC, dI) vwCl [(h0, .inr (11, [.ref b1, .int 0, .ref b2, .int 0, .int 0, .ref b3, .ref b4, .int 0, .ref b5, .int 0, .int 9, .ref b6, .ref b7, .ref b8, .ref b9, .ref b10, .ref b11, .ref b12, .ref b13])), (b2, .inl (cA2, 10, .inr (.inr (.inr (.inr (va_up (g0) (Int32.toNatClampNeg 9) (some e9))))))), (e9, .inr (0, [.ref e1, .ref e2, .ref e3, .int 0, .ref e4])), (b6, .inr (6, [.ref e5, .ref e6, .ref e7, .null, .int 0])), (e5, .inr (2, [.ref e8, .int 0])), (e8, .inl (cA3, 256, .inl (fun _ => 0)))] s.heap := hP
  have hl := lv_entry ([.ref h0]) (n := 2) (Nat.le_of_ble_eq_true rfl)
  rw [lg_entry_eq]
  generalize (lg_sl ([.ref h0]) ++ List.replicate (2 - (lg_sl ([.ref h0])).length) Slot.unset).toArray = ls at hl ⊢
  have hl : lv_has ls 2 [(0, .ref h0)] := hl
  refine lv_aload_n hx hb dX11_infers_0 rfl (lv_at hl 0 rfl) ?_
  have hPc := hP.sub (ws' := [(h0, .inr (11, [.ref b1, .int 0, .ref b2, .int 0, .int 0, .ref b3, .ref b4, .int 0, .ref b5, .int 0, .int 9, .ref b6, .ref b7, .ref b8, .ref b9, .ref b10, .ref b11, .ref b12, .ref b13])), (b2, .inl (cA2, 10, .inr (.inr (.inr (.inr (va_up (g0) (Int32.toNatClampNeg 9) (some e9))))))), (e9, .inr (0, [.ref e1, .ref e2, .ref e3, .int 0, .ref e4])), (b6, .inr (6, [.ref e5, .ref e6, .ref e7, .null, .int 0])), (e5, .inr (2, [.ref e8, .int 0])), (e8, .inl (cA3, 256, .inl (fun _ => 0)))]) [0, 1, 2, 3, 4, 5] rfl
  have hDc := hD.sub (ws' := [(h0, .inr (11, [.ref b1, .int 0, .ref b2, .int 0, .int 0, .ref b3, .ref b4, .int 0, .ref b5, .int 0, .int 9, .ref b6, .ref b7, .ref b8, .ref b9, .ref b10, .ref b11, .ref b12, .ref b13])), (b2, .inl (cA2, 10, .inr (.inr (.inr (.inr (va_up (g0) (Int32.toNatClampNeg 9) (some e9))))))), (e9, .inr (0, [.ref e1, .ref e2, .ref e3, .int 0, .ref e4])), (b6, .inr (6, [.ref e5, .ref e6, .ref e7, .null, .int 0])), (e5, .inr (2, [.ref e8, .int 0])), (e8, .inl (cA3, 256, .inl (fun _ => 0)))]) [0, 1, 2, 3, 4, 5] (by decide) rfl
  have hKc := hK.sub (tys' := [(cA2, .object RX0), (cA3, .int)]) [0, 1] rfl
  have hFc := va_free (wc := [(h0, .inr (11, [.ref b1, .int 0, .ref b2, .int 0, .int 0, .ref b3, .ref b4, .int 0, .ref b5, .int 0, .int 9, .ref b6, .ref b7, .ref b8, .ref b9, .ref b10, .ref b11, .ref b12, .ref b13])), (b2, .inl (cA2, 10, .inr (.inr (.inr (.inr (va_up (g0) (Int32.toNatClampNeg 9) (some e9))))))), (e9, .inr (0, [.ref e1, .ref e2, .ref e3, .int 0, .ref e4])), (b6, .inr (6, [.ref e5, .ref e6, .ref e7, .null, .int 0])), (e5, .inr (2, [.ref e8, .int 0])), (e8, .inl (cA3, 256, .inl (fun _ => 0)))]) hD hS hA [0, 1, 2, 3, 4, 5] rfl
  refine va_calli (va_runV (As := []) (rest := []) ⟨hx, hb, hml, hown, hw⟩ (c_X11_readText l dC dI _ (h0) (b1) (b2) (b3) (b4) (b5) (b6) (b7) (b8) (b9) (b10) (b11) (b12) (b13) (e1) (e2) (e3) (e4) (e5) (e6) (e7) (e8) (e9) (g0) (cA2) (cA3)) (cwV 0 hw (gV q209 q210 q211 q153 q208) rfl rfl rfl (by decide +kernel) ⟨Nat.le_of_ble_eq_true rfl, Nat.le_of_ble_eq_true rfl⟩) ⟨cP_blind, va_recv hKc hPc (ci := 11) (q0 := 0) rfl rfl, cP_pre hPc hKc hDc hN⟩ rfl rfl hl.1 rfl (lv_room (Nat.le_of_ble_eq_true rfl)) dX11_infers_1 ⟨Nat.le_of_ble_eq_true rfl, Nat.le_of_ble_eq_true rfl⟩) hS (fun q _ h => hFc q h) hFc (fun r1 u9 t H1 locs ht hvm hw1 hB hz1 hk1 hS => ?_)
  obtain ⟨hP1, hK1, hD1⟩ := hB
  rw [ht] at hP1
  have hK1 := va_K.moved hvm.symm hK1
  obtain ⟨hP, hD⟩ := va_join (wr := []) (w1 := []) hP hD [0, 1, 2, 3, 4, 5] [] rfl rfl (by decide) (by decide) hk1 hFc hP1 hD1
  have hK := (hK.sub (tys' := []) [] rfl).app hK1
  generalize H1 = H at hP hS ⊢
  have hP : va_P (dC, dI) vwCl [] H := hP
  have hD : va_D A [] := hD
  have hK : va_K (dC, dI) vwCl [] s := hK
  subst hw1
  refine lv_istore_n (lv' := [(1, .int 0), (0, .ref h0)]) hx hb dX11_infers_4 rfl hl (by decide) rfl (fun ls hl => ?_)
  refine lv_iload_n hx hb dX11_infers_5 rfl (lv_at hl 0 rfl) ?_
  refine lv_iconst (v := (-1)) hx hb dX11_infers_6 (by decide) ?_
  refine lv_icmp_eq (tgt := 14) hx hb dX11_infers_7 (by decide) (fun c9 => absurd c9 (by decide)) (fun _ => ?_)
  refine lv_iconst (v := (-1)) hx hb dX11_infers_10 (by decide) ?_
  refine lv_iload_n hx hb dX11_infers_11 rfl (lv_at hl 0 rfl) ?_
  refine lv_isub hx hb dX11_infers_12 ?_
  refine lv_topi (fun y2 ey2 => ?_)
  have ey2 : y2 = (-1) := ey2.trans (by decide +kernel)
  subst ey2
  have hP9 := hP.sub (ws' := []) [] rfl
  have hD9 := hD.sub (ws' := []) [] (by decide) rfl
  have hK9 := hK.sub (tys' := []) [] rfl
  exact W.iret (v := (-1)) hx hb hr (fun t ht hW => ⟨⟨(-1), (), rfl, rfl, by rw [ht]; exact hP9, va_K.moved hW.alike hK9, hD9⟩, hS.F ht⟩) hS.2.2 dX11_infers_13
set_option maxHeartbeats 4000000 in
set_option maxRecDepth 100000 in
theorem c_X11_defines (l : Launch) (dC : Nat → ClassId) (dI : Nat → Nat → Nat) (sz : Nat) (h0 : Nat) (b1 : Nat) (b2 : Nat) (b3 : Nat) (b4 : Nat) (b5 : Nat) (b6 : Nat) (b7 : Nat) (b8 : Nat) (b9 : Nat) (b10 : Nat) (b11 : Nat) (b12 : Nat) (b13 : Nat) (e1 : Nat) (e2 : Nat) (e3 : Nat) (e4 : Nat) (e5 : Nat) (e6 : Nat) (e7 : Nat) (e8 : Nat) (e9 : Nat) (g0 : Nat → Option Nat) (cA2 : ClassId) (cA3 : ClassId) : Met l yX11_defines (Cond.code yX11_defines cX11_defines 2 (some .int) :: wp) ({ frames := 6, cells := 0, slots := 0, locals := 131 }) (cP dC dI [.ref h0] sz [(h0, .inr (11, [.ref b1, .int 0, .ref b2, .int 0, .int 0, .ref b3, .ref b4, .int 0, .ref b5, .int 0, .int 9, .ref b6, .ref b7, .ref b8, .ref b9, .ref b10, .ref b11, .ref b12, .ref b13])), (b2, .inl (cA2, 10, .inr (.inr (.inr (.inr (va_up (g0) (Int32.toNatClampNeg 9) (some e9))))))), (e9, .inr (0, [.ref e1, .ref e2, .ref e3, .int 0, .ref e4])), (b6, .inr (6, [.ref e5, .ref e6, .ref e7, .null, .int 0])), (e5, .inr (2, [.ref e8, .int 0])), (e8, .inl (cA3, 256, .inl (fun _ => 0)))] [(cA2, .object RX0), (cA3, .int)]) (va_Qi (fun (r : Int32) (_ : Unit) => r = -1) (fun (_ : Unit) t => cB dC dI (va_A [(h0, .inr (11, [.ref b1, .int 0, .ref b2, .int 0, .int 0, .ref b3, .ref b4, .int 0, .ref b5, .int 0, .int 9, .ref b6, .ref b7, .ref b8, .ref b9, .ref b10, .ref b11, .ref b12, .ref b13])), (b2, .inl (cA2, 10, .inr (.inr (.inr (.inr (va_up (g0) (Int32.toNatClampNeg 9) (some e9))))))), (e9, .inr (0, [.ref e1, .ref e2, .ref e3, .int 0, .ref e4])), (b6, .inr (6, [.ref e5, .ref e6, .ref e7, .null, .int 0])), (e5, .inr (2, [.ref e8, .int 0])), (e8, .inl (cA3, 256, .inl (fun _ => 0)))] sz) [] [] t) (va_A [(h0, .inr (11, [.ref b1, .int 0, .ref b2, .int 0, .int 0, .ref b3, .ref b4, .int 0, .ref b5, .int 0, .int 9, .ref b6, .ref b7, .ref b8, .ref b9, .ref b10, .ref b11, .ref b12, .ref b13])), (b2, .inl (cA2, 10, .inr (.inr (.inr (.inr (va_up (g0) (Int32.toNatClampNeg 9) (some e9))))))), (e9, .inr (0, [.ref e1, .ref e2, .ref e3, .int 0, .ref e4])), (b6, .inr (6, [.ref e5, .ref e6, .ref e7, .null, .int 0])), (e5, .inr (2, [.ref e8, .int 0])), (e8, .inl (cA3, 256, .inl (fun _ => 0)))] sz)) 0 0 (va_A [(h0, .inr (11, [.ref b1, .int 0, .ref b2, .int 0, .int 0, .ref b3, .ref b4, .int 0, .ref b5, .int 0, .int 9, .ref b6, .ref b7, .ref b8, .ref b9, .ref b10, .ref b11, .ref b12, .ref b13])), (b2, .inl (cA2, 10, .inr (.inr (.inr (.inr (va_up (g0) (Int32.toNatClampNeg 9) (some e9))))))), (e9, .inr (0, [.ref e1, .ref e2, .ref e3, .int 0, .ref e4])), (b6, .inr (6, [.ref e5, .ref e6, .ref e7, .null, .int 0])), (e5, .inr (2, [.ref e8, .int 0])), (e8, .inl (cA3, 256, .inl (fun _ => 0)))] sz) := by
  refine Met.ofW (cc := cX11_defines) (maxL := 2) (ret := (some .int)) (by decide) rfl ?_
  intro p e s m args below meth c s₁ B hml hv
  obtain ⟨rfl, hsz, hP, hK, hD0, hN⟩ := hv
  have hx := B.exec
  have hb := B.bytes
  have hr := B.returns
  have hts := atoms_spec (ws := Cond.code yX11_defines cX11_defines 2 (some .int) :: wp) B.pre
  have hw : ∀ w ∈ wp, w.before _ s = true := fun w h => hts w (List.mem_cons_of_mem _ h)
  have hown : s.vm.findClass RX11 = some m.cls := findClass_of_methodNamed B.named
  have hlocks := B.notSynchronized
  subst hsz
  have hD := hD0.self (sz := s.heap.size)
  generalize hAe : va_A [(h0, .inr (11, [.ref b1, .int 0, .ref b2, .int 0, .int 0, .ref b3, .ref b4, .int 0, .ref b5, .int 0, .int 9, .ref b6, .ref b7, .ref b8, .ref b9, .ref b10, .ref b11, .ref b12, .ref b13])), (b2, .inl (cA2, 10, .inr (.inr (.inr (.inr (va_up (g0) (Int32.toNatClampNeg 9) (some e9))))))), (e9, .inr (0, [.ref e1, .ref e2, .ref e3, .int 0, .ref e4])), (b6, .inr (6, [.ref e5, .ref e6, .ref e7, .null, .int 0])), (e5, .inr (2, [.ref e8, .int 0])), (e8, .inl (cA3, 256, .inl (fun _ => 0)))] s.heap.size = A at hD ⊢
  have hA : ∀ q : Nat, s.heap.size ≤ q → A q := fun q h => by rw [← hAe]; exact Or.inr h
  have hS : va_S A s.heap s.heap [] := va_S.rf
  have hP : va_P (dC, dI) vwCl [(h0, .inr (11, [.ref b1, .int 0, .ref b2, .int 0, .int 0, .ref b3, .ref b4, .int 0, .ref b5, .int 0, .int 9, .ref b6, .ref b7, .ref b8, .ref b9, .ref b10, .ref b11, .ref b12, .ref b13])), (b2, .inl (cA2, 10, .inr (.inr (.inr (.inr (va_up (g0) (Int32.toNatClampNeg 9) (some e9))))))), (e9, .inr (0, [.ref e1, .ref e2, .ref e3, .int 0, .ref e4])), (b6, .inr (6, [.ref e5, .ref e6, .ref e7, .null, .int 0])), (e5, .inr (2, [.ref e8, .int 0])), (e8, .inl (cA3, 256, .inl (fun _ => 0)))] s.heap := hP
  have hl := lv_entry ([.ref h0]) (n := 2) (Nat.le_of_ble_eq_true rfl)
  rw [lg_entry_eq]
  generalize (lg_sl ([.ref h0]) ++ List.replicate (2 - (lg_sl ([.ref h0])).length) Slot.unset).toArray = ls at hl ⊢
  have hl : lv_has ls 2 [(0, .ref h0)] := hl
  refine lv_aload_n hx hb dX11_defines_0 rfl (lv_at hl 0 rfl) ?_
  have hPc := hP.sub (ws' := [(h0, .inr (11, [.ref b1, .int 0, .ref b2, .int 0, .int 0, .ref b3, .ref b4, .int 0, .ref b5, .int 0, .int 9, .ref b6, .ref b7, .ref b8, .ref b9, .ref b10, .ref b11, .ref b12, .ref b13])), (b2, .inl (cA2, 10, .inr (.inr (.inr (.inr (va_up (g0) (Int32.toNatClampNeg 9) (some e9))))))), (e9, .inr (0, [.ref e1, .ref e2, .ref e3, .int 0, .ref e4])), (b6, .inr (6, [.ref e5, .ref e6, .ref e7, .null, .int 0])), (e5, .inr (2, [.ref e8, .int 0])), (e8, .inl (cA3, 256, .inl (fun _ => 0)))]) [0, 1, 2, 3, 4, 5] rfl
  have hDc := hD.sub (ws' := [(h0, .inr (11, [.ref b1, .int 0, .ref b2, .int 0, .int 0, .ref b3, .ref b4, .int 0, .ref b5, .int 0, .int 9, .ref b6, .ref b7, .ref b8, .ref b9, .ref b10, .ref b11, .ref b12, .ref b13])), (b2, .inl (cA2, 10, .inr (.inr (.inr (.inr (va_up (g0) (Int32.toNatClampNeg 9) (some e9))))))), (e9, .inr (0, [.ref e1, .ref e2, .ref e3, .int 0, .ref e4])), (b6, .inr (6, [.ref e5, .ref e6, .ref e7, .null, .int 0])), (e5, .inr (2, [.ref e8, .int 0])), (e8, .inl (cA3, 256, .inl (fun _ => 0)))]) [0, 1, 2, 3, 4, 5] (by decide) rfl
  have hKc := hK.sub (tys' := [(cA2, .object RX0), (cA3, .int)]) [0, 1] rfl
  have hFc := va_free (wc := [(h0, .inr (11, [.ref b1, .int 0, .ref b2, .int 0, .int 0, .ref b3, .ref b4, .int 0, .ref b5, .int 0, .int 9, .ref b6, .ref b7, .ref b8, .ref b9, .ref b10, .ref b11, .ref b12, .ref b13])), (b2, .inl (cA2, 10, .inr (.inr (.inr (.inr (va_up (g0) (Int32.toNatClampNeg 9) (some e9))))))), (e9, .inr (0, [.ref e1, .ref e2, .ref e3, .int 0, .ref e4])), (b6, .inr (6, [.ref e5, .ref e6, .ref e7, .null, .int 0])), (e5, .inr (2, [.ref e8, .int 0])), (e8, .inl (cA3, 256, .inl (fun _ => 0)))]) hD hS hA [0, 1, 2, 3, 4, 5] rfl
  refine va_calli (va_runV (As := []) (rest := []) ⟨hx, hb, hml, hown, hw⟩ (c_X11_readText l dC dI _ (h0) (b1) (b2) (b3) (b4) (b5) (b6) (b7) (b8) (b9) (b10) (b11) (b12) (b13) (e1) (e2) (e3) (e4) (e5) (e6) (e7) (e8) (e9) (g0) (cA2) (cA3)) (cwV 0 hw (gV q209 q210 q211 q153 q208) rfl rfl rfl (by decide +kernel) ⟨Nat.le_of_ble_eq_true rfl, Nat.le_of_ble_eq_true rfl⟩) ⟨cP_blind, va_recv hKc hPc (ci := 11) (q0 := 0) rfl rfl, cP_pre hPc hKc hDc hN⟩ rfl rfl hl.1 rfl (lv_room (Nat.le_of_ble_eq_true rfl)) dX11_defines_1 ⟨Nat.le_of_ble_eq_true rfl, Nat.le_of_ble_eq_true rfl⟩) hS (fun q _ h => hFc q h) hFc (fun r1 u9 t H1 locs ht hvm hw1 hB hz1 hk1 hS => ?_)
  obtain ⟨hP1, hK1, hD1⟩ := hB
  rw [ht] at hP1
  have hK1 := va_K.moved hvm.symm hK1
  obtain ⟨hP, hD⟩ := va_join (wr := []) (w1 := []) hP hD [0, 1, 2, 3, 4, 5] [] rfl rfl (by decide) (by decide) hk1 hFc hP1 hD1
  have hK := (hK.sub (tys' := []) [] rfl).app hK1
  generalize H1 = H at hP hS ⊢
  have hP : va_P (dC, dI) vwCl [] H := hP
  have hD : va_D A [] := hD
  have hK : va_K (dC, dI) vwCl [] s := hK
  subst hw1
  refine lv_istore_n (lv' := [(1, .int 0), (0, .ref h0)]) hx hb dX11_defines_4 rfl hl (by decide) rfl (fun ls hl => ?_)
  refine lv_iload_n hx hb dX11_defines_5 rfl (lv_at hl 0 rfl) ?_
  refine lv_iconst (v := (-1)) hx hb dX11_defines_6 (by decide) ?_
  refine lv_icmp_eq (tgt := 14) hx hb dX11_defines_7 (by decide) (fun c9 => absurd c9 (by decide)) (fun _ => ?_)
  refine lv_iconst (v := (-1)) hx hb dX11_defines_10 (by decide) ?_
  refine lv_iload_n hx hb dX11_defines_11 rfl (lv_at hl 0 rfl) ?_
  refine lv_isub hx hb dX11_defines_12 ?_
  refine lv_topi (fun y2 ey2 => ?_)
  have ey2 : y2 = (-1) := ey2.trans (by decide +kernel)
  subst ey2
  have hP9 := hP.sub (ws' := []) [] rfl
  have hD9 := hD.sub (ws' := []) [] (by decide) rfl
  have hK9 := hK.sub (tys' := []) [] rfl
  exact W.iret (v := (-1)) hx hb hr (fun t ht hW => ⟨⟨(-1), (), rfl, rfl, by rw [ht]; exact hP9, va_K.moved hW.alike hK9, hD9⟩, hS.F ht⟩) hS.2.2 dX11_defines_13
