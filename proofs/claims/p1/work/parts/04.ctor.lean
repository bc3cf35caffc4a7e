set_option maxHeartbeats 4000000 in
set_option maxRecDepth 100000 in
theorem c_X3_init (l : Launch) (dC : Nat → ClassId) (dI : Nat → Nat → Nat) (sz : Nat) (h0 : Nat) : Met l yX3_init (Cond.code yX3_init cX3_init 1 none :: wp) ({ frames := 1, cells := 3, slots := 183, locals := 12 }) (cP dC dI [.ref h0] sz [(h0, .inr (3, [.null, .int 0, .null, .null, .int 0]))] []) (va_Qv (fun _ : Unit => True) (fun (_ : Unit) t => ∃ b1 : Nat, ∃ b2 : Nat, ∃ b3 : Nat, cB dC dI (va_A [(h0, .inr (3, [.null, .int 0, .null, .null, .int 0]))] sz) [(h0, .inr (3, [.ref b1, .int 0, .ref b2, .ref b3, .int 0]))] [] t) (va_A [(h0, .inr (3, [.null, .int 0, .null, .null, .int 0]))] sz)) 3 183 (va_A [(h0, .inr (3, [.null, .int 0, .null, .null, .int 0]))] sz) := by
  refine Met.ofW (cc := cX3_init) (maxL := 1) (ret := none) (by decide) rfl ?_
  intro p e s m args below meth c s₁ B hml hv
  obtain ⟨rfl, hsz, hP, hK, hD0, hN⟩ := hv
  have hx := B.exec
  have hb := B.bytes
  have hr := B.returns
  have hts := atoms_spec (ws := Cond.code yX3_init cX3_init 1 none :: wp) B.pre
  have hw : ∀ w ∈ wp, w.before _ s = true := fun w h => hts w (List.mem_cons_of_mem _ h)
  have hown : s.vm.findClass RX3 = some m.cls := findClass_of_methodNamed B.named
  have hlocks := B.notSynchronized
  have hin : meth.name = "<init>" := (name_of_methodNamed B.named B.method).1
  subst hsz
  have hD := hD0.self (sz := s.heap.size)
  generalize hAe : va_A [(h0, .inr (3, [.null, .int 0, .null, .null, .int 0]))] s.heap.size = A at hD ⊢
  have hA : ∀ q : Nat, s.heap.size ≤ q → A q := fun q h => by rw [← hAe]; exact Or.inr h
  have hS : va_S A s.heap s.heap [] := va_S.rf
  have hP : va_P (dC, dI) vwCl [(h0, .inr (3, [.null, .int 0, .null, .null, .int 0]))] s.heap := hP
  have hl := lv_entry ([.ref h0]) (n := 1) (Nat.le_of_ble_eq_true rfl)
  rw [lg_entry_eq]
  generalize (lg_sl ([.ref h0]) ++ List.replicate (1 - (lg_sl ([.ref h0])).length) Slot.unset).toArray = ls at hl ⊢
  have hl : lv_has ls 1 [(0, .ref h0)] := hl
  refine lv_aload_n hx hb dX3_init_0 rfl (lv_at hl 0 rfl) ?_
  refine W.objInit hx hb hown (hw _ q0) (hw _ q1) (hw _ q2) rfl (by rw [hml]; exact hl.1) rfl dX3_init_1 (Nat.le_of_ble_eq_true rfl) (Nat.le_of_ble_eq_true rfl) ?_
  refine W.eq (g2 := F0 m 4 ls []) rfl ?_
  refine lv_aload_n hx hb dX3_init_4 rfl (lv_at hl 0 rfl) ?_
  refine lv_bipush (v := 61) hx hb dX3_init_5 (by decide) ?_
  refine va_newa (D := (dC, dI)) (atype := .int) (ty := .int) (a0 := (61, .inl (fun _ => 0))) (N' := 61) hx hb (hw _ q3) rfl hK hP hD hS hA (fun _ => rfl) (by decide) (by decide +kernel) (Nat.le_of_ble_eq_true rfl) (Nat.le_of_ble_eq_true rfl) (Nat.le_of_ble_eq_true rfl) dX3_init_7 (fun z1 cA2 H hK hP hD hS => ?_)
  have hP : va_P (dC, dI) vwCl [(h0, .inr (3, [.null, .int 0, .null, .null, .int 0])), (z1, .inl (cA2, 61, .inl (fun _ => 0)))] H := hP
  have hD : va_D A [(h0, .inr (3, [.null, .int 0, .null, .null, .int 0])), (z1, .inl (cA2, 61, .inl (fun _ => 0)))] := hD
  have hK : va_K (dC, dI) vwCl [(cA2, .int)] s := hK
  refine W.widen (k := 1) (n := 61) (Nat.le_of_ble_eq_true rfl) (Nat.le_of_ble_eq_true rfl) ?_
  refine va_putF (D := (dC, dI)) (ci := 3) (v := .ref z1) (ty := .array .int) (C := RX3) (T := TX3) (N := 5) hx hb hw uX3 tyX3 tyX3_ok nmX3 hown hK hP hD hS 0 rfl rfl 0 (by decide) (hw _ q4) (fun _ h9 => h9) rfl hin rfl (by decide +kernel) rfl rfl (Nat.le_of_ble_eq_true rfl) dX3_init_9 (fun H locs hP hD hS => ?_)
  have hP : va_P (dC, dI) vwCl [(h0, .inr (3, [.ref z1, .int 0, .null, .null, .int 0])), (z1, .inl (cA2, 61, .inl (fun _ => 0)))] H := hP
  have hD : va_D A [(h0, .inr (3, [.ref z1, .int 0, .null, .null, .int 0])), (z1, .inl (cA2, 61, .inl (fun _ => 0)))] := hD
  have hP := hP.sub (ws' := [(h0, .inr (3, [.ref z1, .int 0, .null, .null, .int 0]))]) [0] rfl
  have hD := hD.sub (ws' := [(h0, .inr (3, [.ref z1, .int 0, .null, .null, .int 0]))]) [0] (by decide) rfl
  have hK := hK.sub (tys' := []) [] rfl
  refine lv_aload_n hx hb dX3_init_12 rfl (lv_at hl 0 rfl) ?_
  refine lv_bipush (v := 61) hx hb dX3_init_13 (by decide) ?_
  refine va_newa (D := (dC, dI)) (atype := .int) (ty := .int) (a0 := (61, .inl (fun _ => 0))) (N' := 61) hx hb (hw _ q3) rfl hK hP hD hS hA (fun _ => rfl) (by decide) (by decide +kernel) (Nat.le_of_ble_eq_true rfl) (Nat.le_of_ble_eq_true rfl) (Nat.le_of_ble_eq_true rfl) dX3_init_15 (fun z3 cA4 H hK hP hD hS => ?_)
  have hP : va_P (dC, dI) vwCl [(h0, .inr (3, [.ref z1, .int 0, .null, .null, .int 0])), (z3, .inl (cA4, 61, .inl (fun _ => 0)))] H := hP
  have hD : va_D A [(h0, .inr (3, [.ref z1, .int 0, .null, .null, .int 0])), (z3, .inl (cA4, 61, .inl (fun _ => 0)))] := hD
  have hK : va_K (dC, dI) vwCl [(cA4, .int)] s := hK
  refine W.widen (k := 2) (n := 122) (Nat.le_of_ble_eq_true rfl) (Nat.le_of_ble_eq_true rfl) ?_
  refine va_putF (D := (dC, dI)) (ci := 3) (v := .ref z3) (ty := .array .int) (C := RX3) (T := TX3) (N := 5) hx hb hw uX3 tyX3 tyX3_ok nmX3 hown hK hP hD hS 0 rfl rfl 2 (by decide) (hw _ q5) (fun _ h9 => h9) rfl hin rfl (by decide +kernel) rfl rfl (Nat.le_of_ble_eq_true rfl) dX3_init_17 (fun H locs hP hD hS => ?_)
  have hP : va_P (dC, dI) vwCl [(h0, .inr (3, [.ref z1, .int 0, .ref z3, .null, .int 0])), (z3, .inl (cA4, 61, .inl (fun _ => 0)))] H := hP
  have hD : va_D A [(h0, .inr (3, [.ref z1, .int 0, .ref z3, .null, .int 0])), (z3, .inl (cA4, 61, .inl (fun _ => 0)))] := hD
  have hP := hP.sub (ws' := [(h0, .inr (3, [.ref z1, .int 0, .ref z3, .null, .int 0]))]) [0] rfl
  have hD := hD.sub (ws' := [(h0, .inr (3, [.ref z1, .int 0, .ref z3, .null, .int 0]))]) [0] (by decide) rfl
  have hK := hK.sub (tys' := []) [] rfl
  refine lv_aload_n hx hb dX3_init_20 rfl (lv_at hl 0 rfl) ?_
  refine lv_bipush (v := 61) hx hb dX3_init_21 (by decide) ?_
  refine va_newa (D := (dC, dI)) (atype := .int) (ty := .int) (a0 := (61, .inl (fun _ => 0))) (N' := 61) hx hb (hw _ q3) rfl hK hP hD hS hA (fun _ => rfl) (by decide) (by decide +kernel) (Nat.le_of_ble_eq_true rfl) (Nat.le_of_ble_eq_true rfl) (Nat.le_of_ble_eq_true rfl) dX3_init_23 (fun z5 cA6 H hK hP hD hS => ?_)
  have hP : va_P (dC, dI) vwCl [(h0, .inr (3, [.ref z1, .int 0, .ref z3, .null, .int 0])), (z5, .inl (cA6, 61, .inl (fun _ => 0)))] H := hP
  have hD : va_D A [(h0, .inr (3, [.ref z1, .int 0, .ref z3, .null, .int 0])), (z5, .inl (cA6, 61, .inl (fun _ => 0)))] := hD
  have hK : va_K (dC, dI) vwCl [(cA6, .int)] s := hK
  refine W.widen (k := 3) (n := 183) (Nat.le_of_ble_eq_true rfl) (Nat.le_of_ble_eq_true rfl) ?_
  refine va_putF (D := (dC, dI)) (ci := 3) (v := .ref z5) (ty := .array .int) (C := RX3) (T := TX3) (N := 5) hx hb hw uX3 tyX3 tyX3_ok nmX3 hown hK hP hD hS 0 rfl rfl 3 (by decide) (hw _ q6) (fun _ h9 => h9) rfl hin rfl (by decide +kernel) rfl rfl (Nat.le_of_ble_eq_true rfl) dX3_init_25 (fun H locs hP hD hS => ?_)
  have hP : va_P (dC, dI) vwCl [(h0, .inr (3, [.ref z1, .int 0, .ref z3, .ref z5, .int 0])), (z5, .inl (cA6, 61, .inl (fun _ => 0)))] H := hP
  have hD : va_D A [(h0, .inr (3, [.ref z1, .int 0, .ref z3, .ref z5, .int 0])), (z5, .inl (cA6, 61, .inl (fun _ => 0)))] := hD
  have hP := hP.sub (ws' := [(h0, .inr (3, [.ref z1, .int 0, .ref z3, .ref z5, .int 0]))]) [0] rfl
  have hD := hD.sub (ws' := [(h0, .inr (3, [.ref z1, .int 0, .ref z3, .ref z5, .int 0]))]) [0] (by decide) rfl
  have hK := hK.sub (tys' := []) [] rfl
  have hP9 := hP.sub (ws' := [(h0, .inr (3, [.ref z1, .int 0, .ref z3, .ref z5, .int 0]))]) [0] rfl
  have hD9 := hD.sub (ws' := [(h0, .inr (3, [.ref z1, .int 0, .ref z3, .ref z5, .int 0]))]) [0] (by decide) rfl
  have hK9 := hK.sub (tys' := []) [] rfl
  exact W.vret hx hb hr (fun t ht hW => ⟨⟨(), rfl, trivial, z1, z3, z5, by rw [ht]; exact hP9, va_K.moved hW.alike hK9, hD9⟩, hS.F ht⟩) hS.2.2 dX3_init_28
set_option maxHeartbeats 4000000 in
set_option maxRecDepth 100000 in
theorem c_X2_init (l : Launch) (dC : Nat → ClassId) (dI : Nat → Nat → Nat) (sz : Nat) (h0 : Nat) : Met l yX2_init (Cond.code yX2_init cX2_init 1 none :: wp) ({ frames := 1, cells := 1, slots := 256, locals := 12 }) (cP dC dI [.ref h0] sz [(h0, .inr (2, [.null, .int 0]))] []) (va_Qv (fun _ : Unit => True) (fun (_ : Unit) t => ∃ b1 : Nat, ∃ cA1 : ClassId, cB dC dI (va_A [(h0, .inr (2, [.null, .int 0]))] sz) [(h0, .inr (2, [.ref b1, .int 0])), (b1, .inl (cA1, 256, .inl (fun _ => 0)))] [(cA1, .int)] t) (va_A [(h0, .inr (2, [.null, .int 0]))] sz)) 1 256 (va_A [(h0, .inr (2, [.null, .int 0]))] sz) := by
  refine Met.ofW (cc := cX2_init) (maxL := 1) (ret := none) (by decide) rfl ?_
  intro p e s m args below meth c s₁ B hml hv
  obtain ⟨rfl, hsz, hP, hK, hD0, hN⟩ := hv
  have hx := B.exec
  have hb := B.bytes
  have hr := B.returns
  have hts := atoms_spec (ws := Cond.code yX2_init cX2_init 1 none :: wp) B.pre
  have hw : ∀ w ∈ wp, w.before _ s = true := fun w h => hts w (List.mem_cons_of_mem _ h)
  have hown : s.vm.findClass RX2 = some m.cls := findClass_of_methodNamed B.named
  have hlocks := B.notSynchronized
  have hin : meth.name = "<init>" := (name_of_methodNamed B.named B.method).1
  subst hsz
  have hD := hD0.self (sz := s.heap.size)
  generalize hAe : va_A [(h0, .inr (2, [.null, .int 0]))] s.heap.size = A at hD ⊢
  have hA : ∀ q : Nat, s.heap.size ≤ q → A q := fun q h => by rw [← hAe]; exact Or.inr h
  have hS : va_S A s.heap s.heap [] := va_S.rf
  have hP : va_P (dC, dI) vwCl [(h0, .inr (2, [.null, .int 0]))] s.heap := hP
  have hl := lv_entry ([.ref h0]) (n := 1) (Nat.le_of_ble_eq_true rfl)
  rw [lg_entry_eq]
  generalize (lg_sl ([.ref h0]) ++ List.replicate (1 - (lg_sl ([.ref h0])).length) Slot.unset).toArray = ls at hl ⊢
  have hl : lv_has ls 1 [(0, .ref h0)] := hl
  refine lv_aload_n hx hb dX2_init_0 rfl (lv_at hl 0 rfl) ?_
  refine W.objInit hx hb hown (hw _ q7) (hw _ q1) (hw _ q2) rfl (by rw [hml]; exact hl.1) rfl dX2_init_1 (Nat.le_of_ble_eq_true rfl) (Nat.le_of_ble_eq_true rfl) ?_
  refine W.eq (g2 := F0 m 4 ls []) rfl ?_
  refine lv_aload_n hx hb dX2_init_4 rfl (lv_at hl 0 rfl) ?_
  refine lv_sipush (v := 256) hx hb dX2_init_5 (by decide) ?_
  refine va_newa (D := (dC, dI)) (atype := .int) (ty := .int) (a0 := (256, .inl (fun _ => 0))) (N' := 256) hx hb (hw _ q3) rfl hK hP hD hS hA (fun _ => rfl) (by decide) (by decide +kernel) (Nat.le_of_ble_eq_true rfl) (Nat.le_of_ble_eq_true rfl) (Nat.le_of_ble_eq_true rfl) dX2_init_8 (fun z1 cA2 H hK hP hD hS => ?_)
  have hP : va_P (dC, dI) vwCl [(h0, .inr (2, [.null, .int 0])), (z1, .inl (cA2, 256, .inl (fun _ => 0)))] H := hP
  have hD : va_D A [(h0, .inr (2, [.null, .int 0])), (z1, .inl (cA2, 256, .inl (fun _ => 0)))] := hD
  have hK : va_K (dC, dI) vwCl [(cA2, .int)] s := hK
  refine W.widen (k := 1) (n := 256) (Nat.le_of_ble_eq_true rfl) (Nat.le_of_ble_eq_true rfl) ?_
  refine va_put (D := (dC, dI)) (ci := 2) (v := .ref z1) (ty := .array .int) (C := RX2) (T := TX2) (N := 2) hx hb hw uX2 tyX2 tyX2_ok nmX2 hown hK hP hD hS 0 rfl rfl 0 (by decide) (hw _ q8) (fun _ h9 => h9) rfl (by decide +kernel) rfl rfl (Nat.le_of_ble_eq_true rfl) dX2_init_10 (fun H locs hP hD hS => ?_)
  have hP : va_P (dC, dI) vwCl [(h0, .inr (2, [.ref z1, .int 0])), (z1, .inl (cA2, 256, .inl (fun _ => 0)))] H := hP
  have hD : va_D A [(h0, .inr (2, [.ref z1, .int 0])), (z1, .inl (cA2, 256, .inl (fun _ => 0)))] := hD
  have hP9 := hP.sub (ws' := [(h0, .inr (2, [.ref z1, .int 0])), (z1, .inl (cA2, 256, .inl (fun _ => 0)))]) [0, 1] rfl
  have hD9 := hD.sub (ws' := [(h0, .inr (2, [.ref z1, .int 0])), (z1, .inl (cA2, 256, .inl (fun _ => 0)))]) [0, 1] (by decide) rfl
  have hK9 := hK.sub (tys' := [(cA2, .int)]) [0] rfl
  exact W.vret hx hb hr (fun t ht hW => ⟨⟨(), rfl, trivial, z1, cA2, by rw [ht]; exact hP9, va_K.moved hW.alike hK9, hD9⟩, hS.F ht⟩) hS.2.2 dX2_init_13
set_option maxHeartbeats 4000000 in
set_option maxRecDepth 100000 in
theorem c_X0_init (l : Launch) (dC : Nat → ClassId) (dI : Nat → Nat → Nat) (sz : Nat) (h0 : Nat) : Met l yX0_init (Cond.code yX0_init cX0_init 1 none :: wp) ({ frames := 2, cells := 7, slots := 488, locals := 32 }) (cP dC dI [.ref h0] sz [(h0, .inr (0, [.null, .null, .null, .int 0, .null]))] []) (va_Qv (fun _ : Unit => True) (fun (_ : Unit) t => ∃ b1 : Nat, ∃ b2 : Nat, ∃ b3 : Nat, ∃ b4 : Nat, cB dC dI (va_A [(h0, .inr (0, [.null, .null, .null, .int 0, .null]))] sz) [(h0, .inr (0, [.ref b1, .ref b2, .ref b3, .int 0, .ref b4]))] [] t) (va_A [(h0, .inr (0, [.null, .null, .null, .int 0, .null]))] sz)) 7 488 (va_A [(h0, .inr (0, [.null, .null, .null, .int 0, .null]))] sz) := by
  refine Met.ofW (cc := cX0_init) (maxL := 1) (ret := none) (by decide) rfl ?_
  intro p e s m args below meth c s₁ B hml hv
  obtain ⟨rfl, hsz, hP, hK, hD0, hN⟩ := hv
  have hx := B.exec
  have hb := B.bytes
  have hr := B.returns
  have hts := atoms_spec (ws := Cond.code yX0_init cX0_init 1 none :: wp) B.pre
  have hw : ∀ w ∈ wp, w.before _ s = true := fun w h => hts w (List.mem_cons_of_mem _ h)
  have hown : s.vm.findClass RX0 = some m.cls := findClass_of_methodNamed B.named
  have hlocks := B.notSynchronized
  have hin : meth.name = "<init>" := (name_of_methodNamed B.named B.method).1
  subst hsz
  have hD := hD0.self (sz := s.heap.size)
  generalize hAe : va_A [(h0, .inr (0, [.null, .null, .null, .int 0, .null]))] s.heap.size = A at hD ⊢
  have hA : ∀ q : Nat, s.heap.size ≤ q → A q := fun q h => by rw [← hAe]; exact Or.inr h
  have hS : va_S A s.heap s.heap [] := va_S.rf
  have hP : va_P (dC, dI) vwCl [(h0, .inr (0, [.null, .null, .null, .int 0, .null]))] s.heap := hP
  have hl := lv_entry ([.ref h0]) (n := 1) (Nat.le_of_ble_eq_true rfl)
  rw [lg_entry_eq]
  generalize (lg_sl ([.ref h0]) ++ List.replicate (1 - (lg_sl ([.ref h0])).length) Slot.unset).toArray = ls at hl ⊢
  have hl : lv_has ls 1 [(0, .ref h0)] := hl
  refine lv_aload_n hx hb dX0_init_0 rfl (lv_at hl 0 rfl) ?_
  refine W.objInit hx hb hown (hw _ q9) (hw _ q1) (hw _ q2) rfl (by rw [hml]; exact hl.1) rfl dX0_init_1 (Nat.le_of_ble_eq_true rfl) (Nat.le_of_ble_eq_true rfl) ?_
  refine W.eq (g2 := F0 m 4 ls []) rfl ?_
  refine lv_aload_n hx hb dX0_init_4 rfl (lv_at hl 0 rfl) ?_
  refine lv_bipush (v := 100) hx hb dX0_init_5 (by decide) ?_
  refine va_newa (D := (dC, dI)) (atype := .int) (ty := .int) (a0 := (100, .inl (fun _ => 0))) (N' := 100) hx hb (hw _ q3) rfl hK hP hD hS hA (fun _ => rfl) (by decide) (by decide +kernel) (Nat.le_of_ble_eq_true rfl) (Nat.le_of_ble_eq_true rfl) (Nat.le_of_ble_eq_true rfl) dX0_init_7 (fun z1 cA2 H hK hP hD hS => ?_)
  have hP : va_P (dC, dI) vwCl [(h0, .inr (0, [.null, .null, .null, .int 0, .null])), (z1, .inl (cA2, 100, .inl (fun _ => 0)))] H := hP
  have hD : va_D A [(h0, .inr (0, [.null, .null, .null, .int 0, .null])), (z1, .inl (cA2, 100, .inl (fun _ => 0)))] := hD
  have hK : va_K (dC, dI) vwCl [(cA2, .int)] s := hK
  refine W.widen (k := 1) (n := 100) (Nat.le_of_ble_eq_true rfl) (Nat.le_of_ble_eq_true rfl) ?_
  refine va_putF (D := (dC, dI)) (ci := 0) (v := .ref z1) (ty := .array .int) (C := RX0) (T := TX0) (N := 5) hx hb hw uX0 tyX0 tyX0_ok nmX0 hown hK hP hD hS 0 rfl rfl 0 (by decide) (hw _ q10) (fun _ h9 => h9) rfl hin rfl (by decide +kernel) rfl rfl (Nat.le_of_ble_eq_true rfl) dX0_init_9 (fun H locs hP hD hS => ?_)
  have hP : va_P (dC, dI) vwCl [(h0, .inr (0, [.ref z1, .null, .null, .int 0, .null])), (z1, .inl (cA2, 100, .inl (fun _ => 0)))] H := hP
  have hD : va_D A [(h0, .inr (0, [.ref z1, .null, .null, .int 0, .null])), (z1, .inl (cA2, 100, .inl (fun _ => 0)))] := hD
  have hP := hP.sub (ws' := [(h0, .inr (0, [.ref z1, .null, .null, .int 0, .null]))]) [0] rfl
  have hD := hD.sub (ws' := [(h0, .inr (0, [.ref z1, .null, .null, .int 0, .null]))]) [0] (by decide) rfl
  have hK := hK.sub (tys' := []) [] rfl
  refine lv_aload_n hx hb dX0_init_12 rfl (lv_at hl 0 rfl) ?_
  refine lv_bipush (v := 100) hx hb dX0_init_13 (by decide) ?_
  refine va_newa (D := (dC, dI)) (atype := .int) (ty := .int) (a0 := (100, .inl (fun _ => 0))) (N' := 100) hx hb (hw _ q3) rfl hK hP hD hS hA (fun _ => rfl) (by decide) (by decide +kernel) (Nat.le_of_ble_eq_true rfl) (Nat.le_of_ble_eq_true rfl) (Nat.le_of_ble_eq_true rfl) dX0_init_15 (fun z3 cA4 H hK hP hD hS => ?_)
  have hP : va_P (dC, dI) vwCl [(h0, .inr (0, [.ref z1, .null, .null, .int 0, .null])), (z3, .inl (cA4, 100, .inl (fun _ => 0)))] H := hP
  have hD : va_D A [(h0, .inr (0, [.ref z1, .null, .null, .int 0, .null])), (z3, .inl (cA4, 100, .inl (fun _ => 0)))] := hD
  have hK : va_K (dC, dI) vwCl [(cA4, .int)] s := hK
  refine W.widen (k := 2) (n := 200) (Nat.le_of_ble_eq_true rfl) (Nat.le_of_ble_eq_true rfl) ?_
  refine va_putF (D := (dC, dI)) (ci := 0) (v := .ref z3) (ty := .array .int) (C := RX0) (T := TX0) (N := 5) hx hb hw uX0 tyX0 tyX0_ok nmX0 hown hK hP hD hS 0 rfl rfl 1 (by decide) (hw _ q11) (fun _ h9 => h9) rfl hin rfl (by decide +kernel) rfl rfl (Nat.le_of_ble_eq_true rfl) dX0_init_17 (fun H locs hP hD hS => ?_)
  have hP : va_P (dC, dI) vwCl [(h0, .inr (0, [.ref z1, .ref z3, .null, .int 0, .null])), (z3, .inl (cA4, 100, .inl (fun _ => 0)))] H := hP
  have hD : va_D A [(h0, .inr (0, [.ref z1, .ref z3, .null, .int 0, .null])), (z3, .inl (cA4, 100, .inl (fun _ => 0)))] := hD
  have hP := hP.sub (ws' := [(h0, .inr (0, [.ref z1, .ref z3, .null, .int 0, .null]))]) [0] rfl
  have hD := hD.sub (ws' := [(h0, .inr (0, [.ref z1, .ref z3, .null, .int 0, .null]))]) [0] (by decide) rfl
  have hK := hK.sub (tys' := []) [] rfl
  refine lv_aload_n hx hb dX0_init_20 rfl (lv_at hl 0 rfl) ?_
  refine lv_bipush (v := 100) hx hb dX0_init_21 (by decide) ?_
  refine va_newa (D := (dC, dI)) (atype := .int) (ty := .int) (a0 := (100, .inl (fun _ => 0))) (N' := 100) hx hb (hw _ q3) rfl hK hP hD hS hA (fun _ => rfl) (by decide) (by decide +kernel) (Nat.le_of_ble_eq_true rfl) (Nat.le_of_ble_eq_true rfl) (Nat.le_of_ble_eq_true rfl) dX0_init_23 (fun z5 cA6 H hK hP hD hS => ?_)
  have hP : va_P (dC, dI) vwCl [(h0, .inr (0, [.ref z1, .ref z3, .null, .int 0, .null])), (z5, .inl (cA6, 100, .inl (fun _ => 0)))] H := hP
  have hD : va_D A [(h0, .inr (0, [.ref z1, .ref z3, .null, .int 0, .null])), (z5, .inl (cA6, 100, .inl (fun _ => 0)))] := hD
  have hK : va_K (dC, dI) vwCl [(cA6, .int)] s := hK
  refine W.widen (k := 3) (n := 300) (Nat.le_of_ble_eq_true rfl) (Nat.le_of_ble_eq_true rfl) ?_
  refine va_putF (D := (dC, dI)) (ci := 0) (v := .ref z5) (ty := .array .int) (C := RX0) (T := TX0) (N := 5) hx hb hw uX0 tyX0 tyX0_ok nmX0 hown hK hP hD hS 0 rfl rfl 2 (by decide) (hw _ q12) (fun _ h9 => h9) rfl hin rfl (by decide +kernel) rfl rfl (Nat.le_of_ble_eq_true rfl) dX0_init_25 (fun H locs hP hD hS => ?_)
  have hP : va_P (dC, dI) vwCl [(h0, .inr (0, [.ref z1, .ref z3, .ref z5, .int 0, .null])), (z5, .inl (cA6, 100, .inl (fun _ => 0)))] H := hP
  have hD : va_D A [(h0, .inr (0, [.ref z1, .ref z3, .ref z5, .int 0, .null])), (z5, .inl (cA6, 100, .inl (fun _ => 0)))] := hD
  have hP := hP.sub (ws' := [(h0, .inr (0, [.ref z1, .ref z3, .ref z5, .int 0, .null]))]) [0] rfl
  have hD := hD.sub (ws' := [(h0, .inr (0, [.ref z1, .ref z3, .ref z5, .int 0, .null]))]) [0] (by decide) rfl
  have hK := hK.sub (tys' := []) [] rfl
  refine lv_aload_n hx hb dX0_init_28 rfl (lv_at hl 0 rfl) ?_
  refine va_new (D := (dC, dI)) (ci := 3) (fs := [.null, .int 0, .null, .null, .int 0]) (C := RX3) (T := TX3) (N := 5) hx hb hw uX3 tyX3 tyX3_ok hown (hw _ q13) (hw _ q14) (hw _ q15) hK hP hD hS hA rfl (by decide +kernel) (Nat.le_of_ble_eq_true rfl) (Nat.le_of_ble_eq_true rfl) dX0_init_29 (fun z7 H hP hD hS => ?_)
  have hP : va_P (dC, dI) vwCl [(h0, .inr (0, [.ref z1, .ref z3, .ref z5, .int 0, .null])), (z7, .inr (3, [.null, .int 0, .null, .null, .int 0]))] H := hP
  have hD : va_D A [(h0, .inr (0, [.ref z1, .ref z3, .ref z5, .int 0, .null])), (z7, .inr (3, [.null, .int 0, .null, .null, .int 0]))] := hD
  refine W.widen (k := 4) (n := 305) (Nat.le_of_ble_eq_true rfl) (Nat.le_of_ble_eq_true rfl) ?_
  refine lv_dup hx hb dX0_init_32 rfl ?_
  have hPc := hP.sub (ws' := [(z7, .inr (3, [.null, .int 0, .null, .null, .int 0]))]) [1] rfl
  have hDc := hD.sub (ws' := [(z7, .inr (3, [.null, .int 0, .null, .null, .int 0]))]) [1] (by decide) rfl
  have hKc := hK.sub (tys' := []) [] rfl
  have hFc := va_free (wc := [(z7, .inr (3, [.null, .int 0, .null, .null, .int 0]))]) hD hS hA [1] rfl
  refine va_callv (va_runIN (As := []) (rest := [.ref z7, .ref h0]) ⟨hx, hb, hml, hown, hw⟩ (c_X3_init l dC dI _ (z7)) ⟨va_cnB 0 hw (gB q16) rfl rfl rfl (nn0 hN) (hw _ q15) (by decide +kernel) ⟨Nat.le_of_ble_eq_true rfl, Nat.le_of_ble_eq_true rfl⟩, rfl, hw _ q17⟩ ⟨cP_blind, cP_pre hPc hKc hDc hN⟩ rfl rfl hl.1 rfl (lv_room (Nat.le_of_ble_eq_true rfl)) dX0_init_33 ⟨Nat.le_of_ble_eq_true rfl, Nat.le_of_ble_eq_true rfl⟩) hS (fun q _ h => hFc q h) hFc (fun u9 t H1 locs ht hvm hw1 hB hz1 hk1 hS => ?_)
  obtain ⟨b1_9, b2_10, b3_11, hP1, hK1, hD1⟩ := hB
  rw [ht] at hP1
  have hK1 := va_K.moved hvm.symm hK1
  obtain ⟨hP, hD⟩ := va_join (wr := [(h0, .inr (0, [.ref z1, .ref z3, .ref z5, .int 0, .null]))]) (w1 := [(z7, .inr (3, [.ref b1_9, .int 0, .ref b2_10, .ref b3_11, .int 0]))]) hP hD [1] [0] rfl rfl (by decide) (by decide) hk1 hFc hP1 hD1
  have hK := (hK.sub (tys' := []) [] rfl).app hK1
  generalize H1 = H at hP hS ⊢
  have hP : va_P (dC, dI) vwCl [(h0, .inr (0, [.ref z1, .ref z3, .ref z5, .int 0, .null])), (z7, .inr (3, [.ref b1_9, .int 0, .ref b2_10, .ref b3_11, .int 0]))] H := hP
  have hD : va_D A [(h0, .inr (0, [.ref z1, .ref z3, .ref z5, .int 0, .null])), (z7, .inr (3, [.ref b1_9, .int 0, .ref b2_10, .ref b3_11, .int 0]))] := hD
  have hK : va_K (dC, dI) vwCl [] s := hK
  refine W.widen (k := 7) (n := 488) (Nat.le_of_ble_eq_true rfl) (Nat.le_of_ble_eq_true rfl) ?_
  refine va_putF (D := (dC, dI)) (ci := 0) (v := .ref z7) (ty := .object "RowTypes$Kept") (C := RX0) (T := TX0) (N := 5) hx hb hw uX0 tyX0 tyX0_ok nmX0 hown hK hP hD hS 0 rfl rfl 4 (by decide) (hw _ q18) (fun _ h9 => h9) rfl hin rfl (by decide +kernel) rfl rfl (Nat.le_of_ble_eq_true rfl) dX0_init_36 (fun H locs hP hD hS => ?_)
  have hP : va_P (dC, dI) vwCl [(h0, .inr (0, [.ref z1, .ref z3, .ref z5, .int 0, .ref z7])), (z7, .inr (3, [.ref b1_9, .int 0, .ref b2_10, .ref b3_11, .int 0]))] H := hP
  have hD : va_D A [(h0, .inr (0, [.ref z1, .ref z3, .ref z5, .int 0, .ref z7])), (z7, .inr (3, [.ref b1_9, .int 0, .ref b2_10, .ref b3_11, .int 0]))] := hD
  have hP := hP.sub (ws' := [(h0, .inr (0, [.ref z1, .ref z3, .ref z5, .int 0, .ref z7]))]) [0] rfl
  have hD := hD.sub (ws' := [(h0, .inr (0, [.ref z1, .ref z3, .ref z5, .int 0, .ref z7]))]) [0] (by decide) rfl
  have hK := hK.sub (tys' := []) [] rfl
  have hP9 := hP.sub (ws' := [(h0, .inr (0, [.ref z1, .ref z3, .ref z5, .int 0, .ref z7]))]) [0] rfl
  have hD9 := hD.sub (ws' := [(h0, .inr (0, [.ref z1, .ref z3, .ref z5, .int 0, .ref z7]))]) [0] (by decide) rfl
  have hK9 := hK.sub (tys' := []) [] rfl
  exact W.vret hx hb hr (fun t ht hW => ⟨⟨(), rfl, trivial, z1, z3, z5, z7, by rw [ht]; exact hP9, va_K.moved hW.alike hK9, hD9⟩, hS.F ht⟩) hS.2.2 dX0_init_39
set_option maxHeartbeats 4000000 in
set_option maxRecDepth 100000 in
theorem c_X6_init (l : Launch) (dC : Nat → ClassId) (dI : Nat → Nat → Nat) (sz : Nat) (h0 : Nat) : Met l yX6_init (Cond.code yX6_init cX6_init 1 none :: wp) ({ frames := 2, cells := 4, slots := 458, locals := 32 }) (cP dC dI [.ref h0] sz [(h0, .inr (6, [.null, .null, .null, .null, .int 0]))] []) (va_Qv (fun _ : Unit => True) (fun (_ : Unit) t => ∃ b1 : Nat, ∃ b2 : Nat, ∃ b3 : Nat, ∃ b4 : Nat, ∃ cA1 : ClassId, cB dC dI (va_A [(h0, .inr (6, [.null, .null, .null, .null, .int 0]))] sz) [(h0, .inr (6, [.ref b1, .ref b2, .ref b3, .null, .int 0])), (b1, .inr (2, [.ref b4, .int 0])), (b4, .inl (cA1, 256, .inl (fun _ => 0)))] [(cA1, .int)] t) (va_A [(h0, .inr (6, [.null, .null, .null, .null, .int 0]))] sz)) 4 458 (va_A [(h0, .inr (6, [.null, .null, .null, .null, .int 0]))] sz) := by
  refine Met.ofW (cc := cX6_init) (maxL := 1) (ret := none) (by decide) rfl ?_
  intro p e s m args below meth c s₁ B hml hv
  obtain ⟨rfl, hsz, hP, hK, hD0, hN⟩ := hv
  have hx := B.exec
  have hb := B.bytes
  have hr := B.returns
  have hts := atoms_spec (ws := Cond.code yX6_init cX6_init 1 none :: wp) B.pre
  have hw : ∀ w ∈ wp, w.before _ s = true := fun w h => hts w (List.mem_cons_of_mem _ h)
  have hown : s.vm.findClass RX6 = some m.cls := findClass_of_methodNamed B.named
  have hlocks := B.notSynchronized
  have hin : meth.name = "<init>" := (name_of_methodNamed B.named B.method).1
  subst hsz
  have hD := hD0.self (sz := s.heap.size)
  generalize hAe : va_A [(h0, .inr (6, [.null, .null, .null, .null, .int 0]))] s.heap.size = A at hD ⊢
  have hA : ∀ q : Nat, s.heap.size ≤ q → A q := fun q h => by rw [← hAe]; exact Or.inr h
  have hS : va_S A s.heap s.heap [] := va_S.rf
  have hP : va_P (dC, dI) vwCl [(h0, .inr (6, [.null, .null, .null, .null, .int 0]))] s.heap := hP
  have hl := lv_entry ([.ref h0]) (n := 1) (Nat.le_of_ble_eq_true rfl)
  rw [lg_entry_eq]
  generalize (lg_sl ([.ref h0]) ++ List.replicate (1 - (lg_sl ([.ref h0])).length) Slot.unset).toArray = ls at hl ⊢
  have hl : lv_has ls 1 [(0, .ref h0)] := hl
  refine lv_aload_n hx hb dX6_init_0 rfl (lv_at hl 0 rfl) ?_
  refine W.objInit hx hb hown (hw _ q19) (hw _ q1) (hw _ q2) rfl (by rw [hml]; exact hl.1) rfl dX6_init_1 (Nat.le_of_ble_eq_true rfl) (Nat.le_of_ble_eq_true rfl) ?_
  refine W.eq (g2 := F0 m 4 ls []) rfl ?_
  refine lv_aload_n hx hb dX6_init_4 rfl (lv_at hl 0 rfl) ?_
  refine va_new (D := (dC, dI)) (ci := 2) (fs := [.null, .int 0]) (C := RX2) (T := TX2) (N := 2) hx hb hw uX2 tyX2 tyX2_ok hown (hw _ q20) (hw _ q21) (hw _ q22) hK hP hD hS hA rfl (by decide +kernel) (Nat.le_of_ble_eq_true rfl) (Nat.le_of_ble_eq_true rfl) dX6_init_5 (fun z1 H hP hD hS => ?_)
  have hP : va_P (dC, dI) vwCl [(h0, .inr (6, [.null, .null, .null, .null, .int 0])), (z1, .inr (2, [.null, .int 0]))] H := hP
  have hD : va_D A [(h0, .inr (6, [.null, .null, .null, .null, .int 0])), (z1, .inr (2, [.null, .int 0]))] := hD
  refine W.widen (k := 1) (n := 2) (Nat.le_of_ble_eq_true rfl) (Nat.le_of_ble_eq_true rfl) ?_
  refine lv_dup hx hb dX6_init_8 rfl ?_
  have hPc := hP.sub (ws' := [(z1, .inr (2, [.null, .int 0]))]) [1] rfl
  have hDc := hD.sub (ws' := [(z1, .inr (2, [.null, .int 0]))]) [1] (by decide) rfl
  have hKc := hK.sub (tys' := []) [] rfl
  have hFc := va_free (wc := [(z1, .inr (2, [.null, .int 0]))]) hD hS hA [1] rfl
  refine va_callv (va_runIN (As := []) (rest := [.ref z1, .ref h0]) ⟨hx, hb, hml, hown, hw⟩ (c_X2_init l dC dI _ (z1)) ⟨va_cnB 0 hw (gB q23) rfl rfl rfl (nn1 hN) (hw _ q22) (by decide +kernel) ⟨Nat.le_of_ble_eq_true rfl, Nat.le_of_ble_eq_true rfl⟩, rfl, hw _ q24⟩ ⟨cP_blind, cP_pre hPc hKc hDc hN⟩ rfl rfl hl.1 rfl (lv_room (Nat.le_of_ble_eq_true rfl)) dX6_init_9 ⟨Nat.le_of_ble_eq_true rfl, Nat.le_of_ble_eq_true rfl⟩) hS (fun q _ h => hFc q h) hFc (fun u9 t H1 locs ht hvm hw1 hB hz1 hk1 hS => ?_)
  obtain ⟨b1_3, cA1_4, hP1, hK1, hD1⟩ := hB
  rw [ht] at hP1
  have hK1 := va_K.moved hvm.symm hK1
  obtain ⟨hP, hD⟩ := va_join (wr := [(h0, .inr (6, [.null, .null, .null, .null, .int 0]))]) (w1 := [(z1, .inr (2, [.ref b1_3, .int 0])), (b1_3, .inl (cA1_4, 256, .inl (fun _ => 0)))]) hP hD [1] [0] rfl rfl (by decide) (by decide) hk1 hFc hP1 hD1
  have hK := (hK.sub (tys' := []) [] rfl).app hK1
  generalize H1 = H at hP hS ⊢
  have hP : va_P (dC, dI) vwCl [(h0, .inr (6, [.null, .null, .null, .null, .int 0])), (z1, .inr (2, [.ref b1_3, .int 0])), (b1_3, .inl (cA1_4, 256, .inl (fun _ => 0)))] H := hP
  have hD : va_D A [(h0, .inr (6, [.null, .null, .null, .null, .int 0])), (z1, .inr (2, [.ref b1_3, .int 0])), (b1_3, .inl (cA1_4, 256, .inl (fun _ => 0)))] := hD
  have hK : va_K (dC, dI) vwCl [(cA1_4, .int)] s := hK
  refine W.widen (k := 2) (n := 258) (Nat.le_of_ble_eq_true rfl) (Nat.le_of_ble_eq_true rfl) ?_
  refine va_putF (D := (dC, dI)) (ci := 6) (v := .ref z1) (ty := .object "RowTypes$Ints") (C := RX6) (T := TX6) (N := 5) hx hb hw uX6 tyX6 tyX6_ok nmX6 hown hK hP hD hS 0 rfl rfl 0 (by decide) (hw _ q25) (fun _ h9 => h9) rfl hin rfl (by decide +kernel) rfl rfl (Nat.le_of_ble_eq_true rfl) dX6_init_12 (fun H locs hP hD hS => ?_)
  have hP : va_P (dC, dI) vwCl [(h0, .inr (6, [.ref z1, .null, .null, .null, .int 0])), (z1, .inr (2, [.ref b1_3, .int 0])), (b1_3, .inl (cA1_4, 256, .inl (fun _ => 0)))] H := hP
  have hD : va_D A [(h0, .inr (6, [.ref z1, .null, .null, .null, .int 0])), (z1, .inr (2, [.ref b1_3, .int 0])), (b1_3, .inl (cA1_4, 256, .inl (fun _ => 0)))] := hD
  refine lv_aload_n hx hb dX6_init_15 rfl (lv_at hl 0 rfl) ?_
  refine lv_bipush (v := 100) hx hb dX6_init_16 (by decide) ?_
  refine va_newa (D := (dC, dI)) (atype := .int) (ty := .int) (a0 := (100, .inl (fun _ => 0))) (N' := 100) hx hb (hw _ q3) rfl hK hP hD hS hA (fun _ => rfl) (by decide) (by decide +kernel) (Nat.le_of_ble_eq_true rfl) (Nat.le_of_ble_eq_true rfl) (Nat.le_of_ble_eq_true rfl) dX6_init_18 (fun z5 cA6 H hK hP hD hS => ?_)
  have hP : va_P (dC, dI) vwCl [(h0, .inr (6, [.ref z1, .null, .null, .null, .int 0])), (z1, .inr (2, [.ref b1_3, .int 0])), (b1_3, .inl (cA1_4, 256, .inl (fun _ => 0))), (z5, .inl (cA6, 100, .inl (fun _ => 0)))] H := hP
  have hD : va_D A [(h0, .inr (6, [.ref z1, .null, .null, .null, .int 0])), (z1, .inr (2, [.ref b1_3, .int 0])), (b1_3, .inl (cA1_4, 256, .inl (fun _ => 0))), (z5, .inl (cA6, 100, .inl (fun _ => 0)))] := hD
  have hK : va_K (dC, dI) vwCl [(cA1_4, .int), (cA6, .int)] s := hK
  refine W.widen (k := 3) (n := 358) (Nat.le_of_ble_eq_true rfl) (Nat.le_of_ble_eq_true rfl) ?_
  refine va_putF (D := (dC, dI)) (ci := 6) (v := .ref z5) (ty := .array .int) (C := RX6) (T := TX6) (N := 5) hx hb hw uX6 tyX6 tyX6_ok nmX6 hown hK hP hD hS 0 rfl rfl 1 (by decide) (hw _ q26) (fun _ h9 => h9) rfl hin rfl (by decide +kernel) rfl rfl (Nat.le_of_ble_eq_true rfl) dX6_init_20 (fun H locs hP hD hS => ?_)
  have hP : va_P (dC, dI) vwCl [(h0, .inr (6, [.ref z1, .ref z5, .null, .null, .int 0])), (z1, .inr (2, [.ref b1_3, .int 0])), (b1_3, .inl (cA1_4, 256, .inl (fun _ => 0))), (z5, .inl (cA6, 100, .inl (fun _ => 0)))] H := hP
  have hD : va_D A [(h0, .inr (6, [.ref z1, .ref z5, .null, .null, .int 0])), (z1, .inr (2, [.ref b1_3, .int 0])), (b1_3, .inl (cA1_4, 256, .inl (fun _ => 0))), (z5, .inl (cA6, 100, .inl (fun _ => 0)))] := hD
  have hP := hP.sub (ws' := [(h0, .inr (6, [.ref z1, .ref z5, .null, .null, .int 0])), (z1, .inr (2, [.ref b1_3, .int 0])), (b1_3, .inl (cA1_4, 256, .inl (fun _ => 0)))]) [0, 1, 2] rfl
  have hD := hD.sub (ws' := [(h0, .inr (6, [.ref z1, .ref z5, .null, .null, .int 0])), (z1, .inr (2, [.ref b1_3, .int 0])), (b1_3, .inl (cA1_4, 256, .inl (fun _ => 0)))]) [0, 1, 2] (by decide) rfl
  have hK := hK.sub (tys' := [(cA1_4, .int)]) [0] rfl
  refine lv_aload_n hx hb dX6_init_23 rfl (lv_at hl 0 rfl) ?_
  refine lv_bipush (v := 100) hx hb dX6_init_24 (by decide) ?_
  refine va_newa (D := (dC, dI)) (atype := .int) (ty := .int) (a0 := (100, .inl (fun _ => 0))) (N' := 100) hx hb (hw _ q3) rfl hK hP hD hS hA (fun _ => rfl) (by decide) (by decide +kernel) (Nat.le_of_ble_eq_true rfl) (Nat.le_of_ble_eq_true rfl) (Nat.le_of_ble_eq_true rfl) dX6_init_26 (fun z7 cA8 H hK hP hD hS => ?_)
  have hP : va_P (dC, dI) vwCl [(h0, .inr (6, [.ref z1, .ref z5, .null, .null, .int 0])), (z1, .inr (2, [.ref b1_3, .int 0])), (b1_3, .inl (cA1_4, 256, .inl (fun _ => 0))), (z7, .inl (cA8, 100, .inl (fun _ => 0)))] H := hP
  have hD : va_D A [(h0, .inr (6, [.ref z1, .ref z5, .null, .null, .int 0])), (z1, .inr (2, [.ref b1_3, .int 0])), (b1_3, .inl (cA1_4, 256, .inl (fun _ => 0))), (z7, .inl (cA8, 100, .inl (fun _ => 0)))] := hD
  have hK : va_K (dC, dI) vwCl [(cA1_4, .int), (cA8, .int)] s := hK
  refine W.widen (k := 4) (n := 458) (Nat.le_of_ble_eq_true rfl) (Nat.le_of_ble_eq_true rfl) ?_
  refine va_putF (D := (dC, dI)) (ci := 6) (v := .ref z7) (ty := .array .int) (C := RX6) (T := TX6) (N := 5) hx hb hw uX6 tyX6 tyX6_ok nmX6 hown hK hP hD hS 0 rfl rfl 2 (by decide) (hw _ q27) (fun _ h9 => h9) rfl hin rfl (by decide +kernel) rfl rfl (Nat.le_of_ble_eq_true rfl) dX6_init_28 (fun H locs hP hD hS => ?_)
  have hP : va_P (dC, dI) vwCl [(h0, .inr (6, [.ref z1, .ref z5, .ref z7, .null, .int 0])), (z1, .inr (2, [.ref b1_3, .int 0])), (b1_3, .inl (cA1_4, 256, .inl (fun _ => 0))), (z7, .inl (cA8, 100, .inl (fun _ => 0)))] H := hP
  have hD : va_D A [(h0, .inr (6, [.ref z1, .ref z5, .ref z7, .null, .int 0])), (z1, .inr (2, [.ref b1_3, .int 0])), (b1_3, .inl (cA1_4, 256, .inl (fun _ => 0))), (z7, .inl (cA8, 100, .inl (fun _ => 0)))] := hD
  have hP := hP.sub (ws' := [(h0, .inr (6, [.ref z1, .ref z5, .ref z7, .null, .int 0])), (z1, .inr (2, [.ref b1_3, .int 0])), (b1_3, .inl (cA1_4, 256, .inl (fun _ => 0)))]) [0, 1, 2] rfl
  have hD := hD.sub (ws' := [(h0, .inr (6, [.ref z1, .ref z5, .ref z7, .null, .int 0])), (z1, .inr (2, [.ref b1_3, .int 0])), (b1_3, .inl (cA1_4, 256, .inl (fun _ => 0)))]) [0, 1, 2] (by decide) rfl
  have hK := hK.sub (tys' := [(cA1_4, .int)]) [0] rfl
  have hP9 := hP.sub (ws' := [(h0, .inr (6, [.ref z1, .ref z5, .ref z7, .null, .int 0])), (z1, .inr (2, [.ref b1_3, .int 0])), (b1_3, .inl (cA1_4, 256, .inl (fun _ => 0)))]) [0, 1, 2] rfl
  have hD9 := hD.sub (ws' := [(h0, .inr (6, [.ref z1, .ref z5, .ref z7, .null, .int 0])), (z1, .inr (2, [.ref b1_3, .int 0])), (b1_3, .inl (cA1_4, 256, .inl (fun _ => 0)))]) [0, 1, 2] (by decide) rfl
  have hK9 := hK.sub (tys' := [(cA1_4, .int)]) [0] rfl
  exact W.vret hx hb hr (fun t ht hW => ⟨⟨(), rfl, trivial, z1, z5, z7, b1_3, cA1_4, by rw [ht]; exact hP9, va_K.moved hW.alike hK9, hD9⟩, hS.F ht⟩) hS.2.2 dX6_init_31
set_option maxHeartbeats 4000000 in
set_option maxRecDepth 100000 in
theorem c_X5_init (l : Launch) (dC : Nat → ClassId) (dI : Nat → Nat → Nat) (sz : Nat) (h0 : Nat) : Met l yX5_init (Cond.code yX5_init cX5_init 1 none :: wp) ({ frames := 2, cells := 11, slots := 6479, locals := 32 }) (cP dC dI [.ref h0] sz [(h0, .inr (5, [.null, .null, .null, .null, .null, .null, .int 0, .int 0, .null, .null, .null, .null]))] []) (va_Qv (fun _ : Unit => True) (fun (_ : Unit) t => cB dC dI (va_A [(h0, .inr (5, [.null, .null, .null, .null, .null, .null, .int 0, .int 0, .null, .null, .null, .null]))] sz) [] [] t) (va_A [(h0, .inr (5, [.null, .null, .null, .null, .null, .null, .int 0, .int 0, .null, .null, .null, .null]))] sz)) 11 6479 (va_A [(h0, .inr (5, [.null, .null, .null, .null, .null, .null, .int 0, .int 0, .null, .null, .null, .null]))] sz) := by
  refine Met.ofW (cc := cX5_init) (maxL := 1) (ret := none) (by decide) rfl ?_
  intro p e s m args below meth c s₁ B hml hv
  obtain ⟨rfl, hsz, hP, hK, hD0, hN⟩ := hv
  have hx := B.exec
  have hb := B.bytes
  have hr := B.returns
  have hts := atoms_spec (ws := Cond.code yX5_init cX5_init 1 none :: wp) B.pre
  have hw : ∀ w ∈ wp, w.before _ s = true := fun w h => hts w (List.mem_cons_of_mem _ h)
  have hown : s.vm.findClass RX5 = some m.cls := findClass_of_methodNamed B.named
  have hlocks := B.notSynchronized
  have hin : meth.name = "<init>" := (name_of_methodNamed B.named B.method).1
  subst hsz
  have hD := hD0.self (sz := s.heap.size)
  generalize hAe : va_A [(h0, .inr (5, [.null, .null, .null, .null, .null, .null, .int 0, .int 0, .null, .null, .null, .null]))] s.heap.size = A at hD ⊢
  have hA : ∀ q : Nat, s.heap.size ≤ q → A q := fun q h => by rw [← hAe]; exact Or.inr h
  have hS : va_S A s.heap s.heap [] := va_S.rf
  have hP : va_P (dC, dI) vwCl [(h0, .inr (5, [.null, .null, .null, .null, .null, .null, .int 0, .int 0, .null, .null, .null, .null]))] s.heap := hP
  have hl := lv_entry ([.ref h0]) (n := 1) (Nat.le_of_ble_eq_true rfl)
  rw [lg_entry_eq]
  generalize (lg_sl ([.ref h0]) ++ List.replicate (1 - (lg_sl ([.ref h0])).length) Slot.unset).toArray = ls at hl ⊢
  have hl : lv_has ls 1 [(0, .ref h0)] := hl
  refine lv_aload_n hx hb dX5_init_0 rfl (lv_at hl 0 rfl) ?_
  refine W.objInit hx hb hown (hw _ q28) (hw _ q1) (hw _ q2) rfl (by rw [hml]; exact hl.1) rfl dX5_init_1 (Nat.le_of_ble_eq_true rfl) (Nat.le_of_ble_eq_true rfl) ?_
  refine W.eq (g2 := F0 m 4 ls []) rfl ?_
  refine lv_aload_n hx hb dX5_init_4 rfl (lv_at hl 0 rfl) ?_
  refine lv_sipush (v := 1024) hx hb dX5_init_5 (by decide) ?_
  refine va_newa (D := (dC, dI)) (atype := .int) (ty := .int) (a0 := (1024, .inl (fun _ => 0))) (N' := 1024) hx hb (hw _ q3) rfl hK hP hD hS hA (fun _ => rfl) (by decide) (by decide +kernel) (Nat.le_of_ble_eq_true rfl) (Nat.le_of_ble_eq_true rfl) (Nat.le_of_ble_eq_true rfl) dX5_init_8 (fun z1 cA2 H hK hP hD hS => ?_)
  have hP : va_P (dC, dI) vwCl [(h0, .inr (5, [.null, .null, .null, .null, .null, .null, .int 0, .int 0, .null, .null, .null, .null])), (z1, .inl (cA2, 1024, .inl (fun _ => 0)))] H := hP
  have hD : va_D A [(h0, .inr (5, [.null, .null, .null, .null, .null, .null, .int 0, .int 0, .null, .null, .null, .null])), (z1, .inl (cA2, 1024, .inl (fun _ => 0)))] := hD
  have hK : va_K (dC, dI) vwCl [(cA2, .int)] s := hK
  refine W.widen (k := 1) (n := 1024) (Nat.le_of_ble_eq_true rfl) (Nat.le_of_ble_eq_true rfl) ?_
  refine va_put (D := (dC, dI)) (ci := 5) (v := .ref z1) (ty := .array .int) (C := RX5) (T := TX5) (N := 12) hx hb hw uX5 tyX5 tyX5_ok nmX5 hown hK hP hD hS 0 rfl rfl 0 (by decide) (hw _ q29) (fun _ h9 => h9) rfl (by decide +kernel) rfl rfl (Nat.le_of_ble_eq_true rfl) dX5_init_10 (fun H locs hP hD hS => ?_)
  have hP : va_P (dC, dI) vwCl [(h0, .inr (5, [.ref z1, .null, .null, .null, .null, .null, .int 0, .int 0, .null, .null, .null, .null])), (z1, .inl (cA2, 1024, .inl (fun _ => 0)))] H := hP
  have hD : va_D A [(h0, .inr (5, [.ref z1, .null, .null, .null, .null, .null, .int 0, .int 0, .null, .null, .null, .null])), (z1, .inl (cA2, 1024, .inl (fun _ => 0)))] := hD
  have hP := hP.sub (ws' := [(h0, .inr (5, [.ref z1, .null, .null, .null, .null, .null, .int 0, .int 0, .null, .null, .null, .null]))]) [0] rfl
  have hD := hD.sub (ws' := [(h0, .inr (5, [.ref z1, .null, .null, .null, .null, .null, .int 0, .int 0, .null, .null, .null, .null]))]) [0] (by decide) rfl
  have hK := hK.sub (tys' := []) [] rfl
  refine lv_aload_n hx hb dX5_init_13 rfl (lv_at hl 0 rfl) ?_
  refine lv_sipush (v := 1024) hx hb dX5_init_14 (by decide) ?_
  refine va_newa (D := (dC, dI)) (atype := .int) (ty := .int) (a0 := (1024, .inl (fun _ => 0))) (N' := 1024) hx hb (hw _ q3) rfl hK hP hD hS hA (fun _ => rfl) (by decide) (by decide +kernel) (Nat.le_of_ble_eq_true rfl) (Nat.le_of_ble_eq_true rfl) (Nat.le_of_ble_eq_true rfl) dX5_init_17 (fun z3 cA4 H hK hP hD hS => ?_)
  have hP : va_P (dC, dI) vwCl [(h0, .inr (5, [.ref z1, .null, .null, .null, .null, .null, .int 0, .int 0, .null, .null, .null, .null])), (z3, .inl (cA4, 1024, .inl (fun _ => 0)))] H := hP
  have hD : va_D A [(h0, .inr (5, [.ref z1, .null, .null, .null, .null, .null, .int 0, .int 0, .null, .null, .null, .null])), (z3, .inl (cA4, 1024, .inl (fun _ => 0)))] := hD
  have hK : va_K (dC, dI) vwCl [(cA4, .int)] s := hK
  refine W.widen (k := 2) (n := 2048) (Nat.le_of_ble_eq_true rfl) (Nat.le_of_ble_eq_true rfl) ?_
  refine va_put (D := (dC, dI)) (ci := 5) (v := .ref z3) (ty := .array .int) (C := RX5) (T := TX5) (N := 12) hx hb hw uX5 tyX5 tyX5_ok nmX5 hown hK hP hD hS 0 rfl rfl 1 (by decide) (hw _ q30) (fun _ h9 => h9) rfl (by decide +kernel) rfl rfl (Nat.le_of_ble_eq_true rfl) dX5_init_19 (fun H locs hP hD hS => ?_)
  have hP : va_P (dC, dI) vwCl [(h0, .inr (5, [.ref z1, .ref z3, .null, .null, .null, .null, .int 0, .int 0, .null, .null, .null, .null])), (z3, .inl (cA4, 1024, .inl (fun _ => 0)))] H := hP
  have hD : va_D A [(h0, .inr (5, [.ref z1, .ref z3, .null, .null, .null, .null, .int 0, .int 0, .null, .null, .null, .null])), (z3, .inl (cA4, 1024, .inl (fun _ => 0)))] := hD
  have hP := hP.sub (ws' := [(h0, .inr (5, [.ref z1, .ref z3, .null, .null, .null, .null, .int 0, .int 0, .null, .null, .null, .null]))]) [0] rfl
  have hD := hD.sub (ws' := [(h0, .inr (5, [.ref z1, .ref z3, .null, .null, .null, .null, .int 0, .int 0, .null, .null, .null, .null]))]) [0] (by decide) rfl
  have hK := hK.sub (tys' := []) [] rfl
  refine lv_aload_n hx hb dX5_init_22 rfl (lv_at hl 0 rfl) ?_
  refine lv_sipush (v := 1024) hx hb dX5_init_23 (by decide) ?_
  refine va_newa (D := (dC, dI)) (atype := .int) (ty := .int) (a0 := (1024, .inl (fun _ => 0))) (N' := 1024) hx hb (hw _ q3) rfl hK hP hD hS hA (fun _ => rfl) (by decide) (by decide +kernel) (Nat.le_of_ble_eq_true rfl) (Nat.le_of_ble_eq_true rfl) (Nat.le_of_ble_eq_true rfl) dX5_init_26 (fun z5 cA6 H hK hP hD hS => ?_)
  have hP : va_P (dC, dI) vwCl [(h0, .inr (5, [.ref z1, .ref z3, .null, .null, .null, .null, .int 0, .int 0, .null, .null, .null, .null])), (z5, .inl (cA6, 1024, .inl (fun _ => 0)))] H := hP
  have hD : va_D A [(h0, .inr (5, [.ref z1, .ref z3, .null, .null, .null, .null, .int 0, .int 0, .null, .null, .null, .null])), (z5, .inl (cA6, 1024, .inl (fun _ => 0)))] := hD
  have hK : va_K (dC, dI) vwCl [(cA6, .int)] s := hK
  refine W.widen (k := 3) (n := 3072) (Nat.le_of_ble_eq_true rfl) (Nat.le_of_ble_eq_true rfl) ?_
  refine va_put (D := (dC, dI)) (ci := 5) (v := .ref z5) (ty := .array .int) (C := RX5) (T := TX5) (N := 12) hx hb hw uX5 tyX5 tyX5_ok nmX5 hown hK hP hD hS 0 rfl rfl 2 (by decide) (hw _ q31) (fun _ h9 => h9) rfl (by decide +kernel) rfl rfl (Nat.le_of_ble_eq_true rfl) dX5_init_28 (fun H locs hP hD hS => ?_)
  have hP : va_P (dC, dI) vwCl [(h0, .inr (5, [.ref z1, .ref z3, .ref z5, .null, .null, .null, .int 0, .int 0, .null, .null, .null, .null])), (z5, .inl (cA6, 1024, .inl (fun _ => 0)))] H := hP
  have hD : va_D A [(h0, .inr (5, [.ref z1, .ref z3, .ref z5, .null, .null, .null, .int 0, .int 0, .null, .null, .null, .null])), (z5, .inl (cA6, 1024, .inl (fun _ => 0)))] := hD
  have hP := hP.sub (ws' := [(h0, .inr (5, [.ref z1, .ref z3, .ref z5, .null, .null, .null, .int 0, .int 0, .null, .null, .null, .null]))]) [0] rfl
  have hD := hD.sub (ws' := [(h0, .inr (5, [.ref z1, .ref z3, .ref z5, .null, .null, .null, .int 0, .int 0, .null, .null, .null, .null]))]) [0] (by decide) rfl
  have hK := hK.sub (tys' := []) [] rfl
  refine lv_aload_n hx hb dX5_init_31 rfl (lv_at hl 0 rfl) ?_
  refine lv_sipush (v := 1024) hx hb dX5_init_32 (by decide) ?_
  refine va_newa (D := (dC, dI)) (atype := .int) (ty := .int) (a0 := (1024, .inl (fun _ => 0))) (N' := 1024) hx hb (hw _ q3) rfl hK hP hD hS hA (fun _ => rfl) (by decide) (by decide +kernel) (Nat.le_of_ble_eq_true rfl) (Nat.le_of_ble_eq_true rfl) (Nat.le_of_ble_eq_true rfl) dX5_init_35 (fun z7 cA8 H hK hP hD hS => ?_)
  have hP : va_P (dC, dI) vwCl [(h0, .inr (5, [.ref z1, .ref z3, .ref z5, .null, .null, .null, .int 0, .int 0, .null, .null, .null, .null])), (z7, .inl (cA8, 1024, .inl (fun _ => 0)))] H := hP
  have hD : va_D A [(h0, .inr (5, [.ref z1, .ref z3, .ref z5, .null, .null, .null, .int 0, .int 0, .null, .null, .null, .null])), (z7, .inl (cA8, 1024, .inl (fun _ => 0)))] := hD
  have hK : va_K (dC, dI) vwCl [(cA8, .int)] s := hK
  refine W.widen (k := 4) (n := 4096) (Nat.le_of_ble_eq_true rfl) (Nat.le_of_ble_eq_true rfl) ?_
  refine va_put (D := (dC, dI)) (ci := 5) (v := .ref z7) (ty := .array .int) (C := RX5) (T := TX5) (N := 12) hx hb hw uX5 tyX5 tyX5_ok nmX5 hown hK hP hD hS 0 rfl rfl 3 (by decide) (hw _ q32) (fun _ h9 => h9) rfl (by decide +kernel) rfl rfl (Nat.le_of_ble_eq_true rfl) dX5_init_37 (fun H locs hP hD hS => ?_)
  have hP : va_P (dC, dI) vwCl [(h0, .inr (5, [.ref z1, .ref z3, .ref z5, .ref z7, .null, .null, .int 0, .int 0, .null, .null, .null, .null])), (z7, .inl (cA8, 1024, .inl (fun _ => 0)))] H := hP
  have hD : va_D A [(h0, .inr (5, [.ref z1, .ref z3, .ref z5, .ref z7, .null, .null, .int 0, .int 0, .null, .null, .null, .null])), (z7, .inl (cA8, 1024, .inl (fun _ => 0)))] := hD
  have hP := hP.sub (ws' := [(h0, .inr (5, [.ref z1, .ref z3, .ref z5, .ref z7, .null, .null, .int 0, .int 0, .null, .null, .null, .null]))]) [0] rfl
  have hD := hD.sub (ws' := [(h0, .inr (5, [.ref z1, .ref z3, .ref z5, .ref z7, .null, .null, .int 0, .int 0, .null, .null, .null, .null]))]) [0] (by decide) rfl
  have hK := hK.sub (tys' := []) [] rfl
  refine lv_aload_n hx hb dX5_init_40 rfl (lv_at hl 0 rfl) ?_
  refine lv_sipush (v := 1024) hx hb dX5_init_41 (by decide) ?_
  refine va_newa (D := (dC, dI)) (atype := .int) (ty := .int) (a0 := (1024, .inl (fun _ => 0))) (N' := 1024) hx hb (hw _ q3) rfl hK hP hD hS hA (fun _ => rfl) (by decide) (by decide +kernel) (Nat.le_of_ble_eq_true rfl) (Nat.le_of_ble_eq_true rfl) (Nat.le_of_ble_eq_true rfl) dX5_init_44 (fun z9 cA10 H hK hP hD hS => ?_)
  have hP : va_P (dC, dI) vwCl [(h0, .inr (5, [.ref z1, .ref z3, .ref z5, .ref z7, .null, .null, .int 0, .int 0, .null, .null, .null, .null])), (z9, .inl (cA10, 1024, .inl (fun _ => 0)))] H := hP
  have hD : va_D A [(h0, .inr (5, [.ref z1, .ref z3, .ref z5, .ref z7, .null, .null, .int 0, .int 0, .null, .null, .null, .null])), (z9, .inl (cA10, 1024, .inl (fun _ => 0)))] := hD
  have hK : va_K (dC, dI) vwCl [(cA10, .int)] s := hK
  refine W.widen (k := 5) (n := 5120) (Nat.le_of_ble_eq_true rfl) (Nat.le_of_ble_eq_true rfl) ?_
  refine va_put (D := (dC, dI)) (ci := 5) (v := .ref z9) (ty := .array .int) (C := RX5) (T := TX5) (N := 12) hx hb hw uX5 tyX5 tyX5_ok nmX5 hown hK hP hD hS 0 rfl rfl 4 (by decide) (hw _ q33) (fun _ h9 => h9) rfl (by decide +kernel) rfl rfl (Nat.le_of_ble_eq_true rfl) dX5_init_46 (fun H locs hP hD hS => ?_)
  have hP : va_P (dC, dI) vwCl [(h0, .inr (5, [.ref z1, .ref z3, .ref z5, .ref z7, .ref z9, .null, .int 0, .int 0, .null, .null, .null, .null])), (z9, .inl (cA10, 1024, .inl (fun _ => 0)))] H := hP
  have hD : va_D A [(h0, .inr (5, [.ref z1, .ref z3, .ref z5, .ref z7, .ref z9, .null, .int 0, .int 0, .null, .null, .null, .null])), (z9, .inl (cA10, 1024, .inl (fun _ => 0)))] := hD
  have hP := hP.sub (ws' := [(h0, .inr (5, [.ref z1, .ref z3, .ref z5, .ref z7, .ref z9, .null, .int 0, .int 0, .null, .null, .null, .null]))]) [0] rfl
  have hD := hD.sub (ws' := [(h0, .inr (5, [.ref z1, .ref z3, .ref z5, .ref z7, .ref z9, .null, .int 0, .int 0, .null, .null, .null, .null]))]) [0] (by decide) rfl
  have hK := hK.sub (tys' := []) [] rfl
  refine lv_aload_n hx hb dX5_init_49 rfl (lv_at hl 0 rfl) ?_
  refine lv_sipush (v := 1024) hx hb dX5_init_50 (by decide) ?_
  refine va_newa (D := (dC, dI)) (atype := .int) (ty := .int) (a0 := (1024, .inl (fun _ => 0))) (N' := 1024) hx hb (hw _ q3) rfl hK hP hD hS hA (fun _ => rfl) (by decide) (by decide +kernel) (Nat.le_of_ble_eq_true rfl) (Nat.le_of_ble_eq_true rfl) (Nat.le_of_ble_eq_true rfl) dX5_init_53 (fun z11 cA12 H hK hP hD hS => ?_)
  have hP : va_P (dC, dI) vwCl [(h0, .inr (5, [.ref z1, .ref z3, .ref z5, .ref z7, .ref z9, .null, .int 0, .int 0, .null, .null, .null, .null])), (z11, .inl (cA12, 1024, .inl (fun _ => 0)))] H := hP
  have hD : va_D A [(h0, .inr (5, [.ref z1, .ref z3, .ref z5, .ref z7, .ref z9, .null, .int 0, .int 0, .null, .null, .null, .null])), (z11, .inl (cA12, 1024, .inl (fun _ => 0)))] := hD
  have hK : va_K (dC, dI) vwCl [(cA12, .int)] s := hK
  refine W.widen (k := 6) (n := 6144) (Nat.le_of_ble_eq_true rfl) (Nat.le_of_ble_eq_true rfl) ?_
  refine va_put (D := (dC, dI)) (ci := 5) (v := .ref z11) (ty := .array .int) (C := RX5) (T := TX5) (N := 12) hx hb hw uX5 tyX5 tyX5_ok nmX5 hown hK hP hD hS 0 rfl rfl 5 (by decide) (hw _ q34) (fun _ h9 => h9) rfl (by decide +kernel) rfl rfl (Nat.le_of_ble_eq_true rfl) dX5_init_55 (fun H locs hP hD hS => ?_)
  have hP : va_P (dC, dI) vwCl [(h0, .inr (5, [.ref z1, .ref z3, .ref z5, .ref z7, .ref z9, .ref z11, .int 0, .int 0, .null, .null, .null, .null])), (z11, .inl (cA12, 1024, .inl (fun _ => 0)))] H := hP
  have hD : va_D A [(h0, .inr (5, [.ref z1, .ref z3, .ref z5, .ref z7, .ref z9, .ref z11, .int 0, .int 0, .null, .null, .null, .null])), (z11, .inl (cA12, 1024, .inl (fun _ => 0)))] := hD
  have hP := hP.sub (ws' := [(h0, .inr (5, [.ref z1, .ref z3, .ref z5, .ref z7, .ref z9, .ref z11, .int 0, .int 0, .null, .null, .null, .null]))]) [0] rfl
  have hD := hD.sub (ws' := [(h0, .inr (5, [.ref z1, .ref z3, .ref z5, .ref z7, .ref z9, .ref z11, .int 0, .int 0, .null, .null, .null, .null]))]) [0] (by decide) rfl
  have hK := hK.sub (tys' := []) [] rfl
  refine lv_aload_n hx hb dX5_init_58 rfl (lv_at hl 0 rfl) ?_
  refine va_new (D := (dC, dI)) (ci := 2) (fs := [.null, .int 0]) (C := RX2) (T := TX2) (N := 2) hx hb hw uX2 tyX2 tyX2_ok hown (hw _ q35) (hw _ q21) (hw _ q22) hK hP hD hS hA rfl (by decide +kernel) (Nat.le_of_ble_eq_true rfl) (Nat.le_of_ble_eq_true rfl) dX5_init_59 (fun z13 H hP hD hS => ?_)
  have hP : va_P (dC, dI) vwCl [(h0, .inr (5, [.ref z1, .ref z3, .ref z5, .ref z7, .ref z9, .ref z11, .int 0, .int 0, .null, .null, .null, .null])), (z13, .inr (2, [.null, .int 0]))] H := hP
  have hD : va_D A [(h0, .inr (5, [.ref z1, .ref z3, .ref z5, .ref z7, .ref z9, .ref z11, .int 0, .int 0, .null, .null, .null, .null])), (z13, .inr (2, [.null, .int 0]))] := hD
  refine W.widen (k := 7) (n := 6146) (Nat.le_of_ble_eq_true rfl) (Nat.le_of_ble_eq_true rfl) ?_
  refine lv_dup hx hb dX5_init_62 rfl ?_
  have hPc := hP.sub (ws' := [(z13, .inr (2, [.null, .int 0]))]) [1] rfl
  have hDc := hD.sub (ws' := [(z13, .inr (2, [.null, .int 0]))]) [1] (by decide) rfl
  have hKc := hK.sub (tys' := []) [] rfl
  have hFc := va_free (wc := [(z13, .inr (2, [.null, .int 0]))]) hD hS hA [1] rfl
  refine va_callv (va_runIN (As := []) (rest := [.ref z13, .ref h0]) ⟨hx, hb, hml, hown, hw⟩ (c_X2_init l dC dI _ (z13)) ⟨va_cnB 0 hw (gB q23) rfl rfl rfl (nn2 hN) (hw _ q22) (by decide +kernel) ⟨Nat.le_of_ble_eq_true rfl, Nat.le_of_ble_eq_true rfl⟩, rfl, hw _ q24⟩ ⟨cP_blind, cP_pre hPc hKc hDc hN⟩ rfl rfl hl.1 rfl (lv_room (Nat.le_of_ble_eq_true rfl)) dX5_init_63 ⟨Nat.le_of_ble_eq_true rfl, Nat.le_of_ble_eq_true rfl⟩) hS (fun q _ h => hFc q h) hFc (fun u9 t H1 locs ht hvm hw1 hB hz1 hk1 hS => ?_)
  obtain ⟨b1_15, cA1_16, hP1, hK1, hD1⟩ := hB
  rw [ht] at hP1
  have hK1 := va_K.moved hvm.symm hK1
  obtain ⟨hP, hD⟩ := va_join (wr := [(h0, .inr (5, [.ref z1, .ref z3, .ref z5, .ref z7, .ref z9, .ref z11, .int 0, .int 0, .null, .null, .null, .null]))]) (w1 := [(z13, .inr (2, [.ref b1_15, .int 0])), (b1_15, .inl (cA1_16, 256, .inl (fun _ => 0)))]) hP hD [1] [0] rfl rfl (by decide) (by decide) hk1 hFc hP1 hD1
  have hK := (hK.sub (tys' := []) [] rfl).app hK1
  generalize H1 = H at hP hS ⊢
  have hP : va_P (dC, dI) vwCl [(h0, .inr (5, [.ref z1, .ref z3, .ref z5, .ref z7, .ref z9, .ref z11, .int 0, .int 0, .null, .null, .null, .null])), (z13, .inr (2, [.ref b1_15, .int 0])), (b1_15, .inl (cA1_16, 256, .inl (fun _ => 0)))] H := hP
  have hD : va_D A [(h0, .inr (5, [.ref z1, .ref z3, .ref z5, .ref z7, .ref z9, .ref z11, .int 0, .int 0, .null, .null, .null, .null])), (z13, .inr (2, [.ref b1_15, .int 0])), (b1_15, .inl (cA1_16, 256, .inl (fun _ => 0)))] := hD
  have hK : va_K (dC, dI) vwCl [(cA1_16, .int)] s := hK
  refine W.widen (k := 8) (n := 6402) (Nat.le_of_ble_eq_true rfl) (Nat.le_of_ble_eq_true rfl) ?_
  refine va_putF (D := (dC, dI)) (ci := 5) (v := .ref z13) (ty := .object "RowTypes$Ints") (C := RX5) (T := TX5) (N := 12) hx hb hw uX5 tyX5 tyX5_ok nmX5 hown hK hP hD hS 0 rfl rfl 8 (by decide) (hw _ q36) (fun _ h9 => h9) rfl hin rfl (by decide +kernel) rfl rfl (Nat.le_of_ble_eq_true rfl) dX5_init_66 (fun H locs hP hD hS => ?_)
  have hP : va_P (dC, dI) vwCl [(h0, .inr (5, [.ref z1, .ref z3, .ref z5, .ref z7, .ref z9, .ref z11, .int 0, .int 0, .ref z13, .null, .null, .null])), (z13, .inr (2, [.ref b1_15, .int 0])), (b1_15, .inl (cA1_16, 256, .inl (fun _ => 0)))] H := hP
  have hD : va_D A [(h0, .inr (5, [.ref z1, .ref z3, .ref z5, .ref z7, .ref z9, .ref z11, .int 0, .int 0, .ref z13, .null, .null, .null])), (z13, .inr (2, [.ref b1_15, .int 0])), (b1_15, .inl (cA1_16, 256, .inl (fun _ => 0)))] := hD
  have hP := hP.sub (ws' := [(h0, .inr (5, [.ref z1, .ref z3, .ref z5, .ref z7, .ref z9, .ref z11, .int 0, .int 0, .ref z13, .null, .null, .null])), (b1_15, .inl (cA1_16, 256, .inl (fun _ => 0)))]) [0, 2] rfl
  have hD := hD.sub (ws' := [(h0, .inr (5, [.ref z1, .ref z3, .ref z5, .ref z7, .ref z9, .ref z11, .int 0, .int 0, .ref z13, .null, .null, .null])), (b1_15, .inl (cA1_16, 256, .inl (fun _ => 0)))]) [0, 2] (by decide) rfl
  have hK := hK.sub (tys' := [(cA1_16, .int)]) [0] rfl
  refine lv_aload_n hx hb dX5_init_69 rfl (lv_at hl 0 rfl) ?_
  refine lv_bipush (v := 8) hx hb dX5_init_70 (by decide) ?_
  refine va_newa (D := (dC, dI)) (atype := .int) (ty := .int) (a0 := (8, .inl (fun _ => 0))) (N' := 8) hx hb (hw _ q3) rfl hK hP hD hS hA (fun _ => rfl) (by decide) (by decide +kernel) (Nat.le_of_ble_eq_true rfl) (Nat.le_of_ble_eq_true rfl) (Nat.le_of_ble_eq_true rfl) dX5_init_72 (fun z17 cA18 H hK hP hD hS => ?_)
  have hP : va_P (dC, dI) vwCl [(h0, .inr (5, [.ref z1, .ref z3, .ref z5, .ref z7, .ref z9, .ref z11, .int 0, .int 0, .ref z13, .null, .null, .null])), (b1_15, .inl (cA1_16, 256, .inl (fun _ => 0))), (z17, .inl (cA18, 8, .inl (fun _ => 0)))] H := hP
  have hD : va_D A [(h0, .inr (5, [.ref z1, .ref z3, .ref z5, .ref z7, .ref z9, .ref z11, .int 0, .int 0, .ref z13, .null, .null, .null])), (b1_15, .inl (cA1_16, 256, .inl (fun _ => 0))), (z17, .inl (cA18, 8, .inl (fun _ => 0)))] := hD
  have hK : va_K (dC, dI) vwCl [(cA1_16, .int), (cA18, .int)] s := hK
  refine W.widen (k := 9) (n := 6410) (Nat.le_of_ble_eq_true rfl) (Nat.le_of_ble_eq_true rfl) ?_
  refine va_putF (D := (dC, dI)) (ci := 5) (v := .ref z17) (ty := .array .int) (C := RX5) (T := TX5) (N := 12) hx hb hw uX5 tyX5 tyX5_ok nmX5 hown hK hP hD hS 0 rfl rfl 9 (by decide) (hw _ q37) (fun _ h9 => h9) rfl hin rfl (by decide +kernel) rfl rfl (Nat.le_of_ble_eq_true rfl) dX5_init_74 (fun H locs hP hD hS => ?_)
  have hP : va_P (dC, dI) vwCl [(h0, .inr (5, [.ref z1, .ref z3, .ref z5, .ref z7, .ref z9, .ref z11, .int 0, .int 0, .ref z13, .ref z17, .null, .null])), (b1_15, .inl (cA1_16, 256, .inl (fun _ => 0))), (z17, .inl (cA18, 8, .inl (fun _ => 0)))] H := hP
  have hD : va_D A [(h0, .inr (5, [.ref z1, .ref z3, .ref z5, .ref z7, .ref z9, .ref z11, .int 0, .int 0, .ref z13, .ref z17, .null, .null])), (b1_15, .inl (cA1_16, 256, .inl (fun _ => 0))), (z17, .inl (cA18, 8, .inl (fun _ => 0)))] := hD
  have hP := hP.sub (ws' := [(h0, .inr (5, [.ref z1, .ref z3, .ref z5, .ref z7, .ref z9, .ref z11, .int 0, .int 0, .ref z13, .ref z17, .null, .null])), (b1_15, .inl (cA1_16, 256, .inl (fun _ => 0)))]) [0, 1] rfl
  have hD := hD.sub (ws' := [(h0, .inr (5, [.ref z1, .ref z3, .ref z5, .ref z7, .ref z9, .ref z11, .int 0, .int 0, .ref z13, .ref z17, .null, .null])), (b1_15, .inl (cA1_16, 256, .inl (fun _ => 0)))]) [0, 1] (by decide) rfl
  have hK := hK.sub (tys' := [(cA1_16, .int)]) [0] rfl
  refine lv_aload_n hx hb dX5_init_77 rfl (lv_at hl 0 rfl) ?_
  refine lv_bipush (v := 8) hx hb dX5_init_78 (by decide) ?_
  refine va_newa (D := (dC, dI)) (atype := .int) (ty := .int) (a0 := (8, .inl (fun _ => 0))) (N' := 8) hx hb (hw _ q3) rfl hK hP hD hS hA (fun _ => rfl) (by decide) (by decide +kernel) (Nat.le_of_ble_eq_true rfl) (Nat.le_of_ble_eq_true rfl) (Nat.le_of_ble_eq_true rfl) dX5_init_80 (fun z19 cA20 H hK hP hD hS => ?_)
  have hP : va_P (dC, dI) vwCl [(h0, .inr (5, [.ref z1, .ref z3, .ref z5, .ref z7, .ref z9, .ref z11, .int 0, .int 0, .ref z13, .ref z17, .null, .null])), (b1_15, .inl (cA1_16, 256, .inl (fun _ => 0))), (z19, .inl (cA20, 8, .inl (fun _ => 0)))] H := hP
  have hD : va_D A [(h0, .inr (5, [.ref z1, .ref z3, .ref z5, .ref z7, .ref z9, .ref z11, .int 0, .int 0, .ref z13, .ref z17, .null, .null])), (b1_15, .inl (cA1_16, 256, .inl (fun _ => 0))), (z19, .inl (cA20, 8, .inl (fun _ => 0)))] := hD
  have hK : va_K (dC, dI) vwCl [(cA1_16, .int), (cA20, .int)] s := hK
  refine W.widen (k := 10) (n := 6418) (Nat.le_of_ble_eq_true rfl) (Nat.le_of_ble_eq_true rfl) ?_
  refine va_putF (D := (dC, dI)) (ci := 5) (v := .ref z19) (ty := .array .int) (C := RX5) (T := TX5) (N := 12) hx hb hw uX5 tyX5 tyX5_ok nmX5 hown hK hP hD hS 0 rfl rfl 10 (by decide) (hw _ q38) (fun _ h9 => h9) rfl hin rfl (by decide +kernel) rfl rfl (Nat.le_of_ble_eq_true rfl) dX5_init_82 (fun H locs hP hD hS => ?_)
  have hP : va_P (dC, dI) vwCl [(h0, .inr (5, [.ref z1, .ref z3, .ref z5, .ref z7, .ref z9, .ref z11, .int 0, .int 0, .ref z13, .ref z17, .ref z19, .null])), (b1_15, .inl (cA1_16, 256, .inl (fun _ => 0))), (z19, .inl (cA20, 8, .inl (fun _ => 0)))] H := hP
  have hD : va_D A [(h0, .inr (5, [.ref z1, .ref z3, .ref z5, .ref z7, .ref z9, .ref z11, .int 0, .int 0, .ref z13, .ref z17, .ref z19, .null])), (b1_15, .inl (cA1_16, 256, .inl (fun _ => 0))), (z19, .inl (cA20, 8, .inl (fun _ => 0)))] := hD
  have hP := hP.sub (ws' := [(h0, .inr (5, [.ref z1, .ref z3, .ref z5, .ref z7, .ref z9, .ref z11, .int 0, .int 0, .ref z13, .ref z17, .ref z19, .null])), (b1_15, .inl (cA1_16, 256, .inl (fun _ => 0)))]) [0, 1] rfl
  have hD := hD.sub (ws' := [(h0, .inr (5, [.ref z1, .ref z3, .ref z5, .ref z7, .ref z9, .ref z11, .int 0, .int 0, .ref z13, .ref z17, .ref z19, .null])), (b1_15, .inl (cA1_16, 256, .inl (fun _ => 0)))]) [0, 1] (by decide) rfl
  have hK := hK.sub (tys' := [(cA1_16, .int)]) [0] rfl
  refine lv_aload_n hx hb dX5_init_85 rfl (lv_at hl 0 rfl) ?_
  refine lv_bipush (v := 61) hx hb dX5_init_86 (by decide) ?_
  refine va_newa (D := (dC, dI)) (atype := .int) (ty := .int) (a0 := (61, .inl (fun _ => 0))) (N' := 61) hx hb (hw _ q3) rfl hK hP hD hS hA (fun _ => rfl) (by decide) (by decide +kernel) (Nat.le_of_ble_eq_true rfl) (Nat.le_of_ble_eq_true rfl) (Nat.le_of_ble_eq_true rfl) dX5_init_88 (fun z21 cA22 H hK hP hD hS => ?_)
  have hP : va_P (dC, dI) vwCl [(h0, .inr (5, [.ref z1, .ref z3, .ref z5, .ref z7, .ref z9, .ref z11, .int 0, .int 0, .ref z13, .ref z17, .ref z19, .null])), (b1_15, .inl (cA1_16, 256, .inl (fun _ => 0))), (z21, .inl (cA22, 61, .inl (fun _ => 0)))] H := hP
  have hD : va_D A [(h0, .inr (5, [.ref z1, .ref z3, .ref z5, .ref z7, .ref z9, .ref z11, .int 0, .int 0, .ref z13, .ref z17, .ref z19, .null])), (b1_15, .inl (cA1_16, 256, .inl (fun _ => 0))), (z21, .inl (cA22, 61, .inl (fun _ => 0)))] := hD
  have hK : va_K (dC, dI) vwCl [(cA1_16, .int), (cA22, .int)] s := hK
  refine W.widen (k := 11) (n := 6479) (Nat.le_of_ble_eq_true rfl) (Nat.le_of_ble_eq_true rfl) ?_
  refine va_putF (D := (dC, dI)) (ci := 5) (v := .ref z21) (ty := .array .int) (C := RX5) (T := TX5) (N := 12) hx hb hw uX5 tyX5 tyX5_ok nmX5 hown hK hP hD hS 0 rfl rfl 11 (by decide) (hw _ q39) (fun _ h9 => h9) rfl hin rfl (by decide +kernel) rfl rfl (Nat.le_of_ble_eq_true rfl) dX5_init_90 (fun H locs hP hD hS => ?_)
  have hP : va_P (dC, dI) vwCl [(h0, .inr (5, [.ref z1, .ref z3, .ref z5, .ref z7, .ref z9, .ref z11, .int 0, .int 0, .ref z13, .ref z17, .ref z19, .ref z21])), (b1_15, .inl (cA1_16, 256, .inl (fun _ => 0))), (z21, .inl (cA22, 61, .inl (fun _ => 0)))] H := hP
  have hD : va_D A [(h0, .inr (5, [.ref z1, .ref z3, .ref z5, .ref z7, .ref z9, .ref z11, .int 0, .int 0, .ref z13, .ref z17, .ref z19, .ref z21])), (b1_15, .inl (cA1_16, 256, .inl (fun _ => 0))), (z21, .inl (cA22, 61, .inl (fun _ => 0)))] := hD
  have hP := hP.sub (ws' := [(h0, .inr (5, [.ref z1, .ref z3, .ref z5, .ref z7, .ref z9, .ref z11, .int 0, .int 0, .ref z13, .ref z17, .ref z19, .ref z21])), (b1_15, .inl (cA1_16, 256, .inl (fun _ => 0)))]) [0, 1] rfl
  have hD := hD.sub (ws' := [(h0, .inr (5, [.ref z1, .ref z3, .ref z5, .ref z7, .ref z9, .ref z11, .int 0, .int 0, .ref z13, .ref z17, .ref z19, .ref z21])), (b1_15, .inl (cA1_16, 256, .inl (fun _ => 0)))]) [0, 1] (by decide) rfl
  have hK := hK.sub (tys' := [(cA1_16, .int)]) [0] rfl
  have hP9 := hP.sub (ws' := []) [] rfl
  have hD9 := hD.sub (ws' := []) [] (by decide) rfl
  have hK9 := hK.sub (tys' := []) [] rfl
  exact W.vret hx hb hr (fun t ht hW => ⟨⟨(), rfl, trivial, by rw [ht]; exact hP9, va_K.moved hW.alike hK9, hD9⟩, hS.F ht⟩) hS.2.2 dX5_init_93
set_option maxHeartbeats 4000000 in
set_option maxRecDepth 100000 in
theorem c_X9_init (l : Launch) (dC : Nat → ClassId) (dI : Nat → Nat → Nat) (sz : Nat) (h0 : Nat) (a1 : Nat) : Met l yX9_init (Cond.code yX9_init cX9_init 2 none :: wp) ({ frames := 2, cells := 4, slots := 516, locals := 32 }) (cP dC dI [.ref h0, .ref a1] sz [(h0, .inr (9, [.null, .null, .null, .null, .int 0, .int 0, .int 0]))] []) (va_Qv (fun _ : Unit => True) (fun (_ : Unit) t => cB dC dI (va_A [(h0, .inr (9, [.null, .null, .null, .null, .int 0, .int 0, .int 0]))] sz) [] [] t) (va_A [(h0, .inr (9, [.null, .null, .null, .null, .int 0, .int 0, .int 0]))] sz)) 4 516 (va_A [(h0, .inr (9, [.null, .null, .null, .null, .int 0, .int 0, .int 0]))] sz) := by
  refine Met.ofW (cc := cX9_init) (maxL := 2) (ret := none) (by decide) rfl ?_
  intro p e s m args below meth c s₁ B hml hv
  obtain ⟨rfl, hsz, hP, hK, hD0, hN⟩ := hv
  have hx := B.exec
  have hb := B.bytes
  have hr := B.returns
  have hts := atoms_spec (ws := Cond.code yX9_init cX9_init 2 none :: wp) B.pre
  have hw : ∀ w ∈ wp, w.before _ s = true := fun w h => hts w (List.mem_cons_of_mem _ h)
  have hown : s.vm.findClass RX9 = some m.cls := findClass_of_methodNamed B.named
  have hlocks := B.notSynchronized
  have hin : meth.name = "<init>" := (name_of_methodNamed B.named B.method).1
  subst hsz
  have hD := hD0.self (sz := s.heap.size)
  generalize hAe : va_A [(h0, .inr (9, [.null, .null, .null, .null, .int 0, .int 0, .int 0]))] s.heap.size = A at hD ⊢
  have hA : ∀ q : Nat, s.heap.size ≤ q → A q := fun q h => by rw [← hAe]; exact Or.inr h
  have hS : va_S A s.heap s.heap [] := va_S.rf
  have hP : va_P (dC, dI) vwCl [(h0, .inr (9, [.null, .null, .null, .null, .int 0, .int 0, .int 0]))] s.heap := hP
  have hl := lv_entry ([.ref h0, .ref a1]) (n := 2) (Nat.le_of_ble_eq_true rfl)
  rw [lg_entry_eq]
  generalize (lg_sl ([.ref h0, .ref a1]) ++ List.replicate (2 - (lg_sl ([.ref h0, .ref a1])).length) Slot.unset).toArray = ls at hl ⊢
  have hl : lv_has ls 2 [(0, .ref h0), (1, .ref a1)] := hl
  refine lv_aload_n hx hb dX9_init_0 rfl (lv_at hl 0 rfl) ?_
  refine W.objInit hx hb hown (hw _ q40) (hw _ q1) (hw _ q2) rfl (by rw [hml]; exact hl.1) rfl dX9_init_1 (Nat.le_of_ble_eq_true rfl) (Nat.le_of_ble_eq_true rfl) ?_
  refine W.eq (g2 := F0 m 4 ls []) rfl ?_
  refine lv_aload_n hx hb dX9_init_4 rfl (lv_at hl 0 rfl) ?_
  refine va_new (D := (dC, dI)) (ci := 2) (fs := [.null, .int 0]) (C := RX2) (T := TX2) (N := 2) hx hb hw uX2 tyX2 tyX2_ok hown (hw _ q41) (hw _ q21) (hw _ q22) hK hP hD hS hA rfl (by decide +kernel) (Nat.le_of_ble_eq_true rfl) (Nat.le_of_ble_eq_true rfl) dX9_init_5 (fun z1 H hP hD hS => ?_)
  have hP : va_P (dC, dI) vwCl [(h0, .inr (9, [.null, .null, .null, .null, .int 0, .int 0, .int 0])), (z1, .inr (2, [.null, .int 0]))] H := hP
  have hD : va_D A [(h0, .inr (9, [.null, .null, .null, .null, .int 0, .int 0, .int 0])), (z1, .inr (2, [.null, .int 0]))] := hD
  refine W.widen (k := 1) (n := 2) (Nat.le_of_ble_eq_true rfl) (Nat.le_of_ble_eq_true rfl) ?_
  refine lv_dup hx hb dX9_init_8 rfl ?_
  have hPc := hP.sub (ws' := [(z1, .inr (2, [.null, .int 0]))]) [1] rfl
  have hDc := hD.sub (ws' := [(z1, .inr (2, [.null, .int 0]))]) [1] (by decide) rfl
  have hKc := hK.sub (tys' := []) [] rfl
  have hFc := va_free (wc := [(z1, .inr (2, [.null, .int 0]))]) hD hS hA [1] rfl
  refine va_callv (va_runIN (As := []) (rest := [.ref z1, .ref h0]) ⟨hx, hb, hml, hown, hw⟩ (c_X2_init l dC dI _ (z1)) ⟨va_cnB 0 hw (gB q23) rfl rfl rfl (nn3 hN) (hw _ q22) (by decide +kernel) ⟨Nat.le_of_ble_eq_true rfl, Nat.le_of_ble_eq_true rfl⟩, rfl, hw _ q24⟩ ⟨cP_blind, cP_pre hPc hKc hDc hN⟩ rfl rfl hl.1 rfl (lv_room (Nat.le_of_ble_eq_true rfl)) dX9_init_9 ⟨Nat.le_of_ble_eq_true rfl, Nat.le_of_ble_eq_true rfl⟩) hS (fun q _ h => hFc q h) hFc (fun u9 t H1 locs ht hvm hw1 hB hz1 hk1 hS => ?_)
  obtain ⟨b1_3, cA1_4, hP1, hK1, hD1⟩ := hB
  rw [ht] at hP1
  have hK1 := va_K.moved hvm.symm hK1
  obtain ⟨hP, hD⟩ := va_join (wr := [(h0, .inr (9, [.null, .null, .null, .null, .int 0, .int 0, .int 0]))]) (w1 := [(z1, .inr (2, [.ref b1_3, .int 0])), (b1_3, .inl (cA1_4, 256, .inl (fun _ => 0)))]) hP hD [1] [0] rfl rfl (by decide) (by decide) hk1 hFc hP1 hD1
  have hK := (hK.sub (tys' := []) [] rfl).app hK1
  generalize H1 = H at hP hS ⊢
  have hP : va_P (dC, dI) vwCl [(h0, .inr (9, [.null, .null, .null, .null, .int 0, .int 0, .int 0])), (z1, .inr (2, [.ref b1_3, .int 0])), (b1_3, .inl (cA1_4, 256, .inl (fun _ => 0)))] H := hP
  have hD : va_D A [(h0, .inr (9, [.null, .null, .null, .null, .int 0, .int 0, .int 0])), (z1, .inr (2, [.ref b1_3, .int 0])), (b1_3, .inl (cA1_4, 256, .inl (fun _ => 0)))] := hD
  have hK : va_K (dC, dI) vwCl [(cA1_4, .int)] s := hK
  refine W.widen (k := 2) (n := 258) (Nat.le_of_ble_eq_true rfl) (Nat.le_of_ble_eq_true rfl) ?_
  refine va_putF (D := (dC, dI)) (ci := 9) (v := .ref z1) (ty := .object "RowTypes$Ints") (C := RX9) (T := TX9) (N := 7) hx hb hw uX9 tyX9 tyX9_ok nmX9 hown hK hP hD hS 0 rfl rfl 1 (by decide) (hw _ q42) (fun _ h9 => h9) rfl hin rfl (by decide +kernel) rfl rfl (Nat.le_of_ble_eq_true rfl) dX9_init_12 (fun H locs hP hD hS => ?_)
  have hP : va_P (dC, dI) vwCl [(h0, .inr (9, [.null, .ref z1, .null, .null, .int 0, .int 0, .int 0])), (z1, .inr (2, [.ref b1_3, .int 0])), (b1_3, .inl (cA1_4, 256, .inl (fun _ => 0)))] H := hP
  have hD : va_D A [(h0, .inr (9, [.null, .ref z1, .null, .null, .int 0, .int 0, .int 0])), (z1, .inr (2, [.ref b1_3, .int 0])), (b1_3, .inl (cA1_4, 256, .inl (fun _ => 0)))] := hD
  have hP := hP.sub (ws' := [(h0, .inr (9, [.null, .ref z1, .null, .null, .int 0, .int 0, .int 0])), (b1_3, .inl (cA1_4, 256, .inl (fun _ => 0)))]) [0, 2] rfl
  have hD := hD.sub (ws' := [(h0, .inr (9, [.null, .ref z1, .null, .null, .int 0, .int 0, .int 0])), (b1_3, .inl (cA1_4, 256, .inl (fun _ => 0)))]) [0, 2] (by decide) rfl
  have hK := hK.sub (tys' := [(cA1_4, .int)]) [0] rfl
  refine lv_aload_n hx hb dX9_init_15 rfl (lv_at hl 0 rfl) ?_
  refine va_new (D := (dC, dI)) (ci := 2) (fs := [.null, .int 0]) (C := RX2) (T := TX2) (N := 2) hx hb hw uX2 tyX2 tyX2_ok hown (hw _ q41) (hw _ q21) (hw _ q22) hK hP hD hS hA rfl (by decide +kernel) (Nat.le_of_ble_eq_true rfl) (Nat.le_of_ble_eq_true rfl) dX9_init_16 (fun z5 H hP hD hS => ?_)
  have hP : va_P (dC, dI) vwCl [(h0, .inr (9, [.null, .ref z1, .null, .null, .int 0, .int 0, .int 0])), (b1_3, .inl (cA1_4, 256, .inl (fun _ => 0))), (z5, .inr (2, [.null, .int 0]))] H := hP
  have hD : va_D A [(h0, .inr (9, [.null, .ref z1, .null, .null, .int 0, .int 0, .int 0])), (b1_3, .inl (cA1_4, 256, .inl (fun _ => 0))), (z5, .inr (2, [.null, .int 0]))] := hD
  refine W.widen (k := 3) (n := 260) (Nat.le_of_ble_eq_true rfl) (Nat.le_of_ble_eq_true rfl) ?_
  refine lv_dup hx hb dX9_init_19 rfl ?_
  have hPc := hP.sub (ws' := [(z5, .inr (2, [.null, .int 0]))]) [2] rfl
  have hDc := hD.sub (ws' := [(z5, .inr (2, [.null, .int 0]))]) [2] (by decide) rfl
  have hKc := hK.sub (tys' := []) [] rfl
  have hFc := va_free (wc := [(z5, .inr (2, [.null, .int 0]))]) hD hS hA [2] rfl
  refine va_callv (va_runIN (As := []) (rest := [.ref z5, .ref h0]) ⟨hx, hb, hml, hown, hw⟩ (c_X2_init l dC dI _ (z5)) ⟨va_cnB 0 hw (gB q23) rfl rfl rfl (nn3 hN) (hw _ q22) (by decide +kernel) ⟨Nat.le_of_ble_eq_true rfl, Nat.le_of_ble_eq_true rfl⟩, rfl, hw _ q24⟩ ⟨cP_blind, cP_pre hPc hKc hDc hN⟩ rfl rfl hl.1 rfl (lv_room (Nat.le_of_ble_eq_true rfl)) dX9_init_20 ⟨Nat.le_of_ble_eq_true rfl, Nat.le_of_ble_eq_true rfl⟩) hS (fun q _ h => hFc q h) hFc (fun u9 t H1 locs ht hvm hw1 hB hz1 hk1 hS => ?_)
  obtain ⟨b1_7, cA1_8, hP1, hK1, hD1⟩ := hB
  rw [ht] at hP1
  have hK1 := va_K.moved hvm.symm hK1
  obtain ⟨hP, hD⟩ := va_join (wr := [(h0, .inr (9, [.null, .ref z1, .null, .null, .int 0, .int 0, .int 0])), (b1_3, .inl (cA1_4, 256, .inl (fun _ => 0)))]) (w1 := [(z5, .inr (2, [.ref b1_7, .int 0])), (b1_7, .inl (cA1_8, 256, .inl (fun _ => 0)))]) hP hD [2] [0, 1] rfl rfl (by decide) (by decide) hk1 hFc hP1 hD1
  have hK := (hK.sub (tys' := [(cA1_4, .int)]) [0] rfl).app hK1
  generalize H1 = H at hP hS ⊢
  have hP : va_P (dC, dI) vwCl [(h0, .inr (9, [.null, .ref z1, .null, .null, .int 0, .int 0, .int 0])), (b1_3, .inl (cA1_4, 256, .inl (fun _ => 0))), (z5, .inr (2, [.ref b1_7, .int 0])), (b1_7, .inl (cA1_8, 256, .inl (fun _ => 0)))] H := hP
  have hD : va_D A [(h0, .inr (9, [.null, .ref z1, .null, .null, .int 0, .int 0, .int 0])), (b1_3, .inl (cA1_4, 256, .inl (fun _ => 0))), (z5, .inr (2, [.ref b1_7, .int 0])), (b1_7, .inl (cA1_8, 256, .inl (fun _ => 0)))] := hD
  have hK : va_K (dC, dI) vwCl [(cA1_4, .int), (cA1_8, .int)] s := hK
  refine W.widen (k := 4) (n := 516) (Nat.le_of_ble_eq_true rfl) (Nat.le_of_ble_eq_true rfl) ?_
  refine va_putF (D := (dC, dI)) (ci := 9) (v := .ref z5) (ty := .object "RowTypes$Ints") (C := RX9) (T := TX9) (N := 7) hx hb hw uX9 tyX9 tyX9_ok nmX9 hown hK hP hD hS 0 rfl rfl 2 (by decide) (hw _ q43) (fun _ h9 => h9) rfl hin rfl (by decide +kernel) rfl rfl (Nat.le_of_ble_eq_true rfl) dX9_init_23 (fun H locs hP hD hS => ?_)
  have hP : va_P (dC, dI) vwCl [(h0, .inr (9, [.null, .ref z1, .ref z5, .null, .int 0, .int 0, .int 0])), (b1_3, .inl (cA1_4, 256, .inl (fun _ => 0))), (z5, .inr (2, [.ref b1_7, .int 0])), (b1_7, .inl (cA1_8, 256, .inl (fun _ => 0)))] H := hP
  have hD : va_D A [(h0, .inr (9, [.null, .ref z1, .ref z5, .null, .int 0, .int 0, .int 0])), (b1_3, .inl (cA1_4, 256, .inl (fun _ => 0))), (z5, .inr (2, [.ref b1_7, .int 0])), (b1_7, .inl (cA1_8, 256, .inl (fun _ => 0)))] := hD
  have hP := hP.sub (ws' := [(h0, .inr (9, [.null, .ref z1, .ref z5, .null, .int 0, .int 0, .int 0])), (b1_3, .inl (cA1_4, 256, .inl (fun _ => 0))), (b1_7, .inl (cA1_8, 256, .inl (fun _ => 0)))]) [0, 1, 3] rfl
  have hD := hD.sub (ws' := [(h0, .inr (9, [.null, .ref z1, .ref z5, .null, .int 0, .int 0, .int 0])), (b1_3, .inl (cA1_4, 256, .inl (fun _ => 0))), (b1_7, .inl (cA1_8, 256, .inl (fun _ => 0)))]) [0, 1, 3] (by decide) rfl
  have hK := hK.sub (tys' := [(cA1_4, .int), (cA1_8, .int)]) [0, 1] rfl
  refine lv_aload_n hx hb dX9_init_26 rfl (lv_at hl 0 rfl) ?_
  refine lv_aload_n hx hb dX9_init_27 rfl (lv_at hl 1 rfl) ?_
  refine va_putF (D := (dC, dI)) (ci := 9) (v := .ref a1) (ty := .object "RowTypes$Nodes") (C := RX9) (T := TX9) (N := 7) hx hb hw uX9 tyX9 tyX9_ok nmX9 hown hK hP hD hS 0 rfl rfl 0 (by decide) (hw _ q44) (fun _ h9 => h9) rfl hin rfl (by decide +kernel) rfl rfl (Nat.le_of_ble_eq_true rfl) dX9_init_28 (fun H locs hP hD hS => ?_)
  have hP : va_P (dC, dI) vwCl [(h0, .inr (9, [.ref a1, .ref z1, .ref z5, .null, .int 0, .int 0, .int 0])), (b1_3, .inl (cA1_4, 256, .inl (fun _ => 0))), (b1_7, .inl (cA1_8, 256, .inl (fun _ => 0)))] H := hP
  have hD : va_D A [(h0, .inr (9, [.ref a1, .ref z1, .ref z5, .null, .int 0, .int 0, .int 0])), (b1_3, .inl (cA1_4, 256, .inl (fun _ => 0))), (b1_7, .inl (cA1_8, 256, .inl (fun _ => 0)))] := hD
  have hP9 := hP.sub (ws' := []) [] rfl
  have hD9 := hD.sub (ws' := []) [] (by decide) rfl
  have hK9 := hK.sub (tys' := []) [] rfl
  exact W.vret hx hb hr (fun t ht hW => ⟨⟨(), rfl, trivial, by rw [ht]; exact hP9, va_K.moved hW.alike hK9, hD9⟩, hS.F ht⟩) hS.2.2 dX9_init_31
set_option maxHeartbeats 4000000 in
set_option maxRecDepth 100000 in
theorem c_X10_init (l : Launch) (dC : Nat → ClassId) (dI : Nat → Nat → Nat) (sz : Nat) (h0 : Nat) (a1 : Nat) : Met l yX10_init (Cond.code yX10_init cX10_init 2 none :: wp) ({ frames := 2, cells := 2, slots := 258, locals := 32 }) (cP dC dI [.ref h0, .ref a1] sz [(h0, .inr (10, [.null, .null, .int 0, .int 0, .int 0]))] []) (va_Qv (fun _ : Unit => True) (fun (_ : Unit) t => cB dC dI (va_A [(h0, .inr (10, [.null, .null, .int 0, .int 0, .int 0]))] sz) [] [] t) (va_A [(h0, .inr (10, [.null, .null, .int 0, .int 0, .int 0]))] sz)) 2 258 (va_A [(h0, .inr (10, [.null, .null, .int 0, .int 0, .int 0]))] sz) := by
  refine Met.ofW (cc := cX10_init) (maxL := 2) (ret := none) (by decide) rfl ?_
  intro p e s m args below meth c s₁ B hml hv
  obtain ⟨rfl, hsz, hP, hK, hD0, hN⟩ := hv
  have hx := B.exec
  have hb := B.bytes
  have hr := B.returns
  have hts := atoms_spec (ws := Cond.code yX10_init cX10_init 2 none :: wp) B.pre
  have hw : ∀ w ∈ wp, w.before _ s = true := fun w h => hts w (List.mem_cons_of_mem _ h)
  have hown : s.vm.findClass RX10 = some m.cls := findClass_of_methodNamed B.named
  have hlocks := B.notSynchronized
  have hin : meth.name = "<init>" := (name_of_methodNamed B.named B.method).1
  subst hsz
  have hD := hD0.self (sz := s.heap.size)
  generalize hAe : va_A [(h0, .inr (10, [.null, .null, .int 0, .int 0, .int 0]))] s.heap.size = A at hD ⊢
  have hA : ∀ q : Nat, s.heap.size ≤ q → A q := fun q h => by rw [← hAe]; exact Or.inr h
  have hS : va_S A s.heap s.heap [] := va_S.rf
  have hP : va_P (dC, dI) vwCl [(h0, .inr (10, [.null, .null, .int 0, .int 0, .int 0]))] s.heap := hP
  have hl := lv_entry ([.ref h0, .ref a1]) (n := 2) (Nat.le_of_ble_eq_true rfl)
  rw [lg_entry_eq]
  generalize (lg_sl ([.ref h0, .ref a1]) ++ List.replicate (2 - (lg_sl ([.ref h0, .ref a1])).length) Slot.unset).toArray = ls at hl ⊢
  have hl : lv_has ls 2 [(0, .ref h0), (1, .ref a1)] := hl
  refine lv_aload_n hx hb dX10_init_0 rfl (lv_at hl 0 rfl) ?_
  refine W.objInit hx hb hown (hw _ q45) (hw _ q1) (hw _ q2) rfl (by rw [hml]; exact hl.1) rfl dX10_init_1 (Nat.le_of_ble_eq_true rfl) (Nat.le_of_ble_eq_true rfl) ?_
  refine W.eq (g2 := F0 m 4 ls []) rfl ?_
  refine lv_aload_n hx hb dX10_init_4 rfl (lv_at hl 0 rfl) ?_
  refine va_new (D := (dC, dI)) (ci := 2) (fs := [.null, .int 0]) (C := RX2) (T := TX2) (N := 2) hx hb hw uX2 tyX2 tyX2_ok hown (hw _ q46) (hw _ q21) (hw _ q22) hK hP hD hS hA rfl (by decide +kernel) (Nat.le_of_ble_eq_true rfl) (Nat.le_of_ble_eq_true rfl) dX10_init_5 (fun z1 H hP hD hS => ?_)
  have hP : va_P (dC, dI) vwCl [(h0, .inr (10, [.null, .null, .int 0, .int 0, .int 0])), (z1, .inr (2, [.null, .int 0]))] H := hP
  have hD : va_D A [(h0, .inr (10, [.null, .null, .int 0, .int 0, .int 0])), (z1, .inr (2, [.null, .int 0]))] := hD
  refine W.widen (k := 1) (n := 2) (Nat.le_of_ble_eq_true rfl) (Nat.le_of_ble_eq_true rfl) ?_
  refine lv_dup hx hb dX10_init_8 rfl ?_
  have hPc := hP.sub (ws' := [(z1, .inr (2, [.null, .int 0]))]) [1] rfl
  have hDc := hD.sub (ws' := [(z1, .inr (2, [.null, .int 0]))]) [1] (by decide) rfl
  have hKc := hK.sub (tys' := []) [] rfl
  have hFc := va_free (wc := [(z1, .inr (2, [.null, .int 0]))]) hD hS hA [1] rfl
  refine va_callv (va_runIN (As := []) (rest := [.ref z1, .ref h0]) ⟨hx, hb, hml, hown, hw⟩ (c_X2_init l dC dI _ (z1)) ⟨va_cnB 0 hw (gB q23) rfl rfl rfl (nn4 hN) (hw _ q22) (by decide +kernel) ⟨Nat.le_of_ble_eq_true rfl, Nat.le_of_ble_eq_true rfl⟩, rfl, hw _ q24⟩ ⟨cP_blind, cP_pre hPc hKc hDc hN⟩ rfl rfl hl.1 rfl (lv_room (Nat.le_of_ble_eq_true rfl)) dX10_init_9 ⟨Nat.le_of_ble_eq_true rfl, Nat.le_of_ble_eq_true rfl⟩) hS (fun q _ h => hFc q h) hFc (fun u9 t H1 locs ht hvm hw1 hB hz1 hk1 hS => ?_)
  obtain ⟨b1_3, cA1_4, hP1, hK1, hD1⟩ := hB
  rw [ht] at hP1
  have hK1 := va_K.moved hvm.symm hK1
  obtain ⟨hP, hD⟩ := va_join (wr := [(h0, .inr (10, [.null, .null, .int 0, .int 0, .int 0]))]) (w1 := [(z1, .inr (2, [.ref b1_3, .int 0])), (b1_3, .inl (cA1_4, 256, .inl (fun _ => 0)))]) hP hD [1] [0] rfl rfl (by decide) (by decide) hk1 hFc hP1 hD1
  have hK := (hK.sub (tys' := []) [] rfl).app hK1
  generalize H1 = H at hP hS ⊢
  have hP : va_P (dC, dI) vwCl [(h0, .inr (10, [.null, .null, .int 0, .int 0, .int 0])), (z1, .inr (2, [.ref b1_3, .int 0])), (b1_3, .inl (cA1_4, 256, .inl (fun _ => 0)))] H := hP
  have hD : va_D A [(h0, .inr (10, [.null, .null, .int 0, .int 0, .int 0])), (z1, .inr (2, [.ref b1_3, .int 0])), (b1_3, .inl (cA1_4, 256, .inl (fun _ => 0)))] := hD
  have hK : va_K (dC, dI) vwCl [(cA1_4, .int)] s := hK
  refine W.widen (k := 2) (n := 258) (Nat.le_of_ble_eq_true rfl) (Nat.le_of_ble_eq_true rfl) ?_
  refine va_putF (D := (dC, dI)) (ci := 10) (v := .ref z1) (ty := .object "RowTypes$Ints") (C := RX10) (T := TX10) (N := 5) hx hb hw uX10 tyX10 tyX10_ok nmX10 hown hK hP hD hS 0 rfl rfl 1 (by decide) (hw _ q47) (fun _ h9 => h9) rfl hin rfl (by decide +kernel) rfl rfl (Nat.le_of_ble_eq_true rfl) dX10_init_12 (fun H locs hP hD hS => ?_)
  have hP : va_P (dC, dI) vwCl [(h0, .inr (10, [.null, .ref z1, .int 0, .int 0, .int 0])), (z1, .inr (2, [.ref b1_3, .int 0])), (b1_3, .inl (cA1_4, 256, .inl (fun _ => 0)))] H := hP
  have hD : va_D A [(h0, .inr (10, [.null, .ref z1, .int 0, .int 0, .int 0])), (z1, .inr (2, [.ref b1_3, .int 0])), (b1_3, .inl (cA1_4, 256, .inl (fun _ => 0)))] := hD
  have hP := hP.sub (ws' := [(h0, .inr (10, [.null, .ref z1, .int 0, .int 0, .int 0])), (b1_3, .inl (cA1_4, 256, .inl (fun _ => 0)))]) [0, 2] rfl
  have hD := hD.sub (ws' := [(h0, .inr (10, [.null, .ref z1, .int 0, .int 0, .int 0])), (b1_3, .inl (cA1_4, 256, .inl (fun _ => 0)))]) [0, 2] (by decide) rfl
  have hK := hK.sub (tys' := [(cA1_4, .int)]) [0] rfl
  refine lv_aload_n hx hb dX10_init_15 rfl (lv_at hl 0 rfl) ?_
  refine lv_aload_n hx hb dX10_init_16 rfl (lv_at hl 1 rfl) ?_
  refine va_putF (D := (dC, dI)) (ci := 10) (v := .ref a1) (ty := .object "RowTypes$Nodes") (C := RX10) (T := TX10) (N := 5) hx hb hw uX10 tyX10 tyX10_ok nmX10 hown hK hP hD hS 0 rfl rfl 0 (by decide) (hw _ q48) (fun _ h9 => h9) rfl hin rfl (by decide +kernel) rfl rfl (Nat.le_of_ble_eq_true rfl) dX10_init_17 (fun H locs hP hD hS => ?_)
  have hP : va_P (dC, dI) vwCl [(h0, .inr (10, [.ref a1, .ref z1, .int 0, .int 0, .int 0])), (b1_3, .inl (cA1_4, 256, .inl (fun _ => 0)))] H := hP
  have hD : va_D A [(h0, .inr (10, [.ref a1, .ref z1, .int 0, .int 0, .int 0])), (b1_3, .inl (cA1_4, 256, .inl (fun _ => 0)))] := hD
  have hP9 := hP.sub (ws' := []) [] rfl
  have hD9 := hD.sub (ws' := []) [] (by decide) rfl
  have hK9 := hK.sub (tys' := []) [] rfl
  exact W.vret hx hb hr (fun t ht hW => ⟨⟨(), rfl, trivial, by rw [ht]; exact hP9, va_K.moved hW.alike hK9, hD9⟩, hS.F ht⟩) hS.2.2 dX10_init_20
