set_option maxHeartbeats 4000000 in
set_option maxRecDepth 100000 in
theorem c_X1_init (l : Launch) (dC : Nat → ClassId) (dI : Nat → Nat → Nat) (sz : Nat) (h0 : Nat) (a1 : Nat) (a2 : Nat) (a3 : Nat) : Met l yX1_init (Cond.code yX1_init cX1_init 5 none :: wp) ({ frames := 2, cells := 89, slots := 4368, locals := 32 }) (cP dC dI [.ref h0, .ref a1, .ref a2, .ref a3] sz [(h0, .inr (1, [.null, .null, .null, .int 0, .null, .null, .null, .null, .null, .int 0, .null, .int 0, .null, .int 0, .int 0, .int 0]))] []) (va_Qv (fun _ : Unit => True) (fun (_ : Unit) t => cB dC dI (va_A [(h0, .inr (1, [.null, .null, .null, .int 0, .null, .null, .null, .null, .null, .int 0, .null, .int 0, .null, .int 0, .int 0, .int 0]))] sz) [] [] t) (va_A [(h0, .inr (1, [.null, .null, .null, .int 0, .null, .null, .null, .null, .null, .int 0, .null, .int 0, .null, .int 0, .int 0, .int 0]))] sz)) 89 4368 (va_A [(h0, .inr (1, [.null, .null, .null, .int 0, .null, .null, .null, .null, .null, .int 0, .null, .int 0, .null, .int 0, .int 0, .int 0]))] sz) := by
  refine Met.ofW (cc := cX1_init) (maxL := 5) (ret := none) (by decide) rfl ?_
  intro p e s m args below meth c s₁ B hml hv
  obtain ⟨rfl, hsz, hP, hK, hD0, hN⟩ := hv
  have hx := B.exec
  have hb := B.bytes
  have hr := B.returns
  have hts := atoms_spec (ws := Cond.code yX1_init cX1_init 5 none :: wp) B.pre
  have hw : ∀ w ∈ wp, w.before _ s = true := fun w h => hts w (List.mem_cons_of_mem _ h)
  have hown : s.vm.findClass RX1 = some m.cls := findClass_of_methodNamed B.named
  have hlocks := B.notSynchronized
  have hin : meth.name = "<init>" := (name_of_methodNamed B.named B.method).1
  subst hsz
  have hD := hD0.self (sz := s.heap.size)
  generalize hAe : va_A [(h0, .inr (1, [.null, .null, .null, .int 0, .null, .null, .null, .null, .null, .int 0, .null, .int 0, .null, .int 0, .int 0, .int 0]))] s.heap.size = A at hD ⊢
  have hA : ∀ q : Nat, s.heap.size ≤ q → A q := fun q h => by rw [← hAe]; exact Or.inr h
  have hS : va_S A s.heap s.heap [] := va_S.rf
  have hP : va_P (dC, dI) vwCl [(h0, .inr (1, [.null, .null, .null, .int 0, .null, .null, .null, .null, .null, .int 0, .null, .int 0, .null, .int 0, .int 0, .int 0]))] s.heap := hP
  have hl := lv_entry ([.ref h0, .ref a1, .ref a2, .ref a3]) (n := 5) (Nat.le_of_ble_eq_true rfl)
  rw [lg_entry_eq]
  generalize (lg_sl ([.ref h0, .ref a1, .ref a2, .ref a3]) ++ List.replicate (5 - (lg_sl ([.ref h0, .ref a1, .ref a2, .ref a3])).length) Slot.unset).toArray = ls at hl ⊢
  have hl : lv_has ls 5 [(0, .ref h0), (1, .ref a1), (2, .ref a2), (3, .ref a3)] := hl
  refine lv_aload_n hx hb dX1_init_0 rfl (lv_at hl 0 rfl) ?_
  refine W.objInit hx hb hown (hw _ q49) (hw _ q1) (hw _ q2) rfl (by rw [hml]; exact hl.1) rfl dX1_init_1 (Nat.le_of_ble_eq_true rfl) (Nat.le_of_ble_eq_true rfl) ?_
  refine W.eq (g2 := F0 m 4 ls []) rfl ?_
  refine lv_aload_n hx hb dX1_init_4 rfl (lv_at hl 0 rfl) ?_
  refine lv_bipush (v := 100) hx hb dX1_init_5 (by decide) ?_
  refine va_newa (D := (dC, dI)) (atype := .int) (ty := .int) (a0 := (100, .inl (fun _ => 0))) (N' := 100) hx hb (hw _ q3) rfl hK hP hD hS hA (fun _ => rfl) (by decide) (by decide +kernel) (Nat.le_of_ble_eq_true rfl) (Nat.le_of_ble_eq_true rfl) (Nat.le_of_ble_eq_true rfl) dX1_init_7 (fun z1 cA2 H hK hP hD hS => ?_)
  have hP : va_P (dC, dI) vwCl [(h0, .inr (1, [.null, .null, .null, .int 0, .null, .null, .null, .null, .null, .int 0, .null, .int 0, .null, .int 0, .int 0, .int 0])), (z1, .inl (cA2, 100, .inl (fun _ => 0)))] H := hP
  have hD : va_D A [(h0, .inr (1, [.null, .null, .null, .int 0, .null, .null, .null, .null, .null, .int 0, .null, .int 0, .null, .int 0, .int 0, .int 0])), (z1, .inl (cA2, 100, .inl (fun _ => 0)))] := hD
  have hK : va_K (dC, dI) vwCl [(cA2, .int)] s := hK
  refine W.widen (k := 1) (n := 100) (Nat.le_of_ble_eq_true rfl) (Nat.le_of_ble_eq_true rfl) ?_
  refine va_putF (D := (dC, dI)) (ci := 1) (v := .ref z1) (ty := .array .int) (C := RX1) (T := TX1) (N := 16) hx hb hw uX1 tyX1 tyX1_ok nmX1 hown hK hP hD hS 0 rfl rfl 5 (by decide) (hw _ q50) (fun _ h9 => h9) rfl hin rfl (by decide +kernel) rfl rfl (Nat.le_of_ble_eq_true rfl) dX1_init_9 (fun H locs hP hD hS => ?_)
  have hP : va_P (dC, dI) vwCl [(h0, .inr (1, [.null, .null, .null, .int 0, .null, .ref z1, .null, .null, .null, .int 0, .null, .int 0, .null, .int 0, .int 0, .int 0])), (z1, .inl (cA2, 100, .inl (fun _ => 0)))] H := hP
  have hD : va_D A [(h0, .inr (1, [.null, .null, .null, .int 0, .null, .ref z1, .null, .null, .null, .int 0, .null, .int 0, .null, .int 0, .int 0, .int 0])), (z1, .inl (cA2, 100, .inl (fun _ => 0)))] := hD
  have hP := hP.sub (ws' := [(h0, .inr (1, [.null, .null, .null, .int 0, .null, .ref z1, .null, .null, .null, .int 0, .null, .int 0, .null, .int 0, .int 0, .int 0]))]) [0] rfl
  have hD := hD.sub (ws' := [(h0, .inr (1, [.null, .null, .null, .int 0, .null, .ref z1, .null, .null, .null, .int 0, .null, .int 0, .null, .int 0, .int 0, .int 0]))]) [0] (by decide) rfl
  have hK := hK.sub (tys' := []) [] rfl
  refine lv_aload_n hx hb dX1_init_12 rfl (lv_at hl 0 rfl) ?_
  refine lv_bipush (v := 100) hx hb dX1_init_13 (by decide) ?_
  refine va_newa (D := (dC, dI)) (atype := .int) (ty := .int) (a0 := (100, .inl (fun _ => 0))) (N' := 100) hx hb (hw _ q3) rfl hK hP hD hS hA (fun _ => rfl) (by decide) (by decide +kernel) (Nat.le_of_ble_eq_true rfl) (Nat.le_of_ble_eq_true rfl) (Nat.le_of_ble_eq_true rfl) dX1_init_15 (fun z3 cA4 H hK hP hD hS => ?_)
  have hP : va_P (dC, dI) vwCl [(h0, .inr (1, [.null, .null, .null, .int 0, .null, .ref z1, .null, .null, .null, .int 0, .null, .int 0, .null, .int 0, .int 0, .int 0])), (z3, .inl (cA4, 100, .inl (fun _ => 0)))] H := hP
  have hD : va_D A [(h0, .inr (1, [.null, .null, .null, .int 0, .null, .ref z1, .null, .null, .null, .int 0, .null, .int 0, .null, .int 0, .int 0, .int 0])), (z3, .inl (cA4, 100, .inl (fun _ => 0)))] := hD
  have hK : va_K (dC, dI) vwCl [(cA4, .int)] s := hK
  refine W.widen (k := 2) (n := 200) (Nat.le_of_ble_eq_true rfl) (Nat.le_of_ble_eq_true rfl) ?_
  refine va_putF (D := (dC, dI)) (ci := 1) (v := .ref z3) (ty := .array .int) (C := RX1) (T := TX1) (N := 16) hx hb hw uX1 tyX1 tyX1_ok nmX1 hown hK hP hD hS 0 rfl rfl 6 (by decide) (hw _ q51) (fun _ h9 => h9) rfl hin rfl (by decide +kernel) rfl rfl (Nat.le_of_ble_eq_true rfl) dX1_init_17 (fun H locs hP hD hS => ?_)
  have hP : va_P (dC, dI) vwCl [(h0, .inr (1, [.null, .null, .null, .int 0, .null, .ref z1, .ref z3, .null, .null, .int 0, .null, .int 0, .null, .int 0, .int 0, .int 0])), (z3, .inl (cA4, 100, .inl (fun _ => 0)))] H := hP
  have hD : va_D A [(h0, .inr (1, [.null, .null, .null, .int 0, .null, .ref z1, .ref z3, .null, .null, .int 0, .null, .int 0, .null, .int 0, .int 0, .int 0])), (z3, .inl (cA4, 100, .inl (fun _ => 0)))] := hD
  have hP := hP.sub (ws' := [(h0, .inr (1, [.null, .null, .null, .int 0, .null, .ref z1, .ref z3, .null, .null, .int 0, .null, .int 0, .null, .int 0, .int 0, .int 0]))]) [0] rfl
  have hD := hD.sub (ws' := [(h0, .inr (1, [.null, .null, .null, .int 0, .null, .ref z1, .ref z3, .null, .null, .int 0, .null, .int 0, .null, .int 0, .int 0, .int 0]))]) [0] (by decide) rfl
  have hK := hK.sub (tys' := []) [] rfl
  refine lv_aload_n hx hb dX1_init_20 rfl (lv_at hl 0 rfl) ?_
  refine lv_bipush (v := 100) hx hb dX1_init_21 (by decide) ?_
  refine va_newa (D := (dC, dI)) (atype := .int) (ty := .int) (a0 := (100, .inl (fun _ => 0))) (N' := 100) hx hb (hw _ q3) rfl hK hP hD hS hA (fun _ => rfl) (by decide) (by decide +kernel) (Nat.le_of_ble_eq_true rfl) (Nat.le_of_ble_eq_true rfl) (Nat.le_of_ble_eq_true rfl) dX1_init_23 (fun z5 cA6 H hK hP hD hS => ?_)
  have hP : va_P (dC, dI) vwCl [(h0, .inr (1, [.null, .null, .null, .int 0, .null, .ref z1, .ref z3, .null, .null, .int 0, .null, .int 0, .null, .int 0, .int 0, .int 0])), (z5, .inl (cA6, 100, .inl (fun _ => 0)))] H := hP
  have hD : va_D A [(h0, .inr (1, [.null, .null, .null, .int 0, .null, .ref z1, .ref z3, .null, .null, .int 0, .null, .int 0, .null, .int 0, .int 0, .int 0])), (z5, .inl (cA6, 100, .inl (fun _ => 0)))] := hD
  have hK : va_K (dC, dI) vwCl [(cA6, .int)] s := hK
  refine W.widen (k := 3) (n := 300) (Nat.le_of_ble_eq_true rfl) (Nat.le_of_ble_eq_true rfl) ?_
  refine va_putF (D := (dC, dI)) (ci := 1) (v := .ref z5) (ty := .array .int) (C := RX1) (T := TX1) (N := 16) hx hb hw uX1 tyX1 tyX1_ok nmX1 hown hK hP hD hS 0 rfl rfl 7 (by decide) (hw _ q52) (fun _ h9 => h9) rfl hin rfl (by decide +kernel) rfl rfl (Nat.le_of_ble_eq_true rfl) dX1_init_25 (fun H locs hP hD hS => ?_)
  have hP : va_P (dC, dI) vwCl [(h0, .inr (1, [.null, .null, .null, .int 0, .null, .ref z1, .ref z3, .ref z5, .null, .int 0, .null, .int 0, .null, .int 0, .int 0, .int 0])), (z5, .inl (cA6, 100, .inl (fun _ => 0)))] H := hP
  have hD : va_D A [(h0, .inr (1, [.null, .null, .null, .int 0, .null, .ref z1, .ref z3, .ref z5, .null, .int 0, .null, .int 0, .null, .int 0, .int 0, .int 0])), (z5, .inl (cA6, 100, .inl (fun _ => 0)))] := hD
  have hP := hP.sub (ws' := [(h0, .inr (1, [.null, .null, .null, .int 0, .null, .ref z1, .ref z3, .ref z5, .null, .int 0, .null, .int 0, .null, .int 0, .int 0, .int 0]))]) [0] rfl
  have hD := hD.sub (ws' := [(h0, .inr (1, [.null, .null, .null, .int 0, .null, .ref z1, .ref z3, .ref z5, .null, .int 0, .null, .int 0, .null, .int 0, .int 0, .int 0]))]) [0] (by decide) rfl
  have hK := hK.sub (tys' := []) [] rfl
  refine lv_aload_n hx hb dX1_init_28 rfl (lv_at hl 0 rfl) ?_
  refine lv_bipush (v := 100) hx hb dX1_init_29 (by decide) ?_
  refine va_newq (D := (dC, dI)) (C := RX3) (N' := 100) hx hb hown (hw _ q53) (ao0 hN) hK hP hD hS hA (by decide) (by decide +kernel) (Nat.le_of_ble_eq_true rfl) (Nat.le_of_ble_eq_true rfl) (Nat.le_of_ble_eq_true rfl) dX1_init_31 (fun z7 cA8 H hK hP hD hS => ?_)
  have hP : va_P (dC, dI) vwCl [(h0, .inr (1, [.null, .null, .null, .int 0, .null, .ref z1, .ref z3, .ref z5, .null, .int 0, .null, .int 0, .null, .int 0, .int 0, .int 0])), (z7, .inl (cA8, 100, .inr (.inr (.inr (.inr (fun _ => none))))))] H := hP
  have hD : va_D A [(h0, .inr (1, [.null, .null, .null, .int 0, .null, .ref z1, .ref z3, .ref z5, .null, .int 0, .null, .int 0, .null, .int 0, .int 0, .int 0])), (z7, .inl (cA8, 100, .inr (.inr (.inr (.inr (fun _ => none))))))] := hD
  have hK : va_K (dC, dI) vwCl [(cA8, .object RX3)] s := hK
  refine W.widen (k := 4) (n := 400) (Nat.le_of_ble_eq_true rfl) (Nat.le_of_ble_eq_true rfl) ?_
  refine va_putF (D := (dC, dI)) (ci := 1) (v := .ref z7) (ty := .array (.object "RowTypes$Kept")) (C := RX1) (T := TX1) (N := 16) hx hb hw uX1 tyX1 tyX1_ok nmX1 hown hK hP hD hS 0 rfl rfl 8 (by decide) (hw _ q54) (fun _ h9 => h9) rfl hin rfl (by decide +kernel) rfl rfl (Nat.le_of_ble_eq_true rfl) dX1_init_34 (fun H locs hP hD hS => ?_)
  have hP : va_P (dC, dI) vwCl [(h0, .inr (1, [.null, .null, .null, .int 0, .null, .ref z1, .ref z3, .ref z5, .ref z7, .int 0, .null, .int 0, .null, .int 0, .int 0, .int 0])), (z7, .inl (cA8, 100, .inr (.inr (.inr (.inr (fun _ => none))))))] H := hP
  have hD : va_D A [(h0, .inr (1, [.null, .null, .null, .int 0, .null, .ref z1, .ref z3, .ref z5, .ref z7, .int 0, .null, .int 0, .null, .int 0, .int 0, .int 0])), (z7, .inl (cA8, 100, .inr (.inr (.inr (.inr (fun _ => none))))))] := hD
  have hP := hP.sub (ws' := [(h0, .inr (1, [.null, .null, .null, .int 0, .null, .ref z1, .ref z3, .ref z5, .ref z7, .int 0, .null, .int 0, .null, .int 0, .int 0, .int 0]))]) [0] rfl
  have hD := hD.sub (ws' := [(h0, .inr (1, [.null, .null, .null, .int 0, .null, .ref z1, .ref z3, .ref z5, .ref z7, .int 0, .null, .int 0, .null, .int 0, .int 0, .int 0]))]) [0] (by decide) rfl
  have hK := hK.sub (tys' := []) [] rfl
  refine lv_aload_n hx hb dX1_init_37 rfl (lv_at hl 0 rfl) ?_
  refine lv_bipush (v := 20) hx hb dX1_init_38 (by decide) ?_
  refine va_newq (D := (dC, dI)) (C := RX3) (N' := 20) hx hb hown (hw _ q53) (ao0 hN) hK hP hD hS hA (by decide) (by decide +kernel) (Nat.le_of_ble_eq_true rfl) (Nat.le_of_ble_eq_true rfl) (Nat.le_of_ble_eq_true rfl) dX1_init_40 (fun z9 cA10 H hK hP hD hS => ?_)
  have hP : va_P (dC, dI) vwCl [(h0, .inr (1, [.null, .null, .null, .int 0, .null, .ref z1, .ref z3, .ref z5, .ref z7, .int 0, .null, .int 0, .null, .int 0, .int 0, .int 0])), (z9, .inl (cA10, 20, .inr (.inr (.inr (.inr (fun _ => none))))))] H := hP
  have hD : va_D A [(h0, .inr (1, [.null, .null, .null, .int 0, .null, .ref z1, .ref z3, .ref z5, .ref z7, .int 0, .null, .int 0, .null, .int 0, .int 0, .int 0])), (z9, .inl (cA10, 20, .inr (.inr (.inr (.inr (fun _ => none))))))] := hD
  have hK : va_K (dC, dI) vwCl [(cA10, .object RX3)] s := hK
  refine W.widen (k := 5) (n := 420) (Nat.le_of_ble_eq_true rfl) (Nat.le_of_ble_eq_true rfl) ?_
  refine va_putF (D := (dC, dI)) (ci := 1) (v := .ref z9) (ty := .array (.object "RowTypes$Kept")) (C := RX1) (T := TX1) (N := 16) hx hb hw uX1 tyX1 tyX1_ok nmX1 hown hK hP hD hS 0 rfl rfl 10 (by decide) (hw _ q55) (fun _ h9 => h9) rfl hin rfl (by decide +kernel) rfl rfl (Nat.le_of_ble_eq_true rfl) dX1_init_43 (fun H locs hP hD hS => ?_)
  have hP : va_P (dC, dI) vwCl [(h0, .inr (1, [.null, .null, .null, .int 0, .null, .ref z1, .ref z3, .ref z5, .ref z7, .int 0, .ref z9, .int 0, .null, .int 0, .int 0, .int 0])), (z9, .inl (cA10, 20, .inr (.inr (.inr (.inr (fun _ => none))))))] H := hP
  have hD : va_D A [(h0, .inr (1, [.null, .null, .null, .int 0, .null, .ref z1, .ref z3, .ref z5, .ref z7, .int 0, .ref z9, .int 0, .null, .int 0, .int 0, .int 0])), (z9, .inl (cA10, 20, .inr (.inr (.inr (.inr (fun _ => none))))))] := hD
  refine lv_aload_n hx hb dX1_init_46 rfl (lv_at hl 0 rfl) ?_
  refine va_new (D := (dC, dI)) (ci := 3) (fs := [.null, .int 0, .null, .null, .int 0]) (C := RX3) (T := TX3) (N := 5) hx hb hw uX3 tyX3 tyX3_ok hown (hw _ q53) (hw _ q14) (hw _ q15) hK hP hD hS hA rfl (by decide +kernel) (Nat.le_of_ble_eq_true rfl) (Nat.le_of_ble_eq_true rfl) dX1_init_47 (fun z11 H hP hD hS => ?_)
  have hP : va_P (dC, dI) vwCl [(h0, .inr (1, [.null, .null, .null, .int 0, .null, .ref z1, .ref z3, .ref z5, .ref z7, .int 0, .ref z9, .int 0, .null, .int 0, .int 0, .int 0])), (z9, .inl (cA10, 20, .inr (.inr (.inr (.inr (fun _ => none)))))), (z11, .inr (3, [.null, .int 0, .null, .null, .int 0]))] H := hP
  have hD : va_D A [(h0, .inr (1, [.null, .null, .null, .int 0, .null, .ref z1, .ref z3, .ref z5, .ref z7, .int 0, .ref z9, .int 0, .null, .int 0, .int 0, .int 0])), (z9, .inl (cA10, 20, .inr (.inr (.inr (.inr (fun _ => none)))))), (z11, .inr (3, [.null, .int 0, .null, .null, .int 0]))] := hD
  refine W.widen (k := 6) (n := 425) (Nat.le_of_ble_eq_true rfl) (Nat.le_of_ble_eq_true rfl) ?_
  refine lv_dup hx hb dX1_init_50 rfl ?_
  have hPc := hP.sub (ws' := [(z11, .inr (3, [.null, .int 0, .null, .null, .int 0]))]) [2] rfl
  have hDc := hD.sub (ws' := [(z11, .inr (3, [.null, .int 0, .null, .null, .int 0]))]) [2] (by decide) rfl
  have hKc := hK.sub (tys' := []) [] rfl
  have hFc := va_free (wc := [(z11, .inr (3, [.null, .int 0, .null, .null, .int 0]))]) hD hS hA [2] rfl
  refine va_callv (va_runIN (As := []) (rest := [.ref z11, .ref h0]) ⟨hx, hb, hml, hown, hw⟩ (c_X3_init l dC dI _ (z11)) ⟨va_cnB 0 hw (gB q16) rfl rfl rfl (nn5 hN) (hw _ q15) (by decide +kernel) ⟨Nat.le_of_ble_eq_true rfl, Nat.le_of_ble_eq_true rfl⟩, rfl, hw _ q17⟩ ⟨cP_blind, cP_pre hPc hKc hDc hN⟩ rfl rfl hl.1 rfl (lv_room (Nat.le_of_ble_eq_true rfl)) dX1_init_51 ⟨Nat.le_of_ble_eq_true rfl, Nat.le_of_ble_eq_true rfl⟩) hS (fun q _ h => hFc q h) hFc (fun u9 t H1 locs ht hvm hw1 hB hz1 hk1 hS => ?_)
  obtain ⟨b1_13, b2_14, b3_15, hP1, hK1, hD1⟩ := hB
  rw [ht] at hP1
  have hK1 := va_K.moved hvm.symm hK1
  obtain ⟨hP, hD⟩ := va_join (wr := [(h0, .inr (1, [.null, .null, .null, .int 0, .null, .ref z1, .ref z3, .ref z5, .ref z7, .int 0, .ref z9, .int 0, .null, .int 0, .int 0, .int 0])), (z9, .inl (cA10, 20, .inr (.inr (.inr (.inr (fun _ => none))))))]) (w1 := [(z11, .inr (3, [.ref b1_13, .int 0, .ref b2_14, .ref b3_15, .int 0]))]) hP hD [2] [0, 1] rfl rfl (by decide) (by decide) hk1 hFc hP1 hD1
  have hK := (hK.sub (tys' := [(cA10, .object RX3)]) [0] rfl).app hK1
  generalize H1 = H at hP hS ⊢
  have hP : va_P (dC, dI) vwCl [(h0, .inr (1, [.null, .null, .null, .int 0, .null, .ref z1, .ref z3, .ref z5, .ref z7, .int 0, .ref z9, .int 0, .null, .int 0, .int 0, .int 0])), (z9, .inl (cA10, 20, .inr (.inr (.inr (.inr (fun _ => none)))))), (z11, .inr (3, [.ref b1_13, .int 0, .ref b2_14, .ref b3_15, .int 0]))] H := hP
  have hD : va_D A [(h0, .inr (1, [.null, .null, .null, .int 0, .null, .ref z1, .ref z3, .ref z5, .ref z7, .int 0, .ref z9, .int 0, .null, .int 0, .int 0, .int 0])), (z9, .inl (cA10, 20, .inr (.inr (.inr (.inr (fun _ => none)))))), (z11, .inr (3, [.ref b1_13, .int 0, .ref b2_14, .ref b3_15, .int 0]))] := hD
  have hK : va_K (dC, dI) vwCl [(cA10, .object RX3)] s := hK
  refine W.widen (k := 9) (n := 608) (Nat.le_of_ble_eq_true rfl) (Nat.le_of_ble_eq_true rfl) ?_
  refine va_putF (D := (dC, dI)) (ci := 1) (v := .ref z11) (ty := .object "RowTypes$Kept") (C := RX1) (T := TX1) (N := 16) hx hb hw uX1 tyX1 tyX1_ok nmX1 hown hK hP hD hS 0 rfl rfl 12 (by decide) (hw _ q56) (fun _ h9 => h9) rfl hin rfl (by decide +kernel) rfl rfl (Nat.le_of_ble_eq_true rfl) dX1_init_54 (fun H locs hP hD hS => ?_)
  have hP : va_P (dC, dI) vwCl [(h0, .inr (1, [.null, .null, .null, .int 0, .null, .ref z1, .ref z3, .ref z5, .ref z7, .int 0, .ref z9, .int 0, .ref z11, .int 0, .int 0, .int 0])), (z9, .inl (cA10, 20, .inr (.inr (.inr (.inr (fun _ => none)))))), (z11, .inr (3, [.ref b1_13, .int 0, .ref b2_14, .ref b3_15, .int 0]))] H := hP
  have hD : va_D A [(h0, .inr (1, [.null, .null, .null, .int 0, .null, .ref z1, .ref z3, .ref z5, .ref z7, .int 0, .ref z9, .int 0, .ref z11, .int 0, .int 0, .int 0])), (z9, .inl (cA10, 20, .inr (.inr (.inr (.inr (fun _ => none)))))), (z11, .inr (3, [.ref b1_13, .int 0, .ref b2_14, .ref b3_15, .int 0]))] := hD
  have hP := hP.sub (ws' := [(h0, .inr (1, [.null, .null, .null, .int 0, .null, .ref z1, .ref z3, .ref z5, .ref z7, .int 0, .ref z9, .int 0, .ref z11, .int 0, .int 0, .int 0])), (z9, .inl (cA10, 20, .inr (.inr (.inr (.inr (fun _ => none))))))]) [0, 1] rfl
  have hD := hD.sub (ws' := [(h0, .inr (1, [.null, .null, .null, .int 0, .null, .ref z1, .ref z3, .ref z5, .ref z7, .int 0, .ref z9, .int 0, .ref z11, .int 0, .int 0, .int 0])), (z9, .inl (cA10, 20, .inr (.inr (.inr (.inr (fun _ => none))))))]) [0, 1] (by decide) rfl
  have hK := hK.sub (tys' := [(cA10, .object RX3)]) [0] rfl
  refine lv_aload_n hx hb dX1_init_57 rfl (lv_at hl 0 rfl) ?_
  refine lv_aload_n hx hb dX1_init_58 rfl (lv_at hl 1 rfl) ?_
  refine va_putF (D := (dC, dI)) (ci := 1) (v := .ref a1) (ty := .object "RowTypes$Nodes") (C := RX1) (T := TX1) (N := 16) hx hb hw uX1 tyX1 tyX1_ok nmX1 hown hK hP hD hS 0 rfl rfl 0 (by decide) (hw _ q57) (fun _ h9 => h9) rfl hin rfl (by decide +kernel) rfl rfl (Nat.le_of_ble_eq_true rfl) dX1_init_59 (fun H locs hP hD hS => ?_)
  have hP : va_P (dC, dI) vwCl [(h0, .inr (1, [.ref a1, .null, .null, .int 0, .null, .ref z1, .ref z3, .ref z5, .ref z7, .int 0, .ref z9, .int 0, .ref z11, .int 0, .int 0, .int 0])), (z9, .inl (cA10, 20, .inr (.inr (.inr (.inr (fun _ => none))))))] H := hP
  have hD : va_D A [(h0, .inr (1, [.ref a1, .null, .null, .int 0, .null, .ref z1, .ref z3, .ref z5, .ref z7, .int 0, .ref z9, .int 0, .ref z11, .int 0, .int 0, .int 0])), (z9, .inl (cA10, 20, .inr (.inr (.inr (.inr (fun _ => none))))))] := hD
  refine lv_aload_n hx hb dX1_init_62 rfl (lv_at hl 0 rfl) ?_
  refine lv_aload_n hx hb dX1_init_63 rfl (lv_at hl 2 rfl) ?_
  refine va_putF (D := (dC, dI)) (ci := 1) (v := .ref a2) (ty := .object "RowTypes$Unifier") (C := RX1) (T := TX1) (N := 16) hx hb hw uX1 tyX1 tyX1_ok nmX1 hown hK hP hD hS 0 rfl rfl 1 (by decide) (hw _ q58) (fun _ h9 => h9) rfl hin rfl (by decide +kernel) rfl rfl (Nat.le_of_ble_eq_true rfl) dX1_init_64 (fun H locs hP hD hS => ?_)
  have hP : va_P (dC, dI) vwCl [(h0, .inr (1, [.ref a1, .ref a2, .null, .int 0, .null, .ref z1, .ref z3, .ref z5, .ref z7, .int 0, .ref z9, .int 0, .ref z11, .int 0, .int 0, .int 0])), (z9, .inl (cA10, 20, .inr (.inr (.inr (.inr (fun _ => none))))))] H := hP
  have hD : va_D A [(h0, .inr (1, [.ref a1, .ref a2, .null, .int 0, .null, .ref z1, .ref z3, .ref z5, .ref z7, .int 0, .ref z9, .int 0, .ref z11, .int 0, .int 0, .int 0])), (z9, .inl (cA10, 20, .inr (.inr (.inr (.inr (fun _ => none))))))] := hD
  refine lv_aload_n hx hb dX1_init_67 rfl (lv_at hl 0 rfl) ?_
  refine lv_aload_n hx hb dX1_init_68 rfl (lv_at hl 3 rfl) ?_
  refine va_putF (D := (dC, dI)) (ci := 1) (v := .ref a3) (ty := .array (.object "RowTypes$Expression")) (C := RX1) (T := TX1) (N := 16) hx hb hw uX1 tyX1 tyX1_ok nmX1 hown hK hP hD hS 0 rfl rfl 2 (by decide) (hw _ q59) (fun _ h9 => h9) rfl hin rfl (by decide +kernel) rfl rfl (Nat.le_of_ble_eq_true rfl) dX1_init_69 (fun H locs hP hD hS => ?_)
  have hP : va_P (dC, dI) vwCl [(h0, .inr (1, [.ref a1, .ref a2, .ref a3, .int 0, .null, .ref z1, .ref z3, .ref z5, .ref z7, .int 0, .ref z9, .int 0, .ref z11, .int 0, .int 0, .int 0])), (z9, .inl (cA10, 20, .inr (.inr (.inr (.inr (fun _ => none))))))] H := hP
  have hD : va_D A [(h0, .inr (1, [.ref a1, .ref a2, .ref a3, .int 0, .null, .ref z1, .ref z3, .ref z5, .ref z7, .int 0, .ref z9, .int 0, .ref z11, .int 0, .int 0, .int 0])), (z9, .inl (cA10, 20, .inr (.inr (.inr (.inr (fun _ => none))))))] := hD
  refine lv_iconst (v := 0) hx hb dX1_init_72 (by decide) ?_
  refine lv_istore (lv' := [(4, .int 0), (0, .ref h0), (1, .ref a1), (2, .ref a2), (3, .ref a3)]) hx hb dX1_init_73 hl (by decide) rfl (fun ls hl => ?_)
  refine lv_iload hx hb dX1_init_75 (lv_at hl 0 rfl) ?_
  refine lv_aload_n hx hb dX1_init_77 rfl (lv_at hl 1 rfl) ?_
  refine va_get (D := (dC, dI)) (ci := 1) (v := .ref z9) (C := RX1) (T := TX1) (N := 16) hx hb hw uX1 hown hK hP 0 rfl rfl 10 (by decide) (hw _ q55) (fun _ h9 => h9) rfl dX1_init_78 ?_
  refine va_alen (D := (dC, dI)) hx hb hK hP 1 0 rfl rfl (v := 20) rfl dX1_init_81 ?_
  refine lv_icmp_ge (tgt := 105) hx hb dX1_init_82 (by decide) (fun c9 => absurd c9 (by decide)) (fun _ => ?_)
  refine lv_aload_n hx hb dX1_init_85 rfl (lv_at hl 1 rfl) ?_
  refine va_get (D := (dC, dI)) (ci := 1) (v := .ref z9) (C := RX1) (T := TX1) (N := 16) hx hb hw uX1 hown hK hP 0 rfl rfl 10 (by decide) (hw _ q55) (fun _ h9 => h9) rfl dX1_init_86 ?_
  refine lv_iload hx hb dX1_init_89 (lv_at hl 0 rfl) ?_
  refine va_new (D := (dC, dI)) (ci := 3) (fs := [.null, .int 0, .null, .null, .int 0]) (C := RX3) (T := TX3) (N := 5) hx hb hw uX3 tyX3 tyX3_ok hown (hw _ q53) (hw _ q14) (hw _ q15) hK hP hD hS hA rfl (by decide +kernel) (Nat.le_of_ble_eq_true rfl) (Nat.le_of_ble_eq_true rfl) dX1_init_91 (fun z16 H hP hD hS => ?_)
  have hP : va_P (dC, dI) vwCl [(h0, .inr (1, [.ref a1, .ref a2, .ref a3, .int 0, .null, .ref z1, .ref z3, .ref z5, .ref z7, .int 0, .ref z9, .int 0, .ref z11, .int 0, .int 0, .int 0])), (z9, .inl (cA10, 20, .inr (.inr (.inr (.inr (fun _ => none)))))), (z16, .inr (3, [.null, .int 0, .null, .null, .int 0]))] H := hP
  have hD : va_D A [(h0, .inr (1, [.ref a1, .ref a2, .ref a3, .int 0, .null, .ref z1, .ref z3, .ref z5, .ref z7, .int 0, .ref z9, .int 0, .ref z11, .int 0, .int 0, .int 0])), (z9, .inl (cA10, 20, .inr (.inr (.inr (.inr (fun _ => none)))))), (z16, .inr (3, [.null, .int 0, .null, .null, .int 0]))] := hD
  refine W.widen (k := 10) (n := 613) (Nat.le_of_ble_eq_true rfl) (Nat.le_of_ble_eq_true rfl) ?_
  refine lv_dup hx hb dX1_init_94 rfl ?_
  have hPc := hP.sub (ws' := [(z16, .inr (3, [.null, .int 0, .null, .null, .int 0]))]) [2] rfl
  have hDc := hD.sub (ws' := [(z16, .inr (3, [.null, .int 0, .null, .null, .int 0]))]) [2] (by decide) rfl
  have hKc := hK.sub (tys' := []) [] rfl
  have hFc := va_free (wc := [(z16, .inr (3, [.null, .int 0, .null, .null, .int 0]))]) hD hS hA [2] rfl
  refine va_callv (va_runIN (As := []) (rest := [.ref z16, .int 0, .ref z9]) ⟨hx, hb, hml, hown, hw⟩ (c_X3_init l dC dI _ (z16)) ⟨va_cnB 0 hw (gB q16) rfl rfl rfl (nn5 hN) (hw _ q15) (by decide +kernel) ⟨Nat.le_of_ble_eq_true rfl, Nat.le_of_ble_eq_true rfl⟩, rfl, hw _ q17⟩ ⟨cP_blind, cP_pre hPc hKc hDc hN⟩ rfl rfl hl.1 rfl (lv_room (Nat.le_of_ble_eq_true rfl)) dX1_init_95 ⟨Nat.le_of_ble_eq_true rfl, Nat.le_of_ble_eq_true rfl⟩) hS (fun q _ h => hFc q h) hFc (fun u9 t H1 locs ht hvm hw1 hB hz1 hk1 hS => ?_)
  obtain ⟨b1_18, b2_19, b3_20, hP1, hK1, hD1⟩ := hB
  rw [ht] at hP1
  have hK1 := va_K.moved hvm.symm hK1
  obtain ⟨hP, hD⟩ := va_join (wr := [(h0, .inr (1, [.ref a1, .ref a2, .ref a3, .int 0, .null, .ref z1, .ref z3, .ref z5, .ref z7, .int 0, .ref z9, .int 0, .ref z11, .int 0, .int 0, .int 0])), (z9, .inl (cA10, 20, .inr (.inr (.inr (.inr (fun _ => none))))))]) (w1 := [(z16, .inr (3, [.ref b1_18, .int 0, .ref b2_19, .ref b3_20, .int 0]))]) hP hD [2] [0, 1] rfl rfl (by decide) (by decide) hk1 hFc hP1 hD1
  have hK := (hK.sub (tys' := [(cA10, .object RX3)]) [0] rfl).app hK1
  generalize H1 = H at hP hS ⊢
  have hP : va_P (dC, dI) vwCl [(h0, .inr (1, [.ref a1, .ref a2, .ref a3, .int 0, .null, .ref z1, .ref z3, .ref z5, .ref z7, .int 0, .ref z9, .int 0, .ref z11, .int 0, .int 0, .int 0])), (z9, .inl (cA10, 20, .inr (.inr (.inr (.inr (fun _ => none)))))), (z16, .inr (3, [.ref b1_18, .int 0, .ref b2_19, .ref b3_20, .int 0]))] H := hP
  have hD : va_D A [(h0, .inr (1, [.ref a1, .ref a2, .ref a3, .int 0, .null, .ref z1, .ref z3, .ref z5, .ref z7, .int 0, .ref z9, .int 0, .ref z11, .int 0, .int 0, .int 0])), (z9, .inl (cA10, 20, .inr (.inr (.inr (.inr (fun _ => none)))))), (z16, .inr (3, [.ref b1_18, .int 0, .ref b2_19, .ref b3_20, .int 0]))] := hD
  have hK : va_K (dC, dI) vwCl [(cA10, .object RX3)] s := hK
  refine W.widen (k := 13) (n := 796) (Nat.le_of_ble_eq_true rfl) (Nat.le_of_ble_eq_true rfl) ?_
  refine va_astq (D := (dC, dI)) (r := (RX3, TX3, 5)) hx hb hK hP hD hS 1 0 2 3 rfl rfl rfl rfl (by unfold vp_in; decide) dX1_init_98 (fun H locs hP hD hS => ?_)
  have hP : va_P (dC, dI) vwCl [(h0, .inr (1, [.ref a1, .ref a2, .ref a3, .int 0, .null, .ref z1, .ref z3, .ref z5, .ref z7, .int 0, .ref z9, .int 0, .ref z11, .int 0, .int 0, .int 0])), (z9, .inl (cA10, 20, .inr (.inr (.inr (.inr (va_up (fun _ => none) (Int32.toNatClampNeg 0) (some z16))))))), (z16, .inr (3, [.ref b1_18, .int 0, .ref b2_19, .ref b3_20, .int 0]))] H := hP
  have hD : va_D A [(h0, .inr (1, [.ref a1, .ref a2, .ref a3, .int 0, .null, .ref z1, .ref z3, .ref z5, .ref z7, .int 0, .ref z9, .int 0, .ref z11, .int 0, .int 0, .int 0])), (z9, .inl (cA10, 20, .inr (.inr (.inr (.inr (va_up (fun _ => none) (Int32.toNatClampNeg 0) (some z16))))))), (z16, .inr (3, [.ref b1_18, .int 0, .ref b2_19, .ref b3_20, .int 0]))] := hD
  generalize va_up (fun _ => none) (Int32.toNatClampNeg 0) (some z16) = f21 at hP hD
  have hP := hP.sub (ws' := [(h0, .inr (1, [.ref a1, .ref a2, .ref a3, .int 0, .null, .ref z1, .ref z3, .ref z5, .ref z7, .int 0, .ref z9, .int 0, .ref z11, .int 0, .int 0, .int 0])), (z9, .inl (cA10, 20, .inr (.inr (.inr (.inr (f21))))))]) [0, 1] rfl
  have hD := hD.sub (ws' := [(h0, .inr (1, [.ref a1, .ref a2, .ref a3, .int 0, .null, .ref z1, .ref z3, .ref z5, .ref z7, .int 0, .ref z9, .int 0, .ref z11, .int 0, .int 0, .int 0])), (z9, .inl (cA10, 20, .inr (.inr (.inr (.inr (f21))))))]) [0, 1] (by decide) rfl
  have hK := hK.sub (tys' := [(cA10, .object RX3)]) [0] rfl
  refine lv_iinc (v := 1) (lv' := [(4, .int 1), (0, .ref h0), (1, .ref a1), (2, .ref a2), (3, .ref a3)]) hx hb dX1_init_99 hl (k := 0) rfl (by decide +kernel) (by decide) rfl (fun ls hl => ?_)
  refine lv_goto (tgt := 75) hx hb dX1_init_102 (by decide) ?_
  refine lv_iload hx hb dX1_init_75 (lv_at hl 0 rfl) ?_
  refine lv_aload_n hx hb dX1_init_77 rfl (lv_at hl 1 rfl) ?_
  refine va_get (D := (dC, dI)) (ci := 1) (v := .ref z9) (C := RX1) (T := TX1) (N := 16) hx hb hw uX1 hown hK hP 0 rfl rfl 10 (by decide) (hw _ q55) (fun _ h9 => h9) rfl dX1_init_78 ?_
  refine va_alen (D := (dC, dI)) hx hb hK hP 1 0 rfl rfl (v := 20) rfl dX1_init_81 ?_
  refine lv_icmp_ge (tgt := 105) hx hb dX1_init_82 (by decide) (fun c9 => absurd c9 (by decide)) (fun _ => ?_)
  refine lv_aload_n hx hb dX1_init_85 rfl (lv_at hl 1 rfl) ?_
  refine va_get (D := (dC, dI)) (ci := 1) (v := .ref z9) (C := RX1) (T := TX1) (N := 16) hx hb hw uX1 hown hK hP 0 rfl rfl 10 (by decide) (hw _ q55) (fun _ h9 => h9) rfl dX1_init_86 ?_
  refine lv_iload hx hb dX1_init_89 (lv_at hl 0 rfl) ?_
  refine va_new (D := (dC, dI)) (ci := 3) (fs := [.null, .int 0, .null, .null, .int 0]) (C := RX3) (T := TX3) (N := 5) hx hb hw uX3 tyX3 tyX3_ok hown (hw _ q53) (hw _ q14) (hw _ q15) hK hP hD hS hA rfl (by decide +kernel) (Nat.le_of_ble_eq_true rfl) (Nat.le_of_ble_eq_true rfl) dX1_init_91 (fun z22 H hP hD hS => ?_)
  have hP : va_P (dC, dI) vwCl [(h0, .inr (1, [.ref a1, .ref a2, .ref a3, .int 0, .null, .ref z1, .ref z3, .ref z5, .ref z7, .int 0, .ref z9, .int 0, .ref z11, .int 0, .int 0, .int 0])), (z9, .inl (cA10, 20, .inr (.inr (.inr (.inr (f21)))))), (z22, .inr (3, [.null, .int 0, .null, .null, .int 0]))] H := hP
  have hD : va_D A [(h0, .inr (1, [.ref a1, .ref a2, .ref a3, .int 0, .null, .ref z1, .ref z3, .ref z5, .ref z7, .int 0, .ref z9, .int 0, .ref z11, .int 0, .int 0, .int 0])), (z9, .inl (cA10, 20, .inr (.inr (.inr (.inr (f21)))))), (z22, .inr (3, [.null, .int 0, .null, .null, .int 0]))] := hD
  refine W.widen (k := 14) (n := 801) (Nat.le_of_ble_eq_true rfl) (Nat.le_of_ble_eq_true rfl) ?_
  refine lv_dup hx hb dX1_init_94 rfl ?_
  have hPc := hP.sub (ws' := [(z22, .inr (3, [.null, .int 0, .null, .null, .int 0]))]) [2] rfl
  have hDc := hD.sub (ws' := [(z22, .inr (3, [.null, .int 0, .null, .null, .int 0]))]) [2] (by decide) rfl
  have hKc := hK.sub (tys' := []) [] rfl
  have hFc := va_free (wc := [(z22, .inr (3, [.null, .int 0, .null, .null, .int 0]))]) hD hS hA [2] rfl
  refine va_callv (va_runIN (As := []) (rest := [.ref z22, .int 1, .ref z9]) ⟨hx, hb, hml, hown, hw⟩ (c_X3_init l dC dI _ (z22)) ⟨va_cnB 0 hw (gB q16) rfl rfl rfl (nn5 hN) (hw _ q15) (by decide +kernel) ⟨Nat.le_of_ble_eq_true rfl, Nat.le_of_ble_eq_true rfl⟩, rfl, hw _ q17⟩ ⟨cP_blind, cP_pre hPc hKc hDc hN⟩ rfl rfl hl.1 rfl (lv_room (Nat.le_of_ble_eq_true rfl)) dX1_init_95 ⟨Nat.le_of_ble_eq_true rfl, Nat.le_of_ble_eq_true rfl⟩) hS (fun q _ h => hFc q h) hFc (fun u9 t H1 locs ht hvm hw1 hB hz1 hk1 hS => ?_)
  obtain ⟨b1_24, b2_25, b3_26, hP1, hK1, hD1⟩ := hB
  rw [ht] at hP1
  have hK1 := va_K.moved hvm.symm hK1
  obtain ⟨hP, hD⟩ := va_join (wr := [(h0, .inr (1, [.ref a1, .ref a2, .ref a3, .int 0, .null, .ref z1, .ref z3, .ref z5, .ref z7, .int 0, .ref z9, .int 0, .ref z11, .int 0, .int 0, .int 0])), (z9, .inl (cA10, 20, .inr (.inr (.inr (.inr (f21))))))]) (w1 := [(z22, .inr (3, [.ref b1_24, .int 0, .ref b2_25, .ref b3_26, .int 0]))]) hP hD [2] [0, 1] rfl rfl (by decide) (by decide) hk1 hFc hP1 hD1
  have hK := (hK.sub (tys' := [(cA10, .object RX3)]) [0] rfl).app hK1
  generalize H1 = H at hP hS ⊢
  have hP : va_P (dC, dI) vwCl [(h0, .inr (1, [.ref a1, .ref a2, .ref a3, .int 0, .null, .ref z1, .ref z3, .ref z5, .ref z7, .int 0, .ref z9, .int 0, .ref z11, .int 0, .int 0, .int 0])), (z9, .inl (cA10, 20, .inr (.inr (.inr (.inr (f21)))))), (z22, .inr (3, [.ref b1_24, .int 0, .ref b2_25, .ref b3_26, .int 0]))] H := hP
  have hD : va_D A [(h0, .inr (1, [.ref a1, .ref a2, .ref a3, .int 0, .null, .ref z1, .ref z3, .ref z5, .ref z7, .int 0, .ref z9, .int 0, .ref z11, .int 0, .int 0, .int 0])), (z9, .inl (cA10, 20, .inr (.inr (.inr (.inr (f21)))))), (z22, .inr (3, [.ref b1_24, .int 0, .ref b2_25, .ref b3_26, .int 0]))] := hD
  have hK : va_K (dC, dI) vwCl [(cA10, .object RX3)] s := hK
  refine W.widen (k := 17) (n := 984) (Nat.le_of_ble_eq_true rfl) (Nat.le_of_ble_eq_true rfl) ?_
  refine va_astq (D := (dC, dI)) (r := (RX3, TX3, 5)) hx hb hK hP hD hS 1 0 2 3 rfl rfl rfl rfl (by unfold vp_in; decide) dX1_init_98 (fun H locs hP hD hS => ?_)
  have hP : va_P (dC, dI) vwCl [(h0, .inr (1, [.ref a1, .ref a2, .ref a3, .int 0, .null, .ref z1, .ref z3, .ref z5, .ref z7, .int 0, .ref z9, .int 0, .ref z11, .int 0, .int 0, .int 0])), (z9, .inl (cA10, 20, .inr (.inr (.inr (.inr (va_up (f21) (Int32.toNatClampNeg 1) (some z22))))))), (z22, .inr (3, [.ref b1_24, .int 0, .ref b2_25, .ref b3_26, .int 0]))] H := hP
  have hD : va_D A [(h0, .inr (1, [.ref a1, .ref a2, .ref a3, .int 0, .null, .ref z1, .ref z3, .ref z5, .ref z7, .int 0, .ref z9, .int 0, .ref z11, .int 0, .int 0, .int 0])), (z9, .inl (cA10, 20, .inr (.inr (.inr (.inr (va_up (f21) (Int32.toNatClampNeg 1) (some z22))))))), (z22, .inr (3, [.ref b1_24, .int 0, .ref b2_25, .ref b3_26, .int 0]))] := hD
  generalize va_up (f21) (Int32.toNatClampNeg 1) (some z22) = f27 at hP hD
  have hP := hP.sub (ws' := [(h0, .inr (1, [.ref a1, .ref a2, .ref a3, .int 0, .null, .ref z1, .ref z3, .ref z5, .ref z7, .int 0, .ref z9, .int 0, .ref z11, .int 0, .int 0, .int 0])), (z9, .inl (cA10, 20, .inr (.inr (.inr (.inr (f27))))))]) [0, 1] rfl
  have hD := hD.sub (ws' := [(h0, .inr (1, [.ref a1, .ref a2, .ref a3, .int 0, .null, .ref z1, .ref z3, .ref z5, .ref z7, .int 0, .ref z9, .int 0, .ref z11, .int 0, .int 0, .int 0])), (z9, .inl (cA10, 20, .inr (.inr (.inr (.inr (f27))))))]) [0, 1] (by decide) rfl
  have hK := hK.sub (tys' := [(cA10, .object RX3)]) [0] rfl
  refine lv_iinc (v := 2) (lv' := [(4, .int 2), (0, .ref h0), (1, .ref a1), (2, .ref a2), (3, .ref a3)]) hx hb dX1_init_99 hl (k := 0) rfl (by decide +kernel) (by decide) rfl (fun ls hl => ?_)
  refine lv_goto (tgt := 75) hx hb dX1_init_102 (by decide) ?_
  refine lv_iload hx hb dX1_init_75 (lv_at hl 0 rfl) ?_
  refine lv_aload_n hx hb dX1_init_77 rfl (lv_at hl 1 rfl) ?_
  refine va_get (D := (dC, dI)) (ci := 1) (v := .ref z9) (C := RX1) (T := TX1) (N := 16) hx hb hw uX1 hown hK hP 0 rfl rfl 10 (by decide) (hw _ q55) (fun _ h9 => h9) rfl dX1_init_78 ?_
  refine va_alen (D := (dC, dI)) hx hb hK hP 1 0 rfl rfl (v := 20) rfl dX1_init_81 ?_
  refine lv_icmp_ge (tgt := 105) hx hb dX1_init_82 (by decide) (fun c9 => absurd c9 (by decide)) (fun _ => ?_)
  refine lv_aload_n hx hb dX1_init_85 rfl (lv_at hl 1 rfl) ?_
  refine va_get (D := (dC, dI)) (ci := 1) (v := .ref z9) (C := RX1) (T := TX1) (N := 16) hx hb hw uX1 hown hK hP 0 rfl rfl 10 (by decide) (hw _ q55) (fun _ h9 => h9) rfl dX1_init_86 ?_
  refine lv_iload hx hb dX1_init_89 (lv_at hl 0 rfl) ?_
  refine va_new (D := (dC, dI)) (ci := 3) (fs := [.null, .int 0, .null, .null, .int 0]) (C := RX3) (T := TX3) (N := 5) hx hb hw uX3 tyX3 tyX3_ok hown (hw _ q53) (hw _ q14) (hw _ q15) hK hP hD hS hA rfl (by decide +kernel) (Nat.le_of_ble_eq_true rfl) (Nat.le_of_ble_eq_true rfl) dX1_init_91 (fun z28 H hP hD hS => ?_)
  have hP : va_P (dC, dI) vwCl [(h0, .inr (1, [.ref a1, .ref a2, .ref a3, .int 0, .null, .ref z1, .ref z3, .ref z5, .ref z7, .int 0, .ref z9, .int 0, .ref z11, .int 0, .int 0, .int 0])), (z9, .inl (cA10, 20, .inr (.inr (.inr (.inr (f27)))))), (z28, .inr (3, [.null, .int 0, .null, .null, .int 0]))] H := hP
  have hD : va_D A [(h0, .inr (1, [.ref a1, .ref a2, .ref a3, .int 0, .null, .ref z1, .ref z3, .ref z5, .ref z7, .int 0, .ref z9, .int 0, .ref z11, .int 0, .int 0, .int 0])), (z9, .inl (cA10, 20, .inr (.inr (.inr (.inr (f27)))))), (z28, .inr (3, [.null, .int 0, .null, .null, .int 0]))] := hD
  refine W.widen (k := 18) (n := 989) (Nat.le_of_ble_eq_true rfl) (Nat.le_of_ble_eq_true rfl) ?_
  refine lv_dup hx hb dX1_init_94 rfl ?_
  have hPc := hP.sub (ws' := [(z28, .inr (3, [.null, .int 0, .null, .null, .int 0]))]) [2] rfl
  have hDc := hD.sub (ws' := [(z28, .inr (3, [.null, .int 0, .null, .null, .int 0]))]) [2] (by decide) rfl
  have hKc := hK.sub (tys' := []) [] rfl
  have hFc := va_free (wc := [(z28, .inr (3, [.null, .int 0, .null, .null, .int 0]))]) hD hS hA [2] rfl
  refine va_callv (va_runIN (As := []) (rest := [.ref z28, .int 2, .ref z9]) ⟨hx, hb, hml, hown, hw⟩ (c_X3_init l dC dI _ (z28)) ⟨va_cnB 0 hw (gB q16) rfl rfl rfl (nn5 hN) (hw _ q15) (by decide +kernel) ⟨Nat.le_of_ble_eq_true rfl, Nat.le_of_ble_eq_true rfl⟩, rfl, hw _ q17⟩ ⟨cP_blind, cP_pre hPc hKc hDc hN⟩ rfl rfl hl.1 rfl (lv_room (Nat.le_of_ble_eq_true rfl)) dX1_init_95 ⟨Nat.le_of_ble_eq_true rfl, Nat.le_of_ble_eq_true rfl⟩) hS (fun q _ h => hFc q h) hFc (fun u9 t H1 locs ht hvm hw1 hB hz1 hk1 hS => ?_)
  obtain ⟨b1_30, b2_31, b3_32, hP1, hK1, hD1⟩ := hB
  rw [ht] at hP1
  have hK1 := va_K.moved hvm.symm hK1
  obtain ⟨hP, hD⟩ := va_join (wr := [(h0, .inr (1, [.ref a1, .ref a2, .ref a3, .int 0, .null, .ref z1, .ref z3, .ref z5, .ref z7, .int 0, .ref z9, .int 0, .ref z11, .int 0, .int 0, .int 0])), (z9, .inl (cA10, 20, .inr (.inr (.inr (.inr (f27))))))]) (w1 := [(z28, .inr (3, [.ref b1_30, .int 0, .ref b2_31, .ref b3_32, .int 0]))]) hP hD [2] [0, 1] rfl rfl (by decide) (by decide) hk1 hFc hP1 hD1
  have hK := (hK.sub (tys' := [(cA10, .object RX3)]) [0] rfl).app hK1
  generalize H1 = H at hP hS ⊢
  have hP : va_P (dC, dI) vwCl [(h0, .inr (1, [.ref a1, .ref a2, .ref a3, .int 0, .null, .ref z1, .ref z3, .ref z5, .ref z7, .int 0, .ref z9, .int 0, .ref z11, .int 0, .int 0, .int 0])), (z9, .inl (cA10, 20, .inr (.inr (.inr (.inr (f27)))))), (z28, .inr (3, [.ref b1_30, .int 0, .ref b2_31, .ref b3_32, .int 0]))] H := hP
  have hD : va_D A [(h0, .inr (1, [.ref a1, .ref a2, .ref a3, .int 0, .null, .ref z1, .ref z3, .ref z5, .ref z7, .int 0, .ref z9, .int 0, .ref z11, .int 0, .int 0, .int 0])), (z9, .inl (cA10, 20, .inr (.inr (.inr (.inr (f27)))))), (z28, .inr (3, [.ref b1_30, .int 0, .ref b2_31, .ref b3_32, .int 0]))] := hD
  have hK : va_K (dC, dI) vwCl [(cA10, .object RX3)] s := hK
  refine W.widen (k := 21) (n := 1172) (Nat.le_of_ble_eq_true rfl) (Nat.le_of_ble_eq_true rfl) ?_
  refine va_astq (D := (dC, dI)) (r := (RX3, TX3, 5)) hx hb hK hP hD hS 1 0 2 3 rfl rfl rfl rfl (by unfold vp_in; decide) dX1_init_98 (fun H locs hP hD hS => ?_)
  have hP : va_P (dC, dI) vwCl [(h0, .inr (1, [.ref a1, .ref a2, .ref a3, .int 0, .null, .ref z1, .ref z3, .ref z5, .ref z7, .int 0, .ref z9, .int 0, .ref z11, .int 0, .int 0, .int 0])), (z9, .inl (cA10, 20, .inr (.inr (.inr (.inr (va_up (f27) (Int32.toNatClampNeg 2) (some z28))))))), (z28, .inr (3, [.ref b1_30, .int 0, .ref b2_31, .ref b3_32, .int 0]))] H := hP
  have hD : va_D A [(h0, .inr (1, [.ref a1, .ref a2, .ref a3, .int 0, .null, .ref z1, .ref z3, .ref z5, .ref z7, .int 0, .ref z9, .int 0, .ref z11, .int 0, .int 0, .int 0])), (z9, .inl (cA10, 20, .inr (.inr (.inr (.inr (va_up (f27) (Int32.toNatClampNeg 2) (some z28))))))), (z28, .inr (3, [.ref b1_30, .int 0, .ref b2_31, .ref b3_32, .int 0]))] := hD
  generalize va_up (f27) (Int32.toNatClampNeg 2) (some z28) = f33 at hP hD
  have hP := hP.sub (ws' := [(h0, .inr (1, [.ref a1, .ref a2, .ref a3, .int 0, .null, .ref z1, .ref z3, .ref z5, .ref z7, .int 0, .ref z9, .int 0, .ref z11, .int 0, .int 0, .int 0])), (z9, .inl (cA10, 20, .inr (.inr (.inr (.inr (f33))))))]) [0, 1] rfl
  have hD := hD.sub (ws' := [(h0, .inr (1, [.ref a1, .ref a2, .ref a3, .int 0, .null, .ref z1, .ref z3, .ref z5, .ref z7, .int 0, .ref z9, .int 0, .ref z11, .int 0, .int 0, .int 0])), (z9, .inl (cA10, 20, .inr (.inr (.inr (.inr (f33))))))]) [0, 1] (by decide) rfl
  have hK := hK.sub (tys' := [(cA10, .object RX3)]) [0] rfl
  refine lv_iinc (v := 3) (lv' := [(4, .int 3), (0, .ref h0), (1, .ref a1), (2, .ref a2), (3, .ref a3)]) hx hb dX1_init_99 hl (k := 0) rfl (by decide +kernel) (by decide) rfl (fun ls hl => ?_)
  refine lv_goto (tgt := 75) hx hb dX1_init_102 (by decide) ?_
  refine lv_iload hx hb dX1_init_75 (lv_at hl 0 rfl) ?_
  refine lv_aload_n hx hb dX1_init_77 rfl (lv_at hl 1 rfl) ?_
  refine va_get (D := (dC, dI)) (ci := 1) (v := .ref z9) (C := RX1) (T := TX1) (N := 16) hx hb hw uX1 hown hK hP 0 rfl rfl 10 (by decide) (hw _ q55) (fun _ h9 => h9) rfl dX1_init_78 ?_
  refine va_alen (D := (dC, dI)) hx hb hK hP 1 0 rfl rfl (v := 20) rfl dX1_init_81 ?_
  refine lv_icmp_ge (tgt := 105) hx hb dX1_init_82 (by decide) (fun c9 => absurd c9 (by decide)) (fun _ => ?_)
  refine lv_aload_n hx hb dX1_init_85 rfl (lv_at hl 1 rfl) ?_
  refine va_get (D := (dC, dI)) (ci := 1) (v := .ref z9) (C := RX1) (T := TX1) (N := 16) hx hb hw uX1 hown hK hP 0 rfl rfl 10 (by decide) (hw _ q55) (fun _ h9 => h9) rfl dX1_init_86 ?_
  refine lv_iload hx hb dX1_init_89 (lv_at hl 0 rfl) ?_
  refine va_new (D := (dC, dI)) (ci := 3) (fs := [.null, .int 0, .null, .null, .int 0]) (C := RX3) (T := TX3) (N := 5) hx hb hw uX3 tyX3 tyX3_ok hown (hw _ q53) (hw _ q14) (hw _ q15) hK hP hD hS hA rfl (by decide +kernel) (Nat.le_of_ble_eq_true rfl) (Nat.le_of_ble_eq_true rfl) dX1_init_91 (fun z34 H hP hD hS => ?_)
  have hP : va_P (dC, dI) vwCl [(h0, .inr (1, [.ref a1, .ref a2, .ref a3, .int 0, .null, .ref z1, .ref z3, .ref z5, .ref z7, .int 0, .ref z9, .int 0, .ref z11, .int 0, .int 0, .int 0])), (z9, .inl (cA10, 20, .inr (.inr (.inr (.inr (f33)))))), (z34, .inr (3, [.null, .int 0, .null, .null, .int 0]))] H := hP
  have hD : va_D A [(h0, .inr (1, [.ref a1, .ref a2, .ref a3, .int 0, .null, .ref z1, .ref z3, .ref z5, .ref z7, .int 0, .ref z9, .int 0, .ref z11, .int 0, .int 0, .int 0])), (z9, .inl (cA10, 20, .inr (.inr (.inr (.inr (f33)))))), (z34, .inr (3, [.null, .int 0, .null, .null, .int 0]))] := hD
  refine W.widen (k := 22) (n := 1177) (Nat.le_of_ble_eq_true rfl) (Nat.le_of_ble_eq_true rfl) ?_
  refine lv_dup hx hb dX1_init_94 rfl ?_
  have hPc := hP.sub (ws' := [(z34, .inr (3, [.null, .int 0, .null, .null, .int 0]))]) [2] rfl
  have hDc := hD.sub (ws' := [(z34, .inr (3, [.null, .int 0, .null, .null, .int 0]))]) [2] (by decide) rfl
  have hKc := hK.sub (tys' := []) [] rfl
  have hFc := va_free (wc := [(z34, .inr (3, [.null, .int 0, .null, .null, .int 0]))]) hD hS hA [2] rfl
  refine va_callv (va_runIN (As := []) (rest := [.ref z34, .int 3, .ref z9]) ⟨hx, hb, hml, hown, hw⟩ (c_X3_init l dC dI _ (z34)) ⟨va_cnB 0 hw (gB q16) rfl rfl rfl (nn5 hN) (hw _ q15) (by decide +kernel) ⟨Nat.le_of_ble_eq_true rfl, Nat.le_of_ble_eq_true rfl⟩, rfl, hw _ q17⟩ ⟨cP_blind, cP_pre hPc hKc hDc hN⟩ rfl rfl hl.1 rfl (lv_room (Nat.le_of_ble_eq_true rfl)) dX1_init_95 ⟨Nat.le_of_ble_eq_true rfl, Nat.le_of_ble_eq_true rfl⟩) hS (fun q _ h => hFc q h) hFc (fun u9 t H1 locs ht hvm hw1 hB hz1 hk1 hS => ?_)
  obtain ⟨b1_36, b2_37, b3_38, hP1, hK1, hD1⟩ := hB
  rw [ht] at hP1
  have hK1 := va_K.moved hvm.symm hK1
  obtain ⟨hP, hD⟩ := va_join (wr := [(h0, .inr (1, [.ref a1, .ref a2, .ref a3, .int 0, .null, .ref z1, .ref z3, .ref z5, .ref z7, .int 0, .ref z9, .int 0, .ref z11, .int 0, .int 0, .int 0])), (z9, .inl (cA10, 20, .inr (.inr (.inr (.inr (f33))))))]) (w1 := [(z34, .inr (3, [.ref b1_36, .int 0, .ref b2_37, .ref b3_38, .int 0]))]) hP hD [2] [0, 1] rfl rfl (by decide) (by decide) hk1 hFc hP1 hD1
  have hK := (hK.sub (tys' := [(cA10, .object RX3)]) [0] rfl).app hK1
  generalize H1 = H at hP hS ⊢
  have hP : va_P (dC, dI) vwCl [(h0, .inr (1, [.ref a1, .ref a2, .ref a3, .int 0, .null, .ref z1, .ref z3, .ref z5, .ref z7, .int 0, .ref z9, .int 0, .ref z11, .int 0, .int 0, .int 0])), (z9, .inl (cA10, 20, .inr (.inr (.inr (.inr (f33)))))), (z34, .inr (3, [.ref b1_36, .int 0, .ref b2_37, .ref b3_38, .int 0]))] H := hP
  have hD : va_D A [(h0, .inr (1, [.ref a1, .ref a2, .ref a3, .int 0, .null, .ref z1, .ref z3, .ref z5, .ref z7, .int 0, .ref z9, .int 0, .ref z11, .int 0, .int 0, .int 0])), (z9, .inl (cA10, 20, .inr (.inr (.inr (.inr (f33)))))), (z34, .inr (3, [.ref b1_36, .int 0, .ref b2_37, .ref b3_38, .int 0]))] := hD
  have hK : va_K (dC, dI) vwCl [(cA10, .object RX3)] s := hK
  refine W.widen (k := 25) (n := 1360) (Nat.le_of_ble_eq_true rfl) (Nat.le_of_ble_eq_true rfl) ?_
  refine va_astq (D := (dC, dI)) (r := (RX3, TX3, 5)) hx hb hK hP hD hS 1 0 2 3 rfl rfl rfl rfl (by unfold vp_in; decide) dX1_init_98 (fun H locs hP hD hS => ?_)
  have hP : va_P (dC, dI) vwCl [(h0, .inr (1, [.ref a1, .ref a2, .ref a3, .int 0, .null, .ref z1, .ref z3, .ref z5, .ref z7, .int 0, .ref z9, .int 0, .ref z11, .int 0, .int 0, .int 0])), (z9, .inl (cA10, 20, .inr (.inr (.inr (.inr (va_up (f33) (Int32.toNatClampNeg 3) (some z34))))))), (z34, .inr (3, [.ref b1_36, .int 0, .ref b2_37, .ref b3_38, .int 0]))] H := hP
  have hD : va_D A [(h0, .inr (1, [.ref a1, .ref a2, .ref a3, .int 0, .null, .ref z1, .ref z3, .ref z5, .ref z7, .int 0, .ref z9, .int 0, .ref z11, .int 0, .int 0, .int 0])), (z9, .inl (cA10, 20, .inr (.inr (.inr (.inr (va_up (f33) (Int32.toNatClampNeg 3) (some z34))))))), (z34, .inr (3, [.ref b1_36, .int 0, .ref b2_37, .ref b3_38, .int 0]))] := hD
  generalize va_up (f33) (Int32.toNatClampNeg 3) (some z34) = f39 at hP hD
  have hP := hP.sub (ws' := [(h0, .inr (1, [.ref a1, .ref a2, .ref a3, .int 0, .null, .ref z1, .ref z3, .ref z5, .ref z7, .int 0, .ref z9, .int 0, .ref z11, .int 0, .int 0, .int 0])), (z9, .inl (cA10, 20, .inr (.inr (.inr (.inr (f39))))))]) [0, 1] rfl
  have hD := hD.sub (ws' := [(h0, .inr (1, [.ref a1, .ref a2, .ref a3, .int 0, .null, .ref z1, .ref z3, .ref z5, .ref z7, .int 0, .ref z9, .int 0, .ref z11, .int 0, .int 0, .int 0])), (z9, .inl (cA10, 20, .inr (.inr (.inr (.inr (f39))))))]) [0, 1] (by decide) rfl
  have hK := hK.sub (tys' := [(cA10, .object RX3)]) [0] rfl
  refine lv_iinc (v := 4) (lv' := [(4, .int 4), (0, .ref h0), (1, .ref a1), (2, .ref a2), (3, .ref a3)]) hx hb dX1_init_99 hl (k := 0) rfl (by decide +kernel) (by decide) rfl (fun ls hl => ?_)
  refine lv_goto (tgt := 75) hx hb dX1_init_102 (by decide) ?_
  refine lv_iload hx hb dX1_init_75 (lv_at hl 0 rfl) ?_
  refine lv_aload_n hx hb dX1_init_77 rfl (lv_at hl 1 rfl) ?_
  refine va_get (D := (dC, dI)) (ci := 1) (v := .ref z9) (C := RX1) (T := TX1) (N := 16) hx hb hw uX1 hown hK hP 0 rfl rfl 10 (by decide) (hw _ q55) (fun _ h9 => h9) rfl dX1_init_78 ?_
  refine va_alen (D := (dC, dI)) hx hb hK hP 1 0 rfl rfl (v := 20) rfl dX1_init_81 ?_
  refine lv_icmp_ge (tgt := 105) hx hb dX1_init_82 (by decide) (fun c9 => absurd c9 (by decide)) (fun _ => ?_)
  refine lv_aload_n hx hb dX1_init_85 rfl (lv_at hl 1 rfl) ?_
  refine va_get (D := (dC, dI)) (ci := 1) (v := .ref z9) (C := RX1) (T := TX1) (N := 16) hx hb hw uX1 hown hK hP 0 rfl rfl 10 (by decide) (hw _ q55) (fun _ h9 => h9) rfl dX1_init_86 ?_
  refine lv_iload hx hb dX1_init_89 (lv_at hl 0 rfl) ?_
  refine va_new (D := (dC, dI)) (ci := 3) (fs := [.null, .int 0, .null, .null, .int 0]) (C := RX3) (T := TX3) (N := 5) hx hb hw uX3 tyX3 tyX3_ok hown (hw _ q53) (hw _ q14) (hw _ q15) hK hP hD hS hA rfl (by decide +kernel) (Nat.le_of_ble_eq_true rfl) (Nat.le_of_ble_eq_true rfl) dX1_init_91 (fun z40 H hP hD hS => ?_)
  have hP : va_P (dC, dI) vwCl [(h0, .inr (1, [.ref a1, .ref a2, .ref a3, .int 0, .null, .ref z1, .ref z3, .ref z5, .ref z7, .int 0, .ref z9, .int 0, .ref z11, .int 0, .int 0, .int 0])), (z9, .inl (cA10, 20, .inr (.inr (.inr (.inr (f39)))))), (z40, .inr (3, [.null, .int 0, .null, .null, .int 0]))] H := hP
  have hD : va_D A [(h0, .inr (1, [.ref a1, .ref a2, .ref a3, .int 0, .null, .ref z1, .ref z3, .ref z5, .ref z7, .int 0, .ref z9, .int 0, .ref z11, .int 0, .int 0, .int 0])), (z9, .inl (cA10, 20, .inr (.inr (.inr (.inr (f39)))))), (z40, .inr (3, [.null, .int 0, .null, .null, .int 0]))] := hD
  refine W.widen (k := 26) (n := 1365) (Nat.le_of_ble_eq_true rfl) (Nat.le_of_ble_eq_true rfl) ?_
  refine lv_dup hx hb dX1_init_94 rfl ?_
  have hPc := hP.sub (ws' := [(z40, .inr (3, [.null, .int 0, .null, .null, .int 0]))]) [2] rfl
  have hDc := hD.sub (ws' := [(z40, .inr (3, [.null, .int 0, .null, .null, .int 0]))]) [2] (by decide) rfl
  have hKc := hK.sub (tys' := []) [] rfl
  have hFc := va_free (wc := [(z40, .inr (3, [.null, .int 0, .null, .null, .int 0]))]) hD hS hA [2] rfl
  refine va_callv (va_runIN (As := []) (rest := [.ref z40, .int 4, .ref z9]) ⟨hx, hb, hml, hown, hw⟩ (c_X3_init l dC dI _ (z40)) ⟨va_cnB 0 hw (gB q16) rfl rfl rfl (nn5 hN) (hw _ q15) (by decide +kernel) ⟨Nat.le_of_ble_eq_true rfl, Nat.le_of_ble_eq_true rfl⟩, rfl, hw _ q17⟩ ⟨cP_blind, cP_pre hPc hKc hDc hN⟩ rfl rfl hl.1 rfl (lv_room (Nat.le_of_ble_eq_true rfl)) dX1_init_95 ⟨Nat.le_of_ble_eq_true rfl, Nat.le_of_ble_eq_true rfl⟩) hS (fun q _ h => hFc q h) hFc (fun u9 t H1 locs ht hvm hw1 hB hz1 hk1 hS => ?_)
  obtain ⟨b1_42, b2_43, b3_44, hP1, hK1, hD1⟩ := hB
  rw [ht] at hP1
  have hK1 := va_K.moved hvm.symm hK1
  obtain ⟨hP, hD⟩ := va_join (wr := [(h0, .inr (1, [.ref a1, .ref a2, .ref a3, .int 0, .null, .ref z1, .ref z3, .ref z5, .ref z7, .int 0, .ref z9, .int 0, .ref z11, .int 0, .int 0, .int 0])), (z9, .inl (cA10, 20, .inr (.inr (.inr (.inr (f39))))))]) (w1 := [(z40, .inr (3, [.ref b1_42, .int 0, .ref b2_43, .ref b3_44, .int 0]))]) hP hD [2] [0, 1] rfl rfl (by decide) (by decide) hk1 hFc hP1 hD1
  have hK := (hK.sub (tys' := [(cA10, .object RX3)]) [0] rfl).app hK1
  generalize H1 = H at hP hS ⊢
  have hP : va_P (dC, dI) vwCl [(h0, .inr (1, [.ref a1, .ref a2, .ref a3, .int 0, .null, .ref z1, .ref z3, .ref z5, .ref z7, .int 0, .ref z9, .int 0, .ref z11, .int 0, .int 0, .int 0])), (z9, .inl (cA10, 20, .inr (.inr (.inr (.inr (f39)))))), (z40, .inr (3, [.ref b1_42, .int 0, .ref b2_43, .ref b3_44, .int 0]))] H := hP
  have hD : va_D A [(h0, .inr (1, [.ref a1, .ref a2, .ref a3, .int 0, .null, .ref z1, .ref z3, .ref z5, .ref z7, .int 0, .ref z9, .int 0, .ref z11, .int 0, .int 0, .int 0])), (z9, .inl (cA10, 20, .inr (.inr (.inr (.inr (f39)))))), (z40, .inr (3, [.ref b1_42, .int 0, .ref b2_43, .ref b3_44, .int 0]))] := hD
  have hK : va_K (dC, dI) vwCl [(cA10, .object RX3)] s := hK
  refine W.widen (k := 29) (n := 1548) (Nat.le_of_ble_eq_true rfl) (Nat.le_of_ble_eq_true rfl) ?_
  refine va_astq (D := (dC, dI)) (r := (RX3, TX3, 5)) hx hb hK hP hD hS 1 0 2 3 rfl rfl rfl rfl (by unfold vp_in; decide) dX1_init_98 (fun H locs hP hD hS => ?_)
  have hP : va_P (dC, dI) vwCl [(h0, .inr (1, [.ref a1, .ref a2, .ref a3, .int 0, .null, .ref z1, .ref z3, .ref z5, .ref z7, .int 0, .ref z9, .int 0, .ref z11, .int 0, .int 0, .int 0])), (z9, .inl (cA10, 20, .inr (.inr (.inr (.inr (va_up (f39) (Int32.toNatClampNeg 4) (some z40))))))), (z40, .inr (3, [.ref b1_42, .int 0, .ref b2_43, .ref b3_44, .int 0]))] H := hP
  have hD : va_D A [(h0, .inr (1, [.ref a1, .ref a2, .ref a3, .int 0, .null, .ref z1, .ref z3, .ref z5, .ref z7, .int 0, .ref z9, .int 0, .ref z11, .int 0, .int 0, .int 0])), (z9, .inl (cA10, 20, .inr (.inr (.inr (.inr (va_up (f39) (Int32.toNatClampNeg 4) (some z40))))))), (z40, .inr (3, [.ref b1_42, .int 0, .ref b2_43, .ref b3_44, .int 0]))] := hD
  generalize va_up (f39) (Int32.toNatClampNeg 4) (some z40) = f45 at hP hD
  have hP := hP.sub (ws' := [(h0, .inr (1, [.ref a1, .ref a2, .ref a3, .int 0, .null, .ref z1, .ref z3, .ref z5, .ref z7, .int 0, .ref z9, .int 0, .ref z11, .int 0, .int 0, .int 0])), (z9, .inl (cA10, 20, .inr (.inr (.inr (.inr (f45))))))]) [0, 1] rfl
  have hD := hD.sub (ws' := [(h0, .inr (1, [.ref a1, .ref a2, .ref a3, .int 0, .null, .ref z1, .ref z3, .ref z5, .ref z7, .int 0, .ref z9, .int 0, .ref z11, .int 0, .int 0, .int 0])), (z9, .inl (cA10, 20, .inr (.inr (.inr (.inr (f45))))))]) [0, 1] (by decide) rfl
  have hK := hK.sub (tys' := [(cA10, .object RX3)]) [0] rfl
  refine lv_iinc (v := 5) (lv' := [(4, .int 5), (0, .ref h0), (1, .ref a1), (2, .ref a2), (3, .ref a3)]) hx hb dX1_init_99 hl (k := 0) rfl (by decide +kernel) (by decide) rfl (fun ls hl => ?_)
  refine lv_goto (tgt := 75) hx hb dX1_init_102 (by decide) ?_
  refine lv_iload hx hb dX1_init_75 (lv_at hl 0 rfl) ?_
  refine lv_aload_n hx hb dX1_init_77 rfl (lv_at hl 1 rfl) ?_
  refine va_get (D := (dC, dI)) (ci := 1) (v := .ref z9) (C := RX1) (T := TX1) (N := 16) hx hb hw uX1 hown hK hP 0 rfl rfl 10 (by decide) (hw _ q55) (fun _ h9 => h9) rfl dX1_init_78 ?_
  refine va_alen (D := (dC, dI)) hx hb hK hP 1 0 rfl rfl (v := 20) rfl dX1_init_81 ?_
  refine lv_icmp_ge (tgt := 105) hx hb dX1_init_82 (by decide) (fun c9 => absurd c9 (by decide)) (fun _ => ?_)
  refine lv_aload_n hx hb dX1_init_85 rfl (lv_at hl 1 rfl) ?_
  refine va_get (D := (dC, dI)) (ci := 1) (v := .ref z9) (C := RX1) (T := TX1) (N := 16) hx hb hw uX1 hown hK hP 0 rfl rfl 10 (by decide) (hw _ q55) (fun _ h9 => h9) rfl dX1_init_86 ?_
  refine lv_iload hx hb dX1_init_89 (lv_at hl 0 rfl) ?_
  refine va_new (D := (dC, dI)) (ci := 3) (fs := [.null, .int 0, .null, .null, .int 0]) (C := RX3) (T := TX3) (N := 5) hx hb hw uX3 tyX3 tyX3_ok hown (hw _ q53) (hw _ q14) (hw _ q15) hK hP hD hS hA rfl (by decide +kernel) (Nat.le_of_ble_eq_true rfl) (Nat.le_of_ble_eq_true rfl) dX1_init_91 (fun z46 H hP hD hS => ?_)
  have hP : va_P (dC, dI) vwCl [(h0, .inr (1, [.ref a1, .ref a2, .ref a3, .int 0, .null, .ref z1, .ref z3, .ref z5, .ref z7, .int 0, .ref z9, .int 0, .ref z11, .int 0, .int 0, .int 0])), (z9, .inl (cA10, 20, .inr (.inr (.inr (.inr (f45)))))), (z46, .inr (3, [.null, .int 0, .null, .null, .int 0]))] H := hP
  have hD : va_D A [(h0, .inr (1, [.ref a1, .ref a2, .ref a3, .int 0, .null, .ref z1, .ref z3, .ref z5, .ref z7, .int 0, .ref z9, .int 0, .ref z11, .int 0, .int 0, .int 0])), (z9, .inl (cA10, 20, .inr (.inr (.inr (.inr (f45)))))), (z46, .inr (3, [.null, .int 0, .null, .null, .int 0]))] := hD
  refine W.widen (k := 30) (n := 1553) (Nat.le_of_ble_eq_true rfl) (Nat.le_of_ble_eq_true rfl) ?_
  refine lv_dup hx hb dX1_init_94 rfl ?_
  have hPc := hP.sub (ws' := [(z46, .inr (3, [.null, .int 0, .null, .null, .int 0]))]) [2] rfl
  have hDc := hD.sub (ws' := [(z46, .inr (3, [.null, .int 0, .null, .null, .int 0]))]) [2] (by decide) rfl
  have hKc := hK.sub (tys' := []) [] rfl
  have hFc := va_free (wc := [(z46, .inr (3, [.null, .int 0, .null, .null, .int 0]))]) hD hS hA [2] rfl
  refine va_callv (va_runIN (As := []) (rest := [.ref z46, .int 5, .ref z9]) ⟨hx, hb, hml, hown, hw⟩ (c_X3_init l dC dI _ (z46)) ⟨va_cnB 0 hw (gB q16) rfl rfl rfl (nn5 hN) (hw _ q15) (by decide +kernel) ⟨Nat.le_of_ble_eq_true rfl, Nat.le_of_ble_eq_true rfl⟩, rfl, hw _ q17⟩ ⟨cP_blind, cP_pre hPc hKc hDc hN⟩ rfl rfl hl.1 rfl (lv_room (Nat.le_of_ble_eq_true rfl)) dX1_init_95 ⟨Nat.le_of_ble_eq_true rfl, Nat.le_of_ble_eq_true rfl⟩) hS (fun q _ h => hFc q h) hFc (fun u9 t H1 locs ht hvm hw1 hB hz1 hk1 hS => ?_)
  obtain ⟨b1_48, b2_49, b3_50, hP1, hK1, hD1⟩ := hB
  rw [ht] at hP1
  have hK1 := va_K.moved hvm.symm hK1
  obtain ⟨hP, hD⟩ := va_join (wr := [(h0, .inr (1, [.ref a1, .ref a2, .ref a3, .int 0, .null, .ref z1, .ref z3, .ref z5, .ref z7, .int 0, .ref z9, .int 0, .ref z11, .int 0, .int 0, .int 0])), (z9, .inl (cA10, 20, .inr (.inr (.inr (.inr (f45))))))]) (w1 := [(z46, .inr (3, [.ref b1_48, .int 0, .ref b2_49, .ref b3_50, .int 0]))]) hP hD [2] [0, 1] rfl rfl (by decide) (by decide) hk1 hFc hP1 hD1
  have hK := (hK.sub (tys' := [(cA10, .object RX3)]) [0] rfl).app hK1
  generalize H1 = H at hP hS ⊢
  have hP : va_P (dC, dI) vwCl [(h0, .inr (1, [.ref a1, .ref a2, .ref a3, .int 0, .null, .ref z1, .ref z3, .ref z5, .ref z7, .int 0, .ref z9, .int 0, .ref z11, .int 0, .int 0, .int 0])), (z9, .inl (cA10, 20, .inr (.inr (.inr (.inr (f45)))))), (z46, .inr (3, [.ref b1_48, .int 0, .ref b2_49, .ref b3_50, .int 0]))] H := hP
  have hD : va_D A [(h0, .inr (1, [.ref a1, .ref a2, .ref a3, .int 0, .null, .ref z1, .ref z3, .ref z5, .ref z7, .int 0, .ref z9, .int 0, .ref z11, .int 0, .int 0, .int 0])), (z9, .inl (cA10, 20, .inr (.inr (.inr (.inr (f45)))))), (z46, .inr (3, [.ref b1_48, .int 0, .ref b2_49, .ref b3_50, .int 0]))] := hD
  have hK : va_K (dC, dI) vwCl [(cA10, .object RX3)] s := hK
  refine W.widen (k := 33) (n := 1736) (Nat.le_of_ble_eq_true rfl) (Nat.le_of_ble_eq_true rfl) ?_
  refine va_astq (D := (dC, dI)) (r := (RX3, TX3, 5)) hx hb hK hP hD hS 1 0 2 3 rfl rfl rfl rfl (by unfold vp_in; decide) dX1_init_98 (fun H locs hP hD hS => ?_)
  have hP : va_P (dC, dI) vwCl [(h0, .inr (1, [.ref a1, .ref a2, .ref a3, .int 0, .null, .ref z1, .ref z3, .ref z5, .ref z7, .int 0, .ref z9, .int 0, .ref z11, .int 0, .int 0, .int 0])), (z9, .inl (cA10, 20, .inr (.inr (.inr (.inr (va_up (f45) (Int32.toNatClampNeg 5) (some z46))))))), (z46, .inr (3, [.ref b1_48, .int 0, .ref b2_49, .ref b3_50, .int 0]))] H := hP
  have hD : va_D A [(h0, .inr (1, [.ref a1, .ref a2, .ref a3, .int 0, .null, .ref z1, .ref z3, .ref z5, .ref z7, .int 0, .ref z9, .int 0, .ref z11, .int 0, .int 0, .int 0])), (z9, .inl (cA10, 20, .inr (.inr (.inr (.inr (va_up (f45) (Int32.toNatClampNeg 5) (some z46))))))), (z46, .inr (3, [.ref b1_48, .int 0, .ref b2_49, .ref b3_50, .int 0]))] := hD
  generalize va_up (f45) (Int32.toNatClampNeg 5) (some z46) = f51 at hP hD
  have hP := hP.sub (ws' := [(h0, .inr (1, [.ref a1, .ref a2, .ref a3, .int 0, .null, .ref z1, .ref z3, .ref z5, .ref z7, .int 0, .ref z9, .int 0, .ref z11, .int 0, .int 0, .int 0])), (z9, .inl (cA10, 20, .inr (.inr (.inr (.inr (f51))))))]) [0, 1] rfl
  have hD := hD.sub (ws' := [(h0, .inr (1, [.ref a1, .ref a2, .ref a3, .int 0, .null, .ref z1, .ref z3, .ref z5, .ref z7, .int 0, .ref z9, .int 0, .ref z11, .int 0, .int 0, .int 0])), (z9, .inl (cA10, 20, .inr (.inr (.inr (.inr (f51))))))]) [0, 1] (by decide) rfl
  have hK := hK.sub (tys' := [(cA10, .object RX3)]) [0] rfl
  refine lv_iinc (v := 6) (lv' := [(4, .int 6), (0, .ref h0), (1, .ref a1), (2, .ref a2), (3, .ref a3)]) hx hb dX1_init_99 hl (k := 0) rfl (by decide +kernel) (by decide) rfl (fun ls hl => ?_)
  refine lv_goto (tgt := 75) hx hb dX1_init_102 (by decide) ?_
  refine lv_iload hx hb dX1_init_75 (lv_at hl 0 rfl) ?_
  refine lv_aload_n hx hb dX1_init_77 rfl (lv_at hl 1 rfl) ?_
  refine va_get (D := (dC, dI)) (ci := 1) (v := .ref z9) (C := RX1) (T := TX1) (N := 16) hx hb hw uX1 hown hK hP 0 rfl rfl 10 (by decide) (hw _ q55) (fun _ h9 => h9) rfl dX1_init_78 ?_
  refine va_alen (D := (dC, dI)) hx hb hK hP 1 0 rfl rfl (v := 20) rfl dX1_init_81 ?_
  refine lv_icmp_ge (tgt := 105) hx hb dX1_init_82 (by decide) (fun c9 => absurd c9 (by decide)) (fun _ => ?_)
  refine lv_aload_n hx hb dX1_init_85 rfl (lv_at hl 1 rfl) ?_
  refine va_get (D := (dC, dI)) (ci := 1) (v := .ref z9) (C := RX1) (T := TX1) (N := 16) hx hb hw uX1 hown hK hP 0 rfl rfl 10 (by decide) (hw _ q55) (fun _ h9 => h9) rfl dX1_init_86 ?_
  refine lv_iload hx hb dX1_init_89 (lv_at hl 0 rfl) ?_
  refine va_new (D := (dC, dI)) (ci := 3) (fs := [.null, .int 0, .null, .null, .int 0]) (C := RX3) (T := TX3) (N := 5) hx hb hw uX3 tyX3 tyX3_ok hown (hw _ q53) (hw _ q14) (hw _ q15) hK hP hD hS hA rfl (by decide +kernel) (Nat.le_of_ble_eq_true rfl) (Nat.le_of_ble_eq_true rfl) dX1_init_91 (fun z52 H hP hD hS => ?_)
  have hP : va_P (dC, dI) vwCl [(h0, .inr (1, [.ref a1, .ref a2, .ref a3, .int 0, .null, .ref z1, .ref z3, .ref z5, .ref z7, .int 0, .ref z9, .int 0, .ref z11, .int 0, .int 0, .int 0])), (z9, .inl (cA10, 20, .inr (.inr (.inr (.inr (f51)))))), (z52, .inr (3, [.null, .int 0, .null, .null, .int 0]))] H := hP
  have hD : va_D A [(h0, .inr (1, [.ref a1, .ref a2, .ref a3, .int 0, .null, .ref z1, .ref z3, .ref z5, .ref z7, .int 0, .ref z9, .int 0, .ref z11, .int 0, .int 0, .int 0])), (z9, .inl (cA10, 20, .inr (.inr (.inr (.inr (f51)))))), (z52, .inr (3, [.null, .int 0, .null, .null, .int 0]))] := hD
  refine W.widen (k := 34) (n := 1741) (Nat.le_of_ble_eq_true rfl) (Nat.le_of_ble_eq_true rfl) ?_
  refine lv_dup hx hb dX1_init_94 rfl ?_
  have hPc := hP.sub (ws' := [(z52, .inr (3, [.null, .int 0, .null, .null, .int 0]))]) [2] rfl
  have hDc := hD.sub (ws' := [(z52, .inr (3, [.null, .int 0, .null, .null, .int 0]))]) [2] (by decide) rfl
  have hKc := hK.sub (tys' := []) [] rfl
  have hFc := va_free (wc := [(z52, .inr (3, [.null, .int 0, .null, .null, .int 0]))]) hD hS hA [2] rfl
  refine va_callv (va_runIN (As := []) (rest := [.ref z52, .int 6, .ref z9]) ⟨hx, hb, hml, hown, hw⟩ (c_X3_init l dC dI _ (z52)) ⟨va_cnB 0 hw (gB q16) rfl rfl rfl (nn5 hN) (hw _ q15) (by decide +kernel) ⟨Nat.le_of_ble_eq_true rfl, Nat.le_of_ble_eq_true rfl⟩, rfl, hw _ q17⟩ ⟨cP_blind, cP_pre hPc hKc hDc hN⟩ rfl rfl hl.1 rfl (lv_room (Nat.le_of_ble_eq_true rfl)) dX1_init_95 ⟨Nat.le_of_ble_eq_true rfl, Nat.le_of_ble_eq_true rfl⟩) hS (fun q _ h => hFc q h) hFc (fun u9 t H1 locs ht hvm hw1 hB hz1 hk1 hS => ?_)
  obtain ⟨b1_54, b2_55, b3_56, hP1, hK1, hD1⟩ := hB
  rw [ht] at hP1
  have hK1 := va_K.moved hvm.symm hK1
  obtain ⟨hP, hD⟩ := va_join (wr := [(h0, .inr (1, [.ref a1, .ref a2, .ref a3, .int 0, .null, .ref z1, .ref z3, .ref z5, .ref z7, .int 0, .ref z9, .int 0, .ref z11, .int 0, .int 0, .int 0])), (z9, .inl (cA10, 20, .inr (.inr (.inr (.inr (f51))))))]) (w1 := [(z52, .inr (3, [.ref b1_54, .int 0, .ref b2_55, .ref b3_56, .int 0]))]) hP hD [2] [0, 1] rfl rfl (by decide) (by decide) hk1 hFc hP1 hD1
  have hK := (hK.sub (tys' := [(cA10, .object RX3)]) [0] rfl).app hK1
  generalize H1 = H at hP hS ⊢
  have hP : va_P (dC, dI) vwCl [(h0, .inr (1, [.ref a1, .ref a2, .ref a3, .int 0, .null, .ref z1, .ref z3, .ref z5, .ref z7, .int 0, .ref z9, .int 0, .ref z11, .int 0, .int 0, .int 0])), (z9, .inl (cA10, 20, .inr (.inr (.inr (.inr (f51)))))), (z52, .inr (3, [.ref b1_54, .int 0, .ref b2_55, .ref b3_56, .int 0]))] H := hP
  have hD : va_D A [(h0, .inr (1, [.ref a1, .ref a2, .ref a3, .int 0, .null, .ref z1, .ref z3, .ref z5, .ref z7, .int 0, .ref z9, .int 0, .ref z11, .int 0, .int 0, .int 0])), (z9, .inl (cA10, 20, .inr (.inr (.inr (.inr (f51)))))), (z52, .inr (3, [.ref b1_54, .int 0, .ref b2_55, .ref b3_56, .int 0]))] := hD
  have hK : va_K (dC, dI) vwCl [(cA10, .object RX3)] s := hK
  refine W.widen (k := 37) (n := 1924) (Nat.le_of_ble_eq_true rfl) (Nat.le_of_ble_eq_true rfl) ?_
  refine va_astq (D := (dC, dI)) (r := (RX3, TX3, 5)) hx hb hK hP hD hS 1 0 2 3 rfl rfl rfl rfl (by unfold vp_in; decide) dX1_init_98 (fun H locs hP hD hS => ?_)
  have hP : va_P (dC, dI) vwCl [(h0, .inr (1, [.ref a1, .ref a2, .ref a3, .int 0, .null, .ref z1, .ref z3, .ref z5, .ref z7, .int 0, .ref z9, .int 0, .ref z11, .int 0, .int 0, .int 0])), (z9, .inl (cA10, 20, .inr (.inr (.inr (.inr (va_up (f51) (Int32.toNatClampNeg 6) (some z52))))))), (z52, .inr (3, [.ref b1_54, .int 0, .ref b2_55, .ref b3_56, .int 0]))] H := hP
  have hD : va_D A [(h0, .inr (1, [.ref a1, .ref a2, .ref a3, .int 0, .null, .ref z1, .ref z3, .ref z5, .ref z7, .int 0, .ref z9, .int 0, .ref z11, .int 0, .int 0, .int 0])), (z9, .inl (cA10, 20, .inr (.inr (.inr (.inr (va_up (f51) (Int32.toNatClampNeg 6) (some z52))))))), (z52, .inr (3, [.ref b1_54, .int 0, .ref b2_55, .ref b3_56, .int 0]))] := hD
  generalize va_up (f51) (Int32.toNatClampNeg 6) (some z52) = f57 at hP hD
  have hP := hP.sub (ws' := [(h0, .inr (1, [.ref a1, .ref a2, .ref a3, .int 0, .null, .ref z1, .ref z3, .ref z5, .ref z7, .int 0, .ref z9, .int 0, .ref z11, .int 0, .int 0, .int 0])), (z9, .inl (cA10, 20, .inr (.inr (.inr (.inr (f57))))))]) [0, 1] rfl
  have hD := hD.sub (ws' := [(h0, .inr (1, [.ref a1, .ref a2, .ref a3, .int 0, .null, .ref z1, .ref z3, .ref z5, .ref z7, .int 0, .ref z9, .int 0, .ref z11, .int 0, .int 0, .int 0])), (z9, .inl (cA10, 20, .inr (.inr (.inr (.inr (f57))))))]) [0, 1] (by decide) rfl
  have hK := hK.sub (tys' := [(cA10, .object RX3)]) [0] rfl
  refine lv_iinc (v := 7) (lv' := [(4, .int 7), (0, .ref h0), (1, .ref a1), (2, .ref a2), (3, .ref a3)]) hx hb dX1_init_99 hl (k := 0) rfl (by decide +kernel) (by decide) rfl (fun ls hl => ?_)
  refine lv_goto (tgt := 75) hx hb dX1_init_102 (by decide) ?_
  refine lv_iload hx hb dX1_init_75 (lv_at hl 0 rfl) ?_
  refine lv_aload_n hx hb dX1_init_77 rfl (lv_at hl 1 rfl) ?_
  refine va_get (D := (dC, dI)) (ci := 1) (v := .ref z9) (C := RX1) (T := TX1) (N := 16) hx hb hw uX1 hown hK hP 0 rfl rfl 10 (by decide) (hw _ q55) (fun _ h9 => h9) rfl dX1_init_78 ?_
  refine va_alen (D := (dC, dI)) hx hb hK hP 1 0 rfl rfl (v := 20) rfl dX1_init_81 ?_
  refine lv_icmp_ge (tgt := 105) hx hb dX1_init_82 (by decide) (fun c9 => absurd c9 (by decide)) (fun _ => ?_)
  refine lv_aload_n hx hb dX1_init_85 rfl (lv_at hl 1 rfl) ?_
  refine va_get (D := (dC, dI)) (ci := 1) (v := .ref z9) (C := RX1) (T := TX1) (N := 16) hx hb hw uX1 hown hK hP 0 rfl rfl 10 (by decide) (hw _ q55) (fun _ h9 => h9) rfl dX1_init_86 ?_
  refine lv_iload hx hb dX1_init_89 (lv_at hl 0 rfl) ?_
  refine va_new (D := (dC, dI)) (ci := 3) (fs := [.null, .int 0, .null, .null, .int 0]) (C := RX3) (T := TX3) (N := 5) hx hb hw uX3 tyX3 tyX3_ok hown (hw _ q53) (hw _ q14) (hw _ q15) hK hP hD hS hA rfl (by decide +kernel) (Nat.le_of_ble_eq_true rfl) (Nat.le_of_ble_eq_true rfl) dX1_init_91 (fun z58 H hP hD hS => ?_)
  have hP : va_P (dC, dI) vwCl [(h0, .inr (1, [.ref a1, .ref a2, .ref a3, .int 0, .null, .ref z1, .ref z3, .ref z5, .ref z7, .int 0, .ref z9, .int 0, .ref z11, .int 0, .int 0, .int 0])), (z9, .inl (cA10, 20, .inr (.inr (.inr (.inr (f57)))))), (z58, .inr (3, [.null, .int 0, .null, .null, .int 0]))] H := hP
  have hD : va_D A [(h0, .inr (1, [.ref a1, .ref a2, .ref a3, .int 0, .null, .ref z1, .ref z3, .ref z5, .ref z7, .int 0, .ref z9, .int 0, .ref z11, .int 0, .int 0, .int 0])), (z9, .inl (cA10, 20, .inr (.inr (.inr (.inr (f57)))))), (z58, .inr (3, [.null, .int 0, .null, .null, .int 0]))] := hD
  refine W.widen (k := 38) (n := 1929) (Nat.le_of_ble_eq_true rfl) (Nat.le_of_ble_eq_true rfl) ?_
  refine lv_dup hx hb dX1_init_94 rfl ?_
  have hPc := hP.sub (ws' := [(z58, .inr (3, [.null, .int 0, .null, .null, .int 0]))]) [2] rfl
  have hDc := hD.sub (ws' := [(z58, .inr (3, [.null, .int 0, .null, .null, .int 0]))]) [2] (by decide) rfl
  have hKc := hK.sub (tys' := []) [] rfl
  have hFc := va_free (wc := [(z58, .inr (3, [.null, .int 0, .null, .null, .int 0]))]) hD hS hA [2] rfl
  refine va_callv (va_runIN (As := []) (rest := [.ref z58, .int 7, .ref z9]) ⟨hx, hb, hml, hown, hw⟩ (c_X3_init l dC dI _ (z58)) ⟨va_cnB 0 hw (gB q16) rfl rfl rfl (nn5 hN) (hw _ q15) (by decide +kernel) ⟨Nat.le_of_ble_eq_true rfl, Nat.le_of_ble_eq_true rfl⟩, rfl, hw _ q17⟩ ⟨cP_blind, cP_pre hPc hKc hDc hN⟩ rfl rfl hl.1 rfl (lv_room (Nat.le_of_ble_eq_true rfl)) dX1_init_95 ⟨Nat.le_of_ble_eq_true rfl, Nat.le_of_ble_eq_true rfl⟩) hS (fun q _ h => hFc q h) hFc (fun u9 t H1 locs ht hvm hw1 hB hz1 hk1 hS => ?_)
  obtain ⟨b1_60, b2_61, b3_62, hP1, hK1, hD1⟩ := hB
  rw [ht] at hP1
  have hK1 := va_K.moved hvm.symm hK1
  obtain ⟨hP, hD⟩ := va_join (wr := [(h0, .inr (1, [.ref a1, .ref a2, .ref a3, .int 0, .null, .ref z1, .ref z3, .ref z5, .ref z7, .int 0, .ref z9, .int 0, .ref z11, .int 0, .int 0, .int 0])), (z9, .inl (cA10, 20, .inr (.inr (.inr (.inr (f57))))))]) (w1 := [(z58, .inr (3, [.ref b1_60, .int 0, .ref b2_61, .ref b3_62, .int 0]))]) hP hD [2] [0, 1] rfl rfl (by decide) (by decide) hk1 hFc hP1 hD1
  have hK := (hK.sub (tys' := [(cA10, .object RX3)]) [0] rfl).app hK1
  generalize H1 = H at hP hS ⊢
  have hP : va_P (dC, dI) vwCl [(h0, .inr (1, [.ref a1, .ref a2, .ref a3, .int 0, .null, .ref z1, .ref z3, .ref z5, .ref z7, .int 0, .ref z9, .int 0, .ref z11, .int 0, .int 0, .int 0])), (z9, .inl (cA10, 20, .inr (.inr (.inr (.inr (f57)))))), (z58, .inr (3, [.ref b1_60, .int 0, .ref b2_61, .ref b3_62, .int 0]))] H := hP
  have hD : va_D A [(h0, .inr (1, [.ref a1, .ref a2, .ref a3, .int 0, .null, .ref z1, .ref z3, .ref z5, .ref z7, .int 0, .ref z9, .int 0, .ref z11, .int 0, .int 0, .int 0])), (z9, .inl (cA10, 20, .inr (.inr (.inr (.inr (f57)))))), (z58, .inr (3, [.ref b1_60, .int 0, .ref b2_61, .ref b3_62, .int 0]))] := hD
  have hK : va_K (dC, dI) vwCl [(cA10, .object RX3)] s := hK
  refine W.widen (k := 41) (n := 2112) (Nat.le_of_ble_eq_true rfl) (Nat.le_of_ble_eq_true rfl) ?_
  refine va_astq (D := (dC, dI)) (r := (RX3, TX3, 5)) hx hb hK hP hD hS 1 0 2 3 rfl rfl rfl rfl (by unfold vp_in; decide) dX1_init_98 (fun H locs hP hD hS => ?_)
  have hP : va_P (dC, dI) vwCl [(h0, .inr (1, [.ref a1, .ref a2, .ref a3, .int 0, .null, .ref z1, .ref z3, .ref z5, .ref z7, .int 0, .ref z9, .int 0, .ref z11, .int 0, .int 0, .int 0])), (z9, .inl (cA10, 20, .inr (.inr (.inr (.inr (va_up (f57) (Int32.toNatClampNeg 7) (some z58))))))), (z58, .inr (3, [.ref b1_60, .int 0, .ref b2_61, .ref b3_62, .int 0]))] H := hP
  have hD : va_D A [(h0, .inr (1, [.ref a1, .ref a2, .ref a3, .int 0, .null, .ref z1, .ref z3, .ref z5, .ref z7, .int 0, .ref z9, .int 0, .ref z11, .int 0, .int 0, .int 0])), (z9, .inl (cA10, 20, .inr (.inr (.inr (.inr (va_up (f57) (Int32.toNatClampNeg 7) (some z58))))))), (z58, .inr (3, [.ref b1_60, .int 0, .ref b2_61, .ref b3_62, .int 0]))] := hD
  generalize va_up (f57) (Int32.toNatClampNeg 7) (some z58) = f63 at hP hD
  have hP := hP.sub (ws' := [(h0, .inr (1, [.ref a1, .ref a2, .ref a3, .int 0, .null, .ref z1, .ref z3, .ref z5, .ref z7, .int 0, .ref z9, .int 0, .ref z11, .int 0, .int 0, .int 0])), (z9, .inl (cA10, 20, .inr (.inr (.inr (.inr (f63))))))]) [0, 1] rfl
  have hD := hD.sub (ws' := [(h0, .inr (1, [.ref a1, .ref a2, .ref a3, .int 0, .null, .ref z1, .ref z3, .ref z5, .ref z7, .int 0, .ref z9, .int 0, .ref z11, .int 0, .int 0, .int 0])), (z9, .inl (cA10, 20, .inr (.inr (.inr (.inr (f63))))))]) [0, 1] (by decide) rfl
  have hK := hK.sub (tys' := [(cA10, .object RX3)]) [0] rfl
  refine lv_iinc (v := 8) (lv' := [(4, .int 8), (0, .ref h0), (1, .ref a1), (2, .ref a2), (3, .ref a3)]) hx hb dX1_init_99 hl (k := 0) rfl (by decide +kernel) (by decide) rfl (fun ls hl => ?_)
  refine lv_goto (tgt := 75) hx hb dX1_init_102 (by decide) ?_
  refine lv_iload hx hb dX1_init_75 (lv_at hl 0 rfl) ?_
  refine lv_aload_n hx hb dX1_init_77 rfl (lv_at hl 1 rfl) ?_
  refine va_get (D := (dC, dI)) (ci := 1) (v := .ref z9) (C := RX1) (T := TX1) (N := 16) hx hb hw uX1 hown hK hP 0 rfl rfl 10 (by decide) (hw _ q55) (fun _ h9 => h9) rfl dX1_init_78 ?_
  refine va_alen (D := (dC, dI)) hx hb hK hP 1 0 rfl rfl (v := 20) rfl dX1_init_81 ?_
  refine lv_icmp_ge (tgt := 105) hx hb dX1_init_82 (by decide) (fun c9 => absurd c9 (by decide)) (fun _ => ?_)
  refine lv_aload_n hx hb dX1_init_85 rfl (lv_at hl 1 rfl) ?_
  refine va_get (D := (dC, dI)) (ci := 1) (v := .ref z9) (C := RX1) (T := TX1) (N := 16) hx hb hw uX1 hown hK hP 0 rfl rfl 10 (by decide) (hw _ q55) (fun _ h9 => h9) rfl dX1_init_86 ?_
  refine lv_iload hx hb dX1_init_89 (lv_at hl 0 rfl) ?_
  refine va_new (D := (dC, dI)) (ci := 3) (fs := [.null, .int 0, .null, .null, .int 0]) (C := RX3) (T := TX3) (N := 5) hx hb hw uX3 tyX3 tyX3_ok hown (hw _ q53) (hw _ q14) (hw _ q15) hK hP hD hS hA rfl (by decide +kernel) (Nat.le_of_ble_eq_true rfl) (Nat.le_of_ble_eq_true rfl) dX1_init_91 (fun z64 H hP hD hS => ?_)
  have hP : va_P (dC, dI) vwCl [(h0, .inr (1, [.ref a1, .ref a2, .ref a3, .int 0, .null, .ref z1, .ref z3, .ref z5, .ref z7, .int 0, .ref z9, .int 0, .ref z11, .int 0, .int 0, .int 0])), (z9, .inl (cA10, 20, .inr (.inr (.inr (.inr (f63)))))), (z64, .inr (3, [.null, .int 0, .null, .null, .int 0]))] H := hP
  have hD : va_D A [(h0, .inr (1, [.ref a1, .ref a2, .ref a3, .int 0, .null, .ref z1, .ref z3, .ref z5, .ref z7, .int 0, .ref z9, .int 0, .ref z11, .int 0, .int 0, .int 0])), (z9, .inl (cA10, 20, .inr (.inr (.inr (.inr (f63)))))), (z64, .inr (3, [.null, .int 0, .null, .null, .int 0]))] := hD
  refine W.widen (k := 42) (n := 2117) (Nat.le_of_ble_eq_true rfl) (Nat.le_of_ble_eq_true rfl) ?_
  refine lv_dup hx hb dX1_init_94 rfl ?_
  have hPc := hP.sub (ws' := [(z64, .inr (3, [.null, .int 0, .null, .null, .int 0]))]) [2] rfl
  have hDc := hD.sub (ws' := [(z64, .inr (3, [.null, .int 0, .null, .null, .int 0]))]) [2] (by decide) rfl
  have hKc := hK.sub (tys' := []) [] rfl
  have hFc := va_free (wc := [(z64, .inr (3, [.null, .int 0, .null, .null, .int 0]))]) hD hS hA [2] rfl
  refine va_callv (va_runIN (As := []) (rest := [.ref z64, .int 8, .ref z9]) ⟨hx, hb, hml, hown, hw⟩ (c_X3_init l dC dI _ (z64)) ⟨va_cnB 0 hw (gB q16) rfl rfl rfl (nn5 hN) (hw _ q15) (by decide +kernel) ⟨Nat.le_of_ble_eq_true rfl, Nat.le_of_ble_eq_true rfl⟩, rfl, hw _ q17⟩ ⟨cP_blind, cP_pre hPc hKc hDc hN⟩ rfl rfl hl.1 rfl (lv_room (Nat.le_of_ble_eq_true rfl)) dX1_init_95 ⟨Nat.le_of_ble_eq_true rfl, Nat.le_of_ble_eq_true rfl⟩) hS (fun q _ h => hFc q h) hFc (fun u9 t H1 locs ht hvm hw1 hB hz1 hk1 hS => ?_)
  obtain ⟨b1_66, b2_67, b3_68, hP1, hK1, hD1⟩ := hB
  rw [ht] at hP1
  have hK1 := va_K.moved hvm.symm hK1
  obtain ⟨hP, hD⟩ := va_join (wr := [(h0, .inr (1, [.ref a1, .ref a2, .ref a3, .int 0, .null, .ref z1, .ref z3, .ref z5, .ref z7, .int 0, .ref z9, .int 0, .ref z11, .int 0, .int 0, .int 0])), (z9, .inl (cA10, 20, .inr (.inr (.inr (.inr (f63))))))]) (w1 := [(z64, .inr (3, [.ref b1_66, .int 0, .ref b2_67, .ref b3_68, .int 0]))]) hP hD [2] [0, 1] rfl rfl (by decide) (by decide) hk1 hFc hP1 hD1
  have hK := (hK.sub (tys' := [(cA10, .object RX3)]) [0] rfl).app hK1
  generalize H1 = H at hP hS ⊢
  have hP : va_P (dC, dI) vwCl [(h0, .inr (1, [.ref a1, .ref a2, .ref a3, .int 0, .null, .ref z1, .ref z3, .ref z5, .ref z7, .int 0, .ref z9, .int 0, .ref z11, .int 0, .int 0, .int 0])), (z9, .inl (cA10, 20, .inr (.inr (.inr (.inr (f63)))))), (z64, .inr (3, [.ref b1_66, .int 0, .ref b2_67, .ref b3_68, .int 0]))] H := hP
  have hD : va_D A [(h0, .inr (1, [.ref a1, .ref a2, .ref a3, .int 0, .null, .ref z1, .ref z3, .ref z5, .ref z7, .int 0, .ref z9, .int 0, .ref z11, .int 0, .int 0, .int 0])), (z9, .inl (cA10, 20, .inr (.inr (.inr (.inr (f63)))))), (z64, .inr (3, [.ref b1_66, .int 0, .ref b2_67, .ref b3_68, .int 0]))] := hD
  have hK : va_K (dC, dI) vwCl [(cA10, .object RX3)] s := hK
  refine W.widen (k := 45) (n := 2300) (Nat.le_of_ble_eq_true rfl) (Nat.le_of_ble_eq_true rfl) ?_
  refine va_astq (D := (dC, dI)) (r := (RX3, TX3, 5)) hx hb hK hP hD hS 1 0 2 3 rfl rfl rfl rfl (by unfold vp_in; decide) dX1_init_98 (fun H locs hP hD hS => ?_)
  have hP : va_P (dC, dI) vwCl [(h0, .inr (1, [.ref a1, .ref a2, .ref a3, .int 0, .null, .ref z1, .ref z3, .ref z5, .ref z7, .int 0, .ref z9, .int 0, .ref z11, .int 0, .int 0, .int 0])), (z9, .inl (cA10, 20, .inr (.inr (.inr (.inr (va_up (f63) (Int32.toNatClampNeg 8) (some z64))))))), (z64, .inr (3, [.ref b1_66, .int 0, .ref b2_67, .ref b3_68, .int 0]))] H := hP
  have hD : va_D A [(h0, .inr (1, [.ref a1, .ref a2, .ref a3, .int 0, .null, .ref z1, .ref z3, .ref z5, .ref z7, .int 0, .ref z9, .int 0, .ref z11, .int 0, .int 0, .int 0])), (z9, .inl (cA10, 20, .inr (.inr (.inr (.inr (va_up (f63) (Int32.toNatClampNeg 8) (some z64))))))), (z64, .inr (3, [.ref b1_66, .int 0, .ref b2_67, .ref b3_68, .int 0]))] := hD
  generalize va_up (f63) (Int32.toNatClampNeg 8) (some z64) = f69 at hP hD
  have hP := hP.sub (ws' := [(h0, .inr (1, [.ref a1, .ref a2, .ref a3, .int 0, .null, .ref z1, .ref z3, .ref z5, .ref z7, .int 0, .ref z9, .int 0, .ref z11, .int 0, .int 0, .int 0])), (z9, .inl (cA10, 20, .inr (.inr (.inr (.inr (f69))))))]) [0, 1] rfl
  have hD := hD.sub (ws' := [(h0, .inr (1, [.ref a1, .ref a2, .ref a3, .int 0, .null, .ref z1, .ref z3, .ref z5, .ref z7, .int 0, .ref z9, .int 0, .ref z11, .int 0, .int 0, .int 0])), (z9, .inl (cA10, 20, .inr (.inr (.inr (.inr (f69))))))]) [0, 1] (by decide) rfl
  have hK := hK.sub (tys' := [(cA10, .object RX3)]) [0] rfl
  refine lv_iinc (v := 9) (lv' := [(4, .int 9), (0, .ref h0), (1, .ref a1), (2, .ref a2), (3, .ref a3)]) hx hb dX1_init_99 hl (k := 0) rfl (by decide +kernel) (by decide) rfl (fun ls hl => ?_)
  refine lv_goto (tgt := 75) hx hb dX1_init_102 (by decide) ?_
  refine lv_iload hx hb dX1_init_75 (lv_at hl 0 rfl) ?_
  refine lv_aload_n hx hb dX1_init_77 rfl (lv_at hl 1 rfl) ?_
  refine va_get (D := (dC, dI)) (ci := 1) (v := .ref z9) (C := RX1) (T := TX1) (N := 16) hx hb hw uX1 hown hK hP 0 rfl rfl 10 (by decide) (hw _ q55) (fun _ h9 => h9) rfl dX1_init_78 ?_
  refine va_alen (D := (dC, dI)) hx hb hK hP 1 0 rfl rfl (v := 20) rfl dX1_init_81 ?_
  refine lv_icmp_ge (tgt := 105) hx hb dX1_init_82 (by decide) (fun c9 => absurd c9 (by decide)) (fun _ => ?_)
  refine lv_aload_n hx hb dX1_init_85 rfl (lv_at hl 1 rfl) ?_
  refine va_get (D := (dC, dI)) (ci := 1) (v := .ref z9) (C := RX1) (T := TX1) (N := 16) hx hb hw uX1 hown hK hP 0 rfl rfl 10 (by decide) (hw _ q55) (fun _ h9 => h9) rfl dX1_init_86 ?_
  refine lv_iload hx hb dX1_init_89 (lv_at hl 0 rfl) ?_
  refine va_new (D := (dC, dI)) (ci := 3) (fs := [.null, .int 0, .null, .null, .int 0]) (C := RX3) (T := TX3) (N := 5) hx hb hw uX3 tyX3 tyX3_ok hown (hw _ q53) (hw _ q14) (hw _ q15) hK hP hD hS hA rfl (by decide +kernel) (Nat.le_of_ble_eq_true rfl) (Nat.le_of_ble_eq_true rfl) dX1_init_91 (fun z70 H hP hD hS => ?_)
  have hP : va_P (dC, dI) vwCl [(h0, .inr (1, [.ref a1, .ref a2, .ref a3, .int 0, .null, .ref z1, .ref z3, .ref z5, .ref z7, .int 0, .ref z9, .int 0, .ref z11, .int 0, .int 0, .int 0])), (z9, .inl (cA10, 20, .inr (.inr (.inr (.inr (f69)))))), (z70, .inr (3, [.null, .int 0, .null, .null, .int 0]))] H := hP
  have hD : va_D A [(h0, .inr (1, [.ref a1, .ref a2, .ref a3, .int 0, .null, .ref z1, .ref z3, .ref z5, .ref z7, .int 0, .ref z9, .int 0, .ref z11, .int 0, .int 0, .int 0])), (z9, .inl (cA10, 20, .inr (.inr (.inr (.inr (f69)))))), (z70, .inr (3, [.null, .int 0, .null, .null, .int 0]))] := hD
  refine W.widen (k := 46) (n := 2305) (Nat.le_of_ble_eq_true rfl) (Nat.le_of_ble_eq_true rfl) ?_
  refine lv_dup hx hb dX1_init_94 rfl ?_
  have hPc := hP.sub (ws' := [(z70, .inr (3, [.null, .int 0, .null, .null, .int 0]))]) [2] rfl
  have hDc := hD.sub (ws' := [(z70, .inr (3, [.null, .int 0, .null, .null, .int 0]))]) [2] (by decide) rfl
  have hKc := hK.sub (tys' := []) [] rfl
  have hFc := va_free (wc := [(z70, .inr (3, [.null, .int 0, .null, .null, .int 0]))]) hD hS hA [2] rfl
  refine va_callv (va_runIN (As := []) (rest := [.ref z70, .int 9, .ref z9]) ⟨hx, hb, hml, hown, hw⟩ (c_X3_init l dC dI _ (z70)) ⟨va_cnB 0 hw (gB q16) rfl rfl rfl (nn5 hN) (hw _ q15) (by decide +kernel) ⟨Nat.le_of_ble_eq_true rfl, Nat.le_of_ble_eq_true rfl⟩, rfl, hw _ q17⟩ ⟨cP_blind, cP_pre hPc hKc hDc hN⟩ rfl rfl hl.1 rfl (lv_room (Nat.le_of_ble_eq_true rfl)) dX1_init_95 ⟨Nat.le_of_ble_eq_true rfl, Nat.le_of_ble_eq_true rfl⟩) hS (fun q _ h => hFc q h) hFc (fun u9 t H1 locs ht hvm hw1 hB hz1 hk1 hS => ?_)
  obtain ⟨b1_72, b2_73, b3_74, hP1, hK1, hD1⟩ := hB
  rw [ht] at hP1
  have hK1 := va_K.moved hvm.symm hK1
  obtain ⟨hP, hD⟩ := va_join (wr := [(h0, .inr (1, [.ref a1, .ref a2, .ref a3, .int 0, .null, .ref z1, .ref z3, .ref z5, .ref z7, .int 0, .ref z9, .int 0, .ref z11, .int 0, .int 0, .int 0])), (z9, .inl (cA10, 20, .inr (.inr (.inr (.inr (f69))))))]) (w1 := [(z70, .inr (3, [.ref b1_72, .int 0, .ref b2_73, .ref b3_74, .int 0]))]) hP hD [2] [0, 1] rfl rfl (by decide) (by decide) hk1 hFc hP1 hD1
  have hK := (hK.sub (tys' := [(cA10, .object RX3)]) [0] rfl).app hK1
  generalize H1 = H at hP hS ⊢
  have hP : va_P (dC, dI) vwCl [(h0, .inr (1, [.ref a1, .ref a2, .ref a3, .int 0, .null, .ref z1, .ref z3, .ref z5, .ref z7, .int 0, .ref z9, .int 0, .ref z11, .int 0, .int 0, .int 0])), (z9, .inl (cA10, 20, .inr (.inr (.inr (.inr (f69)))))), (z70, .inr (3, [.ref b1_72, .int 0, .ref b2_73, .ref b3_74, .int 0]))] H := hP
  have hD : va_D A [(h0, .inr (1, [.ref a1, .ref a2, .ref a3, .int 0, .null, .ref z1, .ref z3, .ref z5, .ref z7, .int 0, .ref z9, .int 0, .ref z11, .int 0, .int 0, .int 0])), (z9, .inl (cA10, 20, .inr (.inr (.inr (.inr (f69)))))), (z70, .inr (3, [.ref b1_72, .int 0, .ref b2_73, .ref b3_74, .int 0]))] := hD
  have hK : va_K (dC, dI) vwCl [(cA10, .object RX3)] s := hK
  refine W.widen (k := 49) (n := 2488) (Nat.le_of_ble_eq_true rfl) (Nat.le_of_ble_eq_true rfl) ?_
  refine va_astq (D := (dC, dI)) (r := (RX3, TX3, 5)) hx hb hK hP hD hS 1 0 2 3 rfl rfl rfl rfl (by unfold vp_in; decide) dX1_init_98 (fun H locs hP hD hS => ?_)
  have hP : va_P (dC, dI) vwCl [(h0, .inr (1, [.ref a1, .ref a2, .ref a3, .int 0, .null, .ref z1, .ref z3, .ref z5, .ref z7, .int 0, .ref z9, .int 0, .ref z11, .int 0, .int 0, .int 0])), (z9, .inl (cA10, 20, .inr (.inr (.inr (.inr (va_up (f69) (Int32.toNatClampNeg 9) (some z70))))))), (z70, .inr (3, [.ref b1_72, .int 0, .ref b2_73, .ref b3_74, .int 0]))] H := hP
  have hD : va_D A [(h0, .inr (1, [.ref a1, .ref a2, .ref a3, .int 0, .null, .ref z1, .ref z3, .ref z5, .ref z7, .int 0, .ref z9, .int 0, .ref z11, .int 0, .int 0, .int 0])), (z9, .inl (cA10, 20, .inr (.inr (.inr (.inr (va_up (f69) (Int32.toNatClampNeg 9) (some z70))))))), (z70, .inr (3, [.ref b1_72, .int 0, .ref b2_73, .ref b3_74, .int 0]))] := hD
  generalize va_up (f69) (Int32.toNatClampNeg 9) (some z70) = f75 at hP hD
  have hP := hP.sub (ws' := [(h0, .inr (1, [.ref a1, .ref a2, .ref a3, .int 0, .null, .ref z1, .ref z3, .ref z5, .ref z7, .int 0, .ref z9, .int 0, .ref z11, .int 0, .int 0, .int 0])), (z9, .inl (cA10, 20, .inr (.inr (.inr (.inr (f75))))))]) [0, 1] rfl
  have hD := hD.sub (ws' := [(h0, .inr (1, [.ref a1, .ref a2, .ref a3, .int 0, .null, .ref z1, .ref z3, .ref z5, .ref z7, .int 0, .ref z9, .int 0, .ref z11, .int 0, .int 0, .int 0])), (z9, .inl (cA10, 20, .inr (.inr (.inr (.inr (f75))))))]) [0, 1] (by decide) rfl
  have hK := hK.sub (tys' := [(cA10, .object RX3)]) [0] rfl
  refine lv_iinc (v := 10) (lv' := [(4, .int 10), (0, .ref h0), (1, .ref a1), (2, .ref a2), (3, .ref a3)]) hx hb dX1_init_99 hl (k := 0) rfl (by decide +kernel) (by decide) rfl (fun ls hl => ?_)
  refine lv_goto (tgt := 75) hx hb dX1_init_102 (by decide) ?_
  refine lv_iload hx hb dX1_init_75 (lv_at hl 0 rfl) ?_
  refine lv_aload_n hx hb dX1_init_77 rfl (lv_at hl 1 rfl) ?_
  refine va_get (D := (dC, dI)) (ci := 1) (v := .ref z9) (C := RX1) (T := TX1) (N := 16) hx hb hw uX1 hown hK hP 0 rfl rfl 10 (by decide) (hw _ q55) (fun _ h9 => h9) rfl dX1_init_78 ?_
  refine va_alen (D := (dC, dI)) hx hb hK hP 1 0 rfl rfl (v := 20) rfl dX1_init_81 ?_
  refine lv_icmp_ge (tgt := 105) hx hb dX1_init_82 (by decide) (fun c9 => absurd c9 (by decide)) (fun _ => ?_)
  refine lv_aload_n hx hb dX1_init_85 rfl (lv_at hl 1 rfl) ?_
  refine va_get (D := (dC, dI)) (ci := 1) (v := .ref z9) (C := RX1) (T := TX1) (N := 16) hx hb hw uX1 hown hK hP 0 rfl rfl 10 (by decide) (hw _ q55) (fun _ h9 => h9) rfl dX1_init_86 ?_
  refine lv_iload hx hb dX1_init_89 (lv_at hl 0 rfl) ?_
  refine va_new (D := (dC, dI)) (ci := 3) (fs := [.null, .int 0, .null, .null, .int 0]) (C := RX3) (T := TX3) (N := 5) hx hb hw uX3 tyX3 tyX3_ok hown (hw _ q53) (hw _ q14) (hw _ q15) hK hP hD hS hA rfl (by decide +kernel) (Nat.le_of_ble_eq_true rfl) (Nat.le_of_ble_eq_true rfl) dX1_init_91 (fun z76 H hP hD hS => ?_)
  have hP : va_P (dC, dI) vwCl [(h0, .inr (1, [.ref a1, .ref a2, .ref a3, .int 0, .null, .ref z1, .ref z3, .ref z5, .ref z7, .int 0, .ref z9, .int 0, .ref z11, .int 0, .int 0, .int 0])), (z9, .inl (cA10, 20, .inr (.inr (.inr (.inr (f75)))))), (z76, .inr (3, [.null, .int 0, .null, .null, .int 0]))] H := hP
  have hD : va_D A [(h0, .inr (1, [.ref a1, .ref a2, .ref a3, .int 0, .null, .ref z1, .ref z3, .ref z5, .ref z7, .int 0, .ref z9, .int 0, .ref z11, .int 0, .int 0, .int 0])), (z9, .inl (cA10, 20, .inr (.inr (.inr (.inr (f75)))))), (z76, .inr (3, [.null, .int 0, .null, .null, .int 0]))] := hD
  refine W.widen (k := 50) (n := 2493) (Nat.le_of_ble_eq_true rfl) (Nat.le_of_ble_eq_true rfl) ?_
  refine lv_dup hx hb dX1_init_94 rfl ?_
  have hPc := hP.sub (ws' := [(z76, .inr (3, [.null, .int 0, .null, .null, .int 0]))]) [2] rfl
  have hDc := hD.sub (ws' := [(z76, .inr (3, [.null, .int 0, .null, .null, .int 0]))]) [2] (by decide) rfl
  have hKc := hK.sub (tys' := []) [] rfl
  have hFc := va_free (wc := [(z76, .inr (3, [.null, .int 0, .null, .null, .int 0]))]) hD hS hA [2] rfl
  refine va_callv (va_runIN (As := []) (rest := [.ref z76, .int 10, .ref z9]) ⟨hx, hb, hml, hown, hw⟩ (c_X3_init l dC dI _ (z76)) ⟨va_cnB 0 hw (gB q16) rfl rfl rfl (nn5 hN) (hw _ q15) (by decide +kernel) ⟨Nat.le_of_ble_eq_true rfl, Nat.le_of_ble_eq_true rfl⟩, rfl, hw _ q17⟩ ⟨cP_blind, cP_pre hPc hKc hDc hN⟩ rfl rfl hl.1 rfl (lv_room (Nat.le_of_ble_eq_true rfl)) dX1_init_95 ⟨Nat.le_of_ble_eq_true rfl, Nat.le_of_ble_eq_true rfl⟩) hS (fun q _ h => hFc q h) hFc (fun u9 t H1 locs ht hvm hw1 hB hz1 hk1 hS => ?_)
  obtain ⟨b1_78, b2_79, b3_80, hP1, hK1, hD1⟩ := hB
  rw [ht] at hP1
  have hK1 := va_K.moved hvm.symm hK1
  obtain ⟨hP, hD⟩ := va_join (wr := [(h0, .inr (1, [.ref a1, .ref a2, .ref a3, .int 0, .null, .ref z1, .ref z3, .ref z5, .ref z7, .int 0, .ref z9, .int 0, .ref z11, .int 0, .int 0, .int 0])), (z9, .inl (cA10, 20, .inr (.inr (.inr (.inr (f75))))))]) (w1 := [(z76, .inr (3, [.ref b1_78, .int 0, .ref b2_79, .ref b3_80, .int 0]))]) hP hD [2] [0, 1] rfl rfl (by decide) (by decide) hk1 hFc hP1 hD1
  have hK := (hK.sub (tys' := [(cA10, .object RX3)]) [0] rfl).app hK1
  generalize H1 = H at hP hS ⊢
  have hP : va_P (dC, dI) vwCl [(h0, .inr (1, [.ref a1, .ref a2, .ref a3, .int 0, .null, .ref z1, .ref z3, .ref z5, .ref z7, .int 0, .ref z9, .int 0, .ref z11, .int 0, .int 0, .int 0])), (z9, .inl (cA10, 20, .inr (.inr (.inr (.inr (f75)))))), (z76, .inr (3, [.ref b1_78, .int 0, .ref b2_79, .ref b3_80, .int 0]))] H := hP
  have hD : va_D A [(h0, .inr (1, [.ref a1, .ref a2, .ref a3, .int 0, .null, .ref z1, .ref z3, .ref z5, .ref z7, .int 0, .ref z9, .int 0, .ref z11, .int 0, .int 0, .int 0])), (z9, .inl (cA10, 20, .inr (.inr (.inr (.inr (f75)))))), (z76, .inr (3, [.ref b1_78, .int 0, .ref b2_79, .ref b3_80, .int 0]))] := hD
  have hK : va_K (dC, dI) vwCl [(cA10, .object RX3)] s := hK
  refine W.widen (k := 53) (n := 2676) (Nat.le_of_ble_eq_true rfl) (Nat.le_of_ble_eq_true rfl) ?_
  refine va_astq (D := (dC, dI)) (r := (RX3, TX3, 5)) hx hb hK hP hD hS 1 0 2 3 rfl rfl rfl rfl (by unfold vp_in; decide) dX1_init_98 (fun H locs hP hD hS => ?_)
  have hP : va_P (dC, dI) vwCl [(h0, .inr (1, [.ref a1, .ref a2, .ref a3, .int 0, .null, .ref z1, .ref z3, .ref z5, .ref z7, .int 0, .ref z9, .int 0, .ref z11, .int 0, .int 0, .int 0])), (z9, .inl (cA10, 20, .inr (.inr (.inr (.inr (va_up (f75) (Int32.toNatClampNeg 10) (some z76))))))), (z76, .inr (3, [.ref b1_78, .int 0, .ref b2_79, .ref b3_80, .int 0]))] H := hP
  have hD : va_D A [(h0, .inr (1, [.ref a1, .ref a2, .ref a3, .int 0, .null, .ref z1, .ref z3, .ref z5, .ref z7, .int 0, .ref z9, .int 0, .ref z11, .int 0, .int 0, .int 0])), (z9, .inl (cA10, 20, .inr (.inr (.inr (.inr (va_up (f75) (Int32.toNatClampNeg 10) (some z76))))))), (z76, .inr (3, [.ref b1_78, .int 0, .ref b2_79, .ref b3_80, .int 0]))] := hD
  generalize va_up (f75) (Int32.toNatClampNeg 10) (some z76) = f81 at hP hD
  have hP := hP.sub (ws' := [(h0, .inr (1, [.ref a1, .ref a2, .ref a3, .int 0, .null, .ref z1, .ref z3, .ref z5, .ref z7, .int 0, .ref z9, .int 0, .ref z11, .int 0, .int 0, .int 0])), (z9, .inl (cA10, 20, .inr (.inr (.inr (.inr (f81))))))]) [0, 1] rfl
  have hD := hD.sub (ws' := [(h0, .inr (1, [.ref a1, .ref a2, .ref a3, .int 0, .null, .ref z1, .ref z3, .ref z5, .ref z7, .int 0, .ref z9, .int 0, .ref z11, .int 0, .int 0, .int 0])), (z9, .inl (cA10, 20, .inr (.inr (.inr (.inr (f81))))))]) [0, 1] (by decide) rfl
  have hK := hK.sub (tys' := [(cA10, .object RX3)]) [0] rfl
  refine lv_iinc (v := 11) (lv' := [(4, .int 11), (0, .ref h0), (1, .ref a1), (2, .ref a2), (3, .ref a3)]) hx hb dX1_init_99 hl (k := 0) rfl (by decide +kernel) (by decide) rfl (fun ls hl => ?_)
  refine lv_goto (tgt := 75) hx hb dX1_init_102 (by decide) ?_
  refine lv_iload hx hb dX1_init_75 (lv_at hl 0 rfl) ?_
  refine lv_aload_n hx hb dX1_init_77 rfl (lv_at hl 1 rfl) ?_
  refine va_get (D := (dC, dI)) (ci := 1) (v := .ref z9) (C := RX1) (T := TX1) (N := 16) hx hb hw uX1 hown hK hP 0 rfl rfl 10 (by decide) (hw _ q55) (fun _ h9 => h9) rfl dX1_init_78 ?_
  refine va_alen (D := (dC, dI)) hx hb hK hP 1 0 rfl rfl (v := 20) rfl dX1_init_81 ?_
  refine lv_icmp_ge (tgt := 105) hx hb dX1_init_82 (by decide) (fun c9 => absurd c9 (by decide)) (fun _ => ?_)
  refine lv_aload_n hx hb dX1_init_85 rfl (lv_at hl 1 rfl) ?_
  refine va_get (D := (dC, dI)) (ci := 1) (v := .ref z9) (C := RX1) (T := TX1) (N := 16) hx hb hw uX1 hown hK hP 0 rfl rfl 10 (by decide) (hw _ q55) (fun _ h9 => h9) rfl dX1_init_86 ?_
  refine lv_iload hx hb dX1_init_89 (lv_at hl 0 rfl) ?_
  refine va_new (D := (dC, dI)) (ci := 3) (fs := [.null, .int 0, .null, .null, .int 0]) (C := RX3) (T := TX3) (N := 5) hx hb hw uX3 tyX3 tyX3_ok hown (hw _ q53) (hw _ q14) (hw _ q15) hK hP hD hS hA rfl (by decide +kernel) (Nat.le_of_ble_eq_true rfl) (Nat.le_of_ble_eq_true rfl) dX1_init_91 (fun z82 H hP hD hS => ?_)
  have hP : va_P (dC, dI) vwCl [(h0, .inr (1, [.ref a1, .ref a2, .ref a3, .int 0, .null, .ref z1, .ref z3, .ref z5, .ref z7, .int 0, .ref z9, .int 0, .ref z11, .int 0, .int 0, .int 0])), (z9, .inl (cA10, 20, .inr (.inr (.inr (.inr (f81)))))), (z82, .inr (3, [.null, .int 0, .null, .null, .int 0]))] H := hP
  have hD : va_D A [(h0, .inr (1, [.ref a1, .ref a2, .ref a3, .int 0, .null, .ref z1, .ref z3, .ref z5, .ref z7, .int 0, .ref z9, .int 0, .ref z11, .int 0, .int 0, .int 0])), (z9, .inl (cA10, 20, .inr (.inr (.inr (.inr (f81)))))), (z82, .inr (3, [.null, .int 0, .null, .null, .int 0]))] := hD
  refine W.widen (k := 54) (n := 2681) (Nat.le_of_ble_eq_true rfl) (Nat.le_of_ble_eq_true rfl) ?_
  refine lv_dup hx hb dX1_init_94 rfl ?_
  have hPc := hP.sub (ws' := [(z82, .inr (3, [.null, .int 0, .null, .null, .int 0]))]) [2] rfl
  have hDc := hD.sub (ws' := [(z82, .inr (3, [.null, .int 0, .null, .null, .int 0]))]) [2] (by decide) rfl
  have hKc := hK.sub (tys' := []) [] rfl
  have hFc := va_free (wc := [(z82, .inr (3, [.null, .int 0, .null, .null, .int 0]))]) hD hS hA [2] rfl
  refine va_callv (va_runIN (As := []) (rest := [.ref z82, .int 11, .ref z9]) ⟨hx, hb, hml, hown, hw⟩ (c_X3_init l dC dI _ (z82)) ⟨va_cnB 0 hw (gB q16) rfl rfl rfl (nn5 hN) (hw _ q15) (by decide +kernel) ⟨Nat.le_of_ble_eq_true rfl, Nat.le_of_ble_eq_true rfl⟩, rfl, hw _ q17⟩ ⟨cP_blind, cP_pre hPc hKc hDc hN⟩ rfl rfl hl.1 rfl (lv_room (Nat.le_of_ble_eq_true rfl)) dX1_init_95 ⟨Nat.le_of_ble_eq_true rfl, Nat.le_of_ble_eq_true rfl⟩) hS (fun q _ h => hFc q h) hFc (fun u9 t H1 locs ht hvm hw1 hB hz1 hk1 hS => ?_)
  obtain ⟨b1_84, b2_85, b3_86, hP1, hK1, hD1⟩ := hB
  rw [ht] at hP1
  have hK1 := va_K.moved hvm.symm hK1
  obtain ⟨hP, hD⟩ := va_join (wr := [(h0, .inr (1, [.ref a1, .ref a2, .ref a3, .int 0, .null, .ref z1, .ref z3, .ref z5, .ref z7, .int 0, .ref z9, .int 0, .ref z11, .int 0, .int 0, .int 0])), (z9, .inl (cA10, 20, .inr (.inr (.inr (.inr (f81))))))]) (w1 := [(z82, .inr (3, [.ref b1_84, .int 0, .ref b2_85, .ref b3_86, .int 0]))]) hP hD [2] [0, 1] rfl rfl (by decide) (by decide) hk1 hFc hP1 hD1
  have hK := (hK.sub (tys' := [(cA10, .object RX3)]) [0] rfl).app hK1
  generalize H1 = H at hP hS ⊢
  have hP : va_P (dC, dI) vwCl [(h0, .inr (1, [.ref a1, .ref a2, .ref a3, .int 0, .null, .ref z1, .ref z3, .ref z5, .ref z7, .int 0, .ref z9, .int 0, .ref z11, .int 0, .int 0, .int 0])), (z9, .inl (cA10, 20, .inr (.inr (.inr (.inr (f81)))))), (z82, .inr (3, [.ref b1_84, .int 0, .ref b2_85, .ref b3_86, .int 0]))] H := hP
  have hD : va_D A [(h0, .inr (1, [.ref a1, .ref a2, .ref a3, .int 0, .null, .ref z1, .ref z3, .ref z5, .ref z7, .int 0, .ref z9, .int 0, .ref z11, .int 0, .int 0, .int 0])), (z9, .inl (cA10, 20, .inr (.inr (.inr (.inr (f81)))))), (z82, .inr (3, [.ref b1_84, .int 0, .ref b2_85, .ref b3_86, .int 0]))] := hD
  have hK : va_K (dC, dI) vwCl [(cA10, .object RX3)] s := hK
  refine W.widen (k := 57) (n := 2864) (Nat.le_of_ble_eq_true rfl) (Nat.le_of_ble_eq_true rfl) ?_
  refine va_astq (D := (dC, dI)) (r := (RX3, TX3, 5)) hx hb hK hP hD hS 1 0 2 3 rfl rfl rfl rfl (by unfold vp_in; decide) dX1_init_98 (fun H locs hP hD hS => ?_)
  have hP : va_P (dC, dI) vwCl [(h0, .inr (1, [.ref a1, .ref a2, .ref a3, .int 0, .null, .ref z1, .ref z3, .ref z5, .ref z7, .int 0, .ref z9, .int 0, .ref z11, .int 0, .int 0, .int 0])), (z9, .inl (cA10, 20, .inr (.inr (.inr (.inr (va_up (f81) (Int32.toNatClampNeg 11) (some z82))))))), (z82, .inr (3, [.ref b1_84, .int 0, .ref b2_85, .ref b3_86, .int 0]))] H := hP
  have hD : va_D A [(h0, .inr (1, [.ref a1, .ref a2, .ref a3, .int 0, .null, .ref z1, .ref z3, .ref z5, .ref z7, .int 0, .ref z9, .int 0, .ref z11, .int 0, .int 0, .int 0])), (z9, .inl (cA10, 20, .inr (.inr (.inr (.inr (va_up (f81) (Int32.toNatClampNeg 11) (some z82))))))), (z82, .inr (3, [.ref b1_84, .int 0, .ref b2_85, .ref b3_86, .int 0]))] := hD
  generalize va_up (f81) (Int32.toNatClampNeg 11) (some z82) = f87 at hP hD
  have hP := hP.sub (ws' := [(h0, .inr (1, [.ref a1, .ref a2, .ref a3, .int 0, .null, .ref z1, .ref z3, .ref z5, .ref z7, .int 0, .ref z9, .int 0, .ref z11, .int 0, .int 0, .int 0])), (z9, .inl (cA10, 20, .inr (.inr (.inr (.inr (f87))))))]) [0, 1] rfl
  have hD := hD.sub (ws' := [(h0, .inr (1, [.ref a1, .ref a2, .ref a3, .int 0, .null, .ref z1, .ref z3, .ref z5, .ref z7, .int 0, .ref z9, .int 0, .ref z11, .int 0, .int 0, .int 0])), (z9, .inl (cA10, 20, .inr (.inr (.inr (.inr (f87))))))]) [0, 1] (by decide) rfl
  have hK := hK.sub (tys' := [(cA10, .object RX3)]) [0] rfl
  refine lv_iinc (v := 12) (lv' := [(4, .int 12), (0, .ref h0), (1, .ref a1), (2, .ref a2), (3, .ref a3)]) hx hb dX1_init_99 hl (k := 0) rfl (by decide +kernel) (by decide) rfl (fun ls hl => ?_)
  refine lv_goto (tgt := 75) hx hb dX1_init_102 (by decide) ?_
  refine lv_iload hx hb dX1_init_75 (lv_at hl 0 rfl) ?_
  refine lv_aload_n hx hb dX1_init_77 rfl (lv_at hl 1 rfl) ?_
  refine va_get (D := (dC, dI)) (ci := 1) (v := .ref z9) (C := RX1) (T := TX1) (N := 16) hx hb hw uX1 hown hK hP 0 rfl rfl 10 (by decide) (hw _ q55) (fun _ h9 => h9) rfl dX1_init_78 ?_
  refine va_alen (D := (dC, dI)) hx hb hK hP 1 0 rfl rfl (v := 20) rfl dX1_init_81 ?_
  refine lv_icmp_ge (tgt := 105) hx hb dX1_init_82 (by decide) (fun c9 => absurd c9 (by decide)) (fun _ => ?_)
  refine lv_aload_n hx hb dX1_init_85 rfl (lv_at hl 1 rfl) ?_
  refine va_get (D := (dC, dI)) (ci := 1) (v := .ref z9) (C := RX1) (T := TX1) (N := 16) hx hb hw uX1 hown hK hP 0 rfl rfl 10 (by decide) (hw _ q55) (fun _ h9 => h9) rfl dX1_init_86 ?_
  refine lv_iload hx hb dX1_init_89 (lv_at hl 0 rfl) ?_
  refine va_new (D := (dC, dI)) (ci := 3) (fs := [.null, .int 0, .null, .null, .int 0]) (C := RX3) (T := TX3) (N := 5) hx hb hw uX3 tyX3 tyX3_ok hown (hw _ q53) (hw _ q14) (hw _ q15) hK hP hD hS hA rfl (by decide +kernel) (Nat.le_of_ble_eq_true rfl) (Nat.le_of_ble_eq_true rfl) dX1_init_91 (fun z88 H hP hD hS => ?_)
  have hP : va_P (dC, dI) vwCl [(h0, .inr (1, [.ref a1, .ref a2, .ref a3, .int 0, .null, .ref z1, .ref z3, .ref z5, .ref z7, .int 0, .ref z9, .int 0, .ref z11, .int 0, .int 0, .int 0])), (z9, .inl (cA10, 20, .inr (.inr (.inr (.inr (f87)))))), (z88, .inr (3, [.null, .int 0, .null, .null, .int 0]))] H := hP
  have hD : va_D A [(h0, .inr (1, [.ref a1, .ref a2, .ref a3, .int 0, .null, .ref z1, .ref z3, .ref z5, .ref z7, .int 0, .ref z9, .int 0, .ref z11, .int 0, .int 0, .int 0])), (z9, .inl (cA10, 20, .inr (.inr (.inr (.inr (f87)))))), (z88, .inr (3, [.null, .int 0, .null, .null, .int 0]))] := hD
  refine W.widen (k := 58) (n := 2869) (Nat.le_of_ble_eq_true rfl) (Nat.le_of_ble_eq_true rfl) ?_
  refine lv_dup hx hb dX1_init_94 rfl ?_
  have hPc := hP.sub (ws' := [(z88, .inr (3, [.null, .int 0, .null, .null, .int 0]))]) [2] rfl
  have hDc := hD.sub (ws' := [(z88, .inr (3, [.null, .int 0, .null, .null, .int 0]))]) [2] (by decide) rfl
  have hKc := hK.sub (tys' := []) [] rfl
  have hFc := va_free (wc := [(z88, .inr (3, [.null, .int 0, .null, .null, .int 0]))]) hD hS hA [2] rfl
  refine va_callv (va_runIN (As := []) (rest := [.ref z88, .int 12, .ref z9]) ⟨hx, hb, hml, hown, hw⟩ (c_X3_init l dC dI _ (z88)) ⟨va_cnB 0 hw (gB q16) rfl rfl rfl (nn5 hN) (hw _ q15) (by decide +kernel) ⟨Nat.le_of_ble_eq_true rfl, Nat.le_of_ble_eq_true rfl⟩, rfl, hw _ q17⟩ ⟨cP_blind, cP_pre hPc hKc hDc hN⟩ rfl rfl hl.1 rfl (lv_room (Nat.le_of_ble_eq_true rfl)) dX1_init_95 ⟨Nat.le_of_ble_eq_true rfl, Nat.le_of_ble_eq_true rfl⟩) hS (fun q _ h => hFc q h) hFc (fun u9 t H1 locs ht hvm hw1 hB hz1 hk1 hS => ?_)
  obtain ⟨b1_90, b2_91, b3_92, hP1, hK1, hD1⟩ := hB
  rw [ht] at hP1
  have hK1 := va_K.moved hvm.symm hK1
  obtain ⟨hP, hD⟩ := va_join (wr := [(h0, .inr (1, [.ref a1, .ref a2, .ref a3, .int 0, .null, .ref z1, .ref z3, .ref z5, .ref z7, .int 0, .ref z9, .int 0, .ref z11, .int 0, .int 0, .int 0])), (z9, .inl (cA10, 20, .inr (.inr (.inr (.inr (f87))))))]) (w1 := [(z88, .inr (3, [.ref b1_90, .int 0, .ref b2_91, .ref b3_92, .int 0]))]) hP hD [2] [0, 1] rfl rfl (by decide) (by decide) hk1 hFc hP1 hD1
  have hK := (hK.sub (tys' := [(cA10, .object RX3)]) [0] rfl).app hK1
  generalize H1 = H at hP hS ⊢
  have hP : va_P (dC, dI) vwCl [(h0, .inr (1, [.ref a1, .ref a2, .ref a3, .int 0, .null, .ref z1, .ref z3, .ref z5, .ref z7, .int 0, .ref z9, .int 0, .ref z11, .int 0, .int 0, .int 0])), (z9, .inl (cA10, 20, .inr (.inr (.inr (.inr (f87)))))), (z88, .inr (3, [.ref b1_90, .int 0, .ref b2_91, .ref b3_92, .int 0]))] H := hP
  have hD : va_D A [(h0, .inr (1, [.ref a1, .ref a2, .ref a3, .int 0, .null, .ref z1, .ref z3, .ref z5, .ref z7, .int 0, .ref z9, .int 0, .ref z11, .int 0, .int 0, .int 0])), (z9, .inl (cA10, 20, .inr (.inr (.inr (.inr (f87)))))), (z88, .inr (3, [.ref b1_90, .int 0, .ref b2_91, .ref b3_92, .int 0]))] := hD
  have hK : va_K (dC, dI) vwCl [(cA10, .object RX3)] s := hK
  refine W.widen (k := 61) (n := 3052) (Nat.le_of_ble_eq_true rfl) (Nat.le_of_ble_eq_true rfl) ?_
  refine va_astq (D := (dC, dI)) (r := (RX3, TX3, 5)) hx hb hK hP hD hS 1 0 2 3 rfl rfl rfl rfl (by unfold vp_in; decide) dX1_init_98 (fun H locs hP hD hS => ?_)
  have hP : va_P (dC, dI) vwCl [(h0, .inr (1, [.ref a1, .ref a2, .ref a3, .int 0, .null, .ref z1, .ref z3, .ref z5, .ref z7, .int 0, .ref z9, .int 0, .ref z11, .int 0, .int 0, .int 0])), (z9, .inl (cA10, 20, .inr (.inr (.inr (.inr (va_up (f87) (Int32.toNatClampNeg 12) (some z88))))))), (z88, .inr (3, [.ref b1_90, .int 0, .ref b2_91, .ref b3_92, .int 0]))] H := hP
  have hD : va_D A [(h0, .inr (1, [.ref a1, .ref a2, .ref a3, .int 0, .null, .ref z1, .ref z3, .ref z5, .ref z7, .int 0, .ref z9, .int 0, .ref z11, .int 0, .int 0, .int 0])), (z9, .inl (cA10, 20, .inr (.inr (.inr (.inr (va_up (f87) (Int32.toNatClampNeg 12) (some z88))))))), (z88, .inr (3, [.ref b1_90, .int 0, .ref b2_91, .ref b3_92, .int 0]))] := hD
  generalize va_up (f87) (Int32.toNatClampNeg 12) (some z88) = f93 at hP hD
  have hP := hP.sub (ws' := [(h0, .inr (1, [.ref a1, .ref a2, .ref a3, .int 0, .null, .ref z1, .ref z3, .ref z5, .ref z7, .int 0, .ref z9, .int 0, .ref z11, .int 0, .int 0, .int 0])), (z9, .inl (cA10, 20, .inr (.inr (.inr (.inr (f93))))))]) [0, 1] rfl
  have hD := hD.sub (ws' := [(h0, .inr (1, [.ref a1, .ref a2, .ref a3, .int 0, .null, .ref z1, .ref z3, .ref z5, .ref z7, .int 0, .ref z9, .int 0, .ref z11, .int 0, .int 0, .int 0])), (z9, .inl (cA10, 20, .inr (.inr (.inr (.inr (f93))))))]) [0, 1] (by decide) rfl
  have hK := hK.sub (tys' := [(cA10, .object RX3)]) [0] rfl
  refine lv_iinc (v := 13) (lv' := [(4, .int 13), (0, .ref h0), (1, .ref a1), (2, .ref a2), (3, .ref a3)]) hx hb dX1_init_99 hl (k := 0) rfl (by decide +kernel) (by decide) rfl (fun ls hl => ?_)
  refine lv_goto (tgt := 75) hx hb dX1_init_102 (by decide) ?_
  refine lv_iload hx hb dX1_init_75 (lv_at hl 0 rfl) ?_
  refine lv_aload_n hx hb dX1_init_77 rfl (lv_at hl 1 rfl) ?_
  refine va_get (D := (dC, dI)) (ci := 1) (v := .ref z9) (C := RX1) (T := TX1) (N := 16) hx hb hw uX1 hown hK hP 0 rfl rfl 10 (by decide) (hw _ q55) (fun _ h9 => h9) rfl dX1_init_78 ?_
  refine va_alen (D := (dC, dI)) hx hb hK hP 1 0 rfl rfl (v := 20) rfl dX1_init_81 ?_
  refine lv_icmp_ge (tgt := 105) hx hb dX1_init_82 (by decide) (fun c9 => absurd c9 (by decide)) (fun _ => ?_)
  refine lv_aload_n hx hb dX1_init_85 rfl (lv_at hl 1 rfl) ?_
  refine va_get (D := (dC, dI)) (ci := 1) (v := .ref z9) (C := RX1) (T := TX1) (N := 16) hx hb hw uX1 hown hK hP 0 rfl rfl 10 (by decide) (hw _ q55) (fun _ h9 => h9) rfl dX1_init_86 ?_
  refine lv_iload hx hb dX1_init_89 (lv_at hl 0 rfl) ?_
  refine va_new (D := (dC, dI)) (ci := 3) (fs := [.null, .int 0, .null, .null, .int 0]) (C := RX3) (T := TX3) (N := 5) hx hb hw uX3 tyX3 tyX3_ok hown (hw _ q53) (hw _ q14) (hw _ q15) hK hP hD hS hA rfl (by decide +kernel) (Nat.le_of_ble_eq_true rfl) (Nat.le_of_ble_eq_true rfl) dX1_init_91 (fun z94 H hP hD hS => ?_)
  have hP : va_P (dC, dI) vwCl [(h0, .inr (1, [.ref a1, .ref a2, .ref a3, .int 0, .null, .ref z1, .ref z3, .ref z5, .ref z7, .int 0, .ref z9, .int 0, .ref z11, .int 0, .int 0, .int 0])), (z9, .inl (cA10, 20, .inr (.inr (.inr (.inr (f93)))))), (z94, .inr (3, [.null, .int 0, .null, .null, .int 0]))] H := hP
  have hD : va_D A [(h0, .inr (1, [.ref a1, .ref a2, .ref a3, .int 0, .null, .ref z1, .ref z3, .ref z5, .ref z7, .int 0, .ref z9, .int 0, .ref z11, .int 0, .int 0, .int 0])), (z9, .inl (cA10, 20, .inr (.inr (.inr (.inr (f93)))))), (z94, .inr (3, [.null, .int 0, .null, .null, .int 0]))] := hD
  refine W.widen (k := 62) (n := 3057) (Nat.le_of_ble_eq_true rfl) (Nat.le_of_ble_eq_true rfl) ?_
  refine lv_dup hx hb dX1_init_94 rfl ?_
  have hPc := hP.sub (ws' := [(z94, .inr (3, [.null, .int 0, .null, .null, .int 0]))]) [2] rfl
  have hDc := hD.sub (ws' := [(z94, .inr (3, [.null, .int 0, .null, .null, .int 0]))]) [2] (by decide) rfl
  have hKc := hK.sub (tys' := []) [] rfl
  have hFc := va_free (wc := [(z94, .inr (3, [.null, .int 0, .null, .null, .int 0]))]) hD hS hA [2] rfl
  refine va_callv (va_runIN (As := []) (rest := [.ref z94, .int 13, .ref z9]) ⟨hx, hb, hml, hown, hw⟩ (c_X3_init l dC dI _ (z94)) ⟨va_cnB 0 hw (gB q16) rfl rfl rfl (nn5 hN) (hw _ q15) (by decide +kernel) ⟨Nat.le_of_ble_eq_true rfl, Nat.le_of_ble_eq_true rfl⟩, rfl, hw _ q17⟩ ⟨cP_blind, cP_pre hPc hKc hDc hN⟩ rfl rfl hl.1 rfl (lv_room (Nat.le_of_ble_eq_true rfl)) dX1_init_95 ⟨Nat.le_of_ble_eq_true rfl, Nat.le_of_ble_eq_true rfl⟩) hS (fun q _ h => hFc q h) hFc (fun u9 t H1 locs ht hvm hw1 hB hz1 hk1 hS => ?_)
  obtain ⟨b1_96, b2_97, b3_98, hP1, hK1, hD1⟩ := hB
  rw [ht] at hP1
  have hK1 := va_K.moved hvm.symm hK1
  obtain ⟨hP, hD⟩ := va_join (wr := [(h0, .inr (1, [.ref a1, .ref a2, .ref a3, .int 0, .null, .ref z1, .ref z3, .ref z5, .ref z7, .int 0, .ref z9, .int 0, .ref z11, .int 0, .int 0, .int 0])), (z9, .inl (cA10, 20, .inr (.inr (.inr (.inr (f93))))))]) (w1 := [(z94, .inr (3, [.ref b1_96, .int 0, .ref b2_97, .ref b3_98, .int 0]))]) hP hD [2] [0, 1] rfl rfl (by decide) (by decide) hk1 hFc hP1 hD1
  have hK := (hK.sub (tys' := [(cA10, .object RX3)]) [0] rfl).app hK1
  generalize H1 = H at hP hS ⊢
  have hP : va_P (dC, dI) vwCl [(h0, .inr (1, [.ref a1, .ref a2, .ref a3, .int 0, .null, .ref z1, .ref z3, .ref z5, .ref z7, .int 0, .ref z9, .int 0, .ref z11, .int 0, .int 0, .int 0])), (z9, .inl (cA10, 20, .inr (.inr (.inr (.inr (f93)))))), (z94, .inr (3, [.ref b1_96, .int 0, .ref b2_97, .ref b3_98, .int 0]))] H := hP
  have hD : va_D A [(h0, .inr (1, [.ref a1, .ref a2, .ref a3, .int 0, .null, .ref z1, .ref z3, .ref z5, .ref z7, .int 0, .ref z9, .int 0, .ref z11, .int 0, .int 0, .int 0])), (z9, .inl (cA10, 20, .inr (.inr (.inr (.inr (f93)))))), (z94, .inr (3, [.ref b1_96, .int 0, .ref b2_97, .ref b3_98, .int 0]))] := hD
  have hK : va_K (dC, dI) vwCl [(cA10, .object RX3)] s := hK
  refine W.widen (k := 65) (n := 3240) (Nat.le_of_ble_eq_true rfl) (Nat.le_of_ble_eq_true rfl) ?_
  refine va_astq (D := (dC, dI)) (r := (RX3, TX3, 5)) hx hb hK hP hD hS 1 0 2 3 rfl rfl rfl rfl (by unfold vp_in; decide) dX1_init_98 (fun H locs hP hD hS => ?_)
  have hP : va_P (dC, dI) vwCl [(h0, .inr (1, [.ref a1, .ref a2, .ref a3, .int 0, .null, .ref z1, .ref z3, .ref z5, .ref z7, .int 0, .ref z9, .int 0, .ref z11, .int 0, .int 0, .int 0])), (z9, .inl (cA10, 20, .inr (.inr (.inr (.inr (va_up (f93) (Int32.toNatClampNeg 13) (some z94))))))), (z94, .inr (3, [.ref b1_96, .int 0, .ref b2_97, .ref b3_98, .int 0]))] H := hP
  have hD : va_D A [(h0, .inr (1, [.ref a1, .ref a2, .ref a3, .int 0, .null, .ref z1, .ref z3, .ref z5, .ref z7, .int 0, .ref z9, .int 0, .ref z11, .int 0, .int 0, .int 0])), (z9, .inl (cA10, 20, .inr (.inr (.inr (.inr (va_up (f93) (Int32.toNatClampNeg 13) (some z94))))))), (z94, .inr (3, [.ref b1_96, .int 0, .ref b2_97, .ref b3_98, .int 0]))] := hD
  generalize va_up (f93) (Int32.toNatClampNeg 13) (some z94) = f99 at hP hD
  have hP := hP.sub (ws' := [(h0, .inr (1, [.ref a1, .ref a2, .ref a3, .int 0, .null, .ref z1, .ref z3, .ref z5, .ref z7, .int 0, .ref z9, .int 0, .ref z11, .int 0, .int 0, .int 0])), (z9, .inl (cA10, 20, .inr (.inr (.inr (.inr (f99))))))]) [0, 1] rfl
  have hD := hD.sub (ws' := [(h0, .inr (1, [.ref a1, .ref a2, .ref a3, .int 0, .null, .ref z1, .ref z3, .ref z5, .ref z7, .int 0, .ref z9, .int 0, .ref z11, .int 0, .int 0, .int 0])), (z9, .inl (cA10, 20, .inr (.inr (.inr (.inr (f99))))))]) [0, 1] (by decide) rfl
  have hK := hK.sub (tys' := [(cA10, .object RX3)]) [0] rfl
  refine lv_iinc (v := 14) (lv' := [(4, .int 14), (0, .ref h0), (1, .ref a1), (2, .ref a2), (3, .ref a3)]) hx hb dX1_init_99 hl (k := 0) rfl (by decide +kernel) (by decide) rfl (fun ls hl => ?_)
  refine lv_goto (tgt := 75) hx hb dX1_init_102 (by decide) ?_
  refine lv_iload hx hb dX1_init_75 (lv_at hl 0 rfl) ?_
  refine lv_aload_n hx hb dX1_init_77 rfl (lv_at hl 1 rfl) ?_
  refine va_get (D := (dC, dI)) (ci := 1) (v := .ref z9) (C := RX1) (T := TX1) (N := 16) hx hb hw uX1 hown hK hP 0 rfl rfl 10 (by decide) (hw _ q55) (fun _ h9 => h9) rfl dX1_init_78 ?_
  refine va_alen (D := (dC, dI)) hx hb hK hP 1 0 rfl rfl (v := 20) rfl dX1_init_81 ?_
  refine lv_icmp_ge (tgt := 105) hx hb dX1_init_82 (by decide) (fun c9 => absurd c9 (by decide)) (fun _ => ?_)
  refine lv_aload_n hx hb dX1_init_85 rfl (lv_at hl 1 rfl) ?_
  refine va_get (D := (dC, dI)) (ci := 1) (v := .ref z9) (C := RX1) (T := TX1) (N := 16) hx hb hw uX1 hown hK hP 0 rfl rfl 10 (by decide) (hw _ q55) (fun _ h9 => h9) rfl dX1_init_86 ?_
  refine lv_iload hx hb dX1_init_89 (lv_at hl 0 rfl) ?_
  refine va_new (D := (dC, dI)) (ci := 3) (fs := [.null, .int 0, .null, .null, .int 0]) (C := RX3) (T := TX3) (N := 5) hx hb hw uX3 tyX3 tyX3_ok hown (hw _ q53) (hw _ q14) (hw _ q15) hK hP hD hS hA rfl (by decide +kernel) (Nat.le_of_ble_eq_true rfl) (Nat.le_of_ble_eq_true rfl) dX1_init_91 (fun z100 H hP hD hS => ?_)
  have hP : va_P (dC, dI) vwCl [(h0, .inr (1, [.ref a1, .ref a2, .ref a3, .int 0, .null, .ref z1, .ref z3, .ref z5, .ref z7, .int 0, .ref z9, .int 0, .ref z11, .int 0, .int 0, .int 0])), (z9, .inl (cA10, 20, .inr (.inr (.inr (.inr (f99)))))), (z100, .inr (3, [.null, .int 0, .null, .null, .int 0]))] H := hP
  have hD : va_D A [(h0, .inr (1, [.ref a1, .ref a2, .ref a3, .int 0, .null, .ref z1, .ref z3, .ref z5, .ref z7, .int 0, .ref z9, .int 0, .ref z11, .int 0, .int 0, .int 0])), (z9, .inl (cA10, 20, .inr (.inr (.inr (.inr (f99)))))), (z100, .inr (3, [.null, .int 0, .null, .null, .int 0]))] := hD
  refine W.widen (k := 66) (n := 3245) (Nat.le_of_ble_eq_true rfl) (Nat.le_of_ble_eq_true rfl) ?_
  refine lv_dup hx hb dX1_init_94 rfl ?_
  have hPc := hP.sub (ws' := [(z100, .inr (3, [.null, .int 0, .null, .null, .int 0]))]) [2] rfl
  have hDc := hD.sub (ws' := [(z100, .inr (3, [.null, .int 0, .null, .null, .int 0]))]) [2] (by decide) rfl
  have hKc := hK.sub (tys' := []) [] rfl
  have hFc := va_free (wc := [(z100, .inr (3, [.null, .int 0, .null, .null, .int 0]))]) hD hS hA [2] rfl
  refine va_callv (va_runIN (As := []) (rest := [.ref z100, .int 14, .ref z9]) ⟨hx, hb, hml, hown, hw⟩ (c_X3_init l dC dI _ (z100)) ⟨va_cnB 0 hw (gB q16) rfl rfl rfl (nn5 hN) (hw _ q15) (by decide +kernel) ⟨Nat.le_of_ble_eq_true rfl, Nat.le_of_ble_eq_true rfl⟩, rfl, hw _ q17⟩ ⟨cP_blind, cP_pre hPc hKc hDc hN⟩ rfl rfl hl.1 rfl (lv_room (Nat.le_of_ble_eq_true rfl)) dX1_init_95 ⟨Nat.le_of_ble_eq_true rfl, Nat.le_of_ble_eq_true rfl⟩) hS (fun q _ h => hFc q h) hFc (fun u9 t H1 locs ht hvm hw1 hB hz1 hk1 hS => ?_)
  obtain ⟨b1_102, b2_103, b3_104, hP1, hK1, hD1⟩ := hB
  rw [ht] at hP1
  have hK1 := va_K.moved hvm.symm hK1
  obtain ⟨hP, hD⟩ := va_join (wr := [(h0, .inr (1, [.ref a1, .ref a2, .ref a3, .int 0, .null, .ref z1, .ref z3, .ref z5, .ref z7, .int 0, .ref z9, .int 0, .ref z11, .int 0, .int 0, .int 0])), (z9, .inl (cA10, 20, .inr (.inr (.inr (.inr (f99))))))]) (w1 := [(z100, .inr (3, [.ref b1_102, .int 0, .ref b2_103, .ref b3_104, .int 0]))]) hP hD [2] [0, 1] rfl rfl (by decide) (by decide) hk1 hFc hP1 hD1
  have hK := (hK.sub (tys' := [(cA10, .object RX3)]) [0] rfl).app hK1
  generalize H1 = H at hP hS ⊢
  have hP : va_P (dC, dI) vwCl [(h0, .inr (1, [.ref a1, .ref a2, .ref a3, .int 0, .null, .ref z1, .ref z3, .ref z5, .ref z7, .int 0, .ref z9, .int 0, .ref z11, .int 0, .int 0, .int 0])), (z9, .inl (cA10, 20, .inr (.inr (.inr (.inr (f99)))))), (z100, .inr (3, [.ref b1_102, .int 0, .ref b2_103, .ref b3_104, .int 0]))] H := hP
  have hD : va_D A [(h0, .inr (1, [.ref a1, .ref a2, .ref a3, .int 0, .null, .ref z1, .ref z3, .ref z5, .ref z7, .int 0, .ref z9, .int 0, .ref z11, .int 0, .int 0, .int 0])), (z9, .inl (cA10, 20, .inr (.inr (.inr (.inr (f99)))))), (z100, .inr (3, [.ref b1_102, .int 0, .ref b2_103, .ref b3_104, .int 0]))] := hD
  have hK : va_K (dC, dI) vwCl [(cA10, .object RX3)] s := hK
  refine W.widen (k := 69) (n := 3428) (Nat.le_of_ble_eq_true rfl) (Nat.le_of_ble_eq_true rfl) ?_
  refine va_astq (D := (dC, dI)) (r := (RX3, TX3, 5)) hx hb hK hP hD hS 1 0 2 3 rfl rfl rfl rfl (by unfold vp_in; decide) dX1_init_98 (fun H locs hP hD hS => ?_)
  have hP : va_P (dC, dI) vwCl [(h0, .inr (1, [.ref a1, .ref a2, .ref a3, .int 0, .null, .ref z1, .ref z3, .ref z5, .ref z7, .int 0, .ref z9, .int 0, .ref z11, .int 0, .int 0, .int 0])), (z9, .inl (cA10, 20, .inr (.inr (.inr (.inr (va_up (f99) (Int32.toNatClampNeg 14) (some z100))))))), (z100, .inr (3, [.ref b1_102, .int 0, .ref b2_103, .ref b3_104, .int 0]))] H := hP
  have hD : va_D A [(h0, .inr (1, [.ref a1, .ref a2, .ref a3, .int 0, .null, .ref z1, .ref z3, .ref z5, .ref z7, .int 0, .ref z9, .int 0, .ref z11, .int 0, .int 0, .int 0])), (z9, .inl (cA10, 20, .inr (.inr (.inr (.inr (va_up (f99) (Int32.toNatClampNeg 14) (some z100))))))), (z100, .inr (3, [.ref b1_102, .int 0, .ref b2_103, .ref b3_104, .int 0]))] := hD
  generalize va_up (f99) (Int32.toNatClampNeg 14) (some z100) = f105 at hP hD
  have hP := hP.sub (ws' := [(h0, .inr (1, [.ref a1, .ref a2, .ref a3, .int 0, .null, .ref z1, .ref z3, .ref z5, .ref z7, .int 0, .ref z9, .int 0, .ref z11, .int 0, .int 0, .int 0])), (z9, .inl (cA10, 20, .inr (.inr (.inr (.inr (f105))))))]) [0, 1] rfl
  have hD := hD.sub (ws' := [(h0, .inr (1, [.ref a1, .ref a2, .ref a3, .int 0, .null, .ref z1, .ref z3, .ref z5, .ref z7, .int 0, .ref z9, .int 0, .ref z11, .int 0, .int 0, .int 0])), (z9, .inl (cA10, 20, .inr (.inr (.inr (.inr (f105))))))]) [0, 1] (by decide) rfl
  have hK := hK.sub (tys' := [(cA10, .object RX3)]) [0] rfl
  refine lv_iinc (v := 15) (lv' := [(4, .int 15), (0, .ref h0), (1, .ref a1), (2, .ref a2), (3, .ref a3)]) hx hb dX1_init_99 hl (k := 0) rfl (by decide +kernel) (by decide) rfl (fun ls hl => ?_)
  refine lv_goto (tgt := 75) hx hb dX1_init_102 (by decide) ?_
  refine lv_iload hx hb dX1_init_75 (lv_at hl 0 rfl) ?_
  refine lv_aload_n hx hb dX1_init_77 rfl (lv_at hl 1 rfl) ?_
  refine va_get (D := (dC, dI)) (ci := 1) (v := .ref z9) (C := RX1) (T := TX1) (N := 16) hx hb hw uX1 hown hK hP 0 rfl rfl 10 (by decide) (hw _ q55) (fun _ h9 => h9) rfl dX1_init_78 ?_
  refine va_alen (D := (dC, dI)) hx hb hK hP 1 0 rfl rfl (v := 20) rfl dX1_init_81 ?_
  refine lv_icmp_ge (tgt := 105) hx hb dX1_init_82 (by decide) (fun c9 => absurd c9 (by decide)) (fun _ => ?_)
  refine lv_aload_n hx hb dX1_init_85 rfl (lv_at hl 1 rfl) ?_
  refine va_get (D := (dC, dI)) (ci := 1) (v := .ref z9) (C := RX1) (T := TX1) (N := 16) hx hb hw uX1 hown hK hP 0 rfl rfl 10 (by decide) (hw _ q55) (fun _ h9 => h9) rfl dX1_init_86 ?_
  refine lv_iload hx hb dX1_init_89 (lv_at hl 0 rfl) ?_
  refine va_new (D := (dC, dI)) (ci := 3) (fs := [.null, .int 0, .null, .null, .int 0]) (C := RX3) (T := TX3) (N := 5) hx hb hw uX3 tyX3 tyX3_ok hown (hw _ q53) (hw _ q14) (hw _ q15) hK hP hD hS hA rfl (by decide +kernel) (Nat.le_of_ble_eq_true rfl) (Nat.le_of_ble_eq_true rfl) dX1_init_91 (fun z106 H hP hD hS => ?_)
  have hP : va_P (dC, dI) vwCl [(h0, .inr (1, [.ref a1, .ref a2, .ref a3, .int 0, .null, .ref z1, .ref z3, .ref z5, .ref z7, .int 0, .ref z9, .int 0, .ref z11, .int 0, .int 0, .int 0])), (z9, .inl (cA10, 20, .inr (.inr (.inr (.inr (f105)))))), (z106, .inr (3, [.null, .int 0, .null, .null, .int 0]))] H := hP
  have hD : va_D A [(h0, .inr (1, [.ref a1, .ref a2, .ref a3, .int 0, .null, .ref z1, .ref z3, .ref z5, .ref z7, .int 0, .ref z9, .int 0, .ref z11, .int 0, .int 0, .int 0])), (z9, .inl (cA10, 20, .inr (.inr (.inr (.inr (f105)))))), (z106, .inr (3, [.null, .int 0, .null, .null, .int 0]))] := hD
  refine W.widen (k := 70) (n := 3433) (Nat.le_of_ble_eq_true rfl) (Nat.le_of_ble_eq_true rfl) ?_
  refine lv_dup hx hb dX1_init_94 rfl ?_
  have hPc := hP.sub (ws' := [(z106, .inr (3, [.null, .int 0, .null, .null, .int 0]))]) [2] rfl
  have hDc := hD.sub (ws' := [(z106, .inr (3, [.null, .int 0, .null, .null, .int 0]))]) [2] (by decide) rfl
  have hKc := hK.sub (tys' := []) [] rfl
  have hFc := va_free (wc := [(z106, .inr (3, [.null, .int 0, .null, .null, .int 0]))]) hD hS hA [2] rfl
  refine va_callv (va_runIN (As := []) (rest := [.ref z106, .int 15, .ref z9]) ⟨hx, hb, hml, hown, hw⟩ (c_X3_init l dC dI _ (z106)) ⟨va_cnB 0 hw (gB q16) rfl rfl rfl (nn5 hN) (hw _ q15) (by decide +kernel) ⟨Nat.le_of_ble_eq_true rfl, Nat.le_of_ble_eq_true rfl⟩, rfl, hw _ q17⟩ ⟨cP_blind, cP_pre hPc hKc hDc hN⟩ rfl rfl hl.1 rfl (lv_room (Nat.le_of_ble_eq_true rfl)) dX1_init_95 ⟨Nat.le_of_ble_eq_true rfl, Nat.le_of_ble_eq_true rfl⟩) hS (fun q _ h => hFc q h) hFc (fun u9 t H1 locs ht hvm hw1 hB hz1 hk1 hS => ?_)
  obtain ⟨b1_108, b2_109, b3_110, hP1, hK1, hD1⟩ := hB
  rw [ht] at hP1
  have hK1 := va_K.moved hvm.symm hK1
  obtain ⟨hP, hD⟩ := va_join (wr := [(h0, .inr (1, [.ref a1, .ref a2, .ref a3, .int 0, .null, .ref z1, .ref z3, .ref z5, .ref z7, .int 0, .ref z9, .int 0, .ref z11, .int 0, .int 0, .int 0])), (z9, .inl (cA10, 20, .inr (.inr (.inr (.inr (f105))))))]) (w1 := [(z106, .inr (3, [.ref b1_108, .int 0, .ref b2_109, .ref b3_110, .int 0]))]) hP hD [2] [0, 1] rfl rfl (by decide) (by decide) hk1 hFc hP1 hD1
  have hK := (hK.sub (tys' := [(cA10, .object RX3)]) [0] rfl).app hK1
  generalize H1 = H at hP hS ⊢
  have hP : va_P (dC, dI) vwCl [(h0, .inr (1, [.ref a1, .ref a2, .ref a3, .int 0, .null, .ref z1, .ref z3, .ref z5, .ref z7, .int 0, .ref z9, .int 0, .ref z11, .int 0, .int 0, .int 0])), (z9, .inl (cA10, 20, .inr (.inr (.inr (.inr (f105)))))), (z106, .inr (3, [.ref b1_108, .int 0, .ref b2_109, .ref b3_110, .int 0]))] H := hP
  have hD : va_D A [(h0, .inr (1, [.ref a1, .ref a2, .ref a3, .int 0, .null, .ref z1, .ref z3, .ref z5, .ref z7, .int 0, .ref z9, .int 0, .ref z11, .int 0, .int 0, .int 0])), (z9, .inl (cA10, 20, .inr (.inr (.inr (.inr (f105)))))), (z106, .inr (3, [.ref b1_108, .int 0, .ref b2_109, .ref b3_110, .int 0]))] := hD
  have hK : va_K (dC, dI) vwCl [(cA10, .object RX3)] s := hK
  refine W.widen (k := 73) (n := 3616) (Nat.le_of_ble_eq_true rfl) (Nat.le_of_ble_eq_true rfl) ?_
  refine va_astq (D := (dC, dI)) (r := (RX3, TX3, 5)) hx hb hK hP hD hS 1 0 2 3 rfl rfl rfl rfl (by unfold vp_in; decide) dX1_init_98 (fun H locs hP hD hS => ?_)
  have hP : va_P (dC, dI) vwCl [(h0, .inr (1, [.ref a1, .ref a2, .ref a3, .int 0, .null, .ref z1, .ref z3, .ref z5, .ref z7, .int 0, .ref z9, .int 0, .ref z11, .int 0, .int 0, .int 0])), (z9, .inl (cA10, 20, .inr (.inr (.inr (.inr (va_up (f105) (Int32.toNatClampNeg 15) (some z106))))))), (z106, .inr (3, [.ref b1_108, .int 0, .ref b2_109, .ref b3_110, .int 0]))] H := hP
  have hD : va_D A [(h0, .inr (1, [.ref a1, .ref a2, .ref a3, .int 0, .null, .ref z1, .ref z3, .ref z5, .ref z7, .int 0, .ref z9, .int 0, .ref z11, .int 0, .int 0, .int 0])), (z9, .inl (cA10, 20, .inr (.inr (.inr (.inr (va_up (f105) (Int32.toNatClampNeg 15) (some z106))))))), (z106, .inr (3, [.ref b1_108, .int 0, .ref b2_109, .ref b3_110, .int 0]))] := hD
  generalize va_up (f105) (Int32.toNatClampNeg 15) (some z106) = f111 at hP hD
  have hP := hP.sub (ws' := [(h0, .inr (1, [.ref a1, .ref a2, .ref a3, .int 0, .null, .ref z1, .ref z3, .ref z5, .ref z7, .int 0, .ref z9, .int 0, .ref z11, .int 0, .int 0, .int 0])), (z9, .inl (cA10, 20, .inr (.inr (.inr (.inr (f111))))))]) [0, 1] rfl
  have hD := hD.sub (ws' := [(h0, .inr (1, [.ref a1, .ref a2, .ref a3, .int 0, .null, .ref z1, .ref z3, .ref z5, .ref z7, .int 0, .ref z9, .int 0, .ref z11, .int 0, .int 0, .int 0])), (z9, .inl (cA10, 20, .inr (.inr (.inr (.inr (f111))))))]) [0, 1] (by decide) rfl
  have hK := hK.sub (tys' := [(cA10, .object RX3)]) [0] rfl
  refine lv_iinc (v := 16) (lv' := [(4, .int 16), (0, .ref h0), (1, .ref a1), (2, .ref a2), (3, .ref a3)]) hx hb dX1_init_99 hl (k := 0) rfl (by decide +kernel) (by decide) rfl (fun ls hl => ?_)
  refine lv_goto (tgt := 75) hx hb dX1_init_102 (by decide) ?_
  refine lv_iload hx hb dX1_init_75 (lv_at hl 0 rfl) ?_
  refine lv_aload_n hx hb dX1_init_77 rfl (lv_at hl 1 rfl) ?_
  refine va_get (D := (dC, dI)) (ci := 1) (v := .ref z9) (C := RX1) (T := TX1) (N := 16) hx hb hw uX1 hown hK hP 0 rfl rfl 10 (by decide) (hw _ q55) (fun _ h9 => h9) rfl dX1_init_78 ?_
  refine va_alen (D := (dC, dI)) hx hb hK hP 1 0 rfl rfl (v := 20) rfl dX1_init_81 ?_
  refine lv_icmp_ge (tgt := 105) hx hb dX1_init_82 (by decide) (fun c9 => absurd c9 (by decide)) (fun _ => ?_)
  refine lv_aload_n hx hb dX1_init_85 rfl (lv_at hl 1 rfl) ?_
  refine va_get (D := (dC, dI)) (ci := 1) (v := .ref z9) (C := RX1) (T := TX1) (N := 16) hx hb hw uX1 hown hK hP 0 rfl rfl 10 (by decide) (hw _ q55) (fun _ h9 => h9) rfl dX1_init_86 ?_
  refine lv_iload hx hb dX1_init_89 (lv_at hl 0 rfl) ?_
  refine va_new (D := (dC, dI)) (ci := 3) (fs := [.null, .int 0, .null, .null, .int 0]) (C := RX3) (T := TX3) (N := 5) hx hb hw uX3 tyX3 tyX3_ok hown (hw _ q53) (hw _ q14) (hw _ q15) hK hP hD hS hA rfl (by decide +kernel) (Nat.le_of_ble_eq_true rfl) (Nat.le_of_ble_eq_true rfl) dX1_init_91 (fun z112 H hP hD hS => ?_)
  have hP : va_P (dC, dI) vwCl [(h0, .inr (1, [.ref a1, .ref a2, .ref a3, .int 0, .null, .ref z1, .ref z3, .ref z5, .ref z7, .int 0, .ref z9, .int 0, .ref z11, .int 0, .int 0, .int 0])), (z9, .inl (cA10, 20, .inr (.inr (.inr (.inr (f111)))))), (z112, .inr (3, [.null, .int 0, .null, .null, .int 0]))] H := hP
  have hD : va_D A [(h0, .inr (1, [.ref a1, .ref a2, .ref a3, .int 0, .null, .ref z1, .ref z3, .ref z5, .ref z7, .int 0, .ref z9, .int 0, .ref z11, .int 0, .int 0, .int 0])), (z9, .inl (cA10, 20, .inr (.inr (.inr (.inr (f111)))))), (z112, .inr (3, [.null, .int 0, .null, .null, .int 0]))] := hD
  refine W.widen (k := 74) (n := 3621) (Nat.le_of_ble_eq_true rfl) (Nat.le_of_ble_eq_true rfl) ?_
  refine lv_dup hx hb dX1_init_94 rfl ?_
  have hPc := hP.sub (ws' := [(z112, .inr (3, [.null, .int 0, .null, .null, .int 0]))]) [2] rfl
  have hDc := hD.sub (ws' := [(z112, .inr (3, [.null, .int 0, .null, .null, .int 0]))]) [2] (by decide) rfl
  have hKc := hK.sub (tys' := []) [] rfl
  have hFc := va_free (wc := [(z112, .inr (3, [.null, .int 0, .null, .null, .int 0]))]) hD hS hA [2] rfl
  refine va_callv (va_runIN (As := []) (rest := [.ref z112, .int 16, .ref z9]) ⟨hx, hb, hml, hown, hw⟩ (c_X3_init l dC dI _ (z112)) ⟨va_cnB 0 hw (gB q16) rfl rfl rfl (nn5 hN) (hw _ q15) (by decide +kernel) ⟨Nat.le_of_ble_eq_true rfl, Nat.le_of_ble_eq_true rfl⟩, rfl, hw _ q17⟩ ⟨cP_blind, cP_pre hPc hKc hDc hN⟩ rfl rfl hl.1 rfl (lv_room (Nat.le_of_ble_eq_true rfl)) dX1_init_95 ⟨Nat.le_of_ble_eq_true rfl, Nat.le_of_ble_eq_true rfl⟩) hS (fun q _ h => hFc q h) hFc (fun u9 t H1 locs ht hvm hw1 hB hz1 hk1 hS => ?_)
  obtain ⟨b1_114, b2_115, b3_116, hP1, hK1, hD1⟩ := hB
  rw [ht] at hP1
  have hK1 := va_K.moved hvm.symm hK1
  obtain ⟨hP, hD⟩ := va_join (wr := [(h0, .inr (1, [.ref a1, .ref a2, .ref a3, .int 0, .null, .ref z1, .ref z3, .ref z5, .ref z7, .int 0, .ref z9, .int 0, .ref z11, .int 0, .int 0, .int 0])), (z9, .inl (cA10, 20, .inr (.inr (.inr (.inr (f111))))))]) (w1 := [(z112, .inr (3, [.ref b1_114, .int 0, .ref b2_115, .ref b3_116, .int 0]))]) hP hD [2] [0, 1] rfl rfl (by decide) (by decide) hk1 hFc hP1 hD1
  have hK := (hK.sub (tys' := [(cA10, .object RX3)]) [0] rfl).app hK1
  generalize H1 = H at hP hS ⊢
  have hP : va_P (dC, dI) vwCl [(h0, .inr (1, [.ref a1, .ref a2, .ref a3, .int 0, .null, .ref z1, .ref z3, .ref z5, .ref z7, .int 0, .ref z9, .int 0, .ref z11, .int 0, .int 0, .int 0])), (z9, .inl (cA10, 20, .inr (.inr (.inr (.inr (f111)))))), (z112, .inr (3, [.ref b1_114, .int 0, .ref b2_115, .ref b3_116, .int 0]))] H := hP
  have hD : va_D A [(h0, .inr (1, [.ref a1, .ref a2, .ref a3, .int 0, .null, .ref z1, .ref z3, .ref z5, .ref z7, .int 0, .ref z9, .int 0, .ref z11, .int 0, .int 0, .int 0])), (z9, .inl (cA10, 20, .inr (.inr (.inr (.inr (f111)))))), (z112, .inr (3, [.ref b1_114, .int 0, .ref b2_115, .ref b3_116, .int 0]))] := hD
  have hK : va_K (dC, dI) vwCl [(cA10, .object RX3)] s := hK
  refine W.widen (k := 77) (n := 3804) (Nat.le_of_ble_eq_true rfl) (Nat.le_of_ble_eq_true rfl) ?_
  refine va_astq (D := (dC, dI)) (r := (RX3, TX3, 5)) hx hb hK hP hD hS 1 0 2 3 rfl rfl rfl rfl (by unfold vp_in; decide) dX1_init_98 (fun H locs hP hD hS => ?_)
  have hP : va_P (dC, dI) vwCl [(h0, .inr (1, [.ref a1, .ref a2, .ref a3, .int 0, .null, .ref z1, .ref z3, .ref z5, .ref z7, .int 0, .ref z9, .int 0, .ref z11, .int 0, .int 0, .int 0])), (z9, .inl (cA10, 20, .inr (.inr (.inr (.inr (va_up (f111) (Int32.toNatClampNeg 16) (some z112))))))), (z112, .inr (3, [.ref b1_114, .int 0, .ref b2_115, .ref b3_116, .int 0]))] H := hP
  have hD : va_D A [(h0, .inr (1, [.ref a1, .ref a2, .ref a3, .int 0, .null, .ref z1, .ref z3, .ref z5, .ref z7, .int 0, .ref z9, .int 0, .ref z11, .int 0, .int 0, .int 0])), (z9, .inl (cA10, 20, .inr (.inr (.inr (.inr (va_up (f111) (Int32.toNatClampNeg 16) (some z112))))))), (z112, .inr (3, [.ref b1_114, .int 0, .ref b2_115, .ref b3_116, .int 0]))] := hD
  generalize va_up (f111) (Int32.toNatClampNeg 16) (some z112) = f117 at hP hD
  have hP := hP.sub (ws' := [(h0, .inr (1, [.ref a1, .ref a2, .ref a3, .int 0, .null, .ref z1, .ref z3, .ref z5, .ref z7, .int 0, .ref z9, .int 0, .ref z11, .int 0, .int 0, .int 0])), (z9, .inl (cA10, 20, .inr (.inr (.inr (.inr (f117))))))]) [0, 1] rfl
  have hD := hD.sub (ws' := [(h0, .inr (1, [.ref a1, .ref a2, .ref a3, .int 0, .null, .ref z1, .ref z3, .ref z5, .ref z7, .int 0, .ref z9, .int 0, .ref z11, .int 0, .int 0, .int 0])), (z9, .inl (cA10, 20, .inr (.inr (.inr (.inr (f117))))))]) [0, 1] (by decide) rfl
  have hK := hK.sub (tys' := [(cA10, .object RX3)]) [0] rfl
  refine lv_iinc (v := 17) (lv' := [(4, .int 17), (0, .ref h0), (1, .ref a1), (2, .ref a2), (3, .ref a3)]) hx hb dX1_init_99 hl (k := 0) rfl (by decide +kernel) (by decide) rfl (fun ls hl => ?_)
  refine lv_goto (tgt := 75) hx hb dX1_init_102 (by decide) ?_
  refine lv_iload hx hb dX1_init_75 (lv_at hl 0 rfl) ?_
  refine lv_aload_n hx hb dX1_init_77 rfl (lv_at hl 1 rfl) ?_
  refine va_get (D := (dC, dI)) (ci := 1) (v := .ref z9) (C := RX1) (T := TX1) (N := 16) hx hb hw uX1 hown hK hP 0 rfl rfl 10 (by decide) (hw _ q55) (fun _ h9 => h9) rfl dX1_init_78 ?_
  refine va_alen (D := (dC, dI)) hx hb hK hP 1 0 rfl rfl (v := 20) rfl dX1_init_81 ?_
  refine lv_icmp_ge (tgt := 105) hx hb dX1_init_82 (by decide) (fun c9 => absurd c9 (by decide)) (fun _ => ?_)
  refine lv_aload_n hx hb dX1_init_85 rfl (lv_at hl 1 rfl) ?_
  refine va_get (D := (dC, dI)) (ci := 1) (v := .ref z9) (C := RX1) (T := TX1) (N := 16) hx hb hw uX1 hown hK hP 0 rfl rfl 10 (by decide) (hw _ q55) (fun _ h9 => h9) rfl dX1_init_86 ?_
  refine lv_iload hx hb dX1_init_89 (lv_at hl 0 rfl) ?_
  refine va_new (D := (dC, dI)) (ci := 3) (fs := [.null, .int 0, .null, .null, .int 0]) (C := RX3) (T := TX3) (N := 5) hx hb hw uX3 tyX3 tyX3_ok hown (hw _ q53) (hw _ q14) (hw _ q15) hK hP hD hS hA rfl (by decide +kernel) (Nat.le_of_ble_eq_true rfl) (Nat.le_of_ble_eq_true rfl) dX1_init_91 (fun z118 H hP hD hS => ?_)
  have hP : va_P (dC, dI) vwCl [(h0, .inr (1, [.ref a1, .ref a2, .ref a3, .int 0, .null, .ref z1, .ref z3, .ref z5, .ref z7, .int 0, .ref z9, .int 0, .ref z11, .int 0, .int 0, .int 0])), (z9, .inl (cA10, 20, .inr (.inr (.inr (.inr (f117)))))), (z118, .inr (3, [.null, .int 0, .null, .null, .int 0]))] H := hP
  have hD : va_D A [(h0, .inr (1, [.ref a1, .ref a2, .ref a3, .int 0, .null, .ref z1, .ref z3, .ref z5, .ref z7, .int 0, .ref z9, .int 0, .ref z11, .int 0, .int 0, .int 0])), (z9, .inl (cA10, 20, .inr (.inr (.inr (.inr (f117)))))), (z118, .inr (3, [.null, .int 0, .null, .null, .int 0]))] := hD
  refine W.widen (k := 78) (n := 3809) (Nat.le_of_ble_eq_true rfl) (Nat.le_of_ble_eq_true rfl) ?_
  refine lv_dup hx hb dX1_init_94 rfl ?_
  have hPc := hP.sub (ws' := [(z118, .inr (3, [.null, .int 0, .null, .null, .int 0]))]) [2] rfl
  have hDc := hD.sub (ws' := [(z118, .inr (3, [.null, .int 0, .null, .null, .int 0]))]) [2] (by decide) rfl
  have hKc := hK.sub (tys' := []) [] rfl
  have hFc := va_free (wc := [(z118, .inr (3, [.null, .int 0, .null, .null, .int 0]))]) hD hS hA [2] rfl
  refine va_callv (va_runIN (As := []) (rest := [.ref z118, .int 17, .ref z9]) ⟨hx, hb, hml, hown, hw⟩ (c_X3_init l dC dI _ (z118)) ⟨va_cnB 0 hw (gB q16) rfl rfl rfl (nn5 hN) (hw _ q15) (by decide +kernel) ⟨Nat.le_of_ble_eq_true rfl, Nat.le_of_ble_eq_true rfl⟩, rfl, hw _ q17⟩ ⟨cP_blind, cP_pre hPc hKc hDc hN⟩ rfl rfl hl.1 rfl (lv_room (Nat.le_of_ble_eq_true rfl)) dX1_init_95 ⟨Nat.le_of_ble_eq_true rfl, Nat.le_of_ble_eq_true rfl⟩) hS (fun q _ h => hFc q h) hFc (fun u9 t H1 locs ht hvm hw1 hB hz1 hk1 hS => ?_)
  obtain ⟨b1_120, b2_121, b3_122, hP1, hK1, hD1⟩ := hB
  rw [ht] at hP1
  have hK1 := va_K.moved hvm.symm hK1
  obtain ⟨hP, hD⟩ := va_join (wr := [(h0, .inr (1, [.ref a1, .ref a2, .ref a3, .int 0, .null, .ref z1, .ref z3, .ref z5, .ref z7, .int 0, .ref z9, .int 0, .ref z11, .int 0, .int 0, .int 0])), (z9, .inl (cA10, 20, .inr (.inr (.inr (.inr (f117))))))]) (w1 := [(z118, .inr (3, [.ref b1_120, .int 0, .ref b2_121, .ref b3_122, .int 0]))]) hP hD [2] [0, 1] rfl rfl (by decide) (by decide) hk1 hFc hP1 hD1
  have hK := (hK.sub (tys' := [(cA10, .object RX3)]) [0] rfl).app hK1
  generalize H1 = H at hP hS ⊢
  have hP : va_P (dC, dI) vwCl [(h0, .inr (1, [.ref a1, .ref a2, .ref a3, .int 0, .null, .ref z1, .ref z3, .ref z5, .ref z7, .int 0, .ref z9, .int 0, .ref z11, .int 0, .int 0, .int 0])), (z9, .inl (cA10, 20, .inr (.inr (.inr (.inr (f117)))))), (z118, .inr (3, [.ref b1_120, .int 0, .ref b2_121, .ref b3_122, .int 0]))] H := hP
  have hD : va_D A [(h0, .inr (1, [.ref a1, .ref a2, .ref a3, .int 0, .null, .ref z1, .ref z3, .ref z5, .ref z7, .int 0, .ref z9, .int 0, .ref z11, .int 0, .int 0, .int 0])), (z9, .inl (cA10, 20, .inr (.inr (.inr (.inr (f117)))))), (z118, .inr (3, [.ref b1_120, .int 0, .ref b2_121, .ref b3_122, .int 0]))] := hD
  have hK : va_K (dC, dI) vwCl [(cA10, .object RX3)] s := hK
  refine W.widen (k := 81) (n := 3992) (Nat.le_of_ble_eq_true rfl) (Nat.le_of_ble_eq_true rfl) ?_
  refine va_astq (D := (dC, dI)) (r := (RX3, TX3, 5)) hx hb hK hP hD hS 1 0 2 3 rfl rfl rfl rfl (by unfold vp_in; decide) dX1_init_98 (fun H locs hP hD hS => ?_)
  have hP : va_P (dC, dI) vwCl [(h0, .inr (1, [.ref a1, .ref a2, .ref a3, .int 0, .null, .ref z1, .ref z3, .ref z5, .ref z7, .int 0, .ref z9, .int 0, .ref z11, .int 0, .int 0, .int 0])), (z9, .inl (cA10, 20, .inr (.inr (.inr (.inr (va_up (f117) (Int32.toNatClampNeg 17) (some z118))))))), (z118, .inr (3, [.ref b1_120, .int 0, .ref b2_121, .ref b3_122, .int 0]))] H := hP
  have hD : va_D A [(h0, .inr (1, [.ref a1, .ref a2, .ref a3, .int 0, .null, .ref z1, .ref z3, .ref z5, .ref z7, .int 0, .ref z9, .int 0, .ref z11, .int 0, .int 0, .int 0])), (z9, .inl (cA10, 20, .inr (.inr (.inr (.inr (va_up (f117) (Int32.toNatClampNeg 17) (some z118))))))), (z118, .inr (3, [.ref b1_120, .int 0, .ref b2_121, .ref b3_122, .int 0]))] := hD
  generalize va_up (f117) (Int32.toNatClampNeg 17) (some z118) = f123 at hP hD
  have hP := hP.sub (ws' := [(h0, .inr (1, [.ref a1, .ref a2, .ref a3, .int 0, .null, .ref z1, .ref z3, .ref z5, .ref z7, .int 0, .ref z9, .int 0, .ref z11, .int 0, .int 0, .int 0])), (z9, .inl (cA10, 20, .inr (.inr (.inr (.inr (f123))))))]) [0, 1] rfl
  have hD := hD.sub (ws' := [(h0, .inr (1, [.ref a1, .ref a2, .ref a3, .int 0, .null, .ref z1, .ref z3, .ref z5, .ref z7, .int 0, .ref z9, .int 0, .ref z11, .int 0, .int 0, .int 0])), (z9, .inl (cA10, 20, .inr (.inr (.inr (.inr (f123))))))]) [0, 1] (by decide) rfl
  have hK := hK.sub (tys' := [(cA10, .object RX3)]) [0] rfl
  refine lv_iinc (v := 18) (lv' := [(4, .int 18), (0, .ref h0), (1, .ref a1), (2, .ref a2), (3, .ref a3)]) hx hb dX1_init_99 hl (k := 0) rfl (by decide +kernel) (by decide) rfl (fun ls hl => ?_)
  refine lv_goto (tgt := 75) hx hb dX1_init_102 (by decide) ?_
  refine lv_iload hx hb dX1_init_75 (lv_at hl 0 rfl) ?_
  refine lv_aload_n hx hb dX1_init_77 rfl (lv_at hl 1 rfl) ?_
  refine va_get (D := (dC, dI)) (ci := 1) (v := .ref z9) (C := RX1) (T := TX1) (N := 16) hx hb hw uX1 hown hK hP 0 rfl rfl 10 (by decide) (hw _ q55) (fun _ h9 => h9) rfl dX1_init_78 ?_
  refine va_alen (D := (dC, dI)) hx hb hK hP 1 0 rfl rfl (v := 20) rfl dX1_init_81 ?_
  refine lv_icmp_ge (tgt := 105) hx hb dX1_init_82 (by decide) (fun c9 => absurd c9 (by decide)) (fun _ => ?_)
  refine lv_aload_n hx hb dX1_init_85 rfl (lv_at hl 1 rfl) ?_
  refine va_get (D := (dC, dI)) (ci := 1) (v := .ref z9) (C := RX1) (T := TX1) (N := 16) hx hb hw uX1 hown hK hP 0 rfl rfl 10 (by decide) (hw _ q55) (fun _ h9 => h9) rfl dX1_init_86 ?_
  refine lv_iload hx hb dX1_init_89 (lv_at hl 0 rfl) ?_
  refine va_new (D := (dC, dI)) (ci := 3) (fs := [.null, .int 0, .null, .null, .int 0]) (C := RX3) (T := TX3) (N := 5) hx hb hw uX3 tyX3 tyX3_ok hown (hw _ q53) (hw _ q14) (hw _ q15) hK hP hD hS hA rfl (by decide +kernel) (Nat.le_of_ble_eq_true rfl) (Nat.le_of_ble_eq_true rfl) dX1_init_91 (fun z124 H hP hD hS => ?_)
  have hP : va_P (dC, dI) vwCl [(h0, .inr (1, [.ref a1, .ref a2, .ref a3, .int 0, .null, .ref z1, .ref z3, .ref z5, .ref z7, .int 0, .ref z9, .int 0, .ref z11, .int 0, .int 0, .int 0])), (z9, .inl (cA10, 20, .inr (.inr (.inr (.inr (f123)))))), (z124, .inr (3, [.null, .int 0, .null, .null, .int 0]))] H := hP
  have hD : va_D A [(h0, .inr (1, [.ref a1, .ref a2, .ref a3, .int 0, .null, .ref z1, .ref z3, .ref z5, .ref z7, .int 0, .ref z9, .int 0, .ref z11, .int 0, .int 0, .int 0])), (z9, .inl (cA10, 20, .inr (.inr (.inr (.inr (f123)))))), (z124, .inr (3, [.null, .int 0, .null, .null, .int 0]))] := hD
  refine W.widen (k := 82) (n := 3997) (Nat.le_of_ble_eq_true rfl) (Nat.le_of_ble_eq_true rfl) ?_
  refine lv_dup hx hb dX1_init_94 rfl ?_
  have hPc := hP.sub (ws' := [(z124, .inr (3, [.null, .int 0, .null, .null, .int 0]))]) [2] rfl
  have hDc := hD.sub (ws' := [(z124, .inr (3, [.null, .int 0, .null, .null, .int 0]))]) [2] (by decide) rfl
  have hKc := hK.sub (tys' := []) [] rfl
  have hFc := va_free (wc := [(z124, .inr (3, [.null, .int 0, .null, .null, .int 0]))]) hD hS hA [2] rfl
  refine va_callv (va_runIN (As := []) (rest := [.ref z124, .int 18, .ref z9]) ⟨hx, hb, hml, hown, hw⟩ (c_X3_init l dC dI _ (z124)) ⟨va_cnB 0 hw (gB q16) rfl rfl rfl (nn5 hN) (hw _ q15) (by decide +kernel) ⟨Nat.le_of_ble_eq_true rfl, Nat.le_of_ble_eq_true rfl⟩, rfl, hw _ q17⟩ ⟨cP_blind, cP_pre hPc hKc hDc hN⟩ rfl rfl hl.1 rfl (lv_room (Nat.le_of_ble_eq_true rfl)) dX1_init_95 ⟨Nat.le_of_ble_eq_true rfl, Nat.le_of_ble_eq_true rfl⟩) hS (fun q _ h => hFc q h) hFc (fun u9 t H1 locs ht hvm hw1 hB hz1 hk1 hS => ?_)
  obtain ⟨b1_126, b2_127, b3_128, hP1, hK1, hD1⟩ := hB
  rw [ht] at hP1
  have hK1 := va_K.moved hvm.symm hK1
  obtain ⟨hP, hD⟩ := va_join (wr := [(h0, .inr (1, [.ref a1, .ref a2, .ref a3, .int 0, .null, .ref z1, .ref z3, .ref z5, .ref z7, .int 0, .ref z9, .int 0, .ref z11, .int 0, .int 0, .int 0])), (z9, .inl (cA10, 20, .inr (.inr (.inr (.inr (f123))))))]) (w1 := [(z124, .inr (3, [.ref b1_126, .int 0, .ref b2_127, .ref b3_128, .int 0]))]) hP hD [2] [0, 1] rfl rfl (by decide) (by decide) hk1 hFc hP1 hD1
  have hK := (hK.sub (tys' := [(cA10, .object RX3)]) [0] rfl).app hK1
  generalize H1 = H at hP hS ⊢
  have hP : va_P (dC, dI) vwCl [(h0, .inr (1, [.ref a1, .ref a2, .ref a3, .int 0, .null, .ref z1, .ref z3, .ref z5, .ref z7, .int 0, .ref z9, .int 0, .ref z11, .int 0, .int 0, .int 0])), (z9, .inl (cA10, 20, .inr (.inr (.inr (.inr (f123)))))), (z124, .inr (3, [.ref b1_126, .int 0, .ref b2_127, .ref b3_128, .int 0]))] H := hP
  have hD : va_D A [(h0, .inr (1, [.ref a1, .ref a2, .ref a3, .int 0, .null, .ref z1, .ref z3, .ref z5, .ref z7, .int 0, .ref z9, .int 0, .ref z11, .int 0, .int 0, .int 0])), (z9, .inl (cA10, 20, .inr (.inr (.inr (.inr (f123)))))), (z124, .inr (3, [.ref b1_126, .int 0, .ref b2_127, .ref b3_128, .int 0]))] := hD
  have hK : va_K (dC, dI) vwCl [(cA10, .object RX3)] s := hK
  refine W.widen (k := 85) (n := 4180) (Nat.le_of_ble_eq_true rfl) (Nat.le_of_ble_eq_true rfl) ?_
  refine va_astq (D := (dC, dI)) (r := (RX3, TX3, 5)) hx hb hK hP hD hS 1 0 2 3 rfl rfl rfl rfl (by unfold vp_in; decide) dX1_init_98 (fun H locs hP hD hS => ?_)
  have hP : va_P (dC, dI) vwCl [(h0, .inr (1, [.ref a1, .ref a2, .ref a3, .int 0, .null, .ref z1, .ref z3, .ref z5, .ref z7, .int 0, .ref z9, .int 0, .ref z11, .int 0, .int 0, .int 0])), (z9, .inl (cA10, 20, .inr (.inr (.inr (.inr (va_up (f123) (Int32.toNatClampNeg 18) (some z124))))))), (z124, .inr (3, [.ref b1_126, .int 0, .ref b2_127, .ref b3_128, .int 0]))] H := hP
  have hD : va_D A [(h0, .inr (1, [.ref a1, .ref a2, .ref a3, .int 0, .null, .ref z1, .ref z3, .ref z5, .ref z7, .int 0, .ref z9, .int 0, .ref z11, .int 0, .int 0, .int 0])), (z9, .inl (cA10, 20, .inr (.inr (.inr (.inr (va_up (f123) (Int32.toNatClampNeg 18) (some z124))))))), (z124, .inr (3, [.ref b1_126, .int 0, .ref b2_127, .ref b3_128, .int 0]))] := hD
  generalize va_up (f123) (Int32.toNatClampNeg 18) (some z124) = f129 at hP hD
  have hP := hP.sub (ws' := [(h0, .inr (1, [.ref a1, .ref a2, .ref a3, .int 0, .null, .ref z1, .ref z3, .ref z5, .ref z7, .int 0, .ref z9, .int 0, .ref z11, .int 0, .int 0, .int 0])), (z9, .inl (cA10, 20, .inr (.inr (.inr (.inr (f129))))))]) [0, 1] rfl
  have hD := hD.sub (ws' := [(h0, .inr (1, [.ref a1, .ref a2, .ref a3, .int 0, .null, .ref z1, .ref z3, .ref z5, .ref z7, .int 0, .ref z9, .int 0, .ref z11, .int 0, .int 0, .int 0])), (z9, .inl (cA10, 20, .inr (.inr (.inr (.inr (f129))))))]) [0, 1] (by decide) rfl
  have hK := hK.sub (tys' := [(cA10, .object RX3)]) [0] rfl
  refine lv_iinc (v := 19) (lv' := [(4, .int 19), (0, .ref h0), (1, .ref a1), (2, .ref a2), (3, .ref a3)]) hx hb dX1_init_99 hl (k := 0) rfl (by decide +kernel) (by decide) rfl (fun ls hl => ?_)
  refine lv_goto (tgt := 75) hx hb dX1_init_102 (by decide) ?_
  refine lv_iload hx hb dX1_init_75 (lv_at hl 0 rfl) ?_
  refine lv_aload_n hx hb dX1_init_77 rfl (lv_at hl 1 rfl) ?_
  refine va_get (D := (dC, dI)) (ci := 1) (v := .ref z9) (C := RX1) (T := TX1) (N := 16) hx hb hw uX1 hown hK hP 0 rfl rfl 10 (by decide) (hw _ q55) (fun _ h9 => h9) rfl dX1_init_78 ?_
  refine va_alen (D := (dC, dI)) hx hb hK hP 1 0 rfl rfl (v := 20) rfl dX1_init_81 ?_
  refine lv_icmp_ge (tgt := 105) hx hb dX1_init_82 (by decide) (fun c9 => absurd c9 (by decide)) (fun _ => ?_)
  refine lv_aload_n hx hb dX1_init_85 rfl (lv_at hl 1 rfl) ?_
  refine va_get (D := (dC, dI)) (ci := 1) (v := .ref z9) (C := RX1) (T := TX1) (N := 16) hx hb hw uX1 hown hK hP 0 rfl rfl 10 (by decide) (hw _ q55) (fun _ h9 => h9) rfl dX1_init_86 ?_
  refine lv_iload hx hb dX1_init_89 (lv_at hl 0 rfl) ?_
  refine va_new (D := (dC, dI)) (ci := 3) (fs := [.null, .int 0, .null, .null, .int 0]) (C := RX3) (T := TX3) (N := 5) hx hb hw uX3 tyX3 tyX3_ok hown (hw _ q53) (hw _ q14) (hw _ q15) hK hP hD hS hA rfl (by decide +kernel) (Nat.le_of_ble_eq_true rfl) (Nat.le_of_ble_eq_true rfl) dX1_init_91 (fun z130 H hP hD hS => ?_)
  have hP : va_P (dC, dI) vwCl [(h0, .inr (1, [.ref a1, .ref a2, .ref a3, .int 0, .null, .ref z1, .ref z3, .ref z5, .ref z7, .int 0, .ref z9, .int 0, .ref z11, .int 0, .int 0, .int 0])), (z9, .inl (cA10, 20, .inr (.inr (.inr (.inr (f129)))))), (z130, .inr (3, [.null, .int 0, .null, .null, .int 0]))] H := hP
  have hD : va_D A [(h0, .inr (1, [.ref a1, .ref a2, .ref a3, .int 0, .null, .ref z1, .ref z3, .ref z5, .ref z7, .int 0, .ref z9, .int 0, .ref z11, .int 0, .int 0, .int 0])), (z9, .inl (cA10, 20, .inr (.inr (.inr (.inr (f129)))))), (z130, .inr (3, [.null, .int 0, .null, .null, .int 0]))] := hD
  refine W.widen (k := 86) (n := 4185) (Nat.le_of_ble_eq_true rfl) (Nat.le_of_ble_eq_true rfl) ?_
  refine lv_dup hx hb dX1_init_94 rfl ?_
  have hPc := hP.sub (ws' := [(z130, .inr (3, [.null, .int 0, .null, .null, .int 0]))]) [2] rfl
  have hDc := hD.sub (ws' := [(z130, .inr (3, [.null, .int 0, .null, .null, .int 0]))]) [2] (by decide) rfl
  have hKc := hK.sub (tys' := []) [] rfl
  have hFc := va_free (wc := [(z130, .inr (3, [.null, .int 0, .null, .null, .int 0]))]) hD hS hA [2] rfl
  refine va_callv (va_runIN (As := []) (rest := [.ref z130, .int 19, .ref z9]) ⟨hx, hb, hml, hown, hw⟩ (c_X3_init l dC dI _ (z130)) ⟨va_cnB 0 hw (gB q16) rfl rfl rfl (nn5 hN) (hw _ q15) (by decide +kernel) ⟨Nat.le_of_ble_eq_true rfl, Nat.le_of_ble_eq_true rfl⟩, rfl, hw _ q17⟩ ⟨cP_blind, cP_pre hPc hKc hDc hN⟩ rfl rfl hl.1 rfl (lv_room (Nat.le_of_ble_eq_true rfl)) dX1_init_95 ⟨Nat.le_of_ble_eq_true rfl, Nat.le_of_ble_eq_true rfl⟩) hS (fun q _ h => hFc q h) hFc (fun u9 t H1 locs ht hvm hw1 hB hz1 hk1 hS => ?_)
  obtain ⟨b1_132, b2_133, b3_134, hP1, hK1, hD1⟩ := hB
  rw [ht] at hP1
  have hK1 := va_K.moved hvm.symm hK1
  obtain ⟨hP, hD⟩ := va_join (wr := [(h0, .inr (1, [.ref a1, .ref a2, .ref a3, .int 0, .null, .ref z1, .ref z3, .ref z5, .ref z7, .int 0, .ref z9, .int 0, .ref z11, .int 0, .int 0, .int 0])), (z9, .inl (cA10, 20, .inr (.inr (.inr (.inr (f129))))))]) (w1 := [(z130, .inr (3, [.ref b1_132, .int 0, .ref b2_133, .ref b3_134, .int 0]))]) hP hD [2] [0, 1] rfl rfl (by decide) (by decide) hk1 hFc hP1 hD1
  have hK := (hK.sub (tys' := [(cA10, .object RX3)]) [0] rfl).app hK1
  generalize H1 = H at hP hS ⊢
  have hP : va_P (dC, dI) vwCl [(h0, .inr (1, [.ref a1, .ref a2, .ref a3, .int 0, .null, .ref z1, .ref z3, .ref z5, .ref z7, .int 0, .ref z9, .int 0, .ref z11, .int 0, .int 0, .int 0])), (z9, .inl (cA10, 20, .inr (.inr (.inr (.inr (f129)))))), (z130, .inr (3, [.ref b1_132, .int 0, .ref b2_133, .ref b3_134, .int 0]))] H := hP
  have hD : va_D A [(h0, .inr (1, [.ref a1, .ref a2, .ref a3, .int 0, .null, .ref z1, .ref z3, .ref z5, .ref z7, .int 0, .ref z9, .int 0, .ref z11, .int 0, .int 0, .int 0])), (z9, .inl (cA10, 20, .inr (.inr (.inr (.inr (f129)))))), (z130, .inr (3, [.ref b1_132, .int 0, .ref b2_133, .ref b3_134, .int 0]))] := hD
  have hK : va_K (dC, dI) vwCl [(cA10, .object RX3)] s := hK
  refine W.widen (k := 89) (n := 4368) (Nat.le_of_ble_eq_true rfl) (Nat.le_of_ble_eq_true rfl) ?_
  refine va_astq (D := (dC, dI)) (r := (RX3, TX3, 5)) hx hb hK hP hD hS 1 0 2 3 rfl rfl rfl rfl (by unfold vp_in; decide) dX1_init_98 (fun H locs hP hD hS => ?_)
  have hP : va_P (dC, dI) vwCl [(h0, .inr (1, [.ref a1, .ref a2, .ref a3, .int 0, .null, .ref z1, .ref z3, .ref z5, .ref z7, .int 0, .ref z9, .int 0, .ref z11, .int 0, .int 0, .int 0])), (z9, .inl (cA10, 20, .inr (.inr (.inr (.inr (va_up (f129) (Int32.toNatClampNeg 19) (some z130))))))), (z130, .inr (3, [.ref b1_132, .int 0, .ref b2_133, .ref b3_134, .int 0]))] H := hP
  have hD : va_D A [(h0, .inr (1, [.ref a1, .ref a2, .ref a3, .int 0, .null, .ref z1, .ref z3, .ref z5, .ref z7, .int 0, .ref z9, .int 0, .ref z11, .int 0, .int 0, .int 0])), (z9, .inl (cA10, 20, .inr (.inr (.inr (.inr (va_up (f129) (Int32.toNatClampNeg 19) (some z130))))))), (z130, .inr (3, [.ref b1_132, .int 0, .ref b2_133, .ref b3_134, .int 0]))] := hD
  generalize va_up (f129) (Int32.toNatClampNeg 19) (some z130) = f135 at hP hD
  have hP := hP.sub (ws' := [(h0, .inr (1, [.ref a1, .ref a2, .ref a3, .int 0, .null, .ref z1, .ref z3, .ref z5, .ref z7, .int 0, .ref z9, .int 0, .ref z11, .int 0, .int 0, .int 0])), (z9, .inl (cA10, 20, .inr (.inr (.inr (.inr (f135))))))]) [0, 1] rfl
  have hD := hD.sub (ws' := [(h0, .inr (1, [.ref a1, .ref a2, .ref a3, .int 0, .null, .ref z1, .ref z3, .ref z5, .ref z7, .int 0, .ref z9, .int 0, .ref z11, .int 0, .int 0, .int 0])), (z9, .inl (cA10, 20, .inr (.inr (.inr (.inr (f135))))))]) [0, 1] (by decide) rfl
  have hK := hK.sub (tys' := [(cA10, .object RX3)]) [0] rfl
  refine lv_iinc (v := 20) (lv' := [(4, .int 20), (0, .ref h0), (1, .ref a1), (2, .ref a2), (3, .ref a3)]) hx hb dX1_init_99 hl (k := 0) rfl (by decide +kernel) (by decide) rfl (fun ls hl => ?_)
  refine lv_goto (tgt := 75) hx hb dX1_init_102 (by decide) ?_
  refine lv_iload hx hb dX1_init_75 (lv_at hl 0 rfl) ?_
  refine lv_aload_n hx hb dX1_init_77 rfl (lv_at hl 1 rfl) ?_
  refine va_get (D := (dC, dI)) (ci := 1) (v := .ref z9) (C := RX1) (T := TX1) (N := 16) hx hb hw uX1 hown hK hP 0 rfl rfl 10 (by decide) (hw _ q55) (fun _ h9 => h9) rfl dX1_init_78 ?_
  refine va_alen (D := (dC, dI)) hx hb hK hP 1 0 rfl rfl (v := 20) rfl dX1_init_81 ?_
  refine lv_icmp_ge (tgt := 105) hx hb dX1_init_82 (by decide) (fun _ => ?_) (fun c9 => absurd c9 (by decide))
  have hP9 := hP.sub (ws' := []) [] rfl
  have hD9 := hD.sub (ws' := []) [] (by decide) rfl
  have hK9 := hK.sub (tys' := []) [] rfl
  exact W.vret hx hb hr (fun t ht hW => ⟨⟨(), rfl, trivial, by rw [ht]; exact hP9, va_K.moved hW.alike hK9, hD9⟩, hS.F ht⟩) hS.2.2 dX1_init_105
set_option maxHeartbeats 4000000 in
set_option maxRecDepth 100000 in
theorem c_X4_init (l : Launch) (dC : Nat → ClassId) (dI : Nat → Nat → Nat) (sz : Nat) (h0 : Nat) (a1 : Nat) : Met l yX4_init (Cond.code yX4_init cX4_init 2 none :: wp) ({ frames := 2, cells := 13, slots := 8548, locals := 32 }) (cP dC dI [.ref h0, .ref a1] sz [(h0, .inr (4, [.null, .int 0, .null, .null, .null, .null, .null, .null, .int 0, .null, .null, .null, .int 0, .null, .null, .int 0, .int 0]))] []) (va_Qv (fun _ : Unit => True) (fun (_ : Unit) t => cB dC dI (va_A [(h0, .inr (4, [.null, .int 0, .null, .null, .null, .null, .null, .null, .int 0, .null, .null, .null, .int 0, .null, .null, .int 0, .int 0]))] sz) [] [] t) (va_A [(h0, .inr (4, [.null, .int 0, .null, .null, .null, .null, .null, .null, .int 0, .null, .null, .null, .int 0, .null, .null, .int 0, .int 0]))] sz)) 13 8548 (va_A [(h0, .inr (4, [.null, .int 0, .null, .null, .null, .null, .null, .null, .int 0, .null, .null, .null, .int 0, .null, .null, .int 0, .int 0]))] sz) := by
  refine Met.ofW (cc := cX4_init) (maxL := 2) (ret := none) (by decide) rfl ?_
  intro p e s m args below meth c s₁ B hml hv
  obtain ⟨rfl, hsz, hP, hK, hD0, hN⟩ := hv
  have hx := B.exec
  have hb := B.bytes
  have hr := B.returns
  have hts := atoms_spec (ws := Cond.code yX4_init cX4_init 2 none :: wp) B.pre
  have hw : ∀ w ∈ wp, w.before _ s = true := fun w h => hts w (List.mem_cons_of_mem _ h)
  have hown : s.vm.findClass RX4 = some m.cls := findClass_of_methodNamed B.named
  have hlocks := B.notSynchronized
  have hin : meth.name = "<init>" := (name_of_methodNamed B.named B.method).1
  subst hsz
  have hD := hD0.self (sz := s.heap.size)
  generalize hAe : va_A [(h0, .inr (4, [.null, .int 0, .null, .null, .null, .null, .null, .null, .int 0, .null, .null, .null, .int 0, .null, .null, .int 0, .int 0]))] s.heap.size = A at hD ⊢
  have hA : ∀ q : Nat, s.heap.size ≤ q → A q := fun q h => by rw [← hAe]; exact Or.inr h
  have hS : va_S A s.heap s.heap [] := va_S.rf
  have hP : va_P (dC, dI) vwCl [(h0, .inr (4, [.null, .int 0, .null, .null, .null, .null, .null, .null, .int 0, .null, .null, .null, .int 0, .null, .null, .int 0, .int 0]))] s.heap := hP
  have hl := lv_entry ([.ref h0, .ref a1]) (n := 2) (Nat.le_of_ble_eq_true rfl)
  rw [lg_entry_eq]
  generalize (lg_sl ([.ref h0, .ref a1]) ++ List.replicate (2 - (lg_sl ([.ref h0, .ref a1])).length) Slot.unset).toArray = ls at hl ⊢
  have hl : lv_has ls 2 [(0, .ref h0), (1, .ref a1)] := hl
  refine lv_aload_n hx hb dX4_init_0 rfl (lv_at hl 0 rfl) ?_
  refine W.objInit hx hb hown (hw _ q60) (hw _ q1) (hw _ q2) rfl (by rw [hml]; exact hl.1) rfl dX4_init_1 (Nat.le_of_ble_eq_true rfl) (Nat.le_of_ble_eq_true rfl) ?_
  refine W.eq (g2 := F0 m 4 ls []) rfl ?_
  refine lv_aload_n hx hb dX4_init_4 rfl (lv_at hl 0 rfl) ?_
  refine lv_sipush (v := 502) hx hb dX4_init_5 (by decide) ?_
  refine va_newa (D := (dC, dI)) (atype := .int) (ty := .int) (a0 := (502, .inl (fun _ => 0))) (N' := 502) hx hb (hw _ q3) rfl hK hP hD hS hA (fun _ => rfl) (by decide) (by decide +kernel) (Nat.le_of_ble_eq_true rfl) (Nat.le_of_ble_eq_true rfl) (Nat.le_of_ble_eq_true rfl) dX4_init_8 (fun z1 cA2 H hK hP hD hS => ?_)
  have hP : va_P (dC, dI) vwCl [(h0, .inr (4, [.null, .int 0, .null, .null, .null, .null, .null, .null, .int 0, .null, .null, .null, .int 0, .null, .null, .int 0, .int 0])), (z1, .inl (cA2, 502, .inl (fun _ => 0)))] H := hP
  have hD : va_D A [(h0, .inr (4, [.null, .int 0, .null, .null, .null, .null, .null, .null, .int 0, .null, .null, .null, .int 0, .null, .null, .int 0, .int 0])), (z1, .inl (cA2, 502, .inl (fun _ => 0)))] := hD
  have hK : va_K (dC, dI) vwCl [(cA2, .int)] s := hK
  refine W.widen (k := 1) (n := 502) (Nat.le_of_ble_eq_true rfl) (Nat.le_of_ble_eq_true rfl) ?_
  refine va_putF (D := (dC, dI)) (ci := 4) (v := .ref z1) (ty := .array .int) (C := RX4) (T := TX4) (N := 17) hx hb hw uX4 tyX4 tyX4_ok nmX4 hown hK hP hD hS 0 rfl rfl 2 (by decide) (hw _ q61) (fun _ h9 => h9) rfl hin rfl (by decide +kernel) rfl rfl (Nat.le_of_ble_eq_true rfl) dX4_init_10 (fun H locs hP hD hS => ?_)
  have hP : va_P (dC, dI) vwCl [(h0, .inr (4, [.null, .int 0, .ref z1, .null, .null, .null, .null, .null, .int 0, .null, .null, .null, .int 0, .null, .null, .int 0, .int 0])), (z1, .inl (cA2, 502, .inl (fun _ => 0)))] H := hP
  have hD : va_D A [(h0, .inr (4, [.null, .int 0, .ref z1, .null, .null, .null, .null, .null, .int 0, .null, .null, .null, .int 0, .null, .null, .int 0, .int 0])), (z1, .inl (cA2, 502, .inl (fun _ => 0)))] := hD
  have hP := hP.sub (ws' := [(h0, .inr (4, [.null, .int 0, .ref z1, .null, .null, .null, .null, .null, .int 0, .null, .null, .null, .int 0, .null, .null, .int 0, .int 0]))]) [0] rfl
  have hD := hD.sub (ws' := [(h0, .inr (4, [.null, .int 0, .ref z1, .null, .null, .null, .null, .null, .int 0, .null, .null, .null, .int 0, .null, .null, .int 0, .int 0]))]) [0] (by decide) rfl
  have hK := hK.sub (tys' := []) [] rfl
  refine lv_aload_n hx hb dX4_init_13 rfl (lv_at hl 0 rfl) ?_
  refine lv_sipush (v := 502) hx hb dX4_init_14 (by decide) ?_
  refine va_newa (D := (dC, dI)) (atype := .int) (ty := .int) (a0 := (502, .inl (fun _ => 0))) (N' := 502) hx hb (hw _ q3) rfl hK hP hD hS hA (fun _ => rfl) (by decide) (by decide +kernel) (Nat.le_of_ble_eq_true rfl) (Nat.le_of_ble_eq_true rfl) (Nat.le_of_ble_eq_true rfl) dX4_init_17 (fun z3 cA4 H hK hP hD hS => ?_)
  have hP : va_P (dC, dI) vwCl [(h0, .inr (4, [.null, .int 0, .ref z1, .null, .null, .null, .null, .null, .int 0, .null, .null, .null, .int 0, .null, .null, .int 0, .int 0])), (z3, .inl (cA4, 502, .inl (fun _ => 0)))] H := hP
  have hD : va_D A [(h0, .inr (4, [.null, .int 0, .ref z1, .null, .null, .null, .null, .null, .int 0, .null, .null, .null, .int 0, .null, .null, .int 0, .int 0])), (z3, .inl (cA4, 502, .inl (fun _ => 0)))] := hD
  have hK : va_K (dC, dI) vwCl [(cA4, .int)] s := hK
  refine W.widen (k := 2) (n := 1004) (Nat.le_of_ble_eq_true rfl) (Nat.le_of_ble_eq_true rfl) ?_
  refine va_putF (D := (dC, dI)) (ci := 4) (v := .ref z3) (ty := .array .int) (C := RX4) (T := TX4) (N := 17) hx hb hw uX4 tyX4 tyX4_ok nmX4 hown hK hP hD hS 0 rfl rfl 3 (by decide) (hw _ q62) (fun _ h9 => h9) rfl hin rfl (by decide +kernel) rfl rfl (Nat.le_of_ble_eq_true rfl) dX4_init_19 (fun H locs hP hD hS => ?_)
  have hP : va_P (dC, dI) vwCl [(h0, .inr (4, [.null, .int 0, .ref z1, .ref z3, .null, .null, .null, .null, .int 0, .null, .null, .null, .int 0, .null, .null, .int 0, .int 0])), (z3, .inl (cA4, 502, .inl (fun _ => 0)))] H := hP
  have hD : va_D A [(h0, .inr (4, [.null, .int 0, .ref z1, .ref z3, .null, .null, .null, .null, .int 0, .null, .null, .null, .int 0, .null, .null, .int 0, .int 0])), (z3, .inl (cA4, 502, .inl (fun _ => 0)))] := hD
  have hP := hP.sub (ws' := [(h0, .inr (4, [.null, .int 0, .ref z1, .ref z3, .null, .null, .null, .null, .int 0, .null, .null, .null, .int 0, .null, .null, .int 0, .int 0]))]) [0] rfl
  have hD := hD.sub (ws' := [(h0, .inr (4, [.null, .int 0, .ref z1, .ref z3, .null, .null, .null, .null, .int 0, .null, .null, .null, .int 0, .null, .null, .int 0, .int 0]))]) [0] (by decide) rfl
  have hK := hK.sub (tys' := []) [] rfl
  refine lv_aload_n hx hb dX4_init_22 rfl (lv_at hl 0 rfl) ?_
  refine lv_sipush (v := 502) hx hb dX4_init_23 (by decide) ?_
  refine va_newa (D := (dC, dI)) (atype := .int) (ty := .int) (a0 := (502, .inl (fun _ => 0))) (N' := 502) hx hb (hw _ q3) rfl hK hP hD hS hA (fun _ => rfl) (by decide) (by decide +kernel) (Nat.le_of_ble_eq_true rfl) (Nat.le_of_ble_eq_true rfl) (Nat.le_of_ble_eq_true rfl) dX4_init_26 (fun z5 cA6 H hK hP hD hS => ?_)
  have hP : va_P (dC, dI) vwCl [(h0, .inr (4, [.null, .int 0, .ref z1, .ref z3, .null, .null, .null, .null, .int 0, .null, .null, .null, .int 0, .null, .null, .int 0, .int 0])), (z5, .inl (cA6, 502, .inl (fun _ => 0)))] H := hP
  have hD : va_D A [(h0, .inr (4, [.null, .int 0, .ref z1, .ref z3, .null, .null, .null, .null, .int 0, .null, .null, .null, .int 0, .null, .null, .int 0, .int 0])), (z5, .inl (cA6, 502, .inl (fun _ => 0)))] := hD
  have hK : va_K (dC, dI) vwCl [(cA6, .int)] s := hK
  refine W.widen (k := 3) (n := 1506) (Nat.le_of_ble_eq_true rfl) (Nat.le_of_ble_eq_true rfl) ?_
  refine va_putF (D := (dC, dI)) (ci := 4) (v := .ref z5) (ty := .array .int) (C := RX4) (T := TX4) (N := 17) hx hb hw uX4 tyX4 tyX4_ok nmX4 hown hK hP hD hS 0 rfl rfl 4 (by decide) (hw _ q63) (fun _ h9 => h9) rfl hin rfl (by decide +kernel) rfl rfl (Nat.le_of_ble_eq_true rfl) dX4_init_28 (fun H locs hP hD hS => ?_)
  have hP : va_P (dC, dI) vwCl [(h0, .inr (4, [.null, .int 0, .ref z1, .ref z3, .ref z5, .null, .null, .null, .int 0, .null, .null, .null, .int 0, .null, .null, .int 0, .int 0])), (z5, .inl (cA6, 502, .inl (fun _ => 0)))] H := hP
  have hD : va_D A [(h0, .inr (4, [.null, .int 0, .ref z1, .ref z3, .ref z5, .null, .null, .null, .int 0, .null, .null, .null, .int 0, .null, .null, .int 0, .int 0])), (z5, .inl (cA6, 502, .inl (fun _ => 0)))] := hD
  have hP := hP.sub (ws' := [(h0, .inr (4, [.null, .int 0, .ref z1, .ref z3, .ref z5, .null, .null, .null, .int 0, .null, .null, .null, .int 0, .null, .null, .int 0, .int 0]))]) [0] rfl
  have hD := hD.sub (ws' := [(h0, .inr (4, [.null, .int 0, .ref z1, .ref z3, .ref z5, .null, .null, .null, .int 0, .null, .null, .null, .int 0, .null, .null, .int 0, .int 0]))]) [0] (by decide) rfl
  have hK := hK.sub (tys' := []) [] rfl
  refine lv_aload_n hx hb dX4_init_31 rfl (lv_at hl 0 rfl) ?_
  refine lv_sipush (v := 502) hx hb dX4_init_32 (by decide) ?_
  refine va_newa (D := (dC, dI)) (atype := .int) (ty := .int) (a0 := (502, .inl (fun _ => 0))) (N' := 502) hx hb (hw _ q3) rfl hK hP hD hS hA (fun _ => rfl) (by decide) (by decide +kernel) (Nat.le_of_ble_eq_true rfl) (Nat.le_of_ble_eq_true rfl) (Nat.le_of_ble_eq_true rfl) dX4_init_35 (fun z7 cA8 H hK hP hD hS => ?_)
  have hP : va_P (dC, dI) vwCl [(h0, .inr (4, [.null, .int 0, .ref z1, .ref z3, .ref z5, .null, .null, .null, .int 0, .null, .null, .null, .int 0, .null, .null, .int 0, .int 0])), (z7, .inl (cA8, 502, .inl (fun _ => 0)))] H := hP
  have hD : va_D A [(h0, .inr (4, [.null, .int 0, .ref z1, .ref z3, .ref z5, .null, .null, .null, .int 0, .null, .null, .null, .int 0, .null, .null, .int 0, .int 0])), (z7, .inl (cA8, 502, .inl (fun _ => 0)))] := hD
  have hK : va_K (dC, dI) vwCl [(cA8, .int)] s := hK
  refine W.widen (k := 4) (n := 2008) (Nat.le_of_ble_eq_true rfl) (Nat.le_of_ble_eq_true rfl) ?_
  refine va_putF (D := (dC, dI)) (ci := 4) (v := .ref z7) (ty := .array .int) (C := RX4) (T := TX4) (N := 17) hx hb hw uX4 tyX4 tyX4_ok nmX4 hown hK hP hD hS 0 rfl rfl 5 (by decide) (hw _ q64) (fun _ h9 => h9) rfl hin rfl (by decide +kernel) rfl rfl (Nat.le_of_ble_eq_true rfl) dX4_init_37 (fun H locs hP hD hS => ?_)
  have hP : va_P (dC, dI) vwCl [(h0, .inr (4, [.null, .int 0, .ref z1, .ref z3, .ref z5, .ref z7, .null, .null, .int 0, .null, .null, .null, .int 0, .null, .null, .int 0, .int 0])), (z7, .inl (cA8, 502, .inl (fun _ => 0)))] H := hP
  have hD : va_D A [(h0, .inr (4, [.null, .int 0, .ref z1, .ref z3, .ref z5, .ref z7, .null, .null, .int 0, .null, .null, .null, .int 0, .null, .null, .int 0, .int 0])), (z7, .inl (cA8, 502, .inl (fun _ => 0)))] := hD
  have hP := hP.sub (ws' := [(h0, .inr (4, [.null, .int 0, .ref z1, .ref z3, .ref z5, .ref z7, .null, .null, .int 0, .null, .null, .null, .int 0, .null, .null, .int 0, .int 0]))]) [0] rfl
  have hD := hD.sub (ws' := [(h0, .inr (4, [.null, .int 0, .ref z1, .ref z3, .ref z5, .ref z7, .null, .null, .int 0, .null, .null, .null, .int 0, .null, .null, .int 0, .int 0]))]) [0] (by decide) rfl
  have hK := hK.sub (tys' := []) [] rfl
  refine lv_aload_n hx hb dX4_init_40 rfl (lv_at hl 0 rfl) ?_
  refine lv_sipush (v := 4016) hx hb dX4_init_41 (by decide) ?_
  refine va_newa (D := (dC, dI)) (atype := .int) (ty := .int) (a0 := (4016, .inl (fun _ => 0))) (N' := 4016) hx hb (hw _ q3) rfl hK hP hD hS hA (fun _ => rfl) (by decide) (by decide +kernel) (Nat.le_of_ble_eq_true rfl) (Nat.le_of_ble_eq_true rfl) (Nat.le_of_ble_eq_true rfl) dX4_init_44 (fun z9 cA10 H hK hP hD hS => ?_)
  have hP : va_P (dC, dI) vwCl [(h0, .inr (4, [.null, .int 0, .ref z1, .ref z3, .ref z5, .ref z7, .null, .null, .int 0, .null, .null, .null, .int 0, .null, .null, .int 0, .int 0])), (z9, .inl (cA10, 4016, .inl (fun _ => 0)))] H := hP
  have hD : va_D A [(h0, .inr (4, [.null, .int 0, .ref z1, .ref z3, .ref z5, .ref z7, .null, .null, .int 0, .null, .null, .null, .int 0, .null, .null, .int 0, .int 0])), (z9, .inl (cA10, 4016, .inl (fun _ => 0)))] := hD
  have hK : va_K (dC, dI) vwCl [(cA10, .int)] s := hK
  refine W.widen (k := 5) (n := 6024) (Nat.le_of_ble_eq_true rfl) (Nat.le_of_ble_eq_true rfl) ?_
  refine va_putF (D := (dC, dI)) (ci := 4) (v := .ref z9) (ty := .array .int) (C := RX4) (T := TX4) (N := 17) hx hb hw uX4 tyX4 tyX4_ok nmX4 hown hK hP hD hS 0 rfl rfl 6 (by decide) (hw _ q65) (fun _ h9 => h9) rfl hin rfl (by decide +kernel) rfl rfl (Nat.le_of_ble_eq_true rfl) dX4_init_46 (fun H locs hP hD hS => ?_)
  have hP : va_P (dC, dI) vwCl [(h0, .inr (4, [.null, .int 0, .ref z1, .ref z3, .ref z5, .ref z7, .ref z9, .null, .int 0, .null, .null, .null, .int 0, .null, .null, .int 0, .int 0])), (z9, .inl (cA10, 4016, .inl (fun _ => 0)))] H := hP
  have hD : va_D A [(h0, .inr (4, [.null, .int 0, .ref z1, .ref z3, .ref z5, .ref z7, .ref z9, .null, .int 0, .null, .null, .null, .int 0, .null, .null, .int 0, .int 0])), (z9, .inl (cA10, 4016, .inl (fun _ => 0)))] := hD
  have hP := hP.sub (ws' := [(h0, .inr (4, [.null, .int 0, .ref z1, .ref z3, .ref z5, .ref z7, .ref z9, .null, .int 0, .null, .null, .null, .int 0, .null, .null, .int 0, .int 0]))]) [0] rfl
  have hD := hD.sub (ws' := [(h0, .inr (4, [.null, .int 0, .ref z1, .ref z3, .ref z5, .ref z7, .ref z9, .null, .int 0, .null, .null, .null, .int 0, .null, .null, .int 0, .int 0]))]) [0] (by decide) rfl
  have hK := hK.sub (tys' := []) [] rfl
  refine lv_aload_n hx hb dX4_init_49 rfl (lv_at hl 0 rfl) ?_
  refine lv_sipush (v := 502) hx hb dX4_init_50 (by decide) ?_
  refine va_newa (D := (dC, dI)) (atype := .long) (ty := .long) (a0 := (502, .inr (.inl (fun _ => 0)))) (N' := 502) hx hb (hw _ q66) rfl hK hP hD hS hA (fun _ => rfl) (by decide) (by decide +kernel) (Nat.le_of_ble_eq_true rfl) (Nat.le_of_ble_eq_true rfl) (Nat.le_of_ble_eq_true rfl) dX4_init_53 (fun z11 cA12 H hK hP hD hS => ?_)
  have hP : va_P (dC, dI) vwCl [(h0, .inr (4, [.null, .int 0, .ref z1, .ref z3, .ref z5, .ref z7, .ref z9, .null, .int 0, .null, .null, .null, .int 0, .null, .null, .int 0, .int 0])), (z11, .inl (cA12, 502, .inr (.inl (fun _ => 0))))] H := hP
  have hD : va_D A [(h0, .inr (4, [.null, .int 0, .ref z1, .ref z3, .ref z5, .ref z7, .ref z9, .null, .int 0, .null, .null, .null, .int 0, .null, .null, .int 0, .int 0])), (z11, .inl (cA12, 502, .inr (.inl (fun _ => 0))))] := hD
  have hK : va_K (dC, dI) vwCl [(cA12, .long)] s := hK
  refine W.widen (k := 6) (n := 6526) (Nat.le_of_ble_eq_true rfl) (Nat.le_of_ble_eq_true rfl) ?_
  refine va_putF (D := (dC, dI)) (ci := 4) (v := .ref z11) (ty := .array .long) (C := RX4) (T := TX4) (N := 17) hx hb hw uX4 tyX4 tyX4_ok nmX4 hown hK hP hD hS 0 rfl rfl 7 (by decide) (hw _ q67) (fun _ h9 => h9) rfl hin rfl (by decide +kernel) rfl rfl (Nat.le_of_ble_eq_true rfl) dX4_init_55 (fun H locs hP hD hS => ?_)
  have hP : va_P (dC, dI) vwCl [(h0, .inr (4, [.null, .int 0, .ref z1, .ref z3, .ref z5, .ref z7, .ref z9, .ref z11, .int 0, .null, .null, .null, .int 0, .null, .null, .int 0, .int 0])), (z11, .inl (cA12, 502, .inr (.inl (fun _ => 0))))] H := hP
  have hD : va_D A [(h0, .inr (4, [.null, .int 0, .ref z1, .ref z3, .ref z5, .ref z7, .ref z9, .ref z11, .int 0, .null, .null, .null, .int 0, .null, .null, .int 0, .int 0])), (z11, .inl (cA12, 502, .inr (.inl (fun _ => 0))))] := hD
  have hP := hP.sub (ws' := [(h0, .inr (4, [.null, .int 0, .ref z1, .ref z3, .ref z5, .ref z7, .ref z9, .ref z11, .int 0, .null, .null, .null, .int 0, .null, .null, .int 0, .int 0]))]) [0] rfl
  have hD := hD.sub (ws' := [(h0, .inr (4, [.null, .int 0, .ref z1, .ref z3, .ref z5, .ref z7, .ref z9, .ref z11, .int 0, .null, .null, .null, .int 0, .null, .null, .int 0, .int 0]))]) [0] (by decide) rfl
  have hK := hK.sub (tys' := []) [] rfl
  refine lv_aload_n hx hb dX4_init_58 rfl (lv_at hl 0 rfl) ?_
  refine lv_sipush (v := 502) hx hb dX4_init_59 (by decide) ?_
  refine va_newa (D := (dC, dI)) (atype := .int) (ty := .int) (a0 := (502, .inl (fun _ => 0))) (N' := 502) hx hb (hw _ q3) rfl hK hP hD hS hA (fun _ => rfl) (by decide) (by decide +kernel) (Nat.le_of_ble_eq_true rfl) (Nat.le_of_ble_eq_true rfl) (Nat.le_of_ble_eq_true rfl) dX4_init_62 (fun z13 cA14 H hK hP hD hS => ?_)
  have hP : va_P (dC, dI) vwCl [(h0, .inr (4, [.null, .int 0, .ref z1, .ref z3, .ref z5, .ref z7, .ref z9, .ref z11, .int 0, .null, .null, .null, .int 0, .null, .null, .int 0, .int 0])), (z13, .inl (cA14, 502, .inl (fun _ => 0)))] H := hP
  have hD : va_D A [(h0, .inr (4, [.null, .int 0, .ref z1, .ref z3, .ref z5, .ref z7, .ref z9, .ref z11, .int 0, .null, .null, .null, .int 0, .null, .null, .int 0, .int 0])), (z13, .inl (cA14, 502, .inl (fun _ => 0)))] := hD
  have hK : va_K (dC, dI) vwCl [(cA14, .int)] s := hK
  refine W.widen (k := 7) (n := 7028) (Nat.le_of_ble_eq_true rfl) (Nat.le_of_ble_eq_true rfl) ?_
  refine va_putF (D := (dC, dI)) (ci := 4) (v := .ref z13) (ty := .array .int) (C := RX4) (T := TX4) (N := 17) hx hb hw uX4 tyX4 tyX4_ok nmX4 hown hK hP hD hS 0 rfl rfl 9 (by decide) (hw _ q68) (fun _ h9 => h9) rfl hin rfl (by decide +kernel) rfl rfl (Nat.le_of_ble_eq_true rfl) dX4_init_64 (fun H locs hP hD hS => ?_)
  have hP : va_P (dC, dI) vwCl [(h0, .inr (4, [.null, .int 0, .ref z1, .ref z3, .ref z5, .ref z7, .ref z9, .ref z11, .int 0, .ref z13, .null, .null, .int 0, .null, .null, .int 0, .int 0])), (z13, .inl (cA14, 502, .inl (fun _ => 0)))] H := hP
  have hD : va_D A [(h0, .inr (4, [.null, .int 0, .ref z1, .ref z3, .ref z5, .ref z7, .ref z9, .ref z11, .int 0, .ref z13, .null, .null, .int 0, .null, .null, .int 0, .int 0])), (z13, .inl (cA14, 502, .inl (fun _ => 0)))] := hD
  have hP := hP.sub (ws' := [(h0, .inr (4, [.null, .int 0, .ref z1, .ref z3, .ref z5, .ref z7, .ref z9, .ref z11, .int 0, .ref z13, .null, .null, .int 0, .null, .null, .int 0, .int 0]))]) [0] rfl
  have hD := hD.sub (ws' := [(h0, .inr (4, [.null, .int 0, .ref z1, .ref z3, .ref z5, .ref z7, .ref z9, .ref z11, .int 0, .ref z13, .null, .null, .int 0, .null, .null, .int 0, .int 0]))]) [0] (by decide) rfl
  have hK := hK.sub (tys' := []) [] rfl
  refine lv_aload_n hx hb dX4_init_67 rfl (lv_at hl 0 rfl) ?_
  refine lv_sipush (v := 502) hx hb dX4_init_68 (by decide) ?_
  refine va_newa (D := (dC, dI)) (atype := .int) (ty := .int) (a0 := (502, .inl (fun _ => 0))) (N' := 502) hx hb (hw _ q3) rfl hK hP hD hS hA (fun _ => rfl) (by decide) (by decide +kernel) (Nat.le_of_ble_eq_true rfl) (Nat.le_of_ble_eq_true rfl) (Nat.le_of_ble_eq_true rfl) dX4_init_71 (fun z15 cA16 H hK hP hD hS => ?_)
  have hP : va_P (dC, dI) vwCl [(h0, .inr (4, [.null, .int 0, .ref z1, .ref z3, .ref z5, .ref z7, .ref z9, .ref z11, .int 0, .ref z13, .null, .null, .int 0, .null, .null, .int 0, .int 0])), (z15, .inl (cA16, 502, .inl (fun _ => 0)))] H := hP
  have hD : va_D A [(h0, .inr (4, [.null, .int 0, .ref z1, .ref z3, .ref z5, .ref z7, .ref z9, .ref z11, .int 0, .ref z13, .null, .null, .int 0, .null, .null, .int 0, .int 0])), (z15, .inl (cA16, 502, .inl (fun _ => 0)))] := hD
  have hK : va_K (dC, dI) vwCl [(cA16, .int)] s := hK
  refine W.widen (k := 8) (n := 7530) (Nat.le_of_ble_eq_true rfl) (Nat.le_of_ble_eq_true rfl) ?_
  refine va_putF (D := (dC, dI)) (ci := 4) (v := .ref z15) (ty := .array .int) (C := RX4) (T := TX4) (N := 17) hx hb hw uX4 tyX4 tyX4_ok nmX4 hown hK hP hD hS 0 rfl rfl 10 (by decide) (hw _ q69) (fun _ h9 => h9) rfl hin rfl (by decide +kernel) rfl rfl (Nat.le_of_ble_eq_true rfl) dX4_init_73 (fun H locs hP hD hS => ?_)
  have hP : va_P (dC, dI) vwCl [(h0, .inr (4, [.null, .int 0, .ref z1, .ref z3, .ref z5, .ref z7, .ref z9, .ref z11, .int 0, .ref z13, .ref z15, .null, .int 0, .null, .null, .int 0, .int 0])), (z15, .inl (cA16, 502, .inl (fun _ => 0)))] H := hP
  have hD : va_D A [(h0, .inr (4, [.null, .int 0, .ref z1, .ref z3, .ref z5, .ref z7, .ref z9, .ref z11, .int 0, .ref z13, .ref z15, .null, .int 0, .null, .null, .int 0, .int 0])), (z15, .inl (cA16, 502, .inl (fun _ => 0)))] := hD
  have hP := hP.sub (ws' := [(h0, .inr (4, [.null, .int 0, .ref z1, .ref z3, .ref z5, .ref z7, .ref z9, .ref z11, .int 0, .ref z13, .ref z15, .null, .int 0, .null, .null, .int 0, .int 0]))]) [0] rfl
  have hD := hD.sub (ws' := [(h0, .inr (4, [.null, .int 0, .ref z1, .ref z3, .ref z5, .ref z7, .ref z9, .ref z11, .int 0, .ref z13, .ref z15, .null, .int 0, .null, .null, .int 0, .int 0]))]) [0] (by decide) rfl
  have hK := hK.sub (tys' := []) [] rfl
  refine lv_aload_n hx hb dX4_init_76 rfl (lv_at hl 0 rfl) ?_
  refine lv_sipush (v := 502) hx hb dX4_init_77 (by decide) ?_
  refine va_newa (D := (dC, dI)) (atype := .int) (ty := .int) (a0 := (502, .inl (fun _ => 0))) (N' := 502) hx hb (hw _ q3) rfl hK hP hD hS hA (fun _ => rfl) (by decide) (by decide +kernel) (Nat.le_of_ble_eq_true rfl) (Nat.le_of_ble_eq_true rfl) (Nat.le_of_ble_eq_true rfl) dX4_init_80 (fun z17 cA18 H hK hP hD hS => ?_)
  have hP : va_P (dC, dI) vwCl [(h0, .inr (4, [.null, .int 0, .ref z1, .ref z3, .ref z5, .ref z7, .ref z9, .ref z11, .int 0, .ref z13, .ref z15, .null, .int 0, .null, .null, .int 0, .int 0])), (z17, .inl (cA18, 502, .inl (fun _ => 0)))] H := hP
  have hD : va_D A [(h0, .inr (4, [.null, .int 0, .ref z1, .ref z3, .ref z5, .ref z7, .ref z9, .ref z11, .int 0, .ref z13, .ref z15, .null, .int 0, .null, .null, .int 0, .int 0])), (z17, .inl (cA18, 502, .inl (fun _ => 0)))] := hD
  have hK : va_K (dC, dI) vwCl [(cA18, .int)] s := hK
  refine W.widen (k := 9) (n := 8032) (Nat.le_of_ble_eq_true rfl) (Nat.le_of_ble_eq_true rfl) ?_
  refine va_putF (D := (dC, dI)) (ci := 4) (v := .ref z17) (ty := .array .int) (C := RX4) (T := TX4) (N := 17) hx hb hw uX4 tyX4 tyX4_ok nmX4 hown hK hP hD hS 0 rfl rfl 11 (by decide) (hw _ q70) (fun _ h9 => h9) rfl hin rfl (by decide +kernel) rfl rfl (Nat.le_of_ble_eq_true rfl) dX4_init_82 (fun H locs hP hD hS => ?_)
  have hP : va_P (dC, dI) vwCl [(h0, .inr (4, [.null, .int 0, .ref z1, .ref z3, .ref z5, .ref z7, .ref z9, .ref z11, .int 0, .ref z13, .ref z15, .ref z17, .int 0, .null, .null, .int 0, .int 0])), (z17, .inl (cA18, 502, .inl (fun _ => 0)))] H := hP
  have hD : va_D A [(h0, .inr (4, [.null, .int 0, .ref z1, .ref z3, .ref z5, .ref z7, .ref z9, .ref z11, .int 0, .ref z13, .ref z15, .ref z17, .int 0, .null, .null, .int 0, .int 0])), (z17, .inl (cA18, 502, .inl (fun _ => 0)))] := hD
  have hP := hP.sub (ws' := [(h0, .inr (4, [.null, .int 0, .ref z1, .ref z3, .ref z5, .ref z7, .ref z9, .ref z11, .int 0, .ref z13, .ref z15, .ref z17, .int 0, .null, .null, .int 0, .int 0]))]) [0] rfl
  have hD := hD.sub (ws' := [(h0, .inr (4, [.null, .int 0, .ref z1, .ref z3, .ref z5, .ref z7, .ref z9, .ref z11, .int 0, .ref z13, .ref z15, .ref z17, .int 0, .null, .null, .int 0, .int 0]))]) [0] (by decide) rfl
  have hK := hK.sub (tys' := []) [] rfl
  refine lv_aload_n hx hb dX4_init_85 rfl (lv_at hl 0 rfl) ?_
  refine va_new (D := (dC, dI)) (ci := 2) (fs := [.null, .int 0]) (C := RX2) (T := TX2) (N := 2) hx hb hw uX2 tyX2 tyX2_ok hown (hw _ q71) (hw _ q21) (hw _ q22) hK hP hD hS hA rfl (by decide +kernel) (Nat.le_of_ble_eq_true rfl) (Nat.le_of_ble_eq_true rfl) dX4_init_86 (fun z19 H hP hD hS => ?_)
  have hP : va_P (dC, dI) vwCl [(h0, .inr (4, [.null, .int 0, .ref z1, .ref z3, .ref z5, .ref z7, .ref z9, .ref z11, .int 0, .ref z13, .ref z15, .ref z17, .int 0, .null, .null, .int 0, .int 0])), (z19, .inr (2, [.null, .int 0]))] H := hP
  have hD : va_D A [(h0, .inr (4, [.null, .int 0, .ref z1, .ref z3, .ref z5, .ref z7, .ref z9, .ref z11, .int 0, .ref z13, .ref z15, .ref z17, .int 0, .null, .null, .int 0, .int 0])), (z19, .inr (2, [.null, .int 0]))] := hD
  refine W.widen (k := 10) (n := 8034) (Nat.le_of_ble_eq_true rfl) (Nat.le_of_ble_eq_true rfl) ?_
  refine lv_dup hx hb dX4_init_89 rfl ?_
  have hPc := hP.sub (ws' := [(z19, .inr (2, [.null, .int 0]))]) [1] rfl
  have hDc := hD.sub (ws' := [(z19, .inr (2, [.null, .int 0]))]) [1] (by decide) rfl
  have hKc := hK.sub (tys' := []) [] rfl
  have hFc := va_free (wc := [(z19, .inr (2, [.null, .int 0]))]) hD hS hA [1] rfl
  refine va_callv (va_runIN (As := []) (rest := [.ref z19, .ref h0]) ⟨hx, hb, hml, hown, hw⟩ (c_X2_init l dC dI _ (z19)) ⟨va_cnB 0 hw (gB q23) rfl rfl rfl (nn6 hN) (hw _ q22) (by decide +kernel) ⟨Nat.le_of_ble_eq_true rfl, Nat.le_of_ble_eq_true rfl⟩, rfl, hw _ q24⟩ ⟨cP_blind, cP_pre hPc hKc hDc hN⟩ rfl rfl hl.1 rfl (lv_room (Nat.le_of_ble_eq_true rfl)) dX4_init_90 ⟨Nat.le_of_ble_eq_true rfl, Nat.le_of_ble_eq_true rfl⟩) hS (fun q _ h => hFc q h) hFc (fun u9 t H1 locs ht hvm hw1 hB hz1 hk1 hS => ?_)
  obtain ⟨b1_21, cA1_22, hP1, hK1, hD1⟩ := hB
  rw [ht] at hP1
  have hK1 := va_K.moved hvm.symm hK1
  obtain ⟨hP, hD⟩ := va_join (wr := [(h0, .inr (4, [.null, .int 0, .ref z1, .ref z3, .ref z5, .ref z7, .ref z9, .ref z11, .int 0, .ref z13, .ref z15, .ref z17, .int 0, .null, .null, .int 0, .int 0]))]) (w1 := [(z19, .inr (2, [.ref b1_21, .int 0])), (b1_21, .inl (cA1_22, 256, .inl (fun _ => 0)))]) hP hD [1] [0] rfl rfl (by decide) (by decide) hk1 hFc hP1 hD1
  have hK := (hK.sub (tys' := []) [] rfl).app hK1
  generalize H1 = H at hP hS ⊢
  have hP : va_P (dC, dI) vwCl [(h0, .inr (4, [.null, .int 0, .ref z1, .ref z3, .ref z5, .ref z7, .ref z9, .ref z11, .int 0, .ref z13, .ref z15, .ref z17, .int 0, .null, .null, .int 0, .int 0])), (z19, .inr (2, [.ref b1_21, .int 0])), (b1_21, .inl (cA1_22, 256, .inl (fun _ => 0)))] H := hP
  have hD : va_D A [(h0, .inr (4, [.null, .int 0, .ref z1, .ref z3, .ref z5, .ref z7, .ref z9, .ref z11, .int 0, .ref z13, .ref z15, .ref z17, .int 0, .null, .null, .int 0, .int 0])), (z19, .inr (2, [.ref b1_21, .int 0])), (b1_21, .inl (cA1_22, 256, .inl (fun _ => 0)))] := hD
  have hK : va_K (dC, dI) vwCl [(cA1_22, .int)] s := hK
  refine W.widen (k := 11) (n := 8290) (Nat.le_of_ble_eq_true rfl) (Nat.le_of_ble_eq_true rfl) ?_
  refine va_putF (D := (dC, dI)) (ci := 4) (v := .ref z19) (ty := .object "RowTypes$Ints") (C := RX4) (T := TX4) (N := 17) hx hb hw uX4 tyX4 tyX4_ok nmX4 hown hK hP hD hS 0 rfl rfl 13 (by decide) (hw _ q72) (fun _ h9 => h9) rfl hin rfl (by decide +kernel) rfl rfl (Nat.le_of_ble_eq_true rfl) dX4_init_93 (fun H locs hP hD hS => ?_)
  have hP : va_P (dC, dI) vwCl [(h0, .inr (4, [.null, .int 0, .ref z1, .ref z3, .ref z5, .ref z7, .ref z9, .ref z11, .int 0, .ref z13, .ref z15, .ref z17, .int 0, .ref z19, .null, .int 0, .int 0])), (z19, .inr (2, [.ref b1_21, .int 0])), (b1_21, .inl (cA1_22, 256, .inl (fun _ => 0)))] H := hP
  have hD : va_D A [(h0, .inr (4, [.null, .int 0, .ref z1, .ref z3, .ref z5, .ref z7, .ref z9, .ref z11, .int 0, .ref z13, .ref z15, .ref z17, .int 0, .ref z19, .null, .int 0, .int 0])), (z19, .inr (2, [.ref b1_21, .int 0])), (b1_21, .inl (cA1_22, 256, .inl (fun _ => 0)))] := hD
  have hP := hP.sub (ws' := [(h0, .inr (4, [.null, .int 0, .ref z1, .ref z3, .ref z5, .ref z7, .ref z9, .ref z11, .int 0, .ref z13, .ref z15, .ref z17, .int 0, .ref z19, .null, .int 0, .int 0])), (b1_21, .inl (cA1_22, 256, .inl (fun _ => 0)))]) [0, 2] rfl
  have hD := hD.sub (ws' := [(h0, .inr (4, [.null, .int 0, .ref z1, .ref z3, .ref z5, .ref z7, .ref z9, .ref z11, .int 0, .ref z13, .ref z15, .ref z17, .int 0, .ref z19, .null, .int 0, .int 0])), (b1_21, .inl (cA1_22, 256, .inl (fun _ => 0)))]) [0, 2] (by decide) rfl
  have hK := hK.sub (tys' := [(cA1_22, .int)]) [0] rfl
  refine lv_aload_n hx hb dX4_init_96 rfl (lv_at hl 0 rfl) ?_
  refine va_new (D := (dC, dI)) (ci := 2) (fs := [.null, .int 0]) (C := RX2) (T := TX2) (N := 2) hx hb hw uX2 tyX2 tyX2_ok hown (hw _ q71) (hw _ q21) (hw _ q22) hK hP hD hS hA rfl (by decide +kernel) (Nat.le_of_ble_eq_true rfl) (Nat.le_of_ble_eq_true rfl) dX4_init_97 (fun z23 H hP hD hS => ?_)
  have hP : va_P (dC, dI) vwCl [(h0, .inr (4, [.null, .int 0, .ref z1, .ref z3, .ref z5, .ref z7, .ref z9, .ref z11, .int 0, .ref z13, .ref z15, .ref z17, .int 0, .ref z19, .null, .int 0, .int 0])), (b1_21, .inl (cA1_22, 256, .inl (fun _ => 0))), (z23, .inr (2, [.null, .int 0]))] H := hP
  have hD : va_D A [(h0, .inr (4, [.null, .int 0, .ref z1, .ref z3, .ref z5, .ref z7, .ref z9, .ref z11, .int 0, .ref z13, .ref z15, .ref z17, .int 0, .ref z19, .null, .int 0, .int 0])), (b1_21, .inl (cA1_22, 256, .inl (fun _ => 0))), (z23, .inr (2, [.null, .int 0]))] := hD
  refine W.widen (k := 12) (n := 8292) (Nat.le_of_ble_eq_true rfl) (Nat.le_of_ble_eq_true rfl) ?_
  refine lv_dup hx hb dX4_init_100 rfl ?_
  have hPc := hP.sub (ws' := [(z23, .inr (2, [.null, .int 0]))]) [2] rfl
  have hDc := hD.sub (ws' := [(z23, .inr (2, [.null, .int 0]))]) [2] (by decide) rfl
  have hKc := hK.sub (tys' := []) [] rfl
  have hFc := va_free (wc := [(z23, .inr (2, [.null, .int 0]))]) hD hS hA [2] rfl
  refine va_callv (va_runIN (As := []) (rest := [.ref z23, .ref h0]) ⟨hx, hb, hml, hown, hw⟩ (c_X2_init l dC dI _ (z23)) ⟨va_cnB 0 hw (gB q23) rfl rfl rfl (nn6 hN) (hw _ q22) (by decide +kernel) ⟨Nat.le_of_ble_eq_true rfl, Nat.le_of_ble_eq_true rfl⟩, rfl, hw _ q24⟩ ⟨cP_blind, cP_pre hPc hKc hDc hN⟩ rfl rfl hl.1 rfl (lv_room (Nat.le_of_ble_eq_true rfl)) dX4_init_101 ⟨Nat.le_of_ble_eq_true rfl, Nat.le_of_ble_eq_true rfl⟩) hS (fun q _ h => hFc q h) hFc (fun u9 t H1 locs ht hvm hw1 hB hz1 hk1 hS => ?_)
  obtain ⟨b1_25, cA1_26, hP1, hK1, hD1⟩ := hB
  rw [ht] at hP1
  have hK1 := va_K.moved hvm.symm hK1
  obtain ⟨hP, hD⟩ := va_join (wr := [(h0, .inr (4, [.null, .int 0, .ref z1, .ref z3, .ref z5, .ref z7, .ref z9, .ref z11, .int 0, .ref z13, .ref z15, .ref z17, .int 0, .ref z19, .null, .int 0, .int 0])), (b1_21, .inl (cA1_22, 256, .inl (fun _ => 0)))]) (w1 := [(z23, .inr (2, [.ref b1_25, .int 0])), (b1_25, .inl (cA1_26, 256, .inl (fun _ => 0)))]) hP hD [2] [0, 1] rfl rfl (by decide) (by decide) hk1 hFc hP1 hD1
  have hK := (hK.sub (tys' := [(cA1_22, .int)]) [0] rfl).app hK1
  generalize H1 = H at hP hS ⊢
  have hP : va_P (dC, dI) vwCl [(h0, .inr (4, [.null, .int 0, .ref z1, .ref z3, .ref z5, .ref z7, .ref z9, .ref z11, .int 0, .ref z13, .ref z15, .ref z17, .int 0, .ref z19, .null, .int 0, .int 0])), (b1_21, .inl (cA1_22, 256, .inl (fun _ => 0))), (z23, .inr (2, [.ref b1_25, .int 0])), (b1_25, .inl (cA1_26, 256, .inl (fun _ => 0)))] H := hP
  have hD : va_D A [(h0, .inr (4, [.null, .int 0, .ref z1, .ref z3, .ref z5, .ref z7, .ref z9, .ref z11, .int 0, .ref z13, .ref z15, .ref z17, .int 0, .ref z19, .null, .int 0, .int 0])), (b1_21, .inl (cA1_22, 256, .inl (fun _ => 0))), (z23, .inr (2, [.ref b1_25, .int 0])), (b1_25, .inl (cA1_26, 256, .inl (fun _ => 0)))] := hD
  have hK : va_K (dC, dI) vwCl [(cA1_22, .int), (cA1_26, .int)] s := hK
  refine W.widen (k := 13) (n := 8548) (Nat.le_of_ble_eq_true rfl) (Nat.le_of_ble_eq_true rfl) ?_
  refine va_putF (D := (dC, dI)) (ci := 4) (v := .ref z23) (ty := .object "RowTypes$Ints") (C := RX4) (T := TX4) (N := 17) hx hb hw uX4 tyX4 tyX4_ok nmX4 hown hK hP hD hS 0 rfl rfl 14 (by decide) (hw _ q73) (fun _ h9 => h9) rfl hin rfl (by decide +kernel) rfl rfl (Nat.le_of_ble_eq_true rfl) dX4_init_104 (fun H locs hP hD hS => ?_)
  have hP : va_P (dC, dI) vwCl [(h0, .inr (4, [.null, .int 0, .ref z1, .ref z3, .ref z5, .ref z7, .ref z9, .ref z11, .int 0, .ref z13, .ref z15, .ref z17, .int 0, .ref z19, .ref z23, .int 0, .int 0])), (b1_21, .inl (cA1_22, 256, .inl (fun _ => 0))), (z23, .inr (2, [.ref b1_25, .int 0])), (b1_25, .inl (cA1_26, 256, .inl (fun _ => 0)))] H := hP
  have hD : va_D A [(h0, .inr (4, [.null, .int 0, .ref z1, .ref z3, .ref z5, .ref z7, .ref z9, .ref z11, .int 0, .ref z13, .ref z15, .ref z17, .int 0, .ref z19, .ref z23, .int 0, .int 0])), (b1_21, .inl (cA1_22, 256, .inl (fun _ => 0))), (z23, .inr (2, [.ref b1_25, .int 0])), (b1_25, .inl (cA1_26, 256, .inl (fun _ => 0)))] := hD
  have hP := hP.sub (ws' := [(h0, .inr (4, [.null, .int 0, .ref z1, .ref z3, .ref z5, .ref z7, .ref z9, .ref z11, .int 0, .ref z13, .ref z15, .ref z17, .int 0, .ref z19, .ref z23, .int 0, .int 0])), (b1_21, .inl (cA1_22, 256, .inl (fun _ => 0))), (b1_25, .inl (cA1_26, 256, .inl (fun _ => 0)))]) [0, 1, 3] rfl
  have hD := hD.sub (ws' := [(h0, .inr (4, [.null, .int 0, .ref z1, .ref z3, .ref z5, .ref z7, .ref z9, .ref z11, .int 0, .ref z13, .ref z15, .ref z17, .int 0, .ref z19, .ref z23, .int 0, .int 0])), (b1_21, .inl (cA1_22, 256, .inl (fun _ => 0))), (b1_25, .inl (cA1_26, 256, .inl (fun _ => 0)))]) [0, 1, 3] (by decide) rfl
  have hK := hK.sub (tys' := [(cA1_22, .int), (cA1_26, .int)]) [0, 1] rfl
  refine lv_aload_n hx hb dX4_init_107 rfl (lv_at hl 0 rfl) ?_
  refine lv_aload_n hx hb dX4_init_108 rfl (lv_at hl 1 rfl) ?_
  refine va_putF (D := (dC, dI)) (ci := 4) (v := .ref a1) (ty := .array (.object "RowTypes$Expression")) (C := RX4) (T := TX4) (N := 17) hx hb hw uX4 tyX4 tyX4_ok nmX4 hown hK hP hD hS 0 rfl rfl 0 (by decide) (hw _ q74) (fun _ h9 => h9) rfl hin rfl (by decide +kernel) rfl rfl (Nat.le_of_ble_eq_true rfl) dX4_init_109 (fun H locs hP hD hS => ?_)
  have hP : va_P (dC, dI) vwCl [(h0, .inr (4, [.ref a1, .int 0, .ref z1, .ref z3, .ref z5, .ref z7, .ref z9, .ref z11, .int 0, .ref z13, .ref z15, .ref z17, .int 0, .ref z19, .ref z23, .int 0, .int 0])), (b1_21, .inl (cA1_22, 256, .inl (fun _ => 0))), (b1_25, .inl (cA1_26, 256, .inl (fun _ => 0)))] H := hP
  have hD : va_D A [(h0, .inr (4, [.ref a1, .int 0, .ref z1, .ref z3, .ref z5, .ref z7, .ref z9, .ref z11, .int 0, .ref z13, .ref z15, .ref z17, .int 0, .ref z19, .ref z23, .int 0, .int 0])), (b1_21, .inl (cA1_22, 256, .inl (fun _ => 0))), (b1_25, .inl (cA1_26, 256, .inl (fun _ => 0)))] := hD
  have hP9 := hP.sub (ws' := []) [] rfl
  have hD9 := hD.sub (ws' := []) [] (by decide) rfl
  have hK9 := hK.sub (tys' := []) [] rfl
  exact W.vret hx hb hr (fun t ht hW => ⟨⟨(), rfl, trivial, by rw [ht]; exact hP9, va_K.moved hW.alike hK9, hD9⟩, hS.F ht⟩) hS.2.2 dX4_init_112
set_option maxHeartbeats 4000000 in
set_option maxRecDepth 100000 in
theorem c_X8_init (l : Launch) (dC : Nat → ClassId) (dI : Nat → Nat → Nat) (sz : Nat) (h0 : Nat) : Met l yX8_init (Cond.code yX8_init cX8_init 1 none :: wp) ({ frames := 2, cells := 2, slots := 258, locals := 32 }) (cP dC dI [.ref h0] sz [(h0, .inr (8, [.null, .int 0, .int 0]))] []) (va_Qv (fun _ : Unit => True) (fun (_ : Unit) t => cB dC dI (va_A [(h0, .inr (8, [.null, .int 0, .int 0]))] sz) [] [] t) (va_A [(h0, .inr (8, [.null, .int 0, .int 0]))] sz)) 2 258 (va_A [(h0, .inr (8, [.null, .int 0, .int 0]))] sz) := by
  refine Met.ofW (cc := cX8_init) (maxL := 1) (ret := none) (by decide) rfl ?_
  intro p e s m args below meth c s₁ B hml hv
  obtain ⟨rfl, hsz, hP, hK, hD0, hN⟩ := hv
  have hx := B.exec
  have hb := B.bytes
  have hr := B.returns
  have hts := atoms_spec (ws := Cond.code yX8_init cX8_init 1 none :: wp) B.pre
  have hw : ∀ w ∈ wp, w.before _ s = true := fun w h => hts w (List.mem_cons_of_mem _ h)
  have hown : s.vm.findClass RX8 = some m.cls := findClass_of_methodNamed B.named
  have hlocks := B.notSynchronized
  have hin : meth.name = "<init>" := (name_of_methodNamed B.named B.method).1
  subst hsz
  have hD := hD0.self (sz := s.heap.size)
  generalize hAe : va_A [(h0, .inr (8, [.null, .int 0, .int 0]))] s.heap.size = A at hD ⊢
  have hA : ∀ q : Nat, s.heap.size ≤ q → A q := fun q h => by rw [← hAe]; exact Or.inr h
  have hS : va_S A s.heap s.heap [] := va_S.rf
  have hP : va_P (dC, dI) vwCl [(h0, .inr (8, [.null, .int 0, .int 0]))] s.heap := hP
  have hl := lv_entry ([.ref h0]) (n := 1) (Nat.le_of_ble_eq_true rfl)
  rw [lg_entry_eq]
  generalize (lg_sl ([.ref h0]) ++ List.replicate (1 - (lg_sl ([.ref h0])).length) Slot.unset).toArray = ls at hl ⊢
  have hl : lv_has ls 1 [(0, .ref h0)] := hl
  refine lv_aload_n hx hb dX8_init_0 rfl (lv_at hl 0 rfl) ?_
  refine W.objInit hx hb hown (hw _ q75) (hw _ q1) (hw _ q2) rfl (by rw [hml]; exact hl.1) rfl dX8_init_1 (Nat.le_of_ble_eq_true rfl) (Nat.le_of_ble_eq_true rfl) ?_
  refine W.eq (g2 := F0 m 4 ls []) rfl ?_
  refine lv_aload_n hx hb dX8_init_4 rfl (lv_at hl 0 rfl) ?_
  refine va_new (D := (dC, dI)) (ci := 2) (fs := [.null, .int 0]) (C := RX2) (T := TX2) (N := 2) hx hb hw uX2 tyX2 tyX2_ok hown (hw _ q76) (hw _ q21) (hw _ q22) hK hP hD hS hA rfl (by decide +kernel) (Nat.le_of_ble_eq_true rfl) (Nat.le_of_ble_eq_true rfl) dX8_init_5 (fun z1 H hP hD hS => ?_)
  have hP : va_P (dC, dI) vwCl [(h0, .inr (8, [.null, .int 0, .int 0])), (z1, .inr (2, [.null, .int 0]))] H := hP
  have hD : va_D A [(h0, .inr (8, [.null, .int 0, .int 0])), (z1, .inr (2, [.null, .int 0]))] := hD
  refine W.widen (k := 1) (n := 2) (Nat.le_of_ble_eq_true rfl) (Nat.le_of_ble_eq_true rfl) ?_
  refine lv_dup hx hb dX8_init_8 rfl ?_
  have hPc := hP.sub (ws' := [(z1, .inr (2, [.null, .int 0]))]) [1] rfl
  have hDc := hD.sub (ws' := [(z1, .inr (2, [.null, .int 0]))]) [1] (by decide) rfl
  have hKc := hK.sub (tys' := []) [] rfl
  have hFc := va_free (wc := [(z1, .inr (2, [.null, .int 0]))]) hD hS hA [1] rfl
  refine va_callv (va_runIN (As := []) (rest := [.ref z1, .ref h0]) ⟨hx, hb, hml, hown, hw⟩ (c_X2_init l dC dI _ (z1)) ⟨va_cnB 0 hw (gB q23) rfl rfl rfl (nn7 hN) (hw _ q22) (by decide +kernel) ⟨Nat.le_of_ble_eq_true rfl, Nat.le_of_ble_eq_true rfl⟩, rfl, hw _ q24⟩ ⟨cP_blind, cP_pre hPc hKc hDc hN⟩ rfl rfl hl.1 rfl (lv_room (Nat.le_of_ble_eq_true rfl)) dX8_init_9 ⟨Nat.le_of_ble_eq_true rfl, Nat.le_of_ble_eq_true rfl⟩) hS (fun q _ h => hFc q h) hFc (fun u9 t H1 locs ht hvm hw1 hB hz1 hk1 hS => ?_)
  obtain ⟨b1_3, cA1_4, hP1, hK1, hD1⟩ := hB
  rw [ht] at hP1
  have hK1 := va_K.moved hvm.symm hK1
  obtain ⟨hP, hD⟩ := va_join (wr := [(h0, .inr (8, [.null, .int 0, .int 0]))]) (w1 := [(z1, .inr (2, [.ref b1_3, .int 0])), (b1_3, .inl (cA1_4, 256, .inl (fun _ => 0)))]) hP hD [1] [0] rfl rfl (by decide) (by decide) hk1 hFc hP1 hD1
  have hK := (hK.sub (tys' := []) [] rfl).app hK1
  generalize H1 = H at hP hS ⊢
  have hP : va_P (dC, dI) vwCl [(h0, .inr (8, [.null, .int 0, .int 0])), (z1, .inr (2, [.ref b1_3, .int 0])), (b1_3, .inl (cA1_4, 256, .inl (fun _ => 0)))] H := hP
  have hD : va_D A [(h0, .inr (8, [.null, .int 0, .int 0])), (z1, .inr (2, [.ref b1_3, .int 0])), (b1_3, .inl (cA1_4, 256, .inl (fun _ => 0)))] := hD
  have hK : va_K (dC, dI) vwCl [(cA1_4, .int)] s := hK
  refine W.widen (k := 2) (n := 258) (Nat.le_of_ble_eq_true rfl) (Nat.le_of_ble_eq_true rfl) ?_
  refine va_putF (D := (dC, dI)) (ci := 8) (v := .ref z1) (ty := .object "RowTypes$Ints") (C := RX8) (T := TX8) (N := 3) hx hb hw uX8 tyX8 tyX8_ok nmX8 hown hK hP hD hS 0 rfl rfl 0 (by decide) (hw _ q77) (fun _ h9 => h9) rfl hin rfl (by decide +kernel) rfl rfl (Nat.le_of_ble_eq_true rfl) dX8_init_12 (fun H locs hP hD hS => ?_)
  have hP : va_P (dC, dI) vwCl [(h0, .inr (8, [.ref z1, .int 0, .int 0])), (z1, .inr (2, [.ref b1_3, .int 0])), (b1_3, .inl (cA1_4, 256, .inl (fun _ => 0)))] H := hP
  have hD : va_D A [(h0, .inr (8, [.ref z1, .int 0, .int 0])), (z1, .inr (2, [.ref b1_3, .int 0])), (b1_3, .inl (cA1_4, 256, .inl (fun _ => 0)))] := hD
  have hP := hP.sub (ws' := [(h0, .inr (8, [.ref z1, .int 0, .int 0])), (b1_3, .inl (cA1_4, 256, .inl (fun _ => 0)))]) [0, 2] rfl
  have hD := hD.sub (ws' := [(h0, .inr (8, [.ref z1, .int 0, .int 0])), (b1_3, .inl (cA1_4, 256, .inl (fun _ => 0)))]) [0, 2] (by decide) rfl
  have hK := hK.sub (tys' := [(cA1_4, .int)]) [0] rfl
  have hP9 := hP.sub (ws' := []) [] rfl
  have hD9 := hD.sub (ws' := []) [] (by decide) rfl
  have hK9 := hK.sub (tys' := []) [] rfl
  exact W.vret hx hb hr (fun t ht hW => ⟨⟨(), rfl, trivial, by rw [ht]; exact hP9, va_K.moved hW.alike hK9, hD9⟩, hS.F ht⟩) hS.2.2 dX8_init_15
set_option maxHeartbeats 4000000 in
set_option maxRecDepth 100000 in
theorem c_X7_init (l : Launch) (dC : Nat → ClassId) (dI : Nat → Nat → Nat) (sz : Nat) (h0 : Nat) : Met l yX7_init (Cond.code yX7_init cX7_init 1 none :: wp) ({ frames := 2, cells := 4, slots := 516, locals := 32 }) (cP dC dI [.ref h0] sz [(h0, .inr (7, [.null, .null, .int 0, .long 0]))] []) (va_Qv (fun _ : Unit => True) (fun (_ : Unit) t => cB dC dI (va_A [(h0, .inr (7, [.null, .null, .int 0, .long 0]))] sz) [] [] t) (va_A [(h0, .inr (7, [.null, .null, .int 0, .long 0]))] sz)) 4 516 (va_A [(h0, .inr (7, [.null, .null, .int 0, .long 0]))] sz) := by
  refine Met.ofW (cc := cX7_init) (maxL := 1) (ret := none) (by decide) rfl ?_
  intro p e s m args below meth c s₁ B hml hv
  obtain ⟨rfl, hsz, hP, hK, hD0, hN⟩ := hv
  have hx := B.exec
  have hb := B.bytes
  have hr := B.returns
  have hts := atoms_spec (ws := Cond.code yX7_init cX7_init 1 none :: wp) B.pre
  have hw : ∀ w ∈ wp, w.before _ s = true := fun w h => hts w (List.mem_cons_of_mem _ h)
  have hown : s.vm.findClass RX7 = some m.cls := findClass_of_methodNamed B.named
  have hlocks := B.notSynchronized
  have hin : meth.name = "<init>" := (name_of_methodNamed B.named B.method).1
  subst hsz
  have hD := hD0.self (sz := s.heap.size)
  generalize hAe : va_A [(h0, .inr (7, [.null, .null, .int 0, .long 0]))] s.heap.size = A at hD ⊢
  have hA : ∀ q : Nat, s.heap.size ≤ q → A q := fun q h => by rw [← hAe]; exact Or.inr h
  have hS : va_S A s.heap s.heap [] := va_S.rf
  have hP : va_P (dC, dI) vwCl [(h0, .inr (7, [.null, .null, .int 0, .long 0]))] s.heap := hP
  have hl := lv_entry ([.ref h0]) (n := 1) (Nat.le_of_ble_eq_true rfl)
  rw [lg_entry_eq]
  generalize (lg_sl ([.ref h0]) ++ List.replicate (1 - (lg_sl ([.ref h0])).length) Slot.unset).toArray = ls at hl ⊢
  have hl : lv_has ls 1 [(0, .ref h0)] := hl
  refine lv_aload_n hx hb dX7_init_0 rfl (lv_at hl 0 rfl) ?_
  refine W.objInit hx hb hown (hw _ q78) (hw _ q1) (hw _ q2) rfl (by rw [hml]; exact hl.1) rfl dX7_init_1 (Nat.le_of_ble_eq_true rfl) (Nat.le_of_ble_eq_true rfl) ?_
  refine W.eq (g2 := F0 m 4 ls []) rfl ?_
  refine lv_aload_n hx hb dX7_init_4 rfl (lv_at hl 0 rfl) ?_
  refine va_new (D := (dC, dI)) (ci := 2) (fs := [.null, .int 0]) (C := RX2) (T := TX2) (N := 2) hx hb hw uX2 tyX2 tyX2_ok hown (hw _ q79) (hw _ q21) (hw _ q22) hK hP hD hS hA rfl (by decide +kernel) (Nat.le_of_ble_eq_true rfl) (Nat.le_of_ble_eq_true rfl) dX7_init_5 (fun z1 H hP hD hS => ?_)
  have hP : va_P (dC, dI) vwCl [(h0, .inr (7, [.null, .null, .int 0, .long 0])), (z1, .inr (2, [.null, .int 0]))] H := hP
  have hD : va_D A [(h0, .inr (7, [.null, .null, .int 0, .long 0])), (z1, .inr (2, [.null, .int 0]))] := hD
  refine W.widen (k := 1) (n := 2) (Nat.le_of_ble_eq_true rfl) (Nat.le_of_ble_eq_true rfl) ?_
  refine lv_dup hx hb dX7_init_8 rfl ?_
  have hPc := hP.sub (ws' := [(z1, .inr (2, [.null, .int 0]))]) [1] rfl
  have hDc := hD.sub (ws' := [(z1, .inr (2, [.null, .int 0]))]) [1] (by decide) rfl
  have hKc := hK.sub (tys' := []) [] rfl
  have hFc := va_free (wc := [(z1, .inr (2, [.null, .int 0]))]) hD hS hA [1] rfl
  refine va_callv (va_runIN (As := []) (rest := [.ref z1, .ref h0]) ⟨hx, hb, hml, hown, hw⟩ (c_X2_init l dC dI _ (z1)) ⟨va_cnB 0 hw (gB q23) rfl rfl rfl (nn8 hN) (hw _ q22) (by decide +kernel) ⟨Nat.le_of_ble_eq_true rfl, Nat.le_of_ble_eq_true rfl⟩, rfl, hw _ q24⟩ ⟨cP_blind, cP_pre hPc hKc hDc hN⟩ rfl rfl hl.1 rfl (lv_room (Nat.le_of_ble_eq_true rfl)) dX7_init_9 ⟨Nat.le_of_ble_eq_true rfl, Nat.le_of_ble_eq_true rfl⟩) hS (fun q _ h => hFc q h) hFc (fun u9 t H1 locs ht hvm hw1 hB hz1 hk1 hS => ?_)
  obtain ⟨b1_3, cA1_4, hP1, hK1, hD1⟩ := hB
  rw [ht] at hP1
  have hK1 := va_K.moved hvm.symm hK1
  obtain ⟨hP, hD⟩ := va_join (wr := [(h0, .inr (7, [.null, .null, .int 0, .long 0]))]) (w1 := [(z1, .inr (2, [.ref b1_3, .int 0])), (b1_3, .inl (cA1_4, 256, .inl (fun _ => 0)))]) hP hD [1] [0] rfl rfl (by decide) (by decide) hk1 hFc hP1 hD1
  have hK := (hK.sub (tys' := []) [] rfl).app hK1
  generalize H1 = H at hP hS ⊢
  have hP : va_P (dC, dI) vwCl [(h0, .inr (7, [.null, .null, .int 0, .long 0])), (z1, .inr (2, [.ref b1_3, .int 0])), (b1_3, .inl (cA1_4, 256, .inl (fun _ => 0)))] H := hP
  have hD : va_D A [(h0, .inr (7, [.null, .null, .int 0, .long 0])), (z1, .inr (2, [.ref b1_3, .int 0])), (b1_3, .inl (cA1_4, 256, .inl (fun _ => 0)))] := hD
  have hK : va_K (dC, dI) vwCl [(cA1_4, .int)] s := hK
  refine W.widen (k := 2) (n := 258) (Nat.le_of_ble_eq_true rfl) (Nat.le_of_ble_eq_true rfl) ?_
  refine va_putF (D := (dC, dI)) (ci := 7) (v := .ref z1) (ty := .object "RowTypes$Ints") (C := RX7) (T := TX7) (N := 4) hx hb hw uX7 tyX7 tyX7_ok nmX7 hown hK hP hD hS 0 rfl rfl 0 (by decide) (hw _ q80) (fun _ h9 => h9) rfl hin rfl (by decide +kernel) rfl rfl (Nat.le_of_ble_eq_true rfl) dX7_init_12 (fun H locs hP hD hS => ?_)
  have hP : va_P (dC, dI) vwCl [(h0, .inr (7, [.ref z1, .null, .int 0, .long 0])), (z1, .inr (2, [.ref b1_3, .int 0])), (b1_3, .inl (cA1_4, 256, .inl (fun _ => 0)))] H := hP
  have hD : va_D A [(h0, .inr (7, [.ref z1, .null, .int 0, .long 0])), (z1, .inr (2, [.ref b1_3, .int 0])), (b1_3, .inl (cA1_4, 256, .inl (fun _ => 0)))] := hD
  have hP := hP.sub (ws' := [(h0, .inr (7, [.ref z1, .null, .int 0, .long 0])), (b1_3, .inl (cA1_4, 256, .inl (fun _ => 0)))]) [0, 2] rfl
  have hD := hD.sub (ws' := [(h0, .inr (7, [.ref z1, .null, .int 0, .long 0])), (b1_3, .inl (cA1_4, 256, .inl (fun _ => 0)))]) [0, 2] (by decide) rfl
  have hK := hK.sub (tys' := [(cA1_4, .int)]) [0] rfl
  refine lv_aload_n hx hb dX7_init_15 rfl (lv_at hl 0 rfl) ?_
  refine va_new (D := (dC, dI)) (ci := 2) (fs := [.null, .int 0]) (C := RX2) (T := TX2) (N := 2) hx hb hw uX2 tyX2 tyX2_ok hown (hw _ q79) (hw _ q21) (hw _ q22) hK hP hD hS hA rfl (by decide +kernel) (Nat.le_of_ble_eq_true rfl) (Nat.le_of_ble_eq_true rfl) dX7_init_16 (fun z5 H hP hD hS => ?_)
  have hP : va_P (dC, dI) vwCl [(h0, .inr (7, [.ref z1, .null, .int 0, .long 0])), (b1_3, .inl (cA1_4, 256, .inl (fun _ => 0))), (z5, .inr (2, [.null, .int 0]))] H := hP
  have hD : va_D A [(h0, .inr (7, [.ref z1, .null, .int 0, .long 0])), (b1_3, .inl (cA1_4, 256, .inl (fun _ => 0))), (z5, .inr (2, [.null, .int 0]))] := hD
  refine W.widen (k := 3) (n := 260) (Nat.le_of_ble_eq_true rfl) (Nat.le_of_ble_eq_true rfl) ?_
  refine lv_dup hx hb dX7_init_19 rfl ?_
  have hPc := hP.sub (ws' := [(z5, .inr (2, [.null, .int 0]))]) [2] rfl
  have hDc := hD.sub (ws' := [(z5, .inr (2, [.null, .int 0]))]) [2] (by decide) rfl
  have hKc := hK.sub (tys' := []) [] rfl
  have hFc := va_free (wc := [(z5, .inr (2, [.null, .int 0]))]) hD hS hA [2] rfl
  refine va_callv (va_runIN (As := []) (rest := [.ref z5, .ref h0]) ⟨hx, hb, hml, hown, hw⟩ (c_X2_init l dC dI _ (z5)) ⟨va_cnB 0 hw (gB q23) rfl rfl rfl (nn8 hN) (hw _ q22) (by decide +kernel) ⟨Nat.le_of_ble_eq_true rfl, Nat.le_of_ble_eq_true rfl⟩, rfl, hw _ q24⟩ ⟨cP_blind, cP_pre hPc hKc hDc hN⟩ rfl rfl hl.1 rfl (lv_room (Nat.le_of_ble_eq_true rfl)) dX7_init_20 ⟨Nat.le_of_ble_eq_true rfl, Nat.le_of_ble_eq_true rfl⟩) hS (fun q _ h => hFc q h) hFc (fun u9 t H1 locs ht hvm hw1 hB hz1 hk1 hS => ?_)
  obtain ⟨b1_7, cA1_8, hP1, hK1, hD1⟩ := hB
  rw [ht] at hP1
  have hK1 := va_K.moved hvm.symm hK1
  obtain ⟨hP, hD⟩ := va_join (wr := [(h0, .inr (7, [.ref z1, .null, .int 0, .long 0])), (b1_3, .inl (cA1_4, 256, .inl (fun _ => 0)))]) (w1 := [(z5, .inr (2, [.ref b1_7, .int 0])), (b1_7, .inl (cA1_8, 256, .inl (fun _ => 0)))]) hP hD [2] [0, 1] rfl rfl (by decide) (by decide) hk1 hFc hP1 hD1
  have hK := (hK.sub (tys' := [(cA1_4, .int)]) [0] rfl).app hK1
  generalize H1 = H at hP hS ⊢
  have hP : va_P (dC, dI) vwCl [(h0, .inr (7, [.ref z1, .null, .int 0, .long 0])), (b1_3, .inl (cA1_4, 256, .inl (fun _ => 0))), (z5, .inr (2, [.ref b1_7, .int 0])), (b1_7, .inl (cA1_8, 256, .inl (fun _ => 0)))] H := hP
  have hD : va_D A [(h0, .inr (7, [.ref z1, .null, .int 0, .long 0])), (b1_3, .inl (cA1_4, 256, .inl (fun _ => 0))), (z5, .inr (2, [.ref b1_7, .int 0])), (b1_7, .inl (cA1_8, 256, .inl (fun _ => 0)))] := hD
  have hK : va_K (dC, dI) vwCl [(cA1_4, .int), (cA1_8, .int)] s := hK
  refine W.widen (k := 4) (n := 516) (Nat.le_of_ble_eq_true rfl) (Nat.le_of_ble_eq_true rfl) ?_
  refine va_putF (D := (dC, dI)) (ci := 7) (v := .ref z5) (ty := .object "RowTypes$Ints") (C := RX7) (T := TX7) (N := 4) hx hb hw uX7 tyX7 tyX7_ok nmX7 hown hK hP hD hS 0 rfl rfl 1 (by decide) (hw _ q81) (fun _ h9 => h9) rfl hin rfl (by decide +kernel) rfl rfl (Nat.le_of_ble_eq_true rfl) dX7_init_23 (fun H locs hP hD hS => ?_)
  have hP : va_P (dC, dI) vwCl [(h0, .inr (7, [.ref z1, .ref z5, .int 0, .long 0])), (b1_3, .inl (cA1_4, 256, .inl (fun _ => 0))), (z5, .inr (2, [.ref b1_7, .int 0])), (b1_7, .inl (cA1_8, 256, .inl (fun _ => 0)))] H := hP
  have hD : va_D A [(h0, .inr (7, [.ref z1, .ref z5, .int 0, .long 0])), (b1_3, .inl (cA1_4, 256, .inl (fun _ => 0))), (z5, .inr (2, [.ref b1_7, .int 0])), (b1_7, .inl (cA1_8, 256, .inl (fun _ => 0)))] := hD
  have hP := hP.sub (ws' := [(h0, .inr (7, [.ref z1, .ref z5, .int 0, .long 0])), (b1_3, .inl (cA1_4, 256, .inl (fun _ => 0))), (b1_7, .inl (cA1_8, 256, .inl (fun _ => 0)))]) [0, 1, 3] rfl
  have hD := hD.sub (ws' := [(h0, .inr (7, [.ref z1, .ref z5, .int 0, .long 0])), (b1_3, .inl (cA1_4, 256, .inl (fun _ => 0))), (b1_7, .inl (cA1_8, 256, .inl (fun _ => 0)))]) [0, 1, 3] (by decide) rfl
  have hK := hK.sub (tys' := [(cA1_4, .int), (cA1_8, .int)]) [0, 1] rfl
  have hP9 := hP.sub (ws' := []) [] rfl
  have hD9 := hD.sub (ws' := []) [] (by decide) rfl
  have hK9 := hK.sub (tys' := []) [] rfl
  exact W.vret hx hb hr (fun t ht hW => ⟨⟨(), rfl, trivial, by rw [ht]; exact hP9, va_K.moved hW.alike hK9, hD9⟩, hS.F ht⟩) hS.2.2 dX7_init_26
