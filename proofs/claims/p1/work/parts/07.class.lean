set_option maxHeartbeats 4000000 in
set_option maxRecDepth 100000 in
theorem c_X11_textOf (l : Launch) (dC : Nat → ClassId) (dI : Nat → Nat → Nat) (sz : Nat) (h0 : Nat) (b1 : Nat) (b2 : Nat) (b3 : Nat) (b4 : Nat) (b5 : Nat) (b6 : Nat) (b7 : Nat) (b8 : Nat) (b9 : Nat) (b10 : Nat) (b11 : Nat) (b12 : Nat) (b13 : Nat) (p0 : Int32) : Met l yX11_textOf (Cond.code yX11_textOf cX11_textOf 2 (some .int) :: wp) ({ frames := 0, cells := 0, slots := 0, locals := 0 }) (cP dC dI [.ref h0, .int p0] sz [(h0, .inr (11, [.ref b1, .int 0, .ref b2, .int 0, .int 0, .ref b3, .ref b4, .int 0, .ref b5, .int 0, .int 9, .ref b6, .ref b7, .ref b8, .ref b9, .ref b10, .ref b11, .ref b12, .ref b13]))] []) (va_Qi (fun (r : Int32) (_ : Unit) => r = -1) (fun (_ : Unit) t => cB dC dI (va_A [(h0, .inr (11, [.ref b1, .int 0, .ref b2, .int 0, .int 0, .ref b3, .ref b4, .int 0, .ref b5, .int 0, .int 9, .ref b6, .ref b7, .ref b8, .ref b9, .ref b10, .ref b11, .ref b12, .ref b13]))] sz) [(h0, .inr (11, [.ref b1, .int 0, .ref b2, .int 0, .int 0, .ref b3, .ref b4, .int 0, .ref b5, .int 0, .int 9, .ref b6, .ref b7, .ref b8, .ref b9, .ref b10, .ref b11, .ref b12, .ref b13]))] [] t) (va_A [(h0, .inr (11, [.ref b1, .int 0, .ref b2, .int 0, .int 0, .ref b3, .ref b4, .int 0, .ref b5, .int 0, .int 9, .ref b6, .ref b7, .ref b8, .ref b9, .ref b10, .ref b11, .ref b12, .ref b13]))] sz)) 0 0 (va_A [(h0, .inr (11, [.ref b1, .int 0, .ref b2, .int 0, .int 0, .ref b3, .ref b4, .int 0, .ref b5, .int 0, .int 9, .ref b6, .ref b7, .ref b8, .ref b9, .ref b10, .ref b11, .ref b12, .ref b13]))] sz) := by
  refine Met.ofW (cc := cX11_textOf) (maxL := 2) (ret := (some .int)) (by decide) rfl ?_
  intro p e s m args below meth c s₁ B hml hv
  obtain ⟨rfl, hsz, hP, hK, hD0, hN⟩ := hv
  have hx := B.exec
  have hb := B.bytes
  have hr := B.returns
  have hts := atoms_spec (ws := Cond.code yX11_textOf cX11_textOf 2 (some .int) :: wp) B.pre
  have hw : ∀ w ∈ wp, w.before _ s = true := fun w h => hts w (List.mem_cons_of_mem _ h)
  have hown : s.vm.findClass RX11 = some m.cls := findClass_of_methodNamed B.named
  have hlocks := B.notSynchronized
  subst hsz
  have hD := hD0.self (sz := s.heap.size)
  generalize hAe : va_A [(h0, .inr (11, [.ref b1, .int 0, .ref b2, .int 0, .int 0, .ref b3, .ref b4, .int 0, .ref b5, .int 0, .int 9, .ref b6, .ref b7, .ref b8, .ref b9, .ref b10, .ref b11, .ref b12, .ref b13]))] s.heap.size = A at hD ⊢
  have hA : ∀ q : Nat, s.heap.size ≤ q → A q := fun q h => by rw [← hAe]; exact Or.inr h
  have hS : va_S A s.heap s.heap [] := va_S.rf
  have hP : va_P (dC, dI) vwCl [(h0, .inr (11, [.ref b1, .int 0, .ref b2, .int 0, .int 0, .ref b3, .ref b4, .int 0, .ref b5, .int 0, .int 9, .ref b6, .ref b7, .ref b8, .ref b9, .ref b10, .ref b11, .ref b12, .ref b13]))] s.heap := hP
  have hl := lv_entry ([.ref h0, .int p0]) (n := 2) (Nat.le_of_ble_eq_true rfl)
  rw [lg_entry_eq]
  generalize (lg_sl ([.ref h0, .int p0]) ++ List.replicate (2 - (lg_sl ([.ref h0, .int p0])).length) Slot.unset).toArray = ls at hl ⊢
  have hl : lv_has ls 2 [(0, .ref h0), (1, .int p0)] := hl
  refine lv_iload_n hx hb dX11_textOf_0 rfl (lv_at hl 1 rfl) ?_
  refine lv_iconst (v := (-1)) hx hb dX11_textOf_1 (by decide) ?_
  refine lv_icmp_ne (tgt := 19) hx hb dX11_textOf_2 (by decide) (fun c1 => ?_) (fun c1 => ?_)
  · refine lv_iload_n hx hb dX11_textOf_19 rfl (lv_at hl 1 rfl) ?_
    refine lv_if_lt (tgt := 41) hx hb dX11_textOf_20 (by decide) (fun c2 => ?_) (fun c2 => ?_)
    · refine lv_iconst (v := (-1)) hx hb dX11_textOf_41 (by decide) ?_
      have hP9 := hP.sub (ws' := [(h0, .inr (11, [.ref b1, .int 0, .ref b2, .int 0, .int 0, .ref b3, .ref b4, .int 0, .ref b5, .int 0, .int 9, .ref b6, .ref b7, .ref b8, .ref b9, .ref b10, .ref b11, .ref b12, .ref b13]))]) [0] rfl
      have hD9 := hD.sub (ws' := [(h0, .inr (11, [.ref b1, .int 0, .ref b2, .int 0, .int 0, .ref b3, .ref b4, .int 0, .ref b5, .int 0, .int 9, .ref b6, .ref b7, .ref b8, .ref b9, .ref b10, .ref b11, .ref b12, .ref b13]))]) [0] (by decide) rfl
      have hK9 := hK.sub (tys' := []) [] rfl
      exact W.iret (v := (-1)) hx hb hr (fun t ht hW => ⟨⟨(-1), (), rfl, rfl, by rw [ht]; exact hP9, va_K.moved hW.alike hK9, hD9⟩, hS.F ht⟩) hS.2.2 dX11_textOf_42
    · refine lv_iload_n hx hb dX11_textOf_23 rfl (lv_at hl 1 rfl) ?_
      refine lv_aload_n hx hb dX11_textOf_24 rfl (lv_at hl 0 rfl) ?_
      refine va_get (D := (dC, dI)) (ci := 11) (v := .int 0) (C := RX11) (T := TX11) (N := 19) hx hb hw uX11 hown hK hP 0 rfl rfl 3 (by decide) (hw _ q147) (fun _ h9 => h9) rfl dX11_textOf_25 ?_
      refine lv_icmp_ge (tgt := 41) hx hb dX11_textOf_28 (by decide) (fun kc3 => ?_) (fun c3 => False.elim (zz1 c2 c3))
      refine lv_iconst (v := (-1)) hx hb dX11_textOf_41 (by decide) ?_
      have hP9 := hP.sub (ws' := [(h0, .inr (11, [.ref b1, .int 0, .ref b2, .int 0, .int 0, .ref b3, .ref b4, .int 0, .ref b5, .int 0, .int 9, .ref b6, .ref b7, .ref b8, .ref b9, .ref b10, .ref b11, .ref b12, .ref b13]))]) [0] rfl
      have hD9 := hD.sub (ws' := [(h0, .inr (11, [.ref b1, .int 0, .ref b2, .int 0, .int 0, .ref b3, .ref b4, .int 0, .ref b5, .int 0, .int 9, .ref b6, .ref b7, .ref b8, .ref b9, .ref b10, .ref b11, .ref b12, .ref b13]))]) [0] (by decide) rfl
      have hK9 := hK.sub (tys' := []) [] rfl
      exact W.iret (v := (-1)) hx hb hr (fun t ht hW => ⟨⟨(-1), (), rfl, rfl, by rw [ht]; exact hP9, va_K.moved hW.alike hK9, hD9⟩, hS.F ht⟩) hS.2.2 dX11_textOf_42
  · refine lv_aload_n hx hb dX11_textOf_5 rfl (lv_at hl 0 rfl) ?_
    refine va_get (D := (dC, dI)) (ci := 11) (v := .int 0) (C := RX11) (T := TX11) (N := 19) hx hb hw uX11 hown hK hP 0 rfl rfl 4 (by decide) (hw _ q148) (fun _ h9 => h9) rfl dX11_textOf_6 ?_
    refine lv_if_eq (tgt := 17) hx hb dX11_textOf_9 (by decide) (fun _ => ?_) (fun c9 => absurd c9 (by decide))
    refine lv_iconst (v := (-1)) hx hb dX11_textOf_17 (by decide) ?_
    have hP9 := hP.sub (ws' := [(h0, .inr (11, [.ref b1, .int 0, .ref b2, .int 0, .int 0, .ref b3, .ref b4, .int 0, .ref b5, .int 0, .int 9, .ref b6, .ref b7, .ref b8, .ref b9, .ref b10, .ref b11, .ref b12, .ref b13]))]) [0] rfl
    have hD9 := hD.sub (ws' := [(h0, .inr (11, [.ref b1, .int 0, .ref b2, .int 0, .int 0, .ref b3, .ref b4, .int 0, .ref b5, .int 0, .int 9, .ref b6, .ref b7, .ref b8, .ref b9, .ref b10, .ref b11, .ref b12, .ref b13]))]) [0] (by decide) rfl
    have hK9 := hK.sub (tys' := []) [] rfl
    exact W.iret (v := (-1)) hx hb hr (fun t ht hW => ⟨⟨(-1), (), rfl, rfl, by rw [ht]; exact hP9, va_K.moved hW.alike hK9, hD9⟩, hS.F ht⟩) hS.2.2 dX11_textOf_18
set_option maxHeartbeats 4000000 in
set_option maxRecDepth 100000 in
theorem c_X11_keptOf (l : Launch) (dC : Nat → ClassId) (dI : Nat → Nat → Nat) (sz : Nat) (h0 : Nat) (b1 : Nat) (b2 : Nat) (b3 : Nat) (b4 : Nat) (b5 : Nat) (b6 : Nat) (b7 : Nat) (b8 : Nat) (b9 : Nat) (b10 : Nat) (b11 : Nat) (b12 : Nat) (b13 : Nat) (p0 : Int32) : Met l yX11_keptOf (Cond.code yX11_keptOf cX11_keptOf 3 (some (.object "RowTypes$Kept")) :: wp) ({ frames := 1, cells := 0, slots := 0, locals := 21 }) (cP dC dI [.ref h0, .int p0] sz [(h0, .inr (11, [.ref b1, .int 0, .ref b2, .int 0, .int 0, .ref b3, .ref b4, .int 0, .ref b5, .int 0, .int 9, .ref b6, .ref b7, .ref b8, .ref b9, .ref b10, .ref b11, .ref b12, .ref b13]))] []) (va_Qq (fun (r : Option Nat) (_ : Unit) => r = none) (fun (_ : Unit) t => cB dC dI (va_A [(h0, .inr (11, [.ref b1, .int 0, .ref b2, .int 0, .int 0, .ref b3, .ref b4, .int 0, .ref b5, .int 0, .int 9, .ref b6, .ref b7, .ref b8, .ref b9, .ref b10, .ref b11, .ref b12, .ref b13]))] sz) [(h0, .inr (11, [.ref b1, .int 0, .ref b2, .int 0, .int 0, .ref b3, .ref b4, .int 0, .ref b5, .int 0, .int 9, .ref b6, .ref b7, .ref b8, .ref b9, .ref b10, .ref b11, .ref b12, .ref b13]))] [] t) (va_A [(h0, .inr (11, [.ref b1, .int 0, .ref b2, .int 0, .int 0, .ref b3, .ref b4, .int 0, .ref b5, .int 0, .int 9, .ref b6, .ref b7, .ref b8, .ref b9, .ref b10, .ref b11, .ref b12, .ref b13]))] sz)) 0 0 (va_A [(h0, .inr (11, [.ref b1, .int 0, .ref b2, .int 0, .int 0, .ref b3, .ref b4, .int 0, .ref b5, .int 0, .int 9, .ref b6, .ref b7, .ref b8, .ref b9, .ref b10, .ref b11, .ref b12, .ref b13]))] sz) := by
  refine Met.ofW (cc := cX11_keptOf) (maxL := 3) (ret := (some (.object "RowTypes$Kept"))) (by decide) rfl ?_
  intro p e s m args below meth c s₁ B hml hv
  obtain ⟨rfl, hsz, hP, hK, hD0, hN⟩ := hv
  have hx := B.exec
  have hb := B.bytes
  have hr := B.returns
  have hts := atoms_spec (ws := Cond.code yX11_keptOf cX11_keptOf 3 (some (.object "RowTypes$Kept")) :: wp) B.pre
  have hw : ∀ w ∈ wp, w.before _ s = true := fun w h => hts w (List.mem_cons_of_mem _ h)
  have hown : s.vm.findClass RX11 = some m.cls := findClass_of_methodNamed B.named
  have hlocks := B.notSynchronized
  subst hsz
  have hD := hD0.self (sz := s.heap.size)
  generalize hAe : va_A [(h0, .inr (11, [.ref b1, .int 0, .ref b2, .int 0, .int 0, .ref b3, .ref b4, .int 0, .ref b5, .int 0, .int 9, .ref b6, .ref b7, .ref b8, .ref b9, .ref b10, .ref b11, .ref b12, .ref b13]))] s.heap.size = A at hD ⊢
  have hA : ∀ q : Nat, s.heap.size ≤ q → A q := fun q h => by rw [← hAe]; exact Or.inr h
  have hS : va_S A s.heap s.heap [] := va_S.rf
  have hP : va_P (dC, dI) vwCl [(h0, .inr (11, [.ref b1, .int 0, .ref b2, .int 0, .int 0, .ref b3, .ref b4, .int 0, .ref b5, .int 0, .int 9, .ref b6, .ref b7, .ref b8, .ref b9, .ref b10, .ref b11, .ref b12, .ref b13]))] s.heap := hP
  have hl := lv_entry ([.ref h0, .int p0]) (n := 3) (Nat.le_of_ble_eq_true rfl)
  rw [lg_entry_eq]
  generalize (lg_sl ([.ref h0, .int p0]) ++ List.replicate (3 - (lg_sl ([.ref h0, .int p0])).length) Slot.unset).toArray = ls at hl ⊢
  have hl : lv_has ls 3 [(0, .ref h0), (1, .int p0)] := hl
  refine lv_iload_n hx hb dX11_keptOf_0 rfl (lv_at hl 1 rfl) ?_
  refine lv_bipush (v := (-2)) hx hb dX11_keptOf_1 (by decide) ?_
  refine lv_icmp_ne (tgt := 22) hx hb dX11_keptOf_3 (by decide) (fun c1 => ?_) (fun c1 => ?_)
  · refine lv_aload_n hx hb dX11_keptOf_22 rfl (lv_at hl 0 rfl) ?_
    refine lv_iload_n hx hb dX11_keptOf_23 rfl (lv_at hl 1 rfl) ?_
    have hPc := hP.sub (ws' := [(h0, .inr (11, [.ref b1, .int 0, .ref b2, .int 0, .int 0, .ref b3, .ref b4, .int 0, .ref b5, .int 0, .int 9, .ref b6, .ref b7, .ref b8, .ref b9, .ref b10, .ref b11, .ref b12, .ref b13]))]) [0] rfl
    have hDc := hD.sub (ws' := [(h0, .inr (11, [.ref b1, .int 0, .ref b2, .int 0, .int 0, .ref b3, .ref b4, .int 0, .ref b5, .int 0, .int 9, .ref b6, .ref b7, .ref b8, .ref b9, .ref b10, .ref b11, .ref b12, .ref b13]))]) [0] (by decide) rfl
    have hKc := hK.sub (tys' := []) [] rfl
    have hFc := va_free (wc := [(h0, .inr (11, [.ref b1, .int 0, .ref b2, .int 0, .int 0, .ref b3, .ref b4, .int 0, .ref b5, .int 0, .int 9, .ref b6, .ref b7, .ref b8, .ref b9, .ref b10, .ref b11, .ref b12, .ref b13]))]) hD hS hA [0] rfl
    refine va_calli (va_runV (As := [.int p0]) (rest := []) ⟨hx, hb, hml, hown, hw⟩ (c_X11_textOf l dC dI _ (h0) (b1) (b2) (b3) (b4) (b5) (b6) (b7) (b8) (b9) (b10) (b11) (b12) (b13) (p0)) (cwV 1 hw (gV q150 q151 q152 q153 q149) rfl rfl rfl (by decide +kernel) ⟨Nat.le_of_ble_eq_true rfl, Nat.le_of_ble_eq_true rfl⟩) ⟨cP_blind, va_recv hKc hPc (ci := 11) (q0 := 0) rfl rfl, cP_pre hPc hKc hDc hN⟩ rfl rfl hl.1 rfl (lv_room (Nat.le_of_ble_eq_true rfl)) dX11_keptOf_24 ⟨Nat.le_of_ble_eq_true rfl, Nat.le_of_ble_eq_true rfl⟩) hS (fun q _ h => hFc q h) hFc (fun r2 u9 t H1 locs ht hvm hw1 hB hz1 hk1 hS => ?_)
    obtain ⟨hP1, hK1, hD1⟩ := hB
    rw [ht] at hP1
    have hK1 := va_K.moved hvm.symm hK1
    obtain ⟨hP, hD⟩ := va_join (wr := []) (w1 := [(h0, .inr (11, [.ref b1, .int 0, .ref b2, .int 0, .int 0, .ref b3, .ref b4, .int 0, .ref b5, .int 0, .int 9, .ref b6, .ref b7, .ref b8, .ref b9, .ref b10, .ref b11, .ref b12, .ref b13]))]) hP hD [0] [] rfl rfl (by decide) (by decide) hk1 hFc hP1 hD1
    have hK := (hK.sub (tys' := []) [] rfl).app hK1
    generalize H1 = H at hP hS ⊢
    have hP : va_P (dC, dI) vwCl [(h0, .inr (11, [.ref b1, .int 0, .ref b2, .int 0, .int 0, .ref b3, .ref b4, .int 0, .ref b5, .int 0, .int 9, .ref b6, .ref b7, .ref b8, .ref b9, .ref b10, .ref b11, .ref b12, .ref b13]))] H := hP
    have hD : va_D A [(h0, .inr (11, [.ref b1, .int 0, .ref b2, .int 0, .int 0, .ref b3, .ref b4, .int 0, .ref b5, .int 0, .int 9, .ref b6, .ref b7, .ref b8, .ref b9, .ref b10, .ref b11, .ref b12, .ref b13]))] := hD
    have hK : va_K (dC, dI) vwCl [] s := hK
    subst hw1
    refine lv_istore_n (lv' := [(2, .int (-1)), (0, .ref h0), (1, .int p0)]) hx hb dX11_keptOf_27 rfl hl (by decide) rfl (fun ls hl => ?_)
    refine lv_iload_n hx hb dX11_keptOf_28 rfl (lv_at hl 0 rfl) ?_
    refine lv_iconst (v := (-1)) hx hb dX11_keptOf_29 (by decide) ?_
    refine lv_icmp_ne (tgt := 37) hx hb dX11_keptOf_30 (by decide) (fun c9 => absurd c9 (by decide)) (fun _ => ?_)
    refine lv_null hx hb dX11_keptOf_33 ?_
    refine lv_goto (tgt := 46) hx hb dX11_keptOf_34 (by decide) ?_
    have hP9 := hP.sub (ws' := [(h0, .inr (11, [.ref b1, .int 0, .ref b2, .int 0, .int 0, .ref b3, .ref b4, .int 0, .ref b5, .int 0, .int 9, .ref b6, .ref b7, .ref b8, .ref b9, .ref b10, .ref b11, .ref b12, .ref b13]))]) [0] rfl
    have hD9 := hD.sub (ws' := [(h0, .inr (11, [.ref b1, .int 0, .ref b2, .int 0, .int 0, .ref b3, .ref b4, .int 0, .ref b5, .int 0, .int 9, .ref b6, .ref b7, .ref b8, .ref b9, .ref b10, .ref b11, .ref b12, .ref b13]))]) [0] (by decide) rfl
    have hK9 := hK.sub (tys' := []) [] rfl
    exact W.aret (v := .null) hx hb hr (Or.inl ⟨_, rfl⟩) (Or.inl rfl) (fun t ht hW => ⟨⟨none, (), rfl, rfl, by rw [ht]; exact hP9, va_K.moved hW.alike hK9, hD9⟩, hS.F ht⟩) hS.2.2 dX11_keptOf_46
  · refine lv_aload_n hx hb dX11_keptOf_6 rfl (lv_at hl 0 rfl) ?_
    refine va_get (D := (dC, dI)) (ci := 11) (v := .int 0) (C := RX11) (T := TX11) (N := 19) hx hb hw uX11 hown hK hP 0 rfl rfl 7 (by decide) (hw _ q154) (fun _ h9 => h9) rfl dX11_keptOf_7 ?_
    refine lv_if_eq (tgt := 20) hx hb dX11_keptOf_10 (by decide) (fun _ => ?_) (fun c9 => absurd c9 (by decide))
    refine lv_null hx hb dX11_keptOf_20 ?_
    have hP9 := hP.sub (ws' := [(h0, .inr (11, [.ref b1, .int 0, .ref b2, .int 0, .int 0, .ref b3, .ref b4, .int 0, .ref b5, .int 0, .int 9, .ref b6, .ref b7, .ref b8, .ref b9, .ref b10, .ref b11, .ref b12, .ref b13]))]) [0] rfl
    have hD9 := hD.sub (ws' := [(h0, .inr (11, [.ref b1, .int 0, .ref b2, .int 0, .int 0, .ref b3, .ref b4, .int 0, .ref b5, .int 0, .int 9, .ref b6, .ref b7, .ref b8, .ref b9, .ref b10, .ref b11, .ref b12, .ref b13]))]) [0] (by decide) rfl
    have hK9 := hK.sub (tys' := []) [] rfl
    exact W.aret (v := .null) hx hb hr (Or.inl ⟨_, rfl⟩) (Or.inl rfl) (fun t ht hW => ⟨⟨none, (), rfl, rfl, by rw [ht]; exact hP9, va_K.moved hW.alike hK9, hD9⟩, hS.F ht⟩) hS.2.2 dX11_keptOf_21
set_option maxHeartbeats 4000000 in
set_option maxRecDepth 100000 in
theorem c_X11_size (l : Launch) (dC : Nat → ClassId) (dI : Nat → Nat → Nat) (sz : Nat) (h0 : Nat) (b1 : Nat) (b2 : Nat) (b3 : Nat) (b4 : Nat) (b5 : Nat) (b6 : Nat) (b7 : Nat) (b8 : Nat) (b9 : Nat) (b10 : Nat) (b11 : Nat) (b12 : Nat) (b13 : Nat) (p0 : Int32) : Met l yX11_size (Cond.code yX11_size cX11_size 3 (some .int) :: wp) ({ frames := 2, cells := 0, slots := 0, locals := 43 }) (cP dC dI [.ref h0, .int p0] sz [(h0, .inr (11, [.ref b1, .int 0, .ref b2, .int 0, .int 0, .ref b3, .ref b4, .int 0, .ref b5, .int 0, .int 9, .ref b6, .ref b7, .ref b8, .ref b9, .ref b10, .ref b11, .ref b12, .ref b13]))] []) (va_Qi (fun (r : Int32) (_ : Unit) => r = -1) (fun (_ : Unit) t => cB dC dI (va_A [(h0, .inr (11, [.ref b1, .int 0, .ref b2, .int 0, .int 0, .ref b3, .ref b4, .int 0, .ref b5, .int 0, .int 9, .ref b6, .ref b7, .ref b8, .ref b9, .ref b10, .ref b11, .ref b12, .ref b13]))] sz) [] [] t) (va_A [(h0, .inr (11, [.ref b1, .int 0, .ref b2, .int 0, .int 0, .ref b3, .ref b4, .int 0, .ref b5, .int 0, .int 9, .ref b6, .ref b7, .ref b8, .ref b9, .ref b10, .ref b11, .ref b12, .ref b13]))] sz)) 0 0 (va_A [(h0, .inr (11, [.ref b1, .int 0, .ref b2, .int 0, .int 0, .ref b3, .ref b4, .int 0, .ref b5, .int 0, .int 9, .ref b6, .ref b7, .ref b8, .ref b9, .ref b10, .ref b11, .ref b12, .ref b13]))] sz) := by
  refine Met.ofW (cc := cX11_size) (maxL := 3) (ret := (some .int)) (by decide) rfl ?_
  intro p e s m args below meth c s₁ B hml hv
  obtain ⟨rfl, hsz, hP, hK, hD0, hN⟩ := hv
  have hx := B.exec
  have hb := B.bytes
  have hr := B.returns
  have hts := atoms_spec (ws := Cond.code yX11_size cX11_size 3 (some .int) :: wp) B.pre
  have hw : ∀ w ∈ wp, w.before _ s = true := fun w h => hts w (List.mem_cons_of_mem _ h)
  have hown : s.vm.findClass RX11 = some m.cls := findClass_of_methodNamed B.named
  have hlocks := B.notSynchronized
  subst hsz
  have hD := hD0.self (sz := s.heap.size)
  generalize hAe : va_A [(h0, .inr (11, [.ref b1, .int 0, .ref b2, .int 0, .int 0, .ref b3, .ref b4, .int 0, .ref b5, .int 0, .int 9, .ref b6, .ref b7, .ref b8, .ref b9, .ref b10, .ref b11, .ref b12, .ref b13]))] s.heap.size = A at hD ⊢
  have hA : ∀ q : Nat, s.heap.size ≤ q → A q := fun q h => by rw [← hAe]; exact Or.inr h
  have hS : va_S A s.heap s.heap [] := va_S.rf
  have hP : va_P (dC, dI) vwCl [(h0, .inr (11, [.ref b1, .int 0, .ref b2, .int 0, .int 0, .ref b3, .ref b4, .int 0, .ref b5, .int 0, .int 9, .ref b6, .ref b7, .ref b8, .ref b9, .ref b10, .ref b11, .ref b12, .ref b13]))] s.heap := hP
  have hl := lv_entry ([.ref h0, .int p0]) (n := 3) (Nat.le_of_ble_eq_true rfl)
  rw [lg_entry_eq]
  generalize (lg_sl ([.ref h0, .int p0]) ++ List.replicate (3 - (lg_sl ([.ref h0, .int p0])).length) Slot.unset).toArray = ls at hl ⊢
  have hl : lv_has ls 3 [(0, .ref h0), (1, .int p0)] := hl
  refine lv_aload_n hx hb dX11_size_0 rfl (lv_at hl 0 rfl) ?_
  refine lv_iload_n hx hb dX11_size_1 rfl (lv_at hl 1 rfl) ?_
  have hPc := hP.sub (ws' := [(h0, .inr (11, [.ref b1, .int 0, .ref b2, .int 0, .int 0, .ref b3, .ref b4, .int 0, .ref b5, .int 0, .int 9, .ref b6, .ref b7, .ref b8, .ref b9, .ref b10, .ref b11, .ref b12, .ref b13]))]) [0] rfl
  have hDc := hD.sub (ws' := [(h0, .inr (11, [.ref b1, .int 0, .ref b2, .int 0, .int 0, .ref b3, .ref b4, .int 0, .ref b5, .int 0, .int 9, .ref b6, .ref b7, .ref b8, .ref b9, .ref b10, .ref b11, .ref b12, .ref b13]))]) [0] (by decide) rfl
  have hKc := hK.sub (tys' := []) [] rfl
  have hFc := va_free (wc := [(h0, .inr (11, [.ref b1, .int 0, .ref b2, .int 0, .int 0, .ref b3, .ref b4, .int 0, .ref b5, .int 0, .int 9, .ref b6, .ref b7, .ref b8, .ref b9, .ref b10, .ref b11, .ref b12, .ref b13]))]) hD hS hA [0] rfl
  refine va_callq (va_runV (As := [.int p0]) (rest := []) ⟨hx, hb, hml, hown, hw⟩ (c_X11_keptOf l dC dI _ (h0) (b1) (b2) (b3) (b4) (b5) (b6) (b7) (b8) (b9) (b10) (b11) (b12) (b13) (p0)) (cwV 1 hw (gV q156 q157 q158 q153 q155) rfl rfl rfl (by decide +kernel) ⟨Nat.le_of_ble_eq_true rfl, Nat.le_of_ble_eq_true rfl⟩) ⟨cP_blind, va_recv hKc hPc (ci := 11) (q0 := 0) rfl rfl, cP_pre hPc hKc hDc hN⟩ rfl rfl hl.1 rfl (lv_room (Nat.le_of_ble_eq_true rfl)) dX11_size_2 ⟨Nat.le_of_ble_eq_true rfl, Nat.le_of_ble_eq_true rfl⟩) hS (fun q _ h => hFc q h) hFc (fun r1 u9 t H1 locs ht hvm hw1 hB hz1 hk1 hS => ?_)
  obtain ⟨hP1, hK1, hD1⟩ := hB
  rw [ht] at hP1
  have hK1 := va_K.moved hvm.symm hK1
  obtain ⟨hP, hD⟩ := va_join (wr := []) (w1 := [(h0, .inr (11, [.ref b1, .int 0, .ref b2, .int 0, .int 0, .ref b3, .ref b4, .int 0, .ref b5, .int 0, .int 9, .ref b6, .ref b7, .ref b8, .ref b9, .ref b10, .ref b11, .ref b12, .ref b13]))]) hP hD [0] [] rfl rfl (by decide) (by decide) hk1 hFc hP1 hD1
  have hK := (hK.sub (tys' := []) [] rfl).app hK1
  generalize H1 = H at hP hS ⊢
  have hP : va_P (dC, dI) vwCl [(h0, .inr (11, [.ref b1, .int 0, .ref b2, .int 0, .int 0, .ref b3, .ref b4, .int 0, .ref b5, .int 0, .int 9, .ref b6, .ref b7, .ref b8, .ref b9, .ref b10, .ref b11, .ref b12, .ref b13]))] H := hP
  have hD : va_D A [(h0, .inr (11, [.ref b1, .int 0, .ref b2, .int 0, .int 0, .ref b3, .ref b4, .int 0, .ref b5, .int 0, .int 9, .ref b6, .ref b7, .ref b8, .ref b9, .ref b10, .ref b11, .ref b12, .ref b13]))] := hD
  have hK : va_K (dC, dI) vwCl [] s := hK
  subst hw1
  refine W.eq (g2 := F0 m 5 ls [.null]) rfl ?_
  refine lv_astore_nN (lv' := [(2, .null), (0, .ref h0), (1, .int p0)]) hx hb dX11_size_5 rfl hl (by decide) rfl (fun ls hl => ?_)
  refine lv_aload_nN hx hb dX11_size_6 rfl (lv_at hl 0 rfl) ?_
  refine lv_ifnonnullN hx hb dX11_size_7 ?_
  refine lv_iconst (v := (-1)) hx hb dX11_size_10 (by decide) ?_
  have hP9 := hP.sub (ws' := []) [] rfl
  have hD9 := hD.sub (ws' := []) [] (by decide) rfl
  have hK9 := hK.sub (tys' := []) [] rfl
  exact W.iret (v := (-1)) hx hb hr (fun t ht hW => ⟨⟨(-1), (), rfl, rfl, by rw [ht]; exact hP9, va_K.moved hW.alike hK9, hD9⟩, hS.F ht⟩) hS.2.2 dX11_size_11
set_option maxHeartbeats 4000000 in
set_option maxRecDepth 100000 in
theorem c_X11_sort (l : Launch) (dC : Nat → ClassId) (dI : Nat → Nat → Nat) (sz : Nat) (h0 : Nat) (b1 : Nat) (b2 : Nat) (b3 : Nat) (b4 : Nat) (b5 : Nat) (b6 : Nat) (b7 : Nat) (b8 : Nat) (b9 : Nat) (b10 : Nat) (b11 : Nat) (b12 : Nat) (b13 : Nat) (p0 : Int32) : Met l yX11_sort (Cond.code yX11_sort cX11_sort 4 (some .int) :: wp) ({ frames := 2, cells := 0, slots := 0, locals := 43 }) (cP dC dI [.ref h0, .int p0] sz [(h0, .inr (11, [.ref b1, .int 0, .ref b2, .int 0, .int 0, .ref b3, .ref b4, .int 0, .ref b5, .int 0, .int 9, .ref b6, .ref b7, .ref b8, .ref b9, .ref b10, .ref b11, .ref b12, .ref b13]))] []) (va_Qi (fun (r : Int32) (_ : Unit) => r = -1) (fun (_ : Unit) t => cB dC dI (va_A [(h0, .inr (11, [.ref b1, .int 0, .ref b2, .int 0, .int 0, .ref b3, .ref b4, .int 0, .ref b5, .int 0, .int 9, .ref b6, .ref b7, .ref b8, .ref b9, .ref b10, .ref b11, .ref b12, .ref b13]))] sz) [] [] t) (va_A [(h0, .inr (11, [.ref b1, .int 0, .ref b2, .int 0, .int 0, .ref b3, .ref b4, .int 0, .ref b5, .int 0, .int 9, .ref b6, .ref b7, .ref b8, .ref b9, .ref b10, .ref b11, .ref b12, .ref b13]))] sz)) 0 0 (va_A [(h0, .inr (11, [.ref b1, .int 0, .ref b2, .int 0, .int 0, .ref b3, .ref b4, .int 0, .ref b5, .int 0, .int 9, .ref b6, .ref b7, .ref b8, .ref b9, .ref b10, .ref b11, .ref b12, .ref b13]))] sz) := by
  refine Met.ofW (cc := cX11_sort) (maxL := 4) (ret := (some .int)) (by decide) rfl ?_
  intro p e s m args below meth c s₁ B hml hv
  obtain ⟨rfl, hsz, hP, hK, hD0, hN⟩ := hv
  have hx := B.exec
  have hb := B.bytes
  have hr := B.returns
  have hts := atoms_spec (ws := Cond.code yX11_sort cX11_sort 4 (some .int) :: wp) B.pre
  have hw : ∀ w ∈ wp, w.before _ s = true := fun w h => hts w (List.mem_cons_of_mem _ h)
  have hown : s.vm.findClass RX11 = some m.cls := findClass_of_methodNamed B.named
  have hlocks := B.notSynchronized
  subst hsz
  have hD := hD0.self (sz := s.heap.size)
  generalize hAe : va_A [(h0, .inr (11, [.ref b1, .int 0, .ref b2, .int 0, .int 0, .ref b3, .ref b4, .int 0, .ref b5, .int 0, .int 9, .ref b6, .ref b7, .ref b8, .ref b9, .ref b10, .ref b11, .ref b12, .ref b13]))] s.heap.size = A at hD ⊢
  have hA : ∀ q : Nat, s.heap.size ≤ q → A q := fun q h => by rw [← hAe]; exact Or.inr h
  have hS : va_S A s.heap s.heap [] := va_S.rf
  have hP : va_P (dC, dI) vwCl [(h0, .inr (11, [.ref b1, .int 0, .ref b2, .int 0, .int 0, .ref b3, .ref b4, .int 0, .ref b5, .int 0, .int 9, .ref b6, .ref b7, .ref b8, .ref b9, .ref b10, .ref b11, .ref b12, .ref b13]))] s.heap := hP
  have hl := lv_entry ([.ref h0, .int p0]) (n := 4) (Nat.le_of_ble_eq_true rfl)
  rw [lg_entry_eq]
  generalize (lg_sl ([.ref h0, .int p0]) ++ List.replicate (4 - (lg_sl ([.ref h0, .int p0])).length) Slot.unset).toArray = ls at hl ⊢
  have hl : lv_has ls 4 [(0, .ref h0), (1, .int p0)] := hl
  refine lv_aload_n hx hb dX11_sort_0 rfl (lv_at hl 0 rfl) ?_
  refine lv_iload_n hx hb dX11_sort_1 rfl (lv_at hl 1 rfl) ?_
  have hPc := hP.sub (ws' := [(h0, .inr (11, [.ref b1, .int 0, .ref b2, .int 0, .int 0, .ref b3, .ref b4, .int 0, .ref b5, .int 0, .int 9, .ref b6, .ref b7, .ref b8, .ref b9, .ref b10, .ref b11, .ref b12, .ref b13]))]) [0] rfl
  have hDc := hD.sub (ws' := [(h0, .inr (11, [.ref b1, .int 0, .ref b2, .int 0, .int 0, .ref b3, .ref b4, .int 0, .ref b5, .int 0, .int 9, .ref b6, .ref b7, .ref b8, .ref b9, .ref b10, .ref b11, .ref b12, .ref b13]))]) [0] (by decide) rfl
  have hKc := hK.sub (tys' := []) [] rfl
  have hFc := va_free (wc := [(h0, .inr (11, [.ref b1, .int 0, .ref b2, .int 0, .int 0, .ref b3, .ref b4, .int 0, .ref b5, .int 0, .int 9, .ref b6, .ref b7, .ref b8, .ref b9, .ref b10, .ref b11, .ref b12, .ref b13]))]) hD hS hA [0] rfl
  refine va_callq (va_runV (As := [.int p0]) (rest := []) ⟨hx, hb, hml, hown, hw⟩ (c_X11_keptOf l dC dI _ (h0) (b1) (b2) (b3) (b4) (b5) (b6) (b7) (b8) (b9) (b10) (b11) (b12) (b13) (p0)) (cwV 1 hw (gV q156 q157 q158 q153 q155) rfl rfl rfl (by decide +kernel) ⟨Nat.le_of_ble_eq_true rfl, Nat.le_of_ble_eq_true rfl⟩) ⟨cP_blind, va_recv hKc hPc (ci := 11) (q0 := 0) rfl rfl, cP_pre hPc hKc hDc hN⟩ rfl rfl hl.1 rfl (lv_room (Nat.le_of_ble_eq_true rfl)) dX11_sort_2 ⟨Nat.le_of_ble_eq_true rfl, Nat.le_of_ble_eq_true rfl⟩) hS (fun q _ h => hFc q h) hFc (fun r1 u9 t H1 locs ht hvm hw1 hB hz1 hk1 hS => ?_)
  obtain ⟨hP1, hK1, hD1⟩ := hB
  rw [ht] at hP1
  have hK1 := va_K.moved hvm.symm hK1
  obtain ⟨hP, hD⟩ := va_join (wr := []) (w1 := [(h0, .inr (11, [.ref b1, .int 0, .ref b2, .int 0, .int 0, .ref b3, .ref b4, .int 0, .ref b5, .int 0, .int 9, .ref b6, .ref b7, .ref b8, .ref b9, .ref b10, .ref b11, .ref b12, .ref b13]))]) hP hD [0] [] rfl rfl (by decide) (by decide) hk1 hFc hP1 hD1
  have hK := (hK.sub (tys' := []) [] rfl).app hK1
  generalize H1 = H at hP hS ⊢
  have hP : va_P (dC, dI) vwCl [(h0, .inr (11, [.ref b1, .int 0, .ref b2, .int 0, .int 0, .ref b3, .ref b4, .int 0, .ref b5, .int 0, .int 9, .ref b6, .ref b7, .ref b8, .ref b9, .ref b10, .ref b11, .ref b12, .ref b13]))] H := hP
  have hD : va_D A [(h0, .inr (11, [.ref b1, .int 0, .ref b2, .int 0, .int 0, .ref b3, .ref b4, .int 0, .ref b5, .int 0, .int 9, .ref b6, .ref b7, .ref b8, .ref b9, .ref b10, .ref b11, .ref b12, .ref b13]))] := hD
  have hK : va_K (dC, dI) vwCl [] s := hK
  subst hw1
  refine W.eq (g2 := F0 m 5 ls [.null]) rfl ?_
  refine lv_astore_nN (lv' := [(2, .null), (0, .ref h0), (1, .int p0)]) hx hb dX11_sort_5 rfl hl (by decide) rfl (fun ls hl => ?_)
  refine lv_aload_nN hx hb dX11_sort_6 rfl (lv_at hl 0 rfl) ?_
  refine lv_ifnonnullN hx hb dX11_sort_7 ?_
  refine lv_iconst (v := (-1)) hx hb dX11_sort_10 (by decide) ?_
  have hP9 := hP.sub (ws' := []) [] rfl
  have hD9 := hD.sub (ws' := []) [] (by decide) rfl
  have hK9 := hK.sub (tys' := []) [] rfl
  exact W.iret (v := (-1)) hx hb hr (fun t ht hW => ⟨⟨(-1), (), rfl, rfl, by rw [ht]; exact hP9, va_K.moved hW.alike hK9, hD9⟩, hS.F ht⟩) hS.2.2 dX11_sort_11
set_option maxHeartbeats 4000000 in
set_option maxRecDepth 100000 in
theorem c_X11_needs (l : Launch) (dC : Nat → ClassId) (dI : Nat → Nat → Nat) (sz : Nat) (h0 : Nat) (b1 : Nat) (b2 : Nat) (b3 : Nat) (b4 : Nat) (b5 : Nat) (b6 : Nat) (b7 : Nat) (b8 : Nat) (b9 : Nat) (b10 : Nat) (b11 : Nat) (b12 : Nat) (b13 : Nat) (p0 : Int32) : Met l yX11_needs (Cond.code yX11_needs cX11_needs 5 (some .int) :: wp) ({ frames := 2, cells := 0, slots := 0, locals := 43 }) (cP dC dI [.ref h0, .int p0] sz [(h0, .inr (11, [.ref b1, .int 0, .ref b2, .int 0, .int 0, .ref b3, .ref b4, .int 0, .ref b5, .int 0, .int 9, .ref b6, .ref b7, .ref b8, .ref b9, .ref b10, .ref b11, .ref b12, .ref b13]))] []) (va_Qi (fun (r : Int32) (_ : Unit) => r = -1) (fun (_ : Unit) t => cB dC dI (va_A [(h0, .inr (11, [.ref b1, .int 0, .ref b2, .int 0, .int 0, .ref b3, .ref b4, .int 0, .ref b5, .int 0, .int 9, .ref b6, .ref b7, .ref b8, .ref b9, .ref b10, .ref b11, .ref b12, .ref b13]))] sz) [] [] t) (va_A [(h0, .inr (11, [.ref b1, .int 0, .ref b2, .int 0, .int 0, .ref b3, .ref b4, .int 0, .ref b5, .int 0, .int 9, .ref b6, .ref b7, .ref b8, .ref b9, .ref b10, .ref b11, .ref b12, .ref b13]))] sz)) 0 0 (va_A [(h0, .inr (11, [.ref b1, .int 0, .ref b2, .int 0, .int 0, .ref b3, .ref b4, .int 0, .ref b5, .int 0, .int 9, .ref b6, .ref b7, .ref b8, .ref b9, .ref b10, .ref b11, .ref b12, .ref b13]))] sz) := by
  refine Met.ofW (cc := cX11_needs) (maxL := 5) (ret := (some .int)) (by decide) rfl ?_
  intro p e s m args below meth c s₁ B hml hv
  obtain ⟨rfl, hsz, hP, hK, hD0, hN⟩ := hv
  have hx := B.exec
  have hb := B.bytes
  have hr := B.returns
  have hts := atoms_spec (ws := Cond.code yX11_needs cX11_needs 5 (some .int) :: wp) B.pre
  have hw : ∀ w ∈ wp, w.before _ s = true := fun w h => hts w (List.mem_cons_of_mem _ h)
  have hown : s.vm.findClass RX11 = some m.cls := findClass_of_methodNamed B.named
  have hlocks := B.notSynchronized
  subst hsz
  have hD := hD0.self (sz := s.heap.size)
  generalize hAe : va_A [(h0, .inr (11, [.ref b1, .int 0, .ref b2, .int 0, .int 0, .ref b3, .ref b4, .int 0, .ref b5, .int 0, .int 9, .ref b6, .ref b7, .ref b8, .ref b9, .ref b10, .ref b11, .ref b12, .ref b13]))] s.heap.size = A at hD ⊢
  have hA : ∀ q : Nat, s.heap.size ≤ q → A q := fun q h => by rw [← hAe]; exact Or.inr h
  have hS : va_S A s.heap s.heap [] := va_S.rf
  have hP : va_P (dC, dI) vwCl [(h0, .inr (11, [.ref b1, .int 0, .ref b2, .int 0, .int 0, .ref b3, .ref b4, .int 0, .ref b5, .int 0, .int 9, .ref b6, .ref b7, .ref b8, .ref b9, .ref b10, .ref b11, .ref b12, .ref b13]))] s.heap := hP
  have hl := lv_entry ([.ref h0, .int p0]) (n := 5) (Nat.le_of_ble_eq_true rfl)
  rw [lg_entry_eq]
  generalize (lg_sl ([.ref h0, .int p0]) ++ List.replicate (5 - (lg_sl ([.ref h0, .int p0])).length) Slot.unset).toArray = ls at hl ⊢
  have hl : lv_has ls 5 [(0, .ref h0), (1, .int p0)] := hl
  refine lv_aload_n hx hb dX11_needs_0 rfl (lv_at hl 0 rfl) ?_
  refine lv_iload_n hx hb dX11_needs_1 rfl (lv_at hl 1 rfl) ?_
  have hPc := hP.sub (ws' := [(h0, .inr (11, [.ref b1, .int 0, .ref b2, .int 0, .int 0, .ref b3, .ref b4, .int 0, .ref b5, .int 0, .int 9, .ref b6, .ref b7, .ref b8, .ref b9, .ref b10, .ref b11, .ref b12, .ref b13]))]) [0] rfl
  have hDc := hD.sub (ws' := [(h0, .inr (11, [.ref b1, .int 0, .ref b2, .int 0, .int 0, .ref b3, .ref b4, .int 0, .ref b5, .int 0, .int 9, .ref b6, .ref b7, .ref b8, .ref b9, .ref b10, .ref b11, .ref b12, .ref b13]))]) [0] (by decide) rfl
  have hKc := hK.sub (tys' := []) [] rfl
  have hFc := va_free (wc := [(h0, .inr (11, [.ref b1, .int 0, .ref b2, .int 0, .int 0, .ref b3, .ref b4, .int 0, .ref b5, .int 0, .int 9, .ref b6, .ref b7, .ref b8, .ref b9, .ref b10, .ref b11, .ref b12, .ref b13]))]) hD hS hA [0] rfl
  refine va_callq (va_runV (As := [.int p0]) (rest := []) ⟨hx, hb, hml, hown, hw⟩ (c_X11_keptOf l dC dI _ (h0) (b1) (b2) (b3) (b4) (b5) (b6) (b7) (b8) (b9) (b10) (b11) (b12) (b13) (p0)) (cwV 1 hw (gV q156 q157 q158 q153 q155) rfl rfl rfl (by decide +kernel) ⟨Nat.le_of_ble_eq_true rfl, Nat.le_of_ble_eq_true rfl⟩) ⟨cP_blind, va_recv hKc hPc (ci := 11) (q0 := 0) rfl rfl, cP_pre hPc hKc hDc hN⟩ rfl rfl hl.1 rfl (lv_room (Nat.le_of_ble_eq_true rfl)) dX11_needs_2 ⟨Nat.le_of_ble_eq_true rfl, Nat.le_of_ble_eq_true rfl⟩) hS (fun q _ h => hFc q h) hFc (fun r1 u9 t H1 locs ht hvm hw1 hB hz1 hk1 hS => ?_)
  obtain ⟨hP1, hK1, hD1⟩ := hB
  rw [ht] at hP1
  have hK1 := va_K.moved hvm.symm hK1
  obtain ⟨hP, hD⟩ := va_join (wr := []) (w1 := [(h0, .inr (11, [.ref b1, .int 0, .ref b2, .int 0, .int 0, .ref b3, .ref b4, .int 0, .ref b5, .int 0, .int 9, .ref b6, .ref b7, .ref b8, .ref b9, .ref b10, .ref b11, .ref b12, .ref b13]))]) hP hD [0] [] rfl rfl (by decide) (by decide) hk1 hFc hP1 hD1
  have hK := (hK.sub (tys' := []) [] rfl).app hK1
  generalize H1 = H at hP hS ⊢
  have hP : va_P (dC, dI) vwCl [(h0, .inr (11, [.ref b1, .int 0, .ref b2, .int 0, .int 0, .ref b3, .ref b4, .int 0, .ref b5, .int 0, .int 9, .ref b6, .ref b7, .ref b8, .ref b9, .ref b10, .ref b11, .ref b12, .ref b13]))] H := hP
  have hD : va_D A [(h0, .inr (11, [.ref b1, .int 0, .ref b2, .int 0, .int 0, .ref b3, .ref b4, .int 0, .ref b5, .int 0, .int 9, .ref b6, .ref b7, .ref b8, .ref b9, .ref b10, .ref b11, .ref b12, .ref b13]))] := hD
  have hK : va_K (dC, dI) vwCl [] s := hK
  subst hw1
  refine W.eq (g2 := F0 m 5 ls [.null]) rfl ?_
  refine lv_astore_nN (lv' := [(2, .null), (0, .ref h0), (1, .int p0)]) hx hb dX11_needs_5 rfl hl (by decide) rfl (fun ls hl => ?_)
  refine lv_aload_nN hx hb dX11_needs_6 rfl (lv_at hl 0 rfl) ?_
  refine lv_ifnonnullN hx hb dX11_needs_7 ?_
  refine lv_iconst (v := (-1)) hx hb dX11_needs_10 (by decide) ?_
  have hP9 := hP.sub (ws' := []) [] rfl
  have hD9 := hD.sub (ws' := []) [] (by decide) rfl
  have hK9 := hK.sub (tys' := []) [] rfl
  exact W.iret (v := (-1)) hx hb hr (fun t ht hW => ⟨⟨(-1), (), rfl, rfl, by rw [ht]; exact hP9, va_K.moved hW.alike hK9, hD9⟩, hS.F ht⟩) hS.2.2 dX11_needs_11
set_option maxHeartbeats 4000000 in
set_option maxRecDepth 100000 in
theorem c_X11_closes (l : Launch) (dC : Nat → ClassId) (dI : Nat → Nat → Nat) (sz : Nat) (h0 : Nat) (b1 : Nat) (b2 : Nat) (b3 : Nat) (b4 : Nat) (b5 : Nat) (b6 : Nat) (b7 : Nat) (b8 : Nat) (b9 : Nat) (b10 : Nat) (b11 : Nat) (b12 : Nat) (b13 : Nat) (p0 : Int32) : Met l yX11_closes (Cond.code yX11_closes cX11_closes 5 (some .int) :: wp) ({ frames := 2, cells := 0, slots := 0, locals := 43 }) (cP dC dI [.ref h0, .int p0] sz [(h0, .inr (11, [.ref b1, .int 0, .ref b2, .int 0, .int 0, .ref b3, .ref b4, .int 0, .ref b5, .int 0, .int 9, .ref b6, .ref b7, .ref b8, .ref b9, .ref b10, .ref b11, .ref b12, .ref b13]))] []) (va_Qi (fun (r : Int32) (_ : Unit) => r = -1) (fun (_ : Unit) t => cB dC dI (va_A [(h0, .inr (11, [.ref b1, .int 0, .ref b2, .int 0, .int 0, .ref b3, .ref b4, .int 0, .ref b5, .int 0, .int 9, .ref b6, .ref b7, .ref b8, .ref b9, .ref b10, .ref b11, .ref b12, .ref b13]))] sz) [] [] t) (va_A [(h0, .inr (11, [.ref b1, .int 0, .ref b2, .int 0, .int 0, .ref b3, .ref b4, .int 0, .ref b5, .int 0, .int 9, .ref b6, .ref b7, .ref b8, .ref b9, .ref b10, .ref b11, .ref b12, .ref b13]))] sz)) 0 0 (va_A [(h0, .inr (11, [.ref b1, .int 0, .ref b2, .int 0, .int 0, .ref b3, .ref b4, .int 0, .ref b5, .int 0, .int 9, .ref b6, .ref b7, .ref b8, .ref b9, .ref b10, .ref b11, .ref b12, .ref b13]))] sz) := by
  refine Met.ofW (cc := cX11_closes) (maxL := 5) (ret := (some .int)) (by decide) rfl ?_
  intro p e s m args below meth c s₁ B hml hv
  obtain ⟨rfl, hsz, hP, hK, hD0, hN⟩ := hv
  have hx := B.exec
  have hb := B.bytes
  have hr := B.returns
  have hts := atoms_spec (ws := Cond.code yX11_closes cX11_closes 5 (some .int) :: wp) B.pre
  have hw : ∀ w ∈ wp, w.before _ s = true := fun w h => hts w (List.mem_cons_of_mem _ h)
  have hown : s.vm.findClass RX11 = some m.cls := findClass_of_methodNamed B.named
  have hlocks := B.notSynchronized
  subst hsz
  have hD := hD0.self (sz := s.heap.size)
  generalize hAe : va_A [(h0, .inr (11, [.ref b1, .int 0, .ref b2, .int 0, .int 0, .ref b3, .ref b4, .int 0, .ref b5, .int 0, .int 9, .ref b6, .ref b7, .ref b8, .ref b9, .ref b10, .ref b11, .ref b12, .ref b13]))] s.heap.size = A at hD ⊢
  have hA : ∀ q : Nat, s.heap.size ≤ q → A q := fun q h => by rw [← hAe]; exact Or.inr h
  have hS : va_S A s.heap s.heap [] := va_S.rf
  have hP : va_P (dC, dI) vwCl [(h0, .inr (11, [.ref b1, .int 0, .ref b2, .int 0, .int 0, .ref b3, .ref b4, .int 0, .ref b5, .int 0, .int 9, .ref b6, .ref b7, .ref b8, .ref b9, .ref b10, .ref b11, .ref b12, .ref b13]))] s.heap := hP
  have hl := lv_entry ([.ref h0, .int p0]) (n := 5) (Nat.le_of_ble_eq_true rfl)
  rw [lg_entry_eq]
  generalize (lg_sl ([.ref h0, .int p0]) ++ List.replicate (5 - (lg_sl ([.ref h0, .int p0])).length) Slot.unset).toArray = ls at hl ⊢
  have hl : lv_has ls 5 [(0, .ref h0), (1, .int p0)] := hl
  refine lv_aload_n hx hb dX11_closes_0 rfl (lv_at hl 0 rfl) ?_
  refine lv_iload_n hx hb dX11_closes_1 rfl (lv_at hl 1 rfl) ?_
  have hPc := hP.sub (ws' := [(h0, .inr (11, [.ref b1, .int 0, .ref b2, .int 0, .int 0, .ref b3, .ref b4, .int 0, .ref b5, .int 0, .int 9, .ref b6, .ref b7, .ref b8, .ref b9, .ref b10, .ref b11, .ref b12, .ref b13]))]) [0] rfl
  have hDc := hD.sub (ws' := [(h0, .inr (11, [.ref b1, .int 0, .ref b2, .int 0, .int 0, .ref b3, .ref b4, .int 0, .ref b5, .int 0, .int 9, .ref b6, .ref b7, .ref b8, .ref b9, .ref b10, .ref b11, .ref b12, .ref b13]))]) [0] (by decide) rfl
  have hKc := hK.sub (tys' := []) [] rfl
  have hFc := va_free (wc := [(h0, .inr (11, [.ref b1, .int 0, .ref b2, .int 0, .int 0, .ref b3, .ref b4, .int 0, .ref b5, .int 0, .int 9, .ref b6, .ref b7, .ref b8, .ref b9, .ref b10, .ref b11, .ref b12, .ref b13]))]) hD hS hA [0] rfl
  refine va_callq (va_runV (As := [.int p0]) (rest := []) ⟨hx, hb, hml, hown, hw⟩ (c_X11_keptOf l dC dI _ (h0) (b1) (b2) (b3) (b4) (b5) (b6) (b7) (b8) (b9) (b10) (b11) (b12) (b13) (p0)) (cwV 1 hw (gV q156 q157 q158 q153 q155) rfl rfl rfl (by decide +kernel) ⟨Nat.le_of_ble_eq_true rfl, Nat.le_of_ble_eq_true rfl⟩) ⟨cP_blind, va_recv hKc hPc (ci := 11) (q0 := 0) rfl rfl, cP_pre hPc hKc hDc hN⟩ rfl rfl hl.1 rfl (lv_room (Nat.le_of_ble_eq_true rfl)) dX11_closes_2 ⟨Nat.le_of_ble_eq_true rfl, Nat.le_of_ble_eq_true rfl⟩) hS (fun q _ h => hFc q h) hFc (fun r1 u9 t H1 locs ht hvm hw1 hB hz1 hk1 hS => ?_)
  obtain ⟨hP1, hK1, hD1⟩ := hB
  rw [ht] at hP1
  have hK1 := va_K.moved hvm.symm hK1
  obtain ⟨hP, hD⟩ := va_join (wr := []) (w1 := [(h0, .inr (11, [.ref b1, .int 0, .ref b2, .int 0, .int 0, .ref b3, .ref b4, .int 0, .ref b5, .int 0, .int 9, .ref b6, .ref b7, .ref b8, .ref b9, .ref b10, .ref b11, .ref b12, .ref b13]))]) hP hD [0] [] rfl rfl (by decide) (by decide) hk1 hFc hP1 hD1
  have hK := (hK.sub (tys' := []) [] rfl).app hK1
  generalize H1 = H at hP hS ⊢
  have hP : va_P (dC, dI) vwCl [(h0, .inr (11, [.ref b1, .int 0, .ref b2, .int 0, .int 0, .ref b3, .ref b4, .int 0, .ref b5, .int 0, .int 9, .ref b6, .ref b7, .ref b8, .ref b9, .ref b10, .ref b11, .ref b12, .ref b13]))] H := hP
  have hD : va_D A [(h0, .inr (11, [.ref b1, .int 0, .ref b2, .int 0, .int 0, .ref b3, .ref b4, .int 0, .ref b5, .int 0, .int 9, .ref b6, .ref b7, .ref b8, .ref b9, .ref b10, .ref b11, .ref b12, .ref b13]))] := hD
  have hK : va_K (dC, dI) vwCl [] s := hK
  subst hw1
  refine W.eq (g2 := F0 m 5 ls [.null]) rfl ?_
  refine lv_astore_nN (lv' := [(2, .null), (0, .ref h0), (1, .int p0)]) hx hb dX11_closes_5 rfl hl (by decide) rfl (fun ls hl => ?_)
  refine lv_aload_nN hx hb dX11_closes_6 rfl (lv_at hl 0 rfl) ?_
  refine lv_ifnonnullN hx hb dX11_closes_7 ?_
  refine lv_iconst (v := (-1)) hx hb dX11_closes_10 (by decide) ?_
  have hP9 := hP.sub (ws' := []) [] rfl
  have hD9 := hD.sub (ws' := []) [] (by decide) rfl
  have hK9 := hK.sub (tys' := []) [] rfl
  exact W.iret (v := (-1)) hx hb hr (fun t ht hW => ⟨⟨(-1), (), rfl, rfl, by rw [ht]; exact hP9, va_K.moved hW.alike hK9, hD9⟩, hS.F ht⟩) hS.2.2 dX11_closes_11
set_option maxHeartbeats 4000000 in
set_option maxRecDepth 100000 in
theorem c_X11_fits (l : Launch) (dC : Nat → ClassId) (dI : Nat → Nat → Nat) (sz : Nat) (h0 : Nat) (b1 : Nat) (b2 : Nat) (b3 : Nat) (b4 : Nat) (b5 : Nat) (b6 : Nat) (b7 : Nat) (b8 : Nat) (b9 : Nat) (b10 : Nat) (b11 : Nat) (b12 : Nat) (b13 : Nat) (p0 : Int32) : Met l yX11_fits (Cond.code yX11_fits cX11_fits 5 (some .int) :: wp) ({ frames := 2, cells := 0, slots := 0, locals := 43 }) (cP dC dI [.ref h0, .int p0] sz [(h0, .inr (11, [.ref b1, .int 0, .ref b2, .int 0, .int 0, .ref b3, .ref b4, .int 0, .ref b5, .int 0, .int 9, .ref b6, .ref b7, .ref b8, .ref b9, .ref b10, .ref b11, .ref b12, .ref b13]))] []) (va_Qi (fun (r : Int32) (_ : Unit) => r = -1) (fun (_ : Unit) t => cB dC dI (va_A [(h0, .inr (11, [.ref b1, .int 0, .ref b2, .int 0, .int 0, .ref b3, .ref b4, .int 0, .ref b5, .int 0, .int 9, .ref b6, .ref b7, .ref b8, .ref b9, .ref b10, .ref b11, .ref b12, .ref b13]))] sz) [] [] t) (va_A [(h0, .inr (11, [.ref b1, .int 0, .ref b2, .int 0, .int 0, .ref b3, .ref b4, .int 0, .ref b5, .int 0, .int 9, .ref b6, .ref b7, .ref b8, .ref b9, .ref b10, .ref b11, .ref b12, .ref b13]))] sz)) 0 0 (va_A [(h0, .inr (11, [.ref b1, .int 0, .ref b2, .int 0, .int 0, .ref b3, .ref b4, .int 0, .ref b5, .int 0, .int 9, .ref b6, .ref b7, .ref b8, .ref b9, .ref b10, .ref b11, .ref b12, .ref b13]))] sz) := by
  refine Met.ofW (cc := cX11_fits) (maxL := 5) (ret := (some .int)) (by decide) rfl ?_
  intro p e s m args below meth c s₁ B hml hv
  obtain ⟨rfl, hsz, hP, hK, hD0, hN⟩ := hv
  have hx := B.exec
  have hb := B.bytes
  have hr := B.returns
  have hts := atoms_spec (ws := Cond.code yX11_fits cX11_fits 5 (some .int) :: wp) B.pre
  have hw : ∀ w ∈ wp, w.before _ s = true := fun w h => hts w (List.mem_cons_of_mem _ h)
  have hown : s.vm.findClass RX11 = some m.cls := findClass_of_methodNamed B.named
  have hlocks := B.notSynchronized
  subst hsz
  have hD := hD0.self (sz := s.heap.size)
  generalize hAe : va_A [(h0, .inr (11, [.ref b1, .int 0, .ref b2, .int 0, .int 0, .ref b3, .ref b4, .int 0, .ref b5, .int 0, .int 9, .ref b6, .ref b7, .ref b8, .ref b9, .ref b10, .ref b11, .ref b12, .ref b13]))] s.heap.size = A at hD ⊢
  have hA : ∀ q : Nat, s.heap.size ≤ q → A q := fun q h => by rw [← hAe]; exact Or.inr h
  have hS : va_S A s.heap s.heap [] := va_S.rf
  have hP : va_P (dC, dI) vwCl [(h0, .inr (11, [.ref b1, .int 0, .ref b2, .int 0, .int 0, .ref b3, .ref b4, .int 0, .ref b5, .int 0, .int 9, .ref b6, .ref b7, .ref b8, .ref b9, .ref b10, .ref b11, .ref b12, .ref b13]))] s.heap := hP
  have hl := lv_entry ([.ref h0, .int p0]) (n := 5) (Nat.le_of_ble_eq_true rfl)
  rw [lg_entry_eq]
  generalize (lg_sl ([.ref h0, .int p0]) ++ List.replicate (5 - (lg_sl ([.ref h0, .int p0])).length) Slot.unset).toArray = ls at hl ⊢
  have hl : lv_has ls 5 [(0, .ref h0), (1, .int p0)] := hl
  refine lv_aload_n hx hb dX11_fits_0 rfl (lv_at hl 0 rfl) ?_
  refine va_get (D := (dC, dI)) (ci := 11) (v := .int 0) (C := RX11) (T := TX11) (N := 19) hx hb hw uX11 hown hK hP 0 rfl rfl 1 (by decide) (hw _ q159) (fun _ h9 => h9) rfl dX11_fits_1 ?_
  refine lv_istore_n (lv' := [(2, .int 0), (0, .ref h0), (1, .int p0)]) hx hb dX11_fits_4 rfl hl (by decide) rfl (fun ls hl => ?_)
  refine lv_aload_n hx hb dX11_fits_5 rfl (lv_at hl 1 rfl) ?_
  refine lv_iconst (v := 0) hx hb dX11_fits_6 (by decide) ?_
  refine va_put (D := (dC, dI)) (ci := 11) (v := .int 0) (ty := .int) (C := RX11) (T := TX11) (N := 19) hx hb hw uX11 tyX11 tyX11_ok nmX11 hown hK hP hD hS 0 rfl rfl 1 (by decide) (hw _ q159) (fun _ h9 => h9) rfl (by decide +kernel) rfl rfl (Nat.le_of_ble_eq_true rfl) dX11_fits_7 (fun H locs hP hD hS => ?_)
  have hP : va_P (dC, dI) vwCl [(h0, .inr (11, [.ref b1, .int 0, .ref b2, .int 0, .int 0, .ref b3, .ref b4, .int 0, .ref b5, .int 0, .int 9, .ref b6, .ref b7, .ref b8, .ref b9, .ref b10, .ref b11, .ref b12, .ref b13]))] H := hP
  have hD : va_D A [(h0, .inr (11, [.ref b1, .int 0, .ref b2, .int 0, .int 0, .ref b3, .ref b4, .int 0, .ref b5, .int 0, .int 9, .ref b6, .ref b7, .ref b8, .ref b9, .ref b10, .ref b11, .ref b12, .ref b13]))] := hD
  refine lv_aload_n hx hb dX11_fits_10 rfl (lv_at hl 1 rfl) ?_
  refine lv_iload_n hx hb dX11_fits_11 rfl (lv_at hl 2 rfl) ?_
  have hPc := hP.sub (ws' := [(h0, .inr (11, [.ref b1, .int 0, .ref b2, .int 0, .int 0, .ref b3, .ref b4, .int 0, .ref b5, .int 0, .int 9, .ref b6, .ref b7, .ref b8, .ref b9, .ref b10, .ref b11, .ref b12, .ref b13]))]) [0] rfl
  have hDc := hD.sub (ws' := [(h0, .inr (11, [.ref b1, .int 0, .ref b2, .int 0, .int 0, .ref b3, .ref b4, .int 0, .ref b5, .int 0, .int 9, .ref b6, .ref b7, .ref b8, .ref b9, .ref b10, .ref b11, .ref b12, .ref b13]))]) [0] (by decide) rfl
  have hKc := hK.sub (tys' := []) [] rfl
  have hFc := va_free (wc := [(h0, .inr (11, [.ref b1, .int 0, .ref b2, .int 0, .int 0, .ref b3, .ref b4, .int 0, .ref b5, .int 0, .int 9, .ref b6, .ref b7, .ref b8, .ref b9, .ref b10, .ref b11, .ref b12, .ref b13]))]) hD hS hA [0] rfl
  refine va_callq (va_runV (As := [.int p0]) (rest := []) ⟨hx, hb, hml, hown, hw⟩ (c_X11_keptOf l dC dI _ (h0) (b1) (b2) (b3) (b4) (b5) (b6) (b7) (b8) (b9) (b10) (b11) (b12) (b13) (p0)) (cwV 1 hw (gV q156 q157 q158 q153 q155) rfl rfl rfl (by decide +kernel) ⟨Nat.le_of_ble_eq_true rfl, Nat.le_of_ble_eq_true rfl⟩) ⟨cP_blind, va_recv hKc hPc (ci := 11) (q0 := 0) rfl rfl, cP_pre hPc hKc hDc hN⟩ rfl rfl hl.1 rfl (lv_room (Nat.le_of_ble_eq_true rfl)) dX11_fits_12 ⟨Nat.le_of_ble_eq_true rfl, Nat.le_of_ble_eq_true rfl⟩) hS (fun q _ h => hFc q h) hFc (fun r1 u9 t H1 locs ht hvm hw1 hB hz1 hk1 hS => ?_)
  obtain ⟨hP1, hK1, hD1⟩ := hB
  rw [ht] at hP1
  have hK1 := va_K.moved hvm.symm hK1
  obtain ⟨hP, hD⟩ := va_join (wr := []) (w1 := [(h0, .inr (11, [.ref b1, .int 0, .ref b2, .int 0, .int 0, .ref b3, .ref b4, .int 0, .ref b5, .int 0, .int 9, .ref b6, .ref b7, .ref b8, .ref b9, .ref b10, .ref b11, .ref b12, .ref b13]))]) hP hD [0] [] rfl rfl (by decide) (by decide) hk1 hFc hP1 hD1
  have hK := (hK.sub (tys' := []) [] rfl).app hK1
  generalize H1 = H at hP hS ⊢
  have hP : va_P (dC, dI) vwCl [(h0, .inr (11, [.ref b1, .int 0, .ref b2, .int 0, .int 0, .ref b3, .ref b4, .int 0, .ref b5, .int 0, .int 9, .ref b6, .ref b7, .ref b8, .ref b9, .ref b10, .ref b11, .ref b12, .ref b13]))] H := hP
  have hD : va_D A [(h0, .inr (11, [.ref b1, .int 0, .ref b2, .int 0, .int 0, .ref b3, .ref b4, .int 0, .ref b5, .int 0, .int 9, .ref b6, .ref b7, .ref b8, .ref b9, .ref b10, .ref b11, .ref b12, .ref b13]))] := hD
  have hK : va_K (dC, dI) vwCl [] s := hK
  subst hw1
  refine W.eq (g2 := F0 m 15 ls [.null]) rfl ?_
  refine lv_astore_nN (lv' := [(3, .null), (2, .int 0), (0, .ref h0), (1, .int p0)]) hx hb dX11_fits_15 rfl hl (by decide) rfl (fun ls hl => ?_)
  refine lv_aload_nN hx hb dX11_fits_16 rfl (lv_at hl 0 rfl) ?_
  refine lv_ifnonnullN hx hb dX11_fits_17 ?_
  refine lv_iconst (v := (-1)) hx hb dX11_fits_20 (by decide) ?_
  have hP9 := hP.sub (ws' := []) [] rfl
  have hD9 := hD.sub (ws' := []) [] (by decide) rfl
  have hK9 := hK.sub (tys' := []) [] rfl
  exact W.iret (v := (-1)) hx hb hr (fun t ht hW => ⟨⟨(-1), (), rfl, rfl, by rw [ht]; exact hP9, va_K.moved hW.alike hK9, hD9⟩, hS.F ht⟩) hS.2.2 dX11_fits_21
set_option maxHeartbeats 4000000 in
set_option maxRecDepth 100000 in
theorem c_X11_type (l : Launch) (dC : Nat → ClassId) (dI : Nat → Nat → Nat) (sz : Nat) (h0 : Nat) (b1 : Nat) (b2 : Nat) (b3 : Nat) (b4 : Nat) (b5 : Nat) (b6 : Nat) (b7 : Nat) (b8 : Nat) (b9 : Nat) (b10 : Nat) (b11 : Nat) (b12 : Nat) (b13 : Nat) (p0 : Int32) (p1 : Int32) : Met l yX11_type (Cond.code yX11_type cX11_type 4 (some .int) :: wp) ({ frames := 2, cells := 0, slots := 0, locals := 43 }) (cP dC dI [.ref h0, .int p0, .int p1] sz [(h0, .inr (11, [.ref b1, .int 0, .ref b2, .int 0, .int 0, .ref b3, .ref b4, .int 0, .ref b5, .int 0, .int 9, .ref b6, .ref b7, .ref b8, .ref b9, .ref b10, .ref b11, .ref b12, .ref b13]))] []) (va_Qi (fun (r : Int32) (_ : Unit) => r = -1) (fun (_ : Unit) t => cB dC dI (va_A [(h0, .inr (11, [.ref b1, .int 0, .ref b2, .int 0, .int 0, .ref b3, .ref b4, .int 0, .ref b5, .int 0, .int 9, .ref b6, .ref b7, .ref b8, .ref b9, .ref b10, .ref b11, .ref b12, .ref b13]))] sz) [] [] t) (va_A [(h0, .inr (11, [.ref b1, .int 0, .ref b2, .int 0, .int 0, .ref b3, .ref b4, .int 0, .ref b5, .int 0, .int 9, .ref b6, .ref b7, .ref b8, .ref b9, .ref b10, .ref b11, .ref b12, .ref b13]))] sz)) 0 0 (va_A [(h0, .inr (11, [.ref b1, .int 0, .ref b2, .int 0, .int 0, .ref b3, .ref b4, .int 0, .ref b5, .int 0, .int 9, .ref b6, .ref b7, .ref b8, .ref b9, .ref b10, .ref b11, .ref b12, .ref b13]))] sz) := by
  refine Met.ofW (cc := cX11_type) (maxL := 4) (ret := (some .int)) (by decide) rfl ?_
  intro p e s m args below meth c s₁ B hml hv
  obtain ⟨rfl, hsz, hP, hK, hD0, hN⟩ := hv
  have hx := B.exec
  have hb := B.bytes
  have hr := B.returns
  have hts := atoms_spec (ws := Cond.code yX11_type cX11_type 4 (some .int) :: wp) B.pre
  have hw : ∀ w ∈ wp, w.before _ s = true := fun w h => hts w (List.mem_cons_of_mem _ h)
  have hown : s.vm.findClass RX11 = some m.cls := findClass_of_methodNamed B.named
  have hlocks := B.notSynchronized
  subst hsz
  have hD := hD0.self (sz := s.heap.size)
  generalize hAe : va_A [(h0, .inr (11, [.ref b1, .int 0, .ref b2, .int 0, .int 0, .ref b3, .ref b4, .int 0, .ref b5, .int 0, .int 9, .ref b6, .ref b7, .ref b8, .ref b9, .ref b10, .ref b11, .ref b12, .ref b13]))] s.heap.size = A at hD ⊢
  have hA : ∀ q : Nat, s.heap.size ≤ q → A q := fun q h => by rw [← hAe]; exact Or.inr h
  have hS : va_S A s.heap s.heap [] := va_S.rf
  have hP : va_P (dC, dI) vwCl [(h0, .inr (11, [.ref b1, .int 0, .ref b2, .int 0, .int 0, .ref b3, .ref b4, .int 0, .ref b5, .int 0, .int 9, .ref b6, .ref b7, .ref b8, .ref b9, .ref b10, .ref b11, .ref b12, .ref b13]))] s.heap := hP
  have hl := lv_entry ([.ref h0, .int p0, .int p1]) (n := 4) (Nat.le_of_ble_eq_true rfl)
  rw [lg_entry_eq]
  generalize (lg_sl ([.ref h0, .int p0, .int p1]) ++ List.replicate (4 - (lg_sl ([.ref h0, .int p0, .int p1])).length) Slot.unset).toArray = ls at hl ⊢
  have hl : lv_has ls 4 [(0, .ref h0), (1, .int p0), (2, .int p1)] := hl
  refine lv_aload_n hx hb dX11_type_0 rfl (lv_at hl 0 rfl) ?_
  refine lv_iload_n hx hb dX11_type_1 rfl (lv_at hl 1 rfl) ?_
  have hPc := hP.sub (ws' := [(h0, .inr (11, [.ref b1, .int 0, .ref b2, .int 0, .int 0, .ref b3, .ref b4, .int 0, .ref b5, .int 0, .int 9, .ref b6, .ref b7, .ref b8, .ref b9, .ref b10, .ref b11, .ref b12, .ref b13]))]) [0] rfl
  have hDc := hD.sub (ws' := [(h0, .inr (11, [.ref b1, .int 0, .ref b2, .int 0, .int 0, .ref b3, .ref b4, .int 0, .ref b5, .int 0, .int 9, .ref b6, .ref b7, .ref b8, .ref b9, .ref b10, .ref b11, .ref b12, .ref b13]))]) [0] (by decide) rfl
  have hKc := hK.sub (tys' := []) [] rfl
  have hFc := va_free (wc := [(h0, .inr (11, [.ref b1, .int 0, .ref b2, .int 0, .int 0, .ref b3, .ref b4, .int 0, .ref b5, .int 0, .int 9, .ref b6, .ref b7, .ref b8, .ref b9, .ref b10, .ref b11, .ref b12, .ref b13]))]) hD hS hA [0] rfl
  refine va_callq (va_runV (As := [.int p0]) (rest := []) ⟨hx, hb, hml, hown, hw⟩ (c_X11_keptOf l dC dI _ (h0) (b1) (b2) (b3) (b4) (b5) (b6) (b7) (b8) (b9) (b10) (b11) (b12) (b13) (p0)) (cwV 1 hw (gV q156 q157 q158 q153 q155) rfl rfl rfl (by decide +kernel) ⟨Nat.le_of_ble_eq_true rfl, Nat.le_of_ble_eq_true rfl⟩) ⟨cP_blind, va_recv hKc hPc (ci := 11) (q0 := 0) rfl rfl, cP_pre hPc hKc hDc hN⟩ rfl rfl hl.1 rfl (lv_room (Nat.le_of_ble_eq_true rfl)) dX11_type_2 ⟨Nat.le_of_ble_eq_true rfl, Nat.le_of_ble_eq_true rfl⟩) hS (fun q _ h => hFc q h) hFc (fun r1 u9 t H1 locs ht hvm hw1 hB hz1 hk1 hS => ?_)
  obtain ⟨hP1, hK1, hD1⟩ := hB
  rw [ht] at hP1
  have hK1 := va_K.moved hvm.symm hK1
  obtain ⟨hP, hD⟩ := va_join (wr := []) (w1 := [(h0, .inr (11, [.ref b1, .int 0, .ref b2, .int 0, .int 0, .ref b3, .ref b4, .int 0, .ref b5, .int 0, .int 9, .ref b6, .ref b7, .ref b8, .ref b9, .ref b10, .ref b11, .ref b12, .ref b13]))]) hP hD [0] [] rfl rfl (by decide) (by decide) hk1 hFc hP1 hD1
  have hK := (hK.sub (tys' := []) [] rfl).app hK1
  generalize H1 = H at hP hS ⊢
  have hP : va_P (dC, dI) vwCl [(h0, .inr (11, [.ref b1, .int 0, .ref b2, .int 0, .int 0, .ref b3, .ref b4, .int 0, .ref b5, .int 0, .int 9, .ref b6, .ref b7, .ref b8, .ref b9, .ref b10, .ref b11, .ref b12, .ref b13]))] H := hP
  have hD : va_D A [(h0, .inr (11, [.ref b1, .int 0, .ref b2, .int 0, .int 0, .ref b3, .ref b4, .int 0, .ref b5, .int 0, .int 9, .ref b6, .ref b7, .ref b8, .ref b9, .ref b10, .ref b11, .ref b12, .ref b13]))] := hD
  have hK : va_K (dC, dI) vwCl [] s := hK
  subst hw1
  refine W.eq (g2 := F0 m 5 ls [.null]) rfl ?_
  refine lv_astore_nN (lv' := [(3, .null), (0, .ref h0), (1, .int p0), (2, .int p1)]) hx hb dX11_type_5 rfl hl (by decide) rfl (fun ls hl => ?_)
  refine lv_aload_nN hx hb dX11_type_6 rfl (lv_at hl 0 rfl) ?_
  refine lv_ifnonnullN hx hb dX11_type_7 ?_
  refine lv_iconst (v := (-1)) hx hb dX11_type_10 (by decide) ?_
  have hP9 := hP.sub (ws' := []) [] rfl
  have hD9 := hD.sub (ws' := []) [] (by decide) rfl
  have hK9 := hK.sub (tys' := []) [] rfl
  exact W.iret (v := (-1)) hx hb hr (fun t ht hW => ⟨⟨(-1), (), rfl, rfl, by rw [ht]; exact hP9, va_K.moved hW.alike hK9, hD9⟩, hS.F ht⟩) hS.2.2 dX11_type_11
set_option maxHeartbeats 4000000 in
set_option maxRecDepth 100000 in
theorem c_X11_lacks (l : Launch) (dC : Nat → ClassId) (dI : Nat → Nat → Nat) (sz : Nat) (h0 : Nat) (b1 : Nat) (b2 : Nat) (b3 : Nat) (b4 : Nat) (b5 : Nat) (b6 : Nat) (b7 : Nat) (b8 : Nat) (b9 : Nat) (b10 : Nat) (b11 : Nat) (b12 : Nat) (b13 : Nat) (p0 : Int32) (p1 : Int32) : Met l yX11_lacks (Cond.code yX11_lacks cX11_lacks 5 (some .int) :: wp) ({ frames := 2, cells := 0, slots := 0, locals := 43 }) (cP dC dI [.ref h0, .int p0, .int p1] sz [(h0, .inr (11, [.ref b1, .int 0, .ref b2, .int 0, .int 0, .ref b3, .ref b4, .int 0, .ref b5, .int 0, .int 9, .ref b6, .ref b7, .ref b8, .ref b9, .ref b10, .ref b11, .ref b12, .ref b13]))] []) (va_Qi (fun (r : Int32) (_ : Unit) => r = -1) (fun (_ : Unit) t => cB dC dI (va_A [(h0, .inr (11, [.ref b1, .int 0, .ref b2, .int 0, .int 0, .ref b3, .ref b4, .int 0, .ref b5, .int 0, .int 9, .ref b6, .ref b7, .ref b8, .ref b9, .ref b10, .ref b11, .ref b12, .ref b13]))] sz) [] [] t) (va_A [(h0, .inr (11, [.ref b1, .int 0, .ref b2, .int 0, .int 0, .ref b3, .ref b4, .int 0, .ref b5, .int 0, .int 9, .ref b6, .ref b7, .ref b8, .ref b9, .ref b10, .ref b11, .ref b12, .ref b13]))] sz)) 0 0 (va_A [(h0, .inr (11, [.ref b1, .int 0, .ref b2, .int 0, .int 0, .ref b3, .ref b4, .int 0, .ref b5, .int 0, .int 9, .ref b6, .ref b7, .ref b8, .ref b9, .ref b10, .ref b11, .ref b12, .ref b13]))] sz) := by
  refine Met.ofW (cc := cX11_lacks) (maxL := 5) (ret := (some .int)) (by decide) rfl ?_
  intro p e s m args below meth c s₁ B hml hv
  obtain ⟨rfl, hsz, hP, hK, hD0, hN⟩ := hv
  have hx := B.exec
  have hb := B.bytes
  have hr := B.returns
  have hts := atoms_spec (ws := Cond.code yX11_lacks cX11_lacks 5 (some .int) :: wp) B.pre
  have hw : ∀ w ∈ wp, w.before _ s = true := fun w h => hts w (List.mem_cons_of_mem _ h)
  have hown : s.vm.findClass RX11 = some m.cls := findClass_of_methodNamed B.named
  have hlocks := B.notSynchronized
  subst hsz
  have hD := hD0.self (sz := s.heap.size)
  generalize hAe : va_A [(h0, .inr (11, [.ref b1, .int 0, .ref b2, .int 0, .int 0, .ref b3, .ref b4, .int 0, .ref b5, .int 0, .int 9, .ref b6, .ref b7, .ref b8, .ref b9, .ref b10, .ref b11, .ref b12, .ref b13]))] s.heap.size = A at hD ⊢
  have hA : ∀ q : Nat, s.heap.size ≤ q → A q := fun q h => by rw [← hAe]; exact Or.inr h
  have hS : va_S A s.heap s.heap [] := va_S.rf
  have hP : va_P (dC, dI) vwCl [(h0, .inr (11, [.ref b1, .int 0, .ref b2, .int 0, .int 0, .ref b3, .ref b4, .int 0, .ref b5, .int 0, .int 9, .ref b6, .ref b7, .ref b8, .ref b9, .ref b10, .ref b11, .ref b12, .ref b13]))] s.heap := hP
  have hl := lv_entry ([.ref h0, .int p0, .int p1]) (n := 5) (Nat.le_of_ble_eq_true rfl)
  rw [lg_entry_eq]
  generalize (lg_sl ([.ref h0, .int p0, .int p1]) ++ List.replicate (5 - (lg_sl ([.ref h0, .int p0, .int p1])).length) Slot.unset).toArray = ls at hl ⊢
  have hl : lv_has ls 5 [(0, .ref h0), (1, .int p0), (2, .int p1)] := hl
  refine lv_aload_n hx hb dX11_lacks_0 rfl (lv_at hl 0 rfl) ?_
  refine lv_iload_n hx hb dX11_lacks_1 rfl (lv_at hl 1 rfl) ?_
  have hPc := hP.sub (ws' := [(h0, .inr (11, [.ref b1, .int 0, .ref b2, .int 0, .int 0, .ref b3, .ref b4, .int 0, .ref b5, .int 0, .int 9, .ref b6, .ref b7, .ref b8, .ref b9, .ref b10, .ref b11, .ref b12, .ref b13]))]) [0] rfl
  have hDc := hD.sub (ws' := [(h0, .inr (11, [.ref b1, .int 0, .ref b2, .int 0, .int 0, .ref b3, .ref b4, .int 0, .ref b5, .int 0, .int 9, .ref b6, .ref b7, .ref b8, .ref b9, .ref b10, .ref b11, .ref b12, .ref b13]))]) [0] (by decide) rfl
  have hKc := hK.sub (tys' := []) [] rfl
  have hFc := va_free (wc := [(h0, .inr (11, [.ref b1, .int 0, .ref b2, .int 0, .int 0, .ref b3, .ref b4, .int 0, .ref b5, .int 0, .int 9, .ref b6, .ref b7, .ref b8, .ref b9, .ref b10, .ref b11, .ref b12, .ref b13]))]) hD hS hA [0] rfl
  refine va_callq (va_runV (As := [.int p0]) (rest := []) ⟨hx, hb, hml, hown, hw⟩ (c_X11_keptOf l dC dI _ (h0) (b1) (b2) (b3) (b4) (b5) (b6) (b7) (b8) (b9) (b10) (b11) (b12) (b13) (p0)) (cwV 1 hw (gV q156 q157 q158 q153 q155) rfl rfl rfl (by decide +kernel) ⟨Nat.le_of_ble_eq_true rfl, Nat.le_of_ble_eq_true rfl⟩) ⟨cP_blind, va_recv hKc hPc (ci := 11) (q0 := 0) rfl rfl, cP_pre hPc hKc hDc hN⟩ rfl rfl hl.1 rfl (lv_room (Nat.le_of_ble_eq_true rfl)) dX11_lacks_2 ⟨Nat.le_of_ble_eq_true rfl, Nat.le_of_ble_eq_true rfl⟩) hS (fun q _ h => hFc q h) hFc (fun r1 u9 t H1 locs ht hvm hw1 hB hz1 hk1 hS => ?_)
  obtain ⟨hP1, hK1, hD1⟩ := hB
  rw [ht] at hP1
  have hK1 := va_K.moved hvm.symm hK1
  obtain ⟨hP, hD⟩ := va_join (wr := []) (w1 := [(h0, .inr (11, [.ref b1, .int 0, .ref b2, .int 0, .int 0, .ref b3, .ref b4, .int 0, .ref b5, .int 0, .int 9, .ref b6, .ref b7, .ref b8, .ref b9, .ref b10, .ref b11, .ref b12, .ref b13]))]) hP hD [0] [] rfl rfl (by decide) (by decide) hk1 hFc hP1 hD1
  have hK := (hK.sub (tys' := []) [] rfl).app hK1
  generalize H1 = H at hP hS ⊢
  have hP : va_P (dC, dI) vwCl [(h0, .inr (11, [.ref b1, .int 0, .ref b2, .int 0, .int 0, .ref b3, .ref b4, .int 0, .ref b5, .int 0, .int 9, .ref b6, .ref b7, .ref b8, .ref b9, .ref b10, .ref b11, .ref b12, .ref b13]))] H := hP
  have hD : va_D A [(h0, .inr (11, [.ref b1, .int 0, .ref b2, .int 0, .int 0, .ref b3, .ref b4, .int 0, .ref b5, .int 0, .int 9, .ref b6, .ref b7, .ref b8, .ref b9, .ref b10, .ref b11, .ref b12, .ref b13]))] := hD
  have hK : va_K (dC, dI) vwCl [] s := hK
  subst hw1
  refine W.eq (g2 := F0 m 5 ls [.null]) rfl ?_
  refine lv_astore_nN (lv' := [(3, .null), (0, .ref h0), (1, .int p0), (2, .int p1)]) hx hb dX11_lacks_5 rfl hl (by decide) rfl (fun ls hl => ?_)
  refine lv_aload_nN hx hb dX11_lacks_6 rfl (lv_at hl 0 rfl) ?_
  refine lv_ifnullN (tgt := 22) hx hb dX11_lacks_7 (by decide) ?_
  refine lv_iconst (v := (-1)) hx hb dX11_lacks_22 (by decide) ?_
  have hP9 := hP.sub (ws' := []) [] rfl
  have hD9 := hD.sub (ws' := []) [] (by decide) rfl
  have hK9 := hK.sub (tys' := []) [] rfl
  exact W.iret (v := (-1)) hx hb hr (fun t ht hW => ⟨⟨(-1), (), rfl, rfl, by rw [ht]; exact hP9, va_K.moved hW.alike hK9, hD9⟩, hS.F ht⟩) hS.2.2 dX11_lacks_23
set_option maxHeartbeats 4000000 in
set_option maxRecDepth 100000 in
theorem c_X11_field (l : Launch) (dC : Nat → ClassId) (dI : Nat → Nat → Nat) (sz : Nat) (h0 : Nat) (b1 : Nat) (b2 : Nat) (b3 : Nat) (b4 : Nat) (b5 : Nat) (b6 : Nat) (b7 : Nat) (b8 : Nat) (b9 : Nat) (b10 : Nat) (b11 : Nat) (b12 : Nat) (b13 : Nat) (p0 : Int32) (p1 : Int32) : Met l yX11_field (Cond.code yX11_field cX11_field 6 (some .int) :: wp) ({ frames := 2, cells := 0, slots := 0, locals := 43 }) (cP dC dI [.ref h0, .int p0, .int p1] sz [(h0, .inr (11, [.ref b1, .int 0, .ref b2, .int 0, .int 0, .ref b3, .ref b4, .int 0, .ref b5, .int 0, .int 9, .ref b6, .ref b7, .ref b8, .ref b9, .ref b10, .ref b11, .ref b12, .ref b13]))] []) (va_Qi (fun (r : Int32) (_ : Unit) => r = -1) (fun (_ : Unit) t => cB dC dI (va_A [(h0, .inr (11, [.ref b1, .int 0, .ref b2, .int 0, .int 0, .ref b3, .ref b4, .int 0, .ref b5, .int 0, .int 9, .ref b6, .ref b7, .ref b8, .ref b9, .ref b10, .ref b11, .ref b12, .ref b13]))] sz) [] [] t) (va_A [(h0, .inr (11, [.ref b1, .int 0, .ref b2, .int 0, .int 0, .ref b3, .ref b4, .int 0, .ref b5, .int 0, .int 9, .ref b6, .ref b7, .ref b8, .ref b9, .ref b10, .ref b11, .ref b12, .ref b13]))] sz)) 0 0 (va_A [(h0, .inr (11, [.ref b1, .int 0, .ref b2, .int 0, .int 0, .ref b3, .ref b4, .int 0, .ref b5, .int 0, .int 9, .ref b6, .ref b7, .ref b8, .ref b9, .ref b10, .ref b11, .ref b12, .ref b13]))] sz) := by
  refine Met.ofW (cc := cX11_field) (maxL := 6) (ret := (some .int)) (by decide) rfl ?_
  intro p e s m args below meth c s₁ B hml hv
  obtain ⟨rfl, hsz, hP, hK, hD0, hN⟩ := hv
  have hx := B.exec
  have hb := B.bytes
  have hr := B.returns
  have hts := atoms_spec (ws := Cond.code yX11_field cX11_field 6 (some .int) :: wp) B.pre
  have hw : ∀ w ∈ wp, w.before _ s = true := fun w h => hts w (List.mem_cons_of_mem _ h)
  have hown : s.vm.findClass RX11 = some m.cls := findClass_of_methodNamed B.named
  have hlocks := B.notSynchronized
  subst hsz
  have hD := hD0.self (sz := s.heap.size)
  generalize hAe : va_A [(h0, .inr (11, [.ref b1, .int 0, .ref b2, .int 0, .int 0, .ref b3, .ref b4, .int 0, .ref b5, .int 0, .int 9, .ref b6, .ref b7, .ref b8, .ref b9, .ref b10, .ref b11, .ref b12, .ref b13]))] s.heap.size = A at hD ⊢
  have hA : ∀ q : Nat, s.heap.size ≤ q → A q := fun q h => by rw [← hAe]; exact Or.inr h
  have hS : va_S A s.heap s.heap [] := va_S.rf
  have hP : va_P (dC, dI) vwCl [(h0, .inr (11, [.ref b1, .int 0, .ref b2, .int 0, .int 0, .ref b3, .ref b4, .int 0, .ref b5, .int 0, .int 9, .ref b6, .ref b7, .ref b8, .ref b9, .ref b10, .ref b11, .ref b12, .ref b13]))] s.heap := hP
  have hl := lv_entry ([.ref h0, .int p0, .int p1]) (n := 6) (Nat.le_of_ble_eq_true rfl)
  rw [lg_entry_eq]
  generalize (lg_sl ([.ref h0, .int p0, .int p1]) ++ List.replicate (6 - (lg_sl ([.ref h0, .int p0, .int p1])).length) Slot.unset).toArray = ls at hl ⊢
  have hl : lv_has ls 6 [(0, .ref h0), (1, .int p0), (2, .int p1)] := hl
  refine lv_aload_n hx hb dX11_field_0 rfl (lv_at hl 0 rfl) ?_
  refine lv_iload_n hx hb dX11_field_1 rfl (lv_at hl 1 rfl) ?_
  have hPc := hP.sub (ws' := [(h0, .inr (11, [.ref b1, .int 0, .ref b2, .int 0, .int 0, .ref b3, .ref b4, .int 0, .ref b5, .int 0, .int 9, .ref b6, .ref b7, .ref b8, .ref b9, .ref b10, .ref b11, .ref b12, .ref b13]))]) [0] rfl
  have hDc := hD.sub (ws' := [(h0, .inr (11, [.ref b1, .int 0, .ref b2, .int 0, .int 0, .ref b3, .ref b4, .int 0, .ref b5, .int 0, .int 9, .ref b6, .ref b7, .ref b8, .ref b9, .ref b10, .ref b11, .ref b12, .ref b13]))]) [0] (by decide) rfl
  have hKc := hK.sub (tys' := []) [] rfl
  have hFc := va_free (wc := [(h0, .inr (11, [.ref b1, .int 0, .ref b2, .int 0, .int 0, .ref b3, .ref b4, .int 0, .ref b5, .int 0, .int 9, .ref b6, .ref b7, .ref b8, .ref b9, .ref b10, .ref b11, .ref b12, .ref b13]))]) hD hS hA [0] rfl
  refine va_callq (va_runV (As := [.int p0]) (rest := []) ⟨hx, hb, hml, hown, hw⟩ (c_X11_keptOf l dC dI _ (h0) (b1) (b2) (b3) (b4) (b5) (b6) (b7) (b8) (b9) (b10) (b11) (b12) (b13) (p0)) (cwV 1 hw (gV q156 q157 q158 q153 q155) rfl rfl rfl (by decide +kernel) ⟨Nat.le_of_ble_eq_true rfl, Nat.le_of_ble_eq_true rfl⟩) ⟨cP_blind, va_recv hKc hPc (ci := 11) (q0 := 0) rfl rfl, cP_pre hPc hKc hDc hN⟩ rfl rfl hl.1 rfl (lv_room (Nat.le_of_ble_eq_true rfl)) dX11_field_2 ⟨Nat.le_of_ble_eq_true rfl, Nat.le_of_ble_eq_true rfl⟩) hS (fun q _ h => hFc q h) hFc (fun r1 u9 t H1 locs ht hvm hw1 hB hz1 hk1 hS => ?_)
  obtain ⟨hP1, hK1, hD1⟩ := hB
  rw [ht] at hP1
  have hK1 := va_K.moved hvm.symm hK1
  obtain ⟨hP, hD⟩ := va_join (wr := []) (w1 := [(h0, .inr (11, [.ref b1, .int 0, .ref b2, .int 0, .int 0, .ref b3, .ref b4, .int 0, .ref b5, .int 0, .int 9, .ref b6, .ref b7, .ref b8, .ref b9, .ref b10, .ref b11, .ref b12, .ref b13]))]) hP hD [0] [] rfl rfl (by decide) (by decide) hk1 hFc hP1 hD1
  have hK := (hK.sub (tys' := []) [] rfl).app hK1
  generalize H1 = H at hP hS ⊢
  have hP : va_P (dC, dI) vwCl [(h0, .inr (11, [.ref b1, .int 0, .ref b2, .int 0, .int 0, .ref b3, .ref b4, .int 0, .ref b5, .int 0, .int 9, .ref b6, .ref b7, .ref b8, .ref b9, .ref b10, .ref b11, .ref b12, .ref b13]))] H := hP
  have hD : va_D A [(h0, .inr (11, [.ref b1, .int 0, .ref b2, .int 0, .int 0, .ref b3, .ref b4, .int 0, .ref b5, .int 0, .int 9, .ref b6, .ref b7, .ref b8, .ref b9, .ref b10, .ref b11, .ref b12, .ref b13]))] := hD
  have hK : va_K (dC, dI) vwCl [] s := hK
  subst hw1
  refine W.eq (g2 := F0 m 5 ls [.null]) rfl ?_
  refine lv_astore_nN (lv' := [(3, .null), (0, .ref h0), (1, .int p0), (2, .int p1)]) hx hb dX11_field_5 rfl hl (by decide) rfl (fun ls hl => ?_)
  refine lv_aload_nN hx hb dX11_field_6 rfl (lv_at hl 0 rfl) ?_
  refine lv_ifnullN (tgt := 17) hx hb dX11_field_7 (by decide) ?_
  refine lv_iconst (v := (-1)) hx hb dX11_field_17 (by decide) ?_
  have hP9 := hP.sub (ws' := []) [] rfl
  have hD9 := hD.sub (ws' := []) [] (by decide) rfl
  have hK9 := hK.sub (tys' := []) [] rfl
  exact W.iret (v := (-1)) hx hb hr (fun t ht hW => ⟨⟨(-1), (), rfl, rfl, by rw [ht]; exact hP9, va_K.moved hW.alike hK9, hD9⟩, hS.F ht⟩) hS.2.2 dX11_field_18
set_option maxHeartbeats 4000000 in
set_option maxRecDepth 100000 in
theorem c_X11_side (l : Launch) (dC : Nat → ClassId) (dI : Nat → Nat → Nat) (sz : Nat) (h0 : Nat) (b1 : Nat) (b2 : Nat) (b3 : Nat) (b4 : Nat) (b5 : Nat) (b6 : Nat) (b7 : Nat) (b8 : Nat) (b9 : Nat) (b10 : Nat) (b11 : Nat) (b12 : Nat) (b13 : Nat) (p0 : Int32) (p1 : Int32) : Met l yX11_side (Cond.code yX11_side cX11_side 5 (some .int) :: wp) ({ frames := 2, cells := 0, slots := 0, locals := 43 }) (cP dC dI [.ref h0, .int p0, .int p1] sz [(h0, .inr (11, [.ref b1, .int 0, .ref b2, .int 0, .int 0, .ref b3, .ref b4, .int 0, .ref b5, .int 0, .int 9, .ref b6, .ref b7, .ref b8, .ref b9, .ref b10, .ref b11, .ref b12, .ref b13]))] []) (va_Qi (fun (r : Int32) (_ : Unit) => r = -1) (fun (_ : Unit) t => cB dC dI (va_A [(h0, .inr (11, [.ref b1, .int 0, .ref b2, .int 0, .int 0, .ref b3, .ref b4, .int 0, .ref b5, .int 0, .int 9, .ref b6, .ref b7, .ref b8, .ref b9, .ref b10, .ref b11, .ref b12, .ref b13]))] sz) [] [] t) (va_A [(h0, .inr (11, [.ref b1, .int 0, .ref b2, .int 0, .int 0, .ref b3, .ref b4, .int 0, .ref b5, .int 0, .int 9, .ref b6, .ref b7, .ref b8, .ref b9, .ref b10, .ref b11, .ref b12, .ref b13]))] sz)) 0 0 (va_A [(h0, .inr (11, [.ref b1, .int 0, .ref b2, .int 0, .int 0, .ref b3, .ref b4, .int 0, .ref b5, .int 0, .int 9, .ref b6, .ref b7, .ref b8, .ref b9, .ref b10, .ref b11, .ref b12, .ref b13]))] sz) := by
  refine Met.ofW (cc := cX11_side) (maxL := 5) (ret := (some .int)) (by decide) rfl ?_
  intro p e s m args below meth c s₁ B hml hv
  obtain ⟨rfl, hsz, hP, hK, hD0, hN⟩ := hv
  have hx := B.exec
  have hb := B.bytes
  have hr := B.returns
  have hts := atoms_spec (ws := Cond.code yX11_side cX11_side 5 (some .int) :: wp) B.pre
  have hw : ∀ w ∈ wp, w.before _ s = true := fun w h => hts w (List.mem_cons_of_mem _ h)
  have hown : s.vm.findClass RX11 = some m.cls := findClass_of_methodNamed B.named
  have hlocks := B.notSynchronized
  subst hsz
  have hD := hD0.self (sz := s.heap.size)
  generalize hAe : va_A [(h0, .inr (11, [.ref b1, .int 0, .ref b2, .int 0, .int 0, .ref b3, .ref b4, .int 0, .ref b5, .int 0, .int 9, .ref b6, .ref b7, .ref b8, .ref b9, .ref b10, .ref b11, .ref b12, .ref b13]))] s.heap.size = A at hD ⊢
  have hA : ∀ q : Nat, s.heap.size ≤ q → A q := fun q h => by rw [← hAe]; exact Or.inr h
  have hS : va_S A s.heap s.heap [] := va_S.rf
  have hP : va_P (dC, dI) vwCl [(h0, .inr (11, [.ref b1, .int 0, .ref b2, .int 0, .int 0, .ref b3, .ref b4, .int 0, .ref b5, .int 0, .int 9, .ref b6, .ref b7, .ref b8, .ref b9, .ref b10, .ref b11, .ref b12, .ref b13]))] s.heap := hP
  have hl := lv_entry ([.ref h0, .int p0, .int p1]) (n := 5) (Nat.le_of_ble_eq_true rfl)
  rw [lg_entry_eq]
  generalize (lg_sl ([.ref h0, .int p0, .int p1]) ++ List.replicate (5 - (lg_sl ([.ref h0, .int p0, .int p1])).length) Slot.unset).toArray = ls at hl ⊢
  have hl : lv_has ls 5 [(0, .ref h0), (1, .int p0), (2, .int p1)] := hl
  refine lv_aload_n hx hb dX11_side_0 rfl (lv_at hl 0 rfl) ?_
  refine lv_iload_n hx hb dX11_side_1 rfl (lv_at hl 1 rfl) ?_
  have hPc := hP.sub (ws' := [(h0, .inr (11, [.ref b1, .int 0, .ref b2, .int 0, .int 0, .ref b3, .ref b4, .int 0, .ref b5, .int 0, .int 9, .ref b6, .ref b7, .ref b8, .ref b9, .ref b10, .ref b11, .ref b12, .ref b13]))]) [0] rfl
  have hDc := hD.sub (ws' := [(h0, .inr (11, [.ref b1, .int 0, .ref b2, .int 0, .int 0, .ref b3, .ref b4, .int 0, .ref b5, .int 0, .int 9, .ref b6, .ref b7, .ref b8, .ref b9, .ref b10, .ref b11, .ref b12, .ref b13]))]) [0] (by decide) rfl
  have hKc := hK.sub (tys' := []) [] rfl
  have hFc := va_free (wc := [(h0, .inr (11, [.ref b1, .int 0, .ref b2, .int 0, .int 0, .ref b3, .ref b4, .int 0, .ref b5, .int 0, .int 9, .ref b6, .ref b7, .ref b8, .ref b9, .ref b10, .ref b11, .ref b12, .ref b13]))]) hD hS hA [0] rfl
  refine va_callq (va_runV (As := [.int p0]) (rest := []) ⟨hx, hb, hml, hown, hw⟩ (c_X11_keptOf l dC dI _ (h0) (b1) (b2) (b3) (b4) (b5) (b6) (b7) (b8) (b9) (b10) (b11) (b12) (b13) (p0)) (cwV 1 hw (gV q156 q157 q158 q153 q155) rfl rfl rfl (by decide +kernel) ⟨Nat.le_of_ble_eq_true rfl, Nat.le_of_ble_eq_true rfl⟩) ⟨cP_blind, va_recv hKc hPc (ci := 11) (q0 := 0) rfl rfl, cP_pre hPc hKc hDc hN⟩ rfl rfl hl.1 rfl (lv_room (Nat.le_of_ble_eq_true rfl)) dX11_side_2 ⟨Nat.le_of_ble_eq_true rfl, Nat.le_of_ble_eq_true rfl⟩) hS (fun q _ h => hFc q h) hFc (fun r1 u9 t H1 locs ht hvm hw1 hB hz1 hk1 hS => ?_)
  obtain ⟨hP1, hK1, hD1⟩ := hB
  rw [ht] at hP1
  have hK1 := va_K.moved hvm.symm hK1
  obtain ⟨hP, hD⟩ := va_join (wr := []) (w1 := [(h0, .inr (11, [.ref b1, .int 0, .ref b2, .int 0, .int 0, .ref b3, .ref b4, .int 0, .ref b5, .int 0, .int 9, .ref b6, .ref b7, .ref b8, .ref b9, .ref b10, .ref b11, .ref b12, .ref b13]))]) hP hD [0] [] rfl rfl (by decide) (by decide) hk1 hFc hP1 hD1
  have hK := (hK.sub (tys' := []) [] rfl).app hK1
  generalize H1 = H at hP hS ⊢
  have hP : va_P (dC, dI) vwCl [(h0, .inr (11, [.ref b1, .int 0, .ref b2, .int 0, .int 0, .ref b3, .ref b4, .int 0, .ref b5, .int 0, .int 9, .ref b6, .ref b7, .ref b8, .ref b9, .ref b10, .ref b11, .ref b12, .ref b13]))] H := hP
  have hD : va_D A [(h0, .inr (11, [.ref b1, .int 0, .ref b2, .int 0, .int 0, .ref b3, .ref b4, .int 0, .ref b5, .int 0, .int 9, .ref b6, .ref b7, .ref b8, .ref b9, .ref b10, .ref b11, .ref b12, .ref b13]))] := hD
  have hK : va_K (dC, dI) vwCl [] s := hK
  subst hw1
  refine W.eq (g2 := F0 m 5 ls [.null]) rfl ?_
  refine lv_astore_nN (lv' := [(3, .null), (0, .ref h0), (1, .int p0), (2, .int p1)]) hx hb dX11_side_5 rfl hl (by decide) rfl (fun ls hl => ?_)
  refine lv_aload_nN hx hb dX11_side_6 rfl (lv_at hl 0 rfl) ?_
  refine lv_ifnullN (tgt := 19) hx hb dX11_side_7 (by decide) ?_
  refine lv_iconst (v := (-1)) hx hb dX11_side_19 (by decide) ?_
  have hP9 := hP.sub (ws' := []) [] rfl
  have hD9 := hD.sub (ws' := []) [] (by decide) rfl
  have hK9 := hK.sub (tys' := []) [] rfl
  exact W.iret (v := (-1)) hx hb hr (fun t ht hW => ⟨⟨(-1), (), rfl, rfl, by rw [ht]; exact hP9, va_K.moved hW.alike hK9, hD9⟩, hS.F ht⟩) hS.2.2 dX11_side_20
set_option maxHeartbeats 4000000 in
set_option maxRecDepth 100000 in
theorem c_X11_above (l : Launch) (dC : Nat → ClassId) (dI : Nat → Nat → Nat) (sz : Nat) (h0 : Nat) (b1 : Nat) (b2 : Nat) (b3 : Nat) (b4 : Nat) (b5 : Nat) (b6 : Nat) (b7 : Nat) (b8 : Nat) (b9 : Nat) (b10 : Nat) (b11 : Nat) (b12 : Nat) (b13 : Nat) (p0 : Int32) (p1 : Int32) : Met l yX11_above (Cond.code yX11_above cX11_above 5 (some .int) :: wp) ({ frames := 2, cells := 0, slots := 0, locals := 43 }) (cP dC dI [.ref h0, .int p0, .int p1] sz [(h0, .inr (11, [.ref b1, .int 0, .ref b2, .int 0, .int 0, .ref b3, .ref b4, .int 0, .ref b5, .int 0, .int 9, .ref b6, .ref b7, .ref b8, .ref b9, .ref b10, .ref b11, .ref b12, .ref b13]))] []) (va_Qi (fun (r : Int32) (_ : Unit) => r = -1) (fun (_ : Unit) t => cB dC dI (va_A [(h0, .inr (11, [.ref b1, .int 0, .ref b2, .int 0, .int 0, .ref b3, .ref b4, .int 0, .ref b5, .int 0, .int 9, .ref b6, .ref b7, .ref b8, .ref b9, .ref b10, .ref b11, .ref b12, .ref b13]))] sz) [] [] t) (va_A [(h0, .inr (11, [.ref b1, .int 0, .ref b2, .int 0, .int 0, .ref b3, .ref b4, .int 0, .ref b5, .int 0, .int 9, .ref b6, .ref b7, .ref b8, .ref b9, .ref b10, .ref b11, .ref b12, .ref b13]))] sz)) 0 0 (va_A [(h0, .inr (11, [.ref b1, .int 0, .ref b2, .int 0, .int 0, .ref b3, .ref b4, .int 0, .ref b5, .int 0, .int 9, .ref b6, .ref b7, .ref b8, .ref b9, .ref b10, .ref b11, .ref b12, .ref b13]))] sz) := by
  refine Met.ofW (cc := cX11_above) (maxL := 5) (ret := (some .int)) (by decide) rfl ?_
  intro p e s m args below meth c s₁ B hml hv
  obtain ⟨rfl, hsz, hP, hK, hD0, hN⟩ := hv
  have hx := B.exec
  have hb := B.bytes
  have hr := B.returns
  have hts := atoms_spec (ws := Cond.code yX11_above cX11_above 5 (some .int) :: wp) B.pre
  have hw : ∀ w ∈ wp, w.before _ s = true := fun w h => hts w (List.mem_cons_of_mem _ h)
  have hown : s.vm.findClass RX11 = some m.cls := findClass_of_methodNamed B.named
  have hlocks := B.notSynchronized
  subst hsz
  have hD := hD0.self (sz := s.heap.size)
  generalize hAe : va_A [(h0, .inr (11, [.ref b1, .int 0, .ref b2, .int 0, .int 0, .ref b3, .ref b4, .int 0, .ref b5, .int 0, .int 9, .ref b6, .ref b7, .ref b8, .ref b9, .ref b10, .ref b11, .ref b12, .ref b13]))] s.heap.size = A at hD ⊢
  have hA : ∀ q : Nat, s.heap.size ≤ q → A q := fun q h => by rw [← hAe]; exact Or.inr h
  have hS : va_S A s.heap s.heap [] := va_S.rf
  have hP : va_P (dC, dI) vwCl [(h0, .inr (11, [.ref b1, .int 0, .ref b2, .int 0, .int 0, .ref b3, .ref b4, .int 0, .ref b5, .int 0, .int 9, .ref b6, .ref b7, .ref b8, .ref b9, .ref b10, .ref b11, .ref b12, .ref b13]))] s.heap := hP
  have hl := lv_entry ([.ref h0, .int p0, .int p1]) (n := 5) (Nat.le_of_ble_eq_true rfl)
  rw [lg_entry_eq]
  generalize (lg_sl ([.ref h0, .int p0, .int p1]) ++ List.replicate (5 - (lg_sl ([.ref h0, .int p0, .int p1])).length) Slot.unset).toArray = ls at hl ⊢
  have hl : lv_has ls 5 [(0, .ref h0), (1, .int p0), (2, .int p1)] := hl
  refine lv_aload_n hx hb dX11_above_0 rfl (lv_at hl 0 rfl) ?_
  refine lv_iload_n hx hb dX11_above_1 rfl (lv_at hl 1 rfl) ?_
  have hPc := hP.sub (ws' := [(h0, .inr (11, [.ref b1, .int 0, .ref b2, .int 0, .int 0, .ref b3, .ref b4, .int 0, .ref b5, .int 0, .int 9, .ref b6, .ref b7, .ref b8, .ref b9, .ref b10, .ref b11, .ref b12, .ref b13]))]) [0] rfl
  have hDc := hD.sub (ws' := [(h0, .inr (11, [.ref b1, .int 0, .ref b2, .int 0, .int 0, .ref b3, .ref b4, .int 0, .ref b5, .int 0, .int 9, .ref b6, .ref b7, .ref b8, .ref b9, .ref b10, .ref b11, .ref b12, .ref b13]))]) [0] (by decide) rfl
  have hKc := hK.sub (tys' := []) [] rfl
  have hFc := va_free (wc := [(h0, .inr (11, [.ref b1, .int 0, .ref b2, .int 0, .int 0, .ref b3, .ref b4, .int 0, .ref b5, .int 0, .int 9, .ref b6, .ref b7, .ref b8, .ref b9, .ref b10, .ref b11, .ref b12, .ref b13]))]) hD hS hA [0] rfl
  refine va_callq (va_runV (As := [.int p0]) (rest := []) ⟨hx, hb, hml, hown, hw⟩ (c_X11_keptOf l dC dI _ (h0) (b1) (b2) (b3) (b4) (b5) (b6) (b7) (b8) (b9) (b10) (b11) (b12) (b13) (p0)) (cwV 1 hw (gV q156 q157 q158 q153 q155) rfl rfl rfl (by decide +kernel) ⟨Nat.le_of_ble_eq_true rfl, Nat.le_of_ble_eq_true rfl⟩) ⟨cP_blind, va_recv hKc hPc (ci := 11) (q0 := 0) rfl rfl, cP_pre hPc hKc hDc hN⟩ rfl rfl hl.1 rfl (lv_room (Nat.le_of_ble_eq_true rfl)) dX11_above_2 ⟨Nat.le_of_ble_eq_true rfl, Nat.le_of_ble_eq_true rfl⟩) hS (fun q _ h => hFc q h) hFc (fun r1 u9 t H1 locs ht hvm hw1 hB hz1 hk1 hS => ?_)
  obtain ⟨hP1, hK1, hD1⟩ := hB
  rw [ht] at hP1
  have hK1 := va_K.moved hvm.symm hK1
  obtain ⟨hP, hD⟩ := va_join (wr := []) (w1 := [(h0, .inr (11, [.ref b1, .int 0, .ref b2, .int 0, .int 0, .ref b3, .ref b4, .int 0, .ref b5, .int 0, .int 9, .ref b6, .ref b7, .ref b8, .ref b9, .ref b10, .ref b11, .ref b12, .ref b13]))]) hP hD [0] [] rfl rfl (by decide) (by decide) hk1 hFc hP1 hD1
  have hK := (hK.sub (tys' := []) [] rfl).app hK1
  generalize H1 = H at hP hS ⊢
  have hP : va_P (dC, dI) vwCl [(h0, .inr (11, [.ref b1, .int 0, .ref b2, .int 0, .int 0, .ref b3, .ref b4, .int 0, .ref b5, .int 0, .int 9, .ref b6, .ref b7, .ref b8, .ref b9, .ref b10, .ref b11, .ref b12, .ref b13]))] H := hP
  have hD : va_D A [(h0, .inr (11, [.ref b1, .int 0, .ref b2, .int 0, .int 0, .ref b3, .ref b4, .int 0, .ref b5, .int 0, .int 9, .ref b6, .ref b7, .ref b8, .ref b9, .ref b10, .ref b11, .ref b12, .ref b13]))] := hD
  have hK : va_K (dC, dI) vwCl [] s := hK
  subst hw1
  refine W.eq (g2 := F0 m 5 ls [.null]) rfl ?_
  refine lv_astore_nN (lv' := [(3, .null), (0, .ref h0), (1, .int p0), (2, .int p1)]) hx hb dX11_above_5 rfl hl (by decide) rfl (fun ls hl => ?_)
  refine lv_aload_n hx hb dX11_above_6 rfl (lv_at hl 1 rfl) ?_
  refine lv_iload_n hx hb dX11_above_7 rfl (lv_at hl 3 rfl) ?_
  have hPc := hP.sub (ws' := [(h0, .inr (11, [.ref b1, .int 0, .ref b2, .int 0, .int 0, .ref b3, .ref b4, .int 0, .ref b5, .int 0, .int 9, .ref b6, .ref b7, .ref b8, .ref b9, .ref b10, .ref b11, .ref b12, .ref b13]))]) [0] rfl
  have hDc := hD.sub (ws' := [(h0, .inr (11, [.ref b1, .int 0, .ref b2, .int 0, .int 0, .ref b3, .ref b4, .int 0, .ref b5, .int 0, .int 9, .ref b6, .ref b7, .ref b8, .ref b9, .ref b10, .ref b11, .ref b12, .ref b13]))]) [0] (by decide) rfl
  have hKc := hK.sub (tys' := []) [] rfl
  have hFc := va_free (wc := [(h0, .inr (11, [.ref b1, .int 0, .ref b2, .int 0, .int 0, .ref b3, .ref b4, .int 0, .ref b5, .int 0, .int 9, .ref b6, .ref b7, .ref b8, .ref b9, .ref b10, .ref b11, .ref b12, .ref b13]))]) hD hS hA [0] rfl
  refine va_callq (va_runV (As := [.int p1]) (rest := []) ⟨hx, hb, hml, hown, hw⟩ (c_X11_keptOf l dC dI _ (h0) (b1) (b2) (b3) (b4) (b5) (b6) (b7) (b8) (b9) (b10) (b11) (b12) (b13) (p1)) (cwV 1 hw (gV q156 q157 q158 q153 q155) rfl rfl rfl (by decide +kernel) ⟨Nat.le_of_ble_eq_true rfl, Nat.le_of_ble_eq_true rfl⟩) ⟨cP_blind, va_recv hKc hPc (ci := 11) (q0 := 0) rfl rfl, cP_pre hPc hKc hDc hN⟩ rfl rfl hl.1 rfl (lv_room (Nat.le_of_ble_eq_true rfl)) dX11_above_8 ⟨Nat.le_of_ble_eq_true rfl, Nat.le_of_ble_eq_true rfl⟩) hS (fun q _ h => hFc q h) hFc (fun r2 u9 t H1 locs ht hvm hw1 hB hz1 hk1 hS => ?_)
  obtain ⟨hP1, hK1, hD1⟩ := hB
  rw [ht] at hP1
  have hK1 := va_K.moved hvm.symm hK1
  obtain ⟨hP, hD⟩ := va_join (wr := []) (w1 := [(h0, .inr (11, [.ref b1, .int 0, .ref b2, .int 0, .int 0, .ref b3, .ref b4, .int 0, .ref b5, .int 0, .int 9, .ref b6, .ref b7, .ref b8, .ref b9, .ref b10, .ref b11, .ref b12, .ref b13]))]) hP hD [0] [] rfl rfl (by decide) (by decide) hk1 hFc hP1 hD1
  have hK := (hK.sub (tys' := []) [] rfl).app hK1
  generalize H1 = H at hP hS ⊢
  have hP : va_P (dC, dI) vwCl [(h0, .inr (11, [.ref b1, .int 0, .ref b2, .int 0, .int 0, .ref b3, .ref b4, .int 0, .ref b5, .int 0, .int 9, .ref b6, .ref b7, .ref b8, .ref b9, .ref b10, .ref b11, .ref b12, .ref b13]))] H := hP
  have hD : va_D A [(h0, .inr (11, [.ref b1, .int 0, .ref b2, .int 0, .int 0, .ref b3, .ref b4, .int 0, .ref b5, .int 0, .int 9, .ref b6, .ref b7, .ref b8, .ref b9, .ref b10, .ref b11, .ref b12, .ref b13]))] := hD
  have hK : va_K (dC, dI) vwCl [] s := hK
  subst hw1
  refine W.eq (g2 := F0 m 11 ls [.null]) rfl ?_
  refine lv_astoreN (lv' := [(4, .null), (3, .null), (0, .ref h0), (1, .int p0), (2, .int p1)]) hx hb dX11_above_11 hl (by decide) rfl (fun ls hl => ?_)
  refine lv_aload_nN hx hb dX11_above_13 rfl (lv_at hl 1 rfl) ?_
  refine lv_ifnullN (tgt := 22) hx hb dX11_above_14 (by decide) ?_
  refine lv_iconst (v := (-1)) hx hb dX11_above_22 (by decide) ?_
  have hP9 := hP.sub (ws' := []) [] rfl
  have hD9 := hD.sub (ws' := []) [] (by decide) rfl
  have hK9 := hK.sub (tys' := []) [] rfl
  exact W.iret (v := (-1)) hx hb hr (fun t ht hW => ⟨⟨(-1), (), rfl, rfl, by rw [ht]; exact hP9, va_K.moved hW.alike hK9, hD9⟩, hS.F ht⟩) hS.2.2 dX11_above_23
set_option maxHeartbeats 4000000 in
set_option maxRecDepth 100000 in
theorem c_X11_meets (l : Launch) (dC : Nat → ClassId) (dI : Nat → Nat → Nat) (sz : Nat) (h0 : Nat) (b1 : Nat) (b2 : Nat) (b3 : Nat) (b4 : Nat) (b5 : Nat) (b6 : Nat) (b7 : Nat) (b8 : Nat) (b9 : Nat) (b10 : Nat) (b11 : Nat) (b12 : Nat) (b13 : Nat) (p0 : Int32) (p1 : Int32) : Met l yX11_meets (Cond.code yX11_meets cX11_meets 6 (some .int) :: wp) ({ frames := 2, cells := 0, slots := 0, locals := 43 }) (cP dC dI [.ref h0, .int p0, .int p1] sz [(h0, .inr (11, [.ref b1, .int 0, .ref b2, .int 0, .int 0, .ref b3, .ref b4, .int 0, .ref b5, .int 0, .int 9, .ref b6, .ref b7, .ref b8, .ref b9, .ref b10, .ref b11, .ref b12, .ref b13]))] []) (va_Qi (fun (r : Int32) (_ : Unit) => r = -1) (fun (_ : Unit) t => cB dC dI (va_A [(h0, .inr (11, [.ref b1, .int 0, .ref b2, .int 0, .int 0, .ref b3, .ref b4, .int 0, .ref b5, .int 0, .int 9, .ref b6, .ref b7, .ref b8, .ref b9, .ref b10, .ref b11, .ref b12, .ref b13]))] sz) [] [] t) (va_A [(h0, .inr (11, [.ref b1, .int 0, .ref b2, .int 0, .int 0, .ref b3, .ref b4, .int 0, .ref b5, .int 0, .int 9, .ref b6, .ref b7, .ref b8, .ref b9, .ref b10, .ref b11, .ref b12, .ref b13]))] sz)) 0 0 (va_A [(h0, .inr (11, [.ref b1, .int 0, .ref b2, .int 0, .int 0, .ref b3, .ref b4, .int 0, .ref b5, .int 0, .int 9, .ref b6, .ref b7, .ref b8, .ref b9, .ref b10, .ref b11, .ref b12, .ref b13]))] sz) := by
  refine Met.ofW (cc := cX11_meets) (maxL := 6) (ret := (some .int)) (by decide) rfl ?_
  intro p e s m args below meth c s₁ B hml hv
  obtain ⟨rfl, hsz, hP, hK, hD0, hN⟩ := hv
  have hx := B.exec
  have hb := B.bytes
  have hr := B.returns
  have hts := atoms_spec (ws := Cond.code yX11_meets cX11_meets 6 (some .int) :: wp) B.pre
  have hw : ∀ w ∈ wp, w.before _ s = true := fun w h => hts w (List.mem_cons_of_mem _ h)
  have hown : s.vm.findClass RX11 = some m.cls := findClass_of_methodNamed B.named
  have hlocks := B.notSynchronized
  subst hsz
  have hD := hD0.self (sz := s.heap.size)
  generalize hAe : va_A [(h0, .inr (11, [.ref b1, .int 0, .ref b2, .int 0, .int 0, .ref b3, .ref b4, .int 0, .ref b5, .int 0, .int 9, .ref b6, .ref b7, .ref b8, .ref b9, .ref b10, .ref b11, .ref b12, .ref b13]))] s.heap.size = A at hD ⊢
  have hA : ∀ q : Nat, s.heap.size ≤ q → A q := fun q h => by rw [← hAe]; exact Or.inr h
  have hS : va_S A s.heap s.heap [] := va_S.rf
  have hP : va_P (dC, dI) vwCl [(h0, .inr (11, [.ref b1, .int 0, .ref b2, .int 0, .int 0, .ref b3, .ref b4, .int 0, .ref b5, .int 0, .int 9, .ref b6, .ref b7, .ref b8, .ref b9, .ref b10, .ref b11, .ref b12, .ref b13]))] s.heap := hP
  have hl := lv_entry ([.ref h0, .int p0, .int p1]) (n := 6) (Nat.le_of_ble_eq_true rfl)
  rw [lg_entry_eq]
  generalize (lg_sl ([.ref h0, .int p0, .int p1]) ++ List.replicate (6 - (lg_sl ([.ref h0, .int p0, .int p1])).length) Slot.unset).toArray = ls at hl ⊢
  have hl : lv_has ls 6 [(0, .ref h0), (1, .int p0), (2, .int p1)] := hl
  refine lv_aload_n hx hb dX11_meets_0 rfl (lv_at hl 0 rfl) ?_
  refine lv_iload_n hx hb dX11_meets_1 rfl (lv_at hl 1 rfl) ?_
  have hPc := hP.sub (ws' := [(h0, .inr (11, [.ref b1, .int 0, .ref b2, .int 0, .int 0, .ref b3, .ref b4, .int 0, .ref b5, .int 0, .int 9, .ref b6, .ref b7, .ref b8, .ref b9, .ref b10, .ref b11, .ref b12, .ref b13]))]) [0] rfl
  have hDc := hD.sub (ws' := [(h0, .inr (11, [.ref b1, .int 0, .ref b2, .int 0, .int 0, .ref b3, .ref b4, .int 0, .ref b5, .int 0, .int 9, .ref b6, .ref b7, .ref b8, .ref b9, .ref b10, .ref b11, .ref b12, .ref b13]))]) [0] (by decide) rfl
  have hKc := hK.sub (tys' := []) [] rfl
  have hFc := va_free (wc := [(h0, .inr (11, [.ref b1, .int 0, .ref b2, .int 0, .int 0, .ref b3, .ref b4, .int 0, .ref b5, .int 0, .int 9, .ref b6, .ref b7, .ref b8, .ref b9, .ref b10, .ref b11, .ref b12, .ref b13]))]) hD hS hA [0] rfl
  refine va_callq (va_runV (As := [.int p0]) (rest := []) ⟨hx, hb, hml, hown, hw⟩ (c_X11_keptOf l dC dI _ (h0) (b1) (b2) (b3) (b4) (b5) (b6) (b7) (b8) (b9) (b10) (b11) (b12) (b13) (p0)) (cwV 1 hw (gV q156 q157 q158 q153 q155) rfl rfl rfl (by decide +kernel) ⟨Nat.le_of_ble_eq_true rfl, Nat.le_of_ble_eq_true rfl⟩) ⟨cP_blind, va_recv hKc hPc (ci := 11) (q0 := 0) rfl rfl, cP_pre hPc hKc hDc hN⟩ rfl rfl hl.1 rfl (lv_room (Nat.le_of_ble_eq_true rfl)) dX11_meets_2 ⟨Nat.le_of_ble_eq_true rfl, Nat.le_of_ble_eq_true rfl⟩) hS (fun q _ h => hFc q h) hFc (fun r1 u9 t H1 locs ht hvm hw1 hB hz1 hk1 hS => ?_)
  obtain ⟨hP1, hK1, hD1⟩ := hB
  rw [ht] at hP1
  have hK1 := va_K.moved hvm.symm hK1
  obtain ⟨hP, hD⟩ := va_join (wr := []) (w1 := [(h0, .inr (11, [.ref b1, .int 0, .ref b2, .int 0, .int 0, .ref b3, .ref b4, .int 0, .ref b5, .int 0, .int 9, .ref b6, .ref b7, .ref b8, .ref b9, .ref b10, .ref b11, .ref b12, .ref b13]))]) hP hD [0] [] rfl rfl (by decide) (by decide) hk1 hFc hP1 hD1
  have hK := (hK.sub (tys' := []) [] rfl).app hK1
  generalize H1 = H at hP hS ⊢
  have hP : va_P (dC, dI) vwCl [(h0, .inr (11, [.ref b1, .int 0, .ref b2, .int 0, .int 0, .ref b3, .ref b4, .int 0, .ref b5, .int 0, .int 9, .ref b6, .ref b7, .ref b8, .ref b9, .ref b10, .ref b11, .ref b12, .ref b13]))] H := hP
  have hD : va_D A [(h0, .inr (11, [.ref b1, .int 0, .ref b2, .int 0, .int 0, .ref b3, .ref b4, .int 0, .ref b5, .int 0, .int 9, .ref b6, .ref b7, .ref b8, .ref b9, .ref b10, .ref b11, .ref b12, .ref b13]))] := hD
  have hK : va_K (dC, dI) vwCl [] s := hK
  subst hw1
  refine W.eq (g2 := F0 m 5 ls [.null]) rfl ?_
  refine lv_astore_nN (lv' := [(3, .null), (0, .ref h0), (1, .int p0), (2, .int p1)]) hx hb dX11_meets_5 rfl hl (by decide) rfl (fun ls hl => ?_)
  refine lv_aload_n hx hb dX11_meets_6 rfl (lv_at hl 1 rfl) ?_
  refine lv_iload_n hx hb dX11_meets_7 rfl (lv_at hl 3 rfl) ?_
  have hPc := hP.sub (ws' := [(h0, .inr (11, [.ref b1, .int 0, .ref b2, .int 0, .int 0, .ref b3, .ref b4, .int 0, .ref b5, .int 0, .int 9, .ref b6, .ref b7, .ref b8, .ref b9, .ref b10, .ref b11, .ref b12, .ref b13]))]) [0] rfl
  have hDc := hD.sub (ws' := [(h0, .inr (11, [.ref b1, .int 0, .ref b2, .int 0, .int 0, .ref b3, .ref b4, .int 0, .ref b5, .int 0, .int 9, .ref b6, .ref b7, .ref b8, .ref b9, .ref b10, .ref b11, .ref b12, .ref b13]))]) [0] (by decide) rfl
  have hKc := hK.sub (tys' := []) [] rfl
  have hFc := va_free (wc := [(h0, .inr (11, [.ref b1, .int 0, .ref b2, .int 0, .int 0, .ref b3, .ref b4, .int 0, .ref b5, .int 0, .int 9, .ref b6, .ref b7, .ref b8, .ref b9, .ref b10, .ref b11, .ref b12, .ref b13]))]) hD hS hA [0] rfl
  refine va_callq (va_runV (As := [.int p1]) (rest := []) ⟨hx, hb, hml, hown, hw⟩ (c_X11_keptOf l dC dI _ (h0) (b1) (b2) (b3) (b4) (b5) (b6) (b7) (b8) (b9) (b10) (b11) (b12) (b13) (p1)) (cwV 1 hw (gV q156 q157 q158 q153 q155) rfl rfl rfl (by decide +kernel) ⟨Nat.le_of_ble_eq_true rfl, Nat.le_of_ble_eq_true rfl⟩) ⟨cP_blind, va_recv hKc hPc (ci := 11) (q0 := 0) rfl rfl, cP_pre hPc hKc hDc hN⟩ rfl rfl hl.1 rfl (lv_room (Nat.le_of_ble_eq_true rfl)) dX11_meets_8 ⟨Nat.le_of_ble_eq_true rfl, Nat.le_of_ble_eq_true rfl⟩) hS (fun q _ h => hFc q h) hFc (fun r2 u9 t H1 locs ht hvm hw1 hB hz1 hk1 hS => ?_)
  obtain ⟨hP1, hK1, hD1⟩ := hB
  rw [ht] at hP1
  have hK1 := va_K.moved hvm.symm hK1
  obtain ⟨hP, hD⟩ := va_join (wr := []) (w1 := [(h0, .inr (11, [.ref b1, .int 0, .ref b2, .int 0, .int 0, .ref b3, .ref b4, .int 0, .ref b5, .int 0, .int 9, .ref b6, .ref b7, .ref b8, .ref b9, .ref b10, .ref b11, .ref b12, .ref b13]))]) hP hD [0] [] rfl rfl (by decide) (by decide) hk1 hFc hP1 hD1
  have hK := (hK.sub (tys' := []) [] rfl).app hK1
  generalize H1 = H at hP hS ⊢
  have hP : va_P (dC, dI) vwCl [(h0, .inr (11, [.ref b1, .int 0, .ref b2, .int 0, .int 0, .ref b3, .ref b4, .int 0, .ref b5, .int 0, .int 9, .ref b6, .ref b7, .ref b8, .ref b9, .ref b10, .ref b11, .ref b12, .ref b13]))] H := hP
  have hD : va_D A [(h0, .inr (11, [.ref b1, .int 0, .ref b2, .int 0, .int 0, .ref b3, .ref b4, .int 0, .ref b5, .int 0, .int 9, .ref b6, .ref b7, .ref b8, .ref b9, .ref b10, .ref b11, .ref b12, .ref b13]))] := hD
  have hK : va_K (dC, dI) vwCl [] s := hK
  subst hw1
  refine W.eq (g2 := F0 m 11 ls [.null]) rfl ?_
  refine lv_astoreN (lv' := [(4, .null), (3, .null), (0, .ref h0), (1, .int p0), (2, .int p1)]) hx hb dX11_meets_11 hl (by decide) rfl (fun ls hl => ?_)
  refine lv_aload_nN hx hb dX11_meets_13 rfl (lv_at hl 1 rfl) ?_
  refine lv_ifnullN (tgt := 22) hx hb dX11_meets_14 (by decide) ?_
  refine lv_iconst (v := (-1)) hx hb dX11_meets_22 (by decide) ?_
  have hP9 := hP.sub (ws' := []) [] rfl
  have hD9 := hD.sub (ws' := []) [] (by decide) rfl
  have hK9 := hK.sub (tys' := []) [] rfl
  exact W.iret (v := (-1)) hx hb hr (fun t ht hW => ⟨⟨(-1), (), rfl, rfl, by rw [ht]; exact hP9, va_K.moved hW.alike hK9, hD9⟩, hS.F ht⟩) hS.2.2 dX11_meets_23
set_option maxHeartbeats 4000000 in
set_option maxRecDepth 100000 in
theorem c_X11_applies (l : Launch) (dC : Nat → ClassId) (dI : Nat → Nat → Nat) (sz : Nat) (h0 : Nat) (b1 : Nat) (b2 : Nat) (b3 : Nat) (b4 : Nat) (b5 : Nat) (b6 : Nat) (b7 : Nat) (b8 : Nat) (b9 : Nat) (b10 : Nat) (b11 : Nat) (b12 : Nat) (b13 : Nat) (p0 : Int32) (p1 : Int32) : Met l yX11_applies (Cond.code yX11_applies cX11_applies 8 (some .int) :: wp) ({ frames := 2, cells := 0, slots := 0, locals := 43 }) (cP dC dI [.ref h0, .int p0, .int p1] sz [(h0, .inr (11, [.ref b1, .int 0, .ref b2, .int 0, .int 0, .ref b3, .ref b4, .int 0, .ref b5, .int 0, .int 9, .ref b6, .ref b7, .ref b8, .ref b9, .ref b10, .ref b11, .ref b12, .ref b13]))] []) (va_Qi (fun (r : Int32) (_ : Unit) => r = -1) (fun (_ : Unit) t => cB dC dI (va_A [(h0, .inr (11, [.ref b1, .int 0, .ref b2, .int 0, .int 0, .ref b3, .ref b4, .int 0, .ref b5, .int 0, .int 9, .ref b6, .ref b7, .ref b8, .ref b9, .ref b10, .ref b11, .ref b12, .ref b13]))] sz) [] [] t) (va_A [(h0, .inr (11, [.ref b1, .int 0, .ref b2, .int 0, .int 0, .ref b3, .ref b4, .int 0, .ref b5, .int 0, .int 9, .ref b6, .ref b7, .ref b8, .ref b9, .ref b10, .ref b11, .ref b12, .ref b13]))] sz)) 0 0 (va_A [(h0, .inr (11, [.ref b1, .int 0, .ref b2, .int 0, .int 0, .ref b3, .ref b4, .int 0, .ref b5, .int 0, .int 9, .ref b6, .ref b7, .ref b8, .ref b9, .ref b10, .ref b11, .ref b12, .ref b13]))] sz) := by
  refine Met.ofW (cc := cX11_applies) (maxL := 8) (ret := (some .int)) (by decide) rfl ?_
  intro p e s m args below meth c s₁ B hml hv
  obtain ⟨rfl, hsz, hP, hK, hD0, hN⟩ := hv
  have hx := B.exec
  have hb := B.bytes
  have hr := B.returns
  have hts := atoms_spec (ws := Cond.code yX11_applies cX11_applies 8 (some .int) :: wp) B.pre
  have hw : ∀ w ∈ wp, w.before _ s = true := fun w h => hts w (List.mem_cons_of_mem _ h)
  have hown : s.vm.findClass RX11 = some m.cls := findClass_of_methodNamed B.named
  have hlocks := B.notSynchronized
  subst hsz
  have hD := hD0.self (sz := s.heap.size)
  generalize hAe : va_A [(h0, .inr (11, [.ref b1, .int 0, .ref b2, .int 0, .int 0, .ref b3, .ref b4, .int 0, .ref b5, .int 0, .int 9, .ref b6, .ref b7, .ref b8, .ref b9, .ref b10, .ref b11, .ref b12, .ref b13]))] s.heap.size = A at hD ⊢
  have hA : ∀ q : Nat, s.heap.size ≤ q → A q := fun q h => by rw [← hAe]; exact Or.inr h
  have hS : va_S A s.heap s.heap [] := va_S.rf
  have hP : va_P (dC, dI) vwCl [(h0, .inr (11, [.ref b1, .int 0, .ref b2, .int 0, .int 0, .ref b3, .ref b4, .int 0, .ref b5, .int 0, .int 9, .ref b6, .ref b7, .ref b8, .ref b9, .ref b10, .ref b11, .ref b12, .ref b13]))] s.heap := hP
  have hl := lv_entry ([.ref h0, .int p0, .int p1]) (n := 8) (Nat.le_of_ble_eq_true rfl)
  rw [lg_entry_eq]
  generalize (lg_sl ([.ref h0, .int p0, .int p1]) ++ List.replicate (8 - (lg_sl ([.ref h0, .int p0, .int p1])).length) Slot.unset).toArray = ls at hl ⊢
  have hl : lv_has ls 8 [(0, .ref h0), (1, .int p0), (2, .int p1)] := hl
  refine lv_aload_n hx hb dX11_applies_0 rfl (lv_at hl 0 rfl) ?_
  refine lv_iload_n hx hb dX11_applies_1 rfl (lv_at hl 1 rfl) ?_
  have hPc := hP.sub (ws' := [(h0, .inr (11, [.ref b1, .int 0, .ref b2, .int 0, .int 0, .ref b3, .ref b4, .int 0, .ref b5, .int 0, .int 9, .ref b6, .ref b7, .ref b8, .ref b9, .ref b10, .ref b11, .ref b12, .ref b13]))]) [0] rfl
  have hDc := hD.sub (ws' := [(h0, .inr (11, [.ref b1, .int 0, .ref b2, .int 0, .int 0, .ref b3, .ref b4, .int 0, .ref b5, .int 0, .int 9, .ref b6, .ref b7, .ref b8, .ref b9, .ref b10, .ref b11, .ref b12, .ref b13]))]) [0] (by decide) rfl
  have hKc := hK.sub (tys' := []) [] rfl
  have hFc := va_free (wc := [(h0, .inr (11, [.ref b1, .int 0, .ref b2, .int 0, .int 0, .ref b3, .ref b4, .int 0, .ref b5, .int 0, .int 9, .ref b6, .ref b7, .ref b8, .ref b9, .ref b10, .ref b11, .ref b12, .ref b13]))]) hD hS hA [0] rfl
  refine va_callq (va_runV (As := [.int p0]) (rest := []) ⟨hx, hb, hml, hown, hw⟩ (c_X11_keptOf l dC dI _ (h0) (b1) (b2) (b3) (b4) (b5) (b6) (b7) (b8) (b9) (b10) (b11) (b12) (b13) (p0)) (cwV 1 hw (gV q156 q157 q158 q153 q155) rfl rfl rfl (by decide +kernel) ⟨Nat.le_of_ble_eq_true rfl, Nat.le_of_ble_eq_true rfl⟩) ⟨cP_blind, va_recv hKc hPc (ci := 11) (q0 := 0) rfl rfl, cP_pre hPc hKc hDc hN⟩ rfl rfl hl.1 rfl (lv_room (Nat.le_of_ble_eq_true rfl)) dX11_applies_2 ⟨Nat.le_of_ble_eq_true rfl, Nat.le_of_ble_eq_true rfl⟩) hS (fun q _ h => hFc q h) hFc (fun r1 u9 t H1 locs ht hvm hw1 hB hz1 hk1 hS => ?_)
  obtain ⟨hP1, hK1, hD1⟩ := hB
  rw [ht] at hP1
  have hK1 := va_K.moved hvm.symm hK1
  obtain ⟨hP, hD⟩ := va_join (wr := []) (w1 := [(h0, .inr (11, [.ref b1, .int 0, .ref b2, .int 0, .int 0, .ref b3, .ref b4, .int 0, .ref b5, .int 0, .int 9, .ref b6, .ref b7, .ref b8, .ref b9, .ref b10, .ref b11, .ref b12, .ref b13]))]) hP hD [0] [] rfl rfl (by decide) (by decide) hk1 hFc hP1 hD1
  have hK := (hK.sub (tys' := []) [] rfl).app hK1
  generalize H1 = H at hP hS ⊢
  have hP : va_P (dC, dI) vwCl [(h0, .inr (11, [.ref b1, .int 0, .ref b2, .int 0, .int 0, .ref b3, .ref b4, .int 0, .ref b5, .int 0, .int 9, .ref b6, .ref b7, .ref b8, .ref b9, .ref b10, .ref b11, .ref b12, .ref b13]))] H := hP
  have hD : va_D A [(h0, .inr (11, [.ref b1, .int 0, .ref b2, .int 0, .int 0, .ref b3, .ref b4, .int 0, .ref b5, .int 0, .int 9, .ref b6, .ref b7, .ref b8, .ref b9, .ref b10, .ref b11, .ref b12, .ref b13]))] := hD
  have hK : va_K (dC, dI) vwCl [] s := hK
  subst hw1
  refine W.eq (g2 := F0 m 5 ls [.null]) rfl ?_
  refine lv_astore_nN (lv' := [(3, .null), (0, .ref h0), (1, .int p0), (2, .int p1)]) hx hb dX11_applies_5 rfl hl (by decide) rfl (fun ls hl => ?_)
  refine lv_aload_n hx hb dX11_applies_6 rfl (lv_at hl 1 rfl) ?_
  refine lv_iload_n hx hb dX11_applies_7 rfl (lv_at hl 3 rfl) ?_
  have hPc := hP.sub (ws' := [(h0, .inr (11, [.ref b1, .int 0, .ref b2, .int 0, .int 0, .ref b3, .ref b4, .int 0, .ref b5, .int 0, .int 9, .ref b6, .ref b7, .ref b8, .ref b9, .ref b10, .ref b11, .ref b12, .ref b13]))]) [0] rfl
  have hDc := hD.sub (ws' := [(h0, .inr (11, [.ref b1, .int 0, .ref b2, .int 0, .int 0, .ref b3, .ref b4, .int 0, .ref b5, .int 0, .int 9, .ref b6, .ref b7, .ref b8, .ref b9, .ref b10, .ref b11, .ref b12, .ref b13]))]) [0] (by decide) rfl
  have hKc := hK.sub (tys' := []) [] rfl
  have hFc := va_free (wc := [(h0, .inr (11, [.ref b1, .int 0, .ref b2, .int 0, .int 0, .ref b3, .ref b4, .int 0, .ref b5, .int 0, .int 9, .ref b6, .ref b7, .ref b8, .ref b9, .ref b10, .ref b11, .ref b12, .ref b13]))]) hD hS hA [0] rfl
  refine va_callq (va_runV (As := [.int p1]) (rest := []) ⟨hx, hb, hml, hown, hw⟩ (c_X11_keptOf l dC dI _ (h0) (b1) (b2) (b3) (b4) (b5) (b6) (b7) (b8) (b9) (b10) (b11) (b12) (b13) (p1)) (cwV 1 hw (gV q156 q157 q158 q153 q155) rfl rfl rfl (by decide +kernel) ⟨Nat.le_of_ble_eq_true rfl, Nat.le_of_ble_eq_true rfl⟩) ⟨cP_blind, va_recv hKc hPc (ci := 11) (q0 := 0) rfl rfl, cP_pre hPc hKc hDc hN⟩ rfl rfl hl.1 rfl (lv_room (Nat.le_of_ble_eq_true rfl)) dX11_applies_8 ⟨Nat.le_of_ble_eq_true rfl, Nat.le_of_ble_eq_true rfl⟩) hS (fun q _ h => hFc q h) hFc (fun r2 u9 t H1 locs ht hvm hw1 hB hz1 hk1 hS => ?_)
  obtain ⟨hP1, hK1, hD1⟩ := hB
  rw [ht] at hP1
  have hK1 := va_K.moved hvm.symm hK1
  obtain ⟨hP, hD⟩ := va_join (wr := []) (w1 := [(h0, .inr (11, [.ref b1, .int 0, .ref b2, .int 0, .int 0, .ref b3, .ref b4, .int 0, .ref b5, .int 0, .int 9, .ref b6, .ref b7, .ref b8, .ref b9, .ref b10, .ref b11, .ref b12, .ref b13]))]) hP hD [0] [] rfl rfl (by decide) (by decide) hk1 hFc hP1 hD1
  have hK := (hK.sub (tys' := []) [] rfl).app hK1
  generalize H1 = H at hP hS ⊢
  have hP : va_P (dC, dI) vwCl [(h0, .inr (11, [.ref b1, .int 0, .ref b2, .int 0, .int 0, .ref b3, .ref b4, .int 0, .ref b5, .int 0, .int 9, .ref b6, .ref b7, .ref b8, .ref b9, .ref b10, .ref b11, .ref b12, .ref b13]))] H := hP
  have hD : va_D A [(h0, .inr (11, [.ref b1, .int 0, .ref b2, .int 0, .int 0, .ref b3, .ref b4, .int 0, .ref b5, .int 0, .int 9, .ref b6, .ref b7, .ref b8, .ref b9, .ref b10, .ref b11, .ref b12, .ref b13]))] := hD
  have hK : va_K (dC, dI) vwCl [] s := hK
  subst hw1
  refine W.eq (g2 := F0 m 11 ls [.null]) rfl ?_
  refine lv_astoreN (lv' := [(4, .null), (3, .null), (0, .ref h0), (1, .int p0), (2, .int p1)]) hx hb dX11_applies_11 hl (by decide) rfl (fun ls hl => ?_)
  refine lv_aload_nN hx hb dX11_applies_13 rfl (lv_at hl 1 rfl) ?_
  refine lv_ifnullN (tgt := 22) hx hb dX11_applies_14 (by decide) ?_
  refine lv_iconst (v := (-1)) hx hb dX11_applies_22 (by decide) ?_
  have hP9 := hP.sub (ws' := []) [] rfl
  have hD9 := hD.sub (ws' := []) [] (by decide) rfl
  have hK9 := hK.sub (tys' := []) [] rfl
  exact W.iret (v := (-1)) hx hb hr (fun t ht hW => ⟨⟨(-1), (), rfl, rfl, by rw [ht]; exact hP9, va_K.moved hW.alike hK9, hD9⟩, hS.F ht⟩) hS.2.2 dX11_applies_23
