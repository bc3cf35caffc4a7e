set_option maxHeartbeats 4000000 in
set_option maxRecDepth 100000 in
theorem c_X11_steps (l : Launch) (dC : Nat → ClassId) (dI : Nat → Nat → Nat) (sz : Nat) (h0 : Nat) (b1 : Nat) (b2 : Nat) (b3 : Nat) (b4 : Nat) (b5 : Nat) (b6 : Nat) (b7 : Nat) (b8 : Nat) (b9 : Nat) (b10 : Nat) (b11 : Nat) (b12 : Nat) (b13 : Nat) (p0 : Int32) : Met l yX11_steps (Cond.code yX11_steps cX11_steps 3 (some .int) :: wp) ({ frames := 1, cells := 0, slots := 0, locals := 21 }) (cP dC dI [.ref h0, .int p0] sz [(h0, .inr (11, [.ref b1, .int 0, .ref b2, .int 0, .int 0, .ref b3, .ref b4, .int 0, .ref b5, .int 0, .int 9, .ref b6, .ref b7, .ref b8, .ref b9, .ref b10, .ref b11, .ref b12, .ref b13]))] []) (va_Qi (fun (r : Int32) (_ : Unit) => r = -1) (fun (_ : Unit) t => cB dC dI (va_A [(h0, .inr (11, [.ref b1, .int 0, .ref b2, .int 0, .int 0, .ref b3, .ref b4, .int 0, .ref b5, .int 0, .int 9, .ref b6, .ref b7, .ref b8, .ref b9, .ref b10, .ref b11, .ref b12, .ref b13]))] sz) [] [] t) (va_A [(h0, .inr (11, [.ref b1, .int 0, .ref b2, .int 0, .int 0, .ref b3, .ref b4, .int 0, .ref b5, .int 0, .int 9, .ref b6, .ref b7, .ref b8, .ref b9, .ref b10, .ref b11, .ref b12, .ref b13]))] sz)) 0 0 (va_A [(h0, .inr (11, [.ref b1, .int 0, .ref b2, .int 0, .int 0, .ref b3, .ref b4, .int 0, .ref b5, .int 0, .int 9, .ref b6, .ref b7, .ref b8, .ref b9, .ref b10, .ref b11, .ref b12, .ref b13]))] sz) := by
  refine Met.ofW (cc := cX11_steps) (maxL := 3) (ret := (some .int)) (by decide) rfl ?_
  intro p e s m args below meth c s₁ B hml hv
  obtain ⟨rfl, hsz, hP, hK, hD0, hN⟩ := hv
  have hx := B.exec
  have hb := B.bytes
  have hr := B.returns
  have hts := atoms_spec (ws := Cond.code yX11_steps cX11_steps 3 (some .int) :: wp) B.pre
  have hw : ∀ w ∈ wp, w.before _ s = true := fun w h => hts w (List.mem_cons_of_mem _ h)
  have hown : s.vm.findClass RX11 = some m.cls := findClass_of_methodNamed B.named
  have hlocks := B.notSynchronized
  subst hsz
  have hD := hD0.self (sz := s.heap.size)
  generalize hAe : va_A [(h0, .inr (11, [.ref b1, .int 0, .ref b2, .int 0, .int 0, .ref b3, .ref b4, .int 0, .ref b5, .int 0, .int 9, .ref b6, .ref b7, .ref b8, .ref b9, .ref b10, .ref b11, .ref b12, .ref b13]))] s.heap.size = A at hD ⊢
  have hA : ∀ q : Nat, s.heap.size ≤ q → A q := fun q h => by rw [← hAe]; exact Or.inr h
  have hS : va_S A s.heap s.heap [] := va_S.rf
  have hP : va_P (dC, dI) vwCl [(h0, .inr (11, [.ref b1, .int 0, .ref b2, .int 0, .int 0, .ref b3, .ref b4, .int 0, .ref b5, .int 0, .int 9, .ref b6, .ref b7, .ref b8, .ref b9, .ref b10, .ref b11, .ref b12, .ref b13]))] s.heap := hP
  have hl := lv_entry ([.ref h0, .int p0]) (n := 3) (Nat.le_of_ble_eq_true rfl)
  rw [lg_entry_eq]
  generalize (lg_sl ([.ref h0, .int p0]) ++ List.replicate (3 - (lg_sl ([.ref h0, .int p0])).length) Slot.unset).toArray = ls at hl ⊢
  have hl : lv_has ls 3 [(0, .ref h0), (1, .int p0)] := hl
  refine lv_aload_n hx hb dX11_steps_0 rfl (lv_at hl 0 rfl) ?_
  refine lv_iload_n hx hb dX11_steps_1 rfl (lv_at hl 1 rfl) ?_
  have hPc := hP.sub (ws' := [(h0, .inr (11, [.ref b1, .int 0, .ref b2, .int 0, .int 0, .ref b3, .ref b4, .int 0, .ref b5, .int 0, .int 9, .ref b6, .ref b7, .ref b8, .ref b9, .ref b10, .ref b11, .ref b12, .ref b13]))]) [0] rfl
  have hDc := hD.sub (ws' := [(h0, .inr (11, [.ref b1, .int 0, .ref b2, .int 0, .int 0, .ref b3, .ref b4, .int 0, .ref b5, .int 0, .int 9, .ref b6, .ref b7, .ref b8, .ref b9, .ref b10, .ref b11, .ref b12, .ref b13]))]) [0] (by decide) rfl
  have hKc := hK.sub (tys' := []) [] rfl
  have hFc := va_free (wc := [(h0, .inr (11, [.ref b1, .int 0, .ref b2, .int 0, .int 0, .ref b3, .ref b4, .int 0, .ref b5, .int 0, .int 9, .ref b6, .ref b7, .ref b8, .ref b9, .ref b10, .ref b11, .ref b12, .ref b13]))]) hD hS hA [0] rfl
  refine va_calli (va_runV (As := [.int p0]) (rest := []) ⟨hx, hb, hml, hown, hw⟩ (c_X11_textOf l dC dI _ (h0) (b1) (b2) (b3) (b4) (b5) (b6) (b7) (b8) (b9) (b10) (b11) (b12) (b13) (p0)) (cwV 1 hw (gV q150 q151 q152 q153 q149) rfl rfl rfl (by decide +kernel) ⟨Nat.le_of_ble_eq_true rfl, Nat.le_of_ble_eq_true rfl⟩) ⟨cP_blind, va_recv hKc hPc (ci := 11) (q0 := 0) rfl rfl, cP_pre hPc hKc hDc hN⟩ rfl rfl hl.1 rfl (lv_room (Nat.le_of_ble_eq_true rfl)) dX11_steps_2 ⟨Nat.le_of_ble_eq_true rfl, Nat.le_of_ble_eq_true rfl⟩) hS (fun q _ h => hFc q h) hFc (fun r1 u9 t H1 locs ht hvm hw1 hB hz1 hk1 hS => ?_)
  obtain ⟨hP1, hK1, hD1⟩ := hB
  rw [ht] at hP1
  have hK1 := va_K.moved hvm.symm hK1
  obtain ⟨hP, hD⟩ := va_join (wr := []) (w1 := [(h0, .inr (11, [.ref b1, .int 0, .ref b2, .int 0, .int 0, .ref b3, .ref b4, .int 0, .ref b5, .int 0, .int 9, .ref b6, .ref b7, .ref b8, .ref b9, .ref b10, .ref b11, .ref b12, .ref b13]))]) hP hD [0] [] rfl rfl (by decide) (by decide) hk1 hFc hP1 hD1
  have hK := (hK.sub (tys' := []) [] rfl).app hK1
  generalize H1 = H at hP hS ⊢
  have hP : va_P (dC, dI) vwCl [(h0, .inr (11, [.ref b1, .int 0, .ref b2, .int 0, .int 0, .ref b3, .ref b4, .int 0, .ref b5, .int 0, .int 9, .ref b6, .ref b7, .ref b8, .ref b9, .ref b10, .ref b11, .ref b12, .ref b13]))] H := hP
  have hD : va_D A [(h0, .inr (11, [.ref b1, .int 0, .ref b2, .int 0, .int 0, .ref b3, .ref b4, .int 0, .ref b5, .int 0, .int 9, .ref b6, .ref b7, .ref b8, .ref b9, .ref b10, .ref b11, .ref b12, .ref b13]))] := hD
  have hK : va_K (dC, dI) vwCl [] s := hK
  subst hw1
  refine lv_istore_n (lv' := [(2, .int (-1)), (0, .ref h0), (1, .int p0)]) hx hb dX11_steps_5 rfl hl (by decide) rfl (fun ls hl => ?_)
  refine lv_iload_n hx hb dX11_steps_6 rfl (lv_at hl 0 rfl) ?_
  refine lv_iconst (v := (-1)) hx hb dX11_steps_7 (by decide) ?_
  refine lv_icmp_ne (tgt := 13) hx hb dX11_steps_8 (by decide) (fun c9 => absurd c9 (by decide)) (fun _ => ?_)
  refine lv_iconst (v := (-1)) hx hb dX11_steps_11 (by decide) ?_
  have hP9 := hP.sub (ws' := []) [] rfl
  have hD9 := hD.sub (ws' := []) [] (by decide) rfl
  have hK9 := hK.sub (tys' := []) [] rfl
  exact W.iret (v := (-1)) hx hb hr (fun t ht hW => ⟨⟨(-1), (), rfl, rfl, by rw [ht]; exact hP9, va_K.moved hW.alike hK9, hD9⟩, hS.F ht⟩) hS.2.2 dX11_steps_12
set_option maxHeartbeats 4000000 in
set_option maxRecDepth 100000 in
theorem c_X11_parts (l : Launch) (dC : Nat → ClassId) (dI : Nat → Nat → Nat) (sz : Nat) (h0 : Nat) (b1 : Nat) (b2 : Nat) (b3 : Nat) (b4 : Nat) (b5 : Nat) (b6 : Nat) (b7 : Nat) (b8 : Nat) (b9 : Nat) (b10 : Nat) (b11 : Nat) (b12 : Nat) (b13 : Nat) (p0 : Int32) : Met l yX11_parts (Cond.code yX11_parts cX11_parts 6 (some .int) :: wp) ({ frames := 1, cells := 0, slots := 0, locals := 21 }) (cP dC dI [.ref h0, .int p0] sz [(h0, .inr (11, [.ref b1, .int 0, .ref b2, .int 0, .int 0, .ref b3, .ref b4, .int 0, .ref b5, .int 0, .int 9, .ref b6, .ref b7, .ref b8, .ref b9, .ref b10, .ref b11, .ref b12, .ref b13]))] []) (va_Qi (fun (r : Int32) (_ : Unit) => r = -1) (fun (_ : Unit) t => cB dC dI (va_A [(h0, .inr (11, [.ref b1, .int 0, .ref b2, .int 0, .int 0, .ref b3, .ref b4, .int 0, .ref b5, .int 0, .int 9, .ref b6, .ref b7, .ref b8, .ref b9, .ref b10, .ref b11, .ref b12, .ref b13]))] sz) [] [] t) (va_A [(h0, .inr (11, [.ref b1, .int 0, .ref b2, .int 0, .int 0, .ref b3, .ref b4, .int 0, .ref b5, .int 0, .int 9, .ref b6, .ref b7, .ref b8, .ref b9, .ref b10, .ref b11, .ref b12, .ref b13]))] sz)) 0 0 (va_A [(h0, .inr (11, [.ref b1, .int 0, .ref b2, .int 0, .int 0, .ref b3, .ref b4, .int 0, .ref b5, .int 0, .int 9, .ref b6, .ref b7, .ref b8, .ref b9, .ref b10, .ref b11, .ref b12, .ref b13]))] sz) := by
  refine Met.ofW (cc := cX11_parts) (maxL := 6) (ret := (some .int)) (by decide) rfl ?_
  intro p e s m args below meth c s₁ B hml hv
  obtain ⟨rfl, hsz, hP, hK, hD0, hN⟩ := hv
  have hx := B.exec
  have hb := B.bytes
  have hr := B.returns
  have hts := atoms_spec (ws := Cond.code yX11_parts cX11_parts 6 (some .int) :: wp) B.pre
  have hw : ∀ w ∈ wp, w.before _ s = true := fun w h => hts w (List.mem_cons_of_mem _ h)
  have hown : s.vm.findClass RX11 = some m.cls := findClass_of_methodNamed B.named
  have hlocks := B.notSynchronized
  subst hsz
  have hD := hD0.self (sz := s.heap.size)
  generalize hAe : va_A [(h0, .inr (11, [.ref b1, .int 0, .ref b2, .int 0, .int 0, .ref b3, .ref b4, .int 0, .ref b5, .int 0, .int 9, .ref b6, .ref b7, .ref b8, .ref b9, .ref b10, .ref b11, .ref b12, .ref b13]))] s.heap.size = A at hD ⊢
  have hA : ∀ q : Nat, s.heap.size ≤ q → A q := fun q h => by rw [← hAe]; exact Or.inr h
  have hS : va_S A s.heap s.heap [] := va_S.rf
  have hP : va_P (dC, dI) vwCl [(h0, .inr (11, [.ref b1, .int 0, .ref b2, .int 0, .int 0, .ref b3, .ref b4, .int 0, .ref b5, .int 0, .int 9, .ref b6, .ref b7, .ref b8, .ref b9, .ref b10, .ref b11, .ref b12, .ref b13]))] s.heap := hP
  have hl := lv_entry ([.ref h0, .int p0]) (n := 6) (Nat.le_of_ble_eq_true rfl)
  rw [lg_entry_eq]
  generalize (lg_sl ([.ref h0, .int p0]) ++ List.replicate (6 - (lg_sl ([.ref h0, .int p0])).length) Slot.unset).toArray = ls at hl ⊢
  have hl : lv_has ls 6 [(0, .ref h0), (1, .int p0)] := hl
  refine lv_aload_n hx hb dX11_parts_0 rfl (lv_at hl 0 rfl) ?_
  refine lv_iload_n hx hb dX11_parts_1 rfl (lv_at hl 1 rfl) ?_
  have hPc := hP.sub (ws' := [(h0, .inr (11, [.ref b1, .int 0, .ref b2, .int 0, .int 0, .ref b3, .ref b4, .int 0, .ref b5, .int 0, .int 9, .ref b6, .ref b7, .ref b8, .ref b9, .ref b10, .ref b11, .ref b12, .ref b13]))]) [0] rfl
  have hDc := hD.sub (ws' := [(h0, .inr (11, [.ref b1, .int 0, .ref b2, .int 0, .int 0, .ref b3, .ref b4, .int 0, .ref b5, .int 0, .int 9, .ref b6, .ref b7, .ref b8, .ref b9, .ref b10, .ref b11, .ref b12, .ref b13]))]) [0] (by decide) rfl
  have hKc := hK.sub (tys' := []) [] rfl
  have hFc := va_free (wc := [(h0, .inr (11, [.ref b1, .int 0, .ref b2, .int 0, .int 0, .ref b3, .ref b4, .int 0, .ref b5, .int 0, .int 9, .ref b6, .ref b7, .ref b8, .ref b9, .ref b10, .ref b11, .ref b12, .ref b13]))]) hD hS hA [0] rfl
  refine va_calli (va_runV (As := [.int p0]) (rest := []) ⟨hx, hb, hml, hown, hw⟩ (c_X11_textOf l dC dI _ (h0) (b1) (b2) (b3) (b4) (b5) (b6) (b7) (b8) (b9) (b10) (b11) (b12) (b13) (p0)) (cwV 1 hw (gV q150 q151 q152 q153 q149) rfl rfl rfl (by decide +kernel) ⟨Nat.le_of_ble_eq_true rfl, Nat.le_of_ble_eq_true rfl⟩) ⟨cP_blind, va_recv hKc hPc (ci := 11) (q0 := 0) rfl rfl, cP_pre hPc hKc hDc hN⟩ rfl rfl hl.1 rfl (lv_room (Nat.le_of_ble_eq_true rfl)) dX11_parts_2 ⟨Nat.le_of_ble_eq_true rfl, Nat.le_of_ble_eq_true rfl⟩) hS (fun q _ h => hFc q h) hFc (fun r1 u9 t H1 locs ht hvm hw1 hB hz1 hk1 hS => ?_)
  obtain ⟨hP1, hK1, hD1⟩ := hB
  rw [ht] at hP1
  have hK1 := va_K.moved hvm.symm hK1
  obtain ⟨hP, hD⟩ := va_join (wr := []) (w1 := [(h0, .inr (11, [.ref b1, .int 0, .ref b2, .int 0, .int 0, .ref b3, .ref b4, .int 0, .ref b5, .int 0, .int 9, .ref b6, .ref b7, .ref b8, .ref b9, .ref b10, .ref b11, .ref b12, .ref b13]))]) hP hD [0] [] rfl rfl (by decide) (by decide) hk1 hFc hP1 hD1
  have hK := (hK.sub (tys' := []) [] rfl).app hK1
  generalize H1 = H at hP hS ⊢
  have hP : va_P (dC, dI) vwCl [(h0, .inr (11, [.ref b1, .int 0, .ref b2, .int 0, .int 0, .ref b3, .ref b4, .int 0, .ref b5, .int 0, .int 9, .ref b6, .ref b7, .ref b8, .ref b9, .ref b10, .ref b11, .ref b12, .ref b13]))] H := hP
  have hD : va_D A [(h0, .inr (11, [.ref b1, .int 0, .ref b2, .int 0, .int 0, .ref b3, .ref b4, .int 0, .ref b5, .int 0, .int 9, .ref b6, .ref b7, .ref b8, .ref b9, .ref b10, .ref b11, .ref b12, .ref b13]))] := hD
  have hK : va_K (dC, dI) vwCl [] s := hK
  subst hw1
  refine lv_istore_n (lv' := [(2, .int (-1)), (0, .ref h0), (1, .int p0)]) hx hb dX11_parts_5 rfl hl (by decide) rfl (fun ls hl => ?_)
  refine lv_iload_n hx hb dX11_parts_6 rfl (lv_at hl 0 rfl) ?_
  refine lv_iconst (v := (-1)) hx hb dX11_parts_7 (by decide) ?_
  refine lv_icmp_ne (tgt := 13) hx hb dX11_parts_8 (by decide) (fun c9 => absurd c9 (by decide)) (fun _ => ?_)
  refine lv_iconst (v := (-1)) hx hb dX11_parts_11 (by decide) ?_
  have hP9 := hP.sub (ws' := []) [] rfl
  have hD9 := hD.sub (ws' := []) [] (by decide) rfl
  have hK9 := hK.sub (tys' := []) [] rfl
  exact W.iret (v := (-1)) hx hb hr (fun t ht hW => ⟨⟨(-1), (), rfl, rfl, by rw [ht]; exact hP9, va_K.moved hW.alike hK9, hD9⟩, hS.F ht⟩) hS.2.2 dX11_parts_12
set_option maxHeartbeats 4000000 in
set_option maxRecDepth 100000 in
theorem c_X11_free (l : Launch) (dC : Nat → ClassId) (dI : Nat → Nat → Nat) (sz : Nat) (h0 : Nat) (b1 : Nat) (b2 : Nat) (b3 : Nat) (b4 : Nat) (b5 : Nat) (b6 : Nat) (b7 : Nat) (b8 : Nat) (b9 : Nat) (b10 : Nat) (b11 : Nat) (b12 : Nat) (b13 : Nat) (p0 : Int32) : Met l yX11_free (Cond.code yX11_free cX11_free 3 (some .int) :: wp) ({ frames := 1, cells := 0, slots := 0, locals := 21 }) (cP dC dI [.ref h0, .int p0] sz [(h0, .inr (11, [.ref b1, .int 0, .ref b2, .int 0, .int 0, .ref b3, .ref b4, .int 0, .ref b5, .int 0, .int 9, .ref b6, .ref b7, .ref b8, .ref b9, .ref b10, .ref b11, .ref b12, .ref b13]))] []) (va_Qi (fun (r : Int32) (_ : Unit) => r = -1) (fun (_ : Unit) t => cB dC dI (va_A [(h0, .inr (11, [.ref b1, .int 0, .ref b2, .int 0, .int 0, .ref b3, .ref b4, .int 0, .ref b5, .int 0, .int 9, .ref b6, .ref b7, .ref b8, .ref b9, .ref b10, .ref b11, .ref b12, .ref b13]))] sz) [] [] t) (va_A [(h0, .inr (11, [.ref b1, .int 0, .ref b2, .int 0, .int 0, .ref b3, .ref b4, .int 0, .ref b5, .int 0, .int 9, .ref b6, .ref b7, .ref b8, .ref b9, .ref b10, .ref b11, .ref b12, .ref b13]))] sz)) 0 0 (va_A [(h0, .inr (11, [.ref b1, .int 0, .ref b2, .int 0, .int 0, .ref b3, .ref b4, .int 0, .ref b5, .int 0, .int 9, .ref b6, .ref b7, .ref b8, .ref b9, .ref b10, .ref b11, .ref b12, .ref b13]))] sz) := by
  refine Met.ofW (cc := cX11_free) (maxL := 3) (ret := (some .int)) (by decide) rfl ?_
  intro p e s m args below meth c s₁ B hml hv
  obtain ⟨rfl, hsz, hP, hK, hD0, hN⟩ := hv
  have hx := B.exec
  have hb := B.bytes
  have hr := B.returns
  have hts := atoms_spec (ws := Cond.code yX11_free cX11_free 3 (some .int) :: wp) B.pre
  have hw : ∀ w ∈ wp, w.before _ s = true := fun w h => hts w (List.mem_cons_of_mem _ h)
  have hown : s.vm.findClass RX11 = some m.cls := findClass_of_methodNamed B.named
  have hlocks := B.notSynchronized
  subst hsz
  have hD := hD0.self (sz := s.heap.size)
  generalize hAe : va_A [(h0, .inr (11, [.ref b1, .int 0, .ref b2, .int 0, .int 0, .ref b3, .ref b4, .int 0, .ref b5, .int 0, .int 9, .ref b6, .ref b7, .ref b8, .ref b9, .ref b10, .ref b11, .ref b12, .ref b13]))] s.heap.size = A at hD ⊢
  have hA : ∀ q : Nat, s.heap.size ≤ q → A q := fun q h => by rw [← hAe]; exact Or.inr h
  have hS : va_S A s.heap s.heap [] := va_S.rf
  have hP : va_P (dC, dI) vwCl [(h0, .inr (11, [.ref b1, .int 0, .ref b2, .int 0, .int 0, .ref b3, .ref b4, .int 0, .ref b5, .int 0, .int 9, .ref b6, .ref b7, .ref b8, .ref b9, .ref b10, .ref b11, .ref b12, .ref b13]))] s.heap := hP
  have hl := lv_entry ([.ref h0, .int p0]) (n := 3) (Nat.le_of_ble_eq_true rfl)
  rw [lg_entry_eq]
  generalize (lg_sl ([.ref h0, .int p0]) ++ List.replicate (3 - (lg_sl ([.ref h0, .int p0])).length) Slot.unset).toArray = ls at hl ⊢
  have hl : lv_has ls 3 [(0, .ref h0), (1, .int p0)] := hl
  refine lv_aload_n hx hb dX11_free_0 rfl (lv_at hl 0 rfl) ?_
  refine lv_iload_n hx hb dX11_free_1 rfl (lv_at hl 1 rfl) ?_
  have hPc := hP.sub (ws' := [(h0, .inr (11, [.ref b1, .int 0, .ref b2, .int 0, .int 0, .ref b3, .ref b4, .int 0, .ref b5, .int 0, .int 9, .ref b6, .ref b7, .ref b8, .ref b9, .ref b10, .ref b11, .ref b12, .ref b13]))]) [0] rfl
  have hDc := hD.sub (ws' := [(h0, .inr (11, [.ref b1, .int 0, .ref b2, .int 0, .int 0, .ref b3, .ref b4, .int 0, .ref b5, .int 0, .int 9, .ref b6, .ref b7, .ref b8, .ref b9, .ref b10, .ref b11, .ref b12, .ref b13]))]) [0] (by decide) rfl
  have hKc := hK.sub (tys' := []) [] rfl
  have hFc := va_free (wc := [(h0, .inr (11, [.ref b1, .int 0, .ref b2, .int 0, .int 0, .ref b3, .ref b4, .int 0, .ref b5, .int 0, .int 9, .ref b6, .ref b7, .ref b8, .ref b9, .ref b10, .ref b11, .ref b12, .ref b13]))]) hD hS hA [0] rfl
  refine va_calli (va_runV (As := [.int p0]) (rest := []) ⟨hx, hb, hml, hown, hw⟩ (c_X11_textOf l dC dI _ (h0) (b1) (b2) (b3) (b4) (b5) (b6) (b7) (b8) (b9) (b10) (b11) (b12) (b13) (p0)) (cwV 1 hw (gV q150 q151 q152 q153 q149) rfl rfl rfl (by decide +kernel) ⟨Nat.le_of_ble_eq_true rfl, Nat.le_of_ble_eq_true rfl⟩) ⟨cP_blind, va_recv hKc hPc (ci := 11) (q0 := 0) rfl rfl, cP_pre hPc hKc hDc hN⟩ rfl rfl hl.1 rfl (lv_room (Nat.le_of_ble_eq_true rfl)) dX11_free_2 ⟨Nat.le_of_ble_eq_true rfl, Nat.le_of_ble_eq_true rfl⟩) hS (fun q _ h => hFc q h) hFc (fun r1 u9 t H1 locs ht hvm hw1 hB hz1 hk1 hS => ?_)
  obtain ⟨hP1, hK1, hD1⟩ := hB
  rw [ht] at hP1
  have hK1 := va_K.moved hvm.symm hK1
  obtain ⟨hP, hD⟩ := va_join (wr := []) (w1 := [(h0, .inr (11, [.ref b1, .int 0, .ref b2, .int 0, .int 0, .ref b3, .ref b4, .int 0, .ref b5, .int 0, .int 9, .ref b6, .ref b7, .ref b8, .ref b9, .ref b10, .ref b11, .ref b12, .ref b13]))]) hP hD [0] [] rfl rfl (by decide) (by decide) hk1 hFc hP1 hD1
  have hK := (hK.sub (tys' := []) [] rfl).app hK1
  generalize H1 = H at hP hS ⊢
  have hP : va_P (dC, dI) vwCl [(h0, .inr (11, [.ref b1, .int 0, .ref b2, .int 0, .int 0, .ref b3, .ref b4, .int 0, .ref b5, .int 0, .int 9, .ref b6, .ref b7, .ref b8, .ref b9, .ref b10, .ref b11, .ref b12, .ref b13]))] H := hP
  have hD : va_D A [(h0, .inr (11, [.ref b1, .int 0, .ref b2, .int 0, .int 0, .ref b3, .ref b4, .int 0, .ref b5, .int 0, .int 9, .ref b6, .ref b7, .ref b8, .ref b9, .ref b10, .ref b11, .ref b12, .ref b13]))] := hD
  have hK : va_K (dC, dI) vwCl [] s := hK
  subst hw1
  refine lv_istore_n (lv' := [(2, .int (-1)), (0, .ref h0), (1, .int p0)]) hx hb dX11_free_5 rfl hl (by decide) rfl (fun ls hl => ?_)
  refine lv_iload_n hx hb dX11_free_6 rfl (lv_at hl 0 rfl) ?_
  refine lv_iconst (v := (-1)) hx hb dX11_free_7 (by decide) ?_
  refine lv_icmp_ne (tgt := 13) hx hb dX11_free_8 (by decide) (fun c9 => absurd c9 (by decide)) (fun _ => ?_)
  refine lv_iconst (v := (-1)) hx hb dX11_free_11 (by decide) ?_
  have hP9 := hP.sub (ws' := []) [] rfl
  have hD9 := hD.sub (ws' := []) [] (by decide) rfl
  have hK9 := hK.sub (tys' := []) [] rfl
  exact W.iret (v := (-1)) hx hb hr (fun t ht hW => ⟨⟨(-1), (), rfl, rfl, by rw [ht]; exact hP9, va_K.moved hW.alike hK9, hD9⟩, hS.F ht⟩) hS.2.2 dX11_free_12
set_option maxHeartbeats 4000000 in
set_option maxRecDepth 100000 in
theorem c_X11_part (l : Launch) (dC : Nat → ClassId) (dI : Nat → Nat → Nat) (sz : Nat) (h0 : Nat) (b1 : Nat) (b2 : Nat) (b3 : Nat) (b4 : Nat) (b5 : Nat) (b6 : Nat) (b7 : Nat) (b8 : Nat) (b9 : Nat) (b10 : Nat) (b11 : Nat) (b12 : Nat) (b13 : Nat) (p0 : Int32) (p1 : Int32) : Met l yX11_part (Cond.code yX11_part cX11_part 5 (some .int) :: wp) ({ frames := 1, cells := 0, slots := 0, locals := 21 }) (cP dC dI [.ref h0, .int p0, .int p1] sz [(h0, .inr (11, [.ref b1, .int 0, .ref b2, .int 0, .int 0, .ref b3, .ref b4, .int 0, .ref b5, .int 0, .int 9, .ref b6, .ref b7, .ref b8, .ref b9, .ref b10, .ref b11, .ref b12, .ref b13]))] []) (va_Qi (fun (r : Int32) (_ : Unit) => r = -1) (fun (_ : Unit) t => cB dC dI (va_A [(h0, .inr (11, [.ref b1, .int 0, .ref b2, .int 0, .int 0, .ref b3, .ref b4, .int 0, .ref b5, .int 0, .int 9, .ref b6, .ref b7, .ref b8, .ref b9, .ref b10, .ref b11, .ref b12, .ref b13]))] sz) [] [] t) (va_A [(h0, .inr (11, [.ref b1, .int 0, .ref b2, .int 0, .int 0, .ref b3, .ref b4, .int 0, .ref b5, .int 0, .int 9, .ref b6, .ref b7, .ref b8, .ref b9, .ref b10, .ref b11, .ref b12, .ref b13]))] sz)) 0 0 (va_A [(h0, .inr (11, [.ref b1, .int 0, .ref b2, .int 0, .int 0, .ref b3, .ref b4, .int 0, .ref b5, .int 0, .int 9, .ref b6, .ref b7, .ref b8, .ref b9, .ref b10, .ref b11, .ref b12, .ref b13]))] sz) := by
  refine Met.ofW (cc := cX11_part) (maxL := 5) (ret := (some .int)) (by decide) rfl ?_
  intro p e s m args below meth c s₁ B hml hv
  obtain ⟨rfl, hsz, hP, hK, hD0, hN⟩ := hv
  have hx := B.exec
  have hb := B.bytes
  have hr := B.returns
  have hts := atoms_spec (ws := Cond.code yX11_part cX11_part 5 (some .int) :: wp) B.pre
  have hw : ∀ w ∈ wp, w.before _ s = true := fun w h => hts w (List.mem_cons_of_mem _ h)
  have hown : s.vm.findClass RX11 = some m.cls := findClass_of_methodNamed B.named
  have hlocks := B.notSynchronized
  subst hsz
  have hD := hD0.self (sz := s.heap.size)
  generalize hAe : va_A [(h0, .inr (11, [.ref b1, .int 0, .ref b2, .int 0, .int 0, .ref b3, .ref b4, .int 0, .ref b5, .int 0, .int 9, .ref b6, .ref b7, .ref b8, .ref b9, .ref b10, .ref b11, .ref b12, .ref b13]))] s.heap.size = A at hD ⊢
  have hA : ∀ q : Nat, s.heap.size ≤ q → A q := fun q h => by rw [← hAe]; exact Or.inr h
  have hS : va_S A s.heap s.heap [] := va_S.rf
  have hP : va_P (dC, dI) vwCl [(h0, .inr (11, [.ref b1, .int 0, .ref b2, .int 0, .int 0, .ref b3, .ref b4, .int 0, .ref b5, .int 0, .int 9, .ref b6, .ref b7, .ref b8, .ref b9, .ref b10, .ref b11, .ref b12, .ref b13]))] s.heap := hP
  have hl := lv_entry ([.ref h0, .int p0, .int p1]) (n := 5) (Nat.le_of_ble_eq_true rfl)
  rw [lg_entry_eq]
  generalize (lg_sl ([.ref h0, .int p0, .int p1]) ++ List.replicate (5 - (lg_sl ([.ref h0, .int p0, .int p1])).length) Slot.unset).toArray = ls at hl ⊢
  have hl : lv_has ls 5 [(0, .ref h0), (1, .int p0), (2, .int p1)] := hl
  refine lv_aload_n hx hb dX11_part_0 rfl (lv_at hl 0 rfl) ?_
  refine lv_iload_n hx hb dX11_part_1 rfl (lv_at hl 1 rfl) ?_
  have hPc := hP.sub (ws' := [(h0, .inr (11, [.ref b1, .int 0, .ref b2, .int 0, .int 0, .ref b3, .ref b4, .int 0, .ref b5, .int 0, .int 9, .ref b6, .ref b7, .ref b8, .ref b9, .ref b10, .ref b11, .ref b12, .ref b13]))]) [0] rfl
  have hDc := hD.sub (ws' := [(h0, .inr (11, [.ref b1, .int 0, .ref b2, .int 0, .int 0, .ref b3, .ref b4, .int 0, .ref b5, .int 0, .int 9, .ref b6, .ref b7, .ref b8, .ref b9, .ref b10, .ref b11, .ref b12, .ref b13]))]) [0] (by decide) rfl
  have hKc := hK.sub (tys' := []) [] rfl
  have hFc := va_free (wc := [(h0, .inr (11, [.ref b1, .int 0, .ref b2, .int 0, .int 0, .ref b3, .ref b4, .int 0, .ref b5, .int 0, .int 9, .ref b6, .ref b7, .ref b8, .ref b9, .ref b10, .ref b11, .ref b12, .ref b13]))]) hD hS hA [0] rfl
  refine va_calli (va_runV (As := [.int p0]) (rest := []) ⟨hx, hb, hml, hown, hw⟩ (c_X11_textOf l dC dI _ (h0) (b1) (b2) (b3) (b4) (b5) (b6) (b7) (b8) (b9) (b10) (b11) (b12) (b13) (p0)) (cwV 1 hw (gV q150 q151 q152 q153 q149) rfl rfl rfl (by decide +kernel) ⟨Nat.le_of_ble_eq_true rfl, Nat.le_of_ble_eq_true rfl⟩) ⟨cP_blind, va_recv hKc hPc (ci := 11) (q0 := 0) rfl rfl, cP_pre hPc hKc hDc hN⟩ rfl rfl hl.1 rfl (lv_room (Nat.le_of_ble_eq_true rfl)) dX11_part_2 ⟨Nat.le_of_ble_eq_true rfl, Nat.le_of_ble_eq_true rfl⟩) hS (fun q _ h => hFc q h) hFc (fun r1 u9 t H1 locs ht hvm hw1 hB hz1 hk1 hS => ?_)
  obtain ⟨hP1, hK1, hD1⟩ := hB
  rw [ht] at hP1
  have hK1 := va_K.moved hvm.symm hK1
  obtain ⟨hP, hD⟩ := va_join (wr := []) (w1 := [(h0, .inr (11, [.ref b1, .int 0, .ref b2, .int 0, .int 0, .ref b3, .ref b4, .int 0, .ref b5, .int 0, .int 9, .ref b6, .ref b7, .ref b8, .ref b9, .ref b10, .ref b11, .ref b12, .ref b13]))]) hP hD [0] [] rfl rfl (by decide) (by decide) hk1 hFc hP1 hD1
  have hK := (hK.sub (tys' := []) [] rfl).app hK1
  generalize H1 = H at hP hS ⊢
  have hP : va_P (dC, dI) vwCl [(h0, .inr (11, [.ref b1, .int 0, .ref b2, .int 0, .int 0, .ref b3, .ref b4, .int 0, .ref b5, .int 0, .int 9, .ref b6, .ref b7, .ref b8, .ref b9, .ref b10, .ref b11, .ref b12, .ref b13]))] H := hP
  have hD : va_D A [(h0, .inr (11, [.ref b1, .int 0, .ref b2, .int 0, .int 0, .ref b3, .ref b4, .int 0, .ref b5, .int 0, .int 9, .ref b6, .ref b7, .ref b8, .ref b9, .ref b10, .ref b11, .ref b12, .ref b13]))] := hD
  have hK : va_K (dC, dI) vwCl [] s := hK
  subst hw1
  refine lv_istore_n (lv' := [(3, .int (-1)), (0, .ref h0), (1, .int p0), (2, .int p1)]) hx hb dX11_part_5 rfl hl (by decide) rfl (fun ls hl => ?_)
  refine lv_iload_n hx hb dX11_part_6 rfl (lv_at hl 0 rfl) ?_
  refine lv_iconst (v := (-1)) hx hb dX11_part_7 (by decide) ?_
  refine lv_icmp_ne (tgt := 13) hx hb dX11_part_8 (by decide) (fun c9 => absurd c9 (by decide)) (fun _ => ?_)
  refine lv_iconst (v := (-1)) hx hb dX11_part_11 (by decide) ?_
  have hP9 := hP.sub (ws' := []) [] rfl
  have hD9 := hD.sub (ws' := []) [] (by decide) rfl
  have hK9 := hK.sub (tys' := []) [] rfl
  exact W.iret (v := (-1)) hx hb hr (fun t ht hW => ⟨⟨(-1), (), rfl, rfl, by rw [ht]; exact hP9, va_K.moved hW.alike hK9, hD9⟩, hS.F ht⟩) hS.2.2 dX11_part_12
set_option maxHeartbeats 4000000 in
set_option maxRecDepth 100000 in
theorem c_X11_value (l : Launch) (dC : Nat → ClassId) (dI : Nat → Nat → Nat) (sz : Nat) (h0 : Nat) (b1 : Nat) (b2 : Nat) (b3 : Nat) (b4 : Nat) (b5 : Nat) (b6 : Nat) (b7 : Nat) (b8 : Nat) (b9 : Nat) (b10 : Nat) (b11 : Nat) (b12 : Nat) (b13 : Nat) (p0 : Int32) (p1 : Int32) : Met l yX11_value (Cond.code yX11_value cX11_value 4 (some .int) :: wp) ({ frames := 1, cells := 0, slots := 0, locals := 21 }) (cP dC dI [.ref h0, .int p0, .int p1] sz [(h0, .inr (11, [.ref b1, .int 0, .ref b2, .int 0, .int 0, .ref b3, .ref b4, .int 0, .ref b5, .int 0, .int 9, .ref b6, .ref b7, .ref b8, .ref b9, .ref b10, .ref b11, .ref b12, .ref b13]))] []) (va_Qi (fun (r : Int32) (_ : Unit) => r = -1) (fun (_ : Unit) t => cB dC dI (va_A [(h0, .inr (11, [.ref b1, .int 0, .ref b2, .int 0, .int 0, .ref b3, .ref b4, .int 0, .ref b5, .int 0, .int 9, .ref b6, .ref b7, .ref b8, .ref b9, .ref b10, .ref b11, .ref b12, .ref b13]))] sz) [] [] t) (va_A [(h0, .inr (11, [.ref b1, .int 0, .ref b2, .int 0, .int 0, .ref b3, .ref b4, .int 0, .ref b5, .int 0, .int 9, .ref b6, .ref b7, .ref b8, .ref b9, .ref b10, .ref b11, .ref b12, .ref b13]))] sz)) 0 0 (va_A [(h0, .inr (11, [.ref b1, .int 0, .ref b2, .int 0, .int 0, .ref b3, .ref b4, .int 0, .ref b5, .int 0, .int 9, .ref b6, .ref b7, .ref b8, .ref b9, .ref b10, .ref b11, .ref b12, .ref b13]))] sz) := by
  refine Met.ofW (cc := cX11_value) (maxL := 4) (ret := (some .int)) (by decide) rfl ?_
  intro p e s m args below meth c s₁ B hml hv
  obtain ⟨rfl, hsz, hP, hK, hD0, hN⟩ := hv
  have hx := B.exec
  have hb := B.bytes
  have hr := B.returns
  have hts := atoms_spec (ws := Cond.code yX11_value cX11_value 4 (some .int) :: wp) B.pre
  have hw : ∀ w ∈ wp, w.before _ s = true := fun w h => hts w (List.mem_cons_of_mem _ h)
  have hown : s.vm.findClass RX11 = some m.cls := findClass_of_methodNamed B.named
  have hlocks := B.notSynchronized
  subst hsz
  have hD := hD0.self (sz := s.heap.size)
  generalize hAe : va_A [(h0, .inr (11, [.ref b1, .int 0, .ref b2, .int 0, .int 0, .ref b3, .ref b4, .int 0, .ref b5, .int 0, .int 9, .ref b6, .ref b7, .ref b8, .ref b9, .ref b10, .ref b11, .ref b12, .ref b13]))] s.heap.size = A at hD ⊢
  have hA : ∀ q : Nat, s.heap.size ≤ q → A q := fun q h => by rw [← hAe]; exact Or.inr h
  have hS : va_S A s.heap s.heap [] := va_S.rf
  have hP : va_P (dC, dI) vwCl [(h0, .inr (11, [.ref b1, .int 0, .ref b2, .int 0, .int 0, .ref b3, .ref b4, .int 0, .ref b5, .int 0, .int 9, .ref b6, .ref b7, .ref b8, .ref b9, .ref b10, .ref b11, .ref b12, .ref b13]))] s.heap := hP
  have hl := lv_entry ([.ref h0, .int p0, .int p1]) (n := 4) (Nat.le_of_ble_eq_true rfl)
  rw [lg_entry_eq]
  generalize (lg_sl ([.ref h0, .int p0, .int p1]) ++ List.replicate (4 - (lg_sl ([.ref h0, .int p0, .int p1])).length) Slot.unset).toArray = ls at hl ⊢
  have hl : lv_has ls 4 [(0, .ref h0), (1, .int p0), (2, .int p1)] := hl
  refine lv_aload_n hx hb dX11_value_0 rfl (lv_at hl 0 rfl) ?_
  refine lv_iload_n hx hb dX11_value_1 rfl (lv_at hl 1 rfl) ?_
  have hPc := hP.sub (ws' := [(h0, .inr (11, [.ref b1, .int 0, .ref b2, .int 0, .int 0, .ref b3, .ref b4, .int 0, .ref b5, .int 0, .int 9, .ref b6, .ref b7, .ref b8, .ref b9, .ref b10, .ref b11, .ref b12, .ref b13]))]) [0] rfl
  have hDc := hD.sub (ws' := [(h0, .inr (11, [.ref b1, .int 0, .ref b2, .int 0, .int 0, .ref b3, .ref b4, .int 0, .ref b5, .int 0, .int 9, .ref b6, .ref b7, .ref b8, .ref b9, .ref b10, .ref b11, .ref b12, .ref b13]))]) [0] (by decide) rfl
  have hKc := hK.sub (tys' := []) [] rfl
  have hFc := va_free (wc := [(h0, .inr (11, [.ref b1, .int 0, .ref b2, .int 0, .int 0, .ref b3, .ref b4, .int 0, .ref b5, .int 0, .int 9, .ref b6, .ref b7, .ref b8, .ref b9, .ref b10, .ref b11, .ref b12, .ref b13]))]) hD hS hA [0] rfl
  refine va_calli (va_runV (As := [.int p0]) (rest := []) ⟨hx, hb, hml, hown, hw⟩ (c_X11_textOf l dC dI _ (h0) (b1) (b2) (b3) (b4) (b5) (b6) (b7) (b8) (b9) (b10) (b11) (b12) (b13) (p0)) (cwV 1 hw (gV q150 q151 q152 q153 q149) rfl rfl rfl (by decide +kernel) ⟨Nat.le_of_ble_eq_true rfl, Nat.le_of_ble_eq_true rfl⟩) ⟨cP_blind, va_recv hKc hPc (ci := 11) (q0 := 0) rfl rfl, cP_pre hPc hKc hDc hN⟩ rfl rfl hl.1 rfl (lv_room (Nat.le_of_ble_eq_true rfl)) dX11_value_2 ⟨Nat.le_of_ble_eq_true rfl, Nat.le_of_ble_eq_true rfl⟩) hS (fun q _ h => hFc q h) hFc (fun r1 u9 t H1 locs ht hvm hw1 hB hz1 hk1 hS => ?_)
  obtain ⟨hP1, hK1, hD1⟩ := hB
  rw [ht] at hP1
  have hK1 := va_K.moved hvm.symm hK1
  obtain ⟨hP, hD⟩ := va_join (wr := []) (w1 := [(h0, .inr (11, [.ref b1, .int 0, .ref b2, .int 0, .int 0, .ref b3, .ref b4, .int 0, .ref b5, .int 0, .int 9, .ref b6, .ref b7, .ref b8, .ref b9, .ref b10, .ref b11, .ref b12, .ref b13]))]) hP hD [0] [] rfl rfl (by decide) (by decide) hk1 hFc hP1 hD1
  have hK := (hK.sub (tys' := []) [] rfl).app hK1
  generalize H1 = H at hP hS ⊢
  have hP : va_P (dC, dI) vwCl [(h0, .inr (11, [.ref b1, .int 0, .ref b2, .int 0, .int 0, .ref b3, .ref b4, .int 0, .ref b5, .int 0, .int 9, .ref b6, .ref b7, .ref b8, .ref b9, .ref b10, .ref b11, .ref b12, .ref b13]))] H := hP
  have hD : va_D A [(h0, .inr (11, [.ref b1, .int 0, .ref b2, .int 0, .int 0, .ref b3, .ref b4, .int 0, .ref b5, .int 0, .int 9, .ref b6, .ref b7, .ref b8, .ref b9, .ref b10, .ref b11, .ref b12, .ref b13]))] := hD
  have hK : va_K (dC, dI) vwCl [] s := hK
  subst hw1
  refine lv_istore_n (lv' := [(3, .int (-1)), (0, .ref h0), (1, .int p0), (2, .int p1)]) hx hb dX11_value_5 rfl hl (by decide) rfl (fun ls hl => ?_)
  refine lv_iload_n hx hb dX11_value_6 rfl (lv_at hl 0 rfl) ?_
  refine lv_iconst (v := (-1)) hx hb dX11_value_7 (by decide) ?_
  refine lv_icmp_eq (tgt := 16) hx hb dX11_value_8 (by decide) (fun _ => ?_) (fun c9 => absurd c9 (by decide))
  refine lv_iconst (v := (-1)) hx hb dX11_value_16 (by decide) ?_
  have hP9 := hP.sub (ws' := []) [] rfl
  have hD9 := hD.sub (ws' := []) [] (by decide) rfl
  have hK9 := hK.sub (tys' := []) [] rfl
  exact W.iret (v := (-1)) hx hb hr (fun t ht hW => ⟨⟨(-1), (), rfl, rfl, by rw [ht]; exact hP9, va_K.moved hW.alike hK9, hD9⟩, hS.F ht⟩) hS.2.2 dX11_value_17
set_option maxHeartbeats 4000000 in
set_option maxRecDepth 100000 in
theorem c_X11_taken (l : Launch) (dC : Nat → ClassId) (dI : Nat → Nat → Nat) (sz : Nat) (h0 : Nat) (b1 : Nat) (b2 : Nat) (b3 : Nat) (b4 : Nat) (b5 : Nat) (b6 : Nat) (b7 : Nat) (b8 : Nat) (b9 : Nat) (b10 : Nat) (b11 : Nat) (b12 : Nat) (b13 : Nat) (p0 : Int32) (p1 : Int32) : Met l yX11_taken (Cond.code yX11_taken cX11_taken 5 (some .int) :: wp) ({ frames := 1, cells := 0, slots := 0, locals := 21 }) (cP dC dI [.ref h0, .int p0, .int p1] sz [(h0, .inr (11, [.ref b1, .int 0, .ref b2, .int 0, .int 0, .ref b3, .ref b4, .int 0, .ref b5, .int 0, .int 9, .ref b6, .ref b7, .ref b8, .ref b9, .ref b10, .ref b11, .ref b12, .ref b13]))] []) (va_Qi (fun (r : Int32) (_ : Unit) => r = -1) (fun (_ : Unit) t => cB dC dI (va_A [(h0, .inr (11, [.ref b1, .int 0, .ref b2, .int 0, .int 0, .ref b3, .ref b4, .int 0, .ref b5, .int 0, .int 9, .ref b6, .ref b7, .ref b8, .ref b9, .ref b10, .ref b11, .ref b12, .ref b13]))] sz) [] [] t) (va_A [(h0, .inr (11, [.ref b1, .int 0, .ref b2, .int 0, .int 0, .ref b3, .ref b4, .int 0, .ref b5, .int 0, .int 9, .ref b6, .ref b7, .ref b8, .ref b9, .ref b10, .ref b11, .ref b12, .ref b13]))] sz)) 0 0 (va_A [(h0, .inr (11, [.ref b1, .int 0, .ref b2, .int 0, .int 0, .ref b3, .ref b4, .int 0, .ref b5, .int 0, .int 9, .ref b6, .ref b7, .ref b8, .ref b9, .ref b10, .ref b11, .ref b12, .ref b13]))] sz) := by
  refine Met.ofW (cc := cX11_taken) (maxL := 5) (ret := (some .int)) (by decide) rfl ?_
  intro p e s m args below meth c s₁ B hml hv
  obtain ⟨rfl, hsz, hP, hK, hD0, hN⟩ := hv
  have hx := B.exec
  have hb := B.bytes
  have hr := B.returns
  have hts := atoms_spec (ws := Cond.code yX11_taken cX11_taken 5 (some .int) :: wp) B.pre
  have hw : ∀ w ∈ wp, w.before _ s = true := fun w h => hts w (List.mem_cons_of_mem _ h)
  have hown : s.vm.findClass RX11 = some m.cls := findClass_of_methodNamed B.named
  have hlocks := B.notSynchronized
  subst hsz
  have hD := hD0.self (sz := s.heap.size)
  generalize hAe : va_A [(h0, .inr (11, [.ref b1, .int 0, .ref b2, .int 0, .int 0, .ref b3, .ref b4, .int 0, .ref b5, .int 0, .int 9, .ref b6, .ref b7, .ref b8, .ref b9, .ref b10, .ref b11, .ref b12, .ref b13]))] s.heap.size = A at hD ⊢
  have hA : ∀ q : Nat, s.heap.size ≤ q → A q := fun q h => by rw [← hAe]; exact Or.inr h
  have hS : va_S A s.heap s.heap [] := va_S.rf
  have hP : va_P (dC, dI) vwCl [(h0, .inr (11, [.ref b1, .int 0, .ref b2, .int 0, .int 0, .ref b3, .ref b4, .int 0, .ref b5, .int 0, .int 9, .ref b6, .ref b7, .ref b8, .ref b9, .ref b10, .ref b11, .ref b12, .ref b13]))] s.heap := hP
  have hl := lv_entry ([.ref h0, .int p0, .int p1]) (n := 5) (Nat.le_of_ble_eq_true rfl)
  rw [lg_entry_eq]
  generalize (lg_sl ([.ref h0, .int p0, .int p1]) ++ List.replicate (5 - (lg_sl ([.ref h0, .int p0, .int p1])).length) Slot.unset).toArray = ls at hl ⊢
  have hl : lv_has ls 5 [(0, .ref h0), (1, .int p0), (2, .int p1)] := hl
  refine lv_aload_n hx hb dX11_taken_0 rfl (lv_at hl 0 rfl) ?_
  refine lv_iload_n hx hb dX11_taken_1 rfl (lv_at hl 1 rfl) ?_
  have hPc := hP.sub (ws' := [(h0, .inr (11, [.ref b1, .int 0, .ref b2, .int 0, .int 0, .ref b3, .ref b4, .int 0, .ref b5, .int 0, .int 9, .ref b6, .ref b7, .ref b8, .ref b9, .ref b10, .ref b11, .ref b12, .ref b13]))]) [0] rfl
  have hDc := hD.sub (ws' := [(h0, .inr (11, [.ref b1, .int 0, .ref b2, .int 0, .int 0, .ref b3, .ref b4, .int 0, .ref b5, .int 0, .int 9, .ref b6, .ref b7, .ref b8, .ref b9, .ref b10, .ref b11, .ref b12, .ref b13]))]) [0] (by decide) rfl
  have hKc := hK.sub (tys' := []) [] rfl
  have hFc := va_free (wc := [(h0, .inr (11, [.ref b1, .int 0, .ref b2, .int 0, .int 0, .ref b3, .ref b4, .int 0, .ref b5, .int 0, .int 9, .ref b6, .ref b7, .ref b8, .ref b9, .ref b10, .ref b11, .ref b12, .ref b13]))]) hD hS hA [0] rfl
  refine va_calli (va_runV (As := [.int p0]) (rest := []) ⟨hx, hb, hml, hown, hw⟩ (c_X11_textOf l dC dI _ (h0) (b1) (b2) (b3) (b4) (b5) (b6) (b7) (b8) (b9) (b10) (b11) (b12) (b13) (p0)) (cwV 1 hw (gV q150 q151 q152 q153 q149) rfl rfl rfl (by decide +kernel) ⟨Nat.le_of_ble_eq_true rfl, Nat.le_of_ble_eq_true rfl⟩) ⟨cP_blind, va_recv hKc hPc (ci := 11) (q0 := 0) rfl rfl, cP_pre hPc hKc hDc hN⟩ rfl rfl hl.1 rfl (lv_room (Nat.le_of_ble_eq_true rfl)) dX11_taken_2 ⟨Nat.le_of_ble_eq_true rfl, Nat.le_of_ble_eq_true rfl⟩) hS (fun q _ h => hFc q h) hFc (fun r1 u9 t H1 locs ht hvm hw1 hB hz1 hk1 hS => ?_)
  obtain ⟨hP1, hK1, hD1⟩ := hB
  rw [ht] at hP1
  have hK1 := va_K.moved hvm.symm hK1
  obtain ⟨hP, hD⟩ := va_join (wr := []) (w1 := [(h0, .inr (11, [.ref b1, .int 0, .ref b2, .int 0, .int 0, .ref b3, .ref b4, .int 0, .ref b5, .int 0, .int 9, .ref b6, .ref b7, .ref b8, .ref b9, .ref b10, .ref b11, .ref b12, .ref b13]))]) hP hD [0] [] rfl rfl (by decide) (by decide) hk1 hFc hP1 hD1
  have hK := (hK.sub (tys' := []) [] rfl).app hK1
  generalize H1 = H at hP hS ⊢
  have hP : va_P (dC, dI) vwCl [(h0, .inr (11, [.ref b1, .int 0, .ref b2, .int 0, .int 0, .ref b3, .ref b4, .int 0, .ref b5, .int 0, .int 9, .ref b6, .ref b7, .ref b8, .ref b9, .ref b10, .ref b11, .ref b12, .ref b13]))] H := hP
  have hD : va_D A [(h0, .inr (11, [.ref b1, .int 0, .ref b2, .int 0, .int 0, .ref b3, .ref b4, .int 0, .ref b5, .int 0, .int 9, .ref b6, .ref b7, .ref b8, .ref b9, .ref b10, .ref b11, .ref b12, .ref b13]))] := hD
  have hK : va_K (dC, dI) vwCl [] s := hK
  subst hw1
  refine lv_istore_n (lv' := [(3, .int (-1)), (0, .ref h0), (1, .int p0), (2, .int p1)]) hx hb dX11_taken_5 rfl hl (by decide) rfl (fun ls hl => ?_)
  refine lv_iload_n hx hb dX11_taken_6 rfl (lv_at hl 0 rfl) ?_
  refine lv_iconst (v := (-1)) hx hb dX11_taken_7 (by decide) ?_
  refine lv_icmp_eq (tgt := 18) hx hb dX11_taken_8 (by decide) (fun _ => ?_) (fun c9 => absurd c9 (by decide))
  refine lv_iconst (v := (-1)) hx hb dX11_taken_18 (by decide) ?_
  have hP9 := hP.sub (ws' := []) [] rfl
  have hD9 := hD.sub (ws' := []) [] (by decide) rfl
  have hK9 := hK.sub (tys' := []) [] rfl
  exact W.iret (v := (-1)) hx hb hr (fun t ht hW => ⟨⟨(-1), (), rfl, rfl, by rw [ht]; exact hP9, va_K.moved hW.alike hK9, hD9⟩, hS.F ht⟩) hS.2.2 dX11_taken_19
set_option maxHeartbeats 4000000 in
set_option maxRecDepth 100000 in
theorem c_X11_often (l : Launch) (dC : Nat → ClassId) (dI : Nat → Nat → Nat) (sz : Nat) (h0 : Nat) (b1 : Nat) (b2 : Nat) (b3 : Nat) (b4 : Nat) (b5 : Nat) (b6 : Nat) (b7 : Nat) (b8 : Nat) (b9 : Nat) (b10 : Nat) (b11 : Nat) (b12 : Nat) (b13 : Nat) (p0 : Int32) (p1 : Int32) : Met l yX11_often (Cond.code yX11_often cX11_often 9 (some .int) :: wp) ({ frames := 1, cells := 0, slots := 0, locals := 21 }) (cP dC dI [.ref h0, .int p0, .int p1] sz [(h0, .inr (11, [.ref b1, .int 0, .ref b2, .int 0, .int 0, .ref b3, .ref b4, .int 0, .ref b5, .int 0, .int 9, .ref b6, .ref b7, .ref b8, .ref b9, .ref b10, .ref b11, .ref b12, .ref b13]))] []) (va_Qi (fun (r : Int32) (_ : Unit) => r = -1) (fun (_ : Unit) t => cB dC dI (va_A [(h0, .inr (11, [.ref b1, .int 0, .ref b2, .int 0, .int 0, .ref b3, .ref b4, .int 0, .ref b5, .int 0, .int 9, .ref b6, .ref b7, .ref b8, .ref b9, .ref b10, .ref b11, .ref b12, .ref b13]))] sz) [] [] t) (va_A [(h0, .inr (11, [.ref b1, .int 0, .ref b2, .int 0, .int 0, .ref b3, .ref b4, .int 0, .ref b5, .int 0, .int 9, .ref b6, .ref b7, .ref b8, .ref b9, .ref b10, .ref b11, .ref b12, .ref b13]))] sz)) 0 0 (va_A [(h0, .inr (11, [.ref b1, .int 0, .ref b2, .int 0, .int 0, .ref b3, .ref b4, .int 0, .ref b5, .int 0, .int 9, .ref b6, .ref b7, .ref b8, .ref b9, .ref b10, .ref b11, .ref b12, .ref b13]))] sz) := by
  refine Met.ofW (cc := cX11_often) (maxL := 9) (ret := (some .int)) (by decide) rfl ?_
  intro p e s m args below meth c s₁ B hml hv
  obtain ⟨rfl, hsz, hP, hK, hD0, hN⟩ := hv
  have hx := B.exec
  have hb := B.bytes
  have hr := B.returns
  have hts := atoms_spec (ws := Cond.code yX11_often cX11_often 9 (some .int) :: wp) B.pre
  have hw : ∀ w ∈ wp, w.before _ s = true := fun w h => hts w (List.mem_cons_of_mem _ h)
  have hown : s.vm.findClass RX11 = some m.cls := findClass_of_methodNamed B.named
  have hlocks := B.notSynchronized
  subst hsz
  have hD := hD0.self (sz := s.heap.size)
  generalize hAe : va_A [(h0, .inr (11, [.ref b1, .int 0, .ref b2, .int 0, .int 0, .ref b3, .ref b4, .int 0, .ref b5, .int 0, .int 9, .ref b6, .ref b7, .ref b8, .ref b9, .ref b10, .ref b11, .ref b12, .ref b13]))] s.heap.size = A at hD ⊢
  have hA : ∀ q : Nat, s.heap.size ≤ q → A q := fun q h => by rw [← hAe]; exact Or.inr h
  have hS : va_S A s.heap s.heap [] := va_S.rf
  have hP : va_P (dC, dI) vwCl [(h0, .inr (11, [.ref b1, .int 0, .ref b2, .int 0, .int 0, .ref b3, .ref b4, .int 0, .ref b5, .int 0, .int 9, .ref b6, .ref b7, .ref b8, .ref b9, .ref b10, .ref b11, .ref b12, .ref b13]))] s.heap := hP
  have hl := lv_entry ([.ref h0, .int p0, .int p1]) (n := 9) (Nat.le_of_ble_eq_true rfl)
  rw [lg_entry_eq]
  generalize (lg_sl ([.ref h0, .int p0, .int p1]) ++ List.replicate (9 - (lg_sl ([.ref h0, .int p0, .int p1])).length) Slot.unset).toArray = ls at hl ⊢
  have hl : lv_has ls 9 [(0, .ref h0), (1, .int p0), (2, .int p1)] := hl
  refine lv_aload_n hx hb dX11_often_0 rfl (lv_at hl 0 rfl) ?_
  refine lv_iload_n hx hb dX11_often_1 rfl (lv_at hl 1 rfl) ?_
  have hPc := hP.sub (ws' := [(h0, .inr (11, [.ref b1, .int 0, .ref b2, .int 0, .int 0, .ref b3, .ref b4, .int 0, .ref b5, .int 0, .int 9, .ref b6, .ref b7, .ref b8, .ref b9, .ref b10, .ref b11, .ref b12, .ref b13]))]) [0] rfl
  have hDc := hD.sub (ws' := [(h0, .inr (11, [.ref b1, .int 0, .ref b2, .int 0, .int 0, .ref b3, .ref b4, .int 0, .ref b5, .int 0, .int 9, .ref b6, .ref b7, .ref b8, .ref b9, .ref b10, .ref b11, .ref b12, .ref b13]))]) [0] (by decide) rfl
  have hKc := hK.sub (tys' := []) [] rfl
  have hFc := va_free (wc := [(h0, .inr (11, [.ref b1, .int 0, .ref b2, .int 0, .int 0, .ref b3, .ref b4, .int 0, .ref b5, .int 0, .int 9, .ref b6, .ref b7, .ref b8, .ref b9, .ref b10, .ref b11, .ref b12, .ref b13]))]) hD hS hA [0] rfl
  refine va_calli (va_runV (As := [.int p0]) (rest := []) ⟨hx, hb, hml, hown, hw⟩ (c_X11_textOf l dC dI _ (h0) (b1) (b2) (b3) (b4) (b5) (b6) (b7) (b8) (b9) (b10) (b11) (b12) (b13) (p0)) (cwV 1 hw (gV q150 q151 q152 q153 q149) rfl rfl rfl (by decide +kernel) ⟨Nat.le_of_ble_eq_true rfl, Nat.le_of_ble_eq_true rfl⟩) ⟨cP_blind, va_recv hKc hPc (ci := 11) (q0 := 0) rfl rfl, cP_pre hPc hKc hDc hN⟩ rfl rfl hl.1 rfl (lv_room (Nat.le_of_ble_eq_true rfl)) dX11_often_2 ⟨Nat.le_of_ble_eq_true rfl, Nat.le_of_ble_eq_true rfl⟩) hS (fun q _ h => hFc q h) hFc (fun r1 u9 t H1 locs ht hvm hw1 hB hz1 hk1 hS => ?_)
  obtain ⟨hP1, hK1, hD1⟩ := hB
  rw [ht] at hP1
  have hK1 := va_K.moved hvm.symm hK1
  obtain ⟨hP, hD⟩ := va_join (wr := []) (w1 := [(h0, .inr (11, [.ref b1, .int 0, .ref b2, .int 0, .int 0, .ref b3, .ref b4, .int 0, .ref b5, .int 0, .int 9, .ref b6, .ref b7, .ref b8, .ref b9, .ref b10, .ref b11, .ref b12, .ref b13]))]) hP hD [0] [] rfl rfl (by decide) (by decide) hk1 hFc hP1 hD1
  have hK := (hK.sub (tys' := []) [] rfl).app hK1
  generalize H1 = H at hP hS ⊢
  have hP : va_P (dC, dI) vwCl [(h0, .inr (11, [.ref b1, .int 0, .ref b2, .int 0, .int 0, .ref b3, .ref b4, .int 0, .ref b5, .int 0, .int 9, .ref b6, .ref b7, .ref b8, .ref b9, .ref b10, .ref b11, .ref b12, .ref b13]))] H := hP
  have hD : va_D A [(h0, .inr (11, [.ref b1, .int 0, .ref b2, .int 0, .int 0, .ref b3, .ref b4, .int 0, .ref b5, .int 0, .int 9, .ref b6, .ref b7, .ref b8, .ref b9, .ref b10, .ref b11, .ref b12, .ref b13]))] := hD
  have hK : va_K (dC, dI) vwCl [] s := hK
  subst hw1
  refine lv_istore_n (lv' := [(3, .int (-1)), (0, .ref h0), (1, .int p0), (2, .int p1)]) hx hb dX11_often_5 rfl hl (by decide) rfl (fun ls hl => ?_)
  refine lv_iload_n hx hb dX11_often_6 rfl (lv_at hl 0 rfl) ?_
  refine lv_iconst (v := (-1)) hx hb dX11_often_7 (by decide) ?_
  refine lv_icmp_eq (tgt := 18) hx hb dX11_often_8 (by decide) (fun _ => ?_) (fun c9 => absurd c9 (by decide))
  refine lv_iconst (v := (-1)) hx hb dX11_often_18 (by decide) ?_
  have hP9 := hP.sub (ws' := []) [] rfl
  have hD9 := hD.sub (ws' := []) [] (by decide) rfl
  have hK9 := hK.sub (tys' := []) [] rfl
  exact W.iret (v := (-1)) hx hb hr (fun t ht hW => ⟨⟨(-1), (), rfl, rfl, by rw [ht]; exact hP9, va_K.moved hW.alike hK9, hD9⟩, hS.F ht⟩) hS.2.2 dX11_often_19
set_option maxHeartbeats 4000000 in
set_option maxRecDepth 100000 in
theorem c_X11_end (l : Launch) (dC : Nat → ClassId) (dI : Nat → Nat → Nat) (sz : Nat) (h0 : Nat) (b1 : Nat) (b2 : Nat) (b3 : Nat) (b4 : Nat) (b5 : Nat) (b6 : Nat) (b7 : Nat) (b8 : Nat) (b9 : Nat) (b10 : Nat) (b11 : Nat) (b12 : Nat) (b13 : Nat) (p0 : Int32) : Met l yX11_end (Cond.code yX11_end cX11_end 2 (some .boolean) :: wp) ({ frames := 0, cells := 0, slots := 0, locals := 0 }) (cP dC dI [.ref h0, .int p0] sz [(h0, .inr (11, [.ref b1, .int 0, .ref b2, .int 0, .int 0, .ref b3, .ref b4, .int 0, .ref b5, .int 0, .int 9, .ref b6, .ref b7, .ref b8, .ref b9, .ref b10, .ref b11, .ref b12, .ref b13]))] []) (va_Qi (fun (r : Int32) (_ : Unit) => r = (if p0 = 0 then 1 else 0)) (fun (_ : Unit) t => cB dC dI (va_A [(h0, .inr (11, [.ref b1, .int 0, .ref b2, .int 0, .int 0, .ref b3, .ref b4, .int 0, .ref b5, .int 0, .int 9, .ref b6, .ref b7, .ref b8, .ref b9, .ref b10, .ref b11, .ref b12, .ref b13]))] sz) [] [] t) (va_A [(h0, .inr (11, [.ref b1, .int 0, .ref b2, .int 0, .int 0, .ref b3, .ref b4, .int 0, .ref b5, .int 0, .int 9, .ref b6, .ref b7, .ref b8, .ref b9, .ref b10, .ref b11, .ref b12, .ref b13]))] sz)) 0 0 (va_A [(h0, .inr (11, [.ref b1, .int 0, .ref b2, .int 0, .int 0, .ref b3, .ref b4, .int 0, .ref b5, .int 0, .int 9, .ref b6, .ref b7, .ref b8, .ref b9, .ref b10, .ref b11, .ref b12, .ref b13]))] sz) := by
  refine Met.ofW (cc := cX11_end) (maxL := 2) (ret := (some .boolean)) (by decide) rfl ?_
  intro p e s m args below meth c s₁ B hml hv
  obtain ⟨rfl, hsz, hP, hK, hD0, hN⟩ := hv
  have hx := B.exec
  have hb := B.bytes
  have hr := B.returns
  have hts := atoms_spec (ws := Cond.code yX11_end cX11_end 2 (some .boolean) :: wp) B.pre
  have hw : ∀ w ∈ wp, w.before _ s = true := fun w h => hts w (List.mem_cons_of_mem _ h)
  have hown : s.vm.findClass RX11 = some m.cls := findClass_of_methodNamed B.named
  have hlocks := B.notSynchronized
  subst hsz
  have hD := hD0.self (sz := s.heap.size)
  generalize hAe : va_A [(h0, .inr (11, [.ref b1, .int 0, .ref b2, .int 0, .int 0, .ref b3, .ref b4, .int 0, .ref b5, .int 0, .int 9, .ref b6, .ref b7, .ref b8, .ref b9, .ref b10, .ref b11, .ref b12, .ref b13]))] s.heap.size = A at hD ⊢
  have hA : ∀ q : Nat, s.heap.size ≤ q → A q := fun q h => by rw [← hAe]; exact Or.inr h
  have hS : va_S A s.heap s.heap [] := va_S.rf
  have hP : va_P (dC, dI) vwCl [(h0, .inr (11, [.ref b1, .int 0, .ref b2, .int 0, .int 0, .ref b3, .ref b4, .int 0, .ref b5, .int 0, .int 9, .ref b6, .ref b7, .ref b8, .ref b9, .ref b10, .ref b11, .ref b12, .ref b13]))] s.heap := hP
  have hl := lv_entry ([.ref h0, .int p0]) (n := 2) (Nat.le_of_ble_eq_true rfl)
  rw [lg_entry_eq]
  generalize (lg_sl ([.ref h0, .int p0]) ++ List.replicate (2 - (lg_sl ([.ref h0, .int p0])).length) Slot.unset).toArray = ls at hl ⊢
  have hl : lv_has ls 2 [(0, .ref h0), (1, .int p0)] := hl
  by_cases h_0 : p0 = 0
  · subst h_0
    refine lv_iload_n hx hb dX11_end_0 rfl (lv_at hl 1 rfl) ?_
    refine lv_if_lt (tgt := 12) hx hb dX11_end_1 (by decide) (fun c9 => absurd c9 (by decide)) (fun _ => ?_)
    refine lv_iload_n hx hb dX11_end_4 rfl (lv_at hl 1 rfl) ?_
    refine lv_aload_n hx hb dX11_end_5 rfl (lv_at hl 0 rfl) ?_
    refine va_get (D := (dC, dI)) (ci := 11) (v := .int 0) (C := RX11) (T := TX11) (N := 19) hx hb hw uX11 hown hK hP 0 rfl rfl 1 (by decide) (hw _ q159) (fun _ h9 => h9) rfl dX11_end_6 ?_
    refine lv_icmp_le (tgt := 14) hx hb dX11_end_9 (by decide) (fun _ => ?_) (fun c9 => absurd c9 (by decide))
    refine lv_aload_n hx hb dX11_end_14 rfl (lv_at hl 0 rfl) ?_
    refine lv_iload_n hx hb dX11_end_15 rfl (lv_at hl 1 rfl) ?_
    refine va_put (D := (dC, dI)) (ci := 11) (v := .int 0) (ty := .int) (C := RX11) (T := TX11) (N := 19) hx hb hw uX11 tyX11 tyX11_ok nmX11 hown hK hP hD hS 0 rfl rfl 1 (by decide) (hw _ q159) (fun _ h9 => h9) rfl (by decide +kernel) rfl rfl (Nat.le_of_ble_eq_true rfl) dX11_end_16 (fun H locs hP hD hS => ?_)
    have hP : va_P (dC, dI) vwCl [(h0, .inr (11, [.ref b1, .int 0, .ref b2, .int 0, .int 0, .ref b3, .ref b4, .int 0, .ref b5, .int 0, .int 9, .ref b6, .ref b7, .ref b8, .ref b9, .ref b10, .ref b11, .ref b12, .ref b13]))] H := hP
    have hD : va_D A [(h0, .inr (11, [.ref b1, .int 0, .ref b2, .int 0, .int 0, .ref b3, .ref b4, .int 0, .ref b5, .int 0, .int 9, .ref b6, .ref b7, .ref b8, .ref b9, .ref b10, .ref b11, .ref b12, .ref b13]))] := hD
    refine lv_iconst (v := 1) hx hb dX11_end_19 (by decide) ?_
    have hP9 := hP.sub (ws' := []) [] rfl
    have hD9 := hD.sub (ws' := []) [] (by decide) rfl
    have hK9 := hK.sub (tys' := []) [] rfl
    exact W.zret (v := 1) hx hb hr (rfl) (fun t ht hW => ⟨⟨1, (), rfl, (by decide), by rw [ht]; exact hP9, va_K.moved hW.alike hK9, hD9⟩, hS.F ht⟩) hS.2.2 dX11_end_20
  · have hne0 := h_0
    refine lv_iload_n hx hb dX11_end_0 rfl (lv_at hl 1 rfl) ?_
    refine lv_if_lt (tgt := 12) hx hb dX11_end_1 (by decide) (fun c1 => ?_) (fun c1 => ?_)
    · refine lv_iconst (v := 0) hx hb dX11_end_12 (by decide) ?_
      have hP9 := hP.sub (ws' := []) [] rfl
      have hD9 := hD.sub (ws' := []) [] (by decide) rfl
      have hK9 := hK.sub (tys' := []) [] rfl
      exact W.zret (v := 0) hx hb hr (rfl) (fun t ht hW => ⟨⟨0, (), rfl, (if_neg h_0).symm, by rw [ht]; exact hP9, va_K.moved hW.alike hK9, hD9⟩, hS.F ht⟩) hS.2.2 dX11_end_13
    · refine lv_iload_n hx hb dX11_end_4 rfl (lv_at hl 1 rfl) ?_
      refine lv_aload_n hx hb dX11_end_5 rfl (lv_at hl 0 rfl) ?_
      refine va_get (D := (dC, dI)) (ci := 11) (v := .int 0) (C := RX11) (T := TX11) (N := 19) hx hb hw uX11 hown hK hP 0 rfl rfl 1 (by decide) (hw _ q159) (fun _ h9 => h9) rfl dX11_end_6 ?_
      refine lv_icmp_le (tgt := 14) hx hb dX11_end_9 (by decide) (fun c2 => False.elim (zz2 h_0 c1 c2)) (fun kc2 => ?_)
      refine lv_iconst (v := 0) hx hb dX11_end_12 (by decide) ?_
      have hP9 := hP.sub (ws' := []) [] rfl
      have hD9 := hD.sub (ws' := []) [] (by decide) rfl
      have hK9 := hK.sub (tys' := []) [] rfl
      exact W.zret (v := 0) hx hb hr (rfl) (fun t ht hW => ⟨⟨0, (), rfl, (if_neg h_0).symm, by rw [ht]; exact hP9, va_K.moved hW.alike hK9, hD9⟩, hS.F ht⟩) hS.2.2 dX11_end_13
set_option maxHeartbeats 4000000 in
set_option maxRecDepth 100000 in
theorem c_X11_forgets (l : Launch) (dC : Nat → ClassId) (dI : Nat → Nat → Nat) (sz : Nat) (h0 : Nat) (b1 : Nat) (b2 : Nat) (b3 : Nat) (b4 : Nat) (b5 : Nat) (b6 : Nat) (b7 : Nat) (b8 : Nat) (b9 : Nat) (b10 : Nat) (b11 : Nat) (b12 : Nat) (b13 : Nat) (p0 : Int32) : Met l yX11_forgets (Cond.code yX11_forgets cX11_forgets 3 (some .int) :: wp) ({ frames := 0, cells := 0, slots := 0, locals := 0 }) (cP dC dI [.ref h0, .int p0] sz [(h0, .inr (11, [.ref b1, .int 0, .ref b2, .int 0, .int 0, .ref b3, .ref b4, .int 0, .ref b5, .int 0, .int 9, .ref b6, .ref b7, .ref b8, .ref b9, .ref b10, .ref b11, .ref b12, .ref b13]))] []) (va_Qi (fun (r : Int32) (_ : Unit) => r = (if p0 = 0 then 0 else -1)) (fun (_ : Unit) t => cB dC dI (va_A [(h0, .inr (11, [.ref b1, .int 0, .ref b2, .int 0, .int 0, .ref b3, .ref b4, .int 0, .ref b5, .int 0, .int 9, .ref b6, .ref b7, .ref b8, .ref b9, .ref b10, .ref b11, .ref b12, .ref b13]))] sz) [] [] t) (va_A [(h0, .inr (11, [.ref b1, .int 0, .ref b2, .int 0, .int 0, .ref b3, .ref b4, .int 0, .ref b5, .int 0, .int 9, .ref b6, .ref b7, .ref b8, .ref b9, .ref b10, .ref b11, .ref b12, .ref b13]))] sz)) 0 0 (va_A [(h0, .inr (11, [.ref b1, .int 0, .ref b2, .int 0, .int 0, .ref b3, .ref b4, .int 0, .ref b5, .int 0, .int 9, .ref b6, .ref b7, .ref b8, .ref b9, .ref b10, .ref b11, .ref b12, .ref b13]))] sz) := by
  refine Met.ofW (cc := cX11_forgets) (maxL := 3) (ret := (some .int)) (by decide) rfl ?_
  intro p e s m args below meth c s₁ B hml hv
  obtain ⟨rfl, hsz, hP, hK, hD0, hN⟩ := hv
  have hx := B.exec
  have hb := B.bytes
  have hr := B.returns
  have hts := atoms_spec (ws := Cond.code yX11_forgets cX11_forgets 3 (some .int) :: wp) B.pre
  have hw : ∀ w ∈ wp, w.before _ s = true := fun w h => hts w (List.mem_cons_of_mem _ h)
  have hown : s.vm.findClass RX11 = some m.cls := findClass_of_methodNamed B.named
  have hlocks := B.notSynchronized
  subst hsz
  have hD := hD0.self (sz := s.heap.size)
  generalize hAe : va_A [(h0, .inr (11, [.ref b1, .int 0, .ref b2, .int 0, .int 0, .ref b3, .ref b4, .int 0, .ref b5, .int 0, .int 9, .ref b6, .ref b7, .ref b8, .ref b9, .ref b10, .ref b11, .ref b12, .ref b13]))] s.heap.size = A at hD ⊢
  have hA : ∀ q : Nat, s.heap.size ≤ q → A q := fun q h => by rw [← hAe]; exact Or.inr h
  have hS : va_S A s.heap s.heap [] := va_S.rf
  have hP : va_P (dC, dI) vwCl [(h0, .inr (11, [.ref b1, .int 0, .ref b2, .int 0, .int 0, .ref b3, .ref b4, .int 0, .ref b5, .int 0, .int 9, .ref b6, .ref b7, .ref b8, .ref b9, .ref b10, .ref b11, .ref b12, .ref b13]))] s.heap := hP
  have hl := lv_entry ([.ref h0, .int p0]) (n := 3) (Nat.le_of_ble_eq_true rfl)
  rw [lg_entry_eq]
  generalize (lg_sl ([.ref h0, .int p0]) ++ List.replicate (3 - (lg_sl ([.ref h0, .int p0])).length) Slot.unset).toArray = ls at hl ⊢
  have hl : lv_has ls 3 [(0, .ref h0), (1, .int p0)] := hl
  by_cases h_0 : p0 = 0
  · subst h_0
    refine lv_iload_n hx hb dX11_forgets_0 rfl (lv_at hl 1 rfl) ?_
    refine lv_if_lt (tgt := 12) hx hb dX11_forgets_1 (by decide) (fun c9 => absurd c9 (by decide)) (fun _ => ?_)
    refine lv_iload_n hx hb dX11_forgets_4 rfl (lv_at hl 1 rfl) ?_
    refine lv_aload_n hx hb dX11_forgets_5 rfl (lv_at hl 0 rfl) ?_
    refine va_get (D := (dC, dI)) (ci := 11) (v := .int 0) (C := RX11) (T := TX11) (N := 19) hx hb hw uX11 hown hK hP 0 rfl rfl 3 (by decide) (hw _ q147) (fun _ h9 => h9) rfl dX11_forgets_6 ?_
    refine lv_icmp_le (tgt := 14) hx hb dX11_forgets_9 (by decide) (fun _ => ?_) (fun c9 => absurd c9 (by decide))
    refine lv_aload_n hx hb dX11_forgets_14 rfl (lv_at hl 0 rfl) ?_
    refine va_get (D := (dC, dI)) (ci := 11) (v := .int 0) (C := RX11) (T := TX11) (N := 19) hx hb hw uX11 hown hK hP 0 rfl rfl 4 (by decide) (hw _ q148) (fun _ h9 => h9) rfl dX11_forgets_15 ?_
    refine lv_if_eq (tgt := 74) hx hb dX11_forgets_18 (by decide) (fun _ => ?_) (fun c9 => absurd c9 (by decide))
    refine lv_aload_n hx hb dX11_forgets_74 rfl (lv_at hl 0 rfl) ?_
    refine va_get (D := (dC, dI)) (ci := 11) (v := .int 0) (C := RX11) (T := TX11) (N := 19) hx hb hw uX11 hown hK hP 0 rfl rfl 3 (by decide) (hw _ q147) (fun _ h9 => h9) rfl dX11_forgets_75 ?_
    refine lv_iload_n hx hb dX11_forgets_78 rfl (lv_at hl 1 rfl) ?_
    refine lv_isub hx hb dX11_forgets_79 ?_
    refine lv_topi (fun y1 ey1 => ?_)
    have ey1 : y1 = 0 := ey1.trans (by decide +kernel)
    subst ey1
    refine lv_istore_n (lv' := [(2, .int 0), (0, .ref h0), (1, .int 0)]) hx hb dX11_forgets_80 rfl hl (by decide) rfl (fun ls hl => ?_)
    refine lv_aload_n hx hb dX11_forgets_81 rfl (lv_at hl 1 rfl) ?_
    refine lv_iload_n hx hb dX11_forgets_82 rfl (lv_at hl 2 rfl) ?_
    refine va_put (D := (dC, dI)) (ci := 11) (v := .int 0) (ty := .int) (C := RX11) (T := TX11) (N := 19) hx hb hw uX11 tyX11 tyX11_ok nmX11 hown hK hP hD hS 0 rfl rfl 3 (by decide) (hw _ q147) (fun _ h9 => h9) rfl (by decide +kernel) rfl rfl (Nat.le_of_ble_eq_true rfl) dX11_forgets_83 (fun H locs hP hD hS => ?_)
    have hP : va_P (dC, dI) vwCl [(h0, .inr (11, [.ref b1, .int 0, .ref b2, .int 0, .int 0, .ref b3, .ref b4, .int 0, .ref b5, .int 0, .int 9, .ref b6, .ref b7, .ref b8, .ref b9, .ref b10, .ref b11, .ref b12, .ref b13]))] H := hP
    have hD : va_D A [(h0, .inr (11, [.ref b1, .int 0, .ref b2, .int 0, .int 0, .ref b3, .ref b4, .int 0, .ref b5, .int 0, .int 9, .ref b6, .ref b7, .ref b8, .ref b9, .ref b10, .ref b11, .ref b12, .ref b13]))] := hD
    refine lv_aload_n hx hb dX11_forgets_86 rfl (lv_at hl 1 rfl) ?_
    refine lv_bipush (v := 9) hx hb dX11_forgets_87 (by decide) ?_
    refine va_put (D := (dC, dI)) (ci := 11) (v := .int 9) (ty := .int) (C := RX11) (T := TX11) (N := 19) hx hb hw uX11 tyX11 tyX11_ok nmX11 hown hK hP hD hS 0 rfl rfl 10 (by decide) (hw _ q90) (fun _ h9 => h9) rfl (by decide +kernel) rfl rfl (Nat.le_of_ble_eq_true rfl) dX11_forgets_89 (fun H locs hP hD hS => ?_)
    have hP : va_P (dC, dI) vwCl [(h0, .inr (11, [.ref b1, .int 0, .ref b2, .int 0, .int 0, .ref b3, .ref b4, .int 0, .ref b5, .int 0, .int 9, .ref b6, .ref b7, .ref b8, .ref b9, .ref b10, .ref b11, .ref b12, .ref b13]))] H := hP
    have hD : va_D A [(h0, .inr (11, [.ref b1, .int 0, .ref b2, .int 0, .int 0, .ref b3, .ref b4, .int 0, .ref b5, .int 0, .int 9, .ref b6, .ref b7, .ref b8, .ref b9, .ref b10, .ref b11, .ref b12, .ref b13]))] := hD
    refine lv_iload_n hx hb dX11_forgets_92 rfl (lv_at hl 0 rfl) ?_
    have hP9 := hP.sub (ws' := []) [] rfl
    have hD9 := hD.sub (ws' := []) [] (by decide) rfl
    have hK9 := hK.sub (tys' := []) [] rfl
    exact W.iret (v := 0) hx hb hr (fun t ht hW => ⟨⟨0, (), rfl, (by decide), by rw [ht]; exact hP9, va_K.moved hW.alike hK9, hD9⟩, hS.F ht⟩) hS.2.2 dX11_forgets_93
  · have hne0 := h_0
    refine lv_iload_n hx hb dX11_forgets_0 rfl (lv_at hl 1 rfl) ?_
    refine lv_if_lt (tgt := 12) hx hb dX11_forgets_1 (by decide) (fun c2 => ?_) (fun c2 => ?_)
    · refine lv_iconst (v := (-1)) hx hb dX11_forgets_12 (by decide) ?_
      have hP9 := hP.sub (ws' := []) [] rfl
      have hD9 := hD.sub (ws' := []) [] (by decide) rfl
      have hK9 := hK.sub (tys' := []) [] rfl
      exact W.iret (v := (-1)) hx hb hr (fun t ht hW => ⟨⟨(-1), (), rfl, (if_neg h_0).symm, by rw [ht]; exact hP9, va_K.moved hW.alike hK9, hD9⟩, hS.F ht⟩) hS.2.2 dX11_forgets_13
    · refine lv_iload_n hx hb dX11_forgets_4 rfl (lv_at hl 1 rfl) ?_
      refine lv_aload_n hx hb dX11_forgets_5 rfl (lv_at hl 0 rfl) ?_
      refine va_get (D := (dC, dI)) (ci := 11) (v := .int 0) (C := RX11) (T := TX11) (N := 19) hx hb hw uX11 hown hK hP 0 rfl rfl 3 (by decide) (hw _ q147) (fun _ h9 => h9) rfl dX11_forgets_6 ?_
      refine lv_icmp_le (tgt := 14) hx hb dX11_forgets_9 (by decide) (fun c3 => False.elim (zz2 h_0 c2 c3)) (fun kc3 => ?_)
      refine lv_iconst (v := (-1)) hx hb dX11_forgets_12 (by decide) ?_
      have hP9 := hP.sub (ws' := []) [] rfl
      have hD9 := hD.sub (ws' := []) [] (by decide) rfl
      have hK9 := hK.sub (tys' := []) [] rfl
      exact W.iret (v := (-1)) hx hb hr (fun t ht hW => ⟨⟨(-1), (), rfl, (if_neg h_0).symm, by rw [ht]; exact hP9, va_K.moved hW.alike hK9, hD9⟩, hS.F ht⟩) hS.2.2 dX11_forgets_13
set_option maxHeartbeats 4000000 in
set_option maxRecDepth 100000 in
theorem c_X11_count (l : Launch) (dC : Nat → ClassId) (dI : Nat → Nat → Nat) (sz : Nat) (h0 : Nat) (b1 : Nat) (b2 : Nat) (b3 : Nat) (b4 : Nat) (b5 : Nat) (b6 : Nat) (b7 : Nat) (b8 : Nat) (b9 : Nat) (b10 : Nat) (b11 : Nat) (b12 : Nat) (b13 : Nat) (p0 : Int32) : Met l yX11_count (Cond.code yX11_count cX11_count 2 (some .int) :: wp) ({ frames := 0, cells := 0, slots := 0, locals := 0 }) (cP dC dI [.ref h0, .int p0] sz [(h0, .inr (11, [.ref b1, .int 0, .ref b2, .int 0, .int 0, .ref b3, .ref b4, .int 0, .ref b5, .int 0, .int 9, .ref b6, .ref b7, .ref b8, .ref b9, .ref b10, .ref b11, .ref b12, .ref b13]))] []) (va_Qi (fun (r : Int32) (_ : Unit) => r = cnt5 p0) (fun (_ : Unit) t => cB dC dI (va_A [(h0, .inr (11, [.ref b1, .int 0, .ref b2, .int 0, .int 0, .ref b3, .ref b4, .int 0, .ref b5, .int 0, .int 9, .ref b6, .ref b7, .ref b8, .ref b9, .ref b10, .ref b11, .ref b12, .ref b13]))] sz) [] [] t) (va_A [(h0, .inr (11, [.ref b1, .int 0, .ref b2, .int 0, .int 0, .ref b3, .ref b4, .int 0, .ref b5, .int 0, .int 9, .ref b6, .ref b7, .ref b8, .ref b9, .ref b10, .ref b11, .ref b12, .ref b13]))] sz)) 0 0 (va_A [(h0, .inr (11, [.ref b1, .int 0, .ref b2, .int 0, .int 0, .ref b3, .ref b4, .int 0, .ref b5, .int 0, .int 9, .ref b6, .ref b7, .ref b8, .ref b9, .ref b10, .ref b11, .ref b12, .ref b13]))] sz) := by
  refine Met.ofW (cc := cX11_count) (maxL := 2) (ret := (some .int)) (by decide) rfl ?_
  intro p e s m args below meth c s₁ B hml hv
  obtain ⟨rfl, hsz, hP, hK, hD0, hN⟩ := hv
  have hx := B.exec
  have hb := B.bytes
  have hr := B.returns
  have hts := atoms_spec (ws := Cond.code yX11_count cX11_count 2 (some .int) :: wp) B.pre
  have hw : ∀ w ∈ wp, w.before _ s = true := fun w h => hts w (List.mem_cons_of_mem _ h)
  have hown : s.vm.findClass RX11 = some m.cls := findClass_of_methodNamed B.named
  have hlocks := B.notSynchronized
  subst hsz
  have hD := hD0.self (sz := s.heap.size)
  generalize hAe : va_A [(h0, .inr (11, [.ref b1, .int 0, .ref b2, .int 0, .int 0, .ref b3, .ref b4, .int 0, .ref b5, .int 0, .int 9, .ref b6, .ref b7, .ref b8, .ref b9, .ref b10, .ref b11, .ref b12, .ref b13]))] s.heap.size = A at hD ⊢
  have hA : ∀ q : Nat, s.heap.size ≤ q → A q := fun q h => by rw [← hAe]; exact Or.inr h
  have hS : va_S A s.heap s.heap [] := va_S.rf
  have hP : va_P (dC, dI) vwCl [(h0, .inr (11, [.ref b1, .int 0, .ref b2, .int 0, .int 0, .ref b3, .ref b4, .int 0, .ref b5, .int 0, .int 9, .ref b6, .ref b7, .ref b8, .ref b9, .ref b10, .ref b11, .ref b12, .ref b13]))] s.heap := hP
  have hl := lv_entry ([.ref h0, .int p0]) (n := 2) (Nat.le_of_ble_eq_true rfl)
  rw [lg_entry_eq]
  generalize (lg_sl ([.ref h0, .int p0]) ++ List.replicate (2 - (lg_sl ([.ref h0, .int p0])).length) Slot.unset).toArray = ls at hl ⊢
  have hl : lv_has ls 2 [(0, .ref h0), (1, .int p0)] := hl
  by_cases h_0 : p0 = 0
  · subst h_0
    refine lv_iload_n hx hb dX11_count_0 rfl (lv_at hl 1 rfl) ?_
    refine lv_tableIn (tgt := 36) (off := 35) hx hb dX11_count_1 (by decide) (by decide) (by decide) (by decide) ?_
    refine lv_aload_n hx hb dX11_count_36 rfl (lv_at hl 0 rfl) ?_
    refine va_get (D := (dC, dI)) (ci := 11) (v := .int 0) (C := RX11) (T := TX11) (N := 19) hx hb hw uX11 hown hK hP 0 rfl rfl 3 (by decide) (hw _ q147) (fun _ h9 => h9) rfl dX11_count_37 ?_
    have hP9 := hP.sub (ws' := []) [] rfl
    have hD9 := hD.sub (ws' := []) [] (by decide) rfl
    have hK9 := hK.sub (tys' := []) [] rfl
    exact W.iret (v := 0) hx hb hr (fun t ht hW => ⟨⟨0, (), rfl, (by decide), by rw [ht]; exact hP9, va_K.moved hW.alike hK9, hD9⟩, hS.F ht⟩) hS.2.2 dX11_count_40
  · have hne0 := h_0
    by_cases h_1 : p0 = 1
    · subst h_1
      refine lv_iload_n hx hb dX11_count_0 rfl (lv_at hl 1 rfl) ?_
      refine lv_tableIn (tgt := 41) (off := 40) hx hb dX11_count_1 (by decide) (by decide) (by decide) (by decide) ?_
      refine lv_aload_n hx hb dX11_count_41 rfl (lv_at hl 0 rfl) ?_
      refine va_get (D := (dC, dI)) (ci := 11) (v := .int 0) (C := RX11) (T := TX11) (N := 19) hx hb hw uX11 hown hK hP 0 rfl rfl 4 (by decide) (hw _ q148) (fun _ h9 => h9) rfl dX11_count_42 ?_
      refine lv_if_eq (tgt := 52) hx hb dX11_count_45 (by decide) (fun _ => ?_) (fun c9 => absurd c9 (by decide))
      refine lv_iconst (v := 0) hx hb dX11_count_52 (by decide) ?_
      have hP9 := hP.sub (ws' := []) [] rfl
      have hD9 := hD.sub (ws' := []) [] (by decide) rfl
      have hK9 := hK.sub (tys' := []) [] rfl
      exact W.iret (v := 0) hx hb hr (fun t ht hW => ⟨⟨0, (), rfl, (by decide), by rw [ht]; exact hP9, va_K.moved hW.alike hK9, hD9⟩, hS.F ht⟩) hS.2.2 dX11_count_53
    · have hne1 := h_1
      by_cases h_2 : p0 = 2
      · subst h_2
        refine lv_iload_n hx hb dX11_count_0 rfl (lv_at hl 1 rfl) ?_
        refine lv_tableIn (tgt := 54) (off := 53) hx hb dX11_count_1 (by decide) (by decide) (by decide) (by decide) ?_
        refine lv_aload_n hx hb dX11_count_54 rfl (lv_at hl 0 rfl) ?_
        refine va_get (D := (dC, dI)) (ci := 11) (v := .int 0) (C := RX11) (T := TX11) (N := 19) hx hb hw uX11 hown hK hP 0 rfl rfl 7 (by decide) (hw _ q154) (fun _ h9 => h9) rfl dX11_count_55 ?_
        refine lv_if_eq (tgt := 65) hx hb dX11_count_58 (by decide) (fun _ => ?_) (fun c9 => absurd c9 (by decide))
        refine lv_iconst (v := 0) hx hb dX11_count_65 (by decide) ?_
        have hP9 := hP.sub (ws' := []) [] rfl
        have hD9 := hD.sub (ws' := []) [] (by decide) rfl
        have hK9 := hK.sub (tys' := []) [] rfl
        exact W.iret (v := 0) hx hb hr (fun t ht hW => ⟨⟨0, (), rfl, (by decide), by rw [ht]; exact hP9, va_K.moved hW.alike hK9, hD9⟩, hS.F ht⟩) hS.2.2 dX11_count_66
      · have hne2 := h_2
        by_cases h_3 : p0 = 3
        · subst h_3
          refine lv_iload_n hx hb dX11_count_0 rfl (lv_at hl 1 rfl) ?_
          refine lv_tableIn (tgt := 67) (off := 66) hx hb dX11_count_1 (by decide) (by decide) (by decide) (by decide) ?_
          refine lv_aload_n hx hb dX11_count_67 rfl (lv_at hl 0 rfl) ?_
          refine va_get (D := (dC, dI)) (ci := 11) (v := .int 0) (C := RX11) (T := TX11) (N := 19) hx hb hw uX11 hown hK hP 0 rfl rfl 9 (by decide) (hw _ q160) (fun _ h9 => h9) rfl dX11_count_68 ?_
          have hP9 := hP.sub (ws' := []) [] rfl
          have hD9 := hD.sub (ws' := []) [] (by decide) rfl
          have hK9 := hK.sub (tys' := []) [] rfl
          exact W.iret (v := 0) hx hb hr (fun t ht hW => ⟨⟨0, (), rfl, (by decide), by rw [ht]; exact hP9, va_K.moved hW.alike hK9, hD9⟩, hS.F ht⟩) hS.2.2 dX11_count_71
        · have hne3 := h_3
          by_cases h_4 : p0 = 4
          · subst h_4
            refine lv_iload_n hx hb dX11_count_0 rfl (lv_at hl 1 rfl) ?_
            refine lv_tableIn (tgt := 72) (off := 71) hx hb dX11_count_1 (by decide) (by decide) (by decide) (by decide) ?_
            refine lv_aload_n hx hb dX11_count_72 rfl (lv_at hl 0 rfl) ?_
            refine va_get (D := (dC, dI)) (ci := 11) (v := .int 0) (C := RX11) (T := TX11) (N := 19) hx hb hw uX11 hown hK hP 0 rfl rfl 1 (by decide) (hw _ q159) (fun _ h9 => h9) rfl dX11_count_73 ?_
            have hP9 := hP.sub (ws' := []) [] rfl
            have hD9 := hD.sub (ws' := []) [] (by decide) rfl
            have hK9 := hK.sub (tys' := []) [] rfl
            exact W.iret (v := 0) hx hb hr (fun t ht hW => ⟨⟨0, (), rfl, (by decide), by rw [ht]; exact hP9, va_K.moved hW.alike hK9, hD9⟩, hS.F ht⟩) hS.2.2 dX11_count_76
          · have hne4 := h_4
            refine lv_iload_n hx hb dX11_count_0 rfl (lv_at hl 1 rfl) ?_
            refine lv_tableOut (tgt := 77) hx hb dX11_count_1 (out5 h_0 h_1 h_2 h_3 h_4) (by decide) ?_
            refine lv_iconst (v := (-1)) hx hb dX11_count_77 (by decide) ?_
            have hP9 := hP.sub (ws' := []) [] rfl
            have hD9 := hD.sub (ws' := []) [] (by decide) rfl
            have hK9 := hK.sub (tys' := []) [] rfl
            exact W.iret (v := (-1)) hx hb hr (fun t ht hW => ⟨⟨(-1), (), rfl, (by simp [cnt5, h_0, h_1, h_2, h_3, h_4]), by rw [ht]; exact hP9, va_K.moved hW.alike hK9, hD9⟩, hS.F ht⟩) hS.2.2 dX11_count_78
set_option maxHeartbeats 4000000 in
set_option maxRecDepth 100000 in
theorem c_X11_sign (l : Launch) (dC : Nat → ClassId) (dI : Nat → Nat → Nat) (sz : Nat) (h0 : Nat) (b1 : Nat) (b2 : Nat) (b3 : Nat) (b4 : Nat) (b5 : Nat) (b6 : Nat) (b7 : Nat) (b8 : Nat) (b9 : Nat) (b10 : Nat) (b11 : Nat) (b12 : Nat) (b13 : Nat) (p0 : Int32) (cA1 : ClassId) : Met l yX11_sign (Cond.code yX11_sign cX11_sign 3 (some .int) :: wp) ({ frames := 0, cells := 0, slots := 0, locals := 0 }) (cP dC dI [.ref h0, .int p0] sz [(h0, .inr (11, [.ref b1, .int 0, .ref b2, .int 0, .int 0, .ref b3, .ref b4, .int 0, .ref b5, .int 0, .int 9, .ref b6, .ref b7, .ref b8, .ref b9, .ref b10, .ref b11, .ref b12, .ref b13])), (b1, .inl (cA1, 100, .inl (fun _ => 0)))] [(cA1, .int)]) (va_Qi (fun (r : Int32) (_ : Unit) => r = 4) (fun (_ : Unit) t => cB dC dI (va_A [(h0, .inr (11, [.ref b1, .int 0, .ref b2, .int 0, .int 0, .ref b3, .ref b4, .int 0, .ref b5, .int 0, .int 9, .ref b6, .ref b7, .ref b8, .ref b9, .ref b10, .ref b11, .ref b12, .ref b13])), (b1, .inl (cA1, 100, .inl (fun _ => 0)))] sz) [] [] t) (va_A [(h0, .inr (11, [.ref b1, .int 0, .ref b2, .int 0, .int 0, .ref b3, .ref b4, .int 0, .ref b5, .int 0, .int 9, .ref b6, .ref b7, .ref b8, .ref b9, .ref b10, .ref b11, .ref b12, .ref b13])), (b1, .inl (cA1, 100, .inl (fun _ => 0)))] sz)) 0 0 (va_A [(h0, .inr (11, [.ref b1, .int 0, .ref b2, .int 0, .int 0, .ref b3, .ref b4, .int 0, .ref b5, .int 0, .int 9, .ref b6, .ref b7, .ref b8, .ref b9, .ref b10, .ref b11, .ref b12, .ref b13])), (b1, .inl (cA1, 100, .inl (fun _ => 0)))] sz) := by
  refine Met.ofW (cc := cX11_sign) (maxL := 3) (ret := (some .int)) (by decide) rfl ?_
  intro p e s m args below meth c s₁ B hml hv
  obtain ⟨rfl, hsz, hP, hK, hD0, hN⟩ := hv
  have hx := B.exec
  have hb := B.bytes
  have hr := B.returns
  have hts := atoms_spec (ws := Cond.code yX11_sign cX11_sign 3 (some .int) :: wp) B.pre
  have hw : ∀ w ∈ wp, w.before _ s = true := fun w h => hts w (List.mem_cons_of_mem _ h)
  have hown : s.vm.findClass RX11 = some m.cls := findClass_of_methodNamed B.named
  have hlocks := B.notSynchronized
  subst hsz
  have hD := hD0.self (sz := s.heap.size)
  generalize hAe : va_A [(h0, .inr (11, [.ref b1, .int 0, .ref b2, .int 0, .int 0, .ref b3, .ref b4, .int 0, .ref b5, .int 0, .int 9, .ref b6, .ref b7, .ref b8, .ref b9, .ref b10, .ref b11, .ref b12, .ref b13])), (b1, .inl (cA1, 100, .inl (fun _ => 0)))] s.heap.size = A at hD ⊢
  have hA : ∀ q : Nat, s.heap.size ≤ q → A q := fun q h => by rw [← hAe]; exact Or.inr h
  have hS : va_S A s.heap s.heap [] := va_S.rf
  have hP : va_P (dC, dI) vwCl [(h0, .inr (11, [.ref b1, .int 0, .ref b2, .int 0, .int 0, .ref b3, .ref b4, .int 0, .ref b5, .int 0, .int 9, .ref b6, .ref b7, .ref b8, .ref b9, .ref b10, .ref b11, .ref b12, .ref b13])), (b1, .inl (cA1, 100, .inl (fun _ => 0)))] s.heap := hP
  have hl := lv_entry ([.ref h0, .int p0]) (n := 3) (Nat.le_of_ble_eq_true rfl)
  rw [lg_entry_eq]
  generalize (lg_sl ([.ref h0, .int p0]) ++ List.replicate (3 - (lg_sl ([.ref h0, .int p0])).length) Slot.unset).toArray = ls at hl ⊢
  have hl : lv_has ls 3 [(0, .ref h0), (1, .int p0)] := hl
  refine lv_aload_n hx hb dX11_sign_0 rfl (lv_at hl 0 rfl) ?_
  refine va_get (D := (dC, dI)) (ci := 11) (v := .int 0) (C := RX11) (T := TX11) (N := 19) hx hb hw uX11 hown hK hP 0 rfl rfl 1 (by decide) (hw _ q159) (fun _ h9 => h9) rfl dX11_sign_1 ?_
  refine lv_iconst (v := 4) hx hb dX11_sign_4 (by decide) ?_
  refine lv_iadd hx hb dX11_sign_5 ?_
  refine lv_topi (fun y1 ey1 => ?_)
  have ey1 : y1 = 4 := ey1.trans (by decide +kernel)
  subst ey1
  refine lv_bipush (v := 100) hx hb dX11_sign_6 (by decide) ?_
  refine lv_icmp_le (tgt := 13) hx hb dX11_sign_8 (by decide) (fun _ => ?_) (fun c9 => absurd c9 (by decide))
  refine lv_bipush (v := 24) hx hb dX11_sign_13 (by decide) ?_
  refine lv_istore_n (lv' := [(2, .int 24), (0, .ref h0), (1, .int p0)]) hx hb dX11_sign_15 rfl hl (by decide) rfl (fun ls hl => ?_)
  refine lv_iload_n hx hb dX11_sign_16 rfl (lv_at hl 0 rfl) ?_
  refine lv_if_lt (tgt := 52) hx hb dX11_sign_17 (by decide) (fun c9 => absurd c9 (by decide)) (fun _ => ?_)
  refine lv_aload_n hx hb dX11_sign_20 rfl (lv_at hl 1 rfl) ?_
  refine va_get (D := (dC, dI)) (ci := 11) (v := .ref b1) (C := RX11) (T := TX11) (N := 19) hx hb hw uX11 hown hK hP 0 rfl rfl 0 (by decide) (hw _ q83) (fun _ h9 => h9) rfl dX11_sign_21 ?_
  refine lv_aload_n hx hb dX11_sign_24 rfl (lv_at hl 1 rfl) ?_
  refine va_get (D := (dC, dI)) (ci := 11) (v := .int 0) (C := RX11) (T := TX11) (N := 19) hx hb hw uX11 hown hK hP 0 rfl rfl 1 (by decide) (hw _ q159) (fun _ h9 => h9) rfl dX11_sign_25 ?_
  refine lv_iload_n hx hb dX11_sign_28 rfl (lv_at hl 2 rfl) ?_
  refine lv_iload_n hx hb dX11_sign_29 rfl (lv_at hl 0 rfl) ?_
  refine lv_iushr hx hb dX11_sign_30 rfl ?_
  refine lv_topi (fun y2 ey2 => ?_)
  refine lv_sipush (v := 255) hx hb dX11_sign_31 (by decide) ?_
  refine lv_iand hx hb dX11_sign_34 ?_
  refine lv_topi (fun y3 ey3 => ?_)
  refine va_iast (D := (dC, dI)) hx hb hK hP hD hS 1 0 rfl rfl (by unfold vp_in; decide) dX11_sign_35 (fun H locs hP hD hS => ?_)
  have hP : va_P (dC, dI) vwCl [(h0, .inr (11, [.ref b1, .int 0, .ref b2, .int 0, .int 0, .ref b3, .ref b4, .int 0, .ref b5, .int 0, .int 9, .ref b6, .ref b7, .ref b8, .ref b9, .ref b10, .ref b11, .ref b12, .ref b13])), (b1, .inl (cA1, 100, .inl ((upd (fun _ => 0) (Int32.toNatClampNeg 0) y3))))] H := hP
  have hD : va_D A [(h0, .inr (11, [.ref b1, .int 0, .ref b2, .int 0, .int 0, .ref b3, .ref b4, .int 0, .ref b5, .int 0, .int 9, .ref b6, .ref b7, .ref b8, .ref b9, .ref b10, .ref b11, .ref b12, .ref b13])), (b1, .inl (cA1, 100, .inl ((upd (fun _ => 0) (Int32.toNatClampNeg 0) y3))))] := hD
  generalize (upd (fun _ => 0) (Int32.toNatClampNeg 0) y3) = f4 at hP hD
  refine lv_aload_n hx hb dX11_sign_36 rfl (lv_at hl 1 rfl) ?_
  refine lv_dup hx hb dX11_sign_37 rfl ?_
  refine va_get (D := (dC, dI)) (ci := 11) (v := .int 0) (C := RX11) (T := TX11) (N := 19) hx hb hw uX11 hown hK hP 0 rfl rfl 1 (by decide) (hw _ q159) (fun _ h9 => h9) rfl dX11_sign_38 ?_
  refine lv_iconst (v := 1) hx hb dX11_sign_41 (by decide) ?_
  refine lv_iadd hx hb dX11_sign_42 ?_
  refine lv_topi (fun y5 ey5 => ?_)
  have ey5 : y5 = 1 := ey5.trans (by decide +kernel)
  subst ey5
  refine va_put (D := (dC, dI)) (ci := 11) (v := .int 1) (ty := .int) (C := RX11) (T := TX11) (N := 19) hx hb hw uX11 tyX11 tyX11_ok nmX11 hown hK hP hD hS 0 rfl rfl 1 (by decide) (hw _ q159) (fun _ h9 => h9) rfl (by decide +kernel) rfl rfl (Nat.le_of_ble_eq_true rfl) dX11_sign_43 (fun H locs hP hD hS => ?_)
  have hP : va_P (dC, dI) vwCl [(h0, .inr (11, [.ref b1, .int 1, .ref b2, .int 0, .int 0, .ref b3, .ref b4, .int 0, .ref b5, .int 0, .int 9, .ref b6, .ref b7, .ref b8, .ref b9, .ref b10, .ref b11, .ref b12, .ref b13])), (b1, .inl (cA1, 100, .inl (f4)))] H := hP
  have hD : va_D A [(h0, .inr (11, [.ref b1, .int 1, .ref b2, .int 0, .int 0, .ref b3, .ref b4, .int 0, .ref b5, .int 0, .int 9, .ref b6, .ref b7, .ref b8, .ref b9, .ref b10, .ref b11, .ref b12, .ref b13])), (b1, .inl (cA1, 100, .inl (f4)))] := hD
  refine lv_iinc (v := 16) (lv' := [(2, .int 16), (0, .ref h0), (1, .int p0)]) hx hb dX11_sign_46 hl (k := 0) rfl (by decide +kernel) (by decide) rfl (fun ls hl => ?_)
  refine lv_goto (tgt := 16) hx hb dX11_sign_49 (by decide) ?_
  refine lv_iload_n hx hb dX11_sign_16 rfl (lv_at hl 0 rfl) ?_
  refine lv_if_lt (tgt := 52) hx hb dX11_sign_17 (by decide) (fun c9 => absurd c9 (by decide)) (fun _ => ?_)
  refine lv_aload_n hx hb dX11_sign_20 rfl (lv_at hl 1 rfl) ?_
  refine va_get (D := (dC, dI)) (ci := 11) (v := .ref b1) (C := RX11) (T := TX11) (N := 19) hx hb hw uX11 hown hK hP 0 rfl rfl 0 (by decide) (hw _ q83) (fun _ h9 => h9) rfl dX11_sign_21 ?_
  refine lv_aload_n hx hb dX11_sign_24 rfl (lv_at hl 1 rfl) ?_
  refine va_get (D := (dC, dI)) (ci := 11) (v := .int 1) (C := RX11) (T := TX11) (N := 19) hx hb hw uX11 hown hK hP 0 rfl rfl 1 (by decide) (hw _ q159) (fun _ h9 => h9) rfl dX11_sign_25 ?_
  refine lv_iload_n hx hb dX11_sign_28 rfl (lv_at hl 2 rfl) ?_
  refine lv_iload_n hx hb dX11_sign_29 rfl (lv_at hl 0 rfl) ?_
  refine lv_iushr hx hb dX11_sign_30 rfl ?_
  refine lv_topi (fun y6 ey6 => ?_)
  refine lv_sipush (v := 255) hx hb dX11_sign_31 (by decide) ?_
  refine lv_iand hx hb dX11_sign_34 ?_
  refine lv_topi (fun y7 ey7 => ?_)
  refine va_iast (D := (dC, dI)) hx hb hK hP hD hS 1 0 rfl rfl (by unfold vp_in; decide) dX11_sign_35 (fun H locs hP hD hS => ?_)
  have hP : va_P (dC, dI) vwCl [(h0, .inr (11, [.ref b1, .int 1, .ref b2, .int 0, .int 0, .ref b3, .ref b4, .int 0, .ref b5, .int 0, .int 9, .ref b6, .ref b7, .ref b8, .ref b9, .ref b10, .ref b11, .ref b12, .ref b13])), (b1, .inl (cA1, 100, .inl ((upd (f4) (Int32.toNatClampNeg 1) y7))))] H := hP
  have hD : va_D A [(h0, .inr (11, [.ref b1, .int 1, .ref b2, .int 0, .int 0, .ref b3, .ref b4, .int 0, .ref b5, .int 0, .int 9, .ref b6, .ref b7, .ref b8, .ref b9, .ref b10, .ref b11, .ref b12, .ref b13])), (b1, .inl (cA1, 100, .inl ((upd (f4) (Int32.toNatClampNeg 1) y7))))] := hD
  generalize (upd (f4) (Int32.toNatClampNeg 1) y7) = f8 at hP hD
  refine lv_aload_n hx hb dX11_sign_36 rfl (lv_at hl 1 rfl) ?_
  refine lv_dup hx hb dX11_sign_37 rfl ?_
  refine va_get (D := (dC, dI)) (ci := 11) (v := .int 1) (C := RX11) (T := TX11) (N := 19) hx hb hw uX11 hown hK hP 0 rfl rfl 1 (by decide) (hw _ q159) (fun _ h9 => h9) rfl dX11_sign_38 ?_
  refine lv_iconst (v := 1) hx hb dX11_sign_41 (by decide) ?_
  refine lv_iadd hx hb dX11_sign_42 ?_
  refine lv_topi (fun y9 ey9 => ?_)
  have ey9 : y9 = 2 := ey9.trans (by decide +kernel)
  subst ey9
  refine va_put (D := (dC, dI)) (ci := 11) (v := .int 2) (ty := .int) (C := RX11) (T := TX11) (N := 19) hx hb hw uX11 tyX11 tyX11_ok nmX11 hown hK hP hD hS 0 rfl rfl 1 (by decide) (hw _ q159) (fun _ h9 => h9) rfl (by decide +kernel) rfl rfl (Nat.le_of_ble_eq_true rfl) dX11_sign_43 (fun H locs hP hD hS => ?_)
  have hP : va_P (dC, dI) vwCl [(h0, .inr (11, [.ref b1, .int 2, .ref b2, .int 0, .int 0, .ref b3, .ref b4, .int 0, .ref b5, .int 0, .int 9, .ref b6, .ref b7, .ref b8, .ref b9, .ref b10, .ref b11, .ref b12, .ref b13])), (b1, .inl (cA1, 100, .inl (f8)))] H := hP
  have hD : va_D A [(h0, .inr (11, [.ref b1, .int 2, .ref b2, .int 0, .int 0, .ref b3, .ref b4, .int 0, .ref b5, .int 0, .int 9, .ref b6, .ref b7, .ref b8, .ref b9, .ref b10, .ref b11, .ref b12, .ref b13])), (b1, .inl (cA1, 100, .inl (f8)))] := hD
  refine lv_iinc (v := 8) (lv' := [(2, .int 8), (0, .ref h0), (1, .int p0)]) hx hb dX11_sign_46 hl (k := 0) rfl (by decide +kernel) (by decide) rfl (fun ls hl => ?_)
  refine lv_goto (tgt := 16) hx hb dX11_sign_49 (by decide) ?_
  refine lv_iload_n hx hb dX11_sign_16 rfl (lv_at hl 0 rfl) ?_
  refine lv_if_lt (tgt := 52) hx hb dX11_sign_17 (by decide) (fun c9 => absurd c9 (by decide)) (fun _ => ?_)
  refine lv_aload_n hx hb dX11_sign_20 rfl (lv_at hl 1 rfl) ?_
  refine va_get (D := (dC, dI)) (ci := 11) (v := .ref b1) (C := RX11) (T := TX11) (N := 19) hx hb hw uX11 hown hK hP 0 rfl rfl 0 (by decide) (hw _ q83) (fun _ h9 => h9) rfl dX11_sign_21 ?_
  refine lv_aload_n hx hb dX11_sign_24 rfl (lv_at hl 1 rfl) ?_
  refine va_get (D := (dC, dI)) (ci := 11) (v := .int 2) (C := RX11) (T := TX11) (N := 19) hx hb hw uX11 hown hK hP 0 rfl rfl 1 (by decide) (hw _ q159) (fun _ h9 => h9) rfl dX11_sign_25 ?_
  refine lv_iload_n hx hb dX11_sign_28 rfl (lv_at hl 2 rfl) ?_
  refine lv_iload_n hx hb dX11_sign_29 rfl (lv_at hl 0 rfl) ?_
  refine lv_iushr hx hb dX11_sign_30 rfl ?_
  refine lv_topi (fun y10 ey10 => ?_)
  refine lv_sipush (v := 255) hx hb dX11_sign_31 (by decide) ?_
  refine lv_iand hx hb dX11_sign_34 ?_
  refine lv_topi (fun y11 ey11 => ?_)
  refine va_iast (D := (dC, dI)) hx hb hK hP hD hS 1 0 rfl rfl (by unfold vp_in; decide) dX11_sign_35 (fun H locs hP hD hS => ?_)
  have hP : va_P (dC, dI) vwCl [(h0, .inr (11, [.ref b1, .int 2, .ref b2, .int 0, .int 0, .ref b3, .ref b4, .int 0, .ref b5, .int 0, .int 9, .ref b6, .ref b7, .ref b8, .ref b9, .ref b10, .ref b11, .ref b12, .ref b13])), (b1, .inl (cA1, 100, .inl ((upd (f8) (Int32.toNatClampNeg 2) y11))))] H := hP
  have hD : va_D A [(h0, .inr (11, [.ref b1, .int 2, .ref b2, .int 0, .int 0, .ref b3, .ref b4, .int 0, .ref b5, .int 0, .int 9, .ref b6, .ref b7, .ref b8, .ref b9, .ref b10, .ref b11, .ref b12, .ref b13])), (b1, .inl (cA1, 100, .inl ((upd (f8) (Int32.toNatClampNeg 2) y11))))] := hD
  generalize (upd (f8) (Int32.toNatClampNeg 2) y11) = f12 at hP hD
  refine lv_aload_n hx hb dX11_sign_36 rfl (lv_at hl 1 rfl) ?_
  refine lv_dup hx hb dX11_sign_37 rfl ?_
  refine va_get (D := (dC, dI)) (ci := 11) (v := .int 2) (C := RX11) (T := TX11) (N := 19) hx hb hw uX11 hown hK hP 0 rfl rfl 1 (by decide) (hw _ q159) (fun _ h9 => h9) rfl dX11_sign_38 ?_
  refine lv_iconst (v := 1) hx hb dX11_sign_41 (by decide) ?_
  refine lv_iadd hx hb dX11_sign_42 ?_
  refine lv_topi (fun y13 ey13 => ?_)
  have ey13 : y13 = 3 := ey13.trans (by decide +kernel)
  subst ey13
  refine va_put (D := (dC, dI)) (ci := 11) (v := .int 3) (ty := .int) (C := RX11) (T := TX11) (N := 19) hx hb hw uX11 tyX11 tyX11_ok nmX11 hown hK hP hD hS 0 rfl rfl 1 (by decide) (hw _ q159) (fun _ h9 => h9) rfl (by decide +kernel) rfl rfl (Nat.le_of_ble_eq_true rfl) dX11_sign_43 (fun H locs hP hD hS => ?_)
  have hP : va_P (dC, dI) vwCl [(h0, .inr (11, [.ref b1, .int 3, .ref b2, .int 0, .int 0, .ref b3, .ref b4, .int 0, .ref b5, .int 0, .int 9, .ref b6, .ref b7, .ref b8, .ref b9, .ref b10, .ref b11, .ref b12, .ref b13])), (b1, .inl (cA1, 100, .inl (f12)))] H := hP
  have hD : va_D A [(h0, .inr (11, [.ref b1, .int 3, .ref b2, .int 0, .int 0, .ref b3, .ref b4, .int 0, .ref b5, .int 0, .int 9, .ref b6, .ref b7, .ref b8, .ref b9, .ref b10, .ref b11, .ref b12, .ref b13])), (b1, .inl (cA1, 100, .inl (f12)))] := hD
  refine lv_iinc (v := 0) (lv' := [(2, .int 0), (0, .ref h0), (1, .int p0)]) hx hb dX11_sign_46 hl (k := 0) rfl (by decide +kernel) (by decide) rfl (fun ls hl => ?_)
  refine lv_goto (tgt := 16) hx hb dX11_sign_49 (by decide) ?_
  refine lv_iload_n hx hb dX11_sign_16 rfl (lv_at hl 0 rfl) ?_
  refine lv_if_lt (tgt := 52) hx hb dX11_sign_17 (by decide) (fun c9 => absurd c9 (by decide)) (fun _ => ?_)
  refine lv_aload_n hx hb dX11_sign_20 rfl (lv_at hl 1 rfl) ?_
  refine va_get (D := (dC, dI)) (ci := 11) (v := .ref b1) (C := RX11) (T := TX11) (N := 19) hx hb hw uX11 hown hK hP 0 rfl rfl 0 (by decide) (hw _ q83) (fun _ h9 => h9) rfl dX11_sign_21 ?_
  refine lv_aload_n hx hb dX11_sign_24 rfl (lv_at hl 1 rfl) ?_
  refine va_get (D := (dC, dI)) (ci := 11) (v := .int 3) (C := RX11) (T := TX11) (N := 19) hx hb hw uX11 hown hK hP 0 rfl rfl 1 (by decide) (hw _ q159) (fun _ h9 => h9) rfl dX11_sign_25 ?_
  refine lv_iload_n hx hb dX11_sign_28 rfl (lv_at hl 2 rfl) ?_
  refine lv_iload_n hx hb dX11_sign_29 rfl (lv_at hl 0 rfl) ?_
  refine lv_iushr hx hb dX11_sign_30 rfl ?_
  refine lv_topi (fun y14 ey14 => ?_)
  refine lv_sipush (v := 255) hx hb dX11_sign_31 (by decide) ?_
  refine lv_iand hx hb dX11_sign_34 ?_
  refine lv_topi (fun y15 ey15 => ?_)
  refine va_iast (D := (dC, dI)) hx hb hK hP hD hS 1 0 rfl rfl (by unfold vp_in; decide) dX11_sign_35 (fun H locs hP hD hS => ?_)
  have hP : va_P (dC, dI) vwCl [(h0, .inr (11, [.ref b1, .int 3, .ref b2, .int 0, .int 0, .ref b3, .ref b4, .int 0, .ref b5, .int 0, .int 9, .ref b6, .ref b7, .ref b8, .ref b9, .ref b10, .ref b11, .ref b12, .ref b13])), (b1, .inl (cA1, 100, .inl ((upd (f12) (Int32.toNatClampNeg 3) y15))))] H := hP
  have hD : va_D A [(h0, .inr (11, [.ref b1, .int 3, .ref b2, .int 0, .int 0, .ref b3, .ref b4, .int 0, .ref b5, .int 0, .int 9, .ref b6, .ref b7, .ref b8, .ref b9, .ref b10, .ref b11, .ref b12, .ref b13])), (b1, .inl (cA1, 100, .inl ((upd (f12) (Int32.toNatClampNeg 3) y15))))] := hD
  generalize (upd (f12) (Int32.toNatClampNeg 3) y15) = f16 at hP hD
  refine lv_aload_n hx hb dX11_sign_36 rfl (lv_at hl 1 rfl) ?_
  refine lv_dup hx hb dX11_sign_37 rfl ?_
  refine va_get (D := (dC, dI)) (ci := 11) (v := .int 3) (C := RX11) (T := TX11) (N := 19) hx hb hw uX11 hown hK hP 0 rfl rfl 1 (by decide) (hw _ q159) (fun _ h9 => h9) rfl dX11_sign_38 ?_
  refine lv_iconst (v := 1) hx hb dX11_sign_41 (by decide) ?_
  refine lv_iadd hx hb dX11_sign_42 ?_
  refine lv_topi (fun y17 ey17 => ?_)
  have ey17 : y17 = 4 := ey17.trans (by decide +kernel)
  subst ey17
  refine va_put (D := (dC, dI)) (ci := 11) (v := .int 4) (ty := .int) (C := RX11) (T := TX11) (N := 19) hx hb hw uX11 tyX11 tyX11_ok nmX11 hown hK hP hD hS 0 rfl rfl 1 (by decide) (hw _ q159) (fun _ h9 => h9) rfl (by decide +kernel) rfl rfl (Nat.le_of_ble_eq_true rfl) dX11_sign_43 (fun H locs hP hD hS => ?_)
  have hP : va_P (dC, dI) vwCl [(h0, .inr (11, [.ref b1, .int 4, .ref b2, .int 0, .int 0, .ref b3, .ref b4, .int 0, .ref b5, .int 0, .int 9, .ref b6, .ref b7, .ref b8, .ref b9, .ref b10, .ref b11, .ref b12, .ref b13])), (b1, .inl (cA1, 100, .inl (f16)))] H := hP
  have hD : va_D A [(h0, .inr (11, [.ref b1, .int 4, .ref b2, .int 0, .int 0, .ref b3, .ref b4, .int 0, .ref b5, .int 0, .int 9, .ref b6, .ref b7, .ref b8, .ref b9, .ref b10, .ref b11, .ref b12, .ref b13])), (b1, .inl (cA1, 100, .inl (f16)))] := hD
  refine lv_iinc (v := (-8)) (lv' := [(2, .int (-8)), (0, .ref h0), (1, .int p0)]) hx hb dX11_sign_46 hl (k := 0) rfl (by decide +kernel) (by decide) rfl (fun ls hl => ?_)
  refine lv_goto (tgt := 16) hx hb dX11_sign_49 (by decide) ?_
  refine lv_iload_n hx hb dX11_sign_16 rfl (lv_at hl 0 rfl) ?_
  refine lv_if_lt (tgt := 52) hx hb dX11_sign_17 (by decide) (fun _ => ?_) (fun c9 => absurd c9 (by decide))
  refine lv_aload_n hx hb dX11_sign_52 rfl (lv_at hl 1 rfl) ?_
  refine va_get (D := (dC, dI)) (ci := 11) (v := .int 4) (C := RX11) (T := TX11) (N := 19) hx hb hw uX11 hown hK hP 0 rfl rfl 1 (by decide) (hw _ q159) (fun _ h9 => h9) rfl dX11_sign_53 ?_
  have hP9 := hP.sub (ws' := []) [] rfl
  have hD9 := hD.sub (ws' := []) [] (by decide) rfl
  have hK9 := hK.sub (tys' := []) [] rfl
  exact W.iret (v := 4) hx hb hr (fun t ht hW => ⟨⟨4, (), rfl, rfl, by rw [ht]; exact hP9, va_K.moved hW.alike hK9, hD9⟩, hS.F ht⟩) hS.2.2 dX11_sign_56
