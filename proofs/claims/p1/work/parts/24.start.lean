theorem and31 (x : Int32) : ∃ k : Nat, k < 32 ∧ x &&& 31 = Int32.ofNat k := by
  refine ⟨(x.toBitVec &&& 31#32).toNat, ?_, ?_⟩
  · have h : (x.toBitVec &&& 31#32).toNat ≤ 31 := by rw [BitVec.toNat_and]; exact Nat.and_le_right
    omega
  · apply Int32.toBitVec_inj.mp
    rw [Int32.toBitVec_and]
    simp
theorem lw_st {s : State} {b : Nat} (hts : ∀ w ∈ lw_tbl, w.before #[Value.ref b] s = true) (hgv : (Jvm.Cond.and given_1 narrow_1).before #[Value.ref b] s = true) : stU (fun q : Nat => s.heap.size ≤ q) s := by
  have hs := flat_of_before _ hgv
  exact ⟨vx_Zqof (hts (.laysStatic Bundle.tN "UNASSIGNED_STACK" Bundle.steD) (by decide +kernel)) (hts (.initialized Bundle.tN) (by decide +kernel)) (hs (.isRef (.static Bundle.tN "UNASSIGNED_STACK" Bundle.steD)) (by decide +kernel)) (fun a h => Nat.not_le.mpr h), vx_Zqof (hts (.laysStatic Bundle.tN "SUPPRESSED_SENTINEL" Bundle.listD) (by decide +kernel)) (hts (.initialized Bundle.tN) (by decide +kernel)) (hs (.isRef (.static Bundle.tN "SUPPRESSED_SENTINEL" Bundle.listD)) (by decide +kernel)) (fun a h => Nat.not_le.mpr h), va_Nw.of rfl (hts (.castable NSE NSE) (by decide +kernel)), va_Nw.of rfl (hts (.declares ⟨"java/lang/RuntimeException", "<init>", "()V"⟩) (by decide +kernel)), va_Nw.of rfl (hts (.declares ⟨"java/lang/Exception", "<init>", "()V"⟩) (by decide +kernel)), va_Nw.of rfl (hts (.declares ⟨"java/lang/Throwable", "<init>", "()V"⟩) (by decide +kernel))⟩
theorem lw_fl {l : Launch} (h : l.flags = flags0) : l.stackTraces = false := by
  unfold Launch.stackTraces
  rw [h]
  decide +kernel
set_option maxHeartbeats 4000000 in
set_option maxRecDepth 100000 in
theorem law_sw {p : Program} {l : Launch} {e : Env} {s : State} {m : MethodId} {below : List Frame} {meth : Method} {c : Code} {dC : Nat → ClassId} {dI : Nat → Nat → Nat} {b : Nat} {xs : Nat → Int32} {A : Nat → Prop} (hAe : A = fun q : Nat => s.heap.size ≤ q) (C0 : lw_At p s m meth c b 3 xs) (hN : nw s) (hl9 : l.stackTraces = false) (hst : stU A s) {z1 b1_3 b2_4 b3_5 b4_6 b5_7 b6_8 b7_9 b8_10 b9_11 b10_12 b11_13 b12_14 b13_15 e9_24 e1_16 e2_17 e3_18 e4_19 e5_20 e6_21 e7_22 e8_23 z29 b0_31 b2_32 b5_33 b6_34 b7_35 b8_36 b9_37 b10_38 b11_39 b12_40 b13_41 b14_42 b20_43 b21_44 b22_45 b24_46 b25_47 b27_48 b28_49 b33_50 b34_51 b35_52 b36_53 b37_54 b38_55 b39_56 b41_57 b42_58 b43_59 b44_60 b45_61 b47_62 b48_63 b50_64 b52_65 b54_66 b55_67 b56_68 b57_69 b58_70 b59_71 b61_72 b62_73 b63_74 z78 : Nat} {cA1_26 cA2_27 cA3_28 cA0_75 cA13_76 cA14_77 cA79 : ClassId} {g0_25 : Nat → Option Nat} (hK : va_K (dC, dI) vwCl [(cA1_26, .int), (cA2_27, .object RX0), (cA3_28, .int), (cA0_75, .byte), (cA13_76, .int), (cA14_77, .int), (cA79, .long)] s) {H : Heap} {locs : List Loc} (hP : va_P (dC, dI) vwCl [(z1, .inr (11, [.ref b1_3, .int 0, .ref b2_4, .int 0, .int 0, .ref b3_5, .ref b4_6, .int 0, .ref b5_7, .int 0, .int 9, .ref b6_8, .ref b7_9, .ref b8_10, .ref b9_11, .ref b10_12, .ref b11_13, .ref b12_14, .ref b13_15])), (b1_3, .inl (cA1_26, 100, .inl (fun _ => 0))), (b2_4, .inl (cA2_27, 10, .inr (.inr (.inr (.inr (va_up (g0_25) (Int32.toNatClampNeg 9) (some e9_24))))))), (e9_24, .inr (0, [.ref e1_16, .ref e2_17, .ref e3_18, .int 0, .ref e4_19])), (b6_8, .inr (6, [.ref e5_20, .ref e6_21, .ref e7_22, .null, .int 0])), (e5_20, .inr (2, [.ref e8_23, .int 0])), (e8_23, .inl (cA3_28, 256, .inl (fun _ => 0))), (z29, .inr (12, [.ref b0_31, .int 0, .ref b2_32, .int 0, .int 0, .ref b5_33, .ref b6_34, .ref b7_35, .ref b8_36, .ref b9_37, .ref b10_38, .ref b11_39, .ref b12_40, .ref b13_41, .ref b14_42, .int 0, .int 0, .int 0, .int 0, .int 0, .ref b20_43, .ref b21_44, .ref b22_45, .int 0, .ref b24_46, .ref b25_47, .int 0, .ref b27_48, .ref b28_49, .int 0, .int 0, .int 0, .int 0, .ref b33_50, .ref b34_51, .ref b35_52, .ref b36_53, .ref b37_54, .ref b38_55, .ref b39_56, .int 0, .ref b41_57, .ref b42_58, .ref b43_59, .ref b44_60, .ref b45_61, .int 0, .ref b47_62, .ref b48_63, .int 0, .ref b50_64, .int 0, .ref b52_65, .int 0, .ref b54_66, .ref b55_67, .ref b56_68, .ref b57_69, .ref b58_70, .ref b59_71, .int 0, .ref b61_72, .ref b62_73, .ref b63_74, .int 0, .int 0])), (b0_31, .inl (cA0_75, 100, .inl (fun _ => 0))), (b13_41, .inl (cA13_76, 10, .inl (fun _ => 0))), (b14_42, .inl (cA14_77, 10, .inl (fun _ => 0))), (z78, .inl (cA79, 1, .inr (.inl (fun _ => 0))))] H) (hD : va_D A [(z1, .inr (11, [.ref b1_3, .int 0, .ref b2_4, .int 0, .int 0, .ref b3_5, .ref b4_6, .int 0, .ref b5_7, .int 0, .int 9, .ref b6_8, .ref b7_9, .ref b8_10, .ref b9_11, .ref b10_12, .ref b11_13, .ref b12_14, .ref b13_15])), (b1_3, .inl (cA1_26, 100, .inl (fun _ => 0))), (b2_4, .inl (cA2_27, 10, .inr (.inr (.inr (.inr (va_up (g0_25) (Int32.toNatClampNeg 9) (some e9_24))))))), (e9_24, .inr (0, [.ref e1_16, .ref e2_17, .ref e3_18, .int 0, .ref e4_19])), (b6_8, .inr (6, [.ref e5_20, .ref e6_21, .ref e7_22, .null, .int 0])), (e5_20, .inr (2, [.ref e8_23, .int 0])), (e8_23, .inl (cA3_28, 256, .inl (fun _ => 0))), (z29, .inr (12, [.ref b0_31, .int 0, .ref b2_32, .int 0, .int 0, .ref b5_33, .ref b6_34, .ref b7_35, .ref b8_36, .ref b9_37, .ref b10_38, .ref b11_39, .ref b12_40, .ref b13_41, .ref b14_42, .int 0, .int 0, .int 0, .int 0, .int 0, .ref b20_43, .ref b21_44, .ref b22_45, .int 0, .ref b24_46, .ref b25_47, .int 0, .ref b27_48, .ref b28_49, .int 0, .int 0, .int 0, .int 0, .ref b33_50, .ref b34_51, .ref b35_52, .ref b36_53, .ref b37_54, .ref b38_55, .ref b39_56, .int 0, .ref b41_57, .ref b42_58, .ref b43_59, .ref b44_60, .ref b45_61, .int 0, .ref b47_62, .ref b48_63, .int 0, .ref b50_64, .int 0, .ref b52_65, .int 0, .ref b54_66, .ref b55_67, .ref b56_68, .ref b57_69, .ref b58_70, .ref b59_71, .int 0, .ref b61_72, .ref b62_73, .ref b63_74, .int 0, .int 0])), (b0_31, .inl (cA0_75, 100, .inl (fun _ => 0))), (b13_41, .inl (cA13_76, 10, .inl (fun _ => 0))), (b14_42, .inl (cA14_77, 10, .inl (fun _ => 0))), (z78, .inl (cA79, 1, .inr (.inl (fun _ => 0))))]) (hS : va_S A s.heap H locs) {ls : Array Slot} (hl : lv_has ls 8 [(4, .int 0), (3, .ref z78), (2, .ref z29), (1, .ref z1), (0, .ref b)]) (x : Int32) (ex : x = xs 0 &&& 31) : W p l e room_1 s m #[Value.ref b] below meth c H locs 275 497722 (lw_Z below #[Value.ref b] s) (F0 m 39 ls [.int x]) := by
  obtain ⟨hx, hb, hr, hml, hown0, hts, hX, hbl, hlocks, hgv⟩ := id C0
  have hw : ∀ w ∈ wp, w.before _ s = true := fun w h => hts w (wp_in w h)
  have hown : s.vm.findClass RL = some m.cls := hown0
  have hA : ∀ q : Nat, s.heap.size ≤ q → A q := by rw [hAe]; exact fun _ h => h
  have hbA : ¬ A b := by rw [hAe]; exact Nat.not_le.mpr hbl
  obtain ⟨k, hk, ek⟩ := and31 (xs 0)
  have ex := ex.trans ek
  rcases (show k = 0 ∨ k = 1 ∨ k = 2 ∨ k = 3 ∨ k = 4 ∨ k = 5 ∨ k = 6 ∨ k = 7 ∨ k = 8 ∨ k = 9 ∨ k = 10 ∨ k = 11 ∨ k = 12 ∨ k = 13 ∨ k = 14 ∨ k = 15 ∨ k = 16 ∨ k = 17 ∨ k = 18 ∨ k = 19 ∨ k = 20 ∨ k = 21 ∨ k = 22 ∨ k = 23 ∨ k = 24 ∨ k = 25 ∨ k = 26 ∨ k = 27 ∨ k = 28 ∨ k = 29 ∨ k = 30 ∨ k = 31 by omega) with rfl | rfl | rfl | rfl | rfl | rfl | rfl | rfl | rfl | rfl | rfl | rfl | rfl | rfl | rfl | rfl | rfl | rfl | rfl | rfl | rfl | rfl | rfl | rfl | rfl | rfl | rfl | rfl | rfl | rfl | rfl | rfl
  · have ex : x = 0 := ex
    subst ex
    refine lv_tableIn (tgt := 156) (off := 117) hx hb dL_law_39 (by decide) (by decide) (by decide) (by decide) ?_
    exact law_0 hAe C0 hN hK hP hD hS hl
  · have ex : x = 1 := ex
    subst ex
    refine lv_tableIn (tgt := 181) (off := 142) hx hb dL_law_39 (by decide) (by decide) (by decide) (by decide) ?_
    exact law_1 hAe C0 hN hK hP hD hS hl
  · have ex : x = 2 := ex
    subst ex
    refine lv_tableIn (tgt := 206) (off := 167) hx hb dL_law_39 (by decide) (by decide) (by decide) (by decide) ?_
    exact law_2 hAe C0 hN hK hP hD hS hl
  · have ex : x = 3 := ex
    subst ex
    refine lv_tableIn (tgt := 219) (off := 180) hx hb dL_law_39 (by decide) (by decide) (by decide) (by decide) ?_
    exact law_3 hAe C0 hN hK hP hD hS hl
  · have ex : x = 4 := ex
    subst ex
    refine lv_tableIn (tgt := 232) (off := 193) hx hb dL_law_39 (by decide) (by decide) (by decide) (by decide) ?_
    exact law_4 hAe C0 hN hK hP hD hS hl
  · have ex : x = 5 := ex
    subst ex
    refine lv_tableIn (tgt := 257) (off := 218) hx hb dL_law_39 (by decide) (by decide) (by decide) (by decide) ?_
    exact law_5 hAe C0 hN hK hP hD hS hl
  · have ex : x = 6 := ex
    subst ex
    refine lv_tableIn (tgt := 282) (off := 243) hx hb dL_law_39 (by decide) (by decide) (by decide) (by decide) ?_
    exact law_6 hAe C0 hN hK hP hD hS hl
  · have ex : x = 7 := ex
    subst ex
    refine lv_tableIn (tgt := 319) (off := 280) hx hb dL_law_39 (by decide) (by decide) (by decide) (by decide) ?_
    exact law_7 hAe C0 hN hK hP hD hS hl
  · have ex : x = 8 := ex
    subst ex
    refine lv_tableIn (tgt := 356) (off := 317) hx hb dL_law_39 (by decide) (by decide) (by decide) (by decide) ?_
    exact law_8 hAe C0 hN hK hP hD hS hl
  · have ex : x = 9 := ex
    subst ex
    refine lv_tableIn (tgt := 381) (off := 342) hx hb dL_law_39 (by decide) (by decide) (by decide) (by decide) ?_
    exact law_9 hAe C0 hN hK hP hD hS hl
  · have ex : x = 10 := ex
    subst ex
    refine lv_tableIn (tgt := 406) (off := 367) hx hb dL_law_39 (by decide) (by decide) (by decide) (by decide) ?_
    exact law_10 hAe C0 hN hK hP hD hS hl
  · have ex : x = 11 := ex
    subst ex
    refine lv_tableIn (tgt := 443) (off := 404) hx hb dL_law_39 (by decide) (by decide) (by decide) (by decide) ?_
    exact law_11 hAe C0 hN hK hP hD hS hl
  · have ex : x = 12 := ex
    subst ex
    refine lv_tableIn (tgt := 480) (off := 441) hx hb dL_law_39 (by decide) (by decide) (by decide) (by decide) ?_
    exact law_12 hAe C0 hN hK hP hD hS hl
  · have ex : x = 13 := ex
    subst ex
    refine lv_tableIn (tgt := 505) (off := 466) hx hb dL_law_39 (by decide) (by decide) (by decide) (by decide) ?_
    exact law_13 hAe C0 hN hK hP hD hS hl
  · have ex : x = 14 := ex
    subst ex
    refine lv_tableIn (tgt := 530) (off := 491) hx hb dL_law_39 (by decide) (by decide) (by decide) (by decide) ?_
    exact law_14 hAe C0 hN hK hP hD hS hl
  · have ex : x = 15 := ex
    subst ex
    refine lv_tableIn (tgt := 567) (off := 528) hx hb dL_law_39 (by decide) (by decide) (by decide) (by decide) ?_
    exact law_15 hAe C0 hN hK hP hD hS hl
  · have ex : x = 16 := ex
    subst ex
    refine lv_tableIn (tgt := 604) (off := 565) hx hb dL_law_39 (by decide) (by decide) (by decide) (by decide) ?_
    exact law_16 hAe C0 hN hK hP hD hS hl
  · have ex : x = 17 := ex
    subst ex
    refine lv_tableIn (tgt := 641) (off := 602) hx hb dL_law_39 (by decide) (by decide) (by decide) (by decide) ?_
    exact law_17 hAe C0 hN hK hP hD hS hl
  · have ex : x = 18 := ex
    subst ex
    refine lv_tableIn (tgt := 678) (off := 639) hx hb dL_law_39 (by decide) (by decide) (by decide) (by decide) ?_
    exact law_18 hAe C0 hN hK hP hD hS hl
  · have ex : x = 19 := ex
    subst ex
    refine lv_tableIn (tgt := 703) (off := 664) hx hb dL_law_39 (by decide) (by decide) (by decide) (by decide) ?_
    exact law_19 hAe C0 hN hK hP hD hS hl
  · have ex : x = 20 := ex
    subst ex
    refine lv_tableIn (tgt := 740) (off := 701) hx hb dL_law_39 (by decide) (by decide) (by decide) (by decide) ?_
    exact law_20 hAe C0 hN hK hP hD hS hl
  · have ex : x = 21 := ex
    subst ex
    refine lv_tableIn (tgt := 777) (off := 738) hx hb dL_law_39 (by decide) (by decide) (by decide) (by decide) ?_
    exact law_21 hAe C0 hN hK hP hD hS hl
  · have ex : x = 22 := ex
    subst ex
    refine lv_tableIn (tgt := 802) (off := 763) hx hb dL_law_39 (by decide) (by decide) (by decide) (by decide) ?_
    exact law_22 hAe C0 hN hK hP hD hS hl
  · have ex : x = 23 := ex
    subst ex
    refine lv_tableIn (tgt := 839) (off := 800) hx hb dL_law_39 (by decide) (by decide) (by decide) (by decide) ?_
    exact law_23 hAe C0 hN hK hP hD hS hl
  · have ex : x = 24 := ex
    subst ex
    refine lv_tableIn (tgt := 864) (off := 825) hx hb dL_law_39 (by decide) (by decide) (by decide) (by decide) ?_
    exact law_24 hAe C0 hN hK hP hD hS hl
  · have ex : x = 25 := ex
    subst ex
    refine lv_tableIn (tgt := 889) (off := 850) hx hb dL_law_39 (by decide) (by decide) (by decide) (by decide) ?_
    exact law_25 hAe C0 hN hl9 hst hK hP hD hS hl
  · have ex : x = 26 := ex
    subst ex
    refine lv_tableOut (tgt := 944) hx hb dL_law_39 (by decide) (by decide) ?_
    exact law_end hAe C0 hS hl (Nat.le_of_ble_eq_true rfl) (Nat.le_of_ble_eq_true rfl)
  · have ex : x = 27 := ex
    subst ex
    refine lv_tableOut (tgt := 944) hx hb dL_law_39 (by decide) (by decide) ?_
    exact law_end hAe C0 hS hl (Nat.le_of_ble_eq_true rfl) (Nat.le_of_ble_eq_true rfl)
  · have ex : x = 28 := ex
    subst ex
    refine lv_tableOut (tgt := 944) hx hb dL_law_39 (by decide) (by decide) ?_
    exact law_end hAe C0 hS hl (Nat.le_of_ble_eq_true rfl) (Nat.le_of_ble_eq_true rfl)
  · have ex : x = 29 := ex
    subst ex
    refine lv_tableOut (tgt := 944) hx hb dL_law_39 (by decide) (by decide) ?_
    exact law_end hAe C0 hS hl (Nat.le_of_ble_eq_true rfl) (Nat.le_of_ble_eq_true rfl)
  · have ex : x = 30 := ex
    subst ex
    refine lv_tableOut (tgt := 944) hx hb dL_law_39 (by decide) (by decide) ?_
    exact law_end hAe C0 hS hl (Nat.le_of_ble_eq_true rfl) (Nat.le_of_ble_eq_true rfl)
  · have ex : x = 31 := ex
    subst ex
    refine lv_tableOut (tgt := 944) hx hb dL_law_39 (by decide) (by decide) ?_
    exact law_end hAe C0 hS hl (Nat.le_of_ble_eq_true rfl) (Nat.le_of_ble_eq_true rfl)
set_option maxHeartbeats 4000000 in
set_option maxRecDepth 100000 in
theorem whole_start {p : Program} {e : Env} {s : State} {m : MethodId} {below : List Frame} {meth : Method} {c : Code} (l : Launch) (hflags : l.flags = flags0) {b L : Nat} {xs : Nat → Int32} (hL : L ≤ 3) (C0 : lw_At p s m meth c b L xs) : W p l e room_1 s m #[Value.ref b] below meth c s.heap [] 0 0 (lw_Z below #[Value.ref b] s) (entryFrame m ([Value.ref b] : List Value).toArray 8) := by
  obtain ⟨A, hAe⟩ : ∃ A : Nat → Prop, A = fun q : Nat => s.heap.size ≤ q := ⟨_, rfl⟩
  obtain ⟨hx, hb, hr, hml, hown0, hts, hX, hbl, hlocks, hgv⟩ := id C0
  have hw : ∀ w ∈ wp, w.before _ s = true := fun w h => hts w (wp_in w h)
  have hown : s.vm.findClass RL = some m.cls := hown0
  have hA : ∀ q : Nat, s.heap.size ≤ q → A q := by rw [hAe]; exact fun _ h => h
  have hbA : ¬ A b := by rw [hAe]; exact Nat.not_le.mpr hbl
  have hl9 : l.stackTraces = false := lw_fl hflags
  have hN : nw s := lw_nw hts
  have hst : stU A s := by rw [hAe]; exact lw_st hts hgv
  obtain ⟨c0, iS0, hKn0⟩ := u_known (C := RX0) (T := TX0) (N := 5) (n := 5) hw uX0 (hw _ q143)
  obtain ⟨c1, iS1, hKn1⟩ := u_known (C := RX1) (T := TX1) (N := 16) (n := 16) hw uX1 (hw _ q118)
  obtain ⟨c2, iS2, hKn2⟩ := u_known (C := RX2) (T := TX2) (N := 2) (n := 2) hw uX2 (hw _ q21)
  obtain ⟨c3, iS3, hKn3⟩ := u_known (C := RX3) (T := TX3) (N := 5) (n := 5) hw uX3 (hw _ q14)
  obtain ⟨c4, iS4, hKn4⟩ := u_known (C := RX4) (T := TX4) (N := 17) (n := 17) hw uX4 (hw _ q125)
  obtain ⟨c5, iS5, hKn5⟩ := u_known (C := RX5) (T := TX5) (N := 12) (n := 12) hw uX5 (hw _ q98)
  obtain ⟨c6, iS6, hKn6⟩ := u_known (C := RX6) (T := TX6) (N := 5) (n := 5) hw uX6 (hw _ q92)
  obtain ⟨c7, iS7, hKn7⟩ := u_known (C := RX7) (T := TX7) (N := 4) (n := 4) hw uX7 (hw _ q138)
  obtain ⟨c8, iS8, hKn8⟩ := u_known (C := RX8) (T := TX8) (N := 3) (n := 3) hw uX8 (hw _ q132)
  obtain ⟨c9, iS9, hKn9⟩ := u_known (C := RX9) (T := TX9) (N := 7) (n := 7) hw uX9 (hw _ q104)
  obtain ⟨c10, iS10, hKn10⟩ := u_known (C := RX10) (T := TX10) (N := 5) (n := 5) hw uX10 (hw _ q111)
  obtain ⟨c11, iS11, hKn11⟩ := u_known (C := RX11) (T := TX11) (N := 19) (n := 19) hw uX11 (hw _ q309)
  obtain ⟨c12, iS12, hKn12⟩ := u_known (C := RX12) (T := TX12) (N := 66) (n := 66) hw uX12 (hw _ q314)
  obtain ⟨dC, dI, hKc⟩ : ∃ (dC : Nat → ClassId) (dI : Nat → Nat → Nat), ∀ (k : Nat) (q : vw_C), vwCl[k]? = some q → u_Kn s q.1 q.2.1 q.2.2 (dC k) (dI k) := by
    refine ⟨fun k => match k with | 0 => c0 | 1 => c1 | 2 => c2 | 3 => c3 | 4 => c4 | 5 => c5 | 6 => c6 | 7 => c7 | 8 => c8 | 9 => c9 | 10 => c10 | 11 => c11 | _ => c12, fun k => match k with | 0 => iS0 | 1 => iS1 | 2 => iS2 | 3 => iS3 | 4 => iS4 | 5 => iS5 | 6 => iS6 | 7 => iS7 | 8 => iS8 | 9 => iS9 | 10 => iS10 | 11 => iS11 | _ => iS12, ?_⟩
    intro k q hq
    match k, hq with
    | 0, hq => cases hq; exact hKn0
    | 1, hq => cases hq; exact hKn1
    | 2, hq => cases hq; exact hKn2
    | 3, hq => cases hq; exact hKn3
    | 4, hq => cases hq; exact hKn4
    | 5, hq => cases hq; exact hKn5
    | 6, hq => cases hq; exact hKn6
    | 7, hq => cases hq; exact hKn7
    | 8, hq => cases hq; exact hKn8
    | 9, hq => cases hq; exact hKn9
    | 10, hq => cases hq; exact hKn10
    | 11, hq => cases hq; exact hKn11
    | 12, hq => cases hq; exact hKn12
    | k + 13, hq => simp [vwCl] at hq
  have hS : va_S A s.heap s.heap [] := va_S.rf
  have hK : va_K (dC, dI) vwCl [] s := ⟨hKc, fun k q h => by simp at h⟩
  have hP : va_P (dC, dI) vwCl [] s.heap := fun k q h => by simp at h
  have hD : va_D A [] := ⟨fun i j p q h => by simp at h, fun k q h => by simp at h⟩
  have hl := lv_entry ([.ref b]) (n := 8) (Nat.le_of_ble_eq_true rfl)
  rw [lg_entry_eq]
  generalize (lg_sl ([.ref b]) ++ List.replicate (8 - (lg_sl ([.ref b])).length) Slot.unset).toArray = ls at hl ⊢
  have hl : lv_has ls 8 [(0, .ref b)] := hl
  refine va_new (D := (dC, dI)) (ci := 11) (fs := [.null, .int 0, .null, .int 0, .int 0, .null, .null, .int 0, .null, .int 0, .int 0, .null, .null, .null, .null, .null, .null, .null, .null]) (C := RX11) (T := TX11) (N := 19) hx hb hw uX11 tyX11 tyX11_ok hown (hw _ q308) (hw _ q309) (hw _ q153) hK hP hD hS hA rfl (by decide +kernel) (Nat.le_of_ble_eq_true rfl) (Nat.le_of_ble_eq_true rfl) dL_law_0 (fun z1 H hP hD hS => ?_)
  have hP : va_P (dC, dI) vwCl [(z1, .inr (11, [.null, .int 0, .null, .int 0, .int 0, .null, .null, .int 0, .null, .int 0, .int 0, .null, .null, .null, .null, .null, .null, .null, .null]))] H := hP
  have hD : va_D A [(z1, .inr (11, [.null, .int 0, .null, .int 0, .int 0, .null, .null, .int 0, .null, .int 0, .int 0, .null, .null, .null, .null, .null, .null, .null, .null]))] := hD
  refine W.widen (k := 1) (n := 19) (Nat.le_of_ble_eq_true rfl) (Nat.le_of_ble_eq_true rfl) ?_
  refine lv_dup hx hb dL_law_3 rfl ?_
  have hPc := hP.sub (ws' := [(z1, .inr (11, [.null, .int 0, .null, .int 0, .int 0, .null, .null, .int 0, .null, .int 0, .int 0, .null, .null, .null, .null, .null, .null, .null, .null]))]) [0] rfl
  have hDc := hD.sub (ws' := [(z1, .inr (11, [.null, .int 0, .null, .int 0, .int 0, .null, .null, .int 0, .null, .int 0, .int 0, .null, .null, .null, .null, .null, .null, .null, .null]))]) [0] (by decide) rfl
  have hKc := hK.sub (tys' := []) [] rfl
  have hFc := va_free (wc := [(z1, .inr (11, [.null, .int 0, .null, .int 0, .int 0, .null, .null, .int 0, .null, .int 0, .int 0, .null, .null, .null, .null, .null, .null, .null, .null]))]) hD hS hA [0] rfl
  refine va_callv (va_runI (As := []) (rest := [.ref z1]) ⟨hx, hb, hml, hown, hw⟩ (c_X11_init l dC dI _ (z1)) (cwI 0 hw (gB q310) rfl rfl rfl (hw _ q153) (hw _ q311) (hw _ q312) rfl (by decide +kernel) ⟨Nat.le_of_ble_eq_true rfl, Nat.le_of_ble_eq_true rfl⟩) ⟨cP_blind, cP_pre hPc hKc hDc hN⟩ rfl rfl hl.1 rfl (lv_room (Nat.le_of_ble_eq_true rfl)) dL_law_4 ⟨Nat.le_of_ble_eq_true rfl, Nat.le_of_ble_eq_true rfl⟩) hS (fun q _ h => hFc q h) hFc (fun u9 t H1 locs ht hvm hw1 hB hz1 hk1 hS => ?_)
  obtain ⟨b1_3, b2_4, b3_5, b4_6, b5_7, b6_8, b7_9, b8_10, b9_11, b10_12, b11_13, b12_14, b13_15, e1_16, e2_17, e3_18, e4_19, e5_20, e6_21, e7_22, e8_23, e9_24, g0_25, cA1_26, cA2_27, cA3_28, hP1, hK1, hD1⟩ := hB
  rw [ht] at hP1
  have hK1 := va_K.moved hvm.symm hK1
  obtain ⟨hP, hD⟩ := va_join (wr := []) (w1 := [(z1, .inr (11, [.ref b1_3, .int 0, .ref b2_4, .int 0, .int 0, .ref b3_5, .ref b4_6, .int 0, .ref b5_7, .int 0, .int 9, .ref b6_8, .ref b7_9, .ref b8_10, .ref b9_11, .ref b10_12, .ref b11_13, .ref b12_14, .ref b13_15])), (b1_3, .inl (cA1_26, 100, .inl (fun _ => 0))), (b2_4, .inl (cA2_27, 10, .inr (.inr (.inr (.inr (va_up (g0_25) (Int32.toNatClampNeg 9) (some e9_24))))))), (e9_24, .inr (0, [.ref e1_16, .ref e2_17, .ref e3_18, .int 0, .ref e4_19])), (b6_8, .inr (6, [.ref e5_20, .ref e6_21, .ref e7_22, .null, .int 0])), (e5_20, .inr (2, [.ref e8_23, .int 0])), (e8_23, .inl (cA3_28, 256, .inl (fun _ => 0)))]) hP hD [0] [] rfl rfl (by decide) (by decide) hk1 hFc hP1 hD1
  have hK := (hK.sub (tys' := []) [] rfl).app hK1
  generalize H1 = H at hP hS ⊢
  have hP : va_P (dC, dI) vwCl [(z1, .inr (11, [.ref b1_3, .int 0, .ref b2_4, .int 0, .int 0, .ref b3_5, .ref b4_6, .int 0, .ref b5_7, .int 0, .int 9, .ref b6_8, .ref b7_9, .ref b8_10, .ref b9_11, .ref b10_12, .ref b11_13, .ref b12_14, .ref b13_15])), (b1_3, .inl (cA1_26, 100, .inl (fun _ => 0))), (b2_4, .inl (cA2_27, 10, .inr (.inr (.inr (.inr (va_up (g0_25) (Int32.toNatClampNeg 9) (some e9_24))))))), (e9_24, .inr (0, [.ref e1_16, .ref e2_17, .ref e3_18, .int 0, .ref e4_19])), (b6_8, .inr (6, [.ref e5_20, .ref e6_21, .ref e7_22, .null, .int 0])), (e5_20, .inr (2, [.ref e8_23, .int 0])), (e8_23, .inl (cA3_28, 256, .inl (fun _ => 0)))] H := hP
  have hD : va_D A [(z1, .inr (11, [.ref b1_3, .int 0, .ref b2_4, .int 0, .int 0, .ref b3_5, .ref b4_6, .int 0, .ref b5_7, .int 0, .int 9, .ref b6_8, .ref b7_9, .ref b8_10, .ref b9_11, .ref b10_12, .ref b11_13, .ref b12_14, .ref b13_15])), (b1_3, .inl (cA1_26, 100, .inl (fun _ => 0))), (b2_4, .inl (cA2_27, 10, .inr (.inr (.inr (.inr (va_up (g0_25) (Int32.toNatClampNeg 9) (some e9_24))))))), (e9_24, .inr (0, [.ref e1_16, .ref e2_17, .ref e3_18, .int 0, .ref e4_19])), (b6_8, .inr (6, [.ref e5_20, .ref e6_21, .ref e7_22, .null, .int 0])), (e5_20, .inr (2, [.ref e8_23, .int 0])), (e8_23, .inl (cA3_28, 256, .inl (fun _ => 0)))] := hD
  have hK : va_K (dC, dI) vwCl [(cA1_26, .int), (cA2_27, .object RX0), (cA3_28, .int)] s := hK
  refine W.widen (k := 229) (n := 26916) (Nat.le_of_ble_eq_true rfl) (Nat.le_of_ble_eq_true rfl) ?_
  refine lv_astore_n (lv' := [(1, .ref z1), (0, .ref b)]) hx hb dL_law_7 rfl hl (by decide) rfl (fun ls hl => ?_)
  refine va_new (D := (dC, dI)) (ci := 12) (fs := [.null, .int 0, .null, .int 0, .int 0, .null, .null, .null, .null, .null, .null, .null, .null, .null, .null, .int 0, .int 0, .int 0, .int 0, .int 0, .null, .null, .null, .int 0, .null, .null, .int 0, .null, .null, .int 0, .int 0, .int 0, .int 0, .null, .null, .null, .null, .null, .null, .null, .int 0, .null, .null, .null, .null, .null, .int 0, .null, .null, .int 0, .null, .int 0, .null, .int 0, .null, .null, .null, .null, .null, .null, .int 0, .null, .null, .null, .int 0, .int 0]) (C := RX12) (T := TX12) (N := 66) hx hb hw uX12 tyX12 tyX12_ok hown (hw _ q313) (hw _ q314) (hw _ q263) hK hP hD hS hA rfl (by decide +kernel) (Nat.le_of_ble_eq_true rfl) (Nat.le_of_ble_eq_true rfl) dL_law_8 (fun z29 H hP hD hS => ?_)
  have hP : va_P (dC, dI) vwCl [(z1, .inr (11, [.ref b1_3, .int 0, .ref b2_4, .int 0, .int 0, .ref b3_5, .ref b4_6, .int 0, .ref b5_7, .int 0, .int 9, .ref b6_8, .ref b7_9, .ref b8_10, .ref b9_11, .ref b10_12, .ref b11_13, .ref b12_14, .ref b13_15])), (b1_3, .inl (cA1_26, 100, .inl (fun _ => 0))), (b2_4, .inl (cA2_27, 10, .inr (.inr (.inr (.inr (va_up (g0_25) (Int32.toNatClampNeg 9) (some e9_24))))))), (e9_24, .inr (0, [.ref e1_16, .ref e2_17, .ref e3_18, .int 0, .ref e4_19])), (b6_8, .inr (6, [.ref e5_20, .ref e6_21, .ref e7_22, .null, .int 0])), (e5_20, .inr (2, [.ref e8_23, .int 0])), (e8_23, .inl (cA3_28, 256, .inl (fun _ => 0))), (z29, .inr (12, [.null, .int 0, .null, .int 0, .int 0, .null, .null, .null, .null, .null, .null, .null, .null, .null, .null, .int 0, .int 0, .int 0, .int 0, .int 0, .null, .null, .null, .int 0, .null, .null, .int 0, .null, .null, .int 0, .int 0, .int 0, .int 0, .null, .null, .null, .null, .null, .null, .null, .int 0, .null, .null, .null, .null, .null, .int 0, .null, .null, .int 0, .null, .int 0, .null, .int 0, .null, .null, .null, .null, .null, .null, .int 0, .null, .null, .null, .int 0, .int 0]))] H := hP
  have hD : va_D A [(z1, .inr (11, [.ref b1_3, .int 0, .ref b2_4, .int 0, .int 0, .ref b3_5, .ref b4_6, .int 0, .ref b5_7, .int 0, .int 9, .ref b6_8, .ref b7_9, .ref b8_10, .ref b9_11, .ref b10_12, .ref b11_13, .ref b12_14, .ref b13_15])), (b1_3, .inl (cA1_26, 100, .inl (fun _ => 0))), (b2_4, .inl (cA2_27, 10, .inr (.inr (.inr (.inr (va_up (g0_25) (Int32.toNatClampNeg 9) (some e9_24))))))), (e9_24, .inr (0, [.ref e1_16, .ref e2_17, .ref e3_18, .int 0, .ref e4_19])), (b6_8, .inr (6, [.ref e5_20, .ref e6_21, .ref e7_22, .null, .int 0])), (e5_20, .inr (2, [.ref e8_23, .int 0])), (e8_23, .inl (cA3_28, 256, .inl (fun _ => 0))), (z29, .inr (12, [.null, .int 0, .null, .int 0, .int 0, .null, .null, .null, .null, .null, .null, .null, .null, .null, .null, .int 0, .int 0, .int 0, .int 0, .int 0, .null, .null, .null, .int 0, .null, .null, .int 0, .null, .null, .int 0, .int 0, .int 0, .int 0, .null, .null, .null, .null, .null, .null, .null, .int 0, .null, .null, .null, .null, .null, .int 0, .null, .null, .int 0, .null, .int 0, .null, .int 0, .null, .null, .null, .null, .null, .null, .int 0, .null, .null, .null, .int 0, .int 0]))] := hD
  refine W.widen (k := 230) (n := 26982) (Nat.le_of_ble_eq_true rfl) (Nat.le_of_ble_eq_true rfl) ?_
  refine lv_dup hx hb dL_law_11 rfl ?_
  have hPc := hP.sub (ws' := [(z29, .inr (12, [.null, .int 0, .null, .int 0, .int 0, .null, .null, .null, .null, .null, .null, .null, .null, .null, .null, .int 0, .int 0, .int 0, .int 0, .int 0, .null, .null, .null, .int 0, .null, .null, .int 0, .null, .null, .int 0, .int 0, .int 0, .int 0, .null, .null, .null, .null, .null, .null, .null, .int 0, .null, .null, .null, .null, .null, .int 0, .null, .null, .int 0, .null, .int 0, .null, .int 0, .null, .null, .null, .null, .null, .null, .int 0, .null, .null, .null, .int 0, .int 0]))]) [7] rfl
  have hDc := hD.sub (ws' := [(z29, .inr (12, [.null, .int 0, .null, .int 0, .int 0, .null, .null, .null, .null, .null, .null, .null, .null, .null, .null, .int 0, .int 0, .int 0, .int 0, .int 0, .null, .null, .null, .int 0, .null, .null, .int 0, .null, .null, .int 0, .int 0, .int 0, .int 0, .null, .null, .null, .null, .null, .null, .null, .int 0, .null, .null, .null, .null, .null, .int 0, .null, .null, .int 0, .null, .int 0, .null, .int 0, .null, .null, .null, .null, .null, .null, .int 0, .null, .null, .null, .int 0, .int 0]))]) [7] (by decide) rfl
  have hKc := hK.sub (tys' := []) [] rfl
  have hFc := va_free (wc := [(z29, .inr (12, [.null, .int 0, .null, .int 0, .int 0, .null, .null, .null, .null, .null, .null, .null, .null, .null, .null, .int 0, .int 0, .int 0, .int 0, .int 0, .null, .null, .null, .int 0, .null, .null, .int 0, .null, .null, .int 0, .int 0, .int 0, .int 0, .null, .null, .null, .null, .null, .null, .null, .int 0, .null, .null, .null, .null, .null, .int 0, .null, .null, .int 0, .null, .int 0, .null, .int 0, .null, .null, .null, .null, .null, .null, .int 0, .null, .null, .null, .int 0, .int 0]))]) hD hS hA [7] rfl
  refine va_callv (va_runI (As := []) (rest := [.ref z29]) ⟨hx, hb, hml, hown, hw⟩ (c_X12_init l dC dI _ (z29)) (cwI 0 hw (gB q315) rfl rfl rfl (hw _ q263) (hw _ q316) (hw _ q317) rfl (by decide +kernel) ⟨Nat.le_of_ble_eq_true rfl, Nat.le_of_ble_eq_true rfl⟩) ⟨cP_blind, cP_pre hPc hKc hDc hN⟩ rfl rfl hl.1 rfl (lv_room (Nat.le_of_ble_eq_true rfl)) dL_law_12 ⟨Nat.le_of_ble_eq_true rfl, Nat.le_of_ble_eq_true rfl⟩) hS (fun q _ h => hFc q h) hFc (fun u9 t H1 locs ht hvm hw1 hB hz1 hk1 hS => ?_)
  obtain ⟨b0_31, b2_32, b5_33, b6_34, b7_35, b8_36, b9_37, b10_38, b11_39, b12_40, b13_41, b14_42, b20_43, b21_44, b22_45, b24_46, b25_47, b27_48, b28_49, b33_50, b34_51, b35_52, b36_53, b37_54, b38_55, b39_56, b41_57, b42_58, b43_59, b44_60, b45_61, b47_62, b48_63, b50_64, b52_65, b54_66, b55_67, b56_68, b57_69, b58_70, b59_71, b61_72, b62_73, b63_74, cA0_75, cA13_76, cA14_77, hP1, hK1, hD1⟩ := hB
  rw [ht] at hP1
  have hK1 := va_K.moved hvm.symm hK1
  obtain ⟨hP, hD⟩ := va_join (wr := [(z1, .inr (11, [.ref b1_3, .int 0, .ref b2_4, .int 0, .int 0, .ref b3_5, .ref b4_6, .int 0, .ref b5_7, .int 0, .int 9, .ref b6_8, .ref b7_9, .ref b8_10, .ref b9_11, .ref b10_12, .ref b11_13, .ref b12_14, .ref b13_15])), (b1_3, .inl (cA1_26, 100, .inl (fun _ => 0))), (b2_4, .inl (cA2_27, 10, .inr (.inr (.inr (.inr (va_up (g0_25) (Int32.toNatClampNeg 9) (some e9_24))))))), (e9_24, .inr (0, [.ref e1_16, .ref e2_17, .ref e3_18, .int 0, .ref e4_19])), (b6_8, .inr (6, [.ref e5_20, .ref e6_21, .ref e7_22, .null, .int 0])), (e5_20, .inr (2, [.ref e8_23, .int 0])), (e8_23, .inl (cA3_28, 256, .inl (fun _ => 0)))]) (w1 := [(z29, .inr (12, [.ref b0_31, .int 0, .ref b2_32, .int 0, .int 0, .ref b5_33, .ref b6_34, .ref b7_35, .ref b8_36, .ref b9_37, .ref b10_38, .ref b11_39, .ref b12_40, .ref b13_41, .ref b14_42, .int 0, .int 0, .int 0, .int 0, .int 0, .ref b20_43, .ref b21_44, .ref b22_45, .int 0, .ref b24_46, .ref b25_47, .int 0, .ref b27_48, .ref b28_49, .int 0, .int 0, .int 0, .int 0, .ref b33_50, .ref b34_51, .ref b35_52, .ref b36_53, .ref b37_54, .ref b38_55, .ref b39_56, .int 0, .ref b41_57, .ref b42_58, .ref b43_59, .ref b44_60, .ref b45_61, .int 0, .ref b47_62, .ref b48_63, .int 0, .ref b50_64, .int 0, .ref b52_65, .int 0, .ref b54_66, .ref b55_67, .ref b56_68, .ref b57_69, .ref b58_70, .ref b59_71, .int 0, .ref b61_72, .ref b62_73, .ref b63_74, .int 0, .int 0])), (b0_31, .inl (cA0_75, 100, .inl (fun _ => 0))), (b13_41, .inl (cA13_76, 10, .inl (fun _ => 0))), (b14_42, .inl (cA14_77, 10, .inl (fun _ => 0)))]) hP hD [7] [0, 1, 2, 3, 4, 5, 6] rfl rfl (by decide) (by decide) hk1 hFc hP1 hD1
  have hK := (hK.sub (tys' := [(cA1_26, .int), (cA2_27, .object RX0), (cA3_28, .int)]) [0, 1, 2] rfl).app hK1
  generalize H1 = H at hP hS ⊢
  have hP : va_P (dC, dI) vwCl [(z1, .inr (11, [.ref b1_3, .int 0, .ref b2_4, .int 0, .int 0, .ref b3_5, .ref b4_6, .int 0, .ref b5_7, .int 0, .int 9, .ref b6_8, .ref b7_9, .ref b8_10, .ref b9_11, .ref b10_12, .ref b11_13, .ref b12_14, .ref b13_15])), (b1_3, .inl (cA1_26, 100, .inl (fun _ => 0))), (b2_4, .inl (cA2_27, 10, .inr (.inr (.inr (.inr (va_up (g0_25) (Int32.toNatClampNeg 9) (some e9_24))))))), (e9_24, .inr (0, [.ref e1_16, .ref e2_17, .ref e3_18, .int 0, .ref e4_19])), (b6_8, .inr (6, [.ref e5_20, .ref e6_21, .ref e7_22, .null, .int 0])), (e5_20, .inr (2, [.ref e8_23, .int 0])), (e8_23, .inl (cA3_28, 256, .inl (fun _ => 0))), (z29, .inr (12, [.ref b0_31, .int 0, .ref b2_32, .int 0, .int 0, .ref b5_33, .ref b6_34, .ref b7_35, .ref b8_36, .ref b9_37, .ref b10_38, .ref b11_39, .ref b12_40, .ref b13_41, .ref b14_42, .int 0, .int 0, .int 0, .int 0, .int 0, .ref b20_43, .ref b21_44, .ref b22_45, .int 0, .ref b24_46, .ref b25_47, .int 0, .ref b27_48, .ref b28_49, .int 0, .int 0, .int 0, .int 0, .ref b33_50, .ref b34_51, .ref b35_52, .ref b36_53, .ref b37_54, .ref b38_55, .ref b39_56, .int 0, .ref b41_57, .ref b42_58, .ref b43_59, .ref b44_60, .ref b45_61, .int 0, .ref b47_62, .ref b48_63, .int 0, .ref b50_64, .int 0, .ref b52_65, .int 0, .ref b54_66, .ref b55_67, .ref b56_68, .ref b57_69, .ref b58_70, .ref b59_71, .int 0, .ref b61_72, .ref b62_73, .ref b63_74, .int 0, .int 0])), (b0_31, .inl (cA0_75, 100, .inl (fun _ => 0))), (b13_41, .inl (cA13_76, 10, .inl (fun _ => 0))), (b14_42, .inl (cA14_77, 10, .inl (fun _ => 0)))] H := hP
  have hD : va_D A [(z1, .inr (11, [.ref b1_3, .int 0, .ref b2_4, .int 0, .int 0, .ref b3_5, .ref b4_6, .int 0, .ref b5_7, .int 0, .int 9, .ref b6_8, .ref b7_9, .ref b8_10, .ref b9_11, .ref b10_12, .ref b11_13, .ref b12_14, .ref b13_15])), (b1_3, .inl (cA1_26, 100, .inl (fun _ => 0))), (b2_4, .inl (cA2_27, 10, .inr (.inr (.inr (.inr (va_up (g0_25) (Int32.toNatClampNeg 9) (some e9_24))))))), (e9_24, .inr (0, [.ref e1_16, .ref e2_17, .ref e3_18, .int 0, .ref e4_19])), (b6_8, .inr (6, [.ref e5_20, .ref e6_21, .ref e7_22, .null, .int 0])), (e5_20, .inr (2, [.ref e8_23, .int 0])), (e8_23, .inl (cA3_28, 256, .inl (fun _ => 0))), (z29, .inr (12, [.ref b0_31, .int 0, .ref b2_32, .int 0, .int 0, .ref b5_33, .ref b6_34, .ref b7_35, .ref b8_36, .ref b9_37, .ref b10_38, .ref b11_39, .ref b12_40, .ref b13_41, .ref b14_42, .int 0, .int 0, .int 0, .int 0, .int 0, .ref b20_43, .ref b21_44, .ref b22_45, .int 0, .ref b24_46, .ref b25_47, .int 0, .ref b27_48, .ref b28_49, .int 0, .int 0, .int 0, .int 0, .ref b33_50, .ref b34_51, .ref b35_52, .ref b36_53, .ref b37_54, .ref b38_55, .ref b39_56, .int 0, .ref b41_57, .ref b42_58, .ref b43_59, .ref b44_60, .ref b45_61, .int 0, .ref b47_62, .ref b48_63, .int 0, .ref b50_64, .int 0, .ref b52_65, .int 0, .ref b54_66, .ref b55_67, .ref b56_68, .ref b57_69, .ref b58_70, .ref b59_71, .int 0, .ref b61_72, .ref b62_73, .ref b63_74, .int 0, .int 0])), (b0_31, .inl (cA0_75, 100, .inl (fun _ => 0))), (b13_41, .inl (cA13_76, 10, .inl (fun _ => 0))), (b14_42, .inl (cA14_77, 10, .inl (fun _ => 0)))] := hD
  have hK : va_K (dC, dI) vwCl [(cA1_26, .int), (cA2_27, .object RX0), (cA3_28, .int), (cA0_75, .byte), (cA13_76, .int), (cA14_77, .int)] s := hK
  refine W.widen (k := 274) (n := 497721) (Nat.le_of_ble_eq_true rfl) (Nat.le_of_ble_eq_true rfl) ?_
  refine lv_astore_n (lv' := [(2, .ref z29), (1, .ref z1), (0, .ref b)]) hx hb dL_law_15 rfl hl (by decide) rfl (fun ls hl => ?_)
  refine lv_iconst (v := 1) hx hb dL_law_16 (by decide) ?_
  refine va_newa (D := (dC, dI)) (atype := .long) (ty := .long) (a0 := (1, .inr (.inl (fun _ => 0)))) (N' := 1) hx hb (hw _ q66) rfl hK hP hD hS hA (fun _ => rfl) (by decide) (by decide +kernel) (Nat.le_of_ble_eq_true rfl) (Nat.le_of_ble_eq_true rfl) (Nat.le_of_ble_eq_true rfl) dL_law_17 (fun z78 cA79 H hK hP hD hS => ?_)
  have hP : va_P (dC, dI) vwCl [(z1, .inr (11, [.ref b1_3, .int 0, .ref b2_4, .int 0, .int 0, .ref b3_5, .ref b4_6, .int 0, .ref b5_7, .int 0, .int 9, .ref b6_8, .ref b7_9, .ref b8_10, .ref b9_11, .ref b10_12, .ref b11_13, .ref b12_14, .ref b13_15])), (b1_3, .inl (cA1_26, 100, .inl (fun _ => 0))), (b2_4, .inl (cA2_27, 10, .inr (.inr (.inr (.inr (va_up (g0_25) (Int32.toNatClampNeg 9) (some e9_24))))))), (e9_24, .inr (0, [.ref e1_16, .ref e2_17, .ref e3_18, .int 0, .ref e4_19])), (b6_8, .inr (6, [.ref e5_20, .ref e6_21, .ref e7_22, .null, .int 0])), (e5_20, .inr (2, [.ref e8_23, .int 0])), (e8_23, .inl (cA3_28, 256, .inl (fun _ => 0))), (z29, .inr (12, [.ref b0_31, .int 0, .ref b2_32, .int 0, .int 0, .ref b5_33, .ref b6_34, .ref b7_35, .ref b8_36, .ref b9_37, .ref b10_38, .ref b11_39, .ref b12_40, .ref b13_41, .ref b14_42, .int 0, .int 0, .int 0, .int 0, .int 0, .ref b20_43, .ref b21_44, .ref b22_45, .int 0, .ref b24_46, .ref b25_47, .int 0, .ref b27_48, .ref b28_49, .int 0, .int 0, .int 0, .int 0, .ref b33_50, .ref b34_51, .ref b35_52, .ref b36_53, .ref b37_54, .ref b38_55, .ref b39_56, .int 0, .ref b41_57, .ref b42_58, .ref b43_59, .ref b44_60, .ref b45_61, .int 0, .ref b47_62, .ref b48_63, .int 0, .ref b50_64, .int 0, .ref b52_65, .int 0, .ref b54_66, .ref b55_67, .ref b56_68, .ref b57_69, .ref b58_70, .ref b59_71, .int 0, .ref b61_72, .ref b62_73, .ref b63_74, .int 0, .int 0])), (b0_31, .inl (cA0_75, 100, .inl (fun _ => 0))), (b13_41, .inl (cA13_76, 10, .inl (fun _ => 0))), (b14_42, .inl (cA14_77, 10, .inl (fun _ => 0))), (z78, .inl (cA79, 1, .inr (.inl (fun _ => 0))))] H := hP
  have hD : va_D A [(z1, .inr (11, [.ref b1_3, .int 0, .ref b2_4, .int 0, .int 0, .ref b3_5, .ref b4_6, .int 0, .ref b5_7, .int 0, .int 9, .ref b6_8, .ref b7_9, .ref b8_10, .ref b9_11, .ref b10_12, .ref b11_13, .ref b12_14, .ref b13_15])), (b1_3, .inl (cA1_26, 100, .inl (fun _ => 0))), (b2_4, .inl (cA2_27, 10, .inr (.inr (.inr (.inr (va_up (g0_25) (Int32.toNatClampNeg 9) (some e9_24))))))), (e9_24, .inr (0, [.ref e1_16, .ref e2_17, .ref e3_18, .int 0, .ref e4_19])), (b6_8, .inr (6, [.ref e5_20, .ref e6_21, .ref e7_22, .null, .int 0])), (e5_20, .inr (2, [.ref e8_23, .int 0])), (e8_23, .inl (cA3_28, 256, .inl (fun _ => 0))), (z29, .inr (12, [.ref b0_31, .int 0, .ref b2_32, .int 0, .int 0, .ref b5_33, .ref b6_34, .ref b7_35, .ref b8_36, .ref b9_37, .ref b10_38, .ref b11_39, .ref b12_40, .ref b13_41, .ref b14_42, .int 0, .int 0, .int 0, .int 0, .int 0, .ref b20_43, .ref b21_44, .ref b22_45, .int 0, .ref b24_46, .ref b25_47, .int 0, .ref b27_48, .ref b28_49, .int 0, .int 0, .int 0, .int 0, .ref b33_50, .ref b34_51, .ref b35_52, .ref b36_53, .ref b37_54, .ref b38_55, .ref b39_56, .int 0, .ref b41_57, .ref b42_58, .ref b43_59, .ref b44_60, .ref b45_61, .int 0, .ref b47_62, .ref b48_63, .int 0, .ref b50_64, .int 0, .ref b52_65, .int 0, .ref b54_66, .ref b55_67, .ref b56_68, .ref b57_69, .ref b58_70, .ref b59_71, .int 0, .ref b61_72, .ref b62_73, .ref b63_74, .int 0, .int 0])), (b0_31, .inl (cA0_75, 100, .inl (fun _ => 0))), (b13_41, .inl (cA13_76, 10, .inl (fun _ => 0))), (b14_42, .inl (cA14_77, 10, .inl (fun _ => 0))), (z78, .inl (cA79, 1, .inr (.inl (fun _ => 0))))] := hD
  have hK : va_K (dC, dI) vwCl [(cA1_26, .int), (cA2_27, .object RX0), (cA3_28, .int), (cA0_75, .byte), (cA13_76, .int), (cA14_77, .int), (cA79, .long)] s := hK
  refine W.widen (k := 275) (n := 497722) (Nat.le_of_ble_eq_true rfl) (Nat.le_of_ble_eq_true rfl) ?_
  refine lv_astore_n (lv' := [(3, .ref z78), (2, .ref z29), (1, .ref z1), (0, .ref b)]) hx hb dL_law_19 rfl hl (by decide) rfl (fun ls hl => ?_)
  refine lv_iconst (v := 0) hx hb dL_law_20 (by decide) ?_
  refine lv_istore (lv' := [(4, .int 0), (3, .ref z78), (2, .ref z29), (1, .ref z1), (0, .ref b)]) hx hb dL_law_21 hl (by decide) rfl (fun ls hl => ?_)
  rcases (show L = 0 ∨ L = 1 ∨ L = 2 ∨ L = 3 by omega) with rfl | rfl | rfl | rfl
  · refine lv_iload hx hb dL_law_23 (lv_at hl 0 rfl) ?_
    refine lv_aload_n hx hb dL_law_25 rfl (lv_at hl 4 rfl) ?_
    refine va_slen hx hb hX hbl hbA hS dL_law_26 ?_
    refine W.eq (g2 := F0 m 27 ls [.int 0, .int 0]) rfl ?_
    refine lv_iconst (v := 3) hx hb dL_law_27 (by decide) ?_
    refine lv_isub hx hb dL_law_28 ?_
    refine lv_topi (fun y8001 ey8001 => ?_)
    have ey8001 : y8001 = (-3) := ey8001.trans (by decide +kernel)
    subst ey8001
    refine lv_icmp_gt (tgt := 950) hx hb dL_law_29 (by decide) (fun _ => ?_) (fun c9 => absurd c9 (by decide))
    refine lv_iconst (v := 1) hx hb dL_law_950 (by decide) ?_
    refine va_forget (fun q hq => by have h9 := hS.2.2 q hq; rw [hAe] at h9; exact h9) ?_
    refine W.widen (k := 600002) (n := 7302232) (Nat.le_of_ble_eq_true rfl) (Nat.le_of_ble_eq_true rfl) ?_
    exact lw_ret hx hb hr hlocks dL_law_951
  · refine lv_iload hx hb dL_law_23 (lv_at hl 0 rfl) ?_
    refine lv_aload_n hx hb dL_law_25 rfl (lv_at hl 4 rfl) ?_
    refine va_slen hx hb hX hbl hbA hS dL_law_26 ?_
    refine W.eq (g2 := F0 m 27 ls [.int 1, .int 0]) rfl ?_
    refine lv_iconst (v := 3) hx hb dL_law_27 (by decide) ?_
    refine lv_isub hx hb dL_law_28 ?_
    refine lv_topi (fun y8101 ey8101 => ?_)
    have ey8101 : y8101 = (-2) := ey8101.trans (by decide +kernel)
    subst ey8101
    refine lv_icmp_gt (tgt := 950) hx hb dL_law_29 (by decide) (fun _ => ?_) (fun c9 => absurd c9 (by decide))
    refine lv_iconst (v := 1) hx hb dL_law_950 (by decide) ?_
    refine va_forget (fun q hq => by have h9 := hS.2.2 q hq; rw [hAe] at h9; exact h9) ?_
    refine W.widen (k := 600002) (n := 7302232) (Nat.le_of_ble_eq_true rfl) (Nat.le_of_ble_eq_true rfl) ?_
    exact lw_ret hx hb hr hlocks dL_law_951
  · refine lv_iload hx hb dL_law_23 (lv_at hl 0 rfl) ?_
    refine lv_aload_n hx hb dL_law_25 rfl (lv_at hl 4 rfl) ?_
    refine va_slen hx hb hX hbl hbA hS dL_law_26 ?_
    refine W.eq (g2 := F0 m 27 ls [.int 2, .int 0]) rfl ?_
    refine lv_iconst (v := 3) hx hb dL_law_27 (by decide) ?_
    refine lv_isub hx hb dL_law_28 ?_
    refine lv_topi (fun y8201 ey8201 => ?_)
    have ey8201 : y8201 = (-1) := ey8201.trans (by decide +kernel)
    subst ey8201
    refine lv_icmp_gt (tgt := 950) hx hb dL_law_29 (by decide) (fun _ => ?_) (fun c9 => absurd c9 (by decide))
    refine lv_iconst (v := 1) hx hb dL_law_950 (by decide) ?_
    refine va_forget (fun q hq => by have h9 := hS.2.2 q hq; rw [hAe] at h9; exact h9) ?_
    refine W.widen (k := 600002) (n := 7302232) (Nat.le_of_ble_eq_true rfl) (Nat.le_of_ble_eq_true rfl) ?_
    exact lw_ret hx hb hr hlocks dL_law_951
  · refine lv_iload hx hb dL_law_23 (lv_at hl 0 rfl) ?_
    refine lv_aload_n hx hb dL_law_25 rfl (lv_at hl 4 rfl) ?_
    refine va_slen hx hb hX hbl hbA hS dL_law_26 ?_
    refine W.eq (g2 := F0 m 27 ls [.int 3, .int 0]) rfl ?_
    refine lv_iconst (v := 3) hx hb dL_law_27 (by decide) ?_
    refine lv_isub hx hb dL_law_28 ?_
    refine lv_topi (fun y8301 ey8301 => ?_)
    have ey8301 : y8301 = 0 := ey8301.trans (by decide +kernel)
    subst ey8301
    refine lv_icmp_gt (tgt := 950) hx hb dL_law_29 (by decide) (fun c9 => absurd c9 (by decide)) (fun _ => ?_)
    refine lv_aload_n hx hb dL_law_32 rfl (lv_at hl 4 rfl) ?_
    refine lv_iload hx hb dL_law_33 (lv_at hl 0 rfl) ?_
    refine va_sld hx hb hX hbl hbA hS (by unfold vp_in; decide) dL_law_35 ?_
    refine W.eq (g2 := F0 m 36 ls [.int (xs 0)]) rfl ?_
    refine lv_bipush (v := 31) hx hb dL_law_36 (by decide) ?_
    refine lv_iand hx hb dL_law_38 ?_
    refine lv_topi (fun y8302 ey8302 => ?_)
    exact law_sw hAe C0 hN hl9 hst hK hP hD hS hl _ ey8302
