/-! The Model: changes -/
theorem cntN_cg {p q : Nat → Bool} : ∀ k, (∀ i, i < k → p i = q i) → cntN p k = cntN q k
  | 0, _ => rfl
  | k + 1, h => by simp only [cntN]; rw [cntN_cg k (fun i hi => h i (by omega)), h k (by omega)]
def mothZ (I : xI) (A w : Nat) : Bool := (decide (w = 6) && decide (I (A + 1) 49 = 0)) || (decide (w = 7) && decide (I (A + 1) 48 = 0))
theorem dX12_track_0 : decode cX12_track 0 = .ok (.aload_n 0, 1) := by decide +kernel
theorem dX12_track_1 : decode cX12_track 1 = .ok (.iload_n 1, 1) := by decide +kernel
theorem dX12_track_2 : decode cX12_track 2 = .ok (.invokevirtual 195, 3) := by decide +kernel
theorem dX12_track_5 : decode cX12_track 5 = .ok (.ifCond .eq 14, 3) := by decide +kernel
theorem dX12_track_8 : decode cX12_track 8 = .ok (.iload_n 2, 1) := by decide +kernel
theorem dX12_track_9 : decode cX12_track 9 = .ok (.iconst 1, 1) := by decide +kernel
theorem dX12_track_10 : decode cX12_track 10 = .ok (.sipush 200, 3) := by decide +kernel
theorem dX12_track_13 : decode cX12_track 13 = .ok (.invokestatic 71, 3) := by decide +kernel
theorem dX12_track_16 : decode cX12_track 16 = .ok (.ifCond .ne 6, 3) := by decide +kernel
theorem dX12_track_19 : decode cX12_track 19 = .ok (.ldc 198, 2) := by decide +kernel
theorem dX12_track_21 : decode cX12_track 21 = .ok (.ireturn, 1) := by decide +kernel
theorem dX12_track_22 : decode cX12_track 22 = .ok (.aload_n 0, 1) := by decide +kernel
theorem dX12_track_23 : decode cX12_track 23 = .ok (.iload_n 1, 1) := by decide +kernel
theorem dX12_track_24 : decode cX12_track 24 = .ok (.invokevirtual 189, 3) := by decide +kernel
theorem dX12_track_27 : decode cX12_track 27 = .ok (.ifCond .ne 6, 3) := by decide +kernel
theorem dX12_track_30 : decode cX12_track 30 = .ok (.ldc 199, 2) := by decide +kernel
theorem dX12_track_32 : decode cX12_track 32 = .ok (.ireturn, 1) := by decide +kernel
theorem dX12_track_33 : decode cX12_track 33 = .ok (.aload_n 0, 1) := by decide +kernel
theorem dX12_track_34 : decode cX12_track 34 = .ok (.invokevirtual 200, 3) := by decide +kernel
theorem dX12_track_37 : decode cX12_track 37 = .ok (.aload_n 0, 1) := by decide +kernel
theorem dX12_track_38 : decode cX12_track 38 = .ok (.iload_n 1, 1) := by decide +kernel
theorem dX12_track_39 : decode cX12_track 39 = .ok (.iload_n 2, 1) := by decide +kernel
theorem dX12_track_40 : decode cX12_track 40 = .ok (.invokevirtual 203, 3) := by decide +kernel
theorem dX12_track_43 : decode cX12_track 43 = .ok (.ireturn, 1) := by decide +kernel
set_option maxHeartbeats 1000000 in
set_option maxRecDepth 100000 in
theorem t_X12_track (l : Launch) (D : xD) (z n : Nat) (G : xG) (I : xI) (L : xL) (A : Nat) (k : Nat) (T : Nat) (s0 : Nat) (R : Nat) (Y : xSy) (dx : Nat) (dy : Nat) (Z : Nat) (hM : shMo G A) (zA : z ≤ A) (hdx : I (A + 1) 40 = nI dx) (hdy : I (A + 1) 41 = nI dy) (hd3 : dx * dy ≤ 9) (hku : k < dx * dy) (hp : pOk (mvO (I (A + 1)) (50 + 12 * k))) (hst : I (A + 1) (50 + 12 * k + 5) = 0) (hT1 : 1 ≤ T) (hT2 : T ≤ 200) (hY : cofY I A Y) (hR : I (A + 1) 44 = nI R) (hR9 : R ≤ 9) (hs0 : I (A + 1) 42 = nI s0) (hs0l : s0 ≤ 256) (hZ : I A 2 = nI Z) (hZ4 : Z ≤ 4) : xM0 l D z yX12_track cX12_track 3 (some .int) 10 257 [.ref A, .int (nI k), .int (nI T)] n G I L (fun v' I' L' => v' = (some (.int (nI (foll Y R (I (A + 1) 45) (I (A + 1) 46) (nI s0) T (mvO (I (A + 1)) (50 + 12 * k))).1))) ∧ (mrec I A Z I') ∧ (mvO (I' (A + 1)) (50 + 12 * k) = (foll Y R (I (A + 1) 45) (I (A + 1) 46) (nI s0) T (mvO (I (A + 1)) (50 + 12 * k))).2) ∧ (pOk (mvO (I' (A + 1)) (50 + 12 * k))) ∧ (∀ j, (j < 50 + 12 * k ∨ 62 + 12 * k ≤ j) → I' (A + 1) j = I (A + 1) j) ∧ (∀ q, q ≠ A → q ≠ A + 1 → q ≠ A + 2 → I' q = I q) ∧ (∀ j, j ≠ 2 → I' A j = I A j) ∧ (∀ q, (q < A ∨ A + 14 ≤ q) → L' q = L q)) := by
  refine xM.of (by decide) (Nat.le_of_ble_eq_true rfl) (fun p e s m args below meth c C hnm hsz => ?_)
  refine x_lv [(0, .ref A), (1, .int (nI k)), (2, .int (nI T))] rfl ?_
  have hk : k < 9 := by omega
  refine x_aload_n 0 C dX12_track_0 rfl 0 rfl ?_
  refine x_iload_n 1 C dX12_track_1 rfl 1 rfl ?_
  refine x_callVe 2 C dX12_track_2 (As := [.int (nI k)]) (rest := []) [.int (bI (decide (0 ≤ (nI k)) && decide ((nI k) < nI (dx * dy))))] (t_X12_isPath l D z n G I L A dx dy (nI k) hM hdx hdy (by omega) hd3) mt_X12_isPath km_X12_195 ki_X12_isPath ks_X12_isPath hM.1 ⟨by decide, rfl⟩ rfl rfl (Nat.le_of_ble_eq_true rfl) ⟨⟨by decide, by decide⟩, by decide, by decide⟩ (fun I1 L2 eI1 eL2 => ?_)
  replace eI1 := eI1.symm; subst eI1
  replace eL2 := eL2.symm; subst eL2
  refine x_if_eq 5 C 19 dX12_track_5 (by decide) (fun c3 => absurd c3 (isP_t hku hd3)) (fun _ => ?_)
  refine x_iload_n 8 C dX12_track_8 rfl 2 rfl ?_
  refine x_iconst 9 C (v := 1) dX12_track_9 rfl ?_
  refine x_sipush 10 C (v := 200) dX12_track_10 rfl ?_
  refine x_callSe 13 C dX12_track_13 (As := [.int (nI T), .int 1, .int 200]) (rest := []) [.int (bI (decide (1 ≤ T) && decide (T ≤ 200)))] (t_X12_in_n l D z n G I L T 1 200 (by first | omega | assumption | decide) (by first | omega | assumption | decide) (by first | omega | assumption | decide)) mt_X12_in km_X12_71 kt_X12_in rfl rfl (Nat.le_of_ble_eq_true rfl) ⟨⟨by decide, by decide⟩, by decide, by decide⟩ (fun I4 L5 eI4 eL5 => ?_)
  replace eI4 := eI4.symm; subst eI4
  replace eL5 := eL5.symm; subst eL5
  refine x_int 1 (by simp [bI]; omega) ?_
  refine x_if_ne 16 C 22 dX12_track_16 (by decide) (fun _ => ?_) (fun c6 => absurd c6 (by decide))
  refine x_aload_n 22 C dX12_track_22 rfl 0 rfl ?_
  refine x_iload_n 23 C dX12_track_23 rfl 1 rfl ?_
  refine x_callVe 24 C dX12_track_24 (As := [.int (nI k)]) (rest := []) [.int (bI (decide (I (A + 1) (50 + 12 * k + 5) = 0)))] (t_X12_isOnWay l D z n G I L A k hM (by first | omega | assumption | decide)) mt_X12_isOnWay km_X12_189 ki_X12_isOnWay ks_X12_isOnWay hM.1 ⟨by decide, rfl⟩ rfl rfl (Nat.le_of_ble_eq_true rfl) ⟨⟨by decide, by decide⟩, by decide, by decide⟩ (fun I7 L8 eI7 eL8 => ?_)
  replace eI7 := eI7.symm; subst eI7
  replace eL8 := eL8.symm; subst eL8
  refine x_if_ne 27 C 33 dX12_track_27 (by decide) (fun _ => ?_) (fun c9 => absurd c9 (bI_n0.mpr (decide_eq_true hst)))
  refine x_aload_n 33 C dX12_track_33 rfl 0 rfl ?_
  refine x_callVp 34 C dX12_track_34 (As := []) (rest := []) (t_X12_save0 l D z n G I L A Z hM (by omega) (by first | assumption | omega | decide) (by first | omega | assumption | decide)) mt_X12_save0 km_X12_200 ki_X12_save0 ks_X12_save0 hM.1 ⟨by decide, rfl⟩ rfl (Nat.le_of_ble_eq_true rfl) ⟨⟨by decide, by decide⟩, by decide, by decide⟩ (fun w10 I11 L12 hw10 => ?_)
  obtain ⟨hw10v, eL12, hw10r0, hw10r1, hw10r2⟩ := hw10
  subst hw10v
  refine x_st [] rfl ?_
  replace eL12 := eL12.symm; subst eL12
  have h1r : I11 (A + 1) = I (A + 1) := hw10r1 _ (by omega) (by omega)
  refine x_aload_n 37 C dX12_track_37 rfl 0 rfl ?_
  refine x_iload_n 38 C dX12_track_38 rfl 1 rfl ?_
  refine x_iload_n 39 C dX12_track_39 rfl 2 rfl ?_
  refine x_callVp 40 C dX12_track_40 (As := [.int (nI k), .int (nI T)]) (rest := []) (t_X12_follows l D z n G I11 L A k T s0 R Y hM (by omega) (by first | omega | assumption | decide) (by first | omega | assumption | decide) (by rw [h1r]; exact hp) (cofY_congr (fun j _ => by rw [h1r]) hY) (by rw [h1r]; exact hR) (by first | omega | assumption | decide) (by rw [h1r]; exact hs0) (by first | omega | assumption | decide)) mt_X12_follows km_X12_203 ki_X12_follows ks_X12_follows hM.1 ⟨by decide, rfl⟩ rfl (Nat.le_of_ble_eq_true rfl) ⟨⟨by decide, by decide⟩, by decide, by decide⟩ (fun w13 I14 L15 hw13 => ?_)
  obtain ⟨hw13v, hw13r0, hw13r1, hw13r2, hw13r3, hw13r4⟩ := hw13
  subst hw13v
  refine x_st [.int (nI (foll Y R (I11 (A + 1) 45) (I11 (A + 1) 46) (nI s0) T (mvO (I11 (A + 1)) (50 + 12 * k))).1)] rfl ?_
  refine x_int (nI (foll Y R (I (A + 1) 45) (I (A + 1) 46) (nI s0) T (mvO (I (A + 1)) (50 + 12 * k))).1) (by rw [h1r]) ?_
  refine x_iret 43 C dX12_track_43 rfl rfl (Nat.le_refl _) (xN.intro ?_)
  exact ⟨rfl, mrec_congr (by rw [hw13r3 A (by omega)]) (hw13r3 _ (by omega)) hw10r0, by rw [hw13r0, h1r], hw13r1, fun j hj => by rw [hw13r2 j hj, h1r], fun q h0 h1 h2 => by rw [hw13r3 q h1]; exact hw10r1 q h0 h2, fun j hj => by rw [hw13r3 A (by omega)]; exact hw10r2 j hj, hw13r4⟩
set_option maxHeartbeats 1000000 in
set_option maxRecDepth 100000 in
theorem t_X12_track_bad (l : Launch) (D : xD) (z n : Nat) (G : xG) (I : xI) (L : xL) (A : Nat) (x : Int32) (y : Int32) (dx : Nat) (dy : Nat) (hM : shMo G A) (hdx : I (A + 1) 40 = nI dx) (hdy : I (A + 1) 41 = nI dy) (hd3 : dx * dy ≤ 9) (h1U : 1 ≤ dx * dy) (hbad : (decide (0 ≤ x) && decide (x < nI (dx * dy))) = false ∨ ¬ (1 ≤ y ∧ y ≤ 200)) : xM0 l D z yX12_track cX12_track 3 (some .int) 10 257 [.ref A, .int x, .int y] n G I L (xE (some (.int (-2000000001))) I L) := by
  refine xM.of (by decide) (Nat.le_of_ble_eq_true rfl) (fun p e s m args below meth c C hnm hsz => ?_)
  refine x_lv [(0, .ref A), (1, .int x), (2, .int y)] rfl ?_
  refine x_aload_n 0 C dX12_track_0 rfl 0 rfl ?_
  refine x_iload_n 1 C dX12_track_1 rfl 1 rfl ?_
  refine x_callVe 2 C dX12_track_2 (As := [.int x]) (rest := []) [.int (bI (decide (0 ≤ x) && decide (x < nI (dx * dy))))] (t_X12_isPath l D z n G I L A dx dy x hM hdx hdy (by omega) hd3) mt_X12_isPath km_X12_195 ki_X12_isPath ks_X12_isPath hM.1 ⟨by decide, rfl⟩ rfl rfl (Nat.le_of_ble_eq_true rfl) ⟨⟨by decide, by decide⟩, by decide, by decide⟩ (fun I1 L2 eI1 eL2 => ?_)
  replace eI1 := eI1.symm; subst eI1
  replace eL2 := eL2.symm; subst eL2
  refine x_if_eq 5 C 19 dX12_track_5 (by decide) (fun c3 => ?_) (fun c3 => ?_)
  · skip
    refine x_ldc 19 C (-2000000001) dX12_track_19 kk_X12_198 ?_
    refine x_iret 21 C dX12_track_21 rfl rfl (Nat.le_refl _) (xN.intro ?_)
    exact ⟨rfl, rfl, rfl⟩
  · skip
    have hg1 := bI_n0.mp c3
    refine x_iload_n 8 C dX12_track_8 rfl 2 rfl ?_
    refine x_iconst 9 C (v := 1) dX12_track_9 rfl ?_
    refine x_sipush 10 C (v := 200) dX12_track_10 rfl ?_
    refine x_callSe 13 C dX12_track_13 (As := [.int y, .int 1, .int 200]) (rest := []) [.int (bI (decide (1 ≤ y) && decide (y ≤ 200)))] (t_X12_in l D z n G I L y 1 200 ) mt_X12_in km_X12_71 kt_X12_in rfl rfl (Nat.le_of_ble_eq_true rfl) ⟨⟨by decide, by decide⟩, by decide, by decide⟩ (fun I4 L5 eI4 eL5 => ?_)
    replace eI4 := eI4.symm; subst eI4
    replace eL5 := eL5.symm; subst eL5
    refine x_if_ne 16 C 22 dX12_track_16 (by decide) (fun c6 => ?_) (fun c6 => ?_)
    · skip
      exact hbad.elim (fun h => absurd (hg1.symm.trans h) (by decide)) (fun h => absurd (in_b.mpr h) c6)
    · skip
      refine x_ldc 19 C (-2000000001) dX12_track_19 kk_X12_198 ?_
      refine x_iret 21 C dX12_track_21 rfl rfl (Nat.le_refl _) (xN.intro ?_)
      exact ⟨rfl, rfl, rfl⟩
set_option maxHeartbeats 1000000 in
set_option maxRecDepth 100000 in
theorem t_X12_track_no (l : Launch) (D : xD) (z n : Nat) (G : xG) (I : xI) (L : xL) (A : Nat) (k : Nat) (T : Nat) (dx : Nat) (dy : Nat) (hM : shMo G A) (hdx : I (A + 1) 40 = nI dx) (hdy : I (A + 1) 41 = nI dy) (hd3 : dx * dy ≤ 9) (hku : k < dx * dy) (hst : ¬ I (A + 1) (50 + 12 * k + 5) = 0) (hT1 : 1 ≤ T) (hT2 : T ≤ 200) : xM0 l D z yX12_track cX12_track 3 (some .int) 10 257 [.ref A, .int (nI k), .int (nI T)] n G I L (xE (some (.int (-2000000002))) I L) := by
  refine xM.of (by decide) (Nat.le_of_ble_eq_true rfl) (fun p e s m args below meth c C hnm hsz => ?_)
  refine x_lv [(0, .ref A), (1, .int (nI k)), (2, .int (nI T))] rfl ?_
  have hk : k < 9 := by omega
  refine x_aload_n 0 C dX12_track_0 rfl 0 rfl ?_
  refine x_iload_n 1 C dX12_track_1 rfl 1 rfl ?_
  refine x_callVe 2 C dX12_track_2 (As := [.int (nI k)]) (rest := []) [.int (bI (decide (0 ≤ (nI k)) && decide ((nI k) < nI (dx * dy))))] (t_X12_isPath l D z n G I L A dx dy (nI k) hM hdx hdy (by omega) hd3) mt_X12_isPath km_X12_195 ki_X12_isPath ks_X12_isPath hM.1 ⟨by decide, rfl⟩ rfl rfl (Nat.le_of_ble_eq_true rfl) ⟨⟨by decide, by decide⟩, by decide, by decide⟩ (fun I1 L2 eI1 eL2 => ?_)
  replace eI1 := eI1.symm; subst eI1
  replace eL2 := eL2.symm; subst eL2
  refine x_if_eq 5 C 19 dX12_track_5 (by decide) (fun c3 => absurd c3 (isP_t hku hd3)) (fun _ => ?_)
  refine x_iload_n 8 C dX12_track_8 rfl 2 rfl ?_
  refine x_iconst 9 C (v := 1) dX12_track_9 rfl ?_
  refine x_sipush 10 C (v := 200) dX12_track_10 rfl ?_
  refine x_callSe 13 C dX12_track_13 (As := [.int (nI T), .int 1, .int 200]) (rest := []) [.int (bI (decide (1 ≤ T) && decide (T ≤ 200)))] (t_X12_in_n l D z n G I L T 1 200 (by first | omega | assumption | decide) (by first | omega | assumption | decide) (by first | omega | assumption | decide)) mt_X12_in km_X12_71 kt_X12_in rfl rfl (Nat.le_of_ble_eq_true rfl) ⟨⟨by decide, by decide⟩, by decide, by decide⟩ (fun I4 L5 eI4 eL5 => ?_)
  replace eI4 := eI4.symm; subst eI4
  replace eL5 := eL5.symm; subst eL5
  refine x_int 1 (by simp [bI]; omega) ?_
  refine x_if_ne 16 C 22 dX12_track_16 (by decide) (fun _ => ?_) (fun c6 => absurd c6 (by decide))
  refine x_aload_n 22 C dX12_track_22 rfl 0 rfl ?_
  refine x_iload_n 23 C dX12_track_23 rfl 1 rfl ?_
  refine x_callVe 24 C dX12_track_24 (As := [.int (nI k)]) (rest := []) [.int (bI (decide (I (A + 1) (50 + 12 * k + 5) = 0)))] (t_X12_isOnWay l D z n G I L A k hM (by first | omega | assumption | decide)) mt_X12_isOnWay km_X12_189 ki_X12_isOnWay ks_X12_isOnWay hM.1 ⟨by decide, rfl⟩ rfl rfl (Nat.le_of_ble_eq_true rfl) ⟨⟨by decide, by decide⟩, by decide, by decide⟩ (fun I7 L8 eI7 eL8 => ?_)
  replace eI7 := eI7.symm; subst eI7
  replace eL8 := eL8.symm; subst eL8
  refine x_if_ne 27 C 33 dX12_track_27 (by decide) (fun c9 => absurd (bI_0.mpr (decide_eq_false hst)) c9) (fun _ => ?_)
  refine x_ldc 30 C (-2000000002) dX12_track_30 kk_X12_199 ?_
  refine x_iret 32 C dX12_track_32 rfl rfl (Nat.le_refl _) (xN.intro ?_)
  exact ⟨rfl, rfl, rfl⟩
theorem dX12_trackAll_0 : decode cX12_trackAll 0 = .ok (.iload_n 1, 1) := by decide +kernel
theorem dX12_trackAll_1 : decode cX12_trackAll 1 = .ok (.iconst 1, 1) := by decide +kernel
theorem dX12_trackAll_2 : decode cX12_trackAll 2 = .ok (.sipush 200, 3) := by decide +kernel
theorem dX12_trackAll_5 : decode cX12_trackAll 5 = .ok (.invokestatic 71, 3) := by decide +kernel
theorem dX12_trackAll_8 : decode cX12_trackAll 8 = .ok (.ifCond .ne 6, 3) := by decide +kernel
theorem dX12_trackAll_11 : decode cX12_trackAll 11 = .ok (.ldc 198, 2) := by decide +kernel
theorem dX12_trackAll_13 : decode cX12_trackAll 13 = .ok (.ireturn, 1) := by decide +kernel
theorem dX12_trackAll_14 : decode cX12_trackAll 14 = .ok (.aload_n 0, 1) := by decide +kernel
theorem dX12_trackAll_15 : decode cX12_trackAll 15 = .ok (.invokevirtual 200, 3) := by decide +kernel
theorem dX12_trackAll_18 : decode cX12_trackAll 18 = .ok (.iconst 0, 1) := by decide +kernel
theorem dX12_trackAll_19 : decode cX12_trackAll 19 = .ok (.istore_n 2, 1) := by decide +kernel
theorem dX12_trackAll_20 : decode cX12_trackAll 20 = .ok (.iload_n 2, 1) := by decide +kernel
theorem dX12_trackAll_21 : decode cX12_trackAll 21 = .ok (.aload_n 0, 1) := by decide +kernel
theorem dX12_trackAll_22 : decode cX12_trackAll 22 = .ok (.invokevirtual 67, 3) := by decide +kernel
theorem dX12_trackAll_25 : decode cX12_trackAll 25 = .ok (.if_icmp .ge 16, 3) := by decide +kernel
theorem dX12_trackAll_28 : decode cX12_trackAll 28 = .ok (.aload_n 0, 1) := by decide +kernel
theorem dX12_trackAll_29 : decode cX12_trackAll 29 = .ok (.iload_n 2, 1) := by decide +kernel
theorem dX12_trackAll_30 : decode cX12_trackAll 30 = .ok (.iload_n 1, 1) := by decide +kernel
theorem dX12_trackAll_31 : decode cX12_trackAll 31 = .ok (.invokevirtual 203, 3) := by decide +kernel
theorem dX12_trackAll_34 : decode cX12_trackAll 34 = .ok (.istore_n 3, 1) := by decide +kernel
theorem dX12_trackAll_35 : decode cX12_trackAll 35 = .ok (.iinc 2 1, 3) := by decide +kernel
theorem dX12_trackAll_38 : decode cX12_trackAll 38 = .ok (.goto (-18), 3) := by decide +kernel
theorem dX12_trackAll_41 : decode cX12_trackAll 41 = .ok (.aload_n 0, 1) := by decide +kernel
theorem dX12_trackAll_42 : decode cX12_trackAll 42 = .ok (.iconst 0, 1) := by decide +kernel
theorem dX12_trackAll_43 : decode cX12_trackAll 43 = .ok (.invokevirtual 207, 3) := by decide +kernel
theorem dX12_trackAll_46 : decode cX12_trackAll 46 = .ok (.ireturn, 1) := by decide +kernel
set_option maxHeartbeats 1000000 in
set_option maxRecDepth 100000 in
theorem t_X12_trackAll (l : Launch) (D : xD) (z n : Nat) (G : xG) (I : xI) (L : xL) (A : Nat) (T : Nat) (s0 : Nat) (R : Nat) (Y : xSy) (dx : Nat) (dy : Nat) (Z : Nat) (hM : shMo G A) (zA : z ≤ A) (hdx : I (A + 1) 40 = nI dx) (hdy : I (A + 1) 41 = nI dy) (hd3 : dx * dy ≤ 9) (hps : ∀ i, i < dx * dy → pOk (mV I A i)) (hT1 : 1 ≤ T) (hT2 : T ≤ 200) (hY : cofY I A Y) (hR : I (A + 1) 44 = nI R) (hR9 : R ≤ 9) (hs0 : I (A + 1) 42 = nI s0) (hs0l : s0 ≤ 256) (hZ : I A 2 = nI Z) (hZ4 : Z ≤ 4) : xM0 l D z yX12_trackAll cX12_trackAll 4 (some .int) 10 257 [.ref A, .int (nI T)] n G I L (fun v' I' L' => v' = (some (.int (nI (cntN (fun i => decide ((foll Y R (I (A + 1) 45) (I (A + 1) 46) (nI s0) T (mV I A i)).2.1 2 = 0)) (dx * dy))))) ∧ (mrec I A Z I') ∧ (∀ i, i < dx * dy → mvO (I' (A + 1)) (50 + 12 * i) = (foll Y R (I (A + 1) 45) (I (A + 1) 46) (nI s0) T (mV I A i)).2 ∧ pOk (mvO (I' (A + 1)) (50 + 12 * i))) ∧ (∀ j, j < 50 → I' (A + 1) j = I (A + 1) j) ∧ (∀ q, q ≠ A → q ≠ A + 1 → q ≠ A + 2 → I' q = I q) ∧ (∀ j, j ≠ 2 → I' A j = I A j) ∧ (∀ q, (q < A ∨ A + 14 ≤ q) → L' q = L q)) := by
  refine xM.of (by decide) (Nat.le_of_ble_eq_true rfl) (fun p e s m args below meth c C hnm hsz => ?_)
  refine x_lv [(0, .ref A), (1, .int (nI T))] rfl ?_
  refine x_iload_n 0 C dX12_trackAll_0 rfl 1 rfl ?_
  refine x_iconst 1 C (v := 1) dX12_trackAll_1 rfl ?_
  refine x_sipush 2 C (v := 200) dX12_trackAll_2 rfl ?_
  refine x_callSe 5 C dX12_trackAll_5 (As := [.int (nI T), .int 1, .int 200]) (rest := []) [.int (bI (decide (1 ≤ T) && decide (T ≤ 200)))] (t_X12_in_n l D z n G I L T 1 200 (by first | omega | assumption | decide) (by first | omega | assumption | decide) (by first | omega | assumption | decide)) mt_X12_in km_X12_71 kt_X12_in rfl rfl (Nat.le_of_ble_eq_true rfl) ⟨⟨by decide, by decide⟩, by decide, by decide⟩ (fun I1 L2 eI1 eL2 => ?_)
  replace eI1 := eI1.symm; subst eI1
  replace eL2 := eL2.symm; subst eL2
  refine x_int 1 (by simp [bI]; omega) ?_
  refine x_if_ne 8 C 14 dX12_trackAll_8 (by decide) (fun _ => ?_) (fun c3 => absurd c3 (by decide))
  refine x_aload_n 14 C dX12_trackAll_14 rfl 0 rfl ?_
  refine x_callVp 15 C dX12_trackAll_15 (As := []) (rest := []) (t_X12_save0 l D z n G I L A Z hM (by omega) (by first | assumption | omega | decide) (by first | omega | assumption | decide)) mt_X12_save0 km_X12_200 ki_X12_save0 ks_X12_save0 hM.1 ⟨by decide, rfl⟩ rfl (Nat.le_of_ble_eq_true rfl) ⟨⟨by decide, by decide⟩, by decide, by decide⟩ (fun w4 I5 L6 hw4 => ?_)
  obtain ⟨hw4v, eL6, hw4r0, hw4r1, hw4r2⟩ := hw4
  subst hw4v
  refine x_st [] rfl ?_
  replace eL6 := eL6.symm; subst eL6
  have h1r : I5 (A + 1) = I (A + 1) := hw4r1 _ (by omega) (by omega)
  refine x_iconst 18 C (v := 0) dX12_trackAll_18 rfl ?_
  refine x_istore_n 19 C [(2, .int 0), (0, .ref A), (1, .int (nI T))] dX12_trackAll_19 rfl (by decide) rfl ?_
  have loop20 : ∀ (fuel : Nat) (k : Nat) (Im : xI) (Lm : xL), (k ≤ dx * dy) → (dx * dy + 1 ≤ k + fuel) → (∀ i, i < k → mvO (Im (A + 1)) (50 + 12 * i) = (foll Y R (I (A + 1) 45) (I (A + 1) 46) (nI s0) T (mV I A i)).2 ∧ pOk (mvO (Im (A + 1)) (50 + 12 * i))) → (∀ i, k ≤ i → i < dx * dy → mvO (Im (A + 1)) (50 + 12 * i) = mV I A i) → (∀ j, j < 50 → Im (A + 1) j = I (A + 1) j) → (∀ q, q ≠ A + 1 → Im q = I5 q) → (∀ q, (q < A ∨ A + 14 ≤ q) → Lm q = L q) → X p l e (xRm 10 257 0 0) s m args below meth c D z 4 (MQ below (xQc D z n (xN n G (fun v' I' L' => v' = (some (.int (nI (cntN (fun i => decide ((foll Y R (I (A + 1) 45) (I (A + 1) 46) (nI s0) T (mV I A i)).2.1 2 = 0)) (dx * dy))))) ∧ (mrec I A Z I') ∧ (∀ i, i < dx * dy → mvO (I' (A + 1)) (50 + 12 * i) = (foll Y R (I (A + 1) 45) (I (A + 1) 46) (nI s0) T (mV I A i)).2 ∧ pOk (mvO (I' (A + 1)) (50 + 12 * i))) ∧ (∀ j, j < 50 → I' (A + 1) j = I (A + 1) j) ∧ (∀ q, q ≠ A → q ≠ A + 1 → q ≠ A + 2 → I' q = I q) ∧ (∀ j, j ≠ 2 → I' A j = I A j) ∧ (∀ q, (q < A ∨ A + 14 ≤ q) → L' q = L q)))) args s 0 0 (fun a => z ≤ a)) 0 0 n G Im Lm 20 [(0, .ref A), (1, .int (nI T)), (2, .int (nI k))] [] := by
    intro fuel
    induction fuel with
    | zero =>
      intro k Im Lm hk hf2 hdn hnx hM1 hM2 hML
      exact absurd hf2 (by omega)
    | succ fuel ih =>
      intro k Im Lm hk hf2 hdn hnx hM1 hM2 hML
      refine x_iload_n 20 C dX12_trackAll_20 rfl 2 rfl ?_
      refine x_aload_n 21 C dX12_trackAll_21 rfl 0 rfl ?_
      refine x_callVe 22 C dX12_trackAll_22 (As := []) (rest := [.int (nI k)]) [.int (nI (dx * dy)), .int (nI k)] (t_X12_paths l D z n G Im Lm A dx dy hM (by rw [hM1 40 (by decide)]; exact hdx) (by rw [hM1 41 (by decide)]; exact hdy)) mt_X12_paths km_X12_67 ki_X12_paths ks_X12_paths hM.1 ⟨by decide, rfl⟩ rfl rfl (Nat.le_of_ble_eq_true rfl) ⟨⟨by decide, by decide⟩, by decide, by decide⟩ (fun I7 L8 eI7 eL8 => ?_)
      replace eI7 := eI7.symm; subst eI7
      replace eL8 := eL8.symm; subst eL8
      refine x_icmp_ge 25 C 41 dX12_trackAll_25 (by decide) (fun c9 => ?_) (fun c9 => ?_)
      · skip
        have c9n : (dx * dy) ≤ k := (nI_leI (a := (dx * dy)) (b := k) (by omega) (by omega)).mp c9
        have c9m : ¬ (k < (dx * dy)) := by omega
        have c9o := Int32.not_lt.mpr c9
        refine x_aload_n 41 C dX12_trackAll_41 rfl 0 rfl ?_
        refine x_iconst 42 C (v := 0) dX12_trackAll_42 rfl ?_
        refine x_callVe 43 C dX12_trackAll_43 (As := [.int 0]) (rest := []) [.int (nI (cntN (fun i => decide (Im (A + 1) (50 + 12 * i + 5) = 0)) (dx * dy)))] (t_X12_many l D z n G Im Lm A 0 dx dy hM (by rw [hM1 40 (by decide)]; exact hdx) (by rw [hM1 41 (by decide)]; exact hdy) (by first | omega | assumption | decide)) mt_X12_many km_X12_207 ki_X12_many ks_X12_many hM.1 ⟨by decide, rfl⟩ rfl rfl (Nat.le_of_ble_eq_true rfl) ⟨⟨by decide, by decide⟩, by decide, by decide⟩ (fun I10 L11 eI10 eL11 => ?_)
        replace eI10 := eI10.symm; subst eI10
        replace eL11 := eL11.symm; subst eL11
        refine x_iret 46 C dX12_trackAll_46 rfl rfl (Nat.le_refl _) (xN.intro ?_)
        have hkU : k = dx * dy := by omega
        subst hkU
        exact ⟨congrArg (fun x => some (Value.int (nI x))) (cntN_cg _ (fun i hi => congrArg (fun v : xP => decide (v.1 2 = 0)) (hdn i hi).1)), mrec_congr (by rw [hM2 A (by omega)]) (hM2 _ (by omega)) hw4r0, hdn, hM1, fun q h0 h1 h2 => by rw [hM2 q h1]; exact hw4r1 q h0 h2, fun j hj => by rw [hM2 A (by omega)]; exact hw4r2 j hj, hML⟩
      · skip
        have c9n : ¬ ((dx * dy) ≤ k) := fun h => c9 ((nI_leI (a := (dx * dy)) (b := k) (by omega) (by omega)).mpr h)
        have c9m : k < (dx * dy) := by omega
        have c9o := Int32.not_le.mp c9
        refine x_aload_n 28 C dX12_trackAll_28 rfl 0 rfl ?_
        refine x_iload_n 29 C dX12_trackAll_29 rfl 2 rfl ?_
        refine x_iload_n 30 C dX12_trackAll_30 rfl 1 rfl ?_
        refine x_callVp 31 C dX12_trackAll_31 (As := [.int (nI k), .int (nI T)]) (rest := []) (t_X12_follows l D z n G Im Lm A k T s0 R Y hM (by omega) (by first | omega | assumption | decide) (by first | omega | assumption | decide) (by rw [hnx k (Nat.le_refl _) (by omega)]; exact hps k (by omega)) (cofY_congr hM1 hY) (by rw [hM1 44 (by decide)]; exact hR) (by first | omega | assumption | decide) (by rw [hM1 42 (by decide)]; exact hs0) (by first | omega | assumption | decide)) mt_X12_follows km_X12_203 ki_X12_follows ks_X12_follows hM.1 ⟨by decide, rfl⟩ rfl (Nat.le_of_ble_eq_true rfl) ⟨⟨by decide, by decide⟩, by decide, by decide⟩ (fun w12 I13 L14 hw12 => ?_)
        obtain ⟨hw12v, hw12r0, hw12r1, hw12r2, hw12r3, hw12r4⟩ := hw12
        subst hw12v
        refine x_st [.int (nI (foll Y R (Im (A + 1) 45) (Im (A + 1) 46) (nI s0) T (mvO (Im (A + 1)) (50 + 12 * k))).1)] rfl ?_
        refine x_istore_n 34 C [(3, .int (nI (foll Y R (Im (A + 1) 45) (Im (A + 1) 46) (nI s0) T (mvO (Im (A + 1)) (50 + 12 * k))).1)), (0, .ref A), (1, .int (nI T)), (2, .int (nI k))] dX12_trackAll_34 rfl (by decide) rfl ?_
        refine x_iinc 35 C [(2, .int (nI (k + 1))), (3, .int (nI (foll Y R (Im (A + 1) 45) (Im (A + 1) 46) (nI s0) T (mvO (Im (A + 1)) (50 + 12 * k))).1)), (0, .ref A), (1, .int (nI T))] dX12_trackAll_35 3 rfl (nI_add k 1) (by decide) rfl ?_
        refine x_goto 38 C 20 dX12_trackAll_38 (by decide) ?_
        refine x_sub [(0, .ref A), (1, .int (nI T)), (2, .int (nI (k + 1)))] [2, 3, 0] rfl ?_
        refine ih (k + 1) I13 L14 (by omega) (by omega) (fun i hi => ?_) (fun i h1 h2 => ?_) (fun j hj => (hw12r2 j (by omega)).trans (hM1 j hj)) (fun q hq => (hw12r3 q hq).trans (hM2 q hq)) (fun q hq => (hw12r4 q hq).trans (hML q hq))
        · by_cases hik : i = k
          · subst hik; rw [hw12r0, hnx i (Nat.le_refl _) (by omega), hM1 45 (by decide), hM1 46 (by decide)]; exact ⟨rfl, by have h := hw12r1; rw [hw12r0, hnx i (Nat.le_refl _) (by omega), hM1 45 (by decide), hM1 46 (by decide)] at h; exact h⟩
          · rw [mvO_congr (g := Im (A + 1)) (d := 50 + 12 * i) (fun j hj => hw12r2 _ (by omega))]; exact hdn i (by omega)
        · rw [← hnx i (by omega) h2]; exact mvO_congr (fun j hj => hw12r2 _ (by omega))
  refine x_sub [(0, .ref A), (1, .int (nI T)), (2, .int 0)] [1, 2, 0] rfl ?_
  exact loop20 (dx * dy + 1) 0 I5 L (by omega) (by omega) (fun i hi => absurd hi (by omega)) (fun i _ _ => by rw [h1r]; rfl) (fun j _ => by rw [h1r]) (fun _ _ => rfl) (fun _ _ => rfl)
set_option maxHeartbeats 1000000 in
set_option maxRecDepth 100000 in
theorem t_X12_trackAll_bad (l : Launch) (D : xD) (z n : Nat) (G : xG) (I : xI) (L : xL) (A : Nat) (x : Int32) (hM : shMo G A) (hbad : ¬ (1 ≤ x ∧ x ≤ 200)) : xM0 l D z yX12_trackAll cX12_trackAll 4 (some .int) 10 257 [.ref A, .int x] n G I L (xE (some (.int (-2000000001))) I L) := by
  refine xM.of (by decide) (Nat.le_of_ble_eq_true rfl) (fun p e s m args below meth c C hnm hsz => ?_)
  refine x_lv [(0, .ref A), (1, .int x)] rfl ?_
  refine x_iload_n 0 C dX12_trackAll_0 rfl 1 rfl ?_
  refine x_iconst 1 C (v := 1) dX12_trackAll_1 rfl ?_
  refine x_sipush 2 C (v := 200) dX12_trackAll_2 rfl ?_
  refine x_callSe 5 C dX12_trackAll_5 (As := [.int x, .int 1, .int 200]) (rest := []) [.int (bI (decide (1 ≤ x) && decide (x ≤ 200)))] (t_X12_in l D z n G I L x 1 200 ) mt_X12_in km_X12_71 kt_X12_in rfl rfl (Nat.le_of_ble_eq_true rfl) ⟨⟨by decide, by decide⟩, by decide, by decide⟩ (fun I1 L2 eI1 eL2 => ?_)
  replace eI1 := eI1.symm; subst eI1
  replace eL2 := eL2.symm; subst eL2
  refine x_if_ne 8 C 14 dX12_trackAll_8 (by decide) (fun c3 => absurd (in_b.mpr hbad) c3) (fun _ => ?_)
  refine x_ldc 11 C (-2000000001) dX12_trackAll_11 kk_X12_198 ?_
  refine x_iret 13 C dX12_trackAll_13 rfl rfl (Nat.le_refl _) (xN.intro ?_)
  exact ⟨rfl, rfl, rfl⟩
theorem dX12_again_0 : decode cX12_again 0 = .ok (.aload_n 0, 1) := by decide +kernel
theorem dX12_again_1 : decode cX12_again 1 = .ok (.iload_n 1, 1) := by decide +kernel
theorem dX12_again_2 : decode cX12_again 2 = .ok (.invokevirtual 195, 3) := by decide +kernel
theorem dX12_again_5 : decode cX12_again 5 = .ok (.ifCond .ne 6, 3) := by decide +kernel
theorem dX12_again_8 : decode cX12_again 8 = .ok (.ldc 198, 2) := by decide +kernel
theorem dX12_again_10 : decode cX12_again 10 = .ok (.ireturn, 1) := by decide +kernel
theorem dX12_again_11 : decode cX12_again 11 = .ok (.aload_n 0, 1) := by decide +kernel
theorem dX12_again_12 : decode cX12_again 12 = .ok (.invokevirtual 200, 3) := by decide +kernel
theorem dX12_again_15 : decode cX12_again 15 = .ok (.aload_n 0, 1) := by decide +kernel
theorem dX12_again_16 : decode cX12_again 16 = .ok (.getfield 7, 3) := by decide +kernel
theorem dX12_again_19 : decode cX12_again 19 = .ok (.iload_n 1, 1) := by decide +kernel
theorem dX12_again_20 : decode cX12_again 20 = .ok (.invokestatic 146, 3) := by decide +kernel
theorem dX12_again_23 : decode cX12_again 23 = .ok (.iconst 2, 1) := by decide +kernel
theorem dX12_again_24 : decode cX12_again 24 = .ok (.iadd, 1) := by decide +kernel
theorem dX12_again_25 : decode cX12_again 25 = .ok (.iaload, 1) := by decide +kernel
theorem dX12_again_26 : decode cX12_again 26 = .ok (.iconst 2, 1) := by decide +kernel
theorem dX12_again_27 : decode cX12_again 27 = .ok (.idiv, 1) := by decide +kernel
theorem dX12_again_28 : decode cX12_again 28 = .ok (.istore_n 2, 1) := by decide +kernel
theorem dX12_again_29 : decode cX12_again 29 = .ok (.iload_n 2, 1) := by decide +kernel
theorem dX12_again_30 : decode cX12_again 30 = .ok (.iconst 1, 1) := by decide +kernel
theorem dX12_again_31 : decode cX12_again 31 = .ok (.if_icmp .ge 7, 3) := by decide +kernel
theorem dX12_again_34 : decode cX12_again 34 = .ok (.iconst 1, 1) := by decide +kernel
theorem dX12_again_35 : decode cX12_again 35 = .ok (.goto 4, 3) := by decide +kernel
theorem dX12_again_38 : decode cX12_again 38 = .ok (.iload_n 2, 1) := by decide +kernel
theorem dX12_again_39 : decode cX12_again 39 = .ok (.istore_n 3, 1) := by decide +kernel
theorem dX12_again_40 : decode cX12_again 40 = .ok (.aload_n 0, 1) := by decide +kernel
theorem dX12_again_41 : decode cX12_again 41 = .ok (.iload_n 1, 1) := by decide +kernel
theorem dX12_again_42 : decode cX12_again 42 = .ok (.iload_n 3, 1) := by decide +kernel
theorem dX12_again_43 : decode cX12_again 43 = .ok (.invokevirtual 152, 3) := by decide +kernel
theorem dX12_again_46 : decode cX12_again 46 = .ok (.iload_n 3, 1) := by decide +kernel
theorem dX12_again_47 : decode cX12_again 47 = .ok (.ireturn, 1) := by decide +kernel
set_option maxHeartbeats 1000000 in
set_option maxRecDepth 100000 in
theorem t_X12_again (l : Launch) (D : xD) (z n : Nat) (G : xG) (I : xI) (L : xL) (A : Nat) (k : Nat) (gN : Nat) (dx : Nat) (dy : Nat) (Z : Nat) (hM : shMo G A) (zA : z ≤ A) (hdx : I (A + 1) 40 = nI dx) (hdy : I (A + 1) 41 = nI dy) (hd3 : dx * dy ≤ 9) (hd1 : 1 ≤ dy) (hd0 : 1 ≤ dx) (hku : k < dx * dy) (hg2 : I (A + 1) (50 + 12 * k + 2) = nI gN) (hgl : gN ≤ 256) (hZ : I A 2 = nI Z) (hZ4 : Z ≤ 4) : xM0 l D z yX12_again cX12_again 4 (some .int) 4 93 [.ref A, .int (nI k)] n G I L (fun v' I' L' => v' = (some (.int (nI (max (gN / 2) 1)))) ∧ (mrec I A Z I') ∧ (mvO (I' (A + 1)) (50 + 12 * k) = mBg dx dy (I (A + 1) 42) (nI (max (gN / 2) 1)) k) ∧ (∀ j, (j < 50 + 12 * k ∨ 62 + 12 * k ≤ j) → I' (A + 1) j = I (A + 1) j) ∧ (∀ q, q ≠ A → q ≠ A + 1 → q ≠ A + 2 → I' q = I q) ∧ (∀ j, j ≠ 2 → I' A j = I A j) ∧ (∀ q, q ≠ A → L' q = L q)) := by
  refine xM.of (by decide) (Nat.le_of_ble_eq_true rfl) (fun p e s m args below meth c C hnm hsz => ?_)
  refine x_lv [(0, .ref A), (1, .int (nI k))] rfl ?_
  have hk : k < 9 := by omega
  refine x_aload_n 0 C dX12_again_0 rfl 0 rfl ?_
  refine x_iload_n 1 C dX12_again_1 rfl 1 rfl ?_
  refine x_callVe 2 C dX12_again_2 (As := [.int (nI k)]) (rest := []) [.int (bI (decide (0 ≤ (nI k)) && decide ((nI k) < nI (dx * dy))))] (t_X12_isPath l D z n G I L A dx dy (nI k) hM hdx hdy (by omega) hd3) mt_X12_isPath km_X12_195 ki_X12_isPath ks_X12_isPath hM.1 ⟨by decide, rfl⟩ rfl rfl (Nat.le_of_ble_eq_true rfl) ⟨⟨by decide, by decide⟩, by decide, by decide⟩ (fun I1 L2 eI1 eL2 => ?_)
  replace eI1 := eI1.symm; subst eI1
  replace eL2 := eL2.symm; subst eL2
  refine x_if_ne 5 C 11 dX12_again_5 (by decide) (fun _ => ?_) (fun c3 => absurd c3 (isP_t hku hd3))
  refine x_aload_n 11 C dX12_again_11 rfl 0 rfl ?_
  refine x_callVp 12 C dX12_again_12 (As := []) (rest := []) (t_X12_save0 l D z n G I L A Z hM (by omega) (by first | assumption | omega | decide) (by first | omega | assumption | decide)) mt_X12_save0 km_X12_200 ki_X12_save0 ks_X12_save0 hM.1 ⟨by decide, rfl⟩ rfl (Nat.le_of_ble_eq_true rfl) ⟨⟨by decide, by decide⟩, by decide, by decide⟩ (fun w4 I5 L6 hw4 => ?_)
  obtain ⟨hw4v, eL6, hw4r0, hw4r1, hw4r2⟩ := hw4
  subst hw4v
  refine x_st [] rfl ?_
  replace eL6 := eL6.symm; subst eL6
  have h1r : I5 (A + 1) = I (A + 1) := hw4r1 _ (by omega) (by omega)
  refine x_aload_n 15 C dX12_again_15 rfl 0 rfl ?_
  refine x_getr 16 C (b := A + 1) dX12_again_16 ff_X12_7 rfl hM.1 rfl ?_
  refine x_iload_n 19 C dX12_again_19 rfl 1 rfl ?_
  refine x_callSe 20 C dX12_again_20 (As := [.int (nI k)]) (rest := [.ref (A + 1)]) [.int (nI (50 + 12 * k)), .ref (A + 1)] (t_X12_pathAt l D z n G I5 L k (by first | omega | assumption | decide)) mt_X12_pathAt km_X12_146 kt_X12_pathAt rfl rfl (Nat.le_of_ble_eq_true rfl) ⟨⟨by decide, by decide⟩, by decide, by decide⟩ (fun I7 L8 eI7 eL8 => ?_)
  replace eI7 := eI7.symm; subst eI7
  replace eL8 := eL8.symm; subst eL8
  refine x_iconst 23 C (v := 2) dX12_again_23 rfl ?_
  refine x_iadd 24 C dX12_again_24 ?_
  refine x_int (nI (50 + 12 * k + 2)) (nI_add (50 + 12 * k) 2) ?_
  refine x_iald 25 C (j := (50 + 12 * k + 2)) dX12_again_25 hM.2.1 (xIx_nI (by omega) (by decide)) ?_
  refine x_int (nI gN) (by rw [h1r]; exact hg2) ?_
  refine x_iconst 26 C (v := 2) dX12_again_26 rfl ?_
  refine x_idiv 27 C dX12_again_27 (by decide) ?_
  refine x_int (nI (gN / 2)) (nI_half (by omega)) ?_
  refine x_istore_n 28 C [(2, .int (nI (gN / 2))), (0, .ref A), (1, .int (nI k))] dX12_again_28 rfl (by decide) rfl ?_
  refine x_iload_n 29 C dX12_again_29 rfl 0 rfl ?_
  refine x_iconst 30 C (v := 1) dX12_again_30 rfl ?_
  refine x_icmp_ge 31 C 38 dX12_again_31 (by decide) (fun c9 => ?_) (fun c9 => ?_)
  · skip
    have c9n : 1 ≤ (gN / 2) := (nI_leI (a := 1) (b := (gN / 2)) (by omega) (by omega)).mp c9
    have c9m : ¬ ((gN / 2) < 1) := by omega
    have c9o := Int32.not_lt.mpr c9
    refine x_iload_n 38 C dX12_again_38 rfl 0 rfl ?_
    refine x_int (nI (max (gN / 2) 1)) (by rw [show (max (gN / 2) 1) = gN / 2 by omega]) ?_
    refine x_istore_n 39 C [(3, .int (nI (max (gN / 2) 1))), (2, .int (nI (gN / 2))), (0, .ref A), (1, .int (nI k))] dX12_again_39 rfl (by decide) rfl ?_
    refine x_aload_n 40 C dX12_again_40 rfl 2 rfl ?_
    refine x_iload_n 41 C dX12_again_41 rfl 3 rfl ?_
    refine x_iload_n 42 C dX12_again_42 rfl 0 rfl ?_
    refine x_callVp 43 C dX12_again_43 (As := [.int (nI k), .int (nI (max (gN / 2) 1))]) (rest := []) (t_X12_begins l D z n G I5 L A k (nI (max (gN / 2) 1)) dx dy hM (by omega) (by first | omega | assumption | decide) (by rw [h1r]; exact hdx) (by rw [h1r]; exact hdy) (by first | omega | assumption | decide) (by first | omega | assumption | decide) (by first | omega | assumption | decide)) mt_X12_begins km_X12_152 ki_X12_begins ks_X12_begins hM.1 ⟨by decide, rfl⟩ rfl (Nat.le_of_ble_eq_true rfl) ⟨⟨by decide, by decide⟩, by decide, by decide⟩ (fun w10 I11 L12 hw10 => ?_)
    obtain ⟨hw10v, hw10r0, hw10r1, hw10r2, hw10r3⟩ := hw10
    subst hw10v
    refine x_st [] rfl ?_
    refine x_iload_n 46 C dX12_again_46 rfl 0 rfl ?_
    refine x_iret 47 C dX12_again_47 rfl rfl (Nat.le_refl _) (xN.intro ?_)
    exact ⟨rfl, mrec_congr (by rw [hw10r2 A (by omega)]) (hw10r2 _ (by omega)) hw4r0, by rw [hw10r0, h1r], fun j hj => by rw [hw10r1 j hj, h1r], fun q h0 h1 h2 => by rw [hw10r2 q h1]; exact hw4r1 q h0 h2, fun j hj => by rw [hw10r2 A (by omega)]; exact hw4r2 j hj, hw10r3⟩
  · skip
    have c9n : ¬ (1 ≤ (gN / 2)) := fun h => c9 ((nI_leI (a := 1) (b := (gN / 2)) (by omega) (by omega)).mpr h)
    have c9m : (gN / 2) < 1 := by omega
    have c9o := Int32.not_le.mp c9
    refine x_iconst 34 C (v := 1) dX12_again_34 rfl ?_
    refine x_goto 35 C 39 dX12_again_35 (by decide) ?_
    refine x_int (nI (max (gN / 2) 1)) (by rw [show (max (gN / 2) 1) = 1 by omega]; rfl) ?_
    refine x_istore_n 39 C [(3, .int (nI (max (gN / 2) 1))), (2, .int (nI (gN / 2))), (0, .ref A), (1, .int (nI k))] dX12_again_39 rfl (by decide) rfl ?_
    refine x_aload_n 40 C dX12_again_40 rfl 2 rfl ?_
    refine x_iload_n 41 C dX12_again_41 rfl 3 rfl ?_
    refine x_iload_n 42 C dX12_again_42 rfl 0 rfl ?_
    refine x_callVp 43 C dX12_again_43 (As := [.int (nI k), .int (nI (max (gN / 2) 1))]) (rest := []) (t_X12_begins l D z n G I5 L A k (nI (max (gN / 2) 1)) dx dy hM (by omega) (by first | omega | assumption | decide) (by rw [h1r]; exact hdx) (by rw [h1r]; exact hdy) (by first | omega | assumption | decide) (by first | omega | assumption | decide) (by first | omega | assumption | decide)) mt_X12_begins km_X12_152 ki_X12_begins ks_X12_begins hM.1 ⟨by decide, rfl⟩ rfl (Nat.le_of_ble_eq_true rfl) ⟨⟨by decide, by decide⟩, by decide, by decide⟩ (fun w13 I14 L15 hw13 => ?_)
    obtain ⟨hw13v, hw13r0, hw13r1, hw13r2, hw13r3⟩ := hw13
    subst hw13v
    refine x_st [] rfl ?_
    refine x_iload_n 46 C dX12_again_46 rfl 0 rfl ?_
    refine x_iret 47 C dX12_again_47 rfl rfl (Nat.le_refl _) (xN.intro ?_)
    exact ⟨rfl, mrec_congr (by rw [hw13r2 A (by omega)]) (hw13r2 _ (by omega)) hw4r0, by rw [hw13r0, h1r], fun j hj => by rw [hw13r1 j hj, h1r], fun q h0 h1 h2 => by rw [hw13r2 q h1]; exact hw4r1 q h0 h2, fun j hj => by rw [hw13r2 A (by omega)]; exact hw4r2 j hj, hw13r3⟩
set_option maxHeartbeats 1000000 in
set_option maxRecDepth 100000 in
theorem t_X12_again_bad (l : Launch) (D : xD) (z n : Nat) (G : xG) (I : xI) (L : xL) (A : Nat) (x : Int32) (dx : Nat) (dy : Nat) (hM : shMo G A) (hdx : I (A + 1) 40 = nI dx) (hdy : I (A + 1) 41 = nI dy) (hd3 : dx * dy ≤ 9) (h1U : 1 ≤ dx * dy) (hno : (decide (0 ≤ x) && decide (x < nI (dx * dy))) = false) : xM0 l D z yX12_again cX12_again 4 (some .int) 4 93 [.ref A, .int x] n G I L (xE (some (.int (-2000000001))) I L) := by
  refine xM.of (by decide) (Nat.le_of_ble_eq_true rfl) (fun p e s m args below meth c C hnm hsz => ?_)
  refine x_lv [(0, .ref A), (1, .int x)] rfl ?_
  refine x_aload_n 0 C dX12_again_0 rfl 0 rfl ?_
  refine x_iload_n 1 C dX12_again_1 rfl 1 rfl ?_
  refine x_callVe 2 C dX12_again_2 (As := [.int x]) (rest := []) [.int (bI (decide (0 ≤ x) && decide (x < nI (dx * dy))))] (t_X12_isPath l D z n G I L A dx dy x hM hdx hdy (by omega) hd3) mt_X12_isPath km_X12_195 ki_X12_isPath ks_X12_isPath hM.1 ⟨by decide, rfl⟩ rfl rfl (Nat.le_of_ble_eq_true rfl) ⟨⟨by decide, by decide⟩, by decide, by decide⟩ (fun I1 L2 eI1 eL2 => ?_)
  replace eI1 := eI1.symm; subst eI1
  replace eL2 := eL2.symm; subst eL2
  refine x_if_ne 5 C 11 dX12_again_5 (by decide) (fun c3 => absurd (bI_0.mpr hno) c3) (fun _ => ?_)
  refine x_ldc 8 C (-2000000001) dX12_again_8 kk_X12_198 ?_
  refine x_iret 10 C dX12_again_10 rfl rfl (Nat.le_refl _) (xN.intro ?_)
  exact ⟨rfl, rfl, rfl⟩
