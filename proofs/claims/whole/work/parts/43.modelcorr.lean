/-! The Model: predictor and corrector -/
theorem mRp_1 {L : xL} {a j : Nat} {c : xC} (h : mRp L a j = c) : L a j = c.1 ∧ L a (j + 1) = c.2 := ⟨congrArg Prod.fst h, congrArg Prod.snd h⟩
theorem coS_1 {Y : xSy} {P : Nat} {u : Int64} {a b : xC} (h : sizC (coU Y P u a b) ≤ sizC (coV Y P u a b)) : sizC (coV Y P u a b) = coS Y P u a b := by
  unfold coS lmax; rw [if_neg (Int64.not_lt.mpr h)]
theorem coS_2 {Y : xSy} {P : Nat} {u : Int64} {a b : xC} (h : ¬ sizC (coU Y P u a b) ≤ sizC (coV Y P u a b)) : sizC (coU Y P u a b) = coS Y P u a b := by
  unfold coS lmax; rw [if_pos (Int64.not_le.mp h)]
theorem pd_of {L1 Lk : xL} {A : Nat} {Y : xSy} {P h : Nat} {x y : xC} {u : Int64} (hh : h ≤ 1024) (hO : mSysO L1 A Y P x y u) (hk : ∀ j, j < 4 → Lk (A + 11) j = held (L1 (A + 9) j - L1 (A + 8) j) * (nI h).toInt64 / 1024) : mRp Lk (A + 11) 0 = pdR0 Y (nI h) u x y ∧ mRp Lk (A + 11) 2 = pdR1 Y (nI h) u x y := by
  constructor
  · unfold mRp pdR0
    rw [sha_of hh (show hC (subC (syB0 Y evV x y u) (syE0 Y evV x y u)) = _ from hC_2 _), hk _ (by decide), hk _ (by decide), (mRp_1 hO.1.1).1, (mRp_1 hO.1.1).2, (mRp_1 hO.2.1.1).1, (mRp_1 hO.2.1.1).2]; rfl
  · unfold mRp pdR1
    rw [sha_of hh (show hC (subC (syB1 Y evV x y u) (syE1 Y evV x y u)) = _ from hC_2 _), hk _ (by decide), hk _ (by decide), (mRp_1 hO.1.2).1, (mRp_1 hO.1.2).2, (mRp_1 hO.2.1.2).1, (mRp_1 hO.2.1.2).2]; rfl
theorem co_of {L1 Lk : xL} {A : Nat} {Y : xSy} {P : Nat} {x y : xC} {u : Int64} (hO : mSysO L1 A Y P x y u) (hk : ∀ j, j < 4 → Lk (A + 11) j = held (-(L1 (A + 10) j))) : mRp Lk (A + 11) 0 = negC (syM0 Y P evV x y u) ∧ mRp Lk (A + 11) 2 = negC (syM1 Y P evV x y u) := by
  constructor
  · unfold mRp negC
    rw [hk _ (by decide), hk _ (by decide), (mRp_1 hO.2.2.1).1, (mRp_1 hO.2.2.1).2]; rfl
  · unfold mRp negC
    rw [hk _ (by decide), hk _ (by decide), (mRp_1 hO.2.2.2.1).1, (mRp_1 hO.2.2.2.1).2]; rfl
/-- the ten values of a solve by the system's short names -/
theorem sol_of {L1 Lk : xL} {A : Nat} {Y : xSy} {P : Nat} {x y : xC} {u : Int64} (hO : mSysO L1 A Y P x y u) (h10 : Lk (A + 10) = L1 (A + 10)) : mRp Lk (A + 10) 4 = syM0 Y P evX x y u ∧ mRp Lk (A + 10) 8 = syM0 Y P evY x y u ∧ mRp Lk (A + 10) 6 = syM1 Y P evX x y u ∧ mRp Lk (A + 10) 10 = syM1 Y P evY x y u :=
  ⟨(mRp_congr h10).trans hO.2.2.2.2.1, (mRp_congr h10).trans hO.2.2.2.2.2.2.1, (mRp_congr h10).trans hO.2.2.2.2.2.1, (mRp_congr h10).trans hO.2.2.2.2.2.2.2⟩
theorem dX12_predicts_0 : decode cX12_predicts 0 = .ok (.aload_n 0, 1) := by decide +kernel
theorem dX12_predicts_1 : decode cX12_predicts 1 = .ok (.iload_n 1, 1) := by decide +kernel
theorem dX12_predicts_2 : decode cX12_predicts 2 = .ok (.invokevirtual 155, 3) := by decide +kernel
theorem dX12_predicts_5 : decode cX12_predicts 5 = .ok (.iconst 0, 1) := by decide +kernel
theorem dX12_predicts_6 : decode cX12_predicts 6 = .ok (.istore_n 3, 1) := by decide +kernel
theorem dX12_predicts_7 : decode cX12_predicts 7 = .ok (.iload_n 3, 1) := by decide +kernel
theorem dX12_predicts_8 : decode cX12_predicts 8 = .ok (.iconst 4, 1) := by decide +kernel
theorem dX12_predicts_9 : decode cX12_predicts 9 = .ok (.if_icmp .ge 38, 3) := by decide +kernel
theorem dX12_predicts_12 : decode cX12_predicts 12 = .ok (.aload_n 0, 1) := by decide +kernel
theorem dX12_predicts_13 : decode cX12_predicts 13 = .ok (.getfield 48, 3) := by decide +kernel
theorem dX12_predicts_16 : decode cX12_predicts 16 = .ok (.iload_n 3, 1) := by decide +kernel
theorem dX12_predicts_17 : decode cX12_predicts 17 = .ok (.aload_n 0, 1) := by decide +kernel
theorem dX12_predicts_18 : decode cX12_predicts 18 = .ok (.getfield 42, 3) := by decide +kernel
theorem dX12_predicts_21 : decode cX12_predicts 21 = .ok (.iload_n 3, 1) := by decide +kernel
theorem dX12_predicts_22 : decode cX12_predicts 22 = .ok (.laload, 1) := by decide +kernel
theorem dX12_predicts_23 : decode cX12_predicts 23 = .ok (.aload_n 0, 1) := by decide +kernel
theorem dX12_predicts_24 : decode cX12_predicts 24 = .ok (.getfield 39, 3) := by decide +kernel
theorem dX12_predicts_27 : decode cX12_predicts 27 = .ok (.iload_n 3, 1) := by decide +kernel
theorem dX12_predicts_28 : decode cX12_predicts 28 = .ok (.laload, 1) := by decide +kernel
theorem dX12_predicts_29 : decode cX12_predicts 29 = .ok (.lsub, 1) := by decide +kernel
theorem dX12_predicts_30 : decode cX12_predicts 30 = .ok (.invokestatic 83, 3) := by decide +kernel
theorem dX12_predicts_33 : decode cX12_predicts 33 = .ok (.iload_n 2, 1) := by decide +kernel
theorem dX12_predicts_34 : decode cX12_predicts 34 = .ok (.i2l, 1) := by decide +kernel
theorem dX12_predicts_35 : decode cX12_predicts 35 = .ok (.lmul, 1) := by decide +kernel
theorem dX12_predicts_36 : decode cX12_predicts 36 = .ok (.ldc2_w 26, 3) := by decide +kernel
theorem dX12_predicts_39 : decode cX12_predicts 39 = .ok (.ldiv, 1) := by decide +kernel
theorem dX12_predicts_40 : decode cX12_predicts 40 = .ok (.lastore, 1) := by decide +kernel
theorem dX12_predicts_41 : decode cX12_predicts 41 = .ok (.iinc 3 1, 3) := by decide +kernel
theorem dX12_predicts_44 : decode cX12_predicts 44 = .ok (.goto (-37), 3) := by decide +kernel
theorem dX12_predicts_47 : decode cX12_predicts 47 = .ok (.aload_n 0, 1) := by decide +kernel
theorem dX12_predicts_48 : decode cX12_predicts 48 = .ok (.invokevirtual 159, 3) := by decide +kernel
theorem dX12_predicts_51 : decode cX12_predicts 51 = .ok (.istore_n 3, 1) := by decide +kernel
theorem dX12_predicts_52 : decode cX12_predicts 52 = .ok (.iload_n 3, 1) := by decide +kernel
theorem dX12_predicts_53 : decode cX12_predicts 53 = .ok (.ifCond .eq 7, 3) := by decide +kernel
theorem dX12_predicts_56 : decode cX12_predicts 56 = .ok (.aload_n 0, 1) := by decide +kernel
theorem dX12_predicts_57 : decode cX12_predicts 57 = .ok (.invokevirtual 163, 3) := by decide +kernel
theorem dX12_predicts_60 : decode cX12_predicts 60 = .ok (.iload_n 3, 1) := by decide +kernel
theorem dX12_predicts_61 : decode cX12_predicts 61 = .ok (.ireturn, 1) := by decide +kernel
set_option maxHeartbeats 1000000 in
set_option maxRecDepth 100000 in
theorem t_X12_predicts (l : Launch) (D : xD) (z n : Nat) (G : xG) (I : xI) (L : xL) (A : Nat) (P : Nat) (h : Nat) (u : Int64) (Y : xSy) (hM : shMo G A) (zA : z ≤ A) (hP : P ≤ 1024) (hh : h ≤ 1024) (hu9 : L A 9 = u) (hu : ¬ u = 0) (hY : cofY I A Y) (hx7 : hC (mRp L (A + 7) 0) = (mRp L (A + 7) 0)) (hy7 : hC (mRp L (A + 7) 2) = (mRp L (A + 7) 2)) : xM0 l D z yX12_predicts cX12_predicts 4 (some .boolean) 7 180 [.ref A, .int (nI P), .int (nI h)] n G I L (fun v' I' L' => v' = (some (.int (if syN Y P u (mRp L (A + 7) 0) (mRp L (A + 7) 2) = 0 then 0 else 1))) ∧ I' = I ∧ (mRp L' (A + 7) 0 = if syN Y P u (mRp L (A + 7) 0) (mRp L (A + 7) 2) = 0 then (mRp L (A + 7) 0) else pdX Y P (nI h) u (mRp L (A + 7) 0) (mRp L (A + 7) 2)) ∧ (mRp L' (A + 7) 2 = if syN Y P u (mRp L (A + 7) 0) (mRp L (A + 7) 2) = 0 then (mRp L (A + 7) 2) else pdY Y P (nI h) u (mRp L (A + 7) 0) (mRp L (A + 7) 2)) ∧ (∀ q, (q < A ∨ A + 14 ≤ q) → L' q = L q) ∧ (∀ j, j ≠ 7 → j ≠ 8 → L' A j = L A j)) := by
  refine xM.of (by decide) (Nat.le_of_ble_eq_true rfl) (fun p e s m args below meth c C hnm hsz => ?_)
  refine x_lv [(0, .ref A), (1, .int (nI P)), (2, .int (nI h))] rfl ?_
  refine x_aload_n 0 C dX12_predicts_0 rfl 0 rfl ?_
  refine x_iload_n 1 C dX12_predicts_1 rfl 1 rfl ?_
  refine x_callVp 2 C dX12_predicts_2 (As := [.int (nI P)]) (rest := []) (t_X12_laySystem l D z n G I L A P u Y hM (by omega) (by first | omega | assumption | decide) (by first | assumption | omega | decide) (by first | assumption | omega | decide) (by first | assumption | omega | decide) (by first | assumption | omega | decide) (by first | assumption | omega | decide)) mt_X12_laySystem km_X12_155 ki_X12_laySystem ks_X12_laySystem hM.1 ⟨by decide, rfl⟩ rfl (Nat.le_of_ble_eq_true rfl) ⟨⟨by decide, by decide⟩, by decide, by decide⟩ (fun w1 I2 L3 hw1 => ?_)
  obtain ⟨hw1v, eI2, hw1r0, hw1r1, hw1r2⟩ := hw1
  subst hw1v
  refine x_st [] rfl ?_
  replace eI2 := eI2.symm; subst eI2
  refine x_iconst 5 C (v := 0) dX12_predicts_5 rfl ?_
  refine x_istore_n 6 C [(3, .int 0), (0, .ref A), (1, .int (nI P)), (2, .int (nI h))] dX12_predicts_6 rfl (by decide) rfl ?_
  have loop7 : ∀ (fuel : Nat) (k : Nat) (Lk : xL), (k ≤ 4) → (5 ≤ k + fuel) → (∀ j, j < k → Lk (A + 11) j = held (L3 (A + 9) j - L3 (A + 8) j) * (nI h).toInt64 / 1024) → (∀ q, q ≠ A + 11 → Lk q = L3 q) → X p l e (xRm 7 180 0 0) s m args below meth c D z 4 (MQ below (xQc D z n (xN n G (fun v' I' L' => v' = (some (.int (if syN Y P u (mRp L (A + 7) 0) (mRp L (A + 7) 2) = 0 then 0 else 1))) ∧ I' = I ∧ (mRp L' (A + 7) 0 = if syN Y P u (mRp L (A + 7) 0) (mRp L (A + 7) 2) = 0 then (mRp L (A + 7) 0) else pdX Y P (nI h) u (mRp L (A + 7) 0) (mRp L (A + 7) 2)) ∧ (mRp L' (A + 7) 2 = if syN Y P u (mRp L (A + 7) 0) (mRp L (A + 7) 2) = 0 then (mRp L (A + 7) 2) else pdY Y P (nI h) u (mRp L (A + 7) 0) (mRp L (A + 7) 2)) ∧ (∀ q, (q < A ∨ A + 14 ≤ q) → L' q = L q) ∧ (∀ j, j ≠ 7 → j ≠ 8 → L' A j = L A j)))) args s 0 0 (fun a => z ≤ a)) 0 0 n G I Lk 7 [(0, .ref A), (1, .int (nI P)), (2, .int (nI h)), (3, .int (nI k))] [] := by
    intro fuel
    induction fuel with
    | zero =>
      intro k Lk hk hf h11 hr
      exact absurd hf (by omega)
    | succ fuel ih =>
      intro k Lk hk hf h11 hr
      refine x_iload_n 7 C dX12_predicts_7 rfl 3 rfl ?_
      refine x_iconst 8 C (v := 4) dX12_predicts_8 rfl ?_
      refine x_icmp_ge 9 C 47 dX12_predicts_9 (by decide) (fun c4 => ?_) (fun c4 => ?_)
      · skip
        have c4n : 4 ≤ k := (nI_leI (a := 4) (b := k) (by omega) (by omega)).mp c4
        have c4m : ¬ (k < 4) := by omega
        have c4o := Int32.not_lt.mpr c4
        have hk4 : k = 4 := by omega
        subst hk4
        refine x_aload_n 47 C dX12_predicts_47 rfl 0 rfl ?_
        refine x_callVp 48 C dX12_predicts_48 (As := []) (rest := []) (t_X12_solves l D z n G I Lk A u hM (by omega) (by rw [hr A (by omega), hw1r2 9 (by decide) (by decide)]; exact hu9) (by first | assumption | omega | decide)) mt_X12_solves km_X12_159 ki_X12_solves ks_X12_solves hM.1 ⟨by decide, rfl⟩ rfl (Nat.le_of_ble_eq_true rfl) ⟨⟨by decide, by decide⟩, by decide, by decide⟩ (fun w5 I6 L7 hw5 => ?_)
        obtain ⟨hw5v, eI6, hw5r0, hw5r1, hw5r2⟩ := hw5
        subst hw5v
        refine x_st [.int (if solN u (mRp Lk (A + 10) 4) (mRp Lk (A + 10) 8) (mRp Lk (A + 10) 6) (mRp Lk (A + 10) 10) = 0 then 0 else 1)] rfl ?_
        replace eI6 := eI6.symm; subst eI6
        have hso := sol_of hw1r0 (hr _ (by omega))
        have hpd := pd_of hh hw1r0 h11
        have hf5 : ∀ q, (q < A ∨ A + 14 ≤ q) → L7 q = L q := fun q hq => by rw [hw5r1 q (by omega) (by omega) (by omega), hr q (by omega)]; exact hw1r1 q (by omega) (by omega) (by omega) (by omega) (by omega)
        have hf7 : L7 (A + 7) = L (A + 7) := by rw [hw5r1 _ (by omega) (by omega) (by omega), hr _ (by omega)]; exact hw1r1 _ (by omega) (by omega) (by omega) (by omega) (by omega)
        have hj5 : ∀ j, j ≠ 7 → j ≠ 8 → L7 A j = L A j := fun j h7 h8 => by rw [hw5r2 j h7 h8, hr A (by omega)]; exact hw1r2 j h7 h8
        refine x_int (if syN Y P u (mRp L (A + 7) 0) (mRp L (A + 7) 2) = 0 then 0 else 1) (by rw [hso.1, hso.2.1, hso.2.2.1, hso.2.2.2]; rfl) ?_
        refine x_istore_n 51 C [(3, .int (if syN Y P u (mRp L (A + 7) 0) (mRp L (A + 7) 2) = 0 then 0 else 1)), (0, .ref A), (1, .int (nI P)), (2, .int (nI h))] dX12_predicts_51 rfl (by decide) rfl ?_
        refine x_iload_n 52 C dX12_predicts_52 rfl 0 rfl ?_
        refine x_if_eq 53 C 60 dX12_predicts_53 (by decide) (fun c8 => ?_) (fun c8 => ?_)
        · skip
          have hn := ite01 c8
          refine x_iload_n 60 C dX12_predicts_60 rfl 0 rfl ?_
          refine x_iret 61 C dX12_predicts_61 rfl (by split <;> rfl) (Nat.le_refl _) (xN.intro ?_)
          exact ⟨rfl, rfl, by rw [if_pos hn]; exact mRp_congr hf7, by rw [if_pos hn]; exact mRp_congr hf7, hf5, hj5⟩
        · skip
          have hn := ite01n c8
          refine x_aload_n 56 C dX12_predicts_56 rfl 1 rfl ?_
          refine x_callVp 57 C dX12_predicts_57 (As := []) (rest := []) (t_X12_goes l D z n G I L7 A hM (by omega)) mt_X12_goes km_X12_163 ki_X12_goes ks_X12_goes hM.1 ⟨by decide, rfl⟩ rfl (Nat.le_of_ble_eq_true rfl) ⟨⟨by decide, by decide⟩, by decide, by decide⟩ (fun w9 I10 L11 hw9 => ?_)
          obtain ⟨hw9v, eI10, hw9r0, hw9r1, hw9r2⟩ := hw9
          subst hw9v
          refine x_st [] rfl ?_
          replace eI10 := eI10.symm; subst eI10
          refine x_iload_n 60 C dX12_predicts_60 rfl 0 rfl ?_
          refine x_iret 61 C dX12_predicts_61 rfl (by split <;> rfl) (Nat.le_refl _) (xN.intro ?_)
          have hUV := hw5r0 (by rw [hso.1, hso.2.1, hso.2.2.1, hso.2.2.2]; exact hn)
          rw [hso.1, hso.2.1, hso.2.2.1, hso.2.2.2, hpd.1, hpd.2] at hUV
          refine ⟨rfl, rfl, ?_, ?_, fun q hq => by rw [hw9r2 q (by omega)]; exact hf5 q hq, fun j h7 h8 => by rw [hw9r2 A (by omega)]; exact hj5 j h7 h8⟩
          · rw [if_neg hn, hw9r0, mRp_congr hf7, hUV.1]; rfl
          · rw [if_neg hn, hw9r1, mRp_congr hf7, hUV.2]; rfl
      · skip
        have c4n : ¬ (4 ≤ k) := fun h => c4 ((nI_leI (a := 4) (b := k) (by omega) (by omega)).mpr h)
        have c4m : k < 4 := by omega
        have c4o := Int32.not_le.mp c4
        refine x_aload_n 12 C dX12_predicts_12 rfl 0 rfl ?_
        refine x_getr 13 C (b := A + 11) dX12_predicts_13 ff_X12_48 rfl hM.1 rfl ?_
        refine x_iload_n 16 C dX12_predicts_16 rfl 3 rfl ?_
        refine x_aload_n 17 C dX12_predicts_17 rfl 0 rfl ?_
        refine x_getr 18 C (b := A + 9) dX12_predicts_18 ff_X12_42 rfl hM.1 rfl ?_
        refine x_iload_n 21 C dX12_predicts_21 rfl 3 rfl ?_
        refine x_lald 22 C (j := k) dX12_predicts_22 hM.2.2.2.2.2.2.2.2.2.1 (xIx_nI (by omega) (by decide)) ?_
        refine x_long (L3 (A + 9) k) (by rw [hr _ (by omega)]) ?_
        refine x_aload_n 23 C dX12_predicts_23 rfl 0 rfl ?_
        refine x_getr 24 C (b := A + 8) dX12_predicts_24 ff_X12_39 rfl hM.1 rfl ?_
        refine x_iload_n 27 C dX12_predicts_27 rfl 3 rfl ?_
        refine x_lald 28 C (j := k) dX12_predicts_28 hM.2.2.2.2.2.2.2.2.1 (xIx_nI (by omega) (by decide)) ?_
        refine x_long (L3 (A + 8) k) (by rw [hr _ (by omega)]) ?_
        refine x_lsub 29 C dX12_predicts_29 ?_
        refine x_callSe 30 C dX12_predicts_30 (As := [.long ((L3 (A + 9) k) - (L3 (A + 8) k))]) (rest := [.int (nI k), .ref (A + 11)]) [.long (held ((L3 (A + 9) k) - (L3 (A + 8) k))), .int (nI k), .ref (A + 11)] (t_X12_held l D z n G I Lk ((L3 (A + 9) k) - (L3 (A + 8) k)) ) mt_X12_held km_X12_83 kt_X12_held rfl rfl (Nat.le_of_ble_eq_true rfl) ⟨⟨by decide, by decide⟩, by decide, by decide⟩ (fun I12 L13 eI12 eL13 => ?_)
        replace eI12 := eI12.symm; subst eI12
        replace eL13 := eL13.symm; subst eL13
        refine x_iload_n 33 C dX12_predicts_33 rfl 2 rfl ?_
        refine x_i2l 34 C dX12_predicts_34 ?_
        refine x_lmul 35 C dX12_predicts_35 ?_
        refine x_ldc2 36 C 1024 dX12_predicts_36 kk_X12_26 ?_
        refine x_ldiv 39 C dX12_predicts_39 (by decide) ?_
        refine x_last 40 C (j := k) dX12_predicts_40 hM.2.2.2.2.2.2.2.2.2.2.2.1 (by omega) (xIx_nI (by omega) (by decide)) (fun L14 eL14 => ?_)
        refine x_iinc 41 C [(3, .int (nI (k + 1))), (0, .ref A), (1, .int (nI P)), (2, .int (nI h))] dX12_predicts_41 3 rfl (nI_add k 1) (by decide) rfl ?_
        refine x_goto 44 C 7 dX12_predicts_44 (by decide) ?_
        refine x_sub [(0, .ref A), (1, .int (nI P)), (2, .int (nI h)), (3, .int (nI (k + 1)))] [1, 2, 3, 0] rfl ?_
        exact ih (k + 1) L14 (by omega) (by omega) (fun j hj => by rw [eL14, xup_at]; by_cases h0 : j = k; (rw [if_pos h0, h0]); (rw [if_neg h0]; exact h11 j (by omega))) (fun q hq => by rw [eL14, xup_row _ _ hq]; exact hr q hq)
  refine x_sub [(0, .ref A), (1, .int (nI P)), (2, .int (nI h)), (3, .int 0)] [1, 2, 3, 0] rfl ?_
  exact loop7 5 0 L3 (by omega) (by omega) (fun j hj => absurd hj (by omega)) (fun _ _ => rfl)
theorem dX12_corrects_0 : decode cX12_corrects 0 = .ok (.lconst 0, 1) := by decide +kernel
theorem dX12_corrects_1 : decode cX12_corrects 1 = .ok (.lstore_n 2, 1) := by decide +kernel
theorem dX12_corrects_2 : decode cX12_corrects 2 = .ok (.iconst 1, 1) := by decide +kernel
theorem dX12_corrects_3 : decode cX12_corrects 3 = .ok (.istore 4, 2) := by decide +kernel
theorem dX12_corrects_5 : decode cX12_corrects 5 = .ok (.iload 4, 2) := by decide +kernel
theorem dX12_corrects_7 : decode cX12_corrects 7 = .ok (.aload_n 0, 1) := by decide +kernel
theorem dX12_corrects_8 : decode cX12_corrects 8 = .ok (.iconst 2, 1) := by decide +kernel
theorem dX12_corrects_9 : decode cX12_corrects 9 = .ok (.invokevirtual 119, 3) := by decide +kernel
theorem dX12_corrects_12 : decode cX12_corrects 12 = .ok (.if_icmp .gt 147, 3) := by decide +kernel
theorem dX12_corrects_15 : decode cX12_corrects 15 = .ok (.aload_n 0, 1) := by decide +kernel
theorem dX12_corrects_16 : decode cX12_corrects 16 = .ok (.iload_n 1, 1) := by decide +kernel
theorem dX12_corrects_17 : decode cX12_corrects 17 = .ok (.invokevirtual 155, 3) := by decide +kernel
theorem dX12_corrects_20 : decode cX12_corrects 20 = .ok (.iconst 0, 1) := by decide +kernel
theorem dX12_corrects_21 : decode cX12_corrects 21 = .ok (.istore 5, 2) := by decide +kernel
theorem dX12_corrects_23 : decode cX12_corrects 23 = .ok (.iload 5, 2) := by decide +kernel
theorem dX12_corrects_25 : decode cX12_corrects 25 = .ok (.iconst 4, 1) := by decide +kernel
theorem dX12_corrects_26 : decode cX12_corrects 26 = .ok (.if_icmp .ge 27, 3) := by decide +kernel
theorem dX12_corrects_29 : decode cX12_corrects 29 = .ok (.aload_n 0, 1) := by decide +kernel
theorem dX12_corrects_30 : decode cX12_corrects 30 = .ok (.getfield 48, 3) := by decide +kernel
theorem dX12_corrects_33 : decode cX12_corrects 33 = .ok (.iload 5, 2) := by decide +kernel
theorem dX12_corrects_35 : decode cX12_corrects 35 = .ok (.aload_n 0, 1) := by decide +kernel
theorem dX12_corrects_36 : decode cX12_corrects 36 = .ok (.getfield 45, 3) := by decide +kernel
theorem dX12_corrects_39 : decode cX12_corrects 39 = .ok (.iload 5, 2) := by decide +kernel
theorem dX12_corrects_41 : decode cX12_corrects 41 = .ok (.laload, 1) := by decide +kernel
theorem dX12_corrects_42 : decode cX12_corrects 42 = .ok (.lneg, 1) := by decide +kernel
theorem dX12_corrects_43 : decode cX12_corrects 43 = .ok (.invokestatic 83, 3) := by decide +kernel
theorem dX12_corrects_46 : decode cX12_corrects 46 = .ok (.lastore, 1) := by decide +kernel
theorem dX12_corrects_47 : decode cX12_corrects 47 = .ok (.iinc 5 1, 3) := by decide +kernel
theorem dX12_corrects_50 : decode cX12_corrects 50 = .ok (.goto (-27), 3) := by decide +kernel
theorem dX12_corrects_53 : decode cX12_corrects 53 = .ok (.aload_n 0, 1) := by decide +kernel
theorem dX12_corrects_54 : decode cX12_corrects 54 = .ok (.invokevirtual 159, 3) := by decide +kernel
theorem dX12_corrects_57 : decode cX12_corrects 57 = .ok (.ifCond .ne 5, 3) := by decide +kernel
theorem dX12_corrects_60 : decode cX12_corrects 60 = .ok (.iconst 0, 1) := by decide +kernel
theorem dX12_corrects_61 : decode cX12_corrects 61 = .ok (.ireturn, 1) := by decide +kernel
theorem dX12_corrects_62 : decode cX12_corrects 62 = .ok (.aload_n 0, 1) := by decide +kernel
theorem dX12_corrects_63 : decode cX12_corrects 63 = .ok (.invokevirtual 163, 3) := by decide +kernel
theorem dX12_corrects_66 : decode cX12_corrects 66 = .ok (.aload_n 0, 1) := by decide +kernel
theorem dX12_corrects_67 : decode cX12_corrects 67 = .ok (.getfield 51, 3) := by decide +kernel
theorem dX12_corrects_70 : decode cX12_corrects 70 = .ok (.iconst 0, 1) := by decide +kernel
theorem dX12_corrects_71 : decode cX12_corrects 71 = .ok (.laload, 1) := by decide +kernel
theorem dX12_corrects_72 : decode cX12_corrects 72 = .ok (.aload_n 0, 1) := by decide +kernel
theorem dX12_corrects_73 : decode cX12_corrects 73 = .ok (.getfield 51, 3) := by decide +kernel
theorem dX12_corrects_76 : decode cX12_corrects 76 = .ok (.iconst 1, 1) := by decide +kernel
theorem dX12_corrects_77 : decode cX12_corrects 77 = .ok (.laload, 1) := by decide +kernel
theorem dX12_corrects_78 : decode cX12_corrects 78 = .ok (.invokestatic 166, 3) := by decide +kernel
theorem dX12_corrects_81 : decode cX12_corrects 81 = .ok (.lstore 5, 2) := by decide +kernel
theorem dX12_corrects_83 : decode cX12_corrects 83 = .ok (.aload_n 0, 1) := by decide +kernel
theorem dX12_corrects_84 : decode cX12_corrects 84 = .ok (.getfield 51, 3) := by decide +kernel
theorem dX12_corrects_87 : decode cX12_corrects 87 = .ok (.iconst 2, 1) := by decide +kernel
theorem dX12_corrects_88 : decode cX12_corrects 88 = .ok (.laload, 1) := by decide +kernel
theorem dX12_corrects_89 : decode cX12_corrects 89 = .ok (.aload_n 0, 1) := by decide +kernel
theorem dX12_corrects_90 : decode cX12_corrects 90 = .ok (.getfield 51, 3) := by decide +kernel
theorem dX12_corrects_93 : decode cX12_corrects 93 = .ok (.iconst 3, 1) := by decide +kernel
theorem dX12_corrects_94 : decode cX12_corrects 94 = .ok (.laload, 1) := by decide +kernel
theorem dX12_corrects_95 : decode cX12_corrects 95 = .ok (.invokestatic 166, 3) := by decide +kernel
theorem dX12_corrects_98 : decode cX12_corrects 98 = .ok (.lstore 7, 2) := by decide +kernel
theorem dX12_corrects_100 : decode cX12_corrects 100 = .ok (.lload 5, 2) := by decide +kernel
theorem dX12_corrects_102 : decode cX12_corrects 102 = .ok (.lload 7, 2) := by decide +kernel
theorem dX12_corrects_104 : decode cX12_corrects 104 = .ok (.lcmp, 1) := by decide +kernel
theorem dX12_corrects_105 : decode cX12_corrects 105 = .ok (.ifCond .le 8, 3) := by decide +kernel
theorem dX12_corrects_108 : decode cX12_corrects 108 = .ok (.lload 5, 2) := by decide +kernel
theorem dX12_corrects_110 : decode cX12_corrects 110 = .ok (.goto 5, 3) := by decide +kernel
theorem dX12_corrects_113 : decode cX12_corrects 113 = .ok (.lload 7, 2) := by decide +kernel
theorem dX12_corrects_115 : decode cX12_corrects 115 = .ok (.lstore 9, 2) := by decide +kernel
theorem dX12_corrects_117 : decode cX12_corrects 117 = .ok (.lload 9, 2) := by decide +kernel
theorem dX12_corrects_119 : decode cX12_corrects 119 = .ok (.aload_n 0, 1) := by decide +kernel
theorem dX12_corrects_120 : decode cX12_corrects 120 = .ok (.iconst 3, 1) := by decide +kernel
theorem dX12_corrects_121 : decode cX12_corrects 121 = .ok (.invokevirtual 119, 3) := by decide +kernel
theorem dX12_corrects_124 : decode cX12_corrects 124 = .ok (.i2l, 1) := by decide +kernel
theorem dX12_corrects_125 : decode cX12_corrects 125 = .ok (.lcmp, 1) := by decide +kernel
theorem dX12_corrects_126 : decode cX12_corrects 126 = .ok (.ifCond .gt 5, 3) := by decide +kernel
theorem dX12_corrects_129 : decode cX12_corrects 129 = .ok (.iconst 1, 1) := by decide +kernel
theorem dX12_corrects_130 : decode cX12_corrects 130 = .ok (.ireturn, 1) := by decide +kernel
theorem dX12_corrects_131 : decode cX12_corrects 131 = .ok (.iload 4, 2) := by decide +kernel
theorem dX12_corrects_133 : decode cX12_corrects 133 = .ok (.iconst 1, 1) := by decide +kernel
theorem dX12_corrects_134 : decode cX12_corrects 134 = .ok (.if_icmp .le 16, 3) := by decide +kernel
theorem dX12_corrects_137 : decode cX12_corrects 137 = .ok (.lload 9, 2) := by decide +kernel
theorem dX12_corrects_139 : decode cX12_corrects 139 = .ok (.lload_n 2, 1) := by decide +kernel
theorem dX12_corrects_140 : decode cX12_corrects 140 = .ok (.ldc2_w 144, 3) := by decide +kernel
theorem dX12_corrects_143 : decode cX12_corrects 143 = .ok (.ldiv, 1) := by decide +kernel
theorem dX12_corrects_144 : decode cX12_corrects 144 = .ok (.lcmp, 1) := by decide +kernel
theorem dX12_corrects_145 : decode cX12_corrects 145 = .ok (.ifCond .le 5, 3) := by decide +kernel
theorem dX12_corrects_148 : decode cX12_corrects 148 = .ok (.iconst 0, 1) := by decide +kernel
theorem dX12_corrects_149 : decode cX12_corrects 149 = .ok (.ireturn, 1) := by decide +kernel
theorem dX12_corrects_150 : decode cX12_corrects 150 = .ok (.lload 9, 2) := by decide +kernel
theorem dX12_corrects_152 : decode cX12_corrects 152 = .ok (.lstore_n 2, 1) := by decide +kernel
theorem dX12_corrects_153 : decode cX12_corrects 153 = .ok (.iinc 4 1, 3) := by decide +kernel
theorem dX12_corrects_156 : decode cX12_corrects 156 = .ok (.goto (-151), 3) := by decide +kernel
theorem dX12_corrects_159 : decode cX12_corrects 159 = .ok (.iconst 0, 1) := by decide +kernel
theorem dX12_corrects_160 : decode cX12_corrects 160 = .ok (.ireturn, 1) := by decide +kernel
set_option maxHeartbeats 1000000 in
set_option maxRecDepth 100000 in
theorem t_X12_corrects (l : Launch) (D : xD) (z n : Nat) (G : xG) (I : xI) (L : xL) (A : Nat) (P : Nat) (u : Int64) (Y : xSy) (R : Nat) (hM : shMo G A) (zA : z ≤ A) (hP : P ≤ 1024) (hu9 : L A 9 = u) (hu : ¬ u = 0) (hY : cofY I A Y) (hR : I (A + 1) 44 = nI R) (hR9 : R ≤ 9) (hx7 : hC (mRp L (A + 7) 0) = (mRp L (A + 7) 0)) (hy7 : hC (mRp L (A + 7) 2) = (mRp L (A + 7) 2)) : xM0 l D z yX12_corrects cX12_corrects 11 (some .boolean) 7 180 [.ref A, .int (nI P)] n G I L (fun v' I' L' => v' = (some (.int (if (coN Y P u (I (A + 1) 45) R 0 0 (mRp L (A + 7) 0) (mRp L (A + 7) 2)).isSome then 1 else 0))) ∧ I' = I ∧ (∀ c, coN Y P u (I (A + 1) 45) R 0 0 (mRp L (A + 7) 0) (mRp L (A + 7) 2) = some c → mRp L' (A + 7) 0 = c.1 ∧ mRp L' (A + 7) 2 = c.2) ∧ (∀ q, (q < A ∨ A + 14 ≤ q) → L' q = L q) ∧ (∀ j, j ≠ 7 → j ≠ 8 → L' A j = L A j)) := by
  refine xM.of (by decide) (Nat.le_of_ble_eq_true rfl) (fun p e s m args below meth c C hnm hsz => ?_)
  refine x_lv [(0, .ref A), (1, .int (nI P))] rfl ?_
  refine x_lconst 0 C (v := 0) dX12_corrects_0 rfl ?_
  refine x_lstore_n 1 C [(2, .long 0), (0, .ref A), (1, .int (nI P))] dX12_corrects_1 rfl (by decide) rfl ?_
  refine x_iconst 2 C (v := 1) dX12_corrects_2 rfl ?_
  refine x_istore 3 C [(4, .int 1), (2, .long 0), (0, .ref A), (1, .int (nI P))] dX12_corrects_3 (by decide) rfl ?_
  have loop5 : ∀ (fuel : Nat) (i : Nat) (Lk : xL) (bf : Int64), (i ≤ R) → (R + 1 ≤ i + fuel) → (coN Y P u (I (A + 1) 45) R 0 0 (mRp L (A + 7) 0) (mRp L (A + 7) 2) = coN Y P u (I (A + 1) 45) (R - i) i bf (mRp Lk (A + 7) 0) (mRp Lk (A + 7) 2)) → (∀ q, (q < A ∨ A + 14 ≤ q) → Lk q = L q) → (∀ j, j ≠ 7 → j ≠ 8 → Lk A j = L A j) → (hC (mRp Lk (A + 7) 0) = (mRp Lk (A + 7) 0)) → (hC (mRp Lk (A + 7) 2) = (mRp Lk (A + 7) 2)) → X p l e (xRm 7 180 0 0) s m args below meth c D z 11 (MQ below (xQc D z n (xN n G (fun v' I' L' => v' = (some (.int (if (coN Y P u (I (A + 1) 45) R 0 0 (mRp L (A + 7) 0) (mRp L (A + 7) 2)).isSome then 1 else 0))) ∧ I' = I ∧ (∀ c, coN Y P u (I (A + 1) 45) R 0 0 (mRp L (A + 7) 0) (mRp L (A + 7) 2) = some c → mRp L' (A + 7) 0 = c.1 ∧ mRp L' (A + 7) 2 = c.2) ∧ (∀ q, (q < A ∨ A + 14 ≤ q) → L' q = L q) ∧ (∀ j, j ≠ 7 → j ≠ 8 → L' A j = L A j)))) args s 0 0 (fun a => z ≤ a)) 0 0 n G I Lk 5 [(0, .ref A), (1, .int (nI P)), (2, .long bf), (4, .int (nI (i + 1)))] [] := by
    intro fuel
    induction fuel with
    | zero =>
      intro i Lk bf hi hf hS hfr hfj hxk hyk
      exact absurd hf (by omega)
    | succ fuel ih =>
      intro i Lk bf hi hf hS hfr hfj hxk hyk
      have ihO := ih
      have huk : Lk A 9 = u := (hfj 9 (by decide) (by decide)).trans hu9
      refine x_iload 5 C dX12_corrects_5 3 rfl ?_
      refine x_aload_n 7 C dX12_corrects_7 rfl 0 rfl ?_
      refine x_iconst 8 C (v := 2) dX12_corrects_8 rfl ?_
      refine x_callVe 9 C dX12_corrects_9 (As := [.int 2]) (rest := [.int (nI (i + 1))]) [.int (I (A + 1) (42 + 2)), .int (nI (i + 1))] (t_X12_setting l D z n G I Lk A 2 hM (by first | omega | assumption | decide)) mt_X12_setting km_X12_119 ki_X12_setting ks_X12_setting hM.1 ⟨by decide, rfl⟩ rfl rfl (Nat.le_of_ble_eq_true rfl) ⟨⟨by decide, by decide⟩, by decide, by decide⟩ (fun I1 L2 eI1 eL2 => ?_)
      replace eI1 := eI1.symm; subst eI1
      replace eL2 := eL2.symm; subst eL2
      refine x_int (nI R) hR ?_
      refine x_icmp_gt 12 C 159 dX12_corrects_12 (by decide) (fun c3 => ?_) (fun c3 => ?_)
      · skip
        have c3n : R < (i + 1) := (nI_ltI (a := R) (b := (i + 1)) (by omega) (by omega)).mp c3
        have c3m : ¬ ((i + 1) ≤ R) := by omega
        have c3o := Int32.not_le.mpr c3
        refine x_iconst 159 C (v := 0) dX12_corrects_159 rfl ?_
        refine x_iret 160 C dX12_corrects_160 rfl rfl (Nat.le_refl _) (xN.intro ?_)
        have hz : coN Y P u (I (A + 1) 45) R 0 0 (mRp L (A + 7) 0) (mRp L (A + 7) 2) = none := by rw [hS, show R - i = 0 by omega]; rfl
        exact ⟨by rw [hz]; rfl, rfl, fun c h => absurd (hz.symm.trans h) (by simp), hfr, hfj⟩
      · skip
        have c3n : ¬ (R < (i + 1)) := fun h => c3 ((nI_ltI (a := R) (b := (i + 1)) (by omega) (by omega)).mpr h)
        have c3m : (i + 1) ≤ R := by omega
        have c3o := Int32.not_lt.mp c3
        refine x_aload_n 15 C dX12_corrects_15 rfl 0 rfl ?_
        refine x_iload_n 16 C dX12_corrects_16 rfl 1 rfl ?_
        refine x_callVp 17 C dX12_corrects_17 (As := [.int (nI P)]) (rest := []) (t_X12_laySystem l D z n G I Lk A P u Y hM (by omega) (by first | omega | assumption | decide) huk (by first | assumption | omega | decide) (by first | assumption | omega | decide) hxk hyk) mt_X12_laySystem km_X12_155 ki_X12_laySystem ks_X12_laySystem hM.1 ⟨by decide, rfl⟩ rfl (Nat.le_of_ble_eq_true rfl) ⟨⟨by decide, by decide⟩, by decide, by decide⟩ (fun w4 I5 L6 hw4 => ?_)
        obtain ⟨hw4v, eI5, hw4r0, hw4r1, hw4r2⟩ := hw4
        subst hw4v
        refine x_st [] rfl ?_
        replace eI5 := eI5.symm; subst eI5
        refine x_iconst 20 C (v := 0) dX12_corrects_20 rfl ?_
        refine x_istore 21 C [(5, .int 0), (0, .ref A), (1, .int (nI P)), (2, .long bf), (4, .int (nI (i + 1)))] dX12_corrects_21 (by decide) rfl ?_
        have loop23 : ∀ (fuel : Nat) (k : Nat) (Lm : xL), (k ≤ 4) → (5 ≤ k + fuel) → (∀ j, j < k → Lm (A + 11) j = held (-(L6 (A + 10) j))) → (∀ q, q ≠ A + 11 → Lm q = L6 q) → X p l e (xRm 7 180 0 0) s m args below meth c D z 11 (MQ below (xQc D z n (xN n G (fun v' I' L' => v' = (some (.int (if (coN Y P u (I (A + 1) 45) R 0 0 (mRp L (A + 7) 0) (mRp L (A + 7) 2)).isSome then 1 else 0))) ∧ I' = I ∧ (∀ c, coN Y P u (I (A + 1) 45) R 0 0 (mRp L (A + 7) 0) (mRp L (A + 7) 2) = some c → mRp L' (A + 7) 0 = c.1 ∧ mRp L' (A + 7) 2 = c.2) ∧ (∀ q, (q < A ∨ A + 14 ≤ q) → L' q = L q) ∧ (∀ j, j ≠ 7 → j ≠ 8 → L' A j = L A j)))) args s 0 0 (fun a => z ≤ a)) 0 0 n G I Lm 23 [(0, .ref A), (1, .int (nI P)), (2, .long bf), (4, .int (nI (i + 1))), (5, .int (nI k))] [] := by
          intro fuel
          induction fuel with
          | zero =>
            intro k Lm hk hf2 h11 hr
            exact absurd hf2 (by omega)
          | succ fuel ih =>
            intro k Lm hk hf2 h11 hr
            refine x_iload 23 C dX12_corrects_23 4 rfl ?_
            refine x_iconst 25 C (v := 4) dX12_corrects_25 rfl ?_
            refine x_icmp_ge 26 C 53 dX12_corrects_26 (by decide) (fun c7 => ?_) (fun c7 => ?_)
            · skip
              have c7n : 4 ≤ k := (nI_leI (a := 4) (b := k) (by omega) (by omega)).mp c7
              have c7m : ¬ (k < 4) := by omega
              have c7o := Int32.not_lt.mpr c7
              have hk4 : k = 4 := by omega
              subst hk4
              refine x_aload_n 53 C dX12_corrects_53 rfl 0 rfl ?_
              refine x_callVp 54 C dX12_corrects_54 (As := []) (rest := []) (t_X12_solves l D z n G I Lm A u hM (by omega) (by rw [hr A (by omega), hw4r2 9 (by decide) (by decide)]; exact huk) (by first | assumption | omega | decide)) mt_X12_solves km_X12_159 ki_X12_solves ks_X12_solves hM.1 ⟨by decide, rfl⟩ rfl (Nat.le_of_ble_eq_true rfl) ⟨⟨by decide, by decide⟩, by decide, by decide⟩ (fun w8 I9 L10 hw8 => ?_)
              obtain ⟨hw8v, eI9, hw8r0, hw8r1, hw8r2⟩ := hw8
              subst hw8v
              refine x_st [.int (if solN u (mRp Lm (A + 10) 4) (mRp Lm (A + 10) 8) (mRp Lm (A + 10) 6) (mRp Lm (A + 10) 10) = 0 then 0 else 1)] rfl ?_
              replace eI9 := eI9.symm; subst eI9
              have hso := sol_of hw4r0 (hr _ (by omega))
              have hco := co_of hw4r0 h11
              have hf5 : ∀ q, (q < A ∨ A + 14 ≤ q) → L10 q = L q := fun q hq => by rw [hw8r1 q (by omega) (by omega) (by omega), hr q (by omega), hw4r1 q (by omega) (by omega) (by omega) (by omega) (by omega)]; exact hfr q hq
              have hf7 : L10 (A + 7) = Lk (A + 7) := by rw [hw8r1 _ (by omega) (by omega) (by omega), hr _ (by omega)]; exact hw4r1 _ (by omega) (by omega) (by omega) (by omega) (by omega)
              have hj5 : ∀ j, j ≠ 7 → j ≠ 8 → L10 A j = L A j := fun j h7 h8 => by rw [hw8r2 j h7 h8, hr A (by omega), hw4r2 j h7 h8]; exact hfj j h7 h8
              refine x_int (if syN Y P u (mRp Lk (A + 7) 0) (mRp Lk (A + 7) 2) = 0 then 0 else 1) (by rw [hso.1, hso.2.1, hso.2.2.1, hso.2.2.2]; rfl) ?_
              refine x_if_ne 57 C 62 dX12_corrects_57 (by decide) (fun c11 => ?_) (fun c11 => ?_)
              · skip
                have hn := ite01n c11
                have hn2 : ¬ syN Y P u (mRp Lk (A + 7) 0) (mRp Lk (A + 7) 2) = 0 := hn
                refine x_aload_n 62 C dX12_corrects_62 rfl 0 rfl ?_
                refine x_callVp 63 C dX12_corrects_63 (As := []) (rest := []) (t_X12_goes l D z n G I L10 A hM (by omega)) mt_X12_goes km_X12_163 ki_X12_goes ks_X12_goes hM.1 ⟨by decide, rfl⟩ rfl (Nat.le_of_ble_eq_true rfl) ⟨⟨by decide, by decide⟩, by decide, by decide⟩ (fun w12 I13 L14 hw12 => ?_)
                obtain ⟨hw12v, eI13, hw12r0, hw12r1, hw12r2⟩ := hw12
                subst hw12v
                refine x_st [] rfl ?_
                replace eI13 := eI13.symm; subst eI13
                have hUV := hw8r0 (by rw [hso.1, hso.2.1, hso.2.2.1, hso.2.2.2]; exact hn)
                rw [hso.1, hso.2.1, hso.2.2.1, hso.2.2.2, hco.1, hco.2] at hUV
                have hU : mRp L14 (A + 12) 0 = (coU Y P u (mRp Lk (A + 7) 0) (mRp Lk (A + 7) 2)) := (mRp_congr (hw12r2 _ (by omega))).trans hUV.1
                have hV : mRp L14 (A + 12) 2 = (coV Y P u (mRp Lk (A + 7) 0) (mRp Lk (A + 7) 2)) := (mRp_congr (hw12r2 _ (by omega))).trans hUV.2
                have hX6 : mRp L14 (A + 7) 0 = addC (mRp Lk (A + 7) 0) (coU Y P u (mRp Lk (A + 7) 0) (mRp Lk (A + 7) 2)) := by rw [hw12r0, mRp_congr hf7, hUV.1]; rfl
                have hY6 : mRp L14 (A + 7) 2 = addC (mRp Lk (A + 7) 2) (coV Y P u (mRp Lk (A + 7) 0) (mRp Lk (A + 7) 2)) := by rw [hw12r1, mRp_congr hf7, hUV.2]; rfl
                have hf6 : ∀ q, (q < A ∨ A + 14 ≤ q) → L14 q = L q := fun q hq => by rw [hw12r2 q (by omega)]; exact hf5 q hq
                have hj6 : ∀ j, j ≠ 7 → j ≠ 8 → L14 A j = L A j := fun j h7 h8 => by rw [hw12r2 A (by omega)]; exact hj5 j h7 h8
                refine x_aload_n 66 C dX12_corrects_66 rfl 0 rfl ?_
                refine x_getr 67 C (b := A + 12) dX12_corrects_67 ff_X12_51 rfl hM.1 rfl ?_
                refine x_iconst 70 C (v := 0) dX12_corrects_70 rfl ?_
                refine x_lald 71 C (j := 0) dX12_corrects_71 hM.2.2.2.2.2.2.2.2.2.2.2.2.1 ⟨by decide, by decide, by decide⟩ ?_
                refine x_long ((coU Y P u (mRp Lk (A + 7) 0) (mRp Lk (A + 7) 2)).1) (mRp_1 hU).1 ?_
                refine x_aload_n 72 C dX12_corrects_72 rfl 0 rfl ?_
                refine x_getr 73 C (b := A + 12) dX12_corrects_73 ff_X12_51 rfl hM.1 rfl ?_
                refine x_iconst 76 C (v := 1) dX12_corrects_76 rfl ?_
                refine x_lald 77 C (j := 1) dX12_corrects_77 hM.2.2.2.2.2.2.2.2.2.2.2.2.1 ⟨by decide, by decide, by decide⟩ ?_
                refine x_long ((coU Y P u (mRp Lk (A + 7) 0) (mRp Lk (A + 7) 2)).2) (mRp_1 hU).2 ?_
                refine x_callSe 78 C dX12_corrects_78 (As := [.long ((coU Y P u (mRp Lk (A + 7) 0) (mRp Lk (A + 7) 2)).1), .long ((coU Y P u (mRp Lk (A + 7) 0) (mRp Lk (A + 7) 2)).2)]) (rest := []) [.long (sizC (((coU Y P u (mRp Lk (A + 7) 0) (mRp Lk (A + 7) 2)).1), ((coU Y P u (mRp Lk (A + 7) 0) (mRp Lk (A + 7) 2)).2)))] (t_X12_size l D z n G I L14 ((coU Y P u (mRp Lk (A + 7) 0) (mRp Lk (A + 7) 2)).1) ((coU Y P u (mRp Lk (A + 7) 0) (mRp Lk (A + 7) 2)).2) ) mt_X12_size km_X12_166 kt_X12_size rfl rfl (Nat.le_of_ble_eq_true rfl) ⟨⟨by decide, by decide⟩, by decide, by decide⟩ (fun I15 L16 eI15 eL16 => ?_)
                replace eI15 := eI15.symm; subst eI15
                replace eL16 := eL16.symm; subst eL16
                refine x_long (sizC (coU Y P u (mRp Lk (A + 7) 0) (mRp Lk (A + 7) 2))) rfl ?_
                refine x_lstore 81 C [(5, .long (sizC (coU Y P u (mRp Lk (A + 7) 0) (mRp Lk (A + 7) 2)))), (0, .ref A), (1, .int (nI P)), (2, .long bf), (4, .int (nI (i + 1)))] dX12_corrects_81 (by decide) rfl ?_
                refine x_aload_n 83 C dX12_corrects_83 rfl 1 rfl ?_
                refine x_getr 84 C (b := A + 12) dX12_corrects_84 ff_X12_51 rfl hM.1 rfl ?_
                refine x_iconst 87 C (v := 2) dX12_corrects_87 rfl ?_
                refine x_lald 88 C (j := 2) dX12_corrects_88 hM.2.2.2.2.2.2.2.2.2.2.2.2.1 ⟨by decide, by decide, by decide⟩ ?_
                refine x_long ((coV Y P u (mRp Lk (A + 7) 0) (mRp Lk (A + 7) 2)).1) (mRp_1 hV).1 ?_
                refine x_aload_n 89 C dX12_corrects_89 rfl 1 rfl ?_
                refine x_getr 90 C (b := A + 12) dX12_corrects_90 ff_X12_51 rfl hM.1 rfl ?_
                refine x_iconst 93 C (v := 3) dX12_corrects_93 rfl ?_
                refine x_lald 94 C (j := 3) dX12_corrects_94 hM.2.2.2.2.2.2.2.2.2.2.2.2.1 ⟨by decide, by decide, by decide⟩ ?_
                refine x_long ((coV Y P u (mRp Lk (A + 7) 0) (mRp Lk (A + 7) 2)).2) (mRp_1 hV).2 ?_
                refine x_callSe 95 C dX12_corrects_95 (As := [.long ((coV Y P u (mRp Lk (A + 7) 0) (mRp Lk (A + 7) 2)).1), .long ((coV Y P u (mRp Lk (A + 7) 0) (mRp Lk (A + 7) 2)).2)]) (rest := []) [.long (sizC (((coV Y P u (mRp Lk (A + 7) 0) (mRp Lk (A + 7) 2)).1), ((coV Y P u (mRp Lk (A + 7) 0) (mRp Lk (A + 7) 2)).2)))] (t_X12_size l D z n G I L14 ((coV Y P u (mRp Lk (A + 7) 0) (mRp Lk (A + 7) 2)).1) ((coV Y P u (mRp Lk (A + 7) 0) (mRp Lk (A + 7) 2)).2) ) mt_X12_size km_X12_166 kt_X12_size rfl rfl (Nat.le_of_ble_eq_true rfl) ⟨⟨by decide, by decide⟩, by decide, by decide⟩ (fun I17 L18 eI17 eL18 => ?_)
                replace eI17 := eI17.symm; subst eI17
                replace eL18 := eL18.symm; subst eL18
                refine x_long (sizC (coV Y P u (mRp Lk (A + 7) 0) (mRp Lk (A + 7) 2))) rfl ?_
                refine x_lstore 98 C [(7, .long (sizC (coV Y P u (mRp Lk (A + 7) 0) (mRp Lk (A + 7) 2)))), (5, .long (sizC (coU Y P u (mRp Lk (A + 7) 0) (mRp Lk (A + 7) 2)))), (0, .ref A), (1, .int (nI P)), (2, .long bf), (4, .int (nI (i + 1)))] dX12_corrects_98 (by decide) rfl ?_
                refine x_lload 100 C dX12_corrects_100 1 rfl ?_
                refine x_lload 102 C dX12_corrects_102 0 rfl ?_
                have hJj20 : ∀ j20 : Int64, j20 = ((coS Y P u (mRp Lk (A + 7) 0) (mRp Lk (A + 7) 2))) → X p l e (xRm 7 180 0 0) s m args below meth c D z 11 (MQ below (xQc D z n (xN n G (fun v' I' L' => v' = (some (.int (if (coN Y P u (I (A + 1) 45) R 0 0 (mRp L (A + 7) 0) (mRp L (A + 7) 2)).isSome then 1 else 0))) ∧ I' = I ∧ (∀ c, coN Y P u (I (A + 1) 45) R 0 0 (mRp L (A + 7) 0) (mRp L (A + 7) 2) = some c → mRp L' (A + 7) 0 = c.1 ∧ mRp L' (A + 7) 2 = c.2) ∧ (∀ q, (q < A ∨ A + 14 ≤ q) → L' q = L q) ∧ (∀ j, j ≠ 7 → j ≠ 8 → L' A j = L A j)))) args s 0 0 (fun a => z ≤ a)) 0 0 n G I L14 115 [(7, .long (sizC (coV Y P u (mRp Lk (A + 7) 0) (mRp Lk (A + 7) 2)))), (5, .long (sizC (coU Y P u (mRp Lk (A + 7) 0) (mRp Lk (A + 7) 2)))), (0, .ref A), (1, .int (nI P)), (2, .long bf), (4, .int (nI (i + 1)))] [.long j20] := by
                  intro j20 ej20
                  refine x_lstore 115 C [(9, .long j20), (7, .long (sizC (coV Y P u (mRp Lk (A + 7) 0) (mRp Lk (A + 7) 2)))), (5, .long (sizC (coU Y P u (mRp Lk (A + 7) 0) (mRp Lk (A + 7) 2)))), (0, .ref A), (1, .int (nI P)), (2, .long bf), (4, .int (nI (i + 1)))] dX12_corrects_115 (by decide) rfl ?_
                  refine x_lload 117 C dX12_corrects_117 0 rfl ?_
                  refine x_aload_n 119 C dX12_corrects_119 rfl 3 rfl ?_
                  refine x_iconst 120 C (v := 3) dX12_corrects_120 rfl ?_
                  refine x_callVe 121 C dX12_corrects_121 (As := [.int 3]) (rest := [.long j20]) [.int (I (A + 1) (42 + 3)), .long j20] (t_X12_setting l D z n G I L14 A 3 hM (by first | omega | assumption | decide)) mt_X12_setting km_X12_119 ki_X12_setting ks_X12_setting hM.1 ⟨by decide, rfl⟩ rfl rfl (Nat.le_of_ble_eq_true rfl) ⟨⟨by decide, by decide⟩, by decide, by decide⟩ (fun I21 L22 eI21 eL22 => ?_)
                  replace eI21 := eI21.symm; subst eI21
                  replace eL22 := eL22.symm; subst eL22
                  refine x_int (I (A + 1) 45) rfl ?_
                  refine x_i2l 124 C dX12_corrects_124 ?_
                  refine x_lc_gt 125 C 131 dX12_corrects_125 dX12_corrects_126 (by decide) (fun c23 => ?_) (fun c23 => ?_)
                  · skip
                    have c23o := Int64.not_le.mpr c23
                    have hgt : ¬ (coS Y P u (mRp Lk (A + 7) 0) (mRp Lk (A + 7) 2)) ≤ Int32.toInt64 (I (A + 1) 45) := by rw [← ej20]; exact Int64.not_le.mpr c23
                    refine x_iload 131 C dX12_corrects_131 6 rfl ?_
                    refine x_iconst 133 C (v := 1) dX12_corrects_133 rfl ?_
                    refine x_icmp_le 134 C 150 dX12_corrects_134 (by decide) (fun c24 => ?_) (fun c24 => ?_)
                    · skip
                      have c24n : (i + 1) ≤ 1 := (nI_leI (a := (i + 1)) (b := 1) (by omega) (by omega)).mp c24
                      have c24m : ¬ (1 < (i + 1)) := by omega
                      have c24o := Int32.not_lt.mpr c24
                      have hlast : ¬ (0 < i ∧ ¬ (coS Y P u (mRp Lk (A + 7) 0) (mRp Lk (A + 7) 2)) ≤ bf / 2) := fun h => absurd h.1 (by omega)
                      refine x_lload 150 C dX12_corrects_150 0 rfl ?_
                      refine x_lstore_n 152 C [(2, .long j20), (9, .long j20), (7, .long (sizC (coV Y P u (mRp Lk (A + 7) 0) (mRp Lk (A + 7) 2)))), (5, .long (sizC (coU Y P u (mRp Lk (A + 7) 0) (mRp Lk (A + 7) 2)))), (0, .ref A), (1, .int (nI P)), (4, .int (nI (i + 1)))] dX12_corrects_152 rfl (by decide) rfl ?_
                      refine x_iinc 153 C [(4, .int (nI (i + 1 + 1))), (2, .long j20), (9, .long j20), (7, .long (sizC (coV Y P u (mRp Lk (A + 7) 0) (mRp Lk (A + 7) 2)))), (5, .long (sizC (coU Y P u (mRp Lk (A + 7) 0) (mRp Lk (A + 7) 2)))), (0, .ref A), (1, .int (nI P))] dX12_corrects_153 6 rfl (nI_add (i + 1) 1) (by decide) rfl ?_
                      refine x_goto 156 C 5 dX12_corrects_156 (by decide) ?_
                      refine x_sub [(0, .ref A), (1, .int (nI P)), (2, .long j20), (4, .int (nI (i + 1 + 1)))] [5, 6, 1, 0] rfl ?_
                      refine ihO (i + 1) L14 j20 (by omega) (by omega) ?_ hf6 hj6 (by rw [hX6]; exact hC_2 _) (by rw [hY6]; exact hC_2 _)
                      rw [hS, show R - i = (R - (i + 1)) + 1 by omega, coN, if_neg hn2, if_neg hgt, if_neg hlast, ej20, hX6, hY6]
                    · skip
                      have c24n : ¬ ((i + 1) ≤ 1) := fun h => c24 ((nI_leI (a := (i + 1)) (b := 1) (by omega) (by omega)).mpr h)
                      have c24m : 1 < (i + 1) := by omega
                      have c24o := Int32.not_le.mp c24
                      refine x_lload 137 C dX12_corrects_137 0 rfl ?_
                      refine x_lload_n 139 C dX12_corrects_139 rfl 5 rfl ?_
                      refine x_ldc2 140 C 2 dX12_corrects_140 kk_X12_144 ?_
                      refine x_ldiv 143 C dX12_corrects_143 (by decide) ?_
                      refine x_lc_le 144 C 150 dX12_corrects_144 dX12_corrects_145 (by decide) (fun c25 => ?_) (fun c25 => ?_)
                      · skip
                        have c25o := Int64.not_lt.mpr c25
                        have hlast : ¬ (0 < i ∧ ¬ (coS Y P u (mRp Lk (A + 7) 0) (mRp Lk (A + 7) 2)) ≤ bf / 2) := fun h => h.2 (by rw [← ej20]; exact c25)
                        refine x_lload 150 C dX12_corrects_150 0 rfl ?_
                        refine x_lstore_n 152 C [(2, .long j20), (9, .long j20), (7, .long (sizC (coV Y P u (mRp Lk (A + 7) 0) (mRp Lk (A + 7) 2)))), (5, .long (sizC (coU Y P u (mRp Lk (A + 7) 0) (mRp Lk (A + 7) 2)))), (0, .ref A), (1, .int (nI P)), (4, .int (nI (i + 1)))] dX12_corrects_152 rfl (by decide) rfl ?_
                        refine x_iinc 153 C [(4, .int (nI (i + 1 + 1))), (2, .long j20), (9, .long j20), (7, .long (sizC (coV Y P u (mRp Lk (A + 7) 0) (mRp Lk (A + 7) 2)))), (5, .long (sizC (coU Y P u (mRp Lk (A + 7) 0) (mRp Lk (A + 7) 2)))), (0, .ref A), (1, .int (nI P))] dX12_corrects_153 6 rfl (nI_add (i + 1) 1) (by decide) rfl ?_
                        refine x_goto 156 C 5 dX12_corrects_156 (by decide) ?_
                        refine x_sub [(0, .ref A), (1, .int (nI P)), (2, .long j20), (4, .int (nI (i + 1 + 1)))] [5, 6, 1, 0] rfl ?_
                        refine ihO (i + 1) L14 j20 (by omega) (by omega) ?_ hf6 hj6 (by rw [hX6]; exact hC_2 _) (by rw [hY6]; exact hC_2 _)
                        rw [hS, show R - i = (R - (i + 1)) + 1 by omega, coN, if_neg hn2, if_neg hgt, if_neg hlast, ej20, hX6, hY6]
                      · skip
                        have c25o := Int64.not_le.mp c25
                        have hlast : 0 < i ∧ ¬ (coS Y P u (mRp Lk (A + 7) 0) (mRp Lk (A + 7) 2)) ≤ bf / 2 := ⟨by omega, by rw [← ej20]; exact c25⟩
                        refine x_iconst 148 C (v := 0) dX12_corrects_148 rfl ?_
                        refine x_iret 149 C dX12_corrects_149 rfl rfl (Nat.le_refl _) (xN.intro ?_)
                        have hz : coN Y P u (I (A + 1) 45) R 0 0 (mRp L (A + 7) 0) (mRp L (A + 7) 2) = none := by rw [hS, show R - i = (R - (i + 1)) + 1 by omega, coN, if_neg hn2, if_neg hgt, if_pos hlast]
                        exact ⟨by rw [hz]; rfl, rfl, fun c h => absurd (hz.symm.trans h) (by simp), hf6, hj6⟩
                  · skip
                    have c23o := Int64.not_lt.mp c23
                    have hle : (coS Y P u (mRp Lk (A + 7) 0) (mRp Lk (A + 7) 2)) ≤ Int32.toInt64 (I (A + 1) 45) := by rw [← ej20]; exact Int64.not_lt.mp c23
                    refine x_iconst 129 C (v := 1) dX12_corrects_129 rfl ?_
                    refine x_iret 130 C dX12_corrects_130 rfl rfl (Nat.le_refl _) (xN.intro ?_)
                    have hz : coN Y P u (I (A + 1) 45) R 0 0 (mRp L (A + 7) 0) (mRp L (A + 7) 2) = some (addC (mRp Lk (A + 7) 0) (coU Y P u (mRp Lk (A + 7) 0) (mRp Lk (A + 7) 2)), addC (mRp Lk (A + 7) 2) (coV Y P u (mRp Lk (A + 7) 0) (mRp Lk (A + 7) 2))) := by rw [hS, show R - i = (R - (i + 1)) + 1 by omega, coN, if_neg hn2, if_pos hle]
                    exact ⟨by rw [hz]; rfl, rfl, fun c h => by rw [hz] at h; rw [← Option.some.inj h]; exact ⟨hX6, hY6⟩, hf6, hj6⟩
                refine x_lc_le 104 C 113 dX12_corrects_104 dX12_corrects_105 (by decide) (fun c19 => ?_) (fun c19 => ?_)
                · skip
                  refine x_lload 113 C dX12_corrects_113 0 rfl ?_
                  exact hJj20 _ (coS_1 c19)
                · skip
                  refine x_lload 108 C dX12_corrects_108 1 rfl ?_
                  refine x_goto 110 C 115 dX12_corrects_110 (by decide) ?_
                  exact hJj20 _ (coS_2 c19)
              · skip
                have hn := ite01 c11
                refine x_iconst 60 C (v := 0) dX12_corrects_60 rfl ?_
                refine x_iret 61 C dX12_corrects_61 rfl rfl (Nat.le_refl _) (xN.intro ?_)
                have hz : coN Y P u (I (A + 1) 45) R 0 0 (mRp L (A + 7) 0) (mRp L (A + 7) 2) = none := by rw [hS, show R - i = (R - (i + 1)) + 1 by omega, coN, if_pos hn]
                exact ⟨by rw [hz]; rfl, rfl, fun c h => absurd (hz.symm.trans h) (by simp), hf5, hj5⟩
            · skip
              have c7n : ¬ (4 ≤ k) := fun h => c7 ((nI_leI (a := 4) (b := k) (by omega) (by omega)).mpr h)
              have c7m : k < 4 := by omega
              have c7o := Int32.not_le.mp c7
              refine x_aload_n 29 C dX12_corrects_29 rfl 0 rfl ?_
              refine x_getr 30 C (b := A + 11) dX12_corrects_30 ff_X12_48 rfl hM.1 rfl ?_
              refine x_iload 33 C dX12_corrects_33 4 rfl ?_
              refine x_aload_n 35 C dX12_corrects_35 rfl 0 rfl ?_
              refine x_getr 36 C (b := A + 10) dX12_corrects_36 ff_X12_45 rfl hM.1 rfl ?_
              refine x_iload 39 C dX12_corrects_39 4 rfl ?_
              refine x_lald 41 C (j := k) dX12_corrects_41 hM.2.2.2.2.2.2.2.2.2.2.1 (xIx_nI (by omega) (by decide)) ?_
              refine x_long (L6 (A + 10) k) (by rw [hr _ (by omega)]) ?_
              refine x_lneg 42 C dX12_corrects_42 ?_
              refine x_callSe 43 C dX12_corrects_43 (As := [.long (-(L6 (A + 10) k))]) (rest := [.int (nI k), .ref (A + 11)]) [.long (held (-(L6 (A + 10) k))), .int (nI k), .ref (A + 11)] (t_X12_held l D z n G I Lm (-(L6 (A + 10) k)) ) mt_X12_held km_X12_83 kt_X12_held rfl rfl (Nat.le_of_ble_eq_true rfl) ⟨⟨by decide, by decide⟩, by decide, by decide⟩ (fun I26 L27 eI26 eL27 => ?_)
              replace eI26 := eI26.symm; subst eI26
              replace eL27 := eL27.symm; subst eL27
              refine x_last 46 C (j := k) dX12_corrects_46 hM.2.2.2.2.2.2.2.2.2.2.2.1 (by omega) (xIx_nI (by omega) (by decide)) (fun L28 eL28 => ?_)
              refine x_iinc 47 C [(5, .int (nI (k + 1))), (0, .ref A), (1, .int (nI P)), (2, .long bf), (4, .int (nI (i + 1)))] dX12_corrects_47 4 rfl (nI_add k 1) (by decide) rfl ?_
              refine x_goto 50 C 23 dX12_corrects_50 (by decide) ?_
              refine x_sub [(0, .ref A), (1, .int (nI P)), (2, .long bf), (4, .int (nI (i + 1))), (5, .int (nI (k + 1)))] [1, 2, 3, 4, 0] rfl ?_
              exact ih (k + 1) L28 (by omega) (by omega) (fun j hj => by rw [eL28, xup_at]; by_cases h0 : j = k; (rw [if_pos h0, h0]); (rw [if_neg h0]; exact h11 j (by omega))) (fun q hq => by rw [eL28, xup_row _ _ hq]; exact hr q hq)
        refine x_sub [(0, .ref A), (1, .int (nI P)), (2, .long bf), (4, .int (nI (i + 1))), (5, .int 0)] [1, 2, 3, 4, 0] rfl ?_
        exact loop23 5 0 L6 (by omega) (by omega) (fun j hj => absurd hj (by omega)) (fun _ _ => rfl)
  refine x_sub [(0, .ref A), (1, .int (nI P)), (2, .long 0), (4, .int 1)] [2, 3, 1, 0] rfl ?_
  refine x_lv [(0, .ref A), (1, .int (nI P)), (2, .long 0), (4, .int (nI (0 + 1)))] rfl ?_
  exact loop5 (R + 1) 0 L 0 (by omega) (by omega) rfl (fun _ _ => rfl) (fun _ _ _ => rfl) hx7 hy7
