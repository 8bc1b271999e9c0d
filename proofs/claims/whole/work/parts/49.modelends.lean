/-! The Model: counts of ends, the next path, the order of ends -/
theorem vMet_self (V : Nat → xP) (w : Int32) (k : Nat) : vMet V w k k = false := by unfold vMet; simp
theorem dX12_reals_0 : decode cX12_reals 0 = .ok (.iconst 0, 1) := by decide +kernel
theorem dX12_reals_1 : decode cX12_reals 1 = .ok (.istore_n 1, 1) := by decide +kernel
theorem dX12_reals_2 : decode cX12_reals 2 = .ok (.iconst 0, 1) := by decide +kernel
theorem dX12_reals_3 : decode cX12_reals 3 = .ok (.istore_n 2, 1) := by decide +kernel
theorem dX12_reals_4 : decode cX12_reals 4 = .ok (.iload_n 2, 1) := by decide +kernel
theorem dX12_reals_5 : decode cX12_reals 5 = .ok (.aload_n 0, 1) := by decide +kernel
theorem dX12_reals_6 : decode cX12_reals 6 = .ok (.invokevirtual 67, 3) := by decide +kernel
theorem dX12_reals_9 : decode cX12_reals 9 = .ok (.if_icmp .ge 65, 3) := by decide +kernel
theorem dX12_reals_12 : decode cX12_reals 12 = .ok (.iload_n 1, 1) := by decide +kernel
theorem dX12_reals_13 : decode cX12_reals 13 = .ok (.aload_n 0, 1) := by decide +kernel
theorem dX12_reals_14 : decode cX12_reals 14 = .ok (.iload_n 2, 1) := by decide +kernel
theorem dX12_reals_15 : decode cX12_reals 15 = .ok (.invokevirtual 218, 3) := by decide +kernel
theorem dX12_reals_18 : decode cX12_reals 18 = .ok (.ifCond .eq 47, 3) := by decide +kernel
theorem dX12_reals_21 : decode cX12_reals 21 = .ok (.aload_n 0, 1) := by decide +kernel
theorem dX12_reals_22 : decode cX12_reals 22 = .ok (.iload_n 2, 1) := by decide +kernel
theorem dX12_reals_23 : decode cX12_reals 23 = .ok (.iconst 1, 1) := by decide +kernel
theorem dX12_reals_24 : decode cX12_reals 24 = .ok (.invokevirtual 215, 3) := by decide +kernel
theorem dX12_reals_27 : decode cX12_reals 27 = .ok (.i2l, 1) := by decide +kernel
theorem dX12_reals_28 : decode cX12_reals 28 = .ok (.invokestatic 97, 3) := by decide +kernel
theorem dX12_reals_31 : decode cX12_reals 31 = .ok (.aload_n 0, 1) := by decide +kernel
theorem dX12_reals_32 : decode cX12_reals 32 = .ok (.iconst 5, 1) := by decide +kernel
theorem dX12_reals_33 : decode cX12_reals 33 = .ok (.invokevirtual 119, 3) := by decide +kernel
theorem dX12_reals_36 : decode cX12_reals 36 = .ok (.i2l, 1) := by decide +kernel
theorem dX12_reals_37 : decode cX12_reals 37 = .ok (.lcmp, 1) := by decide +kernel
theorem dX12_reals_38 : decode cX12_reals 38 = .ok (.ifCond .gt 27, 3) := by decide +kernel
theorem dX12_reals_41 : decode cX12_reals 41 = .ok (.aload_n 0, 1) := by decide +kernel
theorem dX12_reals_42 : decode cX12_reals 42 = .ok (.iload_n 2, 1) := by decide +kernel
theorem dX12_reals_43 : decode cX12_reals 43 = .ok (.iconst 3, 1) := by decide +kernel
theorem dX12_reals_44 : decode cX12_reals 44 = .ok (.invokevirtual 215, 3) := by decide +kernel
theorem dX12_reals_47 : decode cX12_reals 47 = .ok (.i2l, 1) := by decide +kernel
theorem dX12_reals_48 : decode cX12_reals 48 = .ok (.invokestatic 97, 3) := by decide +kernel
theorem dX12_reals_51 : decode cX12_reals 51 = .ok (.aload_n 0, 1) := by decide +kernel
theorem dX12_reals_52 : decode cX12_reals 52 = .ok (.iconst 5, 1) := by decide +kernel
theorem dX12_reals_53 : decode cX12_reals 53 = .ok (.invokevirtual 119, 3) := by decide +kernel
theorem dX12_reals_56 : decode cX12_reals 56 = .ok (.i2l, 1) := by decide +kernel
theorem dX12_reals_57 : decode cX12_reals 57 = .ok (.lcmp, 1) := by decide +kernel
theorem dX12_reals_58 : decode cX12_reals 58 = .ok (.ifCond .gt 7, 3) := by decide +kernel
theorem dX12_reals_61 : decode cX12_reals 61 = .ok (.iconst 1, 1) := by decide +kernel
theorem dX12_reals_62 : decode cX12_reals 62 = .ok (.goto 4, 3) := by decide +kernel
theorem dX12_reals_65 : decode cX12_reals 65 = .ok (.iconst 0, 1) := by decide +kernel
theorem dX12_reals_66 : decode cX12_reals 66 = .ok (.iadd, 1) := by decide +kernel
theorem dX12_reals_67 : decode cX12_reals 67 = .ok (.istore_n 1, 1) := by decide +kernel
theorem dX12_reals_68 : decode cX12_reals 68 = .ok (.iinc 2 1, 3) := by decide +kernel
theorem dX12_reals_71 : decode cX12_reals 71 = .ok (.goto (-67), 3) := by decide +kernel
theorem dX12_reals_74 : decode cX12_reals 74 = .ok (.iload_n 1, 1) := by decide +kernel
theorem dX12_reals_75 : decode cX12_reals 75 = .ok (.ireturn, 1) := by decide +kernel
set_option maxHeartbeats 1000000 in
set_option maxRecDepth 100000 in
theorem t_X12_reals (l : Launch) (D : xD) (z n : Nat) (G : xG) (I : xI) (L : xL) (A : Nat) (dx : Nat) (dy : Nat) (hM : shMo G A) (hdx : I (A + 1) 40 = nI dx) (hdy : I (A + 1) 41 = nI dy) (hd3 : dx * dy ≤ 9) (hprs : ∀ i, i < dx * dy → I (A + 1) (50 + 12 * i + 3) = 10 ∨ I (A + 1) (50 + 12 * i + 3) = 18) : xM0 l D z yX12_reals cX12_reals 3 (some .int) 2 43 [.ref A] n G I L (xE (some (.int (nI (cntN (fun i => vSt (mV I A) 1 i && vReal ((mV I A) i) (I (A + 1) 47)) (dx * dy))))) I L) := by
  refine xM.of (by decide) (Nat.le_of_ble_eq_true rfl) (fun p e s m args below meth c C hnm hsz => ?_)
  refine x_lv [(0, .ref A)] rfl ?_
  refine x_iconst 0 C (v := 0) dX12_reals_0 rfl ?_
  refine x_istore_n 1 C [(1, .int 0), (0, .ref A)] dX12_reals_1 rfl (by decide) rfl ?_
  refine x_iconst 2 C (v := 0) dX12_reals_2 rfl ?_
  refine x_istore_n 3 C [(2, .int 0), (1, .int 0), (0, .ref A)] dX12_reals_3 rfl (by decide) rfl ?_
  have loop4 : ∀ (fuel : Nat) (i : Nat), (i ≤ dx * dy) → (dx * dy + 1 ≤ i + fuel) → X p l e (xRm 2 43 0 0) s m args below meth c D z 3 (MQ below (xQc D z n (xN n G (xE (some (.int (nI (cntN (fun i => vSt (mV I A) 1 i && vReal ((mV I A) i) (I (A + 1) 47)) (dx * dy))))) I L))) args s 0 0 (fun a => z ≤ a)) 0 0 n G I L 4 [(0, .ref A), (1, .int (nI (cntN (fun i => vSt (mV I A) 1 i && vReal ((mV I A) i) (I (A + 1) 47)) i))), (2, .int (nI i))] [] := by
    intro fuel
    induction fuel with
    | zero =>
      intro i hi hf
      exact absurd hf (by omega)
    | succ fuel ih =>
      intro i hi hf
      refine x_iload_n 4 C dX12_reals_4 rfl 2 rfl ?_
      refine x_aload_n 5 C dX12_reals_5 rfl 0 rfl ?_
      refine x_callVe 6 C dX12_reals_6 (As := []) (rest := [.int (nI i)]) [.int (nI (dx * dy)), .int (nI i)] (t_X12_paths l D z n G I L A dx dy hM hdx hdy) mt_X12_paths km_X12_67 ki_X12_paths ks_X12_paths hM.1 ⟨by decide, rfl⟩ rfl rfl (Nat.le_of_ble_eq_true rfl) ⟨⟨by decide, by decide⟩, by decide, by decide⟩ (fun I1 L2 eI1 eL2 => ?_)
      replace eI1 := eI1.symm; subst eI1
      replace eL2 := eL2.symm; subst eL2
      refine x_icmp_ge 9 C 74 dX12_reals_9 (by decide) (fun c3 => ?_) (fun c3 => ?_)
      · skip
        have c3n : (dx * dy) ≤ i := (nI_leI (a := (dx * dy)) (b := i) (by omega) (by omega)).mp c3
        have c3m : ¬ (i < (dx * dy)) := by omega
        have c3o := Int32.not_lt.mpr c3
        refine x_iload_n 74 C dX12_reals_74 rfl 1 rfl ?_
        refine x_iret 75 C dX12_reals_75 rfl rfl (Nat.le_refl _) (xN.intro ?_)
        have hiU : i = dx * dy := by omega
        subst hiU
        exact ⟨rfl, rfl, rfl⟩
      · skip
        have c3n : ¬ ((dx * dy) ≤ i) := fun h => c3 ((nI_leI (a := (dx * dy)) (b := i) (by omega) (by omega)).mpr h)
        have c3m : i < (dx * dy) := by omega
        have c3o := Int32.not_le.mp c3
        refine x_iload_n 12 C dX12_reals_12 rfl 1 rfl ?_
        refine x_aload_n 13 C dX12_reals_13 rfl 0 rfl ?_
        refine x_iload_n 14 C dX12_reals_14 rfl 2 rfl ?_
        refine x_callVe 15 C dX12_reals_15 (As := [.int (nI i)]) (rest := [.int (nI (cntN (fun i => vSt (mV I A) 1 i && vReal ((mV I A) i) (I (A + 1) 47)) i))]) [.int (bI (decide (I (A + 1) (50 + 12 * i + 5) = 1))), .int (nI (cntN (fun i => vSt (mV I A) 1 i && vReal ((mV I A) i) (I (A + 1) 47)) i))] (t_X12_isAtEnd l D z n G I L A i hM (by first | omega | assumption | decide)) mt_X12_isAtEnd km_X12_218 ki_X12_isAtEnd ks_X12_isAtEnd hM.1 ⟨by decide, rfl⟩ rfl rfl (Nat.le_of_ble_eq_true rfl) ⟨⟨by decide, by decide⟩, by decide, by decide⟩ (fun I4 L5 eI4 eL5 => ?_)
        replace eI4 := eI4.symm; subst eI4
        replace eL5 := eL5.symm; subst eL5
        refine x_if_eq 18 C 65 dX12_reals_18 (by decide) (fun c6 => ?_) (fun c6 => ?_)
        · skip
          have hei : vSt (mV I A) 1 i = false := bI_0.mp c6
          refine x_iconst 65 C (v := 0) dX12_reals_65 rfl ?_
          refine x_iadd 66 C dX12_reals_66 ?_
          refine x_int (nI (cntN (fun i => vSt (mV I A) 1 i && vReal ((mV I A) i) (I (A + 1) 47)) i + 0)) (nI_add (cntN (fun i => vSt (mV I A) 1 i && vReal ((mV I A) i) (I (A + 1) 47)) i) 0) ?_
          refine x_istore_n 67 C [(1, .int (nI (cntN (fun i => vSt (mV I A) 1 i && vReal ((mV I A) i) (I (A + 1) 47)) i + 0))), (0, .ref A), (2, .int (nI i))] dX12_reals_67 rfl (by decide) rfl ?_
          refine x_iinc 68 C [(2, .int (nI (i + 1))), (1, .int (nI (cntN (fun i => vSt (mV I A) 1 i && vReal ((mV I A) i) (I (A + 1) 47)) i + 0))), (0, .ref A)] dX12_reals_68 2 rfl (nI_add i 1) (by decide) rfl ?_
          refine x_goto 71 C 4 dX12_reals_71 (by decide) ?_
          refine x_sub [(0, .ref A), (1, .int (nI (cntN (fun i => vSt (mV I A) 1 i && vReal ((mV I A) i) (I (A + 1) 47)) i + 0))), (2, .int (nI (i + 1)))] [2, 1, 0] rfl ?_
          refine x_lv [(0, .ref A), (1, .int (nI (cntN (fun i => vSt (mV I A) 1 i && vReal ((mV I A) i) (I (A + 1) 47)) (i + 1)))), (2, .int (nI (i + 1)))] (by simp [cntN, vReal, hei]) ?_
          exact ih (i + 1) (by omega) (by omega)
        · skip
          have hei : vSt (mV I A) 1 i = true := bI_n0.mp c6
          refine x_aload_n 21 C dX12_reals_21 rfl 0 rfl ?_
          refine x_iload_n 22 C dX12_reals_22 rfl 2 rfl ?_
          refine x_iconst 23 C (v := 1) dX12_reals_23 rfl ?_
          refine x_callVe 24 C dX12_reals_24 (As := [.int (nI i), .int 1]) (rest := [.int (nI (cntN (fun i => vSt (mV I A) 1 i && vReal ((mV I A) i) (I (A + 1) 47)) i))]) [.int (vpt (mvO (I (A + 1)) (50 + 12 * i)) 1), .int (nI (cntN (fun i => vSt (mV I A) 1 i && vReal ((mV I A) i) (I (A + 1) 47)) i))] (t_X12_thousandths l D z n G I L A i 1 hM (by first | omega | assumption | decide) (by first | omega | assumption | decide) (hprs i (by omega))) mt_X12_thousandths km_X12_215 ki_X12_thousandths ks_X12_thousandths hM.1 ⟨by decide, rfl⟩ rfl rfl (Nat.le_of_ble_eq_true rfl) ⟨⟨by decide, by decide⟩, by decide, by decide⟩ (fun I7 L8 eI7 eL8 => ?_)
          replace eI7 := eI7.symm; subst eI7
          replace eL8 := eL8.symm; subst eL8
          refine x_int (vpt (mV I A i) 1) rfl ?_
          refine x_i2l 27 C dX12_reals_27 ?_
          refine x_callSe 28 C dX12_reals_28 (As := [.long (Int32.toInt64 (vpt (mV I A i) 1))]) (rest := [.int (nI (cntN (fun i => vSt (mV I A) 1 i && vReal ((mV I A) i) (I (A + 1) 47)) i))]) [.long (abL (Int32.toInt64 (vpt (mV I A i) 1))), .int (nI (cntN (fun i => vSt (mV I A) 1 i && vReal ((mV I A) i) (I (A + 1) 47)) i))] (t_X12_abs l D z n G I L (Int32.toInt64 (vpt (mV I A i) 1)) ) mt_X12_abs km_X12_97 kt_X12_abs rfl rfl (Nat.le_of_ble_eq_true rfl) ⟨⟨by decide, by decide⟩, by decide, by decide⟩ (fun I9 L10 eI9 eL10 => ?_)
          replace eI9 := eI9.symm; subst eI9
          replace eL10 := eL10.symm; subst eL10
          refine x_aload_n 31 C dX12_reals_31 rfl 0 rfl ?_
          refine x_iconst 32 C (v := 5) dX12_reals_32 rfl ?_
          refine x_callVe 33 C dX12_reals_33 (As := [.int 5]) (rest := [.long (abL (Int32.toInt64 (vpt (mV I A i) 1))), .int (nI (cntN (fun i => vSt (mV I A) 1 i && vReal ((mV I A) i) (I (A + 1) 47)) i))]) [.int (I (A + 1) (42 + 5)), .long (abL (Int32.toInt64 (vpt (mV I A i) 1))), .int (nI (cntN (fun i => vSt (mV I A) 1 i && vReal ((mV I A) i) (I (A + 1) 47)) i))] (t_X12_setting l D z n G I L A 5 hM (by first | omega | assumption | decide)) mt_X12_setting km_X12_119 ki_X12_setting ks_X12_setting hM.1 ⟨by decide, rfl⟩ rfl rfl (Nat.le_of_ble_eq_true rfl) ⟨⟨by decide, by decide⟩, by decide, by decide⟩ (fun I11 L12 eI11 eL12 => ?_)
          replace eI11 := eI11.symm; subst eI11
          replace eL12 := eL12.symm; subst eL12
          refine x_int (I (A + 1) 47) rfl ?_
          refine x_i2l 36 C dX12_reals_36 ?_
          refine x_lc_gt 37 C 65 dX12_reals_37 dX12_reals_38 (by decide) (fun c13 => ?_) (fun c13 => ?_)
          · skip
            have c13o := Int64.not_le.mpr c13
            have hr1 : decide (iabs (vpt (mV I A i) 1) ≤ (I (A + 1) 47)) = false := decide_eq_false (fun h => absurd ((iabs_le (vpt_gt _ _ _)).mp h) (Int64.not_le.mpr c13))
            refine x_iconst 65 C (v := 0) dX12_reals_65 rfl ?_
            refine x_iadd 66 C dX12_reals_66 ?_
            refine x_int (nI (cntN (fun i => vSt (mV I A) 1 i && vReal ((mV I A) i) (I (A + 1) 47)) i + 0)) (nI_add (cntN (fun i => vSt (mV I A) 1 i && vReal ((mV I A) i) (I (A + 1) 47)) i) 0) ?_
            refine x_istore_n 67 C [(1, .int (nI (cntN (fun i => vSt (mV I A) 1 i && vReal ((mV I A) i) (I (A + 1) 47)) i + 0))), (0, .ref A), (2, .int (nI i))] dX12_reals_67 rfl (by decide) rfl ?_
            refine x_iinc 68 C [(2, .int (nI (i + 1))), (1, .int (nI (cntN (fun i => vSt (mV I A) 1 i && vReal ((mV I A) i) (I (A + 1) 47)) i + 0))), (0, .ref A)] dX12_reals_68 2 rfl (nI_add i 1) (by decide) rfl ?_
            refine x_goto 71 C 4 dX12_reals_71 (by decide) ?_
            refine x_sub [(0, .ref A), (1, .int (nI (cntN (fun i => vSt (mV I A) 1 i && vReal ((mV I A) i) (I (A + 1) 47)) i + 0))), (2, .int (nI (i + 1)))] [2, 1, 0] rfl ?_
            refine x_lv [(0, .ref A), (1, .int (nI (cntN (fun i => vSt (mV I A) 1 i && vReal ((mV I A) i) (I (A + 1) 47)) (i + 1)))), (2, .int (nI (i + 1)))] (by simp [cntN, vReal, hei, hr1]) ?_
            exact ih (i + 1) (by omega) (by omega)
          · skip
            have c13o := Int64.not_lt.mp c13
            have hr1 : decide (iabs (vpt (mV I A i) 1) ≤ (I (A + 1) 47)) = true := decide_eq_true ((iabs_le (vpt_gt _ _ _)).mpr (Int64.not_lt.mp c13))
            refine x_aload_n 41 C dX12_reals_41 rfl 0 rfl ?_
            refine x_iload_n 42 C dX12_reals_42 rfl 2 rfl ?_
            refine x_iconst 43 C (v := 3) dX12_reals_43 rfl ?_
            refine x_callVe 44 C dX12_reals_44 (As := [.int (nI i), .int 3]) (rest := [.int (nI (cntN (fun i => vSt (mV I A) 1 i && vReal ((mV I A) i) (I (A + 1) 47)) i))]) [.int (vpt (mvO (I (A + 1)) (50 + 12 * i)) 3), .int (nI (cntN (fun i => vSt (mV I A) 1 i && vReal ((mV I A) i) (I (A + 1) 47)) i))] (t_X12_thousandths l D z n G I L A i 3 hM (by first | omega | assumption | decide) (by first | omega | assumption | decide) (hprs i (by omega))) mt_X12_thousandths km_X12_215 ki_X12_thousandths ks_X12_thousandths hM.1 ⟨by decide, rfl⟩ rfl rfl (Nat.le_of_ble_eq_true rfl) ⟨⟨by decide, by decide⟩, by decide, by decide⟩ (fun I14 L15 eI14 eL15 => ?_)
            replace eI14 := eI14.symm; subst eI14
            replace eL15 := eL15.symm; subst eL15
            refine x_int (vpt (mV I A i) 3) rfl ?_
            refine x_i2l 47 C dX12_reals_47 ?_
            refine x_callSe 48 C dX12_reals_48 (As := [.long (Int32.toInt64 (vpt (mV I A i) 3))]) (rest := [.int (nI (cntN (fun i => vSt (mV I A) 1 i && vReal ((mV I A) i) (I (A + 1) 47)) i))]) [.long (abL (Int32.toInt64 (vpt (mV I A i) 3))), .int (nI (cntN (fun i => vSt (mV I A) 1 i && vReal ((mV I A) i) (I (A + 1) 47)) i))] (t_X12_abs l D z n G I L (Int32.toInt64 (vpt (mV I A i) 3)) ) mt_X12_abs km_X12_97 kt_X12_abs rfl rfl (Nat.le_of_ble_eq_true rfl) ⟨⟨by decide, by decide⟩, by decide, by decide⟩ (fun I16 L17 eI16 eL17 => ?_)
            replace eI16 := eI16.symm; subst eI16
            replace eL17 := eL17.symm; subst eL17
            refine x_aload_n 51 C dX12_reals_51 rfl 0 rfl ?_
            refine x_iconst 52 C (v := 5) dX12_reals_52 rfl ?_
            refine x_callVe 53 C dX12_reals_53 (As := [.int 5]) (rest := [.long (abL (Int32.toInt64 (vpt (mV I A i) 3))), .int (nI (cntN (fun i => vSt (mV I A) 1 i && vReal ((mV I A) i) (I (A + 1) 47)) i))]) [.int (I (A + 1) (42 + 5)), .long (abL (Int32.toInt64 (vpt (mV I A i) 3))), .int (nI (cntN (fun i => vSt (mV I A) 1 i && vReal ((mV I A) i) (I (A + 1) 47)) i))] (t_X12_setting l D z n G I L A 5 hM (by first | omega | assumption | decide)) mt_X12_setting km_X12_119 ki_X12_setting ks_X12_setting hM.1 ⟨by decide, rfl⟩ rfl rfl (Nat.le_of_ble_eq_true rfl) ⟨⟨by decide, by decide⟩, by decide, by decide⟩ (fun I18 L19 eI18 eL19 => ?_)
            replace eI18 := eI18.symm; subst eI18
            replace eL19 := eL19.symm; subst eL19
            refine x_int (I (A + 1) 47) rfl ?_
            refine x_i2l 56 C dX12_reals_56 ?_
            refine x_lc_gt 57 C 65 dX12_reals_57 dX12_reals_58 (by decide) (fun c20 => ?_) (fun c20 => ?_)
            · skip
              have c20o := Int64.not_le.mpr c20
              have hr3 : decide (iabs (vpt (mV I A i) 3) ≤ (I (A + 1) 47)) = false := decide_eq_false (fun h => absurd ((iabs_le (vpt_gt _ _ _)).mp h) (Int64.not_le.mpr c20))
              refine x_iconst 65 C (v := 0) dX12_reals_65 rfl ?_
              refine x_iadd 66 C dX12_reals_66 ?_
              refine x_int (nI (cntN (fun i => vSt (mV I A) 1 i && vReal ((mV I A) i) (I (A + 1) 47)) i + 0)) (nI_add (cntN (fun i => vSt (mV I A) 1 i && vReal ((mV I A) i) (I (A + 1) 47)) i) 0) ?_
              refine x_istore_n 67 C [(1, .int (nI (cntN (fun i => vSt (mV I A) 1 i && vReal ((mV I A) i) (I (A + 1) 47)) i + 0))), (0, .ref A), (2, .int (nI i))] dX12_reals_67 rfl (by decide) rfl ?_
              refine x_iinc 68 C [(2, .int (nI (i + 1))), (1, .int (nI (cntN (fun i => vSt (mV I A) 1 i && vReal ((mV I A) i) (I (A + 1) 47)) i + 0))), (0, .ref A)] dX12_reals_68 2 rfl (nI_add i 1) (by decide) rfl ?_
              refine x_goto 71 C 4 dX12_reals_71 (by decide) ?_
              refine x_sub [(0, .ref A), (1, .int (nI (cntN (fun i => vSt (mV I A) 1 i && vReal ((mV I A) i) (I (A + 1) 47)) i + 0))), (2, .int (nI (i + 1)))] [2, 1, 0] rfl ?_
              refine x_lv [(0, .ref A), (1, .int (nI (cntN (fun i => vSt (mV I A) 1 i && vReal ((mV I A) i) (I (A + 1) 47)) (i + 1)))), (2, .int (nI (i + 1)))] (by simp [cntN, vReal, hei, hr1, hr3]) ?_
              exact ih (i + 1) (by omega) (by omega)
            · skip
              have c20o := Int64.not_lt.mp c20
              have hr3 : decide (iabs (vpt (mV I A i) 3) ≤ (I (A + 1) 47)) = true := decide_eq_true ((iabs_le (vpt_gt _ _ _)).mpr (Int64.not_lt.mp c20))
              refine x_iconst 61 C (v := 1) dX12_reals_61 rfl ?_
              refine x_goto 62 C 66 dX12_reals_62 (by decide) ?_
              refine x_iadd 66 C dX12_reals_66 ?_
              refine x_int (nI (cntN (fun i => vSt (mV I A) 1 i && vReal ((mV I A) i) (I (A + 1) 47)) i + 1)) (nI_add (cntN (fun i => vSt (mV I A) 1 i && vReal ((mV I A) i) (I (A + 1) 47)) i) 1) ?_
              refine x_istore_n 67 C [(1, .int (nI (cntN (fun i => vSt (mV I A) 1 i && vReal ((mV I A) i) (I (A + 1) 47)) i + 1))), (0, .ref A), (2, .int (nI i))] dX12_reals_67 rfl (by decide) rfl ?_
              refine x_iinc 68 C [(2, .int (nI (i + 1))), (1, .int (nI (cntN (fun i => vSt (mV I A) 1 i && vReal ((mV I A) i) (I (A + 1) 47)) i + 1))), (0, .ref A)] dX12_reals_68 2 rfl (nI_add i 1) (by decide) rfl ?_
              refine x_goto 71 C 4 dX12_reals_71 (by decide) ?_
              refine x_sub [(0, .ref A), (1, .int (nI (cntN (fun i => vSt (mV I A) 1 i && vReal ((mV I A) i) (I (A + 1) 47)) i + 1))), (2, .int (nI (i + 1)))] [2, 1, 0] rfl ?_
              refine x_lv [(0, .ref A), (1, .int (nI (cntN (fun i => vSt (mV I A) 1 i && vReal ((mV I A) i) (I (A + 1) 47)) (i + 1)))), (2, .int (nI (i + 1)))] (by simp [cntN, vReal, hei, hr1, hr3]) ?_
              exact ih (i + 1) (by omega) (by omega)
  refine x_sub [(0, .ref A), (1, .int 0), (2, .int 0)] [2, 1, 0] rfl ?_
  exact loop4 (dx * dy + 1) 0 (by omega) (by omega)
theorem dX12_distinct_0 : decode cX12_distinct 0 = .ok (.iconst 0, 1) := by decide +kernel
theorem dX12_distinct_1 : decode cX12_distinct 1 = .ok (.istore_n 1, 1) := by decide +kernel
theorem dX12_distinct_2 : decode cX12_distinct 2 = .ok (.iconst 0, 1) := by decide +kernel
theorem dX12_distinct_3 : decode cX12_distinct 3 = .ok (.istore_n 2, 1) := by decide +kernel
theorem dX12_distinct_4 : decode cX12_distinct 4 = .ok (.iload_n 2, 1) := by decide +kernel
theorem dX12_distinct_5 : decode cX12_distinct 5 = .ok (.aload_n 0, 1) := by decide +kernel
theorem dX12_distinct_6 : decode cX12_distinct 6 = .ok (.invokevirtual 67, 3) := by decide +kernel
theorem dX12_distinct_9 : decode cX12_distinct 9 = .ok (.if_icmp .ge 52, 3) := by decide +kernel
theorem dX12_distinct_12 : decode cX12_distinct 12 = .ok (.aload_n 0, 1) := by decide +kernel
theorem dX12_distinct_13 : decode cX12_distinct 13 = .ok (.iload_n 2, 1) := by decide +kernel
theorem dX12_distinct_14 : decode cX12_distinct 14 = .ok (.invokevirtual 218, 3) := by decide +kernel
theorem dX12_distinct_17 : decode cX12_distinct 17 = .ok (.ifCond .eq 11, 3) := by decide +kernel
theorem dX12_distinct_20 : decode cX12_distinct 20 = .ok (.aload_n 0, 1) := by decide +kernel
theorem dX12_distinct_21 : decode cX12_distinct 21 = .ok (.iload_n 2, 1) := by decide +kernel
theorem dX12_distinct_22 : decode cX12_distinct 22 = .ok (.invokevirtual 224, 3) := by decide +kernel
theorem dX12_distinct_25 : decode cX12_distinct 25 = .ok (.goto 4, 3) := by decide +kernel
theorem dX12_distinct_28 : decode cX12_distinct 28 = .ok (.iconst (-1), 1) := by decide +kernel
theorem dX12_distinct_29 : decode cX12_distinct 29 = .ok (.istore_n 3, 1) := by decide +kernel
theorem dX12_distinct_30 : decode cX12_distinct 30 = .ok (.iload_n 1, 1) := by decide +kernel
theorem dX12_distinct_31 : decode cX12_distinct 31 = .ok (.aload_n 0, 1) := by decide +kernel
theorem dX12_distinct_32 : decode cX12_distinct 32 = .ok (.iload_n 2, 1) := by decide +kernel
theorem dX12_distinct_33 : decode cX12_distinct 33 = .ok (.invokevirtual 218, 3) := by decide +kernel
theorem dX12_distinct_36 : decode cX12_distinct 36 = .ok (.ifCond .eq 16, 3) := by decide +kernel
theorem dX12_distinct_39 : decode cX12_distinct 39 = .ok (.iload_n 3, 1) := by decide +kernel
theorem dX12_distinct_40 : decode cX12_distinct 40 = .ok (.ifCond .lt 8, 3) := by decide +kernel
theorem dX12_distinct_43 : decode cX12_distinct 43 = .ok (.iload_n 3, 1) := by decide +kernel
theorem dX12_distinct_44 : decode cX12_distinct 44 = .ok (.iload_n 2, 1) := by decide +kernel
theorem dX12_distinct_45 : decode cX12_distinct 45 = .ok (.if_icmp .le 7, 3) := by decide +kernel
theorem dX12_distinct_48 : decode cX12_distinct 48 = .ok (.iconst 1, 1) := by decide +kernel
theorem dX12_distinct_49 : decode cX12_distinct 49 = .ok (.goto 4, 3) := by decide +kernel
theorem dX12_distinct_52 : decode cX12_distinct 52 = .ok (.iconst 0, 1) := by decide +kernel
theorem dX12_distinct_53 : decode cX12_distinct 53 = .ok (.iadd, 1) := by decide +kernel
theorem dX12_distinct_54 : decode cX12_distinct 54 = .ok (.istore_n 1, 1) := by decide +kernel
theorem dX12_distinct_55 : decode cX12_distinct 55 = .ok (.iinc 2 1, 3) := by decide +kernel
theorem dX12_distinct_58 : decode cX12_distinct 58 = .ok (.goto (-54), 3) := by decide +kernel
theorem dX12_distinct_61 : decode cX12_distinct 61 = .ok (.iload_n 1, 1) := by decide +kernel
theorem dX12_distinct_62 : decode cX12_distinct 62 = .ok (.ireturn, 1) := by decide +kernel
set_option maxHeartbeats 1000000 in
set_option maxRecDepth 100000 in
theorem t_X12_distinct (l : Launch) (D : xD) (z n : Nat) (G : xG) (I : xI) (L : xL) (A : Nat) (dx : Nat) (dy : Nat) (hM : shMo G A) (hdx : I (A + 1) 40 = nI dx) (hdy : I (A + 1) 41 = nI dy) (hd3 : dx * dy ≤ 9) (hprs : ∀ i, i < dx * dy → I (A + 1) (50 + 12 * i + 3) = 10 ∨ I (A + 1) (50 + 12 * i + 3) = 18) : xM0 l D z yX12_distinct cX12_distinct 4 (some .int) 4 89 [.ref A] n G I L (xE (some (.int (nI (cntN (fun i => vSt (mV I A) 1 i && (findN (vMet (mV I A) (I (A + 1) 47) i) i).isNone) (dx * dy))))) I L) := by
  refine xM.of (by decide) (Nat.le_of_ble_eq_true rfl) (fun p e s m args below meth c C hnm hsz => ?_)
  refine x_lv [(0, .ref A)] rfl ?_
  refine x_iconst 0 C (v := 0) dX12_distinct_0 rfl ?_
  refine x_istore_n 1 C [(1, .int 0), (0, .ref A)] dX12_distinct_1 rfl (by decide) rfl ?_
  refine x_iconst 2 C (v := 0) dX12_distinct_2 rfl ?_
  refine x_istore_n 3 C [(2, .int 0), (1, .int 0), (0, .ref A)] dX12_distinct_3 rfl (by decide) rfl ?_
  have loop4 : ∀ (fuel : Nat) (i : Nat), (i ≤ dx * dy) → (dx * dy + 1 ≤ i + fuel) → X p l e (xRm 4 89 0 0) s m args below meth c D z 4 (MQ below (xQc D z n (xN n G (xE (some (.int (nI (cntN (fun i => vSt (mV I A) 1 i && (findN (vMet (mV I A) (I (A + 1) 47) i) i).isNone) (dx * dy))))) I L))) args s 0 0 (fun a => z ≤ a)) 0 0 n G I L 4 [(0, .ref A), (1, .int (nI (cntN (fun i => vSt (mV I A) 1 i && (findN (vMet (mV I A) (I (A + 1) 47) i) i).isNone) i))), (2, .int (nI i))] [] := by
    intro fuel
    induction fuel with
    | zero =>
      intro i hi hf
      exact absurd hf (by omega)
    | succ fuel ih =>
      intro i hi hf
      refine x_iload_n 4 C dX12_distinct_4 rfl 2 rfl ?_
      refine x_aload_n 5 C dX12_distinct_5 rfl 0 rfl ?_
      refine x_callVe 6 C dX12_distinct_6 (As := []) (rest := [.int (nI i)]) [.int (nI (dx * dy)), .int (nI i)] (t_X12_paths l D z n G I L A dx dy hM hdx hdy) mt_X12_paths km_X12_67 ki_X12_paths ks_X12_paths hM.1 ⟨by decide, rfl⟩ rfl rfl (Nat.le_of_ble_eq_true rfl) ⟨⟨by decide, by decide⟩, by decide, by decide⟩ (fun I1 L2 eI1 eL2 => ?_)
      replace eI1 := eI1.symm; subst eI1
      replace eL2 := eL2.symm; subst eL2
      refine x_icmp_ge 9 C 61 dX12_distinct_9 (by decide) (fun c3 => ?_) (fun c3 => ?_)
      · skip
        have c3n : (dx * dy) ≤ i := (nI_leI (a := (dx * dy)) (b := i) (by omega) (by omega)).mp c3
        have c3m : ¬ (i < (dx * dy)) := by omega
        have c3o := Int32.not_lt.mpr c3
        refine x_iload_n 61 C dX12_distinct_61 rfl 1 rfl ?_
        refine x_iret 62 C dX12_distinct_62 rfl rfl (Nat.le_refl _) (xN.intro ?_)
        have hiU : i = dx * dy := by omega
        subst hiU
        exact ⟨rfl, rfl, rfl⟩
      · skip
        have c3n : ¬ ((dx * dy) ≤ i) := fun h => c3 ((nI_leI (a := (dx * dy)) (b := i) (by omega) (by omega)).mpr h)
        have c3m : i < (dx * dy) := by omega
        have c3o := Int32.not_le.mp c3
        refine x_aload_n 12 C dX12_distinct_12 rfl 0 rfl ?_
        refine x_iload_n 13 C dX12_distinct_13 rfl 2 rfl ?_
        refine x_callVe 14 C dX12_distinct_14 (As := [.int (nI i)]) (rest := []) [.int (bI (decide (I (A + 1) (50 + 12 * i + 5) = 1)))] (t_X12_isAtEnd l D z n G I L A i hM (by first | omega | assumption | decide)) mt_X12_isAtEnd km_X12_218 ki_X12_isAtEnd ks_X12_isAtEnd hM.1 ⟨by decide, rfl⟩ rfl rfl (Nat.le_of_ble_eq_true rfl) ⟨⟨by decide, by decide⟩, by decide, by decide⟩ (fun I4 L5 eI4 eL5 => ?_)
        replace eI4 := eI4.symm; subst eI4
        replace eL5 := eL5.symm; subst eL5
        refine x_if_eq 17 C 28 dX12_distinct_17 (by decide) (fun c6 => ?_) (fun c6 => ?_)
        · skip
          have hei : vSt (mV I A) 1 i = false := bI_0.mp c6
          refine x_iconst 28 C (v := (-1)) dX12_distinct_28 rfl ?_
          refine x_istore_n 29 C [(3, .int (-1)), (0, .ref A), (1, .int (nI (cntN (fun i => vSt (mV I A) 1 i && (findN (vMet (mV I A) (I (A + 1) 47) i) i).isNone) i))), (2, .int (nI i))] dX12_distinct_29 rfl (by decide) rfl ?_
          refine x_iload_n 30 C dX12_distinct_30 rfl 2 rfl ?_
          refine x_aload_n 31 C dX12_distinct_31 rfl 1 rfl ?_
          refine x_iload_n 32 C dX12_distinct_32 rfl 3 rfl ?_
          refine x_callVe 33 C dX12_distinct_33 (As := [.int (nI i)]) (rest := [.int (nI (cntN (fun i => vSt (mV I A) 1 i && (findN (vMet (mV I A) (I (A + 1) 47) i) i).isNone) i))]) [.int (bI (decide (I (A + 1) (50 + 12 * i + 5) = 1))), .int (nI (cntN (fun i => vSt (mV I A) 1 i && (findN (vMet (mV I A) (I (A + 1) 47) i) i).isNone) i))] (t_X12_isAtEnd l D z n G I L A i hM (by first | omega | assumption | decide)) mt_X12_isAtEnd km_X12_218 ki_X12_isAtEnd ks_X12_isAtEnd hM.1 ⟨by decide, rfl⟩ rfl rfl (Nat.le_of_ble_eq_true rfl) ⟨⟨by decide, by decide⟩, by decide, by decide⟩ (fun I7 L8 eI7 eL8 => ?_)
          replace eI7 := eI7.symm; subst eI7
          replace eL8 := eL8.symm; subst eL8
          refine x_if_eq 36 C 52 dX12_distinct_36 (by decide) (fun _ => ?_) (fun c9 => absurd c6 c9)
          refine x_iconst 52 C (v := 0) dX12_distinct_52 rfl ?_
          refine x_iadd 53 C dX12_distinct_53 ?_
          refine x_int (nI (cntN (fun i => vSt (mV I A) 1 i && (findN (vMet (mV I A) (I (A + 1) 47) i) i).isNone) i + 0)) (nI_add (cntN (fun i => vSt (mV I A) 1 i && (findN (vMet (mV I A) (I (A + 1) 47) i) i).isNone) i) 0) ?_
          refine x_istore_n 54 C [(1, .int (nI (cntN (fun i => vSt (mV I A) 1 i && (findN (vMet (mV I A) (I (A + 1) 47) i) i).isNone) i + 0))), (3, .int (-1)), (0, .ref A), (2, .int (nI i))] dX12_distinct_54 rfl (by decide) rfl ?_
          refine x_iinc 55 C [(2, .int (nI (i + 1))), (1, .int (nI (cntN (fun i => vSt (mV I A) 1 i && (findN (vMet (mV I A) (I (A + 1) 47) i) i).isNone) i + 0))), (3, .int (-1)), (0, .ref A)] dX12_distinct_55 3 rfl (nI_add i 1) (by decide) rfl ?_
          refine x_goto 58 C 4 dX12_distinct_58 (by decide) ?_
          refine x_sub [(0, .ref A), (1, .int (nI (cntN (fun i => vSt (mV I A) 1 i && (findN (vMet (mV I A) (I (A + 1) 47) i) i).isNone) i + 0))), (2, .int (nI (i + 1)))] [3, 1, 0] rfl ?_
          refine x_lv [(0, .ref A), (1, .int (nI (cntN (fun i => vSt (mV I A) 1 i && (findN (vMet (mV I A) (I (A + 1) 47) i) i).isNone) (i + 1)))), (2, .int (nI (i + 1)))] (by simp [cntN, hei]) ?_
          exact ih (i + 1) (by omega) (by omega)
        · skip
          have hei : vSt (mV I A) 1 i = true := bI_n0.mp c6
          refine x_aload_n 20 C dX12_distinct_20 rfl 0 rfl ?_
          refine x_iload_n 21 C dX12_distinct_21 rfl 2 rfl ?_
          refine x_callVe 22 C dX12_distinct_22 (As := [.int (nI i)]) (rest := []) [.int (oI (findN (vMet (mV I A) (I (A + 1) 47) i) (dx * dy)))] (t_X12_firstMet l D z n G I L A i dx dy hM (by first | assumption | omega | decide) (by first | assumption | omega | decide) (by first | omega | assumption | decide) (by omega) (by first | omega | assumption | decide) (of_decide_eq_true hei)) mt_X12_firstMet km_X12_224 ki_X12_firstMet ks_X12_firstMet hM.1 ⟨by decide, rfl⟩ rfl rfl (Nat.le_of_ble_eq_true rfl) ⟨⟨by decide, by decide⟩, by decide, by decide⟩ (fun I10 L11 eI10 eL11 => ?_)
          replace eI10 := eI10.symm; subst eI10
          replace eL11 := eL11.symm; subst eL11
          refine x_goto 25 C 29 dX12_distinct_25 (by decide) ?_
          refine x_istore_n 29 C [(3, .int (oI (findN (vMet (mV I A) (I (A + 1) 47) i) (dx * dy)))), (0, .ref A), (1, .int (nI (cntN (fun i => vSt (mV I A) 1 i && (findN (vMet (mV I A) (I (A + 1) 47) i) i).isNone) i))), (2, .int (nI i))] dX12_distinct_29 rfl (by decide) rfl ?_
          refine x_iload_n 30 C dX12_distinct_30 rfl 2 rfl ?_
          refine x_aload_n 31 C dX12_distinct_31 rfl 1 rfl ?_
          refine x_iload_n 32 C dX12_distinct_32 rfl 3 rfl ?_
          refine x_callVe 33 C dX12_distinct_33 (As := [.int (nI i)]) (rest := [.int (nI (cntN (fun i => vSt (mV I A) 1 i && (findN (vMet (mV I A) (I (A + 1) 47) i) i).isNone) i))]) [.int (bI (decide (I (A + 1) (50 + 12 * i + 5) = 1))), .int (nI (cntN (fun i => vSt (mV I A) 1 i && (findN (vMet (mV I A) (I (A + 1) 47) i) i).isNone) i))] (t_X12_isAtEnd l D z n G I L A i hM (by first | omega | assumption | decide)) mt_X12_isAtEnd km_X12_218 ki_X12_isAtEnd ks_X12_isAtEnd hM.1 ⟨by decide, rfl⟩ rfl rfl (Nat.le_of_ble_eq_true rfl) ⟨⟨by decide, by decide⟩, by decide, by decide⟩ (fun I12 L13 eI12 eL13 => ?_)
          replace eI12 := eI12.symm; subst eI12
          replace eL13 := eL13.symm; subst eL13
          refine x_if_eq 36 C 52 dX12_distinct_36 (by decide) (fun c14 => absurd c14 c6) (fun _ => ?_)
          refine x_iload_n 39 C dX12_distinct_39 rfl 0 rfl ?_
          refine x_if_lt 40 C 48 dX12_distinct_40 (by decide) (fun c15 => ?_) (fun c15 => ?_)
          · skip
            have c15o := Int32.not_le.mpr c15
            have hin : (findN (vMet (mV I A) (I (A + 1) 47) i) i).isNone = true := (met_iff (p := vMet (mV I A) (I (A + 1) 47) i) (k := i) (U := dx * dy) (by omega) hd3 (vMet_self _ _ _)).mpr (Or.inl c15)
            refine x_iconst 48 C (v := 1) dX12_distinct_48 rfl ?_
            refine x_goto 49 C 53 dX12_distinct_49 (by decide) ?_
            refine x_iadd 53 C dX12_distinct_53 ?_
            refine x_int (nI (cntN (fun i => vSt (mV I A) 1 i && (findN (vMet (mV I A) (I (A + 1) 47) i) i).isNone) i + 1)) (nI_add (cntN (fun i => vSt (mV I A) 1 i && (findN (vMet (mV I A) (I (A + 1) 47) i) i).isNone) i) 1) ?_
            refine x_istore_n 54 C [(1, .int (nI (cntN (fun i => vSt (mV I A) 1 i && (findN (vMet (mV I A) (I (A + 1) 47) i) i).isNone) i + 1))), (3, .int (oI (findN (vMet (mV I A) (I (A + 1) 47) i) (dx * dy)))), (0, .ref A), (2, .int (nI i))] dX12_distinct_54 rfl (by decide) rfl ?_
            refine x_iinc 55 C [(2, .int (nI (i + 1))), (1, .int (nI (cntN (fun i => vSt (mV I A) 1 i && (findN (vMet (mV I A) (I (A + 1) 47) i) i).isNone) i + 1))), (3, .int (oI (findN (vMet (mV I A) (I (A + 1) 47) i) (dx * dy)))), (0, .ref A)] dX12_distinct_55 3 rfl (nI_add i 1) (by decide) rfl ?_
            refine x_goto 58 C 4 dX12_distinct_58 (by decide) ?_
            refine x_sub [(0, .ref A), (1, .int (nI (cntN (fun i => vSt (mV I A) 1 i && (findN (vMet (mV I A) (I (A + 1) 47) i) i).isNone) i + 1))), (2, .int (nI (i + 1)))] [3, 1, 0] rfl ?_
            refine x_lv [(0, .ref A), (1, .int (nI (cntN (fun i => vSt (mV I A) 1 i && (findN (vMet (mV I A) (I (A + 1) 47) i) i).isNone) (i + 1)))), (2, .int (nI (i + 1)))] (by simp [cntN, hei, hin]) ?_
            exact ih (i + 1) (by omega) (by omega)
          · skip
            have c15o := Int32.not_lt.mp c15
            have hnl := c15
            refine x_iload_n 43 C dX12_distinct_43 rfl 0 rfl ?_
            refine x_iload_n 44 C dX12_distinct_44 rfl 3 rfl ?_
            refine x_icmp_le 45 C 52 dX12_distinct_45 (by decide) (fun c16 => ?_) (fun c16 => ?_)
            · skip
              have c16o := Int32.not_lt.mpr c16
              have hin : (findN (vMet (mV I A) (I (A + 1) 47) i) i).isNone = false := Bool.eq_false_iff.mpr (fun h => ((met_iff (p := vMet (mV I A) (I (A + 1) 47) i) (k := i) (U := dx * dy) (by omega) hd3 (vMet_self _ _ _)).mp h).elim (fun h2 => absurd h2 hnl) (fun h2 => absurd h2 (Int32.not_lt.mpr c16)))
              refine x_iconst 52 C (v := 0) dX12_distinct_52 rfl ?_
              refine x_iadd 53 C dX12_distinct_53 ?_
              refine x_int (nI (cntN (fun i => vSt (mV I A) 1 i && (findN (vMet (mV I A) (I (A + 1) 47) i) i).isNone) i + 0)) (nI_add (cntN (fun i => vSt (mV I A) 1 i && (findN (vMet (mV I A) (I (A + 1) 47) i) i).isNone) i) 0) ?_
              refine x_istore_n 54 C [(1, .int (nI (cntN (fun i => vSt (mV I A) 1 i && (findN (vMet (mV I A) (I (A + 1) 47) i) i).isNone) i + 0))), (3, .int (oI (findN (vMet (mV I A) (I (A + 1) 47) i) (dx * dy)))), (0, .ref A), (2, .int (nI i))] dX12_distinct_54 rfl (by decide) rfl ?_
              refine x_iinc 55 C [(2, .int (nI (i + 1))), (1, .int (nI (cntN (fun i => vSt (mV I A) 1 i && (findN (vMet (mV I A) (I (A + 1) 47) i) i).isNone) i + 0))), (3, .int (oI (findN (vMet (mV I A) (I (A + 1) 47) i) (dx * dy)))), (0, .ref A)] dX12_distinct_55 3 rfl (nI_add i 1) (by decide) rfl ?_
              refine x_goto 58 C 4 dX12_distinct_58 (by decide) ?_
              refine x_sub [(0, .ref A), (1, .int (nI (cntN (fun i => vSt (mV I A) 1 i && (findN (vMet (mV I A) (I (A + 1) 47) i) i).isNone) i + 0))), (2, .int (nI (i + 1)))] [3, 1, 0] rfl ?_
              refine x_lv [(0, .ref A), (1, .int (nI (cntN (fun i => vSt (mV I A) 1 i && (findN (vMet (mV I A) (I (A + 1) 47) i) i).isNone) (i + 1)))), (2, .int (nI (i + 1)))] (by simp [cntN, hei, hin]) ?_
              exact ih (i + 1) (by omega) (by omega)
            · skip
              have c16o := Int32.not_le.mp c16
              have hin : (findN (vMet (mV I A) (I (A + 1) 47) i) i).isNone = true := (met_iff (p := vMet (mV I A) (I (A + 1) 47) i) (k := i) (U := dx * dy) (by omega) hd3 (vMet_self _ _ _)).mpr (Or.inr (Int32.not_le.mp c16))
              refine x_iconst 48 C (v := 1) dX12_distinct_48 rfl ?_
              refine x_goto 49 C 53 dX12_distinct_49 (by decide) ?_
              refine x_iadd 53 C dX12_distinct_53 ?_
              refine x_int (nI (cntN (fun i => vSt (mV I A) 1 i && (findN (vMet (mV I A) (I (A + 1) 47) i) i).isNone) i + 1)) (nI_add (cntN (fun i => vSt (mV I A) 1 i && (findN (vMet (mV I A) (I (A + 1) 47) i) i).isNone) i) 1) ?_
              refine x_istore_n 54 C [(1, .int (nI (cntN (fun i => vSt (mV I A) 1 i && (findN (vMet (mV I A) (I (A + 1) 47) i) i).isNone) i + 1))), (3, .int (oI (findN (vMet (mV I A) (I (A + 1) 47) i) (dx * dy)))), (0, .ref A), (2, .int (nI i))] dX12_distinct_54 rfl (by decide) rfl ?_
              refine x_iinc 55 C [(2, .int (nI (i + 1))), (1, .int (nI (cntN (fun i => vSt (mV I A) 1 i && (findN (vMet (mV I A) (I (A + 1) 47) i) i).isNone) i + 1))), (3, .int (oI (findN (vMet (mV I A) (I (A + 1) 47) i) (dx * dy)))), (0, .ref A)] dX12_distinct_55 3 rfl (nI_add i 1) (by decide) rfl ?_
              refine x_goto 58 C 4 dX12_distinct_58 (by decide) ?_
              refine x_sub [(0, .ref A), (1, .int (nI (cntN (fun i => vSt (mV I A) 1 i && (findN (vMet (mV I A) (I (A + 1) 47) i) i).isNone) i + 1))), (2, .int (nI (i + 1)))] [3, 1, 0] rfl ?_
              refine x_lv [(0, .ref A), (1, .int (nI (cntN (fun i => vSt (mV I A) 1 i && (findN (vMet (mV I A) (I (A + 1) 47) i) i).isNone) (i + 1)))), (2, .int (nI (i + 1)))] (by simp [cntN, hei, hin]) ?_
              exact ih (i + 1) (by omega) (by omega)
  refine x_sub [(0, .ref A), (1, .int 0), (2, .int 0)] [2, 1, 0] rfl ?_
  exact loop4 (dx * dy + 1) 0 (by omega) (by omega)
theorem dX12_next_0 : decode cX12_next 0 = .ok (.iconst (-1), 1) := by decide +kernel
theorem dX12_next_1 : decode cX12_next 1 = .ok (.istore_n 1, 1) := by decide +kernel
theorem dX12_next_2 : decode cX12_next 2 = .ok (.iconst 0, 1) := by decide +kernel
theorem dX12_next_3 : decode cX12_next 3 = .ok (.istore_n 2, 1) := by decide +kernel
theorem dX12_next_4 : decode cX12_next 4 = .ok (.iload_n 2, 1) := by decide +kernel
theorem dX12_next_5 : decode cX12_next 5 = .ok (.aload_n 0, 1) := by decide +kernel
theorem dX12_next_6 : decode cX12_next 6 = .ok (.invokevirtual 67, 3) := by decide +kernel
theorem dX12_next_9 : decode cX12_next 9 = .ok (.if_icmp .ge 118, 3) := by decide +kernel
theorem dX12_next_12 : decode cX12_next 12 = .ok (.aload_n 0, 1) := by decide +kernel
theorem dX12_next_13 : decode cX12_next 13 = .ok (.iload_n 2, 1) := by decide +kernel
theorem dX12_next_14 : decode cX12_next 14 = .ok (.invokevirtual 189, 3) := by decide +kernel
theorem dX12_next_17 : decode cX12_next 17 = .ok (.ifCond .eq 104, 3) := by decide +kernel
theorem dX12_next_20 : decode cX12_next 20 = .ok (.iload_n 2, 1) := by decide +kernel
theorem dX12_next_21 : decode cX12_next 21 = .ok (.invokestatic 146, 3) := by decide +kernel
theorem dX12_next_24 : decode cX12_next 24 = .ok (.istore_n 3, 1) := by decide +kernel
theorem dX12_next_25 : decode cX12_next 25 = .ok (.iload_n 1, 1) := by decide +kernel
theorem dX12_next_26 : decode cX12_next 26 = .ok (.ifCond .ge 7, 3) := by decide +kernel
theorem dX12_next_29 : decode cX12_next 29 = .ok (.iload_n 3, 1) := by decide +kernel
theorem dX12_next_30 : decode cX12_next 30 = .ok (.goto 7, 3) := by decide +kernel
theorem dX12_next_33 : decode cX12_next 33 = .ok (.iload_n 1, 1) := by decide +kernel
theorem dX12_next_34 : decode cX12_next 34 = .ok (.invokestatic 146, 3) := by decide +kernel
theorem dX12_next_37 : decode cX12_next 37 = .ok (.istore 4, 2) := by decide +kernel
theorem dX12_next_39 : decode cX12_next 39 = .ok (.aload_n 0, 1) := by decide +kernel
theorem dX12_next_40 : decode cX12_next 40 = .ok (.getfield 7, 3) := by decide +kernel
theorem dX12_next_43 : decode cX12_next 43 = .ok (.iload_n 3, 1) := by decide +kernel
theorem dX12_next_44 : decode cX12_next 44 = .ok (.iconst 0, 1) := by decide +kernel
theorem dX12_next_45 : decode cX12_next 45 = .ok (.iadd, 1) := by decide +kernel
theorem dX12_next_46 : decode cX12_next 46 = .ok (.iaload, 1) := by decide +kernel
theorem dX12_next_47 : decode cX12_next 47 = .ok (.aload_n 0, 1) := by decide +kernel
theorem dX12_next_48 : decode cX12_next 48 = .ok (.getfield 7, 3) := by decide +kernel
theorem dX12_next_51 : decode cX12_next 51 = .ok (.iload 4, 2) := by decide +kernel
theorem dX12_next_53 : decode cX12_next 53 = .ok (.iconst 0, 1) := by decide +kernel
theorem dX12_next_54 : decode cX12_next 54 = .ok (.iadd, 1) := by decide +kernel
theorem dX12_next_55 : decode cX12_next 55 = .ok (.iaload, 1) := by decide +kernel
theorem dX12_next_56 : decode cX12_next 56 = .ok (.if_icmp .lt 43, 3) := by decide +kernel
theorem dX12_next_59 : decode cX12_next 59 = .ok (.aload_n 0, 1) := by decide +kernel
theorem dX12_next_60 : decode cX12_next 60 = .ok (.getfield 7, 3) := by decide +kernel
theorem dX12_next_63 : decode cX12_next 63 = .ok (.iload_n 3, 1) := by decide +kernel
theorem dX12_next_64 : decode cX12_next 64 = .ok (.iconst 0, 1) := by decide +kernel
theorem dX12_next_65 : decode cX12_next 65 = .ok (.iadd, 1) := by decide +kernel
theorem dX12_next_66 : decode cX12_next 66 = .ok (.iaload, 1) := by decide +kernel
theorem dX12_next_67 : decode cX12_next 67 = .ok (.aload_n 0, 1) := by decide +kernel
theorem dX12_next_68 : decode cX12_next 68 = .ok (.getfield 7, 3) := by decide +kernel
theorem dX12_next_71 : decode cX12_next 71 = .ok (.iload 4, 2) := by decide +kernel
theorem dX12_next_73 : decode cX12_next 73 = .ok (.iconst 0, 1) := by decide +kernel
theorem dX12_next_74 : decode cX12_next 74 = .ok (.iadd, 1) := by decide +kernel
theorem dX12_next_75 : decode cX12_next 75 = .ok (.iaload, 1) := by decide +kernel
theorem dX12_next_76 : decode cX12_next 76 = .ok (.if_icmp .ne 27, 3) := by decide +kernel
theorem dX12_next_79 : decode cX12_next 79 = .ok (.aload_n 0, 1) := by decide +kernel
theorem dX12_next_80 : decode cX12_next 80 = .ok (.getfield 7, 3) := by decide +kernel
theorem dX12_next_83 : decode cX12_next 83 = .ok (.iload_n 3, 1) := by decide +kernel
theorem dX12_next_84 : decode cX12_next 84 = .ok (.iconst 1, 1) := by decide +kernel
theorem dX12_next_85 : decode cX12_next 85 = .ok (.iadd, 1) := by decide +kernel
theorem dX12_next_86 : decode cX12_next 86 = .ok (.iaload, 1) := by decide +kernel
theorem dX12_next_87 : decode cX12_next 87 = .ok (.aload_n 0, 1) := by decide +kernel
theorem dX12_next_88 : decode cX12_next 88 = .ok (.getfield 7, 3) := by decide +kernel
theorem dX12_next_91 : decode cX12_next 91 = .ok (.iload 4, 2) := by decide +kernel
theorem dX12_next_93 : decode cX12_next 93 = .ok (.iconst 1, 1) := by decide +kernel
theorem dX12_next_94 : decode cX12_next 94 = .ok (.iadd, 1) := by decide +kernel
theorem dX12_next_95 : decode cX12_next 95 = .ok (.iaload, 1) := by decide +kernel
theorem dX12_next_96 : decode cX12_next 96 = .ok (.if_icmp .ge 7, 3) := by decide +kernel
theorem dX12_next_99 : decode cX12_next 99 = .ok (.iconst 1, 1) := by decide +kernel
theorem dX12_next_100 : decode cX12_next 100 = .ok (.goto 4, 3) := by decide +kernel
theorem dX12_next_103 : decode cX12_next 103 = .ok (.iconst 0, 1) := by decide +kernel
theorem dX12_next_104 : decode cX12_next 104 = .ok (.istore 5, 2) := by decide +kernel
theorem dX12_next_106 : decode cX12_next 106 = .ok (.iload_n 1, 1) := by decide +kernel
theorem dX12_next_107 : decode cX12_next 107 = .ok (.ifCond .lt 8, 3) := by decide +kernel
theorem dX12_next_110 : decode cX12_next 110 = .ok (.iload 5, 2) := by decide +kernel
theorem dX12_next_112 : decode cX12_next 112 = .ok (.ifCond .eq 7, 3) := by decide +kernel
theorem dX12_next_115 : decode cX12_next 115 = .ok (.iload_n 2, 1) := by decide +kernel
theorem dX12_next_116 : decode cX12_next 116 = .ok (.goto 4, 3) := by decide +kernel
theorem dX12_next_119 : decode cX12_next 119 = .ok (.iload_n 1, 1) := by decide +kernel
theorem dX12_next_120 : decode cX12_next 120 = .ok (.istore_n 1, 1) := by decide +kernel
theorem dX12_next_121 : decode cX12_next 121 = .ok (.iinc 2 1, 3) := by decide +kernel
theorem dX12_next_124 : decode cX12_next 124 = .ok (.goto (-120), 3) := by decide +kernel
theorem dX12_next_127 : decode cX12_next 127 = .ok (.iload_n 1, 1) := by decide +kernel
theorem dX12_next_128 : decode cX12_next 128 = .ok (.ifCond .ge 8, 3) := by decide +kernel
theorem dX12_next_131 : decode cX12_next 131 = .ok (.ldc 227, 2) := by decide +kernel
theorem dX12_next_133 : decode cX12_next 133 = .ok (.goto 4, 3) := by decide +kernel
theorem dX12_next_136 : decode cX12_next 136 = .ok (.iload_n 1, 1) := by decide +kernel
theorem dX12_next_137 : decode cX12_next 137 = .ok (.ireturn, 1) := by decide +kernel
set_option maxHeartbeats 1000000 in
set_option maxRecDepth 100000 in
theorem t_X12_next (l : Launch) (D : xD) (z n : Nat) (G : xG) (I : xI) (L : xL) (A : Nat) (dx : Nat) (dy : Nat) (hM : shMo G A) (hdx : I (A + 1) 40 = nI dx) (hdy : I (A + 1) 41 = nI dy) (hd3 : dx * dy ≤ 9) : xM0 l D z yX12_next cX12_next 6 (some .int) 2 41 [.ref A] n G I L (xE (some (.int (nfO (vMb (mV I A) (dx * dy))))) I L) := by
  refine xM.of (by decide) (Nat.le_of_ble_eq_true rfl) (fun p e s m args below meth c C hnm hsz => ?_)
  refine x_lv [(0, .ref A)] rfl ?_
  refine x_iconst 0 C (v := (-1)) dX12_next_0 rfl ?_
  refine x_istore_n 1 C [(1, .int (-1)), (0, .ref A)] dX12_next_1 rfl (by decide) rfl ?_
  refine x_iconst 2 C (v := 0) dX12_next_2 rfl ?_
  refine x_istore_n 3 C [(2, .int 0), (1, .int (-1)), (0, .ref A)] dX12_next_3 rfl (by decide) rfl ?_
  have loop4 : ∀ (fuel : Nat) (i : Nat) (fo : Int32), (i ≤ dx * dy) → (dx * dy + 1 ≤ i + fuel) → ((vMb (mV I A) i = none ∧ fo = -1) ∨ (∃ f, vMb (mV I A) i = some f ∧ fo = nI f)) → X p l e (xRm 2 41 0 0) s m args below meth c D z 6 (MQ below (xQc D z n (xN n G (xE (some (.int (nfO (vMb (mV I A) (dx * dy))))) I L))) args s 0 0 (fun a => z ≤ a)) 0 0 n G I L 4 [(0, .ref A), (1, .int fo), (2, .int (nI i))] [] := by
    intro fuel
    induction fuel with
    | zero =>
      intro i fo hi hf hfo
      exact absurd hf (by omega)
    | succ fuel ih =>
      intro i fo hi hf hfo
      refine x_iload_n 4 C dX12_next_4 rfl 2 rfl ?_
      refine x_aload_n 5 C dX12_next_5 rfl 0 rfl ?_
      refine x_callVe 6 C dX12_next_6 (As := []) (rest := [.int (nI i)]) [.int (nI (dx * dy)), .int (nI i)] (t_X12_paths l D z n G I L A dx dy hM hdx hdy) mt_X12_paths km_X12_67 ki_X12_paths ks_X12_paths hM.1 ⟨by decide, rfl⟩ rfl rfl (Nat.le_of_ble_eq_true rfl) ⟨⟨by decide, by decide⟩, by decide, by decide⟩ (fun I1 L2 eI1 eL2 => ?_)
      replace eI1 := eI1.symm; subst eI1
      replace eL2 := eL2.symm; subst eL2
      refine x_icmp_ge 9 C 127 dX12_next_9 (by decide) (fun c3 => ?_) (fun c3 => ?_)
      · skip
        have c3n : (dx * dy) ≤ i := (nI_leI (a := (dx * dy)) (b := i) (by omega) (by omega)).mp c3
        have c3m : ¬ (i < (dx * dy)) := by omega
        have c3o := Int32.not_lt.mpr c3
        refine x_iload_n 127 C dX12_next_127 rfl 1 rfl ?_
        refine x_if_ge 128 C 136 dX12_next_128 (by decide) (fun c4 => ?_) (fun c4 => ?_)
        · skip
          have c4o := Int32.not_lt.mpr c4
          have hfge := c4
          refine x_iload_n 136 C dX12_next_136 rfl 1 rfl ?_
          refine x_iret 137 C dX12_next_137 rfl rfl (Nat.le_refl _) (xN.intro ?_)
          have hiU : i = dx * dy := by omega
          subst hiU
          refine ⟨?_, rfl, rfl⟩
          rcases hfo with ⟨h1, h2⟩ | ⟨f, h1, h2⟩
          · first | exact absurd hfge (by rw [h2]; decide) | (rw [h1]; rfl)
          · first | exact absurd hflt (by rw [h2]; exact fun h => h (nI_pos' (by have := vMb_lt _ _ f h1; omega))) | (rw [h1, h2]; rfl)
        · skip
          have c4o := Int32.not_le.mp c4
          have hflt := c4
          refine x_ldc 131 C (-2000000004) dX12_next_131 kk_X12_227 ?_
          refine x_goto 133 C 137 dX12_next_133 (by decide) ?_
          refine x_iret 137 C dX12_next_137 rfl rfl (Nat.le_refl _) (xN.intro ?_)
          have hiU : i = dx * dy := by omega
          subst hiU
          refine ⟨?_, rfl, rfl⟩
          rcases hfo with ⟨h1, h2⟩ | ⟨f, h1, h2⟩
          · first | exact absurd hfge (by rw [h2]; decide) | (rw [h1]; rfl)
          · first | exact absurd hflt (by rw [h2]; exact fun h => h (nI_pos' (by have := vMb_lt _ _ f h1; omega))) | (rw [h1, h2]; rfl)
      · skip
        have c3n : ¬ ((dx * dy) ≤ i) := fun h => c3 ((nI_leI (a := (dx * dy)) (b := i) (by omega) (by omega)).mpr h)
        have c3m : i < (dx * dy) := by omega
        have c3o := Int32.not_le.mp c3
        refine x_aload_n 12 C dX12_next_12 rfl 0 rfl ?_
        refine x_iload_n 13 C dX12_next_13 rfl 2 rfl ?_
        refine x_callVe 14 C dX12_next_14 (As := [.int (nI i)]) (rest := []) [.int (bI (decide (I (A + 1) (50 + 12 * i + 5) = 0)))] (t_X12_isOnWay l D z n G I L A i hM (by first | omega | assumption | decide)) mt_X12_isOnWay km_X12_189 ki_X12_isOnWay ks_X12_isOnWay hM.1 ⟨by decide, rfl⟩ rfl rfl (Nat.le_of_ble_eq_true rfl) ⟨⟨by decide, by decide⟩, by decide, by decide⟩ (fun I5 L6 eI5 eL6 => ?_)
        replace eI5 := eI5.symm; subst eI5
        replace eL6 := eL6.symm; subst eL6
        refine x_if_eq 17 C 121 dX12_next_17 (by decide) (fun c7 => ?_) (fun c7 => ?_)
        · skip
          have hst : vSt (mV I A) 0 i = false := bI_0.mp c7
          refine x_iinc 121 C [(2, .int (nI (i + 1))), (0, .ref A), (1, .int fo)] dX12_next_121 2 rfl (nI_add i 1) (by decide) rfl ?_
          refine x_goto 124 C 4 dX12_next_124 (by decide) ?_
          refine x_sub [(0, .ref A), (1, .int fo), (2, .int (nI (i + 1)))] [1, 2, 0] rfl ?_
          have hm1 : vMb (mV I A) (i + 1) = vMb (mV I A) i := by simp [vMb, hst]
          exact ih (i + 1) fo (by omega) (by omega) (by rw [hm1]; exact hfo)
        · skip
          have hst : vSt (mV I A) 0 i = true := bI_n0.mp c7
          refine x_iload_n 20 C dX12_next_20 rfl 2 rfl ?_
          refine x_callSe 21 C dX12_next_21 (As := [.int (nI i)]) (rest := []) [.int (nI (50 + 12 * i))] (t_X12_pathAt l D z n G I L i (by first | omega | assumption | decide)) mt_X12_pathAt km_X12_146 kt_X12_pathAt rfl rfl (Nat.le_of_ble_eq_true rfl) ⟨⟨by decide, by decide⟩, by decide, by decide⟩ (fun I8 L9 eI8 eL9 => ?_)
          replace eI8 := eI8.symm; subst eI8
          replace eL9 := eL9.symm; subst eL9
          refine x_istore_n 24 C [(3, .int (nI (50 + 12 * i))), (0, .ref A), (1, .int fo), (2, .int (nI i))] dX12_next_24 rfl (by decide) rfl ?_
          refine x_iload_n 25 C dX12_next_25 rfl 2 rfl ?_
          refine x_if_ge 26 C 33 dX12_next_26 (by decide) (fun c10 => ?_) (fun c10 => ?_)
          · skip
            have c10o := Int32.not_lt.mpr c10
            have hfx : ∃ f, vMb (mV I A) i = some f ∧ fo = nI f := by rcases hfo with ⟨_, h2⟩ | h; rw [h2] at c10; exact absurd c10 (by decide); exact h
            obtain ⟨fN, hmf0, hfe⟩ := hfx
            have hfl := vMb_lt (mV I A) i fN hmf0
            have hmf : _ := hmf0
            have hfp := c10
            refine x_iload_n 33 C dX12_next_33 rfl 2 rfl ?_
            refine x_int (nI fN) hfe ?_
            refine x_callSe 34 C dX12_next_34 (As := [.int (nI fN)]) (rest := []) [.int (nI (50 + 12 * fN))] (t_X12_pathAt l D z n G I L fN (by first | omega | assumption | decide)) mt_X12_pathAt km_X12_146 kt_X12_pathAt rfl rfl (Nat.le_of_ble_eq_true rfl) ⟨⟨by decide, by decide⟩, by decide, by decide⟩ (fun I11 L12 eI11 eL12 => ?_)
            replace eI11 := eI11.symm; subst eI11
            replace eL12 := eL12.symm; subst eL12
            refine x_istore 37 C [(4, .int (nI (50 + 12 * fN))), (3, .int (nI (50 + 12 * i))), (0, .ref A), (1, .int fo), (2, .int (nI i))] dX12_next_37 (by decide) rfl ?_
            refine x_aload_n 39 C dX12_next_39 rfl 2 rfl ?_
            refine x_getr 40 C (b := A + 1) dX12_next_40 ff_X12_7 rfl hM.1 rfl ?_
            refine x_iload_n 43 C dX12_next_43 rfl 1 rfl ?_
            refine x_iconst 44 C (v := 0) dX12_next_44 rfl ?_
            refine x_iadd 45 C dX12_next_45 ?_
            refine x_int (nI (50 + 12 * i + 0)) (nI_add (50 + 12 * i) 0) ?_
            refine x_iald 46 C (j := (50 + 12 * i + 0)) dX12_next_46 hM.2.1 (xIx_nI (by omega) (by decide)) ?_
            refine x_aload_n 47 C dX12_next_47 rfl 2 rfl ?_
            refine x_getr 48 C (b := A + 1) dX12_next_48 ff_X12_7 rfl hM.1 rfl ?_
            refine x_iload 51 C dX12_next_51 0 rfl ?_
            refine x_iconst 53 C (v := 0) dX12_next_53 rfl ?_
            refine x_iadd 54 C dX12_next_54 ?_
            refine x_int (nI (50 + 12 * fN + 0)) (nI_add (50 + 12 * fN) 0) ?_
            refine x_iald 55 C (j := (50 + 12 * fN + 0)) dX12_next_55 hM.2.1 (xIx_nI (by omega) (by decide)) ?_
            refine x_icmp_lt 56 C 99 dX12_next_56 (by decide) (fun c13 => ?_) (fun c13 => ?_)
            · skip
              have c13o := Int32.not_le.mpr c13
              have hbh : vBeh ((mV I A) i) ((mV I A) fN) = true := by unfold vBeh; rw [if_neg (show ¬ ((mV I A) i).1 3 = ((mV I A) fN).1 3 from fun h => absurd (show ((mV I A) i).1 3 < ((mV I A) fN).1 3 from c13) (by rw [h]; exact Int32.lt_irrefl))]; exact decide_eq_true c13
              refine x_iconst 99 C (v := 1) dX12_next_99 rfl ?_
              refine x_goto 100 C 104 dX12_next_100 (by decide) ?_
              refine x_istore 104 C [(5, .int 1), (4, .int (nI (50 + 12 * fN))), (3, .int (nI (50 + 12 * i))), (0, .ref A), (1, .int fo), (2, .int (nI i))] dX12_next_104 (by decide) rfl ?_
              refine x_iload_n 106 C dX12_next_106 rfl 4 rfl ?_
              refine x_if_lt 107 C 115 dX12_next_107 (by decide) (fun c14 => absurd c14 (Int32.not_lt.mpr hfp)) (fun _ => ?_)
              refine x_iload 110 C dX12_next_110 0 rfl ?_
              refine x_if_eq 112 C 119 dX12_next_112 (by decide) (fun c15 => absurd c15 (by decide)) (fun _ => ?_)
              refine x_iload_n 115 C dX12_next_115 rfl 5 rfl ?_
              refine x_goto 116 C 120 dX12_next_116 (by decide) ?_
              refine x_istore_n 120 C [(1, .int (nI i)), (5, .int 1), (4, .int (nI (50 + 12 * fN))), (3, .int (nI (50 + 12 * i))), (0, .ref A), (2, .int (nI i))] dX12_next_120 rfl (by decide) rfl ?_
              refine x_iinc 121 C [(2, .int (nI (i + 1))), (1, .int (nI i)), (5, .int 1), (4, .int (nI (50 + 12 * fN))), (3, .int (nI (50 + 12 * i))), (0, .ref A)] dX12_next_121 5 rfl (nI_add i 1) (by decide) rfl ?_
              refine x_goto 124 C 4 dX12_next_124 (by decide) ?_
              refine x_sub [(0, .ref A), (1, .int (nI i)), (2, .int (nI (i + 1)))] [5, 1, 0] rfl ?_
              have hm1 : vMb (mV I A) (i + 1) = some i := by simp [vMb, hst, hmf, hbh]
              exact ih (i + 1) (nI i) (by omega) (by omega) (Or.inr ⟨i, hm1, rfl⟩)
            · skip
              have c13o := Int32.not_lt.mp c13
              have hge := Int32.not_lt.mp c13
              refine x_aload_n 59 C dX12_next_59 rfl 2 rfl ?_
              refine x_getr 60 C (b := A + 1) dX12_next_60 ff_X12_7 rfl hM.1 rfl ?_
              refine x_iload_n 63 C dX12_next_63 rfl 1 rfl ?_
              refine x_iconst 64 C (v := 0) dX12_next_64 rfl ?_
              refine x_iadd 65 C dX12_next_65 ?_
              refine x_int (nI (50 + 12 * i + 0)) (nI_add (50 + 12 * i) 0) ?_
              refine x_iald 66 C (j := (50 + 12 * i + 0)) dX12_next_66 hM.2.1 (xIx_nI (by omega) (by decide)) ?_
              refine x_aload_n 67 C dX12_next_67 rfl 2 rfl ?_
              refine x_getr 68 C (b := A + 1) dX12_next_68 ff_X12_7 rfl hM.1 rfl ?_
              refine x_iload 71 C dX12_next_71 0 rfl ?_
              refine x_iconst 73 C (v := 0) dX12_next_73 rfl ?_
              refine x_iadd 74 C dX12_next_74 ?_
              refine x_int (nI (50 + 12 * fN + 0)) (nI_add (50 + 12 * fN) 0) ?_
              refine x_iald 75 C (j := (50 + 12 * fN + 0)) dX12_next_75 hM.2.1 (xIx_nI (by omega) (by decide)) ?_
              refine x_icmp_ne 76 C 103 dX12_next_76 (by decide) (fun c16 => ?_) (fun c16 => ?_)
              · skip
                have hbh : vBeh ((mV I A) i) ((mV I A) fN) = false := by unfold vBeh; rw [if_neg (show ¬ ((mV I A) i).1 3 = ((mV I A) fN).1 3 from c16)]; exact decide_eq_false (Int32.not_lt.mpr hge)
                refine x_iconst 103 C (v := 0) dX12_next_103 rfl ?_
                refine x_istore 104 C [(5, .int 0), (4, .int (nI (50 + 12 * fN))), (3, .int (nI (50 + 12 * i))), (0, .ref A), (1, .int fo), (2, .int (nI i))] dX12_next_104 (by decide) rfl ?_
                refine x_iload_n 106 C dX12_next_106 rfl 4 rfl ?_
                refine x_if_lt 107 C 115 dX12_next_107 (by decide) (fun c17 => absurd c17 (Int32.not_lt.mpr hfp)) (fun _ => ?_)
                refine x_iload 110 C dX12_next_110 0 rfl ?_
                refine x_if_eq 112 C 119 dX12_next_112 (by decide) (fun _ => ?_) (fun c18 => absurd (by decide) c18)
                refine x_iload_n 119 C dX12_next_119 rfl 4 rfl ?_
                refine x_istore_n 120 C [(1, .int fo), (5, .int 0), (4, .int (nI (50 + 12 * fN))), (3, .int (nI (50 + 12 * i))), (0, .ref A), (2, .int (nI i))] dX12_next_120 rfl (by decide) rfl ?_
                refine x_iinc 121 C [(2, .int (nI (i + 1))), (1, .int fo), (5, .int 0), (4, .int (nI (50 + 12 * fN))), (3, .int (nI (50 + 12 * i))), (0, .ref A)] dX12_next_121 5 rfl (nI_add i 1) (by decide) rfl ?_
                refine x_goto 124 C 4 dX12_next_124 (by decide) ?_
                refine x_sub [(0, .ref A), (1, .int fo), (2, .int (nI (i + 1)))] [5, 1, 0] rfl ?_
                have hm1 : vMb (mV I A) (i + 1) = vMb (mV I A) i := by simp [vMb, hst, hmf, hbh]
                exact ih (i + 1) fo (by omega) (by omega) (by rw [hm1]; exact hfo)
              · skip
                have heq := c16
                refine x_aload_n 79 C dX12_next_79 rfl 2 rfl ?_
                refine x_getr 80 C (b := A + 1) dX12_next_80 ff_X12_7 rfl hM.1 rfl ?_
                refine x_iload_n 83 C dX12_next_83 rfl 1 rfl ?_
                refine x_iconst 84 C (v := 1) dX12_next_84 rfl ?_
                refine x_iadd 85 C dX12_next_85 ?_
                refine x_int (nI (50 + 12 * i + 1)) (nI_add (50 + 12 * i) 1) ?_
                refine x_iald 86 C (j := (50 + 12 * i + 1)) dX12_next_86 hM.2.1 (xIx_nI (by omega) (by decide)) ?_
                refine x_aload_n 87 C dX12_next_87 rfl 2 rfl ?_
                refine x_getr 88 C (b := A + 1) dX12_next_88 ff_X12_7 rfl hM.1 rfl ?_
                refine x_iload 91 C dX12_next_91 0 rfl ?_
                refine x_iconst 93 C (v := 1) dX12_next_93 rfl ?_
                refine x_iadd 94 C dX12_next_94 ?_
                refine x_int (nI (50 + 12 * fN + 1)) (nI_add (50 + 12 * fN) 1) ?_
                refine x_iald 95 C (j := (50 + 12 * fN + 1)) dX12_next_95 hM.2.1 (xIx_nI (by omega) (by decide)) ?_
                refine x_icmp_ge 96 C 103 dX12_next_96 (by decide) (fun c19 => ?_) (fun c19 => ?_)
                · skip
                  have c19o := Int32.not_lt.mpr c19
                  have hbh : vBeh ((mV I A) i) ((mV I A) fN) = false := by unfold vBeh; rw [if_pos (show ((mV I A) i).1 3 = ((mV I A) fN).1 3 from heq)]; exact decide_eq_false (Int32.not_lt.mpr c19)
                  refine x_iconst 103 C (v := 0) dX12_next_103 rfl ?_
                  refine x_istore 104 C [(5, .int 0), (4, .int (nI (50 + 12 * fN))), (3, .int (nI (50 + 12 * i))), (0, .ref A), (1, .int fo), (2, .int (nI i))] dX12_next_104 (by decide) rfl ?_
                  refine x_iload_n 106 C dX12_next_106 rfl 4 rfl ?_
                  refine x_if_lt 107 C 115 dX12_next_107 (by decide) (fun c20 => absurd c20 (Int32.not_lt.mpr hfp)) (fun _ => ?_)
                  refine x_iload 110 C dX12_next_110 0 rfl ?_
                  refine x_if_eq 112 C 119 dX12_next_112 (by decide) (fun _ => ?_) (fun c21 => absurd (by decide) c21)
                  refine x_iload_n 119 C dX12_next_119 rfl 4 rfl ?_
                  refine x_istore_n 120 C [(1, .int fo), (5, .int 0), (4, .int (nI (50 + 12 * fN))), (3, .int (nI (50 + 12 * i))), (0, .ref A), (2, .int (nI i))] dX12_next_120 rfl (by decide) rfl ?_
                  refine x_iinc 121 C [(2, .int (nI (i + 1))), (1, .int fo), (5, .int 0), (4, .int (nI (50 + 12 * fN))), (3, .int (nI (50 + 12 * i))), (0, .ref A)] dX12_next_121 5 rfl (nI_add i 1) (by decide) rfl ?_
                  refine x_goto 124 C 4 dX12_next_124 (by decide) ?_
                  refine x_sub [(0, .ref A), (1, .int fo), (2, .int (nI (i + 1)))] [5, 1, 0] rfl ?_
                  have hm1 : vMb (mV I A) (i + 1) = vMb (mV I A) i := by simp [vMb, hst, hmf, hbh]
                  exact ih (i + 1) fo (by omega) (by omega) (by rw [hm1]; exact hfo)
                · skip
                  have c19o := Int32.not_le.mp c19
                  have hbh : vBeh ((mV I A) i) ((mV I A) fN) = true := by unfold vBeh; rw [if_pos (show ((mV I A) i).1 3 = ((mV I A) fN).1 3 from heq)]; exact decide_eq_true (Int32.not_le.mp c19)
                  refine x_iconst 99 C (v := 1) dX12_next_99 rfl ?_
                  refine x_goto 100 C 104 dX12_next_100 (by decide) ?_
                  refine x_istore 104 C [(5, .int 1), (4, .int (nI (50 + 12 * fN))), (3, .int (nI (50 + 12 * i))), (0, .ref A), (1, .int fo), (2, .int (nI i))] dX12_next_104 (by decide) rfl ?_
                  refine x_iload_n 106 C dX12_next_106 rfl 4 rfl ?_
                  refine x_if_lt 107 C 115 dX12_next_107 (by decide) (fun c22 => absurd c22 (Int32.not_lt.mpr hfp)) (fun _ => ?_)
                  refine x_iload 110 C dX12_next_110 0 rfl ?_
                  refine x_if_eq 112 C 119 dX12_next_112 (by decide) (fun c23 => absurd c23 (by decide)) (fun _ => ?_)
                  refine x_iload_n 115 C dX12_next_115 rfl 5 rfl ?_
                  refine x_goto 116 C 120 dX12_next_116 (by decide) ?_
                  refine x_istore_n 120 C [(1, .int (nI i)), (5, .int 1), (4, .int (nI (50 + 12 * fN))), (3, .int (nI (50 + 12 * i))), (0, .ref A), (2, .int (nI i))] dX12_next_120 rfl (by decide) rfl ?_
                  refine x_iinc 121 C [(2, .int (nI (i + 1))), (1, .int (nI i)), (5, .int 1), (4, .int (nI (50 + 12 * fN))), (3, .int (nI (50 + 12 * i))), (0, .ref A)] dX12_next_121 5 rfl (nI_add i 1) (by decide) rfl ?_
                  refine x_goto 124 C 4 dX12_next_124 (by decide) ?_
                  refine x_sub [(0, .ref A), (1, .int (nI i)), (2, .int (nI (i + 1)))] [5, 1, 0] rfl ?_
                  have hm1 : vMb (mV I A) (i + 1) = some i := by simp [vMb, hst, hmf, hbh]
                  exact ih (i + 1) (nI i) (by omega) (by omega) (Or.inr ⟨i, hm1, rfl⟩)
          · skip
            have c10o := Int32.not_le.mp c10
            have hmn : vMb (mV I A) i = none := by rcases hfo with ⟨h1, _⟩ | ⟨f, h1, h2⟩; exact h1; exact absurd (by rw [h2]; exact nI_pos' (by have := vMb_lt (mV I A) i f h1; omega)) c10
            refine x_iload_n 29 C dX12_next_29 rfl 0 rfl ?_
            refine x_goto 30 C 37 dX12_next_30 (by decide) ?_
            refine x_istore 37 C [(4, .int (nI (50 + 12 * i))), (3, .int (nI (50 + 12 * i))), (0, .ref A), (1, .int fo), (2, .int (nI i))] dX12_next_37 (by decide) rfl ?_
            refine x_aload_n 39 C dX12_next_39 rfl 2 rfl ?_
            refine x_getr 40 C (b := A + 1) dX12_next_40 ff_X12_7 rfl hM.1 rfl ?_
            refine x_iload_n 43 C dX12_next_43 rfl 1 rfl ?_
            refine x_iconst 44 C (v := 0) dX12_next_44 rfl ?_
            refine x_iadd 45 C dX12_next_45 ?_
            refine x_int (nI (50 + 12 * i + 0)) (nI_add (50 + 12 * i) 0) ?_
            refine x_iald 46 C (j := (50 + 12 * i + 0)) dX12_next_46 hM.2.1 (xIx_nI (by omega) (by decide)) ?_
            refine x_aload_n 47 C dX12_next_47 rfl 2 rfl ?_
            refine x_getr 48 C (b := A + 1) dX12_next_48 ff_X12_7 rfl hM.1 rfl ?_
            refine x_iload 51 C dX12_next_51 0 rfl ?_
            refine x_iconst 53 C (v := 0) dX12_next_53 rfl ?_
            refine x_iadd 54 C dX12_next_54 ?_
            refine x_int (nI (50 + 12 * i + 0)) (nI_add (50 + 12 * i) 0) ?_
            refine x_iald 55 C (j := (50 + 12 * i + 0)) dX12_next_55 hM.2.1 (xIx_nI (by omega) (by decide)) ?_
            refine x_icmp_lt 56 C 99 dX12_next_56 (by decide) (fun c24 => absurd c24 Int32.lt_irrefl) (fun _ => ?_)
            refine x_aload_n 59 C dX12_next_59 rfl 2 rfl ?_
            refine x_getr 60 C (b := A + 1) dX12_next_60 ff_X12_7 rfl hM.1 rfl ?_
            refine x_iload_n 63 C dX12_next_63 rfl 1 rfl ?_
            refine x_iconst 64 C (v := 0) dX12_next_64 rfl ?_
            refine x_iadd 65 C dX12_next_65 ?_
            refine x_int (nI (50 + 12 * i + 0)) (nI_add (50 + 12 * i) 0) ?_
            refine x_iald 66 C (j := (50 + 12 * i + 0)) dX12_next_66 hM.2.1 (xIx_nI (by omega) (by decide)) ?_
            refine x_aload_n 67 C dX12_next_67 rfl 2 rfl ?_
            refine x_getr 68 C (b := A + 1) dX12_next_68 ff_X12_7 rfl hM.1 rfl ?_
            refine x_iload 71 C dX12_next_71 0 rfl ?_
            refine x_iconst 73 C (v := 0) dX12_next_73 rfl ?_
            refine x_iadd 74 C dX12_next_74 ?_
            refine x_int (nI (50 + 12 * i + 0)) (nI_add (50 + 12 * i) 0) ?_
            refine x_iald 75 C (j := (50 + 12 * i + 0)) dX12_next_75 hM.2.1 (xIx_nI (by omega) (by decide)) ?_
            refine x_icmp_ne 76 C 103 dX12_next_76 (by decide) (fun c25 => absurd rfl c25) (fun _ => ?_)
            refine x_aload_n 79 C dX12_next_79 rfl 2 rfl ?_
            refine x_getr 80 C (b := A + 1) dX12_next_80 ff_X12_7 rfl hM.1 rfl ?_
            refine x_iload_n 83 C dX12_next_83 rfl 1 rfl ?_
            refine x_iconst 84 C (v := 1) dX12_next_84 rfl ?_
            refine x_iadd 85 C dX12_next_85 ?_
            refine x_int (nI (50 + 12 * i + 1)) (nI_add (50 + 12 * i) 1) ?_
            refine x_iald 86 C (j := (50 + 12 * i + 1)) dX12_next_86 hM.2.1 (xIx_nI (by omega) (by decide)) ?_
            refine x_aload_n 87 C dX12_next_87 rfl 2 rfl ?_
            refine x_getr 88 C (b := A + 1) dX12_next_88 ff_X12_7 rfl hM.1 rfl ?_
            refine x_iload 91 C dX12_next_91 0 rfl ?_
            refine x_iconst 93 C (v := 1) dX12_next_93 rfl ?_
            refine x_iadd 94 C dX12_next_94 ?_
            refine x_int (nI (50 + 12 * i + 1)) (nI_add (50 + 12 * i) 1) ?_
            refine x_iald 95 C (j := (50 + 12 * i + 1)) dX12_next_95 hM.2.1 (xIx_nI (by omega) (by decide)) ?_
            refine x_icmp_ge 96 C 103 dX12_next_96 (by decide) (fun _ => ?_) (fun c26 => absurd (Int32.le_refl _) c26)
            refine x_iconst 103 C (v := 0) dX12_next_103 rfl ?_
            refine x_istore 104 C [(5, .int 0), (4, .int (nI (50 + 12 * i))), (3, .int (nI (50 + 12 * i))), (0, .ref A), (1, .int fo), (2, .int (nI i))] dX12_next_104 (by decide) rfl ?_
            refine x_iload_n 106 C dX12_next_106 rfl 4 rfl ?_
            refine x_if_lt 107 C 115 dX12_next_107 (by decide) (fun _ => ?_) (fun c27 => absurd (Int32.not_le.mp c10) c27)
            refine x_iload_n 115 C dX12_next_115 rfl 5 rfl ?_
            refine x_goto 116 C 120 dX12_next_116 (by decide) ?_
            refine x_istore_n 120 C [(1, .int (nI i)), (5, .int 0), (4, .int (nI (50 + 12 * i))), (3, .int (nI (50 + 12 * i))), (0, .ref A), (2, .int (nI i))] dX12_next_120 rfl (by decide) rfl ?_
            refine x_iinc 121 C [(2, .int (nI (i + 1))), (1, .int (nI i)), (5, .int 0), (4, .int (nI (50 + 12 * i))), (3, .int (nI (50 + 12 * i))), (0, .ref A)] dX12_next_121 5 rfl (nI_add i 1) (by decide) rfl ?_
            refine x_goto 124 C 4 dX12_next_124 (by decide) ?_
            refine x_sub [(0, .ref A), (1, .int (nI i)), (2, .int (nI (i + 1)))] [5, 1, 0] rfl ?_
            have hm1 : vMb (mV I A) (i + 1) = some i := by simp [vMb, hst, hmn]
            exact ih (i + 1) (nI i) (by omega) (by omega) (Or.inr ⟨i, hm1, rfl⟩)
  refine x_sub [(0, .ref A), (1, .int (-1)), (2, .int 0)] [2, 1, 0] rfl ?_
  exact loop4 (dx * dy + 1) 0 (-1) (by omega) (by omega) (Or.inl ⟨rfl, rfl⟩)
theorem dX12_endAt_0 : decode cX12_endAt 0 = .ok (.iload_n 1, 1) := by decide +kernel
theorem dX12_endAt_1 : decode cX12_endAt 1 = .ok (.ifCond .ge 6, 3) := by decide +kernel
theorem dX12_endAt_4 : decode cX12_endAt 4 = .ok (.ldc 198, 2) := by decide +kernel
theorem dX12_endAt_6 : decode cX12_endAt 6 = .ok (.ireturn, 1) := by decide +kernel
theorem dX12_endAt_7 : decode cX12_endAt 7 = .ok (.iconst 0, 1) := by decide +kernel
theorem dX12_endAt_8 : decode cX12_endAt 8 = .ok (.istore_n 2, 1) := by decide +kernel
theorem dX12_endAt_9 : decode cX12_endAt 9 = .ok (.iload_n 2, 1) := by decide +kernel
theorem dX12_endAt_10 : decode cX12_endAt 10 = .ok (.aload_n 0, 1) := by decide +kernel
theorem dX12_endAt_11 : decode cX12_endAt 11 = .ok (.invokevirtual 67, 3) := by decide +kernel
theorem dX12_endAt_14 : decode cX12_endAt 14 = .ok (.if_icmp .ge 85, 3) := by decide +kernel
theorem dX12_endAt_17 : decode cX12_endAt 17 = .ok (.iconst 0, 1) := by decide +kernel
theorem dX12_endAt_18 : decode cX12_endAt 18 = .ok (.istore_n 3, 1) := by decide +kernel
theorem dX12_endAt_19 : decode cX12_endAt 19 = .ok (.iconst 0, 1) := by decide +kernel
theorem dX12_endAt_20 : decode cX12_endAt 20 = .ok (.istore 4, 2) := by decide +kernel
theorem dX12_endAt_22 : decode cX12_endAt 22 = .ok (.iload 4, 2) := by decide +kernel
theorem dX12_endAt_24 : decode cX12_endAt 24 = .ok (.aload_n 0, 1) := by decide +kernel
theorem dX12_endAt_25 : decode cX12_endAt 25 = .ok (.invokevirtual 67, 3) := by decide +kernel
theorem dX12_endAt_28 : decode cX12_endAt 28 = .ok (.if_icmp .ge 50, 3) := by decide +kernel
theorem dX12_endAt_31 : decode cX12_endAt 31 = .ok (.aload_n 0, 1) := by decide +kernel
theorem dX12_endAt_32 : decode cX12_endAt 32 = .ok (.iload_n 2, 1) := by decide +kernel
theorem dX12_endAt_33 : decode cX12_endAt 33 = .ok (.invokevirtual 218, 3) := by decide +kernel
theorem dX12_endAt_36 : decode cX12_endAt 36 = .ok (.ifCond .eq 42, 3) := by decide +kernel
theorem dX12_endAt_39 : decode cX12_endAt 39 = .ok (.iload_n 3, 1) := by decide +kernel
theorem dX12_endAt_40 : decode cX12_endAt 40 = .ok (.iload 4, 2) := by decide +kernel
theorem dX12_endAt_42 : decode cX12_endAt 42 = .ok (.iload_n 2, 1) := by decide +kernel
theorem dX12_endAt_43 : decode cX12_endAt 43 = .ok (.if_icmp .eq 26, 3) := by decide +kernel
theorem dX12_endAt_46 : decode cX12_endAt 46 = .ok (.aload_n 0, 1) := by decide +kernel
theorem dX12_endAt_47 : decode cX12_endAt 47 = .ok (.iload 4, 2) := by decide +kernel
theorem dX12_endAt_49 : decode cX12_endAt 49 = .ok (.invokevirtual 218, 3) := by decide +kernel
theorem dX12_endAt_52 : decode cX12_endAt 52 = .ok (.ifCond .eq 17, 3) := by decide +kernel
theorem dX12_endAt_55 : decode cX12_endAt 55 = .ok (.aload_n 0, 1) := by decide +kernel
theorem dX12_endAt_56 : decode cX12_endAt 56 = .ok (.iload 4, 2) := by decide +kernel
theorem dX12_endAt_58 : decode cX12_endAt 58 = .ok (.iload_n 2, 1) := by decide +kernel
theorem dX12_endAt_59 : decode cX12_endAt 59 = .ok (.invokevirtual 228, 3) := by decide +kernel
theorem dX12_endAt_62 : decode cX12_endAt 62 = .ok (.ifCond .eq 7, 3) := by decide +kernel
theorem dX12_endAt_65 : decode cX12_endAt 65 = .ok (.iconst 1, 1) := by decide +kernel
theorem dX12_endAt_66 : decode cX12_endAt 66 = .ok (.goto 4, 3) := by decide +kernel
theorem dX12_endAt_69 : decode cX12_endAt 69 = .ok (.iconst 0, 1) := by decide +kernel
theorem dX12_endAt_70 : decode cX12_endAt 70 = .ok (.iadd, 1) := by decide +kernel
theorem dX12_endAt_71 : decode cX12_endAt 71 = .ok (.istore_n 3, 1) := by decide +kernel
theorem dX12_endAt_72 : decode cX12_endAt 72 = .ok (.iinc 4 1, 3) := by decide +kernel
theorem dX12_endAt_75 : decode cX12_endAt 75 = .ok (.goto (-53), 3) := by decide +kernel
theorem dX12_endAt_78 : decode cX12_endAt 78 = .ok (.aload_n 0, 1) := by decide +kernel
theorem dX12_endAt_79 : decode cX12_endAt 79 = .ok (.iload_n 2, 1) := by decide +kernel
theorem dX12_endAt_80 : decode cX12_endAt 80 = .ok (.invokevirtual 218, 3) := by decide +kernel
theorem dX12_endAt_83 : decode cX12_endAt 83 = .ok (.ifCond .eq 10, 3) := by decide +kernel
theorem dX12_endAt_86 : decode cX12_endAt 86 = .ok (.iload_n 3, 1) := by decide +kernel
theorem dX12_endAt_87 : decode cX12_endAt 87 = .ok (.iload_n 1, 1) := by decide +kernel
theorem dX12_endAt_88 : decode cX12_endAt 88 = .ok (.if_icmp .ne 5, 3) := by decide +kernel
theorem dX12_endAt_91 : decode cX12_endAt 91 = .ok (.iload_n 2, 1) := by decide +kernel
theorem dX12_endAt_92 : decode cX12_endAt 92 = .ok (.ireturn, 1) := by decide +kernel
theorem dX12_endAt_93 : decode cX12_endAt 93 = .ok (.iinc 2 1, 3) := by decide +kernel
theorem dX12_endAt_96 : decode cX12_endAt 96 = .ok (.goto (-87), 3) := by decide +kernel
theorem dX12_endAt_99 : decode cX12_endAt 99 = .ok (.ldc 227, 2) := by decide +kernel
theorem dX12_endAt_101 : decode cX12_endAt 101 = .ok (.ireturn, 1) := by decide +kernel
set_option maxHeartbeats 1000000 in
set_option maxRecDepth 100000 in
theorem t_X12_endAt (l : Launch) (D : xD) (z n : Nat) (G : xG) (I : xI) (L : xL) (A : Nat) (x : Int32) (dx : Nat) (dy : Nat) (hM : shMo G A) (hdx : I (A + 1) 40 = nI dx) (hdy : I (A + 1) 41 = nI dy) (hd3 : dx * dy ≤ 9) (hprs : ∀ i, i < dx * dy → I (A + 1) (50 + 12 * i + 3) = 10 ∨ I (A + 1) (50 + 12 * i + 3) = 18) : xM0 l D z yX12_endAt cX12_endAt 5 (some .int) 3 68 [.ref A, .int x] n G I L (xE (some (.int (if x < 0 then (-2000000001) else nfO (findN (fun k => vSt (mV I A) 1 k && decide (nI (cntN (vBef (mV I A) k) (dx * dy)) = x)) (dx * dy))))) I L) := by
  refine xM.of (by decide) (Nat.le_of_ble_eq_true rfl) (fun p e s m args below meth c C hnm hsz => ?_)
  refine x_lv [(0, .ref A), (1, .int x)] rfl ?_
  refine x_iload_n 0 C dX12_endAt_0 rfl 1 rfl ?_
  refine x_if_ge 1 C 7 dX12_endAt_1 (by decide) (fun c1 => ?_) (fun c1 => ?_)
  · skip
    have c1o := Int32.not_lt.mpr c1
    have hx0 : ¬ x < 0 := Int32.not_lt.mpr c1
    refine x_iconst 7 C (v := 0) dX12_endAt_7 rfl ?_
    refine x_istore_n 8 C [(2, .int 0), (0, .ref A), (1, .int x)] dX12_endAt_8 rfl (by decide) rfl ?_
    have loop9 : ∀ (fuel : Nat) (k : Nat), (k ≤ dx * dy) → (dx * dy + 1 ≤ k + fuel) → (findN (fun k => vSt (mV I A) 1 k && decide (nI (cntN (vBef (mV I A) k) (dx * dy)) = x)) k = none) → X p l e (xRm 3 68 0 0) s m args below meth c D z 5 (MQ below (xQc D z n (xN n G (xE (some (.int (if x < 0 then (-2000000001) else nfO (findN (fun k => vSt (mV I A) 1 k && decide (nI (cntN (vBef (mV I A) k) (dx * dy)) = x)) (dx * dy))))) I L))) args s 0 0 (fun a => z ≤ a)) 0 0 n G I L 9 [(0, .ref A), (1, .int x), (2, .int (nI k))] [] := by
      intro fuel
      induction fuel with
      | zero =>
        intro k hk hf hn
        exact absurd hf (by omega)
      | succ fuel ih =>
        intro k hk hf hn
        have ihO := ih
        refine x_iload_n 9 C dX12_endAt_9 rfl 2 rfl ?_
        refine x_aload_n 10 C dX12_endAt_10 rfl 0 rfl ?_
        refine x_callVe 11 C dX12_endAt_11 (As := []) (rest := [.int (nI k)]) [.int (nI (dx * dy)), .int (nI k)] (t_X12_paths l D z n G I L A dx dy hM hdx hdy) mt_X12_paths km_X12_67 ki_X12_paths ks_X12_paths hM.1 ⟨by decide, rfl⟩ rfl rfl (Nat.le_of_ble_eq_true rfl) ⟨⟨by decide, by decide⟩, by decide, by decide⟩ (fun I2 L3 eI2 eL3 => ?_)
        replace eI2 := eI2.symm; subst eI2
        replace eL3 := eL3.symm; subst eL3
        refine x_icmp_ge 14 C 99 dX12_endAt_14 (by decide) (fun c4 => ?_) (fun c4 => ?_)
        · skip
          have c4n : (dx * dy) ≤ k := (nI_leI (a := (dx * dy)) (b := k) (by omega) (by omega)).mp c4
          have c4m : ¬ (k < (dx * dy)) := by omega
          have c4o := Int32.not_lt.mpr c4
          refine x_ldc 99 C (-2000000004) dX12_endAt_99 kk_X12_227 ?_
          refine x_iret 101 C dX12_endAt_101 rfl rfl (Nat.le_refl _) (xN.intro ?_)
          have hkU : k = dx * dy := by omega
          subst hkU
          exact ⟨by rw [if_neg hx0, hn]; rfl, rfl, rfl⟩
        · skip
          have c4n : ¬ ((dx * dy) ≤ k) := fun h => c4 ((nI_leI (a := (dx * dy)) (b := k) (by omega) (by omega)).mpr h)
          have c4m : k < (dx * dy) := by omega
          have c4o := Int32.not_le.mp c4
          refine x_iconst 17 C (v := 0) dX12_endAt_17 rfl ?_
          refine x_istore_n 18 C [(3, .int 0), (0, .ref A), (1, .int x), (2, .int (nI k))] dX12_endAt_18 rfl (by decide) rfl ?_
          refine x_iconst 19 C (v := 0) dX12_endAt_19 rfl ?_
          refine x_istore 20 C [(4, .int 0), (3, .int 0), (0, .ref A), (1, .int x), (2, .int (nI k))] dX12_endAt_20 (by decide) rfl ?_
          have loop22 : ∀ (fuel : Nat) (i : Nat), (i ≤ dx * dy) → (dx * dy + 1 ≤ i + fuel) → X p l e (xRm 3 68 0 0) s m args below meth c D z 5 (MQ below (xQc D z n (xN n G (xE (some (.int (if x < 0 then (-2000000001) else nfO (findN (fun k => vSt (mV I A) 1 k && decide (nI (cntN (vBef (mV I A) k) (dx * dy)) = x)) (dx * dy))))) I L))) args s 0 0 (fun a => z ≤ a)) 0 0 n G I L 22 [(0, .ref A), (1, .int x), (2, .int (nI k)), (3, .int (nI (cntN (vBef (mV I A) k) i))), (4, .int (nI i))] [] := by
            intro fuel
            induction fuel with
            | zero =>
              intro i hi hf2
              exact absurd hf2 (by omega)
            | succ fuel ih =>
              intro i hi hf2
              refine x_iload 22 C dX12_endAt_22 4 rfl ?_
              refine x_aload_n 24 C dX12_endAt_24 rfl 0 rfl ?_
              refine x_callVe 25 C dX12_endAt_25 (As := []) (rest := [.int (nI i)]) [.int (nI (dx * dy)), .int (nI i)] (t_X12_paths l D z n G I L A dx dy hM hdx hdy) mt_X12_paths km_X12_67 ki_X12_paths ks_X12_paths hM.1 ⟨by decide, rfl⟩ rfl rfl (Nat.le_of_ble_eq_true rfl) ⟨⟨by decide, by decide⟩, by decide, by decide⟩ (fun I5 L6 eI5 eL6 => ?_)
              replace eI5 := eI5.symm; subst eI5
              replace eL6 := eL6.symm; subst eL6
              refine x_icmp_ge 28 C 78 dX12_endAt_28 (by decide) (fun c7 => ?_) (fun c7 => ?_)
              · skip
                have c7n : (dx * dy) ≤ i := (nI_leI (a := (dx * dy)) (b := i) (by omega) (by omega)).mp c7
                have c7m : ¬ (i < (dx * dy)) := by omega
                have c7o := Int32.not_lt.mpr c7
                have hiU : i = dx * dy := by omega
                refine x_aload_n 78 C dX12_endAt_78 rfl 0 rfl ?_
                refine x_iload_n 79 C dX12_endAt_79 rfl 2 rfl ?_
                refine x_callVe 80 C dX12_endAt_80 (As := [.int (nI k)]) (rest := []) [.int (bI (decide (I (A + 1) (50 + 12 * k + 5) = 1)))] (t_X12_isAtEnd l D z n G I L A k hM (by first | omega | assumption | decide)) mt_X12_isAtEnd km_X12_218 ki_X12_isAtEnd ks_X12_isAtEnd hM.1 ⟨by decide, rfl⟩ rfl rfl (Nat.le_of_ble_eq_true rfl) ⟨⟨by decide, by decide⟩, by decide, by decide⟩ (fun I8 L9 eI8 eL9 => ?_)
                replace eI8 := eI8.symm; subst eI8
                replace eL9 := eL9.symm; subst eL9
                refine x_if_eq 83 C 93 dX12_endAt_83 (by decide) (fun c10 => ?_) (fun c10 => ?_)
                · skip
                  have hek : vSt (mV I A) 1 k = false := bI_0.mp c10
                  refine x_iinc 93 C [(2, .int (nI (k + 1))), (0, .ref A), (1, .int x), (3, .int (nI (cntN (vBef (mV I A) k) i))), (4, .int (nI i))] dX12_endAt_93 2 rfl (nI_add k 1) (by decide) rfl ?_
                  refine x_goto 96 C 9 dX12_endAt_96 (by decide) ?_
                  refine x_sub [(0, .ref A), (1, .int x), (2, .int (nI (k + 1)))] [1, 2, 0] rfl ?_
                  have hpk : (vSt (mV I A) 1 k && decide (nI (cntN (vBef (mV I A) k) (dx * dy)) = x)) = false := by first | (rw [hek]; rfl) | (rw [hek]; exact decide_eq_false hnx)
                  exact ihO (k + 1) (by omega) (by omega) (findN_none hn hpk)
                · skip
                  have hek : vSt (mV I A) 1 k = true := bI_n0.mp c10
                  refine x_iload_n 86 C dX12_endAt_86 rfl 3 rfl ?_
                  refine x_iload_n 87 C dX12_endAt_87 rfl 1 rfl ?_
                  refine x_icmp_ne 88 C 93 dX12_endAt_88 (by decide) (fun c11 => ?_) (fun c11 => ?_)
                  · skip
                    have hnx : ¬ nI (cntN (vBef (mV I A) k) (dx * dy)) = x := by rw [← hiU]; exact c11
                    refine x_iinc 93 C [(2, .int (nI (k + 1))), (0, .ref A), (1, .int x), (3, .int (nI (cntN (vBef (mV I A) k) i))), (4, .int (nI i))] dX12_endAt_93 2 rfl (nI_add k 1) (by decide) rfl ?_
                    refine x_goto 96 C 9 dX12_endAt_96 (by decide) ?_
                    refine x_sub [(0, .ref A), (1, .int x), (2, .int (nI (k + 1)))] [1, 2, 0] rfl ?_
                    have hpk : (vSt (mV I A) 1 k && decide (nI (cntN (vBef (mV I A) k) (dx * dy)) = x)) = false := by first | (rw [hek]; rfl) | (rw [hek]; exact decide_eq_false hnx)
                    exact ihO (k + 1) (by omega) (by omega) (findN_none hn hpk)
                  · skip
                    have hxx : nI (cntN (vBef (mV I A) k) (dx * dy)) = x := by rw [← hiU]; exact c11
                    refine x_iload_n 91 C dX12_endAt_91 rfl 2 rfl ?_
                    refine x_iret 92 C dX12_endAt_92 rfl rfl (Nat.le_refl _) (xN.intro ?_)
                    have hpk : (vSt (mV I A) 1 k && decide (nI (cntN (vBef (mV I A) k) (dx * dy)) = x)) = true := by rw [hek]; exact decide_eq_true hxx
                    exact ⟨by rw [if_neg hx0, findN_keep (findN_some hn hpk) (dx * dy) (by omega)]; rfl, rfl, rfl⟩
              · skip
                have c7n : ¬ ((dx * dy) ≤ i) := fun h => c7 ((nI_leI (a := (dx * dy)) (b := i) (by omega) (by omega)).mpr h)
                have c7m : i < (dx * dy) := by omega
                have c7o := Int32.not_le.mp c7
                refine x_aload_n 31 C dX12_endAt_31 rfl 0 rfl ?_
                refine x_iload_n 32 C dX12_endAt_32 rfl 2 rfl ?_
                refine x_callVe 33 C dX12_endAt_33 (As := [.int (nI k)]) (rest := []) [.int (bI (decide (I (A + 1) (50 + 12 * k + 5) = 1)))] (t_X12_isAtEnd l D z n G I L A k hM (by first | omega | assumption | decide)) mt_X12_isAtEnd km_X12_218 ki_X12_isAtEnd ks_X12_isAtEnd hM.1 ⟨by decide, rfl⟩ rfl rfl (Nat.le_of_ble_eq_true rfl) ⟨⟨by decide, by decide⟩, by decide, by decide⟩ (fun I12 L13 eI12 eL13 => ?_)
                replace eI12 := eI12.symm; subst eI12
                replace eL13 := eL13.symm; subst eL13
                refine x_if_eq 36 C 78 dX12_endAt_36 (by decide) (fun c14 => ?_) (fun c14 => ?_)
                · skip
                  have hek : vSt (mV I A) 1 k = false := bI_0.mp c14
                  refine x_aload_n 78 C dX12_endAt_78 rfl 0 rfl ?_
                  refine x_iload_n 79 C dX12_endAt_79 rfl 2 rfl ?_
                  refine x_callVe 80 C dX12_endAt_80 (As := [.int (nI k)]) (rest := []) [.int (bI (decide (I (A + 1) (50 + 12 * k + 5) = 1)))] (t_X12_isAtEnd l D z n G I L A k hM (by first | omega | assumption | decide)) mt_X12_isAtEnd km_X12_218 ki_X12_isAtEnd ks_X12_isAtEnd hM.1 ⟨by decide, rfl⟩ rfl rfl (Nat.le_of_ble_eq_true rfl) ⟨⟨by decide, by decide⟩, by decide, by decide⟩ (fun I15 L16 eI15 eL16 => ?_)
                  replace eI15 := eI15.symm; subst eI15
                  replace eL16 := eL16.symm; subst eL16
                  refine x_if_eq 83 C 93 dX12_endAt_83 (by decide) (fun _ => ?_) (fun c17 => absurd c14 c17)
                  refine x_iinc 93 C [(2, .int (nI (k + 1))), (0, .ref A), (1, .int x), (3, .int (nI (cntN (vBef (mV I A) k) i))), (4, .int (nI i))] dX12_endAt_93 2 rfl (nI_add k 1) (by decide) rfl ?_
                  refine x_goto 96 C 9 dX12_endAt_96 (by decide) ?_
                  refine x_sub [(0, .ref A), (1, .int x), (2, .int (nI (k + 1)))] [1, 2, 0] rfl ?_
                  have hpk : (vSt (mV I A) 1 k && decide (nI (cntN (vBef (mV I A) k) (dx * dy)) = x)) = false := by first | (rw [hek]; rfl) | (rw [hek]; exact decide_eq_false hnx)
                  exact ihO (k + 1) (by omega) (by omega) (findN_none hn hpk)
                · skip
                  have hekt : vSt (mV I A) 1 k = true := bI_n0.mp c14
                  refine x_iload_n 39 C dX12_endAt_39 rfl 3 rfl ?_
                  refine x_iload 40 C dX12_endAt_40 4 rfl ?_
                  refine x_iload_n 42 C dX12_endAt_42 rfl 2 rfl ?_
                  refine x_icmp_eq 43 C 69 dX12_endAt_43 (by decide) (fun c18 => ?_) (fun c18 => ?_)
                  · skip
                    have c18n : i = k := (nI_eq (a := i) (b := k) (by omega) (by omega)).mp c18
                    have hzne : ¬ i ≠ k := fun h => h c18n
                    refine x_iconst 69 C (v := 0) dX12_endAt_69 rfl ?_
                    refine x_iadd 70 C dX12_endAt_70 ?_
                    refine x_int (nI (cntN (vBef (mV I A) k) i + 0)) (nI_add (cntN (vBef (mV I A) k) i) 0) ?_
                    refine x_istore_n 71 C [(3, .int (nI (cntN (vBef (mV I A) k) i + 0))), (0, .ref A), (1, .int x), (2, .int (nI k)), (4, .int (nI i))] dX12_endAt_71 rfl (by decide) rfl ?_
                    refine x_iinc 72 C [(4, .int (nI (i + 1))), (3, .int (nI (cntN (vBef (mV I A) k) i + 0))), (0, .ref A), (1, .int x), (2, .int (nI k))] dX12_endAt_72 4 rfl (nI_add i 1) (by decide) rfl ?_
                    refine x_goto 75 C 22 dX12_endAt_75 (by decide) ?_
                    refine x_sub [(0, .ref A), (1, .int x), (2, .int (nI k)), (3, .int (nI (cntN (vBef (mV I A) k) i + 0))), (4, .int (nI (i + 1)))] [2, 3, 4, 1, 0] rfl ?_
                    refine x_lv [(0, .ref A), (1, .int x), (2, .int (nI k)), (3, .int (nI (cntN (vBef (mV I A) k) (i + 1)))), (4, .int (nI (i + 1)))] (by simp [cntN, vBef, hzne]) ?_
                    exact ih (i + 1) (by omega) (by omega)
                  · skip
                    have c18n : ¬ (i = k) := fun h => c18 ((nI_eq (a := i) (b := k) (by omega) (by omega)).mpr h)
                    have hzne : i ≠ k := c18n
                    refine x_aload_n 46 C dX12_endAt_46 rfl 0 rfl ?_
                    refine x_iload 47 C dX12_endAt_47 4 rfl ?_
                    refine x_callVe 49 C dX12_endAt_49 (As := [.int (nI i)]) (rest := [.int (nI (cntN (vBef (mV I A) k) i))]) [.int (bI (decide (I (A + 1) (50 + 12 * i + 5) = 1))), .int (nI (cntN (vBef (mV I A) k) i))] (t_X12_isAtEnd l D z n G I L A i hM (by first | omega | assumption | decide)) mt_X12_isAtEnd km_X12_218 ki_X12_isAtEnd ks_X12_isAtEnd hM.1 ⟨by decide, rfl⟩ rfl rfl (Nat.le_of_ble_eq_true rfl) ⟨⟨by decide, by decide⟩, by decide, by decide⟩ (fun I19 L20 eI19 eL20 => ?_)
                    replace eI19 := eI19.symm; subst eI19
                    replace eL20 := eL20.symm; subst eL20
                    refine x_if_eq 52 C 69 dX12_endAt_52 (by decide) (fun c21 => ?_) (fun c21 => ?_)
                    · skip
                      have hzei : vSt (mV I A) 1 i = false := bI_0.mp c21
                      refine x_iconst 69 C (v := 0) dX12_endAt_69 rfl ?_
                      refine x_iadd 70 C dX12_endAt_70 ?_
                      refine x_int (nI (cntN (vBef (mV I A) k) i + 0)) (nI_add (cntN (vBef (mV I A) k) i) 0) ?_
                      refine x_istore_n 71 C [(3, .int (nI (cntN (vBef (mV I A) k) i + 0))), (0, .ref A), (1, .int x), (2, .int (nI k)), (4, .int (nI i))] dX12_endAt_71 rfl (by decide) rfl ?_
                      refine x_iinc 72 C [(4, .int (nI (i + 1))), (3, .int (nI (cntN (vBef (mV I A) k) i + 0))), (0, .ref A), (1, .int x), (2, .int (nI k))] dX12_endAt_72 4 rfl (nI_add i 1) (by decide) rfl ?_
                      refine x_goto 75 C 22 dX12_endAt_75 (by decide) ?_
                      refine x_sub [(0, .ref A), (1, .int x), (2, .int (nI k)), (3, .int (nI (cntN (vBef (mV I A) k) i + 0))), (4, .int (nI (i + 1)))] [2, 3, 4, 1, 0] rfl ?_
                      refine x_lv [(0, .ref A), (1, .int x), (2, .int (nI k)), (3, .int (nI (cntN (vBef (mV I A) k) (i + 1)))), (4, .int (nI (i + 1)))] (by simp [cntN, vBef, hzne, hzei]) ?_
                      exact ih (i + 1) (by omega) (by omega)
                    · skip
                      have hzei : vSt (mV I A) 1 i = true := bI_n0.mp c21
                      refine x_aload_n 55 C dX12_endAt_55 rfl 0 rfl ?_
                      refine x_iload 56 C dX12_endAt_56 4 rfl ?_
                      refine x_iload_n 58 C dX12_endAt_58 rfl 2 rfl ?_
                      refine x_callVe 59 C dX12_endAt_59 (As := [.int (nI i), .int (nI k)]) (rest := [.int (nI (cntN (vBef (mV I A) k) i))]) [.int (bI (vAhd (mV I A) i k)), .int (nI (cntN (vBef (mV I A) k) i))] (t_X12_isAhead l D z n G I L A i k hM (by first | omega | assumption | decide) (by first | omega | assumption | decide) (hprs k (by omega)) (hprs i (by omega))) mt_X12_isAhead km_X12_228 ki_X12_isAhead ks_X12_isAhead hM.1 ⟨by decide, rfl⟩ rfl rfl (Nat.le_of_ble_eq_true rfl) ⟨⟨by decide, by decide⟩, by decide, by decide⟩ (fun I22 L23 eI22 eL23 => ?_)
                      replace eI22 := eI22.symm; subst eI22
                      replace eL23 := eL23.symm; subst eL23
                      refine x_if_eq 62 C 69 dX12_endAt_62 (by decide) (fun c24 => ?_) (fun c24 => ?_)
                      · skip
                        have hzah : vAhd (mV I A) i k = false := bI_0.mp c24
                        refine x_iconst 69 C (v := 0) dX12_endAt_69 rfl ?_
                        refine x_iadd 70 C dX12_endAt_70 ?_
                        refine x_int (nI (cntN (vBef (mV I A) k) i + 0)) (nI_add (cntN (vBef (mV I A) k) i) 0) ?_
                        refine x_istore_n 71 C [(3, .int (nI (cntN (vBef (mV I A) k) i + 0))), (0, .ref A), (1, .int x), (2, .int (nI k)), (4, .int (nI i))] dX12_endAt_71 rfl (by decide) rfl ?_
                        refine x_iinc 72 C [(4, .int (nI (i + 1))), (3, .int (nI (cntN (vBef (mV I A) k) i + 0))), (0, .ref A), (1, .int x), (2, .int (nI k))] dX12_endAt_72 4 rfl (nI_add i 1) (by decide) rfl ?_
                        refine x_goto 75 C 22 dX12_endAt_75 (by decide) ?_
                        refine x_sub [(0, .ref A), (1, .int x), (2, .int (nI k)), (3, .int (nI (cntN (vBef (mV I A) k) i + 0))), (4, .int (nI (i + 1)))] [2, 3, 4, 1, 0] rfl ?_
                        refine x_lv [(0, .ref A), (1, .int x), (2, .int (nI k)), (3, .int (nI (cntN (vBef (mV I A) k) (i + 1)))), (4, .int (nI (i + 1)))] (by simp [cntN, vBef, hzne, hzei, hzah]) ?_
                        exact ih (i + 1) (by omega) (by omega)
                      · skip
                        have hzah : vAhd (mV I A) i k = true := bI_n0.mp c24
                        refine x_iconst 65 C (v := 1) dX12_endAt_65 rfl ?_
                        refine x_goto 66 C 70 dX12_endAt_66 (by decide) ?_
                        refine x_iadd 70 C dX12_endAt_70 ?_
                        refine x_int (nI (cntN (vBef (mV I A) k) i + 1)) (nI_add (cntN (vBef (mV I A) k) i) 1) ?_
                        refine x_istore_n 71 C [(3, .int (nI (cntN (vBef (mV I A) k) i + 1))), (0, .ref A), (1, .int x), (2, .int (nI k)), (4, .int (nI i))] dX12_endAt_71 rfl (by decide) rfl ?_
                        refine x_iinc 72 C [(4, .int (nI (i + 1))), (3, .int (nI (cntN (vBef (mV I A) k) i + 1))), (0, .ref A), (1, .int x), (2, .int (nI k))] dX12_endAt_72 4 rfl (nI_add i 1) (by decide) rfl ?_
                        refine x_goto 75 C 22 dX12_endAt_75 (by decide) ?_
                        refine x_sub [(0, .ref A), (1, .int x), (2, .int (nI k)), (3, .int (nI (cntN (vBef (mV I A) k) i + 1))), (4, .int (nI (i + 1)))] [2, 3, 4, 1, 0] rfl ?_
                        refine x_lv [(0, .ref A), (1, .int x), (2, .int (nI k)), (3, .int (nI (cntN (vBef (mV I A) k) (i + 1)))), (4, .int (nI (i + 1)))] (by simp [cntN, vBef, hzne, hzei, hzah]) ?_
                        exact ih (i + 1) (by omega) (by omega)
          refine x_sub [(0, .ref A), (1, .int x), (2, .int (nI k)), (3, .int 0), (4, .int 0)] [2, 3, 4, 1, 0] rfl ?_
          exact loop22 (dx * dy + 1) 0 (by omega) (by omega)
    refine x_sub [(0, .ref A), (1, .int x), (2, .int 0)] [1, 2, 0] rfl ?_
    exact loop9 (dx * dy + 1) 0 (by omega) (by omega) rfl
  · skip
    have c1o := Int32.not_le.mp c1
    have hx0 : x < 0 := Int32.not_le.mp c1
    refine x_ldc 4 C (-2000000001) dX12_endAt_4 kk_X12_198 ?_
    refine x_iret 6 C dX12_endAt_6 rfl rfl (Nat.le_refl _) (xN.intro ?_)
    exact ⟨by rw [if_pos hx0], rfl, rfl⟩
