/-! The Model: fault, degreeTold, type, wipe -/
theorem rds_le (t : Nat → Nat) (N : Nat) : ∀ k r mi f g, r ≤ N → (rds t N k r mi f g).2.1 ≤ N
  | 0, r, mi, f, g, h => h
  | k + 1, r, mi, f, g, h => by
    have he := (tEnd_r (t := t) h).2.1
    simp only [rds]
    split
    · split
      · exact he
      · split
        · exact rds_le t N k _ _ _ _ (by omega)
        · split
          · exact rds_le t N k _ _ _ _ (by omega)
          · exact he
    · exact he
theorem rdAll_le (t : Nat → Nat) (N : Nat) : (rdAll t N).2.1 ≤ N := by
  unfold rdAll
  split
  · rename_i h; exact rds_le t N 61 1 1 _ _ (sg_lt (t := t) (by omega))
  · exact rds_le t N 61 0 0 _ _ (by omega)
theorem tXY_tm {i j : Nat} (h : i + j ≤ 3) : tX (tm i j) = i ∧ tY (tm i j) = j := by
  rcases (show (i = 0 ∧ (j = 0 ∨ j = 1 ∨ j = 2 ∨ j = 3)) ∨ (i = 1 ∧ (j = 0 ∨ j = 1 ∨ j = 2)) ∨ (i = 2 ∧ (j = 0 ∨ j = 1)) ∨ (i = 3 ∧ j = 0) by omega) with ⟨rfl, rfl | rfl | rfl | rfl⟩ | ⟨rfl, rfl | rfl | rfl⟩ | ⟨rfl, rfl | rfl⟩ | ⟨rfl, rfl⟩ <;> decide
def t4 (i : Nat) : Nat := if i = 4 then 10 else tm i 0
theorem tm_4 {i j : Nat} (hi : i < 4) (h : i + j = 4) : tm i j = t4 (i + 1) := by
  rcases (show (i = 0 ∧ j = 4) ∨ (i = 1 ∧ j = 3) ∨ (i = 2 ∧ j = 2) ∨ (i = 3 ∧ j = 1) by omega) with ⟨rfl, rfl⟩ | ⟨rfl, rfl⟩ | ⟨rfl, rfl⟩ | ⟨rfl, rfl⟩ <;> decide
theorem tm_s (i j : Nat) : tm i (j + 1) = tm i j + 1 := rfl
theorem dg_no {f g : Nat → Int32} {k : Nat} (h1 : f k = 0) (h2 : g k = 0) : dgN f g (k + 1) = dgN f g k := by simp [dgN, h1, h2]
theorem dg_yes {f g : Nat → Int32} {k : Nat} (h : ¬ (f k = 0 ∧ g k = 0)) : dgN f g (k + 1) = max (dgN f g k) (tX k + tY k) := by simp only [dgN]; rw [if_neg h]
theorem dX12_fault_0 : decode cX12_fault 0 = .ok (.aload_n 0, 1) := by decide +kernel
theorem dX12_fault_1 : decode cX12_fault 1 = .ok (.invokevirtual 288, 3) := by decide +kernel
theorem dX12_fault_4 : decode cX12_fault 4 = .ok (.istore_n 1, 1) := by decide +kernel
theorem dX12_fault_5 : decode cX12_fault 5 = .ok (.iload_n 1, 1) := by decide +kernel
theorem dX12_fault_6 : decode cX12_fault 6 = .ok (.ifCond .ge 8, 3) := by decide +kernel
theorem dX12_fault_9 : decode cX12_fault 9 = .ok (.ldc 227, 2) := by decide +kernel
theorem dX12_fault_11 : decode cX12_fault 11 = .ok (.goto 4, 3) := by decide +kernel
theorem dX12_fault_14 : decode cX12_fault 14 = .ok (.iload_n 1, 1) := by decide +kernel
theorem dX12_fault_15 : decode cX12_fault 15 = .ok (.ireturn, 1) := by decide +kernel
set_option maxHeartbeats 1000000 in
set_option maxRecDepth 100000 in
theorem t_X12_fault (l : Launch) (D : xD) (z n : Nat) (G : xG) (I : xI) (L : xL) (A : Nat) (t : Nat → Nat) (N : Nat) (r : Nat) (hM : shMo G A) (zA : z ≤ A) (hT : mx I A t N r) (hC : txc t N) : xM0 l D z yX12_fault cX12_fault 2 (some .int) 5 106 [.ref A] n G I L (fun v' I' L' => v' = (some (.int (if (rdAll t N).1 = true then (-2000000004) else nI (rdAll t N).2.1))) ∧ L' = L ∧ (∀ a, a ≠ A → a ≠ A + 14 → I' a = I a) ∧ (∀ j, (j < 18 ∨ 22 < j) → I' A j = I A j)) := by
  refine xM.of (by decide) (Nat.le_of_ble_eq_true rfl) (fun p e s m args below meth c C hnm hsz => ?_)
  refine x_lv [(0, .ref A)] rfl ?_
  have hN6 := hC.1
  have hrl := rdAll_le t N
  refine x_aload_n 0 C dX12_fault_0 rfl 0 rfl ?_
  refine x_callVp 1 C dX12_fault_1 (As := []) (rest := []) (t_X12_faultOf l D z n G I L A t N r hM (by omega) (by first | assumption | omega | decide) (by first | assumption | omega | decide)) mt_X12_faultOf km_X12_288 ki_X12_faultOf ks_X12_faultOf hM.1 ⟨by decide, rfl⟩ rfl (Nat.le_of_ble_eq_true rfl) ⟨⟨by decide, by decide⟩, by decide, by decide⟩ (fun w1 I2 L3 hw1 => ?_)
  obtain ⟨hw1v, eL3, hw1r0, hw1r1, hw1r2⟩ := hw1
  subst hw1v
  refine x_st [.int (if (rdAll t N).1 = true then -1 else nI (rdAll t N).2.1)] rfl ?_
  replace eL3 := eL3.symm; subst eL3
  refine x_istore_n 4 C [(1, .int (if (rdAll t N).1 = true then -1 else nI (rdAll t N).2.1)), (0, .ref A)] dX12_fault_4 rfl (by decide) rfl ?_
  by_cases hok : (rdAll t N).1 = true
  · skip
    refine x_lv [(1, .int (-1)), (0, .ref A)] (by rw [if_pos hok]) ?_
    refine x_iload_n 5 C dX12_fault_5 rfl 0 rfl ?_
    refine x_if_ge 6 C 14 dX12_fault_6 (by decide) (fun c4 => absurd c4 (by decide)) (fun _ => ?_)
    refine x_ldc 9 C (-2000000004) dX12_fault_9 kk_X12_227 ?_
    refine x_goto 11 C 15 dX12_fault_11 (by decide) ?_
    refine x_iret 15 C dX12_fault_15 rfl rfl (Nat.le_refl _) (xN.intro ?_)
    first | exact ⟨by rw [if_pos hok], rfl, hw1r1, hw1r2⟩ | exact ⟨by rw [if_neg hok], rfl, hw1r1, hw1r2⟩
  · skip
    refine x_lv [(1, .int (nI ((rdAll t N).2.1))), (0, .ref A)] (by rw [if_neg hok]) ?_
    refine x_iload_n 5 C dX12_fault_5 rfl 0 rfl ?_
    refine x_if_ge 6 C 14 dX12_fault_6 (by decide) (fun _ => ?_) (fun c5 => absurd ((nI_leI (a := 0) (b := ((rdAll t N).2.1)) (by omega) (by omega)).mpr (by omega)) c5)
    refine x_iload_n 14 C dX12_fault_14 rfl 0 rfl ?_
    refine x_iret 15 C dX12_fault_15 rfl rfl (Nat.le_refl _) (xN.intro ?_)
    first | exact ⟨by rw [if_pos hok], rfl, hw1r1, hw1r2⟩ | exact ⟨by rw [if_neg hok], rfl, hw1r1, hw1r2⟩
theorem dX12_degreeTold_0 : decode cX12_degreeTold 0 = .ok (.iconst 0, 1) := by decide +kernel
theorem dX12_degreeTold_1 : decode cX12_degreeTold 1 = .ok (.istore_n 1, 1) := by decide +kernel
theorem dX12_degreeTold_2 : decode cX12_degreeTold 2 = .ok (.iconst 0, 1) := by decide +kernel
theorem dX12_degreeTold_3 : decode cX12_degreeTold 3 = .ok (.istore_n 2, 1) := by decide +kernel
theorem dX12_degreeTold_4 : decode cX12_degreeTold 4 = .ok (.iload_n 2, 1) := by decide +kernel
theorem dX12_degreeTold_5 : decode cX12_degreeTold 5 = .ok (.iconst 4, 1) := by decide +kernel
theorem dX12_degreeTold_6 : decode cX12_degreeTold 6 = .ok (.if_icmp .ge 81, 3) := by decide +kernel
theorem dX12_degreeTold_9 : decode cX12_degreeTold 9 = .ok (.iconst 0, 1) := by decide +kernel
theorem dX12_degreeTold_10 : decode cX12_degreeTold 10 = .ok (.istore_n 3, 1) := by decide +kernel
theorem dX12_degreeTold_11 : decode cX12_degreeTold 11 = .ok (.iload_n 2, 1) := by decide +kernel
theorem dX12_degreeTold_12 : decode cX12_degreeTold 12 = .ok (.iload_n 3, 1) := by decide +kernel
theorem dX12_degreeTold_13 : decode cX12_degreeTold 13 = .ok (.iadd, 1) := by decide +kernel
theorem dX12_degreeTold_14 : decode cX12_degreeTold 14 = .ok (.iconst 4, 1) := by decide +kernel
theorem dX12_degreeTold_15 : decode cX12_degreeTold 15 = .ok (.if_icmp .ge 66, 3) := by decide +kernel
theorem dX12_degreeTold_18 : decode cX12_degreeTold 18 = .ok (.iconst 0, 1) := by decide +kernel
theorem dX12_degreeTold_19 : decode cX12_degreeTold 19 = .ok (.iload_n 2, 1) := by decide +kernel
theorem dX12_degreeTold_20 : decode cX12_degreeTold 20 = .ok (.iload_n 3, 1) := by decide +kernel
theorem dX12_degreeTold_21 : decode cX12_degreeTold 21 = .ok (.invokestatic 60, 3) := by decide +kernel
theorem dX12_degreeTold_24 : decode cX12_degreeTold 24 = .ok (.istore 4, 2) := by decide +kernel
theorem dX12_degreeTold_26 : decode cX12_degreeTold 26 = .ok (.aload_n 0, 1) := by decide +kernel
theorem dX12_degreeTold_27 : decode cX12_degreeTold 27 = .ok (.getfield 57, 3) := by decide +kernel
theorem dX12_degreeTold_30 : decode cX12_degreeTold 30 = .ok (.iload 4, 2) := by decide +kernel
theorem dX12_degreeTold_32 : decode cX12_degreeTold 32 = .ok (.iaload, 1) := by decide +kernel
theorem dX12_degreeTold_33 : decode cX12_degreeTold 33 = .ok (.ifCond .ne 15, 3) := by decide +kernel
theorem dX12_degreeTold_36 : decode cX12_degreeTold 36 = .ok (.aload_n 0, 1) := by decide +kernel
theorem dX12_degreeTold_37 : decode cX12_degreeTold 37 = .ok (.getfield 57, 3) := by decide +kernel
theorem dX12_degreeTold_40 : decode cX12_degreeTold 40 = .ok (.iload 4, 2) := by decide +kernel
theorem dX12_degreeTold_42 : decode cX12_degreeTold 42 = .ok (.iconst 1, 1) := by decide +kernel
theorem dX12_degreeTold_43 : decode cX12_degreeTold 43 = .ok (.iadd, 1) := by decide +kernel
theorem dX12_degreeTold_44 : decode cX12_degreeTold 44 = .ok (.iaload, 1) := by decide +kernel
theorem dX12_degreeTold_45 : decode cX12_degreeTold 45 = .ok (.ifCond .eq 7, 3) := by decide +kernel
theorem dX12_degreeTold_48 : decode cX12_degreeTold 48 = .ok (.iconst 1, 1) := by decide +kernel
theorem dX12_degreeTold_49 : decode cX12_degreeTold 49 = .ok (.goto 4, 3) := by decide +kernel
theorem dX12_degreeTold_52 : decode cX12_degreeTold 52 = .ok (.iconst 0, 1) := by decide +kernel
theorem dX12_degreeTold_53 : decode cX12_degreeTold 53 = .ok (.istore 5, 2) := by decide +kernel
theorem dX12_degreeTold_55 : decode cX12_degreeTold 55 = .ok (.iload 5, 2) := by decide +kernel
theorem dX12_degreeTold_57 : decode cX12_degreeTold 57 = .ok (.ifCond .eq 16, 3) := by decide +kernel
theorem dX12_degreeTold_60 : decode cX12_degreeTold 60 = .ok (.iload_n 2, 1) := by decide +kernel
theorem dX12_degreeTold_61 : decode cX12_degreeTold 61 = .ok (.iload_n 3, 1) := by decide +kernel
theorem dX12_degreeTold_62 : decode cX12_degreeTold 62 = .ok (.iadd, 1) := by decide +kernel
theorem dX12_degreeTold_63 : decode cX12_degreeTold 63 = .ok (.iload_n 1, 1) := by decide +kernel
theorem dX12_degreeTold_64 : decode cX12_degreeTold 64 = .ok (.if_icmp .le 9, 3) := by decide +kernel
theorem dX12_degreeTold_67 : decode cX12_degreeTold 67 = .ok (.iload_n 2, 1) := by decide +kernel
theorem dX12_degreeTold_68 : decode cX12_degreeTold 68 = .ok (.iload_n 3, 1) := by decide +kernel
theorem dX12_degreeTold_69 : decode cX12_degreeTold 69 = .ok (.iadd, 1) := by decide +kernel
theorem dX12_degreeTold_70 : decode cX12_degreeTold 70 = .ok (.goto 4, 3) := by decide +kernel
theorem dX12_degreeTold_73 : decode cX12_degreeTold 73 = .ok (.iload_n 1, 1) := by decide +kernel
theorem dX12_degreeTold_74 : decode cX12_degreeTold 74 = .ok (.istore_n 1, 1) := by decide +kernel
theorem dX12_degreeTold_75 : decode cX12_degreeTold 75 = .ok (.iinc 3 1, 3) := by decide +kernel
theorem dX12_degreeTold_78 : decode cX12_degreeTold 78 = .ok (.goto (-67), 3) := by decide +kernel
theorem dX12_degreeTold_81 : decode cX12_degreeTold 81 = .ok (.iinc 2 1, 3) := by decide +kernel
theorem dX12_degreeTold_84 : decode cX12_degreeTold 84 = .ok (.goto (-80), 3) := by decide +kernel
theorem dX12_degreeTold_87 : decode cX12_degreeTold 87 = .ok (.iload_n 1, 1) := by decide +kernel
theorem dX12_degreeTold_88 : decode cX12_degreeTold 88 = .ok (.ireturn, 1) := by decide +kernel
set_option maxHeartbeats 1000000 in
set_option maxRecDepth 100000 in
theorem t_X12_degreeTold (l : Launch) (D : xD) (z n : Nat) (G : xG) (I : xI) (L : xL) (A : Nat) (f : Nat → Int32) (g : Nat → Int32) (hM : shMo G A) (hFG : toldIs I A f g) : xM0 l D z yX12_degreeTold cX12_degreeTold 6 (some .int) 1 23 [.ref A] n G I L (xE (some (.int (nI (dgN f g 10)))) I L) := by
  refine xM.of (by decide) (Nat.le_of_ble_eq_true rfl) (fun p e s m args below meth c C hnm hsz => ?_)
  refine x_lv [(0, .ref A)] rfl ?_
  refine x_iconst 0 C (v := 0) dX12_degreeTold_0 rfl ?_
  refine x_istore_n 1 C [(1, .int 0), (0, .ref A)] dX12_degreeTold_1 rfl (by decide) rfl ?_
  refine x_iconst 2 C (v := 0) dX12_degreeTold_2 rfl ?_
  refine x_istore_n 3 C [(2, .int 0), (1, .int 0), (0, .ref A)] dX12_degreeTold_3 rfl (by decide) rfl ?_
  have loop4 : ∀ (fuel : Nat) (i : Nat), (i ≤ 4) → (5 ≤ i + fuel) → X p l e (xRm 1 23 0 0) s m args below meth c D z 6 (MQ below (xQc D z n (xN n G (xE (some (.int (nI (dgN f g 10)))) I L))) args s 0 0 (fun a => z ≤ a)) 0 0 n G I L 4 [(0, .ref A), (1, .int (nI (dgN f g (t4 i)))), (2, .int (nI i))] [] := by
    intro fuel
    induction fuel with
    | zero =>
      intro i hi hf
      exact absurd hf (by omega)
    | succ fuel ih =>
      intro i hi hf
      have ihO := ih
      refine x_iload_n 4 C dX12_degreeTold_4 rfl 2 rfl ?_
      refine x_iconst 5 C (v := 4) dX12_degreeTold_5 rfl ?_
      refine x_icmp_ge 6 C 87 dX12_degreeTold_6 (by decide) (fun c1 => ?_) (fun c1 => ?_)
      · skip
        have c1n : 4 ≤ i := (nI_leI (a := 4) (b := i) (by omega) (by omega)).mp c1
        have c1m : ¬ (i < 4) := by omega
        have c1o := Int32.not_lt.mpr c1
        refine x_iload_n 87 C dX12_degreeTold_87 rfl 1 rfl ?_
        refine x_iret 88 C dX12_degreeTold_88 rfl rfl (Nat.le_refl _) (xN.intro ?_)
        have hi4 : i = 4 := by omega
        subst hi4
        exact ⟨rfl, rfl, rfl⟩
      · skip
        have c1n : ¬ (4 ≤ i) := fun h => c1 ((nI_leI (a := 4) (b := i) (by omega) (by omega)).mpr h)
        have c1m : i < 4 := by omega
        have c1o := Int32.not_le.mp c1
        refine x_iconst 9 C (v := 0) dX12_degreeTold_9 rfl ?_
        refine x_istore_n 10 C [(3, .int 0), (0, .ref A), (1, .int (nI (dgN f g (t4 i)))), (2, .int (nI i))] dX12_degreeTold_10 rfl (by decide) rfl ?_
        have loop11 : ∀ (fuel : Nat) (j : Nat), (i + j ≤ 4) → (5 ≤ i + j + fuel) → X p l e (xRm 1 23 0 0) s m args below meth c D z 6 (MQ below (xQc D z n (xN n G (xE (some (.int (nI (dgN f g 10)))) I L))) args s 0 0 (fun a => z ≤ a)) 0 0 n G I L 11 [(0, .ref A), (1, .int (nI (dgN f g (tm i j)))), (2, .int (nI i)), (3, .int (nI j))] [] := by
          intro fuel
          induction fuel with
          | zero =>
            intro j hj hf2
            exact absurd hf2 (by omega)
          | succ fuel ih =>
            intro j hj hf2
            refine x_iload_n 11 C dX12_degreeTold_11 rfl 2 rfl ?_
            refine x_iload_n 12 C dX12_degreeTold_12 rfl 3 rfl ?_
            refine x_iadd 13 C dX12_degreeTold_13 ?_
            refine x_int (nI (i + j)) (nI_add i j) ?_
            refine x_iconst 14 C (v := 4) dX12_degreeTold_14 rfl ?_
            refine x_icmp_ge 15 C 81 dX12_degreeTold_15 (by decide) (fun c2 => ?_) (fun c2 => ?_)
            · skip
              have c2n : 4 ≤ (i + j) := (nI_leI (a := 4) (b := (i + j)) (by omega) (by omega)).mp c2
              have c2m : ¬ ((i + j) < 4) := by omega
              have c2o := Int32.not_lt.mpr c2
              have hj4 : i + j = 4 := by omega
              refine x_iinc 81 C [(2, .int (nI (i + 1))), (0, .ref A), (1, .int (nI (dgN f g (tm i j)))), (3, .int (nI j))] dX12_degreeTold_81 2 rfl (nI_add i 1) (by decide) rfl ?_
              refine x_goto 84 C 4 dX12_degreeTold_84 (by decide) ?_
              refine x_sub [(0, .ref A), (1, .int (nI (dgN f g (tm i j)))), (2, .int (nI (i + 1)))] [1, 2, 0] rfl ?_
              refine x_lv [(0, .ref A), (1, .int (nI (dgN f g (t4 (i + 1))))), (2, .int (nI (i + 1)))] (by rw [← tm_4 (by omega) hj4]) ?_
              exact ihO (i + 1) (by omega) (by omega)
            · skip
              have c2n : ¬ (4 ≤ (i + j)) := fun h => c2 ((nI_leI (a := 4) (b := (i + j)) (by omega) (by omega)).mpr h)
              have c2m : (i + j) < 4 := by omega
              have c2o := Int32.not_le.mp c2
              have hij : i + j ≤ 3 := by omega
              have hxy := tXY_tm hij
              have htm := tm_lt hij
              have hdl := dgN_le f g (tm i j)
              refine x_iconst 18 C (v := 0) dX12_degreeTold_18 rfl ?_
              refine x_iload_n 19 C dX12_degreeTold_19 rfl 2 rfl ?_
              refine x_iload_n 20 C dX12_degreeTold_20 rfl 3 rfl ?_
              refine x_callSe 21 C dX12_degreeTold_21 (As := [.int 0, .int (nI i), .int (nI j)]) (rest := []) [.int (nI (20 * 0 + 2 * tm i j))] (t_X12_termOf l D z n G I L 0 i j (by first | omega | assumption | decide) (by first | omega | assumption | decide)) mt_X12_termOf km_X12_60 kt_X12_termOf rfl rfl (Nat.le_of_ble_eq_true rfl) ⟨⟨by decide, by decide⟩, by decide, by decide⟩ (fun I3 L4 eI3 eL4 => ?_)
              replace eI3 := eI3.symm; subst eI3
              replace eL4 := eL4.symm; subst eL4
              refine x_istore 24 C [(4, .int (nI (20 * 0 + 2 * tm i j))), (0, .ref A), (1, .int (nI (dgN f g (tm i j)))), (2, .int (nI i)), (3, .int (nI j))] dX12_degreeTold_24 (by decide) rfl ?_
              refine x_aload_n 26 C dX12_degreeTold_26 rfl 1 rfl ?_
              refine x_getr 27 C (b := A + 14) dX12_degreeTold_27 ff_X12_57 rfl hM.1 rfl ?_
              refine x_iload 30 C dX12_degreeTold_30 0 rfl ?_
              refine x_iald 32 C (j := (20 * 0 + 2 * tm i j)) dX12_degreeTold_32 hM.2.2.2.2.2.2.2.2.2.2.2.2.2.2 (xIx_nI (by omega) (by decide)) ?_
              refine x_int (f (tm i j)) ((congrArg (I (A + 14)) (by omega)).trans (hFG (tm i j) htm).1) ?_
              refine x_if_ne 33 C 48 dX12_degreeTold_33 (by decide) (fun c5 => ?_) (fun c5 => ?_)
              · skip
                refine x_iconst 48 C (v := 1) dX12_degreeTold_48 rfl ?_
                refine x_goto 49 C 53 dX12_degreeTold_49 (by decide) ?_
                refine x_istore 53 C [(5, .int 1), (4, .int (nI (20 * 0 + 2 * tm i j))), (0, .ref A), (1, .int (nI (dgN f g (tm i j)))), (2, .int (nI i)), (3, .int (nI j))] dX12_degreeTold_53 (by decide) rfl ?_
                refine x_iload 55 C dX12_degreeTold_55 0 rfl ?_
                refine x_if_eq 57 C 73 dX12_degreeTold_57 (by decide) (fun c6 => absurd c6 (by decide)) (fun _ => ?_)
                refine x_iload_n 60 C dX12_degreeTold_60 rfl 4 rfl ?_
                refine x_iload_n 61 C dX12_degreeTold_61 rfl 5 rfl ?_
                refine x_iadd 62 C dX12_degreeTold_62 ?_
                refine x_int (nI (i + j)) (nI_add i j) ?_
                refine x_iload_n 63 C dX12_degreeTold_63 rfl 3 rfl ?_
                refine x_icmp_le 64 C 73 dX12_degreeTold_64 (by decide) (fun c7 => ?_) (fun c7 => ?_)
                · skip
                  have c7n : (i + j) ≤ (dgN f g (tm i j)) := (nI_leI (a := (i + j)) (b := (dgN f g (tm i j))) (by omega) (by omega)).mp c7
                  have c7m : ¬ ((dgN f g (tm i j)) < (i + j)) := by omega
                  have c7o := Int32.not_lt.mpr c7
                  refine x_iload_n 73 C dX12_degreeTold_73 rfl 3 rfl ?_
                  refine x_istore_n 74 C [(1, .int (nI (dgN f g (tm i j)))), (5, .int 1), (4, .int (nI (20 * 0 + 2 * tm i j))), (0, .ref A), (2, .int (nI i)), (3, .int (nI j))] dX12_degreeTold_74 rfl (by decide) rfl ?_
                  refine x_iinc 75 C [(3, .int (nI (j + 1))), (1, .int (nI (dgN f g (tm i j)))), (5, .int 1), (4, .int (nI (20 * 0 + 2 * tm i j))), (0, .ref A), (2, .int (nI i))] dX12_degreeTold_75 5 rfl (nI_add j 1) (by decide) rfl ?_
                  refine x_goto 78 C 11 dX12_degreeTold_78 (by decide) ?_
                  refine x_sub [(0, .ref A), (1, .int (nI (dgN f g (tm i j)))), (2, .int (nI i)), (3, .int (nI (j + 1)))] [4, 1, 5, 0] rfl ?_
                  have hstep : dgN f g (tm i (j + 1)) = dgN f g (tm i j) := by
                    rw [tm_s]
                    by_cases hzz : f (tm i j) = 0 ∧ g (tm i j) = 0
                    · first | exact dg_no hzz.1 hzz.2 | exact absurd hzz.1 (by assumption) | exact absurd hzz.2 (by assumption)
                    · first | exact absurd (And.intro (by assumption) (by assumption)) hzz | (rw [dg_yes hzz, hxy.1, hxy.2]; omega)
                  refine x_lv [(0, .ref A), (1, .int (nI (dgN f g (tm i (j + 1))))), (2, .int (nI i)), (3, .int (nI (j + 1)))] (by rw [hstep]) ?_
                  exact ih (j + 1) (by omega) (by omega)
                · skip
                  have c7n : ¬ ((i + j) ≤ (dgN f g (tm i j))) := fun h => c7 ((nI_leI (a := (i + j)) (b := (dgN f g (tm i j))) (by omega) (by omega)).mpr h)
                  have c7m : (dgN f g (tm i j)) < (i + j) := by omega
                  have c7o := Int32.not_le.mp c7
                  refine x_iload_n 67 C dX12_degreeTold_67 rfl 4 rfl ?_
                  refine x_iload_n 68 C dX12_degreeTold_68 rfl 5 rfl ?_
                  refine x_iadd 69 C dX12_degreeTold_69 ?_
                  refine x_int (nI (i + j)) (nI_add i j) ?_
                  refine x_goto 70 C 74 dX12_degreeTold_70 (by decide) ?_
                  refine x_istore_n 74 C [(1, .int (nI (i + j))), (5, .int 1), (4, .int (nI (20 * 0 + 2 * tm i j))), (0, .ref A), (2, .int (nI i)), (3, .int (nI j))] dX12_degreeTold_74 rfl (by decide) rfl ?_
                  refine x_iinc 75 C [(3, .int (nI (j + 1))), (1, .int (nI (i + j))), (5, .int 1), (4, .int (nI (20 * 0 + 2 * tm i j))), (0, .ref A), (2, .int (nI i))] dX12_degreeTold_75 5 rfl (nI_add j 1) (by decide) rfl ?_
                  refine x_goto 78 C 11 dX12_degreeTold_78 (by decide) ?_
                  refine x_sub [(0, .ref A), (1, .int (nI (i + j))), (2, .int (nI i)), (3, .int (nI (j + 1)))] [4, 1, 5, 0] rfl ?_
                  have hstep : dgN f g (tm i (j + 1)) = i + j := by
                    rw [tm_s]
                    by_cases hzz : f (tm i j) = 0 ∧ g (tm i j) = 0
                    · first | exact dg_no hzz.1 hzz.2 | exact absurd hzz.1 (by assumption) | exact absurd hzz.2 (by assumption)
                    · first | exact absurd (And.intro (by assumption) (by assumption)) hzz | (rw [dg_yes hzz, hxy.1, hxy.2]; omega)
                  refine x_lv [(0, .ref A), (1, .int (nI (dgN f g (tm i (j + 1))))), (2, .int (nI i)), (3, .int (nI (j + 1)))] (by rw [hstep]) ?_
                  exact ih (j + 1) (by omega) (by omega)
              · skip
                refine x_aload_n 36 C dX12_degreeTold_36 rfl 1 rfl ?_
                refine x_getr 37 C (b := A + 14) dX12_degreeTold_37 ff_X12_57 rfl hM.1 rfl ?_
                refine x_iload 40 C dX12_degreeTold_40 0 rfl ?_
                refine x_iconst 42 C (v := 1) dX12_degreeTold_42 rfl ?_
                refine x_iadd 43 C dX12_degreeTold_43 ?_
                refine x_int (nI (20 * 0 + 2 * tm i j + 1)) (nI_add (20 * 0 + 2 * tm i j) 1) ?_
                refine x_iald 44 C (j := (20 * 0 + 2 * tm i j + 1)) dX12_degreeTold_44 hM.2.2.2.2.2.2.2.2.2.2.2.2.2.2 (xIx_nI (by omega) (by decide)) ?_
                refine x_int (g (tm i j)) ((congrArg (I (A + 14)) (by omega)).trans (hFG (tm i j) htm).2) ?_
                refine x_if_eq 45 C 52 dX12_degreeTold_45 (by decide) (fun c8 => ?_) (fun c8 => ?_)
                · skip
                  refine x_iconst 52 C (v := 0) dX12_degreeTold_52 rfl ?_
                  refine x_istore 53 C [(5, .int 0), (4, .int (nI (20 * 0 + 2 * tm i j))), (0, .ref A), (1, .int (nI (dgN f g (tm i j)))), (2, .int (nI i)), (3, .int (nI j))] dX12_degreeTold_53 (by decide) rfl ?_
                  refine x_iload 55 C dX12_degreeTold_55 0 rfl ?_
                  refine x_if_eq 57 C 73 dX12_degreeTold_57 (by decide) (fun _ => ?_) (fun c9 => absurd (by decide) c9)
                  refine x_iload_n 73 C dX12_degreeTold_73 rfl 3 rfl ?_
                  refine x_istore_n 74 C [(1, .int (nI (dgN f g (tm i j)))), (5, .int 0), (4, .int (nI (20 * 0 + 2 * tm i j))), (0, .ref A), (2, .int (nI i)), (3, .int (nI j))] dX12_degreeTold_74 rfl (by decide) rfl ?_
                  refine x_iinc 75 C [(3, .int (nI (j + 1))), (1, .int (nI (dgN f g (tm i j)))), (5, .int 0), (4, .int (nI (20 * 0 + 2 * tm i j))), (0, .ref A), (2, .int (nI i))] dX12_degreeTold_75 5 rfl (nI_add j 1) (by decide) rfl ?_
                  refine x_goto 78 C 11 dX12_degreeTold_78 (by decide) ?_
                  refine x_sub [(0, .ref A), (1, .int (nI (dgN f g (tm i j)))), (2, .int (nI i)), (3, .int (nI (j + 1)))] [4, 1, 5, 0] rfl ?_
                  have hstep : dgN f g (tm i (j + 1)) = dgN f g (tm i j) := by
                    rw [tm_s]
                    by_cases hzz : f (tm i j) = 0 ∧ g (tm i j) = 0
                    · first | exact dg_no hzz.1 hzz.2 | exact absurd hzz.1 (by assumption) | exact absurd hzz.2 (by assumption)
                    · first | exact absurd (And.intro (by assumption) (by assumption)) hzz | (rw [dg_yes hzz, hxy.1, hxy.2]; omega)
                  refine x_lv [(0, .ref A), (1, .int (nI (dgN f g (tm i (j + 1))))), (2, .int (nI i)), (3, .int (nI (j + 1)))] (by rw [hstep]) ?_
                  exact ih (j + 1) (by omega) (by omega)
                · skip
                  refine x_iconst 48 C (v := 1) dX12_degreeTold_48 rfl ?_
                  refine x_goto 49 C 53 dX12_degreeTold_49 (by decide) ?_
                  refine x_istore 53 C [(5, .int 1), (4, .int (nI (20 * 0 + 2 * tm i j))), (0, .ref A), (1, .int (nI (dgN f g (tm i j)))), (2, .int (nI i)), (3, .int (nI j))] dX12_degreeTold_53 (by decide) rfl ?_
                  refine x_iload 55 C dX12_degreeTold_55 0 rfl ?_
                  refine x_if_eq 57 C 73 dX12_degreeTold_57 (by decide) (fun c10 => absurd c10 (by decide)) (fun _ => ?_)
                  refine x_iload_n 60 C dX12_degreeTold_60 rfl 4 rfl ?_
                  refine x_iload_n 61 C dX12_degreeTold_61 rfl 5 rfl ?_
                  refine x_iadd 62 C dX12_degreeTold_62 ?_
                  refine x_int (nI (i + j)) (nI_add i j) ?_
                  refine x_iload_n 63 C dX12_degreeTold_63 rfl 3 rfl ?_
                  refine x_icmp_le 64 C 73 dX12_degreeTold_64 (by decide) (fun c11 => ?_) (fun c11 => ?_)
                  · skip
                    have c11n : (i + j) ≤ (dgN f g (tm i j)) := (nI_leI (a := (i + j)) (b := (dgN f g (tm i j))) (by omega) (by omega)).mp c11
                    have c11m : ¬ ((dgN f g (tm i j)) < (i + j)) := by omega
                    have c11o := Int32.not_lt.mpr c11
                    refine x_iload_n 73 C dX12_degreeTold_73 rfl 3 rfl ?_
                    refine x_istore_n 74 C [(1, .int (nI (dgN f g (tm i j)))), (5, .int 1), (4, .int (nI (20 * 0 + 2 * tm i j))), (0, .ref A), (2, .int (nI i)), (3, .int (nI j))] dX12_degreeTold_74 rfl (by decide) rfl ?_
                    refine x_iinc 75 C [(3, .int (nI (j + 1))), (1, .int (nI (dgN f g (tm i j)))), (5, .int 1), (4, .int (nI (20 * 0 + 2 * tm i j))), (0, .ref A), (2, .int (nI i))] dX12_degreeTold_75 5 rfl (nI_add j 1) (by decide) rfl ?_
                    refine x_goto 78 C 11 dX12_degreeTold_78 (by decide) ?_
                    refine x_sub [(0, .ref A), (1, .int (nI (dgN f g (tm i j)))), (2, .int (nI i)), (3, .int (nI (j + 1)))] [4, 1, 5, 0] rfl ?_
                    have hstep : dgN f g (tm i (j + 1)) = dgN f g (tm i j) := by
                      rw [tm_s]
                      by_cases hzz : f (tm i j) = 0 ∧ g (tm i j) = 0
                      · first | exact dg_no hzz.1 hzz.2 | exact absurd hzz.1 (by assumption) | exact absurd hzz.2 (by assumption)
                      · first | exact absurd (And.intro (by assumption) (by assumption)) hzz | (rw [dg_yes hzz, hxy.1, hxy.2]; omega)
                    refine x_lv [(0, .ref A), (1, .int (nI (dgN f g (tm i (j + 1))))), (2, .int (nI i)), (3, .int (nI (j + 1)))] (by rw [hstep]) ?_
                    exact ih (j + 1) (by omega) (by omega)
                  · skip
                    have c11n : ¬ ((i + j) ≤ (dgN f g (tm i j))) := fun h => c11 ((nI_leI (a := (i + j)) (b := (dgN f g (tm i j))) (by omega) (by omega)).mpr h)
                    have c11m : (dgN f g (tm i j)) < (i + j) := by omega
                    have c11o := Int32.not_le.mp c11
                    refine x_iload_n 67 C dX12_degreeTold_67 rfl 4 rfl ?_
                    refine x_iload_n 68 C dX12_degreeTold_68 rfl 5 rfl ?_
                    refine x_iadd 69 C dX12_degreeTold_69 ?_
                    refine x_int (nI (i + j)) (nI_add i j) ?_
                    refine x_goto 70 C 74 dX12_degreeTold_70 (by decide) ?_
                    refine x_istore_n 74 C [(1, .int (nI (i + j))), (5, .int 1), (4, .int (nI (20 * 0 + 2 * tm i j))), (0, .ref A), (2, .int (nI i)), (3, .int (nI j))] dX12_degreeTold_74 rfl (by decide) rfl ?_
                    refine x_iinc 75 C [(3, .int (nI (j + 1))), (1, .int (nI (i + j))), (5, .int 1), (4, .int (nI (20 * 0 + 2 * tm i j))), (0, .ref A), (2, .int (nI i))] dX12_degreeTold_75 5 rfl (nI_add j 1) (by decide) rfl ?_
                    refine x_goto 78 C 11 dX12_degreeTold_78 (by decide) ?_
                    refine x_sub [(0, .ref A), (1, .int (nI (i + j))), (2, .int (nI i)), (3, .int (nI (j + 1)))] [4, 1, 5, 0] rfl ?_
                    have hstep : dgN f g (tm i (j + 1)) = i + j := by
                      rw [tm_s]
                      by_cases hzz : f (tm i j) = 0 ∧ g (tm i j) = 0
                      · first | exact dg_no hzz.1 hzz.2 | exact absurd hzz.1 (by assumption) | exact absurd hzz.2 (by assumption)
                      · first | exact absurd (And.intro (by assumption) (by assumption)) hzz | (rw [dg_yes hzz, hxy.1, hxy.2]; omega)
                    refine x_lv [(0, .ref A), (1, .int (nI (dgN f g (tm i (j + 1))))), (2, .int (nI i)), (3, .int (nI (j + 1)))] (by rw [hstep]) ?_
                    exact ih (j + 1) (by omega) (by omega)
        refine x_sub [(0, .ref A), (1, .int (nI (dgN f g (t4 i)))), (2, .int (nI i)), (3, .int 0)] [1, 2, 3, 0] rfl ?_
        refine x_lv [(0, .ref A), (1, .int (nI (dgN f g (tm i 0)))), (2, .int (nI i)), (3, .int 0)] (by rw [show t4 i = tm i 0 by unfold t4; exact if_neg (by omega)]) ?_
        exact loop11 5 0 (by omega) (by omega)
  refine x_sub [(0, .ref A), (1, .int 0), (2, .int 0)] [2, 1, 0] rfl ?_
  exact loop4 5 0 (by omega) (by omega)
theorem dX12_type_0 : decode cX12_type 0 = .ok (.iload_n 1, 1) := by decide +kernel
theorem dX12_type_1 : decode cX12_type 1 = .ok (.bipush 33, 2) := by decide +kernel
theorem dX12_type_3 : decode cX12_type 3 = .ok (.bipush 126, 2) := by decide +kernel
theorem dX12_type_5 : decode cX12_type 5 = .ok (.invokestatic 71, 3) := by decide +kernel
theorem dX12_type_8 : decode cX12_type 8 = .ok (.ifCond .ne 6, 3) := by decide +kernel
theorem dX12_type_11 : decode cX12_type 11 = .ok (.ldc 198, 2) := by decide +kernel
theorem dX12_type_13 : decode cX12_type 13 = .ok (.ireturn, 1) := by decide +kernel
theorem dX12_type_14 : decode cX12_type 14 = .ok (.aload_n 0, 1) := by decide +kernel
theorem dX12_type_15 : decode cX12_type 15 = .ok (.getfield 243, 3) := by decide +kernel
theorem dX12_type_18 : decode cX12_type 18 = .ok (.bipush 60, 2) := by decide +kernel
theorem dX12_type_20 : decode cX12_type 20 = .ok (.if_icmp .ne 6, 3) := by decide +kernel
theorem dX12_type_23 : decode cX12_type 23 = .ok (.ldc 246, 2) := by decide +kernel
theorem dX12_type_25 : decode cX12_type 25 = .ok (.ireturn, 1) := by decide +kernel
theorem dX12_type_26 : decode cX12_type 26 = .ok (.aload_n 0, 1) := by decide +kernel
theorem dX12_type_27 : decode cX12_type 27 = .ok (.getfield 23, 3) := by decide +kernel
theorem dX12_type_30 : decode cX12_type 30 = .ok (.aload_n 0, 1) := by decide +kernel
theorem dX12_type_31 : decode cX12_type 31 = .ok (.getfield 243, 3) := by decide +kernel
theorem dX12_type_34 : decode cX12_type 34 = .ok (.iload_n 1, 1) := by decide +kernel
theorem dX12_type_35 : decode cX12_type 35 = .ok (.iastore, 1) := by decide +kernel
theorem dX12_type_36 : decode cX12_type 36 = .ok (.aload_n 0, 1) := by decide +kernel
theorem dX12_type_37 : decode cX12_type 37 = .ok (.dup, 1) := by decide +kernel
theorem dX12_type_38 : decode cX12_type 38 = .ok (.getfield 243, 3) := by decide +kernel
theorem dX12_type_41 : decode cX12_type 41 = .ok (.iconst 1, 1) := by decide +kernel
theorem dX12_type_42 : decode cX12_type 42 = .ok (.iadd, 1) := by decide +kernel
theorem dX12_type_43 : decode cX12_type 43 = .ok (.putfield 243, 3) := by decide +kernel
theorem dX12_type_46 : decode cX12_type 46 = .ok (.aload_n 0, 1) := by decide +kernel
theorem dX12_type_47 : decode cX12_type 47 = .ok (.getfield 243, 3) := by decide +kernel
theorem dX12_type_50 : decode cX12_type 50 = .ok (.ireturn, 1) := by decide +kernel
set_option maxHeartbeats 1000000 in
set_option maxRecDepth 100000 in
theorem t_X12_type (l : Launch) (D : xD) (z n : Nat) (G : xG) (I : xI) (L : xL) (A : Nat) (x : Int32) (N : Nat) (hM : shMo G A) (zA : z ≤ A) (hN : I A 6 = nI N) (hN6 : N ≤ 60) : xM0 l D z yX12_type cX12_type 2 (some .int) 1 22 [.ref A, .int x] n G I L (xE (some (.int (if x < 33 ∨ 126 < x then (-2000000001) else if N < 60 then nI (N + 1) else (-2000000003)))) (if x < 33 ∨ 126 < x then I else if N < 60 then xup (xup I (A + 5) N x) A 6 (nI (N + 1)) else I) L) := by
  refine xM.of (by decide) (Nat.le_of_ble_eq_true rfl) (fun p e s m args below meth c C hnm hsz => ?_)
  refine x_lv [(0, .ref A), (1, .int x)] rfl ?_
  refine x_iload_n 0 C dX12_type_0 rfl 1 rfl ?_
  refine x_bipush 1 C (v := 33) dX12_type_1 rfl ?_
  refine x_bipush 3 C (v := 126) dX12_type_3 rfl ?_
  refine x_callSe 5 C dX12_type_5 (As := [.int x, .int 33, .int 126]) (rest := []) [.int (bI (decide (33 ≤ x) && decide (x ≤ 126)))] (t_X12_in l D z n G I L x 33 126 ) mt_X12_in km_X12_71 kt_X12_in rfl rfl (Nat.le_of_ble_eq_true rfl) ⟨⟨by decide, by decide⟩, by decide, by decide⟩ (fun I1 L2 eI1 eL2 => ?_)
  replace eI1 := eI1.symm; subst eI1
  replace eL2 := eL2.symm; subst eL2
  refine x_if_ne 8 C 14 dX12_type_8 (by decide) (fun c3 => ?_) (fun c3 => ?_)
  · skip
    have hb : _ := bI_n0.mp c3
    simp only [Bool.and_eq_true, decide_eq_true_eq] at hb
    have hbad : ¬ (x < 33 ∨ 126 < x) := fun h => h.elim (fun h => absurd hb.1 (Int32.not_le.mpr h)) (fun h => absurd hb.2 (Int32.not_le.mpr h))
    refine x_aload_n 14 C dX12_type_14 rfl 0 rfl ?_
    refine x_geti 15 C dX12_type_15 ff_X12_243 hM.1 ?_
    refine x_int (nI N) hN ?_
    refine x_bipush 18 C (v := 60) dX12_type_18 rfl ?_
    refine x_icmp_ne 20 C 26 dX12_type_20 (by decide) (fun c4 => ?_) (fun c4 => ?_)
    · skip
      have c4n : ¬ (N = 60) := fun h => c4 ((nI_eq (a := N) (b := 60) (by omega) (by omega)).mpr h)
      refine x_aload_n 26 C dX12_type_26 rfl 0 rfl ?_
      refine x_getr 27 C (b := A + 5) dX12_type_27 ff_X12_23 rfl hM.1 rfl ?_
      refine x_aload_n 30 C dX12_type_30 rfl 0 rfl ?_
      refine x_geti 31 C dX12_type_31 ff_X12_243 hM.1 ?_
      refine x_int (nI N) hN ?_
      refine x_iload_n 34 C dX12_type_34 rfl 1 rfl ?_
      refine x_iast 35 C (j := N) dX12_type_35 hM.2.2.2.2.2.1 (by omega) (xIx_nI (by omega) (by decide)) (fun I5 eI5 => ?_)
      refine x_aload_n 36 C dX12_type_36 rfl 0 rfl ?_
      refine x_dup 37 C dX12_type_37 rfl ?_
      refine x_geti 38 C dX12_type_38 ff_X12_243 hM.1 ?_
      refine x_int (nI N) (by rw [eI5, xup_row _ _ (by omega)]; exact hN) ?_
      refine x_iconst 41 C (v := 1) dX12_type_41 rfl ?_
      refine x_iadd 42 C dX12_type_42 ?_
      refine x_int (nI (N + 1)) (nI_add N 1) ?_
      refine x_puti 43 C dX12_type_43 ff_X12_243 rfl hM.1 (by omega) (fun I6 eI6 => ?_)
      refine x_aload_n 46 C dX12_type_46 rfl 0 rfl ?_
      refine x_geti 47 C dX12_type_47 ff_X12_243 hM.1 ?_
      refine x_int (nI (N + 1)) (by rw [eI6, xup_self]) ?_
      refine x_iret 50 C dX12_type_50 rfl rfl (Nat.le_refl _) (xN.intro ?_)
      first | exact ⟨by rw [if_pos hbad], by rw [if_pos hbad], rfl⟩ | exact ⟨by rw [if_neg hbad, if_neg (by omega)], by rw [if_neg hbad, if_neg (by omega)], rfl⟩ | (subst_vars; exact ⟨by rw [if_neg hbad, if_pos (by omega)], by rw [if_neg hbad, if_pos (by omega)], rfl⟩)
    · skip
      have c4n : N = 60 := (nI_eq (a := N) (b := 60) (by omega) (by omega)).mp c4
      refine x_ldc 23 C (-2000000003) dX12_type_23 kk_X12_246 ?_
      refine x_iret 25 C dX12_type_25 rfl rfl (Nat.le_refl _) (xN.intro ?_)
      first | exact ⟨by rw [if_pos hbad], by rw [if_pos hbad], rfl⟩ | exact ⟨by rw [if_neg hbad, if_neg (by omega)], by rw [if_neg hbad, if_neg (by omega)], rfl⟩ | (subst_vars; exact ⟨by rw [if_neg hbad, if_pos (by omega)], by rw [if_neg hbad, if_pos (by omega)], rfl⟩)
  · skip
    have hb : _ := bI_0.mp c3
    have hbad : x < 33 ∨ 126 < x := by by_cases h1 : (33 : Int32) ≤ x; (by_cases h2 : x ≤ 126; (simp [h1, h2] at hb); exact Or.inr (Int32.not_le.mp h2)); exact Or.inl (Int32.not_le.mp h1)
    refine x_ldc 11 C (-2000000001) dX12_type_11 kk_X12_198 ?_
    refine x_iret 13 C dX12_type_13 rfl rfl (Nat.le_refl _) (xN.intro ?_)
    first | exact ⟨by rw [if_pos hbad], by rw [if_pos hbad], rfl⟩ | exact ⟨by rw [if_neg hbad, if_neg (by omega)], by rw [if_neg hbad, if_neg (by omega)], rfl⟩ | (subst_vars; exact ⟨by rw [if_neg hbad, if_pos (by omega)], by rw [if_neg hbad, if_pos (by omega)], rfl⟩)
theorem dX12_wipe_0 : decode cX12_wipe 0 = .ok (.aload_n 0, 1) := by decide +kernel
theorem dX12_wipe_1 : decode cX12_wipe 1 = .ok (.getfield 243, 3) := by decide +kernel
theorem dX12_wipe_4 : decode cX12_wipe 4 = .ok (.istore_n 1, 1) := by decide +kernel
theorem dX12_wipe_5 : decode cX12_wipe 5 = .ok (.aload_n 0, 1) := by decide +kernel
theorem dX12_wipe_6 : decode cX12_wipe 6 = .ok (.iconst 0, 1) := by decide +kernel
theorem dX12_wipe_7 : decode cX12_wipe 7 = .ok (.putfield 243, 3) := by decide +kernel
theorem dX12_wipe_10 : decode cX12_wipe 10 = .ok (.iload_n 1, 1) := by decide +kernel
theorem dX12_wipe_11 : decode cX12_wipe 11 = .ok (.ireturn, 1) := by decide +kernel
set_option maxHeartbeats 1000000 in
set_option maxRecDepth 100000 in
theorem t_X12_wipe (l : Launch) (D : xD) (z n : Nat) (G : xG) (I : xI) (L : xL) (A : Nat) (N : Nat) (hM : shMo G A) (zA : z ≤ A) (hN : I A 6 = nI N) : xM0 l D z yX12_wipe cX12_wipe 2 (some .int) 0 0 [.ref A] n G I L (xE (some (.int (nI N))) (xup I A 6 0) L) := by
  refine xM.of (by decide) (Nat.le_of_ble_eq_true rfl) (fun p e s m args below meth c C hnm hsz => ?_)
  refine x_lv [(0, .ref A)] rfl ?_
  refine x_aload_n 0 C dX12_wipe_0 rfl 0 rfl ?_
  refine x_geti 1 C dX12_wipe_1 ff_X12_243 hM.1 ?_
  refine x_int (nI N) hN ?_
  refine x_istore_n 4 C [(1, .int (nI N)), (0, .ref A)] dX12_wipe_4 rfl (by decide) rfl ?_
  refine x_aload_n 5 C dX12_wipe_5 rfl 1 rfl ?_
  refine x_iconst 6 C (v := 0) dX12_wipe_6 rfl ?_
  refine x_puti 7 C dX12_wipe_7 ff_X12_243 rfl hM.1 (by omega) (fun I1 eI1 => ?_)
  refine x_iload_n 10 C dX12_wipe_10 rfl 0 rfl ?_
  refine x_iret 11 C dX12_wipe_11 rfl rfl (Nat.le_refl _) (xN.intro ?_)
  subst eI1
  exact ⟨rfl, rfl, rfl⟩
