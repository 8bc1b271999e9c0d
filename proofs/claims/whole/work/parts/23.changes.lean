/-! PathTracker$State: next path, changes -/
theorem dX9_mostBehind_0 : decode cX9_mostBehind 0 = .ok (.iconst (-1), 1) := by decide +kernel
theorem dX9_mostBehind_1 : decode cX9_mostBehind 1 = .ok (.istore_n 1, 1) := by decide +kernel
theorem dX9_mostBehind_2 : decode cX9_mostBehind 2 = .ok (.iconst 0, 1) := by decide +kernel
theorem dX9_mostBehind_3 : decode cX9_mostBehind 3 = .ok (.istore_n 2, 1) := by decide +kernel
theorem dX9_mostBehind_4 : decode cX9_mostBehind 4 = .ok (.iload_n 2, 1) := by decide +kernel
theorem dX9_mostBehind_5 : decode cX9_mostBehind 5 = .ok (.aload_n 0, 1) := by decide +kernel
theorem dX9_mostBehind_6 : decode cX9_mostBehind 6 = .ok (.getfield 47, 3) := by decide +kernel
theorem dX9_mostBehind_9 : decode cX9_mostBehind 9 = .ok (.if_icmp .ge 40, 3) := by decide +kernel
theorem dX9_mostBehind_12 : decode cX9_mostBehind 12 = .ok (.aload_n 0, 1) := by decide +kernel
theorem dX9_mostBehind_13 : decode cX9_mostBehind 13 = .ok (.iload_n 2, 1) := by decide +kernel
theorem dX9_mostBehind_14 : decode cX9_mostBehind 14 = .ok (.invokevirtual 88, 3) := by decide +kernel
theorem dX9_mostBehind_17 : decode cX9_mostBehind 17 = .ok (.astore_n 3, 1) := by decide +kernel
theorem dX9_mostBehind_18 : decode cX9_mostBehind 18 = .ok (.aload_n 3, 1) := by decide +kernel
theorem dX9_mostBehind_19 : decode cX9_mostBehind 19 = .ok (.getfield 92, 3) := by decide +kernel
theorem dX9_mostBehind_22 : decode cX9_mostBehind 22 = .ok (.ifCond .ne 21, 3) := by decide +kernel
theorem dX9_mostBehind_25 : decode cX9_mostBehind 25 = .ok (.iload_n 1, 1) := by decide +kernel
theorem dX9_mostBehind_26 : decode cX9_mostBehind 26 = .ok (.ifCond .lt 15, 3) := by decide +kernel
theorem dX9_mostBehind_29 : decode cX9_mostBehind 29 = .ok (.aload_n 3, 1) := by decide +kernel
theorem dX9_mostBehind_30 : decode cX9_mostBehind 30 = .ok (.aload_n 0, 1) := by decide +kernel
theorem dX9_mostBehind_31 : decode cX9_mostBehind 31 = .ok (.iload_n 1, 1) := by decide +kernel
theorem dX9_mostBehind_32 : decode cX9_mostBehind 32 = .ok (.invokevirtual 88, 3) := by decide +kernel
theorem dX9_mostBehind_35 : decode cX9_mostBehind 35 = .ok (.invokestatic 105, 3) := by decide +kernel
theorem dX9_mostBehind_38 : decode cX9_mostBehind 38 = .ok (.ifCond .eq 5, 3) := by decide +kernel
theorem dX9_mostBehind_41 : decode cX9_mostBehind 41 = .ok (.iload_n 2, 1) := by decide +kernel
theorem dX9_mostBehind_42 : decode cX9_mostBehind 42 = .ok (.istore_n 1, 1) := by decide +kernel
theorem dX9_mostBehind_43 : decode cX9_mostBehind 43 = .ok (.iinc 2 1, 3) := by decide +kernel
theorem dX9_mostBehind_46 : decode cX9_mostBehind 46 = .ok (.goto (-42), 3) := by decide +kernel
theorem dX9_mostBehind_49 : decode cX9_mostBehind 49 = .ok (.iload_n 1, 1) := by decide +kernel
theorem dX9_mostBehind_50 : decode cX9_mostBehind 50 = .ok (.ireturn, 1) := by decide +kernel
set_option maxHeartbeats 1000000 in
set_option maxRecDepth 100000 in
theorem t_X9_mostBehind (l : Launch) (D : xD) (z n : Nat) (G : xG) (I : xI) (L : xL) (S : Nat) (U : Nat) (hS : shS G S) (hU : I S 4 = nI U) (hU9 : U ≤ 9) : xM0 l D z yX9_mostBehind cX9_mostBehind 4 (some .int) 2 42 [.ref S] n G I L (xE (some (.int (oI (mbN I S U)))) I L) := by
  refine xM.of (by decide) (Nat.le_of_ble_eq_true rfl) (fun p e s m args below meth c C hnm hsz => ?_)
  refine x_lv [(0, .ref S)] rfl ?_
  refine x_iconst 0 C (v := (-1)) dX9_mostBehind_0 rfl ?_
  refine x_istore_n 1 C [(1, .int (-1)), (0, .ref S)] dX9_mostBehind_1 rfl (by decide) rfl ?_
  refine x_iconst 2 C (v := 0) dX9_mostBehind_2 rfl ?_
  refine x_istore_n 3 C [(2, .int 0), (1, .int (-1)), (0, .ref S)] dX9_mostBehind_3 rfl (by decide) rfl ?_
  have loop4 : ∀ (fuel : Nat) (i : Nat) (fo : Int32), (i ≤ U) → (U + 1 ≤ i + fuel) → ((mbN I S i = none ∧ fo = -1) ∨ (∃ f, mbN I S i = some f ∧ fo = nI f)) → X p l e (xRm 2 42 0 0) s m args below meth c D z 4 (MQ below (xQc D z n (xN n G (xE (some (.int (oI (mbN I S U)))) I L))) args s 0 0 (fun a => z ≤ a)) 0 0 n G I L 4 [(0, .ref S), (1, .int fo), (2, .int (nI i))] [] := by
    intro fuel
    induction fuel with
    | zero =>
      intro i fo hi hf hfo
      exact absurd hf (by omega)
    | succ fuel ih =>
      intro i fo hi hf hfo
      refine x_iload_n 4 C dX9_mostBehind_4 rfl 2 rfl ?_
      refine x_aload_n 5 C dX9_mostBehind_5 rfl 0 rfl ?_
      refine x_geti 6 C dX9_mostBehind_6 ff_X9_47 hS.1 ?_
      refine x_int (nI U) hU ?_
      refine x_icmp_ge 9 C 49 dX9_mostBehind_9 (by decide) (fun c1 => ?_) (fun c1 => ?_)
      · skip
        have c1n : U ≤ i := (nI_leI (a := U) (b := i) (by omega) (by omega)).mp c1
        have c1m : ¬ (i < U) := by omega
        have c1o := Int32.not_lt.mpr c1
        refine x_iload_n 49 C dX9_mostBehind_49 rfl 1 rfl ?_
        refine x_iret 50 C dX9_mostBehind_50 rfl rfl (Nat.le_refl _) (xN.intro ?_)
        have hiU : i = U := by omega
        subst hiU
        refine ⟨?_, rfl, rfl⟩
        rcases hfo with ⟨h1, h2⟩ | ⟨f, h1, h2⟩ <;> rw [h1, h2] <;> rfl
      · skip
        have c1n : ¬ (U ≤ i) := fun h => c1 ((nI_leI (a := U) (b := i) (by omega) (by omega)).mpr h)
        have c1m : i < U := by omega
        have c1o := Int32.not_le.mp c1
        refine x_aload_n 12 C dX9_mostBehind_12 rfl 0 rfl ?_
        refine x_iload_n 13 C dX9_mostBehind_13 rfl 2 rfl ?_
        refine x_callVe 14 C dX9_mostBehind_14 (As := [.int (nI i)]) (rest := []) [.ref (S + 11 + 3 * i)] (t_X9_pathAt l D z n G I L S i U hS (by first | assumption | omega | decide) (by first | omega | assumption | decide) (by first | omega | assumption | decide)) mt_X9_pathAt km_X9_88 ki_X9_pathAt ks_X9_pathAt hS.1 ⟨by decide, rfl⟩ rfl rfl (Nat.le_of_ble_eq_true rfl) ⟨⟨by decide, by decide⟩, by decide, by decide⟩ (fun I2 L3 eI2 eL3 => ?_)
        replace eI2 := eI2.symm; subst eI2
        replace eL3 := eL3.symm; subst eL3
        refine x_astore_n 17 C [(3, .ref (S + 11 + 3 * i)), (0, .ref S), (1, .int fo), (2, .int (nI i))] dX9_mostBehind_17 rfl (by decide) rfl ?_
        refine x_aload_n 18 C dX9_mostBehind_18 rfl 0 rfl ?_
        refine x_geti 19 C dX9_mostBehind_19 ff_X9_92 (hS.2.2.2.2 i (by omega)).1 ?_
        refine x_if_ne 22 C 43 dX9_mostBehind_22 (by decide) (fun c4 => ?_) (fun c4 => ?_)
        · skip
          refine x_iinc 43 C [(2, .int (nI (i + 1))), (3, .ref (S + 11 + 3 * i)), (0, .ref S), (1, .int fo)] dX9_mostBehind_43 3 rfl (nI_add i 1) (by decide) rfl ?_
          refine x_goto 46 C 4 dX9_mostBehind_46 (by decide) ?_
          refine x_sub [(0, .ref S), (1, .int fo), (2, .int (nI (i + 1)))] [2, 3, 0] rfl ?_
          have hm1 : mbN I S (i + 1) = mbN I S i := by simp [mbN, stIs, c1, c1n, c1m, c1o, c4]
          exact ih (i + 1) fo (by omega) (by omega) (by rw [hm1]; exact hfo)
        · skip
          refine x_iload_n 25 C dX9_mostBehind_25 rfl 2 rfl ?_
          refine x_if_lt 26 C 41 dX9_mostBehind_26 (by decide) (fun c5 => ?_) (fun c5 => ?_)
          · skip
            have c5o := Int32.not_le.mpr c5
            have hmn : mbN I S i = none := by rcases hfo with ⟨h1, _⟩ | ⟨f, h1, h2⟩; exact h1; have h3 := mbN_lt I S i f h1; rw [h2] at c5; exact absurd c5 (nI_pos (by omega))
            refine x_iload_n 41 C dX9_mostBehind_41 rfl 3 rfl ?_
            refine x_istore_n 42 C [(1, .int (nI i)), (3, .ref (S + 11 + 3 * i)), (0, .ref S), (2, .int (nI i))] dX9_mostBehind_42 rfl (by decide) rfl ?_
            refine x_iinc 43 C [(2, .int (nI (i + 1))), (1, .int (nI i)), (3, .ref (S + 11 + 3 * i)), (0, .ref S)] dX9_mostBehind_43 3 rfl (nI_add i 1) (by decide) rfl ?_
            refine x_goto 46 C 4 dX9_mostBehind_46 (by decide) ?_
            refine x_sub [(0, .ref S), (1, .int (nI i)), (2, .int (nI (i + 1)))] [3, 1, 0] rfl ?_
            have hm1 : mbN I S (i + 1) = some i := by simp [mbN, stIs, c1, c1n, c1m, c1o, c4, c5, c5o, hmn]
            exact ih (i + 1) (nI i) (by omega) (by omega) (Or.inr ⟨i, hm1, rfl⟩)
          · skip
            have c5o := Int32.not_lt.mp c5
            have hfx : ∃ f, mbN I S i = some f ∧ fo = nI f := by rcases hfo with ⟨_, h2⟩ | h; rw [h2] at c5; exact absurd (by decide) c5; exact h
            obtain ⟨fN, hmf0, hfe⟩ := hfx
            have hfl := mbN_lt I S i fN hmf0
            have hmf : _ := hmf0
            refine x_aload_n 29 C dX9_mostBehind_29 rfl 0 rfl ?_
            refine x_aload_n 30 C dX9_mostBehind_30 rfl 1 rfl ?_
            refine x_iload_n 31 C dX9_mostBehind_31 rfl 2 rfl ?_
            refine x_int (nI fN) hfe ?_
            refine x_callVe 32 C dX9_mostBehind_32 (As := [.int (nI fN)]) (rest := [.ref (S + 11 + 3 * i)]) [.ref (S + 11 + 3 * fN), .ref (S + 11 + 3 * i)] (t_X9_pathAt l D z n G I L S fN U hS (by first | assumption | omega | decide) (by first | omega | assumption | decide) (by first | omega | assumption | decide)) mt_X9_pathAt km_X9_88 ki_X9_pathAt ks_X9_pathAt hS.1 ⟨by decide, rfl⟩ rfl rfl (Nat.le_of_ble_eq_true rfl) ⟨⟨by decide, by decide⟩, by decide, by decide⟩ (fun I6 L7 eI6 eL7 => ?_)
            replace eI6 := eI6.symm; subst eI6
            replace eL7 := eL7.symm; subst eL7
            refine x_callSe 35 C dX9_mostBehind_35 (As := [.ref (S + 11 + 3 * i), .ref (S + 11 + 3 * fN)]) (rest := []) [.int (bI (behB I (S + 11 + 3 * i) (S + 11 + 3 * fN)))] (t_X9_isBehind l D z n G I L (S + 11 + 3 * i) (S + 11 + 3 * fN) (hS.2.2.2.2 i (by omega)) (hS.2.2.2.2 fN (by omega))) mt_X9_isBehind km_X9_105 kt_X9_isBehind rfl rfl (Nat.le_of_ble_eq_true rfl) ⟨⟨by decide, by decide⟩, by decide, by decide⟩ (fun I8 L9 eI8 eL9 => ?_)
            replace eI8 := eI8.symm; subst eI8
            replace eL9 := eL9.symm; subst eL9
            refine x_if_eq 38 C 43 dX9_mostBehind_38 (by decide) (fun c10 => ?_) (fun c10 => ?_)
            · skip
              have hb : _ := bI_0.mp c10
              refine x_iinc 43 C [(2, .int (nI (i + 1))), (3, .ref (S + 11 + 3 * i)), (0, .ref S), (1, .int fo)] dX9_mostBehind_43 3 rfl (nI_add i 1) (by decide) rfl ?_
              refine x_goto 46 C 4 dX9_mostBehind_46 (by decide) ?_
              refine x_sub [(0, .ref S), (1, .int fo), (2, .int (nI (i + 1)))] [2, 3, 0] rfl ?_
              have hm1 : mbN I S (i + 1) = mbN I S i := by simp [mbN, stIs, c1, c1n, c1m, c1o, c4, c5, c5o, hmf, c10, hb]
              exact ih (i + 1) fo (by omega) (by omega) (by rw [hm1]; exact hfo)
            · skip
              have hb : _ := bI_n0.mp c10
              refine x_iload_n 41 C dX9_mostBehind_41 rfl 3 rfl ?_
              refine x_istore_n 42 C [(1, .int (nI i)), (3, .ref (S + 11 + 3 * i)), (0, .ref S), (2, .int (nI i))] dX9_mostBehind_42 rfl (by decide) rfl ?_
              refine x_iinc 43 C [(2, .int (nI (i + 1))), (1, .int (nI i)), (3, .ref (S + 11 + 3 * i)), (0, .ref S)] dX9_mostBehind_43 3 rfl (nI_add i 1) (by decide) rfl ?_
              refine x_goto 46 C 4 dX9_mostBehind_46 (by decide) ?_
              refine x_sub [(0, .ref S), (1, .int (nI i)), (2, .int (nI (i + 1)))] [3, 1, 0] rfl ?_
              have hm1 : mbN I S (i + 1) = some i := by simp [mbN, stIs, c1, c1n, c1m, c1o, c4, c5, c5o, hmf, c10, hb]
              exact ih (i + 1) (nI i) (by omega) (by omega) (Or.inr ⟨i, hm1, rfl⟩)
  refine x_sub [(0, .ref S), (1, .int (-1)), (2, .int 0)] [2, 1, 0] rfl ?_
  exact loop4 (U + 1) 0 (-1) (by omega) (by omega) (Or.inl ⟨rfl, rfl⟩)
theorem dX9_isOtherGammaPartZero_0 : decode cX9_isOtherGammaPartZero 0 = .ok (.iload_n 1, 1) := by decide +kernel
theorem dX9_isOtherGammaPartZero_1 : decode cX9_isOtherGammaPartZero 1 = .ok (.bipush 6, 2) := by decide +kernel
theorem dX9_isOtherGammaPartZero_3 : decode cX9_isOtherGammaPartZero 3 = .ok (.if_icmp .ne 19, 3) := by decide +kernel
theorem dX9_isOtherGammaPartZero_6 : decode cX9_isOtherGammaPartZero 6 = .ok (.aload_n 0, 1) := by decide +kernel
theorem dX9_isOtherGammaPartZero_7 : decode cX9_isOtherGammaPartZero 7 = .ok (.getfield 19, 3) := by decide +kernel
theorem dX9_isOtherGammaPartZero_10 : decode cX9_isOtherGammaPartZero 10 = .ok (.bipush 7, 2) := by decide +kernel
theorem dX9_isOtherGammaPartZero_12 : decode cX9_isOtherGammaPartZero 12 = .ok (.iaload, 1) := by decide +kernel
theorem dX9_isOtherGammaPartZero_13 : decode cX9_isOtherGammaPartZero 13 = .ok (.ifCond .ne 7, 3) := by decide +kernel
theorem dX9_isOtherGammaPartZero_16 : decode cX9_isOtherGammaPartZero 16 = .ok (.iconst 1, 1) := by decide +kernel
theorem dX9_isOtherGammaPartZero_17 : decode cX9_isOtherGammaPartZero 17 = .ok (.goto 4, 3) := by decide +kernel
theorem dX9_isOtherGammaPartZero_20 : decode cX9_isOtherGammaPartZero 20 = .ok (.iconst 0, 1) := by decide +kernel
theorem dX9_isOtherGammaPartZero_21 : decode cX9_isOtherGammaPartZero 21 = .ok (.ireturn, 1) := by decide +kernel
theorem dX9_isOtherGammaPartZero_22 : decode cX9_isOtherGammaPartZero 22 = .ok (.iload_n 1, 1) := by decide +kernel
theorem dX9_isOtherGammaPartZero_23 : decode cX9_isOtherGammaPartZero 23 = .ok (.bipush 7, 2) := by decide +kernel
theorem dX9_isOtherGammaPartZero_25 : decode cX9_isOtherGammaPartZero 25 = .ok (.if_icmp .ne 17, 3) := by decide +kernel
theorem dX9_isOtherGammaPartZero_28 : decode cX9_isOtherGammaPartZero 28 = .ok (.aload_n 0, 1) := by decide +kernel
theorem dX9_isOtherGammaPartZero_29 : decode cX9_isOtherGammaPartZero 29 = .ok (.getfield 19, 3) := by decide +kernel
theorem dX9_isOtherGammaPartZero_32 : decode cX9_isOtherGammaPartZero 32 = .ok (.bipush 6, 2) := by decide +kernel
theorem dX9_isOtherGammaPartZero_34 : decode cX9_isOtherGammaPartZero 34 = .ok (.iaload, 1) := by decide +kernel
theorem dX9_isOtherGammaPartZero_35 : decode cX9_isOtherGammaPartZero 35 = .ok (.ifCond .ne 7, 3) := by decide +kernel
theorem dX9_isOtherGammaPartZero_38 : decode cX9_isOtherGammaPartZero 38 = .ok (.iconst 1, 1) := by decide +kernel
theorem dX9_isOtherGammaPartZero_39 : decode cX9_isOtherGammaPartZero 39 = .ok (.goto 4, 3) := by decide +kernel
theorem dX9_isOtherGammaPartZero_42 : decode cX9_isOtherGammaPartZero 42 = .ok (.iconst 0, 1) := by decide +kernel
theorem dX9_isOtherGammaPartZero_43 : decode cX9_isOtherGammaPartZero 43 = .ok (.ireturn, 1) := by decide +kernel
set_option maxHeartbeats 1000000 in
set_option maxRecDepth 100000 in
theorem t_X9_isOtherGammaPartZero (l : Launch) (D : xD) (z n : Nat) (G : xG) (I : xI) (L : xL) (S : Nat) (w : Nat) (hS : shS G S) (hw : w < 8) : xM0 l D z yX9_isOtherGammaPartZero cX9_isOtherGammaPartZero 2 (some .boolean) 0 0 [.ref S, .int (nI w)] n G I L (xE (some (.int (bI ((decide (w = 6) && decide (I (S + 9) 7 = 0)) || (decide (w = 7) && decide (I (S + 9) 6 = 0)))))) I L) := by
  refine xM.of (by decide) (Nat.le_of_ble_eq_true rfl) (fun p e s m args below meth c C hnm hsz => ?_)
  refine x_lv [(0, .ref S), (1, .int (nI w))] rfl ?_
  rcases (show w = 0 ∨ w = 1 ∨ w = 2 ∨ w = 3 ∨ w = 4 ∨ w = 5 ∨ w = 6 ∨ w = 7 by omega) with rfl | rfl | rfl | rfl | rfl | rfl | rfl | rfl
  · skip
    refine x_iload_n 0 C dX9_isOtherGammaPartZero_0 rfl 1 rfl ?_
    refine x_bipush 1 C (v := 6) dX9_isOtherGammaPartZero_1 rfl ?_
    refine x_icmp_ne 3 C 22 dX9_isOtherGammaPartZero_3 (by decide) (fun _ => ?_) (fun c1 => absurd c1 (by decide))
    refine x_iload_n 22 C dX9_isOtherGammaPartZero_22 rfl 1 rfl ?_
    refine x_bipush 23 C (v := 7) dX9_isOtherGammaPartZero_23 rfl ?_
    refine x_icmp_ne 25 C 42 dX9_isOtherGammaPartZero_25 (by decide) (fun _ => ?_) (fun c2 => absurd c2 (by decide))
    refine x_iconst 42 C (v := 0) dX9_isOtherGammaPartZero_42 rfl ?_
    refine x_iret 43 C dX9_isOtherGammaPartZero_43 rfl rfl (Nat.le_refl _) (xN.intro ?_)
    refine ⟨?_, rfl, rfl⟩
    simp [bI, ]
  · skip
    refine x_iload_n 0 C dX9_isOtherGammaPartZero_0 rfl 1 rfl ?_
    refine x_bipush 1 C (v := 6) dX9_isOtherGammaPartZero_1 rfl ?_
    refine x_icmp_ne 3 C 22 dX9_isOtherGammaPartZero_3 (by decide) (fun _ => ?_) (fun c3 => absurd c3 (by decide))
    refine x_iload_n 22 C dX9_isOtherGammaPartZero_22 rfl 1 rfl ?_
    refine x_bipush 23 C (v := 7) dX9_isOtherGammaPartZero_23 rfl ?_
    refine x_icmp_ne 25 C 42 dX9_isOtherGammaPartZero_25 (by decide) (fun _ => ?_) (fun c4 => absurd c4 (by decide))
    refine x_iconst 42 C (v := 0) dX9_isOtherGammaPartZero_42 rfl ?_
    refine x_iret 43 C dX9_isOtherGammaPartZero_43 rfl rfl (Nat.le_refl _) (xN.intro ?_)
    refine ⟨?_, rfl, rfl⟩
    simp [bI, ]
  · skip
    refine x_iload_n 0 C dX9_isOtherGammaPartZero_0 rfl 1 rfl ?_
    refine x_bipush 1 C (v := 6) dX9_isOtherGammaPartZero_1 rfl ?_
    refine x_icmp_ne 3 C 22 dX9_isOtherGammaPartZero_3 (by decide) (fun _ => ?_) (fun c5 => absurd c5 (by decide))
    refine x_iload_n 22 C dX9_isOtherGammaPartZero_22 rfl 1 rfl ?_
    refine x_bipush 23 C (v := 7) dX9_isOtherGammaPartZero_23 rfl ?_
    refine x_icmp_ne 25 C 42 dX9_isOtherGammaPartZero_25 (by decide) (fun _ => ?_) (fun c6 => absurd c6 (by decide))
    refine x_iconst 42 C (v := 0) dX9_isOtherGammaPartZero_42 rfl ?_
    refine x_iret 43 C dX9_isOtherGammaPartZero_43 rfl rfl (Nat.le_refl _) (xN.intro ?_)
    refine ⟨?_, rfl, rfl⟩
    simp [bI, ]
  · skip
    refine x_iload_n 0 C dX9_isOtherGammaPartZero_0 rfl 1 rfl ?_
    refine x_bipush 1 C (v := 6) dX9_isOtherGammaPartZero_1 rfl ?_
    refine x_icmp_ne 3 C 22 dX9_isOtherGammaPartZero_3 (by decide) (fun _ => ?_) (fun c7 => absurd c7 (by decide))
    refine x_iload_n 22 C dX9_isOtherGammaPartZero_22 rfl 1 rfl ?_
    refine x_bipush 23 C (v := 7) dX9_isOtherGammaPartZero_23 rfl ?_
    refine x_icmp_ne 25 C 42 dX9_isOtherGammaPartZero_25 (by decide) (fun _ => ?_) (fun c8 => absurd c8 (by decide))
    refine x_iconst 42 C (v := 0) dX9_isOtherGammaPartZero_42 rfl ?_
    refine x_iret 43 C dX9_isOtherGammaPartZero_43 rfl rfl (Nat.le_refl _) (xN.intro ?_)
    refine ⟨?_, rfl, rfl⟩
    simp [bI, ]
  · skip
    refine x_iload_n 0 C dX9_isOtherGammaPartZero_0 rfl 1 rfl ?_
    refine x_bipush 1 C (v := 6) dX9_isOtherGammaPartZero_1 rfl ?_
    refine x_icmp_ne 3 C 22 dX9_isOtherGammaPartZero_3 (by decide) (fun _ => ?_) (fun c9 => absurd c9 (by decide))
    refine x_iload_n 22 C dX9_isOtherGammaPartZero_22 rfl 1 rfl ?_
    refine x_bipush 23 C (v := 7) dX9_isOtherGammaPartZero_23 rfl ?_
    refine x_icmp_ne 25 C 42 dX9_isOtherGammaPartZero_25 (by decide) (fun _ => ?_) (fun c10 => absurd c10 (by decide))
    refine x_iconst 42 C (v := 0) dX9_isOtherGammaPartZero_42 rfl ?_
    refine x_iret 43 C dX9_isOtherGammaPartZero_43 rfl rfl (Nat.le_refl _) (xN.intro ?_)
    refine ⟨?_, rfl, rfl⟩
    simp [bI, ]
  · skip
    refine x_iload_n 0 C dX9_isOtherGammaPartZero_0 rfl 1 rfl ?_
    refine x_bipush 1 C (v := 6) dX9_isOtherGammaPartZero_1 rfl ?_
    refine x_icmp_ne 3 C 22 dX9_isOtherGammaPartZero_3 (by decide) (fun _ => ?_) (fun c11 => absurd c11 (by decide))
    refine x_iload_n 22 C dX9_isOtherGammaPartZero_22 rfl 1 rfl ?_
    refine x_bipush 23 C (v := 7) dX9_isOtherGammaPartZero_23 rfl ?_
    refine x_icmp_ne 25 C 42 dX9_isOtherGammaPartZero_25 (by decide) (fun _ => ?_) (fun c12 => absurd c12 (by decide))
    refine x_iconst 42 C (v := 0) dX9_isOtherGammaPartZero_42 rfl ?_
    refine x_iret 43 C dX9_isOtherGammaPartZero_43 rfl rfl (Nat.le_refl _) (xN.intro ?_)
    refine ⟨?_, rfl, rfl⟩
    simp [bI, ]
  · skip
    refine x_iload_n 0 C dX9_isOtherGammaPartZero_0 rfl 1 rfl ?_
    refine x_bipush 1 C (v := 6) dX9_isOtherGammaPartZero_1 rfl ?_
    refine x_icmp_ne 3 C 22 dX9_isOtherGammaPartZero_3 (by decide) (fun c13 => absurd (by decide) c13) (fun _ => ?_)
    refine x_aload_n 6 C dX9_isOtherGammaPartZero_6 rfl 0 rfl ?_
    refine x_getr 7 C (b := S + 9) dX9_isOtherGammaPartZero_7 ff_X9_19 rfl hS.1 rfl ?_
    refine x_bipush 10 C (v := 7) dX9_isOtherGammaPartZero_10 rfl ?_
    refine x_iald 12 C (j := 7) dX9_isOtherGammaPartZero_12 hS.2.2.1 ⟨by decide, by decide, by decide⟩ ?_
    refine x_if_ne 13 C 20 dX9_isOtherGammaPartZero_13 (by decide) (fun c14 => ?_) (fun c14 => ?_)
    · skip
      refine x_iconst 20 C (v := 0) dX9_isOtherGammaPartZero_20 rfl ?_
      refine x_iret 21 C dX9_isOtherGammaPartZero_21 rfl rfl (Nat.le_refl _) (xN.intro ?_)
      refine ⟨?_, rfl, rfl⟩
      simp [bI, c14]
    · skip
      refine x_iconst 16 C (v := 1) dX9_isOtherGammaPartZero_16 rfl ?_
      refine x_goto 17 C 21 dX9_isOtherGammaPartZero_17 (by decide) ?_
      refine x_iret 21 C dX9_isOtherGammaPartZero_21 rfl rfl (Nat.le_refl _) (xN.intro ?_)
      refine ⟨?_, rfl, rfl⟩
      simp [bI, c14]
  · skip
    refine x_iload_n 0 C dX9_isOtherGammaPartZero_0 rfl 1 rfl ?_
    refine x_bipush 1 C (v := 6) dX9_isOtherGammaPartZero_1 rfl ?_
    refine x_icmp_ne 3 C 22 dX9_isOtherGammaPartZero_3 (by decide) (fun _ => ?_) (fun c15 => absurd c15 (by decide))
    refine x_iload_n 22 C dX9_isOtherGammaPartZero_22 rfl 1 rfl ?_
    refine x_bipush 23 C (v := 7) dX9_isOtherGammaPartZero_23 rfl ?_
    refine x_icmp_ne 25 C 42 dX9_isOtherGammaPartZero_25 (by decide) (fun c16 => absurd (by decide) c16) (fun _ => ?_)
    refine x_aload_n 28 C dX9_isOtherGammaPartZero_28 rfl 0 rfl ?_
    refine x_getr 29 C (b := S + 9) dX9_isOtherGammaPartZero_29 ff_X9_19 rfl hS.1 rfl ?_
    refine x_bipush 32 C (v := 6) dX9_isOtherGammaPartZero_32 rfl ?_
    refine x_iald 34 C (j := 6) dX9_isOtherGammaPartZero_34 hS.2.2.1 ⟨by decide, by decide, by decide⟩ ?_
    refine x_if_ne 35 C 42 dX9_isOtherGammaPartZero_35 (by decide) (fun c17 => ?_) (fun c17 => ?_)
    · skip
      refine x_iconst 42 C (v := 0) dX9_isOtherGammaPartZero_42 rfl ?_
      refine x_iret 43 C dX9_isOtherGammaPartZero_43 rfl rfl (Nat.le_refl _) (xN.intro ?_)
      refine ⟨?_, rfl, rfl⟩
      simp [bI, c17]
    · skip
      refine x_iconst 38 C (v := 1) dX9_isOtherGammaPartZero_38 rfl ?_
      refine x_goto 39 C 43 dX9_isOtherGammaPartZero_39 (by decide) ?_
      refine x_iret 43 C dX9_isOtherGammaPartZero_43 rfl rfl (Nat.le_refl _) (xN.intro ?_)
      refine ⟨?_, rfl, rfl⟩
      simp [bI, c17]
theorem dX9_putSetting_0 : decode cX9_putSetting 0 = .ok (.iload_n 1, 1) := by decide +kernel
theorem dX9_putSetting_1 : decode cX9_putSetting 1 = .ok (.ifCond .lt 25, 3) := by decide +kernel
theorem dX9_putSetting_4 : decode cX9_putSetting 4 = .ok (.iload_n 1, 1) := by decide +kernel
theorem dX9_putSetting_5 : decode cX9_putSetting 5 = .ok (.bipush 8, 2) := by decide +kernel
theorem dX9_putSetting_7 : decode cX9_putSetting 7 = .ok (.if_icmp .ge 19, 3) := by decide +kernel
theorem dX9_putSetting_10 : decode cX9_putSetting 10 = .ok (.aload_n 0, 1) := by decide +kernel
theorem dX9_putSetting_11 : decode cX9_putSetting 11 = .ok (.getfield 19, 3) := by decide +kernel
theorem dX9_putSetting_14 : decode cX9_putSetting 14 = .ok (.iload_n 1, 1) := by decide +kernel
theorem dX9_putSetting_15 : decode cX9_putSetting 15 = .ok (.iload_n 2, 1) := by decide +kernel
theorem dX9_putSetting_16 : decode cX9_putSetting 16 = .ok (.iastore, 1) := by decide +kernel
theorem dX9_putSetting_17 : decode cX9_putSetting 17 = .ok (.iload_n 1, 1) := by decide +kernel
theorem dX9_putSetting_18 : decode cX9_putSetting 18 = .ok (.iconst 5, 1) := by decide +kernel
theorem dX9_putSetting_19 : decode cX9_putSetting 19 = .ok (.if_icmp .eq 7, 3) := by decide +kernel
theorem dX9_putSetting_22 : decode cX9_putSetting 22 = .ok (.aload_n 0, 1) := by decide +kernel
theorem dX9_putSetting_23 : decode cX9_putSetting 23 = .ok (.invokevirtual 40, 3) := by decide +kernel
theorem dX9_putSetting_26 : decode cX9_putSetting 26 = .ok (.return_, 1) := by decide +kernel
set_option maxHeartbeats 1000000 in
set_option maxRecDepth 100000 in
theorem t_X9_putSetting_5 (l : Launch) (D : xD) (z n : Nat) (G : xG) (I : xI) (L : xL) (S : Nat) (v : Int32) (hS : shS G S) (zS : z ≤ S) : xM0 l D z yX9_putSetting cX9_putSetting 3 none 5 119 [.ref S, .int (nI 5), .int v] n G I L (xE none (xup I (S + 9) 5 v) L) := by
  refine xM.of (by decide) (Nat.le_of_ble_eq_true rfl) (fun p e s m args below meth c C hnm hsz => ?_)
  refine x_lv [(0, .ref S), (1, .int (nI 5)), (2, .int v)] rfl ?_
  refine x_iload_n 0 C dX9_putSetting_0 rfl 1 rfl ?_
  refine x_if_lt 1 C 26 dX9_putSetting_1 (by decide) (fun c1 => absurd c1 (by decide)) (fun _ => ?_)
  refine x_iload_n 4 C dX9_putSetting_4 rfl 1 rfl ?_
  refine x_bipush 5 C (v := 8) dX9_putSetting_5 rfl ?_
  refine x_icmp_ge 7 C 26 dX9_putSetting_7 (by decide) (fun c2 => absurd c2 (by decide)) (fun _ => ?_)
  refine x_aload_n 10 C dX9_putSetting_10 rfl 0 rfl ?_
  refine x_getr 11 C (b := S + 9) dX9_putSetting_11 ff_X9_19 rfl hS.1 rfl ?_
  refine x_iload_n 14 C dX9_putSetting_14 rfl 1 rfl ?_
  refine x_iload_n 15 C dX9_putSetting_15 rfl 2 rfl ?_
  refine x_iast 16 C (j := 5) dX9_putSetting_16 hS.2.2.1 (by omega) (xIx_nI (by omega) (by decide)) (fun I3 eI3 => ?_)
  refine x_iload_n 17 C dX9_putSetting_17 rfl 1 rfl ?_
  refine x_iconst 18 C (v := 5) dX9_putSetting_18 rfl ?_
  refine x_icmp_eq 19 C 26 dX9_putSetting_19 (by decide) (fun _ => ?_) (fun c4 => absurd (by decide) c4)
  refine x_vret 26 C dX9_putSetting_26 rfl (Nat.le_refl _) (xN.intro ?_)
  subst eI3
  exact ⟨rfl, rfl, rfl⟩
set_option maxHeartbeats 1000000 in
set_option maxRecDepth 100000 in
theorem t_X9_putSetting_n (l : Launch) (D : xD) (z n : Nat) (G : xG) (I : xI) (L : xL) (S : Nat) (w : Nat) (v : Int32) (hS : shS G S) (zS : z ≤ S) (hw : w < 8) (hw5 : ¬ w = 5) (hd0 : 1 ≤ sdg I S 0) (hd1 : 1 ≤ sdg I S 1) : xM0 l D z yX9_putSetting cX9_putSetting 3 none 5 119 [.ref S, .int (nI w), .int v] n G I L (fun v' I' L' => v' = none ∧ (I' S 4 = nI (sdg I S 0 * sdg I S 1)) ∧ (begun I' L' S (sdg I S 0) (sdg I S 1) (xup I (S + 9) w v (S + 9) 0) (xup I (S + 9) w v (S + 9) 1) (sdg I S 0 * sdg I S 1)) ∧ (∀ j, I' (S + 9) j = if j = w then v else I (S + 9) j) ∧ (∀ b, b < 2 → I' (S + 1 + 4 * b + 1) = I (S + 1 + 4 * b + 1) ∧ I' (S + 1 + 4 * b + 2) = I (S + 1 + 4 * b + 2)) ∧ (∀ a, (a < S ∨ S + 38 ≤ a) → I' a = I a) ∧ (∀ a, (a < S ∨ S + 38 ≤ a) → L' a = L a)) := by
  refine xM.of (by decide) (Nat.le_of_ble_eq_true rfl) (fun p e s m args below meth c C hnm hsz => ?_)
  refine x_lv [(0, .ref S), (1, .int (nI w)), (2, .int v)] rfl ?_
  refine x_iload_n 0 C dX9_putSetting_0 rfl 1 rfl ?_
  refine x_if_lt 1 C 26 dX9_putSetting_1 (by decide) (fun c1 => absurd c1 (nI_pos (n := w) (by omega))) (fun _ => ?_)
  refine x_iload_n 4 C dX9_putSetting_4 rfl 1 rfl ?_
  refine x_bipush 5 C (v := 8) dX9_putSetting_5 rfl ?_
  refine x_icmp_ge 7 C 26 dX9_putSetting_7 (by decide) (fun c2 => absurd c2 (fun h => absurd ((nI_leI (a := 8) (b := w) (by omega) (by omega)).mp h) (by omega))) (fun _ => ?_)
  refine x_aload_n 10 C dX9_putSetting_10 rfl 0 rfl ?_
  refine x_getr 11 C (b := S + 9) dX9_putSetting_11 ff_X9_19 rfl hS.1 rfl ?_
  refine x_iload_n 14 C dX9_putSetting_14 rfl 1 rfl ?_
  refine x_iload_n 15 C dX9_putSetting_15 rfl 2 rfl ?_
  refine x_iast 16 C (j := w) dX9_putSetting_16 hS.2.2.1 (by omega) (xIx_nI (by omega) (by decide)) (fun I3 eI3 => ?_)
  refine x_iload_n 17 C dX9_putSetting_17 rfl 1 rfl ?_
  refine x_iconst 18 C (v := 5) dX9_putSetting_18 rfl ?_
  refine x_icmp_eq 19 C 26 dX9_putSetting_19 (by decide) (fun c4 => absurd c4 (fun h => absurd ((nI_eq (a := w) (b := 5) (by omega) (by omega)).mp h) (by omega))) (fun _ => ?_)
  refine x_aload_n 22 C dX9_putSetting_22 rfl 0 rfl ?_
  have es0 : sdg I3 S 0 = sdg I S 0 := by unfold sdg; rw [eI3, xup_row _ _ (by omega), xup_row _ _ (by omega)]
  have es1 : sdg I3 S 1 = sdg I S 1 := by unfold sdg; rw [eI3, xup_row _ _ (by omega), xup_row _ _ (by omega)]
  refine x_callVp 23 C dX9_putSetting_23 (As := []) (rest := []) (t_X9_beginPaths l D z n G I3 L S hS (by omega) (by rw [es0]; exact hd0) (by rw [es1]; exact hd1)) mt_X9_beginPaths km_X9_40 ki_X9_beginPaths ks_X9_beginPaths hS.1 ⟨by decide, rfl⟩ rfl (Nat.le_of_ble_eq_true rfl) ⟨⟨by decide, by decide⟩, by decide, by decide⟩ (fun w5 I6 L7 hw5 => ?_)
  obtain ⟨hw5v, hw5r0, hw5r1, hw5r2, hw5r3⟩ := hw5
  subst hw5v
  refine x_st [] rfl ?_
  refine x_vret 26 C dX9_putSetting_26 rfl (Nat.le_refl _) (xN.intro ?_)
  refine ⟨rfl, by rw [hw5r0, es0, es1], ?_, fun j => ?_, fun b hb => ?_, fun a ha => ?_, fun a ha => hw5r3 a (by omega)⟩
  · have h := hw5r1; rw [es0, es1, eI3] at h; exact h
  · rw [hw5r2 _ (by omega) (by omega), eI3, xup_at]
  · rw [hw5r2 _ (by omega) (by omega), hw5r2 _ (by omega) (by omega), eI3, xup_row _ _ (by omega), xup_row _ _ (by omega)]; exact ⟨rfl, rfl⟩
  · rw [hw5r2 _ (by omega) (by omega), eI3, xup_row _ _ (by omega)]
theorem dX9_putEquation_0 : decode cX9_putEquation 0 = .ok (.aload_n 0, 1) := by decide +kernel
theorem dX9_putEquation_1 : decode cX9_putEquation 1 = .ok (.iload_n 1, 1) := by decide +kernel
theorem dX9_putEquation_2 : decode cX9_putEquation 2 = .ok (.invokevirtual 54, 3) := by decide +kernel
theorem dX9_putEquation_5 : decode cX9_putEquation 5 = .ok (.aload_n 2, 1) := by decide +kernel
theorem dX9_putEquation_6 : decode cX9_putEquation 6 = .ok (.invokevirtual 43, 3) := by decide +kernel
theorem dX9_putEquation_9 : decode cX9_putEquation 9 = .ok (.aload_n 0, 1) := by decide +kernel
theorem dX9_putEquation_10 : decode cX9_putEquation 10 = .ok (.invokevirtual 40, 3) := by decide +kernel
theorem dX9_putEquation_13 : decode cX9_putEquation 13 = .ok (.return_, 1) := by decide +kernel
set_option maxHeartbeats 1000000 in
set_option maxRecDepth 100000 in
theorem t_X9_putEquation (l : Launch) (D : xD) (z n : Nat) (G : xG) (I : xI) (L : xL) (S : Nat) (b : Nat) (E : Nat) (hS : shS G S) (hE : shE G E) (zS : z ≤ S) (hb : b < 2) (dE : E + 4 ≤ S ∨ S + 38 ≤ E) (hdE : 1 ≤ dgN (I (E + 1)) (I (E + 2)) 10) (hdo : 1 ≤ sdg I S (1 - b)) : xM0 l D z yX9_putEquation cX9_putEquation 3 none 5 119 [.ref S, .int (nI b), .ref E] n G I L (fun v' I' L' => v' = none ∧ (I' S 4 = nI (sdg I' S 0 * sdg I' S 1)) ∧ (begun I' L' S (sdg I' S 0) (sdg I' S 1) (I (S + 9) 0) (I (S + 9) 1) (sdg I' S 0 * sdg I' S 1)) ∧ (I' (S + 9) = I (S + 9)) ∧ ((∀ j, j < 10 → I' (S + 1 + 4 * b + 1) j = I (E + 1) j) ∧ (∀ j, j < 10 → I' (S + 1 + 4 * b + 2) j = I (E + 2) j)) ∧ (I' (S + 1 + 4 * (1 - b) + 1) = I (S + 1 + 4 * (1 - b) + 1) ∧ I' (S + 1 + 4 * (1 - b) + 2) = I (S + 1 + 4 * (1 - b) + 2)) ∧ (∀ a, (a < S ∨ S + 38 ≤ a) → I' a = I a) ∧ (∀ a, (a < S ∨ S + 38 ≤ a) → L' a = L a)) := by
  refine xM.of (by decide) (Nat.le_of_ble_eq_true rfl) (fun p e s m args below meth c C hnm hsz => ?_)
  refine x_lv [(0, .ref S), (1, .int (nI b)), (2, .ref E)] rfl ?_
  rcases (show b = 0 ∨ b = 1 by omega) with rfl | rfl
  · skip
    refine x_aload_n 0 C dX9_putEquation_0 rfl 0 rfl ?_
    refine x_iload_n 1 C dX9_putEquation_1 rfl 1 rfl ?_
    refine x_callVe 2 C dX9_putEquation_2 (As := [.int (nI 0)]) (rest := []) [.ref (S + 1 + 4 * 0)] (t_X9_equationAt l D z n G I L S 0 hS (by first | omega | assumption | decide)) mt_X9_equationAt km_X9_54 ki_X9_equationAt ks_X9_equationAt hS.1 ⟨by decide, rfl⟩ rfl rfl (Nat.le_of_ble_eq_true rfl) ⟨⟨by decide, by decide⟩, by decide, by decide⟩ (fun I1 L2 eI1 eL2 => ?_)
    replace eI1 := eI1.symm; subst eI1
    replace eL2 := eL2.symm; subst eL2
    refine x_aload_n 5 C dX9_putEquation_5 rfl 2 rfl ?_
    refine x_callVe 6 C dX9_putEquation_6 (As := [.ref E]) (rest := []) [] (t_X1_copy l D z n G I L (S + 1 + 4 * 0) E (hS.2.1 0 (by decide)) hE (by omega) (by first | omega | assumption | decide)) mt_X1_copy km_X9_43 ki_X1_copy ks_X1_copy (hS.2.1 0 (by decide)).1 ⟨by decide, rfl⟩ rfl rfl (Nat.le_of_ble_eq_true rfl) ⟨⟨by decide, by decide⟩, by decide, by decide⟩ (fun I3 L4 eI3 eL4 => ?_)
    replace eL4 := eL4.symm; subst eL4
    have es0 : sdg I3 S 0 = dgN (I (E + 1)) (I (E + 2)) 10 := by unfold sdg; exact dgN_congr (fun j hj => by rw [eI3, eqFill_re _ _ _ _ hj]) (fun j hj => by rw [eI3, eqFill_im _ _ _ _ hj]) 10 (Nat.le_refl _)
    have hq0 : 1 ≤ sdg I3 S 0 := by rw [es0]; exact hdE
    have es1 : sdg I3 S 1 = sdg I S 1 := by unfold sdg; rw [eI3, eqFill_ne _ _ _ _ _ (by omega) (by omega), eqFill_ne _ _ _ _ _ (by omega) (by omega)]
    have hq1 : 1 ≤ sdg I3 S 1 := by rw [es1]; exact hdo
    refine x_aload_n 9 C dX9_putEquation_9 rfl 0 rfl ?_
    refine x_callVp 10 C dX9_putEquation_10 (As := []) (rest := []) (t_X9_beginPaths l D z n G I3 L S hS (by omega) hq0 hq1) mt_X9_beginPaths km_X9_40 ki_X9_beginPaths ks_X9_beginPaths hS.1 ⟨by decide, rfl⟩ rfl (Nat.le_of_ble_eq_true rfl) ⟨⟨by decide, by decide⟩, by decide, by decide⟩ (fun w5 I6 L7 hw5 => ?_)
    obtain ⟨hw5v, hw5r0, hw5r1, hw5r2, hw5r3⟩ := hw5
    subst hw5v
    refine x_st [] rfl ?_
    refine x_vret 13 C dX9_putEquation_13 rfl (Nat.le_refl _) (xN.intro ?_)
    have et0 : sdg I6 S 0 = sdg I3 S 0 := by unfold sdg; rw [hw5r2 _ (by omega) (by omega), hw5r2 _ (by omega) (by omega)]
    have et1 : sdg I6 S 1 = sdg I3 S 1 := by unfold sdg; rw [hw5r2 _ (by omega) (by omega), hw5r2 _ (by omega) (by omega)]
    have e9 : I3 (S + 9) = I (S + 9) := by rw [eI3, eqFill_ne _ _ _ _ _ (by omega) (by omega)]
    refine ⟨rfl, by rw [et0, et1]; exact hw5r0, ?_, by rw [hw5r2 _ (by omega) (by omega)]; exact e9, ⟨fun j hj => ?_, fun j hj => ?_⟩, ⟨?_, ?_⟩, fun a ha => ?_, fun a ha => hw5r3 a (by omega)⟩
    · rw [et0, et1]; have h := hw5r1; rw [e9] at h; exact h
    · rw [hw5r2 _ (by omega) (by omega), eI3, eqFill_re _ _ _ _ hj]
    · rw [hw5r2 _ (by omega) (by omega), eI3, eqFill_im _ _ _ _ hj]
    · rw [hw5r2 _ (by omega) (by omega), eI3, eqFill_ne _ _ _ _ _ (by omega) (by omega)]
    · rw [hw5r2 _ (by omega) (by omega), eI3, eqFill_ne _ _ _ _ _ (by omega) (by omega)]
    · rw [hw5r2 _ (by omega) (by omega), eI3, eqFill_ne _ _ _ _ _ (by omega) (by omega)]
  · skip
    refine x_aload_n 0 C dX9_putEquation_0 rfl 0 rfl ?_
    refine x_iload_n 1 C dX9_putEquation_1 rfl 1 rfl ?_
    refine x_callVe 2 C dX9_putEquation_2 (As := [.int (nI 1)]) (rest := []) [.ref (S + 1 + 4 * 1)] (t_X9_equationAt l D z n G I L S 1 hS (by first | omega | assumption | decide)) mt_X9_equationAt km_X9_54 ki_X9_equationAt ks_X9_equationAt hS.1 ⟨by decide, rfl⟩ rfl rfl (Nat.le_of_ble_eq_true rfl) ⟨⟨by decide, by decide⟩, by decide, by decide⟩ (fun I8 L9 eI8 eL9 => ?_)
    replace eI8 := eI8.symm; subst eI8
    replace eL9 := eL9.symm; subst eL9
    refine x_aload_n 5 C dX9_putEquation_5 rfl 2 rfl ?_
    refine x_callVe 6 C dX9_putEquation_6 (As := [.ref E]) (rest := []) [] (t_X1_copy l D z n G I L (S + 1 + 4 * 1) E (hS.2.1 1 (by decide)) hE (by omega) (by first | omega | assumption | decide)) mt_X1_copy km_X9_43 ki_X1_copy ks_X1_copy (hS.2.1 1 (by decide)).1 ⟨by decide, rfl⟩ rfl rfl (Nat.le_of_ble_eq_true rfl) ⟨⟨by decide, by decide⟩, by decide, by decide⟩ (fun I10 L11 eI10 eL11 => ?_)
    replace eL11 := eL11.symm; subst eL11
    have es0 : sdg I10 S 0 = sdg I S 0 := by unfold sdg; rw [eI10, eqFill_ne _ _ _ _ _ (by omega) (by omega), eqFill_ne _ _ _ _ _ (by omega) (by omega)]
    have hq0 : 1 ≤ sdg I10 S 0 := by rw [es0]; exact hdo
    have es1 : sdg I10 S 1 = dgN (I (E + 1)) (I (E + 2)) 10 := by unfold sdg; exact dgN_congr (fun j hj => by rw [eI10, eqFill_re _ _ _ _ hj]) (fun j hj => by rw [eI10, eqFill_im _ _ _ _ hj]) 10 (Nat.le_refl _)
    have hq1 : 1 ≤ sdg I10 S 1 := by rw [es1]; exact hdE
    refine x_aload_n 9 C dX9_putEquation_9 rfl 0 rfl ?_
    refine x_callVp 10 C dX9_putEquation_10 (As := []) (rest := []) (t_X9_beginPaths l D z n G I10 L S hS (by omega) hq0 hq1) mt_X9_beginPaths km_X9_40 ki_X9_beginPaths ks_X9_beginPaths hS.1 ⟨by decide, rfl⟩ rfl (Nat.le_of_ble_eq_true rfl) ⟨⟨by decide, by decide⟩, by decide, by decide⟩ (fun w12 I13 L14 hw12 => ?_)
    obtain ⟨hw12v, hw12r0, hw12r1, hw12r2, hw12r3⟩ := hw12
    subst hw12v
    refine x_st [] rfl ?_
    refine x_vret 13 C dX9_putEquation_13 rfl (Nat.le_refl _) (xN.intro ?_)
    have et0 : sdg I13 S 0 = sdg I10 S 0 := by unfold sdg; rw [hw12r2 _ (by omega) (by omega), hw12r2 _ (by omega) (by omega)]
    have et1 : sdg I13 S 1 = sdg I10 S 1 := by unfold sdg; rw [hw12r2 _ (by omega) (by omega), hw12r2 _ (by omega) (by omega)]
    have e9 : I10 (S + 9) = I (S + 9) := by rw [eI10, eqFill_ne _ _ _ _ _ (by omega) (by omega)]
    refine ⟨rfl, by rw [et0, et1]; exact hw12r0, ?_, by rw [hw12r2 _ (by omega) (by omega)]; exact e9, ⟨fun j hj => ?_, fun j hj => ?_⟩, ⟨?_, ?_⟩, fun a ha => ?_, fun a ha => hw12r3 a (by omega)⟩
    · rw [et0, et1]; have h := hw12r1; rw [e9] at h; exact h
    · rw [hw12r2 _ (by omega) (by omega), eI10, eqFill_re _ _ _ _ hj]
    · rw [hw12r2 _ (by omega) (by omega), eI10, eqFill_im _ _ _ _ hj]
    · rw [hw12r2 _ (by omega) (by omega), eI10, eqFill_ne _ _ _ _ _ (by omega) (by omega)]
    · rw [hw12r2 _ (by omega) (by omega), eI10, eqFill_ne _ _ _ _ _ (by omega) (by omega)]
    · rw [hw12r2 _ (by omega) (by omega), eI10, eqFill_ne _ _ _ _ _ (by omega) (by omega)]
