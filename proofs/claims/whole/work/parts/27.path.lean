/-! PathTracker: coefficient, path; what is refused -/
def pAns (I : xI) (L : xL) (a w : Nat) : Int32 := if w = 0 then I a 2 else if w = 1 then I a 3 else if w = 2 then I a 7 else if w = 3 then I a 8 else if w = 4 then I a 6 else if w = 5 then I a 4 else if w = 6 then I a 5 else ppart I L a (w - 7)
def yOf (I : xI) (S : Nat) : xSy := (I (S + 1 + 4 * 0 + 1), I (S + 1 + 4 * 0 + 2), I (S + 1 + 4 * 1 + 1), I (S + 1 + 4 * 1 + 2), tm (sdg I S 0) 0, tm 0 (sdg I S 1), I (S + 9) 6, I (S + 9) 7)
theorem dX11_coefficient_0 : decode cX11_coefficient 0 = .ok (.iload_n 1, 1) := by decide +kernel
theorem dX11_coefficient_1 : decode cX11_coefficient 1 = .ok (.ifCond .lt 19, 3) := by decide +kernel
theorem dX11_coefficient_4 : decode cX11_coefficient 4 = .ok (.iload_n 1, 1) := by decide +kernel
theorem dX11_coefficient_5 : decode cX11_coefficient 5 = .ok (.iconst 1, 1) := by decide +kernel
theorem dX11_coefficient_6 : decode cX11_coefficient 6 = .ok (.if_icmp .gt 14, 3) := by decide +kernel
theorem dX11_coefficient_9 : decode cX11_coefficient 9 = .ok (.iload 4, 2) := by decide +kernel
theorem dX11_coefficient_11 : decode cX11_coefficient 11 = .ok (.ifCond .lt 9, 3) := by decide +kernel
theorem dX11_coefficient_14 : decode cX11_coefficient 14 = .ok (.iload 4, 2) := by decide +kernel
theorem dX11_coefficient_16 : decode cX11_coefficient 16 = .ok (.iconst 1, 1) := by decide +kernel
theorem dX11_coefficient_17 : decode cX11_coefficient 17 = .ok (.if_icmp .le 6, 3) := by decide +kernel
theorem dX11_coefficient_20 : decode cX11_coefficient 20 = .ok (.ldc 48, 2) := by decide +kernel
theorem dX11_coefficient_22 : decode cX11_coefficient 22 = .ok (.ireturn, 1) := by decide +kernel
theorem dX11_coefficient_23 : decode cX11_coefficient 23 = .ok (.iload_n 2, 1) := by decide +kernel
theorem dX11_coefficient_24 : decode cX11_coefficient 24 = .ok (.ifCond .lt 19, 3) := by decide +kernel
theorem dX11_coefficient_27 : decode cX11_coefficient 27 = .ok (.iload_n 2, 1) := by decide +kernel
theorem dX11_coefficient_28 : decode cX11_coefficient 28 = .ok (.iconst 3, 1) := by decide +kernel
theorem dX11_coefficient_29 : decode cX11_coefficient 29 = .ok (.if_icmp .gt 14, 3) := by decide +kernel
theorem dX11_coefficient_32 : decode cX11_coefficient 32 = .ok (.iload_n 3, 1) := by decide +kernel
theorem dX11_coefficient_33 : decode cX11_coefficient 33 = .ok (.ifCond .lt 10, 3) := by decide +kernel
theorem dX11_coefficient_36 : decode cX11_coefficient 36 = .ok (.iload_n 3, 1) := by decide +kernel
theorem dX11_coefficient_37 : decode cX11_coefficient 37 = .ok (.iconst 3, 1) := by decide +kernel
theorem dX11_coefficient_38 : decode cX11_coefficient 38 = .ok (.iload_n 2, 1) := by decide +kernel
theorem dX11_coefficient_39 : decode cX11_coefficient 39 = .ok (.isub, 1) := by decide +kernel
theorem dX11_coefficient_40 : decode cX11_coefficient 40 = .ok (.if_icmp .le 6, 3) := by decide +kernel
theorem dX11_coefficient_43 : decode cX11_coefficient 43 = .ok (.ldc 48, 2) := by decide +kernel
theorem dX11_coefficient_45 : decode cX11_coefficient 45 = .ok (.ireturn, 1) := by decide +kernel
theorem dX11_coefficient_46 : decode cX11_coefficient 46 = .ok (.aload_n 0, 1) := by decide +kernel
theorem dX11_coefficient_47 : decode cX11_coefficient 47 = .ok (.getfield 26, 3) := by decide +kernel
theorem dX11_coefficient_50 : decode cX11_coefficient 50 = .ok (.iload_n 1, 1) := by decide +kernel
theorem dX11_coefficient_51 : decode cX11_coefficient 51 = .ok (.invokevirtual 87, 3) := by decide +kernel
theorem dX11_coefficient_54 : decode cX11_coefficient 54 = .ok (.astore 5, 2) := by decide +kernel
theorem dX11_coefficient_56 : decode cX11_coefficient 56 = .ok (.iload 4, 2) := by decide +kernel
theorem dX11_coefficient_58 : decode cX11_coefficient 58 = .ok (.ifCond .ne 13, 3) := by decide +kernel
theorem dX11_coefficient_61 : decode cX11_coefficient 61 = .ok (.aload 5, 2) := by decide +kernel
theorem dX11_coefficient_63 : decode cX11_coefficient 63 = .ok (.iload_n 2, 1) := by decide +kernel
theorem dX11_coefficient_64 : decode cX11_coefficient 64 = .ok (.iload_n 3, 1) := by decide +kernel
theorem dX11_coefficient_65 : decode cX11_coefficient 65 = .ok (.invokevirtual 91, 3) := by decide +kernel
theorem dX11_coefficient_68 : decode cX11_coefficient 68 = .ok (.goto 10, 3) := by decide +kernel
theorem dX11_coefficient_71 : decode cX11_coefficient 71 = .ok (.aload 5, 2) := by decide +kernel
theorem dX11_coefficient_73 : decode cX11_coefficient 73 = .ok (.iload_n 2, 1) := by decide +kernel
theorem dX11_coefficient_74 : decode cX11_coefficient 74 = .ok (.iload_n 3, 1) := by decide +kernel
theorem dX11_coefficient_75 : decode cX11_coefficient 75 = .ok (.invokevirtual 95, 3) := by decide +kernel
theorem dX11_coefficient_78 : decode cX11_coefficient 78 = .ok (.ireturn, 1) := by decide +kernel
set_option maxHeartbeats 1000000 in
set_option maxRecDepth 100000 in
theorem t_X11_coefficient (l : Launch) (D : xD) (z n : Nat) (G : xG) (I : xI) (L : xL) (o : Nat) (b : Nat) (i : Nat) (j : Nat) (q : Nat) (hW : shPT G o) (hb : b < 2) (hij : i + j ≤ 3) (hq : q < 2) : xM0 l D z yX11_coefficient cX11_coefficient 6 (some .int) 2 44 [.ref o, .int (nI b), .int (nI i), .int (nI j), .int (nI q)] n G I L (xE (some (.int (if q = 0 then I (o + 75 + 1 + 4 * b + 1) (tm i j) else I (o + 75 + 1 + 4 * b + 2) (tm i j)))) I L) := by
  refine xM.of (by decide) (Nat.le_of_ble_eq_true rfl) (fun p e s m args below meth c C hnm hsz => ?_)
  refine x_lv [(0, .ref o), (1, .int (nI b)), (2, .int (nI i)), (3, .int (nI j)), (4, .int (nI q))] rfl ?_
  rcases (show q = 0 ∨ q = 1 by omega) with rfl | rfl
  · skip
    refine x_iload_n 0 C dX11_coefficient_0 rfl 1 rfl ?_
    refine x_if_lt 1 C 20 dX11_coefficient_1 (by decide) (fun c1 => absurd c1 (nI_pos (n := b) (by omega))) (fun _ => ?_)
    refine x_iload_n 4 C dX11_coefficient_4 rfl 1 rfl ?_
    refine x_iconst 5 C (v := 1) dX11_coefficient_5 rfl ?_
    refine x_icmp_gt 6 C 20 dX11_coefficient_6 (by decide) (fun c2 => absurd c2 (fun h => absurd ((nI_ltI (a := 1) (b := b) (by omega) (by omega)).mp h) (by omega))) (fun _ => ?_)
    refine x_iload 9 C dX11_coefficient_9 4 rfl ?_
    refine x_if_lt 11 C 20 dX11_coefficient_11 (by decide) (fun c3 => absurd c3 (by decide)) (fun _ => ?_)
    refine x_iload 14 C dX11_coefficient_14 4 rfl ?_
    refine x_iconst 16 C (v := 1) dX11_coefficient_16 rfl ?_
    refine x_icmp_le 17 C 23 dX11_coefficient_17 (by decide) (fun _ => ?_) (fun c4 => absurd (by decide) c4)
    refine x_iload_n 23 C dX11_coefficient_23 rfl 2 rfl ?_
    refine x_if_lt 24 C 43 dX11_coefficient_24 (by decide) (fun c5 => absurd c5 (nI_pos (n := i) (by omega))) (fun _ => ?_)
    refine x_iload_n 27 C dX11_coefficient_27 rfl 2 rfl ?_
    refine x_iconst 28 C (v := 3) dX11_coefficient_28 rfl ?_
    refine x_icmp_gt 29 C 43 dX11_coefficient_29 (by decide) (fun c6 => absurd c6 (fun h => absurd ((nI_ltI (a := 3) (b := i) (by omega) (by omega)).mp h) (by omega))) (fun _ => ?_)
    refine x_iload_n 32 C dX11_coefficient_32 rfl 3 rfl ?_
    refine x_if_lt 33 C 43 dX11_coefficient_33 (by decide) (fun c7 => absurd c7 (nI_pos (n := j) (by omega))) (fun _ => ?_)
    refine x_iload_n 36 C dX11_coefficient_36 rfl 3 rfl ?_
    refine x_iconst 37 C (v := 3) dX11_coefficient_37 rfl ?_
    refine x_iload_n 38 C dX11_coefficient_38 rfl 2 rfl ?_
    refine x_isub 39 C dX11_coefficient_39 ?_
    refine x_int (nI (3 - i)) (nI_sub (a := 3) (b := i) (by omega)) ?_
    refine x_icmp_le 40 C 46 dX11_coefficient_40 (by decide) (fun _ => ?_) (fun c8 => absurd ((nI_leI (a := j) (b := (3 - i)) (by omega) (by omega)).mpr (by omega)) c8)
    refine x_aload_n 46 C dX11_coefficient_46 rfl 0 rfl ?_
    refine x_getr 47 C (b := o + 75) dX11_coefficient_47 ff_X11_26 rfl hW.1 rfl ?_
    refine x_iload_n 50 C dX11_coefficient_50 rfl 1 rfl ?_
    refine x_callVe 51 C dX11_coefficient_51 (As := [.int (nI b)]) (rest := []) [.ref (o + 75 + 1 + 4 * b)] (t_X9_equationAt l D z n G I L (o + 75) b hW.2.2.2.1 (by first | omega | assumption | decide)) mt_X9_equationAt km_X11_87 ki_X9_equationAt ks_X9_equationAt hW.2.2.2.1.1 ⟨by decide, rfl⟩ rfl rfl (Nat.le_of_ble_eq_true rfl) ⟨⟨by decide, by decide⟩, by decide, by decide⟩ (fun I9 L10 eI9 eL10 => ?_)
    replace eI9 := eI9.symm; subst eI9
    replace eL10 := eL10.symm; subst eL10
    refine x_astore 54 C [(5, .ref (o + 75 + 1 + 4 * b)), (0, .ref o), (1, .int (nI b)), (2, .int (nI i)), (3, .int (nI j)), (4, .int (nI 0))] dX11_coefficient_54 (by decide) rfl ?_
    refine x_iload 56 C dX11_coefficient_56 5 rfl ?_
    refine x_if_ne 58 C 71 dX11_coefficient_58 (by decide) (fun c11 => absurd (by decide) c11) (fun _ => ?_)
    refine x_aload 61 C dX11_coefficient_61 0 rfl ?_
    refine x_iload_n 63 C dX11_coefficient_63 rfl 3 rfl ?_
    refine x_iload_n 64 C dX11_coefficient_64 rfl 4 rfl ?_
    refine x_callVe 65 C dX11_coefficient_65 (As := [.int (nI i), .int (nI j)]) (rest := []) [.int (I ((o + 75 + 1 + 4 * b) + 1) (tm i j))] (t_X1_realPart l D z n G I L (o + 75 + 1 + 4 * b) i j (hW.2.2.2.1.2.1 b hb) (by first | omega | assumption | decide)) mt_X1_realPart km_X11_91 ki_X1_realPart ks_X1_realPart (hW.2.2.2.1.2.1 b hb).1 ⟨by decide, rfl⟩ rfl rfl (Nat.le_of_ble_eq_true rfl) ⟨⟨by decide, by decide⟩, by decide, by decide⟩ (fun I12 L13 eI12 eL13 => ?_)
    replace eI12 := eI12.symm; subst eI12
    replace eL13 := eL13.symm; subst eL13
    refine x_goto 68 C 78 dX11_coefficient_68 (by decide) ?_
    refine x_iret 78 C dX11_coefficient_78 rfl rfl (Nat.le_refl _) (xN.intro ?_)
    exact ⟨rfl, rfl, rfl⟩
  · skip
    refine x_iload_n 0 C dX11_coefficient_0 rfl 1 rfl ?_
    refine x_if_lt 1 C 20 dX11_coefficient_1 (by decide) (fun c14 => absurd c14 (nI_pos (n := b) (by omega))) (fun _ => ?_)
    refine x_iload_n 4 C dX11_coefficient_4 rfl 1 rfl ?_
    refine x_iconst 5 C (v := 1) dX11_coefficient_5 rfl ?_
    refine x_icmp_gt 6 C 20 dX11_coefficient_6 (by decide) (fun c15 => absurd c15 (fun h => absurd ((nI_ltI (a := 1) (b := b) (by omega) (by omega)).mp h) (by omega))) (fun _ => ?_)
    refine x_iload 9 C dX11_coefficient_9 4 rfl ?_
    refine x_if_lt 11 C 20 dX11_coefficient_11 (by decide) (fun c16 => absurd c16 (by decide)) (fun _ => ?_)
    refine x_iload 14 C dX11_coefficient_14 4 rfl ?_
    refine x_iconst 16 C (v := 1) dX11_coefficient_16 rfl ?_
    refine x_icmp_le 17 C 23 dX11_coefficient_17 (by decide) (fun _ => ?_) (fun c17 => absurd (by decide) c17)
    refine x_iload_n 23 C dX11_coefficient_23 rfl 2 rfl ?_
    refine x_if_lt 24 C 43 dX11_coefficient_24 (by decide) (fun c18 => absurd c18 (nI_pos (n := i) (by omega))) (fun _ => ?_)
    refine x_iload_n 27 C dX11_coefficient_27 rfl 2 rfl ?_
    refine x_iconst 28 C (v := 3) dX11_coefficient_28 rfl ?_
    refine x_icmp_gt 29 C 43 dX11_coefficient_29 (by decide) (fun c19 => absurd c19 (fun h => absurd ((nI_ltI (a := 3) (b := i) (by omega) (by omega)).mp h) (by omega))) (fun _ => ?_)
    refine x_iload_n 32 C dX11_coefficient_32 rfl 3 rfl ?_
    refine x_if_lt 33 C 43 dX11_coefficient_33 (by decide) (fun c20 => absurd c20 (nI_pos (n := j) (by omega))) (fun _ => ?_)
    refine x_iload_n 36 C dX11_coefficient_36 rfl 3 rfl ?_
    refine x_iconst 37 C (v := 3) dX11_coefficient_37 rfl ?_
    refine x_iload_n 38 C dX11_coefficient_38 rfl 2 rfl ?_
    refine x_isub 39 C dX11_coefficient_39 ?_
    refine x_int (nI (3 - i)) (nI_sub (a := 3) (b := i) (by omega)) ?_
    refine x_icmp_le 40 C 46 dX11_coefficient_40 (by decide) (fun _ => ?_) (fun c21 => absurd ((nI_leI (a := j) (b := (3 - i)) (by omega) (by omega)).mpr (by omega)) c21)
    refine x_aload_n 46 C dX11_coefficient_46 rfl 0 rfl ?_
    refine x_getr 47 C (b := o + 75) dX11_coefficient_47 ff_X11_26 rfl hW.1 rfl ?_
    refine x_iload_n 50 C dX11_coefficient_50 rfl 1 rfl ?_
    refine x_callVe 51 C dX11_coefficient_51 (As := [.int (nI b)]) (rest := []) [.ref (o + 75 + 1 + 4 * b)] (t_X9_equationAt l D z n G I L (o + 75) b hW.2.2.2.1 (by first | omega | assumption | decide)) mt_X9_equationAt km_X11_87 ki_X9_equationAt ks_X9_equationAt hW.2.2.2.1.1 ⟨by decide, rfl⟩ rfl rfl (Nat.le_of_ble_eq_true rfl) ⟨⟨by decide, by decide⟩, by decide, by decide⟩ (fun I22 L23 eI22 eL23 => ?_)
    replace eI22 := eI22.symm; subst eI22
    replace eL23 := eL23.symm; subst eL23
    refine x_astore 54 C [(5, .ref (o + 75 + 1 + 4 * b)), (0, .ref o), (1, .int (nI b)), (2, .int (nI i)), (3, .int (nI j)), (4, .int (nI 1))] dX11_coefficient_54 (by decide) rfl ?_
    refine x_iload 56 C dX11_coefficient_56 5 rfl ?_
    refine x_if_ne 58 C 71 dX11_coefficient_58 (by decide) (fun _ => ?_) (fun c24 => absurd c24 (by decide))
    refine x_aload 71 C dX11_coefficient_71 0 rfl ?_
    refine x_iload_n 73 C dX11_coefficient_73 rfl 3 rfl ?_
    refine x_iload_n 74 C dX11_coefficient_74 rfl 4 rfl ?_
    refine x_callVe 75 C dX11_coefficient_75 (As := [.int (nI i), .int (nI j)]) (rest := []) [.int (I ((o + 75 + 1 + 4 * b) + 2) (tm i j))] (t_X1_imaginaryPart l D z n G I L (o + 75 + 1 + 4 * b) i j (hW.2.2.2.1.2.1 b hb) (by first | omega | assumption | decide)) mt_X1_imaginaryPart km_X11_95 ki_X1_imaginaryPart ks_X1_imaginaryPart (hW.2.2.2.1.2.1 b hb).1 ⟨by decide, rfl⟩ rfl rfl (Nat.le_of_ble_eq_true rfl) ⟨⟨by decide, by decide⟩, by decide, by decide⟩ (fun I25 L26 eI25 eL26 => ?_)
    replace eI25 := eI25.symm; subst eI25
    replace eL26 := eL26.symm; subst eL26
    refine x_iret 78 C dX11_coefficient_78 rfl rfl (Nat.le_refl _) (xN.intro ?_)
    exact ⟨rfl, rfl, rfl⟩
set_option maxHeartbeats 1000000 in
set_option maxRecDepth 100000 in
theorem t_X11_coefficient_bad (l : Launch) (D : xD) (z n : Nat) (G : xG) (I : xI) (L : xL) (o : Nat) (x : Int32) (i : Int32) (j : Int32) (q : Int32) (hW : shPT G o) (hbad : ¬ (0 ≤ x ∧ x ≤ 1 ∧ 0 ≤ q ∧ q ≤ 1 ∧ 0 ≤ i ∧ i ≤ 3 ∧ 0 ≤ j ∧ j ≤ 3 - i)) : xM0 l D z yX11_coefficient cX11_coefficient 6 (some .int) 2 44 [.ref o, .int x, .int i, .int j, .int q] n G I L (xE (some (.int (-2000000001))) I L) := by
  refine xM.of (by decide) (Nat.le_of_ble_eq_true rfl) (fun p e s m args below meth c C hnm hsz => ?_)
  refine x_lv [(0, .ref o), (1, .int x), (2, .int i), (3, .int j), (4, .int q)] rfl ?_
  refine x_iload_n 0 C dX11_coefficient_0 rfl 1 rfl ?_
  refine x_if_lt 1 C 20 dX11_coefficient_1 (by decide) (fun c1 => ?_) (fun c1 => ?_)
  · skip
    have c1o := Int32.not_le.mpr c1
    refine x_ldc 20 C (-2000000001) dX11_coefficient_20 kk_X11_48 ?_
    refine x_iret 22 C dX11_coefficient_22 rfl rfl (Nat.le_refl _) (xN.intro ?_)
    exact ⟨rfl, rfl, rfl⟩
  · skip
    have c1o := Int32.not_lt.mp c1
    refine x_iload_n 4 C dX11_coefficient_4 rfl 1 rfl ?_
    refine x_iconst 5 C (v := 1) dX11_coefficient_5 rfl ?_
    refine x_icmp_gt 6 C 20 dX11_coefficient_6 (by decide) (fun c2 => ?_) (fun c2 => ?_)
    · skip
      have c2o := Int32.not_le.mpr c2
      refine x_ldc 20 C (-2000000001) dX11_coefficient_20 kk_X11_48 ?_
      refine x_iret 22 C dX11_coefficient_22 rfl rfl (Nat.le_refl _) (xN.intro ?_)
      exact ⟨rfl, rfl, rfl⟩
    · skip
      have c2o := Int32.not_lt.mp c2
      refine x_iload 9 C dX11_coefficient_9 4 rfl ?_
      refine x_if_lt 11 C 20 dX11_coefficient_11 (by decide) (fun c3 => ?_) (fun c3 => ?_)
      · skip
        have c3o := Int32.not_le.mpr c3
        refine x_ldc 20 C (-2000000001) dX11_coefficient_20 kk_X11_48 ?_
        refine x_iret 22 C dX11_coefficient_22 rfl rfl (Nat.le_refl _) (xN.intro ?_)
        exact ⟨rfl, rfl, rfl⟩
      · skip
        have c3o := Int32.not_lt.mp c3
        refine x_iload 14 C dX11_coefficient_14 4 rfl ?_
        refine x_iconst 16 C (v := 1) dX11_coefficient_16 rfl ?_
        refine x_icmp_le 17 C 23 dX11_coefficient_17 (by decide) (fun c4 => ?_) (fun c4 => ?_)
        · skip
          have c4o := Int32.not_lt.mpr c4
          refine x_iload_n 23 C dX11_coefficient_23 rfl 2 rfl ?_
          refine x_if_lt 24 C 43 dX11_coefficient_24 (by decide) (fun c5 => ?_) (fun c5 => ?_)
          · skip
            have c5o := Int32.not_le.mpr c5
            refine x_ldc 43 C (-2000000001) dX11_coefficient_43 kk_X11_48 ?_
            refine x_iret 45 C dX11_coefficient_45 rfl rfl (Nat.le_refl _) (xN.intro ?_)
            exact ⟨rfl, rfl, rfl⟩
          · skip
            have c5o := Int32.not_lt.mp c5
            refine x_iload_n 27 C dX11_coefficient_27 rfl 2 rfl ?_
            refine x_iconst 28 C (v := 3) dX11_coefficient_28 rfl ?_
            refine x_icmp_gt 29 C 43 dX11_coefficient_29 (by decide) (fun c6 => ?_) (fun c6 => ?_)
            · skip
              have c6o := Int32.not_le.mpr c6
              refine x_ldc 43 C (-2000000001) dX11_coefficient_43 kk_X11_48 ?_
              refine x_iret 45 C dX11_coefficient_45 rfl rfl (Nat.le_refl _) (xN.intro ?_)
              exact ⟨rfl, rfl, rfl⟩
            · skip
              have c6o := Int32.not_lt.mp c6
              refine x_iload_n 32 C dX11_coefficient_32 rfl 3 rfl ?_
              refine x_if_lt 33 C 43 dX11_coefficient_33 (by decide) (fun c7 => ?_) (fun c7 => ?_)
              · skip
                have c7o := Int32.not_le.mpr c7
                refine x_ldc 43 C (-2000000001) dX11_coefficient_43 kk_X11_48 ?_
                refine x_iret 45 C dX11_coefficient_45 rfl rfl (Nat.le_refl _) (xN.intro ?_)
                exact ⟨rfl, rfl, rfl⟩
              · skip
                have c7o := Int32.not_lt.mp c7
                refine x_iload_n 36 C dX11_coefficient_36 rfl 3 rfl ?_
                refine x_iconst 37 C (v := 3) dX11_coefficient_37 rfl ?_
                refine x_iload_n 38 C dX11_coefficient_38 rfl 2 rfl ?_
                refine x_isub 39 C dX11_coefficient_39 ?_
                refine x_icmp_le 40 C 46 dX11_coefficient_40 (by decide) (fun c8 => ?_) (fun c8 => ?_)
                · skip
                  have c8o := Int32.not_lt.mpr c8
                  exact absurd ⟨by assumption, by assumption, by assumption, by assumption, by assumption, by assumption, by assumption, by assumption⟩ hbad
                · skip
                  have c8o := Int32.not_le.mp c8
                  refine x_ldc 43 C (-2000000001) dX11_coefficient_43 kk_X11_48 ?_
                  refine x_iret 45 C dX11_coefficient_45 rfl rfl (Nat.le_refl _) (xN.intro ?_)
                  exact ⟨rfl, rfl, rfl⟩
        · skip
          have c4o := Int32.not_le.mp c4
          refine x_ldc 20 C (-2000000001) dX11_coefficient_20 kk_X11_48 ?_
          refine x_iret 22 C dX11_coefficient_22 rfl rfl (Nat.le_refl _) (xN.intro ?_)
          exact ⟨rfl, rfl, rfl⟩
theorem dX11_path_0 : decode cX11_path 0 = .ok (.aload_n 0, 1) := by decide +kernel
theorem dX11_path_1 : decode cX11_path 1 = .ok (.getfield 26, 3) := by decide +kernel
theorem dX11_path_4 : decode cX11_path 4 = .ok (.iload_n 1, 1) := by decide +kernel
theorem dX11_path_5 : decode cX11_path 5 = .ok (.invokevirtual 98, 3) := by decide +kernel
theorem dX11_path_8 : decode cX11_path 8 = .ok (.ifCond .eq 13, 3) := by decide +kernel
theorem dX11_path_11 : decode cX11_path 11 = .ok (.iload_n 2, 1) := by decide +kernel
theorem dX11_path_12 : decode cX11_path 12 = .ok (.ifCond .lt 9, 3) := by decide +kernel
theorem dX11_path_15 : decode cX11_path 15 = .ok (.iload_n 2, 1) := by decide +kernel
theorem dX11_path_16 : decode cX11_path 16 = .ok (.bipush 11, 2) := by decide +kernel
theorem dX11_path_18 : decode cX11_path 18 = .ok (.if_icmp .le 6, 3) := by decide +kernel
theorem dX11_path_21 : decode cX11_path 21 = .ok (.ldc 48, 2) := by decide +kernel
theorem dX11_path_23 : decode cX11_path 23 = .ok (.ireturn, 1) := by decide +kernel
theorem dX11_path_24 : decode cX11_path 24 = .ok (.aload_n 0, 1) := by decide +kernel
theorem dX11_path_25 : decode cX11_path 25 = .ok (.getfield 26, 3) := by decide +kernel
theorem dX11_path_28 : decode cX11_path 28 = .ok (.iload_n 1, 1) := by decide +kernel
theorem dX11_path_29 : decode cX11_path 29 = .ok (.invokevirtual 101, 3) := by decide +kernel
theorem dX11_path_32 : decode cX11_path 32 = .ok (.astore_n 3, 1) := by decide +kernel
theorem dX11_path_33 : decode cX11_path 33 = .ok (.iload_n 2, 1) := by decide +kernel
theorem dX11_path_34 : decode cX11_path 34 = .ok (.tableswitch 117 0 11 #[62, 67, 72, 77, 82, 87, 92, 117, 117, 117, 117, 97], 62) := by decide +kernel
theorem dX11_path_96 : decode cX11_path 96 = .ok (.aload_n 3, 1) := by decide +kernel
theorem dX11_path_97 : decode cX11_path 97 = .ok (.getfield 105, 3) := by decide +kernel
theorem dX11_path_100 : decode cX11_path 100 = .ok (.ireturn, 1) := by decide +kernel
theorem dX11_path_101 : decode cX11_path 101 = .ok (.aload_n 3, 1) := by decide +kernel
theorem dX11_path_102 : decode cX11_path 102 = .ok (.getfield 137, 3) := by decide +kernel
theorem dX11_path_105 : decode cX11_path 105 = .ok (.ireturn, 1) := by decide +kernel
theorem dX11_path_106 : decode cX11_path 106 = .ok (.aload_n 3, 1) := by decide +kernel
theorem dX11_path_107 : decode cX11_path 107 = .ok (.getfield 140, 3) := by decide +kernel
theorem dX11_path_110 : decode cX11_path 110 = .ok (.ireturn, 1) := by decide +kernel
theorem dX11_path_111 : decode cX11_path 111 = .ok (.aload_n 3, 1) := by decide +kernel
theorem dX11_path_112 : decode cX11_path 112 = .ok (.getfield 143, 3) := by decide +kernel
theorem dX11_path_115 : decode cX11_path 115 = .ok (.ireturn, 1) := by decide +kernel
theorem dX11_path_116 : decode cX11_path 116 = .ok (.aload_n 3, 1) := by decide +kernel
theorem dX11_path_117 : decode cX11_path 117 = .ok (.getfield 146, 3) := by decide +kernel
theorem dX11_path_120 : decode cX11_path 120 = .ok (.ireturn, 1) := by decide +kernel
theorem dX11_path_121 : decode cX11_path 121 = .ok (.aload_n 3, 1) := by decide +kernel
theorem dX11_path_122 : decode cX11_path 122 = .ok (.getfield 149, 3) := by decide +kernel
theorem dX11_path_125 : decode cX11_path 125 = .ok (.ireturn, 1) := by decide +kernel
theorem dX11_path_126 : decode cX11_path 126 = .ok (.aload_n 3, 1) := by decide +kernel
theorem dX11_path_127 : decode cX11_path 127 = .ok (.getfield 125, 3) := by decide +kernel
theorem dX11_path_130 : decode cX11_path 130 = .ok (.ireturn, 1) := by decide +kernel
theorem dX11_path_131 : decode cX11_path 131 = .ok (.aload_n 0, 1) := by decide +kernel
theorem dX11_path_132 : decode cX11_path 132 = .ok (.getfield 19, 3) := by decide +kernel
theorem dX11_path_135 : decode cX11_path 135 = .ok (.aload_n 0, 1) := by decide +kernel
theorem dX11_path_136 : decode cX11_path 136 = .ok (.getfield 26, 3) := by decide +kernel
theorem dX11_path_139 : decode cX11_path 139 = .ok (.invokevirtual 111, 3) := by decide +kernel
theorem dX11_path_142 : decode cX11_path 142 = .ok (.aload_n 0, 1) := by decide +kernel
theorem dX11_path_143 : decode cX11_path 143 = .ok (.getfield 19, 3) := by decide +kernel
theorem dX11_path_146 : decode cX11_path 146 = .ok (.aload_n 3, 1) := by decide +kernel
theorem dX11_path_147 : decode cX11_path 147 = .ok (.invokevirtual 152, 3) := by decide +kernel
theorem dX11_path_150 : decode cX11_path 150 = .ok (.ireturn, 1) := by decide +kernel
theorem dX11_path_151 : decode cX11_path 151 = .ok (.aload_n 3, 1) := by decide +kernel
theorem dX11_path_152 : decode cX11_path 152 = .ok (.iload_n 2, 1) := by decide +kernel
theorem dX11_path_153 : decode cX11_path 153 = .ok (.bipush 7, 2) := by decide +kernel
theorem dX11_path_155 : decode cX11_path 155 = .ok (.isub, 1) := by decide +kernel
theorem dX11_path_156 : decode cX11_path 156 = .ok (.invokevirtual 156, 3) := by decide +kernel
theorem dX11_path_159 : decode cX11_path 159 = .ok (.ireturn, 1) := by decide +kernel
set_option maxHeartbeats 1000000 in
set_option maxRecDepth 100000 in
theorem t_X11_path (l : Launch) (D : xD) (z n : Nat) (G : xG) (I : xI) (L : xL) (o : Nat) (k : Nat) (w : Nat) (U : Nat) (hW : shPT G o) (hU : I (o + 75) 4 = nI U) (hU9 : U ≤ 9) (hk : k < U) (hw : w < 11) : xM0 l D z yX11_path cX11_path 4 (some .int) 6 133 [.ref o, .int (nI k), .int (nI w)] n G I L (xE (some (.int (pAns I L (o + 75 + 11 + 3 * k) w))) I L) := by
  refine xM.of (by decide) (Nat.le_of_ble_eq_true rfl) (fun p e s m args below meth c C hnm hsz => ?_)
  refine x_lv [(0, .ref o), (1, .int (nI k)), (2, .int (nI w))] rfl ?_
  rcases (show w = 0 ∨ w = 1 ∨ w = 2 ∨ w = 3 ∨ w = 4 ∨ w = 5 ∨ w = 6 ∨ w = 7 ∨ w = 8 ∨ w = 9 ∨ w = 10 by omega) with rfl | rfl | rfl | rfl | rfl | rfl | rfl | rfl | rfl | rfl | rfl
  · skip
    refine x_aload_n 0 C dX11_path_0 rfl 0 rfl ?_
    refine x_getr 1 C (b := o + 75) dX11_path_1 ff_X11_26 rfl hW.1 rfl ?_
    refine x_iload_n 4 C dX11_path_4 rfl 1 rfl ?_
    refine x_callVe 5 C dX11_path_5 (As := [.int (nI k)]) (rest := []) [.int 1] (t_X9_hasPath_k l D z n G I L (o + 75) k U hW.2.2.2.1 (by first | assumption | omega | decide) (by first | omega | assumption | decide) (by first | omega | assumption | decide)) mt_X9_hasPath km_X11_98 ki_X9_hasPath ks_X9_hasPath hW.2.2.2.1.1 ⟨by decide, rfl⟩ rfl rfl (Nat.le_of_ble_eq_true rfl) ⟨⟨by decide, by decide⟩, by decide, by decide⟩ (fun I1 L2 eI1 eL2 => ?_)
    replace eI1 := eI1.symm; subst eI1
    replace eL2 := eL2.symm; subst eL2
    refine x_if_eq 8 C 21 dX11_path_8 (by decide) (fun c3 => absurd c3 (by decide)) (fun _ => ?_)
    refine x_iload_n 11 C dX11_path_11 rfl 2 rfl ?_
    refine x_if_lt 12 C 21 dX11_path_12 (by decide) (fun c4 => absurd c4 (by decide)) (fun _ => ?_)
    refine x_iload_n 15 C dX11_path_15 rfl 2 rfl ?_
    refine x_bipush 16 C (v := 11) dX11_path_16 rfl ?_
    refine x_icmp_le 18 C 24 dX11_path_18 (by decide) (fun _ => ?_) (fun c5 => absurd (by decide) c5)
    refine x_aload_n 24 C dX11_path_24 rfl 0 rfl ?_
    refine x_getr 25 C (b := o + 75) dX11_path_25 ff_X11_26 rfl hW.1 rfl ?_
    refine x_iload_n 28 C dX11_path_28 rfl 1 rfl ?_
    refine x_callVe 29 C dX11_path_29 (As := [.int (nI k)]) (rest := []) [.ref (o + 75 + 11 + 3 * k)] (t_X9_pathAt l D z n G I L (o + 75) k U hW.2.2.2.1 (by first | assumption | omega | decide) (by first | omega | assumption | decide) (by first | omega | assumption | decide)) mt_X9_pathAt km_X11_101 ki_X9_pathAt ks_X9_pathAt hW.2.2.2.1.1 ⟨by decide, rfl⟩ rfl rfl (Nat.le_of_ble_eq_true rfl) ⟨⟨by decide, by decide⟩, by decide, by decide⟩ (fun I6 L7 eI6 eL7 => ?_)
    replace eI6 := eI6.symm; subst eI6
    replace eL7 := eL7.symm; subst eL7
    refine x_astore_n 32 C [(3, .ref (o + 75 + 11 + 3 * k)), (0, .ref o), (1, .int (nI k)), (2, .int (nI 0))] dX11_path_32 rfl (by decide) rfl ?_
    refine x_iload_n 33 C dX11_path_33 rfl 3 rfl ?_
    refine x_tsIn 34 C 96 dX11_path_34 (v := 0) rfl (by decide) (by decide) rfl (by decide) ?_
    refine x_aload_n 96 C dX11_path_96 rfl 0 rfl ?_
    refine x_geti 97 C dX11_path_97 ff_X11_105 (hW.2.2.2.1.2.2.2.2 k (by omega)).1 ?_
    refine x_iret 100 C dX11_path_100 rfl rfl (Nat.le_refl _) (xN.intro ?_)
    exact ⟨rfl, rfl, rfl⟩
  · skip
    refine x_aload_n 0 C dX11_path_0 rfl 0 rfl ?_
    refine x_getr 1 C (b := o + 75) dX11_path_1 ff_X11_26 rfl hW.1 rfl ?_
    refine x_iload_n 4 C dX11_path_4 rfl 1 rfl ?_
    refine x_callVe 5 C dX11_path_5 (As := [.int (nI k)]) (rest := []) [.int 1] (t_X9_hasPath_k l D z n G I L (o + 75) k U hW.2.2.2.1 (by first | assumption | omega | decide) (by first | omega | assumption | decide) (by first | omega | assumption | decide)) mt_X9_hasPath km_X11_98 ki_X9_hasPath ks_X9_hasPath hW.2.2.2.1.1 ⟨by decide, rfl⟩ rfl rfl (Nat.le_of_ble_eq_true rfl) ⟨⟨by decide, by decide⟩, by decide, by decide⟩ (fun I8 L9 eI8 eL9 => ?_)
    replace eI8 := eI8.symm; subst eI8
    replace eL9 := eL9.symm; subst eL9
    refine x_if_eq 8 C 21 dX11_path_8 (by decide) (fun c10 => absurd c10 (by decide)) (fun _ => ?_)
    refine x_iload_n 11 C dX11_path_11 rfl 2 rfl ?_
    refine x_if_lt 12 C 21 dX11_path_12 (by decide) (fun c11 => absurd c11 (by decide)) (fun _ => ?_)
    refine x_iload_n 15 C dX11_path_15 rfl 2 rfl ?_
    refine x_bipush 16 C (v := 11) dX11_path_16 rfl ?_
    refine x_icmp_le 18 C 24 dX11_path_18 (by decide) (fun _ => ?_) (fun c12 => absurd (by decide) c12)
    refine x_aload_n 24 C dX11_path_24 rfl 0 rfl ?_
    refine x_getr 25 C (b := o + 75) dX11_path_25 ff_X11_26 rfl hW.1 rfl ?_
    refine x_iload_n 28 C dX11_path_28 rfl 1 rfl ?_
    refine x_callVe 29 C dX11_path_29 (As := [.int (nI k)]) (rest := []) [.ref (o + 75 + 11 + 3 * k)] (t_X9_pathAt l D z n G I L (o + 75) k U hW.2.2.2.1 (by first | assumption | omega | decide) (by first | omega | assumption | decide) (by first | omega | assumption | decide)) mt_X9_pathAt km_X11_101 ki_X9_pathAt ks_X9_pathAt hW.2.2.2.1.1 ⟨by decide, rfl⟩ rfl rfl (Nat.le_of_ble_eq_true rfl) ⟨⟨by decide, by decide⟩, by decide, by decide⟩ (fun I13 L14 eI13 eL14 => ?_)
    replace eI13 := eI13.symm; subst eI13
    replace eL14 := eL14.symm; subst eL14
    refine x_astore_n 32 C [(3, .ref (o + 75 + 11 + 3 * k)), (0, .ref o), (1, .int (nI k)), (2, .int (nI 1))] dX11_path_32 rfl (by decide) rfl ?_
    refine x_iload_n 33 C dX11_path_33 rfl 3 rfl ?_
    refine x_tsIn 34 C 101 dX11_path_34 (v := 1) rfl (by decide) (by decide) rfl (by decide) ?_
    refine x_aload_n 101 C dX11_path_101 rfl 0 rfl ?_
    refine x_geti 102 C dX11_path_102 ff_X11_137 (hW.2.2.2.1.2.2.2.2 k (by omega)).1 ?_
    refine x_iret 105 C dX11_path_105 rfl rfl (Nat.le_refl _) (xN.intro ?_)
    exact ⟨rfl, rfl, rfl⟩
  · skip
    refine x_aload_n 0 C dX11_path_0 rfl 0 rfl ?_
    refine x_getr 1 C (b := o + 75) dX11_path_1 ff_X11_26 rfl hW.1 rfl ?_
    refine x_iload_n 4 C dX11_path_4 rfl 1 rfl ?_
    refine x_callVe 5 C dX11_path_5 (As := [.int (nI k)]) (rest := []) [.int 1] (t_X9_hasPath_k l D z n G I L (o + 75) k U hW.2.2.2.1 (by first | assumption | omega | decide) (by first | omega | assumption | decide) (by first | omega | assumption | decide)) mt_X9_hasPath km_X11_98 ki_X9_hasPath ks_X9_hasPath hW.2.2.2.1.1 ⟨by decide, rfl⟩ rfl rfl (Nat.le_of_ble_eq_true rfl) ⟨⟨by decide, by decide⟩, by decide, by decide⟩ (fun I15 L16 eI15 eL16 => ?_)
    replace eI15 := eI15.symm; subst eI15
    replace eL16 := eL16.symm; subst eL16
    refine x_if_eq 8 C 21 dX11_path_8 (by decide) (fun c17 => absurd c17 (by decide)) (fun _ => ?_)
    refine x_iload_n 11 C dX11_path_11 rfl 2 rfl ?_
    refine x_if_lt 12 C 21 dX11_path_12 (by decide) (fun c18 => absurd c18 (by decide)) (fun _ => ?_)
    refine x_iload_n 15 C dX11_path_15 rfl 2 rfl ?_
    refine x_bipush 16 C (v := 11) dX11_path_16 rfl ?_
    refine x_icmp_le 18 C 24 dX11_path_18 (by decide) (fun _ => ?_) (fun c19 => absurd (by decide) c19)
    refine x_aload_n 24 C dX11_path_24 rfl 0 rfl ?_
    refine x_getr 25 C (b := o + 75) dX11_path_25 ff_X11_26 rfl hW.1 rfl ?_
    refine x_iload_n 28 C dX11_path_28 rfl 1 rfl ?_
    refine x_callVe 29 C dX11_path_29 (As := [.int (nI k)]) (rest := []) [.ref (o + 75 + 11 + 3 * k)] (t_X9_pathAt l D z n G I L (o + 75) k U hW.2.2.2.1 (by first | assumption | omega | decide) (by first | omega | assumption | decide) (by first | omega | assumption | decide)) mt_X9_pathAt km_X11_101 ki_X9_pathAt ks_X9_pathAt hW.2.2.2.1.1 ⟨by decide, rfl⟩ rfl rfl (Nat.le_of_ble_eq_true rfl) ⟨⟨by decide, by decide⟩, by decide, by decide⟩ (fun I20 L21 eI20 eL21 => ?_)
    replace eI20 := eI20.symm; subst eI20
    replace eL21 := eL21.symm; subst eL21
    refine x_astore_n 32 C [(3, .ref (o + 75 + 11 + 3 * k)), (0, .ref o), (1, .int (nI k)), (2, .int (nI 2))] dX11_path_32 rfl (by decide) rfl ?_
    refine x_iload_n 33 C dX11_path_33 rfl 3 rfl ?_
    refine x_tsIn 34 C 106 dX11_path_34 (v := 2) rfl (by decide) (by decide) rfl (by decide) ?_
    refine x_aload_n 106 C dX11_path_106 rfl 0 rfl ?_
    refine x_geti 107 C dX11_path_107 ff_X11_140 (hW.2.2.2.1.2.2.2.2 k (by omega)).1 ?_
    refine x_iret 110 C dX11_path_110 rfl rfl (Nat.le_refl _) (xN.intro ?_)
    exact ⟨rfl, rfl, rfl⟩
  · skip
    refine x_aload_n 0 C dX11_path_0 rfl 0 rfl ?_
    refine x_getr 1 C (b := o + 75) dX11_path_1 ff_X11_26 rfl hW.1 rfl ?_
    refine x_iload_n 4 C dX11_path_4 rfl 1 rfl ?_
    refine x_callVe 5 C dX11_path_5 (As := [.int (nI k)]) (rest := []) [.int 1] (t_X9_hasPath_k l D z n G I L (o + 75) k U hW.2.2.2.1 (by first | assumption | omega | decide) (by first | omega | assumption | decide) (by first | omega | assumption | decide)) mt_X9_hasPath km_X11_98 ki_X9_hasPath ks_X9_hasPath hW.2.2.2.1.1 ⟨by decide, rfl⟩ rfl rfl (Nat.le_of_ble_eq_true rfl) ⟨⟨by decide, by decide⟩, by decide, by decide⟩ (fun I22 L23 eI22 eL23 => ?_)
    replace eI22 := eI22.symm; subst eI22
    replace eL23 := eL23.symm; subst eL23
    refine x_if_eq 8 C 21 dX11_path_8 (by decide) (fun c24 => absurd c24 (by decide)) (fun _ => ?_)
    refine x_iload_n 11 C dX11_path_11 rfl 2 rfl ?_
    refine x_if_lt 12 C 21 dX11_path_12 (by decide) (fun c25 => absurd c25 (by decide)) (fun _ => ?_)
    refine x_iload_n 15 C dX11_path_15 rfl 2 rfl ?_
    refine x_bipush 16 C (v := 11) dX11_path_16 rfl ?_
    refine x_icmp_le 18 C 24 dX11_path_18 (by decide) (fun _ => ?_) (fun c26 => absurd (by decide) c26)
    refine x_aload_n 24 C dX11_path_24 rfl 0 rfl ?_
    refine x_getr 25 C (b := o + 75) dX11_path_25 ff_X11_26 rfl hW.1 rfl ?_
    refine x_iload_n 28 C dX11_path_28 rfl 1 rfl ?_
    refine x_callVe 29 C dX11_path_29 (As := [.int (nI k)]) (rest := []) [.ref (o + 75 + 11 + 3 * k)] (t_X9_pathAt l D z n G I L (o + 75) k U hW.2.2.2.1 (by first | assumption | omega | decide) (by first | omega | assumption | decide) (by first | omega | assumption | decide)) mt_X9_pathAt km_X11_101 ki_X9_pathAt ks_X9_pathAt hW.2.2.2.1.1 ⟨by decide, rfl⟩ rfl rfl (Nat.le_of_ble_eq_true rfl) ⟨⟨by decide, by decide⟩, by decide, by decide⟩ (fun I27 L28 eI27 eL28 => ?_)
    replace eI27 := eI27.symm; subst eI27
    replace eL28 := eL28.symm; subst eL28
    refine x_astore_n 32 C [(3, .ref (o + 75 + 11 + 3 * k)), (0, .ref o), (1, .int (nI k)), (2, .int (nI 3))] dX11_path_32 rfl (by decide) rfl ?_
    refine x_iload_n 33 C dX11_path_33 rfl 3 rfl ?_
    refine x_tsIn 34 C 111 dX11_path_34 (v := 3) rfl (by decide) (by decide) rfl (by decide) ?_
    refine x_aload_n 111 C dX11_path_111 rfl 0 rfl ?_
    refine x_geti 112 C dX11_path_112 ff_X11_143 (hW.2.2.2.1.2.2.2.2 k (by omega)).1 ?_
    refine x_iret 115 C dX11_path_115 rfl rfl (Nat.le_refl _) (xN.intro ?_)
    exact ⟨rfl, rfl, rfl⟩
  · skip
    refine x_aload_n 0 C dX11_path_0 rfl 0 rfl ?_
    refine x_getr 1 C (b := o + 75) dX11_path_1 ff_X11_26 rfl hW.1 rfl ?_
    refine x_iload_n 4 C dX11_path_4 rfl 1 rfl ?_
    refine x_callVe 5 C dX11_path_5 (As := [.int (nI k)]) (rest := []) [.int 1] (t_X9_hasPath_k l D z n G I L (o + 75) k U hW.2.2.2.1 (by first | assumption | omega | decide) (by first | omega | assumption | decide) (by first | omega | assumption | decide)) mt_X9_hasPath km_X11_98 ki_X9_hasPath ks_X9_hasPath hW.2.2.2.1.1 ⟨by decide, rfl⟩ rfl rfl (Nat.le_of_ble_eq_true rfl) ⟨⟨by decide, by decide⟩, by decide, by decide⟩ (fun I29 L30 eI29 eL30 => ?_)
    replace eI29 := eI29.symm; subst eI29
    replace eL30 := eL30.symm; subst eL30
    refine x_if_eq 8 C 21 dX11_path_8 (by decide) (fun c31 => absurd c31 (by decide)) (fun _ => ?_)
    refine x_iload_n 11 C dX11_path_11 rfl 2 rfl ?_
    refine x_if_lt 12 C 21 dX11_path_12 (by decide) (fun c32 => absurd c32 (by decide)) (fun _ => ?_)
    refine x_iload_n 15 C dX11_path_15 rfl 2 rfl ?_
    refine x_bipush 16 C (v := 11) dX11_path_16 rfl ?_
    refine x_icmp_le 18 C 24 dX11_path_18 (by decide) (fun _ => ?_) (fun c33 => absurd (by decide) c33)
    refine x_aload_n 24 C dX11_path_24 rfl 0 rfl ?_
    refine x_getr 25 C (b := o + 75) dX11_path_25 ff_X11_26 rfl hW.1 rfl ?_
    refine x_iload_n 28 C dX11_path_28 rfl 1 rfl ?_
    refine x_callVe 29 C dX11_path_29 (As := [.int (nI k)]) (rest := []) [.ref (o + 75 + 11 + 3 * k)] (t_X9_pathAt l D z n G I L (o + 75) k U hW.2.2.2.1 (by first | assumption | omega | decide) (by first | omega | assumption | decide) (by first | omega | assumption | decide)) mt_X9_pathAt km_X11_101 ki_X9_pathAt ks_X9_pathAt hW.2.2.2.1.1 ⟨by decide, rfl⟩ rfl rfl (Nat.le_of_ble_eq_true rfl) ⟨⟨by decide, by decide⟩, by decide, by decide⟩ (fun I34 L35 eI34 eL35 => ?_)
    replace eI34 := eI34.symm; subst eI34
    replace eL35 := eL35.symm; subst eL35
    refine x_astore_n 32 C [(3, .ref (o + 75 + 11 + 3 * k)), (0, .ref o), (1, .int (nI k)), (2, .int (nI 4))] dX11_path_32 rfl (by decide) rfl ?_
    refine x_iload_n 33 C dX11_path_33 rfl 3 rfl ?_
    refine x_tsIn 34 C 116 dX11_path_34 (v := 4) rfl (by decide) (by decide) rfl (by decide) ?_
    refine x_aload_n 116 C dX11_path_116 rfl 0 rfl ?_
    refine x_geti 117 C dX11_path_117 ff_X11_146 (hW.2.2.2.1.2.2.2.2 k (by omega)).1 ?_
    refine x_iret 120 C dX11_path_120 rfl rfl (Nat.le_refl _) (xN.intro ?_)
    exact ⟨rfl, rfl, rfl⟩
  · skip
    refine x_aload_n 0 C dX11_path_0 rfl 0 rfl ?_
    refine x_getr 1 C (b := o + 75) dX11_path_1 ff_X11_26 rfl hW.1 rfl ?_
    refine x_iload_n 4 C dX11_path_4 rfl 1 rfl ?_
    refine x_callVe 5 C dX11_path_5 (As := [.int (nI k)]) (rest := []) [.int 1] (t_X9_hasPath_k l D z n G I L (o + 75) k U hW.2.2.2.1 (by first | assumption | omega | decide) (by first | omega | assumption | decide) (by first | omega | assumption | decide)) mt_X9_hasPath km_X11_98 ki_X9_hasPath ks_X9_hasPath hW.2.2.2.1.1 ⟨by decide, rfl⟩ rfl rfl (Nat.le_of_ble_eq_true rfl) ⟨⟨by decide, by decide⟩, by decide, by decide⟩ (fun I36 L37 eI36 eL37 => ?_)
    replace eI36 := eI36.symm; subst eI36
    replace eL37 := eL37.symm; subst eL37
    refine x_if_eq 8 C 21 dX11_path_8 (by decide) (fun c38 => absurd c38 (by decide)) (fun _ => ?_)
    refine x_iload_n 11 C dX11_path_11 rfl 2 rfl ?_
    refine x_if_lt 12 C 21 dX11_path_12 (by decide) (fun c39 => absurd c39 (by decide)) (fun _ => ?_)
    refine x_iload_n 15 C dX11_path_15 rfl 2 rfl ?_
    refine x_bipush 16 C (v := 11) dX11_path_16 rfl ?_
    refine x_icmp_le 18 C 24 dX11_path_18 (by decide) (fun _ => ?_) (fun c40 => absurd (by decide) c40)
    refine x_aload_n 24 C dX11_path_24 rfl 0 rfl ?_
    refine x_getr 25 C (b := o + 75) dX11_path_25 ff_X11_26 rfl hW.1 rfl ?_
    refine x_iload_n 28 C dX11_path_28 rfl 1 rfl ?_
    refine x_callVe 29 C dX11_path_29 (As := [.int (nI k)]) (rest := []) [.ref (o + 75 + 11 + 3 * k)] (t_X9_pathAt l D z n G I L (o + 75) k U hW.2.2.2.1 (by first | assumption | omega | decide) (by first | omega | assumption | decide) (by first | omega | assumption | decide)) mt_X9_pathAt km_X11_101 ki_X9_pathAt ks_X9_pathAt hW.2.2.2.1.1 ⟨by decide, rfl⟩ rfl rfl (Nat.le_of_ble_eq_true rfl) ⟨⟨by decide, by decide⟩, by decide, by decide⟩ (fun I41 L42 eI41 eL42 => ?_)
    replace eI41 := eI41.symm; subst eI41
    replace eL42 := eL42.symm; subst eL42
    refine x_astore_n 32 C [(3, .ref (o + 75 + 11 + 3 * k)), (0, .ref o), (1, .int (nI k)), (2, .int (nI 5))] dX11_path_32 rfl (by decide) rfl ?_
    refine x_iload_n 33 C dX11_path_33 rfl 3 rfl ?_
    refine x_tsIn 34 C 121 dX11_path_34 (v := 5) rfl (by decide) (by decide) rfl (by decide) ?_
    refine x_aload_n 121 C dX11_path_121 rfl 0 rfl ?_
    refine x_geti 122 C dX11_path_122 ff_X11_149 (hW.2.2.2.1.2.2.2.2 k (by omega)).1 ?_
    refine x_iret 125 C dX11_path_125 rfl rfl (Nat.le_refl _) (xN.intro ?_)
    exact ⟨rfl, rfl, rfl⟩
  · skip
    refine x_aload_n 0 C dX11_path_0 rfl 0 rfl ?_
    refine x_getr 1 C (b := o + 75) dX11_path_1 ff_X11_26 rfl hW.1 rfl ?_
    refine x_iload_n 4 C dX11_path_4 rfl 1 rfl ?_
    refine x_callVe 5 C dX11_path_5 (As := [.int (nI k)]) (rest := []) [.int 1] (t_X9_hasPath_k l D z n G I L (o + 75) k U hW.2.2.2.1 (by first | assumption | omega | decide) (by first | omega | assumption | decide) (by first | omega | assumption | decide)) mt_X9_hasPath km_X11_98 ki_X9_hasPath ks_X9_hasPath hW.2.2.2.1.1 ⟨by decide, rfl⟩ rfl rfl (Nat.le_of_ble_eq_true rfl) ⟨⟨by decide, by decide⟩, by decide, by decide⟩ (fun I43 L44 eI43 eL44 => ?_)
    replace eI43 := eI43.symm; subst eI43
    replace eL44 := eL44.symm; subst eL44
    refine x_if_eq 8 C 21 dX11_path_8 (by decide) (fun c45 => absurd c45 (by decide)) (fun _ => ?_)
    refine x_iload_n 11 C dX11_path_11 rfl 2 rfl ?_
    refine x_if_lt 12 C 21 dX11_path_12 (by decide) (fun c46 => absurd c46 (by decide)) (fun _ => ?_)
    refine x_iload_n 15 C dX11_path_15 rfl 2 rfl ?_
    refine x_bipush 16 C (v := 11) dX11_path_16 rfl ?_
    refine x_icmp_le 18 C 24 dX11_path_18 (by decide) (fun _ => ?_) (fun c47 => absurd (by decide) c47)
    refine x_aload_n 24 C dX11_path_24 rfl 0 rfl ?_
    refine x_getr 25 C (b := o + 75) dX11_path_25 ff_X11_26 rfl hW.1 rfl ?_
    refine x_iload_n 28 C dX11_path_28 rfl 1 rfl ?_
    refine x_callVe 29 C dX11_path_29 (As := [.int (nI k)]) (rest := []) [.ref (o + 75 + 11 + 3 * k)] (t_X9_pathAt l D z n G I L (o + 75) k U hW.2.2.2.1 (by first | assumption | omega | decide) (by first | omega | assumption | decide) (by first | omega | assumption | decide)) mt_X9_pathAt km_X11_101 ki_X9_pathAt ks_X9_pathAt hW.2.2.2.1.1 ⟨by decide, rfl⟩ rfl rfl (Nat.le_of_ble_eq_true rfl) ⟨⟨by decide, by decide⟩, by decide, by decide⟩ (fun I48 L49 eI48 eL49 => ?_)
    replace eI48 := eI48.symm; subst eI48
    replace eL49 := eL49.symm; subst eL49
    refine x_astore_n 32 C [(3, .ref (o + 75 + 11 + 3 * k)), (0, .ref o), (1, .int (nI k)), (2, .int (nI 6))] dX11_path_32 rfl (by decide) rfl ?_
    refine x_iload_n 33 C dX11_path_33 rfl 3 rfl ?_
    refine x_tsIn 34 C 126 dX11_path_34 (v := 6) rfl (by decide) (by decide) rfl (by decide) ?_
    refine x_aload_n 126 C dX11_path_126 rfl 0 rfl ?_
    refine x_geti 127 C dX11_path_127 ff_X11_125 (hW.2.2.2.1.2.2.2.2 k (by omega)).1 ?_
    refine x_iret 130 C dX11_path_130 rfl rfl (Nat.le_refl _) (xN.intro ?_)
    exact ⟨rfl, rfl, rfl⟩
  · skip
    refine x_aload_n 0 C dX11_path_0 rfl 0 rfl ?_
    refine x_getr 1 C (b := o + 75) dX11_path_1 ff_X11_26 rfl hW.1 rfl ?_
    refine x_iload_n 4 C dX11_path_4 rfl 1 rfl ?_
    refine x_callVe 5 C dX11_path_5 (As := [.int (nI k)]) (rest := []) [.int 1] (t_X9_hasPath_k l D z n G I L (o + 75) k U hW.2.2.2.1 (by first | assumption | omega | decide) (by first | omega | assumption | decide) (by first | omega | assumption | decide)) mt_X9_hasPath km_X11_98 ki_X9_hasPath ks_X9_hasPath hW.2.2.2.1.1 ⟨by decide, rfl⟩ rfl rfl (Nat.le_of_ble_eq_true rfl) ⟨⟨by decide, by decide⟩, by decide, by decide⟩ (fun I50 L51 eI50 eL51 => ?_)
    replace eI50 := eI50.symm; subst eI50
    replace eL51 := eL51.symm; subst eL51
    refine x_if_eq 8 C 21 dX11_path_8 (by decide) (fun c52 => absurd c52 (by decide)) (fun _ => ?_)
    refine x_iload_n 11 C dX11_path_11 rfl 2 rfl ?_
    refine x_if_lt 12 C 21 dX11_path_12 (by decide) (fun c53 => absurd c53 (by decide)) (fun _ => ?_)
    refine x_iload_n 15 C dX11_path_15 rfl 2 rfl ?_
    refine x_bipush 16 C (v := 11) dX11_path_16 rfl ?_
    refine x_icmp_le 18 C 24 dX11_path_18 (by decide) (fun _ => ?_) (fun c54 => absurd (by decide) c54)
    refine x_aload_n 24 C dX11_path_24 rfl 0 rfl ?_
    refine x_getr 25 C (b := o + 75) dX11_path_25 ff_X11_26 rfl hW.1 rfl ?_
    refine x_iload_n 28 C dX11_path_28 rfl 1 rfl ?_
    refine x_callVe 29 C dX11_path_29 (As := [.int (nI k)]) (rest := []) [.ref (o + 75 + 11 + 3 * k)] (t_X9_pathAt l D z n G I L (o + 75) k U hW.2.2.2.1 (by first | assumption | omega | decide) (by first | omega | assumption | decide) (by first | omega | assumption | decide)) mt_X9_pathAt km_X11_101 ki_X9_pathAt ks_X9_pathAt hW.2.2.2.1.1 ⟨by decide, rfl⟩ rfl rfl (Nat.le_of_ble_eq_true rfl) ⟨⟨by decide, by decide⟩, by decide, by decide⟩ (fun I55 L56 eI55 eL56 => ?_)
    replace eI55 := eI55.symm; subst eI55
    replace eL56 := eL56.symm; subst eL56
    refine x_astore_n 32 C [(3, .ref (o + 75 + 11 + 3 * k)), (0, .ref o), (1, .int (nI k)), (2, .int (nI 7))] dX11_path_32 rfl (by decide) rfl ?_
    refine x_iload_n 33 C dX11_path_33 rfl 3 rfl ?_
    refine x_tsIn 34 C 151 dX11_path_34 (v := 7) rfl (by decide) (by decide) rfl (by decide) ?_
    refine x_aload_n 151 C dX11_path_151 rfl 0 rfl ?_
    refine x_iload_n 152 C dX11_path_152 rfl 3 rfl ?_
    refine x_bipush 153 C (v := 7) dX11_path_153 rfl ?_
    refine x_isub 155 C dX11_path_155 ?_
    refine x_int 0 (by decide) ?_
    refine x_callVe 156 C dX11_path_156 (As := [.int 0]) (rest := []) [.int (ppart I L (o + 75 + 11 + 3 * k) 0)] (t_X6_part l D z n G I L (o + 75 + 11 + 3 * k) 0 (hW.2.2.2.1.2.2.2.2 k (by omega)) (by first | omega | assumption | decide)) mt_X6_part km_X11_156 ki_X6_part ks_X6_part (hW.2.2.2.1.2.2.2.2 k (by omega)).1 ⟨by decide, rfl⟩ rfl rfl (Nat.le_of_ble_eq_true rfl) ⟨⟨by decide, by decide⟩, by decide, by decide⟩ (fun I57 L58 eI57 eL58 => ?_)
    replace eI57 := eI57.symm; subst eI57
    replace eL58 := eL58.symm; subst eL58
    refine x_iret 159 C dX11_path_159 rfl rfl (Nat.le_refl _) (xN.intro ?_)
    exact ⟨rfl, rfl, rfl⟩
  · skip
    refine x_aload_n 0 C dX11_path_0 rfl 0 rfl ?_
    refine x_getr 1 C (b := o + 75) dX11_path_1 ff_X11_26 rfl hW.1 rfl ?_
    refine x_iload_n 4 C dX11_path_4 rfl 1 rfl ?_
    refine x_callVe 5 C dX11_path_5 (As := [.int (nI k)]) (rest := []) [.int 1] (t_X9_hasPath_k l D z n G I L (o + 75) k U hW.2.2.2.1 (by first | assumption | omega | decide) (by first | omega | assumption | decide) (by first | omega | assumption | decide)) mt_X9_hasPath km_X11_98 ki_X9_hasPath ks_X9_hasPath hW.2.2.2.1.1 ⟨by decide, rfl⟩ rfl rfl (Nat.le_of_ble_eq_true rfl) ⟨⟨by decide, by decide⟩, by decide, by decide⟩ (fun I59 L60 eI59 eL60 => ?_)
    replace eI59 := eI59.symm; subst eI59
    replace eL60 := eL60.symm; subst eL60
    refine x_if_eq 8 C 21 dX11_path_8 (by decide) (fun c61 => absurd c61 (by decide)) (fun _ => ?_)
    refine x_iload_n 11 C dX11_path_11 rfl 2 rfl ?_
    refine x_if_lt 12 C 21 dX11_path_12 (by decide) (fun c62 => absurd c62 (by decide)) (fun _ => ?_)
    refine x_iload_n 15 C dX11_path_15 rfl 2 rfl ?_
    refine x_bipush 16 C (v := 11) dX11_path_16 rfl ?_
    refine x_icmp_le 18 C 24 dX11_path_18 (by decide) (fun _ => ?_) (fun c63 => absurd (by decide) c63)
    refine x_aload_n 24 C dX11_path_24 rfl 0 rfl ?_
    refine x_getr 25 C (b := o + 75) dX11_path_25 ff_X11_26 rfl hW.1 rfl ?_
    refine x_iload_n 28 C dX11_path_28 rfl 1 rfl ?_
    refine x_callVe 29 C dX11_path_29 (As := [.int (nI k)]) (rest := []) [.ref (o + 75 + 11 + 3 * k)] (t_X9_pathAt l D z n G I L (o + 75) k U hW.2.2.2.1 (by first | assumption | omega | decide) (by first | omega | assumption | decide) (by first | omega | assumption | decide)) mt_X9_pathAt km_X11_101 ki_X9_pathAt ks_X9_pathAt hW.2.2.2.1.1 ⟨by decide, rfl⟩ rfl rfl (Nat.le_of_ble_eq_true rfl) ⟨⟨by decide, by decide⟩, by decide, by decide⟩ (fun I64 L65 eI64 eL65 => ?_)
    replace eI64 := eI64.symm; subst eI64
    replace eL65 := eL65.symm; subst eL65
    refine x_astore_n 32 C [(3, .ref (o + 75 + 11 + 3 * k)), (0, .ref o), (1, .int (nI k)), (2, .int (nI 8))] dX11_path_32 rfl (by decide) rfl ?_
    refine x_iload_n 33 C dX11_path_33 rfl 3 rfl ?_
    refine x_tsIn 34 C 151 dX11_path_34 (v := 8) rfl (by decide) (by decide) rfl (by decide) ?_
    refine x_aload_n 151 C dX11_path_151 rfl 0 rfl ?_
    refine x_iload_n 152 C dX11_path_152 rfl 3 rfl ?_
    refine x_bipush 153 C (v := 7) dX11_path_153 rfl ?_
    refine x_isub 155 C dX11_path_155 ?_
    refine x_int 1 (by decide) ?_
    refine x_callVe 156 C dX11_path_156 (As := [.int 1]) (rest := []) [.int (ppart I L (o + 75 + 11 + 3 * k) 1)] (t_X6_part l D z n G I L (o + 75 + 11 + 3 * k) 1 (hW.2.2.2.1.2.2.2.2 k (by omega)) (by first | omega | assumption | decide)) mt_X6_part km_X11_156 ki_X6_part ks_X6_part (hW.2.2.2.1.2.2.2.2 k (by omega)).1 ⟨by decide, rfl⟩ rfl rfl (Nat.le_of_ble_eq_true rfl) ⟨⟨by decide, by decide⟩, by decide, by decide⟩ (fun I66 L67 eI66 eL67 => ?_)
    replace eI66 := eI66.symm; subst eI66
    replace eL67 := eL67.symm; subst eL67
    refine x_iret 159 C dX11_path_159 rfl rfl (Nat.le_refl _) (xN.intro ?_)
    exact ⟨rfl, rfl, rfl⟩
  · skip
    refine x_aload_n 0 C dX11_path_0 rfl 0 rfl ?_
    refine x_getr 1 C (b := o + 75) dX11_path_1 ff_X11_26 rfl hW.1 rfl ?_
    refine x_iload_n 4 C dX11_path_4 rfl 1 rfl ?_
    refine x_callVe 5 C dX11_path_5 (As := [.int (nI k)]) (rest := []) [.int 1] (t_X9_hasPath_k l D z n G I L (o + 75) k U hW.2.2.2.1 (by first | assumption | omega | decide) (by first | omega | assumption | decide) (by first | omega | assumption | decide)) mt_X9_hasPath km_X11_98 ki_X9_hasPath ks_X9_hasPath hW.2.2.2.1.1 ⟨by decide, rfl⟩ rfl rfl (Nat.le_of_ble_eq_true rfl) ⟨⟨by decide, by decide⟩, by decide, by decide⟩ (fun I68 L69 eI68 eL69 => ?_)
    replace eI68 := eI68.symm; subst eI68
    replace eL69 := eL69.symm; subst eL69
    refine x_if_eq 8 C 21 dX11_path_8 (by decide) (fun c70 => absurd c70 (by decide)) (fun _ => ?_)
    refine x_iload_n 11 C dX11_path_11 rfl 2 rfl ?_
    refine x_if_lt 12 C 21 dX11_path_12 (by decide) (fun c71 => absurd c71 (by decide)) (fun _ => ?_)
    refine x_iload_n 15 C dX11_path_15 rfl 2 rfl ?_
    refine x_bipush 16 C (v := 11) dX11_path_16 rfl ?_
    refine x_icmp_le 18 C 24 dX11_path_18 (by decide) (fun _ => ?_) (fun c72 => absurd (by decide) c72)
    refine x_aload_n 24 C dX11_path_24 rfl 0 rfl ?_
    refine x_getr 25 C (b := o + 75) dX11_path_25 ff_X11_26 rfl hW.1 rfl ?_
    refine x_iload_n 28 C dX11_path_28 rfl 1 rfl ?_
    refine x_callVe 29 C dX11_path_29 (As := [.int (nI k)]) (rest := []) [.ref (o + 75 + 11 + 3 * k)] (t_X9_pathAt l D z n G I L (o + 75) k U hW.2.2.2.1 (by first | assumption | omega | decide) (by first | omega | assumption | decide) (by first | omega | assumption | decide)) mt_X9_pathAt km_X11_101 ki_X9_pathAt ks_X9_pathAt hW.2.2.2.1.1 ⟨by decide, rfl⟩ rfl rfl (Nat.le_of_ble_eq_true rfl) ⟨⟨by decide, by decide⟩, by decide, by decide⟩ (fun I73 L74 eI73 eL74 => ?_)
    replace eI73 := eI73.symm; subst eI73
    replace eL74 := eL74.symm; subst eL74
    refine x_astore_n 32 C [(3, .ref (o + 75 + 11 + 3 * k)), (0, .ref o), (1, .int (nI k)), (2, .int (nI 9))] dX11_path_32 rfl (by decide) rfl ?_
    refine x_iload_n 33 C dX11_path_33 rfl 3 rfl ?_
    refine x_tsIn 34 C 151 dX11_path_34 (v := 9) rfl (by decide) (by decide) rfl (by decide) ?_
    refine x_aload_n 151 C dX11_path_151 rfl 0 rfl ?_
    refine x_iload_n 152 C dX11_path_152 rfl 3 rfl ?_
    refine x_bipush 153 C (v := 7) dX11_path_153 rfl ?_
    refine x_isub 155 C dX11_path_155 ?_
    refine x_int 2 (by decide) ?_
    refine x_callVe 156 C dX11_path_156 (As := [.int 2]) (rest := []) [.int (ppart I L (o + 75 + 11 + 3 * k) 2)] (t_X6_part l D z n G I L (o + 75 + 11 + 3 * k) 2 (hW.2.2.2.1.2.2.2.2 k (by omega)) (by first | omega | assumption | decide)) mt_X6_part km_X11_156 ki_X6_part ks_X6_part (hW.2.2.2.1.2.2.2.2 k (by omega)).1 ⟨by decide, rfl⟩ rfl rfl (Nat.le_of_ble_eq_true rfl) ⟨⟨by decide, by decide⟩, by decide, by decide⟩ (fun I75 L76 eI75 eL76 => ?_)
    replace eI75 := eI75.symm; subst eI75
    replace eL76 := eL76.symm; subst eL76
    refine x_iret 159 C dX11_path_159 rfl rfl (Nat.le_refl _) (xN.intro ?_)
    exact ⟨rfl, rfl, rfl⟩
  · skip
    refine x_aload_n 0 C dX11_path_0 rfl 0 rfl ?_
    refine x_getr 1 C (b := o + 75) dX11_path_1 ff_X11_26 rfl hW.1 rfl ?_
    refine x_iload_n 4 C dX11_path_4 rfl 1 rfl ?_
    refine x_callVe 5 C dX11_path_5 (As := [.int (nI k)]) (rest := []) [.int 1] (t_X9_hasPath_k l D z n G I L (o + 75) k U hW.2.2.2.1 (by first | assumption | omega | decide) (by first | omega | assumption | decide) (by first | omega | assumption | decide)) mt_X9_hasPath km_X11_98 ki_X9_hasPath ks_X9_hasPath hW.2.2.2.1.1 ⟨by decide, rfl⟩ rfl rfl (Nat.le_of_ble_eq_true rfl) ⟨⟨by decide, by decide⟩, by decide, by decide⟩ (fun I77 L78 eI77 eL78 => ?_)
    replace eI77 := eI77.symm; subst eI77
    replace eL78 := eL78.symm; subst eL78
    refine x_if_eq 8 C 21 dX11_path_8 (by decide) (fun c79 => absurd c79 (by decide)) (fun _ => ?_)
    refine x_iload_n 11 C dX11_path_11 rfl 2 rfl ?_
    refine x_if_lt 12 C 21 dX11_path_12 (by decide) (fun c80 => absurd c80 (by decide)) (fun _ => ?_)
    refine x_iload_n 15 C dX11_path_15 rfl 2 rfl ?_
    refine x_bipush 16 C (v := 11) dX11_path_16 rfl ?_
    refine x_icmp_le 18 C 24 dX11_path_18 (by decide) (fun _ => ?_) (fun c81 => absurd (by decide) c81)
    refine x_aload_n 24 C dX11_path_24 rfl 0 rfl ?_
    refine x_getr 25 C (b := o + 75) dX11_path_25 ff_X11_26 rfl hW.1 rfl ?_
    refine x_iload_n 28 C dX11_path_28 rfl 1 rfl ?_
    refine x_callVe 29 C dX11_path_29 (As := [.int (nI k)]) (rest := []) [.ref (o + 75 + 11 + 3 * k)] (t_X9_pathAt l D z n G I L (o + 75) k U hW.2.2.2.1 (by first | assumption | omega | decide) (by first | omega | assumption | decide) (by first | omega | assumption | decide)) mt_X9_pathAt km_X11_101 ki_X9_pathAt ks_X9_pathAt hW.2.2.2.1.1 ⟨by decide, rfl⟩ rfl rfl (Nat.le_of_ble_eq_true rfl) ⟨⟨by decide, by decide⟩, by decide, by decide⟩ (fun I82 L83 eI82 eL83 => ?_)
    replace eI82 := eI82.symm; subst eI82
    replace eL83 := eL83.symm; subst eL83
    refine x_astore_n 32 C [(3, .ref (o + 75 + 11 + 3 * k)), (0, .ref o), (1, .int (nI k)), (2, .int (nI 10))] dX11_path_32 rfl (by decide) rfl ?_
    refine x_iload_n 33 C dX11_path_33 rfl 3 rfl ?_
    refine x_tsIn 34 C 151 dX11_path_34 (v := 10) rfl (by decide) (by decide) rfl (by decide) ?_
    refine x_aload_n 151 C dX11_path_151 rfl 0 rfl ?_
    refine x_iload_n 152 C dX11_path_152 rfl 3 rfl ?_
    refine x_bipush 153 C (v := 7) dX11_path_153 rfl ?_
    refine x_isub 155 C dX11_path_155 ?_
    refine x_int 3 (by decide) ?_
    refine x_callVe 156 C dX11_path_156 (As := [.int 3]) (rest := []) [.int (ppart I L (o + 75 + 11 + 3 * k) 3)] (t_X6_part l D z n G I L (o + 75 + 11 + 3 * k) 3 (hW.2.2.2.1.2.2.2.2 k (by omega)) (by first | omega | assumption | decide)) mt_X6_part km_X11_156 ki_X6_part ks_X6_part (hW.2.2.2.1.2.2.2.2 k (by omega)).1 ⟨by decide, rfl⟩ rfl rfl (Nat.le_of_ble_eq_true rfl) ⟨⟨by decide, by decide⟩, by decide, by decide⟩ (fun I84 L85 eI84 eL85 => ?_)
    replace eI84 := eI84.symm; subst eI84
    replace eL85 := eL85.symm; subst eL85
    refine x_iret 159 C dX11_path_159 rfl rfl (Nat.le_refl _) (xN.intro ?_)
    exact ⟨rfl, rfl, rfl⟩
set_option maxHeartbeats 1000000 in
set_option maxRecDepth 100000 in
theorem t_X11_path_11 (l : Launch) (D : xD) (z n : Nat) (G : xG) (I : xI) (L : xL) (o : Nat) (k : Nat) (P : Nat) (U : Nat) (hW : shPT G o) (zo : z ≤ o) (hU : I (o + 75) 4 = nI U) (hU9 : U ≤ 9) (hk : k < U) (hd0 : 1 ≤ sdg I (o + 75) 0) (hd1 : 1 ≤ sdg I (o + 75) 1) (hP3 : I (o + 75 + 11 + 3 * k) 3 = nI P) (hP : P ≤ 1024) : xM0 l D z yX11_path cX11_path 4 (some .int) 6 133 [.ref o, .int (nI k), .int 11] n G I L (fun v' I' L' => v' = (some (.int (cthou (lmax (sizC (syE0 (yOf I (o + 75)) evV (rd L (o + 75 + 11 + 3 * k + 1)) (rd L (o + 75 + 11 + 3 * k + 2)) (punit (I (o + 75 + 11 + 3 * k) 6)))) (sizC (syE1 (yOf I (o + 75)) evV (rd L (o + 75 + 11 + 3 * k + 1)) (rd L (o + 75 + 11 + 3 * k + 2)) (punit (I (o + 75 + 11 + 3 * k) 6))))) (punit (I (o + 75 + 11 + 3 * k) 6))))) ∧ (∀ q, (q < o + 7 ∨ o + 75 ≤ q) → I' q = I q) ∧ (∀ q, (q < o + 7 ∨ o + 75 ≤ q) → L' q = L q)) := by
  refine xM.of (by decide) (Nat.le_of_ble_eq_true rfl) (fun p e s m args below meth c C hnm hsz => ?_)
  refine x_lv [(0, .ref o), (1, .int (nI k)), (2, .int 11)] rfl ?_
  refine x_aload_n 0 C dX11_path_0 rfl 0 rfl ?_
  refine x_getr 1 C (b := o + 75) dX11_path_1 ff_X11_26 rfl hW.1 rfl ?_
  refine x_iload_n 4 C dX11_path_4 rfl 1 rfl ?_
  refine x_callVe 5 C dX11_path_5 (As := [.int (nI k)]) (rest := []) [.int 1] (t_X9_hasPath_k l D z n G I L (o + 75) k U hW.2.2.2.1 (by first | assumption | omega | decide) (by first | omega | assumption | decide) (by first | omega | assumption | decide)) mt_X9_hasPath km_X11_98 ki_X9_hasPath ks_X9_hasPath hW.2.2.2.1.1 ⟨by decide, rfl⟩ rfl rfl (Nat.le_of_ble_eq_true rfl) ⟨⟨by decide, by decide⟩, by decide, by decide⟩ (fun I1 L2 eI1 eL2 => ?_)
  replace eI1 := eI1.symm; subst eI1
  replace eL2 := eL2.symm; subst eL2
  refine x_if_eq 8 C 21 dX11_path_8 (by decide) (fun c3 => absurd c3 (by decide)) (fun _ => ?_)
  refine x_iload_n 11 C dX11_path_11 rfl 2 rfl ?_
  refine x_if_lt 12 C 21 dX11_path_12 (by decide) (fun c4 => absurd c4 (by decide)) (fun _ => ?_)
  refine x_iload_n 15 C dX11_path_15 rfl 2 rfl ?_
  refine x_bipush 16 C (v := 11) dX11_path_16 rfl ?_
  refine x_icmp_le 18 C 24 dX11_path_18 (by decide) (fun _ => ?_) (fun c5 => absurd (by decide) c5)
  refine x_aload_n 24 C dX11_path_24 rfl 0 rfl ?_
  refine x_getr 25 C (b := o + 75) dX11_path_25 ff_X11_26 rfl hW.1 rfl ?_
  refine x_iload_n 28 C dX11_path_28 rfl 1 rfl ?_
  refine x_callVe 29 C dX11_path_29 (As := [.int (nI k)]) (rest := []) [.ref (o + 75 + 11 + 3 * k)] (t_X9_pathAt l D z n G I L (o + 75) k U hW.2.2.2.1 (by first | assumption | omega | decide) (by first | omega | assumption | decide) (by first | omega | assumption | decide)) mt_X9_pathAt km_X11_101 ki_X9_pathAt ks_X9_pathAt hW.2.2.2.1.1 ⟨by decide, rfl⟩ rfl rfl (Nat.le_of_ble_eq_true rfl) ⟨⟨by decide, by decide⟩, by decide, by decide⟩ (fun I6 L7 eI6 eL7 => ?_)
  replace eI6 := eI6.symm; subst eI6
  replace eL7 := eL7.symm; subst eL7
  refine x_astore_n 32 C [(3, .ref (o + 75 + 11 + 3 * k)), (0, .ref o), (1, .int (nI k)), (2, .int 11)] dX11_path_32 rfl (by decide) rfl ?_
  refine x_iload_n 33 C dX11_path_33 rfl 3 rfl ?_
  refine x_tsIn 34 C 131 dX11_path_34 (v := 11) rfl (by decide) (by decide) rfl (by decide) ?_
  refine x_aload_n 131 C dX11_path_131 rfl 1 rfl ?_
  refine x_getr 132 C (b := o + 7) dX11_path_132 ff_X11_19 rfl hW.1 rfl ?_
  refine x_aload_n 135 C dX11_path_135 rfl 1 rfl ?_
  refine x_getr 136 C (b := o + 75) dX11_path_136 ff_X11_26 rfl hW.1 rfl ?_
  refine x_callVp 139 C dX11_path_139 (As := [.ref (o + 75)]) (rest := []) (t_X3_aim l D z n G I L (o + 7) (o + 75) hW.2.2.1 hW.2.2.2.1 (by omega) (by first | omega | assumption | decide) (by first | omega | assumption | decide) (by first | omega | assumption | decide)) mt_X3_aim km_X11_111 ki_X3_aim ks_X3_aim hW.2.2.1.1 ⟨by decide, rfl⟩ rfl (Nat.le_of_ble_eq_true rfl) ⟨⟨by decide, by decide⟩, by decide, by decide⟩ (fun w8 I9 L10 hw8 => ?_)
  obtain ⟨hw8v, eL10, hw8r0, hw8r1, hw8r2⟩ := hw8
  subst hw8v
  refine x_st [] rfl ?_
  replace eL10 := eL10.symm; subst eL10
  have hAy : aimedS I9 (o + 7 + 1) (yOf I (o + 75)) := hw8r0
  have hfr := hw8r2
  have hst4 := hw8r1
  have hfa : I9 (o + 75 + 11 + 3 * k) = I (o + 75 + 11 + 3 * k) := hfr _ (by omega)
  refine x_aload_n 142 C dX11_path_142 rfl 1 rfl ?_
  refine x_getr 143 C (b := o + 7) dX11_path_143 ff_X11_19 rfl hW.1 rfl ?_
  refine x_aload_n 146 C dX11_path_146 rfl 0 rfl ?_
  refine x_callVp 147 C dX11_path_147 (As := [.ref (o + 75 + 11 + 3 * k)]) (rest := []) (t_X3_residue l D z n G I9 L (o + 7) (o + 75 + 11 + 3 * k) P (yOf I (o + 75)) hW.2.2.1 (by omega) (hW.2.2.2.1.2.2.2.2 k (by omega)) (by first | omega | assumption | decide) (by rw [hfa]; exact hP3) (by first | omega | assumption | decide) hAy) mt_X3_residue km_X11_152 ki_X3_residue ks_X3_residue hW.2.2.1.1 ⟨by decide, rfl⟩ rfl (Nat.le_of_ble_eq_true rfl) ⟨⟨by decide, by decide⟩, by decide, by decide⟩ (fun w11 I12 L13 hw11 => ?_)
  obtain ⟨hw11v, eI12, hw11r0⟩ := hw11
  subst hw11v
  refine x_st [.int (cthou (lmax (sizC (syE0 (yOf I (o + 75)) evV (rd L ((o + 75 + 11 + 3 * k) + 1)) (rd L ((o + 75 + 11 + 3 * k) + 2)) (punit (I9 (o + 75 + 11 + 3 * k) 6)))) (sizC (syE1 (yOf I (o + 75)) evV (rd L ((o + 75 + 11 + 3 * k) + 1)) (rd L ((o + 75 + 11 + 3 * k) + 2)) (punit (I9 (o + 75 + 11 + 3 * k) 6))))) (punit (I9 (o + 75 + 11 + 3 * k) 6)))] rfl ?_
  replace eI12 := eI12.symm; subst eI12
  refine x_iret 150 C dX11_path_150 rfl rfl (Nat.le_refl _) (xN.intro ?_)
  refine ⟨by rw [hfa], fun q hq => hfr q (by omega), fun q hq => hw11r0 q (by omega)⟩
set_option maxHeartbeats 1000000 in
set_option maxRecDepth 100000 in
theorem t_X11_path_bad (l : Launch) (D : xD) (z n : Nat) (G : xG) (I : xI) (L : xL) (o : Nat) (x : Int32) (w : Int32) (hW : shPT G o) (hbad : hasP I (o + 75) x = false ∨ ¬ (0 ≤ w ∧ w ≤ 11)) : xM0 l D z yX11_path cX11_path 4 (some .int) 6 133 [.ref o, .int x, .int w] n G I L (xE (some (.int (-2000000001))) I L) := by
  refine xM.of (by decide) (Nat.le_of_ble_eq_true rfl) (fun p e s m args below meth c C hnm hsz => ?_)
  refine x_lv [(0, .ref o), (1, .int x), (2, .int w)] rfl ?_
  refine x_aload_n 0 C dX11_path_0 rfl 0 rfl ?_
  refine x_getr 1 C (b := o + 75) dX11_path_1 ff_X11_26 rfl hW.1 rfl ?_
  refine x_iload_n 4 C dX11_path_4 rfl 1 rfl ?_
  refine x_callVe 5 C dX11_path_5 (As := [.int x]) (rest := []) [.int (bI (hasP I (o + 75) x))] (t_X9_hasPath l D z n G I L (o + 75) x hW.2.2.2.1) mt_X9_hasPath km_X11_98 ki_X9_hasPath ks_X9_hasPath hW.2.2.2.1.1 ⟨by decide, rfl⟩ rfl rfl (Nat.le_of_ble_eq_true rfl) ⟨⟨by decide, by decide⟩, by decide, by decide⟩ (fun I1 L2 eI1 eL2 => ?_)
  replace eI1 := eI1.symm; subst eI1
  replace eL2 := eL2.symm; subst eL2
  refine x_if_eq 8 C 21 dX11_path_8 (by decide) (fun c3 => ?_) (fun c3 => ?_)
  · skip
    refine x_ldc 21 C (-2000000001) dX11_path_21 kk_X11_48 ?_
    refine x_iret 23 C dX11_path_23 rfl rfl (Nat.le_refl _) (xN.intro ?_)
    exact ⟨rfl, rfl, rfl⟩
  · skip
    have hpp : _ := bI_n0.mp c3
    refine x_iload_n 11 C dX11_path_11 rfl 2 rfl ?_
    refine x_if_lt 12 C 21 dX11_path_12 (by decide) (fun c4 => ?_) (fun c4 => ?_)
    · skip
      have c4o := Int32.not_le.mpr c4
      refine x_ldc 21 C (-2000000001) dX11_path_21 kk_X11_48 ?_
      refine x_iret 23 C dX11_path_23 rfl rfl (Nat.le_refl _) (xN.intro ?_)
      exact ⟨rfl, rfl, rfl⟩
    · skip
      have c4o := Int32.not_lt.mp c4
      refine x_iload_n 15 C dX11_path_15 rfl 2 rfl ?_
      refine x_bipush 16 C (v := 11) dX11_path_16 rfl ?_
      refine x_icmp_le 18 C 24 dX11_path_18 (by decide) (fun c5 => ?_) (fun c5 => ?_)
      · skip
        have c5o := Int32.not_lt.mpr c5
        exact absurd hbad (fun h => h.elim (fun h => by rw [hpp] at h; exact absurd h (by decide)) (fun h => h ⟨by assumption, by assumption⟩))
      · skip
        have c5o := Int32.not_le.mp c5
        refine x_ldc 21 C (-2000000001) dX11_path_21 kk_X11_48 ?_
        refine x_iret 23 C dX11_path_23 rfl rfl (Nat.le_refl _) (xN.intro ?_)
        exact ⟨rfl, rfl, rfl⟩
