/-! Equation.evaluate: value and slopes at a point whose powers stand in w, into the Tangent t -/
theorem evV_congr {cr ci cr' ci' : Nat → Int32} {pw pw' : Nat → xC} (h1 : ∀ k, k < 10 → cr k = cr' k) (h2 : ∀ k, k < 10 → ci k = ci' k) (h3 : ∀ k, k < 10 → pw k = pw' k) : ∀ k, k ≤ 10 → evV cr ci pw k = evV cr' ci' pw' k
  | 0, _ => rfl
  | k + 1, h => by
    simp only [evV]
    rw [evV_congr h1 h2 h3 k (by omega), h1 k (by omega), h2 k (by omega), h3 k (by omega)]
theorem evX_congr {cr ci cr' ci' : Nat → Int32} {pw pw' : Nat → xC} (h1 : ∀ k, k < 10 → cr k = cr' k) (h2 : ∀ k, k < 10 → ci k = ci' k) (h3 : ∀ k, k < 10 → pw k = pw' k) : ∀ k, k ≤ 10 → evX cr ci pw k = evX cr' ci' pw' k
  | 0, _ => rfl
  | k + 1, h => by
    have hxy := tXY k
    simp only [evX]
    rw [evX_congr h1 h2 h3 k (by omega), h1 k (by omega), h2 k (by omega), h3 _ (tm_lt (show tX k - 1 + tY k ≤ 3 by omega))]
theorem evY_congr {cr ci cr' ci' : Nat → Int32} {pw pw' : Nat → xC} (h1 : ∀ k, k < 10 → cr k = cr' k) (h2 : ∀ k, k < 10 → ci k = ci' k) (h3 : ∀ k, k < 10 → pw k = pw' k) : ∀ k, k ≤ 10 → evY cr ci pw k = evY cr' ci' pw' k
  | 0, _ => rfl
  | k + 1, h => by
    have hxy := tXY k
    simp only [evY]
    rw [evY_congr h1 h2 h3 k (by omega), h1 k (by omega), h2 k (by omega), h3 _ (tm_lt (show tX k + (tY k - 1) ≤ 3 by omega))]
theorem dX1_evaluate_0 : decode cX1_evaluate 0 = .ok (.aload_n 2, 1) := by decide +kernel
theorem dX1_evaluate_1 : decode cX1_evaluate 1 = .ok (.invokevirtual 55, 3) := by decide +kernel
theorem dX1_evaluate_4 : decode cX1_evaluate 4 = .ok (.iconst 0, 1) := by decide +kernel
theorem dX1_evaluate_5 : decode cX1_evaluate 5 = .ok (.istore_n 3, 1) := by decide +kernel
theorem dX1_evaluate_6 : decode cX1_evaluate 6 = .ok (.iload_n 3, 1) := by decide +kernel
theorem dX1_evaluate_7 : decode cX1_evaluate 7 = .ok (.bipush 10, 2) := by decide +kernel
theorem dX1_evaluate_9 : decode cX1_evaluate 9 = .ok (.if_icmp .ge 193, 3) := by decide +kernel
theorem dX1_evaluate_12 : decode cX1_evaluate 12 = .ok (.aload_n 0, 1) := by decide +kernel
theorem dX1_evaluate_13 : decode cX1_evaluate 13 = .ok (.getfield 9, 3) := by decide +kernel
theorem dX1_evaluate_16 : decode cX1_evaluate 16 = .ok (.iload_n 3, 1) := by decide +kernel
theorem dX1_evaluate_17 : decode cX1_evaluate 17 = .ok (.iaload, 1) := by decide +kernel
theorem dX1_evaluate_18 : decode cX1_evaluate 18 = .ok (.ifCond .ne 15, 3) := by decide +kernel
theorem dX1_evaluate_21 : decode cX1_evaluate 21 = .ok (.aload_n 0, 1) := by decide +kernel
theorem dX1_evaluate_22 : decode cX1_evaluate 22 = .ok (.getfield 13, 3) := by decide +kernel
theorem dX1_evaluate_25 : decode cX1_evaluate 25 = .ok (.iload_n 3, 1) := by decide +kernel
theorem dX1_evaluate_26 : decode cX1_evaluate 26 = .ok (.iaload, 1) := by decide +kernel
theorem dX1_evaluate_27 : decode cX1_evaluate 27 = .ok (.ifCond .ne 6, 3) := by decide +kernel
theorem dX1_evaluate_30 : decode cX1_evaluate 30 = .ok (.goto 166, 3) := by decide +kernel
theorem dX1_evaluate_33 : decode cX1_evaluate 33 = .ok (.getstatic 49, 3) := by decide +kernel
theorem dX1_evaluate_36 : decode cX1_evaluate 36 = .ok (.iload_n 3, 1) := by decide +kernel
theorem dX1_evaluate_37 : decode cX1_evaluate 37 = .ok (.iaload, 1) := by decide +kernel
theorem dX1_evaluate_38 : decode cX1_evaluate 38 = .ok (.istore 4, 2) := by decide +kernel
theorem dX1_evaluate_40 : decode cX1_evaluate 40 = .ok (.getstatic 52, 3) := by decide +kernel
theorem dX1_evaluate_43 : decode cX1_evaluate 43 = .ok (.iload_n 3, 1) := by decide +kernel
theorem dX1_evaluate_44 : decode cX1_evaluate 44 = .ok (.iaload, 1) := by decide +kernel
theorem dX1_evaluate_45 : decode cX1_evaluate 45 = .ok (.istore 5, 2) := by decide +kernel
theorem dX1_evaluate_47 : decode cX1_evaluate 47 = .ok (.aload_n 0, 1) := by decide +kernel
theorem dX1_evaluate_48 : decode cX1_evaluate 48 = .ok (.getfield 19, 3) := by decide +kernel
theorem dX1_evaluate_51 : decode cX1_evaluate 51 = .ok (.aload_n 1, 1) := by decide +kernel
theorem dX1_evaluate_52 : decode cX1_evaluate 52 = .ok (.iload_n 3, 1) := by decide +kernel
theorem dX1_evaluate_53 : decode cX1_evaluate 53 = .ok (.invokevirtual 58, 3) := by decide +kernel
theorem dX1_evaluate_56 : decode cX1_evaluate 56 = .ok (.aload_n 0, 1) := by decide +kernel
theorem dX1_evaluate_57 : decode cX1_evaluate 57 = .ok (.getfield 9, 3) := by decide +kernel
theorem dX1_evaluate_60 : decode cX1_evaluate 60 = .ok (.iload_n 3, 1) := by decide +kernel
theorem dX1_evaluate_61 : decode cX1_evaluate 61 = .ok (.iaload, 1) := by decide +kernel
theorem dX1_evaluate_62 : decode cX1_evaluate 62 = .ok (.i2l, 1) := by decide +kernel
theorem dX1_evaluate_63 : decode cX1_evaluate 63 = .ok (.aload_n 0, 1) := by decide +kernel
theorem dX1_evaluate_64 : decode cX1_evaluate 64 = .ok (.getfield 13, 3) := by decide +kernel
theorem dX1_evaluate_67 : decode cX1_evaluate 67 = .ok (.iload_n 3, 1) := by decide +kernel
theorem dX1_evaluate_68 : decode cX1_evaluate 68 = .ok (.iaload, 1) := by decide +kernel
theorem dX1_evaluate_69 : decode cX1_evaluate 69 = .ok (.i2l, 1) := by decide +kernel
theorem dX1_evaluate_70 : decode cX1_evaluate 70 = .ok (.invokevirtual 64, 3) := by decide +kernel
theorem dX1_evaluate_73 : decode cX1_evaluate 73 = .ok (.aload_n 2, 1) := by decide +kernel
theorem dX1_evaluate_74 : decode cX1_evaluate 74 = .ok (.getfield 68, 3) := by decide +kernel
theorem dX1_evaluate_77 : decode cX1_evaluate 77 = .ok (.aload_n 0, 1) := by decide +kernel
theorem dX1_evaluate_78 : decode cX1_evaluate 78 = .ok (.getfield 19, 3) := by decide +kernel
theorem dX1_evaluate_81 : decode cX1_evaluate 81 = .ok (.invokevirtual 71, 3) := by decide +kernel
theorem dX1_evaluate_84 : decode cX1_evaluate 84 = .ok (.iload 4, 2) := by decide +kernel
theorem dX1_evaluate_86 : decode cX1_evaluate 86 = .ok (.ifCond .le 54, 3) := by decide +kernel
theorem dX1_evaluate_89 : decode cX1_evaluate 89 = .ok (.aload_n 0, 1) := by decide +kernel
theorem dX1_evaluate_90 : decode cX1_evaluate 90 = .ok (.getfield 19, 3) := by decide +kernel
theorem dX1_evaluate_93 : decode cX1_evaluate 93 = .ok (.aload_n 1, 1) := by decide +kernel
theorem dX1_evaluate_94 : decode cX1_evaluate 94 = .ok (.iload 4, 2) := by decide +kernel
theorem dX1_evaluate_96 : decode cX1_evaluate 96 = .ok (.iconst 1, 1) := by decide +kernel
theorem dX1_evaluate_97 : decode cX1_evaluate 97 = .ok (.isub, 1) := by decide +kernel
theorem dX1_evaluate_98 : decode cX1_evaluate 98 = .ok (.iload 5, 2) := by decide +kernel
theorem dX1_evaluate_100 : decode cX1_evaluate 100 = .ok (.invokestatic 35, 3) := by decide +kernel
theorem dX1_evaluate_103 : decode cX1_evaluate 103 = .ok (.invokevirtual 58, 3) := by decide +kernel
theorem dX1_evaluate_106 : decode cX1_evaluate 106 = .ok (.iload 4, 2) := by decide +kernel
theorem dX1_evaluate_108 : decode cX1_evaluate 108 = .ok (.aload_n 0, 1) := by decide +kernel
theorem dX1_evaluate_109 : decode cX1_evaluate 109 = .ok (.getfield 9, 3) := by decide +kernel
theorem dX1_evaluate_112 : decode cX1_evaluate 112 = .ok (.iload_n 3, 1) := by decide +kernel
theorem dX1_evaluate_113 : decode cX1_evaluate 113 = .ok (.iaload, 1) := by decide +kernel
theorem dX1_evaluate_114 : decode cX1_evaluate 114 = .ok (.imul, 1) := by decide +kernel
theorem dX1_evaluate_115 : decode cX1_evaluate 115 = .ok (.i2l, 1) := by decide +kernel
theorem dX1_evaluate_116 : decode cX1_evaluate 116 = .ok (.iload 4, 2) := by decide +kernel
theorem dX1_evaluate_118 : decode cX1_evaluate 118 = .ok (.aload_n 0, 1) := by decide +kernel
theorem dX1_evaluate_119 : decode cX1_evaluate 119 = .ok (.getfield 13, 3) := by decide +kernel
theorem dX1_evaluate_122 : decode cX1_evaluate 122 = .ok (.iload_n 3, 1) := by decide +kernel
theorem dX1_evaluate_123 : decode cX1_evaluate 123 = .ok (.iaload, 1) := by decide +kernel
theorem dX1_evaluate_124 : decode cX1_evaluate 124 = .ok (.imul, 1) := by decide +kernel
theorem dX1_evaluate_125 : decode cX1_evaluate 125 = .ok (.i2l, 1) := by decide +kernel
theorem dX1_evaluate_126 : decode cX1_evaluate 126 = .ok (.invokevirtual 64, 3) := by decide +kernel
theorem dX1_evaluate_129 : decode cX1_evaluate 129 = .ok (.aload_n 2, 1) := by decide +kernel
theorem dX1_evaluate_130 : decode cX1_evaluate 130 = .ok (.getfield 75, 3) := by decide +kernel
theorem dX1_evaluate_133 : decode cX1_evaluate 133 = .ok (.aload_n 0, 1) := by decide +kernel
theorem dX1_evaluate_134 : decode cX1_evaluate 134 = .ok (.getfield 19, 3) := by decide +kernel
theorem dX1_evaluate_137 : decode cX1_evaluate 137 = .ok (.invokevirtual 71, 3) := by decide +kernel
theorem dX1_evaluate_140 : decode cX1_evaluate 140 = .ok (.iload 5, 2) := by decide +kernel
theorem dX1_evaluate_142 : decode cX1_evaluate 142 = .ok (.ifCond .le 54, 3) := by decide +kernel
theorem dX1_evaluate_145 : decode cX1_evaluate 145 = .ok (.aload_n 0, 1) := by decide +kernel
theorem dX1_evaluate_146 : decode cX1_evaluate 146 = .ok (.getfield 19, 3) := by decide +kernel
theorem dX1_evaluate_149 : decode cX1_evaluate 149 = .ok (.aload_n 1, 1) := by decide +kernel
theorem dX1_evaluate_150 : decode cX1_evaluate 150 = .ok (.iload 4, 2) := by decide +kernel
theorem dX1_evaluate_152 : decode cX1_evaluate 152 = .ok (.iload 5, 2) := by decide +kernel
theorem dX1_evaluate_154 : decode cX1_evaluate 154 = .ok (.iconst 1, 1) := by decide +kernel
theorem dX1_evaluate_155 : decode cX1_evaluate 155 = .ok (.isub, 1) := by decide +kernel
theorem dX1_evaluate_156 : decode cX1_evaluate 156 = .ok (.invokestatic 35, 3) := by decide +kernel
theorem dX1_evaluate_159 : decode cX1_evaluate 159 = .ok (.invokevirtual 58, 3) := by decide +kernel
theorem dX1_evaluate_162 : decode cX1_evaluate 162 = .ok (.iload 5, 2) := by decide +kernel
theorem dX1_evaluate_164 : decode cX1_evaluate 164 = .ok (.aload_n 0, 1) := by decide +kernel
theorem dX1_evaluate_165 : decode cX1_evaluate 165 = .ok (.getfield 9, 3) := by decide +kernel
theorem dX1_evaluate_168 : decode cX1_evaluate 168 = .ok (.iload_n 3, 1) := by decide +kernel
theorem dX1_evaluate_169 : decode cX1_evaluate 169 = .ok (.iaload, 1) := by decide +kernel
theorem dX1_evaluate_170 : decode cX1_evaluate 170 = .ok (.imul, 1) := by decide +kernel
theorem dX1_evaluate_171 : decode cX1_evaluate 171 = .ok (.i2l, 1) := by decide +kernel
theorem dX1_evaluate_172 : decode cX1_evaluate 172 = .ok (.iload 5, 2) := by decide +kernel
theorem dX1_evaluate_174 : decode cX1_evaluate 174 = .ok (.aload_n 0, 1) := by decide +kernel
theorem dX1_evaluate_175 : decode cX1_evaluate 175 = .ok (.getfield 13, 3) := by decide +kernel
theorem dX1_evaluate_178 : decode cX1_evaluate 178 = .ok (.iload_n 3, 1) := by decide +kernel
theorem dX1_evaluate_179 : decode cX1_evaluate 179 = .ok (.iaload, 1) := by decide +kernel
theorem dX1_evaluate_180 : decode cX1_evaluate 180 = .ok (.imul, 1) := by decide +kernel
theorem dX1_evaluate_181 : decode cX1_evaluate 181 = .ok (.i2l, 1) := by decide +kernel
theorem dX1_evaluate_182 : decode cX1_evaluate 182 = .ok (.invokevirtual 64, 3) := by decide +kernel
theorem dX1_evaluate_185 : decode cX1_evaluate 185 = .ok (.aload_n 2, 1) := by decide +kernel
theorem dX1_evaluate_186 : decode cX1_evaluate 186 = .ok (.getfield 78, 3) := by decide +kernel
theorem dX1_evaluate_189 : decode cX1_evaluate 189 = .ok (.aload_n 0, 1) := by decide +kernel
theorem dX1_evaluate_190 : decode cX1_evaluate 190 = .ok (.getfield 19, 3) := by decide +kernel
theorem dX1_evaluate_193 : decode cX1_evaluate 193 = .ok (.invokevirtual 71, 3) := by decide +kernel
theorem dX1_evaluate_196 : decode cX1_evaluate 196 = .ok (.iinc 3 1, 3) := by decide +kernel
theorem dX1_evaluate_199 : decode cX1_evaluate 199 = .ok (.goto (-193), 3) := by decide +kernel
theorem dX1_evaluate_202 : decode cX1_evaluate 202 = .ok (.return_, 1) := by decide +kernel
set_option maxHeartbeats 4000000 in
set_option maxRecDepth 100000 in
theorem t_X1_evaluate (l : Launch) (D : xD) (z n : Nat) (G : xG) (I : xI) (L : xL) (q : Nat) (w : Nat) (t : Nat) (pw : Nat → xC) (hE : shE G q) (hW : shW G w) (hT : shT G t) (zq : z ≤ q) (zt : z ≤ t) (dqw : q + 3 < w ∨ w + 12 ≤ q) (dtw : t + 3 < w ∨ w + 12 ≤ t) (dqt : q + 3 < t ∨ t + 3 < q) (hpw : ∀ k, k < 10 → rd L (w + 2 + k) = pw k) : xM0 l D z yX1_evaluate cX1_evaluate 6 none 2 49 [.ref q, .ref w, .ref t] n G I L (fun v' I' L' => v' = none ∧ I' = I ∧ (rd L' (t + 1) = evV (I (q + 1)) (I (q + 2)) pw 10) ∧ (rd L' (t + 2) = evX (I (q + 1)) (I (q + 2)) pw 10) ∧ (rd L' (t + 3) = evY (I (q + 1)) (I (q + 2)) pw 10) ∧ (∀ a, a ≠ q + 3 → (a < t + 1 ∨ t + 3 < a) → L' a = L a)) := by
  refine xM.of (by decide) (Nat.le_of_ble_eq_true rfl) (fun p e s m args below meth c C hnm hsz => ?_)
  refine x_lv [(0, .ref q), (1, .ref w), (2, .ref t)] rfl ?_
  refine x_aload_n 0 C dX1_evaluate_0 rfl 2 rfl ?_
  refine x_callVe 1 C dX1_evaluate_1 (As := []) (rest := []) [] (t_X10_clear l D z n G I L t hT (by omega)) mt_X10_clear km_X1_55 ki_X10_clear ks_X10_clear hT.1 ⟨by decide, rfl⟩ rfl rfl (Nat.le_of_ble_eq_true rfl) ⟨⟨by decide, by decide⟩, by decide, by decide⟩ (fun I1 L2 eI1 eL2 => ?_)
  replace eI1 := eI1.symm; subst eI1
  refine x_iconst 4 C (v := 0) dX1_evaluate_4 rfl ?_
  refine x_istore_n 5 C [(3, .int 0), (0, .ref q), (1, .ref w), (2, .ref t)] dX1_evaluate_5 rfl (by decide) rfl ?_
  have loop6 : ∀ (fuel : Nat) (k : Nat) (Lk : xL), (k ≤ 10) → (11 ≤ k + fuel) → (rd Lk (t + 1) = evV (I (q + 1)) (I (q + 2)) pw k) → (rd Lk (t + 2) = evX (I (q + 1)) (I (q + 2)) pw k) → (rd Lk (t + 3) = evY (I (q + 1)) (I (q + 2)) pw k) → (∀ a, a ≠ q + 3 → (a < t + 1 ∨ t + 3 < a) → Lk a = L a) → X p l e (xRm 2 49 0 0) s m args below meth c D z 6 (MQ below (xQc D z n (xN n G (fun v' I' L' => v' = none ∧ I' = I ∧ (rd L' (t + 1) = evV (I (q + 1)) (I (q + 2)) pw 10) ∧ (rd L' (t + 2) = evX (I (q + 1)) (I (q + 2)) pw 10) ∧ (rd L' (t + 3) = evY (I (q + 1)) (I (q + 2)) pw 10) ∧ (∀ a, a ≠ q + 3 → (a < t + 1 ∨ t + 3 < a) → L' a = L a)))) args s 0 0 (fun a => z ≤ a)) 0 0 n G I Lk 6 [(0, .ref q), (1, .ref w), (2, .ref t), (3, .int (nI k))] [] := by
    intro fuel
    induction fuel with
    | zero =>
      intro k Lk hk hf hv hx hy hp
      exact absurd hf (by omega)
    | succ fuel ih =>
      intro k Lk hk hf hv hx hy hp
      have hxy := tXY k
      have htm1 := tm_lt (i := tX k - 1) (j := tY k) (by omega)
      have htm2 := tm_lt (i := tX k) (j := tY k - 1) (by omega)
      refine x_iload_n 6 C dX1_evaluate_6 rfl 3 rfl ?_
      refine x_bipush 7 C (v := 10) dX1_evaluate_7 rfl ?_
      refine x_icmp_ge 9 C 202 dX1_evaluate_9 (by decide) (fun c3 => ?_) (fun c3 => ?_)
      · skip
        have c3n : 10 ≤ k := (nI_leI (a := 10) (b := k) (by omega) (by omega)).mp c3
        have c3o := Int32.not_lt.mpr c3
        refine x_vret 202 C dX1_evaluate_202 rfl (Nat.le_refl _) (xN.intro ?_)
        have hk10 : k = 10 := by omega
        subst hk10
        exact ⟨rfl, rfl, hv, hx, hy, hp⟩
      · skip
        have c3n : ¬ (10 ≤ k) := fun h => c3 ((nI_leI (a := 10) (b := k) (by omega) (by omega)).mpr h)
        have c3o := Int32.not_le.mp c3
        have hk10 : k < 10 := by omega
        have hq0 : rd Lk (w + 2 + k) = pw k := (rd_congr (hp _ (by omega) (by omega))).trans (hpw k (by omega))
        have hq1 : rd Lk (w + 2 + (tm (tX k - 1) (tY k))) = pw (tm (tX k - 1) (tY k)) := (rd_congr (hp _ (by omega) (by omega))).trans (hpw _ htm1)
        have hq2 : rd Lk (w + 2 + (tm (tX k) (tY k - 1))) = pw (tm (tX k) (tY k - 1)) := (rd_congr (hp _ (by omega) (by omega))).trans (hpw _ htm2)
        refine x_aload_n 12 C dX1_evaluate_12 rfl 0 rfl ?_
        refine x_getr 13 C (b := q + 1) dX1_evaluate_13 ff_X1_9 rfl hE.1 rfl ?_
        refine x_iload_n 16 C dX1_evaluate_16 rfl 3 rfl ?_
        refine x_iald 17 C (j := k) dX1_evaluate_17 hE.2.1 (xIx_nI (by omega) (by decide)) ?_
        refine x_if_ne 18 C 33 dX1_evaluate_18 (by decide) (fun c4 => ?_) (fun c4 => ?_)
        · skip
          refine x_gets 33 C (k0 := 0) dX1_evaluate_33 rfl kf_X1_49 ?_
          refine x_iload_n 36 C dX1_evaluate_36 rfl 3 rfl ?_
          refine x_stald 37 C (j := k) dX1_evaluate_37 (k0 := 0) rfl (xIx_nI (len := 10) (by omega) (by decide)) ?_
          refine x_int (nI (tX k)) (xPx_n k) ?_
          refine x_istore 38 C [(4, .int (nI (tX k))), (0, .ref q), (1, .ref w), (2, .ref t), (3, .int (nI k))] dX1_evaluate_38 (by decide) rfl ?_
          refine x_gets 40 C (k0 := 1) dX1_evaluate_40 rfl kf_X1_52 ?_
          refine x_iload_n 43 C dX1_evaluate_43 rfl 4 rfl ?_
          refine x_stald 44 C (j := k) dX1_evaluate_44 (k0 := 1) rfl (xIx_nI (len := 10) (by omega) (by decide)) ?_
          refine x_int (nI (tY k)) (xPy_n k) ?_
          refine x_istore 45 C [(5, .int (nI (tY k))), (4, .int (nI (tX k))), (0, .ref q), (1, .ref w), (2, .ref t), (3, .int (nI k))] dX1_evaluate_45 (by decide) rfl ?_
          refine x_aload_n 47 C dX1_evaluate_47 rfl 2 rfl ?_
          refine x_getr 48 C (b := q + 3) dX1_evaluate_48 ff_X1_19 rfl hE.1 rfl ?_
          refine x_aload_n 51 C dX1_evaluate_51 rfl 3 rfl ?_
          refine x_iload_n 52 C dX1_evaluate_52 rfl 5 rfl ?_
          refine x_callVe 53 C dX1_evaluate_53 (As := [.int (nI k)]) (rest := [.ref (q + 3)]) [.ref (w + 2 + k), .ref (q + 3)] (t_X7_at l D z n G I Lk w k hW (by first | assumption | omega)) mt_X7_at km_X1_58 ki_X7_at ks_X7_at hW.1 ⟨by decide, rfl⟩ rfl rfl (Nat.le_of_ble_eq_true rfl) ⟨⟨by decide, by decide⟩, by decide, by decide⟩ (fun I5 L6 eI5 eL6 => ?_)
          replace eI5 := eI5.symm; subst eI5
          replace eL6 := eL6.symm; subst eL6
          refine x_aload_n 56 C dX1_evaluate_56 rfl 2 rfl ?_
          refine x_getr 57 C (b := q + 1) dX1_evaluate_57 ff_X1_9 rfl hE.1 rfl ?_
          refine x_iload_n 60 C dX1_evaluate_60 rfl 5 rfl ?_
          refine x_iald 61 C (j := k) dX1_evaluate_61 hE.2.1 (xIx_nI (by omega) (by decide)) ?_
          refine x_i2l 62 C dX1_evaluate_62 ?_
          refine x_aload_n 63 C dX1_evaluate_63 rfl 2 rfl ?_
          refine x_getr 64 C (b := q + 2) dX1_evaluate_64 ff_X1_13 rfl hE.1 rfl ?_
          refine x_iload_n 67 C dX1_evaluate_67 rfl 5 rfl ?_
          refine x_iald 68 C (j := k) dX1_evaluate_68 hE.2.2.1 (xIx_nI (by omega) (by decide)) ?_
          refine x_i2l 69 C dX1_evaluate_69 ?_
          refine x_callVe 70 C dX1_evaluate_70 (As := [.ref (w + 2 + k), .long (Int32.toInt64 (I (q + 1) k)), .long (Int32.toInt64 (I (q + 2) k))]) (rest := []) [] (t_X0_putTimesGaussian_c l D z n G I Lk (q + 3) (w + 2 + k) (Int32.toInt64 (I (q + 1) k)) (Int32.toInt64 (I (q + 2) k)) hE.2.2.2 (hW.2.2 k (by omega)) (by omega)) mt_X0_putTimesGaussian km_X1_64 ki_X0_putTimesGaussian ks_X0_putTimesGaussian hE.2.2.2 ⟨by decide, rfl⟩ rfl rfl (Nat.le_of_ble_eq_true rfl) ⟨⟨by decide, by decide⟩, by decide, by decide⟩ (fun I7 L8 eI7 eL8 => ?_)
          replace eI7 := eI7.symm; subst eI7
          have k9 : rd L8 (t + 1) = evV (I (q + 1)) (I (q + 2)) pw k := by rw [eL8, rd_cw_ne _ _ (by omega)]; exact hv
          have k10 : rd L8 (t + 2) = evX (I (q + 1)) (I (q + 2)) pw k := by rw [eL8, rd_cw_ne _ _ (by omega)]; exact hx
          have k11 : rd L8 (t + 3) = evY (I (q + 1)) (I (q + 2)) pw k := by rw [eL8, rd_cw_ne _ _ (by omega)]; exact hy
          have k12 : rd L8 (q + 3) = gauC (Int32.toInt64 (I (q + 1) k)) (Int32.toInt64 (I (q + 2) k)) (pw k) := by rw [eL8, rd_cw]; simp only [hq0]
          have k13 : rd L8 (w + 2 + k) = pw k := by rw [eL8, rd_cw_ne _ _ (by omega)]; exact hq0
          have k14 : rd L8 (w + 2 + (tm (tX k - 1) (tY k))) = pw (tm (tX k - 1) (tY k)) := by rw [eL8, rd_cw_ne _ _ (by omega)]; exact hq1
          have k15 : rd L8 (w + 2 + (tm (tX k) (tY k - 1))) = pw (tm (tX k) (tY k - 1)) := by rw [eL8, rd_cw_ne _ _ (by omega)]; exact hq2
          refine x_aload_n 73 C dX1_evaluate_73 rfl 4 rfl ?_
          refine x_getr 74 C (b := t + 1) dX1_evaluate_74 ff_X1_68 rfl hT.1 rfl ?_
          refine x_aload_n 77 C dX1_evaluate_77 rfl 2 rfl ?_
          refine x_getr 78 C (b := q + 3) dX1_evaluate_78 ff_X1_19 rfl hE.1 rfl ?_
          refine x_callVe 81 C dX1_evaluate_81 (As := [.ref (q + 3)]) (rest := []) [] (t_X0_add_c l D z n G I L8 (t + 1) (q + 3) hT.2.1 hE.2.2.2 (by omega)) mt_X0_add km_X1_71 ki_X0_add ks_X0_add hT.2.1 ⟨by decide, rfl⟩ rfl rfl (Nat.le_of_ble_eq_true rfl) ⟨⟨by decide, by decide⟩, by decide, by decide⟩ (fun I16 L17 eI16 eL17 => ?_)
          replace eI16 := eI16.symm; subst eI16
          have k18 : rd L17 (t + 1) = addC (evV (I (q + 1)) (I (q + 2)) pw k) (gauC (Int32.toInt64 (I (q + 1) k)) (Int32.toInt64 (I (q + 2) k)) (pw k)) := by rw [eL17, rd_cw]; simp only [k9, k12]
          have k19 : rd L17 (t + 2) = evX (I (q + 1)) (I (q + 2)) pw k := by rw [eL17, rd_cw_ne _ _ (by omega)]; exact k10
          have k20 : rd L17 (t + 3) = evY (I (q + 1)) (I (q + 2)) pw k := by rw [eL17, rd_cw_ne _ _ (by omega)]; exact k11
          have k21 : rd L17 (q + 3) = gauC (Int32.toInt64 (I (q + 1) k)) (Int32.toInt64 (I (q + 2) k)) (pw k) := by rw [eL17, rd_cw_ne _ _ (by omega)]; exact k12
          have k22 : rd L17 (w + 2 + k) = pw k := by rw [eL17, rd_cw_ne _ _ (by omega)]; exact k13
          have k23 : rd L17 (w + 2 + (tm (tX k - 1) (tY k))) = pw (tm (tX k - 1) (tY k)) := by rw [eL17, rd_cw_ne _ _ (by omega)]; exact k14
          have k24 : rd L17 (w + 2 + (tm (tX k) (tY k - 1))) = pw (tm (tX k) (tY k - 1)) := by rw [eL17, rd_cw_ne _ _ (by omega)]; exact k15
          refine x_iload 84 C dX1_evaluate_84 1 rfl ?_
          refine x_if_le 86 C 140 dX1_evaluate_86 (by decide) (fun c25 => ?_) (fun c25 => ?_)
          · skip
            have c25n : (tX k) ≤ 0 := (nI_leI (a := (tX k)) (b := 0) (by omega) (by omega)).mp c25
            have c25o := Int32.not_lt.mpr c25
            have hi0 : ¬ 0 < tX k := by omega
            refine x_iload 140 C dX1_evaluate_140 0 rfl ?_
            refine x_if_le 142 C 196 dX1_evaluate_142 (by decide) (fun c26 => ?_) (fun c26 => ?_)
            · skip
              have c26n : (tY k) ≤ 0 := (nI_leI (a := (tY k)) (b := 0) (by omega) (by omega)).mp c26
              have c26o := Int32.not_lt.mpr c26
              have hj0 : ¬ 0 < tY k := by omega
              refine x_iinc 196 C [(3, .int (nI (k + 1))), (5, .int (nI (tY k))), (4, .int (nI (tX k))), (0, .ref q), (1, .ref w), (2, .ref t)] dX1_evaluate_196 5 rfl (nI_add k 1) (by decide) rfl ?_
              refine x_goto 199 C 6 dX1_evaluate_199 (by decide) ?_
              refine x_sub [(0, .ref q), (1, .ref w), (2, .ref t), (3, .int (nI (k + 1)))] [3, 4, 5, 0] rfl ?_
              refine ih (k + 1) L17 (by omega) (by omega) ?_ ?_ ?_ ?_
              · rw [k18]; simp [evV, c3, c3o, c4, c25, c25o, hi0, c26, c26o, hj0]
              · rw [k19]; simp [evX, c3, c3o, c4, c25, c25o, hi0, c26, c26o, hj0]
              · rw [k20]; simp [evY, c3, c3o, c4, c25, c25o, hi0, c26, c26o, hj0]
              · intro a g1 g2; rw [eL17, cw_ne _ _ (by omega)]; rw [eL8, cw_ne _ _ (by omega)]; exact hp a g1 g2
            · skip
              have c26n : ¬ ((tY k) ≤ 0) := fun h => c26 ((nI_leI (a := (tY k)) (b := 0) (by omega) (by omega)).mpr h)
              have c26o := Int32.not_le.mp c26
              have hj1 : 0 < tY k := by omega
              refine x_aload_n 145 C dX1_evaluate_145 rfl 2 rfl ?_
              refine x_getr 146 C (b := q + 3) dX1_evaluate_146 ff_X1_19 rfl hE.1 rfl ?_
              refine x_aload_n 149 C dX1_evaluate_149 rfl 3 rfl ?_
              refine x_iload 150 C dX1_evaluate_150 1 rfl ?_
              refine x_iload 152 C dX1_evaluate_152 0 rfl ?_
              refine x_iconst 154 C (v := 1) dX1_evaluate_154 rfl ?_
              refine x_isub 155 C dX1_evaluate_155 ?_
              refine x_int (nI (tY k - 1)) (nI_sub (a := (tY k)) (b := 1) (by omega)) ?_
              refine x_callSe 156 C dX1_evaluate_156 (As := [.int (nI (tX k)), .int (nI (tY k - 1))]) (rest := [.ref w, .ref (q + 3)]) [.int (nI (tm (tX k) (tY k - 1))), .ref w, .ref (q + 3)] (t_X1_termOf l D z n G I L17 (tX k) (tY k - 1) (by first | assumption | omega)) mt_X1_termOf km_X1_35 kt_X1_termOf rfl rfl (Nat.le_of_ble_eq_true rfl) ⟨⟨by decide, by decide⟩, by decide, by decide⟩ (fun I27 L28 eI27 eL28 => ?_)
              replace eI27 := eI27.symm; subst eI27
              replace eL28 := eL28.symm; subst eL28
              refine x_callVe 159 C dX1_evaluate_159 (As := [.int (nI (tm (tX k) (tY k - 1)))]) (rest := [.ref (q + 3)]) [.ref (w + 2 + (tm (tX k) (tY k - 1))), .ref (q + 3)] (t_X7_at l D z n G I L17 w (tm (tX k) (tY k - 1)) hW (by first | assumption | omega)) mt_X7_at km_X1_58 ki_X7_at ks_X7_at hW.1 ⟨by decide, rfl⟩ rfl rfl (Nat.le_of_ble_eq_true rfl) ⟨⟨by decide, by decide⟩, by decide, by decide⟩ (fun I29 L30 eI29 eL30 => ?_)
              replace eI29 := eI29.symm; subst eI29
              replace eL30 := eL30.symm; subst eL30
              refine x_iload 162 C dX1_evaluate_162 0 rfl ?_
              refine x_aload_n 164 C dX1_evaluate_164 rfl 2 rfl ?_
              refine x_getr 165 C (b := q + 1) dX1_evaluate_165 ff_X1_9 rfl hE.1 rfl ?_
              refine x_iload_n 168 C dX1_evaluate_168 rfl 5 rfl ?_
              refine x_iald 169 C (j := k) dX1_evaluate_169 hE.2.1 (xIx_nI (by omega) (by decide)) ?_
              refine x_imul 170 C dX1_evaluate_170 ?_
              refine x_i2l 171 C dX1_evaluate_171 ?_
              refine x_iload 172 C dX1_evaluate_172 0 rfl ?_
              refine x_aload_n 174 C dX1_evaluate_174 rfl 2 rfl ?_
              refine x_getr 175 C (b := q + 2) dX1_evaluate_175 ff_X1_13 rfl hE.1 rfl ?_
              refine x_iload_n 178 C dX1_evaluate_178 rfl 5 rfl ?_
              refine x_iald 179 C (j := k) dX1_evaluate_179 hE.2.2.1 (xIx_nI (by omega) (by decide)) ?_
              refine x_imul 180 C dX1_evaluate_180 ?_
              refine x_i2l 181 C dX1_evaluate_181 ?_
              refine x_callVe 182 C dX1_evaluate_182 (As := [.ref (w + 2 + (tm (tX k) (tY k - 1))), .long (Int32.toInt64 ((nI (tY k)) * (I (q + 1) k))), .long (Int32.toInt64 ((nI (tY k)) * (I (q + 2) k)))]) (rest := []) [] (t_X0_putTimesGaussian_c l D z n G I L17 (q + 3) (w + 2 + (tm (tX k) (tY k - 1))) (Int32.toInt64 ((nI (tY k)) * (I (q + 1) k))) (Int32.toInt64 ((nI (tY k)) * (I (q + 2) k))) hE.2.2.2 (hW.2.2 _ htm2) (by omega)) mt_X0_putTimesGaussian km_X1_64 ki_X0_putTimesGaussian ks_X0_putTimesGaussian hE.2.2.2 ⟨by decide, rfl⟩ rfl rfl (Nat.le_of_ble_eq_true rfl) ⟨⟨by decide, by decide⟩, by decide, by decide⟩ (fun I31 L32 eI31 eL32 => ?_)
              replace eI31 := eI31.symm; subst eI31
              have k33 : rd L32 (t + 1) = addC (evV (I (q + 1)) (I (q + 2)) pw k) (gauC (Int32.toInt64 (I (q + 1) k)) (Int32.toInt64 (I (q + 2) k)) (pw k)) := by rw [eL32, rd_cw_ne _ _ (by omega)]; exact k18
              have k34 : rd L32 (t + 2) = evX (I (q + 1)) (I (q + 2)) pw k := by rw [eL32, rd_cw_ne _ _ (by omega)]; exact k19
              have k35 : rd L32 (t + 3) = evY (I (q + 1)) (I (q + 2)) pw k := by rw [eL32, rd_cw_ne _ _ (by omega)]; exact k20
              have k36 : rd L32 (q + 3) = gauC (Int32.toInt64 ((nI (tY k)) * (I (q + 1) k))) (Int32.toInt64 ((nI (tY k)) * (I (q + 2) k))) (pw (tm (tX k) (tY k - 1))) := by rw [eL32, rd_cw]; simp only [k24]
              have k37 : rd L32 (w + 2 + k) = pw k := by rw [eL32, rd_cw_ne _ _ (by omega)]; exact k22
              have k38 : rd L32 (w + 2 + (tm (tX k - 1) (tY k))) = pw (tm (tX k - 1) (tY k)) := by rw [eL32, rd_cw_ne _ _ (by omega)]; exact k23
              have k39 : rd L32 (w + 2 + (tm (tX k) (tY k - 1))) = pw (tm (tX k) (tY k - 1)) := by rw [eL32, rd_cw_ne _ _ (by omega)]; exact k24
              refine x_aload_n 185 C dX1_evaluate_185 rfl 4 rfl ?_
              refine x_getr 186 C (b := t + 3) dX1_evaluate_186 ff_X1_78 rfl hT.1 rfl ?_
              refine x_aload_n 189 C dX1_evaluate_189 rfl 2 rfl ?_
              refine x_getr 190 C (b := q + 3) dX1_evaluate_190 ff_X1_19 rfl hE.1 rfl ?_
              refine x_callVe 193 C dX1_evaluate_193 (As := [.ref (q + 3)]) (rest := []) [] (t_X0_add_c l D z n G I L32 (t + 3) (q + 3) hT.2.2.2 hE.2.2.2 (by omega)) mt_X0_add km_X1_71 ki_X0_add ks_X0_add hT.2.2.2 ⟨by decide, rfl⟩ rfl rfl (Nat.le_of_ble_eq_true rfl) ⟨⟨by decide, by decide⟩, by decide, by decide⟩ (fun I40 L41 eI40 eL41 => ?_)
              replace eI40 := eI40.symm; subst eI40
              have k42 : rd L41 (t + 1) = addC (evV (I (q + 1)) (I (q + 2)) pw k) (gauC (Int32.toInt64 (I (q + 1) k)) (Int32.toInt64 (I (q + 2) k)) (pw k)) := by rw [eL41, rd_cw_ne _ _ (by omega)]; exact k33
              have k43 : rd L41 (t + 2) = evX (I (q + 1)) (I (q + 2)) pw k := by rw [eL41, rd_cw_ne _ _ (by omega)]; exact k34
              have k44 : rd L41 (t + 3) = addC (evY (I (q + 1)) (I (q + 2)) pw k) (gauC (Int32.toInt64 ((nI (tY k)) * (I (q + 1) k))) (Int32.toInt64 ((nI (tY k)) * (I (q + 2) k))) (pw (tm (tX k) (tY k - 1)))) := by rw [eL41, rd_cw]; simp only [k35, k36]
              have k45 : rd L41 (q + 3) = gauC (Int32.toInt64 ((nI (tY k)) * (I (q + 1) k))) (Int32.toInt64 ((nI (tY k)) * (I (q + 2) k))) (pw (tm (tX k) (tY k - 1))) := by rw [eL41, rd_cw_ne _ _ (by omega)]; exact k36
              have k46 : rd L41 (w + 2 + k) = pw k := by rw [eL41, rd_cw_ne _ _ (by omega)]; exact k37
              have k47 : rd L41 (w + 2 + (tm (tX k - 1) (tY k))) = pw (tm (tX k - 1) (tY k)) := by rw [eL41, rd_cw_ne _ _ (by omega)]; exact k38
              have k48 : rd L41 (w + 2 + (tm (tX k) (tY k - 1))) = pw (tm (tX k) (tY k - 1)) := by rw [eL41, rd_cw_ne _ _ (by omega)]; exact k39
              refine x_iinc 196 C [(3, .int (nI (k + 1))), (5, .int (nI (tY k))), (4, .int (nI (tX k))), (0, .ref q), (1, .ref w), (2, .ref t)] dX1_evaluate_196 5 rfl (nI_add k 1) (by decide) rfl ?_
              refine x_goto 199 C 6 dX1_evaluate_199 (by decide) ?_
              refine x_sub [(0, .ref q), (1, .ref w), (2, .ref t), (3, .int (nI (k + 1)))] [3, 4, 5, 0] rfl ?_
              refine ih (k + 1) L41 (by omega) (by omega) ?_ ?_ ?_ ?_
              · rw [k42]; simp [evV, c3, c3o, c4, c25, c25o, hi0, c26, c26o, hj1]
              · rw [k43]; simp [evX, c3, c3o, c4, c25, c25o, hi0, c26, c26o, hj1]
              · rw [k44]; simp [evY, c3, c3o, c4, c25, c25o, hi0, c26, c26o, hj1]
              · intro a g1 g2; rw [eL41, cw_ne _ _ (by omega)]; rw [eL32, cw_ne _ _ (by omega)]; rw [eL17, cw_ne _ _ (by omega)]; rw [eL8, cw_ne _ _ (by omega)]; exact hp a g1 g2
          · skip
            have c25n : ¬ ((tX k) ≤ 0) := fun h => c25 ((nI_leI (a := (tX k)) (b := 0) (by omega) (by omega)).mpr h)
            have c25o := Int32.not_le.mp c25
            have hi1 : 0 < tX k := by omega
            refine x_aload_n 89 C dX1_evaluate_89 rfl 2 rfl ?_
            refine x_getr 90 C (b := q + 3) dX1_evaluate_90 ff_X1_19 rfl hE.1 rfl ?_
            refine x_aload_n 93 C dX1_evaluate_93 rfl 3 rfl ?_
            refine x_iload 94 C dX1_evaluate_94 1 rfl ?_
            refine x_iconst 96 C (v := 1) dX1_evaluate_96 rfl ?_
            refine x_isub 97 C dX1_evaluate_97 ?_
            refine x_int (nI (tX k - 1)) (nI_sub (a := (tX k)) (b := 1) (by omega)) ?_
            refine x_iload 98 C dX1_evaluate_98 0 rfl ?_
            refine x_callSe 100 C dX1_evaluate_100 (As := [.int (nI (tX k - 1)), .int (nI (tY k))]) (rest := [.ref w, .ref (q + 3)]) [.int (nI (tm (tX k - 1) (tY k))), .ref w, .ref (q + 3)] (t_X1_termOf l D z n G I L17 (tX k - 1) (tY k) (by first | assumption | omega)) mt_X1_termOf km_X1_35 kt_X1_termOf rfl rfl (Nat.le_of_ble_eq_true rfl) ⟨⟨by decide, by decide⟩, by decide, by decide⟩ (fun I49 L50 eI49 eL50 => ?_)
            replace eI49 := eI49.symm; subst eI49
            replace eL50 := eL50.symm; subst eL50
            refine x_callVe 103 C dX1_evaluate_103 (As := [.int (nI (tm (tX k - 1) (tY k)))]) (rest := [.ref (q + 3)]) [.ref (w + 2 + (tm (tX k - 1) (tY k))), .ref (q + 3)] (t_X7_at l D z n G I L17 w (tm (tX k - 1) (tY k)) hW (by first | assumption | omega)) mt_X7_at km_X1_58 ki_X7_at ks_X7_at hW.1 ⟨by decide, rfl⟩ rfl rfl (Nat.le_of_ble_eq_true rfl) ⟨⟨by decide, by decide⟩, by decide, by decide⟩ (fun I51 L52 eI51 eL52 => ?_)
            replace eI51 := eI51.symm; subst eI51
            replace eL52 := eL52.symm; subst eL52
            refine x_iload 106 C dX1_evaluate_106 1 rfl ?_
            refine x_aload_n 108 C dX1_evaluate_108 rfl 2 rfl ?_
            refine x_getr 109 C (b := q + 1) dX1_evaluate_109 ff_X1_9 rfl hE.1 rfl ?_
            refine x_iload_n 112 C dX1_evaluate_112 rfl 5 rfl ?_
            refine x_iald 113 C (j := k) dX1_evaluate_113 hE.2.1 (xIx_nI (by omega) (by decide)) ?_
            refine x_imul 114 C dX1_evaluate_114 ?_
            refine x_i2l 115 C dX1_evaluate_115 ?_
            refine x_iload 116 C dX1_evaluate_116 1 rfl ?_
            refine x_aload_n 118 C dX1_evaluate_118 rfl 2 rfl ?_
            refine x_getr 119 C (b := q + 2) dX1_evaluate_119 ff_X1_13 rfl hE.1 rfl ?_
            refine x_iload_n 122 C dX1_evaluate_122 rfl 5 rfl ?_
            refine x_iald 123 C (j := k) dX1_evaluate_123 hE.2.2.1 (xIx_nI (by omega) (by decide)) ?_
            refine x_imul 124 C dX1_evaluate_124 ?_
            refine x_i2l 125 C dX1_evaluate_125 ?_
            refine x_callVe 126 C dX1_evaluate_126 (As := [.ref (w + 2 + (tm (tX k - 1) (tY k))), .long (Int32.toInt64 ((nI (tX k)) * (I (q + 1) k))), .long (Int32.toInt64 ((nI (tX k)) * (I (q + 2) k)))]) (rest := []) [] (t_X0_putTimesGaussian_c l D z n G I L17 (q + 3) (w + 2 + (tm (tX k - 1) (tY k))) (Int32.toInt64 ((nI (tX k)) * (I (q + 1) k))) (Int32.toInt64 ((nI (tX k)) * (I (q + 2) k))) hE.2.2.2 (hW.2.2 _ htm1) (by omega)) mt_X0_putTimesGaussian km_X1_64 ki_X0_putTimesGaussian ks_X0_putTimesGaussian hE.2.2.2 ⟨by decide, rfl⟩ rfl rfl (Nat.le_of_ble_eq_true rfl) ⟨⟨by decide, by decide⟩, by decide, by decide⟩ (fun I53 L54 eI53 eL54 => ?_)
            replace eI53 := eI53.symm; subst eI53
            have k55 : rd L54 (t + 1) = addC (evV (I (q + 1)) (I (q + 2)) pw k) (gauC (Int32.toInt64 (I (q + 1) k)) (Int32.toInt64 (I (q + 2) k)) (pw k)) := by rw [eL54, rd_cw_ne _ _ (by omega)]; exact k18
            have k56 : rd L54 (t + 2) = evX (I (q + 1)) (I (q + 2)) pw k := by rw [eL54, rd_cw_ne _ _ (by omega)]; exact k19
            have k57 : rd L54 (t + 3) = evY (I (q + 1)) (I (q + 2)) pw k := by rw [eL54, rd_cw_ne _ _ (by omega)]; exact k20
            have k58 : rd L54 (q + 3) = gauC (Int32.toInt64 ((nI (tX k)) * (I (q + 1) k))) (Int32.toInt64 ((nI (tX k)) * (I (q + 2) k))) (pw (tm (tX k - 1) (tY k))) := by rw [eL54, rd_cw]; simp only [k23]
            have k59 : rd L54 (w + 2 + k) = pw k := by rw [eL54, rd_cw_ne _ _ (by omega)]; exact k22
            have k60 : rd L54 (w + 2 + (tm (tX k - 1) (tY k))) = pw (tm (tX k - 1) (tY k)) := by rw [eL54, rd_cw_ne _ _ (by omega)]; exact k23
            have k61 : rd L54 (w + 2 + (tm (tX k) (tY k - 1))) = pw (tm (tX k) (tY k - 1)) := by rw [eL54, rd_cw_ne _ _ (by omega)]; exact k24
            refine x_aload_n 129 C dX1_evaluate_129 rfl 4 rfl ?_
            refine x_getr 130 C (b := t + 2) dX1_evaluate_130 ff_X1_75 rfl hT.1 rfl ?_
            refine x_aload_n 133 C dX1_evaluate_133 rfl 2 rfl ?_
            refine x_getr 134 C (b := q + 3) dX1_evaluate_134 ff_X1_19 rfl hE.1 rfl ?_
            refine x_callVe 137 C dX1_evaluate_137 (As := [.ref (q + 3)]) (rest := []) [] (t_X0_add_c l D z n G I L54 (t + 2) (q + 3) hT.2.2.1 hE.2.2.2 (by omega)) mt_X0_add km_X1_71 ki_X0_add ks_X0_add hT.2.2.1 ⟨by decide, rfl⟩ rfl rfl (Nat.le_of_ble_eq_true rfl) ⟨⟨by decide, by decide⟩, by decide, by decide⟩ (fun I62 L63 eI62 eL63 => ?_)
            replace eI62 := eI62.symm; subst eI62
            have k64 : rd L63 (t + 1) = addC (evV (I (q + 1)) (I (q + 2)) pw k) (gauC (Int32.toInt64 (I (q + 1) k)) (Int32.toInt64 (I (q + 2) k)) (pw k)) := by rw [eL63, rd_cw_ne _ _ (by omega)]; exact k55
            have k65 : rd L63 (t + 2) = addC (evX (I (q + 1)) (I (q + 2)) pw k) (gauC (Int32.toInt64 ((nI (tX k)) * (I (q + 1) k))) (Int32.toInt64 ((nI (tX k)) * (I (q + 2) k))) (pw (tm (tX k - 1) (tY k)))) := by rw [eL63, rd_cw]; simp only [k56, k58]
            have k66 : rd L63 (t + 3) = evY (I (q + 1)) (I (q + 2)) pw k := by rw [eL63, rd_cw_ne _ _ (by omega)]; exact k57
            have k67 : rd L63 (q + 3) = gauC (Int32.toInt64 ((nI (tX k)) * (I (q + 1) k))) (Int32.toInt64 ((nI (tX k)) * (I (q + 2) k))) (pw (tm (tX k - 1) (tY k))) := by rw [eL63, rd_cw_ne _ _ (by omega)]; exact k58
            have k68 : rd L63 (w + 2 + k) = pw k := by rw [eL63, rd_cw_ne _ _ (by omega)]; exact k59
            have k69 : rd L63 (w + 2 + (tm (tX k - 1) (tY k))) = pw (tm (tX k - 1) (tY k)) := by rw [eL63, rd_cw_ne _ _ (by omega)]; exact k60
            have k70 : rd L63 (w + 2 + (tm (tX k) (tY k - 1))) = pw (tm (tX k) (tY k - 1)) := by rw [eL63, rd_cw_ne _ _ (by omega)]; exact k61
            refine x_iload 140 C dX1_evaluate_140 0 rfl ?_
            refine x_if_le 142 C 196 dX1_evaluate_142 (by decide) (fun c71 => ?_) (fun c71 => ?_)
            · skip
              have c71n : (tY k) ≤ 0 := (nI_leI (a := (tY k)) (b := 0) (by omega) (by omega)).mp c71
              have c71o := Int32.not_lt.mpr c71
              have hj0 : ¬ 0 < tY k := by omega
              refine x_iinc 196 C [(3, .int (nI (k + 1))), (5, .int (nI (tY k))), (4, .int (nI (tX k))), (0, .ref q), (1, .ref w), (2, .ref t)] dX1_evaluate_196 5 rfl (nI_add k 1) (by decide) rfl ?_
              refine x_goto 199 C 6 dX1_evaluate_199 (by decide) ?_
              refine x_sub [(0, .ref q), (1, .ref w), (2, .ref t), (3, .int (nI (k + 1)))] [3, 4, 5, 0] rfl ?_
              refine ih (k + 1) L63 (by omega) (by omega) ?_ ?_ ?_ ?_
              · rw [k64]; simp [evV, c3, c3o, c4, c25, c25o, hi1, c71, c71o, hj0]
              · rw [k65]; simp [evX, c3, c3o, c4, c25, c25o, hi1, c71, c71o, hj0]
              · rw [k66]; simp [evY, c3, c3o, c4, c25, c25o, hi1, c71, c71o, hj0]
              · intro a g1 g2; rw [eL63, cw_ne _ _ (by omega)]; rw [eL54, cw_ne _ _ (by omega)]; rw [eL17, cw_ne _ _ (by omega)]; rw [eL8, cw_ne _ _ (by omega)]; exact hp a g1 g2
            · skip
              have c71n : ¬ ((tY k) ≤ 0) := fun h => c71 ((nI_leI (a := (tY k)) (b := 0) (by omega) (by omega)).mpr h)
              have c71o := Int32.not_le.mp c71
              have hj1 : 0 < tY k := by omega
              refine x_aload_n 145 C dX1_evaluate_145 rfl 2 rfl ?_
              refine x_getr 146 C (b := q + 3) dX1_evaluate_146 ff_X1_19 rfl hE.1 rfl ?_
              refine x_aload_n 149 C dX1_evaluate_149 rfl 3 rfl ?_
              refine x_iload 150 C dX1_evaluate_150 1 rfl ?_
              refine x_iload 152 C dX1_evaluate_152 0 rfl ?_
              refine x_iconst 154 C (v := 1) dX1_evaluate_154 rfl ?_
              refine x_isub 155 C dX1_evaluate_155 ?_
              refine x_int (nI (tY k - 1)) (nI_sub (a := (tY k)) (b := 1) (by omega)) ?_
              refine x_callSe 156 C dX1_evaluate_156 (As := [.int (nI (tX k)), .int (nI (tY k - 1))]) (rest := [.ref w, .ref (q + 3)]) [.int (nI (tm (tX k) (tY k - 1))), .ref w, .ref (q + 3)] (t_X1_termOf l D z n G I L63 (tX k) (tY k - 1) (by first | assumption | omega)) mt_X1_termOf km_X1_35 kt_X1_termOf rfl rfl (Nat.le_of_ble_eq_true rfl) ⟨⟨by decide, by decide⟩, by decide, by decide⟩ (fun I72 L73 eI72 eL73 => ?_)
              replace eI72 := eI72.symm; subst eI72
              replace eL73 := eL73.symm; subst eL73
              refine x_callVe 159 C dX1_evaluate_159 (As := [.int (nI (tm (tX k) (tY k - 1)))]) (rest := [.ref (q + 3)]) [.ref (w + 2 + (tm (tX k) (tY k - 1))), .ref (q + 3)] (t_X7_at l D z n G I L63 w (tm (tX k) (tY k - 1)) hW (by first | assumption | omega)) mt_X7_at km_X1_58 ki_X7_at ks_X7_at hW.1 ⟨by decide, rfl⟩ rfl rfl (Nat.le_of_ble_eq_true rfl) ⟨⟨by decide, by decide⟩, by decide, by decide⟩ (fun I74 L75 eI74 eL75 => ?_)
              replace eI74 := eI74.symm; subst eI74
              replace eL75 := eL75.symm; subst eL75
              refine x_iload 162 C dX1_evaluate_162 0 rfl ?_
              refine x_aload_n 164 C dX1_evaluate_164 rfl 2 rfl ?_
              refine x_getr 165 C (b := q + 1) dX1_evaluate_165 ff_X1_9 rfl hE.1 rfl ?_
              refine x_iload_n 168 C dX1_evaluate_168 rfl 5 rfl ?_
              refine x_iald 169 C (j := k) dX1_evaluate_169 hE.2.1 (xIx_nI (by omega) (by decide)) ?_
              refine x_imul 170 C dX1_evaluate_170 ?_
              refine x_i2l 171 C dX1_evaluate_171 ?_
              refine x_iload 172 C dX1_evaluate_172 0 rfl ?_
              refine x_aload_n 174 C dX1_evaluate_174 rfl 2 rfl ?_
              refine x_getr 175 C (b := q + 2) dX1_evaluate_175 ff_X1_13 rfl hE.1 rfl ?_
              refine x_iload_n 178 C dX1_evaluate_178 rfl 5 rfl ?_
              refine x_iald 179 C (j := k) dX1_evaluate_179 hE.2.2.1 (xIx_nI (by omega) (by decide)) ?_
              refine x_imul 180 C dX1_evaluate_180 ?_
              refine x_i2l 181 C dX1_evaluate_181 ?_
              refine x_callVe 182 C dX1_evaluate_182 (As := [.ref (w + 2 + (tm (tX k) (tY k - 1))), .long (Int32.toInt64 ((nI (tY k)) * (I (q + 1) k))), .long (Int32.toInt64 ((nI (tY k)) * (I (q + 2) k)))]) (rest := []) [] (t_X0_putTimesGaussian_c l D z n G I L63 (q + 3) (w + 2 + (tm (tX k) (tY k - 1))) (Int32.toInt64 ((nI (tY k)) * (I (q + 1) k))) (Int32.toInt64 ((nI (tY k)) * (I (q + 2) k))) hE.2.2.2 (hW.2.2 _ htm2) (by omega)) mt_X0_putTimesGaussian km_X1_64 ki_X0_putTimesGaussian ks_X0_putTimesGaussian hE.2.2.2 ⟨by decide, rfl⟩ rfl rfl (Nat.le_of_ble_eq_true rfl) ⟨⟨by decide, by decide⟩, by decide, by decide⟩ (fun I76 L77 eI76 eL77 => ?_)
              replace eI76 := eI76.symm; subst eI76
              have k78 : rd L77 (t + 1) = addC (evV (I (q + 1)) (I (q + 2)) pw k) (gauC (Int32.toInt64 (I (q + 1) k)) (Int32.toInt64 (I (q + 2) k)) (pw k)) := by rw [eL77, rd_cw_ne _ _ (by omega)]; exact k64
              have k79 : rd L77 (t + 2) = addC (evX (I (q + 1)) (I (q + 2)) pw k) (gauC (Int32.toInt64 ((nI (tX k)) * (I (q + 1) k))) (Int32.toInt64 ((nI (tX k)) * (I (q + 2) k))) (pw (tm (tX k - 1) (tY k)))) := by rw [eL77, rd_cw_ne _ _ (by omega)]; exact k65
              have k80 : rd L77 (t + 3) = evY (I (q + 1)) (I (q + 2)) pw k := by rw [eL77, rd_cw_ne _ _ (by omega)]; exact k66
              have k81 : rd L77 (q + 3) = gauC (Int32.toInt64 ((nI (tY k)) * (I (q + 1) k))) (Int32.toInt64 ((nI (tY k)) * (I (q + 2) k))) (pw (tm (tX k) (tY k - 1))) := by rw [eL77, rd_cw]; simp only [k70]
              have k82 : rd L77 (w + 2 + k) = pw k := by rw [eL77, rd_cw_ne _ _ (by omega)]; exact k68
              have k83 : rd L77 (w + 2 + (tm (tX k - 1) (tY k))) = pw (tm (tX k - 1) (tY k)) := by rw [eL77, rd_cw_ne _ _ (by omega)]; exact k69
              have k84 : rd L77 (w + 2 + (tm (tX k) (tY k - 1))) = pw (tm (tX k) (tY k - 1)) := by rw [eL77, rd_cw_ne _ _ (by omega)]; exact k70
              refine x_aload_n 185 C dX1_evaluate_185 rfl 4 rfl ?_
              refine x_getr 186 C (b := t + 3) dX1_evaluate_186 ff_X1_78 rfl hT.1 rfl ?_
              refine x_aload_n 189 C dX1_evaluate_189 rfl 2 rfl ?_
              refine x_getr 190 C (b := q + 3) dX1_evaluate_190 ff_X1_19 rfl hE.1 rfl ?_
              refine x_callVe 193 C dX1_evaluate_193 (As := [.ref (q + 3)]) (rest := []) [] (t_X0_add_c l D z n G I L77 (t + 3) (q + 3) hT.2.2.2 hE.2.2.2 (by omega)) mt_X0_add km_X1_71 ki_X0_add ks_X0_add hT.2.2.2 ⟨by decide, rfl⟩ rfl rfl (Nat.le_of_ble_eq_true rfl) ⟨⟨by decide, by decide⟩, by decide, by decide⟩ (fun I85 L86 eI85 eL86 => ?_)
              replace eI85 := eI85.symm; subst eI85
              have k87 : rd L86 (t + 1) = addC (evV (I (q + 1)) (I (q + 2)) pw k) (gauC (Int32.toInt64 (I (q + 1) k)) (Int32.toInt64 (I (q + 2) k)) (pw k)) := by rw [eL86, rd_cw_ne _ _ (by omega)]; exact k78
              have k88 : rd L86 (t + 2) = addC (evX (I (q + 1)) (I (q + 2)) pw k) (gauC (Int32.toInt64 ((nI (tX k)) * (I (q + 1) k))) (Int32.toInt64 ((nI (tX k)) * (I (q + 2) k))) (pw (tm (tX k - 1) (tY k)))) := by rw [eL86, rd_cw_ne _ _ (by omega)]; exact k79
              have k89 : rd L86 (t + 3) = addC (evY (I (q + 1)) (I (q + 2)) pw k) (gauC (Int32.toInt64 ((nI (tY k)) * (I (q + 1) k))) (Int32.toInt64 ((nI (tY k)) * (I (q + 2) k))) (pw (tm (tX k) (tY k - 1)))) := by rw [eL86, rd_cw]; simp only [k80, k81]
              have k90 : rd L86 (q + 3) = gauC (Int32.toInt64 ((nI (tY k)) * (I (q + 1) k))) (Int32.toInt64 ((nI (tY k)) * (I (q + 2) k))) (pw (tm (tX k) (tY k - 1))) := by rw [eL86, rd_cw_ne _ _ (by omega)]; exact k81
              have k91 : rd L86 (w + 2 + k) = pw k := by rw [eL86, rd_cw_ne _ _ (by omega)]; exact k82
              have k92 : rd L86 (w + 2 + (tm (tX k - 1) (tY k))) = pw (tm (tX k - 1) (tY k)) := by rw [eL86, rd_cw_ne _ _ (by omega)]; exact k83
              have k93 : rd L86 (w + 2 + (tm (tX k) (tY k - 1))) = pw (tm (tX k) (tY k - 1)) := by rw [eL86, rd_cw_ne _ _ (by omega)]; exact k84
              refine x_iinc 196 C [(3, .int (nI (k + 1))), (5, .int (nI (tY k))), (4, .int (nI (tX k))), (0, .ref q), (1, .ref w), (2, .ref t)] dX1_evaluate_196 5 rfl (nI_add k 1) (by decide) rfl ?_
              refine x_goto 199 C 6 dX1_evaluate_199 (by decide) ?_
              refine x_sub [(0, .ref q), (1, .ref w), (2, .ref t), (3, .int (nI (k + 1)))] [3, 4, 5, 0] rfl ?_
              refine ih (k + 1) L86 (by omega) (by omega) ?_ ?_ ?_ ?_
              · rw [k87]; simp [evV, c3, c3o, c4, c25, c25o, hi1, c71, c71o, hj1]
              · rw [k88]; simp [evX, c3, c3o, c4, c25, c25o, hi1, c71, c71o, hj1]
              · rw [k89]; simp [evY, c3, c3o, c4, c25, c25o, hi1, c71, c71o, hj1]
              · intro a g1 g2; rw [eL86, cw_ne _ _ (by omega)]; rw [eL77, cw_ne _ _ (by omega)]; rw [eL63, cw_ne _ _ (by omega)]; rw [eL54, cw_ne _ _ (by omega)]; rw [eL17, cw_ne _ _ (by omega)]; rw [eL8, cw_ne _ _ (by omega)]; exact hp a g1 g2
        · skip
          refine x_aload_n 21 C dX1_evaluate_21 rfl 0 rfl ?_
          refine x_getr 22 C (b := q + 2) dX1_evaluate_22 ff_X1_13 rfl hE.1 rfl ?_
          refine x_iload_n 25 C dX1_evaluate_25 rfl 3 rfl ?_
          refine x_iald 26 C (j := k) dX1_evaluate_26 hE.2.2.1 (xIx_nI (by omega) (by decide)) ?_
          refine x_if_ne 27 C 33 dX1_evaluate_27 (by decide) (fun c94 => ?_) (fun c94 => ?_)
          · skip
            refine x_gets 33 C (k0 := 0) dX1_evaluate_33 rfl kf_X1_49 ?_
            refine x_iload_n 36 C dX1_evaluate_36 rfl 3 rfl ?_
            refine x_stald 37 C (j := k) dX1_evaluate_37 (k0 := 0) rfl (xIx_nI (len := 10) (by omega) (by decide)) ?_
            refine x_int (nI (tX k)) (xPx_n k) ?_
            refine x_istore 38 C [(4, .int (nI (tX k))), (0, .ref q), (1, .ref w), (2, .ref t), (3, .int (nI k))] dX1_evaluate_38 (by decide) rfl ?_
            refine x_gets 40 C (k0 := 1) dX1_evaluate_40 rfl kf_X1_52 ?_
            refine x_iload_n 43 C dX1_evaluate_43 rfl 4 rfl ?_
            refine x_stald 44 C (j := k) dX1_evaluate_44 (k0 := 1) rfl (xIx_nI (len := 10) (by omega) (by decide)) ?_
            refine x_int (nI (tY k)) (xPy_n k) ?_
            refine x_istore 45 C [(5, .int (nI (tY k))), (4, .int (nI (tX k))), (0, .ref q), (1, .ref w), (2, .ref t), (3, .int (nI k))] dX1_evaluate_45 (by decide) rfl ?_
            refine x_aload_n 47 C dX1_evaluate_47 rfl 2 rfl ?_
            refine x_getr 48 C (b := q + 3) dX1_evaluate_48 ff_X1_19 rfl hE.1 rfl ?_
            refine x_aload_n 51 C dX1_evaluate_51 rfl 3 rfl ?_
            refine x_iload_n 52 C dX1_evaluate_52 rfl 5 rfl ?_
            refine x_callVe 53 C dX1_evaluate_53 (As := [.int (nI k)]) (rest := [.ref (q + 3)]) [.ref (w + 2 + k), .ref (q + 3)] (t_X7_at l D z n G I Lk w k hW (by first | assumption | omega)) mt_X7_at km_X1_58 ki_X7_at ks_X7_at hW.1 ⟨by decide, rfl⟩ rfl rfl (Nat.le_of_ble_eq_true rfl) ⟨⟨by decide, by decide⟩, by decide, by decide⟩ (fun I95 L96 eI95 eL96 => ?_)
            replace eI95 := eI95.symm; subst eI95
            replace eL96 := eL96.symm; subst eL96
            refine x_aload_n 56 C dX1_evaluate_56 rfl 2 rfl ?_
            refine x_getr 57 C (b := q + 1) dX1_evaluate_57 ff_X1_9 rfl hE.1 rfl ?_
            refine x_iload_n 60 C dX1_evaluate_60 rfl 5 rfl ?_
            refine x_iald 61 C (j := k) dX1_evaluate_61 hE.2.1 (xIx_nI (by omega) (by decide)) ?_
            refine x_i2l 62 C dX1_evaluate_62 ?_
            refine x_aload_n 63 C dX1_evaluate_63 rfl 2 rfl ?_
            refine x_getr 64 C (b := q + 2) dX1_evaluate_64 ff_X1_13 rfl hE.1 rfl ?_
            refine x_iload_n 67 C dX1_evaluate_67 rfl 5 rfl ?_
            refine x_iald 68 C (j := k) dX1_evaluate_68 hE.2.2.1 (xIx_nI (by omega) (by decide)) ?_
            refine x_i2l 69 C dX1_evaluate_69 ?_
            refine x_callVe 70 C dX1_evaluate_70 (As := [.ref (w + 2 + k), .long (Int32.toInt64 (I (q + 1) k)), .long (Int32.toInt64 (I (q + 2) k))]) (rest := []) [] (t_X0_putTimesGaussian_c l D z n G I Lk (q + 3) (w + 2 + k) (Int32.toInt64 (I (q + 1) k)) (Int32.toInt64 (I (q + 2) k)) hE.2.2.2 (hW.2.2 k (by omega)) (by omega)) mt_X0_putTimesGaussian km_X1_64 ki_X0_putTimesGaussian ks_X0_putTimesGaussian hE.2.2.2 ⟨by decide, rfl⟩ rfl rfl (Nat.le_of_ble_eq_true rfl) ⟨⟨by decide, by decide⟩, by decide, by decide⟩ (fun I97 L98 eI97 eL98 => ?_)
            replace eI97 := eI97.symm; subst eI97
            have k99 : rd L98 (t + 1) = evV (I (q + 1)) (I (q + 2)) pw k := by rw [eL98, rd_cw_ne _ _ (by omega)]; exact hv
            have k100 : rd L98 (t + 2) = evX (I (q + 1)) (I (q + 2)) pw k := by rw [eL98, rd_cw_ne _ _ (by omega)]; exact hx
            have k101 : rd L98 (t + 3) = evY (I (q + 1)) (I (q + 2)) pw k := by rw [eL98, rd_cw_ne _ _ (by omega)]; exact hy
            have k102 : rd L98 (q + 3) = gauC (Int32.toInt64 (I (q + 1) k)) (Int32.toInt64 (I (q + 2) k)) (pw k) := by rw [eL98, rd_cw]; simp only [hq0]
            have k103 : rd L98 (w + 2 + k) = pw k := by rw [eL98, rd_cw_ne _ _ (by omega)]; exact hq0
            have k104 : rd L98 (w + 2 + (tm (tX k - 1) (tY k))) = pw (tm (tX k - 1) (tY k)) := by rw [eL98, rd_cw_ne _ _ (by omega)]; exact hq1
            have k105 : rd L98 (w + 2 + (tm (tX k) (tY k - 1))) = pw (tm (tX k) (tY k - 1)) := by rw [eL98, rd_cw_ne _ _ (by omega)]; exact hq2
            refine x_aload_n 73 C dX1_evaluate_73 rfl 4 rfl ?_
            refine x_getr 74 C (b := t + 1) dX1_evaluate_74 ff_X1_68 rfl hT.1 rfl ?_
            refine x_aload_n 77 C dX1_evaluate_77 rfl 2 rfl ?_
            refine x_getr 78 C (b := q + 3) dX1_evaluate_78 ff_X1_19 rfl hE.1 rfl ?_
            refine x_callVe 81 C dX1_evaluate_81 (As := [.ref (q + 3)]) (rest := []) [] (t_X0_add_c l D z n G I L98 (t + 1) (q + 3) hT.2.1 hE.2.2.2 (by omega)) mt_X0_add km_X1_71 ki_X0_add ks_X0_add hT.2.1 ⟨by decide, rfl⟩ rfl rfl (Nat.le_of_ble_eq_true rfl) ⟨⟨by decide, by decide⟩, by decide, by decide⟩ (fun I106 L107 eI106 eL107 => ?_)
            replace eI106 := eI106.symm; subst eI106
            have k108 : rd L107 (t + 1) = addC (evV (I (q + 1)) (I (q + 2)) pw k) (gauC (Int32.toInt64 (I (q + 1) k)) (Int32.toInt64 (I (q + 2) k)) (pw k)) := by rw [eL107, rd_cw]; simp only [k99, k102]
            have k109 : rd L107 (t + 2) = evX (I (q + 1)) (I (q + 2)) pw k := by rw [eL107, rd_cw_ne _ _ (by omega)]; exact k100
            have k110 : rd L107 (t + 3) = evY (I (q + 1)) (I (q + 2)) pw k := by rw [eL107, rd_cw_ne _ _ (by omega)]; exact k101
            have k111 : rd L107 (q + 3) = gauC (Int32.toInt64 (I (q + 1) k)) (Int32.toInt64 (I (q + 2) k)) (pw k) := by rw [eL107, rd_cw_ne _ _ (by omega)]; exact k102
            have k112 : rd L107 (w + 2 + k) = pw k := by rw [eL107, rd_cw_ne _ _ (by omega)]; exact k103
            have k113 : rd L107 (w + 2 + (tm (tX k - 1) (tY k))) = pw (tm (tX k - 1) (tY k)) := by rw [eL107, rd_cw_ne _ _ (by omega)]; exact k104
            have k114 : rd L107 (w + 2 + (tm (tX k) (tY k - 1))) = pw (tm (tX k) (tY k - 1)) := by rw [eL107, rd_cw_ne _ _ (by omega)]; exact k105
            refine x_iload 84 C dX1_evaluate_84 1 rfl ?_
            refine x_if_le 86 C 140 dX1_evaluate_86 (by decide) (fun c115 => ?_) (fun c115 => ?_)
            · skip
              have c115n : (tX k) ≤ 0 := (nI_leI (a := (tX k)) (b := 0) (by omega) (by omega)).mp c115
              have c115o := Int32.not_lt.mpr c115
              have hi0 : ¬ 0 < tX k := by omega
              refine x_iload 140 C dX1_evaluate_140 0 rfl ?_
              refine x_if_le 142 C 196 dX1_evaluate_142 (by decide) (fun c116 => ?_) (fun c116 => ?_)
              · skip
                have c116n : (tY k) ≤ 0 := (nI_leI (a := (tY k)) (b := 0) (by omega) (by omega)).mp c116
                have c116o := Int32.not_lt.mpr c116
                have hj0 : ¬ 0 < tY k := by omega
                refine x_iinc 196 C [(3, .int (nI (k + 1))), (5, .int (nI (tY k))), (4, .int (nI (tX k))), (0, .ref q), (1, .ref w), (2, .ref t)] dX1_evaluate_196 5 rfl (nI_add k 1) (by decide) rfl ?_
                refine x_goto 199 C 6 dX1_evaluate_199 (by decide) ?_
                refine x_sub [(0, .ref q), (1, .ref w), (2, .ref t), (3, .int (nI (k + 1)))] [3, 4, 5, 0] rfl ?_
                refine ih (k + 1) L107 (by omega) (by omega) ?_ ?_ ?_ ?_
                · rw [k108]; simp [evV, c3, c3o, c4, c94, c115, c115o, hi0, c116, c116o, hj0]
                · rw [k109]; simp [evX, c3, c3o, c4, c94, c115, c115o, hi0, c116, c116o, hj0]
                · rw [k110]; simp [evY, c3, c3o, c4, c94, c115, c115o, hi0, c116, c116o, hj0]
                · intro a g1 g2; rw [eL107, cw_ne _ _ (by omega)]; rw [eL98, cw_ne _ _ (by omega)]; exact hp a g1 g2
              · skip
                have c116n : ¬ ((tY k) ≤ 0) := fun h => c116 ((nI_leI (a := (tY k)) (b := 0) (by omega) (by omega)).mpr h)
                have c116o := Int32.not_le.mp c116
                have hj1 : 0 < tY k := by omega
                refine x_aload_n 145 C dX1_evaluate_145 rfl 2 rfl ?_
                refine x_getr 146 C (b := q + 3) dX1_evaluate_146 ff_X1_19 rfl hE.1 rfl ?_
                refine x_aload_n 149 C dX1_evaluate_149 rfl 3 rfl ?_
                refine x_iload 150 C dX1_evaluate_150 1 rfl ?_
                refine x_iload 152 C dX1_evaluate_152 0 rfl ?_
                refine x_iconst 154 C (v := 1) dX1_evaluate_154 rfl ?_
                refine x_isub 155 C dX1_evaluate_155 ?_
                refine x_int (nI (tY k - 1)) (nI_sub (a := (tY k)) (b := 1) (by omega)) ?_
                refine x_callSe 156 C dX1_evaluate_156 (As := [.int (nI (tX k)), .int (nI (tY k - 1))]) (rest := [.ref w, .ref (q + 3)]) [.int (nI (tm (tX k) (tY k - 1))), .ref w, .ref (q + 3)] (t_X1_termOf l D z n G I L107 (tX k) (tY k - 1) (by first | assumption | omega)) mt_X1_termOf km_X1_35 kt_X1_termOf rfl rfl (Nat.le_of_ble_eq_true rfl) ⟨⟨by decide, by decide⟩, by decide, by decide⟩ (fun I117 L118 eI117 eL118 => ?_)
                replace eI117 := eI117.symm; subst eI117
                replace eL118 := eL118.symm; subst eL118
                refine x_callVe 159 C dX1_evaluate_159 (As := [.int (nI (tm (tX k) (tY k - 1)))]) (rest := [.ref (q + 3)]) [.ref (w + 2 + (tm (tX k) (tY k - 1))), .ref (q + 3)] (t_X7_at l D z n G I L107 w (tm (tX k) (tY k - 1)) hW (by first | assumption | omega)) mt_X7_at km_X1_58 ki_X7_at ks_X7_at hW.1 ⟨by decide, rfl⟩ rfl rfl (Nat.le_of_ble_eq_true rfl) ⟨⟨by decide, by decide⟩, by decide, by decide⟩ (fun I119 L120 eI119 eL120 => ?_)
                replace eI119 := eI119.symm; subst eI119
                replace eL120 := eL120.symm; subst eL120
                refine x_iload 162 C dX1_evaluate_162 0 rfl ?_
                refine x_aload_n 164 C dX1_evaluate_164 rfl 2 rfl ?_
                refine x_getr 165 C (b := q + 1) dX1_evaluate_165 ff_X1_9 rfl hE.1 rfl ?_
                refine x_iload_n 168 C dX1_evaluate_168 rfl 5 rfl ?_
                refine x_iald 169 C (j := k) dX1_evaluate_169 hE.2.1 (xIx_nI (by omega) (by decide)) ?_
                refine x_imul 170 C dX1_evaluate_170 ?_
                refine x_i2l 171 C dX1_evaluate_171 ?_
                refine x_iload 172 C dX1_evaluate_172 0 rfl ?_
                refine x_aload_n 174 C dX1_evaluate_174 rfl 2 rfl ?_
                refine x_getr 175 C (b := q + 2) dX1_evaluate_175 ff_X1_13 rfl hE.1 rfl ?_
                refine x_iload_n 178 C dX1_evaluate_178 rfl 5 rfl ?_
                refine x_iald 179 C (j := k) dX1_evaluate_179 hE.2.2.1 (xIx_nI (by omega) (by decide)) ?_
                refine x_imul 180 C dX1_evaluate_180 ?_
                refine x_i2l 181 C dX1_evaluate_181 ?_
                refine x_callVe 182 C dX1_evaluate_182 (As := [.ref (w + 2 + (tm (tX k) (tY k - 1))), .long (Int32.toInt64 ((nI (tY k)) * (I (q + 1) k))), .long (Int32.toInt64 ((nI (tY k)) * (I (q + 2) k)))]) (rest := []) [] (t_X0_putTimesGaussian_c l D z n G I L107 (q + 3) (w + 2 + (tm (tX k) (tY k - 1))) (Int32.toInt64 ((nI (tY k)) * (I (q + 1) k))) (Int32.toInt64 ((nI (tY k)) * (I (q + 2) k))) hE.2.2.2 (hW.2.2 _ htm2) (by omega)) mt_X0_putTimesGaussian km_X1_64 ki_X0_putTimesGaussian ks_X0_putTimesGaussian hE.2.2.2 ⟨by decide, rfl⟩ rfl rfl (Nat.le_of_ble_eq_true rfl) ⟨⟨by decide, by decide⟩, by decide, by decide⟩ (fun I121 L122 eI121 eL122 => ?_)
                replace eI121 := eI121.symm; subst eI121
                have k123 : rd L122 (t + 1) = addC (evV (I (q + 1)) (I (q + 2)) pw k) (gauC (Int32.toInt64 (I (q + 1) k)) (Int32.toInt64 (I (q + 2) k)) (pw k)) := by rw [eL122, rd_cw_ne _ _ (by omega)]; exact k108
                have k124 : rd L122 (t + 2) = evX (I (q + 1)) (I (q + 2)) pw k := by rw [eL122, rd_cw_ne _ _ (by omega)]; exact k109
                have k125 : rd L122 (t + 3) = evY (I (q + 1)) (I (q + 2)) pw k := by rw [eL122, rd_cw_ne _ _ (by omega)]; exact k110
                have k126 : rd L122 (q + 3) = gauC (Int32.toInt64 ((nI (tY k)) * (I (q + 1) k))) (Int32.toInt64 ((nI (tY k)) * (I (q + 2) k))) (pw (tm (tX k) (tY k - 1))) := by rw [eL122, rd_cw]; simp only [k114]
                have k127 : rd L122 (w + 2 + k) = pw k := by rw [eL122, rd_cw_ne _ _ (by omega)]; exact k112
                have k128 : rd L122 (w + 2 + (tm (tX k - 1) (tY k))) = pw (tm (tX k - 1) (tY k)) := by rw [eL122, rd_cw_ne _ _ (by omega)]; exact k113
                have k129 : rd L122 (w + 2 + (tm (tX k) (tY k - 1))) = pw (tm (tX k) (tY k - 1)) := by rw [eL122, rd_cw_ne _ _ (by omega)]; exact k114
                refine x_aload_n 185 C dX1_evaluate_185 rfl 4 rfl ?_
                refine x_getr 186 C (b := t + 3) dX1_evaluate_186 ff_X1_78 rfl hT.1 rfl ?_
                refine x_aload_n 189 C dX1_evaluate_189 rfl 2 rfl ?_
                refine x_getr 190 C (b := q + 3) dX1_evaluate_190 ff_X1_19 rfl hE.1 rfl ?_
                refine x_callVe 193 C dX1_evaluate_193 (As := [.ref (q + 3)]) (rest := []) [] (t_X0_add_c l D z n G I L122 (t + 3) (q + 3) hT.2.2.2 hE.2.2.2 (by omega)) mt_X0_add km_X1_71 ki_X0_add ks_X0_add hT.2.2.2 ⟨by decide, rfl⟩ rfl rfl (Nat.le_of_ble_eq_true rfl) ⟨⟨by decide, by decide⟩, by decide, by decide⟩ (fun I130 L131 eI130 eL131 => ?_)
                replace eI130 := eI130.symm; subst eI130
                have k132 : rd L131 (t + 1) = addC (evV (I (q + 1)) (I (q + 2)) pw k) (gauC (Int32.toInt64 (I (q + 1) k)) (Int32.toInt64 (I (q + 2) k)) (pw k)) := by rw [eL131, rd_cw_ne _ _ (by omega)]; exact k123
                have k133 : rd L131 (t + 2) = evX (I (q + 1)) (I (q + 2)) pw k := by rw [eL131, rd_cw_ne _ _ (by omega)]; exact k124
                have k134 : rd L131 (t + 3) = addC (evY (I (q + 1)) (I (q + 2)) pw k) (gauC (Int32.toInt64 ((nI (tY k)) * (I (q + 1) k))) (Int32.toInt64 ((nI (tY k)) * (I (q + 2) k))) (pw (tm (tX k) (tY k - 1)))) := by rw [eL131, rd_cw]; simp only [k125, k126]
                have k135 : rd L131 (q + 3) = gauC (Int32.toInt64 ((nI (tY k)) * (I (q + 1) k))) (Int32.toInt64 ((nI (tY k)) * (I (q + 2) k))) (pw (tm (tX k) (tY k - 1))) := by rw [eL131, rd_cw_ne _ _ (by omega)]; exact k126
                have k136 : rd L131 (w + 2 + k) = pw k := by rw [eL131, rd_cw_ne _ _ (by omega)]; exact k127
                have k137 : rd L131 (w + 2 + (tm (tX k - 1) (tY k))) = pw (tm (tX k - 1) (tY k)) := by rw [eL131, rd_cw_ne _ _ (by omega)]; exact k128
                have k138 : rd L131 (w + 2 + (tm (tX k) (tY k - 1))) = pw (tm (tX k) (tY k - 1)) := by rw [eL131, rd_cw_ne _ _ (by omega)]; exact k129
                refine x_iinc 196 C [(3, .int (nI (k + 1))), (5, .int (nI (tY k))), (4, .int (nI (tX k))), (0, .ref q), (1, .ref w), (2, .ref t)] dX1_evaluate_196 5 rfl (nI_add k 1) (by decide) rfl ?_
                refine x_goto 199 C 6 dX1_evaluate_199 (by decide) ?_
                refine x_sub [(0, .ref q), (1, .ref w), (2, .ref t), (3, .int (nI (k + 1)))] [3, 4, 5, 0] rfl ?_
                refine ih (k + 1) L131 (by omega) (by omega) ?_ ?_ ?_ ?_
                · rw [k132]; simp [evV, c3, c3o, c4, c94, c115, c115o, hi0, c116, c116o, hj1]
                · rw [k133]; simp [evX, c3, c3o, c4, c94, c115, c115o, hi0, c116, c116o, hj1]
                · rw [k134]; simp [evY, c3, c3o, c4, c94, c115, c115o, hi0, c116, c116o, hj1]
                · intro a g1 g2; rw [eL131, cw_ne _ _ (by omega)]; rw [eL122, cw_ne _ _ (by omega)]; rw [eL107, cw_ne _ _ (by omega)]; rw [eL98, cw_ne _ _ (by omega)]; exact hp a g1 g2
            · skip
              have c115n : ¬ ((tX k) ≤ 0) := fun h => c115 ((nI_leI (a := (tX k)) (b := 0) (by omega) (by omega)).mpr h)
              have c115o := Int32.not_le.mp c115
              have hi1 : 0 < tX k := by omega
              refine x_aload_n 89 C dX1_evaluate_89 rfl 2 rfl ?_
              refine x_getr 90 C (b := q + 3) dX1_evaluate_90 ff_X1_19 rfl hE.1 rfl ?_
              refine x_aload_n 93 C dX1_evaluate_93 rfl 3 rfl ?_
              refine x_iload 94 C dX1_evaluate_94 1 rfl ?_
              refine x_iconst 96 C (v := 1) dX1_evaluate_96 rfl ?_
              refine x_isub 97 C dX1_evaluate_97 ?_
              refine x_int (nI (tX k - 1)) (nI_sub (a := (tX k)) (b := 1) (by omega)) ?_
              refine x_iload 98 C dX1_evaluate_98 0 rfl ?_
              refine x_callSe 100 C dX1_evaluate_100 (As := [.int (nI (tX k - 1)), .int (nI (tY k))]) (rest := [.ref w, .ref (q + 3)]) [.int (nI (tm (tX k - 1) (tY k))), .ref w, .ref (q + 3)] (t_X1_termOf l D z n G I L107 (tX k - 1) (tY k) (by first | assumption | omega)) mt_X1_termOf km_X1_35 kt_X1_termOf rfl rfl (Nat.le_of_ble_eq_true rfl) ⟨⟨by decide, by decide⟩, by decide, by decide⟩ (fun I139 L140 eI139 eL140 => ?_)
              replace eI139 := eI139.symm; subst eI139
              replace eL140 := eL140.symm; subst eL140
              refine x_callVe 103 C dX1_evaluate_103 (As := [.int (nI (tm (tX k - 1) (tY k)))]) (rest := [.ref (q + 3)]) [.ref (w + 2 + (tm (tX k - 1) (tY k))), .ref (q + 3)] (t_X7_at l D z n G I L107 w (tm (tX k - 1) (tY k)) hW (by first | assumption | omega)) mt_X7_at km_X1_58 ki_X7_at ks_X7_at hW.1 ⟨by decide, rfl⟩ rfl rfl (Nat.le_of_ble_eq_true rfl) ⟨⟨by decide, by decide⟩, by decide, by decide⟩ (fun I141 L142 eI141 eL142 => ?_)
              replace eI141 := eI141.symm; subst eI141
              replace eL142 := eL142.symm; subst eL142
              refine x_iload 106 C dX1_evaluate_106 1 rfl ?_
              refine x_aload_n 108 C dX1_evaluate_108 rfl 2 rfl ?_
              refine x_getr 109 C (b := q + 1) dX1_evaluate_109 ff_X1_9 rfl hE.1 rfl ?_
              refine x_iload_n 112 C dX1_evaluate_112 rfl 5 rfl ?_
              refine x_iald 113 C (j := k) dX1_evaluate_113 hE.2.1 (xIx_nI (by omega) (by decide)) ?_
              refine x_imul 114 C dX1_evaluate_114 ?_
              refine x_i2l 115 C dX1_evaluate_115 ?_
              refine x_iload 116 C dX1_evaluate_116 1 rfl ?_
              refine x_aload_n 118 C dX1_evaluate_118 rfl 2 rfl ?_
              refine x_getr 119 C (b := q + 2) dX1_evaluate_119 ff_X1_13 rfl hE.1 rfl ?_
              refine x_iload_n 122 C dX1_evaluate_122 rfl 5 rfl ?_
              refine x_iald 123 C (j := k) dX1_evaluate_123 hE.2.2.1 (xIx_nI (by omega) (by decide)) ?_
              refine x_imul 124 C dX1_evaluate_124 ?_
              refine x_i2l 125 C dX1_evaluate_125 ?_
              refine x_callVe 126 C dX1_evaluate_126 (As := [.ref (w + 2 + (tm (tX k - 1) (tY k))), .long (Int32.toInt64 ((nI (tX k)) * (I (q + 1) k))), .long (Int32.toInt64 ((nI (tX k)) * (I (q + 2) k)))]) (rest := []) [] (t_X0_putTimesGaussian_c l D z n G I L107 (q + 3) (w + 2 + (tm (tX k - 1) (tY k))) (Int32.toInt64 ((nI (tX k)) * (I (q + 1) k))) (Int32.toInt64 ((nI (tX k)) * (I (q + 2) k))) hE.2.2.2 (hW.2.2 _ htm1) (by omega)) mt_X0_putTimesGaussian km_X1_64 ki_X0_putTimesGaussian ks_X0_putTimesGaussian hE.2.2.2 ⟨by decide, rfl⟩ rfl rfl (Nat.le_of_ble_eq_true rfl) ⟨⟨by decide, by decide⟩, by decide, by decide⟩ (fun I143 L144 eI143 eL144 => ?_)
              replace eI143 := eI143.symm; subst eI143
              have k145 : rd L144 (t + 1) = addC (evV (I (q + 1)) (I (q + 2)) pw k) (gauC (Int32.toInt64 (I (q + 1) k)) (Int32.toInt64 (I (q + 2) k)) (pw k)) := by rw [eL144, rd_cw_ne _ _ (by omega)]; exact k108
              have k146 : rd L144 (t + 2) = evX (I (q + 1)) (I (q + 2)) pw k := by rw [eL144, rd_cw_ne _ _ (by omega)]; exact k109
              have k147 : rd L144 (t + 3) = evY (I (q + 1)) (I (q + 2)) pw k := by rw [eL144, rd_cw_ne _ _ (by omega)]; exact k110
              have k148 : rd L144 (q + 3) = gauC (Int32.toInt64 ((nI (tX k)) * (I (q + 1) k))) (Int32.toInt64 ((nI (tX k)) * (I (q + 2) k))) (pw (tm (tX k - 1) (tY k))) := by rw [eL144, rd_cw]; simp only [k113]
              have k149 : rd L144 (w + 2 + k) = pw k := by rw [eL144, rd_cw_ne _ _ (by omega)]; exact k112
              have k150 : rd L144 (w + 2 + (tm (tX k - 1) (tY k))) = pw (tm (tX k - 1) (tY k)) := by rw [eL144, rd_cw_ne _ _ (by omega)]; exact k113
              have k151 : rd L144 (w + 2 + (tm (tX k) (tY k - 1))) = pw (tm (tX k) (tY k - 1)) := by rw [eL144, rd_cw_ne _ _ (by omega)]; exact k114
              refine x_aload_n 129 C dX1_evaluate_129 rfl 4 rfl ?_
              refine x_getr 130 C (b := t + 2) dX1_evaluate_130 ff_X1_75 rfl hT.1 rfl ?_
              refine x_aload_n 133 C dX1_evaluate_133 rfl 2 rfl ?_
              refine x_getr 134 C (b := q + 3) dX1_evaluate_134 ff_X1_19 rfl hE.1 rfl ?_
              refine x_callVe 137 C dX1_evaluate_137 (As := [.ref (q + 3)]) (rest := []) [] (t_X0_add_c l D z n G I L144 (t + 2) (q + 3) hT.2.2.1 hE.2.2.2 (by omega)) mt_X0_add km_X1_71 ki_X0_add ks_X0_add hT.2.2.1 ⟨by decide, rfl⟩ rfl rfl (Nat.le_of_ble_eq_true rfl) ⟨⟨by decide, by decide⟩, by decide, by decide⟩ (fun I152 L153 eI152 eL153 => ?_)
              replace eI152 := eI152.symm; subst eI152
              have k154 : rd L153 (t + 1) = addC (evV (I (q + 1)) (I (q + 2)) pw k) (gauC (Int32.toInt64 (I (q + 1) k)) (Int32.toInt64 (I (q + 2) k)) (pw k)) := by rw [eL153, rd_cw_ne _ _ (by omega)]; exact k145
              have k155 : rd L153 (t + 2) = addC (evX (I (q + 1)) (I (q + 2)) pw k) (gauC (Int32.toInt64 ((nI (tX k)) * (I (q + 1) k))) (Int32.toInt64 ((nI (tX k)) * (I (q + 2) k))) (pw (tm (tX k - 1) (tY k)))) := by rw [eL153, rd_cw]; simp only [k146, k148]
              have k156 : rd L153 (t + 3) = evY (I (q + 1)) (I (q + 2)) pw k := by rw [eL153, rd_cw_ne _ _ (by omega)]; exact k147
              have k157 : rd L153 (q + 3) = gauC (Int32.toInt64 ((nI (tX k)) * (I (q + 1) k))) (Int32.toInt64 ((nI (tX k)) * (I (q + 2) k))) (pw (tm (tX k - 1) (tY k))) := by rw [eL153, rd_cw_ne _ _ (by omega)]; exact k148
              have k158 : rd L153 (w + 2 + k) = pw k := by rw [eL153, rd_cw_ne _ _ (by omega)]; exact k149
              have k159 : rd L153 (w + 2 + (tm (tX k - 1) (tY k))) = pw (tm (tX k - 1) (tY k)) := by rw [eL153, rd_cw_ne _ _ (by omega)]; exact k150
              have k160 : rd L153 (w + 2 + (tm (tX k) (tY k - 1))) = pw (tm (tX k) (tY k - 1)) := by rw [eL153, rd_cw_ne _ _ (by omega)]; exact k151
              refine x_iload 140 C dX1_evaluate_140 0 rfl ?_
              refine x_if_le 142 C 196 dX1_evaluate_142 (by decide) (fun c161 => ?_) (fun c161 => ?_)
              · skip
                have c161n : (tY k) ≤ 0 := (nI_leI (a := (tY k)) (b := 0) (by omega) (by omega)).mp c161
                have c161o := Int32.not_lt.mpr c161
                have hj0 : ¬ 0 < tY k := by omega
                refine x_iinc 196 C [(3, .int (nI (k + 1))), (5, .int (nI (tY k))), (4, .int (nI (tX k))), (0, .ref q), (1, .ref w), (2, .ref t)] dX1_evaluate_196 5 rfl (nI_add k 1) (by decide) rfl ?_
                refine x_goto 199 C 6 dX1_evaluate_199 (by decide) ?_
                refine x_sub [(0, .ref q), (1, .ref w), (2, .ref t), (3, .int (nI (k + 1)))] [3, 4, 5, 0] rfl ?_
                refine ih (k + 1) L153 (by omega) (by omega) ?_ ?_ ?_ ?_
                · rw [k154]; simp [evV, c3, c3o, c4, c94, c115, c115o, hi1, c161, c161o, hj0]
                · rw [k155]; simp [evX, c3, c3o, c4, c94, c115, c115o, hi1, c161, c161o, hj0]
                · rw [k156]; simp [evY, c3, c3o, c4, c94, c115, c115o, hi1, c161, c161o, hj0]
                · intro a g1 g2; rw [eL153, cw_ne _ _ (by omega)]; rw [eL144, cw_ne _ _ (by omega)]; rw [eL107, cw_ne _ _ (by omega)]; rw [eL98, cw_ne _ _ (by omega)]; exact hp a g1 g2
              · skip
                have c161n : ¬ ((tY k) ≤ 0) := fun h => c161 ((nI_leI (a := (tY k)) (b := 0) (by omega) (by omega)).mpr h)
                have c161o := Int32.not_le.mp c161
                have hj1 : 0 < tY k := by omega
                refine x_aload_n 145 C dX1_evaluate_145 rfl 2 rfl ?_
                refine x_getr 146 C (b := q + 3) dX1_evaluate_146 ff_X1_19 rfl hE.1 rfl ?_
                refine x_aload_n 149 C dX1_evaluate_149 rfl 3 rfl ?_
                refine x_iload 150 C dX1_evaluate_150 1 rfl ?_
                refine x_iload 152 C dX1_evaluate_152 0 rfl ?_
                refine x_iconst 154 C (v := 1) dX1_evaluate_154 rfl ?_
                refine x_isub 155 C dX1_evaluate_155 ?_
                refine x_int (nI (tY k - 1)) (nI_sub (a := (tY k)) (b := 1) (by omega)) ?_
                refine x_callSe 156 C dX1_evaluate_156 (As := [.int (nI (tX k)), .int (nI (tY k - 1))]) (rest := [.ref w, .ref (q + 3)]) [.int (nI (tm (tX k) (tY k - 1))), .ref w, .ref (q + 3)] (t_X1_termOf l D z n G I L153 (tX k) (tY k - 1) (by first | assumption | omega)) mt_X1_termOf km_X1_35 kt_X1_termOf rfl rfl (Nat.le_of_ble_eq_true rfl) ⟨⟨by decide, by decide⟩, by decide, by decide⟩ (fun I162 L163 eI162 eL163 => ?_)
                replace eI162 := eI162.symm; subst eI162
                replace eL163 := eL163.symm; subst eL163
                refine x_callVe 159 C dX1_evaluate_159 (As := [.int (nI (tm (tX k) (tY k - 1)))]) (rest := [.ref (q + 3)]) [.ref (w + 2 + (tm (tX k) (tY k - 1))), .ref (q + 3)] (t_X7_at l D z n G I L153 w (tm (tX k) (tY k - 1)) hW (by first | assumption | omega)) mt_X7_at km_X1_58 ki_X7_at ks_X7_at hW.1 ⟨by decide, rfl⟩ rfl rfl (Nat.le_of_ble_eq_true rfl) ⟨⟨by decide, by decide⟩, by decide, by decide⟩ (fun I164 L165 eI164 eL165 => ?_)
                replace eI164 := eI164.symm; subst eI164
                replace eL165 := eL165.symm; subst eL165
                refine x_iload 162 C dX1_evaluate_162 0 rfl ?_
                refine x_aload_n 164 C dX1_evaluate_164 rfl 2 rfl ?_
                refine x_getr 165 C (b := q + 1) dX1_evaluate_165 ff_X1_9 rfl hE.1 rfl ?_
                refine x_iload_n 168 C dX1_evaluate_168 rfl 5 rfl ?_
                refine x_iald 169 C (j := k) dX1_evaluate_169 hE.2.1 (xIx_nI (by omega) (by decide)) ?_
                refine x_imul 170 C dX1_evaluate_170 ?_
                refine x_i2l 171 C dX1_evaluate_171 ?_
                refine x_iload 172 C dX1_evaluate_172 0 rfl ?_
                refine x_aload_n 174 C dX1_evaluate_174 rfl 2 rfl ?_
                refine x_getr 175 C (b := q + 2) dX1_evaluate_175 ff_X1_13 rfl hE.1 rfl ?_
                refine x_iload_n 178 C dX1_evaluate_178 rfl 5 rfl ?_
                refine x_iald 179 C (j := k) dX1_evaluate_179 hE.2.2.1 (xIx_nI (by omega) (by decide)) ?_
                refine x_imul 180 C dX1_evaluate_180 ?_
                refine x_i2l 181 C dX1_evaluate_181 ?_
                refine x_callVe 182 C dX1_evaluate_182 (As := [.ref (w + 2 + (tm (tX k) (tY k - 1))), .long (Int32.toInt64 ((nI (tY k)) * (I (q + 1) k))), .long (Int32.toInt64 ((nI (tY k)) * (I (q + 2) k)))]) (rest := []) [] (t_X0_putTimesGaussian_c l D z n G I L153 (q + 3) (w + 2 + (tm (tX k) (tY k - 1))) (Int32.toInt64 ((nI (tY k)) * (I (q + 1) k))) (Int32.toInt64 ((nI (tY k)) * (I (q + 2) k))) hE.2.2.2 (hW.2.2 _ htm2) (by omega)) mt_X0_putTimesGaussian km_X1_64 ki_X0_putTimesGaussian ks_X0_putTimesGaussian hE.2.2.2 ⟨by decide, rfl⟩ rfl rfl (Nat.le_of_ble_eq_true rfl) ⟨⟨by decide, by decide⟩, by decide, by decide⟩ (fun I166 L167 eI166 eL167 => ?_)
                replace eI166 := eI166.symm; subst eI166
                have k168 : rd L167 (t + 1) = addC (evV (I (q + 1)) (I (q + 2)) pw k) (gauC (Int32.toInt64 (I (q + 1) k)) (Int32.toInt64 (I (q + 2) k)) (pw k)) := by rw [eL167, rd_cw_ne _ _ (by omega)]; exact k154
                have k169 : rd L167 (t + 2) = addC (evX (I (q + 1)) (I (q + 2)) pw k) (gauC (Int32.toInt64 ((nI (tX k)) * (I (q + 1) k))) (Int32.toInt64 ((nI (tX k)) * (I (q + 2) k))) (pw (tm (tX k - 1) (tY k)))) := by rw [eL167, rd_cw_ne _ _ (by omega)]; exact k155
                have k170 : rd L167 (t + 3) = evY (I (q + 1)) (I (q + 2)) pw k := by rw [eL167, rd_cw_ne _ _ (by omega)]; exact k156
                have k171 : rd L167 (q + 3) = gauC (Int32.toInt64 ((nI (tY k)) * (I (q + 1) k))) (Int32.toInt64 ((nI (tY k)) * (I (q + 2) k))) (pw (tm (tX k) (tY k - 1))) := by rw [eL167, rd_cw]; simp only [k160]
                have k172 : rd L167 (w + 2 + k) = pw k := by rw [eL167, rd_cw_ne _ _ (by omega)]; exact k158
                have k173 : rd L167 (w + 2 + (tm (tX k - 1) (tY k))) = pw (tm (tX k - 1) (tY k)) := by rw [eL167, rd_cw_ne _ _ (by omega)]; exact k159
                have k174 : rd L167 (w + 2 + (tm (tX k) (tY k - 1))) = pw (tm (tX k) (tY k - 1)) := by rw [eL167, rd_cw_ne _ _ (by omega)]; exact k160
                refine x_aload_n 185 C dX1_evaluate_185 rfl 4 rfl ?_
                refine x_getr 186 C (b := t + 3) dX1_evaluate_186 ff_X1_78 rfl hT.1 rfl ?_
                refine x_aload_n 189 C dX1_evaluate_189 rfl 2 rfl ?_
                refine x_getr 190 C (b := q + 3) dX1_evaluate_190 ff_X1_19 rfl hE.1 rfl ?_
                refine x_callVe 193 C dX1_evaluate_193 (As := [.ref (q + 3)]) (rest := []) [] (t_X0_add_c l D z n G I L167 (t + 3) (q + 3) hT.2.2.2 hE.2.2.2 (by omega)) mt_X0_add km_X1_71 ki_X0_add ks_X0_add hT.2.2.2 ⟨by decide, rfl⟩ rfl rfl (Nat.le_of_ble_eq_true rfl) ⟨⟨by decide, by decide⟩, by decide, by decide⟩ (fun I175 L176 eI175 eL176 => ?_)
                replace eI175 := eI175.symm; subst eI175
                have k177 : rd L176 (t + 1) = addC (evV (I (q + 1)) (I (q + 2)) pw k) (gauC (Int32.toInt64 (I (q + 1) k)) (Int32.toInt64 (I (q + 2) k)) (pw k)) := by rw [eL176, rd_cw_ne _ _ (by omega)]; exact k168
                have k178 : rd L176 (t + 2) = addC (evX (I (q + 1)) (I (q + 2)) pw k) (gauC (Int32.toInt64 ((nI (tX k)) * (I (q + 1) k))) (Int32.toInt64 ((nI (tX k)) * (I (q + 2) k))) (pw (tm (tX k - 1) (tY k)))) := by rw [eL176, rd_cw_ne _ _ (by omega)]; exact k169
                have k179 : rd L176 (t + 3) = addC (evY (I (q + 1)) (I (q + 2)) pw k) (gauC (Int32.toInt64 ((nI (tY k)) * (I (q + 1) k))) (Int32.toInt64 ((nI (tY k)) * (I (q + 2) k))) (pw (tm (tX k) (tY k - 1)))) := by rw [eL176, rd_cw]; simp only [k170, k171]
                have k180 : rd L176 (q + 3) = gauC (Int32.toInt64 ((nI (tY k)) * (I (q + 1) k))) (Int32.toInt64 ((nI (tY k)) * (I (q + 2) k))) (pw (tm (tX k) (tY k - 1))) := by rw [eL176, rd_cw_ne _ _ (by omega)]; exact k171
                have k181 : rd L176 (w + 2 + k) = pw k := by rw [eL176, rd_cw_ne _ _ (by omega)]; exact k172
                have k182 : rd L176 (w + 2 + (tm (tX k - 1) (tY k))) = pw (tm (tX k - 1) (tY k)) := by rw [eL176, rd_cw_ne _ _ (by omega)]; exact k173
                have k183 : rd L176 (w + 2 + (tm (tX k) (tY k - 1))) = pw (tm (tX k) (tY k - 1)) := by rw [eL176, rd_cw_ne _ _ (by omega)]; exact k174
                refine x_iinc 196 C [(3, .int (nI (k + 1))), (5, .int (nI (tY k))), (4, .int (nI (tX k))), (0, .ref q), (1, .ref w), (2, .ref t)] dX1_evaluate_196 5 rfl (nI_add k 1) (by decide) rfl ?_
                refine x_goto 199 C 6 dX1_evaluate_199 (by decide) ?_
                refine x_sub [(0, .ref q), (1, .ref w), (2, .ref t), (3, .int (nI (k + 1)))] [3, 4, 5, 0] rfl ?_
                refine ih (k + 1) L176 (by omega) (by omega) ?_ ?_ ?_ ?_
                · rw [k177]; simp [evV, c3, c3o, c4, c94, c115, c115o, hi1, c161, c161o, hj1]
                · rw [k178]; simp [evX, c3, c3o, c4, c94, c115, c115o, hi1, c161, c161o, hj1]
                · rw [k179]; simp [evY, c3, c3o, c4, c94, c115, c115o, hi1, c161, c161o, hj1]
                · intro a g1 g2; rw [eL176, cw_ne _ _ (by omega)]; rw [eL167, cw_ne _ _ (by omega)]; rw [eL153, cw_ne _ _ (by omega)]; rw [eL144, cw_ne _ _ (by omega)]; rw [eL107, cw_ne _ _ (by omega)]; rw [eL98, cw_ne _ _ (by omega)]; exact hp a g1 g2
          · skip
            refine x_goto 30 C 196 dX1_evaluate_30 (by decide) ?_
            refine x_iinc 196 C [(3, .int (nI (k + 1))), (0, .ref q), (1, .ref w), (2, .ref t)] dX1_evaluate_196 3 rfl (nI_add k 1) (by decide) rfl ?_
            refine x_goto 199 C 6 dX1_evaluate_199 (by decide) ?_
            refine x_sub [(0, .ref q), (1, .ref w), (2, .ref t), (3, .int (nI (k + 1)))] [1, 2, 3, 0] rfl ?_
            refine ih (k + 1) Lk (by omega) (by omega) ?_ ?_ ?_ ?_
            · rw [hv]; simp [evV, c3, c3o, c4, c94]
            · rw [hx]; simp [evX, c3, c3o, c4, c94]
            · rw [hy]; simp [evY, c3, c3o, c4, c94]
            · intro a g1 g2; skip; exact hp a g1 g2
  refine x_sub [(0, .ref q), (1, .ref w), (2, .ref t), (3, .int 0)] [1, 2, 3, 0] rfl ?_
  refine loop6 11 0 L2 (by omega) (by omega) (by rw [eL2]; simp [tw, rd_cw, rd_cw_ne, evV]) (by rw [eL2]; simp [tw, rd_cw, rd_cw_ne, evX]) (by rw [eL2]; simp [tw, rd_cw, rd_cw_ne, evY]) ?_
  intro a g1 g2; rw [eL2]; simp only [tw]; rw [cw_ne _ _ (by omega), cw_ne _ _ (by omega), cw_ne _ _ (by omega)]
