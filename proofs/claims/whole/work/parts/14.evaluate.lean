/-! Equation.evaluate: value and slopes at a point whose powers stand in w, into the Tangent t -/
theorem evV_congr {cr ci cr' ci' : Nat → Int32} {pw pw' : Nat → xC} (h1 : ∀ k, k < 10 → cr k = cr' k) (h2 : ∀ k, k < 10 → ci k = ci' k) (h3 : ∀ k, k < 10 → pw k = pw' k) : ∀ k, k ≤ 10 → evV cr ci pw k = evV cr' ci' pw' k
  | 0, _ => rfl
  | k + 1, h => by
    simp only [evV]
    rw [evV_congr h1 h2 h3 k (by omega), h1 k (by omega), h2 k (by omega), h3 k (by omega)]
theorem evX_congr {cr ci cr' ci' : Nat → Int32} {pw pw' : Nat → xC} (h1 : ∀ k, k < 10 → cr k = cr' k) (h2 : ∀ k, k < 10 → ci k = ci' k) (h3 : ∀ k, k < 10 → pw k = pw' k) : ∀ k, k ≤ 10 → evX cr ci pw k = evX cr' ci' pw' k
  | 0, _ => rfl
  | k + 1, h => by
    have hxy := tXY k
    simp only [evX]
    rw [evX_congr h1 h2 h3 k (by omega), h1 k (by omega), h2 k (by omega), h3 _ (tm_lt (show tX k - 1 + tY k ≤ 3 by omega))]
theorem evY_congr {cr ci cr' ci' : Nat → Int32} {pw pw' : Nat → xC} (h1 : ∀ k, k < 10 → cr k = cr' k) (h2 : ∀ k, k < 10 → ci k = ci' k) (h3 : ∀ k, k < 10 → pw k = pw' k) : ∀ k, k ≤ 10 → evY cr ci pw k = evY cr' ci' pw' k
  | 0, _ => rfl
  | k + 1, h => by
    have hxy := tXY k
    simp only [evY]
    rw [evY_congr h1 h2 h3 k (by omega), h1 k (by omega), h2 k (by omega), h3 _ (tm_lt (show tX k + (tY k - 1) ≤ 3 by omega))]
theorem dX1_evaluate_0 : decode cX1_evaluate 0 = .ok (.aload_n 2, 1) := by decide +kernel
theorem dX1_evaluate_1 : decode cX1_evaluate 1 = .ok (.invokevirtual 55, 3) := by decide +kernel
theorem dX1_evaluate_4 : decode cX1_evaluate 4 = .ok (.iconst 0, 1) := by decide +kernel
theorem dX1_evaluate_5 : decode cX1_evaluate 5 = .ok (.istore_n 3, 1) := by decide +kernel
theorem dX1_evaluate_6 : decode cX1_evaluate 6 = .ok (.iload_n 3, 1) := by decide +kernel
theorem dX1_evaluate_7 : decode cX1_evaluate 7 = .ok (.bipush 10, 2) := by decide +kernel
theorem dX1_evaluate_9 : decode cX1_evaluate 9 = .ok (.if_icmp .ge 193, 3) := by decide +kernel
theorem dX1_evaluate_12 : decode cX1_evaluate 12 = .ok (.aload_n 0, 1) := by decide +kernel
theorem dX1_evaluate_13 : decode cX1_evaluate 13 = .ok (.getfield 9, 3) := by decide +kernel
theorem dX1_evaluate_16 : decode cX1_evaluate 16 = .ok (.iload_n 3, 1) := by decide +kernel
theorem dX1_evaluate_17 : decode cX1_evaluate 17 = .ok (.iaload, 1) := by decide +kernel
theorem dX1_evaluate_18 : decode cX1_evaluate 18 = .ok (.ifCond .ne 15, 3) := by decide +kernel
theorem dX1_evaluate_21 : decode cX1_evaluate 21 = .ok (.aload_n 0, 1) := by decide +kernel
theorem dX1_evaluate_22 : decode cX1_evaluate 22 = .ok (.getfield 13, 3) := by decide +kernel
theorem dX1_evaluate_25 : decode cX1_evaluate 25 = .ok (.iload_n 3, 1) := by decide +kernel
theorem dX1_evaluate_26 : decode cX1_evaluate 26 = .ok (.iaload, 1) := by decide +kernel
theorem dX1_evaluate_27 : decode cX1_evaluate 27 = .ok (.ifCond .ne 6, 3) := by decide +kernel
theorem dX1_evaluate_30 : decode cX1_evaluate 30 = .ok (.goto 166, 3) := by decide +kernel
theorem dX1_evaluate_33 : decode cX1_evaluate 33 = .ok (.getstatic 49, 3) := by decide +kernel
theorem dX1_evaluate_36 : decode cX1_evaluate 36 = .ok (.iload_n 3, 1) := by decide +kernel
theorem dX1_evaluate_37 : decode cX1_evaluate 37 = .ok (.iaload, 1) := by decide +kernel
theorem dX1_evaluate_38 : decode cX1_evaluate 38 = .ok (.istore 4, 2) := by decide +kernel
theorem dX1_evaluate_40 : decode cX1_evaluate 40 = .ok (.getstatic 52, 3) := by decide +kernel
theorem dX1_evaluate_43 : decode cX1_evaluate 43 = .ok (.iload_n 3, 1) := by decide +kernel
theorem dX1_evaluate_44 : decode cX1_evaluate 44 = .ok (.iaload, 1) := by decide +kernel
theorem dX1_evaluate_45 : decode cX1_evaluate 45 = .ok (.istore 5, 2) := by decide +kernel
theorem dX1_evaluate_47 : decode cX1_evaluate 47 = .ok (.aload_n 0, 1) := by decide +kernel
theorem dX1_evaluate_48 : decode cX1_evaluate 48 = .ok (.getfield 19, 3) := by decide +kernel
theorem dX1_evaluate_51 : decode cX1_evaluate 51 = .ok (.aload_n 1, 1) := by decide +kernel
theorem dX1_evaluate_52 : decode cX1_evaluate 52 = .ok (.iload_n 3, 1) := by decide +kernel
theorem dX1_evaluate_53 : decode cX1_evaluate 53 = .ok (.invokevirtual 58, 3) := by decide +kernel
theorem dX1_evaluate_56 : decode cX1_evaluate 56 = .ok (.aload_n 0, 1) := by decide +kernel
theorem dX1_evaluate_57 : decode cX1_evaluate 57 = .ok (.getfield 9, 3) := by decide +kernel
theorem dX1_evaluate_60 : decode cX1_evaluate 60 = .ok (.iload_n 3, 1) := by decide +kernel
theorem dX1_evaluate_61 : decode cX1_evaluate 61 = .ok (.iaload, 1) := by decide +kernel
theorem dX1_evaluate_62 : decode cX1_evaluate 62 = .ok (.i2l, 1) := by decide +kernel
theorem dX1_evaluate_63 : decode cX1_evaluate 63 = .ok (.aload_n 0, 1) := by decide +kernel
theorem dX1_evaluate_64 : decode cX1_evaluate 64 = .ok (.getfield 13, 3) := by decide +kernel
theorem dX1_evaluate_67 : decode cX1_evaluate 67 = .ok (.iload_n 3, 1) := by decide +kernel
theorem dX1_evaluate_68 : decode cX1_evaluate 68 = .ok (.iaload, 1) := by decide +kernel
theorem dX1_evaluate_69 : decode cX1_evaluate 69 = .ok (.i2l, 1) := by decide +kernel
theorem dX1_evaluate_70 : decode cX1_evaluate 70 = .ok (.invokevirtual 64, 3) := by decide +kernel
theorem dX1_evaluate_73 : decode cX1_evaluate 73 = .ok (.aload_n 2, 1) := by decide +kernel
theorem dX1_evaluate_74 : decode cX1_evaluate 74 = .ok (.getfield 68, 3) := by decide +kernel
theorem dX1_evaluate_77 : decode cX1_evaluate 77 = .ok (.aload_n 0, 1) := by decide +kernel
theorem dX1_evaluate_78 : decode cX1_evaluate 78 = .ok (.getfield 19, 3) := by decide +kernel
theorem dX1_evaluate_81 : decode cX1_evaluate 81 = .ok (.invokevirtual 71, 3) := by decide +kernel
theorem dX1_evaluate_84 : decode cX1_evaluate 84 = .ok (.iload 4, 2) := by decide +kernel
theorem dX1_evaluate_86 : decode cX1_evaluate 86 = .ok (.ifCond .le 54, 3) := by decide +kernel
theorem dX1_evaluate_89 : decode cX1_evaluate 89 = .ok (.aload_n 0, 1) := by decide +kernel
theorem dX1_evaluate_90 : decode cX1_evaluate 90 = .ok (.getfield 19, 3) := by decide +kernel
theorem dX1_evaluate_93 : decode cX1_evaluate 93 = .ok (.aload_n 1, 1) := by decide +kernel
theorem dX1_evaluate_94 : decode cX1_evaluate 94 = .ok (.iload 4, 2) := by decide +kernel
theorem dX1_evaluate_96 : decode cX1_evaluate 96 = .ok (.iconst 1, 1) := by decide +kernel
theorem dX1_evaluate_97 : decode cX1_evaluate 97 = .ok (.isub, 1) := by decide +kernel
theorem dX1_evaluate_98 : decode cX1_evaluate 98 = .ok (.iload 5, 2) := by decide +kernel
theorem dX1_evaluate_100 : decode cX1_evaluate 100 = .ok (.invokestatic 35, 3) := by decide +kernel
theorem dX1_evaluate_103 : decode cX1_evaluate 103 = .ok (.invokevirtual 58, 3) := by decide +kernel
theorem dX1_evaluate_106 : decode cX1_evaluate 106 = .ok (.iload 4, 2) := by decide +kernel
theorem dX1_evaluate_108 : decode cX1_evaluate 108 = .ok (.aload_n 0, 1) := by decide +kernel
theorem dX1_evaluate_109 : decode cX1_evaluate 109 = .ok (.getfield 9, 3) := by decide +kernel
theorem dX1_evaluate_112 : decode cX1_evaluate 112 = .ok (.iload_n 3, 1) := by decide +kernel
theorem dX1_evaluate_113 : decode cX1_evaluate 113 = .ok (.iaload, 1) := by decide +kernel
theorem dX1_evaluate_114 : decode cX1_evaluate 114 = .ok (.imul, 1) := by decide +kernel
theorem dX1_evaluate_115 : decode cX1_evaluate 115 = .ok (.i2l, 1) := by decide +kernel
theorem dX1_evaluate_116 : decode cX1_evaluate 116 = .ok (.iload 4, 2) := by decide +kernel
theorem dX1_evaluate_118 : decode cX1_evaluate 118 = .ok (.aload_n 0, 1) := by decide +kernel
theorem dX1_evaluate_119 : decode cX1_evaluate 119 = .ok (.getfield 13, 3) := by decide +kernel
theorem dX1_evaluate_122 : decode cX1_evaluate 122 = .ok (.iload_n 3, 1) := by decide +kernel
theorem dX1_evaluate_123 : decode cX1_evaluate 123 = .ok (.iaload, 1) := by decide +kernel
theorem dX1_evaluate_124 : decode cX1_evaluate 124 = .ok (.imul, 1) := by decide +kernel
theorem dX1_evaluate_125 : decode cX1_evaluate 125 = .ok (.i2l, 1) := by decide +kernel
theorem dX1_evaluate_126 : decode cX1_evaluate 126 = .ok (.invokevirtual 64, 3) := by decide +kernel
theorem dX1_evaluate_129 : decode cX1_evaluate 129 = .ok (.aload_n 2, 1) := by decide +kernel
theorem dX1_evaluate_130 : decode cX1_evaluate 130 = .ok (.getfield 75, 3) := by decide +kernel
theorem dX1_evaluate_133 : decode cX1_evaluate 133 = .ok (.aload_n 0, 1) := by decide +kernel
theorem dX1_evaluate_134 : decode cX1_evaluate 134 = .ok (.getfield 19, 3) := by decide +kernel
theorem dX1_evaluate_137 : decode cX1_evaluate 137 = .ok (.invokevirtual 71, 3) := by decide +kernel
theorem dX1_evaluate_140 : decode cX1_evaluate 140 = .ok (.iload 5, 2) := by decide +kernel
theorem dX1_evaluate_142 : decode cX1_evaluate 142 = .ok (.ifCond .le 54, 3) := by decide +kernel
theorem dX1_evaluate_145 : decode cX1_evaluate 145 = .ok (.aload_n 0, 1) := by decide +kernel
theorem dX1_evaluate_146 : decode cX1_evaluate 146 = .ok (.getfield 19, 3) := by decide +kernel
theorem dX1_evaluate_149 : decode cX1_evaluate 149 = .ok (.aload_n 1, 1) := by decide +kernel
theorem dX1_evaluate_150 : decode cX1_evaluate 150 = .ok (.iload 4, 2) := by decide +kernel
theorem dX1_evaluate_152 : decode cX1_evaluate 152 = .ok (.iload 5, 2) := by decide +kernel
theorem dX1_evaluate_154 : decode cX1_evaluate 154 = .ok (.iconst 1, 1) := by decide +kernel
theorem dX1_evaluate_155 : decode cX1_evaluate 155 = .ok (.isub, 1) := by decide +kernel
theorem dX1_evaluate_156 : decode cX1_evaluate 156 = .ok (.invokestatic 35, 3) := by decide +kernel
theorem dX1_evaluate_159 : decode cX1_evaluate 159 = .ok (.invokevirtual 58, 3) := by decide +kernel
theorem dX1_evaluate_162 : decode cX1_evaluate 162 = .ok (.iload 5, 2) := by decide +kernel
theorem dX1_evaluate_164 : decode cX1_evaluate 164 = .ok (.aload_n 0, 1) := by decide +kernel
theorem dX1_evaluate_165 : decode cX1_evaluate 165 = .ok (.getfield 9, 3) := by decide +kernel
theorem dX1_evaluate_168 : decode cX1_evaluate 168 = .ok (.iload_n 3, 1) := by decide +kernel
theorem dX1_evaluate_169 : decode cX1_evaluate 169 = .ok (.iaload, 1) := by decide +kernel
theorem dX1_evaluate_170 : decode cX1_evaluate 170 = .ok (.imul, 1) := by decide +kernel
theorem dX1_evaluate_171 : decode cX1_evaluate 171 = .ok (.i2l, 1) := by decide +kernel
theorem dX1_evaluate_172 : decode cX1_evaluate 172 = .ok (.iload 5, 2) := by decide +kernel
theorem dX1_evaluate_174 : decode cX1_evaluate 174 = .ok (.aload_n 0, 1) := by decide +kernel
theorem dX1_evaluate_175 : decode cX1_evaluate 175 = .ok (.getfield 13, 3) := by decide +kernel
theorem dX1_evaluate_178 : decode cX1_evaluate 178 = .ok (.iload_n 3, 1) := by decide +kernel
theorem dX1_evaluate_179 : decode cX1_evaluate 179 = .ok (.iaload, 1) := by decide +kernel
theorem dX1_evaluate_180 : decode cX1_evaluate 180 = .ok (.imul, 1) := by decide +kernel
theorem dX1_evaluate_181 : decode cX1_evaluate 181 = .ok (.i2l, 1) := by decide +kernel
theorem dX1_evaluate_182 : decode cX1_evaluate 182 = .ok (.invokevirtual 64, 3) := by decide +kernel
theorem dX1_evaluate_185 : decode cX1_evaluate 185 = .ok (.aload_n 2, 1) := by decide +kernel
theorem dX1_evaluate_186 : decode cX1_evaluate 186 = .ok (.getfield 78, 3) := by decide +kernel
theorem dX1_evaluate_189 : decode cX1_evaluate 189 = .ok (.aload_n 0, 1) := by decide +kernel
theorem dX1_evaluate_190 : decode cX1_evaluate 190 = .ok (.getfield 19, 3) := by decide +kernel
theorem dX1_evaluate_193 : decode cX1_evaluate 193 = .ok (.invokevirtual 71, 3) := by decide +kernel
theorem dX1_evaluate_196 : decode cX1_evaluate 196 = .ok (.iinc 3 1, 3) := by decide +kernel
theorem dX1_evaluate_199 : decode cX1_evaluate 199 = .ok (.goto (-193), 3) := by decide +kernel
theorem dX1_evaluate_202 : decode cX1_evaluate 202 = .ok (.return_, 1) := by decide +kernel
set_option maxHeartbeats 4000000 in
set_option maxRecDepth 100000 in
theorem t_X1_evaluate (l : Launch) (D : xD) (z n : Nat) (G : xG) (I : xI) (L : xL) (q : Nat) (w : Nat) (t : Nat) (pw : Nat → xC) (hE : shE G q) (hW : shW G w) (hT : shT G t) (zq : z ≤ q) (zt : z ≤ t) (dqw : q + 3 < w ∨ w + 12 ≤ q) (dtw : t + 3 < w ∨ w + 12 ≤ t) (dqt : q + 3 < t ∨ t + 3 < q) (hpw : ∀ k, k < 10 → rd L (w + 2 + k) = pw k) : xM0 l D z yX1_evaluate cX1_evaluate 6 none 2 49 [.ref q, .ref w, .ref t] n G I L (fun v' I' L' => v' = none ∧ I' = I ∧ (rd L' (t + 1) = evV (I (q + 1)) (I (q + 2)) pw 10) ∧ (rd L' (t + 2) = evX (I (q + 1)) (I (q + 2)) pw 10) ∧ (rd L' (t + 3) = evY (I (q + 1)) (I (q + 2)) pw 10) ∧ (∀ a, a ≠ q + 3 → (a < t + 1 ∨ t + 3 < a) → L' a = L a)) := by
  refine xM.of (by decide) (Nat.le_of_ble_eq_true rfl) (fun p e s m args below meth c C hnm hsz => ?_)
  refine x_lv [(0, .ref q), (1, .ref w), (2, .ref t)] rfl ?_
  refine x_aload_n 0 C dX1_evaluate_0 rfl 2 rfl ?_
  refine x_callVe 1 C dX1_evaluate_1 (As := []) (rest := []) [] (t_X10_clear l D z n G I L t hT (by omega)) mt_X10_clear km_X1_55 ki_X10_clear ks_X10_clear hT.1 ⟨by decide, rfl⟩ rfl rfl (Nat.le_of_ble_eq_true rfl) ⟨⟨by decide, by decide⟩, by decide, by decide⟩ (fun I1 L2 eI1 eL2 => ?_)
  replace eI1 := eI1.symm; subst eI1
  have k3 : rd L2 (t + 1) = (0, 0) := by rw [eL2, tw, rd_cw_ne _ _ (by omega), rd_cw_ne _ _ (by omega), rd_cw]
  refine x_iconst 4 C (v := 0) dX1_evaluate_4 rfl ?_
  refine x_istore_n 5 C [(3, .int 0), (0, .ref q), (1, .ref w), (2, .ref t)] dX1_evaluate_5 rfl (by decide) rfl ?_
  have loop6 : ∀ (fuel : Nat) (k : Nat) (Lk : xL), (k ≤ 10) → (11 ≤ k + fuel) → (rd Lk (t + 1) = evV (I (q + 1)) (I (q + 2)) pw k) → (rd Lk (t + 2) = evX (I (q + 1)) (I (q + 2)) pw k) → (rd Lk (t + 3) = evY (I (q + 1)) (I (q + 2)) pw k) → (∀ a, a ≠ q + 3 → (a < t + 1 ∨ t + 3 < a) → Lk a = L a) → X p l e (xRm 2 49 0 0) s m args below meth c D z 6 (MQ below (xQc D z n (xN n G (fun v' I' L' => v' = none ∧ I' = I ∧ (rd L' (t + 1) = evV (I (q + 1)) (I (q + 2)) pw 10) ∧ (rd L' (t + 2) = evX (I (q + 1)) (I (q + 2)) pw 10) ∧ (rd L' (t + 3) = evY (I (q + 1)) (I (q + 2)) pw 10) ∧ (∀ a, a ≠ q + 3 → (a < t + 1 ∨ t + 3 < a) → L' a = L a)))) args s 0 0 (fun a => z ≤ a)) 0 0 n G I Lk 6 [(0, .ref q), (1, .ref w), (2, .ref t), (3, .int (nI k))] [] := by
    intro fuel
    induction fuel with
    | zero =>
      intro k Lk hk hf hv hx hy hp
      exact absurd hf (by omega)
    | succ fuel ih =>
      intro k Lk hk hf hv hx hy hp
      have hxy := tXY k
      have htm1 := tm_lt (i := tX k - 1) (j := tY k) (by omega)
      have htm2 := tm_lt (i := tX k) (j := tY k - 1) (by omega)
      refine x_iload_n 6 C dX1_evaluate_6 rfl 3 rfl ?_
      refine x_bipush 7 C (v := 10) dX1_evaluate_7 rfl ?_
      refine x_icmp_ge 9 C 202 dX1_evaluate_9 (by decide) (fun c4 => ?_) (fun c4 => ?_)
      · skip
        have c4n : 10 ≤ k := (nI_leI (a := 10) (b := k) (by omega) (by omega)).mp c4
        have c4o := Int32.not_lt.mpr c4
        refine x_vret 202 C dX1_evaluate_202 rfl (Nat.le_refl _) (xN.intro ?_)
        have hk10 : k = 10 := by omega
        subst hk10
        exact ⟨rfl, rfl, hv, hx, hy, hp⟩
      · skip
        have c4n : ¬ (10 ≤ k) := fun h => c4 ((nI_leI (a := 10) (b := k) (by omega) (by omega)).mpr h)
        have c4o := Int32.not_le.mp c4
        have hk10 : k < 10 := by omega
        have hq0 : rd Lk (w + 2 + k) = pw k := (rd_congr (hp _ (by omega) (by omega))).trans (hpw k (by omega))
        have hq1 : rd Lk (w + 2 + (tm (tX k - 1) (tY k))) = pw (tm (tX k - 1) (tY k)) := (rd_congr (hp _ (by omega) (by omega))).trans (hpw _ htm1)
        have hq2 : rd Lk (w + 2 + (tm (tX k) (tY k - 1))) = pw (tm (tX k) (tY k - 1)) := (rd_congr (hp _ (by omega) (by omega))).trans (hpw _ htm2)
        refine x_aload_n 12 C dX1_evaluate_12 rfl 0 rfl ?_
        refine x_getr 13 C (b := q + 1) dX1_evaluate_13 ff_X1_9 rfl hE.1 rfl ?_
        refine x_iload_n 16 C dX1_evaluate_16 rfl 3 rfl ?_
        refine x_iald 17 C (j := k) dX1_evaluate_17 hE.2.1 (xIx_nI (by omega) (by decide)) ?_
        refine x_if_ne 18 C 33 dX1_evaluate_18 (by decide) (fun c5 => ?_) (fun c5 => ?_)
        · skip
          refine x_gets 33 C (k0 := 0) dX1_evaluate_33 rfl kf_X1_49 ?_
          refine x_iload_n 36 C dX1_evaluate_36 rfl 3 rfl ?_
          refine x_stald 37 C (j := k) dX1_evaluate_37 (k0 := 0) rfl (xIx_nI (len := 10) (by omega) (by decide)) ?_
          refine x_int (nI (tX k)) (xPx_n k) ?_
          refine x_istore 38 C [(4, .int (nI (tX k))), (0, .ref q), (1, .ref w), (2, .ref t), (3, .int (nI k))] dX1_evaluate_38 (by decide) rfl ?_
          refine x_gets 40 C (k0 := 1) dX1_evaluate_40 rfl kf_X1_52 ?_
          refine x_iload_n 43 C dX1_evaluate_43 rfl 4 rfl ?_
          refine x_stald 44 C (j := k) dX1_evaluate_44 (k0 := 1) rfl (xIx_nI (len := 10) (by omega) (by decide)) ?_
          refine x_int (nI (tY k)) (xPy_n k) ?_
          refine x_istore 45 C [(5, .int (nI (tY k))), (4, .int (nI (tX k))), (0, .ref q), (1, .ref w), (2, .ref t), (3, .int (nI k))] dX1_evaluate_45 (by decide) rfl ?_
          refine x_aload_n 47 C dX1_evaluate_47 rfl 2 rfl ?_
          refine x_getr 48 C (b := q + 3) dX1_evaluate_48 ff_X1_19 rfl hE.1 rfl ?_
          refine x_aload_n 51 C dX1_evaluate_51 rfl 3 rfl ?_
          refine x_iload_n 52 C dX1_evaluate_52 rfl 5 rfl ?_
          refine x_callVe 53 C dX1_evaluate_53 (As := [.int (nI k)]) (rest := [.ref (q + 3)]) [.ref (w + 2 + k), .ref (q + 3)] (t_X7_at l D z n G I Lk w k hW (by first | assumption | omega)) mt_X7_at km_X1_58 ki_X7_at ks_X7_at hW.1 ⟨by decide, rfl⟩ rfl rfl (Nat.le_of_ble_eq_true rfl) ⟨⟨by decide, by decide⟩, by decide, by decide⟩ (fun I6 L7 eI6 eL7 => ?_)
          replace eI6 := eI6.symm; subst eI6
          replace eL7 := eL7.symm; subst eL7
          refine x_aload_n 56 C dX1_evaluate_56 rfl 2 rfl ?_
          refine x_getr 57 C (b := q + 1) dX1_evaluate_57 ff_X1_9 rfl hE.1 rfl ?_
          refine x_iload_n 60 C dX1_evaluate_60 rfl 5 rfl ?_
          refine x_iald 61 C (j := k) dX1_evaluate_61 hE.2.1 (xIx_nI (by omega) (by decide)) ?_
          refine x_i2l 62 C dX1_evaluate_62 ?_
          refine x_aload_n 63 C dX1_evaluate_63 rfl 2 rfl ?_
          refine x_getr 64 C (b := q + 2) dX1_evaluate_64 ff_X1_13 rfl hE.1 rfl ?_
          refine x_iload_n 67 C dX1_evaluate_67 rfl 5 rfl ?_
          refine x_iald 68 C (j := k) dX1_evaluate_68 hE.2.2.1 (xIx_nI (by omega) (by decide)) ?_
          refine x_i2l 69 C dX1_evaluate_69 ?_
          refine x_callVe 70 C dX1_evaluate_70 (As := [.ref (w + 2 + k), .long (Int32.toInt64 (I (q + 1) k)), .long (Int32.toInt64 (I (q + 2) k))]) (rest := []) [] (t_X0_putTimesGaussian_c l D z n G I Lk (q + 3) (w + 2 + k) (Int32.toInt64 (I (q + 1) k)) (Int32.toInt64 (I (q + 2) k)) hE.2.2.2 (hW.2.2 k (by omega)) (by omega)) mt_X0_putTimesGaussian km_X1_64 ki_X0_putTimesGaussian ks_X0_putTimesGaussian hE.2.2.2 ⟨by decide, rfl⟩ rfl rfl (Nat.le_of_ble_eq_true rfl) ⟨⟨by decide, by decide⟩, by decide, by decide⟩ (fun I8 L9 eI8 eL9 => ?_)
          replace eI8 := eI8.symm; subst eI8
          have k10 : rd L9 (t + 1) = evV (I (q + 1)) (I (q + 2)) pw k := by rw [eL9, rd_cw_ne _ _ (by omega)]; exact hv
          have k11 : rd L9 (t + 2) = evX (I (q + 1)) (I (q + 2)) pw k := by rw [eL9, rd_cw_ne _ _ (by omega)]; exact hx
          have k12 : rd L9 (t + 3) = evY (I (q + 1)) (I (q + 2)) pw k := by rw [eL9, rd_cw_ne _ _ (by omega)]; exact hy
          have k13 : rd L9 (q + 3) = gauC (Int32.toInt64 (I (q + 1) k)) (Int32.toInt64 (I (q + 2) k)) (pw k) := by rw [eL9, rd_cw]; simp only [hq0]
          have k14 : rd L9 (w + 2 + k) = pw k := by rw [eL9, rd_cw_ne _ _ (by omega)]; exact hq0
          have k15 : rd L9 (w + 2 + (tm (tX k - 1) (tY k))) = pw (tm (tX k - 1) (tY k)) := by rw [eL9, rd_cw_ne _ _ (by omega)]; exact hq1
          have k16 : rd L9 (w + 2 + (tm (tX k) (tY k - 1))) = pw (tm (tX k) (tY k - 1)) := by rw [eL9, rd_cw_ne _ _ (by omega)]; exact hq2
          refine x_aload_n 73 C dX1_evaluate_73 rfl 4 rfl ?_
          refine x_getr 74 C (b := t + 1) dX1_evaluate_74 ff_X1_68 rfl hT.1 rfl ?_
          refine x_aload_n 77 C dX1_evaluate_77 rfl 2 rfl ?_
          refine x_getr 78 C (b := q + 3) dX1_evaluate_78 ff_X1_19 rfl hE.1 rfl ?_
          refine x_callVe 81 C dX1_evaluate_81 (As := [.ref (q + 3)]) (rest := []) [] (t_X0_add_c l D z n G I L9 (t + 1) (q + 3) hT.2.1 hE.2.2.2 (by omega)) mt_X0_add km_X1_71 ki_X0_add ks_X0_add hT.2.1 ⟨by decide, rfl⟩ rfl rfl (Nat.le_of_ble_eq_true rfl) ⟨⟨by decide, by decide⟩, by decide, by decide⟩ (fun I17 L18 eI17 eL18 => ?_)
          replace eI17 := eI17.symm; subst eI17
          have k19 : rd L18 (t + 1) = addC (evV (I (q + 1)) (I (q + 2)) pw k) (gauC (Int32.toInt64 (I (q + 1) k)) (Int32.toInt64 (I (q + 2) k)) (pw k)) := by rw [eL18, rd_cw]; simp only [k10, k13]
          have k20 : rd L18 (t + 2) = evX (I (q + 1)) (I (q + 2)) pw k := by rw [eL18, rd_cw_ne _ _ (by omega)]; exact k11
          have k21 : rd L18 (t + 3) = evY (I (q + 1)) (I (q + 2)) pw k := by rw [eL18, rd_cw_ne _ _ (by omega)]; exact k12
          have k22 : rd L18 (q + 3) = gauC (Int32.toInt64 (I (q + 1) k)) (Int32.toInt64 (I (q + 2) k)) (pw k) := by rw [eL18, rd_cw_ne _ _ (by omega)]; exact k13
          have k23 : rd L18 (w + 2 + k) = pw k := by rw [eL18, rd_cw_ne _ _ (by omega)]; exact k14
          have k24 : rd L18 (w + 2 + (tm (tX k - 1) (tY k))) = pw (tm (tX k - 1) (tY k)) := by rw [eL18, rd_cw_ne _ _ (by omega)]; exact k15
          have k25 : rd L18 (w + 2 + (tm (tX k) (tY k - 1))) = pw (tm (tX k) (tY k - 1)) := by rw [eL18, rd_cw_ne _ _ (by omega)]; exact k16
          refine x_iload 84 C dX1_evaluate_84 1 rfl ?_
          refine x_if_le 86 C 140 dX1_evaluate_86 (by decide) (fun c26 => ?_) (fun c26 => ?_)
          · skip
            have c26n : (tX k) ≤ 0 := (nI_leI (a := (tX k)) (b := 0) (by omega) (by omega)).mp c26
            have c26o := Int32.not_lt.mpr c26
            have hi0 : ¬ 0 < tX k := by omega
            refine x_iload 140 C dX1_evaluate_140 0 rfl ?_
            refine x_if_le 142 C 196 dX1_evaluate_142 (by decide) (fun c27 => ?_) (fun c27 => ?_)
            · skip
              have c27n : (tY k) ≤ 0 := (nI_leI (a := (tY k)) (b := 0) (by omega) (by omega)).mp c27
              have c27o := Int32.not_lt.mpr c27
              have hj0 : ¬ 0 < tY k := by omega
              refine x_iinc 196 C [(3, .int (nI (k + 1))), (5, .int (nI (tY k))), (4, .int (nI (tX k))), (0, .ref q), (1, .ref w), (2, .ref t)] dX1_evaluate_196 5 rfl (nI_add k 1) (by decide) rfl ?_
              refine x_goto 199 C 6 dX1_evaluate_199 (by decide) ?_
              refine x_sub [(0, .ref q), (1, .ref w), (2, .ref t), (3, .int (nI (k + 1)))] [3, 4, 5, 0] rfl ?_
              refine ih (k + 1) L18 (by omega) (by omega) ?_ ?_ ?_ ?_
              · rw [k19]; simp [evV, c4, c4o, c5, c26, c26o, hi0, c27, c27o, hj0]
              · rw [k20]; simp [evX, c4, c4o, c5, c26, c26o, hi0, c27, c27o, hj0]
              · rw [k21]; simp [evY, c4, c4o, c5, c26, c26o, hi0, c27, c27o, hj0]
              · intro a g1 g2; rw [eL18, cw_ne _ _ (by omega)]; rw [eL9, cw_ne _ _ (by omega)]; exact hp a g1 g2
            · skip
              have c27n : ¬ ((tY k) ≤ 0) := fun h => c27 ((nI_leI (a := (tY k)) (b := 0) (by omega) (by omega)).mpr h)
              have c27o := Int32.not_le.mp c27
              have hj1 : 0 < tY k := by omega
              refine x_aload_n 145 C dX1_evaluate_145 rfl 2 rfl ?_
              refine x_getr 146 C (b := q + 3) dX1_evaluate_146 ff_X1_19 rfl hE.1 rfl ?_
              refine x_aload_n 149 C dX1_evaluate_149 rfl 3 rfl ?_
              refine x_iload 150 C dX1_evaluate_150 1 rfl ?_
              refine x_iload 152 C dX1_evaluate_152 0 rfl ?_
              refine x_iconst 154 C (v := 1) dX1_evaluate_154 rfl ?_
              refine x_isub 155 C dX1_evaluate_155 ?_
              refine x_int (nI (tY k - 1)) (nI_sub (a := (tY k)) (b := 1) (by omega)) ?_
              refine x_callSe 156 C dX1_evaluate_156 (As := [.int (nI (tX k)), .int (nI (tY k - 1))]) (rest := [.ref w, .ref (q + 3)]) [.int (nI (tm (tX k) (tY k - 1))), .ref w, .ref (q + 3)] (t_X1_termOf l D z n G I L18 (tX k) (tY k - 1) (by first | assumption | omega)) mt_X1_termOf km_X1_35 kt_X1_termOf rfl rfl (Nat.le_of_ble_eq_true rfl) ⟨⟨by decide, by decide⟩, by decide, by decide⟩ (fun I28 L29 eI28 eL29 => ?_)
              replace eI28 := eI28.symm; subst eI28
              replace eL29 := eL29.symm; subst eL29
              refine x_callVe 159 C dX1_evaluate_159 (As := [.int (nI (tm (tX k) (tY k - 1)))]) (rest := [.ref (q + 3)]) [.ref (w + 2 + (tm (tX k) (tY k - 1))), .ref (q + 3)] (t_X7_at l D z n G I L18 w (tm (tX k) (tY k - 1)) hW (by first | assumption | omega)) mt_X7_at km_X1_58 ki_X7_at ks_X7_at hW.1 ⟨by decide, rfl⟩ rfl rfl (Nat.le_of_ble_eq_true rfl) ⟨⟨by decide, by decide⟩, by decide, by decide⟩ (fun I30 L31 eI30 eL31 => ?_)
              replace eI30 := eI30.symm; subst eI30
              replace eL31 := eL31.symm; subst eL31
              refine x_iload 162 C dX1_evaluate_162 0 rfl ?_
              refine x_aload_n 164 C dX1_evaluate_164 rfl 2 rfl ?_
              refine x_getr 165 C (b := q + 1) dX1_evaluate_165 ff_X1_9 rfl hE.1 rfl ?_
              refine x_iload_n 168 C dX1_evaluate_168 rfl 5 rfl ?_
              refine x_iald 169 C (j := k) dX1_evaluate_169 hE.2.1 (xIx_nI (by omega) (by decide)) ?_
              refine x_imul 170 C dX1_evaluate_170 ?_
              refine x_i2l 171 C dX1_evaluate_171 ?_
              refine x_iload 172 C dX1_evaluate_172 0 rfl ?_
              refine x_aload_n 174 C dX1_evaluate_174 rfl 2 rfl ?_
              refine x_getr 175 C (b := q + 2) dX1_evaluate_175 ff_X1_13 rfl hE.1 rfl ?_
              refine x_iload_n 178 C dX1_evaluate_178 rfl 5 rfl ?_
              refine x_iald 179 C (j := k) dX1_evaluate_179 hE.2.2.1 (xIx_nI (by omega) (by decide)) ?_
              refine x_imul 180 C dX1_evaluate_180 ?_
              refine x_i2l 181 C dX1_evaluate_181 ?_
              refine x_callVe 182 C dX1_evaluate_182 (As := [.ref (w + 2 + (tm (tX k) (tY k - 1))), .long (Int32.toInt64 ((nI (tY k)) * (I (q + 1) k))), .long (Int32.toInt64 ((nI (tY k)) * (I (q + 2) k)))]) (rest := []) [] (t_X0_putTimesGaussian_c l D z n G I L18 (q + 3) (w + 2 + (tm (tX k) (tY k - 1))) (Int32.toInt64 ((nI (tY k)) * (I (q + 1) k))) (Int32.toInt64 ((nI (tY k)) * (I (q + 2) k))) hE.2.2.2 (hW.2.2 _ htm2) (by omega)) mt_X0_putTimesGaussian km_X1_64 ki_X0_putTimesGaussian ks_X0_putTimesGaussian hE.2.2.2 ⟨by decide, rfl⟩ rfl rfl (Nat.le_of_ble_eq_true rfl) ⟨⟨by decide, by decide⟩, by decide, by decide⟩ (fun I32 L33 eI32 eL33 => ?_)
              replace eI32 := eI32.symm; subst eI32
              have k34 : rd L33 (t + 1) = addC (evV (I (q + 1)) (I (q + 2)) pw k) (gauC (Int32.toInt64 (I (q + 1) k)) (Int32.toInt64 (I (q + 2) k)) (pw k)) := by rw [eL33, rd_cw_ne _ _ (by omega)]; exact k19
              have k35 : rd L33 (t + 2) = evX (I (q + 1)) (I (q + 2)) pw k := by rw [eL33, rd_cw_ne _ _ (by omega)]; exact k20
              have k36 : rd L33 (t + 3) = evY (I (q + 1)) (I (q + 2)) pw k := by rw [eL33, rd_cw_ne _ _ (by omega)]; exact k21
              have k37 : rd L33 (q + 3) = gauC (Int32.toInt64 ((nI (tY k)) * (I (q + 1) k))) (Int32.toInt64 ((nI (tY k)) * (I (q + 2) k))) (pw (tm (tX k) (tY k - 1))) := by rw [eL33, rd_cw]; simp only [k25]
              have k38 : rd L33 (w + 2 + k) = pw k := by rw [eL33, rd_cw_ne _ _ (by omega)]; exact k23
              have k39 : rd L33 (w + 2 + (tm (tX k - 1) (tY k))) = pw (tm (tX k - 1) (tY k)) := by rw [eL33, rd_cw_ne _ _ (by omega)]; exact k24
              have k40 : rd L33 (w + 2 + (tm (tX k) (tY k - 1))) = pw (tm (tX k) (tY k - 1)) := by rw [eL33, rd_cw_ne _ _ (by omega)]; exact k25
              refine x_aload_n 185 C dX1_evaluate_185 rfl 4 rfl ?_
              refine x_getr 186 C (b := t + 3) dX1_evaluate_186 ff_X1_78 rfl hT.1 rfl ?_
              refine x_aload_n 189 C dX1_evaluate_189 rfl 2 rfl ?_
              refine x_getr 190 C (b := q + 3) dX1_evaluate_190 ff_X1_19 rfl hE.1 rfl ?_
              refine x_callVe 193 C dX1_evaluate_193 (As := [.ref (q + 3)]) (rest := []) [] (t_X0_add_c l D z n G I L33 (t + 3) (q + 3) hT.2.2.2 hE.2.2.2 (by omega)) mt_X0_add km_X1_71 ki_X0_add ks_X0_add hT.2.2.2 ⟨by decide, rfl⟩ rfl rfl (Nat.le_of_ble_eq_true rfl) ⟨⟨by decide, by decide⟩, by decide, by decide⟩ (fun I41 L42 eI41 eL42 => ?_)
              replace eI41 := eI41.symm; subst eI41
              have k43 : rd L42 (t + 1) = addC (evV (I (q + 1)) (I (q + 2)) pw k) (gauC (Int32.toInt64 (I (q + 1) k)) (Int32.toInt64 (I (q + 2) k)) (pw k)) := by rw [eL42, rd_cw_ne _ _ (by omega)]; exact k34
              have k44 : rd L42 (t + 2) = evX (I (q + 1)) (I (q + 2)) pw k := by rw [eL42, rd_cw_ne _ _ (by omega)]; exact k35
              have k45 : rd L42 (t + 3) = addC (evY (I (q + 1)) (I (q + 2)) pw k) (gauC (Int32.toInt64 ((nI (tY k)) * (I (q + 1) k))) (Int32.toInt64 ((nI (tY k)) * (I (q + 2) k))) (pw (tm (tX k) (tY k - 1)))) := by rw [eL42, rd_cw]; simp only [k36, k37]
              have k46 : rd L42 (q + 3) = gauC (Int32.toInt64 ((nI (tY k)) * (I (q + 1) k))) (Int32.toInt64 ((nI (tY k)) * (I (q + 2) k))) (pw (tm (tX k) (tY k - 1))) := by rw [eL42, rd_cw_ne _ _ (by omega)]; exact k37
              have k47 : rd L42 (w + 2 + k) = pw k := by rw [eL42, rd_cw_ne _ _ (by omega)]; exact k38
              have k48 : rd L42 (w + 2 + (tm (tX k - 1) (tY k))) = pw (tm (tX k - 1) (tY k)) := by rw [eL42, rd_cw_ne _ _ (by omega)]; exact k39
              have k49 : rd L42 (w + 2 + (tm (tX k) (tY k - 1))) = pw (tm (tX k) (tY k - 1)) := by rw [eL42, rd_cw_ne _ _ (by omega)]; exact k40
              refine x_iinc 196 C [(3, .int (nI (k + 1))), (5, .int (nI (tY k))), (4, .int (nI (tX k))), (0, .ref q), (1, .ref w), (2, .ref t)] dX1_evaluate_196 5 rfl (nI_add k 1) (by decide) rfl ?_
              refine x_goto 199 C 6 dX1_evaluate_199 (by decide) ?_
              refine x_sub [(0, .ref q), (1, .ref w), (2, .ref t), (3, .int (nI (k + 1)))] [3, 4, 5, 0] rfl ?_
              refine ih (k + 1) L42 (by omega) (by omega) ?_ ?_ ?_ ?_
              · rw [k43]; simp [evV, c4, c4o, c5, c26, c26o, hi0, c27, c27o, hj1]
              · rw [k44]; simp [evX, c4, c4o, c5, c26, c26o, hi0, c27, c27o, hj1]
              · rw [k45]; simp [evY, c4, c4o, c5, c26, c26o, hi0, c27, c27o, hj1]
              · intro a g1 g2; rw [eL42, cw_ne _ _ (by omega)]; rw [eL33, cw_ne _ _ (by omega)]; rw [eL18, cw_ne _ _ (by omega)]; rw [eL9, cw_ne _ _ (by omega)]; exact hp a g1 g2
          · skip
            have c26n : ¬ ((tX k) ≤ 0) := fun h => c26 ((nI_leI (a := (tX k)) (b := 0) (by omega) (by omega)).mpr h)
            have c26o := Int32.not_le.mp c26
            have hi1 : 0 < tX k := by omega
            refine x_aload_n 89 C dX1_evaluate_89 rfl 2 rfl ?_
            refine x_getr 90 C (b := q + 3) dX1_evaluate_90 ff_X1_19 rfl hE.1 rfl ?_
            refine x_aload_n 93 C dX1_evaluate_93 rfl 3 rfl ?_
            refine x_iload 94 C dX1_evaluate_94 1 rfl ?_
            refine x_iconst 96 C (v := 1) dX1_evaluate_96 rfl ?_
            refine x_isub 97 C dX1_evaluate_97 ?_
            refine x_int (nI (tX k - 1)) (nI_sub (a := (tX k)) (b := 1) (by omega)) ?_
            refine x_iload 98 C dX1_evaluate_98 0 rfl ?_
            refine x_callSe 100 C dX1_evaluate_100 (As := [.int (nI (tX k - 1)), .int (nI (tY k))]) (rest := [.ref w, .ref (q + 3)]) [.int (nI (tm (tX k - 1) (tY k))), .ref w, .ref (q + 3)] (t_X1_termOf l D z n G I L18 (tX k - 1) (tY k) (by first | assumption | omega)) mt_X1_termOf km_X1_35 kt_X1_termOf rfl rfl (Nat.le_of_ble_eq_true rfl) ⟨⟨by decide, by decide⟩, by decide, by decide⟩ (fun I50 L51 eI50 eL51 => ?_)
            replace eI50 := eI50.symm; subst eI50
            replace eL51 := eL51.symm; subst eL51
            refine x_callVe 103 C dX1_evaluate_103 (As := [.int (nI (tm (tX k - 1) (tY k)))]) (rest := [.ref (q + 3)]) [.ref (w + 2 + (tm (tX k - 1) (tY k))), .ref (q + 3)] (t_X7_at l D z n G I L18 w (tm (tX k - 1) (tY k)) hW (by first | assumption | omega)) mt_X7_at km_X1_58 ki_X7_at ks_X7_at hW.1 ⟨by decide, rfl⟩ rfl rfl (Nat.le_of_ble_eq_true rfl) ⟨⟨by decide, by decide⟩, by decide, by decide⟩ (fun I52 L53 eI52 eL53 => ?_)
            replace eI52 := eI52.symm; subst eI52
            replace eL53 := eL53.symm; subst eL53
            refine x_iload 106 C dX1_evaluate_106 1 rfl ?_
            refine x_aload_n 108 C dX1_evaluate_108 rfl 2 rfl ?_
            refine x_getr 109 C (b := q + 1) dX1_evaluate_109 ff_X1_9 rfl hE.1 rfl ?_
            refine x_iload_n 112 C dX1_evaluate_112 rfl 5 rfl ?_
            refine x_iald 113 C (j := k) dX1_evaluate_113 hE.2.1 (xIx_nI (by omega) (by decide)) ?_
            refine x_imul 114 C dX1_evaluate_114 ?_
            refine x_i2l 115 C dX1_evaluate_115 ?_
            refine x_iload 116 C dX1_evaluate_116 1 rfl ?_
            refine x_aload_n 118 C dX1_evaluate_118 rfl 2 rfl ?_
            refine x_getr 119 C (b := q + 2) dX1_evaluate_119 ff_X1_13 rfl hE.1 rfl ?_
            refine x_iload_n 122 C dX1_evaluate_122 rfl 5 rfl ?_
            refine x_iald 123 C (j := k) dX1_evaluate_123 hE.2.2.1 (xIx_nI (by omega) (by decide)) ?_
            refine x_imul 124 C dX1_evaluate_124 ?_
            refine x_i2l 125 C dX1_evaluate_125 ?_
            refine x_callVe 126 C dX1_evaluate_126 (As := [.ref (w + 2 + (tm (tX k - 1) (tY k))), .long (Int32.toInt64 ((nI (tX k)) * (I (q + 1) k))), .long (Int32.toInt64 ((nI (tX k)) * (I (q + 2) k)))]) (rest := []) [] (t_X0_putTimesGaussian_c l D z n G I L18 (q + 3) (w + 2 + (tm (tX k - 1) (tY k))) (Int32.toInt64 ((nI (tX k)) * (I (q + 1) k))) (Int32.toInt64 ((nI (tX k)) * (I (q + 2) k))) hE.2.2.2 (hW.2.2 _ htm1) (by omega)) mt_X0_putTimesGaussian km_X1_64 ki_X0_putTimesGaussian ks_X0_putTimesGaussian hE.2.2.2 ⟨by decide, rfl⟩ rfl rfl (Nat.le_of_ble_eq_true rfl) ⟨⟨by decide, by decide⟩, by decide, by decide⟩ (fun I54 L55 eI54 eL55 => ?_)
            replace eI54 := eI54.symm; subst eI54
            have k56 : rd L55 (t + 1) = addC (evV (I (q + 1)) (I (q + 2)) pw k) (gauC (Int32.toInt64 (I (q + 1) k)) (Int32.toInt64 (I (q + 2) k)) (pw k)) := by rw [eL55, rd_cw_ne _ _ (by omega)]; exact k19
            have k57 : rd L55 (t + 2) = evX (I (q + 1)) (I (q + 2)) pw k := by rw [eL55, rd_cw_ne _ _ (by omega)]; exact k20
            have k58 : rd L55 (t + 3) = evY (I (q + 1)) (I (q + 2)) pw k := by rw [eL55, rd_cw_ne _ _ (by omega)]; exact k21
            have k59 : rd L55 (q + 3) = gauC (Int32.toInt64 ((nI (tX k)) * (I (q + 1) k))) (Int32.toInt64 ((nI (tX k)) * (I (q + 2) k))) (pw (tm (tX k - 1) (tY k))) := by rw [eL55, rd_cw]; simp only [k24]
            have k60 : rd L55 (w + 2 + k) = pw k := by rw [eL55, rd_cw_ne _ _ (by omega)]; exact k23
            have k61 : rd L55 (w + 2 + (tm (tX k - 1) (tY k))) = pw (tm (tX k - 1) (tY k)) := by rw [eL55, rd_cw_ne _ _ (by omega)]; exact k24
            have k62 : rd L55 (w + 2 + (tm (tX k) (tY k - 1))) = pw (tm (tX k) (tY k - 1)) := by rw [eL55, rd_cw_ne _ _ (by omega)]; exact k25
            refine x_aload_n 129 C dX1_evaluate_129 rfl 4 rfl ?_
            refine x_getr 130 C (b := t + 2) dX1_evaluate_130 ff_X1_75 rfl hT.1 rfl ?_
            refine x_aload_n 133 C dX1_evaluate_133 rfl 2 rfl ?_
            refine x_getr 134 C (b := q + 3) dX1_evaluate_134 ff_X1_19 rfl hE.1 rfl ?_
            refine x_callVe 137 C dX1_evaluate_137 (As := [.ref (q + 3)]) (rest := []) [] (t_X0_add_c l D z n G I L55 (t + 2) (q + 3) hT.2.2.1 hE.2.2.2 (by omega)) mt_X0_add km_X1_71 ki_X0_add ks_X0_add hT.2.2.1 ⟨by decide, rfl⟩ rfl rfl (Nat.le_of_ble_eq_true rfl) ⟨⟨by decide, by decide⟩, by decide, by decide⟩ (fun I63 L64 eI63 eL64 => ?_)
            replace eI63 := eI63.symm; subst eI63
            have k65 : rd L64 (t + 1) = addC (evV (I (q + 1)) (I (q + 2)) pw k) (gauC (Int32.toInt64 (I (q + 1) k)) (Int32.toInt64 (I (q + 2) k)) (pw k)) := by rw [eL64, rd_cw_ne _ _ (by omega)]; exact k56
            have k66 : rd L64 (t + 2) = addC (evX (I (q + 1)) (I (q + 2)) pw k) (gauC (Int32.toInt64 ((nI (tX k)) * (I (q + 1) k))) (Int32.toInt64 ((nI (tX k)) * (I (q + 2) k))) (pw (tm (tX k - 1) (tY k)))) := by rw [eL64, rd_cw]; simp only [k57, k59]
            have k67 : rd L64 (t + 3) = evY (I (q + 1)) (I (q + 2)) pw k := by rw [eL64, rd_cw_ne _ _ (by omega)]; exact k58
            have k68 : rd L64 (q + 3) = gauC (Int32.toInt64 ((nI (tX k)) * (I (q + 1) k))) (Int32.toInt64 ((nI (tX k)) * (I (q + 2) k))) (pw (tm (tX k - 1) (tY k))) := by rw [eL64, rd_cw_ne _ _ (by omega)]; exact k59
            have k69 : rd L64 (w + 2 + k) = pw k := by rw [eL64, rd_cw_ne _ _ (by omega)]; exact k60
            have k70 : rd L64 (w + 2 + (tm (tX k - 1) (tY k))) = pw (tm (tX k - 1) (tY k)) := by rw [eL64, rd_cw_ne _ _ (by omega)]; exact k61
            have k71 : rd L64 (w + 2 + (tm (tX k) (tY k - 1))) = pw (tm (tX k) (tY k - 1)) := by rw [eL64, rd_cw_ne _ _ (by omega)]; exact k62
            refine x_iload 140 C dX1_evaluate_140 0 rfl ?_
            refine x_if_le 142 C 196 dX1_evaluate_142 (by decide) (fun c72 => ?_) (fun c72 => ?_)
            · skip
              have c72n : (tY k) ≤ 0 := (nI_leI (a := (tY k)) (b := 0) (by omega) (by omega)).mp c72
              have c72o := Int32.not_lt.mpr c72
              have hj0 : ¬ 0 < tY k := by omega
              refine x_iinc 196 C [(3, .int (nI (k + 1))), (5, .int (nI (tY k))), (4, .int (nI (tX k))), (0, .ref q), (1, .ref w), (2, .ref t)] dX1_evaluate_196 5 rfl (nI_add k 1) (by decide) rfl ?_
              refine x_goto 199 C 6 dX1_evaluate_199 (by decide) ?_
              refine x_sub [(0, .ref q), (1, .ref w), (2, .ref t), (3, .int (nI (k + 1)))] [3, 4, 5, 0] rfl ?_
              refine ih (k + 1) L64 (by omega) (by omega) ?_ ?_ ?_ ?_
              · rw [k65]; simp [evV, c4, c4o, c5, c26, c26o, hi1, c72, c72o, hj0]
              · rw [k66]; simp [evX, c4, c4o, c5, c26, c26o, hi1, c72, c72o, hj0]
              · rw [k67]; simp [evY, c4, c4o, c5, c26, c26o, hi1, c72, c72o, hj0]
              · intro a g1 g2; rw [eL64, cw_ne _ _ (by omega)]; rw [eL55, cw_ne _ _ (by omega)]; rw [eL18, cw_ne _ _ (by omega)]; rw [eL9, cw_ne _ _ (by omega)]; exact hp a g1 g2
            · skip
              have c72n : ¬ ((tY k) ≤ 0) := fun h => c72 ((nI_leI (a := (tY k)) (b := 0) (by omega) (by omega)).mpr h)
              have c72o := Int32.not_le.mp c72
              have hj1 : 0 < tY k := by omega
              refine x_aload_n 145 C dX1_evaluate_145 rfl 2 rfl ?_
              refine x_getr 146 C (b := q + 3) dX1_evaluate_146 ff_X1_19 rfl hE.1 rfl ?_
              refine x_aload_n 149 C dX1_evaluate_149 rfl 3 rfl ?_
              refine x_iload 150 C dX1_evaluate_150 1 rfl ?_
              refine x_iload 152 C dX1_evaluate_152 0 rfl ?_
              refine x_iconst 154 C (v := 1) dX1_evaluate_154 rfl ?_
              refine x_isub 155 C dX1_evaluate_155 ?_
              refine x_int (nI (tY k - 1)) (nI_sub (a := (tY k)) (b := 1) (by omega)) ?_
              refine x_callSe 156 C dX1_evaluate_156 (As := [.int (nI (tX k)), .int (nI (tY k - 1))]) (rest := [.ref w, .ref (q + 3)]) [.int (nI (tm (tX k) (tY k - 1))), .ref w, .ref (q + 3)] (t_X1_termOf l D z n G I L64 (tX k) (tY k - 1) (by first | assumption | omega)) mt_X1_termOf km_X1_35 kt_X1_termOf rfl rfl (Nat.le_of_ble_eq_true rfl) ⟨⟨by decide, by decide⟩, by decide, by decide⟩ (fun I73 L74 eI73 eL74 => ?_)
              replace eI73 := eI73.symm; subst eI73
              replace eL74 := eL74.symm; subst eL74
              refine x_callVe 159 C dX1_evaluate_159 (As := [.int (nI (tm (tX k) (tY k - 1)))]) (rest := [.ref (q + 3)]) [.ref (w + 2 + (tm (tX k) (tY k - 1))), .ref (q + 3)] (t_X7_at l D z n G I L64 w (tm (tX k) (tY k - 1)) hW (by first | assumption | omega)) mt_X7_at km_X1_58 ki_X7_at ks_X7_at hW.1 ⟨by decide, rfl⟩ rfl rfl (Nat.le_of_ble_eq_true rfl) ⟨⟨by decide, by decide⟩, by decide, by decide⟩ (fun I75 L76 eI75 eL76 => ?_)
              replace eI75 := eI75.symm; subst eI75
              replace eL76 := eL76.symm; subst eL76
              refine x_iload 162 C dX1_evaluate_162 0 rfl ?_
              refine x_aload_n 164 C dX1_evaluate_164 rfl 2 rfl ?_
              refine x_getr 165 C (b := q + 1) dX1_evaluate_165 ff_X1_9 rfl hE.1 rfl ?_
              refine x_iload_n 168 C dX1_evaluate_168 rfl 5 rfl ?_
              refine x_iald 169 C (j := k) dX1_evaluate_169 hE.2.1 (xIx_nI (by omega) (by decide)) ?_
              refine x_imul 170 C dX1_evaluate_170 ?_
              refine x_i2l 171 C dX1_evaluate_171 ?_
              refine x_iload 172 C dX1_evaluate_172 0 rfl ?_
              refine x_aload_n 174 C dX1_evaluate_174 rfl 2 rfl ?_
              refine x_getr 175 C (b := q + 2) dX1_evaluate_175 ff_X1_13 rfl hE.1 rfl ?_
              refine x_iload_n 178 C dX1_evaluate_178 rfl 5 rfl ?_
              refine x_iald 179 C (j := k) dX1_evaluate_179 hE.2.2.1 (xIx_nI (by omega) (by decide)) ?_
              refine x_imul 180 C dX1_evaluate_180 ?_
              refine x_i2l 181 C dX1_evaluate_181 ?_
              refine x_callVe 182 C dX1_evaluate_182 (As := [.ref (w + 2 + (tm (tX k) (tY k - 1))), .long (Int32.toInt64 ((nI (tY k)) * (I (q + 1) k))), .long (Int32.toInt64 ((nI (tY k)) * (I (q + 2) k)))]) (rest := []) [] (t_X0_putTimesGaussian_c l D z n G I L64 (q + 3) (w + 2 + (tm (tX k) (tY k - 1))) (Int32.toInt64 ((nI (tY k)) * (I (q + 1) k))) (Int32.toInt64 ((nI (tY k)) * (I (q + 2) k))) hE.2.2.2 (hW.2.2 _ htm2) (by omega)) mt_X0_putTimesGaussian km_X1_64 ki_X0_putTimesGaussian ks_X0_putTimesGaussian hE.2.2.2 ⟨by decide, rfl⟩ rfl rfl (Nat.le_of_ble_eq_true rfl) ⟨⟨by decide, by decide⟩, by decide, by decide⟩ (fun I77 L78 eI77 eL78 => ?_)
              replace eI77 := eI77.symm; subst eI77
              have k79 : rd L78 (t + 1) = addC (evV (I (q + 1)) (I (q + 2)) pw k) (gauC (Int32.toInt64 (I (q + 1) k)) (Int32.toInt64 (I (q + 2) k)) (pw k)) := by rw [eL78, rd_cw_ne _ _ (by omega)]; exact k65
              have k80 : rd L78 (t + 2) = addC (evX (I (q + 1)) (I (q + 2)) pw k) (gauC (Int32.toInt64 ((nI (tX k)) * (I (q + 1) k))) (Int32.toInt64 ((nI (tX k)) * (I (q + 2) k))) (pw (tm (tX k - 1) (tY k)))) := by rw [eL78, rd_cw_ne _ _ (by omega)]; exact k66
              have k81 : rd L78 (t + 3) = evY (I (q + 1)) (I (q + 2)) pw k := by rw [eL78, rd_cw_ne _ _ (by omega)]; exact k67
              have k82 : rd L78 (q + 3) = gauC (Int32.toInt64 ((nI (tY k)) * (I (q + 1) k))) (Int32.toInt64 ((nI (tY k)) * (I (q + 2) k))) (pw (tm (tX k) (tY k - 1))) := by rw [eL78, rd_cw]; simp only [k71]
              have k83 : rd L78 (w + 2 + k) = pw k := by rw [eL78, rd_cw_ne _ _ (by omega)]; exact k69
              have k84 : rd L78 (w + 2 + (tm (tX k - 1) (tY k))) = pw (tm (tX k - 1) (tY k)) := by rw [eL78, rd_cw_ne _ _ (by omega)]; exact k70
              have k85 : rd L78 (w + 2 + (tm (tX k) (tY k - 1))) = pw (tm (tX k) (tY k - 1)) := by rw [eL78, rd_cw_ne _ _ (by omega)]; exact k71
              refine x_aload_n 185 C dX1_evaluate_185 rfl 4 rfl ?_
              refine x_getr 186 C (b := t + 3) dX1_evaluate_186 ff_X1_78 rfl hT.1 rfl ?_
              refine x_aload_n 189 C dX1_evaluate_189 rfl 2 rfl ?_
              refine x_getr 190 C (b := q + 3) dX1_evaluate_190 ff_X1_19 rfl hE.1 rfl ?_
              refine x_callVe 193 C dX1_evaluate_193 (As := [.ref (q + 3)]) (rest := []) [] (t_X0_add_c l D z n G I L78 (t + 3) (q + 3) hT.2.2.2 hE.2.2.2 (by omega)) mt_X0_add km_X1_71 ki_X0_add ks_X0_add hT.2.2.2 ⟨by decide, rfl⟩ rfl rfl (Nat.le_of_ble_eq_true rfl) ⟨⟨by decide, by decide⟩, by decide, by decide⟩ (fun I86 L87 eI86 eL87 => ?_)
              replace eI86 := eI86.symm; subst eI86
              have k88 : rd L87 (t + 1) = addC (evV (I (q + 1)) (I (q + 2)) pw k) (gauC (Int32.toInt64 (I (q + 1) k)) (Int32.toInt64 (I (q + 2) k)) (pw k)) := by rw [eL87, rd_cw_ne _ _ (by omega)]; exact k79
              have k89 : rd L87 (t + 2) = addC (evX (I (q + 1)) (I (q + 2)) pw k) (gauC (Int32.toInt64 ((nI (tX k)) * (I (q + 1) k))) (Int32.toInt64 ((nI (tX k)) * (I (q + 2) k))) (pw (tm (tX k - 1) (tY k)))) := by rw [eL87, rd_cw_ne _ _ (by omega)]; exact k80
              have k90 : rd L87 (t + 3) = addC (evY (I (q + 1)) (I (q + 2)) pw k) (gauC (Int32.toInt64 ((nI (tY k)) * (I (q + 1) k))) (Int32.toInt64 ((nI (tY k)) * (I (q + 2) k))) (pw (tm (tX k) (tY k - 1)))) := by rw [eL87, rd_cw]; simp only [k81, k82]
              have k91 : rd L87 (q + 3) = gauC (Int32.toInt64 ((nI (tY k)) * (I (q + 1) k))) (Int32.toInt64 ((nI (tY k)) * (I (q + 2) k))) (pw (tm (tX k) (tY k - 1))) := by rw [eL87, rd_cw_ne _ _ (by omega)]; exact k82
              have k92 : rd L87 (w + 2 + k) = pw k := by rw [eL87, rd_cw_ne _ _ (by omega)]; exact k83
              have k93 : rd L87 (w + 2 + (tm (tX k - 1) (tY k))) = pw (tm (tX k - 1) (tY k)) := by rw [eL87, rd_cw_ne _ _ (by omega)]; exact k84
              have k94 : rd L87 (w + 2 + (tm (tX k) (tY k - 1))) = pw (tm (tX k) (tY k - 1)) := by rw [eL87, rd_cw_ne _ _ (by omega)]; exact k85
              refine x_iinc 196 C [(3, .int (nI (k + 1))), (5, .int (nI (tY k))), (4, .int (nI (tX k))), (0, .ref q), (1, .ref w), (2, .ref t)] dX1_evaluate_196 5 rfl (nI_add k 1) (by decide) rfl ?_
              refine x_goto 199 C 6 dX1_evaluate_199 (by decide) ?_
              refine x_sub [(0, .ref q), (1, .ref w), (2, .ref t), (3, .int (nI (k + 1)))] [3, 4, 5, 0] rfl ?_
              refine ih (k + 1) L87 (by omega) (by omega) ?_ ?_ ?_ ?_
              · rw [k88]; simp [evV, c4, c4o, c5, c26, c26o, hi1, c72, c72o, hj1]
              · rw [k89]; simp [evX, c4, c4o, c5, c26, c26o, hi1, c72, c72o, hj1]
              · rw [k90]; simp [evY, c4, c4o, c5, c26, c26o, hi1, c72, c72o, hj1]
              · intro a g1 g2; rw [eL87, cw_ne _ _ (by omega)]; rw [eL78, cw_ne _ _ (by omega)]; rw [eL64, cw_ne _ _ (by omega)]; rw [eL55, cw_ne _ _ (by omega)]; rw [eL18, cw_ne _ _ (by omega)]; rw [eL9, cw_ne _ _ (by omega)]; exact hp a g1 g2
        · skip
          refine x_aload_n 21 C dX1_evaluate_21 rfl 0 rfl ?_
          refine x_getr 22 C (b := q + 2) dX1_evaluate_22 ff_X1_13 rfl hE.1 rfl ?_
          refine x_iload_n 25 C dX1_evaluate_25 rfl 3 rfl ?_
          refine x_iald 26 C (j := k) dX1_evaluate_26 hE.2.2.1 (xIx_nI (by omega) (by decide)) ?_
          refine x_if_ne 27 C 33 dX1_evaluate_27 (by decide) (fun c95 => ?_) (fun c95 => ?_)
          · skip
            refine x_gets 33 C (k0 := 0) dX1_evaluate_33 rfl kf_X1_49 ?_
            refine x_iload_n 36 C dX1_evaluate_36 rfl 3 rfl ?_
            refine x_stald 37 C (j := k) dX1_evaluate_37 (k0 := 0) rfl (xIx_nI (len := 10) (by omega) (by decide)) ?_
            refine x_int (nI (tX k)) (xPx_n k) ?_
            refine x_istore 38 C [(4, .int (nI (tX k))), (0, .ref q), (1, .ref w), (2, .ref t), (3, .int (nI k))] dX1_evaluate_38 (by decide) rfl ?_
            refine x_gets 40 C (k0 := 1) dX1_evaluate_40 rfl kf_X1_52 ?_
            refine x_iload_n 43 C dX1_evaluate_43 rfl 4 rfl ?_
            refine x_stald 44 C (j := k) dX1_evaluate_44 (k0 := 1) rfl (xIx_nI (len := 10) (by omega) (by decide)) ?_
            refine x_int (nI (tY k)) (xPy_n k) ?_
            refine x_istore 45 C [(5, .int (nI (tY k))), (4, .int (nI (tX k))), (0, .ref q), (1, .ref w), (2, .ref t), (3, .int (nI k))] dX1_evaluate_45 (by decide) rfl ?_
            refine x_aload_n 47 C dX1_evaluate_47 rfl 2 rfl ?_
            refine x_getr 48 C (b := q + 3) dX1_evaluate_48 ff_X1_19 rfl hE.1 rfl ?_
            refine x_aload_n 51 C dX1_evaluate_51 rfl 3 rfl ?_
            refine x_iload_n 52 C dX1_evaluate_52 rfl 5 rfl ?_
            refine x_callVe 53 C dX1_evaluate_53 (As := [.int (nI k)]) (rest := [.ref (q + 3)]) [.ref (w + 2 + k), .ref (q + 3)] (t_X7_at l D z n G I Lk w k hW (by first | assumption | omega)) mt_X7_at km_X1_58 ki_X7_at ks_X7_at hW.1 ⟨by decide, rfl⟩ rfl rfl (Nat.le_of_ble_eq_true rfl) ⟨⟨by decide, by decide⟩, by decide, by decide⟩ (fun I96 L97 eI96 eL97 => ?_)
            replace eI96 := eI96.symm; subst eI96
            replace eL97 := eL97.symm; subst eL97
            refine x_aload_n 56 C dX1_evaluate_56 rfl 2 rfl ?_
            refine x_getr 57 C (b := q + 1) dX1_evaluate_57 ff_X1_9 rfl hE.1 rfl ?_
            refine x_iload_n 60 C dX1_evaluate_60 rfl 5 rfl ?_
            refine x_iald 61 C (j := k) dX1_evaluate_61 hE.2.1 (xIx_nI (by omega) (by decide)) ?_
            refine x_i2l 62 C dX1_evaluate_62 ?_
            refine x_aload_n 63 C dX1_evaluate_63 rfl 2 rfl ?_
            refine x_getr 64 C (b := q + 2) dX1_evaluate_64 ff_X1_13 rfl hE.1 rfl ?_
            refine x_iload_n 67 C dX1_evaluate_67 rfl 5 rfl ?_
            refine x_iald 68 C (j := k) dX1_evaluate_68 hE.2.2.1 (xIx_nI (by omega) (by decide)) ?_
            refine x_i2l 69 C dX1_evaluate_69 ?_
            refine x_callVe 70 C dX1_evaluate_70 (As := [.ref (w + 2 + k), .long (Int32.toInt64 (I (q + 1) k)), .long (Int32.toInt64 (I (q + 2) k))]) (rest := []) [] (t_X0_putTimesGaussian_c l D z n G I Lk (q + 3) (w + 2 + k) (Int32.toInt64 (I (q + 1) k)) (Int32.toInt64 (I (q + 2) k)) hE.2.2.2 (hW.2.2 k (by omega)) (by omega)) mt_X0_putTimesGaussian km_X1_64 ki_X0_putTimesGaussian ks_X0_putTimesGaussian hE.2.2.2 ⟨by decide, rfl⟩ rfl rfl (Nat.le_of_ble_eq_true rfl) ⟨⟨by decide, by decide⟩, by decide, by decide⟩ (fun I98 L99 eI98 eL99 => ?_)
            replace eI98 := eI98.symm; subst eI98
            have k100 : rd L99 (t + 1) = evV (I (q + 1)) (I (q + 2)) pw k := by rw [eL99, rd_cw_ne _ _ (by omega)]; exact hv
            have k101 : rd L99 (t + 2) = evX (I (q + 1)) (I (q + 2)) pw k := by rw [eL99, rd_cw_ne _ _ (by omega)]; exact hx
            have k102 : rd L99 (t + 3) = evY (I (q + 1)) (I (q + 2)) pw k := by rw [eL99, rd_cw_ne _ _ (by omega)]; exact hy
            have k103 : rd L99 (q + 3) = gauC (Int32.toInt64 (I (q + 1) k)) (Int32.toInt64 (I (q + 2) k)) (pw k) := by rw [eL99, rd_cw]; simp only [hq0]
            have k104 : rd L99 (w + 2 + k) = pw k := by rw [eL99, rd_cw_ne _ _ (by omega)]; exact hq0
            have k105 : rd L99 (w + 2 + (tm (tX k - 1) (tY k))) = pw (tm (tX k - 1) (tY k)) := by rw [eL99, rd_cw_ne _ _ (by omega)]; exact hq1
            have k106 : rd L99 (w + 2 + (tm (tX k) (tY k - 1))) = pw (tm (tX k) (tY k - 1)) := by rw [eL99, rd_cw_ne _ _ (by omega)]; exact hq2
            refine x_aload_n 73 C dX1_evaluate_73 rfl 4 rfl ?_
            refine x_getr 74 C (b := t + 1) dX1_evaluate_74 ff_X1_68 rfl hT.1 rfl ?_
            refine x_aload_n 77 C dX1_evaluate_77 rfl 2 rfl ?_
            refine x_getr 78 C (b := q + 3) dX1_evaluate_78 ff_X1_19 rfl hE.1 rfl ?_
            refine x_callVe 81 C dX1_evaluate_81 (As := [.ref (q + 3)]) (rest := []) [] (t_X0_add_c l D z n G I L99 (t + 1) (q + 3) hT.2.1 hE.2.2.2 (by omega)) mt_X0_add km_X1_71 ki_X0_add ks_X0_add hT.2.1 ⟨by decide, rfl⟩ rfl rfl (Nat.le_of_ble_eq_true rfl) ⟨⟨by decide, by decide⟩, by decide, by decide⟩ (fun I107 L108 eI107 eL108 => ?_)
            replace eI107 := eI107.symm; subst eI107
            have k109 : rd L108 (t + 1) = addC (evV (I (q + 1)) (I (q + 2)) pw k) (gauC (Int32.toInt64 (I (q + 1) k)) (Int32.toInt64 (I (q + 2) k)) (pw k)) := by rw [eL108, rd_cw]; simp only [k100, k103]
            have k110 : rd L108 (t + 2) = evX (I (q + 1)) (I (q + 2)) pw k := by rw [eL108, rd_cw_ne _ _ (by omega)]; exact k101
            have k111 : rd L108 (t + 3) = evY (I (q + 1)) (I (q + 2)) pw k := by rw [eL108, rd_cw_ne _ _ (by omega)]; exact k102
            have k112 : rd L108 (q + 3) = gauC (Int32.toInt64 (I (q + 1) k)) (Int32.toInt64 (I (q + 2) k)) (pw k) := by rw [eL108, rd_cw_ne _ _ (by omega)]; exact k103
            have k113 : rd L108 (w + 2 + k) = pw k := by rw [eL108, rd_cw_ne _ _ (by omega)]; exact k104
            have k114 : rd L108 (w + 2 + (tm (tX k - 1) (tY k))) = pw (tm (tX k - 1) (tY k)) := by rw [eL108, rd_cw_ne _ _ (by omega)]; exact k105
            have k115 : rd L108 (w + 2 + (tm (tX k) (tY k - 1))) = pw (tm (tX k) (tY k - 1)) := by rw [eL108, rd_cw_ne _ _ (by omega)]; exact k106
            refine x_iload 84 C dX1_evaluate_84 1 rfl ?_
            refine x_if_le 86 C 140 dX1_evaluate_86 (by decide) (fun c116 => ?_) (fun c116 => ?_)
            · skip
              have c116n : (tX k) ≤ 0 := (nI_leI (a := (tX k)) (b := 0) (by omega) (by omega)).mp c116
              have c116o := Int32.not_lt.mpr c116
              have hi0 : ¬ 0 < tX k := by omega
              refine x_iload 140 C dX1_evaluate_140 0 rfl ?_
              refine x_if_le 142 C 196 dX1_evaluate_142 (by decide) (fun c117 => ?_) (fun c117 => ?_)
              · skip
                have c117n : (tY k) ≤ 0 := (nI_leI (a := (tY k)) (b := 0) (by omega) (by omega)).mp c117
                have c117o := Int32.not_lt.mpr c117
                have hj0 : ¬ 0 < tY k := by omega
                refine x_iinc 196 C [(3, .int (nI (k + 1))), (5, .int (nI (tY k))), (4, .int (nI (tX k))), (0, .ref q), (1, .ref w), (2, .ref t)] dX1_evaluate_196 5 rfl (nI_add k 1) (by decide) rfl ?_
                refine x_goto 199 C 6 dX1_evaluate_199 (by decide) ?_
                refine x_sub [(0, .ref q), (1, .ref w), (2, .ref t), (3, .int (nI (k + 1)))] [3, 4, 5, 0] rfl ?_
                refine ih (k + 1) L108 (by omega) (by omega) ?_ ?_ ?_ ?_
                · rw [k109]; simp [evV, c4, c4o, c5, c95, c116, c116o, hi0, c117, c117o, hj0]
                · rw [k110]; simp [evX, c4, c4o, c5, c95, c116, c116o, hi0, c117, c117o, hj0]
                · rw [k111]; simp [evY, c4, c4o, c5, c95, c116, c116o, hi0, c117, c117o, hj0]
                · intro a g1 g2; rw [eL108, cw_ne _ _ (by omega)]; rw [eL99, cw_ne _ _ (by omega)]; exact hp a g1 g2
              · skip
                have c117n : ¬ ((tY k) ≤ 0) := fun h => c117 ((nI_leI (a := (tY k)) (b := 0) (by omega) (by omega)).mpr h)
                have c117o := Int32.not_le.mp c117
                have hj1 : 0 < tY k := by omega
                refine x_aload_n 145 C dX1_evaluate_145 rfl 2 rfl ?_
                refine x_getr 146 C (b := q + 3) dX1_evaluate_146 ff_X1_19 rfl hE.1 rfl ?_
                refine x_aload_n 149 C dX1_evaluate_149 rfl 3 rfl ?_
                refine x_iload 150 C dX1_evaluate_150 1 rfl ?_
                refine x_iload 152 C dX1_evaluate_152 0 rfl ?_
                refine x_iconst 154 C (v := 1) dX1_evaluate_154 rfl ?_
                refine x_isub 155 C dX1_evaluate_155 ?_
                refine x_int (nI (tY k - 1)) (nI_sub (a := (tY k)) (b := 1) (by omega)) ?_
                refine x_callSe 156 C dX1_evaluate_156 (As := [.int (nI (tX k)), .int (nI (tY k - 1))]) (rest := [.ref w, .ref (q + 3)]) [.int (nI (tm (tX k) (tY k - 1))), .ref w, .ref (q + 3)] (t_X1_termOf l D z n G I L108 (tX k) (tY k - 1) (by first | assumption | omega)) mt_X1_termOf km_X1_35 kt_X1_termOf rfl rfl (Nat.le_of_ble_eq_true rfl) ⟨⟨by decide, by decide⟩, by decide, by decide⟩ (fun I118 L119 eI118 eL119 => ?_)
                replace eI118 := eI118.symm; subst eI118
                replace eL119 := eL119.symm; subst eL119
                refine x_callVe 159 C dX1_evaluate_159 (As := [.int (nI (tm (tX k) (tY k - 1)))]) (rest := [.ref (q + 3)]) [.ref (w + 2 + (tm (tX k) (tY k - 1))), .ref (q + 3)] (t_X7_at l D z n G I L108 w (tm (tX k) (tY k - 1)) hW (by first | assumption | omega)) mt_X7_at km_X1_58 ki_X7_at ks_X7_at hW.1 ⟨by decide, rfl⟩ rfl rfl (Nat.le_of_ble_eq_true rfl) ⟨⟨by decide, by decide⟩, by decide, by decide⟩ (fun I120 L121 eI120 eL121 => ?_)
                replace eI120 := eI120.symm; subst eI120
                replace eL121 := eL121.symm; subst eL121
                refine x_iload 162 C dX1_evaluate_162 0 rfl ?_
                refine x_aload_n 164 C dX1_evaluate_164 rfl 2 rfl ?_
                refine x_getr 165 C (b := q + 1) dX1_evaluate_165 ff_X1_9 rfl hE.1 rfl ?_
                refine x_iload_n 168 C dX1_evaluate_168 rfl 5 rfl ?_
                refine x_iald 169 C (j := k) dX1_evaluate_169 hE.2.1 (xIx_nI (by omega) (by decide)) ?_
                refine x_imul 170 C dX1_evaluate_170 ?_
                refine x_i2l 171 C dX1_evaluate_171 ?_
                refine x_iload 172 C dX1_evaluate_172 0 rfl ?_
                refine x_aload_n 174 C dX1_evaluate_174 rfl 2 rfl ?_
                refine x_getr 175 C (b := q + 2) dX1_evaluate_175 ff_X1_13 rfl hE.1 rfl ?_
                refine x_iload_n 178 C dX1_evaluate_178 rfl 5 rfl ?_
                refine x_iald 179 C (j := k) dX1_evaluate_179 hE.2.2.1 (xIx_nI (by omega) (by decide)) ?_
                refine x_imul 180 C dX1_evaluate_180 ?_
                refine x_i2l 181 C dX1_evaluate_181 ?_
                refine x_callVe 182 C dX1_evaluate_182 (As := [.ref (w + 2 + (tm (tX k) (tY k - 1))), .long (Int32.toInt64 ((nI (tY k)) * (I (q + 1) k))), .long (Int32.toInt64 ((nI (tY k)) * (I (q + 2) k)))]) (rest := []) [] (t_X0_putTimesGaussian_c l D z n G I L108 (q + 3) (w + 2 + (tm (tX k) (tY k - 1))) (Int32.toInt64 ((nI (tY k)) * (I (q + 1) k))) (Int32.toInt64 ((nI (tY k)) * (I (q + 2) k))) hE.2.2.2 (hW.2.2 _ htm2) (by omega)) mt_X0_putTimesGaussian km_X1_64 ki_X0_putTimesGaussian ks_X0_putTimesGaussian hE.2.2.2 ⟨by decide, rfl⟩ rfl rfl (Nat.le_of_ble_eq_true rfl) ⟨⟨by decide, by decide⟩, by decide, by decide⟩ (fun I122 L123 eI122 eL123 => ?_)
                replace eI122 := eI122.symm; subst eI122
                have k124 : rd L123 (t + 1) = addC (evV (I (q + 1)) (I (q + 2)) pw k) (gauC (Int32.toInt64 (I (q + 1) k)) (Int32.toInt64 (I (q + 2) k)) (pw k)) := by rw [eL123, rd_cw_ne _ _ (by omega)]; exact k109
                have k125 : rd L123 (t + 2) = evX (I (q + 1)) (I (q + 2)) pw k := by rw [eL123, rd_cw_ne _ _ (by omega)]; exact k110
                have k126 : rd L123 (t + 3) = evY (I (q + 1)) (I (q + 2)) pw k := by rw [eL123, rd_cw_ne _ _ (by omega)]; exact k111
                have k127 : rd L123 (q + 3) = gauC (Int32.toInt64 ((nI (tY k)) * (I (q + 1) k))) (Int32.toInt64 ((nI (tY k)) * (I (q + 2) k))) (pw (tm (tX k) (tY k - 1))) := by rw [eL123, rd_cw]; simp only [k115]
                have k128 : rd L123 (w + 2 + k) = pw k := by rw [eL123, rd_cw_ne _ _ (by omega)]; exact k113
                have k129 : rd L123 (w + 2 + (tm (tX k - 1) (tY k))) = pw (tm (tX k - 1) (tY k)) := by rw [eL123, rd_cw_ne _ _ (by omega)]; exact k114
                have k130 : rd L123 (w + 2 + (tm (tX k) (tY k - 1))) = pw (tm (tX k) (tY k - 1)) := by rw [eL123, rd_cw_ne _ _ (by omega)]; exact k115
                refine x_aload_n 185 C dX1_evaluate_185 rfl 4 rfl ?_
                refine x_getr 186 C (b := t + 3) dX1_evaluate_186 ff_X1_78 rfl hT.1 rfl ?_
                refine x_aload_n 189 C dX1_evaluate_189 rfl 2 rfl ?_
                refine x_getr 190 C (b := q + 3) dX1_evaluate_190 ff_X1_19 rfl hE.1 rfl ?_
                refine x_callVe 193 C dX1_evaluate_193 (As := [.ref (q + 3)]) (rest := []) [] (t_X0_add_c l D z n G I L123 (t + 3) (q + 3) hT.2.2.2 hE.2.2.2 (by omega)) mt_X0_add km_X1_71 ki_X0_add ks_X0_add hT.2.2.2 ⟨by decide, rfl⟩ rfl rfl (Nat.le_of_ble_eq_true rfl) ⟨⟨by decide, by decide⟩, by decide, by decide⟩ (fun I131 L132 eI131 eL132 => ?_)
                replace eI131 := eI131.symm; subst eI131
                have k133 : rd L132 (t + 1) = addC (evV (I (q + 1)) (I (q + 2)) pw k) (gauC (Int32.toInt64 (I (q + 1) k)) (Int32.toInt64 (I (q + 2) k)) (pw k)) := by rw [eL132, rd_cw_ne _ _ (by omega)]; exact k124
                have k134 : rd L132 (t + 2) = evX (I (q + 1)) (I (q + 2)) pw k := by rw [eL132, rd_cw_ne _ _ (by omega)]; exact k125
                have k135 : rd L132 (t + 3) = addC (evY (I (q + 1)) (I (q + 2)) pw k) (gauC (Int32.toInt64 ((nI (tY k)) * (I (q + 1) k))) (Int32.toInt64 ((nI (tY k)) * (I (q + 2) k))) (pw (tm (tX k) (tY k - 1)))) := by rw [eL132, rd_cw]; simp only [k126, k127]
                have k136 : rd L132 (q + 3) = gauC (Int32.toInt64 ((nI (tY k)) * (I (q + 1) k))) (Int32.toInt64 ((nI (tY k)) * (I (q + 2) k))) (pw (tm (tX k) (tY k - 1))) := by rw [eL132, rd_cw_ne _ _ (by omega)]; exact k127
                have k137 : rd L132 (w + 2 + k) = pw k := by rw [eL132, rd_cw_ne _ _ (by omega)]; exact k128
                have k138 : rd L132 (w + 2 + (tm (tX k - 1) (tY k))) = pw (tm (tX k - 1) (tY k)) := by rw [eL132, rd_cw_ne _ _ (by omega)]; exact k129
                have k139 : rd L132 (w + 2 + (tm (tX k) (tY k - 1))) = pw (tm (tX k) (tY k - 1)) := by rw [eL132, rd_cw_ne _ _ (by omega)]; exact k130
                refine x_iinc 196 C [(3, .int (nI (k + 1))), (5, .int (nI (tY k))), (4, .int (nI (tX k))), (0, .ref q), (1, .ref w), (2, .ref t)] dX1_evaluate_196 5 rfl (nI_add k 1) (by decide) rfl ?_
                refine x_goto 199 C 6 dX1_evaluate_199 (by decide) ?_
                refine x_sub [(0, .ref q), (1, .ref w), (2, .ref t), (3, .int (nI (k + 1)))] [3, 4, 5, 0] rfl ?_
                refine ih (k + 1) L132 (by omega) (by omega) ?_ ?_ ?_ ?_
                · rw [k133]; simp [evV, c4, c4o, c5, c95, c116, c116o, hi0, c117, c117o, hj1]
                · rw [k134]; simp [evX, c4, c4o, c5, c95, c116, c116o, hi0, c117, c117o, hj1]
                · rw [k135]; simp [evY, c4, c4o, c5, c95, c116, c116o, hi0, c117, c117o, hj1]
                · intro a g1 g2; rw [eL132, cw_ne _ _ (by omega)]; rw [eL123, cw_ne _ _ (by omega)]; rw [eL108, cw_ne _ _ (by omega)]; rw [eL99, cw_ne _ _ (by omega)]; exact hp a g1 g2
            · skip
              have c116n : ¬ ((tX k) ≤ 0) := fun h => c116 ((nI_leI (a := (tX k)) (b := 0) (by omega) (by omega)).mpr h)
              have c116o := Int32.not_le.mp c116
              have hi1 : 0 < tX k := by omega
              refine x_aload_n 89 C dX1_evaluate_89 rfl 2 rfl ?_
              refine x_getr 90 C (b := q + 3) dX1_evaluate_90 ff_X1_19 rfl hE.1 rfl ?_
              refine x_aload_n 93 C dX1_evaluate_93 rfl 3 rfl ?_
              refine x_iload 94 C dX1_evaluate_94 1 rfl ?_
              refine x_iconst 96 C (v := 1) dX1_evaluate_96 rfl ?_
              refine x_isub 97 C dX1_evaluate_97 ?_
              refine x_int (nI (tX k - 1)) (nI_sub (a := (tX k)) (b := 1) (by omega)) ?_
              refine x_iload 98 C dX1_evaluate_98 0 rfl ?_
              refine x_callSe 100 C dX1_evaluate_100 (As := [.int (nI (tX k - 1)), .int (nI (tY k))]) (rest := [.ref w, .ref (q + 3)]) [.int (nI (tm (tX k - 1) (tY k))), .ref w, .ref (q + 3)] (t_X1_termOf l D z n G I L108 (tX k - 1) (tY k) (by first | assumption | omega)) mt_X1_termOf km_X1_35 kt_X1_termOf rfl rfl (Nat.le_of_ble_eq_true rfl) ⟨⟨by decide, by decide⟩, by decide, by decide⟩ (fun I140 L141 eI140 eL141 => ?_)
              replace eI140 := eI140.symm; subst eI140
              replace eL141 := eL141.symm; subst eL141
              refine x_callVe 103 C dX1_evaluate_103 (As := [.int (nI (tm (tX k - 1) (tY k)))]) (rest := [.ref (q + 3)]) [.ref (w + 2 + (tm (tX k - 1) (tY k))), .ref (q + 3)] (t_X7_at l D z n G I L108 w (tm (tX k - 1) (tY k)) hW (by first | assumption | omega)) mt_X7_at km_X1_58 ki_X7_at ks_X7_at hW.1 ⟨by decide, rfl⟩ rfl rfl (Nat.le_of_ble_eq_true rfl) ⟨⟨by decide, by decide⟩, by decide, by decide⟩ (fun I142 L143 eI142 eL143 => ?_)
              replace eI142 := eI142.symm; subst eI142
              replace eL143 := eL143.symm; subst eL143
              refine x_iload 106 C dX1_evaluate_106 1 rfl ?_
              refine x_aload_n 108 C dX1_evaluate_108 rfl 2 rfl ?_
              refine x_getr 109 C (b := q + 1) dX1_evaluate_109 ff_X1_9 rfl hE.1 rfl ?_
              refine x_iload_n 112 C dX1_evaluate_112 rfl 5 rfl ?_
              refine x_iald 113 C (j := k) dX1_evaluate_113 hE.2.1 (xIx_nI (by omega) (by decide)) ?_
              refine x_imul 114 C dX1_evaluate_114 ?_
              refine x_i2l 115 C dX1_evaluate_115 ?_
              refine x_iload 116 C dX1_evaluate_116 1 rfl ?_
              refine x_aload_n 118 C dX1_evaluate_118 rfl 2 rfl ?_
              refine x_getr 119 C (b := q + 2) dX1_evaluate_119 ff_X1_13 rfl hE.1 rfl ?_
              refine x_iload_n 122 C dX1_evaluate_122 rfl 5 rfl ?_
              refine x_iald 123 C (j := k) dX1_evaluate_123 hE.2.2.1 (xIx_nI (by omega) (by decide)) ?_
              refine x_imul 124 C dX1_evaluate_124 ?_
              refine x_i2l 125 C dX1_evaluate_125 ?_
              refine x_callVe 126 C dX1_evaluate_126 (As := [.ref (w + 2 + (tm (tX k - 1) (tY k))), .long (Int32.toInt64 ((nI (tX k)) * (I (q + 1) k))), .long (Int32.toInt64 ((nI (tX k)) * (I (q + 2) k)))]) (rest := []) [] (t_X0_putTimesGaussian_c l D z n G I L108 (q + 3) (w + 2 + (tm (tX k - 1) (tY k))) (Int32.toInt64 ((nI (tX k)) * (I (q + 1) k))) (Int32.toInt64 ((nI (tX k)) * (I (q + 2) k))) hE.2.2.2 (hW.2.2 _ htm1) (by omega)) mt_X0_putTimesGaussian km_X1_64 ki_X0_putTimesGaussian ks_X0_putTimesGaussian hE.2.2.2 ⟨by decide, rfl⟩ rfl rfl (Nat.le_of_ble_eq_true rfl) ⟨⟨by decide, by decide⟩, by decide, by decide⟩ (fun I144 L145 eI144 eL145 => ?_)
              replace eI144 := eI144.symm; subst eI144
              have k146 : rd L145 (t + 1) = addC (evV (I (q + 1)) (I (q + 2)) pw k) (gauC (Int32.toInt64 (I (q + 1) k)) (Int32.toInt64 (I (q + 2) k)) (pw k)) := by rw [eL145, rd_cw_ne _ _ (by omega)]; exact k109
              have k147 : rd L145 (t + 2) = evX (I (q + 1)) (I (q + 2)) pw k := by rw [eL145, rd_cw_ne _ _ (by omega)]; exact k110
              have k148 : rd L145 (t + 3) = evY (I (q + 1)) (I (q + 2)) pw k := by rw [eL145, rd_cw_ne _ _ (by omega)]; exact k111
              have k149 : rd L145 (q + 3) = gauC (Int32.toInt64 ((nI (tX k)) * (I (q + 1) k))) (Int32.toInt64 ((nI (tX k)) * (I (q + 2) k))) (pw (tm (tX k - 1) (tY k))) := by rw [eL145, rd_cw]; simp only [k114]
              have k150 : rd L145 (w + 2 + k) = pw k := by rw [eL145, rd_cw_ne _ _ (by omega)]; exact k113
              have k151 : rd L145 (w + 2 + (tm (tX k - 1) (tY k))) = pw (tm (tX k - 1) (tY k)) := by rw [eL145, rd_cw_ne _ _ (by omega)]; exact k114
              have k152 : rd L145 (w + 2 + (tm (tX k) (tY k - 1))) = pw (tm (tX k) (tY k - 1)) := by rw [eL145, rd_cw_ne _ _ (by omega)]; exact k115
              refine x_aload_n 129 C dX1_evaluate_129 rfl 4 rfl ?_
              refine x_getr 130 C (b := t + 2) dX1_evaluate_130 ff_X1_75 rfl hT.1 rfl ?_
              refine x_aload_n 133 C dX1_evaluate_133 rfl 2 rfl ?_
              refine x_getr 134 C (b := q + 3) dX1_evaluate_134 ff_X1_19 rfl hE.1 rfl ?_
              refine x_callVe 137 C dX1_evaluate_137 (As := [.ref (q + 3)]) (rest := []) [] (t_X0_add_c l D z n G I L145 (t + 2) (q + 3) hT.2.2.1 hE.2.2.2 (by omega)) mt_X0_add km_X1_71 ki_X0_add ks_X0_add hT.2.2.1 ⟨by decide, rfl⟩ rfl rfl (Nat.le_of_ble_eq_true rfl) ⟨⟨by decide, by decide⟩, by decide, by decide⟩ (fun I153 L154 eI153 eL154 => ?_)
              replace eI153 := eI153.symm; subst eI153
              have k155 : rd L154 (t + 1) = addC (evV (I (q + 1)) (I (q + 2)) pw k) (gauC (Int32.toInt64 (I (q + 1) k)) (Int32.toInt64 (I (q + 2) k)) (pw k)) := by rw [eL154, rd_cw_ne _ _ (by omega)]; exact k146
              have k156 : rd L154 (t + 2) = addC (evX (I (q + 1)) (I (q + 2)) pw k) (gauC (Int32.toInt64 ((nI (tX k)) * (I (q + 1) k))) (Int32.toInt64 ((nI (tX k)) * (I (q + 2) k))) (pw (tm (tX k - 1) (tY k)))) := by rw [eL154, rd_cw]; simp only [k147, k149]
              have k157 : rd L154 (t + 3) = evY (I (q + 1)) (I (q + 2)) pw k := by rw [eL154, rd_cw_ne _ _ (by omega)]; exact k148
              have k158 : rd L154 (q + 3) = gauC (Int32.toInt64 ((nI (tX k)) * (I (q + 1) k))) (Int32.toInt64 ((nI (tX k)) * (I (q + 2) k))) (pw (tm (tX k - 1) (tY k))) := by rw [eL154, rd_cw_ne _ _ (by omega)]; exact k149
              have k159 : rd L154 (w + 2 + k) = pw k := by rw [eL154, rd_cw_ne _ _ (by omega)]; exact k150
              have k160 : rd L154 (w + 2 + (tm (tX k - 1) (tY k))) = pw (tm (tX k - 1) (tY k)) := by rw [eL154, rd_cw_ne _ _ (by omega)]; exact k151
              have k161 : rd L154 (w + 2 + (tm (tX k) (tY k - 1))) = pw (tm (tX k) (tY k - 1)) := by rw [eL154, rd_cw_ne _ _ (by omega)]; exact k152
              refine x_iload 140 C dX1_evaluate_140 0 rfl ?_
              refine x_if_le 142 C 196 dX1_evaluate_142 (by decide) (fun c162 => ?_) (fun c162 => ?_)
              · skip
                have c162n : (tY k) ≤ 0 := (nI_leI (a := (tY k)) (b := 0) (by omega) (by omega)).mp c162
                have c162o := Int32.not_lt.mpr c162
                have hj0 : ¬ 0 < tY k := by omega
                refine x_iinc 196 C [(3, .int (nI (k + 1))), (5, .int (nI (tY k))), (4, .int (nI (tX k))), (0, .ref q), (1, .ref w), (2, .ref t)] dX1_evaluate_196 5 rfl (nI_add k 1) (by decide) rfl ?_
                refine x_goto 199 C 6 dX1_evaluate_199 (by decide) ?_
                refine x_sub [(0, .ref q), (1, .ref w), (2, .ref t), (3, .int (nI (k + 1)))] [3, 4, 5, 0] rfl ?_
                refine ih (k + 1) L154 (by omega) (by omega) ?_ ?_ ?_ ?_
                · rw [k155]; simp [evV, c4, c4o, c5, c95, c116, c116o, hi1, c162, c162o, hj0]
                · rw [k156]; simp [evX, c4, c4o, c5, c95, c116, c116o, hi1, c162, c162o, hj0]
                · rw [k157]; simp [evY, c4, c4o, c5, c95, c116, c116o, hi1, c162, c162o, hj0]
                · intro a g1 g2; rw [eL154, cw_ne _ _ (by omega)]; rw [eL145, cw_ne _ _ (by omega)]; rw [eL108, cw_ne _ _ (by omega)]; rw [eL99, cw_ne _ _ (by omega)]; exact hp a g1 g2
              · skip
                have c162n : ¬ ((tY k) ≤ 0) := fun h => c162 ((nI_leI (a := (tY k)) (b := 0) (by omega) (by omega)).mpr h)
                have c162o := Int32.not_le.mp c162
                have hj1 : 0 < tY k := by omega
                refine x_aload_n 145 C dX1_evaluate_145 rfl 2 rfl ?_
                refine x_getr 146 C (b := q + 3) dX1_evaluate_146 ff_X1_19 rfl hE.1 rfl ?_
                refine x_aload_n 149 C dX1_evaluate_149 rfl 3 rfl ?_
                refine x_iload 150 C dX1_evaluate_150 1 rfl ?_
                refine x_iload 152 C dX1_evaluate_152 0 rfl ?_
                refine x_iconst 154 C (v := 1) dX1_evaluate_154 rfl ?_
                refine x_isub 155 C dX1_evaluate_155 ?_
                refine x_int (nI (tY k - 1)) (nI_sub (a := (tY k)) (b := 1) (by omega)) ?_
                refine x_callSe 156 C dX1_evaluate_156 (As := [.int (nI (tX k)), .int (nI (tY k - 1))]) (rest := [.ref w, .ref (q + 3)]) [.int (nI (tm (tX k) (tY k - 1))), .ref w, .ref (q + 3)] (t_X1_termOf l D z n G I L154 (tX k) (tY k - 1) (by first | assumption | omega)) mt_X1_termOf km_X1_35 kt_X1_termOf rfl rfl (Nat.le_of_ble_eq_true rfl) ⟨⟨by decide, by decide⟩, by decide, by decide⟩ (fun I163 L164 eI163 eL164 => ?_)
                replace eI163 := eI163.symm; subst eI163
                replace eL164 := eL164.symm; subst eL164
                refine x_callVe 159 C dX1_evaluate_159 (As := [.int (nI (tm (tX k) (tY k - 1)))]) (rest := [.ref (q + 3)]) [.ref (w + 2 + (tm (tX k) (tY k - 1))), .ref (q + 3)] (t_X7_at l D z n G I L154 w (tm (tX k) (tY k - 1)) hW (by first | assumption | omega)) mt_X7_at km_X1_58 ki_X7_at ks_X7_at hW.1 ⟨by decide, rfl⟩ rfl rfl (Nat.le_of_ble_eq_true rfl) ⟨⟨by decide, by decide⟩, by decide, by decide⟩ (fun I165 L166 eI165 eL166 => ?_)
                replace eI165 := eI165.symm; subst eI165
                replace eL166 := eL166.symm; subst eL166
                refine x_iload 162 C dX1_evaluate_162 0 rfl ?_
                refine x_aload_n 164 C dX1_evaluate_164 rfl 2 rfl ?_
                refine x_getr 165 C (b := q + 1) dX1_evaluate_165 ff_X1_9 rfl hE.1 rfl ?_
                refine x_iload_n 168 C dX1_evaluate_168 rfl 5 rfl ?_
                refine x_iald 169 C (j := k) dX1_evaluate_169 hE.2.1 (xIx_nI (by omega) (by decide)) ?_
                refine x_imul 170 C dX1_evaluate_170 ?_
                refine x_i2l 171 C dX1_evaluate_171 ?_
                refine x_iload 172 C dX1_evaluate_172 0 rfl ?_
                refine x_aload_n 174 C dX1_evaluate_174 rfl 2 rfl ?_
                refine x_getr 175 C (b := q + 2) dX1_evaluate_175 ff_X1_13 rfl hE.1 rfl ?_
                refine x_iload_n 178 C dX1_evaluate_178 rfl 5 rfl ?_
                refine x_iald 179 C (j := k) dX1_evaluate_179 hE.2.2.1 (xIx_nI (by omega) (by decide)) ?_
                refine x_imul 180 C dX1_evaluate_180 ?_
                refine x_i2l 181 C dX1_evaluate_181 ?_
                refine x_callVe 182 C dX1_evaluate_182 (As := [.ref (w + 2 + (tm (tX k) (tY k - 1))), .long (Int32.toInt64 ((nI (tY k)) * (I (q + 1) k))), .long (Int32.toInt64 ((nI (tY k)) * (I (q + 2) k)))]) (rest := []) [] (t_X0_putTimesGaussian_c l D z n G I L154 (q + 3) (w + 2 + (tm (tX k) (tY k - 1))) (Int32.toInt64 ((nI (tY k)) * (I (q + 1) k))) (Int32.toInt64 ((nI (tY k)) * (I (q + 2) k))) hE.2.2.2 (hW.2.2 _ htm2) (by omega)) mt_X0_putTimesGaussian km_X1_64 ki_X0_putTimesGaussian ks_X0_putTimesGaussian hE.2.2.2 ⟨by decide, rfl⟩ rfl rfl (Nat.le_of_ble_eq_true rfl) ⟨⟨by decide, by decide⟩, by decide, by decide⟩ (fun I167 L168 eI167 eL168 => ?_)
                replace eI167 := eI167.symm; subst eI167
                have k169 : rd L168 (t + 1) = addC (evV (I (q + 1)) (I (q + 2)) pw k) (gauC (Int32.toInt64 (I (q + 1) k)) (Int32.toInt64 (I (q + 2) k)) (pw k)) := by rw [eL168, rd_cw_ne _ _ (by omega)]; exact k155
                have k170 : rd L168 (t + 2) = addC (evX (I (q + 1)) (I (q + 2)) pw k) (gauC (Int32.toInt64 ((nI (tX k)) * (I (q + 1) k))) (Int32.toInt64 ((nI (tX k)) * (I (q + 2) k))) (pw (tm (tX k - 1) (tY k)))) := by rw [eL168, rd_cw_ne _ _ (by omega)]; exact k156
                have k171 : rd L168 (t + 3) = evY (I (q + 1)) (I (q + 2)) pw k := by rw [eL168, rd_cw_ne _ _ (by omega)]; exact k157
                have k172 : rd L168 (q + 3) = gauC (Int32.toInt64 ((nI (tY k)) * (I (q + 1) k))) (Int32.toInt64 ((nI (tY k)) * (I (q + 2) k))) (pw (tm (tX k) (tY k - 1))) := by rw [eL168, rd_cw]; simp only [k161]
                have k173 : rd L168 (w + 2 + k) = pw k := by rw [eL168, rd_cw_ne _ _ (by omega)]; exact k159
                have k174 : rd L168 (w + 2 + (tm (tX k - 1) (tY k))) = pw (tm (tX k - 1) (tY k)) := by rw [eL168, rd_cw_ne _ _ (by omega)]; exact k160
                have k175 : rd L168 (w + 2 + (tm (tX k) (tY k - 1))) = pw (tm (tX k) (tY k - 1)) := by rw [eL168, rd_cw_ne _ _ (by omega)]; exact k161
                refine x_aload_n 185 C dX1_evaluate_185 rfl 4 rfl ?_
                refine x_getr 186 C (b := t + 3) dX1_evaluate_186 ff_X1_78 rfl hT.1 rfl ?_
                refine x_aload_n 189 C dX1_evaluate_189 rfl 2 rfl ?_
                refine x_getr 190 C (b := q + 3) dX1_evaluate_190 ff_X1_19 rfl hE.1 rfl ?_
                refine x_callVe 193 C dX1_evaluate_193 (As := [.ref (q + 3)]) (rest := []) [] (t_X0_add_c l D z n G I L168 (t + 3) (q + 3) hT.2.2.2 hE.2.2.2 (by omega)) mt_X0_add km_X1_71 ki_X0_add ks_X0_add hT.2.2.2 ⟨by decide, rfl⟩ rfl rfl (Nat.le_of_ble_eq_true rfl) ⟨⟨by decide, by decide⟩, by decide, by decide⟩ (fun I176 L177 eI176 eL177 => ?_)
                replace eI176 := eI176.symm; subst eI176
                have k178 : rd L177 (t + 1) = addC (evV (I (q + 1)) (I (q + 2)) pw k) (gauC (Int32.toInt64 (I (q + 1) k)) (Int32.toInt64 (I (q + 2) k)) (pw k)) := by rw [eL177, rd_cw_ne _ _ (by omega)]; exact k169
                have k179 : rd L177 (t + 2) = addC (evX (I (q + 1)) (I (q + 2)) pw k) (gauC (Int32.toInt64 ((nI (tX k)) * (I (q + 1) k))) (Int32.toInt64 ((nI (tX k)) * (I (q + 2) k))) (pw (tm (tX k - 1) (tY k)))) := by rw [eL177, rd_cw_ne _ _ (by omega)]; exact k170
                have k180 : rd L177 (t + 3) = addC (evY (I (q + 1)) (I (q + 2)) pw k) (gauC (Int32.toInt64 ((nI (tY k)) * (I (q + 1) k))) (Int32.toInt64 ((nI (tY k)) * (I (q + 2) k))) (pw (tm (tX k) (tY k - 1)))) := by rw [eL177, rd_cw]; simp only [k171, k172]
                have k181 : rd L177 (q + 3) = gauC (Int32.toInt64 ((nI (tY k)) * (I (q + 1) k))) (Int32.toInt64 ((nI (tY k)) * (I (q + 2) k))) (pw (tm (tX k) (tY k - 1))) := by rw [eL177, rd_cw_ne _ _ (by omega)]; exact k172
                have k182 : rd L177 (w + 2 + k) = pw k := by rw [eL177, rd_cw_ne _ _ (by omega)]; exact k173
                have k183 : rd L177 (w + 2 + (tm (tX k - 1) (tY k))) = pw (tm (tX k - 1) (tY k)) := by rw [eL177, rd_cw_ne _ _ (by omega)]; exact k174
                have k184 : rd L177 (w + 2 + (tm (tX k) (tY k - 1))) = pw (tm (tX k) (tY k - 1)) := by rw [eL177, rd_cw_ne _ _ (by omega)]; exact k175
                refine x_iinc 196 C [(3, .int (nI (k + 1))), (5, .int (nI (tY k))), (4, .int (nI (tX k))), (0, .ref q), (1, .ref w), (2, .ref t)] dX1_evaluate_196 5 rfl (nI_add k 1) (by decide) rfl ?_
                refine x_goto 199 C 6 dX1_evaluate_199 (by decide) ?_
                refine x_sub [(0, .ref q), (1, .ref w), (2, .ref t), (3, .int (nI (k + 1)))] [3, 4, 5, 0] rfl ?_
                refine ih (k + 1) L177 (by omega) (by omega) ?_ ?_ ?_ ?_
                · rw [k178]; simp [evV, c4, c4o, c5, c95, c116, c116o, hi1, c162, c162o, hj1]
                · rw [k179]; simp [evX, c4, c4o, c5, c95, c116, c116o, hi1, c162, c162o, hj1]
                · rw [k180]; simp [evY, c4, c4o, c5, c95, c116, c116o, hi1, c162, c162o, hj1]
                · intro a g1 g2; rw [eL177, cw_ne _ _ (by omega)]; rw [eL168, cw_ne _ _ (by omega)]; rw [eL154, cw_ne _ _ (by omega)]; rw [eL145, cw_ne _ _ (by omega)]; rw [eL108, cw_ne _ _ (by omega)]; rw [eL99, cw_ne _ _ (by omega)]; exact hp a g1 g2
          · skip
            refine x_goto 30 C 196 dX1_evaluate_30 (by decide) ?_
            refine x_iinc 196 C [(3, .int (nI (k + 1))), (0, .ref q), (1, .ref w), (2, .ref t)] dX1_evaluate_196 3 rfl (nI_add k 1) (by decide) rfl ?_
            refine x_goto 199 C 6 dX1_evaluate_199 (by decide) ?_
            refine x_sub [(0, .ref q), (1, .ref w), (2, .ref t), (3, .int (nI (k + 1)))] [1, 2, 3, 0] rfl ?_
            refine ih (k + 1) Lk (by omega) (by omega) ?_ ?_ ?_ ?_
            · rw [hv]; simp [evV, c4, c4o, c5, c95]
            · rw [hx]; simp [evX, c4, c4o, c5, c95]
            · rw [hy]; simp [evY, c4, c4o, c5, c95]
            · intro a g1 g2; skip; exact hp a g1 g2
  refine x_sub [(0, .ref q), (1, .ref w), (2, .ref t), (3, .int 0)] [1, 2, 3, 0] rfl ?_
  refine loop6 11 0 L2 (by omega) (by omega) (by rw [eL2]; simp [tw, rd_cw, rd_cw_ne, evV]) (by rw [eL2]; simp [tw, rd_cw, rd_cw_ne, evX]) (by rw [eL2]; simp [tw, rd_cw, rd_cw_ne, evY]) ?_
  intro a g1 g2; rw [eL2]; simp only [tw]; rw [cw_ne _ _ (by omega), cw_ne _ _ (by omega), cw_ne _ _ (by omega)]
