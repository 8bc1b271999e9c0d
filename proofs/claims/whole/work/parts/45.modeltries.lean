/-! The Model: a failed try, a try, following -/
theorem coN_held {Y : xSy} {P : Nat} {u : Int64} {tol : Int32} : ∀ (r i : Nat) (bf : Int64) (a b : xC) (c : xC × xC), coN Y P u tol r i bf a b = some c → hC c.1 = c.1 ∧ hC c.2 = c.2
  | 0, i, bf, a, b, c, h => by simp [coN] at h
  | r + 1, i, bf, a, b, c, h => by
    rw [coN] at h
    split at h
    · simp at h
    · split at h
      · rw [← Option.some.inj h]; exact ⟨hC_2 _, hC_2 _⟩
      · split at h
        · simp at h
        · exact coN_held r _ _ _ _ c h
theorem dX12_hasFailed_0 : decode cX12_hasFailed 0 = .ok (.aload_n 0, 1) := by decide +kernel
theorem dX12_hasFailed_1 : decode cX12_hasFailed 1 = .ok (.getfield 7, 3) := by decide +kernel
theorem dX12_hasFailed_4 : decode cX12_hasFailed 4 = .ok (.iload_n 1, 1) := by decide +kernel
theorem dX12_hasFailed_5 : decode cX12_hasFailed 5 = .ok (.bipush 7, 2) := by decide +kernel
theorem dX12_hasFailed_7 : decode cX12_hasFailed 7 = .ok (.iadd, 1) := by decide +kernel
theorem dX12_hasFailed_8 : decode cX12_hasFailed 8 = .ok (.dup2, 1) := by decide +kernel
theorem dX12_hasFailed_9 : decode cX12_hasFailed 9 = .ok (.iaload, 1) := by decide +kernel
theorem dX12_hasFailed_10 : decode cX12_hasFailed 10 = .ok (.iconst 1, 1) := by decide +kernel
theorem dX12_hasFailed_11 : decode cX12_hasFailed 11 = .ok (.iadd, 1) := by decide +kernel
theorem dX12_hasFailed_12 : decode cX12_hasFailed 12 = .ok (.iastore, 1) := by decide +kernel
theorem dX12_hasFailed_13 : decode cX12_hasFailed 13 = .ok (.aload_n 0, 1) := by decide +kernel
theorem dX12_hasFailed_14 : decode cX12_hasFailed 14 = .ok (.getfield 7, 3) := by decide +kernel
theorem dX12_hasFailed_17 : decode cX12_hasFailed 17 = .ok (.iload_n 1, 1) := by decide +kernel
theorem dX12_hasFailed_18 : decode cX12_hasFailed 18 = .ok (.iconst 4, 1) := by decide +kernel
theorem dX12_hasFailed_19 : decode cX12_hasFailed 19 = .ok (.iadd, 1) := by decide +kernel
theorem dX12_hasFailed_20 : decode cX12_hasFailed 20 = .ok (.iconst 0, 1) := by decide +kernel
theorem dX12_hasFailed_21 : decode cX12_hasFailed 21 = .ok (.iastore, 1) := by decide +kernel
theorem dX12_hasFailed_22 : decode cX12_hasFailed 22 = .ok (.aload_n 0, 1) := by decide +kernel
theorem dX12_hasFailed_23 : decode cX12_hasFailed 23 = .ok (.getfield 7, 3) := by decide +kernel
theorem dX12_hasFailed_26 : decode cX12_hasFailed 26 = .ok (.iload_n 1, 1) := by decide +kernel
theorem dX12_hasFailed_27 : decode cX12_hasFailed 27 = .ok (.iconst 1, 1) := by decide +kernel
theorem dX12_hasFailed_28 : decode cX12_hasFailed 28 = .ok (.iadd, 1) := by decide +kernel
theorem dX12_hasFailed_29 : decode cX12_hasFailed 29 = .ok (.iaload, 1) := by decide +kernel
theorem dX12_hasFailed_30 : decode cX12_hasFailed 30 = .ok (.iconst 1, 1) := by decide +kernel
theorem dX12_hasFailed_31 : decode cX12_hasFailed 31 = .ok (.if_icmp .le 18, 3) := by decide +kernel
theorem dX12_hasFailed_34 : decode cX12_hasFailed 34 = .ok (.aload_n 0, 1) := by decide +kernel
theorem dX12_hasFailed_35 : decode cX12_hasFailed 35 = .ok (.getfield 7, 3) := by decide +kernel
theorem dX12_hasFailed_38 : decode cX12_hasFailed 38 = .ok (.iload_n 1, 1) := by decide +kernel
theorem dX12_hasFailed_39 : decode cX12_hasFailed 39 = .ok (.iconst 1, 1) := by decide +kernel
theorem dX12_hasFailed_40 : decode cX12_hasFailed 40 = .ok (.iadd, 1) := by decide +kernel
theorem dX12_hasFailed_41 : decode cX12_hasFailed 41 = .ok (.dup2, 1) := by decide +kernel
theorem dX12_hasFailed_42 : decode cX12_hasFailed 42 = .ok (.iaload, 1) := by decide +kernel
theorem dX12_hasFailed_43 : decode cX12_hasFailed 43 = .ok (.iconst 2, 1) := by decide +kernel
theorem dX12_hasFailed_44 : decode cX12_hasFailed 44 = .ok (.idiv, 1) := by decide +kernel
theorem dX12_hasFailed_45 : decode cX12_hasFailed 45 = .ok (.iastore, 1) := by decide +kernel
theorem dX12_hasFailed_46 : decode cX12_hasFailed 46 = .ok (.goto 122, 3) := by decide +kernel
theorem dX12_hasFailed_49 : decode cX12_hasFailed 49 = .ok (.aload_n 0, 1) := by decide +kernel
theorem dX12_hasFailed_50 : decode cX12_hasFailed 50 = .ok (.getfield 7, 3) := by decide +kernel
theorem dX12_hasFailed_53 : decode cX12_hasFailed 53 = .ok (.iload_n 1, 1) := by decide +kernel
theorem dX12_hasFailed_54 : decode cX12_hasFailed 54 = .ok (.iconst 3, 1) := by decide +kernel
theorem dX12_hasFailed_55 : decode cX12_hasFailed 55 = .ok (.iadd, 1) := by decide +kernel
theorem dX12_hasFailed_56 : decode cX12_hasFailed 56 = .ok (.iaload, 1) := by decide +kernel
theorem dX12_hasFailed_57 : decode cX12_hasFailed 57 = .ok (.bipush 10, 2) := by decide +kernel
theorem dX12_hasFailed_59 : decode cX12_hasFailed 59 = .ok (.if_icmp .ne 100, 3) := by decide +kernel
theorem dX12_hasFailed_62 : decode cX12_hasFailed 62 = .ok (.aload_n 0, 1) := by decide +kernel
theorem dX12_hasFailed_63 : decode cX12_hasFailed 63 = .ok (.getfield 7, 3) := by decide +kernel
theorem dX12_hasFailed_66 : decode cX12_hasFailed 66 = .ok (.iload_n 1, 1) := by decide +kernel
theorem dX12_hasFailed_67 : decode cX12_hasFailed 67 = .ok (.iconst 3, 1) := by decide +kernel
theorem dX12_hasFailed_68 : decode cX12_hasFailed 68 = .ok (.iadd, 1) := by decide +kernel
theorem dX12_hasFailed_69 : decode cX12_hasFailed 69 = .ok (.bipush 18, 2) := by decide +kernel
theorem dX12_hasFailed_71 : decode cX12_hasFailed 71 = .ok (.iastore, 1) := by decide +kernel
theorem dX12_hasFailed_72 : decode cX12_hasFailed 72 = .ok (.iconst 0, 1) := by decide +kernel
theorem dX12_hasFailed_73 : decode cX12_hasFailed 73 = .ok (.istore_n 2, 1) := by decide +kernel
theorem dX12_hasFailed_74 : decode cX12_hasFailed 74 = .ok (.iload_n 2, 1) := by decide +kernel
theorem dX12_hasFailed_75 : decode cX12_hasFailed 75 = .ok (.iconst 4, 1) := by decide +kernel
theorem dX12_hasFailed_76 : decode cX12_hasFailed 76 = .ok (.if_icmp .ge 40, 3) := by decide +kernel
theorem dX12_hasFailed_79 : decode cX12_hasFailed 79 = .ok (.aload_n 0, 1) := by decide +kernel
theorem dX12_hasFailed_80 : decode cX12_hasFailed 80 = .ok (.getfield 7, 3) := by decide +kernel
theorem dX12_hasFailed_83 : decode cX12_hasFailed 83 = .ok (.iload_n 1, 1) := by decide +kernel
theorem dX12_hasFailed_84 : decode cX12_hasFailed 84 = .ok (.bipush 8, 2) := by decide +kernel
theorem dX12_hasFailed_86 : decode cX12_hasFailed 86 = .ok (.iadd, 1) := by decide +kernel
theorem dX12_hasFailed_87 : decode cX12_hasFailed 87 = .ok (.iload_n 2, 1) := by decide +kernel
theorem dX12_hasFailed_88 : decode cX12_hasFailed 88 = .ok (.iadd, 1) := by decide +kernel
theorem dX12_hasFailed_89 : decode cX12_hasFailed 89 = .ok (.ldc2_w 170, 3) := by decide +kernel
theorem dX12_hasFailed_92 : decode cX12_hasFailed 92 = .ok (.aload_n 0, 1) := by decide +kernel
theorem dX12_hasFailed_93 : decode cX12_hasFailed 93 = .ok (.getfield 7, 3) := by decide +kernel
theorem dX12_hasFailed_96 : decode cX12_hasFailed 96 = .ok (.iload_n 1, 1) := by decide +kernel
theorem dX12_hasFailed_97 : decode cX12_hasFailed 97 = .ok (.bipush 8, 2) := by decide +kernel
theorem dX12_hasFailed_99 : decode cX12_hasFailed 99 = .ok (.iadd, 1) := by decide +kernel
theorem dX12_hasFailed_100 : decode cX12_hasFailed 100 = .ok (.iload_n 2, 1) := by decide +kernel
theorem dX12_hasFailed_101 : decode cX12_hasFailed 101 = .ok (.iadd, 1) := by decide +kernel
theorem dX12_hasFailed_102 : decode cX12_hasFailed 102 = .ok (.iaload, 1) := by decide +kernel
theorem dX12_hasFailed_103 : decode cX12_hasFailed 103 = .ok (.i2l, 1) := by decide +kernel
theorem dX12_hasFailed_104 : decode cX12_hasFailed 104 = .ok (.lmul, 1) := by decide +kernel
theorem dX12_hasFailed_105 : decode cX12_hasFailed 105 = .ok (.invokestatic 83, 3) := by decide +kernel
theorem dX12_hasFailed_108 : decode cX12_hasFailed 108 = .ok (.l2i, 1) := by decide +kernel
theorem dX12_hasFailed_109 : decode cX12_hasFailed 109 = .ok (.iastore, 1) := by decide +kernel
theorem dX12_hasFailed_110 : decode cX12_hasFailed 110 = .ok (.iinc 2 1, 3) := by decide +kernel
theorem dX12_hasFailed_113 : decode cX12_hasFailed 113 = .ok (.goto (-39), 3) := by decide +kernel
theorem dX12_hasFailed_116 : decode cX12_hasFailed 116 = .ok (.aload_n 0, 1) := by decide +kernel
theorem dX12_hasFailed_117 : decode cX12_hasFailed 117 = .ok (.getfield 7, 3) := by decide +kernel
theorem dX12_hasFailed_120 : decode cX12_hasFailed 120 = .ok (.iload_n 1, 1) := by decide +kernel
theorem dX12_hasFailed_121 : decode cX12_hasFailed 121 = .ok (.iconst 1, 1) := by decide +kernel
theorem dX12_hasFailed_122 : decode cX12_hasFailed 122 = .ok (.iadd, 1) := by decide +kernel
theorem dX12_hasFailed_123 : decode cX12_hasFailed 123 = .ok (.aload_n 0, 1) := by decide +kernel
theorem dX12_hasFailed_124 : decode cX12_hasFailed 124 = .ok (.iconst 0, 1) := by decide +kernel
theorem dX12_hasFailed_125 : decode cX12_hasFailed 125 = .ok (.invokevirtual 119, 3) := by decide +kernel
theorem dX12_hasFailed_128 : decode cX12_hasFailed 128 = .ok (.aload_n 0, 1) := by decide +kernel
theorem dX12_hasFailed_129 : decode cX12_hasFailed 129 = .ok (.getfield 7, 3) := by decide +kernel
theorem dX12_hasFailed_132 : decode cX12_hasFailed 132 = .ok (.iload_n 1, 1) := by decide +kernel
theorem dX12_hasFailed_133 : decode cX12_hasFailed 133 = .ok (.iconst 2, 1) := by decide +kernel
theorem dX12_hasFailed_134 : decode cX12_hasFailed 134 = .ok (.iadd, 1) := by decide +kernel
theorem dX12_hasFailed_135 : decode cX12_hasFailed 135 = .ok (.iaload, 1) := by decide +kernel
theorem dX12_hasFailed_136 : decode cX12_hasFailed 136 = .ok (.if_icmp .ge 11, 3) := by decide +kernel
theorem dX12_hasFailed_139 : decode cX12_hasFailed 139 = .ok (.aload_n 0, 1) := by decide +kernel
theorem dX12_hasFailed_140 : decode cX12_hasFailed 140 = .ok (.iconst 0, 1) := by decide +kernel
theorem dX12_hasFailed_141 : decode cX12_hasFailed 141 = .ok (.invokevirtual 119, 3) := by decide +kernel
theorem dX12_hasFailed_144 : decode cX12_hasFailed 144 = .ok (.goto 11, 3) := by decide +kernel
theorem dX12_hasFailed_147 : decode cX12_hasFailed 147 = .ok (.aload_n 0, 1) := by decide +kernel
theorem dX12_hasFailed_148 : decode cX12_hasFailed 148 = .ok (.getfield 7, 3) := by decide +kernel
theorem dX12_hasFailed_151 : decode cX12_hasFailed 151 = .ok (.iload_n 1, 1) := by decide +kernel
theorem dX12_hasFailed_152 : decode cX12_hasFailed 152 = .ok (.iconst 2, 1) := by decide +kernel
theorem dX12_hasFailed_153 : decode cX12_hasFailed 153 = .ok (.iadd, 1) := by decide +kernel
theorem dX12_hasFailed_154 : decode cX12_hasFailed 154 = .ok (.iaload, 1) := by decide +kernel
theorem dX12_hasFailed_155 : decode cX12_hasFailed 155 = .ok (.iastore, 1) := by decide +kernel
theorem dX12_hasFailed_156 : decode cX12_hasFailed 156 = .ok (.goto 12, 3) := by decide +kernel
theorem dX12_hasFailed_159 : decode cX12_hasFailed 159 = .ok (.aload_n 0, 1) := by decide +kernel
theorem dX12_hasFailed_160 : decode cX12_hasFailed 160 = .ok (.getfield 7, 3) := by decide +kernel
theorem dX12_hasFailed_163 : decode cX12_hasFailed 163 = .ok (.iload_n 1, 1) := by decide +kernel
theorem dX12_hasFailed_164 : decode cX12_hasFailed 164 = .ok (.iconst 5, 1) := by decide +kernel
theorem dX12_hasFailed_165 : decode cX12_hasFailed 165 = .ok (.iadd, 1) := by decide +kernel
theorem dX12_hasFailed_166 : decode cX12_hasFailed 166 = .ok (.iconst 3, 1) := by decide +kernel
theorem dX12_hasFailed_167 : decode cX12_hasFailed 167 = .ok (.iastore, 1) := by decide +kernel
theorem dX12_hasFailed_168 : decode cX12_hasFailed 168 = .ok (.return_, 1) := by decide +kernel
set_option maxHeartbeats 1000000 in
set_option maxRecDepth 100000 in
theorem t_X12_hasFailed (l : Launch) (D : xD) (z n : Nat) (G : xG) (I : xI) (L : xL) (A : Nat) (k : Nat) (sN : Nat) (gN : Nat) (s0 : Nat) (hM : shMo G A) (zA : z ≤ A) (hk : k < 9) (h1 : I (A + 1) (50 + 12 * k + 1) = nI sN) (hs : sN ≤ 256) (h2 : I (A + 1) (50 + 12 * k + 2) = nI gN) (hg : gN ≤ 256) (hs0 : I (A + 1) 42 = nI s0) (hs0l : s0 ≤ 256) : xM0 l D z yX12_hasFailed cX12_hasFailed 3 none 1 21 [.ref A, .int (nI (50 + 12 * k))] n G I L (fun v' I' L' => v' = none ∧ L' = L ∧ (mvO (I' (A + 1)) (50 + 12 * k) = (gFail (mvO (I (A + 1)) (50 + 12 * k)).1 (nI s0), gFailC (mvO (I (A + 1)) (50 + 12 * k)).1 (mvO (I (A + 1)) (50 + 12 * k)).2.1, gFailC (mvO (I (A + 1)) (50 + 12 * k)).1 (mvO (I (A + 1)) (50 + 12 * k)).2.2)) ∧ (∀ j, (j < 50 + 12 * k ∨ 62 + 12 * k ≤ j) → I' (A + 1) j = I (A + 1) j) ∧ (∀ q, q ≠ A + 1 → I' q = I q)) := by
  refine xM.of (by decide) (Nat.le_of_ble_eq_true rfl) (fun p e s m args below meth c C hnm hsz => ?_)
  refine x_lv [(0, .ref A), (1, .int (nI (50 + 12 * k)))] rfl ?_
  refine x_aload_n 0 C dX12_hasFailed_0 rfl 0 rfl ?_
  refine x_getr 1 C (b := A + 1) dX12_hasFailed_1 ff_X12_7 rfl hM.1 rfl ?_
  refine x_iload_n 4 C dX12_hasFailed_4 rfl 1 rfl ?_
  refine x_bipush 5 C (v := 7) dX12_hasFailed_5 rfl ?_
  refine x_iadd 7 C dX12_hasFailed_7 ?_
  refine x_int (nI (50 + 12 * k + 7)) (nI_add (50 + 12 * k) 7) ?_
  refine x_dup2 8 C dX12_hasFailed_8 rfl rfl ?_
  refine x_iald 9 C (j := (50 + 12 * k + 7)) dX12_hasFailed_9 hM.2.1 (xIx_nI (by omega) (by decide)) ?_
  refine x_int (I (A + 1) (50 + 12 * k + 7)) rfl ?_
  refine x_iconst 10 C (v := 1) dX12_hasFailed_10 rfl ?_
  refine x_iadd 11 C dX12_hasFailed_11 ?_
  refine x_iast 12 C (j := (50 + 12 * k + 7)) dX12_hasFailed_12 hM.2.1 (by omega) (xIx_nI (by omega) (by decide)) (fun I1 eI1 => ?_)
  refine x_aload_n 13 C dX12_hasFailed_13 rfl 0 rfl ?_
  refine x_getr 14 C (b := A + 1) dX12_hasFailed_14 ff_X12_7 rfl hM.1 rfl ?_
  refine x_iload_n 17 C dX12_hasFailed_17 rfl 1 rfl ?_
  refine x_iconst 18 C (v := 4) dX12_hasFailed_18 rfl ?_
  refine x_iadd 19 C dX12_hasFailed_19 ?_
  refine x_int (nI (50 + 12 * k + 4)) (nI_add (50 + 12 * k) 4) ?_
  refine x_iconst 20 C (v := 0) dX12_hasFailed_20 rfl ?_
  refine x_iast 21 C (j := (50 + 12 * k + 4)) dX12_hasFailed_21 hM.2.1 (by omega) (xIx_nI (by omega) (by decide)) (fun I2 eI2 => ?_)
  refine x_aload_n 22 C dX12_hasFailed_22 rfl 0 rfl ?_
  refine x_getr 23 C (b := A + 1) dX12_hasFailed_23 ff_X12_7 rfl hM.1 rfl ?_
  refine x_iload_n 26 C dX12_hasFailed_26 rfl 1 rfl ?_
  refine x_iconst 27 C (v := 1) dX12_hasFailed_27 rfl ?_
  refine x_iadd 28 C dX12_hasFailed_28 ?_
  refine x_int (nI (50 + 12 * k + 1)) (nI_add (50 + 12 * k) 1) ?_
  refine x_iald 29 C (j := (50 + 12 * k + 1)) dX12_hasFailed_29 hM.2.1 (xIx_nI (by omega) (by decide)) ?_
  refine x_int (nI sN) (by rw [eI2, xup_at, if_neg (by omega), eI1, xup_at, if_neg (by omega)]; exact h1) ?_
  refine x_iconst 30 C (v := 1) dX12_hasFailed_30 rfl ?_
  refine x_icmp_le 31 C 49 dX12_hasFailed_31 (by decide) (fun c3 => ?_) (fun c3 => ?_)
  · skip
    have c3n : sN ≤ 1 := (nI_leI (a := sN) (b := 1) (by omega) (by omega)).mp c3
    have c3m : ¬ (1 < sN) := by omega
    have c3o := Int32.not_lt.mpr c3
    have hs1 : nI sN ≤ 1 := c3
    refine x_aload_n 49 C dX12_hasFailed_49 rfl 0 rfl ?_
    refine x_getr 50 C (b := A + 1) dX12_hasFailed_50 ff_X12_7 rfl hM.1 rfl ?_
    refine x_iload_n 53 C dX12_hasFailed_53 rfl 1 rfl ?_
    refine x_iconst 54 C (v := 3) dX12_hasFailed_54 rfl ?_
    refine x_iadd 55 C dX12_hasFailed_55 ?_
    refine x_int (nI (50 + 12 * k + 3)) (nI_add (50 + 12 * k) 3) ?_
    refine x_iald 56 C (j := (50 + 12 * k + 3)) dX12_hasFailed_56 hM.2.1 (xIx_nI (by omega) (by decide)) ?_
    refine x_int (I (A + 1) (50 + 12 * k + 3)) (by rw [eI2, xup_at, if_neg (by omega), eI1, xup_at, if_neg (by omega)]) ?_
    refine x_bipush 57 C (v := 10) dX12_hasFailed_57 rfl ?_
    refine x_icmp_ne 59 C 159 dX12_hasFailed_59 (by decide) (fun c4 => ?_) (fun c4 => ?_)
    · skip
      have hp10 : ¬ I (A + 1) (50 + 12 * k + 3) = 10 := c4
      refine x_aload_n 159 C dX12_hasFailed_159 rfl 0 rfl ?_
      refine x_getr 160 C (b := A + 1) dX12_hasFailed_160 ff_X12_7 rfl hM.1 rfl ?_
      refine x_iload_n 163 C dX12_hasFailed_163 rfl 1 rfl ?_
      refine x_iconst 164 C (v := 5) dX12_hasFailed_164 rfl ?_
      refine x_iadd 165 C dX12_hasFailed_165 ?_
      refine x_int (nI (50 + 12 * k + 5)) (nI_add (50 + 12 * k) 5) ?_
      refine x_iconst 166 C (v := 3) dX12_hasFailed_166 rfl ?_
      refine x_iast 167 C (j := (50 + 12 * k + 5)) dX12_hasFailed_167 hM.2.1 (by omega) (xIx_nI (by omega) (by decide)) (fun I5 eI5 => ?_)
      refine x_vret 168 C dX12_hasFailed_168 rfl (Nat.le_refl _) (xN.intro ?_)
      have v0_ : I5 (A + 1) (50 + 12 * k) = I (A + 1) (50 + 12 * k) := by rw [eI5, xup_at, if_neg (by omega), eI2, xup_at, if_neg (by omega), eI1, xup_at, if_neg (by omega)]
      have v1_ : I5 (A + 1) (50 + 12 * k + 1) = nI sN := by rw [eI5, xup_at, if_neg (by omega), eI2, xup_at, if_neg (by omega), eI1, xup_at, if_neg (by omega)]; exact h1
      have v2_ : I5 (A + 1) (50 + 12 * k + 2) = nI gN := by rw [eI5, xup_at, if_neg (by omega), eI2, xup_at, if_neg (by omega), eI1, xup_at, if_neg (by omega)]; exact h2
      have v3_ : I5 (A + 1) (50 + 12 * k + 3) = I (A + 1) (50 + 12 * k + 3) := by rw [eI5, xup_at, if_neg (by omega), eI2, xup_at, if_neg (by omega), eI1, xup_at, if_neg (by omega)]
      have v4_ : I5 (A + 1) (50 + 12 * k + 4) = 0 := by rw [eI5, xup_at, if_neg (by omega), eI2, xup_at, if_pos (by omega)]
      have v5_ : I5 (A + 1) (50 + 12 * k + 5) = 3 := by rw [eI5, xup_at, if_pos (by omega)]
      have v6_ : I5 (A + 1) (50 + 12 * k + 6) = I (A + 1) (50 + 12 * k + 6) := by rw [eI5, xup_at, if_neg (by omega), eI2, xup_at, if_neg (by omega), eI1, xup_at, if_neg (by omega)]
      have v7_ : I5 (A + 1) (50 + 12 * k + 7) = (I (A + 1) (50 + 12 * k + 7)) + 1 := by rw [eI5, xup_at, if_neg (by omega), eI2, xup_at, if_neg (by omega), eI1, xup_at, if_pos (by omega)]
      have v8_ : Int32.toInt64 (I5 (A + 1) (50 + 12 * k + 8)) = (mvO (I (A + 1)) (50 + 12 * k)).2.1.1 := by rw [eI5, xup_at, if_neg (by omega), eI2, xup_at, if_neg (by omega), eI1, xup_at, if_neg (by omega)]; rfl
      have v9_ : Int32.toInt64 (I5 (A + 1) (50 + 12 * k + 9)) = (mvO (I (A + 1)) (50 + 12 * k)).2.1.2 := by rw [eI5, xup_at, if_neg (by omega), eI2, xup_at, if_neg (by omega), eI1, xup_at, if_neg (by omega)]; rfl
      have v10_ : Int32.toInt64 (I5 (A + 1) (50 + 12 * k + 10)) = (mvO (I (A + 1)) (50 + 12 * k)).2.2.1 := by rw [eI5, xup_at, if_neg (by omega), eI2, xup_at, if_neg (by omega), eI1, xup_at, if_neg (by omega)]; rfl
      have v11_ : Int32.toInt64 (I5 (A + 1) (50 + 12 * k + 11)) = (mvO (I (A + 1)) (50 + 12 * k)).2.2.2 := by rw [eI5, xup_at, if_neg (by omega), eI2, xup_at, if_neg (by omega), eI1, xup_at, if_neg (by omega)]; rfl
      have g4 : (mvO (I (A + 1)) (50 + 12 * k)).1 4 = nI sN := h1
      have g6 : (mvO (I (A + 1)) (50 + 12 * k)).1 6 = I (A + 1) (50 + 12 * k + 3) := rfl
      have gc1 : gFailC (mvO (I (A + 1)) (50 + 12 * k)).1 (mvO (I (A + 1)) (50 + 12 * k)).2.1 = (mvO (I (A + 1)) (50 + 12 * k)).2.1 := by unfold gFailC; rw [g4, g6, if_neg (fun h => hp10 h.2)]
      have gc2 : gFailC (mvO (I (A + 1)) (50 + 12 * k)).1 (mvO (I (A + 1)) (50 + 12 * k)).2.2 = (mvO (I (A + 1)) (50 + 12 * k)).2.2 := by unfold gFailC; rw [g4, g6, if_neg (fun h => hp10 h.2)]
      refine ⟨rfl, rfl, ?_, fun j hj => by rw [eI5, xup_at, if_neg (by omega), eI2, xup_at, if_neg (by omega), eI1, xup_at, if_neg (by omega)], fun q hq => by rw [eI5, xup_row _ _ hq, eI2, xup_row _ _ hq, eI1, xup_row _ _ hq]⟩
      have gf : gFail (mvO (I (A + 1)) (50 + 12 * k)).1 (nI s0) = rw8 (3) (I (A + 1) (50 + 12 * k)) (nI sN) (nI gN) (I (A + 1) (50 + 12 * k + 3)) (I (A + 1) (50 + 12 * k + 6)) ((I (A + 1) (50 + 12 * k + 7)) + 1) (0) := by
        rw [mvO_of (I (A + 1)) (50 + 12 * k) rfl h1 h2 rfl rfl rfl rfl rfl rfl rfl rfl rfl]
        show gFail (rw8 _ _ _ _ _ _ _ _) _ = _
        rw [gFail_rw8]; simp only [if_pos hs1, if_neg hp10]
      rw [gf, gc1, gc2, mvO_of (I5 (A + 1)) (50 + 12 * k) v0_ v1_ v2_ v3_ v4_ v5_ v6_ v7_ v8_ v9_ v10_ v11_]
    · skip
      have hp10 : I (A + 1) (50 + 12 * k + 3) = 10 := c4
      refine x_aload_n 62 C dX12_hasFailed_62 rfl 0 rfl ?_
      refine x_getr 63 C (b := A + 1) dX12_hasFailed_63 ff_X12_7 rfl hM.1 rfl ?_
      refine x_iload_n 66 C dX12_hasFailed_66 rfl 1 rfl ?_
      refine x_iconst 67 C (v := 3) dX12_hasFailed_67 rfl ?_
      refine x_iadd 68 C dX12_hasFailed_68 ?_
      refine x_int (nI (50 + 12 * k + 3)) (nI_add (50 + 12 * k) 3) ?_
      refine x_bipush 69 C (v := 18) dX12_hasFailed_69 rfl ?_
      refine x_iast 71 C (j := (50 + 12 * k + 3)) dX12_hasFailed_71 hM.2.1 (by omega) (xIx_nI (by omega) (by decide)) (fun I6 eI6 => ?_)
      refine x_iconst 72 C (v := 0) dX12_hasFailed_72 rfl ?_
      refine x_istore_n 73 C [(2, .int 0), (0, .ref A), (1, .int (nI (50 + 12 * k)))] dX12_hasFailed_73 rfl (by decide) rfl ?_
      refine x_iload_n 74 C dX12_hasFailed_74 rfl 0 rfl ?_
      refine x_iconst 75 C (v := 4) dX12_hasFailed_75 rfl ?_
      refine x_icmp_ge 76 C 116 dX12_hasFailed_76 (by decide) (fun c7 => absurd c7 (by decide)) (fun _ => ?_)
      refine x_aload_n 79 C dX12_hasFailed_79 rfl 1 rfl ?_
      refine x_getr 80 C (b := A + 1) dX12_hasFailed_80 ff_X12_7 rfl hM.1 rfl ?_
      refine x_iload_n 83 C dX12_hasFailed_83 rfl 2 rfl ?_
      refine x_bipush 84 C (v := 8) dX12_hasFailed_84 rfl ?_
      refine x_iadd 86 C dX12_hasFailed_86 ?_
      refine x_int (nI (50 + 12 * k + 8)) (nI_add (50 + 12 * k) 8) ?_
      refine x_iload_n 87 C dX12_hasFailed_87 rfl 0 rfl ?_
      refine x_iadd 88 C dX12_hasFailed_88 ?_
      refine x_int (nI (50 + 12 * k + 8 + 0)) (nI_add (50 + 12 * k + 8) 0) ?_
      refine x_ldc2 89 C 256 dX12_hasFailed_89 kk_X12_170 ?_
      refine x_aload_n 92 C dX12_hasFailed_92 rfl 1 rfl ?_
      refine x_getr 93 C (b := A + 1) dX12_hasFailed_93 ff_X12_7 rfl hM.1 rfl ?_
      refine x_iload_n 96 C dX12_hasFailed_96 rfl 2 rfl ?_
      refine x_bipush 97 C (v := 8) dX12_hasFailed_97 rfl ?_
      refine x_iadd 99 C dX12_hasFailed_99 ?_
      refine x_int (nI (50 + 12 * k + 8)) (nI_add (50 + 12 * k) 8) ?_
      refine x_iload_n 100 C dX12_hasFailed_100 rfl 0 rfl ?_
      refine x_iadd 101 C dX12_hasFailed_101 ?_
      refine x_int (nI (50 + 12 * k + 8 + 0)) (nI_add (50 + 12 * k + 8) 0) ?_
      refine x_iald 102 C (j := (50 + 12 * k + 8 + 0)) dX12_hasFailed_102 hM.2.1 (xIx_nI (by omega) (by decide)) ?_
      refine x_int (I (A + 1) (50 + 12 * k + 8)) (by rw [eI6, xup_at, if_neg (by omega), eI2, xup_at, if_neg (by omega), eI1, xup_at, if_neg (by omega)]) ?_
      refine x_i2l 103 C dX12_hasFailed_103 ?_
      refine x_lmul 104 C dX12_hasFailed_104 ?_
      refine x_callSe 105 C dX12_hasFailed_105 (As := [.long (256 * (Int32.toInt64 (I (A + 1) (50 + 12 * k + 8))))]) (rest := [.int (nI (50 + 12 * k + 8 + 0)), .ref (A + 1)]) [.long (held (256 * (Int32.toInt64 (I (A + 1) (50 + 12 * k + 8))))), .int (nI (50 + 12 * k + 8 + 0)), .ref (A + 1)] (t_X12_held l D z n G I6 L (256 * (Int32.toInt64 (I (A + 1) (50 + 12 * k + 8)))) ) mt_X12_held km_X12_83 kt_X12_held rfl rfl (Nat.le_of_ble_eq_true rfl) ⟨⟨by decide, by decide⟩, by decide, by decide⟩ (fun I8 L9 eI8 eL9 => ?_)
      replace eI8 := eI8.symm; subst eI8
      replace eL9 := eL9.symm; subst eL9
      refine x_l2i 108 C dX12_hasFailed_108 ?_
      refine x_iast 109 C (j := (50 + 12 * k + 8 + 0)) dX12_hasFailed_109 hM.2.1 (by omega) (xIx_nI (by omega) (by decide)) (fun I10 eI10 => ?_)
      refine x_iinc 110 C [(2, .int 1), (0, .ref A), (1, .int (nI (50 + 12 * k)))] dX12_hasFailed_110 0 rfl (by decide) (by decide) rfl ?_
      refine x_goto 113 C 74 dX12_hasFailed_113 (by decide) ?_
      refine x_iload_n 74 C dX12_hasFailed_74 rfl 0 rfl ?_
      refine x_iconst 75 C (v := 4) dX12_hasFailed_75 rfl ?_
      refine x_icmp_ge 76 C 116 dX12_hasFailed_76 (by decide) (fun c11 => absurd c11 (by decide)) (fun _ => ?_)
      refine x_aload_n 79 C dX12_hasFailed_79 rfl 1 rfl ?_
      refine x_getr 80 C (b := A + 1) dX12_hasFailed_80 ff_X12_7 rfl hM.1 rfl ?_
      refine x_iload_n 83 C dX12_hasFailed_83 rfl 2 rfl ?_
      refine x_bipush 84 C (v := 8) dX12_hasFailed_84 rfl ?_
      refine x_iadd 86 C dX12_hasFailed_86 ?_
      refine x_int (nI (50 + 12 * k + 8)) (nI_add (50 + 12 * k) 8) ?_
      refine x_iload_n 87 C dX12_hasFailed_87 rfl 0 rfl ?_
      refine x_iadd 88 C dX12_hasFailed_88 ?_
      refine x_int (nI (50 + 12 * k + 8 + 1)) (nI_add (50 + 12 * k + 8) 1) ?_
      refine x_ldc2 89 C 256 dX12_hasFailed_89 kk_X12_170 ?_
      refine x_aload_n 92 C dX12_hasFailed_92 rfl 1 rfl ?_
      refine x_getr 93 C (b := A + 1) dX12_hasFailed_93 ff_X12_7 rfl hM.1 rfl ?_
      refine x_iload_n 96 C dX12_hasFailed_96 rfl 2 rfl ?_
      refine x_bipush 97 C (v := 8) dX12_hasFailed_97 rfl ?_
      refine x_iadd 99 C dX12_hasFailed_99 ?_
      refine x_int (nI (50 + 12 * k + 8)) (nI_add (50 + 12 * k) 8) ?_
      refine x_iload_n 100 C dX12_hasFailed_100 rfl 0 rfl ?_
      refine x_iadd 101 C dX12_hasFailed_101 ?_
      refine x_int (nI (50 + 12 * k + 8 + 1)) (nI_add (50 + 12 * k + 8) 1) ?_
      refine x_iald 102 C (j := (50 + 12 * k + 8 + 1)) dX12_hasFailed_102 hM.2.1 (xIx_nI (by omega) (by decide)) ?_
      refine x_int (I (A + 1) (50 + 12 * k + 9)) (by rw [eI10, xup_at, if_neg (by omega), eI6, xup_at, if_neg (by omega), eI2, xup_at, if_neg (by omega), eI1, xup_at, if_neg (by omega)]) ?_
      refine x_i2l 103 C dX12_hasFailed_103 ?_
      refine x_lmul 104 C dX12_hasFailed_104 ?_
      refine x_callSe 105 C dX12_hasFailed_105 (As := [.long (256 * (Int32.toInt64 (I (A + 1) (50 + 12 * k + 9))))]) (rest := [.int (nI (50 + 12 * k + 8 + 1)), .ref (A + 1)]) [.long (held (256 * (Int32.toInt64 (I (A + 1) (50 + 12 * k + 9))))), .int (nI (50 + 12 * k + 8 + 1)), .ref (A + 1)] (t_X12_held l D z n G I10 L (256 * (Int32.toInt64 (I (A + 1) (50 + 12 * k + 9)))) ) mt_X12_held km_X12_83 kt_X12_held rfl rfl (Nat.le_of_ble_eq_true rfl) ⟨⟨by decide, by decide⟩, by decide, by decide⟩ (fun I12 L13 eI12 eL13 => ?_)
      replace eI12 := eI12.symm; subst eI12
      replace eL13 := eL13.symm; subst eL13
      refine x_l2i 108 C dX12_hasFailed_108 ?_
      refine x_iast 109 C (j := (50 + 12 * k + 8 + 1)) dX12_hasFailed_109 hM.2.1 (by omega) (xIx_nI (by omega) (by decide)) (fun I14 eI14 => ?_)
      refine x_iinc 110 C [(2, .int 2), (0, .ref A), (1, .int (nI (50 + 12 * k)))] dX12_hasFailed_110 0 rfl (by decide) (by decide) rfl ?_
      refine x_goto 113 C 74 dX12_hasFailed_113 (by decide) ?_
      refine x_iload_n 74 C dX12_hasFailed_74 rfl 0 rfl ?_
      refine x_iconst 75 C (v := 4) dX12_hasFailed_75 rfl ?_
      refine x_icmp_ge 76 C 116 dX12_hasFailed_76 (by decide) (fun c15 => absurd c15 (by decide)) (fun _ => ?_)
      refine x_aload_n 79 C dX12_hasFailed_79 rfl 1 rfl ?_
      refine x_getr 80 C (b := A + 1) dX12_hasFailed_80 ff_X12_7 rfl hM.1 rfl ?_
      refine x_iload_n 83 C dX12_hasFailed_83 rfl 2 rfl ?_
      refine x_bipush 84 C (v := 8) dX12_hasFailed_84 rfl ?_
      refine x_iadd 86 C dX12_hasFailed_86 ?_
      refine x_int (nI (50 + 12 * k + 8)) (nI_add (50 + 12 * k) 8) ?_
      refine x_iload_n 87 C dX12_hasFailed_87 rfl 0 rfl ?_
      refine x_iadd 88 C dX12_hasFailed_88 ?_
      refine x_int (nI (50 + 12 * k + 8 + 2)) (nI_add (50 + 12 * k + 8) 2) ?_
      refine x_ldc2 89 C 256 dX12_hasFailed_89 kk_X12_170 ?_
      refine x_aload_n 92 C dX12_hasFailed_92 rfl 1 rfl ?_
      refine x_getr 93 C (b := A + 1) dX12_hasFailed_93 ff_X12_7 rfl hM.1 rfl ?_
      refine x_iload_n 96 C dX12_hasFailed_96 rfl 2 rfl ?_
      refine x_bipush 97 C (v := 8) dX12_hasFailed_97 rfl ?_
      refine x_iadd 99 C dX12_hasFailed_99 ?_
      refine x_int (nI (50 + 12 * k + 8)) (nI_add (50 + 12 * k) 8) ?_
      refine x_iload_n 100 C dX12_hasFailed_100 rfl 0 rfl ?_
      refine x_iadd 101 C dX12_hasFailed_101 ?_
      refine x_int (nI (50 + 12 * k + 8 + 2)) (nI_add (50 + 12 * k + 8) 2) ?_
      refine x_iald 102 C (j := (50 + 12 * k + 8 + 2)) dX12_hasFailed_102 hM.2.1 (xIx_nI (by omega) (by decide)) ?_
      refine x_int (I (A + 1) (50 + 12 * k + 10)) (by rw [eI14, xup_at, if_neg (by omega), eI10, xup_at, if_neg (by omega), eI6, xup_at, if_neg (by omega), eI2, xup_at, if_neg (by omega), eI1, xup_at, if_neg (by omega)]) ?_
      refine x_i2l 103 C dX12_hasFailed_103 ?_
      refine x_lmul 104 C dX12_hasFailed_104 ?_
      refine x_callSe 105 C dX12_hasFailed_105 (As := [.long (256 * (Int32.toInt64 (I (A + 1) (50 + 12 * k + 10))))]) (rest := [.int (nI (50 + 12 * k + 8 + 2)), .ref (A + 1)]) [.long (held (256 * (Int32.toInt64 (I (A + 1) (50 + 12 * k + 10))))), .int (nI (50 + 12 * k + 8 + 2)), .ref (A + 1)] (t_X12_held l D z n G I14 L (256 * (Int32.toInt64 (I (A + 1) (50 + 12 * k + 10)))) ) mt_X12_held km_X12_83 kt_X12_held rfl rfl (Nat.le_of_ble_eq_true rfl) ⟨⟨by decide, by decide⟩, by decide, by decide⟩ (fun I16 L17 eI16 eL17 => ?_)
      replace eI16 := eI16.symm; subst eI16
      replace eL17 := eL17.symm; subst eL17
      refine x_l2i 108 C dX12_hasFailed_108 ?_
      refine x_iast 109 C (j := (50 + 12 * k + 8 + 2)) dX12_hasFailed_109 hM.2.1 (by omega) (xIx_nI (by omega) (by decide)) (fun I18 eI18 => ?_)
      refine x_iinc 110 C [(2, .int 3), (0, .ref A), (1, .int (nI (50 + 12 * k)))] dX12_hasFailed_110 0 rfl (by decide) (by decide) rfl ?_
      refine x_goto 113 C 74 dX12_hasFailed_113 (by decide) ?_
      refine x_iload_n 74 C dX12_hasFailed_74 rfl 0 rfl ?_
      refine x_iconst 75 C (v := 4) dX12_hasFailed_75 rfl ?_
      refine x_icmp_ge 76 C 116 dX12_hasFailed_76 (by decide) (fun c19 => absurd c19 (by decide)) (fun _ => ?_)
      refine x_aload_n 79 C dX12_hasFailed_79 rfl 1 rfl ?_
      refine x_getr 80 C (b := A + 1) dX12_hasFailed_80 ff_X12_7 rfl hM.1 rfl ?_
      refine x_iload_n 83 C dX12_hasFailed_83 rfl 2 rfl ?_
      refine x_bipush 84 C (v := 8) dX12_hasFailed_84 rfl ?_
      refine x_iadd 86 C dX12_hasFailed_86 ?_
      refine x_int (nI (50 + 12 * k + 8)) (nI_add (50 + 12 * k) 8) ?_
      refine x_iload_n 87 C dX12_hasFailed_87 rfl 0 rfl ?_
      refine x_iadd 88 C dX12_hasFailed_88 ?_
      refine x_int (nI (50 + 12 * k + 8 + 3)) (nI_add (50 + 12 * k + 8) 3) ?_
      refine x_ldc2 89 C 256 dX12_hasFailed_89 kk_X12_170 ?_
      refine x_aload_n 92 C dX12_hasFailed_92 rfl 1 rfl ?_
      refine x_getr 93 C (b := A + 1) dX12_hasFailed_93 ff_X12_7 rfl hM.1 rfl ?_
      refine x_iload_n 96 C dX12_hasFailed_96 rfl 2 rfl ?_
      refine x_bipush 97 C (v := 8) dX12_hasFailed_97 rfl ?_
      refine x_iadd 99 C dX12_hasFailed_99 ?_
      refine x_int (nI (50 + 12 * k + 8)) (nI_add (50 + 12 * k) 8) ?_
      refine x_iload_n 100 C dX12_hasFailed_100 rfl 0 rfl ?_
      refine x_iadd 101 C dX12_hasFailed_101 ?_
      refine x_int (nI (50 + 12 * k + 8 + 3)) (nI_add (50 + 12 * k + 8) 3) ?_
      refine x_iald 102 C (j := (50 + 12 * k + 8 + 3)) dX12_hasFailed_102 hM.2.1 (xIx_nI (by omega) (by decide)) ?_
      refine x_int (I (A + 1) (50 + 12 * k + 11)) (by rw [eI18, xup_at, if_neg (by omega), eI14, xup_at, if_neg (by omega), eI10, xup_at, if_neg (by omega), eI6, xup_at, if_neg (by omega), eI2, xup_at, if_neg (by omega), eI1, xup_at, if_neg (by omega)]) ?_
      refine x_i2l 103 C dX12_hasFailed_103 ?_
      refine x_lmul 104 C dX12_hasFailed_104 ?_
      refine x_callSe 105 C dX12_hasFailed_105 (As := [.long (256 * (Int32.toInt64 (I (A + 1) (50 + 12 * k + 11))))]) (rest := [.int (nI (50 + 12 * k + 8 + 3)), .ref (A + 1)]) [.long (held (256 * (Int32.toInt64 (I (A + 1) (50 + 12 * k + 11))))), .int (nI (50 + 12 * k + 8 + 3)), .ref (A + 1)] (t_X12_held l D z n G I18 L (256 * (Int32.toInt64 (I (A + 1) (50 + 12 * k + 11)))) ) mt_X12_held km_X12_83 kt_X12_held rfl rfl (Nat.le_of_ble_eq_true rfl) ⟨⟨by decide, by decide⟩, by decide, by decide⟩ (fun I20 L21 eI20 eL21 => ?_)
      replace eI20 := eI20.symm; subst eI20
      replace eL21 := eL21.symm; subst eL21
      refine x_l2i 108 C dX12_hasFailed_108 ?_
      refine x_iast 109 C (j := (50 + 12 * k + 8 + 3)) dX12_hasFailed_109 hM.2.1 (by omega) (xIx_nI (by omega) (by decide)) (fun I22 eI22 => ?_)
      refine x_iinc 110 C [(2, .int 4), (0, .ref A), (1, .int (nI (50 + 12 * k)))] dX12_hasFailed_110 0 rfl (by decide) (by decide) rfl ?_
      refine x_goto 113 C 74 dX12_hasFailed_113 (by decide) ?_
      refine x_iload_n 74 C dX12_hasFailed_74 rfl 0 rfl ?_
      refine x_iconst 75 C (v := 4) dX12_hasFailed_75 rfl ?_
      refine x_icmp_ge 76 C 116 dX12_hasFailed_76 (by decide) (fun _ => ?_) (fun c23 => absurd (by decide) c23)
      refine x_aload_n 116 C dX12_hasFailed_116 rfl 1 rfl ?_
      refine x_getr 117 C (b := A + 1) dX12_hasFailed_117 ff_X12_7 rfl hM.1 rfl ?_
      refine x_iload_n 120 C dX12_hasFailed_120 rfl 2 rfl ?_
      refine x_iconst 121 C (v := 1) dX12_hasFailed_121 rfl ?_
      refine x_iadd 122 C dX12_hasFailed_122 ?_
      refine x_int (nI (50 + 12 * k + 1)) (nI_add (50 + 12 * k) 1) ?_
      refine x_aload_n 123 C dX12_hasFailed_123 rfl 1 rfl ?_
      refine x_iconst 124 C (v := 0) dX12_hasFailed_124 rfl ?_
      refine x_callVe 125 C dX12_hasFailed_125 (As := [.int 0]) (rest := [.int (nI (50 + 12 * k + 1)), .ref (A + 1)]) [.int (I22 (A + 1) (42 + 0)), .int (nI (50 + 12 * k + 1)), .ref (A + 1)] (t_X12_setting l D z n G I22 L A 0 hM (by first | omega | assumption | decide)) mt_X12_setting km_X12_119 ki_X12_setting ks_X12_setting hM.1 ⟨by decide, rfl⟩ rfl rfl (Nat.le_of_ble_eq_true rfl) ⟨⟨by decide, by decide⟩, by decide, by decide⟩ (fun I24 L25 eI24 eL25 => ?_)
      replace eI24 := eI24.symm; subst eI24
      replace eL25 := eL25.symm; subst eL25
      refine x_int (nI s0) (by rw [eI22, xup_at, if_neg (by omega)]; rw [eI18, xup_at, if_neg (by omega)]; rw [eI14, xup_at, if_neg (by omega)]; rw [eI10, xup_at, if_neg (by omega)]; rw [eI6, xup_at, if_neg (by omega)]; rw [eI2, xup_at, if_neg (by omega)]; rw [eI1, xup_at, if_neg (by omega)]; exact hs0) ?_
      refine x_aload_n 128 C dX12_hasFailed_128 rfl 1 rfl ?_
      refine x_getr 129 C (b := A + 1) dX12_hasFailed_129 ff_X12_7 rfl hM.1 rfl ?_
      refine x_iload_n 132 C dX12_hasFailed_132 rfl 2 rfl ?_
      refine x_iconst 133 C (v := 2) dX12_hasFailed_133 rfl ?_
      refine x_iadd 134 C dX12_hasFailed_134 ?_
      refine x_int (nI (50 + 12 * k + 2)) (nI_add (50 + 12 * k) 2) ?_
      refine x_iald 135 C (j := (50 + 12 * k + 2)) dX12_hasFailed_135 hM.2.1 (xIx_nI (by omega) (by decide)) ?_
      refine x_int (nI gN) (by rw [eI22, xup_at, if_neg (by omega), eI18, xup_at, if_neg (by omega), eI14, xup_at, if_neg (by omega), eI10, xup_at, if_neg (by omega), eI6, xup_at, if_neg (by omega), eI2, xup_at, if_neg (by omega), eI1, xup_at, if_neg (by omega)]; exact h2) ?_
      refine x_icmp_ge 136 C 147 dX12_hasFailed_136 (by decide) (fun c26 => ?_) (fun c26 => ?_)
      · skip
        have c26n : gN ≤ s0 := (nI_leI (a := gN) (b := s0) (by omega) (by omega)).mp c26
        have c26m : ¬ (s0 < gN) := by omega
        have c26o := Int32.not_lt.mpr c26
        refine x_aload_n 147 C dX12_hasFailed_147 rfl 1 rfl ?_
        refine x_getr 148 C (b := A + 1) dX12_hasFailed_148 ff_X12_7 rfl hM.1 rfl ?_
        refine x_iload_n 151 C dX12_hasFailed_151 rfl 2 rfl ?_
        refine x_iconst 152 C (v := 2) dX12_hasFailed_152 rfl ?_
        refine x_iadd 153 C dX12_hasFailed_153 ?_
        refine x_int (nI (50 + 12 * k + 2)) (nI_add (50 + 12 * k) 2) ?_
        refine x_iald 154 C (j := (50 + 12 * k + 2)) dX12_hasFailed_154 hM.2.1 (xIx_nI (by omega) (by decide)) ?_
        refine x_int (nI gN) (by rw [eI22, xup_at, if_neg (by omega), eI18, xup_at, if_neg (by omega), eI14, xup_at, if_neg (by omega), eI10, xup_at, if_neg (by omega), eI6, xup_at, if_neg (by omega), eI2, xup_at, if_neg (by omega), eI1, xup_at, if_neg (by omega)]; exact h2) ?_
        refine x_iast 155 C (j := (50 + 12 * k + 1)) dX12_hasFailed_155 hM.2.1 (by omega) (xIx_nI (by omega) (by decide)) (fun I27 eI27 => ?_)
        refine x_goto 156 C 168 dX12_hasFailed_156 (by decide) ?_
        refine x_vret 168 C dX12_hasFailed_168 rfl (Nat.le_refl _) (xN.intro ?_)
        have v0_ : I27 (A + 1) (50 + 12 * k) = I (A + 1) (50 + 12 * k) := by rw [eI27, xup_at, if_neg (by omega), eI22, xup_at, if_neg (by omega), eI18, xup_at, if_neg (by omega), eI14, xup_at, if_neg (by omega), eI10, xup_at, if_neg (by omega), eI6, xup_at, if_neg (by omega), eI2, xup_at, if_neg (by omega), eI1, xup_at, if_neg (by omega)]
        have v1_ : I27 (A + 1) (50 + 12 * k + 1) = nI gN := by rw [eI27, xup_at, if_pos (by omega)]
        have v2_ : I27 (A + 1) (50 + 12 * k + 2) = nI gN := by rw [eI27, xup_at, if_neg (by omega), eI22, xup_at, if_neg (by omega), eI18, xup_at, if_neg (by omega), eI14, xup_at, if_neg (by omega), eI10, xup_at, if_neg (by omega), eI6, xup_at, if_neg (by omega), eI2, xup_at, if_neg (by omega), eI1, xup_at, if_neg (by omega)]; exact h2
        have v3_ : I27 (A + 1) (50 + 12 * k + 3) = 18 := by rw [eI27, xup_at, if_neg (by omega), eI22, xup_at, if_neg (by omega), eI18, xup_at, if_neg (by omega), eI14, xup_at, if_neg (by omega), eI10, xup_at, if_neg (by omega), eI6, xup_at, if_pos (by omega)]
        have v4_ : I27 (A + 1) (50 + 12 * k + 4) = 0 := by rw [eI27, xup_at, if_neg (by omega), eI22, xup_at, if_neg (by omega), eI18, xup_at, if_neg (by omega), eI14, xup_at, if_neg (by omega), eI10, xup_at, if_neg (by omega), eI6, xup_at, if_neg (by omega), eI2, xup_at, if_pos (by omega)]
        have v5_ : I27 (A + 1) (50 + 12 * k + 5) = I (A + 1) (50 + 12 * k + 5) := by rw [eI27, xup_at, if_neg (by omega), eI22, xup_at, if_neg (by omega), eI18, xup_at, if_neg (by omega), eI14, xup_at, if_neg (by omega), eI10, xup_at, if_neg (by omega), eI6, xup_at, if_neg (by omega), eI2, xup_at, if_neg (by omega), eI1, xup_at, if_neg (by omega)]
        have v6_ : I27 (A + 1) (50 + 12 * k + 6) = I (A + 1) (50 + 12 * k + 6) := by rw [eI27, xup_at, if_neg (by omega), eI22, xup_at, if_neg (by omega), eI18, xup_at, if_neg (by omega), eI14, xup_at, if_neg (by omega), eI10, xup_at, if_neg (by omega), eI6, xup_at, if_neg (by omega), eI2, xup_at, if_neg (by omega), eI1, xup_at, if_neg (by omega)]
        have v7_ : I27 (A + 1) (50 + 12 * k + 7) = (I (A + 1) (50 + 12 * k + 7)) + 1 := by rw [eI27, xup_at, if_neg (by omega), eI22, xup_at, if_neg (by omega), eI18, xup_at, if_neg (by omega), eI14, xup_at, if_neg (by omega), eI10, xup_at, if_neg (by omega), eI6, xup_at, if_neg (by omega), eI2, xup_at, if_neg (by omega), eI1, xup_at, if_pos (by omega)]
        have v8_ : Int32.toInt64 (I27 (A + 1) (50 + 12 * k + 8)) = held ((mvO (I (A + 1)) (50 + 12 * k)).2.1.1 * 256) := by rw [eI27, xup_at, if_neg (by omega), eI22, xup_at, if_neg (by omega), eI18, xup_at, if_neg (by omega), eI14, xup_at, if_neg (by omega), eI10, xup_at, if_pos (by omega)]; exact (l2i_held (held_2 _)).trans (congrArg held (Int64.mul_comm _ _))
        have v9_ : Int32.toInt64 (I27 (A + 1) (50 + 12 * k + 9)) = held ((mvO (I (A + 1)) (50 + 12 * k)).2.1.2 * 256) := by rw [eI27, xup_at, if_neg (by omega), eI22, xup_at, if_neg (by omega), eI18, xup_at, if_neg (by omega), eI14, xup_at, if_pos (by omega)]; exact (l2i_held (held_2 _)).trans (congrArg held (Int64.mul_comm _ _))
        have v10_ : Int32.toInt64 (I27 (A + 1) (50 + 12 * k + 10)) = held ((mvO (I (A + 1)) (50 + 12 * k)).2.2.1 * 256) := by rw [eI27, xup_at, if_neg (by omega), eI22, xup_at, if_neg (by omega), eI18, xup_at, if_pos (by omega)]; exact (l2i_held (held_2 _)).trans (congrArg held (Int64.mul_comm _ _))
        have v11_ : Int32.toInt64 (I27 (A + 1) (50 + 12 * k + 11)) = held ((mvO (I (A + 1)) (50 + 12 * k)).2.2.2 * 256) := by rw [eI27, xup_at, if_neg (by omega), eI22, xup_at, if_pos (by omega)]; exact (l2i_held (held_2 _)).trans (congrArg held (Int64.mul_comm _ _))
        have g4 : (mvO (I (A + 1)) (50 + 12 * k)).1 4 = nI sN := h1
        have g6 : (mvO (I (A + 1)) (50 + 12 * k)).1 6 = I (A + 1) (50 + 12 * k + 3) := rfl
        have gc1 : gFailC (mvO (I (A + 1)) (50 + 12 * k)).1 (mvO (I (A + 1)) (50 + 12 * k)).2.1 = (held ((mvO (I (A + 1)) (50 + 12 * k)).2.1.1 * 256), held ((mvO (I (A + 1)) (50 + 12 * k)).2.1.2 * 256)) := by unfold gFailC; rw [g4, g6, if_pos ⟨hs1, hp10⟩]; rfl
        have gc2 : gFailC (mvO (I (A + 1)) (50 + 12 * k)).1 (mvO (I (A + 1)) (50 + 12 * k)).2.2 = (held ((mvO (I (A + 1)) (50 + 12 * k)).2.2.1 * 256), held ((mvO (I (A + 1)) (50 + 12 * k)).2.2.2 * 256)) := by unfold gFailC; rw [g4, g6, if_pos ⟨hs1, hp10⟩]; rfl
        refine ⟨rfl, rfl, ?_, fun j hj => by rw [eI27, xup_at, if_neg (by omega), eI22, xup_at, if_neg (by omega), eI18, xup_at, if_neg (by omega), eI14, xup_at, if_neg (by omega), eI10, xup_at, if_neg (by omega), eI6, xup_at, if_neg (by omega), eI2, xup_at, if_neg (by omega), eI1, xup_at, if_neg (by omega)], fun q hq => by rw [eI27, xup_row _ _ hq, eI22, xup_row _ _ hq, eI18, xup_row _ _ hq, eI14, xup_row _ _ hq, eI10, xup_row _ _ hq, eI6, xup_row _ _ hq, eI2, xup_row _ _ hq, eI1, xup_row _ _ hq]⟩
        have gf : gFail (mvO (I (A + 1)) (50 + 12 * k)).1 (nI s0) = rw8 (I (A + 1) (50 + 12 * k + 5)) (I (A + 1) (50 + 12 * k)) (nI gN) (nI gN) (18) (I (A + 1) (50 + 12 * k + 6)) ((I (A + 1) (50 + 12 * k + 7)) + 1) (0) := by
          rw [mvO_of (I (A + 1)) (50 + 12 * k) rfl h1 h2 rfl rfl rfl rfl rfl rfl rfl rfl rfl]
          show gFail (rw8 _ _ _ _ _ _ _ _) _ = _
          rw [gFail_rw8]; simp only [if_pos hs1, if_pos hp10]
          rw [imin_n (by omega) (by omega), show min s0 gN = gN by omega]
        rw [gf, gc1, gc2, mvO_of (I27 (A + 1)) (50 + 12 * k) v0_ v1_ v2_ v3_ v4_ v5_ v6_ v7_ v8_ v9_ v10_ v11_]
      · skip
        have c26n : ¬ (gN ≤ s0) := fun h => c26 ((nI_leI (a := gN) (b := s0) (by omega) (by omega)).mpr h)
        have c26m : s0 < gN := by omega
        have c26o := Int32.not_le.mp c26
        refine x_aload_n 139 C dX12_hasFailed_139 rfl 1 rfl ?_
        refine x_iconst 140 C (v := 0) dX12_hasFailed_140 rfl ?_
        refine x_callVe 141 C dX12_hasFailed_141 (As := [.int 0]) (rest := [.int (nI (50 + 12 * k + 1)), .ref (A + 1)]) [.int (I22 (A + 1) (42 + 0)), .int (nI (50 + 12 * k + 1)), .ref (A + 1)] (t_X12_setting l D z n G I22 L A 0 hM (by first | omega | assumption | decide)) mt_X12_setting km_X12_119 ki_X12_setting ks_X12_setting hM.1 ⟨by decide, rfl⟩ rfl rfl (Nat.le_of_ble_eq_true rfl) ⟨⟨by decide, by decide⟩, by decide, by decide⟩ (fun I28 L29 eI28 eL29 => ?_)
        replace eI28 := eI28.symm; subst eI28
        replace eL29 := eL29.symm; subst eL29
        refine x_int (nI s0) (by rw [eI22, xup_at, if_neg (by omega)]; rw [eI18, xup_at, if_neg (by omega)]; rw [eI14, xup_at, if_neg (by omega)]; rw [eI10, xup_at, if_neg (by omega)]; rw [eI6, xup_at, if_neg (by omega)]; rw [eI2, xup_at, if_neg (by omega)]; rw [eI1, xup_at, if_neg (by omega)]; exact hs0) ?_
        refine x_goto 144 C 155 dX12_hasFailed_144 (by decide) ?_
        refine x_iast 155 C (j := (50 + 12 * k + 1)) dX12_hasFailed_155 hM.2.1 (by omega) (xIx_nI (by omega) (by decide)) (fun I30 eI30 => ?_)
        refine x_goto 156 C 168 dX12_hasFailed_156 (by decide) ?_
        refine x_vret 168 C dX12_hasFailed_168 rfl (Nat.le_refl _) (xN.intro ?_)
        have v0_ : I30 (A + 1) (50 + 12 * k) = I (A + 1) (50 + 12 * k) := by rw [eI30, xup_at, if_neg (by omega), eI22, xup_at, if_neg (by omega), eI18, xup_at, if_neg (by omega), eI14, xup_at, if_neg (by omega), eI10, xup_at, if_neg (by omega), eI6, xup_at, if_neg (by omega), eI2, xup_at, if_neg (by omega), eI1, xup_at, if_neg (by omega)]
        have v1_ : I30 (A + 1) (50 + 12 * k + 1) = nI s0 := by rw [eI30, xup_at, if_pos (by omega)]
        have v2_ : I30 (A + 1) (50 + 12 * k + 2) = nI gN := by rw [eI30, xup_at, if_neg (by omega), eI22, xup_at, if_neg (by omega), eI18, xup_at, if_neg (by omega), eI14, xup_at, if_neg (by omega), eI10, xup_at, if_neg (by omega), eI6, xup_at, if_neg (by omega), eI2, xup_at, if_neg (by omega), eI1, xup_at, if_neg (by omega)]; exact h2
        have v3_ : I30 (A + 1) (50 + 12 * k + 3) = 18 := by rw [eI30, xup_at, if_neg (by omega), eI22, xup_at, if_neg (by omega), eI18, xup_at, if_neg (by omega), eI14, xup_at, if_neg (by omega), eI10, xup_at, if_neg (by omega), eI6, xup_at, if_pos (by omega)]
        have v4_ : I30 (A + 1) (50 + 12 * k + 4) = 0 := by rw [eI30, xup_at, if_neg (by omega), eI22, xup_at, if_neg (by omega), eI18, xup_at, if_neg (by omega), eI14, xup_at, if_neg (by omega), eI10, xup_at, if_neg (by omega), eI6, xup_at, if_neg (by omega), eI2, xup_at, if_pos (by omega)]
        have v5_ : I30 (A + 1) (50 + 12 * k + 5) = I (A + 1) (50 + 12 * k + 5) := by rw [eI30, xup_at, if_neg (by omega), eI22, xup_at, if_neg (by omega), eI18, xup_at, if_neg (by omega), eI14, xup_at, if_neg (by omega), eI10, xup_at, if_neg (by omega), eI6, xup_at, if_neg (by omega), eI2, xup_at, if_neg (by omega), eI1, xup_at, if_neg (by omega)]
        have v6_ : I30 (A + 1) (50 + 12 * k + 6) = I (A + 1) (50 + 12 * k + 6) := by rw [eI30, xup_at, if_neg (by omega), eI22, xup_at, if_neg (by omega), eI18, xup_at, if_neg (by omega), eI14, xup_at, if_neg (by omega), eI10, xup_at, if_neg (by omega), eI6, xup_at, if_neg (by omega), eI2, xup_at, if_neg (by omega), eI1, xup_at, if_neg (by omega)]
        have v7_ : I30 (A + 1) (50 + 12 * k + 7) = (I (A + 1) (50 + 12 * k + 7)) + 1 := by rw [eI30, xup_at, if_neg (by omega), eI22, xup_at, if_neg (by omega), eI18, xup_at, if_neg (by omega), eI14, xup_at, if_neg (by omega), eI10, xup_at, if_neg (by omega), eI6, xup_at, if_neg (by omega), eI2, xup_at, if_neg (by omega), eI1, xup_at, if_pos (by omega)]
        have v8_ : Int32.toInt64 (I30 (A + 1) (50 + 12 * k + 8)) = held ((mvO (I (A + 1)) (50 + 12 * k)).2.1.1 * 256) := by rw [eI30, xup_at, if_neg (by omega), eI22, xup_at, if_neg (by omega), eI18, xup_at, if_neg (by omega), eI14, xup_at, if_neg (by omega), eI10, xup_at, if_pos (by omega)]; exact (l2i_held (held_2 _)).trans (congrArg held (Int64.mul_comm _ _))
        have v9_ : Int32.toInt64 (I30 (A + 1) (50 + 12 * k + 9)) = held ((mvO (I (A + 1)) (50 + 12 * k)).2.1.2 * 256) := by rw [eI30, xup_at, if_neg (by omega), eI22, xup_at, if_neg (by omega), eI18, xup_at, if_neg (by omega), eI14, xup_at, if_pos (by omega)]; exact (l2i_held (held_2 _)).trans (congrArg held (Int64.mul_comm _ _))
        have v10_ : Int32.toInt64 (I30 (A + 1) (50 + 12 * k + 10)) = held ((mvO (I (A + 1)) (50 + 12 * k)).2.2.1 * 256) := by rw [eI30, xup_at, if_neg (by omega), eI22, xup_at, if_neg (by omega), eI18, xup_at, if_pos (by omega)]; exact (l2i_held (held_2 _)).trans (congrArg held (Int64.mul_comm _ _))
        have v11_ : Int32.toInt64 (I30 (A + 1) (50 + 12 * k + 11)) = held ((mvO (I (A + 1)) (50 + 12 * k)).2.2.2 * 256) := by rw [eI30, xup_at, if_neg (by omega), eI22, xup_at, if_pos (by omega)]; exact (l2i_held (held_2 _)).trans (congrArg held (Int64.mul_comm _ _))
        have g4 : (mvO (I (A + 1)) (50 + 12 * k)).1 4 = nI sN := h1
        have g6 : (mvO (I (A + 1)) (50 + 12 * k)).1 6 = I (A + 1) (50 + 12 * k + 3) := rfl
        have gc1 : gFailC (mvO (I (A + 1)) (50 + 12 * k)).1 (mvO (I (A + 1)) (50 + 12 * k)).2.1 = (held ((mvO (I (A + 1)) (50 + 12 * k)).2.1.1 * 256), held ((mvO (I (A + 1)) (50 + 12 * k)).2.1.2 * 256)) := by unfold gFailC; rw [g4, g6, if_pos ⟨hs1, hp10⟩]; rfl
        have gc2 : gFailC (mvO (I (A + 1)) (50 + 12 * k)).1 (mvO (I (A + 1)) (50 + 12 * k)).2.2 = (held ((mvO (I (A + 1)) (50 + 12 * k)).2.2.1 * 256), held ((mvO (I (A + 1)) (50 + 12 * k)).2.2.2 * 256)) := by unfold gFailC; rw [g4, g6, if_pos ⟨hs1, hp10⟩]; rfl
        refine ⟨rfl, rfl, ?_, fun j hj => by rw [eI30, xup_at, if_neg (by omega), eI22, xup_at, if_neg (by omega), eI18, xup_at, if_neg (by omega), eI14, xup_at, if_neg (by omega), eI10, xup_at, if_neg (by omega), eI6, xup_at, if_neg (by omega), eI2, xup_at, if_neg (by omega), eI1, xup_at, if_neg (by omega)], fun q hq => by rw [eI30, xup_row _ _ hq, eI22, xup_row _ _ hq, eI18, xup_row _ _ hq, eI14, xup_row _ _ hq, eI10, xup_row _ _ hq, eI6, xup_row _ _ hq, eI2, xup_row _ _ hq, eI1, xup_row _ _ hq]⟩
        have gf : gFail (mvO (I (A + 1)) (50 + 12 * k)).1 (nI s0) = rw8 (I (A + 1) (50 + 12 * k + 5)) (I (A + 1) (50 + 12 * k)) (nI s0) (nI gN) (18) (I (A + 1) (50 + 12 * k + 6)) ((I (A + 1) (50 + 12 * k + 7)) + 1) (0) := by
          rw [mvO_of (I (A + 1)) (50 + 12 * k) rfl h1 h2 rfl rfl rfl rfl rfl rfl rfl rfl rfl]
          show gFail (rw8 _ _ _ _ _ _ _ _) _ = _
          rw [gFail_rw8]; simp only [if_pos hs1, if_pos hp10]
          rw [imin_n (by omega) (by omega), show min s0 gN = s0 by omega]
        rw [gf, gc1, gc2, mvO_of (I30 (A + 1)) (50 + 12 * k) v0_ v1_ v2_ v3_ v4_ v5_ v6_ v7_ v8_ v9_ v10_ v11_]
  · skip
    have c3n : ¬ (sN ≤ 1) := fun h => c3 ((nI_leI (a := sN) (b := 1) (by omega) (by omega)).mpr h)
    have c3m : 1 < sN := by omega
    have c3o := Int32.not_le.mp c3
    have hs1 : ¬ nI sN ≤ 1 := c3
    refine x_aload_n 34 C dX12_hasFailed_34 rfl 0 rfl ?_
    refine x_getr 35 C (b := A + 1) dX12_hasFailed_35 ff_X12_7 rfl hM.1 rfl ?_
    refine x_iload_n 38 C dX12_hasFailed_38 rfl 1 rfl ?_
    refine x_iconst 39 C (v := 1) dX12_hasFailed_39 rfl ?_
    refine x_iadd 40 C dX12_hasFailed_40 ?_
    refine x_int (nI (50 + 12 * k + 1)) (nI_add (50 + 12 * k) 1) ?_
    refine x_dup2 41 C dX12_hasFailed_41 rfl rfl ?_
    refine x_iald 42 C (j := (50 + 12 * k + 1)) dX12_hasFailed_42 hM.2.1 (xIx_nI (by omega) (by decide)) ?_
    refine x_int (nI sN) (by rw [eI2, xup_at, if_neg (by omega), eI1, xup_at, if_neg (by omega)]; exact h1) ?_
    refine x_iconst 43 C (v := 2) dX12_hasFailed_43 rfl ?_
    refine x_idiv 44 C dX12_hasFailed_44 (by first | assumption | decide) ?_
    refine x_iast 45 C (j := (50 + 12 * k + 1)) dX12_hasFailed_45 hM.2.1 (by omega) (xIx_nI (by omega) (by decide)) (fun I31 eI31 => ?_)
    refine x_goto 46 C 168 dX12_hasFailed_46 (by decide) ?_
    refine x_vret 168 C dX12_hasFailed_168 rfl (Nat.le_refl _) (xN.intro ?_)
    have v0_ : I31 (A + 1) (50 + 12 * k) = I (A + 1) (50 + 12 * k) := by rw [eI31, xup_at, if_neg (by omega), eI2, xup_at, if_neg (by omega), eI1, xup_at, if_neg (by omega)]
    have v1_ : I31 (A + 1) (50 + 12 * k + 1) = (nI sN) / 2 := by rw [eI31, xup_at, if_pos (by omega)]
    have v2_ : I31 (A + 1) (50 + 12 * k + 2) = nI gN := by rw [eI31, xup_at, if_neg (by omega), eI2, xup_at, if_neg (by omega), eI1, xup_at, if_neg (by omega)]; exact h2
    have v3_ : I31 (A + 1) (50 + 12 * k + 3) = I (A + 1) (50 + 12 * k + 3) := by rw [eI31, xup_at, if_neg (by omega), eI2, xup_at, if_neg (by omega), eI1, xup_at, if_neg (by omega)]
    have v4_ : I31 (A + 1) (50 + 12 * k + 4) = 0 := by rw [eI31, xup_at, if_neg (by omega), eI2, xup_at, if_pos (by omega)]
    have v5_ : I31 (A + 1) (50 + 12 * k + 5) = I (A + 1) (50 + 12 * k + 5) := by rw [eI31, xup_at, if_neg (by omega), eI2, xup_at, if_neg (by omega), eI1, xup_at, if_neg (by omega)]
    have v6_ : I31 (A + 1) (50 + 12 * k + 6) = I (A + 1) (50 + 12 * k + 6) := by rw [eI31, xup_at, if_neg (by omega), eI2, xup_at, if_neg (by omega), eI1, xup_at, if_neg (by omega)]
    have v7_ : I31 (A + 1) (50 + 12 * k + 7) = (I (A + 1) (50 + 12 * k + 7)) + 1 := by rw [eI31, xup_at, if_neg (by omega), eI2, xup_at, if_neg (by omega), eI1, xup_at, if_pos (by omega)]
    have v8_ : Int32.toInt64 (I31 (A + 1) (50 + 12 * k + 8)) = (mvO (I (A + 1)) (50 + 12 * k)).2.1.1 := by rw [eI31, xup_at, if_neg (by omega), eI2, xup_at, if_neg (by omega), eI1, xup_at, if_neg (by omega)]; rfl
    have v9_ : Int32.toInt64 (I31 (A + 1) (50 + 12 * k + 9)) = (mvO (I (A + 1)) (50 + 12 * k)).2.1.2 := by rw [eI31, xup_at, if_neg (by omega), eI2, xup_at, if_neg (by omega), eI1, xup_at, if_neg (by omega)]; rfl
    have v10_ : Int32.toInt64 (I31 (A + 1) (50 + 12 * k + 10)) = (mvO (I (A + 1)) (50 + 12 * k)).2.2.1 := by rw [eI31, xup_at, if_neg (by omega), eI2, xup_at, if_neg (by omega), eI1, xup_at, if_neg (by omega)]; rfl
    have v11_ : Int32.toInt64 (I31 (A + 1) (50 + 12 * k + 11)) = (mvO (I (A + 1)) (50 + 12 * k)).2.2.2 := by rw [eI31, xup_at, if_neg (by omega), eI2, xup_at, if_neg (by omega), eI1, xup_at, if_neg (by omega)]; rfl
    have g4 : (mvO (I (A + 1)) (50 + 12 * k)).1 4 = nI sN := h1
    have g6 : (mvO (I (A + 1)) (50 + 12 * k)).1 6 = I (A + 1) (50 + 12 * k + 3) := rfl
    have gc1 : gFailC (mvO (I (A + 1)) (50 + 12 * k)).1 (mvO (I (A + 1)) (50 + 12 * k)).2.1 = (mvO (I (A + 1)) (50 + 12 * k)).2.1 := by unfold gFailC; rw [g4, g6, if_neg (fun h => hs1 h.1)]
    have gc2 : gFailC (mvO (I (A + 1)) (50 + 12 * k)).1 (mvO (I (A + 1)) (50 + 12 * k)).2.2 = (mvO (I (A + 1)) (50 + 12 * k)).2.2 := by unfold gFailC; rw [g4, g6, if_neg (fun h => hs1 h.1)]
    refine ⟨rfl, rfl, ?_, fun j hj => by rw [eI31, xup_at, if_neg (by omega), eI2, xup_at, if_neg (by omega), eI1, xup_at, if_neg (by omega)], fun q hq => by rw [eI31, xup_row _ _ hq, eI2, xup_row _ _ hq, eI1, xup_row _ _ hq]⟩
    have gf : gFail (mvO (I (A + 1)) (50 + 12 * k)).1 (nI s0) = rw8 (I (A + 1) (50 + 12 * k + 5)) (I (A + 1) (50 + 12 * k)) ((nI sN) / 2) (nI gN) (I (A + 1) (50 + 12 * k + 3)) (I (A + 1) (50 + 12 * k + 6)) ((I (A + 1) (50 + 12 * k + 7)) + 1) (0) := by
      rw [mvO_of (I (A + 1)) (50 + 12 * k) rfl h1 h2 rfl rfl rfl rfl rfl rfl rfl rfl rfl]
      show gFail (rw8 _ _ _ _ _ _ _ _) _ = _
      rw [gFail_rw8]; simp only [if_neg hs1]
    rw [gf, gc1, gc2, mvO_of (I31 (A + 1)) (50 + 12 * k) v0_ v1_ v2_ v3_ v4_ v5_ v6_ v7_ v8_ v9_ v10_ v11_]
theorem dX12_isOnWay_0 : decode cX12_isOnWay 0 = .ok (.aload_n 0, 1) := by decide +kernel
theorem dX12_isOnWay_1 : decode cX12_isOnWay 1 = .ok (.getfield 7, 3) := by decide +kernel
theorem dX12_isOnWay_4 : decode cX12_isOnWay 4 = .ok (.iload_n 1, 1) := by decide +kernel
theorem dX12_isOnWay_5 : decode cX12_isOnWay 5 = .ok (.invokestatic 146, 3) := by decide +kernel
theorem dX12_isOnWay_8 : decode cX12_isOnWay 8 = .ok (.iconst 5, 1) := by decide +kernel
theorem dX12_isOnWay_9 : decode cX12_isOnWay 9 = .ok (.iadd, 1) := by decide +kernel
theorem dX12_isOnWay_10 : decode cX12_isOnWay 10 = .ok (.iaload, 1) := by decide +kernel
theorem dX12_isOnWay_11 : decode cX12_isOnWay 11 = .ok (.ifCond .ne 7, 3) := by decide +kernel
theorem dX12_isOnWay_14 : decode cX12_isOnWay 14 = .ok (.iconst 1, 1) := by decide +kernel
theorem dX12_isOnWay_15 : decode cX12_isOnWay 15 = .ok (.goto 4, 3) := by decide +kernel
theorem dX12_isOnWay_18 : decode cX12_isOnWay 18 = .ok (.iconst 0, 1) := by decide +kernel
theorem dX12_isOnWay_19 : decode cX12_isOnWay 19 = .ok (.ireturn, 1) := by decide +kernel
set_option maxHeartbeats 1000000 in
set_option maxRecDepth 100000 in
theorem t_X12_isOnWay (l : Launch) (D : xD) (z n : Nat) (G : xG) (I : xI) (L : xL) (A : Nat) (k : Nat) (hM : shMo G A) (hk : k < 9) : xM0 l D z yX12_isOnWay cX12_isOnWay 2 (some .boolean) 1 20 [.ref A, .int (nI k)] n G I L (xE (some (.int (bI (decide (I (A + 1) (50 + 12 * k + 5) = 0))))) I L) := by
  refine xM.of (by decide) (Nat.le_of_ble_eq_true rfl) (fun p e s m args below meth c C hnm hsz => ?_)
  refine x_lv [(0, .ref A), (1, .int (nI k))] rfl ?_
  refine x_aload_n 0 C dX12_isOnWay_0 rfl 0 rfl ?_
  refine x_getr 1 C (b := A + 1) dX12_isOnWay_1 ff_X12_7 rfl hM.1 rfl ?_
  refine x_iload_n 4 C dX12_isOnWay_4 rfl 1 rfl ?_
  refine x_callSe 5 C dX12_isOnWay_5 (As := [.int (nI k)]) (rest := [.ref (A + 1)]) [.int (nI (50 + 12 * k)), .ref (A + 1)] (t_X12_pathAt l D z n G I L k (by first | omega | assumption | decide)) mt_X12_pathAt km_X12_146 kt_X12_pathAt rfl rfl (Nat.le_of_ble_eq_true rfl) ⟨⟨by decide, by decide⟩, by decide, by decide⟩ (fun I1 L2 eI1 eL2 => ?_)
  replace eI1 := eI1.symm; subst eI1
  replace eL2 := eL2.symm; subst eL2
  refine x_iconst 8 C (v := 5) dX12_isOnWay_8 rfl ?_
  refine x_iadd 9 C dX12_isOnWay_9 ?_
  refine x_int (nI (50 + 12 * k + 5)) (nI_add (50 + 12 * k) 5) ?_
  refine x_iald 10 C (j := (50 + 12 * k + 5)) dX12_isOnWay_10 hM.2.1 (xIx_nI (by omega) (by decide)) ?_
  refine x_if_ne 11 C 18 dX12_isOnWay_11 (by decide) (fun c3 => ?_) (fun c3 => ?_)
  · skip
    refine x_iconst 18 C (v := 0) dX12_isOnWay_18 rfl ?_
    refine x_iret 19 C dX12_isOnWay_19 rfl rfl (Nat.le_refl _) (xN.intro ?_)
    refine ⟨?_, rfl, rfl⟩
    simp [bI, c3]
  · skip
    refine x_iconst 14 C (v := 1) dX12_isOnWay_14 rfl ?_
    refine x_goto 15 C 19 dX12_isOnWay_15 (by decide) ?_
    refine x_iret 19 C dX12_isOnWay_19 rfl rfl (Nat.le_refl _) (xN.intro ?_)
    refine ⟨?_, rfl, rfl⟩
    simp [bI, c3]
theorem dX12_isAtEnd_0 : decode cX12_isAtEnd 0 = .ok (.aload_n 0, 1) := by decide +kernel
theorem dX12_isAtEnd_1 : decode cX12_isAtEnd 1 = .ok (.getfield 7, 3) := by decide +kernel
theorem dX12_isAtEnd_4 : decode cX12_isAtEnd 4 = .ok (.iload_n 1, 1) := by decide +kernel
theorem dX12_isAtEnd_5 : decode cX12_isAtEnd 5 = .ok (.invokestatic 146, 3) := by decide +kernel
theorem dX12_isAtEnd_8 : decode cX12_isAtEnd 8 = .ok (.iconst 5, 1) := by decide +kernel
theorem dX12_isAtEnd_9 : decode cX12_isAtEnd 9 = .ok (.iadd, 1) := by decide +kernel
theorem dX12_isAtEnd_10 : decode cX12_isAtEnd 10 = .ok (.iaload, 1) := by decide +kernel
theorem dX12_isAtEnd_11 : decode cX12_isAtEnd 11 = .ok (.iconst 1, 1) := by decide +kernel
theorem dX12_isAtEnd_12 : decode cX12_isAtEnd 12 = .ok (.if_icmp .ne 7, 3) := by decide +kernel
theorem dX12_isAtEnd_15 : decode cX12_isAtEnd 15 = .ok (.iconst 1, 1) := by decide +kernel
theorem dX12_isAtEnd_16 : decode cX12_isAtEnd 16 = .ok (.goto 4, 3) := by decide +kernel
theorem dX12_isAtEnd_19 : decode cX12_isAtEnd 19 = .ok (.iconst 0, 1) := by decide +kernel
theorem dX12_isAtEnd_20 : decode cX12_isAtEnd 20 = .ok (.ireturn, 1) := by decide +kernel
set_option maxHeartbeats 1000000 in
set_option maxRecDepth 100000 in
theorem t_X12_isAtEnd (l : Launch) (D : xD) (z n : Nat) (G : xG) (I : xI) (L : xL) (A : Nat) (k : Nat) (hM : shMo G A) (hk : k < 9) : xM0 l D z yX12_isAtEnd cX12_isAtEnd 2 (some .boolean) 1 20 [.ref A, .int (nI k)] n G I L (xE (some (.int (bI (decide (I (A + 1) (50 + 12 * k + 5) = 1))))) I L) := by
  refine xM.of (by decide) (Nat.le_of_ble_eq_true rfl) (fun p e s m args below meth c C hnm hsz => ?_)
  refine x_lv [(0, .ref A), (1, .int (nI k))] rfl ?_
  refine x_aload_n 0 C dX12_isAtEnd_0 rfl 0 rfl ?_
  refine x_getr 1 C (b := A + 1) dX12_isAtEnd_1 ff_X12_7 rfl hM.1 rfl ?_
  refine x_iload_n 4 C dX12_isAtEnd_4 rfl 1 rfl ?_
  refine x_callSe 5 C dX12_isAtEnd_5 (As := [.int (nI k)]) (rest := [.ref (A + 1)]) [.int (nI (50 + 12 * k)), .ref (A + 1)] (t_X12_pathAt l D z n G I L k (by first | omega | assumption | decide)) mt_X12_pathAt km_X12_146 kt_X12_pathAt rfl rfl (Nat.le_of_ble_eq_true rfl) ⟨⟨by decide, by decide⟩, by decide, by decide⟩ (fun I1 L2 eI1 eL2 => ?_)
  replace eI1 := eI1.symm; subst eI1
  replace eL2 := eL2.symm; subst eL2
  refine x_iconst 8 C (v := 5) dX12_isAtEnd_8 rfl ?_
  refine x_iadd 9 C dX12_isAtEnd_9 ?_
  refine x_int (nI (50 + 12 * k + 5)) (nI_add (50 + 12 * k) 5) ?_
  refine x_iald 10 C (j := (50 + 12 * k + 5)) dX12_isAtEnd_10 hM.2.1 (xIx_nI (by omega) (by decide)) ?_
  refine x_iconst 11 C (v := 1) dX12_isAtEnd_11 rfl ?_
  refine x_icmp_ne 12 C 19 dX12_isAtEnd_12 (by decide) (fun c3 => ?_) (fun c3 => ?_)
  · skip
    refine x_iconst 19 C (v := 0) dX12_isAtEnd_19 rfl ?_
    refine x_iret 20 C dX12_isAtEnd_20 rfl rfl (Nat.le_refl _) (xN.intro ?_)
    refine ⟨?_, rfl, rfl⟩
    simp [bI, c3]
  · skip
    refine x_iconst 15 C (v := 1) dX12_isAtEnd_15 rfl ?_
    refine x_goto 16 C 20 dX12_isAtEnd_16 (by decide) ?_
    refine x_iret 20 C dX12_isAtEnd_20 rfl rfl (Nat.le_refl _) (xN.intro ?_)
    refine ⟨?_, rfl, rfl⟩
    simp [bI, c3]
theorem dX12_tries_0 : decode cX12_tries 0 = .ok (.iload_n 1, 1) := by decide +kernel
theorem dX12_tries_1 : decode cX12_tries 1 = .ok (.invokestatic 146, 3) := by decide +kernel
theorem dX12_tries_4 : decode cX12_tries 4 = .ok (.istore_n 2, 1) := by decide +kernel
theorem dX12_tries_5 : decode cX12_tries 5 = .ok (.aload_n 0, 1) := by decide +kernel
theorem dX12_tries_6 : decode cX12_tries 6 = .ok (.iload_n 1, 1) := by decide +kernel
theorem dX12_tries_7 : decode cX12_tries 7 = .ok (.invokevirtual 172, 3) := by decide +kernel
theorem dX12_tries_10 : decode cX12_tries 10 = .ok (.sipush 1024, 3) := by decide +kernel
theorem dX12_tries_13 : decode cX12_tries 13 = .ok (.aload_n 0, 1) := by decide +kernel
theorem dX12_tries_14 : decode cX12_tries 14 = .ok (.getfield 7, 3) := by decide +kernel
theorem dX12_tries_17 : decode cX12_tries 17 = .ok (.iload_n 2, 1) := by decide +kernel
theorem dX12_tries_18 : decode cX12_tries 18 = .ok (.iconst 0, 1) := by decide +kernel
theorem dX12_tries_19 : decode cX12_tries 19 = .ok (.iadd, 1) := by decide +kernel
theorem dX12_tries_20 : decode cX12_tries 20 = .ok (.iaload, 1) := by decide +kernel
theorem dX12_tries_21 : decode cX12_tries 21 = .ok (.isub, 1) := by decide +kernel
theorem dX12_tries_22 : decode cX12_tries 22 = .ok (.istore_n 3, 1) := by decide +kernel
theorem dX12_tries_23 : decode cX12_tries 23 = .ok (.aload_n 0, 1) := by decide +kernel
theorem dX12_tries_24 : decode cX12_tries 24 = .ok (.getfield 7, 3) := by decide +kernel
theorem dX12_tries_27 : decode cX12_tries 27 = .ok (.iload_n 2, 1) := by decide +kernel
theorem dX12_tries_28 : decode cX12_tries 28 = .ok (.iconst 1, 1) := by decide +kernel
theorem dX12_tries_29 : decode cX12_tries 29 = .ok (.iadd, 1) := by decide +kernel
theorem dX12_tries_30 : decode cX12_tries 30 = .ok (.iaload, 1) := by decide +kernel
theorem dX12_tries_31 : decode cX12_tries 31 = .ok (.iload_n 3, 1) := by decide +kernel
theorem dX12_tries_32 : decode cX12_tries 32 = .ok (.if_icmp .ge 14, 3) := by decide +kernel
theorem dX12_tries_35 : decode cX12_tries 35 = .ok (.aload_n 0, 1) := by decide +kernel
theorem dX12_tries_36 : decode cX12_tries 36 = .ok (.getfield 7, 3) := by decide +kernel
theorem dX12_tries_39 : decode cX12_tries 39 = .ok (.iload_n 2, 1) := by decide +kernel
theorem dX12_tries_40 : decode cX12_tries 40 = .ok (.iconst 1, 1) := by decide +kernel
theorem dX12_tries_41 : decode cX12_tries 41 = .ok (.iadd, 1) := by decide +kernel
theorem dX12_tries_42 : decode cX12_tries 42 = .ok (.iaload, 1) := by decide +kernel
theorem dX12_tries_43 : decode cX12_tries 43 = .ok (.goto 4, 3) := by decide +kernel
theorem dX12_tries_46 : decode cX12_tries 46 = .ok (.iload_n 3, 1) := by decide +kernel
theorem dX12_tries_47 : decode cX12_tries 47 = .ok (.istore 4, 2) := by decide +kernel
theorem dX12_tries_49 : decode cX12_tries 49 = .ok (.aload_n 0, 1) := by decide +kernel
theorem dX12_tries_50 : decode cX12_tries 50 = .ok (.aload_n 0, 1) := by decide +kernel
theorem dX12_tries_51 : decode cX12_tries 51 = .ok (.getfield 7, 3) := by decide +kernel
theorem dX12_tries_54 : decode cX12_tries 54 = .ok (.iload_n 2, 1) := by decide +kernel
theorem dX12_tries_55 : decode cX12_tries 55 = .ok (.iconst 0, 1) := by decide +kernel
theorem dX12_tries_56 : decode cX12_tries 56 = .ok (.iadd, 1) := by decide +kernel
theorem dX12_tries_57 : decode cX12_tries 57 = .ok (.iaload, 1) := by decide +kernel
theorem dX12_tries_58 : decode cX12_tries 58 = .ok (.iload 4, 2) := by decide +kernel
theorem dX12_tries_60 : decode cX12_tries 60 = .ok (.invokevirtual 175, 3) := by decide +kernel
theorem dX12_tries_63 : decode cX12_tries 63 = .ok (.ifCond .eq 31, 3) := by decide +kernel
theorem dX12_tries_66 : decode cX12_tries 66 = .ok (.aload_n 0, 1) := by decide +kernel
theorem dX12_tries_67 : decode cX12_tries 67 = .ok (.aload_n 0, 1) := by decide +kernel
theorem dX12_tries_68 : decode cX12_tries 68 = .ok (.getfield 7, 3) := by decide +kernel
theorem dX12_tries_71 : decode cX12_tries 71 = .ok (.iload_n 2, 1) := by decide +kernel
theorem dX12_tries_72 : decode cX12_tries 72 = .ok (.iconst 0, 1) := by decide +kernel
theorem dX12_tries_73 : decode cX12_tries 73 = .ok (.iadd, 1) := by decide +kernel
theorem dX12_tries_74 : decode cX12_tries 74 = .ok (.iaload, 1) := by decide +kernel
theorem dX12_tries_75 : decode cX12_tries 75 = .ok (.iload 4, 2) := by decide +kernel
theorem dX12_tries_77 : decode cX12_tries 77 = .ok (.iadd, 1) := by decide +kernel
theorem dX12_tries_78 : decode cX12_tries 78 = .ok (.invokevirtual 179, 3) := by decide +kernel
theorem dX12_tries_81 : decode cX12_tries 81 = .ok (.ifCond .eq 13, 3) := by decide +kernel
theorem dX12_tries_84 : decode cX12_tries 84 = .ok (.aload_n 0, 1) := by decide +kernel
theorem dX12_tries_85 : decode cX12_tries 85 = .ok (.iload_n 2, 1) := by decide +kernel
theorem dX12_tries_86 : decode cX12_tries 86 = .ok (.iload 4, 2) := by decide +kernel
theorem dX12_tries_88 : decode cX12_tries 88 = .ok (.invokevirtual 183, 3) := by decide +kernel
theorem dX12_tries_91 : decode cX12_tries 91 = .ok (.goto 8, 3) := by decide +kernel
theorem dX12_tries_94 : decode cX12_tries 94 = .ok (.aload_n 0, 1) := by decide +kernel
theorem dX12_tries_95 : decode cX12_tries 95 = .ok (.iload_n 2, 1) := by decide +kernel
theorem dX12_tries_96 : decode cX12_tries 96 = .ok (.invokevirtual 186, 3) := by decide +kernel
theorem dX12_tries_99 : decode cX12_tries 99 = .ok (.return_, 1) := by decide +kernel
set_option maxHeartbeats 1000000 in
set_option maxRecDepth 100000 in
theorem t_X12_tries (l : Launch) (D : xD) (z n : Nat) (G : xG) (I : xI) (L : xL) (A : Nat) (k : Nat) (P : Nat) (sN : Nat) (gN : Nat) (wN : Nat) (s0 : Nat) (R : Nat) (Y : xSy) (hM : shMo G A) (zA : z ≤ A) (hk : k < 9) (h0 : I (A + 1) (50 + 12 * k) = nI P) (hPl : P ≤ 1024) (h1 : I (A + 1) (50 + 12 * k + 1) = nI sN) (hs : sN ≤ 256) (h2 : I (A + 1) (50 + 12 * k + 2) = nI gN) (hg : gN ≤ 256) (h4 : I (A + 1) (50 + 12 * k + 4) = nI wN) (hw : wN ≤ 2) (h5 : I (A + 1) (50 + 12 * k + 5) = 0) (hpr : I (A + 1) (50 + 12 * k + 3) = 10 ∨ I (A + 1) (50 + 12 * k + 3) = 18) (hxp : hC (mvO (I (A + 1)) (50 + 12 * k)).2.1 = (mvO (I (A + 1)) (50 + 12 * k)).2.1) (hyp : hC (mvO (I (A + 1)) (50 + 12 * k)).2.2 = (mvO (I (A + 1)) (50 + 12 * k)).2.2) (hY : cofY I A Y) (hR : I (A + 1) 44 = nI R) (hR9 : R ≤ 9) (hs0 : I (A + 1) 42 = nI s0) (hs0l : s0 ≤ 256) : xM0 l D z yX12_tries cX12_tries 5 none 8 210 [.ref A, .int (nI k)] n G I L (fun v' I' L' => v' = none ∧ (mvO (I' (A + 1)) (50 + 12 * k) = tryF Y R (I (A + 1) 45) (I (A + 1) 46) (nI s0) (mvO (I (A + 1)) (50 + 12 * k)) P sN) ∧ (∀ j, (j < 50 + 12 * k ∨ 62 + 12 * k ≤ j) → I' (A + 1) j = I (A + 1) j) ∧ (∀ q, q ≠ A + 1 → I' q = I q) ∧ (∀ q, (q < A ∨ A + 14 ≤ q) → L' q = L q)) := by
  refine xM.of (by decide) (Nat.le_of_ble_eq_true rfl) (fun p e s m args below meth c C hnm hsz => ?_)
  refine x_lv [(0, .ref A), (1, .int (nI k))] rfl ?_
  refine x_iload_n 0 C dX12_tries_0 rfl 1 rfl ?_
  refine x_callSe 1 C dX12_tries_1 (As := [.int (nI k)]) (rest := []) [.int (nI (50 + 12 * k))] (t_X12_pathAt l D z n G I L k (by first | omega | assumption | decide)) mt_X12_pathAt km_X12_146 kt_X12_pathAt rfl rfl (Nat.le_of_ble_eq_true rfl) ⟨⟨by decide, by decide⟩, by decide, by decide⟩ (fun I1 L2 eI1 eL2 => ?_)
  replace eI1 := eI1.symm; subst eI1
  replace eL2 := eL2.symm; subst eL2
  refine x_istore_n 4 C [(2, .int (nI (50 + 12 * k))), (0, .ref A), (1, .int (nI k))] dX12_tries_4 rfl (by decide) rfl ?_
  refine x_aload_n 5 C dX12_tries_5 rfl 1 rfl ?_
  refine x_iload_n 6 C dX12_tries_6 rfl 2 rfl ?_
  refine x_callVp 7 C dX12_tries_7 (As := [.int (nI k)]) (rest := []) (t_X12_takes l D z n G I L A k hM (by omega) (by first | omega | assumption | decide) (by first | omega | assumption | decide)) mt_X12_takes km_X12_172 ki_X12_takes ks_X12_takes hM.1 ⟨by decide, rfl⟩ rfl (Nat.le_of_ble_eq_true rfl) ⟨⟨by decide, by decide⟩, by decide, by decide⟩ (fun w3 I4 L5 hw3 => ?_)
  obtain ⟨hw3v, eI4, hw3r0, hw3r1, hw3r2, hw3r3⟩ := hw3
  subst hw3v
  refine x_st [] rfl ?_
  replace eI4 := eI4.symm; subst eI4
  refine x_sipush 10 C (v := 1024) dX12_tries_10 rfl ?_
  refine x_aload_n 13 C dX12_tries_13 rfl 1 rfl ?_
  refine x_getr 14 C (b := A + 1) dX12_tries_14 ff_X12_7 rfl hM.1 rfl ?_
  refine x_iload_n 17 C dX12_tries_17 rfl 0 rfl ?_
  refine x_iconst 18 C (v := 0) dX12_tries_18 rfl ?_
  refine x_iadd 19 C dX12_tries_19 ?_
  refine x_int (nI (50 + 12 * k + 0)) (nI_add (50 + 12 * k) 0) ?_
  refine x_iald 20 C (j := (50 + 12 * k + 0)) dX12_tries_20 hM.2.1 (xIx_nI (by omega) (by decide)) ?_
  refine x_int (nI P) h0 ?_
  refine x_isub 21 C dX12_tries_21 ?_
  refine x_int (nI (1024 - P)) (nI_sub (a := 1024) (b := P) (by omega)) ?_
  refine x_istore_n 22 C [(3, .int (nI (1024 - P))), (2, .int (nI (50 + 12 * k))), (0, .ref A), (1, .int (nI k))] dX12_tries_22 rfl (by decide) rfl ?_
  refine x_aload_n 23 C dX12_tries_23 rfl 2 rfl ?_
  refine x_getr 24 C (b := A + 1) dX12_tries_24 ff_X12_7 rfl hM.1 rfl ?_
  refine x_iload_n 27 C dX12_tries_27 rfl 1 rfl ?_
  refine x_iconst 28 C (v := 1) dX12_tries_28 rfl ?_
  refine x_iadd 29 C dX12_tries_29 ?_
  refine x_int (nI (50 + 12 * k + 1)) (nI_add (50 + 12 * k) 1) ?_
  refine x_iald 30 C (j := (50 + 12 * k + 1)) dX12_tries_30 hM.2.1 (xIx_nI (by omega) (by decide)) ?_
  refine x_int (nI sN) h1 ?_
  refine x_iload_n 31 C dX12_tries_31 rfl 0 rfl ?_
  refine x_icmp_ge 32 C 46 dX12_tries_32 (by decide) (fun c6 => ?_) (fun c6 => ?_)
  · skip
    have c6n : (1024 - P) ≤ sN := (nI_leI (a := (1024 - P)) (b := sN) (by omega) (by omega)).mp c6
    have c6m : ¬ (sN < (1024 - P)) := by omega
    have c6o := Int32.not_lt.mpr c6
    refine x_iload_n 46 C dX12_tries_46 rfl 0 rfl ?_
    refine x_int (nI (min sN (1024 - P))) (by rw [show (min sN (1024 - P)) = 1024 - P by omega]) ?_
    refine x_istore 47 C [(4, .int (nI (min sN (1024 - P)))), (3, .int (nI (1024 - P))), (2, .int (nI (50 + 12 * k))), (0, .ref A), (1, .int (nI k))] dX12_tries_47 (by decide) rfl ?_
    refine x_aload_n 49 C dX12_tries_49 rfl 3 rfl ?_
    refine x_aload_n 50 C dX12_tries_50 rfl 3 rfl ?_
    refine x_getr 51 C (b := A + 1) dX12_tries_51 ff_X12_7 rfl hM.1 rfl ?_
    refine x_iload_n 54 C dX12_tries_54 rfl 2 rfl ?_
    refine x_iconst 55 C (v := 0) dX12_tries_55 rfl ?_
    refine x_iadd 56 C dX12_tries_56 ?_
    refine x_int (nI (50 + 12 * k + 0)) (nI_add (50 + 12 * k) 0) ?_
    refine x_iald 57 C (j := (50 + 12 * k + 0)) dX12_tries_57 hM.2.1 (xIx_nI (by omega) (by decide)) ?_
    refine x_int (nI P) h0 ?_
    refine x_iload 58 C dX12_tries_58 0 rfl ?_
    refine x_callVp 60 C dX12_tries_60 (As := [.int (nI P), .int (nI (min sN (1024 - P)))]) (rest := []) (t_X12_predicts l D z n G I L5 A P (min sN (1024 - P)) (punit (I (A + 1) (50 + 12 * k + 3))) Y hM (by omega) (by first | omega | assumption | decide) (by omega) hw3r0 (punit_nz _) (by first | assumption | omega | decide) (by rw [hw3r1]; exact hxp) (by rw [hw3r2]; exact hyp)) mt_X12_predicts km_X12_175 ki_X12_predicts ks_X12_predicts hM.1 ⟨by decide, rfl⟩ rfl (Nat.le_of_ble_eq_true rfl) ⟨⟨by decide, by decide⟩, by decide, by decide⟩ (fun w7 I8 L9 hw7 => ?_)
    obtain ⟨hw7v, eI8, hw7r0, hw7r1, hw7r2, hw7r3⟩ := hw7
    subst hw7v
    refine x_st [.int (if syN Y P (punit (I (A + 1) (50 + 12 * k + 3))) (mRp L5 (A + 7) 0) (mRp L5 (A + 7) 2) = 0 then 0 else 1)] rfl ?_
    replace eI8 := eI8.symm; subst eI8
    refine x_if_eq 63 C 94 dX12_tries_63 (by decide) (fun c10 => ?_) (fun c10 => ?_)
    · skip
      have hn := ite01 c10
      rw [hw3r1, hw3r2] at hn
      have htry : tryC Y R (I (A + 1) 45) P (min sN (1024 - P)) (punit (I (A + 1) (50 + 12 * k + 3))) (mvO (I (A + 1)) (50 + 12 * k)).2.1 (mvO (I (A + 1)) (50 + 12 * k)).2.2 = none := by unfold tryC; exact if_pos hn
      refine x_aload_n 94 C dX12_tries_94 rfl 3 rfl ?_
      refine x_iload_n 95 C dX12_tries_95 rfl 2 rfl ?_
      refine x_callVp 96 C dX12_tries_96 (As := [.int (nI (50 + 12 * k))]) (rest := []) (t_X12_hasFailed l D z n G I L9 A k sN gN s0 hM (by omega) (by first | omega | assumption | decide) (by first | assumption | omega | decide) (by first | omega | assumption | decide) (by first | assumption | omega | decide) (by first | omega | assumption | decide) (by first | assumption | omega | decide) (by first | omega | assumption | decide)) mt_X12_hasFailed km_X12_186 ki_X12_hasFailed ks_X12_hasFailed hM.1 ⟨by decide, rfl⟩ rfl (Nat.le_of_ble_eq_true rfl) ⟨⟨by decide, by decide⟩, by decide, by decide⟩ (fun w11 I12 L13 hw11 => ?_)
      obtain ⟨hw11v, eL13, hw11r0, hw11r1, hw11r2⟩ := hw11
      subst hw11v
      refine x_st [] rfl ?_
      replace eL13 := eL13.symm; subst eL13
      refine x_vret 99 C dX12_tries_99 rfl (Nat.le_refl _) (xN.intro ?_)
      have hpu : (punit ((mvO (I (A + 1)) (50 + 12 * k)).1 6)) = (punit (I (A + 1) (50 + 12 * k + 3))) := rfl
      have htf : tryF Y R (I (A + 1) 45) (I (A + 1) 46) (nI s0) (mvO (I (A + 1)) (50 + 12 * k)) P sN = (gFail (mvO (I (A + 1)) (50 + 12 * k)).1 (nI s0), gFailC (mvO (I (A + 1)) (50 + 12 * k)).1 (mvO (I (A + 1)) (50 + 12 * k)).2.1, gFailC (mvO (I (A + 1)) (50 + 12 * k)).1 (mvO (I (A + 1)) (50 + 12 * k)).2.2) := by unfold tryF; rw [hpu, htry]
      exact ⟨rfl, by rw [htf, hw11r0], hw11r1, hw11r2, fun q hq => by first | exact ((hw7r2 q hq).trans (hw7r2 q hq)).trans (hw3r3 q (by omega) (by omega)) | exact (hw7r2 q hq).trans (hw3r3 q (by omega) (by omega))⟩
    · skip
      have hn := ite01n c10
      rw [hw3r1, hw3r2] at hn
      have hpx : mRp L9 (A + 7) 0 = pdX Y P (nI (min sN (1024 - P))) (punit (I (A + 1) (50 + 12 * k + 3))) (mvO (I (A + 1)) (50 + 12 * k)).2.1 (mvO (I (A + 1)) (50 + 12 * k)).2.2 := by rw [hw7r0, hw3r1, hw3r2]; exact if_neg hn
      have hpy : mRp L9 (A + 7) 2 = pdY Y P (nI (min sN (1024 - P))) (punit (I (A + 1) (50 + 12 * k + 3))) (mvO (I (A + 1)) (50 + 12 * k)).2.1 (mvO (I (A + 1)) (50 + 12 * k)).2.2 := by rw [hw7r1, hw3r1, hw3r2]; exact if_neg hn
      refine x_aload_n 66 C dX12_tries_66 rfl 3 rfl ?_
      refine x_aload_n 67 C dX12_tries_67 rfl 3 rfl ?_
      refine x_getr 68 C (b := A + 1) dX12_tries_68 ff_X12_7 rfl hM.1 rfl ?_
      refine x_iload_n 71 C dX12_tries_71 rfl 2 rfl ?_
      refine x_iconst 72 C (v := 0) dX12_tries_72 rfl ?_
      refine x_iadd 73 C dX12_tries_73 ?_
      refine x_int (nI (50 + 12 * k + 0)) (nI_add (50 + 12 * k) 0) ?_
      refine x_iald 74 C (j := (50 + 12 * k + 0)) dX12_tries_74 hM.2.1 (xIx_nI (by omega) (by decide)) ?_
      refine x_int (nI P) h0 ?_
      refine x_iload 75 C dX12_tries_75 0 rfl ?_
      refine x_iadd 77 C dX12_tries_77 ?_
      refine x_int (nI (P + (min sN (1024 - P)))) (nI_add P (min sN (1024 - P))) ?_
      refine x_callVp 78 C dX12_tries_78 (As := [.int (nI (P + (min sN (1024 - P))))]) (rest := []) (t_X12_corrects l D z n G I L9 A (P + (min sN (1024 - P))) (punit (I (A + 1) (50 + 12 * k + 3))) Y R hM (by omega) (by omega) (by rw [hw7r3 9 (by decide) (by decide)]; exact hw3r0) (punit_nz _) (by first | assumption | omega | decide) (by first | assumption | omega | decide) (by first | omega | assumption | decide) (by rw [hpx]; exact hC_2 _) (by rw [hpy]; exact hC_2 _)) mt_X12_corrects km_X12_179 ki_X12_corrects ks_X12_corrects hM.1 ⟨by decide, rfl⟩ rfl (Nat.le_of_ble_eq_true rfl) ⟨⟨by decide, by decide⟩, by decide, by decide⟩ (fun w14 I15 L16 hw14 => ?_)
      obtain ⟨hw14v, eI15, hw14r0, hw14r1, hw14r2⟩ := hw14
      subst hw14v
      refine x_st [.int (if (coN Y (P + (min sN (1024 - P))) (punit (I (A + 1) (50 + 12 * k + 3))) (I (A + 1) 45) R 0 0 (mRp L9 (A + 7) 0) (mRp L9 (A + 7) 2)).isSome then 1 else 0)] rfl ?_
      replace eI15 := eI15.symm; subst eI15
      refine x_if_eq 81 C 94 dX12_tries_81 (by decide) (fun c17 => ?_) (fun c17 => ?_)
      · skip
        have hco : coN Y (P + (min sN (1024 - P))) (punit (I (A + 1) (50 + 12 * k + 3))) (I (A + 1) 45) R 0 0 (pdX Y P (nI (min sN (1024 - P))) (punit (I (A + 1) (50 + 12 * k + 3))) (mvO (I (A + 1)) (50 + 12 * k)).2.1 (mvO (I (A + 1)) (50 + 12 * k)).2.2) (pdY Y P (nI (min sN (1024 - P))) (punit (I (A + 1) (50 + 12 * k + 3))) (mvO (I (A + 1)) (50 + 12 * k)).2.1 (mvO (I (A + 1)) (50 + 12 * k)).2.2) = none := by have h := iteN c17; rw [hpx, hpy] at h; exact h
        have htry : tryC Y R (I (A + 1) 45) P (min sN (1024 - P)) (punit (I (A + 1) (50 + 12 * k + 3))) (mvO (I (A + 1)) (50 + 12 * k)).2.1 (mvO (I (A + 1)) (50 + 12 * k)).2.2 = none := by unfold tryC; rw [if_neg hn]; exact hco
        refine x_aload_n 94 C dX12_tries_94 rfl 3 rfl ?_
        refine x_iload_n 95 C dX12_tries_95 rfl 2 rfl ?_
        refine x_callVp 96 C dX12_tries_96 (As := [.int (nI (50 + 12 * k))]) (rest := []) (t_X12_hasFailed l D z n G I L16 A k sN gN s0 hM (by omega) (by first | omega | assumption | decide) (by first | assumption | omega | decide) (by first | omega | assumption | decide) (by first | assumption | omega | decide) (by first | omega | assumption | decide) (by first | assumption | omega | decide) (by first | omega | assumption | decide)) mt_X12_hasFailed km_X12_186 ki_X12_hasFailed ks_X12_hasFailed hM.1 ⟨by decide, rfl⟩ rfl (Nat.le_of_ble_eq_true rfl) ⟨⟨by decide, by decide⟩, by decide, by decide⟩ (fun w18 I19 L20 hw18 => ?_)
        obtain ⟨hw18v, eL20, hw18r0, hw18r1, hw18r2⟩ := hw18
        subst hw18v
        refine x_st [] rfl ?_
        replace eL20 := eL20.symm; subst eL20
        refine x_vret 99 C dX12_tries_99 rfl (Nat.le_refl _) (xN.intro ?_)
        have hpu : (punit ((mvO (I (A + 1)) (50 + 12 * k)).1 6)) = (punit (I (A + 1) (50 + 12 * k + 3))) := rfl
        have htf : tryF Y R (I (A + 1) 45) (I (A + 1) 46) (nI s0) (mvO (I (A + 1)) (50 + 12 * k)) P sN = (gFail (mvO (I (A + 1)) (50 + 12 * k)).1 (nI s0), gFailC (mvO (I (A + 1)) (50 + 12 * k)).1 (mvO (I (A + 1)) (50 + 12 * k)).2.1, gFailC (mvO (I (A + 1)) (50 + 12 * k)).1 (mvO (I (A + 1)) (50 + 12 * k)).2.2) := by unfold tryF; rw [hpu, htry]
        exact ⟨rfl, by rw [htf, hw18r0], hw18r1, hw18r2, fun q hq => by first | exact ((hw14r1 q hq).trans (hw7r2 q hq)).trans (hw3r3 q (by omega) (by omega)) | exact (hw7r2 q hq).trans (hw3r3 q (by omega) (by omega))⟩
      · skip
        obtain ⟨cc, hcc⟩ := iteS c17
        have hc2 := hw14r0 cc hcc
        have hch := coN_held _ _ _ _ _ cc hcc
        rw [hpx, hpy] at hcc
        have htry : tryC Y R (I (A + 1) 45) P (min sN (1024 - P)) (punit (I (A + 1) (50 + 12 * k + 3))) (mvO (I (A + 1)) (50 + 12 * k)).2.1 (mvO (I (A + 1)) (50 + 12 * k)).2.2 = some cc := by unfold tryC; rw [if_neg hn]; exact hcc
        refine x_aload_n 84 C dX12_tries_84 rfl 3 rfl ?_
        refine x_iload_n 85 C dX12_tries_85 rfl 2 rfl ?_
        refine x_iload 86 C dX12_tries_86 0 rfl ?_
        refine x_callVp 88 C dX12_tries_88 (As := [.int (nI (50 + 12 * k)), .int (nI (min sN (1024 - P)))]) (rest := []) (t_X12_wasGood l D z n G I L16 A k (min sN (1024 - P)) P sN gN wN hM (by omega) (by first | omega | assumption | decide) (by first | assumption | omega | decide) (by omega) (by first | assumption | omega | decide) (by first | omega | assumption | decide) (by first | assumption | omega | decide) (by first | omega | assumption | decide) (by first | assumption | omega | decide) (by first | omega | assumption | decide) (by first | assumption | omega | decide) (by rw [hw14r2 9 (by decide) (by decide), hw7r3 9 (by decide) (by decide)]; exact hw3r0) (by rw [hc2.1]; exact hch.1) (by rw [hc2.2]; exact hch.2)) mt_X12_wasGood km_X12_183 ki_X12_wasGood ks_X12_wasGood hM.1 ⟨by decide, rfl⟩ rfl (Nat.le_of_ble_eq_true rfl) ⟨⟨by decide, by decide⟩, by decide, by decide⟩ (fun w21 I22 L23 hw21 => ?_)
        obtain ⟨hw21v, eL23, hw21r0, hw21r1, hw21r2⟩ := hw21
        subst hw21v
        refine x_st [] rfl ?_
        replace eL23 := eL23.symm; subst eL23
        refine x_goto 91 C 99 dX12_tries_91 (by decide) ?_
        refine x_vret 99 C dX12_tries_99 rfl (Nat.le_refl _) (xN.intro ?_)
        have hpu : (punit ((mvO (I (A + 1)) (50 + 12 * k)).1 6)) = (punit (I (A + 1) (50 + 12 * k + 3))) := rfl
        have htf : tryF Y R (I (A + 1) 45) (I (A + 1) 46) (nI s0) (mvO (I (A + 1)) (50 + 12 * k)) P sN = (gMove (mvO (I (A + 1)) (50 + 12 * k)).1 (nI (min sN (1024 - P))) (I (A + 1) 46) (lmax (sizC cc.1) (sizC cc.2)), cc.1, cc.2) := by unfold tryF; rw [hpu, htry]
        exact ⟨rfl, by rw [htf, hw21r0, hc2.1, hc2.2], hw21r1, hw21r2, fun q hq => ((hw14r1 q hq).trans (hw7r2 q hq)).trans (hw3r3 q (by omega) (by omega))⟩
  · skip
    have c6n : ¬ ((1024 - P) ≤ sN) := fun h => c6 ((nI_leI (a := (1024 - P)) (b := sN) (by omega) (by omega)).mpr h)
    have c6m : sN < (1024 - P) := by omega
    have c6o := Int32.not_le.mp c6
    refine x_aload_n 35 C dX12_tries_35 rfl 2 rfl ?_
    refine x_getr 36 C (b := A + 1) dX12_tries_36 ff_X12_7 rfl hM.1 rfl ?_
    refine x_iload_n 39 C dX12_tries_39 rfl 1 rfl ?_
    refine x_iconst 40 C (v := 1) dX12_tries_40 rfl ?_
    refine x_iadd 41 C dX12_tries_41 ?_
    refine x_int (nI (50 + 12 * k + 1)) (nI_add (50 + 12 * k) 1) ?_
    refine x_iald 42 C (j := (50 + 12 * k + 1)) dX12_tries_42 hM.2.1 (xIx_nI (by omega) (by decide)) ?_
    refine x_int (nI sN) h1 ?_
    refine x_goto 43 C 47 dX12_tries_43 (by decide) ?_
    refine x_int (nI (min sN (1024 - P))) (by rw [show (min sN (1024 - P)) = sN by omega]) ?_
    refine x_istore 47 C [(4, .int (nI (min sN (1024 - P)))), (3, .int (nI (1024 - P))), (2, .int (nI (50 + 12 * k))), (0, .ref A), (1, .int (nI k))] dX12_tries_47 (by decide) rfl ?_
    refine x_aload_n 49 C dX12_tries_49 rfl 3 rfl ?_
    refine x_aload_n 50 C dX12_tries_50 rfl 3 rfl ?_
    refine x_getr 51 C (b := A + 1) dX12_tries_51 ff_X12_7 rfl hM.1 rfl ?_
    refine x_iload_n 54 C dX12_tries_54 rfl 2 rfl ?_
    refine x_iconst 55 C (v := 0) dX12_tries_55 rfl ?_
    refine x_iadd 56 C dX12_tries_56 ?_
    refine x_int (nI (50 + 12 * k + 0)) (nI_add (50 + 12 * k) 0) ?_
    refine x_iald 57 C (j := (50 + 12 * k + 0)) dX12_tries_57 hM.2.1 (xIx_nI (by omega) (by decide)) ?_
    refine x_int (nI P) h0 ?_
    refine x_iload 58 C dX12_tries_58 0 rfl ?_
    refine x_callVp 60 C dX12_tries_60 (As := [.int (nI P), .int (nI (min sN (1024 - P)))]) (rest := []) (t_X12_predicts l D z n G I L5 A P (min sN (1024 - P)) (punit (I (A + 1) (50 + 12 * k + 3))) Y hM (by omega) (by first | omega | assumption | decide) (by omega) hw3r0 (punit_nz _) (by first | assumption | omega | decide) (by rw [hw3r1]; exact hxp) (by rw [hw3r2]; exact hyp)) mt_X12_predicts km_X12_175 ki_X12_predicts ks_X12_predicts hM.1 ⟨by decide, rfl⟩ rfl (Nat.le_of_ble_eq_true rfl) ⟨⟨by decide, by decide⟩, by decide, by decide⟩ (fun w24 I25 L26 hw24 => ?_)
    obtain ⟨hw24v, eI25, hw24r0, hw24r1, hw24r2, hw24r3⟩ := hw24
    subst hw24v
    refine x_st [.int (if syN Y P (punit (I (A + 1) (50 + 12 * k + 3))) (mRp L5 (A + 7) 0) (mRp L5 (A + 7) 2) = 0 then 0 else 1)] rfl ?_
    replace eI25 := eI25.symm; subst eI25
    refine x_if_eq 63 C 94 dX12_tries_63 (by decide) (fun c27 => ?_) (fun c27 => ?_)
    · skip
      have hn := ite01 c27
      rw [hw3r1, hw3r2] at hn
      have htry : tryC Y R (I (A + 1) 45) P (min sN (1024 - P)) (punit (I (A + 1) (50 + 12 * k + 3))) (mvO (I (A + 1)) (50 + 12 * k)).2.1 (mvO (I (A + 1)) (50 + 12 * k)).2.2 = none := by unfold tryC; exact if_pos hn
      refine x_aload_n 94 C dX12_tries_94 rfl 3 rfl ?_
      refine x_iload_n 95 C dX12_tries_95 rfl 2 rfl ?_
      refine x_callVp 96 C dX12_tries_96 (As := [.int (nI (50 + 12 * k))]) (rest := []) (t_X12_hasFailed l D z n G I L26 A k sN gN s0 hM (by omega) (by first | omega | assumption | decide) (by first | assumption | omega | decide) (by first | omega | assumption | decide) (by first | assumption | omega | decide) (by first | omega | assumption | decide) (by first | assumption | omega | decide) (by first | omega | assumption | decide)) mt_X12_hasFailed km_X12_186 ki_X12_hasFailed ks_X12_hasFailed hM.1 ⟨by decide, rfl⟩ rfl (Nat.le_of_ble_eq_true rfl) ⟨⟨by decide, by decide⟩, by decide, by decide⟩ (fun w28 I29 L30 hw28 => ?_)
      obtain ⟨hw28v, eL30, hw28r0, hw28r1, hw28r2⟩ := hw28
      subst hw28v
      refine x_st [] rfl ?_
      replace eL30 := eL30.symm; subst eL30
      refine x_vret 99 C dX12_tries_99 rfl (Nat.le_refl _) (xN.intro ?_)
      have hpu : (punit ((mvO (I (A + 1)) (50 + 12 * k)).1 6)) = (punit (I (A + 1) (50 + 12 * k + 3))) := rfl
      have htf : tryF Y R (I (A + 1) 45) (I (A + 1) 46) (nI s0) (mvO (I (A + 1)) (50 + 12 * k)) P sN = (gFail (mvO (I (A + 1)) (50 + 12 * k)).1 (nI s0), gFailC (mvO (I (A + 1)) (50 + 12 * k)).1 (mvO (I (A + 1)) (50 + 12 * k)).2.1, gFailC (mvO (I (A + 1)) (50 + 12 * k)).1 (mvO (I (A + 1)) (50 + 12 * k)).2.2) := by unfold tryF; rw [hpu, htry]
      exact ⟨rfl, by rw [htf, hw28r0], hw28r1, hw28r2, fun q hq => by first | exact ((hw14r1 q hq).trans (hw24r2 q hq)).trans (hw3r3 q (by omega) (by omega)) | exact (hw24r2 q hq).trans (hw3r3 q (by omega) (by omega))⟩
    · skip
      have hn := ite01n c27
      rw [hw3r1, hw3r2] at hn
      have hpx : mRp L26 (A + 7) 0 = pdX Y P (nI (min sN (1024 - P))) (punit (I (A + 1) (50 + 12 * k + 3))) (mvO (I (A + 1)) (50 + 12 * k)).2.1 (mvO (I (A + 1)) (50 + 12 * k)).2.2 := by rw [hw24r0, hw3r1, hw3r2]; exact if_neg hn
      have hpy : mRp L26 (A + 7) 2 = pdY Y P (nI (min sN (1024 - P))) (punit (I (A + 1) (50 + 12 * k + 3))) (mvO (I (A + 1)) (50 + 12 * k)).2.1 (mvO (I (A + 1)) (50 + 12 * k)).2.2 := by rw [hw24r1, hw3r1, hw3r2]; exact if_neg hn
      refine x_aload_n 66 C dX12_tries_66 rfl 3 rfl ?_
      refine x_aload_n 67 C dX12_tries_67 rfl 3 rfl ?_
      refine x_getr 68 C (b := A + 1) dX12_tries_68 ff_X12_7 rfl hM.1 rfl ?_
      refine x_iload_n 71 C dX12_tries_71 rfl 2 rfl ?_
      refine x_iconst 72 C (v := 0) dX12_tries_72 rfl ?_
      refine x_iadd 73 C dX12_tries_73 ?_
      refine x_int (nI (50 + 12 * k + 0)) (nI_add (50 + 12 * k) 0) ?_
      refine x_iald 74 C (j := (50 + 12 * k + 0)) dX12_tries_74 hM.2.1 (xIx_nI (by omega) (by decide)) ?_
      refine x_int (nI P) h0 ?_
      refine x_iload 75 C dX12_tries_75 0 rfl ?_
      refine x_iadd 77 C dX12_tries_77 ?_
      refine x_int (nI (P + (min sN (1024 - P)))) (nI_add P (min sN (1024 - P))) ?_
      refine x_callVp 78 C dX12_tries_78 (As := [.int (nI (P + (min sN (1024 - P))))]) (rest := []) (t_X12_corrects l D z n G I L26 A (P + (min sN (1024 - P))) (punit (I (A + 1) (50 + 12 * k + 3))) Y R hM (by omega) (by omega) (by rw [hw24r3 9 (by decide) (by decide)]; exact hw3r0) (punit_nz _) (by first | assumption | omega | decide) (by first | assumption | omega | decide) (by first | omega | assumption | decide) (by rw [hpx]; exact hC_2 _) (by rw [hpy]; exact hC_2 _)) mt_X12_corrects km_X12_179 ki_X12_corrects ks_X12_corrects hM.1 ⟨by decide, rfl⟩ rfl (Nat.le_of_ble_eq_true rfl) ⟨⟨by decide, by decide⟩, by decide, by decide⟩ (fun w31 I32 L33 hw31 => ?_)
      obtain ⟨hw31v, eI32, hw31r0, hw31r1, hw31r2⟩ := hw31
      subst hw31v
      refine x_st [.int (if (coN Y (P + (min sN (1024 - P))) (punit (I (A + 1) (50 + 12 * k + 3))) (I (A + 1) 45) R 0 0 (mRp L26 (A + 7) 0) (mRp L26 (A + 7) 2)).isSome then 1 else 0)] rfl ?_
      replace eI32 := eI32.symm; subst eI32
      refine x_if_eq 81 C 94 dX12_tries_81 (by decide) (fun c34 => ?_) (fun c34 => ?_)
      · skip
        have hco : coN Y (P + (min sN (1024 - P))) (punit (I (A + 1) (50 + 12 * k + 3))) (I (A + 1) 45) R 0 0 (pdX Y P (nI (min sN (1024 - P))) (punit (I (A + 1) (50 + 12 * k + 3))) (mvO (I (A + 1)) (50 + 12 * k)).2.1 (mvO (I (A + 1)) (50 + 12 * k)).2.2) (pdY Y P (nI (min sN (1024 - P))) (punit (I (A + 1) (50 + 12 * k + 3))) (mvO (I (A + 1)) (50 + 12 * k)).2.1 (mvO (I (A + 1)) (50 + 12 * k)).2.2) = none := by have h := iteN c34; rw [hpx, hpy] at h; exact h
        have htry : tryC Y R (I (A + 1) 45) P (min sN (1024 - P)) (punit (I (A + 1) (50 + 12 * k + 3))) (mvO (I (A + 1)) (50 + 12 * k)).2.1 (mvO (I (A + 1)) (50 + 12 * k)).2.2 = none := by unfold tryC; rw [if_neg hn]; exact hco
        refine x_aload_n 94 C dX12_tries_94 rfl 3 rfl ?_
        refine x_iload_n 95 C dX12_tries_95 rfl 2 rfl ?_
        refine x_callVp 96 C dX12_tries_96 (As := [.int (nI (50 + 12 * k))]) (rest := []) (t_X12_hasFailed l D z n G I L33 A k sN gN s0 hM (by omega) (by first | omega | assumption | decide) (by first | assumption | omega | decide) (by first | omega | assumption | decide) (by first | assumption | omega | decide) (by first | omega | assumption | decide) (by first | assumption | omega | decide) (by first | omega | assumption | decide)) mt_X12_hasFailed km_X12_186 ki_X12_hasFailed ks_X12_hasFailed hM.1 ⟨by decide, rfl⟩ rfl (Nat.le_of_ble_eq_true rfl) ⟨⟨by decide, by decide⟩, by decide, by decide⟩ (fun w35 I36 L37 hw35 => ?_)
        obtain ⟨hw35v, eL37, hw35r0, hw35r1, hw35r2⟩ := hw35
        subst hw35v
        refine x_st [] rfl ?_
        replace eL37 := eL37.symm; subst eL37
        refine x_vret 99 C dX12_tries_99 rfl (Nat.le_refl _) (xN.intro ?_)
        have hpu : (punit ((mvO (I (A + 1)) (50 + 12 * k)).1 6)) = (punit (I (A + 1) (50 + 12 * k + 3))) := rfl
        have htf : tryF Y R (I (A + 1) 45) (I (A + 1) 46) (nI s0) (mvO (I (A + 1)) (50 + 12 * k)) P sN = (gFail (mvO (I (A + 1)) (50 + 12 * k)).1 (nI s0), gFailC (mvO (I (A + 1)) (50 + 12 * k)).1 (mvO (I (A + 1)) (50 + 12 * k)).2.1, gFailC (mvO (I (A + 1)) (50 + 12 * k)).1 (mvO (I (A + 1)) (50 + 12 * k)).2.2) := by unfold tryF; rw [hpu, htry]
        exact ⟨rfl, by rw [htf, hw35r0], hw35r1, hw35r2, fun q hq => by first | exact ((hw31r1 q hq).trans (hw24r2 q hq)).trans (hw3r3 q (by omega) (by omega)) | exact (hw24r2 q hq).trans (hw3r3 q (by omega) (by omega))⟩
      · skip
        obtain ⟨cc, hcc⟩ := iteS c34
        have hc2 := hw31r0 cc hcc
        have hch := coN_held _ _ _ _ _ cc hcc
        rw [hpx, hpy] at hcc
        have htry : tryC Y R (I (A + 1) 45) P (min sN (1024 - P)) (punit (I (A + 1) (50 + 12 * k + 3))) (mvO (I (A + 1)) (50 + 12 * k)).2.1 (mvO (I (A + 1)) (50 + 12 * k)).2.2 = some cc := by unfold tryC; rw [if_neg hn]; exact hcc
        refine x_aload_n 84 C dX12_tries_84 rfl 3 rfl ?_
        refine x_iload_n 85 C dX12_tries_85 rfl 2 rfl ?_
        refine x_iload 86 C dX12_tries_86 0 rfl ?_
        refine x_callVp 88 C dX12_tries_88 (As := [.int (nI (50 + 12 * k)), .int (nI (min sN (1024 - P)))]) (rest := []) (t_X12_wasGood l D z n G I L33 A k (min sN (1024 - P)) P sN gN wN hM (by omega) (by first | omega | assumption | decide) (by first | assumption | omega | decide) (by omega) (by first | assumption | omega | decide) (by first | omega | assumption | decide) (by first | assumption | omega | decide) (by first | omega | assumption | decide) (by first | assumption | omega | decide) (by first | omega | assumption | decide) (by first | assumption | omega | decide) (by rw [hw31r2 9 (by decide) (by decide), hw24r3 9 (by decide) (by decide)]; exact hw3r0) (by rw [hc2.1]; exact hch.1) (by rw [hc2.2]; exact hch.2)) mt_X12_wasGood km_X12_183 ki_X12_wasGood ks_X12_wasGood hM.1 ⟨by decide, rfl⟩ rfl (Nat.le_of_ble_eq_true rfl) ⟨⟨by decide, by decide⟩, by decide, by decide⟩ (fun w38 I39 L40 hw38 => ?_)
        obtain ⟨hw38v, eL40, hw38r0, hw38r1, hw38r2⟩ := hw38
        subst hw38v
        refine x_st [] rfl ?_
        replace eL40 := eL40.symm; subst eL40
        refine x_goto 91 C 99 dX12_tries_91 (by decide) ?_
        refine x_vret 99 C dX12_tries_99 rfl (Nat.le_refl _) (xN.intro ?_)
        have hpu : (punit ((mvO (I (A + 1)) (50 + 12 * k)).1 6)) = (punit (I (A + 1) (50 + 12 * k + 3))) := rfl
        have htf : tryF Y R (I (A + 1) 45) (I (A + 1) 46) (nI s0) (mvO (I (A + 1)) (50 + 12 * k)) P sN = (gMove (mvO (I (A + 1)) (50 + 12 * k)).1 (nI (min sN (1024 - P))) (I (A + 1) 46) (lmax (sizC cc.1) (sizC cc.2)), cc.1, cc.2) := by unfold tryF; rw [hpu, htry]
        exact ⟨rfl, by rw [htf, hw38r0, hc2.1, hc2.2], hw38r1, hw38r2, fun q hq => ((hw31r1 q hq).trans (hw24r2 q hq)).trans (hw3r3 q (by omega) (by omega))⟩
