/-! The Model: paths that begin; counts; thousandths -/
def mBg (dx dy : Nat) (s g : Int32) (k : Nat) : xP := (rw8 0 0 (imin s g) g 10 0 0 0, hC (rootC (nI dx) (nI (k / dy)) 1024), hC (rootC (nI dy) (nI (k % dy)) 1024))
theorem imin_alt (s g : Int32) : imin s g = if s < g then s else g := by
  unfold imin
  by_cases h1 : g < s
  · have h2 : ¬ s < g := by rw [Int32.lt_iff_toInt_lt] at *; omega
    rw [if_pos h1, if_neg h2]
  · by_cases h2 : s < g
    · rw [if_neg h1, if_pos h2]
    · rw [if_neg h1, if_neg h2]
      apply Int32.toInt_inj.mp; rw [Int32.lt_iff_toInt_lt] at *; omega
def vval (v : xP) (j : Nat) : Int64 := if j = 0 then v.2.1.1 else if j = 1 then v.2.1.2 else if j = 2 then v.2.2.1 else v.2.2.2
/-- a part in thousandths -/
def vpt (v : xP) (j : Nat) : Int32 := cthou (vval v j) (punit (v.1 6))
theorem cthou_of {p u : Int64} (h : ¬ u = 0) : (1000 * p / u).toInt32 = cthou p u := by
  unfold cthou; rw [if_neg h, Int64.mul_comm]
theorem dX12_begins_0 : decode cX12_begins 0 = .ok (.iload_n 1, 1) := by decide +kernel
theorem dX12_begins_1 : decode cX12_begins 1 = .ok (.invokestatic 146, 3) := by decide +kernel
theorem dX12_begins_4 : decode cX12_begins 4 = .ok (.istore_n 3, 1) := by decide +kernel
theorem dX12_begins_5 : decode cX12_begins 5 = .ok (.iconst 0, 1) := by decide +kernel
theorem dX12_begins_6 : decode cX12_begins 6 = .ok (.istore 4, 2) := by decide +kernel
theorem dX12_begins_8 : decode cX12_begins 8 = .ok (.iload 4, 2) := by decide +kernel
theorem dX12_begins_10 : decode cX12_begins 10 = .ok (.bipush 12, 2) := by decide +kernel
theorem dX12_begins_12 : decode cX12_begins 12 = .ok (.if_icmp .ge 19, 3) := by decide +kernel
theorem dX12_begins_15 : decode cX12_begins 15 = .ok (.aload_n 0, 1) := by decide +kernel
theorem dX12_begins_16 : decode cX12_begins 16 = .ok (.getfield 7, 3) := by decide +kernel
theorem dX12_begins_19 : decode cX12_begins 19 = .ok (.iload_n 3, 1) := by decide +kernel
theorem dX12_begins_20 : decode cX12_begins 20 = .ok (.iload 4, 2) := by decide +kernel
theorem dX12_begins_22 : decode cX12_begins 22 = .ok (.iadd, 1) := by decide +kernel
theorem dX12_begins_23 : decode cX12_begins 23 = .ok (.iconst 0, 1) := by decide +kernel
theorem dX12_begins_24 : decode cX12_begins 24 = .ok (.iastore, 1) := by decide +kernel
theorem dX12_begins_25 : decode cX12_begins 25 = .ok (.iinc 4 1, 3) := by decide +kernel
theorem dX12_begins_28 : decode cX12_begins 28 = .ok (.goto (-20), 3) := by decide +kernel
theorem dX12_begins_31 : decode cX12_begins 31 = .ok (.aload_n 0, 1) := by decide +kernel
theorem dX12_begins_32 : decode cX12_begins 32 = .ok (.getfield 7, 3) := by decide +kernel
theorem dX12_begins_35 : decode cX12_begins 35 = .ok (.iload_n 3, 1) := by decide +kernel
theorem dX12_begins_36 : decode cX12_begins 36 = .ok (.iconst 1, 1) := by decide +kernel
theorem dX12_begins_37 : decode cX12_begins 37 = .ok (.iadd, 1) := by decide +kernel
theorem dX12_begins_38 : decode cX12_begins 38 = .ok (.aload_n 0, 1) := by decide +kernel
theorem dX12_begins_39 : decode cX12_begins 39 = .ok (.iconst 0, 1) := by decide +kernel
theorem dX12_begins_40 : decode cX12_begins 40 = .ok (.invokevirtual 119, 3) := by decide +kernel
theorem dX12_begins_43 : decode cX12_begins 43 = .ok (.iload_n 2, 1) := by decide +kernel
theorem dX12_begins_44 : decode cX12_begins 44 = .ok (.if_icmp .ge 11, 3) := by decide +kernel
theorem dX12_begins_47 : decode cX12_begins 47 = .ok (.aload_n 0, 1) := by decide +kernel
theorem dX12_begins_48 : decode cX12_begins 48 = .ok (.iconst 0, 1) := by decide +kernel
theorem dX12_begins_49 : decode cX12_begins 49 = .ok (.invokevirtual 119, 3) := by decide +kernel
theorem dX12_begins_52 : decode cX12_begins 52 = .ok (.goto 4, 3) := by decide +kernel
theorem dX12_begins_55 : decode cX12_begins 55 = .ok (.iload_n 2, 1) := by decide +kernel
theorem dX12_begins_56 : decode cX12_begins 56 = .ok (.iastore, 1) := by decide +kernel
theorem dX12_begins_57 : decode cX12_begins 57 = .ok (.aload_n 0, 1) := by decide +kernel
theorem dX12_begins_58 : decode cX12_begins 58 = .ok (.getfield 7, 3) := by decide +kernel
theorem dX12_begins_61 : decode cX12_begins 61 = .ok (.iload_n 3, 1) := by decide +kernel
theorem dX12_begins_62 : decode cX12_begins 62 = .ok (.iconst 2, 1) := by decide +kernel
theorem dX12_begins_63 : decode cX12_begins 63 = .ok (.iadd, 1) := by decide +kernel
theorem dX12_begins_64 : decode cX12_begins 64 = .ok (.iload_n 2, 1) := by decide +kernel
theorem dX12_begins_65 : decode cX12_begins 65 = .ok (.iastore, 1) := by decide +kernel
theorem dX12_begins_66 : decode cX12_begins 66 = .ok (.aload_n 0, 1) := by decide +kernel
theorem dX12_begins_67 : decode cX12_begins 67 = .ok (.getfield 7, 3) := by decide +kernel
theorem dX12_begins_70 : decode cX12_begins 70 = .ok (.iload_n 3, 1) := by decide +kernel
theorem dX12_begins_71 : decode cX12_begins 71 = .ok (.iconst 3, 1) := by decide +kernel
theorem dX12_begins_72 : decode cX12_begins 72 = .ok (.iadd, 1) := by decide +kernel
theorem dX12_begins_73 : decode cX12_begins 73 = .ok (.bipush 10, 2) := by decide +kernel
theorem dX12_begins_75 : decode cX12_begins 75 = .ok (.iastore, 1) := by decide +kernel
theorem dX12_begins_76 : decode cX12_begins 76 = .ok (.aload_n 0, 1) := by decide +kernel
theorem dX12_begins_77 : decode cX12_begins 77 = .ok (.aload_n 0, 1) := by decide +kernel
theorem dX12_begins_78 : decode cX12_begins 78 = .ok (.getfield 7, 3) := by decide +kernel
theorem dX12_begins_81 : decode cX12_begins 81 = .ok (.bipush 40, 2) := by decide +kernel
theorem dX12_begins_83 : decode cX12_begins 83 = .ok (.iaload, 1) := by decide +kernel
theorem dX12_begins_84 : decode cX12_begins 84 = .ok (.iload_n 1, 1) := by decide +kernel
theorem dX12_begins_85 : decode cX12_begins 85 = .ok (.aload_n 0, 1) := by decide +kernel
theorem dX12_begins_86 : decode cX12_begins 86 = .ok (.getfield 7, 3) := by decide +kernel
theorem dX12_begins_89 : decode cX12_begins 89 = .ok (.bipush 41, 2) := by decide +kernel
theorem dX12_begins_91 : decode cX12_begins 91 = .ok (.iaload, 1) := by decide +kernel
theorem dX12_begins_92 : decode cX12_begins 92 = .ok (.idiv, 1) := by decide +kernel
theorem dX12_begins_93 : decode cX12_begins 93 = .ok (.invokevirtual 149, 3) := by decide +kernel
theorem dX12_begins_96 : decode cX12_begins 96 = .ok (.aload_n 0, 1) := by decide +kernel
theorem dX12_begins_97 : decode cX12_begins 97 = .ok (.getfield 7, 3) := by decide +kernel
theorem dX12_begins_100 : decode cX12_begins 100 = .ok (.iload_n 3, 1) := by decide +kernel
theorem dX12_begins_101 : decode cX12_begins 101 = .ok (.bipush 8, 2) := by decide +kernel
theorem dX12_begins_103 : decode cX12_begins 103 = .ok (.iadd, 1) := by decide +kernel
theorem dX12_begins_104 : decode cX12_begins 104 = .ok (.aload_n 0, 1) := by decide +kernel
theorem dX12_begins_105 : decode cX12_begins 105 = .ok (.getfield 87, 3) := by decide +kernel
theorem dX12_begins_108 : decode cX12_begins 108 = .ok (.l2i, 1) := by decide +kernel
theorem dX12_begins_109 : decode cX12_begins 109 = .ok (.iastore, 1) := by decide +kernel
theorem dX12_begins_110 : decode cX12_begins 110 = .ok (.aload_n 0, 1) := by decide +kernel
theorem dX12_begins_111 : decode cX12_begins 111 = .ok (.getfield 7, 3) := by decide +kernel
theorem dX12_begins_114 : decode cX12_begins 114 = .ok (.iload_n 3, 1) := by decide +kernel
theorem dX12_begins_115 : decode cX12_begins 115 = .ok (.bipush 8, 2) := by decide +kernel
theorem dX12_begins_117 : decode cX12_begins 117 = .ok (.iadd, 1) := by decide +kernel
theorem dX12_begins_118 : decode cX12_begins 118 = .ok (.iconst 1, 1) := by decide +kernel
theorem dX12_begins_119 : decode cX12_begins 119 = .ok (.iadd, 1) := by decide +kernel
theorem dX12_begins_120 : decode cX12_begins 120 = .ok (.aload_n 0, 1) := by decide +kernel
theorem dX12_begins_121 : decode cX12_begins 121 = .ok (.getfield 90, 3) := by decide +kernel
theorem dX12_begins_124 : decode cX12_begins 124 = .ok (.l2i, 1) := by decide +kernel
theorem dX12_begins_125 : decode cX12_begins 125 = .ok (.iastore, 1) := by decide +kernel
theorem dX12_begins_126 : decode cX12_begins 126 = .ok (.aload_n 0, 1) := by decide +kernel
theorem dX12_begins_127 : decode cX12_begins 127 = .ok (.aload_n 0, 1) := by decide +kernel
theorem dX12_begins_128 : decode cX12_begins 128 = .ok (.getfield 7, 3) := by decide +kernel
theorem dX12_begins_131 : decode cX12_begins 131 = .ok (.bipush 41, 2) := by decide +kernel
theorem dX12_begins_133 : decode cX12_begins 133 = .ok (.iaload, 1) := by decide +kernel
theorem dX12_begins_134 : decode cX12_begins 134 = .ok (.iload_n 1, 1) := by decide +kernel
theorem dX12_begins_135 : decode cX12_begins 135 = .ok (.aload_n 0, 1) := by decide +kernel
theorem dX12_begins_136 : decode cX12_begins 136 = .ok (.getfield 7, 3) := by decide +kernel
theorem dX12_begins_139 : decode cX12_begins 139 = .ok (.bipush 41, 2) := by decide +kernel
theorem dX12_begins_141 : decode cX12_begins 141 = .ok (.iaload, 1) := by decide +kernel
theorem dX12_begins_142 : decode cX12_begins 142 = .ok (.irem, 1) := by decide +kernel
theorem dX12_begins_143 : decode cX12_begins 143 = .ok (.invokevirtual 149, 3) := by decide +kernel
theorem dX12_begins_146 : decode cX12_begins 146 = .ok (.aload_n 0, 1) := by decide +kernel
theorem dX12_begins_147 : decode cX12_begins 147 = .ok (.getfield 7, 3) := by decide +kernel
theorem dX12_begins_150 : decode cX12_begins 150 = .ok (.iload_n 3, 1) := by decide +kernel
theorem dX12_begins_151 : decode cX12_begins 151 = .ok (.bipush 8, 2) := by decide +kernel
theorem dX12_begins_153 : decode cX12_begins 153 = .ok (.iadd, 1) := by decide +kernel
theorem dX12_begins_154 : decode cX12_begins 154 = .ok (.iconst 2, 1) := by decide +kernel
theorem dX12_begins_155 : decode cX12_begins 155 = .ok (.iadd, 1) := by decide +kernel
theorem dX12_begins_156 : decode cX12_begins 156 = .ok (.aload_n 0, 1) := by decide +kernel
theorem dX12_begins_157 : decode cX12_begins 157 = .ok (.getfield 87, 3) := by decide +kernel
theorem dX12_begins_160 : decode cX12_begins 160 = .ok (.l2i, 1) := by decide +kernel
theorem dX12_begins_161 : decode cX12_begins 161 = .ok (.iastore, 1) := by decide +kernel
theorem dX12_begins_162 : decode cX12_begins 162 = .ok (.aload_n 0, 1) := by decide +kernel
theorem dX12_begins_163 : decode cX12_begins 163 = .ok (.getfield 7, 3) := by decide +kernel
theorem dX12_begins_166 : decode cX12_begins 166 = .ok (.iload_n 3, 1) := by decide +kernel
theorem dX12_begins_167 : decode cX12_begins 167 = .ok (.bipush 8, 2) := by decide +kernel
theorem dX12_begins_169 : decode cX12_begins 169 = .ok (.iadd, 1) := by decide +kernel
theorem dX12_begins_170 : decode cX12_begins 170 = .ok (.iconst 3, 1) := by decide +kernel
theorem dX12_begins_171 : decode cX12_begins 171 = .ok (.iadd, 1) := by decide +kernel
theorem dX12_begins_172 : decode cX12_begins 172 = .ok (.aload_n 0, 1) := by decide +kernel
theorem dX12_begins_173 : decode cX12_begins 173 = .ok (.getfield 90, 3) := by decide +kernel
theorem dX12_begins_176 : decode cX12_begins 176 = .ok (.l2i, 1) := by decide +kernel
theorem dX12_begins_177 : decode cX12_begins 177 = .ok (.iastore, 1) := by decide +kernel
theorem dX12_begins_178 : decode cX12_begins 178 = .ok (.return_, 1) := by decide +kernel
set_option maxHeartbeats 1000000 in
set_option maxRecDepth 100000 in
theorem t_X12_begins (l : Launch) (D : xD) (z n : Nat) (G : xG) (I : xI) (L : xL) (A : Nat) (k : Nat) (g0 : Int32) (dx : Nat) (dy : Nat) (hM : shMo G A) (zA : z ≤ A) (hk : k < 9) (hdx : I (A + 1) 40 = nI dx) (hdy : I (A + 1) 41 = nI dy) (hd1 : 1 ≤ dy) (hd3 : dx * dy ≤ 9) (hd0 : 1 ≤ dx) : xM0 l D z yX12_begins cX12_begins 5 none 3 69 [.ref A, .int (nI k), .int g0] n G I L (fun v' I' L' => v' = none ∧ (mvO (I' (A + 1)) (50 + 12 * k) = mBg dx dy (I (A + 1) 42) g0 k) ∧ (∀ j, (j < 50 + 12 * k ∨ 62 + 12 * k ≤ j) → I' (A + 1) j = I (A + 1) j) ∧ (∀ q, q ≠ A + 1 → I' q = I q) ∧ (∀ q, q ≠ A → L' q = L q)) := by
  refine xM.of (by decide) (Nat.le_of_ble_eq_true rfl) (fun p e s m args below meth c C hnm hsz => ?_)
  refine x_lv [(0, .ref A), (1, .int (nI k)), (2, .int g0)] rfl ?_
  have hdy9 : dy ≤ 9 := Nat.le_trans (Nat.le_mul_of_pos_left dy hd0) hd3
  refine x_iload_n 0 C dX12_begins_0 rfl 1 rfl ?_
  refine x_callSe 1 C dX12_begins_1 (As := [.int (nI k)]) (rest := []) [.int (nI (50 + 12 * k))] (t_X12_pathAt l D z n G I L k (by first | omega | assumption | decide)) mt_X12_pathAt km_X12_146 kt_X12_pathAt rfl rfl (Nat.le_of_ble_eq_true rfl) ⟨⟨by decide, by decide⟩, by decide, by decide⟩ (fun I1 L2 eI1 eL2 => ?_)
  replace eI1 := eI1.symm; subst eI1
  replace eL2 := eL2.symm; subst eL2
  refine x_istore_n 4 C [(3, .int (nI (50 + 12 * k))), (0, .ref A), (1, .int (nI k)), (2, .int g0)] dX12_begins_4 rfl (by decide) rfl ?_
  refine x_iconst 5 C (v := 0) dX12_begins_5 rfl ?_
  refine x_istore 6 C [(4, .int 0), (3, .int (nI (50 + 12 * k))), (0, .ref A), (1, .int (nI k)), (2, .int g0)] dX12_begins_6 (by decide) rfl ?_
  refine x_iload 8 C dX12_begins_8 0 rfl ?_
  refine x_bipush 10 C (v := 12) dX12_begins_10 rfl ?_
  refine x_icmp_ge 12 C 31 dX12_begins_12 (by decide) (fun c3 => absurd c3 (by decide)) (fun _ => ?_)
  refine x_aload_n 15 C dX12_begins_15 rfl 2 rfl ?_
  refine x_getr 16 C (b := A + 1) dX12_begins_16 ff_X12_7 rfl hM.1 rfl ?_
  refine x_iload_n 19 C dX12_begins_19 rfl 1 rfl ?_
  refine x_iload 20 C dX12_begins_20 0 rfl ?_
  refine x_iadd 22 C dX12_begins_22 ?_
  refine x_int (nI (50 + 12 * k + 0)) (nI_add (50 + 12 * k) 0) ?_
  refine x_iconst 23 C (v := 0) dX12_begins_23 rfl ?_
  refine x_iast 24 C (j := (50 + 12 * k + 0)) dX12_begins_24 hM.2.1 (by omega) (xIx_nI (by omega) (by decide)) (fun I4 eI4 => ?_)
  refine x_iinc 25 C [(4, .int 1), (3, .int (nI (50 + 12 * k))), (0, .ref A), (1, .int (nI k)), (2, .int g0)] dX12_begins_25 0 rfl (by decide) (by decide) rfl ?_
  refine x_goto 28 C 8 dX12_begins_28 (by decide) ?_
  refine x_iload 8 C dX12_begins_8 0 rfl ?_
  refine x_bipush 10 C (v := 12) dX12_begins_10 rfl ?_
  refine x_icmp_ge 12 C 31 dX12_begins_12 (by decide) (fun c5 => absurd c5 (by decide)) (fun _ => ?_)
  refine x_aload_n 15 C dX12_begins_15 rfl 2 rfl ?_
  refine x_getr 16 C (b := A + 1) dX12_begins_16 ff_X12_7 rfl hM.1 rfl ?_
  refine x_iload_n 19 C dX12_begins_19 rfl 1 rfl ?_
  refine x_iload 20 C dX12_begins_20 0 rfl ?_
  refine x_iadd 22 C dX12_begins_22 ?_
  refine x_int (nI (50 + 12 * k + 1)) (nI_add (50 + 12 * k) 1) ?_
  refine x_iconst 23 C (v := 0) dX12_begins_23 rfl ?_
  refine x_iast 24 C (j := (50 + 12 * k + 1)) dX12_begins_24 hM.2.1 (by omega) (xIx_nI (by omega) (by decide)) (fun I6 eI6 => ?_)
  refine x_iinc 25 C [(4, .int 2), (3, .int (nI (50 + 12 * k))), (0, .ref A), (1, .int (nI k)), (2, .int g0)] dX12_begins_25 0 rfl (by decide) (by decide) rfl ?_
  refine x_goto 28 C 8 dX12_begins_28 (by decide) ?_
  refine x_iload 8 C dX12_begins_8 0 rfl ?_
  refine x_bipush 10 C (v := 12) dX12_begins_10 rfl ?_
  refine x_icmp_ge 12 C 31 dX12_begins_12 (by decide) (fun c7 => absurd c7 (by decide)) (fun _ => ?_)
  refine x_aload_n 15 C dX12_begins_15 rfl 2 rfl ?_
  refine x_getr 16 C (b := A + 1) dX12_begins_16 ff_X12_7 rfl hM.1 rfl ?_
  refine x_iload_n 19 C dX12_begins_19 rfl 1 rfl ?_
  refine x_iload 20 C dX12_begins_20 0 rfl ?_
  refine x_iadd 22 C dX12_begins_22 ?_
  refine x_int (nI (50 + 12 * k + 2)) (nI_add (50 + 12 * k) 2) ?_
  refine x_iconst 23 C (v := 0) dX12_begins_23 rfl ?_
  refine x_iast 24 C (j := (50 + 12 * k + 2)) dX12_begins_24 hM.2.1 (by omega) (xIx_nI (by omega) (by decide)) (fun I8 eI8 => ?_)
  refine x_iinc 25 C [(4, .int 3), (3, .int (nI (50 + 12 * k))), (0, .ref A), (1, .int (nI k)), (2, .int g0)] dX12_begins_25 0 rfl (by decide) (by decide) rfl ?_
  refine x_goto 28 C 8 dX12_begins_28 (by decide) ?_
  refine x_iload 8 C dX12_begins_8 0 rfl ?_
  refine x_bipush 10 C (v := 12) dX12_begins_10 rfl ?_
  refine x_icmp_ge 12 C 31 dX12_begins_12 (by decide) (fun c9 => absurd c9 (by decide)) (fun _ => ?_)
  refine x_aload_n 15 C dX12_begins_15 rfl 2 rfl ?_
  refine x_getr 16 C (b := A + 1) dX12_begins_16 ff_X12_7 rfl hM.1 rfl ?_
  refine x_iload_n 19 C dX12_begins_19 rfl 1 rfl ?_
  refine x_iload 20 C dX12_begins_20 0 rfl ?_
  refine x_iadd 22 C dX12_begins_22 ?_
  refine x_int (nI (50 + 12 * k + 3)) (nI_add (50 + 12 * k) 3) ?_
  refine x_iconst 23 C (v := 0) dX12_begins_23 rfl ?_
  refine x_iast 24 C (j := (50 + 12 * k + 3)) dX12_begins_24 hM.2.1 (by omega) (xIx_nI (by omega) (by decide)) (fun I10 eI10 => ?_)
  refine x_iinc 25 C [(4, .int 4), (3, .int (nI (50 + 12 * k))), (0, .ref A), (1, .int (nI k)), (2, .int g0)] dX12_begins_25 0 rfl (by decide) (by decide) rfl ?_
  refine x_goto 28 C 8 dX12_begins_28 (by decide) ?_
  refine x_iload 8 C dX12_begins_8 0 rfl ?_
  refine x_bipush 10 C (v := 12) dX12_begins_10 rfl ?_
  refine x_icmp_ge 12 C 31 dX12_begins_12 (by decide) (fun c11 => absurd c11 (by decide)) (fun _ => ?_)
  refine x_aload_n 15 C dX12_begins_15 rfl 2 rfl ?_
  refine x_getr 16 C (b := A + 1) dX12_begins_16 ff_X12_7 rfl hM.1 rfl ?_
  refine x_iload_n 19 C dX12_begins_19 rfl 1 rfl ?_
  refine x_iload 20 C dX12_begins_20 0 rfl ?_
  refine x_iadd 22 C dX12_begins_22 ?_
  refine x_int (nI (50 + 12 * k + 4)) (nI_add (50 + 12 * k) 4) ?_
  refine x_iconst 23 C (v := 0) dX12_begins_23 rfl ?_
  refine x_iast 24 C (j := (50 + 12 * k + 4)) dX12_begins_24 hM.2.1 (by omega) (xIx_nI (by omega) (by decide)) (fun I12 eI12 => ?_)
  refine x_iinc 25 C [(4, .int 5), (3, .int (nI (50 + 12 * k))), (0, .ref A), (1, .int (nI k)), (2, .int g0)] dX12_begins_25 0 rfl (by decide) (by decide) rfl ?_
  refine x_goto 28 C 8 dX12_begins_28 (by decide) ?_
  refine x_iload 8 C dX12_begins_8 0 rfl ?_
  refine x_bipush 10 C (v := 12) dX12_begins_10 rfl ?_
  refine x_icmp_ge 12 C 31 dX12_begins_12 (by decide) (fun c13 => absurd c13 (by decide)) (fun _ => ?_)
  refine x_aload_n 15 C dX12_begins_15 rfl 2 rfl ?_
  refine x_getr 16 C (b := A + 1) dX12_begins_16 ff_X12_7 rfl hM.1 rfl ?_
  refine x_iload_n 19 C dX12_begins_19 rfl 1 rfl ?_
  refine x_iload 20 C dX12_begins_20 0 rfl ?_
  refine x_iadd 22 C dX12_begins_22 ?_
  refine x_int (nI (50 + 12 * k + 5)) (nI_add (50 + 12 * k) 5) ?_
  refine x_iconst 23 C (v := 0) dX12_begins_23 rfl ?_
  refine x_iast 24 C (j := (50 + 12 * k + 5)) dX12_begins_24 hM.2.1 (by omega) (xIx_nI (by omega) (by decide)) (fun I14 eI14 => ?_)
  refine x_iinc 25 C [(4, .int 6), (3, .int (nI (50 + 12 * k))), (0, .ref A), (1, .int (nI k)), (2, .int g0)] dX12_begins_25 0 rfl (by decide) (by decide) rfl ?_
  refine x_goto 28 C 8 dX12_begins_28 (by decide) ?_
  refine x_iload 8 C dX12_begins_8 0 rfl ?_
  refine x_bipush 10 C (v := 12) dX12_begins_10 rfl ?_
  refine x_icmp_ge 12 C 31 dX12_begins_12 (by decide) (fun c15 => absurd c15 (by decide)) (fun _ => ?_)
  refine x_aload_n 15 C dX12_begins_15 rfl 2 rfl ?_
  refine x_getr 16 C (b := A + 1) dX12_begins_16 ff_X12_7 rfl hM.1 rfl ?_
  refine x_iload_n 19 C dX12_begins_19 rfl 1 rfl ?_
  refine x_iload 20 C dX12_begins_20 0 rfl ?_
  refine x_iadd 22 C dX12_begins_22 ?_
  refine x_int (nI (50 + 12 * k + 6)) (nI_add (50 + 12 * k) 6) ?_
  refine x_iconst 23 C (v := 0) dX12_begins_23 rfl ?_
  refine x_iast 24 C (j := (50 + 12 * k + 6)) dX12_begins_24 hM.2.1 (by omega) (xIx_nI (by omega) (by decide)) (fun I16 eI16 => ?_)
  refine x_iinc 25 C [(4, .int 7), (3, .int (nI (50 + 12 * k))), (0, .ref A), (1, .int (nI k)), (2, .int g0)] dX12_begins_25 0 rfl (by decide) (by decide) rfl ?_
  refine x_goto 28 C 8 dX12_begins_28 (by decide) ?_
  refine x_iload 8 C dX12_begins_8 0 rfl ?_
  refine x_bipush 10 C (v := 12) dX12_begins_10 rfl ?_
  refine x_icmp_ge 12 C 31 dX12_begins_12 (by decide) (fun c17 => absurd c17 (by decide)) (fun _ => ?_)
  refine x_aload_n 15 C dX12_begins_15 rfl 2 rfl ?_
  refine x_getr 16 C (b := A + 1) dX12_begins_16 ff_X12_7 rfl hM.1 rfl ?_
  refine x_iload_n 19 C dX12_begins_19 rfl 1 rfl ?_
  refine x_iload 20 C dX12_begins_20 0 rfl ?_
  refine x_iadd 22 C dX12_begins_22 ?_
  refine x_int (nI (50 + 12 * k + 7)) (nI_add (50 + 12 * k) 7) ?_
  refine x_iconst 23 C (v := 0) dX12_begins_23 rfl ?_
  refine x_iast 24 C (j := (50 + 12 * k + 7)) dX12_begins_24 hM.2.1 (by omega) (xIx_nI (by omega) (by decide)) (fun I18 eI18 => ?_)
  refine x_iinc 25 C [(4, .int 8), (3, .int (nI (50 + 12 * k))), (0, .ref A), (1, .int (nI k)), (2, .int g0)] dX12_begins_25 0 rfl (by decide) (by decide) rfl ?_
  refine x_goto 28 C 8 dX12_begins_28 (by decide) ?_
  refine x_iload 8 C dX12_begins_8 0 rfl ?_
  refine x_bipush 10 C (v := 12) dX12_begins_10 rfl ?_
  refine x_icmp_ge 12 C 31 dX12_begins_12 (by decide) (fun c19 => absurd c19 (by decide)) (fun _ => ?_)
  refine x_aload_n 15 C dX12_begins_15 rfl 2 rfl ?_
  refine x_getr 16 C (b := A + 1) dX12_begins_16 ff_X12_7 rfl hM.1 rfl ?_
  refine x_iload_n 19 C dX12_begins_19 rfl 1 rfl ?_
  refine x_iload 20 C dX12_begins_20 0 rfl ?_
  refine x_iadd 22 C dX12_begins_22 ?_
  refine x_int (nI (50 + 12 * k + 8)) (nI_add (50 + 12 * k) 8) ?_
  refine x_iconst 23 C (v := 0) dX12_begins_23 rfl ?_
  refine x_iast 24 C (j := (50 + 12 * k + 8)) dX12_begins_24 hM.2.1 (by omega) (xIx_nI (by omega) (by decide)) (fun I20 eI20 => ?_)
  refine x_iinc 25 C [(4, .int 9), (3, .int (nI (50 + 12 * k))), (0, .ref A), (1, .int (nI k)), (2, .int g0)] dX12_begins_25 0 rfl (by decide) (by decide) rfl ?_
  refine x_goto 28 C 8 dX12_begins_28 (by decide) ?_
  refine x_iload 8 C dX12_begins_8 0 rfl ?_
  refine x_bipush 10 C (v := 12) dX12_begins_10 rfl ?_
  refine x_icmp_ge 12 C 31 dX12_begins_12 (by decide) (fun c21 => absurd c21 (by decide)) (fun _ => ?_)
  refine x_aload_n 15 C dX12_begins_15 rfl 2 rfl ?_
  refine x_getr 16 C (b := A + 1) dX12_begins_16 ff_X12_7 rfl hM.1 rfl ?_
  refine x_iload_n 19 C dX12_begins_19 rfl 1 rfl ?_
  refine x_iload 20 C dX12_begins_20 0 rfl ?_
  refine x_iadd 22 C dX12_begins_22 ?_
  refine x_int (nI (50 + 12 * k + 9)) (nI_add (50 + 12 * k) 9) ?_
  refine x_iconst 23 C (v := 0) dX12_begins_23 rfl ?_
  refine x_iast 24 C (j := (50 + 12 * k + 9)) dX12_begins_24 hM.2.1 (by omega) (xIx_nI (by omega) (by decide)) (fun I22 eI22 => ?_)
  refine x_iinc 25 C [(4, .int 10), (3, .int (nI (50 + 12 * k))), (0, .ref A), (1, .int (nI k)), (2, .int g0)] dX12_begins_25 0 rfl (by decide) (by decide) rfl ?_
  refine x_goto 28 C 8 dX12_begins_28 (by decide) ?_
  refine x_iload 8 C dX12_begins_8 0 rfl ?_
  refine x_bipush 10 C (v := 12) dX12_begins_10 rfl ?_
  refine x_icmp_ge 12 C 31 dX12_begins_12 (by decide) (fun c23 => absurd c23 (by decide)) (fun _ => ?_)
  refine x_aload_n 15 C dX12_begins_15 rfl 2 rfl ?_
  refine x_getr 16 C (b := A + 1) dX12_begins_16 ff_X12_7 rfl hM.1 rfl ?_
  refine x_iload_n 19 C dX12_begins_19 rfl 1 rfl ?_
  refine x_iload 20 C dX12_begins_20 0 rfl ?_
  refine x_iadd 22 C dX12_begins_22 ?_
  refine x_int (nI (50 + 12 * k + 10)) (nI_add (50 + 12 * k) 10) ?_
  refine x_iconst 23 C (v := 0) dX12_begins_23 rfl ?_
  refine x_iast 24 C (j := (50 + 12 * k + 10)) dX12_begins_24 hM.2.1 (by omega) (xIx_nI (by omega) (by decide)) (fun I24 eI24 => ?_)
  refine x_iinc 25 C [(4, .int 11), (3, .int (nI (50 + 12 * k))), (0, .ref A), (1, .int (nI k)), (2, .int g0)] dX12_begins_25 0 rfl (by decide) (by decide) rfl ?_
  refine x_goto 28 C 8 dX12_begins_28 (by decide) ?_
  refine x_iload 8 C dX12_begins_8 0 rfl ?_
  refine x_bipush 10 C (v := 12) dX12_begins_10 rfl ?_
  refine x_icmp_ge 12 C 31 dX12_begins_12 (by decide) (fun c25 => absurd c25 (by decide)) (fun _ => ?_)
  refine x_aload_n 15 C dX12_begins_15 rfl 2 rfl ?_
  refine x_getr 16 C (b := A + 1) dX12_begins_16 ff_X12_7 rfl hM.1 rfl ?_
  refine x_iload_n 19 C dX12_begins_19 rfl 1 rfl ?_
  refine x_iload 20 C dX12_begins_20 0 rfl ?_
  refine x_iadd 22 C dX12_begins_22 ?_
  refine x_int (nI (50 + 12 * k + 11)) (nI_add (50 + 12 * k) 11) ?_
  refine x_iconst 23 C (v := 0) dX12_begins_23 rfl ?_
  refine x_iast 24 C (j := (50 + 12 * k + 11)) dX12_begins_24 hM.2.1 (by omega) (xIx_nI (by omega) (by decide)) (fun I26 eI26 => ?_)
  refine x_iinc 25 C [(4, .int 12), (3, .int (nI (50 + 12 * k))), (0, .ref A), (1, .int (nI k)), (2, .int g0)] dX12_begins_25 0 rfl (by decide) (by decide) rfl ?_
  refine x_goto 28 C 8 dX12_begins_28 (by decide) ?_
  refine x_iload 8 C dX12_begins_8 0 rfl ?_
  refine x_bipush 10 C (v := 12) dX12_begins_10 rfl ?_
  refine x_icmp_ge 12 C 31 dX12_begins_12 (by decide) (fun _ => ?_) (fun c27 => absurd (by decide) c27)
  refine x_aload_n 31 C dX12_begins_31 rfl 2 rfl ?_
  refine x_getr 32 C (b := A + 1) dX12_begins_32 ff_X12_7 rfl hM.1 rfl ?_
  refine x_iload_n 35 C dX12_begins_35 rfl 1 rfl ?_
  refine x_iconst 36 C (v := 1) dX12_begins_36 rfl ?_
  refine x_iadd 37 C dX12_begins_37 ?_
  refine x_int (nI (50 + 12 * k + 1)) (nI_add (50 + 12 * k) 1) ?_
  refine x_aload_n 38 C dX12_begins_38 rfl 2 rfl ?_
  refine x_iconst 39 C (v := 0) dX12_begins_39 rfl ?_
  refine x_callVe 40 C dX12_begins_40 (As := [.int 0]) (rest := [.int (nI (50 + 12 * k + 1)), .ref (A + 1)]) [.int (I26 (A + 1) (42 + 0)), .int (nI (50 + 12 * k + 1)), .ref (A + 1)] (t_X12_setting l D z n G I26 L A 0 hM (by first | omega | assumption | decide)) mt_X12_setting km_X12_119 ki_X12_setting ks_X12_setting hM.1 ⟨by decide, rfl⟩ rfl rfl (Nat.le_of_ble_eq_true rfl) ⟨⟨by decide, by decide⟩, by decide, by decide⟩ (fun I28 L29 eI28 eL29 => ?_)
  replace eI28 := eI28.symm; subst eI28
  replace eL29 := eL29.symm; subst eL29
  refine x_int (I (A + 1) 42) (by rw [eI26, xup_at, if_neg (by omega)]; rw [eI24, xup_at, if_neg (by omega)]; rw [eI22, xup_at, if_neg (by omega)]; rw [eI20, xup_at, if_neg (by omega)]; rw [eI18, xup_at, if_neg (by omega)]; rw [eI16, xup_at, if_neg (by omega)]; rw [eI14, xup_at, if_neg (by omega)]; rw [eI12, xup_at, if_neg (by omega)]; rw [eI10, xup_at, if_neg (by omega)]; rw [eI8, xup_at, if_neg (by omega)]; rw [eI6, xup_at, if_neg (by omega)]; rw [eI4, xup_at, if_neg (by omega)]) ?_
  refine x_iload_n 43 C dX12_begins_43 rfl 4 rfl ?_
  refine x_icmp_ge 44 C 55 dX12_begins_44 (by decide) (fun c30 => ?_) (fun c30 => ?_)
  · skip
    have c30o := Int32.not_lt.mpr c30
    have hsg : ¬ (I (A + 1) 42) < g0 := Int32.not_lt.mpr c30
    refine x_iload_n 55 C dX12_begins_55 rfl 4 rfl ?_
    refine x_iast 56 C (j := (50 + 12 * k + 1)) dX12_begins_56 hM.2.1 (by omega) (xIx_nI (by omega) (by decide)) (fun I31 eI31 => ?_)
    refine x_aload_n 57 C dX12_begins_57 rfl 2 rfl ?_
    refine x_getr 58 C (b := A + 1) dX12_begins_58 ff_X12_7 rfl hM.1 rfl ?_
    refine x_iload_n 61 C dX12_begins_61 rfl 1 rfl ?_
    refine x_iconst 62 C (v := 2) dX12_begins_62 rfl ?_
    refine x_iadd 63 C dX12_begins_63 ?_
    refine x_int (nI (50 + 12 * k + 2)) (nI_add (50 + 12 * k) 2) ?_
    refine x_iload_n 64 C dX12_begins_64 rfl 4 rfl ?_
    refine x_iast 65 C (j := (50 + 12 * k + 2)) dX12_begins_65 hM.2.1 (by omega) (xIx_nI (by omega) (by decide)) (fun I32 eI32 => ?_)
    refine x_aload_n 66 C dX12_begins_66 rfl 2 rfl ?_
    refine x_getr 67 C (b := A + 1) dX12_begins_67 ff_X12_7 rfl hM.1 rfl ?_
    refine x_iload_n 70 C dX12_begins_70 rfl 1 rfl ?_
    refine x_iconst 71 C (v := 3) dX12_begins_71 rfl ?_
    refine x_iadd 72 C dX12_begins_72 ?_
    refine x_int (nI (50 + 12 * k + 3)) (nI_add (50 + 12 * k) 3) ?_
    refine x_bipush 73 C (v := 10) dX12_begins_73 rfl ?_
    refine x_iast 75 C (j := (50 + 12 * k + 3)) dX12_begins_75 hM.2.1 (by omega) (xIx_nI (by omega) (by decide)) (fun I33 eI33 => ?_)
    refine x_aload_n 76 C dX12_begins_76 rfl 2 rfl ?_
    refine x_aload_n 77 C dX12_begins_77 rfl 2 rfl ?_
    refine x_getr 78 C (b := A + 1) dX12_begins_78 ff_X12_7 rfl hM.1 rfl ?_
    refine x_bipush 81 C (v := 40) dX12_begins_81 rfl ?_
    refine x_iald 83 C (j := 40) dX12_begins_83 hM.2.1 ⟨by decide, by decide, by decide⟩ ?_
    refine x_int (nI dx) (by rw [eI33, xup_at, if_neg (by omega)]; rw [eI32, xup_at, if_neg (by omega)]; rw [eI31, xup_at, if_neg (by omega)]; rw [eI26, xup_at, if_neg (by omega)]; rw [eI24, xup_at, if_neg (by omega)]; rw [eI22, xup_at, if_neg (by omega)]; rw [eI20, xup_at, if_neg (by omega)]; rw [eI18, xup_at, if_neg (by omega)]; rw [eI16, xup_at, if_neg (by omega)]; rw [eI14, xup_at, if_neg (by omega)]; rw [eI12, xup_at, if_neg (by omega)]; rw [eI10, xup_at, if_neg (by omega)]; rw [eI8, xup_at, if_neg (by omega)]; rw [eI6, xup_at, if_neg (by omega)]; rw [eI4, xup_at, if_neg (by omega)]; exact hdx) ?_
    refine x_iload_n 84 C dX12_begins_84 rfl 3 rfl ?_
    refine x_aload_n 85 C dX12_begins_85 rfl 2 rfl ?_
    refine x_getr 86 C (b := A + 1) dX12_begins_86 ff_X12_7 rfl hM.1 rfl ?_
    refine x_bipush 89 C (v := 41) dX12_begins_89 rfl ?_
    refine x_iald 91 C (j := 41) dX12_begins_91 hM.2.1 ⟨by decide, by decide, by decide⟩ ?_
    refine x_int (nI dy) (by rw [eI33, xup_at, if_neg (by omega)]; rw [eI32, xup_at, if_neg (by omega)]; rw [eI31, xup_at, if_neg (by omega)]; rw [eI26, xup_at, if_neg (by omega)]; rw [eI24, xup_at, if_neg (by omega)]; rw [eI22, xup_at, if_neg (by omega)]; rw [eI20, xup_at, if_neg (by omega)]; rw [eI18, xup_at, if_neg (by omega)]; rw [eI16, xup_at, if_neg (by omega)]; rw [eI14, xup_at, if_neg (by omega)]; rw [eI12, xup_at, if_neg (by omega)]; rw [eI10, xup_at, if_neg (by omega)]; rw [eI8, xup_at, if_neg (by omega)]; rw [eI6, xup_at, if_neg (by omega)]; rw [eI4, xup_at, if_neg (by omega)]; exact hdy) ?_
    refine x_idiv 92 C dX12_begins_92 (nI_ne0 (by omega) (by omega)) ?_
    refine x_int (nI (k / dy)) (nI_div (by omega) (by omega)) ?_
    refine x_callVe 93 C dX12_begins_93 (As := [.int (nI dx), .int (nI (k / dy))]) (rest := []) [] (t_X12_root l D z n G I33 L A (nI dx) (nI (k / dy)) hM (by omega)) mt_X12_root km_X12_149 ki_X12_root ks_X12_root hM.1 ⟨by decide, rfl⟩ rfl rfl (Nat.le_of_ble_eq_true rfl) ⟨⟨by decide, by decide⟩, by decide, by decide⟩ (fun I34 L35 eI34 eL35 => ?_)
    replace eI34 := eI34.symm; subst eI34
    refine x_aload_n 96 C dX12_begins_96 rfl 2 rfl ?_
    refine x_getr 97 C (b := A + 1) dX12_begins_97 ff_X12_7 rfl hM.1 rfl ?_
    refine x_iload_n 100 C dX12_begins_100 rfl 1 rfl ?_
    refine x_bipush 101 C (v := 8) dX12_begins_101 rfl ?_
    refine x_iadd 103 C dX12_begins_103 ?_
    refine x_int (nI (50 + 12 * k + 8)) (nI_add (50 + 12 * k) 8) ?_
    refine x_aload_n 104 C dX12_begins_104 rfl 2 rfl ?_
    refine x_getl 105 C dX12_begins_105 ff_X12_87 hM.1 ?_
    refine x_long ((hC (rootC (nI dx) (nI (k / dy)) 1024)).1) (by rw [eL35, mwC_7]) ?_
    refine x_l2i 108 C dX12_begins_108 ?_
    refine x_iast 109 C (j := (50 + 12 * k + 8)) dX12_begins_109 hM.2.1 (by omega) (xIx_nI (by omega) (by decide)) (fun I36 eI36 => ?_)
    refine x_aload_n 110 C dX12_begins_110 rfl 2 rfl ?_
    refine x_getr 111 C (b := A + 1) dX12_begins_111 ff_X12_7 rfl hM.1 rfl ?_
    refine x_iload_n 114 C dX12_begins_114 rfl 1 rfl ?_
    refine x_bipush 115 C (v := 8) dX12_begins_115 rfl ?_
    refine x_iadd 117 C dX12_begins_117 ?_
    refine x_int (nI (50 + 12 * k + 8)) (nI_add (50 + 12 * k) 8) ?_
    refine x_iconst 118 C (v := 1) dX12_begins_118 rfl ?_
    refine x_iadd 119 C dX12_begins_119 ?_
    refine x_int (nI (50 + 12 * k + 8 + 1)) (nI_add (50 + 12 * k + 8) 1) ?_
    refine x_aload_n 120 C dX12_begins_120 rfl 2 rfl ?_
    refine x_getl 121 C dX12_begins_121 ff_X12_90 hM.1 ?_
    refine x_long ((hC (rootC (nI dx) (nI (k / dy)) 1024)).2) (by rw [eL35, mwC_8]) ?_
    refine x_l2i 124 C dX12_begins_124 ?_
    refine x_iast 125 C (j := (50 + 12 * k + 8 + 1)) dX12_begins_125 hM.2.1 (by omega) (xIx_nI (by omega) (by decide)) (fun I37 eI37 => ?_)
    refine x_aload_n 126 C dX12_begins_126 rfl 2 rfl ?_
    refine x_aload_n 127 C dX12_begins_127 rfl 2 rfl ?_
    refine x_getr 128 C (b := A + 1) dX12_begins_128 ff_X12_7 rfl hM.1 rfl ?_
    refine x_bipush 131 C (v := 41) dX12_begins_131 rfl ?_
    refine x_iald 133 C (j := 41) dX12_begins_133 hM.2.1 ⟨by decide, by decide, by decide⟩ ?_
    refine x_int (nI dy) (by rw [eI37, xup_at, if_neg (by omega)]; rw [eI36, xup_at, if_neg (by omega)]; rw [eI33, xup_at, if_neg (by omega)]; rw [eI32, xup_at, if_neg (by omega)]; rw [eI31, xup_at, if_neg (by omega)]; rw [eI26, xup_at, if_neg (by omega)]; rw [eI24, xup_at, if_neg (by omega)]; rw [eI22, xup_at, if_neg (by omega)]; rw [eI20, xup_at, if_neg (by omega)]; rw [eI18, xup_at, if_neg (by omega)]; rw [eI16, xup_at, if_neg (by omega)]; rw [eI14, xup_at, if_neg (by omega)]; rw [eI12, xup_at, if_neg (by omega)]; rw [eI10, xup_at, if_neg (by omega)]; rw [eI8, xup_at, if_neg (by omega)]; rw [eI6, xup_at, if_neg (by omega)]; rw [eI4, xup_at, if_neg (by omega)]; exact hdy) ?_
    refine x_iload_n 134 C dX12_begins_134 rfl 3 rfl ?_
    refine x_aload_n 135 C dX12_begins_135 rfl 2 rfl ?_
    refine x_getr 136 C (b := A + 1) dX12_begins_136 ff_X12_7 rfl hM.1 rfl ?_
    refine x_bipush 139 C (v := 41) dX12_begins_139 rfl ?_
    refine x_iald 141 C (j := 41) dX12_begins_141 hM.2.1 ⟨by decide, by decide, by decide⟩ ?_
    refine x_int (nI dy) (by rw [eI37, xup_at, if_neg (by omega)]; rw [eI36, xup_at, if_neg (by omega)]; rw [eI33, xup_at, if_neg (by omega)]; rw [eI32, xup_at, if_neg (by omega)]; rw [eI31, xup_at, if_neg (by omega)]; rw [eI26, xup_at, if_neg (by omega)]; rw [eI24, xup_at, if_neg (by omega)]; rw [eI22, xup_at, if_neg (by omega)]; rw [eI20, xup_at, if_neg (by omega)]; rw [eI18, xup_at, if_neg (by omega)]; rw [eI16, xup_at, if_neg (by omega)]; rw [eI14, xup_at, if_neg (by omega)]; rw [eI12, xup_at, if_neg (by omega)]; rw [eI10, xup_at, if_neg (by omega)]; rw [eI8, xup_at, if_neg (by omega)]; rw [eI6, xup_at, if_neg (by omega)]; rw [eI4, xup_at, if_neg (by omega)]; exact hdy) ?_
    refine x_irem 142 C dX12_begins_142 (nI_ne0 (by omega) (by omega)) ?_
    refine x_int (nI (k % dy)) (nI_mod (by omega) (by omega)) ?_
    refine x_callVe 143 C dX12_begins_143 (As := [.int (nI dy), .int (nI (k % dy))]) (rest := []) [] (t_X12_root l D z n G I37 L35 A (nI dy) (nI (k % dy)) hM (by omega)) mt_X12_root km_X12_149 ki_X12_root ks_X12_root hM.1 ⟨by decide, rfl⟩ rfl rfl (Nat.le_of_ble_eq_true rfl) ⟨⟨by decide, by decide⟩, by decide, by decide⟩ (fun I38 L39 eI38 eL39 => ?_)
    replace eI38 := eI38.symm; subst eI38
    refine x_aload_n 146 C dX12_begins_146 rfl 2 rfl ?_
    refine x_getr 147 C (b := A + 1) dX12_begins_147 ff_X12_7 rfl hM.1 rfl ?_
    refine x_iload_n 150 C dX12_begins_150 rfl 1 rfl ?_
    refine x_bipush 151 C (v := 8) dX12_begins_151 rfl ?_
    refine x_iadd 153 C dX12_begins_153 ?_
    refine x_int (nI (50 + 12 * k + 8)) (nI_add (50 + 12 * k) 8) ?_
    refine x_iconst 154 C (v := 2) dX12_begins_154 rfl ?_
    refine x_iadd 155 C dX12_begins_155 ?_
    refine x_int (nI (50 + 12 * k + 8 + 2)) (nI_add (50 + 12 * k + 8) 2) ?_
    refine x_aload_n 156 C dX12_begins_156 rfl 2 rfl ?_
    refine x_getl 157 C dX12_begins_157 ff_X12_87 hM.1 ?_
    refine x_long ((hC (rootC (nI dy) (nI (k % dy)) 1024)).1) (by rw [eL39, mwC_7]) ?_
    refine x_l2i 160 C dX12_begins_160 ?_
    refine x_iast 161 C (j := (50 + 12 * k + 8 + 2)) dX12_begins_161 hM.2.1 (by omega) (xIx_nI (by omega) (by decide)) (fun I40 eI40 => ?_)
    refine x_aload_n 162 C dX12_begins_162 rfl 2 rfl ?_
    refine x_getr 163 C (b := A + 1) dX12_begins_163 ff_X12_7 rfl hM.1 rfl ?_
    refine x_iload_n 166 C dX12_begins_166 rfl 1 rfl ?_
    refine x_bipush 167 C (v := 8) dX12_begins_167 rfl ?_
    refine x_iadd 169 C dX12_begins_169 ?_
    refine x_int (nI (50 + 12 * k + 8)) (nI_add (50 + 12 * k) 8) ?_
    refine x_iconst 170 C (v := 3) dX12_begins_170 rfl ?_
    refine x_iadd 171 C dX12_begins_171 ?_
    refine x_int (nI (50 + 12 * k + 8 + 3)) (nI_add (50 + 12 * k + 8) 3) ?_
    refine x_aload_n 172 C dX12_begins_172 rfl 2 rfl ?_
    refine x_getl 173 C dX12_begins_173 ff_X12_90 hM.1 ?_
    refine x_long ((hC (rootC (nI dy) (nI (k % dy)) 1024)).2) (by rw [eL39, mwC_8]) ?_
    refine x_l2i 176 C dX12_begins_176 ?_
    refine x_iast 177 C (j := (50 + 12 * k + 8 + 3)) dX12_begins_177 hM.2.1 (by omega) (xIx_nI (by omega) (by decide)) (fun I41 eI41 => ?_)
    refine x_vret 178 C dX12_begins_178 rfl (Nat.le_refl _) (xN.intro ?_)
    have v0_ : I41 (A + 1) (50 + 12 * k) = 0 := by rw [eI41, xup_at, if_neg (by omega), eI40, xup_at, if_neg (by omega), eI37, xup_at, if_neg (by omega), eI36, xup_at, if_neg (by omega), eI33, xup_at, if_neg (by omega), eI32, xup_at, if_neg (by omega), eI31, xup_at, if_neg (by omega), eI26, xup_at, if_neg (by omega), eI24, xup_at, if_neg (by omega), eI22, xup_at, if_neg (by omega), eI20, xup_at, if_neg (by omega), eI18, xup_at, if_neg (by omega), eI16, xup_at, if_neg (by omega), eI14, xup_at, if_neg (by omega), eI12, xup_at, if_neg (by omega), eI10, xup_at, if_neg (by omega), eI8, xup_at, if_neg (by omega), eI6, xup_at, if_neg (by omega), eI4, xup_at, if_pos (by omega)]
    have v1_ : I41 (A + 1) (50 + 12 * k + 1) = imin (I (A + 1) 42) g0 := by rw [eI41, xup_at, if_neg (by omega), eI40, xup_at, if_neg (by omega), eI37, xup_at, if_neg (by omega), eI36, xup_at, if_neg (by omega), eI33, xup_at, if_neg (by omega), eI32, xup_at, if_neg (by omega), eI31, xup_at, if_pos (by omega)]; rw [imin_alt, if_neg hsg]
    have v2_ : I41 (A + 1) (50 + 12 * k + 2) = g0 := by rw [eI41, xup_at, if_neg (by omega), eI40, xup_at, if_neg (by omega), eI37, xup_at, if_neg (by omega), eI36, xup_at, if_neg (by omega), eI33, xup_at, if_neg (by omega), eI32, xup_at, if_pos (by omega)]
    have v3_ : I41 (A + 1) (50 + 12 * k + 3) = 10 := by rw [eI41, xup_at, if_neg (by omega), eI40, xup_at, if_neg (by omega), eI37, xup_at, if_neg (by omega), eI36, xup_at, if_neg (by omega), eI33, xup_at, if_pos (by omega)]
    have v4_ : I41 (A + 1) (50 + 12 * k + 4) = 0 := by rw [eI41, xup_at, if_neg (by omega), eI40, xup_at, if_neg (by omega), eI37, xup_at, if_neg (by omega), eI36, xup_at, if_neg (by omega), eI33, xup_at, if_neg (by omega), eI32, xup_at, if_neg (by omega), eI31, xup_at, if_neg (by omega), eI26, xup_at, if_neg (by omega), eI24, xup_at, if_neg (by omega), eI22, xup_at, if_neg (by omega), eI20, xup_at, if_neg (by omega), eI18, xup_at, if_neg (by omega), eI16, xup_at, if_neg (by omega), eI14, xup_at, if_neg (by omega), eI12, xup_at, if_pos (by omega)]
    have v5_ : I41 (A + 1) (50 + 12 * k + 5) = 0 := by rw [eI41, xup_at, if_neg (by omega), eI40, xup_at, if_neg (by omega), eI37, xup_at, if_neg (by omega), eI36, xup_at, if_neg (by omega), eI33, xup_at, if_neg (by omega), eI32, xup_at, if_neg (by omega), eI31, xup_at, if_neg (by omega), eI26, xup_at, if_neg (by omega), eI24, xup_at, if_neg (by omega), eI22, xup_at, if_neg (by omega), eI20, xup_at, if_neg (by omega), eI18, xup_at, if_neg (by omega), eI16, xup_at, if_neg (by omega), eI14, xup_at, if_pos (by omega)]
    have v6_ : I41 (A + 1) (50 + 12 * k + 6) = 0 := by rw [eI41, xup_at, if_neg (by omega), eI40, xup_at, if_neg (by omega), eI37, xup_at, if_neg (by omega), eI36, xup_at, if_neg (by omega), eI33, xup_at, if_neg (by omega), eI32, xup_at, if_neg (by omega), eI31, xup_at, if_neg (by omega), eI26, xup_at, if_neg (by omega), eI24, xup_at, if_neg (by omega), eI22, xup_at, if_neg (by omega), eI20, xup_at, if_neg (by omega), eI18, xup_at, if_neg (by omega), eI16, xup_at, if_pos (by omega)]
    have v7_ : I41 (A + 1) (50 + 12 * k + 7) = 0 := by rw [eI41, xup_at, if_neg (by omega), eI40, xup_at, if_neg (by omega), eI37, xup_at, if_neg (by omega), eI36, xup_at, if_neg (by omega), eI33, xup_at, if_neg (by omega), eI32, xup_at, if_neg (by omega), eI31, xup_at, if_neg (by omega), eI26, xup_at, if_neg (by omega), eI24, xup_at, if_neg (by omega), eI22, xup_at, if_neg (by omega), eI20, xup_at, if_neg (by omega), eI18, xup_at, if_pos (by omega)]
    have v8_ : Int32.toInt64 (I41 (A + 1) (50 + 12 * k + 8)) = (hC (rootC (nI dx) (nI (k / dy)) 1024)).1 := by rw [eI41, xup_at, if_neg (by omega), eI40, xup_at, if_neg (by omega), eI37, xup_at, if_neg (by omega), eI36, xup_at, if_pos (by omega)]; exact l2i_held (held_2 _)
    have v9_ : Int32.toInt64 (I41 (A + 1) (50 + 12 * k + 9)) = (hC (rootC (nI dx) (nI (k / dy)) 1024)).2 := by rw [eI41, xup_at, if_neg (by omega), eI40, xup_at, if_neg (by omega), eI37, xup_at, if_pos (by omega)]; exact l2i_held (held_2 _)
    have v10_ : Int32.toInt64 (I41 (A + 1) (50 + 12 * k + 10)) = (hC (rootC (nI dy) (nI (k % dy)) 1024)).1 := by rw [eI41, xup_at, if_neg (by omega), eI40, xup_at, if_pos (by omega)]; exact l2i_held (held_2 _)
    have v11_ : Int32.toInt64 (I41 (A + 1) (50 + 12 * k + 11)) = (hC (rootC (nI dy) (nI (k % dy)) 1024)).2 := by rw [eI41, xup_at, if_pos (by omega)]; exact l2i_held (held_2 _)
    refine ⟨rfl, ?_, fun j hj => by rw [eI41, xup_at, if_neg (by omega), eI40, xup_at, if_neg (by omega), eI37, xup_at, if_neg (by omega), eI36, xup_at, if_neg (by omega), eI33, xup_at, if_neg (by omega), eI32, xup_at, if_neg (by omega), eI31, xup_at, if_neg (by omega), eI26, xup_at, if_neg (by omega), eI24, xup_at, if_neg (by omega), eI22, xup_at, if_neg (by omega), eI20, xup_at, if_neg (by omega), eI18, xup_at, if_neg (by omega), eI16, xup_at, if_neg (by omega), eI14, xup_at, if_neg (by omega), eI12, xup_at, if_neg (by omega), eI10, xup_at, if_neg (by omega), eI8, xup_at, if_neg (by omega), eI6, xup_at, if_neg (by omega), eI4, xup_at, if_neg (by omega)], fun q hq => by rw [eI41, xup_row _ _ hq, eI40, xup_row _ _ hq, eI37, xup_row _ _ hq, eI36, xup_row _ _ hq, eI33, xup_row _ _ hq, eI32, xup_row _ _ hq, eI31, xup_row _ _ hq, eI26, xup_row _ _ hq, eI24, xup_row _ _ hq, eI22, xup_row _ _ hq, eI20, xup_row _ _ hq, eI18, xup_row _ _ hq, eI16, xup_row _ _ hq, eI14, xup_row _ _ hq, eI12, xup_row _ _ hq, eI10, xup_row _ _ hq, eI8, xup_row _ _ hq, eI6, xup_row _ _ hq, eI4, xup_row _ _ hq], fun q hq => by rw [eL39, mwC_row _ _ hq, xup_row _ _ hq, eL35, mwC_row _ _ hq, xup_row _ _ hq]⟩
    rw [mvO_of (I41 (A + 1)) (50 + 12 * k) v0_ v1_ v2_ v3_ v4_ v5_ v6_ v7_ v8_ v9_ v10_ v11_]; rfl
  · skip
    have c30o := Int32.not_le.mp c30
    have hsg : (I (A + 1) 42) < g0 := Int32.not_le.mp c30
    refine x_aload_n 47 C dX12_begins_47 rfl 2 rfl ?_
    refine x_iconst 48 C (v := 0) dX12_begins_48 rfl ?_
    refine x_callVe 49 C dX12_begins_49 (As := [.int 0]) (rest := [.int (nI (50 + 12 * k + 1)), .ref (A + 1)]) [.int (I26 (A + 1) (42 + 0)), .int (nI (50 + 12 * k + 1)), .ref (A + 1)] (t_X12_setting l D z n G I26 L A 0 hM (by first | omega | assumption | decide)) mt_X12_setting km_X12_119 ki_X12_setting ks_X12_setting hM.1 ⟨by decide, rfl⟩ rfl rfl (Nat.le_of_ble_eq_true rfl) ⟨⟨by decide, by decide⟩, by decide, by decide⟩ (fun I42 L43 eI42 eL43 => ?_)
    replace eI42 := eI42.symm; subst eI42
    replace eL43 := eL43.symm; subst eL43
    refine x_int (I (A + 1) 42) (by rw [eI26, xup_at, if_neg (by omega)]; rw [eI24, xup_at, if_neg (by omega)]; rw [eI22, xup_at, if_neg (by omega)]; rw [eI20, xup_at, if_neg (by omega)]; rw [eI18, xup_at, if_neg (by omega)]; rw [eI16, xup_at, if_neg (by omega)]; rw [eI14, xup_at, if_neg (by omega)]; rw [eI12, xup_at, if_neg (by omega)]; rw [eI10, xup_at, if_neg (by omega)]; rw [eI8, xup_at, if_neg (by omega)]; rw [eI6, xup_at, if_neg (by omega)]; rw [eI4, xup_at, if_neg (by omega)]) ?_
    refine x_goto 52 C 56 dX12_begins_52 (by decide) ?_
    refine x_iast 56 C (j := (50 + 12 * k + 1)) dX12_begins_56 hM.2.1 (by omega) (xIx_nI (by omega) (by decide)) (fun I44 eI44 => ?_)
    refine x_aload_n 57 C dX12_begins_57 rfl 2 rfl ?_
    refine x_getr 58 C (b := A + 1) dX12_begins_58 ff_X12_7 rfl hM.1 rfl ?_
    refine x_iload_n 61 C dX12_begins_61 rfl 1 rfl ?_
    refine x_iconst 62 C (v := 2) dX12_begins_62 rfl ?_
    refine x_iadd 63 C dX12_begins_63 ?_
    refine x_int (nI (50 + 12 * k + 2)) (nI_add (50 + 12 * k) 2) ?_
    refine x_iload_n 64 C dX12_begins_64 rfl 4 rfl ?_
    refine x_iast 65 C (j := (50 + 12 * k + 2)) dX12_begins_65 hM.2.1 (by omega) (xIx_nI (by omega) (by decide)) (fun I45 eI45 => ?_)
    refine x_aload_n 66 C dX12_begins_66 rfl 2 rfl ?_
    refine x_getr 67 C (b := A + 1) dX12_begins_67 ff_X12_7 rfl hM.1 rfl ?_
    refine x_iload_n 70 C dX12_begins_70 rfl 1 rfl ?_
    refine x_iconst 71 C (v := 3) dX12_begins_71 rfl ?_
    refine x_iadd 72 C dX12_begins_72 ?_
    refine x_int (nI (50 + 12 * k + 3)) (nI_add (50 + 12 * k) 3) ?_
    refine x_bipush 73 C (v := 10) dX12_begins_73 rfl ?_
    refine x_iast 75 C (j := (50 + 12 * k + 3)) dX12_begins_75 hM.2.1 (by omega) (xIx_nI (by omega) (by decide)) (fun I46 eI46 => ?_)
    refine x_aload_n 76 C dX12_begins_76 rfl 2 rfl ?_
    refine x_aload_n 77 C dX12_begins_77 rfl 2 rfl ?_
    refine x_getr 78 C (b := A + 1) dX12_begins_78 ff_X12_7 rfl hM.1 rfl ?_
    refine x_bipush 81 C (v := 40) dX12_begins_81 rfl ?_
    refine x_iald 83 C (j := 40) dX12_begins_83 hM.2.1 ⟨by decide, by decide, by decide⟩ ?_
    refine x_int (nI dx) (by rw [eI46, xup_at, if_neg (by omega)]; rw [eI45, xup_at, if_neg (by omega)]; rw [eI44, xup_at, if_neg (by omega)]; rw [eI26, xup_at, if_neg (by omega)]; rw [eI24, xup_at, if_neg (by omega)]; rw [eI22, xup_at, if_neg (by omega)]; rw [eI20, xup_at, if_neg (by omega)]; rw [eI18, xup_at, if_neg (by omega)]; rw [eI16, xup_at, if_neg (by omega)]; rw [eI14, xup_at, if_neg (by omega)]; rw [eI12, xup_at, if_neg (by omega)]; rw [eI10, xup_at, if_neg (by omega)]; rw [eI8, xup_at, if_neg (by omega)]; rw [eI6, xup_at, if_neg (by omega)]; rw [eI4, xup_at, if_neg (by omega)]; exact hdx) ?_
    refine x_iload_n 84 C dX12_begins_84 rfl 3 rfl ?_
    refine x_aload_n 85 C dX12_begins_85 rfl 2 rfl ?_
    refine x_getr 86 C (b := A + 1) dX12_begins_86 ff_X12_7 rfl hM.1 rfl ?_
    refine x_bipush 89 C (v := 41) dX12_begins_89 rfl ?_
    refine x_iald 91 C (j := 41) dX12_begins_91 hM.2.1 ⟨by decide, by decide, by decide⟩ ?_
    refine x_int (nI dy) (by rw [eI46, xup_at, if_neg (by omega)]; rw [eI45, xup_at, if_neg (by omega)]; rw [eI44, xup_at, if_neg (by omega)]; rw [eI26, xup_at, if_neg (by omega)]; rw [eI24, xup_at, if_neg (by omega)]; rw [eI22, xup_at, if_neg (by omega)]; rw [eI20, xup_at, if_neg (by omega)]; rw [eI18, xup_at, if_neg (by omega)]; rw [eI16, xup_at, if_neg (by omega)]; rw [eI14, xup_at, if_neg (by omega)]; rw [eI12, xup_at, if_neg (by omega)]; rw [eI10, xup_at, if_neg (by omega)]; rw [eI8, xup_at, if_neg (by omega)]; rw [eI6, xup_at, if_neg (by omega)]; rw [eI4, xup_at, if_neg (by omega)]; exact hdy) ?_
    refine x_idiv 92 C dX12_begins_92 (nI_ne0 (by omega) (by omega)) ?_
    refine x_int (nI (k / dy)) (nI_div (by omega) (by omega)) ?_
    refine x_callVe 93 C dX12_begins_93 (As := [.int (nI dx), .int (nI (k / dy))]) (rest := []) [] (t_X12_root l D z n G I46 L A (nI dx) (nI (k / dy)) hM (by omega)) mt_X12_root km_X12_149 ki_X12_root ks_X12_root hM.1 ⟨by decide, rfl⟩ rfl rfl (Nat.le_of_ble_eq_true rfl) ⟨⟨by decide, by decide⟩, by decide, by decide⟩ (fun I47 L48 eI47 eL48 => ?_)
    replace eI47 := eI47.symm; subst eI47
    refine x_aload_n 96 C dX12_begins_96 rfl 2 rfl ?_
    refine x_getr 97 C (b := A + 1) dX12_begins_97 ff_X12_7 rfl hM.1 rfl ?_
    refine x_iload_n 100 C dX12_begins_100 rfl 1 rfl ?_
    refine x_bipush 101 C (v := 8) dX12_begins_101 rfl ?_
    refine x_iadd 103 C dX12_begins_103 ?_
    refine x_int (nI (50 + 12 * k + 8)) (nI_add (50 + 12 * k) 8) ?_
    refine x_aload_n 104 C dX12_begins_104 rfl 2 rfl ?_
    refine x_getl 105 C dX12_begins_105 ff_X12_87 hM.1 ?_
    refine x_long ((hC (rootC (nI dx) (nI (k / dy)) 1024)).1) (by rw [eL48, mwC_7]) ?_
    refine x_l2i 108 C dX12_begins_108 ?_
    refine x_iast 109 C (j := (50 + 12 * k + 8)) dX12_begins_109 hM.2.1 (by omega) (xIx_nI (by omega) (by decide)) (fun I49 eI49 => ?_)
    refine x_aload_n 110 C dX12_begins_110 rfl 2 rfl ?_
    refine x_getr 111 C (b := A + 1) dX12_begins_111 ff_X12_7 rfl hM.1 rfl ?_
    refine x_iload_n 114 C dX12_begins_114 rfl 1 rfl ?_
    refine x_bipush 115 C (v := 8) dX12_begins_115 rfl ?_
    refine x_iadd 117 C dX12_begins_117 ?_
    refine x_int (nI (50 + 12 * k + 8)) (nI_add (50 + 12 * k) 8) ?_
    refine x_iconst 118 C (v := 1) dX12_begins_118 rfl ?_
    refine x_iadd 119 C dX12_begins_119 ?_
    refine x_int (nI (50 + 12 * k + 8 + 1)) (nI_add (50 + 12 * k + 8) 1) ?_
    refine x_aload_n 120 C dX12_begins_120 rfl 2 rfl ?_
    refine x_getl 121 C dX12_begins_121 ff_X12_90 hM.1 ?_
    refine x_long ((hC (rootC (nI dx) (nI (k / dy)) 1024)).2) (by rw [eL48, mwC_8]) ?_
    refine x_l2i 124 C dX12_begins_124 ?_
    refine x_iast 125 C (j := (50 + 12 * k + 8 + 1)) dX12_begins_125 hM.2.1 (by omega) (xIx_nI (by omega) (by decide)) (fun I50 eI50 => ?_)
    refine x_aload_n 126 C dX12_begins_126 rfl 2 rfl ?_
    refine x_aload_n 127 C dX12_begins_127 rfl 2 rfl ?_
    refine x_getr 128 C (b := A + 1) dX12_begins_128 ff_X12_7 rfl hM.1 rfl ?_
    refine x_bipush 131 C (v := 41) dX12_begins_131 rfl ?_
    refine x_iald 133 C (j := 41) dX12_begins_133 hM.2.1 ⟨by decide, by decide, by decide⟩ ?_
    refine x_int (nI dy) (by rw [eI50, xup_at, if_neg (by omega)]; rw [eI49, xup_at, if_neg (by omega)]; rw [eI46, xup_at, if_neg (by omega)]; rw [eI45, xup_at, if_neg (by omega)]; rw [eI44, xup_at, if_neg (by omega)]; rw [eI26, xup_at, if_neg (by omega)]; rw [eI24, xup_at, if_neg (by omega)]; rw [eI22, xup_at, if_neg (by omega)]; rw [eI20, xup_at, if_neg (by omega)]; rw [eI18, xup_at, if_neg (by omega)]; rw [eI16, xup_at, if_neg (by omega)]; rw [eI14, xup_at, if_neg (by omega)]; rw [eI12, xup_at, if_neg (by omega)]; rw [eI10, xup_at, if_neg (by omega)]; rw [eI8, xup_at, if_neg (by omega)]; rw [eI6, xup_at, if_neg (by omega)]; rw [eI4, xup_at, if_neg (by omega)]; exact hdy) ?_
    refine x_iload_n 134 C dX12_begins_134 rfl 3 rfl ?_
    refine x_aload_n 135 C dX12_begins_135 rfl 2 rfl ?_
    refine x_getr 136 C (b := A + 1) dX12_begins_136 ff_X12_7 rfl hM.1 rfl ?_
    refine x_bipush 139 C (v := 41) dX12_begins_139 rfl ?_
    refine x_iald 141 C (j := 41) dX12_begins_141 hM.2.1 ⟨by decide, by decide, by decide⟩ ?_
    refine x_int (nI dy) (by rw [eI50, xup_at, if_neg (by omega)]; rw [eI49, xup_at, if_neg (by omega)]; rw [eI46, xup_at, if_neg (by omega)]; rw [eI45, xup_at, if_neg (by omega)]; rw [eI44, xup_at, if_neg (by omega)]; rw [eI26, xup_at, if_neg (by omega)]; rw [eI24, xup_at, if_neg (by omega)]; rw [eI22, xup_at, if_neg (by omega)]; rw [eI20, xup_at, if_neg (by omega)]; rw [eI18, xup_at, if_neg (by omega)]; rw [eI16, xup_at, if_neg (by omega)]; rw [eI14, xup_at, if_neg (by omega)]; rw [eI12, xup_at, if_neg (by omega)]; rw [eI10, xup_at, if_neg (by omega)]; rw [eI8, xup_at, if_neg (by omega)]; rw [eI6, xup_at, if_neg (by omega)]; rw [eI4, xup_at, if_neg (by omega)]; exact hdy) ?_
    refine x_irem 142 C dX12_begins_142 (nI_ne0 (by omega) (by omega)) ?_
    refine x_int (nI (k % dy)) (nI_mod (by omega) (by omega)) ?_
    refine x_callVe 143 C dX12_begins_143 (As := [.int (nI dy), .int (nI (k % dy))]) (rest := []) [] (t_X12_root l D z n G I50 L48 A (nI dy) (nI (k % dy)) hM (by omega)) mt_X12_root km_X12_149 ki_X12_root ks_X12_root hM.1 ⟨by decide, rfl⟩ rfl rfl (Nat.le_of_ble_eq_true rfl) ⟨⟨by decide, by decide⟩, by decide, by decide⟩ (fun I51 L52 eI51 eL52 => ?_)
    replace eI51 := eI51.symm; subst eI51
    refine x_aload_n 146 C dX12_begins_146 rfl 2 rfl ?_
    refine x_getr 147 C (b := A + 1) dX12_begins_147 ff_X12_7 rfl hM.1 rfl ?_
    refine x_iload_n 150 C dX12_begins_150 rfl 1 rfl ?_
    refine x_bipush 151 C (v := 8) dX12_begins_151 rfl ?_
    refine x_iadd 153 C dX12_begins_153 ?_
    refine x_int (nI (50 + 12 * k + 8)) (nI_add (50 + 12 * k) 8) ?_
    refine x_iconst 154 C (v := 2) dX12_begins_154 rfl ?_
    refine x_iadd 155 C dX12_begins_155 ?_
    refine x_int (nI (50 + 12 * k + 8 + 2)) (nI_add (50 + 12 * k + 8) 2) ?_
    refine x_aload_n 156 C dX12_begins_156 rfl 2 rfl ?_
    refine x_getl 157 C dX12_begins_157 ff_X12_87 hM.1 ?_
    refine x_long ((hC (rootC (nI dy) (nI (k % dy)) 1024)).1) (by rw [eL52, mwC_7]) ?_
    refine x_l2i 160 C dX12_begins_160 ?_
    refine x_iast 161 C (j := (50 + 12 * k + 8 + 2)) dX12_begins_161 hM.2.1 (by omega) (xIx_nI (by omega) (by decide)) (fun I53 eI53 => ?_)
    refine x_aload_n 162 C dX12_begins_162 rfl 2 rfl ?_
    refine x_getr 163 C (b := A + 1) dX12_begins_163 ff_X12_7 rfl hM.1 rfl ?_
    refine x_iload_n 166 C dX12_begins_166 rfl 1 rfl ?_
    refine x_bipush 167 C (v := 8) dX12_begins_167 rfl ?_
    refine x_iadd 169 C dX12_begins_169 ?_
    refine x_int (nI (50 + 12 * k + 8)) (nI_add (50 + 12 * k) 8) ?_
    refine x_iconst 170 C (v := 3) dX12_begins_170 rfl ?_
    refine x_iadd 171 C dX12_begins_171 ?_
    refine x_int (nI (50 + 12 * k + 8 + 3)) (nI_add (50 + 12 * k + 8) 3) ?_
    refine x_aload_n 172 C dX12_begins_172 rfl 2 rfl ?_
    refine x_getl 173 C dX12_begins_173 ff_X12_90 hM.1 ?_
    refine x_long ((hC (rootC (nI dy) (nI (k % dy)) 1024)).2) (by rw [eL52, mwC_8]) ?_
    refine x_l2i 176 C dX12_begins_176 ?_
    refine x_iast 177 C (j := (50 + 12 * k + 8 + 3)) dX12_begins_177 hM.2.1 (by omega) (xIx_nI (by omega) (by decide)) (fun I54 eI54 => ?_)
    refine x_vret 178 C dX12_begins_178 rfl (Nat.le_refl _) (xN.intro ?_)
    have v0_ : I54 (A + 1) (50 + 12 * k) = 0 := by rw [eI54, xup_at, if_neg (by omega), eI53, xup_at, if_neg (by omega), eI50, xup_at, if_neg (by omega), eI49, xup_at, if_neg (by omega), eI46, xup_at, if_neg (by omega), eI45, xup_at, if_neg (by omega), eI44, xup_at, if_neg (by omega), eI26, xup_at, if_neg (by omega), eI24, xup_at, if_neg (by omega), eI22, xup_at, if_neg (by omega), eI20, xup_at, if_neg (by omega), eI18, xup_at, if_neg (by omega), eI16, xup_at, if_neg (by omega), eI14, xup_at, if_neg (by omega), eI12, xup_at, if_neg (by omega), eI10, xup_at, if_neg (by omega), eI8, xup_at, if_neg (by omega), eI6, xup_at, if_neg (by omega), eI4, xup_at, if_pos (by omega)]
    have v1_ : I54 (A + 1) (50 + 12 * k + 1) = imin (I (A + 1) 42) g0 := by rw [eI54, xup_at, if_neg (by omega), eI53, xup_at, if_neg (by omega), eI50, xup_at, if_neg (by omega), eI49, xup_at, if_neg (by omega), eI46, xup_at, if_neg (by omega), eI45, xup_at, if_neg (by omega), eI44, xup_at, if_pos (by omega)]; rw [imin_alt, if_pos hsg]
    have v2_ : I54 (A + 1) (50 + 12 * k + 2) = g0 := by rw [eI54, xup_at, if_neg (by omega), eI53, xup_at, if_neg (by omega), eI50, xup_at, if_neg (by omega), eI49, xup_at, if_neg (by omega), eI46, xup_at, if_neg (by omega), eI45, xup_at, if_pos (by omega)]
    have v3_ : I54 (A + 1) (50 + 12 * k + 3) = 10 := by rw [eI54, xup_at, if_neg (by omega), eI53, xup_at, if_neg (by omega), eI50, xup_at, if_neg (by omega), eI49, xup_at, if_neg (by omega), eI46, xup_at, if_pos (by omega)]
    have v4_ : I54 (A + 1) (50 + 12 * k + 4) = 0 := by rw [eI54, xup_at, if_neg (by omega), eI53, xup_at, if_neg (by omega), eI50, xup_at, if_neg (by omega), eI49, xup_at, if_neg (by omega), eI46, xup_at, if_neg (by omega), eI45, xup_at, if_neg (by omega), eI44, xup_at, if_neg (by omega), eI26, xup_at, if_neg (by omega), eI24, xup_at, if_neg (by omega), eI22, xup_at, if_neg (by omega), eI20, xup_at, if_neg (by omega), eI18, xup_at, if_neg (by omega), eI16, xup_at, if_neg (by omega), eI14, xup_at, if_neg (by omega), eI12, xup_at, if_pos (by omega)]
    have v5_ : I54 (A + 1) (50 + 12 * k + 5) = 0 := by rw [eI54, xup_at, if_neg (by omega), eI53, xup_at, if_neg (by omega), eI50, xup_at, if_neg (by omega), eI49, xup_at, if_neg (by omega), eI46, xup_at, if_neg (by omega), eI45, xup_at, if_neg (by omega), eI44, xup_at, if_neg (by omega), eI26, xup_at, if_neg (by omega), eI24, xup_at, if_neg (by omega), eI22, xup_at, if_neg (by omega), eI20, xup_at, if_neg (by omega), eI18, xup_at, if_neg (by omega), eI16, xup_at, if_neg (by omega), eI14, xup_at, if_pos (by omega)]
    have v6_ : I54 (A + 1) (50 + 12 * k + 6) = 0 := by rw [eI54, xup_at, if_neg (by omega), eI53, xup_at, if_neg (by omega), eI50, xup_at, if_neg (by omega), eI49, xup_at, if_neg (by omega), eI46, xup_at, if_neg (by omega), eI45, xup_at, if_neg (by omega), eI44, xup_at, if_neg (by omega), eI26, xup_at, if_neg (by omega), eI24, xup_at, if_neg (by omega), eI22, xup_at, if_neg (by omega), eI20, xup_at, if_neg (by omega), eI18, xup_at, if_neg (by omega), eI16, xup_at, if_pos (by omega)]
    have v7_ : I54 (A + 1) (50 + 12 * k + 7) = 0 := by rw [eI54, xup_at, if_neg (by omega), eI53, xup_at, if_neg (by omega), eI50, xup_at, if_neg (by omega), eI49, xup_at, if_neg (by omega), eI46, xup_at, if_neg (by omega), eI45, xup_at, if_neg (by omega), eI44, xup_at, if_neg (by omega), eI26, xup_at, if_neg (by omega), eI24, xup_at, if_neg (by omega), eI22, xup_at, if_neg (by omega), eI20, xup_at, if_neg (by omega), eI18, xup_at, if_pos (by omega)]
    have v8_ : Int32.toInt64 (I54 (A + 1) (50 + 12 * k + 8)) = (hC (rootC (nI dx) (nI (k / dy)) 1024)).1 := by rw [eI54, xup_at, if_neg (by omega), eI53, xup_at, if_neg (by omega), eI50, xup_at, if_neg (by omega), eI49, xup_at, if_pos (by omega)]; exact l2i_held (held_2 _)
    have v9_ : Int32.toInt64 (I54 (A + 1) (50 + 12 * k + 9)) = (hC (rootC (nI dx) (nI (k / dy)) 1024)).2 := by rw [eI54, xup_at, if_neg (by omega), eI53, xup_at, if_neg (by omega), eI50, xup_at, if_pos (by omega)]; exact l2i_held (held_2 _)
    have v10_ : Int32.toInt64 (I54 (A + 1) (50 + 12 * k + 10)) = (hC (rootC (nI dy) (nI (k % dy)) 1024)).1 := by rw [eI54, xup_at, if_neg (by omega), eI53, xup_at, if_pos (by omega)]; exact l2i_held (held_2 _)
    have v11_ : Int32.toInt64 (I54 (A + 1) (50 + 12 * k + 11)) = (hC (rootC (nI dy) (nI (k % dy)) 1024)).2 := by rw [eI54, xup_at, if_pos (by omega)]; exact l2i_held (held_2 _)
    refine ⟨rfl, ?_, fun j hj => by rw [eI54, xup_at, if_neg (by omega), eI53, xup_at, if_neg (by omega), eI50, xup_at, if_neg (by omega), eI49, xup_at, if_neg (by omega), eI46, xup_at, if_neg (by omega), eI45, xup_at, if_neg (by omega), eI44, xup_at, if_neg (by omega), eI26, xup_at, if_neg (by omega), eI24, xup_at, if_neg (by omega), eI22, xup_at, if_neg (by omega), eI20, xup_at, if_neg (by omega), eI18, xup_at, if_neg (by omega), eI16, xup_at, if_neg (by omega), eI14, xup_at, if_neg (by omega), eI12, xup_at, if_neg (by omega), eI10, xup_at, if_neg (by omega), eI8, xup_at, if_neg (by omega), eI6, xup_at, if_neg (by omega), eI4, xup_at, if_neg (by omega)], fun q hq => by rw [eI54, xup_row _ _ hq, eI53, xup_row _ _ hq, eI50, xup_row _ _ hq, eI49, xup_row _ _ hq, eI46, xup_row _ _ hq, eI45, xup_row _ _ hq, eI44, xup_row _ _ hq, eI26, xup_row _ _ hq, eI24, xup_row _ _ hq, eI22, xup_row _ _ hq, eI20, xup_row _ _ hq, eI18, xup_row _ _ hq, eI16, xup_row _ _ hq, eI14, xup_row _ _ hq, eI12, xup_row _ _ hq, eI10, xup_row _ _ hq, eI8, xup_row _ _ hq, eI6, xup_row _ _ hq, eI4, xup_row _ _ hq], fun q hq => by rw [eL52, mwC_row _ _ hq, xup_row _ _ hq, eL48, mwC_row _ _ hq, xup_row _ _ hq]⟩
    rw [mvO_of (I54 (A + 1)) (50 + 12 * k) v0_ v1_ v2_ v3_ v4_ v5_ v6_ v7_ v8_ v9_ v10_ v11_]; rfl
theorem dX12_beginAll_0 : decode cX12_beginAll 0 = .ok (.bipush 50, 2) := by decide +kernel
theorem dX12_beginAll_2 : decode cX12_beginAll 2 = .ok (.istore_n 1, 1) := by decide +kernel
theorem dX12_beginAll_3 : decode cX12_beginAll 3 = .ok (.iload_n 1, 1) := by decide +kernel
theorem dX12_beginAll_4 : decode cX12_beginAll 4 = .ok (.sipush 158, 3) := by decide +kernel
theorem dX12_beginAll_7 : decode cX12_beginAll 7 = .ok (.if_icmp .ge 16, 3) := by decide +kernel
theorem dX12_beginAll_10 : decode cX12_beginAll 10 = .ok (.aload_n 0, 1) := by decide +kernel
theorem dX12_beginAll_11 : decode cX12_beginAll 11 = .ok (.getfield 7, 3) := by decide +kernel
theorem dX12_beginAll_14 : decode cX12_beginAll 14 = .ok (.iload_n 1, 1) := by decide +kernel
theorem dX12_beginAll_15 : decode cX12_beginAll 15 = .ok (.iconst 0, 1) := by decide +kernel
theorem dX12_beginAll_16 : decode cX12_beginAll 16 = .ok (.iastore, 1) := by decide +kernel
theorem dX12_beginAll_17 : decode cX12_beginAll 17 = .ok (.iinc 1 1, 3) := by decide +kernel
theorem dX12_beginAll_20 : decode cX12_beginAll 20 = .ok (.goto (-17), 3) := by decide +kernel
theorem dX12_beginAll_23 : decode cX12_beginAll 23 = .ok (.iconst 0, 1) := by decide +kernel
theorem dX12_beginAll_24 : decode cX12_beginAll 24 = .ok (.istore_n 1, 1) := by decide +kernel
theorem dX12_beginAll_25 : decode cX12_beginAll 25 = .ok (.iload_n 1, 1) := by decide +kernel
theorem dX12_beginAll_26 : decode cX12_beginAll 26 = .ok (.aload_n 0, 1) := by decide +kernel
theorem dX12_beginAll_27 : decode cX12_beginAll 27 = .ok (.invokevirtual 67, 3) := by decide +kernel
theorem dX12_beginAll_30 : decode cX12_beginAll 30 = .ok (.if_icmp .ge 19, 3) := by decide +kernel
theorem dX12_beginAll_33 : decode cX12_beginAll 33 = .ok (.aload_n 0, 1) := by decide +kernel
theorem dX12_beginAll_34 : decode cX12_beginAll 34 = .ok (.iload_n 1, 1) := by decide +kernel
theorem dX12_beginAll_35 : decode cX12_beginAll 35 = .ok (.aload_n 0, 1) := by decide +kernel
theorem dX12_beginAll_36 : decode cX12_beginAll 36 = .ok (.iconst 1, 1) := by decide +kernel
theorem dX12_beginAll_37 : decode cX12_beginAll 37 = .ok (.invokevirtual 119, 3) := by decide +kernel
theorem dX12_beginAll_40 : decode cX12_beginAll 40 = .ok (.invokevirtual 152, 3) := by decide +kernel
theorem dX12_beginAll_43 : decode cX12_beginAll 43 = .ok (.iinc 1 1, 3) := by decide +kernel
theorem dX12_beginAll_46 : decode cX12_beginAll 46 = .ok (.goto (-21), 3) := by decide +kernel
theorem dX12_beginAll_49 : decode cX12_beginAll 49 = .ok (.return_, 1) := by decide +kernel
set_option maxHeartbeats 1000000 in
set_option maxRecDepth 100000 in
theorem t_X12_beginAll (l : Launch) (D : xD) (z n : Nat) (G : xG) (I : xI) (L : xL) (A : Nat) (dx : Nat) (dy : Nat) (hM : shMo G A) (zA : z ≤ A) (hdx : I (A + 1) 40 = nI dx) (hdy : I (A + 1) 41 = nI dy) (hd1 : 1 ≤ dy) (hd3 : dx * dy ≤ 9) (hd0 : 1 ≤ dx) : xM0 l D z yX12_beginAll cX12_beginAll 2 none 4 93 [.ref A] n G I L (fun v' I' L' => v' = none ∧ (∀ k, k < dx * dy → mvO (I' (A + 1)) (50 + 12 * k) = mBg dx dy (I (A + 1) 42) (I (A + 1) 43) k) ∧ (∀ j, j < 50 → I' (A + 1) j = I (A + 1) j) ∧ (∀ q, q ≠ A + 1 → I' q = I q) ∧ (∀ q, q ≠ A → L' q = L q)) := by
  refine xM.of (by decide) (Nat.le_of_ble_eq_true rfl) (fun p e s m args below meth c C hnm hsz => ?_)
  refine x_lv [(0, .ref A)] rfl ?_
  refine x_bipush 0 C (v := 50) dX12_beginAll_0 rfl ?_
  refine x_istore_n 2 C [(1, .int 50), (0, .ref A)] dX12_beginAll_2 rfl (by decide) rfl ?_
  have loop3 : ∀ (fuel : Nat) (j0 : Nat) (Ik : xI), (50 ≤ j0 ∧ j0 ≤ 158) → (159 ≤ j0 + fuel) → (∀ j, j < 50 → Ik (A + 1) j = I (A + 1) j) → (∀ q, q ≠ A + 1 → Ik q = I q) → X p l e (xRm 4 93 0 0) s m args below meth c D z 2 (MQ below (xQc D z n (xN n G (fun v' I' L' => v' = none ∧ (∀ k, k < dx * dy → mvO (I' (A + 1)) (50 + 12 * k) = mBg dx dy (I (A + 1) 42) (I (A + 1) 43) k) ∧ (∀ j, j < 50 → I' (A + 1) j = I (A + 1) j) ∧ (∀ q, q ≠ A + 1 → I' q = I q) ∧ (∀ q, q ≠ A → L' q = L q)))) args s 0 0 (fun a => z ≤ a)) 0 0 n G Ik L 3 [(0, .ref A), (1, .int (nI j0))] [] := by
    intro fuel
    induction fuel with
    | zero =>
      intro j0 Ik hj hf hO1 hO2
      exact absurd hf (by omega)
    | succ fuel ih =>
      intro j0 Ik hj hf hO1 hO2
      refine x_iload_n 3 C dX12_beginAll_3 rfl 1 rfl ?_
      refine x_sipush 4 C (v := 158) dX12_beginAll_4 rfl ?_
      refine x_icmp_ge 7 C 23 dX12_beginAll_7 (by decide) (fun c1 => ?_) (fun c1 => ?_)
      · skip
        have c1n : 158 ≤ j0 := (nI_leI (a := 158) (b := j0) (by omega) (by omega)).mp c1
        have c1m : ¬ (j0 < 158) := by omega
        have c1o := Int32.not_lt.mpr c1
        refine x_iconst 23 C (v := 0) dX12_beginAll_23 rfl ?_
        refine x_istore_n 24 C [(1, .int 0), (0, .ref A)] dX12_beginAll_24 rfl (by decide) rfl ?_
        have loop25 : ∀ (fuel : Nat) (k : Nat) (Im : xI) (Lm : xL), (k ≤ dx * dy) → (dx * dy + 1 ≤ k + fuel) → (∀ i, i < k → mvO (Im (A + 1)) (50 + 12 * i) = mBg dx dy (I (A + 1) 42) (I (A + 1) 43) i) → (∀ j, j < 50 → Im (A + 1) j = I (A + 1) j) → (∀ q, q ≠ A + 1 → Im q = I q) → (∀ q, q ≠ A → Lm q = L q) → X p l e (xRm 4 93 0 0) s m args below meth c D z 2 (MQ below (xQc D z n (xN n G (fun v' I' L' => v' = none ∧ (∀ k, k < dx * dy → mvO (I' (A + 1)) (50 + 12 * k) = mBg dx dy (I (A + 1) 42) (I (A + 1) 43) k) ∧ (∀ j, j < 50 → I' (A + 1) j = I (A + 1) j) ∧ (∀ q, q ≠ A + 1 → I' q = I q) ∧ (∀ q, q ≠ A → L' q = L q)))) args s 0 0 (fun a => z ≤ a)) 0 0 n G Im Lm 25 [(0, .ref A), (1, .int (nI k))] [] := by
          intro fuel
          induction fuel with
          | zero =>
            intro k Im Lm hk hf2 hb hM1 hM2 hML
            exact absurd hf2 (by omega)
          | succ fuel ih =>
            intro k Im Lm hk hf2 hb hM1 hM2 hML
            refine x_iload_n 25 C dX12_beginAll_25 rfl 1 rfl ?_
            refine x_aload_n 26 C dX12_beginAll_26 rfl 0 rfl ?_
            refine x_callVe 27 C dX12_beginAll_27 (As := []) (rest := [.int (nI k)]) [.int (nI (dx * dy)), .int (nI k)] (t_X12_paths l D z n G Im Lm A dx dy hM (by rw [hM1 40 (by decide)]; exact hdx) (by rw [hM1 41 (by decide)]; exact hdy)) mt_X12_paths km_X12_67 ki_X12_paths ks_X12_paths hM.1 ⟨by decide, rfl⟩ rfl rfl (Nat.le_of_ble_eq_true rfl) ⟨⟨by decide, by decide⟩, by decide, by decide⟩ (fun I2 L3 eI2 eL3 => ?_)
            replace eI2 := eI2.symm; subst eI2
            replace eL3 := eL3.symm; subst eL3
            refine x_icmp_ge 30 C 49 dX12_beginAll_30 (by decide) (fun c4 => ?_) (fun c4 => ?_)
            · skip
              have c4n : (dx * dy) ≤ k := (nI_leI (a := (dx * dy)) (b := k) (by omega) (by omega)).mp c4
              have c4m : ¬ (k < (dx * dy)) := by omega
              have c4o := Int32.not_lt.mpr c4
              refine x_vret 49 C dX12_beginAll_49 rfl (Nat.le_refl _) (xN.intro ?_)
              have hkk : k = dx * dy := by omega
              subst hkk
              exact ⟨rfl, hb, hM1, hM2, hML⟩
            · skip
              have c4n : ¬ ((dx * dy) ≤ k) := fun h => c4 ((nI_leI (a := (dx * dy)) (b := k) (by omega) (by omega)).mpr h)
              have c4m : k < (dx * dy) := by omega
              have c4o := Int32.not_le.mp c4
              refine x_aload_n 33 C dX12_beginAll_33 rfl 0 rfl ?_
              refine x_iload_n 34 C dX12_beginAll_34 rfl 1 rfl ?_
              refine x_aload_n 35 C dX12_beginAll_35 rfl 0 rfl ?_
              refine x_iconst 36 C (v := 1) dX12_beginAll_36 rfl ?_
              refine x_callVe 37 C dX12_beginAll_37 (As := [.int 1]) (rest := [.int (nI k), .ref A]) [.int (Im (A + 1) (42 + 1)), .int (nI k), .ref A] (t_X12_setting l D z n G Im Lm A 1 hM (by first | omega | assumption | decide)) mt_X12_setting km_X12_119 ki_X12_setting ks_X12_setting hM.1 ⟨by decide, rfl⟩ rfl rfl (Nat.le_of_ble_eq_true rfl) ⟨⟨by decide, by decide⟩, by decide, by decide⟩ (fun I5 L6 eI5 eL6 => ?_)
              replace eI5 := eI5.symm; subst eI5
              replace eL6 := eL6.symm; subst eL6
              refine x_int (I (A + 1) 43) (hM1 43 (by decide)) ?_
              refine x_callVp 40 C dX12_beginAll_40 (As := [.int (nI k), .int (I (A + 1) 43)]) (rest := []) (t_X12_begins l D z n G Im Lm A k (I (A + 1) 43) dx dy hM (by omega) (by first | omega | assumption | decide) (by rw [hM1 40 (by decide)]; exact hdx) (by rw [hM1 41 (by decide)]; exact hdy) (by first | omega | assumption | decide) (by first | omega | assumption | decide) (by first | omega | assumption | decide)) mt_X12_begins km_X12_152 ki_X12_begins ks_X12_begins hM.1 ⟨by decide, rfl⟩ rfl (Nat.le_of_ble_eq_true rfl) ⟨⟨by decide, by decide⟩, by decide, by decide⟩ (fun w7 I8 L9 hw7 => ?_)
              obtain ⟨hw7v, hw7r0, hw7r1, hw7r2, hw7r3⟩ := hw7
              subst hw7v
              refine x_st [] rfl ?_
              refine x_iinc 43 C [(1, .int (nI (k + 1))), (0, .ref A)] dX12_beginAll_43 1 rfl (nI_add k 1) (by decide) rfl ?_
              refine x_goto 46 C 25 dX12_beginAll_46 (by decide) ?_
              refine x_sub [(0, .ref A), (1, .int (nI (k + 1)))] [1, 0] rfl ?_
              refine ih (k + 1) I8 L9 (by omega) (by omega) (fun i hi => ?_) (fun j hj => (hw7r1 j (by omega)).trans (hM1 j hj)) (fun q hq => (hw7r2 q hq).trans (hM2 q hq)) (fun q hq => (hw7r3 q hq).trans (hML q hq))
              by_cases hik : i = k
              · subst hik; rw [hw7r0, hM1 42 (by decide)]
              · rw [← hb i (by omega)]; exact mvO_congr (fun j hj => hw7r1 _ (by omega))
        refine x_sub [(0, .ref A), (1, .int 0)] [1, 0] rfl ?_
        exact loop25 (dx * dy + 1) 0 Ik L (by omega) (by omega) (fun i hi => absurd hi (by omega)) hO1 hO2 (fun _ _ => rfl)
      · skip
        have c1n : ¬ (158 ≤ j0) := fun h => c1 ((nI_leI (a := 158) (b := j0) (by omega) (by omega)).mpr h)
        have c1m : j0 < 158 := by omega
        have c1o := Int32.not_le.mp c1
        refine x_aload_n 10 C dX12_beginAll_10 rfl 0 rfl ?_
        refine x_getr 11 C (b := A + 1) dX12_beginAll_11 ff_X12_7 rfl hM.1 rfl ?_
        refine x_iload_n 14 C dX12_beginAll_14 rfl 1 rfl ?_
        refine x_iconst 15 C (v := 0) dX12_beginAll_15 rfl ?_
        refine x_iast 16 C (j := j0) dX12_beginAll_16 hM.2.1 (by omega) (xIx_nI (by omega) (by decide)) (fun I10 eI10 => ?_)
        refine x_iinc 17 C [(1, .int (nI (j0 + 1))), (0, .ref A)] dX12_beginAll_17 1 rfl (nI_add j0 1) (by decide) rfl ?_
        refine x_goto 20 C 3 dX12_beginAll_20 (by decide) ?_
        refine x_sub [(0, .ref A), (1, .int (nI (j0 + 1)))] [1, 0] rfl ?_
        exact ih (j0 + 1) I10 (by omega) (by omega) (fun j hj => by rw [eI10, xup_at, if_neg (by omega)]; exact hO1 j hj) (fun q hq => by rw [eI10, xup_row _ _ hq]; exact hO2 q hq)
  refine x_sub [(0, .ref A), (1, .int 50)] [1, 0] rfl ?_
  refine x_lv [(0, .ref A), (1, .int (nI 50))] rfl ?_
  exact loop3 159 50 I (by omega) (by omega) (fun _ _ => rfl) (fun _ _ => rfl)
theorem dX12_many_0 : decode cX12_many 0 = .ok (.iconst 0, 1) := by decide +kernel
theorem dX12_many_1 : decode cX12_many 1 = .ok (.istore_n 2, 1) := by decide +kernel
theorem dX12_many_2 : decode cX12_many 2 = .ok (.iconst 0, 1) := by decide +kernel
theorem dX12_many_3 : decode cX12_many 3 = .ok (.istore_n 3, 1) := by decide +kernel
theorem dX12_many_4 : decode cX12_many 4 = .ok (.iload_n 3, 1) := by decide +kernel
theorem dX12_many_5 : decode cX12_many 5 = .ok (.aload_n 0, 1) := by decide +kernel
theorem dX12_many_6 : decode cX12_many 6 = .ok (.invokevirtual 67, 3) := by decide +kernel
theorem dX12_many_9 : decode cX12_many 9 = .ok (.if_icmp .ge 32, 3) := by decide +kernel
theorem dX12_many_12 : decode cX12_many 12 = .ok (.iload_n 2, 1) := by decide +kernel
theorem dX12_many_13 : decode cX12_many 13 = .ok (.aload_n 0, 1) := by decide +kernel
theorem dX12_many_14 : decode cX12_many 14 = .ok (.getfield 7, 3) := by decide +kernel
theorem dX12_many_17 : decode cX12_many 17 = .ok (.iload_n 3, 1) := by decide +kernel
theorem dX12_many_18 : decode cX12_many 18 = .ok (.invokestatic 146, 3) := by decide +kernel
theorem dX12_many_21 : decode cX12_many 21 = .ok (.iconst 5, 1) := by decide +kernel
theorem dX12_many_22 : decode cX12_many 22 = .ok (.iadd, 1) := by decide +kernel
theorem dX12_many_23 : decode cX12_many 23 = .ok (.iaload, 1) := by decide +kernel
theorem dX12_many_24 : decode cX12_many 24 = .ok (.iload_n 1, 1) := by decide +kernel
theorem dX12_many_25 : decode cX12_many 25 = .ok (.if_icmp .ne 7, 3) := by decide +kernel
theorem dX12_many_28 : decode cX12_many 28 = .ok (.iconst 1, 1) := by decide +kernel
theorem dX12_many_29 : decode cX12_many 29 = .ok (.goto 4, 3) := by decide +kernel
theorem dX12_many_32 : decode cX12_many 32 = .ok (.iconst 0, 1) := by decide +kernel
theorem dX12_many_33 : decode cX12_many 33 = .ok (.iadd, 1) := by decide +kernel
theorem dX12_many_34 : decode cX12_many 34 = .ok (.istore_n 2, 1) := by decide +kernel
theorem dX12_many_35 : decode cX12_many 35 = .ok (.iinc 3 1, 3) := by decide +kernel
theorem dX12_many_38 : decode cX12_many 38 = .ok (.goto (-34), 3) := by decide +kernel
theorem dX12_many_41 : decode cX12_many 41 = .ok (.iload_n 2, 1) := by decide +kernel
theorem dX12_many_42 : decode cX12_many 42 = .ok (.ireturn, 1) := by decide +kernel
set_option maxHeartbeats 1000000 in
set_option maxRecDepth 100000 in
theorem t_X12_many (l : Launch) (D : xD) (z n : Nat) (G : xG) (I : xI) (L : xL) (A : Nat) (x : Int32) (dx : Nat) (dy : Nat) (hM : shMo G A) (hdx : I (A + 1) 40 = nI dx) (hdy : I (A + 1) 41 = nI dy) (hd3 : dx * dy ≤ 9) : xM0 l D z yX12_many cX12_many 4 (some .int) 1 20 [.ref A, .int x] n G I L (xE (some (.int (nI (cntN (fun i => decide (I (A + 1) (50 + 12 * i + 5) = x)) (dx * dy))))) I L) := by
  refine xM.of (by decide) (Nat.le_of_ble_eq_true rfl) (fun p e s m args below meth c C hnm hsz => ?_)
  refine x_lv [(0, .ref A), (1, .int x)] rfl ?_
  refine x_iconst 0 C (v := 0) dX12_many_0 rfl ?_
  refine x_istore_n 1 C [(2, .int 0), (0, .ref A), (1, .int x)] dX12_many_1 rfl (by decide) rfl ?_
  refine x_iconst 2 C (v := 0) dX12_many_2 rfl ?_
  refine x_istore_n 3 C [(3, .int 0), (2, .int 0), (0, .ref A), (1, .int x)] dX12_many_3 rfl (by decide) rfl ?_
  have loop4 : ∀ (fuel : Nat) (k : Nat), (k ≤ dx * dy) → (dx * dy + 1 ≤ k + fuel) → X p l e (xRm 1 20 0 0) s m args below meth c D z 4 (MQ below (xQc D z n (xN n G (xE (some (.int (nI (cntN (fun i => decide (I (A + 1) (50 + 12 * i + 5) = x)) (dx * dy))))) I L))) args s 0 0 (fun a => z ≤ a)) 0 0 n G I L 4 [(0, .ref A), (1, .int x), (2, .int (nI (cntN (fun i => decide (I (A + 1) (50 + 12 * i + 5) = x)) k))), (3, .int (nI k))] [] := by
    intro fuel
    induction fuel with
    | zero =>
      intro k hk hf
      exact absurd hf (by omega)
    | succ fuel ih =>
      intro k hk hf
      refine x_iload_n 4 C dX12_many_4 rfl 3 rfl ?_
      refine x_aload_n 5 C dX12_many_5 rfl 0 rfl ?_
      refine x_callVe 6 C dX12_many_6 (As := []) (rest := [.int (nI k)]) [.int (nI (dx * dy)), .int (nI k)] (t_X12_paths l D z n G I L A dx dy hM hdx hdy) mt_X12_paths km_X12_67 ki_X12_paths ks_X12_paths hM.1 ⟨by decide, rfl⟩ rfl rfl (Nat.le_of_ble_eq_true rfl) ⟨⟨by decide, by decide⟩, by decide, by decide⟩ (fun I1 L2 eI1 eL2 => ?_)
      replace eI1 := eI1.symm; subst eI1
      replace eL2 := eL2.symm; subst eL2
      refine x_icmp_ge 9 C 41 dX12_many_9 (by decide) (fun c3 => ?_) (fun c3 => ?_)
      · skip
        have c3n : (dx * dy) ≤ k := (nI_leI (a := (dx * dy)) (b := k) (by omega) (by omega)).mp c3
        have c3m : ¬ (k < (dx * dy)) := by omega
        have c3o := Int32.not_lt.mpr c3
        refine x_iload_n 41 C dX12_many_41 rfl 2 rfl ?_
        refine x_iret 42 C dX12_many_42 rfl rfl (Nat.le_refl _) (xN.intro ?_)
        have hkk : k = dx * dy := by omega
        subst hkk
        exact ⟨rfl, rfl, rfl⟩
      · skip
        have c3n : ¬ ((dx * dy) ≤ k) := fun h => c3 ((nI_leI (a := (dx * dy)) (b := k) (by omega) (by omega)).mpr h)
        have c3m : k < (dx * dy) := by omega
        have c3o := Int32.not_le.mp c3
        refine x_iload_n 12 C dX12_many_12 rfl 2 rfl ?_
        refine x_aload_n 13 C dX12_many_13 rfl 0 rfl ?_
        refine x_getr 14 C (b := A + 1) dX12_many_14 ff_X12_7 rfl hM.1 rfl ?_
        refine x_iload_n 17 C dX12_many_17 rfl 3 rfl ?_
        refine x_callSe 18 C dX12_many_18 (As := [.int (nI k)]) (rest := [.ref (A + 1), .int (nI (cntN (fun i => decide (I (A + 1) (50 + 12 * i + 5) = x)) k))]) [.int (nI (50 + 12 * k)), .ref (A + 1), .int (nI (cntN (fun i => decide (I (A + 1) (50 + 12 * i + 5) = x)) k))] (t_X12_pathAt l D z n G I L k (by first | omega | assumption | decide)) mt_X12_pathAt km_X12_146 kt_X12_pathAt rfl rfl (Nat.le_of_ble_eq_true rfl) ⟨⟨by decide, by decide⟩, by decide, by decide⟩ (fun I4 L5 eI4 eL5 => ?_)
        replace eI4 := eI4.symm; subst eI4
        replace eL5 := eL5.symm; subst eL5
        refine x_iconst 21 C (v := 5) dX12_many_21 rfl ?_
        refine x_iadd 22 C dX12_many_22 ?_
        refine x_int (nI (50 + 12 * k + 5)) (nI_add (50 + 12 * k) 5) ?_
        refine x_iald 23 C (j := (50 + 12 * k + 5)) dX12_many_23 hM.2.1 (xIx_nI (by omega) (by decide)) ?_
        refine x_iload_n 24 C dX12_many_24 rfl 1 rfl ?_
        refine x_icmp_ne 25 C 32 dX12_many_25 (by decide) (fun c6 => ?_) (fun c6 => ?_)
        · skip
          refine x_iconst 32 C (v := 0) dX12_many_32 rfl ?_
          refine x_iadd 33 C dX12_many_33 ?_
          refine x_int (nI (cntN (fun i => decide (I (A + 1) (50 + 12 * i + 5) = x)) k + 0)) (nI_add (cntN (fun i => decide (I (A + 1) (50 + 12 * i + 5) = x)) k) 0) ?_
          refine x_istore_n 34 C [(2, .int (nI (cntN (fun i => decide (I (A + 1) (50 + 12 * i + 5) = x)) k + 0))), (0, .ref A), (1, .int x), (3, .int (nI k))] dX12_many_34 rfl (by decide) rfl ?_
          refine x_iinc 35 C [(3, .int (nI (k + 1))), (2, .int (nI (cntN (fun i => decide (I (A + 1) (50 + 12 * i + 5) = x)) k + 0))), (0, .ref A), (1, .int x)] dX12_many_35 3 rfl (nI_add k 1) (by decide) rfl ?_
          refine x_goto 38 C 4 dX12_many_38 (by decide) ?_
          refine x_sub [(0, .ref A), (1, .int x), (2, .int (nI (cntN (fun i => decide (I (A + 1) (50 + 12 * i + 5) = x)) k + 0))), (3, .int (nI (k + 1)))] [2, 3, 1, 0] rfl ?_
          refine x_lv [(0, .ref A), (1, .int x), (2, .int (nI (cntN (fun i => decide (I (A + 1) (50 + 12 * i + 5) = x)) (k + 1)))), (3, .int (nI (k + 1)))] (by simp [cntN, c3, c3n, c3m, c3o, c6]) ?_
          exact ih (k + 1) (by omega) (by omega)
        · skip
          refine x_iconst 28 C (v := 1) dX12_many_28 rfl ?_
          refine x_goto 29 C 33 dX12_many_29 (by decide) ?_
          refine x_iadd 33 C dX12_many_33 ?_
          refine x_int (nI (cntN (fun i => decide (I (A + 1) (50 + 12 * i + 5) = x)) k + 1)) (nI_add (cntN (fun i => decide (I (A + 1) (50 + 12 * i + 5) = x)) k) 1) ?_
          refine x_istore_n 34 C [(2, .int (nI (cntN (fun i => decide (I (A + 1) (50 + 12 * i + 5) = x)) k + 1))), (0, .ref A), (1, .int x), (3, .int (nI k))] dX12_many_34 rfl (by decide) rfl ?_
          refine x_iinc 35 C [(3, .int (nI (k + 1))), (2, .int (nI (cntN (fun i => decide (I (A + 1) (50 + 12 * i + 5) = x)) k + 1))), (0, .ref A), (1, .int x)] dX12_many_35 3 rfl (nI_add k 1) (by decide) rfl ?_
          refine x_goto 38 C 4 dX12_many_38 (by decide) ?_
          refine x_sub [(0, .ref A), (1, .int x), (2, .int (nI (cntN (fun i => decide (I (A + 1) (50 + 12 * i + 5) = x)) k + 1))), (3, .int (nI (k + 1)))] [2, 3, 1, 0] rfl ?_
          refine x_lv [(0, .ref A), (1, .int x), (2, .int (nI (cntN (fun i => decide (I (A + 1) (50 + 12 * i + 5) = x)) (k + 1)))), (3, .int (nI (k + 1)))] (by simp [cntN, c3, c3n, c3m, c3o, c6]) ?_
          exact ih (k + 1) (by omega) (by omega)
  refine x_sub [(0, .ref A), (1, .int x), (2, .int 0), (3, .int 0)] [2, 3, 1, 0] rfl ?_
  exact loop4 (dx * dy + 1) 0 (by omega) (by omega)
theorem dX12_thousandths_0 : decode cX12_thousandths 0 = .ok (.iload_n 1, 1) := by decide +kernel
theorem dX12_thousandths_1 : decode cX12_thousandths 1 = .ok (.invokestatic 146, 3) := by decide +kernel
theorem dX12_thousandths_4 : decode cX12_thousandths 4 = .ok (.istore_n 3, 1) := by decide +kernel
theorem dX12_thousandths_5 : decode cX12_thousandths 5 = .ok (.ldc2_w 210, 3) := by decide +kernel
theorem dX12_thousandths_8 : decode cX12_thousandths 8 = .ok (.aload_n 0, 1) := by decide +kernel
theorem dX12_thousandths_9 : decode cX12_thousandths 9 = .ok (.getfield 7, 3) := by decide +kernel
theorem dX12_thousandths_12 : decode cX12_thousandths 12 = .ok (.iload_n 3, 1) := by decide +kernel
theorem dX12_thousandths_13 : decode cX12_thousandths 13 = .ok (.bipush 8, 2) := by decide +kernel
theorem dX12_thousandths_15 : decode cX12_thousandths 15 = .ok (.iadd, 1) := by decide +kernel
theorem dX12_thousandths_16 : decode cX12_thousandths 16 = .ok (.iload_n 2, 1) := by decide +kernel
theorem dX12_thousandths_17 : decode cX12_thousandths 17 = .ok (.iadd, 1) := by decide +kernel
theorem dX12_thousandths_18 : decode cX12_thousandths 18 = .ok (.iaload, 1) := by decide +kernel
theorem dX12_thousandths_19 : decode cX12_thousandths 19 = .ok (.i2l, 1) := by decide +kernel
theorem dX12_thousandths_20 : decode cX12_thousandths 20 = .ok (.lmul, 1) := by decide +kernel
theorem dX12_thousandths_21 : decode cX12_thousandths 21 = .ok (.lconst 1, 1) := by decide +kernel
theorem dX12_thousandths_22 : decode cX12_thousandths 22 = .ok (.aload_n 0, 1) := by decide +kernel
theorem dX12_thousandths_23 : decode cX12_thousandths 23 = .ok (.getfield 7, 3) := by decide +kernel
theorem dX12_thousandths_26 : decode cX12_thousandths 26 = .ok (.iload_n 3, 1) := by decide +kernel
theorem dX12_thousandths_27 : decode cX12_thousandths 27 = .ok (.iconst 3, 1) := by decide +kernel
theorem dX12_thousandths_28 : decode cX12_thousandths 28 = .ok (.iadd, 1) := by decide +kernel
theorem dX12_thousandths_29 : decode cX12_thousandths 29 = .ok (.iaload, 1) := by decide +kernel
theorem dX12_thousandths_30 : decode cX12_thousandths 30 = .ok (.lshl, 1) := by decide +kernel
theorem dX12_thousandths_31 : decode cX12_thousandths 31 = .ok (.ldiv, 1) := by decide +kernel
theorem dX12_thousandths_32 : decode cX12_thousandths 32 = .ok (.l2i, 1) := by decide +kernel
theorem dX12_thousandths_33 : decode cX12_thousandths 33 = .ok (.ireturn, 1) := by decide +kernel
set_option maxHeartbeats 1000000 in
set_option maxRecDepth 100000 in
theorem t_X12_thousandths (l : Launch) (D : xD) (z n : Nat) (G : xG) (I : xI) (L : xL) (A : Nat) (k : Nat) (j : Nat) (hM : shMo G A) (hk : k < 9) (hj : j < 4) (hpr : I (A + 1) (50 + 12 * k + 3) = 10 ∨ I (A + 1) (50 + 12 * k + 3) = 18) : xM0 l D z yX12_thousandths cX12_thousandths 4 (some .int) 1 20 [.ref A, .int (nI k), .int (nI j)] n G I L (xE (some (.int (vpt (mvO (I (A + 1)) (50 + 12 * k)) j))) I L) := by
  refine xM.of (by decide) (Nat.le_of_ble_eq_true rfl) (fun p e s m args below meth c C hnm hsz => ?_)
  refine x_lv [(0, .ref A), (1, .int (nI k)), (2, .int (nI j))] rfl ?_
  rcases (show j = 0 ∨ j = 1 ∨ j = 2 ∨ j = 3 by omega) with rfl | rfl | rfl | rfl
  · skip
    refine x_iload_n 0 C dX12_thousandths_0 rfl 1 rfl ?_
    refine x_callSe 1 C dX12_thousandths_1 (As := [.int (nI k)]) (rest := []) [.int (nI (50 + 12 * k))] (t_X12_pathAt l D z n G I L k (by first | omega | assumption | decide)) mt_X12_pathAt km_X12_146 kt_X12_pathAt rfl rfl (Nat.le_of_ble_eq_true rfl) ⟨⟨by decide, by decide⟩, by decide, by decide⟩ (fun I1 L2 eI1 eL2 => ?_)
    replace eI1 := eI1.symm; subst eI1
    replace eL2 := eL2.symm; subst eL2
    refine x_istore_n 4 C [(3, .int (nI (50 + 12 * k))), (0, .ref A), (1, .int (nI k)), (2, .int (nI 0))] dX12_thousandths_4 rfl (by decide) rfl ?_
    refine x_ldc2 5 C 1000 dX12_thousandths_5 kk_X12_210 ?_
    refine x_aload_n 8 C dX12_thousandths_8 rfl 1 rfl ?_
    refine x_getr 9 C (b := A + 1) dX12_thousandths_9 ff_X12_7 rfl hM.1 rfl ?_
    refine x_iload_n 12 C dX12_thousandths_12 rfl 0 rfl ?_
    refine x_bipush 13 C (v := 8) dX12_thousandths_13 rfl ?_
    refine x_iadd 15 C dX12_thousandths_15 ?_
    refine x_int (nI (50 + 12 * k + 8)) (nI_add (50 + 12 * k) 8) ?_
    refine x_iload_n 16 C dX12_thousandths_16 rfl 3 rfl ?_
    refine x_iadd 17 C dX12_thousandths_17 ?_
    refine x_int (nI (50 + 12 * k + 8 + 0)) (nI_add (50 + 12 * k + 8) 0) ?_
    refine x_iald 18 C (j := (50 + 12 * k + 8 + 0)) dX12_thousandths_18 hM.2.1 (xIx_nI (by omega) (by decide)) ?_
    refine x_i2l 19 C dX12_thousandths_19 ?_
    refine x_lmul 20 C dX12_thousandths_20 ?_
    refine x_lconst 21 C (v := 1) dX12_thousandths_21 rfl ?_
    refine x_aload_n 22 C dX12_thousandths_22 rfl 1 rfl ?_
    refine x_getr 23 C (b := A + 1) dX12_thousandths_23 ff_X12_7 rfl hM.1 rfl ?_
    refine x_iload_n 26 C dX12_thousandths_26 rfl 0 rfl ?_
    refine x_iconst 27 C (v := 3) dX12_thousandths_27 rfl ?_
    refine x_iadd 28 C dX12_thousandths_28 ?_
    refine x_int (nI (50 + 12 * k + 3)) (nI_add (50 + 12 * k) 3) ?_
    refine x_iald 29 C (j := (50 + 12 * k + 3)) dX12_thousandths_29 hM.2.1 (xIx_nI (by omega) (by decide)) ?_
    refine x_lshl 30 C dX12_thousandths_30 ?_
    refine x_long (punit (I (A + 1) (50 + 12 * k + 3))) (pun_of hpr) ?_
    refine x_ldiv 31 C dX12_thousandths_31 (punit_nz _) ?_
    refine x_l2i 32 C dX12_thousandths_32 ?_
    refine x_iret 33 C dX12_thousandths_33 rfl rfl (Nat.le_refl _) (xN.intro ?_)
    exact ⟨congrArg (fun x => some (Value.int x)) (cthou_of (punit_nz _)), rfl, rfl⟩
  · skip
    refine x_iload_n 0 C dX12_thousandths_0 rfl 1 rfl ?_
    refine x_callSe 1 C dX12_thousandths_1 (As := [.int (nI k)]) (rest := []) [.int (nI (50 + 12 * k))] (t_X12_pathAt l D z n G I L k (by first | omega | assumption | decide)) mt_X12_pathAt km_X12_146 kt_X12_pathAt rfl rfl (Nat.le_of_ble_eq_true rfl) ⟨⟨by decide, by decide⟩, by decide, by decide⟩ (fun I3 L4 eI3 eL4 => ?_)
    replace eI3 := eI3.symm; subst eI3
    replace eL4 := eL4.symm; subst eL4
    refine x_istore_n 4 C [(3, .int (nI (50 + 12 * k))), (0, .ref A), (1, .int (nI k)), (2, .int (nI 1))] dX12_thousandths_4 rfl (by decide) rfl ?_
    refine x_ldc2 5 C 1000 dX12_thousandths_5 kk_X12_210 ?_
    refine x_aload_n 8 C dX12_thousandths_8 rfl 1 rfl ?_
    refine x_getr 9 C (b := A + 1) dX12_thousandths_9 ff_X12_7 rfl hM.1 rfl ?_
    refine x_iload_n 12 C dX12_thousandths_12 rfl 0 rfl ?_
    refine x_bipush 13 C (v := 8) dX12_thousandths_13 rfl ?_
    refine x_iadd 15 C dX12_thousandths_15 ?_
    refine x_int (nI (50 + 12 * k + 8)) (nI_add (50 + 12 * k) 8) ?_
    refine x_iload_n 16 C dX12_thousandths_16 rfl 3 rfl ?_
    refine x_iadd 17 C dX12_thousandths_17 ?_
    refine x_int (nI (50 + 12 * k + 8 + 1)) (nI_add (50 + 12 * k + 8) 1) ?_
    refine x_iald 18 C (j := (50 + 12 * k + 8 + 1)) dX12_thousandths_18 hM.2.1 (xIx_nI (by omega) (by decide)) ?_
    refine x_i2l 19 C dX12_thousandths_19 ?_
    refine x_lmul 20 C dX12_thousandths_20 ?_
    refine x_lconst 21 C (v := 1) dX12_thousandths_21 rfl ?_
    refine x_aload_n 22 C dX12_thousandths_22 rfl 1 rfl ?_
    refine x_getr 23 C (b := A + 1) dX12_thousandths_23 ff_X12_7 rfl hM.1 rfl ?_
    refine x_iload_n 26 C dX12_thousandths_26 rfl 0 rfl ?_
    refine x_iconst 27 C (v := 3) dX12_thousandths_27 rfl ?_
    refine x_iadd 28 C dX12_thousandths_28 ?_
    refine x_int (nI (50 + 12 * k + 3)) (nI_add (50 + 12 * k) 3) ?_
    refine x_iald 29 C (j := (50 + 12 * k + 3)) dX12_thousandths_29 hM.2.1 (xIx_nI (by omega) (by decide)) ?_
    refine x_lshl 30 C dX12_thousandths_30 ?_
    refine x_long (punit (I (A + 1) (50 + 12 * k + 3))) (pun_of hpr) ?_
    refine x_ldiv 31 C dX12_thousandths_31 (punit_nz _) ?_
    refine x_l2i 32 C dX12_thousandths_32 ?_
    refine x_iret 33 C dX12_thousandths_33 rfl rfl (Nat.le_refl _) (xN.intro ?_)
    exact ⟨congrArg (fun x => some (Value.int x)) (cthou_of (punit_nz _)), rfl, rfl⟩
  · skip
    refine x_iload_n 0 C dX12_thousandths_0 rfl 1 rfl ?_
    refine x_callSe 1 C dX12_thousandths_1 (As := [.int (nI k)]) (rest := []) [.int (nI (50 + 12 * k))] (t_X12_pathAt l D z n G I L k (by first | omega | assumption | decide)) mt_X12_pathAt km_X12_146 kt_X12_pathAt rfl rfl (Nat.le_of_ble_eq_true rfl) ⟨⟨by decide, by decide⟩, by decide, by decide⟩ (fun I5 L6 eI5 eL6 => ?_)
    replace eI5 := eI5.symm; subst eI5
    replace eL6 := eL6.symm; subst eL6
    refine x_istore_n 4 C [(3, .int (nI (50 + 12 * k))), (0, .ref A), (1, .int (nI k)), (2, .int (nI 2))] dX12_thousandths_4 rfl (by decide) rfl ?_
    refine x_ldc2 5 C 1000 dX12_thousandths_5 kk_X12_210 ?_
    refine x_aload_n 8 C dX12_thousandths_8 rfl 1 rfl ?_
    refine x_getr 9 C (b := A + 1) dX12_thousandths_9 ff_X12_7 rfl hM.1 rfl ?_
    refine x_iload_n 12 C dX12_thousandths_12 rfl 0 rfl ?_
    refine x_bipush 13 C (v := 8) dX12_thousandths_13 rfl ?_
    refine x_iadd 15 C dX12_thousandths_15 ?_
    refine x_int (nI (50 + 12 * k + 8)) (nI_add (50 + 12 * k) 8) ?_
    refine x_iload_n 16 C dX12_thousandths_16 rfl 3 rfl ?_
    refine x_iadd 17 C dX12_thousandths_17 ?_
    refine x_int (nI (50 + 12 * k + 8 + 2)) (nI_add (50 + 12 * k + 8) 2) ?_
    refine x_iald 18 C (j := (50 + 12 * k + 8 + 2)) dX12_thousandths_18 hM.2.1 (xIx_nI (by omega) (by decide)) ?_
    refine x_i2l 19 C dX12_thousandths_19 ?_
    refine x_lmul 20 C dX12_thousandths_20 ?_
    refine x_lconst 21 C (v := 1) dX12_thousandths_21 rfl ?_
    refine x_aload_n 22 C dX12_thousandths_22 rfl 1 rfl ?_
    refine x_getr 23 C (b := A + 1) dX12_thousandths_23 ff_X12_7 rfl hM.1 rfl ?_
    refine x_iload_n 26 C dX12_thousandths_26 rfl 0 rfl ?_
    refine x_iconst 27 C (v := 3) dX12_thousandths_27 rfl ?_
    refine x_iadd 28 C dX12_thousandths_28 ?_
    refine x_int (nI (50 + 12 * k + 3)) (nI_add (50 + 12 * k) 3) ?_
    refine x_iald 29 C (j := (50 + 12 * k + 3)) dX12_thousandths_29 hM.2.1 (xIx_nI (by omega) (by decide)) ?_
    refine x_lshl 30 C dX12_thousandths_30 ?_
    refine x_long (punit (I (A + 1) (50 + 12 * k + 3))) (pun_of hpr) ?_
    refine x_ldiv 31 C dX12_thousandths_31 (punit_nz _) ?_
    refine x_l2i 32 C dX12_thousandths_32 ?_
    refine x_iret 33 C dX12_thousandths_33 rfl rfl (Nat.le_refl _) (xN.intro ?_)
    exact ⟨congrArg (fun x => some (Value.int x)) (cthou_of (punit_nz _)), rfl, rfl⟩
  · skip
    refine x_iload_n 0 C dX12_thousandths_0 rfl 1 rfl ?_
    refine x_callSe 1 C dX12_thousandths_1 (As := [.int (nI k)]) (rest := []) [.int (nI (50 + 12 * k))] (t_X12_pathAt l D z n G I L k (by first | omega | assumption | decide)) mt_X12_pathAt km_X12_146 kt_X12_pathAt rfl rfl (Nat.le_of_ble_eq_true rfl) ⟨⟨by decide, by decide⟩, by decide, by decide⟩ (fun I7 L8 eI7 eL8 => ?_)
    replace eI7 := eI7.symm; subst eI7
    replace eL8 := eL8.symm; subst eL8
    refine x_istore_n 4 C [(3, .int (nI (50 + 12 * k))), (0, .ref A), (1, .int (nI k)), (2, .int (nI 3))] dX12_thousandths_4 rfl (by decide) rfl ?_
    refine x_ldc2 5 C 1000 dX12_thousandths_5 kk_X12_210 ?_
    refine x_aload_n 8 C dX12_thousandths_8 rfl 1 rfl ?_
    refine x_getr 9 C (b := A + 1) dX12_thousandths_9 ff_X12_7 rfl hM.1 rfl ?_
    refine x_iload_n 12 C dX12_thousandths_12 rfl 0 rfl ?_
    refine x_bipush 13 C (v := 8) dX12_thousandths_13 rfl ?_
    refine x_iadd 15 C dX12_thousandths_15 ?_
    refine x_int (nI (50 + 12 * k + 8)) (nI_add (50 + 12 * k) 8) ?_
    refine x_iload_n 16 C dX12_thousandths_16 rfl 3 rfl ?_
    refine x_iadd 17 C dX12_thousandths_17 ?_
    refine x_int (nI (50 + 12 * k + 8 + 3)) (nI_add (50 + 12 * k + 8) 3) ?_
    refine x_iald 18 C (j := (50 + 12 * k + 8 + 3)) dX12_thousandths_18 hM.2.1 (xIx_nI (by omega) (by decide)) ?_
    refine x_i2l 19 C dX12_thousandths_19 ?_
    refine x_lmul 20 C dX12_thousandths_20 ?_
    refine x_lconst 21 C (v := 1) dX12_thousandths_21 rfl ?_
    refine x_aload_n 22 C dX12_thousandths_22 rfl 1 rfl ?_
    refine x_getr 23 C (b := A + 1) dX12_thousandths_23 ff_X12_7 rfl hM.1 rfl ?_
    refine x_iload_n 26 C dX12_thousandths_26 rfl 0 rfl ?_
    refine x_iconst 27 C (v := 3) dX12_thousandths_27 rfl ?_
    refine x_iadd 28 C dX12_thousandths_28 ?_
    refine x_int (nI (50 + 12 * k + 3)) (nI_add (50 + 12 * k) 3) ?_
    refine x_iald 29 C (j := (50 + 12 * k + 3)) dX12_thousandths_29 hM.2.1 (xIx_nI (by omega) (by decide)) ?_
    refine x_lshl 30 C dX12_thousandths_30 ?_
    refine x_long (punit (I (A + 1) (50 + 12 * k + 3))) (pun_of hpr) ?_
    refine x_ldiv 31 C dX12_thousandths_31 (punit_nz _) ?_
    refine x_l2i 32 C dX12_thousandths_32 ?_
    refine x_iret 33 C dX12_thousandths_33 rfl rfl (Nat.le_refl _) (xN.intro ?_)
    exact ⟨congrArg (fun x => some (Value.int x)) (cthou_of (punit_nz _)), rfl, rfl⟩
