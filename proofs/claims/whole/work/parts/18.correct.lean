theorem dX3_correct_0 : decode cX3_correct 0 = .ok (.lconst 0, 1) := by decide +kernel
theorem dX3_correct_1 : decode cX3_correct 1 = .ok (.lstore 4, 2) := by decide +kernel
theorem dX3_correct_3 : decode cX3_correct 3 = .ok (.iconst 0, 1) := by decide +kernel
theorem dX3_correct_4 : decode cX3_correct 4 = .ok (.istore 6, 2) := by decide +kernel
theorem dX3_correct_6 : decode cX3_correct 6 = .ok (.iload 6, 2) := by decide +kernel
theorem dX3_correct_8 : decode cX3_correct 8 = .ok (.aload_n 0, 1) := by decide +kernel
theorem dX3_correct_9 : decode cX3_correct 9 = .ok (.getfield 47, 3) := by decide +kernel
theorem dX3_correct_12 : decode cX3_correct 12 = .ok (.if_icmp .ge 150, 3) := by decide +kernel
theorem dX3_correct_15 : decode cX3_correct 15 = .ok (.aload_n 0, 1) := by decide +kernel
theorem dX3_correct_16 : decode cX3_correct 16 = .ok (.getfield 10, 3) := by decide +kernel
theorem dX3_correct_19 : decode cX3_correct 19 = .ok (.aload_n 0, 1) := by decide +kernel
theorem dX3_correct_20 : decode cX3_correct 20 = .ok (.getfield 26, 3) := by decide +kernel
theorem dX3_correct_23 : decode cX3_correct 23 = .ok (.aload_n 0, 1) := by decide +kernel
theorem dX3_correct_24 : decode cX3_correct 24 = .ok (.getfield 30, 3) := by decide +kernel
theorem dX3_correct_27 : decode cX3_correct 27 = .ok (.iload_n 1, 1) := by decide +kernel
theorem dX3_correct_28 : decode cX3_correct 28 = .ok (.lload_n 2, 1) := by decide +kernel
theorem dX3_correct_29 : decode cX3_correct 29 = .ok (.invokevirtual 99, 3) := by decide +kernel
theorem dX3_correct_32 : decode cX3_correct 32 = .ok (.aload_n 0, 1) := by decide +kernel
theorem dX3_correct_33 : decode cX3_correct 33 = .ok (.getfield 19, 3) := by decide +kernel
theorem dX3_correct_36 : decode cX3_correct 36 = .ok (.getfield 103, 3) := by decide +kernel
theorem dX3_correct_39 : decode cX3_correct 39 = .ok (.aload_n 0, 1) := by decide +kernel
theorem dX3_correct_40 : decode cX3_correct 40 = .ok (.getfield 10, 3) := by decide +kernel
theorem dX3_correct_43 : decode cX3_correct 43 = .ok (.iconst 0, 1) := by decide +kernel
theorem dX3_correct_44 : decode cX3_correct 44 = .ok (.invokevirtual 131, 3) := by decide +kernel
theorem dX3_correct_47 : decode cX3_correct 47 = .ok (.getfield 110, 3) := by decide +kernel
theorem dX3_correct_50 : decode cX3_correct 50 = .ok (.invokevirtual 138, 3) := by decide +kernel
theorem dX3_correct_53 : decode cX3_correct 53 = .ok (.aload_n 0, 1) := by decide +kernel
theorem dX3_correct_54 : decode cX3_correct 54 = .ok (.getfield 19, 3) := by decide +kernel
theorem dX3_correct_57 : decode cX3_correct 57 = .ok (.getfield 128, 3) := by decide +kernel
theorem dX3_correct_60 : decode cX3_correct 60 = .ok (.aload_n 0, 1) := by decide +kernel
theorem dX3_correct_61 : decode cX3_correct 61 = .ok (.getfield 10, 3) := by decide +kernel
theorem dX3_correct_64 : decode cX3_correct 64 = .ok (.iconst 1, 1) := by decide +kernel
theorem dX3_correct_65 : decode cX3_correct 65 = .ok (.invokevirtual 131, 3) := by decide +kernel
theorem dX3_correct_68 : decode cX3_correct 68 = .ok (.getfield 110, 3) := by decide +kernel
theorem dX3_correct_71 : decode cX3_correct 71 = .ok (.invokevirtual 138, 3) := by decide +kernel
theorem dX3_correct_74 : decode cX3_correct 74 = .ok (.aload_n 0, 1) := by decide +kernel
theorem dX3_correct_75 : decode cX3_correct 75 = .ok (.getfield 19, 3) := by decide +kernel
theorem dX3_correct_78 : decode cX3_correct 78 = .ok (.aload_n 0, 1) := by decide +kernel
theorem dX3_correct_79 : decode cX3_correct 79 = .ok (.getfield 10, 3) := by decide +kernel
theorem dX3_correct_82 : decode cX3_correct 82 = .ok (.iconst 0, 1) := by decide +kernel
theorem dX3_correct_83 : decode cX3_correct 83 = .ok (.invokevirtual 131, 3) := by decide +kernel
theorem dX3_correct_86 : decode cX3_correct 86 = .ok (.aload_n 0, 1) := by decide +kernel
theorem dX3_correct_87 : decode cX3_correct 87 = .ok (.getfield 10, 3) := by decide +kernel
theorem dX3_correct_90 : decode cX3_correct 90 = .ok (.iconst 1, 1) := by decide +kernel
theorem dX3_correct_91 : decode cX3_correct 91 = .ok (.invokevirtual 131, 3) := by decide +kernel
theorem dX3_correct_94 : decode cX3_correct 94 = .ok (.aload_n 0, 1) := by decide +kernel
theorem dX3_correct_95 : decode cX3_correct 95 = .ok (.getfield 26, 3) := by decide +kernel
theorem dX3_correct_98 : decode cX3_correct 98 = .ok (.aload_n 0, 1) := by decide +kernel
theorem dX3_correct_99 : decode cX3_correct 99 = .ok (.getfield 30, 3) := by decide +kernel
theorem dX3_correct_102 : decode cX3_correct 102 = .ok (.lload_n 2, 1) := by decide +kernel
theorem dX3_correct_103 : decode cX3_correct 103 = .ok (.invokevirtual 134, 3) := by decide +kernel
theorem dX3_correct_106 : decode cX3_correct 106 = .ok (.ifCond .ne 5, 3) := by decide +kernel
theorem dX3_correct_109 : decode cX3_correct 109 = .ok (.iconst 0, 1) := by decide +kernel
theorem dX3_correct_110 : decode cX3_correct 110 = .ok (.ireturn, 1) := by decide +kernel
theorem dX3_correct_111 : decode cX3_correct 111 = .ok (.aload_n 0, 1) := by decide +kernel
theorem dX3_correct_112 : decode cX3_correct 112 = .ok (.getfield 19, 3) := by decide +kernel
theorem dX3_correct_115 : decode cX3_correct 115 = .ok (.invokevirtual 141, 3) := by decide +kernel
theorem dX3_correct_118 : decode cX3_correct 118 = .ok (.lstore 7, 2) := by decide +kernel
theorem dX3_correct_120 : decode cX3_correct 120 = .ok (.lload 7, 2) := by decide +kernel
theorem dX3_correct_122 : decode cX3_correct 122 = .ok (.aload_n 0, 1) := by decide +kernel
theorem dX3_correct_123 : decode cX3_correct 123 = .ok (.getfield 50, 3) := by decide +kernel
theorem dX3_correct_126 : decode cX3_correct 126 = .ok (.i2l, 1) := by decide +kernel
theorem dX3_correct_127 : decode cX3_correct 127 = .ok (.lcmp, 1) := by decide +kernel
theorem dX3_correct_128 : decode cX3_correct 128 = .ok (.ifCond .gt 5, 3) := by decide +kernel
theorem dX3_correct_131 : decode cX3_correct 131 = .ok (.iconst 1, 1) := by decide +kernel
theorem dX3_correct_132 : decode cX3_correct 132 = .ok (.ireturn, 1) := by decide +kernel
theorem dX3_correct_133 : decode cX3_correct 133 = .ok (.iload 6, 2) := by decide +kernel
theorem dX3_correct_135 : decode cX3_correct 135 = .ok (.ifCond .le 17, 3) := by decide +kernel
theorem dX3_correct_138 : decode cX3_correct 138 = .ok (.lload 7, 2) := by decide +kernel
theorem dX3_correct_140 : decode cX3_correct 140 = .ok (.lload 4, 2) := by decide +kernel
theorem dX3_correct_142 : decode cX3_correct 142 = .ok (.ldc2_w 144, 3) := by decide +kernel
theorem dX3_correct_145 : decode cX3_correct 145 = .ok (.ldiv, 1) := by decide +kernel
theorem dX3_correct_146 : decode cX3_correct 146 = .ok (.lcmp, 1) := by decide +kernel
theorem dX3_correct_147 : decode cX3_correct 147 = .ok (.ifCond .le 5, 3) := by decide +kernel
theorem dX3_correct_150 : decode cX3_correct 150 = .ok (.iconst 0, 1) := by decide +kernel
theorem dX3_correct_151 : decode cX3_correct 151 = .ok (.ireturn, 1) := by decide +kernel
theorem dX3_correct_152 : decode cX3_correct 152 = .ok (.lload 7, 2) := by decide +kernel
theorem dX3_correct_154 : decode cX3_correct 154 = .ok (.lstore 4, 2) := by decide +kernel
theorem dX3_correct_156 : decode cX3_correct 156 = .ok (.iinc 6 1, 3) := by decide +kernel
theorem dX3_correct_159 : decode cX3_correct 159 = .ok (.goto (-153), 3) := by decide +kernel
theorem dX3_correct_162 : decode cX3_correct 162 = .ok (.iconst 0, 1) := by decide +kernel
theorem dX3_correct_163 : decode cX3_correct 163 = .ok (.ireturn, 1) := by decide +kernel
set_option maxHeartbeats 4000000 in
set_option maxRecDepth 100000 in
theorem t_X3_correct (l : Launch) (D : xD) (z n : Nat) (G : xG) (I : xI) (L : xL) (f : Nat) (P : Nat) (u : Int64) (R : Nat) (Y : xSy) (hF : shF G f) (zf : z ≤ f) (hP : P ≤ 1024) (hu : ¬ u = 0) (hR : I f 5 = nI R) (hR9 : R ≤ 9) (hA : aimedS I (f + 1) Y) : xM0 l D z yX3_correct cX3_correct 9 (some .boolean) 4 104 [.ref f, .int (nI P), .long u] n G I L (fun v' I' L' => v' = (some (.int (if (coN Y P u (I f 6) R 0 0 (rd L (f + 66)) (rd L (f + 67))).isSome then 1 else 0))) ∧ I' = I ∧ (∀ c, coN Y P u (I f 6) R 0 0 (rd L (f + 66)) (rd L (f + 67)) = some c → rd L' (f + 66) = c.1 ∧ rd L' (f + 67) = c.2) ∧ (∀ a, (a < f ∨ f + 68 ≤ a) → L' a = L a)) := by
  refine xM.of (by decide) (Nat.le_of_ble_eq_true rfl) (fun p e s m args below meth c C hnm hsz => ?_)
  refine x_lv [(0, .ref f), (1, .int (nI P)), (2, .long u)] rfl ?_
  refine x_lconst 0 C (v := 0) dX3_correct_0 rfl ?_
  refine x_lstore 1 C [(4, .long 0), (0, .ref f), (1, .int (nI P)), (2, .long u)] dX3_correct_1 (by decide) rfl ?_
  refine x_iconst 3 C (v := 0) dX3_correct_3 rfl ?_
  refine x_istore 4 C [(6, .int 0), (4, .long 0), (0, .ref f), (1, .int (nI P)), (2, .long u)] dX3_correct_4 (by decide) rfl ?_
  have loop6 : ∀ (fuel : Nat) (i : Nat) (Lk : xL) (bf : Int64), (i ≤ R) → (R + 1 ≤ i + fuel) → (coN Y P u (I f 6) R 0 0 (rd L (f + 66)) (rd L (f + 67)) = coN Y P u (I f 6) (R - i) i bf (rd Lk (f + 66)) (rd Lk (f + 67))) → (∀ a, (a < f ∨ f + 68 ≤ a) → Lk a = L a) → X p l e (xRm 4 104 0 0) s m args below meth c D z 9 (MQ below (xQc D z n (xN n G (fun v' I' L' => v' = (some (.int (if (coN Y P u (I f 6) R 0 0 (rd L (f + 66)) (rd L (f + 67))).isSome then 1 else 0))) ∧ I' = I ∧ (∀ c, coN Y P u (I f 6) R 0 0 (rd L (f + 66)) (rd L (f + 67)) = some c → rd L' (f + 66) = c.1 ∧ rd L' (f + 67) = c.2) ∧ (∀ a, (a < f ∨ f + 68 ≤ a) → L' a = L a)))) args s 0 0 (fun a => z ≤ a)) 0 0 n G I Lk 6 [(0, .ref f), (1, .int (nI P)), (2, .long u), (4, .long bf), (6, .int (nI i))] [] := by
    intro fuel
    induction fuel with
    | zero =>
      intro i Lk bf hi hf hS hfr
      exact absurd hf (by omega)
    | succ fuel ih =>
      intro i Lk bf hi hf hS hfr
      refine x_iload 6 C dX3_correct_6 4 rfl ?_
      refine x_aload_n 8 C dX3_correct_8 rfl 0 rfl ?_
      refine x_geti 9 C dX3_correct_9 ff_X3_47 hF.1 ?_
      refine x_int (nI R) hR ?_
      refine x_icmp_ge 12 C 162 dX3_correct_12 (by decide) (fun c1 => ?_) (fun c1 => ?_)
      · skip
        have c1n : R ≤ i := (nI_leI (a := R) (b := i) (by omega) (by omega)).mp c1
        have c1o := Int32.not_lt.mpr c1
        refine x_iconst 162 C (v := 0) dX3_correct_162 rfl ?_
        refine x_iret 163 C dX3_correct_163 rfl rfl (Nat.le_refl _) (xN.intro ?_)
        have hz : coN Y P u (I f 6) R 0 0 (rd L (f + 66)) (rd L (f + 67)) = none := by rw [hS, show R - i = 0 by omega, coN]
        exact ⟨by rw [hz]; rfl, rfl, (fun c hc => by rw [hz] at hc; cases hc), hfr⟩
      · skip
        have c1n : ¬ (R ≤ i) := fun h => c1 ((nI_leI (a := R) (b := i) (by omega) (by omega)).mpr h)
        have c1o := Int32.not_le.mp c1
        refine x_aload_n 15 C dX3_correct_15 rfl 0 rfl ?_
        refine x_getr 16 C (b := f + 1) dX3_correct_16 ff_X3_10 rfl hF.1 rfl ?_
        refine x_aload_n 19 C dX3_correct_19 rfl 0 rfl ?_
        refine x_getr 20 C (b := f + 66) dX3_correct_20 ff_X3_26 rfl hF.1 rfl ?_
        refine x_aload_n 23 C dX3_correct_23 rfl 0 rfl ?_
        refine x_getr 24 C (b := f + 67) dX3_correct_24 ff_X3_30 rfl hF.1 rfl ?_
        refine x_iload_n 27 C dX3_correct_27 rfl 1 rfl ?_
        refine x_lload_n 28 C dX3_correct_28 rfl 2 rfl ?_
        refine x_callVp 29 C dX3_correct_29 (As := [.ref (f + 66), .ref (f + 67), .int (nI P), .long u]) (rest := []) (t_X5_evaluate l D z n G I Lk (f + 1) (f + 66) (f + 67) P u Y.1 Y.2.1 Y.2.2.1 Y.2.2.2.1 Y.2.2.2.2.1 Y.2.2.2.2.2.1 Y.2.2.2.2.2.2.1 Y.2.2.2.2.2.2.2 hF.2.1 hF.2.2.2.1 hF.2.2.2.2 (by omega) (by first | assumption | omega | decide) (by first | assumption | omega | decide) (by first | assumption | omega | decide) (by first | assumption | omega | decide) hA) mt_X5_evaluate km_X3_99 ki_X5_evaluate ks_X5_evaluate hF.2.1.1 ⟨by decide, rfl⟩ rfl (Nat.le_of_ble_eq_true rfl) ⟨⟨by decide, by decide⟩, by decide, by decide⟩ (fun w2 I3 L4 hw2 => ?_)
        obtain ⟨hw2v, eI3, hw2r0, hw2r1, hw2r2, hw2r3, hw2r4, hw2r5, hw2r6, hw2r7, hw2r8, hw2r9, hw2r10, hw2r11, hw2r12, hw2r13, hw2r14, hw2r15, hw2r16, hw2r17, hw2r18⟩ := hw2
        subst hw2v
        refine x_st [] rfl ?_
        replace eI3 := eI3.symm; subst eI3
        have k5 : rd L4 (f + 1 + 26 + 20 * 0 + 1) = evV Y.1 Y.2.1 (powC (rd Lk (f + 66)) (rd Lk (f + 67)) u) 10 := hw2r0
        have k6 : rd L4 (f + 1 + 26 + 20 * 0 + 2) = evX Y.1 Y.2.1 (powC (rd Lk (f + 66)) (rd Lk (f + 67)) u) 10 := hw2r1
        have k7 : rd L4 (f + 1 + 26 + 20 * 0 + 3) = evY Y.1 Y.2.1 (powC (rd Lk (f + 66)) (rd Lk (f + 67)) u) 10 := hw2r2
        have k8 : rd L4 (f + 1 + 30 + 20 * 0 + 1) = sB evV Y.2.2.2.2.1 Y.2.2.2.2.2.2.1 Y.2.2.2.2.2.2.2 (rd Lk (f + 66)) (rd Lk (f + 67)) u := hw2r3
        have k9 : rd L4 (f + 1 + 30 + 20 * 0 + 2) = sB evX Y.2.2.2.2.1 Y.2.2.2.2.2.2.1 Y.2.2.2.2.2.2.2 (rd Lk (f + 66)) (rd Lk (f + 67)) u := hw2r4
        have k10 : rd L4 (f + 1 + 30 + 20 * 0 + 3) = sB evY Y.2.2.2.2.1 Y.2.2.2.2.2.2.1 Y.2.2.2.2.2.2.2 (rd Lk (f + 66)) (rd Lk (f + 67)) u := hw2r5
        have k11 : rd L4 (f + 1 + 34 + 20 * 0 + 1) = sM evV Y.1 Y.2.1 Y.2.2.2.2.1 Y.2.2.2.2.2.2.1 Y.2.2.2.2.2.2.2 P (rd Lk (f + 66)) (rd Lk (f + 67)) u := hw2r6
        have k12 : rd L4 (f + 1 + 34 + 20 * 0 + 2) = sM evX Y.1 Y.2.1 Y.2.2.2.2.1 Y.2.2.2.2.2.2.1 Y.2.2.2.2.2.2.2 P (rd Lk (f + 66)) (rd Lk (f + 67)) u := hw2r7
        have k13 : rd L4 (f + 1 + 34 + 20 * 0 + 3) = sM evY Y.1 Y.2.1 Y.2.2.2.2.1 Y.2.2.2.2.2.2.1 Y.2.2.2.2.2.2.2 P (rd Lk (f + 66)) (rd Lk (f + 67)) u := hw2r8
        have k14 : rd L4 (f + 1 + 26 + 20 * 1 + 1) = evV Y.2.2.1 Y.2.2.2.1 (powC (rd Lk (f + 66)) (rd Lk (f + 67)) u) 10 := hw2r9
        have k15 : rd L4 (f + 1 + 26 + 20 * 1 + 2) = evX Y.2.2.1 Y.2.2.2.1 (powC (rd Lk (f + 66)) (rd Lk (f + 67)) u) 10 := hw2r10
        have k16 : rd L4 (f + 1 + 26 + 20 * 1 + 3) = evY Y.2.2.1 Y.2.2.2.1 (powC (rd Lk (f + 66)) (rd Lk (f + 67)) u) 10 := hw2r11
        have k17 : rd L4 (f + 1 + 30 + 20 * 1 + 1) = sB evV Y.2.2.2.2.2.1 Y.2.2.2.2.2.2.1 Y.2.2.2.2.2.2.2 (rd Lk (f + 66)) (rd Lk (f + 67)) u := hw2r12
        have k18 : rd L4 (f + 1 + 30 + 20 * 1 + 2) = sB evX Y.2.2.2.2.2.1 Y.2.2.2.2.2.2.1 Y.2.2.2.2.2.2.2 (rd Lk (f + 66)) (rd Lk (f + 67)) u := hw2r13
        have k19 : rd L4 (f + 1 + 30 + 20 * 1 + 3) = sB evY Y.2.2.2.2.2.1 Y.2.2.2.2.2.2.1 Y.2.2.2.2.2.2.2 (rd Lk (f + 66)) (rd Lk (f + 67)) u := hw2r14
        have k20 : rd L4 (f + 1 + 34 + 20 * 1 + 1) = sM evV Y.2.2.1 Y.2.2.2.1 Y.2.2.2.2.2.1 Y.2.2.2.2.2.2.1 Y.2.2.2.2.2.2.2 P (rd Lk (f + 66)) (rd Lk (f + 67)) u := hw2r15
        have k21 : rd L4 (f + 1 + 34 + 20 * 1 + 2) = sM evX Y.2.2.1 Y.2.2.2.1 Y.2.2.2.2.2.1 Y.2.2.2.2.2.2.1 Y.2.2.2.2.2.2.2 P (rd Lk (f + 66)) (rd Lk (f + 67)) u := hw2r16
        have k22 : rd L4 (f + 1 + 34 + 20 * 1 + 3) = sM evY Y.2.2.1 Y.2.2.2.1 Y.2.2.2.2.2.1 Y.2.2.2.2.2.2.1 Y.2.2.2.2.2.2.2 P (rd Lk (f + 66)) (rd Lk (f + 67)) u := hw2r17
        have k23 : rd L4 (f + 59 + 1 + 0) = rd Lk (f + 59 + 1 + 0) := (rd_congr (hw2r18 (f + 59 + 1 + 0) (by omega))).trans rfl
        have k24 : rd L4 (f + 59 + 1 + 1) = rd Lk (f + 59 + 1 + 1) := (rd_congr (hw2r18 (f + 59 + 1 + 1) (by omega))).trans rfl
        have k25 : rd L4 (f + 59 + 1 + 2) = rd Lk (f + 59 + 1 + 2) := (rd_congr (hw2r18 (f + 59 + 1 + 2) (by omega))).trans rfl
        have k26 : rd L4 (f + 59 + 1 + 3) = rd Lk (f + 59 + 1 + 3) := (rd_congr (hw2r18 (f + 59 + 1 + 3) (by omega))).trans rfl
        have k27 : rd L4 (f + 66) = rd Lk (f + 66) := (rd_congr (hw2r18 (f + 66) (by omega))).trans rfl
        have k28 : rd L4 (f + 67) = rd Lk (f + 67) := (rd_congr (hw2r18 (f + 67) (by omega))).trans rfl
        have k29 : rd L4 (f + 1 + 26 + 20 * 0 + 1) = syE0 Y evV (rd Lk (f + 66)) (rd Lk (f + 67)) u := k5
        have k30 : rd L4 (f + 1 + 26 + 20 * 0 + 2) = syE0 Y evX (rd Lk (f + 66)) (rd Lk (f + 67)) u := k6
        have k31 : rd L4 (f + 1 + 26 + 20 * 0 + 3) = syE0 Y evY (rd Lk (f + 66)) (rd Lk (f + 67)) u := k7
        have k32 : rd L4 (f + 1 + 30 + 20 * 0 + 1) = syB0 Y evV (rd Lk (f + 66)) (rd Lk (f + 67)) u := k8
        have k33 : rd L4 (f + 1 + 30 + 20 * 0 + 2) = syB0 Y evX (rd Lk (f + 66)) (rd Lk (f + 67)) u := k9
        have k34 : rd L4 (f + 1 + 30 + 20 * 0 + 3) = syB0 Y evY (rd Lk (f + 66)) (rd Lk (f + 67)) u := k10
        have k35 : rd L4 (f + 1 + 34 + 20 * 0 + 1) = syM0 Y P evV (rd Lk (f + 66)) (rd Lk (f + 67)) u := k11
        have k36 : rd L4 (f + 1 + 34 + 20 * 0 + 2) = syM0 Y P evX (rd Lk (f + 66)) (rd Lk (f + 67)) u := k12
        have k37 : rd L4 (f + 1 + 34 + 20 * 0 + 3) = syM0 Y P evY (rd Lk (f + 66)) (rd Lk (f + 67)) u := k13
        have k38 : rd L4 (f + 1 + 26 + 20 * 1 + 1) = syE1 Y evV (rd Lk (f + 66)) (rd Lk (f + 67)) u := k14
        have k39 : rd L4 (f + 1 + 26 + 20 * 1 + 2) = syE1 Y evX (rd Lk (f + 66)) (rd Lk (f + 67)) u := k15
        have k40 : rd L4 (f + 1 + 26 + 20 * 1 + 3) = syE1 Y evY (rd Lk (f + 66)) (rd Lk (f + 67)) u := k16
        have k41 : rd L4 (f + 1 + 30 + 20 * 1 + 1) = syB1 Y evV (rd Lk (f + 66)) (rd Lk (f + 67)) u := k17
        have k42 : rd L4 (f + 1 + 30 + 20 * 1 + 2) = syB1 Y evX (rd Lk (f + 66)) (rd Lk (f + 67)) u := k18
        have k43 : rd L4 (f + 1 + 30 + 20 * 1 + 3) = syB1 Y evY (rd Lk (f + 66)) (rd Lk (f + 67)) u := k19
        have k44 : rd L4 (f + 1 + 34 + 20 * 1 + 1) = syM1 Y P evV (rd Lk (f + 66)) (rd Lk (f + 67)) u := k20
        have k45 : rd L4 (f + 1 + 34 + 20 * 1 + 2) = syM1 Y P evX (rd Lk (f + 66)) (rd Lk (f + 67)) u := k21
        have k46 : rd L4 (f + 1 + 34 + 20 * 1 + 3) = syM1 Y P evY (rd Lk (f + 66)) (rd Lk (f + 67)) u := k22
        refine x_aload_n 32 C dX3_correct_32 rfl 0 rfl ?_
        refine x_getr 33 C (b := f + 59) dX3_correct_33 ff_X3_19 rfl hF.1 rfl ?_
        refine x_getr 36 C (b := f + 59 + 1 + 0) dX3_correct_36 ff_X3_103 rfl hF.2.2.1.1 rfl ?_
        refine x_aload_n 39 C dX3_correct_39 rfl 0 rfl ?_
        refine x_getr 40 C (b := f + 1) dX3_correct_40 ff_X3_10 rfl hF.1 rfl ?_
        refine x_iconst 43 C (v := 0) dX3_correct_43 rfl ?_
        refine x_callVe 44 C dX3_correct_44 (As := [.int 0]) (rest := [.ref (f + 59 + 1 + 0)]) [.ref (f + 1 + 34 + 20 * 0), .ref (f + 59 + 1 + 0)] (t_X5_mix l D z n G I L4 (f + 1) 0 hF.2.1 (by first | assumption | omega | decide)) mt_X5_mix km_X3_131 ki_X5_mix ks_X5_mix hF.2.1.1 ⟨by decide, rfl⟩ rfl rfl (Nat.le_of_ble_eq_true rfl) ⟨⟨by decide, by decide⟩, by decide, by decide⟩ (fun I47 L48 eI47 eL48 => ?_)
        replace eI47 := eI47.symm; subst eI47
        replace eL48 := eL48.symm; subst eL48
        refine x_getr 47 C (b := f + 1 + 34 + 20 * 0 + 1) dX3_correct_47 ff_X3_110 rfl (hF.2.1.2.2.2.2.2.2.2 0 (by decide)).2.2.2.2.1 rfl ?_
        refine x_callVe 50 C dX3_correct_50 (As := [.ref (f + 1 + 34 + 20 * 0 + 1)]) (rest := []) [] (t_X0_putNegative_c l D z n G I L4 (f + 59 + 1 + 0) (f + 1 + 34 + 20 * 0 + 1) (hF.2.2.1.2 0 (by decide)) (hF.2.1.2.2.2.2.2.2.2 0 (by decide)).2.2.2.2.2.1 (by omega)) mt_X0_putNegative km_X3_138 ki_X0_putNegative ks_X0_putNegative (hF.2.2.1.2 0 (by decide)) ⟨by decide, rfl⟩ rfl rfl (Nat.le_of_ble_eq_true rfl) ⟨⟨by decide, by decide⟩, by decide, by decide⟩ (fun I49 L50 eI49 eL50 => ?_)
        replace eI49 := eI49.symm; subst eI49
        have k51 : rd L50 (f + 1 + 26 + 20 * 0 + 1) = syE0 Y evV (rd Lk (f + 66)) (rd Lk (f + 67)) u := by rw [eL50, rd_cw_ne _ _ (by omega)]; exact k29
        have k52 : rd L50 (f + 1 + 26 + 20 * 0 + 2) = syE0 Y evX (rd Lk (f + 66)) (rd Lk (f + 67)) u := by rw [eL50, rd_cw_ne _ _ (by omega)]; exact k30
        have k53 : rd L50 (f + 1 + 26 + 20 * 0 + 3) = syE0 Y evY (rd Lk (f + 66)) (rd Lk (f + 67)) u := by rw [eL50, rd_cw_ne _ _ (by omega)]; exact k31
        have k54 : rd L50 (f + 1 + 30 + 20 * 0 + 1) = syB0 Y evV (rd Lk (f + 66)) (rd Lk (f + 67)) u := by rw [eL50, rd_cw_ne _ _ (by omega)]; exact k32
        have k55 : rd L50 (f + 1 + 30 + 20 * 0 + 2) = syB0 Y evX (rd Lk (f + 66)) (rd Lk (f + 67)) u := by rw [eL50, rd_cw_ne _ _ (by omega)]; exact k33
        have k56 : rd L50 (f + 1 + 30 + 20 * 0 + 3) = syB0 Y evY (rd Lk (f + 66)) (rd Lk (f + 67)) u := by rw [eL50, rd_cw_ne _ _ (by omega)]; exact k34
        have k57 : rd L50 (f + 1 + 34 + 20 * 0 + 1) = syM0 Y P evV (rd Lk (f + 66)) (rd Lk (f + 67)) u := by rw [eL50, rd_cw_ne _ _ (by omega)]; exact k35
        have k58 : rd L50 (f + 1 + 34 + 20 * 0 + 2) = syM0 Y P evX (rd Lk (f + 66)) (rd Lk (f + 67)) u := by rw [eL50, rd_cw_ne _ _ (by omega)]; exact k36
        have k59 : rd L50 (f + 1 + 34 + 20 * 0 + 3) = syM0 Y P evY (rd Lk (f + 66)) (rd Lk (f + 67)) u := by rw [eL50, rd_cw_ne _ _ (by omega)]; exact k37
        have k60 : rd L50 (f + 1 + 26 + 20 * 1 + 1) = syE1 Y evV (rd Lk (f + 66)) (rd Lk (f + 67)) u := by rw [eL50, rd_cw_ne _ _ (by omega)]; exact k38
        have k61 : rd L50 (f + 1 + 26 + 20 * 1 + 2) = syE1 Y evX (rd Lk (f + 66)) (rd Lk (f + 67)) u := by rw [eL50, rd_cw_ne _ _ (by omega)]; exact k39
        have k62 : rd L50 (f + 1 + 26 + 20 * 1 + 3) = syE1 Y evY (rd Lk (f + 66)) (rd Lk (f + 67)) u := by rw [eL50, rd_cw_ne _ _ (by omega)]; exact k40
        have k63 : rd L50 (f + 1 + 30 + 20 * 1 + 1) = syB1 Y evV (rd Lk (f + 66)) (rd Lk (f + 67)) u := by rw [eL50, rd_cw_ne _ _ (by omega)]; exact k41
        have k64 : rd L50 (f + 1 + 30 + 20 * 1 + 2) = syB1 Y evX (rd Lk (f + 66)) (rd Lk (f + 67)) u := by rw [eL50, rd_cw_ne _ _ (by omega)]; exact k42
        have k65 : rd L50 (f + 1 + 30 + 20 * 1 + 3) = syB1 Y evY (rd Lk (f + 66)) (rd Lk (f + 67)) u := by rw [eL50, rd_cw_ne _ _ (by omega)]; exact k43
        have k66 : rd L50 (f + 1 + 34 + 20 * 1 + 1) = syM1 Y P evV (rd Lk (f + 66)) (rd Lk (f + 67)) u := by rw [eL50, rd_cw_ne _ _ (by omega)]; exact k44
        have k67 : rd L50 (f + 1 + 34 + 20 * 1 + 2) = syM1 Y P evX (rd Lk (f + 66)) (rd Lk (f + 67)) u := by rw [eL50, rd_cw_ne _ _ (by omega)]; exact k45
        have k68 : rd L50 (f + 1 + 34 + 20 * 1 + 3) = syM1 Y P evY (rd Lk (f + 66)) (rd Lk (f + 67)) u := by rw [eL50, rd_cw_ne _ _ (by omega)]; exact k46
        have k69 : rd L50 (f + 59 + 1 + 0) = negC (syM0 Y P evV (rd Lk (f + 66)) (rd Lk (f + 67)) u) := by rw [eL50, rd_cw]; simp only [k35]
        have k70 : rd L50 (f + 59 + 1 + 1) = rd Lk (f + 59 + 1 + 1) := by rw [eL50, rd_cw_ne _ _ (by omega)]; exact k24
        have k71 : rd L50 (f + 59 + 1 + 2) = rd Lk (f + 59 + 1 + 2) := by rw [eL50, rd_cw_ne _ _ (by omega)]; exact k25
        have k72 : rd L50 (f + 59 + 1 + 3) = rd Lk (f + 59 + 1 + 3) := by rw [eL50, rd_cw_ne _ _ (by omega)]; exact k26
        have k73 : rd L50 (f + 66) = rd Lk (f + 66) := by rw [eL50, rd_cw_ne _ _ (by omega)]; exact k27
        have k74 : rd L50 (f + 67) = rd Lk (f + 67) := by rw [eL50, rd_cw_ne _ _ (by omega)]; exact k28
        refine x_aload_n 53 C dX3_correct_53 rfl 0 rfl ?_
        refine x_getr 54 C (b := f + 59) dX3_correct_54 ff_X3_19 rfl hF.1 rfl ?_
        refine x_getr 57 C (b := f + 59 + 1 + 1) dX3_correct_57 ff_X3_128 rfl hF.2.2.1.1 rfl ?_
        refine x_aload_n 60 C dX3_correct_60 rfl 0 rfl ?_
        refine x_getr 61 C (b := f + 1) dX3_correct_61 ff_X3_10 rfl hF.1 rfl ?_
        refine x_iconst 64 C (v := 1) dX3_correct_64 rfl ?_
        refine x_callVe 65 C dX3_correct_65 (As := [.int 1]) (rest := [.ref (f + 59 + 1 + 1)]) [.ref (f + 1 + 34 + 20 * 1), .ref (f + 59 + 1 + 1)] (t_X5_mix l D z n G I L50 (f + 1) 1 hF.2.1 (by first | assumption | omega | decide)) mt_X5_mix km_X3_131 ki_X5_mix ks_X5_mix hF.2.1.1 ⟨by decide, rfl⟩ rfl rfl (Nat.le_of_ble_eq_true rfl) ⟨⟨by decide, by decide⟩, by decide, by decide⟩ (fun I75 L76 eI75 eL76 => ?_)
        replace eI75 := eI75.symm; subst eI75
        replace eL76 := eL76.symm; subst eL76
        refine x_getr 68 C (b := f + 1 + 34 + 20 * 1 + 1) dX3_correct_68 ff_X3_110 rfl (hF.2.1.2.2.2.2.2.2.2 1 (by decide)).2.2.2.2.1 rfl ?_
        refine x_callVe 71 C dX3_correct_71 (As := [.ref (f + 1 + 34 + 20 * 1 + 1)]) (rest := []) [] (t_X0_putNegative_c l D z n G I L50 (f + 59 + 1 + 1) (f + 1 + 34 + 20 * 1 + 1) (hF.2.2.1.2 1 (by decide)) (hF.2.1.2.2.2.2.2.2.2 1 (by decide)).2.2.2.2.2.1 (by omega)) mt_X0_putNegative km_X3_138 ki_X0_putNegative ks_X0_putNegative (hF.2.2.1.2 1 (by decide)) ⟨by decide, rfl⟩ rfl rfl (Nat.le_of_ble_eq_true rfl) ⟨⟨by decide, by decide⟩, by decide, by decide⟩ (fun I77 L78 eI77 eL78 => ?_)
        replace eI77 := eI77.symm; subst eI77
        have k79 : rd L78 (f + 1 + 26 + 20 * 0 + 1) = syE0 Y evV (rd Lk (f + 66)) (rd Lk (f + 67)) u := by rw [eL78, rd_cw_ne _ _ (by omega)]; exact k51
        have k80 : rd L78 (f + 1 + 26 + 20 * 0 + 2) = syE0 Y evX (rd Lk (f + 66)) (rd Lk (f + 67)) u := by rw [eL78, rd_cw_ne _ _ (by omega)]; exact k52
        have k81 : rd L78 (f + 1 + 26 + 20 * 0 + 3) = syE0 Y evY (rd Lk (f + 66)) (rd Lk (f + 67)) u := by rw [eL78, rd_cw_ne _ _ (by omega)]; exact k53
        have k82 : rd L78 (f + 1 + 30 + 20 * 0 + 1) = syB0 Y evV (rd Lk (f + 66)) (rd Lk (f + 67)) u := by rw [eL78, rd_cw_ne _ _ (by omega)]; exact k54
        have k83 : rd L78 (f + 1 + 30 + 20 * 0 + 2) = syB0 Y evX (rd Lk (f + 66)) (rd Lk (f + 67)) u := by rw [eL78, rd_cw_ne _ _ (by omega)]; exact k55
        have k84 : rd L78 (f + 1 + 30 + 20 * 0 + 3) = syB0 Y evY (rd Lk (f + 66)) (rd Lk (f + 67)) u := by rw [eL78, rd_cw_ne _ _ (by omega)]; exact k56
        have k85 : rd L78 (f + 1 + 34 + 20 * 0 + 1) = syM0 Y P evV (rd Lk (f + 66)) (rd Lk (f + 67)) u := by rw [eL78, rd_cw_ne _ _ (by omega)]; exact k57
        have k86 : rd L78 (f + 1 + 34 + 20 * 0 + 2) = syM0 Y P evX (rd Lk (f + 66)) (rd Lk (f + 67)) u := by rw [eL78, rd_cw_ne _ _ (by omega)]; exact k58
        have k87 : rd L78 (f + 1 + 34 + 20 * 0 + 3) = syM0 Y P evY (rd Lk (f + 66)) (rd Lk (f + 67)) u := by rw [eL78, rd_cw_ne _ _ (by omega)]; exact k59
        have k88 : rd L78 (f + 1 + 26 + 20 * 1 + 1) = syE1 Y evV (rd Lk (f + 66)) (rd Lk (f + 67)) u := by rw [eL78, rd_cw_ne _ _ (by omega)]; exact k60
        have k89 : rd L78 (f + 1 + 26 + 20 * 1 + 2) = syE1 Y evX (rd Lk (f + 66)) (rd Lk (f + 67)) u := by rw [eL78, rd_cw_ne _ _ (by omega)]; exact k61
        have k90 : rd L78 (f + 1 + 26 + 20 * 1 + 3) = syE1 Y evY (rd Lk (f + 66)) (rd Lk (f + 67)) u := by rw [eL78, rd_cw_ne _ _ (by omega)]; exact k62
        have k91 : rd L78 (f + 1 + 30 + 20 * 1 + 1) = syB1 Y evV (rd Lk (f + 66)) (rd Lk (f + 67)) u := by rw [eL78, rd_cw_ne _ _ (by omega)]; exact k63
        have k92 : rd L78 (f + 1 + 30 + 20 * 1 + 2) = syB1 Y evX (rd Lk (f + 66)) (rd Lk (f + 67)) u := by rw [eL78, rd_cw_ne _ _ (by omega)]; exact k64
        have k93 : rd L78 (f + 1 + 30 + 20 * 1 + 3) = syB1 Y evY (rd Lk (f + 66)) (rd Lk (f + 67)) u := by rw [eL78, rd_cw_ne _ _ (by omega)]; exact k65
        have k94 : rd L78 (f + 1 + 34 + 20 * 1 + 1) = syM1 Y P evV (rd Lk (f + 66)) (rd Lk (f + 67)) u := by rw [eL78, rd_cw_ne _ _ (by omega)]; exact k66
        have k95 : rd L78 (f + 1 + 34 + 20 * 1 + 2) = syM1 Y P evX (rd Lk (f + 66)) (rd Lk (f + 67)) u := by rw [eL78, rd_cw_ne _ _ (by omega)]; exact k67
        have k96 : rd L78 (f + 1 + 34 + 20 * 1 + 3) = syM1 Y P evY (rd Lk (f + 66)) (rd Lk (f + 67)) u := by rw [eL78, rd_cw_ne _ _ (by omega)]; exact k68
        have k97 : rd L78 (f + 59 + 1 + 0) = negC (syM0 Y P evV (rd Lk (f + 66)) (rd Lk (f + 67)) u) := by rw [eL78, rd_cw_ne _ _ (by omega)]; exact k69
        have k98 : rd L78 (f + 59 + 1 + 1) = negC (syM1 Y P evV (rd Lk (f + 66)) (rd Lk (f + 67)) u) := by rw [eL78, rd_cw]; simp only [k66]
        have k99 : rd L78 (f + 59 + 1 + 2) = rd Lk (f + 59 + 1 + 2) := by rw [eL78, rd_cw_ne _ _ (by omega)]; exact k71
        have k100 : rd L78 (f + 59 + 1 + 3) = rd Lk (f + 59 + 1 + 3) := by rw [eL78, rd_cw_ne _ _ (by omega)]; exact k72
        have k101 : rd L78 (f + 66) = rd Lk (f + 66) := by rw [eL78, rd_cw_ne _ _ (by omega)]; exact k73
        have k102 : rd L78 (f + 67) = rd Lk (f + 67) := by rw [eL78, rd_cw_ne _ _ (by omega)]; exact k74
        refine x_aload_n 74 C dX3_correct_74 rfl 0 rfl ?_
        refine x_getr 75 C (b := f + 59) dX3_correct_75 ff_X3_19 rfl hF.1 rfl ?_
        refine x_aload_n 78 C dX3_correct_78 rfl 0 rfl ?_
        refine x_getr 79 C (b := f + 1) dX3_correct_79 ff_X3_10 rfl hF.1 rfl ?_
        refine x_iconst 82 C (v := 0) dX3_correct_82 rfl ?_
        refine x_callVe 83 C dX3_correct_83 (As := [.int 0]) (rest := [.ref (f + 59)]) [.ref (f + 1 + 34 + 20 * 0), .ref (f + 59)] (t_X5_mix l D z n G I L78 (f + 1) 0 hF.2.1 (by first | assumption | omega | decide)) mt_X5_mix km_X3_131 ki_X5_mix ks_X5_mix hF.2.1.1 ⟨by decide, rfl⟩ rfl rfl (Nat.le_of_ble_eq_true rfl) ⟨⟨by decide, by decide⟩, by decide, by decide⟩ (fun I103 L104 eI103 eL104 => ?_)
        replace eI103 := eI103.symm; subst eI103
        replace eL104 := eL104.symm; subst eL104
        refine x_aload_n 86 C dX3_correct_86 rfl 0 rfl ?_
        refine x_getr 87 C (b := f + 1) dX3_correct_87 ff_X3_10 rfl hF.1 rfl ?_
        refine x_iconst 90 C (v := 1) dX3_correct_90 rfl ?_
        refine x_callVe 91 C dX3_correct_91 (As := [.int 1]) (rest := [.ref (f + 1 + 34 + 20 * 0), .ref (f + 59)]) [.ref (f + 1 + 34 + 20 * 1), .ref (f + 1 + 34 + 20 * 0), .ref (f + 59)] (t_X5_mix l D z n G I L78 (f + 1) 1 hF.2.1 (by first | assumption | omega | decide)) mt_X5_mix km_X3_131 ki_X5_mix ks_X5_mix hF.2.1.1 ⟨by decide, rfl⟩ rfl rfl (Nat.le_of_ble_eq_true rfl) ⟨⟨by decide, by decide⟩, by decide, by decide⟩ (fun I105 L106 eI105 eL106 => ?_)
        replace eI105 := eI105.symm; subst eI105
        replace eL106 := eL106.symm; subst eL106
        refine x_aload_n 94 C dX3_correct_94 rfl 0 rfl ?_
        refine x_getr 95 C (b := f + 66) dX3_correct_95 ff_X3_26 rfl hF.1 rfl ?_
        refine x_aload_n 98 C dX3_correct_98 rfl 0 rfl ?_
        refine x_getr 99 C (b := f + 67) dX3_correct_99 ff_X3_30 rfl hF.1 rfl ?_
        refine x_lload_n 102 C dX3_correct_102 rfl 2 rfl ?_
        refine x_callVp 103 C dX3_correct_103 (As := [.ref (f + 1 + 34 + 20 * 0), .ref (f + 1 + 34 + 20 * 1), .ref (f + 66), .ref (f + 67), .long u]) (rest := []) (t_X8_moveBySolution l D z n G I L78 (f + 59) (f + 1 + 34 + 20 * 0) (f + 1 + 34 + 20 * 1) (f + 66) (f + 67) u hF.2.2.1 (hF.2.1.2.2.2.2.2.2.2 0 (by decide)).2.2.2.2 (hF.2.1.2.2.2.2.2.2.2 1 (by decide)).2.2.2.2 hF.2.2.2.1 hF.2.2.2.2 (by omega) (by omega) (by omega) (by first | assumption | omega | decide) (by first | assumption | omega | decide) (by first | assumption | omega | decide) (by first | assumption | omega | decide) (by first | assumption | omega | decide) (by first | assumption | omega | decide)) mt_X8_moveBySolution km_X3_134 ki_X8_moveBySolution ks_X8_moveBySolution hF.2.2.1.1 ⟨by decide, rfl⟩ rfl (Nat.le_of_ble_eq_true rfl) ⟨⟨by decide, by decide⟩, by decide, by decide⟩ (fun w107 I108 L109 hw107 => ?_)
        obtain ⟨hw107v, eI108, hw107r0, hw107r1, hw107r2, hw107r3⟩ := hw107
        subst hw107v
        refine x_st [.int (if solN u (rd L78 ((f + 1 + 34 + 20 * 0) + 2)) (rd L78 ((f + 1 + 34 + 20 * 0) + 3)) (rd L78 ((f + 1 + 34 + 20 * 1) + 2)) (rd L78 ((f + 1 + 34 + 20 * 1) + 3)) = 0 then 0 else 1)] rfl ?_
        replace eI108 := eI108.symm; subst eI108
        have k110 : rd L109 (f + 66) = if solN u (syM0 Y P evX (rd Lk (f + 66)) (rd Lk (f + 67)) u) (syM0 Y P evY (rd Lk (f + 66)) (rd Lk (f + 67)) u) (syM1 Y P evX (rd Lk (f + 66)) (rd Lk (f + 67)) u) (syM1 Y P evY (rd Lk (f + 66)) (rd Lk (f + 67)) u) = 0 then (rd Lk (f + 66)) else addC (rd Lk (f + 66)) (solU u (syM0 Y P evX (rd Lk (f + 66)) (rd Lk (f + 67)) u) (syM0 Y P evY (rd Lk (f + 66)) (rd Lk (f + 67)) u) (syM1 Y P evX (rd Lk (f + 66)) (rd Lk (f + 67)) u) (syM1 Y P evY (rd Lk (f + 66)) (rd Lk (f + 67)) u) (negC (syM0 Y P evV (rd Lk (f + 66)) (rd Lk (f + 67)) u)) (negC (syM1 Y P evV (rd Lk (f + 66)) (rd Lk (f + 67)) u))) := by rw [hw107r0]; simp only [k86, k87, k95, k96, k101, k97, k98]
        have k111 : rd L109 (f + 67) = if solN u (syM0 Y P evX (rd Lk (f + 66)) (rd Lk (f + 67)) u) (syM0 Y P evY (rd Lk (f + 66)) (rd Lk (f + 67)) u) (syM1 Y P evX (rd Lk (f + 66)) (rd Lk (f + 67)) u) (syM1 Y P evY (rd Lk (f + 66)) (rd Lk (f + 67)) u) = 0 then (rd Lk (f + 67)) else addC (rd Lk (f + 67)) (solV u (syM0 Y P evX (rd Lk (f + 66)) (rd Lk (f + 67)) u) (syM0 Y P evY (rd Lk (f + 66)) (rd Lk (f + 67)) u) (syM1 Y P evX (rd Lk (f + 66)) (rd Lk (f + 67)) u) (syM1 Y P evY (rd Lk (f + 66)) (rd Lk (f + 67)) u) (negC (syM0 Y P evV (rd Lk (f + 66)) (rd Lk (f + 67)) u)) (negC (syM1 Y P evV (rd Lk (f + 66)) (rd Lk (f + 67)) u))) := by rw [hw107r1]; simp only [k86, k87, k95, k96, k102, k97, k98]
        refine x_if_ne 106 C 111 dX3_correct_106 (by decide) (fun c112 => ?_) (fun c112 => ?_)
        · skip
          have hn := ite01n c112
          have hUV := hw107r2 hn
          simp only [k79, k80, k81, k82, k83, k84, k85, k86, k87, k88, k89, k90, k91, k92, k93, k94, k95, k96, k97, k98, k99, k100, k101, k102] at hn hUV
          have hn2 : ¬ syN Y P u (rd Lk (f + 66)) (rd Lk (f + 67)) = 0 := hn
          have k113 : rd L109 (f + 66) = addC (rd Lk (f + 66)) (coU Y P u (rd Lk (f + 66)) (rd Lk (f + 67))) := k110.trans (if_neg hn)
          have k114 : rd L109 (f + 67) = addC (rd Lk (f + 67)) (coV Y P u (rd Lk (f + 66)) (rd Lk (f + 67))) := k111.trans (if_neg hn)
          have k115 : rd L109 (f + 59 + 1 + 2) = coU Y P u (rd Lk (f + 66)) (rd Lk (f + 67)) := hUV.1
          have k116 : rd L109 (f + 59 + 1 + 3) = coV Y P u (rd Lk (f + 66)) (rd Lk (f + 67)) := hUV.2
          refine x_aload_n 111 C dX3_correct_111 rfl 0 rfl ?_
          refine x_getr 112 C (b := f + 59) dX3_correct_112 ff_X3_19 rfl hF.1 rfl ?_
          refine x_callVe 115 C dX3_correct_115 (As := []) (rest := []) [.long (lmax (sizC (rd L109 ((f + 59) + 1 + 2))) (sizC (rd L109 ((f + 59) + 1 + 3))))] (t_X8_solutionSize l D z n G I L109 (f + 59) hF.2.2.1) mt_X8_solutionSize km_X3_141 ki_X8_solutionSize ks_X8_solutionSize hF.2.2.1.1 ⟨by decide, rfl⟩ rfl rfl (Nat.le_of_ble_eq_true rfl) ⟨⟨by decide, by decide⟩, by decide, by decide⟩ (fun I117 L118 eI117 eL118 => ?_)
          replace eI117 := eI117.symm; subst eI117
          replace eL118 := eL118.symm; subst eL118
          refine x_long (coS Y P u (rd Lk (f + 66)) (rd Lk (f + 67))) (by rw [k115, k116]; rfl) ?_
          refine x_lstore 118 C [(7, .long (coS Y P u (rd Lk (f + 66)) (rd Lk (f + 67)))), (0, .ref f), (1, .int (nI P)), (2, .long u), (4, .long bf), (6, .int (nI i))] dX3_correct_118 (by decide) rfl ?_
          refine x_lload 120 C dX3_correct_120 0 rfl ?_
          refine x_aload_n 122 C dX3_correct_122 rfl 1 rfl ?_
          refine x_geti 123 C dX3_correct_123 ff_X3_50 hF.1 ?_
          refine x_i2l 126 C dX3_correct_126 ?_
          refine x_lc_gt 127 C 133 dX3_correct_127 dX3_correct_128 (by decide) (fun c119 => ?_) (fun c119 => ?_)
          · skip
            have c119o := Int64.not_le.mpr c119
            have hgt : ¬ coS Y P u (rd Lk (f + 66)) (rd Lk (f + 67)) ≤ (I f 6).toInt64 := Int64.not_le.mpr c119
            refine x_iload 133 C dX3_correct_133 5 rfl ?_
            refine x_if_le 135 C 152 dX3_correct_135 (by decide) (fun c120 => ?_) (fun c120 => ?_)
            · skip
              have c120n : i ≤ 0 := (nI_leI (a := i) (b := 0) (by omega) (by omega)).mp c120
              have c120o := Int32.not_lt.mpr c120
              have hlast : ¬ (0 < i ∧ ¬ coS Y P u (rd Lk (f + 66)) (rd Lk (f + 67)) ≤ bf / 2) := fun h => by omega
              refine x_lload 152 C dX3_correct_152 0 rfl ?_
              refine x_lstore 154 C [(4, .long (coS Y P u (rd Lk (f + 66)) (rd Lk (f + 67)))), (7, .long (coS Y P u (rd Lk (f + 66)) (rd Lk (f + 67)))), (0, .ref f), (1, .int (nI P)), (2, .long u), (6, .int (nI i))] dX3_correct_154 (by decide) rfl ?_
              refine x_iinc 156 C [(6, .int (nI (i + 1))), (4, .long (coS Y P u (rd Lk (f + 66)) (rd Lk (f + 67)))), (7, .long (coS Y P u (rd Lk (f + 66)) (rd Lk (f + 67)))), (0, .ref f), (1, .int (nI P)), (2, .long u)] dX3_correct_156 5 rfl (nI_add i 1) (by decide) rfl ?_
              refine x_goto 159 C 6 dX3_correct_159 (by decide) ?_
              refine x_sub [(0, .ref f), (1, .int (nI P)), (2, .long u), (4, .long (coS Y P u (rd Lk (f + 66)) (rd Lk (f + 67)))), (6, .int (nI (i + 1)))] [3, 4, 5, 1, 0] rfl ?_
              refine ih (i + 1) L109 (coS Y P u (rd Lk (f + 66)) (rd Lk (f + 67))) (by omega) (by omega) ?_ ?_
              · rw [hS]; rw [show R - i = (R - (i + 1)) + 1 by omega]; rw [coN, if_neg hn2, if_neg hgt, if_neg hlast, k113, k114]
              · intro a ha; rw [hw107r3 _ (by omega) (by omega) (by omega)]; rw [eL78, cw_ne _ _ (by omega)]; rw [eL50, cw_ne _ _ (by omega)]; rw [hw2r18 _ (by omega)]; exact hfr a ha
            · skip
              have c120n : ¬ (i ≤ 0) := fun h => c120 ((nI_leI (a := i) (b := 0) (by omega) (by omega)).mpr h)
              have c120o := Int32.not_le.mp c120
              refine x_lload 138 C dX3_correct_138 0 rfl ?_
              refine x_lload 140 C dX3_correct_140 4 rfl ?_
              refine x_ldc2 142 C 2 dX3_correct_142 kk_X3_144 ?_
              refine x_ldiv 145 C dX3_correct_145 (by first | assumption | decide) ?_
              refine x_lc_le 146 C 152 dX3_correct_146 dX3_correct_147 (by decide) (fun c121 => ?_) (fun c121 => ?_)
              · skip
                have c121o := Int64.not_lt.mpr c121
                have hlast : ¬ (0 < i ∧ ¬ coS Y P u (rd Lk (f + 66)) (rd Lk (f + 67)) ≤ bf / 2) := fun h => h.2 c121
                refine x_lload 152 C dX3_correct_152 0 rfl ?_
                refine x_lstore 154 C [(4, .long (coS Y P u (rd Lk (f + 66)) (rd Lk (f + 67)))), (7, .long (coS Y P u (rd Lk (f + 66)) (rd Lk (f + 67)))), (0, .ref f), (1, .int (nI P)), (2, .long u), (6, .int (nI i))] dX3_correct_154 (by decide) rfl ?_
                refine x_iinc 156 C [(6, .int (nI (i + 1))), (4, .long (coS Y P u (rd Lk (f + 66)) (rd Lk (f + 67)))), (7, .long (coS Y P u (rd Lk (f + 66)) (rd Lk (f + 67)))), (0, .ref f), (1, .int (nI P)), (2, .long u)] dX3_correct_156 5 rfl (nI_add i 1) (by decide) rfl ?_
                refine x_goto 159 C 6 dX3_correct_159 (by decide) ?_
                refine x_sub [(0, .ref f), (1, .int (nI P)), (2, .long u), (4, .long (coS Y P u (rd Lk (f + 66)) (rd Lk (f + 67)))), (6, .int (nI (i + 1)))] [3, 4, 5, 1, 0] rfl ?_
                refine ih (i + 1) L109 (coS Y P u (rd Lk (f + 66)) (rd Lk (f + 67))) (by omega) (by omega) ?_ ?_
                · rw [hS]; rw [show R - i = (R - (i + 1)) + 1 by omega]; rw [coN, if_neg hn2, if_neg hgt, if_neg hlast, k113, k114]
                · intro a ha; rw [hw107r3 _ (by omega) (by omega) (by omega)]; rw [eL78, cw_ne _ _ (by omega)]; rw [eL50, cw_ne _ _ (by omega)]; rw [hw2r18 _ (by omega)]; exact hfr a ha
              · skip
                have c121o := Int64.not_le.mp c121
                have hlast : 0 < i ∧ ¬ coS Y P u (rd Lk (f + 66)) (rd Lk (f + 67)) ≤ bf / 2 := ⟨by omega, c121⟩
                refine x_iconst 150 C (v := 0) dX3_correct_150 rfl ?_
                refine x_iret 151 C dX3_correct_151 rfl rfl (Nat.le_refl _) (xN.intro ?_)
                have hz : coN Y P u (I f 6) R 0 0 (rd L (f + 66)) (rd L (f + 67)) = none := by rw [hS, show R - i = (R - (i + 1)) + 1 by omega, coN, if_neg hn2, if_neg hgt, if_pos hlast]
                exact ⟨by rw [hz]; rfl, rfl, (fun c hc => by rw [hz] at hc; cases hc), fun a ha => by rw [hw107r3 _ (by omega) (by omega) (by omega)]; rw [eL78, cw_ne _ _ (by omega)]; rw [eL50, cw_ne _ _ (by omega)]; rw [hw2r18 _ (by omega)]; exact hfr a ha⟩
          · skip
            have c119o := Int64.not_lt.mp c119
            have hle : coS Y P u (rd Lk (f + 66)) (rd Lk (f + 67)) ≤ (I f 6).toInt64 := Int64.not_lt.mp c119
            refine x_iconst 131 C (v := 1) dX3_correct_131 rfl ?_
            refine x_iret 132 C dX3_correct_132 rfl rfl (Nat.le_refl _) (xN.intro ?_)
            have hz : coN Y P u (I f 6) R 0 0 (rd L (f + 66)) (rd L (f + 67)) = some (addC (rd Lk (f + 66)) (coU Y P u (rd Lk (f + 66)) (rd Lk (f + 67))), addC (rd Lk (f + 67)) (coV Y P u (rd Lk (f + 66)) (rd Lk (f + 67)))) := by rw [hS, show R - i = (R - (i + 1)) + 1 by omega, coN, if_neg hn2, if_pos hle]
            exact ⟨by rw [hz]; rfl, rfl, (fun c hc => by rw [hz] at hc; cases hc; exact ⟨k113, k114⟩), fun a ha => by rw [hw107r3 _ (by omega) (by omega) (by omega)]; rw [eL78, cw_ne _ _ (by omega)]; rw [eL50, cw_ne _ _ (by omega)]; rw [hw2r18 _ (by omega)]; exact hfr a ha⟩
        · skip
          have hn := ite01 c112
          have hn2 : syN Y P u (rd Lk (f + 66)) (rd Lk (f + 67)) = 0 := by simp only [k79, k80, k81, k82, k83, k84, k85, k86, k87, k88, k89, k90, k91, k92, k93, k94, k95, k96, k97, k98, k99, k100, k101, k102] at hn; exact hn
          refine x_iconst 109 C (v := 0) dX3_correct_109 rfl ?_
          refine x_iret 110 C dX3_correct_110 rfl rfl (Nat.le_refl _) (xN.intro ?_)
          have hz : coN Y P u (I f 6) R 0 0 (rd L (f + 66)) (rd L (f + 67)) = none := by rw [hS, show R - i = (R - (i + 1)) + 1 by omega, coN, if_pos hn2]
          exact ⟨by rw [hz]; rfl, rfl, (fun c hc => by rw [hz] at hc; cases hc), fun a ha => by rw [hw107r3 _ (by omega) (by omega) (by omega)]; rw [eL78, cw_ne _ _ (by omega)]; rw [eL50, cw_ne _ _ (by omega)]; rw [hw2r18 _ (by omega)]; exact hfr a ha⟩
  refine x_sub [(0, .ref f), (1, .int (nI P)), (2, .long u), (4, .long 0), (6, .int 0)] [2, 3, 4, 1, 0] rfl ?_
  exact loop6 (R + 1) 0 L 0 (by omega) (by omega) rfl (fun _ _ => rfl)
