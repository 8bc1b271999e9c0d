theorem dX3_residue_0 : decode cX3_residue 0 = .ok (.aload_n 0, 1) := by decide +kernel
theorem dX3_residue_1 : decode cX3_residue 1 = .ok (.getfield 10, 3) := by decide +kernel
theorem dX3_residue_4 : decode cX3_residue 4 = .ok (.aload_n 1, 1) := by decide +kernel
theorem dX3_residue_5 : decode cX3_residue 5 = .ok (.getfield 73, 3) := by decide +kernel
theorem dX3_residue_8 : decode cX3_residue 8 = .ok (.aload_n 1, 1) := by decide +kernel
theorem dX3_residue_9 : decode cX3_residue 9 = .ok (.getfield 78, 3) := by decide +kernel
theorem dX3_residue_12 : decode cX3_residue 12 = .ok (.aload_n 1, 1) := by decide +kernel
theorem dX3_residue_13 : decode cX3_residue 13 = .ok (.getfield 64, 3) := by decide +kernel
theorem dX3_residue_16 : decode cX3_residue 16 = .ok (.aload_n 1, 1) := by decide +kernel
theorem dX3_residue_17 : decode cX3_residue 17 = .ok (.invokevirtual 79, 3) := by decide +kernel
theorem dX3_residue_20 : decode cX3_residue 20 = .ok (.invokevirtual 99, 3) := by decide +kernel
theorem dX3_residue_23 : decode cX3_residue 23 = .ok (.aload_n 0, 1) := by decide +kernel
theorem dX3_residue_24 : decode cX3_residue 24 = .ok (.getfield 10, 3) := by decide +kernel
theorem dX3_residue_27 : decode cX3_residue 27 = .ok (.iconst 0, 1) := by decide +kernel
theorem dX3_residue_28 : decode cX3_residue 28 = .ok (.invokevirtual 115, 3) := by decide +kernel
theorem dX3_residue_31 : decode cX3_residue 31 = .ok (.getfield 110, 3) := by decide +kernel
theorem dX3_residue_34 : decode cX3_residue 34 = .ok (.invokevirtual 146, 3) := by decide +kernel
theorem dX3_residue_37 : decode cX3_residue 37 = .ok (.aload_n 0, 1) := by decide +kernel
theorem dX3_residue_38 : decode cX3_residue 38 = .ok (.getfield 10, 3) := by decide +kernel
theorem dX3_residue_41 : decode cX3_residue 41 = .ok (.iconst 1, 1) := by decide +kernel
theorem dX3_residue_42 : decode cX3_residue 42 = .ok (.invokevirtual 115, 3) := by decide +kernel
theorem dX3_residue_45 : decode cX3_residue 45 = .ok (.getfield 110, 3) := by decide +kernel
theorem dX3_residue_48 : decode cX3_residue 48 = .ok (.invokevirtual 146, 3) := by decide +kernel
theorem dX3_residue_51 : decode cX3_residue 51 = .ok (.invokestatic 149, 3) := by decide +kernel
theorem dX3_residue_54 : decode cX3_residue 54 = .ok (.lstore_n 2, 1) := by decide +kernel
theorem dX3_residue_55 : decode cX3_residue 55 = .ok (.lload_n 2, 1) := by decide +kernel
theorem dX3_residue_56 : decode cX3_residue 56 = .ok (.aload_n 1, 1) := by decide +kernel
theorem dX3_residue_57 : decode cX3_residue 57 = .ok (.invokevirtual 79, 3) := by decide +kernel
theorem dX3_residue_60 : decode cX3_residue 60 = .ok (.invokestatic 153, 3) := by decide +kernel
theorem dX3_residue_63 : decode cX3_residue 63 = .ok (.ireturn, 1) := by decide +kernel
set_option maxHeartbeats 4000000 in
set_option maxRecDepth 100000 in
theorem t_X3_residue (l : Launch) (D : xD) (z n : Nat) (G : xG) (I : xI) (L : xL) (f : Nat) (a : Nat) (P : Nat) (Y : xSy) (hF : shF G f) (zf : z ≤ f) (hPa : shP G a) (daf : a + 2 < f ∨ f + 68 ≤ a) (hP3 : I a 3 = nI P) (hP : P ≤ 1024) (hA : aimedS I (f + 1) Y) : xM0 l D z yX3_residue cX3_residue 4 (some .int) 4 104 [.ref f, .ref a] n G I L (fun v' I' L' => v' = (some (.int (cthou (lmax (sizC (syE0 Y evV (rd L (a + 1)) (rd L (a + 2)) (punit (I a 6)))) (sizC (syE1 Y evV (rd L (a + 1)) (rd L (a + 2)) (punit (I a 6))))) (punit (I a 6))))) ∧ I' = I ∧ (∀ q, (q < f ∨ f + 68 ≤ q) → L' q = L q)) := by
  refine xM.of (by decide) (Nat.le_of_ble_eq_true rfl) (fun p e s m args below meth c C hnm hsz => ?_)
  refine x_lv [(0, .ref f), (1, .ref a)] rfl ?_
  refine x_aload_n 0 C dX3_residue_0 rfl 0 rfl ?_
  refine x_getr 1 C (b := f + 1) dX3_residue_1 ff_X3_10 rfl hF.1 rfl ?_
  refine x_aload_n 4 C dX3_residue_4 rfl 1 rfl ?_
  refine x_getr 5 C (b := a + 1) dX3_residue_5 ff_X3_73 rfl hPa.1 rfl ?_
  refine x_aload_n 8 C dX3_residue_8 rfl 1 rfl ?_
  refine x_getr 9 C (b := a + 2) dX3_residue_9 ff_X3_78 rfl hPa.1 rfl ?_
  refine x_aload_n 12 C dX3_residue_12 rfl 1 rfl ?_
  refine x_geti 13 C dX3_residue_13 ff_X3_64 hPa.1 ?_
  refine x_int (nI P) hP3 ?_
  refine x_aload_n 16 C dX3_residue_16 rfl 1 rfl ?_
  refine x_callVe 17 C dX3_residue_17 (As := []) (rest := [.int (nI P), .ref (a + 2), .ref (a + 1), .ref (f + 1)]) [.long (punit (I a 6)), .int (nI P), .ref (a + 2), .ref (a + 1), .ref (f + 1)] (t_X6_unit l D z n G I L a hPa) mt_X6_unit km_X3_79 ki_X6_unit ks_X6_unit hPa.1 ⟨by decide, rfl⟩ rfl rfl (Nat.le_of_ble_eq_true rfl) ⟨⟨by decide, by decide⟩, by decide, by decide⟩ (fun I1 L2 eI1 eL2 => ?_)
  replace eI1 := eI1.symm; subst eI1
  replace eL2 := eL2.symm; subst eL2
  refine x_callVp 20 C dX3_residue_20 (As := [.ref (a + 1), .ref (a + 2), .int (nI P), .long (punit (I a 6))]) (rest := []) (t_X5_evaluate l D z n G I L (f + 1) (a + 1) (a + 2) P (punit (I a 6)) Y.1 Y.2.1 Y.2.2.1 Y.2.2.2.1 Y.2.2.2.2.1 Y.2.2.2.2.2.1 Y.2.2.2.2.2.2.1 Y.2.2.2.2.2.2.2 hF.2.1 hPa.2.1 hPa.2.2 (by omega) (by first | omega | assumption | decide) (by first | omega | assumption | decide) (by first | omega | assumption | decide) (punit_nz _) hA) mt_X5_evaluate km_X3_99 ki_X5_evaluate ks_X5_evaluate hF.2.1.1 ⟨by decide, rfl⟩ rfl (Nat.le_of_ble_eq_true rfl) ⟨⟨by decide, by decide⟩, by decide, by decide⟩ (fun w3 I4 L5 hw3 => ?_)
  obtain ⟨hw3v, eI4, hw3r0, hw3r1, hw3r2, hw3r3, hw3r4, hw3r5, hw3r6, hw3r7, hw3r8, hw3r9, hw3r10, hw3r11, hw3r12, hw3r13, hw3r14, hw3r15, hw3r16, hw3r17, hw3r18⟩ := hw3
  subst hw3v
  refine x_st [] rfl ?_
  replace eI4 := eI4.symm; subst eI4
  have k6 : rd L5 (f + 1 + 26 + 20 * 0 + 1) = evV Y.1 Y.2.1 (powC (rd L (a + 1)) (rd L (a + 2)) (punit (I a 6))) 10 := hw3r0
  have k7 : rd L5 (f + 1 + 26 + 20 * 1 + 1) = evV Y.2.2.1 Y.2.2.2.1 (powC (rd L (a + 1)) (rd L (a + 2)) (punit (I a 6))) 10 := hw3r9
  have k8 : rd L5 (f + 1 + 26 + 20 * 0 + 1) = syE0 Y evV (rd L (a + 1)) (rd L (a + 2)) (punit (I a 6)) := k6
  have k9 : rd L5 (f + 1 + 26 + 20 * 1 + 1) = syE1 Y evV (rd L (a + 1)) (rd L (a + 2)) (punit (I a 6)) := k7
  refine x_aload_n 23 C dX3_residue_23 rfl 0 rfl ?_
  refine x_getr 24 C (b := f + 1) dX3_residue_24 ff_X3_10 rfl hF.1 rfl ?_
  refine x_iconst 27 C (v := 0) dX3_residue_27 rfl ?_
  refine x_callVe 28 C dX3_residue_28 (As := [.int 0]) (rest := []) [.ref (f + 1 + 26 + 20 * 0)] (t_X5_end l D z n G I L5 (f + 1) 0 hF.2.1 (by first | omega | assumption | decide)) mt_X5_end km_X3_115 ki_X5_end ks_X5_end hF.2.1.1 ⟨by decide, rfl⟩ rfl rfl (Nat.le_of_ble_eq_true rfl) ⟨⟨by decide, by decide⟩, by decide, by decide⟩ (fun I10 L11 eI10 eL11 => ?_)
  replace eI10 := eI10.symm; subst eI10
  replace eL11 := eL11.symm; subst eL11
  refine x_getr 31 C (b := f + 1 + 26 + 20 * 0 + 1) dX3_residue_31 ff_X3_110 rfl (hF.2.1.2.2.2.2.2.2.2 0 (by decide)).2.2.1.1 rfl ?_
  refine x_callVe 34 C dX3_residue_34 (As := []) (rest := []) [.long (sizC (rd L5 (f + 1 + 26 + 20 * 0 + 1)))] (t_X0_size_c l D z n G I L5 (f + 1 + 26 + 20 * 0 + 1) (hF.2.1.2.2.2.2.2.2.2 0 (by decide)).2.2.1.2.1) mt_X0_size km_X3_146 ki_X0_size ks_X0_size (hF.2.1.2.2.2.2.2.2.2 0 (by decide)).2.2.1.2.1 ⟨by decide, rfl⟩ rfl rfl (Nat.le_of_ble_eq_true rfl) ⟨⟨by decide, by decide⟩, by decide, by decide⟩ (fun I12 L13 eI12 eL13 => ?_)
  replace eI12 := eI12.symm; subst eI12
  replace eL13 := eL13.symm; subst eL13
  refine x_long (sizC (syE0 Y evV (rd L (a + 1)) (rd L (a + 2)) (punit (I a 6)))) (by rw [k8]) ?_
  refine x_aload_n 37 C dX3_residue_37 rfl 0 rfl ?_
  refine x_getr 38 C (b := f + 1) dX3_residue_38 ff_X3_10 rfl hF.1 rfl ?_
  refine x_iconst 41 C (v := 1) dX3_residue_41 rfl ?_
  refine x_callVe 42 C dX3_residue_42 (As := [.int 1]) (rest := [.long (sizC (syE0 Y evV (rd L (a + 1)) (rd L (a + 2)) (punit (I a 6))))]) [.ref (f + 1 + 26 + 20 * 1), .long (sizC (syE0 Y evV (rd L (a + 1)) (rd L (a + 2)) (punit (I a 6))))] (t_X5_end l D z n G I L5 (f + 1) 1 hF.2.1 (by first | omega | assumption | decide)) mt_X5_end km_X3_115 ki_X5_end ks_X5_end hF.2.1.1 ⟨by decide, rfl⟩ rfl rfl (Nat.le_of_ble_eq_true rfl) ⟨⟨by decide, by decide⟩, by decide, by decide⟩ (fun I14 L15 eI14 eL15 => ?_)
  replace eI14 := eI14.symm; subst eI14
  replace eL15 := eL15.symm; subst eL15
  refine x_getr 45 C (b := f + 1 + 26 + 20 * 1 + 1) dX3_residue_45 ff_X3_110 rfl (hF.2.1.2.2.2.2.2.2.2 1 (by decide)).2.2.1.1 rfl ?_
  refine x_callVe 48 C dX3_residue_48 (As := []) (rest := [.long (sizC (syE0 Y evV (rd L (a + 1)) (rd L (a + 2)) (punit (I a 6))))]) [.long (sizC (rd L5 (f + 1 + 26 + 20 * 1 + 1))), .long (sizC (syE0 Y evV (rd L (a + 1)) (rd L (a + 2)) (punit (I a 6))))] (t_X0_size_c l D z n G I L5 (f + 1 + 26 + 20 * 1 + 1) (hF.2.1.2.2.2.2.2.2.2 1 (by decide)).2.2.1.2.1) mt_X0_size km_X3_146 ki_X0_size ks_X0_size (hF.2.1.2.2.2.2.2.2.2 1 (by decide)).2.2.1.2.1 ⟨by decide, rfl⟩ rfl rfl (Nat.le_of_ble_eq_true rfl) ⟨⟨by decide, by decide⟩, by decide, by decide⟩ (fun I16 L17 eI16 eL17 => ?_)
  replace eI16 := eI16.symm; subst eI16
  replace eL17 := eL17.symm; subst eL17
  refine x_long (sizC (syE1 Y evV (rd L (a + 1)) (rd L (a + 2)) (punit (I a 6)))) (by rw [k9]) ?_
  refine x_mmaxl 51 C dX3_residue_51 km_X3_149 kt_J9_max_f86c9 kn_J9 kc_J9_max_f86c9 ⟨by decide, Nat.le_of_ble_eq_true rfl, by decide, by decide⟩ ?_
  refine x_long (lmax (sizC (syE0 Y evV (rd L (a + 1)) (rd L (a + 2)) (punit (I a 6)))) (sizC (syE1 Y evV (rd L (a + 1)) (rd L (a + 2)) (punit (I a 6))))) rfl ?_
  refine x_topl (fun v18 ev18 => ?_)
  refine x_lstore_n 54 C [(2, .long v18), (0, .ref f), (1, .ref a)] dX3_residue_54 rfl (by decide) rfl ?_
  refine x_lload_n 55 C dX3_residue_55 rfl 0 rfl ?_
  refine x_aload_n 56 C dX3_residue_56 rfl 2 rfl ?_
  refine x_callVe 57 C dX3_residue_57 (As := []) (rest := [.long v18]) [.long (punit (I a 6)), .long v18] (t_X6_unit l D z n G I L5 a hPa) mt_X6_unit km_X3_79 ki_X6_unit ks_X6_unit hPa.1 ⟨by decide, rfl⟩ rfl rfl (Nat.le_of_ble_eq_true rfl) ⟨⟨by decide, by decide⟩, by decide, by decide⟩ (fun I19 L20 eI19 eL20 => ?_)
  replace eI19 := eI19.symm; subst eI19
  replace eL20 := eL20.symm; subst eL20
  refine x_callSe 60 C dX3_residue_60 (As := [.long v18, .long (punit (I a 6))]) (rest := []) [.int (cthou v18 (punit (I a 6)))] (t_X0_thousandths l D z n G I L5 v18 (punit (I a 6)) ) mt_X0_thousandths km_X3_153 kt_X0_thousandths rfl rfl (Nat.le_of_ble_eq_true rfl) ⟨⟨by decide, by decide⟩, by decide, by decide⟩ (fun I21 L22 eI21 eL22 => ?_)
  replace eI21 := eI21.symm; subst eI21
  replace eL22 := eL22.symm; subst eL22
  refine x_iret 63 C dX3_residue_63 rfl rfl (Nat.le_refl _) (xN.intro ?_)
  subst ev18
  exact ⟨rfl, rfl, fun q hq => by rw [hw3r18 _ (by omega)]⟩
