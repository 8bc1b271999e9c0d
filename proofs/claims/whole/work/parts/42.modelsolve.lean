/-! The Model: linear equations -/
theorem mRp_congr {L L' : xL} {a j : Nat} (h : L' a = L a) : mRp L' a j = mRp L a j := by unfold mRp; rw [h]
theorem mrC_1 {L : xL} {A : Nat} {c : xC} (h : mrC L A = c) : L A 7 = c.1 ∧ L A 8 = c.2 := ⟨congrArg Prod.fst h, congrArg Prod.snd h⟩
theorem dX12_cross_0 : decode cX12_cross 0 = .ok (.aload_n 0, 1) := by decide +kernel
theorem dX12_cross_1 : decode cX12_cross 1 = .ok (.aload_n 0, 1) := by decide +kernel
theorem dX12_cross_2 : decode cX12_cross 2 = .ok (.getfield 45, 3) := by decide +kernel
theorem dX12_cross_5 : decode cX12_cross 5 = .ok (.iload_n 1, 1) := by decide +kernel
theorem dX12_cross_6 : decode cX12_cross 6 = .ok (.laload, 1) := by decide +kernel
theorem dX12_cross_7 : decode cX12_cross 7 = .ok (.aload_n 0, 1) := by decide +kernel
theorem dX12_cross_8 : decode cX12_cross 8 = .ok (.getfield 45, 3) := by decide +kernel
theorem dX12_cross_11 : decode cX12_cross 11 = .ok (.iload_n 1, 1) := by decide +kernel
theorem dX12_cross_12 : decode cX12_cross 12 = .ok (.iconst 1, 1) := by decide +kernel
theorem dX12_cross_13 : decode cX12_cross 13 = .ok (.iadd, 1) := by decide +kernel
theorem dX12_cross_14 : decode cX12_cross 14 = .ok (.laload, 1) := by decide +kernel
theorem dX12_cross_15 : decode cX12_cross 15 = .ok (.aload_n 0, 1) := by decide +kernel
theorem dX12_cross_16 : decode cX12_cross 16 = .ok (.getfield 45, 3) := by decide +kernel
theorem dX12_cross_19 : decode cX12_cross 19 = .ok (.iload_n 2, 1) := by decide +kernel
theorem dX12_cross_20 : decode cX12_cross 20 = .ok (.laload, 1) := by decide +kernel
theorem dX12_cross_21 : decode cX12_cross 21 = .ok (.aload_n 0, 1) := by decide +kernel
theorem dX12_cross_22 : decode cX12_cross 22 = .ok (.getfield 45, 3) := by decide +kernel
theorem dX12_cross_25 : decode cX12_cross 25 = .ok (.iload_n 2, 1) := by decide +kernel
theorem dX12_cross_26 : decode cX12_cross 26 = .ok (.iconst 1, 1) := by decide +kernel
theorem dX12_cross_27 : decode cX12_cross 27 = .ok (.iadd, 1) := by decide +kernel
theorem dX12_cross_28 : decode cX12_cross 28 = .ok (.laload, 1) := by decide +kernel
theorem dX12_cross_29 : decode cX12_cross 29 = .ok (.invokevirtual 100, 3) := by decide +kernel
theorem dX12_cross_32 : decode cX12_cross 32 = .ok (.aload_n 0, 1) := by decide +kernel
theorem dX12_cross_33 : decode cX12_cross 33 = .ok (.getfield 54, 3) := by decide +kernel
theorem dX12_cross_36 : decode cX12_cross 36 = .ok (.iconst 0, 1) := by decide +kernel
theorem dX12_cross_37 : decode cX12_cross 37 = .ok (.aload_n 0, 1) := by decide +kernel
theorem dX12_cross_38 : decode cX12_cross 38 = .ok (.getfield 87, 3) := by decide +kernel
theorem dX12_cross_41 : decode cX12_cross 41 = .ok (.lastore, 1) := by decide +kernel
theorem dX12_cross_42 : decode cX12_cross 42 = .ok (.aload_n 0, 1) := by decide +kernel
theorem dX12_cross_43 : decode cX12_cross 43 = .ok (.getfield 54, 3) := by decide +kernel
theorem dX12_cross_46 : decode cX12_cross 46 = .ok (.iconst 1, 1) := by decide +kernel
theorem dX12_cross_47 : decode cX12_cross 47 = .ok (.aload_n 0, 1) := by decide +kernel
theorem dX12_cross_48 : decode cX12_cross 48 = .ok (.getfield 90, 3) := by decide +kernel
theorem dX12_cross_51 : decode cX12_cross 51 = .ok (.lastore, 1) := by decide +kernel
theorem dX12_cross_52 : decode cX12_cross 52 = .ok (.aload_n 0, 1) := by decide +kernel
theorem dX12_cross_53 : decode cX12_cross 53 = .ok (.aload_n 0, 1) := by decide +kernel
theorem dX12_cross_54 : decode cX12_cross 54 = .ok (.getfield 45, 3) := by decide +kernel
theorem dX12_cross_57 : decode cX12_cross 57 = .ok (.iload_n 3, 1) := by decide +kernel
theorem dX12_cross_58 : decode cX12_cross 58 = .ok (.laload, 1) := by decide +kernel
theorem dX12_cross_59 : decode cX12_cross 59 = .ok (.aload_n 0, 1) := by decide +kernel
theorem dX12_cross_60 : decode cX12_cross 60 = .ok (.getfield 45, 3) := by decide +kernel
theorem dX12_cross_63 : decode cX12_cross 63 = .ok (.iload_n 3, 1) := by decide +kernel
theorem dX12_cross_64 : decode cX12_cross 64 = .ok (.iconst 1, 1) := by decide +kernel
theorem dX12_cross_65 : decode cX12_cross 65 = .ok (.iadd, 1) := by decide +kernel
theorem dX12_cross_66 : decode cX12_cross 66 = .ok (.laload, 1) := by decide +kernel
theorem dX12_cross_67 : decode cX12_cross 67 = .ok (.aload_n 0, 1) := by decide +kernel
theorem dX12_cross_68 : decode cX12_cross 68 = .ok (.getfield 45, 3) := by decide +kernel
theorem dX12_cross_71 : decode cX12_cross 71 = .ok (.iload 4, 2) := by decide +kernel
theorem dX12_cross_73 : decode cX12_cross 73 = .ok (.laload, 1) := by decide +kernel
theorem dX12_cross_74 : decode cX12_cross 74 = .ok (.aload_n 0, 1) := by decide +kernel
theorem dX12_cross_75 : decode cX12_cross 75 = .ok (.getfield 45, 3) := by decide +kernel
theorem dX12_cross_78 : decode cX12_cross 78 = .ok (.iload 4, 2) := by decide +kernel
theorem dX12_cross_80 : decode cX12_cross 80 = .ok (.iconst 1, 1) := by decide +kernel
theorem dX12_cross_81 : decode cX12_cross 81 = .ok (.iadd, 1) := by decide +kernel
theorem dX12_cross_82 : decode cX12_cross 82 = .ok (.laload, 1) := by decide +kernel
theorem dX12_cross_83 : decode cX12_cross 83 = .ok (.invokevirtual 100, 3) := by decide +kernel
theorem dX12_cross_86 : decode cX12_cross 86 = .ok (.aload_n 0, 1) := by decide +kernel
theorem dX12_cross_87 : decode cX12_cross 87 = .ok (.aload_n 0, 1) := by decide +kernel
theorem dX12_cross_88 : decode cX12_cross 88 = .ok (.getfield 54, 3) := by decide +kernel
theorem dX12_cross_91 : decode cX12_cross 91 = .ok (.iconst 0, 1) := by decide +kernel
theorem dX12_cross_92 : decode cX12_cross 92 = .ok (.laload, 1) := by decide +kernel
theorem dX12_cross_93 : decode cX12_cross 93 = .ok (.aload_n 0, 1) := by decide +kernel
theorem dX12_cross_94 : decode cX12_cross 94 = .ok (.getfield 87, 3) := by decide +kernel
theorem dX12_cross_97 : decode cX12_cross 97 = .ok (.lsub, 1) := by decide +kernel
theorem dX12_cross_98 : decode cX12_cross 98 = .ok (.aload_n 0, 1) := by decide +kernel
theorem dX12_cross_99 : decode cX12_cross 99 = .ok (.getfield 54, 3) := by decide +kernel
theorem dX12_cross_102 : decode cX12_cross 102 = .ok (.iconst 1, 1) := by decide +kernel
theorem dX12_cross_103 : decode cX12_cross 103 = .ok (.laload, 1) := by decide +kernel
theorem dX12_cross_104 : decode cX12_cross 104 = .ok (.aload_n 0, 1) := by decide +kernel
theorem dX12_cross_105 : decode cX12_cross 105 = .ok (.getfield 90, 3) := by decide +kernel
theorem dX12_cross_108 : decode cX12_cross 108 = .ok (.lsub, 1) := by decide +kernel
theorem dX12_cross_109 : decode cX12_cross 109 = .ok (.invokevirtual 93, 3) := by decide +kernel
theorem dX12_cross_112 : decode cX12_cross 112 = .ok (.return_, 1) := by decide +kernel
set_option maxHeartbeats 1000000 in
set_option maxRecDepth 100000 in
theorem t_X12_cross (l : Launch) (D : xD) (z n : Nat) (G : xG) (I : xI) (L : xL) (A : Nat) (a : Nat) (b : Nat) (d : Nat) (e0 : Nat) (u : Int64) (hM : shMo G A) (zA : z ≤ A) (hva : a < 11) (hvb : b < 11) (hvd : d < 11) (hve : e0 < 11) (hu9 : L A 9 = u) (hu : ¬ u = 0) : xM0 l D z yX12_cross cX12_cross 5 none 3 73 [.ref A, .int (nI a), .int (nI b), .int (nI d), .int (nI e0)] n G I L (fun v' I' L' => v' = none ∧ I' = I ∧ (mrC L' A = detC u (mRp L (A + 10) a) (mRp L (A + 10) b) (mRp L (A + 10) d) (mRp L (A + 10) e0)) ∧ (∀ q, q ≠ A → q ≠ A + 13 → L' q = L q) ∧ (∀ j, j ≠ 7 → j ≠ 8 → L' A j = L A j)) := by
  refine xM.of (by decide) (Nat.le_of_ble_eq_true rfl) (fun p e s m args below meth c C hnm hsz => ?_)
  refine x_lv [(0, .ref A), (1, .int (nI a)), (2, .int (nI b)), (3, .int (nI d)), (4, .int (nI e0))] rfl ?_
  refine x_aload_n 0 C dX12_cross_0 rfl 0 rfl ?_
  refine x_aload_n 1 C dX12_cross_1 rfl 0 rfl ?_
  refine x_getr 2 C (b := A + 10) dX12_cross_2 ff_X12_45 rfl hM.1 rfl ?_
  refine x_iload_n 5 C dX12_cross_5 rfl 1 rfl ?_
  refine x_lald 6 C (j := a) dX12_cross_6 hM.2.2.2.2.2.2.2.2.2.2.1 (xIx_nI (by omega) (by decide)) ?_
  refine x_aload_n 7 C dX12_cross_7 rfl 0 rfl ?_
  refine x_getr 8 C (b := A + 10) dX12_cross_8 ff_X12_45 rfl hM.1 rfl ?_
  refine x_iload_n 11 C dX12_cross_11 rfl 1 rfl ?_
  refine x_iconst 12 C (v := 1) dX12_cross_12 rfl ?_
  refine x_iadd 13 C dX12_cross_13 ?_
  refine x_int (nI (a + 1)) (nI_add a 1) ?_
  refine x_lald 14 C (j := (a + 1)) dX12_cross_14 hM.2.2.2.2.2.2.2.2.2.2.1 (xIx_nI (by omega) (by decide)) ?_
  refine x_aload_n 15 C dX12_cross_15 rfl 0 rfl ?_
  refine x_getr 16 C (b := A + 10) dX12_cross_16 ff_X12_45 rfl hM.1 rfl ?_
  refine x_iload_n 19 C dX12_cross_19 rfl 2 rfl ?_
  refine x_lald 20 C (j := b) dX12_cross_20 hM.2.2.2.2.2.2.2.2.2.2.1 (xIx_nI (by omega) (by decide)) ?_
  refine x_aload_n 21 C dX12_cross_21 rfl 0 rfl ?_
  refine x_getr 22 C (b := A + 10) dX12_cross_22 ff_X12_45 rfl hM.1 rfl ?_
  refine x_iload_n 25 C dX12_cross_25 rfl 2 rfl ?_
  refine x_iconst 26 C (v := 1) dX12_cross_26 rfl ?_
  refine x_iadd 27 C dX12_cross_27 ?_
  refine x_int (nI (b + 1)) (nI_add b 1) ?_
  refine x_lald 28 C (j := (b + 1)) dX12_cross_28 hM.2.2.2.2.2.2.2.2.2.2.1 (xIx_nI (by omega) (by decide)) ?_
  refine x_callVe 29 C dX12_cross_29 (As := [.long (L (A + 10) a), .long (L (A + 10) (a + 1)), .long (L (A + 10) b), .long (L (A + 10) (b + 1))]) (rest := []) [] (t_X12_times l D z n G I L A (L (A + 10) a) (L (A + 10) (a + 1)) (L (A + 10) b) (L (A + 10) (b + 1)) u hM (by omega) (by first | assumption | omega | decide) (by first | assumption | omega | decide)) mt_X12_times km_X12_100 ki_X12_times ks_X12_times hM.1 ⟨by decide, rfl⟩ rfl rfl (Nat.le_of_ble_eq_true rfl) ⟨⟨by decide, by decide⟩, by decide, by decide⟩ (fun I1 L2 eI1 eL2 => ?_)
  replace eI1 := eI1.symm; subst eI1
  refine x_aload_n 32 C dX12_cross_32 rfl 0 rfl ?_
  refine x_getr 33 C (b := A + 13) dX12_cross_33 ff_X12_54 rfl hM.1 rfl ?_
  refine x_iconst 36 C (v := 0) dX12_cross_36 rfl ?_
  refine x_aload_n 37 C dX12_cross_37 rfl 0 rfl ?_
  refine x_getl 38 C dX12_cross_38 ff_X12_87 hM.1 ?_
  refine x_long ((mulC u (mRp L (A + 10) a) (mRp L (A + 10) b)).1) (by rw [eL2, mwC_7]; rfl) ?_
  refine x_last 41 C (j := 0) dX12_cross_41 hM.2.2.2.2.2.2.2.2.2.2.2.2.2.1 (by omega) ⟨by decide, by decide, by decide⟩ (fun L3 eL3 => ?_)
  refine x_aload_n 42 C dX12_cross_42 rfl 0 rfl ?_
  refine x_getr 43 C (b := A + 13) dX12_cross_43 ff_X12_54 rfl hM.1 rfl ?_
  refine x_iconst 46 C (v := 1) dX12_cross_46 rfl ?_
  refine x_aload_n 47 C dX12_cross_47 rfl 0 rfl ?_
  refine x_getl 48 C dX12_cross_48 ff_X12_90 hM.1 ?_
  refine x_long ((mulC u (mRp L (A + 10) a) (mRp L (A + 10) b)).2) (by rw [eL3, xup_row _ _ (by omega), eL2, mwC_8]; rfl) ?_
  refine x_last 51 C (j := 1) dX12_cross_51 hM.2.2.2.2.2.2.2.2.2.2.2.2.2.1 (by omega) ⟨by decide, by decide, by decide⟩ (fun L4 eL4 => ?_)
  refine x_aload_n 52 C dX12_cross_52 rfl 0 rfl ?_
  refine x_aload_n 53 C dX12_cross_53 rfl 0 rfl ?_
  refine x_getr 54 C (b := A + 10) dX12_cross_54 ff_X12_45 rfl hM.1 rfl ?_
  refine x_iload_n 57 C dX12_cross_57 rfl 3 rfl ?_
  refine x_lald 58 C (j := d) dX12_cross_58 hM.2.2.2.2.2.2.2.2.2.2.1 (xIx_nI (by omega) (by decide)) ?_
  refine x_long (L (A + 10) d) (by rw [eL4]; (first | rw [xup_row _ _ (by omega)] | rw [mwC_row _ _ (by omega)]); rw [eL3]; (first | rw [xup_row _ _ (by omega)] | rw [mwC_row _ _ (by omega)]); rw [eL2]; (first | rw [xup_row _ _ (by omega)] | rw [mwC_row _ _ (by omega)])) ?_
  refine x_aload_n 59 C dX12_cross_59 rfl 0 rfl ?_
  refine x_getr 60 C (b := A + 10) dX12_cross_60 ff_X12_45 rfl hM.1 rfl ?_
  refine x_iload_n 63 C dX12_cross_63 rfl 3 rfl ?_
  refine x_iconst 64 C (v := 1) dX12_cross_64 rfl ?_
  refine x_iadd 65 C dX12_cross_65 ?_
  refine x_int (nI (d + 1)) (nI_add d 1) ?_
  refine x_lald 66 C (j := (d + 1)) dX12_cross_66 hM.2.2.2.2.2.2.2.2.2.2.1 (xIx_nI (by omega) (by decide)) ?_
  refine x_long (L (A + 10) (d + 1)) (by rw [eL4]; (first | rw [xup_row _ _ (by omega)] | rw [mwC_row _ _ (by omega)]); rw [eL3]; (first | rw [xup_row _ _ (by omega)] | rw [mwC_row _ _ (by omega)]); rw [eL2]; (first | rw [xup_row _ _ (by omega)] | rw [mwC_row _ _ (by omega)])) ?_
  refine x_aload_n 67 C dX12_cross_67 rfl 0 rfl ?_
  refine x_getr 68 C (b := A + 10) dX12_cross_68 ff_X12_45 rfl hM.1 rfl ?_
  refine x_iload 71 C dX12_cross_71 4 rfl ?_
  refine x_lald 73 C (j := e0) dX12_cross_73 hM.2.2.2.2.2.2.2.2.2.2.1 (xIx_nI (by omega) (by decide)) ?_
  refine x_long (L (A + 10) e0) (by rw [eL4]; (first | rw [xup_row _ _ (by omega)] | rw [mwC_row _ _ (by omega)]); rw [eL3]; (first | rw [xup_row _ _ (by omega)] | rw [mwC_row _ _ (by omega)]); rw [eL2]; (first | rw [xup_row _ _ (by omega)] | rw [mwC_row _ _ (by omega)])) ?_
  refine x_aload_n 74 C dX12_cross_74 rfl 0 rfl ?_
  refine x_getr 75 C (b := A + 10) dX12_cross_75 ff_X12_45 rfl hM.1 rfl ?_
  refine x_iload 78 C dX12_cross_78 4 rfl ?_
  refine x_iconst 80 C (v := 1) dX12_cross_80 rfl ?_
  refine x_iadd 81 C dX12_cross_81 ?_
  refine x_int (nI (e0 + 1)) (nI_add e0 1) ?_
  refine x_lald 82 C (j := (e0 + 1)) dX12_cross_82 hM.2.2.2.2.2.2.2.2.2.2.1 (xIx_nI (by omega) (by decide)) ?_
  refine x_long (L (A + 10) (e0 + 1)) (by rw [eL4]; (first | rw [xup_row _ _ (by omega)] | rw [mwC_row _ _ (by omega)]); rw [eL3]; (first | rw [xup_row _ _ (by omega)] | rw [mwC_row _ _ (by omega)]); rw [eL2]; (first | rw [xup_row _ _ (by omega)] | rw [mwC_row _ _ (by omega)])) ?_
  refine x_callVe 83 C dX12_cross_83 (As := [.long (L (A + 10) d), .long (L (A + 10) (d + 1)), .long (L (A + 10) e0), .long (L (A + 10) (e0 + 1))]) (rest := []) [] (t_X12_times l D z n G I L4 A (L (A + 10) d) (L (A + 10) (d + 1)) (L (A + 10) e0) (L (A + 10) (e0 + 1)) u hM (by omega) (by rw [eL4, xup_row _ _ (by omega), eL3, xup_row _ _ (by omega), eL2, mwC_ne _ _ (by decide) (by decide)]; exact hu9) (by first | assumption | omega | decide)) mt_X12_times km_X12_100 ki_X12_times ks_X12_times hM.1 ⟨by decide, rfl⟩ rfl rfl (Nat.le_of_ble_eq_true rfl) ⟨⟨by decide, by decide⟩, by decide, by decide⟩ (fun I5 L6 eI5 eL6 => ?_)
  replace eI5 := eI5.symm; subst eI5
  refine x_aload_n 86 C dX12_cross_86 rfl 0 rfl ?_
  refine x_aload_n 87 C dX12_cross_87 rfl 0 rfl ?_
  refine x_getr 88 C (b := A + 13) dX12_cross_88 ff_X12_54 rfl hM.1 rfl ?_
  refine x_iconst 91 C (v := 0) dX12_cross_91 rfl ?_
  refine x_lald 92 C (j := 0) dX12_cross_92 hM.2.2.2.2.2.2.2.2.2.2.2.2.2.1 ⟨by decide, by decide, by decide⟩ ?_
  refine x_long ((mulC u (mRp L (A + 10) a) (mRp L (A + 10) b)).1) (by rw [eL6, mwC_row _ _ (by omega), eL4, xup_at, if_neg (by decide), eL3, xup_self]) ?_
  refine x_aload_n 93 C dX12_cross_93 rfl 0 rfl ?_
  refine x_getl 94 C dX12_cross_94 ff_X12_87 hM.1 ?_
  refine x_long ((mulC u (mRp L (A + 10) d) (mRp L (A + 10) e0)).1) (by rw [eL6, mwC_7]; rfl) ?_
  refine x_lsub 97 C dX12_cross_97 ?_
  refine x_aload_n 98 C dX12_cross_98 rfl 0 rfl ?_
  refine x_getr 99 C (b := A + 13) dX12_cross_99 ff_X12_54 rfl hM.1 rfl ?_
  refine x_iconst 102 C (v := 1) dX12_cross_102 rfl ?_
  refine x_lald 103 C (j := 1) dX12_cross_103 hM.2.2.2.2.2.2.2.2.2.2.2.2.2.1 ⟨by decide, by decide, by decide⟩ ?_
  refine x_long ((mulC u (mRp L (A + 10) a) (mRp L (A + 10) b)).2) (by rw [eL6, mwC_row _ _ (by omega), eL4, xup_self]) ?_
  refine x_aload_n 104 C dX12_cross_104 rfl 0 rfl ?_
  refine x_getl 105 C dX12_cross_105 ff_X12_90 hM.1 ?_
  refine x_long ((mulC u (mRp L (A + 10) d) (mRp L (A + 10) e0)).2) (by rw [eL6, mwC_8]; rfl) ?_
  refine x_lsub 108 C dX12_cross_108 ?_
  refine x_callVe 109 C dX12_cross_109 (As := [.long (((mulC u (mRp L (A + 10) a) (mRp L (A + 10) b)).1) - ((mulC u (mRp L (A + 10) d) (mRp L (A + 10) e0)).1)), .long (((mulC u (mRp L (A + 10) a) (mRp L (A + 10) b)).2) - ((mulC u (mRp L (A + 10) d) (mRp L (A + 10) e0)).2))]) (rest := []) [] (t_X12_hold l D z n G I L6 A (((mulC u (mRp L (A + 10) a) (mRp L (A + 10) b)).1) - ((mulC u (mRp L (A + 10) d) (mRp L (A + 10) e0)).1)) (((mulC u (mRp L (A + 10) a) (mRp L (A + 10) b)).2) - ((mulC u (mRp L (A + 10) d) (mRp L (A + 10) e0)).2)) hM (by omega)) mt_X12_hold km_X12_93 ki_X12_hold ks_X12_hold hM.1 ⟨by decide, rfl⟩ rfl rfl (Nat.le_of_ble_eq_true rfl) ⟨⟨by decide, by decide⟩, by decide, by decide⟩ (fun I7 L8 eI7 eL8 => ?_)
  replace eI7 := eI7.symm; subst eI7
  refine x_vret 112 C dX12_cross_112 rfl (Nat.le_refl _) (xN.intro ?_)
  refine ⟨rfl, rfl, ?_, fun q h0 h13 => by rw [eL8]; (first | rw [xup_row _ _ h13] | rw [mwC_row _ _ h0]); rw [eL6]; (first | rw [xup_row _ _ h13] | rw [mwC_row _ _ h0]); rw [eL4]; (first | rw [xup_row _ _ h13] | rw [mwC_row _ _ h0]); rw [eL3]; (first | rw [xup_row _ _ h13] | rw [mwC_row _ _ h0]); rw [eL2]; (first | rw [xup_row _ _ h13] | rw [mwC_row _ _ h0]), fun j h7 h8 => by rw [eL8]; (first | rw [xup_row _ _ (by omega)] | rw [mwC_ne _ _ h7 h8]); rw [eL6]; (first | rw [xup_row _ _ (by omega)] | rw [mwC_ne _ _ h7 h8]); rw [eL4]; (first | rw [xup_row _ _ (by omega)] | rw [mwC_ne _ _ h7 h8]); rw [eL3]; (first | rw [xup_row _ _ (by omega)] | rw [mwC_ne _ _ h7 h8]); rw [eL2]; (first | rw [xup_row _ _ (by omega)] | rw [mwC_ne _ _ h7 h8])⟩
  rw [eL8, mrC_mwC]; rfl
theorem dX12_crossRight_0 : decode cX12_crossRight 0 = .ok (.aload_n 0, 1) := by decide +kernel
theorem dX12_crossRight_1 : decode cX12_crossRight 1 = .ok (.aload_n 0, 1) := by decide +kernel
theorem dX12_crossRight_2 : decode cX12_crossRight 2 = .ok (.getfield 48, 3) := by decide +kernel
theorem dX12_crossRight_5 : decode cX12_crossRight 5 = .ok (.iload_n 1, 1) := by decide +kernel
theorem dX12_crossRight_6 : decode cX12_crossRight 6 = .ok (.laload, 1) := by decide +kernel
theorem dX12_crossRight_7 : decode cX12_crossRight 7 = .ok (.aload_n 0, 1) := by decide +kernel
theorem dX12_crossRight_8 : decode cX12_crossRight 8 = .ok (.getfield 48, 3) := by decide +kernel
theorem dX12_crossRight_11 : decode cX12_crossRight 11 = .ok (.iload_n 1, 1) := by decide +kernel
theorem dX12_crossRight_12 : decode cX12_crossRight 12 = .ok (.iconst 1, 1) := by decide +kernel
theorem dX12_crossRight_13 : decode cX12_crossRight 13 = .ok (.iadd, 1) := by decide +kernel
theorem dX12_crossRight_14 : decode cX12_crossRight 14 = .ok (.laload, 1) := by decide +kernel
theorem dX12_crossRight_15 : decode cX12_crossRight 15 = .ok (.aload_n 0, 1) := by decide +kernel
theorem dX12_crossRight_16 : decode cX12_crossRight 16 = .ok (.getfield 45, 3) := by decide +kernel
theorem dX12_crossRight_19 : decode cX12_crossRight 19 = .ok (.iload_n 2, 1) := by decide +kernel
theorem dX12_crossRight_20 : decode cX12_crossRight 20 = .ok (.laload, 1) := by decide +kernel
theorem dX12_crossRight_21 : decode cX12_crossRight 21 = .ok (.aload_n 0, 1) := by decide +kernel
theorem dX12_crossRight_22 : decode cX12_crossRight 22 = .ok (.getfield 45, 3) := by decide +kernel
theorem dX12_crossRight_25 : decode cX12_crossRight 25 = .ok (.iload_n 2, 1) := by decide +kernel
theorem dX12_crossRight_26 : decode cX12_crossRight 26 = .ok (.iconst 1, 1) := by decide +kernel
theorem dX12_crossRight_27 : decode cX12_crossRight 27 = .ok (.iadd, 1) := by decide +kernel
theorem dX12_crossRight_28 : decode cX12_crossRight 28 = .ok (.laload, 1) := by decide +kernel
theorem dX12_crossRight_29 : decode cX12_crossRight 29 = .ok (.invokevirtual 100, 3) := by decide +kernel
theorem dX12_crossRight_32 : decode cX12_crossRight 32 = .ok (.aload_n 0, 1) := by decide +kernel
theorem dX12_crossRight_33 : decode cX12_crossRight 33 = .ok (.getfield 54, 3) := by decide +kernel
theorem dX12_crossRight_36 : decode cX12_crossRight 36 = .ok (.iconst 0, 1) := by decide +kernel
theorem dX12_crossRight_37 : decode cX12_crossRight 37 = .ok (.aload_n 0, 1) := by decide +kernel
theorem dX12_crossRight_38 : decode cX12_crossRight 38 = .ok (.getfield 87, 3) := by decide +kernel
theorem dX12_crossRight_41 : decode cX12_crossRight 41 = .ok (.lastore, 1) := by decide +kernel
theorem dX12_crossRight_42 : decode cX12_crossRight 42 = .ok (.aload_n 0, 1) := by decide +kernel
theorem dX12_crossRight_43 : decode cX12_crossRight 43 = .ok (.getfield 54, 3) := by decide +kernel
theorem dX12_crossRight_46 : decode cX12_crossRight 46 = .ok (.iconst 1, 1) := by decide +kernel
theorem dX12_crossRight_47 : decode cX12_crossRight 47 = .ok (.aload_n 0, 1) := by decide +kernel
theorem dX12_crossRight_48 : decode cX12_crossRight 48 = .ok (.getfield 90, 3) := by decide +kernel
theorem dX12_crossRight_51 : decode cX12_crossRight 51 = .ok (.lastore, 1) := by decide +kernel
theorem dX12_crossRight_52 : decode cX12_crossRight 52 = .ok (.aload_n 0, 1) := by decide +kernel
theorem dX12_crossRight_53 : decode cX12_crossRight 53 = .ok (.aload_n 0, 1) := by decide +kernel
theorem dX12_crossRight_54 : decode cX12_crossRight 54 = .ok (.getfield 45, 3) := by decide +kernel
theorem dX12_crossRight_57 : decode cX12_crossRight 57 = .ok (.iload_n 3, 1) := by decide +kernel
theorem dX12_crossRight_58 : decode cX12_crossRight 58 = .ok (.laload, 1) := by decide +kernel
theorem dX12_crossRight_59 : decode cX12_crossRight 59 = .ok (.aload_n 0, 1) := by decide +kernel
theorem dX12_crossRight_60 : decode cX12_crossRight 60 = .ok (.getfield 45, 3) := by decide +kernel
theorem dX12_crossRight_63 : decode cX12_crossRight 63 = .ok (.iload_n 3, 1) := by decide +kernel
theorem dX12_crossRight_64 : decode cX12_crossRight 64 = .ok (.iconst 1, 1) := by decide +kernel
theorem dX12_crossRight_65 : decode cX12_crossRight 65 = .ok (.iadd, 1) := by decide +kernel
theorem dX12_crossRight_66 : decode cX12_crossRight 66 = .ok (.laload, 1) := by decide +kernel
theorem dX12_crossRight_67 : decode cX12_crossRight 67 = .ok (.aload_n 0, 1) := by decide +kernel
theorem dX12_crossRight_68 : decode cX12_crossRight 68 = .ok (.getfield 48, 3) := by decide +kernel
theorem dX12_crossRight_71 : decode cX12_crossRight 71 = .ok (.iload 4, 2) := by decide +kernel
theorem dX12_crossRight_73 : decode cX12_crossRight 73 = .ok (.laload, 1) := by decide +kernel
theorem dX12_crossRight_74 : decode cX12_crossRight 74 = .ok (.aload_n 0, 1) := by decide +kernel
theorem dX12_crossRight_75 : decode cX12_crossRight 75 = .ok (.getfield 48, 3) := by decide +kernel
theorem dX12_crossRight_78 : decode cX12_crossRight 78 = .ok (.iload 4, 2) := by decide +kernel
theorem dX12_crossRight_80 : decode cX12_crossRight 80 = .ok (.iconst 1, 1) := by decide +kernel
theorem dX12_crossRight_81 : decode cX12_crossRight 81 = .ok (.iadd, 1) := by decide +kernel
theorem dX12_crossRight_82 : decode cX12_crossRight 82 = .ok (.laload, 1) := by decide +kernel
theorem dX12_crossRight_83 : decode cX12_crossRight 83 = .ok (.invokevirtual 100, 3) := by decide +kernel
theorem dX12_crossRight_86 : decode cX12_crossRight 86 = .ok (.aload_n 0, 1) := by decide +kernel
theorem dX12_crossRight_87 : decode cX12_crossRight 87 = .ok (.aload_n 0, 1) := by decide +kernel
theorem dX12_crossRight_88 : decode cX12_crossRight 88 = .ok (.getfield 54, 3) := by decide +kernel
theorem dX12_crossRight_91 : decode cX12_crossRight 91 = .ok (.iconst 0, 1) := by decide +kernel
theorem dX12_crossRight_92 : decode cX12_crossRight 92 = .ok (.laload, 1) := by decide +kernel
theorem dX12_crossRight_93 : decode cX12_crossRight 93 = .ok (.aload_n 0, 1) := by decide +kernel
theorem dX12_crossRight_94 : decode cX12_crossRight 94 = .ok (.getfield 87, 3) := by decide +kernel
theorem dX12_crossRight_97 : decode cX12_crossRight 97 = .ok (.lsub, 1) := by decide +kernel
theorem dX12_crossRight_98 : decode cX12_crossRight 98 = .ok (.aload_n 0, 1) := by decide +kernel
theorem dX12_crossRight_99 : decode cX12_crossRight 99 = .ok (.getfield 54, 3) := by decide +kernel
theorem dX12_crossRight_102 : decode cX12_crossRight 102 = .ok (.iconst 1, 1) := by decide +kernel
theorem dX12_crossRight_103 : decode cX12_crossRight 103 = .ok (.laload, 1) := by decide +kernel
theorem dX12_crossRight_104 : decode cX12_crossRight 104 = .ok (.aload_n 0, 1) := by decide +kernel
theorem dX12_crossRight_105 : decode cX12_crossRight 105 = .ok (.getfield 90, 3) := by decide +kernel
theorem dX12_crossRight_108 : decode cX12_crossRight 108 = .ok (.lsub, 1) := by decide +kernel
theorem dX12_crossRight_109 : decode cX12_crossRight 109 = .ok (.invokevirtual 93, 3) := by decide +kernel
theorem dX12_crossRight_112 : decode cX12_crossRight 112 = .ok (.return_, 1) := by decide +kernel
set_option maxHeartbeats 1000000 in
set_option maxRecDepth 100000 in
theorem t_X12_crossRight (l : Launch) (D : xD) (z n : Nat) (G : xG) (I : xI) (L : xL) (A : Nat) (a : Nat) (b : Nat) (d : Nat) (e0 : Nat) (u : Int64) (hM : shMo G A) (zA : z ≤ A) (hva : a < 3) (hvb : b < 11) (hvd : d < 11) (hve : e0 < 3) (hu9 : L A 9 = u) (hu : ¬ u = 0) : xM0 l D z yX12_crossRight cX12_crossRight 5 none 3 73 [.ref A, .int (nI a), .int (nI b), .int (nI d), .int (nI e0)] n G I L (fun v' I' L' => v' = none ∧ I' = I ∧ (mrC L' A = detC u (mRp L (A + 11) a) (mRp L (A + 10) b) (mRp L (A + 10) d) (mRp L (A + 11) e0)) ∧ (∀ q, q ≠ A → q ≠ A + 13 → L' q = L q) ∧ (∀ j, j ≠ 7 → j ≠ 8 → L' A j = L A j)) := by
  refine xM.of (by decide) (Nat.le_of_ble_eq_true rfl) (fun p e s m args below meth c C hnm hsz => ?_)
  refine x_lv [(0, .ref A), (1, .int (nI a)), (2, .int (nI b)), (3, .int (nI d)), (4, .int (nI e0))] rfl ?_
  refine x_aload_n 0 C dX12_crossRight_0 rfl 0 rfl ?_
  refine x_aload_n 1 C dX12_crossRight_1 rfl 0 rfl ?_
  refine x_getr 2 C (b := A + 11) dX12_crossRight_2 ff_X12_48 rfl hM.1 rfl ?_
  refine x_iload_n 5 C dX12_crossRight_5 rfl 1 rfl ?_
  refine x_lald 6 C (j := a) dX12_crossRight_6 hM.2.2.2.2.2.2.2.2.2.2.2.1 (xIx_nI (by omega) (by decide)) ?_
  refine x_aload_n 7 C dX12_crossRight_7 rfl 0 rfl ?_
  refine x_getr 8 C (b := A + 11) dX12_crossRight_8 ff_X12_48 rfl hM.1 rfl ?_
  refine x_iload_n 11 C dX12_crossRight_11 rfl 1 rfl ?_
  refine x_iconst 12 C (v := 1) dX12_crossRight_12 rfl ?_
  refine x_iadd 13 C dX12_crossRight_13 ?_
  refine x_int (nI (a + 1)) (nI_add a 1) ?_
  refine x_lald 14 C (j := (a + 1)) dX12_crossRight_14 hM.2.2.2.2.2.2.2.2.2.2.2.1 (xIx_nI (by omega) (by decide)) ?_
  refine x_aload_n 15 C dX12_crossRight_15 rfl 0 rfl ?_
  refine x_getr 16 C (b := A + 10) dX12_crossRight_16 ff_X12_45 rfl hM.1 rfl ?_
  refine x_iload_n 19 C dX12_crossRight_19 rfl 2 rfl ?_
  refine x_lald 20 C (j := b) dX12_crossRight_20 hM.2.2.2.2.2.2.2.2.2.2.1 (xIx_nI (by omega) (by decide)) ?_
  refine x_aload_n 21 C dX12_crossRight_21 rfl 0 rfl ?_
  refine x_getr 22 C (b := A + 10) dX12_crossRight_22 ff_X12_45 rfl hM.1 rfl ?_
  refine x_iload_n 25 C dX12_crossRight_25 rfl 2 rfl ?_
  refine x_iconst 26 C (v := 1) dX12_crossRight_26 rfl ?_
  refine x_iadd 27 C dX12_crossRight_27 ?_
  refine x_int (nI (b + 1)) (nI_add b 1) ?_
  refine x_lald 28 C (j := (b + 1)) dX12_crossRight_28 hM.2.2.2.2.2.2.2.2.2.2.1 (xIx_nI (by omega) (by decide)) ?_
  refine x_callVe 29 C dX12_crossRight_29 (As := [.long (L (A + 11) a), .long (L (A + 11) (a + 1)), .long (L (A + 10) b), .long (L (A + 10) (b + 1))]) (rest := []) [] (t_X12_times l D z n G I L A (L (A + 11) a) (L (A + 11) (a + 1)) (L (A + 10) b) (L (A + 10) (b + 1)) u hM (by omega) (by first | assumption | omega | decide) (by first | assumption | omega | decide)) mt_X12_times km_X12_100 ki_X12_times ks_X12_times hM.1 ⟨by decide, rfl⟩ rfl rfl (Nat.le_of_ble_eq_true rfl) ⟨⟨by decide, by decide⟩, by decide, by decide⟩ (fun I1 L2 eI1 eL2 => ?_)
  replace eI1 := eI1.symm; subst eI1
  refine x_aload_n 32 C dX12_crossRight_32 rfl 0 rfl ?_
  refine x_getr 33 C (b := A + 13) dX12_crossRight_33 ff_X12_54 rfl hM.1 rfl ?_
  refine x_iconst 36 C (v := 0) dX12_crossRight_36 rfl ?_
  refine x_aload_n 37 C dX12_crossRight_37 rfl 0 rfl ?_
  refine x_getl 38 C dX12_crossRight_38 ff_X12_87 hM.1 ?_
  refine x_long ((mulC u (mRp L (A + 11) a) (mRp L (A + 10) b)).1) (by rw [eL2, mwC_7]; rfl) ?_
  refine x_last 41 C (j := 0) dX12_crossRight_41 hM.2.2.2.2.2.2.2.2.2.2.2.2.2.1 (by omega) ⟨by decide, by decide, by decide⟩ (fun L3 eL3 => ?_)
  refine x_aload_n 42 C dX12_crossRight_42 rfl 0 rfl ?_
  refine x_getr 43 C (b := A + 13) dX12_crossRight_43 ff_X12_54 rfl hM.1 rfl ?_
  refine x_iconst 46 C (v := 1) dX12_crossRight_46 rfl ?_
  refine x_aload_n 47 C dX12_crossRight_47 rfl 0 rfl ?_
  refine x_getl 48 C dX12_crossRight_48 ff_X12_90 hM.1 ?_
  refine x_long ((mulC u (mRp L (A + 11) a) (mRp L (A + 10) b)).2) (by rw [eL3, xup_row _ _ (by omega), eL2, mwC_8]; rfl) ?_
  refine x_last 51 C (j := 1) dX12_crossRight_51 hM.2.2.2.2.2.2.2.2.2.2.2.2.2.1 (by omega) ⟨by decide, by decide, by decide⟩ (fun L4 eL4 => ?_)
  refine x_aload_n 52 C dX12_crossRight_52 rfl 0 rfl ?_
  refine x_aload_n 53 C dX12_crossRight_53 rfl 0 rfl ?_
  refine x_getr 54 C (b := A + 10) dX12_crossRight_54 ff_X12_45 rfl hM.1 rfl ?_
  refine x_iload_n 57 C dX12_crossRight_57 rfl 3 rfl ?_
  refine x_lald 58 C (j := d) dX12_crossRight_58 hM.2.2.2.2.2.2.2.2.2.2.1 (xIx_nI (by omega) (by decide)) ?_
  refine x_long (L (A + 10) d) (by rw [eL4]; (first | rw [xup_row _ _ (by omega)] | rw [mwC_row _ _ (by omega)]); rw [eL3]; (first | rw [xup_row _ _ (by omega)] | rw [mwC_row _ _ (by omega)]); rw [eL2]; (first | rw [xup_row _ _ (by omega)] | rw [mwC_row _ _ (by omega)])) ?_
  refine x_aload_n 59 C dX12_crossRight_59 rfl 0 rfl ?_
  refine x_getr 60 C (b := A + 10) dX12_crossRight_60 ff_X12_45 rfl hM.1 rfl ?_
  refine x_iload_n 63 C dX12_crossRight_63 rfl 3 rfl ?_
  refine x_iconst 64 C (v := 1) dX12_crossRight_64 rfl ?_
  refine x_iadd 65 C dX12_crossRight_65 ?_
  refine x_int (nI (d + 1)) (nI_add d 1) ?_
  refine x_lald 66 C (j := (d + 1)) dX12_crossRight_66 hM.2.2.2.2.2.2.2.2.2.2.1 (xIx_nI (by omega) (by decide)) ?_
  refine x_long (L (A + 10) (d + 1)) (by rw [eL4]; (first | rw [xup_row _ _ (by omega)] | rw [mwC_row _ _ (by omega)]); rw [eL3]; (first | rw [xup_row _ _ (by omega)] | rw [mwC_row _ _ (by omega)]); rw [eL2]; (first | rw [xup_row _ _ (by omega)] | rw [mwC_row _ _ (by omega)])) ?_
  refine x_aload_n 67 C dX12_crossRight_67 rfl 0 rfl ?_
  refine x_getr 68 C (b := A + 11) dX12_crossRight_68 ff_X12_48 rfl hM.1 rfl ?_
  refine x_iload 71 C dX12_crossRight_71 4 rfl ?_
  refine x_lald 73 C (j := e0) dX12_crossRight_73 hM.2.2.2.2.2.2.2.2.2.2.2.1 (xIx_nI (by omega) (by decide)) ?_
  refine x_long (L (A + 11) e0) (by rw [eL4]; (first | rw [xup_row _ _ (by omega)] | rw [mwC_row _ _ (by omega)]); rw [eL3]; (first | rw [xup_row _ _ (by omega)] | rw [mwC_row _ _ (by omega)]); rw [eL2]; (first | rw [xup_row _ _ (by omega)] | rw [mwC_row _ _ (by omega)])) ?_
  refine x_aload_n 74 C dX12_crossRight_74 rfl 0 rfl ?_
  refine x_getr 75 C (b := A + 11) dX12_crossRight_75 ff_X12_48 rfl hM.1 rfl ?_
  refine x_iload 78 C dX12_crossRight_78 4 rfl ?_
  refine x_iconst 80 C (v := 1) dX12_crossRight_80 rfl ?_
  refine x_iadd 81 C dX12_crossRight_81 ?_
  refine x_int (nI (e0 + 1)) (nI_add e0 1) ?_
  refine x_lald 82 C (j := (e0 + 1)) dX12_crossRight_82 hM.2.2.2.2.2.2.2.2.2.2.2.1 (xIx_nI (by omega) (by decide)) ?_
  refine x_long (L (A + 11) (e0 + 1)) (by rw [eL4]; (first | rw [xup_row _ _ (by omega)] | rw [mwC_row _ _ (by omega)]); rw [eL3]; (first | rw [xup_row _ _ (by omega)] | rw [mwC_row _ _ (by omega)]); rw [eL2]; (first | rw [xup_row _ _ (by omega)] | rw [mwC_row _ _ (by omega)])) ?_
  refine x_callVe 83 C dX12_crossRight_83 (As := [.long (L (A + 10) d), .long (L (A + 10) (d + 1)), .long (L (A + 11) e0), .long (L (A + 11) (e0 + 1))]) (rest := []) [] (t_X12_times l D z n G I L4 A (L (A + 10) d) (L (A + 10) (d + 1)) (L (A + 11) e0) (L (A + 11) (e0 + 1)) u hM (by omega) (by rw [eL4, xup_row _ _ (by omega), eL3, xup_row _ _ (by omega), eL2, mwC_ne _ _ (by decide) (by decide)]; exact hu9) (by first | assumption | omega | decide)) mt_X12_times km_X12_100 ki_X12_times ks_X12_times hM.1 ⟨by decide, rfl⟩ rfl rfl (Nat.le_of_ble_eq_true rfl) ⟨⟨by decide, by decide⟩, by decide, by decide⟩ (fun I5 L6 eI5 eL6 => ?_)
  replace eI5 := eI5.symm; subst eI5
  refine x_aload_n 86 C dX12_crossRight_86 rfl 0 rfl ?_
  refine x_aload_n 87 C dX12_crossRight_87 rfl 0 rfl ?_
  refine x_getr 88 C (b := A + 13) dX12_crossRight_88 ff_X12_54 rfl hM.1 rfl ?_
  refine x_iconst 91 C (v := 0) dX12_crossRight_91 rfl ?_
  refine x_lald 92 C (j := 0) dX12_crossRight_92 hM.2.2.2.2.2.2.2.2.2.2.2.2.2.1 ⟨by decide, by decide, by decide⟩ ?_
  refine x_long ((mulC u (mRp L (A + 11) a) (mRp L (A + 10) b)).1) (by rw [eL6, mwC_row _ _ (by omega), eL4, xup_at, if_neg (by decide), eL3, xup_self]) ?_
  refine x_aload_n 93 C dX12_crossRight_93 rfl 0 rfl ?_
  refine x_getl 94 C dX12_crossRight_94 ff_X12_87 hM.1 ?_
  refine x_long ((mulC u (mRp L (A + 10) d) (mRp L (A + 11) e0)).1) (by rw [eL6, mwC_7]; rfl) ?_
  refine x_lsub 97 C dX12_crossRight_97 ?_
  refine x_aload_n 98 C dX12_crossRight_98 rfl 0 rfl ?_
  refine x_getr 99 C (b := A + 13) dX12_crossRight_99 ff_X12_54 rfl hM.1 rfl ?_
  refine x_iconst 102 C (v := 1) dX12_crossRight_102 rfl ?_
  refine x_lald 103 C (j := 1) dX12_crossRight_103 hM.2.2.2.2.2.2.2.2.2.2.2.2.2.1 ⟨by decide, by decide, by decide⟩ ?_
  refine x_long ((mulC u (mRp L (A + 11) a) (mRp L (A + 10) b)).2) (by rw [eL6, mwC_row _ _ (by omega), eL4, xup_self]) ?_
  refine x_aload_n 104 C dX12_crossRight_104 rfl 0 rfl ?_
  refine x_getl 105 C dX12_crossRight_105 ff_X12_90 hM.1 ?_
  refine x_long ((mulC u (mRp L (A + 10) d) (mRp L (A + 11) e0)).2) (by rw [eL6, mwC_8]; rfl) ?_
  refine x_lsub 108 C dX12_crossRight_108 ?_
  refine x_callVe 109 C dX12_crossRight_109 (As := [.long (((mulC u (mRp L (A + 11) a) (mRp L (A + 10) b)).1) - ((mulC u (mRp L (A + 10) d) (mRp L (A + 11) e0)).1)), .long (((mulC u (mRp L (A + 11) a) (mRp L (A + 10) b)).2) - ((mulC u (mRp L (A + 10) d) (mRp L (A + 11) e0)).2))]) (rest := []) [] (t_X12_hold l D z n G I L6 A (((mulC u (mRp L (A + 11) a) (mRp L (A + 10) b)).1) - ((mulC u (mRp L (A + 10) d) (mRp L (A + 11) e0)).1)) (((mulC u (mRp L (A + 11) a) (mRp L (A + 10) b)).2) - ((mulC u (mRp L (A + 10) d) (mRp L (A + 11) e0)).2)) hM (by omega)) mt_X12_hold km_X12_93 ki_X12_hold ks_X12_hold hM.1 ⟨by decide, rfl⟩ rfl rfl (Nat.le_of_ble_eq_true rfl) ⟨⟨by decide, by decide⟩, by decide, by decide⟩ (fun I7 L8 eI7 eL8 => ?_)
  replace eI7 := eI7.symm; subst eI7
  refine x_vret 112 C dX12_crossRight_112 rfl (Nat.le_refl _) (xN.intro ?_)
  refine ⟨rfl, rfl, ?_, fun q h0 h13 => by rw [eL8]; (first | rw [xup_row _ _ h13] | rw [mwC_row _ _ h0]); rw [eL6]; (first | rw [xup_row _ _ h13] | rw [mwC_row _ _ h0]); rw [eL4]; (first | rw [xup_row _ _ h13] | rw [mwC_row _ _ h0]); rw [eL3]; (first | rw [xup_row _ _ h13] | rw [mwC_row _ _ h0]); rw [eL2]; (first | rw [xup_row _ _ h13] | rw [mwC_row _ _ h0]), fun j h7 h8 => by rw [eL8]; (first | rw [xup_row _ _ (by omega)] | rw [mwC_ne _ _ h7 h8]); rw [eL6]; (first | rw [xup_row _ _ (by omega)] | rw [mwC_ne _ _ h7 h8]); rw [eL4]; (first | rw [xup_row _ _ (by omega)] | rw [mwC_ne _ _ h7 h8]); rw [eL3]; (first | rw [xup_row _ _ (by omega)] | rw [mwC_ne _ _ h7 h8]); rw [eL2]; (first | rw [xup_row _ _ (by omega)] | rw [mwC_ne _ _ h7 h8])⟩
  rw [eL8, mrC_mwC]; rfl
theorem dX12_solves_0 : decode cX12_solves 0 = .ok (.aload_n 0, 1) := by decide +kernel
theorem dX12_solves_1 : decode cX12_solves 1 = .ok (.iconst 4, 1) := by decide +kernel
theorem dX12_solves_2 : decode cX12_solves 2 = .ok (.bipush 10, 2) := by decide +kernel
theorem dX12_solves_4 : decode cX12_solves 4 = .ok (.bipush 8, 2) := by decide +kernel
theorem dX12_solves_6 : decode cX12_solves 6 = .ok (.bipush 6, 2) := by decide +kernel
theorem dX12_solves_8 : decode cX12_solves 8 = .ok (.invokevirtual 129, 3) := by decide +kernel
theorem dX12_solves_11 : decode cX12_solves 11 = .ok (.aload_n 0, 1) := by decide +kernel
theorem dX12_solves_12 : decode cX12_solves 12 = .ok (.getfield 87, 3) := by decide +kernel
theorem dX12_solves_15 : decode cX12_solves 15 = .ok (.lstore_n 1, 1) := by decide +kernel
theorem dX12_solves_16 : decode cX12_solves 16 = .ok (.aload_n 0, 1) := by decide +kernel
theorem dX12_solves_17 : decode cX12_solves 17 = .ok (.getfield 90, 3) := by decide +kernel
theorem dX12_solves_20 : decode cX12_solves 20 = .ok (.lstore_n 3, 1) := by decide +kernel
theorem dX12_solves_21 : decode cX12_solves 21 = .ok (.aload_n 0, 1) := by decide +kernel
theorem dX12_solves_22 : decode cX12_solves 22 = .ok (.iconst 0, 1) := by decide +kernel
theorem dX12_solves_23 : decode cX12_solves 23 = .ok (.bipush 10, 2) := by decide +kernel
theorem dX12_solves_25 : decode cX12_solves 25 = .ok (.bipush 8, 2) := by decide +kernel
theorem dX12_solves_27 : decode cX12_solves 27 = .ok (.iconst 2, 1) := by decide +kernel
theorem dX12_solves_28 : decode cX12_solves 28 = .ok (.invokevirtual 133, 3) := by decide +kernel
theorem dX12_solves_31 : decode cX12_solves 31 = .ok (.aload_n 0, 1) := by decide +kernel
theorem dX12_solves_32 : decode cX12_solves 32 = .ok (.aload_n 0, 1) := by decide +kernel
theorem dX12_solves_33 : decode cX12_solves 33 = .ok (.getfield 87, 3) := by decide +kernel
theorem dX12_solves_36 : decode cX12_solves 36 = .ok (.aload_n 0, 1) := by decide +kernel
theorem dX12_solves_37 : decode cX12_solves 37 = .ok (.getfield 90, 3) := by decide +kernel
theorem dX12_solves_40 : decode cX12_solves 40 = .ok (.lload_n 1, 1) := by decide +kernel
theorem dX12_solves_41 : decode cX12_solves 41 = .ok (.lload_n 3, 1) := by decide +kernel
theorem dX12_solves_42 : decode cX12_solves 42 = .ok (.invokevirtual 136, 3) := by decide +kernel
theorem dX12_solves_45 : decode cX12_solves 45 = .ok (.ifCond .ne 5, 3) := by decide +kernel
theorem dX12_solves_48 : decode cX12_solves 48 = .ok (.iconst 0, 1) := by decide +kernel
theorem dX12_solves_49 : decode cX12_solves 49 = .ok (.ireturn, 1) := by decide +kernel
theorem dX12_solves_50 : decode cX12_solves 50 = .ok (.aload_n 0, 1) := by decide +kernel
theorem dX12_solves_51 : decode cX12_solves 51 = .ok (.getfield 51, 3) := by decide +kernel
theorem dX12_solves_54 : decode cX12_solves 54 = .ok (.iconst 0, 1) := by decide +kernel
theorem dX12_solves_55 : decode cX12_solves 55 = .ok (.aload_n 0, 1) := by decide +kernel
theorem dX12_solves_56 : decode cX12_solves 56 = .ok (.getfield 87, 3) := by decide +kernel
theorem dX12_solves_59 : decode cX12_solves 59 = .ok (.lastore, 1) := by decide +kernel
theorem dX12_solves_60 : decode cX12_solves 60 = .ok (.aload_n 0, 1) := by decide +kernel
theorem dX12_solves_61 : decode cX12_solves 61 = .ok (.getfield 51, 3) := by decide +kernel
theorem dX12_solves_64 : decode cX12_solves 64 = .ok (.iconst 1, 1) := by decide +kernel
theorem dX12_solves_65 : decode cX12_solves 65 = .ok (.aload_n 0, 1) := by decide +kernel
theorem dX12_solves_66 : decode cX12_solves 66 = .ok (.getfield 90, 3) := by decide +kernel
theorem dX12_solves_69 : decode cX12_solves 69 = .ok (.lastore, 1) := by decide +kernel
theorem dX12_solves_70 : decode cX12_solves 70 = .ok (.aload_n 0, 1) := by decide +kernel
theorem dX12_solves_71 : decode cX12_solves 71 = .ok (.iconst 2, 1) := by decide +kernel
theorem dX12_solves_72 : decode cX12_solves 72 = .ok (.iconst 4, 1) := by decide +kernel
theorem dX12_solves_73 : decode cX12_solves 73 = .ok (.bipush 6, 2) := by decide +kernel
theorem dX12_solves_75 : decode cX12_solves 75 = .ok (.iconst 0, 1) := by decide +kernel
theorem dX12_solves_76 : decode cX12_solves 76 = .ok (.invokevirtual 133, 3) := by decide +kernel
theorem dX12_solves_79 : decode cX12_solves 79 = .ok (.aload_n 0, 1) := by decide +kernel
theorem dX12_solves_80 : decode cX12_solves 80 = .ok (.aload_n 0, 1) := by decide +kernel
theorem dX12_solves_81 : decode cX12_solves 81 = .ok (.getfield 87, 3) := by decide +kernel
theorem dX12_solves_84 : decode cX12_solves 84 = .ok (.aload_n 0, 1) := by decide +kernel
theorem dX12_solves_85 : decode cX12_solves 85 = .ok (.getfield 90, 3) := by decide +kernel
theorem dX12_solves_88 : decode cX12_solves 88 = .ok (.lload_n 1, 1) := by decide +kernel
theorem dX12_solves_89 : decode cX12_solves 89 = .ok (.lload_n 3, 1) := by decide +kernel
theorem dX12_solves_90 : decode cX12_solves 90 = .ok (.invokevirtual 136, 3) := by decide +kernel
theorem dX12_solves_93 : decode cX12_solves 93 = .ok (.istore 5, 2) := by decide +kernel
theorem dX12_solves_95 : decode cX12_solves 95 = .ok (.aload_n 0, 1) := by decide +kernel
theorem dX12_solves_96 : decode cX12_solves 96 = .ok (.getfield 51, 3) := by decide +kernel
theorem dX12_solves_99 : decode cX12_solves 99 = .ok (.iconst 2, 1) := by decide +kernel
theorem dX12_solves_100 : decode cX12_solves 100 = .ok (.aload_n 0, 1) := by decide +kernel
theorem dX12_solves_101 : decode cX12_solves 101 = .ok (.getfield 87, 3) := by decide +kernel
theorem dX12_solves_104 : decode cX12_solves 104 = .ok (.lastore, 1) := by decide +kernel
theorem dX12_solves_105 : decode cX12_solves 105 = .ok (.aload_n 0, 1) := by decide +kernel
theorem dX12_solves_106 : decode cX12_solves 106 = .ok (.getfield 51, 3) := by decide +kernel
theorem dX12_solves_109 : decode cX12_solves 109 = .ok (.iconst 3, 1) := by decide +kernel
theorem dX12_solves_110 : decode cX12_solves 110 = .ok (.aload_n 0, 1) := by decide +kernel
theorem dX12_solves_111 : decode cX12_solves 111 = .ok (.getfield 90, 3) := by decide +kernel
theorem dX12_solves_114 : decode cX12_solves 114 = .ok (.lastore, 1) := by decide +kernel
theorem dX12_solves_115 : decode cX12_solves 115 = .ok (.iload 5, 2) := by decide +kernel
theorem dX12_solves_117 : decode cX12_solves 117 = .ok (.ireturn, 1) := by decide +kernel
set_option maxHeartbeats 1000000 in
set_option maxRecDepth 100000 in
theorem t_X12_solves (l : Launch) (D : xD) (z n : Nat) (G : xG) (I : xI) (L : xL) (A : Nat) (u : Int64) (hM : shMo G A) (zA : z ≤ A) (hu9 : L A 9 = u) (hu : ¬ u = 0) : xM0 l D z yX12_solves cX12_solves 6 (some .boolean) 4 97 [.ref A] n G I L (fun v' I' L' => v' = (some (.int (if solN u (mRp L (A + 10) 4) (mRp L (A + 10) 8) (mRp L (A + 10) 6) (mRp L (A + 10) 10) = 0 then 0 else 1))) ∧ I' = I ∧ (¬ solN u (mRp L (A + 10) 4) (mRp L (A + 10) 8) (mRp L (A + 10) 6) (mRp L (A + 10) 10) = 0 → mRp L' (A + 12) 0 = (solU u (mRp L (A + 10) 4) (mRp L (A + 10) 8) (mRp L (A + 10) 6) (mRp L (A + 10) 10) (mRp L (A + 11) 0) (mRp L (A + 11) 2)) ∧ mRp L' (A + 12) 2 = (solV u (mRp L (A + 10) 4) (mRp L (A + 10) 8) (mRp L (A + 10) 6) (mRp L (A + 10) 10) (mRp L (A + 11) 0) (mRp L (A + 11) 2))) ∧ (∀ q, q ≠ A → q ≠ A + 12 → q ≠ A + 13 → L' q = L q) ∧ (∀ j, j ≠ 7 → j ≠ 8 → L' A j = L A j)) := by
  refine xM.of (by decide) (Nat.le_of_ble_eq_true rfl) (fun p e s m args below meth c C hnm hsz => ?_)
  refine x_lv [(0, .ref A)] rfl ?_
  refine x_aload_n 0 C dX12_solves_0 rfl 0 rfl ?_
  refine x_iconst 1 C (v := 4) dX12_solves_1 rfl ?_
  refine x_bipush 2 C (v := 10) dX12_solves_2 rfl ?_
  refine x_bipush 4 C (v := 8) dX12_solves_4 rfl ?_
  refine x_bipush 6 C (v := 6) dX12_solves_6 rfl ?_
  refine x_callVp 8 C dX12_solves_8 (As := [.int 4, .int 10, .int 8, .int 6]) (rest := []) (t_X12_cross l D z n G I L A 4 10 8 6 u hM (by omega) (by first | omega | assumption | decide) (by first | omega | assumption | decide) (by first | omega | assumption | decide) (by first | omega | assumption | decide) (by first | assumption | omega | decide) (by first | assumption | omega | decide)) mt_X12_cross km_X12_129 ki_X12_cross ks_X12_cross hM.1 ⟨by decide, rfl⟩ rfl (Nat.le_of_ble_eq_true rfl) ⟨⟨by decide, by decide⟩, by decide, by decide⟩ (fun w1 I2 L3 hw1 => ?_)
  obtain ⟨hw1v, eI2, hw1r0, hw1r1, hw1r2⟩ := hw1
  subst hw1v
  refine x_st [] rfl ?_
  replace eI2 := eI2.symm; subst eI2
  refine x_aload_n 11 C dX12_solves_11 rfl 0 rfl ?_
  refine x_getl 12 C dX12_solves_12 ff_X12_87 hM.1 ?_
  refine x_long ((solD u (mRp L (A + 10) 4) (mRp L (A + 10) 8) (mRp L (A + 10) 6) (mRp L (A + 10) 10)).1) (mrC_1 hw1r0).1 ?_
  refine x_lstore_n 15 C [(1, .long ((solD u (mRp L (A + 10) 4) (mRp L (A + 10) 8) (mRp L (A + 10) 6) (mRp L (A + 10) 10)).1)), (0, .ref A)] dX12_solves_15 rfl (by decide) rfl ?_
  refine x_aload_n 16 C dX12_solves_16 rfl 1 rfl ?_
  refine x_getl 17 C dX12_solves_17 ff_X12_90 hM.1 ?_
  refine x_long ((solD u (mRp L (A + 10) 4) (mRp L (A + 10) 8) (mRp L (A + 10) 6) (mRp L (A + 10) 10)).2) (mrC_1 hw1r0).2 ?_
  refine x_lstore_n 20 C [(3, .long ((solD u (mRp L (A + 10) 4) (mRp L (A + 10) 8) (mRp L (A + 10) 6) (mRp L (A + 10) 10)).2)), (1, .long ((solD u (mRp L (A + 10) 4) (mRp L (A + 10) 8) (mRp L (A + 10) 6) (mRp L (A + 10) 10)).1)), (0, .ref A)] dX12_solves_20 rfl (by decide) rfl ?_
  refine x_aload_n 21 C dX12_solves_21 rfl 2 rfl ?_
  refine x_iconst 22 C (v := 0) dX12_solves_22 rfl ?_
  refine x_bipush 23 C (v := 10) dX12_solves_23 rfl ?_
  refine x_bipush 25 C (v := 8) dX12_solves_25 rfl ?_
  refine x_iconst 27 C (v := 2) dX12_solves_27 rfl ?_
  refine x_callVp 28 C dX12_solves_28 (As := [.int 0, .int 10, .int 8, .int 2]) (rest := []) (t_X12_crossRight l D z n G I L3 A 0 10 8 2 u hM (by omega) (by first | omega | assumption | decide) (by first | omega | assumption | decide) (by first | omega | assumption | decide) (by first | omega | assumption | decide) (by rw [hw1r2 9 (by decide) (by decide)]; exact hu9) (by first | assumption | omega | decide)) mt_X12_crossRight km_X12_133 ki_X12_crossRight ks_X12_crossRight hM.1 ⟨by decide, rfl⟩ rfl (Nat.le_of_ble_eq_true rfl) ⟨⟨by decide, by decide⟩, by decide, by decide⟩ (fun w4 I5 L6 hw4 => ?_)
  obtain ⟨hw4v, eI5, hw4r0, hw4r1, hw4r2⟩ := hw4
  subst hw4v
  refine x_st [] rfl ?_
  replace eI5 := eI5.symm; subst eI5
  have h28 : mrC L6 A = (detC u (mRp L (A + 11) 0) (mRp L (A + 10) 10) (mRp L (A + 10) 8) (mRp L (A + 11) 2)) := by rw [hw4r0, mRp_congr (hw1r1 _ (by omega) (by omega)), mRp_congr (hw1r1 _ (by omega) (by omega)), mRp_congr (hw1r1 _ (by omega) (by omega)), mRp_congr (hw1r1 _ (by omega) (by omega))]
  have hu28 : L6 A 9 = u := by rw [hw4r2 9 (by decide) (by decide), hw1r2 9 (by decide) (by decide)]; exact hu9
  have hf28 : ∀ q, q ≠ A → q ≠ A + 13 → L6 q = L q := fun q h0 h13 => (hw4r1 q h0 h13).trans (hw1r1 q h0 h13)
  have hj28 : ∀ j, j ≠ 7 → j ≠ 8 → L6 A j = L A j := fun j h7 h8 => (hw4r2 j h7 h8).trans (hw1r2 j h7 h8)
  refine x_aload_n 31 C dX12_solves_31 rfl 2 rfl ?_
  refine x_aload_n 32 C dX12_solves_32 rfl 2 rfl ?_
  refine x_getl 33 C dX12_solves_33 ff_X12_87 hM.1 ?_
  refine x_long ((detC u (mRp L (A + 11) 0) (mRp L (A + 10) 10) (mRp L (A + 10) 8) (mRp L (A + 11) 2)).1) (mrC_1 h28).1 ?_
  refine x_aload_n 36 C dX12_solves_36 rfl 2 rfl ?_
  refine x_getl 37 C dX12_solves_37 ff_X12_90 hM.1 ?_
  refine x_long ((detC u (mRp L (A + 11) 0) (mRp L (A + 10) 10) (mRp L (A + 10) 8) (mRp L (A + 11) 2)).2) (mrC_1 h28).2 ?_
  refine x_lload_n 40 C dX12_solves_40 rfl 1 rfl ?_
  refine x_lload_n 41 C dX12_solves_41 rfl 0 rfl ?_
  refine x_callVe 42 C dX12_solves_42 (As := [.long ((detC u (mRp L (A + 11) 0) (mRp L (A + 10) 10) (mRp L (A + 10) 8) (mRp L (A + 11) 2)).1), .long ((detC u (mRp L (A + 11) 0) (mRp L (A + 10) 10) (mRp L (A + 10) 8) (mRp L (A + 11) 2)).2), .long ((solD u (mRp L (A + 10) 4) (mRp L (A + 10) 8) (mRp L (A + 10) 6) (mRp L (A + 10) 10)).1), .long ((solD u (mRp L (A + 10) 4) (mRp L (A + 10) 8) (mRp L (A + 10) 6) (mRp L (A + 10) 10)).2)]) (rest := []) [.int (if norC (((solD u (mRp L (A + 10) 4) (mRp L (A + 10) 8) (mRp L (A + 10) 6) (mRp L (A + 10) 10)).1), ((solD u (mRp L (A + 10) 4) (mRp L (A + 10) 8) (mRp L (A + 10) 6) (mRp L (A + 10) 10)).2)) u = 0 then 0 else 1)] (t_X12_divides l D z n G I L6 A ((detC u (mRp L (A + 11) 0) (mRp L (A + 10) 10) (mRp L (A + 10) 8) (mRp L (A + 11) 2)).1) ((detC u (mRp L (A + 11) 0) (mRp L (A + 10) 10) (mRp L (A + 10) 8) (mRp L (A + 11) 2)).2) ((solD u (mRp L (A + 10) 4) (mRp L (A + 10) 8) (mRp L (A + 10) 6) (mRp L (A + 10) 10)).1) ((solD u (mRp L (A + 10) 4) (mRp L (A + 10) 8) (mRp L (A + 10) 6) (mRp L (A + 10) 10)).2) u hM (by omega) hu28 (by first | assumption | omega | decide)) mt_X12_divides km_X12_136 ki_X12_divides ks_X12_divides hM.1 ⟨by decide, rfl⟩ rfl rfl (Nat.le_of_ble_eq_true rfl) ⟨⟨by decide, by decide⟩, by decide, by decide⟩ (fun I7 L8 eI7 eL8 => ?_)
  replace eI7 := eI7.symm; subst eI7
  refine x_int (if solN u (mRp L (A + 10) 4) (mRp L (A + 10) 8) (mRp L (A + 10) 6) (mRp L (A + 10) 10) = 0 then 0 else 1) rfl ?_
  refine x_if_ne 45 C 50 dX12_solves_45 (by decide) (fun c9 => ?_) (fun c9 => ?_)
  · skip
    have hn := ite01n c9
    have e42 : L8 = mwC L6 A (solU u (mRp L (A + 10) 4) (mRp L (A + 10) 8) (mRp L (A + 10) 6) (mRp L (A + 10) 10) (mRp L (A + 11) 0) (mRp L (A + 11) 2)) := eL8.trans (if_neg hn)
    have eLx := e42
    refine x_aload_n 50 C dX12_solves_50 rfl 2 rfl ?_
    refine x_getr 51 C (b := A + 12) dX12_solves_51 ff_X12_51 rfl hM.1 rfl ?_
    refine x_iconst 54 C (v := 0) dX12_solves_54 rfl ?_
    refine x_aload_n 55 C dX12_solves_55 rfl 2 rfl ?_
    refine x_getl 56 C dX12_solves_56 ff_X12_87 hM.1 ?_
    refine x_long ((solU u (mRp L (A + 10) 4) (mRp L (A + 10) 8) (mRp L (A + 10) 6) (mRp L (A + 10) 10) (mRp L (A + 11) 0) (mRp L (A + 11) 2)).1) (by rw [e42, mwC_7]) ?_
    refine x_last 59 C (j := 0) dX12_solves_59 hM.2.2.2.2.2.2.2.2.2.2.2.2.1 (by omega) ⟨by decide, by decide, by decide⟩ (fun L10 eL10 => ?_)
    refine x_aload_n 60 C dX12_solves_60 rfl 2 rfl ?_
    refine x_getr 61 C (b := A + 12) dX12_solves_61 ff_X12_51 rfl hM.1 rfl ?_
    refine x_iconst 64 C (v := 1) dX12_solves_64 rfl ?_
    refine x_aload_n 65 C dX12_solves_65 rfl 2 rfl ?_
    refine x_getl 66 C dX12_solves_66 ff_X12_90 hM.1 ?_
    refine x_long ((solU u (mRp L (A + 10) 4) (mRp L (A + 10) 8) (mRp L (A + 10) 6) (mRp L (A + 10) 10) (mRp L (A + 11) 0) (mRp L (A + 11) 2)).2) (by rw [eL10, xup_row _ _ (by omega), e42, mwC_8]) ?_
    refine x_last 69 C (j := 1) dX12_solves_69 hM.2.2.2.2.2.2.2.2.2.2.2.2.1 (by omega) ⟨by decide, by decide, by decide⟩ (fun L11 eL11 => ?_)
    refine x_aload_n 70 C dX12_solves_70 rfl 2 rfl ?_
    refine x_iconst 71 C (v := 2) dX12_solves_71 rfl ?_
    refine x_iconst 72 C (v := 4) dX12_solves_72 rfl ?_
    refine x_bipush 73 C (v := 6) dX12_solves_73 rfl ?_
    refine x_iconst 75 C (v := 0) dX12_solves_75 rfl ?_
    refine x_callVp 76 C dX12_solves_76 (As := [.int 2, .int 4, .int 6, .int 0]) (rest := []) (t_X12_crossRight l D z n G I L11 A 2 4 6 0 u hM (by omega) (by first | omega | assumption | decide) (by first | omega | assumption | decide) (by first | omega | assumption | decide) (by first | omega | assumption | decide) (by rw [eL11, xup_row _ _ (by omega), eL10, xup_row _ _ (by omega), e42, mwC_ne _ _ (by decide) (by decide)]; exact hu28) (by first | assumption | omega | decide)) mt_X12_crossRight km_X12_133 ki_X12_crossRight ks_X12_crossRight hM.1 ⟨by decide, rfl⟩ rfl (Nat.le_of_ble_eq_true rfl) ⟨⟨by decide, by decide⟩, by decide, by decide⟩ (fun w12 I13 L14 hw12 => ?_)
    obtain ⟨hw12v, eI13, hw12r0, hw12r1, hw12r2⟩ := hw12
    subst hw12v
    refine x_st [] rfl ?_
    replace eI13 := eI13.symm; subst eI13
    have h76 : mrC L14 A = (detC u (mRp L (A + 10) 4) (mRp L (A + 11) 2) (mRp L (A + 11) 0) (mRp L (A + 10) 6)) := by rw [hw12r0, mRp_congr (show L11 (A + 11) = L (A + 11) from by rw [eL11, xup_row _ _ (by omega), eL10, xup_row _ _ (by omega), e42, mwC_row _ _ (by omega)]; exact hf28 _ (by omega) (by omega)), mRp_congr (show L11 (A + 10) = L (A + 10) from by rw [eL11, xup_row _ _ (by omega), eL10, xup_row _ _ (by omega), e42, mwC_row _ _ (by omega)]; exact hf28 _ (by omega) (by omega)), mRp_congr (show L11 (A + 10) = L (A + 10) from by rw [eL11, xup_row _ _ (by omega), eL10, xup_row _ _ (by omega), e42, mwC_row _ _ (by omega)]; exact hf28 _ (by omega) (by omega)), mRp_congr (show L11 (A + 11) = L (A + 11) from by rw [eL11, xup_row _ _ (by omega), eL10, xup_row _ _ (by omega), e42, mwC_row _ _ (by omega)]; exact hf28 _ (by omega) (by omega))]; unfold detC; rw [mulC_comm u (mRp L (A + 11) 2) (mRp L (A + 10) 4), mulC_comm u (mRp L (A + 10) 6) (mRp L (A + 11) 0)]
    have hu76 : L14 A 9 = u := by rw [hw12r2 9 (by decide) (by decide), eL11, xup_row _ _ (by omega), eL10, xup_row _ _ (by omega), e42, mwC_ne _ _ (by decide) (by decide)]; exact hu28
    refine x_aload_n 79 C dX12_solves_79 rfl 2 rfl ?_
    refine x_aload_n 80 C dX12_solves_80 rfl 2 rfl ?_
    refine x_getl 81 C dX12_solves_81 ff_X12_87 hM.1 ?_
    refine x_long ((detC u (mRp L (A + 10) 4) (mRp L (A + 11) 2) (mRp L (A + 11) 0) (mRp L (A + 10) 6)).1) (mrC_1 h76).1 ?_
    refine x_aload_n 84 C dX12_solves_84 rfl 2 rfl ?_
    refine x_getl 85 C dX12_solves_85 ff_X12_90 hM.1 ?_
    refine x_long ((detC u (mRp L (A + 10) 4) (mRp L (A + 11) 2) (mRp L (A + 11) 0) (mRp L (A + 10) 6)).2) (mrC_1 h76).2 ?_
    refine x_lload_n 88 C dX12_solves_88 rfl 1 rfl ?_
    refine x_lload_n 89 C dX12_solves_89 rfl 0 rfl ?_
    refine x_callVe 90 C dX12_solves_90 (As := [.long ((detC u (mRp L (A + 10) 4) (mRp L (A + 11) 2) (mRp L (A + 11) 0) (mRp L (A + 10) 6)).1), .long ((detC u (mRp L (A + 10) 4) (mRp L (A + 11) 2) (mRp L (A + 11) 0) (mRp L (A + 10) 6)).2), .long ((solD u (mRp L (A + 10) 4) (mRp L (A + 10) 8) (mRp L (A + 10) 6) (mRp L (A + 10) 10)).1), .long ((solD u (mRp L (A + 10) 4) (mRp L (A + 10) 8) (mRp L (A + 10) 6) (mRp L (A + 10) 10)).2)]) (rest := []) [.int (if norC (((solD u (mRp L (A + 10) 4) (mRp L (A + 10) 8) (mRp L (A + 10) 6) (mRp L (A + 10) 10)).1), ((solD u (mRp L (A + 10) 4) (mRp L (A + 10) 8) (mRp L (A + 10) 6) (mRp L (A + 10) 10)).2)) u = 0 then 0 else 1)] (t_X12_divides l D z n G I L14 A ((detC u (mRp L (A + 10) 4) (mRp L (A + 11) 2) (mRp L (A + 11) 0) (mRp L (A + 10) 6)).1) ((detC u (mRp L (A + 10) 4) (mRp L (A + 11) 2) (mRp L (A + 11) 0) (mRp L (A + 10) 6)).2) ((solD u (mRp L (A + 10) 4) (mRp L (A + 10) 8) (mRp L (A + 10) 6) (mRp L (A + 10) 10)).1) ((solD u (mRp L (A + 10) 4) (mRp L (A + 10) 8) (mRp L (A + 10) 6) (mRp L (A + 10) 10)).2) u hM (by omega) hu76 (by first | assumption | omega | decide)) mt_X12_divides km_X12_136 ki_X12_divides ks_X12_divides hM.1 ⟨by decide, rfl⟩ rfl rfl (Nat.le_of_ble_eq_true rfl) ⟨⟨by decide, by decide⟩, by decide, by decide⟩ (fun I15 L16 eI15 eL16 => ?_)
    replace eI15 := eI15.symm; subst eI15
    refine x_int 1 (if_neg hn) ?_
    refine x_istore 93 C [(5, .int 1), (3, .long ((solD u (mRp L (A + 10) 4) (mRp L (A + 10) 8) (mRp L (A + 10) 6) (mRp L (A + 10) 10)).2)), (1, .long ((solD u (mRp L (A + 10) 4) (mRp L (A + 10) 8) (mRp L (A + 10) 6) (mRp L (A + 10) 10)).1)), (0, .ref A)] dX12_solves_93 (by decide) rfl ?_
    have e90 : L16 = mwC L14 A (solV u (mRp L (A + 10) 4) (mRp L (A + 10) 8) (mRp L (A + 10) 6) (mRp L (A + 10) 10) (mRp L (A + 11) 0) (mRp L (A + 11) 2)) := eL16.trans (if_neg hn)
    refine x_aload_n 95 C dX12_solves_95 rfl 3 rfl ?_
    refine x_getr 96 C (b := A + 12) dX12_solves_96 ff_X12_51 rfl hM.1 rfl ?_
    refine x_iconst 99 C (v := 2) dX12_solves_99 rfl ?_
    refine x_aload_n 100 C dX12_solves_100 rfl 3 rfl ?_
    refine x_getl 101 C dX12_solves_101 ff_X12_87 hM.1 ?_
    refine x_long ((solV u (mRp L (A + 10) 4) (mRp L (A + 10) 8) (mRp L (A + 10) 6) (mRp L (A + 10) 10) (mRp L (A + 11) 0) (mRp L (A + 11) 2)).1) (by rw [e90, mwC_7]) ?_
    refine x_last 104 C (j := 2) dX12_solves_104 hM.2.2.2.2.2.2.2.2.2.2.2.2.1 (by omega) ⟨by decide, by decide, by decide⟩ (fun L17 eL17 => ?_)
    refine x_aload_n 105 C dX12_solves_105 rfl 3 rfl ?_
    refine x_getr 106 C (b := A + 12) dX12_solves_106 ff_X12_51 rfl hM.1 rfl ?_
    refine x_iconst 109 C (v := 3) dX12_solves_109 rfl ?_
    refine x_aload_n 110 C dX12_solves_110 rfl 3 rfl ?_
    refine x_getl 111 C dX12_solves_111 ff_X12_90 hM.1 ?_
    refine x_long ((solV u (mRp L (A + 10) 4) (mRp L (A + 10) 8) (mRp L (A + 10) 6) (mRp L (A + 10) 10) (mRp L (A + 11) 0) (mRp L (A + 11) 2)).2) (by rw [eL17, xup_row _ _ (by omega), e90, mwC_8]) ?_
    refine x_last 114 C (j := 3) dX12_solves_114 hM.2.2.2.2.2.2.2.2.2.2.2.2.1 (by omega) ⟨by decide, by decide, by decide⟩ (fun L18 eL18 => ?_)
    refine x_iload 115 C dX12_solves_115 0 rfl ?_
    refine x_iret 117 C dX12_solves_117 rfl rfl (Nat.le_refl _) (xN.intro ?_)
    have hw12 : ∀ j, L18 (A + 12) j = if j = 3 then (solV u (mRp L (A + 10) 4) (mRp L (A + 10) 8) (mRp L (A + 10) 6) (mRp L (A + 10) 10) (mRp L (A + 11) 0) (mRp L (A + 11) 2)).2 else if j = 2 then (solV u (mRp L (A + 10) 4) (mRp L (A + 10) 8) (mRp L (A + 10) 6) (mRp L (A + 10) 10) (mRp L (A + 11) 0) (mRp L (A + 11) 2)).1 else if j = 1 then (solU u (mRp L (A + 10) 4) (mRp L (A + 10) 8) (mRp L (A + 10) 6) (mRp L (A + 10) 10) (mRp L (A + 11) 0) (mRp L (A + 11) 2)).2 else if j = 0 then (solU u (mRp L (A + 10) 4) (mRp L (A + 10) 8) (mRp L (A + 10) 6) (mRp L (A + 10) 10) (mRp L (A + 11) 0) (mRp L (A + 11) 2)).1 else L (A + 12) j := fun j => by rw [eL18, xup_at, eL17, xup_at, e90, mwC_row _ _ (by omega), hw12r1 _ (by omega) (by omega), eL11, xup_at, eL10, xup_at, e42, mwC_row _ _ (by omega), hf28 _ (by omega) (by omega)]
    refine ⟨by rw [if_neg hn], rfl, fun _ => ⟨?_, ?_⟩, fun q h0 h12 h13 => ?_, fun j h7 h8 => ?_⟩
    · unfold mRp; rw [hw12, hw12]; rfl
    · unfold mRp; rw [hw12, hw12]; rfl
    · rw [eL18, xup_row _ _ h12, eL17, xup_row _ _ h12, e90, mwC_row _ _ h0, hw12r1 _ h0 h13, eL11, xup_row _ _ h12, eL10, xup_row _ _ h12, e42, mwC_row _ _ h0]; exact hf28 q h0 h13
    · rw [eL18, xup_row _ _ (by omega), eL17, xup_row _ _ (by omega), e90, mwC_ne _ _ h7 h8, hw12r2 _ h7 h8, eL11, xup_row _ _ (by omega), eL10, xup_row _ _ (by omega), e42, mwC_ne _ _ h7 h8]; exact hj28 j h7 h8
  · skip
    have hn := ite01 c9
    refine x_iconst 48 C (v := 0) dX12_solves_48 rfl ?_
    refine x_iret 49 C dX12_solves_49 rfl rfl (Nat.le_refl _) (xN.intro ?_)
    have e42 := eL8.trans (if_pos hn)
    exact ⟨by rw [if_pos hn], rfl, fun h => absurd hn h, fun q h0 h12 h13 => by rw [e42]; exact hf28 q h0 h13, fun j h7 h8 => by rw [e42]; exact hj28 j h7 h8⟩
theorem dX12_goes_0 : decode cX12_goes 0 = .ok (.iconst 0, 1) := by decide +kernel
theorem dX12_goes_1 : decode cX12_goes 1 = .ok (.istore_n 1, 1) := by decide +kernel
theorem dX12_goes_2 : decode cX12_goes 2 = .ok (.iload_n 1, 1) := by decide +kernel
theorem dX12_goes_3 : decode cX12_goes 3 = .ok (.iconst 4, 1) := by decide +kernel
theorem dX12_goes_4 : decode cX12_goes 4 = .ok (.if_icmp .ge 31, 3) := by decide +kernel
theorem dX12_goes_7 : decode cX12_goes 7 = .ok (.aload_n 0, 1) := by decide +kernel
theorem dX12_goes_8 : decode cX12_goes 8 = .ok (.getfield 36, 3) := by decide +kernel
theorem dX12_goes_11 : decode cX12_goes 11 = .ok (.iload_n 1, 1) := by decide +kernel
theorem dX12_goes_12 : decode cX12_goes 12 = .ok (.aload_n 0, 1) := by decide +kernel
theorem dX12_goes_13 : decode cX12_goes 13 = .ok (.getfield 36, 3) := by decide +kernel
theorem dX12_goes_16 : decode cX12_goes 16 = .ok (.iload_n 1, 1) := by decide +kernel
theorem dX12_goes_17 : decode cX12_goes 17 = .ok (.laload, 1) := by decide +kernel
theorem dX12_goes_18 : decode cX12_goes 18 = .ok (.aload_n 0, 1) := by decide +kernel
theorem dX12_goes_19 : decode cX12_goes 19 = .ok (.getfield 51, 3) := by decide +kernel
theorem dX12_goes_22 : decode cX12_goes 22 = .ok (.iload_n 1, 1) := by decide +kernel
theorem dX12_goes_23 : decode cX12_goes 23 = .ok (.laload, 1) := by decide +kernel
theorem dX12_goes_24 : decode cX12_goes 24 = .ok (.ladd, 1) := by decide +kernel
theorem dX12_goes_25 : decode cX12_goes 25 = .ok (.invokestatic 83, 3) := by decide +kernel
theorem dX12_goes_28 : decode cX12_goes 28 = .ok (.lastore, 1) := by decide +kernel
theorem dX12_goes_29 : decode cX12_goes 29 = .ok (.iinc 1 1, 3) := by decide +kernel
theorem dX12_goes_32 : decode cX12_goes 32 = .ok (.goto (-30), 3) := by decide +kernel
theorem dX12_goes_35 : decode cX12_goes 35 = .ok (.return_, 1) := by decide +kernel
set_option maxHeartbeats 1000000 in
set_option maxRecDepth 100000 in
theorem t_X12_goes (l : Launch) (D : xD) (z n : Nat) (G : xG) (I : xI) (L : xL) (A : Nat) (hM : shMo G A) (zA : z ≤ A) : xM0 l D z yX12_goes cX12_goes 2 none 1 21 [.ref A] n G I L (fun v' I' L' => v' = none ∧ I' = I ∧ (mRp L' (A + 7) 0 = addC (mRp L (A + 7) 0) (mRp L (A + 12) 0)) ∧ (mRp L' (A + 7) 2 = addC (mRp L (A + 7) 2) (mRp L (A + 12) 2)) ∧ (∀ q, q ≠ A + 7 → L' q = L q)) := by
  refine xM.of (by decide) (Nat.le_of_ble_eq_true rfl) (fun p e s m args below meth c C hnm hsz => ?_)
  refine x_lv [(0, .ref A)] rfl ?_
  refine x_iconst 0 C (v := 0) dX12_goes_0 rfl ?_
  refine x_istore_n 1 C [(1, .int 0), (0, .ref A)] dX12_goes_1 rfl (by decide) rfl ?_
  have loop2 : ∀ (fuel : Nat) (k : Nat) (Lk : xL), (k ≤ 4) → (5 ≤ k + fuel) → (∀ j, Lk (A + 7) j = (if j < k then held (L (A + 7) j + L (A + 12) j) else L (A + 7) j)) → (∀ q, q ≠ A + 7 → Lk q = L q) → X p l e (xRm 1 21 0 0) s m args below meth c D z 2 (MQ below (xQc D z n (xN n G (fun v' I' L' => v' = none ∧ I' = I ∧ (mRp L' (A + 7) 0 = addC (mRp L (A + 7) 0) (mRp L (A + 12) 0)) ∧ (mRp L' (A + 7) 2 = addC (mRp L (A + 7) 2) (mRp L (A + 12) 2)) ∧ (∀ q, q ≠ A + 7 → L' q = L q)))) args s 0 0 (fun a => z ≤ a)) 0 0 n G I Lk 2 [(0, .ref A), (1, .int (nI k))] [] := by
    intro fuel
    induction fuel with
    | zero =>
      intro k Lk hk hf h7 hr
      exact absurd hf (by omega)
    | succ fuel ih =>
      intro k Lk hk hf h7 hr
      refine x_iload_n 2 C dX12_goes_2 rfl 1 rfl ?_
      refine x_iconst 3 C (v := 4) dX12_goes_3 rfl ?_
      refine x_icmp_ge 4 C 35 dX12_goes_4 (by decide) (fun c1 => ?_) (fun c1 => ?_)
      · skip
        have c1n : 4 ≤ k := (nI_leI (a := 4) (b := k) (by omega) (by omega)).mp c1
        have c1m : ¬ (k < 4) := by omega
        have c1o := Int32.not_lt.mpr c1
        refine x_vret 35 C dX12_goes_35 rfl (Nat.le_refl _) (xN.intro ?_)
        have hk4 : k = 4 := by omega
        subst hk4
        exact ⟨rfl, rfl, by unfold mRp; rw [h7, h7]; rfl, by unfold mRp; rw [h7, h7]; rfl, hr⟩
      · skip
        have c1n : ¬ (4 ≤ k) := fun h => c1 ((nI_leI (a := 4) (b := k) (by omega) (by omega)).mpr h)
        have c1m : k < 4 := by omega
        have c1o := Int32.not_le.mp c1
        refine x_aload_n 7 C dX12_goes_7 rfl 0 rfl ?_
        refine x_getr 8 C (b := A + 7) dX12_goes_8 ff_X12_36 rfl hM.1 rfl ?_
        refine x_iload_n 11 C dX12_goes_11 rfl 1 rfl ?_
        refine x_aload_n 12 C dX12_goes_12 rfl 0 rfl ?_
        refine x_getr 13 C (b := A + 7) dX12_goes_13 ff_X12_36 rfl hM.1 rfl ?_
        refine x_iload_n 16 C dX12_goes_16 rfl 1 rfl ?_
        refine x_lald 17 C (j := k) dX12_goes_17 hM.2.2.2.2.2.2.2.1 (xIx_nI (by omega) (by decide)) ?_
        refine x_long (L (A + 7) k) (by rw [h7, if_neg (by omega)]) ?_
        refine x_aload_n 18 C dX12_goes_18 rfl 0 rfl ?_
        refine x_getr 19 C (b := A + 12) dX12_goes_19 ff_X12_51 rfl hM.1 rfl ?_
        refine x_iload_n 22 C dX12_goes_22 rfl 1 rfl ?_
        refine x_lald 23 C (j := k) dX12_goes_23 hM.2.2.2.2.2.2.2.2.2.2.2.2.1 (xIx_nI (by omega) (by decide)) ?_
        refine x_long (L (A + 12) k) (by rw [hr _ (by omega)]) ?_
        refine x_ladd 24 C dX12_goes_24 ?_
        refine x_callSe 25 C dX12_goes_25 (As := [.long ((L (A + 7) k) + (L (A + 12) k))]) (rest := [.int (nI k), .ref (A + 7)]) [.long (held ((L (A + 7) k) + (L (A + 12) k))), .int (nI k), .ref (A + 7)] (t_X12_held l D z n G I Lk ((L (A + 7) k) + (L (A + 12) k)) ) mt_X12_held km_X12_83 kt_X12_held rfl rfl (Nat.le_of_ble_eq_true rfl) ⟨⟨by decide, by decide⟩, by decide, by decide⟩ (fun I2 L3 eI2 eL3 => ?_)
        replace eI2 := eI2.symm; subst eI2
        replace eL3 := eL3.symm; subst eL3
        refine x_last 28 C (j := k) dX12_goes_28 hM.2.2.2.2.2.2.2.1 (by omega) (xIx_nI (by omega) (by decide)) (fun L4 eL4 => ?_)
        refine x_iinc 29 C [(1, .int (nI (k + 1))), (0, .ref A)] dX12_goes_29 1 rfl (nI_add k 1) (by decide) rfl ?_
        refine x_goto 32 C 2 dX12_goes_32 (by decide) ?_
        refine x_sub [(0, .ref A), (1, .int (nI (k + 1)))] [1, 0] rfl ?_
        exact ih (k + 1) L4 (by omega) (by omega) (fun j => by rw [eL4, xup_at]; by_cases h : j = k; (rw [if_pos h, if_pos (by omega), h]); (rw [if_neg h, h7]; by_cases h2 : j < k; (rw [if_pos h2, if_pos (by omega)]); (rw [if_neg h2, if_neg (by omega)]))) (fun q hq => by rw [eL4, xup_row _ _ hq]; exact hr q hq)
  refine x_sub [(0, .ref A), (1, .int 0)] [1, 0] rfl ?_
  exact loop2 5 0 L (by omega) (by omega) (fun j => (if_neg (by omega)).symm) (fun _ _ => rfl)
