/-! The Model: powers, coefficients, product -/
def pw1 (u : Int64) (x : xC) (k : Nat) : xC := if k = 0 then (u, 0) else if k = 1 then x else if k = 2 then mulC u x x else mulC u (mulC u x x) x
def powAt (L : xL) (A fr : Nat) (u : Int64) (x : xC) : Prop := ∀ k, k < 4 → L (A + 6) (fr + 2 * k) = (pw1 u x k).1 ∧ L (A + 6) (fr + 2 * k + 1) = (pw1 u x k).2
theorem dX12_layPowers_0 : decode cX12_layPowers 0 = .ok (.aload_n 0, 1) := by decide +kernel
theorem dX12_layPowers_1 : decode cX12_layPowers 1 = .ok (.getfield 32, 3) := by decide +kernel
theorem dX12_layPowers_4 : decode cX12_layPowers 4 = .ok (.iload_n 1, 1) := by decide +kernel
theorem dX12_layPowers_5 : decode cX12_layPowers 5 = .ok (.aload_n 0, 1) := by decide +kernel
theorem dX12_layPowers_6 : decode cX12_layPowers 6 = .ok (.getfield 28, 3) := by decide +kernel
theorem dX12_layPowers_9 : decode cX12_layPowers 9 = .ok (.lastore, 1) := by decide +kernel
theorem dX12_layPowers_10 : decode cX12_layPowers 10 = .ok (.aload_n 0, 1) := by decide +kernel
theorem dX12_layPowers_11 : decode cX12_layPowers 11 = .ok (.getfield 32, 3) := by decide +kernel
theorem dX12_layPowers_14 : decode cX12_layPowers 14 = .ok (.iload_n 1, 1) := by decide +kernel
theorem dX12_layPowers_15 : decode cX12_layPowers 15 = .ok (.iconst 1, 1) := by decide +kernel
theorem dX12_layPowers_16 : decode cX12_layPowers 16 = .ok (.iadd, 1) := by decide +kernel
theorem dX12_layPowers_17 : decode cX12_layPowers 17 = .ok (.lconst 0, 1) := by decide +kernel
theorem dX12_layPowers_18 : decode cX12_layPowers 18 = .ok (.lastore, 1) := by decide +kernel
theorem dX12_layPowers_19 : decode cX12_layPowers 19 = .ok (.aload_n 0, 1) := by decide +kernel
theorem dX12_layPowers_20 : decode cX12_layPowers 20 = .ok (.getfield 32, 3) := by decide +kernel
theorem dX12_layPowers_23 : decode cX12_layPowers 23 = .ok (.iload_n 1, 1) := by decide +kernel
theorem dX12_layPowers_24 : decode cX12_layPowers 24 = .ok (.iconst 2, 1) := by decide +kernel
theorem dX12_layPowers_25 : decode cX12_layPowers 25 = .ok (.iadd, 1) := by decide +kernel
theorem dX12_layPowers_26 : decode cX12_layPowers 26 = .ok (.lload_n 2, 1) := by decide +kernel
theorem dX12_layPowers_27 : decode cX12_layPowers 27 = .ok (.lastore, 1) := by decide +kernel
theorem dX12_layPowers_28 : decode cX12_layPowers 28 = .ok (.aload_n 0, 1) := by decide +kernel
theorem dX12_layPowers_29 : decode cX12_layPowers 29 = .ok (.getfield 32, 3) := by decide +kernel
theorem dX12_layPowers_32 : decode cX12_layPowers 32 = .ok (.iload_n 1, 1) := by decide +kernel
theorem dX12_layPowers_33 : decode cX12_layPowers 33 = .ok (.iconst 3, 1) := by decide +kernel
theorem dX12_layPowers_34 : decode cX12_layPowers 34 = .ok (.iadd, 1) := by decide +kernel
theorem dX12_layPowers_35 : decode cX12_layPowers 35 = .ok (.lload 4, 2) := by decide +kernel
theorem dX12_layPowers_37 : decode cX12_layPowers 37 = .ok (.lastore, 1) := by decide +kernel
theorem dX12_layPowers_38 : decode cX12_layPowers 38 = .ok (.iconst 2, 1) := by decide +kernel
theorem dX12_layPowers_39 : decode cX12_layPowers 39 = .ok (.istore 6, 2) := by decide +kernel
theorem dX12_layPowers_41 : decode cX12_layPowers 41 = .ok (.iload 6, 2) := by decide +kernel
theorem dX12_layPowers_43 : decode cX12_layPowers 43 = .ok (.iconst 4, 1) := by decide +kernel
theorem dX12_layPowers_44 : decode cX12_layPowers 44 = .ok (.if_icmp .ge 74, 3) := by decide +kernel
theorem dX12_layPowers_47 : decode cX12_layPowers 47 = .ok (.aload_n 0, 1) := by decide +kernel
theorem dX12_layPowers_48 : decode cX12_layPowers 48 = .ok (.aload_n 0, 1) := by decide +kernel
theorem dX12_layPowers_49 : decode cX12_layPowers 49 = .ok (.getfield 32, 3) := by decide +kernel
theorem dX12_layPowers_52 : decode cX12_layPowers 52 = .ok (.iload_n 1, 1) := by decide +kernel
theorem dX12_layPowers_53 : decode cX12_layPowers 53 = .ok (.iconst 2, 1) := by decide +kernel
theorem dX12_layPowers_54 : decode cX12_layPowers 54 = .ok (.iload 6, 2) := by decide +kernel
theorem dX12_layPowers_56 : decode cX12_layPowers 56 = .ok (.imul, 1) := by decide +kernel
theorem dX12_layPowers_57 : decode cX12_layPowers 57 = .ok (.iadd, 1) := by decide +kernel
theorem dX12_layPowers_58 : decode cX12_layPowers 58 = .ok (.iconst 2, 1) := by decide +kernel
theorem dX12_layPowers_59 : decode cX12_layPowers 59 = .ok (.isub, 1) := by decide +kernel
theorem dX12_layPowers_60 : decode cX12_layPowers 60 = .ok (.laload, 1) := by decide +kernel
theorem dX12_layPowers_61 : decode cX12_layPowers 61 = .ok (.aload_n 0, 1) := by decide +kernel
theorem dX12_layPowers_62 : decode cX12_layPowers 62 = .ok (.getfield 32, 3) := by decide +kernel
theorem dX12_layPowers_65 : decode cX12_layPowers 65 = .ok (.iload_n 1, 1) := by decide +kernel
theorem dX12_layPowers_66 : decode cX12_layPowers 66 = .ok (.iconst 2, 1) := by decide +kernel
theorem dX12_layPowers_67 : decode cX12_layPowers 67 = .ok (.iload 6, 2) := by decide +kernel
theorem dX12_layPowers_69 : decode cX12_layPowers 69 = .ok (.imul, 1) := by decide +kernel
theorem dX12_layPowers_70 : decode cX12_layPowers 70 = .ok (.iadd, 1) := by decide +kernel
theorem dX12_layPowers_71 : decode cX12_layPowers 71 = .ok (.iconst 1, 1) := by decide +kernel
theorem dX12_layPowers_72 : decode cX12_layPowers 72 = .ok (.isub, 1) := by decide +kernel
theorem dX12_layPowers_73 : decode cX12_layPowers 73 = .ok (.laload, 1) := by decide +kernel
theorem dX12_layPowers_74 : decode cX12_layPowers 74 = .ok (.lload_n 2, 1) := by decide +kernel
theorem dX12_layPowers_75 : decode cX12_layPowers 75 = .ok (.lload 4, 2) := by decide +kernel
theorem dX12_layPowers_77 : decode cX12_layPowers 77 = .ok (.invokevirtual 100, 3) := by decide +kernel
theorem dX12_layPowers_80 : decode cX12_layPowers 80 = .ok (.aload_n 0, 1) := by decide +kernel
theorem dX12_layPowers_81 : decode cX12_layPowers 81 = .ok (.getfield 32, 3) := by decide +kernel
theorem dX12_layPowers_84 : decode cX12_layPowers 84 = .ok (.iload_n 1, 1) := by decide +kernel
theorem dX12_layPowers_85 : decode cX12_layPowers 85 = .ok (.iconst 2, 1) := by decide +kernel
theorem dX12_layPowers_86 : decode cX12_layPowers 86 = .ok (.iload 6, 2) := by decide +kernel
theorem dX12_layPowers_88 : decode cX12_layPowers 88 = .ok (.imul, 1) := by decide +kernel
theorem dX12_layPowers_89 : decode cX12_layPowers 89 = .ok (.iadd, 1) := by decide +kernel
theorem dX12_layPowers_90 : decode cX12_layPowers 90 = .ok (.aload_n 0, 1) := by decide +kernel
theorem dX12_layPowers_91 : decode cX12_layPowers 91 = .ok (.getfield 87, 3) := by decide +kernel
theorem dX12_layPowers_94 : decode cX12_layPowers 94 = .ok (.lastore, 1) := by decide +kernel
theorem dX12_layPowers_95 : decode cX12_layPowers 95 = .ok (.aload_n 0, 1) := by decide +kernel
theorem dX12_layPowers_96 : decode cX12_layPowers 96 = .ok (.getfield 32, 3) := by decide +kernel
theorem dX12_layPowers_99 : decode cX12_layPowers 99 = .ok (.iload_n 1, 1) := by decide +kernel
theorem dX12_layPowers_100 : decode cX12_layPowers 100 = .ok (.iconst 2, 1) := by decide +kernel
theorem dX12_layPowers_101 : decode cX12_layPowers 101 = .ok (.iload 6, 2) := by decide +kernel
theorem dX12_layPowers_103 : decode cX12_layPowers 103 = .ok (.imul, 1) := by decide +kernel
theorem dX12_layPowers_104 : decode cX12_layPowers 104 = .ok (.iadd, 1) := by decide +kernel
theorem dX12_layPowers_105 : decode cX12_layPowers 105 = .ok (.iconst 1, 1) := by decide +kernel
theorem dX12_layPowers_106 : decode cX12_layPowers 106 = .ok (.iadd, 1) := by decide +kernel
theorem dX12_layPowers_107 : decode cX12_layPowers 107 = .ok (.aload_n 0, 1) := by decide +kernel
theorem dX12_layPowers_108 : decode cX12_layPowers 108 = .ok (.getfield 90, 3) := by decide +kernel
theorem dX12_layPowers_111 : decode cX12_layPowers 111 = .ok (.lastore, 1) := by decide +kernel
theorem dX12_layPowers_112 : decode cX12_layPowers 112 = .ok (.iinc 6 1, 3) := by decide +kernel
theorem dX12_layPowers_115 : decode cX12_layPowers 115 = .ok (.goto (-74), 3) := by decide +kernel
theorem dX12_layPowers_118 : decode cX12_layPowers 118 = .ok (.return_, 1) := by decide +kernel
set_option maxHeartbeats 1000000 in
set_option maxRecDepth 100000 in
theorem t_X12_layPowers (l : Launch) (D : xD) (z n : Nat) (G : xG) (I : xI) (L : xL) (A : Nat) (fr : Nat) (x : Int64) (y : Int64) (u : Int64) (hM : shMo G A) (zA : z ≤ A) (hu9 : L A 9 = u) (hu : ¬ u = 0) (hfr : fr = 0 ∨ fr = 8) : xM0 l D z yX12_layPowers cX12_layPowers 7 none 3 73 [.ref A, .int (nI fr), .long x, .long y] n G I L (fun v' I' L' => v' = none ∧ I' = I ∧ (powAt L' A fr u (x, y)) ∧ (∀ j, (j < fr ∨ fr + 8 ≤ j) → L' (A + 6) j = L (A + 6) j) ∧ (∀ q, q ≠ A → q ≠ A + 6 → L' q = L q) ∧ (∀ j, j ≠ 7 → j ≠ 8 → L' A j = L A j)) := by
  refine xM.of (by decide) (Nat.le_of_ble_eq_true rfl) (fun p e s m args below meth c C hnm hsz => ?_)
  refine x_lv [(0, .ref A), (1, .int (nI fr)), (2, .long x), (4, .long y)] rfl ?_
  rcases (show fr = 0 ∨ fr = 8 by omega) with rfl | rfl
  · skip
    refine x_aload_n 0 C dX12_layPowers_0 rfl 0 rfl ?_
    refine x_getr 1 C (b := A + 6) dX12_layPowers_1 ff_X12_32 rfl hM.1 rfl ?_
    refine x_iload_n 4 C dX12_layPowers_4 rfl 1 rfl ?_
    refine x_aload_n 5 C dX12_layPowers_5 rfl 0 rfl ?_
    refine x_getl 6 C dX12_layPowers_6 ff_X12_28 hM.1 ?_
    refine x_long u hu9 ?_
    refine x_last 9 C (j := 0) dX12_layPowers_9 hM.2.2.2.2.2.2.1 (by omega) (xIx_nI (by omega) (by decide)) (fun L1 eL1 => ?_)
    refine x_aload_n 10 C dX12_layPowers_10 rfl 0 rfl ?_
    refine x_getr 11 C (b := A + 6) dX12_layPowers_11 ff_X12_32 rfl hM.1 rfl ?_
    refine x_iload_n 14 C dX12_layPowers_14 rfl 1 rfl ?_
    refine x_iconst 15 C (v := 1) dX12_layPowers_15 rfl ?_
    refine x_iadd 16 C dX12_layPowers_16 ?_
    refine x_int 1 (by decide) ?_
    refine x_lconst 17 C (v := 0) dX12_layPowers_17 rfl ?_
    refine x_last 18 C (j := 1) dX12_layPowers_18 hM.2.2.2.2.2.2.1 (by omega) ⟨by decide, by decide, by decide⟩ (fun L2 eL2 => ?_)
    refine x_aload_n 19 C dX12_layPowers_19 rfl 0 rfl ?_
    refine x_getr 20 C (b := A + 6) dX12_layPowers_20 ff_X12_32 rfl hM.1 rfl ?_
    refine x_iload_n 23 C dX12_layPowers_23 rfl 1 rfl ?_
    refine x_iconst 24 C (v := 2) dX12_layPowers_24 rfl ?_
    refine x_iadd 25 C dX12_layPowers_25 ?_
    refine x_int 2 (by decide) ?_
    refine x_lload_n 26 C dX12_layPowers_26 rfl 2 rfl ?_
    refine x_last 27 C (j := 2) dX12_layPowers_27 hM.2.2.2.2.2.2.1 (by omega) ⟨by decide, by decide, by decide⟩ (fun L3 eL3 => ?_)
    refine x_aload_n 28 C dX12_layPowers_28 rfl 0 rfl ?_
    refine x_getr 29 C (b := A + 6) dX12_layPowers_29 ff_X12_32 rfl hM.1 rfl ?_
    refine x_iload_n 32 C dX12_layPowers_32 rfl 1 rfl ?_
    refine x_iconst 33 C (v := 3) dX12_layPowers_33 rfl ?_
    refine x_iadd 34 C dX12_layPowers_34 ?_
    refine x_int 3 (by decide) ?_
    refine x_lload 35 C dX12_layPowers_35 3 rfl ?_
    refine x_last 37 C (j := 3) dX12_layPowers_37 hM.2.2.2.2.2.2.1 (by omega) ⟨by decide, by decide, by decide⟩ (fun L4 eL4 => ?_)
    refine x_iconst 38 C (v := 2) dX12_layPowers_38 rfl ?_
    refine x_istore 39 C [(6, .int 2), (0, .ref A), (1, .int (nI 0)), (2, .long x), (4, .long y)] dX12_layPowers_39 (by decide) rfl ?_
    refine x_iload 41 C dX12_layPowers_41 0 rfl ?_
    refine x_iconst 43 C (v := 4) dX12_layPowers_43 rfl ?_
    refine x_icmp_ge 44 C 118 dX12_layPowers_44 (by decide) (fun c5 => absurd c5 (by decide)) (fun _ => ?_)
    refine x_aload_n 47 C dX12_layPowers_47 rfl 1 rfl ?_
    refine x_aload_n 48 C dX12_layPowers_48 rfl 1 rfl ?_
    refine x_getr 49 C (b := A + 6) dX12_layPowers_49 ff_X12_32 rfl hM.1 rfl ?_
    refine x_iload_n 52 C dX12_layPowers_52 rfl 2 rfl ?_
    refine x_iconst 53 C (v := 2) dX12_layPowers_53 rfl ?_
    refine x_iload 54 C dX12_layPowers_54 0 rfl ?_
    refine x_imul 56 C dX12_layPowers_56 ?_
    refine x_int 4 (by decide) ?_
    refine x_iadd 57 C dX12_layPowers_57 ?_
    refine x_int 4 (by decide) ?_
    refine x_iconst 58 C (v := 2) dX12_layPowers_58 rfl ?_
    refine x_isub 59 C dX12_layPowers_59 ?_
    refine x_int 2 (by decide) ?_
    refine x_lald 60 C (j := 2) dX12_layPowers_60 hM.2.2.2.2.2.2.1 ⟨by decide, by decide, by decide⟩ ?_
    refine x_long ((pw1 u (x, y) 1).1) (by simp [eL1, eL2, eL3, eL4, mwC, xup, pw1, hu9]) ?_
    refine x_aload_n 61 C dX12_layPowers_61 rfl 1 rfl ?_
    refine x_getr 62 C (b := A + 6) dX12_layPowers_62 ff_X12_32 rfl hM.1 rfl ?_
    refine x_iload_n 65 C dX12_layPowers_65 rfl 2 rfl ?_
    refine x_iconst 66 C (v := 2) dX12_layPowers_66 rfl ?_
    refine x_iload 67 C dX12_layPowers_67 0 rfl ?_
    refine x_imul 69 C dX12_layPowers_69 ?_
    refine x_int 4 (by decide) ?_
    refine x_iadd 70 C dX12_layPowers_70 ?_
    refine x_int 4 (by decide) ?_
    refine x_iconst 71 C (v := 1) dX12_layPowers_71 rfl ?_
    refine x_isub 72 C dX12_layPowers_72 ?_
    refine x_int 3 (by decide) ?_
    refine x_lald 73 C (j := 3) dX12_layPowers_73 hM.2.2.2.2.2.2.1 ⟨by decide, by decide, by decide⟩ ?_
    refine x_long ((pw1 u (x, y) 1).2) (by simp [eL1, eL2, eL3, eL4, mwC, xup, pw1, hu9]) ?_
    refine x_lload_n 74 C dX12_layPowers_74 rfl 3 rfl ?_
    refine x_lload 75 C dX12_layPowers_75 4 rfl ?_
    refine x_callVe 77 C dX12_layPowers_77 (As := [.long ((pw1 u (x, y) 1).1), .long ((pw1 u (x, y) 1).2), .long x, .long y]) (rest := []) [] (t_X12_times l D z n G I L4 A ((pw1 u (x, y) 1).1) ((pw1 u (x, y) 1).2) x y u hM (by omega) (by simp [eL1, eL2, eL3, eL4, mwC, xup, hu9]) (by first | assumption | omega | decide)) mt_X12_times km_X12_100 ki_X12_times ks_X12_times hM.1 ⟨by decide, rfl⟩ rfl rfl (Nat.le_of_ble_eq_true rfl) ⟨⟨by decide, by decide⟩, by decide, by decide⟩ (fun I6 L7 eI6 eL7 => ?_)
    replace eI6 := eI6.symm; subst eI6
    refine x_aload_n 80 C dX12_layPowers_80 rfl 1 rfl ?_
    refine x_getr 81 C (b := A + 6) dX12_layPowers_81 ff_X12_32 rfl hM.1 rfl ?_
    refine x_iload_n 84 C dX12_layPowers_84 rfl 2 rfl ?_
    refine x_iconst 85 C (v := 2) dX12_layPowers_85 rfl ?_
    refine x_iload 86 C dX12_layPowers_86 0 rfl ?_
    refine x_imul 88 C dX12_layPowers_88 ?_
    refine x_int 4 (by decide) ?_
    refine x_iadd 89 C dX12_layPowers_89 ?_
    refine x_int 4 (by decide) ?_
    refine x_aload_n 90 C dX12_layPowers_90 rfl 1 rfl ?_
    refine x_getl 91 C dX12_layPowers_91 ff_X12_87 hM.1 ?_
    refine x_last 94 C (j := 4) dX12_layPowers_94 hM.2.2.2.2.2.2.1 (by omega) ⟨by decide, by decide, by decide⟩ (fun L8 eL8 => ?_)
    refine x_aload_n 95 C dX12_layPowers_95 rfl 1 rfl ?_
    refine x_getr 96 C (b := A + 6) dX12_layPowers_96 ff_X12_32 rfl hM.1 rfl ?_
    refine x_iload_n 99 C dX12_layPowers_99 rfl 2 rfl ?_
    refine x_iconst 100 C (v := 2) dX12_layPowers_100 rfl ?_
    refine x_iload 101 C dX12_layPowers_101 0 rfl ?_
    refine x_imul 103 C dX12_layPowers_103 ?_
    refine x_int 4 (by decide) ?_
    refine x_iadd 104 C dX12_layPowers_104 ?_
    refine x_int 4 (by decide) ?_
    refine x_iconst 105 C (v := 1) dX12_layPowers_105 rfl ?_
    refine x_iadd 106 C dX12_layPowers_106 ?_
    refine x_int 5 (by decide) ?_
    refine x_aload_n 107 C dX12_layPowers_107 rfl 1 rfl ?_
    refine x_getl 108 C dX12_layPowers_108 ff_X12_90 hM.1 ?_
    refine x_last 111 C (j := 5) dX12_layPowers_111 hM.2.2.2.2.2.2.1 (by omega) ⟨by decide, by decide, by decide⟩ (fun L9 eL9 => ?_)
    refine x_iinc 112 C [(6, .int 3), (0, .ref A), (1, .int (nI 0)), (2, .long x), (4, .long y)] dX12_layPowers_112 0 rfl (by decide) (by decide) rfl ?_
    refine x_goto 115 C 41 dX12_layPowers_115 (by decide) ?_
    refine x_iload 41 C dX12_layPowers_41 0 rfl ?_
    refine x_iconst 43 C (v := 4) dX12_layPowers_43 rfl ?_
    refine x_icmp_ge 44 C 118 dX12_layPowers_44 (by decide) (fun c10 => absurd c10 (by decide)) (fun _ => ?_)
    refine x_aload_n 47 C dX12_layPowers_47 rfl 1 rfl ?_
    refine x_aload_n 48 C dX12_layPowers_48 rfl 1 rfl ?_
    refine x_getr 49 C (b := A + 6) dX12_layPowers_49 ff_X12_32 rfl hM.1 rfl ?_
    refine x_iload_n 52 C dX12_layPowers_52 rfl 2 rfl ?_
    refine x_iconst 53 C (v := 2) dX12_layPowers_53 rfl ?_
    refine x_iload 54 C dX12_layPowers_54 0 rfl ?_
    refine x_imul 56 C dX12_layPowers_56 ?_
    refine x_int 6 (by decide) ?_
    refine x_iadd 57 C dX12_layPowers_57 ?_
    refine x_int 6 (by decide) ?_
    refine x_iconst 58 C (v := 2) dX12_layPowers_58 rfl ?_
    refine x_isub 59 C dX12_layPowers_59 ?_
    refine x_int 4 (by decide) ?_
    refine x_lald 60 C (j := 4) dX12_layPowers_60 hM.2.2.2.2.2.2.1 ⟨by decide, by decide, by decide⟩ ?_
    refine x_long ((pw1 u (x, y) 2).1) (by simp [eL1, eL2, eL3, eL4, eL7, eL8, eL9, mwC, xup, pw1, hu9]) ?_
    refine x_aload_n 61 C dX12_layPowers_61 rfl 1 rfl ?_
    refine x_getr 62 C (b := A + 6) dX12_layPowers_62 ff_X12_32 rfl hM.1 rfl ?_
    refine x_iload_n 65 C dX12_layPowers_65 rfl 2 rfl ?_
    refine x_iconst 66 C (v := 2) dX12_layPowers_66 rfl ?_
    refine x_iload 67 C dX12_layPowers_67 0 rfl ?_
    refine x_imul 69 C dX12_layPowers_69 ?_
    refine x_int 6 (by decide) ?_
    refine x_iadd 70 C dX12_layPowers_70 ?_
    refine x_int 6 (by decide) ?_
    refine x_iconst 71 C (v := 1) dX12_layPowers_71 rfl ?_
    refine x_isub 72 C dX12_layPowers_72 ?_
    refine x_int 5 (by decide) ?_
    refine x_lald 73 C (j := 5) dX12_layPowers_73 hM.2.2.2.2.2.2.1 ⟨by decide, by decide, by decide⟩ ?_
    refine x_long ((pw1 u (x, y) 2).2) (by simp [eL1, eL2, eL3, eL4, eL7, eL8, eL9, mwC, xup, pw1, hu9]) ?_
    refine x_lload_n 74 C dX12_layPowers_74 rfl 3 rfl ?_
    refine x_lload 75 C dX12_layPowers_75 4 rfl ?_
    refine x_callVe 77 C dX12_layPowers_77 (As := [.long ((pw1 u (x, y) 2).1), .long ((pw1 u (x, y) 2).2), .long x, .long y]) (rest := []) [] (t_X12_times l D z n G I L9 A ((pw1 u (x, y) 2).1) ((pw1 u (x, y) 2).2) x y u hM (by omega) (by simp [eL1, eL2, eL3, eL4, eL7, eL8, eL9, mwC, xup, hu9]) (by first | assumption | omega | decide)) mt_X12_times km_X12_100 ki_X12_times ks_X12_times hM.1 ⟨by decide, rfl⟩ rfl rfl (Nat.le_of_ble_eq_true rfl) ⟨⟨by decide, by decide⟩, by decide, by decide⟩ (fun I11 L12 eI11 eL12 => ?_)
    replace eI11 := eI11.symm; subst eI11
    refine x_aload_n 80 C dX12_layPowers_80 rfl 1 rfl ?_
    refine x_getr 81 C (b := A + 6) dX12_layPowers_81 ff_X12_32 rfl hM.1 rfl ?_
    refine x_iload_n 84 C dX12_layPowers_84 rfl 2 rfl ?_
    refine x_iconst 85 C (v := 2) dX12_layPowers_85 rfl ?_
    refine x_iload 86 C dX12_layPowers_86 0 rfl ?_
    refine x_imul 88 C dX12_layPowers_88 ?_
    refine x_int 6 (by decide) ?_
    refine x_iadd 89 C dX12_layPowers_89 ?_
    refine x_int 6 (by decide) ?_
    refine x_aload_n 90 C dX12_layPowers_90 rfl 1 rfl ?_
    refine x_getl 91 C dX12_layPowers_91 ff_X12_87 hM.1 ?_
    refine x_last 94 C (j := 6) dX12_layPowers_94 hM.2.2.2.2.2.2.1 (by omega) ⟨by decide, by decide, by decide⟩ (fun L13 eL13 => ?_)
    refine x_aload_n 95 C dX12_layPowers_95 rfl 1 rfl ?_
    refine x_getr 96 C (b := A + 6) dX12_layPowers_96 ff_X12_32 rfl hM.1 rfl ?_
    refine x_iload_n 99 C dX12_layPowers_99 rfl 2 rfl ?_
    refine x_iconst 100 C (v := 2) dX12_layPowers_100 rfl ?_
    refine x_iload 101 C dX12_layPowers_101 0 rfl ?_
    refine x_imul 103 C dX12_layPowers_103 ?_
    refine x_int 6 (by decide) ?_
    refine x_iadd 104 C dX12_layPowers_104 ?_
    refine x_int 6 (by decide) ?_
    refine x_iconst 105 C (v := 1) dX12_layPowers_105 rfl ?_
    refine x_iadd 106 C dX12_layPowers_106 ?_
    refine x_int 7 (by decide) ?_
    refine x_aload_n 107 C dX12_layPowers_107 rfl 1 rfl ?_
    refine x_getl 108 C dX12_layPowers_108 ff_X12_90 hM.1 ?_
    refine x_last 111 C (j := 7) dX12_layPowers_111 hM.2.2.2.2.2.2.1 (by omega) ⟨by decide, by decide, by decide⟩ (fun L14 eL14 => ?_)
    refine x_iinc 112 C [(6, .int 4), (0, .ref A), (1, .int (nI 0)), (2, .long x), (4, .long y)] dX12_layPowers_112 0 rfl (by decide) (by decide) rfl ?_
    refine x_goto 115 C 41 dX12_layPowers_115 (by decide) ?_
    refine x_iload 41 C dX12_layPowers_41 0 rfl ?_
    refine x_iconst 43 C (v := 4) dX12_layPowers_43 rfl ?_
    refine x_icmp_ge 44 C 118 dX12_layPowers_44 (by decide) (fun _ => ?_) (fun c15 => absurd (by decide) c15)
    refine x_vret 118 C dX12_layPowers_118 rfl (Nat.le_refl _) (xN.intro ?_)
    refine ⟨rfl, rfl, fun k hk => ?_, fun j hj => ?_, fun q h1 h2 => ?_, fun j h7 h8 => ?_⟩
    · rcases (show k = 0 ∨ k = 1 ∨ k = 2 ∨ k = 3 by omega) with rfl | rfl | rfl | rfl <;> simp [eL1, eL2, eL3, eL4, eL7, eL8, eL9, eL12, eL13, eL14, mwC, xup, pw1, hu9]
    · simp only [eL1, eL2, eL3, eL4, eL7, eL8, eL9, eL12, eL13, eL14, mwC, xup]; simp only [show ¬ A + 6 = A by omega, false_and, if_false, true_and]; (repeat' rw [if_neg (by omega)])
    · simp only [eL1, eL2, eL3, eL4, eL7, eL8, eL9, eL12, eL13, eL14, mwC, xup_row _ _ h1, xup_row _ _ h2]
    · simp [eL1, eL2, eL3, eL4, eL7, eL8, eL9, eL12, eL13, eL14, mwC, xup, h7, h8]
  · skip
    refine x_aload_n 0 C dX12_layPowers_0 rfl 0 rfl ?_
    refine x_getr 1 C (b := A + 6) dX12_layPowers_1 ff_X12_32 rfl hM.1 rfl ?_
    refine x_iload_n 4 C dX12_layPowers_4 rfl 1 rfl ?_
    refine x_aload_n 5 C dX12_layPowers_5 rfl 0 rfl ?_
    refine x_getl 6 C dX12_layPowers_6 ff_X12_28 hM.1 ?_
    refine x_long u hu9 ?_
    refine x_last 9 C (j := 8) dX12_layPowers_9 hM.2.2.2.2.2.2.1 (by omega) (xIx_nI (by omega) (by decide)) (fun L16 eL16 => ?_)
    refine x_aload_n 10 C dX12_layPowers_10 rfl 0 rfl ?_
    refine x_getr 11 C (b := A + 6) dX12_layPowers_11 ff_X12_32 rfl hM.1 rfl ?_
    refine x_iload_n 14 C dX12_layPowers_14 rfl 1 rfl ?_
    refine x_iconst 15 C (v := 1) dX12_layPowers_15 rfl ?_
    refine x_iadd 16 C dX12_layPowers_16 ?_
    refine x_int 9 (by decide) ?_
    refine x_lconst 17 C (v := 0) dX12_layPowers_17 rfl ?_
    refine x_last 18 C (j := 9) dX12_layPowers_18 hM.2.2.2.2.2.2.1 (by omega) ⟨by decide, by decide, by decide⟩ (fun L17 eL17 => ?_)
    refine x_aload_n 19 C dX12_layPowers_19 rfl 0 rfl ?_
    refine x_getr 20 C (b := A + 6) dX12_layPowers_20 ff_X12_32 rfl hM.1 rfl ?_
    refine x_iload_n 23 C dX12_layPowers_23 rfl 1 rfl ?_
    refine x_iconst 24 C (v := 2) dX12_layPowers_24 rfl ?_
    refine x_iadd 25 C dX12_layPowers_25 ?_
    refine x_int 10 (by decide) ?_
    refine x_lload_n 26 C dX12_layPowers_26 rfl 2 rfl ?_
    refine x_last 27 C (j := 10) dX12_layPowers_27 hM.2.2.2.2.2.2.1 (by omega) ⟨by decide, by decide, by decide⟩ (fun L18 eL18 => ?_)
    refine x_aload_n 28 C dX12_layPowers_28 rfl 0 rfl ?_
    refine x_getr 29 C (b := A + 6) dX12_layPowers_29 ff_X12_32 rfl hM.1 rfl ?_
    refine x_iload_n 32 C dX12_layPowers_32 rfl 1 rfl ?_
    refine x_iconst 33 C (v := 3) dX12_layPowers_33 rfl ?_
    refine x_iadd 34 C dX12_layPowers_34 ?_
    refine x_int 11 (by decide) ?_
    refine x_lload 35 C dX12_layPowers_35 3 rfl ?_
    refine x_last 37 C (j := 11) dX12_layPowers_37 hM.2.2.2.2.2.2.1 (by omega) ⟨by decide, by decide, by decide⟩ (fun L19 eL19 => ?_)
    refine x_iconst 38 C (v := 2) dX12_layPowers_38 rfl ?_
    refine x_istore 39 C [(6, .int 2), (0, .ref A), (1, .int (nI 8)), (2, .long x), (4, .long y)] dX12_layPowers_39 (by decide) rfl ?_
    refine x_iload 41 C dX12_layPowers_41 0 rfl ?_
    refine x_iconst 43 C (v := 4) dX12_layPowers_43 rfl ?_
    refine x_icmp_ge 44 C 118 dX12_layPowers_44 (by decide) (fun c20 => absurd c20 (by decide)) (fun _ => ?_)
    refine x_aload_n 47 C dX12_layPowers_47 rfl 1 rfl ?_
    refine x_aload_n 48 C dX12_layPowers_48 rfl 1 rfl ?_
    refine x_getr 49 C (b := A + 6) dX12_layPowers_49 ff_X12_32 rfl hM.1 rfl ?_
    refine x_iload_n 52 C dX12_layPowers_52 rfl 2 rfl ?_
    refine x_iconst 53 C (v := 2) dX12_layPowers_53 rfl ?_
    refine x_iload 54 C dX12_layPowers_54 0 rfl ?_
    refine x_imul 56 C dX12_layPowers_56 ?_
    refine x_int 4 (by decide) ?_
    refine x_iadd 57 C dX12_layPowers_57 ?_
    refine x_int 12 (by decide) ?_
    refine x_iconst 58 C (v := 2) dX12_layPowers_58 rfl ?_
    refine x_isub 59 C dX12_layPowers_59 ?_
    refine x_int 10 (by decide) ?_
    refine x_lald 60 C (j := 10) dX12_layPowers_60 hM.2.2.2.2.2.2.1 ⟨by decide, by decide, by decide⟩ ?_
    refine x_long ((pw1 u (x, y) 1).1) (by simp [eL16, eL17, eL18, eL19, mwC, xup, pw1, hu9]) ?_
    refine x_aload_n 61 C dX12_layPowers_61 rfl 1 rfl ?_
    refine x_getr 62 C (b := A + 6) dX12_layPowers_62 ff_X12_32 rfl hM.1 rfl ?_
    refine x_iload_n 65 C dX12_layPowers_65 rfl 2 rfl ?_
    refine x_iconst 66 C (v := 2) dX12_layPowers_66 rfl ?_
    refine x_iload 67 C dX12_layPowers_67 0 rfl ?_
    refine x_imul 69 C dX12_layPowers_69 ?_
    refine x_int 4 (by decide) ?_
    refine x_iadd 70 C dX12_layPowers_70 ?_
    refine x_int 12 (by decide) ?_
    refine x_iconst 71 C (v := 1) dX12_layPowers_71 rfl ?_
    refine x_isub 72 C dX12_layPowers_72 ?_
    refine x_int 11 (by decide) ?_
    refine x_lald 73 C (j := 11) dX12_layPowers_73 hM.2.2.2.2.2.2.1 ⟨by decide, by decide, by decide⟩ ?_
    refine x_long ((pw1 u (x, y) 1).2) (by simp [eL16, eL17, eL18, eL19, mwC, xup, pw1, hu9]) ?_
    refine x_lload_n 74 C dX12_layPowers_74 rfl 3 rfl ?_
    refine x_lload 75 C dX12_layPowers_75 4 rfl ?_
    refine x_callVe 77 C dX12_layPowers_77 (As := [.long ((pw1 u (x, y) 1).1), .long ((pw1 u (x, y) 1).2), .long x, .long y]) (rest := []) [] (t_X12_times l D z n G I L19 A ((pw1 u (x, y) 1).1) ((pw1 u (x, y) 1).2) x y u hM (by omega) (by simp [eL16, eL17, eL18, eL19, mwC, xup, hu9]) (by first | assumption | omega | decide)) mt_X12_times km_X12_100 ki_X12_times ks_X12_times hM.1 ⟨by decide, rfl⟩ rfl rfl (Nat.le_of_ble_eq_true rfl) ⟨⟨by decide, by decide⟩, by decide, by decide⟩ (fun I21 L22 eI21 eL22 => ?_)
    replace eI21 := eI21.symm; subst eI21
    refine x_aload_n 80 C dX12_layPowers_80 rfl 1 rfl ?_
    refine x_getr 81 C (b := A + 6) dX12_layPowers_81 ff_X12_32 rfl hM.1 rfl ?_
    refine x_iload_n 84 C dX12_layPowers_84 rfl 2 rfl ?_
    refine x_iconst 85 C (v := 2) dX12_layPowers_85 rfl ?_
    refine x_iload 86 C dX12_layPowers_86 0 rfl ?_
    refine x_imul 88 C dX12_layPowers_88 ?_
    refine x_int 4 (by decide) ?_
    refine x_iadd 89 C dX12_layPowers_89 ?_
    refine x_int 12 (by decide) ?_
    refine x_aload_n 90 C dX12_layPowers_90 rfl 1 rfl ?_
    refine x_getl 91 C dX12_layPowers_91 ff_X12_87 hM.1 ?_
    refine x_last 94 C (j := 12) dX12_layPowers_94 hM.2.2.2.2.2.2.1 (by omega) ⟨by decide, by decide, by decide⟩ (fun L23 eL23 => ?_)
    refine x_aload_n 95 C dX12_layPowers_95 rfl 1 rfl ?_
    refine x_getr 96 C (b := A + 6) dX12_layPowers_96 ff_X12_32 rfl hM.1 rfl ?_
    refine x_iload_n 99 C dX12_layPowers_99 rfl 2 rfl ?_
    refine x_iconst 100 C (v := 2) dX12_layPowers_100 rfl ?_
    refine x_iload 101 C dX12_layPowers_101 0 rfl ?_
    refine x_imul 103 C dX12_layPowers_103 ?_
    refine x_int 4 (by decide) ?_
    refine x_iadd 104 C dX12_layPowers_104 ?_
    refine x_int 12 (by decide) ?_
    refine x_iconst 105 C (v := 1) dX12_layPowers_105 rfl ?_
    refine x_iadd 106 C dX12_layPowers_106 ?_
    refine x_int 13 (by decide) ?_
    refine x_aload_n 107 C dX12_layPowers_107 rfl 1 rfl ?_
    refine x_getl 108 C dX12_layPowers_108 ff_X12_90 hM.1 ?_
    refine x_last 111 C (j := 13) dX12_layPowers_111 hM.2.2.2.2.2.2.1 (by omega) ⟨by decide, by decide, by decide⟩ (fun L24 eL24 => ?_)
    refine x_iinc 112 C [(6, .int 3), (0, .ref A), (1, .int (nI 8)), (2, .long x), (4, .long y)] dX12_layPowers_112 0 rfl (by decide) (by decide) rfl ?_
    refine x_goto 115 C 41 dX12_layPowers_115 (by decide) ?_
    refine x_iload 41 C dX12_layPowers_41 0 rfl ?_
    refine x_iconst 43 C (v := 4) dX12_layPowers_43 rfl ?_
    refine x_icmp_ge 44 C 118 dX12_layPowers_44 (by decide) (fun c25 => absurd c25 (by decide)) (fun _ => ?_)
    refine x_aload_n 47 C dX12_layPowers_47 rfl 1 rfl ?_
    refine x_aload_n 48 C dX12_layPowers_48 rfl 1 rfl ?_
    refine x_getr 49 C (b := A + 6) dX12_layPowers_49 ff_X12_32 rfl hM.1 rfl ?_
    refine x_iload_n 52 C dX12_layPowers_52 rfl 2 rfl ?_
    refine x_iconst 53 C (v := 2) dX12_layPowers_53 rfl ?_
    refine x_iload 54 C dX12_layPowers_54 0 rfl ?_
    refine x_imul 56 C dX12_layPowers_56 ?_
    refine x_int 6 (by decide) ?_
    refine x_iadd 57 C dX12_layPowers_57 ?_
    refine x_int 14 (by decide) ?_
    refine x_iconst 58 C (v := 2) dX12_layPowers_58 rfl ?_
    refine x_isub 59 C dX12_layPowers_59 ?_
    refine x_int 12 (by decide) ?_
    refine x_lald 60 C (j := 12) dX12_layPowers_60 hM.2.2.2.2.2.2.1 ⟨by decide, by decide, by decide⟩ ?_
    refine x_long ((pw1 u (x, y) 2).1) (by simp [eL16, eL17, eL18, eL19, eL22, eL23, eL24, mwC, xup, pw1, hu9]) ?_
    refine x_aload_n 61 C dX12_layPowers_61 rfl 1 rfl ?_
    refine x_getr 62 C (b := A + 6) dX12_layPowers_62 ff_X12_32 rfl hM.1 rfl ?_
    refine x_iload_n 65 C dX12_layPowers_65 rfl 2 rfl ?_
    refine x_iconst 66 C (v := 2) dX12_layPowers_66 rfl ?_
    refine x_iload 67 C dX12_layPowers_67 0 rfl ?_
    refine x_imul 69 C dX12_layPowers_69 ?_
    refine x_int 6 (by decide) ?_
    refine x_iadd 70 C dX12_layPowers_70 ?_
    refine x_int 14 (by decide) ?_
    refine x_iconst 71 C (v := 1) dX12_layPowers_71 rfl ?_
    refine x_isub 72 C dX12_layPowers_72 ?_
    refine x_int 13 (by decide) ?_
    refine x_lald 73 C (j := 13) dX12_layPowers_73 hM.2.2.2.2.2.2.1 ⟨by decide, by decide, by decide⟩ ?_
    refine x_long ((pw1 u (x, y) 2).2) (by simp [eL16, eL17, eL18, eL19, eL22, eL23, eL24, mwC, xup, pw1, hu9]) ?_
    refine x_lload_n 74 C dX12_layPowers_74 rfl 3 rfl ?_
    refine x_lload 75 C dX12_layPowers_75 4 rfl ?_
    refine x_callVe 77 C dX12_layPowers_77 (As := [.long ((pw1 u (x, y) 2).1), .long ((pw1 u (x, y) 2).2), .long x, .long y]) (rest := []) [] (t_X12_times l D z n G I L24 A ((pw1 u (x, y) 2).1) ((pw1 u (x, y) 2).2) x y u hM (by omega) (by simp [eL16, eL17, eL18, eL19, eL22, eL23, eL24, mwC, xup, hu9]) (by first | assumption | omega | decide)) mt_X12_times km_X12_100 ki_X12_times ks_X12_times hM.1 ⟨by decide, rfl⟩ rfl rfl (Nat.le_of_ble_eq_true rfl) ⟨⟨by decide, by decide⟩, by decide, by decide⟩ (fun I26 L27 eI26 eL27 => ?_)
    replace eI26 := eI26.symm; subst eI26
    refine x_aload_n 80 C dX12_layPowers_80 rfl 1 rfl ?_
    refine x_getr 81 C (b := A + 6) dX12_layPowers_81 ff_X12_32 rfl hM.1 rfl ?_
    refine x_iload_n 84 C dX12_layPowers_84 rfl 2 rfl ?_
    refine x_iconst 85 C (v := 2) dX12_layPowers_85 rfl ?_
    refine x_iload 86 C dX12_layPowers_86 0 rfl ?_
    refine x_imul 88 C dX12_layPowers_88 ?_
    refine x_int 6 (by decide) ?_
    refine x_iadd 89 C dX12_layPowers_89 ?_
    refine x_int 14 (by decide) ?_
    refine x_aload_n 90 C dX12_layPowers_90 rfl 1 rfl ?_
    refine x_getl 91 C dX12_layPowers_91 ff_X12_87 hM.1 ?_
    refine x_last 94 C (j := 14) dX12_layPowers_94 hM.2.2.2.2.2.2.1 (by omega) ⟨by decide, by decide, by decide⟩ (fun L28 eL28 => ?_)
    refine x_aload_n 95 C dX12_layPowers_95 rfl 1 rfl ?_
    refine x_getr 96 C (b := A + 6) dX12_layPowers_96 ff_X12_32 rfl hM.1 rfl ?_
    refine x_iload_n 99 C dX12_layPowers_99 rfl 2 rfl ?_
    refine x_iconst 100 C (v := 2) dX12_layPowers_100 rfl ?_
    refine x_iload 101 C dX12_layPowers_101 0 rfl ?_
    refine x_imul 103 C dX12_layPowers_103 ?_
    refine x_int 6 (by decide) ?_
    refine x_iadd 104 C dX12_layPowers_104 ?_
    refine x_int 14 (by decide) ?_
    refine x_iconst 105 C (v := 1) dX12_layPowers_105 rfl ?_
    refine x_iadd 106 C dX12_layPowers_106 ?_
    refine x_int 15 (by decide) ?_
    refine x_aload_n 107 C dX12_layPowers_107 rfl 1 rfl ?_
    refine x_getl 108 C dX12_layPowers_108 ff_X12_90 hM.1 ?_
    refine x_last 111 C (j := 15) dX12_layPowers_111 hM.2.2.2.2.2.2.1 (by omega) ⟨by decide, by decide, by decide⟩ (fun L29 eL29 => ?_)
    refine x_iinc 112 C [(6, .int 4), (0, .ref A), (1, .int (nI 8)), (2, .long x), (4, .long y)] dX12_layPowers_112 0 rfl (by decide) (by decide) rfl ?_
    refine x_goto 115 C 41 dX12_layPowers_115 (by decide) ?_
    refine x_iload 41 C dX12_layPowers_41 0 rfl ?_
    refine x_iconst 43 C (v := 4) dX12_layPowers_43 rfl ?_
    refine x_icmp_ge 44 C 118 dX12_layPowers_44 (by decide) (fun _ => ?_) (fun c30 => absurd (by decide) c30)
    refine x_vret 118 C dX12_layPowers_118 rfl (Nat.le_refl _) (xN.intro ?_)
    refine ⟨rfl, rfl, fun k hk => ?_, fun j hj => ?_, fun q h1 h2 => ?_, fun j h7 h8 => ?_⟩
    · rcases (show k = 0 ∨ k = 1 ∨ k = 2 ∨ k = 3 by omega) with rfl | rfl | rfl | rfl <;> simp [eL16, eL17, eL18, eL19, eL22, eL23, eL24, eL27, eL28, eL29, mwC, xup, pw1, hu9]
    · simp only [eL16, eL17, eL18, eL19, eL22, eL23, eL24, eL27, eL28, eL29, mwC, xup]; simp only [show ¬ A + 6 = A by omega, false_and, if_false, true_and]; (repeat' rw [if_neg (by omega)])
    · simp only [eL16, eL17, eL18, eL19, eL22, eL23, eL24, eL27, eL28, eL29, mwC, xup_row _ _ h1, xup_row _ _ h2]
    · simp [eL16, eL17, eL18, eL19, eL22, eL23, eL24, eL27, eL28, eL29, mwC, xup, h7, h8]
