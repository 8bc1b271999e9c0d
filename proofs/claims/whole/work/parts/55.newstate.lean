/-! Constructors: Homotopy, Follower, State, History, EquationText -/
theorem dX5_init_0 : decode cX5_init 0 = .ok (.aload_n 0, 1) := by decide +kernel
theorem dX5_init_1 : decode cX5_init 1 = .ok (.invokespecial 1, 3) := by decide +kernel
theorem dX5_init_4 : decode cX5_init 4 = .ok (.aload_n 0, 1) := by decide +kernel
theorem dX5_init_5 : decode cX5_init 5 = .ok (.new 7, 3) := by decide +kernel
theorem dX5_init_8 : decode cX5_init 8 = .ok (.dup, 1) := by decide +kernel
theorem dX5_init_9 : decode cX5_init 9 = .ok (.invokespecial 9, 3) := by decide +kernel
theorem dX5_init_12 : decode cX5_init 12 = .ok (.putfield 10, 3) := by decide +kernel
theorem dX5_init_15 : decode cX5_init 15 = .ok (.aload_n 0, 1) := by decide +kernel
theorem dX5_init_16 : decode cX5_init 16 = .ok (.iconst 2, 1) := by decide +kernel
theorem dX5_init_17 : decode cX5_init 17 = .ok (.anewarray 16, 3) := by decide +kernel
theorem dX5_init_20 : decode cX5_init 20 = .ok (.putfield 18, 3) := by decide +kernel
theorem dX5_init_23 : decode cX5_init 23 = .ok (.aload_n 0, 1) := by decide +kernel
theorem dX5_init_24 : decode cX5_init 24 = .ok (.iconst 2, 1) := by decide +kernel
theorem dX5_init_25 : decode cX5_init 25 = .ok (.anewarray 16, 3) := by decide +kernel
theorem dX5_init_28 : decode cX5_init 28 = .ok (.putfield 22, 3) := by decide +kernel
theorem dX5_init_31 : decode cX5_init 31 = .ok (.aload_n 0, 1) := by decide +kernel
theorem dX5_init_32 : decode cX5_init 32 = .ok (.iconst 2, 1) := by decide +kernel
theorem dX5_init_33 : decode cX5_init 33 = .ok (.anewarray 25, 3) := by decide +kernel
theorem dX5_init_36 : decode cX5_init 36 = .ok (.putfield 27, 3) := by decide +kernel
theorem dX5_init_39 : decode cX5_init 39 = .ok (.aload_n 0, 1) := by decide +kernel
theorem dX5_init_40 : decode cX5_init 40 = .ok (.iconst 2, 1) := by decide +kernel
theorem dX5_init_41 : decode cX5_init 41 = .ok (.anewarray 25, 3) := by decide +kernel
theorem dX5_init_44 : decode cX5_init 44 = .ok (.putfield 31, 3) := by decide +kernel
theorem dX5_init_47 : decode cX5_init 47 = .ok (.aload_n 0, 1) := by decide +kernel
theorem dX5_init_48 : decode cX5_init 48 = .ok (.iconst 2, 1) := by decide +kernel
theorem dX5_init_49 : decode cX5_init 49 = .ok (.anewarray 25, 3) := by decide +kernel
theorem dX5_init_52 : decode cX5_init 52 = .ok (.putfield 34, 3) := by decide +kernel
theorem dX5_init_55 : decode cX5_init 55 = .ok (.iconst 0, 1) := by decide +kernel
theorem dX5_init_56 : decode cX5_init 56 = .ok (.istore_n 1, 1) := by decide +kernel
theorem dX5_init_57 : decode cX5_init 57 = .ok (.iload_n 1, 1) := by decide +kernel
theorem dX5_init_58 : decode cX5_init 58 = .ok (.iconst 2, 1) := by decide +kernel
theorem dX5_init_59 : decode cX5_init 59 = .ok (.if_icmp .ge 74, 3) := by decide +kernel
theorem dX5_init_62 : decode cX5_init 62 = .ok (.aload_n 0, 1) := by decide +kernel
theorem dX5_init_63 : decode cX5_init 63 = .ok (.getfield 18, 3) := by decide +kernel
theorem dX5_init_66 : decode cX5_init 66 = .ok (.iload_n 1, 1) := by decide +kernel
theorem dX5_init_67 : decode cX5_init 67 = .ok (.new 16, 3) := by decide +kernel
theorem dX5_init_70 : decode cX5_init 70 = .ok (.dup, 1) := by decide +kernel
theorem dX5_init_71 : decode cX5_init 71 = .ok (.invokespecial 37, 3) := by decide +kernel
theorem dX5_init_74 : decode cX5_init 74 = .ok (.aastore, 1) := by decide +kernel
theorem dX5_init_75 : decode cX5_init 75 = .ok (.aload_n 0, 1) := by decide +kernel
theorem dX5_init_76 : decode cX5_init 76 = .ok (.getfield 22, 3) := by decide +kernel
theorem dX5_init_79 : decode cX5_init 79 = .ok (.iload_n 1, 1) := by decide +kernel
theorem dX5_init_80 : decode cX5_init 80 = .ok (.new 16, 3) := by decide +kernel
theorem dX5_init_83 : decode cX5_init 83 = .ok (.dup, 1) := by decide +kernel
theorem dX5_init_84 : decode cX5_init 84 = .ok (.invokespecial 37, 3) := by decide +kernel
theorem dX5_init_87 : decode cX5_init 87 = .ok (.aastore, 1) := by decide +kernel
theorem dX5_init_88 : decode cX5_init 88 = .ok (.aload_n 0, 1) := by decide +kernel
theorem dX5_init_89 : decode cX5_init 89 = .ok (.getfield 27, 3) := by decide +kernel
theorem dX5_init_92 : decode cX5_init 92 = .ok (.iload_n 1, 1) := by decide +kernel
theorem dX5_init_93 : decode cX5_init 93 = .ok (.new 25, 3) := by decide +kernel
theorem dX5_init_96 : decode cX5_init 96 = .ok (.dup, 1) := by decide +kernel
theorem dX5_init_97 : decode cX5_init 97 = .ok (.invokespecial 38, 3) := by decide +kernel
theorem dX5_init_100 : decode cX5_init 100 = .ok (.aastore, 1) := by decide +kernel
theorem dX5_init_101 : decode cX5_init 101 = .ok (.aload_n 0, 1) := by decide +kernel
theorem dX5_init_102 : decode cX5_init 102 = .ok (.getfield 31, 3) := by decide +kernel
theorem dX5_init_105 : decode cX5_init 105 = .ok (.iload_n 1, 1) := by decide +kernel
theorem dX5_init_106 : decode cX5_init 106 = .ok (.new 25, 3) := by decide +kernel
theorem dX5_init_109 : decode cX5_init 109 = .ok (.dup, 1) := by decide +kernel
theorem dX5_init_110 : decode cX5_init 110 = .ok (.invokespecial 38, 3) := by decide +kernel
theorem dX5_init_113 : decode cX5_init 113 = .ok (.aastore, 1) := by decide +kernel
theorem dX5_init_114 : decode cX5_init 114 = .ok (.aload_n 0, 1) := by decide +kernel
theorem dX5_init_115 : decode cX5_init 115 = .ok (.getfield 34, 3) := by decide +kernel
theorem dX5_init_118 : decode cX5_init 118 = .ok (.iload_n 1, 1) := by decide +kernel
theorem dX5_init_119 : decode cX5_init 119 = .ok (.new 25, 3) := by decide +kernel
theorem dX5_init_122 : decode cX5_init 122 = .ok (.dup, 1) := by decide +kernel
theorem dX5_init_123 : decode cX5_init 123 = .ok (.invokespecial 38, 3) := by decide +kernel
theorem dX5_init_126 : decode cX5_init 126 = .ok (.aastore, 1) := by decide +kernel
theorem dX5_init_127 : decode cX5_init 127 = .ok (.iinc 1 1, 3) := by decide +kernel
theorem dX5_init_130 : decode cX5_init 130 = .ok (.goto (-73), 3) := by decide +kernel
theorem dX5_init_133 : decode cX5_init 133 = .ok (.return_, 1) := by decide +kernel
set_option maxHeartbeats 1000000 in
set_option maxRecDepth 100000 in
theorem c_X5_init (l : Launch) (D : xD) (z : Nat) (G : xG) (I : xI) (L : xL) (b : Nat) (g0 : G b = some (5, 0, rN)) (zb : z ≤ b) : xM l D z yX5_init cX5_init 2 none 3 61 57 195 [.ref b] (b + 1) G I L (cPost b 58 (fun G' => shH G' b) G I L) := by
  refine xM.of (by decide) (Nat.le_of_ble_eq_true rfl) (fun p e s m args below meth c C hnm hsz => ?_)
  refine x_lv [(0, .ref b)] rfl ?_
  refine x_aload_n 0 C dX5_init_0 rfl 0 rfl ?_
  refine x_obj 1 C dX5_init_1 km_X5_1 ki_obj kc_obj (Nat.le_of_ble_eq_true rfl) (Nat.le_of_ble_eq_true rfl) ?_
  refine x_aload_n 4 C dX5_init_4 rfl 0 rfl ?_
  refine x_new 5 C dX5_init_5 (by decide) hh_X7 kl_X5_7 kb_X7 kn_X7 hd_X7 (Nat.le_of_ble_eq_true rfl) (Nat.le_of_ble_eq_true rfl) (fun G1 I1 L1 eG1 eI1 eL1 => ?_)
  refine x_dup 8 C dX5_init_8 rfl ?_
  have g3 : G1 (b + 1) = some (7, 0, rN) := by rw [eG1, vau (by omega)]
  refine x_callI 9 C dX5_init_9 (As := []) (rest := [.ref (b + 1), .ref b]) (c_X7_init l D z G1 I1 L1 (b + 1) g3 (by omega)) mt_X7_init rfl km_X5_9 ki_X7_init rfl (Nat.le_of_ble_eq_true rfl) ⟨⟨(Nat.le_of_ble_eq_true rfl), (Nat.le_of_ble_eq_true rfl)⟩, (Nat.le_of_ble_eq_true rfl), (Nat.le_of_ble_eq_true rfl)⟩ (fun v2 n2 G2 I2 L2 hp2 _ => ?_)
  obtain ⟨hv2, hn2, hs2, hG2, hI2, hL2⟩ := hp2
  subst hv2; subst hn2
  refine x_st [.ref (b + 1), .ref b] rfl ?_
  have g4 : G2 (b) = some (5, 0, rN) := by rw [hG2 _ (by omega)]; rw [eG1, va_up_ne _ _ (by omega)]; exact g0
  refine x_putr 12 C dX5_init_12 ff_X5_10 rfl rfl hnm.symm rfl g4 (by omega) (fun G5 eG5 => ?_)
  refine x_aload_n 15 C dX5_init_15 rfl 0 rfl ?_
  refine x_iconst 16 C (v := 2) dX5_init_16 rfl ?_
  refine x_anew 17 C 24 (N := 2) dX5_init_17 (by decide) kl_X5_16 (by decide) (by decide) (Nat.le_of_ble_eq_true rfl) (Nat.le_of_ble_eq_true rfl) (Nat.le_of_ble_eq_true rfl) (fun G6 I6 L6 eG06 eI6 eL6 => ?_)
  have eG6 : G6 = va_up G5 (b + 13) (some (24, 2, rPart (fun k => some (b + 18 + 20 * k)) 0)) := eG06.trans (by rw [rPart_0])
  have g7 : G6 (b) = some (5, 0, va_up rN 0 (some (b + 1))) := by rw [eG6, va_up_ne _ _ (by omega)]; rw [eG5, vau (by omega)]
  refine x_putr 20 C dX5_init_20 ff_X5_18 rfl rfl hnm.symm rfl g7 (by omega) (fun G8 eG8 => ?_)
  refine x_aload_n 23 C dX5_init_23 rfl 0 rfl ?_
  refine x_iconst 24 C (v := 2) dX5_init_24 rfl ?_
  refine x_anew 25 C 24 (N := 2) dX5_init_25 (by decide) kl_X5_16 (by decide) (by decide) (Nat.le_of_ble_eq_true rfl) (Nat.le_of_ble_eq_true rfl) (Nat.le_of_ble_eq_true rfl) (fun G9 I9 L9 eG09 eI9 eL9 => ?_)
  have eG9 : G9 = va_up G8 (b + 14) (some (24, 2, rPart (fun k => some (b + 22 + 20 * k)) 0)) := eG09.trans (by rw [rPart_0])
  have g10 : G9 (b) = some (5, 0, va_up (va_up rN 0 (some (b + 1))) 1 (some (b + 13))) := by rw [eG9, va_up_ne _ _ (by omega)]; rw [eG8, vau (by omega)]
  refine x_putr 28 C dX5_init_28 ff_X5_22 rfl rfl hnm.symm rfl g10 (by omega) (fun G11 eG11 => ?_)
  refine x_aload_n 31 C dX5_init_31 rfl 0 rfl ?_
  refine x_iconst 32 C (v := 2) dX5_init_32 rfl ?_
  refine x_anew 33 C 27 (N := 2) dX5_init_33 (by decide) kl_X5_25 (by decide) (by decide) (Nat.le_of_ble_eq_true rfl) (Nat.le_of_ble_eq_true rfl) (Nat.le_of_ble_eq_true rfl) (fun G12 I12 L12 eG012 eI12 eL12 => ?_)
  have eG12 : G12 = va_up G11 (b + 15) (some (27, 2, rPart (fun k => some (b + 26 + 20 * k)) 0)) := eG012.trans (by rw [rPart_0])
  have g13 : G12 (b) = some (5, 0, va_up (va_up (va_up rN 0 (some (b + 1))) 1 (some (b + 13))) 2 (some (b + 14))) := by rw [eG12, va_up_ne _ _ (by omega)]; rw [eG11, vau (by omega)]
  refine x_putr 36 C dX5_init_36 ff_X5_27 rfl rfl hnm.symm rfl g13 (by omega) (fun G14 eG14 => ?_)
  refine x_aload_n 39 C dX5_init_39 rfl 0 rfl ?_
  refine x_iconst 40 C (v := 2) dX5_init_40 rfl ?_
  refine x_anew 41 C 27 (N := 2) dX5_init_41 (by decide) kl_X5_25 (by decide) (by decide) (Nat.le_of_ble_eq_true rfl) (Nat.le_of_ble_eq_true rfl) (Nat.le_of_ble_eq_true rfl) (fun G15 I15 L15 eG015 eI15 eL15 => ?_)
  have eG15 : G15 = va_up G14 (b + 16) (some (27, 2, rPart (fun k => some (b + 30 + 20 * k)) 0)) := eG015.trans (by rw [rPart_0])
  have g16 : G15 (b) = some (5, 0, va_up (va_up (va_up (va_up rN 0 (some (b + 1))) 1 (some (b + 13))) 2 (some (b + 14))) 3 (some (b + 15))) := by rw [eG15, va_up_ne _ _ (by omega)]; rw [eG14, vau (by omega)]
  refine x_putr 44 C dX5_init_44 ff_X5_31 rfl rfl hnm.symm rfl g16 (by omega) (fun G17 eG17 => ?_)
  refine x_aload_n 47 C dX5_init_47 rfl 0 rfl ?_
  refine x_iconst 48 C (v := 2) dX5_init_48 rfl ?_
  refine x_anew 49 C 27 (N := 2) dX5_init_49 (by decide) kl_X5_25 (by decide) (by decide) (Nat.le_of_ble_eq_true rfl) (Nat.le_of_ble_eq_true rfl) (Nat.le_of_ble_eq_true rfl) (fun G18 I18 L18 eG018 eI18 eL18 => ?_)
  have eG18 : G18 = va_up G17 (b + 17) (some (27, 2, rPart (fun k => some (b + 34 + 20 * k)) 0)) := eG018.trans (by rw [rPart_0])
  have g19 : G18 (b) = some (5, 0, va_up (va_up (va_up (va_up (va_up rN 0 (some (b + 1))) 1 (some (b + 13))) 2 (some (b + 14))) 3 (some (b + 15))) 4 (some (b + 16))) := by rw [eG18, va_up_ne _ _ (by omega)]; rw [eG17, vau (by omega)]
  refine x_putr 52 C dX5_init_52 ff_X5_34 rfl rfl hnm.symm rfl g19 (by omega) (fun G20 eG20 => ?_)
  refine x_iconst 55 C (v := 0) dX5_init_55 rfl ?_
  refine x_istore_n 56 C [(1, .int 0), (0, .ref b)] dX5_init_56 rfl (by decide) rfl ?_
  refine x_iload_n 57 C dX5_init_57 rfl 0 rfl ?_
  refine x_iconst 58 C (v := 2) dX5_init_58 rfl ?_
  refine x_icmp_ge 59 C 133 dX5_init_59 (by decide) (fun c21 => absurd c21 (by decide)) (fun _ => ?_)
  refine x_aload_n 62 C dX5_init_62 rfl 1 rfl ?_
  have g22 : G20 (b) = some (5, 0, va_up (va_up (va_up (va_up (va_up (va_up rN 0 (some (b + 1))) 1 (some (b + 13))) 2 (some (b + 14))) 3 (some (b + 15))) 4 (some (b + 16))) 5 (some (b + 17))) := by rw [eG20, vau (by omega)]
  refine x_getr 63 C (b := b + 13) dX5_init_63 ff_X5_18 rfl g22 rfl ?_
  refine x_iload_n 66 C dX5_init_66 rfl 0 rfl ?_
  refine x_new 67 C dX5_init_67 (by decide) hh_X1 kl_X5_16 kb_X1 kn_X1 hd_X1 (Nat.le_of_ble_eq_true rfl) (Nat.le_of_ble_eq_true rfl) (fun G23 I23 L23 eG23 eI23 eL23 => ?_)
  refine x_dup 70 C dX5_init_70 rfl ?_
  have g25 : G23 (b + 18) = some (1, 0, rN) := by rw [eG23, vau (by omega)]
  refine x_callI 71 C dX5_init_71 (As := []) (rest := [.ref (b + 18), .int 0, .ref (b + 13)]) (c_X1_init l D z G23 I23 L23 (b + 18) g25 (by omega)) mt_X1_init rfl km_X5_37 ki_X1_init rfl (Nat.le_of_ble_eq_true rfl) ⟨⟨(Nat.le_of_ble_eq_true rfl), (Nat.le_of_ble_eq_true rfl)⟩, (Nat.le_of_ble_eq_true rfl), (Nat.le_of_ble_eq_true rfl)⟩ (fun v24 n24 G24 I24 L24 hp24 _ => ?_)
  obtain ⟨hv24, hn24, hs24, hG24, hI24, hL24⟩ := hp24
  subst hv24; subst hn24
  refine x_st [.ref (b + 18), .int 0, .ref (b + 13)] rfl ?_
  have g27 : G24 (b + 13) = some (24, 2, rPart (fun k => some (b + 18 + 20 * k)) 0) := by rw [hG24 _ (by omega)]; rw [eG23, va_up_ne _ _ (by omega)]; rw [eG20, va_up_ne _ _ (by omega)]; rw [eG18, va_up_ne _ _ (by omega)]; rw [eG17, va_up_ne _ _ (by omega)]; rw [eG15, va_up_ne _ _ (by omega)]; rw [eG14, va_up_ne _ _ (by omega)]; rw [eG12, va_up_ne _ _ (by omega)]; rw [eG11, va_up_ne _ _ (by omega)]; rw [eG9, va_up_ne _ _ (by omega)]; rw [eG8, va_up_ne _ _ (by omega)]; rw [eG6, vau (by omega)]
  refine x_aast 74 C (j := 0) dX5_init_74 (by decide) g27 hs24.1 (by omega) ⟨by decide, by decide, by decide⟩ (fun G28 eG028 => ?_)
  have eG28 : G28 = va_up G24 (b + 13) (some (24, 2, rPart (fun k => some (b + 18 + 20 * k)) 1)) := eG028.trans (by rw [rPart_up (f := (fun k => some (b + 18 + 20 * k))) (congrArg some (by omega))])
  refine x_aload_n 75 C dX5_init_75 rfl 1 rfl ?_
  have g29 : G28 (b) = some (5, 0, va_up (va_up (va_up (va_up (va_up (va_up rN 0 (some (b + 1))) 1 (some (b + 13))) 2 (some (b + 14))) 3 (some (b + 15))) 4 (some (b + 16))) 5 (some (b + 17))) := by rw [eG28, va_up_ne _ _ (by omega)]; rw [hG24 _ (by omega)]; rw [eG23, va_up_ne _ _ (by omega)]; rw [eG20, vau (by omega)]
  refine x_getr 76 C (b := b + 14) dX5_init_76 ff_X5_22 rfl g29 rfl ?_
  refine x_iload_n 79 C dX5_init_79 rfl 0 rfl ?_
  refine x_new 80 C dX5_init_80 (by decide) hh_X1 kl_X5_16 kb_X1 kn_X1 hd_X1 (Nat.le_of_ble_eq_true rfl) (Nat.le_of_ble_eq_true rfl) (fun G30 I30 L30 eG30 eI30 eL30 => ?_)
  refine x_dup 83 C dX5_init_83 rfl ?_
  have g32 : G30 (b + 22) = some (1, 0, rN) := by rw [eG30, vau (by omega)]
  refine x_callI 84 C dX5_init_84 (As := []) (rest := [.ref (b + 22), .int 0, .ref (b + 14)]) (c_X1_init l D z G30 I30 L30 (b + 22) g32 (by omega)) mt_X1_init rfl km_X5_37 ki_X1_init rfl (Nat.le_of_ble_eq_true rfl) ⟨⟨(Nat.le_of_ble_eq_true rfl), (Nat.le_of_ble_eq_true rfl)⟩, (Nat.le_of_ble_eq_true rfl), (Nat.le_of_ble_eq_true rfl)⟩ (fun v31 n31 G31 I31 L31 hp31 _ => ?_)
  obtain ⟨hv31, hn31, hs31, hG31, hI31, hL31⟩ := hp31
  subst hv31; subst hn31
  refine x_st [.ref (b + 22), .int 0, .ref (b + 14)] rfl ?_
  have g34 : G31 (b + 14) = some (24, 2, rPart (fun k => some (b + 22 + 20 * k)) 0) := by rw [hG31 _ (by omega)]; rw [eG30, va_up_ne _ _ (by omega)]; rw [eG28, va_up_ne _ _ (by omega)]; rw [hG24 _ (by omega)]; rw [eG23, va_up_ne _ _ (by omega)]; rw [eG20, va_up_ne _ _ (by omega)]; rw [eG18, va_up_ne _ _ (by omega)]; rw [eG17, va_up_ne _ _ (by omega)]; rw [eG15, va_up_ne _ _ (by omega)]; rw [eG14, va_up_ne _ _ (by omega)]; rw [eG12, va_up_ne _ _ (by omega)]; rw [eG11, va_up_ne _ _ (by omega)]; rw [eG9, vau (by omega)]
  refine x_aast 87 C (j := 0) dX5_init_87 (by decide) g34 hs31.1 (by omega) ⟨by decide, by decide, by decide⟩ (fun G35 eG035 => ?_)
  have eG35 : G35 = va_up G31 (b + 14) (some (24, 2, rPart (fun k => some (b + 22 + 20 * k)) 1)) := eG035.trans (by rw [rPart_up (f := (fun k => some (b + 22 + 20 * k))) (congrArg some (by omega))])
  refine x_aload_n 88 C dX5_init_88 rfl 1 rfl ?_
  have g36 : G35 (b) = some (5, 0, va_up (va_up (va_up (va_up (va_up (va_up rN 0 (some (b + 1))) 1 (some (b + 13))) 2 (some (b + 14))) 3 (some (b + 15))) 4 (some (b + 16))) 5 (some (b + 17))) := by rw [eG35, va_up_ne _ _ (by omega)]; rw [hG31 _ (by omega)]; rw [eG30, va_up_ne _ _ (by omega)]; rw [eG28, va_up_ne _ _ (by omega)]; rw [hG24 _ (by omega)]; rw [eG23, va_up_ne _ _ (by omega)]; rw [eG20, vau (by omega)]
  refine x_getr 89 C (b := b + 15) dX5_init_89 ff_X5_27 rfl g36 rfl ?_
  refine x_iload_n 92 C dX5_init_92 rfl 0 rfl ?_
  refine x_new 93 C dX5_init_93 (by decide) hh_X10 kl_X5_25 kb_X10 kn_X10 hd_X10 (Nat.le_of_ble_eq_true rfl) (Nat.le_of_ble_eq_true rfl) (fun G37 I37 L37 eG37 eI37 eL37 => ?_)
  refine x_dup 96 C dX5_init_96 rfl ?_
  have g39 : G37 (b + 26) = some (10, 0, rN) := by rw [eG37, vau (by omega)]
  refine x_callI 97 C dX5_init_97 (As := []) (rest := [.ref (b + 26), .int 0, .ref (b + 15)]) (c_X10_init l D z G37 I37 L37 (b + 26) g39 (by omega)) mt_X10_init rfl km_X5_38 ki_X10_init rfl (Nat.le_of_ble_eq_true rfl) ⟨⟨(Nat.le_of_ble_eq_true rfl), (Nat.le_of_ble_eq_true rfl)⟩, (Nat.le_of_ble_eq_true rfl), (Nat.le_of_ble_eq_true rfl)⟩ (fun v38 n38 G38 I38 L38 hp38 _ => ?_)
  obtain ⟨hv38, hn38, hs38, hG38, hI38, hL38⟩ := hp38
  subst hv38; subst hn38
  refine x_st [.ref (b + 26), .int 0, .ref (b + 15)] rfl ?_
  have g41 : G38 (b + 15) = some (27, 2, rPart (fun k => some (b + 26 + 20 * k)) 0) := by rw [hG38 _ (by omega)]; rw [eG37, va_up_ne _ _ (by omega)]; rw [eG35, va_up_ne _ _ (by omega)]; rw [hG31 _ (by omega)]; rw [eG30, va_up_ne _ _ (by omega)]; rw [eG28, va_up_ne _ _ (by omega)]; rw [hG24 _ (by omega)]; rw [eG23, va_up_ne _ _ (by omega)]; rw [eG20, va_up_ne _ _ (by omega)]; rw [eG18, va_up_ne _ _ (by omega)]; rw [eG17, va_up_ne _ _ (by omega)]; rw [eG15, va_up_ne _ _ (by omega)]; rw [eG14, va_up_ne _ _ (by omega)]; rw [eG12, vau (by omega)]
  refine x_aast 100 C (j := 0) dX5_init_100 (by decide) g41 hs38.1 (by omega) ⟨by decide, by decide, by decide⟩ (fun G42 eG042 => ?_)
  have eG42 : G42 = va_up G38 (b + 15) (some (27, 2, rPart (fun k => some (b + 26 + 20 * k)) 1)) := eG042.trans (by rw [rPart_up (f := (fun k => some (b + 26 + 20 * k))) (congrArg some (by omega))])
  refine x_aload_n 101 C dX5_init_101 rfl 1 rfl ?_
  have g43 : G42 (b) = some (5, 0, va_up (va_up (va_up (va_up (va_up (va_up rN 0 (some (b + 1))) 1 (some (b + 13))) 2 (some (b + 14))) 3 (some (b + 15))) 4 (some (b + 16))) 5 (some (b + 17))) := by rw [eG42, va_up_ne _ _ (by omega)]; rw [hG38 _ (by omega)]; rw [eG37, va_up_ne _ _ (by omega)]; rw [eG35, va_up_ne _ _ (by omega)]; rw [hG31 _ (by omega)]; rw [eG30, va_up_ne _ _ (by omega)]; rw [eG28, va_up_ne _ _ (by omega)]; rw [hG24 _ (by omega)]; rw [eG23, va_up_ne _ _ (by omega)]; rw [eG20, vau (by omega)]
  refine x_getr 102 C (b := b + 16) dX5_init_102 ff_X5_31 rfl g43 rfl ?_
  refine x_iload_n 105 C dX5_init_105 rfl 0 rfl ?_
  refine x_new 106 C dX5_init_106 (by decide) hh_X10 kl_X5_25 kb_X10 kn_X10 hd_X10 (Nat.le_of_ble_eq_true rfl) (Nat.le_of_ble_eq_true rfl) (fun G44 I44 L44 eG44 eI44 eL44 => ?_)
  refine x_dup 109 C dX5_init_109 rfl ?_
  have g46 : G44 (b + 30) = some (10, 0, rN) := by rw [eG44, vau (by omega)]
  refine x_callI 110 C dX5_init_110 (As := []) (rest := [.ref (b + 30), .int 0, .ref (b + 16)]) (c_X10_init l D z G44 I44 L44 (b + 30) g46 (by omega)) mt_X10_init rfl km_X5_38 ki_X10_init rfl (Nat.le_of_ble_eq_true rfl) ⟨⟨(Nat.le_of_ble_eq_true rfl), (Nat.le_of_ble_eq_true rfl)⟩, (Nat.le_of_ble_eq_true rfl), (Nat.le_of_ble_eq_true rfl)⟩ (fun v45 n45 G45 I45 L45 hp45 _ => ?_)
  obtain ⟨hv45, hn45, hs45, hG45, hI45, hL45⟩ := hp45
  subst hv45; subst hn45
  refine x_st [.ref (b + 30), .int 0, .ref (b + 16)] rfl ?_
  have g48 : G45 (b + 16) = some (27, 2, rPart (fun k => some (b + 30 + 20 * k)) 0) := by rw [hG45 _ (by omega)]; rw [eG44, va_up_ne _ _ (by omega)]; rw [eG42, va_up_ne _ _ (by omega)]; rw [hG38 _ (by omega)]; rw [eG37, va_up_ne _ _ (by omega)]; rw [eG35, va_up_ne _ _ (by omega)]; rw [hG31 _ (by omega)]; rw [eG30, va_up_ne _ _ (by omega)]; rw [eG28, va_up_ne _ _ (by omega)]; rw [hG24 _ (by omega)]; rw [eG23, va_up_ne _ _ (by omega)]; rw [eG20, va_up_ne _ _ (by omega)]; rw [eG18, va_up_ne _ _ (by omega)]; rw [eG17, va_up_ne _ _ (by omega)]; rw [eG15, vau (by omega)]
  refine x_aast 113 C (j := 0) dX5_init_113 (by decide) g48 hs45.1 (by omega) ⟨by decide, by decide, by decide⟩ (fun G49 eG049 => ?_)
  have eG49 : G49 = va_up G45 (b + 16) (some (27, 2, rPart (fun k => some (b + 30 + 20 * k)) 1)) := eG049.trans (by rw [rPart_up (f := (fun k => some (b + 30 + 20 * k))) (congrArg some (by omega))])
  refine x_aload_n 114 C dX5_init_114 rfl 1 rfl ?_
  have g50 : G49 (b) = some (5, 0, va_up (va_up (va_up (va_up (va_up (va_up rN 0 (some (b + 1))) 1 (some (b + 13))) 2 (some (b + 14))) 3 (some (b + 15))) 4 (some (b + 16))) 5 (some (b + 17))) := by rw [eG49, va_up_ne _ _ (by omega)]; rw [hG45 _ (by omega)]; rw [eG44, va_up_ne _ _ (by omega)]; rw [eG42, va_up_ne _ _ (by omega)]; rw [hG38 _ (by omega)]; rw [eG37, va_up_ne _ _ (by omega)]; rw [eG35, va_up_ne _ _ (by omega)]; rw [hG31 _ (by omega)]; rw [eG30, va_up_ne _ _ (by omega)]; rw [eG28, va_up_ne _ _ (by omega)]; rw [hG24 _ (by omega)]; rw [eG23, va_up_ne _ _ (by omega)]; rw [eG20, vau (by omega)]
  refine x_getr 115 C (b := b + 17) dX5_init_115 ff_X5_34 rfl g50 rfl ?_
  refine x_iload_n 118 C dX5_init_118 rfl 0 rfl ?_
  refine x_new 119 C dX5_init_119 (by decide) hh_X10 kl_X5_25 kb_X10 kn_X10 hd_X10 (Nat.le_of_ble_eq_true rfl) (Nat.le_of_ble_eq_true rfl) (fun G51 I51 L51 eG51 eI51 eL51 => ?_)
  refine x_dup 122 C dX5_init_122 rfl ?_
  have g53 : G51 (b + 34) = some (10, 0, rN) := by rw [eG51, vau (by omega)]
  refine x_callI 123 C dX5_init_123 (As := []) (rest := [.ref (b + 34), .int 0, .ref (b + 17)]) (c_X10_init l D z G51 I51 L51 (b + 34) g53 (by omega)) mt_X10_init rfl km_X5_38 ki_X10_init rfl (Nat.le_of_ble_eq_true rfl) ⟨⟨(Nat.le_of_ble_eq_true rfl), (Nat.le_of_ble_eq_true rfl)⟩, (Nat.le_of_ble_eq_true rfl), (Nat.le_of_ble_eq_true rfl)⟩ (fun v52 n52 G52 I52 L52 hp52 _ => ?_)
  obtain ⟨hv52, hn52, hs52, hG52, hI52, hL52⟩ := hp52
  subst hv52; subst hn52
  refine x_st [.ref (b + 34), .int 0, .ref (b + 17)] rfl ?_
  have g55 : G52 (b + 17) = some (27, 2, rPart (fun k => some (b + 34 + 20 * k)) 0) := by rw [hG52 _ (by omega)]; rw [eG51, va_up_ne _ _ (by omega)]; rw [eG49, va_up_ne _ _ (by omega)]; rw [hG45 _ (by omega)]; rw [eG44, va_up_ne _ _ (by omega)]; rw [eG42, va_up_ne _ _ (by omega)]; rw [hG38 _ (by omega)]; rw [eG37, va_up_ne _ _ (by omega)]; rw [eG35, va_up_ne _ _ (by omega)]; rw [hG31 _ (by omega)]; rw [eG30, va_up_ne _ _ (by omega)]; rw [eG28, va_up_ne _ _ (by omega)]; rw [hG24 _ (by omega)]; rw [eG23, va_up_ne _ _ (by omega)]; rw [eG20, va_up_ne _ _ (by omega)]; rw [eG18, vau (by omega)]
  refine x_aast 126 C (j := 0) dX5_init_126 (by decide) g55 hs52.1 (by omega) ⟨by decide, by decide, by decide⟩ (fun G56 eG056 => ?_)
  have eG56 : G56 = va_up G52 (b + 17) (some (27, 2, rPart (fun k => some (b + 34 + 20 * k)) 1)) := eG056.trans (by rw [rPart_up (f := (fun k => some (b + 34 + 20 * k))) (congrArg some (by omega))])
  refine x_iinc 127 C [(1, .int 1), (0, .ref b)] dX5_init_127 0 rfl (by decide) (by decide) rfl ?_
  refine x_goto 130 C 57 dX5_init_130 (by decide) ?_
  refine x_iload_n 57 C dX5_init_57 rfl 0 rfl ?_
  refine x_iconst 58 C (v := 2) dX5_init_58 rfl ?_
  refine x_icmp_ge 59 C 133 dX5_init_59 (by decide) (fun c57 => absurd c57 (by decide)) (fun _ => ?_)
  refine x_aload_n 62 C dX5_init_62 rfl 1 rfl ?_
  have g58 : G56 (b) = some (5, 0, va_up (va_up (va_up (va_up (va_up (va_up rN 0 (some (b + 1))) 1 (some (b + 13))) 2 (some (b + 14))) 3 (some (b + 15))) 4 (some (b + 16))) 5 (some (b + 17))) := by rw [eG56, va_up_ne _ _ (by omega)]; rw [hG52 _ (by omega)]; rw [eG51, va_up_ne _ _ (by omega)]; rw [eG49, va_up_ne _ _ (by omega)]; rw [hG45 _ (by omega)]; rw [eG44, va_up_ne _ _ (by omega)]; rw [eG42, va_up_ne _ _ (by omega)]; rw [hG38 _ (by omega)]; rw [eG37, va_up_ne _ _ (by omega)]; rw [eG35, va_up_ne _ _ (by omega)]; rw [hG31 _ (by omega)]; rw [eG30, va_up_ne _ _ (by omega)]; rw [eG28, va_up_ne _ _ (by omega)]; rw [hG24 _ (by omega)]; rw [eG23, va_up_ne _ _ (by omega)]; rw [eG20, vau (by omega)]
  refine x_getr 63 C (b := b + 13) dX5_init_63 ff_X5_18 rfl g58 rfl ?_
  refine x_iload_n 66 C dX5_init_66 rfl 0 rfl ?_
  refine x_new 67 C dX5_init_67 (by decide) hh_X1 kl_X5_16 kb_X1 kn_X1 hd_X1 (Nat.le_of_ble_eq_true rfl) (Nat.le_of_ble_eq_true rfl) (fun G59 I59 L59 eG59 eI59 eL59 => ?_)
  refine x_dup 70 C dX5_init_70 rfl ?_
  have g61 : G59 (b + 38) = some (1, 0, rN) := by rw [eG59, vau (by omega)]
  refine x_callI 71 C dX5_init_71 (As := []) (rest := [.ref (b + 38), .int 1, .ref (b + 13)]) (c_X1_init l D z G59 I59 L59 (b + 38) g61 (by omega)) mt_X1_init rfl km_X5_37 ki_X1_init rfl (Nat.le_of_ble_eq_true rfl) ⟨⟨(Nat.le_of_ble_eq_true rfl), (Nat.le_of_ble_eq_true rfl)⟩, (Nat.le_of_ble_eq_true rfl), (Nat.le_of_ble_eq_true rfl)⟩ (fun v60 n60 G60 I60 L60 hp60 _ => ?_)
  obtain ⟨hv60, hn60, hs60, hG60, hI60, hL60⟩ := hp60
  subst hv60; subst hn60
  refine x_st [.ref (b + 38), .int 1, .ref (b + 13)] rfl ?_
  have g63 : G60 (b + 13) = some (24, 2, rPart (fun k => some (b + 18 + 20 * k)) 1) := by rw [hG60 _ (by omega)]; rw [eG59, va_up_ne _ _ (by omega)]; rw [eG56, va_up_ne _ _ (by omega)]; rw [hG52 _ (by omega)]; rw [eG51, va_up_ne _ _ (by omega)]; rw [eG49, va_up_ne _ _ (by omega)]; rw [hG45 _ (by omega)]; rw [eG44, va_up_ne _ _ (by omega)]; rw [eG42, va_up_ne _ _ (by omega)]; rw [hG38 _ (by omega)]; rw [eG37, va_up_ne _ _ (by omega)]; rw [eG35, va_up_ne _ _ (by omega)]; rw [hG31 _ (by omega)]; rw [eG30, va_up_ne _ _ (by omega)]; rw [eG28, vau (by omega)]
  refine x_aast 74 C (j := 1) dX5_init_74 (by decide) g63 hs60.1 (by omega) ⟨by decide, by decide, by decide⟩ (fun G64 eG064 => ?_)
  have eG64 : G64 = va_up G60 (b + 13) (some (24, 2, rPart (fun k => some (b + 18 + 20 * k)) 2)) := eG064.trans (by rw [rPart_up (f := (fun k => some (b + 18 + 20 * k))) (congrArg some (by omega))])
  refine x_aload_n 75 C dX5_init_75 rfl 1 rfl ?_
  have g65 : G64 (b) = some (5, 0, va_up (va_up (va_up (va_up (va_up (va_up rN 0 (some (b + 1))) 1 (some (b + 13))) 2 (some (b + 14))) 3 (some (b + 15))) 4 (some (b + 16))) 5 (some (b + 17))) := by rw [eG64, va_up_ne _ _ (by omega)]; rw [hG60 _ (by omega)]; rw [eG59, va_up_ne _ _ (by omega)]; rw [eG56, va_up_ne _ _ (by omega)]; rw [hG52 _ (by omega)]; rw [eG51, va_up_ne _ _ (by omega)]; rw [eG49, va_up_ne _ _ (by omega)]; rw [hG45 _ (by omega)]; rw [eG44, va_up_ne _ _ (by omega)]; rw [eG42, va_up_ne _ _ (by omega)]; rw [hG38 _ (by omega)]; rw [eG37, va_up_ne _ _ (by omega)]; rw [eG35, va_up_ne _ _ (by omega)]; rw [hG31 _ (by omega)]; rw [eG30, va_up_ne _ _ (by omega)]; rw [eG28, va_up_ne _ _ (by omega)]; rw [hG24 _ (by omega)]; rw [eG23, va_up_ne _ _ (by omega)]; rw [eG20, vau (by omega)]
  refine x_getr 76 C (b := b + 14) dX5_init_76 ff_X5_22 rfl g65 rfl ?_
  refine x_iload_n 79 C dX5_init_79 rfl 0 rfl ?_
  refine x_new 80 C dX5_init_80 (by decide) hh_X1 kl_X5_16 kb_X1 kn_X1 hd_X1 (Nat.le_of_ble_eq_true rfl) (Nat.le_of_ble_eq_true rfl) (fun G66 I66 L66 eG66 eI66 eL66 => ?_)
  refine x_dup 83 C dX5_init_83 rfl ?_
  have g68 : G66 (b + 42) = some (1, 0, rN) := by rw [eG66, vau (by omega)]
  refine x_callI 84 C dX5_init_84 (As := []) (rest := [.ref (b + 42), .int 1, .ref (b + 14)]) (c_X1_init l D z G66 I66 L66 (b + 42) g68 (by omega)) mt_X1_init rfl km_X5_37 ki_X1_init rfl (Nat.le_of_ble_eq_true rfl) ⟨⟨(Nat.le_of_ble_eq_true rfl), (Nat.le_of_ble_eq_true rfl)⟩, (Nat.le_of_ble_eq_true rfl), (Nat.le_of_ble_eq_true rfl)⟩ (fun v67 n67 G67 I67 L67 hp67 _ => ?_)
  obtain ⟨hv67, hn67, hs67, hG67, hI67, hL67⟩ := hp67
  subst hv67; subst hn67
  refine x_st [.ref (b + 42), .int 1, .ref (b + 14)] rfl ?_
  have g70 : G67 (b + 14) = some (24, 2, rPart (fun k => some (b + 22 + 20 * k)) 1) := by rw [hG67 _ (by omega)]; rw [eG66, va_up_ne _ _ (by omega)]; rw [eG64, va_up_ne _ _ (by omega)]; rw [hG60 _ (by omega)]; rw [eG59, va_up_ne _ _ (by omega)]; rw [eG56, va_up_ne _ _ (by omega)]; rw [hG52 _ (by omega)]; rw [eG51, va_up_ne _ _ (by omega)]; rw [eG49, va_up_ne _ _ (by omega)]; rw [hG45 _ (by omega)]; rw [eG44, va_up_ne _ _ (by omega)]; rw [eG42, va_up_ne _ _ (by omega)]; rw [hG38 _ (by omega)]; rw [eG37, va_up_ne _ _ (by omega)]; rw [eG35, vau (by omega)]
  refine x_aast 87 C (j := 1) dX5_init_87 (by decide) g70 hs67.1 (by omega) ⟨by decide, by decide, by decide⟩ (fun G71 eG071 => ?_)
  have eG71 : G71 = va_up G67 (b + 14) (some (24, 2, rPart (fun k => some (b + 22 + 20 * k)) 2)) := eG071.trans (by rw [rPart_up (f := (fun k => some (b + 22 + 20 * k))) (congrArg some (by omega))])
  refine x_aload_n 88 C dX5_init_88 rfl 1 rfl ?_
  have g72 : G71 (b) = some (5, 0, va_up (va_up (va_up (va_up (va_up (va_up rN 0 (some (b + 1))) 1 (some (b + 13))) 2 (some (b + 14))) 3 (some (b + 15))) 4 (some (b + 16))) 5 (some (b + 17))) := by rw [eG71, va_up_ne _ _ (by omega)]; rw [hG67 _ (by omega)]; rw [eG66, va_up_ne _ _ (by omega)]; rw [eG64, va_up_ne _ _ (by omega)]; rw [hG60 _ (by omega)]; rw [eG59, va_up_ne _ _ (by omega)]; rw [eG56, va_up_ne _ _ (by omega)]; rw [hG52 _ (by omega)]; rw [eG51, va_up_ne _ _ (by omega)]; rw [eG49, va_up_ne _ _ (by omega)]; rw [hG45 _ (by omega)]; rw [eG44, va_up_ne _ _ (by omega)]; rw [eG42, va_up_ne _ _ (by omega)]; rw [hG38 _ (by omega)]; rw [eG37, va_up_ne _ _ (by omega)]; rw [eG35, va_up_ne _ _ (by omega)]; rw [hG31 _ (by omega)]; rw [eG30, va_up_ne _ _ (by omega)]; rw [eG28, va_up_ne _ _ (by omega)]; rw [hG24 _ (by omega)]; rw [eG23, va_up_ne _ _ (by omega)]; rw [eG20, vau (by omega)]
  refine x_getr 89 C (b := b + 15) dX5_init_89 ff_X5_27 rfl g72 rfl ?_
  refine x_iload_n 92 C dX5_init_92 rfl 0 rfl ?_
  refine x_new 93 C dX5_init_93 (by decide) hh_X10 kl_X5_25 kb_X10 kn_X10 hd_X10 (Nat.le_of_ble_eq_true rfl) (Nat.le_of_ble_eq_true rfl) (fun G73 I73 L73 eG73 eI73 eL73 => ?_)
  refine x_dup 96 C dX5_init_96 rfl ?_
  have g75 : G73 (b + 46) = some (10, 0, rN) := by rw [eG73, vau (by omega)]
  refine x_callI 97 C dX5_init_97 (As := []) (rest := [.ref (b + 46), .int 1, .ref (b + 15)]) (c_X10_init l D z G73 I73 L73 (b + 46) g75 (by omega)) mt_X10_init rfl km_X5_38 ki_X10_init rfl (Nat.le_of_ble_eq_true rfl) ⟨⟨(Nat.le_of_ble_eq_true rfl), (Nat.le_of_ble_eq_true rfl)⟩, (Nat.le_of_ble_eq_true rfl), (Nat.le_of_ble_eq_true rfl)⟩ (fun v74 n74 G74 I74 L74 hp74 _ => ?_)
  obtain ⟨hv74, hn74, hs74, hG74, hI74, hL74⟩ := hp74
  subst hv74; subst hn74
  refine x_st [.ref (b + 46), .int 1, .ref (b + 15)] rfl ?_
  have g77 : G74 (b + 15) = some (27, 2, rPart (fun k => some (b + 26 + 20 * k)) 1) := by rw [hG74 _ (by omega)]; rw [eG73, va_up_ne _ _ (by omega)]; rw [eG71, va_up_ne _ _ (by omega)]; rw [hG67 _ (by omega)]; rw [eG66, va_up_ne _ _ (by omega)]; rw [eG64, va_up_ne _ _ (by omega)]; rw [hG60 _ (by omega)]; rw [eG59, va_up_ne _ _ (by omega)]; rw [eG56, va_up_ne _ _ (by omega)]; rw [hG52 _ (by omega)]; rw [eG51, va_up_ne _ _ (by omega)]; rw [eG49, va_up_ne _ _ (by omega)]; rw [hG45 _ (by omega)]; rw [eG44, va_up_ne _ _ (by omega)]; rw [eG42, vau (by omega)]
  refine x_aast 100 C (j := 1) dX5_init_100 (by decide) g77 hs74.1 (by omega) ⟨by decide, by decide, by decide⟩ (fun G78 eG078 => ?_)
  have eG78 : G78 = va_up G74 (b + 15) (some (27, 2, rPart (fun k => some (b + 26 + 20 * k)) 2)) := eG078.trans (by rw [rPart_up (f := (fun k => some (b + 26 + 20 * k))) (congrArg some (by omega))])
  refine x_aload_n 101 C dX5_init_101 rfl 1 rfl ?_
  have g79 : G78 (b) = some (5, 0, va_up (va_up (va_up (va_up (va_up (va_up rN 0 (some (b + 1))) 1 (some (b + 13))) 2 (some (b + 14))) 3 (some (b + 15))) 4 (some (b + 16))) 5 (some (b + 17))) := by rw [eG78, va_up_ne _ _ (by omega)]; rw [hG74 _ (by omega)]; rw [eG73, va_up_ne _ _ (by omega)]; rw [eG71, va_up_ne _ _ (by omega)]; rw [hG67 _ (by omega)]; rw [eG66, va_up_ne _ _ (by omega)]; rw [eG64, va_up_ne _ _ (by omega)]; rw [hG60 _ (by omega)]; rw [eG59, va_up_ne _ _ (by omega)]; rw [eG56, va_up_ne _ _ (by omega)]; rw [hG52 _ (by omega)]; rw [eG51, va_up_ne _ _ (by omega)]; rw [eG49, va_up_ne _ _ (by omega)]; rw [hG45 _ (by omega)]; rw [eG44, va_up_ne _ _ (by omega)]; rw [eG42, va_up_ne _ _ (by omega)]; rw [hG38 _ (by omega)]; rw [eG37, va_up_ne _ _ (by omega)]; rw [eG35, va_up_ne _ _ (by omega)]; rw [hG31 _ (by omega)]; rw [eG30, va_up_ne _ _ (by omega)]; rw [eG28, va_up_ne _ _ (by omega)]; rw [hG24 _ (by omega)]; rw [eG23, va_up_ne _ _ (by omega)]; rw [eG20, vau (by omega)]
  refine x_getr 102 C (b := b + 16) dX5_init_102 ff_X5_31 rfl g79 rfl ?_
  refine x_iload_n 105 C dX5_init_105 rfl 0 rfl ?_
  refine x_new 106 C dX5_init_106 (by decide) hh_X10 kl_X5_25 kb_X10 kn_X10 hd_X10 (Nat.le_of_ble_eq_true rfl) (Nat.le_of_ble_eq_true rfl) (fun G80 I80 L80 eG80 eI80 eL80 => ?_)
  refine x_dup 109 C dX5_init_109 rfl ?_
  have g82 : G80 (b + 50) = some (10, 0, rN) := by rw [eG80, vau (by omega)]
  refine x_callI 110 C dX5_init_110 (As := []) (rest := [.ref (b + 50), .int 1, .ref (b + 16)]) (c_X10_init l D z G80 I80 L80 (b + 50) g82 (by omega)) mt_X10_init rfl km_X5_38 ki_X10_init rfl (Nat.le_of_ble_eq_true rfl) ⟨⟨(Nat.le_of_ble_eq_true rfl), (Nat.le_of_ble_eq_true rfl)⟩, (Nat.le_of_ble_eq_true rfl), (Nat.le_of_ble_eq_true rfl)⟩ (fun v81 n81 G81 I81 L81 hp81 _ => ?_)
  obtain ⟨hv81, hn81, hs81, hG81, hI81, hL81⟩ := hp81
  subst hv81; subst hn81
  refine x_st [.ref (b + 50), .int 1, .ref (b + 16)] rfl ?_
  have g84 : G81 (b + 16) = some (27, 2, rPart (fun k => some (b + 30 + 20 * k)) 1) := by rw [hG81 _ (by omega)]; rw [eG80, va_up_ne _ _ (by omega)]; rw [eG78, va_up_ne _ _ (by omega)]; rw [hG74 _ (by omega)]; rw [eG73, va_up_ne _ _ (by omega)]; rw [eG71, va_up_ne _ _ (by omega)]; rw [hG67 _ (by omega)]; rw [eG66, va_up_ne _ _ (by omega)]; rw [eG64, va_up_ne _ _ (by omega)]; rw [hG60 _ (by omega)]; rw [eG59, va_up_ne _ _ (by omega)]; rw [eG56, va_up_ne _ _ (by omega)]; rw [hG52 _ (by omega)]; rw [eG51, va_up_ne _ _ (by omega)]; rw [eG49, vau (by omega)]
  refine x_aast 113 C (j := 1) dX5_init_113 (by decide) g84 hs81.1 (by omega) ⟨by decide, by decide, by decide⟩ (fun G85 eG085 => ?_)
  have eG85 : G85 = va_up G81 (b + 16) (some (27, 2, rPart (fun k => some (b + 30 + 20 * k)) 2)) := eG085.trans (by rw [rPart_up (f := (fun k => some (b + 30 + 20 * k))) (congrArg some (by omega))])
  refine x_aload_n 114 C dX5_init_114 rfl 1 rfl ?_
  have g86 : G85 (b) = some (5, 0, va_up (va_up (va_up (va_up (va_up (va_up rN 0 (some (b + 1))) 1 (some (b + 13))) 2 (some (b + 14))) 3 (some (b + 15))) 4 (some (b + 16))) 5 (some (b + 17))) := by rw [eG85, va_up_ne _ _ (by omega)]; rw [hG81 _ (by omega)]; rw [eG80, va_up_ne _ _ (by omega)]; rw [eG78, va_up_ne _ _ (by omega)]; rw [hG74 _ (by omega)]; rw [eG73, va_up_ne _ _ (by omega)]; rw [eG71, va_up_ne _ _ (by omega)]; rw [hG67 _ (by omega)]; rw [eG66, va_up_ne _ _ (by omega)]; rw [eG64, va_up_ne _ _ (by omega)]; rw [hG60 _ (by omega)]; rw [eG59, va_up_ne _ _ (by omega)]; rw [eG56, va_up_ne _ _ (by omega)]; rw [hG52 _ (by omega)]; rw [eG51, va_up_ne _ _ (by omega)]; rw [eG49, va_up_ne _ _ (by omega)]; rw [hG45 _ (by omega)]; rw [eG44, va_up_ne _ _ (by omega)]; rw [eG42, va_up_ne _ _ (by omega)]; rw [hG38 _ (by omega)]; rw [eG37, va_up_ne _ _ (by omega)]; rw [eG35, va_up_ne _ _ (by omega)]; rw [hG31 _ (by omega)]; rw [eG30, va_up_ne _ _ (by omega)]; rw [eG28, va_up_ne _ _ (by omega)]; rw [hG24 _ (by omega)]; rw [eG23, va_up_ne _ _ (by omega)]; rw [eG20, vau (by omega)]
  refine x_getr 115 C (b := b + 17) dX5_init_115 ff_X5_34 rfl g86 rfl ?_
  refine x_iload_n 118 C dX5_init_118 rfl 0 rfl ?_
  refine x_new 119 C dX5_init_119 (by decide) hh_X10 kl_X5_25 kb_X10 kn_X10 hd_X10 (Nat.le_of_ble_eq_true rfl) (Nat.le_of_ble_eq_true rfl) (fun G87 I87 L87 eG87 eI87 eL87 => ?_)
  refine x_dup 122 C dX5_init_122 rfl ?_
  have g89 : G87 (b + 54) = some (10, 0, rN) := by rw [eG87, vau (by omega)]
  refine x_callI 123 C dX5_init_123 (As := []) (rest := [.ref (b + 54), .int 1, .ref (b + 17)]) (c_X10_init l D z G87 I87 L87 (b + 54) g89 (by omega)) mt_X10_init rfl km_X5_38 ki_X10_init rfl (Nat.le_of_ble_eq_true rfl) ⟨⟨(Nat.le_of_ble_eq_true rfl), (Nat.le_of_ble_eq_true rfl)⟩, (Nat.le_of_ble_eq_true rfl), (Nat.le_of_ble_eq_true rfl)⟩ (fun v88 n88 G88 I88 L88 hp88 _ => ?_)
  obtain ⟨hv88, hn88, hs88, hG88, hI88, hL88⟩ := hp88
  subst hv88; subst hn88
  refine x_st [.ref (b + 54), .int 1, .ref (b + 17)] rfl ?_
  have g91 : G88 (b + 17) = some (27, 2, rPart (fun k => some (b + 34 + 20 * k)) 1) := by rw [hG88 _ (by omega)]; rw [eG87, va_up_ne _ _ (by omega)]; rw [eG85, va_up_ne _ _ (by omega)]; rw [hG81 _ (by omega)]; rw [eG80, va_up_ne _ _ (by omega)]; rw [eG78, va_up_ne _ _ (by omega)]; rw [hG74 _ (by omega)]; rw [eG73, va_up_ne _ _ (by omega)]; rw [eG71, va_up_ne _ _ (by omega)]; rw [hG67 _ (by omega)]; rw [eG66, va_up_ne _ _ (by omega)]; rw [eG64, va_up_ne _ _ (by omega)]; rw [hG60 _ (by omega)]; rw [eG59, va_up_ne _ _ (by omega)]; rw [eG56, vau (by omega)]
  refine x_aast 126 C (j := 1) dX5_init_126 (by decide) g91 hs88.1 (by omega) ⟨by decide, by decide, by decide⟩ (fun G92 eG092 => ?_)
  have eG92 : G92 = va_up G88 (b + 17) (some (27, 2, rPart (fun k => some (b + 34 + 20 * k)) 2)) := eG092.trans (by rw [rPart_up (f := (fun k => some (b + 34 + 20 * k))) (congrArg some (by omega))])
  refine x_iinc 127 C [(1, .int 2), (0, .ref b)] dX5_init_127 0 rfl (by decide) (by decide) rfl ?_
  refine x_goto 130 C 57 dX5_init_130 (by decide) ?_
  refine x_iload_n 57 C dX5_init_57 rfl 0 rfl ?_
  refine x_iconst 58 C (v := 2) dX5_init_58 rfl ?_
  refine x_icmp_ge 59 C 133 dX5_init_59 (by decide) (fun _ => ?_) (fun c93 => absurd (by decide) c93)
  refine x_wid (k' := 57) (n' := 195) (Nat.le_of_ble_eq_true rfl) (Nat.le_of_ble_eq_true rfl) ?_
  refine x_vret 133 C dX5_init_133 rfl (by omega) ?_
  refine ⟨rfl, rfl, ?_, fun a h1 => by rw [eG92, va_up_ne _ _ (by omega)]; rw [hG88 _ (by omega)]; rw [eG87, va_up_ne _ _ (by omega)]; rw [eG85, va_up_ne _ _ (by omega)]; rw [hG81 _ (by omega)]; rw [eG80, va_up_ne _ _ (by omega)]; rw [eG78, va_up_ne _ _ (by omega)]; rw [hG74 _ (by omega)]; rw [eG73, va_up_ne _ _ (by omega)]; rw [eG71, va_up_ne _ _ (by omega)]; rw [hG67 _ (by omega)]; rw [eG66, va_up_ne _ _ (by omega)]; rw [eG64, va_up_ne _ _ (by omega)]; rw [hG60 _ (by omega)]; rw [eG59, va_up_ne _ _ (by omega)]; rw [eG56, va_up_ne _ _ (by omega)]; rw [hG52 _ (by omega)]; rw [eG51, va_up_ne _ _ (by omega)]; rw [eG49, va_up_ne _ _ (by omega)]; rw [hG45 _ (by omega)]; rw [eG44, va_up_ne _ _ (by omega)]; rw [eG42, va_up_ne _ _ (by omega)]; rw [hG38 _ (by omega)]; rw [eG37, va_up_ne _ _ (by omega)]; rw [eG35, va_up_ne _ _ (by omega)]; rw [hG31 _ (by omega)]; rw [eG30, va_up_ne _ _ (by omega)]; rw [eG28, va_up_ne _ _ (by omega)]; rw [hG24 _ (by omega)]; rw [eG23, va_up_ne _ _ (by omega)]; rw [eG20, va_up_ne _ _ (by omega)]; rw [eG18, va_up_ne _ _ (by omega)]; rw [eG17, va_up_ne _ _ (by omega)]; rw [eG15, va_up_ne _ _ (by omega)]; rw [eG14, va_up_ne _ _ (by omega)]; rw [eG12, va_up_ne _ _ (by omega)]; rw [eG11, va_up_ne _ _ (by omega)]; rw [eG9, va_up_ne _ _ (by omega)]; rw [eG8, va_up_ne _ _ (by omega)]; rw [eG6, va_up_ne _ _ (by omega)]; rw [eG5, va_up_ne _ _ (by omega)]; rw [hG2 _ (by omega)]; rw [eG1, va_up_ne _ _ (by omega)], fun a h1 => by rw [hI88 _ (by omega)]; rw [eI87, xzero_row _ _ (by omega)]; rw [hI81 _ (by omega)]; rw [eI80, xzero_row _ _ (by omega)]; rw [hI74 _ (by omega)]; rw [eI73, xzero_row _ _ (by omega)]; rw [hI67 _ (by omega)]; rw [eI66, xzero_row _ _ (by omega)]; rw [hI60 _ (by omega)]; rw [eI59, xzero_row _ _ (by omega)]; rw [hI52 _ (by omega)]; rw [eI51, xzero_row _ _ (by omega)]; rw [hI45 _ (by omega)]; rw [eI44, xzero_row _ _ (by omega)]; rw [hI38 _ (by omega)]; rw [eI37, xzero_row _ _ (by omega)]; rw [hI31 _ (by omega)]; rw [eI30, xzero_row _ _ (by omega)]; rw [hI24 _ (by omega)]; rw [eI23, xzero_row _ _ (by omega)]; rw [eI18, xzero_row _ _ (by omega)]; rw [eI15, xzero_row _ _ (by omega)]; rw [eI12, xzero_row _ _ (by omega)]; rw [eI9, xzero_row _ _ (by omega)]; rw [eI6, xzero_row _ _ (by omega)]; rw [hI2 _ (by omega)]; rw [eI1, xzero_row _ _ (by omega)], fun a h1 => by rw [hL88 _ (by omega)]; rw [eL87, xzero_row _ _ (by omega)]; rw [hL81 _ (by omega)]; rw [eL80, xzero_row _ _ (by omega)]; rw [hL74 _ (by omega)]; rw [eL73, xzero_row _ _ (by omega)]; rw [hL67 _ (by omega)]; rw [eL66, xzero_row _ _ (by omega)]; rw [hL60 _ (by omega)]; rw [eL59, xzero_row _ _ (by omega)]; rw [hL52 _ (by omega)]; rw [eL51, xzero_row _ _ (by omega)]; rw [hL45 _ (by omega)]; rw [eL44, xzero_row _ _ (by omega)]; rw [hL38 _ (by omega)]; rw [eL37, xzero_row _ _ (by omega)]; rw [hL31 _ (by omega)]; rw [eL30, xzero_row _ _ (by omega)]; rw [hL24 _ (by omega)]; rw [eL23, xzero_row _ _ (by omega)]; rw [eL18, xzero_row _ _ (by omega)]; rw [eL15, xzero_row _ _ (by omega)]; rw [eL12, xzero_row _ _ (by omega)]; rw [eL9, xzero_row _ _ (by omega)]; rw [eL6, xzero_row _ _ (by omega)]; rw [hL2 _ (by omega)]; rw [eL1, xzero_row _ _ (by omega)]⟩
  have g94 : G92 (b) = some (5, 0, va_up (va_up (va_up (va_up (va_up (va_up rN 0 (some (b + 1))) 1 (some (b + 13))) 2 (some (b + 14))) 3 (some (b + 15))) 4 (some (b + 16))) 5 (some (b + 17))) := by rw [eG92, va_up_ne _ _ (by omega)]; rw [hG88 _ (by omega)]; rw [eG87, va_up_ne _ _ (by omega)]; rw [eG85, va_up_ne _ _ (by omega)]; rw [hG81 _ (by omega)]; rw [eG80, va_up_ne _ _ (by omega)]; rw [eG78, va_up_ne _ _ (by omega)]; rw [hG74 _ (by omega)]; rw [eG73, va_up_ne _ _ (by omega)]; rw [eG71, va_up_ne _ _ (by omega)]; rw [hG67 _ (by omega)]; rw [eG66, va_up_ne _ _ (by omega)]; rw [eG64, va_up_ne _ _ (by omega)]; rw [hG60 _ (by omega)]; rw [eG59, va_up_ne _ _ (by omega)]; rw [eG56, va_up_ne _ _ (by omega)]; rw [hG52 _ (by omega)]; rw [eG51, va_up_ne _ _ (by omega)]; rw [eG49, va_up_ne _ _ (by omega)]; rw [hG45 _ (by omega)]; rw [eG44, va_up_ne _ _ (by omega)]; rw [eG42, va_up_ne _ _ (by omega)]; rw [hG38 _ (by omega)]; rw [eG37, va_up_ne _ _ (by omega)]; rw [eG35, va_up_ne _ _ (by omega)]; rw [hG31 _ (by omega)]; rw [eG30, va_up_ne _ _ (by omega)]; rw [eG28, va_up_ne _ _ (by omega)]; rw [hG24 _ (by omega)]; rw [eG23, va_up_ne _ _ (by omega)]; rw [eG20, vau (by omega)]
  have hs95 : shW G92 (b + 1) := shW_congr (fun a h1 h2 => by rw [eG92, va_up_ne _ _ (by omega)]; rw [hG88 _ (by omega)]; rw [eG87, va_up_ne _ _ (by omega)]; rw [eG85, va_up_ne _ _ (by omega)]; rw [hG81 _ (by omega)]; rw [eG80, va_up_ne _ _ (by omega)]; rw [eG78, va_up_ne _ _ (by omega)]; rw [hG74 _ (by omega)]; rw [eG73, va_up_ne _ _ (by omega)]; rw [eG71, va_up_ne _ _ (by omega)]; rw [hG67 _ (by omega)]; rw [eG66, va_up_ne _ _ (by omega)]; rw [eG64, va_up_ne _ _ (by omega)]; rw [hG60 _ (by omega)]; rw [eG59, va_up_ne _ _ (by omega)]; rw [eG56, va_up_ne _ _ (by omega)]; rw [hG52 _ (by omega)]; rw [eG51, va_up_ne _ _ (by omega)]; rw [eG49, va_up_ne _ _ (by omega)]; rw [hG45 _ (by omega)]; rw [eG44, va_up_ne _ _ (by omega)]; rw [eG42, va_up_ne _ _ (by omega)]; rw [hG38 _ (by omega)]; rw [eG37, va_up_ne _ _ (by omega)]; rw [eG35, va_up_ne _ _ (by omega)]; rw [hG31 _ (by omega)]; rw [eG30, va_up_ne _ _ (by omega)]; rw [eG28, va_up_ne _ _ (by omega)]; rw [hG24 _ (by omega)]; rw [eG23, va_up_ne _ _ (by omega)]; rw [eG20, va_up_ne _ _ (by omega)]; rw [eG18, va_up_ne _ _ (by omega)]; rw [eG17, va_up_ne _ _ (by omega)]; rw [eG15, va_up_ne _ _ (by omega)]; rw [eG14, va_up_ne _ _ (by omega)]; rw [eG12, va_up_ne _ _ (by omega)]; rw [eG11, va_up_ne _ _ (by omega)]; rw [eG9, va_up_ne _ _ (by omega)]; rw [eG8, va_up_ne _ _ (by omega)]; rw [eG6, va_up_ne _ _ (by omega)]; rw [eG5, va_up_ne _ _ (by omega)]) hs2
  have g96 : G92 (b + 13) = some (24, 2, rPart (fun k => some (b + 18 + 20 * k)) 2) := by rw [eG92, va_up_ne _ _ (by omega)]; rw [hG88 _ (by omega)]; rw [eG87, va_up_ne _ _ (by omega)]; rw [eG85, va_up_ne _ _ (by omega)]; rw [hG81 _ (by omega)]; rw [eG80, va_up_ne _ _ (by omega)]; rw [eG78, va_up_ne _ _ (by omega)]; rw [hG74 _ (by omega)]; rw [eG73, va_up_ne _ _ (by omega)]; rw [eG71, va_up_ne _ _ (by omega)]; rw [hG67 _ (by omega)]; rw [eG66, va_up_ne _ _ (by omega)]; rw [eG64, vau (by omega)]
  have g97 : G92 (b + 14) = some (24, 2, rPart (fun k => some (b + 22 + 20 * k)) 2) := by rw [eG92, va_up_ne _ _ (by omega)]; rw [hG88 _ (by omega)]; rw [eG87, va_up_ne _ _ (by omega)]; rw [eG85, va_up_ne _ _ (by omega)]; rw [hG81 _ (by omega)]; rw [eG80, va_up_ne _ _ (by omega)]; rw [eG78, va_up_ne _ _ (by omega)]; rw [hG74 _ (by omega)]; rw [eG73, va_up_ne _ _ (by omega)]; rw [eG71, vau (by omega)]
  have g98 : G92 (b + 15) = some (27, 2, rPart (fun k => some (b + 26 + 20 * k)) 2) := by rw [eG92, va_up_ne _ _ (by omega)]; rw [hG88 _ (by omega)]; rw [eG87, va_up_ne _ _ (by omega)]; rw [eG85, va_up_ne _ _ (by omega)]; rw [hG81 _ (by omega)]; rw [eG80, va_up_ne _ _ (by omega)]; rw [eG78, vau (by omega)]
  have g99 : G92 (b + 16) = some (27, 2, rPart (fun k => some (b + 30 + 20 * k)) 2) := by rw [eG92, va_up_ne _ _ (by omega)]; rw [hG88 _ (by omega)]; rw [eG87, va_up_ne _ _ (by omega)]; rw [eG85, vau (by omega)]
  have g100 : G92 (b + 17) = some (27, 2, rPart (fun k => some (b + 34 + 20 * k)) 2) := by rw [eG92, vau (by omega)]
  have hs101 : shE G92 (b + 18) := shE_congr (fun a h1 h2 => by rw [eG92, va_up_ne _ _ (by omega)]; rw [hG88 _ (by omega)]; rw [eG87, va_up_ne _ _ (by omega)]; rw [eG85, va_up_ne _ _ (by omega)]; rw [hG81 _ (by omega)]; rw [eG80, va_up_ne _ _ (by omega)]; rw [eG78, va_up_ne _ _ (by omega)]; rw [hG74 _ (by omega)]; rw [eG73, va_up_ne _ _ (by omega)]; rw [eG71, va_up_ne _ _ (by omega)]; rw [hG67 _ (by omega)]; rw [eG66, va_up_ne _ _ (by omega)]; rw [eG64, va_up_ne _ _ (by omega)]; rw [hG60 _ (by omega)]; rw [eG59, va_up_ne _ _ (by omega)]; rw [eG56, va_up_ne _ _ (by omega)]; rw [hG52 _ (by omega)]; rw [eG51, va_up_ne _ _ (by omega)]; rw [eG49, va_up_ne _ _ (by omega)]; rw [hG45 _ (by omega)]; rw [eG44, va_up_ne _ _ (by omega)]; rw [eG42, va_up_ne _ _ (by omega)]; rw [hG38 _ (by omega)]; rw [eG37, va_up_ne _ _ (by omega)]; rw [eG35, va_up_ne _ _ (by omega)]; rw [hG31 _ (by omega)]; rw [eG30, va_up_ne _ _ (by omega)]; rw [eG28, va_up_ne _ _ (by omega)]) hs24
  have hs102 : shE G92 (b + 22) := shE_congr (fun a h1 h2 => by rw [eG92, va_up_ne _ _ (by omega)]; rw [hG88 _ (by omega)]; rw [eG87, va_up_ne _ _ (by omega)]; rw [eG85, va_up_ne _ _ (by omega)]; rw [hG81 _ (by omega)]; rw [eG80, va_up_ne _ _ (by omega)]; rw [eG78, va_up_ne _ _ (by omega)]; rw [hG74 _ (by omega)]; rw [eG73, va_up_ne _ _ (by omega)]; rw [eG71, va_up_ne _ _ (by omega)]; rw [hG67 _ (by omega)]; rw [eG66, va_up_ne _ _ (by omega)]; rw [eG64, va_up_ne _ _ (by omega)]; rw [hG60 _ (by omega)]; rw [eG59, va_up_ne _ _ (by omega)]; rw [eG56, va_up_ne _ _ (by omega)]; rw [hG52 _ (by omega)]; rw [eG51, va_up_ne _ _ (by omega)]; rw [eG49, va_up_ne _ _ (by omega)]; rw [hG45 _ (by omega)]; rw [eG44, va_up_ne _ _ (by omega)]; rw [eG42, va_up_ne _ _ (by omega)]; rw [hG38 _ (by omega)]; rw [eG37, va_up_ne _ _ (by omega)]; rw [eG35, va_up_ne _ _ (by omega)]) hs31
  have hs103 : shT G92 (b + 26) := shT_congr (fun a h1 h2 => by rw [eG92, va_up_ne _ _ (by omega)]; rw [hG88 _ (by omega)]; rw [eG87, va_up_ne _ _ (by omega)]; rw [eG85, va_up_ne _ _ (by omega)]; rw [hG81 _ (by omega)]; rw [eG80, va_up_ne _ _ (by omega)]; rw [eG78, va_up_ne _ _ (by omega)]; rw [hG74 _ (by omega)]; rw [eG73, va_up_ne _ _ (by omega)]; rw [eG71, va_up_ne _ _ (by omega)]; rw [hG67 _ (by omega)]; rw [eG66, va_up_ne _ _ (by omega)]; rw [eG64, va_up_ne _ _ (by omega)]; rw [hG60 _ (by omega)]; rw [eG59, va_up_ne _ _ (by omega)]; rw [eG56, va_up_ne _ _ (by omega)]; rw [hG52 _ (by omega)]; rw [eG51, va_up_ne _ _ (by omega)]; rw [eG49, va_up_ne _ _ (by omega)]; rw [hG45 _ (by omega)]; rw [eG44, va_up_ne _ _ (by omega)]; rw [eG42, va_up_ne _ _ (by omega)]) hs38
  have hs104 : shT G92 (b + 30) := shT_congr (fun a h1 h2 => by rw [eG92, va_up_ne _ _ (by omega)]; rw [hG88 _ (by omega)]; rw [eG87, va_up_ne _ _ (by omega)]; rw [eG85, va_up_ne _ _ (by omega)]; rw [hG81 _ (by omega)]; rw [eG80, va_up_ne _ _ (by omega)]; rw [eG78, va_up_ne _ _ (by omega)]; rw [hG74 _ (by omega)]; rw [eG73, va_up_ne _ _ (by omega)]; rw [eG71, va_up_ne _ _ (by omega)]; rw [hG67 _ (by omega)]; rw [eG66, va_up_ne _ _ (by omega)]; rw [eG64, va_up_ne _ _ (by omega)]; rw [hG60 _ (by omega)]; rw [eG59, va_up_ne _ _ (by omega)]; rw [eG56, va_up_ne _ _ (by omega)]; rw [hG52 _ (by omega)]; rw [eG51, va_up_ne _ _ (by omega)]; rw [eG49, va_up_ne _ _ (by omega)]) hs45
  have hs105 : shT G92 (b + 34) := shT_congr (fun a h1 h2 => by rw [eG92, va_up_ne _ _ (by omega)]; rw [hG88 _ (by omega)]; rw [eG87, va_up_ne _ _ (by omega)]; rw [eG85, va_up_ne _ _ (by omega)]; rw [hG81 _ (by omega)]; rw [eG80, va_up_ne _ _ (by omega)]; rw [eG78, va_up_ne _ _ (by omega)]; rw [hG74 _ (by omega)]; rw [eG73, va_up_ne _ _ (by omega)]; rw [eG71, va_up_ne _ _ (by omega)]; rw [hG67 _ (by omega)]; rw [eG66, va_up_ne _ _ (by omega)]; rw [eG64, va_up_ne _ _ (by omega)]; rw [hG60 _ (by omega)]; rw [eG59, va_up_ne _ _ (by omega)]; rw [eG56, va_up_ne _ _ (by omega)]) hs52
  have hs106 : shE G92 (b + 38) := shE_congr (fun a h1 h2 => by rw [eG92, va_up_ne _ _ (by omega)]; rw [hG88 _ (by omega)]; rw [eG87, va_up_ne _ _ (by omega)]; rw [eG85, va_up_ne _ _ (by omega)]; rw [hG81 _ (by omega)]; rw [eG80, va_up_ne _ _ (by omega)]; rw [eG78, va_up_ne _ _ (by omega)]; rw [hG74 _ (by omega)]; rw [eG73, va_up_ne _ _ (by omega)]; rw [eG71, va_up_ne _ _ (by omega)]; rw [hG67 _ (by omega)]; rw [eG66, va_up_ne _ _ (by omega)]; rw [eG64, va_up_ne _ _ (by omega)]) hs60
  have hs107 : shE G92 (b + 42) := shE_congr (fun a h1 h2 => by rw [eG92, va_up_ne _ _ (by omega)]; rw [hG88 _ (by omega)]; rw [eG87, va_up_ne _ _ (by omega)]; rw [eG85, va_up_ne _ _ (by omega)]; rw [hG81 _ (by omega)]; rw [eG80, va_up_ne _ _ (by omega)]; rw [eG78, va_up_ne _ _ (by omega)]; rw [hG74 _ (by omega)]; rw [eG73, va_up_ne _ _ (by omega)]; rw [eG71, va_up_ne _ _ (by omega)]) hs67
  have hs108 : shT G92 (b + 46) := shT_congr (fun a h1 h2 => by rw [eG92, va_up_ne _ _ (by omega)]; rw [hG88 _ (by omega)]; rw [eG87, va_up_ne _ _ (by omega)]; rw [eG85, va_up_ne _ _ (by omega)]; rw [hG81 _ (by omega)]; rw [eG80, va_up_ne _ _ (by omega)]; rw [eG78, va_up_ne _ _ (by omega)]) hs74
  have hs109 : shT G92 (b + 50) := shT_congr (fun a h1 h2 => by rw [eG92, va_up_ne _ _ (by omega)]; rw [hG88 _ (by omega)]; rw [eG87, va_up_ne _ _ (by omega)]; rw [eG85, va_up_ne _ _ (by omega)]) hs81
  have hs110 : shT G92 (b + 54) := shT_congr (fun a h1 h2 => by rw [eG92, va_up_ne _ _ (by omega)]) hs88
  refine ⟨g94, hs95, g96, g97, g98, g99, g100, fun e he => ?_⟩
  rcases (show e = 0 ∨ e = 1 by omega) with rfl | rfl
  · exact ⟨hs101, hs102, hs103, hs104, hs105⟩
  · exact ⟨hs106, hs107, hs108, hs109, hs110⟩
theorem dX3_init_0 : decode cX3_init 0 = .ok (.aload_n 0, 1) := by decide +kernel
theorem dX3_init_1 : decode cX3_init 1 = .ok (.invokespecial 1, 3) := by decide +kernel
theorem dX3_init_4 : decode cX3_init 4 = .ok (.aload_n 0, 1) := by decide +kernel
theorem dX3_init_5 : decode cX3_init 5 = .ok (.new 7, 3) := by decide +kernel
theorem dX3_init_8 : decode cX3_init 8 = .ok (.dup, 1) := by decide +kernel
theorem dX3_init_9 : decode cX3_init 9 = .ok (.invokespecial 9, 3) := by decide +kernel
theorem dX3_init_12 : decode cX3_init 12 = .ok (.putfield 10, 3) := by decide +kernel
theorem dX3_init_15 : decode cX3_init 15 = .ok (.aload_n 0, 1) := by decide +kernel
theorem dX3_init_16 : decode cX3_init 16 = .ok (.new 16, 3) := by decide +kernel
theorem dX3_init_19 : decode cX3_init 19 = .ok (.dup, 1) := by decide +kernel
theorem dX3_init_20 : decode cX3_init 20 = .ok (.invokespecial 18, 3) := by decide +kernel
theorem dX3_init_23 : decode cX3_init 23 = .ok (.putfield 19, 3) := by decide +kernel
theorem dX3_init_26 : decode cX3_init 26 = .ok (.aload_n 0, 1) := by decide +kernel
theorem dX3_init_27 : decode cX3_init 27 = .ok (.new 23, 3) := by decide +kernel
theorem dX3_init_30 : decode cX3_init 30 = .ok (.dup, 1) := by decide +kernel
theorem dX3_init_31 : decode cX3_init 31 = .ok (.invokespecial 25, 3) := by decide +kernel
theorem dX3_init_34 : decode cX3_init 34 = .ok (.putfield 26, 3) := by decide +kernel
theorem dX3_init_37 : decode cX3_init 37 = .ok (.aload_n 0, 1) := by decide +kernel
theorem dX3_init_38 : decode cX3_init 38 = .ok (.new 23, 3) := by decide +kernel
theorem dX3_init_41 : decode cX3_init 41 = .ok (.dup, 1) := by decide +kernel
theorem dX3_init_42 : decode cX3_init 42 = .ok (.invokespecial 25, 3) := by decide +kernel
theorem dX3_init_45 : decode cX3_init 45 = .ok (.putfield 30, 3) := by decide +kernel
theorem dX3_init_48 : decode cX3_init 48 = .ok (.return_, 1) := by decide +kernel
set_option maxHeartbeats 1000000 in
set_option maxRecDepth 100000 in
theorem c_X3_init (l : Launch) (D : xD) (z : Nat) (G : xG) (I : xI) (L : xL) (b : Nat) (g0 : G b = some (3, 0, rN)) (zb : z ≤ b) : xM l D z yX3_init cX3_init 1 none 4 82 67 225 [.ref b] (b + 1) G I L (cPost b 68 (fun G' => shF G' b) G I L) := by
  refine xM.of (by decide) (Nat.le_of_ble_eq_true rfl) (fun p e s m args below meth c C hnm hsz => ?_)
  refine x_lv [(0, .ref b)] rfl ?_
  refine x_aload_n 0 C dX3_init_0 rfl 0 rfl ?_
  refine x_obj 1 C dX3_init_1 km_X3_1 ki_obj kc_obj (Nat.le_of_ble_eq_true rfl) (Nat.le_of_ble_eq_true rfl) ?_
  refine x_aload_n 4 C dX3_init_4 rfl 0 rfl ?_
  refine x_new 5 C dX3_init_5 (by decide) hh_X5 kl_X3_7 kb_X5 kn_X5 hd_X5 (Nat.le_of_ble_eq_true rfl) (Nat.le_of_ble_eq_true rfl) (fun G1 I1 L1 eG1 eI1 eL1 => ?_)
  refine x_dup 8 C dX3_init_8 rfl ?_
  have g3 : G1 (b + 1) = some (5, 0, rN) := by rw [eG1, vau (by omega)]
  refine x_callI 9 C dX3_init_9 (As := []) (rest := [.ref (b + 1), .ref b]) (c_X5_init l D z G1 I1 L1 (b + 1) g3 (by omega)) mt_X5_init rfl km_X3_9 ki_X5_init rfl (Nat.le_of_ble_eq_true rfl) ⟨⟨(Nat.le_of_ble_eq_true rfl), (Nat.le_of_ble_eq_true rfl)⟩, (Nat.le_of_ble_eq_true rfl), (Nat.le_of_ble_eq_true rfl)⟩ (fun v2 n2 G2 I2 L2 hp2 _ => ?_)
  obtain ⟨hv2, hn2, hs2, hG2, hI2, hL2⟩ := hp2
  subst hv2; subst hn2
  refine x_st [.ref (b + 1), .ref b] rfl ?_
  have g4 : G2 (b) = some (3, 0, rN) := by rw [hG2 _ (by omega)]; rw [eG1, va_up_ne _ _ (by omega)]; exact g0
  refine x_putr 12 C dX3_init_12 ff_X3_10 rfl rfl hnm.symm rfl g4 (by omega) (fun G5 eG5 => ?_)
  refine x_aload_n 15 C dX3_init_15 rfl 0 rfl ?_
  refine x_new 16 C dX3_init_16 (by decide) hh_X8 kl_X3_16 kb_X8 kn_X8 hd_X8 (Nat.le_of_ble_eq_true rfl) (Nat.le_of_ble_eq_true rfl) (fun G6 I6 L6 eG6 eI6 eL6 => ?_)
  refine x_dup 19 C dX3_init_19 rfl ?_
  have g8 : G6 (b + 59) = some (8, 0, rN) := by rw [eG6, vau (by omega)]
  refine x_callI 20 C dX3_init_20 (As := []) (rest := [.ref (b + 59), .ref b]) (c_X8_init l D z G6 I6 L6 (b + 59) g8 (by omega)) mt_X8_init rfl km_X3_18 ki_X8_init rfl (Nat.le_of_ble_eq_true rfl) ⟨⟨(Nat.le_of_ble_eq_true rfl), (Nat.le_of_ble_eq_true rfl)⟩, (Nat.le_of_ble_eq_true rfl), (Nat.le_of_ble_eq_true rfl)⟩ (fun v7 n7 G7 I7 L7 hp7 _ => ?_)
  obtain ⟨hv7, hn7, hs7, hG7, hI7, hL7⟩ := hp7
  subst hv7; subst hn7
  refine x_st [.ref (b + 59), .ref b] rfl ?_
  have g9 : G7 (b) = some (3, 0, va_up rN 0 (some (b + 1))) := by rw [hG7 _ (by omega)]; rw [eG6, va_up_ne _ _ (by omega)]; rw [eG5, vau (by omega)]
  refine x_putr 23 C dX3_init_23 ff_X3_19 rfl rfl hnm.symm rfl g9 (by omega) (fun G10 eG10 => ?_)
  refine x_aload_n 26 C dX3_init_26 rfl 0 rfl ?_
  refine x_new 27 C dX3_init_27 (by decide) hh_X0 kl_X3_23 kb_X0 kn_X0 hd_X0 (Nat.le_of_ble_eq_true rfl) (Nat.le_of_ble_eq_true rfl) (fun G11 I11 L11 eG11 eI11 eL11 => ?_)
  refine x_dup 30 C dX3_init_30 rfl ?_
  refine x_callIN 31 C dX3_init_31 (rest := [.ref (b + 66), .ref b]) (c_X0_init l D z (b + 67) G11 I11 L11 (b + 66)) mt_X0_init (by decide) ki_X0_init rfl (Nat.le_of_ble_eq_true rfl) ⟨⟨(Nat.le_of_ble_eq_true rfl), (Nat.le_of_ble_eq_true rfl)⟩, (Nat.le_of_ble_eq_true rfl), (Nat.le_of_ble_eq_true rfl)⟩ (fun v12 n12 G12 I12 L12 hp12 _ => ?_)
  obtain ⟨hn12, hG12, hv12, hI12, hL12⟩ := hp12
  replace hG12 := hG12.symm; replace hI12 := hI12.symm; replace hL12 := hL12.symm; subst hv12; subst hG12; subst hI12; subst hL12; subst hn12
  refine x_st [.ref (b + 66), .ref b] rfl ?_
  have g13 : G11 (b) = some (3, 0, va_up (va_up rN 0 (some (b + 1))) 1 (some (b + 59))) := by rw [eG11, va_up_ne _ _ (by omega)]; rw [eG10, vau (by omega)]
  refine x_putr 34 C dX3_init_34 ff_X3_26 rfl rfl hnm.symm rfl g13 (by omega) (fun G14 eG14 => ?_)
  refine x_aload_n 37 C dX3_init_37 rfl 0 rfl ?_
  refine x_new 38 C dX3_init_38 (by decide) hh_X0 kl_X3_23 kb_X0 kn_X0 hd_X0 (Nat.le_of_ble_eq_true rfl) (Nat.le_of_ble_eq_true rfl) (fun G15 I15 L15 eG15 eI15 eL15 => ?_)
  refine x_dup 41 C dX3_init_41 rfl ?_
  refine x_callIN 42 C dX3_init_42 (rest := [.ref (b + 67), .ref b]) (c_X0_init l D z (b + 68) G15 I15 L15 (b + 67)) mt_X0_init (by decide) ki_X0_init rfl (Nat.le_of_ble_eq_true rfl) ⟨⟨(Nat.le_of_ble_eq_true rfl), (Nat.le_of_ble_eq_true rfl)⟩, (Nat.le_of_ble_eq_true rfl), (Nat.le_of_ble_eq_true rfl)⟩ (fun v16 n16 G16 I16 L16 hp16 _ => ?_)
  obtain ⟨hn16, hG16, hv16, hI16, hL16⟩ := hp16
  replace hG16 := hG16.symm; replace hI16 := hI16.symm; replace hL16 := hL16.symm; subst hv16; subst hG16; subst hI16; subst hL16; subst hn16
  refine x_st [.ref (b + 67), .ref b] rfl ?_
  have g17 : G15 (b) = some (3, 0, va_up (va_up (va_up rN 0 (some (b + 1))) 1 (some (b + 59))) 2 (some (b + 66))) := by rw [eG15, va_up_ne _ _ (by omega)]; rw [eG14, vau (by omega)]
  refine x_putr 45 C dX3_init_45 ff_X3_30 rfl rfl hnm.symm rfl g17 (by omega) (fun G18 eG18 => ?_)
  refine x_wid (k' := 67) (n' := 225) (Nat.le_of_ble_eq_true rfl) (Nat.le_of_ble_eq_true rfl) ?_
  refine x_vret 48 C dX3_init_48 rfl (by omega) ?_
  refine ⟨rfl, rfl, ?_, fun a h1 => by rw [eG18, va_up_ne _ _ (by omega)]; rw [eG15, va_up_ne _ _ (by omega)]; rw [eG14, va_up_ne _ _ (by omega)]; rw [eG11, va_up_ne _ _ (by omega)]; rw [eG10, va_up_ne _ _ (by omega)]; rw [hG7 _ (by omega)]; rw [eG6, va_up_ne _ _ (by omega)]; rw [eG5, va_up_ne _ _ (by omega)]; rw [hG2 _ (by omega)]; rw [eG1, va_up_ne _ _ (by omega)], fun a h1 => by rw [eI15, xzero_row _ _ (by omega)]; rw [eI11, xzero_row _ _ (by omega)]; rw [hI7 _ (by omega)]; rw [eI6, xzero_row _ _ (by omega)]; rw [hI2 _ (by omega)]; rw [eI1, xzero_row _ _ (by omega)], fun a h1 => by rw [eL15, xzero_row _ _ (by omega)]; rw [eL11, xzero_row _ _ (by omega)]; rw [hL7 _ (by omega)]; rw [eL6, xzero_row _ _ (by omega)]; rw [hL2 _ (by omega)]; rw [eL1, xzero_row _ _ (by omega)]⟩
  have g19 : G18 (b) = some (3, 0, va_up (va_up (va_up (va_up rN 0 (some (b + 1))) 1 (some (b + 59))) 2 (some (b + 66))) 3 (some (b + 67))) := by rw [eG18, vau (by omega)]
  have hs20 : shH G18 (b + 1) := shH_congr (fun a h1 h2 => by rw [eG18, va_up_ne _ _ (by omega)]; rw [eG15, va_up_ne _ _ (by omega)]; rw [eG14, va_up_ne _ _ (by omega)]; rw [eG11, va_up_ne _ _ (by omega)]; rw [eG10, va_up_ne _ _ (by omega)]; rw [hG7 _ (by omega)]; rw [eG6, va_up_ne _ _ (by omega)]; rw [eG5, va_up_ne _ _ (by omega)]) hs2
  have hs21 : shO G18 (b + 59) := shO_congr (fun a h1 h2 => by rw [eG18, va_up_ne _ _ (by omega)]; rw [eG15, va_up_ne _ _ (by omega)]; rw [eG14, va_up_ne _ _ (by omega)]; rw [eG11, va_up_ne _ _ (by omega)]; rw [eG10, va_up_ne _ _ (by omega)]) hs7
  have g22 : G18 (b + 66) = some (0, 0, rN) := by rw [eG18, va_up_ne _ _ (by omega)]; rw [eG15, va_up_ne _ _ (by omega)]; rw [eG14, va_up_ne _ _ (by omega)]; rw [eG11, vau (by omega)]
  have g23 : G18 (b + 67) = some (0, 0, rN) := by rw [eG18, va_up_ne _ _ (by omega)]; rw [eG15, vau (by omega)]
  exact ⟨g19, hs20, hs21, g22, g23⟩
theorem dX9_init_0 : decode cX9_init 0 = .ok (.aload_n 0, 1) := by decide +kernel
theorem dX9_init_1 : decode cX9_init 1 = .ok (.invokespecial 1, 3) := by decide +kernel
theorem dX9_init_4 : decode cX9_init 4 = .ok (.aload_n 0, 1) := by decide +kernel
theorem dX9_init_5 : decode cX9_init 5 = .ok (.new 7, 3) := by decide +kernel
theorem dX9_init_8 : decode cX9_init 8 = .ok (.dup, 1) := by decide +kernel
theorem dX9_init_9 : decode cX9_init 9 = .ok (.invokespecial 9, 3) := by decide +kernel
theorem dX9_init_12 : decode cX9_init 12 = .ok (.putfield 10, 3) := by decide +kernel
theorem dX9_init_15 : decode cX9_init 15 = .ok (.aload_n 0, 1) := by decide +kernel
theorem dX9_init_16 : decode cX9_init 16 = .ok (.new 7, 3) := by decide +kernel
theorem dX9_init_19 : decode cX9_init 19 = .ok (.dup, 1) := by decide +kernel
theorem dX9_init_20 : decode cX9_init 20 = .ok (.invokespecial 9, 3) := by decide +kernel
theorem dX9_init_23 : decode cX9_init 23 = .ok (.putfield 16, 3) := by decide +kernel
theorem dX9_init_26 : decode cX9_init 26 = .ok (.aload_n 0, 1) := by decide +kernel
theorem dX9_init_27 : decode cX9_init 27 = .ok (.bipush 8, 2) := by decide +kernel
theorem dX9_init_29 : decode cX9_init 29 = .ok (.newarray .int, 2) := by decide +kernel
theorem dX9_init_31 : decode cX9_init 31 = .ok (.putfield 19, 3) := by decide +kernel
theorem dX9_init_34 : decode cX9_init 34 = .ok (.aload_n 0, 1) := by decide +kernel
theorem dX9_init_35 : decode cX9_init 35 = .ok (.bipush 9, 2) := by decide +kernel
theorem dX9_init_37 : decode cX9_init 37 = .ok (.anewarray 23, 3) := by decide +kernel
theorem dX9_init_40 : decode cX9_init 40 = .ok (.putfield 25, 3) := by decide +kernel
theorem dX9_init_43 : decode cX9_init 43 = .ok (.iconst 0, 1) := by decide +kernel
theorem dX9_init_44 : decode cX9_init 44 = .ok (.istore_n 1, 1) := by decide +kernel
theorem dX9_init_45 : decode cX9_init 45 = .ok (.iload_n 1, 1) := by decide +kernel
theorem dX9_init_46 : decode cX9_init 46 = .ok (.bipush 9, 2) := by decide +kernel
theorem dX9_init_48 : decode cX9_init 48 = .ok (.if_icmp .ge 22, 3) := by decide +kernel
theorem dX9_init_51 : decode cX9_init 51 = .ok (.aload_n 0, 1) := by decide +kernel
theorem dX9_init_52 : decode cX9_init 52 = .ok (.getfield 25, 3) := by decide +kernel
theorem dX9_init_55 : decode cX9_init 55 = .ok (.iload_n 1, 1) := by decide +kernel
theorem dX9_init_56 : decode cX9_init 56 = .ok (.new 23, 3) := by decide +kernel
theorem dX9_init_59 : decode cX9_init 59 = .ok (.dup, 1) := by decide +kernel
theorem dX9_init_60 : decode cX9_init 60 = .ok (.invokespecial 29, 3) := by decide +kernel
theorem dX9_init_63 : decode cX9_init 63 = .ok (.aastore, 1) := by decide +kernel
theorem dX9_init_64 : decode cX9_init 64 = .ok (.iinc 1 1, 3) := by decide +kernel
theorem dX9_init_67 : decode cX9_init 67 = .ok (.goto (-22), 3) := by decide +kernel
theorem dX9_init_70 : decode cX9_init 70 = .ok (.return_, 1) := by decide +kernel
set_option maxHeartbeats 1000000 in
set_option maxRecDepth 100000 in
theorem c_X9_init (l : Launch) (D : xD) (z : Nat) (G : xG) (I : xI) (L : xL) (b : Nat) (g0 : G b = some (9, 0, rN)) (zb : z ≤ b) : xM l D z yX9_init cX9_init 2 none 3 60 37 193 [.ref b] (b + 1) G I L (cPost b 38 (fun G' => shS G' b) G I L) := by
  refine xM.of (by decide) (Nat.le_of_ble_eq_true rfl) (fun p e s m args below meth c C hnm hsz => ?_)
  refine x_lv [(0, .ref b)] rfl ?_
  refine x_aload_n 0 C dX9_init_0 rfl 0 rfl ?_
  refine x_obj 1 C dX9_init_1 km_X9_1 ki_obj kc_obj (Nat.le_of_ble_eq_true rfl) (Nat.le_of_ble_eq_true rfl) ?_
  refine x_aload_n 4 C dX9_init_4 rfl 0 rfl ?_
  refine x_new 5 C dX9_init_5 (by decide) hh_X1 kl_X9_7 kb_X1 kn_X1 hd_X1 (Nat.le_of_ble_eq_true rfl) (Nat.le_of_ble_eq_true rfl) (fun G1 I1 L1 eG1 eI1 eL1 => ?_)
  refine x_dup 8 C dX9_init_8 rfl ?_
  have g3 : G1 (b + 1) = some (1, 0, rN) := by rw [eG1, vau (by omega)]
  refine x_callI 9 C dX9_init_9 (As := []) (rest := [.ref (b + 1), .ref b]) (c_X1_init l D z G1 I1 L1 (b + 1) g3 (by omega)) mt_X1_init rfl km_X9_9 ki_X1_init rfl (Nat.le_of_ble_eq_true rfl) ⟨⟨(Nat.le_of_ble_eq_true rfl), (Nat.le_of_ble_eq_true rfl)⟩, (Nat.le_of_ble_eq_true rfl), (Nat.le_of_ble_eq_true rfl)⟩ (fun v2 n2 G2 I2 L2 hp2 _ => ?_)
  obtain ⟨hv2, hn2, hs2, hG2, hI2, hL2⟩ := hp2
  subst hv2; subst hn2
  refine x_st [.ref (b + 1), .ref b] rfl ?_
  have g4 : G2 (b) = some (9, 0, rN) := by rw [hG2 _ (by omega)]; rw [eG1, va_up_ne _ _ (by omega)]; exact g0
  refine x_putr 12 C dX9_init_12 ff_X9_10 rfl rfl hnm.symm rfl g4 (by omega) (fun G5 eG5 => ?_)
  refine x_aload_n 15 C dX9_init_15 rfl 0 rfl ?_
  refine x_new 16 C dX9_init_16 (by decide) hh_X1 kl_X9_7 kb_X1 kn_X1 hd_X1 (Nat.le_of_ble_eq_true rfl) (Nat.le_of_ble_eq_true rfl) (fun G6 I6 L6 eG6 eI6 eL6 => ?_)
  refine x_dup 19 C dX9_init_19 rfl ?_
  have g8 : G6 (b + 5) = some (1, 0, rN) := by rw [eG6, vau (by omega)]
  refine x_callI 20 C dX9_init_20 (As := []) (rest := [.ref (b + 5), .ref b]) (c_X1_init l D z G6 I6 L6 (b + 5) g8 (by omega)) mt_X1_init rfl km_X9_9 ki_X1_init rfl (Nat.le_of_ble_eq_true rfl) ⟨⟨(Nat.le_of_ble_eq_true rfl), (Nat.le_of_ble_eq_true rfl)⟩, (Nat.le_of_ble_eq_true rfl), (Nat.le_of_ble_eq_true rfl)⟩ (fun v7 n7 G7 I7 L7 hp7 _ => ?_)
  obtain ⟨hv7, hn7, hs7, hG7, hI7, hL7⟩ := hp7
  subst hv7; subst hn7
  refine x_st [.ref (b + 5), .ref b] rfl ?_
  have g9 : G7 (b) = some (9, 0, va_up rN 0 (some (b + 1))) := by rw [hG7 _ (by omega)]; rw [eG6, va_up_ne _ _ (by omega)]; rw [eG5, vau (by omega)]
  refine x_putr 23 C dX9_init_23 ff_X9_16 rfl rfl hnm.symm rfl g9 (by omega) (fun G10 eG10 => ?_)
  refine x_aload_n 26 C dX9_init_26 rfl 0 rfl ?_
  refine x_bipush 27 C (v := 8) dX9_init_27 rfl ?_
  refine x_newa 29 C 0 (N := 8) dX9_init_29 ⟨by decide, rfl⟩ ka_int (fun cA h => h) rfl (by decide) (by decide) (Nat.le_of_ble_eq_true rfl) (Nat.le_of_ble_eq_true rfl) (Nat.le_of_ble_eq_true rfl) (fun G11 I11 L11 eG11 eI11 eL11 => ?_)
  have g12 : G11 (b) = some (9, 0, va_up (va_up rN 0 (some (b + 1))) 1 (some (b + 5))) := by rw [eG11, va_up_ne _ _ (by omega)]; rw [eG10, vau (by omega)]
  refine x_putr 31 C dX9_init_31 ff_X9_19 rfl rfl hnm.symm rfl g12 (by omega) (fun G13 eG13 => ?_)
  refine x_aload_n 34 C dX9_init_34 rfl 0 rfl ?_
  refine x_bipush 35 C (v := 9) dX9_init_35 rfl ?_
  refine x_anew 37 C 25 (N := 9) dX9_init_37 (by decide) kl_X9_23 (by decide) (by decide) (Nat.le_of_ble_eq_true rfl) (Nat.le_of_ble_eq_true rfl) (Nat.le_of_ble_eq_true rfl) (fun G14 I14 L14 eG014 eI14 eL14 => ?_)
  have eG14 : G14 = va_up G13 (b + 10) (some (25, 9, rPart (fun k => some (b + 11 + 3 * k)) 0)) := eG014.trans (by rw [rPart_0])
  have g15 : G14 (b) = some (9, 0, va_up (va_up (va_up rN 0 (some (b + 1))) 1 (some (b + 5))) 2 (some (b + 9))) := by rw [eG14, va_up_ne _ _ (by omega)]; rw [eG13, vau (by omega)]
  refine x_putr 40 C dX9_init_40 ff_X9_25 rfl rfl hnm.symm rfl g15 (by omega) (fun G16 eG16 => ?_)
  refine x_iconst 43 C (v := 0) dX9_init_43 rfl ?_
  refine x_istore_n 44 C [(1, .int 0), (0, .ref b)] dX9_init_44 rfl (by decide) rfl ?_
  refine x_iload_n 45 C dX9_init_45 rfl 0 rfl ?_
  refine x_bipush 46 C (v := 9) dX9_init_46 rfl ?_
  refine x_icmp_ge 48 C 70 dX9_init_48 (by decide) (fun c17 => absurd c17 (by decide)) (fun _ => ?_)
  refine x_aload_n 51 C dX9_init_51 rfl 1 rfl ?_
  have g18 : G16 (b) = some (9, 0, va_up (va_up (va_up (va_up rN 0 (some (b + 1))) 1 (some (b + 5))) 2 (some (b + 9))) 3 (some (b + 10))) := by rw [eG16, vau (by omega)]
  refine x_getr 52 C (b := b + 10) dX9_init_52 ff_X9_25 rfl g18 rfl ?_
  refine x_iload_n 55 C dX9_init_55 rfl 0 rfl ?_
  refine x_new 56 C dX9_init_56 (by decide) hh_X6 kl_X9_23 kb_X6 kn_X6 hd_X6 (Nat.le_of_ble_eq_true rfl) (Nat.le_of_ble_eq_true rfl) (fun G19 I19 L19 eG19 eI19 eL19 => ?_)
  refine x_dup 59 C dX9_init_59 rfl ?_
  have g21 : G19 (b + 11) = some (6, 0, rN) := by rw [eG19, vau (by omega)]
  refine x_callI 60 C dX9_init_60 (As := []) (rest := [.ref (b + 11), .int 0, .ref (b + 10)]) (c_X6_init l D z G19 I19 L19 (b + 11) g21 (by omega)) mt_X6_init rfl km_X9_29 ki_X6_init rfl (Nat.le_of_ble_eq_true rfl) ⟨⟨(Nat.le_of_ble_eq_true rfl), (Nat.le_of_ble_eq_true rfl)⟩, (Nat.le_of_ble_eq_true rfl), (Nat.le_of_ble_eq_true rfl)⟩ (fun v20 n20 G20 I20 L20 hp20 _ => ?_)
  obtain ⟨hv20, hn20, hs20, hG20, hI20, hL20⟩ := hp20
  subst hv20; subst hn20
  refine x_st [.ref (b + 11), .int 0, .ref (b + 10)] rfl ?_
  have g23 : G20 (b + 10) = some (25, 9, rPart (fun k => some (b + 11 + 3 * k)) 0) := by rw [hG20 _ (by omega)]; rw [eG19, va_up_ne _ _ (by omega)]; rw [eG16, va_up_ne _ _ (by omega)]; rw [eG14, vau (by omega)]
  refine x_aast 63 C (j := 0) dX9_init_63 (by decide) g23 hs20.1 (by omega) ⟨by decide, by decide, by decide⟩ (fun G24 eG024 => ?_)
  have eG24 : G24 = va_up G20 (b + 10) (some (25, 9, rPart (fun k => some (b + 11 + 3 * k)) 1)) := eG024.trans (by rw [rPart_up (f := (fun k => some (b + 11 + 3 * k))) (congrArg some (by omega))])
  refine x_iinc 64 C [(1, .int 1), (0, .ref b)] dX9_init_64 0 rfl (by decide) (by decide) rfl ?_
  refine x_goto 67 C 45 dX9_init_67 (by decide) ?_
  refine x_iload_n 45 C dX9_init_45 rfl 0 rfl ?_
  refine x_bipush 46 C (v := 9) dX9_init_46 rfl ?_
  refine x_icmp_ge 48 C 70 dX9_init_48 (by decide) (fun c25 => absurd c25 (by decide)) (fun _ => ?_)
  refine x_aload_n 51 C dX9_init_51 rfl 1 rfl ?_
  have g26 : G24 (b) = some (9, 0, va_up (va_up (va_up (va_up rN 0 (some (b + 1))) 1 (some (b + 5))) 2 (some (b + 9))) 3 (some (b + 10))) := by rw [eG24, va_up_ne _ _ (by omega)]; rw [hG20 _ (by omega)]; rw [eG19, va_up_ne _ _ (by omega)]; rw [eG16, vau (by omega)]
  refine x_getr 52 C (b := b + 10) dX9_init_52 ff_X9_25 rfl g26 rfl ?_
  refine x_iload_n 55 C dX9_init_55 rfl 0 rfl ?_
  refine x_new 56 C dX9_init_56 (by decide) hh_X6 kl_X9_23 kb_X6 kn_X6 hd_X6 (Nat.le_of_ble_eq_true rfl) (Nat.le_of_ble_eq_true rfl) (fun G27 I27 L27 eG27 eI27 eL27 => ?_)
  refine x_dup 59 C dX9_init_59 rfl ?_
  have g29 : G27 (b + 14) = some (6, 0, rN) := by rw [eG27, vau (by omega)]
  refine x_callI 60 C dX9_init_60 (As := []) (rest := [.ref (b + 14), .int 1, .ref (b + 10)]) (c_X6_init l D z G27 I27 L27 (b + 14) g29 (by omega)) mt_X6_init rfl km_X9_29 ki_X6_init rfl (Nat.le_of_ble_eq_true rfl) ⟨⟨(Nat.le_of_ble_eq_true rfl), (Nat.le_of_ble_eq_true rfl)⟩, (Nat.le_of_ble_eq_true rfl), (Nat.le_of_ble_eq_true rfl)⟩ (fun v28 n28 G28 I28 L28 hp28 _ => ?_)
  obtain ⟨hv28, hn28, hs28, hG28, hI28, hL28⟩ := hp28
  subst hv28; subst hn28
  refine x_st [.ref (b + 14), .int 1, .ref (b + 10)] rfl ?_
  have g31 : G28 (b + 10) = some (25, 9, rPart (fun k => some (b + 11 + 3 * k)) 1) := by rw [hG28 _ (by omega)]; rw [eG27, va_up_ne _ _ (by omega)]; rw [eG24, vau (by omega)]
  refine x_aast 63 C (j := 1) dX9_init_63 (by decide) g31 hs28.1 (by omega) ⟨by decide, by decide, by decide⟩ (fun G32 eG032 => ?_)
  have eG32 : G32 = va_up G28 (b + 10) (some (25, 9, rPart (fun k => some (b + 11 + 3 * k)) 2)) := eG032.trans (by rw [rPart_up (f := (fun k => some (b + 11 + 3 * k))) (congrArg some (by omega))])
  refine x_iinc 64 C [(1, .int 2), (0, .ref b)] dX9_init_64 0 rfl (by decide) (by decide) rfl ?_
  refine x_goto 67 C 45 dX9_init_67 (by decide) ?_
  refine x_iload_n 45 C dX9_init_45 rfl 0 rfl ?_
  refine x_bipush 46 C (v := 9) dX9_init_46 rfl ?_
  refine x_icmp_ge 48 C 70 dX9_init_48 (by decide) (fun c33 => absurd c33 (by decide)) (fun _ => ?_)
  refine x_aload_n 51 C dX9_init_51 rfl 1 rfl ?_
  have g34 : G32 (b) = some (9, 0, va_up (va_up (va_up (va_up rN 0 (some (b + 1))) 1 (some (b + 5))) 2 (some (b + 9))) 3 (some (b + 10))) := by rw [eG32, va_up_ne _ _ (by omega)]; rw [hG28 _ (by omega)]; rw [eG27, va_up_ne _ _ (by omega)]; rw [eG24, va_up_ne _ _ (by omega)]; rw [hG20 _ (by omega)]; rw [eG19, va_up_ne _ _ (by omega)]; rw [eG16, vau (by omega)]
  refine x_getr 52 C (b := b + 10) dX9_init_52 ff_X9_25 rfl g34 rfl ?_
  refine x_iload_n 55 C dX9_init_55 rfl 0 rfl ?_
  refine x_new 56 C dX9_init_56 (by decide) hh_X6 kl_X9_23 kb_X6 kn_X6 hd_X6 (Nat.le_of_ble_eq_true rfl) (Nat.le_of_ble_eq_true rfl) (fun G35 I35 L35 eG35 eI35 eL35 => ?_)
  refine x_dup 59 C dX9_init_59 rfl ?_
  have g37 : G35 (b + 17) = some (6, 0, rN) := by rw [eG35, vau (by omega)]
  refine x_callI 60 C dX9_init_60 (As := []) (rest := [.ref (b + 17), .int 2, .ref (b + 10)]) (c_X6_init l D z G35 I35 L35 (b + 17) g37 (by omega)) mt_X6_init rfl km_X9_29 ki_X6_init rfl (Nat.le_of_ble_eq_true rfl) ⟨⟨(Nat.le_of_ble_eq_true rfl), (Nat.le_of_ble_eq_true rfl)⟩, (Nat.le_of_ble_eq_true rfl), (Nat.le_of_ble_eq_true rfl)⟩ (fun v36 n36 G36 I36 L36 hp36 _ => ?_)
  obtain ⟨hv36, hn36, hs36, hG36, hI36, hL36⟩ := hp36
  subst hv36; subst hn36
  refine x_st [.ref (b + 17), .int 2, .ref (b + 10)] rfl ?_
  have g39 : G36 (b + 10) = some (25, 9, rPart (fun k => some (b + 11 + 3 * k)) 2) := by rw [hG36 _ (by omega)]; rw [eG35, va_up_ne _ _ (by omega)]; rw [eG32, vau (by omega)]
  refine x_aast 63 C (j := 2) dX9_init_63 (by decide) g39 hs36.1 (by omega) ⟨by decide, by decide, by decide⟩ (fun G40 eG040 => ?_)
  have eG40 : G40 = va_up G36 (b + 10) (some (25, 9, rPart (fun k => some (b + 11 + 3 * k)) 3)) := eG040.trans (by rw [rPart_up (f := (fun k => some (b + 11 + 3 * k))) (congrArg some (by omega))])
  refine x_iinc 64 C [(1, .int 3), (0, .ref b)] dX9_init_64 0 rfl (by decide) (by decide) rfl ?_
  refine x_goto 67 C 45 dX9_init_67 (by decide) ?_
  refine x_iload_n 45 C dX9_init_45 rfl 0 rfl ?_
  refine x_bipush 46 C (v := 9) dX9_init_46 rfl ?_
  refine x_icmp_ge 48 C 70 dX9_init_48 (by decide) (fun c41 => absurd c41 (by decide)) (fun _ => ?_)
  refine x_aload_n 51 C dX9_init_51 rfl 1 rfl ?_
  have g42 : G40 (b) = some (9, 0, va_up (va_up (va_up (va_up rN 0 (some (b + 1))) 1 (some (b + 5))) 2 (some (b + 9))) 3 (some (b + 10))) := by rw [eG40, va_up_ne _ _ (by omega)]; rw [hG36 _ (by omega)]; rw [eG35, va_up_ne _ _ (by omega)]; rw [eG32, va_up_ne _ _ (by omega)]; rw [hG28 _ (by omega)]; rw [eG27, va_up_ne _ _ (by omega)]; rw [eG24, va_up_ne _ _ (by omega)]; rw [hG20 _ (by omega)]; rw [eG19, va_up_ne _ _ (by omega)]; rw [eG16, vau (by omega)]
  refine x_getr 52 C (b := b + 10) dX9_init_52 ff_X9_25 rfl g42 rfl ?_
  refine x_iload_n 55 C dX9_init_55 rfl 0 rfl ?_
  refine x_new 56 C dX9_init_56 (by decide) hh_X6 kl_X9_23 kb_X6 kn_X6 hd_X6 (Nat.le_of_ble_eq_true rfl) (Nat.le_of_ble_eq_true rfl) (fun G43 I43 L43 eG43 eI43 eL43 => ?_)
  refine x_dup 59 C dX9_init_59 rfl ?_
  have g45 : G43 (b + 20) = some (6, 0, rN) := by rw [eG43, vau (by omega)]
  refine x_callI 60 C dX9_init_60 (As := []) (rest := [.ref (b + 20), .int 3, .ref (b + 10)]) (c_X6_init l D z G43 I43 L43 (b + 20) g45 (by omega)) mt_X6_init rfl km_X9_29 ki_X6_init rfl (Nat.le_of_ble_eq_true rfl) ⟨⟨(Nat.le_of_ble_eq_true rfl), (Nat.le_of_ble_eq_true rfl)⟩, (Nat.le_of_ble_eq_true rfl), (Nat.le_of_ble_eq_true rfl)⟩ (fun v44 n44 G44 I44 L44 hp44 _ => ?_)
  obtain ⟨hv44, hn44, hs44, hG44, hI44, hL44⟩ := hp44
  subst hv44; subst hn44
  refine x_st [.ref (b + 20), .int 3, .ref (b + 10)] rfl ?_
  have g47 : G44 (b + 10) = some (25, 9, rPart (fun k => some (b + 11 + 3 * k)) 3) := by rw [hG44 _ (by omega)]; rw [eG43, va_up_ne _ _ (by omega)]; rw [eG40, vau (by omega)]
  refine x_aast 63 C (j := 3) dX9_init_63 (by decide) g47 hs44.1 (by omega) ⟨by decide, by decide, by decide⟩ (fun G48 eG048 => ?_)
  have eG48 : G48 = va_up G44 (b + 10) (some (25, 9, rPart (fun k => some (b + 11 + 3 * k)) 4)) := eG048.trans (by rw [rPart_up (f := (fun k => some (b + 11 + 3 * k))) (congrArg some (by omega))])
  refine x_iinc 64 C [(1, .int 4), (0, .ref b)] dX9_init_64 0 rfl (by decide) (by decide) rfl ?_
  refine x_goto 67 C 45 dX9_init_67 (by decide) ?_
  refine x_iload_n 45 C dX9_init_45 rfl 0 rfl ?_
  refine x_bipush 46 C (v := 9) dX9_init_46 rfl ?_
  refine x_icmp_ge 48 C 70 dX9_init_48 (by decide) (fun c49 => absurd c49 (by decide)) (fun _ => ?_)
  refine x_aload_n 51 C dX9_init_51 rfl 1 rfl ?_
  have g50 : G48 (b) = some (9, 0, va_up (va_up (va_up (va_up rN 0 (some (b + 1))) 1 (some (b + 5))) 2 (some (b + 9))) 3 (some (b + 10))) := by rw [eG48, va_up_ne _ _ (by omega)]; rw [hG44 _ (by omega)]; rw [eG43, va_up_ne _ _ (by omega)]; rw [eG40, va_up_ne _ _ (by omega)]; rw [hG36 _ (by omega)]; rw [eG35, va_up_ne _ _ (by omega)]; rw [eG32, va_up_ne _ _ (by omega)]; rw [hG28 _ (by omega)]; rw [eG27, va_up_ne _ _ (by omega)]; rw [eG24, va_up_ne _ _ (by omega)]; rw [hG20 _ (by omega)]; rw [eG19, va_up_ne _ _ (by omega)]; rw [eG16, vau (by omega)]
  refine x_getr 52 C (b := b + 10) dX9_init_52 ff_X9_25 rfl g50 rfl ?_
  refine x_iload_n 55 C dX9_init_55 rfl 0 rfl ?_
  refine x_new 56 C dX9_init_56 (by decide) hh_X6 kl_X9_23 kb_X6 kn_X6 hd_X6 (Nat.le_of_ble_eq_true rfl) (Nat.le_of_ble_eq_true rfl) (fun G51 I51 L51 eG51 eI51 eL51 => ?_)
  refine x_dup 59 C dX9_init_59 rfl ?_
  have g53 : G51 (b + 23) = some (6, 0, rN) := by rw [eG51, vau (by omega)]
  refine x_callI 60 C dX9_init_60 (As := []) (rest := [.ref (b + 23), .int 4, .ref (b + 10)]) (c_X6_init l D z G51 I51 L51 (b + 23) g53 (by omega)) mt_X6_init rfl km_X9_29 ki_X6_init rfl (Nat.le_of_ble_eq_true rfl) ⟨⟨(Nat.le_of_ble_eq_true rfl), (Nat.le_of_ble_eq_true rfl)⟩, (Nat.le_of_ble_eq_true rfl), (Nat.le_of_ble_eq_true rfl)⟩ (fun v52 n52 G52 I52 L52 hp52 _ => ?_)
  obtain ⟨hv52, hn52, hs52, hG52, hI52, hL52⟩ := hp52
  subst hv52; subst hn52
  refine x_st [.ref (b + 23), .int 4, .ref (b + 10)] rfl ?_
  have g55 : G52 (b + 10) = some (25, 9, rPart (fun k => some (b + 11 + 3 * k)) 4) := by rw [hG52 _ (by omega)]; rw [eG51, va_up_ne _ _ (by omega)]; rw [eG48, vau (by omega)]
  refine x_aast 63 C (j := 4) dX9_init_63 (by decide) g55 hs52.1 (by omega) ⟨by decide, by decide, by decide⟩ (fun G56 eG056 => ?_)
  have eG56 : G56 = va_up G52 (b + 10) (some (25, 9, rPart (fun k => some (b + 11 + 3 * k)) 5)) := eG056.trans (by rw [rPart_up (f := (fun k => some (b + 11 + 3 * k))) (congrArg some (by omega))])
  refine x_iinc 64 C [(1, .int 5), (0, .ref b)] dX9_init_64 0 rfl (by decide) (by decide) rfl ?_
  refine x_goto 67 C 45 dX9_init_67 (by decide) ?_
  refine x_iload_n 45 C dX9_init_45 rfl 0 rfl ?_
  refine x_bipush 46 C (v := 9) dX9_init_46 rfl ?_
  refine x_icmp_ge 48 C 70 dX9_init_48 (by decide) (fun c57 => absurd c57 (by decide)) (fun _ => ?_)
  refine x_aload_n 51 C dX9_init_51 rfl 1 rfl ?_
  have g58 : G56 (b) = some (9, 0, va_up (va_up (va_up (va_up rN 0 (some (b + 1))) 1 (some (b + 5))) 2 (some (b + 9))) 3 (some (b + 10))) := by rw [eG56, va_up_ne _ _ (by omega)]; rw [hG52 _ (by omega)]; rw [eG51, va_up_ne _ _ (by omega)]; rw [eG48, va_up_ne _ _ (by omega)]; rw [hG44 _ (by omega)]; rw [eG43, va_up_ne _ _ (by omega)]; rw [eG40, va_up_ne _ _ (by omega)]; rw [hG36 _ (by omega)]; rw [eG35, va_up_ne _ _ (by omega)]; rw [eG32, va_up_ne _ _ (by omega)]; rw [hG28 _ (by omega)]; rw [eG27, va_up_ne _ _ (by omega)]; rw [eG24, va_up_ne _ _ (by omega)]; rw [hG20 _ (by omega)]; rw [eG19, va_up_ne _ _ (by omega)]; rw [eG16, vau (by omega)]
  refine x_getr 52 C (b := b + 10) dX9_init_52 ff_X9_25 rfl g58 rfl ?_
  refine x_iload_n 55 C dX9_init_55 rfl 0 rfl ?_
  refine x_new 56 C dX9_init_56 (by decide) hh_X6 kl_X9_23 kb_X6 kn_X6 hd_X6 (Nat.le_of_ble_eq_true rfl) (Nat.le_of_ble_eq_true rfl) (fun G59 I59 L59 eG59 eI59 eL59 => ?_)
  refine x_dup 59 C dX9_init_59 rfl ?_
  have g61 : G59 (b + 26) = some (6, 0, rN) := by rw [eG59, vau (by omega)]
  refine x_callI 60 C dX9_init_60 (As := []) (rest := [.ref (b + 26), .int 5, .ref (b + 10)]) (c_X6_init l D z G59 I59 L59 (b + 26) g61 (by omega)) mt_X6_init rfl km_X9_29 ki_X6_init rfl (Nat.le_of_ble_eq_true rfl) ⟨⟨(Nat.le_of_ble_eq_true rfl), (Nat.le_of_ble_eq_true rfl)⟩, (Nat.le_of_ble_eq_true rfl), (Nat.le_of_ble_eq_true rfl)⟩ (fun v60 n60 G60 I60 L60 hp60 _ => ?_)
  obtain ⟨hv60, hn60, hs60, hG60, hI60, hL60⟩ := hp60
  subst hv60; subst hn60
  refine x_st [.ref (b + 26), .int 5, .ref (b + 10)] rfl ?_
  have g63 : G60 (b + 10) = some (25, 9, rPart (fun k => some (b + 11 + 3 * k)) 5) := by rw [hG60 _ (by omega)]; rw [eG59, va_up_ne _ _ (by omega)]; rw [eG56, vau (by omega)]
  refine x_aast 63 C (j := 5) dX9_init_63 (by decide) g63 hs60.1 (by omega) ⟨by decide, by decide, by decide⟩ (fun G64 eG064 => ?_)
  have eG64 : G64 = va_up G60 (b + 10) (some (25, 9, rPart (fun k => some (b + 11 + 3 * k)) 6)) := eG064.trans (by rw [rPart_up (f := (fun k => some (b + 11 + 3 * k))) (congrArg some (by omega))])
  refine x_iinc 64 C [(1, .int 6), (0, .ref b)] dX9_init_64 0 rfl (by decide) (by decide) rfl ?_
  refine x_goto 67 C 45 dX9_init_67 (by decide) ?_
  refine x_iload_n 45 C dX9_init_45 rfl 0 rfl ?_
  refine x_bipush 46 C (v := 9) dX9_init_46 rfl ?_
  refine x_icmp_ge 48 C 70 dX9_init_48 (by decide) (fun c65 => absurd c65 (by decide)) (fun _ => ?_)
  refine x_aload_n 51 C dX9_init_51 rfl 1 rfl ?_
  have g66 : G64 (b) = some (9, 0, va_up (va_up (va_up (va_up rN 0 (some (b + 1))) 1 (some (b + 5))) 2 (some (b + 9))) 3 (some (b + 10))) := by rw [eG64, va_up_ne _ _ (by omega)]; rw [hG60 _ (by omega)]; rw [eG59, va_up_ne _ _ (by omega)]; rw [eG56, va_up_ne _ _ (by omega)]; rw [hG52 _ (by omega)]; rw [eG51, va_up_ne _ _ (by omega)]; rw [eG48, va_up_ne _ _ (by omega)]; rw [hG44 _ (by omega)]; rw [eG43, va_up_ne _ _ (by omega)]; rw [eG40, va_up_ne _ _ (by omega)]; rw [hG36 _ (by omega)]; rw [eG35, va_up_ne _ _ (by omega)]; rw [eG32, va_up_ne _ _ (by omega)]; rw [hG28 _ (by omega)]; rw [eG27, va_up_ne _ _ (by omega)]; rw [eG24, va_up_ne _ _ (by omega)]; rw [hG20 _ (by omega)]; rw [eG19, va_up_ne _ _ (by omega)]; rw [eG16, vau (by omega)]
  refine x_getr 52 C (b := b + 10) dX9_init_52 ff_X9_25 rfl g66 rfl ?_
  refine x_iload_n 55 C dX9_init_55 rfl 0 rfl ?_
  refine x_new 56 C dX9_init_56 (by decide) hh_X6 kl_X9_23 kb_X6 kn_X6 hd_X6 (Nat.le_of_ble_eq_true rfl) (Nat.le_of_ble_eq_true rfl) (fun G67 I67 L67 eG67 eI67 eL67 => ?_)
  refine x_dup 59 C dX9_init_59 rfl ?_
  have g69 : G67 (b + 29) = some (6, 0, rN) := by rw [eG67, vau (by omega)]
  refine x_callI 60 C dX9_init_60 (As := []) (rest := [.ref (b + 29), .int 6, .ref (b + 10)]) (c_X6_init l D z G67 I67 L67 (b + 29) g69 (by omega)) mt_X6_init rfl km_X9_29 ki_X6_init rfl (Nat.le_of_ble_eq_true rfl) ⟨⟨(Nat.le_of_ble_eq_true rfl), (Nat.le_of_ble_eq_true rfl)⟩, (Nat.le_of_ble_eq_true rfl), (Nat.le_of_ble_eq_true rfl)⟩ (fun v68 n68 G68 I68 L68 hp68 _ => ?_)
  obtain ⟨hv68, hn68, hs68, hG68, hI68, hL68⟩ := hp68
  subst hv68; subst hn68
  refine x_st [.ref (b + 29), .int 6, .ref (b + 10)] rfl ?_
  have g71 : G68 (b + 10) = some (25, 9, rPart (fun k => some (b + 11 + 3 * k)) 6) := by rw [hG68 _ (by omega)]; rw [eG67, va_up_ne _ _ (by omega)]; rw [eG64, vau (by omega)]
  refine x_aast 63 C (j := 6) dX9_init_63 (by decide) g71 hs68.1 (by omega) ⟨by decide, by decide, by decide⟩ (fun G72 eG072 => ?_)
  have eG72 : G72 = va_up G68 (b + 10) (some (25, 9, rPart (fun k => some (b + 11 + 3 * k)) 7)) := eG072.trans (by rw [rPart_up (f := (fun k => some (b + 11 + 3 * k))) (congrArg some (by omega))])
  refine x_iinc 64 C [(1, .int 7), (0, .ref b)] dX9_init_64 0 rfl (by decide) (by decide) rfl ?_
  refine x_goto 67 C 45 dX9_init_67 (by decide) ?_
  refine x_iload_n 45 C dX9_init_45 rfl 0 rfl ?_
  refine x_bipush 46 C (v := 9) dX9_init_46 rfl ?_
  refine x_icmp_ge 48 C 70 dX9_init_48 (by decide) (fun c73 => absurd c73 (by decide)) (fun _ => ?_)
  refine x_aload_n 51 C dX9_init_51 rfl 1 rfl ?_
  have g74 : G72 (b) = some (9, 0, va_up (va_up (va_up (va_up rN 0 (some (b + 1))) 1 (some (b + 5))) 2 (some (b + 9))) 3 (some (b + 10))) := by rw [eG72, va_up_ne _ _ (by omega)]; rw [hG68 _ (by omega)]; rw [eG67, va_up_ne _ _ (by omega)]; rw [eG64, va_up_ne _ _ (by omega)]; rw [hG60 _ (by omega)]; rw [eG59, va_up_ne _ _ (by omega)]; rw [eG56, va_up_ne _ _ (by omega)]; rw [hG52 _ (by omega)]; rw [eG51, va_up_ne _ _ (by omega)]; rw [eG48, va_up_ne _ _ (by omega)]; rw [hG44 _ (by omega)]; rw [eG43, va_up_ne _ _ (by omega)]; rw [eG40, va_up_ne _ _ (by omega)]; rw [hG36 _ (by omega)]; rw [eG35, va_up_ne _ _ (by omega)]; rw [eG32, va_up_ne _ _ (by omega)]; rw [hG28 _ (by omega)]; rw [eG27, va_up_ne _ _ (by omega)]; rw [eG24, va_up_ne _ _ (by omega)]; rw [hG20 _ (by omega)]; rw [eG19, va_up_ne _ _ (by omega)]; rw [eG16, vau (by omega)]
  refine x_getr 52 C (b := b + 10) dX9_init_52 ff_X9_25 rfl g74 rfl ?_
  refine x_iload_n 55 C dX9_init_55 rfl 0 rfl ?_
  refine x_new 56 C dX9_init_56 (by decide) hh_X6 kl_X9_23 kb_X6 kn_X6 hd_X6 (Nat.le_of_ble_eq_true rfl) (Nat.le_of_ble_eq_true rfl) (fun G75 I75 L75 eG75 eI75 eL75 => ?_)
  refine x_dup 59 C dX9_init_59 rfl ?_
  have g77 : G75 (b + 32) = some (6, 0, rN) := by rw [eG75, vau (by omega)]
  refine x_callI 60 C dX9_init_60 (As := []) (rest := [.ref (b + 32), .int 7, .ref (b + 10)]) (c_X6_init l D z G75 I75 L75 (b + 32) g77 (by omega)) mt_X6_init rfl km_X9_29 ki_X6_init rfl (Nat.le_of_ble_eq_true rfl) ⟨⟨(Nat.le_of_ble_eq_true rfl), (Nat.le_of_ble_eq_true rfl)⟩, (Nat.le_of_ble_eq_true rfl), (Nat.le_of_ble_eq_true rfl)⟩ (fun v76 n76 G76 I76 L76 hp76 _ => ?_)
  obtain ⟨hv76, hn76, hs76, hG76, hI76, hL76⟩ := hp76
  subst hv76; subst hn76
  refine x_st [.ref (b + 32), .int 7, .ref (b + 10)] rfl ?_
  have g79 : G76 (b + 10) = some (25, 9, rPart (fun k => some (b + 11 + 3 * k)) 7) := by rw [hG76 _ (by omega)]; rw [eG75, va_up_ne _ _ (by omega)]; rw [eG72, vau (by omega)]
  refine x_aast 63 C (j := 7) dX9_init_63 (by decide) g79 hs76.1 (by omega) ⟨by decide, by decide, by decide⟩ (fun G80 eG080 => ?_)
  have eG80 : G80 = va_up G76 (b + 10) (some (25, 9, rPart (fun k => some (b + 11 + 3 * k)) 8)) := eG080.trans (by rw [rPart_up (f := (fun k => some (b + 11 + 3 * k))) (congrArg some (by omega))])
  refine x_iinc 64 C [(1, .int 8), (0, .ref b)] dX9_init_64 0 rfl (by decide) (by decide) rfl ?_
  refine x_goto 67 C 45 dX9_init_67 (by decide) ?_
  refine x_iload_n 45 C dX9_init_45 rfl 0 rfl ?_
  refine x_bipush 46 C (v := 9) dX9_init_46 rfl ?_
  refine x_icmp_ge 48 C 70 dX9_init_48 (by decide) (fun c81 => absurd c81 (by decide)) (fun _ => ?_)
  refine x_aload_n 51 C dX9_init_51 rfl 1 rfl ?_
  have g82 : G80 (b) = some (9, 0, va_up (va_up (va_up (va_up rN 0 (some (b + 1))) 1 (some (b + 5))) 2 (some (b + 9))) 3 (some (b + 10))) := by rw [eG80, va_up_ne _ _ (by omega)]; rw [hG76 _ (by omega)]; rw [eG75, va_up_ne _ _ (by omega)]; rw [eG72, va_up_ne _ _ (by omega)]; rw [hG68 _ (by omega)]; rw [eG67, va_up_ne _ _ (by omega)]; rw [eG64, va_up_ne _ _ (by omega)]; rw [hG60 _ (by omega)]; rw [eG59, va_up_ne _ _ (by omega)]; rw [eG56, va_up_ne _ _ (by omega)]; rw [hG52 _ (by omega)]; rw [eG51, va_up_ne _ _ (by omega)]; rw [eG48, va_up_ne _ _ (by omega)]; rw [hG44 _ (by omega)]; rw [eG43, va_up_ne _ _ (by omega)]; rw [eG40, va_up_ne _ _ (by omega)]; rw [hG36 _ (by omega)]; rw [eG35, va_up_ne _ _ (by omega)]; rw [eG32, va_up_ne _ _ (by omega)]; rw [hG28 _ (by omega)]; rw [eG27, va_up_ne _ _ (by omega)]; rw [eG24, va_up_ne _ _ (by omega)]; rw [hG20 _ (by omega)]; rw [eG19, va_up_ne _ _ (by omega)]; rw [eG16, vau (by omega)]
  refine x_getr 52 C (b := b + 10) dX9_init_52 ff_X9_25 rfl g82 rfl ?_
  refine x_iload_n 55 C dX9_init_55 rfl 0 rfl ?_
  refine x_new 56 C dX9_init_56 (by decide) hh_X6 kl_X9_23 kb_X6 kn_X6 hd_X6 (Nat.le_of_ble_eq_true rfl) (Nat.le_of_ble_eq_true rfl) (fun G83 I83 L83 eG83 eI83 eL83 => ?_)
  refine x_dup 59 C dX9_init_59 rfl ?_
  have g85 : G83 (b + 35) = some (6, 0, rN) := by rw [eG83, vau (by omega)]
  refine x_callI 60 C dX9_init_60 (As := []) (rest := [.ref (b + 35), .int 8, .ref (b + 10)]) (c_X6_init l D z G83 I83 L83 (b + 35) g85 (by omega)) mt_X6_init rfl km_X9_29 ki_X6_init rfl (Nat.le_of_ble_eq_true rfl) ⟨⟨(Nat.le_of_ble_eq_true rfl), (Nat.le_of_ble_eq_true rfl)⟩, (Nat.le_of_ble_eq_true rfl), (Nat.le_of_ble_eq_true rfl)⟩ (fun v84 n84 G84 I84 L84 hp84 _ => ?_)
  obtain ⟨hv84, hn84, hs84, hG84, hI84, hL84⟩ := hp84
  subst hv84; subst hn84
  refine x_st [.ref (b + 35), .int 8, .ref (b + 10)] rfl ?_
  have g87 : G84 (b + 10) = some (25, 9, rPart (fun k => some (b + 11 + 3 * k)) 8) := by rw [hG84 _ (by omega)]; rw [eG83, va_up_ne _ _ (by omega)]; rw [eG80, vau (by omega)]
  refine x_aast 63 C (j := 8) dX9_init_63 (by decide) g87 hs84.1 (by omega) ⟨by decide, by decide, by decide⟩ (fun G88 eG088 => ?_)
  have eG88 : G88 = va_up G84 (b + 10) (some (25, 9, rPart (fun k => some (b + 11 + 3 * k)) 9)) := eG088.trans (by rw [rPart_up (f := (fun k => some (b + 11 + 3 * k))) (congrArg some (by omega))])
  refine x_iinc 64 C [(1, .int 9), (0, .ref b)] dX9_init_64 0 rfl (by decide) (by decide) rfl ?_
  refine x_goto 67 C 45 dX9_init_67 (by decide) ?_
  refine x_iload_n 45 C dX9_init_45 rfl 0 rfl ?_
  refine x_bipush 46 C (v := 9) dX9_init_46 rfl ?_
  refine x_icmp_ge 48 C 70 dX9_init_48 (by decide) (fun _ => ?_) (fun c89 => absurd (by decide) c89)
  refine x_wid (k' := 37) (n' := 193) (Nat.le_of_ble_eq_true rfl) (Nat.le_of_ble_eq_true rfl) ?_
  refine x_vret 70 C dX9_init_70 rfl (by omega) ?_
  refine ⟨rfl, rfl, ?_, fun a h1 => by rw [eG88, va_up_ne _ _ (by omega)]; rw [hG84 _ (by omega)]; rw [eG83, va_up_ne _ _ (by omega)]; rw [eG80, va_up_ne _ _ (by omega)]; rw [hG76 _ (by omega)]; rw [eG75, va_up_ne _ _ (by omega)]; rw [eG72, va_up_ne _ _ (by omega)]; rw [hG68 _ (by omega)]; rw [eG67, va_up_ne _ _ (by omega)]; rw [eG64, va_up_ne _ _ (by omega)]; rw [hG60 _ (by omega)]; rw [eG59, va_up_ne _ _ (by omega)]; rw [eG56, va_up_ne _ _ (by omega)]; rw [hG52 _ (by omega)]; rw [eG51, va_up_ne _ _ (by omega)]; rw [eG48, va_up_ne _ _ (by omega)]; rw [hG44 _ (by omega)]; rw [eG43, va_up_ne _ _ (by omega)]; rw [eG40, va_up_ne _ _ (by omega)]; rw [hG36 _ (by omega)]; rw [eG35, va_up_ne _ _ (by omega)]; rw [eG32, va_up_ne _ _ (by omega)]; rw [hG28 _ (by omega)]; rw [eG27, va_up_ne _ _ (by omega)]; rw [eG24, va_up_ne _ _ (by omega)]; rw [hG20 _ (by omega)]; rw [eG19, va_up_ne _ _ (by omega)]; rw [eG16, va_up_ne _ _ (by omega)]; rw [eG14, va_up_ne _ _ (by omega)]; rw [eG13, va_up_ne _ _ (by omega)]; rw [eG11, va_up_ne _ _ (by omega)]; rw [eG10, va_up_ne _ _ (by omega)]; rw [hG7 _ (by omega)]; rw [eG6, va_up_ne _ _ (by omega)]; rw [eG5, va_up_ne _ _ (by omega)]; rw [hG2 _ (by omega)]; rw [eG1, va_up_ne _ _ (by omega)], fun a h1 => by rw [hI84 _ (by omega)]; rw [eI83, xzero_row _ _ (by omega)]; rw [hI76 _ (by omega)]; rw [eI75, xzero_row _ _ (by omega)]; rw [hI68 _ (by omega)]; rw [eI67, xzero_row _ _ (by omega)]; rw [hI60 _ (by omega)]; rw [eI59, xzero_row _ _ (by omega)]; rw [hI52 _ (by omega)]; rw [eI51, xzero_row _ _ (by omega)]; rw [hI44 _ (by omega)]; rw [eI43, xzero_row _ _ (by omega)]; rw [hI36 _ (by omega)]; rw [eI35, xzero_row _ _ (by omega)]; rw [hI28 _ (by omega)]; rw [eI27, xzero_row _ _ (by omega)]; rw [hI20 _ (by omega)]; rw [eI19, xzero_row _ _ (by omega)]; rw [eI14, xzero_row _ _ (by omega)]; rw [eI11, xzero_row _ _ (by omega)]; rw [hI7 _ (by omega)]; rw [eI6, xzero_row _ _ (by omega)]; rw [hI2 _ (by omega)]; rw [eI1, xzero_row _ _ (by omega)], fun a h1 => by rw [hL84 _ (by omega)]; rw [eL83, xzero_row _ _ (by omega)]; rw [hL76 _ (by omega)]; rw [eL75, xzero_row _ _ (by omega)]; rw [hL68 _ (by omega)]; rw [eL67, xzero_row _ _ (by omega)]; rw [hL60 _ (by omega)]; rw [eL59, xzero_row _ _ (by omega)]; rw [hL52 _ (by omega)]; rw [eL51, xzero_row _ _ (by omega)]; rw [hL44 _ (by omega)]; rw [eL43, xzero_row _ _ (by omega)]; rw [hL36 _ (by omega)]; rw [eL35, xzero_row _ _ (by omega)]; rw [hL28 _ (by omega)]; rw [eL27, xzero_row _ _ (by omega)]; rw [hL20 _ (by omega)]; rw [eL19, xzero_row _ _ (by omega)]; rw [eL14, xzero_row _ _ (by omega)]; rw [eL11, xzero_row _ _ (by omega)]; rw [hL7 _ (by omega)]; rw [eL6, xzero_row _ _ (by omega)]; rw [hL2 _ (by omega)]; rw [eL1, xzero_row _ _ (by omega)]⟩
  have g90 : G88 (b) = some (9, 0, va_up (va_up (va_up (va_up rN 0 (some (b + 1))) 1 (some (b + 5))) 2 (some (b + 9))) 3 (some (b + 10))) := by rw [eG88, va_up_ne _ _ (by omega)]; rw [hG84 _ (by omega)]; rw [eG83, va_up_ne _ _ (by omega)]; rw [eG80, va_up_ne _ _ (by omega)]; rw [hG76 _ (by omega)]; rw [eG75, va_up_ne _ _ (by omega)]; rw [eG72, va_up_ne _ _ (by omega)]; rw [hG68 _ (by omega)]; rw [eG67, va_up_ne _ _ (by omega)]; rw [eG64, va_up_ne _ _ (by omega)]; rw [hG60 _ (by omega)]; rw [eG59, va_up_ne _ _ (by omega)]; rw [eG56, va_up_ne _ _ (by omega)]; rw [hG52 _ (by omega)]; rw [eG51, va_up_ne _ _ (by omega)]; rw [eG48, va_up_ne _ _ (by omega)]; rw [hG44 _ (by omega)]; rw [eG43, va_up_ne _ _ (by omega)]; rw [eG40, va_up_ne _ _ (by omega)]; rw [hG36 _ (by omega)]; rw [eG35, va_up_ne _ _ (by omega)]; rw [eG32, va_up_ne _ _ (by omega)]; rw [hG28 _ (by omega)]; rw [eG27, va_up_ne _ _ (by omega)]; rw [eG24, va_up_ne _ _ (by omega)]; rw [hG20 _ (by omega)]; rw [eG19, va_up_ne _ _ (by omega)]; rw [eG16, vau (by omega)]
  have hs91 : shE G88 (b + 1) := shE_congr (fun a h1 h2 => by rw [eG88, va_up_ne _ _ (by omega)]; rw [hG84 _ (by omega)]; rw [eG83, va_up_ne _ _ (by omega)]; rw [eG80, va_up_ne _ _ (by omega)]; rw [hG76 _ (by omega)]; rw [eG75, va_up_ne _ _ (by omega)]; rw [eG72, va_up_ne _ _ (by omega)]; rw [hG68 _ (by omega)]; rw [eG67, va_up_ne _ _ (by omega)]; rw [eG64, va_up_ne _ _ (by omega)]; rw [hG60 _ (by omega)]; rw [eG59, va_up_ne _ _ (by omega)]; rw [eG56, va_up_ne _ _ (by omega)]; rw [hG52 _ (by omega)]; rw [eG51, va_up_ne _ _ (by omega)]; rw [eG48, va_up_ne _ _ (by omega)]; rw [hG44 _ (by omega)]; rw [eG43, va_up_ne _ _ (by omega)]; rw [eG40, va_up_ne _ _ (by omega)]; rw [hG36 _ (by omega)]; rw [eG35, va_up_ne _ _ (by omega)]; rw [eG32, va_up_ne _ _ (by omega)]; rw [hG28 _ (by omega)]; rw [eG27, va_up_ne _ _ (by omega)]; rw [eG24, va_up_ne _ _ (by omega)]; rw [hG20 _ (by omega)]; rw [eG19, va_up_ne _ _ (by omega)]; rw [eG16, va_up_ne _ _ (by omega)]; rw [eG14, va_up_ne _ _ (by omega)]; rw [eG13, va_up_ne _ _ (by omega)]; rw [eG11, va_up_ne _ _ (by omega)]; rw [eG10, va_up_ne _ _ (by omega)]; rw [hG7 _ (by omega)]; rw [eG6, va_up_ne _ _ (by omega)]; rw [eG5, va_up_ne _ _ (by omega)]) hs2
  have hs92 : shE G88 (b + 5) := shE_congr (fun a h1 h2 => by rw [eG88, va_up_ne _ _ (by omega)]; rw [hG84 _ (by omega)]; rw [eG83, va_up_ne _ _ (by omega)]; rw [eG80, va_up_ne _ _ (by omega)]; rw [hG76 _ (by omega)]; rw [eG75, va_up_ne _ _ (by omega)]; rw [eG72, va_up_ne _ _ (by omega)]; rw [hG68 _ (by omega)]; rw [eG67, va_up_ne _ _ (by omega)]; rw [eG64, va_up_ne _ _ (by omega)]; rw [hG60 _ (by omega)]; rw [eG59, va_up_ne _ _ (by omega)]; rw [eG56, va_up_ne _ _ (by omega)]; rw [hG52 _ (by omega)]; rw [eG51, va_up_ne _ _ (by omega)]; rw [eG48, va_up_ne _ _ (by omega)]; rw [hG44 _ (by omega)]; rw [eG43, va_up_ne _ _ (by omega)]; rw [eG40, va_up_ne _ _ (by omega)]; rw [hG36 _ (by omega)]; rw [eG35, va_up_ne _ _ (by omega)]; rw [eG32, va_up_ne _ _ (by omega)]; rw [hG28 _ (by omega)]; rw [eG27, va_up_ne _ _ (by omega)]; rw [eG24, va_up_ne _ _ (by omega)]; rw [hG20 _ (by omega)]; rw [eG19, va_up_ne _ _ (by omega)]; rw [eG16, va_up_ne _ _ (by omega)]; rw [eG14, va_up_ne _ _ (by omega)]; rw [eG13, va_up_ne _ _ (by omega)]; rw [eG11, va_up_ne _ _ (by omega)]; rw [eG10, va_up_ne _ _ (by omega)]) hs7
  have g93 : G88 (b + 9) = some (20, 8, rN) := by rw [eG88, va_up_ne _ _ (by omega)]; rw [hG84 _ (by omega)]; rw [eG83, va_up_ne _ _ (by omega)]; rw [eG80, va_up_ne _ _ (by omega)]; rw [hG76 _ (by omega)]; rw [eG75, va_up_ne _ _ (by omega)]; rw [eG72, va_up_ne _ _ (by omega)]; rw [hG68 _ (by omega)]; rw [eG67, va_up_ne _ _ (by omega)]; rw [eG64, va_up_ne _ _ (by omega)]; rw [hG60 _ (by omega)]; rw [eG59, va_up_ne _ _ (by omega)]; rw [eG56, va_up_ne _ _ (by omega)]; rw [hG52 _ (by omega)]; rw [eG51, va_up_ne _ _ (by omega)]; rw [eG48, va_up_ne _ _ (by omega)]; rw [hG44 _ (by omega)]; rw [eG43, va_up_ne _ _ (by omega)]; rw [eG40, va_up_ne _ _ (by omega)]; rw [hG36 _ (by omega)]; rw [eG35, va_up_ne _ _ (by omega)]; rw [eG32, va_up_ne _ _ (by omega)]; rw [hG28 _ (by omega)]; rw [eG27, va_up_ne _ _ (by omega)]; rw [eG24, va_up_ne _ _ (by omega)]; rw [hG20 _ (by omega)]; rw [eG19, va_up_ne _ _ (by omega)]; rw [eG16, va_up_ne _ _ (by omega)]; rw [eG14, va_up_ne _ _ (by omega)]; rw [eG13, va_up_ne _ _ (by omega)]; rw [eG11, vau (by omega)]
  have g94 : G88 (b + 10) = some (25, 9, rPart (fun k => some (b + 11 + 3 * k)) 9) := by rw [eG88, vau (by omega)]
  have hs95 : shP G88 (b + 11) := shP_congr (fun a h1 h2 => by rw [eG88, va_up_ne _ _ (by omega)]; rw [hG84 _ (by omega)]; rw [eG83, va_up_ne _ _ (by omega)]; rw [eG80, va_up_ne _ _ (by omega)]; rw [hG76 _ (by omega)]; rw [eG75, va_up_ne _ _ (by omega)]; rw [eG72, va_up_ne _ _ (by omega)]; rw [hG68 _ (by omega)]; rw [eG67, va_up_ne _ _ (by omega)]; rw [eG64, va_up_ne _ _ (by omega)]; rw [hG60 _ (by omega)]; rw [eG59, va_up_ne _ _ (by omega)]; rw [eG56, va_up_ne _ _ (by omega)]; rw [hG52 _ (by omega)]; rw [eG51, va_up_ne _ _ (by omega)]; rw [eG48, va_up_ne _ _ (by omega)]; rw [hG44 _ (by omega)]; rw [eG43, va_up_ne _ _ (by omega)]; rw [eG40, va_up_ne _ _ (by omega)]; rw [hG36 _ (by omega)]; rw [eG35, va_up_ne _ _ (by omega)]; rw [eG32, va_up_ne _ _ (by omega)]; rw [hG28 _ (by omega)]; rw [eG27, va_up_ne _ _ (by omega)]; rw [eG24, va_up_ne _ _ (by omega)]) hs20
  have hs96 : shP G88 (b + 14) := shP_congr (fun a h1 h2 => by rw [eG88, va_up_ne _ _ (by omega)]; rw [hG84 _ (by omega)]; rw [eG83, va_up_ne _ _ (by omega)]; rw [eG80, va_up_ne _ _ (by omega)]; rw [hG76 _ (by omega)]; rw [eG75, va_up_ne _ _ (by omega)]; rw [eG72, va_up_ne _ _ (by omega)]; rw [hG68 _ (by omega)]; rw [eG67, va_up_ne _ _ (by omega)]; rw [eG64, va_up_ne _ _ (by omega)]; rw [hG60 _ (by omega)]; rw [eG59, va_up_ne _ _ (by omega)]; rw [eG56, va_up_ne _ _ (by omega)]; rw [hG52 _ (by omega)]; rw [eG51, va_up_ne _ _ (by omega)]; rw [eG48, va_up_ne _ _ (by omega)]; rw [hG44 _ (by omega)]; rw [eG43, va_up_ne _ _ (by omega)]; rw [eG40, va_up_ne _ _ (by omega)]; rw [hG36 _ (by omega)]; rw [eG35, va_up_ne _ _ (by omega)]; rw [eG32, va_up_ne _ _ (by omega)]) hs28
  have hs97 : shP G88 (b + 17) := shP_congr (fun a h1 h2 => by rw [eG88, va_up_ne _ _ (by omega)]; rw [hG84 _ (by omega)]; rw [eG83, va_up_ne _ _ (by omega)]; rw [eG80, va_up_ne _ _ (by omega)]; rw [hG76 _ (by omega)]; rw [eG75, va_up_ne _ _ (by omega)]; rw [eG72, va_up_ne _ _ (by omega)]; rw [hG68 _ (by omega)]; rw [eG67, va_up_ne _ _ (by omega)]; rw [eG64, va_up_ne _ _ (by omega)]; rw [hG60 _ (by omega)]; rw [eG59, va_up_ne _ _ (by omega)]; rw [eG56, va_up_ne _ _ (by omega)]; rw [hG52 _ (by omega)]; rw [eG51, va_up_ne _ _ (by omega)]; rw [eG48, va_up_ne _ _ (by omega)]; rw [hG44 _ (by omega)]; rw [eG43, va_up_ne _ _ (by omega)]; rw [eG40, va_up_ne _ _ (by omega)]) hs36
  have hs98 : shP G88 (b + 20) := shP_congr (fun a h1 h2 => by rw [eG88, va_up_ne _ _ (by omega)]; rw [hG84 _ (by omega)]; rw [eG83, va_up_ne _ _ (by omega)]; rw [eG80, va_up_ne _ _ (by omega)]; rw [hG76 _ (by omega)]; rw [eG75, va_up_ne _ _ (by omega)]; rw [eG72, va_up_ne _ _ (by omega)]; rw [hG68 _ (by omega)]; rw [eG67, va_up_ne _ _ (by omega)]; rw [eG64, va_up_ne _ _ (by omega)]; rw [hG60 _ (by omega)]; rw [eG59, va_up_ne _ _ (by omega)]; rw [eG56, va_up_ne _ _ (by omega)]; rw [hG52 _ (by omega)]; rw [eG51, va_up_ne _ _ (by omega)]; rw [eG48, va_up_ne _ _ (by omega)]) hs44
  have hs99 : shP G88 (b + 23) := shP_congr (fun a h1 h2 => by rw [eG88, va_up_ne _ _ (by omega)]; rw [hG84 _ (by omega)]; rw [eG83, va_up_ne _ _ (by omega)]; rw [eG80, va_up_ne _ _ (by omega)]; rw [hG76 _ (by omega)]; rw [eG75, va_up_ne _ _ (by omega)]; rw [eG72, va_up_ne _ _ (by omega)]; rw [hG68 _ (by omega)]; rw [eG67, va_up_ne _ _ (by omega)]; rw [eG64, va_up_ne _ _ (by omega)]; rw [hG60 _ (by omega)]; rw [eG59, va_up_ne _ _ (by omega)]; rw [eG56, va_up_ne _ _ (by omega)]) hs52
  have hs100 : shP G88 (b + 26) := shP_congr (fun a h1 h2 => by rw [eG88, va_up_ne _ _ (by omega)]; rw [hG84 _ (by omega)]; rw [eG83, va_up_ne _ _ (by omega)]; rw [eG80, va_up_ne _ _ (by omega)]; rw [hG76 _ (by omega)]; rw [eG75, va_up_ne _ _ (by omega)]; rw [eG72, va_up_ne _ _ (by omega)]; rw [hG68 _ (by omega)]; rw [eG67, va_up_ne _ _ (by omega)]; rw [eG64, va_up_ne _ _ (by omega)]) hs60
  have hs101 : shP G88 (b + 29) := shP_congr (fun a h1 h2 => by rw [eG88, va_up_ne _ _ (by omega)]; rw [hG84 _ (by omega)]; rw [eG83, va_up_ne _ _ (by omega)]; rw [eG80, va_up_ne _ _ (by omega)]; rw [hG76 _ (by omega)]; rw [eG75, va_up_ne _ _ (by omega)]; rw [eG72, va_up_ne _ _ (by omega)]) hs68
  have hs102 : shP G88 (b + 32) := shP_congr (fun a h1 h2 => by rw [eG88, va_up_ne _ _ (by omega)]; rw [hG84 _ (by omega)]; rw [eG83, va_up_ne _ _ (by omega)]; rw [eG80, va_up_ne _ _ (by omega)]) hs76
  have hs103 : shP G88 (b + 35) := shP_congr (fun a h1 h2 => by rw [eG88, va_up_ne _ _ (by omega)]) hs84
  refine ⟨g90, fun e he => ?_, g93, g94, fun k hk => ?_⟩
  · rcases (show e = 0 ∨ e = 1 by omega) with rfl | rfl
    · exact hs91
    · exact hs92
  · rcases (show k = 0 ∨ k = 1 ∨ k = 2 ∨ k = 3 ∨ k = 4 ∨ k = 5 ∨ k = 6 ∨ k = 7 ∨ k = 8 by omega) with rfl | rfl | rfl | rfl | rfl | rfl | rfl | rfl | rfl
    · exact hs95
    · exact hs96
    · exact hs97
    · exact hs98
    · exact hs99
    · exact hs100
    · exact hs101
    · exact hs102
    · exact hs103
theorem dX4_init_0 : decode cX4_init 0 = .ok (.aload_n 0, 1) := by decide +kernel
theorem dX4_init_1 : decode cX4_init 1 = .ok (.invokespecial 1, 3) := by decide +kernel
theorem dX4_init_4 : decode cX4_init 4 = .ok (.aload_n 0, 1) := by decide +kernel
theorem dX4_init_5 : decode cX4_init 5 = .ok (.iconst 4, 1) := by decide +kernel
theorem dX4_init_6 : decode cX4_init 6 = .ok (.anewarray 9, 3) := by decide +kernel
theorem dX4_init_9 : decode cX4_init 9 = .ok (.putfield 11, 3) := by decide +kernel
theorem dX4_init_12 : decode cX4_init 12 = .ok (.iconst 0, 1) := by decide +kernel
theorem dX4_init_13 : decode cX4_init 13 = .ok (.istore_n 1, 1) := by decide +kernel
theorem dX4_init_14 : decode cX4_init 14 = .ok (.iload_n 1, 1) := by decide +kernel
theorem dX4_init_15 : decode cX4_init 15 = .ok (.iconst 4, 1) := by decide +kernel
theorem dX4_init_16 : decode cX4_init 16 = .ok (.if_icmp .ge 22, 3) := by decide +kernel
theorem dX4_init_19 : decode cX4_init 19 = .ok (.aload_n 0, 1) := by decide +kernel
theorem dX4_init_20 : decode cX4_init 20 = .ok (.getfield 11, 3) := by decide +kernel
theorem dX4_init_23 : decode cX4_init 23 = .ok (.iload_n 1, 1) := by decide +kernel
theorem dX4_init_24 : decode cX4_init 24 = .ok (.new 9, 3) := by decide +kernel
theorem dX4_init_27 : decode cX4_init 27 = .ok (.dup, 1) := by decide +kernel
theorem dX4_init_28 : decode cX4_init 28 = .ok (.invokespecial 15, 3) := by decide +kernel
theorem dX4_init_31 : decode cX4_init 31 = .ok (.aastore, 1) := by decide +kernel
theorem dX4_init_32 : decode cX4_init 32 = .ok (.iinc 1 1, 3) := by decide +kernel
theorem dX4_init_35 : decode cX4_init 35 = .ok (.goto (-21), 3) := by decide +kernel
theorem dX4_init_38 : decode cX4_init 38 = .ok (.return_, 1) := by decide +kernel
set_option maxHeartbeats 1000000 in
set_option maxRecDepth 100000 in
theorem c_X4_init (l : Launch) (D : xD) (z : Nat) (G : xG) (I : xI) (L : xL) (b : Nat) (g0 : G b = some (4, 0, rN)) (zb : z ≤ b) : xM l D z yX4_init cX4_init 2 none 4 81 153 796 [.ref b] (b + 1) G I L (cPost b 154 (fun G' => shHi G' b) G I L) := by
  refine xM.of (by decide) (Nat.le_of_ble_eq_true rfl) (fun p e s m args below meth c C hnm hsz => ?_)
  refine x_lv [(0, .ref b)] rfl ?_
  refine x_aload_n 0 C dX4_init_0 rfl 0 rfl ?_
  refine x_obj 1 C dX4_init_1 km_X4_1 ki_obj kc_obj (Nat.le_of_ble_eq_true rfl) (Nat.le_of_ble_eq_true rfl) ?_
  refine x_aload_n 4 C dX4_init_4 rfl 0 rfl ?_
  refine x_iconst 5 C (v := 4) dX4_init_5 rfl ?_
  refine x_anew 6 C 26 (N := 4) dX4_init_6 (by decide) kl_X4_9 (by decide) (by decide) (Nat.le_of_ble_eq_true rfl) (Nat.le_of_ble_eq_true rfl) (Nat.le_of_ble_eq_true rfl) (fun G1 I1 L1 eG01 eI1 eL1 => ?_)
  have eG1 : G1 = va_up G (b + 1) (some (26, 4, rPart (fun k => some (b + 2 + 38 * k)) 0)) := eG01.trans (by rw [rPart_0])
  have g2 : G1 (b) = some (4, 0, rN) := by rw [eG1, va_up_ne _ _ (by omega)]; exact g0
  refine x_putr 9 C dX4_init_9 ff_X4_11 rfl rfl hnm.symm rfl g2 (by omega) (fun G3 eG3 => ?_)
  refine x_iconst 12 C (v := 0) dX4_init_12 rfl ?_
  refine x_istore_n 13 C [(1, .int 0), (0, .ref b)] dX4_init_13 rfl (by decide) rfl ?_
  refine x_iload_n 14 C dX4_init_14 rfl 0 rfl ?_
  refine x_iconst 15 C (v := 4) dX4_init_15 rfl ?_
  refine x_icmp_ge 16 C 38 dX4_init_16 (by decide) (fun c4 => absurd c4 (by decide)) (fun _ => ?_)
  refine x_aload_n 19 C dX4_init_19 rfl 1 rfl ?_
  have g5 : G3 (b) = some (4, 0, va_up rN 0 (some (b + 1))) := by rw [eG3, vau (by omega)]
  refine x_getr 20 C (b := b + 1) dX4_init_20 ff_X4_11 rfl g5 rfl ?_
  refine x_iload_n 23 C dX4_init_23 rfl 0 rfl ?_
  refine x_new 24 C dX4_init_24 (by decide) hh_X9 kl_X4_9 kb_X9 kn_X9 hd_X9 (Nat.le_of_ble_eq_true rfl) (Nat.le_of_ble_eq_true rfl) (fun G6 I6 L6 eG6 eI6 eL6 => ?_)
  refine x_dup 27 C dX4_init_27 rfl ?_
  have g8 : G6 (b + 2) = some (9, 0, rN) := by rw [eG6, vau (by omega)]
  refine x_callI 28 C dX4_init_28 (As := []) (rest := [.ref (b + 2), .int 0, .ref (b + 1)]) (c_X9_init l D z G6 I6 L6 (b + 2) g8 (by omega)) mt_X9_init rfl km_X4_15 ki_X9_init rfl (Nat.le_of_ble_eq_true rfl) ⟨⟨(Nat.le_of_ble_eq_true rfl), (Nat.le_of_ble_eq_true rfl)⟩, (Nat.le_of_ble_eq_true rfl), (Nat.le_of_ble_eq_true rfl)⟩ (fun v7 n7 G7 I7 L7 hp7 _ => ?_)
  obtain ⟨hv7, hn7, hs7, hG7, hI7, hL7⟩ := hp7
  subst hv7; subst hn7
  refine x_st [.ref (b + 2), .int 0, .ref (b + 1)] rfl ?_
  have g10 : G7 (b + 1) = some (26, 4, rPart (fun k => some (b + 2 + 38 * k)) 0) := by rw [hG7 _ (by omega)]; rw [eG6, va_up_ne _ _ (by omega)]; rw [eG3, va_up_ne _ _ (by omega)]; rw [eG1, vau (by omega)]
  refine x_aast 31 C (j := 0) dX4_init_31 (by decide) g10 hs7.1 (by omega) ⟨by decide, by decide, by decide⟩ (fun G11 eG011 => ?_)
  have eG11 : G11 = va_up G7 (b + 1) (some (26, 4, rPart (fun k => some (b + 2 + 38 * k)) 1)) := eG011.trans (by rw [rPart_up (f := (fun k => some (b + 2 + 38 * k))) (congrArg some (by omega))])
  refine x_iinc 32 C [(1, .int 1), (0, .ref b)] dX4_init_32 0 rfl (by decide) (by decide) rfl ?_
  refine x_goto 35 C 14 dX4_init_35 (by decide) ?_
  refine x_iload_n 14 C dX4_init_14 rfl 0 rfl ?_
  refine x_iconst 15 C (v := 4) dX4_init_15 rfl ?_
  refine x_icmp_ge 16 C 38 dX4_init_16 (by decide) (fun c12 => absurd c12 (by decide)) (fun _ => ?_)
  refine x_aload_n 19 C dX4_init_19 rfl 1 rfl ?_
  have g13 : G11 (b) = some (4, 0, va_up rN 0 (some (b + 1))) := by rw [eG11, va_up_ne _ _ (by omega)]; rw [hG7 _ (by omega)]; rw [eG6, va_up_ne _ _ (by omega)]; rw [eG3, vau (by omega)]
  refine x_getr 20 C (b := b + 1) dX4_init_20 ff_X4_11 rfl g13 rfl ?_
  refine x_iload_n 23 C dX4_init_23 rfl 0 rfl ?_
  refine x_new 24 C dX4_init_24 (by decide) hh_X9 kl_X4_9 kb_X9 kn_X9 hd_X9 (Nat.le_of_ble_eq_true rfl) (Nat.le_of_ble_eq_true rfl) (fun G14 I14 L14 eG14 eI14 eL14 => ?_)
  refine x_dup 27 C dX4_init_27 rfl ?_
  have g16 : G14 (b + 40) = some (9, 0, rN) := by rw [eG14, vau (by omega)]
  refine x_callI 28 C dX4_init_28 (As := []) (rest := [.ref (b + 40), .int 1, .ref (b + 1)]) (c_X9_init l D z G14 I14 L14 (b + 40) g16 (by omega)) mt_X9_init rfl km_X4_15 ki_X9_init rfl (Nat.le_of_ble_eq_true rfl) ⟨⟨(Nat.le_of_ble_eq_true rfl), (Nat.le_of_ble_eq_true rfl)⟩, (Nat.le_of_ble_eq_true rfl), (Nat.le_of_ble_eq_true rfl)⟩ (fun v15 n15 G15 I15 L15 hp15 _ => ?_)
  obtain ⟨hv15, hn15, hs15, hG15, hI15, hL15⟩ := hp15
  subst hv15; subst hn15
  refine x_st [.ref (b + 40), .int 1, .ref (b + 1)] rfl ?_
  have g18 : G15 (b + 1) = some (26, 4, rPart (fun k => some (b + 2 + 38 * k)) 1) := by rw [hG15 _ (by omega)]; rw [eG14, va_up_ne _ _ (by omega)]; rw [eG11, vau (by omega)]
  refine x_aast 31 C (j := 1) dX4_init_31 (by decide) g18 hs15.1 (by omega) ⟨by decide, by decide, by decide⟩ (fun G19 eG019 => ?_)
  have eG19 : G19 = va_up G15 (b + 1) (some (26, 4, rPart (fun k => some (b + 2 + 38 * k)) 2)) := eG019.trans (by rw [rPart_up (f := (fun k => some (b + 2 + 38 * k))) (congrArg some (by omega))])
  refine x_iinc 32 C [(1, .int 2), (0, .ref b)] dX4_init_32 0 rfl (by decide) (by decide) rfl ?_
  refine x_goto 35 C 14 dX4_init_35 (by decide) ?_
  refine x_iload_n 14 C dX4_init_14 rfl 0 rfl ?_
  refine x_iconst 15 C (v := 4) dX4_init_15 rfl ?_
  refine x_icmp_ge 16 C 38 dX4_init_16 (by decide) (fun c20 => absurd c20 (by decide)) (fun _ => ?_)
  refine x_aload_n 19 C dX4_init_19 rfl 1 rfl ?_
  have g21 : G19 (b) = some (4, 0, va_up rN 0 (some (b + 1))) := by rw [eG19, va_up_ne _ _ (by omega)]; rw [hG15 _ (by omega)]; rw [eG14, va_up_ne _ _ (by omega)]; rw [eG11, va_up_ne _ _ (by omega)]; rw [hG7 _ (by omega)]; rw [eG6, va_up_ne _ _ (by omega)]; rw [eG3, vau (by omega)]
  refine x_getr 20 C (b := b + 1) dX4_init_20 ff_X4_11 rfl g21 rfl ?_
  refine x_iload_n 23 C dX4_init_23 rfl 0 rfl ?_
  refine x_new 24 C dX4_init_24 (by decide) hh_X9 kl_X4_9 kb_X9 kn_X9 hd_X9 (Nat.le_of_ble_eq_true rfl) (Nat.le_of_ble_eq_true rfl) (fun G22 I22 L22 eG22 eI22 eL22 => ?_)
  refine x_dup 27 C dX4_init_27 rfl ?_
  have g24 : G22 (b + 78) = some (9, 0, rN) := by rw [eG22, vau (by omega)]
  refine x_callI 28 C dX4_init_28 (As := []) (rest := [.ref (b + 78), .int 2, .ref (b + 1)]) (c_X9_init l D z G22 I22 L22 (b + 78) g24 (by omega)) mt_X9_init rfl km_X4_15 ki_X9_init rfl (Nat.le_of_ble_eq_true rfl) ⟨⟨(Nat.le_of_ble_eq_true rfl), (Nat.le_of_ble_eq_true rfl)⟩, (Nat.le_of_ble_eq_true rfl), (Nat.le_of_ble_eq_true rfl)⟩ (fun v23 n23 G23 I23 L23 hp23 _ => ?_)
  obtain ⟨hv23, hn23, hs23, hG23, hI23, hL23⟩ := hp23
  subst hv23; subst hn23
  refine x_st [.ref (b + 78), .int 2, .ref (b + 1)] rfl ?_
  have g26 : G23 (b + 1) = some (26, 4, rPart (fun k => some (b + 2 + 38 * k)) 2) := by rw [hG23 _ (by omega)]; rw [eG22, va_up_ne _ _ (by omega)]; rw [eG19, vau (by omega)]
  refine x_aast 31 C (j := 2) dX4_init_31 (by decide) g26 hs23.1 (by omega) ⟨by decide, by decide, by decide⟩ (fun G27 eG027 => ?_)
  have eG27 : G27 = va_up G23 (b + 1) (some (26, 4, rPart (fun k => some (b + 2 + 38 * k)) 3)) := eG027.trans (by rw [rPart_up (f := (fun k => some (b + 2 + 38 * k))) (congrArg some (by omega))])
  refine x_iinc 32 C [(1, .int 3), (0, .ref b)] dX4_init_32 0 rfl (by decide) (by decide) rfl ?_
  refine x_goto 35 C 14 dX4_init_35 (by decide) ?_
  refine x_iload_n 14 C dX4_init_14 rfl 0 rfl ?_
  refine x_iconst 15 C (v := 4) dX4_init_15 rfl ?_
  refine x_icmp_ge 16 C 38 dX4_init_16 (by decide) (fun c28 => absurd c28 (by decide)) (fun _ => ?_)
  refine x_aload_n 19 C dX4_init_19 rfl 1 rfl ?_
  have g29 : G27 (b) = some (4, 0, va_up rN 0 (some (b + 1))) := by rw [eG27, va_up_ne _ _ (by omega)]; rw [hG23 _ (by omega)]; rw [eG22, va_up_ne _ _ (by omega)]; rw [eG19, va_up_ne _ _ (by omega)]; rw [hG15 _ (by omega)]; rw [eG14, va_up_ne _ _ (by omega)]; rw [eG11, va_up_ne _ _ (by omega)]; rw [hG7 _ (by omega)]; rw [eG6, va_up_ne _ _ (by omega)]; rw [eG3, vau (by omega)]
  refine x_getr 20 C (b := b + 1) dX4_init_20 ff_X4_11 rfl g29 rfl ?_
  refine x_iload_n 23 C dX4_init_23 rfl 0 rfl ?_
  refine x_new 24 C dX4_init_24 (by decide) hh_X9 kl_X4_9 kb_X9 kn_X9 hd_X9 (Nat.le_of_ble_eq_true rfl) (Nat.le_of_ble_eq_true rfl) (fun G30 I30 L30 eG30 eI30 eL30 => ?_)
  refine x_dup 27 C dX4_init_27 rfl ?_
  have g32 : G30 (b + 116) = some (9, 0, rN) := by rw [eG30, vau (by omega)]
  refine x_callI 28 C dX4_init_28 (As := []) (rest := [.ref (b + 116), .int 3, .ref (b + 1)]) (c_X9_init l D z G30 I30 L30 (b + 116) g32 (by omega)) mt_X9_init rfl km_X4_15 ki_X9_init rfl (Nat.le_of_ble_eq_true rfl) ⟨⟨(Nat.le_of_ble_eq_true rfl), (Nat.le_of_ble_eq_true rfl)⟩, (Nat.le_of_ble_eq_true rfl), (Nat.le_of_ble_eq_true rfl)⟩ (fun v31 n31 G31 I31 L31 hp31 _ => ?_)
  obtain ⟨hv31, hn31, hs31, hG31, hI31, hL31⟩ := hp31
  subst hv31; subst hn31
  refine x_st [.ref (b + 116), .int 3, .ref (b + 1)] rfl ?_
  have g34 : G31 (b + 1) = some (26, 4, rPart (fun k => some (b + 2 + 38 * k)) 3) := by rw [hG31 _ (by omega)]; rw [eG30, va_up_ne _ _ (by omega)]; rw [eG27, vau (by omega)]
  refine x_aast 31 C (j := 3) dX4_init_31 (by decide) g34 hs31.1 (by omega) ⟨by decide, by decide, by decide⟩ (fun G35 eG035 => ?_)
  have eG35 : G35 = va_up G31 (b + 1) (some (26, 4, rPart (fun k => some (b + 2 + 38 * k)) 4)) := eG035.trans (by rw [rPart_up (f := (fun k => some (b + 2 + 38 * k))) (congrArg some (by omega))])
  refine x_iinc 32 C [(1, .int 4), (0, .ref b)] dX4_init_32 0 rfl (by decide) (by decide) rfl ?_
  refine x_goto 35 C 14 dX4_init_35 (by decide) ?_
  refine x_iload_n 14 C dX4_init_14 rfl 0 rfl ?_
  refine x_iconst 15 C (v := 4) dX4_init_15 rfl ?_
  refine x_icmp_ge 16 C 38 dX4_init_16 (by decide) (fun _ => ?_) (fun c36 => absurd (by decide) c36)
  refine x_wid (k' := 153) (n' := 796) (Nat.le_of_ble_eq_true rfl) (Nat.le_of_ble_eq_true rfl) ?_
  refine x_vret 38 C dX4_init_38 rfl (by omega) ?_
  refine ⟨rfl, rfl, ?_, fun a h1 => by rw [eG35, va_up_ne _ _ (by omega)]; rw [hG31 _ (by omega)]; rw [eG30, va_up_ne _ _ (by omega)]; rw [eG27, va_up_ne _ _ (by omega)]; rw [hG23 _ (by omega)]; rw [eG22, va_up_ne _ _ (by omega)]; rw [eG19, va_up_ne _ _ (by omega)]; rw [hG15 _ (by omega)]; rw [eG14, va_up_ne _ _ (by omega)]; rw [eG11, va_up_ne _ _ (by omega)]; rw [hG7 _ (by omega)]; rw [eG6, va_up_ne _ _ (by omega)]; rw [eG3, va_up_ne _ _ (by omega)]; rw [eG1, va_up_ne _ _ (by omega)], fun a h1 => by rw [hI31 _ (by omega)]; rw [eI30, xzero_row _ _ (by omega)]; rw [hI23 _ (by omega)]; rw [eI22, xzero_row _ _ (by omega)]; rw [hI15 _ (by omega)]; rw [eI14, xzero_row _ _ (by omega)]; rw [hI7 _ (by omega)]; rw [eI6, xzero_row _ _ (by omega)]; rw [eI1, xzero_row _ _ (by omega)], fun a h1 => by rw [hL31 _ (by omega)]; rw [eL30, xzero_row _ _ (by omega)]; rw [hL23 _ (by omega)]; rw [eL22, xzero_row _ _ (by omega)]; rw [hL15 _ (by omega)]; rw [eL14, xzero_row _ _ (by omega)]; rw [hL7 _ (by omega)]; rw [eL6, xzero_row _ _ (by omega)]; rw [eL1, xzero_row _ _ (by omega)]⟩
  have g37 : G35 (b) = some (4, 0, va_up rN 0 (some (b + 1))) := by rw [eG35, va_up_ne _ _ (by omega)]; rw [hG31 _ (by omega)]; rw [eG30, va_up_ne _ _ (by omega)]; rw [eG27, va_up_ne _ _ (by omega)]; rw [hG23 _ (by omega)]; rw [eG22, va_up_ne _ _ (by omega)]; rw [eG19, va_up_ne _ _ (by omega)]; rw [hG15 _ (by omega)]; rw [eG14, va_up_ne _ _ (by omega)]; rw [eG11, va_up_ne _ _ (by omega)]; rw [hG7 _ (by omega)]; rw [eG6, va_up_ne _ _ (by omega)]; rw [eG3, vau (by omega)]
  have g38 : G35 (b + 1) = some (26, 4, rPart (fun k => some (b + 2 + 38 * k)) 4) := by rw [eG35, vau (by omega)]
  have hs39 : shS G35 (b + 2) := shS_congr (fun a h1 h2 => by rw [eG35, va_up_ne _ _ (by omega)]; rw [hG31 _ (by omega)]; rw [eG30, va_up_ne _ _ (by omega)]; rw [eG27, va_up_ne _ _ (by omega)]; rw [hG23 _ (by omega)]; rw [eG22, va_up_ne _ _ (by omega)]; rw [eG19, va_up_ne _ _ (by omega)]; rw [hG15 _ (by omega)]; rw [eG14, va_up_ne _ _ (by omega)]; rw [eG11, va_up_ne _ _ (by omega)]) hs7
  have hs40 : shS G35 (b + 40) := shS_congr (fun a h1 h2 => by rw [eG35, va_up_ne _ _ (by omega)]; rw [hG31 _ (by omega)]; rw [eG30, va_up_ne _ _ (by omega)]; rw [eG27, va_up_ne _ _ (by omega)]; rw [hG23 _ (by omega)]; rw [eG22, va_up_ne _ _ (by omega)]; rw [eG19, va_up_ne _ _ (by omega)]) hs15
  have hs41 : shS G35 (b + 78) := shS_congr (fun a h1 h2 => by rw [eG35, va_up_ne _ _ (by omega)]; rw [hG31 _ (by omega)]; rw [eG30, va_up_ne _ _ (by omega)]; rw [eG27, va_up_ne _ _ (by omega)]) hs23
  have hs42 : shS G35 (b + 116) := shS_congr (fun a h1 h2 => by rw [eG35, va_up_ne _ _ (by omega)]) hs31
  refine ⟨g37, g38, fun k hk => ?_⟩
  rcases (show k = 0 ∨ k = 1 ∨ k = 2 ∨ k = 3 by omega) with rfl | rfl | rfl | rfl
  · exact hs39
  · exact hs40
  · exact hs41
  · exact hs42
theorem dX2_init_0 : decode cX2_init 0 = .ok (.aload_n 0, 1) := by decide +kernel
theorem dX2_init_1 : decode cX2_init 1 = .ok (.invokespecial 1, 3) := by decide +kernel
theorem dX2_init_4 : decode cX2_init 4 = .ok (.aload_n 0, 1) := by decide +kernel
theorem dX2_init_5 : decode cX2_init 5 = .ok (.bipush 60, 2) := by decide +kernel
theorem dX2_init_7 : decode cX2_init 7 = .ok (.newarray .int, 2) := by decide +kernel
theorem dX2_init_9 : decode cX2_init 9 = .ok (.putfield 9, 3) := by decide +kernel
theorem dX2_init_12 : decode cX2_init 12 = .ok (.aload_n 0, 1) := by decide +kernel
theorem dX2_init_13 : decode cX2_init 13 = .ok (.new 13, 3) := by decide +kernel
theorem dX2_init_16 : decode cX2_init 16 = .ok (.dup, 1) := by decide +kernel
theorem dX2_init_17 : decode cX2_init 17 = .ok (.invokespecial 15, 3) := by decide +kernel
theorem dX2_init_20 : decode cX2_init 20 = .ok (.putfield 16, 3) := by decide +kernel
theorem dX2_init_23 : decode cX2_init 23 = .ok (.return_, 1) := by decide +kernel
set_option maxHeartbeats 1000000 in
set_option maxRecDepth 100000 in
theorem c_X2_init (l : Launch) (D : xD) (z : Nat) (G : xG) (I : xI) (L : xL) (b : Nat) (g0 : G b = some (2, 0, rN)) (zb : z ≤ b) : xM l D z yX2_init cX2_init 1 none 3 60 5 85 [.ref b] (b + 1) G I L (cPost b 6 (fun G' => shX G' b) G I L) := by
  refine xM.of (by decide) (Nat.le_of_ble_eq_true rfl) (fun p e s m args below meth c C hnm hsz => ?_)
  refine x_lv [(0, .ref b)] rfl ?_
  refine x_aload_n 0 C dX2_init_0 rfl 0 rfl ?_
  refine x_obj 1 C dX2_init_1 km_X2_1 ki_obj kc_obj (Nat.le_of_ble_eq_true rfl) (Nat.le_of_ble_eq_true rfl) ?_
  refine x_aload_n 4 C dX2_init_4 rfl 0 rfl ?_
  refine x_bipush 5 C (v := 60) dX2_init_5 rfl ?_
  refine x_newa 7 C 0 (N := 60) dX2_init_7 ⟨by decide, rfl⟩ ka_int (fun cA h => h) rfl (by decide) (by decide) (Nat.le_of_ble_eq_true rfl) (Nat.le_of_ble_eq_true rfl) (Nat.le_of_ble_eq_true rfl) (fun G1 I1 L1 eG1 eI1 eL1 => ?_)
  have g2 : G1 (b) = some (2, 0, rN) := by rw [eG1, va_up_ne _ _ (by omega)]; exact g0
  refine x_putr 9 C dX2_init_9 ff_X2_9 rfl rfl hnm.symm rfl g2 (by omega) (fun G3 eG3 => ?_)
  refine x_aload_n 12 C dX2_init_12 rfl 0 rfl ?_
  refine x_new 13 C dX2_init_13 (by decide) hh_X1 kl_X2_13 kb_X1 kn_X1 hd_X1 (Nat.le_of_ble_eq_true rfl) (Nat.le_of_ble_eq_true rfl) (fun G4 I4 L4 eG4 eI4 eL4 => ?_)
  refine x_dup 16 C dX2_init_16 rfl ?_
  have g6 : G4 (b + 2) = some (1, 0, rN) := by rw [eG4, vau (by omega)]
  refine x_callI 17 C dX2_init_17 (As := []) (rest := [.ref (b + 2), .ref b]) (c_X1_init l D z G4 I4 L4 (b + 2) g6 (by omega)) mt_X1_init rfl km_X2_15 ki_X1_init rfl (Nat.le_of_ble_eq_true rfl) ⟨⟨(Nat.le_of_ble_eq_true rfl), (Nat.le_of_ble_eq_true rfl)⟩, (Nat.le_of_ble_eq_true rfl), (Nat.le_of_ble_eq_true rfl)⟩ (fun v5 n5 G5 I5 L5 hp5 _ => ?_)
  obtain ⟨hv5, hn5, hs5, hG5, hI5, hL5⟩ := hp5
  subst hv5; subst hn5
  refine x_st [.ref (b + 2), .ref b] rfl ?_
  have g7 : G5 (b) = some (2, 0, va_up rN 0 (some (b + 1))) := by rw [hG5 _ (by omega)]; rw [eG4, va_up_ne _ _ (by omega)]; rw [eG3, vau (by omega)]
  refine x_putr 20 C dX2_init_20 ff_X2_16 rfl rfl hnm.symm rfl g7 (by omega) (fun G8 eG8 => ?_)
  refine x_wid (k' := 5) (n' := 85) (Nat.le_of_ble_eq_true rfl) (Nat.le_of_ble_eq_true rfl) ?_
  refine x_vret 23 C dX2_init_23 rfl (by omega) ?_
  refine ⟨rfl, rfl, ?_, fun a h1 => by rw [eG8, va_up_ne _ _ (by omega)]; rw [hG5 _ (by omega)]; rw [eG4, va_up_ne _ _ (by omega)]; rw [eG3, va_up_ne _ _ (by omega)]; rw [eG1, va_up_ne _ _ (by omega)], fun a h1 => by rw [hI5 _ (by omega)]; rw [eI4, xzero_row _ _ (by omega)]; rw [eI1, xzero_row _ _ (by omega)], fun a h1 => by rw [hL5 _ (by omega)]; rw [eL4, xzero_row _ _ (by omega)]; rw [eL1, xzero_row _ _ (by omega)]⟩
  have g9 : G8 (b) = some (2, 0, va_up (va_up rN 0 (some (b + 1))) 1 (some (b + 2))) := by rw [eG8, vau (by omega)]
  have g10 : G8 (b + 1) = some (20, 60, rN) := by rw [eG8, va_up_ne _ _ (by omega)]; rw [hG5 _ (by omega)]; rw [eG4, va_up_ne _ _ (by omega)]; rw [eG3, va_up_ne _ _ (by omega)]; rw [eG1, vau (by omega)]
  have hs11 : shE G8 (b + 2) := shE_congr (fun a h1 h2 => by rw [eG8, va_up_ne _ _ (by omega)]) hs5
  exact ⟨g9, g10, hs11⟩
