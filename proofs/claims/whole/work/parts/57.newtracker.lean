/-! Constructors: PathTracker, the Model -/
theorem stF_congr {I I' : xI} {L L' : xL} {S : Nat} (hI : ∀ a, S ≤ a → a < S + 38 → I' a = I a) (hL : ∀ a, S ≤ a → a < S + 38 → L' a = L a) (h : stF I L S) : stF I' L' S := by
  refine ⟨fun b hb j hj => ?_, fun j hj => ?_, ?_, fun k hk => ?_⟩
  · rw [hI _ (by omega) (by omega), hI _ (by omega) (by omega)]; exact h.1 b hb j hj
  · rw [hI _ (by omega) (by omega)]; exact h.2.1 j hj
  · rw [hI _ (by omega) (by omega)]; exact h.2.2.1
  · rw [hI _ (by omega) (by omega), rd_congr (hL (S + 11 + 3 * k + 1) (by omega) (by omega)), rd_congr (hL (S + 11 + 3 * k + 2) (by omega) (by omega))]; exact h.2.2.2 k hk
def oPost (o : Nat) (G : xG) (I : xI) (L : xL) : xPost := fun v n' G' I' L' => v = none ∧ n' = o + 345 ∧ shPT G' o ∧ (∀ a, a < o → G' a = G a) ∧ (∀ a, a < o → I' a = I a) ∧ (∀ a, a < o → L' a = L a) ∧ stF I' L' (o + 75) ∧ (I' (o + 1) 2 = 0 ∧ I' (o + 1) 3 = 0) ∧ (I' (o + 113) 1 = 0 ∧ I' (o + 113) 2 = 0) ∧ ∀ j, I' (o + 344) j = 0
/-- the Model's first row, ahead of its paths -/
def mP0 (j : Nat) : Int32 := if j = 8 then 1 else if j = 22 then 1 else if j = 40 then 1 else if j = 41 then 1 else if j = 42 then 64 else if j = 43 then 128 else if j = 44 then 3 else if j = 45 then 4 else if j = 46 then 100 else if j = 47 then 10 else if j = 48 then 3 else if j = 49 then 2 else 0
def mPost (A : Nat) (G : xG) (I : xI) (L : xL) : xPost := fun v n' G' I' L' => v = none ∧ n' = A + 15 ∧ shMo G' A ∧ (∀ a, a < A → G' a = G a) ∧ (∀ a, a < A → I' a = I a) ∧ (∀ a, a < A → L' a = L a) ∧ (∀ j, j < 50 → I' (A + 1) j = mP0 j) ∧ mvO (I' (A + 1)) 50 = mBg 1 1 64 128 0 ∧ (I' A 2 = 0 ∧ I' A 6 = 0 ∧ I' A 18 = 0) ∧ ∀ j, I' (A + 4) j = 0
theorem dX11_init_0 : decode cX11_init 0 = .ok (.aload_n 0, 1) := by decide +kernel
theorem dX11_init_1 : decode cX11_init 1 = .ok (.invokespecial 1, 3) := by decide +kernel
theorem dX11_init_4 : decode cX11_init 4 = .ok (.aload_n 0, 1) := by decide +kernel
theorem dX11_init_5 : decode cX11_init 5 = .ok (.new 7, 3) := by decide +kernel
theorem dX11_init_8 : decode cX11_init 8 = .ok (.dup, 1) := by decide +kernel
theorem dX11_init_9 : decode cX11_init 9 = .ok (.invokespecial 9, 3) := by decide +kernel
theorem dX11_init_12 : decode cX11_init 12 = .ok (.putfield 10, 3) := by decide +kernel
theorem dX11_init_15 : decode cX11_init 15 = .ok (.aload_n 0, 1) := by decide +kernel
theorem dX11_init_16 : decode cX11_init 16 = .ok (.new 16, 3) := by decide +kernel
theorem dX11_init_19 : decode cX11_init 19 = .ok (.dup, 1) := by decide +kernel
theorem dX11_init_20 : decode cX11_init 20 = .ok (.invokespecial 18, 3) := by decide +kernel
theorem dX11_init_23 : decode cX11_init 23 = .ok (.putfield 19, 3) := by decide +kernel
theorem dX11_init_26 : decode cX11_init 26 = .ok (.aload_n 0, 1) := by decide +kernel
theorem dX11_init_27 : decode cX11_init 27 = .ok (.new 23, 3) := by decide +kernel
theorem dX11_init_30 : decode cX11_init 30 = .ok (.dup, 1) := by decide +kernel
theorem dX11_init_31 : decode cX11_init 31 = .ok (.invokespecial 25, 3) := by decide +kernel
theorem dX11_init_34 : decode cX11_init 34 = .ok (.putfield 26, 3) := by decide +kernel
theorem dX11_init_37 : decode cX11_init 37 = .ok (.aload_n 0, 1) := by decide +kernel
theorem dX11_init_38 : decode cX11_init 38 = .ok (.getfield 26, 3) := by decide +kernel
theorem dX11_init_41 : decode cX11_init 41 = .ok (.invokevirtual 30, 3) := by decide +kernel
theorem dX11_init_44 : decode cX11_init 44 = .ok (.aload_n 0, 1) := by decide +kernel
theorem dX11_init_45 : decode cX11_init 45 = .ok (.new 33, 3) := by decide +kernel
theorem dX11_init_48 : decode cX11_init 48 = .ok (.dup, 1) := by decide +kernel
theorem dX11_init_49 : decode cX11_init 49 = .ok (.invokespecial 35, 3) := by decide +kernel
theorem dX11_init_52 : decode cX11_init 52 = .ok (.putfield 36, 3) := by decide +kernel
theorem dX11_init_55 : decode cX11_init 55 = .ok (.aload_n 0, 1) := by decide +kernel
theorem dX11_init_56 : decode cX11_init 56 = .ok (.iconst 2, 1) := by decide +kernel
theorem dX11_init_57 : decode cX11_init 57 = .ok (.anewarray 23, 3) := by decide +kernel
theorem dX11_init_60 : decode cX11_init 60 = .ok (.putfield 40, 3) := by decide +kernel
theorem dX11_init_63 : decode cX11_init 63 = .ok (.iconst 0, 1) := by decide +kernel
theorem dX11_init_64 : decode cX11_init 64 = .ok (.istore_n 1, 1) := by decide +kernel
theorem dX11_init_65 : decode cX11_init 65 = .ok (.iload_n 1, 1) := by decide +kernel
theorem dX11_init_66 : decode cX11_init 66 = .ok (.iconst 2, 1) := by decide +kernel
theorem dX11_init_67 : decode cX11_init 67 = .ok (.if_icmp .ge 22, 3) := by decide +kernel
theorem dX11_init_70 : decode cX11_init 70 = .ok (.aload_n 0, 1) := by decide +kernel
theorem dX11_init_71 : decode cX11_init 71 = .ok (.getfield 40, 3) := by decide +kernel
theorem dX11_init_74 : decode cX11_init 74 = .ok (.iload_n 1, 1) := by decide +kernel
theorem dX11_init_75 : decode cX11_init 75 = .ok (.new 23, 3) := by decide +kernel
theorem dX11_init_78 : decode cX11_init 78 = .ok (.dup, 1) := by decide +kernel
theorem dX11_init_79 : decode cX11_init 79 = .ok (.invokespecial 25, 3) := by decide +kernel
theorem dX11_init_82 : decode cX11_init 82 = .ok (.aastore, 1) := by decide +kernel
theorem dX11_init_83 : decode cX11_init 83 = .ok (.iinc 1 1, 3) := by decide +kernel
theorem dX11_init_86 : decode cX11_init 86 = .ok (.goto (-21), 3) := by decide +kernel
theorem dX11_init_89 : decode cX11_init 89 = .ok (.aload_n 0, 1) := by decide +kernel
theorem dX11_init_90 : decode cX11_init 90 = .ok (.iconst 2, 1) := by decide +kernel
theorem dX11_init_91 : decode cX11_init 91 = .ok (.newarray .boolean, 2) := by decide +kernel
theorem dX11_init_93 : decode cX11_init 93 = .ok (.putfield 44, 3) := by decide +kernel
theorem dX11_init_96 : decode cX11_init 96 = .ok (.return_, 1) := by decide +kernel
set_option maxHeartbeats 1000000 in
set_option maxRecDepth 100000 in
theorem c_X11_init (l : Launch) (D : xD) (z : Nat) (G : xG) (I : xI) (L : xL) (b : Nat) (g0 : G b = some (11, 0, rN)) (zb : z ≤ b) : xM l D z yX11_init cX11_init 2 none 6 140 344 1719 [.ref b] (b + 1) G I L (oPost b G I L) := by
  refine xM.of (by decide) (Nat.le_of_ble_eq_true rfl) (fun p e s m args below meth c C hnm hsz => ?_)
  refine x_lv [(0, .ref b)] rfl ?_
  refine x_aload_n 0 C dX11_init_0 rfl 0 rfl ?_
  refine x_obj 1 C dX11_init_1 km_X11_1 ki_obj kc_obj (Nat.le_of_ble_eq_true rfl) (Nat.le_of_ble_eq_true rfl) ?_
  refine x_aload_n 4 C dX11_init_4 rfl 0 rfl ?_
  refine x_new 5 C dX11_init_5 (by decide) hh_X2 kl_X11_7 kb_X2 kn_X2 hd_X2 (Nat.le_of_ble_eq_true rfl) (Nat.le_of_ble_eq_true rfl) (fun G1 I1 L1 eG1 eI1 eL1 => ?_)
  refine x_dup 8 C dX11_init_8 rfl ?_
  have g3 : G1 (b + 1) = some (2, 0, rN) := by rw [eG1, vau (by omega)]
  refine x_callI 9 C dX11_init_9 (As := []) (rest := [.ref (b + 1), .ref b]) (c_X2_init l D z G1 I1 L1 (b + 1) g3 (by omega)) mt_X2_init rfl km_X11_9 ki_X2_init rfl (Nat.le_of_ble_eq_true rfl) ⟨⟨(Nat.le_of_ble_eq_true rfl), (Nat.le_of_ble_eq_true rfl)⟩, (Nat.le_of_ble_eq_true rfl), (Nat.le_of_ble_eq_true rfl)⟩ (fun v2 n2 G2 I2 L2 hp2 _ => ?_)
  obtain ⟨hv2, hn2, hs2, hG2, hI2, hL2⟩ := hp2
  subst hv2; subst hn2
  refine x_st [.ref (b + 1), .ref b] rfl ?_
  have g4 : G2 (b) = some (11, 0, rN) := by rw [hG2 _ (by omega)]; rw [eG1, va_up_ne _ _ (by omega)]; exact g0
  refine x_putr 12 C dX11_init_12 ff_X11_10 rfl rfl hnm.symm rfl g4 (by omega) (fun G5 eG5 => ?_)
  refine x_aload_n 15 C dX11_init_15 rfl 0 rfl ?_
  refine x_new 16 C dX11_init_16 (by decide) hh_X3 kl_X11_16 kb_X3 kn_X3 hd_X3 (Nat.le_of_ble_eq_true rfl) (Nat.le_of_ble_eq_true rfl) (fun G6 I6 L6 eG6 eI6 eL6 => ?_)
  refine x_dup 19 C dX11_init_19 rfl ?_
  have g8 : G6 (b + 7) = some (3, 0, rN) := by rw [eG6, vau (by omega)]
  refine x_callI 20 C dX11_init_20 (As := []) (rest := [.ref (b + 7), .ref b]) (c_X3_init l D z G6 I6 L6 (b + 7) g8 (by omega)) mt_X3_init rfl km_X11_18 ki_X3_init rfl (Nat.le_of_ble_eq_true rfl) ⟨⟨(Nat.le_of_ble_eq_true rfl), (Nat.le_of_ble_eq_true rfl)⟩, (Nat.le_of_ble_eq_true rfl), (Nat.le_of_ble_eq_true rfl)⟩ (fun v7 n7 G7 I7 L7 hp7 _ => ?_)
  obtain ⟨hv7, hn7, hs7, hG7, hI7, hL7⟩ := hp7
  subst hv7; subst hn7
  refine x_st [.ref (b + 7), .ref b] rfl ?_
  have g9 : G7 (b) = some (11, 0, va_up rN 0 (some (b + 1))) := by rw [hG7 _ (by omega)]; rw [eG6, va_up_ne _ _ (by omega)]; rw [eG5, vau (by omega)]
  refine x_putr 23 C dX11_init_23 ff_X11_19 rfl rfl hnm.symm rfl g9 (by omega) (fun G10 eG10 => ?_)
  refine x_aload_n 26 C dX11_init_26 rfl 0 rfl ?_
  refine x_new 27 C dX11_init_27 (by decide) hh_X9 kl_X11_23 kb_X9 kn_X9 hd_X9 (Nat.le_of_ble_eq_true rfl) (Nat.le_of_ble_eq_true rfl) (fun G11 I11 L11 eG11 eI11 eL11 => ?_)
  refine x_dup 30 C dX11_init_30 rfl ?_
  have g13 : G11 (b + 75) = some (9, 0, rN) := by rw [eG11, vau (by omega)]
  refine x_callI 31 C dX11_init_31 (As := []) (rest := [.ref (b + 75), .ref b]) (c_X9_init l D z G11 I11 L11 (b + 75) g13 (by omega)) mt_X9_init rfl km_X11_25 ki_X9_init rfl (Nat.le_of_ble_eq_true rfl) ⟨⟨(Nat.le_of_ble_eq_true rfl), (Nat.le_of_ble_eq_true rfl)⟩, (Nat.le_of_ble_eq_true rfl), (Nat.le_of_ble_eq_true rfl)⟩ (fun v12 n12 G12 I12 L12 hp12 _ => ?_)
  obtain ⟨hv12, hn12, hs12, hG12, hI12, hL12⟩ := hp12
  subst hv12; subst hn12
  refine x_st [.ref (b + 75), .ref b] rfl ?_
  have g14 : G12 (b) = some (11, 0, va_up (va_up rN 0 (some (b + 1))) 1 (some (b + 7))) := by rw [hG12 _ (by omega)]; rw [eG11, va_up_ne _ _ (by omega)]; rw [eG10, vau (by omega)]
  refine x_putr 34 C dX11_init_34 ff_X11_26 rfl rfl hnm.symm rfl g14 (by omega) (fun G15 eG15 => ?_)
  refine x_aload_n 37 C dX11_init_37 rfl 0 rfl ?_
  have g16 : G15 (b) = some (11, 0, va_up (va_up (va_up rN 0 (some (b + 1))) 1 (some (b + 7))) 2 (some (b + 75))) := by rw [eG15, vau (by omega)]
  refine x_getr 38 C (b := b + 75) dX11_init_38 ff_X11_26 rfl g16 rfl ?_
  refine x_wid (k' := 112) (n' := 520) (Nat.le_of_ble_eq_true rfl) (Nat.le_of_ble_eq_true rfl) ?_
  have g17 : G15 (b + 75) = some (9, 0, rSt (b + 75)) := by rw [eG15, va_up_ne _ _ (by omega)]; exact hs12.1
  have hs18 : shS G15 (b + 75) := shS_congr (fun a h1 h2 => by rw [eG15, va_up_ne _ _ (by omega)]) hs12
  have g22 : G15 (b + 75) = some (9, 0, rSt (b + 75)) := by rw [eG15, va_up_ne _ _ (by omega)]; exact hs12.1
  have hs23 : shS G15 (b + 75) := shS_congr (fun a h1 h2 => by rw [eG15, va_up_ne _ _ (by omega)]) hs12
  refine x_callVp 41 C dX11_init_41 (As := []) (rest := []) (t_X9_putFirstState l D z (b + 113) G15 I12 L12 (b + 75) hs18 (by omega)) mt_X9_putFirstState km_X11_30 ki_X9_putFirstState ks_X9_putFirstState g22 ⟨by decide, rfl⟩ rfl (Nat.le_of_ble_eq_true rfl) ⟨⟨by decide, by decide⟩, by decide, by decide⟩ (fun w19 I20 L21 hw19 => ?_)
  obtain ⟨hw19v, hw19r0, hw19r1, hw19r2⟩ := hw19
  subst hw19v
  refine x_st [] rfl ?_
  have hq24 := hw19r1
  have hq25 := hw19r2
  refine x_aload_n 44 C dX11_init_44 rfl 0 rfl ?_
  refine x_new 45 C dX11_init_45 (by decide) hh_X4 kl_X11_33 kb_X4 kn_X4 hd_X4 (Nat.le_of_ble_eq_true rfl) (Nat.le_of_ble_eq_true rfl) (fun G26 I26 L26 eG26 eI26 eL26 => ?_)
  refine x_dup 48 C dX11_init_48 rfl ?_
  have g28 : G26 (b + 113) = some (4, 0, rN) := by rw [eG26, vau (by omega)]
  refine x_callI 49 C dX11_init_49 (As := []) (rest := [.ref (b + 113), .ref b]) (c_X4_init l D z G26 I26 L26 (b + 113) g28 (by omega)) mt_X4_init rfl km_X11_35 ki_X4_init rfl (Nat.le_of_ble_eq_true rfl) ⟨⟨(Nat.le_of_ble_eq_true rfl), (Nat.le_of_ble_eq_true rfl)⟩, (Nat.le_of_ble_eq_true rfl), (Nat.le_of_ble_eq_true rfl)⟩ (fun v27 n27 G27 I27 L27 hp27 _ => ?_)
  obtain ⟨hv27, hn27, hs27, hG27, hI27, hL27⟩ := hp27
  subst hv27; subst hn27
  refine x_st [.ref (b + 113), .ref b] rfl ?_
  have g29 : G27 (b) = some (11, 0, va_up (va_up (va_up rN 0 (some (b + 1))) 1 (some (b + 7))) 2 (some (b + 75))) := by rw [hG27 _ (by omega)]; rw [eG26, va_up_ne _ _ (by omega)]; rw [eG15, vau (by omega)]
  refine x_putr 52 C dX11_init_52 ff_X11_36 rfl rfl hnm.symm rfl g29 (by omega) (fun G30 eG30 => ?_)
  refine x_aload_n 55 C dX11_init_55 rfl 0 rfl ?_
  refine x_iconst 56 C (v := 2) dX11_init_56 rfl ?_
  refine x_anew 57 C 26 (N := 2) dX11_init_57 (by decide) kl_X11_23 (by decide) (by decide) (Nat.le_of_ble_eq_true rfl) (Nat.le_of_ble_eq_true rfl) (Nat.le_of_ble_eq_true rfl) (fun G31 I31 L31 eG031 eI31 eL31 => ?_)
  have eG31 : G31 = va_up G30 (b + 267) (some (26, 2, rPart (fun k => some (b + 268 + 38 * k)) 0)) := eG031.trans (by rw [rPart_0])
  have g32 : G31 (b) = some (11, 0, va_up (va_up (va_up (va_up rN 0 (some (b + 1))) 1 (some (b + 7))) 2 (some (b + 75))) 3 (some (b + 113))) := by rw [eG31, va_up_ne _ _ (by omega)]; rw [eG30, vau (by omega)]
  refine x_putr 60 C dX11_init_60 ff_X11_40 rfl rfl hnm.symm rfl g32 (by omega) (fun G33 eG33 => ?_)
  refine x_iconst 63 C (v := 0) dX11_init_63 rfl ?_
  refine x_istore_n 64 C [(1, .int 0), (0, .ref b)] dX11_init_64 rfl (by decide) rfl ?_
  refine x_iload_n 65 C dX11_init_65 rfl 0 rfl ?_
  refine x_iconst 66 C (v := 2) dX11_init_66 rfl ?_
  refine x_icmp_ge 67 C 89 dX11_init_67 (by decide) (fun c34 => absurd c34 (by decide)) (fun _ => ?_)
  refine x_aload_n 70 C dX11_init_70 rfl 1 rfl ?_
  have g35 : G33 (b) = some (11, 0, va_up (va_up (va_up (va_up (va_up rN 0 (some (b + 1))) 1 (some (b + 7))) 2 (some (b + 75))) 3 (some (b + 113))) 4 (some (b + 267))) := by rw [eG33, vau (by omega)]
  refine x_getr 71 C (b := b + 267) dX11_init_71 ff_X11_40 rfl g35 rfl ?_
  refine x_iload_n 74 C dX11_init_74 rfl 0 rfl ?_
  refine x_new 75 C dX11_init_75 (by decide) hh_X9 kl_X11_23 kb_X9 kn_X9 hd_X9 (Nat.le_of_ble_eq_true rfl) (Nat.le_of_ble_eq_true rfl) (fun G36 I36 L36 eG36 eI36 eL36 => ?_)
  refine x_dup 78 C dX11_init_78 rfl ?_
  have g38 : G36 (b + 268) = some (9, 0, rN) := by rw [eG36, vau (by omega)]
  refine x_callI 79 C dX11_init_79 (As := []) (rest := [.ref (b + 268), .int 0, .ref (b + 267)]) (c_X9_init l D z G36 I36 L36 (b + 268) g38 (by omega)) mt_X9_init rfl km_X11_25 ki_X9_init rfl (Nat.le_of_ble_eq_true rfl) ⟨⟨(Nat.le_of_ble_eq_true rfl), (Nat.le_of_ble_eq_true rfl)⟩, (Nat.le_of_ble_eq_true rfl), (Nat.le_of_ble_eq_true rfl)⟩ (fun v37 n37 G37 I37 L37 hp37 _ => ?_)
  obtain ⟨hv37, hn37, hs37, hG37, hI37, hL37⟩ := hp37
  subst hv37; subst hn37
  refine x_st [.ref (b + 268), .int 0, .ref (b + 267)] rfl ?_
  have g40 : G37 (b + 267) = some (26, 2, rPart (fun k => some (b + 268 + 38 * k)) 0) := by rw [hG37 _ (by omega)]; rw [eG36, va_up_ne _ _ (by omega)]; rw [eG33, va_up_ne _ _ (by omega)]; rw [eG31, vau (by omega)]
  refine x_aast 82 C (j := 0) dX11_init_82 (by decide) g40 hs37.1 (by omega) ⟨by decide, by decide, by decide⟩ (fun G41 eG041 => ?_)
  have eG41 : G41 = va_up G37 (b + 267) (some (26, 2, rPart (fun k => some (b + 268 + 38 * k)) 1)) := eG041.trans (by rw [rPart_up (f := (fun k => some (b + 268 + 38 * k))) (congrArg some (by omega))])
  refine x_iinc 83 C [(1, .int 1), (0, .ref b)] dX11_init_83 0 rfl (by decide) (by decide) rfl ?_
  refine x_goto 86 C 65 dX11_init_86 (by decide) ?_
  refine x_iload_n 65 C dX11_init_65 rfl 0 rfl ?_
  refine x_iconst 66 C (v := 2) dX11_init_66 rfl ?_
  refine x_icmp_ge 67 C 89 dX11_init_67 (by decide) (fun c42 => absurd c42 (by decide)) (fun _ => ?_)
  refine x_aload_n 70 C dX11_init_70 rfl 1 rfl ?_
  have g43 : G41 (b) = some (11, 0, va_up (va_up (va_up (va_up (va_up rN 0 (some (b + 1))) 1 (some (b + 7))) 2 (some (b + 75))) 3 (some (b + 113))) 4 (some (b + 267))) := by rw [eG41, va_up_ne _ _ (by omega)]; rw [hG37 _ (by omega)]; rw [eG36, va_up_ne _ _ (by omega)]; rw [eG33, vau (by omega)]
  refine x_getr 71 C (b := b + 267) dX11_init_71 ff_X11_40 rfl g43 rfl ?_
  refine x_iload_n 74 C dX11_init_74 rfl 0 rfl ?_
  refine x_new 75 C dX11_init_75 (by decide) hh_X9 kl_X11_23 kb_X9 kn_X9 hd_X9 (Nat.le_of_ble_eq_true rfl) (Nat.le_of_ble_eq_true rfl) (fun G44 I44 L44 eG44 eI44 eL44 => ?_)
  refine x_dup 78 C dX11_init_78 rfl ?_
  have g46 : G44 (b + 306) = some (9, 0, rN) := by rw [eG44, vau (by omega)]
  refine x_callI 79 C dX11_init_79 (As := []) (rest := [.ref (b + 306), .int 1, .ref (b + 267)]) (c_X9_init l D z G44 I44 L44 (b + 306) g46 (by omega)) mt_X9_init rfl km_X11_25 ki_X9_init rfl (Nat.le_of_ble_eq_true rfl) ⟨⟨(Nat.le_of_ble_eq_true rfl), (Nat.le_of_ble_eq_true rfl)⟩, (Nat.le_of_ble_eq_true rfl), (Nat.le_of_ble_eq_true rfl)⟩ (fun v45 n45 G45 I45 L45 hp45 _ => ?_)
  obtain ⟨hv45, hn45, hs45, hG45, hI45, hL45⟩ := hp45
  subst hv45; subst hn45
  refine x_st [.ref (b + 306), .int 1, .ref (b + 267)] rfl ?_
  have g48 : G45 (b + 267) = some (26, 2, rPart (fun k => some (b + 268 + 38 * k)) 1) := by rw [hG45 _ (by omega)]; rw [eG44, va_up_ne _ _ (by omega)]; rw [eG41, vau (by omega)]
  refine x_aast 82 C (j := 1) dX11_init_82 (by decide) g48 hs45.1 (by omega) ⟨by decide, by decide, by decide⟩ (fun G49 eG049 => ?_)
  have eG49 : G49 = va_up G45 (b + 267) (some (26, 2, rPart (fun k => some (b + 268 + 38 * k)) 2)) := eG049.trans (by rw [rPart_up (f := (fun k => some (b + 268 + 38 * k))) (congrArg some (by omega))])
  refine x_iinc 83 C [(1, .int 2), (0, .ref b)] dX11_init_83 0 rfl (by decide) (by decide) rfl ?_
  refine x_goto 86 C 65 dX11_init_86 (by decide) ?_
  refine x_iload_n 65 C dX11_init_65 rfl 0 rfl ?_
  refine x_iconst 66 C (v := 2) dX11_init_66 rfl ?_
  refine x_icmp_ge 67 C 89 dX11_init_67 (by decide) (fun _ => ?_) (fun c50 => absurd (by decide) c50)
  refine x_aload_n 89 C dX11_init_89 rfl 1 rfl ?_
  refine x_iconst 90 C (v := 2) dX11_init_90 rfl ?_
  refine x_newa 91 C 2 (N := 2) dX11_init_91 ⟨by decide, rfl⟩ ka_boolean (fun cA h => h) rfl (by decide) (by decide) (Nat.le_of_ble_eq_true rfl) (Nat.le_of_ble_eq_true rfl) (Nat.le_of_ble_eq_true rfl) (fun G51 I51 L51 eG51 eI51 eL51 => ?_)
  have g52 : G51 (b) = some (11, 0, va_up (va_up (va_up (va_up (va_up rN 0 (some (b + 1))) 1 (some (b + 7))) 2 (some (b + 75))) 3 (some (b + 113))) 4 (some (b + 267))) := by rw [eG51, va_up_ne _ _ (by omega)]; rw [eG49, va_up_ne _ _ (by omega)]; rw [hG45 _ (by omega)]; rw [eG44, va_up_ne _ _ (by omega)]; rw [eG41, va_up_ne _ _ (by omega)]; rw [hG37 _ (by omega)]; rw [eG36, va_up_ne _ _ (by omega)]; rw [eG33, vau (by omega)]
  refine x_putr 93 C dX11_init_93 ff_X11_44 rfl rfl hnm.symm rfl g52 (by omega) (fun G53 eG53 => ?_)
  refine x_wid (k' := 344) (n' := 1719) (Nat.le_of_ble_eq_true rfl) (Nat.le_of_ble_eq_true rfl) ?_
  refine x_vret 96 C dX11_init_96 rfl (by omega) ?_
  have g54 : G53 (b) = some (11, 0, va_up (va_up (va_up (va_up (va_up (va_up rN 0 (some (b + 1))) 1 (some (b + 7))) 2 (some (b + 75))) 3 (some (b + 113))) 4 (some (b + 267))) 5 (some (b + 344))) := by rw [eG53, vau (by omega)]
  have hs55 : shX G53 (b + 1) := shX_congr (fun a h1 h2 => by rw [eG53, va_up_ne _ _ (by omega)]; rw [eG51, va_up_ne _ _ (by omega)]; rw [eG49, va_up_ne _ _ (by omega)]; rw [hG45 _ (by omega)]; rw [eG44, va_up_ne _ _ (by omega)]; rw [eG41, va_up_ne _ _ (by omega)]; rw [hG37 _ (by omega)]; rw [eG36, va_up_ne _ _ (by omega)]; rw [eG33, va_up_ne _ _ (by omega)]; rw [eG31, va_up_ne _ _ (by omega)]; rw [eG30, va_up_ne _ _ (by omega)]; rw [hG27 _ (by omega)]; rw [eG26, va_up_ne _ _ (by omega)]; rw [eG15, va_up_ne _ _ (by omega)]; rw [hG12 _ (by omega)]; rw [eG11, va_up_ne _ _ (by omega)]; rw [eG10, va_up_ne _ _ (by omega)]; rw [hG7 _ (by omega)]; rw [eG6, va_up_ne _ _ (by omega)]; rw [eG5, va_up_ne _ _ (by omega)]) hs2
  have hs56 : shF G53 (b + 7) := shF_congr (fun a h1 h2 => by rw [eG53, va_up_ne _ _ (by omega)]; rw [eG51, va_up_ne _ _ (by omega)]; rw [eG49, va_up_ne _ _ (by omega)]; rw [hG45 _ (by omega)]; rw [eG44, va_up_ne _ _ (by omega)]; rw [eG41, va_up_ne _ _ (by omega)]; rw [hG37 _ (by omega)]; rw [eG36, va_up_ne _ _ (by omega)]; rw [eG33, va_up_ne _ _ (by omega)]; rw [eG31, va_up_ne _ _ (by omega)]; rw [eG30, va_up_ne _ _ (by omega)]; rw [hG27 _ (by omega)]; rw [eG26, va_up_ne _ _ (by omega)]; rw [eG15, va_up_ne _ _ (by omega)]; rw [hG12 _ (by omega)]; rw [eG11, va_up_ne _ _ (by omega)]; rw [eG10, va_up_ne _ _ (by omega)]) hs7
  have hs57 : shS G53 (b + 75) := shS_congr (fun a h1 h2 => by rw [eG53, va_up_ne _ _ (by omega)]; rw [eG51, va_up_ne _ _ (by omega)]; rw [eG49, va_up_ne _ _ (by omega)]; rw [hG45 _ (by omega)]; rw [eG44, va_up_ne _ _ (by omega)]; rw [eG41, va_up_ne _ _ (by omega)]; rw [hG37 _ (by omega)]; rw [eG36, va_up_ne _ _ (by omega)]; rw [eG33, va_up_ne _ _ (by omega)]; rw [eG31, va_up_ne _ _ (by omega)]; rw [eG30, va_up_ne _ _ (by omega)]; rw [hG27 _ (by omega)]; rw [eG26, va_up_ne _ _ (by omega)]; rw [eG15, va_up_ne _ _ (by omega)]) hs12
  have hs58 : shHi G53 (b + 113) := shHi_congr (fun a h1 h2 => by rw [eG53, va_up_ne _ _ (by omega)]; rw [eG51, va_up_ne _ _ (by omega)]; rw [eG49, va_up_ne _ _ (by omega)]; rw [hG45 _ (by omega)]; rw [eG44, va_up_ne _ _ (by omega)]; rw [eG41, va_up_ne _ _ (by omega)]; rw [hG37 _ (by omega)]; rw [eG36, va_up_ne _ _ (by omega)]; rw [eG33, va_up_ne _ _ (by omega)]; rw [eG31, va_up_ne _ _ (by omega)]; rw [eG30, va_up_ne _ _ (by omega)]) hs27
  have g59 : G53 (b + 267) = some (26, 2, rPart (fun k => some (b + 268 + 38 * k)) 2) := by rw [eG53, va_up_ne _ _ (by omega)]; rw [eG51, va_up_ne _ _ (by omega)]; rw [eG49, vau (by omega)]
  have hs60 : shS G53 (b + 268) := shS_congr (fun a h1 h2 => by rw [eG53, va_up_ne _ _ (by omega)]; rw [eG51, va_up_ne _ _ (by omega)]; rw [eG49, va_up_ne _ _ (by omega)]; rw [hG45 _ (by omega)]; rw [eG44, va_up_ne _ _ (by omega)]; rw [eG41, va_up_ne _ _ (by omega)]) hs37
  have hs61 : shS G53 (b + 306) := shS_congr (fun a h1 h2 => by rw [eG53, va_up_ne _ _ (by omega)]; rw [eG51, va_up_ne _ _ (by omega)]; rw [eG49, va_up_ne _ _ (by omega)]) hs45
  have g62 : G53 (b + 344) = some (22, 2, rN) := by rw [eG53, va_up_ne _ _ (by omega)]; rw [eG51, vau (by omega)]
  refine ⟨rfl, rfl, ⟨g54, hs55, hs56, hs57, hs58, g59, fun k hk => ?_, g62⟩, fun a h1 => by rw [eG53, va_up_ne _ _ (by omega)]; rw [eG51, va_up_ne _ _ (by omega)]; rw [eG49, va_up_ne _ _ (by omega)]; rw [hG45 _ (by omega)]; rw [eG44, va_up_ne _ _ (by omega)]; rw [eG41, va_up_ne _ _ (by omega)]; rw [hG37 _ (by omega)]; rw [eG36, va_up_ne _ _ (by omega)]; rw [eG33, va_up_ne _ _ (by omega)]; rw [eG31, va_up_ne _ _ (by omega)]; rw [eG30, va_up_ne _ _ (by omega)]; rw [hG27 _ (by omega)]; rw [eG26, va_up_ne _ _ (by omega)]; rw [eG15, va_up_ne _ _ (by omega)]; rw [hG12 _ (by omega)]; rw [eG11, va_up_ne _ _ (by omega)]; rw [eG10, va_up_ne _ _ (by omega)]; rw [hG7 _ (by omega)]; rw [eG6, va_up_ne _ _ (by omega)]; rw [eG5, va_up_ne _ _ (by omega)]; rw [hG2 _ (by omega)]; rw [eG1, va_up_ne _ _ (by omega)], fun a h1 => by rw [eI51, xzero_row _ _ (by omega)]; rw [hI45 _ (by omega)]; rw [eI44, xzero_row _ _ (by omega)]; rw [hI37 _ (by omega)]; rw [eI36, xzero_row _ _ (by omega)]; rw [eI31, xzero_row _ _ (by omega)]; rw [hI27 _ (by omega)]; rw [eI26, xzero_row _ _ (by omega)]; rw [hq24 _ (by omega)]; rw [hI12 _ (by omega)]; rw [eI11, xzero_row _ _ (by omega)]; rw [hI7 _ (by omega)]; rw [eI6, xzero_row _ _ (by omega)]; rw [hI2 _ (by omega)]; rw [eI1, xzero_row _ _ (by omega)], fun a h1 => by rw [eL51, xzero_row _ _ (by omega)]; rw [hL45 _ (by omega)]; rw [eL44, xzero_row _ _ (by omega)]; rw [hL37 _ (by omega)]; rw [eL36, xzero_row _ _ (by omega)]; rw [eL31, xzero_row _ _ (by omega)]; rw [hL27 _ (by omega)]; rw [eL26, xzero_row _ _ (by omega)]; rw [hq25 _ (by omega)]; rw [hL12 _ (by omega)]; rw [eL11, xzero_row _ _ (by omega)]; rw [hL7 _ (by omega)]; rw [eL6, xzero_row _ _ (by omega)]; rw [hL2 _ (by omega)]; rw [eL1, xzero_row _ _ (by omega)], stF_congr (fun a h1 h2 => by rw [eI51, xzero_row _ _ (by omega)]; rw [hI45 _ (by omega)]; rw [eI44, xzero_row _ _ (by omega)]; rw [hI37 _ (by omega)]; rw [eI36, xzero_row _ _ (by omega)]; rw [eI31, xzero_row _ _ (by omega)]; rw [hI27 _ (by omega)]; rw [eI26, xzero_row _ _ (by omega)]) (fun a h1 h2 => by rw [eL51, xzero_row _ _ (by omega)]; rw [hL45 _ (by omega)]; rw [eL44, xzero_row _ _ (by omega)]; rw [hL37 _ (by omega)]; rw [eL36, xzero_row _ _ (by omega)]; rw [eL31, xzero_row _ _ (by omega)]; rw [hL27 _ (by omega)]; rw [eL26, xzero_row _ _ (by omega)]) hw19r0, ⟨by rw [eI51, xzero_row _ _ (by omega)]; rw [hI45 _ (by omega)]; rw [eI44, xzero_row _ _ (by omega)]; rw [hI37 _ (by omega)]; rw [eI36, xzero_row _ _ (by omega)]; rw [eI31, xzero_row _ _ (by omega)]; rw [hI27 _ (by omega)]; rw [eI26, xzero_row _ _ (by omega)]; rw [hq24 _ (by omega)]; rw [hI12 _ (by omega)]; rw [eI11, xzero_row _ _ (by omega)]; rw [hI7 _ (by omega)]; rw [eI6, xzero_row _ _ (by omega)]; rw [hI2 _ (by omega)]; rw [eI1, xzero_at], by rw [eI51, xzero_row _ _ (by omega)]; rw [hI45 _ (by omega)]; rw [eI44, xzero_row _ _ (by omega)]; rw [hI37 _ (by omega)]; rw [eI36, xzero_row _ _ (by omega)]; rw [eI31, xzero_row _ _ (by omega)]; rw [hI27 _ (by omega)]; rw [eI26, xzero_row _ _ (by omega)]; rw [hq24 _ (by omega)]; rw [hI12 _ (by omega)]; rw [eI11, xzero_row _ _ (by omega)]; rw [hI7 _ (by omega)]; rw [eI6, xzero_row _ _ (by omega)]; rw [hI2 _ (by omega)]; rw [eI1, xzero_at]⟩, ⟨by rw [eI51, xzero_row _ _ (by omega)]; rw [hI45 _ (by omega)]; rw [eI44, xzero_row _ _ (by omega)]; rw [hI37 _ (by omega)]; rw [eI36, xzero_row _ _ (by omega)]; rw [eI31, xzero_row _ _ (by omega)]; rw [hI27 _ (by omega)]; rw [eI26, xzero_at], by rw [eI51, xzero_row _ _ (by omega)]; rw [hI45 _ (by omega)]; rw [eI44, xzero_row _ _ (by omega)]; rw [hI37 _ (by omega)]; rw [eI36, xzero_row _ _ (by omega)]; rw [eI31, xzero_row _ _ (by omega)]; rw [hI27 _ (by omega)]; rw [eI26, xzero_at]⟩, fun j => by rw [eI51, xzero_at]⟩
  rcases (show k = 0 ∨ k = 1 by omega) with rfl | rfl
  · exact hs60
  · exact hs61
