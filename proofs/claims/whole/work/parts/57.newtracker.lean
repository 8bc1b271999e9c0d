/-! Constructors: PathTracker, the Model -/
theorem stF_congr {I I' : xI} {L L' : xL} {S : Nat} (hI : ∀ a, S ≤ a → a < S + 38 → I' a = I a) (hL : ∀ a, S ≤ a → a < S + 38 → L' a = L a) (h : stF I L S) : stF I' L' S := by
  refine ⟨fun b hb j hj => ?_, fun j hj => ?_, ?_, fun k hk => ?_⟩
  · rw [hI _ (by omega) (by omega), hI _ (by omega) (by omega)]; exact h.1 b hb j hj
  · rw [hI _ (by omega) (by omega)]; exact h.2.1 j hj
  · rw [hI _ (by omega) (by omega)]; exact h.2.2.1
  · rw [hI _ (by omega) (by omega), rd_congr (hL (S + 11 + 3 * k + 1) (by omega) (by omega)), rd_congr (hL (S + 11 + 3 * k + 2) (by omega) (by omega))]; exact h.2.2.2 k hk
def oPost (o : Nat) (G : xG) (I : xI) (L : xL) : xPost := fun v n' G' I' L' => v = none ∧ n' = o + 345 ∧ shPT G' o ∧ (∀ a, a < o → G' a = G a) ∧ (∀ a, a < o → I' a = I a) ∧ (∀ a, a < o → L' a = L a) ∧ stF I' L' (o + 75) ∧ (I' (o + 1) 2 = 0 ∧ I' (o + 1) 3 = 0) ∧ (I' (o + 113) 1 = 0 ∧ I' (o + 113) 2 = 0) ∧ ∀ j, I' (o + 344) j = 0
/-- the Model's first row, ahead of its paths -/
def mP0 (j : Nat) : Int32 := if j = 8 then 1 else if j = 22 then 1 else if j = 40 then 1 else if j = 41 then 1 else if j = 42 then 64 else if j = 43 then 128 else if j = 44 then 3 else if j = 45 then 4 else if j = 46 then 100 else if j = 47 then 10 else if j = 48 then 3 else if j = 49 then 2 else 0
def mPost (A : Nat) (G : xG) (I : xI) (L : xL) : xPost := fun v n' G' I' L' => v = none ∧ n' = A + 15 ∧ shMo G' A ∧ (∀ a, a < A → G' a = G a) ∧ (∀ a, a < A → I' a = I a) ∧ (∀ a, a < A → L' a = L a) ∧ (∀ j, j < 50 → I' (A + 1) j = mP0 j) ∧ mvO (I' (A + 1)) 50 = mBg 1 1 64 128 0 ∧ (I' A 2 = 0 ∧ I' A 6 = 0 ∧ I' A 18 = 0) ∧ ∀ j, I' (A + 4) j = 0
theorem dX11_init_0 : decode cX11_init 0 = .ok (.aload_n 0, 1) := by decide +kernel
theorem dX11_init_1 : decode cX11_init 1 = .ok (.invokespecial 1, 3) := by decide +kernel
theorem dX11_init_4 : decode cX11_init 4 = .ok (.aload_n 0, 1) := by decide +kernel
theorem dX11_init_5 : decode cX11_init 5 = .ok (.new 7, 3) := by decide +kernel
theorem dX11_init_8 : decode cX11_init 8 = .ok (.dup, 1) := by decide +kernel
theorem dX11_init_9 : decode cX11_init 9 = .ok (.invokespecial 9, 3) := by decide +kernel
theorem dX11_init_12 : decode cX11_init 12 = .ok (.putfield 10, 3) := by decide +kernel
theorem dX11_init_15 : decode cX11_init 15 = .ok (.aload_n 0, 1) := by decide +kernel
theorem dX11_init_16 : decode cX11_init 16 = .ok (.new 16, 3) := by decide +kernel
theorem dX11_init_19 : decode cX11_init 19 = .ok (.dup, 1) := by decide +kernel
theorem dX11_init_20 : decode cX11_init 20 = .ok (.invokespecial 18, 3) := by decide +kernel
theorem dX11_init_23 : decode cX11_init 23 = .ok (.putfield 19, 3) := by decide +kernel
theorem dX11_init_26 : decode cX11_init 26 = .ok (.aload_n 0, 1) := by decide +kernel
theorem dX11_init_27 : decode cX11_init 27 = .ok (.new 23, 3) := by decide +kernel
theorem dX11_init_30 : decode cX11_init 30 = .ok (.dup, 1) := by decide +kernel
theorem dX11_init_31 : decode cX11_init 31 = .ok (.invokespecial 25, 3) := by decide +kernel
theorem dX11_init_34 : decode cX11_init 34 = .ok (.putfield 26, 3) := by decide +kernel
theorem dX11_init_37 : decode cX11_init 37 = .ok (.aload_n 0, 1) := by decide +kernel
theorem dX11_init_38 : decode cX11_init 38 = .ok (.getfield 26, 3) := by decide +kernel
theorem dX11_init_41 : decode cX11_init 41 = .ok (.invokevirtual 30, 3) := by decide +kernel
theorem dX11_init_44 : decode cX11_init 44 = .ok (.aload_n 0, 1) := by decide +kernel
theorem dX11_init_45 : decode cX11_init 45 = .ok (.new 33, 3) := by decide +kernel
theorem dX11_init_48 : decode cX11_init 48 = .ok (.dup, 1) := by decide +kernel
theorem dX11_init_49 : decode cX11_init 49 = .ok (.invokespecial 35, 3) := by decide +kernel
theorem dX11_init_52 : decode cX11_init 52 = .ok (.putfield 36, 3) := by decide +kernel
theorem dX11_init_55 : decode cX11_init 55 = .ok (.aload_n 0, 1) := by decide +kernel
theorem dX11_init_56 : decode cX11_init 56 = .ok (.iconst 2, 1) := by decide +kernel
theorem dX11_init_57 : decode cX11_init 57 = .ok (.anewarray 23, 3) := by decide +kernel
theorem dX11_init_60 : decode cX11_init 60 = .ok (.putfield 40, 3) := by decide +kernel
theorem dX11_init_63 : decode cX11_init 63 = .ok (.iconst 0, 1) := by decide +kernel
theorem dX11_init_64 : decode cX11_init 64 = .ok (.istore_n 1, 1) := by decide +kernel
theorem dX11_init_65 : decode cX11_init 65 = .ok (.iload_n 1, 1) := by decide +kernel
theorem dX11_init_66 : decode cX11_init 66 = .ok (.iconst 2, 1) := by decide +kernel
theorem dX11_init_67 : decode cX11_init 67 = .ok (.if_icmp .ge 22, 3) := by decide +kernel
theorem dX11_init_70 : decode cX11_init 70 = .ok (.aload_n 0, 1) := by decide +kernel
theorem dX11_init_71 : decode cX11_init 71 = .ok (.getfield 40, 3) := by decide +kernel
theorem dX11_init_74 : decode cX11_init 74 = .ok (.iload_n 1, 1) := by decide +kernel
theorem dX11_init_75 : decode cX11_init 75 = .ok (.new 23, 3) := by decide +kernel
theorem dX11_init_78 : decode cX11_init 78 = .ok (.dup, 1) := by decide +kernel
theorem dX11_init_79 : decode cX11_init 79 = .ok (.invokespecial 25, 3) := by decide +kernel
theorem dX11_init_82 : decode cX11_init 82 = .ok (.aastore, 1) := by decide +kernel
theorem dX11_init_83 : decode cX11_init 83 = .ok (.iinc 1 1, 3) := by decide +kernel
theorem dX11_init_86 : decode cX11_init 86 = .ok (.goto (-21), 3) := by decide +kernel
theorem dX11_init_89 : decode cX11_init 89 = .ok (.aload_n 0, 1) := by decide +kernel
theorem dX11_init_90 : decode cX11_init 90 = .ok (.iconst 2, 1) := by decide +kernel
theorem dX11_init_91 : decode cX11_init 91 = .ok (.newarray .boolean, 2) := by decide +kernel
theorem dX11_init_93 : decode cX11_init 93 = .ok (.putfield 44, 3) := by decide +kernel
theorem dX11_init_96 : decode cX11_init 96 = .ok (.return_, 1) := by decide +kernel
set_option maxHeartbeats 4000000 in
set_option maxRecDepth 100000 in
theorem c_X11_init (l : Launch) (D : xD) (z : Nat) (G : xG) (I : xI) (L : xL) (b : Nat) (g0 : G b = some (11, 0, rN)) (zb : z ≤ b) : xM l D z yX11_init cX11_init 2 none 6 140 344 1719 [.ref b] (b + 1) G I L (oPost b G I L) := by
  refine xM.of (by decide) (Nat.le_of_ble_eq_true rfl) (fun p e s m args below meth c C hnm hsz => ?_)
  refine x_lv [(0, .ref b)] rfl ?_
  refine x_aload_n 0 C dX11_init_0 rfl 0 rfl ?_
  refine x_obj 1 C dX11_init_1 km_X11_1 ki_obj kc_obj (Nat.le_of_ble_eq_true rfl) (Nat.le_of_ble_eq_true rfl) ?_
  refine x_aload_n 4 C dX11_init_4 rfl 0 rfl ?_
  refine x_new 5 C dX11_init_5 (by decide) hh_X2 kl_X11_7 kb_X2 kn_X2 hd_X2 (Nat.le_of_ble_eq_true rfl) (Nat.le_of_ble_eq_true rfl) (fun G1 I1 L1 eG1 eI1 eL1 => ?_)
  refine x_dup 8 C dX11_init_8 rfl ?_
  have g3 : G1 (b + 1) = some (2, 0, rN) := by rw [eG1, vau (by omega)]
  refine x_callI 9 C dX11_init_9 (As := []) (rest := [.ref (b + 1), .ref b]) (c_X2_init l D z G1 I1 L1 (b + 1) g3 (by omega)) mt_X2_init rfl km_X11_9 ki_X2_init rfl (Nat.le_of_ble_eq_true rfl) ⟨⟨(Nat.le_of_ble_eq_true rfl), (Nat.le_of_ble_eq_true rfl)⟩, (Nat.le_of_ble_eq_true rfl), (Nat.le_of_ble_eq_true rfl)⟩ (fun v2 n2 G2 I2 L2 hp2 _ => ?_)
  obtain ⟨hv2, hn2, hs2, hG2, hI2, hL2⟩ := hp2
  subst hv2; subst hn2
  refine x_st [.ref (b + 1), .ref b] rfl ?_
  have g4 : G2 (b) = some (11, 0, rN) := by rw [hG2 _ (by omega)]; rw [eG1, va_up_ne _ _ (by omega)]; exact g0
  refine x_putr 12 C dX11_init_12 ff_X11_10 rfl rfl hnm.symm rfl g4 (by omega) (fun G5 eG5 => ?_)
  refine x_aload_n 15 C dX11_init_15 rfl 0 rfl ?_
  refine x_new 16 C dX11_init_16 (by decide) hh_X3 kl_X11_16 kb_X3 kn_X3 hd_X3 (Nat.le_of_ble_eq_true rfl) (Nat.le_of_ble_eq_true rfl) (fun G6 I6 L6 eG6 eI6 eL6 => ?_)
  refine x_dup 19 C dX11_init_19 rfl ?_
  have g8 : G6 (b + 7) = some (3, 0, rN) := by rw [eG6, vau (by omega)]
  refine x_callI 20 C dX11_init_20 (As := []) (rest := [.ref (b + 7), .ref b]) (c_X3_init l D z G6 I6 L6 (b + 7) g8 (by omega)) mt_X3_init rfl km_X11_18 ki_X3_init rfl (Nat.le_of_ble_eq_true rfl) ⟨⟨(Nat.le_of_ble_eq_true rfl), (Nat.le_of_ble_eq_true rfl)⟩, (Nat.le_of_ble_eq_true rfl), (Nat.le_of_ble_eq_true rfl)⟩ (fun v7 n7 G7 I7 L7 hp7 _ => ?_)
  obtain ⟨hv7, hn7, hs7, hG7, hI7, hL7⟩ := hp7
  subst hv7; subst hn7
  refine x_st [.ref (b + 7), .ref b] rfl ?_
  have g9 : G7 (b) = some (11, 0, va_up rN 0 (some (b + 1))) := by rw [hG7 _ (by omega)]; rw [eG6, va_up_ne _ _ (by omega)]; rw [eG5, vau (by omega)]
  refine x_putr 23 C dX11_init_23 ff_X11_19 rfl rfl hnm.symm rfl g9 (by omega) (fun G10 eG10 => ?_)
  refine x_aload_n 26 C dX11_init_26 rfl 0 rfl ?_
  refine x_new 27 C dX11_init_27 (by decide) hh_X9 kl_X11_23 kb_X9 kn_X9 hd_X9 (Nat.le_of_ble_eq_true rfl) (Nat.le_of_ble_eq_true rfl) (fun G11 I11 L11 eG11 eI11 eL11 => ?_)
  refine x_dup 30 C dX11_init_30 rfl ?_
  have g13 : G11 (b + 75) = some (9, 0, rN) := by rw [eG11, vau (by omega)]
  refine x_callI 31 C dX11_init_31 (As := []) (rest := [.ref (b + 75), .ref b]) (c_X9_init l D z G11 I11 L11 (b + 75) g13 (by omega)) mt_X9_init rfl km_X11_25 ki_X9_init rfl (Nat.le_of_ble_eq_true rfl) ⟨⟨(Nat.le_of_ble_eq_true rfl), (Nat.le_of_ble_eq_true rfl)⟩, (Nat.le_of_ble_eq_true rfl), (Nat.le_of_ble_eq_true rfl)⟩ (fun v12 n12 G12 I12 L12 hp12 _ => ?_)
  obtain ⟨hv12, hn12, hs12, hG12, hI12, hL12⟩ := hp12
  subst hv12; subst hn12
  refine x_st [.ref (b + 75), .ref b] rfl ?_
  have g14 : G12 (b) = some (11, 0, va_up (va_up rN 0 (some (b + 1))) 1 (some (b + 7))) := by rw [hG12 _ (by omega)]; rw [eG11, va_up_ne _ _ (by omega)]; rw [eG10, vau (by omega)]
  refine x_putr 34 C dX11_init_34 ff_X11_26 rfl rfl hnm.symm rfl g14 (by omega) (fun G15 eG15 => ?_)
  refine x_aload_n 37 C dX11_init_37 rfl 0 rfl ?_
  have g16 : G15 (b) = some (11, 0, va_up (va_up (va_up rN 0 (some (b + 1))) 1 (some (b + 7))) 2 (some (b + 75))) := by rw [eG15, vau (by omega)]
  refine x_getr 38 C (b := b + 75) dX11_init_38 ff_X11_26 rfl g16 rfl ?_
  refine x_wid (k' := 112) (n' := 520) (Nat.le_of_ble_eq_true rfl) (Nat.le_of_ble_eq_true rfl) ?_
  have g17 : G15 (b + 75) = some (9, 0, rSt (b + 75)) := by rw [eG15, va_up_ne _ _ (by omega)]; exact hs12.1
  have hs18 : shS G15 (b + 75) := shS_congr (fun a h1 h2 => by rw [eG15, va_up_ne _ _ (by omega)]) hs12
  refine x_callVp 41 C dX11_init_41 (As := []) (rest := []) (t_X9_putFirstState l D z (b + 113) G15 I12 L12 (b + 75) hs18 (by omega)) mt_X9_putFirstState km_X11_30 ki_X9_putFirstState ks_X9_putFirstState g17 ⟨by decide, rfl⟩ rfl (Nat.le_of_ble_eq_true rfl) ⟨⟨by decide, by decide⟩, by decide, by decide⟩ (fun w19 I20 L21 hw19 => ?_)
  obtain ⟨hw19v, hw19r0, hw19r1, hw19r2⟩ := hw19
  subst hw19v
  refine x_st [] rfl ?_
  have hq22 := hw19r1
  have hq23 := hw19r2
  refine x_aload_n 44 C dX11_init_44 rfl 0 rfl ?_
  refine x_new 45 C dX11_init_45 (by decide) hh_X4 kl_X11_33 kb_X4 kn_X4 hd_X4 (Nat.le_of_ble_eq_true rfl) (Nat.le_of_ble_eq_true rfl) (fun G24 I24 L24 eG24 eI24 eL24 => ?_)
  refine x_dup 48 C dX11_init_48 rfl ?_
  have g26 : G24 (b + 113) = some (4, 0, rN) := by rw [eG24, vau (by omega)]
  refine x_callI 49 C dX11_init_49 (As := []) (rest := [.ref (b + 113), .ref b]) (c_X4_init l D z G24 I24 L24 (b + 113) g26 (by omega)) mt_X4_init rfl km_X11_35 ki_X4_init rfl (Nat.le_of_ble_eq_true rfl) ⟨⟨(Nat.le_of_ble_eq_true rfl), (Nat.le_of_ble_eq_true rfl)⟩, (Nat.le_of_ble_eq_true rfl), (Nat.le_of_ble_eq_true rfl)⟩ (fun v25 n25 G25 I25 L25 hp25 _ => ?_)
  obtain ⟨hv25, hn25, hs25, hG25, hI25, hL25⟩ := hp25
  subst hv25; subst hn25
  refine x_st [.ref (b + 113), .ref b] rfl ?_
  have g27 : G25 (b) = some (11, 0, va_up (va_up (va_up rN 0 (some (b + 1))) 1 (some (b + 7))) 2 (some (b + 75))) := by rw [hG25 _ (by omega)]; rw [eG24, va_up_ne _ _ (by omega)]; rw [eG15, vau (by omega)]
  refine x_putr 52 C dX11_init_52 ff_X11_36 rfl rfl hnm.symm rfl g27 (by omega) (fun G28 eG28 => ?_)
  refine x_aload_n 55 C dX11_init_55 rfl 0 rfl ?_
  refine x_iconst 56 C (v := 2) dX11_init_56 rfl ?_
  refine x_anew 57 C 26 (N := 2) dX11_init_57 (by decide) kl_X11_23 (by decide) (by decide) (Nat.le_of_ble_eq_true rfl) (Nat.le_of_ble_eq_true rfl) (Nat.le_of_ble_eq_true rfl) (fun G29 I29 L29 eG029 eI29 eL29 => ?_)
  have eG29 : G29 = va_up G28 (b + 267) (some (26, 2, rPart (fun k => some (b + 268 + 38 * k)) 0)) := eG029.trans (by rw [rPart_0])
  have g30 : G29 (b) = some (11, 0, va_up (va_up (va_up (va_up rN 0 (some (b + 1))) 1 (some (b + 7))) 2 (some (b + 75))) 3 (some (b + 113))) := by rw [eG29, va_up_ne _ _ (by omega)]; rw [eG28, vau (by omega)]
  refine x_putr 60 C dX11_init_60 ff_X11_40 rfl rfl hnm.symm rfl g30 (by omega) (fun G31 eG31 => ?_)
  refine x_iconst 63 C (v := 0) dX11_init_63 rfl ?_
  refine x_istore_n 64 C [(1, .int 0), (0, .ref b)] dX11_init_64 rfl (by decide) rfl ?_
  refine x_iload_n 65 C dX11_init_65 rfl 0 rfl ?_
  refine x_iconst 66 C (v := 2) dX11_init_66 rfl ?_
  refine x_icmp_ge 67 C 89 dX11_init_67 (by decide) (fun c32 => absurd c32 (by decide)) (fun _ => ?_)
  refine x_aload_n 70 C dX11_init_70 rfl 1 rfl ?_
  have g33 : G31 (b) = some (11, 0, va_up (va_up (va_up (va_up (va_up rN 0 (some (b + 1))) 1 (some (b + 7))) 2 (some (b + 75))) 3 (some (b + 113))) 4 (some (b + 267))) := by rw [eG31, vau (by omega)]
  refine x_getr 71 C (b := b + 267) dX11_init_71 ff_X11_40 rfl g33 rfl ?_
  refine x_iload_n 74 C dX11_init_74 rfl 0 rfl ?_
  refine x_new 75 C dX11_init_75 (by decide) hh_X9 kl_X11_23 kb_X9 kn_X9 hd_X9 (Nat.le_of_ble_eq_true rfl) (Nat.le_of_ble_eq_true rfl) (fun G34 I34 L34 eG34 eI34 eL34 => ?_)
  refine x_dup 78 C dX11_init_78 rfl ?_
  have g36 : G34 (b + 268) = some (9, 0, rN) := by rw [eG34, vau (by omega)]
  refine x_callI 79 C dX11_init_79 (As := []) (rest := [.ref (b + 268), .int 0, .ref (b + 267)]) (c_X9_init l D z G34 I34 L34 (b + 268) g36 (by omega)) mt_X9_init rfl km_X11_25 ki_X9_init rfl (Nat.le_of_ble_eq_true rfl) ⟨⟨(Nat.le_of_ble_eq_true rfl), (Nat.le_of_ble_eq_true rfl)⟩, (Nat.le_of_ble_eq_true rfl), (Nat.le_of_ble_eq_true rfl)⟩ (fun v35 n35 G35 I35 L35 hp35 _ => ?_)
  obtain ⟨hv35, hn35, hs35, hG35, hI35, hL35⟩ := hp35
  subst hv35; subst hn35
  refine x_st [.ref (b + 268), .int 0, .ref (b + 267)] rfl ?_
  have g37 : G35 (b + 267) = some (26, 2, rPart (fun k => some (b + 268 + 38 * k)) 0) := by rw [hG35 _ (by omega)]; rw [eG34, va_up_ne _ _ (by omega)]; rw [eG31, va_up_ne _ _ (by omega)]; rw [eG29, vau (by omega)]
  refine x_aast 82 C (j := 0) dX11_init_82 (by decide) g37 hs35.1 (by omega) ⟨by decide, by decide, by decide⟩ (fun G38 eG038 => ?_)
  have eG38 : G38 = va_up G35 (b + 267) (some (26, 2, rPart (fun k => some (b + 268 + 38 * k)) 1)) := eG038.trans (by rw [rPart_up (f := (fun k => some (b + 268 + 38 * k))) (congrArg some (by omega))])
  refine x_iinc 83 C [(1, .int 1), (0, .ref b)] dX11_init_83 0 rfl (by decide) (by decide) rfl ?_
  refine x_goto 86 C 65 dX11_init_86 (by decide) ?_
  refine x_iload_n 65 C dX11_init_65 rfl 0 rfl ?_
  refine x_iconst 66 C (v := 2) dX11_init_66 rfl ?_
  refine x_icmp_ge 67 C 89 dX11_init_67 (by decide) (fun c39 => absurd c39 (by decide)) (fun _ => ?_)
  refine x_aload_n 70 C dX11_init_70 rfl 1 rfl ?_
  have g40 : G38 (b) = some (11, 0, va_up (va_up (va_up (va_up (va_up rN 0 (some (b + 1))) 1 (some (b + 7))) 2 (some (b + 75))) 3 (some (b + 113))) 4 (some (b + 267))) := by rw [eG38, va_up_ne _ _ (by omega)]; rw [hG35 _ (by omega)]; rw [eG34, va_up_ne _ _ (by omega)]; rw [eG31, vau (by omega)]
  refine x_getr 71 C (b := b + 267) dX11_init_71 ff_X11_40 rfl g40 rfl ?_
  refine x_iload_n 74 C dX11_init_74 rfl 0 rfl ?_
  refine x_new 75 C dX11_init_75 (by decide) hh_X9 kl_X11_23 kb_X9 kn_X9 hd_X9 (Nat.le_of_ble_eq_true rfl) (Nat.le_of_ble_eq_true rfl) (fun G41 I41 L41 eG41 eI41 eL41 => ?_)
  refine x_dup 78 C dX11_init_78 rfl ?_
  have g43 : G41 (b + 306) = some (9, 0, rN) := by rw [eG41, vau (by omega)]
  refine x_callI 79 C dX11_init_79 (As := []) (rest := [.ref (b + 306), .int 1, .ref (b + 267)]) (c_X9_init l D z G41 I41 L41 (b + 306) g43 (by omega)) mt_X9_init rfl km_X11_25 ki_X9_init rfl (Nat.le_of_ble_eq_true rfl) ⟨⟨(Nat.le_of_ble_eq_true rfl), (Nat.le_of_ble_eq_true rfl)⟩, (Nat.le_of_ble_eq_true rfl), (Nat.le_of_ble_eq_true rfl)⟩ (fun v42 n42 G42 I42 L42 hp42 _ => ?_)
  obtain ⟨hv42, hn42, hs42, hG42, hI42, hL42⟩ := hp42
  subst hv42; subst hn42
  refine x_st [.ref (b + 306), .int 1, .ref (b + 267)] rfl ?_
  have g44 : G42 (b + 267) = some (26, 2, rPart (fun k => some (b + 268 + 38 * k)) 1) := by rw [hG42 _ (by omega)]; rw [eG41, va_up_ne _ _ (by omega)]; rw [eG38, vau (by omega)]
  refine x_aast 82 C (j := 1) dX11_init_82 (by decide) g44 hs42.1 (by omega) ⟨by decide, by decide, by decide⟩ (fun G45 eG045 => ?_)
  have eG45 : G45 = va_up G42 (b + 267) (some (26, 2, rPart (fun k => some (b + 268 + 38 * k)) 2)) := eG045.trans (by rw [rPart_up (f := (fun k => some (b + 268 + 38 * k))) (congrArg some (by omega))])
  refine x_iinc 83 C [(1, .int 2), (0, .ref b)] dX11_init_83 0 rfl (by decide) (by decide) rfl ?_
  refine x_goto 86 C 65 dX11_init_86 (by decide) ?_
  refine x_iload_n 65 C dX11_init_65 rfl 0 rfl ?_
  refine x_iconst 66 C (v := 2) dX11_init_66 rfl ?_
  refine x_icmp_ge 67 C 89 dX11_init_67 (by decide) (fun _ => ?_) (fun c46 => absurd (by decide) c46)
  refine x_aload_n 89 C dX11_init_89 rfl 1 rfl ?_
  refine x_iconst 90 C (v := 2) dX11_init_90 rfl ?_
  refine x_newa 91 C 2 (N := 2) dX11_init_91 ⟨by decide, rfl⟩ ka_boolean (fun cA h => h) rfl (by decide) (by decide) (Nat.le_of_ble_eq_true rfl) (Nat.le_of_ble_eq_true rfl) (Nat.le_of_ble_eq_true rfl) (fun G47 I47 L47 eG47 eI47 eL47 => ?_)
  have g48 : G47 (b) = some (11, 0, va_up (va_up (va_up (va_up (va_up rN 0 (some (b + 1))) 1 (some (b + 7))) 2 (some (b + 75))) 3 (some (b + 113))) 4 (some (b + 267))) := by rw [eG47, va_up_ne _ _ (by omega)]; rw [eG45, va_up_ne _ _ (by omega)]; rw [hG42 _ (by omega)]; rw [eG41, va_up_ne _ _ (by omega)]; rw [eG38, va_up_ne _ _ (by omega)]; rw [hG35 _ (by omega)]; rw [eG34, va_up_ne _ _ (by omega)]; rw [eG31, vau (by omega)]
  refine x_putr 93 C dX11_init_93 ff_X11_44 rfl rfl hnm.symm rfl g48 (by omega) (fun G49 eG49 => ?_)
  refine x_wid (k' := 344) (n' := 1719) (Nat.le_of_ble_eq_true rfl) (Nat.le_of_ble_eq_true rfl) ?_
  refine x_vret 96 C dX11_init_96 rfl (by omega) ?_
  have g50 : G49 (b) = some (11, 0, va_up (va_up (va_up (va_up (va_up (va_up rN 0 (some (b + 1))) 1 (some (b + 7))) 2 (some (b + 75))) 3 (some (b + 113))) 4 (some (b + 267))) 5 (some (b + 344))) := by rw [eG49, vau (by omega)]
  have hs51 : shX G49 (b + 1) := shX_congr (fun a h1 h2 => by rw [eG49, va_up_ne _ _ (by omega)]; rw [eG47, va_up_ne _ _ (by omega)]; rw [eG45, va_up_ne _ _ (by omega)]; rw [hG42 _ (by omega)]; rw [eG41, va_up_ne _ _ (by omega)]; rw [eG38, va_up_ne _ _ (by omega)]; rw [hG35 _ (by omega)]; rw [eG34, va_up_ne _ _ (by omega)]; rw [eG31, va_up_ne _ _ (by omega)]; rw [eG29, va_up_ne _ _ (by omega)]; rw [eG28, va_up_ne _ _ (by omega)]; rw [hG25 _ (by omega)]; rw [eG24, va_up_ne _ _ (by omega)]; rw [eG15, va_up_ne _ _ (by omega)]; rw [hG12 _ (by omega)]; rw [eG11, va_up_ne _ _ (by omega)]; rw [eG10, va_up_ne _ _ (by omega)]; rw [hG7 _ (by omega)]; rw [eG6, va_up_ne _ _ (by omega)]; rw [eG5, va_up_ne _ _ (by omega)]) hs2
  have hs52 : shF G49 (b + 7) := shF_congr (fun a h1 h2 => by rw [eG49, va_up_ne _ _ (by omega)]; rw [eG47, va_up_ne _ _ (by omega)]; rw [eG45, va_up_ne _ _ (by omega)]; rw [hG42 _ (by omega)]; rw [eG41, va_up_ne _ _ (by omega)]; rw [eG38, va_up_ne _ _ (by omega)]; rw [hG35 _ (by omega)]; rw [eG34, va_up_ne _ _ (by omega)]; rw [eG31, va_up_ne _ _ (by omega)]; rw [eG29, va_up_ne _ _ (by omega)]; rw [eG28, va_up_ne _ _ (by omega)]; rw [hG25 _ (by omega)]; rw [eG24, va_up_ne _ _ (by omega)]; rw [eG15, va_up_ne _ _ (by omega)]; rw [hG12 _ (by omega)]; rw [eG11, va_up_ne _ _ (by omega)]; rw [eG10, va_up_ne _ _ (by omega)]) hs7
  have hs53 : shS G49 (b + 75) := shS_congr (fun a h1 h2 => by rw [eG49, va_up_ne _ _ (by omega)]; rw [eG47, va_up_ne _ _ (by omega)]; rw [eG45, va_up_ne _ _ (by omega)]; rw [hG42 _ (by omega)]; rw [eG41, va_up_ne _ _ (by omega)]; rw [eG38, va_up_ne _ _ (by omega)]; rw [hG35 _ (by omega)]; rw [eG34, va_up_ne _ _ (by omega)]; rw [eG31, va_up_ne _ _ (by omega)]; rw [eG29, va_up_ne _ _ (by omega)]; rw [eG28, va_up_ne _ _ (by omega)]; rw [hG25 _ (by omega)]; rw [eG24, va_up_ne _ _ (by omega)]; rw [eG15, va_up_ne _ _ (by omega)]) hs12
  have hs54 : shHi G49 (b + 113) := shHi_congr (fun a h1 h2 => by rw [eG49, va_up_ne _ _ (by omega)]; rw [eG47, va_up_ne _ _ (by omega)]; rw [eG45, va_up_ne _ _ (by omega)]; rw [hG42 _ (by omega)]; rw [eG41, va_up_ne _ _ (by omega)]; rw [eG38, va_up_ne _ _ (by omega)]; rw [hG35 _ (by omega)]; rw [eG34, va_up_ne _ _ (by omega)]; rw [eG31, va_up_ne _ _ (by omega)]; rw [eG29, va_up_ne _ _ (by omega)]; rw [eG28, va_up_ne _ _ (by omega)]) hs25
  have g55 : G49 (b + 267) = some (26, 2, rPart (fun k => some (b + 268 + 38 * k)) 2) := by rw [eG49, va_up_ne _ _ (by omega)]; rw [eG47, va_up_ne _ _ (by omega)]; rw [eG45, vau (by omega)]
  have hs56 : shS G49 (b + 268) := shS_congr (fun a h1 h2 => by rw [eG49, va_up_ne _ _ (by omega)]; rw [eG47, va_up_ne _ _ (by omega)]; rw [eG45, va_up_ne _ _ (by omega)]; rw [hG42 _ (by omega)]; rw [eG41, va_up_ne _ _ (by omega)]; rw [eG38, va_up_ne _ _ (by omega)]) hs35
  have hs57 : shS G49 (b + 306) := shS_congr (fun a h1 h2 => by rw [eG49, va_up_ne _ _ (by omega)]; rw [eG47, va_up_ne _ _ (by omega)]; rw [eG45, va_up_ne _ _ (by omega)]) hs42
  have g58 : G49 (b + 344) = some (22, 2, rN) := by rw [eG49, va_up_ne _ _ (by omega)]; rw [eG47, vau (by omega)]
  refine ⟨rfl, rfl, ⟨g50, hs51, hs52, hs53, hs54, g55, fun k hk => ?_, g58⟩, fun a h1 => by rw [eG49, va_up_ne _ _ (by omega)]; rw [eG47, va_up_ne _ _ (by omega)]; rw [eG45, va_up_ne _ _ (by omega)]; rw [hG42 _ (by omega)]; rw [eG41, va_up_ne _ _ (by omega)]; rw [eG38, va_up_ne _ _ (by omega)]; rw [hG35 _ (by omega)]; rw [eG34, va_up_ne _ _ (by omega)]; rw [eG31, va_up_ne _ _ (by omega)]; rw [eG29, va_up_ne _ _ (by omega)]; rw [eG28, va_up_ne _ _ (by omega)]; rw [hG25 _ (by omega)]; rw [eG24, va_up_ne _ _ (by omega)]; rw [eG15, va_up_ne _ _ (by omega)]; rw [hG12 _ (by omega)]; rw [eG11, va_up_ne _ _ (by omega)]; rw [eG10, va_up_ne _ _ (by omega)]; rw [hG7 _ (by omega)]; rw [eG6, va_up_ne _ _ (by omega)]; rw [eG5, va_up_ne _ _ (by omega)]; rw [hG2 _ (by omega)]; rw [eG1, va_up_ne _ _ (by omega)], fun a h1 => by rw [eI47, xzero_row _ _ (by omega)]; rw [hI42 _ (by omega)]; rw [eI41, xzero_row _ _ (by omega)]; rw [hI35 _ (by omega)]; rw [eI34, xzero_row _ _ (by omega)]; rw [eI29, xzero_row _ _ (by omega)]; rw [hI25 _ (by omega)]; rw [eI24, xzero_row _ _ (by omega)]; rw [hq22 _ (by omega)]; rw [hI12 _ (by omega)]; rw [eI11, xzero_row _ _ (by omega)]; rw [hI7 _ (by omega)]; rw [eI6, xzero_row _ _ (by omega)]; rw [hI2 _ (by omega)]; rw [eI1, xzero_row _ _ (by omega)], fun a h1 => by rw [eL47, xzero_row _ _ (by omega)]; rw [hL42 _ (by omega)]; rw [eL41, xzero_row _ _ (by omega)]; rw [hL35 _ (by omega)]; rw [eL34, xzero_row _ _ (by omega)]; rw [eL29, xzero_row _ _ (by omega)]; rw [hL25 _ (by omega)]; rw [eL24, xzero_row _ _ (by omega)]; rw [hq23 _ (by omega)]; rw [hL12 _ (by omega)]; rw [eL11, xzero_row _ _ (by omega)]; rw [hL7 _ (by omega)]; rw [eL6, xzero_row _ _ (by omega)]; rw [hL2 _ (by omega)]; rw [eL1, xzero_row _ _ (by omega)], stF_congr (fun a h1 h2 => by rw [eI47, xzero_row _ _ (by omega)]; rw [hI42 _ (by omega)]; rw [eI41, xzero_row _ _ (by omega)]; rw [hI35 _ (by omega)]; rw [eI34, xzero_row _ _ (by omega)]; rw [eI29, xzero_row _ _ (by omega)]; rw [hI25 _ (by omega)]; rw [eI24, xzero_row _ _ (by omega)]) (fun a h1 h2 => by rw [eL47, xzero_row _ _ (by omega)]; rw [hL42 _ (by omega)]; rw [eL41, xzero_row _ _ (by omega)]; rw [hL35 _ (by omega)]; rw [eL34, xzero_row _ _ (by omega)]; rw [eL29, xzero_row _ _ (by omega)]; rw [hL25 _ (by omega)]; rw [eL24, xzero_row _ _ (by omega)]) hw19r0, ⟨by rw [eI47, xzero_row _ _ (by omega)]; rw [hI42 _ (by omega)]; rw [eI41, xzero_row _ _ (by omega)]; rw [hI35 _ (by omega)]; rw [eI34, xzero_row _ _ (by omega)]; rw [eI29, xzero_row _ _ (by omega)]; rw [hI25 _ (by omega)]; rw [eI24, xzero_row _ _ (by omega)]; rw [hq22 _ (by omega)]; rw [hI12 _ (by omega)]; rw [eI11, xzero_row _ _ (by omega)]; rw [hI7 _ (by omega)]; rw [eI6, xzero_row _ _ (by omega)]; rw [hI2 _ (by omega)]; rw [eI1, xzero_at], by rw [eI47, xzero_row _ _ (by omega)]; rw [hI42 _ (by omega)]; rw [eI41, xzero_row _ _ (by omega)]; rw [hI35 _ (by omega)]; rw [eI34, xzero_row _ _ (by omega)]; rw [eI29, xzero_row _ _ (by omega)]; rw [hI25 _ (by omega)]; rw [eI24, xzero_row _ _ (by omega)]; rw [hq22 _ (by omega)]; rw [hI12 _ (by omega)]; rw [eI11, xzero_row _ _ (by omega)]; rw [hI7 _ (by omega)]; rw [eI6, xzero_row _ _ (by omega)]; rw [hI2 _ (by omega)]; rw [eI1, xzero_at]⟩, ⟨by rw [eI47, xzero_row _ _ (by omega)]; rw [hI42 _ (by omega)]; rw [eI41, xzero_row _ _ (by omega)]; rw [hI35 _ (by omega)]; rw [eI34, xzero_row _ _ (by omega)]; rw [eI29, xzero_row _ _ (by omega)]; rw [hI25 _ (by omega)]; rw [eI24, xzero_at], by rw [eI47, xzero_row _ _ (by omega)]; rw [hI42 _ (by omega)]; rw [eI41, xzero_row _ _ (by omega)]; rw [hI35 _ (by omega)]; rw [eI34, xzero_row _ _ (by omega)]; rw [eI29, xzero_row _ _ (by omega)]; rw [hI25 _ (by omega)]; rw [eI24, xzero_at]⟩, fun j => by rw [eI47, xzero_at]⟩
  rcases (show k = 0 ∨ k = 1 by omega) with rfl | rfl
  · exact hs56
  · exact hs57
