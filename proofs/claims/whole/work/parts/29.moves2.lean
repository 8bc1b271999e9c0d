/-! PathTracker: again, trackAll, set, equation -/
theorem cntN_congr {p q : Nat → Bool} : ∀ k, (∀ i, i < k → p i = q i) → cntN p k = cntN q k
  | 0, _ => rfl
  | k + 1, h => by simp only [cntN]; rw [cntN_congr k (fun i hi => h i (by omega)), h k (by omega)]
def othZ (I : xI) (o w : Nat) : Bool := (decide (w = 6) && decide (I (o + 75 + 9) 7 = 0)) || (decide (w = 7) && decide (I (o + 75 + 9) 6 = 0))
theorem dX11_again_0 : decode cX11_again 0 = .ok (.aload_n 0, 1) := by decide +kernel
theorem dX11_again_1 : decode cX11_again 1 = .ok (.getfield 26, 3) := by decide +kernel
theorem dX11_again_4 : decode cX11_again 4 = .ok (.iload_n 1, 1) := by decide +kernel
theorem dX11_again_5 : decode cX11_again 5 = .ok (.invokevirtual 98, 3) := by decide +kernel
theorem dX11_again_8 : decode cX11_again 8 = .ok (.ifCond .ne 6, 3) := by decide +kernel
theorem dX11_again_11 : decode cX11_again 11 = .ok (.ldc 48, 2) := by decide +kernel
theorem dX11_again_13 : decode cX11_again 13 = .ok (.ireturn, 1) := by decide +kernel
theorem dX11_again_14 : decode cX11_again 14 = .ok (.aload_n 0, 1) := by decide +kernel
theorem dX11_again_15 : decode cX11_again 15 = .ok (.getfield 36, 3) := by decide +kernel
theorem dX11_again_18 : decode cX11_again 18 = .ok (.aload_n 0, 1) := by decide +kernel
theorem dX11_again_19 : decode cX11_again 19 = .ok (.getfield 26, 3) := by decide +kernel
theorem dX11_again_22 : decode cX11_again 22 = .ok (.invokevirtual 79, 3) := by decide +kernel
theorem dX11_again_25 : decode cX11_again 25 = .ok (.aload_n 0, 1) := by decide +kernel
theorem dX11_again_26 : decode cX11_again 26 = .ok (.getfield 26, 3) := by decide +kernel
theorem dX11_again_29 : decode cX11_again 29 = .ok (.iload_n 1, 1) := by decide +kernel
theorem dX11_again_30 : decode cX11_again 30 = .ok (.invokevirtual 101, 3) := by decide +kernel
theorem dX11_again_33 : decode cX11_again 33 = .ok (.astore_n 2, 1) := by decide +kernel
theorem dX11_again_34 : decode cX11_again 34 = .ok (.aload_n 0, 1) := by decide +kernel
theorem dX11_again_35 : decode cX11_again 35 = .ok (.getfield 26, 3) := by decide +kernel
theorem dX11_again_38 : decode cX11_again 38 = .ok (.iload_n 1, 1) := by decide +kernel
theorem dX11_again_39 : decode cX11_again 39 = .ok (.aload_n 2, 1) := by decide +kernel
theorem dX11_again_40 : decode cX11_again 40 = .ok (.getfield 125, 3) := by decide +kernel
theorem dX11_again_43 : decode cX11_again 43 = .ok (.iconst 2, 1) := by decide +kernel
theorem dX11_again_44 : decode cX11_again 44 = .ok (.idiv, 1) := by decide +kernel
theorem dX11_again_45 : decode cX11_again 45 = .ok (.iconst 1, 1) := by decide +kernel
theorem dX11_again_46 : decode cX11_again 46 = .ok (.invokestatic 128, 3) := by decide +kernel
theorem dX11_again_49 : decode cX11_again 49 = .ok (.invokevirtual 133, 3) := by decide +kernel
theorem dX11_again_52 : decode cX11_again 52 = .ok (.aload_n 2, 1) := by decide +kernel
theorem dX11_again_53 : decode cX11_again 53 = .ok (.getfield 125, 3) := by decide +kernel
theorem dX11_again_56 : decode cX11_again 56 = .ok (.ireturn, 1) := by decide +kernel
set_option maxHeartbeats 1000000 in
set_option maxRecDepth 100000 in
theorem t_X11_again (l : Launch) (D : xD) (z n : Nat) (G : xG) (I : xI) (L : xL) (o : Nat) (k : Nat) (U : Nat) (g : Nat) (F : Nat) (Z : Nat) (hW : shPT G o) (zo : z ≤ o) (hU : I (o + 75) 4 = nI U) (hU9 : U ≤ 9) (hk : k < U) (hg : I (o + 75 + 11 + 3 * k) 5 = nI g) (hg2 : g ≤ 256) (hd0 : 1 ≤ sdg I (o + 75) 0) (hd1 : 1 ≤ sdg I (o + 75) 1) (hF : I (o + 113) 1 = nI F) (hF4 : F < 4) (hZ : I (o + 113) 2 = nI Z) (hZ4 : Z ≤ 4) : xM0 l D z yX11_again cX11_again 3 (some .int) 4 98 [.ref o, .int (nI k)] n G I L (fun v' I' L' => v' = (some (.int (nI (max (g / 2) 1)))) ∧ (recd I L o F Z I' L') ∧ (∀ j, 2 ≤ j → j ≤ 9 → I' (o + 75 + 11 + 3 * k) j = bRow (I (o + 75 + 9) 0) (nI (max (g / 2) 1)) j) ∧ (rd L' (o + 75 + 11 + 3 * k + 1) = hC (rootC (nI (sdg I (o + 75) 0)) (nI (k / sdg I (o + 75) 1)) 1024)) ∧ (rd L' (o + 75 + 11 + 3 * k + 2) = hC (rootC (nI (sdg I (o + 75) 1)) (nI (k % sdg I (o + 75) 1)) 1024)) ∧ (∀ q, q ≠ o + 113 → (q < o + 113 + 2 + 38 * ((F + Z) % 4) ∨ o + 113 + 2 + 38 * ((F + Z) % 4) + 38 ≤ q) → q ≠ o + 75 + 11 + 3 * k → I' q = I q) ∧ (∀ q, (q < o + 113 + 2 + 38 * ((F + Z) % 4) ∨ o + 113 + 2 + 38 * ((F + Z) % 4) + 38 ≤ q) → q ≠ o + 75 + 11 + 3 * k + 1 → q ≠ o + 75 + 11 + 3 * k + 2 → L' q = L q)) := by
  refine xM.of (by decide) (Nat.le_of_ble_eq_true rfl) (fun p e s m args below meth c C hnm hsz => ?_)
  refine x_lv [(0, .ref o), (1, .int (nI k))] rfl ?_
  refine x_aload_n 0 C dX11_again_0 rfl 0 rfl ?_
  refine x_getr 1 C (b := o + 75) dX11_again_1 ff_X11_26 rfl hW.1 rfl ?_
  refine x_iload_n 4 C dX11_again_4 rfl 1 rfl ?_
  refine x_callVe 5 C dX11_again_5 (As := [.int (nI k)]) (rest := []) [.int 1] (t_X9_hasPath_k l D z n G I L (o + 75) k U hW.2.2.2.1 (by first | assumption | omega | decide) (by first | omega | assumption | decide) (by first | omega | assumption | decide)) mt_X9_hasPath km_X11_98 ki_X9_hasPath ks_X9_hasPath hW.2.2.2.1.1 ⟨by decide, rfl⟩ rfl rfl (Nat.le_of_ble_eq_true rfl) ⟨⟨by decide, by decide⟩, by decide, by decide⟩ (fun I1 L2 eI1 eL2 => ?_)
  replace eI1 := eI1.symm; subst eI1
  replace eL2 := eL2.symm; subst eL2
  refine x_if_ne 8 C 14 dX11_again_8 (by decide) (fun _ => ?_) (fun c3 => absurd c3 (by decide))
  refine x_aload_n 14 C dX11_again_14 rfl 0 rfl ?_
  refine x_getr 15 C (b := o + 113) dX11_again_15 ff_X11_36 rfl hW.1 rfl ?_
  refine x_aload_n 18 C dX11_again_18 rfl 0 rfl ?_
  refine x_getr 19 C (b := o + 75) dX11_again_19 ff_X11_26 rfl hW.1 rfl ?_
  refine x_callVp 22 C dX11_again_22 (As := [.ref (o + 75)]) (rest := []) (t_X4_record l D z n G I L (o + 113) (o + 75) F Z hW.2.2.2.2.1 hW.2.2.2.1 (by omega) (by first | omega | assumption | decide) (by first | assumption | omega | decide) (by first | omega | assumption | decide) (by first | assumption | omega | decide) (by first | omega | assumption | decide)) mt_X4_record km_X11_79 ki_X4_record ks_X4_record hW.2.2.2.2.1.1 ⟨by decide, rfl⟩ rfl (Nat.le_of_ble_eq_true rfl) ⟨⟨by decide, by decide⟩, by decide, by decide⟩ (fun w4 I5 L6 hw4 => ?_)
  obtain ⟨hw4v, hw4r0, hw4r1, hw4r2, hw4r3, hw4r4⟩ := hw4
  subst hw4v
  refine x_st [] rfl ?_
  have hrec : recd I L o F Z I5 L6 := ⟨hw4r0, hw4r1, hw4r2⟩
  have hrI : ∀ q, q ≠ o + 113 → (q < o + 113 + 2 + 38 * ((F + Z) % 4) ∨ o + 113 + 2 + 38 * ((F + Z) % 4) + 38 ≤ q) → I5 q = I q := hw4r3
  have hrL : ∀ q, (q < o + 113 + 2 + 38 * ((F + Z) % 4) ∨ o + 113 + 2 + 38 * ((F + Z) % 4) + 38 ≤ q) → L6 q = L q := hw4r4
  have hrS : ∀ q, o + 75 ≤ q → q < o + 75 + 38 → I5 q = I q := fun q h1 h2 => hrI q (by omega) (by omega)
  have hrSL : ∀ q, o + 75 ≤ q → q < o + 75 + 38 → L6 q = L q := fun q h1 h2 => hrL q (by omega)
  have hrU : I5 (o + 75) 4 = I (o + 75) 4 := by rw [hrS _ (by omega) (by omega)]
  have hrd0 : sdg I5 (o + 75) 0 = sdg I (o + 75) 0 := sdg_congr (fun q h1 h2 => hrS q h1 (by omega)) (by omega)
  have hrd1 : sdg I5 (o + 75) 1 = sdg I (o + 75) 1 := sdg_congr (fun q h1 h2 => hrS q h1 (by omega)) (by omega)
  refine x_aload_n 25 C dX11_again_25 rfl 0 rfl ?_
  refine x_getr 26 C (b := o + 75) dX11_again_26 ff_X11_26 rfl hW.1 rfl ?_
  refine x_iload_n 29 C dX11_again_29 rfl 1 rfl ?_
  refine x_callVe 30 C dX11_again_30 (As := [.int (nI k)]) (rest := []) [.ref (o + 75 + 11 + 3 * k)] (t_X9_pathAt l D z n G I5 L6 (o + 75) k U hW.2.2.2.1 (by rw [hrU]; exact hU) (by first | omega | assumption | decide) (by first | omega | assumption | decide)) mt_X9_pathAt km_X11_101 ki_X9_pathAt ks_X9_pathAt hW.2.2.2.1.1 ⟨by decide, rfl⟩ rfl rfl (Nat.le_of_ble_eq_true rfl) ⟨⟨by decide, by decide⟩, by decide, by decide⟩ (fun I7 L8 eI7 eL8 => ?_)
  replace eI7 := eI7.symm; subst eI7
  replace eL8 := eL8.symm; subst eL8
  refine x_astore_n 33 C [(2, .ref (o + 75 + 11 + 3 * k)), (0, .ref o), (1, .int (nI k))] dX11_again_33 rfl (by decide) rfl ?_
  refine x_aload_n 34 C dX11_again_34 rfl 1 rfl ?_
  refine x_getr 35 C (b := o + 75) dX11_again_35 ff_X11_26 rfl hW.1 rfl ?_
  refine x_iload_n 38 C dX11_again_38 rfl 2 rfl ?_
  refine x_aload_n 39 C dX11_again_39 rfl 0 rfl ?_
  refine x_geti 40 C dX11_again_40 ff_X11_125 (hW.2.2.2.1.2.2.2.2 k (by omega)).1 ?_
  refine x_int (nI g) (by rw [hrS _ (by omega) (by omega)]; exact hg) ?_
  refine x_iconst 43 C (v := 2) dX11_again_43 rfl ?_
  refine x_idiv 44 C dX11_again_44 (by first | assumption | decide) ?_
  refine x_int (nI (g / 2)) (nI_half (by omega)) ?_
  refine x_iconst 45 C (v := 1) dX11_again_45 rfl ?_
  refine x_mmax 46 C dX11_again_46 km_X11_128 kt_J9_max_7cf53 kn_J9 kc_J9_max_7cf53 ⟨by decide, Nat.le_of_ble_eq_true rfl, by decide, by decide⟩ ?_
  refine x_int (nI (max (g / 2) 1)) (imax_nI (a := g / 2) (b := 1) (by omega) (by omega)) ?_
  refine x_callVe 49 C dX11_again_49 (As := [.int (nI k), .int (nI (max (g / 2) 1))]) (rest := []) [] (t_X9_beginPath l D z n G I5 L6 (o + 75) k (nI (max (g / 2) 1)) U hW.2.2.2.1 (by omega) (by rw [hrU]; exact hU) (by first | omega | assumption | decide) (by first | omega | assumption | decide) (by rw [hrd1]; exact hd1)) mt_X9_beginPath km_X11_133 ki_X9_beginPath ks_X9_beginPath hW.2.2.2.1.1 ⟨by decide, rfl⟩ rfl rfl (Nat.le_of_ble_eq_true rfl) ⟨⟨by decide, by decide⟩, by decide, by decide⟩ (fun I9 L10 eI9 eL10 => ?_)
  refine x_aload_n 52 C dX11_again_52 rfl 0 rfl ?_
  refine x_geti 53 C dX11_again_53 ff_X11_125 (hW.2.2.2.1.2.2.2.2 k (by omega)).1 ?_
  refine x_int (nI (max (g / 2) 1)) (by rw [eI9]; exact pBegin_row _ _ _ _ (by decide) (by decide)) ?_
  refine x_iret 56 C dX11_again_56 rfl rfl (Nat.le_refl _) (xN.intro ?_)
  rw [hrd0, hrd1, hrS (o + 75 + 9) (by omega) (by omega)] at *
  refine ⟨rfl, recd_congr (fun q h1 h2 => ?_) (fun q h1 h2 => ?_) hrec, fun j j1 j2 => ?_, ?_, ?_, fun q h1 h2 h3 => ?_, fun q h1 h2 h3 => ?_⟩
  · rw [eI9, pBegin_ne _ _ _ (by omega)]
  · rw [eL10, cw_ne _ _ (by omega), cw_ne _ _ (by omega)]
  · rw [eI9, pBegin_row _ _ _ _ j1 j2]
  · rw [eL10, rd_cw_ne _ _ (by omega), rd_cw]
  · rw [eL10, rd_cw]
  · rw [eI9, pBegin_ne _ _ _ h3]; exact hrI q h1 h2
  · rw [eL10, cw_ne _ _ h3, cw_ne _ _ h2]; exact hrL q h1
theorem dX11_trackAll_0 : decode cX11_trackAll 0 = .ok (.iload_n 1, 1) := by decide +kernel
theorem dX11_trackAll_1 : decode cX11_trackAll 1 = .ok (.iconst 1, 1) := by decide +kernel
theorem dX11_trackAll_2 : decode cX11_trackAll 2 = .ok (.if_icmp .lt 10, 3) := by decide +kernel
theorem dX11_trackAll_5 : decode cX11_trackAll 5 = .ok (.iload_n 1, 1) := by decide +kernel
theorem dX11_trackAll_6 : decode cX11_trackAll 6 = .ok (.sipush 200, 3) := by decide +kernel
theorem dX11_trackAll_9 : decode cX11_trackAll 9 = .ok (.if_icmp .le 6, 3) := by decide +kernel
theorem dX11_trackAll_12 : decode cX11_trackAll 12 = .ok (.ldc 48, 2) := by decide +kernel
theorem dX11_trackAll_14 : decode cX11_trackAll 14 = .ok (.ireturn, 1) := by decide +kernel
theorem dX11_trackAll_15 : decode cX11_trackAll 15 = .ok (.aload_n 0, 1) := by decide +kernel
theorem dX11_trackAll_16 : decode cX11_trackAll 16 = .ok (.getfield 36, 3) := by decide +kernel
theorem dX11_trackAll_19 : decode cX11_trackAll 19 = .ok (.aload_n 0, 1) := by decide +kernel
theorem dX11_trackAll_20 : decode cX11_trackAll 20 = .ok (.getfield 26, 3) := by decide +kernel
theorem dX11_trackAll_23 : decode cX11_trackAll 23 = .ok (.invokevirtual 79, 3) := by decide +kernel
theorem dX11_trackAll_26 : decode cX11_trackAll 26 = .ok (.aload_n 0, 1) := by decide +kernel
theorem dX11_trackAll_27 : decode cX11_trackAll 27 = .ok (.getfield 19, 3) := by decide +kernel
theorem dX11_trackAll_30 : decode cX11_trackAll 30 = .ok (.aload_n 0, 1) := by decide +kernel
theorem dX11_trackAll_31 : decode cX11_trackAll 31 = .ok (.getfield 26, 3) := by decide +kernel
theorem dX11_trackAll_34 : decode cX11_trackAll 34 = .ok (.invokevirtual 111, 3) := by decide +kernel
theorem dX11_trackAll_37 : decode cX11_trackAll 37 = .ok (.aload_n 0, 1) := by decide +kernel
theorem dX11_trackAll_38 : decode cX11_trackAll 38 = .ok (.getfield 26, 3) := by decide +kernel
theorem dX11_trackAll_41 : decode cX11_trackAll 41 = .ok (.invokevirtual 118, 3) := by decide +kernel
theorem dX11_trackAll_44 : decode cX11_trackAll 44 = .ok (.istore_n 2, 1) := by decide +kernel
theorem dX11_trackAll_45 : decode cX11_trackAll 45 = .ok (.iconst 0, 1) := by decide +kernel
theorem dX11_trackAll_46 : decode cX11_trackAll 46 = .ok (.istore_n 3, 1) := by decide +kernel
theorem dX11_trackAll_47 : decode cX11_trackAll 47 = .ok (.iload_n 3, 1) := by decide +kernel
theorem dX11_trackAll_48 : decode cX11_trackAll 48 = .ok (.iload_n 2, 1) := by decide +kernel
theorem dX11_trackAll_49 : decode cX11_trackAll 49 = .ok (.if_icmp .ge 26, 3) := by decide +kernel
theorem dX11_trackAll_52 : decode cX11_trackAll 52 = .ok (.aload_n 0, 1) := by decide +kernel
theorem dX11_trackAll_53 : decode cX11_trackAll 53 = .ok (.getfield 19, 3) := by decide +kernel
theorem dX11_trackAll_56 : decode cX11_trackAll 56 = .ok (.aload_n 0, 1) := by decide +kernel
theorem dX11_trackAll_57 : decode cX11_trackAll 57 = .ok (.getfield 26, 3) := by decide +kernel
theorem dX11_trackAll_60 : decode cX11_trackAll 60 = .ok (.iload_n 3, 1) := by decide +kernel
theorem dX11_trackAll_61 : decode cX11_trackAll 61 = .ok (.invokevirtual 101, 3) := by decide +kernel
theorem dX11_trackAll_64 : decode cX11_trackAll 64 = .ok (.iload_n 1, 1) := by decide +kernel
theorem dX11_trackAll_65 : decode cX11_trackAll 65 = .ok (.invokevirtual 114, 3) := by decide +kernel
theorem dX11_trackAll_68 : decode cX11_trackAll 68 = .ok (.pop, 1) := by decide +kernel
theorem dX11_trackAll_69 : decode cX11_trackAll 69 = .ok (.iinc 3 1, 3) := by decide +kernel
theorem dX11_trackAll_72 : decode cX11_trackAll 72 = .ok (.goto (-25), 3) := by decide +kernel
theorem dX11_trackAll_75 : decode cX11_trackAll 75 = .ok (.aload_n 0, 1) := by decide +kernel
theorem dX11_trackAll_76 : decode cX11_trackAll 76 = .ok (.getfield 26, 3) := by decide +kernel
theorem dX11_trackAll_79 : decode cX11_trackAll 79 = .ok (.iconst 0, 1) := by decide +kernel
theorem dX11_trackAll_80 : decode cX11_trackAll 80 = .ok (.invokevirtual 121, 3) := by decide +kernel
theorem dX11_trackAll_83 : decode cX11_trackAll 83 = .ok (.ireturn, 1) := by decide +kernel
set_option maxHeartbeats 1000000 in
set_option maxRecDepth 100000 in
theorem t_X11_trackAll (l : Launch) (D : xD) (z n : Nat) (G : xG) (I : xI) (L : xL) (o : Nat) (U : Nat) (T : Nat) (F : Nat) (Z : Nat) (R : Nat) (s0 : Nat) (hW : shPT G o) (zo : z ≤ o) (hU : I (o + 75) 4 = nI U) (hU9 : U ≤ 9) (hT1 : 1 ≤ T) (hT2 : T ≤ 200) (hw : ∀ i, i < U → wfR (I (o + 75 + 11 + 3 * i))) (hd0 : 1 ≤ sdg I (o + 75) 0) (hd1 : 1 ≤ sdg I (o + 75) 1) (hR : I (o + 75 + 9) 2 = nI R) (hR9 : R ≤ 9) (hs0 : I (o + 75 + 9) 0 = nI s0) (hs0l : s0 ≤ 256) (hF : I (o + 113) 1 = nI F) (hF4 : F < 4) (hZ : I (o + 113) 2 = nI Z) (hZ4 : Z ≤ 4) : xM0 l D z yX11_trackAll cX11_trackAll 4 (some .int) 6 156 [.ref o, .int (nI T)] n G I L (fun v' I' L' => v' = (some (.int (nI (cntN (fun i => decide ((folS I (o + 75) R s0 T (pv I L (o + 75 + 11 + 3 * i))).2.1 2 = 0)) U)))) ∧ (recd I L o F Z I' L') ∧ (∀ i, i < U → pv I' L' (o + 75 + 11 + 3 * i) = (folS I (o + 75) R s0 T (pv I L (o + 75 + 11 + 3 * i))).2 ∧ wfR (I' (o + 75 + 11 + 3 * i))) ∧ (∀ q, q ≠ o + 113 → (q < o + 113 + 2 + 38 * ((F + Z) % 4) ∨ o + 113 + 2 + 38 * ((F + Z) % 4) + 38 ≤ q) → (q < o + 7 ∨ o + 75 ≤ q) → (q < o + 86 ∨ o + 113 ≤ q) → I' q = I q) ∧ (∀ q, (q < o + 113 + 2 + 38 * ((F + Z) % 4) ∨ o + 113 + 2 + 38 * ((F + Z) % 4) + 38 ≤ q) → (q < o + 7 ∨ o + 75 ≤ q) → (q < o + 86 ∨ o + 113 ≤ q) → L' q = L q)) := by
  refine xM.of (by decide) (Nat.le_of_ble_eq_true rfl) (fun p e s m args below meth c C hnm hsz => ?_)
  refine x_lv [(0, .ref o), (1, .int (nI T))] rfl ?_
  refine x_iload_n 0 C dX11_trackAll_0 rfl 1 rfl ?_
  refine x_iconst 1 C (v := 1) dX11_trackAll_1 rfl ?_
  refine x_icmp_lt 2 C 12 dX11_trackAll_2 (by decide) (fun c1 => absurd c1 (fun h => absurd ((nI_ltI (a := T) (b := 1) (by omega) (by omega)).mp h) (by omega))) (fun _ => ?_)
  refine x_iload_n 5 C dX11_trackAll_5 rfl 1 rfl ?_
  refine x_sipush 6 C (v := 200) dX11_trackAll_6 rfl ?_
  refine x_icmp_le 9 C 15 dX11_trackAll_9 (by decide) (fun _ => ?_) (fun c2 => absurd ((nI_leI (a := T) (b := 200) (by omega) (by omega)).mpr (by omega)) c2)
  refine x_aload_n 15 C dX11_trackAll_15 rfl 0 rfl ?_
  refine x_getr 16 C (b := o + 113) dX11_trackAll_16 ff_X11_36 rfl hW.1 rfl ?_
  refine x_aload_n 19 C dX11_trackAll_19 rfl 0 rfl ?_
  refine x_getr 20 C (b := o + 75) dX11_trackAll_20 ff_X11_26 rfl hW.1 rfl ?_
  refine x_callVp 23 C dX11_trackAll_23 (As := [.ref (o + 75)]) (rest := []) (t_X4_record l D z n G I L (o + 113) (o + 75) F Z hW.2.2.2.2.1 hW.2.2.2.1 (by omega) (by first | omega | assumption | decide) (by first | assumption | omega | decide) (by first | omega | assumption | decide) (by first | assumption | omega | decide) (by first | omega | assumption | decide)) mt_X4_record km_X11_79 ki_X4_record ks_X4_record hW.2.2.2.2.1.1 ⟨by decide, rfl⟩ rfl (Nat.le_of_ble_eq_true rfl) ⟨⟨by decide, by decide⟩, by decide, by decide⟩ (fun w3 I4 L5 hw3 => ?_)
  obtain ⟨hw3v, hw3r0, hw3r1, hw3r2, hw3r3, hw3r4⟩ := hw3
  subst hw3v
  refine x_st [] rfl ?_
  have hrec : recd I L o F Z I4 L5 := ⟨hw3r0, hw3r1, hw3r2⟩
  have hrI : ∀ q, q ≠ o + 113 → (q < o + 113 + 2 + 38 * ((F + Z) % 4) ∨ o + 113 + 2 + 38 * ((F + Z) % 4) + 38 ≤ q) → I4 q = I q := hw3r3
  have hrL : ∀ q, (q < o + 113 + 2 + 38 * ((F + Z) % 4) ∨ o + 113 + 2 + 38 * ((F + Z) % 4) + 38 ≤ q) → L5 q = L q := hw3r4
  have hrS : ∀ q, o + 75 ≤ q → q < o + 75 + 38 → I4 q = I q := fun q h1 h2 => hrI q (by omega) (by omega)
  have hrSL : ∀ q, o + 75 ≤ q → q < o + 75 + 38 → L5 q = L q := fun q h1 h2 => hrL q (by omega)
  have hrU : I4 (o + 75) 4 = I (o + 75) 4 := by rw [hrS _ (by omega) (by omega)]
  have hrd0 : sdg I4 (o + 75) 0 = sdg I (o + 75) 0 := sdg_congr (fun q h1 h2 => hrS q h1 (by omega)) (by omega)
  have hrd1 : sdg I4 (o + 75) 1 = sdg I (o + 75) 1 := sdg_congr (fun q h1 h2 => hrS q h1 (by omega)) (by omega)
  refine x_aload_n 26 C dX11_trackAll_26 rfl 0 rfl ?_
  refine x_getr 27 C (b := o + 7) dX11_trackAll_27 ff_X11_19 rfl hW.1 rfl ?_
  refine x_aload_n 30 C dX11_trackAll_30 rfl 0 rfl ?_
  refine x_getr 31 C (b := o + 75) dX11_trackAll_31 ff_X11_26 rfl hW.1 rfl ?_
  refine x_callVp 34 C dX11_trackAll_34 (As := [.ref (o + 75)]) (rest := []) (t_X3_aim l D z n G I4 L5 (o + 7) (o + 75) hW.2.2.1 hW.2.2.2.1 (by omega) (by first | omega | assumption | decide) (by rw [hrd0]; exact hd0) (by rw [hrd1]; exact hd1)) mt_X3_aim km_X11_111 ki_X3_aim ks_X3_aim hW.2.2.1.1 ⟨by decide, rfl⟩ rfl (Nat.le_of_ble_eq_true rfl) ⟨⟨by decide, by decide⟩, by decide, by decide⟩ (fun w6 I7 L8 hw6 => ?_)
  obtain ⟨hw6v, eL8, hw6r0, hw6r1, hw6r2⟩ := hw6
  subst hw6v
  refine x_st [] rfl ?_
  replace eL8 := eL8.symm; subst eL8
  have hAy : aimedS I7 (o + 7 + 1) (yOf I (o + 75)) := by have h : aimedS I7 (o + 7 + 1) (yOf I4 (o + 75)) := hw6r0; rw [yOf_congr (fun q h1 h2 => hrS q h1 (by omega))] at h; exact h
  have hfr := hw6r2
  have hf4 : I7 (o + 7) 4 = I (o + 75 + 9) 0 := by rw [hw6r1.1, hrS _ (by omega) (by omega)]
  have hf5 : I7 (o + 7) 5 = I (o + 75 + 9) 2 := by rw [hw6r1.2.1, hrS _ (by omega) (by omega)]
  have hf6 : I7 (o + 7) 6 = I (o + 75 + 9) 3 := by rw [hw6r1.2.2.1, hrS _ (by omega) (by omega)]
  have hf7 : I7 (o + 7) 7 = I (o + 75 + 9) 4 := by rw [hw6r1.2.2.2, hrS _ (by omega) (by omega)]
  refine x_aload_n 37 C dX11_trackAll_37 rfl 0 rfl ?_
  refine x_getr 38 C (b := o + 75) dX11_trackAll_38 ff_X11_26 rfl hW.1 rfl ?_
  refine x_callVe 41 C dX11_trackAll_41 (As := []) (rest := []) [.int (I7 (o + 75) 4)] (t_X9_pathCount l D z n G I7 L5 (o + 75) hW.2.2.2.1) mt_X9_pathCount km_X11_118 ki_X9_pathCount ks_X9_pathCount hW.2.2.2.1.1 ⟨by decide, rfl⟩ rfl rfl (Nat.le_of_ble_eq_true rfl) ⟨⟨by decide, by decide⟩, by decide, by decide⟩ (fun I9 L10 eI9 eL10 => ?_)
  replace eI9 := eI9.symm; subst eI9
  replace eL10 := eL10.symm; subst eL10
  refine x_int (nI U) (by rw [hfr _ (by omega), hrU]; exact hU) ?_
  refine x_istore_n 44 C [(2, .int (nI U)), (0, .ref o), (1, .int (nI T))] dX11_trackAll_44 rfl (by decide) rfl ?_
  refine x_iconst 45 C (v := 0) dX11_trackAll_45 rfl ?_
  refine x_istore_n 46 C [(3, .int 0), (2, .int (nI U)), (0, .ref o), (1, .int (nI T))] dX11_trackAll_46 rfl (by decide) rfl ?_
  have loop47 : ∀ (fuel : Nat) (k : Nat) (Ik : xI) (Lk : xL), (k ≤ U) → (U + 1 ≤ k + fuel) → (∀ i, i < k → pv Ik Lk (o + 75 + 11 + 3 * i) = (folS I (o + 75) R s0 T (pv I L (o + 75 + 11 + 3 * i))).2 ∧ wfR (Ik (o + 75 + 11 + 3 * i))) → (∀ i, k ≤ i → i < U → Ik (o + 75 + 11 + 3 * i) = I (o + 75 + 11 + 3 * i) ∧ Lk (o + 75 + 11 + 3 * i + 1) = L (o + 75 + 11 + 3 * i + 1) ∧ Lk (o + 75 + 11 + 3 * i + 2) = L (o + 75 + 11 + 3 * i + 2)) → (∀ q, (q < o + 7 ∨ o + 75 ≤ q) → (q < o + 86 ∨ o + 113 ≤ q) → Ik q = I4 q) → (aimedS Ik (o + 7 + 1) (yOf I (o + 75))) → (∀ j, Ik (o + 7) j = I7 (o + 7) j) → (∀ q, (q < o + 7 ∨ o + 75 ≤ q) → (q < o + 86 ∨ o + 113 ≤ q) → Lk q = L5 q) → X p l e (xRm 6 156 0 0) s m args below meth c D z 4 (MQ below (xQc D z n (xN n G (fun v' I' L' => v' = (some (.int (nI (cntN (fun i => decide ((folS I (o + 75) R s0 T (pv I L (o + 75 + 11 + 3 * i))).2.1 2 = 0)) U)))) ∧ (recd I L o F Z I' L') ∧ (∀ i, i < U → pv I' L' (o + 75 + 11 + 3 * i) = (folS I (o + 75) R s0 T (pv I L (o + 75 + 11 + 3 * i))).2 ∧ wfR (I' (o + 75 + 11 + 3 * i))) ∧ (∀ q, q ≠ o + 113 → (q < o + 113 + 2 + 38 * ((F + Z) % 4) ∨ o + 113 + 2 + 38 * ((F + Z) % 4) + 38 ≤ q) → (q < o + 7 ∨ o + 75 ≤ q) → (q < o + 86 ∨ o + 113 ≤ q) → I' q = I q) ∧ (∀ q, (q < o + 113 + 2 + 38 * ((F + Z) % 4) ∨ o + 113 + 2 + 38 * ((F + Z) % 4) + 38 ≤ q) → (q < o + 7 ∨ o + 75 ≤ q) → (q < o + 86 ∨ o + 113 ≤ q) → L' q = L q)))) args s 0 0 (fun a => z ≤ a)) 0 0 n G Ik Lk 47 [(0, .ref o), (1, .int (nI T)), (2, .int (nI U)), (3, .int (nI k))] [] := by
    intro fuel
    induction fuel with
    | zero =>
      intro k Ik Lk hk hf hdn hu hfI hAk h7 hfL
      exact absurd hf (by omega)
    | succ fuel ih =>
      intro k Ik Lk hk hf hdn hu hfI hAk h7 hfL
      have hUk : Ik (o + 75) 4 = nI U := by rw [hfI _ (by omega) (by omega), hrU]; exact hU
      refine x_iload_n 47 C dX11_trackAll_47 rfl 3 rfl ?_
      refine x_iload_n 48 C dX11_trackAll_48 rfl 2 rfl ?_
      refine x_icmp_ge 49 C 75 dX11_trackAll_49 (by decide) (fun c11 => ?_) (fun c11 => ?_)
      · skip
        have c11n : U ≤ k := (nI_leI (a := U) (b := k) (by omega) (by omega)).mp c11
        have c11m : ¬ (k < U) := by omega
        have c11o := Int32.not_lt.mpr c11
        refine x_aload_n 75 C dX11_trackAll_75 rfl 0 rfl ?_
        refine x_getr 76 C (b := o + 75) dX11_trackAll_76 ff_X11_26 rfl hW.1 rfl ?_
        refine x_iconst 79 C (v := 0) dX11_trackAll_79 rfl ?_
        refine x_callVe 80 C dX11_trackAll_80 (As := [.int 0]) (rest := []) [.int (nI (cntN (stIs Ik (o + 75) 0) U))] (t_X9_pathsOfStatus l D z n G Ik Lk (o + 75) 0 U hW.2.2.2.1 hUk (by first | omega | assumption | decide)) mt_X9_pathsOfStatus km_X11_121 ki_X9_pathsOfStatus ks_X9_pathsOfStatus hW.2.2.2.1.1 ⟨by decide, rfl⟩ rfl rfl (Nat.le_of_ble_eq_true rfl) ⟨⟨by decide, by decide⟩, by decide, by decide⟩ (fun I12 L13 eI12 eL13 => ?_)
        replace eI12 := eI12.symm; subst eI12
        replace eL13 := eL13.symm; subst eL13
        refine x_iret 83 C dX11_trackAll_83 rfl rfl (Nat.le_refl _) (xN.intro ?_)
        refine ⟨?_, recd_congr (fun q h1 h2 => (hfI q (by omega) (by omega)).symm) (fun q h1 h2 => (hfL q (by omega) (by omega)).symm) hrec, fun i hi => hdn i (by omega), fun q h1 h2 h3 h4 => by rw [hfI q h3 h4]; exact hrI q h1 h2, fun q h1 h2 h3 => by rw [hfL q h2 h3]; exact hrL q h1⟩
        exact congrArg (fun x => some (Value.int (nI x))) (cntN_congr U (fun i hi => by have h := congrArg (fun v : xP => v.1 2) (hdn i (by omega)).1; simp only [stIs]; exact congrArg (fun x => decide (x = 0)) h))
      · skip
        have c11n : ¬ (U ≤ k) := fun h => c11 ((nI_leI (a := U) (b := k) (by omega) (by omega)).mpr h)
        have c11m : k < U := by omega
        have c11o := Int32.not_le.mp c11
        refine x_aload_n 52 C dX11_trackAll_52 rfl 0 rfl ?_
        refine x_getr 53 C (b := o + 7) dX11_trackAll_53 ff_X11_19 rfl hW.1 rfl ?_
        refine x_aload_n 56 C dX11_trackAll_56 rfl 0 rfl ?_
        refine x_getr 57 C (b := o + 75) dX11_trackAll_57 ff_X11_26 rfl hW.1 rfl ?_
        refine x_iload_n 60 C dX11_trackAll_60 rfl 3 rfl ?_
        refine x_callVe 61 C dX11_trackAll_61 (As := [.int (nI k)]) (rest := [.ref (o + 7)]) [.ref (o + 75 + 11 + 3 * k), .ref (o + 7)] (t_X9_pathAt l D z n G Ik Lk (o + 75) k U hW.2.2.2.1 hUk (by first | omega | assumption | decide) (by first | omega | assumption | decide)) mt_X9_pathAt km_X11_101 ki_X9_pathAt ks_X9_pathAt hW.2.2.2.1.1 ⟨by decide, rfl⟩ rfl rfl (Nat.le_of_ble_eq_true rfl) ⟨⟨by decide, by decide⟩, by decide, by decide⟩ (fun I14 L15 eI14 eL15 => ?_)
        replace eI14 := eI14.symm; subst eI14
        replace eL15 := eL15.symm; subst eL15
        refine x_iload_n 64 C dX11_trackAll_64 rfl 1 rfl ?_
        refine x_callVp 65 C dX11_trackAll_65 (As := [.ref (o + 75 + 11 + 3 * k), .int (nI T)]) (rest := []) (t_X3_follow l D z n G Ik Lk (o + 7) (o + 75 + 11 + 3 * k) T s0 R (yOf I (o + 75)) hW.2.2.1 (by omega) (hW.2.2.2.1.2.2.2.2 k (by omega)) (by omega) (by first | omega | assumption | decide) (by first | omega | assumption | decide) hAk (by rw [h7 5, hf5]; exact hR) (by first | omega | assumption | decide) (by rw [h7 4, hf4]; exact hs0) (by first | omega | assumption | decide) (by rw [(hu k (by omega) (by omega)).1]; exact hw k (by omega))) mt_X3_follow km_X11_114 ki_X3_follow ks_X3_follow hW.2.2.1.1 ⟨by decide, rfl⟩ rfl (Nat.le_of_ble_eq_true rfl) ⟨⟨by decide, by decide⟩, by decide, by decide⟩ (fun w16 I17 L18 hw16 => ?_)
        obtain ⟨hw16v, hw16r0, hw16r1, hw16r2, hw16r3⟩ := hw16
        subst hw16v
        refine x_st [.int (nI (foll (yOf I (o + 75)) R (Ik (o + 7) 6) (Ik (o + 7) 7) (nI s0) T (pv Ik Lk (o + 75 + 11 + 3 * k))).1)] rfl ?_
        refine x_pop 68 C dX11_trackAll_68 rfl ?_
        refine x_iinc 69 C [(3, .int (nI (k + 1))), (0, .ref o), (1, .int (nI T)), (2, .int (nI U))] dX11_trackAll_69 3 rfl (nI_add k 1) (by decide) rfl ?_
        refine x_goto 72 C 47 dX11_trackAll_72 (by decide) ?_
        refine x_sub [(0, .ref o), (1, .int (nI T)), (2, .int (nI U)), (3, .int (nI (k + 1)))] [1, 2, 3, 0] rfl ?_
        have hpv : pv Ik Lk (o + 75 + 11 + 3 * k) = pv I L (o + 75 + 11 + 3 * k) := pv_congr (hu k (by omega) (by omega)).1 (hu k (by omega) (by omega)).2.1 (hu k (by omega) (by omega)).2.2
        have hfo : foll (yOf I (o + 75)) R (Ik (o + 7) 6) (Ik (o + 7) 7) (nI s0) T (pv Ik Lk (o + 75 + 11 + 3 * k)) = folS I (o + 75) R s0 T (pv I L (o + 75 + 11 + 3 * k)) := by rw [h7 6, h7 7, hf6, hf7, hpv]; rfl
        refine ih (k + 1) I17 L18 (by omega) (by omega) (fun i hi => ?_) (fun i h1 h2 => ?_) (fun q h1 h2 => ?_) (aimedS_congr (fun q h1 h2 => by rw [hw16r2 q (by omega)]) hAk) (fun j => by rw [hw16r2 _ (by omega)]; exact h7 j) (fun q h1 h2 => ?_)
        · by_cases hik : i = k
          · subst hik; exact ⟨by rw [← hfo]; exact hw16r0, hw16r1⟩
          · exact ⟨(pv_congr (hw16r2 _ (by omega)) (hw16r3 _ (by omega) (by omega) (by omega)) (hw16r3 _ (by omega) (by omega) (by omega))).trans (hdn i (by omega)).1, by rw [hw16r2 _ (by omega)]; exact (hdn i (by omega)).2⟩
        · have h3 := hu i (by omega) h2; exact ⟨by rw [hw16r2 _ (by omega)]; exact h3.1, by rw [hw16r3 _ (by omega) (by omega) (by omega)]; exact h3.2.1, by rw [hw16r3 _ (by omega) (by omega) (by omega)]; exact h3.2.2⟩
        · rw [hw16r2 q (by omega)]; exact hfI q h1 h2
        · rw [hw16r3 q (by omega) (by omega) (by omega)]; exact hfL q h1 h2
  refine x_sub [(0, .ref o), (1, .int (nI T)), (2, .int (nI U)), (3, .int 0)] [2, 3, 1, 0] rfl ?_
  exact loop47 (U + 1) 0 I7 L5 (by omega) (by omega) (fun i hi => absurd hi (Nat.not_lt_zero i)) (fun i h1 h2 => ⟨by rw [hfr _ (by omega), hrS _ (by omega) (by omega)], hrSL _ (by omega) (by omega), hrSL _ (by omega) (by omega)⟩) (fun q h1 h2 => by rw [hfr q h1]) (hAy) (fun _ => rfl) (fun q h1 h2 => rfl)
theorem dX11_set_0 : decode cX11_set 0 = .ok (.iload_n 1, 1) := by decide +kernel
theorem dX11_set_1 : decode cX11_set 1 = .ok (.ifCond .lt 17, 3) := by decide +kernel
theorem dX11_set_4 : decode cX11_set 4 = .ok (.iload_n 1, 1) := by decide +kernel
theorem dX11_set_5 : decode cX11_set 5 = .ok (.bipush 8, 2) := by decide +kernel
theorem dX11_set_7 : decode cX11_set 7 = .ok (.if_icmp .ge 11, 3) := by decide +kernel
theorem dX11_set_10 : decode cX11_set 10 = .ok (.iload_n 1, 1) := by decide +kernel
theorem dX11_set_11 : decode cX11_set 11 = .ok (.iload_n 2, 1) := by decide +kernel
theorem dX11_set_12 : decode cX11_set 12 = .ok (.invokestatic 168, 3) := by decide +kernel
theorem dX11_set_15 : decode cX11_set 15 = .ok (.ifCond .ne 6, 3) := by decide +kernel
theorem dX11_set_18 : decode cX11_set 18 = .ok (.ldc 48, 2) := by decide +kernel
theorem dX11_set_20 : decode cX11_set 20 = .ok (.ireturn, 1) := by decide +kernel
theorem dX11_set_21 : decode cX11_set 21 = .ok (.iload_n 2, 1) := by decide +kernel
theorem dX11_set_22 : decode cX11_set 22 = .ok (.ifCond .ne 17, 3) := by decide +kernel
theorem dX11_set_25 : decode cX11_set 25 = .ok (.aload_n 0, 1) := by decide +kernel
theorem dX11_set_26 : decode cX11_set 26 = .ok (.getfield 26, 3) := by decide +kernel
theorem dX11_set_29 : decode cX11_set 29 = .ok (.iload_n 1, 1) := by decide +kernel
theorem dX11_set_30 : decode cX11_set 30 = .ok (.invokevirtual 172, 3) := by decide +kernel
theorem dX11_set_33 : decode cX11_set 33 = .ok (.ifCond .eq 6, 3) := by decide +kernel
theorem dX11_set_36 : decode cX11_set 36 = .ok (.ldc 69, 2) := by decide +kernel
theorem dX11_set_38 : decode cX11_set 38 = .ok (.ireturn, 1) := by decide +kernel
theorem dX11_set_39 : decode cX11_set 39 = .ok (.aload_n 0, 1) := by decide +kernel
theorem dX11_set_40 : decode cX11_set 40 = .ok (.getfield 36, 3) := by decide +kernel
theorem dX11_set_43 : decode cX11_set 43 = .ok (.aload_n 0, 1) := by decide +kernel
theorem dX11_set_44 : decode cX11_set 44 = .ok (.getfield 26, 3) := by decide +kernel
theorem dX11_set_47 : decode cX11_set 47 = .ok (.invokevirtual 79, 3) := by decide +kernel
theorem dX11_set_50 : decode cX11_set 50 = .ok (.aload_n 0, 1) := by decide +kernel
theorem dX11_set_51 : decode cX11_set 51 = .ok (.getfield 26, 3) := by decide +kernel
theorem dX11_set_54 : decode cX11_set 54 = .ok (.iload_n 1, 1) := by decide +kernel
theorem dX11_set_55 : decode cX11_set 55 = .ok (.invokevirtual 175, 3) := by decide +kernel
theorem dX11_set_58 : decode cX11_set 58 = .ok (.istore_n 3, 1) := by decide +kernel
theorem dX11_set_59 : decode cX11_set 59 = .ok (.aload_n 0, 1) := by decide +kernel
theorem dX11_set_60 : decode cX11_set 60 = .ok (.getfield 26, 3) := by decide +kernel
theorem dX11_set_63 : decode cX11_set 63 = .ok (.iload_n 1, 1) := by decide +kernel
theorem dX11_set_64 : decode cX11_set 64 = .ok (.iload_n 2, 1) := by decide +kernel
theorem dX11_set_65 : decode cX11_set 65 = .ok (.invokevirtual 178, 3) := by decide +kernel
theorem dX11_set_68 : decode cX11_set 68 = .ok (.iload_n 3, 1) := by decide +kernel
theorem dX11_set_69 : decode cX11_set 69 = .ok (.ireturn, 1) := by decide +kernel
set_option maxHeartbeats 1000000 in
set_option maxRecDepth 100000 in
theorem t_X11_set_5 (l : Launch) (D : xD) (z n : Nat) (G : xG) (I : xI) (L : xL) (o : Nat) (v : Int32) (F : Nat) (Z : Nat) (hW : shPT G o) (zo : z ≤ o) (hin : inRg 5 v = true) (hF : I (o + 113) 1 = nI F) (hF4 : F < 4) (hZ : I (o + 113) 2 = nI Z) (hZ4 : Z ≤ 4) : xM0 l D z yX11_set cX11_set 4 (some .int) 6 141 [.ref o, .int (nI 5), .int v] n G I L (fun v' I' L' => v' = (some (.int (I (o + 75 + 9) 5))) ∧ (recd I L o F Z I' L') ∧ (∀ j, I' (o + 75 + 9) j = if j = 5 then v else I (o + 75 + 9) j) ∧ (∀ q, q ≠ o + 113 → (q < o + 113 + 2 + 38 * ((F + Z) % 4) ∨ o + 113 + 2 + 38 * ((F + Z) % 4) + 38 ≤ q) → q ≠ o + 75 + 9 → I' q = I q) ∧ (∀ q, (q < o + 113 + 2 + 38 * ((F + Z) % 4) ∨ o + 113 + 2 + 38 * ((F + Z) % 4) + 38 ≤ q) → L' q = L q)) := by
  refine xM.of (by decide) (Nat.le_of_ble_eq_true rfl) (fun p e s m args below meth c C hnm hsz => ?_)
  refine x_lv [(0, .ref o), (1, .int (nI 5)), (2, .int v)] rfl ?_
  refine x_iload_n 0 C dX11_set_0 rfl 1 rfl ?_
  refine x_if_lt 1 C 18 dX11_set_1 (by decide) (fun c1 => absurd c1 (by decide)) (fun _ => ?_)
  refine x_iload_n 4 C dX11_set_4 rfl 1 rfl ?_
  refine x_bipush 5 C (v := 8) dX11_set_5 rfl ?_
  refine x_icmp_ge 7 C 18 dX11_set_7 (by decide) (fun c2 => absurd c2 (by decide)) (fun _ => ?_)
  refine x_iload_n 10 C dX11_set_10 rfl 1 rfl ?_
  refine x_iload_n 11 C dX11_set_11 rfl 2 rfl ?_
  refine x_callSe 12 C dX11_set_12 (As := [.int (nI 5), .int v]) (rest := []) [.int (bI (inRg 5 v))] (t_X9_inRange l D z n G I L 5 v (by first | omega | assumption | decide)) mt_X9_inRange km_X11_168 kt_X9_inRange rfl rfl (Nat.le_of_ble_eq_true rfl) ⟨⟨by decide, by decide⟩, by decide, by decide⟩ (fun I3 L4 eI3 eL4 => ?_)
  replace eI3 := eI3.symm; subst eI3
  replace eL4 := eL4.symm; subst eL4
  refine x_if_ne 15 C 21 dX11_set_15 (by decide) (fun _ => ?_) (fun c5 => absurd c5 (bI_n0.mpr hin))
  refine x_iload_n 21 C dX11_set_21 rfl 2 rfl ?_
  have join39 : ∀ (u0 : Unit), (True) → X p l e (xRm 6 141 0 0) s m args below meth c D z 4 (MQ below (xQc D z n (xN n G (fun v' I' L' => v' = (some (.int (I (o + 75 + 9) 5))) ∧ (recd I L o F Z I' L') ∧ (∀ j, I' (o + 75 + 9) j = if j = 5 then v else I (o + 75 + 9) j) ∧ (∀ q, q ≠ o + 113 → (q < o + 113 + 2 + 38 * ((F + Z) % 4) ∨ o + 113 + 2 + 38 * ((F + Z) % 4) + 38 ≤ q) → q ≠ o + 75 + 9 → I' q = I q) ∧ (∀ q, (q < o + 113 + 2 + 38 * ((F + Z) % 4) ∨ o + 113 + 2 + 38 * ((F + Z) % 4) + 38 ≤ q) → L' q = L q)))) args s 0 0 (fun a => z ≤ a)) 0 0 n G I L 39 [(0, .ref o), (1, .int (nI 5)), (2, .int v)] [] := by
    intro u0 hu0
    refine x_aload_n 39 C dX11_set_39 rfl 0 rfl ?_
    refine x_getr 40 C (b := o + 113) dX11_set_40 ff_X11_36 rfl hW.1 rfl ?_
    refine x_aload_n 43 C dX11_set_43 rfl 0 rfl ?_
    refine x_getr 44 C (b := o + 75) dX11_set_44 ff_X11_26 rfl hW.1 rfl ?_
    refine x_callVp 47 C dX11_set_47 (As := [.ref (o + 75)]) (rest := []) (t_X4_record l D z n G I L (o + 113) (o + 75) F Z hW.2.2.2.2.1 hW.2.2.2.1 (by omega) (by first | omega | assumption | decide) (by first | assumption | omega | decide) (by first | omega | assumption | decide) (by first | assumption | omega | decide) (by first | omega | assumption | decide)) mt_X4_record km_X11_79 ki_X4_record ks_X4_record hW.2.2.2.2.1.1 ⟨by decide, rfl⟩ rfl (Nat.le_of_ble_eq_true rfl) ⟨⟨by decide, by decide⟩, by decide, by decide⟩ (fun w7 I8 L9 hw7 => ?_)
    obtain ⟨hw7v, hw7r0, hw7r1, hw7r2, hw7r3, hw7r4⟩ := hw7
    subst hw7v
    refine x_st [] rfl ?_
    have hrec : recd I L o F Z I8 L9 := ⟨hw7r0, hw7r1, hw7r2⟩
    have hrI : ∀ q, q ≠ o + 113 → (q < o + 113 + 2 + 38 * ((F + Z) % 4) ∨ o + 113 + 2 + 38 * ((F + Z) % 4) + 38 ≤ q) → I8 q = I q := hw7r3
    have hrL : ∀ q, (q < o + 113 + 2 + 38 * ((F + Z) % 4) ∨ o + 113 + 2 + 38 * ((F + Z) % 4) + 38 ≤ q) → L9 q = L q := hw7r4
    have hrS : ∀ q, o + 75 ≤ q → q < o + 75 + 38 → I8 q = I q := fun q h1 h2 => hrI q (by omega) (by omega)
    have hrSL : ∀ q, o + 75 ≤ q → q < o + 75 + 38 → L9 q = L q := fun q h1 h2 => hrL q (by omega)
    have hrU : I8 (o + 75) 4 = I (o + 75) 4 := by rw [hrS _ (by omega) (by omega)]
    have hrd0 : sdg I8 (o + 75) 0 = sdg I (o + 75) 0 := sdg_congr (fun q h1 h2 => hrS q h1 (by omega)) (by omega)
    have hrd1 : sdg I8 (o + 75) 1 = sdg I (o + 75) 1 := sdg_congr (fun q h1 h2 => hrS q h1 (by omega)) (by omega)
    refine x_aload_n 50 C dX11_set_50 rfl 0 rfl ?_
    refine x_getr 51 C (b := o + 75) dX11_set_51 ff_X11_26 rfl hW.1 rfl ?_
    refine x_iload_n 54 C dX11_set_54 rfl 1 rfl ?_
    refine x_callVe 55 C dX11_set_55 (As := [.int (nI 5)]) (rest := []) [.int (I8 ((o + 75) + 9) 5)] (t_X9_setting l D z n G I8 L9 (o + 75) 5 hW.2.2.2.1 (by first | omega | assumption | decide)) mt_X9_setting km_X11_175 ki_X9_setting ks_X9_setting hW.2.2.2.1.1 ⟨by decide, rfl⟩ rfl rfl (Nat.le_of_ble_eq_true rfl) ⟨⟨by decide, by decide⟩, by decide, by decide⟩ (fun I10 L11 eI10 eL11 => ?_)
    replace eI10 := eI10.symm; subst eI10
    replace eL11 := eL11.symm; subst eL11
    refine x_int (I (o + 75 + 9) 5) (by rw [hrS _ (by omega) (by omega)]) ?_
    refine x_istore_n 58 C [(3, .int (I (o + 75 + 9) 5)), (0, .ref o), (1, .int (nI 5)), (2, .int v)] dX11_set_58 rfl (by decide) rfl ?_
    refine x_aload_n 59 C dX11_set_59 rfl 1 rfl ?_
    refine x_getr 60 C (b := o + 75) dX11_set_60 ff_X11_26 rfl hW.1 rfl ?_
    refine x_iload_n 63 C dX11_set_63 rfl 2 rfl ?_
    refine x_iload_n 64 C dX11_set_64 rfl 3 rfl ?_
    refine x_callVe 65 C dX11_set_65 (As := [.int (nI 5), .int v]) (rest := []) [] (t_X9_putSetting_5 l D z n G I8 L9 (o + 75) v hW.2.2.2.1 (by omega)) mt_X9_putSetting km_X11_178 ki_X9_putSetting ks_X9_putSetting hW.2.2.2.1.1 ⟨by decide, rfl⟩ rfl rfl (Nat.le_of_ble_eq_true rfl) ⟨⟨by decide, by decide⟩, by decide, by decide⟩ (fun I12 L13 eI12 eL13 => ?_)
    replace eL13 := eL13.symm; subst eL13
    refine x_iload_n 68 C dX11_set_68 rfl 0 rfl ?_
    refine x_iret 69 C dX11_set_69 rfl rfl (Nat.le_refl _) (xN.intro ?_)
    exact ⟨rfl, recd_congr (fun q h1 h2 => by rw [eI12, xup_row _ _ (by omega)]) (fun _ _ _ => rfl) hrec, fun j => by rw [eI12, xup_at, hrS _ (by omega) (by omega)], fun q h1 h2 h3 => by rw [eI12, xup_row _ _ h3]; exact hrI q h1 h2, fun q h1 => hrL q h1⟩
  refine x_if_ne 22 C 39 dX11_set_22 (by decide) (fun c6 => ?_) (fun c6 => ?_)
  · skip
    refine x_sub [(0, .ref o), (1, .int (nI 5)), (2, .int v)] [0, 1, 2] rfl ?_
    exact join39 () trivial
  · skip
    have hv0 : v = 0 := c6
    refine x_aload_n 25 C dX11_set_25 rfl 0 rfl ?_
    refine x_getr 26 C (b := o + 75) dX11_set_26 ff_X11_26 rfl hW.1 rfl ?_
    refine x_iload_n 29 C dX11_set_29 rfl 1 rfl ?_
    refine x_callVe 30 C dX11_set_30 (As := [.int (nI 5)]) (rest := []) [.int (bI ((decide (5 = 6) && decide (I ((o + 75) + 9) 7 = 0)) || (decide (5 = 7) && decide (I ((o + 75) + 9) 6 = 0))))] (t_X9_isOtherGammaPartZero l D z n G I L (o + 75) 5 hW.2.2.2.1 (by first | omega | assumption | decide)) mt_X9_isOtherGammaPartZero km_X11_172 ki_X9_isOtherGammaPartZero ks_X9_isOtherGammaPartZero hW.2.2.2.1.1 ⟨by decide, rfl⟩ rfl rfl (Nat.le_of_ble_eq_true rfl) ⟨⟨by decide, by decide⟩, by decide, by decide⟩ (fun I14 L15 eI14 eL15 => ?_)
    replace eI14 := eI14.symm; subst eI14
    replace eL15 := eL15.symm; subst eL15
    refine x_if_eq 33 C 39 dX11_set_33 (by decide) (fun _ => ?_) (fun c16 => absurd (by simp [bI]) c16)
    refine x_sub [(0, .ref o), (1, .int (nI 5)), (2, .int v)] [0, 1, 2] rfl ?_
    exact join39 () trivial
set_option maxHeartbeats 1000000 in
set_option maxRecDepth 100000 in
theorem t_X11_set_n (l : Launch) (D : xD) (z n : Nat) (G : xG) (I : xI) (L : xL) (o : Nat) (w : Nat) (v : Int32) (F : Nat) (Z : Nat) (hW : shPT G o) (zo : z ≤ o) (hw : w < 8) (hin : inRg w v = true) (hgz : ¬ (v = 0 ∧ othZ I o w = true)) (hw5 : ¬ w = 5) (hd0 : 1 ≤ sdg I (o + 75) 0) (hd1 : 1 ≤ sdg I (o + 75) 1) (hF : I (o + 113) 1 = nI F) (hF4 : F < 4) (hZ : I (o + 113) 2 = nI Z) (hZ4 : Z ≤ 4) : xM0 l D z yX11_set cX11_set 4 (some .int) 6 141 [.ref o, .int (nI w), .int v] n G I L (fun v' I' L' => v' = (some (.int (I (o + 75 + 9) w))) ∧ (recd I L o F Z I' L') ∧ (I' (o + 75) 4 = nI (sdg I (o + 75) 0 * sdg I (o + 75) 1)) ∧ (begun I' L' (o + 75) (sdg I (o + 75) 0) (sdg I (o + 75) 1) (if w = 0 then v else I (o + 75 + 9) 0) (if w = 1 then v else I (o + 75 + 9) 1) (sdg I (o + 75) 0 * sdg I (o + 75) 1)) ∧ (∀ j, I' (o + 75 + 9) j = if j = w then v else I (o + 75 + 9) j) ∧ (∀ b, b < 2 → I' (o + 75 + 1 + 4 * b + 1) = I (o + 75 + 1 + 4 * b + 1) ∧ I' (o + 75 + 1 + 4 * b + 2) = I (o + 75 + 1 + 4 * b + 2)) ∧ (∀ q, q ≠ o + 113 → (q < o + 113 + 2 + 38 * ((F + Z) % 4) ∨ o + 113 + 2 + 38 * ((F + Z) % 4) + 38 ≤ q) → (q < o + 75 ∨ o + 113 ≤ q) → I' q = I q) ∧ (∀ q, (q < o + 113 + 2 + 38 * ((F + Z) % 4) ∨ o + 113 + 2 + 38 * ((F + Z) % 4) + 38 ≤ q) → (q < o + 75 ∨ o + 113 ≤ q) → L' q = L q)) := by
  refine xM.of (by decide) (Nat.le_of_ble_eq_true rfl) (fun p e s m args below meth c C hnm hsz => ?_)
  refine x_lv [(0, .ref o), (1, .int (nI w)), (2, .int v)] rfl ?_
  refine x_iload_n 0 C dX11_set_0 rfl 1 rfl ?_
  refine x_if_lt 1 C 18 dX11_set_1 (by decide) (fun c1 => absurd c1 (nI_pos (n := w) (by omega))) (fun _ => ?_)
  refine x_iload_n 4 C dX11_set_4 rfl 1 rfl ?_
  refine x_bipush 5 C (v := 8) dX11_set_5 rfl ?_
  refine x_icmp_ge 7 C 18 dX11_set_7 (by decide) (fun c2 => absurd c2 (fun h => absurd ((nI_leI (a := 8) (b := w) (by omega) (by omega)).mp h) (by omega))) (fun _ => ?_)
  refine x_iload_n 10 C dX11_set_10 rfl 1 rfl ?_
  refine x_iload_n 11 C dX11_set_11 rfl 2 rfl ?_
  refine x_callSe 12 C dX11_set_12 (As := [.int (nI w), .int v]) (rest := []) [.int (bI (inRg w v))] (t_X9_inRange l D z n G I L w v (by first | omega | assumption | decide)) mt_X9_inRange km_X11_168 kt_X9_inRange rfl rfl (Nat.le_of_ble_eq_true rfl) ⟨⟨by decide, by decide⟩, by decide, by decide⟩ (fun I3 L4 eI3 eL4 => ?_)
  replace eI3 := eI3.symm; subst eI3
  replace eL4 := eL4.symm; subst eL4
  refine x_if_ne 15 C 21 dX11_set_15 (by decide) (fun _ => ?_) (fun c5 => absurd c5 (bI_n0.mpr hin))
  refine x_iload_n 21 C dX11_set_21 rfl 2 rfl ?_
  have join39 : ∀ (u0 : Unit), (True) → X p l e (xRm 6 141 0 0) s m args below meth c D z 4 (MQ below (xQc D z n (xN n G (fun v' I' L' => v' = (some (.int (I (o + 75 + 9) w))) ∧ (recd I L o F Z I' L') ∧ (I' (o + 75) 4 = nI (sdg I (o + 75) 0 * sdg I (o + 75) 1)) ∧ (begun I' L' (o + 75) (sdg I (o + 75) 0) (sdg I (o + 75) 1) (if w = 0 then v else I (o + 75 + 9) 0) (if w = 1 then v else I (o + 75 + 9) 1) (sdg I (o + 75) 0 * sdg I (o + 75) 1)) ∧ (∀ j, I' (o + 75 + 9) j = if j = w then v else I (o + 75 + 9) j) ∧ (∀ b, b < 2 → I' (o + 75 + 1 + 4 * b + 1) = I (o + 75 + 1 + 4 * b + 1) ∧ I' (o + 75 + 1 + 4 * b + 2) = I (o + 75 + 1 + 4 * b + 2)) ∧ (∀ q, q ≠ o + 113 → (q < o + 113 + 2 + 38 * ((F + Z) % 4) ∨ o + 113 + 2 + 38 * ((F + Z) % 4) + 38 ≤ q) → (q < o + 75 ∨ o + 113 ≤ q) → I' q = I q) ∧ (∀ q, (q < o + 113 + 2 + 38 * ((F + Z) % 4) ∨ o + 113 + 2 + 38 * ((F + Z) % 4) + 38 ≤ q) → (q < o + 75 ∨ o + 113 ≤ q) → L' q = L q)))) args s 0 0 (fun a => z ≤ a)) 0 0 n G I L 39 [(0, .ref o), (1, .int (nI w)), (2, .int v)] [] := by
    intro u0 hu0
    refine x_aload_n 39 C dX11_set_39 rfl 0 rfl ?_
    refine x_getr 40 C (b := o + 113) dX11_set_40 ff_X11_36 rfl hW.1 rfl ?_
    refine x_aload_n 43 C dX11_set_43 rfl 0 rfl ?_
    refine x_getr 44 C (b := o + 75) dX11_set_44 ff_X11_26 rfl hW.1 rfl ?_
    refine x_callVp 47 C dX11_set_47 (As := [.ref (o + 75)]) (rest := []) (t_X4_record l D z n G I L (o + 113) (o + 75) F Z hW.2.2.2.2.1 hW.2.2.2.1 (by omega) (by first | omega | assumption | decide) (by first | assumption | omega | decide) (by first | omega | assumption | decide) (by first | assumption | omega | decide) (by first | omega | assumption | decide)) mt_X4_record km_X11_79 ki_X4_record ks_X4_record hW.2.2.2.2.1.1 ⟨by decide, rfl⟩ rfl (Nat.le_of_ble_eq_true rfl) ⟨⟨by decide, by decide⟩, by decide, by decide⟩ (fun w7 I8 L9 hw7 => ?_)
    obtain ⟨hw7v, hw7r0, hw7r1, hw7r2, hw7r3, hw7r4⟩ := hw7
    subst hw7v
    refine x_st [] rfl ?_
    have hrec : recd I L o F Z I8 L9 := ⟨hw7r0, hw7r1, hw7r2⟩
    have hrI : ∀ q, q ≠ o + 113 → (q < o + 113 + 2 + 38 * ((F + Z) % 4) ∨ o + 113 + 2 + 38 * ((F + Z) % 4) + 38 ≤ q) → I8 q = I q := hw7r3
    have hrL : ∀ q, (q < o + 113 + 2 + 38 * ((F + Z) % 4) ∨ o + 113 + 2 + 38 * ((F + Z) % 4) + 38 ≤ q) → L9 q = L q := hw7r4
    have hrS : ∀ q, o + 75 ≤ q → q < o + 75 + 38 → I8 q = I q := fun q h1 h2 => hrI q (by omega) (by omega)
    have hrSL : ∀ q, o + 75 ≤ q → q < o + 75 + 38 → L9 q = L q := fun q h1 h2 => hrL q (by omega)
    have hrU : I8 (o + 75) 4 = I (o + 75) 4 := by rw [hrS _ (by omega) (by omega)]
    have hrd0 : sdg I8 (o + 75) 0 = sdg I (o + 75) 0 := sdg_congr (fun q h1 h2 => hrS q h1 (by omega)) (by omega)
    have hrd1 : sdg I8 (o + 75) 1 = sdg I (o + 75) 1 := sdg_congr (fun q h1 h2 => hrS q h1 (by omega)) (by omega)
    refine x_aload_n 50 C dX11_set_50 rfl 0 rfl ?_
    refine x_getr 51 C (b := o + 75) dX11_set_51 ff_X11_26 rfl hW.1 rfl ?_
    refine x_iload_n 54 C dX11_set_54 rfl 1 rfl ?_
    refine x_callVe 55 C dX11_set_55 (As := [.int (nI w)]) (rest := []) [.int (I8 ((o + 75) + 9) w)] (t_X9_setting l D z n G I8 L9 (o + 75) w hW.2.2.2.1 (by first | omega | assumption | decide)) mt_X9_setting km_X11_175 ki_X9_setting ks_X9_setting hW.2.2.2.1.1 ⟨by decide, rfl⟩ rfl rfl (Nat.le_of_ble_eq_true rfl) ⟨⟨by decide, by decide⟩, by decide, by decide⟩ (fun I10 L11 eI10 eL11 => ?_)
    replace eI10 := eI10.symm; subst eI10
    replace eL11 := eL11.symm; subst eL11
    refine x_int (I (o + 75 + 9) w) (by rw [hrS _ (by omega) (by omega)]) ?_
    refine x_istore_n 58 C [(3, .int (I (o + 75 + 9) w)), (0, .ref o), (1, .int (nI w)), (2, .int v)] dX11_set_58 rfl (by decide) rfl ?_
    refine x_aload_n 59 C dX11_set_59 rfl 1 rfl ?_
    refine x_getr 60 C (b := o + 75) dX11_set_60 ff_X11_26 rfl hW.1 rfl ?_
    refine x_iload_n 63 C dX11_set_63 rfl 2 rfl ?_
    refine x_iload_n 64 C dX11_set_64 rfl 3 rfl ?_
    refine x_callVp 65 C dX11_set_65 (As := [.int (nI w), .int v]) (rest := []) (t_X9_putSetting_n l D z n G I8 L9 (o + 75) w v hW.2.2.2.1 (by omega) (by first | omega | assumption | decide) (by first | assumption | omega | decide) (by rw [hrd0]; exact hd0) (by rw [hrd1]; exact hd1)) mt_X9_putSetting km_X11_178 ki_X9_putSetting ks_X9_putSetting hW.2.2.2.1.1 ⟨by decide, rfl⟩ rfl (Nat.le_of_ble_eq_true rfl) ⟨⟨by decide, by decide⟩, by decide, by decide⟩ (fun w12 I13 L14 hw12 => ?_)
    obtain ⟨hw12v, hw12r0, hw12r1, hw12r2, hw12r3, hw12r4, hw12r5⟩ := hw12
    subst hw12v
    refine x_st [] rfl ?_
    refine x_iload_n 68 C dX11_set_68 rfl 0 rfl ?_
    refine x_iret 69 C dX11_set_69 rfl rfl (Nat.le_refl _) (xN.intro ?_)
    refine ⟨rfl, recd_congr (fun q h1 h2 => (hw12r4 q (by omega)).symm) (fun q h1 h2 => (hw12r5 q (by omega)).symm) hrec, by rw [hw12r0, hrd0, hrd1], ?_, fun j => by rw [hw12r2, hrS _ (by omega) (by omega)], fun b hb => ?_, fun q h1 h2 h3 => by rw [hw12r4 q (by omega)]; exact hrI q h1 h2, fun q h1 h2 => by rw [hw12r5 q (by omega)]; exact hrL q h1⟩
    · have h := hw12r1; rw [hrd0, hrd1, xup_at, xup_at, hrS (o + 75 + 9) (by omega) (by omega)] at h
      rw [show (if w = 0 then v else I (o + 75 + 9) 0) = (if 0 = w then v else I (o + 75 + 9) 0) by simp only [eq_comm], show (if w = 1 then v else I (o + 75 + 9) 1) = (if 1 = w then v else I (o + 75 + 9) 1) by simp only [eq_comm]]; exact h
    · rw [(hw12r3 b hb).1, (hw12r3 b hb).2, hrS _ (by omega) (by omega), hrS _ (by omega) (by omega)]; exact ⟨rfl, rfl⟩
  refine x_if_ne 22 C 39 dX11_set_22 (by decide) (fun c6 => ?_) (fun c6 => ?_)
  · skip
    refine x_sub [(0, .ref o), (1, .int (nI w)), (2, .int v)] [0, 1, 2] rfl ?_
    exact join39 () trivial
  · skip
    have hv0 : v = 0 := c6
    refine x_aload_n 25 C dX11_set_25 rfl 0 rfl ?_
    refine x_getr 26 C (b := o + 75) dX11_set_26 ff_X11_26 rfl hW.1 rfl ?_
    refine x_iload_n 29 C dX11_set_29 rfl 1 rfl ?_
    refine x_callVe 30 C dX11_set_30 (As := [.int (nI w)]) (rest := []) [.int (bI ((decide (w = 6) && decide (I ((o + 75) + 9) 7 = 0)) || (decide (w = 7) && decide (I ((o + 75) + 9) 6 = 0))))] (t_X9_isOtherGammaPartZero l D z n G I L (o + 75) w hW.2.2.2.1 (by first | omega | assumption | decide)) mt_X9_isOtherGammaPartZero km_X11_172 ki_X9_isOtherGammaPartZero ks_X9_isOtherGammaPartZero hW.2.2.2.1.1 ⟨by decide, rfl⟩ rfl rfl (Nat.le_of_ble_eq_true rfl) ⟨⟨by decide, by decide⟩, by decide, by decide⟩ (fun I15 L16 eI15 eL16 => ?_)
    replace eI15 := eI15.symm; subst eI15
    replace eL16 := eL16.symm; subst eL16
    refine x_if_eq 33 C 39 dX11_set_33 (by decide) (fun _ => ?_) (fun c17 => absurd (bI_0.mpr (by cases hx : othZ I o w with | false => exact hx | true => exact absurd ⟨hv0, hx⟩ hgz)) c17)
    refine x_sub [(0, .ref o), (1, .int (nI w)), (2, .int v)] [0, 1, 2] rfl ?_
    exact join39 () trivial
