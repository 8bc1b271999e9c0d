/-! PathTracker: equation, and what is refused -/
def rdI (I : xI) (o : Nat) (t : Nat → Nat) (N : Nat) : xI := xup (eqFill I (o + 1 + 2) 10 (rdAll t N).2.2.1 (rdAll t N).2.2.2) (o + 1) 3 (nI (rdAll t N).2.1)
def rdD (t : Nat → Nat) (N : Nat) : Nat := dgN (rdAll t N).2.2.1 (rdAll t N).2.2.2 10
theorem rdI_out (I : xI) (o : Nat) (t : Nat → Nat) (N : Nat) {q : Nat} (h : q < o + 1 ∨ o + 7 ≤ q) : rdI I o t N q = I q := by
  unfold rdI; rw [xup_row _ _ (by omega), eqFill_ne _ _ _ _ _ (by omega) (by omega)]
theorem rdI_dg (I : xI) (o : Nat) (t : Nat → Nat) (N : Nat) : dgN (rdI I o t N (o + 1 + 2 + 1)) (rdI I o t N (o + 1 + 2 + 2)) 10 = rdD t N := by
  unfold rdD rdI
  exact dgN_congr (fun j hj => by rw [xup_row _ _ (by omega), eqFill_re _ _ _ _ hj]) (fun j hj => by rw [xup_row _ _ (by omega), eqFill_im _ _ _ _ hj]) 10 (Nat.le_refl _)
theorem dX11_equation_0 : decode cX11_equation 0 = .ok (.iload_n 1, 1) := by decide +kernel
theorem dX11_equation_1 : decode cX11_equation 1 = .ok (.ifCond .lt 8, 3) := by decide +kernel
theorem dX11_equation_4 : decode cX11_equation 4 = .ok (.iload_n 1, 1) := by decide +kernel
theorem dX11_equation_5 : decode cX11_equation 5 = .ok (.iconst 1, 1) := by decide +kernel
theorem dX11_equation_6 : decode cX11_equation 6 = .ok (.if_icmp .le 6, 3) := by decide +kernel
theorem dX11_equation_9 : decode cX11_equation 9 = .ok (.ldc 48, 2) := by decide +kernel
theorem dX11_equation_11 : decode cX11_equation 11 = .ok (.ireturn, 1) := by decide +kernel
theorem dX11_equation_12 : decode cX11_equation 12 = .ok (.aload_n 0, 1) := by decide +kernel
theorem dX11_equation_13 : decode cX11_equation 13 = .ok (.getfield 10, 3) := by decide +kernel
theorem dX11_equation_16 : decode cX11_equation 16 = .ok (.invokevirtual 61, 3) := by decide +kernel
theorem dX11_equation_19 : decode cX11_equation 19 = .ok (.ifCond .ne 6, 3) := by decide +kernel
theorem dX11_equation_22 : decode cX11_equation 22 = .ok (.ldc 69, 2) := by decide +kernel
theorem dX11_equation_24 : decode cX11_equation 24 = .ok (.ireturn, 1) := by decide +kernel
theorem dX11_equation_25 : decode cX11_equation 25 = .ok (.aload_n 0, 1) := by decide +kernel
theorem dX11_equation_26 : decode cX11_equation 26 = .ok (.getfield 10, 3) := by decide +kernel
theorem dX11_equation_29 : decode cX11_equation 29 = .ok (.invokevirtual 70, 3) := by decide +kernel
theorem dX11_equation_32 : decode cX11_equation 32 = .ok (.invokevirtual 74, 3) := by decide +kernel
theorem dX11_equation_35 : decode cX11_equation 35 = .ok (.istore_n 2, 1) := by decide +kernel
theorem dX11_equation_36 : decode cX11_equation 36 = .ok (.iload_n 2, 1) := by decide +kernel
theorem dX11_equation_37 : decode cX11_equation 37 = .ok (.ifCond .ne 6, 3) := by decide +kernel
theorem dX11_equation_40 : decode cX11_equation 40 = .ok (.ldc 69, 2) := by decide +kernel
theorem dX11_equation_42 : decode cX11_equation 42 = .ok (.ireturn, 1) := by decide +kernel
theorem dX11_equation_43 : decode cX11_equation 43 = .ok (.aload_n 0, 1) := by decide +kernel
theorem dX11_equation_44 : decode cX11_equation 44 = .ok (.getfield 36, 3) := by decide +kernel
theorem dX11_equation_47 : decode cX11_equation 47 = .ok (.aload_n 0, 1) := by decide +kernel
theorem dX11_equation_48 : decode cX11_equation 48 = .ok (.getfield 26, 3) := by decide +kernel
theorem dX11_equation_51 : decode cX11_equation 51 = .ok (.invokevirtual 79, 3) := by decide +kernel
theorem dX11_equation_54 : decode cX11_equation 54 = .ok (.aload_n 0, 1) := by decide +kernel
theorem dX11_equation_55 : decode cX11_equation 55 = .ok (.getfield 26, 3) := by decide +kernel
theorem dX11_equation_58 : decode cX11_equation 58 = .ok (.iload_n 1, 1) := by decide +kernel
theorem dX11_equation_59 : decode cX11_equation 59 = .ok (.aload_n 0, 1) := by decide +kernel
theorem dX11_equation_60 : decode cX11_equation 60 = .ok (.getfield 10, 3) := by decide +kernel
theorem dX11_equation_63 : decode cX11_equation 63 = .ok (.invokevirtual 70, 3) := by decide +kernel
theorem dX11_equation_66 : decode cX11_equation 66 = .ok (.invokevirtual 83, 3) := by decide +kernel
theorem dX11_equation_69 : decode cX11_equation 69 = .ok (.aload_n 0, 1) := by decide +kernel
theorem dX11_equation_70 : decode cX11_equation 70 = .ok (.getfield 10, 3) := by decide +kernel
theorem dX11_equation_73 : decode cX11_equation 73 = .ok (.invokevirtual 58, 3) := by decide +kernel
theorem dX11_equation_76 : decode cX11_equation 76 = .ok (.iload_n 2, 1) := by decide +kernel
theorem dX11_equation_77 : decode cX11_equation 77 = .ok (.ireturn, 1) := by decide +kernel
set_option maxHeartbeats 1000000 in
set_option maxRecDepth 100000 in
theorem t_X11_equation (l : Launch) (D : xD) (z n : Nat) (G : xG) (I : xI) (L : xL) (o : Nat) (b : Nat) (t : Nat → Nat) (N : Nat) (r : Nat) (F : Nat) (Z : Nat) (hW : shPT G o) (zo : z ≤ o) (hb : b < 2) (hT : tx I (o + 1) t N r) (hC : txc t N) (hd0 : 1 ≤ sdg I (o + 75) 0) (hd1 : 1 ≤ sdg I (o + 75) 1) (hF : I (o + 113) 1 = nI F) (hF4 : F < 4) (hZ : I (o + 113) 2 = nI Z) (hZ4 : Z ≤ 4) (hok : (rdAll t N).1 = true) (hdg : 1 ≤ rdD t N) : xM0 l D z yX11_equation cX11_equation 3 (some .int) 6 141 [.ref o, .int (nI b)] n G I L (fun v' I' L' => v' = (some (.int (nI (rdD t N)))) ∧ (recd I L o F Z I' L') ∧ (I' (o + 75) 4 = nI (sdg I' (o + 75) 0 * sdg I' (o + 75) 1)) ∧ (begun I' L' (o + 75) (sdg I' (o + 75) 0) (sdg I' (o + 75) 1) (I (o + 75 + 9) 0) (I (o + 75 + 9) 1) (sdg I' (o + 75) 0 * sdg I' (o + 75) 1)) ∧ (I' (o + 75 + 9) = I (o + 75 + 9)) ∧ (∀ j, j < 10 → I' (o + 75 + 1 + 4 * b + 1) j = (rdAll t N).2.2.1 j ∧ I' (o + 75 + 1 + 4 * b + 2) j = (rdAll t N).2.2.2 j) ∧ (I' (o + 75 + 1 + 4 * (1 - b) + 1) = I (o + 75 + 1 + 4 * (1 - b) + 1) ∧ I' (o + 75 + 1 + 4 * (1 - b) + 2) = I (o + 75 + 1 + 4 * (1 - b) + 2)) ∧ (tx I' (o + 1) t 0 (rdAll t N).2.1) ∧ (∀ q, q ≠ o + 113 → (q < o + 113 + 2 + 38 * ((F + Z) % 4) ∨ o + 113 + 2 + 38 * ((F + Z) % 4) + 38 ≤ q) → (q < o + 1 ∨ o + 7 ≤ q) → (q < o + 75 ∨ o + 113 ≤ q) → I' q = I q) ∧ (∀ q, (q < o + 113 + 2 + 38 * ((F + Z) % 4) ∨ o + 113 + 2 + 38 * ((F + Z) % 4) + 38 ≤ q) → (q < o + 75 ∨ o + 113 ≤ q) → L' q = L q)) := by
  refine xM.of (by decide) (Nat.le_of_ble_eq_true rfl) (fun p e s m args below meth c C hnm hsz => ?_)
  refine x_lv [(0, .ref o), (1, .int (nI b))] rfl ?_
  have hdl : rdD t N ≤ 3 := dgN_le _ _ _
  refine x_iload_n 0 C dX11_equation_0 rfl 1 rfl ?_
  refine x_if_lt 1 C 9 dX11_equation_1 (by decide) (fun c1 => absurd c1 (nI_pos (n := b) (by omega))) (fun _ => ?_)
  refine x_iload_n 4 C dX11_equation_4 rfl 1 rfl ?_
  refine x_iconst 5 C (v := 1) dX11_equation_5 rfl ?_
  refine x_icmp_le 6 C 12 dX11_equation_6 (by decide) (fun _ => ?_) (fun c2 => absurd ((nI_leI (a := b) (b := 1) (by omega) (by omega)).mpr (by omega)) c2)
  refine x_aload_n 12 C dX11_equation_12 rfl 0 rfl ?_
  refine x_getr 13 C (b := o + 1) dX11_equation_13 ff_X11_10 rfl hW.1 rfl ?_
  refine x_callVe 16 C dX11_equation_16 (As := []) (rest := []) [.int (bI (rdAll t N).1)] (t_X2_read l D z n G I L (o + 1) t N r hW.2.1 (by omega) (by first | assumption | omega | decide) (by first | assumption | omega | decide)) mt_X2_read km_X11_61 ki_X2_read ks_X2_read hW.2.1.1 ⟨by decide, rfl⟩ rfl rfl (Nat.le_of_ble_eq_true rfl) ⟨⟨by decide, by decide⟩, by decide, by decide⟩ (fun I3 L4 eI3 eL4 => ?_)
  replace eL4 := eL4.symm; subst eL4
  have hI5 : I3 = rdI I o t N := eI3
  refine x_if_ne 19 C 25 dX11_equation_19 (by decide) (fun _ => ?_) (fun c5 => absurd c5 (bI_n0.mpr hok))
  refine x_aload_n 25 C dX11_equation_25 rfl 0 rfl ?_
  refine x_getr 26 C (b := o + 1) dX11_equation_26 ff_X11_10 rfl hW.1 rfl ?_
  refine x_callVe 29 C dX11_equation_29 (As := []) (rest := []) [.ref (o + 1 + 2)] (t_X2_readEquation l D z n G I3 L (o + 1) hW.2.1) mt_X2_readEquation km_X11_70 ki_X2_readEquation ks_X2_readEquation hW.2.1.1 ⟨by decide, rfl⟩ rfl rfl (Nat.le_of_ble_eq_true rfl) ⟨⟨by decide, by decide⟩, by decide, by decide⟩ (fun I6 L7 eI6 eL7 => ?_)
  replace eI6 := eI6.symm; subst eI6
  replace eL7 := eL7.symm; subst eL7
  refine x_callVe 32 C dX11_equation_32 (As := []) (rest := []) [.int (nI (dgN (I3 ((o + 1 + 2) + 1)) (I3 ((o + 1 + 2) + 2)) 10))] (t_X1_degree l D z n G I3 L (o + 1 + 2) hW.2.1.2.2) mt_X1_degree km_X11_74 ki_X1_degree ks_X1_degree hW.2.1.2.2.1 ⟨by decide, rfl⟩ rfl rfl (Nat.le_of_ble_eq_true rfl) ⟨⟨by decide, by decide⟩, by decide, by decide⟩ (fun I8 L9 eI8 eL9 => ?_)
  replace eI8 := eI8.symm; subst eI8
  replace eL9 := eL9.symm; subst eL9
  refine x_int (nI (rdD t N)) (congrArg nI (by rw [hI5]; exact rdI_dg I o t N)) ?_
  refine x_istore_n 35 C [(2, .int (nI (rdD t N))), (0, .ref o), (1, .int (nI b))] dX11_equation_35 rfl (by decide) rfl ?_
  refine x_iload_n 36 C dX11_equation_36 rfl 0 rfl ?_
  refine x_if_ne 37 C 43 dX11_equation_37 (by decide) (fun _ => ?_) (fun c10 => absurd c10 (fun h => absurd ((nI_eq (a := (rdD t N)) (b := 0) (by omega) (by omega)).mp h) (by omega)))
  refine x_aload_n 43 C dX11_equation_43 rfl 1 rfl ?_
  refine x_getr 44 C (b := o + 113) dX11_equation_44 ff_X11_36 rfl hW.1 rfl ?_
  refine x_aload_n 47 C dX11_equation_47 rfl 1 rfl ?_
  refine x_getr 48 C (b := o + 75) dX11_equation_48 ff_X11_26 rfl hW.1 rfl ?_
  refine x_callVp 51 C dX11_equation_51 (As := [.ref (o + 75)]) (rest := []) (t_X4_record l D z n G I3 L (o + 113) (o + 75) F Z hW.2.2.2.2.1 hW.2.2.2.1 (by omega) (by first | omega | assumption | decide) (by rw [hI5, rdI_out I o t N (by omega)]; exact hF) (by first | omega | assumption | decide) (by rw [hI5, rdI_out I o t N (by omega)]; exact hZ) (by first | omega | assumption | decide)) mt_X4_record km_X11_79 ki_X4_record ks_X4_record hW.2.2.2.2.1.1 ⟨by decide, rfl⟩ rfl (Nat.le_of_ble_eq_true rfl) ⟨⟨by decide, by decide⟩, by decide, by decide⟩ (fun w11 I12 L13 hw11 => ?_)
  obtain ⟨hw11v, hw11r0, hw11r1, hw11r2, hw11r3, hw11r4⟩ := hw11
  subst hw11v
  refine x_st [] rfl ?_
  have hbI : ∀ q, (q < o + 1 ∨ o + 7 ≤ q) → I3 q = I q := fun q h => by rw [hI5]; exact rdI_out I o t N h
  have hrec : recd I L o F Z I12 L13 := ⟨hw11r0, hw11r1, stEq_congr (fun q h1 h2 => hbI q (by omega)) (fun _ _ _ => rfl) hw11r2⟩
  have hr5 : ∀ q, q ≠ o + 113 → (q < o + 113 + 2 + 38 * ((F + Z) % 4) ∨ o + 113 + 2 + 38 * ((F + Z) % 4) + 38 ≤ q) → I12 q = I3 q := hw11r3
  have hrI : ∀ q, q ≠ o + 113 → (q < o + 113 + 2 + 38 * ((F + Z) % 4) ∨ o + 113 + 2 + 38 * ((F + Z) % 4) + 38 ≤ q) → (q < o + 1 ∨ o + 7 ≤ q) → I12 q = I q := fun q h1 h2 h3 => (hr5 q h1 h2).trans (hbI q h3)
  have hrL : ∀ q, (q < o + 113 + 2 + 38 * ((F + Z) % 4) ∨ o + 113 + 2 + 38 * ((F + Z) % 4) + 38 ≤ q) → L13 q = L q := hw11r4
  have hrS : ∀ q, o + 75 ≤ q → q < o + 75 + 38 → I12 q = I q := fun q h1 h2 => hrI q (by omega) (by omega) (by omega)
  have hrd0 : sdg I12 (o + 75) 0 = sdg I (o + 75) 0 := sdg_congr (fun q h1 h2 => hrS q h1 (by omega)) (by omega)
  have hrd1 : sdg I12 (o + 75) 1 = sdg I (o + 75) 1 := sdg_congr (fun q h1 h2 => hrS q h1 (by omega)) (by omega)
  have hdT : dgN (I12 (o + 1 + 2 + 1)) (I12 (o + 1 + 2 + 2)) 10 = rdD t N := by rw [hr5 _ (by omega) (by omega), hr5 _ (by omega) (by omega), hI5]; exact rdI_dg I o t N
  refine x_aload_n 54 C dX11_equation_54 rfl 1 rfl ?_
  refine x_getr 55 C (b := o + 75) dX11_equation_55 ff_X11_26 rfl hW.1 rfl ?_
  refine x_iload_n 58 C dX11_equation_58 rfl 2 rfl ?_
  refine x_aload_n 59 C dX11_equation_59 rfl 1 rfl ?_
  refine x_getr 60 C (b := o + 1) dX11_equation_60 ff_X11_10 rfl hW.1 rfl ?_
  refine x_callVe 63 C dX11_equation_63 (As := []) (rest := [.int (nI b), .ref (o + 75)]) [.ref (o + 1 + 2), .int (nI b), .ref (o + 75)] (t_X2_readEquation l D z n G I12 L13 (o + 1) hW.2.1) mt_X2_readEquation km_X11_70 ki_X2_readEquation ks_X2_readEquation hW.2.1.1 ⟨by decide, rfl⟩ rfl rfl (Nat.le_of_ble_eq_true rfl) ⟨⟨by decide, by decide⟩, by decide, by decide⟩ (fun I14 L15 eI14 eL15 => ?_)
  replace eI14 := eI14.symm; subst eI14
  replace eL15 := eL15.symm; subst eL15
  refine x_callVp 66 C dX11_equation_66 (As := [.int (nI b), .ref (o + 1 + 2)]) (rest := []) (t_X9_putEquation l D z n G I12 L13 (o + 75) b (o + 1 + 2) hW.2.2.2.1 hW.2.1.2.2 (by omega) (by first | omega | assumption | decide) (by first | omega | assumption | decide) (by rw [hdT]; exact hdg) (by rcases (show b = 0 ∨ b = 1 by omega) with rfl | rfl; exact hrd1 ▸ hd1; exact hrd0 ▸ hd0)) mt_X9_putEquation km_X11_83 ki_X9_putEquation ks_X9_putEquation hW.2.2.2.1.1 ⟨by decide, rfl⟩ rfl (Nat.le_of_ble_eq_true rfl) ⟨⟨by decide, by decide⟩, by decide, by decide⟩ (fun w16 I17 L18 hw16 => ?_)
  obtain ⟨hw16v, hw16r0, hw16r1, hw16r2, hw16r3, hw16r4, hw16r5, hw16r6⟩ := hw16
  subst hw16v
  refine x_st [] rfl ?_
  refine x_aload_n 69 C dX11_equation_69 rfl 1 rfl ?_
  refine x_getr 70 C (b := o + 1) dX11_equation_70 ff_X11_10 rfl hW.1 rfl ?_
  refine x_callVe 73 C dX11_equation_73 (As := []) (rest := []) [] (t_X2_empty l D z n G I17 L18 (o + 1) hW.2.1 (by omega)) mt_X2_empty km_X11_58 ki_X2_empty ks_X2_empty hW.2.1.1 ⟨by decide, rfl⟩ rfl rfl (Nat.le_of_ble_eq_true rfl) ⟨⟨by decide, by decide⟩, by decide, by decide⟩ (fun I19 L20 eI19 eL20 => ?_)
  replace eL20 := eL20.symm; subst eL20
  refine x_iload_n 76 C dX11_equation_76 rfl 0 rfl ?_
  refine x_iret 77 C dX11_equation_77 rfl rfl (Nat.le_refl _) (xN.intro ?_)
  have hx : ∀ q, q ≠ o + 1 → I19 q = I17 q := fun q h => by rw [eI19, xup_row _ _ h]
  have hs : ∀ q, o + 75 ≤ q → q < o + 113 → I19 q = I17 q := fun q h1 h2 => hx q (by omega)
  have hq0 : sdg I19 (o + 75) 0 = sdg I17 (o + 75) 0 := sdg_congr (fun q h1 h2 => hs q h1 (by omega)) (by omega)
  have hq1 : sdg I19 (o + 75) 1 = sdg I17 (o + 75) 1 := sdg_congr (fun q h1 h2 => hs q h1 (by omega)) (by omega)
  refine ⟨rfl, recd_congr (fun q h1 h2 => by rw [hx q (by omega), hw16r5 q (by omega)]) (fun q h1 h2 => by rw [hw16r6 q (by omega)]) hrec, by rw [hq0, hq1, hx _ (by omega)]; exact hw16r0, ?_, by rw [hx _ (by omega), hw16r2, hrS _ (by omega) (by omega)], fun j hj => ?_, ?_, ⟨fun j hj => absurd hj (Nat.not_lt_zero j), by rw [eI19, xup_self]; rfl, ?_⟩, fun q h1 h2 h3 h4 => by rw [hx q (by omega), hw16r5 q (by omega)]; exact hrI q h1 h2 h3, fun q h1 h2 => by rw [hw16r6 q (by omega)]; exact hrL q h1⟩
  · have h := hw16r1; rw [hrS (o + 75 + 9) (by omega) (by omega)] at h; rw [hq0, hq1]; intro k hk; rw [hs _ (by omega) (by have := dgN_le (I17 (o + 75 + 1 + 4 * 0 + 1)) (I17 (o + 75 + 1 + 4 * 0 + 2)) 10; have := dgN_le (I17 (o + 75 + 1 + 4 * 1 + 1)) (I17 (o + 75 + 1 + 4 * 1 + 2)) 10; have h9 : sdg I17 (o + 75) 0 * sdg I17 (o + 75) 1 ≤ 3 * 3 := Nat.mul_le_mul (by assumption) (by assumption); omega)]; exact h k hk
  · rw [hx _ (by omega), hx _ (by omega), hw16r3.1 j hj, hw16r3.2 j hj, hr5 _ (by omega) (by omega), hr5 _ (by omega) (by omega), hI5]; unfold rdI; rw [xup_row _ _ (by omega), xup_row _ _ (by omega), eqFill_re _ _ _ _ hj, eqFill_im _ _ _ _ hj]; exact ⟨rfl, rfl⟩
  · rw [hx _ (by omega), hx _ (by omega), hw16r4.1, hw16r4.2, hrS _ (by omega) (by omega), hrS _ (by omega) (by omega)]; exact ⟨rfl, rfl⟩
  · rw [eI19, xup_ne _ _ (by omega), hw16r5 _ (by omega), hr5 _ (by omega) (by omega), hI5]; exact xup_self _ _ _ _
set_option maxHeartbeats 1000000 in
set_option maxRecDepth 100000 in
theorem t_X11_equation_bad (l : Launch) (D : xD) (z n : Nat) (G : xG) (I : xI) (L : xL) (o : Nat) (x : Int32) (hW : shPT G o) (hbad : ¬ (0 ≤ x ∧ x ≤ 1)) : xM0 l D z yX11_equation cX11_equation 3 (some .int) 6 141 [.ref o, .int x] n G I L (xE (some (.int (-2000000001))) I L) := by
  refine xM.of (by decide) (Nat.le_of_ble_eq_true rfl) (fun p e s m args below meth c C hnm hsz => ?_)
  refine x_lv [(0, .ref o), (1, .int x)] rfl ?_
  refine x_iload_n 0 C dX11_equation_0 rfl 1 rfl ?_
  refine x_if_lt 1 C 9 dX11_equation_1 (by decide) (fun c1 => ?_) (fun c1 => ?_)
  · skip
    have c1o := Int32.not_le.mpr c1
    refine x_ldc 9 C (-2000000001) dX11_equation_9 kk_X11_48 ?_
    refine x_iret 11 C dX11_equation_11 rfl rfl (Nat.le_refl _) (xN.intro ?_)
    first | exact ⟨rfl, rfl, rfl⟩ | exact ⟨rfl, hI5, rfl⟩
  · skip
    have c1o := Int32.not_lt.mp c1
    refine x_iload_n 4 C dX11_equation_4 rfl 1 rfl ?_
    refine x_iconst 5 C (v := 1) dX11_equation_5 rfl ?_
    refine x_icmp_le 6 C 12 dX11_equation_6 (by decide) (fun c2 => ?_) (fun c2 => ?_)
    · skip
      have c2o := Int32.not_lt.mpr c2
      exact absurd ⟨by assumption, by assumption⟩ hbad
    · skip
      have c2o := Int32.not_le.mp c2
      refine x_ldc 9 C (-2000000001) dX11_equation_9 kk_X11_48 ?_
      refine x_iret 11 C dX11_equation_11 rfl rfl (Nat.le_refl _) (xN.intro ?_)
      first | exact ⟨rfl, rfl, rfl⟩ | exact ⟨rfl, hI5, rfl⟩
set_option maxHeartbeats 1000000 in
set_option maxRecDepth 100000 in
theorem t_X11_equation_fault (l : Launch) (D : xD) (z n : Nat) (G : xG) (I : xI) (L : xL) (o : Nat) (b : Nat) (t : Nat → Nat) (N : Nat) (r : Nat) (hW : shPT G o) (zo : z ≤ o) (hb : b < 2) (hT : tx I (o + 1) t N r) (hC : txc t N) (hok : (rdAll t N).1 = false) : xM0 l D z yX11_equation cX11_equation 3 (some .int) 6 141 [.ref o, .int (nI b)] n G I L (xE (some (.int (-2000000002))) (rdI I o t N) L) := by
  refine xM.of (by decide) (Nat.le_of_ble_eq_true rfl) (fun p e s m args below meth c C hnm hsz => ?_)
  refine x_lv [(0, .ref o), (1, .int (nI b))] rfl ?_
  refine x_iload_n 0 C dX11_equation_0 rfl 1 rfl ?_
  refine x_if_lt 1 C 9 dX11_equation_1 (by decide) (fun c1 => absurd c1 (nI_pos (n := b) (by omega))) (fun _ => ?_)
  refine x_iload_n 4 C dX11_equation_4 rfl 1 rfl ?_
  refine x_iconst 5 C (v := 1) dX11_equation_5 rfl ?_
  refine x_icmp_le 6 C 12 dX11_equation_6 (by decide) (fun _ => ?_) (fun c2 => absurd ((nI_leI (a := b) (b := 1) (by omega) (by omega)).mpr (by omega)) c2)
  refine x_aload_n 12 C dX11_equation_12 rfl 0 rfl ?_
  refine x_getr 13 C (b := o + 1) dX11_equation_13 ff_X11_10 rfl hW.1 rfl ?_
  refine x_callVe 16 C dX11_equation_16 (As := []) (rest := []) [.int (bI (rdAll t N).1)] (t_X2_read l D z n G I L (o + 1) t N r hW.2.1 (by omega) (by first | assumption | omega | decide) (by first | assumption | omega | decide)) mt_X2_read km_X11_61 ki_X2_read ks_X2_read hW.2.1.1 ⟨by decide, rfl⟩ rfl rfl (Nat.le_of_ble_eq_true rfl) ⟨⟨by decide, by decide⟩, by decide, by decide⟩ (fun I3 L4 eI3 eL4 => ?_)
  replace eL4 := eL4.symm; subst eL4
  have hI5 : I3 = rdI I o t N := eI3
  refine x_if_ne 19 C 25 dX11_equation_19 (by decide) (fun c5 => absurd (bI_0.mpr hok) c5) (fun _ => ?_)
  refine x_ldc 22 C (-2000000002) dX11_equation_22 kk_X11_69 ?_
  refine x_iret 24 C dX11_equation_24 rfl rfl (Nat.le_refl _) (xN.intro ?_)
  first | exact ⟨rfl, rfl, rfl⟩ | exact ⟨rfl, hI5, rfl⟩
set_option maxHeartbeats 1000000 in
set_option maxRecDepth 100000 in
theorem t_X11_equation_deg (l : Launch) (D : xD) (z n : Nat) (G : xG) (I : xI) (L : xL) (o : Nat) (b : Nat) (t : Nat → Nat) (N : Nat) (r : Nat) (hW : shPT G o) (zo : z ≤ o) (hb : b < 2) (hT : tx I (o + 1) t N r) (hC : txc t N) (hok : (rdAll t N).1 = true) (hdg : rdD t N = 0) : xM0 l D z yX11_equation cX11_equation 3 (some .int) 6 141 [.ref o, .int (nI b)] n G I L (xE (some (.int (-2000000002))) (rdI I o t N) L) := by
  refine xM.of (by decide) (Nat.le_of_ble_eq_true rfl) (fun p e s m args below meth c C hnm hsz => ?_)
  refine x_lv [(0, .ref o), (1, .int (nI b))] rfl ?_
  refine x_iload_n 0 C dX11_equation_0 rfl 1 rfl ?_
  refine x_if_lt 1 C 9 dX11_equation_1 (by decide) (fun c1 => absurd c1 (nI_pos (n := b) (by omega))) (fun _ => ?_)
  refine x_iload_n 4 C dX11_equation_4 rfl 1 rfl ?_
  refine x_iconst 5 C (v := 1) dX11_equation_5 rfl ?_
  refine x_icmp_le 6 C 12 dX11_equation_6 (by decide) (fun _ => ?_) (fun c2 => absurd ((nI_leI (a := b) (b := 1) (by omega) (by omega)).mpr (by omega)) c2)
  refine x_aload_n 12 C dX11_equation_12 rfl 0 rfl ?_
  refine x_getr 13 C (b := o + 1) dX11_equation_13 ff_X11_10 rfl hW.1 rfl ?_
  refine x_callVe 16 C dX11_equation_16 (As := []) (rest := []) [.int (bI (rdAll t N).1)] (t_X2_read l D z n G I L (o + 1) t N r hW.2.1 (by omega) (by first | assumption | omega | decide) (by first | assumption | omega | decide)) mt_X2_read km_X11_61 ki_X2_read ks_X2_read hW.2.1.1 ⟨by decide, rfl⟩ rfl rfl (Nat.le_of_ble_eq_true rfl) ⟨⟨by decide, by decide⟩, by decide, by decide⟩ (fun I3 L4 eI3 eL4 => ?_)
  replace eL4 := eL4.symm; subst eL4
  have hI5 : I3 = rdI I o t N := eI3
  refine x_if_ne 19 C 25 dX11_equation_19 (by decide) (fun _ => ?_) (fun c5 => absurd c5 (bI_n0.mpr hok))
  refine x_aload_n 25 C dX11_equation_25 rfl 0 rfl ?_
  refine x_getr 26 C (b := o + 1) dX11_equation_26 ff_X11_10 rfl hW.1 rfl ?_
  refine x_callVe 29 C dX11_equation_29 (As := []) (rest := []) [.ref (o + 1 + 2)] (t_X2_readEquation l D z n G I3 L (o + 1) hW.2.1) mt_X2_readEquation km_X11_70 ki_X2_readEquation ks_X2_readEquation hW.2.1.1 ⟨by decide, rfl⟩ rfl rfl (Nat.le_of_ble_eq_true rfl) ⟨⟨by decide, by decide⟩, by decide, by decide⟩ (fun I6 L7 eI6 eL7 => ?_)
  replace eI6 := eI6.symm; subst eI6
  replace eL7 := eL7.symm; subst eL7
  refine x_callVe 32 C dX11_equation_32 (As := []) (rest := []) [.int (nI (dgN (I3 ((o + 1 + 2) + 1)) (I3 ((o + 1 + 2) + 2)) 10))] (t_X1_degree l D z n G I3 L (o + 1 + 2) hW.2.1.2.2) mt_X1_degree km_X11_74 ki_X1_degree ks_X1_degree hW.2.1.2.2.1 ⟨by decide, rfl⟩ rfl rfl (Nat.le_of_ble_eq_true rfl) ⟨⟨by decide, by decide⟩, by decide, by decide⟩ (fun I8 L9 eI8 eL9 => ?_)
  replace eI8 := eI8.symm; subst eI8
  replace eL9 := eL9.symm; subst eL9
  refine x_int (nI (rdD t N)) (congrArg nI (by rw [hI5]; exact rdI_dg I o t N)) ?_
  refine x_istore_n 35 C [(2, .int (nI (rdD t N))), (0, .ref o), (1, .int (nI b))] dX11_equation_35 rfl (by decide) rfl ?_
  refine x_iload_n 36 C dX11_equation_36 rfl 0 rfl ?_
  refine x_if_ne 37 C 43 dX11_equation_37 (by decide) (fun c10 => absurd ((nI_eq (a := (rdD t N)) (b := 0) (by omega) (by omega)).mpr (by omega)) c10) (fun _ => ?_)
  refine x_ldc 40 C (-2000000002) dX11_equation_40 kk_X11_69 ?_
  refine x_iret 42 C dX11_equation_42 rfl rfl (Nat.le_refl _) (xN.intro ?_)
  first | exact ⟨rfl, rfl, rfl⟩ | exact ⟨rfl, hI5, rfl⟩
set_option maxHeartbeats 1000000 in
set_option maxRecDepth 100000 in
theorem t_X11_track_bad (l : Launch) (D : xD) (z n : Nat) (G : xG) (I : xI) (L : xL) (o : Nat) (x : Int32) (y : Int32) (hW : shPT G o) (hbad : hasP I (o + 75) x = false ∨ ¬ (1 ≤ y ∧ y ≤ 200)) : xM0 l D z yX11_track cX11_track 4 (some .int) 6 156 [.ref o, .int x, .int y] n G I L (xE (some (.int (-2000000001))) I L) := by
  refine xM.of (by decide) (Nat.le_of_ble_eq_true rfl) (fun p e s m args below meth c C hnm hsz => ?_)
  refine x_lv [(0, .ref o), (1, .int x), (2, .int y)] rfl ?_
  refine x_aload_n 0 C dX11_track_0 rfl 0 rfl ?_
  refine x_getr 1 C (b := o + 75) dX11_track_1 ff_X11_26 rfl hW.1 rfl ?_
  refine x_iload_n 4 C dX11_track_4 rfl 1 rfl ?_
  refine x_callVe 5 C dX11_track_5 (As := [.int x]) (rest := []) [.int (bI (hasP I (o + 75) x))] (t_X9_hasPath l D z n G I L (o + 75) x hW.2.2.2.1) mt_X9_hasPath km_X11_98 ki_X9_hasPath ks_X9_hasPath hW.2.2.2.1.1 ⟨by decide, rfl⟩ rfl rfl (Nat.le_of_ble_eq_true rfl) ⟨⟨by decide, by decide⟩, by decide, by decide⟩ (fun I1 L2 eI1 eL2 => ?_)
  replace eI1 := eI1.symm; subst eI1
  replace eL2 := eL2.symm; subst eL2
  refine x_if_eq 8 C 23 dX11_track_8 (by decide) (fun c3 => ?_) (fun c3 => ?_)
  · skip
    refine x_ldc 23 C (-2000000001) dX11_track_23 kk_X11_48 ?_
    refine x_iret 25 C dX11_track_25 rfl rfl (Nat.le_refl _) (xN.intro ?_)
    first | exact ⟨rfl, rfl, rfl⟩ | exact ⟨rfl, hI5, rfl⟩
  · skip
    have hpp : _ := bI_n0.mp c3
    refine x_iload_n 11 C dX11_track_11 rfl 2 rfl ?_
    refine x_iconst 12 C (v := 1) dX11_track_12 rfl ?_
    refine x_icmp_lt 13 C 23 dX11_track_13 (by decide) (fun c4 => ?_) (fun c4 => ?_)
    · skip
      have c4o := Int32.not_le.mpr c4
      refine x_ldc 23 C (-2000000001) dX11_track_23 kk_X11_48 ?_
      refine x_iret 25 C dX11_track_25 rfl rfl (Nat.le_refl _) (xN.intro ?_)
      first | exact ⟨rfl, rfl, rfl⟩ | exact ⟨rfl, hI5, rfl⟩
    · skip
      have c4o := Int32.not_lt.mp c4
      refine x_iload_n 16 C dX11_track_16 rfl 2 rfl ?_
      refine x_sipush 17 C (v := 200) dX11_track_17 rfl ?_
      refine x_icmp_le 20 C 26 dX11_track_20 (by decide) (fun c5 => ?_) (fun c5 => ?_)
      · skip
        have c5o := Int32.not_lt.mpr c5
        exact absurd hbad (fun h => h.elim (fun h => by rw [hpp] at h; exact absurd h (by decide)) (fun h => h ⟨by assumption, by assumption⟩))
      · skip
        have c5o := Int32.not_le.mp c5
        refine x_ldc 23 C (-2000000001) dX11_track_23 kk_X11_48 ?_
        refine x_iret 25 C dX11_track_25 rfl rfl (Nat.le_refl _) (xN.intro ?_)
        first | exact ⟨rfl, rfl, rfl⟩ | exact ⟨rfl, hI5, rfl⟩
set_option maxHeartbeats 1000000 in
set_option maxRecDepth 100000 in
theorem t_X11_track_no (l : Launch) (D : xD) (z n : Nat) (G : xG) (I : xI) (L : xL) (o : Nat) (k : Nat) (U : Nat) (T : Nat) (hW : shPT G o) (hU : I (o + 75) 4 = nI U) (hU9 : U ≤ 9) (hk : k < U) (hT1 : 1 ≤ T) (hT2 : T ≤ 200) (hst : ¬ I (o + 75 + 11 + 3 * k) 2 = 0) : xM0 l D z yX11_track cX11_track 4 (some .int) 6 156 [.ref o, .int (nI k), .int (nI T)] n G I L (xE (some (.int (-2000000002))) I L) := by
  refine xM.of (by decide) (Nat.le_of_ble_eq_true rfl) (fun p e s m args below meth c C hnm hsz => ?_)
  refine x_lv [(0, .ref o), (1, .int (nI k)), (2, .int (nI T))] rfl ?_
  refine x_aload_n 0 C dX11_track_0 rfl 0 rfl ?_
  refine x_getr 1 C (b := o + 75) dX11_track_1 ff_X11_26 rfl hW.1 rfl ?_
  refine x_iload_n 4 C dX11_track_4 rfl 1 rfl ?_
  refine x_callVe 5 C dX11_track_5 (As := [.int (nI k)]) (rest := []) [.int 1] (t_X9_hasPath_k l D z n G I L (o + 75) k U hW.2.2.2.1 (by first | assumption | omega | decide) (by first | omega | assumption | decide) (by first | omega | assumption | decide)) mt_X9_hasPath km_X11_98 ki_X9_hasPath ks_X9_hasPath hW.2.2.2.1.1 ⟨by decide, rfl⟩ rfl rfl (Nat.le_of_ble_eq_true rfl) ⟨⟨by decide, by decide⟩, by decide, by decide⟩ (fun I1 L2 eI1 eL2 => ?_)
  replace eI1 := eI1.symm; subst eI1
  replace eL2 := eL2.symm; subst eL2
  refine x_if_eq 8 C 23 dX11_track_8 (by decide) (fun c3 => absurd c3 (by decide)) (fun _ => ?_)
  refine x_iload_n 11 C dX11_track_11 rfl 2 rfl ?_
  refine x_iconst 12 C (v := 1) dX11_track_12 rfl ?_
  refine x_icmp_lt 13 C 23 dX11_track_13 (by decide) (fun c4 => absurd c4 (fun h => absurd ((nI_ltI (a := T) (b := 1) (by omega) (by omega)).mp h) (by omega))) (fun _ => ?_)
  refine x_iload_n 16 C dX11_track_16 rfl 2 rfl ?_
  refine x_sipush 17 C (v := 200) dX11_track_17 rfl ?_
  refine x_icmp_le 20 C 26 dX11_track_20 (by decide) (fun _ => ?_) (fun c5 => absurd ((nI_leI (a := T) (b := 200) (by omega) (by omega)).mpr (by omega)) c5)
  refine x_aload_n 26 C dX11_track_26 rfl 0 rfl ?_
  refine x_getr 27 C (b := o + 75) dX11_track_27 ff_X11_26 rfl hW.1 rfl ?_
  refine x_iload_n 30 C dX11_track_30 rfl 1 rfl ?_
  refine x_callVe 31 C dX11_track_31 (As := [.int (nI k)]) (rest := []) [.ref (o + 75 + 11 + 3 * k)] (t_X9_pathAt l D z n G I L (o + 75) k U hW.2.2.2.1 (by first | assumption | omega | decide) (by first | omega | assumption | decide) (by first | omega | assumption | decide)) mt_X9_pathAt km_X11_101 ki_X9_pathAt ks_X9_pathAt hW.2.2.2.1.1 ⟨by decide, rfl⟩ rfl rfl (Nat.le_of_ble_eq_true rfl) ⟨⟨by decide, by decide⟩, by decide, by decide⟩ (fun I6 L7 eI6 eL7 => ?_)
  replace eI6 := eI6.symm; subst eI6
  replace eL7 := eL7.symm; subst eL7
  refine x_astore_n 34 C [(3, .ref (o + 75 + 11 + 3 * k)), (0, .ref o), (1, .int (nI k)), (2, .int (nI T))] dX11_track_34 rfl (by decide) rfl ?_
  refine x_aload_n 35 C dX11_track_35 rfl 0 rfl ?_
  refine x_geti 36 C dX11_track_36 ff_X11_105 (hW.2.2.2.1.2.2.2.2 k (by omega)).1 ?_
  refine x_if_eq 39 C 45 dX11_track_39 (by decide) (fun c8 => absurd c8 hst) (fun _ => ?_)
  refine x_ldc 42 C (-2000000002) dX11_track_42 kk_X11_69 ?_
  refine x_iret 44 C dX11_track_44 rfl rfl (Nat.le_refl _) (xN.intro ?_)
  first | exact ⟨rfl, rfl, rfl⟩ | exact ⟨rfl, hI5, rfl⟩
set_option maxHeartbeats 1000000 in
set_option maxRecDepth 100000 in
theorem t_X11_trackAll_bad (l : Launch) (D : xD) (z n : Nat) (G : xG) (I : xI) (L : xL) (o : Nat) (x : Int32) (hW : shPT G o) (hbad : ¬ (1 ≤ x ∧ x ≤ 200)) : xM0 l D z yX11_trackAll cX11_trackAll 4 (some .int) 6 156 [.ref o, .int x] n G I L (xE (some (.int (-2000000001))) I L) := by
  refine xM.of (by decide) (Nat.le_of_ble_eq_true rfl) (fun p e s m args below meth c C hnm hsz => ?_)
  refine x_lv [(0, .ref o), (1, .int x)] rfl ?_
  refine x_iload_n 0 C dX11_trackAll_0 rfl 1 rfl ?_
  refine x_iconst 1 C (v := 1) dX11_trackAll_1 rfl ?_
  refine x_icmp_lt 2 C 12 dX11_trackAll_2 (by decide) (fun c1 => ?_) (fun c1 => ?_)
  · skip
    have c1o := Int32.not_le.mpr c1
    refine x_ldc 12 C (-2000000001) dX11_trackAll_12 kk_X11_48 ?_
    refine x_iret 14 C dX11_trackAll_14 rfl rfl (Nat.le_refl _) (xN.intro ?_)
    first | exact ⟨rfl, rfl, rfl⟩ | exact ⟨rfl, hI5, rfl⟩
  · skip
    have c1o := Int32.not_lt.mp c1
    refine x_iload_n 5 C dX11_trackAll_5 rfl 1 rfl ?_
    refine x_sipush 6 C (v := 200) dX11_trackAll_6 rfl ?_
    refine x_icmp_le 9 C 15 dX11_trackAll_9 (by decide) (fun c2 => ?_) (fun c2 => ?_)
    · skip
      have c2o := Int32.not_lt.mpr c2
      exact absurd ⟨by assumption, by assumption⟩ hbad
    · skip
      have c2o := Int32.not_le.mp c2
      refine x_ldc 12 C (-2000000001) dX11_trackAll_12 kk_X11_48 ?_
      refine x_iret 14 C dX11_trackAll_14 rfl rfl (Nat.le_refl _) (xN.intro ?_)
      first | exact ⟨rfl, rfl, rfl⟩ | exact ⟨rfl, hI5, rfl⟩
set_option maxHeartbeats 1000000 in
set_option maxRecDepth 100000 in
theorem t_X11_again_bad (l : Launch) (D : xD) (z n : Nat) (G : xG) (I : xI) (L : xL) (o : Nat) (x : Int32) (hW : shPT G o) (hno : hasP I (o + 75) x = false) : xM0 l D z yX11_again cX11_again 3 (some .int) 4 98 [.ref o, .int x] n G I L (xE (some (.int (-2000000001))) I L) := by
  refine xM.of (by decide) (Nat.le_of_ble_eq_true rfl) (fun p e s m args below meth c C hnm hsz => ?_)
  refine x_lv [(0, .ref o), (1, .int x)] rfl ?_
  refine x_aload_n 0 C dX11_again_0 rfl 0 rfl ?_
  refine x_getr 1 C (b := o + 75) dX11_again_1 ff_X11_26 rfl hW.1 rfl ?_
  refine x_iload_n 4 C dX11_again_4 rfl 1 rfl ?_
  refine x_callVe 5 C dX11_again_5 (As := [.int x]) (rest := []) [.int (bI (hasP I (o + 75) x))] (t_X9_hasPath l D z n G I L (o + 75) x hW.2.2.2.1) mt_X9_hasPath km_X11_98 ki_X9_hasPath ks_X9_hasPath hW.2.2.2.1.1 ⟨by decide, rfl⟩ rfl rfl (Nat.le_of_ble_eq_true rfl) ⟨⟨by decide, by decide⟩, by decide, by decide⟩ (fun I1 L2 eI1 eL2 => ?_)
  replace eI1 := eI1.symm; subst eI1
  replace eL2 := eL2.symm; subst eL2
  refine x_if_ne 8 C 14 dX11_again_8 (by decide) (fun c3 => absurd (by rw [hno]; rfl) c3) (fun _ => ?_)
  refine x_ldc 11 C (-2000000001) dX11_again_11 kk_X11_48 ?_
  refine x_iret 13 C dX11_again_13 rfl rfl (Nat.le_refl _) (xN.intro ?_)
  first | exact ⟨rfl, rfl, rfl⟩ | exact ⟨rfl, hI5, rfl⟩
set_option maxHeartbeats 1000000 in
set_option maxRecDepth 100000 in
theorem t_X11_set_bad (l : Launch) (D : xD) (z n : Nat) (G : xG) (I : xI) (L : xL) (o : Nat) (x : Int32) (y : Int32) (hW : shPT G o) (hbad : ¬ (0 ≤ x ∧ x < 8)) : xM0 l D z yX11_set cX11_set 4 (some .int) 6 141 [.ref o, .int x, .int y] n G I L (xE (some (.int (-2000000001))) I L) := by
  refine xM.of (by decide) (Nat.le_of_ble_eq_true rfl) (fun p e s m args below meth c C hnm hsz => ?_)
  refine x_lv [(0, .ref o), (1, .int x), (2, .int y)] rfl ?_
  refine x_iload_n 0 C dX11_set_0 rfl 1 rfl ?_
  refine x_if_lt 1 C 18 dX11_set_1 (by decide) (fun c1 => ?_) (fun c1 => ?_)
  · skip
    have c1o := Int32.not_le.mpr c1
    refine x_ldc 18 C (-2000000001) dX11_set_18 kk_X11_48 ?_
    refine x_iret 20 C dX11_set_20 rfl rfl (Nat.le_refl _) (xN.intro ?_)
    first | exact ⟨rfl, rfl, rfl⟩ | exact ⟨rfl, hI5, rfl⟩
  · skip
    have c1o := Int32.not_lt.mp c1
    refine x_iload_n 4 C dX11_set_4 rfl 1 rfl ?_
    refine x_bipush 5 C (v := 8) dX11_set_5 rfl ?_
    refine x_icmp_ge 7 C 18 dX11_set_7 (by decide) (fun c2 => ?_) (fun c2 => ?_)
    · skip
      have c2o := Int32.not_lt.mpr c2
      refine x_ldc 18 C (-2000000001) dX11_set_18 kk_X11_48 ?_
      refine x_iret 20 C dX11_set_20 rfl rfl (Nat.le_refl _) (xN.intro ?_)
      first | exact ⟨rfl, rfl, rfl⟩ | exact ⟨rfl, hI5, rfl⟩
    · skip
      have c2o := Int32.not_le.mp c2
      exact absurd ⟨by assumption, by assumption⟩ hbad
set_option maxHeartbeats 1000000 in
set_option maxRecDepth 100000 in
theorem t_X11_set_rng (l : Launch) (D : xD) (z n : Nat) (G : xG) (I : xI) (L : xL) (o : Nat) (w : Nat) (v : Int32) (hW : shPT G o) (hw : w < 8) (hin : inRg w v = false) : xM0 l D z yX11_set cX11_set 4 (some .int) 6 141 [.ref o, .int (nI w), .int v] n G I L (xE (some (.int (-2000000001))) I L) := by
  refine xM.of (by decide) (Nat.le_of_ble_eq_true rfl) (fun p e s m args below meth c C hnm hsz => ?_)
  refine x_lv [(0, .ref o), (1, .int (nI w)), (2, .int v)] rfl ?_
  refine x_iload_n 0 C dX11_set_0 rfl 1 rfl ?_
  refine x_if_lt 1 C 18 dX11_set_1 (by decide) (fun c1 => absurd c1 (nI_pos (n := w) (by omega))) (fun _ => ?_)
  refine x_iload_n 4 C dX11_set_4 rfl 1 rfl ?_
  refine x_bipush 5 C (v := 8) dX11_set_5 rfl ?_
  refine x_icmp_ge 7 C 18 dX11_set_7 (by decide) (fun c2 => absurd c2 (fun h => absurd ((nI_leI (a := 8) (b := w) (by omega) (by omega)).mp h) (by omega))) (fun _ => ?_)
  refine x_iload_n 10 C dX11_set_10 rfl 1 rfl ?_
  refine x_iload_n 11 C dX11_set_11 rfl 2 rfl ?_
  refine x_callSe 12 C dX11_set_12 (As := [.int (nI w), .int v]) (rest := []) [.int (bI (inRg w v))] (t_X9_inRange l D z n G I L w v (by first | omega | assumption | decide)) mt_X9_inRange km_X11_168 kt_X9_inRange rfl rfl (Nat.le_of_ble_eq_true rfl) ⟨⟨by decide, by decide⟩, by decide, by decide⟩ (fun I3 L4 eI3 eL4 => ?_)
  replace eI3 := eI3.symm; subst eI3
  replace eL4 := eL4.symm; subst eL4
  refine x_if_ne 15 C 21 dX11_set_15 (by decide) (fun c5 => absurd (bI_0.mpr hin) c5) (fun _ => ?_)
  refine x_ldc 18 C (-2000000001) dX11_set_18 kk_X11_48 ?_
  refine x_iret 20 C dX11_set_20 rfl rfl (Nat.le_refl _) (xN.intro ?_)
  first | exact ⟨rfl, rfl, rfl⟩ | exact ⟨rfl, hI5, rfl⟩
set_option maxHeartbeats 1000000 in
set_option maxRecDepth 100000 in
theorem t_X11_set_gam (l : Launch) (D : xD) (z n : Nat) (G : xG) (I : xI) (L : xL) (o : Nat) (w : Nat) (v : Int32) (hW : shPT G o) (hw : w < 8) (hin : inRg w v = true) (hv0 : v = 0) (hgz : othZ I o w = true) : xM0 l D z yX11_set cX11_set 4 (some .int) 6 141 [.ref o, .int (nI w), .int v] n G I L (xE (some (.int (-2000000002))) I L) := by
  refine xM.of (by decide) (Nat.le_of_ble_eq_true rfl) (fun p e s m args below meth c C hnm hsz => ?_)
  refine x_lv [(0, .ref o), (1, .int (nI w)), (2, .int v)] rfl ?_
  refine x_iload_n 0 C dX11_set_0 rfl 1 rfl ?_
  refine x_if_lt 1 C 18 dX11_set_1 (by decide) (fun c1 => absurd c1 (nI_pos (n := w) (by omega))) (fun _ => ?_)
  refine x_iload_n 4 C dX11_set_4 rfl 1 rfl ?_
  refine x_bipush 5 C (v := 8) dX11_set_5 rfl ?_
  refine x_icmp_ge 7 C 18 dX11_set_7 (by decide) (fun c2 => absurd c2 (fun h => absurd ((nI_leI (a := 8) (b := w) (by omega) (by omega)).mp h) (by omega))) (fun _ => ?_)
  refine x_iload_n 10 C dX11_set_10 rfl 1 rfl ?_
  refine x_iload_n 11 C dX11_set_11 rfl 2 rfl ?_
  refine x_callSe 12 C dX11_set_12 (As := [.int (nI w), .int v]) (rest := []) [.int (bI (inRg w v))] (t_X9_inRange l D z n G I L w v (by first | omega | assumption | decide)) mt_X9_inRange km_X11_168 kt_X9_inRange rfl rfl (Nat.le_of_ble_eq_true rfl) ⟨⟨by decide, by decide⟩, by decide, by decide⟩ (fun I3 L4 eI3 eL4 => ?_)
  replace eI3 := eI3.symm; subst eI3
  replace eL4 := eL4.symm; subst eL4
  refine x_if_ne 15 C 21 dX11_set_15 (by decide) (fun _ => ?_) (fun c5 => absurd c5 (bI_n0.mpr hin))
  refine x_iload_n 21 C dX11_set_21 rfl 2 rfl ?_
  refine x_if_ne 22 C 39 dX11_set_22 (by decide) (fun c6 => absurd hv0 c6) (fun _ => ?_)
  refine x_aload_n 25 C dX11_set_25 rfl 0 rfl ?_
  refine x_getr 26 C (b := o + 75) dX11_set_26 ff_X11_26 rfl hW.1 rfl ?_
  refine x_iload_n 29 C dX11_set_29 rfl 1 rfl ?_
  refine x_callVe 30 C dX11_set_30 (As := [.int (nI w)]) (rest := []) [.int (bI ((decide (w = 6) && decide (I ((o + 75) + 9) 7 = 0)) || (decide (w = 7) && decide (I ((o + 75) + 9) 6 = 0))))] (t_X9_isOtherGammaPartZero l D z n G I L (o + 75) w hW.2.2.2.1 (by first | omega | assumption | decide)) mt_X9_isOtherGammaPartZero km_X11_172 ki_X9_isOtherGammaPartZero ks_X9_isOtherGammaPartZero hW.2.2.2.1.1 ⟨by decide, rfl⟩ rfl rfl (Nat.le_of_ble_eq_true rfl) ⟨⟨by decide, by decide⟩, by decide, by decide⟩ (fun I7 L8 eI7 eL8 => ?_)
  replace eI7 := eI7.symm; subst eI7
  replace eL8 := eL8.symm; subst eL8
  refine x_if_eq 33 C 39 dX11_set_33 (by decide) (fun c9 => absurd c9 (bI_n0.mpr hgz)) (fun _ => ?_)
  refine x_ldc 36 C (-2000000002) dX11_set_36 kk_X11_69 ?_
  refine x_iret 38 C dX11_set_38 rfl rfl (Nat.le_refl _) (xN.intro ?_)
  first | exact ⟨rfl, rfl, rfl⟩ | exact ⟨rfl, hI5, rfl⟩
set_option maxHeartbeats 1000000 in
set_option maxRecDepth 100000 in
theorem t_X11_count_bad (l : Launch) (D : xD) (z n : Nat) (G : xG) (I : xI) (L : xL) (o : Nat) (x : Int32) (hW : shPT G o) (hbad : ¬ (0 ≤ x ∧ x ≤ 18)) : xM0 l D z yX11_count cX11_count 2 (some .int) 5 115 [.ref o, .int x] n G I L (xE (some (.int (-2000000001))) I L) := by
  refine xM.of (by decide) (Nat.le_of_ble_eq_true rfl) (fun p e s m args below meth c C hnm hsz => ?_)
  refine x_lv [(0, .ref o), (1, .int x)] rfl ?_
  refine x_iload_n 0 C dX11_count_0 rfl 1 rfl ?_
  refine x_if_lt 1 C 10 dX11_count_1 (by decide) (fun c1 => ?_) (fun c1 => ?_)
  · skip
    have c1o := Int32.not_le.mpr c1
    refine x_ldc 10 C (-2000000001) dX11_count_10 kk_X11_48 ?_
    refine x_iret 12 C dX11_count_12 rfl rfl (Nat.le_refl _) (xN.intro ?_)
    first | exact ⟨rfl, rfl, rfl⟩ | exact ⟨rfl, hI5, rfl⟩
  · skip
    have c1o := Int32.not_lt.mp c1
    refine x_iload_n 4 C dX11_count_4 rfl 1 rfl ?_
    refine x_bipush 5 C (v := 18) dX11_count_5 rfl ?_
    refine x_icmp_le 7 C 13 dX11_count_7 (by decide) (fun c2 => ?_) (fun c2 => ?_)
    · skip
      have c2o := Int32.not_lt.mpr c2
      exact absurd ⟨by assumption, by assumption⟩ hbad
    · skip
      have c2o := Int32.not_le.mp c2
      refine x_ldc 10 C (-2000000001) dX11_count_10 kk_X11_48 ?_
      refine x_iret 12 C dX11_count_12 rfl rfl (Nat.le_refl _) (xN.intro ?_)
      first | exact ⟨rfl, rfl, rfl⟩ | exact ⟨rfl, hI5, rfl⟩
