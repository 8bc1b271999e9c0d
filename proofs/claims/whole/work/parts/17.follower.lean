/-! PathTracker$Follower at f: its Homotopy f + 1, its Solver f + 59, its point f + 66, f + 67; first step 4, rounds 5, tolerance 6, bound 7 -/
def rFol (f : Nat) : Nat → Option Nat := va_up (va_up (va_up (va_up rN 0 (some (f + 1))) 1 (some (f + 59))) 2 (some (f + 66))) 3 (some (f + 67))
def shF (G : xG) (f : Nat) : Prop := G f = some (3, 0, rFol f) ∧ shH G (f + 1) ∧ shO G (f + 59) ∧ G (f + 66) = some (0, 0, rN) ∧ G (f + 67) = some (0, 0, rN)
/-- a system of equations with its start: coefficients of both, the start's top terms, gamma -/
abbrev xSy : Type := (Nat → Int32) × (Nat → Int32) × (Nat → Int32) × (Nat → Int32) × Nat × Nat × Int32 × Int32
def aimedS (I : xI) (h : Nat) (Y : xSy) : Prop := aimed I h Y.1 Y.2.1 Y.2.2.1 Y.2.2.2.1 Y.2.2.2.2.1 Y.2.2.2.2.2.1 Y.2.2.2.2.2.2.1 Y.2.2.2.2.2.2.2
abbrev xFn : Type := (Nat → Int32) → (Nat → Int32) → (Nat → xC) → Nat → xC
def syE0 (Y : xSy) (f : xFn) (a b : xC) (u : Int64) : xC := f Y.1 Y.2.1 (powC a b u) 10
def syE1 (Y : xSy) (f : xFn) (a b : xC) (u : Int64) : xC := f Y.2.2.1 Y.2.2.2.1 (powC a b u) 10
def syB0 (Y : xSy) (f : xFn) (a b : xC) (u : Int64) : xC := sB f Y.2.2.2.2.1 Y.2.2.2.2.2.2.1 Y.2.2.2.2.2.2.2 a b u
def syB1 (Y : xSy) (f : xFn) (a b : xC) (u : Int64) : xC := sB f Y.2.2.2.2.2.1 Y.2.2.2.2.2.2.1 Y.2.2.2.2.2.2.2 a b u
def syM0 (Y : xSy) (P : Nat) (f : xFn) (a b : xC) (u : Int64) : xC := sM f Y.1 Y.2.1 Y.2.2.2.2.1 Y.2.2.2.2.2.2.1 Y.2.2.2.2.2.2.2 P a b u
def syM1 (Y : xSy) (P : Nat) (f : xFn) (a b : xC) (u : Int64) : xC := sM f Y.2.2.1 Y.2.2.2.1 Y.2.2.2.2.2.1 Y.2.2.2.2.2.2.1 Y.2.2.2.2.2.2.2 P a b u
def syN (Y : xSy) (P : Nat) (u : Int64) (a b : xC) : Int64 := solN u (syM0 Y P evX a b u) (syM0 Y P evY a b u) (syM1 Y P evX a b u) (syM1 Y P evY a b u)
def syU (Y : xSy) (P : Nat) (u : Int64) (a b r0 r1 : xC) : xC := solU u (syM0 Y P evX a b u) (syM0 Y P evY a b u) (syM1 Y P evX a b u) (syM1 Y P evY a b u) r0 r1
def syV (Y : xSy) (P : Nat) (u : Int64) (a b r0 r1 : xC) : xC := solV u (syM0 Y P evX a b u) (syM0 Y P evY a b u) (syM1 Y P evX a b u) (syM1 Y P evY a b u) r0 r1
/-- the predictor -/
def pdR0 (Y : xSy) (h : Int32) (u : Int64) (a b : xC) : xC := shaC (subC (syB0 Y evV a b u) (syE0 Y evV a b u)) h.toInt64 1024
def pdR1 (Y : xSy) (h : Int32) (u : Int64) (a b : xC) : xC := shaC (subC (syB1 Y evV a b u) (syE1 Y evV a b u)) h.toInt64 1024
def pdX (Y : xSy) (P : Nat) (h : Int32) (u : Int64) (a b : xC) : xC := addC a (syU Y P u a b (pdR0 Y h u a b) (pdR1 Y h u a b))
def pdY (Y : xSy) (P : Nat) (h : Int32) (u : Int64) (a b : xC) : xC := addC b (syV Y P u a b (pdR0 Y h u a b) (pdR1 Y h u a b))
/-- a round of the corrector -/
def coU (Y : xSy) (P : Nat) (u : Int64) (a b : xC) : xC := syU Y P u a b (negC (syM0 Y P evV a b u)) (negC (syM1 Y P evV a b u))
def coV (Y : xSy) (P : Nat) (u : Int64) (a b : xC) : xC := syV Y P u a b (negC (syM0 Y P evV a b u)) (negC (syM1 Y P evV a b u))
def coS (Y : xSy) (P : Nat) (u : Int64) (a b : xC) : Int64 := lmax (sizC (coU Y P u a b)) (sizC (coV Y P u a b))
/-- the corrector: r rounds are left, i were made, the last correction was bf -/
def coN (Y : xSy) (P : Nat) (u : Int64) (tol : Int32) : Nat → Nat → Int64 → xC → xC → Option (xC × xC)
  | 0, _, _, _, _ => none
  | r + 1, i, bf, a, b => if syN Y P u a b = 0 then none else
      if coS Y P u a b ≤ tol.toInt64 then some (addC a (coU Y P u a b), addC b (coV Y P u a b)) else
      if 0 < i ∧ ¬ coS Y P u a b ≤ bf / 2 then none else coN Y P u tol r (i + 1) (coS Y P u a b) (addC a (coU Y P u a b)) (addC b (coV Y P u a b))
theorem punit_nz (x : Int32) : ¬ punit x = 0 := by
  unfold punit
  split <;> decide
theorem aimedS_congr {I I' : xI} {h : Nat} {Y : xSy} (hq : ∀ a, h ≤ a → a < h + 58 → I' a = I a) (hA : aimedS I h Y) : aimedS I' h Y := by
  obtain ⟨h1, h2, h3, h4, h5, h6⟩ := hA
  refine ⟨fun j hj => ?_, fun j hj => ?_, fun j hj => ?_, fun j hj => ?_, ?_, ?_⟩
  · rw [hq _ (by omega) (by omega), hq _ (by omega) (by omega)]; exact h1 j hj
  · rw [hq _ (by omega) (by omega), hq _ (by omega) (by omega)]; exact h2 j hj
  · rw [hq _ (by omega) (by omega), hq _ (by omega) (by omega)]; exact h3 j hj
  · rw [hq _ (by omega) (by omega), hq _ (by omega) (by omega)]; exact h4 j hj
  · rw [hq _ (by omega) (by omega)]; exact h5
  · rw [hq _ (by omega) (by omega)]; exact h6
theorem dX3_aim_0 : decode cX3_aim 0 = .ok (.aload_n 0, 1) := by decide +kernel
theorem dX3_aim_1 : decode cX3_aim 1 = .ok (.getfield 10, 3) := by decide +kernel
theorem dX3_aim_4 : decode cX3_aim 4 = .ok (.aload_n 1, 1) := by decide +kernel
theorem dX3_aim_5 : decode cX3_aim 5 = .ok (.invokevirtual 33, 3) := by decide +kernel
theorem dX3_aim_8 : decode cX3_aim 8 = .ok (.aload_n 0, 1) := by decide +kernel
theorem dX3_aim_9 : decode cX3_aim 9 = .ok (.aload_n 1, 1) := by decide +kernel
theorem dX3_aim_10 : decode cX3_aim 10 = .ok (.iconst 0, 1) := by decide +kernel
theorem dX3_aim_11 : decode cX3_aim 11 = .ok (.invokevirtual 39, 3) := by decide +kernel
theorem dX3_aim_14 : decode cX3_aim 14 = .ok (.putfield 43, 3) := by decide +kernel
theorem dX3_aim_17 : decode cX3_aim 17 = .ok (.aload_n 0, 1) := by decide +kernel
theorem dX3_aim_18 : decode cX3_aim 18 = .ok (.aload_n 1, 1) := by decide +kernel
theorem dX3_aim_19 : decode cX3_aim 19 = .ok (.iconst 2, 1) := by decide +kernel
theorem dX3_aim_20 : decode cX3_aim 20 = .ok (.invokevirtual 39, 3) := by decide +kernel
theorem dX3_aim_23 : decode cX3_aim 23 = .ok (.putfield 47, 3) := by decide +kernel
theorem dX3_aim_26 : decode cX3_aim 26 = .ok (.aload_n 0, 1) := by decide +kernel
theorem dX3_aim_27 : decode cX3_aim 27 = .ok (.aload_n 1, 1) := by decide +kernel
theorem dX3_aim_28 : decode cX3_aim 28 = .ok (.iconst 3, 1) := by decide +kernel
theorem dX3_aim_29 : decode cX3_aim 29 = .ok (.invokevirtual 39, 3) := by decide +kernel
theorem dX3_aim_32 : decode cX3_aim 32 = .ok (.putfield 50, 3) := by decide +kernel
theorem dX3_aim_35 : decode cX3_aim 35 = .ok (.aload_n 0, 1) := by decide +kernel
theorem dX3_aim_36 : decode cX3_aim 36 = .ok (.aload_n 1, 1) := by decide +kernel
theorem dX3_aim_37 : decode cX3_aim 37 = .ok (.iconst 4, 1) := by decide +kernel
theorem dX3_aim_38 : decode cX3_aim 38 = .ok (.invokevirtual 39, 3) := by decide +kernel
theorem dX3_aim_41 : decode cX3_aim 41 = .ok (.putfield 53, 3) := by decide +kernel
theorem dX3_aim_44 : decode cX3_aim 44 = .ok (.return_, 1) := by decide +kernel
set_option maxHeartbeats 4000000 in
set_option maxRecDepth 100000 in
theorem t_X3_aim (l : Launch) (D : xD) (z n : Nat) (G : xG) (I : xI) (L : xL) (f : Nat) (S : Nat) (hF : shF G f) (hS : shS G S) (zf : z ≤ f) (dSf : S + 38 ≤ f ∨ f + 68 ≤ S) (hd0 : 1 ≤ sdg I S 0) (hd1 : 1 ≤ sdg I S 1) : xM0 l D z yX3_aim cX3_aim 2 none 5 112 [.ref f, .ref S] n G I L (fun v' I' L' => v' = none ∧ L' = L ∧ (aimedS I' (f + 1) (I (S + 1 + 4 * 0 + 1), I (S + 1 + 4 * 0 + 2), I (S + 1 + 4 * 1 + 1), I (S + 1 + 4 * 1 + 2), tm (sdg I S 0) 0, tm 0 (sdg I S 1), I (S + 9) 6, I (S + 9) 7)) ∧ (I' f 4 = I (S + 9) 0 ∧ I' f 5 = I (S + 9) 2 ∧ I' f 6 = I (S + 9) 3 ∧ I' f 7 = I (S + 9) 4) ∧ (∀ a, (a < f ∨ f + 68 ≤ a) → I' a = I a)) := by
  refine xM.of (by decide) (Nat.le_of_ble_eq_true rfl) (fun p e s m args below meth c C hnm hsz => ?_)
  refine x_lv [(0, .ref f), (1, .ref S)] rfl ?_
  refine x_aload_n 0 C dX3_aim_0 rfl 0 rfl ?_
  refine x_getr 1 C (b := f + 1) dX3_aim_1 ff_X3_10 rfl hF.1 rfl ?_
  refine x_aload_n 4 C dX3_aim_4 rfl 1 rfl ?_
  refine x_callVp 5 C dX3_aim_5 (As := [.ref S]) (rest := []) (t_X5_aim l D z n G I L (f + 1) S hF.2.1 hS (by omega) (by first | assumption | omega | decide) (by first | assumption | omega | decide) (by first | assumption | omega | decide)) mt_X5_aim km_X3_33 ki_X5_aim ks_X5_aim hF.2.1.1 ⟨by decide, rfl⟩ rfl (Nat.le_of_ble_eq_true rfl) ⟨⟨by decide, by decide⟩, by decide, by decide⟩ (fun w1 I2 L3 hw1 => ?_)
  obtain ⟨hw1v, eL3, hw1r0, hw1r1⟩ := hw1
  subst hw1v
  refine x_st [] rfl ?_
  replace eL3 := eL3.symm; subst eL3
  have hSet : I2 (S + 9) = I (S + 9) := hw1r1 _ (by omega)
  refine x_aload_n 8 C dX3_aim_8 rfl 0 rfl ?_
  refine x_aload_n 9 C dX3_aim_9 rfl 1 rfl ?_
  refine x_iconst 10 C (v := 0) dX3_aim_10 rfl ?_
  refine x_callVe 11 C dX3_aim_11 (As := [.int 0]) (rest := [.ref f]) [.int (I2 (S + 9) 0), .ref f] (t_X9_setting l D z n G I2 L S 0 hS (by first | assumption | omega | decide)) mt_X9_setting km_X3_39 ki_X9_setting ks_X9_setting hS.1 ⟨by decide, rfl⟩ rfl rfl (Nat.le_of_ble_eq_true rfl) ⟨⟨by decide, by decide⟩, by decide, by decide⟩ (fun I4 L5 eI4 eL5 => ?_)
  replace eI4 := eI4.symm; subst eI4
  replace eL5 := eL5.symm; subst eL5
  refine x_int (I (S + 9) 0) (by rw [hSet]) ?_
  refine x_puti 14 C dX3_aim_14 ff_X3_43 rfl hF.1 (by omega) (fun I6 eI6 => ?_)
  refine x_aload_n 17 C dX3_aim_17 rfl 0 rfl ?_
  refine x_aload_n 18 C dX3_aim_18 rfl 1 rfl ?_
  refine x_iconst 19 C (v := 2) dX3_aim_19 rfl ?_
  refine x_callVe 20 C dX3_aim_20 (As := [.int 2]) (rest := [.ref f]) [.int (I6 (S + 9) 2), .ref f] (t_X9_setting l D z n G I6 L S 2 hS (by first | assumption | omega | decide)) mt_X9_setting km_X3_39 ki_X9_setting ks_X9_setting hS.1 ⟨by decide, rfl⟩ rfl rfl (Nat.le_of_ble_eq_true rfl) ⟨⟨by decide, by decide⟩, by decide, by decide⟩ (fun I7 L8 eI7 eL8 => ?_)
  replace eI7 := eI7.symm; subst eI7
  replace eL8 := eL8.symm; subst eL8
  refine x_int (I (S + 9) 2) (by rw [eI6, xup_row _ _ (show S + 9 ≠ f by omega), hSet]) ?_
  refine x_puti 23 C dX3_aim_23 ff_X3_47 rfl hF.1 (by omega) (fun I9 eI9 => ?_)
  refine x_aload_n 26 C dX3_aim_26 rfl 0 rfl ?_
  refine x_aload_n 27 C dX3_aim_27 rfl 1 rfl ?_
  refine x_iconst 28 C (v := 3) dX3_aim_28 rfl ?_
  refine x_callVe 29 C dX3_aim_29 (As := [.int 3]) (rest := [.ref f]) [.int (I9 (S + 9) 3), .ref f] (t_X9_setting l D z n G I9 L S 3 hS (by first | assumption | omega | decide)) mt_X9_setting km_X3_39 ki_X9_setting ks_X9_setting hS.1 ⟨by decide, rfl⟩ rfl rfl (Nat.le_of_ble_eq_true rfl) ⟨⟨by decide, by decide⟩, by decide, by decide⟩ (fun I10 L11 eI10 eL11 => ?_)
  replace eI10 := eI10.symm; subst eI10
  replace eL11 := eL11.symm; subst eL11
  refine x_int (I (S + 9) 3) (by rw [eI9, xup_row _ _ (show S + 9 ≠ f by omega), eI6, xup_row _ _ (show S + 9 ≠ f by omega), hSet]) ?_
  refine x_puti 32 C dX3_aim_32 ff_X3_50 rfl hF.1 (by omega) (fun I12 eI12 => ?_)
  refine x_aload_n 35 C dX3_aim_35 rfl 0 rfl ?_
  refine x_aload_n 36 C dX3_aim_36 rfl 1 rfl ?_
  refine x_iconst 37 C (v := 4) dX3_aim_37 rfl ?_
  refine x_callVe 38 C dX3_aim_38 (As := [.int 4]) (rest := [.ref f]) [.int (I12 (S + 9) 4), .ref f] (t_X9_setting l D z n G I12 L S 4 hS (by first | assumption | omega | decide)) mt_X9_setting km_X3_39 ki_X9_setting ks_X9_setting hS.1 ⟨by decide, rfl⟩ rfl rfl (Nat.le_of_ble_eq_true rfl) ⟨⟨by decide, by decide⟩, by decide, by decide⟩ (fun I13 L14 eI13 eL14 => ?_)
  replace eI13 := eI13.symm; subst eI13
  replace eL14 := eL14.symm; subst eL14
  refine x_int (I (S + 9) 4) (by rw [eI12, xup_row _ _ (show S + 9 ≠ f by omega), eI9, xup_row _ _ (show S + 9 ≠ f by omega), eI6, xup_row _ _ (show S + 9 ≠ f by omega), hSet]) ?_
  refine x_puti 41 C dX3_aim_41 ff_X3_53 rfl hF.1 (by omega) (fun I15 eI15 => ?_)
  refine x_vret 44 C dX3_aim_44 rfl (Nat.le_refl _) (xN.intro ?_)
  subst eI6; subst eI9; subst eI12; subst eI15
  refine ⟨rfl, rfl, ?_, ?_, fun a ha => ?_⟩
  · refine aimedS_congr ?_ hw1r0
    intro a h1 h2; rw [xup_row _ _ (by omega), xup_row _ _ (by omega), xup_row _ _ (by omega), xup_row _ _ (by omega)]
  · simp [xup]
  · rw [xup_row _ _ (by omega), xup_row _ _ (by omega), xup_row _ _ (by omega), xup_row _ _ (by omega)]; exact hw1r1 a (by omega)
theorem dX3_predict_0 : decode cX3_predict 0 = .ok (.aload_n 0, 1) := by decide +kernel
theorem dX3_predict_1 : decode cX3_predict 1 = .ok (.getfield 10, 3) := by decide +kernel
theorem dX3_predict_4 : decode cX3_predict 4 = .ok (.aload_n 0, 1) := by decide +kernel
theorem dX3_predict_5 : decode cX3_predict 5 = .ok (.getfield 26, 3) := by decide +kernel
theorem dX3_predict_8 : decode cX3_predict 8 = .ok (.aload_n 0, 1) := by decide +kernel
theorem dX3_predict_9 : decode cX3_predict 9 = .ok (.getfield 30, 3) := by decide +kernel
theorem dX3_predict_12 : decode cX3_predict 12 = .ok (.iload_n 1, 1) := by decide +kernel
theorem dX3_predict_13 : decode cX3_predict 13 = .ok (.lload_n 3, 1) := by decide +kernel
theorem dX3_predict_14 : decode cX3_predict 14 = .ok (.invokevirtual 99, 3) := by decide +kernel
theorem dX3_predict_17 : decode cX3_predict 17 = .ok (.aload_n 0, 1) := by decide +kernel
theorem dX3_predict_18 : decode cX3_predict 18 = .ok (.getfield 19, 3) := by decide +kernel
theorem dX3_predict_21 : decode cX3_predict 21 = .ok (.getfield 103, 3) := by decide +kernel
theorem dX3_predict_24 : decode cX3_predict 24 = .ok (.aload_n 0, 1) := by decide +kernel
theorem dX3_predict_25 : decode cX3_predict 25 = .ok (.getfield 10, 3) := by decide +kernel
theorem dX3_predict_28 : decode cX3_predict 28 = .ok (.iconst 0, 1) := by decide +kernel
theorem dX3_predict_29 : decode cX3_predict 29 = .ok (.invokevirtual 106, 3) := by decide +kernel
theorem dX3_predict_32 : decode cX3_predict 32 = .ok (.getfield 110, 3) := by decide +kernel
theorem dX3_predict_35 : decode cX3_predict 35 = .ok (.aload_n 0, 1) := by decide +kernel
theorem dX3_predict_36 : decode cX3_predict 36 = .ok (.getfield 10, 3) := by decide +kernel
theorem dX3_predict_39 : decode cX3_predict 39 = .ok (.iconst 0, 1) := by decide +kernel
theorem dX3_predict_40 : decode cX3_predict 40 = .ok (.invokevirtual 115, 3) := by decide +kernel
theorem dX3_predict_43 : decode cX3_predict 43 = .ok (.getfield 110, 3) := by decide +kernel
theorem dX3_predict_46 : decode cX3_predict 46 = .ok (.invokevirtual 118, 3) := by decide +kernel
theorem dX3_predict_49 : decode cX3_predict 49 = .ok (.aload_n 0, 1) := by decide +kernel
theorem dX3_predict_50 : decode cX3_predict 50 = .ok (.getfield 19, 3) := by decide +kernel
theorem dX3_predict_53 : decode cX3_predict 53 = .ok (.getfield 103, 3) := by decide +kernel
theorem dX3_predict_56 : decode cX3_predict 56 = .ok (.iload_n 2, 1) := by decide +kernel
theorem dX3_predict_57 : decode cX3_predict 57 = .ok (.i2l, 1) := by decide +kernel
theorem dX3_predict_58 : decode cX3_predict 58 = .ok (.ldc2_w 122, 3) := by decide +kernel
theorem dX3_predict_61 : decode cX3_predict 61 = .ok (.invokevirtual 124, 3) := by decide +kernel
theorem dX3_predict_64 : decode cX3_predict 64 = .ok (.aload_n 0, 1) := by decide +kernel
theorem dX3_predict_65 : decode cX3_predict 65 = .ok (.getfield 19, 3) := by decide +kernel
theorem dX3_predict_68 : decode cX3_predict 68 = .ok (.getfield 128, 3) := by decide +kernel
theorem dX3_predict_71 : decode cX3_predict 71 = .ok (.aload_n 0, 1) := by decide +kernel
theorem dX3_predict_72 : decode cX3_predict 72 = .ok (.getfield 10, 3) := by decide +kernel
theorem dX3_predict_75 : decode cX3_predict 75 = .ok (.iconst 1, 1) := by decide +kernel
theorem dX3_predict_76 : decode cX3_predict 76 = .ok (.invokevirtual 106, 3) := by decide +kernel
theorem dX3_predict_79 : decode cX3_predict 79 = .ok (.getfield 110, 3) := by decide +kernel
theorem dX3_predict_82 : decode cX3_predict 82 = .ok (.aload_n 0, 1) := by decide +kernel
theorem dX3_predict_83 : decode cX3_predict 83 = .ok (.getfield 10, 3) := by decide +kernel
theorem dX3_predict_86 : decode cX3_predict 86 = .ok (.iconst 1, 1) := by decide +kernel
theorem dX3_predict_87 : decode cX3_predict 87 = .ok (.invokevirtual 115, 3) := by decide +kernel
theorem dX3_predict_90 : decode cX3_predict 90 = .ok (.getfield 110, 3) := by decide +kernel
theorem dX3_predict_93 : decode cX3_predict 93 = .ok (.invokevirtual 118, 3) := by decide +kernel
theorem dX3_predict_96 : decode cX3_predict 96 = .ok (.aload_n 0, 1) := by decide +kernel
theorem dX3_predict_97 : decode cX3_predict 97 = .ok (.getfield 19, 3) := by decide +kernel
theorem dX3_predict_100 : decode cX3_predict 100 = .ok (.getfield 128, 3) := by decide +kernel
theorem dX3_predict_103 : decode cX3_predict 103 = .ok (.iload_n 2, 1) := by decide +kernel
theorem dX3_predict_104 : decode cX3_predict 104 = .ok (.i2l, 1) := by decide +kernel
theorem dX3_predict_105 : decode cX3_predict 105 = .ok (.ldc2_w 122, 3) := by decide +kernel
theorem dX3_predict_108 : decode cX3_predict 108 = .ok (.invokevirtual 124, 3) := by decide +kernel
theorem dX3_predict_111 : decode cX3_predict 111 = .ok (.aload_n 0, 1) := by decide +kernel
theorem dX3_predict_112 : decode cX3_predict 112 = .ok (.getfield 19, 3) := by decide +kernel
theorem dX3_predict_115 : decode cX3_predict 115 = .ok (.aload_n 0, 1) := by decide +kernel
theorem dX3_predict_116 : decode cX3_predict 116 = .ok (.getfield 10, 3) := by decide +kernel
theorem dX3_predict_119 : decode cX3_predict 119 = .ok (.iconst 0, 1) := by decide +kernel
theorem dX3_predict_120 : decode cX3_predict 120 = .ok (.invokevirtual 131, 3) := by decide +kernel
theorem dX3_predict_123 : decode cX3_predict 123 = .ok (.aload_n 0, 1) := by decide +kernel
theorem dX3_predict_124 : decode cX3_predict 124 = .ok (.getfield 10, 3) := by decide +kernel
theorem dX3_predict_127 : decode cX3_predict 127 = .ok (.iconst 1, 1) := by decide +kernel
theorem dX3_predict_128 : decode cX3_predict 128 = .ok (.invokevirtual 131, 3) := by decide +kernel
theorem dX3_predict_131 : decode cX3_predict 131 = .ok (.aload_n 0, 1) := by decide +kernel
theorem dX3_predict_132 : decode cX3_predict 132 = .ok (.getfield 26, 3) := by decide +kernel
theorem dX3_predict_135 : decode cX3_predict 135 = .ok (.aload_n 0, 1) := by decide +kernel
theorem dX3_predict_136 : decode cX3_predict 136 = .ok (.getfield 30, 3) := by decide +kernel
theorem dX3_predict_139 : decode cX3_predict 139 = .ok (.lload_n 3, 1) := by decide +kernel
theorem dX3_predict_140 : decode cX3_predict 140 = .ok (.invokevirtual 134, 3) := by decide +kernel
theorem dX3_predict_143 : decode cX3_predict 143 = .ok (.ireturn, 1) := by decide +kernel
set_option maxHeartbeats 4000000 in
set_option maxRecDepth 100000 in
theorem t_X3_predict (l : Launch) (D : xD) (z n : Nat) (G : xG) (I : xI) (L : xL) (f : Nat) (P : Nat) (h0 : Int32) (u : Int64) (Y : xSy) (hF : shF G f) (zf : z ≤ f) (hP : P ≤ 1024) (hu : ¬ u = 0) (hA : aimedS I (f + 1) Y) : xM0 l D z yX3_predict cX3_predict 5 (some .boolean) 4 104 [.ref f, .int (nI P), .int h0, .long u] n G I L (fun v' I' L' => v' = (some (.int (if syN Y P u (rd L (f + 66)) (rd L (f + 67)) = 0 then 0 else 1))) ∧ I' = I ∧ (rd L' (f + 66) = if syN Y P u (rd L (f + 66)) (rd L (f + 67)) = 0 then rd L (f + 66) else pdX Y P h0 u (rd L (f + 66)) (rd L (f + 67))) ∧ (rd L' (f + 67) = if syN Y P u (rd L (f + 66)) (rd L (f + 67)) = 0 then rd L (f + 67) else pdY Y P h0 u (rd L (f + 66)) (rd L (f + 67))) ∧ (∀ a, (a < f ∨ f + 68 ≤ a) → L' a = L a)) := by
  refine xM.of (by decide) (Nat.le_of_ble_eq_true rfl) (fun p e s m args below meth c C hnm hsz => ?_)
  refine x_lv [(0, .ref f), (1, .int (nI P)), (2, .int h0), (3, .long u)] rfl ?_
  refine x_aload_n 0 C dX3_predict_0 rfl 0 rfl ?_
  refine x_getr 1 C (b := f + 1) dX3_predict_1 ff_X3_10 rfl hF.1 rfl ?_
  refine x_aload_n 4 C dX3_predict_4 rfl 0 rfl ?_
  refine x_getr 5 C (b := f + 66) dX3_predict_5 ff_X3_26 rfl hF.1 rfl ?_
  refine x_aload_n 8 C dX3_predict_8 rfl 0 rfl ?_
  refine x_getr 9 C (b := f + 67) dX3_predict_9 ff_X3_30 rfl hF.1 rfl ?_
  refine x_iload_n 12 C dX3_predict_12 rfl 1 rfl ?_
  refine x_lload_n 13 C dX3_predict_13 rfl 3 rfl ?_
  refine x_callVp 14 C dX3_predict_14 (As := [.ref (f + 66), .ref (f + 67), .int (nI P), .long u]) (rest := []) (t_X5_evaluate l D z n G I L (f + 1) (f + 66) (f + 67) P u Y.1 Y.2.1 Y.2.2.1 Y.2.2.2.1 Y.2.2.2.2.1 Y.2.2.2.2.2.1 Y.2.2.2.2.2.2.1 Y.2.2.2.2.2.2.2 hF.2.1 hF.2.2.2.1 hF.2.2.2.2 (by omega) (by first | assumption | omega | decide) (by first | assumption | omega | decide) (by first | assumption | omega | decide) (by first | assumption | omega | decide) hA) mt_X5_evaluate km_X3_99 ki_X5_evaluate ks_X5_evaluate hF.2.1.1 ⟨by decide, rfl⟩ rfl (Nat.le_of_ble_eq_true rfl) ⟨⟨by decide, by decide⟩, by decide, by decide⟩ (fun w1 I2 L3 hw1 => ?_)
  obtain ⟨hw1v, eI2, hw1r0, hw1r1, hw1r2, hw1r3, hw1r4, hw1r5, hw1r6, hw1r7, hw1r8, hw1r9, hw1r10, hw1r11, hw1r12, hw1r13, hw1r14, hw1r15, hw1r16, hw1r17, hw1r18⟩ := hw1
  subst hw1v
  refine x_st [] rfl ?_
  replace eI2 := eI2.symm; subst eI2
  have k4 : rd L3 (f + 1 + 26 + 20 * 0 + 1) = evV Y.1 Y.2.1 (powC (rd L (f + 66)) (rd L (f + 67)) u) 10 := hw1r0
  have k5 : rd L3 (f + 1 + 26 + 20 * 0 + 2) = evX Y.1 Y.2.1 (powC (rd L (f + 66)) (rd L (f + 67)) u) 10 := hw1r1
  have k6 : rd L3 (f + 1 + 26 + 20 * 0 + 3) = evY Y.1 Y.2.1 (powC (rd L (f + 66)) (rd L (f + 67)) u) 10 := hw1r2
  have k7 : rd L3 (f + 1 + 30 + 20 * 0 + 1) = sB evV Y.2.2.2.2.1 Y.2.2.2.2.2.2.1 Y.2.2.2.2.2.2.2 (rd L (f + 66)) (rd L (f + 67)) u := hw1r3
  have k8 : rd L3 (f + 1 + 30 + 20 * 0 + 2) = sB evX Y.2.2.2.2.1 Y.2.2.2.2.2.2.1 Y.2.2.2.2.2.2.2 (rd L (f + 66)) (rd L (f + 67)) u := hw1r4
  have k9 : rd L3 (f + 1 + 30 + 20 * 0 + 3) = sB evY Y.2.2.2.2.1 Y.2.2.2.2.2.2.1 Y.2.2.2.2.2.2.2 (rd L (f + 66)) (rd L (f + 67)) u := hw1r5
  have k10 : rd L3 (f + 1 + 34 + 20 * 0 + 1) = sM evV Y.1 Y.2.1 Y.2.2.2.2.1 Y.2.2.2.2.2.2.1 Y.2.2.2.2.2.2.2 P (rd L (f + 66)) (rd L (f + 67)) u := hw1r6
  have k11 : rd L3 (f + 1 + 34 + 20 * 0 + 2) = sM evX Y.1 Y.2.1 Y.2.2.2.2.1 Y.2.2.2.2.2.2.1 Y.2.2.2.2.2.2.2 P (rd L (f + 66)) (rd L (f + 67)) u := hw1r7
  have k12 : rd L3 (f + 1 + 34 + 20 * 0 + 3) = sM evY Y.1 Y.2.1 Y.2.2.2.2.1 Y.2.2.2.2.2.2.1 Y.2.2.2.2.2.2.2 P (rd L (f + 66)) (rd L (f + 67)) u := hw1r8
  have k13 : rd L3 (f + 1 + 26 + 20 * 1 + 1) = evV Y.2.2.1 Y.2.2.2.1 (powC (rd L (f + 66)) (rd L (f + 67)) u) 10 := hw1r9
  have k14 : rd L3 (f + 1 + 26 + 20 * 1 + 2) = evX Y.2.2.1 Y.2.2.2.1 (powC (rd L (f + 66)) (rd L (f + 67)) u) 10 := hw1r10
  have k15 : rd L3 (f + 1 + 26 + 20 * 1 + 3) = evY Y.2.2.1 Y.2.2.2.1 (powC (rd L (f + 66)) (rd L (f + 67)) u) 10 := hw1r11
  have k16 : rd L3 (f + 1 + 30 + 20 * 1 + 1) = sB evV Y.2.2.2.2.2.1 Y.2.2.2.2.2.2.1 Y.2.2.2.2.2.2.2 (rd L (f + 66)) (rd L (f + 67)) u := hw1r12
  have k17 : rd L3 (f + 1 + 30 + 20 * 1 + 2) = sB evX Y.2.2.2.2.2.1 Y.2.2.2.2.2.2.1 Y.2.2.2.2.2.2.2 (rd L (f + 66)) (rd L (f + 67)) u := hw1r13
  have k18 : rd L3 (f + 1 + 30 + 20 * 1 + 3) = sB evY Y.2.2.2.2.2.1 Y.2.2.2.2.2.2.1 Y.2.2.2.2.2.2.2 (rd L (f + 66)) (rd L (f + 67)) u := hw1r14
  have k19 : rd L3 (f + 1 + 34 + 20 * 1 + 1) = sM evV Y.2.2.1 Y.2.2.2.1 Y.2.2.2.2.2.1 Y.2.2.2.2.2.2.1 Y.2.2.2.2.2.2.2 P (rd L (f + 66)) (rd L (f + 67)) u := hw1r15
  have k20 : rd L3 (f + 1 + 34 + 20 * 1 + 2) = sM evX Y.2.2.1 Y.2.2.2.1 Y.2.2.2.2.2.1 Y.2.2.2.2.2.2.1 Y.2.2.2.2.2.2.2 P (rd L (f + 66)) (rd L (f + 67)) u := hw1r16
  have k21 : rd L3 (f + 1 + 34 + 20 * 1 + 3) = sM evY Y.2.2.1 Y.2.2.2.1 Y.2.2.2.2.2.1 Y.2.2.2.2.2.2.1 Y.2.2.2.2.2.2.2 P (rd L (f + 66)) (rd L (f + 67)) u := hw1r17
  have k22 : rd L3 (f + 59 + 1 + 0) = rd L (f + 59 + 1 + 0) := (rd_congr (hw1r18 (f + 59 + 1 + 0) (by omega))).trans rfl
  have k23 : rd L3 (f + 59 + 1 + 1) = rd L (f + 59 + 1 + 1) := (rd_congr (hw1r18 (f + 59 + 1 + 1) (by omega))).trans rfl
  have k24 : rd L3 (f + 59 + 1 + 2) = rd L (f + 59 + 1 + 2) := (rd_congr (hw1r18 (f + 59 + 1 + 2) (by omega))).trans rfl
  have k25 : rd L3 (f + 59 + 1 + 3) = rd L (f + 59 + 1 + 3) := (rd_congr (hw1r18 (f + 59 + 1 + 3) (by omega))).trans rfl
  have k26 : rd L3 (f + 66) = rd L (f + 66) := (rd_congr (hw1r18 (f + 66) (by omega))).trans rfl
  have k27 : rd L3 (f + 67) = rd L (f + 67) := (rd_congr (hw1r18 (f + 67) (by omega))).trans rfl
  have k28 : rd L3 (f + 1 + 26 + 20 * 0 + 1) = syE0 Y evV (rd L (f + 66)) (rd L (f + 67)) u := k4
  have k29 : rd L3 (f + 1 + 26 + 20 * 0 + 2) = syE0 Y evX (rd L (f + 66)) (rd L (f + 67)) u := k5
  have k30 : rd L3 (f + 1 + 26 + 20 * 0 + 3) = syE0 Y evY (rd L (f + 66)) (rd L (f + 67)) u := k6
  have k31 : rd L3 (f + 1 + 30 + 20 * 0 + 1) = syB0 Y evV (rd L (f + 66)) (rd L (f + 67)) u := k7
  have k32 : rd L3 (f + 1 + 30 + 20 * 0 + 2) = syB0 Y evX (rd L (f + 66)) (rd L (f + 67)) u := k8
  have k33 : rd L3 (f + 1 + 30 + 20 * 0 + 3) = syB0 Y evY (rd L (f + 66)) (rd L (f + 67)) u := k9
  have k34 : rd L3 (f + 1 + 34 + 20 * 0 + 1) = syM0 Y P evV (rd L (f + 66)) (rd L (f + 67)) u := k10
  have k35 : rd L3 (f + 1 + 34 + 20 * 0 + 2) = syM0 Y P evX (rd L (f + 66)) (rd L (f + 67)) u := k11
  have k36 : rd L3 (f + 1 + 34 + 20 * 0 + 3) = syM0 Y P evY (rd L (f + 66)) (rd L (f + 67)) u := k12
  have k37 : rd L3 (f + 1 + 26 + 20 * 1 + 1) = syE1 Y evV (rd L (f + 66)) (rd L (f + 67)) u := k13
  have k38 : rd L3 (f + 1 + 26 + 20 * 1 + 2) = syE1 Y evX (rd L (f + 66)) (rd L (f + 67)) u := k14
  have k39 : rd L3 (f + 1 + 26 + 20 * 1 + 3) = syE1 Y evY (rd L (f + 66)) (rd L (f + 67)) u := k15
  have k40 : rd L3 (f + 1 + 30 + 20 * 1 + 1) = syB1 Y evV (rd L (f + 66)) (rd L (f + 67)) u := k16
  have k41 : rd L3 (f + 1 + 30 + 20 * 1 + 2) = syB1 Y evX (rd L (f + 66)) (rd L (f + 67)) u := k17
  have k42 : rd L3 (f + 1 + 30 + 20 * 1 + 3) = syB1 Y evY (rd L (f + 66)) (rd L (f + 67)) u := k18
  have k43 : rd L3 (f + 1 + 34 + 20 * 1 + 1) = syM1 Y P evV (rd L (f + 66)) (rd L (f + 67)) u := k19
  have k44 : rd L3 (f + 1 + 34 + 20 * 1 + 2) = syM1 Y P evX (rd L (f + 66)) (rd L (f + 67)) u := k20
  have k45 : rd L3 (f + 1 + 34 + 20 * 1 + 3) = syM1 Y P evY (rd L (f + 66)) (rd L (f + 67)) u := k21
  refine x_aload_n 17 C dX3_predict_17 rfl 0 rfl ?_
  refine x_getr 18 C (b := f + 59) dX3_predict_18 ff_X3_19 rfl hF.1 rfl ?_
  refine x_getr 21 C (b := f + 59 + 1 + 0) dX3_predict_21 ff_X3_103 rfl hF.2.2.1.1 rfl ?_
  refine x_aload_n 24 C dX3_predict_24 rfl 0 rfl ?_
  refine x_getr 25 C (b := f + 1) dX3_predict_25 ff_X3_10 rfl hF.1 rfl ?_
  refine x_iconst 28 C (v := 0) dX3_predict_28 rfl ?_
  refine x_callVe 29 C dX3_predict_29 (As := [.int 0]) (rest := [.ref (f + 59 + 1 + 0)]) [.ref (f + 1 + 30 + 20 * 0), .ref (f + 59 + 1 + 0)] (t_X5_begin l D z n G I L3 (f + 1) 0 hF.2.1 (by first | assumption | omega | decide)) mt_X5_begin km_X3_106 ki_X5_begin ks_X5_begin hF.2.1.1 ⟨by decide, rfl⟩ rfl rfl (Nat.le_of_ble_eq_true rfl) ⟨⟨by decide, by decide⟩, by decide, by decide⟩ (fun I46 L47 eI46 eL47 => ?_)
  replace eI46 := eI46.symm; subst eI46
  replace eL47 := eL47.symm; subst eL47
  refine x_getr 32 C (b := f + 1 + 30 + 20 * 0 + 1) dX3_predict_32 ff_X3_110 rfl (hF.2.1.2.2.2.2.2.2.2 0 (by decide)).2.2.2.1.1 rfl ?_
  refine x_aload_n 35 C dX3_predict_35 rfl 0 rfl ?_
  refine x_getr 36 C (b := f + 1) dX3_predict_36 ff_X3_10 rfl hF.1 rfl ?_
  refine x_iconst 39 C (v := 0) dX3_predict_39 rfl ?_
  refine x_callVe 40 C dX3_predict_40 (As := [.int 0]) (rest := [.ref (f + 1 + 30 + 20 * 0 + 1), .ref (f + 59 + 1 + 0)]) [.ref (f + 1 + 26 + 20 * 0), .ref (f + 1 + 30 + 20 * 0 + 1), .ref (f + 59 + 1 + 0)] (t_X5_end l D z n G I L3 (f + 1) 0 hF.2.1 (by first | assumption | omega | decide)) mt_X5_end km_X3_115 ki_X5_end ks_X5_end hF.2.1.1 ⟨by decide, rfl⟩ rfl rfl (Nat.le_of_ble_eq_true rfl) ⟨⟨by decide, by decide⟩, by decide, by decide⟩ (fun I48 L49 eI48 eL49 => ?_)
  replace eI48 := eI48.symm; subst eI48
  replace eL49 := eL49.symm; subst eL49
  refine x_getr 43 C (b := f + 1 + 26 + 20 * 0 + 1) dX3_predict_43 ff_X3_110 rfl (hF.2.1.2.2.2.2.2.2.2 0 (by decide)).2.2.1.1 rfl ?_
  refine x_callVe 46 C dX3_predict_46 (As := [.ref (f + 1 + 30 + 20 * 0 + 1), .ref (f + 1 + 26 + 20 * 0 + 1)]) (rest := []) [] (t_X0_putDifference_c l D z n G I L3 (f + 59 + 1 + 0) (f + 1 + 30 + 20 * 0 + 1) (f + 1 + 26 + 20 * 0 + 1) (hF.2.2.1.2 0 (by decide)) (hF.2.1.2.2.2.2.2.2.2 0 (by decide)).2.2.2.1.2.1 (hF.2.1.2.2.2.2.2.2.2 0 (by decide)).2.2.1.2.1 (by omega)) mt_X0_putDifference km_X3_118 ki_X0_putDifference ks_X0_putDifference (hF.2.2.1.2 0 (by decide)) ⟨by decide, rfl⟩ rfl rfl (Nat.le_of_ble_eq_true rfl) ⟨⟨by decide, by decide⟩, by decide, by decide⟩ (fun I50 L51 eI50 eL51 => ?_)
  replace eI50 := eI50.symm; subst eI50
  have k52 : rd L51 (f + 1 + 26 + 20 * 0 + 1) = syE0 Y evV (rd L (f + 66)) (rd L (f + 67)) u := by rw [eL51, rd_cw_ne _ _ (by omega)]; exact k28
  have k53 : rd L51 (f + 1 + 26 + 20 * 0 + 2) = syE0 Y evX (rd L (f + 66)) (rd L (f + 67)) u := by rw [eL51, rd_cw_ne _ _ (by omega)]; exact k29
  have k54 : rd L51 (f + 1 + 26 + 20 * 0 + 3) = syE0 Y evY (rd L (f + 66)) (rd L (f + 67)) u := by rw [eL51, rd_cw_ne _ _ (by omega)]; exact k30
  have k55 : rd L51 (f + 1 + 30 + 20 * 0 + 1) = syB0 Y evV (rd L (f + 66)) (rd L (f + 67)) u := by rw [eL51, rd_cw_ne _ _ (by omega)]; exact k31
  have k56 : rd L51 (f + 1 + 30 + 20 * 0 + 2) = syB0 Y evX (rd L (f + 66)) (rd L (f + 67)) u := by rw [eL51, rd_cw_ne _ _ (by omega)]; exact k32
  have k57 : rd L51 (f + 1 + 30 + 20 * 0 + 3) = syB0 Y evY (rd L (f + 66)) (rd L (f + 67)) u := by rw [eL51, rd_cw_ne _ _ (by omega)]; exact k33
  have k58 : rd L51 (f + 1 + 34 + 20 * 0 + 1) = syM0 Y P evV (rd L (f + 66)) (rd L (f + 67)) u := by rw [eL51, rd_cw_ne _ _ (by omega)]; exact k34
  have k59 : rd L51 (f + 1 + 34 + 20 * 0 + 2) = syM0 Y P evX (rd L (f + 66)) (rd L (f + 67)) u := by rw [eL51, rd_cw_ne _ _ (by omega)]; exact k35
  have k60 : rd L51 (f + 1 + 34 + 20 * 0 + 3) = syM0 Y P evY (rd L (f + 66)) (rd L (f + 67)) u := by rw [eL51, rd_cw_ne _ _ (by omega)]; exact k36
  have k61 : rd L51 (f + 1 + 26 + 20 * 1 + 1) = syE1 Y evV (rd L (f + 66)) (rd L (f + 67)) u := by rw [eL51, rd_cw_ne _ _ (by omega)]; exact k37
  have k62 : rd L51 (f + 1 + 26 + 20 * 1 + 2) = syE1 Y evX (rd L (f + 66)) (rd L (f + 67)) u := by rw [eL51, rd_cw_ne _ _ (by omega)]; exact k38
  have k63 : rd L51 (f + 1 + 26 + 20 * 1 + 3) = syE1 Y evY (rd L (f + 66)) (rd L (f + 67)) u := by rw [eL51, rd_cw_ne _ _ (by omega)]; exact k39
  have k64 : rd L51 (f + 1 + 30 + 20 * 1 + 1) = syB1 Y evV (rd L (f + 66)) (rd L (f + 67)) u := by rw [eL51, rd_cw_ne _ _ (by omega)]; exact k40
  have k65 : rd L51 (f + 1 + 30 + 20 * 1 + 2) = syB1 Y evX (rd L (f + 66)) (rd L (f + 67)) u := by rw [eL51, rd_cw_ne _ _ (by omega)]; exact k41
  have k66 : rd L51 (f + 1 + 30 + 20 * 1 + 3) = syB1 Y evY (rd L (f + 66)) (rd L (f + 67)) u := by rw [eL51, rd_cw_ne _ _ (by omega)]; exact k42
  have k67 : rd L51 (f + 1 + 34 + 20 * 1 + 1) = syM1 Y P evV (rd L (f + 66)) (rd L (f + 67)) u := by rw [eL51, rd_cw_ne _ _ (by omega)]; exact k43
  have k68 : rd L51 (f + 1 + 34 + 20 * 1 + 2) = syM1 Y P evX (rd L (f + 66)) (rd L (f + 67)) u := by rw [eL51, rd_cw_ne _ _ (by omega)]; exact k44
  have k69 : rd L51 (f + 1 + 34 + 20 * 1 + 3) = syM1 Y P evY (rd L (f + 66)) (rd L (f + 67)) u := by rw [eL51, rd_cw_ne _ _ (by omega)]; exact k45
  have k70 : rd L51 (f + 59 + 1 + 0) = subC (syB0 Y evV (rd L (f + 66)) (rd L (f + 67)) u) (syE0 Y evV (rd L (f + 66)) (rd L (f + 67)) u) := by rw [eL51, rd_cw]; simp only [k31, k28]
  have k71 : rd L51 (f + 59 + 1 + 1) = rd L (f + 59 + 1 + 1) := by rw [eL51, rd_cw_ne _ _ (by omega)]; exact k23
  have k72 : rd L51 (f + 59 + 1 + 2) = rd L (f + 59 + 1 + 2) := by rw [eL51, rd_cw_ne _ _ (by omega)]; exact k24
  have k73 : rd L51 (f + 59 + 1 + 3) = rd L (f + 59 + 1 + 3) := by rw [eL51, rd_cw_ne _ _ (by omega)]; exact k25
  have k74 : rd L51 (f + 66) = rd L (f + 66) := by rw [eL51, rd_cw_ne _ _ (by omega)]; exact k26
  have k75 : rd L51 (f + 67) = rd L (f + 67) := by rw [eL51, rd_cw_ne _ _ (by omega)]; exact k27
  refine x_aload_n 49 C dX3_predict_49 rfl 0 rfl ?_
  refine x_getr 50 C (b := f + 59) dX3_predict_50 ff_X3_19 rfl hF.1 rfl ?_
  refine x_getr 53 C (b := f + 59 + 1 + 0) dX3_predict_53 ff_X3_103 rfl hF.2.2.1.1 rfl ?_
  refine x_iload_n 56 C dX3_predict_56 rfl 2 rfl ?_
  refine x_i2l 57 C dX3_predict_57 ?_
  refine x_ldc2 58 C 1024 dX3_predict_58 kk_X3_122 ?_
  refine x_callVe 61 C dX3_predict_61 (As := [.long (Int32.toInt64 h0), .long 1024]) (rest := []) [] (t_X0_takeShare_c l D z n G I L51 (f + 59 + 1 + 0) (Int32.toInt64 h0) 1024 (hF.2.2.1.2 0 (by decide)) (by omega) (by first | assumption | omega | decide)) mt_X0_takeShare km_X3_124 ki_X0_takeShare ks_X0_takeShare (hF.2.2.1.2 0 (by decide)) ⟨by decide, rfl⟩ rfl rfl (Nat.le_of_ble_eq_true rfl) ⟨⟨by decide, by decide⟩, by decide, by decide⟩ (fun I76 L77 eI76 eL77 => ?_)
  replace eI76 := eI76.symm; subst eI76
  have k78 : rd L77 (f + 1 + 26 + 20 * 0 + 1) = syE0 Y evV (rd L (f + 66)) (rd L (f + 67)) u := by rw [eL77, rd_cw_ne _ _ (by omega)]; exact k52
  have k79 : rd L77 (f + 1 + 26 + 20 * 0 + 2) = syE0 Y evX (rd L (f + 66)) (rd L (f + 67)) u := by rw [eL77, rd_cw_ne _ _ (by omega)]; exact k53
  have k80 : rd L77 (f + 1 + 26 + 20 * 0 + 3) = syE0 Y evY (rd L (f + 66)) (rd L (f + 67)) u := by rw [eL77, rd_cw_ne _ _ (by omega)]; exact k54
  have k81 : rd L77 (f + 1 + 30 + 20 * 0 + 1) = syB0 Y evV (rd L (f + 66)) (rd L (f + 67)) u := by rw [eL77, rd_cw_ne _ _ (by omega)]; exact k55
  have k82 : rd L77 (f + 1 + 30 + 20 * 0 + 2) = syB0 Y evX (rd L (f + 66)) (rd L (f + 67)) u := by rw [eL77, rd_cw_ne _ _ (by omega)]; exact k56
  have k83 : rd L77 (f + 1 + 30 + 20 * 0 + 3) = syB0 Y evY (rd L (f + 66)) (rd L (f + 67)) u := by rw [eL77, rd_cw_ne _ _ (by omega)]; exact k57
  have k84 : rd L77 (f + 1 + 34 + 20 * 0 + 1) = syM0 Y P evV (rd L (f + 66)) (rd L (f + 67)) u := by rw [eL77, rd_cw_ne _ _ (by omega)]; exact k58
  have k85 : rd L77 (f + 1 + 34 + 20 * 0 + 2) = syM0 Y P evX (rd L (f + 66)) (rd L (f + 67)) u := by rw [eL77, rd_cw_ne _ _ (by omega)]; exact k59
  have k86 : rd L77 (f + 1 + 34 + 20 * 0 + 3) = syM0 Y P evY (rd L (f + 66)) (rd L (f + 67)) u := by rw [eL77, rd_cw_ne _ _ (by omega)]; exact k60
  have k87 : rd L77 (f + 1 + 26 + 20 * 1 + 1) = syE1 Y evV (rd L (f + 66)) (rd L (f + 67)) u := by rw [eL77, rd_cw_ne _ _ (by omega)]; exact k61
  have k88 : rd L77 (f + 1 + 26 + 20 * 1 + 2) = syE1 Y evX (rd L (f + 66)) (rd L (f + 67)) u := by rw [eL77, rd_cw_ne _ _ (by omega)]; exact k62
  have k89 : rd L77 (f + 1 + 26 + 20 * 1 + 3) = syE1 Y evY (rd L (f + 66)) (rd L (f + 67)) u := by rw [eL77, rd_cw_ne _ _ (by omega)]; exact k63
  have k90 : rd L77 (f + 1 + 30 + 20 * 1 + 1) = syB1 Y evV (rd L (f + 66)) (rd L (f + 67)) u := by rw [eL77, rd_cw_ne _ _ (by omega)]; exact k64
  have k91 : rd L77 (f + 1 + 30 + 20 * 1 + 2) = syB1 Y evX (rd L (f + 66)) (rd L (f + 67)) u := by rw [eL77, rd_cw_ne _ _ (by omega)]; exact k65
  have k92 : rd L77 (f + 1 + 30 + 20 * 1 + 3) = syB1 Y evY (rd L (f + 66)) (rd L (f + 67)) u := by rw [eL77, rd_cw_ne _ _ (by omega)]; exact k66
  have k93 : rd L77 (f + 1 + 34 + 20 * 1 + 1) = syM1 Y P evV (rd L (f + 66)) (rd L (f + 67)) u := by rw [eL77, rd_cw_ne _ _ (by omega)]; exact k67
  have k94 : rd L77 (f + 1 + 34 + 20 * 1 + 2) = syM1 Y P evX (rd L (f + 66)) (rd L (f + 67)) u := by rw [eL77, rd_cw_ne _ _ (by omega)]; exact k68
  have k95 : rd L77 (f + 1 + 34 + 20 * 1 + 3) = syM1 Y P evY (rd L (f + 66)) (rd L (f + 67)) u := by rw [eL77, rd_cw_ne _ _ (by omega)]; exact k69
  have k96 : rd L77 (f + 59 + 1 + 0) = shaC (subC (syB0 Y evV (rd L (f + 66)) (rd L (f + 67)) u) (syE0 Y evV (rd L (f + 66)) (rd L (f + 67)) u)) (Int32.toInt64 h0) 1024 := by rw [eL77, rd_cw]; simp only [k70]
  have k97 : rd L77 (f + 59 + 1 + 1) = rd L (f + 59 + 1 + 1) := by rw [eL77, rd_cw_ne _ _ (by omega)]; exact k71
  have k98 : rd L77 (f + 59 + 1 + 2) = rd L (f + 59 + 1 + 2) := by rw [eL77, rd_cw_ne _ _ (by omega)]; exact k72
  have k99 : rd L77 (f + 59 + 1 + 3) = rd L (f + 59 + 1 + 3) := by rw [eL77, rd_cw_ne _ _ (by omega)]; exact k73
  have k100 : rd L77 (f + 66) = rd L (f + 66) := by rw [eL77, rd_cw_ne _ _ (by omega)]; exact k74
  have k101 : rd L77 (f + 67) = rd L (f + 67) := by rw [eL77, rd_cw_ne _ _ (by omega)]; exact k75
  refine x_aload_n 64 C dX3_predict_64 rfl 0 rfl ?_
  refine x_getr 65 C (b := f + 59) dX3_predict_65 ff_X3_19 rfl hF.1 rfl ?_
  refine x_getr 68 C (b := f + 59 + 1 + 1) dX3_predict_68 ff_X3_128 rfl hF.2.2.1.1 rfl ?_
  refine x_aload_n 71 C dX3_predict_71 rfl 0 rfl ?_
  refine x_getr 72 C (b := f + 1) dX3_predict_72 ff_X3_10 rfl hF.1 rfl ?_
  refine x_iconst 75 C (v := 1) dX3_predict_75 rfl ?_
  refine x_callVe 76 C dX3_predict_76 (As := [.int 1]) (rest := [.ref (f + 59 + 1 + 1)]) [.ref (f + 1 + 30 + 20 * 1), .ref (f + 59 + 1 + 1)] (t_X5_begin l D z n G I L77 (f + 1) 1 hF.2.1 (by first | assumption | omega | decide)) mt_X5_begin km_X3_106 ki_X5_begin ks_X5_begin hF.2.1.1 ⟨by decide, rfl⟩ rfl rfl (Nat.le_of_ble_eq_true rfl) ⟨⟨by decide, by decide⟩, by decide, by decide⟩ (fun I102 L103 eI102 eL103 => ?_)
  replace eI102 := eI102.symm; subst eI102
  replace eL103 := eL103.symm; subst eL103
  refine x_getr 79 C (b := f + 1 + 30 + 20 * 1 + 1) dX3_predict_79 ff_X3_110 rfl (hF.2.1.2.2.2.2.2.2.2 1 (by decide)).2.2.2.1.1 rfl ?_
  refine x_aload_n 82 C dX3_predict_82 rfl 0 rfl ?_
  refine x_getr 83 C (b := f + 1) dX3_predict_83 ff_X3_10 rfl hF.1 rfl ?_
  refine x_iconst 86 C (v := 1) dX3_predict_86 rfl ?_
  refine x_callVe 87 C dX3_predict_87 (As := [.int 1]) (rest := [.ref (f + 1 + 30 + 20 * 1 + 1), .ref (f + 59 + 1 + 1)]) [.ref (f + 1 + 26 + 20 * 1), .ref (f + 1 + 30 + 20 * 1 + 1), .ref (f + 59 + 1 + 1)] (t_X5_end l D z n G I L77 (f + 1) 1 hF.2.1 (by first | assumption | omega | decide)) mt_X5_end km_X3_115 ki_X5_end ks_X5_end hF.2.1.1 ⟨by decide, rfl⟩ rfl rfl (Nat.le_of_ble_eq_true rfl) ⟨⟨by decide, by decide⟩, by decide, by decide⟩ (fun I104 L105 eI104 eL105 => ?_)
  replace eI104 := eI104.symm; subst eI104
  replace eL105 := eL105.symm; subst eL105
  refine x_getr 90 C (b := f + 1 + 26 + 20 * 1 + 1) dX3_predict_90 ff_X3_110 rfl (hF.2.1.2.2.2.2.2.2.2 1 (by decide)).2.2.1.1 rfl ?_
  refine x_callVe 93 C dX3_predict_93 (As := [.ref (f + 1 + 30 + 20 * 1 + 1), .ref (f + 1 + 26 + 20 * 1 + 1)]) (rest := []) [] (t_X0_putDifference_c l D z n G I L77 (f + 59 + 1 + 1) (f + 1 + 30 + 20 * 1 + 1) (f + 1 + 26 + 20 * 1 + 1) (hF.2.2.1.2 1 (by decide)) (hF.2.1.2.2.2.2.2.2.2 1 (by decide)).2.2.2.1.2.1 (hF.2.1.2.2.2.2.2.2.2 1 (by decide)).2.2.1.2.1 (by omega)) mt_X0_putDifference km_X3_118 ki_X0_putDifference ks_X0_putDifference (hF.2.2.1.2 1 (by decide)) ⟨by decide, rfl⟩ rfl rfl (Nat.le_of_ble_eq_true rfl) ⟨⟨by decide, by decide⟩, by decide, by decide⟩ (fun I106 L107 eI106 eL107 => ?_)
  replace eI106 := eI106.symm; subst eI106
  have k108 : rd L107 (f + 1 + 26 + 20 * 0 + 1) = syE0 Y evV (rd L (f + 66)) (rd L (f + 67)) u := by rw [eL107, rd_cw_ne _ _ (by omega)]; exact k78
  have k109 : rd L107 (f + 1 + 26 + 20 * 0 + 2) = syE0 Y evX (rd L (f + 66)) (rd L (f + 67)) u := by rw [eL107, rd_cw_ne _ _ (by omega)]; exact k79
  have k110 : rd L107 (f + 1 + 26 + 20 * 0 + 3) = syE0 Y evY (rd L (f + 66)) (rd L (f + 67)) u := by rw [eL107, rd_cw_ne _ _ (by omega)]; exact k80
  have k111 : rd L107 (f + 1 + 30 + 20 * 0 + 1) = syB0 Y evV (rd L (f + 66)) (rd L (f + 67)) u := by rw [eL107, rd_cw_ne _ _ (by omega)]; exact k81
  have k112 : rd L107 (f + 1 + 30 + 20 * 0 + 2) = syB0 Y evX (rd L (f + 66)) (rd L (f + 67)) u := by rw [eL107, rd_cw_ne _ _ (by omega)]; exact k82
  have k113 : rd L107 (f + 1 + 30 + 20 * 0 + 3) = syB0 Y evY (rd L (f + 66)) (rd L (f + 67)) u := by rw [eL107, rd_cw_ne _ _ (by omega)]; exact k83
  have k114 : rd L107 (f + 1 + 34 + 20 * 0 + 1) = syM0 Y P evV (rd L (f + 66)) (rd L (f + 67)) u := by rw [eL107, rd_cw_ne _ _ (by omega)]; exact k84
  have k115 : rd L107 (f + 1 + 34 + 20 * 0 + 2) = syM0 Y P evX (rd L (f + 66)) (rd L (f + 67)) u := by rw [eL107, rd_cw_ne _ _ (by omega)]; exact k85
  have k116 : rd L107 (f + 1 + 34 + 20 * 0 + 3) = syM0 Y P evY (rd L (f + 66)) (rd L (f + 67)) u := by rw [eL107, rd_cw_ne _ _ (by omega)]; exact k86
  have k117 : rd L107 (f + 1 + 26 + 20 * 1 + 1) = syE1 Y evV (rd L (f + 66)) (rd L (f + 67)) u := by rw [eL107, rd_cw_ne _ _ (by omega)]; exact k87
  have k118 : rd L107 (f + 1 + 26 + 20 * 1 + 2) = syE1 Y evX (rd L (f + 66)) (rd L (f + 67)) u := by rw [eL107, rd_cw_ne _ _ (by omega)]; exact k88
  have k119 : rd L107 (f + 1 + 26 + 20 * 1 + 3) = syE1 Y evY (rd L (f + 66)) (rd L (f + 67)) u := by rw [eL107, rd_cw_ne _ _ (by omega)]; exact k89
  have k120 : rd L107 (f + 1 + 30 + 20 * 1 + 1) = syB1 Y evV (rd L (f + 66)) (rd L (f + 67)) u := by rw [eL107, rd_cw_ne _ _ (by omega)]; exact k90
  have k121 : rd L107 (f + 1 + 30 + 20 * 1 + 2) = syB1 Y evX (rd L (f + 66)) (rd L (f + 67)) u := by rw [eL107, rd_cw_ne _ _ (by omega)]; exact k91
  have k122 : rd L107 (f + 1 + 30 + 20 * 1 + 3) = syB1 Y evY (rd L (f + 66)) (rd L (f + 67)) u := by rw [eL107, rd_cw_ne _ _ (by omega)]; exact k92
  have k123 : rd L107 (f + 1 + 34 + 20 * 1 + 1) = syM1 Y P evV (rd L (f + 66)) (rd L (f + 67)) u := by rw [eL107, rd_cw_ne _ _ (by omega)]; exact k93
  have k124 : rd L107 (f + 1 + 34 + 20 * 1 + 2) = syM1 Y P evX (rd L (f + 66)) (rd L (f + 67)) u := by rw [eL107, rd_cw_ne _ _ (by omega)]; exact k94
  have k125 : rd L107 (f + 1 + 34 + 20 * 1 + 3) = syM1 Y P evY (rd L (f + 66)) (rd L (f + 67)) u := by rw [eL107, rd_cw_ne _ _ (by omega)]; exact k95
  have k126 : rd L107 (f + 59 + 1 + 0) = shaC (subC (syB0 Y evV (rd L (f + 66)) (rd L (f + 67)) u) (syE0 Y evV (rd L (f + 66)) (rd L (f + 67)) u)) (Int32.toInt64 h0) 1024 := by rw [eL107, rd_cw_ne _ _ (by omega)]; exact k96
  have k127 : rd L107 (f + 59 + 1 + 1) = subC (syB1 Y evV (rd L (f + 66)) (rd L (f + 67)) u) (syE1 Y evV (rd L (f + 66)) (rd L (f + 67)) u) := by rw [eL107, rd_cw]; simp only [k90, k87]
  have k128 : rd L107 (f + 59 + 1 + 2) = rd L (f + 59 + 1 + 2) := by rw [eL107, rd_cw_ne _ _ (by omega)]; exact k98
  have k129 : rd L107 (f + 59 + 1 + 3) = rd L (f + 59 + 1 + 3) := by rw [eL107, rd_cw_ne _ _ (by omega)]; exact k99
  have k130 : rd L107 (f + 66) = rd L (f + 66) := by rw [eL107, rd_cw_ne _ _ (by omega)]; exact k100
  have k131 : rd L107 (f + 67) = rd L (f + 67) := by rw [eL107, rd_cw_ne _ _ (by omega)]; exact k101
  refine x_aload_n 96 C dX3_predict_96 rfl 0 rfl ?_
  refine x_getr 97 C (b := f + 59) dX3_predict_97 ff_X3_19 rfl hF.1 rfl ?_
  refine x_getr 100 C (b := f + 59 + 1 + 1) dX3_predict_100 ff_X3_128 rfl hF.2.2.1.1 rfl ?_
  refine x_iload_n 103 C dX3_predict_103 rfl 2 rfl ?_
  refine x_i2l 104 C dX3_predict_104 ?_
  refine x_ldc2 105 C 1024 dX3_predict_105 kk_X3_122 ?_
  refine x_callVe 108 C dX3_predict_108 (As := [.long (Int32.toInt64 h0), .long 1024]) (rest := []) [] (t_X0_takeShare_c l D z n G I L107 (f + 59 + 1 + 1) (Int32.toInt64 h0) 1024 (hF.2.2.1.2 1 (by decide)) (by omega) (by first | assumption | omega | decide)) mt_X0_takeShare km_X3_124 ki_X0_takeShare ks_X0_takeShare (hF.2.2.1.2 1 (by decide)) ⟨by decide, rfl⟩ rfl rfl (Nat.le_of_ble_eq_true rfl) ⟨⟨by decide, by decide⟩, by decide, by decide⟩ (fun I132 L133 eI132 eL133 => ?_)
  replace eI132 := eI132.symm; subst eI132
  have k134 : rd L133 (f + 1 + 26 + 20 * 0 + 1) = syE0 Y evV (rd L (f + 66)) (rd L (f + 67)) u := by rw [eL133, rd_cw_ne _ _ (by omega)]; exact k108
  have k135 : rd L133 (f + 1 + 26 + 20 * 0 + 2) = syE0 Y evX (rd L (f + 66)) (rd L (f + 67)) u := by rw [eL133, rd_cw_ne _ _ (by omega)]; exact k109
  have k136 : rd L133 (f + 1 + 26 + 20 * 0 + 3) = syE0 Y evY (rd L (f + 66)) (rd L (f + 67)) u := by rw [eL133, rd_cw_ne _ _ (by omega)]; exact k110
  have k137 : rd L133 (f + 1 + 30 + 20 * 0 + 1) = syB0 Y evV (rd L (f + 66)) (rd L (f + 67)) u := by rw [eL133, rd_cw_ne _ _ (by omega)]; exact k111
  have k138 : rd L133 (f + 1 + 30 + 20 * 0 + 2) = syB0 Y evX (rd L (f + 66)) (rd L (f + 67)) u := by rw [eL133, rd_cw_ne _ _ (by omega)]; exact k112
  have k139 : rd L133 (f + 1 + 30 + 20 * 0 + 3) = syB0 Y evY (rd L (f + 66)) (rd L (f + 67)) u := by rw [eL133, rd_cw_ne _ _ (by omega)]; exact k113
  have k140 : rd L133 (f + 1 + 34 + 20 * 0 + 1) = syM0 Y P evV (rd L (f + 66)) (rd L (f + 67)) u := by rw [eL133, rd_cw_ne _ _ (by omega)]; exact k114
  have k141 : rd L133 (f + 1 + 34 + 20 * 0 + 2) = syM0 Y P evX (rd L (f + 66)) (rd L (f + 67)) u := by rw [eL133, rd_cw_ne _ _ (by omega)]; exact k115
  have k142 : rd L133 (f + 1 + 34 + 20 * 0 + 3) = syM0 Y P evY (rd L (f + 66)) (rd L (f + 67)) u := by rw [eL133, rd_cw_ne _ _ (by omega)]; exact k116
  have k143 : rd L133 (f + 1 + 26 + 20 * 1 + 1) = syE1 Y evV (rd L (f + 66)) (rd L (f + 67)) u := by rw [eL133, rd_cw_ne _ _ (by omega)]; exact k117
  have k144 : rd L133 (f + 1 + 26 + 20 * 1 + 2) = syE1 Y evX (rd L (f + 66)) (rd L (f + 67)) u := by rw [eL133, rd_cw_ne _ _ (by omega)]; exact k118
  have k145 : rd L133 (f + 1 + 26 + 20 * 1 + 3) = syE1 Y evY (rd L (f + 66)) (rd L (f + 67)) u := by rw [eL133, rd_cw_ne _ _ (by omega)]; exact k119
  have k146 : rd L133 (f + 1 + 30 + 20 * 1 + 1) = syB1 Y evV (rd L (f + 66)) (rd L (f + 67)) u := by rw [eL133, rd_cw_ne _ _ (by omega)]; exact k120
  have k147 : rd L133 (f + 1 + 30 + 20 * 1 + 2) = syB1 Y evX (rd L (f + 66)) (rd L (f + 67)) u := by rw [eL133, rd_cw_ne _ _ (by omega)]; exact k121
  have k148 : rd L133 (f + 1 + 30 + 20 * 1 + 3) = syB1 Y evY (rd L (f + 66)) (rd L (f + 67)) u := by rw [eL133, rd_cw_ne _ _ (by omega)]; exact k122
  have k149 : rd L133 (f + 1 + 34 + 20 * 1 + 1) = syM1 Y P evV (rd L (f + 66)) (rd L (f + 67)) u := by rw [eL133, rd_cw_ne _ _ (by omega)]; exact k123
  have k150 : rd L133 (f + 1 + 34 + 20 * 1 + 2) = syM1 Y P evX (rd L (f + 66)) (rd L (f + 67)) u := by rw [eL133, rd_cw_ne _ _ (by omega)]; exact k124
  have k151 : rd L133 (f + 1 + 34 + 20 * 1 + 3) = syM1 Y P evY (rd L (f + 66)) (rd L (f + 67)) u := by rw [eL133, rd_cw_ne _ _ (by omega)]; exact k125
  have k152 : rd L133 (f + 59 + 1 + 0) = shaC (subC (syB0 Y evV (rd L (f + 66)) (rd L (f + 67)) u) (syE0 Y evV (rd L (f + 66)) (rd L (f + 67)) u)) (Int32.toInt64 h0) 1024 := by rw [eL133, rd_cw_ne _ _ (by omega)]; exact k126
  have k153 : rd L133 (f + 59 + 1 + 1) = shaC (subC (syB1 Y evV (rd L (f + 66)) (rd L (f + 67)) u) (syE1 Y evV (rd L (f + 66)) (rd L (f + 67)) u)) (Int32.toInt64 h0) 1024 := by rw [eL133, rd_cw]; simp only [k127]
  have k154 : rd L133 (f + 59 + 1 + 2) = rd L (f + 59 + 1 + 2) := by rw [eL133, rd_cw_ne _ _ (by omega)]; exact k128
  have k155 : rd L133 (f + 59 + 1 + 3) = rd L (f + 59 + 1 + 3) := by rw [eL133, rd_cw_ne _ _ (by omega)]; exact k129
  have k156 : rd L133 (f + 66) = rd L (f + 66) := by rw [eL133, rd_cw_ne _ _ (by omega)]; exact k130
  have k157 : rd L133 (f + 67) = rd L (f + 67) := by rw [eL133, rd_cw_ne _ _ (by omega)]; exact k131
  refine x_aload_n 111 C dX3_predict_111 rfl 0 rfl ?_
  refine x_getr 112 C (b := f + 59) dX3_predict_112 ff_X3_19 rfl hF.1 rfl ?_
  refine x_aload_n 115 C dX3_predict_115 rfl 0 rfl ?_
  refine x_getr 116 C (b := f + 1) dX3_predict_116 ff_X3_10 rfl hF.1 rfl ?_
  refine x_iconst 119 C (v := 0) dX3_predict_119 rfl ?_
  refine x_callVe 120 C dX3_predict_120 (As := [.int 0]) (rest := [.ref (f + 59)]) [.ref (f + 1 + 34 + 20 * 0), .ref (f + 59)] (t_X5_mix l D z n G I L133 (f + 1) 0 hF.2.1 (by first | assumption | omega | decide)) mt_X5_mix km_X3_131 ki_X5_mix ks_X5_mix hF.2.1.1 ⟨by decide, rfl⟩ rfl rfl (Nat.le_of_ble_eq_true rfl) ⟨⟨by decide, by decide⟩, by decide, by decide⟩ (fun I158 L159 eI158 eL159 => ?_)
  replace eI158 := eI158.symm; subst eI158
  replace eL159 := eL159.symm; subst eL159
  refine x_aload_n 123 C dX3_predict_123 rfl 0 rfl ?_
  refine x_getr 124 C (b := f + 1) dX3_predict_124 ff_X3_10 rfl hF.1 rfl ?_
  refine x_iconst 127 C (v := 1) dX3_predict_127 rfl ?_
  refine x_callVe 128 C dX3_predict_128 (As := [.int 1]) (rest := [.ref (f + 1 + 34 + 20 * 0), .ref (f + 59)]) [.ref (f + 1 + 34 + 20 * 1), .ref (f + 1 + 34 + 20 * 0), .ref (f + 59)] (t_X5_mix l D z n G I L133 (f + 1) 1 hF.2.1 (by first | assumption | omega | decide)) mt_X5_mix km_X3_131 ki_X5_mix ks_X5_mix hF.2.1.1 ⟨by decide, rfl⟩ rfl rfl (Nat.le_of_ble_eq_true rfl) ⟨⟨by decide, by decide⟩, by decide, by decide⟩ (fun I160 L161 eI160 eL161 => ?_)
  replace eI160 := eI160.symm; subst eI160
  replace eL161 := eL161.symm; subst eL161
  refine x_aload_n 131 C dX3_predict_131 rfl 0 rfl ?_
  refine x_getr 132 C (b := f + 66) dX3_predict_132 ff_X3_26 rfl hF.1 rfl ?_
  refine x_aload_n 135 C dX3_predict_135 rfl 0 rfl ?_
  refine x_getr 136 C (b := f + 67) dX3_predict_136 ff_X3_30 rfl hF.1 rfl ?_
  refine x_lload_n 139 C dX3_predict_139 rfl 3 rfl ?_
  refine x_callVp 140 C dX3_predict_140 (As := [.ref (f + 1 + 34 + 20 * 0), .ref (f + 1 + 34 + 20 * 1), .ref (f + 66), .ref (f + 67), .long u]) (rest := []) (t_X8_moveBySolution l D z n G I L133 (f + 59) (f + 1 + 34 + 20 * 0) (f + 1 + 34 + 20 * 1) (f + 66) (f + 67) u hF.2.2.1 (hF.2.1.2.2.2.2.2.2.2 0 (by decide)).2.2.2.2 (hF.2.1.2.2.2.2.2.2.2 1 (by decide)).2.2.2.2 hF.2.2.2.1 hF.2.2.2.2 (by omega) (by omega) (by omega) (by first | assumption | omega | decide) (by first | assumption | omega | decide) (by first | assumption | omega | decide) (by first | assumption | omega | decide) (by first | assumption | omega | decide) (by first | assumption | omega | decide)) mt_X8_moveBySolution km_X3_134 ki_X8_moveBySolution ks_X8_moveBySolution hF.2.2.1.1 ⟨by decide, rfl⟩ rfl (Nat.le_of_ble_eq_true rfl) ⟨⟨by decide, by decide⟩, by decide, by decide⟩ (fun w162 I163 L164 hw162 => ?_)
  obtain ⟨hw162v, eI163, hw162r0, hw162r1, hw162r2, hw162r3⟩ := hw162
  subst hw162v
  refine x_st [.int (if solN u (rd L133 ((f + 1 + 34 + 20 * 0) + 2)) (rd L133 ((f + 1 + 34 + 20 * 0) + 3)) (rd L133 ((f + 1 + 34 + 20 * 1) + 2)) (rd L133 ((f + 1 + 34 + 20 * 1) + 3)) = 0 then 0 else 1)] rfl ?_
  replace eI163 := eI163.symm; subst eI163
  have k165 : rd L164 (f + 66) = if solN u (syM0 Y P evX (rd L (f + 66)) (rd L (f + 67)) u) (syM0 Y P evY (rd L (f + 66)) (rd L (f + 67)) u) (syM1 Y P evX (rd L (f + 66)) (rd L (f + 67)) u) (syM1 Y P evY (rd L (f + 66)) (rd L (f + 67)) u) = 0 then (rd L (f + 66)) else addC (rd L (f + 66)) (solU u (syM0 Y P evX (rd L (f + 66)) (rd L (f + 67)) u) (syM0 Y P evY (rd L (f + 66)) (rd L (f + 67)) u) (syM1 Y P evX (rd L (f + 66)) (rd L (f + 67)) u) (syM1 Y P evY (rd L (f + 66)) (rd L (f + 67)) u) (shaC (subC (syB0 Y evV (rd L (f + 66)) (rd L (f + 67)) u) (syE0 Y evV (rd L (f + 66)) (rd L (f + 67)) u)) (Int32.toInt64 h0) 1024) (shaC (subC (syB1 Y evV (rd L (f + 66)) (rd L (f + 67)) u) (syE1 Y evV (rd L (f + 66)) (rd L (f + 67)) u)) (Int32.toInt64 h0) 1024)) := by rw [hw162r0]; simp only [k141, k142, k150, k151, k156, k152, k153]
  have k166 : rd L164 (f + 67) = if solN u (syM0 Y P evX (rd L (f + 66)) (rd L (f + 67)) u) (syM0 Y P evY (rd L (f + 66)) (rd L (f + 67)) u) (syM1 Y P evX (rd L (f + 66)) (rd L (f + 67)) u) (syM1 Y P evY (rd L (f + 66)) (rd L (f + 67)) u) = 0 then (rd L (f + 67)) else addC (rd L (f + 67)) (solV u (syM0 Y P evX (rd L (f + 66)) (rd L (f + 67)) u) (syM0 Y P evY (rd L (f + 66)) (rd L (f + 67)) u) (syM1 Y P evX (rd L (f + 66)) (rd L (f + 67)) u) (syM1 Y P evY (rd L (f + 66)) (rd L (f + 67)) u) (shaC (subC (syB0 Y evV (rd L (f + 66)) (rd L (f + 67)) u) (syE0 Y evV (rd L (f + 66)) (rd L (f + 67)) u)) (Int32.toInt64 h0) 1024) (shaC (subC (syB1 Y evV (rd L (f + 66)) (rd L (f + 67)) u) (syE1 Y evV (rd L (f + 66)) (rd L (f + 67)) u)) (Int32.toInt64 h0) 1024)) := by rw [hw162r1]; simp only [k141, k142, k150, k151, k157, k152, k153]
  refine x_int (if syN Y P u (rd L (f + 66)) (rd L (f + 67)) = 0 then 0 else 1) (by simp only [k134, k135, k136, k137, k138, k139, k140, k141, k142, k143, k144, k145, k146, k147, k148, k149, k150, k151, k152, k153, k154, k155, k156, k157]; rfl) ?_
  refine x_iret 143 C dX3_predict_143 rfl (by split <;> rfl) (Nat.le_refl _) (xN.intro ?_)
  exact ⟨rfl, rfl, k165, k166, fun a ha => by rw [hw162r3 _ (by omega) (by omega) (by omega)]; rw [eL133, cw_ne _ _ (by omega)]; rw [eL107, cw_ne _ _ (by omega)]; rw [eL77, cw_ne _ _ (by omega)]; rw [eL51, cw_ne _ _ (by omega)]; rw [hw1r18 _ (by omega)]⟩
