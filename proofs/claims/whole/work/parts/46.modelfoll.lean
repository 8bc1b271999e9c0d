/-! The Model: follows -/
/-- a path's value within its bounds -/
def pOk (v : xP) : Prop := ∃ (kd : Int32) (P sN gN : Nat) (pr go fa : Int32) (wN : Nat), v.1 = rw8 kd (nI P) (nI sN) (nI gN) pr go fa (nI wN) ∧ P ≤ 1024 ∧ sN ≤ 256 ∧ gN ≤ 256 ∧ wN ≤ 2 ∧ (pr = 10 ∨ pr = 18) ∧ hC v.2.1 = v.2.1 ∧ hC v.2.2 = v.2.2
theorem tryP_eq {Y : xSy} {R : Nat} {tol bo s0 : Int32} {v : xP} {P sN : Nat} (h3 : v.1 3 = nI P) (h4 : v.1 4 = nI sN) (hP : P ≤ 1024) (hs : sN ≤ 256) : tryP Y R tol bo s0 v = tryF Y R tol bo s0 v P sN := by
  unfold tryP; rw [h3, h4, nI_clamp (by omega), nI_clamp (by omega)]
theorem tryC_held {Y : xSy} {R : Nat} {tol : Int32} {P hN : Nat} {u : Int64} {a b : xC} {c : xC × xC} (h : tryC Y R tol P hN u a b = some c) : hC c.1 = c.1 ∧ hC c.2 = c.2 := by
  unfold tryC at h
  split at h
  · simp at h
  · exact coN_held _ _ _ _ _ c h
theorem gFailC_held {r : Nat → Int32} {c : xC} (h : hC c = c) : hC (gFailC r c) = gFailC r c := by
  unfold gFailC
  split
  · exact hC_2 _
  · exact h
theorem pOk_try {Y : xSy} {R : Nat} {tol bo : Int32} {s0 : Nat} {v : xP} (hp : pOk v) (h2 : v.1 2 = 0) (hs0 : s0 ≤ 256) : pOk (tryP Y R tol bo (nI s0) v) := by
  obtain ⟨kd, P, sN, gN, pr, go, fa, wN, hv, hP, hs, hg, hw, hpr, hx, hy⟩ := hp
  obtain ⟨r, x, y⟩ := v
  have hv2 : r = _ := hv
  subst hv2
  have hk : kd = 0 := h2
  subst hk
  rw [tryP_eq (P := P) (sN := sN) rfl rfl hP hs]
  unfold tryF
  split
  · rename_i c hc
    have hh := tryC_held hc
    have e9 : (nI wN + 1 < 3) ↔ wN + 1 < 3 := by rw [nI_1]; exact nI_ltI (a := wN + 1) (b := 3) (by omega) (by omega)
    have e4 : imin (nI sN * 2) (nI gN) = nI (min (sN * 2) gN) := (congrArg (fun x => imin x (nI gN)) (nI_mul sN 2)).trans (imin_n (by omega) (by omega))
    have e1 := gMove_rw8 (nI P) (nI sN) (nI gN) pr go fa (nI wN) (nI (min sN (1024 - P))) bo (lmax (sizC c.1) (sizC c.2))
    by_cases h9 : wN + 1 < 3
    · rw [if_pos (e9.mpr h9), if_pos (e9.mpr h9), nI_add, nI_1] at e1
      exact ⟨_, P + min sN (1024 - P), sN, gN, pr, go + 1, fa, wN + 1, e1, by omega, hs, hg, by omega, hpr, hh.1, hh.2⟩
    · rw [if_neg (fun h => h9 (e9.mp h)), if_neg (fun h => h9 (e9.mp h)), nI_add, e4] at e1
      exact ⟨_, P + min sN (1024 - P), min (sN * 2) gN, gN, pr, go + 1, fa, 0, e1, by omega, by omega, hg, by omega, hpr, hh.1, hh.2⟩
  · have e1 := gFail_rw8 0 (nI P) (nI sN) (nI gN) pr go fa (nI wN) (nI s0)
    by_cases h1 : nI sN ≤ 1
    · by_cases h10 : pr = 10
      · simp only [if_pos h1, if_pos h10] at e1
        rw [imin_n (by omega) (by omega)] at e1
        exact ⟨_, P, min s0 gN, gN, 18, go, fa + 1, 0, e1, hP, by omega, hg, by omega, Or.inr rfl, gFailC_held hx, gFailC_held hy⟩
      · simp only [if_pos h1, if_neg h10] at e1
        exact ⟨_, P, sN, gN, pr, go, fa + 1, 0, e1, hP, hs, hg, by omega, hpr, gFailC_held hx, gFailC_held hy⟩
    · simp only [if_neg h1] at e1
      rw [nI_half (by omega)] at e1
      exact ⟨_, P, sN / 2, gN, pr, go, fa + 1, 0, e1, hP, by omega, hg, by omega, hpr, gFailC_held hx, gFailC_held hy⟩
theorem pOk_mv {f : Nat → Int32} {c : Nat} (hp : pOk (mvO f c)) : ∃ P sN gN wN : Nat, f c = nI P ∧ P ≤ 1024 ∧ f (c + 1) = nI sN ∧ sN ≤ 256 ∧ f (c + 2) = nI gN ∧ gN ≤ 256 ∧ f (c + 4) = nI wN ∧ wN ≤ 2 ∧ (f (c + 3) = 10 ∨ f (c + 3) = 18) ∧ hC (mvO f c).2.1 = (mvO f c).2.1 ∧ hC (mvO f c).2.2 = (mvO f c).2.2 := by
  obtain ⟨kd, P, sN, gN, pr, go, fa, wN, hv, hP, hs, hg, hw, hpr, hx, hy⟩ := hp
  have e : ∀ j, (mvO f c).1 j = rw8 kd (nI P) (nI sN) (nI gN) pr go fa (nI wN) j := fun j => congrFun hv j
  refine ⟨P, sN, gN, wN, e 3, hP, e 4, hs, e 5, hg, e 9, hw, ?_, hx, hy⟩
  have e6 : f (c + 3) = pr := e 6
  rw [e6]; exact hpr
theorem cofY_congr {I I' : xI} {A : Nat} {Y : xSy} (h : ∀ j, j < 50 → I' (A + 1) j = I (A + 1) j) (hY : cofY I A Y) : cofY I' A Y := by
  refine ⟨fun e he => ⟨?_, (hY.1 e he).2⟩, by rw [h 48 (by decide)]; exact hY.2.1, by rw [h 49 (by decide)]; exact hY.2.2⟩
  rcases (hY.1 e he).1 with ⟨h1, h2⟩ | ⟨h1, d, hd, hdg, h3⟩
  · exact Or.inl ⟨h1, fun k hk => by rw [h _ (by omega), h _ (by omega)]; exact h2 k hk⟩
  · exact Or.inr ⟨h1, d, hd, by rw [h _ (by omega)]; exact hdg, h3⟩
theorem foll_0 {Y : xSy} {R : Nat} {tol bo s0 : Int32} {v : xP} (h : ¬ v.1 2 = 0) : ∀ n, foll Y R tol bo s0 n v = (0, v)
  | 0 => rfl
  | n + 1 => by simp only [foll]; rw [if_neg h]
theorem dX12_follows_0 : decode cX12_follows 0 = .ok (.iconst 0, 1) := by decide +kernel
theorem dX12_follows_1 : decode cX12_follows 1 = .ok (.istore_n 3, 1) := by decide +kernel
theorem dX12_follows_2 : decode cX12_follows 2 = .ok (.iload_n 3, 1) := by decide +kernel
theorem dX12_follows_3 : decode cX12_follows 3 = .ok (.iload_n 2, 1) := by decide +kernel
theorem dX12_follows_4 : decode cX12_follows 4 = .ok (.if_icmp .ge 22, 3) := by decide +kernel
theorem dX12_follows_7 : decode cX12_follows 7 = .ok (.aload_n 0, 1) := by decide +kernel
theorem dX12_follows_8 : decode cX12_follows 8 = .ok (.iload_n 1, 1) := by decide +kernel
theorem dX12_follows_9 : decode cX12_follows 9 = .ok (.invokevirtual 189, 3) := by decide +kernel
theorem dX12_follows_12 : decode cX12_follows 12 = .ok (.ifCond .eq 14, 3) := by decide +kernel
theorem dX12_follows_15 : decode cX12_follows 15 = .ok (.aload_n 0, 1) := by decide +kernel
theorem dX12_follows_16 : decode cX12_follows 16 = .ok (.iload_n 1, 1) := by decide +kernel
theorem dX12_follows_17 : decode cX12_follows 17 = .ok (.invokevirtual 192, 3) := by decide +kernel
theorem dX12_follows_20 : decode cX12_follows 20 = .ok (.iinc 3 1, 3) := by decide +kernel
theorem dX12_follows_23 : decode cX12_follows 23 = .ok (.goto (-21), 3) := by decide +kernel
theorem dX12_follows_26 : decode cX12_follows 26 = .ok (.iload_n 3, 1) := by decide +kernel
theorem dX12_follows_27 : decode cX12_follows 27 = .ok (.ireturn, 1) := by decide +kernel
set_option maxHeartbeats 1000000 in
set_option maxRecDepth 100000 in
theorem t_X12_follows (l : Launch) (D : xD) (z n : Nat) (G : xG) (I : xI) (L : xL) (A : Nat) (k : Nat) (T : Nat) (s0 : Nat) (R : Nat) (Y : xSy) (hM : shMo G A) (zA : z ≤ A) (hk : k < 9) (hT : T ≤ 200) (hp0 : pOk (mvO (I (A + 1)) (50 + 12 * k))) (hY : cofY I A Y) (hR : I (A + 1) 44 = nI R) (hR9 : R ≤ 9) (hs0 : I (A + 1) 42 = nI s0) (hs0l : s0 ≤ 256) : xM0 l D z yX12_follows cX12_follows 4 (some .int) 9 234 [.ref A, .int (nI k), .int (nI T)] n G I L (fun v' I' L' => v' = (some (.int (nI (foll Y R (I (A + 1) 45) (I (A + 1) 46) (nI s0) T (mvO (I (A + 1)) (50 + 12 * k))).1))) ∧ (mvO (I' (A + 1)) (50 + 12 * k) = (foll Y R (I (A + 1) 45) (I (A + 1) 46) (nI s0) T (mvO (I (A + 1)) (50 + 12 * k))).2) ∧ (pOk (mvO (I' (A + 1)) (50 + 12 * k))) ∧ (∀ j, (j < 50 + 12 * k ∨ 62 + 12 * k ≤ j) → I' (A + 1) j = I (A + 1) j) ∧ (∀ q, q ≠ A + 1 → I' q = I q) ∧ (∀ q, (q < A ∨ A + 14 ≤ q) → L' q = L q)) := by
  refine xM.of (by decide) (Nat.le_of_ble_eq_true rfl) (fun p e s m args below meth c C hnm hsz => ?_)
  refine x_lv [(0, .ref A), (1, .int (nI k)), (2, .int (nI T))] rfl ?_
  refine x_iconst 0 C (v := 0) dX12_follows_0 rfl ?_
  refine x_istore_n 1 C [(3, .int 0), (0, .ref A), (1, .int (nI k)), (2, .int (nI T))] dX12_follows_1 rfl (by decide) rfl ?_
  have loop2 : ∀ (fuel : Nat) (i : Nat) (Ik : xI) (Lk : xL), (i ≤ T) → (T + 1 ≤ i + fuel) → (pOk (mvO (Ik (A + 1)) (50 + 12 * k))) → (foll Y R (I (A + 1) 45) (I (A + 1) 46) (nI s0) T (mvO (I (A + 1)) (50 + 12 * k)) = (i + (foll Y R (I (A + 1) 45) (I (A + 1) 46) (nI s0) (T - i) (mvO (Ik (A + 1)) (50 + 12 * k))).1, (foll Y R (I (A + 1) 45) (I (A + 1) 46) (nI s0) (T - i) (mvO (Ik (A + 1)) (50 + 12 * k))).2)) → (∀ j, (j < 50 + 12 * k ∨ 62 + 12 * k ≤ j) → Ik (A + 1) j = I (A + 1) j) → (∀ q, q ≠ A + 1 → Ik q = I q) → (∀ q, (q < A ∨ A + 14 ≤ q) → Lk q = L q) → X p l e (xRm 9 234 0 0) s m args below meth c D z 4 (MQ below (xQc D z n (xN n G (fun v' I' L' => v' = (some (.int (nI (foll Y R (I (A + 1) 45) (I (A + 1) 46) (nI s0) T (mvO (I (A + 1)) (50 + 12 * k))).1))) ∧ (mvO (I' (A + 1)) (50 + 12 * k) = (foll Y R (I (A + 1) 45) (I (A + 1) 46) (nI s0) T (mvO (I (A + 1)) (50 + 12 * k))).2) ∧ (pOk (mvO (I' (A + 1)) (50 + 12 * k))) ∧ (∀ j, (j < 50 + 12 * k ∨ 62 + 12 * k ≤ j) → I' (A + 1) j = I (A + 1) j) ∧ (∀ q, q ≠ A + 1 → I' q = I q) ∧ (∀ q, (q < A ∨ A + 14 ≤ q) → L' q = L q)))) args s 0 0 (fun a => z ≤ a)) 0 0 n G Ik Lk 2 [(0, .ref A), (1, .int (nI k)), (2, .int (nI T)), (3, .int (nI i))] [] := by
    intro fuel
    induction fuel with
    | zero =>
      intro i Ik Lk hi hf hp hS hO1 hO2 hL
      exact absurd hf (by omega)
    | succ fuel ih =>
      intro i Ik Lk hi hf hp hS hO1 hO2 hL
      refine x_iload_n 2 C dX12_follows_2 rfl 3 rfl ?_
      refine x_iload_n 3 C dX12_follows_3 rfl 2 rfl ?_
      refine x_icmp_ge 4 C 26 dX12_follows_4 (by decide) (fun c1 => ?_) (fun c1 => ?_)
      · skip
        have c1n : T ≤ i := (nI_leI (a := T) (b := i) (by omega) (by omega)).mp c1
        have c1m : ¬ (i < T) := by omega
        have c1o := Int32.not_lt.mpr c1
        refine x_iload_n 26 C dX12_follows_26 rfl 3 rfl ?_
        refine x_iret 27 C dX12_follows_27 rfl rfl (Nat.le_refl _) (xN.intro ?_)
        have hz : foll Y R (I (A + 1) 45) (I (A + 1) 46) (nI s0) (T - i) (mvO (Ik (A + 1)) (50 + 12 * k)) = (0, (mvO (Ik (A + 1)) (50 + 12 * k))) := by first | exact foll_0 (v := (mvO (Ik (A + 1)) (50 + 12 * k))) hst _ | (rw [show T - i = 0 by omega]; rfl)
        rw [hz] at hS
        exact ⟨by rw [hS]; rfl, by rw [hS], hp, hO1, hO2, hL⟩
      · skip
        have c1n : ¬ (T ≤ i) := fun h => c1 ((nI_leI (a := T) (b := i) (by omega) (by omega)).mpr h)
        have c1m : i < T := by omega
        have c1o := Int32.not_le.mp c1
        refine x_aload_n 7 C dX12_follows_7 rfl 0 rfl ?_
        refine x_iload_n 8 C dX12_follows_8 rfl 1 rfl ?_
        refine x_callVe 9 C dX12_follows_9 (As := [.int (nI k)]) (rest := []) [.int (bI (decide (Ik (A + 1) (50 + 12 * k + 5) = 0)))] (t_X12_isOnWay l D z n G Ik Lk A k hM (by first | omega | assumption | decide)) mt_X12_isOnWay km_X12_189 ki_X12_isOnWay ks_X12_isOnWay hM.1 ⟨by decide, rfl⟩ rfl rfl (Nat.le_of_ble_eq_true rfl) ⟨⟨by decide, by decide⟩, by decide, by decide⟩ (fun I2 L3 eI2 eL3 => ?_)
        replace eI2 := eI2.symm; subst eI2
        replace eL3 := eL3.symm; subst eL3
        refine x_if_eq 12 C 26 dX12_follows_12 (by decide) (fun c4 => ?_) (fun c4 => ?_)
        · skip
          have hst : ¬ Ik (A + 1) (50 + 12 * k + 5) = 0 := of_decide_eq_false (bI_0.mp c4)
          refine x_iload_n 26 C dX12_follows_26 rfl 3 rfl ?_
          refine x_iret 27 C dX12_follows_27 rfl rfl (Nat.le_refl _) (xN.intro ?_)
          have hz : foll Y R (I (A + 1) 45) (I (A + 1) 46) (nI s0) (T - i) (mvO (Ik (A + 1)) (50 + 12 * k)) = (0, (mvO (Ik (A + 1)) (50 + 12 * k))) := by first | exact foll_0 (v := (mvO (Ik (A + 1)) (50 + 12 * k))) hst _ | (rw [show T - i = 0 by omega]; rfl)
          rw [hz] at hS
          exact ⟨by rw [hS]; rfl, by rw [hS], hp, hO1, hO2, hL⟩
        · skip
          have hst := c4
          obtain ⟨P, sN, gN, wN, h0, hPl, h1, hs, h2, hg, h4, hw, hpr, hxp, hyp⟩ := pOk_mv hp
          have h5 : Ik (A + 1) (50 + 12 * k + 5) = 0 := by have h := bI_n0.mp hst; exact of_decide_eq_true h
          have h5m : (mvO (Ik (A + 1)) (50 + 12 * k)).1 2 = 0 := h5
          have hrow : ∀ j, j < 50 → Ik (A + 1) j = I (A + 1) j := fun j hj => hO1 j (Or.inl (by omega))
          have htp : tryP Y R (I (A + 1) 45) (I (A + 1) 46) (nI s0) (mvO (Ik (A + 1)) (50 + 12 * k)) = tryF Y R (I (A + 1) 45) (I (A + 1) 46) (nI s0) (mvO (Ik (A + 1)) (50 + 12 * k)) P sN := tryP_eq h0 h1 hPl hs
          refine x_aload_n 15 C dX12_follows_15 rfl 0 rfl ?_
          refine x_iload_n 16 C dX12_follows_16 rfl 1 rfl ?_
          refine x_callVp 17 C dX12_follows_17 (As := [.int (nI k)]) (rest := []) (t_X12_tries l D z n G Ik Lk A k P sN gN wN s0 R Y hM (by omega) (by first | omega | assumption | decide) (by first | assumption | omega | decide) (by first | omega | assumption | decide) (by first | assumption | omega | decide) (by first | omega | assumption | decide) (by first | assumption | omega | decide) (by first | omega | assumption | decide) (by first | assumption | omega | decide) (by first | omega | assumption | decide) (by first | assumption | omega | decide) (by first | omega | assumption | decide) (by first | assumption | omega | decide) (by first | assumption | omega | decide) (cofY_congr hrow hY) (by rw [hrow 44 (by decide)]; exact hR) (by first | omega | assumption | decide) (by rw [hrow 42 (by decide)]; exact hs0) (by first | omega | assumption | decide)) mt_X12_tries km_X12_192 ki_X12_tries ks_X12_tries hM.1 ⟨by decide, rfl⟩ rfl (Nat.le_of_ble_eq_true rfl) ⟨⟨by decide, by decide⟩, by decide, by decide⟩ (fun w5 I6 L7 hw5 => ?_)
          obtain ⟨hw5v, hw5r0, hw5r1, hw5r2, hw5r3⟩ := hw5
          subst hw5v
          refine x_st [] rfl ?_
          refine x_iinc 20 C [(3, .int (nI (i + 1))), (0, .ref A), (1, .int (nI k)), (2, .int (nI T))] dX12_follows_20 3 rfl (nI_add i 1) (by decide) rfl ?_
          refine x_goto 23 C 2 dX12_follows_23 (by decide) ?_
          refine x_sub [(0, .ref A), (1, .int (nI k)), (2, .int (nI T)), (3, .int (nI (i + 1)))] [1, 2, 3, 0] rfl ?_
          have htf : mvO (I6 (A + 1)) (50 + 12 * k) = tryP Y R (I (A + 1) 45) (I (A + 1) 46) (nI s0) (mvO (Ik (A + 1)) (50 + 12 * k)) := by rw [hw5r0, htp, hrow 45 (by decide), hrow 46 (by decide)]
          refine ih (i + 1) I6 L7 (by omega) (by omega) (by rw [htf]; exact pOk_try hp h5 hs0l) ?_ (fun j hj => (hw5r1 j hj).trans (hO1 j hj)) (fun q hq => (hw5r2 q hq).trans (hO2 q hq)) (fun q hq => (hw5r3 q hq).trans (hL q hq))
          rw [hS, show T - i = (T - (i + 1)) + 1 by omega, htf]; simp only [foll]; rw [if_pos h5m]; exact Prod.ext (by show i + (_ + 1) = i + 1 + _; omega) rfl
  refine x_sub [(0, .ref A), (1, .int (nI k)), (2, .int (nI T)), (3, .int 0)] [1, 2, 3, 0] rfl ?_
  exact loop2 (T + 1) 0 I L (by omega) (by omega) hp0 (Prod.ext (Nat.zero_add _).symm rfl) (fun _ _ => rfl) (fun _ _ => rfl) (fun _ _ => rfl)
