/-! The law: both sides asked -/
theorem relM_keepT {I I' : xI} {L L' : xL} {o A : Nat} (hA : A = o + 345) (hI : ∀ q, o + 75 ≤ q → q < A → I' q = I q) (hL : ∀ q, o + 75 ≤ q → q < A → L' q = L q) (h1 : ∀ q, A + 1 ≤ q → q ≤ A + 4 → I' q = I q) (h0 : I' A 2 = I A 2) (ht : txtM I' o A) (h : relM I L o A) : relM I' L' o A :=
  ⟨stM_keep (fun q a b => hI q (by omega) (by omega)) (fun q a b => hL q (by omega) (by omega)) (fun j _ => by rw [h1 (A + 1) (by omega) (by omega)]) h.1, hisM_keep (fun q a b => hI q (by omega) (by omega)) (fun q a b => hL q (by omega) (by omega)) h0 (h1 _ (by omega) (by omega)) h.2.1,
   sloM_keep (fun q a b => hI q (by omega) (by omega)) (fun q a b => hL q (by omega) (by omega)) (h1 _ (by omega) (by omega)) (h1 _ (by omega) (by omega)) h.2.2.1, ht⟩
theorem relM_keep {I I' : xI} {L L' : xL} {o A : Nat} (hA : A = o + 345) (hI : ∀ q, o + 75 ≤ q → q < A → I' q = I q) (hL : ∀ q, o + 75 ≤ q → q < A → L' q = L q) (h1 : ∀ q, A + 1 ≤ q → q ≤ A + 5 → I' q = I q) (h0 : I' A 2 = I A 2) (h6 : I' A 6 = I A 6) (t1 : I' (o + 1) 2 = I (o + 1) 2) (t2 : I' (o + 1 + 1) = I (o + 1 + 1)) (h : relM I L o A) : relM I' L' o A :=
  relM_keepT hA hI hL (fun q a b => h1 q a (by omega)) h0 (txtM_keep t1 t2 h6 (h1 _ (by omega) (by omega)) h.2.2.2) h
theorem eqFill_nq {I : xI} {q k : Nat} {f g : Nat → Int32} {a : Nat} (h1 : a ≠ q + 1) (h2 : a ≠ q + 2) : eqFill I q k f g a = I a := by
  funext j; simp [eqFill, h1, h2]
theorem iteC {α : Type} {c : Prop} [Decidable c] {a b a' b' : α} (h1 : c → a = a') (h2 : ¬ c → b = b') : (if c then a else b) = (if c then a' else b') := by
  by_cases h : c
  · rw [if_pos h, if_pos h]; exact h1 h
  · rw [if_neg h, if_neg h]; exact h2 h
theorem hasP_m {I : xI} {S U : Nat} {x : Int32} (hU : I S 4 = nI U) (hU9 : U ≤ 9) (h : hasP I S x = false) : (decide (0 ≤ x) && decide (x < nI U)) = false := by
  by_cases h1 : 0 ≤ x
  · by_cases h2 : x < nI U
    · have h3 : x < 9 := Int32.lt_of_lt_of_le h2 (nI_le (b := 9) hU9 (by decide))
      simp [hasP, hU, h1, h2, h3] at h
    · simp [h2]
  · simp [h1]
theorem sign_ex {x : Int32} (h : ¬ (x < 33 ∨ 126 < x)) : ∃ m, x = nI m ∧ 33 ≤ m ∧ m ≤ 126 := by
  have h1 : (33 : Int32) ≤ x := Int32.not_lt.mp (fun q => h (Or.inl q))
  have h2 : x ≤ 126 := Int32.not_lt.mp (fun q => h (Or.inr q))
  have e1 := Int32.le_iff_toInt_le.mp h1
  have e2 := Int32.le_iff_toInt_le.mp h2
  rw [show (33 : Int32).toInt = 33 by decide] at e1
  rw [show (126 : Int32).toInt = 126 by decide] at e2
  refine ⟨x.toInt.toNat, ?_, by omega, by omega⟩
  apply Int32.toInt_inj.mp
  rw [nI_toInt (by omega)]
  omega
theorem nI_rg {x M : Int32} {n : Nat} (hM : M.toInt = n) (h : 0 ≤ x) (h5 : x ≤ M) : ∃ j : Nat, j ≤ n ∧ x = nI j := nI_of2 hM (Int32.not_lt.mpr h) h5
theorem st_prs {f : Nat → Int32} {k : Nat} (h : pOk (mvO f (50 + 12 * k))) : f (50 + 12 * k + 3) = 10 ∨ f (50 + 12 * k + 3) = 18 := by
  obtain ⟨P, sN, gN, wN, h1, h2, h3, h4, h5, h6, h7, h8, h9, h10, h11⟩ := pOk_mv h
  exact h9
theorem b_type (l : Launch) (D : xD) (z n : Nat) (G : xG) (I : xI) (L : xL) (o A : Nat) (hW : shPT G o) (hM : shMo G A) (zo : z ≤ o) (hA : A = o + 345) (hR : relM I L o A) (x : Int32) : both l D z n G o A yX11_type cX11_type 2 1 21 yX12_type cX12_type 2 1 22 [.int x] I L := by
  have zA : z ≤ A := by omega
  obtain ⟨t, N, hc, ⟨a1, a2⟩, b1, b2⟩ := hR.2.2.2
  refine ⟨_, t_X11_type l D z n G I L o x N hW zo a2 hc.1, fun v I1 L1 h => ⟨_, h.1⟩, fun v I1 L1 h => ?_⟩
  obtain ⟨e0, e1, e2⟩ := h
  have b2' : I1 A 6 = nI N := by
    rw [e1]
    by_cases hb : x < 33 ∨ 126 < x
    · rw [if_pos hb]; exact b2
    · rw [if_neg hb]
      by_cases h6 : N < 60
      · rw [if_pos h6, xup_row _ _ (by omega), xup_row _ _ (by omega)]; exact b2
      · rw [if_neg h6]; exact b2
  refine ⟨_, t_X12_type l D z n G I1 L1 A x N hM zA b2' hc.1, fun w I2 L2 h => ?_⟩
  obtain ⟨g0, g1, g2⟩ := h
  refine ⟨_, e0, g0, ?_⟩
  subst e2 g2
  by_cases hb : x < 33 ∨ 126 < x
  · rw [if_pos hb] at e1 g1
    subst e1 g1
    exact hR
  · rw [if_neg hb] at e1 g1
    by_cases h6 : N < 60
    · rw [if_pos h6] at e1 g1
      obtain ⟨m, rfl, m1, m2⟩ := sign_ex hb
      have f1 : ∀ q, q ≠ o + 1 → q ≠ o + 1 + 1 → I1 q = I q := fun q q1 q2 => by rw [e1, xup_row _ _ q1, xup_row _ _ q2]
      have f2 : ∀ q, q ≠ A → q ≠ A + 5 → I2 q = I1 q := fun q q1 q2 => by rw [g1, xup_row _ _ q1, xup_row _ _ q2]
      refine relM_keepT (I := I) (L := L2) hA (fun q q1 q2 => by rw [f2 q (by omega) (by omega), f1 q (by omega) (by omega)]) (fun _ _ _ => rfl) (fun q q1 q2 => by rw [f2 q (by omega) (by omega), f1 q (by omega) (by omega)]) (by rw [g1, xup_ne _ _ (by omega), xup_row _ _ (by omega), f1 A (by omega) (by omega)]) ?_ hR
      refine ⟨fun j => if j = N then m else t j, N + 1, ⟨by omega, fun j hj => ?_⟩, ⟨fun j hj => ?_, ?_⟩, fun j hj => ?_, ?_⟩
      · by_cases hjN : j = N
        · simp only [if_pos hjN]; exact ⟨m1, m2⟩
        · simp only [if_neg hjN]; exact hc.2 j (by omega)
      · rw [f2 _ (by omega) (by omega), e1, xup_row _ _ (by omega), xup_at]
        show _ = nI (if j = N then m else t j)
        by_cases hjN : j = N
        · rw [if_pos hjN, if_pos hjN]
        · rw [if_neg hjN, if_neg hjN]; exact a1 j (by omega)
      · rw [f2 _ (by omega) (by omega), e1, xup_self]
      · rw [g1, xup_row _ _ (by omega), xup_at]
        show _ = nI (if j = N then m else t j)
        by_cases hjN : j = N
        · rw [if_pos hjN, if_pos hjN]
        · rw [if_neg hjN, if_neg hjN, f1 _ (by omega) (by omega)]; exact b1 j (by omega)
      · rw [g1, xup_self]
    · rw [if_neg h6] at e1 g1
      subst e1 g1
      exact hR
theorem b_wipe (l : Launch) (D : xD) (z n : Nat) (G : xG) (I : xI) (L : xL) (o A : Nat) (hW : shPT G o) (hM : shMo G A) (zo : z ≤ o) (hA : A = o + 345) (hR : relM I L o A)  : both l D z n G o A yX11_wipe cX11_wipe 2 1 20 yX12_wipe cX12_wipe 2 0 0 [] I L := by
  have zA : z ≤ A := by omega
  obtain ⟨t, N, hc, ⟨a1, a2⟩, b1, b2⟩ := hR.2.2.2
  refine ⟨_, t_X11_wipe l D z n G I L o N hW zo a2, fun v I1 L1 h => ⟨_, h.1⟩, fun v I1 L1 h => ?_⟩
  obtain ⟨e0, e1, e2⟩ := h
  refine ⟨_, t_X12_wipe l D z n G I1 L1 A N hM zA (by rw [e1, xup_row _ _ (by omega)]; exact b2), fun w I2 L2 h => ?_⟩
  obtain ⟨g0, g1, g2⟩ := h
  refine ⟨_, e0, g0, ?_⟩
  have f2 : ∀ q, q ≠ A → q ≠ o + 1 → I2 q = I q := fun q q1 q2 => by rw [g1, xup_row _ _ q1, e1, xup_row _ _ q2]
  subst e2 g2
  refine relM_keepT (I := I) (L := L2) hA (fun q q1 q2 => f2 q (by omega) (by omega)) (fun _ _ _ => rfl) (fun q q1 q2 => f2 q (by omega) (by omega)) (by rw [g1, xup_ne _ _ (by omega), e1, xup_row _ _ (by omega)]) ?_ hR
  exact ⟨t, 0, ⟨by omega, fun j hj => absurd hj (by omega)⟩, ⟨fun j hj => absurd hj (by omega), by rw [g1, xup_row _ _ (by omega), e1, xup_self]; rfl⟩, fun j hj => absurd hj (by omega), by rw [g1, xup_self]; rfl⟩
theorem b_fault (l : Launch) (D : xD) (z n : Nat) (G : xG) (I : xI) (L : xL) (o A : Nat) (hW : shPT G o) (hM : shMo G A) (zo : z ≤ o) (hA : A = o + 345) (hR : relM I L o A)  : both l D z n G o A yX11_fault cX11_fault 1 5 120 yX12_fault cX12_fault 2 5 106 [] I L := by
  have zA : z ≤ A := by omega
  obtain ⟨t, N, hc, ⟨a1, a2⟩, b1, b2⟩ := hR.2.2.2
  obtain ⟨r, hr⟩ := nI_sur (I (o + 1) 3)
  obtain ⟨r', hr'⟩ := nI_sur (I A 18)
  refine ⟨_, t_X11_fault l D z n G I L o t N r hW zo ⟨a1, a2, hr⟩ hc, fun v I1 L1 h => ⟨_, h.1⟩, fun v I1 L1 h => ?_⟩
  obtain ⟨e0, e1, e2⟩ := h
  have f1 : ∀ q, q ≠ o + 1 → q ≠ o + 1 + 2 + 1 → q ≠ o + 1 + 2 + 2 → I1 q = I q := fun q q1 q2 q3 => by rw [e1, xup_row _ _ q1, eqFill_nq q2 q3]
  refine ⟨_, t_X12_fault l D z n G I1 L1 A t N r' hM zA ⟨fun j hj => by rw [f1 _ (by omega) (by omega) (by omega)]; exact b1 j hj, by rw [f1 _ (by omega) (by omega) (by omega)]; exact b2, by rw [f1 _ (by omega) (by omega) (by omega)]; exact hr'⟩ hc, fun w I2 L2 h => ?_⟩
  obtain ⟨g0, g1, g2, g3⟩ := h
  refine ⟨_, e0, g0, ?_⟩
  subst e2 g1
  have f2 : ∀ q, q ≠ A → q ≠ A + 14 → q ≠ o + 1 → q ≠ o + 1 + 2 + 1 → q ≠ o + 1 + 2 + 2 → I2 q = I q := fun q q1 q2 q3 q4 q5 => by rw [g2 q q1 q2, f1 q q3 q4 q5]
  refine relM_keep (I := I) (L := L2) hA (fun q q1 q2 => f2 q (by omega) (by omega) (by omega) (by omega) (by omega)) (fun _ _ _ => rfl) (fun q q1 q2 => f2 q (by omega) (by omega) (by omega) (by omega) (by omega)) ?_ ?_ ?_ (f2 _ (by omega) (by omega) (by omega) (by omega) (by omega)) hR
  · rw [g3 2 (by omega), f1 A (by omega) (by omega) (by omega)]
  · rw [g3 6 (by omega), f1 A (by omega) (by omega) (by omega)]
  · rw [g2 (o + 1) (by omega) (by omega), e1, xup_ne _ _ (by omega), eqFill_nq (by omega) (by omega)]
theorem b_next (l : Launch) (D : xD) (z n : Nat) (G : xG) (I : xI) (L : xL) (o A : Nat) (hW : shPT G o) (hM : shMo G A) (zo : z ≤ o) (hA : A = o + 345) (hR : relM I L o A)  : both l D z n G o A yX11_next cX11_next 2 3 65 yX12_next cX12_next 6 2 41 [] I L := by
  obtain ⟨dx, dy, h1, h2, h3, h4, h5, h6, h7, h8⟩ := hR.1
  have h9 := d9 h1
  have hp : ∀ i, i < dx * dy → I (A + 1) (50 + 12 * i + 3) = 10 ∨ I (A + 1) (50 + 12 * i + 3) = 18 := fun i hi => st_prs (h8 i hi).2
  exact both_ro (t_X11_next l D z n G I L o (dx * dy) hW h4 h9.2) (t_X12_next l D z n G I L A dx dy hM h2.1 h2.2 h9.2) (by rw [mbN_v I L, vMb_eqv (W := mV I A) _ (fun i hi => (h8 i hi).1)]) hR
theorem b_endAt (l : Launch) (D : xD) (z n : Nat) (G : xG) (I : xI) (L : xL) (o A : Nat) (hW : shPT G o) (hM : shMo G A) (zo : z ≤ o) (hA : A = o + 345) (hR : relM I L o A) (x : Int32) : both l D z n G o A yX11_endAt cX11_endAt 3 5 113 yX12_endAt cX12_endAt 5 3 68 [.int x] I L := by
  obtain ⟨dx, dy, h1, h2, h3, h4, h5, h6, h7, h8⟩ := hR.1
  have h9 := d9 h1
  have hp : ∀ i, i < dx * dy → I (A + 1) (50 + 12 * i + 3) = 10 ∨ I (A + 1) (50 + 12 * i + 3) = 18 := fun i hi => st_prs (h8 i hi).2
  refine both_ro (t_X11_endAt l D z n G I L o x (dx * dy) hW h4 h9.2) (t_X12_endAt l D z n G I L A x dx dy hM h2.1 h2.2 h9.2 hp) (iteC (fun _ => rfl) (fun _ => congrArg nfO (findN_congr _ (fun i hi => ?_)))) hR
  have e1 : stIs I (o + 75) 1 i = vSt (mV I A) 1 i := vSt_eqv (V := fun i => pv I L (o + 75 + 11 + 3 * i)) (h8 i hi).1 1
  have e2 : cntN (befP I L (o + 75) i) (dx * dy) = cntN (vBef (mV I A) i) (dx * dy) := cntN_congr _ (fun k hk => vBef_eqv (V := fun i => pv I L (o + 75 + 11 + 3 * i)) (W := mV I A) (h8 k hk).1 (h8 i hi).1)
  rw [e1, e2]
theorem b_meets (l : Launch) (D : xD) (z n : Nat) (G : xG) (I : xI) (L : xL) (o A : Nat) (hW : shPT G o) (hM : shMo G A) (zo : z ≤ o) (hA : A = o + 345) (hR : relM I L o A) (x : Int32) : both l D z n G o A yX11_meets cX11_meets 3 4 93 yX12_meets cX12_meets 3 4 89 [.int x] I L := by
  obtain ⟨dx, dy, h1, h2, h3, h4, h5, h6, h7, h8⟩ := hR.1
  have h9 := d9 h1
  have hp : ∀ i, i < dx * dy → I (A + 1) (50 + 12 * i + 3) = 10 ∨ I (A + 1) (50 + 12 * i + 3) = 18 := fun i hi => st_prs (h8 i hi).2
  by_cases hh : hasP I (o + 75) x = true
  · obtain ⟨k, rfl, hk⟩ := hasP_ex h4 h9.2 hh
    refine both_ro (t_X11_meets l D z n G I L o k (dx * dy) hW h4 h9.2 hk) (t_X12_meets l D z n G I L A k dx dy hM h2.1 h2.2 h9.2 hk hp) ?_ hR
    rw [show I (o + 75 + 11 + 3 * k) 2 = I (A + 1) (50 + 12 * k + 5) from (h8 k hk).1.1 2 (by decide) (by decide)]
    refine iteC (fun _ => congrArg nfO (findN_congr _ (fun i hi => ?_))) (fun _ => rfl)
    rw [metP_v, vMet_eqv (W := mV I A) (h8 i hi).1 (h8 k hk).1, (h7 5 (by decide)).1]
  · have hno : hasP I (o + 75) x = false := Bool.eq_false_iff.mpr hh
    exact both_ro (t_X11_meets_bad l D z n G I L o x hW hno) (t_X12_meets_bad l D z n G I L A x dx dy hM h2.1 h2.2 h9.2 h9.1 (hasP_m h4 h9.2 hno)) rfl hR
theorem b_count (l : Launch) (D : xD) (z n : Nat) (G : xG) (I : xI) (L : xL) (o A : Nat) (hW : shPT G o) (hM : shMo G A) (zo : z ≤ o) (hA : A = o + 345) (hR : relM I L o A) (x : Int32) : both l D z n G o A yX11_count cX11_count 2 5 115 yX12_count cX12_count 2 5 112 [.int x] I L := by
  obtain ⟨dx, dy, h1, h2, h3, h4, h5, h6, h7, h8⟩ := hR.1
  have h9 := d9 h1
  have hp : ∀ i, i < dx * dy → I (A + 1) (50 + 12 * i + 3) = 10 ∨ I (A + 1) (50 + 12 * i + 3) = 18 := fun i hi => st_prs (h8 i hi).2
  obtain ⟨t, N, hc, ⟨a1, a2⟩, b1, b2⟩ := hR.2.2.2
  obtain ⟨F, Z, hb, ⟨z1, z2, z3⟩, z4⟩ := hR.2.1
  by_cases hx : 0 ≤ x ∧ x ≤ 18
  · obtain ⟨k, hk, rfl⟩ := nI_rg (M := 18) (n := 18) (by decide) hx.1 hx.2
    have eS : ∀ (y : Int32), cntN (stIs I (o + 75) y) (dx * dy) = cntN (fun i => decide (I (A + 1) (50 + 12 * i + 5) = y)) (dx * dy) := fun y => cntN_congr _ (fun i hi => vSt_eqv (V := fun i => pv I L (o + 75 + 11 + 3 * i)) (W := mV I A) (h8 i hi).1 y)
    refine both_ro (t_X11_count l D z n G I L o k N (dx * dy) hW h4 h9.2 a2 (by omega)) (t_X12_count l D z n G I L A k dx dy N hM h2.1 h2.2 h9.2 hp b2 (by omega)) ?_ hR
    refine iteC (fun c => (h7 k c).1) (fun _ => iteC (fun _ => rfl) (fun _ => iteC (fun _ => congrArg nI (eS 0)) (fun _ => iteC (fun _ => congrArg nI (eS 1)) (fun _ => iteC (fun _ => congrArg nI (eS 2)) (fun _ => iteC (fun _ => congrArg nI (eS 3)) (fun _ => iteC (fun _ => congrArg nI (cntN_congr _ (fun i hi => ?_))) (fun _ => iteC (fun _ => congrArg nI (cntN_congr _ (fun i hi => ?_))) (fun _ => iteC (fun _ => rfl) (fun _ => iteC (fun _ => z2.trans z3.symm) (fun _ => iteC (fun _ => congrArg nI h3.1) (fun _ => congrArg nI h3.2)))))))))))
    · have e1 : stIs I (o + 75) 1 i = vSt (mV I A) 1 i := vSt_eqv (V := fun i => pv I L (o + 75 + 11 + 3 * i)) (h8 i hi).1 1
      have e2 : findN (metP I L (o + 75) i) i = findN (vMet (mV I A) (I (A + 1) 47) i) i := findN_congr _ (fun k hk => by rw [metP_v, vMet_eqv (W := mV I A) (h8 k (by omega)).1 (h8 i hi).1, (h7 5 (by decide)).1])
      rw [e1, e2]
    · have e1 : stIs I (o + 75) 1 i = vSt (mV I A) 1 i := vSt_eqv (V := fun i => pv I L (o + 75 + 11 + 3 * i)) (h8 i hi).1 1
      rw [e1, realP_v, vReal_eqv (h8 i hi).1, (h7 5 (by decide)).1]
      rfl
  · exact both_ro (t_X11_count_bad l D z n G I L o x hW hx) (t_X12_count_bad l D z n G I L A x hM hx) rfl hR
theorem b_coefficient (l : Launch) (D : xD) (z n : Nat) (G : xG) (I : xI) (L : xL) (o A : Nat) (hW : shPT G o) (hM : shMo G A) (zo : z ≤ o) (hA : A = o + 345) (hR : relM I L o A) (x i j q : Int32) : both l D z n G o A yX11_coefficient cX11_coefficient 6 2 44 yX12_coefficient cX12_coefficient 5 1 23 [.int x, .int i, .int j, .int q] I L := by
  obtain ⟨dx, dy, h1, h2, h3, h4, h5, h6, h7, h8⟩ := hR.1
  have h9 := d9 h1
  have hp : ∀ i, i < dx * dy → I (A + 1) (50 + 12 * i + 3) = 10 ∨ I (A + 1) (50 + 12 * i + 3) = 18 := fun i hi => st_prs (h8 i hi).2
  by_cases hx : 0 ≤ x ∧ x ≤ 1 ∧ 0 ≤ q ∧ q ≤ 1 ∧ 0 ≤ i ∧ i ≤ 3 ∧ 0 ≤ j ∧ j ≤ 3 - i
  · obtain ⟨x0, x1, q0, q1, i0, i1, j0, j1⟩ := hx
    obtain ⟨xn, hxn, rfl⟩ := nI_rg (M := 1) (n := 1) (by decide) x0 x1
    obtain ⟨qn, hqn, rfl⟩ := nI_rg (M := 1) (n := 1) (by decide) q0 q1
    obtain ⟨i', hin, rfl⟩ := nI_rg (M := 3) (n := 3) (by decide) i0 i1
    rw [show (3 : Int32) - nI i' = nI (3 - i') from nI_sub (a := 3) hin] at j1
    obtain ⟨j', hjn, rfl⟩ := nI_rg (M := nI (3 - i')) (n := 3 - i') (nI_toInt (by omega)) j0 j1
    refine both_ro (t_X11_coefficient l D z n G I L o xn i' j' qn hW (by omega) (by omega) (by omega)) (t_X12_coefficient l D z n G I L A xn i' j' qn hM (by omega) (by omega) (by omega)) ?_ hR
    have h10 := tm_lt (i := i') (j := j') (by omega)
    have h5 := h5 xn (by omega) (tm i' j') h10
    rcases (show qn = 0 ∨ qn = 1 by omega) with rfl | rfl
    · exact h5.1
    · exact h5.2
  · exact both_ro (t_X11_coefficient_bad l D z n G I L o x i j q hW hx) (t_X12_coefficient_bad l D z n G I L A x i j q hM hx) rfl hR
theorem b_path (l : Launch) (D : xD) (z n : Nat) (G : xG) (I : xI) (L : xL) (o A : Nat) (hW : shPT G o) (hM : shMo G A) (zo : z ≤ o) (hA : A = o + 345) (hR : relM I L o A) (x w : Int32) : both l D z n G o A yX11_path cX11_path 4 6 133 yX12_path cX12_path 4 6 156 [.int x, .int w] I L := by
  obtain ⟨dx, dy, h1, h2, h3, h4, h5, h6, h7, h8⟩ := hR.1
  have h9 := d9 h1
  have hp : ∀ i, i < dx * dy → I (A + 1) (50 + 12 * i + 3) = 10 ∨ I (A + 1) (50 + 12 * i + 3) = 18 := fun i hi => st_prs (h8 i hi).2
  have zA : z ≤ A := by omega
  by_cases hw : 0 ≤ w ∧ w ≤ 11
  · by_cases hh : hasP I (o + 75) x = true
    · obtain ⟨k, rfl, hk⟩ := hasP_ex h4 h9.2 hh
      obtain ⟨j, hj, rfl⟩ := nI_rg (M := 11) (n := 11) (by decide) hw.1 hw.2
      have hv := (h8 k hk).1
      by_cases h11 : j < 11
      · refine both_ro (t_X11_path l D z n G I L o k j (dx * dy) hW h4 h9.2 hk h11) (t_X12_path l D z n G I L A k j dx dy hM h2.1 h2.2 h9.2 hk hp h11) ?_ hR
        rw [pAns_v, vAns_eqv hv]; rfl
      · have hj11 : j = 11 := by omega
        subst hj11
        obtain ⟨P, sN, gN, wN, p1, p2, p3, p4, p5, p6, p7, p8, p9, p10, p11⟩ := pOk_mv (h8 k hk).2
        refine ⟨_, t_X11_path_11 l D z n G I L o k P (dx * dy) hW zo h4 h9.2 hk (by rw [h3.1]; omega) (by rw [h3.2]; omega) ((hv.1 3 (by decide) (by decide)).trans p1) p2, fun v I1 L1 h => ⟨_, h.1⟩, fun v I1 L1 h => ?_⟩
        obtain ⟨e0, e1, e2⟩ := h
        have eA : I1 (A + 1) = I (A + 1) := e1 _ (by omega)
        have hR' : stMd I L (o + 75) (I (A + 1)) dx dy := ⟨h1, h2, h3, h4, h5, h6, h7, h8⟩
        refine ⟨_, t_X12_path_11 l D z n G I1 L1 A k dx dy (yOf I (o + 75)) hM zA (by rw [eA]; exact h2.1) (by rw [eA]; exact h2.2) h9.2 hk (by rw [eA]; exact hp k hk) (by rw [eA]; exact p10) (by rw [eA]; exact p11) (cofY_of eA hR'), fun w I2 L2 h => ?_⟩
        obtain ⟨g0, g1, g2⟩ := h
        rw [eA] at g0
        have hv2 : (rd L (o + 75 + 11 + 3 * k + 1), rd L (o + 75 + 11 + 3 * k + 2)) = (mvO (I (A + 1)) (50 + 12 * k)).2 := hv.2
        rw [← hv2, ← show I (o + 75 + 11 + 3 * k) 6 = I (A + 1) (50 + 12 * k + 3) from hv.1 6 (by decide) (by decide)] at g0
        refine ⟨_, e0, g0, ?_⟩
        subst g1
        exact relM_keep (I := I) (L := L) hA (fun q q1 q2 => e1 q (by omega)) (fun q q1 q2 => by rw [g2 q (by omega), e2 q (by omega)]) (fun q q1 q2 => e1 q (by omega)) (by rw [e1 A (by omega)]) (by rw [e1 A (by omega)]) (by rw [e1 _ (by omega)]) (e1 _ (by omega)) hR
    · have hno : hasP I (o + 75) x = false := Bool.eq_false_iff.mpr hh
      exact both_ro (t_X11_path_bad l D z n G I L o x w hW (Or.inl hno)) (t_X12_path_bad l D z n G I L A x w dx dy hM h2.1 h2.2 h9.2 h9.1 (Or.inl (hasP_m h4 h9.2 hno))) rfl hR
  · exact both_ro (t_X11_path_bad l D z n G I L o x w hW (Or.inr hw)) (t_X12_path_bad l D z n G I L A x w dx dy hM h2.1 h2.2 h9.2 h9.1 (Or.inr hw)) rfl hR
