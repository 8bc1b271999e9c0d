/-! The law: both sides changed -/
theorem begun_v {I' : xI} {L' : xL} {S dx dy : Nat} {s g : Int32} {K k : Nat} (h : begun I' L' S dx dy s g K) (hk : k < K) : vEq (pv I' L' (S + 11 + 3 * k)) (mBg dx dy s g k) := by
  obtain ⟨a, b, c⟩ := h k hk
  refine ⟨fun j h1 h2 => (a j h1 h2).trans ?_, ?_⟩
  · rcases (show j = 2 ∨ j = 3 ∨ j = 4 ∨ j = 5 ∨ j = 6 ∨ j = 7 ∨ j = 8 ∨ j = 9 by omega) with rfl | rfl | rfl | rfl | rfl | rfl | rfl | rfl <;> rfl
  · show (rd L' _, rd L' _) = _
    rw [b, c]; rfl
theorem pOk_bg {dx dy s g k : Nat} (hs : s ≤ 256) (hg : g ≤ 256) : pOk (mBg dx dy (nI s) (nI g) k) := by
  refine ⟨0, 0, min s g, g, 10, 0, 0, 0, ?_, by omega, by omega, by omega, by omega, Or.inl rfl, hC_2 _, hC_2 _⟩
  show rw8 0 0 (imin (nI s) (nI g)) (nI g) 10 0 0 0 = _
  rw [imin_n (by omega) (by omega), nI_0]
theorem rg_nat {w : Nat} {v : Int32} {n : Nat} (h : inRg w v = true) (hl : (0 : Int32) ≤ xLv w) (hg : (xGv w).toInt = n) : ∃ s, s ≤ n ∧ v = nI s := by
  simp only [inRg, Bool.and_eq_true, decide_eq_true_eq] at h
  exact nI_rg hg (Int32.le_trans hl h.1) h.2
theorem lt2_ex {x : Int32} (h : 0 ≤ x ∧ x < 2) : ∃ k, k < 2 ∧ x = nI k := by
  have e1 := Int32.le_iff_toInt_le.mp h.1
  have e2 := Int32.lt_iff_toInt_lt.mp h.2
  rw [show (0 : Int32).toInt = 0 by decide] at e1
  rw [show (2 : Int32).toInt = 2 by decide] at e2
  refine ⟨x.toInt.toNat, by omega, ?_⟩
  apply Int32.toInt_inj.mp
  rw [nI_toInt (by omega)]
  omega
theorem relM_rec {I I' : xI} {L L' : xL} {o A F Z : Nat} (hA : A = o + 345) (hb : F < 4 ∧ Z ≤ 4) (z4 : ∀ k, k < Z → stM I L (o + 113 + 2 + 38 * ((F + k) % 4)) (fun j => I (A + 2) (158 * k + j))) (hR : relM I L o A) (hst' : stM I' L' (o + 75) (I' (A + 1))) (hrec : recd I L o F Z I' L') (hm : mrec I A Z I')
    (hI : ∀ q, o + 113 + 2 ≤ q → q < o + 345 → (q < o + 113 + 2 + 38 * ((F + Z) % 4) ∨ o + 113 + 2 + 38 * ((F + Z) % 4) + 38 ≤ q) → I' q = I q) (hL : ∀ q, o + 113 + 2 ≤ q → q < o + 345 → (q < o + 113 + 2 + 38 * ((F + Z) % 4) ∨ o + 113 + 2 + 38 * ((F + Z) % 4) + 38 ≤ q) → L' q = L q)
    (h3 : ∀ q, A + 3 ≤ q → q ≤ A + 4 → I' q = I q) (ht : txtM I' o A) : relM I' L' o A := by
  have h40 : (F + Z) % 4 < 4 := Nat.mod_lt _ (by decide)
  exact ⟨hst', hisM_rec hb z4 hR.1 hrec hm (fun q a b c => hI q a (by omega) c) (fun q a b c => hL q a (by omega) c), sloM_keep (fun q a b => hI q (by omega) (by omega) (by omega)) (fun q a b => hL q (by omega) (by omega) (by omega)) (h3 _ (by omega) (by omega)) (h3 _ (by omega) (by omega)) hR.2.2.1, ht⟩
theorem stMd_paths {I I' : xI} {L L' : xL} {S : Nat} {f f' : Nat → Int32} {dx dy : Nat} (h : stMd I L S f dx dy) (hI : ∀ q, S ≤ q → q < S + 11 → I' q = I q) (hf : ∀ j, j < 50 → f' j = f j) (hp : ∀ k, k < dx * dy → vEq (pv I' L' (S + 11 + 3 * k)) (mvO f' (50 + 12 * k)) ∧ pOk (mvO f' (50 + 12 * k))) : stMd I' L' S f' dx dy := by
  obtain ⟨h1, h2, h3, h4, h5, h6, h7, h8⟩ := h
  exact ⟨h1, ⟨(hf 40 (by decide)).trans h2.1, (hf 41 (by decide)).trans h2.2⟩, ⟨(sdg_congr hI (by decide)).trans h3.1, (sdg_congr hI (by decide)).trans h3.2⟩, by rw [hI S (by omega) (by omega)]; exact h4,
    fun b hb k hk => by rw [hI _ (by omega) (by omega), hI _ (by omega) (by omega), hf _ (by omega), hf _ (by omega)]; exact h5 b hb k hk, fun j hj => by rw [hf j (by omega)]; exact h6 j hj, fun j hj => by rw [hI _ (by omega) (by omega), hf _ (by omega)]; exact h7 j hj, hp⟩
theorem pv_fr {I I' : xI} {L L' : xL} {a : Nat} (h0 : I' a = I a) (h1 : L' (a + 1) = L (a + 1)) (h2 : L' (a + 2) = L (a + 2)) : pv I' L' a = pv I L a := by
  unfold pv rd; rw [h0, h1, h2]
theorem steps_ex {y : Int32} (h : 1 ≤ y ∧ y ≤ 200) : ∃ T, 1 ≤ T ∧ T ≤ 200 ∧ y = nI T := by
  obtain ⟨T, hT, rfl⟩ := nI_rg (M := 200) (n := 200) (by decide) (Int32.le_trans (by decide : (0 : Int32) ≤ 1) h.1) h.2
  exact ⟨T, (nI_leI (a := 1) (by decide) (by omega)).mp h.1, hT, rfl⟩
theorem b_undo (l : Launch) (D : xD) (z n : Nat) (G : xG) (I : xI) (L : xL) (o A : Nat) (hW : shPT G o) (hM : shMo G A) (zo : z ≤ o) (hA : A = o + 345) (hR : relM I L o A)  : both l D z n G o A yX11_undo cX11_undo 1 4 85 yX12_undo cX12_undo 2 0 0 [] I L := by
  have zA : z ≤ A := by omega
  obtain ⟨F, Z, hb, ⟨z1, z2, z3⟩, z4⟩ := hR.2.1
  have h40 : (F + Z) % 4 < 4 := Nat.mod_lt _ (by decide)
  by_cases hZ : Z = 0
  · subst hZ
    refine ⟨_, t_X11_undo l D z n G I L o F 0 hW zo z1 hb.1 z2 hb.2, fun v I1 L1 h => ⟨_, h.1⟩, fun v I1 L1 h => ?_⟩
    obtain ⟨e0, e1, e2, e3, e4⟩ := h
    rw [if_pos rfl] at e0
    have e1 := e1 rfl
    have e4 := e4 rfl
    subst e1 e4
    refine ⟨_, t_X12_undo_0 l D z n G _ _ A hM z3, fun w I2 L2 h => ?_⟩
    obtain ⟨g0, g1, g2⟩ := h
    subst g1 g2
    exact ⟨_, e0, g0, hR⟩
  · have h41 : (F + (Z - 1)) % 4 < 4 := Nat.mod_lt _ (by decide)
    refine ⟨_, t_X11_undo l D z n G I L o F Z hW zo z1 hb.1 z2 hb.2, fun v I1 L1 h => ⟨_, h.1⟩, fun v I1 L1 h => ?_⟩
    obtain ⟨e0, e1, e2, e3, e4⟩ := h
    rw [if_neg hZ] at e0
    obtain ⟨k1, k2, k3, k4⟩ := e2 hZ
    have fA : ∀ q, A ≤ q → I1 q = I q := fun q hq => k4 q (by omega) (by omega)
    refine ⟨_, t_X12_undo l D z n G I1 L1 A Z hM zA (by rw [fA A (by omega)]; exact z3) hb.2 (by omega), fun w I2 L2 h => ?_⟩
    obtain ⟨g0, g1, g2, g3, g4, g5⟩ := h
    subst g1
    refine ⟨_, e0, g0, ?_, ?_, ?_, ?_⟩
    · exact stM_tr (stEq_congr' (fun q q1 q2 => (g4 q (by omega) (by omega)).symm) (fun _ _ _ => rfl) k3) (fun j hj => by rw [g3 j hj, fA _ (by omega)]) (z4 (Z - 1) (by omega))
    · refine ⟨F, Z - 1, ⟨hb.1, by omega⟩, ⟨by rw [g4 _ (by omega) (by omega), k1]; exact z1, by rw [g4 _ (by omega) (by omega)]; exact k2, g2⟩, fun k hk => ?_⟩
      have h42 : (F + k) % 4 < 4 := Nat.mod_lt _ (by decide)
      exact stM_keep (fun q q1 q2 => by rw [g4 _ (by omega) (by omega), k4 q (by omega) (by omega)]) (fun q q1 q2 => e3 q (by omega)) (fun j hj => by rw [g4 _ (by omega) (by omega), fA _ (by omega)]) (z4 k (by omega))
    · exact sloM_keep (fun q q1 q2 => by rw [g4 _ (by omega) (by omega), k4 q (by omega) (by omega)]) (fun q q1 q2 => e3 q (by omega)) (by rw [g4 _ (by omega) (by omega), fA _ (by omega)]) (by rw [g4 _ (by omega) (by omega), fA _ (by omega)]) hR.2.2.1
    · exact txtM_keep (by rw [g4 _ (by omega) (by omega), k4 _ (by omega) (by omega)]) (by rw [g4 _ (by omega) (by omega), k4 _ (by omega) (by omega)]) (by rw [g5 6 (by decide), fA _ (by omega)]) (by rw [g4 _ (by omega) (by omega), fA _ (by omega)]) hR.2.2.2
theorem b_save (l : Launch) (D : xD) (z n : Nat) (G : xG) (I : xI) (L : xL) (o A : Nat) (hW : shPT G o) (hM : shMo G A) (zo : z ≤ o) (hA : A = o + 345) (hR : relM I L o A) (x : Int32) : both l D z n G o A yX11_save cX11_save 2 3 64 yX12_save cX12_save 3 1 22 [.int x] I L := by
  have zA : z ≤ A := by omega
  obtain ⟨dx, dy, h1, h2, h3, h4, h5, h6, h7, h8⟩ := hR.1
  have h9 := d9 h1
  have hS : stMd I L (o + 75) (I (A + 1)) dx dy := ⟨h1, h2, h3, h4, h5, h6, h7, h8⟩
  have hd0 : 1 ≤ sdg I (o + 75) 0 := by rw [h3.1]; omega
  have hd1 : 1 ≤ sdg I (o + 75) 1 := by rw [h3.2]; omega
  by_cases hx : 0 ≤ x ∧ x < 2
  · obtain ⟨k, hk, rfl⟩ := lt2_ex hx
    refine ⟨_, t_X11_save l D z n G I L o k hW zo hk, fun v I1 L1 h => ⟨_, h.1⟩, fun v I1 L1 h => ?_⟩
    obtain ⟨e0, e1, e2, e3, e4⟩ := h
    rw [h4] at e0
    have fA : ∀ q, A ≤ q → I1 q = I q := fun q hq => e3 q (by omega) (by omega)
    refine ⟨_, t_X12_save l D z n G I1 L1 A k dx dy hM zA hk (by rw [fA _ (by omega)]; exact h2.1) (by rw [fA _ (by omega)]; exact h2.2) h9.2, fun w I2 L2 h => ?_⟩
    obtain ⟨g0, g1, g2, g3, g4, g5⟩ := h
    subst g1
    have fq : ∀ q, q < A → I2 q = I1 q := fun q hq => g5 q (by omega) (by omega)
    refine ⟨_, e0, g0, ?_, ?_, ?_, ?_⟩
    · exact stM_keep (fun q q1 q2 => by rw [fq _ (by omega), e3 q (by omega) (by omega)]) (fun q q1 q2 => e4 q (by omega)) (fun j hj => by rw [g5 _ (by omega) (by omega), fA _ (by omega)]) hR.1
    · exact hisM_keep (fun q q1 q2 => by rw [fq _ (by omega), e3 q (by omega) (by omega)]) (fun q q1 q2 => e4 q (by omega)) (by rw [g5 _ (by omega) (by omega), fA _ (by omega)]) (by rw [g5 _ (by omega) (by omega), fA _ (by omega)]) hR.2.1
    · intro k' hk'
      have eo : I2 (o + 344) k' = if k' = k then 1 else I (o + 344) k' := by rw [fq _ (by omega)]; exact e2 k'
      have eA : I2 (A + 4) k' = if k' = k then 1 else I (A + 4) k' := by rw [g4 k', fA _ (by omega)]
      have hs := hR.2.2.1 k' hk'
      by_cases hkk : k' = k
      · subst hkk
        refine ⟨by rw [eo, eA, if_pos rfl, if_pos rfl], fun _ => ?_⟩
        exact stM_tr (stEq_congr' (fun q q1 q2 => (fq q (by omega)).symm) (fun _ _ _ => rfl) e1) (fun j hj => by rw [g2 j hj, fA _ (by omega)]) hR.1
      · rw [if_neg hkk] at eo eA
        refine ⟨by rw [eo, eA]; exact hs.1, fun hn => ?_⟩
        rw [eo] at hn
        exact stM_keep (fun q q1 q2 => by rw [fq _ (by omega), e3 q (by omega) (by omega)]) (fun q q1 q2 => e4 q (by omega)) (fun j hj => by rw [g3 _ (by omega), fA _ (by omega)]) (hs.2 hn)
    · exact txtM_keep (by rw [fq _ (by omega), e3 _ (by omega) (by omega)]) (by rw [fq _ (by omega), e3 _ (by omega) (by omega)]) (by rw [g5 _ (by omega) (by omega), fA _ (by omega)]) (by rw [g5 _ (by omega) (by omega), fA _ (by omega)]) hR.2.2.2
  · exact both_ro (t_X11_save_bad l D z n G I L o x hW hx) (t_X12_save_bad l D z n G I L A x hM hx) rfl hR
theorem b_restore (l : Launch) (D : xD) (z n : Nat) (G : xG) (I : xI) (L : xL) (o A : Nat) (hW : shPT G o) (hM : shMo G A) (zo : z ≤ o) (hA : A = o + 345) (hR : relM I L o A) (x : Int32) : both l D z n G o A yX11_restore cX11_restore 2 4 85 yX12_restore cX12_restore 3 1 22 [.int x] I L := by
  have zA : z ≤ A := by omega
  obtain ⟨F, Z, hb, ⟨z1, z2, z3⟩, z4⟩ := hR.2.1
  have h40 : (F + Z) % 4 < 4 := Nat.mod_lt _ (by decide)
  by_cases hx : 0 ≤ x ∧ x < 2
  · obtain ⟨k, hk, rfl⟩ := lt2_ex hx
    have hs := hR.2.2.1 k hk
    by_cases hkf : I (o + 344) k = 0
    · exact both_ro (t_X11_restore_no l D z n G I L o k hW hk hkf) (t_X12_restore_no l D z n G I L A k hM hk (hs.1.symm.trans hkf)) rfl hR
    · obtain ⟨dx, dy, hS⟩ := hs.2 hkf
      have h9 := d9 hS.1
      refine ⟨_, t_X11_restore l D z n G I L o k F Z hW zo hk hkf z1 hb.1 z2 hb.2, fun v I1 L1 h => ⟨_, h.1⟩, fun v I1 L1 h => ?_⟩
      obtain ⟨e0, e1, e2, e3, e4⟩ := h
      rw [hS.2.2.2.1] at e0
      have fA : ∀ q, A ≤ q → I1 q = I q := fun q hq => e3 q (by omega) (by omega) (by omega)
      refine ⟨_, t_X12_restore l D z n G I1 L1 A k Z dx dy hM zA hk (by rw [fA _ (by omega)]; exact z3) hb.2 (by rw [fA _ (by omega), ← hs.1]; exact hkf) (by rw [fA _ (by omega)]; exact hS.2.1.1) (by rw [fA _ (by omega)]; exact hS.2.1.2) h9.2, fun w I2 L2 h => ?_⟩
      obtain ⟨g0, g1, g2, g3, g4, g5⟩ := h
      subst g1
      have fq : ∀ q, q < A → I2 q = I1 q := fun q hq => g4 q (by omega) (by omega) (by omega)
      refine ⟨_, e0, g0, relM_rec hA hb z4 hR ?_ (recd_congr (fun q q1 q2 => (fq q (by omega)).symm) (fun _ _ _ => rfl) e1) (mrec_of (fA _ (by omega)) (fA _ (by omega)) g2) (fun q q1 q2 q3 => by rw [fq q (by omega), e3 q (by omega) q3 (by omega)]) (fun q q1 q2 q3 => e4 q q3 (by omega)) (fun q q1 q2 => by rw [g4 q (by omega) (by omega) (by omega), fA _ (by omega)]) ?_⟩
      · exact stM_tr (stEq_congr' (fun q q1 q2 => (fq q (by omega)).symm) (fun _ _ _ => rfl) e2) (fun j hj => by rw [g3 j hj, fA _ (by omega)]) ⟨dx, dy, hS⟩
      · exact txtM_keep (by rw [fq _ (by omega), e3 _ (by omega) (by omega) (by omega)]) (by rw [fq _ (by omega), e3 _ (by omega) (by omega) (by omega)]) (by rw [g5 6 (by decide), fA _ (by omega)]) (by rw [g4 _ (by omega) (by omega) (by omega), fA _ (by omega)]) hR.2.2.2
  · exact both_ro (t_X11_restore_bad l D z n G I L o x hW hx) (t_X12_restore_bad l D z n G I L A x hM hx) rfl hR
theorem b_track (l : Launch) (D : xD) (z n : Nat) (G : xG) (I : xI) (L : xL) (o A : Nat) (hW : shPT G o) (hM : shMo G A) (zo : z ≤ o) (hA : A = o + 345) (hR : relM I L o A) (x y : Int32) : both l D z n G o A yX11_track cX11_track 4 6 156 yX12_track cX12_track 3 10 257 [.int x, .int y] I L := by
  have zA : z ≤ A := by omega
  obtain ⟨F, Z, hb, ⟨z1, z2, z3⟩, z4⟩ := hR.2.1
  have h40 : (F + Z) % 4 < 4 := Nat.mod_lt _ (by decide)
  obtain ⟨dx, dy, h1, h2, h3, h4, h5, h6, h7, h8⟩ := hR.1
  have h9 := d9 h1
  have hS : stMd I L (o + 75) (I (A + 1)) dx dy := ⟨h1, h2, h3, h4, h5, h6, h7, h8⟩
  have hd0 : 1 ≤ sdg I (o + 75) 0 := by rw [h3.1]; omega
  have hd1 : 1 ≤ sdg I (o + 75) 1 := by rw [h3.2]; omega
  obtain ⟨s0, hs0, hs0e⟩ := rg_nat (n := 256) (h7 0 (by decide)).2 (by decide) (by decide)
  obtain ⟨s1, hs1, hs1e⟩ := rg_nat (n := 256) (h7 1 (by decide)).2 (by decide) (by decide)
  obtain ⟨R, hRl, hRe⟩ := rg_nat (n := 6) (h7 2 (by decide)).2 (by decide) (by decide)
  have t0 : I (o + 75 + 9) 0 = nI s0 := (h7 0 (by decide)).1.trans hs0e
  have t1 : I (o + 75 + 9) 1 = nI s1 := (h7 1 (by decide)).1.trans hs1e
  have t2 : I (o + 75 + 9) 2 = nI R := (h7 2 (by decide)).1.trans hRe
  have t3 : I (o + 75 + 9) 3 = I (A + 1) 45 := (h7 3 (by decide)).1
  have t4 : I (o + 75 + 9) 4 = I (A + 1) 46 := (h7 4 (by decide)).1
  have m0 : I (A + 1) 42 = nI s0 := hs0e
  have m1 : I (A + 1) 43 = nI s1 := hs1e
  have m2 : I (A + 1) 44 = nI R := hRe
  by_cases hy : 1 ≤ y ∧ y ≤ 200
  · by_cases hh : hasP I (o + 75) x = true
    · obtain ⟨k, rfl, hk⟩ := hasP_ex h4 h9.2 hh
      obtain ⟨T, hT1, hT2, rfl⟩ := steps_ex hy
      have hv := (h8 k hk).1
      obtain ⟨P, sN, gN, wN, p1, p2, p3, p4, p5, p6, p7, p8, p9, p10, p11⟩ := pOk_mv (h8 k hk).2
      have est : I (o + 75 + 11 + 3 * k) 2 = I (A + 1) (50 + 12 * k + 5) := hv.1 2 (by decide) (by decide)
      by_cases hst : I (o + 75 + 11 + 3 * k) 2 = 0
      · refine ⟨_, t_X11_track l D z n G I L o k (dx * dy) T F Z R s0 hW zo h4 h9.2 hk hT1 hT2 hst ⟨P, sN, gN, (hv.1 3 (by decide) (by decide)).trans p1, p2, (hv.1 4 (by decide) (by decide)).trans p3, p4, (hv.1 5 (by decide) (by decide)).trans p5, p6⟩ hd0 hd1 t2 (by omega) t0 hs0 z1 hb.1 z2 hb.2, fun v I1 L1 h => ⟨_, h.1⟩, fun v I1 L1 h => ?_⟩
        obtain ⟨e0, e1, e2, e3, e4, e5⟩ := h
        have fA : ∀ q, A ≤ q → I1 q = I q := fun q hq => e4 q (by omega) (by omega) (by omega) (by omega)
        have eA : I1 (A + 1) = I (A + 1) := fA _ (by omega)
        refine ⟨_, t_X12_track l D z n G I1 L1 A k T s0 R (yOf I (o + 75)) dx dy Z hM zA (by rw [eA]; exact h2.1) (by rw [eA]; exact h2.2) h9.2 hk (by rw [eA]; exact (h8 k hk).2) (by rw [eA, ← est]; exact hst) hT1 hT2 (cofY_of eA hS) (by rw [eA]; exact m2) (by omega) (by rw [eA]; exact m0) hs0 (by rw [fA _ (by omega)]; exact z3) hb.2, fun w I2 L2 h => ?_⟩
        obtain ⟨g0, g1, g2, g3, g4, g5, g6, g7⟩ := h
        have hq := foll_eqv (Y := yOf I (o + 75)) (R := R) (tol := I (A + 1) 45) (bo := I (A + 1) 46) (s0 := nI s0) T _ _ hv
        unfold folS at e0 e2
        rw [t3, t4] at e0 e2
        rw [eA] at g0 g2
        rw [hq.1] at e0
        have fq : ∀ q, q < A → I2 q = I1 q := fun q hq => g5 q (by omega) (by omega) (by omega)
        have fl : ∀ q, q < A → L2 q = L1 q := fun q hq => g7 q (by omega)
        refine ⟨_, e0, g0, relM_rec hA hb z4 hR ⟨dx, dy, stMd_paths hS (fun q q1 q2 => by rw [fq q (by omega), e4 q (by omega) (by omega) (by omega) (by omega)]) (fun j hj => by rw [g4 j (by omega), eA]) (fun i hi => ?_)⟩ (recd_congr (fun q q1 q2 => (fq q (by omega)).symm) (fun q q1 q2 => (fl q (by omega)).symm) e1) (mrec_of eA (fA _ (by omega)) g1) (fun q q1 q2 q3 => by rw [fq q (by omega), e4 q (by omega) q3 (by omega) (by omega)]) (fun q q1 q2 q3 => by rw [fl q (by omega), e5 q q3 (by omega) (by omega) (by omega)]) (fun q q1 q2 => by rw [g5 q (by omega) (by omega) (by omega), fA _ (by omega)]) ?_⟩
        · by_cases hik : i = k
          · subst hik
            refine ⟨?_, g3⟩
            rw [g2, pv_fr (I := I1) (L := L1) (fq _ (by omega)) (fl _ (by omega)) (fl _ (by omega)), e2]
            exact hq.2
          · have hm : mvO (I2 (A + 1)) (50 + 12 * i) = mvO (I (A + 1)) (50 + 12 * i) := mvO_congr (fun j hj => by rw [g4 _ (by omega), eA])
            rw [hm, pv_fr (I := I) (L := L) (by rw [fq _ (by omega), e4 _ (by omega) (by omega) (by omega) (by omega)]) (by rw [fl _ (by omega), e5 _ (by omega) (by omega) (by omega) (by omega)]) (by rw [fl _ (by omega), e5 _ (by omega) (by omega) (by omega) (by omega)])]
            exact h8 i hi
        · exact txtM_keep (by rw [fq _ (by omega), e4 _ (by omega) (by omega) (by omega) (by omega)]) (by rw [fq _ (by omega), e4 _ (by omega) (by omega) (by omega) (by omega)]) (by rw [g6 6 (by decide), fA _ (by omega)]) (by rw [g5 _ (by omega) (by omega) (by omega), fA _ (by omega)]) hR.2.2.2
      · exact both_ro (t_X11_track_no l D z n G I L o k (dx * dy) T hW h4 h9.2 hk hT1 hT2 hst) (t_X12_track_no l D z n G I L A k T dx dy hM h2.1 h2.2 h9.2 hk (by rw [← est]; exact hst) hT1 hT2) rfl hR
    · have hno : hasP I (o + 75) x = false := Bool.eq_false_iff.mpr hh
      exact both_ro (t_X11_track_bad l D z n G I L o x y hW (Or.inl hno)) (t_X12_track_bad l D z n G I L A x y dx dy hM h2.1 h2.2 h9.2 h9.1 (Or.inl (hasP_m h4 h9.2 hno))) rfl hR
  · exact both_ro (t_X11_track_bad l D z n G I L o x y hW (Or.inr hy)) (t_X12_track_bad l D z n G I L A x y dx dy hM h2.1 h2.2 h9.2 h9.1 (Or.inr hy)) rfl hR
theorem b_trackAll (l : Launch) (D : xD) (z n : Nat) (G : xG) (I : xI) (L : xL) (o A : Nat) (hW : shPT G o) (hM : shMo G A) (zo : z ≤ o) (hA : A = o + 345) (hR : relM I L o A) (y : Int32) : both l D z n G o A yX11_trackAll cX11_trackAll 4 6 156 yX12_trackAll cX12_trackAll 4 10 257 [.int y] I L := by
  have zA : z ≤ A := by omega
  obtain ⟨F, Z, hb, ⟨z1, z2, z3⟩, z4⟩ := hR.2.1
  have h40 : (F + Z) % 4 < 4 := Nat.mod_lt _ (by decide)
  obtain ⟨dx, dy, h1, h2, h3, h4, h5, h6, h7, h8⟩ := hR.1
  have h9 := d9 h1
  have hS : stMd I L (o + 75) (I (A + 1)) dx dy := ⟨h1, h2, h3, h4, h5, h6, h7, h8⟩
  have hd0 : 1 ≤ sdg I (o + 75) 0 := by rw [h3.1]; omega
  have hd1 : 1 ≤ sdg I (o + 75) 1 := by rw [h3.2]; omega
  obtain ⟨s0, hs0, hs0e⟩ := rg_nat (n := 256) (h7 0 (by decide)).2 (by decide) (by decide)
  obtain ⟨s1, hs1, hs1e⟩ := rg_nat (n := 256) (h7 1 (by decide)).2 (by decide) (by decide)
  obtain ⟨R, hRl, hRe⟩ := rg_nat (n := 6) (h7 2 (by decide)).2 (by decide) (by decide)
  have t0 : I (o + 75 + 9) 0 = nI s0 := (h7 0 (by decide)).1.trans hs0e
  have t1 : I (o + 75 + 9) 1 = nI s1 := (h7 1 (by decide)).1.trans hs1e
  have t2 : I (o + 75 + 9) 2 = nI R := (h7 2 (by decide)).1.trans hRe
  have t3 : I (o + 75 + 9) 3 = I (A + 1) 45 := (h7 3 (by decide)).1
  have t4 : I (o + 75 + 9) 4 = I (A + 1) 46 := (h7 4 (by decide)).1
  have m0 : I (A + 1) 42 = nI s0 := hs0e
  have m1 : I (A + 1) 43 = nI s1 := hs1e
  have m2 : I (A + 1) 44 = nI R := hRe
  by_cases hy : 1 ≤ y ∧ y ≤ 200
  · obtain ⟨T, hT1, hT2, rfl⟩ := steps_ex hy
    have hw : ∀ i, i < dx * dy → wfR (I (o + 75 + 11 + 3 * i)) := fun i hi => by
      have hv := (h8 i hi).1
      obtain ⟨P, sN, gN, wN, p1, p2, p3, p4, p5, p6, p7, p8, p9, p10, p11⟩ := pOk_mv (h8 i hi).2
      exact ⟨P, sN, gN, (hv.1 3 (by decide) (by decide)).trans p1, p2, (hv.1 4 (by decide) (by decide)).trans p3, p4, (hv.1 5 (by decide) (by decide)).trans p5, p6⟩
    refine ⟨_, t_X11_trackAll l D z n G I L o (dx * dy) T F Z R s0 hW zo h4 h9.2 hT1 hT2 hw hd0 hd1 t2 (by omega) t0 hs0 z1 hb.1 z2 hb.2, fun v I1 L1 h => ⟨_, h.1⟩, fun v I1 L1 h => ?_⟩
    obtain ⟨e0, e1, e2, e4, e5⟩ := h
    have fA : ∀ q, A ≤ q → I1 q = I q := fun q hq => e4 q (by omega) (by omega) (by omega) (by omega)
    have eA : I1 (A + 1) = I (A + 1) := fA _ (by omega)
    have eV : ∀ i, mV I1 A i = mvO (I (A + 1)) (50 + 12 * i) := fun i => by unfold mV; rw [eA]
    refine ⟨_, t_X12_trackAll l D z n G I1 L1 A T s0 R (yOf I (o + 75)) dx dy Z hM zA (by rw [eA]; exact h2.1) (by rw [eA]; exact h2.2) h9.2 (fun i hi => by rw [eV]; exact (h8 i hi).2) hT1 hT2 (cofY_of eA hS) (by rw [eA]; exact m2) (by omega) (by rw [eA]; exact m0) hs0 (by rw [fA _ (by omega)]; exact z3) hb.2, fun w I2 L2 h => ?_⟩
    obtain ⟨g0, g1, g2, g4, g5, g6, g7⟩ := h
    have hq := fun i hi => foll_eqv (Y := yOf I (o + 75)) (R := R) (tol := I (A + 1) 45) (bo := I (A + 1) 46) (s0 := nI s0) T _ _ (h8 i hi).1
    unfold folS at e0 e2
    simp only [t3, t4] at e0 e2
    simp only [eV, eA] at g0 g2
    rw [cntN_congr (q := fun i => decide ((foll (yOf I (o + 75)) R (I (A + 1) 45) (I (A + 1) 46) (nI s0) T (mvO (I (A + 1)) (50 + 12 * i))).2.1 2 = 0)) _ (fun i hi => by rw [(hq i hi).2.1 2 (by decide) (by decide)])] at e0
    have fq : ∀ q, q < A → I2 q = I1 q := fun q hq => g5 q (by omega) (by omega) (by omega)
    have fl : ∀ q, q < A → L2 q = L1 q := fun q hq => g7 q (by omega)
    refine ⟨_, e0, g0, relM_rec hA hb z4 hR ⟨dx, dy, stMd_paths hS (fun q q1 q2 => by rw [fq q (by omega), e4 q (by omega) (by omega) (by omega) (by omega)]) (fun j hj => by rw [g4 j (by omega), eA]) (fun i hi => ?_)⟩ (recd_congr (fun q q1 q2 => (fq q (by omega)).symm) (fun q q1 q2 => (fl q (by omega)).symm) e1) (mrec_of eA (fA _ (by omega)) g1) (fun q q1 q2 q3 => by rw [fq q (by omega), e4 q (by omega) q3 (by omega) (by omega)]) (fun q q1 q2 q3 => by rw [fl q (by omega), e5 q q3 (by omega) (by omega)]) (fun q q1 q2 => by rw [g5 q (by omega) (by omega) (by omega), fA _ (by omega)]) ?_⟩
    · refine ⟨?_, (g2 i hi).2⟩
      rw [(g2 i hi).1, pv_fr (I := I1) (L := L1) (fq _ (by omega)) (fl _ (by omega)) (fl _ (by omega)), (e2 i hi).1]
      exact (hq i hi).2
    · exact txtM_keep (by rw [fq _ (by omega), e4 _ (by omega) (by omega) (by omega) (by omega)]) (by rw [fq _ (by omega), e4 _ (by omega) (by omega) (by omega) (by omega)]) (by rw [g6 6 (by decide), fA _ (by omega)]) (by rw [g5 _ (by omega) (by omega) (by omega), fA _ (by omega)]) hR.2.2.2
  · exact both_ro (t_X11_trackAll_bad l D z n G I L o y hW hy) (t_X12_trackAll_bad l D z n G I L A y hM hy) rfl hR
theorem b_again (l : Launch) (D : xD) (z n : Nat) (G : xG) (I : xI) (L : xL) (o A : Nat) (hW : shPT G o) (hM : shMo G A) (zo : z ≤ o) (hA : A = o + 345) (hR : relM I L o A) (x : Int32) : both l D z n G o A yX11_again cX11_again 3 4 98 yX12_again cX12_again 4 4 93 [.int x] I L := by
  have zA : z ≤ A := by omega
  obtain ⟨F, Z, hb, ⟨z1, z2, z3⟩, z4⟩ := hR.2.1
  have h40 : (F + Z) % 4 < 4 := Nat.mod_lt _ (by decide)
  obtain ⟨dx, dy, h1, h2, h3, h4, h5, h6, h7, h8⟩ := hR.1
  have h9 := d9 h1
  have hS : stMd I L (o + 75) (I (A + 1)) dx dy := ⟨h1, h2, h3, h4, h5, h6, h7, h8⟩
  have hd0 : 1 ≤ sdg I (o + 75) 0 := by rw [h3.1]; omega
  have hd1 : 1 ≤ sdg I (o + 75) 1 := by rw [h3.2]; omega
  obtain ⟨s0, hs0, hs0e⟩ := rg_nat (n := 256) (h7 0 (by decide)).2 (by decide) (by decide)
  obtain ⟨s1, hs1, hs1e⟩ := rg_nat (n := 256) (h7 1 (by decide)).2 (by decide) (by decide)
  obtain ⟨R, hRl, hRe⟩ := rg_nat (n := 6) (h7 2 (by decide)).2 (by decide) (by decide)
  have t0 : I (o + 75 + 9) 0 = nI s0 := (h7 0 (by decide)).1.trans hs0e
  have t1 : I (o + 75 + 9) 1 = nI s1 := (h7 1 (by decide)).1.trans hs1e
  have t2 : I (o + 75 + 9) 2 = nI R := (h7 2 (by decide)).1.trans hRe
  have t3 : I (o + 75 + 9) 3 = I (A + 1) 45 := (h7 3 (by decide)).1
  have t4 : I (o + 75 + 9) 4 = I (A + 1) 46 := (h7 4 (by decide)).1
  have m0 : I (A + 1) 42 = nI s0 := hs0e
  have m1 : I (A + 1) 43 = nI s1 := hs1e
  have m2 : I (A + 1) 44 = nI R := hRe
  by_cases hh : hasP I (o + 75) x = true
  · obtain ⟨k, rfl, hk⟩ := hasP_ex h4 h9.2 hh
    have hv := (h8 k hk).1
    obtain ⟨P, sN, gN, wN, p1, p2, p3, p4, p5, p6, p7, p8, p9, p10, p11⟩ := pOk_mv (h8 k hk).2
    refine ⟨_, t_X11_again l D z n G I L o k (dx * dy) gN F Z hW zo h4 h9.2 hk ((hv.1 5 (by decide) (by decide)).trans p5) p6 hd0 hd1 z1 hb.1 z2 hb.2, fun v I1 L1 h => ⟨_, h.1⟩, fun v I1 L1 h => ?_⟩
    obtain ⟨e0, e1, e2, e3, e3', e4, e5⟩ := h
    rw [h3.1, h3.2] at e3
    rw [h3.2] at e3'
    have fA : ∀ q, A ≤ q → I1 q = I q := fun q hq => e4 q (by omega) (by omega) (by omega)
    have eA : I1 (A + 1) = I (A + 1) := fA _ (by omega)
    refine ⟨_, t_X12_again l D z n G I1 L1 A k gN dx dy Z hM zA (by rw [eA]; exact h2.1) (by rw [eA]; exact h2.2) h9.2 (by omega) (by omega) hk (by rw [eA]; exact p5) p6 (by rw [fA _ (by omega)]; exact z3) hb.2, fun w I2 L2 h => ?_⟩
    obtain ⟨g0, g1, g2, g4, g5, g6, g7⟩ := h
    rw [eA] at g2
    have fq : ∀ q, q < A → I2 q = I1 q := fun q hq => g5 q (by omega) (by omega) (by omega)
    have fl : ∀ q, q < A → L2 q = L1 q := fun q hq => g7 q (by omega)
    refine ⟨_, e0, g0, relM_rec hA hb z4 hR ⟨dx, dy, stMd_paths hS (fun q q1 q2 => by rw [fq q (by omega), e4 q (by omega) (by omega) (by omega)]) (fun j hj => by rw [g4 j (by omega), eA]) (fun i hi => ?_)⟩ (recd_congr (fun q q1 q2 => (fq q (by omega)).symm) (fun q q1 q2 => (fl q (by omega)).symm) e1) (mrec_of eA (fA _ (by omega)) g1) (fun q q1 q2 q3 => by rw [fq q (by omega), e4 q (by omega) q3 (by omega)]) (fun q q1 q2 q3 => by rw [fl q (by omega), e5 q q3 (by omega) (by omega)]) (fun q q1 q2 => by rw [g5 q (by omega) (by omega) (by omega), fA _ (by omega)]) ?_⟩
    · by_cases hik : i = k
      · subst hik
        rw [g2, pv_fr (I := I1) (L := L1) (fq _ (by omega)) (fl _ (by omega)) (fl _ (by omega)), m0]
        refine ⟨?_, pOk_bg hs0 (by omega)⟩
        refine ⟨fun j j1 j2 => ?_, ?_⟩
        · show I1 (o + 75 + 11 + 3 * i) j = _
          rw [e2 j j1 j2, t0]
          rcases (show j = 2 ∨ j = 3 ∨ j = 4 ∨ j = 5 ∨ j = 6 ∨ j = 7 ∨ j = 8 ∨ j = 9 by omega) with rfl | rfl | rfl | rfl | rfl | rfl | rfl | rfl <;> rfl
        · show (rd L1 _, rd L1 _) = _
          rw [e3, e3']; rfl
      · have hm : mvO (I2 (A + 1)) (50 + 12 * i) = mvO (I (A + 1)) (50 + 12 * i) := mvO_congr (fun j hj => by rw [g4 _ (by omega), eA])
        rw [hm, pv_fr (I := I) (L := L) (by rw [fq _ (by omega), e4 _ (by omega) (by omega) (by omega)]) (by rw [fl _ (by omega), e5 _ (by omega) (by omega) (by omega)]) (by rw [fl _ (by omega), e5 _ (by omega) (by omega) (by omega)])]
        exact h8 i hi
    · exact txtM_keep (by rw [fq _ (by omega), e4 _ (by omega) (by omega) (by omega)]) (by rw [fq _ (by omega), e4 _ (by omega) (by omega) (by omega)]) (by rw [g6 6 (by decide), fA _ (by omega)]) (by rw [g5 _ (by omega) (by omega) (by omega), fA _ (by omega)]) hR.2.2.2
  · have hno : hasP I (o + 75) x = false := Bool.eq_false_iff.mpr hh
    exact both_ro (t_X11_again_bad l D z n G I L o x hW hno) (t_X12_again_bad l D z n G I L A x dx dy hM h2.1 h2.2 h9.2 h9.1 (hasP_m h4 h9.2 hno)) rfl hR
