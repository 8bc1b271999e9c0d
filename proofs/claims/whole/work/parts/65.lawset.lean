/-! The law: both sides set, and given equations -/
/-- a state begun anew -/
theorem stMd_begun {I I' : xI} {L L' : xL} {S : Nat} {f f' : Nat → Int32} {dx dy s0 s1 : Nat} (hd : 1 ≤ dx ∧ dx ≤ 3 ∧ 1 ≤ dy ∧ dy ≤ 3) (h2 : f' 40 = nI dx ∧ f' 41 = nI dy) (h3 : sdg I' S 0 = dx ∧ sdg I' S 1 = dy) (h4 : I' S 4 = nI (dx * dy))
    (h5 : ∀ b, b < 2 → ∀ k, k < 10 → I' (S + 1 + 4 * b + 1) k = f' (20 * b + 2 * k) ∧ I' (S + 1 + 4 * b + 2) k = f' (20 * b + 2 * k + 1)) (h6 : ∀ j, j < 40 → heldc (f' j) = f' j) (h7 : ∀ j, j < 8 → I' (S + 9) j = f' (42 + j) ∧ inRg j (f' (42 + j)) = true)
    (hb : begun I' L' S dx dy (nI s0) (nI s1) (dx * dy)) (hm : ∀ k, k < dx * dy → mvO f' (50 + 12 * k) = mBg dx dy (nI s0) (nI s1) k) (hs0 : s0 ≤ 256) (hs1 : s1 ≤ 256) : stMd I' L' S f' dx dy :=
  ⟨hd, h2, h3, h4, h5, h6, h7, fun k hk => by rw [hm k hk]; exact ⟨begun_v hb hk, pOk_bg hs0 hs1⟩⟩
theorem begun_tr {I I' : xI} {L L' : xL} {S dx dy : Nat} {s g : Int32} {K : Nat} (hK : K ≤ 9) (hI : ∀ q, S ≤ q → q < S + 38 → I' q = I q) (hL : ∀ q, S ≤ q → q < S + 38 → L' q = L q) (h : begun I L S dx dy s g K) : begun I' L' S dx dy s g K := fun k hk => by
  obtain ⟨a, b, c⟩ := h k hk
  refine ⟨fun j h1 h2 => by rw [hI _ (by omega) (by omega)]; exact a j h1 h2, ?_, ?_⟩
  · unfold rd at b ⊢; rw [hL _ (by omega) (by omega)]; exact b
  · unfold rd at c ⊢; rw [hL _ (by omega) (by omega)]; exact c
theorem b_set (l : Launch) (D : xD) (z n : Nat) (G : xG) (I : xI) (L : xL) (o A : Nat) (hW : shPT G o) (hM : shMo G A) (zo : z ≤ o) (hA : A = o + 345) (hR : relM I L o A) (x y : Int32) : both l D z n G o A yX11_set cX11_set 4 6 141 yX12_set cX12_set 4 5 114 [.int x, .int y] I L := by
  have zA : z ≤ A := by omega
  obtain ⟨F, Z, hb, ⟨z1, z2, z3⟩, z4⟩ := hR.2.1
  have h40 : (F + Z) % 4 < 4 := Nat.mod_lt _ (by decide)
  obtain ⟨dx, dy, h1, h2, h3, h4, h5, h6, h7, h8⟩ := hR.1
  have h9 := d9 h1
  have hS : stMd I L (o + 75) (I (A + 1)) dx dy := ⟨h1, h2, h3, h4, h5, h6, h7, h8⟩
  have hd0 : 1 ≤ sdg I (o + 75) 0 := by rw [h3.1]; omega
  have hd1 : 1 ≤ sdg I (o + 75) 1 := by rw [h3.2]; omega
  obtain ⟨s0, hs0, hs0e⟩ := rg_nat (n := 256) (h7 0 (by decide)).2 (by decide) (by decide)
  obtain ⟨s1, hs1, hs1e⟩ := rg_nat (n := 256) (h7 1 (by decide)).2 (by decide) (by decide)
  obtain ⟨R, hRl, hRe⟩ := rg_nat (n := 6) (h7 2 (by decide)).2 (by decide) (by decide)
  have t0 : I (o + 75 + 9) 0 = nI s0 := (h7 0 (by decide)).1.trans hs0e
  have t1 : I (o + 75 + 9) 1 = nI s1 := (h7 1 (by decide)).1.trans hs1e
  have t2 : I (o + 75 + 9) 2 = nI R := (h7 2 (by decide)).1.trans hRe
  have t3 : I (o + 75 + 9) 3 = I (A + 1) 45 := (h7 3 (by decide)).1
  have t4 : I (o + 75 + 9) 4 = I (A + 1) 46 := (h7 4 (by decide)).1
  have m0 : I (A + 1) 42 = nI s0 := hs0e
  have m1 : I (A + 1) 43 = nI s1 := hs1e
  have m2 : I (A + 1) 44 = nI R := hRe
  by_cases hx : 0 ≤ x ∧ x < 8
  · obtain ⟨w, hw, rfl⟩ : ∃ w, w < 8 ∧ x = nI w := by
      have e1 := Int32.le_iff_toInt_le.mp hx.1
      have e2 := Int32.lt_iff_toInt_lt.mp hx.2
      rw [show (0 : Int32).toInt = 0 by decide] at e1
      rw [show (8 : Int32).toInt = 8 by decide] at e2
      refine ⟨x.toInt.toNat, by omega, ?_⟩
      apply Int32.toInt_inj.mp
      rw [nI_toInt (by omega)]
      omega
    by_cases hin : inRg w y = true
    · have hot : othZ I o w = mothZ I A w := by
        unfold othZ mothZ
        rw [(h7 7 (by decide)).1, (h7 6 (by decide)).1]
      by_cases hgz : y = 0 ∧ othZ I o w = true
      · exact both_ro (t_X11_set_gam l D z n G I L o w y hW hw hin hgz.1 hgz.2) (t_X12_set_gam l D z n G I L A w y hM hw hin hgz.1 (by rw [← hot]; exact hgz.2)) rfl hR
      · by_cases hw5 : w = 5
        · subst hw5
          refine ⟨_, t_X11_set_5 l D z n G I L o y F Z hW zo hin z1 hb.1 z2 hb.2, fun v I1 L1 h => ⟨_, h.1⟩, fun v I1 L1 h => ?_⟩
          obtain ⟨e0, e1, e2, e4, e5⟩ := h
          have fA : ∀ q, A ≤ q → I1 q = I q := fun q hq => e4 q (by omega) (by omega) (by omega)
          have eA : I1 (A + 1) = I (A + 1) := fA _ (by omega)
          refine ⟨_, t_X12_set_5 l D z n G I1 L1 A y Z hM zA hin (by rw [fA _ (by omega)]; exact z3) hb.2, fun w I2 L2 h => ?_⟩
          obtain ⟨g0, gL, g1, g2, g5, g6⟩ := h
          rw [eA] at g0
          rw [(h7 5 (by decide)).1] at e0
          subst gL
          have fq : ∀ q, q < A → I2 q = I1 q := fun q hq => g5 q (by omega) (by omega) (by omega)
          have fS : ∀ q, o + 75 ≤ q → q < o + 113 → q ≠ o + 75 + 9 → I2 q = I q := fun q q1 q2 q3 => by rw [fq q (by omega), e4 q (by omega) (by omega) q3]
          have g2' : ∀ j, j ≠ 47 → I2 (A + 1) j = I (A + 1) j := fun j hj => by rw [g2, if_neg hj, eA]
          refine ⟨_, e0, g0, relM_rec hA hb z4 hR ⟨dx, dy, h1, ⟨(g2' 40 (by decide)).trans h2.1, (g2' 41 (by decide)).trans h2.2⟩, ⟨?_, ?_⟩, by rw [fS _ (by omega) (by omega) (by omega)]; exact h4, fun b hb k hk => by rw [fS (o + 75 + 1 + 4 * b + 1) (by omega) (by omega) (by omega), fS (o + 75 + 1 + 4 * b + 2) (by omega) (by omega) (by omega), g2' (20 * b + 2 * k) (by omega), g2' (20 * b + 2 * k + 1) (by omega)]; exact h5 b hb k hk, fun j hj => by rw [g2' j (by omega)]; exact h6 j hj, fun j hj => ?_, fun i hi => ?_⟩ (recd_congr (fun q q1 q2 => (fq q (by omega)).symm) (fun q q1 q2 => rfl) e1) (mrec_of eA (fA _ (by omega)) g1) (fun q q1 q2 q3 => by rw [fq q (by omega), e4 q (by omega) q3 (by omega)]) (fun q q1 q2 q3 => e5 q q3) (fun q q1 q2 => by rw [g5 q (by omega) (by omega) (by omega), fA _ (by omega)]) ?_⟩
          · exact (dgN_congr (fun k hk => by rw [fS _ (by omega) (by omega) (by omega)]) (fun k hk => by rw [fS _ (by omega) (by omega) (by omega)]) 10 (Nat.le_refl _)).trans h3.1
          · exact (dgN_congr (fun k hk => by rw [fS _ (by omega) (by omega) (by omega)]) (fun k hk => by rw [fS _ (by omega) (by omega) (by omega)]) 10 (Nat.le_refl _)).trans h3.2
          · rw [fq _ (by omega), e2 j]
            by_cases hj5 : j = 5
            · subst hj5
              rw [if_pos rfl, g2, if_pos rfl]
              exact ⟨rfl, hin⟩
            · rw [if_neg hj5, g2' _ (by omega)]; exact h7 j hj
          · have hm : mvO (I2 (A + 1)) (50 + 12 * i) = mvO (I (A + 1)) (50 + 12 * i) := mvO_congr (fun j hj => g2' _ (by omega))
            rw [hm, pv_fr (I := I) (L := L) (fS _ (by omega) (by omega) (by omega)) (e5 _ (by omega)) (e5 _ (by omega))]
            exact h8 i hi
          · exact txtM_keep (by rw [fq _ (by omega), e4 _ (by omega) (by omega) (by omega)]) (by rw [fq _ (by omega), e4 _ (by omega) (by omega) (by omega)]) (by rw [g6 6 (by decide), fA _ (by omega)]) (by rw [g5 _ (by omega) (by omega) (by omega), fA _ (by omega)]) hR.2.2.2
        · refine ⟨_, t_X11_set_n l D z n G I L o w y F Z hW zo hw hin hgz hw5 hd0 hd1 z1 hb.1 z2 hb.2, fun v I1 L1 h => ⟨_, h.1⟩, fun v I1 L1 h => ?_⟩
          obtain ⟨e0, e1, e2, e3, e6, e7, e4, e5⟩ := h
          rw [h3.1, h3.2] at e2 e3
          have fA : ∀ q, A ≤ q → I1 q = I q := fun q hq => e4 q (by omega) (by omega) (by omega)
          have eA : I1 (A + 1) = I (A + 1) := fA _ (by omega)
          refine ⟨_, t_X12_set_n l D z n G I1 L1 A w y dx dy Z hM zA hw hw5 hin (by rw [show mothZ I1 A w = mothZ I A w by unfold mothZ; rw [eA], ← hot]; exact hgz) (by rw [eA]; exact h2.1) (by rw [eA]; exact h2.2) h9.2 (by omega) (by omega) (by rw [fA _ (by omega)]; exact z3) hb.2, fun w' I2 L2 h => ?_⟩
          obtain ⟨g0, g1, g2, g4, g5, g6, g7⟩ := h
          rw [eA] at g0
          simp only [eA] at g2 g4
          rw [(h7 w hw).1] at e0
          have fq : ∀ q, q < A → I2 q = I1 q := fun q hq => g5 q (by omega) (by omega) (by omega)
          have fl : ∀ q, q < A → L2 q = L1 q := fun q hq => g7 q (by omega)
          have hset : ∀ j, j < 8 → I2 (o + 75 + 9) j = I2 (A + 1) (42 + j) ∧ inRg j (I2 (A + 1) (42 + j)) = true := fun j hj => by
            rw [fq _ (by omega), e6 j, g4 _ (by omega)]
            by_cases hjw : j = w
            · subst hjw
              rw [if_pos rfl, if_pos rfl]; exact ⟨rfl, hin⟩
            · rw [if_neg hjw, if_neg (by omega)]; exact h7 j hj
          obtain ⟨n0, hn0, hn0e⟩ := rg_nat (n := 256) (hset 0 (by decide)).2 (by decide) (by decide)
          obtain ⟨n1, hn1, hn1e⟩ := rg_nat (n := 256) (hset 1 (by decide)).2 (by decide) (by decide)
          have c0 : (if w = 0 then y else I (A + 1) 42) = nI n0 := by
            rw [← hn0e, g4 _ (by omega)]
            by_cases hw0 : w = 0
            · rw [if_pos hw0, if_pos (by omega)]
            · rw [if_neg hw0, if_neg (by omega)]
          have c1 : (if w = 1 then y else I (A + 1) 43) = nI n1 := by
            rw [← hn1e, g4 _ (by omega)]
            by_cases hw0 : w = 1
            · rw [if_pos hw0, if_pos (by omega)]
            · rw [if_neg hw0, if_neg (by omega)]
          have t0' : I (o + 75 + 9) 0 = I (A + 1) 42 := (h7 0 (by decide)).1
          have t1' : I (o + 75 + 9) 1 = I (A + 1) 43 := (h7 1 (by decide)).1
          rw [t0', t1', c0, c1] at e3
          simp only [c0, c1] at g2
          have hrow : ∀ b, b < 2 → ∀ k, k < 10 → I2 (o + 75 + 1 + 4 * b + 1) k = I (o + 75 + 1 + 4 * b + 1) k ∧ I2 (o + 75 + 1 + 4 * b + 2) k = I (o + 75 + 1 + 4 * b + 2) k := fun b hb k hk => by
            rw [fq _ (by omega), fq _ (by omega), (e7 b hb).1, (e7 b hb).2]; exact ⟨rfl, rfl⟩
          refine ⟨_, e0, g0, relM_rec hA hb z4 hR ⟨dx, dy, stMd_begun (I := I) (L := L) (f := I (A + 1)) h1 ⟨by rw [g4 _ (by omega), if_neg (by omega)]; exact h2.1, by rw [g4 _ (by omega), if_neg (by omega)]; exact h2.2⟩ ⟨?_, ?_⟩ (by rw [fq _ (by omega)]; exact e2) (fun b hb k hk => by rw [(hrow b hb k hk).1, (hrow b hb k hk).2, g4 _ (by omega), g4 _ (by omega), if_neg (by omega), if_neg (by omega)]; exact h5 b hb k hk) (fun j hj => by rw [g4 _ (by omega), if_neg (by omega)]; exact h6 j hj) hset (begun_tr h9.2 (fun q q1 q2 => fq q (by omega)) (fun q q1 q2 => fl q (by omega)) e3) g2 hn0 hn1⟩ (recd_congr (fun q q1 q2 => (fq q (by omega)).symm) (fun q q1 q2 => (fl q (by omega)).symm) e1) (mrec_of eA (fA _ (by omega)) g1) (fun q q1 q2 q3 => by rw [fq q (by omega), e4 q (by omega) q3 (by omega)]) (fun q q1 q2 q3 => by rw [fl q (by omega), e5 q q3 (by omega)]) (fun q q1 q2 => by rw [g5 q (by omega) (by omega) (by omega), fA _ (by omega)]) ?_⟩
          · exact (dgN_congr (fun k hk => (hrow 0 (by decide) k hk).1) (fun k hk => (hrow 0 (by decide) k hk).2) 10 (Nat.le_refl _)).trans h3.1
          · exact (dgN_congr (fun k hk => (hrow 1 (by decide) k hk).1) (fun k hk => (hrow 1 (by decide) k hk).2) 10 (Nat.le_refl _)).trans h3.2
          · exact txtM_keep (by rw [fq _ (by omega), e4 _ (by omega) (by omega) (by omega)]) (by rw [fq _ (by omega), e4 _ (by omega) (by omega) (by omega)]) (by rw [g6 6 (by decide), fA _ (by omega)]) (by rw [g5 _ (by omega) (by omega) (by omega), fA _ (by omega)]) hR.2.2.2
    · have hno : inRg w y = false := Bool.eq_false_iff.mpr hin
      exact both_ro (t_X11_set_rng l D z n G I L o w y hW hw hno) (t_X12_set_rng l D z n G I L A w y hM hw hno) rfl hR
  · exact both_ro (t_X11_set_bad l D z n G I L o x y hW hx) (t_X12_set_bad l D z n G I L A x y hM hx) rfl hR
theorem b_equation (l : Launch) (D : xD) (z n : Nat) (G : xG) (I : xI) (L : xL) (o A : Nat) (hW : shPT G o) (hM : shMo G A) (zo : z ≤ o) (hA : A = o + 345) (hR : relM I L o A) (x : Int32) : both l D z n G o A yX11_equation cX11_equation 3 6 141 yX12_equation cX12_equation 4 5 114 [.int x] I L := by
  have zA : z ≤ A := by omega
  obtain ⟨F, Z, hb, ⟨z1, z2, z3⟩, z4⟩ := hR.2.1
  have h40 : (F + Z) % 4 < 4 := Nat.mod_lt _ (by decide)
  obtain ⟨dx, dy, h1, h2, h3, h4, h5, h6, h7, h8⟩ := hR.1
  have h9 := d9 h1
  have hS : stMd I L (o + 75) (I (A + 1)) dx dy := ⟨h1, h2, h3, h4, h5, h6, h7, h8⟩
  have hd0 : 1 ≤ sdg I (o + 75) 0 := by rw [h3.1]; omega
  have hd1 : 1 ≤ sdg I (o + 75) 1 := by rw [h3.2]; omega
  obtain ⟨s0, hs0, hs0e⟩ := rg_nat (n := 256) (h7 0 (by decide)).2 (by decide) (by decide)
  obtain ⟨s1, hs1, hs1e⟩ := rg_nat (n := 256) (h7 1 (by decide)).2 (by decide) (by decide)
  obtain ⟨R, hRl, hRe⟩ := rg_nat (n := 6) (h7 2 (by decide)).2 (by decide) (by decide)
  have t0 : I (o + 75 + 9) 0 = nI s0 := (h7 0 (by decide)).1.trans hs0e
  have t1 : I (o + 75 + 9) 1 = nI s1 := (h7 1 (by decide)).1.trans hs1e
  have t2 : I (o + 75 + 9) 2 = nI R := (h7 2 (by decide)).1.trans hRe
  have t3 : I (o + 75 + 9) 3 = I (A + 1) 45 := (h7 3 (by decide)).1
  have t4 : I (o + 75 + 9) 4 = I (A + 1) 46 := (h7 4 (by decide)).1
  have m0 : I (A + 1) 42 = nI s0 := hs0e
  have m1 : I (A + 1) 43 = nI s1 := hs1e
  have m2 : I (A + 1) 44 = nI R := hRe
  obtain ⟨t, N, hc, ⟨a1, a2⟩, b1, b2⟩ := hR.2.2.2
  obtain ⟨r, hr⟩ := nI_sur (I (o + 1) 3)
  obtain ⟨r', hr'⟩ := nI_sur (I A 18)
  have hT : tx I (o + 1) t N r := ⟨a1, a2, hr⟩
  by_cases hx : 0 ≤ x ∧ x ≤ 1
  · obtain ⟨b, hbl, rfl⟩ := nI_rg (M := 1) (n := 1) (by decide) hx.1 hx.2
    have hb2 : b < 2 := by omega
    by_cases hok : (rdAll t N).1 = true
    · by_cases hdg : 1 ≤ rdD t N
      · have hd3 : rdD t N ≤ 3 := dgN_le _ _ 10
        refine ⟨_, t_X11_equation l D z n G I L o b t N r F Z hW zo hb2 hT hc hd0 hd1 z1 hb.1 z2 hb.2 hok hdg, fun v I1 L1 h => ⟨_, h.1⟩, fun v I1 L1 h => ?_⟩
        obtain ⟨e0, e1, e2, e3, e6, e7, e7', e8, e4, e5⟩ := h
        have fA : ∀ q, A ≤ q → I1 q = I q := fun q hq => e4 q (by omega) (by omega) (by omega) (by omega)
        have eA : I1 (A + 1) = I (A + 1) := fA _ (by omega)
        refine ⟨_, t_X12_equation l D z n G I1 L1 A b t N r' dx dy Z hM zA hb2 ⟨fun j hj => by rw [fA _ (by omega)]; exact b1 j hj, by rw [fA _ (by omega)]; exact b2, by rw [fA _ (by omega)]; exact hr'⟩ hc (by rw [eA]; exact h2.1) (by rw [eA]; exact h2.2) h9.2 (by omega) (by omega) (by rw [fA _ (by omega)]; exact z3) hb.2 hok hdg (by omega) (by omega), fun w I2 L2 h => ?_⟩
        obtain ⟨g0, g1, g2, g3, g4, g4', g5, g6, g6', g7⟩ := h
        simp only [eA] at g3 g4 g4'
        have fq : ∀ q, q < A → I2 q = I1 q := fun q hq => g5 q (by omega) (by omega) (by omega) (by omega)
        have fl : ∀ q, q < A → L2 q = L1 q := fun q hq => g7 q (by omega)
        have hdr : sdg I1 (o + 75) b = rdD t N := dgN_congr (fun k hk => (e7 k hk).1) (fun k hk => (e7 k hk).2) 10 (Nat.le_refl _)
        have hdo : sdg I1 (o + 75) (1 - b) = sdg I (o + 75) (1 - b) := by unfold sdg; rw [e7'.1, e7'.2]
        have hdX : sdg I1 (o + 75) 0 = (if b = 0 then rdD t N else dx) := by
          rcases (show b = 0 ∨ b = 1 by omega) with rfl | rfl
          · exact hdr
          · exact hdo.trans h3.1
        have hdY : sdg I1 (o + 75) 1 = (if b = 0 then dy else rdD t N) := by
          rcases (show b = 0 ∨ b = 1 by omega) with rfl | rfl
          · exact hdo.trans h3.2
          · exact hdr
        have hdd : 1 ≤ (if b = 0 then rdD t N else dx) ∧ (if b = 0 then rdD t N else dx) ≤ 3 ∧ 1 ≤ (if b = 0 then dy else rdD t N) ∧ (if b = 0 then dy else rdD t N) ≤ 3 := by
          rcases (show b = 0 ∨ b = 1 by omega) with rfl | rfl
          · exact ⟨hdg, hd3, h1.2.2.1, h1.2.2.2⟩
          · exact ⟨h1.1, h1.2.1, hdg, hd3⟩
        have h40' : I2 (A + 1) 40 = nI (if b = 0 then rdD t N else dx) ∧ I2 (A + 1) 41 = nI (if b = 0 then dy else rdD t N) := by
          rw [g4 40 (by decide) (by decide), g4 41 (by decide) (by decide)]
          rcases (show b = 0 ∨ b = 1 by omega) with rfl | rfl
          · exact ⟨rfl, h2.2⟩
          · exact ⟨h2.1, rfl⟩
        rw [hdX, hdY] at e2 e3
        generalize (if b = 0 then rdD t N else dx) = ex at *
        generalize (if b = 0 then dy else rdD t N) = ey at *
        have h9' := d9 hdd
        have t0' : I (o + 75 + 9) 0 = nI s0 := t0
        rw [t0, t1] at e3
        simp only [m0, m1] at g4'
        have hset : ∀ j, j < 8 → I2 (o + 75 + 9) j = I2 (A + 1) (42 + j) ∧ inRg j (I2 (A + 1) (42 + j)) = true := fun j hj => by
          rw [fq _ (by omega), e6, g4 _ (by omega) (by omega), if_neg (by omega)]; exact h7 j hj
        have hrow : ∀ c, c < 2 → ∀ k, k < 10 → I2 (o + 75 + 1 + 4 * c + 1) k = I2 (A + 1) (20 * c + 2 * k) ∧ I2 (o + 75 + 1 + 4 * c + 2) k = I2 (A + 1) (20 * c + 2 * k + 1) := fun c hc k hk => by
          rw [fq (o + 75 + 1 + 4 * c + 1) (by omega), fq (o + 75 + 1 + 4 * c + 2) (by omega)]
          by_cases hcb : c = b
          · subst hcb
            rw [(g2 k hk).1, (g2 k hk).2]; exact e7 k hk
          · have hcb' : c = 1 - b := by omega
            rw [g3 (20 * c + 2 * k) (by omega) (by omega), g3 (20 * c + 2 * k + 1) (by omega) (by omega)]
            have := h5 c hc k hk
            rw [hcb'] at this ⊢
            rw [e7'.1, e7'.2]; exact this
        have hin := rdAll_inB t N
        have hcoe : ∀ j, j < 40 → heldc (I2 (A + 1) j) = I2 (A + 1) j := fun j hj => by
          by_cases hjb : j < 20 * b ∨ 20 * b + 20 ≤ j
          · rw [g3 j hj hjb]; exact h6 j hj
          · rcases Nat.mod_two_eq_zero_or_one j with hm | hm
            · have hj' : j = 20 * b + 2 * ((j - 20 * b) / 2) := by omega
              rw [hj', (g2 _ (by omega)).1]; exact hin.1 _
            · have hj' : j = 20 * b + 2 * ((j - 20 * b) / 2) + 1 := by omega
              rw [hj', (g2 _ (by omega)).2]; exact hin.2 _
        refine ⟨_, e0, g0, relM_rec hA hb z4 hR ⟨ex, ey, stMd_begun (I := I) (L := L) (f := I (A + 1)) hdd h40' ⟨?_, ?_⟩ (by rw [fq _ (by omega)]; exact e2) hrow hcoe hset (begun_tr h9'.2 (fun q q1 q2 => fq q (by omega)) (fun q q1 q2 => fl q (by omega)) e3) g4' hs0 hs1⟩ (recd_congr (fun q q1 q2 => (fq q (by omega)).symm) (fun q q1 q2 => (fl q (by omega)).symm) e1) (mrec_of eA (fA _ (by omega)) g1) (fun q q1 q2 q3 => by rw [fq q (by omega), e4 q (by omega) q3 (by omega) (by omega)]) (fun q q1 q2 q3 => by rw [fl q (by omega), e5 q q3 (by omega)]) (fun q q1 q2 => by rw [g5 q (by omega) (by omega) (by omega) (by omega), fA _ (by omega)]) ?_⟩
        · exact (sdg_congr (I := I1) (fun q q1 q2 => fq q (by omega)) (by decide)).trans hdX
        · exact (sdg_congr (I := I1) (fun q q1 q2 => fq q (by omega)) (by decide)).trans hdY
        · exact ⟨t, 0, ⟨by omega, fun j hj => absurd hj (by omega)⟩, ⟨fun j hj => absurd hj (by omega), by rw [fq _ (by omega)]; exact e8.2.1⟩, fun j hj => absurd hj (by omega), g6⟩
      · have h0 : rdD t N = 0 := by omega
        refine ⟨_, t_X11_equation_deg l D z n G I L o b t N r hW zo hb2 hT hc hok h0, fun v I1 L1 h => ⟨_, h.1⟩, fun v I1 L1 h => ?_⟩
        obtain ⟨e0, e1, e2⟩ := h
        have f1 : ∀ q, q ≠ o + 1 → q ≠ o + 1 + 2 + 1 → q ≠ o + 1 + 2 + 2 → I1 q = I q := fun q q1 q2 q3 => by rw [e1]; unfold rdI; rw [xup_row _ _ q1, eqFill_nq q2 q3]
        refine ⟨_, t_X12_equation_deg l D z n G I1 L1 A b t N r' hM zA hb2 ⟨fun j hj => by rw [f1 _ (by omega) (by omega) (by omega)]; exact b1 j hj, by rw [f1 _ (by omega) (by omega) (by omega)]; exact b2, by rw [f1 _ (by omega) (by omega) (by omega)]; exact hr'⟩ hc hok h0, fun w I2 L2 h => ?_⟩
        obtain ⟨g0, g1, g2, g3⟩ := h
        refine ⟨_, e0, g0, ?_⟩
        subst e2 g1
        have f2 : ∀ q, q ≠ A → q ≠ A + 14 → q ≠ o + 1 → q ≠ o + 1 + 2 + 1 → q ≠ o + 1 + 2 + 2 → I2 q = I q := fun q q1 q2 q3 q4 q5 => by rw [g2 q q1 q2, f1 q q3 q4 q5]
        refine relM_keep (I := I) (L := L2) hA (fun q q1 q2 => f2 q (by omega) (by omega) (by omega) (by omega) (by omega)) (fun _ _ _ => rfl) (fun q q1 q2 => f2 q (by omega) (by omega) (by omega) (by omega) (by omega)) ?_ ?_ ?_ (f2 _ (by omega) (by omega) (by omega) (by omega) (by omega)) hR
        · rw [g3 2 (by omega), f1 A (by omega) (by omega) (by omega)]
        · rw [g3 6 (by omega), f1 A (by omega) (by omega) (by omega)]
        · rw [g2 (o + 1) (by omega) (by omega), e1]; unfold rdI; rw [xup_ne _ _ (by omega), eqFill_nq (by omega) (by omega)]
    · have h0 : (rdAll t N).1 = false := Bool.eq_false_iff.mpr hok
      refine ⟨_, t_X11_equation_fault l D z n G I L o b t N r hW zo hb2 hT hc h0, fun v I1 L1 h => ⟨_, h.1⟩, fun v I1 L1 h => ?_⟩
      obtain ⟨e0, e1, e2⟩ := h
      have f1 : ∀ q, q ≠ o + 1 → q ≠ o + 1 + 2 + 1 → q ≠ o + 1 + 2 + 2 → I1 q = I q := fun q q1 q2 q3 => by rw [e1]; unfold rdI; rw [xup_row _ _ q1, eqFill_nq q2 q3]
      refine ⟨_, t_X12_equation_fault l D z n G I1 L1 A b t N r' hM zA hb2 ⟨fun j hj => by rw [f1 _ (by omega) (by omega) (by omega)]; exact b1 j hj, by rw [f1 _ (by omega) (by omega) (by omega)]; exact b2, by rw [f1 _ (by omega) (by omega) (by omega)]; exact hr'⟩ hc h0, fun w I2 L2 h => ?_⟩
      obtain ⟨g0, g1, g2, g3⟩ := h
      refine ⟨_, e0, g0, ?_⟩
      subst e2 g1
      have f2 : ∀ q, q ≠ A → q ≠ A + 14 → q ≠ o + 1 → q ≠ o + 1 + 2 + 1 → q ≠ o + 1 + 2 + 2 → I2 q = I q := fun q q1 q2 q3 q4 q5 => by rw [g2 q q1 q2, f1 q q3 q4 q5]
      refine relM_keep (I := I) (L := L2) hA (fun q q1 q2 => f2 q (by omega) (by omega) (by omega) (by omega) (by omega)) (fun _ _ _ => rfl) (fun q q1 q2 => f2 q (by omega) (by omega) (by omega) (by omega) (by omega)) ?_ ?_ ?_ (f2 _ (by omega) (by omega) (by omega) (by omega) (by omega)) hR
      · rw [g3 2 (by omega), f1 A (by omega) (by omega) (by omega)]
      · rw [g3 6 (by omega), f1 A (by omega) (by omega) (by omega)]
      · rw [g2 (o + 1) (by omega) (by omega), e1]; unfold rdI; rw [xup_ne _ _ (by omega), eqFill_nq (by omega) (by omega)]
  · exact both_ro (t_X11_equation_bad l D z n G I L o x hW hx) (t_X12_equation_bad l D z n G I L A x hM hx) rfl hR
