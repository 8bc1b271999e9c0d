/-! The law: the relation of both worlds -/
def stMd (I : xI) (L : xL) (S : Nat) (f : Nat → Int32) (dx dy : Nat) : Prop :=
  (1 ≤ dx ∧ dx ≤ 3 ∧ 1 ≤ dy ∧ dy ≤ 3) ∧ (f 40 = nI dx ∧ f 41 = nI dy) ∧ (sdg I S 0 = dx ∧ sdg I S 1 = dy) ∧ I S 4 = nI (dx * dy) ∧
  (∀ b, b < 2 → ∀ k, k < 10 → I (S + 1 + 4 * b + 1) k = f (20 * b + 2 * k) ∧ I (S + 1 + 4 * b + 2) k = f (20 * b + 2 * k + 1)) ∧
  (∀ j, j < 40 → heldc (f j) = f j) ∧ (∀ j, j < 8 → I (S + 9) j = f (42 + j) ∧ inRg j (f (42 + j)) = true) ∧
  ∀ k, k < dx * dy → vEq (pv I L (S + 11 + 3 * k)) (mvO f (50 + 12 * k)) ∧ pOk (mvO f (50 + 12 * k))
def stM (I : xI) (L : xL) (S : Nat) (f : Nat → Int32) : Prop := ∃ dx dy, stMd I L S f dx dy
def hisM (I : xI) (L : xL) (o A : Nat) : Prop := ∃ F Z, (F < 4 ∧ Z ≤ 4) ∧ (I (o + 113) 1 = nI F ∧ I (o + 113) 2 = nI Z ∧ I A 2 = nI Z) ∧ ∀ k, k < Z → stM I L (o + 113 + 2 + 38 * ((F + k) % 4)) (fun j => I (A + 2) (158 * k + j))
def sloM (I : xI) (L : xL) (o A : Nat) : Prop := ∀ k, k < 2 → I (o + 344) k = I (A + 4) k ∧ (¬ I (o + 344) k = 0 → stM I L (o + 268 + 38 * k) (fun j => I (A + 3) (158 * k + j)))
def txtM (I : xI) (o A : Nat) : Prop := ∃ (t : Nat → Nat) (N : Nat), txc t N ∧ ((∀ j, j < N → I (o + 1 + 1) j = nI (t j)) ∧ I (o + 1) 2 = nI N) ∧ ((∀ j, j < N → I (A + 5) j = nI (t j)) ∧ I A 6 = nI N)
def relM (I : xI) (L : xL) (o A : Nat) : Prop := stM I L (o + 75) (I (A + 1)) ∧ hisM I L o A ∧ sloM I L o A ∧ txtM I o A
theorem d9 {dx dy : Nat} (h : 1 ≤ dx ∧ dx ≤ 3 ∧ 1 ≤ dy ∧ dy ≤ 3) : 1 ≤ dx * dy ∧ dx * dy ≤ 9 :=
  ⟨Nat.mul_pos (by omega) (by omega), Nat.le_trans (Nat.mul_le_mul h.2.1 h.2.2.2) (by decide)⟩
theorem stEq_fr {I I' : xI} {L L' : xL} {S : Nat} (hI : ∀ q, S ≤ q → q < S + 38 → I' q = I q) (hL : ∀ q, S ≤ q → q < S + 38 → L' q = L q) : stEq I L S I' L' S :=
  ⟨fun b hb j hj => ⟨by rw [hI _ (by omega) (by omega)], by rw [hI _ (by omega) (by omega)]⟩, fun j hj => by rw [hI _ (by omega) (by omega)], by rw [hI _ (by omega) (by omega)], fun k hk => ⟨fun j h1 h2 => by rw [hI _ (by omega) (by omega)], by unfold rd; rw [hL _ (by omega) (by omega)], by unfold rd; rw [hL _ (by omega) (by omega)]⟩⟩
theorem stMd_tr {I I' : xI} {L L' : xL} {S S' : Nat} {f f' : Nat → Int32} {dx dy : Nat} (hI : stEq I L S I' L' S') (hf : ∀ j, j < 158 → f' j = f j) (h : stMd I L S f dx dy) : stMd I' L' S' f' dx dy := by
  obtain ⟨h1, h2, h3, h4, h5, h6, h7, h8⟩ := h
  obtain ⟨e1, e2, e3, e4⟩ := hI
  have h9 := d9 h1
  have sd : ∀ b, b < 2 → sdg I' S' b = sdg I S b := fun b hb => dgN_congr (fun k hk => (e1 b hb k hk).1) (fun k hk => (e1 b hb k hk).2) 10 (Nat.le_refl _)
  refine ⟨h1, ⟨by rw [hf 40 (by decide)]; exact h2.1, by rw [hf 41 (by decide)]; exact h2.2⟩, ⟨(sd 0 (by decide)).trans h3.1, (sd 1 (by decide)).trans h3.2⟩, e3.trans h4, fun b hb k hk => ⟨by rw [(e1 b hb k hk).1, hf _ (by omega)]; exact (h5 b hb k hk).1, by rw [(e1 b hb k hk).2, hf _ (by omega)]; exact (h5 b hb k hk).2⟩, fun j hj => by rw [hf j (by omega)]; exact h6 j hj, fun j hj => by rw [e2 j hj, hf (42 + j) (by omega)]; exact h7 j hj, fun k hk => ?_⟩
  have hm : mvO f' (50 + 12 * k) = mvO f (50 + 12 * k) := mvO_congr (fun j hj => hf _ (by omega))
  rw [hm]
  refine ⟨⟨fun j h1 h2 => ?_, ?_⟩, (h8 k hk).2⟩
  · exact ((e4 k (by omega)).1 j h1 h2).trans ((h8 k hk).1.1 j h1 h2)
  · show (rd L' _, rd L' _) = _
    rw [(e4 k (by omega)).2.1, (e4 k (by omega)).2.2]
    exact (h8 k hk).1.2
theorem stM_tr {I I' : xI} {L L' : xL} {S S' : Nat} {f f' : Nat → Int32} (hI : stEq I L S I' L' S') (hf : ∀ j, j < 158 → f' j = f j) (h : stM I L S f) : stM I' L' S' f' := by
  obtain ⟨dx, dy, h⟩ := h
  exact ⟨dx, dy, stMd_tr hI hf h⟩
theorem stM_keep {I I' : xI} {L L' : xL} {S : Nat} {f f' : Nat → Int32} (hI : ∀ q, S ≤ q → q < S + 38 → I' q = I q) (hL : ∀ q, S ≤ q → q < S + 38 → L' q = L q) (hf : ∀ j, j < 158 → f' j = f j) (h : stM I L S f) : stM I' L' S f' := stM_tr (stEq_fr hI hL) hf h
theorem hisM_keep {I I' : xI} {L L' : xL} {o A : Nat} (hI : ∀ q, o + 113 ≤ q → q < o + 267 → I' q = I q) (hL : ∀ q, o + 113 ≤ q → q < o + 267 → L' q = L q) (h2 : I' A 2 = I A 2) (hr : I' (A + 2) = I (A + 2)) (h : hisM I L o A) : hisM I' L' o A := by
  obtain ⟨F, Z, hb, ⟨h3, h4, h5⟩, h6⟩ := h
  refine ⟨F, Z, hb, ⟨by rw [hI _ (by omega) (by omega)]; exact h3, by rw [hI _ (by omega) (by omega)]; exact h4, h2.trans h5⟩, fun k hk => ?_⟩
  have h40 : (F + k) % 4 < 4 := Nat.mod_lt _ (by decide)
  exact stM_keep (fun q h1 h2 => hI q (by omega) (by omega)) (fun q h1 h2 => hL q (by omega) (by omega)) (fun j hj => by rw [hr]) (h6 k hk)
theorem sloM_keep {I I' : xI} {L L' : xL} {o A : Nat} (hI : ∀ q, o + 268 ≤ q → q < o + 345 → I' q = I q) (hL : ∀ q, o + 268 ≤ q → q < o + 345 → L' q = L q) (h3 : I' (A + 3) = I (A + 3)) (h4 : I' (A + 4) = I (A + 4)) (h : sloM I L o A) : sloM I' L' o A := by
  intro k hk
  have h := h k hk
  rw [hI (o + 344) (by omega) (by omega), h4]
  exact ⟨h.1, fun hn => stM_keep (fun q h1 h2 => hI q (by omega) (by omega)) (fun q h1 h2 => hL q (by omega) (by omega)) (fun j hj => by rw [h3]) (h.2 hn)⟩
theorem txtM_keep {I I' : xI} {o A : Nat} (h1 : I' (o + 1) 2 = I (o + 1) 2) (h2 : I' (o + 1 + 1) = I (o + 1 + 1)) (h6 : I' A 6 = I A 6) (h5 : I' (A + 5) = I (A + 5)) (h : txtM I o A) : txtM I' o A := by
  obtain ⟨t, N, hc, ⟨a1, a2⟩, b1, b2⟩ := h
  exact ⟨t, N, hc, ⟨fun j hj => by rw [h2]; exact a1 j hj, h1.trans a2⟩, fun j hj => by rw [h5]; exact b1 j hj, h6.trans b2⟩
theorem mrec_of {I J I' : xI} {A Z : Nat} (h1 : J (A + 1) = I (A + 1)) (h2 : J (A + 2) = I (A + 2)) (h : mrec J A Z I') : mrec I A Z I' := by
  unfold mrec at h ⊢
  rw [h1, h2] at h
  exact h
/-- what is recorded: the present state of before -/
theorem hisM_rec {I I' : xI} {L L' : xL} {o A F Z : Nat} (hb : F < 4 ∧ Z ≤ 4) (hold : ∀ k, k < Z → stM I L (o + 113 + 2 + 38 * ((F + k) % 4)) (fun j => I (A + 2) (158 * k + j))) (hst : stM I L (o + 75) (I (A + 1))) (hrec : recd I L o F Z I' L') (hm : mrec I A Z I')
    (hI : ∀ q, o + 113 + 2 ≤ q → q < o + 267 → (q < o + 113 + 2 + 38 * ((F + Z) % 4) ∨ o + 113 + 2 + 38 * ((F + Z) % 4) + 38 ≤ q) → I' q = I q) (hL : ∀ q, o + 113 + 2 ≤ q → q < o + 267 → (q < o + 113 + 2 + 38 * ((F + Z) % 4) ∨ o + 113 + 2 + 38 * ((F + Z) % 4) + 38 ≤ q) → L' q = L q) : hisM I' L' o A := by
  obtain ⟨r1, r2, r3⟩ := hrec
  obtain ⟨m1, m2, m3⟩ := hm
  by_cases h4 : Z = 4
  · subst h4
    simp only [if_true] at r1 r2 m1 m2 m3
    refine ⟨(F + 1) % 4, 4, ⟨Nat.mod_lt _ (by decide), by decide⟩, ⟨r1, r2, m1⟩, fun k hk => ?_⟩
    by_cases h3 : k = 3
    · subst h3
      rw [show ((F + 1) % 4 + 3) % 4 = (F + 4) % 4 by omega]
      exact stM_tr r3 (fun j hj => m2 j hj) hst
    · rw [show ((F + 1) % 4 + k) % 4 = (F + (k + 1)) % 4 by omega]
      have hk1 : (F + (k + 1)) % 4 < 4 := Nat.mod_lt _ (by decide)
      refine stM_keep (fun q h1 h2 => hI q (by omega) (by omega) ?_) (fun q h1 h2 => hL q (by omega) (by omega) ?_) (fun j hj => ?_) (hold (k + 1) (by omega))
      · rcases Nat.lt_or_ge ((F + (k + 1)) % 4) ((F + 4) % 4) with hlt | hge <;> omega
      · rcases Nat.lt_or_ge ((F + (k + 1)) % 4) ((F + 4) % 4) with hlt | hge <;> omega
      · show I' (A + 2) (158 * k + j) = I (A + 2) (158 * (k + 1) + j)
        rw [m3 _ (by omega)]
        congr 1; omega
  · simp only [if_neg h4] at r1 r2 m1 m2 m3
    refine ⟨F, Z + 1, ⟨hb.1, by omega⟩, ⟨r1, r2, m1⟩, fun k hk => ?_⟩
    by_cases h3 : k = Z
    · subst h3
      exact stM_tr r3 (fun j hj => m2 j hj) hst
    · have hk1 : (F + k) % 4 < 4 := Nat.mod_lt _ (by decide)
      refine stM_keep (fun q h1 h2 => hI q (by omega) (by omega) ?_) (fun q h1 h2 => hL q (by omega) (by omega) ?_) (fun j hj => ?_) (hold k (by omega))
      · rcases Nat.lt_or_ge ((F + k) % 4) ((F + Z) % 4) with hlt | hge <;> omega
      · rcases Nat.lt_or_ge ((F + k) % 4) ((F + Z) % 4) with hlt | hge <;> omega
      · show I' (A + 2) (158 * k + j) = I (A + 2) (158 * k + j)
        exact m3 _ (by omega)
theorem inT_of {f : Nat → Int32} {b : Nat} {g : Nat → Int32} (h : ∀ j, j < 40 → heldc (g j) = g j) (e : ∀ k, k < 10 → f k = g (20 * b + 2 * k)) (hb : b < 2) : inT f := fun k hk => by rw [e k hk]; exact h _ (by omega)
theorem inT_of' {f : Nat → Int32} {b : Nat} {g : Nat → Int32} (h : ∀ j, j < 40 → heldc (g j) = g j) (e : ∀ k, k < 10 → f k = g (20 * b + 2 * k + 1)) (hb : b < 2) : inT f := fun k hk => by rw [e k hk]; exact h _ (by omega)
theorem inT_st (m : Nat) : inT (stRe m) := fun k hk => by
  unfold stRe
  split
  · decide
  · split <;> decide
theorem inT_0 : inT (fun _ => 0) := fun k hk => show heldc 0 = 0 by decide
theorem cofY_of {I J : xI} {L : xL} {S A : Nat} {dx dy : Nat} (hJ : J (A + 1) = I (A + 1)) (h : stMd I L S (I (A + 1)) dx dy) : cofY J A (yOf I S) := by
  obtain ⟨h1, h2, h3, h4, h5, h6, h7, h8⟩ := h
  refine ⟨fun e he => ?_, by rw [hJ]; exact (h7 6 (by decide)).1.symm, by rw [hJ]; exact (h7 7 (by decide)).1.symm⟩
  unfold cofOf
  rw [hJ]
  rcases (show e = 0 ∨ e = 1 ∨ e = 2 ∨ e = 3 by omega) with rfl | rfl | rfl | rfl
  · exact ⟨Or.inl ⟨by decide, fun k hk => ⟨(h5 0 (by decide) k hk).1.symm, (h5 0 (by decide) k hk).2.symm⟩⟩, inT_of h6 (fun k hk => (h5 0 (by decide) k hk).1) (by decide), inT_of' h6 (fun k hk => (h5 0 (by decide) k hk).2) (by decide)⟩
  · exact ⟨Or.inl ⟨by decide, fun k hk => ⟨(h5 1 (by decide) k hk).1.symm, (h5 1 (by decide) k hk).2.symm⟩⟩, inT_of h6 (fun k hk => (h5 1 (by decide) k hk).1) (by decide), inT_of' h6 (fun k hk => (h5 1 (by decide) k hk).2) (by decide)⟩
  · exact ⟨Or.inr ⟨Or.inl rfl, dx, ⟨h1.1, h1.2.1⟩, h2.1, by show stRe (tm (sdg I S 0) 0) = stRe (tm dx 0); rw [h3.1], rfl⟩, inT_st _, inT_0⟩
  · exact ⟨Or.inr ⟨Or.inr rfl, dy, ⟨h1.2.2.1, h1.2.2.2⟩, h2.2, by show stRe (tm 0 (sdg I S 1)) = stRe (tm 0 dy); rw [h3.2], rfl⟩, inT_st _, inT_0⟩
/-- both sides answer alike, and agree afterwards -/
def both (l : Launch) (D : xD) (z n : Nat) (G : xG) (o A : Nat) (yx : MethodName) (cx : ByteArray) (nx fx lx : Nat) (ym : MethodName) (cm : ByteArray) (nm fm lm : Nat) (As : List Value) (I : xI) (L : xL) : Prop :=
  ∃ PX : Option Value → xI → xL → Prop, xM0 l D z yx cx nx (some .int) fx lx (.ref o :: As) n G I L PX ∧ (∀ v I1 L1, PX v I1 L1 → ∃ a : Int32, v = some (.int a)) ∧ ∀ v I1 L1, PX v I1 L1 → ∃ PM : Option Value → xI → xL → Prop, xM0 l D z ym cm nm (some .int) fm lm (.ref A :: As) n G I1 L1 PM ∧ ∀ w I2 L2, PM w I2 L2 → ∃ a : Int32, v = some (.int a) ∧ w = some (.int a) ∧ relM I2 L2 o A
theorem both_ro {l : Launch} {D : xD} {z n : Nat} {G : xG} {o A : Nat} {yx : MethodName} {cx : ByteArray} {nx fx lx : Nat} {ym : MethodName} {cm : ByteArray} {nm fm lm : Nat} {As : List Value} {I : xI} {L : xL} {a a' : Int32}
    (hX : xM0 l D z yx cx nx (some .int) fx lx (.ref o :: As) n G I L (xE (some (.int a)) I L)) (hM : xM0 l D z ym cm nm (some .int) fm lm (.ref A :: As) n G I L (xE (some (.int a')) I L)) (e : a = a') (hR : relM I L o A) : both l D z n G o A yx cx nx fx lx ym cm nm fm lm As I L := by
  refine ⟨_, hX, fun v I1 L1 h => ⟨_, h.1⟩, fun v I1 L1 h => ?_⟩
  obtain ⟨h1, h2, h3⟩ := h
  subst h2 h3
  refine ⟨_, hM, fun w I2 L2 h => ?_⟩
  obtain ⟨h4, h5, h6⟩ := h
  subst h5 h6
  exact ⟨a, h1, by rw [h4, e], hR⟩
