/-! The Model: its text's fault, and its terms told -/
theorem facs_full (t : Nat → Nat) (N : Nat) : ∀ k i j r b, i + j ≤ 3 → r ≤ N → (1 ≤ i + j → b = 1) → (3 - (i + j)) < k → ((facs t N k i j r b).1 = false → 3 ≤ (facs t N k i j r b).2.1 + (facs t N k i j r b).2.2.1 → unk (sg t N (facs t N k i j r b).2.2.2.1) = true) ∧ ((facs t N k i j r b).1 = true → 3 ≤ (facs t N k i j r b).2.1 + (facs t N k i j r b).2.2.1 → (facs t N k i j r b).2.2.2.2 = 1)
  | 0, i, j, r, b, _, _, _, hk => absurd hk (by omega)
  | k + 1, i, j, r, b, h1, h2, h3, hk => by
    simp only [facs]
    by_cases hu : unk (sg t N r) = true
    · have hlt : r < N := sg_lt (t := t) (by have := unk_b.mp hu; omega)
      have hf := fac_ok (t := t) (d := i + j) hlt
      have hf1 := hf.1 h1
      rw [if_pos hu]
      by_cases h0 : (fac t N (i + j) r).1 = 0
      · rw [if_pos h0]
        refine ⟨fun _ h => ?_, fun h => absurd (show false = true from h) (by decide)⟩
        have e : fac t N (i + j) r = (0, r) := by unfold fac; exact if_pos h
        rw [e]; exact hu
      · rw [if_neg h0]
        by_cases hx : sg t N r = 120
        · rw [if_pos hx]
          exact facs_full t N k (i + (fac t N (i + j) r).1) j (fac t N (i + j) r).2 1 (by omega) hf.2.2.1 (fun _ => rfl) (by omega)
        · rw [if_neg hx]
          exact facs_full t N k i (j + (fac t N (i + j) r).1) (fac t N (i + j) r).2 1 (by omega) hf.2.2.1 (fun _ => rfl) (by omega)
    · rw [if_neg hu]; exact ⟨fun h => absurd (show true = false from h) (by decide), fun _ h => h3 (by have h4 : 3 ≤ i + j := h; omega)⟩
theorem mOk_cases {t : Nat → Nat} {N r : Nat} (hr : r ≤ N) (h : mOk t N r = true) : tOk t N r = true ∨ (tOk t N r = false ∧ unk (sg t N (tEnd t N r)) = true) := by
  cases h0 : tOk t N r with
  | true => exact Or.inl rfl
  | false =>
    refine Or.inr ⟨rfl, ?_⟩
    unfold mOk at h
    rw [h0] at h
    simp at h
    have h2 := facs_full t N 61 0 0 (tR2 t N r) (tB0 t N r) (by omega) (tR2_r (t := t) hr).2 (fun h => absurd h (by decide)) (by decide)
    cases hb : (tFac t N r).1 with
    | false => exact h2.1 hb h
    | true =>
      have h3 := h2.2 hb h
      have : tOk t N r = true := by
        unfold tOk
        rw [hb, decide_eq_true (show ¬ (tFac t N r).2.2.2.2 = 0 from fun e => absurd (e.symm.trans h3) (by decide))]; rfl
      rw [this] at h0; exact absurd h0 (by decide)
theorem tEnd_adv {t : Nat → Nat} {N r : Nat} (hr : r ≤ N) (h : mOk t N r = true) : True := trivial
/-- parts within their bounds -/
def inB (f : Nat → Int32) : Prop := ∀ k, heldc (f k) = f k
theorem heldc_in (x : Int32) : heldc (heldc x) = heldc x := by
  rw [← bnd_heldc, ← bnd_heldc]
  unfold bnd
  by_cases h1 : x < -999
  · rw [if_pos h1]; decide
  · rw [if_neg h1]
    by_cases h2 : (999 : Int32) < x
    · rw [if_pos h2]; decide
    · rw [if_neg h2, if_neg h1, if_neg h2]
theorem inB_0 : inB (fun _ => 0) := fun _ => show heldc 0 = 0 by decide
theorem inB_up {f : Nat → Int32} (h : inB f) (k : Nat) (x : Int32) : inB (upT f k x) := by
  intro j
  unfold upT
  split
  · exact heldc_in _
  · exact h j
theorem upT_0 {f : Nat → Int32} (h : inB f) (k : Nat) : upT f k 0 = f := by
  funext j
  unfold upT
  split
  · rename_i e; rw [e, Int32.add_zero]; exact h k
  · rfl
def toldIs (I : xI) (A : Nat) (f g : Nat → Int32) : Prop := ∀ k, k < 10 → I (A + 14) (2 * k) = f k ∧ I (A + 14) (2 * k + 1) = g k
def addI (I : xI) (A c : Nat) (mi v : Nat) : xI := xup I (A + 14) c (bnd (if mi = 1 then I (A + 14) c - nI v else I (A + 14) c + nI v))
theorem told_add {I : xI} {A k im mi v : Nat} {f g : Nat → Int32} {sgn : Int32} (h : toldIs I A f g) (hf : inB f) (hg : inB g) (hk : k < 10) (him : im < 2) (hs : sgn = if mi = 1 then -(nI v) else nI v) :
    toldIs (addI I A (2 * k + im) mi v) A (upT f k (if im = 1 then 0 else sgn)) (upT g k (if im = 1 then sgn else 0)) := by
  have e : ∀ x : Int32, (if mi = 1 then x - nI v else x + nI v) = x + sgn := by
    intro x; rw [hs]
    split
    · exact Int32.sub_eq_add_neg _ _
    · rfl
  intro j hj
  unfold addI
  rw [e, bnd_heldc]
  rcases (show im = 0 ∨ im = 1 by omega) with rfl | rfl
  · rw [if_neg (by decide), if_neg (by decide), upT_0 hg]
    simp only [Nat.add_zero]
    by_cases hjk : j = k
    · subst hjk
      exact ⟨by rw [xup_at, if_pos rfl, (h j hj).1]; simp [upT], by rw [xup_at, if_neg (by omega)]; exact (h j hj).2⟩
    · exact ⟨by rw [xup_at, if_neg (by omega), (h j hj).1]; simp [upT, hjk], by rw [xup_at, if_neg (by omega)]; exact (h j hj).2⟩
  · rw [if_pos rfl, if_pos rfl, upT_0 hf]
    by_cases hjk : j = k
    · subst hjk
      exact ⟨by rw [xup_at, if_neg (by omega)]; exact (h j hj).1, by rw [xup_at, if_pos rfl, (h j hj).2]; simp [upT]⟩
    · exact ⟨by rw [xup_at, if_neg (by omega)]; exact (h j hj).1, by rw [xup_at, if_neg (by omega), (h j hj).2]; simp [upT, hjk]⟩
theorem dX12_adds_0 : decode cX12_adds 0 = .ok (.iconst 0, 1) := by decide +kernel
theorem dX12_adds_1 : decode cX12_adds 1 = .ok (.aload_n 0, 1) := by decide +kernel
theorem dX12_adds_2 : decode cX12_adds 2 = .ok (.getfield 253, 3) := by decide +kernel
theorem dX12_adds_5 : decode cX12_adds 5 = .ok (.aload_n 0, 1) := by decide +kernel
theorem dX12_adds_6 : decode cX12_adds 6 = .ok (.getfield 256, 3) := by decide +kernel
theorem dX12_adds_9 : decode cX12_adds 9 = .ok (.invokestatic 60, 3) := by decide +kernel
theorem dX12_adds_12 : decode cX12_adds 12 = .ok (.aload_n 0, 1) := by decide +kernel
theorem dX12_adds_13 : decode cX12_adds 13 = .ok (.getfield 265, 3) := by decide +kernel
theorem dX12_adds_16 : decode cX12_adds 16 = .ok (.ifCond .eq 7, 3) := by decide +kernel
theorem dX12_adds_19 : decode cX12_adds 19 = .ok (.iconst 1, 1) := by decide +kernel
theorem dX12_adds_20 : decode cX12_adds 20 = .ok (.goto 4, 3) := by decide +kernel
theorem dX12_adds_23 : decode cX12_adds 23 = .ok (.iconst 0, 1) := by decide +kernel
theorem dX12_adds_24 : decode cX12_adds 24 = .ok (.iadd, 1) := by decide +kernel
theorem dX12_adds_25 : decode cX12_adds 25 = .ok (.istore_n 2, 1) := by decide +kernel
theorem dX12_adds_26 : decode cX12_adds 26 = .ok (.aload_n 0, 1) := by decide +kernel
theorem dX12_adds_27 : decode cX12_adds 27 = .ok (.getfield 57, 3) := by decide +kernel
theorem dX12_adds_30 : decode cX12_adds 30 = .ok (.iload_n 2, 1) := by decide +kernel
theorem dX12_adds_31 : decode cX12_adds 31 = .ok (.iload_n 1, 1) := by decide +kernel
theorem dX12_adds_32 : decode cX12_adds 32 = .ok (.ifCond .eq 17, 3) := by decide +kernel
theorem dX12_adds_35 : decode cX12_adds 35 = .ok (.aload_n 0, 1) := by decide +kernel
theorem dX12_adds_36 : decode cX12_adds 36 = .ok (.getfield 57, 3) := by decide +kernel
theorem dX12_adds_39 : decode cX12_adds 39 = .ok (.iload_n 2, 1) := by decide +kernel
theorem dX12_adds_40 : decode cX12_adds 40 = .ok (.iaload, 1) := by decide +kernel
theorem dX12_adds_41 : decode cX12_adds 41 = .ok (.aload_n 0, 1) := by decide +kernel
theorem dX12_adds_42 : decode cX12_adds 42 = .ok (.getfield 259, 3) := by decide +kernel
theorem dX12_adds_45 : decode cX12_adds 45 = .ok (.isub, 1) := by decide +kernel
theorem dX12_adds_46 : decode cX12_adds 46 = .ok (.goto 14, 3) := by decide +kernel
theorem dX12_adds_49 : decode cX12_adds 49 = .ok (.aload_n 0, 1) := by decide +kernel
theorem dX12_adds_50 : decode cX12_adds 50 = .ok (.getfield 57, 3) := by decide +kernel
theorem dX12_adds_53 : decode cX12_adds 53 = .ok (.iload_n 2, 1) := by decide +kernel
theorem dX12_adds_54 : decode cX12_adds 54 = .ok (.iaload, 1) := by decide +kernel
theorem dX12_adds_55 : decode cX12_adds 55 = .ok (.aload_n 0, 1) := by decide +kernel
theorem dX12_adds_56 : decode cX12_adds 56 = .ok (.getfield 259, 3) := by decide +kernel
theorem dX12_adds_59 : decode cX12_adds 59 = .ok (.iadd, 1) := by decide +kernel
theorem dX12_adds_60 : decode cX12_adds 60 = .ok (.invokestatic 278, 3) := by decide +kernel
theorem dX12_adds_63 : decode cX12_adds 63 = .ok (.iastore, 1) := by decide +kernel
theorem dX12_adds_64 : decode cX12_adds 64 = .ok (.return_, 1) := by decide +kernel
set_option maxHeartbeats 1000000 in
set_option maxRecDepth 100000 in
theorem t_X12_adds (l : Launch) (D : xD) (z n : Nat) (G : xG) (I : xI) (L : xL) (A : Nat) (i : Nat) (j : Nat) (v : Nat) (im : Nat) (mi : Nat) (hM : shMo G A) (zA : z ≤ A) (h19 : I A 19 = nI i) (h20 : I A 20 = nI j) (h21 : I A 21 = nI v) (h22 : I A 22 = nI im) (hij : i + j ≤ 3) (him : im < 2) (hmi : mi < 2) : xM0 l D z yX12_adds cX12_adds 3 none 1 23 [.ref A, .int (nI mi)] n G I L (xE none (addI I A (2 * tm i j + im) mi v) L) := by
  refine xM.of (by decide) (Nat.le_of_ble_eq_true rfl) (fun p e s m args below meth c C hnm hsz => ?_)
  refine x_lv [(0, .ref A), (1, .int (nI mi))] rfl ?_
  have htm := tm_lt hij
  refine x_iconst 0 C (v := 0) dX12_adds_0 rfl ?_
  refine x_aload_n 1 C dX12_adds_1 rfl 0 rfl ?_
  refine x_geti 2 C dX12_adds_2 ff_X12_253 hM.1 ?_
  refine x_int (nI i) h19 ?_
  refine x_aload_n 5 C dX12_adds_5 rfl 0 rfl ?_
  refine x_geti 6 C dX12_adds_6 ff_X12_256 hM.1 ?_
  refine x_int (nI j) h20 ?_
  refine x_callSe 9 C dX12_adds_9 (As := [.int 0, .int (nI i), .int (nI j)]) (rest := []) [.int (nI (20 * 0 + 2 * tm i j))] (t_X12_termOf l D z n G I L 0 i j (by first | omega | assumption | decide) (by first | omega | assumption | decide)) mt_X12_termOf km_X12_60 kt_X12_termOf rfl rfl (Nat.le_of_ble_eq_true rfl) ⟨⟨by decide, by decide⟩, by decide, by decide⟩ (fun I1 L2 eI1 eL2 => ?_)
  replace eI1 := eI1.symm; subst eI1
  replace eL2 := eL2.symm; subst eL2
  refine x_aload_n 12 C dX12_adds_12 rfl 0 rfl ?_
  refine x_getz 13 C dX12_adds_13 ff_X12_265 hM.1 ?_
  refine x_int (nI im) h22 ?_
  refine x_if_eq 16 C 23 dX12_adds_16 (by decide) (fun c3 => ?_) (fun c3 => ?_)
  · skip
    have c3n : im = 0 := (nI_eq (a := im) (b := 0) (by omega) (by omega)).mp c3
    refine x_iconst 23 C (v := 0) dX12_adds_23 rfl ?_
    refine x_iadd 24 C dX12_adds_24 ?_
    refine x_int (nI (20 * 0 + 2 * tm i j + 0)) (nI_add (20 * 0 + 2 * tm i j) 0) ?_
    refine x_istore_n 25 C [(2, .int (nI (20 * 0 + 2 * tm i j + 0))), (0, .ref A), (1, .int (nI mi))] dX12_adds_25 rfl (by decide) rfl ?_
    refine x_aload_n 26 C dX12_adds_26 rfl 1 rfl ?_
    refine x_getr 27 C (b := A + 14) dX12_adds_27 ff_X12_57 rfl hM.1 rfl ?_
    refine x_iload_n 30 C dX12_adds_30 rfl 0 rfl ?_
    refine x_iload_n 31 C dX12_adds_31 rfl 2 rfl ?_
    refine x_if_eq 32 C 49 dX12_adds_32 (by decide) (fun c4 => ?_) (fun c4 => ?_)
    · skip
      have c4n : mi = 0 := (nI_eq (a := mi) (b := 0) (by omega) (by omega)).mp c4
      refine x_aload_n 49 C dX12_adds_49 rfl 1 rfl ?_
      refine x_getr 50 C (b := A + 14) dX12_adds_50 ff_X12_57 rfl hM.1 rfl ?_
      refine x_iload_n 53 C dX12_adds_53 rfl 0 rfl ?_
      refine x_iald 54 C (j := (20 * 0 + 2 * tm i j + 0)) dX12_adds_54 hM.2.2.2.2.2.2.2.2.2.2.2.2.2.2 (xIx_nI (by omega) (by decide)) ?_
      refine x_aload_n 55 C dX12_adds_55 rfl 1 rfl ?_
      refine x_geti 56 C dX12_adds_56 ff_X12_259 hM.1 ?_
      refine x_int (nI v) h21 ?_
      refine x_iadd 59 C dX12_adds_59 ?_
      refine x_callSe 60 C dX12_adds_60 (As := [.int ((I (A + 14) (20 * 0 + 2 * tm i j + 0)) + (nI v))]) (rest := [.int (nI (20 * 0 + 2 * tm i j + 0)), .ref (A + 14)]) [.int (bnd ((I (A + 14) (20 * 0 + 2 * tm i j + 0)) + (nI v))), .int (nI (20 * 0 + 2 * tm i j + 0)), .ref (A + 14)] (t_X12_bounded l D z n G I L ((I (A + 14) (20 * 0 + 2 * tm i j + 0)) + (nI v)) ) mt_X12_bounded km_X12_278 kt_X12_bounded rfl rfl (Nat.le_of_ble_eq_true rfl) ⟨⟨by decide, by decide⟩, by decide, by decide⟩ (fun I5 L6 eI5 eL6 => ?_)
      replace eI5 := eI5.symm; subst eI5
      replace eL6 := eL6.symm; subst eL6
      refine x_iast 63 C (j := (20 * 0 + 2 * tm i j + 0)) dX12_adds_63 hM.2.2.2.2.2.2.2.2.2.2.2.2.2.2 (by omega) (xIx_nI (by omega) (by decide)) (fun I7 eI7 => ?_)
      refine x_vret 64 C dX12_adds_64 rfl (Nat.le_refl _) (xN.intro ?_)
      refine ⟨rfl, ?_, rfl⟩
      rw [eI7]; unfold addI
      first | rw [show 20 * 0 + 2 * tm i j + 1 = 2 * tm i j + im by omega] | rw [show 20 * 0 + 2 * tm i j + 0 = 2 * tm i j + im by omega]
      first | rw [if_pos (show mi = 1 by omega)] | rw [if_neg (show ¬ mi = 1 by omega)]
    · skip
      have c4n : ¬ (mi = 0) := fun h => c4 ((nI_eq (a := mi) (b := 0) (by omega) (by omega)).mpr h)
      refine x_aload_n 35 C dX12_adds_35 rfl 1 rfl ?_
      refine x_getr 36 C (b := A + 14) dX12_adds_36 ff_X12_57 rfl hM.1 rfl ?_
      refine x_iload_n 39 C dX12_adds_39 rfl 0 rfl ?_
      refine x_iald 40 C (j := (20 * 0 + 2 * tm i j + 0)) dX12_adds_40 hM.2.2.2.2.2.2.2.2.2.2.2.2.2.2 (xIx_nI (by omega) (by decide)) ?_
      refine x_aload_n 41 C dX12_adds_41 rfl 1 rfl ?_
      refine x_geti 42 C dX12_adds_42 ff_X12_259 hM.1 ?_
      refine x_int (nI v) h21 ?_
      refine x_isub 45 C dX12_adds_45 ?_
      refine x_goto 46 C 60 dX12_adds_46 (by decide) ?_
      refine x_callSe 60 C dX12_adds_60 (As := [.int ((I (A + 14) (20 * 0 + 2 * tm i j + 0)) - (nI v))]) (rest := [.int (nI (20 * 0 + 2 * tm i j + 0)), .ref (A + 14)]) [.int (bnd ((I (A + 14) (20 * 0 + 2 * tm i j + 0)) - (nI v))), .int (nI (20 * 0 + 2 * tm i j + 0)), .ref (A + 14)] (t_X12_bounded l D z n G I L ((I (A + 14) (20 * 0 + 2 * tm i j + 0)) - (nI v)) ) mt_X12_bounded km_X12_278 kt_X12_bounded rfl rfl (Nat.le_of_ble_eq_true rfl) ⟨⟨by decide, by decide⟩, by decide, by decide⟩ (fun I8 L9 eI8 eL9 => ?_)
      replace eI8 := eI8.symm; subst eI8
      replace eL9 := eL9.symm; subst eL9
      refine x_iast 63 C (j := (20 * 0 + 2 * tm i j + 0)) dX12_adds_63 hM.2.2.2.2.2.2.2.2.2.2.2.2.2.2 (by omega) (xIx_nI (by omega) (by decide)) (fun I10 eI10 => ?_)
      refine x_vret 64 C dX12_adds_64 rfl (Nat.le_refl _) (xN.intro ?_)
      refine ⟨rfl, ?_, rfl⟩
      rw [eI10]; unfold addI
      first | rw [show 20 * 0 + 2 * tm i j + 1 = 2 * tm i j + im by omega] | rw [show 20 * 0 + 2 * tm i j + 0 = 2 * tm i j + im by omega]
      first | rw [if_pos (show mi = 1 by omega)] | rw [if_neg (show ¬ mi = 1 by omega)]
  · skip
    have c3n : ¬ (im = 0) := fun h => c3 ((nI_eq (a := im) (b := 0) (by omega) (by omega)).mpr h)
    refine x_iconst 19 C (v := 1) dX12_adds_19 rfl ?_
    refine x_goto 20 C 24 dX12_adds_20 (by decide) ?_
    refine x_iadd 24 C dX12_adds_24 ?_
    refine x_int (nI (20 * 0 + 2 * tm i j + 1)) (nI_add (20 * 0 + 2 * tm i j) 1) ?_
    refine x_istore_n 25 C [(2, .int (nI (20 * 0 + 2 * tm i j + 1))), (0, .ref A), (1, .int (nI mi))] dX12_adds_25 rfl (by decide) rfl ?_
    refine x_aload_n 26 C dX12_adds_26 rfl 1 rfl ?_
    refine x_getr 27 C (b := A + 14) dX12_adds_27 ff_X12_57 rfl hM.1 rfl ?_
    refine x_iload_n 30 C dX12_adds_30 rfl 0 rfl ?_
    refine x_iload_n 31 C dX12_adds_31 rfl 2 rfl ?_
    refine x_if_eq 32 C 49 dX12_adds_32 (by decide) (fun c11 => ?_) (fun c11 => ?_)
    · skip
      have c11n : mi = 0 := (nI_eq (a := mi) (b := 0) (by omega) (by omega)).mp c11
      refine x_aload_n 49 C dX12_adds_49 rfl 1 rfl ?_
      refine x_getr 50 C (b := A + 14) dX12_adds_50 ff_X12_57 rfl hM.1 rfl ?_
      refine x_iload_n 53 C dX12_adds_53 rfl 0 rfl ?_
      refine x_iald 54 C (j := (20 * 0 + 2 * tm i j + 1)) dX12_adds_54 hM.2.2.2.2.2.2.2.2.2.2.2.2.2.2 (xIx_nI (by omega) (by decide)) ?_
      refine x_aload_n 55 C dX12_adds_55 rfl 1 rfl ?_
      refine x_geti 56 C dX12_adds_56 ff_X12_259 hM.1 ?_
      refine x_int (nI v) h21 ?_
      refine x_iadd 59 C dX12_adds_59 ?_
      refine x_callSe 60 C dX12_adds_60 (As := [.int ((I (A + 14) (20 * 0 + 2 * tm i j + 1)) + (nI v))]) (rest := [.int (nI (20 * 0 + 2 * tm i j + 1)), .ref (A + 14)]) [.int (bnd ((I (A + 14) (20 * 0 + 2 * tm i j + 1)) + (nI v))), .int (nI (20 * 0 + 2 * tm i j + 1)), .ref (A + 14)] (t_X12_bounded l D z n G I L ((I (A + 14) (20 * 0 + 2 * tm i j + 1)) + (nI v)) ) mt_X12_bounded km_X12_278 kt_X12_bounded rfl rfl (Nat.le_of_ble_eq_true rfl) ⟨⟨by decide, by decide⟩, by decide, by decide⟩ (fun I12 L13 eI12 eL13 => ?_)
      replace eI12 := eI12.symm; subst eI12
      replace eL13 := eL13.symm; subst eL13
      refine x_iast 63 C (j := (20 * 0 + 2 * tm i j + 1)) dX12_adds_63 hM.2.2.2.2.2.2.2.2.2.2.2.2.2.2 (by omega) (xIx_nI (by omega) (by decide)) (fun I14 eI14 => ?_)
      refine x_vret 64 C dX12_adds_64 rfl (Nat.le_refl _) (xN.intro ?_)
      refine ⟨rfl, ?_, rfl⟩
      rw [eI14]; unfold addI
      first | rw [show 20 * 0 + 2 * tm i j + 1 = 2 * tm i j + im by omega] | rw [show 20 * 0 + 2 * tm i j + 0 = 2 * tm i j + im by omega]
      first | rw [if_pos (show mi = 1 by omega)] | rw [if_neg (show ¬ mi = 1 by omega)]
    · skip
      have c11n : ¬ (mi = 0) := fun h => c11 ((nI_eq (a := mi) (b := 0) (by omega) (by omega)).mpr h)
      refine x_aload_n 35 C dX12_adds_35 rfl 1 rfl ?_
      refine x_getr 36 C (b := A + 14) dX12_adds_36 ff_X12_57 rfl hM.1 rfl ?_
      refine x_iload_n 39 C dX12_adds_39 rfl 0 rfl ?_
      refine x_iald 40 C (j := (20 * 0 + 2 * tm i j + 1)) dX12_adds_40 hM.2.2.2.2.2.2.2.2.2.2.2.2.2.2 (xIx_nI (by omega) (by decide)) ?_
      refine x_aload_n 41 C dX12_adds_41 rfl 1 rfl ?_
      refine x_geti 42 C dX12_adds_42 ff_X12_259 hM.1 ?_
      refine x_int (nI v) h21 ?_
      refine x_isub 45 C dX12_adds_45 ?_
      refine x_goto 46 C 60 dX12_adds_46 (by decide) ?_
      refine x_callSe 60 C dX12_adds_60 (As := [.int ((I (A + 14) (20 * 0 + 2 * tm i j + 1)) - (nI v))]) (rest := [.int (nI (20 * 0 + 2 * tm i j + 1)), .ref (A + 14)]) [.int (bnd ((I (A + 14) (20 * 0 + 2 * tm i j + 1)) - (nI v))), .int (nI (20 * 0 + 2 * tm i j + 1)), .ref (A + 14)] (t_X12_bounded l D z n G I L ((I (A + 14) (20 * 0 + 2 * tm i j + 1)) - (nI v)) ) mt_X12_bounded km_X12_278 kt_X12_bounded rfl rfl (Nat.le_of_ble_eq_true rfl) ⟨⟨by decide, by decide⟩, by decide, by decide⟩ (fun I15 L16 eI15 eL16 => ?_)
      replace eI15 := eI15.symm; subst eI15
      replace eL16 := eL16.symm; subst eL16
      refine x_iast 63 C (j := (20 * 0 + 2 * tm i j + 1)) dX12_adds_63 hM.2.2.2.2.2.2.2.2.2.2.2.2.2.2 (by omega) (xIx_nI (by omega) (by decide)) (fun I17 eI17 => ?_)
      refine x_vret 64 C dX12_adds_64 rfl (Nat.le_refl _) (xN.intro ?_)
      refine ⟨rfl, ?_, rfl⟩
      rw [eI17]; unfold addI
      first | rw [show 20 * 0 + 2 * tm i j + 1 = 2 * tm i j + im by omega] | rw [show 20 * 0 + 2 * tm i j + 0 = 2 * tm i j + im by omega]
      first | rw [if_pos (show mi = 1 by omega)] | rw [if_neg (show ¬ mi = 1 by omega)]
