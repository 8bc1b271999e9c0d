/-! PathTracker$EquationText at T: its signs in the row T + 1, its Equation at T + 2; length: place 2, reading place: place 3. The text as Nats -/
def rTx (T : Nat) : Nat → Option Nat := va_up (va_up rN 0 (some (T + 1))) 1 (some (T + 2))
def shX (G : xG) (T : Nat) : Prop := G T = some (2, 0, rTx T) ∧ G (T + 1) = some (20, 60, rN) ∧ shE G (T + 2)
def tx (I : xI) (T : Nat) (t : Nat → Nat) (N r : Nat) : Prop := (∀ j, j < N → I (T + 1) j = nI (t j)) ∧ I T 2 = nI N ∧ I T 3 = nI r
def txc (t : Nat → Nat) (N : Nat) : Prop := N ≤ 60 ∧ ∀ j, j < N → 33 ≤ t j ∧ t j ≤ 126
theorem tx_up {I : xI} {T N r : Nat} {t : Nat → Nat} (h : tx I T t N r) (r' : Nat) : tx (xup I T 3 (nI r')) T t N r' :=
  ⟨fun j hj => by rw [xup_row _ _ (by omega)]; exact h.1 j hj, by rw [xup_ne _ _ (by omega)]; exact h.2.1, xup_self _ _ _ _⟩
def sg (t : Nat → Nat) (N r : Nat) : Nat := if r < N then t r else 0
def dgt (x : Nat) : Bool := decide (48 ≤ x) && decide (x ≤ 57)
def unk (x : Nat) : Bool := decide (x = 120) || decide (x = 121)
theorem sg_in {t : Nat → Nat} {N r : Nat} (h : r < N) : sg t N r = t r := if_pos h
theorem sg_out {t : Nat → Nat} {N r : Nat} (h : ¬ r < N) : sg t N r = 0 := if_neg h
theorem sg_le {t : Nat → Nat} {N : Nat} (h : txc t N) (r : Nat) : sg t N r ≤ 126 := by
  unfold sg; split
  · exact (h.2 _ (by assumption)).2
  · omega
theorem sg_lt {t : Nat → Nat} {N r : Nat} (h : 0 < sg t N r) : r < N := by
  unfold sg at h; split at h
  · assumption
  · omega
theorem dgt_b {x : Nat} : dgt x = true ↔ 48 ≤ x ∧ x ≤ 57 := by simp [dgt]
theorem dgt_f {x : Nat} : dgt x = false ↔ x < 48 ∨ 57 < x := by
  cases h : dgt x with
  | true => have := dgt_b.mp h; simp; omega
  | false => simp; simp [dgt] at h; omega
theorem unk_b {x : Nat} : unk x = true ↔ x = 120 ∨ x = 121 := by simp [unk]
theorem unk_f {x : Nat} : unk x = false ↔ x ≠ 120 ∧ x ≠ 121 := by simp [unk]
/-- a number of at most so many digits: its value and where reading stands -/
def numb (t : Nat → Nat) (N : Nat) : Nat → Nat → Nat → Nat × Nat
  | 0, r, v => (v, r)
  | k + 1, r, v => if dgt (sg t N r) = true then numb t N k (r + 1) (v * 10 + sg t N r - 48) else (v, r)
theorem numb_r (t : Nat → Nat) (N : Nat) : ∀ k r v, r ≤ N → r ≤ (numb t N k r v).2 ∧ (numb t N k r v).2 ≤ N
  | 0, r, v, h => ⟨Nat.le_refl _, h⟩
  | k + 1, r, v, h => by
    simp only [numb]
    split
    · rename_i hd
      have h1 := dgt_b.mp hd
      have h2 := sg_lt (t := t) (N := N) (r := r) (by omega)
      have := numb_r t N k (r + 1) (v * 10 + sg t N r - 48) (by omega)
      exact ⟨by omega, this.2⟩
    · exact ⟨Nat.le_refl _, h⟩
/-- a factor behind factors of the degree d: its exponent (0: none can stand) and where reading stands -/
def fac (t : Nat → Nat) (N d r : Nat) : Nat × Nat := if 3 ≤ d then (0, r) else if sg t N (r + 1) = 94 then (if sg t N (r + 2) < 49 ∨ 51 < d + sg t N (r + 2) then (0, r + 2) else (sg t N (r + 2) - 48, r + 3)) else (1, r + 1)
theorem fac_ok {t : Nat → Nat} {N d r : Nat} (hr : r < N) : (d ≤ 3 → d + (fac t N d r).1 ≤ 3) ∧ r ≤ (fac t N d r).2 ∧ (fac t N d r).2 ≤ N ∧ ((fac t N d r).1 ≠ 0 → r < (fac t N d r).2) := by
  unfold fac
  by_cases h1 : 3 ≤ d
  · rw [if_pos h1]; refine ⟨fun h => by show d + 0 ≤ 3; omega, Nat.le_refl _, by show r ≤ N; omega, fun h => absurd rfl h⟩
  · rw [if_neg h1]
    by_cases h2 : sg t N (r + 1) = 94
    · have h3 := sg_lt (t := t) (N := N) (r := r + 1) (by omega)
      rw [if_pos h2]
      by_cases h4 : sg t N (r + 2) < 49 ∨ 51 < d + sg t N (r + 2)
      · rw [if_pos h4]; exact ⟨fun h => by show d + 0 ≤ 3; omega, by show r ≤ r + 2; omega, by show r + 2 ≤ N; omega, fun h => absurd rfl h⟩
      · have h5 := sg_lt (t := t) (N := N) (r := r + 2) (by omega)
        rw [if_neg h4]; exact ⟨fun h => by show d + (sg t N (r + 2) - 48) ≤ 3; omega, by show r ≤ r + 3; omega, by show r + 3 ≤ N; omega, fun _ => by show r < r + 3; omega⟩
    · rw [if_neg h2]; exact ⟨fun h => by show d + 1 ≤ 3; omega, by show r ≤ r + 1; omega, by show r + 1 ≤ N; omega, fun _ => by show r < r + 1; omega⟩
/-- the factors of a term: whether they stand, the powers, where reading stands, whether the term has begun -/
def facs (t : Nat → Nat) (N : Nat) : Nat → Nat → Nat → Nat → Nat → Bool × Nat × Nat × Nat × Nat
  | 0, i, j, r, b => (true, i, j, r, b)
  | k + 1, i, j, r, b => if unk (sg t N r) = true then (if (fac t N (i + j) r).1 = 0 then (false, i, j, (fac t N (i + j) r).2, b) else if sg t N r = 120 then facs t N k (i + (fac t N (i + j) r).1) j (fac t N (i + j) r).2 1 else facs t N k i (j + (fac t N (i + j) r).1) (fac t N (i + j) r).2 1) else (true, i, j, r, b)
/-- a term from the reading place r: number, imaginary, factors -/
def tNum (t : Nat → Nat) (N r : Nat) : Nat × Nat := if dgt (sg t N r) = true then numb t N 3 r 0 else (1, r)
def tIm (t : Nat → Nat) (N r : Nat) : Nat := if sg t N (tNum t N r).2 = 105 then 1 else 0
def tR2 (t : Nat → Nat) (N r : Nat) : Nat := (tNum t N r).2 + tIm t N r
def tB0 (t : Nat → Nat) (N r : Nat) : Nat := if sg t N (tNum t N r).2 = 105 then 1 else if dgt (sg t N r) = true then 1 else 0
def tFac (t : Nat → Nat) (N r : Nat) : Bool × Nat × Nat × Nat × Nat := facs t N 61 0 0 (tR2 t N r) (tB0 t N r)
def tOk (t : Nat → Nat) (N r : Nat) : Bool := (tFac t N r).1 && decide (¬ (tFac t N r).2.2.2.2 = 0)
def tEnd (t : Nat → Nat) (N r : Nat) : Nat := (tFac t N r).2.2.2.1
def tTm (t : Nat → Nat) (N r : Nat) : Nat := tm (tFac t N r).2.1 (tFac t N r).2.2.1
def tSg (t : Nat → Nat) (N r mi : Nat) : Int32 := if mi = 1 then -(nI (tNum t N r).1) else nI (tNum t N r).1
def tRe (t : Nat → Nat) (N r mi : Nat) : Int32 := if tIm t N r = 1 then 0 else tSg t N r mi
def tIi (t : Nat → Nat) (N r mi : Nat) : Int32 := if tIm t N r = 1 then tSg t N r mi else 0
def upT (f : Nat → Int32) (k : Nat) (x : Int32) : Nat → Int32 := fun j => if j = k then heldc (f k + x) else f j
theorem facs_ok {t : Nat → Nat} {N : Nat} : ∀ k i j r b, r ≤ N → i + j ≤ 3 → r ≤ (facs t N k i j r b).2.2.2.1 ∧ (facs t N k i j r b).2.2.2.1 ≤ N ∧ (facs t N k i j r b).2.1 + (facs t N k i j r b).2.2.1 ≤ 3
  | 0, i, j, r, b, h1, h2 => ⟨Nat.le_refl _, h1, h2⟩
  | k + 1, i, j, r, b, h1, h2 => by
    simp only [facs]
    by_cases hu : unk (sg t N r) = true
    · have hlt : r < N := sg_lt (t := t) (by have := unk_b.mp hu; omega)
      have hf := fac_ok (t := t) (d := i + j) hlt
      have hf1 := hf.1 h2
      rw [if_pos hu]
      by_cases h0 : (fac t N (i + j) r).1 = 0
      · rw [if_pos h0]; exact ⟨hf.2.1, hf.2.2.1, h2⟩
      · rw [if_neg h0]
        by_cases hx : sg t N r = 120
        · rw [if_pos hx]
          have := facs_ok (t := t) (N := N) k (i + (fac t N (i + j) r).1) j (fac t N (i + j) r).2 1 hf.2.2.1 (by omega)
          exact ⟨by omega, this.2⟩
        · rw [if_neg hx]
          have := facs_ok (t := t) (N := N) k i (j + (fac t N (i + j) r).1) (fac t N (i + j) r).2 1 hf.2.2.1 (by omega)
          exact ⟨by omega, this.2⟩
    · rw [if_neg hu]; exact ⟨Nat.le_refl _, h1, h2⟩
theorem tNum_r {t : Nat → Nat} {N r : Nat} (h : r ≤ N) : r ≤ (tNum t N r).2 ∧ (tNum t N r).2 ≤ N := by
  unfold tNum; split
  · exact numb_r t N 3 r 0 h
  · exact ⟨Nat.le_refl _, h⟩
theorem tR2_r {t : Nat → Nat} {N r : Nat} (h : r ≤ N) : r ≤ tR2 t N r ∧ tR2 t N r ≤ N := by
  have h1 := tNum_r (t := t) h
  unfold tR2 tIm
  by_cases hi : sg t N (tNum t N r).2 = 105
  · have := sg_lt (t := t) (N := N) (r := (tNum t N r).2) (by omega)
    rw [if_pos hi]; omega
  · rw [if_neg hi]; omega
theorem tEnd_r {t : Nat → Nat} {N r : Nat} (h : r ≤ N) : r ≤ tEnd t N r ∧ tEnd t N r ≤ N ∧ (tFac t N r).2.1 + (tFac t N r).2.2.1 ≤ 3 := by
  have h1 := tR2_r (t := t) h
  have h2 := facs_ok (t := t) (N := N) 61 0 0 (tR2 t N r) (tB0 t N r) h1.2 (by omega)
  exact ⟨Nat.le_trans h1.1 h2.1, h2.2.1, h2.2.2⟩
/-- the terms: whether the text has no fault, where reading stopped, the parts of the coefficients -/
def rds (t : Nat → Nat) (N : Nat) : Nat → Nat → Nat → (Nat → Int32) → (Nat → Int32) → Bool × Nat × (Nat → Int32) × (Nat → Int32)
  | 0, r, _, f, g => (false, r, f, g)
  | k + 1, r, mi, f, g => if tOk t N r = true then (if N ≤ tEnd t N r then (true, tEnd t N r, upT f (tTm t N r) (tRe t N r mi), upT g (tTm t N r) (tIi t N r mi)) else if sg t N (tEnd t N r) = 43 then rds t N k (tEnd t N r + 1) 0 (upT f (tTm t N r) (tRe t N r mi)) (upT g (tTm t N r) (tIi t N r mi)) else if sg t N (tEnd t N r) = 45 then rds t N k (tEnd t N r + 1) 1 (upT f (tTm t N r) (tRe t N r mi)) (upT g (tTm t N r) (tIi t N r mi)) else (false, tEnd t N r, upT f (tTm t N r) (tRe t N r mi), upT g (tTm t N r) (tIi t N r mi))) else (false, tEnd t N r, f, g)
def rdAll (t : Nat → Nat) (N : Nat) : Bool × Nat × (Nat → Int32) × (Nat → Int32) := if sg t N 0 = 45 then rds t N 61 1 1 (fun _ => 0) (fun _ => 0) else rds t N 61 0 0 (fun _ => 0) (fun _ => 0)
theorem addT_text (I : xI) (T k r r' : Nat) (f g : Nat → Int32) (x y : Int32) (hk : k < 10) : addT (xup (xup (eqFill I (T + 2) 10 f g) T 3 (nI r)) T 3 (nI r')) (T + 2) k x y = xup (eqFill I (T + 2) 10 (upT f k x) (upT g k y)) T 3 (nI r') := by
  funext a j
  simp only [addT, eqFill, xup, upT]
  by_cases h0 : a = T
  · subst h0
    have e1 : ¬ a = a + 2 + 1 := by omega
    have e2 : ¬ a = a + 2 + 2 := by omega
    by_cases h3 : j = 3 <;> simp [e1, e2, h3]
  · by_cases h1 : a = T + 2 + 1
    · subst h1
      have e1 : ¬ T + 2 + 1 = T := by omega
      by_cases h3 : j = k
      · subst h3; simp [e1, hk]
      · simp [e1, h3]
    · by_cases h2 : a = T + 2 + 2
      · subst h2
        have e1 : ¬ T + 2 + 2 = T := by omega
        by_cases h3 : j = k
        · subst h3; simp [e1, hk]
        · simp [e1, h3]
      · simp [h1, h2, h0]
theorem tx_fill {I : xI} {T N r : Nat} {t : Nat → Nat} (h : tx I T t N r) (f g : Nat → Int32) : tx (eqFill I (T + 2) 10 f g) T t N r :=
  ⟨fun j hj => by rw [eqFill_ne _ _ _ _ _ (by omega) (by omega)]; exact h.1 j hj, by rw [eqFill_ne _ _ _ _ _ (by omega) (by omega)]; exact h.2.1, by rw [eqFill_ne _ _ _ _ _ (by omega) (by omega)]; exact h.2.2⟩
theorem tx_self {I : xI} {T N r : Nat} {t : Nat → Nat} (h : tx I T t N r) : I = xup I T 3 (nI r) := by
  funext a j
  by_cases hq : a = T ∧ j = 3
  · rw [hq.1, hq.2, xup_self]; exact h.2.2
  · rw [xup_ne _ _ hq]
theorem xup2 {α : Type} (f : Nat → Nat → α) (a k : Nat) (v w : α) : xup (xup f a k v) a k w = xup f a k w := by
  funext x y; simp only [xup]; split <;> rfl
theorem nI_lt1 {s : Nat} (h : s < 49) : nI s - 48 < 1 := by
  have e : (48 : Int32) = nI 48 := rfl
  rw [Int32.lt_iff_toInt_lt, Int32.toInt_sub, nI_toInt (by omega)]
  have e2 : (48 : Int32).toInt = 48 := by decide
  have e3 : (1 : Int32).toInt = 1 := by decide
  rw [e2, e3, Int.bmod_eq_of_le (by omega) (by omega)]
  omega
theorem bI_nI (b : Bool) : bI b = nI (if b = true then 1 else 0) := by cases b <;> rfl
theorem dX2_length_0 : decode cX2_length 0 = .ok (.aload_n 0, 1) := by decide +kernel
theorem dX2_length_1 : decode cX2_length 1 = .ok (.getfield 20, 3) := by decide +kernel
theorem dX2_length_4 : decode cX2_length 4 = .ok (.ireturn, 1) := by decide +kernel
set_option maxHeartbeats 1000000 in
set_option maxRecDepth 100000 in
theorem t_X2_length (l : Launch) (D : xD) (z n : Nat) (G : xG) (I : xI) (L : xL) (T : Nat) (hX : shX G T) : xM0 l D z yX2_length cX2_length 1 (some .int) 0 0 [.ref T] n G I L (xE (some (.int (I T 2))) I L) := by
  refine xM.of (by decide) (Nat.le_of_ble_eq_true rfl) (fun p e s m args below meth c C hnm hsz => ?_)
  refine x_lv [(0, .ref T)] rfl ?_
  refine x_aload_n 0 C dX2_length_0 rfl 0 rfl ?_
  refine x_geti 1 C dX2_length_1 ff_X2_20 hX.1 ?_
  refine x_iret 4 C dX2_length_4 rfl rfl (Nat.le_refl _) (xN.intro ?_)
  exact ⟨rfl, rfl, rfl⟩
theorem dX2_readingPlace_0 : decode cX2_readingPlace 0 = .ok (.aload_n 0, 1) := by decide +kernel
theorem dX2_readingPlace_1 : decode cX2_readingPlace 1 = .ok (.getfield 24, 3) := by decide +kernel
theorem dX2_readingPlace_4 : decode cX2_readingPlace 4 = .ok (.ireturn, 1) := by decide +kernel
set_option maxHeartbeats 1000000 in
set_option maxRecDepth 100000 in
theorem t_X2_readingPlace (l : Launch) (D : xD) (z n : Nat) (G : xG) (I : xI) (L : xL) (T : Nat) (hX : shX G T) : xM0 l D z yX2_readingPlace cX2_readingPlace 1 (some .int) 0 0 [.ref T] n G I L (xE (some (.int (I T 3))) I L) := by
  refine xM.of (by decide) (Nat.le_of_ble_eq_true rfl) (fun p e s m args below meth c C hnm hsz => ?_)
  refine x_lv [(0, .ref T)] rfl ?_
  refine x_aload_n 0 C dX2_readingPlace_0 rfl 0 rfl ?_
  refine x_geti 1 C dX2_readingPlace_1 ff_X2_24 hX.1 ?_
  refine x_iret 4 C dX2_readingPlace_4 rfl rfl (Nat.le_refl _) (xN.intro ?_)
  exact ⟨rfl, rfl, rfl⟩
theorem dX2_readEquation_0 : decode cX2_readEquation 0 = .ok (.aload_n 0, 1) := by decide +kernel
theorem dX2_readEquation_1 : decode cX2_readEquation 1 = .ok (.getfield 16, 3) := by decide +kernel
theorem dX2_readEquation_4 : decode cX2_readEquation 4 = .ok (.areturn, 1) := by decide +kernel
set_option maxHeartbeats 1000000 in
set_option maxRecDepth 100000 in
theorem t_X2_readEquation (l : Launch) (D : xD) (z n : Nat) (G : xG) (I : xI) (L : xL) (T : Nat) (hX : shX G T) : xM0 l D z yX2_readEquation cX2_readEquation 1 (some (.object "PathTracker$Equation")) 0 0 [.ref T] n G I L (xE (some (.ref (T + 2))) I L) := by
  refine xM.of (by decide) (Nat.le_of_ble_eq_true rfl) (fun p e s m args below meth c C hnm hsz => ?_)
  refine x_lv [(0, .ref T)] rfl ?_
  refine x_aload_n 0 C dX2_readEquation_0 rfl 0 rfl ?_
  refine x_getr 1 C (b := T + 2) dX2_readEquation_1 ff_X2_16 rfl hX.1 rfl ?_
  refine x_aret 4 C dX2_readEquation_4 rfl (Or.inl ⟨_, rfl⟩) (Nat.le_refl _) (xN.intro ?_)
  exact ⟨rfl, rfl, rfl⟩
theorem dX2_empty_0 : decode cX2_empty 0 = .ok (.aload_n 0, 1) := by decide +kernel
theorem dX2_empty_1 : decode cX2_empty 1 = .ok (.iconst 0, 1) := by decide +kernel
theorem dX2_empty_2 : decode cX2_empty 2 = .ok (.putfield 20, 3) := by decide +kernel
theorem dX2_empty_5 : decode cX2_empty 5 = .ok (.return_, 1) := by decide +kernel
set_option maxHeartbeats 1000000 in
set_option maxRecDepth 100000 in
theorem t_X2_empty (l : Launch) (D : xD) (z n : Nat) (G : xG) (I : xI) (L : xL) (T : Nat) (hX : shX G T) (zT : z ≤ T) : xM0 l D z yX2_empty cX2_empty 1 none 0 0 [.ref T] n G I L (xE none (xup I T 2 0) L) := by
  refine xM.of (by decide) (Nat.le_of_ble_eq_true rfl) (fun p e s m args below meth c C hnm hsz => ?_)
  refine x_lv [(0, .ref T)] rfl ?_
  refine x_aload_n 0 C dX2_empty_0 rfl 0 rfl ?_
  refine x_iconst 1 C (v := 0) dX2_empty_1 rfl ?_
  refine x_puti 2 C dX2_empty_2 ff_X2_20 rfl hX.1 (by omega) (fun I1 eI1 => ?_)
  refine x_vret 5 C dX2_empty_5 rfl (Nat.le_refl _) (xN.intro ?_)
  subst eI1
  exact ⟨rfl, rfl, rfl⟩
theorem dX2_append_0 : decode cX2_append 0 = .ok (.aload_n 0, 1) := by decide +kernel
theorem dX2_append_1 : decode cX2_append 1 = .ok (.getfield 20, 3) := by decide +kernel
theorem dX2_append_4 : decode cX2_append 4 = .ok (.ifCond .lt 12, 3) := by decide +kernel
theorem dX2_append_7 : decode cX2_append 7 = .ok (.aload_n 0, 1) := by decide +kernel
theorem dX2_append_8 : decode cX2_append 8 = .ok (.getfield 20, 3) := by decide +kernel
theorem dX2_append_11 : decode cX2_append 11 = .ok (.bipush 60, 2) := by decide +kernel
theorem dX2_append_13 : decode cX2_append 13 = .ok (.if_icmp .lt 5, 3) := by decide +kernel
theorem dX2_append_16 : decode cX2_append 16 = .ok (.iconst 0, 1) := by decide +kernel
theorem dX2_append_17 : decode cX2_append 17 = .ok (.ireturn, 1) := by decide +kernel
theorem dX2_append_18 : decode cX2_append 18 = .ok (.aload_n 0, 1) := by decide +kernel
theorem dX2_append_19 : decode cX2_append 19 = .ok (.getfield 9, 3) := by decide +kernel
theorem dX2_append_22 : decode cX2_append 22 = .ok (.aload_n 0, 1) := by decide +kernel
theorem dX2_append_23 : decode cX2_append 23 = .ok (.getfield 20, 3) := by decide +kernel
theorem dX2_append_26 : decode cX2_append 26 = .ok (.iload_n 1, 1) := by decide +kernel
theorem dX2_append_27 : decode cX2_append 27 = .ok (.iastore, 1) := by decide +kernel
theorem dX2_append_28 : decode cX2_append 28 = .ok (.aload_n 0, 1) := by decide +kernel
theorem dX2_append_29 : decode cX2_append 29 = .ok (.dup, 1) := by decide +kernel
theorem dX2_append_30 : decode cX2_append 30 = .ok (.getfield 20, 3) := by decide +kernel
theorem dX2_append_33 : decode cX2_append 33 = .ok (.iconst 1, 1) := by decide +kernel
theorem dX2_append_34 : decode cX2_append 34 = .ok (.iadd, 1) := by decide +kernel
theorem dX2_append_35 : decode cX2_append 35 = .ok (.putfield 20, 3) := by decide +kernel
theorem dX2_append_38 : decode cX2_append 38 = .ok (.iconst 1, 1) := by decide +kernel
theorem dX2_append_39 : decode cX2_append 39 = .ok (.ireturn, 1) := by decide +kernel
set_option maxHeartbeats 1000000 in
set_option maxRecDepth 100000 in
theorem t_X2_append (l : Launch) (D : xD) (z n : Nat) (G : xG) (I : xI) (L : xL) (T : Nat) (x : Int32) (N : Nat) (hX : shX G T) (zT : z ≤ T) (hN : I T 2 = nI N) (hN6 : N ≤ 60) : xM0 l D z yX2_append cX2_append 2 (some .boolean) 0 0 [.ref T, .int x] n G I L (xE (some (.int (if N < 60 then 1 else 0))) (if N < 60 then xup (xup I (T + 1) N x) T 2 (nI (N + 1)) else I) L) := by
  refine xM.of (by decide) (Nat.le_of_ble_eq_true rfl) (fun p e s m args below meth c C hnm hsz => ?_)
  refine x_lv [(0, .ref T), (1, .int x)] rfl ?_
  refine x_aload_n 0 C dX2_append_0 rfl 0 rfl ?_
  refine x_geti 1 C dX2_append_1 ff_X2_20 hX.1 ?_
  refine x_int (nI N) hN ?_
  refine x_if_lt 4 C 16 dX2_append_4 (by decide) (fun c1 => absurd c1 (nI_pos (n := N) (by omega))) (fun _ => ?_)
  refine x_aload_n 7 C dX2_append_7 rfl 0 rfl ?_
  refine x_geti 8 C dX2_append_8 ff_X2_20 hX.1 ?_
  refine x_int (nI N) hN ?_
  refine x_bipush 11 C (v := 60) dX2_append_11 rfl ?_
  refine x_icmp_lt 13 C 18 dX2_append_13 (by decide) (fun c2 => ?_) (fun c2 => ?_)
  · skip
    have c2n : N < 60 := (nI_ltI (a := N) (b := 60) (by omega) (by omega)).mp c2
    have c2m : ¬ (60 ≤ N) := by omega
    have c2o := Int32.not_le.mpr c2
    refine x_aload_n 18 C dX2_append_18 rfl 0 rfl ?_
    refine x_getr 19 C (b := T + 1) dX2_append_19 ff_X2_9 rfl hX.1 rfl ?_
    refine x_aload_n 22 C dX2_append_22 rfl 0 rfl ?_
    refine x_geti 23 C dX2_append_23 ff_X2_20 hX.1 ?_
    refine x_int (nI N) hN ?_
    refine x_iload_n 26 C dX2_append_26 rfl 1 rfl ?_
    refine x_iast 27 C (j := N) dX2_append_27 hX.2.1 (by omega) (xIx_nI (by omega) (by decide)) (fun I3 eI3 => ?_)
    refine x_aload_n 28 C dX2_append_28 rfl 0 rfl ?_
    refine x_dup 29 C dX2_append_29 rfl ?_
    refine x_geti 30 C dX2_append_30 ff_X2_20 hX.1 ?_
    refine x_int (nI N) (by rw [eI3, xup_row _ _ (by omega)]; exact hN) ?_
    refine x_iconst 33 C (v := 1) dX2_append_33 rfl ?_
    refine x_iadd 34 C dX2_append_34 ?_
    refine x_int (nI (N + 1)) (nI_add N 1) ?_
    refine x_puti 35 C dX2_append_35 ff_X2_20 rfl hX.1 (by omega) (fun I4 eI4 => ?_)
    refine x_iconst 38 C (v := 1) dX2_append_38 rfl ?_
    refine x_iret 39 C dX2_append_39 rfl rfl (Nat.le_refl _) (xN.intro ?_)
    subst eI3; subst eI4
    first | exact ⟨by rw [if_pos (by omega)], by rw [if_pos (by omega)], rfl⟩ | exact ⟨by rw [if_neg (by omega)], by rw [if_neg (by omega)], rfl⟩
  · skip
    have c2n : ¬ (N < 60) := fun h => c2 ((nI_ltI (a := N) (b := 60) (by omega) (by omega)).mpr h)
    have c2m : 60 ≤ N := by omega
    have c2o := Int32.not_lt.mp c2
    refine x_iconst 16 C (v := 0) dX2_append_16 rfl ?_
    refine x_iret 17 C dX2_append_17 rfl rfl (Nat.le_refl _) (xN.intro ?_)
    skip
    first | exact ⟨by rw [if_pos (by omega)], by rw [if_pos (by omega)], rfl⟩ | exact ⟨by rw [if_neg (by omega)], by rw [if_neg (by omega)], rfl⟩
theorem dX2_signHere_0 : decode cX2_signHere 0 = .ok (.aload_n 0, 1) := by decide +kernel
theorem dX2_signHere_1 : decode cX2_signHere 1 = .ok (.getfield 24, 3) := by decide +kernel
theorem dX2_signHere_4 : decode cX2_signHere 4 = .ok (.ifCond .lt 27, 3) := by decide +kernel
theorem dX2_signHere_7 : decode cX2_signHere 7 = .ok (.aload_n 0, 1) := by decide +kernel
theorem dX2_signHere_8 : decode cX2_signHere 8 = .ok (.getfield 24, 3) := by decide +kernel
theorem dX2_signHere_11 : decode cX2_signHere 11 = .ok (.aload_n 0, 1) := by decide +kernel
theorem dX2_signHere_12 : decode cX2_signHere 12 = .ok (.getfield 20, 3) := by decide +kernel
theorem dX2_signHere_15 : decode cX2_signHere 15 = .ok (.if_icmp .ge 16, 3) := by decide +kernel
theorem dX2_signHere_18 : decode cX2_signHere 18 = .ok (.aload_n 0, 1) := by decide +kernel
theorem dX2_signHere_19 : decode cX2_signHere 19 = .ok (.getfield 24, 3) := by decide +kernel
theorem dX2_signHere_22 : decode cX2_signHere 22 = .ok (.bipush 60, 2) := by decide +kernel
theorem dX2_signHere_24 : decode cX2_signHere 24 = .ok (.if_icmp .ge 7, 3) := by decide +kernel
theorem dX2_signHere_27 : decode cX2_signHere 27 = .ok (.iconst 1, 1) := by decide +kernel
theorem dX2_signHere_28 : decode cX2_signHere 28 = .ok (.goto 4, 3) := by decide +kernel
theorem dX2_signHere_31 : decode cX2_signHere 31 = .ok (.iconst 0, 1) := by decide +kernel
theorem dX2_signHere_32 : decode cX2_signHere 32 = .ok (.istore_n 1, 1) := by decide +kernel
theorem dX2_signHere_33 : decode cX2_signHere 33 = .ok (.iload_n 1, 1) := by decide +kernel
theorem dX2_signHere_34 : decode cX2_signHere 34 = .ok (.ifCond .eq 15, 3) := by decide +kernel
theorem dX2_signHere_37 : decode cX2_signHere 37 = .ok (.aload_n 0, 1) := by decide +kernel
theorem dX2_signHere_38 : decode cX2_signHere 38 = .ok (.getfield 9, 3) := by decide +kernel
theorem dX2_signHere_41 : decode cX2_signHere 41 = .ok (.aload_n 0, 1) := by decide +kernel
theorem dX2_signHere_42 : decode cX2_signHere 42 = .ok (.getfield 24, 3) := by decide +kernel
theorem dX2_signHere_45 : decode cX2_signHere 45 = .ok (.iaload, 1) := by decide +kernel
theorem dX2_signHere_46 : decode cX2_signHere 46 = .ok (.goto 4, 3) := by decide +kernel
theorem dX2_signHere_49 : decode cX2_signHere 49 = .ok (.iconst 0, 1) := by decide +kernel
theorem dX2_signHere_50 : decode cX2_signHere 50 = .ok (.ireturn, 1) := by decide +kernel
set_option maxHeartbeats 1000000 in
set_option maxRecDepth 100000 in
theorem t_X2_signHere (l : Launch) (D : xD) (z n : Nat) (G : xG) (I : xI) (L : xL) (T : Nat) (t : Nat → Nat) (N : Nat) (r : Nat) (hX : shX G T) (hT : tx I T t N r) (hC : txc t N) (hr : r ≤ N) : xM0 l D z yX2_signHere cX2_signHere 2 (some .int) 0 0 [.ref T] n G I L (xE (some (.int (nI (sg t N r)))) I L) := by
  refine xM.of (by decide) (Nat.le_of_ble_eq_true rfl) (fun p e s m args below meth c C hnm hsz => ?_)
  refine x_lv [(0, .ref T)] rfl ?_
  have hN6 := hC.1
  refine x_aload_n 0 C dX2_signHere_0 rfl 0 rfl ?_
  refine x_geti 1 C dX2_signHere_1 ff_X2_24 hX.1 ?_
  refine x_int (nI r) hT.2.2 ?_
  refine x_if_lt 4 C 31 dX2_signHere_4 (by decide) (fun c1 => absurd c1 (nI_pos (n := r) (by omega))) (fun _ => ?_)
  refine x_aload_n 7 C dX2_signHere_7 rfl 0 rfl ?_
  refine x_geti 8 C dX2_signHere_8 ff_X2_24 hX.1 ?_
  refine x_int (nI r) hT.2.2 ?_
  refine x_aload_n 11 C dX2_signHere_11 rfl 0 rfl ?_
  refine x_geti 12 C dX2_signHere_12 ff_X2_20 hX.1 ?_
  refine x_int (nI N) hT.2.1 ?_
  refine x_icmp_ge 15 C 31 dX2_signHere_15 (by decide) (fun c2 => ?_) (fun c2 => ?_)
  · skip
    have c2n : N ≤ r := (nI_leI (a := N) (b := r) (by omega) (by omega)).mp c2
    have c2m : ¬ (r < N) := by omega
    have c2o := Int32.not_lt.mpr c2
    refine x_iconst 31 C (v := 0) dX2_signHere_31 rfl ?_
    refine x_istore_n 32 C [(1, .int 0), (0, .ref T)] dX2_signHere_32 rfl (by decide) rfl ?_
    refine x_iload_n 33 C dX2_signHere_33 rfl 0 rfl ?_
    refine x_if_eq 34 C 49 dX2_signHere_34 (by decide) (fun _ => ?_) (fun c3 => absurd (by decide) c3)
    refine x_iconst 49 C (v := 0) dX2_signHere_49 rfl ?_
    refine x_iret 50 C dX2_signHere_50 rfl rfl (Nat.le_refl _) (xN.intro ?_)
    refine ⟨?_, rfl, rfl⟩
    first | exact congrArg (fun x => some (Value.int (nI x))) (sg_in (by omega)).symm | exact congrArg (fun x => some (Value.int (nI x))) (sg_out (by omega)).symm
  · skip
    have c2n : ¬ (N ≤ r) := fun h => c2 ((nI_leI (a := N) (b := r) (by omega) (by omega)).mpr h)
    have c2m : r < N := by omega
    have c2o := Int32.not_le.mp c2
    refine x_aload_n 18 C dX2_signHere_18 rfl 0 rfl ?_
    refine x_geti 19 C dX2_signHere_19 ff_X2_24 hX.1 ?_
    refine x_int (nI r) hT.2.2 ?_
    refine x_bipush 22 C (v := 60) dX2_signHere_22 rfl ?_
    refine x_icmp_ge 24 C 31 dX2_signHere_24 (by decide) (fun c4 => absurd c4 (fun h => absurd ((nI_leI (a := 60) (b := r) (by omega) (by omega)).mp h) (by omega))) (fun _ => ?_)
    refine x_iconst 27 C (v := 1) dX2_signHere_27 rfl ?_
    refine x_goto 28 C 32 dX2_signHere_28 (by decide) ?_
    refine x_istore_n 32 C [(1, .int 1), (0, .ref T)] dX2_signHere_32 rfl (by decide) rfl ?_
    refine x_iload_n 33 C dX2_signHere_33 rfl 0 rfl ?_
    refine x_if_eq 34 C 49 dX2_signHere_34 (by decide) (fun c5 => absurd c5 (by decide)) (fun _ => ?_)
    refine x_aload_n 37 C dX2_signHere_37 rfl 1 rfl ?_
    refine x_getr 38 C (b := T + 1) dX2_signHere_38 ff_X2_9 rfl hX.1 rfl ?_
    refine x_aload_n 41 C dX2_signHere_41 rfl 1 rfl ?_
    refine x_geti 42 C dX2_signHere_42 ff_X2_24 hX.1 ?_
    refine x_int (nI r) hT.2.2 ?_
    refine x_iald 45 C (j := r) dX2_signHere_45 hX.2.1 (xIx_nI (by omega) (by decide)) ?_
    refine x_int (nI (t r)) (hT.1 r (by omega)) ?_
    refine x_goto 46 C 50 dX2_signHere_46 (by decide) ?_
    refine x_iret 50 C dX2_signHere_50 rfl rfl (Nat.le_refl _) (xN.intro ?_)
    refine ⟨?_, rfl, rfl⟩
    first | exact congrArg (fun x => some (Value.int (nI x))) (sg_in (by omega)).symm | exact congrArg (fun x => some (Value.int (nI x))) (sg_out (by omega)).symm
theorem dX2_isDigit_0 : decode cX2_isDigit 0 = .ok (.iload_n 0, 1) := by decide +kernel
theorem dX2_isDigit_1 : decode cX2_isDigit 1 = .ok (.bipush 48, 2) := by decide +kernel
theorem dX2_isDigit_3 : decode cX2_isDigit 3 = .ok (.if_icmp .lt 13, 3) := by decide +kernel
theorem dX2_isDigit_6 : decode cX2_isDigit 6 = .ok (.iload_n 0, 1) := by decide +kernel
theorem dX2_isDigit_7 : decode cX2_isDigit 7 = .ok (.bipush 57, 2) := by decide +kernel
theorem dX2_isDigit_9 : decode cX2_isDigit 9 = .ok (.if_icmp .gt 7, 3) := by decide +kernel
theorem dX2_isDigit_12 : decode cX2_isDigit 12 = .ok (.iconst 1, 1) := by decide +kernel
theorem dX2_isDigit_13 : decode cX2_isDigit 13 = .ok (.goto 4, 3) := by decide +kernel
theorem dX2_isDigit_16 : decode cX2_isDigit 16 = .ok (.iconst 0, 1) := by decide +kernel
theorem dX2_isDigit_17 : decode cX2_isDigit 17 = .ok (.ireturn, 1) := by decide +kernel
set_option maxHeartbeats 1000000 in
set_option maxRecDepth 100000 in
theorem t_X2_isDigit (l : Launch) (D : xD) (z n : Nat) (G : xG) (I : xI) (L : xL) (x : Nat) (hx : x ≤ 126) : xM0 l D z yX2_isDigit cX2_isDigit 1 (some .boolean) 0 0 [.int (nI x)] n G I L (xE (some (.int (bI (dgt x)))) I L) := by
  refine xM.of (by decide) (Nat.le_of_ble_eq_true rfl) (fun p e s m args below meth c C hnm hsz => ?_)
  refine x_lv [(0, .int (nI x))] rfl ?_
  refine x_iload_n 0 C dX2_isDigit_0 rfl 0 rfl ?_
  refine x_bipush 1 C (v := 48) dX2_isDigit_1 rfl ?_
  refine x_icmp_lt 3 C 16 dX2_isDigit_3 (by decide) (fun c1 => ?_) (fun c1 => ?_)
  · skip
    have c1n : x < 48 := (nI_ltI (a := x) (b := 48) (by omega) (by omega)).mp c1
    have c1m : ¬ (48 ≤ x) := by omega
    have c1o := Int32.not_le.mpr c1
    refine x_iconst 16 C (v := 0) dX2_isDigit_16 rfl ?_
    refine x_iret 17 C dX2_isDigit_17 rfl rfl (Nat.le_refl _) (xN.intro ?_)
    refine ⟨?_, rfl, rfl⟩
    first | (rw [dgt_b.mpr (by omega)]; rfl) | (rw [dgt_f.mpr (by omega)]; rfl)
  · skip
    have c1n : ¬ (x < 48) := fun h => c1 ((nI_ltI (a := x) (b := 48) (by omega) (by omega)).mpr h)
    have c1m : 48 ≤ x := by omega
    have c1o := Int32.not_lt.mp c1
    refine x_iload_n 6 C dX2_isDigit_6 rfl 0 rfl ?_
    refine x_bipush 7 C (v := 57) dX2_isDigit_7 rfl ?_
    refine x_icmp_gt 9 C 16 dX2_isDigit_9 (by decide) (fun c2 => ?_) (fun c2 => ?_)
    · skip
      have c2n : 57 < x := (nI_ltI (a := 57) (b := x) (by omega) (by omega)).mp c2
      have c2m : ¬ (x ≤ 57) := by omega
      have c2o := Int32.not_le.mpr c2
      refine x_iconst 16 C (v := 0) dX2_isDigit_16 rfl ?_
      refine x_iret 17 C dX2_isDigit_17 rfl rfl (Nat.le_refl _) (xN.intro ?_)
      refine ⟨?_, rfl, rfl⟩
      first | (rw [dgt_b.mpr (by omega)]; rfl) | (rw [dgt_f.mpr (by omega)]; rfl)
    · skip
      have c2n : ¬ (57 < x) := fun h => c2 ((nI_ltI (a := 57) (b := x) (by omega) (by omega)).mpr h)
      have c2m : x ≤ 57 := by omega
      have c2o := Int32.not_lt.mp c2
      refine x_iconst 12 C (v := 1) dX2_isDigit_12 rfl ?_
      refine x_goto 13 C 17 dX2_isDigit_13 (by decide) ?_
      refine x_iret 17 C dX2_isDigit_17 rfl rfl (Nat.le_refl _) (xN.intro ?_)
      refine ⟨?_, rfl, rfl⟩
      first | (rw [dgt_b.mpr (by omega)]; rfl) | (rw [dgt_f.mpr (by omega)]; rfl)
theorem dX2_isUnknown_0 : decode cX2_isUnknown 0 = .ok (.iload_n 0, 1) := by decide +kernel
theorem dX2_isUnknown_1 : decode cX2_isUnknown 1 = .ok (.bipush 120, 2) := by decide +kernel
theorem dX2_isUnknown_3 : decode cX2_isUnknown 3 = .ok (.if_icmp .eq 9, 3) := by decide +kernel
theorem dX2_isUnknown_6 : decode cX2_isUnknown 6 = .ok (.iload_n 0, 1) := by decide +kernel
theorem dX2_isUnknown_7 : decode cX2_isUnknown 7 = .ok (.bipush 121, 2) := by decide +kernel
theorem dX2_isUnknown_9 : decode cX2_isUnknown 9 = .ok (.if_icmp .ne 7, 3) := by decide +kernel
theorem dX2_isUnknown_12 : decode cX2_isUnknown 12 = .ok (.iconst 1, 1) := by decide +kernel
theorem dX2_isUnknown_13 : decode cX2_isUnknown 13 = .ok (.goto 4, 3) := by decide +kernel
theorem dX2_isUnknown_16 : decode cX2_isUnknown 16 = .ok (.iconst 0, 1) := by decide +kernel
theorem dX2_isUnknown_17 : decode cX2_isUnknown 17 = .ok (.ireturn, 1) := by decide +kernel
set_option maxHeartbeats 1000000 in
set_option maxRecDepth 100000 in
theorem t_X2_isUnknown (l : Launch) (D : xD) (z n : Nat) (G : xG) (I : xI) (L : xL) (x : Nat) (hx : x ≤ 126) : xM0 l D z yX2_isUnknown cX2_isUnknown 1 (some .boolean) 0 0 [.int (nI x)] n G I L (xE (some (.int (bI (unk x)))) I L) := by
  refine xM.of (by decide) (Nat.le_of_ble_eq_true rfl) (fun p e s m args below meth c C hnm hsz => ?_)
  refine x_lv [(0, .int (nI x))] rfl ?_
  refine x_iload_n 0 C dX2_isUnknown_0 rfl 0 rfl ?_
  refine x_bipush 1 C (v := 120) dX2_isUnknown_1 rfl ?_
  refine x_icmp_eq 3 C 12 dX2_isUnknown_3 (by decide) (fun c1 => ?_) (fun c1 => ?_)
  · skip
    have c1n : x = 120 := (nI_eq (a := x) (b := 120) (by omega) (by omega)).mp c1
    refine x_iconst 12 C (v := 1) dX2_isUnknown_12 rfl ?_
    refine x_goto 13 C 17 dX2_isUnknown_13 (by decide) ?_
    refine x_iret 17 C dX2_isUnknown_17 rfl rfl (Nat.le_refl _) (xN.intro ?_)
    refine ⟨?_, rfl, rfl⟩
    first | (rw [unk_b.mpr (by omega)]; rfl) | (rw [unk_f.mpr (by omega)]; rfl)
  · skip
    have c1n : ¬ (x = 120) := fun h => c1 ((nI_eq (a := x) (b := 120) (by omega) (by omega)).mpr h)
    refine x_iload_n 6 C dX2_isUnknown_6 rfl 0 rfl ?_
    refine x_bipush 7 C (v := 121) dX2_isUnknown_7 rfl ?_
    refine x_icmp_ne 9 C 16 dX2_isUnknown_9 (by decide) (fun c2 => ?_) (fun c2 => ?_)
    · skip
      have c2n : ¬ (x = 121) := fun h => c2 ((nI_eq (a := x) (b := 121) (by omega) (by omega)).mpr h)
      refine x_iconst 16 C (v := 0) dX2_isUnknown_16 rfl ?_
      refine x_iret 17 C dX2_isUnknown_17 rfl rfl (Nat.le_refl _) (xN.intro ?_)
      refine ⟨?_, rfl, rfl⟩
      first | (rw [unk_b.mpr (by omega)]; rfl) | (rw [unk_f.mpr (by omega)]; rfl)
    · skip
      have c2n : x = 121 := (nI_eq (a := x) (b := 121) (by omega) (by omega)).mp c2
      refine x_iconst 12 C (v := 1) dX2_isUnknown_12 rfl ?_
      refine x_goto 13 C 17 dX2_isUnknown_13 (by decide) ?_
      refine x_iret 17 C dX2_isUnknown_17 rfl rfl (Nat.le_refl _) (xN.intro ?_)
      refine ⟨?_, rfl, rfl⟩
      first | (rw [unk_b.mpr (by omega)]; rfl) | (rw [unk_f.mpr (by omega)]; rfl)
theorem dX2_readNumber_0 : decode cX2_readNumber 0 = .ok (.iconst 0, 1) := by decide +kernel
theorem dX2_readNumber_1 : decode cX2_readNumber 1 = .ok (.istore_n 1, 1) := by decide +kernel
theorem dX2_readNumber_2 : decode cX2_readNumber 2 = .ok (.iconst 0, 1) := by decide +kernel
theorem dX2_readNumber_3 : decode cX2_readNumber 3 = .ok (.istore_n 2, 1) := by decide +kernel
theorem dX2_readNumber_4 : decode cX2_readNumber 4 = .ok (.iload_n 2, 1) := by decide +kernel
theorem dX2_readNumber_5 : decode cX2_readNumber 5 = .ok (.iconst 3, 1) := by decide +kernel
theorem dX2_readNumber_6 : decode cX2_readNumber 6 = .ok (.if_icmp .ge 42, 3) := by decide +kernel
theorem dX2_readNumber_9 : decode cX2_readNumber 9 = .ok (.aload_n 0, 1) := by decide +kernel
theorem dX2_readNumber_10 : decode cX2_readNumber 10 = .ok (.invokevirtual 30, 3) := by decide +kernel
theorem dX2_readNumber_13 : decode cX2_readNumber 13 = .ok (.invokestatic 38, 3) := by decide +kernel
theorem dX2_readNumber_16 : decode cX2_readNumber 16 = .ok (.ifCond .eq 32, 3) := by decide +kernel
theorem dX2_readNumber_19 : decode cX2_readNumber 19 = .ok (.iload_n 1, 1) := by decide +kernel
theorem dX2_readNumber_20 : decode cX2_readNumber 20 = .ok (.bipush 10, 2) := by decide +kernel
theorem dX2_readNumber_22 : decode cX2_readNumber 22 = .ok (.imul, 1) := by decide +kernel
theorem dX2_readNumber_23 : decode cX2_readNumber 23 = .ok (.aload_n 0, 1) := by decide +kernel
theorem dX2_readNumber_24 : decode cX2_readNumber 24 = .ok (.invokevirtual 30, 3) := by decide +kernel
theorem dX2_readNumber_27 : decode cX2_readNumber 27 = .ok (.iadd, 1) := by decide +kernel
theorem dX2_readNumber_28 : decode cX2_readNumber 28 = .ok (.bipush 48, 2) := by decide +kernel
theorem dX2_readNumber_30 : decode cX2_readNumber 30 = .ok (.isub, 1) := by decide +kernel
theorem dX2_readNumber_31 : decode cX2_readNumber 31 = .ok (.istore_n 1, 1) := by decide +kernel
theorem dX2_readNumber_32 : decode cX2_readNumber 32 = .ok (.aload_n 0, 1) := by decide +kernel
theorem dX2_readNumber_33 : decode cX2_readNumber 33 = .ok (.dup, 1) := by decide +kernel
theorem dX2_readNumber_34 : decode cX2_readNumber 34 = .ok (.getfield 24, 3) := by decide +kernel
theorem dX2_readNumber_37 : decode cX2_readNumber 37 = .ok (.iconst 1, 1) := by decide +kernel
theorem dX2_readNumber_38 : decode cX2_readNumber 38 = .ok (.iadd, 1) := by decide +kernel
theorem dX2_readNumber_39 : decode cX2_readNumber 39 = .ok (.putfield 24, 3) := by decide +kernel
theorem dX2_readNumber_42 : decode cX2_readNumber 42 = .ok (.iinc 2 1, 3) := by decide +kernel
theorem dX2_readNumber_45 : decode cX2_readNumber 45 = .ok (.goto (-41), 3) := by decide +kernel
theorem dX2_readNumber_48 : decode cX2_readNumber 48 = .ok (.iload_n 1, 1) := by decide +kernel
theorem dX2_readNumber_49 : decode cX2_readNumber 49 = .ok (.ireturn, 1) := by decide +kernel
set_option maxHeartbeats 1000000 in
set_option maxRecDepth 100000 in
theorem t_X2_readNumber (l : Launch) (D : xD) (z n : Nat) (G : xG) (I : xI) (L : xL) (T : Nat) (t : Nat → Nat) (N : Nat) (r : Nat) (hX : shX G T) (zT : z ≤ T) (hT : tx I T t N r) (hC : txc t N) (hr : r ≤ N) : xM0 l D z yX2_readNumber cX2_readNumber 3 (some .int) 1 21 [.ref T] n G I L (xE (some (.int (nI ((numb t N 3 r 0).1)))) (xup I T 3 (nI (numb t N 3 r 0).2)) L) := by
  refine xM.of (by decide) (Nat.le_of_ble_eq_true rfl) (fun p e s m args below meth c C hnm hsz => ?_)
  refine x_lv [(0, .ref T)] rfl ?_
  have hN6 := hC.1
  refine x_iconst 0 C (v := 0) dX2_readNumber_0 rfl ?_
  refine x_istore_n 1 C [(1, .int 0), (0, .ref T)] dX2_readNumber_1 rfl (by decide) rfl ?_
  refine x_iconst 2 C (v := 0) dX2_readNumber_2 rfl ?_
  refine x_istore_n 3 C [(2, .int 0), (1, .int 0), (0, .ref T)] dX2_readNumber_3 rfl (by decide) rfl ?_
  have loop4 : ∀ (fuel : Nat) (k q v : Nat) (Ik : xI), (k ≤ 3) → (4 ≤ k + fuel) → (Ik = xup I T 3 (nI q)) → (q ≤ N) → (numb t N 3 r 0 = numb t N (3 - k) q v) → X p l e (xRm 1 21 0 0) s m args below meth c D z 3 (MQ below (xQc D z n (xN n G (xE (some (.int (nI ((numb t N 3 r 0).1)))) (xup I T 3 (nI (numb t N 3 r 0).2)) L))) args s 0 0 (fun a => z ≤ a)) 0 0 n G Ik L 4 [(0, .ref T), (1, .int (nI v)), (2, .int (nI k))] [] := by
    intro fuel
    induction fuel with
    | zero =>
      intro k q v Ik hk hf hI hq hS
      exact absurd hf (by omega)
    | succ fuel ih =>
      intro k q v Ik hk hf hI hq hS
      have hTk : tx Ik T t N q := by rw [hI]; exact tx_up hT q
      refine x_iload_n 4 C dX2_readNumber_4 rfl 2 rfl ?_
      refine x_iconst 5 C (v := 3) dX2_readNumber_5 rfl ?_
      refine x_icmp_ge 6 C 48 dX2_readNumber_6 (by decide) (fun c1 => ?_) (fun c1 => ?_)
      · skip
        have c1n : 3 ≤ k := (nI_leI (a := 3) (b := k) (by omega) (by omega)).mp c1
        have c1m : ¬ (k < 3) := by omega
        have c1o := Int32.not_lt.mpr c1
        refine x_iload_n 48 C dX2_readNumber_48 rfl 1 rfl ?_
        refine x_iret 49 C dX2_readNumber_49 rfl rfl (Nat.le_refl _) (xN.intro ?_)
        first | (have hz : numb t N (3 - k) q v = (v, q) := (by rw [show 3 - k = 0 by omega]; rfl); exact ⟨by rw [hS, hz], by rw [hS, hz, hI], rfl⟩) | (have hz : numb t N (3 - k) q v = (v, q) := (by rw [show 3 - k = (3 - (k + 1)) + 1 by omega]; simp only [numb]; exact if_neg (by rw [hb]; decide)); exact ⟨by rw [hS, hz], by rw [hS, hz, hI], rfl⟩)
      · skip
        have c1n : ¬ (3 ≤ k) := fun h => c1 ((nI_leI (a := 3) (b := k) (by omega) (by omega)).mpr h)
        have c1m : k < 3 := by omega
        have c1o := Int32.not_le.mp c1
        refine x_aload_n 9 C dX2_readNumber_9 rfl 0 rfl ?_
        refine x_callVe 10 C dX2_readNumber_10 (As := []) (rest := []) [.int (nI (sg t N q))] (t_X2_signHere l D z n G Ik L T t N q hX hTk hC (by omega)) mt_X2_signHere km_X2_30 ki_X2_signHere ks_X2_signHere hX.1 ⟨by decide, rfl⟩ rfl rfl (Nat.le_of_ble_eq_true rfl) ⟨⟨by decide, by decide⟩, by decide, by decide⟩ (fun I2 L3 eI2 eL3 => ?_)
        replace eI2 := eI2.symm; subst eI2
        replace eL3 := eL3.symm; subst eL3
        have hs_a := sg_le hC q
        refine x_callSe 13 C dX2_readNumber_13 (As := [.int (nI (sg t N q))]) (rest := []) [.int (bI (dgt (sg t N q)))] (t_X2_isDigit l D z n G Ik L (sg t N q) (by first | omega | assumption | decide)) mt_X2_isDigit km_X2_38 kt_X2_isDigit rfl rfl (Nat.le_of_ble_eq_true rfl) ⟨⟨by decide, by decide⟩, by decide, by decide⟩ (fun I4 L5 eI4 eL5 => ?_)
        replace eI4 := eI4.symm; subst eI4
        replace eL5 := eL5.symm; subst eL5
        refine x_if_eq 16 C 48 dX2_readNumber_16 (by decide) (fun c6 => ?_) (fun c6 => ?_)
        · skip
          have hb : _ := bI_0.mp c6
          refine x_iload_n 48 C dX2_readNumber_48 rfl 1 rfl ?_
          refine x_iret 49 C dX2_readNumber_49 rfl rfl (Nat.le_refl _) (xN.intro ?_)
          first | (have hz : numb t N (3 - k) q v = (v, q) := (by rw [show 3 - k = 0 by omega]; rfl); exact ⟨by rw [hS, hz], by rw [hS, hz, hI], rfl⟩) | (have hz : numb t N (3 - k) q v = (v, q) := (by rw [show 3 - k = (3 - (k + 1)) + 1 by omega]; simp only [numb]; exact if_neg (by rw [hb]; decide)); exact ⟨by rw [hS, hz], by rw [hS, hz, hI], rfl⟩)
        · skip
          have hb : _ := bI_n0.mp c6
          have hb2 := dgt_b.mp hb
          have hb3 := sg_lt (t := t) (N := N) (r := q) (by omega)
          refine x_iload_n 19 C dX2_readNumber_19 rfl 1 rfl ?_
          refine x_bipush 20 C (v := 10) dX2_readNumber_20 rfl ?_
          refine x_imul 22 C dX2_readNumber_22 ?_
          refine x_int (nI (v * 10)) (nI_mul v 10) ?_
          refine x_aload_n 23 C dX2_readNumber_23 rfl 0 rfl ?_
          refine x_callVe 24 C dX2_readNumber_24 (As := []) (rest := [.int (nI (v * 10))]) [.int (nI (sg t N q)), .int (nI (v * 10))] (t_X2_signHere l D z n G Ik L T t N q hX hTk hC (by omega)) mt_X2_signHere km_X2_30 ki_X2_signHere ks_X2_signHere hX.1 ⟨by decide, rfl⟩ rfl rfl (Nat.le_of_ble_eq_true rfl) ⟨⟨by decide, by decide⟩, by decide, by decide⟩ (fun I7 L8 eI7 eL8 => ?_)
          replace eI7 := eI7.symm; subst eI7
          replace eL8 := eL8.symm; subst eL8
          refine x_iadd 27 C dX2_readNumber_27 ?_
          refine x_int (nI (v * 10 + (sg t N q))) (nI_add (v * 10) (sg t N q)) ?_
          refine x_bipush 28 C (v := 48) dX2_readNumber_28 rfl ?_
          refine x_isub 30 C dX2_readNumber_30 ?_
          refine x_int (nI (v * 10 + sg t N q - 48)) (nI_sub (a := v * 10 + sg t N q) (b := 48) (by omega)) ?_
          refine x_istore_n 31 C [(1, .int (nI (v * 10 + sg t N q - 48))), (0, .ref T), (2, .int (nI k))] dX2_readNumber_31 rfl (by decide) rfl ?_
          refine x_aload_n 32 C dX2_readNumber_32 rfl 1 rfl ?_
          refine x_dup 33 C dX2_readNumber_33 rfl ?_
          refine x_geti 34 C dX2_readNumber_34 ff_X2_24 hX.1 ?_
          refine x_int (nI q) hTk.2.2 ?_
          refine x_iconst 37 C (v := 1) dX2_readNumber_37 rfl ?_
          refine x_iadd 38 C dX2_readNumber_38 ?_
          refine x_int (nI (q + 1)) (nI_add q 1) ?_
          refine x_puti 39 C dX2_readNumber_39 ff_X2_24 rfl hX.1 (by omega) (fun I9 eI9 => ?_)
          refine x_iinc 42 C [(2, .int (nI (k + 1))), (1, .int (nI (v * 10 + sg t N q - 48))), (0, .ref T)] dX2_readNumber_42 2 rfl (nI_add k 1) (by decide) rfl ?_
          refine x_goto 45 C 4 dX2_readNumber_45 (by decide) ?_
          refine x_sub [(0, .ref T), (1, .int (nI (v * 10 + sg t N q - 48))), (2, .int (nI (k + 1)))] [2, 1, 0] rfl ?_
          exact ih (k + 1) (q + 1) (v * 10 + sg t N q - 48) I9 (by omega) (by omega) (by rw [eI9, hI, xup2]) (by omega) (by rw [hS, show 3 - k = (3 - (k + 1)) + 1 by omega]; simp only [numb]; rw [if_pos hb])
  refine x_sub [(0, .ref T), (1, .int 0), (2, .int 0)] [2, 1, 0] rfl ?_
  exact loop4 4 0 r 0 I (by omega) (by omega) (tx_self hT) hr rfl
theorem dX2_readFactor_0 : decode cX2_readFactor 0 = .ok (.iload_n 1, 1) := by decide +kernel
theorem dX2_readFactor_1 : decode cX2_readFactor 1 = .ok (.iconst 3, 1) := by decide +kernel
theorem dX2_readFactor_2 : decode cX2_readFactor 2 = .ok (.if_icmp .lt 5, 3) := by decide +kernel
theorem dX2_readFactor_5 : decode cX2_readFactor 5 = .ok (.iconst 0, 1) := by decide +kernel
theorem dX2_readFactor_6 : decode cX2_readFactor 6 = .ok (.ireturn, 1) := by decide +kernel
theorem dX2_readFactor_7 : decode cX2_readFactor 7 = .ok (.aload_n 0, 1) := by decide +kernel
theorem dX2_readFactor_8 : decode cX2_readFactor 8 = .ok (.dup, 1) := by decide +kernel
theorem dX2_readFactor_9 : decode cX2_readFactor 9 = .ok (.getfield 24, 3) := by decide +kernel
theorem dX2_readFactor_12 : decode cX2_readFactor 12 = .ok (.iconst 1, 1) := by decide +kernel
theorem dX2_readFactor_13 : decode cX2_readFactor 13 = .ok (.iadd, 1) := by decide +kernel
theorem dX2_readFactor_14 : decode cX2_readFactor 14 = .ok (.putfield 24, 3) := by decide +kernel
theorem dX2_readFactor_17 : decode cX2_readFactor 17 = .ok (.aload_n 0, 1) := by decide +kernel
theorem dX2_readFactor_18 : decode cX2_readFactor 18 = .ok (.invokevirtual 30, 3) := by decide +kernel
theorem dX2_readFactor_21 : decode cX2_readFactor 21 = .ok (.bipush 94, 2) := by decide +kernel
theorem dX2_readFactor_23 : decode cX2_readFactor 23 = .ok (.if_icmp .eq 5, 3) := by decide +kernel
theorem dX2_readFactor_26 : decode cX2_readFactor 26 = .ok (.iconst 1, 1) := by decide +kernel
theorem dX2_readFactor_27 : decode cX2_readFactor 27 = .ok (.ireturn, 1) := by decide +kernel
theorem dX2_readFactor_28 : decode cX2_readFactor 28 = .ok (.aload_n 0, 1) := by decide +kernel
theorem dX2_readFactor_29 : decode cX2_readFactor 29 = .ok (.dup, 1) := by decide +kernel
theorem dX2_readFactor_30 : decode cX2_readFactor 30 = .ok (.getfield 24, 3) := by decide +kernel
theorem dX2_readFactor_33 : decode cX2_readFactor 33 = .ok (.iconst 1, 1) := by decide +kernel
theorem dX2_readFactor_34 : decode cX2_readFactor 34 = .ok (.iadd, 1) := by decide +kernel
theorem dX2_readFactor_35 : decode cX2_readFactor 35 = .ok (.putfield 24, 3) := by decide +kernel
theorem dX2_readFactor_38 : decode cX2_readFactor 38 = .ok (.aload_n 0, 1) := by decide +kernel
theorem dX2_readFactor_39 : decode cX2_readFactor 39 = .ok (.invokevirtual 30, 3) := by decide +kernel
theorem dX2_readFactor_42 : decode cX2_readFactor 42 = .ok (.bipush 48, 2) := by decide +kernel
theorem dX2_readFactor_44 : decode cX2_readFactor 44 = .ok (.isub, 1) := by decide +kernel
theorem dX2_readFactor_45 : decode cX2_readFactor 45 = .ok (.istore_n 2, 1) := by decide +kernel
theorem dX2_readFactor_46 : decode cX2_readFactor 46 = .ok (.iload_n 2, 1) := by decide +kernel
theorem dX2_readFactor_47 : decode cX2_readFactor 47 = .ok (.iconst 1, 1) := by decide +kernel
theorem dX2_readFactor_48 : decode cX2_readFactor 48 = .ok (.if_icmp .lt 10, 3) := by decide +kernel
theorem dX2_readFactor_51 : decode cX2_readFactor 51 = .ok (.iload_n 1, 1) := by decide +kernel
theorem dX2_readFactor_52 : decode cX2_readFactor 52 = .ok (.iload_n 2, 1) := by decide +kernel
theorem dX2_readFactor_53 : decode cX2_readFactor 53 = .ok (.iadd, 1) := by decide +kernel
theorem dX2_readFactor_54 : decode cX2_readFactor 54 = .ok (.iconst 3, 1) := by decide +kernel
theorem dX2_readFactor_55 : decode cX2_readFactor 55 = .ok (.if_icmp .le 5, 3) := by decide +kernel
theorem dX2_readFactor_58 : decode cX2_readFactor 58 = .ok (.iconst 0, 1) := by decide +kernel
theorem dX2_readFactor_59 : decode cX2_readFactor 59 = .ok (.ireturn, 1) := by decide +kernel
theorem dX2_readFactor_60 : decode cX2_readFactor 60 = .ok (.aload_n 0, 1) := by decide +kernel
theorem dX2_readFactor_61 : decode cX2_readFactor 61 = .ok (.dup, 1) := by decide +kernel
theorem dX2_readFactor_62 : decode cX2_readFactor 62 = .ok (.getfield 24, 3) := by decide +kernel
theorem dX2_readFactor_65 : decode cX2_readFactor 65 = .ok (.iconst 1, 1) := by decide +kernel
theorem dX2_readFactor_66 : decode cX2_readFactor 66 = .ok (.iadd, 1) := by decide +kernel
theorem dX2_readFactor_67 : decode cX2_readFactor 67 = .ok (.putfield 24, 3) := by decide +kernel
theorem dX2_readFactor_70 : decode cX2_readFactor 70 = .ok (.iload_n 2, 1) := by decide +kernel
theorem dX2_readFactor_71 : decode cX2_readFactor 71 = .ok (.ireturn, 1) := by decide +kernel
set_option maxHeartbeats 1000000 in
set_option maxRecDepth 100000 in
theorem t_X2_readFactor (l : Launch) (D : xD) (z n : Nat) (G : xG) (I : xI) (L : xL) (T : Nat) (t : Nat → Nat) (N : Nat) (r : Nat) (d : Nat) (hX : shX G T) (zT : z ≤ T) (hT : tx I T t N r) (hC : txc t N) (hr : r < N) (hd : d ≤ 3) : xM0 l D z yX2_readFactor cX2_readFactor 3 (some .int) 1 21 [.ref T, .int (nI d)] n G I L (xE (some (.int (nI ((fac t N d r).1)))) (xup I T 3 (nI (fac t N d r).2)) L) := by
  refine xM.of (by decide) (Nat.le_of_ble_eq_true rfl) (fun p e s m args below meth c C hnm hsz => ?_)
  refine x_lv [(0, .ref T), (1, .int (nI d))] rfl ?_
  have hN6 := hC.1
  refine x_iload_n 0 C dX2_readFactor_0 rfl 1 rfl ?_
  refine x_iconst 1 C (v := 3) dX2_readFactor_1 rfl ?_
  refine x_icmp_lt 2 C 7 dX2_readFactor_2 (by decide) (fun c1 => ?_) (fun c1 => ?_)
  · skip
    have c1n : d < 3 := (nI_ltI (a := d) (b := 3) (by omega) (by omega)).mp c1
    have c1m : ¬ (3 ≤ d) := by omega
    have c1o := Int32.not_le.mpr c1
    refine x_aload_n 7 C dX2_readFactor_7 rfl 0 rfl ?_
    refine x_dup 8 C dX2_readFactor_8 rfl ?_
    refine x_geti 9 C dX2_readFactor_9 ff_X2_24 hX.1 ?_
    refine x_int (nI r) hT.2.2 ?_
    refine x_iconst 12 C (v := 1) dX2_readFactor_12 rfl ?_
    refine x_iadd 13 C dX2_readFactor_13 ?_
    refine x_int (nI (r + 1)) (nI_add r 1) ?_
    refine x_puti 14 C dX2_readFactor_14 ff_X2_24 rfl hX.1 (by omega) (fun I2 eI2 => ?_)
    have hT1 : tx I2 T t N (r + 1) := by rw [eI2]; exact tx_up hT _
    refine x_aload_n 17 C dX2_readFactor_17 rfl 0 rfl ?_
    refine x_callVe 18 C dX2_readFactor_18 (As := []) (rest := []) [.int (nI (sg t N (r + 1)))] (t_X2_signHere l D z n G I2 L T t N (r + 1) hX hT1 hC (by omega)) mt_X2_signHere km_X2_30 ki_X2_signHere ks_X2_signHere hX.1 ⟨by decide, rfl⟩ rfl rfl (Nat.le_of_ble_eq_true rfl) ⟨⟨by decide, by decide⟩, by decide, by decide⟩ (fun I3 L4 eI3 eL4 => ?_)
    replace eI3 := eI3.symm; subst eI3
    replace eL4 := eL4.symm; subst eL4
    have hs_a := sg_le hC (r + 1)
    refine x_bipush 21 C (v := 94) dX2_readFactor_21 rfl ?_
    refine x_icmp_eq 23 C 28 dX2_readFactor_23 (by decide) (fun c5 => ?_) (fun c5 => ?_)
    · skip
      have c5n : (sg t N (r + 1)) = 94 := (nI_eq (a := (sg t N (r + 1))) (b := 94) (by omega) (by omega)).mp c5
      have hlt := sg_lt (t := t) (N := N) (r := r + 1) (by omega)
      refine x_aload_n 28 C dX2_readFactor_28 rfl 0 rfl ?_
      refine x_dup 29 C dX2_readFactor_29 rfl ?_
      refine x_geti 30 C dX2_readFactor_30 ff_X2_24 hX.1 ?_
      refine x_int (nI (r + 1)) hT1.2.2 ?_
      refine x_iconst 33 C (v := 1) dX2_readFactor_33 rfl ?_
      refine x_iadd 34 C dX2_readFactor_34 ?_
      refine x_int (nI (r + 1 + 1)) (nI_add (r + 1) 1) ?_
      refine x_puti 35 C dX2_readFactor_35 ff_X2_24 rfl hX.1 (by omega) (fun I6 eI6 => ?_)
      have hT2 : tx I6 T t N (r + 2) := by rw [eI6]; exact tx_up hT1 _
      refine x_aload_n 38 C dX2_readFactor_38 rfl 0 rfl ?_
      refine x_callVe 39 C dX2_readFactor_39 (As := []) (rest := []) [.int (nI (sg t N (r + 2)))] (t_X2_signHere l D z n G I6 L T t N (r + 2) hX hT2 hC (by omega)) mt_X2_signHere km_X2_30 ki_X2_signHere ks_X2_signHere hX.1 ⟨by decide, rfl⟩ rfl rfl (Nat.le_of_ble_eq_true rfl) ⟨⟨by decide, by decide⟩, by decide, by decide⟩ (fun I7 L8 eI7 eL8 => ?_)
      replace eI7 := eI7.symm; subst eI7
      replace eL8 := eL8.symm; subst eL8
      have hs_b := sg_le hC (r + 2)
      by_cases h49 : sg t N (r + 2) < 49
      · skip
        refine x_bipush 42 C (v := 48) dX2_readFactor_42 rfl ?_
        refine x_isub 44 C dX2_readFactor_44 ?_
        refine x_int (nI (sg t N (r + 2)) - 48) rfl ?_
        refine x_istore_n 45 C [(2, .int (nI (sg t N (r + 2)) - 48)), (0, .ref T), (1, .int (nI d))] dX2_readFactor_45 rfl (by decide) rfl ?_
        refine x_iload_n 46 C dX2_readFactor_46 rfl 0 rfl ?_
        refine x_iconst 47 C (v := 1) dX2_readFactor_47 rfl ?_
        refine x_icmp_lt 48 C 58 dX2_readFactor_48 (by decide) (fun _ => ?_) (fun c9 => absurd (nI_lt1 h49) c9)
        refine x_iconst 58 C (v := 0) dX2_readFactor_58 rfl ?_
        refine x_iret 59 C dX2_readFactor_59 rfl rfl (Nat.le_refl _) (xN.intro ?_)
        have hv : fac t N d r = (0, r + 2) := by unfold fac; rw [if_neg (by omega), if_pos (by omega), if_pos (by omega)]
        subst eI2; subst eI6
        refine ⟨?_, ?_, rfl⟩
        · rw [hv] <;> rfl
        · rw [hv] <;> first | rfl | exact tx_self hT | simp only [xup2]
      · skip
        refine x_bipush 42 C (v := 48) dX2_readFactor_42 rfl ?_
        refine x_isub 44 C dX2_readFactor_44 ?_
        refine x_int (nI (sg t N (r + 2) - 48)) (nI_sub (a := sg t N (r + 2)) (b := 48) (by omega)) ?_
        refine x_istore_n 45 C [(2, .int (nI (sg t N (r + 2) - 48))), (0, .ref T), (1, .int (nI d))] dX2_readFactor_45 rfl (by decide) rfl ?_
        refine x_iload_n 46 C dX2_readFactor_46 rfl 0 rfl ?_
        refine x_iconst 47 C (v := 1) dX2_readFactor_47 rfl ?_
        refine x_icmp_lt 48 C 58 dX2_readFactor_48 (by decide) (fun c10 => absurd c10 (fun h => absurd ((nI_ltI (a := (sg t N (r + 2) - 48)) (b := 1) (by omega) (by omega)).mp h) (by omega))) (fun _ => ?_)
        refine x_iload_n 51 C dX2_readFactor_51 rfl 2 rfl ?_
        refine x_iload_n 52 C dX2_readFactor_52 rfl 0 rfl ?_
        refine x_iadd 53 C dX2_readFactor_53 ?_
        refine x_int (nI (d + (sg t N (r + 2) - 48))) (nI_add d (sg t N (r + 2) - 48)) ?_
        refine x_iconst 54 C (v := 3) dX2_readFactor_54 rfl ?_
        refine x_icmp_le 55 C 60 dX2_readFactor_55 (by decide) (fun c11 => ?_) (fun c11 => ?_)
        · skip
          have c11n : (d + (sg t N (r + 2) - 48)) ≤ 3 := (nI_leI (a := (d + (sg t N (r + 2) - 48))) (b := 3) (by omega) (by omega)).mp c11
          have c11m : ¬ (3 < (d + (sg t N (r + 2) - 48))) := by omega
          have c11o := Int32.not_lt.mpr c11
          refine x_aload_n 60 C dX2_readFactor_60 rfl 1 rfl ?_
          refine x_dup 61 C dX2_readFactor_61 rfl ?_
          refine x_geti 62 C dX2_readFactor_62 ff_X2_24 hX.1 ?_
          refine x_int (nI (r + 2)) hT2.2.2 ?_
          refine x_iconst 65 C (v := 1) dX2_readFactor_65 rfl ?_
          refine x_iadd 66 C dX2_readFactor_66 ?_
          refine x_int (nI (r + 2 + 1)) (nI_add (r + 2) 1) ?_
          refine x_puti 67 C dX2_readFactor_67 ff_X2_24 rfl hX.1 (by omega) (fun I12 eI12 => ?_)
          refine x_iload_n 70 C dX2_readFactor_70 rfl 0 rfl ?_
          refine x_iret 71 C dX2_readFactor_71 rfl rfl (Nat.le_refl _) (xN.intro ?_)
          have hv : fac t N d r = (sg t N (r + 2) - 48, r + 3) := by unfold fac; rw [if_neg (by omega), if_pos (by omega), if_neg (by omega)]
          subst eI2; subst eI6; subst eI12
          refine ⟨?_, ?_, rfl⟩
          · rw [hv] <;> rfl
          · rw [hv] <;> first | rfl | exact tx_self hT | simp only [xup2]
        · skip
          have c11n : ¬ ((d + (sg t N (r + 2) - 48)) ≤ 3) := fun h => c11 ((nI_leI (a := (d + (sg t N (r + 2) - 48))) (b := 3) (by omega) (by omega)).mpr h)
          have c11m : 3 < (d + (sg t N (r + 2) - 48)) := by omega
          have c11o := Int32.not_le.mp c11
          refine x_iconst 58 C (v := 0) dX2_readFactor_58 rfl ?_
          refine x_iret 59 C dX2_readFactor_59 rfl rfl (Nat.le_refl _) (xN.intro ?_)
          have hv : fac t N d r = (0, r + 2) := by unfold fac; rw [if_neg (by omega), if_pos (by omega), if_pos (by omega)]
          subst eI2; subst eI6
          refine ⟨?_, ?_, rfl⟩
          · rw [hv] <;> rfl
          · rw [hv] <;> first | rfl | exact tx_self hT | simp only [xup2]
    · skip
      have c5n : ¬ ((sg t N (r + 1)) = 94) := fun h => c5 ((nI_eq (a := (sg t N (r + 1))) (b := 94) (by omega) (by omega)).mpr h)
      refine x_iconst 26 C (v := 1) dX2_readFactor_26 rfl ?_
      refine x_iret 27 C dX2_readFactor_27 rfl rfl (Nat.le_refl _) (xN.intro ?_)
      have hv : fac t N d r = (1, r + 1) := by unfold fac; rw [if_neg (by omega), if_neg (by omega)]
      subst eI2
      refine ⟨?_, ?_, rfl⟩
      · rw [hv] <;> rfl
      · rw [hv] <;> first | rfl | exact tx_self hT | simp only [xup2]
  · skip
    have c1n : ¬ (d < 3) := fun h => c1 ((nI_ltI (a := d) (b := 3) (by omega) (by omega)).mpr h)
    have c1m : 3 ≤ d := by omega
    have c1o := Int32.not_lt.mp c1
    refine x_iconst 5 C (v := 0) dX2_readFactor_5 rfl ?_
    refine x_iret 6 C dX2_readFactor_6 rfl rfl (Nat.le_refl _) (xN.intro ?_)
    have hv : fac t N d r = (0, r) := by unfold fac; rw [if_pos (by omega)]
    skip
    refine ⟨?_, ?_, rfl⟩
    · rw [hv] <;> rfl
    · rw [hv] <;> first | rfl | exact tx_self hT | simp only [xup2]
theorem dX2_readTerm_0 : decode cX2_readTerm 0 = .ok (.iconst 1, 1) := by decide +kernel
theorem dX2_readTerm_1 : decode cX2_readTerm 1 = .ok (.istore_n 2, 1) := by decide +kernel
theorem dX2_readTerm_2 : decode cX2_readTerm 2 = .ok (.iconst 0, 1) := by decide +kernel
theorem dX2_readTerm_3 : decode cX2_readTerm 3 = .ok (.istore_n 3, 1) := by decide +kernel
theorem dX2_readTerm_4 : decode cX2_readTerm 4 = .ok (.aload_n 0, 1) := by decide +kernel
theorem dX2_readTerm_5 : decode cX2_readTerm 5 = .ok (.invokevirtual 30, 3) := by decide +kernel
theorem dX2_readTerm_8 : decode cX2_readTerm 8 = .ok (.invokestatic 38, 3) := by decide +kernel
theorem dX2_readTerm_11 : decode cX2_readTerm 11 = .ok (.istore 4, 2) := by decide +kernel
theorem dX2_readTerm_13 : decode cX2_readTerm 13 = .ok (.iload 4, 2) := by decide +kernel
theorem dX2_readTerm_15 : decode cX2_readTerm 15 = .ok (.ifCond .eq 8, 3) := by decide +kernel
theorem dX2_readTerm_18 : decode cX2_readTerm 18 = .ok (.aload_n 0, 1) := by decide +kernel
theorem dX2_readTerm_19 : decode cX2_readTerm 19 = .ok (.invokevirtual 42, 3) := by decide +kernel
theorem dX2_readTerm_22 : decode cX2_readTerm 22 = .ok (.istore_n 2, 1) := by decide +kernel
theorem dX2_readTerm_23 : decode cX2_readTerm 23 = .ok (.aload_n 0, 1) := by decide +kernel
theorem dX2_readTerm_24 : decode cX2_readTerm 24 = .ok (.invokevirtual 30, 3) := by decide +kernel
theorem dX2_readTerm_27 : decode cX2_readTerm 27 = .ok (.bipush 105, 2) := by decide +kernel
theorem dX2_readTerm_29 : decode cX2_readTerm 29 = .ok (.if_icmp .ne 18, 3) := by decide +kernel
theorem dX2_readTerm_32 : decode cX2_readTerm 32 = .ok (.iconst 1, 1) := by decide +kernel
theorem dX2_readTerm_33 : decode cX2_readTerm 33 = .ok (.istore_n 3, 1) := by decide +kernel
theorem dX2_readTerm_34 : decode cX2_readTerm 34 = .ok (.iconst 1, 1) := by decide +kernel
theorem dX2_readTerm_35 : decode cX2_readTerm 35 = .ok (.istore 4, 2) := by decide +kernel
theorem dX2_readTerm_37 : decode cX2_readTerm 37 = .ok (.aload_n 0, 1) := by decide +kernel
theorem dX2_readTerm_38 : decode cX2_readTerm 38 = .ok (.dup, 1) := by decide +kernel
theorem dX2_readTerm_39 : decode cX2_readTerm 39 = .ok (.getfield 24, 3) := by decide +kernel
theorem dX2_readTerm_42 : decode cX2_readTerm 42 = .ok (.iconst 1, 1) := by decide +kernel
theorem dX2_readTerm_43 : decode cX2_readTerm 43 = .ok (.iadd, 1) := by decide +kernel
theorem dX2_readTerm_44 : decode cX2_readTerm 44 = .ok (.putfield 24, 3) := by decide +kernel
theorem dX2_readTerm_47 : decode cX2_readTerm 47 = .ok (.iconst 0, 1) := by decide +kernel
theorem dX2_readTerm_48 : decode cX2_readTerm 48 = .ok (.istore 5, 2) := by decide +kernel
theorem dX2_readTerm_50 : decode cX2_readTerm 50 = .ok (.iconst 0, 1) := by decide +kernel
theorem dX2_readTerm_51 : decode cX2_readTerm 51 = .ok (.istore 6, 2) := by decide +kernel
theorem dX2_readTerm_53 : decode cX2_readTerm 53 = .ok (.iconst 0, 1) := by decide +kernel
theorem dX2_readTerm_54 : decode cX2_readTerm 54 = .ok (.istore 7, 2) := by decide +kernel
theorem dX2_readTerm_56 : decode cX2_readTerm 56 = .ok (.iload 7, 2) := by decide +kernel
theorem dX2_readTerm_58 : decode cX2_readTerm 58 = .ok (.bipush 60, 2) := by decide +kernel
theorem dX2_readTerm_60 : decode cX2_readTerm 60 = .ok (.if_icmp .gt 88, 3) := by decide +kernel
theorem dX2_readTerm_63 : decode cX2_readTerm 63 = .ok (.aload_n 0, 1) := by decide +kernel
theorem dX2_readTerm_64 : decode cX2_readTerm 64 = .ok (.invokevirtual 30, 3) := by decide +kernel
theorem dX2_readTerm_67 : decode cX2_readTerm 67 = .ok (.invokestatic 45, 3) := by decide +kernel
theorem dX2_readTerm_70 : decode cX2_readTerm 70 = .ok (.ifCond .eq 78, 3) := by decide +kernel
theorem dX2_readTerm_73 : decode cX2_readTerm 73 = .ok (.aload_n 0, 1) := by decide +kernel
theorem dX2_readTerm_74 : decode cX2_readTerm 74 = .ok (.invokevirtual 30, 3) := by decide +kernel
theorem dX2_readTerm_77 : decode cX2_readTerm 77 = .ok (.bipush 120, 2) := by decide +kernel
theorem dX2_readTerm_79 : decode cX2_readTerm 79 = .ok (.if_icmp .ne 7, 3) := by decide +kernel
theorem dX2_readTerm_82 : decode cX2_readTerm 82 = .ok (.iconst 1, 1) := by decide +kernel
theorem dX2_readTerm_83 : decode cX2_readTerm 83 = .ok (.goto 4, 3) := by decide +kernel
theorem dX2_readTerm_86 : decode cX2_readTerm 86 = .ok (.iconst 0, 1) := by decide +kernel
theorem dX2_readTerm_87 : decode cX2_readTerm 87 = .ok (.istore 8, 2) := by decide +kernel
theorem dX2_readTerm_89 : decode cX2_readTerm 89 = .ok (.aload_n 0, 1) := by decide +kernel
theorem dX2_readTerm_90 : decode cX2_readTerm 90 = .ok (.iload 5, 2) := by decide +kernel
theorem dX2_readTerm_92 : decode cX2_readTerm 92 = .ok (.iload 6, 2) := by decide +kernel
theorem dX2_readTerm_94 : decode cX2_readTerm 94 = .ok (.iadd, 1) := by decide +kernel
theorem dX2_readTerm_95 : decode cX2_readTerm 95 = .ok (.invokevirtual 48, 3) := by decide +kernel
theorem dX2_readTerm_98 : decode cX2_readTerm 98 = .ok (.istore 9, 2) := by decide +kernel
theorem dX2_readTerm_100 : decode cX2_readTerm 100 = .ok (.iload 9, 2) := by decide +kernel
theorem dX2_readTerm_102 : decode cX2_readTerm 102 = .ok (.ifCond .ne 5, 3) := by decide +kernel
theorem dX2_readTerm_105 : decode cX2_readTerm 105 = .ok (.iconst 0, 1) := by decide +kernel
theorem dX2_readTerm_106 : decode cX2_readTerm 106 = .ok (.ireturn, 1) := by decide +kernel
theorem dX2_readTerm_107 : decode cX2_readTerm 107 = .ok (.iload 5, 2) := by decide +kernel
theorem dX2_readTerm_109 : decode cX2_readTerm 109 = .ok (.iload 8, 2) := by decide +kernel
theorem dX2_readTerm_111 : decode cX2_readTerm 111 = .ok (.ifCond .eq 8, 3) := by decide +kernel
theorem dX2_readTerm_114 : decode cX2_readTerm 114 = .ok (.iload 9, 2) := by decide +kernel
theorem dX2_readTerm_116 : decode cX2_readTerm 116 = .ok (.goto 4, 3) := by decide +kernel
theorem dX2_readTerm_119 : decode cX2_readTerm 119 = .ok (.iconst 0, 1) := by decide +kernel
theorem dX2_readTerm_120 : decode cX2_readTerm 120 = .ok (.iadd, 1) := by decide +kernel
theorem dX2_readTerm_121 : decode cX2_readTerm 121 = .ok (.istore 5, 2) := by decide +kernel
theorem dX2_readTerm_123 : decode cX2_readTerm 123 = .ok (.iload 6, 2) := by decide +kernel
theorem dX2_readTerm_125 : decode cX2_readTerm 125 = .ok (.iload 8, 2) := by decide +kernel
theorem dX2_readTerm_127 : decode cX2_readTerm 127 = .ok (.ifCond .eq 7, 3) := by decide +kernel
theorem dX2_readTerm_130 : decode cX2_readTerm 130 = .ok (.iconst 0, 1) := by decide +kernel
theorem dX2_readTerm_131 : decode cX2_readTerm 131 = .ok (.goto 5, 3) := by decide +kernel
theorem dX2_readTerm_134 : decode cX2_readTerm 134 = .ok (.iload 9, 2) := by decide +kernel
theorem dX2_readTerm_136 : decode cX2_readTerm 136 = .ok (.iadd, 1) := by decide +kernel
theorem dX2_readTerm_137 : decode cX2_readTerm 137 = .ok (.istore 6, 2) := by decide +kernel
theorem dX2_readTerm_139 : decode cX2_readTerm 139 = .ok (.iconst 1, 1) := by decide +kernel
theorem dX2_readTerm_140 : decode cX2_readTerm 140 = .ok (.istore 4, 2) := by decide +kernel
theorem dX2_readTerm_142 : decode cX2_readTerm 142 = .ok (.iinc 7 1, 3) := by decide +kernel
theorem dX2_readTerm_145 : decode cX2_readTerm 145 = .ok (.goto (-89), 3) := by decide +kernel
theorem dX2_readTerm_148 : decode cX2_readTerm 148 = .ok (.iload 4, 2) := by decide +kernel
theorem dX2_readTerm_150 : decode cX2_readTerm 150 = .ok (.ifCond .eq 46, 3) := by decide +kernel
theorem dX2_readTerm_153 : decode cX2_readTerm 153 = .ok (.iload_n 1, 1) := by decide +kernel
theorem dX2_readTerm_154 : decode cX2_readTerm 154 = .ok (.ifCond .eq 8, 3) := by decide +kernel
theorem dX2_readTerm_157 : decode cX2_readTerm 157 = .ok (.iload_n 2, 1) := by decide +kernel
theorem dX2_readTerm_158 : decode cX2_readTerm 158 = .ok (.ineg, 1) := by decide +kernel
theorem dX2_readTerm_159 : decode cX2_readTerm 159 = .ok (.goto 4, 3) := by decide +kernel
theorem dX2_readTerm_162 : decode cX2_readTerm 162 = .ok (.iload_n 2, 1) := by decide +kernel
theorem dX2_readTerm_163 : decode cX2_readTerm 163 = .ok (.istore 7, 2) := by decide +kernel
theorem dX2_readTerm_165 : decode cX2_readTerm 165 = .ok (.aload_n 0, 1) := by decide +kernel
theorem dX2_readTerm_166 : decode cX2_readTerm 166 = .ok (.getfield 16, 3) := by decide +kernel
theorem dX2_readTerm_169 : decode cX2_readTerm 169 = .ok (.iload 5, 2) := by decide +kernel
theorem dX2_readTerm_171 : decode cX2_readTerm 171 = .ok (.iload 6, 2) := by decide +kernel
theorem dX2_readTerm_173 : decode cX2_readTerm 173 = .ok (.iload_n 3, 1) := by decide +kernel
theorem dX2_readTerm_174 : decode cX2_readTerm 174 = .ok (.ifCond .eq 7, 3) := by decide +kernel
theorem dX2_readTerm_177 : decode cX2_readTerm 177 = .ok (.iconst 0, 1) := by decide +kernel
theorem dX2_readTerm_178 : decode cX2_readTerm 178 = .ok (.goto 5, 3) := by decide +kernel
theorem dX2_readTerm_181 : decode cX2_readTerm 181 = .ok (.iload 7, 2) := by decide +kernel
theorem dX2_readTerm_183 : decode cX2_readTerm 183 = .ok (.iload_n 3, 1) := by decide +kernel
theorem dX2_readTerm_184 : decode cX2_readTerm 184 = .ok (.ifCond .eq 8, 3) := by decide +kernel
theorem dX2_readTerm_187 : decode cX2_readTerm 187 = .ok (.iload 7, 2) := by decide +kernel
theorem dX2_readTerm_189 : decode cX2_readTerm 189 = .ok (.goto 4, 3) := by decide +kernel
theorem dX2_readTerm_192 : decode cX2_readTerm 192 = .ok (.iconst 0, 1) := by decide +kernel
theorem dX2_readTerm_193 : decode cX2_readTerm 193 = .ok (.invokevirtual 52, 3) := by decide +kernel
theorem dX2_readTerm_196 : decode cX2_readTerm 196 = .ok (.iload 4, 2) := by decide +kernel
theorem dX2_readTerm_198 : decode cX2_readTerm 198 = .ok (.ireturn, 1) := by decide +kernel
set_option maxHeartbeats 1000000 in
set_option maxRecDepth 100000 in
theorem t_X2_readTerm (l : Launch) (D : xD) (z n : Nat) (G : xG) (I : xI) (L : xL) (T : Nat) (t : Nat → Nat) (N : Nat) (r : Nat) (mi : Nat) (hX : shX G T) (zT : z ≤ T) (hT : tx I T t N r) (hC : txc t N) (hr : r ≤ N) (hmi : mi < 2) : xM0 l D z yX2_readTerm cX2_readTerm 10 (some .boolean) 3 68 [.ref T, .int (nI mi)] n G I L (xE (some (.int (bI (tOk t N r)))) (if tOk t N r = true then addT (xup I T 3 (nI (tEnd t N r))) (T + 2) (tTm t N r) (tRe t N r mi) (tIi t N r mi) else xup I T 3 (nI (tEnd t N r))) L) := by
  refine xM.of (by decide) (Nat.le_of_ble_eq_true rfl) (fun p e s m args below meth c C hnm hsz => ?_)
  refine x_lv [(0, .ref T), (1, .int (nI mi))] rfl ?_
  have hN6 := hC.1
  refine x_iconst 0 C (v := 1) dX2_readTerm_0 rfl ?_
  refine x_istore_n 1 C [(2, .int 1), (0, .ref T), (1, .int (nI mi))] dX2_readTerm_1 rfl (by decide) rfl ?_
  refine x_iconst 2 C (v := 0) dX2_readTerm_2 rfl ?_
  refine x_istore_n 3 C [(3, .int 0), (2, .int 1), (0, .ref T), (1, .int (nI mi))] dX2_readTerm_3 rfl (by decide) rfl ?_
  refine x_aload_n 4 C dX2_readTerm_4 rfl 2 rfl ?_
  refine x_callVe 5 C dX2_readTerm_5 (As := []) (rest := []) [.int (nI (sg t N r))] (t_X2_signHere l D z n G I L T t N r hX hT hC hr) mt_X2_signHere km_X2_30 ki_X2_signHere ks_X2_signHere hX.1 ⟨by decide, rfl⟩ rfl rfl (Nat.le_of_ble_eq_true rfl) ⟨⟨by decide, by decide⟩, by decide, by decide⟩ (fun I1 L2 eI1 eL2 => ?_)
  replace eI1 := eI1.symm; subst eI1
  replace eL2 := eL2.symm; subst eL2
  have hs_a := sg_le hC r
  refine x_callSe 8 C dX2_readTerm_8 (As := [.int (nI (sg t N r))]) (rest := []) [.int (bI (dgt (sg t N r)))] (t_X2_isDigit l D z n G I L (sg t N r) (by first | omega | assumption | decide)) mt_X2_isDigit km_X2_38 kt_X2_isDigit rfl rfl (Nat.le_of_ble_eq_true rfl) ⟨⟨by decide, by decide⟩, by decide, by decide⟩ (fun I3 L4 eI3 eL4 => ?_)
  replace eI3 := eI3.symm; subst eI3
  replace eL4 := eL4.symm; subst eL4
  refine x_istore 11 C [(4, .int (bI (dgt (sg t N r)))), (3, .int 0), (2, .int 1), (0, .ref T), (1, .int (nI mi))] dX2_readTerm_11 (by decide) rfl ?_
  refine x_iload 13 C dX2_readTerm_13 0 rfl ?_
  have join23 : ∀ (v r1 : Nat) (I1 : xI), (I1 = xup I T 3 (nI r1)) → (tNum t N r = (v, r1)) → X p l e (xRm 3 68 0 0) s m args below meth c D z 10 (MQ below (xQc D z n (xN n G (xE (some (.int (bI (tOk t N r)))) (if tOk t N r = true then addT (xup I T 3 (nI (tEnd t N r))) (T + 2) (tTm t N r) (tRe t N r mi) (tIi t N r mi) else xup I T 3 (nI (tEnd t N r))) L))) args s 0 0 (fun a => z ≤ a)) 0 0 n G I1 L 23 [(0, .ref T), (1, .int (nI mi)), (2, .int (nI v)), (3, .int 0), (4, .int (bI (dgt (sg t N r))))] [] := by
    intro v r1 I1 hI1 hv
    have hT1 : tx I1 T t N r1 := by rw [hI1]; exact tx_up hT r1
    have hr1 := tNum_r (t := t) hr
    rw [hv] at hr1
    have hr1a := hr1.1
    have hr1b := hr1.2
    refine x_aload_n 23 C dX2_readTerm_23 rfl 0 rfl ?_
    refine x_callVe 24 C dX2_readTerm_24 (As := []) (rest := []) [.int (nI (sg t N r1))] (t_X2_signHere l D z n G I1 L T t N r1 hX hT1 hC (by omega)) mt_X2_signHere km_X2_30 ki_X2_signHere ks_X2_signHere hX.1 ⟨by decide, rfl⟩ rfl rfl (Nat.le_of_ble_eq_true rfl) ⟨⟨by decide, by decide⟩, by decide, by decide⟩ (fun I6 L7 eI6 eL7 => ?_)
    replace eI6 := eI6.symm; subst eI6
    replace eL7 := eL7.symm; subst eL7
    have hs_d := sg_le hC r1
    refine x_bipush 27 C (v := 105) dX2_readTerm_27 rfl ?_
    have join47 : ∀ (im b0 r2 : Nat) (I2 : xI), (I2 = xup I T 3 (nI r2)) → (tIm t N r = im) → (tR2 t N r = r2) → (tB0 t N r = b0) → (b0 ≤ 1) → (im ≤ 1) → X p l e (xRm 3 68 0 0) s m args below meth c D z 10 (MQ below (xQc D z n (xN n G (xE (some (.int (bI (tOk t N r)))) (if tOk t N r = true then addT (xup I T 3 (nI (tEnd t N r))) (T + 2) (tTm t N r) (tRe t N r mi) (tIi t N r mi) else xup I T 3 (nI (tEnd t N r))) L))) args s 0 0 (fun a => z ≤ a)) 0 0 n G I2 L 47 [(0, .ref T), (1, .int (nI mi)), (2, .int (nI v)), (3, .int (nI im)), (4, .int (nI b0))] [] := by
      intro im b0 r2 I2 hI2 him hR2 hB hb01 him1
      have hr2 := tR2_r (t := t) hr
      rw [hR2] at hr2
      have hr2a := hr2.1
      have hr2b := hr2.2
      refine x_iconst 47 C (v := 0) dX2_readTerm_47 rfl ?_
      refine x_istore 48 C [(5, .int 0), (0, .ref T), (1, .int (nI mi)), (2, .int (nI v)), (3, .int (nI im)), (4, .int (nI b0))] dX2_readTerm_48 (by decide) rfl ?_
      refine x_iconst 50 C (v := 0) dX2_readTerm_50 rfl ?_
      refine x_istore 51 C [(6, .int 0), (5, .int 0), (0, .ref T), (1, .int (nI mi)), (2, .int (nI v)), (3, .int (nI im)), (4, .int (nI b0))] dX2_readTerm_51 (by decide) rfl ?_
      refine x_iconst 53 C (v := 0) dX2_readTerm_53 rfl ?_
      refine x_istore 54 C [(7, .int 0), (6, .int 0), (5, .int 0), (0, .ref T), (1, .int (nI mi)), (2, .int (nI v)), (3, .int (nI im)), (4, .int (nI b0))] dX2_readTerm_54 (by decide) rfl ?_
      have loop56 : ∀ (fuel : Nat) (k i j q b : Nat) (Ik : xI), (k ≤ 61) → (62 ≤ k + fuel) → (Ik = xup I T 3 (nI q)) → (q ≤ N) → (i + j ≤ 3) → (b ≤ 1) → (tFac t N r = facs t N (61 - k) i j q b) → X p l e (xRm 3 68 0 0) s m args below meth c D z 10 (MQ below (xQc D z n (xN n G (xE (some (.int (bI (tOk t N r)))) (if tOk t N r = true then addT (xup I T 3 (nI (tEnd t N r))) (T + 2) (tTm t N r) (tRe t N r mi) (tIi t N r mi) else xup I T 3 (nI (tEnd t N r))) L))) args s 0 0 (fun a => z ≤ a)) 0 0 n G Ik L 56 [(0, .ref T), (1, .int (nI mi)), (2, .int (nI v)), (3, .int (nI im)), (4, .int (nI b)), (5, .int (nI i)), (6, .int (nI j)), (7, .int (nI k))] [] := by
        intro fuel
        induction fuel with
        | zero =>
          intro k i j q b Ik hk hf hI hq hij hb1 hS
          exact absurd hf (by omega)
        | succ fuel ih =>
          intro k i j q b Ik hk hf hI hq hij hb1 hS
          have hTk : tx Ik T t N q := by rw [hI]; exact tx_up hT q
          refine x_iload 56 C dX2_readTerm_56 7 rfl ?_
          refine x_bipush 58 C (v := 60) dX2_readTerm_58 rfl ?_
          have join148 : ∀ (u0 : Unit), (tFac t N r = (true, i, j, q, b)) → X p l e (xRm 3 68 0 0) s m args below meth c D z 10 (MQ below (xQc D z n (xN n G (xE (some (.int (bI (tOk t N r)))) (if tOk t N r = true then addT (xup I T 3 (nI (tEnd t N r))) (T + 2) (tTm t N r) (tRe t N r mi) (tIi t N r mi) else xup I T 3 (nI (tEnd t N r))) L))) args s 0 0 (fun a => z ≤ a)) 0 0 n G Ik L 148 [(0, .ref T), (1, .int (nI mi)), (2, .int (nI v)), (3, .int (nI im)), (4, .int (nI b)), (5, .int (nI i)), (6, .int (nI j))] [] := by
            intro u0 hE
            by_cases hi1 : im = 1
            · skip
              refine x_iload 148 C dX2_readTerm_148 4 rfl ?_
              refine x_if_eq 150 C 196 dX2_readTerm_150 (by decide) (fun c10 => ?_) (fun c10 => ?_)
              · skip
                have c10n : b = 0 := (nI_eq (a := b) (b := 0) (by omega) (by omega)).mp c10
                refine x_iload 196 C dX2_readTerm_196 4 rfl ?_
                refine x_iret 198 C dX2_readTerm_198 rfl (by first | (rw [show b = 0 by omega]; rfl) | (rw [show b = 1 by omega]; rfl)) (Nat.le_refl _) (xN.intro ?_)
                have hen : tEnd t N r = q := by unfold tEnd; rw [hE]
                have htm : tTm t N r = tm i j := by unfold tTm; rw [hE]
                have hok : ¬ tOk t N r = true := by unfold tOk; rw [hE]; simp; omega
                exact ⟨by rw [(Bool.not_eq_true _).mp hok, show b = 0 by omega]; rfl, by rw [if_neg hok, hI, hen], rfl⟩
              · skip
                have c10n : ¬ (b = 0) := fun h => c10 ((nI_eq (a := b) (b := 0) (by omega) (by omega)).mpr h)
                refine x_iload_n 153 C dX2_readTerm_153 rfl 1 rfl ?_
                refine x_if_eq 154 C 162 dX2_readTerm_154 (by decide) (fun c11 => ?_) (fun c11 => ?_)
                · skip
                  have c11n : mi = 0 := (nI_eq (a := mi) (b := 0) (by omega) (by omega)).mp c11
                  refine x_iload_n 162 C dX2_readTerm_162 rfl 2 rfl ?_
                  refine x_istore 163 C [(7, .int (nI v)), (0, .ref T), (1, .int (nI mi)), (2, .int (nI v)), (3, .int (nI im)), (4, .int (nI b)), (5, .int (nI i)), (6, .int (nI j))] dX2_readTerm_163 (by decide) rfl ?_
                  refine x_aload_n 165 C dX2_readTerm_165 rfl 1 rfl ?_
                  refine x_getr 166 C (b := T + 2) dX2_readTerm_166 ff_X2_16 rfl hX.1 rfl ?_
                  refine x_iload 169 C dX2_readTerm_169 6 rfl ?_
                  refine x_iload 171 C dX2_readTerm_171 7 rfl ?_
                  refine x_iload_n 173 C dX2_readTerm_173 rfl 4 rfl ?_
                  refine x_if_eq 174 C 181 dX2_readTerm_174 (by decide) (fun c12 => absurd c12 (fun h => absurd ((nI_eq (a := im) (b := 0) (by omega) (by omega)).mp h) (by omega))) (fun _ => ?_)
                  refine x_iconst 177 C (v := 0) dX2_readTerm_177 rfl ?_
                  refine x_goto 178 C 183 dX2_readTerm_178 (by decide) ?_
                  refine x_iload_n 183 C dX2_readTerm_183 rfl 4 rfl ?_
                  refine x_if_eq 184 C 192 dX2_readTerm_184 (by decide) (fun c13 => absurd c13 (fun h => absurd ((nI_eq (a := im) (b := 0) (by omega) (by omega)).mp h) (by omega))) (fun _ => ?_)
                  refine x_iload 187 C dX2_readTerm_187 0 rfl ?_
                  refine x_goto 189 C 193 dX2_readTerm_189 (by decide) ?_
                  refine x_callVe 193 C dX2_readTerm_193 (As := [.int (nI i), .int (nI j), .int 0, .int (nI v)]) (rest := []) [] (t_X1_addTerm l D z n G Ik L (T + 2) i j 0 (nI v) hX.2.2 (by omega) (by first | omega | assumption | decide)) mt_X1_addTerm km_X2_52 ki_X1_addTerm ks_X1_addTerm hX.2.2.1 ⟨by decide, rfl⟩ rfl rfl (Nat.le_of_ble_eq_true rfl) ⟨⟨by decide, by decide⟩, by decide, by decide⟩ (fun I14 L15 eI14 eL15 => ?_)
                  replace eL15 := eL15.symm; subst eL15
                  refine x_iload 196 C dX2_readTerm_196 5 rfl ?_
                  refine x_iret 198 C dX2_readTerm_198 rfl (by first | (rw [show b = 0 by omega]; rfl) | (rw [show b = 1 by omega]; rfl)) (Nat.le_refl _) (xN.intro ?_)
                  have hen : tEnd t N r = q := by unfold tEnd; rw [hE]
                  have htm : tTm t N r = tm i j := by unfold tTm; rw [hE]
                  have hok : tOk t N r = true := by unfold tOk; rw [hE]; simp; omega
                  have hsg : tSg t N r mi = if mi = 1 then -(nI v) else nI v := by unfold tSg; rw [hv]
                  refine ⟨by rw [hok, show b = 1 by omega]; rfl, ?_, rfl⟩
                  rw [if_pos hok, eI14, hI, hen, htm, tRe, tIi, hsg, him]
                  first | rw [if_pos hi1, if_pos hi1, if_pos (show mi = 1 by omega)] | rw [if_pos hi1, if_pos hi1, if_neg (show ¬ mi = 1 by omega)] | rw [if_neg hi1, if_neg hi1, if_pos (show mi = 1 by omega)] | rw [if_neg hi1, if_neg hi1, if_neg (show ¬ mi = 1 by omega)]
                · skip
                  have c11n : ¬ (mi = 0) := fun h => c11 ((nI_eq (a := mi) (b := 0) (by omega) (by omega)).mpr h)
                  refine x_iload_n 157 C dX2_readTerm_157 rfl 2 rfl ?_
                  refine x_ineg 158 C dX2_readTerm_158 ?_
                  refine x_goto 159 C 163 dX2_readTerm_159 (by decide) ?_
                  refine x_istore 163 C [(7, .int (-(nI v))), (0, .ref T), (1, .int (nI mi)), (2, .int (nI v)), (3, .int (nI im)), (4, .int (nI b)), (5, .int (nI i)), (6, .int (nI j))] dX2_readTerm_163 (by decide) rfl ?_
                  refine x_aload_n 165 C dX2_readTerm_165 rfl 1 rfl ?_
                  refine x_getr 166 C (b := T + 2) dX2_readTerm_166 ff_X2_16 rfl hX.1 rfl ?_
                  refine x_iload 169 C dX2_readTerm_169 6 rfl ?_
                  refine x_iload 171 C dX2_readTerm_171 7 rfl ?_
                  refine x_iload_n 173 C dX2_readTerm_173 rfl 4 rfl ?_
                  refine x_if_eq 174 C 181 dX2_readTerm_174 (by decide) (fun c16 => absurd c16 (fun h => absurd ((nI_eq (a := im) (b := 0) (by omega) (by omega)).mp h) (by omega))) (fun _ => ?_)
                  refine x_iconst 177 C (v := 0) dX2_readTerm_177 rfl ?_
                  refine x_goto 178 C 183 dX2_readTerm_178 (by decide) ?_
                  refine x_iload_n 183 C dX2_readTerm_183 rfl 4 rfl ?_
                  refine x_if_eq 184 C 192 dX2_readTerm_184 (by decide) (fun c17 => absurd c17 (fun h => absurd ((nI_eq (a := im) (b := 0) (by omega) (by omega)).mp h) (by omega))) (fun _ => ?_)
                  refine x_iload 187 C dX2_readTerm_187 0 rfl ?_
                  refine x_goto 189 C 193 dX2_readTerm_189 (by decide) ?_
                  refine x_callVe 193 C dX2_readTerm_193 (As := [.int (nI i), .int (nI j), .int 0, .int (-(nI v))]) (rest := []) [] (t_X1_addTerm l D z n G Ik L (T + 2) i j 0 (-(nI v)) hX.2.2 (by omega) (by first | omega | assumption | decide)) mt_X1_addTerm km_X2_52 ki_X1_addTerm ks_X1_addTerm hX.2.2.1 ⟨by decide, rfl⟩ rfl rfl (Nat.le_of_ble_eq_true rfl) ⟨⟨by decide, by decide⟩, by decide, by decide⟩ (fun I18 L19 eI18 eL19 => ?_)
                  replace eL19 := eL19.symm; subst eL19
                  refine x_iload 196 C dX2_readTerm_196 5 rfl ?_
                  refine x_iret 198 C dX2_readTerm_198 rfl (by first | (rw [show b = 0 by omega]; rfl) | (rw [show b = 1 by omega]; rfl)) (Nat.le_refl _) (xN.intro ?_)
                  have hen : tEnd t N r = q := by unfold tEnd; rw [hE]
                  have htm : tTm t N r = tm i j := by unfold tTm; rw [hE]
                  have hok : tOk t N r = true := by unfold tOk; rw [hE]; simp; omega
                  have hsg : tSg t N r mi = if mi = 1 then -(nI v) else nI v := by unfold tSg; rw [hv]
                  refine ⟨by rw [hok, show b = 1 by omega]; rfl, ?_, rfl⟩
                  rw [if_pos hok, eI18, hI, hen, htm, tRe, tIi, hsg, him]
                  first | rw [if_pos hi1, if_pos hi1, if_pos (show mi = 1 by omega)] | rw [if_pos hi1, if_pos hi1, if_neg (show ¬ mi = 1 by omega)] | rw [if_neg hi1, if_neg hi1, if_pos (show mi = 1 by omega)] | rw [if_neg hi1, if_neg hi1, if_neg (show ¬ mi = 1 by omega)]
            · skip
              refine x_iload 148 C dX2_readTerm_148 4 rfl ?_
              refine x_if_eq 150 C 196 dX2_readTerm_150 (by decide) (fun c20 => ?_) (fun c20 => ?_)
              · skip
                have c20n : b = 0 := (nI_eq (a := b) (b := 0) (by omega) (by omega)).mp c20
                refine x_iload 196 C dX2_readTerm_196 4 rfl ?_
                refine x_iret 198 C dX2_readTerm_198 rfl (by first | (rw [show b = 0 by omega]; rfl) | (rw [show b = 1 by omega]; rfl)) (Nat.le_refl _) (xN.intro ?_)
                have hen : tEnd t N r = q := by unfold tEnd; rw [hE]
                have htm : tTm t N r = tm i j := by unfold tTm; rw [hE]
                have hok : ¬ tOk t N r = true := by unfold tOk; rw [hE]; simp; omega
                exact ⟨by rw [(Bool.not_eq_true _).mp hok, show b = 0 by omega]; rfl, by rw [if_neg hok, hI, hen], rfl⟩
              · skip
                have c20n : ¬ (b = 0) := fun h => c20 ((nI_eq (a := b) (b := 0) (by omega) (by omega)).mpr h)
                refine x_iload_n 153 C dX2_readTerm_153 rfl 1 rfl ?_
                refine x_if_eq 154 C 162 dX2_readTerm_154 (by decide) (fun c21 => ?_) (fun c21 => ?_)
                · skip
                  have c21n : mi = 0 := (nI_eq (a := mi) (b := 0) (by omega) (by omega)).mp c21
                  refine x_iload_n 162 C dX2_readTerm_162 rfl 2 rfl ?_
                  refine x_istore 163 C [(7, .int (nI v)), (0, .ref T), (1, .int (nI mi)), (2, .int (nI v)), (3, .int (nI im)), (4, .int (nI b)), (5, .int (nI i)), (6, .int (nI j))] dX2_readTerm_163 (by decide) rfl ?_
                  refine x_aload_n 165 C dX2_readTerm_165 rfl 1 rfl ?_
                  refine x_getr 166 C (b := T + 2) dX2_readTerm_166 ff_X2_16 rfl hX.1 rfl ?_
                  refine x_iload 169 C dX2_readTerm_169 6 rfl ?_
                  refine x_iload 171 C dX2_readTerm_171 7 rfl ?_
                  refine x_iload_n 173 C dX2_readTerm_173 rfl 4 rfl ?_
                  refine x_if_eq 174 C 181 dX2_readTerm_174 (by decide) (fun _ => ?_) (fun c22 => absurd ((nI_eq (a := im) (b := 0) (by omega) (by omega)).mpr (by omega)) c22)
                  refine x_iload 181 C dX2_readTerm_181 0 rfl ?_
                  refine x_iload_n 183 C dX2_readTerm_183 rfl 4 rfl ?_
                  refine x_if_eq 184 C 192 dX2_readTerm_184 (by decide) (fun _ => ?_) (fun c23 => absurd ((nI_eq (a := im) (b := 0) (by omega) (by omega)).mpr (by omega)) c23)
                  refine x_iconst 192 C (v := 0) dX2_readTerm_192 rfl ?_
                  refine x_callVe 193 C dX2_readTerm_193 (As := [.int (nI i), .int (nI j), .int (nI v), .int 0]) (rest := []) [] (t_X1_addTerm l D z n G Ik L (T + 2) i j (nI v) 0 hX.2.2 (by omega) (by first | omega | assumption | decide)) mt_X1_addTerm km_X2_52 ki_X1_addTerm ks_X1_addTerm hX.2.2.1 ⟨by decide, rfl⟩ rfl rfl (Nat.le_of_ble_eq_true rfl) ⟨⟨by decide, by decide⟩, by decide, by decide⟩ (fun I24 L25 eI24 eL25 => ?_)
                  replace eL25 := eL25.symm; subst eL25
                  refine x_iload 196 C dX2_readTerm_196 5 rfl ?_
                  refine x_iret 198 C dX2_readTerm_198 rfl (by first | (rw [show b = 0 by omega]; rfl) | (rw [show b = 1 by omega]; rfl)) (Nat.le_refl _) (xN.intro ?_)
                  have hen : tEnd t N r = q := by unfold tEnd; rw [hE]
                  have htm : tTm t N r = tm i j := by unfold tTm; rw [hE]
                  have hok : tOk t N r = true := by unfold tOk; rw [hE]; simp; omega
                  have hsg : tSg t N r mi = if mi = 1 then -(nI v) else nI v := by unfold tSg; rw [hv]
                  refine ⟨by rw [hok, show b = 1 by omega]; rfl, ?_, rfl⟩
                  rw [if_pos hok, eI24, hI, hen, htm, tRe, tIi, hsg, him]
                  first | rw [if_pos hi1, if_pos hi1, if_pos (show mi = 1 by omega)] | rw [if_pos hi1, if_pos hi1, if_neg (show ¬ mi = 1 by omega)] | rw [if_neg hi1, if_neg hi1, if_pos (show mi = 1 by omega)] | rw [if_neg hi1, if_neg hi1, if_neg (show ¬ mi = 1 by omega)]
                · skip
                  have c21n : ¬ (mi = 0) := fun h => c21 ((nI_eq (a := mi) (b := 0) (by omega) (by omega)).mpr h)
                  refine x_iload_n 157 C dX2_readTerm_157 rfl 2 rfl ?_
                  refine x_ineg 158 C dX2_readTerm_158 ?_
                  refine x_goto 159 C 163 dX2_readTerm_159 (by decide) ?_
                  refine x_istore 163 C [(7, .int (-(nI v))), (0, .ref T), (1, .int (nI mi)), (2, .int (nI v)), (3, .int (nI im)), (4, .int (nI b)), (5, .int (nI i)), (6, .int (nI j))] dX2_readTerm_163 (by decide) rfl ?_
                  refine x_aload_n 165 C dX2_readTerm_165 rfl 1 rfl ?_
                  refine x_getr 166 C (b := T + 2) dX2_readTerm_166 ff_X2_16 rfl hX.1 rfl ?_
                  refine x_iload 169 C dX2_readTerm_169 6 rfl ?_
                  refine x_iload 171 C dX2_readTerm_171 7 rfl ?_
                  refine x_iload_n 173 C dX2_readTerm_173 rfl 4 rfl ?_
                  refine x_if_eq 174 C 181 dX2_readTerm_174 (by decide) (fun _ => ?_) (fun c26 => absurd ((nI_eq (a := im) (b := 0) (by omega) (by omega)).mpr (by omega)) c26)
                  refine x_iload 181 C dX2_readTerm_181 0 rfl ?_
                  refine x_iload_n 183 C dX2_readTerm_183 rfl 4 rfl ?_
                  refine x_if_eq 184 C 192 dX2_readTerm_184 (by decide) (fun _ => ?_) (fun c27 => absurd ((nI_eq (a := im) (b := 0) (by omega) (by omega)).mpr (by omega)) c27)
                  refine x_iconst 192 C (v := 0) dX2_readTerm_192 rfl ?_
                  refine x_callVe 193 C dX2_readTerm_193 (As := [.int (nI i), .int (nI j), .int (-(nI v)), .int 0]) (rest := []) [] (t_X1_addTerm l D z n G Ik L (T + 2) i j (-(nI v)) 0 hX.2.2 (by omega) (by first | omega | assumption | decide)) mt_X1_addTerm km_X2_52 ki_X1_addTerm ks_X1_addTerm hX.2.2.1 ⟨by decide, rfl⟩ rfl rfl (Nat.le_of_ble_eq_true rfl) ⟨⟨by decide, by decide⟩, by decide, by decide⟩ (fun I28 L29 eI28 eL29 => ?_)
                  replace eL29 := eL29.symm; subst eL29
                  refine x_iload 196 C dX2_readTerm_196 5 rfl ?_
                  refine x_iret 198 C dX2_readTerm_198 rfl (by first | (rw [show b = 0 by omega]; rfl) | (rw [show b = 1 by omega]; rfl)) (Nat.le_refl _) (xN.intro ?_)
                  have hen : tEnd t N r = q := by unfold tEnd; rw [hE]
                  have htm : tTm t N r = tm i j := by unfold tTm; rw [hE]
                  have hok : tOk t N r = true := by unfold tOk; rw [hE]; simp; omega
                  have hsg : tSg t N r mi = if mi = 1 then -(nI v) else nI v := by unfold tSg; rw [hv]
                  refine ⟨by rw [hok, show b = 1 by omega]; rfl, ?_, rfl⟩
                  rw [if_pos hok, eI28, hI, hen, htm, tRe, tIi, hsg, him]
                  first | rw [if_pos hi1, if_pos hi1, if_pos (show mi = 1 by omega)] | rw [if_pos hi1, if_pos hi1, if_neg (show ¬ mi = 1 by omega)] | rw [if_neg hi1, if_neg hi1, if_pos (show mi = 1 by omega)] | rw [if_neg hi1, if_neg hi1, if_neg (show ¬ mi = 1 by omega)]
          refine x_icmp_gt 60 C 148 dX2_readTerm_60 (by decide) (fun c9 => ?_) (fun c9 => ?_)
          · skip
            have c9n : 60 < k := (nI_ltI (a := 60) (b := k) (by omega) (by omega)).mp c9
            have c9m : ¬ (k ≤ 60) := by omega
            have c9o := Int32.not_le.mpr c9
            refine x_sub [(0, .ref T), (1, .int (nI mi)), (2, .int (nI v)), (3, .int (nI im)), (4, .int (nI b)), (5, .int (nI i)), (6, .int (nI j))] [0, 1, 2, 3, 4, 5, 6] rfl ?_
            first | exact join148 () (by rw [hS, show 61 - k = 0 by omega]; rfl) | exact join148 () (by rw [hS, show 61 - k = (61 - (k + 1)) + 1 by omega]; simp only [facs]; exact if_neg (by rw [hb]; decide))
          · skip
            have c9n : ¬ (60 < k) := fun h => c9 ((nI_ltI (a := 60) (b := k) (by omega) (by omega)).mpr h)
            have c9m : k ≤ 60 := by omega
            have c9o := Int32.not_lt.mp c9
            refine x_aload_n 63 C dX2_readTerm_63 rfl 0 rfl ?_
            refine x_callVe 64 C dX2_readTerm_64 (As := []) (rest := []) [.int (nI (sg t N q))] (t_X2_signHere l D z n G Ik L T t N q hX hTk hC hq) mt_X2_signHere km_X2_30 ki_X2_signHere ks_X2_signHere hX.1 ⟨by decide, rfl⟩ rfl rfl (Nat.le_of_ble_eq_true rfl) ⟨⟨by decide, by decide⟩, by decide, by decide⟩ (fun I30 L31 eI30 eL31 => ?_)
            replace eI30 := eI30.symm; subst eI30
            replace eL31 := eL31.symm; subst eL31
            have hs_e := sg_le hC q
            refine x_callSe 67 C dX2_readTerm_67 (As := [.int (nI (sg t N q))]) (rest := []) [.int (bI (unk (sg t N q)))] (t_X2_isUnknown l D z n G Ik L (sg t N q) (by first | omega | assumption | decide)) mt_X2_isUnknown km_X2_45 kt_X2_isUnknown rfl rfl (Nat.le_of_ble_eq_true rfl) ⟨⟨by decide, by decide⟩, by decide, by decide⟩ (fun I32 L33 eI32 eL33 => ?_)
            replace eI32 := eI32.symm; subst eI32
            replace eL33 := eL33.symm; subst eL33
            refine x_if_eq 70 C 148 dX2_readTerm_70 (by decide) (fun c34 => ?_) (fun c34 => ?_)
            · skip
              have hb : _ := bI_0.mp c34
              refine x_sub [(0, .ref T), (1, .int (nI mi)), (2, .int (nI v)), (3, .int (nI im)), (4, .int (nI b)), (5, .int (nI i)), (6, .int (nI j))] [0, 1, 2, 3, 4, 5, 6] rfl ?_
              first | exact join148 () (by rw [hS, show 61 - k = 0 by omega]; rfl) | exact join148 () (by rw [hS, show 61 - k = (61 - (k + 1)) + 1 by omega]; simp only [facs]; exact if_neg (by rw [hb]; decide))
            · skip
              have hb : _ := bI_n0.mp c34
              have hu2 := unk_b.mp hb
              have hlt := sg_lt (t := t) (N := N) (r := q) (by omega)
              refine x_aload_n 73 C dX2_readTerm_73 rfl 0 rfl ?_
              refine x_callVe 74 C dX2_readTerm_74 (As := []) (rest := []) [.int (nI (sg t N q))] (t_X2_signHere l D z n G Ik L T t N q hX hTk hC hq) mt_X2_signHere km_X2_30 ki_X2_signHere ks_X2_signHere hX.1 ⟨by decide, rfl⟩ rfl rfl (Nat.le_of_ble_eq_true rfl) ⟨⟨by decide, by decide⟩, by decide, by decide⟩ (fun I35 L36 eI35 eL36 => ?_)
              replace eI35 := eI35.symm; subst eI35
              replace eL36 := eL36.symm; subst eL36
              refine x_bipush 77 C (v := 120) dX2_readTerm_77 rfl ?_
              refine x_icmp_ne 79 C 86 dX2_readTerm_79 (by decide) (fun c37 => ?_) (fun c37 => ?_)
              · skip
                have c37n : ¬ ((sg t N q) = 120) := fun h => c37 ((nI_eq (a := (sg t N q)) (b := 120) (by omega) (by omega)).mpr h)
                have h120 : ¬ sg t N q = 120 := c37n
                refine x_iconst 86 C (v := 0) dX2_readTerm_86 rfl ?_
                refine x_istore 87 C [(8, .int 0), (0, .ref T), (1, .int (nI mi)), (2, .int (nI v)), (3, .int (nI im)), (4, .int (nI b)), (5, .int (nI i)), (6, .int (nI j)), (7, .int (nI k))] dX2_readTerm_87 (by decide) rfl ?_
                refine x_aload_n 89 C dX2_readTerm_89 rfl 1 rfl ?_
                refine x_iload 90 C dX2_readTerm_90 6 rfl ?_
                refine x_iload 92 C dX2_readTerm_92 7 rfl ?_
                refine x_iadd 94 C dX2_readTerm_94 ?_
                refine x_int (nI (i + j)) (nI_add i j) ?_
                refine x_callVe 95 C dX2_readTerm_95 (As := [.int (nI (i + j))]) (rest := []) [.int (nI ((fac t N (i + j) q).1))] (t_X2_readFactor l D z n G Ik L T t N q (i + j) hX (by omega) hTk hC hlt hij) mt_X2_readFactor km_X2_48 ki_X2_readFactor ks_X2_readFactor hX.1 ⟨by decide, rfl⟩ rfl rfl (Nat.le_of_ble_eq_true rfl) ⟨⟨by decide, by decide⟩, by decide, by decide⟩ (fun I38 L39 eI38 eL39 => ?_)
                replace eL39 := eL39.symm; subst eL39
                have hfo := fac_ok (t := t) (d := i + j) hlt
                have hfo1 := hfo.1 hij
                have hfo2 := hfo.2.2.1
                refine x_istore 98 C [(9, .int (nI ((fac t N (i + j) q).1))), (8, .int 0), (0, .ref T), (1, .int (nI mi)), (2, .int (nI v)), (3, .int (nI im)), (4, .int (nI b)), (5, .int (nI i)), (6, .int (nI j)), (7, .int (nI k))] dX2_readTerm_98 (by decide) rfl ?_
                refine x_iload 100 C dX2_readTerm_100 0 rfl ?_
                refine x_if_ne 102 C 107 dX2_readTerm_102 (by decide) (fun c40 => ?_) (fun c40 => ?_)
                · skip
                  have c40n : ¬ (((fac t N (i + j) q).1) = 0) := fun h => c40 ((nI_eq (a := ((fac t N (i + j) q).1)) (b := 0) (by omega) (by omega)).mpr h)
                  have h0f : ¬ (fac t N (i + j) q).1 = 0 := c40n
                  refine x_iload 107 C dX2_readTerm_107 7 rfl ?_
                  refine x_iload 109 C dX2_readTerm_109 1 rfl ?_
                  refine x_if_eq 111 C 119 dX2_readTerm_111 (by decide) (fun _ => ?_) (fun c41 => absurd (by decide) c41)
                  refine x_iconst 119 C (v := 0) dX2_readTerm_119 rfl ?_
                  refine x_iadd 120 C dX2_readTerm_120 ?_
                  refine x_int (nI (i + 0)) (nI_add i 0) ?_
                  refine x_istore 121 C [(5, .int (nI (i + 0))), (9, .int (nI ((fac t N (i + j) q).1))), (8, .int 0), (0, .ref T), (1, .int (nI mi)), (2, .int (nI v)), (3, .int (nI im)), (4, .int (nI b)), (6, .int (nI j)), (7, .int (nI k))] dX2_readTerm_121 (by decide) rfl ?_
                  refine x_iload 123 C dX2_readTerm_123 8 rfl ?_
                  refine x_iload 125 C dX2_readTerm_125 2 rfl ?_
                  refine x_if_eq 127 C 134 dX2_readTerm_127 (by decide) (fun _ => ?_) (fun c42 => absurd (by decide) c42)
                  refine x_iload 134 C dX2_readTerm_134 1 rfl ?_
                  refine x_iadd 136 C dX2_readTerm_136 ?_
                  refine x_int (nI (j + ((fac t N (i + j) q).1))) (nI_add j ((fac t N (i + j) q).1)) ?_
                  refine x_istore 137 C [(6, .int (nI (j + ((fac t N (i + j) q).1)))), (5, .int (nI (i + 0))), (9, .int (nI ((fac t N (i + j) q).1))), (8, .int 0), (0, .ref T), (1, .int (nI mi)), (2, .int (nI v)), (3, .int (nI im)), (4, .int (nI b)), (7, .int (nI k))] dX2_readTerm_137 (by decide) rfl ?_
                  refine x_iconst 139 C (v := 1) dX2_readTerm_139 rfl ?_
                  refine x_istore 140 C [(4, .int 1), (6, .int (nI (j + ((fac t N (i + j) q).1)))), (5, .int (nI (i + 0))), (9, .int (nI ((fac t N (i + j) q).1))), (8, .int 0), (0, .ref T), (1, .int (nI mi)), (2, .int (nI v)), (3, .int (nI im)), (7, .int (nI k))] dX2_readTerm_140 (by decide) rfl ?_
                  refine x_iinc 142 C [(7, .int (nI (k + 1))), (4, .int 1), (6, .int (nI (j + ((fac t N (i + j) q).1)))), (5, .int (nI (i + 0))), (9, .int (nI ((fac t N (i + j) q).1))), (8, .int 0), (0, .ref T), (1, .int (nI mi)), (2, .int (nI v)), (3, .int (nI im))] dX2_readTerm_142 9 rfl (nI_add k 1) (by decide) rfl ?_
                  refine x_goto 145 C 56 dX2_readTerm_145 (by decide) ?_
                  refine x_sub [(0, .ref T), (1, .int (nI mi)), (2, .int (nI v)), (3, .int (nI im)), (4, .int 1), (5, .int (nI (i + 0))), (6, .int (nI (j + ((fac t N (i + j) q).1)))), (7, .int (nI (k + 1)))] [6, 7, 8, 9, 1, 3, 2, 0] rfl ?_
                  exact ih (k + 1) i (j + (fac t N (i + j) q).1) (fac t N (i + j) q).2 1 I38 (by omega) (by omega) (by rw [eI38, hI, xup2]) (by omega) (by omega) (by omega) (by rw [hS, show 61 - k = (61 - (k + 1)) + 1 by omega]; simp only [facs]; rw [if_pos hb, if_neg h0f, if_neg h120])
                · skip
                  have c40n : ((fac t N (i + j) q).1) = 0 := (nI_eq (a := ((fac t N (i + j) q).1)) (b := 0) (by omega) (by omega)).mp c40
                  have h0f : (fac t N (i + j) q).1 = 0 := c40n
                  refine x_iconst 105 C (v := 0) dX2_readTerm_105 rfl ?_
                  refine x_iret 106 C dX2_readTerm_106 rfl rfl (Nat.le_refl _) (xN.intro ?_)
                  have hE : tFac t N r = (false, i, j, (fac t N (i + j) q).2, b) := by rw [hS, show 61 - k = (61 - (k + 1)) + 1 by omega]; simp only [facs]; rw [if_pos hb, if_pos h0f]
                  have hok : ¬ tOk t N r = true := by unfold tOk; rw [hE]; simp
                  have hen : tEnd t N r = (fac t N (i + j) q).2 := by unfold tEnd; rw [hE]
                  exact ⟨by rw [(Bool.not_eq_true _).mp hok]; rfl, by rw [if_neg hok, eI38, hI, xup2, hen], rfl⟩
              · skip
                have c37n : (sg t N q) = 120 := (nI_eq (a := (sg t N q)) (b := 120) (by omega) (by omega)).mp c37
                have h120 : sg t N q = 120 := c37n
                refine x_iconst 82 C (v := 1) dX2_readTerm_82 rfl ?_
                refine x_goto 83 C 87 dX2_readTerm_83 (by decide) ?_
                refine x_istore 87 C [(8, .int 1), (0, .ref T), (1, .int (nI mi)), (2, .int (nI v)), (3, .int (nI im)), (4, .int (nI b)), (5, .int (nI i)), (6, .int (nI j)), (7, .int (nI k))] dX2_readTerm_87 (by decide) rfl ?_
                refine x_aload_n 89 C dX2_readTerm_89 rfl 1 rfl ?_
                refine x_iload 90 C dX2_readTerm_90 6 rfl ?_
                refine x_iload 92 C dX2_readTerm_92 7 rfl ?_
                refine x_iadd 94 C dX2_readTerm_94 ?_
                refine x_int (nI (i + j)) (nI_add i j) ?_
                refine x_callVe 95 C dX2_readTerm_95 (As := [.int (nI (i + j))]) (rest := []) [.int (nI ((fac t N (i + j) q).1))] (t_X2_readFactor l D z n G Ik L T t N q (i + j) hX (by omega) hTk hC hlt hij) mt_X2_readFactor km_X2_48 ki_X2_readFactor ks_X2_readFactor hX.1 ⟨by decide, rfl⟩ rfl rfl (Nat.le_of_ble_eq_true rfl) ⟨⟨by decide, by decide⟩, by decide, by decide⟩ (fun I43 L44 eI43 eL44 => ?_)
                replace eL44 := eL44.symm; subst eL44
                have hfo := fac_ok (t := t) (d := i + j) hlt
                have hfo1 := hfo.1 hij
                have hfo2 := hfo.2.2.1
                refine x_istore 98 C [(9, .int (nI ((fac t N (i + j) q).1))), (8, .int 1), (0, .ref T), (1, .int (nI mi)), (2, .int (nI v)), (3, .int (nI im)), (4, .int (nI b)), (5, .int (nI i)), (6, .int (nI j)), (7, .int (nI k))] dX2_readTerm_98 (by decide) rfl ?_
                refine x_iload 100 C dX2_readTerm_100 0 rfl ?_
                refine x_if_ne 102 C 107 dX2_readTerm_102 (by decide) (fun c45 => ?_) (fun c45 => ?_)
                · skip
                  have c45n : ¬ (((fac t N (i + j) q).1) = 0) := fun h => c45 ((nI_eq (a := ((fac t N (i + j) q).1)) (b := 0) (by omega) (by omega)).mpr h)
                  have h0f : ¬ (fac t N (i + j) q).1 = 0 := c45n
                  refine x_iload 107 C dX2_readTerm_107 7 rfl ?_
                  refine x_iload 109 C dX2_readTerm_109 1 rfl ?_
                  refine x_if_eq 111 C 119 dX2_readTerm_111 (by decide) (fun c46 => absurd c46 (by decide)) (fun _ => ?_)
                  refine x_iload 114 C dX2_readTerm_114 0 rfl ?_
                  refine x_goto 116 C 120 dX2_readTerm_116 (by decide) ?_
                  refine x_iadd 120 C dX2_readTerm_120 ?_
                  refine x_int (nI (i + ((fac t N (i + j) q).1))) (nI_add i ((fac t N (i + j) q).1)) ?_
                  refine x_istore 121 C [(5, .int (nI (i + ((fac t N (i + j) q).1)))), (9, .int (nI ((fac t N (i + j) q).1))), (8, .int 1), (0, .ref T), (1, .int (nI mi)), (2, .int (nI v)), (3, .int (nI im)), (4, .int (nI b)), (6, .int (nI j)), (7, .int (nI k))] dX2_readTerm_121 (by decide) rfl ?_
                  refine x_iload 123 C dX2_readTerm_123 8 rfl ?_
                  refine x_iload 125 C dX2_readTerm_125 2 rfl ?_
                  refine x_if_eq 127 C 134 dX2_readTerm_127 (by decide) (fun c47 => absurd c47 (by decide)) (fun _ => ?_)
                  refine x_iconst 130 C (v := 0) dX2_readTerm_130 rfl ?_
                  refine x_goto 131 C 136 dX2_readTerm_131 (by decide) ?_
                  refine x_iadd 136 C dX2_readTerm_136 ?_
                  refine x_int (nI (j + 0)) (nI_add j 0) ?_
                  refine x_istore 137 C [(6, .int (nI (j + 0))), (5, .int (nI (i + ((fac t N (i + j) q).1)))), (9, .int (nI ((fac t N (i + j) q).1))), (8, .int 1), (0, .ref T), (1, .int (nI mi)), (2, .int (nI v)), (3, .int (nI im)), (4, .int (nI b)), (7, .int (nI k))] dX2_readTerm_137 (by decide) rfl ?_
                  refine x_iconst 139 C (v := 1) dX2_readTerm_139 rfl ?_
                  refine x_istore 140 C [(4, .int 1), (6, .int (nI (j + 0))), (5, .int (nI (i + ((fac t N (i + j) q).1)))), (9, .int (nI ((fac t N (i + j) q).1))), (8, .int 1), (0, .ref T), (1, .int (nI mi)), (2, .int (nI v)), (3, .int (nI im)), (7, .int (nI k))] dX2_readTerm_140 (by decide) rfl ?_
                  refine x_iinc 142 C [(7, .int (nI (k + 1))), (4, .int 1), (6, .int (nI (j + 0))), (5, .int (nI (i + ((fac t N (i + j) q).1)))), (9, .int (nI ((fac t N (i + j) q).1))), (8, .int 1), (0, .ref T), (1, .int (nI mi)), (2, .int (nI v)), (3, .int (nI im))] dX2_readTerm_142 9 rfl (nI_add k 1) (by decide) rfl ?_
                  refine x_goto 145 C 56 dX2_readTerm_145 (by decide) ?_
                  refine x_sub [(0, .ref T), (1, .int (nI mi)), (2, .int (nI v)), (3, .int (nI im)), (4, .int 1), (5, .int (nI (i + ((fac t N (i + j) q).1)))), (6, .int (nI (j + 0))), (7, .int (nI (k + 1)))] [6, 7, 8, 9, 1, 3, 2, 0] rfl ?_
                  exact ih (k + 1) (i + (fac t N (i + j) q).1) j (fac t N (i + j) q).2 1 I43 (by omega) (by omega) (by rw [eI43, hI, xup2]) (by omega) (by omega) (by omega) (by rw [hS, show 61 - k = (61 - (k + 1)) + 1 by omega]; simp only [facs]; rw [if_pos hb, if_neg h0f, if_pos h120])
                · skip
                  have c45n : ((fac t N (i + j) q).1) = 0 := (nI_eq (a := ((fac t N (i + j) q).1)) (b := 0) (by omega) (by omega)).mp c45
                  have h0f : (fac t N (i + j) q).1 = 0 := c45n
                  refine x_iconst 105 C (v := 0) dX2_readTerm_105 rfl ?_
                  refine x_iret 106 C dX2_readTerm_106 rfl rfl (Nat.le_refl _) (xN.intro ?_)
                  have hE : tFac t N r = (false, i, j, (fac t N (i + j) q).2, b) := by rw [hS, show 61 - k = (61 - (k + 1)) + 1 by omega]; simp only [facs]; rw [if_pos hb, if_pos h0f]
                  have hok : ¬ tOk t N r = true := by unfold tOk; rw [hE]; simp
                  have hen : tEnd t N r = (fac t N (i + j) q).2 := by unfold tEnd; rw [hE]
                  exact ⟨by rw [(Bool.not_eq_true _).mp hok]; rfl, by rw [if_neg hok, eI43, hI, xup2, hen], rfl⟩
      refine x_sub [(0, .ref T), (1, .int (nI mi)), (2, .int (nI v)), (3, .int (nI im)), (4, .int (nI b0)), (5, .int 0), (6, .int 0), (7, .int 0)] [3, 4, 5, 6, 7, 2, 1, 0] rfl ?_
      exact loop56 62 0 0 0 r2 b0 I2 (by omega) (by omega) hI2 (by omega) (by omega) (by omega) (by show facs t N 61 0 0 (tR2 t N r) (tB0 t N r) = _; rw [hR2, hB])
    refine x_icmp_ne 29 C 47 dX2_readTerm_29 (by decide) (fun c8 => ?_) (fun c8 => ?_)
    · skip
      have c8n : ¬ ((sg t N r1) = 105) := fun h => c8 ((nI_eq (a := (sg t N r1)) (b := 105) (by omega) (by omega)).mpr h)
      have h105 : ¬ sg t N r1 = 105 := c8n
      refine x_sub [(0, .ref T), (1, .int (nI mi)), (2, .int (nI v)), (3, .int 0), (4, .int (bI (dgt (sg t N r))))] [0, 1, 2, 3, 4] rfl ?_
      refine x_lv [(0, .ref T), (1, .int (nI mi)), (2, .int (nI v)), (3, .int 0), (4, .int (nI (if dgt (sg t N r) = true then 1 else 0)))] (by rw [bI_nI]) ?_
      exact join47 0 (if dgt (sg t N r) = true then 1 else 0) r1 I1 hI1 (by unfold tIm; rw [hv]; exact if_neg h105) (by unfold tR2 tIm; rw [hv]; simp only [if_neg h105]; rfl) (by unfold tB0; rw [hv]; exact if_neg h105) (by split <;> omega) (by omega)
    · skip
      have c8n : (sg t N r1) = 105 := (nI_eq (a := (sg t N r1)) (b := 105) (by omega) (by omega)).mp c8
      have h105 : sg t N r1 = 105 := c8n
      have hlt1 := sg_lt (t := t) (N := N) (r := r1) (by omega)
      refine x_iconst 32 C (v := 1) dX2_readTerm_32 rfl ?_
      refine x_istore_n 33 C [(3, .int 1), (0, .ref T), (1, .int (nI mi)), (2, .int (nI v)), (4, .int (bI (dgt (sg t N r))))] dX2_readTerm_33 rfl (by decide) rfl ?_
      refine x_iconst 34 C (v := 1) dX2_readTerm_34 rfl ?_
      refine x_istore 35 C [(4, .int 1), (3, .int 1), (0, .ref T), (1, .int (nI mi)), (2, .int (nI v))] dX2_readTerm_35 (by decide) rfl ?_
      refine x_aload_n 37 C dX2_readTerm_37 rfl 2 rfl ?_
      refine x_dup 38 C dX2_readTerm_38 rfl ?_
      refine x_geti 39 C dX2_readTerm_39 ff_X2_24 hX.1 ?_
      refine x_int (nI r1) hT1.2.2 ?_
      refine x_iconst 42 C (v := 1) dX2_readTerm_42 rfl ?_
      refine x_iadd 43 C dX2_readTerm_43 ?_
      refine x_int (nI (r1 + 1)) (nI_add r1 1) ?_
      refine x_puti 44 C dX2_readTerm_44 ff_X2_24 rfl hX.1 (by omega) (fun I48 eI48 => ?_)
      refine x_sub [(0, .ref T), (1, .int (nI mi)), (2, .int (nI v)), (3, .int 1), (4, .int 1)] [2, 3, 4, 1, 0] rfl ?_
      exact join47 1 1 (r1 + 1) I48 (by rw [eI48, hI1, xup2]) (by unfold tIm; rw [hv]; exact if_pos h105) (by unfold tR2 tIm; rw [hv]; simp only [if_pos h105]) (by unfold tB0; rw [hv]; exact if_pos h105) (by omega) (by omega)
  refine x_if_eq 15 C 23 dX2_readTerm_15 (by decide) (fun c5 => ?_) (fun c5 => ?_)
  · skip
    have hb : _ := bI_0.mp c5
    refine x_sub [(0, .ref T), (1, .int (nI mi)), (2, .int 1), (3, .int 0), (4, .int (bI (dgt (sg t N r))))] [3, 4, 2, 1, 0] rfl ?_
    exact join23 1 r I (tx_self hT) (by unfold tNum; exact if_neg (by rw [hb]; decide))
  · skip
    have hb : _ := bI_n0.mp c5
    refine x_aload_n 18 C dX2_readTerm_18 rfl 3 rfl ?_
    refine x_callVe 19 C dX2_readTerm_19 (As := []) (rest := []) [.int (nI ((numb t N 3 r 0).1))] (t_X2_readNumber l D z n G I L T t N r hX (by omega) hT hC hr) mt_X2_readNumber km_X2_42 ki_X2_readNumber ks_X2_readNumber hX.1 ⟨by decide, rfl⟩ rfl rfl (Nat.le_of_ble_eq_true rfl) ⟨⟨by decide, by decide⟩, by decide, by decide⟩ (fun I49 L50 eI49 eL50 => ?_)
    replace eL50 := eL50.symm; subst eL50
    refine x_istore_n 22 C [(2, .int (nI ((numb t N 3 r 0).1))), (4, .int (bI (dgt (sg t N r)))), (3, .int 0), (0, .ref T), (1, .int (nI mi))] dX2_readTerm_22 rfl (by decide) rfl ?_
    refine x_sub [(0, .ref T), (1, .int (nI mi)), (2, .int (nI ((numb t N 3 r 0).1))), (3, .int 0), (4, .int (bI (dgt (sg t N r))))] [3, 4, 0, 2, 1] rfl ?_
    exact join23 (numb t N 3 r 0).1 (numb t N 3 r 0).2 I49 (by rw [eI49]) (by unfold tNum; exact if_pos hb)
theorem dX2_read_0 : decode cX2_read 0 = .ok (.aload_n 0, 1) := by decide +kernel
theorem dX2_read_1 : decode cX2_read 1 = .ok (.getfield 16, 3) := by decide +kernel
theorem dX2_read_4 : decode cX2_read 4 = .ok (.invokevirtual 27, 3) := by decide +kernel
theorem dX2_read_7 : decode cX2_read 7 = .ok (.aload_n 0, 1) := by decide +kernel
theorem dX2_read_8 : decode cX2_read 8 = .ok (.iconst 0, 1) := by decide +kernel
theorem dX2_read_9 : decode cX2_read 9 = .ok (.putfield 24, 3) := by decide +kernel
theorem dX2_read_12 : decode cX2_read 12 = .ok (.aload_n 0, 1) := by decide +kernel
theorem dX2_read_13 : decode cX2_read 13 = .ok (.invokevirtual 30, 3) := by decide +kernel
theorem dX2_read_16 : decode cX2_read 16 = .ok (.bipush 45, 2) := by decide +kernel
theorem dX2_read_18 : decode cX2_read 18 = .ok (.if_icmp .ne 7, 3) := by decide +kernel
theorem dX2_read_21 : decode cX2_read 21 = .ok (.iconst 1, 1) := by decide +kernel
theorem dX2_read_22 : decode cX2_read 22 = .ok (.goto 4, 3) := by decide +kernel
theorem dX2_read_25 : decode cX2_read 25 = .ok (.iconst 0, 1) := by decide +kernel
theorem dX2_read_26 : decode cX2_read 26 = .ok (.istore_n 1, 1) := by decide +kernel
theorem dX2_read_27 : decode cX2_read 27 = .ok (.iload_n 1, 1) := by decide +kernel
theorem dX2_read_28 : decode cX2_read 28 = .ok (.ifCond .eq 13, 3) := by decide +kernel
theorem dX2_read_31 : decode cX2_read 31 = .ok (.aload_n 0, 1) := by decide +kernel
theorem dX2_read_32 : decode cX2_read 32 = .ok (.dup, 1) := by decide +kernel
theorem dX2_read_33 : decode cX2_read 33 = .ok (.getfield 24, 3) := by decide +kernel
theorem dX2_read_36 : decode cX2_read 36 = .ok (.iconst 1, 1) := by decide +kernel
theorem dX2_read_37 : decode cX2_read 37 = .ok (.iadd, 1) := by decide +kernel
theorem dX2_read_38 : decode cX2_read 38 = .ok (.putfield 24, 3) := by decide +kernel
theorem dX2_read_41 : decode cX2_read 41 = .ok (.iconst 0, 1) := by decide +kernel
theorem dX2_read_42 : decode cX2_read 42 = .ok (.istore_n 2, 1) := by decide +kernel
theorem dX2_read_43 : decode cX2_read 43 = .ok (.iload_n 2, 1) := by decide +kernel
theorem dX2_read_44 : decode cX2_read 44 = .ok (.bipush 60, 2) := by decide +kernel
theorem dX2_read_46 : decode cX2_read 46 = .ok (.if_icmp .gt 73, 3) := by decide +kernel
theorem dX2_read_49 : decode cX2_read 49 = .ok (.aload_n 0, 1) := by decide +kernel
theorem dX2_read_50 : decode cX2_read 50 = .ok (.iload_n 1, 1) := by decide +kernel
theorem dX2_read_51 : decode cX2_read 51 = .ok (.invokevirtual 34, 3) := by decide +kernel
theorem dX2_read_54 : decode cX2_read 54 = .ok (.ifCond .ne 5, 3) := by decide +kernel
theorem dX2_read_57 : decode cX2_read 57 = .ok (.iconst 0, 1) := by decide +kernel
theorem dX2_read_58 : decode cX2_read 58 = .ok (.ireturn, 1) := by decide +kernel
theorem dX2_read_59 : decode cX2_read 59 = .ok (.aload_n 0, 1) := by decide +kernel
theorem dX2_read_60 : decode cX2_read 60 = .ok (.getfield 24, 3) := by decide +kernel
theorem dX2_read_63 : decode cX2_read 63 = .ok (.aload_n 0, 1) := by decide +kernel
theorem dX2_read_64 : decode cX2_read 64 = .ok (.getfield 20, 3) := by decide +kernel
theorem dX2_read_67 : decode cX2_read 67 = .ok (.if_icmp .lt 5, 3) := by decide +kernel
theorem dX2_read_70 : decode cX2_read 70 = .ok (.iconst 1, 1) := by decide +kernel
theorem dX2_read_71 : decode cX2_read 71 = .ok (.ireturn, 1) := by decide +kernel
theorem dX2_read_72 : decode cX2_read 72 = .ok (.aload_n 0, 1) := by decide +kernel
theorem dX2_read_73 : decode cX2_read 73 = .ok (.invokevirtual 30, 3) := by decide +kernel
theorem dX2_read_76 : decode cX2_read 76 = .ok (.istore_n 3, 1) := by decide +kernel
theorem dX2_read_77 : decode cX2_read 77 = .ok (.iload_n 3, 1) := by decide +kernel
theorem dX2_read_78 : decode cX2_read 78 = .ok (.bipush 43, 2) := by decide +kernel
theorem dX2_read_80 : decode cX2_read 80 = .ok (.if_icmp .eq 11, 3) := by decide +kernel
theorem dX2_read_83 : decode cX2_read 83 = .ok (.iload_n 3, 1) := by decide +kernel
theorem dX2_read_84 : decode cX2_read 84 = .ok (.bipush 45, 2) := by decide +kernel
theorem dX2_read_86 : decode cX2_read 86 = .ok (.if_icmp .eq 5, 3) := by decide +kernel
theorem dX2_read_89 : decode cX2_read 89 = .ok (.iconst 0, 1) := by decide +kernel
theorem dX2_read_90 : decode cX2_read 90 = .ok (.ireturn, 1) := by decide +kernel
theorem dX2_read_91 : decode cX2_read 91 = .ok (.iload_n 3, 1) := by decide +kernel
theorem dX2_read_92 : decode cX2_read 92 = .ok (.bipush 45, 2) := by decide +kernel
theorem dX2_read_94 : decode cX2_read 94 = .ok (.if_icmp .ne 7, 3) := by decide +kernel
theorem dX2_read_97 : decode cX2_read 97 = .ok (.iconst 1, 1) := by decide +kernel
theorem dX2_read_98 : decode cX2_read 98 = .ok (.goto 4, 3) := by decide +kernel
theorem dX2_read_101 : decode cX2_read 101 = .ok (.iconst 0, 1) := by decide +kernel
theorem dX2_read_102 : decode cX2_read 102 = .ok (.istore_n 1, 1) := by decide +kernel
theorem dX2_read_103 : decode cX2_read 103 = .ok (.aload_n 0, 1) := by decide +kernel
theorem dX2_read_104 : decode cX2_read 104 = .ok (.dup, 1) := by decide +kernel
theorem dX2_read_105 : decode cX2_read 105 = .ok (.getfield 24, 3) := by decide +kernel
theorem dX2_read_108 : decode cX2_read 108 = .ok (.iconst 1, 1) := by decide +kernel
theorem dX2_read_109 : decode cX2_read 109 = .ok (.iadd, 1) := by decide +kernel
theorem dX2_read_110 : decode cX2_read 110 = .ok (.putfield 24, 3) := by decide +kernel
theorem dX2_read_113 : decode cX2_read 113 = .ok (.iinc 2 1, 3) := by decide +kernel
theorem dX2_read_116 : decode cX2_read 116 = .ok (.goto (-73), 3) := by decide +kernel
theorem dX2_read_119 : decode cX2_read 119 = .ok (.iconst 0, 1) := by decide +kernel
theorem dX2_read_120 : decode cX2_read 120 = .ok (.ireturn, 1) := by decide +kernel
set_option maxHeartbeats 1000000 in
set_option maxRecDepth 100000 in
theorem t_X2_read (l : Launch) (D : xD) (z n : Nat) (G : xG) (I : xI) (L : xL) (T : Nat) (t : Nat → Nat) (N : Nat) (r : Nat) (hX : shX G T) (zT : z ≤ T) (hT : tx I T t N r) (hC : txc t N) : xM0 l D z yX2_read cX2_read 4 (some .boolean) 4 97 [.ref T] n G I L (xE (some (.int (bI (rdAll t N).1))) (xup (eqFill I (T + 2) 10 (rdAll t N).2.2.1 (rdAll t N).2.2.2) T 3 (nI (rdAll t N).2.1)) L) := by
  refine xM.of (by decide) (Nat.le_of_ble_eq_true rfl) (fun p e s m args below meth c C hnm hsz => ?_)
  refine x_lv [(0, .ref T)] rfl ?_
  have hN6 := hC.1
  refine x_aload_n 0 C dX2_read_0 rfl 0 rfl ?_
  refine x_getr 1 C (b := T + 2) dX2_read_1 ff_X2_16 rfl hX.1 rfl ?_
  refine x_callVe 4 C dX2_read_4 (As := []) (rest := []) [] (t_X1_clear l D z n G I L (T + 2) hX.2.2 (by omega)) mt_X1_clear km_X2_27 ki_X1_clear ks_X1_clear hX.2.2.1 ⟨by decide, rfl⟩ rfl rfl (Nat.le_of_ble_eq_true rfl) ⟨⟨by decide, by decide⟩, by decide, by decide⟩ (fun I1 L2 eI1 eL2 => ?_)
  replace eL2 := eL2.symm; subst eL2
  refine x_aload_n 7 C dX2_read_7 rfl 0 rfl ?_
  refine x_iconst 8 C (v := 0) dX2_read_8 rfl ?_
  refine x_puti 9 C dX2_read_9 ff_X2_24 rfl hX.1 (by omega) (fun I3 eI3 => ?_)
  have hT2 : tx I3 T t N 0 := by rw [eI3, eI1]; exact tx_up (tx_fill hT _ _) 0
  refine x_aload_n 12 C dX2_read_12 rfl 0 rfl ?_
  refine x_callVe 13 C dX2_read_13 (As := []) (rest := []) [.int (nI (sg t N 0))] (t_X2_signHere l D z n G I3 L T t N 0 hX hT2 hC (by omega)) mt_X2_signHere km_X2_30 ki_X2_signHere ks_X2_signHere hX.1 ⟨by decide, rfl⟩ rfl rfl (Nat.le_of_ble_eq_true rfl) ⟨⟨by decide, by decide⟩, by decide, by decide⟩ (fun I4 L5 eI4 eL5 => ?_)
  replace eI4 := eI4.symm; subst eI4
  replace eL5 := eL5.symm; subst eL5
  have hs_a := sg_le hC 0
  refine x_bipush 16 C (v := 45) dX2_read_16 rfl ?_
  have join41 : ∀ (q mi : Nat) (I1 : xI), (I1 = xup (eqFill I (T + 2) 10 (fun _ => 0) (fun _ => 0)) T 3 (nI q)) → (q ≤ N) → (mi < 2) → (rdAll t N = rds t N 61 q mi (fun _ => 0) (fun _ => 0)) → X p l e (xRm 4 97 0 0) s m args below meth c D z 4 (MQ below (xQc D z n (xN n G (xE (some (.int (bI (rdAll t N).1))) (xup (eqFill I (T + 2) 10 (rdAll t N).2.2.1 (rdAll t N).2.2.2) T 3 (nI (rdAll t N).2.1)) L))) args s 0 0 (fun a => z ≤ a)) 0 0 n G I1 L 41 [(0, .ref T), (1, .int (nI mi))] [] := by
    intro q mi I1 hI1 hq1 hmi1 hS1
    refine x_iconst 41 C (v := 0) dX2_read_41 rfl ?_
    refine x_istore_n 42 C [(2, .int 0), (0, .ref T), (1, .int (nI mi))] dX2_read_42 rfl (by decide) rfl ?_
    have loop43 : ∀ (fuel : Nat) (k q mi : Nat) (f g : Nat → Int32) (Ik : xI), (k ≤ 61) → (62 ≤ k + fuel) → (Ik = xup (eqFill I (T + 2) 10 f g) T 3 (nI q)) → (q ≤ N) → (mi < 2) → (rdAll t N = rds t N (61 - k) q mi f g) → X p l e (xRm 4 97 0 0) s m args below meth c D z 4 (MQ below (xQc D z n (xN n G (xE (some (.int (bI (rdAll t N).1))) (xup (eqFill I (T + 2) 10 (rdAll t N).2.2.1 (rdAll t N).2.2.2) T 3 (nI (rdAll t N).2.1)) L))) args s 0 0 (fun a => z ≤ a)) 0 0 n G Ik L 43 [(0, .ref T), (1, .int (nI mi)), (2, .int (nI k))] [] := by
      intro fuel
      induction fuel with
      | zero =>
        intro k q mi f g Ik hk hf hI hq hmi hS
        exact absurd hf (by omega)
      | succ fuel ih =>
        intro k q mi f g Ik hk hf hI hq hmi hS
        have hTk : tx Ik T t N q := by rw [hI]; exact tx_up (tx_fill hT _ _) q
        have hte := tEnd_r (t := t) hq
        refine x_iload_n 43 C dX2_read_43 rfl 2 rfl ?_
        refine x_bipush 44 C (v := 60) dX2_read_44 rfl ?_
        refine x_icmp_gt 46 C 119 dX2_read_46 (by decide) (fun c7 => ?_) (fun c7 => ?_)
        · skip
          have c7n : 60 < k := (nI_ltI (a := 60) (b := k) (by omega) (by omega)).mp c7
          have c7m : ¬ (k ≤ 60) := by omega
          have c7o := Int32.not_le.mpr c7
          refine x_iconst 119 C (v := 0) dX2_read_119 rfl ?_
          refine x_iret 120 C dX2_read_120 rfl rfl (Nat.le_refl _) (xN.intro ?_)
          have hz : rdAll t N = (false, q, f, g) := by rw [hS, show 61 - k = 0 by omega]; rfl
          exact ⟨by rw [hz]; rfl, by rw [hz]; exact hI, rfl⟩
        · skip
          have c7n : ¬ (60 < k) := fun h => c7 ((nI_ltI (a := 60) (b := k) (by omega) (by omega)).mpr h)
          have c7m : k ≤ 60 := by omega
          have c7o := Int32.not_lt.mp c7
          refine x_aload_n 49 C dX2_read_49 rfl 0 rfl ?_
          refine x_iload_n 50 C dX2_read_50 rfl 1 rfl ?_
          refine x_callVe 51 C dX2_read_51 (As := [.int (nI mi)]) (rest := []) [.int (bI (tOk t N q))] (t_X2_readTerm l D z n G Ik L T t N q mi hX (by omega) hTk hC hq (by first | omega | assumption | decide)) mt_X2_readTerm km_X2_34 ki_X2_readTerm ks_X2_readTerm hX.1 ⟨by decide, rfl⟩ rfl rfl (Nat.le_of_ble_eq_true rfl) ⟨⟨by decide, by decide⟩, by decide, by decide⟩ (fun I8 L9 eI8 eL9 => ?_)
          replace eL9 := eL9.symm; subst eL9
          refine x_if_ne 54 C 59 dX2_read_54 (by decide) (fun c10 => ?_) (fun c10 => ?_)
          · skip
            have hok : _ := bI_n0.mp c10
            have hI5 : I8 = xup (eqFill I (T + 2) 10 (upT f (tTm t N q) (tRe t N q mi)) (upT g (tTm t N q) (tIi t N q mi))) T 3 (nI (tEnd t N q)) := by rw [eI8, if_pos hok, hI]; exact addT_text _ _ _ _ _ _ _ _ _ (tm_lt hte.2.2)
            have hT5 : tx I8 T t N (tEnd t N q) := by rw [hI5]; exact tx_up (tx_fill hT _ _) _
            refine x_aload_n 59 C dX2_read_59 rfl 0 rfl ?_
            refine x_geti 60 C dX2_read_60 ff_X2_24 hX.1 ?_
            refine x_int (nI (tEnd t N q)) hT5.2.2 ?_
            refine x_aload_n 63 C dX2_read_63 rfl 0 rfl ?_
            refine x_geti 64 C dX2_read_64 ff_X2_20 hX.1 ?_
            refine x_int (nI N) hT5.2.1 ?_
            refine x_icmp_lt 67 C 72 dX2_read_67 (by decide) (fun c11 => ?_) (fun c11 => ?_)
            · skip
              have c11n : (tEnd t N q) < N := (nI_ltI (a := (tEnd t N q)) (b := N) (by omega) (by omega)).mp c11
              have c11m : ¬ (N ≤ (tEnd t N q)) := by omega
              have c11o := Int32.not_le.mpr c11
              refine x_aload_n 72 C dX2_read_72 rfl 0 rfl ?_
              refine x_callVe 73 C dX2_read_73 (As := []) (rest := []) [.int (nI (sg t N (tEnd t N q)))] (t_X2_signHere l D z n G I8 L T t N (tEnd t N q) hX hT5 hC (by omega)) mt_X2_signHere km_X2_30 ki_X2_signHere ks_X2_signHere hX.1 ⟨by decide, rfl⟩ rfl rfl (Nat.le_of_ble_eq_true rfl) ⟨⟨by decide, by decide⟩, by decide, by decide⟩ (fun I12 L13 eI12 eL13 => ?_)
              replace eI12 := eI12.symm; subst eI12
              replace eL13 := eL13.symm; subst eL13
              have hs_b := sg_le hC (tEnd t N q)
              refine x_istore_n 76 C [(3, .int (nI (sg t N (tEnd t N q)))), (0, .ref T), (1, .int (nI mi)), (2, .int (nI k))] dX2_read_76 rfl (by decide) rfl ?_
              refine x_iload_n 77 C dX2_read_77 rfl 0 rfl ?_
              refine x_bipush 78 C (v := 43) dX2_read_78 rfl ?_
              refine x_icmp_eq 80 C 91 dX2_read_80 (by decide) (fun c14 => ?_) (fun c14 => ?_)
              · skip
                have c14n : (sg t N (tEnd t N q)) = 43 := (nI_eq (a := (sg t N (tEnd t N q))) (b := 43) (by omega) (by omega)).mp c14
                have h43 : sg t N (tEnd t N q) = 43 := c14n
                refine x_iload_n 91 C dX2_read_91 rfl 0 rfl ?_
                refine x_bipush 92 C (v := 45) dX2_read_92 rfl ?_
                refine x_icmp_ne 94 C 101 dX2_read_94 (by decide) (fun _ => ?_) (fun c15 => absurd c15 (fun h => absurd ((nI_eq (a := (sg t N (tEnd t N q))) (b := 45) (by omega) (by omega)).mp h) (by omega)))
                refine x_iconst 101 C (v := 0) dX2_read_101 rfl ?_
                refine x_istore_n 102 C [(1, .int 0), (3, .int (nI (sg t N (tEnd t N q)))), (0, .ref T), (2, .int (nI k))] dX2_read_102 rfl (by decide) rfl ?_
                refine x_aload_n 103 C dX2_read_103 rfl 2 rfl ?_
                refine x_dup 104 C dX2_read_104 rfl ?_
                refine x_geti 105 C dX2_read_105 ff_X2_24 hX.1 ?_
                refine x_int (nI (tEnd t N q)) hT5.2.2 ?_
                refine x_iconst 108 C (v := 1) dX2_read_108 rfl ?_
                refine x_iadd 109 C dX2_read_109 ?_
                refine x_int (nI (tEnd t N q + 1)) (nI_add (tEnd t N q) 1) ?_
                refine x_puti 110 C dX2_read_110 ff_X2_24 rfl hX.1 (by omega) (fun I16 eI16 => ?_)
                refine x_iinc 113 C [(2, .int (nI (k + 1))), (1, .int 0), (3, .int (nI (sg t N (tEnd t N q)))), (0, .ref T)] dX2_read_113 3 rfl (nI_add k 1) (by decide) rfl ?_
                refine x_goto 116 C 43 dX2_read_116 (by decide) ?_
                refine x_sub [(0, .ref T), (1, .int 0), (2, .int (nI (k + 1)))] [3, 1, 0] rfl ?_
                exact ih (k + 1) (tEnd t N q + 1) 0 (upT f (tTm t N q) (tRe t N q mi)) (upT g (tTm t N q) (tIi t N q mi)) I16 (by omega) (by omega) (by rw [eI16, hI5, xup2]) (by omega) (by omega) (by rw [hS, show 61 - k = (61 - (k + 1)) + 1 by omega]; simp only [rds]; rw [if_pos hok, if_neg (by omega), if_pos h43])
              · skip
                have c14n : ¬ ((sg t N (tEnd t N q)) = 43) := fun h => c14 ((nI_eq (a := (sg t N (tEnd t N q))) (b := 43) (by omega) (by omega)).mpr h)
                refine x_iload_n 83 C dX2_read_83 rfl 0 rfl ?_
                refine x_bipush 84 C (v := 45) dX2_read_84 rfl ?_
                refine x_icmp_eq 86 C 91 dX2_read_86 (by decide) (fun c17 => ?_) (fun c17 => ?_)
                · skip
                  have c17n : (sg t N (tEnd t N q)) = 45 := (nI_eq (a := (sg t N (tEnd t N q))) (b := 45) (by omega) (by omega)).mp c17
                  have h45b : sg t N (tEnd t N q) = 45 := c17n
                  refine x_iload_n 91 C dX2_read_91 rfl 0 rfl ?_
                  refine x_bipush 92 C (v := 45) dX2_read_92 rfl ?_
                  refine x_icmp_ne 94 C 101 dX2_read_94 (by decide) (fun c18 => absurd ((nI_eq (a := (sg t N (tEnd t N q))) (b := 45) (by omega) (by omega)).mpr (by omega)) c18) (fun _ => ?_)
                  refine x_iconst 97 C (v := 1) dX2_read_97 rfl ?_
                  refine x_goto 98 C 102 dX2_read_98 (by decide) ?_
                  refine x_istore_n 102 C [(1, .int 1), (3, .int (nI (sg t N (tEnd t N q)))), (0, .ref T), (2, .int (nI k))] dX2_read_102 rfl (by decide) rfl ?_
                  refine x_aload_n 103 C dX2_read_103 rfl 2 rfl ?_
                  refine x_dup 104 C dX2_read_104 rfl ?_
                  refine x_geti 105 C dX2_read_105 ff_X2_24 hX.1 ?_
                  refine x_int (nI (tEnd t N q)) hT5.2.2 ?_
                  refine x_iconst 108 C (v := 1) dX2_read_108 rfl ?_
                  refine x_iadd 109 C dX2_read_109 ?_
                  refine x_int (nI (tEnd t N q + 1)) (nI_add (tEnd t N q) 1) ?_
                  refine x_puti 110 C dX2_read_110 ff_X2_24 rfl hX.1 (by omega) (fun I19 eI19 => ?_)
                  refine x_iinc 113 C [(2, .int (nI (k + 1))), (1, .int 1), (3, .int (nI (sg t N (tEnd t N q)))), (0, .ref T)] dX2_read_113 3 rfl (nI_add k 1) (by decide) rfl ?_
                  refine x_goto 116 C 43 dX2_read_116 (by decide) ?_
                  refine x_sub [(0, .ref T), (1, .int 1), (2, .int (nI (k + 1)))] [3, 1, 0] rfl ?_
                  exact ih (k + 1) (tEnd t N q + 1) 1 (upT f (tTm t N q) (tRe t N q mi)) (upT g (tTm t N q) (tIi t N q mi)) I19 (by omega) (by omega) (by rw [eI19, hI5, xup2]) (by omega) (by omega) (by rw [hS, show 61 - k = (61 - (k + 1)) + 1 by omega]; simp only [rds]; rw [if_pos hok, if_neg (by omega), if_neg (by omega), if_pos h45b])
                · skip
                  have c17n : ¬ ((sg t N (tEnd t N q)) = 45) := fun h => c17 ((nI_eq (a := (sg t N (tEnd t N q))) (b := 45) (by omega) (by omega)).mpr h)
                  refine x_iconst 89 C (v := 0) dX2_read_89 rfl ?_
                  refine x_iret 90 C dX2_read_90 rfl rfl (Nat.le_refl _) (xN.intro ?_)
                  have hz : rdAll t N = (false, tEnd t N q, (upT f (tTm t N q) (tRe t N q mi)), (upT g (tTm t N q) (tIi t N q mi))) := by rw [hS, show 61 - k = (61 - (k + 1)) + 1 by omega]; simp only [rds]; rw [if_pos hok, if_neg (by omega), if_neg (by omega), if_neg (by omega)]
                  exact ⟨by rw [hz]; rfl, by rw [hz]; exact hI5, rfl⟩
            · skip
              have c11n : ¬ ((tEnd t N q) < N) := fun h => c11 ((nI_ltI (a := (tEnd t N q)) (b := N) (by omega) (by omega)).mpr h)
              have c11m : N ≤ (tEnd t N q) := by omega
              have c11o := Int32.not_lt.mp c11
              refine x_iconst 70 C (v := 1) dX2_read_70 rfl ?_
              refine x_iret 71 C dX2_read_71 rfl rfl (Nat.le_refl _) (xN.intro ?_)
              have hz : rdAll t N = (true, tEnd t N q, (upT f (tTm t N q) (tRe t N q mi)), (upT g (tTm t N q) (tIi t N q mi))) := by rw [hS, show 61 - k = (61 - (k + 1)) + 1 by omega]; simp only [rds]; rw [if_pos hok, if_pos (by omega)]
              exact ⟨by rw [hz]; rfl, by rw [hz]; exact hI5, rfl⟩
          · skip
            have hok : ¬ tOk t N q = true := by rw [bI_0.mp c10]; decide
            have hI5 : I8 = xup (eqFill I (T + 2) 10 f g) T 3 (nI (tEnd t N q)) := by rw [eI8, if_neg hok, hI, xup2]
            refine x_iconst 57 C (v := 0) dX2_read_57 rfl ?_
            refine x_iret 58 C dX2_read_58 rfl rfl (Nat.le_refl _) (xN.intro ?_)
            have hz : rdAll t N = (false, tEnd t N q, f, g) := by rw [hS, show 61 - k = (61 - (k + 1)) + 1 by omega]; simp only [rds]; rw [if_neg hok]
            exact ⟨by rw [hz]; rfl, by rw [hz]; exact hI5, rfl⟩
    refine x_sub [(0, .ref T), (1, .int (nI mi)), (2, .int 0)] [1, 2, 0] rfl ?_
    exact loop43 62 0 q mi (fun _ => 0) (fun _ => 0) I1 (by omega) (by omega) hI1 hq1 hmi1 hS1
  refine x_icmp_ne 18 C 25 dX2_read_18 (by decide) (fun c6 => ?_) (fun c6 => ?_)
  · skip
    have c6n : ¬ ((sg t N 0) = 45) := fun h => c6 ((nI_eq (a := (sg t N 0)) (b := 45) (by omega) (by omega)).mpr h)
    have h45 : ¬ sg t N 0 = 45 := c6n
    refine x_iconst 25 C (v := 0) dX2_read_25 rfl ?_
    refine x_istore_n 26 C [(1, .int 0), (0, .ref T)] dX2_read_26 rfl (by decide) rfl ?_
    refine x_iload_n 27 C dX2_read_27 rfl 0 rfl ?_
    refine x_if_eq 28 C 41 dX2_read_28 (by decide) (fun _ => ?_) (fun c20 => absurd (by decide) c20)
    refine x_sub [(0, .ref T), (1, .int 0)] [1, 0] rfl ?_
    exact join41 0 0 I3 (by rw [eI3, eI1]; rfl) (by omega) (by omega) (if_neg h45)
  · skip
    have c6n : (sg t N 0) = 45 := (nI_eq (a := (sg t N 0)) (b := 45) (by omega) (by omega)).mp c6
    have h45 : sg t N 0 = 45 := c6n
    have hlt0 := sg_lt (t := t) (N := N) (r := 0) (by omega)
    refine x_iconst 21 C (v := 1) dX2_read_21 rfl ?_
    refine x_goto 22 C 26 dX2_read_22 (by decide) ?_
    refine x_istore_n 26 C [(1, .int 1), (0, .ref T)] dX2_read_26 rfl (by decide) rfl ?_
    refine x_iload_n 27 C dX2_read_27 rfl 0 rfl ?_
    refine x_if_eq 28 C 41 dX2_read_28 (by decide) (fun c21 => absurd c21 (by decide)) (fun _ => ?_)
    refine x_aload_n 31 C dX2_read_31 rfl 1 rfl ?_
    refine x_dup 32 C dX2_read_32 rfl ?_
    refine x_geti 33 C dX2_read_33 ff_X2_24 hX.1 ?_
    refine x_int (nI 0) hT2.2.2 ?_
    refine x_iconst 36 C (v := 1) dX2_read_36 rfl ?_
    refine x_iadd 37 C dX2_read_37 ?_
    refine x_int 1 (by decide) ?_
    refine x_puti 38 C dX2_read_38 ff_X2_24 rfl hX.1 (by omega) (fun I22 eI22 => ?_)
    refine x_sub [(0, .ref T), (1, .int 1)] [1, 0] rfl ?_
    exact join41 1 1 I22 (by rw [eI22, eI3, eI1, xup2]; rfl) (by omega) (by omega) (if_pos h45)
