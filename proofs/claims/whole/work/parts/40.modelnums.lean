/-! Numbers of the Model: products and quotients within their bounds -/
theorem held_b (v : Int64) : -1073741824 ≤ (held v).toInt ∧ (held v).toInt ≤ 1073741824 := by
  have e1 : (-1073741824 : Int64).toInt = -1073741824 := by decide
  have e2 : (1073741824 : Int64).toInt = 1073741824 := by decide
  unfold held
  by_cases h1 : (-1073741824 : Int64) ≤ v
  · rw [if_pos h1]
    by_cases h2 : v ≤ 1073741824
    · rw [if_pos h2]
      rw [Int64.le_iff_toInt_le, e1] at h1
      rw [Int64.le_iff_toInt_le, e2] at h2
      exact ⟨h1, h2⟩
    · rw [if_neg h2, e2]; omega
  · rw [if_neg h1, e1]; omega
theorem held_id {v : Int64} (h1 : -1073741824 ≤ v.toInt) (h2 : v.toInt ≤ 1073741824) : held v = v := by
  have e1 : (-1073741824 : Int64).toInt = -1073741824 := by decide
  have e2 : (1073741824 : Int64).toInt = 1073741824 := by decide
  unfold held
  rw [if_pos (Int64.le_iff_toInt_le.mpr (by rw [e1]; exact h1)), if_pos (Int64.le_iff_toInt_le.mpr (by rw [e2]; exact h2))]
theorem held_in {v : Int64} (h : held v = v) : -1073741824 ≤ v.toInt ∧ v.toInt ≤ 1073741824 := by
  have := held_b v
  rw [h] at this
  exact this
theorem hC_1 {c : xC} (h : hC c = c) : held c.1 = c.1 ∧ held c.2 = c.2 := ⟨congrArg Prod.fst h, congrArg Prod.snd h⟩
theorem hC_of {c : xC} (h1 : held c.1 = c.1) (h2 : held c.2 = c.2) : hC c = c := Prod.ext h1 h2
theorem mul_in {x a B : Int} (hx0 : 0 ≤ x) (h1 : -B ≤ a) (h2 : a ≤ B) : -(x * B) ≤ x * a ∧ x * a ≤ x * B :=
  ⟨by rw [← Int.mul_neg]; exact Int.mul_le_mul_of_nonneg_left h1 hx0, Int.mul_le_mul_of_nonneg_left h2 hx0⟩
theorem td_in {t : Int} (h1 : -1099511627776 ≤ t) (h2 : t ≤ 1099511627776) : -1073741824 ≤ t.tdiv 1024 ∧ t.tdiv 1024 ≤ 1073741824 := by
  by_cases h : 0 ≤ t
  · rw [Int.tdiv_eq_ediv_of_nonneg h]; omega
  · have e : t = -(-t) := by omega
    rw [e, Int.neg_tdiv, Int.tdiv_eq_ediv_of_nonneg (by omega)]; omega
theorem i64_mul {a b : Int64} (h1 : -9223372036854775808 ≤ a.toInt * b.toInt) (h2 : a.toInt * b.toInt < 9223372036854775808) : (a * b).toInt = a.toInt * b.toInt := by
  rw [Int64.toInt_mul, Int.bmod_eq_of_le (by omega) (by omega)]
theorem i64_add {a b : Int64} (h1 : -9223372036854775808 ≤ a.toInt + b.toInt) (h2 : a.toInt + b.toInt < 9223372036854775808) : (a + b).toInt = a.toInt + b.toInt := by
  rw [Int64.toInt_add, Int.bmod_eq_of_le (by omega) (by omega)]
theorem held_q {t : Int64} (h1 : -1099511627776 ≤ t.toInt) (h2 : t.toInt ≤ 1099511627776) : held (t / 1024) = t / 1024 := by
  have e : (1024 : Int64).toInt = 1024 := by decide
  have h := td_in h1 h2
  have d : (t / 1024).toInt = t.toInt.tdiv 1024 := by rw [Int64.toInt_div, e, Int.bmod_eq_of_le (by omega) (by omega)]
  exact held_id (by omega) (by omega)
theorem mix_in {P : Nat} (hP : P ≤ 1024) {a b : Int64} (ha : held a = a) (hb : held b = b) : held (((nI (1024 - P)).toInt64 * a + (nI P).toInt64 * b) / 1024) = ((nI (1024 - P)).toInt64 * a + (nI P).toInt64 * b) / 1024 := by
  have h1 := held_in ha
  have h2 := held_in hb
  rw [nI_l (by omega), nI_l (by omega)]
  have e1 : (lN (1024 - P)).toInt = ((1024 - P : Nat) : Int) := lN_toInt (by omega)
  have e2 : (lN P).toInt = (P : Int) := lN_toInt (by omega)
  have m1 := mul_in (x := ((1024 - P : Nat) : Int)) (a := a.toInt) (B := 1073741824) (by omega) h1.1 h1.2
  have m2 := mul_in (x := (P : Int)) (a := b.toInt) (B := 1073741824) (by omega) h2.1 h2.2
  have p1 : (lN (1024 - P) * a).toInt = ((1024 - P : Nat) : Int) * a.toInt := by rw [i64_mul (by rw [e1]; omega) (by rw [e1]; omega), e1]
  have p2 : (lN P * b).toInt = (P : Int) * b.toInt := by rw [i64_mul (by rw [e2]; omega) (by rw [e2]; omega), e2]
  have s : (lN (1024 - P) * a + lN P * b).toInt = ((1024 - P : Nat) : Int) * a.toInt + (P : Int) * b.toInt := by rw [i64_add (by rw [p1, p2]; omega) (by rw [p1, p2]; omega), p1, p2]
  exact held_q (by rw [s]; omega) (by rw [s]; omega)
theorem sha_in {h : Nat} (hh : h ≤ 1024) {a : Int64} (ha : held a = a) : held (a * (nI h).toInt64 / 1024) = a * (nI h).toInt64 / 1024 := by
  have h1 := held_in ha
  rw [nI_l (by omega)]
  have e2 : (lN h).toInt = (h : Int) := lN_toInt (by omega)
  have m2 := mul_in (x := (h : Int)) (a := a.toInt) (B := 1073741824) (by omega) h1.1 h1.2
  have p2 : (a * lN h).toInt = (h : Int) * a.toInt := by rw [Int64.mul_comm, i64_mul (by rw [e2]; omega) (by rw [e2]; omega), e2]
  exact held_q (by rw [p2]; omega) (by rw [p2]; omega)
theorem mix_of {P : Nat} (hP : P ≤ 1024) {a b : xC} (ha : hC a = a) (hb : hC b = b) : mixC (nI (1024 - P)).toInt64 a (nI P).toInt64 b = (((nI (1024 - P)).toInt64 * a.1 + (nI P).toInt64 * b.1) / 1024, ((nI (1024 - P)).toInt64 * a.2 + (nI P).toInt64 * b.2) / 1024) := by
  have e : (nI (1024 - P)).toInt64 + (nI P).toInt64 = 1024 := by
    rw [nI_l (by omega), nI_l (by omega), lN_add, Nat.sub_add_cancel hP]; decide
  show hC _ = _
  rw [e]
  exact hC_of (mix_in hP (hC_1 ha).1 (hC_1 hb).1) (mix_in hP (hC_1 ha).2 (hC_1 hb).2)
theorem sha_of {h : Nat} (hh : h ≤ 1024) {a : xC} (ha : hC a = a) : shaC a (nI h).toInt64 1024 = (a.1 * (nI h).toInt64 / 1024, a.2 * (nI h).toInt64 / 1024) :=
  hC_of (sha_in hh (hC_1 ha).1) (sha_in hh (hC_1 ha).2)
theorem mulC_comm (u : Int64) (a b : xC) : mulC u a b = mulC u b a := by
  unfold mulC
  rw [Int64.mul_comm a.1 b.1, Int64.mul_comm a.2 b.2, Int64.mul_comm a.1 b.2, Int64.mul_comm a.2 b.1, Int64.add_comm]
theorem evV_held (f g : Nat → Int32) (pw : Nat → xC) : ∀ k, hC (evV f g pw k) = evV f g pw k
  | 0 => show hC ((0 : Int64), (0 : Int64)) = (0, 0) by decide
  | k + 1 => by
    simp only [evV]
    split
    · exact evV_held f g pw k
    · exact hC_2 _
theorem evX_held (f g : Nat → Int32) (pw : Nat → xC) : ∀ k, hC (evX f g pw k) = evX f g pw k
  | 0 => show hC ((0 : Int64), (0 : Int64)) = (0, 0) by decide
  | k + 1 => by
    simp only [evX]
    split
    · exact evX_held f g pw k
    · split
      · exact hC_2 _
      · exact evX_held f g pw k
theorem evY_held (f g : Nat → Int32) (pw : Nat → xC) : ∀ k, hC (evY f g pw k) = evY f g pw k
  | 0 => show hC ((0 : Int64), (0 : Int64)) = (0, 0) by decide
  | k + 1 => by
    simp only [evY]
    split
    · exact evY_held f g pw k
    · split
      · exact hC_2 _
      · exact evY_held f g pw k
theorem evS_held (b : Nat) (f g : Nat → Int32) (pw : Nat → xC) (k : Nat) : hC (evS b f g pw k) = evS b f g pw k := by
  unfold evS
  split
  · exact evV_held f g pw k
  · split
    · exact evX_held f g pw k
    · exact evY_held f g pw k
