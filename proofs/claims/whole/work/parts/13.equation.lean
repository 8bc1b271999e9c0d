/-! Solver.moveBySolution; PathTracker$Equation: an Equation at q holds its parts in the arrays q + 1, q + 2, and a Complex of its own at q + 3 -/
theorem ite01 {P : Prop} [Decidable P] (h : (if P then (0 : Int32) else 1) = 0) : P := by
  by_cases hp : P
  · exact hp
  · rw [if_neg hp] at h; exact absurd h (by decide)
theorem ite01n {P : Prop} [Decidable P] (h : ¬ (if P then (0 : Int32) else 1) = 0) : ¬ P := fun hp => h (if_pos hp)
def solD (u : Int64) (fx fy gx gy : xC) : xC := detC u fx gy fy gx
def solU (u : Int64) (fx fy gx gy r0 r1 : xC) : xC := divC (detC u r0 gy fy r1) (solD u fx fy gx gy) u
def solV (u : Int64) (fx fy gx gy r0 r1 : xC) : xC := divC (detC u fx r1 r0 gx) (solD u fx fy gx gy) u
def solN (u : Int64) (fx fy gx gy : xC) : Int64 := norC (solD u fx fy gx gy) u
def tX (k : Nat) : Nat := ([0, 0, 0, 0, 1, 1, 1, 2, 2, 3] : List Nat).getD k 0
def tY (k : Nat) : Nat := ([0, 1, 2, 3, 0, 1, 2, 0, 1, 0] : List Nat).getD k 0
def tm (i j : Nat) : Nat := (if i = 0 then 0 else if i = 1 then 4 else if i = 2 then 7 else 9) + j
theorem tXY (k : Nat) : tX k + tY k ≤ 3 := by
  rcases Nat.lt_or_ge k 10 with h | h
  · rcases (show k = 0 ∨ k = 1 ∨ k = 2 ∨ k = 3 ∨ k = 4 ∨ k = 5 ∨ k = 6 ∨ k = 7 ∨ k = 8 ∨ k = 9 by omega) with rfl | rfl | rfl | rfl | rfl | rfl | rfl | rfl | rfl | rfl <;> decide
  · have e1 : tX k = 0 := by simp [tX, List.getElem?_eq_none, h]
    have e2 : tY k = 0 := by simp [tY, List.getElem?_eq_none, h]
    omega
theorem xPx_n (k : Nat) : xPx k = nI (tX k) := by
  rcases Nat.lt_or_ge k 10 with h | h
  · rcases (show k = 0 ∨ k = 1 ∨ k = 2 ∨ k = 3 ∨ k = 4 ∨ k = 5 ∨ k = 6 ∨ k = 7 ∨ k = 8 ∨ k = 9 by omega) with rfl | rfl | rfl | rfl | rfl | rfl | rfl | rfl | rfl | rfl <;> decide
  · simp [xPx, tX, List.getElem?_eq_none, h]; rfl
theorem xPy_n (k : Nat) : xPy k = nI (tY k) := by
  rcases Nat.lt_or_ge k 10 with h | h
  · rcases (show k = 0 ∨ k = 1 ∨ k = 2 ∨ k = 3 ∨ k = 4 ∨ k = 5 ∨ k = 6 ∨ k = 7 ∨ k = 8 ∨ k = 9 by omega) with rfl | rfl | rfl | rfl | rfl | rfl | rfl | rfl | rfl | rfl <;> decide
  · simp [xPy, tY, List.getElem?_eq_none, h]; rfl
theorem xFt_n {i : Nat} (h : i < 4) : xFt i = nI (tm i 0) := by
  rcases (show i = 0 ∨ i = 1 ∨ i = 2 ∨ i = 3 by omega) with rfl | rfl | rfl | rfl <;> decide
theorem tm_lt {i j : Nat} (h : i + j ≤ 3) : tm i j < 10 := by
  unfold tm
  split
  · omega
  · split
    · omega
    · split <;> omega
def rEq (q : Nat) : Nat → Option Nat := va_up (va_up (va_up rN 0 (some (q + 1))) 1 (some (q + 2))) 2 (some (q + 3))
def shE (G : xG) (q : Nat) : Prop := G q = some (1, 0, rEq q) ∧ G (q + 1) = some (20, 10, rN) ∧ G (q + 2) = some (20, 10, rN) ∧ G (q + 3) = some (0, 0, rN)
def imax (x y : Int32) : Int32 := if x < y then y else x
def heldc (x : Int32) : Int32 := imax (-999) (imin 999 x)
def eqFill (I : xI) (q k : Nat) (f g : Nat → Int32) : xI := fun a j => if a = q + 1 ∧ j < k then f j else if a = q + 2 ∧ j < k then g j else I a j
theorem eqFill_0 (I : xI) (q : Nat) (f g : Nat → Int32) : eqFill I q 0 f g = I := by funext a j; simp [eqFill]
theorem eqFill_succ (I : xI) (q k : Nat) (f g : Nat → Int32) : xup (xup (eqFill I q k f g) (q + 1) k (f k)) (q + 2) k (g k) = eqFill I q (k + 1) f g := by
  funext a j
  have e : (j < k + 1) ↔ (j < k ∨ j = k) := by omega
  simp only [eqFill, xup, e]
  by_cases h1 : a = q + 1 <;> by_cases h2 : a = q + 2 <;> by_cases h3 : j = k <;> by_cases h4 : j < k <;> simp_all
def addT (I : xI) (q m : Nat) (pr pi : Int32) : xI := xup (xup I (q + 1) m (heldc (I (q + 1) m + pr))) (q + 2) m (heldc (I (q + 2) m + pi))
/-- the start equation of a degree -/
def stRe (m : Nat) (j : Nat) : Int32 := if j = m then 1 else if j = 0 then -1 else 0
def dgN (cr ci : Nat → Int32) : Nat → Nat
  | 0 => 0
  | k + 1 => if cr k = 0 ∧ ci k = 0 then dgN cr ci k else max (dgN cr ci k) (tX k + tY k)
theorem dgN_le (cr ci : Nat → Int32) : ∀ k, dgN cr ci k ≤ 3
  | 0 => Nat.zero_le _
  | k + 1 => by
    have h := dgN_le cr ci k
    have h2 := tXY k
    simp only [dgN]
    split
    · exact h
    · omega
theorem imax_nI {a b : Nat} (ha : a < 2147483648) (hb : b < 2147483648) : (if nI a < nI b then nI b else nI a) = nI (max a b) := by
  by_cases h : a < b
  · rw [if_pos (nI_lt h (by omega)), Nat.max_eq_right (by omega)]
  · rw [if_neg (nI_nlt (by omega) (by omega)), Nat.max_eq_left (by omega)]
/-- value and slopes of an equation, term by term -/
def evV (cr ci : Nat → Int32) (pw : Nat → xC) : Nat → xC
  | 0 => (0, 0)
  | k + 1 => if cr k = 0 ∧ ci k = 0 then evV cr ci pw k else addC (evV cr ci pw k) (gauC (cr k).toInt64 (ci k).toInt64 (pw k))
def evX (cr ci : Nat → Int32) (pw : Nat → xC) : Nat → xC
  | 0 => (0, 0)
  | k + 1 => if cr k = 0 ∧ ci k = 0 then evX cr ci pw k else if 0 < tX k then addC (evX cr ci pw k) (gauC (nI (tX k) * cr k).toInt64 (nI (tX k) * ci k).toInt64 (pw (tm (tX k - 1) (tY k)))) else evX cr ci pw k
def evY (cr ci : Nat → Int32) (pw : Nat → xC) : Nat → xC
  | 0 => (0, 0)
  | k + 1 => if cr k = 0 ∧ ci k = 0 then evY cr ci pw k else if 0 < tY k then addC (evY cr ci pw k) (gauC (nI (tY k) * cr k).toInt64 (nI (tY k) * ci k).toInt64 (pw (tm (tX k) (tY k - 1)))) else evY cr ci pw k

theorem dX8_moveBySolution_0 : decode cX8_moveBySolution 0 = .ok (.aload_n 0, 1) := by decide +kernel
theorem dX8_moveBySolution_1 : decode cX8_moveBySolution 1 = .ok (.aload_n 0, 1) := by decide +kernel
theorem dX8_moveBySolution_2 : decode cX8_moveBySolution 2 = .ok (.getfield 25, 3) := by decide +kernel
theorem dX8_moveBySolution_5 : decode cX8_moveBySolution 5 = .ok (.aload_n 1, 1) := by decide +kernel
theorem dX8_moveBySolution_6 : decode cX8_moveBySolution 6 = .ok (.getfield 39, 3) := by decide +kernel
theorem dX8_moveBySolution_9 : decode cX8_moveBySolution 9 = .ok (.aload_n 2, 1) := by decide +kernel
theorem dX8_moveBySolution_10 : decode cX8_moveBySolution 10 = .ok (.getfield 44, 3) := by decide +kernel
theorem dX8_moveBySolution_13 : decode cX8_moveBySolution 13 = .ok (.aload_n 1, 1) := by decide +kernel
theorem dX8_moveBySolution_14 : decode cX8_moveBySolution 14 = .ok (.getfield 44, 3) := by decide +kernel
theorem dX8_moveBySolution_17 : decode cX8_moveBySolution 17 = .ok (.aload_n 2, 1) := by decide +kernel
theorem dX8_moveBySolution_18 : decode cX8_moveBySolution 18 = .ok (.getfield 39, 3) := by decide +kernel
theorem dX8_moveBySolution_21 : decode cX8_moveBySolution 21 = .ok (.lload 5, 2) := by decide +kernel
theorem dX8_moveBySolution_23 : decode cX8_moveBySolution 23 = .ok (.invokevirtual 47, 3) := by decide +kernel
theorem dX8_moveBySolution_26 : decode cX8_moveBySolution 26 = .ok (.aload_n 0, 1) := by decide +kernel
theorem dX8_moveBySolution_27 : decode cX8_moveBySolution 27 = .ok (.aload_n 0, 1) := by decide +kernel
theorem dX8_moveBySolution_28 : decode cX8_moveBySolution 28 = .ok (.getfield 19, 3) := by decide +kernel
theorem dX8_moveBySolution_31 : decode cX8_moveBySolution 31 = .ok (.aload_n 0, 1) := by decide +kernel
theorem dX8_moveBySolution_32 : decode cX8_moveBySolution 32 = .ok (.getfield 10, 3) := by decide +kernel
theorem dX8_moveBySolution_35 : decode cX8_moveBySolution 35 = .ok (.aload_n 2, 1) := by decide +kernel
theorem dX8_moveBySolution_36 : decode cX8_moveBySolution 36 = .ok (.getfield 44, 3) := by decide +kernel
theorem dX8_moveBySolution_39 : decode cX8_moveBySolution 39 = .ok (.aload_n 1, 1) := by decide +kernel
theorem dX8_moveBySolution_40 : decode cX8_moveBySolution 40 = .ok (.getfield 44, 3) := by decide +kernel
theorem dX8_moveBySolution_43 : decode cX8_moveBySolution 43 = .ok (.aload_n 0, 1) := by decide +kernel
theorem dX8_moveBySolution_44 : decode cX8_moveBySolution 44 = .ok (.getfield 16, 3) := by decide +kernel
theorem dX8_moveBySolution_47 : decode cX8_moveBySolution 47 = .ok (.lload 5, 2) := by decide +kernel
theorem dX8_moveBySolution_49 : decode cX8_moveBySolution 49 = .ok (.invokevirtual 47, 3) := by decide +kernel
theorem dX8_moveBySolution_52 : decode cX8_moveBySolution 52 = .ok (.aload_n 0, 1) := by decide +kernel
theorem dX8_moveBySolution_53 : decode cX8_moveBySolution 53 = .ok (.aload_n 0, 1) := by decide +kernel
theorem dX8_moveBySolution_54 : decode cX8_moveBySolution 54 = .ok (.getfield 22, 3) := by decide +kernel
theorem dX8_moveBySolution_57 : decode cX8_moveBySolution 57 = .ok (.aload_n 1, 1) := by decide +kernel
theorem dX8_moveBySolution_58 : decode cX8_moveBySolution 58 = .ok (.getfield 39, 3) := by decide +kernel
theorem dX8_moveBySolution_61 : decode cX8_moveBySolution 61 = .ok (.aload_n 0, 1) := by decide +kernel
theorem dX8_moveBySolution_62 : decode cX8_moveBySolution 62 = .ok (.getfield 16, 3) := by decide +kernel
theorem dX8_moveBySolution_65 : decode cX8_moveBySolution 65 = .ok (.aload_n 0, 1) := by decide +kernel
theorem dX8_moveBySolution_66 : decode cX8_moveBySolution 66 = .ok (.getfield 10, 3) := by decide +kernel
theorem dX8_moveBySolution_69 : decode cX8_moveBySolution 69 = .ok (.aload_n 2, 1) := by decide +kernel
theorem dX8_moveBySolution_70 : decode cX8_moveBySolution 70 = .ok (.getfield 39, 3) := by decide +kernel
theorem dX8_moveBySolution_73 : decode cX8_moveBySolution 73 = .ok (.lload 5, 2) := by decide +kernel
theorem dX8_moveBySolution_75 : decode cX8_moveBySolution 75 = .ok (.invokevirtual 47, 3) := by decide +kernel
theorem dX8_moveBySolution_78 : decode cX8_moveBySolution 78 = .ok (.aload_n 0, 1) := by decide +kernel
theorem dX8_moveBySolution_79 : decode cX8_moveBySolution 79 = .ok (.getfield 19, 3) := by decide +kernel
theorem dX8_moveBySolution_82 : decode cX8_moveBySolution 82 = .ok (.aload_n 0, 1) := by decide +kernel
theorem dX8_moveBySolution_83 : decode cX8_moveBySolution 83 = .ok (.getfield 25, 3) := by decide +kernel
theorem dX8_moveBySolution_86 : decode cX8_moveBySolution 86 = .ok (.lload 5, 2) := by decide +kernel
theorem dX8_moveBySolution_88 : decode cX8_moveBySolution 88 = .ok (.invokevirtual 51, 3) := by decide +kernel
theorem dX8_moveBySolution_91 : decode cX8_moveBySolution 91 = .ok (.ifCond .eq 19, 3) := by decide +kernel
theorem dX8_moveBySolution_94 : decode cX8_moveBySolution 94 = .ok (.aload_n 0, 1) := by decide +kernel
theorem dX8_moveBySolution_95 : decode cX8_moveBySolution 95 = .ok (.getfield 22, 3) := by decide +kernel
theorem dX8_moveBySolution_98 : decode cX8_moveBySolution 98 = .ok (.aload_n 0, 1) := by decide +kernel
theorem dX8_moveBySolution_99 : decode cX8_moveBySolution 99 = .ok (.getfield 25, 3) := by decide +kernel
theorem dX8_moveBySolution_102 : decode cX8_moveBySolution 102 = .ok (.lload 5, 2) := by decide +kernel
theorem dX8_moveBySolution_104 : decode cX8_moveBySolution 104 = .ok (.invokevirtual 51, 3) := by decide +kernel
theorem dX8_moveBySolution_107 : decode cX8_moveBySolution 107 = .ok (.ifCond .ne 5, 3) := by decide +kernel
theorem dX8_moveBySolution_110 : decode cX8_moveBySolution 110 = .ok (.iconst 0, 1) := by decide +kernel
theorem dX8_moveBySolution_111 : decode cX8_moveBySolution 111 = .ok (.ireturn, 1) := by decide +kernel
theorem dX8_moveBySolution_112 : decode cX8_moveBySolution 112 = .ok (.aload_n 3, 1) := by decide +kernel
theorem dX8_moveBySolution_113 : decode cX8_moveBySolution 113 = .ok (.aload_n 0, 1) := by decide +kernel
theorem dX8_moveBySolution_114 : decode cX8_moveBySolution 114 = .ok (.getfield 19, 3) := by decide +kernel
theorem dX8_moveBySolution_117 : decode cX8_moveBySolution 117 = .ok (.invokevirtual 55, 3) := by decide +kernel
theorem dX8_moveBySolution_120 : decode cX8_moveBySolution 120 = .ok (.aload 4, 2) := by decide +kernel
theorem dX8_moveBySolution_122 : decode cX8_moveBySolution 122 = .ok (.aload_n 0, 1) := by decide +kernel
theorem dX8_moveBySolution_123 : decode cX8_moveBySolution 123 = .ok (.getfield 22, 3) := by decide +kernel
theorem dX8_moveBySolution_126 : decode cX8_moveBySolution 126 = .ok (.invokevirtual 55, 3) := by decide +kernel
theorem dX8_moveBySolution_129 : decode cX8_moveBySolution 129 = .ok (.iconst 1, 1) := by decide +kernel
theorem dX8_moveBySolution_130 : decode cX8_moveBySolution 130 = .ok (.ireturn, 1) := by decide +kernel
set_option maxHeartbeats 4000000 in
set_option maxRecDepth 100000 in
theorem t_X8_moveBySolution (l : Launch) (D : xD) (z n : Nat) (G : xG) (I : xI) (L : xL) (s0 : Nat) (t1 : Nat) (t2 : Nat) (x : Nat) (y : Nat) (u : Int64) (hO : shO G s0) (h1 : shT G t1) (h2 : shT G t2) (gx : G x = some (0, 0, rN)) (gy : G y = some (0, 0, rN)) (zs : z ≤ s0) (zx : z ≤ x) (zy : z ≤ y) (d1 : t1 + 3 < s0 ∨ s0 + 6 < t1) (d2 : t2 + 3 < s0 ∨ s0 + 6 < t2) (dx : x < s0 ∨ s0 + 6 < x) (dy : y < s0 ∨ s0 + 6 < y) (hxy : x ≠ y) (hu : ¬ u = 0) : xM0 l D z yX8_moveBySolution cX8_moveBySolution 7 (some .boolean) 3 75 [.ref s0, .ref t1, .ref t2, .ref x, .ref y, .long u] n G I L (fun v' I' L' => v' = (some (.int (if solN u (rd L (t1 + 2)) (rd L (t1 + 3)) (rd L (t2 + 2)) (rd L (t2 + 3)) = 0 then 0 else 1))) ∧ I' = I ∧ (rd L' x = if solN u (rd L (t1 + 2)) (rd L (t1 + 3)) (rd L (t2 + 2)) (rd L (t2 + 3)) = 0 then rd L x else addC (rd L x) (solU u (rd L (t1 + 2)) (rd L (t1 + 3)) (rd L (t2 + 2)) (rd L (t2 + 3)) (rd L (s0 + 1 + 0)) (rd L (s0 + 1 + 1)))) ∧ (rd L' y = if solN u (rd L (t1 + 2)) (rd L (t1 + 3)) (rd L (t2 + 2)) (rd L (t2 + 3)) = 0 then rd L y else addC (rd L y) (solV u (rd L (t1 + 2)) (rd L (t1 + 3)) (rd L (t2 + 2)) (rd L (t2 + 3)) (rd L (s0 + 1 + 0)) (rd L (s0 + 1 + 1)))) ∧ (¬ solN u (rd L (t1 + 2)) (rd L (t1 + 3)) (rd L (t2 + 2)) (rd L (t2 + 3)) = 0 → rd L' (s0 + 1 + 2) = solU u (rd L (t1 + 2)) (rd L (t1 + 3)) (rd L (t2 + 2)) (rd L (t2 + 3)) (rd L (s0 + 1 + 0)) (rd L (s0 + 1 + 1)) ∧ rd L' (s0 + 1 + 3) = solV u (rd L (t1 + 2)) (rd L (t1 + 3)) (rd L (t2 + 2)) (rd L (t2 + 3)) (rd L (s0 + 1 + 0)) (rd L (s0 + 1 + 1))) ∧ (∀ q, (q < s0 + 3 ∨ s0 + 6 < q) → q ≠ x → q ≠ y → L' q = L q)) := by
  refine xM.of (by decide) (Nat.le_of_ble_eq_true rfl) (fun p e s m args below meth c C hnm hsz => ?_)
  refine x_lv [(0, .ref s0), (1, .ref t1), (2, .ref t2), (3, .ref x), (4, .ref y), (5, .long u)] rfl ?_
  refine x_aload_n 0 C dX8_moveBySolution_0 rfl 0 rfl ?_
  refine x_aload_n 1 C dX8_moveBySolution_1 rfl 0 rfl ?_
  refine x_getr 2 C (b := s0 + 1 + 4) dX8_moveBySolution_2 ff_X8_25 rfl hO.1 rfl ?_
  refine x_aload_n 5 C dX8_moveBySolution_5 rfl 1 rfl ?_
  refine x_getr 6 C (b := t1 + 2) dX8_moveBySolution_6 ff_X8_39 rfl h1.1 rfl ?_
  refine x_aload_n 9 C dX8_moveBySolution_9 rfl 2 rfl ?_
  refine x_getr 10 C (b := t2 + 3) dX8_moveBySolution_10 ff_X8_44 rfl h2.1 rfl ?_
  refine x_aload_n 13 C dX8_moveBySolution_13 rfl 1 rfl ?_
  refine x_getr 14 C (b := t1 + 3) dX8_moveBySolution_14 ff_X8_44 rfl h1.1 rfl ?_
  refine x_aload_n 17 C dX8_moveBySolution_17 rfl 2 rfl ?_
  refine x_getr 18 C (b := t2 + 2) dX8_moveBySolution_18 ff_X8_39 rfl h2.1 rfl ?_
  refine x_lload 21 C dX8_moveBySolution_21 5 rfl ?_
  refine x_callVe 23 C dX8_moveBySolution_23 (As := [.ref (s0 + 1 + 4), .ref (t1 + 2), .ref (t2 + 3), .ref (t1 + 3), .ref (t2 + 2), .long u]) (rest := []) [] (t_X8_cross l D z n G I L s0 (s0 + 1 + 4) (t1 + 2) (t2 + 3) (t1 + 3) (t2 + 2) u hO (hO.2 4 (by decide)) h1.2.2.1 h2.2.2.2 h1.2.2.2 h2.2.2.1 (by omega) (by omega) (by first | assumption | omega) (by first | assumption | omega) (by first | assumption | omega) (by first | assumption | omega)) mt_X8_cross km_X8_47 ki_X8_cross ks_X8_cross hO.1 ⟨by decide, rfl⟩ rfl rfl (Nat.le_of_ble_eq_true rfl) ⟨⟨by decide, by decide⟩, by decide, by decide⟩ (fun I1 L2 eI1 eL2 => ?_)
  replace eI1 := eI1.symm; subst eI1
  have k3 : rd L2 (t1 + 2) = rd L (t1 + 2) := by rw [eL2, rd_cw_ne _ _ (by omega), rd_cw_ne _ _ (by omega)]
  have k4 : rd L2 (t1 + 3) = rd L (t1 + 3) := by rw [eL2, rd_cw_ne _ _ (by omega), rd_cw_ne _ _ (by omega)]
  have k5 : rd L2 (t2 + 2) = rd L (t2 + 2) := by rw [eL2, rd_cw_ne _ _ (by omega), rd_cw_ne _ _ (by omega)]
  have k6 : rd L2 (t2 + 3) = rd L (t2 + 3) := by rw [eL2, rd_cw_ne _ _ (by omega), rd_cw_ne _ _ (by omega)]
  have k7 : rd L2 (s0 + 1 + 0) = rd L (s0 + 1 + 0) := by rw [eL2, rd_cw_ne _ _ (by omega), rd_cw_ne _ _ (by omega)]
  have k8 : rd L2 (s0 + 1 + 1) = rd L (s0 + 1 + 1) := by rw [eL2, rd_cw_ne _ _ (by omega), rd_cw_ne _ _ (by omega)]
  have k9 : rd L2 (s0 + 1 + 2) = rd L (s0 + 1 + 2) := by rw [eL2, rd_cw_ne _ _ (by omega), rd_cw_ne _ _ (by omega)]
  have k10 : rd L2 (s0 + 1 + 3) = rd L (s0 + 1 + 3) := by rw [eL2, rd_cw_ne _ _ (by omega), rd_cw_ne _ _ (by omega)]
  have k11 : rd L2 (s0 + 1 + 4) = detC u (rd L (t1 + 2)) (rd L (t2 + 3)) (rd L (t1 + 3)) (rd L (t2 + 2)) := by rw [eL2, rd_cw]
  have k12 : rd L2 (s0 + 1 + 5) = mulC u (rd L (t1 + 3)) (rd L (t2 + 2)) := by rw [eL2, rd_cw_ne _ _ (by omega), rd_cw]
  have k13 : rd L2 x = rd L x := by rw [eL2, rd_cw_ne _ _ (by omega), rd_cw_ne _ _ (by omega)]
  have k14 : rd L2 y = rd L y := by rw [eL2, rd_cw_ne _ _ (by omega), rd_cw_ne _ _ (by omega)]
  refine x_aload_n 26 C dX8_moveBySolution_26 rfl 0 rfl ?_
  refine x_aload_n 27 C dX8_moveBySolution_27 rfl 0 rfl ?_
  refine x_getr 28 C (b := s0 + 1 + 2) dX8_moveBySolution_28 ff_X8_19 rfl hO.1 rfl ?_
  refine x_aload_n 31 C dX8_moveBySolution_31 rfl 0 rfl ?_
  refine x_getr 32 C (b := s0 + 1 + 0) dX8_moveBySolution_32 ff_X8_10 rfl hO.1 rfl ?_
  refine x_aload_n 35 C dX8_moveBySolution_35 rfl 2 rfl ?_
  refine x_getr 36 C (b := t2 + 3) dX8_moveBySolution_36 ff_X8_44 rfl h2.1 rfl ?_
  refine x_aload_n 39 C dX8_moveBySolution_39 rfl 1 rfl ?_
  refine x_getr 40 C (b := t1 + 3) dX8_moveBySolution_40 ff_X8_44 rfl h1.1 rfl ?_
  refine x_aload_n 43 C dX8_moveBySolution_43 rfl 0 rfl ?_
  refine x_getr 44 C (b := s0 + 1 + 1) dX8_moveBySolution_44 ff_X8_16 rfl hO.1 rfl ?_
  refine x_lload 47 C dX8_moveBySolution_47 5 rfl ?_
  refine x_callVe 49 C dX8_moveBySolution_49 (As := [.ref (s0 + 1 + 2), .ref (s0 + 1 + 0), .ref (t2 + 3), .ref (t1 + 3), .ref (s0 + 1 + 1), .long u]) (rest := []) [] (t_X8_cross l D z n G I L2 s0 (s0 + 1 + 2) (s0 + 1 + 0) (t2 + 3) (t1 + 3) (s0 + 1 + 1) u hO (hO.2 2 (by decide)) (hO.2 0 (by decide)) h2.2.2.2 h1.2.2.2 (hO.2 1 (by decide)) (by omega) (by omega) (by first | assumption | omega) (by first | assumption | omega) (by first | assumption | omega) (by first | assumption | omega)) mt_X8_cross km_X8_47 ki_X8_cross ks_X8_cross hO.1 ⟨by decide, rfl⟩ rfl rfl (Nat.le_of_ble_eq_true rfl) ⟨⟨by decide, by decide⟩, by decide, by decide⟩ (fun I15 L16 eI15 eL16 => ?_)
  replace eI15 := eI15.symm; subst eI15
  have k17 : rd L16 (t1 + 2) = rd L (t1 + 2) := by rw [eL16, rd_cw_ne _ _ (by omega), rd_cw_ne _ _ (by omega)]; exact k3
  have k18 : rd L16 (t1 + 3) = rd L (t1 + 3) := by rw [eL16, rd_cw_ne _ _ (by omega), rd_cw_ne _ _ (by omega)]; exact k4
  have k19 : rd L16 (t2 + 2) = rd L (t2 + 2) := by rw [eL16, rd_cw_ne _ _ (by omega), rd_cw_ne _ _ (by omega)]; exact k5
  have k20 : rd L16 (t2 + 3) = rd L (t2 + 3) := by rw [eL16, rd_cw_ne _ _ (by omega), rd_cw_ne _ _ (by omega)]; exact k6
  have k21 : rd L16 (s0 + 1 + 0) = rd L (s0 + 1 + 0) := by rw [eL16, rd_cw_ne _ _ (by omega), rd_cw_ne _ _ (by omega)]; exact k7
  have k22 : rd L16 (s0 + 1 + 1) = rd L (s0 + 1 + 1) := by rw [eL16, rd_cw_ne _ _ (by omega), rd_cw_ne _ _ (by omega)]; exact k8
  have k23 : rd L16 (s0 + 1 + 2) = detC u (rd L (s0 + 1 + 0)) (rd L (t2 + 3)) (rd L (t1 + 3)) (rd L (s0 + 1 + 1)) := by rw [eL16, rd_cw]; simp only [k7, k6, k4, k8]
  have k24 : rd L16 (s0 + 1 + 3) = rd L (s0 + 1 + 3) := by rw [eL16, rd_cw_ne _ _ (by omega), rd_cw_ne _ _ (by omega)]; exact k10
  have k25 : rd L16 (s0 + 1 + 4) = detC u (rd L (t1 + 2)) (rd L (t2 + 3)) (rd L (t1 + 3)) (rd L (t2 + 2)) := by rw [eL16, rd_cw_ne _ _ (by omega), rd_cw_ne _ _ (by omega)]; exact k11
  have k26 : rd L16 (s0 + 1 + 5) = mulC u (rd L (t1 + 3)) (rd L (s0 + 1 + 1)) := by rw [eL16, rd_cw_ne _ _ (by omega), rd_cw]; simp only [k4, k8]
  have k27 : rd L16 x = rd L x := by rw [eL16, rd_cw_ne _ _ (by omega), rd_cw_ne _ _ (by omega)]; exact k13
  have k28 : rd L16 y = rd L y := by rw [eL16, rd_cw_ne _ _ (by omega), rd_cw_ne _ _ (by omega)]; exact k14
  refine x_aload_n 52 C dX8_moveBySolution_52 rfl 0 rfl ?_
  refine x_aload_n 53 C dX8_moveBySolution_53 rfl 0 rfl ?_
  refine x_getr 54 C (b := s0 + 1 + 3) dX8_moveBySolution_54 ff_X8_22 rfl hO.1 rfl ?_
  refine x_aload_n 57 C dX8_moveBySolution_57 rfl 1 rfl ?_
  refine x_getr 58 C (b := t1 + 2) dX8_moveBySolution_58 ff_X8_39 rfl h1.1 rfl ?_
  refine x_aload_n 61 C dX8_moveBySolution_61 rfl 0 rfl ?_
  refine x_getr 62 C (b := s0 + 1 + 1) dX8_moveBySolution_62 ff_X8_16 rfl hO.1 rfl ?_
  refine x_aload_n 65 C dX8_moveBySolution_65 rfl 0 rfl ?_
  refine x_getr 66 C (b := s0 + 1 + 0) dX8_moveBySolution_66 ff_X8_10 rfl hO.1 rfl ?_
  refine x_aload_n 69 C dX8_moveBySolution_69 rfl 2 rfl ?_
  refine x_getr 70 C (b := t2 + 2) dX8_moveBySolution_70 ff_X8_39 rfl h2.1 rfl ?_
  refine x_lload 73 C dX8_moveBySolution_73 5 rfl ?_
  refine x_callVe 75 C dX8_moveBySolution_75 (As := [.ref (s0 + 1 + 3), .ref (t1 + 2), .ref (s0 + 1 + 1), .ref (s0 + 1 + 0), .ref (t2 + 2), .long u]) (rest := []) [] (t_X8_cross l D z n G I L16 s0 (s0 + 1 + 3) (t1 + 2) (s0 + 1 + 1) (s0 + 1 + 0) (t2 + 2) u hO (hO.2 3 (by decide)) h1.2.2.1 (hO.2 1 (by decide)) (hO.2 0 (by decide)) h2.2.2.1 (by omega) (by omega) (by first | assumption | omega) (by first | assumption | omega) (by first | assumption | omega) (by first | assumption | omega)) mt_X8_cross km_X8_47 ki_X8_cross ks_X8_cross hO.1 ⟨by decide, rfl⟩ rfl rfl (Nat.le_of_ble_eq_true rfl) ⟨⟨by decide, by decide⟩, by decide, by decide⟩ (fun I29 L30 eI29 eL30 => ?_)
  replace eI29 := eI29.symm; subst eI29
  have k31 : rd L30 (t1 + 2) = rd L (t1 + 2) := by rw [eL30, rd_cw_ne _ _ (by omega), rd_cw_ne _ _ (by omega)]; exact k17
  have k32 : rd L30 (t1 + 3) = rd L (t1 + 3) := by rw [eL30, rd_cw_ne _ _ (by omega), rd_cw_ne _ _ (by omega)]; exact k18
  have k33 : rd L30 (t2 + 2) = rd L (t2 + 2) := by rw [eL30, rd_cw_ne _ _ (by omega), rd_cw_ne _ _ (by omega)]; exact k19
  have k34 : rd L30 (t2 + 3) = rd L (t2 + 3) := by rw [eL30, rd_cw_ne _ _ (by omega), rd_cw_ne _ _ (by omega)]; exact k20
  have k35 : rd L30 (s0 + 1 + 0) = rd L (s0 + 1 + 0) := by rw [eL30, rd_cw_ne _ _ (by omega), rd_cw_ne _ _ (by omega)]; exact k21
  have k36 : rd L30 (s0 + 1 + 1) = rd L (s0 + 1 + 1) := by rw [eL30, rd_cw_ne _ _ (by omega), rd_cw_ne _ _ (by omega)]; exact k22
  have k37 : rd L30 (s0 + 1 + 2) = detC u (rd L (s0 + 1 + 0)) (rd L (t2 + 3)) (rd L (t1 + 3)) (rd L (s0 + 1 + 1)) := by rw [eL30, rd_cw_ne _ _ (by omega), rd_cw_ne _ _ (by omega)]; exact k23
  have k38 : rd L30 (s0 + 1 + 3) = detC u (rd L (t1 + 2)) (rd L (s0 + 1 + 1)) (rd L (s0 + 1 + 0)) (rd L (t2 + 2)) := by rw [eL30, rd_cw]; simp only [k17, k22, k21, k19]
  have k39 : rd L30 (s0 + 1 + 4) = detC u (rd L (t1 + 2)) (rd L (t2 + 3)) (rd L (t1 + 3)) (rd L (t2 + 2)) := by rw [eL30, rd_cw_ne _ _ (by omega), rd_cw_ne _ _ (by omega)]; exact k25
  have k40 : rd L30 (s0 + 1 + 5) = mulC u (rd L (s0 + 1 + 0)) (rd L (t2 + 2)) := by rw [eL30, rd_cw_ne _ _ (by omega), rd_cw]; simp only [k21, k19]
  have k41 : rd L30 x = rd L x := by rw [eL30, rd_cw_ne _ _ (by omega), rd_cw_ne _ _ (by omega)]; exact k27
  have k42 : rd L30 y = rd L y := by rw [eL30, rd_cw_ne _ _ (by omega), rd_cw_ne _ _ (by omega)]; exact k28
  by_cases hn : solN u (rd L (t1 + 2)) (rd L (t1 + 3)) (rd L (t2 + 2)) (rd L (t2 + 3)) = 0
  · skip
    refine x_aload_n 78 C dX8_moveBySolution_78 rfl 0 rfl ?_
    refine x_getr 79 C (b := s0 + 1 + 2) dX8_moveBySolution_79 ff_X8_19 rfl hO.1 rfl ?_
    refine x_aload_n 82 C dX8_moveBySolution_82 rfl 0 rfl ?_
    refine x_getr 83 C (b := s0 + 1 + 4) dX8_moveBySolution_83 ff_X8_25 rfl hO.1 rfl ?_
    refine x_lload 86 C dX8_moveBySolution_86 5 rfl ?_
    refine x_callVe 88 C dX8_moveBySolution_88 (As := [.ref (s0 + 1 + 4), .long u]) (rest := []) [.int 0] (t_X0_divideBy_z l D z n G I L30 (s0 + 1 + 2) (s0 + 1 + 4) u (hO.2 2 (by decide)) (hO.2 4 (by decide)) (by omega) (by first | assumption | omega) (by rw [k39]; exact hn)) mt_X0_divideBy km_X8_51 ki_X0_divideBy ks_X0_divideBy (hO.2 2 (by decide)) ⟨by decide, rfl⟩ rfl rfl (Nat.le_of_ble_eq_true rfl) ⟨⟨by decide, by decide⟩, by decide, by decide⟩ (fun I43 L44 eI43 eL44 => ?_)
    replace eI43 := eI43.symm; subst eI43
    replace eL44 := eL44.symm; subst eL44
    refine x_if_eq 91 C 110 dX8_moveBySolution_91 (by decide) (fun _ => ?_) (fun c45 => absurd (by decide) c45)
    refine x_iconst 110 C (v := 0) dX8_moveBySolution_110 rfl ?_
    refine x_iret 111 C dX8_moveBySolution_111 rfl rfl (Nat.le_refl _) (xN.intro ?_)
    refine ⟨by rw [if_pos hn], rfl, by rw [if_pos hn]; exact k41, by rw [if_pos hn]; exact k42, fun h => absurd hn h, fun q g1 g2 g3 => ?_⟩
    rw [eL30, cw_ne _ _ (by omega), cw_ne _ _ (by omega)]; rw [eL16, cw_ne _ _ (by omega), cw_ne _ _ (by omega)]; rw [eL2, cw_ne _ _ (by omega), cw_ne _ _ (by omega)]
  · skip
    refine x_aload_n 78 C dX8_moveBySolution_78 rfl 0 rfl ?_
    refine x_getr 79 C (b := s0 + 1 + 2) dX8_moveBySolution_79 ff_X8_19 rfl hO.1 rfl ?_
    refine x_aload_n 82 C dX8_moveBySolution_82 rfl 0 rfl ?_
    refine x_getr 83 C (b := s0 + 1 + 4) dX8_moveBySolution_83 ff_X8_25 rfl hO.1 rfl ?_
    refine x_lload 86 C dX8_moveBySolution_86 5 rfl ?_
    refine x_callVe 88 C dX8_moveBySolution_88 (As := [.ref (s0 + 1 + 4), .long u]) (rest := []) [.int 1] (t_X0_divideBy_n l D z n G I L30 (s0 + 1 + 2) (s0 + 1 + 4) u (hO.2 2 (by decide)) (hO.2 4 (by decide)) (by omega) (by first | assumption | omega) (by rw [k39]; exact hn)) mt_X0_divideBy km_X8_51 ki_X0_divideBy ks_X0_divideBy (hO.2 2 (by decide)) ⟨by decide, rfl⟩ rfl rfl (Nat.le_of_ble_eq_true rfl) ⟨⟨by decide, by decide⟩, by decide, by decide⟩ (fun I46 L47 eI46 eL47 => ?_)
    replace eI46 := eI46.symm; subst eI46
    have k48 : rd L47 (t1 + 2) = rd L (t1 + 2) := by rw [eL47, rd_cw_ne _ _ (by omega)]; exact k31
    have k49 : rd L47 (t1 + 3) = rd L (t1 + 3) := by rw [eL47, rd_cw_ne _ _ (by omega)]; exact k32
    have k50 : rd L47 (t2 + 2) = rd L (t2 + 2) := by rw [eL47, rd_cw_ne _ _ (by omega)]; exact k33
    have k51 : rd L47 (t2 + 3) = rd L (t2 + 3) := by rw [eL47, rd_cw_ne _ _ (by omega)]; exact k34
    have k52 : rd L47 (s0 + 1 + 0) = rd L (s0 + 1 + 0) := by rw [eL47, rd_cw_ne _ _ (by omega)]; exact k35
    have k53 : rd L47 (s0 + 1 + 1) = rd L (s0 + 1 + 1) := by rw [eL47, rd_cw_ne _ _ (by omega)]; exact k36
    have k54 : rd L47 (s0 + 1 + 2) = divC (detC u (rd L (s0 + 1 + 0)) (rd L (t2 + 3)) (rd L (t1 + 3)) (rd L (s0 + 1 + 1))) (detC u (rd L (t1 + 2)) (rd L (t2 + 3)) (rd L (t1 + 3)) (rd L (t2 + 2))) u := by rw [eL47, rd_cw]; simp only [k37, k39]
    have k55 : rd L47 (s0 + 1 + 3) = detC u (rd L (t1 + 2)) (rd L (s0 + 1 + 1)) (rd L (s0 + 1 + 0)) (rd L (t2 + 2)) := by rw [eL47, rd_cw_ne _ _ (by omega)]; exact k38
    have k56 : rd L47 (s0 + 1 + 4) = detC u (rd L (t1 + 2)) (rd L (t2 + 3)) (rd L (t1 + 3)) (rd L (t2 + 2)) := by rw [eL47, rd_cw_ne _ _ (by omega)]; exact k39
    have k57 : rd L47 (s0 + 1 + 5) = mulC u (rd L (s0 + 1 + 0)) (rd L (t2 + 2)) := by rw [eL47, rd_cw_ne _ _ (by omega)]; exact k40
    have k58 : rd L47 x = rd L x := by rw [eL47, rd_cw_ne _ _ (by omega)]; exact k41
    have k59 : rd L47 y = rd L y := by rw [eL47, rd_cw_ne _ _ (by omega)]; exact k42
    refine x_if_eq 91 C 110 dX8_moveBySolution_91 (by decide) (fun c60 => absurd c60 (by decide)) (fun _ => ?_)
    refine x_aload_n 94 C dX8_moveBySolution_94 rfl 0 rfl ?_
    refine x_getr 95 C (b := s0 + 1 + 3) dX8_moveBySolution_95 ff_X8_22 rfl hO.1 rfl ?_
    refine x_aload_n 98 C dX8_moveBySolution_98 rfl 0 rfl ?_
    refine x_getr 99 C (b := s0 + 1 + 4) dX8_moveBySolution_99 ff_X8_25 rfl hO.1 rfl ?_
    refine x_lload 102 C dX8_moveBySolution_102 5 rfl ?_
    refine x_callVe 104 C dX8_moveBySolution_104 (As := [.ref (s0 + 1 + 4), .long u]) (rest := []) [.int 1] (t_X0_divideBy_n l D z n G I L47 (s0 + 1 + 3) (s0 + 1 + 4) u (hO.2 3 (by decide)) (hO.2 4 (by decide)) (by omega) (by first | assumption | omega) (by rw [k56]; exact hn)) mt_X0_divideBy km_X8_51 ki_X0_divideBy ks_X0_divideBy (hO.2 3 (by decide)) ⟨by decide, rfl⟩ rfl rfl (Nat.le_of_ble_eq_true rfl) ⟨⟨by decide, by decide⟩, by decide, by decide⟩ (fun I61 L62 eI61 eL62 => ?_)
    replace eI61 := eI61.symm; subst eI61
    have k63 : rd L62 (t1 + 2) = rd L (t1 + 2) := by rw [eL62, rd_cw_ne _ _ (by omega)]; exact k48
    have k64 : rd L62 (t1 + 3) = rd L (t1 + 3) := by rw [eL62, rd_cw_ne _ _ (by omega)]; exact k49
    have k65 : rd L62 (t2 + 2) = rd L (t2 + 2) := by rw [eL62, rd_cw_ne _ _ (by omega)]; exact k50
    have k66 : rd L62 (t2 + 3) = rd L (t2 + 3) := by rw [eL62, rd_cw_ne _ _ (by omega)]; exact k51
    have k67 : rd L62 (s0 + 1 + 0) = rd L (s0 + 1 + 0) := by rw [eL62, rd_cw_ne _ _ (by omega)]; exact k52
    have k68 : rd L62 (s0 + 1 + 1) = rd L (s0 + 1 + 1) := by rw [eL62, rd_cw_ne _ _ (by omega)]; exact k53
    have k69 : rd L62 (s0 + 1 + 2) = divC (detC u (rd L (s0 + 1 + 0)) (rd L (t2 + 3)) (rd L (t1 + 3)) (rd L (s0 + 1 + 1))) (detC u (rd L (t1 + 2)) (rd L (t2 + 3)) (rd L (t1 + 3)) (rd L (t2 + 2))) u := by rw [eL62, rd_cw_ne _ _ (by omega)]; exact k54
    have k70 : rd L62 (s0 + 1 + 3) = divC (detC u (rd L (t1 + 2)) (rd L (s0 + 1 + 1)) (rd L (s0 + 1 + 0)) (rd L (t2 + 2))) (detC u (rd L (t1 + 2)) (rd L (t2 + 3)) (rd L (t1 + 3)) (rd L (t2 + 2))) u := by rw [eL62, rd_cw]; simp only [k55, k56]
    have k71 : rd L62 (s0 + 1 + 4) = detC u (rd L (t1 + 2)) (rd L (t2 + 3)) (rd L (t1 + 3)) (rd L (t2 + 2)) := by rw [eL62, rd_cw_ne _ _ (by omega)]; exact k56
    have k72 : rd L62 (s0 + 1 + 5) = mulC u (rd L (s0 + 1 + 0)) (rd L (t2 + 2)) := by rw [eL62, rd_cw_ne _ _ (by omega)]; exact k57
    have k73 : rd L62 x = rd L x := by rw [eL62, rd_cw_ne _ _ (by omega)]; exact k58
    have k74 : rd L62 y = rd L y := by rw [eL62, rd_cw_ne _ _ (by omega)]; exact k59
    refine x_if_ne 107 C 112 dX8_moveBySolution_107 (by decide) (fun _ => ?_) (fun c75 => absurd c75 (by decide))
    refine x_aload_n 112 C dX8_moveBySolution_112 rfl 3 rfl ?_
    refine x_aload_n 113 C dX8_moveBySolution_113 rfl 0 rfl ?_
    refine x_getr 114 C (b := s0 + 1 + 2) dX8_moveBySolution_114 ff_X8_19 rfl hO.1 rfl ?_
    refine x_callVe 117 C dX8_moveBySolution_117 (As := [.ref (s0 + 1 + 2)]) (rest := []) [] (t_X0_add_c l D z n G I L62 x (s0 + 1 + 2) gx (hO.2 2 (by decide)) (by omega)) mt_X0_add km_X8_55 ki_X0_add ks_X0_add gx ⟨by decide, rfl⟩ rfl rfl (Nat.le_of_ble_eq_true rfl) ⟨⟨by decide, by decide⟩, by decide, by decide⟩ (fun I76 L77 eI76 eL77 => ?_)
    replace eI76 := eI76.symm; subst eI76
    have k78 : rd L77 (s0 + 1 + 2) = divC (detC u (rd L (s0 + 1 + 0)) (rd L (t2 + 3)) (rd L (t1 + 3)) (rd L (s0 + 1 + 1))) (detC u (rd L (t1 + 2)) (rd L (t2 + 3)) (rd L (t1 + 3)) (rd L (t2 + 2))) u := by rw [eL77, rd_cw_ne _ _ (by omega)]; exact k69
    have k79 : rd L77 (s0 + 1 + 3) = divC (detC u (rd L (t1 + 2)) (rd L (s0 + 1 + 1)) (rd L (s0 + 1 + 0)) (rd L (t2 + 2))) (detC u (rd L (t1 + 2)) (rd L (t2 + 3)) (rd L (t1 + 3)) (rd L (t2 + 2))) u := by rw [eL77, rd_cw_ne _ _ (by omega)]; exact k70
    have k80 : rd L77 x = addC (rd L x) (divC (detC u (rd L (s0 + 1 + 0)) (rd L (t2 + 3)) (rd L (t1 + 3)) (rd L (s0 + 1 + 1))) (detC u (rd L (t1 + 2)) (rd L (t2 + 3)) (rd L (t1 + 3)) (rd L (t2 + 2))) u) := by rw [eL77, rd_cw]; simp only [k73, k69]
    have k81 : rd L77 y = rd L y := by rw [eL77, rd_cw_ne _ _ (by omega)]; exact k74
    refine x_aload 120 C dX8_moveBySolution_120 4 rfl ?_
    refine x_aload_n 122 C dX8_moveBySolution_122 rfl 0 rfl ?_
    refine x_getr 123 C (b := s0 + 1 + 3) dX8_moveBySolution_123 ff_X8_22 rfl hO.1 rfl ?_
    refine x_callVe 126 C dX8_moveBySolution_126 (As := [.ref (s0 + 1 + 3)]) (rest := []) [] (t_X0_add_c l D z n G I L77 y (s0 + 1 + 3) gy (hO.2 3 (by decide)) (by omega)) mt_X0_add km_X8_55 ki_X0_add ks_X0_add gy ⟨by decide, rfl⟩ rfl rfl (Nat.le_of_ble_eq_true rfl) ⟨⟨by decide, by decide⟩, by decide, by decide⟩ (fun I82 L83 eI82 eL83 => ?_)
    replace eI82 := eI82.symm; subst eI82
    have k84 : rd L83 (s0 + 1 + 2) = divC (detC u (rd L (s0 + 1 + 0)) (rd L (t2 + 3)) (rd L (t1 + 3)) (rd L (s0 + 1 + 1))) (detC u (rd L (t1 + 2)) (rd L (t2 + 3)) (rd L (t1 + 3)) (rd L (t2 + 2))) u := by rw [eL83, rd_cw_ne _ _ (by omega)]; exact k78
    have k85 : rd L83 (s0 + 1 + 3) = divC (detC u (rd L (t1 + 2)) (rd L (s0 + 1 + 1)) (rd L (s0 + 1 + 0)) (rd L (t2 + 2))) (detC u (rd L (t1 + 2)) (rd L (t2 + 3)) (rd L (t1 + 3)) (rd L (t2 + 2))) u := by rw [eL83, rd_cw_ne _ _ (by omega)]; exact k79
    have k86 : rd L83 x = addC (rd L x) (divC (detC u (rd L (s0 + 1 + 0)) (rd L (t2 + 3)) (rd L (t1 + 3)) (rd L (s0 + 1 + 1))) (detC u (rd L (t1 + 2)) (rd L (t2 + 3)) (rd L (t1 + 3)) (rd L (t2 + 2))) u) := by rw [eL83, rd_cw_ne _ _ (by omega)]; exact k80
    have k87 : rd L83 y = addC (rd L y) (divC (detC u (rd L (t1 + 2)) (rd L (s0 + 1 + 1)) (rd L (s0 + 1 + 0)) (rd L (t2 + 2))) (detC u (rd L (t1 + 2)) (rd L (t2 + 3)) (rd L (t1 + 3)) (rd L (t2 + 2))) u) := by rw [eL83, rd_cw]; simp only [k81, k79]
    refine x_iconst 129 C (v := 1) dX8_moveBySolution_129 rfl ?_
    refine x_iret 130 C dX8_moveBySolution_130 rfl rfl (Nat.le_refl _) (xN.intro ?_)
    refine ⟨by rw [if_neg hn], rfl, by rw [if_neg hn]; exact k86, by rw [if_neg hn]; exact k87, fun _ => ⟨k84, k85⟩, fun q g1 g2 g3 => ?_⟩
    rw [eL83, cw_ne _ _ (by omega)]; rw [eL77, cw_ne _ _ (by omega)]; rw [eL62, cw_ne _ _ (by omega)]; rw [eL47, cw_ne _ _ (by omega)]; rw [eL30, cw_ne _ _ (by omega), cw_ne _ _ (by omega)]; rw [eL16, cw_ne _ _ (by omega), cw_ne _ _ (by omega)]; rw [eL2, cw_ne _ _ (by omega), cw_ne _ _ (by omega)]
theorem dX8_solutionSize_0 : decode cX8_solutionSize 0 = .ok (.aload_n 0, 1) := by decide +kernel
theorem dX8_solutionSize_1 : decode cX8_solutionSize 1 = .ok (.getfield 19, 3) := by decide +kernel
theorem dX8_solutionSize_4 : decode cX8_solutionSize 4 = .ok (.invokevirtual 59, 3) := by decide +kernel
theorem dX8_solutionSize_7 : decode cX8_solutionSize 7 = .ok (.aload_n 0, 1) := by decide +kernel
theorem dX8_solutionSize_8 : decode cX8_solutionSize 8 = .ok (.getfield 22, 3) := by decide +kernel
theorem dX8_solutionSize_11 : decode cX8_solutionSize 11 = .ok (.invokevirtual 59, 3) := by decide +kernel
theorem dX8_solutionSize_14 : decode cX8_solutionSize 14 = .ok (.invokestatic 63, 3) := by decide +kernel
theorem dX8_solutionSize_17 : decode cX8_solutionSize 17 = .ok (.lreturn, 1) := by decide +kernel
set_option maxHeartbeats 4000000 in
set_option maxRecDepth 100000 in
theorem t_X8_solutionSize (l : Launch) (D : xD) (z n : Nat) (G : xG) (I : xI) (L : xL) (s0 : Nat) (hO : shO G s0) : xM0 l D z yX8_solutionSize cX8_solutionSize 1 (some .long) 2 43 [.ref s0] n G I L (xE (some (.long (lmax (sizC (rd L (s0 + 1 + 2))) (sizC (rd L (s0 + 1 + 3)))))) I L) := by
  refine xM.of (by decide) (Nat.le_of_ble_eq_true rfl) (fun p e s m args below meth c C hnm hsz => ?_)
  refine x_lv [(0, .ref s0)] rfl ?_
  refine x_aload_n 0 C dX8_solutionSize_0 rfl 0 rfl ?_
  refine x_getr 1 C (b := s0 + 1 + 2) dX8_solutionSize_1 ff_X8_19 rfl hO.1 rfl ?_
  refine x_callVe 4 C dX8_solutionSize_4 (As := []) (rest := []) [.long (sizC (rd L (s0 + 1 + 2)))] (t_X0_size_c l D z n G I L (s0 + 1 + 2) (hO.2 2 (by decide))) mt_X0_size km_X8_59 ki_X0_size ks_X0_size (hO.2 2 (by decide)) ⟨by decide, rfl⟩ rfl rfl (Nat.le_of_ble_eq_true rfl) ⟨⟨by decide, by decide⟩, by decide, by decide⟩ (fun I1 L2 eI1 eL2 => ?_)
  replace eI1 := eI1.symm; subst eI1
  replace eL2 := eL2.symm; subst eL2
  refine x_aload_n 7 C dX8_solutionSize_7 rfl 0 rfl ?_
  refine x_getr 8 C (b := s0 + 1 + 3) dX8_solutionSize_8 ff_X8_22 rfl hO.1 rfl ?_
  refine x_callVe 11 C dX8_solutionSize_11 (As := []) (rest := [.long (sizC (rd L (s0 + 1 + 2)))]) [.long (sizC (rd L (s0 + 1 + 3))), .long (sizC (rd L (s0 + 1 + 2)))] (t_X0_size_c l D z n G I L (s0 + 1 + 3) (hO.2 3 (by decide))) mt_X0_size km_X8_59 ki_X0_size ks_X0_size (hO.2 3 (by decide)) ⟨by decide, rfl⟩ rfl rfl (Nat.le_of_ble_eq_true rfl) ⟨⟨by decide, by decide⟩, by decide, by decide⟩ (fun I3 L4 eI3 eL4 => ?_)
  replace eI3 := eI3.symm; subst eI3
  replace eL4 := eL4.symm; subst eL4
  refine x_mmaxl 14 C dX8_solutionSize_14 km_X8_63 kt_J9_max_f86c9 kn_J9 kc_J9_max_f86c9 ⟨by decide, Nat.le_of_ble_eq_true rfl, by decide, by decide⟩ ?_
  refine x_lret 17 C dX8_solutionSize_17 rfl (Nat.le_refl _) (xN.intro ?_)
  exact ⟨rfl, rfl, rfl⟩
theorem dX1_termOf_0 : decode cX1_termOf 0 = .ok (.iload_n 0, 1) := by decide +kernel
theorem dX1_termOf_1 : decode cX1_termOf 1 = .ok (.ifCond .lt 23, 3) := by decide +kernel
theorem dX1_termOf_4 : decode cX1_termOf 4 = .ok (.iload_n 0, 1) := by decide +kernel
theorem dX1_termOf_5 : decode cX1_termOf 5 = .ok (.iconst 3, 1) := by decide +kernel
theorem dX1_termOf_6 : decode cX1_termOf 6 = .ok (.if_icmp .gt 18, 3) := by decide +kernel
theorem dX1_termOf_9 : decode cX1_termOf 9 = .ok (.iload_n 1, 1) := by decide +kernel
theorem dX1_termOf_10 : decode cX1_termOf 10 = .ok (.ifCond .lt 14, 3) := by decide +kernel
theorem dX1_termOf_13 : decode cX1_termOf 13 = .ok (.iload_n 1, 1) := by decide +kernel
theorem dX1_termOf_14 : decode cX1_termOf 14 = .ok (.iconst 3, 1) := by decide +kernel
theorem dX1_termOf_15 : decode cX1_termOf 15 = .ok (.iload_n 0, 1) := by decide +kernel
theorem dX1_termOf_16 : decode cX1_termOf 16 = .ok (.isub, 1) := by decide +kernel
theorem dX1_termOf_17 : decode cX1_termOf 17 = .ok (.if_icmp .gt 7, 3) := by decide +kernel
theorem dX1_termOf_20 : decode cX1_termOf 20 = .ok (.iconst 1, 1) := by decide +kernel
theorem dX1_termOf_21 : decode cX1_termOf 21 = .ok (.goto 4, 3) := by decide +kernel
theorem dX1_termOf_24 : decode cX1_termOf 24 = .ok (.iconst 0, 1) := by decide +kernel
theorem dX1_termOf_25 : decode cX1_termOf 25 = .ok (.istore_n 2, 1) := by decide +kernel
theorem dX1_termOf_26 : decode cX1_termOf 26 = .ok (.iload_n 2, 1) := by decide +kernel
theorem dX1_termOf_27 : decode cX1_termOf 27 = .ok (.ifCond .eq 13, 3) := by decide +kernel
theorem dX1_termOf_30 : decode cX1_termOf 30 = .ok (.getstatic 23, 3) := by decide +kernel
theorem dX1_termOf_33 : decode cX1_termOf 33 = .ok (.iload_n 0, 1) := by decide +kernel
theorem dX1_termOf_34 : decode cX1_termOf 34 = .ok (.iaload, 1) := by decide +kernel
theorem dX1_termOf_35 : decode cX1_termOf 35 = .ok (.iload_n 1, 1) := by decide +kernel
theorem dX1_termOf_36 : decode cX1_termOf 36 = .ok (.iadd, 1) := by decide +kernel
theorem dX1_termOf_37 : decode cX1_termOf 37 = .ok (.goto 4, 3) := by decide +kernel
theorem dX1_termOf_40 : decode cX1_termOf 40 = .ok (.iconst 0, 1) := by decide +kernel
theorem dX1_termOf_41 : decode cX1_termOf 41 = .ok (.ireturn, 1) := by decide +kernel
set_option maxHeartbeats 4000000 in
set_option maxRecDepth 100000 in
theorem t_X1_termOf (l : Launch) (D : xD) (z n : Nat) (G : xG) (I : xI) (L : xL) (i : Nat) (j : Nat) (hij : i + j ≤ 3) : xM0 l D z yX1_termOf cX1_termOf 3 (some .int) 0 0 [.int (nI i), .int (nI j)] n G I L (xE (some (.int (nI (tm i j)))) I L) := by
  refine xM.of (by decide) (Nat.le_of_ble_eq_true rfl) (fun p e s m args below meth c C hnm hsz => ?_)
  refine x_lv [(0, .int (nI i)), (1, .int (nI j))] rfl ?_
  refine x_iload_n 0 C dX1_termOf_0 rfl 0 rfl ?_
  refine x_if_lt 1 C 24 dX1_termOf_1 (by decide) (fun c1 => absurd c1 (nI_pos (n := i) (by omega))) (fun _ => ?_)
  refine x_iload_n 4 C dX1_termOf_4 rfl 0 rfl ?_
  refine x_iconst 5 C (v := 3) dX1_termOf_5 rfl ?_
  refine x_icmp_gt 6 C 24 dX1_termOf_6 (by decide) (fun c2 => absurd c2 (fun h => absurd ((nI_ltI (a := 3) (b := i) (by omega) (by omega)).mp h) (by omega))) (fun _ => ?_)
  refine x_iload_n 9 C dX1_termOf_9 rfl 1 rfl ?_
  refine x_if_lt 10 C 24 dX1_termOf_10 (by decide) (fun c3 => absurd c3 (nI_pos (n := j) (by omega))) (fun _ => ?_)
  refine x_iload_n 13 C dX1_termOf_13 rfl 1 rfl ?_
  refine x_iconst 14 C (v := 3) dX1_termOf_14 rfl ?_
  refine x_iload_n 15 C dX1_termOf_15 rfl 0 rfl ?_
  refine x_isub 16 C dX1_termOf_16 ?_
  refine x_int (nI (3 - i)) (nI_sub (a := 3) (b := i) (by omega)) ?_
  refine x_icmp_gt 17 C 24 dX1_termOf_17 (by decide) (fun c4 => absurd c4 (fun h => absurd ((nI_ltI (a := (3 - i)) (b := j) (by omega) (by omega)).mp h) (by omega))) (fun _ => ?_)
  refine x_iconst 20 C (v := 1) dX1_termOf_20 rfl ?_
  refine x_goto 21 C 25 dX1_termOf_21 (by decide) ?_
  refine x_istore_n 25 C [(2, .int 1), (0, .int (nI i)), (1, .int (nI j))] dX1_termOf_25 rfl (by decide) rfl ?_
  refine x_iload_n 26 C dX1_termOf_26 rfl 0 rfl ?_
  refine x_if_eq 27 C 40 dX1_termOf_27 (by decide) (fun c5 => absurd c5 (by decide)) (fun _ => ?_)
  refine x_gets 30 C (k0 := 2) dX1_termOf_30 rfl kf_X1_23 ?_
  refine x_iload_n 33 C dX1_termOf_33 rfl 1 rfl ?_
  refine x_stald 34 C (j := i) dX1_termOf_34 (k0 := 2) rfl (xIx_nI (len := 4) (by omega) (by decide)) ?_
  refine x_int (nI (tm i 0)) (xFt_n (by omega)) ?_
  refine x_iload_n 35 C dX1_termOf_35 rfl 2 rfl ?_
  refine x_iadd 36 C dX1_termOf_36 ?_
  refine x_int (nI (tm i j)) (nI_add (tm i 0) j) ?_
  refine x_goto 37 C 41 dX1_termOf_37 (by decide) ?_
  refine x_iret 41 C dX1_termOf_41 rfl rfl (Nat.le_refl _) (xN.intro ?_)
  exact ⟨rfl, rfl, rfl⟩
theorem dX1_heldCoefficient_0 : decode cX1_heldCoefficient 0 = .ok (.sipush (-999), 3) := by decide +kernel
theorem dX1_heldCoefficient_3 : decode cX1_heldCoefficient 3 = .ok (.sipush 999, 3) := by decide +kernel
theorem dX1_heldCoefficient_6 : decode cX1_heldCoefficient 6 = .ok (.iload_n 0, 1) := by decide +kernel
theorem dX1_heldCoefficient_7 : decode cX1_heldCoefficient 7 = .ok (.invokestatic 26, 3) := by decide +kernel
theorem dX1_heldCoefficient_10 : decode cX1_heldCoefficient 10 = .ok (.invokestatic 32, 3) := by decide +kernel
theorem dX1_heldCoefficient_13 : decode cX1_heldCoefficient 13 = .ok (.ireturn, 1) := by decide +kernel
set_option maxHeartbeats 4000000 in
set_option maxRecDepth 100000 in
theorem t_X1_heldCoefficient (l : Launch) (D : xD) (z n : Nat) (G : xG) (I : xI) (L : xL) (x : Int32)  : xM0 l D z yX1_heldCoefficient cX1_heldCoefficient 1 (some .int) 1 23 [.int x] n G I L (xE (some (.int (heldc x))) I L) := by
  refine xM.of (by decide) (Nat.le_of_ble_eq_true rfl) (fun p e s m args below meth c C hnm hsz => ?_)
  refine x_lv [(0, .int x)] rfl ?_
  refine x_sipush 0 C (v := (-999)) dX1_heldCoefficient_0 rfl ?_
  refine x_sipush 3 C (v := 999) dX1_heldCoefficient_3 rfl ?_
  refine x_iload_n 6 C dX1_heldCoefficient_6 rfl 0 rfl ?_
  refine x_mmin 7 C dX1_heldCoefficient_7 km_X1_26 kt_J9_min_7cf53 kn_J9 kc_J9_min_7cf53 ⟨by decide, Nat.le_of_ble_eq_true rfl, by decide, by decide⟩ ?_
  refine x_mmax 10 C dX1_heldCoefficient_10 km_X1_32 kt_J9_max_7cf53 kn_J9 kc_J9_max_7cf53 ⟨by decide, Nat.le_of_ble_eq_true rfl, by decide, by decide⟩ ?_
  refine x_iret 13 C dX1_heldCoefficient_13 rfl rfl (Nat.le_refl _) (xN.intro ?_)
  exact ⟨rfl, rfl, rfl⟩
theorem dX1_clear_0 : decode cX1_clear 0 = .ok (.iconst 0, 1) := by decide +kernel
theorem dX1_clear_1 : decode cX1_clear 1 = .ok (.istore_n 1, 1) := by decide +kernel
theorem dX1_clear_2 : decode cX1_clear 2 = .ok (.iload_n 1, 1) := by decide +kernel
theorem dX1_clear_3 : decode cX1_clear 3 = .ok (.bipush 10, 2) := by decide +kernel
theorem dX1_clear_5 : decode cX1_clear 5 = .ok (.if_icmp .ge 23, 3) := by decide +kernel
theorem dX1_clear_8 : decode cX1_clear 8 = .ok (.aload_n 0, 1) := by decide +kernel
theorem dX1_clear_9 : decode cX1_clear 9 = .ok (.getfield 9, 3) := by decide +kernel
theorem dX1_clear_12 : decode cX1_clear 12 = .ok (.iload_n 1, 1) := by decide +kernel
theorem dX1_clear_13 : decode cX1_clear 13 = .ok (.iconst 0, 1) := by decide +kernel
theorem dX1_clear_14 : decode cX1_clear 14 = .ok (.iastore, 1) := by decide +kernel
theorem dX1_clear_15 : decode cX1_clear 15 = .ok (.aload_n 0, 1) := by decide +kernel
theorem dX1_clear_16 : decode cX1_clear 16 = .ok (.getfield 13, 3) := by decide +kernel
theorem dX1_clear_19 : decode cX1_clear 19 = .ok (.iload_n 1, 1) := by decide +kernel
theorem dX1_clear_20 : decode cX1_clear 20 = .ok (.iconst 0, 1) := by decide +kernel
theorem dX1_clear_21 : decode cX1_clear 21 = .ok (.iastore, 1) := by decide +kernel
theorem dX1_clear_22 : decode cX1_clear 22 = .ok (.iinc 1 1, 3) := by decide +kernel
theorem dX1_clear_25 : decode cX1_clear 25 = .ok (.goto (-23), 3) := by decide +kernel
theorem dX1_clear_28 : decode cX1_clear 28 = .ok (.return_, 1) := by decide +kernel
set_option maxHeartbeats 4000000 in
set_option maxRecDepth 100000 in
theorem t_X1_clear (l : Launch) (D : xD) (z n : Nat) (G : xG) (I : xI) (L : xL) (q : Nat) (hE : shE G q) (zq : z ≤ q) : xM0 l D z yX1_clear cX1_clear 2 none 0 0 [.ref q] n G I L (xE none (eqFill I q 10 (fun _ => 0) (fun _ => 0)) L) := by
  refine xM.of (by decide) (Nat.le_of_ble_eq_true rfl) (fun p e s m args below meth c C hnm hsz => ?_)
  refine x_lv [(0, .ref q)] rfl ?_
  refine x_iconst 0 C (v := 0) dX1_clear_0 rfl ?_
  refine x_istore_n 1 C [(1, .int 0), (0, .ref q)] dX1_clear_1 rfl (by decide) rfl ?_
  have loop2 : ∀ (fuel : Nat) (k : Nat) (Ik : xI), (k ≤ 10) → (11 ≤ k + fuel) → (Ik = eqFill I q k (fun _ => 0) (fun _ => 0)) → X p l e (xRm 0 0 0 0) s m args below meth c D z 2 (MQ below (xQc D z n (xN n G (xE none (eqFill I q 10 (fun _ => 0) (fun _ => 0)) L))) args s 0 0 (fun a => z ≤ a)) 0 0 n G Ik L 2 [(0, .ref q), (1, .int (nI k))] [] := by
    intro fuel
    induction fuel with
    | zero =>
      intro k Ik hk hf hI
      exact absurd hf (by omega)
    | succ fuel ih =>
      intro k Ik hk hf hI
      refine x_iload_n 2 C dX1_clear_2 rfl 1 rfl ?_
      refine x_bipush 3 C (v := 10) dX1_clear_3 rfl ?_
      refine x_icmp_ge 5 C 28 dX1_clear_5 (by decide) (fun c1 => ?_) (fun c1 => ?_)
      · skip
        have c1n : 10 ≤ k := (nI_leI (a := 10) (b := k) (by omega) (by omega)).mp c1
        have c1o := Int32.not_lt.mpr c1
        refine x_vret 28 C dX1_clear_28 rfl (Nat.le_refl _) (xN.intro ?_)
        have hk10 : k = 10 := by omega
        subst hk10
        exact ⟨rfl, hI, rfl⟩
      · skip
        have c1n : ¬ (10 ≤ k) := fun h => c1 ((nI_leI (a := 10) (b := k) (by omega) (by omega)).mpr h)
        have c1o := Int32.not_le.mp c1
        refine x_aload_n 8 C dX1_clear_8 rfl 0 rfl ?_
        refine x_getr 9 C (b := q + 1) dX1_clear_9 ff_X1_9 rfl hE.1 rfl ?_
        refine x_iload_n 12 C dX1_clear_12 rfl 1 rfl ?_
        refine x_iconst 13 C (v := 0) dX1_clear_13 rfl ?_
        refine x_iast 14 C (j := k) dX1_clear_14 hE.2.1 (by omega) (xIx_nI (by omega) (by decide)) (fun I2 eI2 => ?_)
        refine x_aload_n 15 C dX1_clear_15 rfl 0 rfl ?_
        refine x_getr 16 C (b := q + 2) dX1_clear_16 ff_X1_13 rfl hE.1 rfl ?_
        refine x_iload_n 19 C dX1_clear_19 rfl 1 rfl ?_
        refine x_iconst 20 C (v := 0) dX1_clear_20 rfl ?_
        refine x_iast 21 C (j := k) dX1_clear_21 hE.2.2.1 (by omega) (xIx_nI (by omega) (by decide)) (fun I3 eI3 => ?_)
        refine x_iinc 22 C [(1, .int (nI (k + 1))), (0, .ref q)] dX1_clear_22 1 rfl (nI_add k 1) (by decide) rfl ?_
        refine x_goto 25 C 2 dX1_clear_25 (by decide) ?_
        refine x_sub [(0, .ref q), (1, .int (nI (k + 1)))] [1, 0] rfl ?_
        exact ih (k + 1) I3 (by omega) (by omega) (by rw [eI3, eI2, hI]; exact eqFill_succ I q k _ _)
  refine x_sub [(0, .ref q), (1, .int 0)] [1, 0] rfl ?_
  exact loop2 11 0 I (by omega) (by omega) (eqFill_0 I q _ _).symm
theorem dX1_copy_0 : decode cX1_copy 0 = .ok (.iconst 0, 1) := by decide +kernel
theorem dX1_copy_1 : decode cX1_copy 1 = .ok (.istore_n 2, 1) := by decide +kernel
theorem dX1_copy_2 : decode cX1_copy 2 = .ok (.iload_n 2, 1) := by decide +kernel
theorem dX1_copy_3 : decode cX1_copy 3 = .ok (.bipush 10, 2) := by decide +kernel
theorem dX1_copy_5 : decode cX1_copy 5 = .ok (.if_icmp .ge 33, 3) := by decide +kernel
theorem dX1_copy_8 : decode cX1_copy 8 = .ok (.aload_n 0, 1) := by decide +kernel
theorem dX1_copy_9 : decode cX1_copy 9 = .ok (.getfield 9, 3) := by decide +kernel
theorem dX1_copy_12 : decode cX1_copy 12 = .ok (.iload_n 2, 1) := by decide +kernel
theorem dX1_copy_13 : decode cX1_copy 13 = .ok (.aload_n 1, 1) := by decide +kernel
theorem dX1_copy_14 : decode cX1_copy 14 = .ok (.getfield 9, 3) := by decide +kernel
theorem dX1_copy_17 : decode cX1_copy 17 = .ok (.iload_n 2, 1) := by decide +kernel
theorem dX1_copy_18 : decode cX1_copy 18 = .ok (.iaload, 1) := by decide +kernel
theorem dX1_copy_19 : decode cX1_copy 19 = .ok (.iastore, 1) := by decide +kernel
theorem dX1_copy_20 : decode cX1_copy 20 = .ok (.aload_n 0, 1) := by decide +kernel
theorem dX1_copy_21 : decode cX1_copy 21 = .ok (.getfield 13, 3) := by decide +kernel
theorem dX1_copy_24 : decode cX1_copy 24 = .ok (.iload_n 2, 1) := by decide +kernel
theorem dX1_copy_25 : decode cX1_copy 25 = .ok (.aload_n 1, 1) := by decide +kernel
theorem dX1_copy_26 : decode cX1_copy 26 = .ok (.getfield 13, 3) := by decide +kernel
theorem dX1_copy_29 : decode cX1_copy 29 = .ok (.iload_n 2, 1) := by decide +kernel
theorem dX1_copy_30 : decode cX1_copy 30 = .ok (.iaload, 1) := by decide +kernel
theorem dX1_copy_31 : decode cX1_copy 31 = .ok (.iastore, 1) := by decide +kernel
theorem dX1_copy_32 : decode cX1_copy 32 = .ok (.iinc 2 1, 3) := by decide +kernel
theorem dX1_copy_35 : decode cX1_copy 35 = .ok (.goto (-33), 3) := by decide +kernel
theorem dX1_copy_38 : decode cX1_copy 38 = .ok (.return_, 1) := by decide +kernel
set_option maxHeartbeats 4000000 in
set_option maxRecDepth 100000 in
theorem t_X1_copy (l : Launch) (D : xD) (z n : Nat) (G : xG) (I : xI) (L : xL) (q : Nat) (o : Nat) (hE : shE G q) (hEo : shE G o) (zq : z ≤ q) (hqo : o + 2 ≠ q + 1) : xM0 l D z yX1_copy cX1_copy 3 none 0 0 [.ref q, .ref o] n G I L (xE none (eqFill I q 10 (I (o + 1)) (I (o + 2))) L) := by
  refine xM.of (by decide) (Nat.le_of_ble_eq_true rfl) (fun p e s m args below meth c C hnm hsz => ?_)
  refine x_lv [(0, .ref q), (1, .ref o)] rfl ?_
  refine x_iconst 0 C (v := 0) dX1_copy_0 rfl ?_
  refine x_istore_n 1 C [(2, .int 0), (0, .ref q), (1, .ref o)] dX1_copy_1 rfl (by decide) rfl ?_
  have loop2 : ∀ (fuel : Nat) (k : Nat) (Ik : xI), (k ≤ 10) → (11 ≤ k + fuel) → (Ik = eqFill I q k (I (o + 1)) (I (o + 2))) → X p l e (xRm 0 0 0 0) s m args below meth c D z 3 (MQ below (xQc D z n (xN n G (xE none (eqFill I q 10 (I (o + 1)) (I (o + 2))) L))) args s 0 0 (fun a => z ≤ a)) 0 0 n G Ik L 2 [(0, .ref q), (1, .ref o), (2, .int (nI k))] [] := by
    intro fuel
    induction fuel with
    | zero =>
      intro k Ik hk hf hI
      exact absurd hf (by omega)
    | succ fuel ih =>
      intro k Ik hk hf hI
      refine x_iload_n 2 C dX1_copy_2 rfl 2 rfl ?_
      refine x_bipush 3 C (v := 10) dX1_copy_3 rfl ?_
      refine x_icmp_ge 5 C 38 dX1_copy_5 (by decide) (fun c1 => ?_) (fun c1 => ?_)
      · skip
        have c1n : 10 ≤ k := (nI_leI (a := 10) (b := k) (by omega) (by omega)).mp c1
        have c1o := Int32.not_lt.mpr c1
        refine x_vret 38 C dX1_copy_38 rfl (Nat.le_refl _) (xN.intro ?_)
        have hk10 : k = 10 := by omega
        subst hk10
        exact ⟨rfl, hI, rfl⟩
      · skip
        have c1n : ¬ (10 ≤ k) := fun h => c1 ((nI_leI (a := 10) (b := k) (by omega) (by omega)).mpr h)
        have c1o := Int32.not_le.mp c1
        refine x_aload_n 8 C dX1_copy_8 rfl 0 rfl ?_
        refine x_getr 9 C (b := q + 1) dX1_copy_9 ff_X1_9 rfl hE.1 rfl ?_
        refine x_iload_n 12 C dX1_copy_12 rfl 2 rfl ?_
        refine x_aload_n 13 C dX1_copy_13 rfl 1 rfl ?_
        refine x_getr 14 C (b := o + 1) dX1_copy_14 ff_X1_9 rfl hEo.1 rfl ?_
        refine x_iload_n 17 C dX1_copy_17 rfl 2 rfl ?_
        refine x_iald 18 C (j := k) dX1_copy_18 hEo.2.1 (xIx_nI (by omega) (by decide)) ?_
        refine x_iast 19 C (j := k) dX1_copy_19 hE.2.1 (by omega) (xIx_nI (by omega) (by decide)) (fun I2 eI2 => ?_)
        refine x_aload_n 20 C dX1_copy_20 rfl 0 rfl ?_
        refine x_getr 21 C (b := q + 2) dX1_copy_21 ff_X1_13 rfl hE.1 rfl ?_
        refine x_iload_n 24 C dX1_copy_24 rfl 2 rfl ?_
        refine x_aload_n 25 C dX1_copy_25 rfl 1 rfl ?_
        refine x_getr 26 C (b := o + 2) dX1_copy_26 ff_X1_13 rfl hEo.1 rfl ?_
        refine x_iload_n 29 C dX1_copy_29 rfl 2 rfl ?_
        refine x_iald 30 C (j := k) dX1_copy_30 hEo.2.2.1 (xIx_nI (by omega) (by decide)) ?_
        refine x_iast 31 C (j := k) dX1_copy_31 hE.2.2.1 (by omega) (xIx_nI (by omega) (by decide)) (fun I3 eI3 => ?_)
        refine x_iinc 32 C [(2, .int (nI (k + 1))), (0, .ref q), (1, .ref o)] dX1_copy_32 2 rfl (nI_add k 1) (by decide) rfl ?_
        refine x_goto 35 C 2 dX1_copy_35 (by decide) ?_
        refine x_sub [(0, .ref q), (1, .ref o), (2, .int (nI (k + 1)))] [1, 2, 0] rfl ?_
        exact ih (k + 1) I3 (by omega) (by omega) (by rw [eI3, eI2, hI]; simp only [xup_row _ _ hqo]; rw [show eqFill I q k (I (o + 1)) (I (o + 2)) (o + 1) k = I (o + 1) k by simp [eqFill], show eqFill I q k (I (o + 1)) (I (o + 2)) (o + 2) k = I (o + 2) k by simp [eqFill]]; exact eqFill_succ I q k _ _)
  refine x_sub [(0, .ref q), (1, .ref o), (2, .int 0)] [1, 2, 0] rfl ?_
  exact loop2 11 0 I (by omega) (by omega) (eqFill_0 I q _ _).symm
theorem dX1_addTerm_0 : decode cX1_addTerm 0 = .ok (.iload_n 1, 1) := by decide +kernel
theorem dX1_addTerm_1 : decode cX1_addTerm 1 = .ok (.iload_n 2, 1) := by decide +kernel
theorem dX1_addTerm_2 : decode cX1_addTerm 2 = .ok (.invokestatic 35, 3) := by decide +kernel
theorem dX1_addTerm_5 : decode cX1_addTerm 5 = .ok (.istore 5, 2) := by decide +kernel
theorem dX1_addTerm_7 : decode cX1_addTerm 7 = .ok (.aload_n 0, 1) := by decide +kernel
theorem dX1_addTerm_8 : decode cX1_addTerm 8 = .ok (.getfield 9, 3) := by decide +kernel
theorem dX1_addTerm_11 : decode cX1_addTerm 11 = .ok (.iload 5, 2) := by decide +kernel
theorem dX1_addTerm_13 : decode cX1_addTerm 13 = .ok (.aload_n 0, 1) := by decide +kernel
theorem dX1_addTerm_14 : decode cX1_addTerm 14 = .ok (.getfield 9, 3) := by decide +kernel
theorem dX1_addTerm_17 : decode cX1_addTerm 17 = .ok (.iload 5, 2) := by decide +kernel
theorem dX1_addTerm_19 : decode cX1_addTerm 19 = .ok (.iaload, 1) := by decide +kernel
theorem dX1_addTerm_20 : decode cX1_addTerm 20 = .ok (.iload_n 3, 1) := by decide +kernel
theorem dX1_addTerm_21 : decode cX1_addTerm 21 = .ok (.iadd, 1) := by decide +kernel
theorem dX1_addTerm_22 : decode cX1_addTerm 22 = .ok (.invokestatic 38, 3) := by decide +kernel
theorem dX1_addTerm_25 : decode cX1_addTerm 25 = .ok (.iastore, 1) := by decide +kernel
theorem dX1_addTerm_26 : decode cX1_addTerm 26 = .ok (.aload_n 0, 1) := by decide +kernel
theorem dX1_addTerm_27 : decode cX1_addTerm 27 = .ok (.getfield 13, 3) := by decide +kernel
theorem dX1_addTerm_30 : decode cX1_addTerm 30 = .ok (.iload 5, 2) := by decide +kernel
theorem dX1_addTerm_32 : decode cX1_addTerm 32 = .ok (.aload_n 0, 1) := by decide +kernel
theorem dX1_addTerm_33 : decode cX1_addTerm 33 = .ok (.getfield 13, 3) := by decide +kernel
theorem dX1_addTerm_36 : decode cX1_addTerm 36 = .ok (.iload 5, 2) := by decide +kernel
theorem dX1_addTerm_38 : decode cX1_addTerm 38 = .ok (.iaload, 1) := by decide +kernel
theorem dX1_addTerm_39 : decode cX1_addTerm 39 = .ok (.iload 4, 2) := by decide +kernel
theorem dX1_addTerm_41 : decode cX1_addTerm 41 = .ok (.iadd, 1) := by decide +kernel
theorem dX1_addTerm_42 : decode cX1_addTerm 42 = .ok (.invokestatic 38, 3) := by decide +kernel
theorem dX1_addTerm_45 : decode cX1_addTerm 45 = .ok (.iastore, 1) := by decide +kernel
theorem dX1_addTerm_46 : decode cX1_addTerm 46 = .ok (.return_, 1) := by decide +kernel
set_option maxHeartbeats 4000000 in
set_option maxRecDepth 100000 in
theorem t_X1_addTerm (l : Launch) (D : xD) (z n : Nat) (G : xG) (I : xI) (L : xL) (q : Nat) (i : Nat) (j : Nat) (x : Int32) (y : Int32) (hE : shE G q) (zq : z ≤ q) (hij : i + j ≤ 3) : xM0 l D z yX1_addTerm cX1_addTerm 6 none 2 43 [.ref q, .int (nI i), .int (nI j), .int x, .int y] n G I L (xE none (addT I q (tm i j) x y) L) := by
  refine xM.of (by decide) (Nat.le_of_ble_eq_true rfl) (fun p e s m args below meth c C hnm hsz => ?_)
  refine x_lv [(0, .ref q), (1, .int (nI i)), (2, .int (nI j)), (3, .int x), (4, .int y)] rfl ?_
  have htm := tm_lt hij
  refine x_iload_n 0 C dX1_addTerm_0 rfl 1 rfl ?_
  refine x_iload_n 1 C dX1_addTerm_1 rfl 2 rfl ?_
  refine x_callSe 2 C dX1_addTerm_2 (As := [.int (nI i), .int (nI j)]) (rest := []) [.int (nI (tm i j))] (t_X1_termOf l D z n G I L i j (by first | assumption | omega)) mt_X1_termOf km_X1_35 kt_X1_termOf rfl rfl (Nat.le_of_ble_eq_true rfl) ⟨⟨by decide, by decide⟩, by decide, by decide⟩ (fun I1 L2 eI1 eL2 => ?_)
  replace eI1 := eI1.symm; subst eI1
  replace eL2 := eL2.symm; subst eL2
  refine x_istore 5 C [(5, .int (nI (tm i j))), (0, .ref q), (1, .int (nI i)), (2, .int (nI j)), (3, .int x), (4, .int y)] dX1_addTerm_5 (by decide) rfl ?_
  refine x_aload_n 7 C dX1_addTerm_7 rfl 1 rfl ?_
  refine x_getr 8 C (b := q + 1) dX1_addTerm_8 ff_X1_9 rfl hE.1 rfl ?_
  refine x_iload 11 C dX1_addTerm_11 0 rfl ?_
  refine x_aload_n 13 C dX1_addTerm_13 rfl 1 rfl ?_
  refine x_getr 14 C (b := q + 1) dX1_addTerm_14 ff_X1_9 rfl hE.1 rfl ?_
  refine x_iload 17 C dX1_addTerm_17 0 rfl ?_
  refine x_iald 19 C (j := (tm i j)) dX1_addTerm_19 hE.2.1 (xIx_nI (by omega) (by decide)) ?_
  refine x_iload_n 20 C dX1_addTerm_20 rfl 4 rfl ?_
  refine x_iadd 21 C dX1_addTerm_21 ?_
  refine x_callSe 22 C dX1_addTerm_22 (As := [.int ((I (q + 1) (tm i j)) + x)]) (rest := [.int (nI (tm i j)), .ref (q + 1)]) [.int (heldc ((I (q + 1) (tm i j)) + x)), .int (nI (tm i j)), .ref (q + 1)] (t_X1_heldCoefficient l D z n G I L ((I (q + 1) (tm i j)) + x) ) mt_X1_heldCoefficient km_X1_38 kt_X1_heldCoefficient rfl rfl (Nat.le_of_ble_eq_true rfl) ⟨⟨by decide, by decide⟩, by decide, by decide⟩ (fun I3 L4 eI3 eL4 => ?_)
  replace eI3 := eI3.symm; subst eI3
  replace eL4 := eL4.symm; subst eL4
  refine x_iast 25 C (j := (tm i j)) dX1_addTerm_25 hE.2.1 (by omega) (xIx_nI (by omega) (by decide)) (fun I5 eI5 => ?_)
  refine x_aload_n 26 C dX1_addTerm_26 rfl 1 rfl ?_
  refine x_getr 27 C (b := q + 2) dX1_addTerm_27 ff_X1_13 rfl hE.1 rfl ?_
  refine x_iload 30 C dX1_addTerm_30 0 rfl ?_
  refine x_aload_n 32 C dX1_addTerm_32 rfl 1 rfl ?_
  refine x_getr 33 C (b := q + 2) dX1_addTerm_33 ff_X1_13 rfl hE.1 rfl ?_
  refine x_iload 36 C dX1_addTerm_36 0 rfl ?_
  refine x_iald 38 C (j := (tm i j)) dX1_addTerm_38 hE.2.2.1 (xIx_nI (by omega) (by decide)) ?_
  refine x_int (I (q + 2) (tm i j)) (by simp [eI5, xup, cput]) ?_
  refine x_iload 39 C dX1_addTerm_39 5 rfl ?_
  refine x_iadd 41 C dX1_addTerm_41 ?_
  refine x_callSe 42 C dX1_addTerm_42 (As := [.int ((I (q + 2) (tm i j)) + y)]) (rest := [.int (nI (tm i j)), .ref (q + 2)]) [.int (heldc ((I (q + 2) (tm i j)) + y)), .int (nI (tm i j)), .ref (q + 2)] (t_X1_heldCoefficient l D z n G I5 L ((I (q + 2) (tm i j)) + y) ) mt_X1_heldCoefficient km_X1_38 kt_X1_heldCoefficient rfl rfl (Nat.le_of_ble_eq_true rfl) ⟨⟨by decide, by decide⟩, by decide, by decide⟩ (fun I6 L7 eI6 eL7 => ?_)
  replace eI6 := eI6.symm; subst eI6
  replace eL7 := eL7.symm; subst eL7
  refine x_iast 45 C (j := (tm i j)) dX1_addTerm_45 hE.2.2.1 (by omega) (xIx_nI (by omega) (by decide)) (fun I8 eI8 => ?_)
  refine x_vret 46 C dX1_addTerm_46 rfl (Nat.le_refl _) (xN.intro ?_)
  subst eI5; subst eI8
  exact ⟨rfl, rfl, rfl⟩
theorem addT_fill (I : xI) (q m : Nat) (f g : Nat → Int32) (x y : Int32) (hm : m < 10) : addT (eqFill I q 10 f g) q m x y = eqFill I q 10 (fun j => if j = m then heldc (f m + x) else f j) (fun j => if j = m then heldc (g m + y) else g j) := by
  funext a j
  simp only [addT, eqFill, xup]
  by_cases h1 : a = q + 1
  · subst h1
    by_cases h3 : j = m
    · subst h3; simp [hm]
    · simp [h3]
  · by_cases h2 : a = q + 2
    · subst h2
      by_cases h3 : j = m
      · subst h3; simp [hm]
      · simp [h3]
    · simp [h1, h2]
theorem putStart_eq (I : xI) (q m : Nat) (h : 1 ≤ m ∧ m < 10) : addT (addT (eqFill I q 10 (fun _ => 0) (fun _ => 0)) q (tm 0 0) (-1) 0) q m 1 0 = eqFill I q 10 (stRe m) (fun _ => 0) := by
  rw [addT_fill _ _ _ _ _ _ _ (by decide), addT_fill _ _ _ _ _ _ _ h.2]
  have e0 : tm 0 0 = 0 := rfl
  have h0 : heldc (0 + 0) = 0 := by decide
  have h1 : heldc (0 + 1) = 1 := by decide
  have h2 : heldc (0 + -1) = -1 := by decide
  have hm : m ≠ 0 := by omega
  congr 1
  · funext j
    simp only [e0, if_neg hm, h1, h2, stRe]
  · funext j
    simp only [e0, if_neg hm, h0]
    split
    · rfl
    · split <;> rfl
theorem tm_pos {d : Nat} (h : 1 ≤ d ∧ d ≤ 3) : (1 ≤ tm d 0 ∧ tm d 0 < 10) ∧ 1 ≤ tm 0 d ∧ tm 0 d < 10 := by
  rcases (show d = 1 ∨ d = 2 ∨ d = 3 by omega) with rfl | rfl | rfl <;> decide
theorem dX1_putStart_0 : decode cX1_putStart 0 = .ok (.aload_n 0, 1) := by decide +kernel
theorem dX1_putStart_1 : decode cX1_putStart 1 = .ok (.invokevirtual 42, 3) := by decide +kernel
theorem dX1_putStart_4 : decode cX1_putStart 4 = .ok (.aload_n 0, 1) := by decide +kernel
theorem dX1_putStart_5 : decode cX1_putStart 5 = .ok (.iconst 0, 1) := by decide +kernel
theorem dX1_putStart_6 : decode cX1_putStart 6 = .ok (.iconst 0, 1) := by decide +kernel
theorem dX1_putStart_7 : decode cX1_putStart 7 = .ok (.iconst (-1), 1) := by decide +kernel
theorem dX1_putStart_8 : decode cX1_putStart 8 = .ok (.iconst 0, 1) := by decide +kernel
theorem dX1_putStart_9 : decode cX1_putStart 9 = .ok (.invokevirtual 45, 3) := by decide +kernel
theorem dX1_putStart_12 : decode cX1_putStart 12 = .ok (.aload_n 0, 1) := by decide +kernel
theorem dX1_putStart_13 : decode cX1_putStart 13 = .ok (.iload_n 2, 1) := by decide +kernel
theorem dX1_putStart_14 : decode cX1_putStart 14 = .ok (.ifCond .eq 7, 3) := by decide +kernel
theorem dX1_putStart_17 : decode cX1_putStart 17 = .ok (.iload_n 1, 1) := by decide +kernel
theorem dX1_putStart_18 : decode cX1_putStart 18 = .ok (.goto 4, 3) := by decide +kernel
theorem dX1_putStart_21 : decode cX1_putStart 21 = .ok (.iconst 0, 1) := by decide +kernel
theorem dX1_putStart_22 : decode cX1_putStart 22 = .ok (.iload_n 2, 1) := by decide +kernel
theorem dX1_putStart_23 : decode cX1_putStart 23 = .ok (.ifCond .eq 7, 3) := by decide +kernel
theorem dX1_putStart_26 : decode cX1_putStart 26 = .ok (.iconst 0, 1) := by decide +kernel
theorem dX1_putStart_27 : decode cX1_putStart 27 = .ok (.goto 4, 3) := by decide +kernel
theorem dX1_putStart_30 : decode cX1_putStart 30 = .ok (.iload_n 1, 1) := by decide +kernel
theorem dX1_putStart_31 : decode cX1_putStart 31 = .ok (.iconst 1, 1) := by decide +kernel
theorem dX1_putStart_32 : decode cX1_putStart 32 = .ok (.iconst 0, 1) := by decide +kernel
theorem dX1_putStart_33 : decode cX1_putStart 33 = .ok (.invokevirtual 45, 3) := by decide +kernel
theorem dX1_putStart_36 : decode cX1_putStart 36 = .ok (.return_, 1) := by decide +kernel
set_option maxHeartbeats 4000000 in
set_option maxRecDepth 100000 in
theorem t_X1_putStart (l : Launch) (D : xD) (z n : Nat) (G : xG) (I : xI) (L : xL) (q : Nat) (d : Nat) (b : Nat) (hE : shE G q) (zq : z ≤ q) (hd : 1 ≤ d ∧ d ≤ 3) (hb : b < 2) : xM0 l D z yX1_putStart cX1_putStart 3 none 3 68 [.ref q, .int (nI d), .int (nI b)] n G I L (xE none (eqFill I q 10 (stRe (if b = 1 then tm d 0 else tm 0 d)) (fun _ => 0)) L) := by
  refine xM.of (by decide) (Nat.le_of_ble_eq_true rfl) (fun p e s m args below meth c C hnm hsz => ?_)
  refine x_lv [(0, .ref q), (1, .int (nI d)), (2, .int (nI b))] rfl ?_
  rcases (show b = 0 ∨ b = 1 by omega) with rfl | rfl
  · skip
    refine x_aload_n 0 C dX1_putStart_0 rfl 0 rfl ?_
    refine x_callVe 1 C dX1_putStart_1 (As := []) (rest := []) [] (t_X1_clear l D z n G I L q hE (by omega)) mt_X1_clear km_X1_42 ki_X1_clear ks_X1_clear hE.1 ⟨by decide, rfl⟩ rfl rfl (Nat.le_of_ble_eq_true rfl) ⟨⟨by decide, by decide⟩, by decide, by decide⟩ (fun I1 L2 eI1 eL2 => ?_)
    replace eL2 := eL2.symm; subst eL2
    refine x_aload_n 4 C dX1_putStart_4 rfl 0 rfl ?_
    refine x_iconst 5 C (v := 0) dX1_putStart_5 rfl ?_
    refine x_iconst 6 C (v := 0) dX1_putStart_6 rfl ?_
    refine x_iconst 7 C (v := (-1)) dX1_putStart_7 rfl ?_
    refine x_iconst 8 C (v := 0) dX1_putStart_8 rfl ?_
    refine x_callVe 9 C dX1_putStart_9 (As := [.int 0, .int 0, .int (-1), .int 0]) (rest := []) [] (t_X1_addTerm l D z n G I1 L q 0 0 (-1) 0 hE (by omega) (by first | assumption | omega)) mt_X1_addTerm km_X1_45 ki_X1_addTerm ks_X1_addTerm hE.1 ⟨by decide, rfl⟩ rfl rfl (Nat.le_of_ble_eq_true rfl) ⟨⟨by decide, by decide⟩, by decide, by decide⟩ (fun I3 L4 eI3 eL4 => ?_)
    replace eL4 := eL4.symm; subst eL4
    refine x_aload_n 12 C dX1_putStart_12 rfl 0 rfl ?_
    refine x_iload_n 13 C dX1_putStart_13 rfl 2 rfl ?_
    refine x_if_eq 14 C 21 dX1_putStart_14 (by decide) (fun _ => ?_) (fun c5 => absurd (by decide) c5)
    refine x_iconst 21 C (v := 0) dX1_putStart_21 rfl ?_
    refine x_iload_n 22 C dX1_putStart_22 rfl 2 rfl ?_
    refine x_if_eq 23 C 30 dX1_putStart_23 (by decide) (fun _ => ?_) (fun c6 => absurd (by decide) c6)
    refine x_iload_n 30 C dX1_putStart_30 rfl 1 rfl ?_
    refine x_iconst 31 C (v := 1) dX1_putStart_31 rfl ?_
    refine x_iconst 32 C (v := 0) dX1_putStart_32 rfl ?_
    refine x_callVe 33 C dX1_putStart_33 (As := [.int 0, .int (nI d), .int 1, .int 0]) (rest := []) [] (t_X1_addTerm l D z n G I3 L q 0 d 1 0 hE (by omega) (by first | assumption | omega)) mt_X1_addTerm km_X1_45 ki_X1_addTerm ks_X1_addTerm hE.1 ⟨by decide, rfl⟩ rfl rfl (Nat.le_of_ble_eq_true rfl) ⟨⟨by decide, by decide⟩, by decide, by decide⟩ (fun I7 L8 eI7 eL8 => ?_)
    replace eL8 := eL8.symm; subst eL8
    refine x_vret 36 C dX1_putStart_36 rfl (Nat.le_refl _) (xN.intro ?_)
    subst eI1; subst eI3; subst eI7
    refine ⟨rfl, ?_, rfl⟩
    first | exact putStart_eq I q _ (tm_pos hd).1 | exact putStart_eq I q _ (tm_pos hd).2
  · skip
    refine x_aload_n 0 C dX1_putStart_0 rfl 0 rfl ?_
    refine x_callVe 1 C dX1_putStart_1 (As := []) (rest := []) [] (t_X1_clear l D z n G I L q hE (by omega)) mt_X1_clear km_X1_42 ki_X1_clear ks_X1_clear hE.1 ⟨by decide, rfl⟩ rfl rfl (Nat.le_of_ble_eq_true rfl) ⟨⟨by decide, by decide⟩, by decide, by decide⟩ (fun I9 L10 eI9 eL10 => ?_)
    replace eL10 := eL10.symm; subst eL10
    refine x_aload_n 4 C dX1_putStart_4 rfl 0 rfl ?_
    refine x_iconst 5 C (v := 0) dX1_putStart_5 rfl ?_
    refine x_iconst 6 C (v := 0) dX1_putStart_6 rfl ?_
    refine x_iconst 7 C (v := (-1)) dX1_putStart_7 rfl ?_
    refine x_iconst 8 C (v := 0) dX1_putStart_8 rfl ?_
    refine x_callVe 9 C dX1_putStart_9 (As := [.int 0, .int 0, .int (-1), .int 0]) (rest := []) [] (t_X1_addTerm l D z n G I9 L q 0 0 (-1) 0 hE (by omega) (by first | assumption | omega)) mt_X1_addTerm km_X1_45 ki_X1_addTerm ks_X1_addTerm hE.1 ⟨by decide, rfl⟩ rfl rfl (Nat.le_of_ble_eq_true rfl) ⟨⟨by decide, by decide⟩, by decide, by decide⟩ (fun I11 L12 eI11 eL12 => ?_)
    replace eL12 := eL12.symm; subst eL12
    refine x_aload_n 12 C dX1_putStart_12 rfl 0 rfl ?_
    refine x_iload_n 13 C dX1_putStart_13 rfl 2 rfl ?_
    refine x_if_eq 14 C 21 dX1_putStart_14 (by decide) (fun c13 => absurd c13 (by decide)) (fun _ => ?_)
    refine x_iload_n 17 C dX1_putStart_17 rfl 1 rfl ?_
    refine x_goto 18 C 22 dX1_putStart_18 (by decide) ?_
    refine x_iload_n 22 C dX1_putStart_22 rfl 2 rfl ?_
    refine x_if_eq 23 C 30 dX1_putStart_23 (by decide) (fun c14 => absurd c14 (by decide)) (fun _ => ?_)
    refine x_iconst 26 C (v := 0) dX1_putStart_26 rfl ?_
    refine x_goto 27 C 31 dX1_putStart_27 (by decide) ?_
    refine x_iconst 31 C (v := 1) dX1_putStart_31 rfl ?_
    refine x_iconst 32 C (v := 0) dX1_putStart_32 rfl ?_
    refine x_callVe 33 C dX1_putStart_33 (As := [.int (nI d), .int 0, .int 1, .int 0]) (rest := []) [] (t_X1_addTerm l D z n G I11 L q d 0 1 0 hE (by omega) (by first | assumption | omega)) mt_X1_addTerm km_X1_45 ki_X1_addTerm ks_X1_addTerm hE.1 ⟨by decide, rfl⟩ rfl rfl (Nat.le_of_ble_eq_true rfl) ⟨⟨by decide, by decide⟩, by decide, by decide⟩ (fun I15 L16 eI15 eL16 => ?_)
    replace eL16 := eL16.symm; subst eL16
    refine x_vret 36 C dX1_putStart_36 rfl (Nat.le_refl _) (xN.intro ?_)
    subst eI9; subst eI11; subst eI15
    refine ⟨rfl, ?_, rfl⟩
    first | exact putStart_eq I q _ (tm_pos hd).1 | exact putStart_eq I q _ (tm_pos hd).2
theorem dX1_realPart_0 : decode cX1_realPart 0 = .ok (.aload_n 0, 1) := by decide +kernel
theorem dX1_realPart_1 : decode cX1_realPart 1 = .ok (.getfield 9, 3) := by decide +kernel
theorem dX1_realPart_4 : decode cX1_realPart 4 = .ok (.iload_n 1, 1) := by decide +kernel
theorem dX1_realPart_5 : decode cX1_realPart 5 = .ok (.iload_n 2, 1) := by decide +kernel
theorem dX1_realPart_6 : decode cX1_realPart 6 = .ok (.invokestatic 35, 3) := by decide +kernel
theorem dX1_realPart_9 : decode cX1_realPart 9 = .ok (.iaload, 1) := by decide +kernel
theorem dX1_realPart_10 : decode cX1_realPart 10 = .ok (.ireturn, 1) := by decide +kernel
set_option maxHeartbeats 4000000 in
set_option maxRecDepth 100000 in
theorem t_X1_realPart (l : Launch) (D : xD) (z n : Nat) (G : xG) (I : xI) (L : xL) (q : Nat) (i : Nat) (j : Nat) (hE : shE G q) (hij : i + j ≤ 3) : xM0 l D z yX1_realPart cX1_realPart 3 (some .int) 1 22 [.ref q, .int (nI i), .int (nI j)] n G I L (xE (some (.int (I (q + 1) (tm i j)))) I L) := by
  refine xM.of (by decide) (Nat.le_of_ble_eq_true rfl) (fun p e s m args below meth c C hnm hsz => ?_)
  refine x_lv [(0, .ref q), (1, .int (nI i)), (2, .int (nI j))] rfl ?_
  have htm := tm_lt hij
  refine x_aload_n 0 C dX1_realPart_0 rfl 0 rfl ?_
  refine x_getr 1 C (b := q + 1) dX1_realPart_1 ff_X1_9 rfl hE.1 rfl ?_
  refine x_iload_n 4 C dX1_realPart_4 rfl 1 rfl ?_
  refine x_iload_n 5 C dX1_realPart_5 rfl 2 rfl ?_
  refine x_callSe 6 C dX1_realPart_6 (As := [.int (nI i), .int (nI j)]) (rest := [.ref (q + 1)]) [.int (nI (tm i j)), .ref (q + 1)] (t_X1_termOf l D z n G I L i j (by first | assumption | omega)) mt_X1_termOf km_X1_35 kt_X1_termOf rfl rfl (Nat.le_of_ble_eq_true rfl) ⟨⟨by decide, by decide⟩, by decide, by decide⟩ (fun I1 L2 eI1 eL2 => ?_)
  replace eI1 := eI1.symm; subst eI1
  replace eL2 := eL2.symm; subst eL2
  refine x_iald 9 C (j := (tm i j)) dX1_realPart_9 hE.2.1 (xIx_nI (by omega) (by decide)) ?_
  refine x_iret 10 C dX1_realPart_10 rfl rfl (Nat.le_refl _) (xN.intro ?_)
  exact ⟨rfl, rfl, rfl⟩
theorem dX1_imaginaryPart_0 : decode cX1_imaginaryPart 0 = .ok (.aload_n 0, 1) := by decide +kernel
theorem dX1_imaginaryPart_1 : decode cX1_imaginaryPart 1 = .ok (.getfield 13, 3) := by decide +kernel
theorem dX1_imaginaryPart_4 : decode cX1_imaginaryPart 4 = .ok (.iload_n 1, 1) := by decide +kernel
theorem dX1_imaginaryPart_5 : decode cX1_imaginaryPart 5 = .ok (.iload_n 2, 1) := by decide +kernel
theorem dX1_imaginaryPart_6 : decode cX1_imaginaryPart 6 = .ok (.invokestatic 35, 3) := by decide +kernel
theorem dX1_imaginaryPart_9 : decode cX1_imaginaryPart 9 = .ok (.iaload, 1) := by decide +kernel
theorem dX1_imaginaryPart_10 : decode cX1_imaginaryPart 10 = .ok (.ireturn, 1) := by decide +kernel
set_option maxHeartbeats 4000000 in
set_option maxRecDepth 100000 in
theorem t_X1_imaginaryPart (l : Launch) (D : xD) (z n : Nat) (G : xG) (I : xI) (L : xL) (q : Nat) (i : Nat) (j : Nat) (hE : shE G q) (hij : i + j ≤ 3) : xM0 l D z yX1_imaginaryPart cX1_imaginaryPart 3 (some .int) 1 22 [.ref q, .int (nI i), .int (nI j)] n G I L (xE (some (.int (I (q + 2) (tm i j)))) I L) := by
  refine xM.of (by decide) (Nat.le_of_ble_eq_true rfl) (fun p e s m args below meth c C hnm hsz => ?_)
  refine x_lv [(0, .ref q), (1, .int (nI i)), (2, .int (nI j))] rfl ?_
  have htm := tm_lt hij
  refine x_aload_n 0 C dX1_imaginaryPart_0 rfl 0 rfl ?_
  refine x_getr 1 C (b := q + 2) dX1_imaginaryPart_1 ff_X1_13 rfl hE.1 rfl ?_
  refine x_iload_n 4 C dX1_imaginaryPart_4 rfl 1 rfl ?_
  refine x_iload_n 5 C dX1_imaginaryPart_5 rfl 2 rfl ?_
  refine x_callSe 6 C dX1_imaginaryPart_6 (As := [.int (nI i), .int (nI j)]) (rest := [.ref (q + 2)]) [.int (nI (tm i j)), .ref (q + 2)] (t_X1_termOf l D z n G I L i j (by first | assumption | omega)) mt_X1_termOf km_X1_35 kt_X1_termOf rfl rfl (Nat.le_of_ble_eq_true rfl) ⟨⟨by decide, by decide⟩, by decide, by decide⟩ (fun I1 L2 eI1 eL2 => ?_)
  replace eI1 := eI1.symm; subst eI1
  replace eL2 := eL2.symm; subst eL2
  refine x_iald 9 C (j := (tm i j)) dX1_imaginaryPart_9 hE.2.2.1 (xIx_nI (by omega) (by decide)) ?_
  refine x_iret 10 C dX1_imaginaryPart_10 rfl rfl (Nat.le_refl _) (xN.intro ?_)
  exact ⟨rfl, rfl, rfl⟩
theorem dX1_degree_0 : decode cX1_degree 0 = .ok (.iconst 0, 1) := by decide +kernel
theorem dX1_degree_1 : decode cX1_degree 1 = .ok (.istore_n 1, 1) := by decide +kernel
theorem dX1_degree_2 : decode cX1_degree 2 = .ok (.iconst 0, 1) := by decide +kernel
theorem dX1_degree_3 : decode cX1_degree 3 = .ok (.istore_n 2, 1) := by decide +kernel
theorem dX1_degree_4 : decode cX1_degree 4 = .ok (.iload_n 2, 1) := by decide +kernel
theorem dX1_degree_5 : decode cX1_degree 5 = .ok (.bipush 10, 2) := by decide +kernel
theorem dX1_degree_7 : decode cX1_degree 7 = .ok (.if_icmp .ge 43, 3) := by decide +kernel
theorem dX1_degree_10 : decode cX1_degree 10 = .ok (.aload_n 0, 1) := by decide +kernel
theorem dX1_degree_11 : decode cX1_degree 11 = .ok (.getfield 9, 3) := by decide +kernel
theorem dX1_degree_14 : decode cX1_degree 14 = .ok (.iload_n 2, 1) := by decide +kernel
theorem dX1_degree_15 : decode cX1_degree 15 = .ok (.iaload, 1) := by decide +kernel
theorem dX1_degree_16 : decode cX1_degree 16 = .ok (.ifCond .ne 12, 3) := by decide +kernel
theorem dX1_degree_19 : decode cX1_degree 19 = .ok (.aload_n 0, 1) := by decide +kernel
theorem dX1_degree_20 : decode cX1_degree 20 = .ok (.getfield 13, 3) := by decide +kernel
theorem dX1_degree_23 : decode cX1_degree 23 = .ok (.iload_n 2, 1) := by decide +kernel
theorem dX1_degree_24 : decode cX1_degree 24 = .ok (.iaload, 1) := by decide +kernel
theorem dX1_degree_25 : decode cX1_degree 25 = .ok (.ifCond .eq 19, 3) := by decide +kernel
theorem dX1_degree_28 : decode cX1_degree 28 = .ok (.iload_n 1, 1) := by decide +kernel
theorem dX1_degree_29 : decode cX1_degree 29 = .ok (.getstatic 49, 3) := by decide +kernel
theorem dX1_degree_32 : decode cX1_degree 32 = .ok (.iload_n 2, 1) := by decide +kernel
theorem dX1_degree_33 : decode cX1_degree 33 = .ok (.iaload, 1) := by decide +kernel
theorem dX1_degree_34 : decode cX1_degree 34 = .ok (.getstatic 52, 3) := by decide +kernel
theorem dX1_degree_37 : decode cX1_degree 37 = .ok (.iload_n 2, 1) := by decide +kernel
theorem dX1_degree_38 : decode cX1_degree 38 = .ok (.iaload, 1) := by decide +kernel
theorem dX1_degree_39 : decode cX1_degree 39 = .ok (.iadd, 1) := by decide +kernel
theorem dX1_degree_40 : decode cX1_degree 40 = .ok (.invokestatic 32, 3) := by decide +kernel
theorem dX1_degree_43 : decode cX1_degree 43 = .ok (.istore_n 1, 1) := by decide +kernel
theorem dX1_degree_44 : decode cX1_degree 44 = .ok (.iinc 2 1, 3) := by decide +kernel
theorem dX1_degree_47 : decode cX1_degree 47 = .ok (.goto (-43), 3) := by decide +kernel
theorem dX1_degree_50 : decode cX1_degree 50 = .ok (.iload_n 1, 1) := by decide +kernel
theorem dX1_degree_51 : decode cX1_degree 51 = .ok (.ireturn, 1) := by decide +kernel
set_option maxHeartbeats 4000000 in
set_option maxRecDepth 100000 in
theorem t_X1_degree (l : Launch) (D : xD) (z n : Nat) (G : xG) (I : xI) (L : xL) (q : Nat) (hE : shE G q) : xM0 l D z yX1_degree cX1_degree 3 (some .int) 1 23 [.ref q] n G I L (xE (some (.int (nI (dgN (I (q + 1)) (I (q + 2)) 10)))) I L) := by
  refine xM.of (by decide) (Nat.le_of_ble_eq_true rfl) (fun p e s m args below meth c C hnm hsz => ?_)
  refine x_lv [(0, .ref q)] rfl ?_
  refine x_iconst 0 C (v := 0) dX1_degree_0 rfl ?_
  refine x_istore_n 1 C [(1, .int 0), (0, .ref q)] dX1_degree_1 rfl (by decide) rfl ?_
  refine x_iconst 2 C (v := 0) dX1_degree_2 rfl ?_
  refine x_istore_n 3 C [(2, .int 0), (1, .int 0), (0, .ref q)] dX1_degree_3 rfl (by decide) rfl ?_
  have loop4 : ∀ (fuel : Nat) (k : Nat), (k ≤ 10) → (11 ≤ k + fuel) → X p l e (xRm 1 23 0 0) s m args below meth c D z 3 (MQ below (xQc D z n (xN n G (xE (some (.int (nI (dgN (I (q + 1)) (I (q + 2)) 10)))) I L))) args s 0 0 (fun a => z ≤ a)) 0 0 n G I L 4 [(0, .ref q), (1, .int (nI (dgN (I (q + 1)) (I (q + 2)) k))), (2, .int (nI k))] [] := by
    intro fuel
    induction fuel with
    | zero =>
      intro k hk hf
      exact absurd hf (by omega)
    | succ fuel ih =>
      intro k hk hf
      have hd := dgN_le (I (q + 1)) (I (q + 2)) k
      have ht := tXY k
      refine x_iload_n 4 C dX1_degree_4 rfl 2 rfl ?_
      refine x_bipush 5 C (v := 10) dX1_degree_5 rfl ?_
      refine x_icmp_ge 7 C 50 dX1_degree_7 (by decide) (fun c1 => ?_) (fun c1 => ?_)
      · skip
        have c1n : 10 ≤ k := (nI_leI (a := 10) (b := k) (by omega) (by omega)).mp c1
        have c1o := Int32.not_lt.mpr c1
        refine x_iload_n 50 C dX1_degree_50 rfl 1 rfl ?_
        refine x_iret 51 C dX1_degree_51 rfl rfl (Nat.le_refl _) (xN.intro ?_)
        have hk10 : k = 10 := by omega
        subst hk10
        exact ⟨rfl, rfl, rfl⟩
      · skip
        have c1n : ¬ (10 ≤ k) := fun h => c1 ((nI_leI (a := 10) (b := k) (by omega) (by omega)).mpr h)
        have c1o := Int32.not_le.mp c1
        refine x_aload_n 10 C dX1_degree_10 rfl 0 rfl ?_
        refine x_getr 11 C (b := q + 1) dX1_degree_11 ff_X1_9 rfl hE.1 rfl ?_
        refine x_iload_n 14 C dX1_degree_14 rfl 2 rfl ?_
        refine x_iald 15 C (j := k) dX1_degree_15 hE.2.1 (xIx_nI (by omega) (by decide)) ?_
        refine x_if_ne 16 C 28 dX1_degree_16 (by decide) (fun c2 => ?_) (fun c2 => ?_)
        · skip
          refine x_iload_n 28 C dX1_degree_28 rfl 1 rfl ?_
          refine x_gets 29 C (k0 := 0) dX1_degree_29 rfl kf_X1_49 ?_
          refine x_iload_n 32 C dX1_degree_32 rfl 2 rfl ?_
          refine x_stald 33 C (j := k) dX1_degree_33 (k0 := 0) rfl (xIx_nI (len := 10) (by omega) (by decide)) ?_
          refine x_int (nI (tX k)) (xPx_n k) ?_
          refine x_gets 34 C (k0 := 1) dX1_degree_34 rfl kf_X1_52 ?_
          refine x_iload_n 37 C dX1_degree_37 rfl 2 rfl ?_
          refine x_stald 38 C (j := k) dX1_degree_38 (k0 := 1) rfl (xIx_nI (len := 10) (by omega) (by decide)) ?_
          refine x_int (nI (tY k)) (xPy_n k) ?_
          refine x_iadd 39 C dX1_degree_39 ?_
          refine x_int (nI (tX k + (tY k))) (nI_add (tX k) (tY k)) ?_
          refine x_mmax 40 C dX1_degree_40 km_X1_32 kt_J9_max_7cf53 kn_J9 kc_J9_max_7cf53 ⟨by decide, Nat.le_of_ble_eq_true rfl, by decide, by decide⟩ ?_
          refine x_int (nI (max (dgN (I (q + 1)) (I (q + 2)) k) (tX k + tY k))) (imax_nI (by omega) (by omega)) ?_
          refine x_istore_n 43 C [(1, .int (nI (max (dgN (I (q + 1)) (I (q + 2)) k) (tX k + tY k)))), (0, .ref q), (2, .int (nI k))] dX1_degree_43 rfl (by decide) rfl ?_
          refine x_iinc 44 C [(2, .int (nI (k + 1))), (1, .int (nI (max (dgN (I (q + 1)) (I (q + 2)) k) (tX k + tY k)))), (0, .ref q)] dX1_degree_44 2 rfl (nI_add k 1) (by decide) rfl ?_
          refine x_goto 47 C 4 dX1_degree_47 (by decide) ?_
          refine x_sub [(0, .ref q), (1, .int (nI (max (dgN (I (q + 1)) (I (q + 2)) k) (tX k + tY k)))), (2, .int (nI (k + 1)))] [2, 1, 0] rfl ?_
          refine x_lv [(0, .ref q), (1, .int (nI (dgN (I (q + 1)) (I (q + 2)) (k + 1)))), (2, .int (nI (k + 1)))] (by simp [dgN, c1, c1o, c2]) ?_
          exact ih (k + 1) (by omega) (by omega)
        · skip
          refine x_aload_n 19 C dX1_degree_19 rfl 0 rfl ?_
          refine x_getr 20 C (b := q + 2) dX1_degree_20 ff_X1_13 rfl hE.1 rfl ?_
          refine x_iload_n 23 C dX1_degree_23 rfl 2 rfl ?_
          refine x_iald 24 C (j := k) dX1_degree_24 hE.2.2.1 (xIx_nI (by omega) (by decide)) ?_
          refine x_if_eq 25 C 44 dX1_degree_25 (by decide) (fun c3 => ?_) (fun c3 => ?_)
          · skip
            refine x_iinc 44 C [(2, .int (nI (k + 1))), (0, .ref q), (1, .int (nI (dgN (I (q + 1)) (I (q + 2)) k)))] dX1_degree_44 2 rfl (nI_add k 1) (by decide) rfl ?_
            refine x_goto 47 C 4 dX1_degree_47 (by decide) ?_
            refine x_sub [(0, .ref q), (1, .int (nI (dgN (I (q + 1)) (I (q + 2)) k))), (2, .int (nI (k + 1)))] [1, 2, 0] rfl ?_
            refine x_lv [(0, .ref q), (1, .int (nI (dgN (I (q + 1)) (I (q + 2)) (k + 1)))), (2, .int (nI (k + 1)))] (by simp [dgN, c1, c1o, c2, c3]) ?_
            exact ih (k + 1) (by omega) (by omega)
          · skip
            refine x_iload_n 28 C dX1_degree_28 rfl 1 rfl ?_
            refine x_gets 29 C (k0 := 0) dX1_degree_29 rfl kf_X1_49 ?_
            refine x_iload_n 32 C dX1_degree_32 rfl 2 rfl ?_
            refine x_stald 33 C (j := k) dX1_degree_33 (k0 := 0) rfl (xIx_nI (len := 10) (by omega) (by decide)) ?_
            refine x_int (nI (tX k)) (xPx_n k) ?_
            refine x_gets 34 C (k0 := 1) dX1_degree_34 rfl kf_X1_52 ?_
            refine x_iload_n 37 C dX1_degree_37 rfl 2 rfl ?_
            refine x_stald 38 C (j := k) dX1_degree_38 (k0 := 1) rfl (xIx_nI (len := 10) (by omega) (by decide)) ?_
            refine x_int (nI (tY k)) (xPy_n k) ?_
            refine x_iadd 39 C dX1_degree_39 ?_
            refine x_int (nI (tX k + (tY k))) (nI_add (tX k) (tY k)) ?_
            refine x_mmax 40 C dX1_degree_40 km_X1_32 kt_J9_max_7cf53 kn_J9 kc_J9_max_7cf53 ⟨by decide, Nat.le_of_ble_eq_true rfl, by decide, by decide⟩ ?_
            refine x_int (nI (max (dgN (I (q + 1)) (I (q + 2)) k) (tX k + tY k))) (imax_nI (by omega) (by omega)) ?_
            refine x_istore_n 43 C [(1, .int (nI (max (dgN (I (q + 1)) (I (q + 2)) k) (tX k + tY k)))), (0, .ref q), (2, .int (nI k))] dX1_degree_43 rfl (by decide) rfl ?_
            refine x_iinc 44 C [(2, .int (nI (k + 1))), (1, .int (nI (max (dgN (I (q + 1)) (I (q + 2)) k) (tX k + tY k)))), (0, .ref q)] dX1_degree_44 2 rfl (nI_add k 1) (by decide) rfl ?_
            refine x_goto 47 C 4 dX1_degree_47 (by decide) ?_
            refine x_sub [(0, .ref q), (1, .int (nI (max (dgN (I (q + 1)) (I (q + 2)) k) (tX k + tY k)))), (2, .int (nI (k + 1)))] [2, 1, 0] rfl ?_
            refine x_lv [(0, .ref q), (1, .int (nI (dgN (I (q + 1)) (I (q + 2)) (k + 1)))), (2, .int (nI (k + 1)))] (by simp [dgN, c1, c1o, c2, c3]) ?_
            exact ih (k + 1) (by omega) (by omega)
  refine x_sub [(0, .ref q), (1, .int 0), (2, .int 0)] [2, 1, 0] rfl ?_
  exact loop4 11 0 (by omega) (by omega)
