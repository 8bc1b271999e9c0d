/-! complex numbers as pairs; aliases of Complex's contracts in these words; Powers, Tangent, Solver -/
abbrev xC : Type := Int64 × Int64
def rd (L : xL) (a : Nat) : xC := (L a 0, L a 1)
def cw (L : xL) (a : Nat) (c : xC) : xL := cput L a c.1 c.2
def hC (c : xC) : xC := (held c.1, held c.2)
def addC (a b : xC) : xC := hC (a.1 + b.1, a.2 + b.2)
def subC (a b : xC) : xC := hC (a.1 - b.1, a.2 - b.2)
def negC (a : xC) : xC := hC (-a.1, -a.2)
def mulC (u : Int64) (a b : xC) : xC := hC ((a.1 * b.1 - a.2 * b.2) / u, (a.1 * b.2 + a.2 * b.1) / u)
def gauC (cr ci : Int64) (a : xC) : xC := hC (cr * a.1 - ci * a.2, cr * a.2 + ci * a.1)
def mixC (x : Int64) (a : xC) (y : Int64) (b : xC) : xC := hC ((x * a.1 + y * b.1) / (x + y), (x * a.2 + y * b.2) / (x + y))
def shaC (a : xC) (x y : Int64) : xC := hC (a.1 * x / y, a.2 * x / y)
def norC (b : xC) (u : Int64) : Int64 := (b.1 * b.1 + b.2 * b.2) / u
def divC (a b : xC) (u : Int64) : xC := hC ((a.1 * b.1 + a.2 * b.2) / norC b u, (a.2 * b.1 - a.1 * b.2) / norC b u)
def sizC (a : xC) : Int64 := csize a.1 a.2
theorem cw_ne (L : xL) {a q : Nat} (c : xC) (h : q ≠ a) : cw L a c q = L q := cput_ne L c.1 c.2 h
theorem rd_cw (L : xL) (a : Nat) (c : xC) : rd (cw L a c) a = c := by
  show (cput L a c.1 c.2 a 0, cput L a c.1 c.2 a 1) = c
  rw [cput_0, cput_1]
theorem rd_cw_ne (L : xL) {a q : Nat} (c : xC) (h : q ≠ a) : rd (cw L a c) q = rd L q := by
  show (cw L a c q 0, cw L a c q 1) = (L q 0, L q 1)
  rw [cw_ne L c h]
theorem rd_congr {L L' : xL} {a : Nat} (h : L' a = L a) : rd L' a = rd L a := by
  show (L' a 0, L' a 1) = (L a 0, L a 1)
  rw [h]
theorem cw_cw (L : xL) (a : Nat) (c d : xC) : cw (cw L a c) a d = cw L a d := by
  funext q k
  simp only [cw, cput, xup]
  by_cases h1 : q = a <;> by_cases h2 : k = 0 <;> by_cases h3 : k = 1 <;> simp_all
theorem cw_comm (L : xL) {a b : Nat} (c d : xC) (h : a ≠ b) : cw (cw L a c) b d = cw (cw L b d) a c := by
  funext q
  by_cases h1 : q = a
  · subst h1
    rw [cw_ne _ _ h]
    funext k
    simp only [cw, cput, xup]
    by_cases h2 : k = 0 <;> by_cases h3 : k = 1 <;> simp_all
  · by_cases h2 : q = b
    · subst h2
      rw [cw_ne _ c h1]
      funext k
      simp only [cw, cput, xup]
      by_cases h2 : k = 0 <;> by_cases h3 : k = 1 <;> simp_all
    · rw [cw_ne _ _ h2, cw_ne _ _ h1, cw_ne _ _ h1, cw_ne _ _ h2]
theorem t_X0_put_c (l : Launch) (D : xD) (z n : Nat) (G : xG) (I : xI) (L : xL) (a : Nat) (x : Int64) (y : Int64) (ga : G a = some (0, 0, rN)) (za : z ≤ a) : xM0 l D z yX0_put cX0_put 5 none 0 0 [.ref a, .long x, .long y] n G I L (xE none I (cw L a (hC (x, y)))) := by
  exact t_X0_put l D z n G I L a x y ga za
theorem t_X0_copy_c (l : Launch) (D : xD) (z n : Nat) (G : xG) (I : xI) (L : xL) (a : Nat) (b : Nat) (ga : G a = some (0, 0, rN)) (gb : G b = some (0, 0, rN)) (za : z ≤ a) : xM0 l D z yX0_copy cX0_copy 2 none 0 0 [.ref a, .ref b] n G I L (xE none I (cw L a (rd L b))) := by
  exact t_X0_copy l D z n G I L a b ga gb za
theorem t_X0_add_c (l : Launch) (D : xD) (z n : Nat) (G : xG) (I : xI) (L : xL) (a : Nat) (b : Nat) (ga : G a = some (0, 0, rN)) (gb : G b = some (0, 0, rN)) (za : z ≤ a) : xM0 l D z yX0_add cX0_add 2 none 1 24 [.ref a, .ref b] n G I L (xE none I (cw L a (addC (rd L a) (rd L b)))) := by
  exact t_X0_add l D z n G I L a b ga gb za
theorem t_X0_putDifference_c (l : Launch) (D : xD) (z n : Nat) (G : xG) (I : xI) (L : xL) (a : Nat) (b : Nat) (d : Nat) (ga : G a = some (0, 0, rN)) (gb : G b = some (0, 0, rN)) (gd : G d = some (0, 0, rN)) (za : z ≤ a) : xM0 l D z yX0_putDifference cX0_putDifference 3 none 1 24 [.ref a, .ref b, .ref d] n G I L (xE none I (cw L a (subC (rd L b) (rd L d)))) := by
  exact t_X0_putDifference l D z n G I L a b d ga gb gd za
theorem t_X0_putNegative_c (l : Launch) (D : xD) (z n : Nat) (G : xG) (I : xI) (L : xL) (a : Nat) (b : Nat) (ga : G a = some (0, 0, rN)) (gb : G b = some (0, 0, rN)) (za : z ≤ a) : xM0 l D z yX0_putNegative cX0_putNegative 2 none 1 24 [.ref a, .ref b] n G I L (xE none I (cw L a (negC (rd L b)))) := by
  exact t_X0_putNegative l D z n G I L a b ga gb za
theorem t_X0_takeShare_c (l : Launch) (D : xD) (z n : Nat) (G : xG) (I : xI) (L : xL) (a : Nat) (x : Int64) (y : Int64) (ga : G a = some (0, 0, rN)) (za : z ≤ a) (hz : ¬ y = 0) : xM0 l D z yX0_takeShare cX0_takeShare 5 none 1 24 [.ref a, .long x, .long y] n G I L (xE none I (cw L a (shaC (rd L a) x y))) := by
  have h := t_X0_takeShare l D z n G I L a x y ga za
  rw [if_neg hz] at h
  exact h
theorem t_X0_putMix_c (l : Launch) (D : xD) (z n : Nat) (G : xG) (I : xI) (L : xL) (a : Nat) (b : Nat) (x : Int64) (d : Nat) (y : Int64) (ga : G a = some (0, 0, rN)) (gb : G b = some (0, 0, rN)) (gd : G d = some (0, 0, rN)) (za : z ≤ a) (hz : ¬ x + y = 0) : xM0 l D z yX0_putMix cX0_putMix 9 none 1 24 [.ref a, .ref b, .long x, .ref d, .long y] n G I L (xE none I (cw L a (mixC x (rd L b) y (rd L d)))) := by
  have h := t_X0_putMix l D z n G I L a b x d y ga gb gd za
  rw [if_neg hz] at h
  exact h
theorem t_X0_putTimesGaussian_c (l : Launch) (D : xD) (z n : Nat) (G : xG) (I : xI) (L : xL) (a : Nat) (b : Nat) (x : Int64) (y : Int64) (ga : G a = some (0, 0, rN)) (gb : G b = some (0, 0, rN)) (za : z ≤ a) : xM0 l D z yX0_putTimesGaussian cX0_putTimesGaussian 6 none 1 24 [.ref a, .ref b, .long x, .long y] n G I L (xE none I (cw L a (gauC x y (rd L b)))) := by
  exact t_X0_putTimesGaussian l D z n G I L a b x y ga gb za
theorem t_X0_putProduct_c (l : Launch) (D : xD) (z n : Nat) (G : xG) (I : xI) (L : xL) (a : Nat) (b : Nat) (d : Nat) (u : Int64) (ga : G a = some (0, 0, rN)) (gb : G b = some (0, 0, rN)) (gd : G d = some (0, 0, rN)) (za : z ≤ a) (hz : ¬ u = 0) : xM0 l D z yX0_putProduct cX0_putProduct 5 none 1 24 [.ref a, .ref b, .ref d, .long u] n G I L (xE none I (cw L a (mulC u (rd L b) (rd L d)))) := by
  have h := t_X0_putProduct l D z n G I L a b d u ga gb gd za
  rw [if_neg hz] at h
  exact h
theorem t_X0_divideBy_c (l : Launch) (D : xD) (z n : Nat) (G : xG) (I : xI) (L : xL) (a : Nat) (b : Nat) (u : Int64) (ga : G a = some (0, 0, rN)) (gb : G b = some (0, 0, rN)) (za : z ≤ a) (hz : ¬ u = 0) : xM0 l D z yX0_divideBy cX0_divideBy 6 (some .boolean) 1 24 [.ref a, .ref b, .long u] n G I L (xE (some (.int (if norC (rd L b) u = 0 then 0 else 1))) I (if norC (rd L b) u = 0 then L else cw L a (divC (rd L a) (rd L b) u))) := by
  have h := t_X0_divideBy l D z n G I L a b u ga gb za
  simp only [cnorm, if_neg hz] at h
  exact h
theorem t_X0_divideBy_n (l : Launch) (D : xD) (z n : Nat) (G : xG) (I : xI) (L : xL) (a : Nat) (b : Nat) (u : Int64) (ga : G a = some (0, 0, rN)) (gb : G b = some (0, 0, rN)) (za : z ≤ a) (hz : ¬ u = 0) (hn : ¬ norC (rd L b) u = 0) : xM0 l D z yX0_divideBy cX0_divideBy 6 (some .boolean) 1 24 [.ref a, .ref b, .long u] n G I L (xE (some (.int 1)) I (cw L a (divC (rd L a) (rd L b) u))) := by
  have h := t_X0_divideBy_c l D z n G I L a b u ga gb za hz
  rw [if_neg hn, if_neg hn] at h
  exact h
theorem t_X0_divideBy_z (l : Launch) (D : xD) (z n : Nat) (G : xG) (I : xI) (L : xL) (a : Nat) (b : Nat) (u : Int64) (ga : G a = some (0, 0, rN)) (gb : G b = some (0, 0, rN)) (za : z ≤ a) (hz : ¬ u = 0) (hn : norC (rd L b) u = 0) : xM0 l D z yX0_divideBy cX0_divideBy 6 (some .boolean) 1 24 [.ref a, .ref b, .long u] n G I L (xE (some (.int 0)) I L) := by
  have h := t_X0_divideBy_c l D z n G I L a b u ga gb za hz
  rw [if_pos hn, if_pos hn] at h
  exact h
theorem t_X0_size_c (l : Launch) (D : xD) (z n : Nat) (G : xG) (I : xI) (L : xL) (a : Nat) (ga : G a = some (0, 0, rN)) : xM0 l D z yX0_size cX0_size 1 (some .long) 1 23 [.ref a] n G I L (xE (some (.long (sizC (rd L a)))) I L) := by
  exact t_X0_size l D z n G I L a ga
def rTan (t : Nat) : Nat → Option Nat := va_up (va_up (va_up rN 0 (some (t + 1))) 1 (some (t + 2))) 2 (some (t + 3))
def shT (G : xG) (t : Nat) : Prop := G t = some (10, 0, rTan t) ∧ G (t + 1) = some (0, 0, rN) ∧ G (t + 2) = some (0, 0, rN) ∧ G (t + 3) = some (0, 0, rN)
def tw (L : xL) (t : Nat) (v x y : xC) : xL := cw (cw (cw L (t + 1) v) (t + 2) x) (t + 3) y
def rProd (w : Nat) : Nat → Option Nat := fun k => if k < 10 then some (w + 2 + k) else none
def rPow (w : Nat) : Nat → Option Nat := va_up rN 0 (some (w + 1))
def shW (G : xG) (w : Nat) : Prop := G w = some (7, 0, rPow w) ∧ G (w + 1) = some (23, 10, rProd w) ∧ ∀ k, k < 10 → G (w + 2 + k) = some (0, 0, rN)
/-- the ten products of powers -/
def powC (x y : xC) (u : Int64) (k : Nat) : xC :=
  if k = 0 then hC (u, 0) else if k = 1 then y else if k = 2 then mulC u y y else if k = 3 then mulC u (mulC u y y) y else if k = 4 then x else if k = 5 then mulC u x y else if k = 6 then mulC u x (mulC u y y) else if k = 7 then mulC u x x else if k = 8 then mulC u (mulC u x x) y else mulC u (mulC u x x) x
def rSol (s : Nat) : Nat → Option Nat := va_up (va_up (va_up (va_up (va_up (va_up rN 0 (some (s + 1))) 1 (some (s + 2))) 2 (some (s + 3))) 3 (some (s + 4))) 4 (some (s + 5))) 5 (some (s + 6))
def shO (G : xG) (s : Nat) : Prop := G s = some (8, 0, rSol s) ∧ ∀ k, k < 6 → G (s + 1 + k) = some (0, 0, rN)
def detC (u : Int64) (a d b c : xC) : xC := subC (mulC u a d) (mulC u b c)
theorem dX10_clear_0 : decode cX10_clear 0 = .ok (.aload_n 0, 1) := by decide +kernel
theorem dX10_clear_1 : decode cX10_clear 1 = .ok (.getfield 10, 3) := by decide +kernel
theorem dX10_clear_4 : decode cX10_clear 4 = .ok (.lconst 0, 1) := by decide +kernel
theorem dX10_clear_5 : decode cX10_clear 5 = .ok (.lconst 0, 1) := by decide +kernel
theorem dX10_clear_6 : decode cX10_clear 6 = .ok (.invokevirtual 22, 3) := by decide +kernel
theorem dX10_clear_9 : decode cX10_clear 9 = .ok (.aload_n 0, 1) := by decide +kernel
theorem dX10_clear_10 : decode cX10_clear 10 = .ok (.getfield 16, 3) := by decide +kernel
theorem dX10_clear_13 : decode cX10_clear 13 = .ok (.lconst 0, 1) := by decide +kernel
theorem dX10_clear_14 : decode cX10_clear 14 = .ok (.lconst 0, 1) := by decide +kernel
theorem dX10_clear_15 : decode cX10_clear 15 = .ok (.invokevirtual 22, 3) := by decide +kernel
theorem dX10_clear_18 : decode cX10_clear 18 = .ok (.aload_n 0, 1) := by decide +kernel
theorem dX10_clear_19 : decode cX10_clear 19 = .ok (.getfield 19, 3) := by decide +kernel
theorem dX10_clear_22 : decode cX10_clear 22 = .ok (.lconst 0, 1) := by decide +kernel
theorem dX10_clear_23 : decode cX10_clear 23 = .ok (.lconst 0, 1) := by decide +kernel
theorem dX10_clear_24 : decode cX10_clear 24 = .ok (.invokevirtual 22, 3) := by decide +kernel
theorem dX10_clear_27 : decode cX10_clear 27 = .ok (.return_, 1) := by decide +kernel
set_option maxHeartbeats 4000000 in
set_option maxRecDepth 100000 in
theorem t_X10_clear (l : Launch) (D : xD) (z n : Nat) (G : xG) (I : xI) (L : xL) (t : Nat) (hT : shT G t) (za : z ≤ t) : xM0 l D z yX10_clear cX10_clear 1 none 1 24 [.ref t] n G I L (xE none I (tw L t (0, 0) (0, 0) (0, 0))) := by
  refine xM.of (by decide) (Nat.le_of_ble_eq_true rfl) (fun p e s m args below meth c C hnm hsz => ?_)
  refine x_lv [(0, .ref t)] rfl ?_
  refine x_aload_n 0 C dX10_clear_0 rfl 0 rfl ?_
  refine x_getr 1 C (b := t + 1) dX10_clear_1 ff_X10_10 rfl hT.1 rfl ?_
  refine x_lconst 4 C (v := 0) dX10_clear_4 rfl ?_
  refine x_lconst 5 C (v := 0) dX10_clear_5 rfl ?_
  refine x_callVe 6 C dX10_clear_6 (As := [.long 0, .long 0]) (rest := []) [] (t_X0_put_c l D z n G I L (t + 1) 0 0 hT.2.1 (by omega)) mt_X0_put km_X10_22 ki_X0_put ks_X0_put hT.2.1 ⟨by decide, rfl⟩ rfl rfl (Nat.le_of_ble_eq_true rfl) ⟨⟨by decide, by decide⟩, by decide, by decide⟩ (fun I1 L2 eI1 eL2 => ?_)
  replace eI1 := eI1.symm; subst eI1
  refine x_aload_n 9 C dX10_clear_9 rfl 0 rfl ?_
  refine x_getr 10 C (b := t + 2) dX10_clear_10 ff_X10_16 rfl hT.1 rfl ?_
  refine x_lconst 13 C (v := 0) dX10_clear_13 rfl ?_
  refine x_lconst 14 C (v := 0) dX10_clear_14 rfl ?_
  refine x_callVe 15 C dX10_clear_15 (As := [.long 0, .long 0]) (rest := []) [] (t_X0_put_c l D z n G I L2 (t + 2) 0 0 hT.2.2.1 (by omega)) mt_X0_put km_X10_22 ki_X0_put ks_X0_put hT.2.2.1 ⟨by decide, rfl⟩ rfl rfl (Nat.le_of_ble_eq_true rfl) ⟨⟨by decide, by decide⟩, by decide, by decide⟩ (fun I3 L4 eI3 eL4 => ?_)
  replace eI3 := eI3.symm; subst eI3
  refine x_aload_n 18 C dX10_clear_18 rfl 0 rfl ?_
  refine x_getr 19 C (b := t + 3) dX10_clear_19 ff_X10_19 rfl hT.1 rfl ?_
  refine x_lconst 22 C (v := 0) dX10_clear_22 rfl ?_
  refine x_lconst 23 C (v := 0) dX10_clear_23 rfl ?_
  refine x_callVe 24 C dX10_clear_24 (As := [.long 0, .long 0]) (rest := []) [] (t_X0_put_c l D z n G I L4 (t + 3) 0 0 hT.2.2.2 (by omega)) mt_X0_put km_X10_22 ki_X0_put ks_X0_put hT.2.2.2 ⟨by decide, rfl⟩ rfl rfl (Nat.le_of_ble_eq_true rfl) ⟨⟨by decide, by decide⟩, by decide, by decide⟩ (fun I5 L6 eI5 eL6 => ?_)
  replace eI5 := eI5.symm; subst eI5
  refine x_vret 27 C dX10_clear_27 rfl (Nat.le_refl _) (xN.intro ?_)
  subst eL2; subst eL4; subst eL6
  exact ⟨rfl, rfl, rfl⟩
theorem dX10_timesGaussian_0 : decode cX10_timesGaussian 0 = .ok (.aload_n 0, 1) := by decide +kernel
theorem dX10_timesGaussian_1 : decode cX10_timesGaussian 1 = .ok (.getfield 10, 3) := by decide +kernel
theorem dX10_timesGaussian_4 : decode cX10_timesGaussian 4 = .ok (.aload_n 0, 1) := by decide +kernel
theorem dX10_timesGaussian_5 : decode cX10_timesGaussian 5 = .ok (.getfield 10, 3) := by decide +kernel
theorem dX10_timesGaussian_8 : decode cX10_timesGaussian 8 = .ok (.lload_n 1, 1) := by decide +kernel
theorem dX10_timesGaussian_9 : decode cX10_timesGaussian 9 = .ok (.lload_n 3, 1) := by decide +kernel
theorem dX10_timesGaussian_10 : decode cX10_timesGaussian 10 = .ok (.invokevirtual 26, 3) := by decide +kernel
theorem dX10_timesGaussian_13 : decode cX10_timesGaussian 13 = .ok (.aload_n 0, 1) := by decide +kernel
theorem dX10_timesGaussian_14 : decode cX10_timesGaussian 14 = .ok (.getfield 16, 3) := by decide +kernel
theorem dX10_timesGaussian_17 : decode cX10_timesGaussian 17 = .ok (.aload_n 0, 1) := by decide +kernel
theorem dX10_timesGaussian_18 : decode cX10_timesGaussian 18 = .ok (.getfield 16, 3) := by decide +kernel
theorem dX10_timesGaussian_21 : decode cX10_timesGaussian 21 = .ok (.lload_n 1, 1) := by decide +kernel
theorem dX10_timesGaussian_22 : decode cX10_timesGaussian 22 = .ok (.lload_n 3, 1) := by decide +kernel
theorem dX10_timesGaussian_23 : decode cX10_timesGaussian 23 = .ok (.invokevirtual 26, 3) := by decide +kernel
theorem dX10_timesGaussian_26 : decode cX10_timesGaussian 26 = .ok (.aload_n 0, 1) := by decide +kernel
theorem dX10_timesGaussian_27 : decode cX10_timesGaussian 27 = .ok (.getfield 19, 3) := by decide +kernel
theorem dX10_timesGaussian_30 : decode cX10_timesGaussian 30 = .ok (.aload_n 0, 1) := by decide +kernel
theorem dX10_timesGaussian_31 : decode cX10_timesGaussian 31 = .ok (.getfield 19, 3) := by decide +kernel
theorem dX10_timesGaussian_34 : decode cX10_timesGaussian 34 = .ok (.lload_n 1, 1) := by decide +kernel
theorem dX10_timesGaussian_35 : decode cX10_timesGaussian 35 = .ok (.lload_n 3, 1) := by decide +kernel
theorem dX10_timesGaussian_36 : decode cX10_timesGaussian 36 = .ok (.invokevirtual 26, 3) := by decide +kernel
theorem dX10_timesGaussian_39 : decode cX10_timesGaussian 39 = .ok (.return_, 1) := by decide +kernel
set_option maxHeartbeats 4000000 in
set_option maxRecDepth 100000 in
theorem t_X10_timesGaussian (l : Launch) (D : xD) (z n : Nat) (G : xG) (I : xI) (L : xL) (t : Nat) (x : Int64) (y : Int64) (hT : shT G t) (za : z ≤ t) : xM0 l D z yX10_timesGaussian cX10_timesGaussian 5 none 2 49 [.ref t, .long x, .long y] n G I L (xE none I (tw L t (gauC x y (rd L (t + 1))) (gauC x y (rd L (t + 2))) (gauC x y (rd L (t + 3))))) := by
  refine xM.of (by decide) (Nat.le_of_ble_eq_true rfl) (fun p e s m args below meth c C hnm hsz => ?_)
  refine x_lv [(0, .ref t), (1, .long x), (3, .long y)] rfl ?_
  refine x_aload_n 0 C dX10_timesGaussian_0 rfl 0 rfl ?_
  refine x_getr 1 C (b := t + 1) dX10_timesGaussian_1 ff_X10_10 rfl hT.1 rfl ?_
  refine x_aload_n 4 C dX10_timesGaussian_4 rfl 0 rfl ?_
  refine x_getr 5 C (b := t + 1) dX10_timesGaussian_5 ff_X10_10 rfl hT.1 rfl ?_
  refine x_lload_n 8 C dX10_timesGaussian_8 rfl 1 rfl ?_
  refine x_lload_n 9 C dX10_timesGaussian_9 rfl 2 rfl ?_
  refine x_callVe 10 C dX10_timesGaussian_10 (As := [.ref (t + 1), .long x, .long y]) (rest := []) [] (t_X0_putTimesGaussian_c l D z n G I L (t + 1) (t + 1) x y hT.2.1 hT.2.1 (by omega)) mt_X0_putTimesGaussian km_X10_26 ki_X0_putTimesGaussian ks_X0_putTimesGaussian hT.2.1 ⟨by decide, rfl⟩ rfl rfl (Nat.le_of_ble_eq_true rfl) ⟨⟨by decide, by decide⟩, by decide, by decide⟩ (fun I1 L2 eI1 eL2 => ?_)
  replace eI1 := eI1.symm; subst eI1
  refine x_aload_n 13 C dX10_timesGaussian_13 rfl 0 rfl ?_
  refine x_getr 14 C (b := t + 2) dX10_timesGaussian_14 ff_X10_16 rfl hT.1 rfl ?_
  refine x_aload_n 17 C dX10_timesGaussian_17 rfl 0 rfl ?_
  refine x_getr 18 C (b := t + 2) dX10_timesGaussian_18 ff_X10_16 rfl hT.1 rfl ?_
  refine x_lload_n 21 C dX10_timesGaussian_21 rfl 1 rfl ?_
  refine x_lload_n 22 C dX10_timesGaussian_22 rfl 2 rfl ?_
  refine x_callVe 23 C dX10_timesGaussian_23 (As := [.ref (t + 2), .long x, .long y]) (rest := []) [] (t_X0_putTimesGaussian_c l D z n G I L2 (t + 2) (t + 2) x y hT.2.2.1 hT.2.2.1 (by omega)) mt_X0_putTimesGaussian km_X10_26 ki_X0_putTimesGaussian ks_X0_putTimesGaussian hT.2.2.1 ⟨by decide, rfl⟩ rfl rfl (Nat.le_of_ble_eq_true rfl) ⟨⟨by decide, by decide⟩, by decide, by decide⟩ (fun I3 L4 eI3 eL4 => ?_)
  replace eI3 := eI3.symm; subst eI3
  refine x_aload_n 26 C dX10_timesGaussian_26 rfl 0 rfl ?_
  refine x_getr 27 C (b := t + 3) dX10_timesGaussian_27 ff_X10_19 rfl hT.1 rfl ?_
  refine x_aload_n 30 C dX10_timesGaussian_30 rfl 0 rfl ?_
  refine x_getr 31 C (b := t + 3) dX10_timesGaussian_31 ff_X10_19 rfl hT.1 rfl ?_
  refine x_lload_n 34 C dX10_timesGaussian_34 rfl 1 rfl ?_
  refine x_lload_n 35 C dX10_timesGaussian_35 rfl 2 rfl ?_
  refine x_callVe 36 C dX10_timesGaussian_36 (As := [.ref (t + 3), .long x, .long y]) (rest := []) [] (t_X0_putTimesGaussian_c l D z n G I L4 (t + 3) (t + 3) x y hT.2.2.2 hT.2.2.2 (by omega)) mt_X0_putTimesGaussian km_X10_26 ki_X0_putTimesGaussian ks_X0_putTimesGaussian hT.2.2.2 ⟨by decide, rfl⟩ rfl rfl (Nat.le_of_ble_eq_true rfl) ⟨⟨by decide, by decide⟩, by decide, by decide⟩ (fun I5 L6 eI5 eL6 => ?_)
  replace eI5 := eI5.symm; subst eI5
  refine x_vret 39 C dX10_timesGaussian_39 rfl (Nat.le_refl _) (xN.intro ?_)
  subst eL2; subst eL4; subst eL6
  refine ⟨rfl, rfl, ?_⟩
  simp [tw, rd_cw_ne]
theorem dX10_putMix_0 : decode cX10_putMix 0 = .ok (.aload_n 0, 1) := by decide +kernel
theorem dX10_putMix_1 : decode cX10_putMix 1 = .ok (.getfield 10, 3) := by decide +kernel
theorem dX10_putMix_4 : decode cX10_putMix 4 = .ok (.aload_n 1, 1) := by decide +kernel
theorem dX10_putMix_5 : decode cX10_putMix 5 = .ok (.getfield 10, 3) := by decide +kernel
theorem dX10_putMix_8 : decode cX10_putMix 8 = .ok (.lload_n 2, 1) := by decide +kernel
theorem dX10_putMix_9 : decode cX10_putMix 9 = .ok (.aload 4, 2) := by decide +kernel
theorem dX10_putMix_11 : decode cX10_putMix 11 = .ok (.getfield 10, 3) := by decide +kernel
theorem dX10_putMix_14 : decode cX10_putMix 14 = .ok (.lload 5, 2) := by decide +kernel
theorem dX10_putMix_16 : decode cX10_putMix 16 = .ok (.invokevirtual 30, 3) := by decide +kernel
theorem dX10_putMix_19 : decode cX10_putMix 19 = .ok (.aload_n 0, 1) := by decide +kernel
theorem dX10_putMix_20 : decode cX10_putMix 20 = .ok (.getfield 16, 3) := by decide +kernel
theorem dX10_putMix_23 : decode cX10_putMix 23 = .ok (.aload_n 1, 1) := by decide +kernel
theorem dX10_putMix_24 : decode cX10_putMix 24 = .ok (.getfield 16, 3) := by decide +kernel
theorem dX10_putMix_27 : decode cX10_putMix 27 = .ok (.lload_n 2, 1) := by decide +kernel
theorem dX10_putMix_28 : decode cX10_putMix 28 = .ok (.aload 4, 2) := by decide +kernel
theorem dX10_putMix_30 : decode cX10_putMix 30 = .ok (.getfield 16, 3) := by decide +kernel
theorem dX10_putMix_33 : decode cX10_putMix 33 = .ok (.lload 5, 2) := by decide +kernel
theorem dX10_putMix_35 : decode cX10_putMix 35 = .ok (.invokevirtual 30, 3) := by decide +kernel
theorem dX10_putMix_38 : decode cX10_putMix 38 = .ok (.aload_n 0, 1) := by decide +kernel
theorem dX10_putMix_39 : decode cX10_putMix 39 = .ok (.getfield 19, 3) := by decide +kernel
theorem dX10_putMix_42 : decode cX10_putMix 42 = .ok (.aload_n 1, 1) := by decide +kernel
theorem dX10_putMix_43 : decode cX10_putMix 43 = .ok (.getfield 19, 3) := by decide +kernel
theorem dX10_putMix_46 : decode cX10_putMix 46 = .ok (.lload_n 2, 1) := by decide +kernel
theorem dX10_putMix_47 : decode cX10_putMix 47 = .ok (.aload 4, 2) := by decide +kernel
theorem dX10_putMix_49 : decode cX10_putMix 49 = .ok (.getfield 19, 3) := by decide +kernel
theorem dX10_putMix_52 : decode cX10_putMix 52 = .ok (.lload 5, 2) := by decide +kernel
theorem dX10_putMix_54 : decode cX10_putMix 54 = .ok (.invokevirtual 30, 3) := by decide +kernel
theorem dX10_putMix_57 : decode cX10_putMix 57 = .ok (.return_, 1) := by decide +kernel
set_option maxHeartbeats 4000000 in
set_option maxRecDepth 100000 in
theorem t_X10_putMix (l : Launch) (D : xD) (z n : Nat) (G : xG) (I : xI) (L : xL) (t : Nat) (a : Nat) (x : Int64) (b : Nat) (y : Int64) (hT : shT G t) (hTa : shT G a) (hTb : shT G b) (za : z ≤ t) (hta : t + 3 < a ∨ a + 3 < t) (htb : t + 3 < b ∨ b + 3 < t) (hxy : ¬ x + y = 0) : xM0 l D z yX10_putMix cX10_putMix 7 none 2 52 [.ref t, .ref a, .long x, .ref b, .long y] n G I L (xE none I (tw L t (mixC x (rd L (a + 1)) y (rd L (b + 1))) (mixC x (rd L (a + 2)) y (rd L (b + 2))) (mixC x (rd L (a + 3)) y (rd L (b + 3))))) := by
  refine xM.of (by decide) (Nat.le_of_ble_eq_true rfl) (fun p e s m args below meth c C hnm hsz => ?_)
  refine x_lv [(0, .ref t), (1, .ref a), (2, .long x), (4, .ref b), (5, .long y)] rfl ?_
  refine x_aload_n 0 C dX10_putMix_0 rfl 0 rfl ?_
  refine x_getr 1 C (b := t + 1) dX10_putMix_1 ff_X10_10 rfl hT.1 rfl ?_
  refine x_aload_n 4 C dX10_putMix_4 rfl 1 rfl ?_
  refine x_getr 5 C (b := a + 1) dX10_putMix_5 ff_X10_10 rfl hTa.1 rfl ?_
  refine x_lload_n 8 C dX10_putMix_8 rfl 2 rfl ?_
  refine x_aload 9 C dX10_putMix_9 3 rfl ?_
  refine x_getr 11 C (b := b + 1) dX10_putMix_11 ff_X10_10 rfl hTb.1 rfl ?_
  refine x_lload 14 C dX10_putMix_14 4 rfl ?_
  refine x_callVe 16 C dX10_putMix_16 (As := [.ref (a + 1), .long x, .ref (b + 1), .long y]) (rest := []) [] (t_X0_putMix_c l D z n G I L (t + 1) (a + 1) x (b + 1) y hT.2.1 hTa.2.1 hTb.2.1 (by omega) (by first | assumption | omega)) mt_X0_putMix km_X10_30 ki_X0_putMix ks_X0_putMix hT.2.1 ⟨by decide, rfl⟩ rfl rfl (Nat.le_of_ble_eq_true rfl) ⟨⟨by decide, by decide⟩, by decide, by decide⟩ (fun I1 L2 eI1 eL2 => ?_)
  replace eI1 := eI1.symm; subst eI1
  refine x_aload_n 19 C dX10_putMix_19 rfl 0 rfl ?_
  refine x_getr 20 C (b := t + 2) dX10_putMix_20 ff_X10_16 rfl hT.1 rfl ?_
  refine x_aload_n 23 C dX10_putMix_23 rfl 1 rfl ?_
  refine x_getr 24 C (b := a + 2) dX10_putMix_24 ff_X10_16 rfl hTa.1 rfl ?_
  refine x_lload_n 27 C dX10_putMix_27 rfl 2 rfl ?_
  refine x_aload 28 C dX10_putMix_28 3 rfl ?_
  refine x_getr 30 C (b := b + 2) dX10_putMix_30 ff_X10_16 rfl hTb.1 rfl ?_
  refine x_lload 33 C dX10_putMix_33 4 rfl ?_
  refine x_callVe 35 C dX10_putMix_35 (As := [.ref (a + 2), .long x, .ref (b + 2), .long y]) (rest := []) [] (t_X0_putMix_c l D z n G I L2 (t + 2) (a + 2) x (b + 2) y hT.2.2.1 hTa.2.2.1 hTb.2.2.1 (by omega) (by first | assumption | omega)) mt_X0_putMix km_X10_30 ki_X0_putMix ks_X0_putMix hT.2.2.1 ⟨by decide, rfl⟩ rfl rfl (Nat.le_of_ble_eq_true rfl) ⟨⟨by decide, by decide⟩, by decide, by decide⟩ (fun I3 L4 eI3 eL4 => ?_)
  replace eI3 := eI3.symm; subst eI3
  refine x_aload_n 38 C dX10_putMix_38 rfl 0 rfl ?_
  refine x_getr 39 C (b := t + 3) dX10_putMix_39 ff_X10_19 rfl hT.1 rfl ?_
  refine x_aload_n 42 C dX10_putMix_42 rfl 1 rfl ?_
  refine x_getr 43 C (b := a + 3) dX10_putMix_43 ff_X10_19 rfl hTa.1 rfl ?_
  refine x_lload_n 46 C dX10_putMix_46 rfl 2 rfl ?_
  refine x_aload 47 C dX10_putMix_47 3 rfl ?_
  refine x_getr 49 C (b := b + 3) dX10_putMix_49 ff_X10_19 rfl hTb.1 rfl ?_
  refine x_lload 52 C dX10_putMix_52 4 rfl ?_
  refine x_callVe 54 C dX10_putMix_54 (As := [.ref (a + 3), .long x, .ref (b + 3), .long y]) (rest := []) [] (t_X0_putMix_c l D z n G I L4 (t + 3) (a + 3) x (b + 3) y hT.2.2.2 hTa.2.2.2 hTb.2.2.2 (by omega) (by first | assumption | omega)) mt_X0_putMix km_X10_30 ki_X0_putMix ks_X0_putMix hT.2.2.2 ⟨by decide, rfl⟩ rfl rfl (Nat.le_of_ble_eq_true rfl) ⟨⟨by decide, by decide⟩, by decide, by decide⟩ (fun I5 L6 eI5 eL6 => ?_)
  replace eI5 := eI5.symm; subst eI5
  refine x_vret 57 C dX10_putMix_57 rfl (Nat.le_refl _) (xN.intro ?_)
  subst eL2; subst eL4; subst eL6
  refine ⟨rfl, rfl, ?_⟩
  have a1 : a + 2 ≠ t + 1 := by omega
  have a2 : a + 3 ≠ t + 1 := by omega
  have a3 : a + 3 ≠ t + 2 := by omega
  have b1 : b + 2 ≠ t + 1 := by omega
  have b2 : b + 3 ≠ t + 1 := by omega
  have b3 : b + 3 ≠ t + 2 := by omega
  rw [rd_cw_ne _ _ a1, rd_cw_ne _ _ b1, rd_cw_ne _ _ a3, rd_cw_ne _ _ a2, rd_cw_ne _ _ b3, rd_cw_ne _ _ b2]
  rfl
theorem dX7_at_0 : decode cX7_at 0 = .ok (.aload_n 0, 1) := by decide +kernel
theorem dX7_at_1 : decode cX7_at 1 = .ok (.getfield 11, 3) := by decide +kernel
theorem dX7_at_4 : decode cX7_at 4 = .ok (.iload_n 1, 1) := by decide +kernel
theorem dX7_at_5 : decode cX7_at 5 = .ok (.ifCond .lt 16, 3) := by decide +kernel
theorem dX7_at_8 : decode cX7_at 8 = .ok (.iload_n 1, 1) := by decide +kernel
theorem dX7_at_9 : decode cX7_at 9 = .ok (.aload_n 0, 1) := by decide +kernel
theorem dX7_at_10 : decode cX7_at 10 = .ok (.getfield 11, 3) := by decide +kernel
theorem dX7_at_13 : decode cX7_at 13 = .ok (.arraylength, 1) := by decide +kernel
theorem dX7_at_14 : decode cX7_at 14 = .ok (.if_icmp .ge 7, 3) := by decide +kernel
theorem dX7_at_17 : decode cX7_at 17 = .ok (.iload_n 1, 1) := by decide +kernel
theorem dX7_at_18 : decode cX7_at 18 = .ok (.goto 4, 3) := by decide +kernel
theorem dX7_at_21 : decode cX7_at 21 = .ok (.iconst 0, 1) := by decide +kernel
theorem dX7_at_22 : decode cX7_at 22 = .ok (.aaload, 1) := by decide +kernel
theorem dX7_at_23 : decode cX7_at 23 = .ok (.areturn, 1) := by decide +kernel
set_option maxHeartbeats 4000000 in
set_option maxRecDepth 100000 in
theorem t_X7_at (l : Launch) (D : xD) (z n : Nat) (G : xG) (I : xI) (L : xL) (w : Nat) (k : Nat) (hW : shW G w) (hk : k < 10) : xM0 l D z yX7_at cX7_at 2 (some (.object "PathTracker$Complex")) 0 0 [.ref w, .int (nI k)] n G I L (xE (some (.ref (w + 2 + k))) I L) := by
  refine xM.of (by decide) (Nat.le_of_ble_eq_true rfl) (fun p e s m args below meth c C hnm hsz => ?_)
  refine x_lv [(0, .ref w), (1, .int (nI k))] rfl ?_
  refine x_aload_n 0 C dX7_at_0 rfl 0 rfl ?_
  refine x_getr 1 C (b := w + 1) dX7_at_1 ff_X7_11 rfl hW.1 rfl ?_
  refine x_iload_n 4 C dX7_at_4 rfl 1 rfl ?_
  refine x_if_lt 5 C 21 dX7_at_5 (by decide) (fun c1 => absurd c1 (nI_pos (n := k) (by omega))) (fun _ => ?_)
  refine x_iload_n 8 C dX7_at_8 rfl 1 rfl ?_
  refine x_aload_n 9 C dX7_at_9 rfl 0 rfl ?_
  refine x_getr 10 C (b := w + 1) dX7_at_10 ff_X7_11 rfl hW.1 rfl ?_
  refine x_alen 13 C dX7_at_13 (by decide) hW.2.1 ?_
  refine x_icmp_ge 14 C 21 dX7_at_14 (by decide) (fun c2 => absurd c2 (fun h => absurd ((nI_leI (a := 10) (b := k) (by omega) (by omega)).mp h) (by omega))) (fun _ => ?_)
  refine x_iload_n 17 C dX7_at_17 rfl 1 rfl ?_
  refine x_goto 18 C 22 dX7_at_18 (by decide) ?_
  refine x_aald 22 C (b := w + 2 + k) (j := k) dX7_at_22 (by decide) hW.2.1 (xIx_nI (by omega) (by decide)) (if_pos (by omega)) ?_
  refine x_aret 23 C dX7_at_23 rfl (Or.inl ⟨_, rfl⟩) (Nat.le_refl _) (xN.intro ?_)
  exact ⟨rfl, rfl, rfl⟩
theorem dX7_fill_0 : decode cX7_fill 0 = .ok (.aload_n 0, 1) := by decide +kernel
theorem dX7_fill_1 : decode cX7_fill 1 = .ok (.getfield 11, 3) := by decide +kernel
theorem dX7_fill_4 : decode cX7_fill 4 = .ok (.iconst 0, 1) := by decide +kernel
theorem dX7_fill_5 : decode cX7_fill 5 = .ok (.aaload, 1) := by decide +kernel
theorem dX7_fill_6 : decode cX7_fill 6 = .ok (.lload_n 3, 1) := by decide +kernel
theorem dX7_fill_7 : decode cX7_fill 7 = .ok (.lconst 0, 1) := by decide +kernel
theorem dX7_fill_8 : decode cX7_fill 8 = .ok (.invokevirtual 18, 3) := by decide +kernel
theorem dX7_fill_11 : decode cX7_fill 11 = .ok (.aload_n 0, 1) := by decide +kernel
theorem dX7_fill_12 : decode cX7_fill 12 = .ok (.getfield 11, 3) := by decide +kernel
theorem dX7_fill_15 : decode cX7_fill 15 = .ok (.iconst 1, 1) := by decide +kernel
theorem dX7_fill_16 : decode cX7_fill 16 = .ok (.aaload, 1) := by decide +kernel
theorem dX7_fill_17 : decode cX7_fill 17 = .ok (.aload_n 2, 1) := by decide +kernel
theorem dX7_fill_18 : decode cX7_fill 18 = .ok (.invokevirtual 22, 3) := by decide +kernel
theorem dX7_fill_21 : decode cX7_fill 21 = .ok (.aload_n 0, 1) := by decide +kernel
theorem dX7_fill_22 : decode cX7_fill 22 = .ok (.getfield 11, 3) := by decide +kernel
theorem dX7_fill_25 : decode cX7_fill 25 = .ok (.iconst 2, 1) := by decide +kernel
theorem dX7_fill_26 : decode cX7_fill 26 = .ok (.aaload, 1) := by decide +kernel
theorem dX7_fill_27 : decode cX7_fill 27 = .ok (.aload_n 2, 1) := by decide +kernel
theorem dX7_fill_28 : decode cX7_fill 28 = .ok (.aload_n 2, 1) := by decide +kernel
theorem dX7_fill_29 : decode cX7_fill 29 = .ok (.lload_n 3, 1) := by decide +kernel
theorem dX7_fill_30 : decode cX7_fill 30 = .ok (.invokevirtual 26, 3) := by decide +kernel
theorem dX7_fill_33 : decode cX7_fill 33 = .ok (.aload_n 0, 1) := by decide +kernel
theorem dX7_fill_34 : decode cX7_fill 34 = .ok (.getfield 11, 3) := by decide +kernel
theorem dX7_fill_37 : decode cX7_fill 37 = .ok (.iconst 3, 1) := by decide +kernel
theorem dX7_fill_38 : decode cX7_fill 38 = .ok (.aaload, 1) := by decide +kernel
theorem dX7_fill_39 : decode cX7_fill 39 = .ok (.aload_n 0, 1) := by decide +kernel
theorem dX7_fill_40 : decode cX7_fill 40 = .ok (.getfield 11, 3) := by decide +kernel
theorem dX7_fill_43 : decode cX7_fill 43 = .ok (.iconst 2, 1) := by decide +kernel
theorem dX7_fill_44 : decode cX7_fill 44 = .ok (.aaload, 1) := by decide +kernel
theorem dX7_fill_45 : decode cX7_fill 45 = .ok (.aload_n 2, 1) := by decide +kernel
theorem dX7_fill_46 : decode cX7_fill 46 = .ok (.lload_n 3, 1) := by decide +kernel
theorem dX7_fill_47 : decode cX7_fill 47 = .ok (.invokevirtual 26, 3) := by decide +kernel
theorem dX7_fill_50 : decode cX7_fill 50 = .ok (.aload_n 0, 1) := by decide +kernel
theorem dX7_fill_51 : decode cX7_fill 51 = .ok (.getfield 11, 3) := by decide +kernel
theorem dX7_fill_54 : decode cX7_fill 54 = .ok (.iconst 4, 1) := by decide +kernel
theorem dX7_fill_55 : decode cX7_fill 55 = .ok (.aaload, 1) := by decide +kernel
theorem dX7_fill_56 : decode cX7_fill 56 = .ok (.aload_n 1, 1) := by decide +kernel
theorem dX7_fill_57 : decode cX7_fill 57 = .ok (.invokevirtual 22, 3) := by decide +kernel
theorem dX7_fill_60 : decode cX7_fill 60 = .ok (.aload_n 0, 1) := by decide +kernel
theorem dX7_fill_61 : decode cX7_fill 61 = .ok (.getfield 11, 3) := by decide +kernel
theorem dX7_fill_64 : decode cX7_fill 64 = .ok (.iconst 5, 1) := by decide +kernel
theorem dX7_fill_65 : decode cX7_fill 65 = .ok (.aaload, 1) := by decide +kernel
theorem dX7_fill_66 : decode cX7_fill 66 = .ok (.aload_n 1, 1) := by decide +kernel
theorem dX7_fill_67 : decode cX7_fill 67 = .ok (.aload_n 2, 1) := by decide +kernel
theorem dX7_fill_68 : decode cX7_fill 68 = .ok (.lload_n 3, 1) := by decide +kernel
theorem dX7_fill_69 : decode cX7_fill 69 = .ok (.invokevirtual 26, 3) := by decide +kernel
theorem dX7_fill_72 : decode cX7_fill 72 = .ok (.aload_n 0, 1) := by decide +kernel
theorem dX7_fill_73 : decode cX7_fill 73 = .ok (.getfield 11, 3) := by decide +kernel
theorem dX7_fill_76 : decode cX7_fill 76 = .ok (.bipush 6, 2) := by decide +kernel
theorem dX7_fill_78 : decode cX7_fill 78 = .ok (.aaload, 1) := by decide +kernel
theorem dX7_fill_79 : decode cX7_fill 79 = .ok (.aload_n 1, 1) := by decide +kernel
theorem dX7_fill_80 : decode cX7_fill 80 = .ok (.aload_n 0, 1) := by decide +kernel
theorem dX7_fill_81 : decode cX7_fill 81 = .ok (.getfield 11, 3) := by decide +kernel
theorem dX7_fill_84 : decode cX7_fill 84 = .ok (.iconst 2, 1) := by decide +kernel
theorem dX7_fill_85 : decode cX7_fill 85 = .ok (.aaload, 1) := by decide +kernel
theorem dX7_fill_86 : decode cX7_fill 86 = .ok (.lload_n 3, 1) := by decide +kernel
theorem dX7_fill_87 : decode cX7_fill 87 = .ok (.invokevirtual 26, 3) := by decide +kernel
theorem dX7_fill_90 : decode cX7_fill 90 = .ok (.aload_n 0, 1) := by decide +kernel
theorem dX7_fill_91 : decode cX7_fill 91 = .ok (.getfield 11, 3) := by decide +kernel
theorem dX7_fill_94 : decode cX7_fill 94 = .ok (.bipush 7, 2) := by decide +kernel
theorem dX7_fill_96 : decode cX7_fill 96 = .ok (.aaload, 1) := by decide +kernel
theorem dX7_fill_97 : decode cX7_fill 97 = .ok (.aload_n 1, 1) := by decide +kernel
theorem dX7_fill_98 : decode cX7_fill 98 = .ok (.aload_n 1, 1) := by decide +kernel
theorem dX7_fill_99 : decode cX7_fill 99 = .ok (.lload_n 3, 1) := by decide +kernel
theorem dX7_fill_100 : decode cX7_fill 100 = .ok (.invokevirtual 26, 3) := by decide +kernel
theorem dX7_fill_103 : decode cX7_fill 103 = .ok (.aload_n 0, 1) := by decide +kernel
theorem dX7_fill_104 : decode cX7_fill 104 = .ok (.getfield 11, 3) := by decide +kernel
theorem dX7_fill_107 : decode cX7_fill 107 = .ok (.bipush 8, 2) := by decide +kernel
theorem dX7_fill_109 : decode cX7_fill 109 = .ok (.aaload, 1) := by decide +kernel
theorem dX7_fill_110 : decode cX7_fill 110 = .ok (.aload_n 0, 1) := by decide +kernel
theorem dX7_fill_111 : decode cX7_fill 111 = .ok (.getfield 11, 3) := by decide +kernel
theorem dX7_fill_114 : decode cX7_fill 114 = .ok (.bipush 7, 2) := by decide +kernel
theorem dX7_fill_116 : decode cX7_fill 116 = .ok (.aaload, 1) := by decide +kernel
theorem dX7_fill_117 : decode cX7_fill 117 = .ok (.aload_n 2, 1) := by decide +kernel
theorem dX7_fill_118 : decode cX7_fill 118 = .ok (.lload_n 3, 1) := by decide +kernel
theorem dX7_fill_119 : decode cX7_fill 119 = .ok (.invokevirtual 26, 3) := by decide +kernel
theorem dX7_fill_122 : decode cX7_fill 122 = .ok (.aload_n 0, 1) := by decide +kernel
theorem dX7_fill_123 : decode cX7_fill 123 = .ok (.getfield 11, 3) := by decide +kernel
theorem dX7_fill_126 : decode cX7_fill 126 = .ok (.bipush 9, 2) := by decide +kernel
theorem dX7_fill_128 : decode cX7_fill 128 = .ok (.aaload, 1) := by decide +kernel
theorem dX7_fill_129 : decode cX7_fill 129 = .ok (.aload_n 0, 1) := by decide +kernel
theorem dX7_fill_130 : decode cX7_fill 130 = .ok (.getfield 11, 3) := by decide +kernel
theorem dX7_fill_133 : decode cX7_fill 133 = .ok (.bipush 7, 2) := by decide +kernel
theorem dX7_fill_135 : decode cX7_fill 135 = .ok (.aaload, 1) := by decide +kernel
theorem dX7_fill_136 : decode cX7_fill 136 = .ok (.aload_n 1, 1) := by decide +kernel
theorem dX7_fill_137 : decode cX7_fill 137 = .ok (.lload_n 3, 1) := by decide +kernel
theorem dX7_fill_138 : decode cX7_fill 138 = .ok (.invokevirtual 26, 3) := by decide +kernel
theorem dX7_fill_141 : decode cX7_fill 141 = .ok (.return_, 1) := by decide +kernel
set_option maxHeartbeats 4000000 in
set_option maxRecDepth 100000 in
theorem t_X7_fill (l : Launch) (D : xD) (z n : Nat) (G : xG) (I : xI) (L : xL) (w : Nat) (a : Nat) (b : Nat) (u : Int64) (hW : shW G w) (ga : G a = some (0, 0, rN)) (gb : G b = some (0, 0, rN)) (zw : z ≤ w) (ha : a < w ∨ w + 12 ≤ a) (hb : b < w ∨ w + 12 ≤ b) (hu : ¬ u = 0) : xM0 l D z yX7_fill cX7_fill 5 none 2 48 [.ref w, .ref a, .ref b, .long u] n G I L (fun v' I' L' => v' = none ∧ I' = I ∧ (∀ k, k < 10 → rd L' (w + 2 + k) = powC (rd L a) (rd L b) u k) ∧ (∀ q, (q < w + 2 ∨ w + 12 ≤ q) → L' q = L q)) := by
  refine xM.of (by decide) (Nat.le_of_ble_eq_true rfl) (fun p e s m args below meth c C hnm hsz => ?_)
  refine x_lv [(0, .ref w), (1, .ref a), (2, .ref b), (3, .long u)] rfl ?_
  refine x_aload_n 0 C dX7_fill_0 rfl 0 rfl ?_
  refine x_getr 1 C (b := w + 1) dX7_fill_1 ff_X7_11 rfl hW.1 rfl ?_
  refine x_iconst 4 C (v := 0) dX7_fill_4 rfl ?_
  refine x_aald 5 C (b := w + 2 + 0) (j := 0) dX7_fill_5 (by decide) hW.2.1 ⟨by decide, by decide, by decide⟩ rfl ?_
  refine x_lload_n 6 C dX7_fill_6 rfl 3 rfl ?_
  refine x_lconst 7 C (v := 0) dX7_fill_7 rfl ?_
  refine x_callVe 8 C dX7_fill_8 (As := [.long u, .long 0]) (rest := []) [] (t_X0_put_c l D z n G I L (w + 2 + 0) u 0 (hW.2.2 0 (by decide)) (by omega)) mt_X0_put km_X7_18 ki_X0_put ks_X0_put (hW.2.2 0 (by decide)) ⟨by decide, rfl⟩ rfl rfl (Nat.le_of_ble_eq_true rfl) ⟨⟨by decide, by decide⟩, by decide, by decide⟩ (fun I1 L2 eI1 eL2 => ?_)
  replace eI1 := eI1.symm; subst eI1
  refine x_aload_n 11 C dX7_fill_11 rfl 0 rfl ?_
  refine x_getr 12 C (b := w + 1) dX7_fill_12 ff_X7_11 rfl hW.1 rfl ?_
  refine x_iconst 15 C (v := 1) dX7_fill_15 rfl ?_
  refine x_aald 16 C (b := w + 2 + 1) (j := 1) dX7_fill_16 (by decide) hW.2.1 ⟨by decide, by decide, by decide⟩ rfl ?_
  refine x_aload_n 17 C dX7_fill_17 rfl 2 rfl ?_
  refine x_callVe 18 C dX7_fill_18 (As := [.ref b]) (rest := []) [] (t_X0_copy_c l D z n G I L2 (w + 2 + 1) b (hW.2.2 1 (by decide)) gb (by omega)) mt_X0_copy km_X7_22 ki_X0_copy ks_X0_copy (hW.2.2 1 (by decide)) ⟨by decide, rfl⟩ rfl rfl (Nat.le_of_ble_eq_true rfl) ⟨⟨by decide, by decide⟩, by decide, by decide⟩ (fun I3 L4 eI3 eL4 => ?_)
  replace eI3 := eI3.symm; subst eI3
  refine x_aload_n 21 C dX7_fill_21 rfl 0 rfl ?_
  refine x_getr 22 C (b := w + 1) dX7_fill_22 ff_X7_11 rfl hW.1 rfl ?_
  refine x_iconst 25 C (v := 2) dX7_fill_25 rfl ?_
  refine x_aald 26 C (b := w + 2 + 2) (j := 2) dX7_fill_26 (by decide) hW.2.1 ⟨by decide, by decide, by decide⟩ rfl ?_
  refine x_aload_n 27 C dX7_fill_27 rfl 2 rfl ?_
  refine x_aload_n 28 C dX7_fill_28 rfl 2 rfl ?_
  refine x_lload_n 29 C dX7_fill_29 rfl 3 rfl ?_
  refine x_callVe 30 C dX7_fill_30 (As := [.ref b, .ref b, .long u]) (rest := []) [] (t_X0_putProduct_c l D z n G I L4 (w + 2 + 2) b b u (hW.2.2 2 (by decide)) gb gb (by omega) (by first | assumption | omega)) mt_X0_putProduct km_X7_26 ki_X0_putProduct ks_X0_putProduct (hW.2.2 2 (by decide)) ⟨by decide, rfl⟩ rfl rfl (Nat.le_of_ble_eq_true rfl) ⟨⟨by decide, by decide⟩, by decide, by decide⟩ (fun I5 L6 eI5 eL6 => ?_)
  replace eI5 := eI5.symm; subst eI5
  refine x_aload_n 33 C dX7_fill_33 rfl 0 rfl ?_
  refine x_getr 34 C (b := w + 1) dX7_fill_34 ff_X7_11 rfl hW.1 rfl ?_
  refine x_iconst 37 C (v := 3) dX7_fill_37 rfl ?_
  refine x_aald 38 C (b := w + 2 + 3) (j := 3) dX7_fill_38 (by decide) hW.2.1 ⟨by decide, by decide, by decide⟩ rfl ?_
  refine x_aload_n 39 C dX7_fill_39 rfl 0 rfl ?_
  refine x_getr 40 C (b := w + 1) dX7_fill_40 ff_X7_11 rfl hW.1 rfl ?_
  refine x_iconst 43 C (v := 2) dX7_fill_43 rfl ?_
  refine x_aald 44 C (b := w + 2 + 2) (j := 2) dX7_fill_44 (by decide) hW.2.1 ⟨by decide, by decide, by decide⟩ rfl ?_
  refine x_aload_n 45 C dX7_fill_45 rfl 2 rfl ?_
  refine x_lload_n 46 C dX7_fill_46 rfl 3 rfl ?_
  refine x_callVe 47 C dX7_fill_47 (As := [.ref (w + 2 + 2), .ref b, .long u]) (rest := []) [] (t_X0_putProduct_c l D z n G I L6 (w + 2 + 3) (w + 2 + 2) b u (hW.2.2 3 (by decide)) (hW.2.2 2 (by decide)) gb (by omega) (by first | assumption | omega)) mt_X0_putProduct km_X7_26 ki_X0_putProduct ks_X0_putProduct (hW.2.2 3 (by decide)) ⟨by decide, rfl⟩ rfl rfl (Nat.le_of_ble_eq_true rfl) ⟨⟨by decide, by decide⟩, by decide, by decide⟩ (fun I7 L8 eI7 eL8 => ?_)
  replace eI7 := eI7.symm; subst eI7
  refine x_aload_n 50 C dX7_fill_50 rfl 0 rfl ?_
  refine x_getr 51 C (b := w + 1) dX7_fill_51 ff_X7_11 rfl hW.1 rfl ?_
  refine x_iconst 54 C (v := 4) dX7_fill_54 rfl ?_
  refine x_aald 55 C (b := w + 2 + 4) (j := 4) dX7_fill_55 (by decide) hW.2.1 ⟨by decide, by decide, by decide⟩ rfl ?_
  refine x_aload_n 56 C dX7_fill_56 rfl 1 rfl ?_
  refine x_callVe 57 C dX7_fill_57 (As := [.ref a]) (rest := []) [] (t_X0_copy_c l D z n G I L8 (w + 2 + 4) a (hW.2.2 4 (by decide)) ga (by omega)) mt_X0_copy km_X7_22 ki_X0_copy ks_X0_copy (hW.2.2 4 (by decide)) ⟨by decide, rfl⟩ rfl rfl (Nat.le_of_ble_eq_true rfl) ⟨⟨by decide, by decide⟩, by decide, by decide⟩ (fun I9 L10 eI9 eL10 => ?_)
  replace eI9 := eI9.symm; subst eI9
  refine x_aload_n 60 C dX7_fill_60 rfl 0 rfl ?_
  refine x_getr 61 C (b := w + 1) dX7_fill_61 ff_X7_11 rfl hW.1 rfl ?_
  refine x_iconst 64 C (v := 5) dX7_fill_64 rfl ?_
  refine x_aald 65 C (b := w + 2 + 5) (j := 5) dX7_fill_65 (by decide) hW.2.1 ⟨by decide, by decide, by decide⟩ rfl ?_
  refine x_aload_n 66 C dX7_fill_66 rfl 1 rfl ?_
  refine x_aload_n 67 C dX7_fill_67 rfl 2 rfl ?_
  refine x_lload_n 68 C dX7_fill_68 rfl 3 rfl ?_
  refine x_callVe 69 C dX7_fill_69 (As := [.ref a, .ref b, .long u]) (rest := []) [] (t_X0_putProduct_c l D z n G I L10 (w + 2 + 5) a b u (hW.2.2 5 (by decide)) ga gb (by omega) (by first | assumption | omega)) mt_X0_putProduct km_X7_26 ki_X0_putProduct ks_X0_putProduct (hW.2.2 5 (by decide)) ⟨by decide, rfl⟩ rfl rfl (Nat.le_of_ble_eq_true rfl) ⟨⟨by decide, by decide⟩, by decide, by decide⟩ (fun I11 L12 eI11 eL12 => ?_)
  replace eI11 := eI11.symm; subst eI11
  refine x_aload_n 72 C dX7_fill_72 rfl 0 rfl ?_
  refine x_getr 73 C (b := w + 1) dX7_fill_73 ff_X7_11 rfl hW.1 rfl ?_
  refine x_bipush 76 C (v := 6) dX7_fill_76 rfl ?_
  refine x_aald 78 C (b := w + 2 + 6) (j := 6) dX7_fill_78 (by decide) hW.2.1 ⟨by decide, by decide, by decide⟩ rfl ?_
  refine x_aload_n 79 C dX7_fill_79 rfl 1 rfl ?_
  refine x_aload_n 80 C dX7_fill_80 rfl 0 rfl ?_
  refine x_getr 81 C (b := w + 1) dX7_fill_81 ff_X7_11 rfl hW.1 rfl ?_
  refine x_iconst 84 C (v := 2) dX7_fill_84 rfl ?_
  refine x_aald 85 C (b := w + 2 + 2) (j := 2) dX7_fill_85 (by decide) hW.2.1 ⟨by decide, by decide, by decide⟩ rfl ?_
  refine x_lload_n 86 C dX7_fill_86 rfl 3 rfl ?_
  refine x_callVe 87 C dX7_fill_87 (As := [.ref a, .ref (w + 2 + 2), .long u]) (rest := []) [] (t_X0_putProduct_c l D z n G I L12 (w + 2 + 6) a (w + 2 + 2) u (hW.2.2 6 (by decide)) ga (hW.2.2 2 (by decide)) (by omega) (by first | assumption | omega)) mt_X0_putProduct km_X7_26 ki_X0_putProduct ks_X0_putProduct (hW.2.2 6 (by decide)) ⟨by decide, rfl⟩ rfl rfl (Nat.le_of_ble_eq_true rfl) ⟨⟨by decide, by decide⟩, by decide, by decide⟩ (fun I13 L14 eI13 eL14 => ?_)
  replace eI13 := eI13.symm; subst eI13
  refine x_aload_n 90 C dX7_fill_90 rfl 0 rfl ?_
  refine x_getr 91 C (b := w + 1) dX7_fill_91 ff_X7_11 rfl hW.1 rfl ?_
  refine x_bipush 94 C (v := 7) dX7_fill_94 rfl ?_
  refine x_aald 96 C (b := w + 2 + 7) (j := 7) dX7_fill_96 (by decide) hW.2.1 ⟨by decide, by decide, by decide⟩ rfl ?_
  refine x_aload_n 97 C dX7_fill_97 rfl 1 rfl ?_
  refine x_aload_n 98 C dX7_fill_98 rfl 1 rfl ?_
  refine x_lload_n 99 C dX7_fill_99 rfl 3 rfl ?_
  refine x_callVe 100 C dX7_fill_100 (As := [.ref a, .ref a, .long u]) (rest := []) [] (t_X0_putProduct_c l D z n G I L14 (w + 2 + 7) a a u (hW.2.2 7 (by decide)) ga ga (by omega) (by first | assumption | omega)) mt_X0_putProduct km_X7_26 ki_X0_putProduct ks_X0_putProduct (hW.2.2 7 (by decide)) ⟨by decide, rfl⟩ rfl rfl (Nat.le_of_ble_eq_true rfl) ⟨⟨by decide, by decide⟩, by decide, by decide⟩ (fun I15 L16 eI15 eL16 => ?_)
  replace eI15 := eI15.symm; subst eI15
  refine x_aload_n 103 C dX7_fill_103 rfl 0 rfl ?_
  refine x_getr 104 C (b := w + 1) dX7_fill_104 ff_X7_11 rfl hW.1 rfl ?_
  refine x_bipush 107 C (v := 8) dX7_fill_107 rfl ?_
  refine x_aald 109 C (b := w + 2 + 8) (j := 8) dX7_fill_109 (by decide) hW.2.1 ⟨by decide, by decide, by decide⟩ rfl ?_
  refine x_aload_n 110 C dX7_fill_110 rfl 0 rfl ?_
  refine x_getr 111 C (b := w + 1) dX7_fill_111 ff_X7_11 rfl hW.1 rfl ?_
  refine x_bipush 114 C (v := 7) dX7_fill_114 rfl ?_
  refine x_aald 116 C (b := w + 2 + 7) (j := 7) dX7_fill_116 (by decide) hW.2.1 ⟨by decide, by decide, by decide⟩ rfl ?_
  refine x_aload_n 117 C dX7_fill_117 rfl 2 rfl ?_
  refine x_lload_n 118 C dX7_fill_118 rfl 3 rfl ?_
  refine x_callVe 119 C dX7_fill_119 (As := [.ref (w + 2 + 7), .ref b, .long u]) (rest := []) [] (t_X0_putProduct_c l D z n G I L16 (w + 2 + 8) (w + 2 + 7) b u (hW.2.2 8 (by decide)) (hW.2.2 7 (by decide)) gb (by omega) (by first | assumption | omega)) mt_X0_putProduct km_X7_26 ki_X0_putProduct ks_X0_putProduct (hW.2.2 8 (by decide)) ⟨by decide, rfl⟩ rfl rfl (Nat.le_of_ble_eq_true rfl) ⟨⟨by decide, by decide⟩, by decide, by decide⟩ (fun I17 L18 eI17 eL18 => ?_)
  replace eI17 := eI17.symm; subst eI17
  refine x_aload_n 122 C dX7_fill_122 rfl 0 rfl ?_
  refine x_getr 123 C (b := w + 1) dX7_fill_123 ff_X7_11 rfl hW.1 rfl ?_
  refine x_bipush 126 C (v := 9) dX7_fill_126 rfl ?_
  refine x_aald 128 C (b := w + 2 + 9) (j := 9) dX7_fill_128 (by decide) hW.2.1 ⟨by decide, by decide, by decide⟩ rfl ?_
  refine x_aload_n 129 C dX7_fill_129 rfl 0 rfl ?_
  refine x_getr 130 C (b := w + 1) dX7_fill_130 ff_X7_11 rfl hW.1 rfl ?_
  refine x_bipush 133 C (v := 7) dX7_fill_133 rfl ?_
  refine x_aald 135 C (b := w + 2 + 7) (j := 7) dX7_fill_135 (by decide) hW.2.1 ⟨by decide, by decide, by decide⟩ rfl ?_
  refine x_aload_n 136 C dX7_fill_136 rfl 1 rfl ?_
  refine x_lload_n 137 C dX7_fill_137 rfl 3 rfl ?_
  refine x_callVe 138 C dX7_fill_138 (As := [.ref (w + 2 + 7), .ref a, .long u]) (rest := []) [] (t_X0_putProduct_c l D z n G I L18 (w + 2 + 9) (w + 2 + 7) a u (hW.2.2 9 (by decide)) (hW.2.2 7 (by decide)) ga (by omega) (by first | assumption | omega)) mt_X0_putProduct km_X7_26 ki_X0_putProduct ks_X0_putProduct (hW.2.2 9 (by decide)) ⟨by decide, rfl⟩ rfl rfl (Nat.le_of_ble_eq_true rfl) ⟨⟨by decide, by decide⟩, by decide, by decide⟩ (fun I19 L20 eI19 eL20 => ?_)
  replace eI19 := eI19.symm; subst eI19
  refine x_vret 141 C dX7_fill_141 rfl (Nat.le_refl _) (xN.intro ?_)
  subst eL2; subst eL4; subst eL6; subst eL8; subst eL10; subst eL12; subst eL14; subst eL16; subst eL18; subst eL20
  have a0 : a ≠ w + 2 + 0 := by omega
  have a1 : a ≠ w + 2 + 1 := by omega
  have a2 : a ≠ w + 2 + 2 := by omega
  have a3 : a ≠ w + 2 + 3 := by omega
  have a4 : a ≠ w + 2 + 4 := by omega
  have a5 : a ≠ w + 2 + 5 := by omega
  have a6 : a ≠ w + 2 + 6 := by omega
  have a7 : a ≠ w + 2 + 7 := by omega
  have a8 : a ≠ w + 2 + 8 := by omega
  have a9 : a ≠ w + 2 + 9 := by omega
  have b0 : b ≠ w + 2 + 0 := by omega
  have b1 : b ≠ w + 2 + 1 := by omega
  have b2 : b ≠ w + 2 + 2 := by omega
  have b3 : b ≠ w + 2 + 3 := by omega
  have b4 : b ≠ w + 2 + 4 := by omega
  have b5 : b ≠ w + 2 + 5 := by omega
  have b6 : b ≠ w + 2 + 6 := by omega
  have b7 : b ≠ w + 2 + 7 := by omega
  have b8 : b ≠ w + 2 + 8 := by omega
  have b9 : b ≠ w + 2 + 9 := by omega
  refine ⟨rfl, rfl, fun k hk => ?_, fun q hq => ?_⟩
  · rcases (show k = 0 ∨ k = 1 ∨ k = 2 ∨ k = 3 ∨ k = 4 ∨ k = 5 ∨ k = 6 ∨ k = 7 ∨ k = 8 ∨ k = 9 by omega) with rfl | rfl | rfl | rfl | rfl | rfl | rfl | rfl | rfl | rfl <;> simp [powC, rd_cw, rd_cw_ne, a0, a1, a2, a3, a4, a5, a6, a7, a8, a9, b0, b1, b2, b3, b4, b5, b6, b7, b8, b9]
  · repeat rw [cw_ne _ _ (by omega)]
theorem dX8_cross_0 : decode cX8_cross 0 = .ok (.aload_n 1, 1) := by decide +kernel
theorem dX8_cross_1 : decode cX8_cross 1 = .ok (.aload_n 2, 1) := by decide +kernel
theorem dX8_cross_2 : decode cX8_cross 2 = .ok (.aload_n 3, 1) := by decide +kernel
theorem dX8_cross_3 : decode cX8_cross 3 = .ok (.lload 6, 2) := by decide +kernel
theorem dX8_cross_5 : decode cX8_cross 5 = .ok (.invokevirtual 31, 3) := by decide +kernel
theorem dX8_cross_8 : decode cX8_cross 8 = .ok (.aload_n 0, 1) := by decide +kernel
theorem dX8_cross_9 : decode cX8_cross 9 = .ok (.getfield 28, 3) := by decide +kernel
theorem dX8_cross_12 : decode cX8_cross 12 = .ok (.aload 4, 2) := by decide +kernel
theorem dX8_cross_14 : decode cX8_cross 14 = .ok (.aload 5, 2) := by decide +kernel
theorem dX8_cross_16 : decode cX8_cross 16 = .ok (.lload 6, 2) := by decide +kernel
theorem dX8_cross_18 : decode cX8_cross 18 = .ok (.invokevirtual 31, 3) := by decide +kernel
theorem dX8_cross_21 : decode cX8_cross 21 = .ok (.aload_n 1, 1) := by decide +kernel
theorem dX8_cross_22 : decode cX8_cross 22 = .ok (.aload_n 1, 1) := by decide +kernel
theorem dX8_cross_23 : decode cX8_cross 23 = .ok (.aload_n 0, 1) := by decide +kernel
theorem dX8_cross_24 : decode cX8_cross 24 = .ok (.getfield 28, 3) := by decide +kernel
theorem dX8_cross_27 : decode cX8_cross 27 = .ok (.invokevirtual 35, 3) := by decide +kernel
theorem dX8_cross_30 : decode cX8_cross 30 = .ok (.return_, 1) := by decide +kernel
set_option maxHeartbeats 4000000 in
set_option maxRecDepth 100000 in
theorem t_X8_cross (l : Launch) (D : xD) (z n : Nat) (G : xG) (I : xI) (L : xL) (s0 : Nat) (t : Nat) (a : Nat) (d : Nat) (b : Nat) (e0 : Nat) (u : Int64) (hO : shO G s0) (gt : G t = some (0, 0, rN)) (ga : G a = some (0, 0, rN)) (gd : G d = some (0, 0, rN)) (gb : G b = some (0, 0, rN)) (ge0 : G e0 = some (0, 0, rN)) (zs : z ≤ s0) (zt : z ≤ t) (hts : t ≠ s0 + 1 + 5) (hbt : b ≠ t) (het : e0 ≠ t) (hu : ¬ u = 0) : xM0 l D z yX8_cross cX8_cross 8 none 2 48 [.ref s0, .ref t, .ref a, .ref d, .ref b, .ref e0, .long u] n G I L (xE none I (cw (cw L (s0 + 1 + 5) (mulC u (rd L b) (rd L e0))) t (detC u (rd L a) (rd L d) (rd L b) (rd L e0)))) := by
  refine xM.of (by decide) (Nat.le_of_ble_eq_true rfl) (fun p e s m args below meth c C hnm hsz => ?_)
  refine x_lv [(0, .ref s0), (1, .ref t), (2, .ref a), (3, .ref d), (4, .ref b), (5, .ref e0), (6, .long u)] rfl ?_
  refine x_aload_n 0 C dX8_cross_0 rfl 1 rfl ?_
  refine x_aload_n 1 C dX8_cross_1 rfl 2 rfl ?_
  refine x_aload_n 2 C dX8_cross_2 rfl 3 rfl ?_
  refine x_lload 3 C dX8_cross_3 6 rfl ?_
  refine x_callVe 5 C dX8_cross_5 (As := [.ref a, .ref d, .long u]) (rest := []) [] (t_X0_putProduct_c l D z n G I L t a d u gt ga gd (by omega) (by first | assumption | omega)) mt_X0_putProduct km_X8_31 ki_X0_putProduct ks_X0_putProduct gt ⟨by decide, rfl⟩ rfl rfl (Nat.le_of_ble_eq_true rfl) ⟨⟨by decide, by decide⟩, by decide, by decide⟩ (fun I1 L2 eI1 eL2 => ?_)
  replace eI1 := eI1.symm; subst eI1
  refine x_aload_n 8 C dX8_cross_8 rfl 0 rfl ?_
  refine x_getr 9 C (b := s0 + 1 + 5) dX8_cross_9 ff_X8_28 rfl hO.1 rfl ?_
  refine x_aload 12 C dX8_cross_12 4 rfl ?_
  refine x_aload 14 C dX8_cross_14 5 rfl ?_
  refine x_lload 16 C dX8_cross_16 6 rfl ?_
  refine x_callVe 18 C dX8_cross_18 (As := [.ref b, .ref e0, .long u]) (rest := []) [] (t_X0_putProduct_c l D z n G I L2 (s0 + 1 + 5) b e0 u (hO.2 5 (by decide)) gb ge0 (by omega) (by first | assumption | omega)) mt_X0_putProduct km_X8_31 ki_X0_putProduct ks_X0_putProduct (hO.2 5 (by decide)) ⟨by decide, rfl⟩ rfl rfl (Nat.le_of_ble_eq_true rfl) ⟨⟨by decide, by decide⟩, by decide, by decide⟩ (fun I3 L4 eI3 eL4 => ?_)
  replace eI3 := eI3.symm; subst eI3
  refine x_aload_n 21 C dX8_cross_21 rfl 1 rfl ?_
  refine x_aload_n 22 C dX8_cross_22 rfl 1 rfl ?_
  refine x_aload_n 23 C dX8_cross_23 rfl 0 rfl ?_
  refine x_getr 24 C (b := s0 + 1 + 5) dX8_cross_24 ff_X8_28 rfl hO.1 rfl ?_
  refine x_callVe 27 C dX8_cross_27 (As := [.ref t, .ref (s0 + 1 + 5)]) (rest := []) [] (t_X0_putDifference_c l D z n G I L4 t t (s0 + 1 + 5) gt gt (hO.2 5 (by decide)) (by omega)) mt_X0_putDifference km_X8_35 ki_X0_putDifference ks_X0_putDifference gt ⟨by decide, rfl⟩ rfl rfl (Nat.le_of_ble_eq_true rfl) ⟨⟨by decide, by decide⟩, by decide, by decide⟩ (fun I5 L6 eI5 eL6 => ?_)
  replace eI5 := eI5.symm; subst eI5
  refine x_vret 30 C dX8_cross_30 rfl (Nat.le_refl _) (xN.intro ?_)
  subst eL2; subst eL4; subst eL6
  refine ⟨rfl, rfl, ?_⟩
  rw [rd_cw_ne _ _ hbt, rd_cw_ne _ _ het, rd_cw_ne _ _ hts, rd_cw, rd_cw, cw_comm _ _ _ hts, cw_cw]
  rfl
