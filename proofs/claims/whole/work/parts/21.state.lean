/-! PathTracker$State: copying, and the beginnings of paths -/
def rowFill (I : xI) (r k : Nat) (f : Nat → Int32) : xI := fun a j => if a = r ∧ j < k then f j else I a j
theorem rowFill_0 (I : xI) (r : Nat) (f : Nat → Int32) : rowFill I r 0 f = I := by funext a j; simp [rowFill]
theorem rowFill_succ (I : xI) (r k : Nat) (f : Nat → Int32) : xup (rowFill I r k f) r k (f k) = rowFill I r (k + 1) f := by
  funext a j
  have e : (j < k + 1) ↔ (j < k ∨ j = k) := by omega
  simp only [rowFill, xup, e]
  by_cases h1 : a = r <;> by_cases h3 : j = k <;> by_cases h4 : j < k <;> simp_all
theorem rowFill_at (I : xI) (r : Nat) (f : Nat → Int32) {j k : Nat} (h : j < k) : rowFill I r k f r j = f j := by simp [rowFill, h]
theorem rowFill_ne (I : xI) (r k : Nat) (f : Nat → Int32) {a : Nat} (h : a ≠ r) : rowFill I r k f a = I a := by funext j; simp [rowFill, h]
theorem pCopyI_row (I : xI) (a b : Nat) {j : Nat} (h1 : 2 ≤ j) (h2 : j ≤ 9) : pCopyI I a b a j = I b j := by
  rcases (show j = 2 ∨ j = 3 ∨ j = 4 ∨ j = 5 ∨ j = 6 ∨ j = 7 ∨ j = 8 ∨ j = 9 by omega) with rfl | rfl | rfl | rfl | rfl | rfl | rfl | rfl <;> simp [pCopyI, xup]
theorem pCopyI_ne (I : xI) {a q : Nat} (b : Nat) (h : q ≠ a) : pCopyI I a b q = I q := by
  simp only [pCopyI, xup_row _ _ h]
def bRow (s g : Int32) (j : Nat) : Int32 := if j = 4 then imin s g else if j = 5 then g else if j = 6 then 10 else 0
theorem pBegin_row (I : xI) (a : Nat) (s g : Int32) {j : Nat} (h1 : 2 ≤ j) (h2 : j ≤ 9) : pBegin I a s g a j = bRow s g j := by
  rcases (show j = 2 ∨ j = 3 ∨ j = 4 ∨ j = 5 ∨ j = 6 ∨ j = 7 ∨ j = 8 ∨ j = 9 by omega) with rfl | rfl | rfl | rfl | rfl | rfl | rfl | rfl <;> simp [pBegin, xup, bRow]
theorem pBegin_ne (I : xI) {a q : Nat} (s g : Int32) (h : q ≠ a) : pBegin I a s g q = I q := by
  simp only [pBegin, xup_row _ _ h]
/-- the state at S in (I', L') is the one at O in (I, L) -/
def stEq (I : xI) (L : xL) (O : Nat) (I' : xI) (L' : xL) (S : Nat) : Prop :=
  (∀ b, b < 2 → ∀ j, j < 10 → I' (S + 1 + 4 * b + 1) j = I (O + 1 + 4 * b + 1) j ∧ I' (S + 1 + 4 * b + 2) j = I (O + 1 + 4 * b + 2) j) ∧ (∀ j, j < 8 → I' (S + 9) j = I (O + 9) j) ∧ I' S 4 = I O 4 ∧
  ∀ k, k < 9 → (∀ j, 2 ≤ j → j ≤ 9 → I' (S + 11 + 3 * k) j = I (O + 11 + 3 * k) j) ∧ rd L' (S + 11 + 3 * k + 1) = rd L (O + 11 + 3 * k + 1) ∧ rd L' (S + 11 + 3 * k + 2) = rd L (O + 11 + 3 * k + 2)
theorem nI_div {a b : Nat} (ha : a < 2147483648) (hb : b < 2147483648) : nI a / nI b = nI (a / b) := by
  apply Int32.toInt_inj.mp
  have h1 : a / b ≤ a := Nat.div_le_self a b
  have h2 : ((a / b : Nat) : Int) = (a : Int) / (b : Int) := Int.natCast_ediv a b
  have h5 : (0 : Int) ≤ (a : Int) / (b : Int) := Int.ediv_nonneg (by omega) (by omega)
  rw [Int32.toInt_div, nI_toInt (by omega), nI_toInt (by omega), nI_toInt (by omega), Int.tdiv_eq_ediv_of_nonneg (by omega), ← h2, Int.bmod_eq_of_le (by omega) (by omega)]
theorem nI_mod {a b : Nat} (ha : a < 2147483648) (hb : b < 2147483648) : nI a - nI a / nI b * nI b = nI (a % b) := by
  have h0 : a / b * b ≤ a := Nat.div_mul_le_self a b
  have h1 : a % b = a - a / b * b := by
    have h3 := Nat.mod_add_div a b
    have h4 : b * (a / b) = a / b * b := Nat.mul_comm _ _
    omega
  rw [nI_div ha hb, nI_mul, nI_sub h0, h1]
def begun (I' : xI) (L' : xL) (S dx dy : Nat) (s g : Int32) (K : Nat) : Prop :=
  ∀ k, k < K → (∀ j, 2 ≤ j → j ≤ 9 → I' (S + 11 + 3 * k) j = bRow s g j) ∧ rd L' (S + 11 + 3 * k + 1) = hC (rootC (nI dx) (nI (k / dy)) 1024) ∧ rd L' (S + 11 + 3 * k + 2) = hC (rootC (nI dy) (nI (k % dy)) 1024)
theorem t_X6_copy_c (l : Launch) (D : xD) (z n : Nat) (G : xG) (I : xI) (L : xL) (a : Nat) (b : Nat) (hP : shP G a) (hPb : shP G b) (za : z ≤ a) (hab : b + 2 ≠ a + 1) : xM0 l D z yX6_copy cX6_copy 2 none 1 21 [.ref a, .ref b] n G I L (xE none (pCopyI I a b) (cw (cw L (a + 1) (rd L (b + 1))) (a + 2) (rd L (b + 2)))) := by
  exact t_X6_copy l D z n G I L a b hP hPb za hab
theorem t_X6_putOnRoots_c (l : Launch) (D : xD) (z n : Nat) (G : xG) (I : xI) (L : xL) (a : Nat) (d1 : Int32) (n1 : Int32) (d2 : Int32) (n2 : Int32) (hP : shP G a) (za : z ≤ a) : xM0 l D z yX6_putOnRoots cX6_putOnRoots 5 none 2 50 [.ref a, .int d1, .int n1, .int d2, .int n2] n G I L (xE none I (cw (cw L (a + 1) (hC (rootC d1 n1 (punit (I a 6))))) (a + 2) (hC (rootC d2 n2 (punit (I a 6)))))) := by
  exact t_X6_putOnRoots l D z n G I L a d1 n1 d2 n2 hP za
theorem dX9_copy_0 : decode cX9_copy 0 = .ok (.aload_n 0, 1) := by decide +kernel
theorem dX9_copy_1 : decode cX9_copy 1 = .ok (.getfield 10, 3) := by decide +kernel
theorem dX9_copy_4 : decode cX9_copy 4 = .ok (.aload_n 1, 1) := by decide +kernel
theorem dX9_copy_5 : decode cX9_copy 5 = .ok (.getfield 10, 3) := by decide +kernel
theorem dX9_copy_8 : decode cX9_copy 8 = .ok (.invokevirtual 43, 3) := by decide +kernel
theorem dX9_copy_11 : decode cX9_copy 11 = .ok (.aload_n 0, 1) := by decide +kernel
theorem dX9_copy_12 : decode cX9_copy 12 = .ok (.getfield 16, 3) := by decide +kernel
theorem dX9_copy_15 : decode cX9_copy 15 = .ok (.aload_n 1, 1) := by decide +kernel
theorem dX9_copy_16 : decode cX9_copy 16 = .ok (.getfield 16, 3) := by decide +kernel
theorem dX9_copy_19 : decode cX9_copy 19 = .ok (.invokevirtual 43, 3) := by decide +kernel
theorem dX9_copy_22 : decode cX9_copy 22 = .ok (.iconst 0, 1) := by decide +kernel
theorem dX9_copy_23 : decode cX9_copy 23 = .ok (.istore_n 2, 1) := by decide +kernel
theorem dX9_copy_24 : decode cX9_copy 24 = .ok (.iload_n 2, 1) := by decide +kernel
theorem dX9_copy_25 : decode cX9_copy 25 = .ok (.bipush 8, 2) := by decide +kernel
theorem dX9_copy_27 : decode cX9_copy 27 = .ok (.if_icmp .ge 21, 3) := by decide +kernel
theorem dX9_copy_30 : decode cX9_copy 30 = .ok (.aload_n 0, 1) := by decide +kernel
theorem dX9_copy_31 : decode cX9_copy 31 = .ok (.getfield 19, 3) := by decide +kernel
theorem dX9_copy_34 : decode cX9_copy 34 = .ok (.iload_n 2, 1) := by decide +kernel
theorem dX9_copy_35 : decode cX9_copy 35 = .ok (.aload_n 1, 1) := by decide +kernel
theorem dX9_copy_36 : decode cX9_copy 36 = .ok (.getfield 19, 3) := by decide +kernel
theorem dX9_copy_39 : decode cX9_copy 39 = .ok (.iload_n 2, 1) := by decide +kernel
theorem dX9_copy_40 : decode cX9_copy 40 = .ok (.iaload, 1) := by decide +kernel
theorem dX9_copy_41 : decode cX9_copy 41 = .ok (.iastore, 1) := by decide +kernel
theorem dX9_copy_42 : decode cX9_copy 42 = .ok (.iinc 2 1, 3) := by decide +kernel
theorem dX9_copy_45 : decode cX9_copy 45 = .ok (.goto (-21), 3) := by decide +kernel
theorem dX9_copy_48 : decode cX9_copy 48 = .ok (.aload_n 0, 1) := by decide +kernel
theorem dX9_copy_49 : decode cX9_copy 49 = .ok (.aload_n 1, 1) := by decide +kernel
theorem dX9_copy_50 : decode cX9_copy 50 = .ok (.getfield 47, 3) := by decide +kernel
theorem dX9_copy_53 : decode cX9_copy 53 = .ok (.putfield 47, 3) := by decide +kernel
theorem dX9_copy_56 : decode cX9_copy 56 = .ok (.iconst 0, 1) := by decide +kernel
theorem dX9_copy_57 : decode cX9_copy 57 = .ok (.istore_n 2, 1) := by decide +kernel
theorem dX9_copy_58 : decode cX9_copy 58 = .ok (.iload_n 2, 1) := by decide +kernel
theorem dX9_copy_59 : decode cX9_copy 59 = .ok (.bipush 9, 2) := by decide +kernel
theorem dX9_copy_61 : decode cX9_copy 61 = .ok (.if_icmp .ge 24, 3) := by decide +kernel
theorem dX9_copy_64 : decode cX9_copy 64 = .ok (.aload_n 0, 1) := by decide +kernel
theorem dX9_copy_65 : decode cX9_copy 65 = .ok (.getfield 25, 3) := by decide +kernel
theorem dX9_copy_68 : decode cX9_copy 68 = .ok (.iload_n 2, 1) := by decide +kernel
theorem dX9_copy_69 : decode cX9_copy 69 = .ok (.aaload, 1) := by decide +kernel
theorem dX9_copy_70 : decode cX9_copy 70 = .ok (.aload_n 1, 1) := by decide +kernel
theorem dX9_copy_71 : decode cX9_copy 71 = .ok (.getfield 25, 3) := by decide +kernel
theorem dX9_copy_74 : decode cX9_copy 74 = .ok (.iload_n 2, 1) := by decide +kernel
theorem dX9_copy_75 : decode cX9_copy 75 = .ok (.aaload, 1) := by decide +kernel
theorem dX9_copy_76 : decode cX9_copy 76 = .ok (.invokevirtual 51, 3) := by decide +kernel
theorem dX9_copy_79 : decode cX9_copy 79 = .ok (.iinc 2 1, 3) := by decide +kernel
theorem dX9_copy_82 : decode cX9_copy 82 = .ok (.goto (-24), 3) := by decide +kernel
theorem dX9_copy_85 : decode cX9_copy 85 = .ok (.return_, 1) := by decide +kernel
set_option maxHeartbeats 1000000 in
set_option maxRecDepth 100000 in
theorem t_X9_copy (l : Launch) (D : xD) (z n : Nat) (G : xG) (I : xI) (L : xL) (S : Nat) (O : Nat) (hS : shS G S) (hO : shS G O) (zS : z ≤ S) (dSO : S + 38 ≤ O ∨ O + 38 ≤ S) : xM0 l D z yX9_copy cX9_copy 3 none 2 42 [.ref S, .ref O] n G I L (fun v' I' L' => v' = none ∧ (stEq I L O I' L' S) ∧ (∀ a, (a < S ∨ S + 38 ≤ a) → I' a = I a) ∧ (∀ a, (a < S ∨ S + 38 ≤ a) → L' a = L a)) := by
  refine xM.of (by decide) (Nat.le_of_ble_eq_true rfl) (fun p e s m args below meth c C hnm hsz => ?_)
  refine x_lv [(0, .ref S), (1, .ref O)] rfl ?_
  refine x_aload_n 0 C dX9_copy_0 rfl 0 rfl ?_
  refine x_getr 1 C (b := S + 1 + 4 * 0) dX9_copy_1 ff_X9_10 rfl hS.1 rfl ?_
  refine x_aload_n 4 C dX9_copy_4 rfl 1 rfl ?_
  refine x_getr 5 C (b := O + 1 + 4 * 0) dX9_copy_5 ff_X9_10 rfl hO.1 rfl ?_
  refine x_callVe 8 C dX9_copy_8 (As := [.ref (O + 1 + 4 * 0)]) (rest := []) [] (t_X1_copy l D z n G I L (S + 1 + 4 * 0) (O + 1 + 4 * 0) (hS.2.1 0 (by decide)) (hO.2.1 0 (by decide)) (by omega) (by first | omega | assumption | decide)) mt_X1_copy km_X9_43 ki_X1_copy ks_X1_copy (hS.2.1 0 (by decide)).1 ⟨by decide, rfl⟩ rfl rfl (Nat.le_of_ble_eq_true rfl) ⟨⟨by decide, by decide⟩, by decide, by decide⟩ (fun I1 L2 eI1 eL2 => ?_)
  have q3 : ∀ j, j < 10 → I1 (S + 1 + 4 * 0 + 1) j = (I (O + 1 + 4 * 0 + 1)) j := fun j hj => by rw [eI1, eqFill_re _ _ _ _ hj]
  have q4 : ∀ j, j < 10 → I1 (S + 1 + 4 * 0 + 2) j = (I (O + 1 + 4 * 0 + 2)) j := fun j hj => by rw [eI1, eqFill_im _ _ _ _ hj]
  have q5 : ∀ j, j < 10 → I1 (S + 1 + 4 * 1 + 1) j = (I (S + 1 + 4 * 1 + 1)) j := fun j hj => by rw [eI1, eqFill_ne _ _ _ _ _ (by omega) (by omega)]
  have q6 : ∀ j, j < 10 → I1 (S + 1 + 4 * 1 + 2) j = (I (S + 1 + 4 * 1 + 2)) j := fun j hj => by rw [eI1, eqFill_ne _ _ _ _ _ (by omega) (by omega)]
  have q7 : ∀ j, j < 10 → I1 (O + 1 + 4 * 0 + 1) j = (I (O + 1 + 4 * 0 + 1)) j := fun j hj => by rw [eI1, eqFill_ne _ _ _ _ _ (by omega) (by omega)]
  have q8 : ∀ j, j < 10 → I1 (O + 1 + 4 * 0 + 2) j = (I (O + 1 + 4 * 0 + 2)) j := fun j hj => by rw [eI1, eqFill_ne _ _ _ _ _ (by omega) (by omega)]
  have q9 : ∀ j, j < 10 → I1 (O + 1 + 4 * 1 + 1) j = (I (O + 1 + 4 * 1 + 1)) j := fun j hj => by rw [eI1, eqFill_ne _ _ _ _ _ (by omega) (by omega)]
  have q10 : ∀ j, j < 10 → I1 (O + 1 + 4 * 1 + 2) j = (I (O + 1 + 4 * 1 + 2)) j := fun j hj => by rw [eI1, eqFill_ne _ _ _ _ _ (by omega) (by omega)]
  replace eL2 := eL2.symm; subst eL2
  refine x_aload_n 11 C dX9_copy_11 rfl 0 rfl ?_
  refine x_getr 12 C (b := S + 1 + 4 * 1) dX9_copy_12 ff_X9_16 rfl hS.1 rfl ?_
  refine x_aload_n 15 C dX9_copy_15 rfl 1 rfl ?_
  refine x_getr 16 C (b := O + 1 + 4 * 1) dX9_copy_16 ff_X9_16 rfl hO.1 rfl ?_
  refine x_callVe 19 C dX9_copy_19 (As := [.ref (O + 1 + 4 * 1)]) (rest := []) [] (t_X1_copy l D z n G I1 L (S + 1 + 4 * 1) (O + 1 + 4 * 1) (hS.2.1 1 (by decide)) (hO.2.1 1 (by decide)) (by omega) (by first | omega | assumption | decide)) mt_X1_copy km_X9_43 ki_X1_copy ks_X1_copy (hS.2.1 1 (by decide)).1 ⟨by decide, rfl⟩ rfl rfl (Nat.le_of_ble_eq_true rfl) ⟨⟨by decide, by decide⟩, by decide, by decide⟩ (fun I11 L12 eI11 eL12 => ?_)
  have q13 : ∀ j, j < 10 → I11 (S + 1 + 4 * 0 + 1) j = (I (O + 1 + 4 * 0 + 1)) j := fun j hj => by rw [eI11, eqFill_ne _ _ _ _ _ (by omega) (by omega)]; exact q3 j hj
  have q14 : ∀ j, j < 10 → I11 (S + 1 + 4 * 0 + 2) j = (I (O + 1 + 4 * 0 + 2)) j := fun j hj => by rw [eI11, eqFill_ne _ _ _ _ _ (by omega) (by omega)]; exact q4 j hj
  have q15 : ∀ j, j < 10 → I11 (S + 1 + 4 * 1 + 1) j = (I (O + 1 + 4 * 1 + 1)) j := fun j hj => by rw [eI11, eqFill_re _ _ _ _ hj]; exact q9 j hj
  have q16 : ∀ j, j < 10 → I11 (S + 1 + 4 * 1 + 2) j = (I (O + 1 + 4 * 1 + 2)) j := fun j hj => by rw [eI11, eqFill_im _ _ _ _ hj]; exact q10 j hj
  have q17 : ∀ j, j < 10 → I11 (O + 1 + 4 * 0 + 1) j = (I (O + 1 + 4 * 0 + 1)) j := fun j hj => by rw [eI11, eqFill_ne _ _ _ _ _ (by omega) (by omega)]; exact q7 j hj
  have q18 : ∀ j, j < 10 → I11 (O + 1 + 4 * 0 + 2) j = (I (O + 1 + 4 * 0 + 2)) j := fun j hj => by rw [eI11, eqFill_ne _ _ _ _ _ (by omega) (by omega)]; exact q8 j hj
  have q19 : ∀ j, j < 10 → I11 (O + 1 + 4 * 1 + 1) j = (I (O + 1 + 4 * 1 + 1)) j := fun j hj => by rw [eI11, eqFill_ne _ _ _ _ _ (by omega) (by omega)]; exact q9 j hj
  have q20 : ∀ j, j < 10 → I11 (O + 1 + 4 * 1 + 2) j = (I (O + 1 + 4 * 1 + 2)) j := fun j hj => by rw [eI11, eqFill_ne _ _ _ _ _ (by omega) (by omega)]; exact q10 j hj
  replace eL12 := eL12.symm; subst eL12
  refine x_iconst 22 C (v := 0) dX9_copy_22 rfl ?_
  refine x_istore_n 23 C [(2, .int 0), (0, .ref S), (1, .ref O)] dX9_copy_23 rfl (by decide) rfl ?_
  have hO24 : ∀ a, (a < S ∨ S + 38 ≤ a) → I11 a = I a := by intro a ha; rw [eI11, eqFill_ne _ _ _ _ _ (by omega) (by omega)]; rw [eI1, eqFill_ne _ _ _ _ _ (by omega) (by omega)]
  have loop24 : ∀ (fuel : Nat) (k : Nat) (Ik : xI), (k ≤ 8) → (9 ≤ k + fuel) → (Ik = rowFill I11 (S + 9) k (I11 (O + 9))) → X p l e (xRm 2 42 0 0) s m args below meth c D z 3 (MQ below (xQc D z n (xN n G (fun v' I' L' => v' = none ∧ (stEq I L O I' L' S) ∧ (∀ a, (a < S ∨ S + 38 ≤ a) → I' a = I a) ∧ (∀ a, (a < S ∨ S + 38 ≤ a) → L' a = L a)))) args s 0 0 (fun a => z ≤ a)) 0 0 n G Ik L 24 [(0, .ref S), (1, .ref O), (2, .int (nI k))] [] := by
    intro fuel
    induction fuel with
    | zero =>
      intro k Ik hk hf hI
      exact absurd hf (by omega)
    | succ fuel ih =>
      intro k Ik hk hf hI
      refine x_iload_n 24 C dX9_copy_24 rfl 2 rfl ?_
      refine x_bipush 25 C (v := 8) dX9_copy_25 rfl ?_
      refine x_icmp_ge 27 C 48 dX9_copy_27 (by decide) (fun c21 => ?_) (fun c21 => ?_)
      · skip
        have c21n : 8 ≤ k := (nI_leI (a := 8) (b := k) (by omega) (by omega)).mp c21
        have c21o := Int32.not_lt.mpr c21
        refine x_aload_n 48 C dX9_copy_48 rfl 0 rfl ?_
        refine x_aload_n 49 C dX9_copy_49 rfl 1 rfl ?_
        refine x_geti 50 C dX9_copy_50 ff_X9_47 hO.1 ?_
        refine x_puti 53 C dX9_copy_53 ff_X9_47 rfl hS.1 (by omega) (fun I22 eI22 => ?_)
        refine x_iconst 56 C (v := 0) dX9_copy_56 rfl ?_
        refine x_istore_n 57 C [(2, .int 0), (0, .ref S), (1, .ref O)] dX9_copy_57 rfl (by decide) rfl ?_
        have hk8 : k = 8 := by omega
        subst hk8
        have hIk24 := hI
        have loop58 : ∀ (fuel : Nat) (k : Nat) (Jk : xI) (Lk : xL), (k ≤ 9) → (10 ≤ k + fuel) → (∀ i, i < k → (∀ j, 2 ≤ j → j ≤ 9 → Jk (S + 11 + 3 * i) j = I22 (O + 11 + 3 * i) j) ∧ rd Lk (S + 11 + 3 * i + 1) = rd L (O + 11 + 3 * i + 1) ∧ rd Lk (S + 11 + 3 * i + 2) = rd L (O + 11 + 3 * i + 2)) → (∀ a, (a < S + 11 ∨ S + 38 ≤ a) → Jk a = I22 a) → (∀ a, (a < S + 11 ∨ S + 38 ≤ a) → Lk a = L a) → X p l e (xRm 2 42 0 0) s m args below meth c D z 3 (MQ below (xQc D z n (xN n G (fun v' I' L' => v' = none ∧ (stEq I L O I' L' S) ∧ (∀ a, (a < S ∨ S + 38 ≤ a) → I' a = I a) ∧ (∀ a, (a < S ∨ S + 38 ≤ a) → L' a = L a)))) args s 0 0 (fun a => z ≤ a)) 0 0 n G Jk Lk 58 [(0, .ref S), (1, .ref O), (2, .int (nI k))] [] := by
          intro fuel
          induction fuel with
          | zero =>
            intro k Jk Lk hk2 hf2 hp2 hI2 hL2
            exact absurd hf (by omega)
          | succ fuel ih =>
            intro k Jk Lk hk2 hf2 hp2 hI2 hL2
            refine x_iload_n 58 C dX9_copy_58 rfl 2 rfl ?_
            refine x_bipush 59 C (v := 9) dX9_copy_59 rfl ?_
            refine x_icmp_ge 61 C 85 dX9_copy_61 (by decide) (fun c23 => ?_) (fun c23 => ?_)
            · skip
              have c23n : 9 ≤ k := (nI_leI (a := 9) (b := k) (by omega) (by omega)).mp c23
              have c23o := Int32.not_lt.mpr c23
              refine x_vret 85 C dX9_copy_85 rfl (Nat.le_refl _) (xN.intro ?_)
              have hk9 : k = 9 := by omega
              subst hk9
              have hrow : ∀ a, a ≠ S → a ≠ S + 9 → I22 a = I11 a := by intro a h1 h2; rw [eI22, xup_row _ _ h1, hIk24, rowFill_ne _ _ _ _ h2]
              refine ⟨rfl, ⟨fun b hb j hj => ?_, fun j hj => ?_, ?_, fun i hi => ?_⟩, fun a ha => ?_, fun a ha => hL2 a (by omega)⟩
              · rcases (show b = 0 ∨ b = 1 by omega) with rfl | rfl
                · rw [hI2 _ (by omega), hI2 _ (by omega), hrow _ (by omega) (by omega), hrow _ (by omega) (by omega)]; exact ⟨q13 j hj, q14 j hj⟩
                · rw [hI2 _ (by omega), hI2 _ (by omega), hrow _ (by omega) (by omega), hrow _ (by omega) (by omega)]; exact ⟨q15 j hj, q16 j hj⟩
              · rw [hI2 _ (by omega), eI22, xup_row _ _ (by omega), hIk24, rowFill_at _ _ _ hj, hO24 _ (by omega)]
              · rw [hI2 _ (by omega), eI22, xup_self, hIk24, rowFill_ne _ _ _ _ (by omega), hO24 _ (by omega)]
              · obtain ⟨g1, g2, g3⟩ := hp2 i hi; exact ⟨fun j j1 j2 => by rw [g1 j j1 j2, hrow _ (by omega) (by omega), hO24 _ (by omega)], g2, g3⟩
              · rw [hI2 _ (by omega), hrow _ (by omega) (by omega), hO24 _ (by omega)]
            · skip
              have c23n : ¬ (9 ≤ k) := fun h => c23 ((nI_leI (a := 9) (b := k) (by omega) (by omega)).mpr h)
              have c23o := Int32.not_le.mp c23
              refine x_aload_n 64 C dX9_copy_64 rfl 0 rfl ?_
              refine x_getr 65 C (b := S + 10) dX9_copy_65 ff_X9_25 rfl hS.1 rfl ?_
              refine x_iload_n 68 C dX9_copy_68 rfl 2 rfl ?_
              refine x_aald 69 C (b := S + 11 + 3 * k) (j := k) dX9_copy_69 (by decide) hS.2.2.2.1 (xIx_nI (by omega) (by decide)) (if_pos (by omega)) ?_
              refine x_aload_n 70 C dX9_copy_70 rfl 1 rfl ?_
              refine x_getr 71 C (b := O + 10) dX9_copy_71 ff_X9_25 rfl hO.1 rfl ?_
              refine x_iload_n 74 C dX9_copy_74 rfl 2 rfl ?_
              refine x_aald 75 C (b := O + 11 + 3 * k) (j := k) dX9_copy_75 (by decide) hO.2.2.2.1 (xIx_nI (by omega) (by decide)) (if_pos (by omega)) ?_
              refine x_callVe 76 C dX9_copy_76 (As := [.ref (O + 11 + 3 * k)]) (rest := []) [] (t_X6_copy_c l D z n G Jk Lk (S + 11 + 3 * k) (O + 11 + 3 * k) (hS.2.2.2.2 k (by omega)) (hO.2.2.2.2 k (by omega)) (by omega) (by first | omega | assumption | decide)) mt_X6_copy km_X9_51 ki_X6_copy ks_X6_copy (hS.2.2.2.2 k (by omega)).1 ⟨by decide, rfl⟩ rfl rfl (Nat.le_of_ble_eq_true rfl) ⟨⟨by decide, by decide⟩, by decide, by decide⟩ (fun I24 L25 eI24 eL25 => ?_)
              have k26 : rd L25 (S + 11 + 3 * k + 1) = (rd Lk (O + 11 + 3 * k + 1)) := by rw [eL25, rd_cw_ne _ _ (by omega), rd_cw]
              have k27 : rd L25 (S + 11 + 3 * k + 2) = (rd Lk (O + 11 + 3 * k + 2)) := by rw [eL25, rd_cw]
              have k28 : rd L25 (O + 11 + 3 * k + 1) = rd Lk (O + 11 + 3 * k + 1) := by rw [eL25, rd_cw_ne _ _ (by omega), rd_cw_ne _ _ (by omega)]
              have k29 : rd L25 (O + 11 + 3 * k + 2) = rd Lk (O + 11 + 3 * k + 2) := by rw [eL25, rd_cw_ne _ _ (by omega), rd_cw_ne _ _ (by omega)]
              refine x_iinc 79 C [(2, .int (nI (k + 1))), (0, .ref S), (1, .ref O)] dX9_copy_79 2 rfl (nI_add k 1) (by decide) rfl ?_
              refine x_goto 82 C 58 dX9_copy_82 (by decide) ?_
              refine x_sub [(0, .ref S), (1, .ref O), (2, .int (nI (k + 1)))] [1, 2, 0] rfl ?_
              refine ih (k + 1) I24 L25 (by omega) (by omega) ?_ ?_ ?_
              · intro i hi
                by_cases hik : i = k
                · subst hik; exact ⟨fun j j1 j2 => by rw [eI24, pCopyI_row _ _ _ j1 j2, hI2 _ (by omega)], by rw [k26]; exact rd_congr (hL2 _ (by omega)), by rw [k27]; exact rd_congr (hL2 _ (by omega))⟩
                · obtain ⟨g1, g2, g3⟩ := hp2 i (by omega); exact ⟨fun j j1 j2 => by rw [eI24, pCopyI_ne _ _ (by omega)]; exact g1 j j1 j2, by rw [eL25, rd_cw_ne _ _ (by omega), rd_cw_ne _ _ (by omega)]; exact g2, by rw [eL25, rd_cw_ne _ _ (by omega), rd_cw_ne _ _ (by omega)]; exact g3⟩
              · intro a ha; rw [eI24, pCopyI_ne _ _ (by omega)]; exact hI2 a ha
              · intro a ha; rw [eL25, cw_ne _ _ (by omega), cw_ne _ _ (by omega)]; exact hL2 a ha
        refine x_sub [(0, .ref S), (1, .ref O), (2, .int 0)] [1, 2, 0] rfl ?_
        exact loop58 10 0 I22 L (by omega) (by omega) (fun i hi => absurd hi (Nat.not_lt_zero i)) (fun _ _ => rfl) (fun _ _ => rfl)
      · skip
        have c21n : ¬ (8 ≤ k) := fun h => c21 ((nI_leI (a := 8) (b := k) (by omega) (by omega)).mpr h)
        have c21o := Int32.not_le.mp c21
        refine x_aload_n 30 C dX9_copy_30 rfl 0 rfl ?_
        refine x_getr 31 C (b := S + 9) dX9_copy_31 ff_X9_19 rfl hS.1 rfl ?_
        refine x_iload_n 34 C dX9_copy_34 rfl 2 rfl ?_
        refine x_aload_n 35 C dX9_copy_35 rfl 1 rfl ?_
        refine x_getr 36 C (b := O + 9) dX9_copy_36 ff_X9_19 rfl hO.1 rfl ?_
        refine x_iload_n 39 C dX9_copy_39 rfl 2 rfl ?_
        refine x_iald 40 C (j := k) dX9_copy_40 hO.2.2.1 (xIx_nI (by omega) (by decide)) ?_
        refine x_iast 41 C (j := k) dX9_copy_41 hS.2.2.1 (by omega) (xIx_nI (by omega) (by decide)) (fun I30 eI30 => ?_)
        refine x_iinc 42 C [(2, .int (nI (k + 1))), (0, .ref S), (1, .ref O)] dX9_copy_42 2 rfl (nI_add k 1) (by decide) rfl ?_
        refine x_goto 45 C 24 dX9_copy_45 (by decide) ?_
        refine x_sub [(0, .ref S), (1, .ref O), (2, .int (nI (k + 1)))] [1, 2, 0] rfl ?_
        exact ih (k + 1) I30 (by omega) (by omega) (by rw [eI30, hI]; rw [show rowFill I11 (S + 9) k (I11 (O + 9)) (O + 9) k = I11 (O + 9) k by rw [rowFill_ne _ _ _ _ (by omega)]]; exact rowFill_succ _ _ _ _)
  refine x_sub [(0, .ref S), (1, .ref O), (2, .int 0)] [1, 2, 0] rfl ?_
  exact loop24 9 0 I11 (by omega) (by omega) (rowFill_0 _ _ _).symm
theorem dX9_beginPath_0 : decode cX9_beginPath 0 = .ok (.aload_n 0, 1) := by decide +kernel
theorem dX9_beginPath_1 : decode cX9_beginPath 1 = .ok (.getfield 10, 3) := by decide +kernel
theorem dX9_beginPath_4 : decode cX9_beginPath 4 = .ok (.invokevirtual 64, 3) := by decide +kernel
theorem dX9_beginPath_7 : decode cX9_beginPath 7 = .ok (.istore_n 3, 1) := by decide +kernel
theorem dX9_beginPath_8 : decode cX9_beginPath 8 = .ok (.aload_n 0, 1) := by decide +kernel
theorem dX9_beginPath_9 : decode cX9_beginPath 9 = .ok (.getfield 16, 3) := by decide +kernel
theorem dX9_beginPath_12 : decode cX9_beginPath 12 = .ok (.invokevirtual 64, 3) := by decide +kernel
theorem dX9_beginPath_15 : decode cX9_beginPath 15 = .ok (.istore 4, 2) := by decide +kernel
theorem dX9_beginPath_17 : decode cX9_beginPath 17 = .ok (.aload_n 0, 1) := by decide +kernel
theorem dX9_beginPath_18 : decode cX9_beginPath 18 = .ok (.iload_n 1, 1) := by decide +kernel
theorem dX9_beginPath_19 : decode cX9_beginPath 19 = .ok (.invokevirtual 78, 3) := by decide +kernel
theorem dX9_beginPath_22 : decode cX9_beginPath 22 = .ok (.ifCond .eq 8, 3) := by decide +kernel
theorem dX9_beginPath_25 : decode cX9_beginPath 25 = .ok (.iload 4, 2) := by decide +kernel
theorem dX9_beginPath_27 : decode cX9_beginPath 27 = .ok (.ifCond .ne 4, 3) := by decide +kernel
theorem dX9_beginPath_30 : decode cX9_beginPath 30 = .ok (.return_, 1) := by decide +kernel
theorem dX9_beginPath_31 : decode cX9_beginPath 31 = .ok (.aload_n 0, 1) := by decide +kernel
theorem dX9_beginPath_32 : decode cX9_beginPath 32 = .ok (.getfield 25, 3) := by decide +kernel
theorem dX9_beginPath_35 : decode cX9_beginPath 35 = .ok (.iload_n 1, 1) := by decide +kernel
theorem dX9_beginPath_36 : decode cX9_beginPath 36 = .ok (.aaload, 1) := by decide +kernel
theorem dX9_beginPath_37 : decode cX9_beginPath 37 = .ok (.aload_n 0, 1) := by decide +kernel
theorem dX9_beginPath_38 : decode cX9_beginPath 38 = .ok (.getfield 19, 3) := by decide +kernel
theorem dX9_beginPath_41 : decode cX9_beginPath 41 = .ok (.iconst 0, 1) := by decide +kernel
theorem dX9_beginPath_42 : decode cX9_beginPath 42 = .ok (.iaload, 1) := by decide +kernel
theorem dX9_beginPath_43 : decode cX9_beginPath 43 = .ok (.iload_n 2, 1) := by decide +kernel
theorem dX9_beginPath_44 : decode cX9_beginPath 44 = .ok (.invokevirtual 82, 3) := by decide +kernel
theorem dX9_beginPath_47 : decode cX9_beginPath 47 = .ok (.aload_n 0, 1) := by decide +kernel
theorem dX9_beginPath_48 : decode cX9_beginPath 48 = .ok (.getfield 25, 3) := by decide +kernel
theorem dX9_beginPath_51 : decode cX9_beginPath 51 = .ok (.iload_n 1, 1) := by decide +kernel
theorem dX9_beginPath_52 : decode cX9_beginPath 52 = .ok (.aaload, 1) := by decide +kernel
theorem dX9_beginPath_53 : decode cX9_beginPath 53 = .ok (.iload_n 3, 1) := by decide +kernel
theorem dX9_beginPath_54 : decode cX9_beginPath 54 = .ok (.iload_n 1, 1) := by decide +kernel
theorem dX9_beginPath_55 : decode cX9_beginPath 55 = .ok (.iload 4, 2) := by decide +kernel
theorem dX9_beginPath_57 : decode cX9_beginPath 57 = .ok (.idiv, 1) := by decide +kernel
theorem dX9_beginPath_58 : decode cX9_beginPath 58 = .ok (.iload 4, 2) := by decide +kernel
theorem dX9_beginPath_60 : decode cX9_beginPath 60 = .ok (.iload_n 1, 1) := by decide +kernel
theorem dX9_beginPath_61 : decode cX9_beginPath 61 = .ok (.iload 4, 2) := by decide +kernel
theorem dX9_beginPath_63 : decode cX9_beginPath 63 = .ok (.irem, 1) := by decide +kernel
theorem dX9_beginPath_64 : decode cX9_beginPath 64 = .ok (.invokevirtual 85, 3) := by decide +kernel
theorem dX9_beginPath_67 : decode cX9_beginPath 67 = .ok (.return_, 1) := by decide +kernel
set_option maxHeartbeats 1000000 in
set_option maxRecDepth 100000 in
theorem t_X9_beginPath (l : Launch) (D : xD) (z n : Nat) (G : xG) (I : xI) (L : xL) (S : Nat) (k : Nat) (g0 : Int32) (U : Nat) (hS : shS G S) (zS : z ≤ S) (hU : I S 4 = nI U) (hU9 : U ≤ 9) (hk : k < U) (hd1 : 1 ≤ sdg I S 1) : xM0 l D z yX9_beginPath cX9_beginPath 5 none 3 74 [.ref S, .int (nI k), .int g0] n G I L (xE none (pBegin I (S + 11 + 3 * k) (I (S + 9) 0) g0) (cw (cw L (S + 11 + 3 * k + 1) (hC (rootC (nI (sdg I S 0)) (nI (k / sdg I S 1)) 1024))) (S + 11 + 3 * k + 2) (hC (rootC (nI (sdg I S 1)) (nI (k % sdg I S 1)) 1024)))) := by
  refine xM.of (by decide) (Nat.le_of_ble_eq_true rfl) (fun p e s m args below meth c C hnm hsz => ?_)
  refine x_lv [(0, .ref S), (1, .int (nI k)), (2, .int g0)] rfl ?_
  have hd1b : sdg I S 1 ≤ 3 := dgN_le _ _ _
  refine x_aload_n 0 C dX9_beginPath_0 rfl 0 rfl ?_
  refine x_getr 1 C (b := S + 1 + 4 * 0) dX9_beginPath_1 ff_X9_10 rfl hS.1 rfl ?_
  refine x_callVe 4 C dX9_beginPath_4 (As := []) (rest := []) [.int (nI (dgN (I ((S + 1 + 4 * 0) + 1)) (I ((S + 1 + 4 * 0) + 2)) 10))] (t_X1_degree l D z n G I L (S + 1 + 4 * 0) (hS.2.1 0 (by decide))) mt_X1_degree km_X9_64 ki_X1_degree ks_X1_degree (hS.2.1 0 (by decide)).1 ⟨by decide, rfl⟩ rfl rfl (Nat.le_of_ble_eq_true rfl) ⟨⟨by decide, by decide⟩, by decide, by decide⟩ (fun I1 L2 eI1 eL2 => ?_)
  replace eI1 := eI1.symm; subst eI1
  replace eL2 := eL2.symm; subst eL2
  refine x_int (nI (sdg I S 0)) rfl ?_
  refine x_istore_n 7 C [(3, .int (nI (sdg I S 0))), (0, .ref S), (1, .int (nI k)), (2, .int g0)] dX9_beginPath_7 rfl (by decide) rfl ?_
  refine x_aload_n 8 C dX9_beginPath_8 rfl 1 rfl ?_
  refine x_getr 9 C (b := S + 1 + 4 * 1) dX9_beginPath_9 ff_X9_16 rfl hS.1 rfl ?_
  refine x_callVe 12 C dX9_beginPath_12 (As := []) (rest := []) [.int (nI (dgN (I ((S + 1 + 4 * 1) + 1)) (I ((S + 1 + 4 * 1) + 2)) 10))] (t_X1_degree l D z n G I L (S + 1 + 4 * 1) (hS.2.1 1 (by decide))) mt_X1_degree km_X9_64 ki_X1_degree ks_X1_degree (hS.2.1 1 (by decide)).1 ⟨by decide, rfl⟩ rfl rfl (Nat.le_of_ble_eq_true rfl) ⟨⟨by decide, by decide⟩, by decide, by decide⟩ (fun I3 L4 eI3 eL4 => ?_)
  replace eI3 := eI3.symm; subst eI3
  replace eL4 := eL4.symm; subst eL4
  refine x_int (nI (sdg I S 1)) rfl ?_
  refine x_istore 15 C [(4, .int (nI (sdg I S 1))), (3, .int (nI (sdg I S 0))), (0, .ref S), (1, .int (nI k)), (2, .int g0)] dX9_beginPath_15 (by decide) rfl ?_
  refine x_aload_n 17 C dX9_beginPath_17 rfl 2 rfl ?_
  refine x_iload_n 18 C dX9_beginPath_18 rfl 3 rfl ?_
  refine x_callVe 19 C dX9_beginPath_19 (As := [.int (nI k)]) (rest := []) [.int 1] (t_X9_hasPath_k l D z n G I L S k U hS (by first | assumption | omega | decide) (by first | omega | assumption | decide) (by first | omega | assumption | decide)) mt_X9_hasPath km_X9_78 ki_X9_hasPath ks_X9_hasPath hS.1 ⟨by decide, rfl⟩ rfl rfl (Nat.le_of_ble_eq_true rfl) ⟨⟨by decide, by decide⟩, by decide, by decide⟩ (fun I5 L6 eI5 eL6 => ?_)
  replace eI5 := eI5.symm; subst eI5
  replace eL6 := eL6.symm; subst eL6
  refine x_if_eq 22 C 30 dX9_beginPath_22 (by decide) (fun c7 => absurd c7 (by decide)) (fun _ => ?_)
  refine x_iload 25 C dX9_beginPath_25 0 rfl ?_
  refine x_if_ne 27 C 31 dX9_beginPath_27 (by decide) (fun _ => ?_) (fun c8 => absurd c8 (fun h => absurd ((nI_eq (a := (sdg I S 1)) (b := 0) (by omega) (by omega)).mp h) (by omega)))
  refine x_aload_n 31 C dX9_beginPath_31 rfl 2 rfl ?_
  refine x_getr 32 C (b := S + 10) dX9_beginPath_32 ff_X9_25 rfl hS.1 rfl ?_
  refine x_iload_n 35 C dX9_beginPath_35 rfl 3 rfl ?_
  refine x_aald 36 C (b := S + 11 + 3 * k) (j := k) dX9_beginPath_36 (by decide) hS.2.2.2.1 (xIx_nI (by omega) (by decide)) (if_pos (by omega)) ?_
  refine x_aload_n 37 C dX9_beginPath_37 rfl 2 rfl ?_
  refine x_getr 38 C (b := S + 9) dX9_beginPath_38 ff_X9_19 rfl hS.1 rfl ?_
  refine x_iconst 41 C (v := 0) dX9_beginPath_41 rfl ?_
  refine x_iald 42 C (j := 0) dX9_beginPath_42 hS.2.2.1 ⟨by decide, by decide, by decide⟩ ?_
  refine x_iload_n 43 C dX9_beginPath_43 rfl 4 rfl ?_
  refine x_callVe 44 C dX9_beginPath_44 (As := [.int (I (S + 9) 0), .int g0]) (rest := []) [] (t_X6_begin l D z n G I L (S + 11 + 3 * k) (I (S + 9) 0) g0 (hS.2.2.2.2 k (by omega)) (by omega)) mt_X6_begin km_X9_82 ki_X6_begin ks_X6_begin (hS.2.2.2.2 k (by omega)).1 ⟨by decide, rfl⟩ rfl rfl (Nat.le_of_ble_eq_true rfl) ⟨⟨by decide, by decide⟩, by decide, by decide⟩ (fun I9 L10 eI9 eL10 => ?_)
  replace eL10 := eL10.symm; subst eL10
  refine x_aload_n 47 C dX9_beginPath_47 rfl 2 rfl ?_
  refine x_getr 48 C (b := S + 10) dX9_beginPath_48 ff_X9_25 rfl hS.1 rfl ?_
  refine x_iload_n 51 C dX9_beginPath_51 rfl 3 rfl ?_
  refine x_aald 52 C (b := S + 11 + 3 * k) (j := k) dX9_beginPath_52 (by decide) hS.2.2.2.1 (xIx_nI (by omega) (by decide)) (if_pos (by omega)) ?_
  refine x_iload_n 53 C dX9_beginPath_53 rfl 1 rfl ?_
  refine x_iload_n 54 C dX9_beginPath_54 rfl 3 rfl ?_
  refine x_iload 55 C dX9_beginPath_55 0 rfl ?_
  refine x_idiv 57 C dX9_beginPath_57 (nI_ne0 (by omega) (by omega)) ?_
  refine x_int (nI (k / sdg I S 1)) (nI_div (by omega) (by omega)) ?_
  refine x_iload 58 C dX9_beginPath_58 0 rfl ?_
  refine x_iload_n 60 C dX9_beginPath_60 rfl 3 rfl ?_
  refine x_iload 61 C dX9_beginPath_61 0 rfl ?_
  refine x_irem 63 C dX9_beginPath_63 (nI_ne0 (by omega) (by omega)) ?_
  refine x_int (nI (k % sdg I S 1)) (nI_mod (by omega) (by omega)) ?_
  refine x_callVe 64 C dX9_beginPath_64 (As := [.int (nI (sdg I S 0)), .int (nI (k / sdg I S 1)), .int (nI (sdg I S 1)), .int (nI (k % sdg I S 1))]) (rest := []) [] (t_X6_putOnRoots_c l D z n G I9 L (S + 11 + 3 * k) (nI (sdg I S 0)) (nI (k / sdg I S 1)) (nI (sdg I S 1)) (nI (k % sdg I S 1)) (hS.2.2.2.2 k (by omega)) (by omega)) mt_X6_putOnRoots km_X9_85 ki_X6_putOnRoots ks_X6_putOnRoots (hS.2.2.2.2 k (by omega)).1 ⟨by decide, rfl⟩ rfl rfl (Nat.le_of_ble_eq_true rfl) ⟨⟨by decide, by decide⟩, by decide, by decide⟩ (fun I11 L12 eI11 eL12 => ?_)
  replace eI11 := eI11.symm; subst eI11
  refine x_vret 67 C dX9_beginPath_67 rfl (Nat.le_refl _) (xN.intro ?_)
  have hu : punit (I9 (S + 11 + 3 * k) 6) = 1024 := by rw [eI9]; rw [pBegin_row _ _ _ _ (by decide) (by decide)]; rfl
  rw [hu] at eL12
  exact ⟨rfl, eI9, eL12⟩
theorem dX9_beginPaths_0 : decode cX9_beginPaths 0 = .ok (.aload_n 0, 1) := by decide +kernel
theorem dX9_beginPaths_1 : decode cX9_beginPaths 1 = .ok (.aload_n 0, 1) := by decide +kernel
theorem dX9_beginPaths_2 : decode cX9_beginPaths 2 = .ok (.getfield 10, 3) := by decide +kernel
theorem dX9_beginPaths_5 : decode cX9_beginPaths 5 = .ok (.invokevirtual 64, 3) := by decide +kernel
theorem dX9_beginPaths_8 : decode cX9_beginPaths 8 = .ok (.aload_n 0, 1) := by decide +kernel
theorem dX9_beginPaths_9 : decode cX9_beginPaths 9 = .ok (.getfield 16, 3) := by decide +kernel
theorem dX9_beginPaths_12 : decode cX9_beginPaths 12 = .ok (.invokevirtual 64, 3) := by decide +kernel
theorem dX9_beginPaths_15 : decode cX9_beginPaths 15 = .ok (.imul, 1) := by decide +kernel
theorem dX9_beginPaths_16 : decode cX9_beginPaths 16 = .ok (.bipush 9, 2) := by decide +kernel
theorem dX9_beginPaths_18 : decode cX9_beginPaths 18 = .ok (.invokestatic 68, 3) := by decide +kernel
theorem dX9_beginPaths_21 : decode cX9_beginPaths 21 = .ok (.putfield 47, 3) := by decide +kernel
theorem dX9_beginPaths_24 : decode cX9_beginPaths 24 = .ok (.iconst 0, 1) := by decide +kernel
theorem dX9_beginPaths_25 : decode cX9_beginPaths 25 = .ok (.istore_n 1, 1) := by decide +kernel
theorem dX9_beginPaths_26 : decode cX9_beginPaths 26 = .ok (.iload_n 1, 1) := by decide +kernel
theorem dX9_beginPaths_27 : decode cX9_beginPaths 27 = .ok (.aload_n 0, 1) := by decide +kernel
theorem dX9_beginPaths_28 : decode cX9_beginPaths 28 = .ok (.getfield 47, 3) := by decide +kernel
theorem dX9_beginPaths_31 : decode cX9_beginPaths 31 = .ok (.if_icmp .ge 20, 3) := by decide +kernel
theorem dX9_beginPaths_34 : decode cX9_beginPaths 34 = .ok (.aload_n 0, 1) := by decide +kernel
theorem dX9_beginPaths_35 : decode cX9_beginPaths 35 = .ok (.iload_n 1, 1) := by decide +kernel
theorem dX9_beginPaths_36 : decode cX9_beginPaths 36 = .ok (.aload_n 0, 1) := by decide +kernel
theorem dX9_beginPaths_37 : decode cX9_beginPaths 37 = .ok (.getfield 19, 3) := by decide +kernel
theorem dX9_beginPaths_40 : decode cX9_beginPaths 40 = .ok (.iconst 1, 1) := by decide +kernel
theorem dX9_beginPaths_41 : decode cX9_beginPaths 41 = .ok (.iaload, 1) := by decide +kernel
theorem dX9_beginPaths_42 : decode cX9_beginPaths 42 = .ok (.invokevirtual 74, 3) := by decide +kernel
theorem dX9_beginPaths_45 : decode cX9_beginPaths 45 = .ok (.iinc 1 1, 3) := by decide +kernel
theorem dX9_beginPaths_48 : decode cX9_beginPaths 48 = .ok (.goto (-22), 3) := by decide +kernel
theorem dX9_beginPaths_51 : decode cX9_beginPaths 51 = .ok (.return_, 1) := by decide +kernel
set_option maxHeartbeats 1000000 in
set_option maxRecDepth 100000 in
theorem t_X9_beginPaths (l : Launch) (D : xD) (z n : Nat) (G : xG) (I : xI) (L : xL) (S : Nat) (hS : shS G S) (zS : z ≤ S) (hd0 : 1 ≤ sdg I S 0) (hd1 : 1 ≤ sdg I S 1) : xM0 l D z yX9_beginPaths cX9_beginPaths 2 none 4 98 [.ref S] n G I L (fun v' I' L' => v' = none ∧ (I' S 4 = nI (sdg I S 0 * sdg I S 1)) ∧ (begun I' L' S (sdg I S 0) (sdg I S 1) (I (S + 9) 0) (I (S + 9) 1) (sdg I S 0 * sdg I S 1)) ∧ (∀ a, a ≠ S → (a < S + 11 ∨ S + 38 ≤ a) → I' a = I a) ∧ (∀ a, (a < S + 11 ∨ S + 38 ≤ a) → L' a = L a)) := by
  refine xM.of (by decide) (Nat.le_of_ble_eq_true rfl) (fun p e s m args below meth c C hnm hsz => ?_)
  refine x_lv [(0, .ref S)] rfl ?_
  have hd0b : sdg I S 0 ≤ 3 := dgN_le _ _ _
  have hd1b : sdg I S 1 ≤ 3 := dgN_le _ _ _
  have hdd : sdg I S 0 * sdg I S 1 ≤ 9 := Nat.mul_le_mul hd0b hd1b
  obtain ⟨DD, hDD⟩ : ∃ DD : Nat, DD = sdg I S 0 * sdg I S 1 := ⟨_, rfl⟩
  rw [← hDD] at hdd
  refine x_aload_n 0 C dX9_beginPaths_0 rfl 0 rfl ?_
  refine x_aload_n 1 C dX9_beginPaths_1 rfl 0 rfl ?_
  refine x_getr 2 C (b := S + 1 + 4 * 0) dX9_beginPaths_2 ff_X9_10 rfl hS.1 rfl ?_
  refine x_callVe 5 C dX9_beginPaths_5 (As := []) (rest := [.ref S]) [.int (nI (dgN (I ((S + 1 + 4 * 0) + 1)) (I ((S + 1 + 4 * 0) + 2)) 10)), .ref S] (t_X1_degree l D z n G I L (S + 1 + 4 * 0) (hS.2.1 0 (by decide))) mt_X1_degree km_X9_64 ki_X1_degree ks_X1_degree (hS.2.1 0 (by decide)).1 ⟨by decide, rfl⟩ rfl rfl (Nat.le_of_ble_eq_true rfl) ⟨⟨by decide, by decide⟩, by decide, by decide⟩ (fun I1 L2 eI1 eL2 => ?_)
  replace eI1 := eI1.symm; subst eI1
  replace eL2 := eL2.symm; subst eL2
  refine x_int (nI (sdg I S 0)) rfl ?_
  refine x_aload_n 8 C dX9_beginPaths_8 rfl 0 rfl ?_
  refine x_getr 9 C (b := S + 1 + 4 * 1) dX9_beginPaths_9 ff_X9_16 rfl hS.1 rfl ?_
  refine x_callVe 12 C dX9_beginPaths_12 (As := []) (rest := [.int (nI (sdg I S 0)), .ref S]) [.int (nI (dgN (I ((S + 1 + 4 * 1) + 1)) (I ((S + 1 + 4 * 1) + 2)) 10)), .int (nI (sdg I S 0)), .ref S] (t_X1_degree l D z n G I L (S + 1 + 4 * 1) (hS.2.1 1 (by decide))) mt_X1_degree km_X9_64 ki_X1_degree ks_X1_degree (hS.2.1 1 (by decide)).1 ⟨by decide, rfl⟩ rfl rfl (Nat.le_of_ble_eq_true rfl) ⟨⟨by decide, by decide⟩, by decide, by decide⟩ (fun I3 L4 eI3 eL4 => ?_)
  replace eI3 := eI3.symm; subst eI3
  replace eL4 := eL4.symm; subst eL4
  refine x_int (nI (sdg I S 1)) rfl ?_
  refine x_imul 15 C dX9_beginPaths_15 ?_
  refine x_int (nI DD) ((nI_mul _ _).trans (congrArg nI hDD.symm)) ?_
  refine x_bipush 16 C (v := 9) dX9_beginPaths_16 rfl ?_
  refine x_mmin 18 C dX9_beginPaths_18 km_X9_68 kt_J9_min_7cf53 kn_J9 kc_J9_min_7cf53 ⟨by decide, Nat.le_of_ble_eq_true rfl, by decide, by decide⟩ ?_
  refine x_int (nI DD) ((imin_nI (a := DD) (b := 9) (by omega) (by omega)).trans (congrArg nI (Nat.min_eq_left hdd))) ?_
  refine x_puti 21 C dX9_beginPaths_21 ff_X9_47 rfl hS.1 (by omega) (fun I5 eI5 => ?_)
  refine x_iconst 24 C (v := 0) dX9_beginPaths_24 rfl ?_
  refine x_istore_n 25 C [(1, .int 0), (0, .ref S)] dX9_beginPaths_25 rfl (by decide) rfl ?_
  have loop26 : ∀ (fuel : Nat) (k : Nat) (Ik : xI) (Lk : xL), (k ≤ DD) → (DD + 1 ≤ k + fuel) → (begun Ik Lk S (sdg I S 0) (sdg I S 1) (I (S + 9) 0) (I (S + 9) 1) k) → (Ik S 4 = nI DD) → (∀ a, a ≠ S → (a < S + 11 ∨ S + 38 ≤ a) → Ik a = I a) → (∀ a, (a < S + 11 ∨ S + 38 ≤ a) → Lk a = L a) → X p l e (xRm 4 98 0 0) s m args below meth c D z 2 (MQ below (xQc D z n (xN n G (fun v' I' L' => v' = none ∧ (I' S 4 = nI (sdg I S 0 * sdg I S 1)) ∧ (begun I' L' S (sdg I S 0) (sdg I S 1) (I (S + 9) 0) (I (S + 9) 1) (sdg I S 0 * sdg I S 1)) ∧ (∀ a, a ≠ S → (a < S + 11 ∨ S + 38 ≤ a) → I' a = I a) ∧ (∀ a, (a < S + 11 ∨ S + 38 ≤ a) → L' a = L a)))) args s 0 0 (fun a => z ≤ a)) 0 0 n G Ik Lk 26 [(0, .ref S), (1, .int (nI k))] [] := by
    intro fuel
    induction fuel with
    | zero =>
      intro k Ik Lk hk hf hb hU0 hfrk hfrL
      exact absurd hf (by omega)
    | succ fuel ih =>
      intro k Ik Lk hk hf hb hU0 hfrk hfrL
      have e0 : sdg Ik S 0 = sdg I S 0 := by unfold sdg; rw [hfrk _ (by omega) (by omega), hfrk _ (by omega) (by omega)]
      have e1 : sdg Ik S 1 = sdg I S 1 := by unfold sdg; rw [hfrk _ (by omega) (by omega), hfrk _ (by omega) (by omega)]
      have e9 : Ik (S + 9) = I (S + 9) := hfrk _ (by omega) (by omega)
      refine x_iload_n 26 C dX9_beginPaths_26 rfl 1 rfl ?_
      refine x_aload_n 27 C dX9_beginPaths_27 rfl 0 rfl ?_
      refine x_geti 28 C dX9_beginPaths_28 ff_X9_47 hS.1 ?_
      refine x_int (nI DD) hU0 ?_
      refine x_icmp_ge 31 C 51 dX9_beginPaths_31 (by decide) (fun c6 => ?_) (fun c6 => ?_)
      · skip
        have c6n : DD ≤ k := (nI_leI (a := DD) (b := k) (by omega) (by omega)).mp c6
        have c6o := Int32.not_lt.mpr c6
        refine x_vret 51 C dX9_beginPaths_51 rfl (Nat.le_refl _) (xN.intro ?_)
        have hkD : k = DD := by omega
        subst hkD
        rw [hDD] at hU0 hb
        exact ⟨rfl, hU0, hb, hfrk, hfrL⟩
      · skip
        have c6n : ¬ (DD ≤ k) := fun h => c6 ((nI_leI (a := DD) (b := k) (by omega) (by omega)).mpr h)
        have c6o := Int32.not_le.mp c6
        refine x_aload_n 34 C dX9_beginPaths_34 rfl 0 rfl ?_
        refine x_iload_n 35 C dX9_beginPaths_35 rfl 1 rfl ?_
        refine x_aload_n 36 C dX9_beginPaths_36 rfl 0 rfl ?_
        refine x_getr 37 C (b := S + 9) dX9_beginPaths_37 ff_X9_19 rfl hS.1 rfl ?_
        refine x_iconst 40 C (v := 1) dX9_beginPaths_40 rfl ?_
        refine x_iald 41 C (j := 1) dX9_beginPaths_41 hS.2.2.1 ⟨by decide, by decide, by decide⟩ ?_
        refine x_int (I (S + 9) 1) (by rw [e9]) ?_
        refine x_callVe 42 C dX9_beginPaths_42 (As := [.int (nI k), .int (I (S + 9) 1)]) (rest := []) [] (t_X9_beginPath l D z n G Ik Lk S k (I (S + 9) 1) DD hS (by omega) hU0 hdd (by first | omega | assumption | decide) (by rw [e1]; exact hd1)) mt_X9_beginPath km_X9_74 ki_X9_beginPath ks_X9_beginPath hS.1 ⟨by decide, rfl⟩ rfl rfl (Nat.le_of_ble_eq_true rfl) ⟨⟨by decide, by decide⟩, by decide, by decide⟩ (fun I7 L8 eI7 eL8 => ?_)
        have k9 : rd L8 (S + 11 + 3 * k + 1) = hC (rootC (nI (sdg Ik S 0)) (nI (k / sdg Ik S 1)) 1024) := by rw [eL8, rd_cw_ne _ _ (by omega), rd_cw]
        have k10 : rd L8 (S + 11 + 3 * k + 2) = hC (rootC (nI (sdg Ik S 1)) (nI (k % sdg Ik S 1)) 1024) := by rw [eL8, rd_cw]
        refine x_iinc 45 C [(1, .int (nI (k + 1))), (0, .ref S)] dX9_beginPaths_45 1 rfl (nI_add k 1) (by decide) rfl ?_
        refine x_goto 48 C 26 dX9_beginPaths_48 (by decide) ?_
        refine x_sub [(0, .ref S), (1, .int (nI (k + 1)))] [1, 0] rfl ?_
        refine ih (k + 1) I7 L8 (by omega) (by omega) ?_ ?_ ?_ ?_
        · intro i hi
          by_cases hik : i = k
          · subst hik; exact ⟨fun j j1 j2 => by rw [eI7, pBegin_row _ _ _ _ j1 j2, e9], by rw [k9, e0, e1], by rw [k10, e1]⟩
          · obtain ⟨g1, g2, g3⟩ := hb i (by omega); exact ⟨fun j j1 j2 => by rw [eI7, pBegin_ne _ _ _ (by omega)]; exact g1 j j1 j2, by rw [eL8, rd_cw_ne _ _ (by omega), rd_cw_ne _ _ (by omega)]; exact g2, by rw [eL8, rd_cw_ne _ _ (by omega), rd_cw_ne _ _ (by omega)]; exact g3⟩
        · rw [eI7, pBegin_ne _ _ _ (by omega)]; exact hU0
        · intro a h1 h2; rw [eI7, pBegin_ne _ _ _ (by omega)]; exact hfrk a h1 h2
        · intro a ha; rw [eL8, cw_ne _ _ (by omega), cw_ne _ _ (by omega)]; exact hfrL a ha
  refine x_sub [(0, .ref S), (1, .int 0)] [1, 0] rfl ?_
  refine loop26 (DD + 1) 0 I5 L (by omega) (by omega) (fun i hi => absurd hi (Nat.not_lt_zero i)) ?_ ?_ (fun _ _ => rfl)
  · rw [eI5, xup_self]
  · intro a h1 h2; rw [eI5, xup_row _ _ h1]
