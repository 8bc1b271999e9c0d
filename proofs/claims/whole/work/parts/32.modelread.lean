/-! The Model's reader: its registers at 18, powers 19 and 20, number 21, imaginary 22 -/
def rg (I : xI) (A r px py nu im : Nat) : xI := xup (xup (xup (xup (xup I A 18 (nI r)) A 19 (nI px)) A 20 (nI py)) A 21 (nI nu)) A 22 (nI im)
theorem rg_18 (I : xI) (A r px py nu im v' : Nat) : xup (rg I A r px py nu im) A 18 (nI v') = rg I A v' px py nu im := by
  funext a j
  simp only [rg, xup]
  by_cases h1 : a = A <;> by_cases h2 : j = 18 <;> simp [h1, h2]
theorem rg_at18 (I : xI) (A r px py nu im : Nat) : rg I A r px py nu im A 18 = nI r := by simp [rg, xup]
theorem rg_19 (I : xI) (A r px py nu im v' : Nat) : xup (rg I A r px py nu im) A 19 (nI v') = rg I A r v' py nu im := by
  funext a j
  simp only [rg, xup]
  by_cases h1 : a = A <;> by_cases h2 : j = 19 <;> simp [h1, h2]
theorem rg_at19 (I : xI) (A r px py nu im : Nat) : rg I A r px py nu im A 19 = nI px := by simp [rg, xup]
theorem rg_20 (I : xI) (A r px py nu im v' : Nat) : xup (rg I A r px py nu im) A 20 (nI v') = rg I A r px v' nu im := by
  funext a j
  simp only [rg, xup]
  by_cases h1 : a = A <;> by_cases h2 : j = 20 <;> simp [h1, h2]
theorem rg_at20 (I : xI) (A r px py nu im : Nat) : rg I A r px py nu im A 20 = nI py := by simp [rg, xup]
theorem rg_21 (I : xI) (A r px py nu im v' : Nat) : xup (rg I A r px py nu im) A 21 (nI v') = rg I A r px py v' im := by
  funext a j
  simp only [rg, xup]
  by_cases h1 : a = A <;> by_cases h2 : j = 21 <;> simp [h1, h2]
theorem rg_at21 (I : xI) (A r px py nu im : Nat) : rg I A r px py nu im A 21 = nI nu := by simp [rg, xup]
theorem rg_22 (I : xI) (A r px py nu im v' : Nat) : xup (rg I A r px py nu im) A 22 (nI v') = rg I A r px py nu v' := by
  funext a j
  simp only [rg, xup]
  by_cases h1 : a = A <;> by_cases h2 : j = 22 <;> simp [h1, h2]
theorem rg_at22 (I : xI) (A r px py nu im : Nat) : rg I A r px py nu im A 22 = nI im := by simp [rg, xup]
theorem rg_row (I : xI) (A r px py nu im : Nat) {q : Nat} (h : q ≠ A) : rg I A r px py nu im q = I q := by simp only [rg, xup_row _ _ h]
theorem rg_oth (I : xI) (A r px py nu im : Nat) {j : Nat} (h : j < 18 ∨ 22 < j) : rg I A r px py nu im A j = I A j := by
  simp only [rg]
  rw [xup_ne _ _ (by omega), xup_ne _ _ (by omega), xup_ne _ _ (by omega), xup_ne _ _ (by omega), xup_ne _ _ (by omega)]
theorem mx_rg {I : xI} {A N r : Nat} {t : Nat → Nat} (h : mx I A t N r) (r' px py nu im : Nat) : mx (rg I A r' px py nu im) A t N r' :=
  ⟨fun j hj => by rw [rg_row _ _ _ _ _ _ _ (by omega)]; exact h.1 j hj, by rw [rg_oth _ _ _ _ _ _ _ (by omega)]; exact h.2.1, rg_at18 _ _ _ _ _ _ _⟩
theorem rg_first {I : xI} {A N r : Nat} {t : Nat → Nat} (h : mx I A t N r) : xup (xup (xup (xup I A 19 0) A 20 0) A 21 1) A 22 0 = rg I A r 0 0 1 0 := by
  unfold rg
  have e := h.2.2
  have hI : I = xup I A 18 (nI r) := by
    funext a j
    by_cases hq : a = A ∧ j = 18
    · rw [hq.1, hq.2, xup_self]; exact e
    · rw [xup_ne _ _ hq]
  rw [← hI]; rfl
def two (I : xI) (A r nu : Nat) : xI := xup (xup I A 18 (nI r)) A 21 (nI nu)
theorem two_18 (I : xI) (A r nu r' : Nat) : xup (two I A r nu) A 18 (nI r') = two I A r' nu := by
  funext a j
  simp only [two, xup]
  by_cases h1 : a = A <;> by_cases h2 : j = 18 <;> simp [h1, h2]
theorem two_21 (I : xI) (A r nu r' : Nat) : xup (two I A r nu) A 21 (nI r') = two I A r r' := by
  funext a j
  simp only [two, xup]
  by_cases h1 : a = A <;> by_cases h2 : j = 21 <;> simp [h1, h2]
theorem two_rg (I : xI) (A r px py nu im r' nu' : Nat) : two (rg I A r px py nu im) A r' nu' = rg I A r' px py nu' im := by unfold two; rw [rg_18, rg_21]
theorem mx_two {I : xI} {A N r : Nat} {t : Nat → Nat} (h : mx I A t N r) (r' nu : Nat) : mx (two I A r' nu) A t N r' := mx_ne (mx_up h r') (by decide) (by decide)
theorem two_first {I : xI} {A N r : Nat} {t : Nat → Nat} (h : mx I A t N r) (nu : Nat) : xup I A 21 (nI nu) = two I A r nu := by
  unfold two
  congr 1
  funext a j
  by_cases hq : a = A ∧ j = 18
  · rw [hq.1, hq.2, xup_self]; exact h.2.2
  · rw [xup_ne _ _ hq]
def mOk (t : Nat → Nat) (N r : Nat) : Bool := tOk t N r || decide (3 ≤ (tFac t N r).2.1 + (tFac t N r).2.2.1)
def bnd (x : Int32) : Int32 := if x < -999 then -999 else if 999 < x then 999 else x
theorem bnd_heldc (x : Int32) : bnd x = heldc x := by
  unfold bnd heldc imax imin
  have e1 : (-999 : Int32).toInt = -999 := by decide
  have e2 : (999 : Int32).toInt = 999 := by decide
  by_cases h1 : x < -999
  · have h2 : x < 999 := by rw [Int32.lt_iff_toInt_lt] at *; omega
    have h3 : ¬ (-999 : Int32) < x := by rw [Int32.lt_iff_toInt_lt] at *; omega
    have h4 : ¬ (999 : Int32) < x := by rw [Int32.lt_iff_toInt_lt] at *; omega
    simp [h1, h2, h3, h4]
  · by_cases h2 : (999 : Int32) < x
    · have h3 : ¬ x < 999 := by rw [Int32.lt_iff_toInt_lt] at *; omega
      have h4 : (-999 : Int32) < 999 := by decide
      simp [h1, h2, h3, h4]
    · by_cases h5 : (-999 : Int32) < x
      · by_cases h6 : x < 999
        · simp [h1, h2, h5, h6]
        · have h7 : x = 999 := by apply Int32.toInt_inj.mp; rw [Int32.lt_iff_toInt_lt] at *; omega
          subst h7; decide
      · have h7 : x = -999 := by apply Int32.toInt_inj.mp; rw [Int32.lt_iff_toInt_lt] at *; omega
        subst h7; decide
theorem dX12_readNumber_0 : decode cX12_readNumber 0 = .ok (.iconst 0, 1) := by decide +kernel
theorem dX12_readNumber_1 : decode cX12_readNumber 1 = .ok (.istore_n 1, 1) := by decide +kernel
theorem dX12_readNumber_2 : decode cX12_readNumber 2 = .ok (.aload_n 0, 1) := by decide +kernel
theorem dX12_readNumber_3 : decode cX12_readNumber 3 = .ok (.iconst 0, 1) := by decide +kernel
theorem dX12_readNumber_4 : decode cX12_readNumber 4 = .ok (.putfield 259, 3) := by decide +kernel
theorem dX12_readNumber_7 : decode cX12_readNumber 7 = .ok (.aload_n 0, 1) := by decide +kernel
theorem dX12_readNumber_8 : decode cX12_readNumber 8 = .ok (.invokevirtual 262, 3) := by decide +kernel
theorem dX12_readNumber_11 : decode cX12_readNumber 11 = .ok (.ifCond .eq 43, 3) := by decide +kernel
theorem dX12_readNumber_14 : decode cX12_readNumber 14 = .ok (.iload_n 1, 1) := by decide +kernel
theorem dX12_readNumber_15 : decode cX12_readNumber 15 = .ok (.iconst 3, 1) := by decide +kernel
theorem dX12_readNumber_16 : decode cX12_readNumber 16 = .ok (.if_icmp .ge 38, 3) := by decide +kernel
theorem dX12_readNumber_19 : decode cX12_readNumber 19 = .ok (.aload_n 0, 1) := by decide +kernel
theorem dX12_readNumber_20 : decode cX12_readNumber 20 = .ok (.bipush 10, 2) := by decide +kernel
theorem dX12_readNumber_22 : decode cX12_readNumber 22 = .ok (.aload_n 0, 1) := by decide +kernel
theorem dX12_readNumber_23 : decode cX12_readNumber 23 = .ok (.getfield 259, 3) := by decide +kernel
theorem dX12_readNumber_26 : decode cX12_readNumber 26 = .ok (.imul, 1) := by decide +kernel
theorem dX12_readNumber_27 : decode cX12_readNumber 27 = .ok (.aload_n 0, 1) := by decide +kernel
theorem dX12_readNumber_28 : decode cX12_readNumber 28 = .ok (.invokevirtual 250, 3) := by decide +kernel
theorem dX12_readNumber_31 : decode cX12_readNumber 31 = .ok (.iadd, 1) := by decide +kernel
theorem dX12_readNumber_32 : decode cX12_readNumber 32 = .ok (.bipush 48, 2) := by decide +kernel
theorem dX12_readNumber_34 : decode cX12_readNumber 34 = .ok (.isub, 1) := by decide +kernel
theorem dX12_readNumber_35 : decode cX12_readNumber 35 = .ok (.putfield 259, 3) := by decide +kernel
theorem dX12_readNumber_38 : decode cX12_readNumber 38 = .ok (.iinc 1 1, 3) := by decide +kernel
theorem dX12_readNumber_41 : decode cX12_readNumber 41 = .ok (.aload_n 0, 1) := by decide +kernel
theorem dX12_readNumber_42 : decode cX12_readNumber 42 = .ok (.dup, 1) := by decide +kernel
theorem dX12_readNumber_43 : decode cX12_readNumber 43 = .ok (.getfield 247, 3) := by decide +kernel
theorem dX12_readNumber_46 : decode cX12_readNumber 46 = .ok (.iconst 1, 1) := by decide +kernel
theorem dX12_readNumber_47 : decode cX12_readNumber 47 = .ok (.iadd, 1) := by decide +kernel
theorem dX12_readNumber_48 : decode cX12_readNumber 48 = .ok (.putfield 247, 3) := by decide +kernel
theorem dX12_readNumber_51 : decode cX12_readNumber 51 = .ok (.goto (-44), 3) := by decide +kernel
theorem dX12_readNumber_54 : decode cX12_readNumber 54 = .ok (.return_, 1) := by decide +kernel
set_option maxHeartbeats 1000000 in
set_option maxRecDepth 100000 in
theorem t_X12_readNumber (l : Launch) (D : xD) (z n : Nat) (G : xG) (I : xI) (L : xL) (A : Nat) (t : Nat → Nat) (N : Nat) (r : Nat) (hM : shMo G A) (zA : z ≤ A) (hT : mx I A t N r) (hC : txc t N) (hr : r ≤ N) : xM0 l D z yX12_readNumber cX12_readNumber 2 none 2 42 [.ref A] n G I L (xE none (two I A (numb t N 3 r 0).2 (numb t N 3 r 0).1) L) := by
  refine xM.of (by decide) (Nat.le_of_ble_eq_true rfl) (fun p e s m args below meth c C hnm hsz => ?_)
  refine x_lv [(0, .ref A)] rfl ?_
  have hN6 := hC.1
  refine x_iconst 0 C (v := 0) dX12_readNumber_0 rfl ?_
  refine x_istore_n 1 C [(1, .int 0), (0, .ref A)] dX12_readNumber_1 rfl (by decide) rfl ?_
  refine x_aload_n 2 C dX12_readNumber_2 rfl 1 rfl ?_
  refine x_iconst 3 C (v := 0) dX12_readNumber_3 rfl ?_
  refine x_puti 4 C dX12_readNumber_4 ff_X12_259 rfl hM.1 (by omega) (fun I1 eI1 => ?_)
  have loop7 : ∀ (fuel : Nat) (k q v : Nat) (Ik : xI), (k ≤ 3) → (4 ≤ k + fuel) → (Ik = two I A q v) → (q ≤ N) → (numb t N 3 r 0 = numb t N (3 - k) q v) → X p l e (xRm 2 42 0 0) s m args below meth c D z 2 (MQ below (xQc D z n (xN n G (xE none (two I A (numb t N 3 r 0).2 (numb t N 3 r 0).1) L))) args s 0 0 (fun a => z ≤ a)) 0 0 n G Ik L 7 [(0, .ref A), (1, .int (nI k))] [] := by
    intro fuel
    induction fuel with
    | zero =>
      intro k q v Ik hk hf hI hq hS
      exact absurd hf (by omega)
    | succ fuel ih =>
      intro k q v Ik hk hf hI hq hS
      have hTk : mx Ik A t N q := by rw [hI]; exact mx_two hT q v
      refine x_aload_n 7 C dX12_readNumber_7 rfl 0 rfl ?_
      refine x_callVe 8 C dX12_readNumber_8 (As := []) (rest := []) [.int (bI (dgt (sg t N q)))] (t_X12_isDigit l D z n G Ik L A t N q hM hTk hC (by omega)) mt_X12_isDigit km_X12_262 ki_X12_isDigit ks_X12_isDigit hM.1 ⟨by decide, rfl⟩ rfl rfl (Nat.le_of_ble_eq_true rfl) ⟨⟨by decide, by decide⟩, by decide, by decide⟩ (fun I2 L3 eI2 eL3 => ?_)
      replace eI2 := eI2.symm; subst eI2
      replace eL3 := eL3.symm; subst eL3
      refine x_if_eq 11 C 54 dX12_readNumber_11 (by decide) (fun c4 => ?_) (fun c4 => ?_)
      · skip
        have hb : _ := bI_0.mp c4
        refine x_vret 54 C dX12_readNumber_54 rfl (Nat.le_refl _) (xN.intro ?_)
        have hz : numb t N (3 - k) q v = (v, q) := by
          rcases (show k = 3 ∨ k < 3 by omega) with h3 | h3
          · rw [show 3 - k = 0 by omega]; rfl
          · first | exact absurd h3 (by omega) | (rw [show 3 - k = (3 - (k + 1)) + 1 by omega]; simp only [numb]; exact if_neg (by rw [hb]; decide))
        exact ⟨rfl, by rw [hS, hz, hI], rfl⟩
      · skip
        have hb : _ := bI_n0.mp c4
        have hb2 := dgt_b.mp hb
        have hb3 := sg_lt (t := t) (N := N) (r := q) (by omega)
        refine x_iload_n 14 C dX12_readNumber_14 rfl 1 rfl ?_
        refine x_iconst 15 C (v := 3) dX12_readNumber_15 rfl ?_
        refine x_icmp_ge 16 C 54 dX12_readNumber_16 (by decide) (fun c5 => ?_) (fun c5 => ?_)
        · skip
          have c5n : 3 ≤ k := (nI_leI (a := 3) (b := k) (by omega) (by omega)).mp c5
          have c5m : ¬ (k < 3) := by omega
          have c5o := Int32.not_lt.mpr c5
          refine x_vret 54 C dX12_readNumber_54 rfl (Nat.le_refl _) (xN.intro ?_)
          have hz : numb t N (3 - k) q v = (v, q) := by
            rcases (show k = 3 ∨ k < 3 by omega) with h3 | h3
            · rw [show 3 - k = 0 by omega]; rfl
            · first | exact absurd h3 (by omega) | (rw [show 3 - k = (3 - (k + 1)) + 1 by omega]; simp only [numb]; exact if_neg (by rw [hb]; decide))
          exact ⟨rfl, by rw [hS, hz, hI], rfl⟩
        · skip
          have c5n : ¬ (3 ≤ k) := fun h => c5 ((nI_leI (a := 3) (b := k) (by omega) (by omega)).mpr h)
          have c5m : k < 3 := by omega
          have c5o := Int32.not_le.mp c5
          refine x_aload_n 19 C dX12_readNumber_19 rfl 0 rfl ?_
          refine x_bipush 20 C (v := 10) dX12_readNumber_20 rfl ?_
          refine x_aload_n 22 C dX12_readNumber_22 rfl 0 rfl ?_
          refine x_geti 23 C dX12_readNumber_23 ff_X12_259 hM.1 ?_
          refine x_int (nI v) (by rw [hI]; simp [two, xup]) ?_
          refine x_imul 26 C dX12_readNumber_26 ?_
          refine x_int (nI (v * 10)) ((nI_mul 10 v).trans (congrArg nI (Nat.mul_comm 10 v))) ?_
          refine x_aload_n 27 C dX12_readNumber_27 rfl 0 rfl ?_
          refine x_callVe 28 C dX12_readNumber_28 (As := []) (rest := [.int (nI (v * 10)), .ref A]) [.int (nI (sg t N q)), .int (nI (v * 10)), .ref A] (t_X12_here l D z n G Ik L A t N q hM hTk hC (by omega)) mt_X12_here km_X12_250 ki_X12_here ks_X12_here hM.1 ⟨by decide, rfl⟩ rfl rfl (Nat.le_of_ble_eq_true rfl) ⟨⟨by decide, by decide⟩, by decide, by decide⟩ (fun I6 L7 eI6 eL7 => ?_)
          replace eI6 := eI6.symm; subst eI6
          replace eL7 := eL7.symm; subst eL7
          refine x_iadd 31 C dX12_readNumber_31 ?_
          refine x_int (nI (v * 10 + (sg t N q))) (nI_add (v * 10) (sg t N q)) ?_
          refine x_bipush 32 C (v := 48) dX12_readNumber_32 rfl ?_
          refine x_isub 34 C dX12_readNumber_34 ?_
          refine x_int (nI (v * 10 + sg t N q - 48)) (nI_sub (a := v * 10 + sg t N q) (b := 48) (by omega)) ?_
          refine x_puti 35 C dX12_readNumber_35 ff_X12_259 rfl hM.1 (by omega) (fun I8 eI8 => ?_)
          refine x_iinc 38 C [(1, .int (nI (k + 1))), (0, .ref A)] dX12_readNumber_38 1 rfl (nI_add k 1) (by decide) rfl ?_
          refine x_aload_n 41 C dX12_readNumber_41 rfl 1 rfl ?_
          refine x_dup 42 C dX12_readNumber_42 rfl ?_
          refine x_geti 43 C dX12_readNumber_43 ff_X12_247 hM.1 ?_
          refine x_int (nI q) (by rw [eI8]; exact (mx_ne hTk (by decide) (by decide)).2.2) ?_
          refine x_iconst 46 C (v := 1) dX12_readNumber_46 rfl ?_
          refine x_iadd 47 C dX12_readNumber_47 ?_
          refine x_int (nI (q + 1)) (nI_add q 1) ?_
          refine x_puti 48 C dX12_readNumber_48 ff_X12_247 rfl hM.1 (by omega) (fun I9 eI9 => ?_)
          refine x_goto 51 C 7 dX12_readNumber_51 (by decide) ?_
          refine x_sub [(0, .ref A), (1, .int (nI (k + 1)))] [1, 0] rfl ?_
          exact ih (k + 1) (q + 1) (v * 10 + sg t N q - 48) I9 (by omega) (by omega) (by rw [eI9, eI8, hI, two_21, two_18]) (by omega) (by rw [hS, show 3 - k = (3 - (k + 1)) + 1 by omega]; simp only [numb]; rw [if_pos hb])
  refine x_sub [(0, .ref A), (1, .int 0)] [1, 0] rfl ?_
  exact loop7 4 0 r 0 I1 (by omega) (by omega) (by rw [eI1]; exact two_first hT 0) hr rfl
theorem dX12_readTerm_0 : decode cX12_readTerm 0 = .ok (.aload_n 0, 1) := by decide +kernel
theorem dX12_readTerm_1 : decode cX12_readTerm 1 = .ok (.iconst 0, 1) := by decide +kernel
theorem dX12_readTerm_2 : decode cX12_readTerm 2 = .ok (.putfield 253, 3) := by decide +kernel
theorem dX12_readTerm_5 : decode cX12_readTerm 5 = .ok (.aload_n 0, 1) := by decide +kernel
theorem dX12_readTerm_6 : decode cX12_readTerm 6 = .ok (.iconst 0, 1) := by decide +kernel
theorem dX12_readTerm_7 : decode cX12_readTerm 7 = .ok (.putfield 256, 3) := by decide +kernel
theorem dX12_readTerm_10 : decode cX12_readTerm 10 = .ok (.aload_n 0, 1) := by decide +kernel
theorem dX12_readTerm_11 : decode cX12_readTerm 11 = .ok (.iconst 1, 1) := by decide +kernel
theorem dX12_readTerm_12 : decode cX12_readTerm 12 = .ok (.putfield 259, 3) := by decide +kernel
theorem dX12_readTerm_15 : decode cX12_readTerm 15 = .ok (.aload_n 0, 1) := by decide +kernel
theorem dX12_readTerm_16 : decode cX12_readTerm 16 = .ok (.iconst 0, 1) := by decide +kernel
theorem dX12_readTerm_17 : decode cX12_readTerm 17 = .ok (.putfield 265, 3) := by decide +kernel
theorem dX12_readTerm_20 : decode cX12_readTerm 20 = .ok (.iconst 0, 1) := by decide +kernel
theorem dX12_readTerm_21 : decode cX12_readTerm 21 = .ok (.istore_n 1, 1) := by decide +kernel
theorem dX12_readTerm_22 : decode cX12_readTerm 22 = .ok (.aload_n 0, 1) := by decide +kernel
theorem dX12_readTerm_23 : decode cX12_readTerm 23 = .ok (.invokevirtual 262, 3) := by decide +kernel
theorem dX12_readTerm_26 : decode cX12_readTerm 26 = .ok (.ifCond .eq 9, 3) := by decide +kernel
theorem dX12_readTerm_29 : decode cX12_readTerm 29 = .ok (.aload_n 0, 1) := by decide +kernel
theorem dX12_readTerm_30 : decode cX12_readTerm 30 = .ok (.invokevirtual 269, 3) := by decide +kernel
theorem dX12_readTerm_33 : decode cX12_readTerm 33 = .ok (.iconst 1, 1) := by decide +kernel
theorem dX12_readTerm_34 : decode cX12_readTerm 34 = .ok (.istore_n 1, 1) := by decide +kernel
theorem dX12_readTerm_35 : decode cX12_readTerm 35 = .ok (.aload_n 0, 1) := by decide +kernel
theorem dX12_readTerm_36 : decode cX12_readTerm 36 = .ok (.invokevirtual 250, 3) := by decide +kernel
theorem dX12_readTerm_39 : decode cX12_readTerm 39 = .ok (.bipush 105, 2) := by decide +kernel
theorem dX12_readTerm_41 : decode cX12_readTerm 41 = .ok (.if_icmp .ne 20, 3) := by decide +kernel
theorem dX12_readTerm_44 : decode cX12_readTerm 44 = .ok (.aload_n 0, 1) := by decide +kernel
theorem dX12_readTerm_45 : decode cX12_readTerm 45 = .ok (.iconst 1, 1) := by decide +kernel
theorem dX12_readTerm_46 : decode cX12_readTerm 46 = .ok (.putfield 265, 3) := by decide +kernel
theorem dX12_readTerm_49 : decode cX12_readTerm 49 = .ok (.iconst 1, 1) := by decide +kernel
theorem dX12_readTerm_50 : decode cX12_readTerm 50 = .ok (.istore_n 1, 1) := by decide +kernel
theorem dX12_readTerm_51 : decode cX12_readTerm 51 = .ok (.aload_n 0, 1) := by decide +kernel
theorem dX12_readTerm_52 : decode cX12_readTerm 52 = .ok (.dup, 1) := by decide +kernel
theorem dX12_readTerm_53 : decode cX12_readTerm 53 = .ok (.getfield 247, 3) := by decide +kernel
theorem dX12_readTerm_56 : decode cX12_readTerm 56 = .ok (.iconst 1, 1) := by decide +kernel
theorem dX12_readTerm_57 : decode cX12_readTerm 57 = .ok (.iadd, 1) := by decide +kernel
theorem dX12_readTerm_58 : decode cX12_readTerm 58 = .ok (.putfield 247, 3) := by decide +kernel
theorem dX12_readTerm_61 : decode cX12_readTerm 61 = .ok (.aload_n 0, 1) := by decide +kernel
theorem dX12_readTerm_62 : decode cX12_readTerm 62 = .ok (.invokevirtual 272, 3) := by decide +kernel
theorem dX12_readTerm_65 : decode cX12_readTerm 65 = .ok (.ifCond .eq 14, 3) := by decide +kernel
theorem dX12_readTerm_68 : decode cX12_readTerm 68 = .ok (.iconst 1, 1) := by decide +kernel
theorem dX12_readTerm_69 : decode cX12_readTerm 69 = .ok (.istore_n 1, 1) := by decide +kernel
theorem dX12_readTerm_70 : decode cX12_readTerm 70 = .ok (.aload_n 0, 1) := by decide +kernel
theorem dX12_readTerm_71 : decode cX12_readTerm 71 = .ok (.invokevirtual 275, 3) := by decide +kernel
theorem dX12_readTerm_74 : decode cX12_readTerm 74 = .ok (.ifCond .ne (-13), 3) := by decide +kernel
theorem dX12_readTerm_77 : decode cX12_readTerm 77 = .ok (.iconst 0, 1) := by decide +kernel
theorem dX12_readTerm_78 : decode cX12_readTerm 78 = .ok (.ireturn, 1) := by decide +kernel
theorem dX12_readTerm_79 : decode cX12_readTerm 79 = .ok (.iload_n 1, 1) := by decide +kernel
theorem dX12_readTerm_80 : decode cX12_readTerm 80 = .ok (.ireturn, 1) := by decide +kernel
set_option maxHeartbeats 1000000 in
set_option maxRecDepth 100000 in
theorem t_X12_readTerm (l : Launch) (D : xD) (z n : Nat) (G : xG) (I : xI) (L : xL) (A : Nat) (t : Nat → Nat) (N : Nat) (r : Nat) (hM : shMo G A) (zA : z ≤ A) (hT : mx I A t N r) (hC : txc t N) (hr : r ≤ N) : xM0 l D z yX12_readTerm cX12_readTerm 2 (some .boolean) 3 63 [.ref A] n G I L (xE (some (.int (bI (mOk t N r)))) (rg I A (tEnd t N r) (tFac t N r).2.1 (tFac t N r).2.2.1 (tNum t N r).1 (tIm t N r)) L) := by
  refine xM.of (by decide) (Nat.le_of_ble_eq_true rfl) (fun p e s m args below meth c C hnm hsz => ?_)
  refine x_lv [(0, .ref A)] rfl ?_
  have hN6 := hC.1
  refine x_aload_n 0 C dX12_readTerm_0 rfl 0 rfl ?_
  refine x_iconst 1 C (v := 0) dX12_readTerm_1 rfl ?_
  refine x_puti 2 C dX12_readTerm_2 ff_X12_253 rfl hM.1 (by omega) (fun I1 eI1 => ?_)
  refine x_aload_n 5 C dX12_readTerm_5 rfl 0 rfl ?_
  refine x_iconst 6 C (v := 0) dX12_readTerm_6 rfl ?_
  refine x_puti 7 C dX12_readTerm_7 ff_X12_256 rfl hM.1 (by omega) (fun I2 eI2 => ?_)
  refine x_aload_n 10 C dX12_readTerm_10 rfl 0 rfl ?_
  refine x_iconst 11 C (v := 1) dX12_readTerm_11 rfl ?_
  refine x_puti 12 C dX12_readTerm_12 ff_X12_259 rfl hM.1 (by omega) (fun I3 eI3 => ?_)
  refine x_aload_n 15 C dX12_readTerm_15 rfl 0 rfl ?_
  refine x_iconst 16 C (v := 0) dX12_readTerm_16 rfl ?_
  refine x_putz 17 C dX12_readTerm_17 ff_X12_265 rfl rfl rfl hM.1 (by omega) (fun I4 eI4 => ?_)
  have hI0 : I4 = rg I A r 0 0 1 0 := by rw [eI4, eI3, eI2, eI1]; exact rg_first hT
  have hT0 : mx I4 A t N r := by rw [hI0]; exact mx_rg hT _ _ _ _ _
  refine x_iconst 20 C (v := 0) dX12_readTerm_20 rfl ?_
  refine x_istore_n 21 C [(1, .int 0), (0, .ref A)] dX12_readTerm_21 rfl (by decide) rfl ?_
  refine x_aload_n 22 C dX12_readTerm_22 rfl 1 rfl ?_
  refine x_callVe 23 C dX12_readTerm_23 (As := []) (rest := []) [.int (bI (dgt (sg t N r)))] (t_X12_isDigit l D z n G I4 L A t N r hM hT0 hC (by omega)) mt_X12_isDigit km_X12_262 ki_X12_isDigit ks_X12_isDigit hM.1 ⟨by decide, rfl⟩ rfl rfl (Nat.le_of_ble_eq_true rfl) ⟨⟨by decide, by decide⟩, by decide, by decide⟩ (fun I5 L6 eI5 eL6 => ?_)
  replace eI5 := eI5.symm; subst eI5
  replace eL6 := eL6.symm; subst eL6
  have join35 : ∀ (v r1 : Nat) (I1 : xI), (I1 = rg I A r1 0 0 v 0) → (tNum t N r = (v, r1)) → X p l e (xRm 3 63 0 0) s m args below meth c D z 2 (MQ below (xQc D z n (xN n G (xE (some (.int (bI (mOk t N r)))) (rg I A (tEnd t N r) (tFac t N r).2.1 (tFac t N r).2.2.1 (tNum t N r).1 (tIm t N r)) L))) args s 0 0 (fun a => z ≤ a)) 0 0 n G I1 L 35 [(0, .ref A), (1, .int (bI (dgt (sg t N r))))] [] := by
    intro v r1 I1 hI1 hv
    have hT1 : mx I1 A t N r1 := by rw [hI1]; exact mx_rg hT _ _ _ _ _
    have hr1 := tNum_r (t := t) hr
    rw [hv] at hr1
    have hr1a := hr1.1
    have hr1b := hr1.2
    refine x_aload_n 35 C dX12_readTerm_35 rfl 0 rfl ?_
    by_cases h1n : r1 < N
    · skip
      refine x_callVe 36 C dX12_readTerm_36 (As := []) (rest := []) [.int (nI (sg t N r1))] (t_X12_here l D z n G I1 L A t N r1 hM hT1 hC (by omega)) mt_X12_here km_X12_250 ki_X12_here ks_X12_here hM.1 ⟨by decide, rfl⟩ rfl rfl (Nat.le_of_ble_eq_true rfl) ⟨⟨by decide, by decide⟩, by decide, by decide⟩ (fun I8 L9 eI8 eL9 => ?_)
      replace eI8 := eI8.symm; subst eI8
      replace eL9 := eL9.symm; subst eL9
      have hs1 := sg_le hC r1
      refine x_bipush 39 C (v := 105) dX12_readTerm_39 rfl ?_
      refine x_icmp_ne 41 C 61 dX12_readTerm_41 (by decide) (fun c10 => ?_) (fun c10 => ?_)
      · skip
        have c10n : ¬ ((sg t N r1) = 105) := fun h => c10 ((nI_eq (a := (sg t N r1)) (b := 105) (by omega) (by omega)).mpr h)
        have h105 : ¬ sg t N r1 = 105 := c10n
        have loop61 : ∀ (fuel : Nat) (k i j q b : Nat) (Ik : xI), (k ≤ i + j) → (5 ≤ i + j + fuel) → (Ik = rg I A q i j v (tIm t N r)) → (q ≤ N) → (i + j ≤ 3) → (b ≤ 1) → (1 ≤ i + j → b = 1) → (tFac t N r = facs t N (61 - k) i j q b) → X p l e (xRm 3 63 0 0) s m args below meth c D z 2 (MQ below (xQc D z n (xN n G (xE (some (.int (bI (mOk t N r)))) (rg I A (tEnd t N r) (tFac t N r).2.1 (tFac t N r).2.2.1 (tNum t N r).1 (tIm t N r)) L))) args s 0 0 (fun a => z ≤ a)) 0 0 n G Ik L 61 [(0, .ref A), (1, .int (nI b))] [] := by
          intro fuel
          induction fuel with
          | zero =>
            intro k i j q b Ik hk hf hI hq hij hb1 hb2 hS
            exact absurd hf (by omega)
          | succ fuel ih =>
            intro k i j q b Ik hk hf hI hq hij hb1 hb2 hS
            have hTk : mx Ik A t N q := by rw [hI]; exact mx_rg hT _ _ _ _ _
            have hp1 : Ik A 19 = nI i := by rw [hI, rg_at19]
            have hp2 : Ik A 20 = nI j := by rw [hI, rg_at20]
            refine x_aload_n 61 C dX12_readTerm_61 rfl 0 rfl ?_
            refine x_callVe 62 C dX12_readTerm_62 (As := []) (rest := []) [.int (bI (unk (sg t N q) && decide (i + j < 3)))] (t_X12_isFactor l D z n G Ik L A t N q i j hM hTk hC hq hp1 hp2 (by first | omega | assumption | decide)) mt_X12_isFactor km_X12_272 ki_X12_isFactor ks_X12_isFactor hM.1 ⟨by decide, rfl⟩ rfl rfl (Nat.le_of_ble_eq_true rfl) ⟨⟨by decide, by decide⟩, by decide, by decide⟩ (fun I11 L12 eI11 eL12 => ?_)
            replace eI11 := eI11.symm; subst eI11
            replace eL12 := eL12.symm; subst eL12
            refine x_if_eq 65 C 79 dX12_readTerm_65 (by decide) (fun c13 => ?_) (fun c13 => ?_)
            · skip
              have hnf : _ := bI_0.mp c13
              refine x_iload_n 79 C dX12_readTerm_79 rfl 1 rfl ?_
              refine x_iret 80 C dX12_readTerm_80 rfl (by rcases (show b = 0 ∨ b = 1 by omega) with rfl | rfl <;> rfl) (Nat.le_refl _) (xN.intro ?_)
              have hE : ∃ bo, tFac t N r = (bo, i, j, q, b) ∧ (bo = true ∨ 3 ≤ i + j) := by
                by_cases hu : unk (sg t N q) = true
                · have h3 : 3 ≤ i + j := Decidable.byContradiction fun h => absurd hnf (by rw [hu, decide_eq_true (show i + j < 3 by omega)]; decide)
                  have hf0 : (fac t N (i + j) q) = (0, q) := by unfold fac; exact if_pos h3
                  exact ⟨false, by rw [hS, show 61 - k = (61 - (k + 1)) + 1 by omega]; simp only [facs]; rw [if_pos hu, hf0]; rfl, Or.inr h3⟩
                · exact ⟨true, by rw [hS, show 61 - k = (61 - (k + 1)) + 1 by omega]; simp only [facs]; exact if_neg hu, Or.inl rfl⟩
              obtain ⟨bo, hE, hbo⟩ := hE
              have hmo : mOk t N r = decide (¬ b = 0) := by unfold mOk tOk; rw [hE]; rcases hbo with h | h; (subst h; by_cases hb0 : b = 0; (have : ¬ 3 ≤ i + j := fun h3 => absurd (hb2 (by omega)) (by omega); simp [hb0, this]; try omega); (simp [hb0])); (have hb3 := hb2 (by omega); simp [hb3, h])
              exact ⟨by rw [hmo]; rcases (show b = 0 ∨ b = 1 by omega) with h | h <;> rw [h] <;> rfl, by rw [hI, hE, hv, show tEnd t N r = q by unfold tEnd; rw [hE]], rfl⟩
            · skip
              have hyf : _ := bI_n0.mp c13
              simp only [Bool.and_eq_true, decide_eq_true_eq] at hyf
              obtain ⟨hu, hij3⟩ := hyf
              have hu2 := unk_b.mp hu
              have hlt := sg_lt (t := t) (N := N) (r := q) (by omega)
              refine x_iconst 68 C (v := 1) dX12_readTerm_68 rfl ?_
              refine x_istore_n 69 C [(1, .int 1), (0, .ref A)] dX12_readTerm_69 rfl (by decide) rfl ?_
              refine x_aload_n 70 C dX12_readTerm_70 rfl 1 rfl ?_
              refine x_callVe 71 C dX12_readTerm_71 (As := []) (rest := []) [.int (bI (decide (¬ (fac t N (i + j) q).1 = 0)))] (t_X12_readFactor l D z n G Ik L A t N q i j hM (by omega) hTk hC hlt hu hij3 hp1 hp2) mt_X12_readFactor km_X12_275 ki_X12_readFactor ks_X12_readFactor hM.1 ⟨by decide, rfl⟩ rfl rfl (Nat.le_of_ble_eq_true rfl) ⟨⟨by decide, by decide⟩, by decide, by decide⟩ (fun I14 L15 eI14 eL15 => ?_)
              replace eL15 := eL15.symm; subst eL15
              refine x_if_ne 74 C 61 dX12_readTerm_74 (by decide) (fun c16 => ?_) (fun c16 => ?_)
              · skip
                have hf1 : _ := bI_n0.mp c16
                refine x_sub [(0, .ref A), (1, .int 1)] [1, 0] rfl ?_
                have hnz : ¬ (fac t N (i + j) q).1 = 0 := of_decide_eq_true hf1
                have hfo := fac_ok (t := t) (d := i + j) hlt
                have hfo1 := hfo.1 hij
                have hfo2 := hfo.2.2.1
                by_cases h120 : sg t N q = 120
                · exact ih (k + 1) (i + (fac t N (i + j) q).1) j (fac t N (i + j) q).2 1 I14 (by omega) (by omega) (by rw [eI14, if_neg hnz, hI, if_pos h120, if_pos h120, rg_18, rg_19, rg_20]) (by omega) (by omega) (by omega) (by omega) (by rw [hS, show 61 - k = (61 - (k + 1)) + 1 by omega]; simp only [facs]; rw [if_pos hu, if_neg hnz, if_pos h120])
                · exact ih (k + 1) i (j + (fac t N (i + j) q).1) (fac t N (i + j) q).2 1 I14 (by omega) (by omega) (by rw [eI14, if_neg hnz, hI, if_neg h120, if_neg h120, rg_18, rg_19, rg_20]) (by omega) (by omega) (by omega) (by omega) (by rw [hS, show 61 - k = (61 - (k + 1)) + 1 by omega]; simp only [facs]; rw [if_pos hu, if_neg hnz, if_neg h120])
              · skip
                have hf0 : _ := bI_0.mp c16
                refine x_iconst 77 C (v := 0) dX12_readTerm_77 rfl ?_
                refine x_iret 78 C dX12_readTerm_78 rfl rfl (Nat.le_refl _) (xN.intro ?_)
                have hz0 : (fac t N (i + j) q).1 = 0 := Decidable.byContradiction fun h => absurd (decide_eq_true h) (by rw [hf0]; decide)
                have hE : tFac t N r = (false, i, j, (fac t N (i + j) q).2, b) := by rw [hS, show 61 - k = (61 - (k + 1)) + 1 by omega]; simp only [facs]; rw [if_pos hu, if_pos hz0]
                have hmo : mOk t N r = false := by unfold mOk tOk; rw [hE]; simp; omega
                exact ⟨by rw [hmo]; rfl, by rw [eI14, if_pos hz0, hI, rg_18, hE, hv, show tEnd t N r = (fac t N (i + j) q).2 by unfold tEnd; rw [hE]], rfl⟩
        refine x_sub [(0, .ref A), (1, .int (bI (dgt (sg t N r))))] [0, 1] rfl ?_
        refine x_lv [(0, .ref A), (1, .int (nI (if dgt (sg t N r) = true then 1 else 0)))] (by rw [bI_nI]) ?_
        exact loop61 5 0 0 0 r1 (if dgt (sg t N r) = true then 1 else 0) I1 (by omega) (by omega) (by rw [hI1, show tIm t N r = 0 by unfold tIm; rw [hv]; exact if_neg h105]) (by omega) (by omega) (by split <;> omega) (by omega) (by show facs t N 61 0 0 (tR2 t N r) (tB0 t N r) = _; rw [show tR2 t N r = r1 by unfold tR2 tIm; rw [hv]; simp only [if_neg h105]; rfl, show tB0 t N r = (if dgt (sg t N r) = true then 1 else 0) by unfold tB0; rw [hv]; exact if_neg h105])
      · skip
        have c10n : (sg t N r1) = 105 := (nI_eq (a := (sg t N r1)) (b := 105) (by omega) (by omega)).mp c10
        have h105 : sg t N r1 = 105 := c10n
        refine x_aload_n 44 C dX12_readTerm_44 rfl 0 rfl ?_
        refine x_iconst 45 C (v := 1) dX12_readTerm_45 rfl ?_
        refine x_putz 46 C dX12_readTerm_46 ff_X12_265 rfl rfl rfl hM.1 (by omega) (fun I17 eI17 => ?_)
        refine x_iconst 49 C (v := 1) dX12_readTerm_49 rfl ?_
        refine x_istore_n 50 C [(1, .int 1), (0, .ref A)] dX12_readTerm_50 rfl (by decide) rfl ?_
        refine x_aload_n 51 C dX12_readTerm_51 rfl 1 rfl ?_
        refine x_dup 52 C dX12_readTerm_52 rfl ?_
        refine x_geti 53 C dX12_readTerm_53 ff_X12_247 hM.1 ?_
        refine x_int (nI r1) (by rw [eI17]; exact (mx_ne hT1 (by decide) (by decide)).2.2) ?_
        refine x_iconst 56 C (v := 1) dX12_readTerm_56 rfl ?_
        refine x_iadd 57 C dX12_readTerm_57 ?_
        refine x_int (nI (r1 + 1)) (nI_add r1 1) ?_
        refine x_puti 58 C dX12_readTerm_58 ff_X12_247 rfl hM.1 (by omega) (fun I18 eI18 => ?_)
        have loop61 : ∀ (fuel : Nat) (k i j q b : Nat) (Ik : xI), (k ≤ i + j) → (5 ≤ i + j + fuel) → (Ik = rg I A q i j v (tIm t N r)) → (q ≤ N) → (i + j ≤ 3) → (b ≤ 1) → (1 ≤ i + j → b = 1) → (tFac t N r = facs t N (61 - k) i j q b) → X p l e (xRm 3 63 0 0) s m args below meth c D z 2 (MQ below (xQc D z n (xN n G (xE (some (.int (bI (mOk t N r)))) (rg I A (tEnd t N r) (tFac t N r).2.1 (tFac t N r).2.2.1 (tNum t N r).1 (tIm t N r)) L))) args s 0 0 (fun a => z ≤ a)) 0 0 n G Ik L 61 [(0, .ref A), (1, .int (nI b))] [] := by
          intro fuel
          induction fuel with
          | zero =>
            intro k i j q b Ik hk hf hI hq hij hb1 hb2 hS
            exact absurd hf (by omega)
          | succ fuel ih =>
            intro k i j q b Ik hk hf hI hq hij hb1 hb2 hS
            have hTk : mx Ik A t N q := by rw [hI]; exact mx_rg hT _ _ _ _ _
            have hp1 : Ik A 19 = nI i := by rw [hI, rg_at19]
            have hp2 : Ik A 20 = nI j := by rw [hI, rg_at20]
            refine x_aload_n 61 C dX12_readTerm_61 rfl 0 rfl ?_
            refine x_callVe 62 C dX12_readTerm_62 (As := []) (rest := []) [.int (bI (unk (sg t N q) && decide (i + j < 3)))] (t_X12_isFactor l D z n G Ik L A t N q i j hM hTk hC hq hp1 hp2 (by first | omega | assumption | decide)) mt_X12_isFactor km_X12_272 ki_X12_isFactor ks_X12_isFactor hM.1 ⟨by decide, rfl⟩ rfl rfl (Nat.le_of_ble_eq_true rfl) ⟨⟨by decide, by decide⟩, by decide, by decide⟩ (fun I19 L20 eI19 eL20 => ?_)
            replace eI19 := eI19.symm; subst eI19
            replace eL20 := eL20.symm; subst eL20
            refine x_if_eq 65 C 79 dX12_readTerm_65 (by decide) (fun c21 => ?_) (fun c21 => ?_)
            · skip
              have hnf : _ := bI_0.mp c21
              refine x_iload_n 79 C dX12_readTerm_79 rfl 1 rfl ?_
              refine x_iret 80 C dX12_readTerm_80 rfl (by rcases (show b = 0 ∨ b = 1 by omega) with rfl | rfl <;> rfl) (Nat.le_refl _) (xN.intro ?_)
              have hE : ∃ bo, tFac t N r = (bo, i, j, q, b) ∧ (bo = true ∨ 3 ≤ i + j) := by
                by_cases hu : unk (sg t N q) = true
                · have h3 : 3 ≤ i + j := Decidable.byContradiction fun h => absurd hnf (by rw [hu, decide_eq_true (show i + j < 3 by omega)]; decide)
                  have hf0 : (fac t N (i + j) q) = (0, q) := by unfold fac; exact if_pos h3
                  exact ⟨false, by rw [hS, show 61 - k = (61 - (k + 1)) + 1 by omega]; simp only [facs]; rw [if_pos hu, hf0]; rfl, Or.inr h3⟩
                · exact ⟨true, by rw [hS, show 61 - k = (61 - (k + 1)) + 1 by omega]; simp only [facs]; exact if_neg hu, Or.inl rfl⟩
              obtain ⟨bo, hE, hbo⟩ := hE
              have hmo : mOk t N r = decide (¬ b = 0) := by unfold mOk tOk; rw [hE]; rcases hbo with h | h; (subst h; by_cases hb0 : b = 0; (have : ¬ 3 ≤ i + j := fun h3 => absurd (hb2 (by omega)) (by omega); simp [hb0, this]; try omega); (simp [hb0])); (have hb3 := hb2 (by omega); simp [hb3, h])
              exact ⟨by rw [hmo]; rcases (show b = 0 ∨ b = 1 by omega) with h | h <;> rw [h] <;> rfl, by rw [hI, hE, hv, show tEnd t N r = q by unfold tEnd; rw [hE]], rfl⟩
            · skip
              have hyf : _ := bI_n0.mp c21
              simp only [Bool.and_eq_true, decide_eq_true_eq] at hyf
              obtain ⟨hu, hij3⟩ := hyf
              have hu2 := unk_b.mp hu
              have hlt := sg_lt (t := t) (N := N) (r := q) (by omega)
              refine x_iconst 68 C (v := 1) dX12_readTerm_68 rfl ?_
              refine x_istore_n 69 C [(1, .int 1), (0, .ref A)] dX12_readTerm_69 rfl (by decide) rfl ?_
              refine x_aload_n 70 C dX12_readTerm_70 rfl 1 rfl ?_
              refine x_callVe 71 C dX12_readTerm_71 (As := []) (rest := []) [.int (bI (decide (¬ (fac t N (i + j) q).1 = 0)))] (t_X12_readFactor l D z n G Ik L A t N q i j hM (by omega) hTk hC hlt hu hij3 hp1 hp2) mt_X12_readFactor km_X12_275 ki_X12_readFactor ks_X12_readFactor hM.1 ⟨by decide, rfl⟩ rfl rfl (Nat.le_of_ble_eq_true rfl) ⟨⟨by decide, by decide⟩, by decide, by decide⟩ (fun I22 L23 eI22 eL23 => ?_)
              replace eL23 := eL23.symm; subst eL23
              refine x_if_ne 74 C 61 dX12_readTerm_74 (by decide) (fun c24 => ?_) (fun c24 => ?_)
              · skip
                have hf1 : _ := bI_n0.mp c24
                refine x_sub [(0, .ref A), (1, .int 1)] [1, 0] rfl ?_
                have hnz : ¬ (fac t N (i + j) q).1 = 0 := of_decide_eq_true hf1
                have hfo := fac_ok (t := t) (d := i + j) hlt
                have hfo1 := hfo.1 hij
                have hfo2 := hfo.2.2.1
                by_cases h120 : sg t N q = 120
                · exact ih (k + 1) (i + (fac t N (i + j) q).1) j (fac t N (i + j) q).2 1 I22 (by omega) (by omega) (by rw [eI22, if_neg hnz, hI, if_pos h120, if_pos h120, rg_18, rg_19, rg_20]) (by omega) (by omega) (by omega) (by omega) (by rw [hS, show 61 - k = (61 - (k + 1)) + 1 by omega]; simp only [facs]; rw [if_pos hu, if_neg hnz, if_pos h120])
                · exact ih (k + 1) i (j + (fac t N (i + j) q).1) (fac t N (i + j) q).2 1 I22 (by omega) (by omega) (by rw [eI22, if_neg hnz, hI, if_neg h120, if_neg h120, rg_18, rg_19, rg_20]) (by omega) (by omega) (by omega) (by omega) (by rw [hS, show 61 - k = (61 - (k + 1)) + 1 by omega]; simp only [facs]; rw [if_pos hu, if_neg hnz, if_neg h120])
              · skip
                have hf0 : _ := bI_0.mp c24
                refine x_iconst 77 C (v := 0) dX12_readTerm_77 rfl ?_
                refine x_iret 78 C dX12_readTerm_78 rfl rfl (Nat.le_refl _) (xN.intro ?_)
                have hz0 : (fac t N (i + j) q).1 = 0 := Decidable.byContradiction fun h => absurd (decide_eq_true h) (by rw [hf0]; decide)
                have hE : tFac t N r = (false, i, j, (fac t N (i + j) q).2, b) := by rw [hS, show 61 - k = (61 - (k + 1)) + 1 by omega]; simp only [facs]; rw [if_pos hu, if_pos hz0]
                have hmo : mOk t N r = false := by unfold mOk tOk; rw [hE]; simp; omega
                exact ⟨by rw [hmo]; rfl, by rw [eI22, if_pos hz0, hI, rg_18, hE, hv, show tEnd t N r = (fac t N (i + j) q).2 by unfold tEnd; rw [hE]], rfl⟩
        refine x_sub [(0, .ref A), (1, .int 1)] [1, 0] rfl ?_
        exact loop61 5 0 0 0 (r1 + 1) 1 I18 (by omega) (by omega) (by rw [eI18, eI17, hI1, show (1 : Int32) = nI 1 from rfl, rg_22, rg_18, show tIm t N r = 1 by unfold tIm; rw [hv]; exact if_pos h105]) (by omega) (by omega) (by omega) (by omega) (by show facs t N 61 0 0 (tR2 t N r) (tB0 t N r) = _; rw [show tR2 t N r = r1 + 1 by unfold tR2 tIm; rw [hv]; simp only [if_pos h105], show tB0 t N r = 1 by unfold tB0; rw [hv]; exact if_pos h105])
    · skip
      refine x_callVe 36 C dX12_readTerm_36 (As := []) (rest := []) [.int (-1)] (t_X12_here_out l D z n G I1 L A t N r1 hM hT1 hC (by omega)) mt_X12_here km_X12_250 ki_X12_here ks_X12_here hM.1 ⟨by decide, rfl⟩ rfl rfl (Nat.le_of_ble_eq_true rfl) ⟨⟨by decide, by decide⟩, by decide, by decide⟩ (fun I25 L26 eI25 eL26 => ?_)
      replace eI25 := eI25.symm; subst eI25
      replace eL26 := eL26.symm; subst eL26
      have h105 : ¬ sg t N r1 = 105 := by rw [sg_out h1n]; decide
      refine x_bipush 39 C (v := 105) dX12_readTerm_39 rfl ?_
      refine x_icmp_ne 41 C 61 dX12_readTerm_41 (by decide) (fun _ => ?_) (fun c27 => absurd c27 (by decide))
      have loop61 : ∀ (fuel : Nat) (k i j q b : Nat) (Ik : xI), (k ≤ i + j) → (5 ≤ i + j + fuel) → (Ik = rg I A q i j v (tIm t N r)) → (q ≤ N) → (i + j ≤ 3) → (b ≤ 1) → (1 ≤ i + j → b = 1) → (tFac t N r = facs t N (61 - k) i j q b) → X p l e (xRm 3 63 0 0) s m args below meth c D z 2 (MQ below (xQc D z n (xN n G (xE (some (.int (bI (mOk t N r)))) (rg I A (tEnd t N r) (tFac t N r).2.1 (tFac t N r).2.2.1 (tNum t N r).1 (tIm t N r)) L))) args s 0 0 (fun a => z ≤ a)) 0 0 n G Ik L 61 [(0, .ref A), (1, .int (nI b))] [] := by
        intro fuel
        induction fuel with
        | zero =>
          intro k i j q b Ik hk hf hI hq hij hb1 hb2 hS
          exact absurd hf (by omega)
        | succ fuel ih =>
          intro k i j q b Ik hk hf hI hq hij hb1 hb2 hS
          have hTk : mx Ik A t N q := by rw [hI]; exact mx_rg hT _ _ _ _ _
          have hp1 : Ik A 19 = nI i := by rw [hI, rg_at19]
          have hp2 : Ik A 20 = nI j := by rw [hI, rg_at20]
          refine x_aload_n 61 C dX12_readTerm_61 rfl 0 rfl ?_
          refine x_callVe 62 C dX12_readTerm_62 (As := []) (rest := []) [.int (bI (unk (sg t N q) && decide (i + j < 3)))] (t_X12_isFactor l D z n G Ik L A t N q i j hM hTk hC hq hp1 hp2 (by first | omega | assumption | decide)) mt_X12_isFactor km_X12_272 ki_X12_isFactor ks_X12_isFactor hM.1 ⟨by decide, rfl⟩ rfl rfl (Nat.le_of_ble_eq_true rfl) ⟨⟨by decide, by decide⟩, by decide, by decide⟩ (fun I28 L29 eI28 eL29 => ?_)
          replace eI28 := eI28.symm; subst eI28
          replace eL29 := eL29.symm; subst eL29
          refine x_if_eq 65 C 79 dX12_readTerm_65 (by decide) (fun c30 => ?_) (fun c30 => ?_)
          · skip
            have hnf : _ := bI_0.mp c30
            refine x_iload_n 79 C dX12_readTerm_79 rfl 1 rfl ?_
            refine x_iret 80 C dX12_readTerm_80 rfl (by rcases (show b = 0 ∨ b = 1 by omega) with rfl | rfl <;> rfl) (Nat.le_refl _) (xN.intro ?_)
            have hE : ∃ bo, tFac t N r = (bo, i, j, q, b) ∧ (bo = true ∨ 3 ≤ i + j) := by
              by_cases hu : unk (sg t N q) = true
              · have h3 : 3 ≤ i + j := Decidable.byContradiction fun h => absurd hnf (by rw [hu, decide_eq_true (show i + j < 3 by omega)]; decide)
                have hf0 : (fac t N (i + j) q) = (0, q) := by unfold fac; exact if_pos h3
                exact ⟨false, by rw [hS, show 61 - k = (61 - (k + 1)) + 1 by omega]; simp only [facs]; rw [if_pos hu, hf0]; rfl, Or.inr h3⟩
              · exact ⟨true, by rw [hS, show 61 - k = (61 - (k + 1)) + 1 by omega]; simp only [facs]; exact if_neg hu, Or.inl rfl⟩
            obtain ⟨bo, hE, hbo⟩ := hE
            have hmo : mOk t N r = decide (¬ b = 0) := by unfold mOk tOk; rw [hE]; rcases hbo with h | h; (subst h; by_cases hb0 : b = 0; (have : ¬ 3 ≤ i + j := fun h3 => absurd (hb2 (by omega)) (by omega); simp [hb0, this]; try omega); (simp [hb0])); (have hb3 := hb2 (by omega); simp [hb3, h])
            exact ⟨by rw [hmo]; rcases (show b = 0 ∨ b = 1 by omega) with h | h <;> rw [h] <;> rfl, by rw [hI, hE, hv, show tEnd t N r = q by unfold tEnd; rw [hE]], rfl⟩
          · skip
            have hyf : _ := bI_n0.mp c30
            simp only [Bool.and_eq_true, decide_eq_true_eq] at hyf
            obtain ⟨hu, hij3⟩ := hyf
            have hu2 := unk_b.mp hu
            have hlt := sg_lt (t := t) (N := N) (r := q) (by omega)
            refine x_iconst 68 C (v := 1) dX12_readTerm_68 rfl ?_
            refine x_istore_n 69 C [(1, .int 1), (0, .ref A)] dX12_readTerm_69 rfl (by decide) rfl ?_
            refine x_aload_n 70 C dX12_readTerm_70 rfl 1 rfl ?_
            refine x_callVe 71 C dX12_readTerm_71 (As := []) (rest := []) [.int (bI (decide (¬ (fac t N (i + j) q).1 = 0)))] (t_X12_readFactor l D z n G Ik L A t N q i j hM (by omega) hTk hC hlt hu hij3 hp1 hp2) mt_X12_readFactor km_X12_275 ki_X12_readFactor ks_X12_readFactor hM.1 ⟨by decide, rfl⟩ rfl rfl (Nat.le_of_ble_eq_true rfl) ⟨⟨by decide, by decide⟩, by decide, by decide⟩ (fun I31 L32 eI31 eL32 => ?_)
            replace eL32 := eL32.symm; subst eL32
            refine x_if_ne 74 C 61 dX12_readTerm_74 (by decide) (fun c33 => ?_) (fun c33 => ?_)
            · skip
              have hf1 : _ := bI_n0.mp c33
              refine x_sub [(0, .ref A), (1, .int 1)] [1, 0] rfl ?_
              have hnz : ¬ (fac t N (i + j) q).1 = 0 := of_decide_eq_true hf1
              have hfo := fac_ok (t := t) (d := i + j) hlt
              have hfo1 := hfo.1 hij
              have hfo2 := hfo.2.2.1
              by_cases h120 : sg t N q = 120
              · exact ih (k + 1) (i + (fac t N (i + j) q).1) j (fac t N (i + j) q).2 1 I31 (by omega) (by omega) (by rw [eI31, if_neg hnz, hI, if_pos h120, if_pos h120, rg_18, rg_19, rg_20]) (by omega) (by omega) (by omega) (by omega) (by rw [hS, show 61 - k = (61 - (k + 1)) + 1 by omega]; simp only [facs]; rw [if_pos hu, if_neg hnz, if_pos h120])
              · exact ih (k + 1) i (j + (fac t N (i + j) q).1) (fac t N (i + j) q).2 1 I31 (by omega) (by omega) (by rw [eI31, if_neg hnz, hI, if_neg h120, if_neg h120, rg_18, rg_19, rg_20]) (by omega) (by omega) (by omega) (by omega) (by rw [hS, show 61 - k = (61 - (k + 1)) + 1 by omega]; simp only [facs]; rw [if_pos hu, if_neg hnz, if_neg h120])
            · skip
              have hf0 : _ := bI_0.mp c33
              refine x_iconst 77 C (v := 0) dX12_readTerm_77 rfl ?_
              refine x_iret 78 C dX12_readTerm_78 rfl rfl (Nat.le_refl _) (xN.intro ?_)
              have hz0 : (fac t N (i + j) q).1 = 0 := Decidable.byContradiction fun h => absurd (decide_eq_true h) (by rw [hf0]; decide)
              have hE : tFac t N r = (false, i, j, (fac t N (i + j) q).2, b) := by rw [hS, show 61 - k = (61 - (k + 1)) + 1 by omega]; simp only [facs]; rw [if_pos hu, if_pos hz0]
              have hmo : mOk t N r = false := by unfold mOk tOk; rw [hE]; simp; omega
              exact ⟨by rw [hmo]; rfl, by rw [eI31, if_pos hz0, hI, rg_18, hE, hv, show tEnd t N r = (fac t N (i + j) q).2 by unfold tEnd; rw [hE]], rfl⟩
      refine x_sub [(0, .ref A), (1, .int (bI (dgt (sg t N r))))] [0, 1] rfl ?_
      refine x_lv [(0, .ref A), (1, .int (nI (if dgt (sg t N r) = true then 1 else 0)))] (by rw [bI_nI]) ?_
      exact loop61 5 0 0 0 r1 (if dgt (sg t N r) = true then 1 else 0) I1 (by omega) (by omega) (by rw [hI1, show tIm t N r = 0 by unfold tIm; rw [hv]; exact if_neg h105]) (by omega) (by omega) (by split <;> omega) (by omega) (by show facs t N 61 0 0 (tR2 t N r) (tB0 t N r) = _; rw [show tR2 t N r = r1 by unfold tR2 tIm; rw [hv]; simp only [if_neg h105]; rfl, show tB0 t N r = (if dgt (sg t N r) = true then 1 else 0) by unfold tB0; rw [hv]; exact if_neg h105])
  refine x_if_eq 26 C 35 dX12_readTerm_26 (by decide) (fun c7 => ?_) (fun c7 => ?_)
  · skip
    have hb : _ := bI_0.mp c7
    refine x_sub [(0, .ref A), (1, .int 0)] [1, 0] rfl ?_
    refine x_lv [(0, .ref A), (1, .int (bI (dgt (sg t N r))))] (by rw [hb]; rfl) ?_
    exact join35 1 r I4 hI0 (by unfold tNum; exact if_neg (by rw [hb]; decide))
  · skip
    have hb : _ := bI_n0.mp c7
    refine x_aload_n 29 C dX12_readTerm_29 rfl 1 rfl ?_
    refine x_callVe 30 C dX12_readTerm_30 (As := []) (rest := []) [] (t_X12_readNumber l D z n G I4 L A t N r hM (by omega) hT0 hC hr) mt_X12_readNumber km_X12_269 ki_X12_readNumber ks_X12_readNumber hM.1 ⟨by decide, rfl⟩ rfl rfl (Nat.le_of_ble_eq_true rfl) ⟨⟨by decide, by decide⟩, by decide, by decide⟩ (fun I34 L35 eI34 eL35 => ?_)
    replace eL35 := eL35.symm; subst eL35
    refine x_iconst 33 C (v := 1) dX12_readTerm_33 rfl ?_
    refine x_istore_n 34 C [(1, .int 1), (0, .ref A)] dX12_readTerm_34 rfl (by decide) rfl ?_
    refine x_sub [(0, .ref A), (1, .int 1)] [1, 0] rfl ?_
    refine x_lv [(0, .ref A), (1, .int (bI (dgt (sg t N r))))] (by rw [hb]; rfl) ?_
    exact join35 (numb t N 3 r 0).1 (numb t N 3 r 0).2 I34 (by rw [eI34, hI0, two_rg]) (by unfold tNum; exact if_pos hb)
theorem dX12_bounded_0 : decode cX12_bounded 0 = .ok (.iload_n 0, 1) := by decide +kernel
theorem dX12_bounded_1 : decode cX12_bounded 1 = .ok (.sipush (-999), 3) := by decide +kernel
theorem dX12_bounded_4 : decode cX12_bounded 4 = .ok (.if_icmp .ge 9, 3) := by decide +kernel
theorem dX12_bounded_7 : decode cX12_bounded 7 = .ok (.sipush (-999), 3) := by decide +kernel
theorem dX12_bounded_10 : decode cX12_bounded 10 = .ok (.goto 17, 3) := by decide +kernel
theorem dX12_bounded_13 : decode cX12_bounded 13 = .ok (.iload_n 0, 1) := by decide +kernel
theorem dX12_bounded_14 : decode cX12_bounded 14 = .ok (.sipush 999, 3) := by decide +kernel
theorem dX12_bounded_17 : decode cX12_bounded 17 = .ok (.if_icmp .le 9, 3) := by decide +kernel
theorem dX12_bounded_20 : decode cX12_bounded 20 = .ok (.sipush 999, 3) := by decide +kernel
theorem dX12_bounded_23 : decode cX12_bounded 23 = .ok (.goto 4, 3) := by decide +kernel
theorem dX12_bounded_26 : decode cX12_bounded 26 = .ok (.iload_n 0, 1) := by decide +kernel
theorem dX12_bounded_27 : decode cX12_bounded 27 = .ok (.ireturn, 1) := by decide +kernel
set_option maxHeartbeats 1000000 in
set_option maxRecDepth 100000 in
theorem t_X12_bounded (l : Launch) (D : xD) (z n : Nat) (G : xG) (I : xI) (L : xL) (x : Int32)  : xM0 l D z yX12_bounded cX12_bounded 1 (some .int) 0 0 [.int x] n G I L (xE (some (.int (bnd x))) I L) := by
  refine xM.of (by decide) (Nat.le_of_ble_eq_true rfl) (fun p e s m args below meth c C hnm hsz => ?_)
  refine x_lv [(0, .int x)] rfl ?_
  refine x_iload_n 0 C dX12_bounded_0 rfl 0 rfl ?_
  refine x_sipush 1 C (v := (-999)) dX12_bounded_1 rfl ?_
  refine x_icmp_ge 4 C 13 dX12_bounded_4 (by decide) (fun c1 => ?_) (fun c1 => ?_)
  · skip
    have c1o := Int32.not_lt.mpr c1
    refine x_iload_n 13 C dX12_bounded_13 rfl 0 rfl ?_
    refine x_sipush 14 C (v := 999) dX12_bounded_14 rfl ?_
    refine x_icmp_le 17 C 26 dX12_bounded_17 (by decide) (fun c2 => ?_) (fun c2 => ?_)
    · skip
      have c2o := Int32.not_lt.mpr c2
      refine x_iload_n 26 C dX12_bounded_26 rfl 0 rfl ?_
      refine x_iret 27 C dX12_bounded_27 rfl rfl (Nat.le_refl _) (xN.intro ?_)
      refine ⟨?_, rfl, rfl⟩
      simp [bnd, c1, c1o, c2, c2o]
    · skip
      have c2o := Int32.not_le.mp c2
      refine x_sipush 20 C (v := 999) dX12_bounded_20 rfl ?_
      refine x_goto 23 C 27 dX12_bounded_23 (by decide) ?_
      refine x_iret 27 C dX12_bounded_27 rfl rfl (Nat.le_refl _) (xN.intro ?_)
      refine ⟨?_, rfl, rfl⟩
      simp [bnd, c1, c1o, c2, c2o]
  · skip
    have c1o := Int32.not_le.mp c1
    refine x_sipush 7 C (v := (-999)) dX12_bounded_7 rfl ?_
    refine x_goto 10 C 27 dX12_bounded_10 (by decide) ?_
    refine x_iret 27 C dX12_bounded_27 rfl rfl (Nat.le_refl _) (xN.intro ?_)
    refine ⟨?_, rfl, rfl⟩
    simp [bnd, c1, c1o]
