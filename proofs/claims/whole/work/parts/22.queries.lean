/-! PathTracker$State: what is asked of its paths -/
def cntN (p : Nat → Bool) : Nat → Nat
  | 0 => 0
  | k + 1 => cntN p k + (if p k then 1 else 0)
theorem cntN_le (p : Nat → Bool) : ∀ k, cntN p k ≤ k
  | 0 => Nat.le_refl 0
  | k + 1 => by
    have h := cntN_le p k
    simp only [cntN]
    split <;> omega
def findN (p : Nat → Bool) : Nat → Option Nat
  | 0 => none
  | k + 1 => match findN p k with
    | some i => some i
    | none => if p k then some k else none
theorem findN_lt (p : Nat → Bool) : ∀ (k i : Nat), findN p k = some i → i < k
  | 0, i, h => by cases h
  | k + 1, i, h => by
    simp only [findN] at h
    cases hk : findN p k with
    | some j => rw [hk] at h; cases h; have := findN_lt p k i hk; omega
    | none =>
      rw [hk] at h
      by_cases hp : p k = true
      · simp only [hp, if_true] at h; cases h; omega
      · simp only [hp] at h; cases h
theorem findN_none {p : Nat → Bool} {k : Nat} (h : findN p k = none) (hp : p k = false) : findN p (k + 1) = none := by simp [findN, h, hp]
theorem findN_some {p : Nat → Bool} {k : Nat} (h : findN p k = none) (hp : p k = true) : findN p (k + 1) = some k := by simp [findN, h, hp]
theorem findN_keep {p : Nat → Bool} {k i : Nat} (h : findN p k = some i) : ∀ m, k ≤ m → findN p m = some i
  | 0, hm => by
    have : k = 0 := by omega
    subst this; exact h
  | m + 1, hm => by
    by_cases hk : k = m + 1
    · subst hk; exact h
    · simp [findN, findN_keep h m (by omega)]
def oI (o : Option Nat) : Int32 := match o with
  | some i => nI i
  | none => -1
theorem oI_neg {p : Nat → Bool} {m : Nat} (hm : m ≤ 9) : oI (findN p m) < 0 ↔ findN p m = none := by
  cases h : findN p m with
  | none => simp [oI]
  | some i =>
    have hi := findN_lt p m i h
    have h2 : ¬ nI i < 0 := nI_pos (by omega)
    simp [oI, h2]
def pth (S i : Nat) : Nat := S + 11 + 3 * i
def stIs (I : xI) (S : Nat) (x : Int32) (i : Nat) : Bool := decide (I (S + 11 + 3 * i) 2 = x)
def metP (I : xI) (L : xL) (S k i : Nat) : Bool := decide (i ≠ k) && (stIs I S 1 i && pNears I L (S + 11 + 3 * i) (S + 11 + 3 * k) (I (S + 9) 5))
def realP (I : xI) (L : xL) (a : Nat) (w : Int32) : Bool := decide (iabs (ppart I L a 1) ≤ w) && decide (iabs (ppart I L a 3) ≤ w)
def befP (I : xI) (L : xL) (S k i : Nat) : Bool := decide (i ≠ k) && (stIs I S 1 i && (decide (pCmp I L (S + 11 + 3 * i) (S + 11 + 3 * k) < 0) || (decide (pCmp I L (S + 11 + 3 * i) (S + 11 + 3 * k) = 0) && decide (i < k))))
def behB (I : xI) (a b : Nat) : Bool := if I a 3 = I b 3 then decide (I a 4 < I b 4) else decide (I a 3 < I b 3)
def mbN (I : xI) (S : Nat) : Nat → Option Nat
  | 0 => none
  | k + 1 => if stIs I S 0 k && (match mbN I S k with | none => true | some f => behB I (S + 11 + 3 * k) (S + 11 + 3 * f)) then some k else mbN I S k
theorem mbN_lt (I : xI) (S : Nat) : ∀ (k i : Nat), mbN I S k = some i → i < k
  | 0, i, h => by cases h
  | k + 1, i, h => by
    simp only [mbN] at h
    generalize (stIs I S 0 k && (match mbN I S k with | none => true | some f => behB I (S + 11 + 3 * k) (S + 11 + 3 * f))) = bb at h
    cases bb with
    | true => simp at h; omega
    | false => simp at h; have := mbN_lt I S k i h; omega
theorem bI_0 {b : Bool} : bI b = 0 ↔ b = false := by cases b <;> simp [bI]
theorem bI_n0 {b : Bool} : ¬ bI b = 0 ↔ b = true := by cases b <;> simp [bI]
theorem dX9_pathsOfStatus_0 : decode cX9_pathsOfStatus 0 = .ok (.iconst 0, 1) := by decide +kernel
theorem dX9_pathsOfStatus_1 : decode cX9_pathsOfStatus 1 = .ok (.istore_n 2, 1) := by decide +kernel
theorem dX9_pathsOfStatus_2 : decode cX9_pathsOfStatus 2 = .ok (.iconst 0, 1) := by decide +kernel
theorem dX9_pathsOfStatus_3 : decode cX9_pathsOfStatus 3 = .ok (.istore_n 3, 1) := by decide +kernel
theorem dX9_pathsOfStatus_4 : decode cX9_pathsOfStatus 4 = .ok (.iload_n 3, 1) := by decide +kernel
theorem dX9_pathsOfStatus_5 : decode cX9_pathsOfStatus 5 = .ok (.aload_n 0, 1) := by decide +kernel
theorem dX9_pathsOfStatus_6 : decode cX9_pathsOfStatus 6 = .ok (.getfield 47, 3) := by decide +kernel
theorem dX9_pathsOfStatus_9 : decode cX9_pathsOfStatus 9 = .ok (.if_icmp .ge 24, 3) := by decide +kernel
theorem dX9_pathsOfStatus_12 : decode cX9_pathsOfStatus 12 = .ok (.aload_n 0, 1) := by decide +kernel
theorem dX9_pathsOfStatus_13 : decode cX9_pathsOfStatus 13 = .ok (.iload_n 3, 1) := by decide +kernel
theorem dX9_pathsOfStatus_14 : decode cX9_pathsOfStatus 14 = .ok (.invokevirtual 88, 3) := by decide +kernel
theorem dX9_pathsOfStatus_17 : decode cX9_pathsOfStatus 17 = .ok (.getfield 92, 3) := by decide +kernel
theorem dX9_pathsOfStatus_20 : decode cX9_pathsOfStatus 20 = .ok (.iload_n 1, 1) := by decide +kernel
theorem dX9_pathsOfStatus_21 : decode cX9_pathsOfStatus 21 = .ok (.if_icmp .ne 6, 3) := by decide +kernel
theorem dX9_pathsOfStatus_24 : decode cX9_pathsOfStatus 24 = .ok (.iinc 2 1, 3) := by decide +kernel
theorem dX9_pathsOfStatus_27 : decode cX9_pathsOfStatus 27 = .ok (.iinc 3 1, 3) := by decide +kernel
theorem dX9_pathsOfStatus_30 : decode cX9_pathsOfStatus 30 = .ok (.goto (-26), 3) := by decide +kernel
theorem dX9_pathsOfStatus_33 : decode cX9_pathsOfStatus 33 = .ok (.iload_n 2, 1) := by decide +kernel
theorem dX9_pathsOfStatus_34 : decode cX9_pathsOfStatus 34 = .ok (.ireturn, 1) := by decide +kernel
set_option maxHeartbeats 1000000 in
set_option maxRecDepth 100000 in
theorem t_X9_pathsOfStatus (l : Launch) (D : xD) (z n : Nat) (G : xG) (I : xI) (L : xL) (S : Nat) (x : Int32) (U : Nat) (hS : shS G S) (hU : I S 4 = nI U) (hU9 : U ≤ 9) : xM0 l D z yX9_pathsOfStatus cX9_pathsOfStatus 4 (some .int) 2 42 [.ref S, .int x] n G I L (xE (some (.int (nI (cntN (stIs I S x) U)))) I L) := by
  refine xM.of (by decide) (Nat.le_of_ble_eq_true rfl) (fun p e s m args below meth c C hnm hsz => ?_)
  refine x_lv [(0, .ref S), (1, .int x)] rfl ?_
  refine x_iconst 0 C (v := 0) dX9_pathsOfStatus_0 rfl ?_
  refine x_istore_n 1 C [(2, .int 0), (0, .ref S), (1, .int x)] dX9_pathsOfStatus_1 rfl (by decide) rfl ?_
  refine x_iconst 2 C (v := 0) dX9_pathsOfStatus_2 rfl ?_
  refine x_istore_n 3 C [(3, .int 0), (2, .int 0), (0, .ref S), (1, .int x)] dX9_pathsOfStatus_3 rfl (by decide) rfl ?_
  have loop4 : ∀ (fuel : Nat) (i : Nat), (i ≤ U) → (U + 1 ≤ i + fuel) → X p l e (xRm 2 42 0 0) s m args below meth c D z 4 (MQ below (xQc D z n (xN n G (xE (some (.int (nI (cntN (stIs I S x) U)))) I L))) args s 0 0 (fun a => z ≤ a)) 0 0 n G I L 4 [(0, .ref S), (1, .int x), (2, .int (nI (cntN (stIs I S x) i))), (3, .int (nI i))] [] := by
    intro fuel
    induction fuel with
    | zero =>
      intro i hi hf
      exact absurd hf (by omega)
    | succ fuel ih =>
      intro i hi hf
      have hcn := cntN_le (stIs I S x) i
      refine x_iload_n 4 C dX9_pathsOfStatus_4 rfl 3 rfl ?_
      refine x_aload_n 5 C dX9_pathsOfStatus_5 rfl 0 rfl ?_
      refine x_geti 6 C dX9_pathsOfStatus_6 ff_X9_47 hS.1 ?_
      refine x_int (nI U) hU ?_
      refine x_icmp_ge 9 C 33 dX9_pathsOfStatus_9 (by decide) (fun c1 => ?_) (fun c1 => ?_)
      · skip
        have c1n : U ≤ i := (nI_leI (a := U) (b := i) (by omega) (by omega)).mp c1
        have c1m : ¬ (i < U) := by omega
        have c1o := Int32.not_lt.mpr c1
        refine x_iload_n 33 C dX9_pathsOfStatus_33 rfl 2 rfl ?_
        refine x_iret 34 C dX9_pathsOfStatus_34 rfl rfl (Nat.le_refl _) (xN.intro ?_)
        have hiU : i = U := by omega
        subst hiU
        exact ⟨rfl, rfl, rfl⟩
      · skip
        have c1n : ¬ (U ≤ i) := fun h => c1 ((nI_leI (a := U) (b := i) (by omega) (by omega)).mpr h)
        have c1m : i < U := by omega
        have c1o := Int32.not_le.mp c1
        refine x_aload_n 12 C dX9_pathsOfStatus_12 rfl 0 rfl ?_
        refine x_iload_n 13 C dX9_pathsOfStatus_13 rfl 3 rfl ?_
        refine x_callVe 14 C dX9_pathsOfStatus_14 (As := [.int (nI i)]) (rest := []) [.ref (S + 11 + 3 * i)] (t_X9_pathAt l D z n G I L S i U hS (by first | assumption | omega | decide) (by first | omega | assumption | decide) (by first | omega | assumption | decide)) mt_X9_pathAt km_X9_88 ki_X9_pathAt ks_X9_pathAt hS.1 ⟨by decide, rfl⟩ rfl rfl (Nat.le_of_ble_eq_true rfl) ⟨⟨by decide, by decide⟩, by decide, by decide⟩ (fun I2 L3 eI2 eL3 => ?_)
        replace eI2 := eI2.symm; subst eI2
        replace eL3 := eL3.symm; subst eL3
        refine x_geti 17 C dX9_pathsOfStatus_17 ff_X9_92 (hS.2.2.2.2 i (by omega)).1 ?_
        refine x_iload_n 20 C dX9_pathsOfStatus_20 rfl 1 rfl ?_
        refine x_icmp_ne 21 C 27 dX9_pathsOfStatus_21 (by decide) (fun c4 => ?_) (fun c4 => ?_)
        · skip
          refine x_iinc 27 C [(3, .int (nI (i + 1))), (0, .ref S), (1, .int x), (2, .int (nI (cntN (stIs I S x) i)))] dX9_pathsOfStatus_27 3 rfl (nI_add i 1) (by decide) rfl ?_
          refine x_goto 30 C 4 dX9_pathsOfStatus_30 (by decide) ?_
          refine x_sub [(0, .ref S), (1, .int x), (2, .int (nI (cntN (stIs I S x) i))), (3, .int (nI (i + 1)))] [1, 2, 3, 0] rfl ?_
          have hp : (stIs I S x) i = false := by simp [stIs, metP, befP, c1, c1n, c1m, c1o, c4]
          refine x_lv [(0, .ref S), (1, .int x), (2, .int (nI (cntN (stIs I S x) (i + 1)))), (3, .int (nI (i + 1)))] (by simp [cntN, hp]) ?_
          exact ih (i + 1) (by omega) (by omega)
        · skip
          refine x_iinc 24 C [(2, .int (nI (cntN (stIs I S x) i + 1))), (0, .ref S), (1, .int x), (3, .int (nI i))] dX9_pathsOfStatus_24 2 rfl (nI_add (cntN (stIs I S x) i) 1) (by decide) rfl ?_
          refine x_iinc 27 C [(3, .int (nI (i + 1))), (2, .int (nI (cntN (stIs I S x) i + 1))), (0, .ref S), (1, .int x)] dX9_pathsOfStatus_27 3 rfl (nI_add i 1) (by decide) rfl ?_
          refine x_goto 30 C 4 dX9_pathsOfStatus_30 (by decide) ?_
          refine x_sub [(0, .ref S), (1, .int x), (2, .int (nI (cntN (stIs I S x) i + 1))), (3, .int (nI (i + 1)))] [2, 3, 1, 0] rfl ?_
          have hp : (stIs I S x) i = true := by simp [stIs, metP, befP, c1, c1n, c1m, c1o, c4]
          refine x_lv [(0, .ref S), (1, .int x), (2, .int (nI (cntN (stIs I S x) (i + 1)))), (3, .int (nI (i + 1)))] (by simp [cntN, hp]) ?_
          exact ih (i + 1) (by omega) (by omega)
  refine x_sub [(0, .ref S), (1, .int x), (2, .int 0), (3, .int 0)] [2, 3, 1, 0] rfl ?_
  exact loop4 (U + 1) 0 (by omega) (by omega)
theorem dX9_firstMetBelow_0 : decode cX9_firstMetBelow 0 = .ok (.iconst 0, 1) := by decide +kernel
theorem dX9_firstMetBelow_1 : decode cX9_firstMetBelow 1 = .ok (.istore_n 3, 1) := by decide +kernel
theorem dX9_firstMetBelow_2 : decode cX9_firstMetBelow 2 = .ok (.iload_n 3, 1) := by decide +kernel
theorem dX9_firstMetBelow_3 : decode cX9_firstMetBelow 3 = .ok (.iload_n 2, 1) := by decide +kernel
theorem dX9_firstMetBelow_4 : decode cX9_firstMetBelow 4 = .ok (.if_icmp .ge 70, 3) := by decide +kernel
theorem dX9_firstMetBelow_7 : decode cX9_firstMetBelow 7 = .ok (.iload_n 3, 1) := by decide +kernel
theorem dX9_firstMetBelow_8 : decode cX9_firstMetBelow 8 = .ok (.aload_n 0, 1) := by decide +kernel
theorem dX9_firstMetBelow_9 : decode cX9_firstMetBelow 9 = .ok (.getfield 47, 3) := by decide +kernel
theorem dX9_firstMetBelow_12 : decode cX9_firstMetBelow 12 = .ok (.if_icmp .ge 62, 3) := by decide +kernel
theorem dX9_firstMetBelow_15 : decode cX9_firstMetBelow 15 = .ok (.iload_n 3, 1) := by decide +kernel
theorem dX9_firstMetBelow_16 : decode cX9_firstMetBelow 16 = .ok (.iload_n 1, 1) := by decide +kernel
theorem dX9_firstMetBelow_17 : decode cX9_firstMetBelow 17 = .ok (.if_icmp .eq 19, 3) := by decide +kernel
theorem dX9_firstMetBelow_20 : decode cX9_firstMetBelow 20 = .ok (.aload_n 0, 1) := by decide +kernel
theorem dX9_firstMetBelow_21 : decode cX9_firstMetBelow 21 = .ok (.iload_n 3, 1) := by decide +kernel
theorem dX9_firstMetBelow_22 : decode cX9_firstMetBelow 22 = .ok (.invokevirtual 88, 3) := by decide +kernel
theorem dX9_firstMetBelow_25 : decode cX9_firstMetBelow 25 = .ok (.getfield 92, 3) := by decide +kernel
theorem dX9_firstMetBelow_28 : decode cX9_firstMetBelow 28 = .ok (.iconst 1, 1) := by decide +kernel
theorem dX9_firstMetBelow_29 : decode cX9_firstMetBelow 29 = .ok (.if_icmp .ne 7, 3) := by decide +kernel
theorem dX9_firstMetBelow_32 : decode cX9_firstMetBelow 32 = .ok (.iconst 1, 1) := by decide +kernel
theorem dX9_firstMetBelow_33 : decode cX9_firstMetBelow 33 = .ok (.goto 4, 3) := by decide +kernel
theorem dX9_firstMetBelow_36 : decode cX9_firstMetBelow 36 = .ok (.iconst 0, 1) := by decide +kernel
theorem dX9_firstMetBelow_37 : decode cX9_firstMetBelow 37 = .ok (.istore 4, 2) := by decide +kernel
theorem dX9_firstMetBelow_39 : decode cX9_firstMetBelow 39 = .ok (.iload 4, 2) := by decide +kernel
theorem dX9_firstMetBelow_41 : decode cX9_firstMetBelow 41 = .ok (.ifCond .eq 27, 3) := by decide +kernel
theorem dX9_firstMetBelow_44 : decode cX9_firstMetBelow 44 = .ok (.aload_n 0, 1) := by decide +kernel
theorem dX9_firstMetBelow_45 : decode cX9_firstMetBelow 45 = .ok (.iload_n 3, 1) := by decide +kernel
theorem dX9_firstMetBelow_46 : decode cX9_firstMetBelow 46 = .ok (.invokevirtual 88, 3) := by decide +kernel
theorem dX9_firstMetBelow_49 : decode cX9_firstMetBelow 49 = .ok (.aload_n 0, 1) := by decide +kernel
theorem dX9_firstMetBelow_50 : decode cX9_firstMetBelow 50 = .ok (.iload_n 1, 1) := by decide +kernel
theorem dX9_firstMetBelow_51 : decode cX9_firstMetBelow 51 = .ok (.invokevirtual 88, 3) := by decide +kernel
theorem dX9_firstMetBelow_54 : decode cX9_firstMetBelow 54 = .ok (.aload_n 0, 1) := by decide +kernel
theorem dX9_firstMetBelow_55 : decode cX9_firstMetBelow 55 = .ok (.getfield 19, 3) := by decide +kernel
theorem dX9_firstMetBelow_58 : decode cX9_firstMetBelow 58 = .ok (.iconst 5, 1) := by decide +kernel
theorem dX9_firstMetBelow_59 : decode cX9_firstMetBelow 59 = .ok (.iaload, 1) := by decide +kernel
theorem dX9_firstMetBelow_60 : decode cX9_firstMetBelow 60 = .ok (.invokevirtual 95, 3) := by decide +kernel
theorem dX9_firstMetBelow_63 : decode cX9_firstMetBelow 63 = .ok (.ifCond .eq 5, 3) := by decide +kernel
theorem dX9_firstMetBelow_66 : decode cX9_firstMetBelow 66 = .ok (.iload_n 3, 1) := by decide +kernel
theorem dX9_firstMetBelow_67 : decode cX9_firstMetBelow 67 = .ok (.ireturn, 1) := by decide +kernel
theorem dX9_firstMetBelow_68 : decode cX9_firstMetBelow 68 = .ok (.iinc 3 1, 3) := by decide +kernel
theorem dX9_firstMetBelow_71 : decode cX9_firstMetBelow 71 = .ok (.goto (-69), 3) := by decide +kernel
theorem dX9_firstMetBelow_74 : decode cX9_firstMetBelow 74 = .ok (.iconst (-1), 1) := by decide +kernel
theorem dX9_firstMetBelow_75 : decode cX9_firstMetBelow 75 = .ok (.ireturn, 1) := by decide +kernel
set_option maxHeartbeats 1000000 in
set_option maxRecDepth 100000 in
theorem t_X9_firstMetBelow (l : Launch) (D : xD) (z n : Nat) (G : xG) (I : xI) (L : xL) (S : Nat) (k : Nat) (mm : Nat) (U : Nat) (hS : shS G S) (hU : I S 4 = nI U) (hU9 : U ≤ 9) (hkU : k < U) (hmU : mm ≤ U) : xM0 l D z yX9_firstMetBelow cX9_firstMetBelow 5 (some .int) 3 69 [.ref S, .int (nI k), .int (nI mm)] n G I L (xE (some (.int (oI (findN (metP I L S k) mm)))) I L) := by
  refine xM.of (by decide) (Nat.le_of_ble_eq_true rfl) (fun p e s m args below meth c C hnm hsz => ?_)
  refine x_lv [(0, .ref S), (1, .int (nI k)), (2, .int (nI mm))] rfl ?_
  refine x_iconst 0 C (v := 0) dX9_firstMetBelow_0 rfl ?_
  refine x_istore_n 1 C [(3, .int 0), (0, .ref S), (1, .int (nI k)), (2, .int (nI mm))] dX9_firstMetBelow_1 rfl (by decide) rfl ?_
  have loop2 : ∀ (fuel : Nat) (i : Nat), (i ≤ mm) → (mm + 1 ≤ i + fuel) → (findN (metP I L S k) i = none) → X p l e (xRm 3 69 0 0) s m args below meth c D z 5 (MQ below (xQc D z n (xN n G (xE (some (.int (oI (findN (metP I L S k) mm)))) I L))) args s 0 0 (fun a => z ≤ a)) 0 0 n G I L 2 [(0, .ref S), (1, .int (nI k)), (2, .int (nI mm)), (3, .int (nI i))] [] := by
    intro fuel
    induction fuel with
    | zero =>
      intro i hi hf hn
      exact absurd hf (by omega)
    | succ fuel ih =>
      intro i hi hf hn
      refine x_iload_n 2 C dX9_firstMetBelow_2 rfl 3 rfl ?_
      refine x_iload_n 3 C dX9_firstMetBelow_3 rfl 2 rfl ?_
      refine x_icmp_ge 4 C 74 dX9_firstMetBelow_4 (by decide) (fun c1 => ?_) (fun c1 => ?_)
      · skip
        have c1n : mm ≤ i := (nI_leI (a := mm) (b := i) (by omega) (by omega)).mp c1
        have c1m : ¬ (i < mm) := by omega
        have c1o := Int32.not_lt.mpr c1
        refine x_iconst 74 C (v := (-1)) dX9_firstMetBelow_74 rfl ?_
        refine x_iret 75 C dX9_firstMetBelow_75 rfl rfl (Nat.le_refl _) (xN.intro ?_)
        have him : i = mm := by omega
        subst him
        exact ⟨by rw [hn]; rfl, rfl, rfl⟩
      · skip
        have c1n : ¬ (mm ≤ i) := fun h => c1 ((nI_leI (a := mm) (b := i) (by omega) (by omega)).mpr h)
        have c1m : i < mm := by omega
        have c1o := Int32.not_le.mp c1
        refine x_iload_n 7 C dX9_firstMetBelow_7 rfl 3 rfl ?_
        refine x_aload_n 8 C dX9_firstMetBelow_8 rfl 0 rfl ?_
        refine x_geti 9 C dX9_firstMetBelow_9 ff_X9_47 hS.1 ?_
        refine x_int (nI U) hU ?_
        refine x_icmp_ge 12 C 74 dX9_firstMetBelow_12 (by decide) (fun c2 => absurd c2 (fun h => absurd ((nI_leI (a := U) (b := i) (by omega) (by omega)).mp h) (by omega))) (fun _ => ?_)
        refine x_iload_n 15 C dX9_firstMetBelow_15 rfl 3 rfl ?_
        refine x_iload_n 16 C dX9_firstMetBelow_16 rfl 1 rfl ?_
        refine x_icmp_eq 17 C 36 dX9_firstMetBelow_17 (by decide) (fun c3 => ?_) (fun c3 => ?_)
        · skip
          have c3n : i = k := (nI_eq (a := i) (b := k) (by omega) (by omega)).mp c3
          refine x_iconst 36 C (v := 0) dX9_firstMetBelow_36 rfl ?_
          refine x_istore 37 C [(4, .int 0), (0, .ref S), (1, .int (nI k)), (2, .int (nI mm)), (3, .int (nI i))] dX9_firstMetBelow_37 (by decide) rfl ?_
          refine x_iload 39 C dX9_firstMetBelow_39 0 rfl ?_
          refine x_if_eq 41 C 68 dX9_firstMetBelow_41 (by decide) (fun _ => ?_) (fun c4 => absurd (by decide) c4)
          refine x_iinc 68 C [(3, .int (nI (i + 1))), (4, .int 0), (0, .ref S), (1, .int (nI k)), (2, .int (nI mm))] dX9_firstMetBelow_68 4 rfl (nI_add i 1) (by decide) rfl ?_
          refine x_goto 71 C 2 dX9_firstMetBelow_71 (by decide) ?_
          refine x_sub [(0, .ref S), (1, .int (nI k)), (2, .int (nI mm)), (3, .int (nI (i + 1)))] [2, 3, 4, 0] rfl ?_
          exact ih (i + 1) (by omega) (by omega) (findN_none hn (by simp [metP, stIs, c1, c1n, c1m, c1o, c3, c3n]))
        · skip
          have c3n : ¬ (i = k) := fun h => c3 ((nI_eq (a := i) (b := k) (by omega) (by omega)).mpr h)
          refine x_aload_n 20 C dX9_firstMetBelow_20 rfl 0 rfl ?_
          refine x_iload_n 21 C dX9_firstMetBelow_21 rfl 3 rfl ?_
          refine x_callVe 22 C dX9_firstMetBelow_22 (As := [.int (nI i)]) (rest := []) [.ref (S + 11 + 3 * i)] (t_X9_pathAt l D z n G I L S i U hS (by first | assumption | omega | decide) (by first | omega | assumption | decide) (by first | omega | assumption | decide)) mt_X9_pathAt km_X9_88 ki_X9_pathAt ks_X9_pathAt hS.1 ⟨by decide, rfl⟩ rfl rfl (Nat.le_of_ble_eq_true rfl) ⟨⟨by decide, by decide⟩, by decide, by decide⟩ (fun I5 L6 eI5 eL6 => ?_)
          replace eI5 := eI5.symm; subst eI5
          replace eL6 := eL6.symm; subst eL6
          refine x_geti 25 C dX9_firstMetBelow_25 ff_X9_92 (hS.2.2.2.2 i (by omega)).1 ?_
          refine x_iconst 28 C (v := 1) dX9_firstMetBelow_28 rfl ?_
          refine x_icmp_ne 29 C 36 dX9_firstMetBelow_29 (by decide) (fun c7 => ?_) (fun c7 => ?_)
          · skip
            refine x_iconst 36 C (v := 0) dX9_firstMetBelow_36 rfl ?_
            refine x_istore 37 C [(4, .int 0), (0, .ref S), (1, .int (nI k)), (2, .int (nI mm)), (3, .int (nI i))] dX9_firstMetBelow_37 (by decide) rfl ?_
            refine x_iload 39 C dX9_firstMetBelow_39 0 rfl ?_
            refine x_if_eq 41 C 68 dX9_firstMetBelow_41 (by decide) (fun _ => ?_) (fun c8 => absurd (by decide) c8)
            refine x_iinc 68 C [(3, .int (nI (i + 1))), (4, .int 0), (0, .ref S), (1, .int (nI k)), (2, .int (nI mm))] dX9_firstMetBelow_68 4 rfl (nI_add i 1) (by decide) rfl ?_
            refine x_goto 71 C 2 dX9_firstMetBelow_71 (by decide) ?_
            refine x_sub [(0, .ref S), (1, .int (nI k)), (2, .int (nI mm)), (3, .int (nI (i + 1)))] [2, 3, 4, 0] rfl ?_
            exact ih (i + 1) (by omega) (by omega) (findN_none hn (by simp [metP, stIs, c1, c1n, c1m, c1o, c3, c3n, c7]))
          · skip
            refine x_iconst 32 C (v := 1) dX9_firstMetBelow_32 rfl ?_
            refine x_goto 33 C 37 dX9_firstMetBelow_33 (by decide) ?_
            refine x_istore 37 C [(4, .int 1), (0, .ref S), (1, .int (nI k)), (2, .int (nI mm)), (3, .int (nI i))] dX9_firstMetBelow_37 (by decide) rfl ?_
            refine x_iload 39 C dX9_firstMetBelow_39 0 rfl ?_
            refine x_if_eq 41 C 68 dX9_firstMetBelow_41 (by decide) (fun c9 => absurd c9 (by decide)) (fun _ => ?_)
            refine x_aload_n 44 C dX9_firstMetBelow_44 rfl 1 rfl ?_
            refine x_iload_n 45 C dX9_firstMetBelow_45 rfl 4 rfl ?_
            refine x_callVe 46 C dX9_firstMetBelow_46 (As := [.int (nI i)]) (rest := []) [.ref (S + 11 + 3 * i)] (t_X9_pathAt l D z n G I L S i U hS (by first | assumption | omega | decide) (by first | omega | assumption | decide) (by first | omega | assumption | decide)) mt_X9_pathAt km_X9_88 ki_X9_pathAt ks_X9_pathAt hS.1 ⟨by decide, rfl⟩ rfl rfl (Nat.le_of_ble_eq_true rfl) ⟨⟨by decide, by decide⟩, by decide, by decide⟩ (fun I10 L11 eI10 eL11 => ?_)
            replace eI10 := eI10.symm; subst eI10
            replace eL11 := eL11.symm; subst eL11
            refine x_aload_n 49 C dX9_firstMetBelow_49 rfl 1 rfl ?_
            refine x_iload_n 50 C dX9_firstMetBelow_50 rfl 2 rfl ?_
            refine x_callVe 51 C dX9_firstMetBelow_51 (As := [.int (nI k)]) (rest := [.ref (S + 11 + 3 * i)]) [.ref (S + 11 + 3 * k), .ref (S + 11 + 3 * i)] (t_X9_pathAt l D z n G I L S k U hS (by first | assumption | omega | decide) (by first | omega | assumption | decide) (by first | omega | assumption | decide)) mt_X9_pathAt km_X9_88 ki_X9_pathAt ks_X9_pathAt hS.1 ⟨by decide, rfl⟩ rfl rfl (Nat.le_of_ble_eq_true rfl) ⟨⟨by decide, by decide⟩, by decide, by decide⟩ (fun I12 L13 eI12 eL13 => ?_)
            replace eI12 := eI12.symm; subst eI12
            replace eL13 := eL13.symm; subst eL13
            refine x_aload_n 54 C dX9_firstMetBelow_54 rfl 1 rfl ?_
            refine x_getr 55 C (b := S + 9) dX9_firstMetBelow_55 ff_X9_19 rfl hS.1 rfl ?_
            refine x_iconst 58 C (v := 5) dX9_firstMetBelow_58 rfl ?_
            refine x_iald 59 C (j := 5) dX9_firstMetBelow_59 hS.2.2.1 ⟨by decide, by decide, by decide⟩ ?_
            refine x_callVe 60 C dX9_firstMetBelow_60 (As := [.ref (S + 11 + 3 * k), .int (I (S + 9) 5)]) (rest := []) [.int (bI (pNears I L (S + 11 + 3 * i) (S + 11 + 3 * k) (I (S + 9) 5)))] (t_X6_isNear l D z n G I L (S + 11 + 3 * i) (S + 11 + 3 * k) (I (S + 9) 5) (hS.2.2.2.2 i (by omega)) (hS.2.2.2.2 k (by omega))) mt_X6_isNear km_X9_95 ki_X6_isNear ks_X6_isNear (hS.2.2.2.2 i (by omega)).1 ⟨by decide, rfl⟩ rfl rfl (Nat.le_of_ble_eq_true rfl) ⟨⟨by decide, by decide⟩, by decide, by decide⟩ (fun I14 L15 eI14 eL15 => ?_)
            replace eI14 := eI14.symm; subst eI14
            replace eL15 := eL15.symm; subst eL15
            refine x_if_eq 63 C 68 dX9_firstMetBelow_63 (by decide) (fun c16 => ?_) (fun c16 => ?_)
            · skip
              have hb : _ := bI_0.mp c16
              refine x_iinc 68 C [(3, .int (nI (i + 1))), (4, .int 1), (0, .ref S), (1, .int (nI k)), (2, .int (nI mm))] dX9_firstMetBelow_68 4 rfl (nI_add i 1) (by decide) rfl ?_
              refine x_goto 71 C 2 dX9_firstMetBelow_71 (by decide) ?_
              refine x_sub [(0, .ref S), (1, .int (nI k)), (2, .int (nI mm)), (3, .int (nI (i + 1)))] [2, 3, 4, 0] rfl ?_
              exact ih (i + 1) (by omega) (by omega) (findN_none hn (by simp [metP, stIs, c1, c1n, c1m, c1o, c3, c3n, c7, c16, hb]))
            · skip
              have hb : _ := bI_n0.mp c16
              refine x_iload_n 66 C dX9_firstMetBelow_66 rfl 4 rfl ?_
              refine x_iret 67 C dX9_firstMetBelow_67 rfl rfl (Nat.le_refl _) (xN.intro ?_)
              exact ⟨by rw [findN_keep (findN_some hn (by simp [metP, stIs, c1, c1n, c1m, c1o, c3, c3n, c7, c16, hb])) mm (by omega)]; rfl, rfl, rfl⟩
  refine x_sub [(0, .ref S), (1, .int (nI k)), (2, .int (nI mm)), (3, .int 0)] [1, 2, 3, 0] rfl ?_
  exact loop2 (mm + 1) 0 (by omega) (by omega) rfl
theorem dX9_distinctEnds_0 : decode cX9_distinctEnds 0 = .ok (.iconst 0, 1) := by decide +kernel
theorem dX9_distinctEnds_1 : decode cX9_distinctEnds 1 = .ok (.istore_n 1, 1) := by decide +kernel
theorem dX9_distinctEnds_2 : decode cX9_distinctEnds 2 = .ok (.iconst 0, 1) := by decide +kernel
theorem dX9_distinctEnds_3 : decode cX9_distinctEnds 3 = .ok (.istore_n 2, 1) := by decide +kernel
theorem dX9_distinctEnds_4 : decode cX9_distinctEnds 4 = .ok (.iload_n 2, 1) := by decide +kernel
theorem dX9_distinctEnds_5 : decode cX9_distinctEnds 5 = .ok (.aload_n 0, 1) := by decide +kernel
theorem dX9_distinctEnds_6 : decode cX9_distinctEnds 6 = .ok (.getfield 47, 3) := by decide +kernel
theorem dX9_distinctEnds_9 : decode cX9_distinctEnds 9 = .ok (.if_icmp .ge 33, 3) := by decide +kernel
theorem dX9_distinctEnds_12 : decode cX9_distinctEnds 12 = .ok (.aload_n 0, 1) := by decide +kernel
theorem dX9_distinctEnds_13 : decode cX9_distinctEnds 13 = .ok (.iload_n 2, 1) := by decide +kernel
theorem dX9_distinctEnds_14 : decode cX9_distinctEnds 14 = .ok (.invokevirtual 88, 3) := by decide +kernel
theorem dX9_distinctEnds_17 : decode cX9_distinctEnds 17 = .ok (.getfield 92, 3) := by decide +kernel
theorem dX9_distinctEnds_20 : decode cX9_distinctEnds 20 = .ok (.iconst 1, 1) := by decide +kernel
theorem dX9_distinctEnds_21 : decode cX9_distinctEnds 21 = .ok (.if_icmp .ne 15, 3) := by decide +kernel
theorem dX9_distinctEnds_24 : decode cX9_distinctEnds 24 = .ok (.aload_n 0, 1) := by decide +kernel
theorem dX9_distinctEnds_25 : decode cX9_distinctEnds 25 = .ok (.iload_n 2, 1) := by decide +kernel
theorem dX9_distinctEnds_26 : decode cX9_distinctEnds 26 = .ok (.iload_n 2, 1) := by decide +kernel
theorem dX9_distinctEnds_27 : decode cX9_distinctEnds 27 = .ok (.invokevirtual 99, 3) := by decide +kernel
theorem dX9_distinctEnds_30 : decode cX9_distinctEnds 30 = .ok (.ifCond .ge 6, 3) := by decide +kernel
theorem dX9_distinctEnds_33 : decode cX9_distinctEnds 33 = .ok (.iinc 1 1, 3) := by decide +kernel
theorem dX9_distinctEnds_36 : decode cX9_distinctEnds 36 = .ok (.iinc 2 1, 3) := by decide +kernel
theorem dX9_distinctEnds_39 : decode cX9_distinctEnds 39 = .ok (.goto (-35), 3) := by decide +kernel
theorem dX9_distinctEnds_42 : decode cX9_distinctEnds 42 = .ok (.iload_n 1, 1) := by decide +kernel
theorem dX9_distinctEnds_43 : decode cX9_distinctEnds 43 = .ok (.ireturn, 1) := by decide +kernel
set_option maxHeartbeats 1000000 in
set_option maxRecDepth 100000 in
theorem t_X9_distinctEnds (l : Launch) (D : xD) (z n : Nat) (G : xG) (I : xI) (L : xL) (S : Nat) (U : Nat) (hS : shS G S) (hU : I S 4 = nI U) (hU9 : U ≤ 9) : xM0 l D z yX9_distinctEnds cX9_distinctEnds 3 (some .int) 4 93 [.ref S] n G I L (xE (some (.int (nI (cntN (fun i => stIs I S 1 i && (findN (metP I L S i) i).isNone) U)))) I L) := by
  refine xM.of (by decide) (Nat.le_of_ble_eq_true rfl) (fun p e s m args below meth c C hnm hsz => ?_)
  refine x_lv [(0, .ref S)] rfl ?_
  refine x_iconst 0 C (v := 0) dX9_distinctEnds_0 rfl ?_
  refine x_istore_n 1 C [(1, .int 0), (0, .ref S)] dX9_distinctEnds_1 rfl (by decide) rfl ?_
  refine x_iconst 2 C (v := 0) dX9_distinctEnds_2 rfl ?_
  refine x_istore_n 3 C [(2, .int 0), (1, .int 0), (0, .ref S)] dX9_distinctEnds_3 rfl (by decide) rfl ?_
  have loop4 : ∀ (fuel : Nat) (i : Nat), (i ≤ U) → (U + 1 ≤ i + fuel) → X p l e (xRm 4 93 0 0) s m args below meth c D z 3 (MQ below (xQc D z n (xN n G (xE (some (.int (nI (cntN (fun i => stIs I S 1 i && (findN (metP I L S i) i).isNone) U)))) I L))) args s 0 0 (fun a => z ≤ a)) 0 0 n G I L 4 [(0, .ref S), (1, .int (nI (cntN (fun i => stIs I S 1 i && (findN (metP I L S i) i).isNone) i))), (2, .int (nI i))] [] := by
    intro fuel
    induction fuel with
    | zero =>
      intro i hi hf
      exact absurd hf (by omega)
    | succ fuel ih =>
      intro i hi hf
      have hcn := cntN_le (fun i => stIs I S 1 i && (findN (metP I L S i) i).isNone) i
      refine x_iload_n 4 C dX9_distinctEnds_4 rfl 2 rfl ?_
      refine x_aload_n 5 C dX9_distinctEnds_5 rfl 0 rfl ?_
      refine x_geti 6 C dX9_distinctEnds_6 ff_X9_47 hS.1 ?_
      refine x_int (nI U) hU ?_
      refine x_icmp_ge 9 C 42 dX9_distinctEnds_9 (by decide) (fun c1 => ?_) (fun c1 => ?_)
      · skip
        have c1n : U ≤ i := (nI_leI (a := U) (b := i) (by omega) (by omega)).mp c1
        have c1m : ¬ (i < U) := by omega
        have c1o := Int32.not_lt.mpr c1
        refine x_iload_n 42 C dX9_distinctEnds_42 rfl 1 rfl ?_
        refine x_iret 43 C dX9_distinctEnds_43 rfl rfl (Nat.le_refl _) (xN.intro ?_)
        have hiU : i = U := by omega
        subst hiU
        exact ⟨rfl, rfl, rfl⟩
      · skip
        have c1n : ¬ (U ≤ i) := fun h => c1 ((nI_leI (a := U) (b := i) (by omega) (by omega)).mpr h)
        have c1m : i < U := by omega
        have c1o := Int32.not_le.mp c1
        refine x_aload_n 12 C dX9_distinctEnds_12 rfl 0 rfl ?_
        refine x_iload_n 13 C dX9_distinctEnds_13 rfl 2 rfl ?_
        refine x_callVe 14 C dX9_distinctEnds_14 (As := [.int (nI i)]) (rest := []) [.ref (S + 11 + 3 * i)] (t_X9_pathAt l D z n G I L S i U hS (by first | assumption | omega | decide) (by first | omega | assumption | decide) (by first | omega | assumption | decide)) mt_X9_pathAt km_X9_88 ki_X9_pathAt ks_X9_pathAt hS.1 ⟨by decide, rfl⟩ rfl rfl (Nat.le_of_ble_eq_true rfl) ⟨⟨by decide, by decide⟩, by decide, by decide⟩ (fun I2 L3 eI2 eL3 => ?_)
        replace eI2 := eI2.symm; subst eI2
        replace eL3 := eL3.symm; subst eL3
        refine x_geti 17 C dX9_distinctEnds_17 ff_X9_92 (hS.2.2.2.2 i (by omega)).1 ?_
        refine x_iconst 20 C (v := 1) dX9_distinctEnds_20 rfl ?_
        refine x_icmp_ne 21 C 36 dX9_distinctEnds_21 (by decide) (fun c4 => ?_) (fun c4 => ?_)
        · skip
          refine x_iinc 36 C [(2, .int (nI (i + 1))), (0, .ref S), (1, .int (nI (cntN (fun i => stIs I S 1 i && (findN (metP I L S i) i).isNone) i)))] dX9_distinctEnds_36 2 rfl (nI_add i 1) (by decide) rfl ?_
          refine x_goto 39 C 4 dX9_distinctEnds_39 (by decide) ?_
          refine x_sub [(0, .ref S), (1, .int (nI (cntN (fun i => stIs I S 1 i && (findN (metP I L S i) i).isNone) i))), (2, .int (nI (i + 1)))] [1, 2, 0] rfl ?_
          have hp : (fun i => stIs I S 1 i && (findN (metP I L S i) i).isNone) i = false := by simp [stIs, metP, befP, c1, c1n, c1m, c1o, c4]
          refine x_lv [(0, .ref S), (1, .int (nI (cntN (fun i => stIs I S 1 i && (findN (metP I L S i) i).isNone) (i + 1)))), (2, .int (nI (i + 1)))] (by simp [cntN, hp]) ?_
          exact ih (i + 1) (by omega) (by omega)
        · skip
          refine x_aload_n 24 C dX9_distinctEnds_24 rfl 0 rfl ?_
          refine x_iload_n 25 C dX9_distinctEnds_25 rfl 2 rfl ?_
          refine x_iload_n 26 C dX9_distinctEnds_26 rfl 2 rfl ?_
          refine x_callVe 27 C dX9_distinctEnds_27 (As := [.int (nI i), .int (nI i)]) (rest := []) [.int (oI (findN (metP I L S i) i))] (t_X9_firstMetBelow l D z n G I L S i i U hS (by first | assumption | omega | decide) (by first | omega | assumption | decide) (by first | omega | assumption | decide) (by first | omega | assumption | decide)) mt_X9_firstMetBelow km_X9_99 ki_X9_firstMetBelow ks_X9_firstMetBelow hS.1 ⟨by decide, rfl⟩ rfl rfl (Nat.le_of_ble_eq_true rfl) ⟨⟨by decide, by decide⟩, by decide, by decide⟩ (fun I5 L6 eI5 eL6 => ?_)
          replace eI5 := eI5.symm; subst eI5
          replace eL6 := eL6.symm; subst eL6
          refine x_if_ge 30 C 36 dX9_distinctEnds_30 (by decide) (fun c7 => ?_) (fun c7 => ?_)
          · skip
            have c7o := Int32.not_lt.mpr c7
            have hb : (findN (metP I L S i) i).isNone = false := by cases hx : findN (metP I L S i) i with | none => exact absurd ((oI_neg (by omega)).mpr hx) (Int32.not_lt.mpr c7) | some _ => rfl
            refine x_iinc 36 C [(2, .int (nI (i + 1))), (0, .ref S), (1, .int (nI (cntN (fun i => stIs I S 1 i && (findN (metP I L S i) i).isNone) i)))] dX9_distinctEnds_36 2 rfl (nI_add i 1) (by decide) rfl ?_
            refine x_goto 39 C 4 dX9_distinctEnds_39 (by decide) ?_
            refine x_sub [(0, .ref S), (1, .int (nI (cntN (fun i => stIs I S 1 i && (findN (metP I L S i) i).isNone) i))), (2, .int (nI (i + 1)))] [1, 2, 0] rfl ?_
            have hp : (fun i => stIs I S 1 i && (findN (metP I L S i) i).isNone) i = false := by simp [stIs, metP, befP, c1, c1n, c1m, c1o, c4, c7, c7o, hb]
            refine x_lv [(0, .ref S), (1, .int (nI (cntN (fun i => stIs I S 1 i && (findN (metP I L S i) i).isNone) (i + 1)))), (2, .int (nI (i + 1)))] (by simp [cntN, hp]) ?_
            exact ih (i + 1) (by omega) (by omega)
          · skip
            have c7o := Int32.not_le.mp c7
            have hb : (findN (metP I L S i) i).isNone = true := by rw [(oI_neg (by omega)).mp (Int32.not_le.mp c7)]; rfl
            refine x_iinc 33 C [(1, .int (nI (cntN (fun i => stIs I S 1 i && (findN (metP I L S i) i).isNone) i + 1))), (0, .ref S), (2, .int (nI i))] dX9_distinctEnds_33 1 rfl (nI_add (cntN (fun i => stIs I S 1 i && (findN (metP I L S i) i).isNone) i) 1) (by decide) rfl ?_
            refine x_iinc 36 C [(2, .int (nI (i + 1))), (1, .int (nI (cntN (fun i => stIs I S 1 i && (findN (metP I L S i) i).isNone) i + 1))), (0, .ref S)] dX9_distinctEnds_36 2 rfl (nI_add i 1) (by decide) rfl ?_
            refine x_goto 39 C 4 dX9_distinctEnds_39 (by decide) ?_
            refine x_sub [(0, .ref S), (1, .int (nI (cntN (fun i => stIs I S 1 i && (findN (metP I L S i) i).isNone) i + 1))), (2, .int (nI (i + 1)))] [2, 1, 0] rfl ?_
            have hp : (fun i => stIs I S 1 i && (findN (metP I L S i) i).isNone) i = true := by simp [stIs, metP, befP, c1, c1n, c1m, c1o, c4, c7, c7o, hb]
            refine x_lv [(0, .ref S), (1, .int (nI (cntN (fun i => stIs I S 1 i && (findN (metP I L S i) i).isNone) (i + 1)))), (2, .int (nI (i + 1)))] (by simp [cntN, hp]) ?_
            exact ih (i + 1) (by omega) (by omega)
  refine x_sub [(0, .ref S), (1, .int 0), (2, .int 0)] [2, 1, 0] rfl ?_
  exact loop4 (U + 1) 0 (by omega) (by omega)
theorem dX9_realEnds_0 : decode cX9_realEnds 0 = .ok (.iconst 0, 1) := by decide +kernel
theorem dX9_realEnds_1 : decode cX9_realEnds 1 = .ok (.istore_n 1, 1) := by decide +kernel
theorem dX9_realEnds_2 : decode cX9_realEnds 2 = .ok (.iconst 0, 1) := by decide +kernel
theorem dX9_realEnds_3 : decode cX9_realEnds 3 = .ok (.istore_n 2, 1) := by decide +kernel
theorem dX9_realEnds_4 : decode cX9_realEnds 4 = .ok (.iload_n 2, 1) := by decide +kernel
theorem dX9_realEnds_5 : decode cX9_realEnds 5 = .ok (.aload_n 0, 1) := by decide +kernel
theorem dX9_realEnds_6 : decode cX9_realEnds 6 = .ok (.getfield 47, 3) := by decide +kernel
theorem dX9_realEnds_9 : decode cX9_realEnds 9 = .ok (.if_icmp .ge 41, 3) := by decide +kernel
theorem dX9_realEnds_12 : decode cX9_realEnds 12 = .ok (.aload_n 0, 1) := by decide +kernel
theorem dX9_realEnds_13 : decode cX9_realEnds 13 = .ok (.iload_n 2, 1) := by decide +kernel
theorem dX9_realEnds_14 : decode cX9_realEnds 14 = .ok (.invokevirtual 88, 3) := by decide +kernel
theorem dX9_realEnds_17 : decode cX9_realEnds 17 = .ok (.getfield 92, 3) := by decide +kernel
theorem dX9_realEnds_20 : decode cX9_realEnds 20 = .ok (.iconst 1, 1) := by decide +kernel
theorem dX9_realEnds_21 : decode cX9_realEnds 21 = .ok (.if_icmp .ne 23, 3) := by decide +kernel
theorem dX9_realEnds_24 : decode cX9_realEnds 24 = .ok (.aload_n 0, 1) := by decide +kernel
theorem dX9_realEnds_25 : decode cX9_realEnds 25 = .ok (.iload_n 2, 1) := by decide +kernel
theorem dX9_realEnds_26 : decode cX9_realEnds 26 = .ok (.invokevirtual 88, 3) := by decide +kernel
theorem dX9_realEnds_29 : decode cX9_realEnds 29 = .ok (.aload_n 0, 1) := by decide +kernel
theorem dX9_realEnds_30 : decode cX9_realEnds 30 = .ok (.getfield 19, 3) := by decide +kernel
theorem dX9_realEnds_33 : decode cX9_realEnds 33 = .ok (.iconst 5, 1) := by decide +kernel
theorem dX9_realEnds_34 : decode cX9_realEnds 34 = .ok (.iaload, 1) := by decide +kernel
theorem dX9_realEnds_35 : decode cX9_realEnds 35 = .ok (.invokevirtual 102, 3) := by decide +kernel
theorem dX9_realEnds_38 : decode cX9_realEnds 38 = .ok (.ifCond .eq 6, 3) := by decide +kernel
theorem dX9_realEnds_41 : decode cX9_realEnds 41 = .ok (.iinc 1 1, 3) := by decide +kernel
theorem dX9_realEnds_44 : decode cX9_realEnds 44 = .ok (.iinc 2 1, 3) := by decide +kernel
theorem dX9_realEnds_47 : decode cX9_realEnds 47 = .ok (.goto (-43), 3) := by decide +kernel
theorem dX9_realEnds_50 : decode cX9_realEnds 50 = .ok (.iload_n 1, 1) := by decide +kernel
theorem dX9_realEnds_51 : decode cX9_realEnds 51 = .ok (.ireturn, 1) := by decide +kernel
set_option maxHeartbeats 1000000 in
set_option maxRecDepth 100000 in
theorem t_X9_realEnds (l : Launch) (D : xD) (z n : Nat) (G : xG) (I : xI) (L : xL) (S : Nat) (U : Nat) (hS : shS G S) (hU : I S 4 = nI U) (hU9 : U ≤ 9) : xM0 l D z yX9_realEnds cX9_realEnds 3 (some .int) 3 65 [.ref S] n G I L (xE (some (.int (nI (cntN (fun i => stIs I S 1 i && realP I L (S + 11 + 3 * i) (I (S + 9) 5)) U)))) I L) := by
  refine xM.of (by decide) (Nat.le_of_ble_eq_true rfl) (fun p e s m args below meth c C hnm hsz => ?_)
  refine x_lv [(0, .ref S)] rfl ?_
  refine x_iconst 0 C (v := 0) dX9_realEnds_0 rfl ?_
  refine x_istore_n 1 C [(1, .int 0), (0, .ref S)] dX9_realEnds_1 rfl (by decide) rfl ?_
  refine x_iconst 2 C (v := 0) dX9_realEnds_2 rfl ?_
  refine x_istore_n 3 C [(2, .int 0), (1, .int 0), (0, .ref S)] dX9_realEnds_3 rfl (by decide) rfl ?_
  have loop4 : ∀ (fuel : Nat) (i : Nat), (i ≤ U) → (U + 1 ≤ i + fuel) → X p l e (xRm 3 65 0 0) s m args below meth c D z 3 (MQ below (xQc D z n (xN n G (xE (some (.int (nI (cntN (fun i => stIs I S 1 i && realP I L (S + 11 + 3 * i) (I (S + 9) 5)) U)))) I L))) args s 0 0 (fun a => z ≤ a)) 0 0 n G I L 4 [(0, .ref S), (1, .int (nI (cntN (fun i => stIs I S 1 i && realP I L (S + 11 + 3 * i) (I (S + 9) 5)) i))), (2, .int (nI i))] [] := by
    intro fuel
    induction fuel with
    | zero =>
      intro i hi hf
      exact absurd hf (by omega)
    | succ fuel ih =>
      intro i hi hf
      have hcn := cntN_le (fun i => stIs I S 1 i && realP I L (S + 11 + 3 * i) (I (S + 9) 5)) i
      refine x_iload_n 4 C dX9_realEnds_4 rfl 2 rfl ?_
      refine x_aload_n 5 C dX9_realEnds_5 rfl 0 rfl ?_
      refine x_geti 6 C dX9_realEnds_6 ff_X9_47 hS.1 ?_
      refine x_int (nI U) hU ?_
      refine x_icmp_ge 9 C 50 dX9_realEnds_9 (by decide) (fun c1 => ?_) (fun c1 => ?_)
      · skip
        have c1n : U ≤ i := (nI_leI (a := U) (b := i) (by omega) (by omega)).mp c1
        have c1m : ¬ (i < U) := by omega
        have c1o := Int32.not_lt.mpr c1
        refine x_iload_n 50 C dX9_realEnds_50 rfl 1 rfl ?_
        refine x_iret 51 C dX9_realEnds_51 rfl rfl (Nat.le_refl _) (xN.intro ?_)
        have hiU : i = U := by omega
        subst hiU
        exact ⟨rfl, rfl, rfl⟩
      · skip
        have c1n : ¬ (U ≤ i) := fun h => c1 ((nI_leI (a := U) (b := i) (by omega) (by omega)).mpr h)
        have c1m : i < U := by omega
        have c1o := Int32.not_le.mp c1
        refine x_aload_n 12 C dX9_realEnds_12 rfl 0 rfl ?_
        refine x_iload_n 13 C dX9_realEnds_13 rfl 2 rfl ?_
        refine x_callVe 14 C dX9_realEnds_14 (As := [.int (nI i)]) (rest := []) [.ref (S + 11 + 3 * i)] (t_X9_pathAt l D z n G I L S i U hS (by first | assumption | omega | decide) (by first | omega | assumption | decide) (by first | omega | assumption | decide)) mt_X9_pathAt km_X9_88 ki_X9_pathAt ks_X9_pathAt hS.1 ⟨by decide, rfl⟩ rfl rfl (Nat.le_of_ble_eq_true rfl) ⟨⟨by decide, by decide⟩, by decide, by decide⟩ (fun I2 L3 eI2 eL3 => ?_)
        replace eI2 := eI2.symm; subst eI2
        replace eL3 := eL3.symm; subst eL3
        refine x_geti 17 C dX9_realEnds_17 ff_X9_92 (hS.2.2.2.2 i (by omega)).1 ?_
        refine x_iconst 20 C (v := 1) dX9_realEnds_20 rfl ?_
        refine x_icmp_ne 21 C 44 dX9_realEnds_21 (by decide) (fun c4 => ?_) (fun c4 => ?_)
        · skip
          refine x_iinc 44 C [(2, .int (nI (i + 1))), (0, .ref S), (1, .int (nI (cntN (fun i => stIs I S 1 i && realP I L (S + 11 + 3 * i) (I (S + 9) 5)) i)))] dX9_realEnds_44 2 rfl (nI_add i 1) (by decide) rfl ?_
          refine x_goto 47 C 4 dX9_realEnds_47 (by decide) ?_
          refine x_sub [(0, .ref S), (1, .int (nI (cntN (fun i => stIs I S 1 i && realP I L (S + 11 + 3 * i) (I (S + 9) 5)) i))), (2, .int (nI (i + 1)))] [1, 2, 0] rfl ?_
          have hp : (fun i => stIs I S 1 i && realP I L (S + 11 + 3 * i) (I (S + 9) 5)) i = false := by simp [stIs, metP, befP, c1, c1n, c1m, c1o, c4]
          refine x_lv [(0, .ref S), (1, .int (nI (cntN (fun i => stIs I S 1 i && realP I L (S + 11 + 3 * i) (I (S + 9) 5)) (i + 1)))), (2, .int (nI (i + 1)))] (by simp [cntN, hp]) ?_
          exact ih (i + 1) (by omega) (by omega)
        · skip
          refine x_aload_n 24 C dX9_realEnds_24 rfl 0 rfl ?_
          refine x_iload_n 25 C dX9_realEnds_25 rfl 2 rfl ?_
          refine x_callVe 26 C dX9_realEnds_26 (As := [.int (nI i)]) (rest := []) [.ref (S + 11 + 3 * i)] (t_X9_pathAt l D z n G I L S i U hS (by first | assumption | omega | decide) (by first | omega | assumption | decide) (by first | omega | assumption | decide)) mt_X9_pathAt km_X9_88 ki_X9_pathAt ks_X9_pathAt hS.1 ⟨by decide, rfl⟩ rfl rfl (Nat.le_of_ble_eq_true rfl) ⟨⟨by decide, by decide⟩, by decide, by decide⟩ (fun I5 L6 eI5 eL6 => ?_)
          replace eI5 := eI5.symm; subst eI5
          replace eL6 := eL6.symm; subst eL6
          refine x_aload_n 29 C dX9_realEnds_29 rfl 0 rfl ?_
          refine x_getr 30 C (b := S + 9) dX9_realEnds_30 ff_X9_19 rfl hS.1 rfl ?_
          refine x_iconst 33 C (v := 5) dX9_realEnds_33 rfl ?_
          refine x_iald 34 C (j := 5) dX9_realEnds_34 hS.2.2.1 ⟨by decide, by decide, by decide⟩ ?_
          refine x_callVe 35 C dX9_realEnds_35 (As := [.int (I (S + 9) 5)]) (rest := []) [.int (bI (decide (iabs (ppart I L (S + 11 + 3 * i) 1) ≤ (I (S + 9) 5)) && decide (iabs (ppart I L (S + 11 + 3 * i) 3) ≤ (I (S + 9) 5))))] (t_X6_isReal l D z n G I L (S + 11 + 3 * i) (I (S + 9) 5) (hS.2.2.2.2 i (by omega))) mt_X6_isReal km_X9_102 ki_X6_isReal ks_X6_isReal (hS.2.2.2.2 i (by omega)).1 ⟨by decide, rfl⟩ rfl rfl (Nat.le_of_ble_eq_true rfl) ⟨⟨by decide, by decide⟩, by decide, by decide⟩ (fun I7 L8 eI7 eL8 => ?_)
          replace eI7 := eI7.symm; subst eI7
          replace eL8 := eL8.symm; subst eL8
          refine x_int (bI (realP I L (S + 11 + 3 * i) (I (S + 9) 5))) rfl ?_
          refine x_if_eq 38 C 44 dX9_realEnds_38 (by decide) (fun c9 => ?_) (fun c9 => ?_)
          · skip
            have hb : _ := bI_0.mp c9
            refine x_iinc 44 C [(2, .int (nI (i + 1))), (0, .ref S), (1, .int (nI (cntN (fun i => stIs I S 1 i && realP I L (S + 11 + 3 * i) (I (S + 9) 5)) i)))] dX9_realEnds_44 2 rfl (nI_add i 1) (by decide) rfl ?_
            refine x_goto 47 C 4 dX9_realEnds_47 (by decide) ?_
            refine x_sub [(0, .ref S), (1, .int (nI (cntN (fun i => stIs I S 1 i && realP I L (S + 11 + 3 * i) (I (S + 9) 5)) i))), (2, .int (nI (i + 1)))] [1, 2, 0] rfl ?_
            have hp : (fun i => stIs I S 1 i && realP I L (S + 11 + 3 * i) (I (S + 9) 5)) i = false := by simp [stIs, metP, befP, c1, c1n, c1m, c1o, c4, c9, hb]
            refine x_lv [(0, .ref S), (1, .int (nI (cntN (fun i => stIs I S 1 i && realP I L (S + 11 + 3 * i) (I (S + 9) 5)) (i + 1)))), (2, .int (nI (i + 1)))] (by simp [cntN, hp]) ?_
            exact ih (i + 1) (by omega) (by omega)
          · skip
            have hb : _ := bI_n0.mp c9
            refine x_iinc 41 C [(1, .int (nI (cntN (fun i => stIs I S 1 i && realP I L (S + 11 + 3 * i) (I (S + 9) 5)) i + 1))), (0, .ref S), (2, .int (nI i))] dX9_realEnds_41 1 rfl (nI_add (cntN (fun i => stIs I S 1 i && realP I L (S + 11 + 3 * i) (I (S + 9) 5)) i) 1) (by decide) rfl ?_
            refine x_iinc 44 C [(2, .int (nI (i + 1))), (1, .int (nI (cntN (fun i => stIs I S 1 i && realP I L (S + 11 + 3 * i) (I (S + 9) 5)) i + 1))), (0, .ref S)] dX9_realEnds_44 2 rfl (nI_add i 1) (by decide) rfl ?_
            refine x_goto 47 C 4 dX9_realEnds_47 (by decide) ?_
            refine x_sub [(0, .ref S), (1, .int (nI (cntN (fun i => stIs I S 1 i && realP I L (S + 11 + 3 * i) (I (S + 9) 5)) i + 1))), (2, .int (nI (i + 1)))] [2, 1, 0] rfl ?_
            have hp : (fun i => stIs I S 1 i && realP I L (S + 11 + 3 * i) (I (S + 9) 5)) i = true := by simp [stIs, metP, befP, c1, c1n, c1m, c1o, c4, c9, hb]
            refine x_lv [(0, .ref S), (1, .int (nI (cntN (fun i => stIs I S 1 i && realP I L (S + 11 + 3 * i) (I (S + 9) 5)) (i + 1)))), (2, .int (nI (i + 1)))] (by simp [cntN, hp]) ?_
            exact ih (i + 1) (by omega) (by omega)
  refine x_sub [(0, .ref S), (1, .int 0), (2, .int 0)] [2, 1, 0] rfl ?_
  exact loop4 (U + 1) 0 (by omega) (by omega)
theorem dX9_isBehind_0 : decode cX9_isBehind 0 = .ok (.aload_n 0, 1) := by decide +kernel
theorem dX9_isBehind_1 : decode cX9_isBehind 1 = .ok (.getfield 109, 3) := by decide +kernel
theorem dX9_isBehind_4 : decode cX9_isBehind 4 = .ok (.aload_n 1, 1) := by decide +kernel
theorem dX9_isBehind_5 : decode cX9_isBehind 5 = .ok (.getfield 109, 3) := by decide +kernel
theorem dX9_isBehind_8 : decode cX9_isBehind 8 = .ok (.if_icmp .eq 22, 3) := by decide +kernel
theorem dX9_isBehind_11 : decode cX9_isBehind 11 = .ok (.aload_n 0, 1) := by decide +kernel
theorem dX9_isBehind_12 : decode cX9_isBehind 12 = .ok (.getfield 109, 3) := by decide +kernel
theorem dX9_isBehind_15 : decode cX9_isBehind 15 = .ok (.aload_n 1, 1) := by decide +kernel
theorem dX9_isBehind_16 : decode cX9_isBehind 16 = .ok (.getfield 109, 3) := by decide +kernel
theorem dX9_isBehind_19 : decode cX9_isBehind 19 = .ok (.if_icmp .ge 7, 3) := by decide +kernel
theorem dX9_isBehind_22 : decode cX9_isBehind 22 = .ok (.iconst 1, 1) := by decide +kernel
theorem dX9_isBehind_23 : decode cX9_isBehind 23 = .ok (.goto 23, 3) := by decide +kernel
theorem dX9_isBehind_26 : decode cX9_isBehind 26 = .ok (.iconst 0, 1) := by decide +kernel
theorem dX9_isBehind_27 : decode cX9_isBehind 27 = .ok (.goto 19, 3) := by decide +kernel
theorem dX9_isBehind_30 : decode cX9_isBehind 30 = .ok (.aload_n 0, 1) := by decide +kernel
theorem dX9_isBehind_31 : decode cX9_isBehind 31 = .ok (.getfield 112, 3) := by decide +kernel
theorem dX9_isBehind_34 : decode cX9_isBehind 34 = .ok (.aload_n 1, 1) := by decide +kernel
theorem dX9_isBehind_35 : decode cX9_isBehind 35 = .ok (.getfield 112, 3) := by decide +kernel
theorem dX9_isBehind_38 : decode cX9_isBehind 38 = .ok (.if_icmp .ge 7, 3) := by decide +kernel
theorem dX9_isBehind_41 : decode cX9_isBehind 41 = .ok (.iconst 1, 1) := by decide +kernel
theorem dX9_isBehind_42 : decode cX9_isBehind 42 = .ok (.goto 4, 3) := by decide +kernel
theorem dX9_isBehind_45 : decode cX9_isBehind 45 = .ok (.iconst 0, 1) := by decide +kernel
theorem dX9_isBehind_46 : decode cX9_isBehind 46 = .ok (.ireturn, 1) := by decide +kernel
set_option maxHeartbeats 1000000 in
set_option maxRecDepth 100000 in
theorem t_X9_isBehind (l : Launch) (D : xD) (z n : Nat) (G : xG) (I : xI) (L : xL) (a : Nat) (b : Nat) (hPa : shP G a) (hPb : shP G b) : xM0 l D z yX9_isBehind cX9_isBehind 2 (some .boolean) 0 0 [.ref a, .ref b] n G I L (xE (some (.int (bI (behB I a b)))) I L) := by
  refine xM.of (by decide) (Nat.le_of_ble_eq_true rfl) (fun p e s m args below meth c C hnm hsz => ?_)
  refine x_lv [(0, .ref a), (1, .ref b)] rfl ?_
  refine x_aload_n 0 C dX9_isBehind_0 rfl 0 rfl ?_
  refine x_geti 1 C dX9_isBehind_1 ff_X9_109 hPa.1 ?_
  refine x_aload_n 4 C dX9_isBehind_4 rfl 1 rfl ?_
  refine x_geti 5 C dX9_isBehind_5 ff_X9_109 hPb.1 ?_
  refine x_icmp_eq 8 C 30 dX9_isBehind_8 (by decide) (fun c1 => ?_) (fun c1 => ?_)
  · skip
    refine x_aload_n 30 C dX9_isBehind_30 rfl 0 rfl ?_
    refine x_geti 31 C dX9_isBehind_31 ff_X9_112 hPa.1 ?_
    refine x_aload_n 34 C dX9_isBehind_34 rfl 1 rfl ?_
    refine x_geti 35 C dX9_isBehind_35 ff_X9_112 hPb.1 ?_
    refine x_icmp_ge 38 C 45 dX9_isBehind_38 (by decide) (fun c2 => ?_) (fun c2 => ?_)
    · skip
      have c2o := Int32.not_lt.mpr c2
      refine x_iconst 45 C (v := 0) dX9_isBehind_45 rfl ?_
      refine x_iret 46 C dX9_isBehind_46 rfl rfl (Nat.le_refl _) (xN.intro ?_)
      refine ⟨?_, rfl, rfl⟩
      simp [bI, behB, c1, c2, c2o]
    · skip
      have c2o := Int32.not_le.mp c2
      refine x_iconst 41 C (v := 1) dX9_isBehind_41 rfl ?_
      refine x_goto 42 C 46 dX9_isBehind_42 (by decide) ?_
      refine x_iret 46 C dX9_isBehind_46 rfl rfl (Nat.le_refl _) (xN.intro ?_)
      refine ⟨?_, rfl, rfl⟩
      simp [bI, behB, c1, c2, c2o]
  · skip
    refine x_aload_n 11 C dX9_isBehind_11 rfl 0 rfl ?_
    refine x_geti 12 C dX9_isBehind_12 ff_X9_109 hPa.1 ?_
    refine x_aload_n 15 C dX9_isBehind_15 rfl 1 rfl ?_
    refine x_geti 16 C dX9_isBehind_16 ff_X9_109 hPb.1 ?_
    refine x_icmp_ge 19 C 26 dX9_isBehind_19 (by decide) (fun c3 => ?_) (fun c3 => ?_)
    · skip
      have c3o := Int32.not_lt.mpr c3
      refine x_iconst 26 C (v := 0) dX9_isBehind_26 rfl ?_
      refine x_goto 27 C 46 dX9_isBehind_27 (by decide) ?_
      refine x_iret 46 C dX9_isBehind_46 rfl rfl (Nat.le_refl _) (xN.intro ?_)
      refine ⟨?_, rfl, rfl⟩
      simp [bI, behB, c1, c3, c3o]
    · skip
      have c3o := Int32.not_le.mp c3
      refine x_iconst 22 C (v := 1) dX9_isBehind_22 rfl ?_
      refine x_goto 23 C 46 dX9_isBehind_23 (by decide) ?_
      refine x_iret 46 C dX9_isBehind_46 rfl rfl (Nat.le_refl _) (xN.intro ?_)
      refine ⟨?_, rfl, rfl⟩
      simp [bI, behB, c1, c3, c3o]
theorem dX9_endsBefore_0 : decode cX9_endsBefore 0 = .ok (.iconst 0, 1) := by decide +kernel
theorem dX9_endsBefore_1 : decode cX9_endsBefore 1 = .ok (.istore_n 2, 1) := by decide +kernel
theorem dX9_endsBefore_2 : decode cX9_endsBefore 2 = .ok (.iconst 0, 1) := by decide +kernel
theorem dX9_endsBefore_3 : decode cX9_endsBefore 3 = .ok (.istore_n 3, 1) := by decide +kernel
theorem dX9_endsBefore_4 : decode cX9_endsBefore 4 = .ok (.iload_n 3, 1) := by decide +kernel
theorem dX9_endsBefore_5 : decode cX9_endsBefore 5 = .ok (.aload_n 0, 1) := by decide +kernel
theorem dX9_endsBefore_6 : decode cX9_endsBefore 6 = .ok (.getfield 47, 3) := by decide +kernel
theorem dX9_endsBefore_9 : decode cX9_endsBefore 9 = .ok (.if_icmp .ge 59, 3) := by decide +kernel
theorem dX9_endsBefore_12 : decode cX9_endsBefore 12 = .ok (.iload_n 3, 1) := by decide +kernel
theorem dX9_endsBefore_13 : decode cX9_endsBefore 13 = .ok (.iload_n 1, 1) := by decide +kernel
theorem dX9_endsBefore_14 : decode cX9_endsBefore 14 = .ok (.if_icmp .eq 48, 3) := by decide +kernel
theorem dX9_endsBefore_17 : decode cX9_endsBefore 17 = .ok (.aload_n 0, 1) := by decide +kernel
theorem dX9_endsBefore_18 : decode cX9_endsBefore 18 = .ok (.iload_n 3, 1) := by decide +kernel
theorem dX9_endsBefore_19 : decode cX9_endsBefore 19 = .ok (.invokevirtual 88, 3) := by decide +kernel
theorem dX9_endsBefore_22 : decode cX9_endsBefore 22 = .ok (.getfield 92, 3) := by decide +kernel
theorem dX9_endsBefore_25 : decode cX9_endsBefore 25 = .ok (.iconst 1, 1) := by decide +kernel
theorem dX9_endsBefore_26 : decode cX9_endsBefore 26 = .ok (.if_icmp .ne 36, 3) := by decide +kernel
theorem dX9_endsBefore_29 : decode cX9_endsBefore 29 = .ok (.aload_n 0, 1) := by decide +kernel
theorem dX9_endsBefore_30 : decode cX9_endsBefore 30 = .ok (.iload_n 3, 1) := by decide +kernel
theorem dX9_endsBefore_31 : decode cX9_endsBefore 31 = .ok (.invokevirtual 88, 3) := by decide +kernel
theorem dX9_endsBefore_34 : decode cX9_endsBefore 34 = .ok (.aload_n 0, 1) := by decide +kernel
theorem dX9_endsBefore_35 : decode cX9_endsBefore 35 = .ok (.iload_n 1, 1) := by decide +kernel
theorem dX9_endsBefore_36 : decode cX9_endsBefore 36 = .ok (.invokevirtual 88, 3) := by decide +kernel
theorem dX9_endsBefore_39 : decode cX9_endsBefore 39 = .ok (.invokevirtual 119, 3) := by decide +kernel
theorem dX9_endsBefore_42 : decode cX9_endsBefore 42 = .ok (.istore 4, 2) := by decide +kernel
theorem dX9_endsBefore_44 : decode cX9_endsBefore 44 = .ok (.iload 4, 2) := by decide +kernel
theorem dX9_endsBefore_46 : decode cX9_endsBefore 46 = .ok (.ifCond .lt 13, 3) := by decide +kernel
theorem dX9_endsBefore_49 : decode cX9_endsBefore 49 = .ok (.iload 4, 2) := by decide +kernel
theorem dX9_endsBefore_51 : decode cX9_endsBefore 51 = .ok (.ifCond .ne 11, 3) := by decide +kernel
theorem dX9_endsBefore_54 : decode cX9_endsBefore 54 = .ok (.iload_n 3, 1) := by decide +kernel
theorem dX9_endsBefore_55 : decode cX9_endsBefore 55 = .ok (.iload_n 1, 1) := by decide +kernel
theorem dX9_endsBefore_56 : decode cX9_endsBefore 56 = .ok (.if_icmp .ge 6, 3) := by decide +kernel
theorem dX9_endsBefore_59 : decode cX9_endsBefore 59 = .ok (.iinc 2 1, 3) := by decide +kernel
theorem dX9_endsBefore_62 : decode cX9_endsBefore 62 = .ok (.iinc 3 1, 3) := by decide +kernel
theorem dX9_endsBefore_65 : decode cX9_endsBefore 65 = .ok (.goto (-61), 3) := by decide +kernel
theorem dX9_endsBefore_68 : decode cX9_endsBefore 68 = .ok (.iload_n 2, 1) := by decide +kernel
theorem dX9_endsBefore_69 : decode cX9_endsBefore 69 = .ok (.ireturn, 1) := by decide +kernel
set_option maxHeartbeats 1000000 in
set_option maxRecDepth 100000 in
theorem t_X9_endsBefore (l : Launch) (D : xD) (z n : Nat) (G : xG) (I : xI) (L : xL) (S : Nat) (k : Nat) (U : Nat) (hS : shS G S) (hU : I S 4 = nI U) (hU9 : U ≤ 9) (hkU : k < U) : xM0 l D z yX9_endsBefore cX9_endsBefore 5 (some .int) 3 67 [.ref S, .int (nI k)] n G I L (xE (some (.int (nI (cntN (befP I L S k) U)))) I L) := by
  refine xM.of (by decide) (Nat.le_of_ble_eq_true rfl) (fun p e s m args below meth c C hnm hsz => ?_)
  refine x_lv [(0, .ref S), (1, .int (nI k))] rfl ?_
  refine x_iconst 0 C (v := 0) dX9_endsBefore_0 rfl ?_
  refine x_istore_n 1 C [(2, .int 0), (0, .ref S), (1, .int (nI k))] dX9_endsBefore_1 rfl (by decide) rfl ?_
  refine x_iconst 2 C (v := 0) dX9_endsBefore_2 rfl ?_
  refine x_istore_n 3 C [(3, .int 0), (2, .int 0), (0, .ref S), (1, .int (nI k))] dX9_endsBefore_3 rfl (by decide) rfl ?_
  have loop4 : ∀ (fuel : Nat) (i : Nat), (i ≤ U) → (U + 1 ≤ i + fuel) → X p l e (xRm 3 67 0 0) s m args below meth c D z 5 (MQ below (xQc D z n (xN n G (xE (some (.int (nI (cntN (befP I L S k) U)))) I L))) args s 0 0 (fun a => z ≤ a)) 0 0 n G I L 4 [(0, .ref S), (1, .int (nI k)), (2, .int (nI (cntN (befP I L S k) i))), (3, .int (nI i))] [] := by
    intro fuel
    induction fuel with
    | zero =>
      intro i hi hf
      exact absurd hf (by omega)
    | succ fuel ih =>
      intro i hi hf
      have hcn := cntN_le (befP I L S k) i
      refine x_iload_n 4 C dX9_endsBefore_4 rfl 3 rfl ?_
      refine x_aload_n 5 C dX9_endsBefore_5 rfl 0 rfl ?_
      refine x_geti 6 C dX9_endsBefore_6 ff_X9_47 hS.1 ?_
      refine x_int (nI U) hU ?_
      refine x_icmp_ge 9 C 68 dX9_endsBefore_9 (by decide) (fun c1 => ?_) (fun c1 => ?_)
      · skip
        have c1n : U ≤ i := (nI_leI (a := U) (b := i) (by omega) (by omega)).mp c1
        have c1m : ¬ (i < U) := by omega
        have c1o := Int32.not_lt.mpr c1
        refine x_iload_n 68 C dX9_endsBefore_68 rfl 2 rfl ?_
        refine x_iret 69 C dX9_endsBefore_69 rfl rfl (Nat.le_refl _) (xN.intro ?_)
        have hiU : i = U := by omega
        subst hiU
        exact ⟨rfl, rfl, rfl⟩
      · skip
        have c1n : ¬ (U ≤ i) := fun h => c1 ((nI_leI (a := U) (b := i) (by omega) (by omega)).mpr h)
        have c1m : i < U := by omega
        have c1o := Int32.not_le.mp c1
        refine x_iload_n 12 C dX9_endsBefore_12 rfl 3 rfl ?_
        refine x_iload_n 13 C dX9_endsBefore_13 rfl 1 rfl ?_
        refine x_icmp_eq 14 C 62 dX9_endsBefore_14 (by decide) (fun c2 => ?_) (fun c2 => ?_)
        · skip
          have c2n : i = k := (nI_eq (a := i) (b := k) (by omega) (by omega)).mp c2
          refine x_iinc 62 C [(3, .int (nI (i + 1))), (0, .ref S), (1, .int (nI k)), (2, .int (nI (cntN (befP I L S k) i)))] dX9_endsBefore_62 3 rfl (nI_add i 1) (by decide) rfl ?_
          refine x_goto 65 C 4 dX9_endsBefore_65 (by decide) ?_
          refine x_sub [(0, .ref S), (1, .int (nI k)), (2, .int (nI (cntN (befP I L S k) i))), (3, .int (nI (i + 1)))] [1, 2, 3, 0] rfl ?_
          have hp : (befP I L S k) i = false := by simp [stIs, metP, befP, c1, c1n, c1m, c1o, c2, c2n]
          refine x_lv [(0, .ref S), (1, .int (nI k)), (2, .int (nI (cntN (befP I L S k) (i + 1)))), (3, .int (nI (i + 1)))] (by simp [cntN, hp]) ?_
          exact ih (i + 1) (by omega) (by omega)
        · skip
          have c2n : ¬ (i = k) := fun h => c2 ((nI_eq (a := i) (b := k) (by omega) (by omega)).mpr h)
          refine x_aload_n 17 C dX9_endsBefore_17 rfl 0 rfl ?_
          refine x_iload_n 18 C dX9_endsBefore_18 rfl 3 rfl ?_
          refine x_callVe 19 C dX9_endsBefore_19 (As := [.int (nI i)]) (rest := []) [.ref (S + 11 + 3 * i)] (t_X9_pathAt l D z n G I L S i U hS (by first | assumption | omega | decide) (by first | omega | assumption | decide) (by first | omega | assumption | decide)) mt_X9_pathAt km_X9_88 ki_X9_pathAt ks_X9_pathAt hS.1 ⟨by decide, rfl⟩ rfl rfl (Nat.le_of_ble_eq_true rfl) ⟨⟨by decide, by decide⟩, by decide, by decide⟩ (fun I3 L4 eI3 eL4 => ?_)
          replace eI3 := eI3.symm; subst eI3
          replace eL4 := eL4.symm; subst eL4
          refine x_geti 22 C dX9_endsBefore_22 ff_X9_92 (hS.2.2.2.2 i (by omega)).1 ?_
          refine x_iconst 25 C (v := 1) dX9_endsBefore_25 rfl ?_
          refine x_icmp_ne 26 C 62 dX9_endsBefore_26 (by decide) (fun c5 => ?_) (fun c5 => ?_)
          · skip
            refine x_iinc 62 C [(3, .int (nI (i + 1))), (0, .ref S), (1, .int (nI k)), (2, .int (nI (cntN (befP I L S k) i)))] dX9_endsBefore_62 3 rfl (nI_add i 1) (by decide) rfl ?_
            refine x_goto 65 C 4 dX9_endsBefore_65 (by decide) ?_
            refine x_sub [(0, .ref S), (1, .int (nI k)), (2, .int (nI (cntN (befP I L S k) i))), (3, .int (nI (i + 1)))] [1, 2, 3, 0] rfl ?_
            have hp : (befP I L S k) i = false := by simp [stIs, metP, befP, c1, c1n, c1m, c1o, c2, c2n, c5]
            refine x_lv [(0, .ref S), (1, .int (nI k)), (2, .int (nI (cntN (befP I L S k) (i + 1)))), (3, .int (nI (i + 1)))] (by simp [cntN, hp]) ?_
            exact ih (i + 1) (by omega) (by omega)
          · skip
            refine x_aload_n 29 C dX9_endsBefore_29 rfl 0 rfl ?_
            refine x_iload_n 30 C dX9_endsBefore_30 rfl 3 rfl ?_
            refine x_callVe 31 C dX9_endsBefore_31 (As := [.int (nI i)]) (rest := []) [.ref (S + 11 + 3 * i)] (t_X9_pathAt l D z n G I L S i U hS (by first | assumption | omega | decide) (by first | omega | assumption | decide) (by first | omega | assumption | decide)) mt_X9_pathAt km_X9_88 ki_X9_pathAt ks_X9_pathAt hS.1 ⟨by decide, rfl⟩ rfl rfl (Nat.le_of_ble_eq_true rfl) ⟨⟨by decide, by decide⟩, by decide, by decide⟩ (fun I6 L7 eI6 eL7 => ?_)
            replace eI6 := eI6.symm; subst eI6
            replace eL7 := eL7.symm; subst eL7
            refine x_aload_n 34 C dX9_endsBefore_34 rfl 0 rfl ?_
            refine x_iload_n 35 C dX9_endsBefore_35 rfl 1 rfl ?_
            refine x_callVe 36 C dX9_endsBefore_36 (As := [.int (nI k)]) (rest := [.ref (S + 11 + 3 * i)]) [.ref (S + 11 + 3 * k), .ref (S + 11 + 3 * i)] (t_X9_pathAt l D z n G I L S k U hS (by first | assumption | omega | decide) (by first | omega | assumption | decide) (by first | omega | assumption | decide)) mt_X9_pathAt km_X9_88 ki_X9_pathAt ks_X9_pathAt hS.1 ⟨by decide, rfl⟩ rfl rfl (Nat.le_of_ble_eq_true rfl) ⟨⟨by decide, by decide⟩, by decide, by decide⟩ (fun I8 L9 eI8 eL9 => ?_)
            replace eI8 := eI8.symm; subst eI8
            replace eL9 := eL9.symm; subst eL9
            refine x_callVe 39 C dX9_endsBefore_39 (As := [.ref (S + 11 + 3 * k)]) (rest := []) [.int (pCmp I L (S + 11 + 3 * i) (S + 11 + 3 * k))] (t_X6_compareParts l D z n G I L (S + 11 + 3 * i) (S + 11 + 3 * k) (hS.2.2.2.2 i (by omega)) (hS.2.2.2.2 k (by omega))) mt_X6_compareParts km_X9_119 ki_X6_compareParts ks_X6_compareParts (hS.2.2.2.2 i (by omega)).1 ⟨by decide, rfl⟩ rfl rfl (Nat.le_of_ble_eq_true rfl) ⟨⟨by decide, by decide⟩, by decide, by decide⟩ (fun I10 L11 eI10 eL11 => ?_)
            replace eI10 := eI10.symm; subst eI10
            replace eL11 := eL11.symm; subst eL11
            refine x_istore 42 C [(4, .int (pCmp I L (S + 11 + 3 * i) (S + 11 + 3 * k))), (0, .ref S), (1, .int (nI k)), (2, .int (nI (cntN (befP I L S k) i))), (3, .int (nI i))] dX9_endsBefore_42 (by decide) rfl ?_
            refine x_iload 44 C dX9_endsBefore_44 0 rfl ?_
            refine x_if_lt 46 C 59 dX9_endsBefore_46 (by decide) (fun c12 => ?_) (fun c12 => ?_)
            · skip
              have c12o := Int32.not_le.mpr c12
              refine x_iinc 59 C [(2, .int (nI (cntN (befP I L S k) i + 1))), (4, .int (pCmp I L (S + 11 + 3 * i) (S + 11 + 3 * k))), (0, .ref S), (1, .int (nI k)), (3, .int (nI i))] dX9_endsBefore_59 3 rfl (nI_add (cntN (befP I L S k) i) 1) (by decide) rfl ?_
              refine x_iinc 62 C [(3, .int (nI (i + 1))), (2, .int (nI (cntN (befP I L S k) i + 1))), (4, .int (pCmp I L (S + 11 + 3 * i) (S + 11 + 3 * k))), (0, .ref S), (1, .int (nI k))] dX9_endsBefore_62 4 rfl (nI_add i 1) (by decide) rfl ?_
              refine x_goto 65 C 4 dX9_endsBefore_65 (by decide) ?_
              refine x_sub [(0, .ref S), (1, .int (nI k)), (2, .int (nI (cntN (befP I L S k) i + 1))), (3, .int (nI (i + 1)))] [3, 4, 1, 0] rfl ?_
              have hp : (befP I L S k) i = true := by simp [stIs, metP, befP, c1, c1n, c1m, c1o, c2, c2n, c5, c12, c12o]
              refine x_lv [(0, .ref S), (1, .int (nI k)), (2, .int (nI (cntN (befP I L S k) (i + 1)))), (3, .int (nI (i + 1)))] (by simp [cntN, hp]) ?_
              exact ih (i + 1) (by omega) (by omega)
            · skip
              have c12o := Int32.not_lt.mp c12
              refine x_iload 49 C dX9_endsBefore_49 0 rfl ?_
              refine x_if_ne 51 C 62 dX9_endsBefore_51 (by decide) (fun c13 => ?_) (fun c13 => ?_)
              · skip
                refine x_iinc 62 C [(3, .int (nI (i + 1))), (4, .int (pCmp I L (S + 11 + 3 * i) (S + 11 + 3 * k))), (0, .ref S), (1, .int (nI k)), (2, .int (nI (cntN (befP I L S k) i)))] dX9_endsBefore_62 4 rfl (nI_add i 1) (by decide) rfl ?_
                refine x_goto 65 C 4 dX9_endsBefore_65 (by decide) ?_
                refine x_sub [(0, .ref S), (1, .int (nI k)), (2, .int (nI (cntN (befP I L S k) i))), (3, .int (nI (i + 1)))] [2, 3, 4, 0] rfl ?_
                have hp : (befP I L S k) i = false := by simp [stIs, metP, befP, c1, c1n, c1m, c1o, c2, c2n, c5, c12, c12o, c13]
                refine x_lv [(0, .ref S), (1, .int (nI k)), (2, .int (nI (cntN (befP I L S k) (i + 1)))), (3, .int (nI (i + 1)))] (by simp [cntN, hp]) ?_
                exact ih (i + 1) (by omega) (by omega)
              · skip
                refine x_iload_n 54 C dX9_endsBefore_54 rfl 4 rfl ?_
                refine x_iload_n 55 C dX9_endsBefore_55 rfl 2 rfl ?_
                refine x_icmp_ge 56 C 62 dX9_endsBefore_56 (by decide) (fun c14 => ?_) (fun c14 => ?_)
                · skip
                  have c14n : k ≤ i := (nI_leI (a := k) (b := i) (by omega) (by omega)).mp c14
                  have c14m : ¬ (i < k) := by omega
                  have c14o := Int32.not_lt.mpr c14
                  refine x_iinc 62 C [(3, .int (nI (i + 1))), (4, .int (pCmp I L (S + 11 + 3 * i) (S + 11 + 3 * k))), (0, .ref S), (1, .int (nI k)), (2, .int (nI (cntN (befP I L S k) i)))] dX9_endsBefore_62 4 rfl (nI_add i 1) (by decide) rfl ?_
                  refine x_goto 65 C 4 dX9_endsBefore_65 (by decide) ?_
                  refine x_sub [(0, .ref S), (1, .int (nI k)), (2, .int (nI (cntN (befP I L S k) i))), (3, .int (nI (i + 1)))] [2, 3, 4, 0] rfl ?_
                  have hp : (befP I L S k) i = false := by simp [stIs, metP, befP, c1, c1n, c1m, c1o, c2, c2n, c5, c12, c12o, c13, c14, c14n, c14m, c14o]
                  refine x_lv [(0, .ref S), (1, .int (nI k)), (2, .int (nI (cntN (befP I L S k) (i + 1)))), (3, .int (nI (i + 1)))] (by simp [cntN, hp]) ?_
                  exact ih (i + 1) (by omega) (by omega)
                · skip
                  have c14n : ¬ (k ≤ i) := fun h => c14 ((nI_leI (a := k) (b := i) (by omega) (by omega)).mpr h)
                  have c14m : i < k := by omega
                  have c14o := Int32.not_le.mp c14
                  refine x_iinc 59 C [(2, .int (nI (cntN (befP I L S k) i + 1))), (4, .int (pCmp I L (S + 11 + 3 * i) (S + 11 + 3 * k))), (0, .ref S), (1, .int (nI k)), (3, .int (nI i))] dX9_endsBefore_59 3 rfl (nI_add (cntN (befP I L S k) i) 1) (by decide) rfl ?_
                  refine x_iinc 62 C [(3, .int (nI (i + 1))), (2, .int (nI (cntN (befP I L S k) i + 1))), (4, .int (pCmp I L (S + 11 + 3 * i) (S + 11 + 3 * k))), (0, .ref S), (1, .int (nI k))] dX9_endsBefore_62 4 rfl (nI_add i 1) (by decide) rfl ?_
                  refine x_goto 65 C 4 dX9_endsBefore_65 (by decide) ?_
                  refine x_sub [(0, .ref S), (1, .int (nI k)), (2, .int (nI (cntN (befP I L S k) i + 1))), (3, .int (nI (i + 1)))] [3, 4, 1, 0] rfl ?_
                  have hp : (befP I L S k) i = true := by simp [stIs, metP, befP, c1, c1n, c1m, c1o, c2, c2n, c5, c12, c12o, c13, c14, c14n, c14m, c14o]
                  refine x_lv [(0, .ref S), (1, .int (nI k)), (2, .int (nI (cntN (befP I L S k) (i + 1)))), (3, .int (nI (i + 1)))] (by simp [cntN, hp]) ?_
                  exact ih (i + 1) (by omega) (by omega)
  refine x_sub [(0, .ref S), (1, .int (nI k)), (2, .int 0), (3, .int 0)] [2, 3, 1, 0] rfl ?_
  exact loop4 (U + 1) 0 (by omega) (by omega)
theorem dX9_endOfRank_0 : decode cX9_endOfRank 0 = .ok (.iconst 0, 1) := by decide +kernel
theorem dX9_endOfRank_1 : decode cX9_endOfRank 1 = .ok (.istore_n 2, 1) := by decide +kernel
theorem dX9_endOfRank_2 : decode cX9_endOfRank 2 = .ok (.iload_n 2, 1) := by decide +kernel
theorem dX9_endOfRank_3 : decode cX9_endOfRank 3 = .ok (.aload_n 0, 1) := by decide +kernel
theorem dX9_endOfRank_4 : decode cX9_endOfRank 4 = .ok (.getfield 47, 3) := by decide +kernel
theorem dX9_endOfRank_7 : decode cX9_endOfRank 7 = .ok (.if_icmp .ge 32, 3) := by decide +kernel
theorem dX9_endOfRank_10 : decode cX9_endOfRank 10 = .ok (.aload_n 0, 1) := by decide +kernel
theorem dX9_endOfRank_11 : decode cX9_endOfRank 11 = .ok (.iload_n 2, 1) := by decide +kernel
theorem dX9_endOfRank_12 : decode cX9_endOfRank 12 = .ok (.invokevirtual 88, 3) := by decide +kernel
theorem dX9_endOfRank_15 : decode cX9_endOfRank 15 = .ok (.getfield 92, 3) := by decide +kernel
theorem dX9_endOfRank_18 : decode cX9_endOfRank 18 = .ok (.iconst 1, 1) := by decide +kernel
theorem dX9_endOfRank_19 : decode cX9_endOfRank 19 = .ok (.if_icmp .ne 14, 3) := by decide +kernel
theorem dX9_endOfRank_22 : decode cX9_endOfRank 22 = .ok (.aload_n 0, 1) := by decide +kernel
theorem dX9_endOfRank_23 : decode cX9_endOfRank 23 = .ok (.iload_n 2, 1) := by decide +kernel
theorem dX9_endOfRank_24 : decode cX9_endOfRank 24 = .ok (.invokevirtual 115, 3) := by decide +kernel
theorem dX9_endOfRank_27 : decode cX9_endOfRank 27 = .ok (.iload_n 1, 1) := by decide +kernel
theorem dX9_endOfRank_28 : decode cX9_endOfRank 28 = .ok (.if_icmp .ne 5, 3) := by decide +kernel
theorem dX9_endOfRank_31 : decode cX9_endOfRank 31 = .ok (.iload_n 2, 1) := by decide +kernel
theorem dX9_endOfRank_32 : decode cX9_endOfRank 32 = .ok (.ireturn, 1) := by decide +kernel
theorem dX9_endOfRank_33 : decode cX9_endOfRank 33 = .ok (.iinc 2 1, 3) := by decide +kernel
theorem dX9_endOfRank_36 : decode cX9_endOfRank 36 = .ok (.goto (-34), 3) := by decide +kernel
theorem dX9_endOfRank_39 : decode cX9_endOfRank 39 = .ok (.iconst (-1), 1) := by decide +kernel
theorem dX9_endOfRank_40 : decode cX9_endOfRank 40 = .ok (.ireturn, 1) := by decide +kernel
set_option maxHeartbeats 1000000 in
set_option maxRecDepth 100000 in
theorem t_X9_endOfRank (l : Launch) (D : xD) (z n : Nat) (G : xG) (I : xI) (L : xL) (S : Nat) (x : Int32) (U : Nat) (hS : shS G S) (hU : I S 4 = nI U) (hU9 : U ≤ 9) : xM0 l D z yX9_endOfRank cX9_endOfRank 3 (some .int) 4 91 [.ref S, .int x] n G I L (xE (some (.int (oI (findN (fun i => stIs I S 1 i && decide (nI (cntN (befP I L S i) U) = x)) U)))) I L) := by
  refine xM.of (by decide) (Nat.le_of_ble_eq_true rfl) (fun p e s m args below meth c C hnm hsz => ?_)
  refine x_lv [(0, .ref S), (1, .int x)] rfl ?_
  refine x_iconst 0 C (v := 0) dX9_endOfRank_0 rfl ?_
  refine x_istore_n 1 C [(2, .int 0), (0, .ref S), (1, .int x)] dX9_endOfRank_1 rfl (by decide) rfl ?_
  have loop2 : ∀ (fuel : Nat) (i : Nat), (i ≤ U) → (U + 1 ≤ i + fuel) → (findN (fun i => stIs I S 1 i && decide (nI (cntN (befP I L S i) U) = x)) i = none) → X p l e (xRm 4 91 0 0) s m args below meth c D z 3 (MQ below (xQc D z n (xN n G (xE (some (.int (oI (findN (fun i => stIs I S 1 i && decide (nI (cntN (befP I L S i) U) = x)) U)))) I L))) args s 0 0 (fun a => z ≤ a)) 0 0 n G I L 2 [(0, .ref S), (1, .int x), (2, .int (nI i))] [] := by
    intro fuel
    induction fuel with
    | zero =>
      intro i hi hf hn
      exact absurd hf (by omega)
    | succ fuel ih =>
      intro i hi hf hn
      refine x_iload_n 2 C dX9_endOfRank_2 rfl 2 rfl ?_
      refine x_aload_n 3 C dX9_endOfRank_3 rfl 0 rfl ?_
      refine x_geti 4 C dX9_endOfRank_4 ff_X9_47 hS.1 ?_
      refine x_int (nI U) hU ?_
      refine x_icmp_ge 7 C 39 dX9_endOfRank_7 (by decide) (fun c1 => ?_) (fun c1 => ?_)
      · skip
        have c1n : U ≤ i := (nI_leI (a := U) (b := i) (by omega) (by omega)).mp c1
        have c1m : ¬ (i < U) := by omega
        have c1o := Int32.not_lt.mpr c1
        refine x_iconst 39 C (v := (-1)) dX9_endOfRank_39 rfl ?_
        refine x_iret 40 C dX9_endOfRank_40 rfl rfl (Nat.le_refl _) (xN.intro ?_)
        have him : i = U := by omega
        subst him
        exact ⟨by rw [hn]; rfl, rfl, rfl⟩
      · skip
        have c1n : ¬ (U ≤ i) := fun h => c1 ((nI_leI (a := U) (b := i) (by omega) (by omega)).mpr h)
        have c1m : i < U := by omega
        have c1o := Int32.not_le.mp c1
        refine x_aload_n 10 C dX9_endOfRank_10 rfl 0 rfl ?_
        refine x_iload_n 11 C dX9_endOfRank_11 rfl 2 rfl ?_
        refine x_callVe 12 C dX9_endOfRank_12 (As := [.int (nI i)]) (rest := []) [.ref (S + 11 + 3 * i)] (t_X9_pathAt l D z n G I L S i U hS (by first | assumption | omega | decide) (by first | omega | assumption | decide) (by first | omega | assumption | decide)) mt_X9_pathAt km_X9_88 ki_X9_pathAt ks_X9_pathAt hS.1 ⟨by decide, rfl⟩ rfl rfl (Nat.le_of_ble_eq_true rfl) ⟨⟨by decide, by decide⟩, by decide, by decide⟩ (fun I2 L3 eI2 eL3 => ?_)
        replace eI2 := eI2.symm; subst eI2
        replace eL3 := eL3.symm; subst eL3
        refine x_geti 15 C dX9_endOfRank_15 ff_X9_92 (hS.2.2.2.2 i (by omega)).1 ?_
        refine x_iconst 18 C (v := 1) dX9_endOfRank_18 rfl ?_
        refine x_icmp_ne 19 C 33 dX9_endOfRank_19 (by decide) (fun c4 => ?_) (fun c4 => ?_)
        · skip
          refine x_iinc 33 C [(2, .int (nI (i + 1))), (0, .ref S), (1, .int x)] dX9_endOfRank_33 2 rfl (nI_add i 1) (by decide) rfl ?_
          refine x_goto 36 C 2 dX9_endOfRank_36 (by decide) ?_
          refine x_sub [(0, .ref S), (1, .int x), (2, .int (nI (i + 1)))] [1, 2, 0] rfl ?_
          exact ih (i + 1) (by omega) (by omega) (findN_none hn (by simp [stIs, c1, c1n, c1m, c1o, c4]))
        · skip
          refine x_aload_n 22 C dX9_endOfRank_22 rfl 0 rfl ?_
          refine x_iload_n 23 C dX9_endOfRank_23 rfl 2 rfl ?_
          refine x_callVe 24 C dX9_endOfRank_24 (As := [.int (nI i)]) (rest := []) [.int (nI (cntN (befP I L S i) U))] (t_X9_endsBefore l D z n G I L S i U hS (by first | assumption | omega | decide) (by first | omega | assumption | decide) (by first | omega | assumption | decide)) mt_X9_endsBefore km_X9_115 ki_X9_endsBefore ks_X9_endsBefore hS.1 ⟨by decide, rfl⟩ rfl rfl (Nat.le_of_ble_eq_true rfl) ⟨⟨by decide, by decide⟩, by decide, by decide⟩ (fun I5 L6 eI5 eL6 => ?_)
          replace eI5 := eI5.symm; subst eI5
          replace eL6 := eL6.symm; subst eL6
          refine x_iload_n 27 C dX9_endOfRank_27 rfl 1 rfl ?_
          refine x_icmp_ne 28 C 33 dX9_endOfRank_28 (by decide) (fun c7 => ?_) (fun c7 => ?_)
          · skip
            refine x_iinc 33 C [(2, .int (nI (i + 1))), (0, .ref S), (1, .int x)] dX9_endOfRank_33 2 rfl (nI_add i 1) (by decide) rfl ?_
            refine x_goto 36 C 2 dX9_endOfRank_36 (by decide) ?_
            refine x_sub [(0, .ref S), (1, .int x), (2, .int (nI (i + 1)))] [1, 2, 0] rfl ?_
            exact ih (i + 1) (by omega) (by omega) (findN_none hn (by simp [stIs, c1, c1n, c1m, c1o, c4, c7]))
          · skip
            refine x_iload_n 31 C dX9_endOfRank_31 rfl 2 rfl ?_
            refine x_iret 32 C dX9_endOfRank_32 rfl rfl (Nat.le_refl _) (xN.intro ?_)
            exact ⟨by rw [findN_keep (findN_some hn (by simp [stIs, c1, c1n, c1m, c1o, c4, c7])) U (by omega)]; rfl, rfl, rfl⟩
  refine x_sub [(0, .ref S), (1, .int x), (2, .int 0)] [1, 2, 0] rfl ?_
  exact loop2 (U + 1) 0 (by omega) (by omega) rfl
