/-! PathTracker$Complex: contracts. A Complex at a holds L a 0, L a 1. -/
/-- a part, held within 2^30 -/
def held (v : Int64) : Int64 := if -1073741824 ≤ v then (if v ≤ 1073741824 then v else 1073741824) else -1073741824
/-- both parts of the Complex at a laid anew -/
def cput (L : xL) (a : Nat) (x y : Int64) : xL := xup (xup L a 0 x) a 1 y
def cnorm (r i u : Int64) : Int64 := if u = 0 then 0 else (r * r + i * i) / u
def csize (r i : Int64) : Int64 := if (if 0 < i then i else -i) < (if 0 < r then r else -r) then (if 0 < r then r else -r) else (if 0 < i then i else -i)
def cthou (p u : Int64) : Int32 := if u = 0 then 0 else (p * 1000 / u).toInt32
theorem dX0_put_0 : decode cX0_put 0 = .ok (.aload_n 0, 1) := by decide +kernel
theorem dX0_put_1 : decode cX0_put 1 = .ok (.lload_n 1, 1) := by decide +kernel
theorem dX0_put_2 : decode cX0_put 2 = .ok (.putfield 7, 3) := by decide +kernel
theorem dX0_put_5 : decode cX0_put 5 = .ok (.aload_n 0, 1) := by decide +kernel
theorem dX0_put_6 : decode cX0_put 6 = .ok (.lload_n 3, 1) := by decide +kernel
theorem dX0_put_7 : decode cX0_put 7 = .ok (.putfield 13, 3) := by decide +kernel
theorem dX0_put_10 : decode cX0_put 10 = .ok (.aload_n 0, 1) := by decide +kernel
theorem dX0_put_11 : decode cX0_put 11 = .ok (.getfield 7, 3) := by decide +kernel
theorem dX0_put_14 : decode cX0_put 14 = .ok (.ldc2_w 16, 3) := by decide +kernel
theorem dX0_put_17 : decode cX0_put 17 = .ok (.lcmp, 1) := by decide +kernel
theorem dX0_put_18 : decode cX0_put 18 = .ok (.ifCond .ge 13, 3) := by decide +kernel
theorem dX0_put_21 : decode cX0_put 21 = .ok (.aload_n 0, 1) := by decide +kernel
theorem dX0_put_22 : decode cX0_put 22 = .ok (.ldc2_w 16, 3) := by decide +kernel
theorem dX0_put_25 : decode cX0_put 25 = .ok (.putfield 7, 3) := by decide +kernel
theorem dX0_put_28 : decode cX0_put 28 = .ok (.goto 21, 3) := by decide +kernel
theorem dX0_put_31 : decode cX0_put 31 = .ok (.aload_n 0, 1) := by decide +kernel
theorem dX0_put_32 : decode cX0_put 32 = .ok (.getfield 7, 3) := by decide +kernel
theorem dX0_put_35 : decode cX0_put 35 = .ok (.ldc2_w 18, 3) := by decide +kernel
theorem dX0_put_38 : decode cX0_put 38 = .ok (.lcmp, 1) := by decide +kernel
theorem dX0_put_39 : decode cX0_put 39 = .ok (.ifCond .le 10, 3) := by decide +kernel
theorem dX0_put_42 : decode cX0_put 42 = .ok (.aload_n 0, 1) := by decide +kernel
theorem dX0_put_43 : decode cX0_put 43 = .ok (.ldc2_w 18, 3) := by decide +kernel
theorem dX0_put_46 : decode cX0_put 46 = .ok (.putfield 7, 3) := by decide +kernel
theorem dX0_put_49 : decode cX0_put 49 = .ok (.aload_n 0, 1) := by decide +kernel
theorem dX0_put_50 : decode cX0_put 50 = .ok (.getfield 13, 3) := by decide +kernel
theorem dX0_put_53 : decode cX0_put 53 = .ok (.ldc2_w 16, 3) := by decide +kernel
theorem dX0_put_56 : decode cX0_put 56 = .ok (.lcmp, 1) := by decide +kernel
theorem dX0_put_57 : decode cX0_put 57 = .ok (.ifCond .ge 13, 3) := by decide +kernel
theorem dX0_put_60 : decode cX0_put 60 = .ok (.aload_n 0, 1) := by decide +kernel
theorem dX0_put_61 : decode cX0_put 61 = .ok (.ldc2_w 16, 3) := by decide +kernel
theorem dX0_put_64 : decode cX0_put 64 = .ok (.putfield 13, 3) := by decide +kernel
theorem dX0_put_67 : decode cX0_put 67 = .ok (.goto 21, 3) := by decide +kernel
theorem dX0_put_70 : decode cX0_put 70 = .ok (.aload_n 0, 1) := by decide +kernel
theorem dX0_put_71 : decode cX0_put 71 = .ok (.getfield 13, 3) := by decide +kernel
theorem dX0_put_74 : decode cX0_put 74 = .ok (.ldc2_w 18, 3) := by decide +kernel
theorem dX0_put_77 : decode cX0_put 77 = .ok (.lcmp, 1) := by decide +kernel
theorem dX0_put_78 : decode cX0_put 78 = .ok (.ifCond .le 10, 3) := by decide +kernel
theorem dX0_put_81 : decode cX0_put 81 = .ok (.aload_n 0, 1) := by decide +kernel
theorem dX0_put_82 : decode cX0_put 82 = .ok (.ldc2_w 18, 3) := by decide +kernel
theorem dX0_put_85 : decode cX0_put 85 = .ok (.putfield 13, 3) := by decide +kernel
theorem dX0_put_88 : decode cX0_put 88 = .ok (.return_, 1) := by decide +kernel
set_option maxHeartbeats 4000000 in
set_option maxRecDepth 100000 in
/-- put(x, y): both parts, held -/
theorem t_X0_put (l : Launch) (D : xD) (z n : Nat) (G : xG) (I : xI) (L : xL) (a : Nat) (x : Int64) (y : Int64) (ga : G a = some (0, 0, rN)) (za : z ≤ a) : xM0 l D z yX0_put cX0_put 5 none 0 0 [.ref a, .long x, .long y] n G I L (xE none I (cput L a (held x) (held y))) := by
  refine xM.of (by decide) (Nat.le_of_ble_eq_true rfl) (fun p e s m args below meth c C hnm hsz => ?_)
  refine x_lv [(0, .ref a), (1, .long x), (3, .long y)] rfl ?_
  refine x_aload_n 0 C dX0_put_0 rfl 0 rfl ?_
  refine x_lload_n 1 C dX0_put_1 rfl 1 rfl ?_
  refine x_putl 2 C dX0_put_2 ff_X0_7 rfl ga (by omega) (fun L1 eL1 => ?_)
  refine x_aload_n 5 C dX0_put_5 rfl 0 rfl ?_
  refine x_lload_n 6 C dX0_put_6 rfl 2 rfl ?_
  refine x_putl 7 C dX0_put_7 ff_X0_13 rfl ga (by omega) (fun L2 eL2 => ?_)
  refine x_aload_n 10 C dX0_put_10 rfl 0 rfl ?_
  refine x_getl 11 C dX0_put_11 ff_X0_7 ga ?_
  refine x_long x (by simp [eL1, eL2, xup]) ?_
  refine x_ldc2 14 C (-1073741824) dX0_put_14 kk_X0_16 ?_
  refine x_lc_ge 17 C 31 dX0_put_17 dX0_put_18 (by decide) (fun c3 => ?_) (fun c3 => ?_)
  · skip
    have c3o := Int64.not_lt.mpr c3
    refine x_aload_n 31 C dX0_put_31 rfl 0 rfl ?_
    refine x_getl 32 C dX0_put_32 ff_X0_7 ga ?_
    refine x_long x (by simp [eL1, eL2, xup]) ?_
    refine x_ldc2 35 C 1073741824 dX0_put_35 kk_X0_18 ?_
    refine x_lc_le 38 C 49 dX0_put_38 dX0_put_39 (by decide) (fun c4 => ?_) (fun c4 => ?_)
    · skip
      have c4o := Int64.not_lt.mpr c4
      refine x_aload_n 49 C dX0_put_49 rfl 0 rfl ?_
      refine x_getl 50 C dX0_put_50 ff_X0_13 ga ?_
      refine x_long y (by simp [eL1, eL2, xup]) ?_
      refine x_ldc2 53 C (-1073741824) dX0_put_53 kk_X0_16 ?_
      refine x_lc_ge 56 C 70 dX0_put_56 dX0_put_57 (by decide) (fun c5 => ?_) (fun c5 => ?_)
      · skip
        have c5o := Int64.not_lt.mpr c5
        refine x_aload_n 70 C dX0_put_70 rfl 0 rfl ?_
        refine x_getl 71 C dX0_put_71 ff_X0_13 ga ?_
        refine x_long y (by simp [eL1, eL2, xup]) ?_
        refine x_ldc2 74 C 1073741824 dX0_put_74 kk_X0_18 ?_
        refine x_lc_le 77 C 88 dX0_put_77 dX0_put_78 (by decide) (fun c6 => ?_) (fun c6 => ?_)
        · skip
          have c6o := Int64.not_lt.mpr c6
          refine x_vret 88 C dX0_put_88 rfl (Nat.le_refl _) (xN.intro ?_)
          subst eL1; subst eL2
          refine ⟨rfl, rfl, ?_⟩
          funext q k
          simp only [cput, held, xup, c3, c3o, c4, c4o, c5, c5o, c6, c6o, if_true, if_false]
          all_goals (by_cases h1 : q = a <;> by_cases h2 : k = 0 <;> by_cases h3 : k = 1 <;> first | rfl | simp_all)
        · skip
          have c6o := Int64.not_le.mp c6
          refine x_aload_n 81 C dX0_put_81 rfl 0 rfl ?_
          refine x_ldc2 82 C 1073741824 dX0_put_82 kk_X0_18 ?_
          refine x_putl 85 C dX0_put_85 ff_X0_13 rfl ga (by omega) (fun L7 eL7 => ?_)
          refine x_vret 88 C dX0_put_88 rfl (Nat.le_refl _) (xN.intro ?_)
          subst eL1; subst eL2; subst eL7
          refine ⟨rfl, rfl, ?_⟩
          funext q k
          simp only [cput, held, xup, c3, c3o, c4, c4o, c5, c5o, c6, c6o, if_true, if_false]
          all_goals (by_cases h1 : q = a <;> by_cases h2 : k = 0 <;> by_cases h3 : k = 1 <;> first | rfl | simp_all)
      · skip
        have c5o := Int64.not_le.mp c5
        refine x_aload_n 60 C dX0_put_60 rfl 0 rfl ?_
        refine x_ldc2 61 C (-1073741824) dX0_put_61 kk_X0_16 ?_
        refine x_putl 64 C dX0_put_64 ff_X0_13 rfl ga (by omega) (fun L8 eL8 => ?_)
        refine x_goto 67 C 88 dX0_put_67 (by decide) ?_
        refine x_vret 88 C dX0_put_88 rfl (Nat.le_refl _) (xN.intro ?_)
        subst eL1; subst eL2; subst eL8
        refine ⟨rfl, rfl, ?_⟩
        funext q k
        simp only [cput, held, xup, c3, c3o, c4, c4o, c5, c5o, if_true, if_false]
        all_goals (by_cases h1 : q = a <;> by_cases h2 : k = 0 <;> by_cases h3 : k = 1 <;> first | rfl | simp_all)
    · skip
      have c4o := Int64.not_le.mp c4
      refine x_aload_n 42 C dX0_put_42 rfl 0 rfl ?_
      refine x_ldc2 43 C 1073741824 dX0_put_43 kk_X0_18 ?_
      refine x_putl 46 C dX0_put_46 ff_X0_7 rfl ga (by omega) (fun L9 eL9 => ?_)
      refine x_aload_n 49 C dX0_put_49 rfl 0 rfl ?_
      refine x_getl 50 C dX0_put_50 ff_X0_13 ga ?_
      refine x_long y (by simp [eL1, eL2, eL9, xup]) ?_
      refine x_ldc2 53 C (-1073741824) dX0_put_53 kk_X0_16 ?_
      refine x_lc_ge 56 C 70 dX0_put_56 dX0_put_57 (by decide) (fun c10 => ?_) (fun c10 => ?_)
      · skip
        have c10o := Int64.not_lt.mpr c10
        refine x_aload_n 70 C dX0_put_70 rfl 0 rfl ?_
        refine x_getl 71 C dX0_put_71 ff_X0_13 ga ?_
        refine x_long y (by simp [eL1, eL2, eL9, xup]) ?_
        refine x_ldc2 74 C 1073741824 dX0_put_74 kk_X0_18 ?_
        refine x_lc_le 77 C 88 dX0_put_77 dX0_put_78 (by decide) (fun c11 => ?_) (fun c11 => ?_)
        · skip
          have c11o := Int64.not_lt.mpr c11
          refine x_vret 88 C dX0_put_88 rfl (Nat.le_refl _) (xN.intro ?_)
          subst eL1; subst eL2; subst eL9
          refine ⟨rfl, rfl, ?_⟩
          funext q k
          simp only [cput, held, xup, c3, c3o, c4, c4o, c10, c10o, c11, c11o, if_true, if_false]
          all_goals (by_cases h1 : q = a <;> by_cases h2 : k = 0 <;> by_cases h3 : k = 1 <;> first | rfl | simp_all)
        · skip
          have c11o := Int64.not_le.mp c11
          refine x_aload_n 81 C dX0_put_81 rfl 0 rfl ?_
          refine x_ldc2 82 C 1073741824 dX0_put_82 kk_X0_18 ?_
          refine x_putl 85 C dX0_put_85 ff_X0_13 rfl ga (by omega) (fun L12 eL12 => ?_)
          refine x_vret 88 C dX0_put_88 rfl (Nat.le_refl _) (xN.intro ?_)
          subst eL1; subst eL2; subst eL9; subst eL12
          refine ⟨rfl, rfl, ?_⟩
          funext q k
          simp only [cput, held, xup, c3, c3o, c4, c4o, c10, c10o, c11, c11o, if_true, if_false]
          all_goals (by_cases h1 : q = a <;> by_cases h2 : k = 0 <;> by_cases h3 : k = 1 <;> first | rfl | simp_all)
      · skip
        have c10o := Int64.not_le.mp c10
        refine x_aload_n 60 C dX0_put_60 rfl 0 rfl ?_
        refine x_ldc2 61 C (-1073741824) dX0_put_61 kk_X0_16 ?_
        refine x_putl 64 C dX0_put_64 ff_X0_13 rfl ga (by omega) (fun L13 eL13 => ?_)
        refine x_goto 67 C 88 dX0_put_67 (by decide) ?_
        refine x_vret 88 C dX0_put_88 rfl (Nat.le_refl _) (xN.intro ?_)
        subst eL1; subst eL2; subst eL9; subst eL13
        refine ⟨rfl, rfl, ?_⟩
        funext q k
        simp only [cput, held, xup, c3, c3o, c4, c4o, c10, c10o, if_true, if_false]
        all_goals (by_cases h1 : q = a <;> by_cases h2 : k = 0 <;> by_cases h3 : k = 1 <;> first | rfl | simp_all)
  · skip
    have c3o := Int64.not_le.mp c3
    refine x_aload_n 21 C dX0_put_21 rfl 0 rfl ?_
    refine x_ldc2 22 C (-1073741824) dX0_put_22 kk_X0_16 ?_
    refine x_putl 25 C dX0_put_25 ff_X0_7 rfl ga (by omega) (fun L14 eL14 => ?_)
    refine x_goto 28 C 49 dX0_put_28 (by decide) ?_
    refine x_aload_n 49 C dX0_put_49 rfl 0 rfl ?_
    refine x_getl 50 C dX0_put_50 ff_X0_13 ga ?_
    refine x_long y (by simp [eL1, eL2, eL14, xup]) ?_
    refine x_ldc2 53 C (-1073741824) dX0_put_53 kk_X0_16 ?_
    refine x_lc_ge 56 C 70 dX0_put_56 dX0_put_57 (by decide) (fun c15 => ?_) (fun c15 => ?_)
    · skip
      have c15o := Int64.not_lt.mpr c15
      refine x_aload_n 70 C dX0_put_70 rfl 0 rfl ?_
      refine x_getl 71 C dX0_put_71 ff_X0_13 ga ?_
      refine x_long y (by simp [eL1, eL2, eL14, xup]) ?_
      refine x_ldc2 74 C 1073741824 dX0_put_74 kk_X0_18 ?_
      refine x_lc_le 77 C 88 dX0_put_77 dX0_put_78 (by decide) (fun c16 => ?_) (fun c16 => ?_)
      · skip
        have c16o := Int64.not_lt.mpr c16
        refine x_vret 88 C dX0_put_88 rfl (Nat.le_refl _) (xN.intro ?_)
        subst eL1; subst eL2; subst eL14
        refine ⟨rfl, rfl, ?_⟩
        funext q k
        simp only [cput, held, xup, c3, c3o, c15, c15o, c16, c16o, if_true, if_false]
        all_goals (by_cases h1 : q = a <;> by_cases h2 : k = 0 <;> by_cases h3 : k = 1 <;> first | rfl | simp_all)
      · skip
        have c16o := Int64.not_le.mp c16
        refine x_aload_n 81 C dX0_put_81 rfl 0 rfl ?_
        refine x_ldc2 82 C 1073741824 dX0_put_82 kk_X0_18 ?_
        refine x_putl 85 C dX0_put_85 ff_X0_13 rfl ga (by omega) (fun L17 eL17 => ?_)
        refine x_vret 88 C dX0_put_88 rfl (Nat.le_refl _) (xN.intro ?_)
        subst eL1; subst eL2; subst eL14; subst eL17
        refine ⟨rfl, rfl, ?_⟩
        funext q k
        simp only [cput, held, xup, c3, c3o, c15, c15o, c16, c16o, if_true, if_false]
        all_goals (by_cases h1 : q = a <;> by_cases h2 : k = 0 <;> by_cases h3 : k = 1 <;> first | rfl | simp_all)
    · skip
      have c15o := Int64.not_le.mp c15
      refine x_aload_n 60 C dX0_put_60 rfl 0 rfl ?_
      refine x_ldc2 61 C (-1073741824) dX0_put_61 kk_X0_16 ?_
      refine x_putl 64 C dX0_put_64 ff_X0_13 rfl ga (by omega) (fun L18 eL18 => ?_)
      refine x_goto 67 C 88 dX0_put_67 (by decide) ?_
      refine x_vret 88 C dX0_put_88 rfl (Nat.le_refl _) (xN.intro ?_)
      subst eL1; subst eL2; subst eL14; subst eL18
      refine ⟨rfl, rfl, ?_⟩
      funext q k
      simp only [cput, held, xup, c3, c3o, c15, c15o, if_true, if_false]
      all_goals (by_cases h1 : q = a <;> by_cases h2 : k = 0 <;> by_cases h3 : k = 1 <;> first | rfl | simp_all)
theorem dX0_copy_0 : decode cX0_copy 0 = .ok (.aload_n 0, 1) := by decide +kernel
theorem dX0_copy_1 : decode cX0_copy 1 = .ok (.aload_n 1, 1) := by decide +kernel
theorem dX0_copy_2 : decode cX0_copy 2 = .ok (.getfield 7, 3) := by decide +kernel
theorem dX0_copy_5 : decode cX0_copy 5 = .ok (.putfield 7, 3) := by decide +kernel
theorem dX0_copy_8 : decode cX0_copy 8 = .ok (.aload_n 0, 1) := by decide +kernel
theorem dX0_copy_9 : decode cX0_copy 9 = .ok (.aload_n 1, 1) := by decide +kernel
theorem dX0_copy_10 : decode cX0_copy 10 = .ok (.getfield 13, 3) := by decide +kernel
theorem dX0_copy_13 : decode cX0_copy 13 = .ok (.putfield 13, 3) := by decide +kernel
theorem dX0_copy_16 : decode cX0_copy 16 = .ok (.return_, 1) := by decide +kernel
set_option maxHeartbeats 4000000 in
set_option maxRecDepth 100000 in
theorem t_X0_copy (l : Launch) (D : xD) (z n : Nat) (G : xG) (I : xI) (L : xL) (a : Nat) (b : Nat) (ga : G a = some (0, 0, rN)) (gb : G b = some (0, 0, rN)) (za : z ≤ a) : xM0 l D z yX0_copy cX0_copy 2 none 0 0 [.ref a, .ref b] n G I L (xE none I (cput L a (L b 0) (L b 1))) := by
  refine xM.of (by decide) (Nat.le_of_ble_eq_true rfl) (fun p e s m args below meth c C hnm hsz => ?_)
  refine x_lv [(0, .ref a), (1, .ref b)] rfl ?_
  refine x_aload_n 0 C dX0_copy_0 rfl 0 rfl ?_
  refine x_aload_n 1 C dX0_copy_1 rfl 1 rfl ?_
  refine x_getl 2 C dX0_copy_2 ff_X0_7 gb ?_
  refine x_putl 5 C dX0_copy_5 ff_X0_7 rfl ga (by omega) (fun L1 eL1 => ?_)
  refine x_aload_n 8 C dX0_copy_8 rfl 0 rfl ?_
  refine x_aload_n 9 C dX0_copy_9 rfl 1 rfl ?_
  refine x_getl 10 C dX0_copy_10 ff_X0_13 gb ?_
  refine x_long (L b 1) (by simp [eL1, xup, cput]) ?_
  refine x_putl 13 C dX0_copy_13 ff_X0_13 rfl ga (by omega) (fun L2 eL2 => ?_)
  refine x_vret 16 C dX0_copy_16 rfl (Nat.le_refl _) (xN.intro ?_)
  subst eL1; subst eL2
  refine ⟨rfl, rfl, ?_⟩
  simp [cput, xup]
theorem dX0_add_0 : decode cX0_add 0 = .ok (.aload_n 0, 1) := by decide +kernel
theorem dX0_add_1 : decode cX0_add 1 = .ok (.aload_n 0, 1) := by decide +kernel
theorem dX0_add_2 : decode cX0_add 2 = .ok (.getfield 7, 3) := by decide +kernel
theorem dX0_add_5 : decode cX0_add 5 = .ok (.aload_n 1, 1) := by decide +kernel
theorem dX0_add_6 : decode cX0_add 6 = .ok (.getfield 7, 3) := by decide +kernel
theorem dX0_add_9 : decode cX0_add 9 = .ok (.ladd, 1) := by decide +kernel
theorem dX0_add_10 : decode cX0_add 10 = .ok (.aload_n 0, 1) := by decide +kernel
theorem dX0_add_11 : decode cX0_add 11 = .ok (.getfield 13, 3) := by decide +kernel
theorem dX0_add_14 : decode cX0_add 14 = .ok (.aload_n 1, 1) := by decide +kernel
theorem dX0_add_15 : decode cX0_add 15 = .ok (.getfield 13, 3) := by decide +kernel
theorem dX0_add_18 : decode cX0_add 18 = .ok (.ladd, 1) := by decide +kernel
theorem dX0_add_19 : decode cX0_add 19 = .ok (.invokevirtual 20, 3) := by decide +kernel
theorem dX0_add_22 : decode cX0_add 22 = .ok (.return_, 1) := by decide +kernel
set_option maxHeartbeats 4000000 in
set_option maxRecDepth 100000 in
theorem t_X0_add (l : Launch) (D : xD) (z n : Nat) (G : xG) (I : xI) (L : xL) (a : Nat) (b : Nat) (ga : G a = some (0, 0, rN)) (gb : G b = some (0, 0, rN)) (za : z ≤ a) : xM0 l D z yX0_add cX0_add 2 none 1 24 [.ref a, .ref b] n G I L (xE none I (cput L a (held (L a 0 + L b 0)) (held (L a 1 + L b 1)))) := by
  refine xM.of (by decide) (Nat.le_of_ble_eq_true rfl) (fun p e s m args below meth c C hnm hsz => ?_)
  refine x_lv [(0, .ref a), (1, .ref b)] rfl ?_
  refine x_aload_n 0 C dX0_add_0 rfl 0 rfl ?_
  refine x_aload_n 1 C dX0_add_1 rfl 0 rfl ?_
  refine x_getl 2 C dX0_add_2 ff_X0_7 ga ?_
  refine x_aload_n 5 C dX0_add_5 rfl 1 rfl ?_
  refine x_getl 6 C dX0_add_6 ff_X0_7 gb ?_
  refine x_ladd 9 C dX0_add_9 ?_
  refine x_aload_n 10 C dX0_add_10 rfl 0 rfl ?_
  refine x_getl 11 C dX0_add_11 ff_X0_13 ga ?_
  refine x_aload_n 14 C dX0_add_14 rfl 1 rfl ?_
  refine x_getl 15 C dX0_add_15 ff_X0_13 gb ?_
  refine x_ladd 18 C dX0_add_18 ?_
  refine x_callVe 19 C dX0_add_19 (As := [.long ((L a 0) + (L b 0)), .long ((L a 1) + (L b 1))]) (rest := []) [] (t_X0_put l D z n G I L a ((L a 0) + (L b 0)) ((L a 1) + (L b 1)) ga (by omega)) mt_X0_put km_X0_20 ki_X0_put ks_X0_put ga ⟨by decide, rfl⟩ rfl rfl (Nat.le_of_ble_eq_true rfl) ⟨⟨by decide, by decide⟩, by decide, by decide⟩ (fun I1 L2 eI1 eL2 => ?_)
  replace eI1 := eI1.symm; subst eI1
  refine x_vret 22 C dX0_add_22 rfl (Nat.le_refl _) (xN.intro ?_)
  subst eL2
  refine ⟨rfl, rfl, ?_⟩
  rfl
theorem dX0_putDifference_0 : decode cX0_putDifference 0 = .ok (.aload_n 0, 1) := by decide +kernel
theorem dX0_putDifference_1 : decode cX0_putDifference 1 = .ok (.aload_n 1, 1) := by decide +kernel
theorem dX0_putDifference_2 : decode cX0_putDifference 2 = .ok (.getfield 7, 3) := by decide +kernel
theorem dX0_putDifference_5 : decode cX0_putDifference 5 = .ok (.aload_n 2, 1) := by decide +kernel
theorem dX0_putDifference_6 : decode cX0_putDifference 6 = .ok (.getfield 7, 3) := by decide +kernel
theorem dX0_putDifference_9 : decode cX0_putDifference 9 = .ok (.lsub, 1) := by decide +kernel
theorem dX0_putDifference_10 : decode cX0_putDifference 10 = .ok (.aload_n 1, 1) := by decide +kernel
theorem dX0_putDifference_11 : decode cX0_putDifference 11 = .ok (.getfield 13, 3) := by decide +kernel
theorem dX0_putDifference_14 : decode cX0_putDifference 14 = .ok (.aload_n 2, 1) := by decide +kernel
theorem dX0_putDifference_15 : decode cX0_putDifference 15 = .ok (.getfield 13, 3) := by decide +kernel
theorem dX0_putDifference_18 : decode cX0_putDifference 18 = .ok (.lsub, 1) := by decide +kernel
theorem dX0_putDifference_19 : decode cX0_putDifference 19 = .ok (.invokevirtual 20, 3) := by decide +kernel
theorem dX0_putDifference_22 : decode cX0_putDifference 22 = .ok (.return_, 1) := by decide +kernel
set_option maxHeartbeats 4000000 in
set_option maxRecDepth 100000 in
theorem t_X0_putDifference (l : Launch) (D : xD) (z n : Nat) (G : xG) (I : xI) (L : xL) (a : Nat) (b : Nat) (d : Nat) (ga : G a = some (0, 0, rN)) (gb : G b = some (0, 0, rN)) (gd : G d = some (0, 0, rN)) (za : z ≤ a) : xM0 l D z yX0_putDifference cX0_putDifference 3 none 1 24 [.ref a, .ref b, .ref d] n G I L (xE none I (cput L a (held (L b 0 - L d 0)) (held (L b 1 - L d 1)))) := by
  refine xM.of (by decide) (Nat.le_of_ble_eq_true rfl) (fun p e s m args below meth c C hnm hsz => ?_)
  refine x_lv [(0, .ref a), (1, .ref b), (2, .ref d)] rfl ?_
  refine x_aload_n 0 C dX0_putDifference_0 rfl 0 rfl ?_
  refine x_aload_n 1 C dX0_putDifference_1 rfl 1 rfl ?_
  refine x_getl 2 C dX0_putDifference_2 ff_X0_7 gb ?_
  refine x_aload_n 5 C dX0_putDifference_5 rfl 2 rfl ?_
  refine x_getl 6 C dX0_putDifference_6 ff_X0_7 gd ?_
  refine x_lsub 9 C dX0_putDifference_9 ?_
  refine x_aload_n 10 C dX0_putDifference_10 rfl 1 rfl ?_
  refine x_getl 11 C dX0_putDifference_11 ff_X0_13 gb ?_
  refine x_aload_n 14 C dX0_putDifference_14 rfl 2 rfl ?_
  refine x_getl 15 C dX0_putDifference_15 ff_X0_13 gd ?_
  refine x_lsub 18 C dX0_putDifference_18 ?_
  refine x_callVe 19 C dX0_putDifference_19 (As := [.long ((L b 0) - (L d 0)), .long ((L b 1) - (L d 1))]) (rest := []) [] (t_X0_put l D z n G I L a ((L b 0) - (L d 0)) ((L b 1) - (L d 1)) ga (by omega)) mt_X0_put km_X0_20 ki_X0_put ks_X0_put ga ⟨by decide, rfl⟩ rfl rfl (Nat.le_of_ble_eq_true rfl) ⟨⟨by decide, by decide⟩, by decide, by decide⟩ (fun I1 L2 eI1 eL2 => ?_)
  replace eI1 := eI1.symm; subst eI1
  refine x_vret 22 C dX0_putDifference_22 rfl (Nat.le_refl _) (xN.intro ?_)
  subst eL2
  refine ⟨rfl, rfl, ?_⟩
  rfl
theorem dX0_putNegative_0 : decode cX0_putNegative 0 = .ok (.aload_n 0, 1) := by decide +kernel
theorem dX0_putNegative_1 : decode cX0_putNegative 1 = .ok (.aload_n 1, 1) := by decide +kernel
theorem dX0_putNegative_2 : decode cX0_putNegative 2 = .ok (.getfield 7, 3) := by decide +kernel
theorem dX0_putNegative_5 : decode cX0_putNegative 5 = .ok (.lneg, 1) := by decide +kernel
theorem dX0_putNegative_6 : decode cX0_putNegative 6 = .ok (.aload_n 1, 1) := by decide +kernel
theorem dX0_putNegative_7 : decode cX0_putNegative 7 = .ok (.getfield 13, 3) := by decide +kernel
theorem dX0_putNegative_10 : decode cX0_putNegative 10 = .ok (.lneg, 1) := by decide +kernel
theorem dX0_putNegative_11 : decode cX0_putNegative 11 = .ok (.invokevirtual 20, 3) := by decide +kernel
theorem dX0_putNegative_14 : decode cX0_putNegative 14 = .ok (.return_, 1) := by decide +kernel
set_option maxHeartbeats 4000000 in
set_option maxRecDepth 100000 in
theorem t_X0_putNegative (l : Launch) (D : xD) (z n : Nat) (G : xG) (I : xI) (L : xL) (a : Nat) (b : Nat) (ga : G a = some (0, 0, rN)) (gb : G b = some (0, 0, rN)) (za : z ≤ a) : xM0 l D z yX0_putNegative cX0_putNegative 2 none 1 24 [.ref a, .ref b] n G I L (xE none I (cput L a (held (-(L b 0))) (held (-(L b 1))))) := by
  refine xM.of (by decide) (Nat.le_of_ble_eq_true rfl) (fun p e s m args below meth c C hnm hsz => ?_)
  refine x_lv [(0, .ref a), (1, .ref b)] rfl ?_
  refine x_aload_n 0 C dX0_putNegative_0 rfl 0 rfl ?_
  refine x_aload_n 1 C dX0_putNegative_1 rfl 1 rfl ?_
  refine x_getl 2 C dX0_putNegative_2 ff_X0_7 gb ?_
  refine x_lneg 5 C dX0_putNegative_5 ?_
  refine x_aload_n 6 C dX0_putNegative_6 rfl 1 rfl ?_
  refine x_getl 7 C dX0_putNegative_7 ff_X0_13 gb ?_
  refine x_lneg 10 C dX0_putNegative_10 ?_
  refine x_callVe 11 C dX0_putNegative_11 (As := [.long (-(L b 0)), .long (-(L b 1))]) (rest := []) [] (t_X0_put l D z n G I L a (-(L b 0)) (-(L b 1)) ga (by omega)) mt_X0_put km_X0_20 ki_X0_put ks_X0_put ga ⟨by decide, rfl⟩ rfl rfl (Nat.le_of_ble_eq_true rfl) ⟨⟨by decide, by decide⟩, by decide, by decide⟩ (fun I1 L2 eI1 eL2 => ?_)
  replace eI1 := eI1.symm; subst eI1
  refine x_vret 14 C dX0_putNegative_14 rfl (Nat.le_refl _) (xN.intro ?_)
  subst eL2
  refine ⟨rfl, rfl, ?_⟩
  rfl
theorem dX0_scale_0 : decode cX0_scale 0 = .ok (.aload_n 0, 1) := by decide +kernel
theorem dX0_scale_1 : decode cX0_scale 1 = .ok (.aload_n 0, 1) := by decide +kernel
theorem dX0_scale_2 : decode cX0_scale 2 = .ok (.getfield 7, 3) := by decide +kernel
theorem dX0_scale_5 : decode cX0_scale 5 = .ok (.lload_n 1, 1) := by decide +kernel
theorem dX0_scale_6 : decode cX0_scale 6 = .ok (.lmul, 1) := by decide +kernel
theorem dX0_scale_7 : decode cX0_scale 7 = .ok (.aload_n 0, 1) := by decide +kernel
theorem dX0_scale_8 : decode cX0_scale 8 = .ok (.getfield 13, 3) := by decide +kernel
theorem dX0_scale_11 : decode cX0_scale 11 = .ok (.lload_n 1, 1) := by decide +kernel
theorem dX0_scale_12 : decode cX0_scale 12 = .ok (.lmul, 1) := by decide +kernel
theorem dX0_scale_13 : decode cX0_scale 13 = .ok (.invokevirtual 20, 3) := by decide +kernel
theorem dX0_scale_16 : decode cX0_scale 16 = .ok (.return_, 1) := by decide +kernel
set_option maxHeartbeats 4000000 in
set_option maxRecDepth 100000 in
theorem t_X0_scale (l : Launch) (D : xD) (z n : Nat) (G : xG) (I : xI) (L : xL) (a : Nat) (x : Int64) (ga : G a = some (0, 0, rN)) (za : z ≤ a) : xM0 l D z yX0_scale cX0_scale 3 none 1 24 [.ref a, .long x] n G I L (xE none I (cput L a (held (L a 0 * x)) (held (L a 1 * x)))) := by
  refine xM.of (by decide) (Nat.le_of_ble_eq_true rfl) (fun p e s m args below meth c C hnm hsz => ?_)
  refine x_lv [(0, .ref a), (1, .long x)] rfl ?_
  refine x_aload_n 0 C dX0_scale_0 rfl 0 rfl ?_
  refine x_aload_n 1 C dX0_scale_1 rfl 0 rfl ?_
  refine x_getl 2 C dX0_scale_2 ff_X0_7 ga ?_
  refine x_lload_n 5 C dX0_scale_5 rfl 1 rfl ?_
  refine x_lmul 6 C dX0_scale_6 ?_
  refine x_aload_n 7 C dX0_scale_7 rfl 0 rfl ?_
  refine x_getl 8 C dX0_scale_8 ff_X0_13 ga ?_
  refine x_lload_n 11 C dX0_scale_11 rfl 1 rfl ?_
  refine x_lmul 12 C dX0_scale_12 ?_
  refine x_callVe 13 C dX0_scale_13 (As := [.long ((L a 0) * x), .long ((L a 1) * x)]) (rest := []) [] (t_X0_put l D z n G I L a ((L a 0) * x) ((L a 1) * x) ga (by omega)) mt_X0_put km_X0_20 ki_X0_put ks_X0_put ga ⟨by decide, rfl⟩ rfl rfl (Nat.le_of_ble_eq_true rfl) ⟨⟨by decide, by decide⟩, by decide, by decide⟩ (fun I1 L2 eI1 eL2 => ?_)
  replace eI1 := eI1.symm; subst eI1
  refine x_vret 16 C dX0_scale_16 rfl (Nat.le_refl _) (xN.intro ?_)
  subst eL2
  refine ⟨rfl, rfl, ?_⟩
  rfl
theorem dX0_takeShare_0 : decode cX0_takeShare 0 = .ok (.lload_n 3, 1) := by decide +kernel
theorem dX0_takeShare_1 : decode cX0_takeShare 1 = .ok (.lconst 0, 1) := by decide +kernel
theorem dX0_takeShare_2 : decode cX0_takeShare 2 = .ok (.lcmp, 1) := by decide +kernel
theorem dX0_takeShare_3 : decode cX0_takeShare 3 = .ok (.ifCond .eq 23, 3) := by decide +kernel
theorem dX0_takeShare_6 : decode cX0_takeShare 6 = .ok (.aload_n 0, 1) := by decide +kernel
theorem dX0_takeShare_7 : decode cX0_takeShare 7 = .ok (.aload_n 0, 1) := by decide +kernel
theorem dX0_takeShare_8 : decode cX0_takeShare 8 = .ok (.getfield 7, 3) := by decide +kernel
theorem dX0_takeShare_11 : decode cX0_takeShare 11 = .ok (.lload_n 1, 1) := by decide +kernel
theorem dX0_takeShare_12 : decode cX0_takeShare 12 = .ok (.lmul, 1) := by decide +kernel
theorem dX0_takeShare_13 : decode cX0_takeShare 13 = .ok (.lload_n 3, 1) := by decide +kernel
theorem dX0_takeShare_14 : decode cX0_takeShare 14 = .ok (.ldiv, 1) := by decide +kernel
theorem dX0_takeShare_15 : decode cX0_takeShare 15 = .ok (.aload_n 0, 1) := by decide +kernel
theorem dX0_takeShare_16 : decode cX0_takeShare 16 = .ok (.getfield 13, 3) := by decide +kernel
theorem dX0_takeShare_19 : decode cX0_takeShare 19 = .ok (.lload_n 1, 1) := by decide +kernel
theorem dX0_takeShare_20 : decode cX0_takeShare 20 = .ok (.lmul, 1) := by decide +kernel
theorem dX0_takeShare_21 : decode cX0_takeShare 21 = .ok (.lload_n 3, 1) := by decide +kernel
theorem dX0_takeShare_22 : decode cX0_takeShare 22 = .ok (.ldiv, 1) := by decide +kernel
theorem dX0_takeShare_23 : decode cX0_takeShare 23 = .ok (.invokevirtual 20, 3) := by decide +kernel
theorem dX0_takeShare_26 : decode cX0_takeShare 26 = .ok (.return_, 1) := by decide +kernel
set_option maxHeartbeats 4000000 in
set_option maxRecDepth 100000 in
theorem t_X0_takeShare (l : Launch) (D : xD) (z n : Nat) (G : xG) (I : xI) (L : xL) (a : Nat) (x : Int64) (y : Int64) (ga : G a = some (0, 0, rN)) (za : z ≤ a) : xM0 l D z yX0_takeShare cX0_takeShare 5 none 1 24 [.ref a, .long x, .long y] n G I L (xE none I (if y = 0 then L else cput L a (held (L a 0 * x / y)) (held (L a 1 * x / y)))) := by
  refine xM.of (by decide) (Nat.le_of_ble_eq_true rfl) (fun p e s m args below meth c C hnm hsz => ?_)
  refine x_lv [(0, .ref a), (1, .long x), (3, .long y)] rfl ?_
  refine x_lload_n 0 C dX0_takeShare_0 rfl 2 rfl ?_
  refine x_lconst 1 C (v := 0) dX0_takeShare_1 rfl ?_
  refine x_lc_eq 2 C 26 dX0_takeShare_2 dX0_takeShare_3 (by decide) (fun c1 => ?_) (fun c1 => ?_)
  · skip
    refine x_vret 26 C dX0_takeShare_26 rfl (Nat.le_refl _) (xN.intro ?_)
    skip
    refine ⟨rfl, rfl, ?_⟩
    simp [c1]
  · skip
    refine x_aload_n 6 C dX0_takeShare_6 rfl 0 rfl ?_
    refine x_aload_n 7 C dX0_takeShare_7 rfl 0 rfl ?_
    refine x_getl 8 C dX0_takeShare_8 ff_X0_7 ga ?_
    refine x_lload_n 11 C dX0_takeShare_11 rfl 1 rfl ?_
    refine x_lmul 12 C dX0_takeShare_12 ?_
    refine x_lload_n 13 C dX0_takeShare_13 rfl 2 rfl ?_
    refine x_ldiv 14 C dX0_takeShare_14 (by first | assumption | decide) ?_
    refine x_aload_n 15 C dX0_takeShare_15 rfl 0 rfl ?_
    refine x_getl 16 C dX0_takeShare_16 ff_X0_13 ga ?_
    refine x_lload_n 19 C dX0_takeShare_19 rfl 1 rfl ?_
    refine x_lmul 20 C dX0_takeShare_20 ?_
    refine x_lload_n 21 C dX0_takeShare_21 rfl 2 rfl ?_
    refine x_ldiv 22 C dX0_takeShare_22 (by first | assumption | decide) ?_
    refine x_callVe 23 C dX0_takeShare_23 (As := [.long (((L a 0) * x) / y), .long (((L a 1) * x) / y)]) (rest := []) [] (t_X0_put l D z n G I L a (((L a 0) * x) / y) (((L a 1) * x) / y) ga (by omega)) mt_X0_put km_X0_20 ki_X0_put ks_X0_put ga ⟨by decide, rfl⟩ rfl rfl (Nat.le_of_ble_eq_true rfl) ⟨⟨by decide, by decide⟩, by decide, by decide⟩ (fun I2 L3 eI2 eL3 => ?_)
    replace eI2 := eI2.symm; subst eI2
    refine x_vret 26 C dX0_takeShare_26 rfl (Nat.le_refl _) (xN.intro ?_)
    subst eL3
    refine ⟨rfl, rfl, ?_⟩
    simp [c1]
theorem dX0_putMix_0 : decode cX0_putMix 0 = .ok (.lload_n 2, 1) := by decide +kernel
theorem dX0_putMix_1 : decode cX0_putMix 1 = .ok (.lload 5, 2) := by decide +kernel
theorem dX0_putMix_3 : decode cX0_putMix 3 = .ok (.ladd, 1) := by decide +kernel
theorem dX0_putMix_4 : decode cX0_putMix 4 = .ok (.lstore 7, 2) := by decide +kernel
theorem dX0_putMix_6 : decode cX0_putMix 6 = .ok (.lload 7, 2) := by decide +kernel
theorem dX0_putMix_8 : decode cX0_putMix 8 = .ok (.lconst 0, 1) := by decide +kernel
theorem dX0_putMix_9 : decode cX0_putMix 9 = .ok (.lcmp, 1) := by decide +kernel
theorem dX0_putMix_10 : decode cX0_putMix 10 = .ok (.ifCond .eq 43, 3) := by decide +kernel
theorem dX0_putMix_13 : decode cX0_putMix 13 = .ok (.aload_n 0, 1) := by decide +kernel
theorem dX0_putMix_14 : decode cX0_putMix 14 = .ok (.lload_n 2, 1) := by decide +kernel
theorem dX0_putMix_15 : decode cX0_putMix 15 = .ok (.aload_n 1, 1) := by decide +kernel
theorem dX0_putMix_16 : decode cX0_putMix 16 = .ok (.getfield 7, 3) := by decide +kernel
theorem dX0_putMix_19 : decode cX0_putMix 19 = .ok (.lmul, 1) := by decide +kernel
theorem dX0_putMix_20 : decode cX0_putMix 20 = .ok (.lload 5, 2) := by decide +kernel
theorem dX0_putMix_22 : decode cX0_putMix 22 = .ok (.aload 4, 2) := by decide +kernel
theorem dX0_putMix_24 : decode cX0_putMix 24 = .ok (.getfield 7, 3) := by decide +kernel
theorem dX0_putMix_27 : decode cX0_putMix 27 = .ok (.lmul, 1) := by decide +kernel
theorem dX0_putMix_28 : decode cX0_putMix 28 = .ok (.ladd, 1) := by decide +kernel
theorem dX0_putMix_29 : decode cX0_putMix 29 = .ok (.lload 7, 2) := by decide +kernel
theorem dX0_putMix_31 : decode cX0_putMix 31 = .ok (.ldiv, 1) := by decide +kernel
theorem dX0_putMix_32 : decode cX0_putMix 32 = .ok (.lload_n 2, 1) := by decide +kernel
theorem dX0_putMix_33 : decode cX0_putMix 33 = .ok (.aload_n 1, 1) := by decide +kernel
theorem dX0_putMix_34 : decode cX0_putMix 34 = .ok (.getfield 13, 3) := by decide +kernel
theorem dX0_putMix_37 : decode cX0_putMix 37 = .ok (.lmul, 1) := by decide +kernel
theorem dX0_putMix_38 : decode cX0_putMix 38 = .ok (.lload 5, 2) := by decide +kernel
theorem dX0_putMix_40 : decode cX0_putMix 40 = .ok (.aload 4, 2) := by decide +kernel
theorem dX0_putMix_42 : decode cX0_putMix 42 = .ok (.getfield 13, 3) := by decide +kernel
theorem dX0_putMix_45 : decode cX0_putMix 45 = .ok (.lmul, 1) := by decide +kernel
theorem dX0_putMix_46 : decode cX0_putMix 46 = .ok (.ladd, 1) := by decide +kernel
theorem dX0_putMix_47 : decode cX0_putMix 47 = .ok (.lload 7, 2) := by decide +kernel
theorem dX0_putMix_49 : decode cX0_putMix 49 = .ok (.ldiv, 1) := by decide +kernel
theorem dX0_putMix_50 : decode cX0_putMix 50 = .ok (.invokevirtual 20, 3) := by decide +kernel
theorem dX0_putMix_53 : decode cX0_putMix 53 = .ok (.return_, 1) := by decide +kernel
set_option maxHeartbeats 4000000 in
set_option maxRecDepth 100000 in
theorem t_X0_putMix (l : Launch) (D : xD) (z n : Nat) (G : xG) (I : xI) (L : xL) (a : Nat) (b : Nat) (x : Int64) (d : Nat) (y : Int64) (ga : G a = some (0, 0, rN)) (gb : G b = some (0, 0, rN)) (gd : G d = some (0, 0, rN)) (za : z ≤ a) : xM0 l D z yX0_putMix cX0_putMix 9 none 1 24 [.ref a, .ref b, .long x, .ref d, .long y] n G I L (xE none I (if x + y = 0 then L else cput L a (held ((x * L b 0 + y * L d 0) / (x + y))) (held ((x * L b 1 + y * L d 1) / (x + y))))) := by
  refine xM.of (by decide) (Nat.le_of_ble_eq_true rfl) (fun p e s m args below meth c C hnm hsz => ?_)
  refine x_lv [(0, .ref a), (1, .ref b), (2, .long x), (4, .ref d), (5, .long y)] rfl ?_
  refine x_lload_n 0 C dX0_putMix_0 rfl 2 rfl ?_
  refine x_lload 1 C dX0_putMix_1 4 rfl ?_
  refine x_ladd 3 C dX0_putMix_3 ?_
  refine x_topl (fun v1 ev1 => ?_)
  refine x_lstore 4 C [(7, .long v1), (0, .ref a), (1, .ref b), (2, .long x), (4, .ref d), (5, .long y)] dX0_putMix_4 (by decide) rfl ?_
  refine x_lload 6 C dX0_putMix_6 0 rfl ?_
  refine x_lconst 8 C (v := 0) dX0_putMix_8 rfl ?_
  refine x_lc_eq 9 C 53 dX0_putMix_9 dX0_putMix_10 (by decide) (fun c2 => ?_) (fun c2 => ?_)
  · skip
    refine x_vret 53 C dX0_putMix_53 rfl (Nat.le_refl _) (xN.intro ?_)
    subst ev1
    refine ⟨rfl, rfl, ?_⟩
    simp [c2]
  · skip
    refine x_aload_n 13 C dX0_putMix_13 rfl 1 rfl ?_
    refine x_lload_n 14 C dX0_putMix_14 rfl 3 rfl ?_
    refine x_aload_n 15 C dX0_putMix_15 rfl 2 rfl ?_
    refine x_getl 16 C dX0_putMix_16 ff_X0_7 gb ?_
    refine x_lmul 19 C dX0_putMix_19 ?_
    refine x_lload 20 C dX0_putMix_20 5 rfl ?_
    refine x_aload 22 C dX0_putMix_22 4 rfl ?_
    refine x_getl 24 C dX0_putMix_24 ff_X0_7 gd ?_
    refine x_lmul 27 C dX0_putMix_27 ?_
    refine x_ladd 28 C dX0_putMix_28 ?_
    refine x_lload 29 C dX0_putMix_29 0 rfl ?_
    refine x_ldiv 31 C dX0_putMix_31 (by first | assumption | decide) ?_
    refine x_lload_n 32 C dX0_putMix_32 rfl 3 rfl ?_
    refine x_aload_n 33 C dX0_putMix_33 rfl 2 rfl ?_
    refine x_getl 34 C dX0_putMix_34 ff_X0_13 gb ?_
    refine x_lmul 37 C dX0_putMix_37 ?_
    refine x_lload 38 C dX0_putMix_38 5 rfl ?_
    refine x_aload 40 C dX0_putMix_40 4 rfl ?_
    refine x_getl 42 C dX0_putMix_42 ff_X0_13 gd ?_
    refine x_lmul 45 C dX0_putMix_45 ?_
    refine x_ladd 46 C dX0_putMix_46 ?_
    refine x_lload 47 C dX0_putMix_47 0 rfl ?_
    refine x_ldiv 49 C dX0_putMix_49 (by first | assumption | decide) ?_
    refine x_callVe 50 C dX0_putMix_50 (As := [.long (((x * (L b 0)) + (y * (L d 0))) / v1), .long (((x * (L b 1)) + (y * (L d 1))) / v1)]) (rest := []) [] (t_X0_put l D z n G I L a (((x * (L b 0)) + (y * (L d 0))) / v1) (((x * (L b 1)) + (y * (L d 1))) / v1) ga (by omega)) mt_X0_put km_X0_20 ki_X0_put ks_X0_put ga ⟨by decide, rfl⟩ rfl rfl (Nat.le_of_ble_eq_true rfl) ⟨⟨by decide, by decide⟩, by decide, by decide⟩ (fun I3 L4 eI3 eL4 => ?_)
    replace eI3 := eI3.symm; subst eI3
    refine x_vret 53 C dX0_putMix_53 rfl (Nat.le_refl _) (xN.intro ?_)
    subst ev1; subst eL4
    refine ⟨rfl, rfl, ?_⟩
    simp [c2]
theorem dX0_putTimesGaussian_0 : decode cX0_putTimesGaussian 0 = .ok (.aload_n 0, 1) := by decide +kernel
theorem dX0_putTimesGaussian_1 : decode cX0_putTimesGaussian 1 = .ok (.lload_n 2, 1) := by decide +kernel
theorem dX0_putTimesGaussian_2 : decode cX0_putTimesGaussian 2 = .ok (.aload_n 1, 1) := by decide +kernel
theorem dX0_putTimesGaussian_3 : decode cX0_putTimesGaussian 3 = .ok (.getfield 7, 3) := by decide +kernel
theorem dX0_putTimesGaussian_6 : decode cX0_putTimesGaussian 6 = .ok (.lmul, 1) := by decide +kernel
theorem dX0_putTimesGaussian_7 : decode cX0_putTimesGaussian 7 = .ok (.lload 4, 2) := by decide +kernel
theorem dX0_putTimesGaussian_9 : decode cX0_putTimesGaussian 9 = .ok (.aload_n 1, 1) := by decide +kernel
theorem dX0_putTimesGaussian_10 : decode cX0_putTimesGaussian 10 = .ok (.getfield 13, 3) := by decide +kernel
theorem dX0_putTimesGaussian_13 : decode cX0_putTimesGaussian 13 = .ok (.lmul, 1) := by decide +kernel
theorem dX0_putTimesGaussian_14 : decode cX0_putTimesGaussian 14 = .ok (.lsub, 1) := by decide +kernel
theorem dX0_putTimesGaussian_15 : decode cX0_putTimesGaussian 15 = .ok (.lload_n 2, 1) := by decide +kernel
theorem dX0_putTimesGaussian_16 : decode cX0_putTimesGaussian 16 = .ok (.aload_n 1, 1) := by decide +kernel
theorem dX0_putTimesGaussian_17 : decode cX0_putTimesGaussian 17 = .ok (.getfield 13, 3) := by decide +kernel
theorem dX0_putTimesGaussian_20 : decode cX0_putTimesGaussian 20 = .ok (.lmul, 1) := by decide +kernel
theorem dX0_putTimesGaussian_21 : decode cX0_putTimesGaussian 21 = .ok (.lload 4, 2) := by decide +kernel
theorem dX0_putTimesGaussian_23 : decode cX0_putTimesGaussian 23 = .ok (.aload_n 1, 1) := by decide +kernel
theorem dX0_putTimesGaussian_24 : decode cX0_putTimesGaussian 24 = .ok (.getfield 7, 3) := by decide +kernel
theorem dX0_putTimesGaussian_27 : decode cX0_putTimesGaussian 27 = .ok (.lmul, 1) := by decide +kernel
theorem dX0_putTimesGaussian_28 : decode cX0_putTimesGaussian 28 = .ok (.ladd, 1) := by decide +kernel
theorem dX0_putTimesGaussian_29 : decode cX0_putTimesGaussian 29 = .ok (.invokevirtual 20, 3) := by decide +kernel
theorem dX0_putTimesGaussian_32 : decode cX0_putTimesGaussian 32 = .ok (.return_, 1) := by decide +kernel
set_option maxHeartbeats 4000000 in
set_option maxRecDepth 100000 in
theorem t_X0_putTimesGaussian (l : Launch) (D : xD) (z n : Nat) (G : xG) (I : xI) (L : xL) (a : Nat) (b : Nat) (x : Int64) (y : Int64) (ga : G a = some (0, 0, rN)) (gb : G b = some (0, 0, rN)) (za : z ≤ a) : xM0 l D z yX0_putTimesGaussian cX0_putTimesGaussian 6 none 1 24 [.ref a, .ref b, .long x, .long y] n G I L (xE none I (cput L a (held (x * L b 0 - y * L b 1)) (held (x * L b 1 + y * L b 0)))) := by
  refine xM.of (by decide) (Nat.le_of_ble_eq_true rfl) (fun p e s m args below meth c C hnm hsz => ?_)
  refine x_lv [(0, .ref a), (1, .ref b), (2, .long x), (4, .long y)] rfl ?_
  refine x_aload_n 0 C dX0_putTimesGaussian_0 rfl 0 rfl ?_
  refine x_lload_n 1 C dX0_putTimesGaussian_1 rfl 2 rfl ?_
  refine x_aload_n 2 C dX0_putTimesGaussian_2 rfl 1 rfl ?_
  refine x_getl 3 C dX0_putTimesGaussian_3 ff_X0_7 gb ?_
  refine x_lmul 6 C dX0_putTimesGaussian_6 ?_
  refine x_lload 7 C dX0_putTimesGaussian_7 3 rfl ?_
  refine x_aload_n 9 C dX0_putTimesGaussian_9 rfl 1 rfl ?_
  refine x_getl 10 C dX0_putTimesGaussian_10 ff_X0_13 gb ?_
  refine x_lmul 13 C dX0_putTimesGaussian_13 ?_
  refine x_lsub 14 C dX0_putTimesGaussian_14 ?_
  refine x_lload_n 15 C dX0_putTimesGaussian_15 rfl 2 rfl ?_
  refine x_aload_n 16 C dX0_putTimesGaussian_16 rfl 1 rfl ?_
  refine x_getl 17 C dX0_putTimesGaussian_17 ff_X0_13 gb ?_
  refine x_lmul 20 C dX0_putTimesGaussian_20 ?_
  refine x_lload 21 C dX0_putTimesGaussian_21 3 rfl ?_
  refine x_aload_n 23 C dX0_putTimesGaussian_23 rfl 1 rfl ?_
  refine x_getl 24 C dX0_putTimesGaussian_24 ff_X0_7 gb ?_
  refine x_lmul 27 C dX0_putTimesGaussian_27 ?_
  refine x_ladd 28 C dX0_putTimesGaussian_28 ?_
  refine x_callVe 29 C dX0_putTimesGaussian_29 (As := [.long ((x * (L b 0)) - (y * (L b 1))), .long ((x * (L b 1)) + (y * (L b 0)))]) (rest := []) [] (t_X0_put l D z n G I L a ((x * (L b 0)) - (y * (L b 1))) ((x * (L b 1)) + (y * (L b 0))) ga (by omega)) mt_X0_put km_X0_20 ki_X0_put ks_X0_put ga ⟨by decide, rfl⟩ rfl rfl (Nat.le_of_ble_eq_true rfl) ⟨⟨by decide, by decide⟩, by decide, by decide⟩ (fun I1 L2 eI1 eL2 => ?_)
  replace eI1 := eI1.symm; subst eI1
  refine x_vret 32 C dX0_putTimesGaussian_32 rfl (Nat.le_refl _) (xN.intro ?_)
  subst eL2
  refine ⟨rfl, rfl, ?_⟩
  rfl
theorem dX0_putProduct_0 : decode cX0_putProduct 0 = .ok (.lload_n 3, 1) := by decide +kernel
theorem dX0_putProduct_1 : decode cX0_putProduct 1 = .ok (.lconst 0, 1) := by decide +kernel
theorem dX0_putProduct_2 : decode cX0_putProduct 2 = .ok (.lcmp, 1) := by decide +kernel
theorem dX0_putProduct_3 : decode cX0_putProduct 3 = .ok (.ifCond .eq 49, 3) := by decide +kernel
theorem dX0_putProduct_6 : decode cX0_putProduct 6 = .ok (.aload_n 0, 1) := by decide +kernel
theorem dX0_putProduct_7 : decode cX0_putProduct 7 = .ok (.aload_n 1, 1) := by decide +kernel
theorem dX0_putProduct_8 : decode cX0_putProduct 8 = .ok (.getfield 7, 3) := by decide +kernel
theorem dX0_putProduct_11 : decode cX0_putProduct 11 = .ok (.aload_n 2, 1) := by decide +kernel
theorem dX0_putProduct_12 : decode cX0_putProduct 12 = .ok (.getfield 7, 3) := by decide +kernel
theorem dX0_putProduct_15 : decode cX0_putProduct 15 = .ok (.lmul, 1) := by decide +kernel
theorem dX0_putProduct_16 : decode cX0_putProduct 16 = .ok (.aload_n 1, 1) := by decide +kernel
theorem dX0_putProduct_17 : decode cX0_putProduct 17 = .ok (.getfield 13, 3) := by decide +kernel
theorem dX0_putProduct_20 : decode cX0_putProduct 20 = .ok (.aload_n 2, 1) := by decide +kernel
theorem dX0_putProduct_21 : decode cX0_putProduct 21 = .ok (.getfield 13, 3) := by decide +kernel
theorem dX0_putProduct_24 : decode cX0_putProduct 24 = .ok (.lmul, 1) := by decide +kernel
theorem dX0_putProduct_25 : decode cX0_putProduct 25 = .ok (.lsub, 1) := by decide +kernel
theorem dX0_putProduct_26 : decode cX0_putProduct 26 = .ok (.lload_n 3, 1) := by decide +kernel
theorem dX0_putProduct_27 : decode cX0_putProduct 27 = .ok (.ldiv, 1) := by decide +kernel
theorem dX0_putProduct_28 : decode cX0_putProduct 28 = .ok (.aload_n 1, 1) := by decide +kernel
theorem dX0_putProduct_29 : decode cX0_putProduct 29 = .ok (.getfield 7, 3) := by decide +kernel
theorem dX0_putProduct_32 : decode cX0_putProduct 32 = .ok (.aload_n 2, 1) := by decide +kernel
theorem dX0_putProduct_33 : decode cX0_putProduct 33 = .ok (.getfield 13, 3) := by decide +kernel
theorem dX0_putProduct_36 : decode cX0_putProduct 36 = .ok (.lmul, 1) := by decide +kernel
theorem dX0_putProduct_37 : decode cX0_putProduct 37 = .ok (.aload_n 1, 1) := by decide +kernel
theorem dX0_putProduct_38 : decode cX0_putProduct 38 = .ok (.getfield 13, 3) := by decide +kernel
theorem dX0_putProduct_41 : decode cX0_putProduct 41 = .ok (.aload_n 2, 1) := by decide +kernel
theorem dX0_putProduct_42 : decode cX0_putProduct 42 = .ok (.getfield 7, 3) := by decide +kernel
theorem dX0_putProduct_45 : decode cX0_putProduct 45 = .ok (.lmul, 1) := by decide +kernel
theorem dX0_putProduct_46 : decode cX0_putProduct 46 = .ok (.ladd, 1) := by decide +kernel
theorem dX0_putProduct_47 : decode cX0_putProduct 47 = .ok (.lload_n 3, 1) := by decide +kernel
theorem dX0_putProduct_48 : decode cX0_putProduct 48 = .ok (.ldiv, 1) := by decide +kernel
theorem dX0_putProduct_49 : decode cX0_putProduct 49 = .ok (.invokevirtual 20, 3) := by decide +kernel
theorem dX0_putProduct_52 : decode cX0_putProduct 52 = .ok (.return_, 1) := by decide +kernel
set_option maxHeartbeats 4000000 in
set_option maxRecDepth 100000 in
theorem t_X0_putProduct (l : Launch) (D : xD) (z n : Nat) (G : xG) (I : xI) (L : xL) (a : Nat) (b : Nat) (d : Nat) (u : Int64) (ga : G a = some (0, 0, rN)) (gb : G b = some (0, 0, rN)) (gd : G d = some (0, 0, rN)) (za : z ≤ a) : xM0 l D z yX0_putProduct cX0_putProduct 5 none 1 24 [.ref a, .ref b, .ref d, .long u] n G I L (xE none I (if u = 0 then L else cput L a (held ((L b 0 * L d 0 - L b 1 * L d 1) / u)) (held ((L b 0 * L d 1 + L b 1 * L d 0) / u)))) := by
  refine xM.of (by decide) (Nat.le_of_ble_eq_true rfl) (fun p e s m args below meth c C hnm hsz => ?_)
  refine x_lv [(0, .ref a), (1, .ref b), (2, .ref d), (3, .long u)] rfl ?_
  refine x_lload_n 0 C dX0_putProduct_0 rfl 3 rfl ?_
  refine x_lconst 1 C (v := 0) dX0_putProduct_1 rfl ?_
  refine x_lc_eq 2 C 52 dX0_putProduct_2 dX0_putProduct_3 (by decide) (fun c1 => ?_) (fun c1 => ?_)
  · skip
    refine x_vret 52 C dX0_putProduct_52 rfl (Nat.le_refl _) (xN.intro ?_)
    skip
    refine ⟨rfl, rfl, ?_⟩
    simp [c1]
  · skip
    refine x_aload_n 6 C dX0_putProduct_6 rfl 0 rfl ?_
    refine x_aload_n 7 C dX0_putProduct_7 rfl 1 rfl ?_
    refine x_getl 8 C dX0_putProduct_8 ff_X0_7 gb ?_
    refine x_aload_n 11 C dX0_putProduct_11 rfl 2 rfl ?_
    refine x_getl 12 C dX0_putProduct_12 ff_X0_7 gd ?_
    refine x_lmul 15 C dX0_putProduct_15 ?_
    refine x_aload_n 16 C dX0_putProduct_16 rfl 1 rfl ?_
    refine x_getl 17 C dX0_putProduct_17 ff_X0_13 gb ?_
    refine x_aload_n 20 C dX0_putProduct_20 rfl 2 rfl ?_
    refine x_getl 21 C dX0_putProduct_21 ff_X0_13 gd ?_
    refine x_lmul 24 C dX0_putProduct_24 ?_
    refine x_lsub 25 C dX0_putProduct_25 ?_
    refine x_lload_n 26 C dX0_putProduct_26 rfl 3 rfl ?_
    refine x_ldiv 27 C dX0_putProduct_27 (by first | assumption | decide) ?_
    refine x_aload_n 28 C dX0_putProduct_28 rfl 1 rfl ?_
    refine x_getl 29 C dX0_putProduct_29 ff_X0_7 gb ?_
    refine x_aload_n 32 C dX0_putProduct_32 rfl 2 rfl ?_
    refine x_getl 33 C dX0_putProduct_33 ff_X0_13 gd ?_
    refine x_lmul 36 C dX0_putProduct_36 ?_
    refine x_aload_n 37 C dX0_putProduct_37 rfl 1 rfl ?_
    refine x_getl 38 C dX0_putProduct_38 ff_X0_13 gb ?_
    refine x_aload_n 41 C dX0_putProduct_41 rfl 2 rfl ?_
    refine x_getl 42 C dX0_putProduct_42 ff_X0_7 gd ?_
    refine x_lmul 45 C dX0_putProduct_45 ?_
    refine x_ladd 46 C dX0_putProduct_46 ?_
    refine x_lload_n 47 C dX0_putProduct_47 rfl 3 rfl ?_
    refine x_ldiv 48 C dX0_putProduct_48 (by first | assumption | decide) ?_
    refine x_callVe 49 C dX0_putProduct_49 (As := [.long ((((L b 0) * (L d 0)) - ((L b 1) * (L d 1))) / u), .long ((((L b 0) * (L d 1)) + ((L b 1) * (L d 0))) / u)]) (rest := []) [] (t_X0_put l D z n G I L a ((((L b 0) * (L d 0)) - ((L b 1) * (L d 1))) / u) ((((L b 0) * (L d 1)) + ((L b 1) * (L d 0))) / u) ga (by omega)) mt_X0_put km_X0_20 ki_X0_put ks_X0_put ga ⟨by decide, rfl⟩ rfl rfl (Nat.le_of_ble_eq_true rfl) ⟨⟨by decide, by decide⟩, by decide, by decide⟩ (fun I2 L3 eI2 eL3 => ?_)
    replace eI2 := eI2.symm; subst eI2
    refine x_vret 52 C dX0_putProduct_52 rfl (Nat.le_refl _) (xN.intro ?_)
    subst eL3
    refine ⟨rfl, rfl, ?_⟩
    simp [c1]
theorem dX0_divideBy_0 : decode cX0_divideBy 0 = .ok (.lload_n 2, 1) := by decide +kernel
theorem dX0_divideBy_1 : decode cX0_divideBy 1 = .ok (.lconst 0, 1) := by decide +kernel
theorem dX0_divideBy_2 : decode cX0_divideBy 2 = .ok (.lcmp, 1) := by decide +kernel
theorem dX0_divideBy_3 : decode cX0_divideBy 3 = .ok (.ifCond .ne 7, 3) := by decide +kernel
theorem dX0_divideBy_6 : decode cX0_divideBy 6 = .ok (.lconst 0, 1) := by decide +kernel
theorem dX0_divideBy_7 : decode cX0_divideBy 7 = .ok (.goto 24, 3) := by decide +kernel
theorem dX0_divideBy_10 : decode cX0_divideBy 10 = .ok (.aload_n 1, 1) := by decide +kernel
theorem dX0_divideBy_11 : decode cX0_divideBy 11 = .ok (.getfield 7, 3) := by decide +kernel
theorem dX0_divideBy_14 : decode cX0_divideBy 14 = .ok (.aload_n 1, 1) := by decide +kernel
theorem dX0_divideBy_15 : decode cX0_divideBy 15 = .ok (.getfield 7, 3) := by decide +kernel
theorem dX0_divideBy_18 : decode cX0_divideBy 18 = .ok (.lmul, 1) := by decide +kernel
theorem dX0_divideBy_19 : decode cX0_divideBy 19 = .ok (.aload_n 1, 1) := by decide +kernel
theorem dX0_divideBy_20 : decode cX0_divideBy 20 = .ok (.getfield 13, 3) := by decide +kernel
theorem dX0_divideBy_23 : decode cX0_divideBy 23 = .ok (.aload_n 1, 1) := by decide +kernel
theorem dX0_divideBy_24 : decode cX0_divideBy 24 = .ok (.getfield 13, 3) := by decide +kernel
theorem dX0_divideBy_27 : decode cX0_divideBy 27 = .ok (.lmul, 1) := by decide +kernel
theorem dX0_divideBy_28 : decode cX0_divideBy 28 = .ok (.ladd, 1) := by decide +kernel
theorem dX0_divideBy_29 : decode cX0_divideBy 29 = .ok (.lload_n 2, 1) := by decide +kernel
theorem dX0_divideBy_30 : decode cX0_divideBy 30 = .ok (.ldiv, 1) := by decide +kernel
theorem dX0_divideBy_31 : decode cX0_divideBy 31 = .ok (.lstore 4, 2) := by decide +kernel
theorem dX0_divideBy_33 : decode cX0_divideBy 33 = .ok (.lload 4, 2) := by decide +kernel
theorem dX0_divideBy_35 : decode cX0_divideBy 35 = .ok (.lconst 0, 1) := by decide +kernel
theorem dX0_divideBy_36 : decode cX0_divideBy 36 = .ok (.lcmp, 1) := by decide +kernel
theorem dX0_divideBy_37 : decode cX0_divideBy 37 = .ok (.ifCond .ne 5, 3) := by decide +kernel
theorem dX0_divideBy_40 : decode cX0_divideBy 40 = .ok (.iconst 0, 1) := by decide +kernel
theorem dX0_divideBy_41 : decode cX0_divideBy 41 = .ok (.ireturn, 1) := by decide +kernel
theorem dX0_divideBy_42 : decode cX0_divideBy 42 = .ok (.aload_n 0, 1) := by decide +kernel
theorem dX0_divideBy_43 : decode cX0_divideBy 43 = .ok (.aload_n 0, 1) := by decide +kernel
theorem dX0_divideBy_44 : decode cX0_divideBy 44 = .ok (.getfield 7, 3) := by decide +kernel
theorem dX0_divideBy_47 : decode cX0_divideBy 47 = .ok (.aload_n 1, 1) := by decide +kernel
theorem dX0_divideBy_48 : decode cX0_divideBy 48 = .ok (.getfield 7, 3) := by decide +kernel
theorem dX0_divideBy_51 : decode cX0_divideBy 51 = .ok (.lmul, 1) := by decide +kernel
theorem dX0_divideBy_52 : decode cX0_divideBy 52 = .ok (.aload_n 0, 1) := by decide +kernel
theorem dX0_divideBy_53 : decode cX0_divideBy 53 = .ok (.getfield 13, 3) := by decide +kernel
theorem dX0_divideBy_56 : decode cX0_divideBy 56 = .ok (.aload_n 1, 1) := by decide +kernel
theorem dX0_divideBy_57 : decode cX0_divideBy 57 = .ok (.getfield 13, 3) := by decide +kernel
theorem dX0_divideBy_60 : decode cX0_divideBy 60 = .ok (.lmul, 1) := by decide +kernel
theorem dX0_divideBy_61 : decode cX0_divideBy 61 = .ok (.ladd, 1) := by decide +kernel
theorem dX0_divideBy_62 : decode cX0_divideBy 62 = .ok (.lload 4, 2) := by decide +kernel
theorem dX0_divideBy_64 : decode cX0_divideBy 64 = .ok (.ldiv, 1) := by decide +kernel
theorem dX0_divideBy_65 : decode cX0_divideBy 65 = .ok (.aload_n 0, 1) := by decide +kernel
theorem dX0_divideBy_66 : decode cX0_divideBy 66 = .ok (.getfield 13, 3) := by decide +kernel
theorem dX0_divideBy_69 : decode cX0_divideBy 69 = .ok (.aload_n 1, 1) := by decide +kernel
theorem dX0_divideBy_70 : decode cX0_divideBy 70 = .ok (.getfield 7, 3) := by decide +kernel
theorem dX0_divideBy_73 : decode cX0_divideBy 73 = .ok (.lmul, 1) := by decide +kernel
theorem dX0_divideBy_74 : decode cX0_divideBy 74 = .ok (.aload_n 0, 1) := by decide +kernel
theorem dX0_divideBy_75 : decode cX0_divideBy 75 = .ok (.getfield 7, 3) := by decide +kernel
theorem dX0_divideBy_78 : decode cX0_divideBy 78 = .ok (.aload_n 1, 1) := by decide +kernel
theorem dX0_divideBy_79 : decode cX0_divideBy 79 = .ok (.getfield 13, 3) := by decide +kernel
theorem dX0_divideBy_82 : decode cX0_divideBy 82 = .ok (.lmul, 1) := by decide +kernel
theorem dX0_divideBy_83 : decode cX0_divideBy 83 = .ok (.lsub, 1) := by decide +kernel
theorem dX0_divideBy_84 : decode cX0_divideBy 84 = .ok (.lload 4, 2) := by decide +kernel
theorem dX0_divideBy_86 : decode cX0_divideBy 86 = .ok (.ldiv, 1) := by decide +kernel
theorem dX0_divideBy_87 : decode cX0_divideBy 87 = .ok (.invokevirtual 20, 3) := by decide +kernel
theorem dX0_divideBy_90 : decode cX0_divideBy 90 = .ok (.iconst 1, 1) := by decide +kernel
theorem dX0_divideBy_91 : decode cX0_divideBy 91 = .ok (.ireturn, 1) := by decide +kernel
set_option maxHeartbeats 4000000 in
set_option maxRecDepth 100000 in
theorem t_X0_divideBy (l : Launch) (D : xD) (z n : Nat) (G : xG) (I : xI) (L : xL) (a : Nat) (b : Nat) (u : Int64) (ga : G a = some (0, 0, rN)) (gb : G b = some (0, 0, rN)) (za : z ≤ a) : xM0 l D z yX0_divideBy cX0_divideBy 6 (some .boolean) 1 24 [.ref a, .ref b, .long u] n G I L (xE (some (.int (if cnorm (L b 0) (L b 1) u = 0 then 0 else 1))) I (if cnorm (L b 0) (L b 1) u = 0 then L else cput L a (held ((L a 0 * L b 0 + L a 1 * L b 1) / cnorm (L b 0) (L b 1) u)) (held ((L a 1 * L b 0 - L a 0 * L b 1) / cnorm (L b 0) (L b 1) u)))) := by
  refine xM.of (by decide) (Nat.le_of_ble_eq_true rfl) (fun p e s m args below meth c C hnm hsz => ?_)
  refine x_lv [(0, .ref a), (1, .ref b), (2, .long u)] rfl ?_
  refine x_lload_n 0 C dX0_divideBy_0 rfl 2 rfl ?_
  refine x_lconst 1 C (v := 0) dX0_divideBy_1 rfl ?_
  have hJj2 : ∀ j2 : Int64, j2 = (cnorm (L b 0) (L b 1) u) → X p l e (xRm 1 24 0 0) s m args below meth c D z 6 (MQ below (xQc D z n (xN n G (xE (some (.int (if cnorm (L b 0) (L b 1) u = 0 then 0 else 1))) I (if cnorm (L b 0) (L b 1) u = 0 then L else cput L a (held ((L a 0 * L b 0 + L a 1 * L b 1) / cnorm (L b 0) (L b 1) u)) (held ((L a 1 * L b 0 - L a 0 * L b 1) / cnorm (L b 0) (L b 1) u)))))) args s 0 0 (fun a => z ≤ a)) 0 0 n G I L 31 [(0, .ref a), (1, .ref b), (2, .long u)] [.long j2] := by
    intro j2 ej2
    refine x_lstore 31 C [(4, .long j2), (0, .ref a), (1, .ref b), (2, .long u)] dX0_divideBy_31 (by decide) rfl ?_
    refine x_lload 33 C dX0_divideBy_33 0 rfl ?_
    refine x_lconst 35 C (v := 0) dX0_divideBy_35 rfl ?_
    refine x_lc_ne 36 C 42 dX0_divideBy_36 dX0_divideBy_37 (by decide) (fun c3 => ?_) (fun c3 => ?_)
    · skip
      refine x_aload_n 42 C dX0_divideBy_42 rfl 1 rfl ?_
      refine x_aload_n 43 C dX0_divideBy_43 rfl 1 rfl ?_
      refine x_getl 44 C dX0_divideBy_44 ff_X0_7 ga ?_
      refine x_aload_n 47 C dX0_divideBy_47 rfl 2 rfl ?_
      refine x_getl 48 C dX0_divideBy_48 ff_X0_7 gb ?_
      refine x_lmul 51 C dX0_divideBy_51 ?_
      refine x_aload_n 52 C dX0_divideBy_52 rfl 1 rfl ?_
      refine x_getl 53 C dX0_divideBy_53 ff_X0_13 ga ?_
      refine x_aload_n 56 C dX0_divideBy_56 rfl 2 rfl ?_
      refine x_getl 57 C dX0_divideBy_57 ff_X0_13 gb ?_
      refine x_lmul 60 C dX0_divideBy_60 ?_
      refine x_ladd 61 C dX0_divideBy_61 ?_
      refine x_lload 62 C dX0_divideBy_62 0 rfl ?_
      refine x_ldiv 64 C dX0_divideBy_64 (by first | assumption | decide) ?_
      refine x_aload_n 65 C dX0_divideBy_65 rfl 1 rfl ?_
      refine x_getl 66 C dX0_divideBy_66 ff_X0_13 ga ?_
      refine x_aload_n 69 C dX0_divideBy_69 rfl 2 rfl ?_
      refine x_getl 70 C dX0_divideBy_70 ff_X0_7 gb ?_
      refine x_lmul 73 C dX0_divideBy_73 ?_
      refine x_aload_n 74 C dX0_divideBy_74 rfl 1 rfl ?_
      refine x_getl 75 C dX0_divideBy_75 ff_X0_7 ga ?_
      refine x_aload_n 78 C dX0_divideBy_78 rfl 2 rfl ?_
      refine x_getl 79 C dX0_divideBy_79 ff_X0_13 gb ?_
      refine x_lmul 82 C dX0_divideBy_82 ?_
      refine x_lsub 83 C dX0_divideBy_83 ?_
      refine x_lload 84 C dX0_divideBy_84 0 rfl ?_
      refine x_ldiv 86 C dX0_divideBy_86 (by first | assumption | decide) ?_
      refine x_callVe 87 C dX0_divideBy_87 (As := [.long ((((L a 0) * (L b 0)) + ((L a 1) * (L b 1))) / j2), .long ((((L a 1) * (L b 0)) - ((L a 0) * (L b 1))) / j2)]) (rest := []) [] (t_X0_put l D z n G I L a ((((L a 0) * (L b 0)) + ((L a 1) * (L b 1))) / j2) ((((L a 1) * (L b 0)) - ((L a 0) * (L b 1))) / j2) ga (by omega)) mt_X0_put km_X0_20 ki_X0_put ks_X0_put ga ⟨by decide, rfl⟩ rfl rfl (Nat.le_of_ble_eq_true rfl) ⟨⟨by decide, by decide⟩, by decide, by decide⟩ (fun I4 L5 eI4 eL5 => ?_)
      replace eI4 := eI4.symm; subst eI4
      refine x_iconst 90 C (v := 1) dX0_divideBy_90 rfl ?_
      refine x_iret 91 C dX0_divideBy_91 rfl rfl (Nat.le_refl _) (xN.intro ?_)
      subst ej2; subst eL5
      refine ⟨?_, rfl, ?_⟩ <;> simp [c3]
    · skip
      refine x_iconst 40 C (v := 0) dX0_divideBy_40 rfl ?_
      refine x_iret 41 C dX0_divideBy_41 rfl rfl (Nat.le_refl _) (xN.intro ?_)
      subst ej2
      refine ⟨?_, rfl, ?_⟩ <;> simp [c3]
  refine x_lc_ne 2 C 10 dX0_divideBy_2 dX0_divideBy_3 (by decide) (fun c1 => ?_) (fun c1 => ?_)
  · skip
    refine x_aload_n 10 C dX0_divideBy_10 rfl 1 rfl ?_
    refine x_getl 11 C dX0_divideBy_11 ff_X0_7 gb ?_
    refine x_aload_n 14 C dX0_divideBy_14 rfl 1 rfl ?_
    refine x_getl 15 C dX0_divideBy_15 ff_X0_7 gb ?_
    refine x_lmul 18 C dX0_divideBy_18 ?_
    refine x_aload_n 19 C dX0_divideBy_19 rfl 1 rfl ?_
    refine x_getl 20 C dX0_divideBy_20 ff_X0_13 gb ?_
    refine x_aload_n 23 C dX0_divideBy_23 rfl 1 rfl ?_
    refine x_getl 24 C dX0_divideBy_24 ff_X0_13 gb ?_
    refine x_lmul 27 C dX0_divideBy_27 ?_
    refine x_ladd 28 C dX0_divideBy_28 ?_
    refine x_lload_n 29 C dX0_divideBy_29 rfl 2 rfl ?_
    refine x_ldiv 30 C dX0_divideBy_30 (by first | assumption | decide) ?_
    exact hJj2 _ (by simp [cnorm, c1])
  · skip
    refine x_lconst 6 C (v := 0) dX0_divideBy_6 rfl ?_
    refine x_goto 7 C 31 dX0_divideBy_7 (by decide) ?_
    exact hJj2 _ (by simp [cnorm, c1])
theorem dX0_size_0 : decode cX0_size 0 = .ok (.aload_n 0, 1) := by decide +kernel
theorem dX0_size_1 : decode cX0_size 1 = .ok (.getfield 7, 3) := by decide +kernel
theorem dX0_size_4 : decode cX0_size 4 = .ok (.invokestatic 24, 3) := by decide +kernel
theorem dX0_size_7 : decode cX0_size 7 = .ok (.aload_n 0, 1) := by decide +kernel
theorem dX0_size_8 : decode cX0_size 8 = .ok (.getfield 13, 3) := by decide +kernel
theorem dX0_size_11 : decode cX0_size 11 = .ok (.invokestatic 24, 3) := by decide +kernel
theorem dX0_size_14 : decode cX0_size 14 = .ok (.invokestatic 30, 3) := by decide +kernel
theorem dX0_size_17 : decode cX0_size 17 = .ok (.lreturn, 1) := by decide +kernel
set_option maxHeartbeats 4000000 in
set_option maxRecDepth 100000 in
theorem t_X0_size (l : Launch) (D : xD) (z n : Nat) (G : xG) (I : xI) (L : xL) (a : Nat) (ga : G a = some (0, 0, rN)) : xM0 l D z yX0_size cX0_size 1 (some .long) 1 23 [.ref a] n G I L (xE (some (.long (csize (L a 0) (L a 1)))) I L) := by
  refine xM.of (by decide) (Nat.le_of_ble_eq_true rfl) (fun p e s m args below meth c C hnm hsz => ?_)
  refine x_lv [(0, .ref a)] rfl ?_
  refine x_aload_n 0 C dX0_size_0 rfl 0 rfl ?_
  refine x_getl 1 C dX0_size_1 ff_X0_7 ga ?_
  refine x_mabsl 4 C dX0_size_4 km_X0_24 kt_J9_abs_067f4 kn_J9 kc_J9_abs_067f4 ⟨by decide, Nat.le_of_ble_eq_true rfl, by decide, by decide⟩ ?_
  refine x_aload_n 7 C dX0_size_7 rfl 0 rfl ?_
  refine x_getl 8 C dX0_size_8 ff_X0_13 ga ?_
  refine x_mabsl 11 C dX0_size_11 km_X0_24 kt_J9_abs_067f4 kn_J9 kc_J9_abs_067f4 ⟨by decide, Nat.le_of_ble_eq_true rfl, by decide, by decide⟩ ?_
  refine x_mmaxl 14 C dX0_size_14 km_X0_30 kt_J9_max_f86c9 kn_J9 kc_J9_max_f86c9 ⟨by decide, Nat.le_of_ble_eq_true rfl, by decide, by decide⟩ ?_
  refine x_lret 17 C dX0_size_17 rfl (Nat.le_refl _) (xN.intro ?_)
  exact ⟨rfl, rfl, rfl⟩
theorem dX0_thousandths_0 : decode cX0_thousandths 0 = .ok (.lload_n 2, 1) := by decide +kernel
theorem dX0_thousandths_1 : decode cX0_thousandths 1 = .ok (.lconst 0, 1) := by decide +kernel
theorem dX0_thousandths_2 : decode cX0_thousandths 2 = .ok (.lcmp, 1) := by decide +kernel
theorem dX0_thousandths_3 : decode cX0_thousandths 3 = .ok (.ifCond .ne 7, 3) := by decide +kernel
theorem dX0_thousandths_6 : decode cX0_thousandths 6 = .ok (.iconst 0, 1) := by decide +kernel
theorem dX0_thousandths_7 : decode cX0_thousandths 7 = .ok (.goto 11, 3) := by decide +kernel
theorem dX0_thousandths_10 : decode cX0_thousandths 10 = .ok (.lload_n 0, 1) := by decide +kernel
theorem dX0_thousandths_11 : decode cX0_thousandths 11 = .ok (.ldc2_w 34, 3) := by decide +kernel
theorem dX0_thousandths_14 : decode cX0_thousandths 14 = .ok (.lmul, 1) := by decide +kernel
theorem dX0_thousandths_15 : decode cX0_thousandths 15 = .ok (.lload_n 2, 1) := by decide +kernel
theorem dX0_thousandths_16 : decode cX0_thousandths 16 = .ok (.ldiv, 1) := by decide +kernel
theorem dX0_thousandths_17 : decode cX0_thousandths 17 = .ok (.l2i, 1) := by decide +kernel
theorem dX0_thousandths_18 : decode cX0_thousandths 18 = .ok (.ireturn, 1) := by decide +kernel
set_option maxHeartbeats 4000000 in
set_option maxRecDepth 100000 in
theorem t_X0_thousandths (l : Launch) (D : xD) (z n : Nat) (G : xG) (I : xI) (L : xL) (x : Int64) (u : Int64)  : xM0 l D z yX0_thousandths cX0_thousandths 4 (some .int) 0 0 [.long x, .long u] n G I L (xE (some (.int (cthou x u))) I L) := by
  refine xM.of (by decide) (Nat.le_of_ble_eq_true rfl) (fun p e s m args below meth c C hnm hsz => ?_)
  refine x_lv [(0, .long x), (2, .long u)] rfl ?_
  refine x_lload_n 0 C dX0_thousandths_0 rfl 1 rfl ?_
  refine x_lconst 1 C (v := 0) dX0_thousandths_1 rfl ?_
  refine x_lc_ne 2 C 10 dX0_thousandths_2 dX0_thousandths_3 (by decide) (fun c1 => ?_) (fun c1 => ?_)
  · skip
    refine x_lload_n 10 C dX0_thousandths_10 rfl 0 rfl ?_
    refine x_ldc2 11 C 1000 dX0_thousandths_11 kk_X0_34 ?_
    refine x_lmul 14 C dX0_thousandths_14 ?_
    refine x_lload_n 15 C dX0_thousandths_15 rfl 1 rfl ?_
    refine x_ldiv 16 C dX0_thousandths_16 (by first | assumption | decide) ?_
    refine x_l2i 17 C dX0_thousandths_17 ?_
    refine x_iret 18 C dX0_thousandths_18 rfl rfl (Nat.le_refl _) (xN.intro ?_)
    skip
    refine ⟨?_, rfl, rfl⟩
    simp [cthou, c1]
  · skip
    refine x_iconst 6 C (v := 0) dX0_thousandths_6 rfl ?_
    refine x_goto 7 C 18 dX0_thousandths_7 (by decide) ?_
    refine x_iret 18 C dX0_thousandths_18 rfl rfl (Nat.le_refl _) (xN.intro ?_)
    skip
    refine ⟨?_, rfl, rfl⟩
    simp [cthou, c1]
