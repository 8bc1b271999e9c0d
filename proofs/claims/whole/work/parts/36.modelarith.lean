/-! The Model's arithmetic: re and im at 7 and 8, unit at 9 -/
def mwC (L : xL) (A : Nat) (c : xC) : xL := xup (xup L A 7 c.1) A 8 c.2
def mrC (L : xL) (A : Nat) : xC := (L A 7, L A 8)
theorem mwC_7 (L : xL) (A : Nat) (c : xC) : mwC L A c A 7 = c.1 := by unfold mwC; rw [xup_ne _ _ (by omega), xup_self]
theorem mwC_8 (L : xL) (A : Nat) (c : xC) : mwC L A c A 8 = c.2 := by unfold mwC; rw [xup_self]
theorem mrC_mwC (L : xL) (A : Nat) (c : xC) : mrC (mwC L A c) A = c := by unfold mrC; rw [mwC_7, mwC_8]
theorem mwC_ne (L : xL) {A j : Nat} (c : xC) (h7 : j ≠ 7) (h8 : j ≠ 8) : mwC L A c A j = L A j := by unfold mwC; rw [xup_ne _ _ (by omega), xup_ne _ _ (by omega)]
theorem mwC_row (L : xL) {A q : Nat} (c : xC) (h : q ≠ A) : mwC L A c q = L q := by unfold mwC; rw [xup_row _ _ h, xup_row _ _ h]
theorem mwC_2 (L : xL) (A : Nat) (c d : xC) : mwC (mwC L A c) A d = mwC L A d := by
  funext q j
  simp only [mwC, xup]
  by_cases h1 : q = A <;> by_cases h2 : j = 7 <;> by_cases h3 : j = 8 <;> simp [h1, h2, h3]
theorem held_of {v : Int64} : (if v < -1073741824 then (-1073741824 : Int64) else if 1073741824 < v then 1073741824 else v) = held v := by
  unfold held
  by_cases h1 : v < -1073741824
  · rw [if_pos h1, if_neg (Int64.not_le.mpr h1)]
  · rw [if_neg h1, if_pos (Int64.not_lt.mp h1)]
    by_cases h2 : (1073741824 : Int64) < v
    · rw [if_pos h2, if_neg (Int64.not_le.mpr h2)]
    · rw [if_neg h2, if_pos (Int64.not_lt.mp h2)]
def abL (v : Int64) : Int64 := if v < 0 then -v else v
theorem abL_eq (v : Int64) : abL v = if 0 < v then v else -v := by
  unfold abL
  by_cases h1 : v < 0
  · have h2 : ¬ 0 < v := fun h => by rw [Int64.lt_iff_toInt_lt] at *; omega
    rw [if_pos h1, if_neg h2]
  · by_cases h2 : 0 < v
    · rw [if_neg h1, if_pos h2]
    · have h3 : v = 0 := by apply Int64.toInt_inj.mp; rw [Int64.lt_iff_toInt_lt] at *; have e : (0 : Int64).toInt = 0 := by decide
                            omega
      subst h3; decide
theorem siz_of (a b : Int64) : (if abL b < abL a then abL a else abL b) = sizC (a, b) := by
  show _ = csize a b
  unfold csize
  rw [abL_eq, abL_eq]
def rgt (b : xC) (u : Int64) : Prop := ¬ norC b u = 0
theorem dX12_held_0 : decode cX12_held 0 = .ok (.lload_n 0, 1) := by decide +kernel
theorem dX12_held_1 : decode cX12_held 1 = .ok (.ldc2_w 79, 3) := by decide +kernel
theorem dX12_held_4 : decode cX12_held 4 = .ok (.lcmp, 1) := by decide +kernel
theorem dX12_held_5 : decode cX12_held 5 = .ok (.ifCond .ge 9, 3) := by decide +kernel
theorem dX12_held_8 : decode cX12_held 8 = .ok (.ldc2_w 79, 3) := by decide +kernel
theorem dX12_held_11 : decode cX12_held 11 = .ok (.goto 18, 3) := by decide +kernel
theorem dX12_held_14 : decode cX12_held 14 = .ok (.lload_n 0, 1) := by decide +kernel
theorem dX12_held_15 : decode cX12_held 15 = .ok (.ldc2_w 81, 3) := by decide +kernel
theorem dX12_held_18 : decode cX12_held 18 = .ok (.lcmp, 1) := by decide +kernel
theorem dX12_held_19 : decode cX12_held 19 = .ok (.ifCond .le 9, 3) := by decide +kernel
theorem dX12_held_22 : decode cX12_held 22 = .ok (.ldc2_w 81, 3) := by decide +kernel
theorem dX12_held_25 : decode cX12_held 25 = .ok (.goto 4, 3) := by decide +kernel
theorem dX12_held_28 : decode cX12_held 28 = .ok (.lload_n 0, 1) := by decide +kernel
theorem dX12_held_29 : decode cX12_held 29 = .ok (.lreturn, 1) := by decide +kernel
set_option maxHeartbeats 1000000 in
set_option maxRecDepth 100000 in
theorem t_X12_held (l : Launch) (D : xD) (z n : Nat) (G : xG) (I : xI) (L : xL) (x : Int64)  : xM0 l D z yX12_held cX12_held 2 (some .long) 0 0 [.long x] n G I L (xE (some (.long (held x))) I L) := by
  refine xM.of (by decide) (Nat.le_of_ble_eq_true rfl) (fun p e s m args below meth c C hnm hsz => ?_)
  refine x_lv [(0, .long x)] rfl ?_
  refine x_lload_n 0 C dX12_held_0 rfl 0 rfl ?_
  refine x_ldc2 1 C (-1073741824) dX12_held_1 kk_X12_79 ?_
  refine x_lc_ge 4 C 14 dX12_held_4 dX12_held_5 (by decide) (fun c1 => ?_) (fun c1 => ?_)
  · skip
    have c1o := Int64.not_lt.mpr c1
    refine x_lload_n 14 C dX12_held_14 rfl 0 rfl ?_
    refine x_ldc2 15 C 1073741824 dX12_held_15 kk_X12_81 ?_
    refine x_lc_le 18 C 28 dX12_held_18 dX12_held_19 (by decide) (fun c2 => ?_) (fun c2 => ?_)
    · skip
      have c2o := Int64.not_lt.mpr c2
      refine x_lload_n 28 C dX12_held_28 rfl 0 rfl ?_
      refine x_lret 29 C dX12_held_29 rfl (Nat.le_refl _) (xN.intro ?_)
      refine ⟨?_, rfl, rfl⟩
      rw [← held_of]
      simp [c1, c1o, c2, c2o]
    · skip
      have c2o := Int64.not_le.mp c2
      refine x_ldc2 22 C 1073741824 dX12_held_22 kk_X12_81 ?_
      refine x_goto 25 C 29 dX12_held_25 (by decide) ?_
      refine x_lret 29 C dX12_held_29 rfl (Nat.le_refl _) (xN.intro ?_)
      refine ⟨?_, rfl, rfl⟩
      rw [← held_of]
      simp [c1, c1o, c2, c2o]
  · skip
    have c1o := Int64.not_le.mp c1
    refine x_ldc2 8 C (-1073741824) dX12_held_8 kk_X12_79 ?_
    refine x_goto 11 C 29 dX12_held_11 (by decide) ?_
    refine x_lret 29 C dX12_held_29 rfl (Nat.le_refl _) (xN.intro ?_)
    refine ⟨?_, rfl, rfl⟩
    rw [← held_of]
    simp [c1, c1o]
theorem dX12_hold_0 : decode cX12_hold 0 = .ok (.aload_n 0, 1) := by decide +kernel
theorem dX12_hold_1 : decode cX12_hold 1 = .ok (.lload_n 1, 1) := by decide +kernel
theorem dX12_hold_2 : decode cX12_hold 2 = .ok (.invokestatic 83, 3) := by decide +kernel
theorem dX12_hold_5 : decode cX12_hold 5 = .ok (.putfield 87, 3) := by decide +kernel
theorem dX12_hold_8 : decode cX12_hold 8 = .ok (.aload_n 0, 1) := by decide +kernel
theorem dX12_hold_9 : decode cX12_hold 9 = .ok (.lload_n 3, 1) := by decide +kernel
theorem dX12_hold_10 : decode cX12_hold 10 = .ok (.invokestatic 83, 3) := by decide +kernel
theorem dX12_hold_13 : decode cX12_hold 13 = .ok (.putfield 90, 3) := by decide +kernel
theorem dX12_hold_16 : decode cX12_hold 16 = .ok (.return_, 1) := by decide +kernel
set_option maxHeartbeats 1000000 in
set_option maxRecDepth 100000 in
theorem t_X12_hold (l : Launch) (D : xD) (z n : Nat) (G : xG) (I : xI) (L : xL) (A : Nat) (x : Int64) (y : Int64) (hM : shMo G A) (zA : z ≤ A) : xM0 l D z yX12_hold cX12_hold 5 none 1 21 [.ref A, .long x, .long y] n G I L (xE none I (mwC L A (hC (x, y)))) := by
  refine xM.of (by decide) (Nat.le_of_ble_eq_true rfl) (fun p e s m args below meth c C hnm hsz => ?_)
  refine x_lv [(0, .ref A), (1, .long x), (3, .long y)] rfl ?_
  refine x_aload_n 0 C dX12_hold_0 rfl 0 rfl ?_
  refine x_lload_n 1 C dX12_hold_1 rfl 1 rfl ?_
  refine x_callSe 2 C dX12_hold_2 (As := [.long x]) (rest := [.ref A]) [.long (held x), .ref A] (t_X12_held l D z n G I L x ) mt_X12_held km_X12_83 kt_X12_held rfl rfl (Nat.le_of_ble_eq_true rfl) ⟨⟨by decide, by decide⟩, by decide, by decide⟩ (fun I1 L2 eI1 eL2 => ?_)
  replace eI1 := eI1.symm; subst eI1
  replace eL2 := eL2.symm; subst eL2
  refine x_putl 5 C dX12_hold_5 ff_X12_87 rfl hM.1 (by omega) (fun L3 eL3 => ?_)
  refine x_aload_n 8 C dX12_hold_8 rfl 0 rfl ?_
  refine x_lload_n 9 C dX12_hold_9 rfl 2 rfl ?_
  refine x_callSe 10 C dX12_hold_10 (As := [.long y]) (rest := [.ref A]) [.long (held y), .ref A] (t_X12_held l D z n G I L3 y ) mt_X12_held km_X12_83 kt_X12_held rfl rfl (Nat.le_of_ble_eq_true rfl) ⟨⟨by decide, by decide⟩, by decide, by decide⟩ (fun I4 L5 eI4 eL5 => ?_)
  replace eI4 := eI4.symm; subst eI4
  replace eL5 := eL5.symm; subst eL5
  refine x_putl 13 C dX12_hold_13 ff_X12_90 rfl hM.1 (by omega) (fun L6 eL6 => ?_)
  refine x_vret 16 C dX12_hold_16 rfl (Nat.le_refl _) (xN.intro ?_)
  subst eL3; subst eL6
  exact ⟨rfl, rfl, rfl⟩
theorem dX12_times_0 : decode cX12_times 0 = .ok (.aload_n 0, 1) := by decide +kernel
theorem dX12_times_1 : decode cX12_times 1 = .ok (.lload_n 1, 1) := by decide +kernel
theorem dX12_times_2 : decode cX12_times 2 = .ok (.lload 5, 2) := by decide +kernel
theorem dX12_times_4 : decode cX12_times 4 = .ok (.lmul, 1) := by decide +kernel
theorem dX12_times_5 : decode cX12_times 5 = .ok (.lload_n 3, 1) := by decide +kernel
theorem dX12_times_6 : decode cX12_times 6 = .ok (.lload 7, 2) := by decide +kernel
theorem dX12_times_8 : decode cX12_times 8 = .ok (.lmul, 1) := by decide +kernel
theorem dX12_times_9 : decode cX12_times 9 = .ok (.lsub, 1) := by decide +kernel
theorem dX12_times_10 : decode cX12_times 10 = .ok (.aload_n 0, 1) := by decide +kernel
theorem dX12_times_11 : decode cX12_times 11 = .ok (.getfield 28, 3) := by decide +kernel
theorem dX12_times_14 : decode cX12_times 14 = .ok (.ldiv, 1) := by decide +kernel
theorem dX12_times_15 : decode cX12_times 15 = .ok (.lload_n 1, 1) := by decide +kernel
theorem dX12_times_16 : decode cX12_times 16 = .ok (.lload 7, 2) := by decide +kernel
theorem dX12_times_18 : decode cX12_times 18 = .ok (.lmul, 1) := by decide +kernel
theorem dX12_times_19 : decode cX12_times 19 = .ok (.lload_n 3, 1) := by decide +kernel
theorem dX12_times_20 : decode cX12_times 20 = .ok (.lload 5, 2) := by decide +kernel
theorem dX12_times_22 : decode cX12_times 22 = .ok (.lmul, 1) := by decide +kernel
theorem dX12_times_23 : decode cX12_times 23 = .ok (.ladd, 1) := by decide +kernel
theorem dX12_times_24 : decode cX12_times 24 = .ok (.aload_n 0, 1) := by decide +kernel
theorem dX12_times_25 : decode cX12_times 25 = .ok (.getfield 28, 3) := by decide +kernel
theorem dX12_times_28 : decode cX12_times 28 = .ok (.ldiv, 1) := by decide +kernel
theorem dX12_times_29 : decode cX12_times 29 = .ok (.invokevirtual 93, 3) := by decide +kernel
theorem dX12_times_32 : decode cX12_times 32 = .ok (.return_, 1) := by decide +kernel
set_option maxHeartbeats 1000000 in
set_option maxRecDepth 100000 in
theorem t_X12_times (l : Launch) (D : xD) (z n : Nat) (G : xG) (I : xI) (L : xL) (A : Nat) (ar : Int64) (ai : Int64) (br : Int64) (bi : Int64) (u : Int64) (hM : shMo G A) (zA : z ≤ A) (hu9 : L A 9 = u) (hu : ¬ u = 0) : xM0 l D z yX12_times cX12_times 9 none 2 45 [.ref A, .long ar, .long ai, .long br, .long bi] n G I L (xE none I (mwC L A (mulC u (ar, ai) (br, bi)))) := by
  refine xM.of (by decide) (Nat.le_of_ble_eq_true rfl) (fun p e s m args below meth c C hnm hsz => ?_)
  refine x_lv [(0, .ref A), (1, .long ar), (3, .long ai), (5, .long br), (7, .long bi)] rfl ?_
  refine x_aload_n 0 C dX12_times_0 rfl 0 rfl ?_
  refine x_lload_n 1 C dX12_times_1 rfl 1 rfl ?_
  refine x_lload 2 C dX12_times_2 3 rfl ?_
  refine x_lmul 4 C dX12_times_4 ?_
  refine x_lload_n 5 C dX12_times_5 rfl 2 rfl ?_
  refine x_lload 6 C dX12_times_6 4 rfl ?_
  refine x_lmul 8 C dX12_times_8 ?_
  refine x_lsub 9 C dX12_times_9 ?_
  refine x_aload_n 10 C dX12_times_10 rfl 0 rfl ?_
  refine x_getl 11 C dX12_times_11 ff_X12_28 hM.1 ?_
  refine x_long u hu9 ?_
  refine x_ldiv 14 C dX12_times_14 hu ?_
  refine x_lload_n 15 C dX12_times_15 rfl 1 rfl ?_
  refine x_lload 16 C dX12_times_16 4 rfl ?_
  refine x_lmul 18 C dX12_times_18 ?_
  refine x_lload_n 19 C dX12_times_19 rfl 2 rfl ?_
  refine x_lload 20 C dX12_times_20 3 rfl ?_
  refine x_lmul 22 C dX12_times_22 ?_
  refine x_ladd 23 C dX12_times_23 ?_
  refine x_aload_n 24 C dX12_times_24 rfl 0 rfl ?_
  refine x_getl 25 C dX12_times_25 ff_X12_28 hM.1 ?_
  refine x_long u hu9 ?_
  refine x_ldiv 28 C dX12_times_28 hu ?_
  refine x_callVe 29 C dX12_times_29 (As := [.long (((ar * br) - (ai * bi)) / u), .long (((ar * bi) + (ai * br)) / u)]) (rest := []) [] (t_X12_hold l D z n G I L A (((ar * br) - (ai * bi)) / u) (((ar * bi) + (ai * br)) / u) hM (by omega)) mt_X12_hold km_X12_93 ki_X12_hold ks_X12_hold hM.1 ⟨by decide, rfl⟩ rfl rfl (Nat.le_of_ble_eq_true rfl) ⟨⟨by decide, by decide⟩, by decide, by decide⟩ (fun I1 L2 eI1 eL2 => ?_)
  replace eI1 := eI1.symm; subst eI1
  refine x_vret 32 C dX12_times_32 rfl (Nat.le_refl _) (xN.intro ?_)
  subst eL2
  exact ⟨rfl, rfl, rfl⟩
theorem dX12_divides_0 : decode cX12_divides 0 = .ok (.lload 5, 2) := by decide +kernel
theorem dX12_divides_2 : decode cX12_divides 2 = .ok (.lload 5, 2) := by decide +kernel
theorem dX12_divides_4 : decode cX12_divides 4 = .ok (.lmul, 1) := by decide +kernel
theorem dX12_divides_5 : decode cX12_divides 5 = .ok (.lload 7, 2) := by decide +kernel
theorem dX12_divides_7 : decode cX12_divides 7 = .ok (.lload 7, 2) := by decide +kernel
theorem dX12_divides_9 : decode cX12_divides 9 = .ok (.lmul, 1) := by decide +kernel
theorem dX12_divides_10 : decode cX12_divides 10 = .ok (.ladd, 1) := by decide +kernel
theorem dX12_divides_11 : decode cX12_divides 11 = .ok (.aload_n 0, 1) := by decide +kernel
theorem dX12_divides_12 : decode cX12_divides 12 = .ok (.getfield 28, 3) := by decide +kernel
theorem dX12_divides_15 : decode cX12_divides 15 = .ok (.ldiv, 1) := by decide +kernel
theorem dX12_divides_16 : decode cX12_divides 16 = .ok (.lstore 9, 2) := by decide +kernel
theorem dX12_divides_18 : decode cX12_divides 18 = .ok (.lload 9, 2) := by decide +kernel
theorem dX12_divides_20 : decode cX12_divides 20 = .ok (.lconst 0, 1) := by decide +kernel
theorem dX12_divides_21 : decode cX12_divides 21 = .ok (.lcmp, 1) := by decide +kernel
theorem dX12_divides_22 : decode cX12_divides 22 = .ok (.ifCond .ne 5, 3) := by decide +kernel
theorem dX12_divides_25 : decode cX12_divides 25 = .ok (.iconst 0, 1) := by decide +kernel
theorem dX12_divides_26 : decode cX12_divides 26 = .ok (.ireturn, 1) := by decide +kernel
theorem dX12_divides_27 : decode cX12_divides 27 = .ok (.aload_n 0, 1) := by decide +kernel
theorem dX12_divides_28 : decode cX12_divides 28 = .ok (.lload_n 1, 1) := by decide +kernel
theorem dX12_divides_29 : decode cX12_divides 29 = .ok (.lload 5, 2) := by decide +kernel
theorem dX12_divides_31 : decode cX12_divides 31 = .ok (.lmul, 1) := by decide +kernel
theorem dX12_divides_32 : decode cX12_divides 32 = .ok (.lload_n 3, 1) := by decide +kernel
theorem dX12_divides_33 : decode cX12_divides 33 = .ok (.lload 7, 2) := by decide +kernel
theorem dX12_divides_35 : decode cX12_divides 35 = .ok (.lmul, 1) := by decide +kernel
theorem dX12_divides_36 : decode cX12_divides 36 = .ok (.ladd, 1) := by decide +kernel
theorem dX12_divides_37 : decode cX12_divides 37 = .ok (.lload 9, 2) := by decide +kernel
theorem dX12_divides_39 : decode cX12_divides 39 = .ok (.ldiv, 1) := by decide +kernel
theorem dX12_divides_40 : decode cX12_divides 40 = .ok (.lload_n 3, 1) := by decide +kernel
theorem dX12_divides_41 : decode cX12_divides 41 = .ok (.lload 5, 2) := by decide +kernel
theorem dX12_divides_43 : decode cX12_divides 43 = .ok (.lmul, 1) := by decide +kernel
theorem dX12_divides_44 : decode cX12_divides 44 = .ok (.lload_n 1, 1) := by decide +kernel
theorem dX12_divides_45 : decode cX12_divides 45 = .ok (.lload 7, 2) := by decide +kernel
theorem dX12_divides_47 : decode cX12_divides 47 = .ok (.lmul, 1) := by decide +kernel
theorem dX12_divides_48 : decode cX12_divides 48 = .ok (.lsub, 1) := by decide +kernel
theorem dX12_divides_49 : decode cX12_divides 49 = .ok (.lload 9, 2) := by decide +kernel
theorem dX12_divides_51 : decode cX12_divides 51 = .ok (.ldiv, 1) := by decide +kernel
theorem dX12_divides_52 : decode cX12_divides 52 = .ok (.invokevirtual 93, 3) := by decide +kernel
theorem dX12_divides_55 : decode cX12_divides 55 = .ok (.iconst 1, 1) := by decide +kernel
theorem dX12_divides_56 : decode cX12_divides 56 = .ok (.ireturn, 1) := by decide +kernel
set_option maxHeartbeats 1000000 in
set_option maxRecDepth 100000 in
theorem t_X12_divides (l : Launch) (D : xD) (z n : Nat) (G : xG) (I : xI) (L : xL) (A : Nat) (ar : Int64) (ai : Int64) (br : Int64) (bi : Int64) (u : Int64) (hM : shMo G A) (zA : z ≤ A) (hu9 : L A 9 = u) (hu : ¬ u = 0) : xM0 l D z yX12_divides cX12_divides 11 (some .boolean) 2 45 [.ref A, .long ar, .long ai, .long br, .long bi] n G I L (xE (some (.int (if norC (br, bi) u = 0 then 0 else 1))) I (if norC (br, bi) u = 0 then L else mwC L A (divC (ar, ai) (br, bi) u))) := by
  refine xM.of (by decide) (Nat.le_of_ble_eq_true rfl) (fun p e s m args below meth c C hnm hsz => ?_)
  refine x_lv [(0, .ref A), (1, .long ar), (3, .long ai), (5, .long br), (7, .long bi)] rfl ?_
  refine x_lload 0 C dX12_divides_0 3 rfl ?_
  refine x_lload 2 C dX12_divides_2 3 rfl ?_
  refine x_lmul 4 C dX12_divides_4 ?_
  refine x_lload 5 C dX12_divides_5 4 rfl ?_
  refine x_lload 7 C dX12_divides_7 4 rfl ?_
  refine x_lmul 9 C dX12_divides_9 ?_
  refine x_ladd 10 C dX12_divides_10 ?_
  refine x_aload_n 11 C dX12_divides_11 rfl 0 rfl ?_
  refine x_getl 12 C dX12_divides_12 ff_X12_28 hM.1 ?_
  refine x_long u hu9 ?_
  refine x_ldiv 15 C dX12_divides_15 hu ?_
  refine x_long (norC (br, bi) u) rfl ?_
  refine x_lstore 16 C [(9, .long (norC (br, bi) u)), (0, .ref A), (1, .long ar), (3, .long ai), (5, .long br), (7, .long bi)] dX12_divides_16 (by decide) rfl ?_
  refine x_lload 18 C dX12_divides_18 0 rfl ?_
  refine x_lconst 20 C (v := 0) dX12_divides_20 rfl ?_
  refine x_lc_ne 21 C 27 dX12_divides_21 dX12_divides_22 (by decide) (fun c1 => ?_) (fun c1 => ?_)
  · skip
    have hz : ¬ norC (br, bi) u = 0 := c1
    refine x_aload_n 27 C dX12_divides_27 rfl 1 rfl ?_
    refine x_lload_n 28 C dX12_divides_28 rfl 2 rfl ?_
    refine x_lload 29 C dX12_divides_29 4 rfl ?_
    refine x_lmul 31 C dX12_divides_31 ?_
    refine x_lload_n 32 C dX12_divides_32 rfl 3 rfl ?_
    refine x_lload 33 C dX12_divides_33 5 rfl ?_
    refine x_lmul 35 C dX12_divides_35 ?_
    refine x_ladd 36 C dX12_divides_36 ?_
    refine x_lload 37 C dX12_divides_37 0 rfl ?_
    refine x_ldiv 39 C dX12_divides_39 hz ?_
    refine x_lload_n 40 C dX12_divides_40 rfl 3 rfl ?_
    refine x_lload 41 C dX12_divides_41 4 rfl ?_
    refine x_lmul 43 C dX12_divides_43 ?_
    refine x_lload_n 44 C dX12_divides_44 rfl 2 rfl ?_
    refine x_lload 45 C dX12_divides_45 5 rfl ?_
    refine x_lmul 47 C dX12_divides_47 ?_
    refine x_lsub 48 C dX12_divides_48 ?_
    refine x_lload 49 C dX12_divides_49 0 rfl ?_
    refine x_ldiv 51 C dX12_divides_51 hz ?_
    refine x_callVe 52 C dX12_divides_52 (As := [.long (((ar * br) + (ai * bi)) / (norC (br, bi) u)), .long (((ai * br) - (ar * bi)) / (norC (br, bi) u))]) (rest := []) [] (t_X12_hold l D z n G I L A (((ar * br) + (ai * bi)) / (norC (br, bi) u)) (((ai * br) - (ar * bi)) / (norC (br, bi) u)) hM (by omega)) mt_X12_hold km_X12_93 ki_X12_hold ks_X12_hold hM.1 ⟨by decide, rfl⟩ rfl rfl (Nat.le_of_ble_eq_true rfl) ⟨⟨by decide, by decide⟩, by decide, by decide⟩ (fun I2 L3 eI2 eL3 => ?_)
    replace eI2 := eI2.symm; subst eI2
    refine x_iconst 55 C (v := 1) dX12_divides_55 rfl ?_
    refine x_iret 56 C dX12_divides_56 rfl rfl (Nat.le_refl _) (xN.intro ?_)
    subst eL3
    first | exact ⟨by rw [if_pos hz], rfl, by rw [if_pos hz]⟩ | exact ⟨by rw [if_neg hz], rfl, by rw [if_neg hz]; rfl⟩
  · skip
    have hz : norC (br, bi) u = 0 := c1
    refine x_iconst 25 C (v := 0) dX12_divides_25 rfl ?_
    refine x_iret 26 C dX12_divides_26 rfl rfl (Nat.le_refl _) (xN.intro ?_)
    skip
    first | exact ⟨by rw [if_pos hz], rfl, by rw [if_pos hz]⟩ | exact ⟨by rw [if_neg hz], rfl, by rw [if_neg hz]; rfl⟩
theorem dX12_abs_0 : decode cX12_abs 0 = .ok (.lload_n 0, 1) := by decide +kernel
theorem dX12_abs_1 : decode cX12_abs 1 = .ok (.lconst 0, 1) := by decide +kernel
theorem dX12_abs_2 : decode cX12_abs 2 = .ok (.lcmp, 1) := by decide +kernel
theorem dX12_abs_3 : decode cX12_abs 3 = .ok (.ifCond .ge 8, 3) := by decide +kernel
theorem dX12_abs_6 : decode cX12_abs 6 = .ok (.lload_n 0, 1) := by decide +kernel
theorem dX12_abs_7 : decode cX12_abs 7 = .ok (.lneg, 1) := by decide +kernel
theorem dX12_abs_8 : decode cX12_abs 8 = .ok (.goto 4, 3) := by decide +kernel
theorem dX12_abs_11 : decode cX12_abs 11 = .ok (.lload_n 0, 1) := by decide +kernel
theorem dX12_abs_12 : decode cX12_abs 12 = .ok (.lreturn, 1) := by decide +kernel
set_option maxHeartbeats 1000000 in
set_option maxRecDepth 100000 in
theorem t_X12_abs (l : Launch) (D : xD) (z n : Nat) (G : xG) (I : xI) (L : xL) (x : Int64)  : xM0 l D z yX12_abs cX12_abs 2 (some .long) 0 0 [.long x] n G I L (xE (some (.long (abL x))) I L) := by
  refine xM.of (by decide) (Nat.le_of_ble_eq_true rfl) (fun p e s m args below meth c C hnm hsz => ?_)
  refine x_lv [(0, .long x)] rfl ?_
  refine x_lload_n 0 C dX12_abs_0 rfl 0 rfl ?_
  refine x_lconst 1 C (v := 0) dX12_abs_1 rfl ?_
  refine x_lc_ge 2 C 11 dX12_abs_2 dX12_abs_3 (by decide) (fun c1 => ?_) (fun c1 => ?_)
  · skip
    have c1o := Int64.not_lt.mpr c1
    refine x_lload_n 11 C dX12_abs_11 rfl 0 rfl ?_
    refine x_lret 12 C dX12_abs_12 rfl (Nat.le_refl _) (xN.intro ?_)
    refine ⟨?_, rfl, rfl⟩
    unfold abL
    simp [c1, c1o]
  · skip
    have c1o := Int64.not_le.mp c1
    refine x_lload_n 6 C dX12_abs_6 rfl 0 rfl ?_
    refine x_lneg 7 C dX12_abs_7 ?_
    refine x_goto 8 C 12 dX12_abs_8 (by decide) ?_
    refine x_lret 12 C dX12_abs_12 rfl (Nat.le_refl _) (xN.intro ?_)
    refine ⟨?_, rfl, rfl⟩
    unfold abL
    simp [c1, c1o]
theorem dX12_size_0 : decode cX12_size 0 = .ok (.lload_n 0, 1) := by decide +kernel
theorem dX12_size_1 : decode cX12_size 1 = .ok (.invokestatic 97, 3) := by decide +kernel
theorem dX12_size_4 : decode cX12_size 4 = .ok (.lstore 4, 2) := by decide +kernel
theorem dX12_size_6 : decode cX12_size 6 = .ok (.lload_n 2, 1) := by decide +kernel
theorem dX12_size_7 : decode cX12_size 7 = .ok (.invokestatic 97, 3) := by decide +kernel
theorem dX12_size_10 : decode cX12_size 10 = .ok (.lstore 6, 2) := by decide +kernel
theorem dX12_size_12 : decode cX12_size 12 = .ok (.lload 4, 2) := by decide +kernel
theorem dX12_size_14 : decode cX12_size 14 = .ok (.lload 6, 2) := by decide +kernel
theorem dX12_size_16 : decode cX12_size 16 = .ok (.lcmp, 1) := by decide +kernel
theorem dX12_size_17 : decode cX12_size 17 = .ok (.ifCond .le 8, 3) := by decide +kernel
theorem dX12_size_20 : decode cX12_size 20 = .ok (.lload 4, 2) := by decide +kernel
theorem dX12_size_22 : decode cX12_size 22 = .ok (.goto 5, 3) := by decide +kernel
theorem dX12_size_25 : decode cX12_size 25 = .ok (.lload 6, 2) := by decide +kernel
theorem dX12_size_27 : decode cX12_size 27 = .ok (.lreturn, 1) := by decide +kernel
set_option maxHeartbeats 1000000 in
set_option maxRecDepth 100000 in
theorem t_X12_size (l : Launch) (D : xD) (z n : Nat) (G : xG) (I : xI) (L : xL) (x : Int64) (y : Int64)  : xM0 l D z yX12_size cX12_size 8 (some .long) 1 21 [.long x, .long y] n G I L (xE (some (.long (sizC (x, y)))) I L) := by
  refine xM.of (by decide) (Nat.le_of_ble_eq_true rfl) (fun p e s m args below meth c C hnm hsz => ?_)
  refine x_lv [(0, .long x), (2, .long y)] rfl ?_
  refine x_lload_n 0 C dX12_size_0 rfl 0 rfl ?_
  refine x_callSe 1 C dX12_size_1 (As := [.long x]) (rest := []) [.long (abL x)] (t_X12_abs l D z n G I L x ) mt_X12_abs km_X12_97 kt_X12_abs rfl rfl (Nat.le_of_ble_eq_true rfl) ⟨⟨by decide, by decide⟩, by decide, by decide⟩ (fun I1 L2 eI1 eL2 => ?_)
  replace eI1 := eI1.symm; subst eI1
  replace eL2 := eL2.symm; subst eL2
  refine x_lstore 4 C [(4, .long (abL x)), (0, .long x), (2, .long y)] dX12_size_4 (by decide) rfl ?_
  refine x_lload_n 6 C dX12_size_6 rfl 2 rfl ?_
  refine x_callSe 7 C dX12_size_7 (As := [.long y]) (rest := []) [.long (abL y)] (t_X12_abs l D z n G I L y ) mt_X12_abs km_X12_97 kt_X12_abs rfl rfl (Nat.le_of_ble_eq_true rfl) ⟨⟨by decide, by decide⟩, by decide, by decide⟩ (fun I3 L4 eI3 eL4 => ?_)
  replace eI3 := eI3.symm; subst eI3
  replace eL4 := eL4.symm; subst eL4
  refine x_lstore 10 C [(6, .long (abL y)), (4, .long (abL x)), (0, .long x), (2, .long y)] dX12_size_10 (by decide) rfl ?_
  refine x_lload 12 C dX12_size_12 1 rfl ?_
  refine x_lload 14 C dX12_size_14 0 rfl ?_
  refine x_lc_le 16 C 25 dX12_size_16 dX12_size_17 (by decide) (fun c5 => ?_) (fun c5 => ?_)
  · skip
    have c5o := Int64.not_lt.mpr c5
    refine x_lload 25 C dX12_size_25 0 rfl ?_
    refine x_lret 27 C dX12_size_27 rfl (Nat.le_refl _) (xN.intro ?_)
    refine ⟨?_, rfl, rfl⟩
    rw [← siz_of]
    simp [c5, c5o]
  · skip
    have c5o := Int64.not_le.mp c5
    refine x_lload 20 C dX12_size_20 1 rfl ?_
    refine x_goto 22 C 27 dX12_size_22 (by decide) ?_
    refine x_lret 27 C dX12_size_27 rfl (Nat.le_refl _) (xN.intro ?_)
    refine ⟨?_, rfl, rfl⟩
    rw [← siz_of]
    simp [c5, c5o]
theorem dX12_root_0 : decode cX12_root 0 = .ok (.aload_n 0, 1) := by decide +kernel
theorem dX12_root_1 : decode cX12_root 1 = .ok (.ldc2_w 26, 3) := by decide +kernel
theorem dX12_root_4 : decode cX12_root 4 = .ok (.putfield 28, 3) := by decide +kernel
theorem dX12_root_7 : decode cX12_root 7 = .ok (.ldc2_w 140, 3) := by decide +kernel
theorem dX12_root_10 : decode cX12_root 10 = .ok (.aload_n 0, 1) := by decide +kernel
theorem dX12_root_11 : decode cX12_root 11 = .ok (.getfield 28, 3) := by decide +kernel
theorem dX12_root_14 : decode cX12_root 14 = .ok (.lmul, 1) := by decide +kernel
theorem dX12_root_15 : decode cX12_root 15 = .ok (.ldc2_w 142, 3) := by decide +kernel
theorem dX12_root_18 : decode cX12_root 18 = .ok (.ldiv, 1) := by decide +kernel
theorem dX12_root_19 : decode cX12_root 19 = .ok (.lstore_n 3, 1) := by decide +kernel
theorem dX12_root_20 : decode cX12_root 20 = .ok (.iload_n 2, 1) := by decide +kernel
theorem dX12_root_21 : decode cX12_root 21 = .ok (.ifCond .ne 15, 3) := by decide +kernel
theorem dX12_root_24 : decode cX12_root 24 = .ok (.aload_n 0, 1) := by decide +kernel
theorem dX12_root_25 : decode cX12_root 25 = .ok (.aload_n 0, 1) := by decide +kernel
theorem dX12_root_26 : decode cX12_root 26 = .ok (.getfield 28, 3) := by decide +kernel
theorem dX12_root_29 : decode cX12_root 29 = .ok (.lconst 0, 1) := by decide +kernel
theorem dX12_root_30 : decode cX12_root 30 = .ok (.invokevirtual 93, 3) := by decide +kernel
theorem dX12_root_33 : decode cX12_root 33 = .ok (.goto 45, 3) := by decide +kernel
theorem dX12_root_36 : decode cX12_root 36 = .ok (.iload_n 1, 1) := by decide +kernel
theorem dX12_root_37 : decode cX12_root 37 = .ok (.iconst 2, 1) := by decide +kernel
theorem dX12_root_38 : decode cX12_root 38 = .ok (.if_icmp .ne 16, 3) := by decide +kernel
theorem dX12_root_41 : decode cX12_root 41 = .ok (.aload_n 0, 1) := by decide +kernel
theorem dX12_root_42 : decode cX12_root 42 = .ok (.aload_n 0, 1) := by decide +kernel
theorem dX12_root_43 : decode cX12_root 43 = .ok (.getfield 28, 3) := by decide +kernel
theorem dX12_root_46 : decode cX12_root 46 = .ok (.lneg, 1) := by decide +kernel
theorem dX12_root_47 : decode cX12_root 47 = .ok (.lconst 0, 1) := by decide +kernel
theorem dX12_root_48 : decode cX12_root 48 = .ok (.invokevirtual 93, 3) := by decide +kernel
theorem dX12_root_51 : decode cX12_root 51 = .ok (.goto 27, 3) := by decide +kernel
theorem dX12_root_54 : decode cX12_root 54 = .ok (.aload_n 0, 1) := by decide +kernel
theorem dX12_root_55 : decode cX12_root 55 = .ok (.aload_n 0, 1) := by decide +kernel
theorem dX12_root_56 : decode cX12_root 56 = .ok (.getfield 28, 3) := by decide +kernel
theorem dX12_root_59 : decode cX12_root 59 = .ok (.ldc2_w 144, 3) := by decide +kernel
theorem dX12_root_62 : decode cX12_root 62 = .ok (.ldiv, 1) := by decide +kernel
theorem dX12_root_63 : decode cX12_root 63 = .ok (.lneg, 1) := by decide +kernel
theorem dX12_root_64 : decode cX12_root 64 = .ok (.iload_n 2, 1) := by decide +kernel
theorem dX12_root_65 : decode cX12_root 65 = .ok (.iconst 1, 1) := by decide +kernel
theorem dX12_root_66 : decode cX12_root 66 = .ok (.if_icmp .ne 7, 3) := by decide +kernel
theorem dX12_root_69 : decode cX12_root 69 = .ok (.lload_n 3, 1) := by decide +kernel
theorem dX12_root_70 : decode cX12_root 70 = .ok (.goto 5, 3) := by decide +kernel
theorem dX12_root_73 : decode cX12_root 73 = .ok (.lload_n 3, 1) := by decide +kernel
theorem dX12_root_74 : decode cX12_root 74 = .ok (.lneg, 1) := by decide +kernel
theorem dX12_root_75 : decode cX12_root 75 = .ok (.invokevirtual 93, 3) := by decide +kernel
theorem dX12_root_78 : decode cX12_root 78 = .ok (.return_, 1) := by decide +kernel
set_option maxHeartbeats 1000000 in
set_option maxRecDepth 100000 in
theorem t_X12_root (l : Launch) (D : xD) (z n : Nat) (G : xG) (I : xI) (L : xL) (A : Nat) (dg : Int32) (nu : Int32) (hM : shMo G A) (zA : z ≤ A) : xM0 l D z yX12_root cX12_root 5 none 2 45 [.ref A, .int dg, .int nu] n G I L (xE none I (mwC (xup L A 9 1024) A (hC (rootC dg nu 1024)))) := by
  refine xM.of (by decide) (Nat.le_of_ble_eq_true rfl) (fun p e s m args below meth c C hnm hsz => ?_)
  refine x_lv [(0, .ref A), (1, .int dg), (2, .int nu)] rfl ?_
  refine x_aload_n 0 C dX12_root_0 rfl 0 rfl ?_
  refine x_ldc2 1 C 1024 dX12_root_1 kk_X12_26 ?_
  refine x_putl 4 C dX12_root_4 ff_X12_28 rfl hM.1 (by omega) (fun L1 eL1 => ?_)
  refine x_ldc2 7 C 866025404 dX12_root_7 kk_X12_140 ?_
  refine x_aload_n 10 C dX12_root_10 rfl 0 rfl ?_
  refine x_getl 11 C dX12_root_11 ff_X12_28 hM.1 ?_
  refine x_long 1024 (by simp [eL1, xup, cput]) ?_
  refine x_lmul 14 C dX12_root_14 ?_
  refine x_ldc2 15 C 1000000000 dX12_root_15 kk_X12_142 ?_
  refine x_ldiv 18 C dX12_root_18 (by decide) ?_
  refine x_lstore_n 19 C [(3, .long ((866025404 * 1024) / 1000000000)), (0, .ref A), (1, .int dg), (2, .int nu)] dX12_root_19 rfl (by decide) rfl ?_
  refine x_iload_n 20 C dX12_root_20 rfl 3 rfl ?_
  refine x_if_ne 21 C 36 dX12_root_21 (by decide) (fun c2 => ?_) (fun c2 => ?_)
  · skip
    refine x_iload_n 36 C dX12_root_36 rfl 2 rfl ?_
    refine x_iconst 37 C (v := 2) dX12_root_37 rfl ?_
    refine x_icmp_ne 38 C 54 dX12_root_38 (by decide) (fun c3 => ?_) (fun c3 => ?_)
    · skip
      refine x_aload_n 54 C dX12_root_54 rfl 1 rfl ?_
      refine x_aload_n 55 C dX12_root_55 rfl 1 rfl ?_
      refine x_getl 56 C dX12_root_56 ff_X12_28 hM.1 ?_
      refine x_long 1024 (by simp [eL1, xup, cput]) ?_
      refine x_ldc2 59 C 2 dX12_root_59 kk_X12_144 ?_
      refine x_ldiv 62 C dX12_root_62 (by decide) ?_
      refine x_lneg 63 C dX12_root_63 ?_
      refine x_iload_n 64 C dX12_root_64 rfl 3 rfl ?_
      refine x_iconst 65 C (v := 1) dX12_root_65 rfl ?_
      refine x_icmp_ne 66 C 73 dX12_root_66 (by decide) (fun c4 => ?_) (fun c4 => ?_)
      · skip
        refine x_lload_n 73 C dX12_root_73 rfl 0 rfl ?_
        refine x_lneg 74 C dX12_root_74 ?_
        refine x_callVe 75 C dX12_root_75 (As := [.long (-(1024 / 2)), .long (-((866025404 * 1024) / 1000000000))]) (rest := []) [] (t_X12_hold l D z n G I L1 A (-(1024 / 2)) (-((866025404 * 1024) / 1000000000)) hM (by omega)) mt_X12_hold km_X12_93 ki_X12_hold ks_X12_hold hM.1 ⟨by decide, rfl⟩ rfl rfl (Nat.le_of_ble_eq_true rfl) ⟨⟨by decide, by decide⟩, by decide, by decide⟩ (fun I5 L6 eI5 eL6 => ?_)
        replace eI5 := eI5.symm; subst eI5
        refine x_vret 78 C dX12_root_78 rfl (Nat.le_refl _) (xN.intro ?_)
        subst eL1; subst eL6
        refine ⟨rfl, rfl, ?_⟩
        simp [rootC, c2, c3, c4]
      · skip
        refine x_lload_n 69 C dX12_root_69 rfl 0 rfl ?_
        refine x_goto 70 C 75 dX12_root_70 (by decide) ?_
        refine x_callVe 75 C dX12_root_75 (As := [.long (-(1024 / 2)), .long ((866025404 * 1024) / 1000000000)]) (rest := []) [] (t_X12_hold l D z n G I L1 A (-(1024 / 2)) ((866025404 * 1024) / 1000000000) hM (by omega)) mt_X12_hold km_X12_93 ki_X12_hold ks_X12_hold hM.1 ⟨by decide, rfl⟩ rfl rfl (Nat.le_of_ble_eq_true rfl) ⟨⟨by decide, by decide⟩, by decide, by decide⟩ (fun I7 L8 eI7 eL8 => ?_)
        replace eI7 := eI7.symm; subst eI7
        refine x_vret 78 C dX12_root_78 rfl (Nat.le_refl _) (xN.intro ?_)
        subst eL1; subst eL8
        refine ⟨rfl, rfl, ?_⟩
        simp [rootC, c2, c3, c4]
    · skip
      refine x_aload_n 41 C dX12_root_41 rfl 1 rfl ?_
      refine x_aload_n 42 C dX12_root_42 rfl 1 rfl ?_
      refine x_getl 43 C dX12_root_43 ff_X12_28 hM.1 ?_
      refine x_long 1024 (by simp [eL1, xup, cput]) ?_
      refine x_lneg 46 C dX12_root_46 ?_
      refine x_lconst 47 C (v := 0) dX12_root_47 rfl ?_
      refine x_callVe 48 C dX12_root_48 (As := [.long (-1024), .long 0]) (rest := []) [] (t_X12_hold l D z n G I L1 A (-1024) 0 hM (by omega)) mt_X12_hold km_X12_93 ki_X12_hold ks_X12_hold hM.1 ⟨by decide, rfl⟩ rfl rfl (Nat.le_of_ble_eq_true rfl) ⟨⟨by decide, by decide⟩, by decide, by decide⟩ (fun I9 L10 eI9 eL10 => ?_)
      replace eI9 := eI9.symm; subst eI9
      refine x_goto 51 C 78 dX12_root_51 (by decide) ?_
      refine x_vret 78 C dX12_root_78 rfl (Nat.le_refl _) (xN.intro ?_)
      subst eL1; subst eL10
      refine ⟨rfl, rfl, ?_⟩
      simp [rootC, c2, c3]
  · skip
    refine x_aload_n 24 C dX12_root_24 rfl 1 rfl ?_
    refine x_aload_n 25 C dX12_root_25 rfl 1 rfl ?_
    refine x_getl 26 C dX12_root_26 ff_X12_28 hM.1 ?_
    refine x_long 1024 (by simp [eL1, xup, cput]) ?_
    refine x_lconst 29 C (v := 0) dX12_root_29 rfl ?_
    refine x_callVe 30 C dX12_root_30 (As := [.long 1024, .long 0]) (rest := []) [] (t_X12_hold l D z n G I L1 A 1024 0 hM (by omega)) mt_X12_hold km_X12_93 ki_X12_hold ks_X12_hold hM.1 ⟨by decide, rfl⟩ rfl rfl (Nat.le_of_ble_eq_true rfl) ⟨⟨by decide, by decide⟩, by decide, by decide⟩ (fun I11 L12 eI11 eL12 => ?_)
    replace eI11 := eI11.symm; subst eI11
    refine x_goto 33 C 78 dX12_root_33 (by decide) ?_
    refine x_vret 78 C dX12_root_78 rfl (Nat.le_refl _) (xN.intro ?_)
    subst eL1; subst eL12
    refine ⟨rfl, rfl, ?_⟩
    simp [rootC, c2]
