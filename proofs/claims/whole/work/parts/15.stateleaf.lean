/-! PathTracker$State: leaves. A State at S: its Equations at S + 1 + 4 * b, its settings in the row S + 9, its Paths at S + 11 + 3 * k by the row S + 10; how many are used: place 4. -/
def rSt (S : Nat) : Nat → Option Nat := va_up (va_up (va_up (va_up rN 0 (some (S + 1 + 4 * 0))) 1 (some (S + 1 + 4 * 1))) 2 (some (S + 9))) 3 (some (S + 10))
def rPs (S : Nat) : Nat → Option Nat := fun k => if k < 9 then some (S + 11 + 3 * k) else none
def shS (G : xG) (S : Nat) : Prop := G S = some (9, 0, rSt S) ∧ (∀ b, b < 2 → shE G (S + 1 + 4 * b)) ∧ G (S + 9) = some (20, 8, rN) ∧ G (S + 10) = some (25, 9, rPs S) ∧ ∀ k, k < 9 → shP G (S + 11 + 3 * k)
def hasP (I : xI) (S : Nat) (x : Int32) : Bool := decide (0 ≤ x) && (decide (x < I S 4) && decide (x < 9))
def inRg (w : Nat) (v : Int32) : Bool := decide (xLv w ≤ v) && decide (v ≤ xGv w)
theorem eqFill_re (I : xI) (q : Nat) (f g : Nat → Int32) {j k : Nat} (h : j < k) : eqFill I q k f g (q + 1) j = f j := by simp [eqFill, h]
theorem eqFill_im (I : xI) (q : Nat) (f g : Nat → Int32) {j k : Nat} (h : j < k) : eqFill I q k f g (q + 2) j = g j := by simp [eqFill, h]
theorem eqFill_ne (I : xI) (q k : Nat) (f g : Nat → Int32) {a : Nat} (h1 : a ≠ q + 1) (h2 : a ≠ q + 2) : eqFill I q k f g a = I a := by funext j; simp [eqFill, h1, h2]
theorem dgN_congr {cr ci cr' ci' : Nat → Int32} (h1 : ∀ k, k < 10 → cr k = cr' k) (h2 : ∀ k, k < 10 → ci k = ci' k) : ∀ k, k ≤ 10 → dgN cr ci k = dgN cr' ci' k
  | 0, _ => rfl
  | k + 1, h => by
    simp only [dgN]
    rw [dgN_congr h1 h2 k (by omega), h1 k (by omega), h2 k (by omega)]
theorem dX9_equationAt_0 : decode cX9_equationAt 0 = .ok (.iload_n 1, 1) := by decide +kernel
theorem dX9_equationAt_1 : decode cX9_equationAt 1 = .ok (.iconst 1, 1) := by decide +kernel
theorem dX9_equationAt_2 : decode cX9_equationAt 2 = .ok (.if_icmp .ne 10, 3) := by decide +kernel
theorem dX9_equationAt_5 : decode cX9_equationAt 5 = .ok (.aload_n 0, 1) := by decide +kernel
theorem dX9_equationAt_6 : decode cX9_equationAt 6 = .ok (.getfield 16, 3) := by decide +kernel
theorem dX9_equationAt_9 : decode cX9_equationAt 9 = .ok (.goto 7, 3) := by decide +kernel
theorem dX9_equationAt_12 : decode cX9_equationAt 12 = .ok (.aload_n 0, 1) := by decide +kernel
theorem dX9_equationAt_13 : decode cX9_equationAt 13 = .ok (.getfield 10, 3) := by decide +kernel
theorem dX9_equationAt_16 : decode cX9_equationAt 16 = .ok (.areturn, 1) := by decide +kernel
set_option maxHeartbeats 4000000 in
set_option maxRecDepth 100000 in
theorem t_X9_equationAt (l : Launch) (D : xD) (z n : Nat) (G : xG) (I : xI) (L : xL) (S : Nat) (b : Nat) (hS : shS G S) (hb : b < 2) : xM0 l D z yX9_equationAt cX9_equationAt 2 (some (.object "PathTracker$Equation")) 0 0 [.ref S, .int (nI b)] n G I L (xE (some (.ref (S + 1 + 4 * b))) I L) := by
  refine xM.of (by decide) (Nat.le_of_ble_eq_true rfl) (fun p e s m args below meth c C hnm hsz => ?_)
  refine x_lv [(0, .ref S), (1, .int (nI b))] rfl ?_
  rcases (show b = 0 ∨ b = 1 by omega) with rfl | rfl
  · skip
    refine x_iload_n 0 C dX9_equationAt_0 rfl 1 rfl ?_
    refine x_iconst 1 C (v := 1) dX9_equationAt_1 rfl ?_
    refine x_icmp_ne 2 C 12 dX9_equationAt_2 (by decide) (fun _ => ?_) (fun c1 => absurd c1 (by decide))
    refine x_aload_n 12 C dX9_equationAt_12 rfl 0 rfl ?_
    refine x_getr 13 C (b := S + 1 + 4 * 0) dX9_equationAt_13 ff_X9_10 rfl hS.1 rfl ?_
    refine x_aret 16 C dX9_equationAt_16 rfl (Or.inl ⟨_, rfl⟩) (Nat.le_refl _) (xN.intro ?_)
    exact ⟨rfl, rfl, rfl⟩
  · skip
    refine x_iload_n 0 C dX9_equationAt_0 rfl 1 rfl ?_
    refine x_iconst 1 C (v := 1) dX9_equationAt_1 rfl ?_
    refine x_icmp_ne 2 C 12 dX9_equationAt_2 (by decide) (fun c2 => absurd (by decide) c2) (fun _ => ?_)
    refine x_aload_n 5 C dX9_equationAt_5 rfl 0 rfl ?_
    refine x_getr 6 C (b := S + 1 + 4 * 1) dX9_equationAt_6 ff_X9_16 rfl hS.1 rfl ?_
    refine x_goto 9 C 16 dX9_equationAt_9 (by decide) ?_
    refine x_aret 16 C dX9_equationAt_16 rfl (Or.inl ⟨_, rfl⟩) (Nat.le_refl _) (xN.intro ?_)
    exact ⟨rfl, rfl, rfl⟩
theorem dX9_setting_0 : decode cX9_setting 0 = .ok (.iload_n 1, 1) := by decide +kernel
theorem dX9_setting_1 : decode cX9_setting 1 = .ok (.ifCond .lt 18, 3) := by decide +kernel
theorem dX9_setting_4 : decode cX9_setting 4 = .ok (.iload_n 1, 1) := by decide +kernel
theorem dX9_setting_5 : decode cX9_setting 5 = .ok (.bipush 8, 2) := by decide +kernel
theorem dX9_setting_7 : decode cX9_setting 7 = .ok (.if_icmp .ge 12, 3) := by decide +kernel
theorem dX9_setting_10 : decode cX9_setting 10 = .ok (.aload_n 0, 1) := by decide +kernel
theorem dX9_setting_11 : decode cX9_setting 11 = .ok (.getfield 19, 3) := by decide +kernel
theorem dX9_setting_14 : decode cX9_setting 14 = .ok (.iload_n 1, 1) := by decide +kernel
theorem dX9_setting_15 : decode cX9_setting 15 = .ok (.iaload, 1) := by decide +kernel
theorem dX9_setting_16 : decode cX9_setting 16 = .ok (.goto 4, 3) := by decide +kernel
theorem dX9_setting_19 : decode cX9_setting 19 = .ok (.iconst 0, 1) := by decide +kernel
theorem dX9_setting_20 : decode cX9_setting 20 = .ok (.ireturn, 1) := by decide +kernel
set_option maxHeartbeats 4000000 in
set_option maxRecDepth 100000 in
theorem t_X9_setting (l : Launch) (D : xD) (z n : Nat) (G : xG) (I : xI) (L : xL) (S : Nat) (w : Nat) (hS : shS G S) (hw : w < 8) : xM0 l D z yX9_setting cX9_setting 2 (some .int) 0 0 [.ref S, .int (nI w)] n G I L (xE (some (.int (I (S + 9) w))) I L) := by
  refine xM.of (by decide) (Nat.le_of_ble_eq_true rfl) (fun p e s m args below meth c C hnm hsz => ?_)
  refine x_lv [(0, .ref S), (1, .int (nI w))] rfl ?_
  refine x_iload_n 0 C dX9_setting_0 rfl 1 rfl ?_
  refine x_if_lt 1 C 19 dX9_setting_1 (by decide) (fun c1 => absurd c1 (nI_pos (n := w) (by omega))) (fun _ => ?_)
  refine x_iload_n 4 C dX9_setting_4 rfl 1 rfl ?_
  refine x_bipush 5 C (v := 8) dX9_setting_5 rfl ?_
  refine x_icmp_ge 7 C 19 dX9_setting_7 (by decide) (fun c2 => absurd c2 (fun h => absurd ((nI_leI (a := 8) (b := w) (by omega) (by omega)).mp h) (by omega))) (fun _ => ?_)
  refine x_aload_n 10 C dX9_setting_10 rfl 0 rfl ?_
  refine x_getr 11 C (b := S + 9) dX9_setting_11 ff_X9_19 rfl hS.1 rfl ?_
  refine x_iload_n 14 C dX9_setting_14 rfl 1 rfl ?_
  refine x_iald 15 C (j := w) dX9_setting_15 hS.2.2.1 (xIx_nI (by omega) (by decide)) ?_
  refine x_goto 16 C 20 dX9_setting_16 (by decide) ?_
  refine x_iret 20 C dX9_setting_20 rfl rfl (Nat.le_refl _) (xN.intro ?_)
  exact ⟨rfl, rfl, rfl⟩
theorem dX9_pathCount_0 : decode cX9_pathCount 0 = .ok (.aload_n 0, 1) := by decide +kernel
theorem dX9_pathCount_1 : decode cX9_pathCount 1 = .ok (.getfield 47, 3) := by decide +kernel
theorem dX9_pathCount_4 : decode cX9_pathCount 4 = .ok (.ireturn, 1) := by decide +kernel
set_option maxHeartbeats 4000000 in
set_option maxRecDepth 100000 in
theorem t_X9_pathCount (l : Launch) (D : xD) (z n : Nat) (G : xG) (I : xI) (L : xL) (S : Nat) (hS : shS G S) : xM0 l D z yX9_pathCount cX9_pathCount 1 (some .int) 0 0 [.ref S] n G I L (xE (some (.int (I S 4))) I L) := by
  refine xM.of (by decide) (Nat.le_of_ble_eq_true rfl) (fun p e s m args below meth c C hnm hsz => ?_)
  refine x_lv [(0, .ref S)] rfl ?_
  refine x_aload_n 0 C dX9_pathCount_0 rfl 0 rfl ?_
  refine x_geti 1 C dX9_pathCount_1 ff_X9_47 hS.1 ?_
  refine x_iret 4 C dX9_pathCount_4 rfl rfl (Nat.le_refl _) (xN.intro ?_)
  exact ⟨rfl, rfl, rfl⟩
theorem dX9_hasPath_0 : decode cX9_hasPath 0 = .ok (.iload_n 1, 1) := by decide +kernel
theorem dX9_hasPath_1 : decode cX9_hasPath 1 = .ok (.ifCond .lt 21, 3) := by decide +kernel
theorem dX9_hasPath_4 : decode cX9_hasPath 4 = .ok (.iload_n 1, 1) := by decide +kernel
theorem dX9_hasPath_5 : decode cX9_hasPath 5 = .ok (.aload_n 0, 1) := by decide +kernel
theorem dX9_hasPath_6 : decode cX9_hasPath 6 = .ok (.getfield 47, 3) := by decide +kernel
theorem dX9_hasPath_9 : decode cX9_hasPath 9 = .ok (.if_icmp .ge 13, 3) := by decide +kernel
theorem dX9_hasPath_12 : decode cX9_hasPath 12 = .ok (.iload_n 1, 1) := by decide +kernel
theorem dX9_hasPath_13 : decode cX9_hasPath 13 = .ok (.bipush 9, 2) := by decide +kernel
theorem dX9_hasPath_15 : decode cX9_hasPath 15 = .ok (.if_icmp .ge 7, 3) := by decide +kernel
theorem dX9_hasPath_18 : decode cX9_hasPath 18 = .ok (.iconst 1, 1) := by decide +kernel
theorem dX9_hasPath_19 : decode cX9_hasPath 19 = .ok (.goto 4, 3) := by decide +kernel
theorem dX9_hasPath_22 : decode cX9_hasPath 22 = .ok (.iconst 0, 1) := by decide +kernel
theorem dX9_hasPath_23 : decode cX9_hasPath 23 = .ok (.ireturn, 1) := by decide +kernel
set_option maxHeartbeats 4000000 in
set_option maxRecDepth 100000 in
theorem t_X9_hasPath (l : Launch) (D : xD) (z n : Nat) (G : xG) (I : xI) (L : xL) (S : Nat) (x : Int32) (hS : shS G S) : xM0 l D z yX9_hasPath cX9_hasPath 2 (some .boolean) 0 0 [.ref S, .int x] n G I L (xE (some (.int (bI (hasP I S x)))) I L) := by
  refine xM.of (by decide) (Nat.le_of_ble_eq_true rfl) (fun p e s m args below meth c C hnm hsz => ?_)
  refine x_lv [(0, .ref S), (1, .int x)] rfl ?_
  refine x_iload_n 0 C dX9_hasPath_0 rfl 1 rfl ?_
  refine x_if_lt 1 C 22 dX9_hasPath_1 (by decide) (fun c1 => ?_) (fun c1 => ?_)
  · skip
    have c1o := Int32.not_le.mpr c1
    refine x_iconst 22 C (v := 0) dX9_hasPath_22 rfl ?_
    refine x_iret 23 C dX9_hasPath_23 rfl rfl (Nat.le_refl _) (xN.intro ?_)
    refine ⟨?_, rfl, rfl⟩
    simp [bI, hasP, c1, c1o]
  · skip
    have c1o := Int32.not_lt.mp c1
    refine x_iload_n 4 C dX9_hasPath_4 rfl 1 rfl ?_
    refine x_aload_n 5 C dX9_hasPath_5 rfl 0 rfl ?_
    refine x_geti 6 C dX9_hasPath_6 ff_X9_47 hS.1 ?_
    refine x_icmp_ge 9 C 22 dX9_hasPath_9 (by decide) (fun c2 => ?_) (fun c2 => ?_)
    · skip
      have c2o := Int32.not_lt.mpr c2
      refine x_iconst 22 C (v := 0) dX9_hasPath_22 rfl ?_
      refine x_iret 23 C dX9_hasPath_23 rfl rfl (Nat.le_refl _) (xN.intro ?_)
      refine ⟨?_, rfl, rfl⟩
      simp [bI, hasP, c1, c1o, c2, c2o]
    · skip
      have c2o := Int32.not_le.mp c2
      refine x_iload_n 12 C dX9_hasPath_12 rfl 1 rfl ?_
      refine x_bipush 13 C (v := 9) dX9_hasPath_13 rfl ?_
      refine x_icmp_ge 15 C 22 dX9_hasPath_15 (by decide) (fun c3 => ?_) (fun c3 => ?_)
      · skip
        have c3o := Int32.not_lt.mpr c3
        refine x_iconst 22 C (v := 0) dX9_hasPath_22 rfl ?_
        refine x_iret 23 C dX9_hasPath_23 rfl rfl (Nat.le_refl _) (xN.intro ?_)
        refine ⟨?_, rfl, rfl⟩
        simp [bI, hasP, c1, c1o, c2, c2o, c3, c3o]
      · skip
        have c3o := Int32.not_le.mp c3
        refine x_iconst 18 C (v := 1) dX9_hasPath_18 rfl ?_
        refine x_goto 19 C 23 dX9_hasPath_19 (by decide) ?_
        refine x_iret 23 C dX9_hasPath_23 rfl rfl (Nat.le_refl _) (xN.intro ?_)
        refine ⟨?_, rfl, rfl⟩
        simp [bI, hasP, c1, c1o, c2, c2o, c3, c3o]
set_option maxHeartbeats 4000000 in
set_option maxRecDepth 100000 in
theorem t_X9_hasPath_k (l : Launch) (D : xD) (z n : Nat) (G : xG) (I : xI) (L : xL) (S : Nat) (k : Nat) (U : Nat) (hS : shS G S) (hU : I S 4 = nI U) (hU9 : U ≤ 9) (hk : k < U) : xM0 l D z yX9_hasPath cX9_hasPath 2 (some .boolean) 0 0 [.ref S, .int (nI k)] n G I L (xE (some (.int 1)) I L) := by
  refine xM.of (by decide) (Nat.le_of_ble_eq_true rfl) (fun p e s m args below meth c C hnm hsz => ?_)
  refine x_lv [(0, .ref S), (1, .int (nI k))] rfl ?_
  refine x_iload_n 0 C dX9_hasPath_0 rfl 1 rfl ?_
  refine x_if_lt 1 C 22 dX9_hasPath_1 (by decide) (fun c1 => absurd c1 (nI_pos (n := k) (by omega))) (fun _ => ?_)
  refine x_iload_n 4 C dX9_hasPath_4 rfl 1 rfl ?_
  refine x_aload_n 5 C dX9_hasPath_5 rfl 0 rfl ?_
  refine x_geti 6 C dX9_hasPath_6 ff_X9_47 hS.1 ?_
  refine x_int (nI U) hU ?_
  refine x_icmp_ge 9 C 22 dX9_hasPath_9 (by decide) (fun c2 => absurd c2 (fun h => absurd ((nI_leI (a := U) (b := k) (by omega) (by omega)).mp h) (by omega))) (fun _ => ?_)
  refine x_iload_n 12 C dX9_hasPath_12 rfl 1 rfl ?_
  refine x_bipush 13 C (v := 9) dX9_hasPath_13 rfl ?_
  refine x_icmp_ge 15 C 22 dX9_hasPath_15 (by decide) (fun c3 => absurd c3 (fun h => absurd ((nI_leI (a := 9) (b := k) (by omega) (by omega)).mp h) (by omega))) (fun _ => ?_)
  refine x_iconst 18 C (v := 1) dX9_hasPath_18 rfl ?_
  refine x_goto 19 C 23 dX9_hasPath_19 (by decide) ?_
  refine x_iret 23 C dX9_hasPath_23 rfl rfl (Nat.le_refl _) (xN.intro ?_)
  exact ⟨rfl, rfl, rfl⟩
theorem dX9_pathAt_0 : decode cX9_pathAt 0 = .ok (.aload_n 0, 1) := by decide +kernel
theorem dX9_pathAt_1 : decode cX9_pathAt 1 = .ok (.getfield 25, 3) := by decide +kernel
theorem dX9_pathAt_4 : decode cX9_pathAt 4 = .ok (.aload_n 0, 1) := by decide +kernel
theorem dX9_pathAt_5 : decode cX9_pathAt 5 = .ok (.iload_n 1, 1) := by decide +kernel
theorem dX9_pathAt_6 : decode cX9_pathAt 6 = .ok (.invokevirtual 78, 3) := by decide +kernel
theorem dX9_pathAt_9 : decode cX9_pathAt 9 = .ok (.ifCond .eq 7, 3) := by decide +kernel
theorem dX9_pathAt_12 : decode cX9_pathAt 12 = .ok (.iload_n 1, 1) := by decide +kernel
theorem dX9_pathAt_13 : decode cX9_pathAt 13 = .ok (.goto 4, 3) := by decide +kernel
theorem dX9_pathAt_16 : decode cX9_pathAt 16 = .ok (.iconst 0, 1) := by decide +kernel
theorem dX9_pathAt_17 : decode cX9_pathAt 17 = .ok (.aaload, 1) := by decide +kernel
theorem dX9_pathAt_18 : decode cX9_pathAt 18 = .ok (.areturn, 1) := by decide +kernel
set_option maxHeartbeats 4000000 in
set_option maxRecDepth 100000 in
theorem t_X9_pathAt (l : Launch) (D : xD) (z n : Nat) (G : xG) (I : xI) (L : xL) (S : Nat) (k : Nat) (U : Nat) (hS : shS G S) (hU : I S 4 = nI U) (hU9 : U ≤ 9) (hk : k < U) : xM0 l D z yX9_pathAt cX9_pathAt 2 (some (.object "PathTracker$Path")) 1 21 [.ref S, .int (nI k)] n G I L (xE (some (.ref (S + 11 + 3 * k))) I L) := by
  refine xM.of (by decide) (Nat.le_of_ble_eq_true rfl) (fun p e s m args below meth c C hnm hsz => ?_)
  refine x_lv [(0, .ref S), (1, .int (nI k))] rfl ?_
  refine x_aload_n 0 C dX9_pathAt_0 rfl 0 rfl ?_
  refine x_getr 1 C (b := S + 10) dX9_pathAt_1 ff_X9_25 rfl hS.1 rfl ?_
  refine x_aload_n 4 C dX9_pathAt_4 rfl 0 rfl ?_
  refine x_iload_n 5 C dX9_pathAt_5 rfl 1 rfl ?_
  refine x_callVe 6 C dX9_pathAt_6 (As := [.int (nI k)]) (rest := [.ref (S + 10)]) [.int 1, .ref (S + 10)] (t_X9_hasPath_k l D z n G I L S k U hS (by first | assumption | omega) (by first | assumption | omega) (by first | assumption | omega)) mt_X9_hasPath km_X9_78 ki_X9_hasPath ks_X9_hasPath hS.1 ⟨by decide, rfl⟩ rfl rfl (Nat.le_of_ble_eq_true rfl) ⟨⟨by decide, by decide⟩, by decide, by decide⟩ (fun I1 L2 eI1 eL2 => ?_)
  replace eI1 := eI1.symm; subst eI1
  replace eL2 := eL2.symm; subst eL2
  refine x_if_eq 9 C 16 dX9_pathAt_9 (by decide) (fun c3 => absurd c3 (by decide)) (fun _ => ?_)
  refine x_iload_n 12 C dX9_pathAt_12 rfl 1 rfl ?_
  refine x_goto 13 C 17 dX9_pathAt_13 (by decide) ?_
  refine x_aald 17 C (b := S + 11 + 3 * k) (j := k) dX9_pathAt_17 (by decide) hS.2.2.2.1 (xIx_nI (by omega) (by decide)) (if_pos (by omega)) ?_
  refine x_aret 18 C dX9_pathAt_18 rfl (Or.inl ⟨_, rfl⟩) (Nat.le_refl _) (xN.intro ?_)
  exact ⟨rfl, rfl, rfl⟩
theorem dX9_inRange_0 : decode cX9_inRange 0 = .ok (.iload_n 0, 1) := by decide +kernel
theorem dX9_inRange_1 : decode cX9_inRange 1 = .ok (.ifCond .lt 13, 3) := by decide +kernel
theorem dX9_inRange_4 : decode cX9_inRange 4 = .ok (.iload_n 0, 1) := by decide +kernel
theorem dX9_inRange_5 : decode cX9_inRange 5 = .ok (.bipush 8, 2) := by decide +kernel
theorem dX9_inRange_7 : decode cX9_inRange 7 = .ok (.if_icmp .ge 7, 3) := by decide +kernel
theorem dX9_inRange_10 : decode cX9_inRange 10 = .ok (.iconst 1, 1) := by decide +kernel
theorem dX9_inRange_11 : decode cX9_inRange 11 = .ok (.goto 4, 3) := by decide +kernel
theorem dX9_inRange_14 : decode cX9_inRange 14 = .ok (.iconst 0, 1) := by decide +kernel
theorem dX9_inRange_15 : decode cX9_inRange 15 = .ok (.istore_n 2, 1) := by decide +kernel
theorem dX9_inRange_16 : decode cX9_inRange 16 = .ok (.iload_n 2, 1) := by decide +kernel
theorem dX9_inRange_17 : decode cX9_inRange 17 = .ok (.ifCond .eq 25, 3) := by decide +kernel
theorem dX9_inRange_20 : decode cX9_inRange 20 = .ok (.iload_n 1, 1) := by decide +kernel
theorem dX9_inRange_21 : decode cX9_inRange 21 = .ok (.getstatic 58, 3) := by decide +kernel
theorem dX9_inRange_24 : decode cX9_inRange 24 = .ok (.iload_n 0, 1) := by decide +kernel
theorem dX9_inRange_25 : decode cX9_inRange 25 = .ok (.iaload, 1) := by decide +kernel
theorem dX9_inRange_26 : decode cX9_inRange 26 = .ok (.if_icmp .lt 16, 3) := by decide +kernel
theorem dX9_inRange_29 : decode cX9_inRange 29 = .ok (.iload_n 1, 1) := by decide +kernel
theorem dX9_inRange_30 : decode cX9_inRange 30 = .ok (.getstatic 61, 3) := by decide +kernel
theorem dX9_inRange_33 : decode cX9_inRange 33 = .ok (.iload_n 0, 1) := by decide +kernel
theorem dX9_inRange_34 : decode cX9_inRange 34 = .ok (.iaload, 1) := by decide +kernel
theorem dX9_inRange_35 : decode cX9_inRange 35 = .ok (.if_icmp .gt 7, 3) := by decide +kernel
theorem dX9_inRange_38 : decode cX9_inRange 38 = .ok (.iconst 1, 1) := by decide +kernel
theorem dX9_inRange_39 : decode cX9_inRange 39 = .ok (.goto 4, 3) := by decide +kernel
theorem dX9_inRange_42 : decode cX9_inRange 42 = .ok (.iconst 0, 1) := by decide +kernel
theorem dX9_inRange_43 : decode cX9_inRange 43 = .ok (.ireturn, 1) := by decide +kernel
set_option maxHeartbeats 4000000 in
set_option maxRecDepth 100000 in
theorem t_X9_inRange (l : Launch) (D : xD) (z n : Nat) (G : xG) (I : xI) (L : xL) (w : Nat) (v : Int32) (hw : w < 8) : xM0 l D z yX9_inRange cX9_inRange 3 (some .boolean) 0 0 [.int (nI w), .int v] n G I L (xE (some (.int (bI (inRg w v)))) I L) := by
  refine xM.of (by decide) (Nat.le_of_ble_eq_true rfl) (fun p e s m args below meth c C hnm hsz => ?_)
  refine x_lv [(0, .int (nI w)), (1, .int v)] rfl ?_
  refine x_iload_n 0 C dX9_inRange_0 rfl 0 rfl ?_
  refine x_if_lt 1 C 14 dX9_inRange_1 (by decide) (fun c1 => absurd c1 (nI_pos (n := w) (by omega))) (fun _ => ?_)
  refine x_iload_n 4 C dX9_inRange_4 rfl 0 rfl ?_
  refine x_bipush 5 C (v := 8) dX9_inRange_5 rfl ?_
  refine x_icmp_ge 7 C 14 dX9_inRange_7 (by decide) (fun c2 => absurd c2 (fun h => absurd ((nI_leI (a := 8) (b := w) (by omega) (by omega)).mp h) (by omega))) (fun _ => ?_)
  refine x_iconst 10 C (v := 1) dX9_inRange_10 rfl ?_
  refine x_goto 11 C 15 dX9_inRange_11 (by decide) ?_
  refine x_istore_n 15 C [(2, .int 1), (0, .int (nI w)), (1, .int v)] dX9_inRange_15 rfl (by decide) rfl ?_
  refine x_iload_n 16 C dX9_inRange_16 rfl 0 rfl ?_
  refine x_if_eq 17 C 42 dX9_inRange_17 (by decide) (fun c3 => absurd c3 (by decide)) (fun _ => ?_)
  refine x_iload_n 20 C dX9_inRange_20 rfl 2 rfl ?_
  refine x_gets 21 C (k0 := 4) dX9_inRange_21 rfl kf_X9_58 ?_
  refine x_iload_n 24 C dX9_inRange_24 rfl 1 rfl ?_
  refine x_stald 25 C (j := w) dX9_inRange_25 (k0 := 4) rfl (xIx_nI (len := 8) (by omega) (by decide)) ?_
  refine x_icmp_lt 26 C 42 dX9_inRange_26 (by decide) (fun c4 => ?_) (fun c4 => ?_)
  · skip
    have c4o := Int32.not_le.mpr c4
    refine x_iconst 42 C (v := 0) dX9_inRange_42 rfl ?_
    refine x_iret 43 C dX9_inRange_43 rfl rfl (Nat.le_refl _) (xN.intro ?_)
    refine ⟨?_, rfl, rfl⟩
    simp [bI, inRg, c4, c4o]
  · skip
    have c4o := Int32.not_lt.mp c4
    refine x_iload_n 29 C dX9_inRange_29 rfl 2 rfl ?_
    refine x_gets 30 C (k0 := 5) dX9_inRange_30 rfl kf_X9_61 ?_
    refine x_iload_n 33 C dX9_inRange_33 rfl 1 rfl ?_
    refine x_stald 34 C (j := w) dX9_inRange_34 (k0 := 5) rfl (xIx_nI (len := 8) (by omega) (by decide)) ?_
    refine x_icmp_gt 35 C 42 dX9_inRange_35 (by decide) (fun c5 => ?_) (fun c5 => ?_)
    · skip
      have c5o := Int32.not_le.mpr c5
      refine x_iconst 42 C (v := 0) dX9_inRange_42 rfl ?_
      refine x_iret 43 C dX9_inRange_43 rfl rfl (Nat.le_refl _) (xN.intro ?_)
      refine ⟨?_, rfl, rfl⟩
      simp [bI, inRg, c4, c4o, c5, c5o]
    · skip
      have c5o := Int32.not_lt.mp c5
      refine x_iconst 38 C (v := 1) dX9_inRange_38 rfl ?_
      refine x_goto 39 C 43 dX9_inRange_39 (by decide) ?_
      refine x_iret 43 C dX9_inRange_43 rfl rfl (Nat.le_refl _) (xN.intro ?_)
      refine ⟨?_, rfl, rfl⟩
      simp [bI, inRg, c4, c4o, c5, c5o]
