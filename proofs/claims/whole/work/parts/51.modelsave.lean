/-! The Model: saved states -/
/-- what save0 did, of Z states -/
def mrec (I : xI) (A Z : Nat) (I' : xI) : Prop := I' A 2 = nI (if Z = 4 then 4 else Z + 1) ∧ (∀ j, j < 158 → I' (A + 2) (158 * (if Z = 4 then 3 else Z) + j) = I (A + 1) j) ∧ ∀ j, j < 158 * (if Z = 4 then 3 else Z) → I' (A + 2) j = I (A + 2) (if Z = 4 then j + 158 else j)
theorem mrec_congr {I I' I'' : xI} {A Z : Nat} (h0 : I'' A 2 = I' A 2) (h2 : I'' (A + 2) = I' (A + 2)) (h : mrec I A Z I') : mrec I A Z I'' := by
  unfold mrec; rw [h0, h2]; exact h
theorem lt2_1 {x : Int32} : x < 2 ↔ x ≤ 1 := by
  have e2 : (2 : Int32).toInt = 2 := by decide
  have e1 : (1 : Int32).toInt = 1 := by decide
  rw [Int32.lt_iff_toInt_lt, Int32.le_iff_toInt_le, e2, e1]; omega
theorem dX12_save0_0 : decode cX12_save0 0 = .ok (.aload_n 0, 1) := by decide +kernel
theorem dX12_save0_1 : decode cX12_save0 1 = .ok (.getfield 75, 3) := by decide +kernel
theorem dX12_save0_4 : decode cX12_save0 4 = .ok (.iconst 4, 1) := by decide +kernel
theorem dX12_save0_5 : decode cX12_save0 5 = .ok (.if_icmp .ne 44, 3) := by decide +kernel
theorem dX12_save0_8 : decode cX12_save0 8 = .ok (.iconst 0, 1) := by decide +kernel
theorem dX12_save0_9 : decode cX12_save0 9 = .ok (.istore_n 1, 1) := by decide +kernel
theorem dX12_save0_10 : decode cX12_save0 10 = .ok (.iload_n 1, 1) := by decide +kernel
theorem dX12_save0_11 : decode cX12_save0 11 = .ok (.sipush 474, 3) := by decide +kernel
theorem dX12_save0_14 : decode cX12_save0 14 = .ok (.if_icmp .ge 25, 3) := by decide +kernel
theorem dX12_save0_17 : decode cX12_save0 17 = .ok (.aload_n 0, 1) := by decide +kernel
theorem dX12_save0_18 : decode cX12_save0 18 = .ok (.getfield 13, 3) := by decide +kernel
theorem dX12_save0_21 : decode cX12_save0 21 = .ok (.iload_n 1, 1) := by decide +kernel
theorem dX12_save0_22 : decode cX12_save0 22 = .ok (.aload_n 0, 1) := by decide +kernel
theorem dX12_save0_23 : decode cX12_save0 23 = .ok (.getfield 13, 3) := by decide +kernel
theorem dX12_save0_26 : decode cX12_save0 26 = .ok (.iload_n 1, 1) := by decide +kernel
theorem dX12_save0_27 : decode cX12_save0 27 = .ok (.sipush 158, 3) := by decide +kernel
theorem dX12_save0_30 : decode cX12_save0 30 = .ok (.iadd, 1) := by decide +kernel
theorem dX12_save0_31 : decode cX12_save0 31 = .ok (.iaload, 1) := by decide +kernel
theorem dX12_save0_32 : decode cX12_save0 32 = .ok (.iastore, 1) := by decide +kernel
theorem dX12_save0_33 : decode cX12_save0 33 = .ok (.iinc 1 1, 3) := by decide +kernel
theorem dX12_save0_36 : decode cX12_save0 36 = .ok (.goto (-26), 3) := by decide +kernel
theorem dX12_save0_39 : decode cX12_save0 39 = .ok (.aload_n 0, 1) := by decide +kernel
theorem dX12_save0_40 : decode cX12_save0 40 = .ok (.dup, 1) := by decide +kernel
theorem dX12_save0_41 : decode cX12_save0 41 = .ok (.getfield 75, 3) := by decide +kernel
theorem dX12_save0_44 : decode cX12_save0 44 = .ok (.iconst 1, 1) := by decide +kernel
theorem dX12_save0_45 : decode cX12_save0 45 = .ok (.isub, 1) := by decide +kernel
theorem dX12_save0_46 : decode cX12_save0 46 = .ok (.putfield 75, 3) := by decide +kernel
theorem dX12_save0_49 : decode cX12_save0 49 = .ok (.iconst 0, 1) := by decide +kernel
theorem dX12_save0_50 : decode cX12_save0 50 = .ok (.istore_n 1, 1) := by decide +kernel
theorem dX12_save0_51 : decode cX12_save0 51 = .ok (.iload_n 1, 1) := by decide +kernel
theorem dX12_save0_52 : decode cX12_save0 52 = .ok (.sipush 158, 3) := by decide +kernel
theorem dX12_save0_55 : decode cX12_save0 55 = .ok (.if_icmp .ge 30, 3) := by decide +kernel
theorem dX12_save0_58 : decode cX12_save0 58 = .ok (.aload_n 0, 1) := by decide +kernel
theorem dX12_save0_59 : decode cX12_save0 59 = .ok (.getfield 13, 3) := by decide +kernel
theorem dX12_save0_62 : decode cX12_save0 62 = .ok (.sipush 158, 3) := by decide +kernel
theorem dX12_save0_65 : decode cX12_save0 65 = .ok (.aload_n 0, 1) := by decide +kernel
theorem dX12_save0_66 : decode cX12_save0 66 = .ok (.getfield 75, 3) := by decide +kernel
theorem dX12_save0_69 : decode cX12_save0 69 = .ok (.imul, 1) := by decide +kernel
theorem dX12_save0_70 : decode cX12_save0 70 = .ok (.iload_n 1, 1) := by decide +kernel
theorem dX12_save0_71 : decode cX12_save0 71 = .ok (.iadd, 1) := by decide +kernel
theorem dX12_save0_72 : decode cX12_save0 72 = .ok (.aload_n 0, 1) := by decide +kernel
theorem dX12_save0_73 : decode cX12_save0 73 = .ok (.getfield 7, 3) := by decide +kernel
theorem dX12_save0_76 : decode cX12_save0 76 = .ok (.iload_n 1, 1) := by decide +kernel
theorem dX12_save0_77 : decode cX12_save0 77 = .ok (.iaload, 1) := by decide +kernel
theorem dX12_save0_78 : decode cX12_save0 78 = .ok (.iastore, 1) := by decide +kernel
theorem dX12_save0_79 : decode cX12_save0 79 = .ok (.iinc 1 1, 3) := by decide +kernel
theorem dX12_save0_82 : decode cX12_save0 82 = .ok (.goto (-31), 3) := by decide +kernel
theorem dX12_save0_85 : decode cX12_save0 85 = .ok (.aload_n 0, 1) := by decide +kernel
theorem dX12_save0_86 : decode cX12_save0 86 = .ok (.dup, 1) := by decide +kernel
theorem dX12_save0_87 : decode cX12_save0 87 = .ok (.getfield 75, 3) := by decide +kernel
theorem dX12_save0_90 : decode cX12_save0 90 = .ok (.iconst 1, 1) := by decide +kernel
theorem dX12_save0_91 : decode cX12_save0 91 = .ok (.iadd, 1) := by decide +kernel
theorem dX12_save0_92 : decode cX12_save0 92 = .ok (.putfield 75, 3) := by decide +kernel
theorem dX12_save0_95 : decode cX12_save0 95 = .ok (.return_, 1) := by decide +kernel
set_option maxHeartbeats 1000000 in
set_option maxRecDepth 100000 in
theorem t_X12_save0 (l : Launch) (D : xD) (z n : Nat) (G : xG) (I : xI) (L : xL) (A : Nat) (Z : Nat) (hM : shMo G A) (zA : z ≤ A) (hZ : I A 2 = nI Z) (hZ4 : Z ≤ 4) : xM0 l D z yX12_save0 cX12_save0 2 none 0 0 [.ref A] n G I L (fun v' I' L' => v' = none ∧ L' = L ∧ (mrec I A Z I') ∧ (∀ q, q ≠ A → q ≠ A + 2 → I' q = I q) ∧ (∀ j, j ≠ 2 → I' A j = I A j)) := by
  refine xM.of (by decide) (Nat.le_of_ble_eq_true rfl) (fun p e s m args below meth c C hnm hsz => ?_)
  refine x_lv [(0, .ref A)] rfl ?_
  refine x_aload_n 0 C dX12_save0_0 rfl 0 rfl ?_
  refine x_geti 1 C dX12_save0_1 ff_X12_75 hM.1 ?_
  refine x_int (nI Z) hZ ?_
  refine x_iconst 4 C (v := 4) dX12_save0_4 rfl ?_
  have join49 : ∀ (mN : Nat) (I1 : xI), (mN ≤ 3) → (mN = (if Z = 4 then 3 else Z)) → (I1 A 2 = nI mN) → (∀ q, q ≠ A → q ≠ A + 2 → I1 q = I q) → (∀ j, j ≠ 2 → I1 A j = I A j) → (∀ j, j < 158 * mN → I1 (A + 2) j = I (A + 2) (if Z = 4 then j + 158 else j)) → X p l e (xRm 0 0 0 0) s m args below meth c D z 2 (MQ below (xQc D z n (xN n G (fun v' I' L' => v' = none ∧ L' = L ∧ (mrec I A Z I') ∧ (∀ q, q ≠ A → q ≠ A + 2 → I' q = I q) ∧ (∀ j, j ≠ 2 → I' A j = I A j)))) args s 0 0 (fun a => z ≤ a)) 0 0 n G I1 L 49 [(0, .ref A)] [] := by
    intro mN I1 hm3 hmz hm2 ho1 hoj hsh
    refine x_iconst 49 C (v := 0) dX12_save0_49 rfl ?_
    refine x_istore_n 50 C [(1, .int 0), (0, .ref A)] dX12_save0_50 rfl (by decide) rfl ?_
    have loop51 : ∀ (fuel : Nat) (i : Nat) (Im : xI), (i ≤ 158) → (159 ≤ i + fuel) → (∀ j, Im (A + 2) j = if 158 * mN ≤ j ∧ j < 158 * mN + i then I (A + 1) (j - 158 * mN) else I1 (A + 2) j) → (∀ q, q ≠ A + 2 → Im q = I1 q) → X p l e (xRm 0 0 0 0) s m args below meth c D z 2 (MQ below (xQc D z n (xN n G (fun v' I' L' => v' = none ∧ L' = L ∧ (mrec I A Z I') ∧ (∀ q, q ≠ A → q ≠ A + 2 → I' q = I q) ∧ (∀ j, j ≠ 2 → I' A j = I A j)))) args s 0 0 (fun a => z ≤ a)) 0 0 n G Im L 51 [(0, .ref A), (1, .int (nI i))] [] := by
      intro fuel
      induction fuel with
      | zero =>
        intro i Im hi hf2 h22 hr2
        exact absurd hf2 (by omega)
      | succ fuel ih =>
        intro i Im hi hf2 h22 hr2
        refine x_iload_n 51 C dX12_save0_51 rfl 1 rfl ?_
        refine x_sipush 52 C (v := 158) dX12_save0_52 rfl ?_
        refine x_icmp_ge 55 C 85 dX12_save0_55 (by decide) (fun c2 => ?_) (fun c2 => ?_)
        · skip
          have c2n : 158 ≤ i := (nI_leI (a := 158) (b := i) (by omega) (by omega)).mp c2
          have c2m : ¬ (i < 158) := by omega
          have c2o := Int32.not_lt.mpr c2
          refine x_aload_n 85 C dX12_save0_85 rfl 0 rfl ?_
          refine x_dup 86 C dX12_save0_86 rfl ?_
          refine x_geti 87 C dX12_save0_87 ff_X12_75 hM.1 ?_
          refine x_int (nI mN) (by rw [hr2 A (by omega)]; exact hm2) ?_
          refine x_iconst 90 C (v := 1) dX12_save0_90 rfl ?_
          refine x_iadd 91 C dX12_save0_91 ?_
          refine x_int (nI (mN + 1)) (nI_add mN 1) ?_
          refine x_puti 92 C dX12_save0_92 ff_X12_75 rfl hM.1 (by omega) (fun I3 eI3 => ?_)
          refine x_vret 95 C dX12_save0_95 rfl (Nat.le_refl _) (xN.intro ?_)
          have hi8 : i = 158 := by omega
          subst hi8
          refine ⟨rfl, rfl, ⟨?_, fun j hj => ?_, fun j hj => ?_⟩, fun q h0 h2 => by rw [eI3, xup_row _ _ h0, hr2 q h2]; exact ho1 q h0 h2, fun j hj => by rw [eI3, xup_ne _ _ (fun h => hj h.2), hr2 A (by omega)]; exact hoj j hj⟩
          · rw [eI3, xup_self, hmz]; congr 1; split <;> rfl
          · rw [eI3, xup_row _ _ (by omega), ← hmz, h22, if_pos (by omega), show 158 * mN + j - 158 * mN = j by omega]
          · rw [← hmz] at hj; rw [eI3, xup_row _ _ (by omega), h22, if_neg (by omega)]; exact hsh j hj
        · skip
          have c2n : ¬ (158 ≤ i) := fun h => c2 ((nI_leI (a := 158) (b := i) (by omega) (by omega)).mpr h)
          have c2m : i < 158 := by omega
          have c2o := Int32.not_le.mp c2
          refine x_aload_n 58 C dX12_save0_58 rfl 0 rfl ?_
          refine x_getr 59 C (b := A + 2) dX12_save0_59 ff_X12_13 rfl hM.1 rfl ?_
          refine x_sipush 62 C (v := 158) dX12_save0_62 rfl ?_
          refine x_aload_n 65 C dX12_save0_65 rfl 0 rfl ?_
          refine x_geti 66 C dX12_save0_66 ff_X12_75 hM.1 ?_
          refine x_int (nI mN) (by rw [hr2 A (by omega)]; exact hm2) ?_
          refine x_imul 69 C dX12_save0_69 ?_
          refine x_int (nI (158 * mN)) (nI_mul 158 mN) ?_
          refine x_iload_n 70 C dX12_save0_70 rfl 1 rfl ?_
          refine x_iadd 71 C dX12_save0_71 ?_
          refine x_int (nI (158 * mN + i)) (nI_add (158 * mN) i) ?_
          refine x_aload_n 72 C dX12_save0_72 rfl 0 rfl ?_
          refine x_getr 73 C (b := A + 1) dX12_save0_73 ff_X12_7 rfl hM.1 rfl ?_
          refine x_iload_n 76 C dX12_save0_76 rfl 1 rfl ?_
          refine x_iald 77 C (j := i) dX12_save0_77 hM.2.1 (xIx_nI (by omega) (by decide)) ?_
          refine x_int (I (A + 1) i) (by rw [hr2 _ (by omega), ho1 _ (by omega) (by omega)]) ?_
          refine x_iast 78 C (j := (158 * mN + i)) dX12_save0_78 hM.2.2.1 (by omega) (xIx_nI (by omega) (by decide)) (fun I4 eI4 => ?_)
          refine x_iinc 79 C [(1, .int (nI (i + 1))), (0, .ref A)] dX12_save0_79 1 rfl (nI_add i 1) (by decide) rfl ?_
          refine x_goto 82 C 51 dX12_save0_82 (by decide) ?_
          refine x_sub [(0, .ref A), (1, .int (nI (i + 1)))] [1, 0] rfl ?_
          exact ih (i + 1) I4 (by omega) (by omega) (fun j => by rw [eI4, xup_at]; by_cases h : j = 158 * mN + i; (rw [if_pos h, if_pos (by omega), show j - 158 * mN = i by omega]); (rw [if_neg h, h22]; by_cases h3 : 158 * mN ≤ j ∧ j < 158 * mN + i; (rw [if_pos h3, if_pos (by omega)]); (rw [if_neg h3, if_neg (by omega)]))) (fun q hq => by rw [eI4, xup_row _ _ hq]; exact hr2 q hq)
    refine x_sub [(0, .ref A), (1, .int 0)] [1, 0] rfl ?_
    exact loop51 159 0 I1 (by omega) (by omega) (fun j => (if_neg (by omega)).symm) (fun _ _ => rfl)
  refine x_icmp_ne 5 C 49 dX12_save0_5 (by decide) (fun c1 => ?_) (fun c1 => ?_)
  · skip
    have c1n : ¬ (Z = 4) := fun h => c1 ((nI_eq (a := Z) (b := 4) (by omega) (by omega)).mpr h)
    have h4 : ¬ Z = 4 := c1n
    refine x_sub [(0, .ref A)] [0] rfl ?_
    exact join49 Z I (by omega) (by rw [if_neg h4]) hZ (fun _ _ _ => rfl) (fun _ _ => rfl) (fun j hj => by rw [if_neg h4])
  · skip
    have c1n : Z = 4 := (nI_eq (a := Z) (b := 4) (by omega) (by omega)).mp c1
    have h4 : Z = 4 := by omega
    refine x_iconst 8 C (v := 0) dX12_save0_8 rfl ?_
    refine x_istore_n 9 C [(1, .int 0), (0, .ref A)] dX12_save0_9 rfl (by decide) rfl ?_
    have loop10 : ∀ (fuel : Nat) (k : Nat) (Ik : xI), (k ≤ 474) → (475 ≤ k + fuel) → (∀ j, Ik (A + 2) j = if j < k then I (A + 2) (j + 158) else I (A + 2) j) → (∀ q, q ≠ A + 2 → Ik q = I q) → X p l e (xRm 0 0 0 0) s m args below meth c D z 2 (MQ below (xQc D z n (xN n G (fun v' I' L' => v' = none ∧ L' = L ∧ (mrec I A Z I') ∧ (∀ q, q ≠ A → q ≠ A + 2 → I' q = I q) ∧ (∀ j, j ≠ 2 → I' A j = I A j)))) args s 0 0 (fun a => z ≤ a)) 0 0 n G Ik L 10 [(0, .ref A), (1, .int (nI k))] [] := by
      intro fuel
      induction fuel with
      | zero =>
        intro k Ik hk hf h2 hr
        exact absurd hf (by omega)
      | succ fuel ih =>
        intro k Ik hk hf h2 hr
        refine x_iload_n 10 C dX12_save0_10 rfl 1 rfl ?_
        refine x_sipush 11 C (v := 474) dX12_save0_11 rfl ?_
        refine x_icmp_ge 14 C 39 dX12_save0_14 (by decide) (fun c5 => ?_) (fun c5 => ?_)
        · skip
          have c5n : 474 ≤ k := (nI_leI (a := 474) (b := k) (by omega) (by omega)).mp c5
          have c5m : ¬ (k < 474) := by omega
          have c5o := Int32.not_lt.mpr c5
          refine x_aload_n 39 C dX12_save0_39 rfl 0 rfl ?_
          refine x_dup 40 C dX12_save0_40 rfl ?_
          refine x_geti 41 C dX12_save0_41 ff_X12_75 hM.1 ?_
          refine x_int (nI 4) (by rw [hr A (by omega), hZ, h4]) ?_
          refine x_iconst 44 C (v := 1) dX12_save0_44 rfl ?_
          refine x_isub 45 C dX12_save0_45 ?_
          refine x_int (nI 3) (by decide) ?_
          refine x_puti 46 C dX12_save0_46 ff_X12_75 rfl hM.1 (by omega) (fun I6 eI6 => ?_)
          refine x_sub [(0, .ref A)] [0] rfl ?_
          exact join49 3 I6 (by omega) (by rw [if_pos h4]) (by rw [eI6, xup_self]) (fun q h0 h2 => by rw [eI6, xup_row _ _ h0]; exact hr q h2) (fun j hj => by rw [eI6, xup_ne _ _ (fun h => hj h.2), hr A (by omega)]) (fun j hj => by rw [eI6, xup_row _ _ (by omega), h2, if_pos (by omega), if_pos h4])
        · skip
          have c5n : ¬ (474 ≤ k) := fun h => c5 ((nI_leI (a := 474) (b := k) (by omega) (by omega)).mpr h)
          have c5m : k < 474 := by omega
          have c5o := Int32.not_le.mp c5
          refine x_aload_n 17 C dX12_save0_17 rfl 0 rfl ?_
          refine x_getr 18 C (b := A + 2) dX12_save0_18 ff_X12_13 rfl hM.1 rfl ?_
          refine x_iload_n 21 C dX12_save0_21 rfl 1 rfl ?_
          refine x_aload_n 22 C dX12_save0_22 rfl 0 rfl ?_
          refine x_getr 23 C (b := A + 2) dX12_save0_23 ff_X12_13 rfl hM.1 rfl ?_
          refine x_iload_n 26 C dX12_save0_26 rfl 1 rfl ?_
          refine x_sipush 27 C (v := 158) dX12_save0_27 rfl ?_
          refine x_iadd 30 C dX12_save0_30 ?_
          refine x_int (nI (k + 158)) (nI_add k 158) ?_
          refine x_iald 31 C (j := (k + 158)) dX12_save0_31 hM.2.2.1 (xIx_nI (by omega) (by decide)) ?_
          refine x_int (I (A + 2) (k + 158)) (by rw [h2, if_neg (by omega)]) ?_
          refine x_iast 32 C (j := k) dX12_save0_32 hM.2.2.1 (by omega) (xIx_nI (by omega) (by decide)) (fun I7 eI7 => ?_)
          refine x_iinc 33 C [(1, .int (nI (k + 1))), (0, .ref A)] dX12_save0_33 1 rfl (nI_add k 1) (by decide) rfl ?_
          refine x_goto 36 C 10 dX12_save0_36 (by decide) ?_
          refine x_sub [(0, .ref A), (1, .int (nI (k + 1)))] [1, 0] rfl ?_
          exact ih (k + 1) I7 (by omega) (by omega) (fun j => by rw [eI7, xup_at]; by_cases h : j = k; (rw [if_pos h, if_pos (by omega), h]); (rw [if_neg h, h2]; by_cases h3 : j < k; (rw [if_pos h3, if_pos (by omega)]); (rw [if_neg h3, if_neg (by omega)]))) (fun q hq => by rw [eI7, xup_row _ _ hq]; exact hr q hq)
    refine x_sub [(0, .ref A), (1, .int 0)] [1, 0] rfl ?_
    exact loop10 475 0 I (by omega) (by omega) (fun j => (if_neg (by omega)).symm) (fun _ _ => rfl)
theorem dX12_undo_0 : decode cX12_undo 0 = .ok (.aload_n 0, 1) := by decide +kernel
theorem dX12_undo_1 : decode cX12_undo 1 = .ok (.getfield 75, 3) := by decide +kernel
theorem dX12_undo_4 : decode cX12_undo 4 = .ok (.ifCond .ne 6, 3) := by decide +kernel
theorem dX12_undo_7 : decode cX12_undo 7 = .ok (.ldc 199, 2) := by decide +kernel
theorem dX12_undo_9 : decode cX12_undo 9 = .ok (.ireturn, 1) := by decide +kernel
theorem dX12_undo_10 : decode cX12_undo 10 = .ok (.aload_n 0, 1) := by decide +kernel
theorem dX12_undo_11 : decode cX12_undo 11 = .ok (.dup, 1) := by decide +kernel
theorem dX12_undo_12 : decode cX12_undo 12 = .ok (.getfield 75, 3) := by decide +kernel
theorem dX12_undo_15 : decode cX12_undo 15 = .ok (.iconst 1, 1) := by decide +kernel
theorem dX12_undo_16 : decode cX12_undo 16 = .ok (.isub, 1) := by decide +kernel
theorem dX12_undo_17 : decode cX12_undo 17 = .ok (.putfield 75, 3) := by decide +kernel
theorem dX12_undo_20 : decode cX12_undo 20 = .ok (.iconst 0, 1) := by decide +kernel
theorem dX12_undo_21 : decode cX12_undo 21 = .ok (.istore_n 1, 1) := by decide +kernel
theorem dX12_undo_22 : decode cX12_undo 22 = .ok (.iload_n 1, 1) := by decide +kernel
theorem dX12_undo_23 : decode cX12_undo 23 = .ok (.sipush 158, 3) := by decide +kernel
theorem dX12_undo_26 : decode cX12_undo 26 = .ok (.if_icmp .ge 30, 3) := by decide +kernel
theorem dX12_undo_29 : decode cX12_undo 29 = .ok (.aload_n 0, 1) := by decide +kernel
theorem dX12_undo_30 : decode cX12_undo 30 = .ok (.getfield 7, 3) := by decide +kernel
theorem dX12_undo_33 : decode cX12_undo 33 = .ok (.iload_n 1, 1) := by decide +kernel
theorem dX12_undo_34 : decode cX12_undo 34 = .ok (.aload_n 0, 1) := by decide +kernel
theorem dX12_undo_35 : decode cX12_undo 35 = .ok (.getfield 13, 3) := by decide +kernel
theorem dX12_undo_38 : decode cX12_undo 38 = .ok (.sipush 158, 3) := by decide +kernel
theorem dX12_undo_41 : decode cX12_undo 41 = .ok (.aload_n 0, 1) := by decide +kernel
theorem dX12_undo_42 : decode cX12_undo 42 = .ok (.getfield 75, 3) := by decide +kernel
theorem dX12_undo_45 : decode cX12_undo 45 = .ok (.imul, 1) := by decide +kernel
theorem dX12_undo_46 : decode cX12_undo 46 = .ok (.iload_n 1, 1) := by decide +kernel
theorem dX12_undo_47 : decode cX12_undo 47 = .ok (.iadd, 1) := by decide +kernel
theorem dX12_undo_48 : decode cX12_undo 48 = .ok (.iaload, 1) := by decide +kernel
theorem dX12_undo_49 : decode cX12_undo 49 = .ok (.iastore, 1) := by decide +kernel
theorem dX12_undo_50 : decode cX12_undo 50 = .ok (.iinc 1 1, 3) := by decide +kernel
theorem dX12_undo_53 : decode cX12_undo 53 = .ok (.goto (-31), 3) := by decide +kernel
theorem dX12_undo_56 : decode cX12_undo 56 = .ok (.aload_n 0, 1) := by decide +kernel
theorem dX12_undo_57 : decode cX12_undo 57 = .ok (.getfield 75, 3) := by decide +kernel
theorem dX12_undo_60 : decode cX12_undo 60 = .ok (.ireturn, 1) := by decide +kernel
set_option maxHeartbeats 1000000 in
set_option maxRecDepth 100000 in
theorem t_X12_undo_0 (l : Launch) (D : xD) (z n : Nat) (G : xG) (I : xI) (L : xL) (A : Nat) (hM : shMo G A) (hZ : I A 2 = nI 0) : xM0 l D z yX12_undo cX12_undo 2 (some .int) 0 0 [.ref A] n G I L (xE (some (.int (-2000000002))) I L) := by
  refine xM.of (by decide) (Nat.le_of_ble_eq_true rfl) (fun p e s m args below meth c C hnm hsz => ?_)
  refine x_lv [(0, .ref A)] rfl ?_
  refine x_aload_n 0 C dX12_undo_0 rfl 0 rfl ?_
  refine x_geti 1 C dX12_undo_1 ff_X12_75 hM.1 ?_
  refine x_int 0 hZ ?_
  refine x_if_ne 4 C 10 dX12_undo_4 (by decide) (fun c1 => absurd (by decide) c1) (fun _ => ?_)
  refine x_ldc 7 C (-2000000002) dX12_undo_7 kk_X12_199 ?_
  refine x_iret 9 C dX12_undo_9 rfl rfl (Nat.le_refl _) (xN.intro ?_)
  exact ⟨rfl, rfl, rfl⟩
set_option maxHeartbeats 1000000 in
set_option maxRecDepth 100000 in
theorem t_X12_undo (l : Launch) (D : xD) (z n : Nat) (G : xG) (I : xI) (L : xL) (A : Nat) (Z : Nat) (hM : shMo G A) (zA : z ≤ A) (hZ : I A 2 = nI Z) (hZ4 : Z ≤ 4) (hZ1 : 1 ≤ Z) : xM0 l D z yX12_undo cX12_undo 2 (some .int) 0 0 [.ref A] n G I L (fun v' I' L' => v' = (some (.int (nI (Z - 1)))) ∧ L' = L ∧ (I' A 2 = nI (Z - 1)) ∧ (∀ j, j < 158 → I' (A + 1) j = I (A + 2) (158 * (Z - 1) + j)) ∧ (∀ q, q ≠ A → q ≠ A + 1 → I' q = I q) ∧ (∀ j, j ≠ 2 → I' A j = I A j)) := by
  refine xM.of (by decide) (Nat.le_of_ble_eq_true rfl) (fun p e s m args below meth c C hnm hsz => ?_)
  refine x_lv [(0, .ref A)] rfl ?_
  refine x_aload_n 0 C dX12_undo_0 rfl 0 rfl ?_
  refine x_geti 1 C dX12_undo_1 ff_X12_75 hM.1 ?_
  refine x_int (nI Z) hZ ?_
  refine x_if_ne 4 C 10 dX12_undo_4 (by decide) (fun _ => ?_) (fun c1 => absurd c1 (fun h => absurd ((nI_eq (a := Z) (b := 0) (by omega) (by omega)).mp h) (by omega)))
  refine x_aload_n 10 C dX12_undo_10 rfl 0 rfl ?_
  refine x_dup 11 C dX12_undo_11 rfl ?_
  refine x_geti 12 C dX12_undo_12 ff_X12_75 hM.1 ?_
  refine x_int (nI Z) hZ ?_
  refine x_iconst 15 C (v := 1) dX12_undo_15 rfl ?_
  refine x_isub 16 C dX12_undo_16 ?_
  refine x_int (nI (Z - 1)) (nI_sub (a := Z) (b := 1) (by omega)) ?_
  refine x_puti 17 C dX12_undo_17 ff_X12_75 rfl hM.1 (by omega) (fun I2 eI2 => ?_)
  have hz2 : I2 A 2 = nI (Z - 1) := by rw [eI2, xup_self]
  have hz3 : ∀ q, q ≠ A → I2 q = I q := fun q hq => by rw [eI2, xup_row _ _ hq]
  have hz4 : ∀ j, j ≠ 2 → I2 A j = I A j := fun j hj => by rw [eI2, xup_ne _ _ (fun h => hj h.2)]
  refine x_iconst 20 C (v := 0) dX12_undo_20 rfl ?_
  refine x_istore_n 21 C [(1, .int 0), (0, .ref A)] dX12_undo_21 rfl (by decide) rfl ?_
  have loop22 : ∀ (fuel : Nat) (i : Nat) (Im : xI), (i ≤ 158) → (159 ≤ i + fuel) → (∀ j, Im (A + 1) j = if 0 ≤ j ∧ j < 0 + i then I (A + 2) (158 * (Z - 1) + j) else I2 (A + 1) j) → (∀ q, q ≠ A + 1 → Im q = I2 q) → X p l e (xRm 0 0 0 0) s m args below meth c D z 2 (MQ below (xQc D z n (xN n G (fun v' I' L' => v' = (some (.int (nI (Z - 1)))) ∧ L' = L ∧ (I' A 2 = nI (Z - 1)) ∧ (∀ j, j < 158 → I' (A + 1) j = I (A + 2) (158 * (Z - 1) + j)) ∧ (∀ q, q ≠ A → q ≠ A + 1 → I' q = I q) ∧ (∀ j, j ≠ 2 → I' A j = I A j)))) args s 0 0 (fun a => z ≤ a)) 0 0 n G Im L 22 [(0, .ref A), (1, .int (nI i))] [] := by
    intro fuel
    induction fuel with
    | zero =>
      intro i Im hi hf2 h22 hr2
      exact absurd hf2 (by omega)
    | succ fuel ih =>
      intro i Im hi hf2 h22 hr2
      refine x_iload_n 22 C dX12_undo_22 rfl 1 rfl ?_
      refine x_sipush 23 C (v := 158) dX12_undo_23 rfl ?_
      refine x_icmp_ge 26 C 56 dX12_undo_26 (by decide) (fun c3 => ?_) (fun c3 => ?_)
      · skip
        have c3n : 158 ≤ i := (nI_leI (a := 158) (b := i) (by omega) (by omega)).mp c3
        have c3m : ¬ (i < 158) := by omega
        have c3o := Int32.not_lt.mpr c3
        refine x_aload_n 56 C dX12_undo_56 rfl 0 rfl ?_
        refine x_geti 57 C dX12_undo_57 ff_X12_75 hM.1 ?_
        refine x_int (nI (Z - 1)) (by rw [hr2 A (by omega)]; exact hz2) ?_
        refine x_iret 60 C dX12_undo_60 rfl rfl (Nat.le_refl _) (xN.intro ?_)
        have hi8 : i = 158 := by omega
        subst hi8
        exact ⟨rfl, rfl, by rw [hr2 A (by omega)]; exact hz2, fun j hj => by rw [h22, if_pos (by omega)], fun q h0 h1 => by rw [hr2 q h1]; exact hz3 q h0, fun j hj => by rw [hr2 A (by omega)]; exact hz4 j hj⟩
      · skip
        have c3n : ¬ (158 ≤ i) := fun h => c3 ((nI_leI (a := 158) (b := i) (by omega) (by omega)).mpr h)
        have c3m : i < 158 := by omega
        have c3o := Int32.not_le.mp c3
        refine x_aload_n 29 C dX12_undo_29 rfl 0 rfl ?_
        refine x_getr 30 C (b := A + 1) dX12_undo_30 ff_X12_7 rfl hM.1 rfl ?_
        refine x_iload_n 33 C dX12_undo_33 rfl 1 rfl ?_
        refine x_aload_n 34 C dX12_undo_34 rfl 0 rfl ?_
        refine x_getr 35 C (b := A + 2) dX12_undo_35 ff_X12_13 rfl hM.1 rfl ?_
        refine x_sipush 38 C (v := 158) dX12_undo_38 rfl ?_
        refine x_aload_n 41 C dX12_undo_41 rfl 0 rfl ?_
        refine x_geti 42 C dX12_undo_42 ff_X12_75 hM.1 ?_
        refine x_int (nI (Z - 1)) (by rw [hr2 A (by omega)]; exact hz2) ?_
        refine x_imul 45 C dX12_undo_45 ?_
        refine x_int (nI (158 * (Z - 1))) (nI_mul 158 (Z - 1)) ?_
        refine x_iload_n 46 C dX12_undo_46 rfl 1 rfl ?_
        refine x_iadd 47 C dX12_undo_47 ?_
        refine x_int (nI (158 * (Z - 1) + i)) (nI_add (158 * (Z - 1)) i) ?_
        refine x_iald 48 C (j := (158 * (Z - 1) + i)) dX12_undo_48 hM.2.2.1 (xIx_nI (by omega) (by decide)) ?_
        refine x_int (I (A + 2) (158 * (Z - 1) + i)) (by rw [hr2 _ (by omega), hz3 _ (by omega)]) ?_
        refine x_iast 49 C (j := i) dX12_undo_49 hM.2.1 (by omega) (xIx_nI (by omega) (by decide)) (fun I4 eI4 => ?_)
        refine x_iinc 50 C [(1, .int (nI (i + 1))), (0, .ref A)] dX12_undo_50 1 rfl (nI_add i 1) (by decide) rfl ?_
        refine x_goto 53 C 22 dX12_undo_53 (by decide) ?_
        refine x_sub [(0, .ref A), (1, .int (nI (i + 1)))] [1, 0] rfl ?_
        exact ih (i + 1) I4 (by omega) (by omega) (fun j => by rw [eI4, xup_at]; by_cases h : j = 0 + i; (rw [if_pos (by omega), if_pos (by omega)]; (first | rfl | (congr 1; omega))); (rw [if_neg (by omega), h22]; by_cases h3 : 0 ≤ j ∧ j < 0 + i; (rw [if_pos h3, if_pos (by omega)]); (rw [if_neg h3, if_neg (by omega)]))) (fun q hq => by rw [eI4, xup_row _ _ hq]; exact hr2 q hq)
  refine x_sub [(0, .ref A), (1, .int 0)] [1, 0] rfl ?_
  exact loop22 159 0 I2 (by omega) (by omega) (fun j => (if_neg (by omega)).symm) (fun _ _ => rfl)
theorem dX12_save_0 : decode cX12_save 0 = .ok (.iload_n 1, 1) := by decide +kernel
theorem dX12_save_1 : decode cX12_save 1 = .ok (.iconst 0, 1) := by decide +kernel
theorem dX12_save_2 : decode cX12_save 2 = .ok (.iconst 1, 1) := by decide +kernel
theorem dX12_save_3 : decode cX12_save 3 = .ok (.invokestatic 71, 3) := by decide +kernel
theorem dX12_save_6 : decode cX12_save 6 = .ok (.ifCond .ne 6, 3) := by decide +kernel
theorem dX12_save_9 : decode cX12_save 9 = .ok (.ldc 198, 2) := by decide +kernel
theorem dX12_save_11 : decode cX12_save 11 = .ok (.ireturn, 1) := by decide +kernel
theorem dX12_save_12 : decode cX12_save 12 = .ok (.iconst 0, 1) := by decide +kernel
theorem dX12_save_13 : decode cX12_save 13 = .ok (.istore_n 2, 1) := by decide +kernel
theorem dX12_save_14 : decode cX12_save 14 = .ok (.iload_n 2, 1) := by decide +kernel
theorem dX12_save_15 : decode cX12_save 15 = .ok (.sipush 158, 3) := by decide +kernel
theorem dX12_save_18 : decode cX12_save 18 = .ok (.if_icmp .ge 27, 3) := by decide +kernel
theorem dX12_save_21 : decode cX12_save 21 = .ok (.aload_n 0, 1) := by decide +kernel
theorem dX12_save_22 : decode cX12_save 22 = .ok (.getfield 16, 3) := by decide +kernel
theorem dX12_save_25 : decode cX12_save 25 = .ok (.sipush 158, 3) := by decide +kernel
theorem dX12_save_28 : decode cX12_save 28 = .ok (.iload_n 1, 1) := by decide +kernel
theorem dX12_save_29 : decode cX12_save 29 = .ok (.imul, 1) := by decide +kernel
theorem dX12_save_30 : decode cX12_save 30 = .ok (.iload_n 2, 1) := by decide +kernel
theorem dX12_save_31 : decode cX12_save 31 = .ok (.iadd, 1) := by decide +kernel
theorem dX12_save_32 : decode cX12_save 32 = .ok (.aload_n 0, 1) := by decide +kernel
theorem dX12_save_33 : decode cX12_save 33 = .ok (.getfield 7, 3) := by decide +kernel
theorem dX12_save_36 : decode cX12_save 36 = .ok (.iload_n 2, 1) := by decide +kernel
theorem dX12_save_37 : decode cX12_save 37 = .ok (.iaload, 1) := by decide +kernel
theorem dX12_save_38 : decode cX12_save 38 = .ok (.iastore, 1) := by decide +kernel
theorem dX12_save_39 : decode cX12_save 39 = .ok (.iinc 2 1, 3) := by decide +kernel
theorem dX12_save_42 : decode cX12_save 42 = .ok (.goto (-28), 3) := by decide +kernel
theorem dX12_save_45 : decode cX12_save 45 = .ok (.aload_n 0, 1) := by decide +kernel
theorem dX12_save_46 : decode cX12_save 46 = .ok (.getfield 19, 3) := by decide +kernel
theorem dX12_save_49 : decode cX12_save 49 = .ok (.iload_n 1, 1) := by decide +kernel
theorem dX12_save_50 : decode cX12_save 50 = .ok (.iconst 1, 1) := by decide +kernel
theorem dX12_save_51 : decode cX12_save 51 = .ok (.bastore, 1) := by decide +kernel
theorem dX12_save_52 : decode cX12_save 52 = .ok (.aload_n 0, 1) := by decide +kernel
theorem dX12_save_53 : decode cX12_save 53 = .ok (.invokevirtual 67, 3) := by decide +kernel
theorem dX12_save_56 : decode cX12_save 56 = .ok (.ireturn, 1) := by decide +kernel
set_option maxHeartbeats 1000000 in
set_option maxRecDepth 100000 in
theorem t_X12_save (l : Launch) (D : xD) (z n : Nat) (G : xG) (I : xI) (L : xL) (A : Nat) (k : Nat) (dx : Nat) (dy : Nat) (hM : shMo G A) (zA : z ≤ A) (hk : k < 2) (hdx : I (A + 1) 40 = nI dx) (hdy : I (A + 1) 41 = nI dy) (hd3 : dx * dy ≤ 9) : xM0 l D z yX12_save cX12_save 3 (some .int) 1 22 [.ref A, .int (nI k)] n G I L (fun v' I' L' => v' = (some (.int (nI (dx * dy)))) ∧ L' = L ∧ (∀ j, j < 158 → I' (A + 3) (158 * k + j) = I (A + 1) j) ∧ (∀ j, (j < 158 * k ∨ 158 * k + 158 ≤ j) → I' (A + 3) j = I (A + 3) j) ∧ (∀ j, I' (A + 4) j = if j = k then 1 else I (A + 4) j) ∧ (∀ q, q ≠ A + 3 → q ≠ A + 4 → I' q = I q)) := by
  refine xM.of (by decide) (Nat.le_of_ble_eq_true rfl) (fun p e s m args below meth c C hnm hsz => ?_)
  refine x_lv [(0, .ref A), (1, .int (nI k))] rfl ?_
  refine x_iload_n 0 C dX12_save_0 rfl 1 rfl ?_
  refine x_iconst 1 C (v := 0) dX12_save_1 rfl ?_
  refine x_iconst 2 C (v := 1) dX12_save_2 rfl ?_
  refine x_callSe 3 C dX12_save_3 (As := [.int (nI k), .int 0, .int 1]) (rest := []) [.int (bI (decide (0 ≤ k) && decide (k ≤ 1)))] (t_X12_in_n l D z n G I L k 0 1 (by first | omega | assumption | decide) (by first | omega | assumption | decide) (by first | omega | assumption | decide)) mt_X12_in km_X12_71 kt_X12_in rfl rfl (Nat.le_of_ble_eq_true rfl) ⟨⟨by decide, by decide⟩, by decide, by decide⟩ (fun I1 L2 eI1 eL2 => ?_)
  replace eI1 := eI1.symm; subst eI1
  replace eL2 := eL2.symm; subst eL2
  refine x_int 1 (by simp [bI]; omega) ?_
  refine x_if_ne 6 C 12 dX12_save_6 (by decide) (fun _ => ?_) (fun c3 => absurd c3 (by decide))
  refine x_iconst 12 C (v := 0) dX12_save_12 rfl ?_
  refine x_istore_n 13 C [(2, .int 0), (0, .ref A), (1, .int (nI k))] dX12_save_13 rfl (by decide) rfl ?_
  have loop14 : ∀ (fuel : Nat) (i : Nat) (Im : xI), (i ≤ 158) → (159 ≤ i + fuel) → (∀ j, Im (A + 3) j = if 158 * k ≤ j ∧ j < 158 * k + i then I (A + 1) (j - 158 * k) else I (A + 3) j) → (∀ q, q ≠ A + 3 → Im q = I q) → X p l e (xRm 1 22 0 0) s m args below meth c D z 3 (MQ below (xQc D z n (xN n G (fun v' I' L' => v' = (some (.int (nI (dx * dy)))) ∧ L' = L ∧ (∀ j, j < 158 → I' (A + 3) (158 * k + j) = I (A + 1) j) ∧ (∀ j, (j < 158 * k ∨ 158 * k + 158 ≤ j) → I' (A + 3) j = I (A + 3) j) ∧ (∀ j, I' (A + 4) j = if j = k then 1 else I (A + 4) j) ∧ (∀ q, q ≠ A + 3 → q ≠ A + 4 → I' q = I q)))) args s 0 0 (fun a => z ≤ a)) 0 0 n G Im L 14 [(0, .ref A), (1, .int (nI k)), (2, .int (nI i))] [] := by
    intro fuel
    induction fuel with
    | zero =>
      intro i Im hi hf2 h22 hr2
      exact absurd hf2 (by omega)
    | succ fuel ih =>
      intro i Im hi hf2 h22 hr2
      refine x_iload_n 14 C dX12_save_14 rfl 2 rfl ?_
      refine x_sipush 15 C (v := 158) dX12_save_15 rfl ?_
      refine x_icmp_ge 18 C 45 dX12_save_18 (by decide) (fun c4 => ?_) (fun c4 => ?_)
      · skip
        have c4n : 158 ≤ i := (nI_leI (a := 158) (b := i) (by omega) (by omega)).mp c4
        have c4m : ¬ (i < 158) := by omega
        have c4o := Int32.not_lt.mpr c4
        refine x_aload_n 45 C dX12_save_45 rfl 0 rfl ?_
        refine x_getr 46 C (b := A + 4) dX12_save_46 ff_X12_19 rfl hM.1 rfl ?_
        refine x_iload_n 49 C dX12_save_49 rfl 1 rfl ?_
        refine x_iconst 50 C (v := 1) dX12_save_50 rfl ?_
        refine x_zast 51 C (j := k) dX12_save_51 rfl hM.2.2.2.2.1 (by omega) (xIx_nI (by omega) (by decide)) (fun I5 eI5 => ?_)
        refine x_aload_n 52 C dX12_save_52 rfl 0 rfl ?_
        refine x_callVe 53 C dX12_save_53 (As := []) (rest := []) [.int (nI (dx * dy))] (t_X12_paths l D z n G I5 L A dx dy hM (by rw [eI5, xup_row _ _ (by omega), hr2 _ (by omega)]; exact hdx) (by rw [eI5, xup_row _ _ (by omega), hr2 _ (by omega)]; exact hdy)) mt_X12_paths km_X12_67 ki_X12_paths ks_X12_paths hM.1 ⟨by decide, rfl⟩ rfl rfl (Nat.le_of_ble_eq_true rfl) ⟨⟨by decide, by decide⟩, by decide, by decide⟩ (fun I6 L7 eI6 eL7 => ?_)
        replace eI6 := eI6.symm; subst eI6
        replace eL7 := eL7.symm; subst eL7
        refine x_iret 56 C dX12_save_56 rfl rfl (Nat.le_refl _) (xN.intro ?_)
        have hi8 : i = 158 := by omega
        subst hi8
        exact ⟨rfl, rfl, fun j hj => by rw [eI5, xup_row _ _ (by omega), h22, if_pos (by omega), show 158 * k + j - 158 * k = j by omega], fun j hj => by rw [eI5, xup_row _ _ (by omega), h22, if_neg (by omega)], fun j => by rw [eI5, xup_at, hr2 _ (by omega)], fun q h3 h4 => by rw [eI5, xup_row _ _ h4]; exact hr2 q h3⟩
      · skip
        have c4n : ¬ (158 ≤ i) := fun h => c4 ((nI_leI (a := 158) (b := i) (by omega) (by omega)).mpr h)
        have c4m : i < 158 := by omega
        have c4o := Int32.not_le.mp c4
        refine x_aload_n 21 C dX12_save_21 rfl 0 rfl ?_
        refine x_getr 22 C (b := A + 3) dX12_save_22 ff_X12_16 rfl hM.1 rfl ?_
        refine x_sipush 25 C (v := 158) dX12_save_25 rfl ?_
        refine x_iload_n 28 C dX12_save_28 rfl 1 rfl ?_
        refine x_imul 29 C dX12_save_29 ?_
        refine x_int (nI (158 * k)) (nI_mul 158 k) ?_
        refine x_iload_n 30 C dX12_save_30 rfl 2 rfl ?_
        refine x_iadd 31 C dX12_save_31 ?_
        refine x_int (nI (158 * k + i)) (nI_add (158 * k) i) ?_
        refine x_aload_n 32 C dX12_save_32 rfl 0 rfl ?_
        refine x_getr 33 C (b := A + 1) dX12_save_33 ff_X12_7 rfl hM.1 rfl ?_
        refine x_iload_n 36 C dX12_save_36 rfl 2 rfl ?_
        refine x_iald 37 C (j := i) dX12_save_37 hM.2.1 (xIx_nI (by omega) (by decide)) ?_
        refine x_int (I (A + 1) i) (by rw [hr2 _ (by omega)]) ?_
        refine x_iast 38 C (j := (158 * k + i)) dX12_save_38 hM.2.2.2.1 (by omega) (xIx_nI (by omega) (by decide)) (fun I8 eI8 => ?_)
        refine x_iinc 39 C [(2, .int (nI (i + 1))), (0, .ref A), (1, .int (nI k))] dX12_save_39 2 rfl (nI_add i 1) (by decide) rfl ?_
        refine x_goto 42 C 14 dX12_save_42 (by decide) ?_
        refine x_sub [(0, .ref A), (1, .int (nI k)), (2, .int (nI (i + 1)))] [1, 2, 0] rfl ?_
        exact ih (i + 1) I8 (by omega) (by omega) (fun j => by rw [eI8, xup_at]; by_cases h : j = 158 * k + i; (rw [if_pos (by omega), if_pos (by omega)]; (first | rfl | (congr 1; omega))); (rw [if_neg (by omega), h22]; by_cases h3 : 158 * k ≤ j ∧ j < 158 * k + i; (rw [if_pos h3, if_pos (by omega)]); (rw [if_neg h3, if_neg (by omega)]))) (fun q hq => by rw [eI8, xup_row _ _ hq]; exact hr2 q hq)
  refine x_sub [(0, .ref A), (1, .int (nI k)), (2, .int 0)] [1, 2, 0] rfl ?_
  exact loop14 159 0 I (by omega) (by omega) (fun j => (if_neg (by omega)).symm) (fun _ _ => rfl)
theorem dX12_restore_0 : decode cX12_restore 0 = .ok (.iload_n 1, 1) := by decide +kernel
theorem dX12_restore_1 : decode cX12_restore 1 = .ok (.iconst 0, 1) := by decide +kernel
theorem dX12_restore_2 : decode cX12_restore 2 = .ok (.iconst 1, 1) := by decide +kernel
theorem dX12_restore_3 : decode cX12_restore 3 = .ok (.invokestatic 71, 3) := by decide +kernel
theorem dX12_restore_6 : decode cX12_restore 6 = .ok (.ifCond .ne 6, 3) := by decide +kernel
theorem dX12_restore_9 : decode cX12_restore 9 = .ok (.ldc 198, 2) := by decide +kernel
theorem dX12_restore_11 : decode cX12_restore 11 = .ok (.ireturn, 1) := by decide +kernel
theorem dX12_restore_12 : decode cX12_restore 12 = .ok (.aload_n 0, 1) := by decide +kernel
theorem dX12_restore_13 : decode cX12_restore 13 = .ok (.getfield 19, 3) := by decide +kernel
theorem dX12_restore_16 : decode cX12_restore 16 = .ok (.iload_n 1, 1) := by decide +kernel
theorem dX12_restore_17 : decode cX12_restore 17 = .ok (.baload, 1) := by decide +kernel
theorem dX12_restore_18 : decode cX12_restore 18 = .ok (.ifCond .ne 6, 3) := by decide +kernel
theorem dX12_restore_21 : decode cX12_restore 21 = .ok (.ldc 199, 2) := by decide +kernel
theorem dX12_restore_23 : decode cX12_restore 23 = .ok (.ireturn, 1) := by decide +kernel
theorem dX12_restore_24 : decode cX12_restore 24 = .ok (.aload_n 0, 1) := by decide +kernel
theorem dX12_restore_25 : decode cX12_restore 25 = .ok (.invokevirtual 200, 3) := by decide +kernel
theorem dX12_restore_28 : decode cX12_restore 28 = .ok (.iconst 0, 1) := by decide +kernel
theorem dX12_restore_29 : decode cX12_restore 29 = .ok (.istore_n 2, 1) := by decide +kernel
theorem dX12_restore_30 : decode cX12_restore 30 = .ok (.iload_n 2, 1) := by decide +kernel
theorem dX12_restore_31 : decode cX12_restore 31 = .ok (.sipush 158, 3) := by decide +kernel
theorem dX12_restore_34 : decode cX12_restore 34 = .ok (.if_icmp .ge 27, 3) := by decide +kernel
theorem dX12_restore_37 : decode cX12_restore 37 = .ok (.aload_n 0, 1) := by decide +kernel
theorem dX12_restore_38 : decode cX12_restore 38 = .ok (.getfield 7, 3) := by decide +kernel
theorem dX12_restore_41 : decode cX12_restore 41 = .ok (.iload_n 2, 1) := by decide +kernel
theorem dX12_restore_42 : decode cX12_restore 42 = .ok (.aload_n 0, 1) := by decide +kernel
theorem dX12_restore_43 : decode cX12_restore 43 = .ok (.getfield 16, 3) := by decide +kernel
theorem dX12_restore_46 : decode cX12_restore 46 = .ok (.sipush 158, 3) := by decide +kernel
theorem dX12_restore_49 : decode cX12_restore 49 = .ok (.iload_n 1, 1) := by decide +kernel
theorem dX12_restore_50 : decode cX12_restore 50 = .ok (.imul, 1) := by decide +kernel
theorem dX12_restore_51 : decode cX12_restore 51 = .ok (.iload_n 2, 1) := by decide +kernel
theorem dX12_restore_52 : decode cX12_restore 52 = .ok (.iadd, 1) := by decide +kernel
theorem dX12_restore_53 : decode cX12_restore 53 = .ok (.iaload, 1) := by decide +kernel
theorem dX12_restore_54 : decode cX12_restore 54 = .ok (.iastore, 1) := by decide +kernel
theorem dX12_restore_55 : decode cX12_restore 55 = .ok (.iinc 2 1, 3) := by decide +kernel
theorem dX12_restore_58 : decode cX12_restore 58 = .ok (.goto (-28), 3) := by decide +kernel
theorem dX12_restore_61 : decode cX12_restore 61 = .ok (.aload_n 0, 1) := by decide +kernel
theorem dX12_restore_62 : decode cX12_restore 62 = .ok (.invokevirtual 67, 3) := by decide +kernel
theorem dX12_restore_65 : decode cX12_restore 65 = .ok (.ireturn, 1) := by decide +kernel
set_option maxHeartbeats 1000000 in
set_option maxRecDepth 100000 in
theorem t_X12_restore (l : Launch) (D : xD) (z n : Nat) (G : xG) (I : xI) (L : xL) (A : Nat) (k : Nat) (Z : Nat) (dx : Nat) (dy : Nat) (hM : shMo G A) (zA : z ≤ A) (hk : k < 2) (hZ : I A 2 = nI Z) (hZ4 : Z ≤ 4) (hkf : ¬ I (A + 4) k = 0) (hdx : I (A + 3) (158 * k + 40) = nI dx) (hdy : I (A + 3) (158 * k + 41) = nI dy) (hd3 : dx * dy ≤ 9) : xM0 l D z yX12_restore cX12_restore 3 (some .int) 1 22 [.ref A, .int (nI k)] n G I L (fun v' I' L' => v' = (some (.int (nI (dx * dy)))) ∧ L' = L ∧ (mrec I A Z I') ∧ (∀ j, j < 158 → I' (A + 1) j = I (A + 3) (158 * k + j)) ∧ (∀ q, q ≠ A → q ≠ A + 1 → q ≠ A + 2 → I' q = I q) ∧ (∀ j, j ≠ 2 → I' A j = I A j)) := by
  refine xM.of (by decide) (Nat.le_of_ble_eq_true rfl) (fun p e s m args below meth c C hnm hsz => ?_)
  refine x_lv [(0, .ref A), (1, .int (nI k))] rfl ?_
  refine x_iload_n 0 C dX12_restore_0 rfl 1 rfl ?_
  refine x_iconst 1 C (v := 0) dX12_restore_1 rfl ?_
  refine x_iconst 2 C (v := 1) dX12_restore_2 rfl ?_
  refine x_callSe 3 C dX12_restore_3 (As := [.int (nI k), .int 0, .int 1]) (rest := []) [.int (bI (decide (0 ≤ k) && decide (k ≤ 1)))] (t_X12_in_n l D z n G I L k 0 1 (by first | omega | assumption | decide) (by first | omega | assumption | decide) (by first | omega | assumption | decide)) mt_X12_in km_X12_71 kt_X12_in rfl rfl (Nat.le_of_ble_eq_true rfl) ⟨⟨by decide, by decide⟩, by decide, by decide⟩ (fun I1 L2 eI1 eL2 => ?_)
  replace eI1 := eI1.symm; subst eI1
  replace eL2 := eL2.symm; subst eL2
  refine x_int 1 (by simp [bI]; omega) ?_
  refine x_if_ne 6 C 12 dX12_restore_6 (by decide) (fun _ => ?_) (fun c3 => absurd c3 (by decide))
  refine x_aload_n 12 C dX12_restore_12 rfl 0 rfl ?_
  refine x_getr 13 C (b := A + 4) dX12_restore_13 ff_X12_19 rfl hM.1 rfl ?_
  refine x_iload_n 16 C dX12_restore_16 rfl 1 rfl ?_
  refine x_zald 17 C (j := k) dX12_restore_17 hM.2.2.2.2.1 (xIx_nI (by omega) (by decide)) ?_
  refine x_if_ne 18 C 24 dX12_restore_18 (by decide) (fun _ => ?_) (fun c4 => absurd c4 hkf)
  refine x_aload_n 24 C dX12_restore_24 rfl 0 rfl ?_
  refine x_callVp 25 C dX12_restore_25 (As := []) (rest := []) (t_X12_save0 l D z n G I L A Z hM (by omega) (by first | assumption | omega | decide) (by first | omega | assumption | decide)) mt_X12_save0 km_X12_200 ki_X12_save0 ks_X12_save0 hM.1 ⟨by decide, rfl⟩ rfl (Nat.le_of_ble_eq_true rfl) ⟨⟨by decide, by decide⟩, by decide, by decide⟩ (fun w5 I6 L7 hw5 => ?_)
  obtain ⟨hw5v, eL7, hw5r0, hw5r1, hw5r2⟩ := hw5
  subst hw5v
  refine x_st [] rfl ?_
  replace eL7 := eL7.symm; subst eL7
  refine x_iconst 28 C (v := 0) dX12_restore_28 rfl ?_
  refine x_istore_n 29 C [(2, .int 0), (0, .ref A), (1, .int (nI k))] dX12_restore_29 rfl (by decide) rfl ?_
  have loop30 : ∀ (fuel : Nat) (i : Nat) (Im : xI), (i ≤ 158) → (159 ≤ i + fuel) → (∀ j, Im (A + 1) j = if 0 ≤ j ∧ j < 0 + i then I (A + 3) (158 * k + j) else I6 (A + 1) j) → (∀ q, q ≠ A + 1 → Im q = I6 q) → X p l e (xRm 1 22 0 0) s m args below meth c D z 3 (MQ below (xQc D z n (xN n G (fun v' I' L' => v' = (some (.int (nI (dx * dy)))) ∧ L' = L ∧ (mrec I A Z I') ∧ (∀ j, j < 158 → I' (A + 1) j = I (A + 3) (158 * k + j)) ∧ (∀ q, q ≠ A → q ≠ A + 1 → q ≠ A + 2 → I' q = I q) ∧ (∀ j, j ≠ 2 → I' A j = I A j)))) args s 0 0 (fun a => z ≤ a)) 0 0 n G Im L 30 [(0, .ref A), (1, .int (nI k)), (2, .int (nI i))] [] := by
    intro fuel
    induction fuel with
    | zero =>
      intro i Im hi hf2 h22 hr2
      exact absurd hf2 (by omega)
    | succ fuel ih =>
      intro i Im hi hf2 h22 hr2
      refine x_iload_n 30 C dX12_restore_30 rfl 2 rfl ?_
      refine x_sipush 31 C (v := 158) dX12_restore_31 rfl ?_
      refine x_icmp_ge 34 C 61 dX12_restore_34 (by decide) (fun c8 => ?_) (fun c8 => ?_)
      · skip
        have c8n : 158 ≤ i := (nI_leI (a := 158) (b := i) (by omega) (by omega)).mp c8
        have c8m : ¬ (i < 158) := by omega
        have c8o := Int32.not_lt.mpr c8
        refine x_aload_n 61 C dX12_restore_61 rfl 0 rfl ?_
        refine x_callVe 62 C dX12_restore_62 (As := []) (rest := []) [.int (nI (dx * dy))] (t_X12_paths l D z n G Im L A dx dy hM (by rw [h22, if_pos (by omega)]; exact hdx) (by rw [h22, if_pos (by omega)]; exact hdy)) mt_X12_paths km_X12_67 ki_X12_paths ks_X12_paths hM.1 ⟨by decide, rfl⟩ rfl rfl (Nat.le_of_ble_eq_true rfl) ⟨⟨by decide, by decide⟩, by decide, by decide⟩ (fun I9 L10 eI9 eL10 => ?_)
        replace eI9 := eI9.symm; subst eI9
        replace eL10 := eL10.symm; subst eL10
        refine x_iret 65 C dX12_restore_65 rfl rfl (Nat.le_refl _) (xN.intro ?_)
        have hi8 : i = 158 := by omega
        subst hi8
        exact ⟨rfl, rfl, mrec_congr (by rw [hr2 A (by omega)]) (hr2 _ (by omega)) hw5r0, fun j hj => by rw [h22, if_pos (by omega)], fun q h0 h1 h2 => by rw [hr2 q h1]; exact hw5r1 q h0 h2, fun j hj => by rw [hr2 A (by omega)]; exact hw5r2 j hj⟩
      · skip
        have c8n : ¬ (158 ≤ i) := fun h => c8 ((nI_leI (a := 158) (b := i) (by omega) (by omega)).mpr h)
        have c8m : i < 158 := by omega
        have c8o := Int32.not_le.mp c8
        refine x_aload_n 37 C dX12_restore_37 rfl 0 rfl ?_
        refine x_getr 38 C (b := A + 1) dX12_restore_38 ff_X12_7 rfl hM.1 rfl ?_
        refine x_iload_n 41 C dX12_restore_41 rfl 2 rfl ?_
        refine x_aload_n 42 C dX12_restore_42 rfl 0 rfl ?_
        refine x_getr 43 C (b := A + 3) dX12_restore_43 ff_X12_16 rfl hM.1 rfl ?_
        refine x_sipush 46 C (v := 158) dX12_restore_46 rfl ?_
        refine x_iload_n 49 C dX12_restore_49 rfl 1 rfl ?_
        refine x_imul 50 C dX12_restore_50 ?_
        refine x_int (nI (158 * k)) (nI_mul 158 k) ?_
        refine x_iload_n 51 C dX12_restore_51 rfl 2 rfl ?_
        refine x_iadd 52 C dX12_restore_52 ?_
        refine x_int (nI (158 * k + i)) (nI_add (158 * k) i) ?_
        refine x_iald 53 C (j := (158 * k + i)) dX12_restore_53 hM.2.2.2.1 (xIx_nI (by omega) (by decide)) ?_
        refine x_int (I (A + 3) (158 * k + i)) (by rw [hr2 _ (by omega), hw5r1 _ (by omega) (by omega)]) ?_
        refine x_iast 54 C (j := i) dX12_restore_54 hM.2.1 (by omega) (xIx_nI (by omega) (by decide)) (fun I11 eI11 => ?_)
        refine x_iinc 55 C [(2, .int (nI (i + 1))), (0, .ref A), (1, .int (nI k))] dX12_restore_55 2 rfl (nI_add i 1) (by decide) rfl ?_
        refine x_goto 58 C 30 dX12_restore_58 (by decide) ?_
        refine x_sub [(0, .ref A), (1, .int (nI k)), (2, .int (nI (i + 1)))] [1, 2, 0] rfl ?_
        exact ih (i + 1) I11 (by omega) (by omega) (fun j => by rw [eI11, xup_at]; by_cases h : j = 0 + i; (rw [if_pos (by omega), if_pos (by omega)]; (first | rfl | (congr 1; omega))); (rw [if_neg (by omega), h22]; by_cases h3 : 0 ≤ j ∧ j < 0 + i; (rw [if_pos h3, if_pos (by omega)]); (rw [if_neg h3, if_neg (by omega)]))) (fun q hq => by rw [eI11, xup_row _ _ hq]; exact hr2 q hq)
  refine x_sub [(0, .ref A), (1, .int (nI k)), (2, .int 0)] [1, 2, 0] rfl ?_
  exact loop30 159 0 I6 (by omega) (by omega) (fun j => (if_neg (by omega)).symm) (fun _ _ => rfl)
set_option maxHeartbeats 1000000 in
set_option maxRecDepth 100000 in
theorem t_X12_restore_no (l : Launch) (D : xD) (z n : Nat) (G : xG) (I : xI) (L : xL) (A : Nat) (k : Nat) (hM : shMo G A) (hk : k < 2) (hkf : I (A + 4) k = 0) : xM0 l D z yX12_restore cX12_restore 3 (some .int) 1 22 [.ref A, .int (nI k)] n G I L (xE (some (.int (-2000000002))) I L) := by
  refine xM.of (by decide) (Nat.le_of_ble_eq_true rfl) (fun p e s m args below meth c C hnm hsz => ?_)
  refine x_lv [(0, .ref A), (1, .int (nI k))] rfl ?_
  refine x_iload_n 0 C dX12_restore_0 rfl 1 rfl ?_
  refine x_iconst 1 C (v := 0) dX12_restore_1 rfl ?_
  refine x_iconst 2 C (v := 1) dX12_restore_2 rfl ?_
  refine x_callSe 3 C dX12_restore_3 (As := [.int (nI k), .int 0, .int 1]) (rest := []) [.int (bI (decide (0 ≤ k) && decide (k ≤ 1)))] (t_X12_in_n l D z n G I L k 0 1 (by first | omega | assumption | decide) (by first | omega | assumption | decide) (by first | omega | assumption | decide)) mt_X12_in km_X12_71 kt_X12_in rfl rfl (Nat.le_of_ble_eq_true rfl) ⟨⟨by decide, by decide⟩, by decide, by decide⟩ (fun I1 L2 eI1 eL2 => ?_)
  replace eI1 := eI1.symm; subst eI1
  replace eL2 := eL2.symm; subst eL2
  refine x_int 1 (by simp [bI]; omega) ?_
  refine x_if_ne 6 C 12 dX12_restore_6 (by decide) (fun _ => ?_) (fun c3 => absurd c3 (by decide))
  refine x_aload_n 12 C dX12_restore_12 rfl 0 rfl ?_
  refine x_getr 13 C (b := A + 4) dX12_restore_13 ff_X12_19 rfl hM.1 rfl ?_
  refine x_iload_n 16 C dX12_restore_16 rfl 1 rfl ?_
  refine x_zald 17 C (j := k) dX12_restore_17 hM.2.2.2.2.1 (xIx_nI (by omega) (by decide)) ?_
  refine x_if_ne 18 C 24 dX12_restore_18 (by decide) (fun c4 => absurd hkf c4) (fun _ => ?_)
  refine x_ldc 21 C (-2000000002) dX12_restore_21 kk_X12_199 ?_
  refine x_iret 23 C dX12_restore_23 rfl rfl (Nat.le_refl _) (xN.intro ?_)
  exact ⟨rfl, rfl, rfl⟩
set_option maxHeartbeats 1000000 in
set_option maxRecDepth 100000 in
theorem t_X12_save_bad (l : Launch) (D : xD) (z n : Nat) (G : xG) (I : xI) (L : xL) (A : Nat) (x : Int32) (hM : shMo G A) (hbad : ¬ (0 ≤ x ∧ x < 2)) : xM0 l D z yX12_save cX12_save 3 (some .int) 1 22 [.ref A, .int x] n G I L (xE (some (.int (-2000000001))) I L) := by
  refine xM.of (by decide) (Nat.le_of_ble_eq_true rfl) (fun p e s m args below meth c C hnm hsz => ?_)
  refine x_lv [(0, .ref A), (1, .int x)] rfl ?_
  refine x_iload_n 0 C dX12_save_0 rfl 1 rfl ?_
  refine x_iconst 1 C (v := 0) dX12_save_1 rfl ?_
  refine x_iconst 2 C (v := 1) dX12_save_2 rfl ?_
  refine x_callSe 3 C dX12_save_3 (As := [.int x, .int 0, .int 1]) (rest := []) [.int (bI (decide (0 ≤ x) && decide (x ≤ 1)))] (t_X12_in l D z n G I L x 0 1 ) mt_X12_in km_X12_71 kt_X12_in rfl rfl (Nat.le_of_ble_eq_true rfl) ⟨⟨by decide, by decide⟩, by decide, by decide⟩ (fun I1 L2 eI1 eL2 => ?_)
  replace eI1 := eI1.symm; subst eI1
  replace eL2 := eL2.symm; subst eL2
  refine x_if_ne 6 C 12 dX12_save_6 (by decide) (fun c3 => absurd (in_b.mpr (fun h => hbad ⟨h.1, lt2_1.mpr h.2⟩)) c3) (fun _ => ?_)
  refine x_ldc 9 C (-2000000001) dX12_save_9 kk_X12_198 ?_
  refine x_iret 11 C dX12_save_11 rfl rfl (Nat.le_refl _) (xN.intro ?_)
  exact ⟨rfl, rfl, rfl⟩
set_option maxHeartbeats 1000000 in
set_option maxRecDepth 100000 in
theorem t_X12_restore_bad (l : Launch) (D : xD) (z n : Nat) (G : xG) (I : xI) (L : xL) (A : Nat) (x : Int32) (hM : shMo G A) (hbad : ¬ (0 ≤ x ∧ x < 2)) : xM0 l D z yX12_restore cX12_restore 3 (some .int) 1 22 [.ref A, .int x] n G I L (xE (some (.int (-2000000001))) I L) := by
  refine xM.of (by decide) (Nat.le_of_ble_eq_true rfl) (fun p e s m args below meth c C hnm hsz => ?_)
  refine x_lv [(0, .ref A), (1, .int x)] rfl ?_
  refine x_iload_n 0 C dX12_restore_0 rfl 1 rfl ?_
  refine x_iconst 1 C (v := 0) dX12_restore_1 rfl ?_
  refine x_iconst 2 C (v := 1) dX12_restore_2 rfl ?_
  refine x_callSe 3 C dX12_restore_3 (As := [.int x, .int 0, .int 1]) (rest := []) [.int (bI (decide (0 ≤ x) && decide (x ≤ 1)))] (t_X12_in l D z n G I L x 0 1 ) mt_X12_in km_X12_71 kt_X12_in rfl rfl (Nat.le_of_ble_eq_true rfl) ⟨⟨by decide, by decide⟩, by decide, by decide⟩ (fun I1 L2 eI1 eL2 => ?_)
  replace eI1 := eI1.symm; subst eI1
  replace eL2 := eL2.symm; subst eL2
  refine x_if_ne 6 C 12 dX12_restore_6 (by decide) (fun c3 => absurd (in_b.mpr (fun h => hbad ⟨h.1, lt2_1.mpr h.2⟩)) c3) (fun _ => ?_)
  refine x_ldc 9 C (-2000000001) dX12_restore_9 kk_X12_198 ?_
  refine x_iret 11 C dX12_restore_11 rfl rfl (Nat.le_refl _) (xN.intro ?_)
  exact ⟨rfl, rfl, rfl⟩
