/-! The Model at A -/
def rMo (A : Nat) : Nat → Option Nat := (va_up (va_up (va_up (va_up (va_up (va_up (va_up (va_up (va_up (va_up (va_up (va_up (va_up (va_up rN 0 (some (A + 1))) 1 (some (A + 2))) 3 (some (A + 3))) 4 (some (A + 4))) 5 (some (A + 5))) 10 (some (A + 6))) 11 (some (A + 7))) 12 (some (A + 8))) 13 (some (A + 9))) 14 (some (A + 10))) 15 (some (A + 11))) 16 (some (A + 12))) 17 (some (A + 13))) 23 (some (A + 14)))
def shMo (G : xG) (A : Nat) : Prop := G A = some (12, 0, rMo A) ∧ G (A + 1) = some (20, 158, rN) ∧ G (A + 2) = some (20, 632, rN) ∧ G (A + 3) = some (20, 316, rN) ∧ G (A + 4) = some (22, 2, rN) ∧ G (A + 5) = some (20, 60, rN) ∧ G (A + 6) = some (21, 16, rN) ∧ G (A + 7) = some (21, 4, rN) ∧ G (A + 8) = some (21, 12, rN) ∧ G (A + 9) = some (21, 12, rN) ∧ G (A + 10) = some (21, 12, rN) ∧ G (A + 11) = some (21, 4, rN) ∧ G (A + 12) = some (21, 4, rN) ∧ G (A + 13) = some (21, 2, rN) ∧ G (A + 14) = some (20, 20, rN)
def mx (I : xI) (A : Nat) (t : Nat → Nat) (N r : Nat) : Prop := (∀ j, j < N → I (A + 5) j = nI (t j)) ∧ I A 6 = nI N ∧ I A 18 = nI r
theorem mx_up {I : xI} {A N r : Nat} {t : Nat → Nat} (h : mx I A t N r) (r' : Nat) : mx (xup I A 18 (nI r')) A t N r' :=
  ⟨fun j hj => by rw [xup_row _ _ (by omega)]; exact h.1 j hj, by rw [xup_ne _ _ (by omega)]; exact h.2.1, xup_self _ _ _ _⟩
theorem mx_ne {I : xI} {A N r k : Nat} {t : Nat → Nat} {v : Int32} (h : mx I A t N r) (h6 : k ≠ 6) (h18 : k ≠ 18) : mx (xup I A k v) A t N r :=
  ⟨fun j hj => by rw [xup_row _ _ (by omega)]; exact h.1 j hj, by rw [xup_ne _ _ (by omega)]; exact h.2.1, by rw [xup_ne _ _ (by omega)]; exact h.2.2⟩
theorem nar_bI (b : Bool) : narrow .boolean (.int (bI b)) = .int (bI b) := by cases b <;> rfl
theorem le_pred {n : Nat} {x : Int32} (h1 : 1 ≤ n) (h9 : n ≤ 9) : (decide (0 ≤ x) && decide (x ≤ nI (n - 1))) = (decide (0 ≤ x) && decide (x < nI n)) := by
  congr 1
  have h : (x ≤ nI (n - 1)) ↔ x < nI n := by
    rw [Int32.le_iff_toInt_le, Int32.lt_iff_toInt_lt, nI_toInt (by omega), nI_toInt (by omega)]
    omega
  simp only [h]
theorem dX12_termOf_0 : decode cX12_termOf 0 = .ok (.iload_n 1, 1) := by decide +kernel
theorem dX12_termOf_1 : decode cX12_termOf 1 = .ok (.ifCond .ne 7, 3) := by decide +kernel
theorem dX12_termOf_4 : decode cX12_termOf 4 = .ok (.iload_n 2, 1) := by decide +kernel
theorem dX12_termOf_5 : decode cX12_termOf 5 = .ok (.goto 28, 3) := by decide +kernel
theorem dX12_termOf_8 : decode cX12_termOf 8 = .ok (.iload_n 1, 1) := by decide +kernel
theorem dX12_termOf_9 : decode cX12_termOf 9 = .ok (.iconst 1, 1) := by decide +kernel
theorem dX12_termOf_10 : decode cX12_termOf 10 = .ok (.if_icmp .ne 9, 3) := by decide +kernel
theorem dX12_termOf_13 : decode cX12_termOf 13 = .ok (.iconst 4, 1) := by decide +kernel
theorem dX12_termOf_14 : decode cX12_termOf 14 = .ok (.iload_n 2, 1) := by decide +kernel
theorem dX12_termOf_15 : decode cX12_termOf 15 = .ok (.iadd, 1) := by decide +kernel
theorem dX12_termOf_16 : decode cX12_termOf 16 = .ok (.goto 17, 3) := by decide +kernel
theorem dX12_termOf_19 : decode cX12_termOf 19 = .ok (.iload_n 1, 1) := by decide +kernel
theorem dX12_termOf_20 : decode cX12_termOf 20 = .ok (.iconst 2, 1) := by decide +kernel
theorem dX12_termOf_21 : decode cX12_termOf 21 = .ok (.if_icmp .ne 10, 3) := by decide +kernel
theorem dX12_termOf_24 : decode cX12_termOf 24 = .ok (.bipush 7, 2) := by decide +kernel
theorem dX12_termOf_26 : decode cX12_termOf 26 = .ok (.iload_n 2, 1) := by decide +kernel
theorem dX12_termOf_27 : decode cX12_termOf 27 = .ok (.iadd, 1) := by decide +kernel
theorem dX12_termOf_28 : decode cX12_termOf 28 = .ok (.goto 5, 3) := by decide +kernel
theorem dX12_termOf_31 : decode cX12_termOf 31 = .ok (.bipush 9, 2) := by decide +kernel
theorem dX12_termOf_33 : decode cX12_termOf 33 = .ok (.istore_n 3, 1) := by decide +kernel
theorem dX12_termOf_34 : decode cX12_termOf 34 = .ok (.iconst 0, 1) := by decide +kernel
theorem dX12_termOf_35 : decode cX12_termOf 35 = .ok (.bipush 20, 2) := by decide +kernel
theorem dX12_termOf_37 : decode cX12_termOf 37 = .ok (.iload_n 0, 1) := by decide +kernel
theorem dX12_termOf_38 : decode cX12_termOf 38 = .ok (.imul, 1) := by decide +kernel
theorem dX12_termOf_39 : decode cX12_termOf 39 = .ok (.iadd, 1) := by decide +kernel
theorem dX12_termOf_40 : decode cX12_termOf 40 = .ok (.iconst 2, 1) := by decide +kernel
theorem dX12_termOf_41 : decode cX12_termOf 41 = .ok (.iload_n 3, 1) := by decide +kernel
theorem dX12_termOf_42 : decode cX12_termOf 42 = .ok (.imul, 1) := by decide +kernel
theorem dX12_termOf_43 : decode cX12_termOf 43 = .ok (.iadd, 1) := by decide +kernel
theorem dX12_termOf_44 : decode cX12_termOf 44 = .ok (.ireturn, 1) := by decide +kernel
set_option maxHeartbeats 1000000 in
set_option maxRecDepth 100000 in
theorem t_X12_termOf (l : Launch) (D : xD) (z n : Nat) (G : xG) (I : xI) (L : xL) (e0 : Nat) (i : Nat) (j : Nat) (he : e0 < 2) (hij : i + j ≤ 3) : xM0 l D z yX12_termOf cX12_termOf 4 (some .int) 0 0 [.int (nI e0), .int (nI i), .int (nI j)] n G I L (xE (some (.int (nI (20 * e0 + 2 * tm i j)))) I L) := by
  refine xM.of (by decide) (Nat.le_of_ble_eq_true rfl) (fun p e s m args below meth c C hnm hsz => ?_)
  refine x_lv [(0, .int (nI e0)), (1, .int (nI i)), (2, .int (nI j))] rfl ?_
  rcases (show i = 0 ∨ i = 1 ∨ i = 2 ∨ i = 3 by omega) with rfl | rfl | rfl | rfl
  · skip
    refine x_iload_n 0 C dX12_termOf_0 rfl 1 rfl ?_
    refine x_if_ne 1 C 8 dX12_termOf_1 (by decide) (fun c1 => absurd (by decide) c1) (fun _ => ?_)
    refine x_iload_n 4 C dX12_termOf_4 rfl 2 rfl ?_
    refine x_goto 5 C 33 dX12_termOf_5 (by decide) ?_
    refine x_istore_n 33 C [(3, .int (nI j)), (0, .int (nI e0)), (1, .int (nI 0)), (2, .int (nI j))] dX12_termOf_33 rfl (by decide) rfl ?_
    refine x_iconst 34 C (v := 0) dX12_termOf_34 rfl ?_
    refine x_bipush 35 C (v := 20) dX12_termOf_35 rfl ?_
    refine x_iload_n 37 C dX12_termOf_37 rfl 1 rfl ?_
    refine x_imul 38 C dX12_termOf_38 ?_
    refine x_int (nI (20 * e0)) (nI_mul 20 e0) ?_
    refine x_iadd 39 C dX12_termOf_39 ?_
    refine x_int (nI (0 + (20 * e0))) (nI_add 0 (20 * e0)) ?_
    refine x_iconst 40 C (v := 2) dX12_termOf_40 rfl ?_
    refine x_iload_n 41 C dX12_termOf_41 rfl 0 rfl ?_
    refine x_imul 42 C dX12_termOf_42 ?_
    refine x_int (nI (2 * j)) (nI_mul 2 j) ?_
    refine x_iadd 43 C dX12_termOf_43 ?_
    refine x_int (nI (0 + (20 * e0) + (2 * j))) (nI_add (0 + (20 * e0)) (2 * j)) ?_
    refine x_iret 44 C dX12_termOf_44 rfl rfl (Nat.le_refl _) (xN.intro ?_)
    have q0 : tm 0 j = 0 + j := rfl
    have q1 : tm 1 j = 4 + j := rfl
    have q2 : tm 2 j = 7 + j := rfl
    have q3 : tm 3 j = 9 + j := rfl
    exact ⟨congrArg (fun x => some (Value.int (nI x))) (by omega), rfl, rfl⟩
  · skip
    refine x_iload_n 0 C dX12_termOf_0 rfl 1 rfl ?_
    refine x_if_ne 1 C 8 dX12_termOf_1 (by decide) (fun _ => ?_) (fun c2 => absurd c2 (by decide))
    refine x_iload_n 8 C dX12_termOf_8 rfl 1 rfl ?_
    refine x_iconst 9 C (v := 1) dX12_termOf_9 rfl ?_
    refine x_icmp_ne 10 C 19 dX12_termOf_10 (by decide) (fun c3 => absurd (by decide) c3) (fun _ => ?_)
    refine x_iconst 13 C (v := 4) dX12_termOf_13 rfl ?_
    refine x_iload_n 14 C dX12_termOf_14 rfl 2 rfl ?_
    refine x_iadd 15 C dX12_termOf_15 ?_
    refine x_int (nI (4 + j)) (nI_add 4 j) ?_
    refine x_goto 16 C 33 dX12_termOf_16 (by decide) ?_
    refine x_istore_n 33 C [(3, .int (nI (4 + j))), (0, .int (nI e0)), (1, .int (nI 1)), (2, .int (nI j))] dX12_termOf_33 rfl (by decide) rfl ?_
    refine x_iconst 34 C (v := 0) dX12_termOf_34 rfl ?_
    refine x_bipush 35 C (v := 20) dX12_termOf_35 rfl ?_
    refine x_iload_n 37 C dX12_termOf_37 rfl 1 rfl ?_
    refine x_imul 38 C dX12_termOf_38 ?_
    refine x_int (nI (20 * e0)) (nI_mul 20 e0) ?_
    refine x_iadd 39 C dX12_termOf_39 ?_
    refine x_int (nI (0 + (20 * e0))) (nI_add 0 (20 * e0)) ?_
    refine x_iconst 40 C (v := 2) dX12_termOf_40 rfl ?_
    refine x_iload_n 41 C dX12_termOf_41 rfl 0 rfl ?_
    refine x_imul 42 C dX12_termOf_42 ?_
    refine x_int (nI (2 * (4 + j))) (nI_mul 2 (4 + j)) ?_
    refine x_iadd 43 C dX12_termOf_43 ?_
    refine x_int (nI (0 + (20 * e0) + (2 * (4 + j)))) (nI_add (0 + (20 * e0)) (2 * (4 + j))) ?_
    refine x_iret 44 C dX12_termOf_44 rfl rfl (Nat.le_refl _) (xN.intro ?_)
    have q0 : tm 0 j = 0 + j := rfl
    have q1 : tm 1 j = 4 + j := rfl
    have q2 : tm 2 j = 7 + j := rfl
    have q3 : tm 3 j = 9 + j := rfl
    exact ⟨congrArg (fun x => some (Value.int (nI x))) (by omega), rfl, rfl⟩
  · skip
    refine x_iload_n 0 C dX12_termOf_0 rfl 1 rfl ?_
    refine x_if_ne 1 C 8 dX12_termOf_1 (by decide) (fun _ => ?_) (fun c4 => absurd c4 (by decide))
    refine x_iload_n 8 C dX12_termOf_8 rfl 1 rfl ?_
    refine x_iconst 9 C (v := 1) dX12_termOf_9 rfl ?_
    refine x_icmp_ne 10 C 19 dX12_termOf_10 (by decide) (fun _ => ?_) (fun c5 => absurd c5 (by decide))
    refine x_iload_n 19 C dX12_termOf_19 rfl 1 rfl ?_
    refine x_iconst 20 C (v := 2) dX12_termOf_20 rfl ?_
    refine x_icmp_ne 21 C 31 dX12_termOf_21 (by decide) (fun c6 => absurd (by decide) c6) (fun _ => ?_)
    refine x_bipush 24 C (v := 7) dX12_termOf_24 rfl ?_
    refine x_iload_n 26 C dX12_termOf_26 rfl 2 rfl ?_
    refine x_iadd 27 C dX12_termOf_27 ?_
    refine x_int (nI (7 + j)) (nI_add 7 j) ?_
    refine x_goto 28 C 33 dX12_termOf_28 (by decide) ?_
    refine x_istore_n 33 C [(3, .int (nI (7 + j))), (0, .int (nI e0)), (1, .int (nI 2)), (2, .int (nI j))] dX12_termOf_33 rfl (by decide) rfl ?_
    refine x_iconst 34 C (v := 0) dX12_termOf_34 rfl ?_
    refine x_bipush 35 C (v := 20) dX12_termOf_35 rfl ?_
    refine x_iload_n 37 C dX12_termOf_37 rfl 1 rfl ?_
    refine x_imul 38 C dX12_termOf_38 ?_
    refine x_int (nI (20 * e0)) (nI_mul 20 e0) ?_
    refine x_iadd 39 C dX12_termOf_39 ?_
    refine x_int (nI (0 + (20 * e0))) (nI_add 0 (20 * e0)) ?_
    refine x_iconst 40 C (v := 2) dX12_termOf_40 rfl ?_
    refine x_iload_n 41 C dX12_termOf_41 rfl 0 rfl ?_
    refine x_imul 42 C dX12_termOf_42 ?_
    refine x_int (nI (2 * (7 + j))) (nI_mul 2 (7 + j)) ?_
    refine x_iadd 43 C dX12_termOf_43 ?_
    refine x_int (nI (0 + (20 * e0) + (2 * (7 + j)))) (nI_add (0 + (20 * e0)) (2 * (7 + j))) ?_
    refine x_iret 44 C dX12_termOf_44 rfl rfl (Nat.le_refl _) (xN.intro ?_)
    have q0 : tm 0 j = 0 + j := rfl
    have q1 : tm 1 j = 4 + j := rfl
    have q2 : tm 2 j = 7 + j := rfl
    have q3 : tm 3 j = 9 + j := rfl
    exact ⟨congrArg (fun x => some (Value.int (nI x))) (by omega), rfl, rfl⟩
  · skip
    refine x_iload_n 0 C dX12_termOf_0 rfl 1 rfl ?_
    refine x_if_ne 1 C 8 dX12_termOf_1 (by decide) (fun _ => ?_) (fun c7 => absurd c7 (by decide))
    refine x_iload_n 8 C dX12_termOf_8 rfl 1 rfl ?_
    refine x_iconst 9 C (v := 1) dX12_termOf_9 rfl ?_
    refine x_icmp_ne 10 C 19 dX12_termOf_10 (by decide) (fun _ => ?_) (fun c8 => absurd c8 (by decide))
    refine x_iload_n 19 C dX12_termOf_19 rfl 1 rfl ?_
    refine x_iconst 20 C (v := 2) dX12_termOf_20 rfl ?_
    refine x_icmp_ne 21 C 31 dX12_termOf_21 (by decide) (fun _ => ?_) (fun c9 => absurd c9 (by decide))
    refine x_bipush 31 C (v := 9) dX12_termOf_31 rfl ?_
    refine x_istore_n 33 C [(3, .int 9), (0, .int (nI e0)), (1, .int (nI 3)), (2, .int (nI j))] dX12_termOf_33 rfl (by decide) rfl ?_
    refine x_iconst 34 C (v := 0) dX12_termOf_34 rfl ?_
    refine x_bipush 35 C (v := 20) dX12_termOf_35 rfl ?_
    refine x_iload_n 37 C dX12_termOf_37 rfl 1 rfl ?_
    refine x_imul 38 C dX12_termOf_38 ?_
    refine x_int (nI (20 * e0)) (nI_mul 20 e0) ?_
    refine x_iadd 39 C dX12_termOf_39 ?_
    refine x_int (nI (0 + (20 * e0))) (nI_add 0 (20 * e0)) ?_
    refine x_iconst 40 C (v := 2) dX12_termOf_40 rfl ?_
    refine x_iload_n 41 C dX12_termOf_41 rfl 0 rfl ?_
    refine x_imul 42 C dX12_termOf_42 ?_
    refine x_int 18 (by decide) ?_
    refine x_iadd 43 C dX12_termOf_43 ?_
    refine x_int (nI (0 + (20 * e0) + 18)) (nI_add (0 + (20 * e0)) 18) ?_
    refine x_iret 44 C dX12_termOf_44 rfl rfl (Nat.le_refl _) (xN.intro ?_)
    have q0 : tm 0 j = 0 + j := rfl
    have q1 : tm 1 j = 4 + j := rfl
    have q2 : tm 2 j = 7 + j := rfl
    have q3 : tm 3 j = 9 + j := rfl
    exact ⟨congrArg (fun x => some (Value.int (nI x))) (by omega), rfl, rfl⟩
theorem dX12_paths_0 : decode cX12_paths 0 = .ok (.aload_n 0, 1) := by decide +kernel
theorem dX12_paths_1 : decode cX12_paths 1 = .ok (.getfield 7, 3) := by decide +kernel
theorem dX12_paths_4 : decode cX12_paths 4 = .ok (.bipush 40, 2) := by decide +kernel
theorem dX12_paths_6 : decode cX12_paths 6 = .ok (.iaload, 1) := by decide +kernel
theorem dX12_paths_7 : decode cX12_paths 7 = .ok (.aload_n 0, 1) := by decide +kernel
theorem dX12_paths_8 : decode cX12_paths 8 = .ok (.getfield 7, 3) := by decide +kernel
theorem dX12_paths_11 : decode cX12_paths 11 = .ok (.bipush 41, 2) := by decide +kernel
theorem dX12_paths_13 : decode cX12_paths 13 = .ok (.iaload, 1) := by decide +kernel
theorem dX12_paths_14 : decode cX12_paths 14 = .ok (.imul, 1) := by decide +kernel
theorem dX12_paths_15 : decode cX12_paths 15 = .ok (.ireturn, 1) := by decide +kernel
set_option maxHeartbeats 1000000 in
set_option maxRecDepth 100000 in
theorem t_X12_paths (l : Launch) (D : xD) (z n : Nat) (G : xG) (I : xI) (L : xL) (A : Nat) (a : Nat) (b : Nat) (hM : shMo G A) (ha : I (A + 1) 40 = nI a) (hb : I (A + 1) 41 = nI b) : xM0 l D z yX12_paths cX12_paths 1 (some .int) 0 0 [.ref A] n G I L (xE (some (.int (nI (a * b)))) I L) := by
  refine xM.of (by decide) (Nat.le_of_ble_eq_true rfl) (fun p e s m args below meth c C hnm hsz => ?_)
  refine x_lv [(0, .ref A)] rfl ?_
  refine x_aload_n 0 C dX12_paths_0 rfl 0 rfl ?_
  refine x_getr 1 C (b := A + 1) dX12_paths_1 ff_X12_7 rfl hM.1 rfl ?_
  refine x_bipush 4 C (v := 40) dX12_paths_4 rfl ?_
  refine x_iald 6 C (j := 40) dX12_paths_6 hM.2.1 ⟨by decide, by decide, by decide⟩ ?_
  refine x_int (nI a) ha ?_
  refine x_aload_n 7 C dX12_paths_7 rfl 0 rfl ?_
  refine x_getr 8 C (b := A + 1) dX12_paths_8 ff_X12_7 rfl hM.1 rfl ?_
  refine x_bipush 11 C (v := 41) dX12_paths_11 rfl ?_
  refine x_iald 13 C (j := 41) dX12_paths_13 hM.2.1 ⟨by decide, by decide, by decide⟩ ?_
  refine x_int (nI b) hb ?_
  refine x_imul 14 C dX12_paths_14 ?_
  refine x_int (nI (a * b)) (nI_mul a b) ?_
  refine x_iret 15 C dX12_paths_15 rfl rfl (Nat.le_refl _) (xN.intro ?_)
  exact ⟨rfl, rfl, rfl⟩
theorem dX12_setting_0 : decode cX12_setting 0 = .ok (.aload_n 0, 1) := by decide +kernel
theorem dX12_setting_1 : decode cX12_setting 1 = .ok (.getfield 7, 3) := by decide +kernel
theorem dX12_setting_4 : decode cX12_setting 4 = .ok (.bipush 42, 2) := by decide +kernel
theorem dX12_setting_6 : decode cX12_setting 6 = .ok (.iload_n 1, 1) := by decide +kernel
theorem dX12_setting_7 : decode cX12_setting 7 = .ok (.iadd, 1) := by decide +kernel
theorem dX12_setting_8 : decode cX12_setting 8 = .ok (.iaload, 1) := by decide +kernel
theorem dX12_setting_9 : decode cX12_setting 9 = .ok (.ireturn, 1) := by decide +kernel
set_option maxHeartbeats 1000000 in
set_option maxRecDepth 100000 in
theorem t_X12_setting (l : Launch) (D : xD) (z n : Nat) (G : xG) (I : xI) (L : xL) (A : Nat) (w : Nat) (hM : shMo G A) (hw : w < 8) : xM0 l D z yX12_setting cX12_setting 2 (some .int) 0 0 [.ref A, .int (nI w)] n G I L (xE (some (.int (I (A + 1) (42 + w)))) I L) := by
  refine xM.of (by decide) (Nat.le_of_ble_eq_true rfl) (fun p e s m args below meth c C hnm hsz => ?_)
  refine x_lv [(0, .ref A), (1, .int (nI w))] rfl ?_
  refine x_aload_n 0 C dX12_setting_0 rfl 0 rfl ?_
  refine x_getr 1 C (b := A + 1) dX12_setting_1 ff_X12_7 rfl hM.1 rfl ?_
  refine x_bipush 4 C (v := 42) dX12_setting_4 rfl ?_
  refine x_iload_n 6 C dX12_setting_6 rfl 1 rfl ?_
  refine x_iadd 7 C dX12_setting_7 ?_
  refine x_int (nI (42 + w)) (nI_add 42 w) ?_
  refine x_iald 8 C (j := (42 + w)) dX12_setting_8 hM.2.1 (xIx_nI (by omega) (by decide)) ?_
  refine x_iret 9 C dX12_setting_9 rfl rfl (Nat.le_refl _) (xN.intro ?_)
  exact ⟨rfl, rfl, rfl⟩
theorem dX12_pathAt_0 : decode cX12_pathAt 0 = .ok (.bipush 50, 2) := by decide +kernel
theorem dX12_pathAt_2 : decode cX12_pathAt 2 = .ok (.bipush 12, 2) := by decide +kernel
theorem dX12_pathAt_4 : decode cX12_pathAt 4 = .ok (.iload_n 0, 1) := by decide +kernel
theorem dX12_pathAt_5 : decode cX12_pathAt 5 = .ok (.imul, 1) := by decide +kernel
theorem dX12_pathAt_6 : decode cX12_pathAt 6 = .ok (.iadd, 1) := by decide +kernel
theorem dX12_pathAt_7 : decode cX12_pathAt 7 = .ok (.ireturn, 1) := by decide +kernel
set_option maxHeartbeats 1000000 in
set_option maxRecDepth 100000 in
theorem t_X12_pathAt (l : Launch) (D : xD) (z n : Nat) (G : xG) (I : xI) (L : xL) (k : Nat) (hk : k < 9) : xM0 l D z yX12_pathAt cX12_pathAt 1 (some .int) 0 0 [.int (nI k)] n G I L (xE (some (.int (nI (50 + 12 * k)))) I L) := by
  refine xM.of (by decide) (Nat.le_of_ble_eq_true rfl) (fun p e s m args below meth c C hnm hsz => ?_)
  refine x_lv [(0, .int (nI k))] rfl ?_
  refine x_bipush 0 C (v := 50) dX12_pathAt_0 rfl ?_
  refine x_bipush 2 C (v := 12) dX12_pathAt_2 rfl ?_
  refine x_iload_n 4 C dX12_pathAt_4 rfl 0 rfl ?_
  refine x_imul 5 C dX12_pathAt_5 ?_
  refine x_int (nI (12 * k)) (nI_mul 12 k) ?_
  refine x_iadd 6 C dX12_pathAt_6 ?_
  refine x_int (nI (50 + (12 * k))) (nI_add 50 (12 * k)) ?_
  refine x_iret 7 C dX12_pathAt_7 rfl rfl (Nat.le_refl _) (xN.intro ?_)
  exact ⟨rfl, rfl, rfl⟩
theorem dX12_in_0 : decode cX12_in 0 = .ok (.iload_n 0, 1) := by decide +kernel
theorem dX12_in_1 : decode cX12_in 1 = .ok (.iload_n 1, 1) := by decide +kernel
theorem dX12_in_2 : decode cX12_in 2 = .ok (.if_icmp .lt 12, 3) := by decide +kernel
theorem dX12_in_5 : decode cX12_in 5 = .ok (.iload_n 0, 1) := by decide +kernel
theorem dX12_in_6 : decode cX12_in 6 = .ok (.iload_n 2, 1) := by decide +kernel
theorem dX12_in_7 : decode cX12_in 7 = .ok (.if_icmp .gt 7, 3) := by decide +kernel
theorem dX12_in_10 : decode cX12_in 10 = .ok (.iconst 1, 1) := by decide +kernel
theorem dX12_in_11 : decode cX12_in 11 = .ok (.goto 4, 3) := by decide +kernel
theorem dX12_in_14 : decode cX12_in 14 = .ok (.iconst 0, 1) := by decide +kernel
theorem dX12_in_15 : decode cX12_in 15 = .ok (.ireturn, 1) := by decide +kernel
set_option maxHeartbeats 1000000 in
set_option maxRecDepth 100000 in
theorem t_X12_in (l : Launch) (D : xD) (z n : Nat) (G : xG) (I : xI) (L : xL) (x : Int32) (y : Int32) (w : Int32)  : xM0 l D z yX12_in cX12_in 3 (some .boolean) 0 0 [.int x, .int y, .int w] n G I L (xE (some (.int (bI (decide (y ≤ x) && decide (x ≤ w))))) I L) := by
  refine xM.of (by decide) (Nat.le_of_ble_eq_true rfl) (fun p e s m args below meth c C hnm hsz => ?_)
  refine x_lv [(0, .int x), (1, .int y), (2, .int w)] rfl ?_
  refine x_iload_n 0 C dX12_in_0 rfl 0 rfl ?_
  refine x_iload_n 1 C dX12_in_1 rfl 1 rfl ?_
  refine x_icmp_lt 2 C 14 dX12_in_2 (by decide) (fun c1 => ?_) (fun c1 => ?_)
  · skip
    have c1o := Int32.not_le.mpr c1
    refine x_iconst 14 C (v := 0) dX12_in_14 rfl ?_
    refine x_iret 15 C dX12_in_15 rfl rfl (Nat.le_refl _) (xN.intro ?_)
    refine ⟨?_, rfl, rfl⟩
    simp [bI, c1, c1o]
  · skip
    have c1o := Int32.not_lt.mp c1
    refine x_iload_n 5 C dX12_in_5 rfl 0 rfl ?_
    refine x_iload_n 6 C dX12_in_6 rfl 2 rfl ?_
    refine x_icmp_gt 7 C 14 dX12_in_7 (by decide) (fun c2 => ?_) (fun c2 => ?_)
    · skip
      have c2o := Int32.not_le.mpr c2
      refine x_iconst 14 C (v := 0) dX12_in_14 rfl ?_
      refine x_iret 15 C dX12_in_15 rfl rfl (Nat.le_refl _) (xN.intro ?_)
      refine ⟨?_, rfl, rfl⟩
      simp [bI, c1, c1o, c2, c2o]
    · skip
      have c2o := Int32.not_lt.mp c2
      refine x_iconst 10 C (v := 1) dX12_in_10 rfl ?_
      refine x_goto 11 C 15 dX12_in_11 (by decide) ?_
      refine x_iret 15 C dX12_in_15 rfl rfl (Nat.le_refl _) (xN.intro ?_)
      refine ⟨?_, rfl, rfl⟩
      simp [bI, c1, c1o, c2, c2o]
set_option maxHeartbeats 1000000 in
set_option maxRecDepth 100000 in
theorem t_X12_in_n (l : Launch) (D : xD) (z n : Nat) (G : xG) (I : xI) (L : xL) (x : Nat) (y : Nat) (w : Nat) (hx : x < 2147483648) (hy : y < 2147483648) (hw : w < 2147483648) : xM0 l D z yX12_in cX12_in 3 (some .boolean) 0 0 [.int (nI x), .int (nI y), .int (nI w)] n G I L (xE (some (.int (bI (decide (y ≤ x) && decide (x ≤ w))))) I L) := by
  refine xM.of (by decide) (Nat.le_of_ble_eq_true rfl) (fun p e s m args below meth c C hnm hsz => ?_)
  refine x_lv [(0, .int (nI x)), (1, .int (nI y)), (2, .int (nI w))] rfl ?_
  refine x_iload_n 0 C dX12_in_0 rfl 0 rfl ?_
  refine x_iload_n 1 C dX12_in_1 rfl 1 rfl ?_
  refine x_icmp_lt 2 C 14 dX12_in_2 (by decide) (fun c1 => ?_) (fun c1 => ?_)
  · skip
    have c1n : x < y := (nI_ltI (a := x) (b := y) (by omega) (by omega)).mp c1
    have c1m : ¬ (y ≤ x) := by omega
    have c1o := Int32.not_le.mpr c1
    refine x_iconst 14 C (v := 0) dX12_in_14 rfl ?_
    refine x_iret 15 C dX12_in_15 rfl rfl (Nat.le_refl _) (xN.intro ?_)
    refine ⟨?_, rfl, rfl⟩
    simp [bI, c1, c1n, c1m, c1o]; try omega
  · skip
    have c1n : ¬ (x < y) := fun h => c1 ((nI_ltI (a := x) (b := y) (by omega) (by omega)).mpr h)
    have c1m : y ≤ x := by omega
    have c1o := Int32.not_lt.mp c1
    refine x_iload_n 5 C dX12_in_5 rfl 0 rfl ?_
    refine x_iload_n 6 C dX12_in_6 rfl 2 rfl ?_
    refine x_icmp_gt 7 C 14 dX12_in_7 (by decide) (fun c2 => ?_) (fun c2 => ?_)
    · skip
      have c2n : w < x := (nI_ltI (a := w) (b := x) (by omega) (by omega)).mp c2
      have c2m : ¬ (x ≤ w) := by omega
      have c2o := Int32.not_le.mpr c2
      refine x_iconst 14 C (v := 0) dX12_in_14 rfl ?_
      refine x_iret 15 C dX12_in_15 rfl rfl (Nat.le_refl _) (xN.intro ?_)
      refine ⟨?_, rfl, rfl⟩
      simp [bI, c1, c1n, c1m, c1o, c2, c2n, c2m, c2o]; try omega
    · skip
      have c2n : ¬ (w < x) := fun h => c2 ((nI_ltI (a := w) (b := x) (by omega) (by omega)).mpr h)
      have c2m : x ≤ w := by omega
      have c2o := Int32.not_lt.mp c2
      refine x_iconst 10 C (v := 1) dX12_in_10 rfl ?_
      refine x_goto 11 C 15 dX12_in_11 (by decide) ?_
      refine x_iret 15 C dX12_in_15 rfl rfl (Nat.le_refl _) (xN.intro ?_)
      refine ⟨?_, rfl, rfl⟩
      simp [bI, c1, c1n, c1m, c1o, c2, c2n, c2m, c2o]; try omega
theorem dX12_isPath_0 : decode cX12_isPath 0 = .ok (.iload_n 1, 1) := by decide +kernel
theorem dX12_isPath_1 : decode cX12_isPath 1 = .ok (.iconst 0, 1) := by decide +kernel
theorem dX12_isPath_2 : decode cX12_isPath 2 = .ok (.aload_n 0, 1) := by decide +kernel
theorem dX12_isPath_3 : decode cX12_isPath 3 = .ok (.invokevirtual 67, 3) := by decide +kernel
theorem dX12_isPath_6 : decode cX12_isPath 6 = .ok (.iconst 1, 1) := by decide +kernel
theorem dX12_isPath_7 : decode cX12_isPath 7 = .ok (.isub, 1) := by decide +kernel
theorem dX12_isPath_8 : decode cX12_isPath 8 = .ok (.invokestatic 71, 3) := by decide +kernel
theorem dX12_isPath_11 : decode cX12_isPath 11 = .ok (.ireturn, 1) := by decide +kernel
set_option maxHeartbeats 1000000 in
set_option maxRecDepth 100000 in
theorem t_X12_isPath (l : Launch) (D : xD) (z n : Nat) (G : xG) (I : xI) (L : xL) (A : Nat) (a : Nat) (b : Nat) (x : Int32) (hM : shMo G A) (ha : I (A + 1) 40 = nI a) (hb : I (A + 1) 41 = nI b) (h1 : 1 ≤ a * b) (h9 : a * b ≤ 9) : xM0 l D z yX12_isPath cX12_isPath 2 (some .boolean) 1 22 [.ref A, .int x] n G I L (xE (some (.int (bI (decide (0 ≤ x) && decide (x < nI (a * b)))))) I L) := by
  refine xM.of (by decide) (Nat.le_of_ble_eq_true rfl) (fun p e s m args below meth c C hnm hsz => ?_)
  refine x_lv [(0, .ref A), (1, .int x)] rfl ?_
  refine x_iload_n 0 C dX12_isPath_0 rfl 1 rfl ?_
  refine x_iconst 1 C (v := 0) dX12_isPath_1 rfl ?_
  refine x_aload_n 2 C dX12_isPath_2 rfl 0 rfl ?_
  refine x_callVe 3 C dX12_isPath_3 (As := []) (rest := [.int 0, .int x]) [.int (nI (a * b)), .int 0, .int x] (t_X12_paths l D z n G I L A a b hM (by first | assumption | omega | decide) (by first | assumption | omega | decide)) mt_X12_paths km_X12_67 ki_X12_paths ks_X12_paths hM.1 ⟨by decide, rfl⟩ rfl rfl (Nat.le_of_ble_eq_true rfl) ⟨⟨by decide, by decide⟩, by decide, by decide⟩ (fun I1 L2 eI1 eL2 => ?_)
  replace eI1 := eI1.symm; subst eI1
  replace eL2 := eL2.symm; subst eL2
  refine x_iconst 6 C (v := 1) dX12_isPath_6 rfl ?_
  refine x_isub 7 C dX12_isPath_7 ?_
  refine x_int (nI (a * b - 1)) (nI_sub (a := a * b) (b := 1) h1) ?_
  refine x_callSe 8 C dX12_isPath_8 (As := [.int x, .int 0, .int (nI (a * b - 1))]) (rest := []) [.int (bI (decide (0 ≤ x) && decide (x ≤ (nI (a * b - 1)))))] (t_X12_in l D z n G I L x 0 (nI (a * b - 1)) ) mt_X12_in km_X12_71 kt_X12_in rfl rfl (Nat.le_of_ble_eq_true rfl) ⟨⟨by decide, by decide⟩, by decide, by decide⟩ (fun I3 L4 eI3 eL4 => ?_)
  replace eI3 := eI3.symm; subst eI3
  replace eL4 := eL4.symm; subst eL4
  refine x_iret 11 C dX12_isPath_11 rfl (nar_bI _) (Nat.le_refl _) (xN.intro ?_)
  refine ⟨?_, rfl, rfl⟩
  rw [le_pred h1 h9]
theorem dX12_here_0 : decode cX12_here 0 = .ok (.aload_n 0, 1) := by decide +kernel
theorem dX12_here_1 : decode cX12_here 1 = .ok (.getfield 247, 3) := by decide +kernel
theorem dX12_here_4 : decode cX12_here 4 = .ok (.aload_n 0, 1) := by decide +kernel
theorem dX12_here_5 : decode cX12_here 5 = .ok (.getfield 243, 3) := by decide +kernel
theorem dX12_here_8 : decode cX12_here 8 = .ok (.if_icmp .ge 15, 3) := by decide +kernel
theorem dX12_here_11 : decode cX12_here 11 = .ok (.aload_n 0, 1) := by decide +kernel
theorem dX12_here_12 : decode cX12_here 12 = .ok (.getfield 23, 3) := by decide +kernel
theorem dX12_here_15 : decode cX12_here 15 = .ok (.aload_n 0, 1) := by decide +kernel
theorem dX12_here_16 : decode cX12_here 16 = .ok (.getfield 247, 3) := by decide +kernel
theorem dX12_here_19 : decode cX12_here 19 = .ok (.iaload, 1) := by decide +kernel
theorem dX12_here_20 : decode cX12_here 20 = .ok (.goto 4, 3) := by decide +kernel
theorem dX12_here_23 : decode cX12_here 23 = .ok (.iconst (-1), 1) := by decide +kernel
theorem dX12_here_24 : decode cX12_here 24 = .ok (.ireturn, 1) := by decide +kernel
set_option maxHeartbeats 1000000 in
set_option maxRecDepth 100000 in
theorem t_X12_here (l : Launch) (D : xD) (z n : Nat) (G : xG) (I : xI) (L : xL) (A : Nat) (t : Nat → Nat) (N : Nat) (r : Nat) (hM : shMo G A) (hT : mx I A t N r) (hC : txc t N) (hr : r < N) : xM0 l D z yX12_here cX12_here 1 (some .int) 0 0 [.ref A] n G I L (xE (some (.int (nI (sg t N r)))) I L) := by
  refine xM.of (by decide) (Nat.le_of_ble_eq_true rfl) (fun p e s m args below meth c C hnm hsz => ?_)
  refine x_lv [(0, .ref A)] rfl ?_
  have hN6 := hC.1
  refine x_aload_n 0 C dX12_here_0 rfl 0 rfl ?_
  refine x_geti 1 C dX12_here_1 ff_X12_247 hM.1 ?_
  refine x_int (nI r) hT.2.2 ?_
  refine x_aload_n 4 C dX12_here_4 rfl 0 rfl ?_
  refine x_geti 5 C dX12_here_5 ff_X12_243 hM.1 ?_
  refine x_int (nI N) hT.2.1 ?_
  refine x_icmp_ge 8 C 23 dX12_here_8 (by decide) (fun c1 => absurd c1 (fun h => absurd ((nI_leI (a := N) (b := r) (by omega) (by omega)).mp h) (by omega))) (fun _ => ?_)
  refine x_aload_n 11 C dX12_here_11 rfl 0 rfl ?_
  refine x_getr 12 C (b := A + 5) dX12_here_12 ff_X12_23 rfl hM.1 rfl ?_
  refine x_aload_n 15 C dX12_here_15 rfl 0 rfl ?_
  refine x_geti 16 C dX12_here_16 ff_X12_247 hM.1 ?_
  refine x_int (nI r) hT.2.2 ?_
  refine x_iald 19 C (j := r) dX12_here_19 hM.2.2.2.2.2.1 (xIx_nI (by omega) (by decide)) ?_
  refine x_int (nI (sg t N r)) (by rw [sg_in hr]; exact hT.1 r hr) ?_
  refine x_goto 20 C 24 dX12_here_20 (by decide) ?_
  refine x_iret 24 C dX12_here_24 rfl rfl (Nat.le_refl _) (xN.intro ?_)
  exact ⟨rfl, rfl, rfl⟩
set_option maxHeartbeats 1000000 in
set_option maxRecDepth 100000 in
theorem t_X12_here_out (l : Launch) (D : xD) (z n : Nat) (G : xG) (I : xI) (L : xL) (A : Nat) (t : Nat → Nat) (N : Nat) (r : Nat) (hM : shMo G A) (hT : mx I A t N r) (hC : txc t N) (hr : r = N) : xM0 l D z yX12_here cX12_here 1 (some .int) 0 0 [.ref A] n G I L (xE (some (.int (-1))) I L) := by
  refine xM.of (by decide) (Nat.le_of_ble_eq_true rfl) (fun p e s m args below meth c C hnm hsz => ?_)
  refine x_lv [(0, .ref A)] rfl ?_
  have hN6 := hC.1
  refine x_aload_n 0 C dX12_here_0 rfl 0 rfl ?_
  refine x_geti 1 C dX12_here_1 ff_X12_247 hM.1 ?_
  refine x_int (nI r) hT.2.2 ?_
  refine x_aload_n 4 C dX12_here_4 rfl 0 rfl ?_
  refine x_geti 5 C dX12_here_5 ff_X12_243 hM.1 ?_
  refine x_int (nI N) hT.2.1 ?_
  refine x_icmp_ge 8 C 23 dX12_here_8 (by decide) (fun _ => ?_) (fun c1 => absurd ((nI_leI (a := N) (b := r) (by omega) (by omega)).mpr (by omega)) c1)
  refine x_iconst 23 C (v := (-1)) dX12_here_23 rfl ?_
  refine x_iret 24 C dX12_here_24 rfl rfl (Nat.le_refl _) (xN.intro ?_)
  exact ⟨rfl, rfl, rfl⟩
theorem dX12_isDigit_0 : decode cX12_isDigit 0 = .ok (.aload_n 0, 1) := by decide +kernel
theorem dX12_isDigit_1 : decode cX12_isDigit 1 = .ok (.invokevirtual 250, 3) := by decide +kernel
theorem dX12_isDigit_4 : decode cX12_isDigit 4 = .ok (.bipush 48, 2) := by decide +kernel
theorem dX12_isDigit_6 : decode cX12_isDigit 6 = .ok (.bipush 57, 2) := by decide +kernel
theorem dX12_isDigit_8 : decode cX12_isDigit 8 = .ok (.invokestatic 71, 3) := by decide +kernel
theorem dX12_isDigit_11 : decode cX12_isDigit 11 = .ok (.ireturn, 1) := by decide +kernel
set_option maxHeartbeats 1000000 in
set_option maxRecDepth 100000 in
theorem t_X12_isDigit (l : Launch) (D : xD) (z n : Nat) (G : xG) (I : xI) (L : xL) (A : Nat) (t : Nat → Nat) (N : Nat) (r : Nat) (hM : shMo G A) (hT : mx I A t N r) (hC : txc t N) (hr : r ≤ N) : xM0 l D z yX12_isDigit cX12_isDigit 1 (some .boolean) 1 22 [.ref A] n G I L (xE (some (.int (bI (dgt (sg t N r))))) I L) := by
  refine xM.of (by decide) (Nat.le_of_ble_eq_true rfl) (fun p e s m args below meth c C hnm hsz => ?_)
  refine x_lv [(0, .ref A)] rfl ?_
  by_cases hlt : r < N
  · skip
    refine x_aload_n 0 C dX12_isDigit_0 rfl 0 rfl ?_
    refine x_callVe 1 C dX12_isDigit_1 (As := []) (rest := []) [.int (nI (sg t N r))] (t_X12_here l D z n G I L A t N r hM hT hC (by omega)) mt_X12_here km_X12_250 ki_X12_here ks_X12_here hM.1 ⟨by decide, rfl⟩ rfl rfl (Nat.le_of_ble_eq_true rfl) ⟨⟨by decide, by decide⟩, by decide, by decide⟩ (fun I1 L2 eI1 eL2 => ?_)
    replace eI1 := eI1.symm; subst eI1
    replace eL2 := eL2.symm; subst eL2
    have hsg := sg_le hC r
    refine x_bipush 4 C (v := 48) dX12_isDigit_4 rfl ?_
    refine x_bipush 6 C (v := 57) dX12_isDigit_6 rfl ?_
    refine x_callSe 8 C dX12_isDigit_8 (As := [.int (nI (sg t N r)), .int 48, .int 57]) (rest := []) [.int (bI (decide (48 ≤ (sg t N r)) && decide ((sg t N r) ≤ 57)))] (t_X12_in_n l D z n G I L (sg t N r) 48 57 (by first | omega | assumption | decide) (by first | omega | assumption | decide) (by first | omega | assumption | decide)) mt_X12_in km_X12_71 kt_X12_in rfl rfl (Nat.le_of_ble_eq_true rfl) ⟨⟨by decide, by decide⟩, by decide, by decide⟩ (fun I3 L4 eI3 eL4 => ?_)
    replace eI3 := eI3.symm; subst eI3
    replace eL4 := eL4.symm; subst eL4
    refine x_iret 11 C dX12_isDigit_11 rfl (nar_bI _) (Nat.le_refl _) (xN.intro ?_)
    first | exact ⟨rfl, rfl, rfl⟩ | exact ⟨by rw [sg_out hlt]; rfl, rfl, rfl⟩
  · skip
    refine x_aload_n 0 C dX12_isDigit_0 rfl 0 rfl ?_
    refine x_callVe 1 C dX12_isDigit_1 (As := []) (rest := []) [.int (-1)] (t_X12_here_out l D z n G I L A t N r hM hT hC (by omega)) mt_X12_here km_X12_250 ki_X12_here ks_X12_here hM.1 ⟨by decide, rfl⟩ rfl rfl (Nat.le_of_ble_eq_true rfl) ⟨⟨by decide, by decide⟩, by decide, by decide⟩ (fun I5 L6 eI5 eL6 => ?_)
    replace eI5 := eI5.symm; subst eI5
    replace eL6 := eL6.symm; subst eL6
    refine x_bipush 4 C (v := 48) dX12_isDigit_4 rfl ?_
    refine x_bipush 6 C (v := 57) dX12_isDigit_6 rfl ?_
    refine x_callSe 8 C dX12_isDigit_8 (As := [.int (-1), .int 48, .int 57]) (rest := []) [.int (bI (decide (48 ≤ (-1)) && decide ((-1) ≤ 57)))] (t_X12_in l D z n G I L (-1) 48 57 ) mt_X12_in km_X12_71 kt_X12_in rfl rfl (Nat.le_of_ble_eq_true rfl) ⟨⟨by decide, by decide⟩, by decide, by decide⟩ (fun I7 L8 eI7 eL8 => ?_)
    replace eI7 := eI7.symm; subst eI7
    replace eL8 := eL8.symm; subst eL8
    refine x_iret 11 C dX12_isDigit_11 rfl (nar_bI _) (Nat.le_refl _) (xN.intro ?_)
    first | exact ⟨rfl, rfl, rfl⟩ | exact ⟨by rw [sg_out hlt]; rfl, rfl, rfl⟩
theorem dX12_isFactor_0 : decode cX12_isFactor 0 = .ok (.aload_n 0, 1) := by decide +kernel
theorem dX12_isFactor_1 : decode cX12_isFactor 1 = .ok (.invokevirtual 250, 3) := by decide +kernel
theorem dX12_isFactor_4 : decode cX12_isFactor 4 = .ok (.bipush 120, 2) := by decide +kernel
theorem dX12_isFactor_6 : decode cX12_isFactor 6 = .ok (.if_icmp .eq 12, 3) := by decide +kernel
theorem dX12_isFactor_9 : decode cX12_isFactor 9 = .ok (.aload_n 0, 1) := by decide +kernel
theorem dX12_isFactor_10 : decode cX12_isFactor 10 = .ok (.invokevirtual 250, 3) := by decide +kernel
theorem dX12_isFactor_13 : decode cX12_isFactor 13 = .ok (.bipush 121, 2) := by decide +kernel
theorem dX12_isFactor_15 : decode cX12_isFactor 15 = .ok (.if_icmp .ne 20, 3) := by decide +kernel
theorem dX12_isFactor_18 : decode cX12_isFactor 18 = .ok (.aload_n 0, 1) := by decide +kernel
theorem dX12_isFactor_19 : decode cX12_isFactor 19 = .ok (.getfield 253, 3) := by decide +kernel
theorem dX12_isFactor_22 : decode cX12_isFactor 22 = .ok (.aload_n 0, 1) := by decide +kernel
theorem dX12_isFactor_23 : decode cX12_isFactor 23 = .ok (.getfield 256, 3) := by decide +kernel
theorem dX12_isFactor_26 : decode cX12_isFactor 26 = .ok (.iadd, 1) := by decide +kernel
theorem dX12_isFactor_27 : decode cX12_isFactor 27 = .ok (.iconst 3, 1) := by decide +kernel
theorem dX12_isFactor_28 : decode cX12_isFactor 28 = .ok (.if_icmp .ge 7, 3) := by decide +kernel
theorem dX12_isFactor_31 : decode cX12_isFactor 31 = .ok (.iconst 1, 1) := by decide +kernel
theorem dX12_isFactor_32 : decode cX12_isFactor 32 = .ok (.goto 4, 3) := by decide +kernel
theorem dX12_isFactor_35 : decode cX12_isFactor 35 = .ok (.iconst 0, 1) := by decide +kernel
theorem dX12_isFactor_36 : decode cX12_isFactor 36 = .ok (.ireturn, 1) := by decide +kernel
set_option maxHeartbeats 1000000 in
set_option maxRecDepth 100000 in
theorem t_X12_isFactor (l : Launch) (D : xD) (z n : Nat) (G : xG) (I : xI) (L : xL) (A : Nat) (t : Nat → Nat) (N : Nat) (r : Nat) (px : Nat) (py : Nat) (hM : shMo G A) (hT : mx I A t N r) (hC : txc t N) (hr : r ≤ N) (hpx : I A 19 = nI px) (hpy : I A 20 = nI py) (hd : px + py ≤ 3) : xM0 l D z yX12_isFactor cX12_isFactor 1 (some .boolean) 1 20 [.ref A] n G I L (xE (some (.int (bI (unk (sg t N r) && decide (px + py < 3))))) I L) := by
  refine xM.of (by decide) (Nat.le_of_ble_eq_true rfl) (fun p e s m args below meth c C hnm hsz => ?_)
  refine x_lv [(0, .ref A)] rfl ?_
  by_cases hlt : r < N
  · skip
    refine x_aload_n 0 C dX12_isFactor_0 rfl 0 rfl ?_
    refine x_callVe 1 C dX12_isFactor_1 (As := []) (rest := []) [.int (nI (sg t N r))] (t_X12_here l D z n G I L A t N r hM hT hC (by omega)) mt_X12_here km_X12_250 ki_X12_here ks_X12_here hM.1 ⟨by decide, rfl⟩ rfl rfl (Nat.le_of_ble_eq_true rfl) ⟨⟨by decide, by decide⟩, by decide, by decide⟩ (fun I1 L2 eI1 eL2 => ?_)
    replace eI1 := eI1.symm; subst eI1
    replace eL2 := eL2.symm; subst eL2
    have hsg := sg_le hC r
    refine x_bipush 4 C (v := 120) dX12_isFactor_4 rfl ?_
    refine x_icmp_eq 6 C 18 dX12_isFactor_6 (by decide) (fun c3 => ?_) (fun c3 => ?_)
    · skip
      have c3n : (sg t N r) = 120 := (nI_eq (a := (sg t N r)) (b := 120) (by omega) (by omega)).mp c3
      refine x_aload_n 18 C dX12_isFactor_18 rfl 0 rfl ?_
      refine x_geti 19 C dX12_isFactor_19 ff_X12_253 hM.1 ?_
      refine x_int (nI px) hpx ?_
      refine x_aload_n 22 C dX12_isFactor_22 rfl 0 rfl ?_
      refine x_geti 23 C dX12_isFactor_23 ff_X12_256 hM.1 ?_
      refine x_int (nI py) hpy ?_
      refine x_iadd 26 C dX12_isFactor_26 ?_
      refine x_int (nI (px + py)) (nI_add px py) ?_
      refine x_iconst 27 C (v := 3) dX12_isFactor_27 rfl ?_
      refine x_icmp_ge 28 C 35 dX12_isFactor_28 (by decide) (fun c4 => ?_) (fun c4 => ?_)
      · skip
        have c4n : 3 ≤ (px + py) := (nI_leI (a := 3) (b := (px + py)) (by omega) (by omega)).mp c4
        have c4m : ¬ ((px + py) < 3) := by omega
        have c4o := Int32.not_lt.mpr c4
        refine x_iconst 35 C (v := 0) dX12_isFactor_35 rfl ?_
        refine x_iret 36 C dX12_isFactor_36 rfl rfl (Nat.le_refl _) (xN.intro ?_)
        first | exact ⟨by rw [sg_out hlt]; rfl, rfl, rfl⟩ | exact ⟨by rw [unk_b.mpr (by omega), show decide (px + py < 3) = true from decide_eq_true (by omega)]; rfl, rfl, rfl⟩ | exact ⟨by rw [unk_f.mpr (by omega)]; rfl, rfl, rfl⟩ | exact ⟨by rw [unk_b.mpr (by omega), show decide (px + py < 3) = false from decide_eq_false (by omega)]; rfl, rfl, rfl⟩
      · skip
        have c4n : ¬ (3 ≤ (px + py)) := fun h => c4 ((nI_leI (a := 3) (b := (px + py)) (by omega) (by omega)).mpr h)
        have c4m : (px + py) < 3 := by omega
        have c4o := Int32.not_le.mp c4
        refine x_iconst 31 C (v := 1) dX12_isFactor_31 rfl ?_
        refine x_goto 32 C 36 dX12_isFactor_32 (by decide) ?_
        refine x_iret 36 C dX12_isFactor_36 rfl rfl (Nat.le_refl _) (xN.intro ?_)
        first | exact ⟨by rw [sg_out hlt]; rfl, rfl, rfl⟩ | exact ⟨by rw [unk_b.mpr (by omega), show decide (px + py < 3) = true from decide_eq_true (by omega)]; rfl, rfl, rfl⟩ | exact ⟨by rw [unk_f.mpr (by omega)]; rfl, rfl, rfl⟩ | exact ⟨by rw [unk_b.mpr (by omega), show decide (px + py < 3) = false from decide_eq_false (by omega)]; rfl, rfl, rfl⟩
    · skip
      have c3n : ¬ ((sg t N r) = 120) := fun h => c3 ((nI_eq (a := (sg t N r)) (b := 120) (by omega) (by omega)).mpr h)
      refine x_aload_n 9 C dX12_isFactor_9 rfl 0 rfl ?_
      refine x_callVe 10 C dX12_isFactor_10 (As := []) (rest := []) [.int (nI (sg t N r))] (t_X12_here l D z n G I L A t N r hM hT hC (by omega)) mt_X12_here km_X12_250 ki_X12_here ks_X12_here hM.1 ⟨by decide, rfl⟩ rfl rfl (Nat.le_of_ble_eq_true rfl) ⟨⟨by decide, by decide⟩, by decide, by decide⟩ (fun I5 L6 eI5 eL6 => ?_)
      replace eI5 := eI5.symm; subst eI5
      replace eL6 := eL6.symm; subst eL6
      refine x_bipush 13 C (v := 121) dX12_isFactor_13 rfl ?_
      refine x_icmp_ne 15 C 35 dX12_isFactor_15 (by decide) (fun c7 => ?_) (fun c7 => ?_)
      · skip
        have c7n : ¬ ((sg t N r) = 121) := fun h => c7 ((nI_eq (a := (sg t N r)) (b := 121) (by omega) (by omega)).mpr h)
        refine x_iconst 35 C (v := 0) dX12_isFactor_35 rfl ?_
        refine x_iret 36 C dX12_isFactor_36 rfl rfl (Nat.le_refl _) (xN.intro ?_)
        first | exact ⟨by rw [sg_out hlt]; rfl, rfl, rfl⟩ | exact ⟨by rw [unk_b.mpr (by omega), show decide (px + py < 3) = true from decide_eq_true (by omega)]; rfl, rfl, rfl⟩ | exact ⟨by rw [unk_f.mpr (by omega)]; rfl, rfl, rfl⟩ | exact ⟨by rw [unk_b.mpr (by omega), show decide (px + py < 3) = false from decide_eq_false (by omega)]; rfl, rfl, rfl⟩
      · skip
        have c7n : (sg t N r) = 121 := (nI_eq (a := (sg t N r)) (b := 121) (by omega) (by omega)).mp c7
        refine x_aload_n 18 C dX12_isFactor_18 rfl 0 rfl ?_
        refine x_geti 19 C dX12_isFactor_19 ff_X12_253 hM.1 ?_
        refine x_int (nI px) hpx ?_
        refine x_aload_n 22 C dX12_isFactor_22 rfl 0 rfl ?_
        refine x_geti 23 C dX12_isFactor_23 ff_X12_256 hM.1 ?_
        refine x_int (nI py) hpy ?_
        refine x_iadd 26 C dX12_isFactor_26 ?_
        refine x_int (nI (px + py)) (nI_add px py) ?_
        refine x_iconst 27 C (v := 3) dX12_isFactor_27 rfl ?_
        refine x_icmp_ge 28 C 35 dX12_isFactor_28 (by decide) (fun c8 => ?_) (fun c8 => ?_)
        · skip
          have c8n : 3 ≤ (px + py) := (nI_leI (a := 3) (b := (px + py)) (by omega) (by omega)).mp c8
          have c8m : ¬ ((px + py) < 3) := by omega
          have c8o := Int32.not_lt.mpr c8
          refine x_iconst 35 C (v := 0) dX12_isFactor_35 rfl ?_
          refine x_iret 36 C dX12_isFactor_36 rfl rfl (Nat.le_refl _) (xN.intro ?_)
          first | exact ⟨by rw [sg_out hlt]; rfl, rfl, rfl⟩ | exact ⟨by rw [unk_b.mpr (by omega), show decide (px + py < 3) = true from decide_eq_true (by omega)]; rfl, rfl, rfl⟩ | exact ⟨by rw [unk_f.mpr (by omega)]; rfl, rfl, rfl⟩ | exact ⟨by rw [unk_b.mpr (by omega), show decide (px + py < 3) = false from decide_eq_false (by omega)]; rfl, rfl, rfl⟩
        · skip
          have c8n : ¬ (3 ≤ (px + py)) := fun h => c8 ((nI_leI (a := 3) (b := (px + py)) (by omega) (by omega)).mpr h)
          have c8m : (px + py) < 3 := by omega
          have c8o := Int32.not_le.mp c8
          refine x_iconst 31 C (v := 1) dX12_isFactor_31 rfl ?_
          refine x_goto 32 C 36 dX12_isFactor_32 (by decide) ?_
          refine x_iret 36 C dX12_isFactor_36 rfl rfl (Nat.le_refl _) (xN.intro ?_)
          first | exact ⟨by rw [sg_out hlt]; rfl, rfl, rfl⟩ | exact ⟨by rw [unk_b.mpr (by omega), show decide (px + py < 3) = true from decide_eq_true (by omega)]; rfl, rfl, rfl⟩ | exact ⟨by rw [unk_f.mpr (by omega)]; rfl, rfl, rfl⟩ | exact ⟨by rw [unk_b.mpr (by omega), show decide (px + py < 3) = false from decide_eq_false (by omega)]; rfl, rfl, rfl⟩
  · skip
    refine x_aload_n 0 C dX12_isFactor_0 rfl 0 rfl ?_
    refine x_callVe 1 C dX12_isFactor_1 (As := []) (rest := []) [.int (-1)] (t_X12_here_out l D z n G I L A t N r hM hT hC (by omega)) mt_X12_here km_X12_250 ki_X12_here ks_X12_here hM.1 ⟨by decide, rfl⟩ rfl rfl (Nat.le_of_ble_eq_true rfl) ⟨⟨by decide, by decide⟩, by decide, by decide⟩ (fun I9 L10 eI9 eL10 => ?_)
    replace eI9 := eI9.symm; subst eI9
    replace eL10 := eL10.symm; subst eL10
    refine x_bipush 4 C (v := 120) dX12_isFactor_4 rfl ?_
    refine x_icmp_eq 6 C 18 dX12_isFactor_6 (by decide) (fun c11 => absurd c11 (by decide)) (fun _ => ?_)
    refine x_aload_n 9 C dX12_isFactor_9 rfl 0 rfl ?_
    refine x_callVe 10 C dX12_isFactor_10 (As := []) (rest := []) [.int (-1)] (t_X12_here_out l D z n G I L A t N r hM hT hC (by omega)) mt_X12_here km_X12_250 ki_X12_here ks_X12_here hM.1 ⟨by decide, rfl⟩ rfl rfl (Nat.le_of_ble_eq_true rfl) ⟨⟨by decide, by decide⟩, by decide, by decide⟩ (fun I12 L13 eI12 eL13 => ?_)
    replace eI12 := eI12.symm; subst eI12
    replace eL13 := eL13.symm; subst eL13
    refine x_bipush 13 C (v := 121) dX12_isFactor_13 rfl ?_
    refine x_icmp_ne 15 C 35 dX12_isFactor_15 (by decide) (fun _ => ?_) (fun c14 => absurd c14 (by decide))
    refine x_iconst 35 C (v := 0) dX12_isFactor_35 rfl ?_
    refine x_iret 36 C dX12_isFactor_36 rfl rfl (Nat.le_refl _) (xN.intro ?_)
    first | exact ⟨by rw [sg_out hlt]; rfl, rfl, rfl⟩ | exact ⟨by rw [unk_b.mpr (by omega), show decide (px + py < 3) = true from decide_eq_true (by omega)]; rfl, rfl, rfl⟩ | exact ⟨by rw [unk_f.mpr (by omega)]; rfl, rfl, rfl⟩ | exact ⟨by rw [unk_b.mpr (by omega), show decide (px + py < 3) = false from decide_eq_false (by omega)]; rfl, rfl, rfl⟩
theorem dX12_readFactor_0 : decode cX12_readFactor 0 = .ok (.aload_n 0, 1) := by decide +kernel
theorem dX12_readFactor_1 : decode cX12_readFactor 1 = .ok (.invokevirtual 250, 3) := by decide +kernel
theorem dX12_readFactor_4 : decode cX12_readFactor 4 = .ok (.bipush 120, 2) := by decide +kernel
theorem dX12_readFactor_6 : decode cX12_readFactor 6 = .ok (.if_icmp .ne 7, 3) := by decide +kernel
theorem dX12_readFactor_9 : decode cX12_readFactor 9 = .ok (.iconst 1, 1) := by decide +kernel
theorem dX12_readFactor_10 : decode cX12_readFactor 10 = .ok (.goto 4, 3) := by decide +kernel
theorem dX12_readFactor_13 : decode cX12_readFactor 13 = .ok (.iconst 0, 1) := by decide +kernel
theorem dX12_readFactor_14 : decode cX12_readFactor 14 = .ok (.istore_n 1, 1) := by decide +kernel
theorem dX12_readFactor_15 : decode cX12_readFactor 15 = .ok (.iconst 1, 1) := by decide +kernel
theorem dX12_readFactor_16 : decode cX12_readFactor 16 = .ok (.istore_n 2, 1) := by decide +kernel
theorem dX12_readFactor_17 : decode cX12_readFactor 17 = .ok (.aload_n 0, 1) := by decide +kernel
theorem dX12_readFactor_18 : decode cX12_readFactor 18 = .ok (.dup, 1) := by decide +kernel
theorem dX12_readFactor_19 : decode cX12_readFactor 19 = .ok (.getfield 247, 3) := by decide +kernel
theorem dX12_readFactor_22 : decode cX12_readFactor 22 = .ok (.iconst 1, 1) := by decide +kernel
theorem dX12_readFactor_23 : decode cX12_readFactor 23 = .ok (.iadd, 1) := by decide +kernel
theorem dX12_readFactor_24 : decode cX12_readFactor 24 = .ok (.putfield 247, 3) := by decide +kernel
theorem dX12_readFactor_27 : decode cX12_readFactor 27 = .ok (.aload_n 0, 1) := by decide +kernel
theorem dX12_readFactor_28 : decode cX12_readFactor 28 = .ok (.invokevirtual 250, 3) := by decide +kernel
theorem dX12_readFactor_31 : decode cX12_readFactor 31 = .ok (.bipush 94, 2) := by decide +kernel
theorem dX12_readFactor_33 : decode cX12_readFactor 33 = .ok (.if_icmp .ne 57, 3) := by decide +kernel
theorem dX12_readFactor_36 : decode cX12_readFactor 36 = .ok (.aload_n 0, 1) := by decide +kernel
theorem dX12_readFactor_37 : decode cX12_readFactor 37 = .ok (.dup, 1) := by decide +kernel
theorem dX12_readFactor_38 : decode cX12_readFactor 38 = .ok (.getfield 247, 3) := by decide +kernel
theorem dX12_readFactor_41 : decode cX12_readFactor 41 = .ok (.iconst 1, 1) := by decide +kernel
theorem dX12_readFactor_42 : decode cX12_readFactor 42 = .ok (.iadd, 1) := by decide +kernel
theorem dX12_readFactor_43 : decode cX12_readFactor 43 = .ok (.putfield 247, 3) := by decide +kernel
theorem dX12_readFactor_46 : decode cX12_readFactor 46 = .ok (.aload_n 0, 1) := by decide +kernel
theorem dX12_readFactor_47 : decode cX12_readFactor 47 = .ok (.invokevirtual 250, 3) := by decide +kernel
theorem dX12_readFactor_50 : decode cX12_readFactor 50 = .ok (.bipush 49, 2) := by decide +kernel
theorem dX12_readFactor_52 : decode cX12_readFactor 52 = .ok (.bipush 51, 2) := by decide +kernel
theorem dX12_readFactor_54 : decode cX12_readFactor 54 = .ok (.aload_n 0, 1) := by decide +kernel
theorem dX12_readFactor_55 : decode cX12_readFactor 55 = .ok (.getfield 253, 3) := by decide +kernel
theorem dX12_readFactor_58 : decode cX12_readFactor 58 = .ok (.isub, 1) := by decide +kernel
theorem dX12_readFactor_59 : decode cX12_readFactor 59 = .ok (.aload_n 0, 1) := by decide +kernel
theorem dX12_readFactor_60 : decode cX12_readFactor 60 = .ok (.getfield 256, 3) := by decide +kernel
theorem dX12_readFactor_63 : decode cX12_readFactor 63 = .ok (.isub, 1) := by decide +kernel
theorem dX12_readFactor_64 : decode cX12_readFactor 64 = .ok (.invokestatic 71, 3) := by decide +kernel
theorem dX12_readFactor_67 : decode cX12_readFactor 67 = .ok (.ifCond .ne 5, 3) := by decide +kernel
theorem dX12_readFactor_70 : decode cX12_readFactor 70 = .ok (.iconst 0, 1) := by decide +kernel
theorem dX12_readFactor_71 : decode cX12_readFactor 71 = .ok (.ireturn, 1) := by decide +kernel
theorem dX12_readFactor_72 : decode cX12_readFactor 72 = .ok (.aload_n 0, 1) := by decide +kernel
theorem dX12_readFactor_73 : decode cX12_readFactor 73 = .ok (.invokevirtual 250, 3) := by decide +kernel
theorem dX12_readFactor_76 : decode cX12_readFactor 76 = .ok (.bipush 48, 2) := by decide +kernel
theorem dX12_readFactor_78 : decode cX12_readFactor 78 = .ok (.isub, 1) := by decide +kernel
theorem dX12_readFactor_79 : decode cX12_readFactor 79 = .ok (.istore_n 2, 1) := by decide +kernel
theorem dX12_readFactor_80 : decode cX12_readFactor 80 = .ok (.aload_n 0, 1) := by decide +kernel
theorem dX12_readFactor_81 : decode cX12_readFactor 81 = .ok (.dup, 1) := by decide +kernel
theorem dX12_readFactor_82 : decode cX12_readFactor 82 = .ok (.getfield 247, 3) := by decide +kernel
theorem dX12_readFactor_85 : decode cX12_readFactor 85 = .ok (.iconst 1, 1) := by decide +kernel
theorem dX12_readFactor_86 : decode cX12_readFactor 86 = .ok (.iadd, 1) := by decide +kernel
theorem dX12_readFactor_87 : decode cX12_readFactor 87 = .ok (.putfield 247, 3) := by decide +kernel
theorem dX12_readFactor_90 : decode cX12_readFactor 90 = .ok (.aload_n 0, 1) := by decide +kernel
theorem dX12_readFactor_91 : decode cX12_readFactor 91 = .ok (.dup, 1) := by decide +kernel
theorem dX12_readFactor_92 : decode cX12_readFactor 92 = .ok (.getfield 253, 3) := by decide +kernel
theorem dX12_readFactor_95 : decode cX12_readFactor 95 = .ok (.iload_n 1, 1) := by decide +kernel
theorem dX12_readFactor_96 : decode cX12_readFactor 96 = .ok (.ifCond .eq 7, 3) := by decide +kernel
theorem dX12_readFactor_99 : decode cX12_readFactor 99 = .ok (.iload_n 2, 1) := by decide +kernel
theorem dX12_readFactor_100 : decode cX12_readFactor 100 = .ok (.goto 4, 3) := by decide +kernel
theorem dX12_readFactor_103 : decode cX12_readFactor 103 = .ok (.iconst 0, 1) := by decide +kernel
theorem dX12_readFactor_104 : decode cX12_readFactor 104 = .ok (.iadd, 1) := by decide +kernel
theorem dX12_readFactor_105 : decode cX12_readFactor 105 = .ok (.putfield 253, 3) := by decide +kernel
theorem dX12_readFactor_108 : decode cX12_readFactor 108 = .ok (.aload_n 0, 1) := by decide +kernel
theorem dX12_readFactor_109 : decode cX12_readFactor 109 = .ok (.dup, 1) := by decide +kernel
theorem dX12_readFactor_110 : decode cX12_readFactor 110 = .ok (.getfield 256, 3) := by decide +kernel
theorem dX12_readFactor_113 : decode cX12_readFactor 113 = .ok (.iload_n 1, 1) := by decide +kernel
theorem dX12_readFactor_114 : decode cX12_readFactor 114 = .ok (.ifCond .eq 7, 3) := by decide +kernel
theorem dX12_readFactor_117 : decode cX12_readFactor 117 = .ok (.iconst 0, 1) := by decide +kernel
theorem dX12_readFactor_118 : decode cX12_readFactor 118 = .ok (.goto 4, 3) := by decide +kernel
theorem dX12_readFactor_121 : decode cX12_readFactor 121 = .ok (.iload_n 2, 1) := by decide +kernel
theorem dX12_readFactor_122 : decode cX12_readFactor 122 = .ok (.iadd, 1) := by decide +kernel
theorem dX12_readFactor_123 : decode cX12_readFactor 123 = .ok (.putfield 256, 3) := by decide +kernel
theorem dX12_readFactor_126 : decode cX12_readFactor 126 = .ok (.iconst 1, 1) := by decide +kernel
theorem dX12_readFactor_127 : decode cX12_readFactor 127 = .ok (.ireturn, 1) := by decide +kernel
set_option maxHeartbeats 1000000 in
set_option maxRecDepth 100000 in
theorem t_X12_readFactor (l : Launch) (D : xD) (z n : Nat) (G : xG) (I : xI) (L : xL) (A : Nat) (t : Nat → Nat) (N : Nat) (r : Nat) (px : Nat) (py : Nat) (hM : shMo G A) (zA : z ≤ A) (hT : mx I A t N r) (hC : txc t N) (hr : r < N) (hun : unk (sg t N r) = true) (hd : px + py < 3) (hpx : I A 19 = nI px) (hpy : I A 20 = nI py) : xM0 l D z yX12_readFactor cX12_readFactor 3 (some .boolean) 1 22 [.ref A] n G I L (xE (some (.int (bI (decide (¬ (fac t N (px + py) r).1 = 0))))) (if (fac t N (px + py) r).1 = 0 then xup I A 18 (nI (fac t N (px + py) r).2) else xup (xup (xup I A 18 (nI (fac t N (px + py) r).2)) A 19 (nI (if sg t N r = 120 then px + (fac t N (px + py) r).1 else px))) A 20 (nI (if sg t N r = 120 then py else py + (fac t N (px + py) r).1))) L) := by
  refine xM.of (by decide) (Nat.le_of_ble_eq_true rfl) (fun p e s m args below meth c C hnm hsz => ?_)
  refine x_lv [(0, .ref A)] rfl ?_
  have hN6 := hC.1
  have hun2 := unk_b.mp hun
  have hs0 := sg_le hC r
  refine x_aload_n 0 C dX12_readFactor_0 rfl 0 rfl ?_
  refine x_callVe 1 C dX12_readFactor_1 (As := []) (rest := []) [.int (nI (sg t N r))] (t_X12_here l D z n G I L A t N r hM hT hC (by omega)) mt_X12_here km_X12_250 ki_X12_here ks_X12_here hM.1 ⟨by decide, rfl⟩ rfl rfl (Nat.le_of_ble_eq_true rfl) ⟨⟨by decide, by decide⟩, by decide, by decide⟩ (fun I1 L2 eI1 eL2 => ?_)
  replace eI1 := eI1.symm; subst eI1
  replace eL2 := eL2.symm; subst eL2
  refine x_bipush 4 C (v := 120) dX12_readFactor_4 rfl ?_
  refine x_icmp_ne 6 C 13 dX12_readFactor_6 (by decide) (fun c3 => ?_) (fun c3 => ?_)
  · skip
    have c3n : ¬ ((sg t N r) = 120) := fun h => c3 ((nI_eq (a := (sg t N r)) (b := 120) (by omega) (by omega)).mpr h)
    refine x_iconst 13 C (v := 0) dX12_readFactor_13 rfl ?_
    refine x_istore_n 14 C [(1, .int 0), (0, .ref A)] dX12_readFactor_14 rfl (by decide) rfl ?_
    refine x_iconst 15 C (v := 1) dX12_readFactor_15 rfl ?_
    refine x_istore_n 16 C [(2, .int 1), (1, .int 0), (0, .ref A)] dX12_readFactor_16 rfl (by decide) rfl ?_
    refine x_aload_n 17 C dX12_readFactor_17 rfl 2 rfl ?_
    refine x_dup 18 C dX12_readFactor_18 rfl ?_
    refine x_geti 19 C dX12_readFactor_19 ff_X12_247 hM.1 ?_
    refine x_int (nI r) hT.2.2 ?_
    refine x_iconst 22 C (v := 1) dX12_readFactor_22 rfl ?_
    refine x_iadd 23 C dX12_readFactor_23 ?_
    refine x_int (nI (r + 1)) (nI_add r 1) ?_
    refine x_puti 24 C dX12_readFactor_24 ff_X12_247 rfl hM.1 (by omega) (fun I4 eI4 => ?_)
    have hT1 : mx I4 A t N (r + 1) := by rw [eI4]; exact mx_up hT _
    refine x_aload_n 27 C dX12_readFactor_27 rfl 2 rfl ?_
    by_cases h1 : r + 1 < N
    · skip
      refine x_callVe 28 C dX12_readFactor_28 (As := []) (rest := []) [.int (nI (sg t N (r + 1)))] (t_X12_here l D z n G I4 L A t N (r + 1) hM hT1 hC (by omega)) mt_X12_here km_X12_250 ki_X12_here ks_X12_here hM.1 ⟨by decide, rfl⟩ rfl rfl (Nat.le_of_ble_eq_true rfl) ⟨⟨by decide, by decide⟩, by decide, by decide⟩ (fun I5 L6 eI5 eL6 => ?_)
      replace eI5 := eI5.symm; subst eI5
      replace eL6 := eL6.symm; subst eL6
      have hs1 := sg_le hC (r + 1)
      refine x_bipush 31 C (v := 94) dX12_readFactor_31 rfl ?_
      refine x_icmp_ne 33 C 90 dX12_readFactor_33 (by decide) (fun c7 => ?_) (fun c7 => ?_)
      · skip
        have c7n : ¬ ((sg t N (r + 1)) = 94) := fun h => c7 ((nI_eq (a := (sg t N (r + 1))) (b := 94) (by omega) (by omega)).mpr h)
        refine x_aload_n 90 C dX12_readFactor_90 rfl 2 rfl ?_
        refine x_dup 91 C dX12_readFactor_91 rfl ?_
        refine x_geti 92 C dX12_readFactor_92 ff_X12_253 hM.1 ?_
        refine x_int (nI px) (by rw [eI4]; simp only [xup_ne _ _ (show ¬ (A = A ∧ 19 = 18) by omega)]; exact hpx) ?_
        refine x_iload_n 95 C dX12_readFactor_95 rfl 1 rfl ?_
        refine x_if_eq 96 C 103 dX12_readFactor_96 (by decide) (fun _ => ?_) (fun c8 => absurd (by decide) c8)
        refine x_iconst 103 C (v := 0) dX12_readFactor_103 rfl ?_
        refine x_iadd 104 C dX12_readFactor_104 ?_
        refine x_int (nI (px + 0)) (nI_add px 0) ?_
        refine x_puti 105 C dX12_readFactor_105 ff_X12_253 rfl hM.1 (by omega) (fun I9 eI9 => ?_)
        refine x_aload_n 108 C dX12_readFactor_108 rfl 2 rfl ?_
        refine x_dup 109 C dX12_readFactor_109 rfl ?_
        refine x_geti 110 C dX12_readFactor_110 ff_X12_256 hM.1 ?_
        refine x_int (nI py) (by rw [eI9, eI4]; simp only [xup_ne _ _ (show ¬ (A = A ∧ 20 = 18) by omega), xup_ne _ _ (show ¬ (A = A ∧ 20 = 19) by omega)]; exact hpy) ?_
        refine x_iload_n 113 C dX12_readFactor_113 rfl 1 rfl ?_
        refine x_if_eq 114 C 121 dX12_readFactor_114 (by decide) (fun _ => ?_) (fun c10 => absurd (by decide) c10)
        refine x_iload_n 121 C dX12_readFactor_121 rfl 0 rfl ?_
        refine x_iadd 122 C dX12_readFactor_122 ?_
        refine x_int (nI (py + 1)) (nI_add py 1) ?_
        refine x_puti 123 C dX12_readFactor_123 ff_X12_256 rfl hM.1 (by omega) (fun I11 eI11 => ?_)
        refine x_iconst 126 C (v := 1) dX12_readFactor_126 rfl ?_
        refine x_iret 127 C dX12_readFactor_127 rfl rfl (Nat.le_refl _) (xN.intro ?_)
        have hv : (fac t N (px + py) r) = (1, r + 1) := by unfold fac; rw [if_neg (by omega), if_neg (by omega)]
        have hv0 : ¬ (fac t N (px + py) r).1 = 0 := by rw [hv]; show ¬ 1 = 0; omega
        refine ⟨by rw [decide_eq_true hv0]; rfl, ?_, rfl⟩
        rw [if_neg hv0, hv, eI11, eI9, eI4]; simp only [xup2]
        first | (simp only [if_pos (show sg t N r = 120 by assumption)]; done) | (simp only [if_neg (show ¬ sg t N r = 120 by assumption)]; done) | simp [*]
      · skip
        have c7n : (sg t N (r + 1)) = 94 := (nI_eq (a := (sg t N (r + 1))) (b := 94) (by omega) (by omega)).mp c7
        refine x_aload_n 36 C dX12_readFactor_36 rfl 2 rfl ?_
        refine x_dup 37 C dX12_readFactor_37 rfl ?_
        refine x_geti 38 C dX12_readFactor_38 ff_X12_247 hM.1 ?_
        refine x_int (nI (r + 1)) hT1.2.2 ?_
        refine x_iconst 41 C (v := 1) dX12_readFactor_41 rfl ?_
        refine x_iadd 42 C dX12_readFactor_42 ?_
        refine x_int (nI (r + 1 + 1)) (nI_add (r + 1) 1) ?_
        refine x_puti 43 C dX12_readFactor_43 ff_X12_247 rfl hM.1 (by omega) (fun I12 eI12 => ?_)
        have hT2 : mx I12 A t N (r + 2) := by rw [eI12]; exact mx_up hT1 _
        refine x_aload_n 46 C dX12_readFactor_46 rfl 2 rfl ?_
        by_cases h2 : r + 2 < N
        · skip
          refine x_callVe 47 C dX12_readFactor_47 (As := []) (rest := []) [.int (nI (sg t N (r + 2)))] (t_X12_here l D z n G I12 L A t N (r + 2) hM hT2 hC (by omega)) mt_X12_here km_X12_250 ki_X12_here ks_X12_here hM.1 ⟨by decide, rfl⟩ rfl rfl (Nat.le_of_ble_eq_true rfl) ⟨⟨by decide, by decide⟩, by decide, by decide⟩ (fun I13 L14 eI13 eL14 => ?_)
          replace eI13 := eI13.symm; subst eI13
          replace eL14 := eL14.symm; subst eL14
          have hs2 := sg_le hC (r + 2)
          refine x_bipush 50 C (v := 49) dX12_readFactor_50 rfl ?_
          refine x_bipush 52 C (v := 51) dX12_readFactor_52 rfl ?_
          refine x_aload_n 54 C dX12_readFactor_54 rfl 2 rfl ?_
          refine x_geti 55 C dX12_readFactor_55 ff_X12_253 hM.1 ?_
          refine x_int (nI px) (by rw [eI12, eI4]; simp only [xup_ne _ _ (show ¬ (A = A ∧ 19 = 18) by omega)]; exact hpx) ?_
          refine x_isub 58 C dX12_readFactor_58 ?_
          refine x_int (nI (51 - px)) (nI_sub (a := 51) (b := px) (by omega)) ?_
          refine x_aload_n 59 C dX12_readFactor_59 rfl 2 rfl ?_
          refine x_geti 60 C dX12_readFactor_60 ff_X12_256 hM.1 ?_
          refine x_int (nI py) (by rw [eI12, eI4]; simp only [xup_ne _ _ (show ¬ (A = A ∧ 20 = 18) by omega)]; exact hpy) ?_
          refine x_isub 63 C dX12_readFactor_63 ?_
          refine x_int (nI (51 - px - py)) (nI_sub (a := (51 - px)) (b := py) (by omega)) ?_
          refine x_callSe 64 C dX12_readFactor_64 (As := [.int (nI (sg t N (r + 2))), .int 49, .int (nI (51 - px - py))]) (rest := []) [.int (bI (decide (49 ≤ (sg t N (r + 2))) && decide ((sg t N (r + 2)) ≤ (51 - px - py))))] (t_X12_in_n l D z n G I12 L (sg t N (r + 2)) 49 (51 - px - py) (by first | omega | assumption | decide) (by first | omega | assumption | decide) (by first | omega | assumption | decide)) mt_X12_in km_X12_71 kt_X12_in rfl rfl (Nat.le_of_ble_eq_true rfl) ⟨⟨by decide, by decide⟩, by decide, by decide⟩ (fun I15 L16 eI15 eL16 => ?_)
          replace eI15 := eI15.symm; subst eI15
          replace eL16 := eL16.symm; subst eL16
          refine x_if_ne 67 C 72 dX12_readFactor_67 (by decide) (fun c17 => ?_) (fun c17 => ?_)
          · skip
            have hbb : _ := bI_n0.mp c17
            simp only [Bool.and_eq_true, decide_eq_true_eq] at hbb
            refine x_aload_n 72 C dX12_readFactor_72 rfl 2 rfl ?_
            refine x_callVe 73 C dX12_readFactor_73 (As := []) (rest := []) [.int (nI (sg t N (r + 2)))] (t_X12_here l D z n G I12 L A t N (r + 2) hM hT2 hC (by omega)) mt_X12_here km_X12_250 ki_X12_here ks_X12_here hM.1 ⟨by decide, rfl⟩ rfl rfl (Nat.le_of_ble_eq_true rfl) ⟨⟨by decide, by decide⟩, by decide, by decide⟩ (fun I18 L19 eI18 eL19 => ?_)
            replace eI18 := eI18.symm; subst eI18
            replace eL19 := eL19.symm; subst eL19
            refine x_bipush 76 C (v := 48) dX12_readFactor_76 rfl ?_
            refine x_isub 78 C dX12_readFactor_78 ?_
            refine x_int (nI (sg t N (r + 2) - 48)) (nI_sub (a := (sg t N (r + 2))) (b := 48) (by omega)) ?_
            refine x_istore_n 79 C [(2, .int (nI (sg t N (r + 2) - 48))), (1, .int 0), (0, .ref A)] dX12_readFactor_79 rfl (by decide) rfl ?_
            refine x_aload_n 80 C dX12_readFactor_80 rfl 2 rfl ?_
            refine x_dup 81 C dX12_readFactor_81 rfl ?_
            refine x_geti 82 C dX12_readFactor_82 ff_X12_247 hM.1 ?_
            refine x_int (nI (r + 2)) hT2.2.2 ?_
            refine x_iconst 85 C (v := 1) dX12_readFactor_85 rfl ?_
            refine x_iadd 86 C dX12_readFactor_86 ?_
            refine x_int (nI (r + 2 + 1)) (nI_add (r + 2) 1) ?_
            refine x_puti 87 C dX12_readFactor_87 ff_X12_247 rfl hM.1 (by omega) (fun I20 eI20 => ?_)
            refine x_aload_n 90 C dX12_readFactor_90 rfl 2 rfl ?_
            refine x_dup 91 C dX12_readFactor_91 rfl ?_
            refine x_geti 92 C dX12_readFactor_92 ff_X12_253 hM.1 ?_
            refine x_int (nI px) (by rw [eI20, eI12, eI4]; simp only [xup_ne _ _ (show ¬ (A = A ∧ 19 = 18) by omega)]; exact hpx) ?_
            refine x_iload_n 95 C dX12_readFactor_95 rfl 1 rfl ?_
            refine x_if_eq 96 C 103 dX12_readFactor_96 (by decide) (fun _ => ?_) (fun c21 => absurd (by decide) c21)
            refine x_iconst 103 C (v := 0) dX12_readFactor_103 rfl ?_
            refine x_iadd 104 C dX12_readFactor_104 ?_
            refine x_int (nI (px + 0)) (nI_add px 0) ?_
            refine x_puti 105 C dX12_readFactor_105 ff_X12_253 rfl hM.1 (by omega) (fun I22 eI22 => ?_)
            refine x_aload_n 108 C dX12_readFactor_108 rfl 2 rfl ?_
            refine x_dup 109 C dX12_readFactor_109 rfl ?_
            refine x_geti 110 C dX12_readFactor_110 ff_X12_256 hM.1 ?_
            refine x_int (nI py) (by rw [eI22, eI20, eI12, eI4]; simp only [xup_ne _ _ (show ¬ (A = A ∧ 20 = 18) by omega), xup_ne _ _ (show ¬ (A = A ∧ 20 = 19) by omega)]; exact hpy) ?_
            refine x_iload_n 113 C dX12_readFactor_113 rfl 1 rfl ?_
            refine x_if_eq 114 C 121 dX12_readFactor_114 (by decide) (fun _ => ?_) (fun c23 => absurd (by decide) c23)
            refine x_iload_n 121 C dX12_readFactor_121 rfl 0 rfl ?_
            refine x_iadd 122 C dX12_readFactor_122 ?_
            refine x_int (nI (py + (sg t N (r + 2) - 48))) (nI_add py (sg t N (r + 2) - 48)) ?_
            refine x_puti 123 C dX12_readFactor_123 ff_X12_256 rfl hM.1 (by omega) (fun I24 eI24 => ?_)
            refine x_iconst 126 C (v := 1) dX12_readFactor_126 rfl ?_
            refine x_iret 127 C dX12_readFactor_127 rfl rfl (Nat.le_refl _) (xN.intro ?_)
            have hv : (fac t N (px + py) r) = (sg t N (r + 2) - 48, r + 3) := by unfold fac; rw [if_neg (by omega), if_pos (by assumption), if_neg (by omega)]
            have hv0 : ¬ (fac t N (px + py) r).1 = 0 := by rw [hv]; show ¬ sg t N (r + 2) - 48 = 0; omega
            refine ⟨by rw [decide_eq_true hv0]; rfl, ?_, rfl⟩
            rw [if_neg hv0, hv, eI24, eI22, eI20, eI12, eI4]; simp only [xup2]
            first | (simp only [if_pos (show sg t N r = 120 by assumption)]; done) | (simp only [if_neg (show ¬ sg t N r = 120 by assumption)]; done) | simp [*]
          · skip
            have hbb : _ := bI_0.mp c17
            simp only [Bool.and_eq_false_iff, decide_eq_false_iff_not] at hbb
            refine x_iconst 70 C (v := 0) dX12_readFactor_70 rfl ?_
            refine x_iret 71 C dX12_readFactor_71 rfl rfl (Nat.le_refl _) (xN.intro ?_)
            have hv : (fac t N (px + py) r) = (0, r + 2) := by unfold fac; rw [if_neg (by omega), if_pos (by assumption), if_pos (by omega)]
            refine ⟨by rw [hv]; rfl, ?_, rfl⟩
            rw [if_pos (by rw [hv]), hv, eI12, eI4]; simp only [xup2]
        · skip
          refine x_callVe 47 C dX12_readFactor_47 (As := []) (rest := []) [.int (-1)] (t_X12_here_out l D z n G I12 L A t N (r + 2) hM hT2 hC (by omega)) mt_X12_here km_X12_250 ki_X12_here ks_X12_here hM.1 ⟨by decide, rfl⟩ rfl rfl (Nat.le_of_ble_eq_true rfl) ⟨⟨by decide, by decide⟩, by decide, by decide⟩ (fun I25 L26 eI25 eL26 => ?_)
          replace eI25 := eI25.symm; subst eI25
          replace eL26 := eL26.symm; subst eL26
          have hs2 := sg_out (t := t) h2
          refine x_bipush 50 C (v := 49) dX12_readFactor_50 rfl ?_
          refine x_bipush 52 C (v := 51) dX12_readFactor_52 rfl ?_
          refine x_aload_n 54 C dX12_readFactor_54 rfl 2 rfl ?_
          refine x_geti 55 C dX12_readFactor_55 ff_X12_253 hM.1 ?_
          refine x_int (nI px) (by rw [eI12, eI4]; simp only [xup_ne _ _ (show ¬ (A = A ∧ 19 = 18) by omega)]; exact hpx) ?_
          refine x_isub 58 C dX12_readFactor_58 ?_
          refine x_int (nI (51 - px)) (nI_sub (a := 51) (b := px) (by omega)) ?_
          refine x_aload_n 59 C dX12_readFactor_59 rfl 2 rfl ?_
          refine x_geti 60 C dX12_readFactor_60 ff_X12_256 hM.1 ?_
          refine x_int (nI py) (by rw [eI12, eI4]; simp only [xup_ne _ _ (show ¬ (A = A ∧ 20 = 18) by omega)]; exact hpy) ?_
          refine x_isub 63 C dX12_readFactor_63 ?_
          refine x_int (nI (51 - px - py)) (nI_sub (a := (51 - px)) (b := py) (by omega)) ?_
          refine x_callSe 64 C dX12_readFactor_64 (As := [.int (-1), .int 49, .int (nI (51 - px - py))]) (rest := []) [.int (bI (decide (49 ≤ (-1)) && decide ((-1) ≤ (nI (51 - px - py)))))] (t_X12_in l D z n G I12 L (-1) 49 (nI (51 - px - py)) ) mt_X12_in km_X12_71 kt_X12_in rfl rfl (Nat.le_of_ble_eq_true rfl) ⟨⟨by decide, by decide⟩, by decide, by decide⟩ (fun I27 L28 eI27 eL28 => ?_)
          replace eI27 := eI27.symm; subst eI27
          replace eL28 := eL28.symm; subst eL28
          refine x_if_ne 67 C 72 dX12_readFactor_67 (by decide) (fun c29 => absurd (by rfl) c29) (fun _ => ?_)
          refine x_iconst 70 C (v := 0) dX12_readFactor_70 rfl ?_
          refine x_iret 71 C dX12_readFactor_71 rfl rfl (Nat.le_refl _) (xN.intro ?_)
          have hv : (fac t N (px + py) r) = (0, r + 2) := by unfold fac; rw [if_neg (by omega), if_pos (by assumption), if_pos (by omega)]
          refine ⟨by rw [hv]; rfl, ?_, rfl⟩
          rw [if_pos (by rw [hv]), hv, eI12, eI4]; simp only [xup2]
    · skip
      refine x_callVe 28 C dX12_readFactor_28 (As := []) (rest := []) [.int (-1)] (t_X12_here_out l D z n G I4 L A t N (r + 1) hM hT1 hC (by omega)) mt_X12_here km_X12_250 ki_X12_here ks_X12_here hM.1 ⟨by decide, rfl⟩ rfl rfl (Nat.le_of_ble_eq_true rfl) ⟨⟨by decide, by decide⟩, by decide, by decide⟩ (fun I30 L31 eI30 eL31 => ?_)
      replace eI30 := eI30.symm; subst eI30
      replace eL31 := eL31.symm; subst eL31
      have hs1 := sg_out (t := t) h1
      refine x_bipush 31 C (v := 94) dX12_readFactor_31 rfl ?_
      refine x_icmp_ne 33 C 90 dX12_readFactor_33 (by decide) (fun _ => ?_) (fun c32 => absurd c32 (by decide))
      refine x_aload_n 90 C dX12_readFactor_90 rfl 2 rfl ?_
      refine x_dup 91 C dX12_readFactor_91 rfl ?_
      refine x_geti 92 C dX12_readFactor_92 ff_X12_253 hM.1 ?_
      refine x_int (nI px) (by rw [eI4]; simp only [xup_ne _ _ (show ¬ (A = A ∧ 19 = 18) by omega)]; exact hpx) ?_
      refine x_iload_n 95 C dX12_readFactor_95 rfl 1 rfl ?_
      refine x_if_eq 96 C 103 dX12_readFactor_96 (by decide) (fun _ => ?_) (fun c33 => absurd (by decide) c33)
      refine x_iconst 103 C (v := 0) dX12_readFactor_103 rfl ?_
      refine x_iadd 104 C dX12_readFactor_104 ?_
      refine x_int (nI (px + 0)) (nI_add px 0) ?_
      refine x_puti 105 C dX12_readFactor_105 ff_X12_253 rfl hM.1 (by omega) (fun I34 eI34 => ?_)
      refine x_aload_n 108 C dX12_readFactor_108 rfl 2 rfl ?_
      refine x_dup 109 C dX12_readFactor_109 rfl ?_
      refine x_geti 110 C dX12_readFactor_110 ff_X12_256 hM.1 ?_
      refine x_int (nI py) (by rw [eI34, eI4]; simp only [xup_ne _ _ (show ¬ (A = A ∧ 20 = 18) by omega), xup_ne _ _ (show ¬ (A = A ∧ 20 = 19) by omega)]; exact hpy) ?_
      refine x_iload_n 113 C dX12_readFactor_113 rfl 1 rfl ?_
      refine x_if_eq 114 C 121 dX12_readFactor_114 (by decide) (fun _ => ?_) (fun c35 => absurd (by decide) c35)
      refine x_iload_n 121 C dX12_readFactor_121 rfl 0 rfl ?_
      refine x_iadd 122 C dX12_readFactor_122 ?_
      refine x_int (nI (py + 1)) (nI_add py 1) ?_
      refine x_puti 123 C dX12_readFactor_123 ff_X12_256 rfl hM.1 (by omega) (fun I36 eI36 => ?_)
      refine x_iconst 126 C (v := 1) dX12_readFactor_126 rfl ?_
      refine x_iret 127 C dX12_readFactor_127 rfl rfl (Nat.le_refl _) (xN.intro ?_)
      have hv : (fac t N (px + py) r) = (1, r + 1) := by unfold fac; rw [if_neg (by omega), if_neg (by omega)]
      have hv0 : ¬ (fac t N (px + py) r).1 = 0 := by rw [hv]; show ¬ 1 = 0; omega
      refine ⟨by rw [decide_eq_true hv0]; rfl, ?_, rfl⟩
      rw [if_neg hv0, hv, eI36, eI34, eI4]; simp only [xup2]
      first | (simp only [if_pos (show sg t N r = 120 by assumption)]; done) | (simp only [if_neg (show ¬ sg t N r = 120 by assumption)]; done) | simp [*]
  · skip
    have c3n : (sg t N r) = 120 := (nI_eq (a := (sg t N r)) (b := 120) (by omega) (by omega)).mp c3
    refine x_iconst 9 C (v := 1) dX12_readFactor_9 rfl ?_
    refine x_goto 10 C 14 dX12_readFactor_10 (by decide) ?_
    refine x_istore_n 14 C [(1, .int 1), (0, .ref A)] dX12_readFactor_14 rfl (by decide) rfl ?_
    refine x_iconst 15 C (v := 1) dX12_readFactor_15 rfl ?_
    refine x_istore_n 16 C [(2, .int 1), (1, .int 1), (0, .ref A)] dX12_readFactor_16 rfl (by decide) rfl ?_
    refine x_aload_n 17 C dX12_readFactor_17 rfl 2 rfl ?_
    refine x_dup 18 C dX12_readFactor_18 rfl ?_
    refine x_geti 19 C dX12_readFactor_19 ff_X12_247 hM.1 ?_
    refine x_int (nI r) hT.2.2 ?_
    refine x_iconst 22 C (v := 1) dX12_readFactor_22 rfl ?_
    refine x_iadd 23 C dX12_readFactor_23 ?_
    refine x_int (nI (r + 1)) (nI_add r 1) ?_
    refine x_puti 24 C dX12_readFactor_24 ff_X12_247 rfl hM.1 (by omega) (fun I37 eI37 => ?_)
    have hT1 : mx I37 A t N (r + 1) := by rw [eI37]; exact mx_up hT _
    refine x_aload_n 27 C dX12_readFactor_27 rfl 2 rfl ?_
    by_cases h1 : r + 1 < N
    · skip
      refine x_callVe 28 C dX12_readFactor_28 (As := []) (rest := []) [.int (nI (sg t N (r + 1)))] (t_X12_here l D z n G I37 L A t N (r + 1) hM hT1 hC (by omega)) mt_X12_here km_X12_250 ki_X12_here ks_X12_here hM.1 ⟨by decide, rfl⟩ rfl rfl (Nat.le_of_ble_eq_true rfl) ⟨⟨by decide, by decide⟩, by decide, by decide⟩ (fun I38 L39 eI38 eL39 => ?_)
      replace eI38 := eI38.symm; subst eI38
      replace eL39 := eL39.symm; subst eL39
      have hs1 := sg_le hC (r + 1)
      refine x_bipush 31 C (v := 94) dX12_readFactor_31 rfl ?_
      refine x_icmp_ne 33 C 90 dX12_readFactor_33 (by decide) (fun c40 => ?_) (fun c40 => ?_)
      · skip
        have c40n : ¬ ((sg t N (r + 1)) = 94) := fun h => c40 ((nI_eq (a := (sg t N (r + 1))) (b := 94) (by omega) (by omega)).mpr h)
        refine x_aload_n 90 C dX12_readFactor_90 rfl 2 rfl ?_
        refine x_dup 91 C dX12_readFactor_91 rfl ?_
        refine x_geti 92 C dX12_readFactor_92 ff_X12_253 hM.1 ?_
        refine x_int (nI px) (by rw [eI37]; simp only [xup_ne _ _ (show ¬ (A = A ∧ 19 = 18) by omega)]; exact hpx) ?_
        refine x_iload_n 95 C dX12_readFactor_95 rfl 1 rfl ?_
        refine x_if_eq 96 C 103 dX12_readFactor_96 (by decide) (fun c41 => absurd c41 (by decide)) (fun _ => ?_)
        refine x_iload_n 99 C dX12_readFactor_99 rfl 0 rfl ?_
        refine x_goto 100 C 104 dX12_readFactor_100 (by decide) ?_
        refine x_iadd 104 C dX12_readFactor_104 ?_
        refine x_int (nI (px + 1)) (nI_add px 1) ?_
        refine x_puti 105 C dX12_readFactor_105 ff_X12_253 rfl hM.1 (by omega) (fun I42 eI42 => ?_)
        refine x_aload_n 108 C dX12_readFactor_108 rfl 2 rfl ?_
        refine x_dup 109 C dX12_readFactor_109 rfl ?_
        refine x_geti 110 C dX12_readFactor_110 ff_X12_256 hM.1 ?_
        refine x_int (nI py) (by rw [eI42, eI37]; simp only [xup_ne _ _ (show ¬ (A = A ∧ 20 = 18) by omega), xup_ne _ _ (show ¬ (A = A ∧ 20 = 19) by omega)]; exact hpy) ?_
        refine x_iload_n 113 C dX12_readFactor_113 rfl 1 rfl ?_
        refine x_if_eq 114 C 121 dX12_readFactor_114 (by decide) (fun c43 => absurd c43 (by decide)) (fun _ => ?_)
        refine x_iconst 117 C (v := 0) dX12_readFactor_117 rfl ?_
        refine x_goto 118 C 122 dX12_readFactor_118 (by decide) ?_
        refine x_iadd 122 C dX12_readFactor_122 ?_
        refine x_int (nI (py + 0)) (nI_add py 0) ?_
        refine x_puti 123 C dX12_readFactor_123 ff_X12_256 rfl hM.1 (by omega) (fun I44 eI44 => ?_)
        refine x_iconst 126 C (v := 1) dX12_readFactor_126 rfl ?_
        refine x_iret 127 C dX12_readFactor_127 rfl rfl (Nat.le_refl _) (xN.intro ?_)
        have hv : (fac t N (px + py) r) = (1, r + 1) := by unfold fac; rw [if_neg (by omega), if_neg (by omega)]
        have hv0 : ¬ (fac t N (px + py) r).1 = 0 := by rw [hv]; show ¬ 1 = 0; omega
        refine ⟨by rw [decide_eq_true hv0]; rfl, ?_, rfl⟩
        rw [if_neg hv0, hv, eI44, eI42, eI37]; simp only [xup2]
        first | (simp only [if_pos (show sg t N r = 120 by assumption)]; done) | (simp only [if_neg (show ¬ sg t N r = 120 by assumption)]; done) | simp [*]
      · skip
        have c40n : (sg t N (r + 1)) = 94 := (nI_eq (a := (sg t N (r + 1))) (b := 94) (by omega) (by omega)).mp c40
        refine x_aload_n 36 C dX12_readFactor_36 rfl 2 rfl ?_
        refine x_dup 37 C dX12_readFactor_37 rfl ?_
        refine x_geti 38 C dX12_readFactor_38 ff_X12_247 hM.1 ?_
        refine x_int (nI (r + 1)) hT1.2.2 ?_
        refine x_iconst 41 C (v := 1) dX12_readFactor_41 rfl ?_
        refine x_iadd 42 C dX12_readFactor_42 ?_
        refine x_int (nI (r + 1 + 1)) (nI_add (r + 1) 1) ?_
        refine x_puti 43 C dX12_readFactor_43 ff_X12_247 rfl hM.1 (by omega) (fun I45 eI45 => ?_)
        have hT2 : mx I45 A t N (r + 2) := by rw [eI45]; exact mx_up hT1 _
        refine x_aload_n 46 C dX12_readFactor_46 rfl 2 rfl ?_
        by_cases h2 : r + 2 < N
        · skip
          refine x_callVe 47 C dX12_readFactor_47 (As := []) (rest := []) [.int (nI (sg t N (r + 2)))] (t_X12_here l D z n G I45 L A t N (r + 2) hM hT2 hC (by omega)) mt_X12_here km_X12_250 ki_X12_here ks_X12_here hM.1 ⟨by decide, rfl⟩ rfl rfl (Nat.le_of_ble_eq_true rfl) ⟨⟨by decide, by decide⟩, by decide, by decide⟩ (fun I46 L47 eI46 eL47 => ?_)
          replace eI46 := eI46.symm; subst eI46
          replace eL47 := eL47.symm; subst eL47
          have hs2 := sg_le hC (r + 2)
          refine x_bipush 50 C (v := 49) dX12_readFactor_50 rfl ?_
          refine x_bipush 52 C (v := 51) dX12_readFactor_52 rfl ?_
          refine x_aload_n 54 C dX12_readFactor_54 rfl 2 rfl ?_
          refine x_geti 55 C dX12_readFactor_55 ff_X12_253 hM.1 ?_
          refine x_int (nI px) (by rw [eI45, eI37]; simp only [xup_ne _ _ (show ¬ (A = A ∧ 19 = 18) by omega)]; exact hpx) ?_
          refine x_isub 58 C dX12_readFactor_58 ?_
          refine x_int (nI (51 - px)) (nI_sub (a := 51) (b := px) (by omega)) ?_
          refine x_aload_n 59 C dX12_readFactor_59 rfl 2 rfl ?_
          refine x_geti 60 C dX12_readFactor_60 ff_X12_256 hM.1 ?_
          refine x_int (nI py) (by rw [eI45, eI37]; simp only [xup_ne _ _ (show ¬ (A = A ∧ 20 = 18) by omega)]; exact hpy) ?_
          refine x_isub 63 C dX12_readFactor_63 ?_
          refine x_int (nI (51 - px - py)) (nI_sub (a := (51 - px)) (b := py) (by omega)) ?_
          refine x_callSe 64 C dX12_readFactor_64 (As := [.int (nI (sg t N (r + 2))), .int 49, .int (nI (51 - px - py))]) (rest := []) [.int (bI (decide (49 ≤ (sg t N (r + 2))) && decide ((sg t N (r + 2)) ≤ (51 - px - py))))] (t_X12_in_n l D z n G I45 L (sg t N (r + 2)) 49 (51 - px - py) (by first | omega | assumption | decide) (by first | omega | assumption | decide) (by first | omega | assumption | decide)) mt_X12_in km_X12_71 kt_X12_in rfl rfl (Nat.le_of_ble_eq_true rfl) ⟨⟨by decide, by decide⟩, by decide, by decide⟩ (fun I48 L49 eI48 eL49 => ?_)
          replace eI48 := eI48.symm; subst eI48
          replace eL49 := eL49.symm; subst eL49
          refine x_if_ne 67 C 72 dX12_readFactor_67 (by decide) (fun c50 => ?_) (fun c50 => ?_)
          · skip
            have hbb : _ := bI_n0.mp c50
            simp only [Bool.and_eq_true, decide_eq_true_eq] at hbb
            refine x_aload_n 72 C dX12_readFactor_72 rfl 2 rfl ?_
            refine x_callVe 73 C dX12_readFactor_73 (As := []) (rest := []) [.int (nI (sg t N (r + 2)))] (t_X12_here l D z n G I45 L A t N (r + 2) hM hT2 hC (by omega)) mt_X12_here km_X12_250 ki_X12_here ks_X12_here hM.1 ⟨by decide, rfl⟩ rfl rfl (Nat.le_of_ble_eq_true rfl) ⟨⟨by decide, by decide⟩, by decide, by decide⟩ (fun I51 L52 eI51 eL52 => ?_)
            replace eI51 := eI51.symm; subst eI51
            replace eL52 := eL52.symm; subst eL52
            refine x_bipush 76 C (v := 48) dX12_readFactor_76 rfl ?_
            refine x_isub 78 C dX12_readFactor_78 ?_
            refine x_int (nI (sg t N (r + 2) - 48)) (nI_sub (a := (sg t N (r + 2))) (b := 48) (by omega)) ?_
            refine x_istore_n 79 C [(2, .int (nI (sg t N (r + 2) - 48))), (1, .int 1), (0, .ref A)] dX12_readFactor_79 rfl (by decide) rfl ?_
            refine x_aload_n 80 C dX12_readFactor_80 rfl 2 rfl ?_
            refine x_dup 81 C dX12_readFactor_81 rfl ?_
            refine x_geti 82 C dX12_readFactor_82 ff_X12_247 hM.1 ?_
            refine x_int (nI (r + 2)) hT2.2.2 ?_
            refine x_iconst 85 C (v := 1) dX12_readFactor_85 rfl ?_
            refine x_iadd 86 C dX12_readFactor_86 ?_
            refine x_int (nI (r + 2 + 1)) (nI_add (r + 2) 1) ?_
            refine x_puti 87 C dX12_readFactor_87 ff_X12_247 rfl hM.1 (by omega) (fun I53 eI53 => ?_)
            refine x_aload_n 90 C dX12_readFactor_90 rfl 2 rfl ?_
            refine x_dup 91 C dX12_readFactor_91 rfl ?_
            refine x_geti 92 C dX12_readFactor_92 ff_X12_253 hM.1 ?_
            refine x_int (nI px) (by rw [eI53, eI45, eI37]; simp only [xup_ne _ _ (show ¬ (A = A ∧ 19 = 18) by omega)]; exact hpx) ?_
            refine x_iload_n 95 C dX12_readFactor_95 rfl 1 rfl ?_
            refine x_if_eq 96 C 103 dX12_readFactor_96 (by decide) (fun c54 => absurd c54 (by decide)) (fun _ => ?_)
            refine x_iload_n 99 C dX12_readFactor_99 rfl 0 rfl ?_
            refine x_goto 100 C 104 dX12_readFactor_100 (by decide) ?_
            refine x_iadd 104 C dX12_readFactor_104 ?_
            refine x_int (nI (px + (sg t N (r + 2) - 48))) (nI_add px (sg t N (r + 2) - 48)) ?_
            refine x_puti 105 C dX12_readFactor_105 ff_X12_253 rfl hM.1 (by omega) (fun I55 eI55 => ?_)
            refine x_aload_n 108 C dX12_readFactor_108 rfl 2 rfl ?_
            refine x_dup 109 C dX12_readFactor_109 rfl ?_
            refine x_geti 110 C dX12_readFactor_110 ff_X12_256 hM.1 ?_
            refine x_int (nI py) (by rw [eI55, eI53, eI45, eI37]; simp only [xup_ne _ _ (show ¬ (A = A ∧ 20 = 18) by omega), xup_ne _ _ (show ¬ (A = A ∧ 20 = 19) by omega)]; exact hpy) ?_
            refine x_iload_n 113 C dX12_readFactor_113 rfl 1 rfl ?_
            refine x_if_eq 114 C 121 dX12_readFactor_114 (by decide) (fun c56 => absurd c56 (by decide)) (fun _ => ?_)
            refine x_iconst 117 C (v := 0) dX12_readFactor_117 rfl ?_
            refine x_goto 118 C 122 dX12_readFactor_118 (by decide) ?_
            refine x_iadd 122 C dX12_readFactor_122 ?_
            refine x_int (nI (py + 0)) (nI_add py 0) ?_
            refine x_puti 123 C dX12_readFactor_123 ff_X12_256 rfl hM.1 (by omega) (fun I57 eI57 => ?_)
            refine x_iconst 126 C (v := 1) dX12_readFactor_126 rfl ?_
            refine x_iret 127 C dX12_readFactor_127 rfl rfl (Nat.le_refl _) (xN.intro ?_)
            have hv : (fac t N (px + py) r) = (sg t N (r + 2) - 48, r + 3) := by unfold fac; rw [if_neg (by omega), if_pos (by assumption), if_neg (by omega)]
            have hv0 : ¬ (fac t N (px + py) r).1 = 0 := by rw [hv]; show ¬ sg t N (r + 2) - 48 = 0; omega
            refine ⟨by rw [decide_eq_true hv0]; rfl, ?_, rfl⟩
            rw [if_neg hv0, hv, eI57, eI55, eI53, eI45, eI37]; simp only [xup2]
            first | (simp only [if_pos (show sg t N r = 120 by assumption)]; done) | (simp only [if_neg (show ¬ sg t N r = 120 by assumption)]; done) | simp [*]
          · skip
            have hbb : _ := bI_0.mp c50
            simp only [Bool.and_eq_false_iff, decide_eq_false_iff_not] at hbb
            refine x_iconst 70 C (v := 0) dX12_readFactor_70 rfl ?_
            refine x_iret 71 C dX12_readFactor_71 rfl rfl (Nat.le_refl _) (xN.intro ?_)
            have hv : (fac t N (px + py) r) = (0, r + 2) := by unfold fac; rw [if_neg (by omega), if_pos (by assumption), if_pos (by omega)]
            refine ⟨by rw [hv]; rfl, ?_, rfl⟩
            rw [if_pos (by rw [hv]), hv, eI45, eI37]; simp only [xup2]
        · skip
          refine x_callVe 47 C dX12_readFactor_47 (As := []) (rest := []) [.int (-1)] (t_X12_here_out l D z n G I45 L A t N (r + 2) hM hT2 hC (by omega)) mt_X12_here km_X12_250 ki_X12_here ks_X12_here hM.1 ⟨by decide, rfl⟩ rfl rfl (Nat.le_of_ble_eq_true rfl) ⟨⟨by decide, by decide⟩, by decide, by decide⟩ (fun I58 L59 eI58 eL59 => ?_)
          replace eI58 := eI58.symm; subst eI58
          replace eL59 := eL59.symm; subst eL59
          have hs2 := sg_out (t := t) h2
          refine x_bipush 50 C (v := 49) dX12_readFactor_50 rfl ?_
          refine x_bipush 52 C (v := 51) dX12_readFactor_52 rfl ?_
          refine x_aload_n 54 C dX12_readFactor_54 rfl 2 rfl ?_
          refine x_geti 55 C dX12_readFactor_55 ff_X12_253 hM.1 ?_
          refine x_int (nI px) (by rw [eI45, eI37]; simp only [xup_ne _ _ (show ¬ (A = A ∧ 19 = 18) by omega)]; exact hpx) ?_
          refine x_isub 58 C dX12_readFactor_58 ?_
          refine x_int (nI (51 - px)) (nI_sub (a := 51) (b := px) (by omega)) ?_
          refine x_aload_n 59 C dX12_readFactor_59 rfl 2 rfl ?_
          refine x_geti 60 C dX12_readFactor_60 ff_X12_256 hM.1 ?_
          refine x_int (nI py) (by rw [eI45, eI37]; simp only [xup_ne _ _ (show ¬ (A = A ∧ 20 = 18) by omega)]; exact hpy) ?_
          refine x_isub 63 C dX12_readFactor_63 ?_
          refine x_int (nI (51 - px - py)) (nI_sub (a := (51 - px)) (b := py) (by omega)) ?_
          refine x_callSe 64 C dX12_readFactor_64 (As := [.int (-1), .int 49, .int (nI (51 - px - py))]) (rest := []) [.int (bI (decide (49 ≤ (-1)) && decide ((-1) ≤ (nI (51 - px - py)))))] (t_X12_in l D z n G I45 L (-1) 49 (nI (51 - px - py)) ) mt_X12_in km_X12_71 kt_X12_in rfl rfl (Nat.le_of_ble_eq_true rfl) ⟨⟨by decide, by decide⟩, by decide, by decide⟩ (fun I60 L61 eI60 eL61 => ?_)
          replace eI60 := eI60.symm; subst eI60
          replace eL61 := eL61.symm; subst eL61
          refine x_if_ne 67 C 72 dX12_readFactor_67 (by decide) (fun c62 => absurd (by rfl) c62) (fun _ => ?_)
          refine x_iconst 70 C (v := 0) dX12_readFactor_70 rfl ?_
          refine x_iret 71 C dX12_readFactor_71 rfl rfl (Nat.le_refl _) (xN.intro ?_)
          have hv : (fac t N (px + py) r) = (0, r + 2) := by unfold fac; rw [if_neg (by omega), if_pos (by assumption), if_pos (by omega)]
          refine ⟨by rw [hv]; rfl, ?_, rfl⟩
          rw [if_pos (by rw [hv]), hv, eI45, eI37]; simp only [xup2]
    · skip
      refine x_callVe 28 C dX12_readFactor_28 (As := []) (rest := []) [.int (-1)] (t_X12_here_out l D z n G I37 L A t N (r + 1) hM hT1 hC (by omega)) mt_X12_here km_X12_250 ki_X12_here ks_X12_here hM.1 ⟨by decide, rfl⟩ rfl rfl (Nat.le_of_ble_eq_true rfl) ⟨⟨by decide, by decide⟩, by decide, by decide⟩ (fun I63 L64 eI63 eL64 => ?_)
      replace eI63 := eI63.symm; subst eI63
      replace eL64 := eL64.symm; subst eL64
      have hs1 := sg_out (t := t) h1
      refine x_bipush 31 C (v := 94) dX12_readFactor_31 rfl ?_
      refine x_icmp_ne 33 C 90 dX12_readFactor_33 (by decide) (fun _ => ?_) (fun c65 => absurd c65 (by decide))
      refine x_aload_n 90 C dX12_readFactor_90 rfl 2 rfl ?_
      refine x_dup 91 C dX12_readFactor_91 rfl ?_
      refine x_geti 92 C dX12_readFactor_92 ff_X12_253 hM.1 ?_
      refine x_int (nI px) (by rw [eI37]; simp only [xup_ne _ _ (show ¬ (A = A ∧ 19 = 18) by omega)]; exact hpx) ?_
      refine x_iload_n 95 C dX12_readFactor_95 rfl 1 rfl ?_
      refine x_if_eq 96 C 103 dX12_readFactor_96 (by decide) (fun c66 => absurd c66 (by decide)) (fun _ => ?_)
      refine x_iload_n 99 C dX12_readFactor_99 rfl 0 rfl ?_
      refine x_goto 100 C 104 dX12_readFactor_100 (by decide) ?_
      refine x_iadd 104 C dX12_readFactor_104 ?_
      refine x_int (nI (px + 1)) (nI_add px 1) ?_
      refine x_puti 105 C dX12_readFactor_105 ff_X12_253 rfl hM.1 (by omega) (fun I67 eI67 => ?_)
      refine x_aload_n 108 C dX12_readFactor_108 rfl 2 rfl ?_
      refine x_dup 109 C dX12_readFactor_109 rfl ?_
      refine x_geti 110 C dX12_readFactor_110 ff_X12_256 hM.1 ?_
      refine x_int (nI py) (by rw [eI67, eI37]; simp only [xup_ne _ _ (show ¬ (A = A ∧ 20 = 18) by omega), xup_ne _ _ (show ¬ (A = A ∧ 20 = 19) by omega)]; exact hpy) ?_
      refine x_iload_n 113 C dX12_readFactor_113 rfl 1 rfl ?_
      refine x_if_eq 114 C 121 dX12_readFactor_114 (by decide) (fun c68 => absurd c68 (by decide)) (fun _ => ?_)
      refine x_iconst 117 C (v := 0) dX12_readFactor_117 rfl ?_
      refine x_goto 118 C 122 dX12_readFactor_118 (by decide) ?_
      refine x_iadd 122 C dX12_readFactor_122 ?_
      refine x_int (nI (py + 0)) (nI_add py 0) ?_
      refine x_puti 123 C dX12_readFactor_123 ff_X12_256 rfl hM.1 (by omega) (fun I69 eI69 => ?_)
      refine x_iconst 126 C (v := 1) dX12_readFactor_126 rfl ?_
      refine x_iret 127 C dX12_readFactor_127 rfl rfl (Nat.le_refl _) (xN.intro ?_)
      have hv : (fac t N (px + py) r) = (1, r + 1) := by unfold fac; rw [if_neg (by omega), if_neg (by omega)]
      have hv0 : ¬ (fac t N (px + py) r).1 = 0 := by rw [hv]; show ¬ 1 = 0; omega
      refine ⟨by rw [decide_eq_true hv0]; rfl, ?_, rfl⟩
      rw [if_neg hv0, hv, eI69, eI67, eI37]; simp only [xup2]
      first | (simp only [if_pos (show sg t N r = 120 by assumption)]; done) | (simp only [if_neg (show ¬ sg t N r = 120 by assumption)]; done) | simp [*]
