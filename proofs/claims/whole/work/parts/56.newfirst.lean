/-! State.putFirstState -/
theorem addT_re (I : xI) (q m : Nat) (pr pi : Int32) (j : Nat) : addT I q m pr pi (q + 1) j = if j = m then heldc (I (q + 1) m + pr) else I (q + 1) j := by
  unfold addT; rw [xup_row _ _ (by omega), xup_at]
theorem addT_im (I : xI) (q m : Nat) (pr pi : Int32) (j : Nat) : addT I q m pr pi (q + 2) j = if j = m then heldc (I (q + 2) m + pi) else I (q + 2) j := by
  unfold addT; rw [xup_at]; by_cases h : j = m
  · rw [if_pos h, if_pos h]
  · rw [if_neg h, if_neg h, xup_row _ _ (by omega)]
theorem addT_ne (I : xI) {q m a : Nat} (pr pi : Int32) (h1 : a ≠ q + 1) (h2 : a ≠ q + 2) : addT I q m pr pi a = I a := by
  unfold addT; rw [xup_row _ _ h2, xup_row _ _ h1]
/-- the first state's coefficients -/
def fsC (b j : Nat) : Int32 := if j = (if b = 0 then 4 else 1) then 1 else 0
def stF (I' : xI) (L' : xL) (S : Nat) : Prop := (∀ b, b < 2 → ∀ j, j < 10 → I' (S + 1 + 4 * b + 1) j = fsC b j ∧ I' (S + 1 + 4 * b + 2) j = 0) ∧ (∀ j, j < 8 → I' (S + 9) j = xFv j) ∧ I' S 4 = nI 1 ∧ begun I' L' S 1 1 64 128 1
theorem fs_dg {I : xI} {S b : Nat} (hb : b < 2) (h : ∀ j, j < 10 → I (S + 1 + 4 * b + 1) j = fsC b j ∧ I (S + 1 + 4 * b + 2) j = 0) : sdg I S b = 1 := by
  unfold sdg
  rw [dgN_congr (cr' := fsC b) (ci' := fun _ => 0) (fun j hj => (h j hj).1) (fun j hj => (h j hj).2) 10 (Nat.le_refl _)]
  rcases (show b = 0 ∨ b = 1 by omega) with rfl | rfl <;> decide
theorem dX9_putFirstState_0 : decode cX9_putFirstState 0 = .ok (.aload_n 0, 1) := by decide +kernel
theorem dX9_putFirstState_1 : decode cX9_putFirstState 1 = .ok (.getfield 10, 3) := by decide +kernel
theorem dX9_putFirstState_4 : decode cX9_putFirstState 4 = .ok (.invokevirtual 30, 3) := by decide +kernel
theorem dX9_putFirstState_7 : decode cX9_putFirstState 7 = .ok (.aload_n 0, 1) := by decide +kernel
theorem dX9_putFirstState_8 : decode cX9_putFirstState 8 = .ok (.getfield 10, 3) := by decide +kernel
theorem dX9_putFirstState_11 : decode cX9_putFirstState 11 = .ok (.iconst 1, 1) := by decide +kernel
theorem dX9_putFirstState_12 : decode cX9_putFirstState 12 = .ok (.iconst 0, 1) := by decide +kernel
theorem dX9_putFirstState_13 : decode cX9_putFirstState 13 = .ok (.iconst 1, 1) := by decide +kernel
theorem dX9_putFirstState_14 : decode cX9_putFirstState 14 = .ok (.iconst 0, 1) := by decide +kernel
theorem dX9_putFirstState_15 : decode cX9_putFirstState 15 = .ok (.invokevirtual 33, 3) := by decide +kernel
theorem dX9_putFirstState_18 : decode cX9_putFirstState 18 = .ok (.aload_n 0, 1) := by decide +kernel
theorem dX9_putFirstState_19 : decode cX9_putFirstState 19 = .ok (.getfield 16, 3) := by decide +kernel
theorem dX9_putFirstState_22 : decode cX9_putFirstState 22 = .ok (.invokevirtual 30, 3) := by decide +kernel
theorem dX9_putFirstState_25 : decode cX9_putFirstState 25 = .ok (.aload_n 0, 1) := by decide +kernel
theorem dX9_putFirstState_26 : decode cX9_putFirstState 26 = .ok (.getfield 16, 3) := by decide +kernel
theorem dX9_putFirstState_29 : decode cX9_putFirstState 29 = .ok (.iconst 0, 1) := by decide +kernel
theorem dX9_putFirstState_30 : decode cX9_putFirstState 30 = .ok (.iconst 1, 1) := by decide +kernel
theorem dX9_putFirstState_31 : decode cX9_putFirstState 31 = .ok (.iconst 1, 1) := by decide +kernel
theorem dX9_putFirstState_32 : decode cX9_putFirstState 32 = .ok (.iconst 0, 1) := by decide +kernel
theorem dX9_putFirstState_33 : decode cX9_putFirstState 33 = .ok (.invokevirtual 33, 3) := by decide +kernel
theorem dX9_putFirstState_36 : decode cX9_putFirstState 36 = .ok (.iconst 0, 1) := by decide +kernel
theorem dX9_putFirstState_37 : decode cX9_putFirstState 37 = .ok (.istore_n 1, 1) := by decide +kernel
theorem dX9_putFirstState_38 : decode cX9_putFirstState 38 = .ok (.iload_n 1, 1) := by decide +kernel
theorem dX9_putFirstState_39 : decode cX9_putFirstState 39 = .ok (.bipush 8, 2) := by decide +kernel
theorem dX9_putFirstState_41 : decode cX9_putFirstState 41 = .ok (.if_icmp .ge 20, 3) := by decide +kernel
theorem dX9_putFirstState_44 : decode cX9_putFirstState 44 = .ok (.aload_n 0, 1) := by decide +kernel
theorem dX9_putFirstState_45 : decode cX9_putFirstState 45 = .ok (.getfield 19, 3) := by decide +kernel
theorem dX9_putFirstState_48 : decode cX9_putFirstState 48 = .ok (.iload_n 1, 1) := by decide +kernel
theorem dX9_putFirstState_49 : decode cX9_putFirstState 49 = .ok (.getstatic 37, 3) := by decide +kernel
theorem dX9_putFirstState_52 : decode cX9_putFirstState 52 = .ok (.iload_n 1, 1) := by decide +kernel
theorem dX9_putFirstState_53 : decode cX9_putFirstState 53 = .ok (.iaload, 1) := by decide +kernel
theorem dX9_putFirstState_54 : decode cX9_putFirstState 54 = .ok (.iastore, 1) := by decide +kernel
theorem dX9_putFirstState_55 : decode cX9_putFirstState 55 = .ok (.iinc 1 1, 3) := by decide +kernel
theorem dX9_putFirstState_58 : decode cX9_putFirstState 58 = .ok (.goto (-20), 3) := by decide +kernel
theorem dX9_putFirstState_61 : decode cX9_putFirstState 61 = .ok (.aload_n 0, 1) := by decide +kernel
theorem dX9_putFirstState_62 : decode cX9_putFirstState 62 = .ok (.invokevirtual 40, 3) := by decide +kernel
theorem dX9_putFirstState_65 : decode cX9_putFirstState 65 = .ok (.return_, 1) := by decide +kernel
set_option maxHeartbeats 1000000 in
set_option maxRecDepth 100000 in
theorem t_X9_putFirstState (l : Launch) (D : xD) (z n : Nat) (G : xG) (I : xI) (L : xL) (S : Nat) (hS : shS G S) (zS : z ≤ S) : xM0 l D z yX9_putFirstState cX9_putFirstState 2 none 5 119 [.ref S] n G I L (fun v' I' L' => v' = none ∧ (stF I' L' S) ∧ (∀ a, (a < S ∨ S + 38 ≤ a) → I' a = I a) ∧ (∀ a, (a < S ∨ S + 38 ≤ a) → L' a = L a)) := by
  refine xM.of (by decide) (Nat.le_of_ble_eq_true rfl) (fun p e s m args below meth c C hnm hsz => ?_)
  refine x_lv [(0, .ref S)] rfl ?_
  refine x_aload_n 0 C dX9_putFirstState_0 rfl 0 rfl ?_
  refine x_getr 1 C (b := S + 1 + 4 * 0) dX9_putFirstState_1 ff_X9_10 rfl hS.1 rfl ?_
  refine x_callVe 4 C dX9_putFirstState_4 (As := []) (rest := []) [] (t_X1_clear l D z n G I L (S + 1 + 4 * 0) (hS.2.1 0 (by decide)) (by omega)) mt_X1_clear km_X9_30 ki_X1_clear ks_X1_clear (hS.2.1 0 (by decide)).1 ⟨by decide, rfl⟩ rfl rfl (Nat.le_of_ble_eq_true rfl) ⟨⟨by decide, by decide⟩, by decide, by decide⟩ (fun I1 L2 eI1 eL2 => ?_)
  replace eL2 := eL2.symm; subst eL2
  refine x_aload_n 7 C dX9_putFirstState_7 rfl 0 rfl ?_
  refine x_getr 8 C (b := S + 1 + 4 * 0) dX9_putFirstState_8 ff_X9_10 rfl hS.1 rfl ?_
  refine x_iconst 11 C (v := 1) dX9_putFirstState_11 rfl ?_
  refine x_iconst 12 C (v := 0) dX9_putFirstState_12 rfl ?_
  refine x_iconst 13 C (v := 1) dX9_putFirstState_13 rfl ?_
  refine x_iconst 14 C (v := 0) dX9_putFirstState_14 rfl ?_
  refine x_callVe 15 C dX9_putFirstState_15 (As := [.int 1, .int 0, .int 1, .int 0]) (rest := []) [] (t_X1_addTerm l D z n G I1 L (S + 1 + 4 * 0) 1 0 1 0 (hS.2.1 0 (by decide)) (by omega) (by first | omega | assumption | decide)) mt_X1_addTerm km_X9_33 ki_X1_addTerm ks_X1_addTerm (hS.2.1 0 (by decide)).1 ⟨by decide, rfl⟩ rfl rfl (Nat.le_of_ble_eq_true rfl) ⟨⟨by decide, by decide⟩, by decide, by decide⟩ (fun I3 L4 eI3 eL4 => ?_)
  replace eL4 := eL4.symm; subst eL4
  refine x_aload_n 18 C dX9_putFirstState_18 rfl 0 rfl ?_
  refine x_getr 19 C (b := S + 1 + 4 * 1) dX9_putFirstState_19 ff_X9_16 rfl hS.1 rfl ?_
  refine x_callVe 22 C dX9_putFirstState_22 (As := []) (rest := []) [] (t_X1_clear l D z n G I3 L (S + 1 + 4 * 1) (hS.2.1 1 (by decide)) (by omega)) mt_X1_clear km_X9_30 ki_X1_clear ks_X1_clear (hS.2.1 1 (by decide)).1 ⟨by decide, rfl⟩ rfl rfl (Nat.le_of_ble_eq_true rfl) ⟨⟨by decide, by decide⟩, by decide, by decide⟩ (fun I5 L6 eI5 eL6 => ?_)
  replace eL6 := eL6.symm; subst eL6
  refine x_aload_n 25 C dX9_putFirstState_25 rfl 0 rfl ?_
  refine x_getr 26 C (b := S + 1 + 4 * 1) dX9_putFirstState_26 ff_X9_16 rfl hS.1 rfl ?_
  refine x_iconst 29 C (v := 0) dX9_putFirstState_29 rfl ?_
  refine x_iconst 30 C (v := 1) dX9_putFirstState_30 rfl ?_
  refine x_iconst 31 C (v := 1) dX9_putFirstState_31 rfl ?_
  refine x_iconst 32 C (v := 0) dX9_putFirstState_32 rfl ?_
  refine x_callVe 33 C dX9_putFirstState_33 (As := [.int 0, .int 1, .int 1, .int 0]) (rest := []) [] (t_X1_addTerm l D z n G I5 L (S + 1 + 4 * 1) 0 1 1 0 (hS.2.1 1 (by decide)) (by omega) (by first | omega | assumption | decide)) mt_X1_addTerm km_X9_33 ki_X1_addTerm ks_X1_addTerm (hS.2.1 1 (by decide)).1 ⟨by decide, rfl⟩ rfl rfl (Nat.le_of_ble_eq_true rfl) ⟨⟨by decide, by decide⟩, by decide, by decide⟩ (fun I7 L8 eI7 eL8 => ?_)
  replace eL8 := eL8.symm; subst eL8
  refine x_iconst 36 C (v := 0) dX9_putFirstState_36 rfl ?_
  refine x_istore_n 37 C [(1, .int 0), (0, .ref S)] dX9_putFirstState_37 rfl (by decide) rfl ?_
  refine x_iload_n 38 C dX9_putFirstState_38 rfl 0 rfl ?_
  refine x_bipush 39 C (v := 8) dX9_putFirstState_39 rfl ?_
  refine x_icmp_ge 41 C 61 dX9_putFirstState_41 (by decide) (fun c9 => absurd c9 (by decide)) (fun _ => ?_)
  refine x_aload_n 44 C dX9_putFirstState_44 rfl 1 rfl ?_
  refine x_getr 45 C (b := S + 9) dX9_putFirstState_45 ff_X9_19 rfl hS.1 rfl ?_
  refine x_iload_n 48 C dX9_putFirstState_48 rfl 0 rfl ?_
  refine x_gets 49 C (k0 := 3) dX9_putFirstState_49 rfl kf_X9_37 ?_
  refine x_iload_n 52 C dX9_putFirstState_52 rfl 0 rfl ?_
  refine x_stald 53 C (j := 0) dX9_putFirstState_53 (k0 := 3) rfl ⟨by decide, by decide, by decide⟩ ?_
  refine x_iast 54 C (j := 0) dX9_putFirstState_54 hS.2.2.1 (by omega) ⟨by decide, by decide, by decide⟩ (fun I10 eI10 => ?_)
  refine x_iinc 55 C [(1, .int 1), (0, .ref S)] dX9_putFirstState_55 0 rfl (by decide) (by decide) rfl ?_
  refine x_goto 58 C 38 dX9_putFirstState_58 (by decide) ?_
  refine x_iload_n 38 C dX9_putFirstState_38 rfl 0 rfl ?_
  refine x_bipush 39 C (v := 8) dX9_putFirstState_39 rfl ?_
  refine x_icmp_ge 41 C 61 dX9_putFirstState_41 (by decide) (fun c11 => absurd c11 (by decide)) (fun _ => ?_)
  refine x_aload_n 44 C dX9_putFirstState_44 rfl 1 rfl ?_
  refine x_getr 45 C (b := S + 9) dX9_putFirstState_45 ff_X9_19 rfl hS.1 rfl ?_
  refine x_iload_n 48 C dX9_putFirstState_48 rfl 0 rfl ?_
  refine x_gets 49 C (k0 := 3) dX9_putFirstState_49 rfl kf_X9_37 ?_
  refine x_iload_n 52 C dX9_putFirstState_52 rfl 0 rfl ?_
  refine x_stald 53 C (j := 1) dX9_putFirstState_53 (k0 := 3) rfl ⟨by decide, by decide, by decide⟩ ?_
  refine x_iast 54 C (j := 1) dX9_putFirstState_54 hS.2.2.1 (by omega) ⟨by decide, by decide, by decide⟩ (fun I12 eI12 => ?_)
  refine x_iinc 55 C [(1, .int 2), (0, .ref S)] dX9_putFirstState_55 0 rfl (by decide) (by decide) rfl ?_
  refine x_goto 58 C 38 dX9_putFirstState_58 (by decide) ?_
  refine x_iload_n 38 C dX9_putFirstState_38 rfl 0 rfl ?_
  refine x_bipush 39 C (v := 8) dX9_putFirstState_39 rfl ?_
  refine x_icmp_ge 41 C 61 dX9_putFirstState_41 (by decide) (fun c13 => absurd c13 (by decide)) (fun _ => ?_)
  refine x_aload_n 44 C dX9_putFirstState_44 rfl 1 rfl ?_
  refine x_getr 45 C (b := S + 9) dX9_putFirstState_45 ff_X9_19 rfl hS.1 rfl ?_
  refine x_iload_n 48 C dX9_putFirstState_48 rfl 0 rfl ?_
  refine x_gets 49 C (k0 := 3) dX9_putFirstState_49 rfl kf_X9_37 ?_
  refine x_iload_n 52 C dX9_putFirstState_52 rfl 0 rfl ?_
  refine x_stald 53 C (j := 2) dX9_putFirstState_53 (k0 := 3) rfl ⟨by decide, by decide, by decide⟩ ?_
  refine x_iast 54 C (j := 2) dX9_putFirstState_54 hS.2.2.1 (by omega) ⟨by decide, by decide, by decide⟩ (fun I14 eI14 => ?_)
  refine x_iinc 55 C [(1, .int 3), (0, .ref S)] dX9_putFirstState_55 0 rfl (by decide) (by decide) rfl ?_
  refine x_goto 58 C 38 dX9_putFirstState_58 (by decide) ?_
  refine x_iload_n 38 C dX9_putFirstState_38 rfl 0 rfl ?_
  refine x_bipush 39 C (v := 8) dX9_putFirstState_39 rfl ?_
  refine x_icmp_ge 41 C 61 dX9_putFirstState_41 (by decide) (fun c15 => absurd c15 (by decide)) (fun _ => ?_)
  refine x_aload_n 44 C dX9_putFirstState_44 rfl 1 rfl ?_
  refine x_getr 45 C (b := S + 9) dX9_putFirstState_45 ff_X9_19 rfl hS.1 rfl ?_
  refine x_iload_n 48 C dX9_putFirstState_48 rfl 0 rfl ?_
  refine x_gets 49 C (k0 := 3) dX9_putFirstState_49 rfl kf_X9_37 ?_
  refine x_iload_n 52 C dX9_putFirstState_52 rfl 0 rfl ?_
  refine x_stald 53 C (j := 3) dX9_putFirstState_53 (k0 := 3) rfl ⟨by decide, by decide, by decide⟩ ?_
  refine x_iast 54 C (j := 3) dX9_putFirstState_54 hS.2.2.1 (by omega) ⟨by decide, by decide, by decide⟩ (fun I16 eI16 => ?_)
  refine x_iinc 55 C [(1, .int 4), (0, .ref S)] dX9_putFirstState_55 0 rfl (by decide) (by decide) rfl ?_
  refine x_goto 58 C 38 dX9_putFirstState_58 (by decide) ?_
  refine x_iload_n 38 C dX9_putFirstState_38 rfl 0 rfl ?_
  refine x_bipush 39 C (v := 8) dX9_putFirstState_39 rfl ?_
  refine x_icmp_ge 41 C 61 dX9_putFirstState_41 (by decide) (fun c17 => absurd c17 (by decide)) (fun _ => ?_)
  refine x_aload_n 44 C dX9_putFirstState_44 rfl 1 rfl ?_
  refine x_getr 45 C (b := S + 9) dX9_putFirstState_45 ff_X9_19 rfl hS.1 rfl ?_
  refine x_iload_n 48 C dX9_putFirstState_48 rfl 0 rfl ?_
  refine x_gets 49 C (k0 := 3) dX9_putFirstState_49 rfl kf_X9_37 ?_
  refine x_iload_n 52 C dX9_putFirstState_52 rfl 0 rfl ?_
  refine x_stald 53 C (j := 4) dX9_putFirstState_53 (k0 := 3) rfl ⟨by decide, by decide, by decide⟩ ?_
  refine x_iast 54 C (j := 4) dX9_putFirstState_54 hS.2.2.1 (by omega) ⟨by decide, by decide, by decide⟩ (fun I18 eI18 => ?_)
  refine x_iinc 55 C [(1, .int 5), (0, .ref S)] dX9_putFirstState_55 0 rfl (by decide) (by decide) rfl ?_
  refine x_goto 58 C 38 dX9_putFirstState_58 (by decide) ?_
  refine x_iload_n 38 C dX9_putFirstState_38 rfl 0 rfl ?_
  refine x_bipush 39 C (v := 8) dX9_putFirstState_39 rfl ?_
  refine x_icmp_ge 41 C 61 dX9_putFirstState_41 (by decide) (fun c19 => absurd c19 (by decide)) (fun _ => ?_)
  refine x_aload_n 44 C dX9_putFirstState_44 rfl 1 rfl ?_
  refine x_getr 45 C (b := S + 9) dX9_putFirstState_45 ff_X9_19 rfl hS.1 rfl ?_
  refine x_iload_n 48 C dX9_putFirstState_48 rfl 0 rfl ?_
  refine x_gets 49 C (k0 := 3) dX9_putFirstState_49 rfl kf_X9_37 ?_
  refine x_iload_n 52 C dX9_putFirstState_52 rfl 0 rfl ?_
  refine x_stald 53 C (j := 5) dX9_putFirstState_53 (k0 := 3) rfl ⟨by decide, by decide, by decide⟩ ?_
  refine x_iast 54 C (j := 5) dX9_putFirstState_54 hS.2.2.1 (by omega) ⟨by decide, by decide, by decide⟩ (fun I20 eI20 => ?_)
  refine x_iinc 55 C [(1, .int 6), (0, .ref S)] dX9_putFirstState_55 0 rfl (by decide) (by decide) rfl ?_
  refine x_goto 58 C 38 dX9_putFirstState_58 (by decide) ?_
  refine x_iload_n 38 C dX9_putFirstState_38 rfl 0 rfl ?_
  refine x_bipush 39 C (v := 8) dX9_putFirstState_39 rfl ?_
  refine x_icmp_ge 41 C 61 dX9_putFirstState_41 (by decide) (fun c21 => absurd c21 (by decide)) (fun _ => ?_)
  refine x_aload_n 44 C dX9_putFirstState_44 rfl 1 rfl ?_
  refine x_getr 45 C (b := S + 9) dX9_putFirstState_45 ff_X9_19 rfl hS.1 rfl ?_
  refine x_iload_n 48 C dX9_putFirstState_48 rfl 0 rfl ?_
  refine x_gets 49 C (k0 := 3) dX9_putFirstState_49 rfl kf_X9_37 ?_
  refine x_iload_n 52 C dX9_putFirstState_52 rfl 0 rfl ?_
  refine x_stald 53 C (j := 6) dX9_putFirstState_53 (k0 := 3) rfl ⟨by decide, by decide, by decide⟩ ?_
  refine x_iast 54 C (j := 6) dX9_putFirstState_54 hS.2.2.1 (by omega) ⟨by decide, by decide, by decide⟩ (fun I22 eI22 => ?_)
  refine x_iinc 55 C [(1, .int 7), (0, .ref S)] dX9_putFirstState_55 0 rfl (by decide) (by decide) rfl ?_
  refine x_goto 58 C 38 dX9_putFirstState_58 (by decide) ?_
  refine x_iload_n 38 C dX9_putFirstState_38 rfl 0 rfl ?_
  refine x_bipush 39 C (v := 8) dX9_putFirstState_39 rfl ?_
  refine x_icmp_ge 41 C 61 dX9_putFirstState_41 (by decide) (fun c23 => absurd c23 (by decide)) (fun _ => ?_)
  refine x_aload_n 44 C dX9_putFirstState_44 rfl 1 rfl ?_
  refine x_getr 45 C (b := S + 9) dX9_putFirstState_45 ff_X9_19 rfl hS.1 rfl ?_
  refine x_iload_n 48 C dX9_putFirstState_48 rfl 0 rfl ?_
  refine x_gets 49 C (k0 := 3) dX9_putFirstState_49 rfl kf_X9_37 ?_
  refine x_iload_n 52 C dX9_putFirstState_52 rfl 0 rfl ?_
  refine x_stald 53 C (j := 7) dX9_putFirstState_53 (k0 := 3) rfl ⟨by decide, by decide, by decide⟩ ?_
  refine x_iast 54 C (j := 7) dX9_putFirstState_54 hS.2.2.1 (by omega) ⟨by decide, by decide, by decide⟩ (fun I24 eI24 => ?_)
  refine x_iinc 55 C [(1, .int 8), (0, .ref S)] dX9_putFirstState_55 0 rfl (by decide) (by decide) rfl ?_
  refine x_goto 58 C 38 dX9_putFirstState_58 (by decide) ?_
  refine x_iload_n 38 C dX9_putFirstState_38 rfl 0 rfl ?_
  refine x_bipush 39 C (v := 8) dX9_putFirstState_39 rfl ?_
  refine x_icmp_ge 41 C 61 dX9_putFirstState_41 (by decide) (fun _ => ?_) (fun c25 => absurd (by decide) c25)
  have hc0 : ∀ j, j < 10 → I24 (S + 1 + 4 * 0 + 1) j = fsC 0 j ∧ I24 (S + 1 + 4 * 0 + 2) j = 0 := by
    intro j hj
    constructor
    · rw [eI24, xup_row _ _ (by omega)]; rw [eI22, xup_row _ _ (by omega)]; rw [eI20, xup_row _ _ (by omega)]; rw [eI18, xup_row _ _ (by omega)]; rw [eI16, xup_row _ _ (by omega)]; rw [eI14, xup_row _ _ (by omega)]; rw [eI12, xup_row _ _ (by omega)]; rw [eI10, xup_row _ _ (by omega)]; rw [eI7, addT_ne _ _ _ (by omega) (by omega), eI5, eqFill_ne _ _ _ _ _ (by omega) (by omega)]; rw [eI3, addT_re, eI1, eqFill_re _ _ _ _ (show tm 1 0 < 10 by decide), eqFill_re _ _ _ _ hj]; unfold fsC; by_cases h : j = tm 1 0
      · rw [if_pos h, if_pos (show j = (if 0 = 0 then 4 else 1) from h)]; decide
      · rw [if_neg h, if_neg (show ¬ j = (if 0 = 0 then 4 else 1) from h)]
    · rw [eI24, xup_row _ _ (by omega)]; rw [eI22, xup_row _ _ (by omega)]; rw [eI20, xup_row _ _ (by omega)]; rw [eI18, xup_row _ _ (by omega)]; rw [eI16, xup_row _ _ (by omega)]; rw [eI14, xup_row _ _ (by omega)]; rw [eI12, xup_row _ _ (by omega)]; rw [eI10, xup_row _ _ (by omega)]; rw [eI7, addT_ne _ _ _ (by omega) (by omega), eI5, eqFill_ne _ _ _ _ _ (by omega) (by omega)]; rw [eI3, addT_im, eI1, eqFill_im _ _ _ _ (show tm 1 0 < 10 by decide), eqFill_im _ _ _ _ hj]; by_cases h : j = tm 1 0
      · exact (if_pos h).trans (by decide)
      · exact if_neg h
  have hc1 : ∀ j, j < 10 → I24 (S + 1 + 4 * 1 + 1) j = fsC 1 j ∧ I24 (S + 1 + 4 * 1 + 2) j = 0 := by
    intro j hj
    constructor
    · rw [eI24, xup_row _ _ (by omega)]; rw [eI22, xup_row _ _ (by omega)]; rw [eI20, xup_row _ _ (by omega)]; rw [eI18, xup_row _ _ (by omega)]; rw [eI16, xup_row _ _ (by omega)]; rw [eI14, xup_row _ _ (by omega)]; rw [eI12, xup_row _ _ (by omega)]; rw [eI10, xup_row _ _ (by omega)]; rw [eI7, addT_re, eI5, eqFill_re _ _ _ _ (show tm 0 1 < 10 by decide), eqFill_re _ _ _ _ hj]; unfold fsC; by_cases h : j = tm 0 1
      · rw [if_pos h, if_pos (show j = (if 1 = 0 then 4 else 1) from h)]; decide
      · rw [if_neg h, if_neg (show ¬ j = (if 1 = 0 then 4 else 1) from h)]
    · rw [eI24, xup_row _ _ (by omega)]; rw [eI22, xup_row _ _ (by omega)]; rw [eI20, xup_row _ _ (by omega)]; rw [eI18, xup_row _ _ (by omega)]; rw [eI16, xup_row _ _ (by omega)]; rw [eI14, xup_row _ _ (by omega)]; rw [eI12, xup_row _ _ (by omega)]; rw [eI10, xup_row _ _ (by omega)]; rw [eI7, addT_im, eI5, eqFill_im _ _ _ _ (show tm 0 1 < 10 by decide), eqFill_im _ _ _ _ hj]; by_cases h : j = tm 0 1
      · exact (if_pos h).trans (by decide)
      · exact if_neg h
  have hs9 : ∀ j, j < 8 → I24 (S + 9) j = xFv j := by
    intro j hj
    rcases (show j = 0 ∨ j = 1 ∨ j = 2 ∨ j = 3 ∨ j = 4 ∨ j = 5 ∨ j = 6 ∨ j = 7 by omega) with rfl | rfl | rfl | rfl | rfl | rfl | rfl | rfl
    · rw [eI24, xup_at, if_neg (by decide)]; rw [eI22, xup_at, if_neg (by decide)]; rw [eI20, xup_at, if_neg (by decide)]; rw [eI18, xup_at, if_neg (by decide)]; rw [eI16, xup_at, if_neg (by decide)]; rw [eI14, xup_at, if_neg (by decide)]; rw [eI12, xup_at, if_neg (by decide)]; rw [eI10, xup_self]
    · rw [eI24, xup_at, if_neg (by decide)]; rw [eI22, xup_at, if_neg (by decide)]; rw [eI20, xup_at, if_neg (by decide)]; rw [eI18, xup_at, if_neg (by decide)]; rw [eI16, xup_at, if_neg (by decide)]; rw [eI14, xup_at, if_neg (by decide)]; rw [eI12, xup_self]
    · rw [eI24, xup_at, if_neg (by decide)]; rw [eI22, xup_at, if_neg (by decide)]; rw [eI20, xup_at, if_neg (by decide)]; rw [eI18, xup_at, if_neg (by decide)]; rw [eI16, xup_at, if_neg (by decide)]; rw [eI14, xup_self]
    · rw [eI24, xup_at, if_neg (by decide)]; rw [eI22, xup_at, if_neg (by decide)]; rw [eI20, xup_at, if_neg (by decide)]; rw [eI18, xup_at, if_neg (by decide)]; rw [eI16, xup_self]
    · rw [eI24, xup_at, if_neg (by decide)]; rw [eI22, xup_at, if_neg (by decide)]; rw [eI20, xup_at, if_neg (by decide)]; rw [eI18, xup_self]
    · rw [eI24, xup_at, if_neg (by decide)]; rw [eI22, xup_at, if_neg (by decide)]; rw [eI20, xup_self]
    · rw [eI24, xup_at, if_neg (by decide)]; rw [eI22, xup_self]
    · rw [eI24, xup_self]
  have hd0 : sdg I24 S 0 = 1 := fs_dg (by decide) hc0
  have hd1 : sdg I24 S 1 = 1 := fs_dg (by decide) hc1
  have hfr : ∀ a, (a < S ∨ S + 38 ≤ a) → I24 a = I a := by intro a ha; rw [eI24, xup_row _ _ (by omega)]; rw [eI22, xup_row _ _ (by omega)]; rw [eI20, xup_row _ _ (by omega)]; rw [eI18, xup_row _ _ (by omega)]; rw [eI16, xup_row _ _ (by omega)]; rw [eI14, xup_row _ _ (by omega)]; rw [eI12, xup_row _ _ (by omega)]; rw [eI10, xup_row _ _ (by omega)]; rw [eI7, addT_ne _ _ _ (by omega) (by omega), eI5, eqFill_ne _ _ _ _ _ (by omega) (by omega), eI3, addT_ne _ _ _ (by omega) (by omega), eI1, eqFill_ne _ _ _ _ _ (by omega) (by omega)]
  refine x_aload_n 61 C dX9_putFirstState_61 rfl 1 rfl ?_
  refine x_callVp 62 C dX9_putFirstState_62 (As := []) (rest := []) (t_X9_beginPaths l D z n G I24 L S hS (by omega) (by rw [hd0]; decide) (by rw [hd1]; decide)) mt_X9_beginPaths km_X9_40 ki_X9_beginPaths ks_X9_beginPaths hS.1 ⟨by decide, rfl⟩ rfl (Nat.le_of_ble_eq_true rfl) ⟨⟨by decide, by decide⟩, by decide, by decide⟩ (fun w26 I27 L28 hw26 => ?_)
  obtain ⟨hw26v, hw26r0, hw26r1, hw26r2, hw26r3⟩ := hw26
  subst hw26v
  refine x_st [] rfl ?_
  refine x_vret 65 C dX9_putFirstState_65 rfl (Nat.le_refl _) (xN.intro ?_)
  refine ⟨rfl, ⟨fun b hb j hj => ?_, fun j hj => ?_, ?_, ?_⟩, fun a ha => ?_, fun a ha => hw26r3 a (by omega)⟩
  · rw [hw26r2 _ (by omega) (by omega), hw26r2 _ (by omega) (by omega)]; rcases (show b = 0 ∨ b = 1 by omega) with rfl | rfl
    · exact hc0 j hj
    · exact hc1 j hj
  · rw [hw26r2 _ (by omega) (by omega)]; exact hs9 j hj
  · rw [hw26r0, hd0, hd1]
  · have h := hw26r1; rw [hd0, hd1, hs9 0 (by decide), hs9 1 (by decide)] at h; exact h
  · by_cases h0 : a = S
    · omega
    · rw [hw26r2 a h0 (by omega)]; exact hfr a ha
