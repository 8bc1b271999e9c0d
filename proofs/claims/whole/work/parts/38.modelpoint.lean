/-! The Model: layPoint, coefficientOf, product -/
theorem powAt_congr {L M : xL} {A fr : Nat} {u : Int64} {x : xC} (h : ∀ j, fr ≤ j → j < fr + 8 → M (A + 6) j = L (A + 6) j) (hp : powAt L A fr u x) : powAt M A fr u x :=
  fun k hk => ⟨by rw [h _ (by omega) (by omega)]; exact (hp k hk).1, by rw [h _ (by omega) (by omega)]; exact (hp k hk).2⟩
theorem held_2 (v : Int64) : held (held v) = held v := by
  unfold held
  by_cases h1 : (-1073741824 : Int64) ≤ v
  · rw [if_pos h1]
    by_cases h2 : v ≤ 1073741824
    · rw [if_pos h2, if_pos h1, if_pos h2]
    · rw [if_neg h2]; decide
  · rw [if_neg h1]; decide
theorem hC_2 (c : xC) : hC (hC c) = hC c := by unfold hC; rw [held_2, held_2]
theorem hC_mulC (u : Int64) (a b : xC) : hC (mulC u a b) = mulC u a b := hC_2 _
theorem tm_top {i j d : Nat} (h : i + j ≤ 3) (hd : 1 ≤ d ∧ d ≤ 3) : (tm i j = tm d 0 ↔ i = d ∧ j = 0) ∧ (tm i j = tm 0 d ↔ j = d ∧ i = 0) ∧ (tm i j = 0 ↔ i + j = 0) := by
  rcases (show d = 1 ∨ d = 2 ∨ d = 3 by omega) with rfl | rfl | rfl <;>
  rcases (show (i = 0 ∧ (j = 0 ∨ j = 1 ∨ j = 2 ∨ j = 3)) ∨ (i = 1 ∧ (j = 0 ∨ j = 1 ∨ j = 2)) ∨ (i = 2 ∧ (j = 0 ∨ j = 1)) ∨ (i = 3 ∧ j = 0) by omega) with ⟨rfl, rfl | rfl | rfl | rfl⟩ | ⟨rfl, rfl | rfl | rfl⟩ | ⟨rfl, rfl | rfl⟩ | ⟨rfl, rfl⟩ <;> decide
theorem pr_y {L : xL} {A j : Nat} {u : Int64} {x y : xC} (hp : powAt L A 8 u y) (hy : hC y = y) (h : j ≤ 3) : hC (L (A + 6) (8 + 2 * j), L (A + 6) (8 + 2 * j + 1)) = powC x y u (tm 0 j) := by
  rw [(hp j (by omega)).1, (hp j (by omega)).2]
  rcases (show j = 0 ∨ j = 1 ∨ j = 2 ∨ j = 3 by omega) with rfl | rfl | rfl | rfl
  · rfl
  · exact hy
  · exact hC_mulC u y y
  · exact hC_mulC u (mulC u y y) y
theorem pr_x {L : xL} {A i : Nat} {u : Int64} {x y : xC} (hp : powAt L A 0 u x) (hx : hC x = x) (h : 1 ≤ i ∧ i ≤ 3) : hC (L (A + 6) (2 * i), L (A + 6) (2 * i + 1)) = powC x y u (tm i 0) := by
  have h0 := hp i (by omega)
  rw [Nat.zero_add] at h0
  rw [h0.1, h0.2]
  rcases (show i = 1 ∨ i = 2 ∨ i = 3 by omega) with rfl | rfl | rfl
  · exact hx
  · exact hC_mulC u x x
  · exact hC_mulC u (mulC u x x) x
theorem pr_xy {L : xL} {A i j : Nat} {u : Int64} {x y : xC} (hp : powAt L A 0 u x) (hq : powAt L A 8 u y) (h : 1 ≤ i ∧ 1 ≤ j ∧ i + j ≤ 3) : mulC u (L (A + 6) (2 * i), L (A + 6) (2 * i + 1)) (L (A + 6) (8 + 2 * j), L (A + 6) (8 + 2 * j + 1)) = powC x y u (tm i j) := by
  have h0 := hp i (by omega)
  have h1 := hq j (by omega)
  rw [Nat.zero_add] at h0
  rw [h0.1, h0.2, h1.1, h1.2]
  rcases (show (i = 1 ∧ j = 1) ∨ (i = 1 ∧ j = 2) ∨ (i = 2 ∧ j = 1) by omega) with ⟨rfl, rfl⟩ | ⟨rfl, rfl⟩ | ⟨rfl, rfl⟩ <;> rfl
theorem dX12_layPoint_0 : decode cX12_layPoint 0 = .ok (.aload_n 0, 1) := by decide +kernel
theorem dX12_layPoint_1 : decode cX12_layPoint 1 = .ok (.iconst 0, 1) := by decide +kernel
theorem dX12_layPoint_2 : decode cX12_layPoint 2 = .ok (.aload_n 0, 1) := by decide +kernel
theorem dX12_layPoint_3 : decode cX12_layPoint 3 = .ok (.getfield 36, 3) := by decide +kernel
theorem dX12_layPoint_6 : decode cX12_layPoint 6 = .ok (.iconst 0, 1) := by decide +kernel
theorem dX12_layPoint_7 : decode cX12_layPoint 7 = .ok (.laload, 1) := by decide +kernel
theorem dX12_layPoint_8 : decode cX12_layPoint 8 = .ok (.aload_n 0, 1) := by decide +kernel
theorem dX12_layPoint_9 : decode cX12_layPoint 9 = .ok (.getfield 36, 3) := by decide +kernel
theorem dX12_layPoint_12 : decode cX12_layPoint 12 = .ok (.iconst 1, 1) := by decide +kernel
theorem dX12_layPoint_13 : decode cX12_layPoint 13 = .ok (.laload, 1) := by decide +kernel
theorem dX12_layPoint_14 : decode cX12_layPoint 14 = .ok (.invokevirtual 104, 3) := by decide +kernel
theorem dX12_layPoint_17 : decode cX12_layPoint 17 = .ok (.aload_n 0, 1) := by decide +kernel
theorem dX12_layPoint_18 : decode cX12_layPoint 18 = .ok (.bipush 8, 2) := by decide +kernel
theorem dX12_layPoint_20 : decode cX12_layPoint 20 = .ok (.aload_n 0, 1) := by decide +kernel
theorem dX12_layPoint_21 : decode cX12_layPoint 21 = .ok (.getfield 36, 3) := by decide +kernel
theorem dX12_layPoint_24 : decode cX12_layPoint 24 = .ok (.iconst 2, 1) := by decide +kernel
theorem dX12_layPoint_25 : decode cX12_layPoint 25 = .ok (.laload, 1) := by decide +kernel
theorem dX12_layPoint_26 : decode cX12_layPoint 26 = .ok (.aload_n 0, 1) := by decide +kernel
theorem dX12_layPoint_27 : decode cX12_layPoint 27 = .ok (.getfield 36, 3) := by decide +kernel
theorem dX12_layPoint_30 : decode cX12_layPoint 30 = .ok (.iconst 3, 1) := by decide +kernel
theorem dX12_layPoint_31 : decode cX12_layPoint 31 = .ok (.laload, 1) := by decide +kernel
theorem dX12_layPoint_32 : decode cX12_layPoint 32 = .ok (.invokevirtual 104, 3) := by decide +kernel
theorem dX12_layPoint_35 : decode cX12_layPoint 35 = .ok (.return_, 1) := by decide +kernel
set_option maxHeartbeats 1000000 in
set_option maxRecDepth 100000 in
theorem t_X12_layPoint (l : Launch) (D : xD) (z n : Nat) (G : xG) (I : xI) (L : xL) (A : Nat) (u : Int64) (hM : shMo G A) (zA : z ≤ A) (hu9 : L A 9 = u) (hu : ¬ u = 0) : xM0 l D z yX12_layPoint cX12_layPoint 1 none 4 99 [.ref A] n G I L (fun v' I' L' => v' = none ∧ I' = I ∧ (powAt L' A 0 u (L (A + 7) 0, L (A + 7) 1)) ∧ (powAt L' A 8 u (L (A + 7) 2, L (A + 7) 3)) ∧ (∀ q, q ≠ A → q ≠ A + 6 → L' q = L q) ∧ (∀ j, j ≠ 7 → j ≠ 8 → L' A j = L A j)) := by
  refine xM.of (by decide) (Nat.le_of_ble_eq_true rfl) (fun p e s m args below meth c C hnm hsz => ?_)
  refine x_lv [(0, .ref A)] rfl ?_
  refine x_aload_n 0 C dX12_layPoint_0 rfl 0 rfl ?_
  refine x_iconst 1 C (v := 0) dX12_layPoint_1 rfl ?_
  refine x_aload_n 2 C dX12_layPoint_2 rfl 0 rfl ?_
  refine x_getr 3 C (b := A + 7) dX12_layPoint_3 ff_X12_36 rfl hM.1 rfl ?_
  refine x_iconst 6 C (v := 0) dX12_layPoint_6 rfl ?_
  refine x_lald 7 C (j := 0) dX12_layPoint_7 hM.2.2.2.2.2.2.2.1 ⟨by decide, by decide, by decide⟩ ?_
  refine x_aload_n 8 C dX12_layPoint_8 rfl 0 rfl ?_
  refine x_getr 9 C (b := A + 7) dX12_layPoint_9 ff_X12_36 rfl hM.1 rfl ?_
  refine x_iconst 12 C (v := 1) dX12_layPoint_12 rfl ?_
  refine x_lald 13 C (j := 1) dX12_layPoint_13 hM.2.2.2.2.2.2.2.1 ⟨by decide, by decide, by decide⟩ ?_
  refine x_callVp 14 C dX12_layPoint_14 (As := [.int 0, .long (L (A + 7) 0), .long (L (A + 7) 1)]) (rest := []) (t_X12_layPowers l D z n G I L A 0 (L (A + 7) 0) (L (A + 7) 1) u hM (by omega) (by first | assumption | omega | decide) (by first | assumption | omega | decide) (by first | omega | assumption | decide)) mt_X12_layPowers km_X12_104 ki_X12_layPowers ks_X12_layPowers hM.1 ⟨by decide, rfl⟩ rfl (Nat.le_of_ble_eq_true rfl) ⟨⟨by decide, by decide⟩, by decide, by decide⟩ (fun w1 I2 L3 hw1 => ?_)
  obtain ⟨hw1v, eI2, hw1r0, hw1r1, hw1r2, hw1r3⟩ := hw1
  subst hw1v
  refine x_st [] rfl ?_
  replace eI2 := eI2.symm; subst eI2
  refine x_aload_n 17 C dX12_layPoint_17 rfl 0 rfl ?_
  refine x_bipush 18 C (v := 8) dX12_layPoint_18 rfl ?_
  refine x_aload_n 20 C dX12_layPoint_20 rfl 0 rfl ?_
  refine x_getr 21 C (b := A + 7) dX12_layPoint_21 ff_X12_36 rfl hM.1 rfl ?_
  refine x_iconst 24 C (v := 2) dX12_layPoint_24 rfl ?_
  refine x_lald 25 C (j := 2) dX12_layPoint_25 hM.2.2.2.2.2.2.2.1 ⟨by decide, by decide, by decide⟩ ?_
  refine x_long (L (A + 7) 2) (by rw [hw1r2 _ (by omega) (by omega)]) ?_
  refine x_aload_n 26 C dX12_layPoint_26 rfl 0 rfl ?_
  refine x_getr 27 C (b := A + 7) dX12_layPoint_27 ff_X12_36 rfl hM.1 rfl ?_
  refine x_iconst 30 C (v := 3) dX12_layPoint_30 rfl ?_
  refine x_lald 31 C (j := 3) dX12_layPoint_31 hM.2.2.2.2.2.2.2.1 ⟨by decide, by decide, by decide⟩ ?_
  refine x_long (L (A + 7) 3) (by rw [hw1r2 _ (by omega) (by omega)]) ?_
  refine x_callVp 32 C dX12_layPoint_32 (As := [.int 8, .long (L (A + 7) 2), .long (L (A + 7) 3)]) (rest := []) (t_X12_layPowers l D z n G I L3 A 8 (L (A + 7) 2) (L (A + 7) 3) u hM (by omega) (by rw [hw1r3 9 (by decide) (by decide)]; exact hu9) (by first | assumption | omega | decide) (by first | omega | assumption | decide)) mt_X12_layPowers km_X12_104 ki_X12_layPowers ks_X12_layPowers hM.1 ⟨by decide, rfl⟩ rfl (Nat.le_of_ble_eq_true rfl) ⟨⟨by decide, by decide⟩, by decide, by decide⟩ (fun w4 I5 L6 hw4 => ?_)
  obtain ⟨hw4v, eI5, hw4r0, hw4r1, hw4r2, hw4r3⟩ := hw4
  subst hw4v
  refine x_st [] rfl ?_
  replace eI5 := eI5.symm; subst eI5
  refine x_vret 35 C dX12_layPoint_35 rfl (Nat.le_refl _) (xN.intro ?_)
  exact ⟨rfl, rfl, powAt_congr (fun j h1 h2 => hw4r1 j (Or.inl (by omega))) hw1r0, hw4r0, fun q h1 h2 => (hw4r2 q h1 h2).trans (hw1r2 q h1 h2), fun j h7 h8 => (hw4r3 j h7 h8).trans (hw1r3 j h7 h8)⟩
theorem dX12_coefficientOf_0 : decode cX12_coefficientOf 0 = .ok (.iload_n 1, 1) := by decide +kernel
theorem dX12_coefficientOf_1 : decode cX12_coefficientOf 1 = .ok (.iconst 2, 1) := by decide +kernel
theorem dX12_coefficientOf_2 : decode cX12_coefficientOf 2 = .ok (.if_icmp .ge 18, 3) := by decide +kernel
theorem dX12_coefficientOf_5 : decode cX12_coefficientOf 5 = .ok (.aload_n 0, 1) := by decide +kernel
theorem dX12_coefficientOf_6 : decode cX12_coefficientOf 6 = .ok (.getfield 7, 3) := by decide +kernel
theorem dX12_coefficientOf_9 : decode cX12_coefficientOf 9 = .ok (.iload_n 1, 1) := by decide +kernel
theorem dX12_coefficientOf_10 : decode cX12_coefficientOf 10 = .ok (.iload_n 2, 1) := by decide +kernel
theorem dX12_coefficientOf_11 : decode cX12_coefficientOf 11 = .ok (.iload_n 3, 1) := by decide +kernel
theorem dX12_coefficientOf_12 : decode cX12_coefficientOf 12 = .ok (.invokestatic 60, 3) := by decide +kernel
theorem dX12_coefficientOf_15 : decode cX12_coefficientOf 15 = .ok (.iload 4, 2) := by decide +kernel
theorem dX12_coefficientOf_17 : decode cX12_coefficientOf 17 = .ok (.iadd, 1) := by decide +kernel
theorem dX12_coefficientOf_18 : decode cX12_coefficientOf 18 = .ok (.iaload, 1) := by decide +kernel
theorem dX12_coefficientOf_19 : decode cX12_coefficientOf 19 = .ok (.ireturn, 1) := by decide +kernel
theorem dX12_coefficientOf_20 : decode cX12_coefficientOf 20 = .ok (.aload_n 0, 1) := by decide +kernel
theorem dX12_coefficientOf_21 : decode cX12_coefficientOf 21 = .ok (.getfield 7, 3) := by decide +kernel
theorem dX12_coefficientOf_24 : decode cX12_coefficientOf 24 = .ok (.bipush 40, 2) := by decide +kernel
theorem dX12_coefficientOf_26 : decode cX12_coefficientOf 26 = .ok (.iload_n 1, 1) := by decide +kernel
theorem dX12_coefficientOf_27 : decode cX12_coefficientOf 27 = .ok (.iadd, 1) := by decide +kernel
theorem dX12_coefficientOf_28 : decode cX12_coefficientOf 28 = .ok (.iconst 2, 1) := by decide +kernel
theorem dX12_coefficientOf_29 : decode cX12_coefficientOf 29 = .ok (.isub, 1) := by decide +kernel
theorem dX12_coefficientOf_30 : decode cX12_coefficientOf 30 = .ok (.iaload, 1) := by decide +kernel
theorem dX12_coefficientOf_31 : decode cX12_coefficientOf 31 = .ok (.istore 5, 2) := by decide +kernel
theorem dX12_coefficientOf_33 : decode cX12_coefficientOf 33 = .ok (.iload_n 1, 1) := by decide +kernel
theorem dX12_coefficientOf_34 : decode cX12_coefficientOf 34 = .ok (.iconst 2, 1) := by decide +kernel
theorem dX12_coefficientOf_35 : decode cX12_coefficientOf 35 = .ok (.if_icmp .ne 21, 3) := by decide +kernel
theorem dX12_coefficientOf_38 : decode cX12_coefficientOf 38 = .ok (.iload_n 2, 1) := by decide +kernel
theorem dX12_coefficientOf_39 : decode cX12_coefficientOf 39 = .ok (.iload 5, 2) := by decide +kernel
theorem dX12_coefficientOf_41 : decode cX12_coefficientOf 41 = .ok (.if_icmp .ne 11, 3) := by decide +kernel
theorem dX12_coefficientOf_44 : decode cX12_coefficientOf 44 = .ok (.iload_n 3, 1) := by decide +kernel
theorem dX12_coefficientOf_45 : decode cX12_coefficientOf 45 = .ok (.ifCond .ne 7, 3) := by decide +kernel
theorem dX12_coefficientOf_48 : decode cX12_coefficientOf 48 = .ok (.iconst 1, 1) := by decide +kernel
theorem dX12_coefficientOf_49 : decode cX12_coefficientOf 49 = .ok (.goto 22, 3) := by decide +kernel
theorem dX12_coefficientOf_52 : decode cX12_coefficientOf 52 = .ok (.iconst 0, 1) := by decide +kernel
theorem dX12_coefficientOf_53 : decode cX12_coefficientOf 53 = .ok (.goto 18, 3) := by decide +kernel
theorem dX12_coefficientOf_56 : decode cX12_coefficientOf 56 = .ok (.iload_n 3, 1) := by decide +kernel
theorem dX12_coefficientOf_57 : decode cX12_coefficientOf 57 = .ok (.iload 5, 2) := by decide +kernel
theorem dX12_coefficientOf_59 : decode cX12_coefficientOf 59 = .ok (.if_icmp .ne 11, 3) := by decide +kernel
theorem dX12_coefficientOf_62 : decode cX12_coefficientOf 62 = .ok (.iload_n 2, 1) := by decide +kernel
theorem dX12_coefficientOf_63 : decode cX12_coefficientOf 63 = .ok (.ifCond .ne 7, 3) := by decide +kernel
theorem dX12_coefficientOf_66 : decode cX12_coefficientOf 66 = .ok (.iconst 1, 1) := by decide +kernel
theorem dX12_coefficientOf_67 : decode cX12_coefficientOf 67 = .ok (.goto 4, 3) := by decide +kernel
theorem dX12_coefficientOf_70 : decode cX12_coefficientOf 70 = .ok (.iconst 0, 1) := by decide +kernel
theorem dX12_coefficientOf_71 : decode cX12_coefficientOf 71 = .ok (.istore 6, 2) := by decide +kernel
theorem dX12_coefficientOf_73 : decode cX12_coefficientOf 73 = .ok (.iload 4, 2) := by decide +kernel
theorem dX12_coefficientOf_75 : decode cX12_coefficientOf 75 = .ok (.iconst 1, 1) := by decide +kernel
theorem dX12_coefficientOf_76 : decode cX12_coefficientOf 76 = .ok (.if_icmp .ne 7, 3) := by decide +kernel
theorem dX12_coefficientOf_79 : decode cX12_coefficientOf 79 = .ok (.iconst 0, 1) := by decide +kernel
theorem dX12_coefficientOf_80 : decode cX12_coefficientOf 80 = .ok (.goto 23, 3) := by decide +kernel
theorem dX12_coefficientOf_83 : decode cX12_coefficientOf 83 = .ok (.iload 6, 2) := by decide +kernel
theorem dX12_coefficientOf_85 : decode cX12_coefficientOf 85 = .ok (.ifCond .eq 7, 3) := by decide +kernel
theorem dX12_coefficientOf_88 : decode cX12_coefficientOf 88 = .ok (.iconst 1, 1) := by decide +kernel
theorem dX12_coefficientOf_89 : decode cX12_coefficientOf 89 = .ok (.goto 14, 3) := by decide +kernel
theorem dX12_coefficientOf_92 : decode cX12_coefficientOf 92 = .ok (.iload_n 2, 1) := by decide +kernel
theorem dX12_coefficientOf_93 : decode cX12_coefficientOf 93 = .ok (.iload_n 3, 1) := by decide +kernel
theorem dX12_coefficientOf_94 : decode cX12_coefficientOf 94 = .ok (.iadd, 1) := by decide +kernel
theorem dX12_coefficientOf_95 : decode cX12_coefficientOf 95 = .ok (.ifCond .ne 7, 3) := by decide +kernel
theorem dX12_coefficientOf_98 : decode cX12_coefficientOf 98 = .ok (.iconst (-1), 1) := by decide +kernel
theorem dX12_coefficientOf_99 : decode cX12_coefficientOf 99 = .ok (.goto 4, 3) := by decide +kernel
theorem dX12_coefficientOf_102 : decode cX12_coefficientOf 102 = .ok (.iconst 0, 1) := by decide +kernel
theorem dX12_coefficientOf_103 : decode cX12_coefficientOf 103 = .ok (.ireturn, 1) := by decide +kernel
set_option maxHeartbeats 1000000 in
set_option maxRecDepth 100000 in
theorem t_X12_coefficientOf (l : Launch) (D : xD) (z n : Nat) (G : xG) (I : xI) (L : xL) (A : Nat) (e0 : Nat) (i : Nat) (j : Nat) (q : Nat) (hM : shMo G A) (he : e0 < 2) (hij : i + j ≤ 3) (hq : q < 2) : xM0 l D z yX12_coefficientOf cX12_coefficientOf 7 (some .int) 1 23 [.ref A, .int (nI e0), .int (nI i), .int (nI j), .int (nI q)] n G I L (xE (some (.int (I (A + 1) (20 * e0 + 2 * tm i j + q)))) I L) := by
  refine xM.of (by decide) (Nat.le_of_ble_eq_true rfl) (fun p e s m args below meth c C hnm hsz => ?_)
  refine x_lv [(0, .ref A), (1, .int (nI e0)), (2, .int (nI i)), (3, .int (nI j)), (4, .int (nI q))] rfl ?_
  have htm := tm_lt hij
  refine x_iload_n 0 C dX12_coefficientOf_0 rfl 1 rfl ?_
  refine x_iconst 1 C (v := 2) dX12_coefficientOf_1 rfl ?_
  refine x_icmp_ge 2 C 20 dX12_coefficientOf_2 (by decide) (fun c1 => absurd c1 (fun h => absurd ((nI_leI (a := 2) (b := e0) (by omega) (by omega)).mp h) (by omega))) (fun _ => ?_)
  refine x_aload_n 5 C dX12_coefficientOf_5 rfl 0 rfl ?_
  refine x_getr 6 C (b := A + 1) dX12_coefficientOf_6 ff_X12_7 rfl hM.1 rfl ?_
  refine x_iload_n 9 C dX12_coefficientOf_9 rfl 1 rfl ?_
  refine x_iload_n 10 C dX12_coefficientOf_10 rfl 2 rfl ?_
  refine x_iload_n 11 C dX12_coefficientOf_11 rfl 3 rfl ?_
  refine x_callSe 12 C dX12_coefficientOf_12 (As := [.int (nI e0), .int (nI i), .int (nI j)]) (rest := [.ref (A + 1)]) [.int (nI (20 * e0 + 2 * tm i j)), .ref (A + 1)] (t_X12_termOf l D z n G I L e0 i j (by first | omega | assumption | decide) (by first | omega | assumption | decide)) mt_X12_termOf km_X12_60 kt_X12_termOf rfl rfl (Nat.le_of_ble_eq_true rfl) ⟨⟨by decide, by decide⟩, by decide, by decide⟩ (fun I2 L3 eI2 eL3 => ?_)
  replace eI2 := eI2.symm; subst eI2
  replace eL3 := eL3.symm; subst eL3
  refine x_iload 15 C dX12_coefficientOf_15 4 rfl ?_
  refine x_iadd 17 C dX12_coefficientOf_17 ?_
  refine x_int (nI (20 * e0 + 2 * tm i j + q)) (nI_add (20 * e0 + 2 * tm i j) q) ?_
  refine x_iald 18 C (j := (20 * e0 + 2 * tm i j + q)) dX12_coefficientOf_18 hM.2.1 (xIx_nI (by omega) (by decide)) ?_
  refine x_iret 19 C dX12_coefficientOf_19 rfl rfl (Nat.le_refl _) (xN.intro ?_)
  exact ⟨rfl, rfl, rfl⟩
set_option maxHeartbeats 1000000 in
set_option maxRecDepth 100000 in
theorem t_X12_coefficientOf_s (l : Launch) (D : xD) (z n : Nat) (G : xG) (I : xI) (L : xL) (A : Nat) (e0 : Nat) (i : Nat) (j : Nat) (q : Nat) (d : Nat) (hM : shMo G A) (he : e0 = 2 ∨ e0 = 3) (hij : i + j ≤ 3) (hq : q < 2) (hd : 1 ≤ d ∧ d ≤ 3) (hdg : I (A + 1) (38 + e0) = nI d) : xM0 l D z yX12_coefficientOf cX12_coefficientOf 7 (some .int) 1 23 [.ref A, .int (nI e0), .int (nI i), .int (nI j), .int (nI q)] n G I L (xE (some (.int (if q = 1 then 0 else stRe (if e0 = 2 then tm d 0 else tm 0 d) (tm i j)))) I L) := by
  refine xM.of (by decide) (Nat.le_of_ble_eq_true rfl) (fun p e s m args below meth c C hnm hsz => ?_)
  refine x_lv [(0, .ref A), (1, .int (nI e0)), (2, .int (nI i)), (3, .int (nI j)), (4, .int (nI q))] rfl ?_
  have htm := tm_lt hij
  have htt := tm_top hij hd
  rcases (show e0 = 2 ∨ e0 = 3 by omega) with rfl | rfl
  · skip
    refine x_iload_n 0 C dX12_coefficientOf_0 rfl 1 rfl ?_
    refine x_iconst 1 C (v := 2) dX12_coefficientOf_1 rfl ?_
    refine x_icmp_ge 2 C 20 dX12_coefficientOf_2 (by decide) (fun _ => ?_) (fun c1 => absurd (by decide) c1)
    refine x_aload_n 20 C dX12_coefficientOf_20 rfl 0 rfl ?_
    refine x_getr 21 C (b := A + 1) dX12_coefficientOf_21 ff_X12_7 rfl hM.1 rfl ?_
    refine x_bipush 24 C (v := 40) dX12_coefficientOf_24 rfl ?_
    refine x_iload_n 26 C dX12_coefficientOf_26 rfl 1 rfl ?_
    refine x_iadd 27 C dX12_coefficientOf_27 ?_
    refine x_int 42 (by decide) ?_
    refine x_iconst 28 C (v := 2) dX12_coefficientOf_28 rfl ?_
    refine x_isub 29 C dX12_coefficientOf_29 ?_
    refine x_int 40 (by decide) ?_
    refine x_iald 30 C (j := 40) dX12_coefficientOf_30 hM.2.1 ⟨by decide, by decide, by decide⟩ ?_
    refine x_int (nI d) hdg ?_
    refine x_istore 31 C [(5, .int (nI d)), (0, .ref A), (1, .int (nI 2)), (2, .int (nI i)), (3, .int (nI j)), (4, .int (nI q))] dX12_coefficientOf_31 (by decide) rfl ?_
    refine x_iload_n 33 C dX12_coefficientOf_33 rfl 2 rfl ?_
    refine x_iconst 34 C (v := 2) dX12_coefficientOf_34 rfl ?_
    refine x_icmp_ne 35 C 56 dX12_coefficientOf_35 (by decide) (fun c2 => absurd (by decide) c2) (fun _ => ?_)
    refine x_iload_n 38 C dX12_coefficientOf_38 rfl 3 rfl ?_
    refine x_iload 39 C dX12_coefficientOf_39 0 rfl ?_
    refine x_icmp_ne 41 C 52 dX12_coefficientOf_41 (by decide) (fun c3 => ?_) (fun c3 => ?_)
    · skip
      have c3n : ¬ (i = d) := fun h => c3 ((nI_eq (a := i) (b := d) (by omega) (by omega)).mpr h)
      refine x_iconst 52 C (v := 0) dX12_coefficientOf_52 rfl ?_
      refine x_goto 53 C 71 dX12_coefficientOf_53 (by decide) ?_
      refine x_istore 71 C [(6, .int 0), (5, .int (nI d)), (0, .ref A), (1, .int (nI 2)), (2, .int (nI i)), (3, .int (nI j)), (4, .int (nI q))] dX12_coefficientOf_71 (by decide) rfl ?_
      refine x_iload 73 C dX12_coefficientOf_73 6 rfl ?_
      refine x_iconst 75 C (v := 1) dX12_coefficientOf_75 rfl ?_
      refine x_icmp_ne 76 C 83 dX12_coefficientOf_76 (by decide) (fun c4 => ?_) (fun c4 => ?_)
      · skip
        have c4n : ¬ (q = 1) := fun h => c4 ((nI_eq (a := q) (b := 1) (by omega) (by omega)).mpr h)
        refine x_iload 83 C dX12_coefficientOf_83 0 rfl ?_
        refine x_if_eq 85 C 92 dX12_coefficientOf_85 (by decide) (fun _ => ?_) (fun c5 => absurd (by decide) c5)
        refine x_iload_n 92 C dX12_coefficientOf_92 rfl 4 rfl ?_
        refine x_iload_n 93 C dX12_coefficientOf_93 rfl 5 rfl ?_
        refine x_iadd 94 C dX12_coefficientOf_94 ?_
        refine x_int (nI (i + j)) (nI_add i j) ?_
        refine x_if_ne 95 C 102 dX12_coefficientOf_95 (by decide) (fun c6 => ?_) (fun c6 => ?_)
        · skip
          have c6n : ¬ ((i + j) = 0) := fun h => c6 ((nI_eq (a := (i + j)) (b := 0) (by omega) (by omega)).mpr h)
          refine x_iconst 102 C (v := 0) dX12_coefficientOf_102 rfl ?_
          refine x_iret 103 C dX12_coefficientOf_103 rfl rfl (Nat.le_refl _) (xN.intro ?_)
          refine ⟨?_, rfl, rfl⟩
          simp only [stRe, htt.1, htt.2.1, htt.2.2]
          first | (simp [c3, c3n, c4, c4n, c6, c6n]; done) | (simp_all; done) | (simp; omega) | omega
        · skip
          have c6n : (i + j) = 0 := (nI_eq (a := (i + j)) (b := 0) (by omega) (by omega)).mp c6
          refine x_iconst 98 C (v := (-1)) dX12_coefficientOf_98 rfl ?_
          refine x_goto 99 C 103 dX12_coefficientOf_99 (by decide) ?_
          refine x_iret 103 C dX12_coefficientOf_103 rfl rfl (Nat.le_refl _) (xN.intro ?_)
          refine ⟨?_, rfl, rfl⟩
          simp only [stRe, htt.1, htt.2.1, htt.2.2]
          first | (simp [c3, c3n, c4, c4n, c6, c6n]; done) | (simp_all; done) | (simp; omega) | omega
      · skip
        have c4n : q = 1 := (nI_eq (a := q) (b := 1) (by omega) (by omega)).mp c4
        refine x_iconst 79 C (v := 0) dX12_coefficientOf_79 rfl ?_
        refine x_goto 80 C 103 dX12_coefficientOf_80 (by decide) ?_
        refine x_iret 103 C dX12_coefficientOf_103 rfl rfl (Nat.le_refl _) (xN.intro ?_)
        refine ⟨?_, rfl, rfl⟩
        simp only [stRe, htt.1, htt.2.1, htt.2.2]
        first | (simp [c3, c3n, c4, c4n]; done) | (simp_all; done) | (simp; omega) | omega
    · skip
      have c3n : i = d := (nI_eq (a := i) (b := d) (by omega) (by omega)).mp c3
      refine x_iload_n 44 C dX12_coefficientOf_44 rfl 4 rfl ?_
      refine x_if_ne 45 C 52 dX12_coefficientOf_45 (by decide) (fun c7 => ?_) (fun c7 => ?_)
      · skip
        have c7n : ¬ (j = 0) := fun h => c7 ((nI_eq (a := j) (b := 0) (by omega) (by omega)).mpr h)
        refine x_iconst 52 C (v := 0) dX12_coefficientOf_52 rfl ?_
        refine x_goto 53 C 71 dX12_coefficientOf_53 (by decide) ?_
        refine x_istore 71 C [(6, .int 0), (5, .int (nI d)), (0, .ref A), (1, .int (nI 2)), (2, .int (nI i)), (3, .int (nI j)), (4, .int (nI q))] dX12_coefficientOf_71 (by decide) rfl ?_
        refine x_iload 73 C dX12_coefficientOf_73 6 rfl ?_
        refine x_iconst 75 C (v := 1) dX12_coefficientOf_75 rfl ?_
        refine x_icmp_ne 76 C 83 dX12_coefficientOf_76 (by decide) (fun c8 => ?_) (fun c8 => ?_)
        · skip
          have c8n : ¬ (q = 1) := fun h => c8 ((nI_eq (a := q) (b := 1) (by omega) (by omega)).mpr h)
          refine x_iload 83 C dX12_coefficientOf_83 0 rfl ?_
          refine x_if_eq 85 C 92 dX12_coefficientOf_85 (by decide) (fun _ => ?_) (fun c9 => absurd (by decide) c9)
          refine x_iload_n 92 C dX12_coefficientOf_92 rfl 4 rfl ?_
          refine x_iload_n 93 C dX12_coefficientOf_93 rfl 5 rfl ?_
          refine x_iadd 94 C dX12_coefficientOf_94 ?_
          refine x_int (nI (i + j)) (nI_add i j) ?_
          refine x_if_ne 95 C 102 dX12_coefficientOf_95 (by decide) (fun c10 => ?_) (fun c10 => ?_)
          · skip
            have c10n : ¬ ((i + j) = 0) := fun h => c10 ((nI_eq (a := (i + j)) (b := 0) (by omega) (by omega)).mpr h)
            refine x_iconst 102 C (v := 0) dX12_coefficientOf_102 rfl ?_
            refine x_iret 103 C dX12_coefficientOf_103 rfl rfl (Nat.le_refl _) (xN.intro ?_)
            refine ⟨?_, rfl, rfl⟩
            simp only [stRe, htt.1, htt.2.1, htt.2.2]
            first | (simp [c3, c3n, c7, c7n, c8, c8n, c10, c10n]; done) | (simp_all; done) | (simp; omega) | omega
          · skip
            have c10n : (i + j) = 0 := (nI_eq (a := (i + j)) (b := 0) (by omega) (by omega)).mp c10
            refine x_iconst 98 C (v := (-1)) dX12_coefficientOf_98 rfl ?_
            refine x_goto 99 C 103 dX12_coefficientOf_99 (by decide) ?_
            refine x_iret 103 C dX12_coefficientOf_103 rfl rfl (Nat.le_refl _) (xN.intro ?_)
            refine ⟨?_, rfl, rfl⟩
            simp only [stRe, htt.1, htt.2.1, htt.2.2]
            first | (simp [c3, c3n, c7, c7n, c8, c8n, c10, c10n]; done) | (simp_all; done) | (simp; omega) | omega
        · skip
          have c8n : q = 1 := (nI_eq (a := q) (b := 1) (by omega) (by omega)).mp c8
          refine x_iconst 79 C (v := 0) dX12_coefficientOf_79 rfl ?_
          refine x_goto 80 C 103 dX12_coefficientOf_80 (by decide) ?_
          refine x_iret 103 C dX12_coefficientOf_103 rfl rfl (Nat.le_refl _) (xN.intro ?_)
          refine ⟨?_, rfl, rfl⟩
          simp only [stRe, htt.1, htt.2.1, htt.2.2]
          first | (simp [c3, c3n, c7, c7n, c8, c8n]; done) | (simp_all; done) | (simp; omega) | omega
      · skip
        have c7n : j = 0 := (nI_eq (a := j) (b := 0) (by omega) (by omega)).mp c7
        refine x_iconst 48 C (v := 1) dX12_coefficientOf_48 rfl ?_
        refine x_goto 49 C 71 dX12_coefficientOf_49 (by decide) ?_
        refine x_istore 71 C [(6, .int 1), (5, .int (nI d)), (0, .ref A), (1, .int (nI 2)), (2, .int (nI i)), (3, .int (nI j)), (4, .int (nI q))] dX12_coefficientOf_71 (by decide) rfl ?_
        refine x_iload 73 C dX12_coefficientOf_73 6 rfl ?_
        refine x_iconst 75 C (v := 1) dX12_coefficientOf_75 rfl ?_
        refine x_icmp_ne 76 C 83 dX12_coefficientOf_76 (by decide) (fun c11 => ?_) (fun c11 => ?_)
        · skip
          have c11n : ¬ (q = 1) := fun h => c11 ((nI_eq (a := q) (b := 1) (by omega) (by omega)).mpr h)
          refine x_iload 83 C dX12_coefficientOf_83 0 rfl ?_
          refine x_if_eq 85 C 92 dX12_coefficientOf_85 (by decide) (fun c12 => absurd c12 (by decide)) (fun _ => ?_)
          refine x_iconst 88 C (v := 1) dX12_coefficientOf_88 rfl ?_
          refine x_goto 89 C 103 dX12_coefficientOf_89 (by decide) ?_
          refine x_iret 103 C dX12_coefficientOf_103 rfl rfl (Nat.le_refl _) (xN.intro ?_)
          refine ⟨?_, rfl, rfl⟩
          simp only [stRe, htt.1, htt.2.1, htt.2.2]
          first | (simp [c3, c3n, c7, c7n, c11, c11n]; done) | (simp_all; done) | (simp; omega) | omega
        · skip
          have c11n : q = 1 := (nI_eq (a := q) (b := 1) (by omega) (by omega)).mp c11
          refine x_iconst 79 C (v := 0) dX12_coefficientOf_79 rfl ?_
          refine x_goto 80 C 103 dX12_coefficientOf_80 (by decide) ?_
          refine x_iret 103 C dX12_coefficientOf_103 rfl rfl (Nat.le_refl _) (xN.intro ?_)
          refine ⟨?_, rfl, rfl⟩
          simp only [stRe, htt.1, htt.2.1, htt.2.2]
          first | (simp [c3, c3n, c7, c7n, c11, c11n]; done) | (simp_all; done) | (simp; omega) | omega
  · skip
    refine x_iload_n 0 C dX12_coefficientOf_0 rfl 1 rfl ?_
    refine x_iconst 1 C (v := 2) dX12_coefficientOf_1 rfl ?_
    refine x_icmp_ge 2 C 20 dX12_coefficientOf_2 (by decide) (fun _ => ?_) (fun c13 => absurd (by decide) c13)
    refine x_aload_n 20 C dX12_coefficientOf_20 rfl 0 rfl ?_
    refine x_getr 21 C (b := A + 1) dX12_coefficientOf_21 ff_X12_7 rfl hM.1 rfl ?_
    refine x_bipush 24 C (v := 40) dX12_coefficientOf_24 rfl ?_
    refine x_iload_n 26 C dX12_coefficientOf_26 rfl 1 rfl ?_
    refine x_iadd 27 C dX12_coefficientOf_27 ?_
    refine x_int 43 (by decide) ?_
    refine x_iconst 28 C (v := 2) dX12_coefficientOf_28 rfl ?_
    refine x_isub 29 C dX12_coefficientOf_29 ?_
    refine x_int 41 (by decide) ?_
    refine x_iald 30 C (j := 41) dX12_coefficientOf_30 hM.2.1 ⟨by decide, by decide, by decide⟩ ?_
    refine x_int (nI d) hdg ?_
    refine x_istore 31 C [(5, .int (nI d)), (0, .ref A), (1, .int (nI 3)), (2, .int (nI i)), (3, .int (nI j)), (4, .int (nI q))] dX12_coefficientOf_31 (by decide) rfl ?_
    refine x_iload_n 33 C dX12_coefficientOf_33 rfl 2 rfl ?_
    refine x_iconst 34 C (v := 2) dX12_coefficientOf_34 rfl ?_
    refine x_icmp_ne 35 C 56 dX12_coefficientOf_35 (by decide) (fun _ => ?_) (fun c14 => absurd c14 (by decide))
    refine x_iload_n 56 C dX12_coefficientOf_56 rfl 4 rfl ?_
    refine x_iload 57 C dX12_coefficientOf_57 0 rfl ?_
    refine x_icmp_ne 59 C 70 dX12_coefficientOf_59 (by decide) (fun c15 => ?_) (fun c15 => ?_)
    · skip
      have c15n : ¬ (j = d) := fun h => c15 ((nI_eq (a := j) (b := d) (by omega) (by omega)).mpr h)
      refine x_iconst 70 C (v := 0) dX12_coefficientOf_70 rfl ?_
      refine x_istore 71 C [(6, .int 0), (5, .int (nI d)), (0, .ref A), (1, .int (nI 3)), (2, .int (nI i)), (3, .int (nI j)), (4, .int (nI q))] dX12_coefficientOf_71 (by decide) rfl ?_
      refine x_iload 73 C dX12_coefficientOf_73 6 rfl ?_
      refine x_iconst 75 C (v := 1) dX12_coefficientOf_75 rfl ?_
      refine x_icmp_ne 76 C 83 dX12_coefficientOf_76 (by decide) (fun c16 => ?_) (fun c16 => ?_)
      · skip
        have c16n : ¬ (q = 1) := fun h => c16 ((nI_eq (a := q) (b := 1) (by omega) (by omega)).mpr h)
        refine x_iload 83 C dX12_coefficientOf_83 0 rfl ?_
        refine x_if_eq 85 C 92 dX12_coefficientOf_85 (by decide) (fun _ => ?_) (fun c17 => absurd (by decide) c17)
        refine x_iload_n 92 C dX12_coefficientOf_92 rfl 4 rfl ?_
        refine x_iload_n 93 C dX12_coefficientOf_93 rfl 5 rfl ?_
        refine x_iadd 94 C dX12_coefficientOf_94 ?_
        refine x_int (nI (i + j)) (nI_add i j) ?_
        refine x_if_ne 95 C 102 dX12_coefficientOf_95 (by decide) (fun c18 => ?_) (fun c18 => ?_)
        · skip
          have c18n : ¬ ((i + j) = 0) := fun h => c18 ((nI_eq (a := (i + j)) (b := 0) (by omega) (by omega)).mpr h)
          refine x_iconst 102 C (v := 0) dX12_coefficientOf_102 rfl ?_
          refine x_iret 103 C dX12_coefficientOf_103 rfl rfl (Nat.le_refl _) (xN.intro ?_)
          refine ⟨?_, rfl, rfl⟩
          simp only [stRe, htt.1, htt.2.1, htt.2.2]
          first | (simp [c15, c15n, c16, c16n, c18, c18n]; done) | (simp_all; done) | (simp; omega) | omega
        · skip
          have c18n : (i + j) = 0 := (nI_eq (a := (i + j)) (b := 0) (by omega) (by omega)).mp c18
          refine x_iconst 98 C (v := (-1)) dX12_coefficientOf_98 rfl ?_
          refine x_goto 99 C 103 dX12_coefficientOf_99 (by decide) ?_
          refine x_iret 103 C dX12_coefficientOf_103 rfl rfl (Nat.le_refl _) (xN.intro ?_)
          refine ⟨?_, rfl, rfl⟩
          simp only [stRe, htt.1, htt.2.1, htt.2.2]
          first | (simp [c15, c15n, c16, c16n, c18, c18n]; done) | (simp_all; done) | (simp; omega) | omega
      · skip
        have c16n : q = 1 := (nI_eq (a := q) (b := 1) (by omega) (by omega)).mp c16
        refine x_iconst 79 C (v := 0) dX12_coefficientOf_79 rfl ?_
        refine x_goto 80 C 103 dX12_coefficientOf_80 (by decide) ?_
        refine x_iret 103 C dX12_coefficientOf_103 rfl rfl (Nat.le_refl _) (xN.intro ?_)
        refine ⟨?_, rfl, rfl⟩
        simp only [stRe, htt.1, htt.2.1, htt.2.2]
        first | (simp [c15, c15n, c16, c16n]; done) | (simp_all; done) | (simp; omega) | omega
    · skip
      have c15n : j = d := (nI_eq (a := j) (b := d) (by omega) (by omega)).mp c15
      refine x_iload_n 62 C dX12_coefficientOf_62 rfl 3 rfl ?_
      refine x_if_ne 63 C 70 dX12_coefficientOf_63 (by decide) (fun c19 => ?_) (fun c19 => ?_)
      · skip
        have c19n : ¬ (i = 0) := fun h => c19 ((nI_eq (a := i) (b := 0) (by omega) (by omega)).mpr h)
        refine x_iconst 70 C (v := 0) dX12_coefficientOf_70 rfl ?_
        refine x_istore 71 C [(6, .int 0), (5, .int (nI d)), (0, .ref A), (1, .int (nI 3)), (2, .int (nI i)), (3, .int (nI j)), (4, .int (nI q))] dX12_coefficientOf_71 (by decide) rfl ?_
        refine x_iload 73 C dX12_coefficientOf_73 6 rfl ?_
        refine x_iconst 75 C (v := 1) dX12_coefficientOf_75 rfl ?_
        refine x_icmp_ne 76 C 83 dX12_coefficientOf_76 (by decide) (fun c20 => ?_) (fun c20 => ?_)
        · skip
          have c20n : ¬ (q = 1) := fun h => c20 ((nI_eq (a := q) (b := 1) (by omega) (by omega)).mpr h)
          refine x_iload 83 C dX12_coefficientOf_83 0 rfl ?_
          refine x_if_eq 85 C 92 dX12_coefficientOf_85 (by decide) (fun _ => ?_) (fun c21 => absurd (by decide) c21)
          refine x_iload_n 92 C dX12_coefficientOf_92 rfl 4 rfl ?_
          refine x_iload_n 93 C dX12_coefficientOf_93 rfl 5 rfl ?_
          refine x_iadd 94 C dX12_coefficientOf_94 ?_
          refine x_int (nI (i + j)) (nI_add i j) ?_
          refine x_if_ne 95 C 102 dX12_coefficientOf_95 (by decide) (fun c22 => ?_) (fun c22 => ?_)
          · skip
            have c22n : ¬ ((i + j) = 0) := fun h => c22 ((nI_eq (a := (i + j)) (b := 0) (by omega) (by omega)).mpr h)
            refine x_iconst 102 C (v := 0) dX12_coefficientOf_102 rfl ?_
            refine x_iret 103 C dX12_coefficientOf_103 rfl rfl (Nat.le_refl _) (xN.intro ?_)
            refine ⟨?_, rfl, rfl⟩
            simp only [stRe, htt.1, htt.2.1, htt.2.2]
            first | (simp [c15, c15n, c19, c19n, c20, c20n, c22, c22n]; done) | (simp_all; done) | (simp; omega) | omega
          · skip
            have c22n : (i + j) = 0 := (nI_eq (a := (i + j)) (b := 0) (by omega) (by omega)).mp c22
            refine x_iconst 98 C (v := (-1)) dX12_coefficientOf_98 rfl ?_
            refine x_goto 99 C 103 dX12_coefficientOf_99 (by decide) ?_
            refine x_iret 103 C dX12_coefficientOf_103 rfl rfl (Nat.le_refl _) (xN.intro ?_)
            refine ⟨?_, rfl, rfl⟩
            simp only [stRe, htt.1, htt.2.1, htt.2.2]
            first | (simp [c15, c15n, c19, c19n, c20, c20n, c22, c22n]; done) | (simp_all; done) | (simp; omega) | omega
        · skip
          have c20n : q = 1 := (nI_eq (a := q) (b := 1) (by omega) (by omega)).mp c20
          refine x_iconst 79 C (v := 0) dX12_coefficientOf_79 rfl ?_
          refine x_goto 80 C 103 dX12_coefficientOf_80 (by decide) ?_
          refine x_iret 103 C dX12_coefficientOf_103 rfl rfl (Nat.le_refl _) (xN.intro ?_)
          refine ⟨?_, rfl, rfl⟩
          simp only [stRe, htt.1, htt.2.1, htt.2.2]
          first | (simp [c15, c15n, c19, c19n, c20, c20n]; done) | (simp_all; done) | (simp; omega) | omega
      · skip
        have c19n : i = 0 := (nI_eq (a := i) (b := 0) (by omega) (by omega)).mp c19
        refine x_iconst 66 C (v := 1) dX12_coefficientOf_66 rfl ?_
        refine x_goto 67 C 71 dX12_coefficientOf_67 (by decide) ?_
        refine x_istore 71 C [(6, .int 1), (5, .int (nI d)), (0, .ref A), (1, .int (nI 3)), (2, .int (nI i)), (3, .int (nI j)), (4, .int (nI q))] dX12_coefficientOf_71 (by decide) rfl ?_
        refine x_iload 73 C dX12_coefficientOf_73 6 rfl ?_
        refine x_iconst 75 C (v := 1) dX12_coefficientOf_75 rfl ?_
        refine x_icmp_ne 76 C 83 dX12_coefficientOf_76 (by decide) (fun c23 => ?_) (fun c23 => ?_)
        · skip
          have c23n : ¬ (q = 1) := fun h => c23 ((nI_eq (a := q) (b := 1) (by omega) (by omega)).mpr h)
          refine x_iload 83 C dX12_coefficientOf_83 0 rfl ?_
          refine x_if_eq 85 C 92 dX12_coefficientOf_85 (by decide) (fun c24 => absurd c24 (by decide)) (fun _ => ?_)
          refine x_iconst 88 C (v := 1) dX12_coefficientOf_88 rfl ?_
          refine x_goto 89 C 103 dX12_coefficientOf_89 (by decide) ?_
          refine x_iret 103 C dX12_coefficientOf_103 rfl rfl (Nat.le_refl _) (xN.intro ?_)
          refine ⟨?_, rfl, rfl⟩
          simp only [stRe, htt.1, htt.2.1, htt.2.2]
          first | (simp [c15, c15n, c19, c19n, c23, c23n]; done) | (simp_all; done) | (simp; omega) | omega
        · skip
          have c23n : q = 1 := (nI_eq (a := q) (b := 1) (by omega) (by omega)).mp c23
          refine x_iconst 79 C (v := 0) dX12_coefficientOf_79 rfl ?_
          refine x_goto 80 C 103 dX12_coefficientOf_80 (by decide) ?_
          refine x_iret 103 C dX12_coefficientOf_103 rfl rfl (Nat.le_refl _) (xN.intro ?_)
          refine ⟨?_, rfl, rfl⟩
          simp only [stRe, htt.1, htt.2.1, htt.2.2]
          first | (simp [c15, c15n, c19, c19n, c23, c23n]; done) | (simp_all; done) | (simp; omega) | omega
theorem dX12_product_0 : decode cX12_product 0 = .ok (.iload_n 1, 1) := by decide +kernel
theorem dX12_product_1 : decode cX12_product 1 = .ok (.ifCond .eq 7, 3) := by decide +kernel
theorem dX12_product_4 : decode cX12_product 4 = .ok (.iload_n 2, 1) := by decide +kernel
theorem dX12_product_5 : decode cX12_product 5 = .ok (.ifCond .ne 41, 3) := by decide +kernel
theorem dX12_product_8 : decode cX12_product 8 = .ok (.iload_n 1, 1) := by decide +kernel
theorem dX12_product_9 : decode cX12_product 9 = .ok (.ifCond .ne 12, 3) := by decide +kernel
theorem dX12_product_12 : decode cX12_product 12 = .ok (.bipush 8, 2) := by decide +kernel
theorem dX12_product_14 : decode cX12_product 14 = .ok (.iconst 2, 1) := by decide +kernel
theorem dX12_product_15 : decode cX12_product 15 = .ok (.iload_n 2, 1) := by decide +kernel
theorem dX12_product_16 : decode cX12_product 16 = .ok (.imul, 1) := by decide +kernel
theorem dX12_product_17 : decode cX12_product 17 = .ok (.iadd, 1) := by decide +kernel
theorem dX12_product_18 : decode cX12_product 18 = .ok (.goto 6, 3) := by decide +kernel
theorem dX12_product_21 : decode cX12_product 21 = .ok (.iconst 2, 1) := by decide +kernel
theorem dX12_product_22 : decode cX12_product 22 = .ok (.iload_n 1, 1) := by decide +kernel
theorem dX12_product_23 : decode cX12_product 23 = .ok (.imul, 1) := by decide +kernel
theorem dX12_product_24 : decode cX12_product 24 = .ok (.istore_n 3, 1) := by decide +kernel
theorem dX12_product_25 : decode cX12_product 25 = .ok (.aload_n 0, 1) := by decide +kernel
theorem dX12_product_26 : decode cX12_product 26 = .ok (.aload_n 0, 1) := by decide +kernel
theorem dX12_product_27 : decode cX12_product 27 = .ok (.getfield 32, 3) := by decide +kernel
theorem dX12_product_30 : decode cX12_product 30 = .ok (.iload_n 3, 1) := by decide +kernel
theorem dX12_product_31 : decode cX12_product 31 = .ok (.laload, 1) := by decide +kernel
theorem dX12_product_32 : decode cX12_product 32 = .ok (.aload_n 0, 1) := by decide +kernel
theorem dX12_product_33 : decode cX12_product 33 = .ok (.getfield 32, 3) := by decide +kernel
theorem dX12_product_36 : decode cX12_product 36 = .ok (.iload_n 3, 1) := by decide +kernel
theorem dX12_product_37 : decode cX12_product 37 = .ok (.iconst 1, 1) := by decide +kernel
theorem dX12_product_38 : decode cX12_product 38 = .ok (.iadd, 1) := by decide +kernel
theorem dX12_product_39 : decode cX12_product 39 = .ok (.laload, 1) := by decide +kernel
theorem dX12_product_40 : decode cX12_product 40 = .ok (.invokevirtual 93, 3) := by decide +kernel
theorem dX12_product_43 : decode cX12_product 43 = .ok (.goto 47, 3) := by decide +kernel
theorem dX12_product_46 : decode cX12_product 46 = .ok (.aload_n 0, 1) := by decide +kernel
theorem dX12_product_47 : decode cX12_product 47 = .ok (.aload_n 0, 1) := by decide +kernel
theorem dX12_product_48 : decode cX12_product 48 = .ok (.getfield 32, 3) := by decide +kernel
theorem dX12_product_51 : decode cX12_product 51 = .ok (.iconst 2, 1) := by decide +kernel
theorem dX12_product_52 : decode cX12_product 52 = .ok (.iload_n 1, 1) := by decide +kernel
theorem dX12_product_53 : decode cX12_product 53 = .ok (.imul, 1) := by decide +kernel
theorem dX12_product_54 : decode cX12_product 54 = .ok (.laload, 1) := by decide +kernel
theorem dX12_product_55 : decode cX12_product 55 = .ok (.aload_n 0, 1) := by decide +kernel
theorem dX12_product_56 : decode cX12_product 56 = .ok (.getfield 32, 3) := by decide +kernel
theorem dX12_product_59 : decode cX12_product 59 = .ok (.iconst 2, 1) := by decide +kernel
theorem dX12_product_60 : decode cX12_product 60 = .ok (.iload_n 1, 1) := by decide +kernel
theorem dX12_product_61 : decode cX12_product 61 = .ok (.imul, 1) := by decide +kernel
theorem dX12_product_62 : decode cX12_product 62 = .ok (.iconst 1, 1) := by decide +kernel
theorem dX12_product_63 : decode cX12_product 63 = .ok (.iadd, 1) := by decide +kernel
theorem dX12_product_64 : decode cX12_product 64 = .ok (.laload, 1) := by decide +kernel
theorem dX12_product_65 : decode cX12_product 65 = .ok (.aload_n 0, 1) := by decide +kernel
theorem dX12_product_66 : decode cX12_product 66 = .ok (.getfield 32, 3) := by decide +kernel
theorem dX12_product_69 : decode cX12_product 69 = .ok (.bipush 8, 2) := by decide +kernel
theorem dX12_product_71 : decode cX12_product 71 = .ok (.iconst 2, 1) := by decide +kernel
theorem dX12_product_72 : decode cX12_product 72 = .ok (.iload_n 2, 1) := by decide +kernel
theorem dX12_product_73 : decode cX12_product 73 = .ok (.imul, 1) := by decide +kernel
theorem dX12_product_74 : decode cX12_product 74 = .ok (.iadd, 1) := by decide +kernel
theorem dX12_product_75 : decode cX12_product 75 = .ok (.laload, 1) := by decide +kernel
theorem dX12_product_76 : decode cX12_product 76 = .ok (.aload_n 0, 1) := by decide +kernel
theorem dX12_product_77 : decode cX12_product 77 = .ok (.getfield 32, 3) := by decide +kernel
theorem dX12_product_80 : decode cX12_product 80 = .ok (.bipush 9, 2) := by decide +kernel
theorem dX12_product_82 : decode cX12_product 82 = .ok (.iconst 2, 1) := by decide +kernel
theorem dX12_product_83 : decode cX12_product 83 = .ok (.iload_n 2, 1) := by decide +kernel
theorem dX12_product_84 : decode cX12_product 84 = .ok (.imul, 1) := by decide +kernel
theorem dX12_product_85 : decode cX12_product 85 = .ok (.iadd, 1) := by decide +kernel
theorem dX12_product_86 : decode cX12_product 86 = .ok (.laload, 1) := by decide +kernel
theorem dX12_product_87 : decode cX12_product 87 = .ok (.invokevirtual 100, 3) := by decide +kernel
theorem dX12_product_90 : decode cX12_product 90 = .ok (.return_, 1) := by decide +kernel
set_option maxHeartbeats 1000000 in
set_option maxRecDepth 100000 in
theorem t_X12_product (l : Launch) (D : xD) (z n : Nat) (G : xG) (I : xI) (L : xL) (A : Nat) (i : Nat) (j : Nat) (x : xC) (y : xC) (u : Int64) (hM : shMo G A) (zA : z ≤ A) (hij : i + j ≤ 3) (hp : powAt L A 0 u x) (hq : powAt L A 8 u y) (hx : hC x = x) (hy : hC y = y) (hu9 : L A 9 = u) (hu : ¬ u = 0) : xM0 l D z yX12_product cX12_product 4 none 3 73 [.ref A, .int (nI i), .int (nI j)] n G I L (xE none I (mwC L A (powC x y u (tm i j)))) := by
  refine xM.of (by decide) (Nat.le_of_ble_eq_true rfl) (fun p e s m args below meth c C hnm hsz => ?_)
  refine x_lv [(0, .ref A), (1, .int (nI i)), (2, .int (nI j))] rfl ?_
  refine x_iload_n 0 C dX12_product_0 rfl 1 rfl ?_
  refine x_if_eq 1 C 8 dX12_product_1 (by decide) (fun c1 => ?_) (fun c1 => ?_)
  · skip
    have c1n : i = 0 := (nI_eq (a := i) (b := 0) (by omega) (by omega)).mp c1
    refine x_iload_n 8 C dX12_product_8 rfl 1 rfl ?_
    refine x_if_ne 9 C 21 dX12_product_9 (by decide) (fun c2 => absurd ((nI_eq (a := i) (b := 0) (by omega) (by omega)).mpr (by omega)) c2) (fun _ => ?_)
    refine x_bipush 12 C (v := 8) dX12_product_12 rfl ?_
    refine x_iconst 14 C (v := 2) dX12_product_14 rfl ?_
    refine x_iload_n 15 C dX12_product_15 rfl 2 rfl ?_
    refine x_imul 16 C dX12_product_16 ?_
    refine x_int (nI (2 * j)) (nI_mul 2 j) ?_
    refine x_iadd 17 C dX12_product_17 ?_
    refine x_int (nI (8 + (2 * j))) (nI_add 8 (2 * j)) ?_
    refine x_goto 18 C 24 dX12_product_18 (by decide) ?_
    refine x_istore_n 24 C [(3, .int (nI (8 + (2 * j)))), (0, .ref A), (1, .int (nI i)), (2, .int (nI j))] dX12_product_24 rfl (by decide) rfl ?_
    refine x_aload_n 25 C dX12_product_25 rfl 1 rfl ?_
    refine x_aload_n 26 C dX12_product_26 rfl 1 rfl ?_
    refine x_getr 27 C (b := A + 6) dX12_product_27 ff_X12_32 rfl hM.1 rfl ?_
    refine x_iload_n 30 C dX12_product_30 rfl 0 rfl ?_
    refine x_lald 31 C (j := (8 + (2 * j))) dX12_product_31 hM.2.2.2.2.2.2.1 (xIx_nI (by omega) (by decide)) ?_
    refine x_aload_n 32 C dX12_product_32 rfl 1 rfl ?_
    refine x_getr 33 C (b := A + 6) dX12_product_33 ff_X12_32 rfl hM.1 rfl ?_
    refine x_iload_n 36 C dX12_product_36 rfl 0 rfl ?_
    refine x_iconst 37 C (v := 1) dX12_product_37 rfl ?_
    refine x_iadd 38 C dX12_product_38 ?_
    refine x_int (nI (8 + (2 * j) + 1)) (nI_add (8 + (2 * j)) 1) ?_
    refine x_lald 39 C (j := (8 + (2 * j) + 1)) dX12_product_39 hM.2.2.2.2.2.2.1 (xIx_nI (by omega) (by decide)) ?_
    refine x_callVe 40 C dX12_product_40 (As := [.long (L (A + 6) (8 + (2 * j))), .long (L (A + 6) (8 + (2 * j) + 1))]) (rest := []) [] (t_X12_hold l D z n G I L A (L (A + 6) (8 + (2 * j))) (L (A + 6) (8 + (2 * j) + 1)) hM (by omega)) mt_X12_hold km_X12_93 ki_X12_hold ks_X12_hold hM.1 ⟨by decide, rfl⟩ rfl rfl (Nat.le_of_ble_eq_true rfl) ⟨⟨by decide, by decide⟩, by decide, by decide⟩ (fun I3 L4 eI3 eL4 => ?_)
    replace eI3 := eI3.symm; subst eI3
    refine x_goto 43 C 90 dX12_product_43 (by decide) ?_
    refine x_vret 90 C dX12_product_90 rfl (Nat.le_refl _) (xN.intro ?_)
    refine ⟨rfl, rfl, ?_⟩
    rw [eL4]
    rw [show i = 0 by omega]; exact congrArg (mwC L A) (pr_y hq hy (by omega))
  · skip
    have c1n : ¬ (i = 0) := fun h => c1 ((nI_eq (a := i) (b := 0) (by omega) (by omega)).mpr h)
    refine x_iload_n 4 C dX12_product_4 rfl 2 rfl ?_
    refine x_if_ne 5 C 46 dX12_product_5 (by decide) (fun c5 => ?_) (fun c5 => ?_)
    · skip
      have c5n : ¬ (j = 0) := fun h => c5 ((nI_eq (a := j) (b := 0) (by omega) (by omega)).mpr h)
      refine x_aload_n 46 C dX12_product_46 rfl 0 rfl ?_
      refine x_aload_n 47 C dX12_product_47 rfl 0 rfl ?_
      refine x_getr 48 C (b := A + 6) dX12_product_48 ff_X12_32 rfl hM.1 rfl ?_
      refine x_iconst 51 C (v := 2) dX12_product_51 rfl ?_
      refine x_iload_n 52 C dX12_product_52 rfl 1 rfl ?_
      refine x_imul 53 C dX12_product_53 ?_
      refine x_int (nI (2 * i)) (nI_mul 2 i) ?_
      refine x_lald 54 C (j := (2 * i)) dX12_product_54 hM.2.2.2.2.2.2.1 (xIx_nI (by omega) (by decide)) ?_
      refine x_aload_n 55 C dX12_product_55 rfl 0 rfl ?_
      refine x_getr 56 C (b := A + 6) dX12_product_56 ff_X12_32 rfl hM.1 rfl ?_
      refine x_iconst 59 C (v := 2) dX12_product_59 rfl ?_
      refine x_iload_n 60 C dX12_product_60 rfl 1 rfl ?_
      refine x_imul 61 C dX12_product_61 ?_
      refine x_int (nI (2 * i)) (nI_mul 2 i) ?_
      refine x_iconst 62 C (v := 1) dX12_product_62 rfl ?_
      refine x_iadd 63 C dX12_product_63 ?_
      refine x_int (nI (2 * i + 1)) (nI_add (2 * i) 1) ?_
      refine x_lald 64 C (j := (2 * i + 1)) dX12_product_64 hM.2.2.2.2.2.2.1 (xIx_nI (by omega) (by decide)) ?_
      refine x_aload_n 65 C dX12_product_65 rfl 0 rfl ?_
      refine x_getr 66 C (b := A + 6) dX12_product_66 ff_X12_32 rfl hM.1 rfl ?_
      refine x_bipush 69 C (v := 8) dX12_product_69 rfl ?_
      refine x_iconst 71 C (v := 2) dX12_product_71 rfl ?_
      refine x_iload_n 72 C dX12_product_72 rfl 2 rfl ?_
      refine x_imul 73 C dX12_product_73 ?_
      refine x_int (nI (2 * j)) (nI_mul 2 j) ?_
      refine x_iadd 74 C dX12_product_74 ?_
      refine x_int (nI (8 + (2 * j))) (nI_add 8 (2 * j)) ?_
      refine x_lald 75 C (j := (8 + (2 * j))) dX12_product_75 hM.2.2.2.2.2.2.1 (xIx_nI (by omega) (by decide)) ?_
      refine x_aload_n 76 C dX12_product_76 rfl 0 rfl ?_
      refine x_getr 77 C (b := A + 6) dX12_product_77 ff_X12_32 rfl hM.1 rfl ?_
      refine x_bipush 80 C (v := 9) dX12_product_80 rfl ?_
      refine x_iconst 82 C (v := 2) dX12_product_82 rfl ?_
      refine x_iload_n 83 C dX12_product_83 rfl 2 rfl ?_
      refine x_imul 84 C dX12_product_84 ?_
      refine x_int (nI (2 * j)) (nI_mul 2 j) ?_
      refine x_iadd 85 C dX12_product_85 ?_
      refine x_int (nI (9 + (2 * j))) (nI_add 9 (2 * j)) ?_
      refine x_lald 86 C (j := (9 + (2 * j))) dX12_product_86 hM.2.2.2.2.2.2.1 (xIx_nI (by omega) (by decide)) ?_
      refine x_callVe 87 C dX12_product_87 (As := [.long (L (A + 6) (2 * i)), .long (L (A + 6) (2 * i + 1)), .long (L (A + 6) (8 + (2 * j))), .long (L (A + 6) (9 + (2 * j)))]) (rest := []) [] (t_X12_times l D z n G I L A (L (A + 6) (2 * i)) (L (A + 6) (2 * i + 1)) (L (A + 6) (8 + (2 * j))) (L (A + 6) (9 + (2 * j))) u hM (by omega) (by first | assumption | omega | decide) (by first | assumption | omega | decide)) mt_X12_times km_X12_100 ki_X12_times ks_X12_times hM.1 ⟨by decide, rfl⟩ rfl rfl (Nat.le_of_ble_eq_true rfl) ⟨⟨by decide, by decide⟩, by decide, by decide⟩ (fun I6 L7 eI6 eL7 => ?_)
      replace eI6 := eI6.symm; subst eI6
      refine x_vret 90 C dX12_product_90 rfl (Nat.le_refl _) (xN.intro ?_)
      refine ⟨rfl, rfl, ?_⟩
      rw [eL7]
      refine congrArg (mwC L A) (Eq.trans ?_ (pr_xy hp hq (by omega))); rw [show 9 + 2 * j = 8 + 2 * j + 1 by omega]
    · skip
      have c5n : j = 0 := (nI_eq (a := j) (b := 0) (by omega) (by omega)).mp c5
      refine x_iload_n 8 C dX12_product_8 rfl 1 rfl ?_
      refine x_if_ne 9 C 21 dX12_product_9 (by decide) (fun _ => ?_) (fun c8 => absurd c8 (fun h => absurd ((nI_eq (a := i) (b := 0) (by omega) (by omega)).mp h) (by omega)))
      refine x_iconst 21 C (v := 2) dX12_product_21 rfl ?_
      refine x_iload_n 22 C dX12_product_22 rfl 1 rfl ?_
      refine x_imul 23 C dX12_product_23 ?_
      refine x_int (nI (2 * i)) (nI_mul 2 i) ?_
      refine x_istore_n 24 C [(3, .int (nI (2 * i))), (0, .ref A), (1, .int (nI i)), (2, .int (nI j))] dX12_product_24 rfl (by decide) rfl ?_
      refine x_aload_n 25 C dX12_product_25 rfl 1 rfl ?_
      refine x_aload_n 26 C dX12_product_26 rfl 1 rfl ?_
      refine x_getr 27 C (b := A + 6) dX12_product_27 ff_X12_32 rfl hM.1 rfl ?_
      refine x_iload_n 30 C dX12_product_30 rfl 0 rfl ?_
      refine x_lald 31 C (j := (2 * i)) dX12_product_31 hM.2.2.2.2.2.2.1 (xIx_nI (by omega) (by decide)) ?_
      refine x_aload_n 32 C dX12_product_32 rfl 1 rfl ?_
      refine x_getr 33 C (b := A + 6) dX12_product_33 ff_X12_32 rfl hM.1 rfl ?_
      refine x_iload_n 36 C dX12_product_36 rfl 0 rfl ?_
      refine x_iconst 37 C (v := 1) dX12_product_37 rfl ?_
      refine x_iadd 38 C dX12_product_38 ?_
      refine x_int (nI (2 * i + 1)) (nI_add (2 * i) 1) ?_
      refine x_lald 39 C (j := (2 * i + 1)) dX12_product_39 hM.2.2.2.2.2.2.1 (xIx_nI (by omega) (by decide)) ?_
      refine x_callVe 40 C dX12_product_40 (As := [.long (L (A + 6) (2 * i)), .long (L (A + 6) (2 * i + 1))]) (rest := []) [] (t_X12_hold l D z n G I L A (L (A + 6) (2 * i)) (L (A + 6) (2 * i + 1)) hM (by omega)) mt_X12_hold km_X12_93 ki_X12_hold ks_X12_hold hM.1 ⟨by decide, rfl⟩ rfl rfl (Nat.le_of_ble_eq_true rfl) ⟨⟨by decide, by decide⟩, by decide, by decide⟩ (fun I9 L10 eI9 eL10 => ?_)
      replace eI9 := eI9.symm; subst eI9
      refine x_goto 43 C 90 dX12_product_43 (by decide) ?_
      refine x_vret 90 C dX12_product_90 rfl (Nat.le_refl _) (xN.intro ?_)
      refine ⟨rfl, rfl, ?_⟩
      rw [eL10]
      rw [show j = 0 by omega]; exact congrArg (mwC L A) (pr_x hp hx (by omega))
