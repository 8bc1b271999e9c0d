/-! The Model: meets, count, path, coefficient -/
theorem isP_t {k U : Nat} (hk : k < U) (hU : U ≤ 9) : ¬ bI (decide (0 ≤ nI k) && decide (nI k < nI U)) = 0 :=
  bI_n0.mpr (by rw [decide_eq_true (nI_pos' (n := k) (by omega)), decide_eq_true (nI_lt hk (by omega))]; rfl)
def vAns (v : xP) (w : Nat) : Int32 := if w = 0 then v.1 2 else if w = 1 then v.1 3 else if w = 2 then v.1 7 else if w = 3 then v.1 8 else if w = 4 then v.1 6 else if w = 5 then v.1 4 else if w = 6 then v.1 5 else vpt v (w - 7)
theorem in_b {x y w : Int32} : bI (decide (y ≤ x) && decide (x ≤ w)) = 0 ↔ ¬ (y ≤ x ∧ x ≤ w) := by
  rw [bI_0]; simp
theorem dX12_meets_0 : decode cX12_meets 0 = .ok (.aload_n 0, 1) := by decide +kernel
theorem dX12_meets_1 : decode cX12_meets 1 = .ok (.iload_n 1, 1) := by decide +kernel
theorem dX12_meets_2 : decode cX12_meets 2 = .ok (.invokevirtual 195, 3) := by decide +kernel
theorem dX12_meets_5 : decode cX12_meets 5 = .ok (.ifCond .ne 6, 3) := by decide +kernel
theorem dX12_meets_8 : decode cX12_meets 8 = .ok (.ldc 198, 2) := by decide +kernel
theorem dX12_meets_10 : decode cX12_meets 10 = .ok (.ireturn, 1) := by decide +kernel
theorem dX12_meets_11 : decode cX12_meets 11 = .ok (.aload_n 0, 1) := by decide +kernel
theorem dX12_meets_12 : decode cX12_meets 12 = .ok (.iload_n 1, 1) := by decide +kernel
theorem dX12_meets_13 : decode cX12_meets 13 = .ok (.invokevirtual 218, 3) := by decide +kernel
theorem dX12_meets_16 : decode cX12_meets 16 = .ok (.ifCond .ne 6, 3) := by decide +kernel
theorem dX12_meets_19 : decode cX12_meets 19 = .ok (.ldc 199, 2) := by decide +kernel
theorem dX12_meets_21 : decode cX12_meets 21 = .ok (.ireturn, 1) := by decide +kernel
theorem dX12_meets_22 : decode cX12_meets 22 = .ok (.aload_n 0, 1) := by decide +kernel
theorem dX12_meets_23 : decode cX12_meets 23 = .ok (.iload_n 1, 1) := by decide +kernel
theorem dX12_meets_24 : decode cX12_meets 24 = .ok (.invokevirtual 224, 3) := by decide +kernel
theorem dX12_meets_27 : decode cX12_meets 27 = .ok (.istore_n 2, 1) := by decide +kernel
theorem dX12_meets_28 : decode cX12_meets 28 = .ok (.iload_n 2, 1) := by decide +kernel
theorem dX12_meets_29 : decode cX12_meets 29 = .ok (.ifCond .ge 8, 3) := by decide +kernel
theorem dX12_meets_32 : decode cX12_meets 32 = .ok (.ldc 227, 2) := by decide +kernel
theorem dX12_meets_34 : decode cX12_meets 34 = .ok (.goto 4, 3) := by decide +kernel
theorem dX12_meets_37 : decode cX12_meets 37 = .ok (.iload_n 2, 1) := by decide +kernel
theorem dX12_meets_38 : decode cX12_meets 38 = .ok (.ireturn, 1) := by decide +kernel
set_option maxHeartbeats 1000000 in
set_option maxRecDepth 100000 in
theorem t_X12_meets (l : Launch) (D : xD) (z n : Nat) (G : xG) (I : xI) (L : xL) (A : Nat) (k : Nat) (dx : Nat) (dy : Nat) (hM : shMo G A) (hdx : I (A + 1) 40 = nI dx) (hdy : I (A + 1) 41 = nI dy) (hd3 : dx * dy ≤ 9) (hku : k < dx * dy) (hprs : ∀ i, i < dx * dy → I (A + 1) (50 + 12 * i + 3) = 10 ∨ I (A + 1) (50 + 12 * i + 3) = 18) : xM0 l D z yX12_meets cX12_meets 3 (some .int) 4 89 [.ref A, .int (nI k)] n G I L (xE (some (.int (if I (A + 1) (50 + 12 * k + 5) = 1 then nfO (findN (vMet (mV I A) (I (A + 1) 47) k) (dx * dy)) else (-2000000002)))) I L) := by
  refine xM.of (by decide) (Nat.le_of_ble_eq_true rfl) (fun p e s m args below meth c C hnm hsz => ?_)
  refine x_lv [(0, .ref A), (1, .int (nI k))] rfl ?_
  have hk : k < 9 := by omega
  refine x_aload_n 0 C dX12_meets_0 rfl 0 rfl ?_
  refine x_iload_n 1 C dX12_meets_1 rfl 1 rfl ?_
  refine x_callVe 2 C dX12_meets_2 (As := [.int (nI k)]) (rest := []) [.int (bI (decide (0 ≤ (nI k)) && decide ((nI k) < nI (dx * dy))))] (t_X12_isPath l D z n G I L A dx dy (nI k) hM hdx hdy (by omega) hd3) mt_X12_isPath km_X12_195 ki_X12_isPath ks_X12_isPath hM.1 ⟨by decide, rfl⟩ rfl rfl (Nat.le_of_ble_eq_true rfl) ⟨⟨by decide, by decide⟩, by decide, by decide⟩ (fun I1 L2 eI1 eL2 => ?_)
  replace eI1 := eI1.symm; subst eI1
  replace eL2 := eL2.symm; subst eL2
  refine x_if_ne 5 C 11 dX12_meets_5 (by decide) (fun _ => ?_) (fun c3 => absurd c3 (isP_t hku hd3))
  refine x_aload_n 11 C dX12_meets_11 rfl 0 rfl ?_
  refine x_iload_n 12 C dX12_meets_12 rfl 1 rfl ?_
  refine x_callVe 13 C dX12_meets_13 (As := [.int (nI k)]) (rest := []) [.int (bI (decide (I (A + 1) (50 + 12 * k + 5) = 1)))] (t_X12_isAtEnd l D z n G I L A k hM (by first | omega | assumption | decide)) mt_X12_isAtEnd km_X12_218 ki_X12_isAtEnd ks_X12_isAtEnd hM.1 ⟨by decide, rfl⟩ rfl rfl (Nat.le_of_ble_eq_true rfl) ⟨⟨by decide, by decide⟩, by decide, by decide⟩ (fun I4 L5 eI4 eL5 => ?_)
  replace eI4 := eI4.symm; subst eI4
  replace eL5 := eL5.symm; subst eL5
  refine x_if_ne 16 C 22 dX12_meets_16 (by decide) (fun c6 => ?_) (fun c6 => ?_)
  · skip
    have hend : I (A + 1) (50 + 12 * k + 5) = 1 := of_decide_eq_true (bI_n0.mp c6)
    refine x_aload_n 22 C dX12_meets_22 rfl 0 rfl ?_
    refine x_iload_n 23 C dX12_meets_23 rfl 1 rfl ?_
    refine x_callVe 24 C dX12_meets_24 (As := [.int (nI k)]) (rest := []) [.int (oI (findN (vMet (mV I A) (I (A + 1) 47) k) (dx * dy)))] (t_X12_firstMet l D z n G I L A k dx dy hM (by first | assumption | omega | decide) (by first | assumption | omega | decide) (by first | omega | assumption | decide) (by first | omega | assumption | decide) (by first | omega | assumption | decide) hend) mt_X12_firstMet km_X12_224 ki_X12_firstMet ks_X12_firstMet hM.1 ⟨by decide, rfl⟩ rfl rfl (Nat.le_of_ble_eq_true rfl) ⟨⟨by decide, by decide⟩, by decide, by decide⟩ (fun I7 L8 eI7 eL8 => ?_)
    replace eI7 := eI7.symm; subst eI7
    replace eL8 := eL8.symm; subst eL8
    refine x_istore_n 27 C [(2, .int (oI (findN (vMet (mV I A) (I (A + 1) 47) k) (dx * dy)))), (0, .ref A), (1, .int (nI k))] dX12_meets_27 rfl (by decide) rfl ?_
    refine x_iload_n 28 C dX12_meets_28 rfl 0 rfl ?_
    refine x_if_ge 29 C 37 dX12_meets_29 (by decide) (fun c9 => ?_) (fun c9 => ?_)
    · skip
      have c9o := Int32.not_lt.mpr c9
      have hge := Int32.not_lt.mpr c9
      refine x_iload_n 37 C dX12_meets_37 rfl 0 rfl ?_
      refine x_iret 38 C dX12_meets_38 rfl rfl (Nat.le_refl _) (xN.intro ?_)
      refine ⟨?_, rfl, rfl⟩
      rw [if_pos hend, ← nfO_of (p := (vMet (mV I A) (I (A + 1) 47) k)) (m := dx * dy) hd3]
      first | rw [if_pos hge] | rw [if_neg hge]
    · skip
      have c9o := Int32.not_le.mp c9
      have hge := Int32.not_le.mp c9
      refine x_ldc 32 C (-2000000004) dX12_meets_32 kk_X12_227 ?_
      refine x_goto 34 C 38 dX12_meets_34 (by decide) ?_
      refine x_iret 38 C dX12_meets_38 rfl rfl (Nat.le_refl _) (xN.intro ?_)
      refine ⟨?_, rfl, rfl⟩
      rw [if_pos hend, ← nfO_of (p := (vMet (mV I A) (I (A + 1) 47) k)) (m := dx * dy) hd3]
      first | rw [if_pos hge] | rw [if_neg hge]
  · skip
    have hend : ¬ I (A + 1) (50 + 12 * k + 5) = 1 := of_decide_eq_false (bI_0.mp c6)
    refine x_ldc 19 C (-2000000002) dX12_meets_19 kk_X12_199 ?_
    refine x_iret 21 C dX12_meets_21 rfl rfl (Nat.le_refl _) (xN.intro ?_)
    exact ⟨by rw [if_neg hend], rfl, rfl⟩
set_option maxHeartbeats 1000000 in
set_option maxRecDepth 100000 in
theorem t_X12_meets_bad (l : Launch) (D : xD) (z n : Nat) (G : xG) (I : xI) (L : xL) (A : Nat) (x : Int32) (dx : Nat) (dy : Nat) (hM : shMo G A) (hdx : I (A + 1) 40 = nI dx) (hdy : I (A + 1) 41 = nI dy) (hd3 : dx * dy ≤ 9) (h1U : 1 ≤ dx * dy) (hno : (decide (0 ≤ x) && decide (x < nI (dx * dy))) = false) : xM0 l D z yX12_meets cX12_meets 3 (some .int) 4 89 [.ref A, .int x] n G I L (xE (some (.int (-2000000001))) I L) := by
  refine xM.of (by decide) (Nat.le_of_ble_eq_true rfl) (fun p e s m args below meth c C hnm hsz => ?_)
  refine x_lv [(0, .ref A), (1, .int x)] rfl ?_
  refine x_aload_n 0 C dX12_meets_0 rfl 0 rfl ?_
  refine x_iload_n 1 C dX12_meets_1 rfl 1 rfl ?_
  refine x_callVe 2 C dX12_meets_2 (As := [.int x]) (rest := []) [.int (bI (decide (0 ≤ x) && decide (x < nI (dx * dy))))] (t_X12_isPath l D z n G I L A dx dy x hM hdx hdy (by omega) hd3) mt_X12_isPath km_X12_195 ki_X12_isPath ks_X12_isPath hM.1 ⟨by decide, rfl⟩ rfl rfl (Nat.le_of_ble_eq_true rfl) ⟨⟨by decide, by decide⟩, by decide, by decide⟩ (fun I1 L2 eI1 eL2 => ?_)
  replace eI1 := eI1.symm; subst eI1
  replace eL2 := eL2.symm; subst eL2
  refine x_if_ne 5 C 11 dX12_meets_5 (by decide) (fun c3 => absurd (bI_0.mpr hno) c3) (fun _ => ?_)
  refine x_ldc 8 C (-2000000001) dX12_meets_8 kk_X12_198 ?_
  refine x_iret 10 C dX12_meets_10 rfl rfl (Nat.le_refl _) (xN.intro ?_)
  exact ⟨rfl, rfl, rfl⟩
theorem dX12_count_0 : decode cX12_count 0 = .ok (.iload_n 1, 1) := by decide +kernel
theorem dX12_count_1 : decode cX12_count 1 = .ok (.iconst 0, 1) := by decide +kernel
theorem dX12_count_2 : decode cX12_count 2 = .ok (.bipush 7, 2) := by decide +kernel
theorem dX12_count_4 : decode cX12_count 4 = .ok (.invokestatic 71, 3) := by decide +kernel
theorem dX12_count_7 : decode cX12_count 7 = .ok (.ifCond .eq 9, 3) := by decide +kernel
theorem dX12_count_10 : decode cX12_count 10 = .ok (.aload_n 0, 1) := by decide +kernel
theorem dX12_count_11 : decode cX12_count 11 = .ok (.iload_n 1, 1) := by decide +kernel
theorem dX12_count_12 : decode cX12_count 12 = .ok (.invokevirtual 119, 3) := by decide +kernel
theorem dX12_count_15 : decode cX12_count 15 = .ok (.ireturn, 1) := by decide +kernel
theorem dX12_count_16 : decode cX12_count 16 = .ok (.iload_n 1, 1) := by decide +kernel
theorem dX12_count_17 : decode cX12_count 17 = .ok (.tableswitch 106 8 18 #[59, 64, 64, 64, 64, 73, 78, 83, 88, 93, 93], 59) := by decide +kernel
theorem dX12_count_76 : decode cX12_count 76 = .ok (.aload_n 0, 1) := by decide +kernel
theorem dX12_count_77 : decode cX12_count 77 = .ok (.invokevirtual 67, 3) := by decide +kernel
theorem dX12_count_80 : decode cX12_count 80 = .ok (.ireturn, 1) := by decide +kernel
theorem dX12_count_81 : decode cX12_count 81 = .ok (.aload_n 0, 1) := by decide +kernel
theorem dX12_count_82 : decode cX12_count 82 = .ok (.iload_n 1, 1) := by decide +kernel
theorem dX12_count_83 : decode cX12_count 83 = .ok (.bipush 9, 2) := by decide +kernel
theorem dX12_count_85 : decode cX12_count 85 = .ok (.isub, 1) := by decide +kernel
theorem dX12_count_86 : decode cX12_count 86 = .ok (.invokevirtual 207, 3) := by decide +kernel
theorem dX12_count_89 : decode cX12_count 89 = .ok (.ireturn, 1) := by decide +kernel
theorem dX12_count_90 : decode cX12_count 90 = .ok (.aload_n 0, 1) := by decide +kernel
theorem dX12_count_91 : decode cX12_count 91 = .ok (.invokevirtual 237, 3) := by decide +kernel
theorem dX12_count_94 : decode cX12_count 94 = .ok (.ireturn, 1) := by decide +kernel
theorem dX12_count_95 : decode cX12_count 95 = .ok (.aload_n 0, 1) := by decide +kernel
theorem dX12_count_96 : decode cX12_count 96 = .ok (.invokevirtual 240, 3) := by decide +kernel
theorem dX12_count_99 : decode cX12_count 99 = .ok (.ireturn, 1) := by decide +kernel
theorem dX12_count_100 : decode cX12_count 100 = .ok (.aload_n 0, 1) := by decide +kernel
theorem dX12_count_101 : decode cX12_count 101 = .ok (.getfield 243, 3) := by decide +kernel
theorem dX12_count_104 : decode cX12_count 104 = .ok (.ireturn, 1) := by decide +kernel
theorem dX12_count_105 : decode cX12_count 105 = .ok (.aload_n 0, 1) := by decide +kernel
theorem dX12_count_106 : decode cX12_count 106 = .ok (.getfield 75, 3) := by decide +kernel
theorem dX12_count_109 : decode cX12_count 109 = .ok (.ireturn, 1) := by decide +kernel
theorem dX12_count_110 : decode cX12_count 110 = .ok (.aload_n 0, 1) := by decide +kernel
theorem dX12_count_111 : decode cX12_count 111 = .ok (.getfield 7, 3) := by decide +kernel
theorem dX12_count_114 : decode cX12_count 114 = .ok (.bipush 40, 2) := by decide +kernel
theorem dX12_count_116 : decode cX12_count 116 = .ok (.iload_n 1, 1) := by decide +kernel
theorem dX12_count_117 : decode cX12_count 117 = .ok (.iadd, 1) := by decide +kernel
theorem dX12_count_118 : decode cX12_count 118 = .ok (.bipush 17, 2) := by decide +kernel
theorem dX12_count_120 : decode cX12_count 120 = .ok (.isub, 1) := by decide +kernel
theorem dX12_count_121 : decode cX12_count 121 = .ok (.iaload, 1) := by decide +kernel
theorem dX12_count_122 : decode cX12_count 122 = .ok (.ireturn, 1) := by decide +kernel
theorem dX12_count_123 : decode cX12_count 123 = .ok (.ldc 198, 2) := by decide +kernel
theorem dX12_count_125 : decode cX12_count 125 = .ok (.ireturn, 1) := by decide +kernel
set_option maxHeartbeats 1000000 in
set_option maxRecDepth 100000 in
theorem t_X12_count (l : Launch) (D : xD) (z n : Nat) (G : xG) (I : xI) (L : xL) (A : Nat) (x : Nat) (dx : Nat) (dy : Nat) (N : Nat) (hM : shMo G A) (hdx : I (A + 1) 40 = nI dx) (hdy : I (A + 1) 41 = nI dy) (hd3 : dx * dy ≤ 9) (hprs : ∀ i, i < dx * dy → I (A + 1) (50 + 12 * i + 3) = 10 ∨ I (A + 1) (50 + 12 * i + 3) = 18) (hN : I A 6 = nI N) (hx : x < 19) : xM0 l D z yX12_count cX12_count 2 (some .int) 5 112 [.ref A, .int (nI x)] n G I L (xE (some (.int (if x < 8 then I (A + 1) (42 + x) else if x = 8 then nI (dx * dy) else if x = 9 then nI (cntN (fun i => decide (I (A + 1) (50 + 12 * i + 5) = 0)) (dx * dy)) else if x = 10 then nI (cntN (fun i => decide (I (A + 1) (50 + 12 * i + 5) = 1)) (dx * dy)) else if x = 11 then nI (cntN (fun i => decide (I (A + 1) (50 + 12 * i + 5) = 2)) (dx * dy)) else if x = 12 then nI (cntN (fun i => decide (I (A + 1) (50 + 12 * i + 5) = 3)) (dx * dy)) else if x = 13 then nI (cntN (fun i => vSt (mV I A) 1 i && (findN (vMet (mV I A) (I (A + 1) 47) i) i).isNone) (dx * dy)) else if x = 14 then nI (cntN (fun i => vSt (mV I A) 1 i && vReal ((mV I A) i) (I (A + 1) 47)) (dx * dy)) else if x = 15 then nI N else if x = 16 then I A 2 else if x = 17 then nI dx else nI dy))) I L) := by
  refine xM.of (by decide) (Nat.le_of_ble_eq_true rfl) (fun p e s m args below meth c C hnm hsz => ?_)
  refine x_lv [(0, .ref A), (1, .int (nI x))] rfl ?_
  rcases (show x = 0 ∨ x = 1 ∨ x = 2 ∨ x = 3 ∨ x = 4 ∨ x = 5 ∨ x = 6 ∨ x = 7 ∨ x = 8 ∨ x = 9 ∨ x = 10 ∨ x = 11 ∨ x = 12 ∨ x = 13 ∨ x = 14 ∨ x = 15 ∨ x = 16 ∨ x = 17 ∨ x = 18 by omega) with rfl | rfl | rfl | rfl | rfl | rfl | rfl | rfl | rfl | rfl | rfl | rfl | rfl | rfl | rfl | rfl | rfl | rfl | rfl
  · skip
    refine x_iload_n 0 C dX12_count_0 rfl 1 rfl ?_
    refine x_iconst 1 C (v := 0) dX12_count_1 rfl ?_
    refine x_bipush 2 C (v := 7) dX12_count_2 rfl ?_
    refine x_callSe 4 C dX12_count_4 (As := [.int (nI 0), .int 0, .int 7]) (rest := []) [.int (bI (decide (0 ≤ 0) && decide (0 ≤ 7)))] (t_X12_in_n l D z n G I L 0 0 7 (by first | omega | assumption | decide) (by first | omega | assumption | decide) (by first | omega | assumption | decide)) mt_X12_in km_X12_71 kt_X12_in rfl rfl (Nat.le_of_ble_eq_true rfl) ⟨⟨by decide, by decide⟩, by decide, by decide⟩ (fun I1 L2 eI1 eL2 => ?_)
    replace eI1 := eI1.symm; subst eI1
    replace eL2 := eL2.symm; subst eL2
    refine x_int 1 (by decide) ?_
    refine x_if_eq 7 C 16 dX12_count_7 (by decide) (fun c3 => absurd c3 (by decide)) (fun _ => ?_)
    refine x_aload_n 10 C dX12_count_10 rfl 0 rfl ?_
    refine x_iload_n 11 C dX12_count_11 rfl 1 rfl ?_
    refine x_callVe 12 C dX12_count_12 (As := [.int (nI 0)]) (rest := []) [.int (I (A + 1) (42 + 0))] (t_X12_setting l D z n G I L A 0 hM (by first | omega | assumption | decide)) mt_X12_setting km_X12_119 ki_X12_setting ks_X12_setting hM.1 ⟨by decide, rfl⟩ rfl rfl (Nat.le_of_ble_eq_true rfl) ⟨⟨by decide, by decide⟩, by decide, by decide⟩ (fun I4 L5 eI4 eL5 => ?_)
    replace eI4 := eI4.symm; subst eI4
    replace eL5 := eL5.symm; subst eL5
    refine x_iret 15 C dX12_count_15 rfl rfl (Nat.le_refl _) (xN.intro ?_)
    exact ⟨rfl, rfl, rfl⟩
  · skip
    refine x_iload_n 0 C dX12_count_0 rfl 1 rfl ?_
    refine x_iconst 1 C (v := 0) dX12_count_1 rfl ?_
    refine x_bipush 2 C (v := 7) dX12_count_2 rfl ?_
    refine x_callSe 4 C dX12_count_4 (As := [.int (nI 1), .int 0, .int 7]) (rest := []) [.int (bI (decide (0 ≤ 1) && decide (1 ≤ 7)))] (t_X12_in_n l D z n G I L 1 0 7 (by first | omega | assumption | decide) (by first | omega | assumption | decide) (by first | omega | assumption | decide)) mt_X12_in km_X12_71 kt_X12_in rfl rfl (Nat.le_of_ble_eq_true rfl) ⟨⟨by decide, by decide⟩, by decide, by decide⟩ (fun I6 L7 eI6 eL7 => ?_)
    replace eI6 := eI6.symm; subst eI6
    replace eL7 := eL7.symm; subst eL7
    refine x_int 1 (by decide) ?_
    refine x_if_eq 7 C 16 dX12_count_7 (by decide) (fun c8 => absurd c8 (by decide)) (fun _ => ?_)
    refine x_aload_n 10 C dX12_count_10 rfl 0 rfl ?_
    refine x_iload_n 11 C dX12_count_11 rfl 1 rfl ?_
    refine x_callVe 12 C dX12_count_12 (As := [.int (nI 1)]) (rest := []) [.int (I (A + 1) (42 + 1))] (t_X12_setting l D z n G I L A 1 hM (by first | omega | assumption | decide)) mt_X12_setting km_X12_119 ki_X12_setting ks_X12_setting hM.1 ⟨by decide, rfl⟩ rfl rfl (Nat.le_of_ble_eq_true rfl) ⟨⟨by decide, by decide⟩, by decide, by decide⟩ (fun I9 L10 eI9 eL10 => ?_)
    replace eI9 := eI9.symm; subst eI9
    replace eL10 := eL10.symm; subst eL10
    refine x_iret 15 C dX12_count_15 rfl rfl (Nat.le_refl _) (xN.intro ?_)
    exact ⟨rfl, rfl, rfl⟩
  · skip
    refine x_iload_n 0 C dX12_count_0 rfl 1 rfl ?_
    refine x_iconst 1 C (v := 0) dX12_count_1 rfl ?_
    refine x_bipush 2 C (v := 7) dX12_count_2 rfl ?_
    refine x_callSe 4 C dX12_count_4 (As := [.int (nI 2), .int 0, .int 7]) (rest := []) [.int (bI (decide (0 ≤ 2) && decide (2 ≤ 7)))] (t_X12_in_n l D z n G I L 2 0 7 (by first | omega | assumption | decide) (by first | omega | assumption | decide) (by first | omega | assumption | decide)) mt_X12_in km_X12_71 kt_X12_in rfl rfl (Nat.le_of_ble_eq_true rfl) ⟨⟨by decide, by decide⟩, by decide, by decide⟩ (fun I11 L12 eI11 eL12 => ?_)
    replace eI11 := eI11.symm; subst eI11
    replace eL12 := eL12.symm; subst eL12
    refine x_int 1 (by decide) ?_
    refine x_if_eq 7 C 16 dX12_count_7 (by decide) (fun c13 => absurd c13 (by decide)) (fun _ => ?_)
    refine x_aload_n 10 C dX12_count_10 rfl 0 rfl ?_
    refine x_iload_n 11 C dX12_count_11 rfl 1 rfl ?_
    refine x_callVe 12 C dX12_count_12 (As := [.int (nI 2)]) (rest := []) [.int (I (A + 1) (42 + 2))] (t_X12_setting l D z n G I L A 2 hM (by first | omega | assumption | decide)) mt_X12_setting km_X12_119 ki_X12_setting ks_X12_setting hM.1 ⟨by decide, rfl⟩ rfl rfl (Nat.le_of_ble_eq_true rfl) ⟨⟨by decide, by decide⟩, by decide, by decide⟩ (fun I14 L15 eI14 eL15 => ?_)
    replace eI14 := eI14.symm; subst eI14
    replace eL15 := eL15.symm; subst eL15
    refine x_iret 15 C dX12_count_15 rfl rfl (Nat.le_refl _) (xN.intro ?_)
    exact ⟨rfl, rfl, rfl⟩
  · skip
    refine x_iload_n 0 C dX12_count_0 rfl 1 rfl ?_
    refine x_iconst 1 C (v := 0) dX12_count_1 rfl ?_
    refine x_bipush 2 C (v := 7) dX12_count_2 rfl ?_
    refine x_callSe 4 C dX12_count_4 (As := [.int (nI 3), .int 0, .int 7]) (rest := []) [.int (bI (decide (0 ≤ 3) && decide (3 ≤ 7)))] (t_X12_in_n l D z n G I L 3 0 7 (by first | omega | assumption | decide) (by first | omega | assumption | decide) (by first | omega | assumption | decide)) mt_X12_in km_X12_71 kt_X12_in rfl rfl (Nat.le_of_ble_eq_true rfl) ⟨⟨by decide, by decide⟩, by decide, by decide⟩ (fun I16 L17 eI16 eL17 => ?_)
    replace eI16 := eI16.symm; subst eI16
    replace eL17 := eL17.symm; subst eL17
    refine x_int 1 (by decide) ?_
    refine x_if_eq 7 C 16 dX12_count_7 (by decide) (fun c18 => absurd c18 (by decide)) (fun _ => ?_)
    refine x_aload_n 10 C dX12_count_10 rfl 0 rfl ?_
    refine x_iload_n 11 C dX12_count_11 rfl 1 rfl ?_
    refine x_callVe 12 C dX12_count_12 (As := [.int (nI 3)]) (rest := []) [.int (I (A + 1) (42 + 3))] (t_X12_setting l D z n G I L A 3 hM (by first | omega | assumption | decide)) mt_X12_setting km_X12_119 ki_X12_setting ks_X12_setting hM.1 ⟨by decide, rfl⟩ rfl rfl (Nat.le_of_ble_eq_true rfl) ⟨⟨by decide, by decide⟩, by decide, by decide⟩ (fun I19 L20 eI19 eL20 => ?_)
    replace eI19 := eI19.symm; subst eI19
    replace eL20 := eL20.symm; subst eL20
    refine x_iret 15 C dX12_count_15 rfl rfl (Nat.le_refl _) (xN.intro ?_)
    exact ⟨rfl, rfl, rfl⟩
  · skip
    refine x_iload_n 0 C dX12_count_0 rfl 1 rfl ?_
    refine x_iconst 1 C (v := 0) dX12_count_1 rfl ?_
    refine x_bipush 2 C (v := 7) dX12_count_2 rfl ?_
    refine x_callSe 4 C dX12_count_4 (As := [.int (nI 4), .int 0, .int 7]) (rest := []) [.int (bI (decide (0 ≤ 4) && decide (4 ≤ 7)))] (t_X12_in_n l D z n G I L 4 0 7 (by first | omega | assumption | decide) (by first | omega | assumption | decide) (by first | omega | assumption | decide)) mt_X12_in km_X12_71 kt_X12_in rfl rfl (Nat.le_of_ble_eq_true rfl) ⟨⟨by decide, by decide⟩, by decide, by decide⟩ (fun I21 L22 eI21 eL22 => ?_)
    replace eI21 := eI21.symm; subst eI21
    replace eL22 := eL22.symm; subst eL22
    refine x_int 1 (by decide) ?_
    refine x_if_eq 7 C 16 dX12_count_7 (by decide) (fun c23 => absurd c23 (by decide)) (fun _ => ?_)
    refine x_aload_n 10 C dX12_count_10 rfl 0 rfl ?_
    refine x_iload_n 11 C dX12_count_11 rfl 1 rfl ?_
    refine x_callVe 12 C dX12_count_12 (As := [.int (nI 4)]) (rest := []) [.int (I (A + 1) (42 + 4))] (t_X12_setting l D z n G I L A 4 hM (by first | omega | assumption | decide)) mt_X12_setting km_X12_119 ki_X12_setting ks_X12_setting hM.1 ⟨by decide, rfl⟩ rfl rfl (Nat.le_of_ble_eq_true rfl) ⟨⟨by decide, by decide⟩, by decide, by decide⟩ (fun I24 L25 eI24 eL25 => ?_)
    replace eI24 := eI24.symm; subst eI24
    replace eL25 := eL25.symm; subst eL25
    refine x_iret 15 C dX12_count_15 rfl rfl (Nat.le_refl _) (xN.intro ?_)
    exact ⟨rfl, rfl, rfl⟩
  · skip
    refine x_iload_n 0 C dX12_count_0 rfl 1 rfl ?_
    refine x_iconst 1 C (v := 0) dX12_count_1 rfl ?_
    refine x_bipush 2 C (v := 7) dX12_count_2 rfl ?_
    refine x_callSe 4 C dX12_count_4 (As := [.int (nI 5), .int 0, .int 7]) (rest := []) [.int (bI (decide (0 ≤ 5) && decide (5 ≤ 7)))] (t_X12_in_n l D z n G I L 5 0 7 (by first | omega | assumption | decide) (by first | omega | assumption | decide) (by first | omega | assumption | decide)) mt_X12_in km_X12_71 kt_X12_in rfl rfl (Nat.le_of_ble_eq_true rfl) ⟨⟨by decide, by decide⟩, by decide, by decide⟩ (fun I26 L27 eI26 eL27 => ?_)
    replace eI26 := eI26.symm; subst eI26
    replace eL27 := eL27.symm; subst eL27
    refine x_int 1 (by decide) ?_
    refine x_if_eq 7 C 16 dX12_count_7 (by decide) (fun c28 => absurd c28 (by decide)) (fun _ => ?_)
    refine x_aload_n 10 C dX12_count_10 rfl 0 rfl ?_
    refine x_iload_n 11 C dX12_count_11 rfl 1 rfl ?_
    refine x_callVe 12 C dX12_count_12 (As := [.int (nI 5)]) (rest := []) [.int (I (A + 1) (42 + 5))] (t_X12_setting l D z n G I L A 5 hM (by first | omega | assumption | decide)) mt_X12_setting km_X12_119 ki_X12_setting ks_X12_setting hM.1 ⟨by decide, rfl⟩ rfl rfl (Nat.le_of_ble_eq_true rfl) ⟨⟨by decide, by decide⟩, by decide, by decide⟩ (fun I29 L30 eI29 eL30 => ?_)
    replace eI29 := eI29.symm; subst eI29
    replace eL30 := eL30.symm; subst eL30
    refine x_iret 15 C dX12_count_15 rfl rfl (Nat.le_refl _) (xN.intro ?_)
    exact ⟨rfl, rfl, rfl⟩
  · skip
    refine x_iload_n 0 C dX12_count_0 rfl 1 rfl ?_
    refine x_iconst 1 C (v := 0) dX12_count_1 rfl ?_
    refine x_bipush 2 C (v := 7) dX12_count_2 rfl ?_
    refine x_callSe 4 C dX12_count_4 (As := [.int (nI 6), .int 0, .int 7]) (rest := []) [.int (bI (decide (0 ≤ 6) && decide (6 ≤ 7)))] (t_X12_in_n l D z n G I L 6 0 7 (by first | omega | assumption | decide) (by first | omega | assumption | decide) (by first | omega | assumption | decide)) mt_X12_in km_X12_71 kt_X12_in rfl rfl (Nat.le_of_ble_eq_true rfl) ⟨⟨by decide, by decide⟩, by decide, by decide⟩ (fun I31 L32 eI31 eL32 => ?_)
    replace eI31 := eI31.symm; subst eI31
    replace eL32 := eL32.symm; subst eL32
    refine x_int 1 (by decide) ?_
    refine x_if_eq 7 C 16 dX12_count_7 (by decide) (fun c33 => absurd c33 (by decide)) (fun _ => ?_)
    refine x_aload_n 10 C dX12_count_10 rfl 0 rfl ?_
    refine x_iload_n 11 C dX12_count_11 rfl 1 rfl ?_
    refine x_callVe 12 C dX12_count_12 (As := [.int (nI 6)]) (rest := []) [.int (I (A + 1) (42 + 6))] (t_X12_setting l D z n G I L A 6 hM (by first | omega | assumption | decide)) mt_X12_setting km_X12_119 ki_X12_setting ks_X12_setting hM.1 ⟨by decide, rfl⟩ rfl rfl (Nat.le_of_ble_eq_true rfl) ⟨⟨by decide, by decide⟩, by decide, by decide⟩ (fun I34 L35 eI34 eL35 => ?_)
    replace eI34 := eI34.symm; subst eI34
    replace eL35 := eL35.symm; subst eL35
    refine x_iret 15 C dX12_count_15 rfl rfl (Nat.le_refl _) (xN.intro ?_)
    exact ⟨rfl, rfl, rfl⟩
  · skip
    refine x_iload_n 0 C dX12_count_0 rfl 1 rfl ?_
    refine x_iconst 1 C (v := 0) dX12_count_1 rfl ?_
    refine x_bipush 2 C (v := 7) dX12_count_2 rfl ?_
    refine x_callSe 4 C dX12_count_4 (As := [.int (nI 7), .int 0, .int 7]) (rest := []) [.int (bI (decide (0 ≤ 7) && decide (7 ≤ 7)))] (t_X12_in_n l D z n G I L 7 0 7 (by first | omega | assumption | decide) (by first | omega | assumption | decide) (by first | omega | assumption | decide)) mt_X12_in km_X12_71 kt_X12_in rfl rfl (Nat.le_of_ble_eq_true rfl) ⟨⟨by decide, by decide⟩, by decide, by decide⟩ (fun I36 L37 eI36 eL37 => ?_)
    replace eI36 := eI36.symm; subst eI36
    replace eL37 := eL37.symm; subst eL37
    refine x_int 1 (by decide) ?_
    refine x_if_eq 7 C 16 dX12_count_7 (by decide) (fun c38 => absurd c38 (by decide)) (fun _ => ?_)
    refine x_aload_n 10 C dX12_count_10 rfl 0 rfl ?_
    refine x_iload_n 11 C dX12_count_11 rfl 1 rfl ?_
    refine x_callVe 12 C dX12_count_12 (As := [.int (nI 7)]) (rest := []) [.int (I (A + 1) (42 + 7))] (t_X12_setting l D z n G I L A 7 hM (by first | omega | assumption | decide)) mt_X12_setting km_X12_119 ki_X12_setting ks_X12_setting hM.1 ⟨by decide, rfl⟩ rfl rfl (Nat.le_of_ble_eq_true rfl) ⟨⟨by decide, by decide⟩, by decide, by decide⟩ (fun I39 L40 eI39 eL40 => ?_)
    replace eI39 := eI39.symm; subst eI39
    replace eL40 := eL40.symm; subst eL40
    refine x_iret 15 C dX12_count_15 rfl rfl (Nat.le_refl _) (xN.intro ?_)
    exact ⟨rfl, rfl, rfl⟩
  · skip
    refine x_iload_n 0 C dX12_count_0 rfl 1 rfl ?_
    refine x_iconst 1 C (v := 0) dX12_count_1 rfl ?_
    refine x_bipush 2 C (v := 7) dX12_count_2 rfl ?_
    refine x_callSe 4 C dX12_count_4 (As := [.int (nI 8), .int 0, .int 7]) (rest := []) [.int (bI (decide (0 ≤ 8) && decide (8 ≤ 7)))] (t_X12_in_n l D z n G I L 8 0 7 (by first | omega | assumption | decide) (by first | omega | assumption | decide) (by first | omega | assumption | decide)) mt_X12_in km_X12_71 kt_X12_in rfl rfl (Nat.le_of_ble_eq_true rfl) ⟨⟨by decide, by decide⟩, by decide, by decide⟩ (fun I41 L42 eI41 eL42 => ?_)
    replace eI41 := eI41.symm; subst eI41
    replace eL42 := eL42.symm; subst eL42
    refine x_int 0 (by decide) ?_
    refine x_if_eq 7 C 16 dX12_count_7 (by decide) (fun _ => ?_) (fun c43 => absurd (by decide) c43)
    refine x_iload_n 16 C dX12_count_16 rfl 1 rfl ?_
    refine x_tsIn 17 C 76 dX12_count_17 (v := 8) rfl (by decide) (by decide) rfl (by decide) ?_
    refine x_aload_n 76 C dX12_count_76 rfl 0 rfl ?_
    refine x_callVe 77 C dX12_count_77 (As := []) (rest := []) [.int (nI (dx * dy))] (t_X12_paths l D z n G I L A dx dy hM hdx hdy) mt_X12_paths km_X12_67 ki_X12_paths ks_X12_paths hM.1 ⟨by decide, rfl⟩ rfl rfl (Nat.le_of_ble_eq_true rfl) ⟨⟨by decide, by decide⟩, by decide, by decide⟩ (fun I44 L45 eI44 eL45 => ?_)
    replace eI44 := eI44.symm; subst eI44
    replace eL45 := eL45.symm; subst eL45
    refine x_iret 80 C dX12_count_80 rfl rfl (Nat.le_refl _) (xN.intro ?_)
    exact ⟨rfl, rfl, rfl⟩
  · skip
    refine x_iload_n 0 C dX12_count_0 rfl 1 rfl ?_
    refine x_iconst 1 C (v := 0) dX12_count_1 rfl ?_
    refine x_bipush 2 C (v := 7) dX12_count_2 rfl ?_
    refine x_callSe 4 C dX12_count_4 (As := [.int (nI 9), .int 0, .int 7]) (rest := []) [.int (bI (decide (0 ≤ 9) && decide (9 ≤ 7)))] (t_X12_in_n l D z n G I L 9 0 7 (by first | omega | assumption | decide) (by first | omega | assumption | decide) (by first | omega | assumption | decide)) mt_X12_in km_X12_71 kt_X12_in rfl rfl (Nat.le_of_ble_eq_true rfl) ⟨⟨by decide, by decide⟩, by decide, by decide⟩ (fun I46 L47 eI46 eL47 => ?_)
    replace eI46 := eI46.symm; subst eI46
    replace eL47 := eL47.symm; subst eL47
    refine x_int 0 (by decide) ?_
    refine x_if_eq 7 C 16 dX12_count_7 (by decide) (fun _ => ?_) (fun c48 => absurd (by decide) c48)
    refine x_iload_n 16 C dX12_count_16 rfl 1 rfl ?_
    refine x_tsIn 17 C 81 dX12_count_17 (v := 9) rfl (by decide) (by decide) rfl (by decide) ?_
    refine x_aload_n 81 C dX12_count_81 rfl 0 rfl ?_
    refine x_iload_n 82 C dX12_count_82 rfl 1 rfl ?_
    refine x_bipush 83 C (v := 9) dX12_count_83 rfl ?_
    refine x_isub 85 C dX12_count_85 ?_
    refine x_int 0 (by decide) ?_
    refine x_callVe 86 C dX12_count_86 (As := [.int 0]) (rest := []) [.int (nI (cntN (fun i => decide (I (A + 1) (50 + 12 * i + 5) = 0)) (dx * dy)))] (t_X12_many l D z n G I L A 0 dx dy hM (by first | assumption | omega | decide) (by first | assumption | omega | decide) (by first | omega | assumption | decide)) mt_X12_many km_X12_207 ki_X12_many ks_X12_many hM.1 ⟨by decide, rfl⟩ rfl rfl (Nat.le_of_ble_eq_true rfl) ⟨⟨by decide, by decide⟩, by decide, by decide⟩ (fun I49 L50 eI49 eL50 => ?_)
    replace eI49 := eI49.symm; subst eI49
    replace eL50 := eL50.symm; subst eL50
    refine x_iret 89 C dX12_count_89 rfl rfl (Nat.le_refl _) (xN.intro ?_)
    exact ⟨rfl, rfl, rfl⟩
  · skip
    refine x_iload_n 0 C dX12_count_0 rfl 1 rfl ?_
    refine x_iconst 1 C (v := 0) dX12_count_1 rfl ?_
    refine x_bipush 2 C (v := 7) dX12_count_2 rfl ?_
    refine x_callSe 4 C dX12_count_4 (As := [.int (nI 10), .int 0, .int 7]) (rest := []) [.int (bI (decide (0 ≤ 10) && decide (10 ≤ 7)))] (t_X12_in_n l D z n G I L 10 0 7 (by first | omega | assumption | decide) (by first | omega | assumption | decide) (by first | omega | assumption | decide)) mt_X12_in km_X12_71 kt_X12_in rfl rfl (Nat.le_of_ble_eq_true rfl) ⟨⟨by decide, by decide⟩, by decide, by decide⟩ (fun I51 L52 eI51 eL52 => ?_)
    replace eI51 := eI51.symm; subst eI51
    replace eL52 := eL52.symm; subst eL52
    refine x_int 0 (by decide) ?_
    refine x_if_eq 7 C 16 dX12_count_7 (by decide) (fun _ => ?_) (fun c53 => absurd (by decide) c53)
    refine x_iload_n 16 C dX12_count_16 rfl 1 rfl ?_
    refine x_tsIn 17 C 81 dX12_count_17 (v := 10) rfl (by decide) (by decide) rfl (by decide) ?_
    refine x_aload_n 81 C dX12_count_81 rfl 0 rfl ?_
    refine x_iload_n 82 C dX12_count_82 rfl 1 rfl ?_
    refine x_bipush 83 C (v := 9) dX12_count_83 rfl ?_
    refine x_isub 85 C dX12_count_85 ?_
    refine x_int 1 (by decide) ?_
    refine x_callVe 86 C dX12_count_86 (As := [.int 1]) (rest := []) [.int (nI (cntN (fun i => decide (I (A + 1) (50 + 12 * i + 5) = 1)) (dx * dy)))] (t_X12_many l D z n G I L A 1 dx dy hM (by first | assumption | omega | decide) (by first | assumption | omega | decide) (by first | omega | assumption | decide)) mt_X12_many km_X12_207 ki_X12_many ks_X12_many hM.1 ⟨by decide, rfl⟩ rfl rfl (Nat.le_of_ble_eq_true rfl) ⟨⟨by decide, by decide⟩, by decide, by decide⟩ (fun I54 L55 eI54 eL55 => ?_)
    replace eI54 := eI54.symm; subst eI54
    replace eL55 := eL55.symm; subst eL55
    refine x_iret 89 C dX12_count_89 rfl rfl (Nat.le_refl _) (xN.intro ?_)
    exact ⟨rfl, rfl, rfl⟩
  · skip
    refine x_iload_n 0 C dX12_count_0 rfl 1 rfl ?_
    refine x_iconst 1 C (v := 0) dX12_count_1 rfl ?_
    refine x_bipush 2 C (v := 7) dX12_count_2 rfl ?_
    refine x_callSe 4 C dX12_count_4 (As := [.int (nI 11), .int 0, .int 7]) (rest := []) [.int (bI (decide (0 ≤ 11) && decide (11 ≤ 7)))] (t_X12_in_n l D z n G I L 11 0 7 (by first | omega | assumption | decide) (by first | omega | assumption | decide) (by first | omega | assumption | decide)) mt_X12_in km_X12_71 kt_X12_in rfl rfl (Nat.le_of_ble_eq_true rfl) ⟨⟨by decide, by decide⟩, by decide, by decide⟩ (fun I56 L57 eI56 eL57 => ?_)
    replace eI56 := eI56.symm; subst eI56
    replace eL57 := eL57.symm; subst eL57
    refine x_int 0 (by decide) ?_
    refine x_if_eq 7 C 16 dX12_count_7 (by decide) (fun _ => ?_) (fun c58 => absurd (by decide) c58)
    refine x_iload_n 16 C dX12_count_16 rfl 1 rfl ?_
    refine x_tsIn 17 C 81 dX12_count_17 (v := 11) rfl (by decide) (by decide) rfl (by decide) ?_
    refine x_aload_n 81 C dX12_count_81 rfl 0 rfl ?_
    refine x_iload_n 82 C dX12_count_82 rfl 1 rfl ?_
    refine x_bipush 83 C (v := 9) dX12_count_83 rfl ?_
    refine x_isub 85 C dX12_count_85 ?_
    refine x_int 2 (by decide) ?_
    refine x_callVe 86 C dX12_count_86 (As := [.int 2]) (rest := []) [.int (nI (cntN (fun i => decide (I (A + 1) (50 + 12 * i + 5) = 2)) (dx * dy)))] (t_X12_many l D z n G I L A 2 dx dy hM (by first | assumption | omega | decide) (by first | assumption | omega | decide) (by first | omega | assumption | decide)) mt_X12_many km_X12_207 ki_X12_many ks_X12_many hM.1 ⟨by decide, rfl⟩ rfl rfl (Nat.le_of_ble_eq_true rfl) ⟨⟨by decide, by decide⟩, by decide, by decide⟩ (fun I59 L60 eI59 eL60 => ?_)
    replace eI59 := eI59.symm; subst eI59
    replace eL60 := eL60.symm; subst eL60
    refine x_iret 89 C dX12_count_89 rfl rfl (Nat.le_refl _) (xN.intro ?_)
    exact ⟨rfl, rfl, rfl⟩
  · skip
    refine x_iload_n 0 C dX12_count_0 rfl 1 rfl ?_
    refine x_iconst 1 C (v := 0) dX12_count_1 rfl ?_
    refine x_bipush 2 C (v := 7) dX12_count_2 rfl ?_
    refine x_callSe 4 C dX12_count_4 (As := [.int (nI 12), .int 0, .int 7]) (rest := []) [.int (bI (decide (0 ≤ 12) && decide (12 ≤ 7)))] (t_X12_in_n l D z n G I L 12 0 7 (by first | omega | assumption | decide) (by first | omega | assumption | decide) (by first | omega | assumption | decide)) mt_X12_in km_X12_71 kt_X12_in rfl rfl (Nat.le_of_ble_eq_true rfl) ⟨⟨by decide, by decide⟩, by decide, by decide⟩ (fun I61 L62 eI61 eL62 => ?_)
    replace eI61 := eI61.symm; subst eI61
    replace eL62 := eL62.symm; subst eL62
    refine x_int 0 (by decide) ?_
    refine x_if_eq 7 C 16 dX12_count_7 (by decide) (fun _ => ?_) (fun c63 => absurd (by decide) c63)
    refine x_iload_n 16 C dX12_count_16 rfl 1 rfl ?_
    refine x_tsIn 17 C 81 dX12_count_17 (v := 12) rfl (by decide) (by decide) rfl (by decide) ?_
    refine x_aload_n 81 C dX12_count_81 rfl 0 rfl ?_
    refine x_iload_n 82 C dX12_count_82 rfl 1 rfl ?_
    refine x_bipush 83 C (v := 9) dX12_count_83 rfl ?_
    refine x_isub 85 C dX12_count_85 ?_
    refine x_int 3 (by decide) ?_
    refine x_callVe 86 C dX12_count_86 (As := [.int 3]) (rest := []) [.int (nI (cntN (fun i => decide (I (A + 1) (50 + 12 * i + 5) = 3)) (dx * dy)))] (t_X12_many l D z n G I L A 3 dx dy hM (by first | assumption | omega | decide) (by first | assumption | omega | decide) (by first | omega | assumption | decide)) mt_X12_many km_X12_207 ki_X12_many ks_X12_many hM.1 ⟨by decide, rfl⟩ rfl rfl (Nat.le_of_ble_eq_true rfl) ⟨⟨by decide, by decide⟩, by decide, by decide⟩ (fun I64 L65 eI64 eL65 => ?_)
    replace eI64 := eI64.symm; subst eI64
    replace eL65 := eL65.symm; subst eL65
    refine x_iret 89 C dX12_count_89 rfl rfl (Nat.le_refl _) (xN.intro ?_)
    exact ⟨rfl, rfl, rfl⟩
  · skip
    refine x_iload_n 0 C dX12_count_0 rfl 1 rfl ?_
    refine x_iconst 1 C (v := 0) dX12_count_1 rfl ?_
    refine x_bipush 2 C (v := 7) dX12_count_2 rfl ?_
    refine x_callSe 4 C dX12_count_4 (As := [.int (nI 13), .int 0, .int 7]) (rest := []) [.int (bI (decide (0 ≤ 13) && decide (13 ≤ 7)))] (t_X12_in_n l D z n G I L 13 0 7 (by first | omega | assumption | decide) (by first | omega | assumption | decide) (by first | omega | assumption | decide)) mt_X12_in km_X12_71 kt_X12_in rfl rfl (Nat.le_of_ble_eq_true rfl) ⟨⟨by decide, by decide⟩, by decide, by decide⟩ (fun I66 L67 eI66 eL67 => ?_)
    replace eI66 := eI66.symm; subst eI66
    replace eL67 := eL67.symm; subst eL67
    refine x_int 0 (by decide) ?_
    refine x_if_eq 7 C 16 dX12_count_7 (by decide) (fun _ => ?_) (fun c68 => absurd (by decide) c68)
    refine x_iload_n 16 C dX12_count_16 rfl 1 rfl ?_
    refine x_tsIn 17 C 90 dX12_count_17 (v := 13) rfl (by decide) (by decide) rfl (by decide) ?_
    refine x_aload_n 90 C dX12_count_90 rfl 0 rfl ?_
    refine x_callVe 91 C dX12_count_91 (As := []) (rest := []) [.int (nI (cntN (fun i => vSt (mV I A) 1 i && (findN (vMet (mV I A) (I (A + 1) 47) i) i).isNone) (dx * dy)))] (t_X12_distinct l D z n G I L A dx dy hM (by first | assumption | omega | decide) (by first | assumption | omega | decide) (by first | omega | assumption | decide) (by first | omega | assumption | decide)) mt_X12_distinct km_X12_237 ki_X12_distinct ks_X12_distinct hM.1 ⟨by decide, rfl⟩ rfl rfl (Nat.le_of_ble_eq_true rfl) ⟨⟨by decide, by decide⟩, by decide, by decide⟩ (fun I69 L70 eI69 eL70 => ?_)
    replace eI69 := eI69.symm; subst eI69
    replace eL70 := eL70.symm; subst eL70
    refine x_iret 94 C dX12_count_94 rfl rfl (Nat.le_refl _) (xN.intro ?_)
    exact ⟨rfl, rfl, rfl⟩
  · skip
    refine x_iload_n 0 C dX12_count_0 rfl 1 rfl ?_
    refine x_iconst 1 C (v := 0) dX12_count_1 rfl ?_
    refine x_bipush 2 C (v := 7) dX12_count_2 rfl ?_
    refine x_callSe 4 C dX12_count_4 (As := [.int (nI 14), .int 0, .int 7]) (rest := []) [.int (bI (decide (0 ≤ 14) && decide (14 ≤ 7)))] (t_X12_in_n l D z n G I L 14 0 7 (by first | omega | assumption | decide) (by first | omega | assumption | decide) (by first | omega | assumption | decide)) mt_X12_in km_X12_71 kt_X12_in rfl rfl (Nat.le_of_ble_eq_true rfl) ⟨⟨by decide, by decide⟩, by decide, by decide⟩ (fun I71 L72 eI71 eL72 => ?_)
    replace eI71 := eI71.symm; subst eI71
    replace eL72 := eL72.symm; subst eL72
    refine x_int 0 (by decide) ?_
    refine x_if_eq 7 C 16 dX12_count_7 (by decide) (fun _ => ?_) (fun c73 => absurd (by decide) c73)
    refine x_iload_n 16 C dX12_count_16 rfl 1 rfl ?_
    refine x_tsIn 17 C 95 dX12_count_17 (v := 14) rfl (by decide) (by decide) rfl (by decide) ?_
    refine x_aload_n 95 C dX12_count_95 rfl 0 rfl ?_
    refine x_callVe 96 C dX12_count_96 (As := []) (rest := []) [.int (nI (cntN (fun i => vSt (mV I A) 1 i && vReal ((mV I A) i) (I (A + 1) 47)) (dx * dy)))] (t_X12_reals l D z n G I L A dx dy hM (by first | assumption | omega | decide) (by first | assumption | omega | decide) (by first | omega | assumption | decide) (by first | omega | assumption | decide)) mt_X12_reals km_X12_240 ki_X12_reals ks_X12_reals hM.1 ⟨by decide, rfl⟩ rfl rfl (Nat.le_of_ble_eq_true rfl) ⟨⟨by decide, by decide⟩, by decide, by decide⟩ (fun I74 L75 eI74 eL75 => ?_)
    replace eI74 := eI74.symm; subst eI74
    replace eL75 := eL75.symm; subst eL75
    refine x_iret 99 C dX12_count_99 rfl rfl (Nat.le_refl _) (xN.intro ?_)
    exact ⟨rfl, rfl, rfl⟩
  · skip
    refine x_iload_n 0 C dX12_count_0 rfl 1 rfl ?_
    refine x_iconst 1 C (v := 0) dX12_count_1 rfl ?_
    refine x_bipush 2 C (v := 7) dX12_count_2 rfl ?_
    refine x_callSe 4 C dX12_count_4 (As := [.int (nI 15), .int 0, .int 7]) (rest := []) [.int (bI (decide (0 ≤ 15) && decide (15 ≤ 7)))] (t_X12_in_n l D z n G I L 15 0 7 (by first | omega | assumption | decide) (by first | omega | assumption | decide) (by first | omega | assumption | decide)) mt_X12_in km_X12_71 kt_X12_in rfl rfl (Nat.le_of_ble_eq_true rfl) ⟨⟨by decide, by decide⟩, by decide, by decide⟩ (fun I76 L77 eI76 eL77 => ?_)
    replace eI76 := eI76.symm; subst eI76
    replace eL77 := eL77.symm; subst eL77
    refine x_int 0 (by decide) ?_
    refine x_if_eq 7 C 16 dX12_count_7 (by decide) (fun _ => ?_) (fun c78 => absurd (by decide) c78)
    refine x_iload_n 16 C dX12_count_16 rfl 1 rfl ?_
    refine x_tsIn 17 C 100 dX12_count_17 (v := 15) rfl (by decide) (by decide) rfl (by decide) ?_
    refine x_aload_n 100 C dX12_count_100 rfl 0 rfl ?_
    refine x_geti 101 C dX12_count_101 ff_X12_243 hM.1 ?_
    refine x_int (nI N) hN ?_
    refine x_iret 104 C dX12_count_104 rfl rfl (Nat.le_refl _) (xN.intro ?_)
    exact ⟨rfl, rfl, rfl⟩
  · skip
    refine x_iload_n 0 C dX12_count_0 rfl 1 rfl ?_
    refine x_iconst 1 C (v := 0) dX12_count_1 rfl ?_
    refine x_bipush 2 C (v := 7) dX12_count_2 rfl ?_
    refine x_callSe 4 C dX12_count_4 (As := [.int (nI 16), .int 0, .int 7]) (rest := []) [.int (bI (decide (0 ≤ 16) && decide (16 ≤ 7)))] (t_X12_in_n l D z n G I L 16 0 7 (by first | omega | assumption | decide) (by first | omega | assumption | decide) (by first | omega | assumption | decide)) mt_X12_in km_X12_71 kt_X12_in rfl rfl (Nat.le_of_ble_eq_true rfl) ⟨⟨by decide, by decide⟩, by decide, by decide⟩ (fun I79 L80 eI79 eL80 => ?_)
    replace eI79 := eI79.symm; subst eI79
    replace eL80 := eL80.symm; subst eL80
    refine x_int 0 (by decide) ?_
    refine x_if_eq 7 C 16 dX12_count_7 (by decide) (fun _ => ?_) (fun c81 => absurd (by decide) c81)
    refine x_iload_n 16 C dX12_count_16 rfl 1 rfl ?_
    refine x_tsIn 17 C 105 dX12_count_17 (v := 16) rfl (by decide) (by decide) rfl (by decide) ?_
    refine x_aload_n 105 C dX12_count_105 rfl 0 rfl ?_
    refine x_geti 106 C dX12_count_106 ff_X12_75 hM.1 ?_
    refine x_iret 109 C dX12_count_109 rfl rfl (Nat.le_refl _) (xN.intro ?_)
    exact ⟨rfl, rfl, rfl⟩
  · skip
    refine x_iload_n 0 C dX12_count_0 rfl 1 rfl ?_
    refine x_iconst 1 C (v := 0) dX12_count_1 rfl ?_
    refine x_bipush 2 C (v := 7) dX12_count_2 rfl ?_
    refine x_callSe 4 C dX12_count_4 (As := [.int (nI 17), .int 0, .int 7]) (rest := []) [.int (bI (decide (0 ≤ 17) && decide (17 ≤ 7)))] (t_X12_in_n l D z n G I L 17 0 7 (by first | omega | assumption | decide) (by first | omega | assumption | decide) (by first | omega | assumption | decide)) mt_X12_in km_X12_71 kt_X12_in rfl rfl (Nat.le_of_ble_eq_true rfl) ⟨⟨by decide, by decide⟩, by decide, by decide⟩ (fun I82 L83 eI82 eL83 => ?_)
    replace eI82 := eI82.symm; subst eI82
    replace eL83 := eL83.symm; subst eL83
    refine x_int 0 (by decide) ?_
    refine x_if_eq 7 C 16 dX12_count_7 (by decide) (fun _ => ?_) (fun c84 => absurd (by decide) c84)
    refine x_iload_n 16 C dX12_count_16 rfl 1 rfl ?_
    refine x_tsIn 17 C 110 dX12_count_17 (v := 17) rfl (by decide) (by decide) rfl (by decide) ?_
    refine x_aload_n 110 C dX12_count_110 rfl 0 rfl ?_
    refine x_getr 111 C (b := A + 1) dX12_count_111 ff_X12_7 rfl hM.1 rfl ?_
    refine x_bipush 114 C (v := 40) dX12_count_114 rfl ?_
    refine x_iload_n 116 C dX12_count_116 rfl 1 rfl ?_
    refine x_iadd 117 C dX12_count_117 ?_
    refine x_int 57 (by decide) ?_
    refine x_bipush 118 C (v := 17) dX12_count_118 rfl ?_
    refine x_isub 120 C dX12_count_120 ?_
    refine x_int 40 (by decide) ?_
    refine x_iald 121 C (j := 40) dX12_count_121 hM.2.1 ⟨by decide, by decide, by decide⟩ ?_
    refine x_int (nI dx) hdx ?_
    refine x_iret 122 C dX12_count_122 rfl rfl (Nat.le_refl _) (xN.intro ?_)
    exact ⟨rfl, rfl, rfl⟩
  · skip
    refine x_iload_n 0 C dX12_count_0 rfl 1 rfl ?_
    refine x_iconst 1 C (v := 0) dX12_count_1 rfl ?_
    refine x_bipush 2 C (v := 7) dX12_count_2 rfl ?_
    refine x_callSe 4 C dX12_count_4 (As := [.int (nI 18), .int 0, .int 7]) (rest := []) [.int (bI (decide (0 ≤ 18) && decide (18 ≤ 7)))] (t_X12_in_n l D z n G I L 18 0 7 (by first | omega | assumption | decide) (by first | omega | assumption | decide) (by first | omega | assumption | decide)) mt_X12_in km_X12_71 kt_X12_in rfl rfl (Nat.le_of_ble_eq_true rfl) ⟨⟨by decide, by decide⟩, by decide, by decide⟩ (fun I85 L86 eI85 eL86 => ?_)
    replace eI85 := eI85.symm; subst eI85
    replace eL86 := eL86.symm; subst eL86
    refine x_int 0 (by decide) ?_
    refine x_if_eq 7 C 16 dX12_count_7 (by decide) (fun _ => ?_) (fun c87 => absurd (by decide) c87)
    refine x_iload_n 16 C dX12_count_16 rfl 1 rfl ?_
    refine x_tsIn 17 C 110 dX12_count_17 (v := 18) rfl (by decide) (by decide) rfl (by decide) ?_
    refine x_aload_n 110 C dX12_count_110 rfl 0 rfl ?_
    refine x_getr 111 C (b := A + 1) dX12_count_111 ff_X12_7 rfl hM.1 rfl ?_
    refine x_bipush 114 C (v := 40) dX12_count_114 rfl ?_
    refine x_iload_n 116 C dX12_count_116 rfl 1 rfl ?_
    refine x_iadd 117 C dX12_count_117 ?_
    refine x_int 58 (by decide) ?_
    refine x_bipush 118 C (v := 17) dX12_count_118 rfl ?_
    refine x_isub 120 C dX12_count_120 ?_
    refine x_int 41 (by decide) ?_
    refine x_iald 121 C (j := 41) dX12_count_121 hM.2.1 ⟨by decide, by decide, by decide⟩ ?_
    refine x_int (nI dy) hdy ?_
    refine x_iret 122 C dX12_count_122 rfl rfl (Nat.le_refl _) (xN.intro ?_)
    exact ⟨rfl, rfl, rfl⟩
set_option maxHeartbeats 1000000 in
set_option maxRecDepth 100000 in
theorem t_X12_count_bad (l : Launch) (D : xD) (z n : Nat) (G : xG) (I : xI) (L : xL) (A : Nat) (x : Int32) (hM : shMo G A) (hbad : ¬ (0 ≤ x ∧ x ≤ 18)) : xM0 l D z yX12_count cX12_count 2 (some .int) 5 112 [.ref A, .int x] n G I L (xE (some (.int (-2000000001))) I L) := by
  refine xM.of (by decide) (Nat.le_of_ble_eq_true rfl) (fun p e s m args below meth c C hnm hsz => ?_)
  refine x_lv [(0, .ref A), (1, .int x)] rfl ?_
  refine x_iload_n 0 C dX12_count_0 rfl 1 rfl ?_
  refine x_iconst 1 C (v := 0) dX12_count_1 rfl ?_
  refine x_bipush 2 C (v := 7) dX12_count_2 rfl ?_
  refine x_callSe 4 C dX12_count_4 (As := [.int x, .int 0, .int 7]) (rest := []) [.int (bI (decide (0 ≤ x) && decide (x ≤ 7)))] (t_X12_in l D z n G I L x 0 7 ) mt_X12_in km_X12_71 kt_X12_in rfl rfl (Nat.le_of_ble_eq_true rfl) ⟨⟨by decide, by decide⟩, by decide, by decide⟩ (fun I1 L2 eI1 eL2 => ?_)
  replace eI1 := eI1.symm; subst eI1
  replace eL2 := eL2.symm; subst eL2
  refine x_if_eq 7 C 16 dX12_count_7 (by decide) (fun _ => ?_) (fun c3 => absurd (in_b.mpr (fun h => hbad ⟨h.1, Int32.le_trans h.2 (by decide)⟩)) c3)
  refine x_iload_n 16 C dX12_count_16 rfl 1 rfl ?_
  have hdf4 : X p l e (xRm 5 112 0 0) s m args below meth c D z 2 (MQ below (xQc D z n (xN n G (xE (some (.int (-2000000001))) I L))) args s 0 0 (fun a => z ≤ a)) 0 0 n G I L 123 [(0, .ref A), (1, .int x)] [] := by
    refine x_ldc 123 C (-2000000001) dX12_count_123 kk_X12_198 ?_
    refine x_iret 125 C dX12_count_125 rfl rfl (Nat.le_refl _) (xN.intro ?_)
    exact ⟨rfl, rfl, rfl⟩
  by_cases hs5 : x = 8
  · skip
    exact absurd (by rw [hs5]; decide) hbad
  by_cases hs6 : x = 9
  · skip
    exact absurd (by rw [hs6]; decide) hbad
  by_cases hs7 : x = 10
  · skip
    exact absurd (by rw [hs7]; decide) hbad
  by_cases hs8 : x = 11
  · skip
    exact absurd (by rw [hs8]; decide) hbad
  by_cases hs9 : x = 12
  · skip
    exact absurd (by rw [hs9]; decide) hbad
  by_cases hs10 : x = 13
  · skip
    exact absurd (by rw [hs10]; decide) hbad
  by_cases hs11 : x = 14
  · skip
    exact absurd (by rw [hs11]; decide) hbad
  by_cases hs12 : x = 15
  · skip
    exact absurd (by rw [hs12]; decide) hbad
  by_cases hs13 : x = 16
  · skip
    exact absurd (by rw [hs13]; decide) hbad
  by_cases hs14 : x = 17
  · skip
    exact absurd (by rw [hs14]; decide) hbad
  by_cases hs15 : x = 18
  · skip
    exact absurd (by rw [hs15]; decide) hbad
  refine x_tsOut 17 C 123 dX12_count_17 (by have hs5t := lv_neT (a := 8) hs5 rfl; have hs6t := lv_neT (a := 9) hs6 rfl; have hs7t := lv_neT (a := 10) hs7 rfl; have hs8t := lv_neT (a := 11) hs8 rfl; have hs9t := lv_neT (a := 12) hs9 rfl; have hs10t := lv_neT (a := 13) hs10 rfl; have hs11t := lv_neT (a := 14) hs11 rfl; have hs12t := lv_neT (a := 15) hs12 rfl; have hs13t := lv_neT (a := 16) hs13 rfl; have hs14t := lv_neT (a := 17) hs14 rfl; have hs15t := lv_neT (a := 18) hs15 rfl; omega) (by decide) ?_
  exact hdf4
theorem dX12_path_0 : decode cX12_path 0 = .ok (.aload_n 0, 1) := by decide +kernel
theorem dX12_path_1 : decode cX12_path 1 = .ok (.iload_n 1, 1) := by decide +kernel
theorem dX12_path_2 : decode cX12_path 2 = .ok (.invokevirtual 195, 3) := by decide +kernel
theorem dX12_path_5 : decode cX12_path 5 = .ok (.ifCond .eq 13, 3) := by decide +kernel
theorem dX12_path_8 : decode cX12_path 8 = .ok (.iload_n 2, 1) := by decide +kernel
theorem dX12_path_9 : decode cX12_path 9 = .ok (.iconst 0, 1) := by decide +kernel
theorem dX12_path_10 : decode cX12_path 10 = .ok (.bipush 11, 2) := by decide +kernel
theorem dX12_path_12 : decode cX12_path 12 = .ok (.invokestatic 71, 3) := by decide +kernel
theorem dX12_path_15 : decode cX12_path 15 = .ok (.ifCond .ne 6, 3) := by decide +kernel
theorem dX12_path_18 : decode cX12_path 18 = .ok (.ldc 198, 2) := by decide +kernel
theorem dX12_path_20 : decode cX12_path 20 = .ok (.ireturn, 1) := by decide +kernel
theorem dX12_path_21 : decode cX12_path 21 = .ok (.iload_n 1, 1) := by decide +kernel
theorem dX12_path_22 : decode cX12_path 22 = .ok (.invokestatic 146, 3) := by decide +kernel
theorem dX12_path_25 : decode cX12_path 25 = .ok (.istore_n 3, 1) := by decide +kernel
theorem dX12_path_26 : decode cX12_path 26 = .ok (.iload_n 2, 1) := by decide +kernel
theorem dX12_path_27 : decode cX12_path 27 = .ok (.tableswitch 132 0 11 #[61, 70, 79, 89, 99, 108, 117, 132, 132, 132, 132, 126], 61) := by decide +kernel
theorem dX12_path_88 : decode cX12_path 88 = .ok (.aload_n 0, 1) := by decide +kernel
theorem dX12_path_89 : decode cX12_path 89 = .ok (.getfield 7, 3) := by decide +kernel
theorem dX12_path_92 : decode cX12_path 92 = .ok (.iload_n 3, 1) := by decide +kernel
theorem dX12_path_93 : decode cX12_path 93 = .ok (.iconst 5, 1) := by decide +kernel
theorem dX12_path_94 : decode cX12_path 94 = .ok (.iadd, 1) := by decide +kernel
theorem dX12_path_95 : decode cX12_path 95 = .ok (.iaload, 1) := by decide +kernel
theorem dX12_path_96 : decode cX12_path 96 = .ok (.ireturn, 1) := by decide +kernel
theorem dX12_path_97 : decode cX12_path 97 = .ok (.aload_n 0, 1) := by decide +kernel
theorem dX12_path_98 : decode cX12_path 98 = .ok (.getfield 7, 3) := by decide +kernel
theorem dX12_path_101 : decode cX12_path 101 = .ok (.iload_n 3, 1) := by decide +kernel
theorem dX12_path_102 : decode cX12_path 102 = .ok (.iconst 0, 1) := by decide +kernel
theorem dX12_path_103 : decode cX12_path 103 = .ok (.iadd, 1) := by decide +kernel
theorem dX12_path_104 : decode cX12_path 104 = .ok (.iaload, 1) := by decide +kernel
theorem dX12_path_105 : decode cX12_path 105 = .ok (.ireturn, 1) := by decide +kernel
theorem dX12_path_106 : decode cX12_path 106 = .ok (.aload_n 0, 1) := by decide +kernel
theorem dX12_path_107 : decode cX12_path 107 = .ok (.getfield 7, 3) := by decide +kernel
theorem dX12_path_110 : decode cX12_path 110 = .ok (.iload_n 3, 1) := by decide +kernel
theorem dX12_path_111 : decode cX12_path 111 = .ok (.bipush 6, 2) := by decide +kernel
theorem dX12_path_113 : decode cX12_path 113 = .ok (.iadd, 1) := by decide +kernel
theorem dX12_path_114 : decode cX12_path 114 = .ok (.iaload, 1) := by decide +kernel
theorem dX12_path_115 : decode cX12_path 115 = .ok (.ireturn, 1) := by decide +kernel
theorem dX12_path_116 : decode cX12_path 116 = .ok (.aload_n 0, 1) := by decide +kernel
theorem dX12_path_117 : decode cX12_path 117 = .ok (.getfield 7, 3) := by decide +kernel
theorem dX12_path_120 : decode cX12_path 120 = .ok (.iload_n 3, 1) := by decide +kernel
theorem dX12_path_121 : decode cX12_path 121 = .ok (.bipush 7, 2) := by decide +kernel
theorem dX12_path_123 : decode cX12_path 123 = .ok (.iadd, 1) := by decide +kernel
theorem dX12_path_124 : decode cX12_path 124 = .ok (.iaload, 1) := by decide +kernel
theorem dX12_path_125 : decode cX12_path 125 = .ok (.ireturn, 1) := by decide +kernel
theorem dX12_path_126 : decode cX12_path 126 = .ok (.aload_n 0, 1) := by decide +kernel
theorem dX12_path_127 : decode cX12_path 127 = .ok (.getfield 7, 3) := by decide +kernel
theorem dX12_path_130 : decode cX12_path 130 = .ok (.iload_n 3, 1) := by decide +kernel
theorem dX12_path_131 : decode cX12_path 131 = .ok (.iconst 3, 1) := by decide +kernel
theorem dX12_path_132 : decode cX12_path 132 = .ok (.iadd, 1) := by decide +kernel
theorem dX12_path_133 : decode cX12_path 133 = .ok (.iaload, 1) := by decide +kernel
theorem dX12_path_134 : decode cX12_path 134 = .ok (.ireturn, 1) := by decide +kernel
theorem dX12_path_135 : decode cX12_path 135 = .ok (.aload_n 0, 1) := by decide +kernel
theorem dX12_path_136 : decode cX12_path 136 = .ok (.getfield 7, 3) := by decide +kernel
theorem dX12_path_139 : decode cX12_path 139 = .ok (.iload_n 3, 1) := by decide +kernel
theorem dX12_path_140 : decode cX12_path 140 = .ok (.iconst 1, 1) := by decide +kernel
theorem dX12_path_141 : decode cX12_path 141 = .ok (.iadd, 1) := by decide +kernel
theorem dX12_path_142 : decode cX12_path 142 = .ok (.iaload, 1) := by decide +kernel
theorem dX12_path_143 : decode cX12_path 143 = .ok (.ireturn, 1) := by decide +kernel
theorem dX12_path_144 : decode cX12_path 144 = .ok (.aload_n 0, 1) := by decide +kernel
theorem dX12_path_145 : decode cX12_path 145 = .ok (.getfield 7, 3) := by decide +kernel
theorem dX12_path_148 : decode cX12_path 148 = .ok (.iload_n 3, 1) := by decide +kernel
theorem dX12_path_149 : decode cX12_path 149 = .ok (.iconst 2, 1) := by decide +kernel
theorem dX12_path_150 : decode cX12_path 150 = .ok (.iadd, 1) := by decide +kernel
theorem dX12_path_151 : decode cX12_path 151 = .ok (.iaload, 1) := by decide +kernel
theorem dX12_path_152 : decode cX12_path 152 = .ok (.ireturn, 1) := by decide +kernel
theorem dX12_path_153 : decode cX12_path 153 = .ok (.aload_n 0, 1) := by decide +kernel
theorem dX12_path_154 : decode cX12_path 154 = .ok (.iload_n 1, 1) := by decide +kernel
theorem dX12_path_155 : decode cX12_path 155 = .ok (.invokevirtual 212, 3) := by decide +kernel
theorem dX12_path_158 : decode cX12_path 158 = .ok (.ireturn, 1) := by decide +kernel
theorem dX12_path_159 : decode cX12_path 159 = .ok (.aload_n 0, 1) := by decide +kernel
theorem dX12_path_160 : decode cX12_path 160 = .ok (.iload_n 1, 1) := by decide +kernel
theorem dX12_path_161 : decode cX12_path 161 = .ok (.iload_n 2, 1) := by decide +kernel
theorem dX12_path_162 : decode cX12_path 162 = .ok (.bipush 7, 2) := by decide +kernel
theorem dX12_path_164 : decode cX12_path 164 = .ok (.isub, 1) := by decide +kernel
theorem dX12_path_165 : decode cX12_path 165 = .ok (.invokevirtual 215, 3) := by decide +kernel
theorem dX12_path_168 : decode cX12_path 168 = .ok (.ireturn, 1) := by decide +kernel
set_option maxHeartbeats 1000000 in
set_option maxRecDepth 100000 in
theorem t_X12_path (l : Launch) (D : xD) (z n : Nat) (G : xG) (I : xI) (L : xL) (A : Nat) (k : Nat) (w : Nat) (dx : Nat) (dy : Nat) (hM : shMo G A) (hdx : I (A + 1) 40 = nI dx) (hdy : I (A + 1) 41 = nI dy) (hd3 : dx * dy ≤ 9) (hku : k < dx * dy) (hprs : ∀ i, i < dx * dy → I (A + 1) (50 + 12 * i + 3) = 10 ∨ I (A + 1) (50 + 12 * i + 3) = 18) (hw : w < 11) : xM0 l D z yX12_path cX12_path 4 (some .int) 6 156 [.ref A, .int (nI k), .int (nI w)] n G I L (xE (some (.int (vAns (mV I A k) w))) I L) := by
  refine xM.of (by decide) (Nat.le_of_ble_eq_true rfl) (fun p e s m args below meth c C hnm hsz => ?_)
  refine x_lv [(0, .ref A), (1, .int (nI k)), (2, .int (nI w))] rfl ?_
  have hk : k < 9 := by omega
  rcases (show w = 0 ∨ w = 1 ∨ w = 2 ∨ w = 3 ∨ w = 4 ∨ w = 5 ∨ w = 6 ∨ w = 7 ∨ w = 8 ∨ w = 9 ∨ w = 10 by omega) with rfl | rfl | rfl | rfl | rfl | rfl | rfl | rfl | rfl | rfl | rfl
  · skip
    refine x_aload_n 0 C dX12_path_0 rfl 0 rfl ?_
    refine x_iload_n 1 C dX12_path_1 rfl 1 rfl ?_
    refine x_callVe 2 C dX12_path_2 (As := [.int (nI k)]) (rest := []) [.int (bI (decide (0 ≤ (nI k)) && decide ((nI k) < nI (dx * dy))))] (t_X12_isPath l D z n G I L A dx dy (nI k) hM hdx hdy (by omega) hd3) mt_X12_isPath km_X12_195 ki_X12_isPath ks_X12_isPath hM.1 ⟨by decide, rfl⟩ rfl rfl (Nat.le_of_ble_eq_true rfl) ⟨⟨by decide, by decide⟩, by decide, by decide⟩ (fun I1 L2 eI1 eL2 => ?_)
    replace eI1 := eI1.symm; subst eI1
    replace eL2 := eL2.symm; subst eL2
    refine x_if_eq 5 C 18 dX12_path_5 (by decide) (fun c3 => absurd c3 (isP_t hku hd3)) (fun _ => ?_)
    refine x_iload_n 8 C dX12_path_8 rfl 2 rfl ?_
    refine x_iconst 9 C (v := 0) dX12_path_9 rfl ?_
    refine x_bipush 10 C (v := 11) dX12_path_10 rfl ?_
    refine x_callSe 12 C dX12_path_12 (As := [.int (nI 0), .int 0, .int 11]) (rest := []) [.int (bI (decide (0 ≤ 0) && decide (0 ≤ 11)))] (t_X12_in_n l D z n G I L 0 0 11 (by first | omega | assumption | decide) (by first | omega | assumption | decide) (by first | omega | assumption | decide)) mt_X12_in km_X12_71 kt_X12_in rfl rfl (Nat.le_of_ble_eq_true rfl) ⟨⟨by decide, by decide⟩, by decide, by decide⟩ (fun I4 L5 eI4 eL5 => ?_)
    replace eI4 := eI4.symm; subst eI4
    replace eL5 := eL5.symm; subst eL5
    refine x_int 1 (by decide) ?_
    refine x_if_ne 15 C 21 dX12_path_15 (by decide) (fun _ => ?_) (fun c6 => absurd c6 (by decide))
    refine x_iload_n 21 C dX12_path_21 rfl 1 rfl ?_
    refine x_callSe 22 C dX12_path_22 (As := [.int (nI k)]) (rest := []) [.int (nI (50 + 12 * k))] (t_X12_pathAt l D z n G I L k (by first | omega | assumption | decide)) mt_X12_pathAt km_X12_146 kt_X12_pathAt rfl rfl (Nat.le_of_ble_eq_true rfl) ⟨⟨by decide, by decide⟩, by decide, by decide⟩ (fun I7 L8 eI7 eL8 => ?_)
    replace eI7 := eI7.symm; subst eI7
    replace eL8 := eL8.symm; subst eL8
    refine x_istore_n 25 C [(3, .int (nI (50 + 12 * k))), (0, .ref A), (1, .int (nI k)), (2, .int (nI 0))] dX12_path_25 rfl (by decide) rfl ?_
    refine x_iload_n 26 C dX12_path_26 rfl 3 rfl ?_
    refine x_tsIn 27 C 88 dX12_path_27 (v := 0) rfl (by decide) (by decide) rfl (by decide) ?_
    refine x_aload_n 88 C dX12_path_88 rfl 1 rfl ?_
    refine x_getr 89 C (b := A + 1) dX12_path_89 ff_X12_7 rfl hM.1 rfl ?_
    refine x_iload_n 92 C dX12_path_92 rfl 0 rfl ?_
    refine x_iconst 93 C (v := 5) dX12_path_93 rfl ?_
    refine x_iadd 94 C dX12_path_94 ?_
    refine x_int (nI (50 + 12 * k + 5)) (nI_add (50 + 12 * k) 5) ?_
    refine x_iald 95 C (j := (50 + 12 * k + 5)) dX12_path_95 hM.2.1 (xIx_nI (by omega) (by decide)) ?_
    refine x_iret 96 C dX12_path_96 rfl rfl (Nat.le_refl _) (xN.intro ?_)
    exact ⟨rfl, rfl, rfl⟩
  · skip
    refine x_aload_n 0 C dX12_path_0 rfl 0 rfl ?_
    refine x_iload_n 1 C dX12_path_1 rfl 1 rfl ?_
    refine x_callVe 2 C dX12_path_2 (As := [.int (nI k)]) (rest := []) [.int (bI (decide (0 ≤ (nI k)) && decide ((nI k) < nI (dx * dy))))] (t_X12_isPath l D z n G I L A dx dy (nI k) hM hdx hdy (by omega) hd3) mt_X12_isPath km_X12_195 ki_X12_isPath ks_X12_isPath hM.1 ⟨by decide, rfl⟩ rfl rfl (Nat.le_of_ble_eq_true rfl) ⟨⟨by decide, by decide⟩, by decide, by decide⟩ (fun I9 L10 eI9 eL10 => ?_)
    replace eI9 := eI9.symm; subst eI9
    replace eL10 := eL10.symm; subst eL10
    refine x_if_eq 5 C 18 dX12_path_5 (by decide) (fun c11 => absurd c11 (isP_t hku hd3)) (fun _ => ?_)
    refine x_iload_n 8 C dX12_path_8 rfl 2 rfl ?_
    refine x_iconst 9 C (v := 0) dX12_path_9 rfl ?_
    refine x_bipush 10 C (v := 11) dX12_path_10 rfl ?_
    refine x_callSe 12 C dX12_path_12 (As := [.int (nI 1), .int 0, .int 11]) (rest := []) [.int (bI (decide (0 ≤ 1) && decide (1 ≤ 11)))] (t_X12_in_n l D z n G I L 1 0 11 (by first | omega | assumption | decide) (by first | omega | assumption | decide) (by first | omega | assumption | decide)) mt_X12_in km_X12_71 kt_X12_in rfl rfl (Nat.le_of_ble_eq_true rfl) ⟨⟨by decide, by decide⟩, by decide, by decide⟩ (fun I12 L13 eI12 eL13 => ?_)
    replace eI12 := eI12.symm; subst eI12
    replace eL13 := eL13.symm; subst eL13
    refine x_int 1 (by decide) ?_
    refine x_if_ne 15 C 21 dX12_path_15 (by decide) (fun _ => ?_) (fun c14 => absurd c14 (by decide))
    refine x_iload_n 21 C dX12_path_21 rfl 1 rfl ?_
    refine x_callSe 22 C dX12_path_22 (As := [.int (nI k)]) (rest := []) [.int (nI (50 + 12 * k))] (t_X12_pathAt l D z n G I L k (by first | omega | assumption | decide)) mt_X12_pathAt km_X12_146 kt_X12_pathAt rfl rfl (Nat.le_of_ble_eq_true rfl) ⟨⟨by decide, by decide⟩, by decide, by decide⟩ (fun I15 L16 eI15 eL16 => ?_)
    replace eI15 := eI15.symm; subst eI15
    replace eL16 := eL16.symm; subst eL16
    refine x_istore_n 25 C [(3, .int (nI (50 + 12 * k))), (0, .ref A), (1, .int (nI k)), (2, .int (nI 1))] dX12_path_25 rfl (by decide) rfl ?_
    refine x_iload_n 26 C dX12_path_26 rfl 3 rfl ?_
    refine x_tsIn 27 C 97 dX12_path_27 (v := 1) rfl (by decide) (by decide) rfl (by decide) ?_
    refine x_aload_n 97 C dX12_path_97 rfl 1 rfl ?_
    refine x_getr 98 C (b := A + 1) dX12_path_98 ff_X12_7 rfl hM.1 rfl ?_
    refine x_iload_n 101 C dX12_path_101 rfl 0 rfl ?_
    refine x_iconst 102 C (v := 0) dX12_path_102 rfl ?_
    refine x_iadd 103 C dX12_path_103 ?_
    refine x_int (nI (50 + 12 * k + 0)) (nI_add (50 + 12 * k) 0) ?_
    refine x_iald 104 C (j := (50 + 12 * k + 0)) dX12_path_104 hM.2.1 (xIx_nI (by omega) (by decide)) ?_
    refine x_iret 105 C dX12_path_105 rfl rfl (Nat.le_refl _) (xN.intro ?_)
    exact ⟨rfl, rfl, rfl⟩
  · skip
    refine x_aload_n 0 C dX12_path_0 rfl 0 rfl ?_
    refine x_iload_n 1 C dX12_path_1 rfl 1 rfl ?_
    refine x_callVe 2 C dX12_path_2 (As := [.int (nI k)]) (rest := []) [.int (bI (decide (0 ≤ (nI k)) && decide ((nI k) < nI (dx * dy))))] (t_X12_isPath l D z n G I L A dx dy (nI k) hM hdx hdy (by omega) hd3) mt_X12_isPath km_X12_195 ki_X12_isPath ks_X12_isPath hM.1 ⟨by decide, rfl⟩ rfl rfl (Nat.le_of_ble_eq_true rfl) ⟨⟨by decide, by decide⟩, by decide, by decide⟩ (fun I17 L18 eI17 eL18 => ?_)
    replace eI17 := eI17.symm; subst eI17
    replace eL18 := eL18.symm; subst eL18
    refine x_if_eq 5 C 18 dX12_path_5 (by decide) (fun c19 => absurd c19 (isP_t hku hd3)) (fun _ => ?_)
    refine x_iload_n 8 C dX12_path_8 rfl 2 rfl ?_
    refine x_iconst 9 C (v := 0) dX12_path_9 rfl ?_
    refine x_bipush 10 C (v := 11) dX12_path_10 rfl ?_
    refine x_callSe 12 C dX12_path_12 (As := [.int (nI 2), .int 0, .int 11]) (rest := []) [.int (bI (decide (0 ≤ 2) && decide (2 ≤ 11)))] (t_X12_in_n l D z n G I L 2 0 11 (by first | omega | assumption | decide) (by first | omega | assumption | decide) (by first | omega | assumption | decide)) mt_X12_in km_X12_71 kt_X12_in rfl rfl (Nat.le_of_ble_eq_true rfl) ⟨⟨by decide, by decide⟩, by decide, by decide⟩ (fun I20 L21 eI20 eL21 => ?_)
    replace eI20 := eI20.symm; subst eI20
    replace eL21 := eL21.symm; subst eL21
    refine x_int 1 (by decide) ?_
    refine x_if_ne 15 C 21 dX12_path_15 (by decide) (fun _ => ?_) (fun c22 => absurd c22 (by decide))
    refine x_iload_n 21 C dX12_path_21 rfl 1 rfl ?_
    refine x_callSe 22 C dX12_path_22 (As := [.int (nI k)]) (rest := []) [.int (nI (50 + 12 * k))] (t_X12_pathAt l D z n G I L k (by first | omega | assumption | decide)) mt_X12_pathAt km_X12_146 kt_X12_pathAt rfl rfl (Nat.le_of_ble_eq_true rfl) ⟨⟨by decide, by decide⟩, by decide, by decide⟩ (fun I23 L24 eI23 eL24 => ?_)
    replace eI23 := eI23.symm; subst eI23
    replace eL24 := eL24.symm; subst eL24
    refine x_istore_n 25 C [(3, .int (nI (50 + 12 * k))), (0, .ref A), (1, .int (nI k)), (2, .int (nI 2))] dX12_path_25 rfl (by decide) rfl ?_
    refine x_iload_n 26 C dX12_path_26 rfl 3 rfl ?_
    refine x_tsIn 27 C 106 dX12_path_27 (v := 2) rfl (by decide) (by decide) rfl (by decide) ?_
    refine x_aload_n 106 C dX12_path_106 rfl 1 rfl ?_
    refine x_getr 107 C (b := A + 1) dX12_path_107 ff_X12_7 rfl hM.1 rfl ?_
    refine x_iload_n 110 C dX12_path_110 rfl 0 rfl ?_
    refine x_bipush 111 C (v := 6) dX12_path_111 rfl ?_
    refine x_iadd 113 C dX12_path_113 ?_
    refine x_int (nI (50 + 12 * k + 6)) (nI_add (50 + 12 * k) 6) ?_
    refine x_iald 114 C (j := (50 + 12 * k + 6)) dX12_path_114 hM.2.1 (xIx_nI (by omega) (by decide)) ?_
    refine x_iret 115 C dX12_path_115 rfl rfl (Nat.le_refl _) (xN.intro ?_)
    exact ⟨rfl, rfl, rfl⟩
  · skip
    refine x_aload_n 0 C dX12_path_0 rfl 0 rfl ?_
    refine x_iload_n 1 C dX12_path_1 rfl 1 rfl ?_
    refine x_callVe 2 C dX12_path_2 (As := [.int (nI k)]) (rest := []) [.int (bI (decide (0 ≤ (nI k)) && decide ((nI k) < nI (dx * dy))))] (t_X12_isPath l D z n G I L A dx dy (nI k) hM hdx hdy (by omega) hd3) mt_X12_isPath km_X12_195 ki_X12_isPath ks_X12_isPath hM.1 ⟨by decide, rfl⟩ rfl rfl (Nat.le_of_ble_eq_true rfl) ⟨⟨by decide, by decide⟩, by decide, by decide⟩ (fun I25 L26 eI25 eL26 => ?_)
    replace eI25 := eI25.symm; subst eI25
    replace eL26 := eL26.symm; subst eL26
    refine x_if_eq 5 C 18 dX12_path_5 (by decide) (fun c27 => absurd c27 (isP_t hku hd3)) (fun _ => ?_)
    refine x_iload_n 8 C dX12_path_8 rfl 2 rfl ?_
    refine x_iconst 9 C (v := 0) dX12_path_9 rfl ?_
    refine x_bipush 10 C (v := 11) dX12_path_10 rfl ?_
    refine x_callSe 12 C dX12_path_12 (As := [.int (nI 3), .int 0, .int 11]) (rest := []) [.int (bI (decide (0 ≤ 3) && decide (3 ≤ 11)))] (t_X12_in_n l D z n G I L 3 0 11 (by first | omega | assumption | decide) (by first | omega | assumption | decide) (by first | omega | assumption | decide)) mt_X12_in km_X12_71 kt_X12_in rfl rfl (Nat.le_of_ble_eq_true rfl) ⟨⟨by decide, by decide⟩, by decide, by decide⟩ (fun I28 L29 eI28 eL29 => ?_)
    replace eI28 := eI28.symm; subst eI28
    replace eL29 := eL29.symm; subst eL29
    refine x_int 1 (by decide) ?_
    refine x_if_ne 15 C 21 dX12_path_15 (by decide) (fun _ => ?_) (fun c30 => absurd c30 (by decide))
    refine x_iload_n 21 C dX12_path_21 rfl 1 rfl ?_
    refine x_callSe 22 C dX12_path_22 (As := [.int (nI k)]) (rest := []) [.int (nI (50 + 12 * k))] (t_X12_pathAt l D z n G I L k (by first | omega | assumption | decide)) mt_X12_pathAt km_X12_146 kt_X12_pathAt rfl rfl (Nat.le_of_ble_eq_true rfl) ⟨⟨by decide, by decide⟩, by decide, by decide⟩ (fun I31 L32 eI31 eL32 => ?_)
    replace eI31 := eI31.symm; subst eI31
    replace eL32 := eL32.symm; subst eL32
    refine x_istore_n 25 C [(3, .int (nI (50 + 12 * k))), (0, .ref A), (1, .int (nI k)), (2, .int (nI 3))] dX12_path_25 rfl (by decide) rfl ?_
    refine x_iload_n 26 C dX12_path_26 rfl 3 rfl ?_
    refine x_tsIn 27 C 116 dX12_path_27 (v := 3) rfl (by decide) (by decide) rfl (by decide) ?_
    refine x_aload_n 116 C dX12_path_116 rfl 1 rfl ?_
    refine x_getr 117 C (b := A + 1) dX12_path_117 ff_X12_7 rfl hM.1 rfl ?_
    refine x_iload_n 120 C dX12_path_120 rfl 0 rfl ?_
    refine x_bipush 121 C (v := 7) dX12_path_121 rfl ?_
    refine x_iadd 123 C dX12_path_123 ?_
    refine x_int (nI (50 + 12 * k + 7)) (nI_add (50 + 12 * k) 7) ?_
    refine x_iald 124 C (j := (50 + 12 * k + 7)) dX12_path_124 hM.2.1 (xIx_nI (by omega) (by decide)) ?_
    refine x_iret 125 C dX12_path_125 rfl rfl (Nat.le_refl _) (xN.intro ?_)
    exact ⟨rfl, rfl, rfl⟩
  · skip
    refine x_aload_n 0 C dX12_path_0 rfl 0 rfl ?_
    refine x_iload_n 1 C dX12_path_1 rfl 1 rfl ?_
    refine x_callVe 2 C dX12_path_2 (As := [.int (nI k)]) (rest := []) [.int (bI (decide (0 ≤ (nI k)) && decide ((nI k) < nI (dx * dy))))] (t_X12_isPath l D z n G I L A dx dy (nI k) hM hdx hdy (by omega) hd3) mt_X12_isPath km_X12_195 ki_X12_isPath ks_X12_isPath hM.1 ⟨by decide, rfl⟩ rfl rfl (Nat.le_of_ble_eq_true rfl) ⟨⟨by decide, by decide⟩, by decide, by decide⟩ (fun I33 L34 eI33 eL34 => ?_)
    replace eI33 := eI33.symm; subst eI33
    replace eL34 := eL34.symm; subst eL34
    refine x_if_eq 5 C 18 dX12_path_5 (by decide) (fun c35 => absurd c35 (isP_t hku hd3)) (fun _ => ?_)
    refine x_iload_n 8 C dX12_path_8 rfl 2 rfl ?_
    refine x_iconst 9 C (v := 0) dX12_path_9 rfl ?_
    refine x_bipush 10 C (v := 11) dX12_path_10 rfl ?_
    refine x_callSe 12 C dX12_path_12 (As := [.int (nI 4), .int 0, .int 11]) (rest := []) [.int (bI (decide (0 ≤ 4) && decide (4 ≤ 11)))] (t_X12_in_n l D z n G I L 4 0 11 (by first | omega | assumption | decide) (by first | omega | assumption | decide) (by first | omega | assumption | decide)) mt_X12_in km_X12_71 kt_X12_in rfl rfl (Nat.le_of_ble_eq_true rfl) ⟨⟨by decide, by decide⟩, by decide, by decide⟩ (fun I36 L37 eI36 eL37 => ?_)
    replace eI36 := eI36.symm; subst eI36
    replace eL37 := eL37.symm; subst eL37
    refine x_int 1 (by decide) ?_
    refine x_if_ne 15 C 21 dX12_path_15 (by decide) (fun _ => ?_) (fun c38 => absurd c38 (by decide))
    refine x_iload_n 21 C dX12_path_21 rfl 1 rfl ?_
    refine x_callSe 22 C dX12_path_22 (As := [.int (nI k)]) (rest := []) [.int (nI (50 + 12 * k))] (t_X12_pathAt l D z n G I L k (by first | omega | assumption | decide)) mt_X12_pathAt km_X12_146 kt_X12_pathAt rfl rfl (Nat.le_of_ble_eq_true rfl) ⟨⟨by decide, by decide⟩, by decide, by decide⟩ (fun I39 L40 eI39 eL40 => ?_)
    replace eI39 := eI39.symm; subst eI39
    replace eL40 := eL40.symm; subst eL40
    refine x_istore_n 25 C [(3, .int (nI (50 + 12 * k))), (0, .ref A), (1, .int (nI k)), (2, .int (nI 4))] dX12_path_25 rfl (by decide) rfl ?_
    refine x_iload_n 26 C dX12_path_26 rfl 3 rfl ?_
    refine x_tsIn 27 C 126 dX12_path_27 (v := 4) rfl (by decide) (by decide) rfl (by decide) ?_
    refine x_aload_n 126 C dX12_path_126 rfl 1 rfl ?_
    refine x_getr 127 C (b := A + 1) dX12_path_127 ff_X12_7 rfl hM.1 rfl ?_
    refine x_iload_n 130 C dX12_path_130 rfl 0 rfl ?_
    refine x_iconst 131 C (v := 3) dX12_path_131 rfl ?_
    refine x_iadd 132 C dX12_path_132 ?_
    refine x_int (nI (50 + 12 * k + 3)) (nI_add (50 + 12 * k) 3) ?_
    refine x_iald 133 C (j := (50 + 12 * k + 3)) dX12_path_133 hM.2.1 (xIx_nI (by omega) (by decide)) ?_
    refine x_iret 134 C dX12_path_134 rfl rfl (Nat.le_refl _) (xN.intro ?_)
    exact ⟨rfl, rfl, rfl⟩
  · skip
    refine x_aload_n 0 C dX12_path_0 rfl 0 rfl ?_
    refine x_iload_n 1 C dX12_path_1 rfl 1 rfl ?_
    refine x_callVe 2 C dX12_path_2 (As := [.int (nI k)]) (rest := []) [.int (bI (decide (0 ≤ (nI k)) && decide ((nI k) < nI (dx * dy))))] (t_X12_isPath l D z n G I L A dx dy (nI k) hM hdx hdy (by omega) hd3) mt_X12_isPath km_X12_195 ki_X12_isPath ks_X12_isPath hM.1 ⟨by decide, rfl⟩ rfl rfl (Nat.le_of_ble_eq_true rfl) ⟨⟨by decide, by decide⟩, by decide, by decide⟩ (fun I41 L42 eI41 eL42 => ?_)
    replace eI41 := eI41.symm; subst eI41
    replace eL42 := eL42.symm; subst eL42
    refine x_if_eq 5 C 18 dX12_path_5 (by decide) (fun c43 => absurd c43 (isP_t hku hd3)) (fun _ => ?_)
    refine x_iload_n 8 C dX12_path_8 rfl 2 rfl ?_
    refine x_iconst 9 C (v := 0) dX12_path_9 rfl ?_
    refine x_bipush 10 C (v := 11) dX12_path_10 rfl ?_
    refine x_callSe 12 C dX12_path_12 (As := [.int (nI 5), .int 0, .int 11]) (rest := []) [.int (bI (decide (0 ≤ 5) && decide (5 ≤ 11)))] (t_X12_in_n l D z n G I L 5 0 11 (by first | omega | assumption | decide) (by first | omega | assumption | decide) (by first | omega | assumption | decide)) mt_X12_in km_X12_71 kt_X12_in rfl rfl (Nat.le_of_ble_eq_true rfl) ⟨⟨by decide, by decide⟩, by decide, by decide⟩ (fun I44 L45 eI44 eL45 => ?_)
    replace eI44 := eI44.symm; subst eI44
    replace eL45 := eL45.symm; subst eL45
    refine x_int 1 (by decide) ?_
    refine x_if_ne 15 C 21 dX12_path_15 (by decide) (fun _ => ?_) (fun c46 => absurd c46 (by decide))
    refine x_iload_n 21 C dX12_path_21 rfl 1 rfl ?_
    refine x_callSe 22 C dX12_path_22 (As := [.int (nI k)]) (rest := []) [.int (nI (50 + 12 * k))] (t_X12_pathAt l D z n G I L k (by first | omega | assumption | decide)) mt_X12_pathAt km_X12_146 kt_X12_pathAt rfl rfl (Nat.le_of_ble_eq_true rfl) ⟨⟨by decide, by decide⟩, by decide, by decide⟩ (fun I47 L48 eI47 eL48 => ?_)
    replace eI47 := eI47.symm; subst eI47
    replace eL48 := eL48.symm; subst eL48
    refine x_istore_n 25 C [(3, .int (nI (50 + 12 * k))), (0, .ref A), (1, .int (nI k)), (2, .int (nI 5))] dX12_path_25 rfl (by decide) rfl ?_
    refine x_iload_n 26 C dX12_path_26 rfl 3 rfl ?_
    refine x_tsIn 27 C 135 dX12_path_27 (v := 5) rfl (by decide) (by decide) rfl (by decide) ?_
    refine x_aload_n 135 C dX12_path_135 rfl 1 rfl ?_
    refine x_getr 136 C (b := A + 1) dX12_path_136 ff_X12_7 rfl hM.1 rfl ?_
    refine x_iload_n 139 C dX12_path_139 rfl 0 rfl ?_
    refine x_iconst 140 C (v := 1) dX12_path_140 rfl ?_
    refine x_iadd 141 C dX12_path_141 ?_
    refine x_int (nI (50 + 12 * k + 1)) (nI_add (50 + 12 * k) 1) ?_
    refine x_iald 142 C (j := (50 + 12 * k + 1)) dX12_path_142 hM.2.1 (xIx_nI (by omega) (by decide)) ?_
    refine x_iret 143 C dX12_path_143 rfl rfl (Nat.le_refl _) (xN.intro ?_)
    exact ⟨rfl, rfl, rfl⟩
  · skip
    refine x_aload_n 0 C dX12_path_0 rfl 0 rfl ?_
    refine x_iload_n 1 C dX12_path_1 rfl 1 rfl ?_
    refine x_callVe 2 C dX12_path_2 (As := [.int (nI k)]) (rest := []) [.int (bI (decide (0 ≤ (nI k)) && decide ((nI k) < nI (dx * dy))))] (t_X12_isPath l D z n G I L A dx dy (nI k) hM hdx hdy (by omega) hd3) mt_X12_isPath km_X12_195 ki_X12_isPath ks_X12_isPath hM.1 ⟨by decide, rfl⟩ rfl rfl (Nat.le_of_ble_eq_true rfl) ⟨⟨by decide, by decide⟩, by decide, by decide⟩ (fun I49 L50 eI49 eL50 => ?_)
    replace eI49 := eI49.symm; subst eI49
    replace eL50 := eL50.symm; subst eL50
    refine x_if_eq 5 C 18 dX12_path_5 (by decide) (fun c51 => absurd c51 (isP_t hku hd3)) (fun _ => ?_)
    refine x_iload_n 8 C dX12_path_8 rfl 2 rfl ?_
    refine x_iconst 9 C (v := 0) dX12_path_9 rfl ?_
    refine x_bipush 10 C (v := 11) dX12_path_10 rfl ?_
    refine x_callSe 12 C dX12_path_12 (As := [.int (nI 6), .int 0, .int 11]) (rest := []) [.int (bI (decide (0 ≤ 6) && decide (6 ≤ 11)))] (t_X12_in_n l D z n G I L 6 0 11 (by first | omega | assumption | decide) (by first | omega | assumption | decide) (by first | omega | assumption | decide)) mt_X12_in km_X12_71 kt_X12_in rfl rfl (Nat.le_of_ble_eq_true rfl) ⟨⟨by decide, by decide⟩, by decide, by decide⟩ (fun I52 L53 eI52 eL53 => ?_)
    replace eI52 := eI52.symm; subst eI52
    replace eL53 := eL53.symm; subst eL53
    refine x_int 1 (by decide) ?_
    refine x_if_ne 15 C 21 dX12_path_15 (by decide) (fun _ => ?_) (fun c54 => absurd c54 (by decide))
    refine x_iload_n 21 C dX12_path_21 rfl 1 rfl ?_
    refine x_callSe 22 C dX12_path_22 (As := [.int (nI k)]) (rest := []) [.int (nI (50 + 12 * k))] (t_X12_pathAt l D z n G I L k (by first | omega | assumption | decide)) mt_X12_pathAt km_X12_146 kt_X12_pathAt rfl rfl (Nat.le_of_ble_eq_true rfl) ⟨⟨by decide, by decide⟩, by decide, by decide⟩ (fun I55 L56 eI55 eL56 => ?_)
    replace eI55 := eI55.symm; subst eI55
    replace eL56 := eL56.symm; subst eL56
    refine x_istore_n 25 C [(3, .int (nI (50 + 12 * k))), (0, .ref A), (1, .int (nI k)), (2, .int (nI 6))] dX12_path_25 rfl (by decide) rfl ?_
    refine x_iload_n 26 C dX12_path_26 rfl 3 rfl ?_
    refine x_tsIn 27 C 144 dX12_path_27 (v := 6) rfl (by decide) (by decide) rfl (by decide) ?_
    refine x_aload_n 144 C dX12_path_144 rfl 1 rfl ?_
    refine x_getr 145 C (b := A + 1) dX12_path_145 ff_X12_7 rfl hM.1 rfl ?_
    refine x_iload_n 148 C dX12_path_148 rfl 0 rfl ?_
    refine x_iconst 149 C (v := 2) dX12_path_149 rfl ?_
    refine x_iadd 150 C dX12_path_150 ?_
    refine x_int (nI (50 + 12 * k + 2)) (nI_add (50 + 12 * k) 2) ?_
    refine x_iald 151 C (j := (50 + 12 * k + 2)) dX12_path_151 hM.2.1 (xIx_nI (by omega) (by decide)) ?_
    refine x_iret 152 C dX12_path_152 rfl rfl (Nat.le_refl _) (xN.intro ?_)
    exact ⟨rfl, rfl, rfl⟩
  · skip
    refine x_aload_n 0 C dX12_path_0 rfl 0 rfl ?_
    refine x_iload_n 1 C dX12_path_1 rfl 1 rfl ?_
    refine x_callVe 2 C dX12_path_2 (As := [.int (nI k)]) (rest := []) [.int (bI (decide (0 ≤ (nI k)) && decide ((nI k) < nI (dx * dy))))] (t_X12_isPath l D z n G I L A dx dy (nI k) hM hdx hdy (by omega) hd3) mt_X12_isPath km_X12_195 ki_X12_isPath ks_X12_isPath hM.1 ⟨by decide, rfl⟩ rfl rfl (Nat.le_of_ble_eq_true rfl) ⟨⟨by decide, by decide⟩, by decide, by decide⟩ (fun I57 L58 eI57 eL58 => ?_)
    replace eI57 := eI57.symm; subst eI57
    replace eL58 := eL58.symm; subst eL58
    refine x_if_eq 5 C 18 dX12_path_5 (by decide) (fun c59 => absurd c59 (isP_t hku hd3)) (fun _ => ?_)
    refine x_iload_n 8 C dX12_path_8 rfl 2 rfl ?_
    refine x_iconst 9 C (v := 0) dX12_path_9 rfl ?_
    refine x_bipush 10 C (v := 11) dX12_path_10 rfl ?_
    refine x_callSe 12 C dX12_path_12 (As := [.int (nI 7), .int 0, .int 11]) (rest := []) [.int (bI (decide (0 ≤ 7) && decide (7 ≤ 11)))] (t_X12_in_n l D z n G I L 7 0 11 (by first | omega | assumption | decide) (by first | omega | assumption | decide) (by first | omega | assumption | decide)) mt_X12_in km_X12_71 kt_X12_in rfl rfl (Nat.le_of_ble_eq_true rfl) ⟨⟨by decide, by decide⟩, by decide, by decide⟩ (fun I60 L61 eI60 eL61 => ?_)
    replace eI60 := eI60.symm; subst eI60
    replace eL61 := eL61.symm; subst eL61
    refine x_int 1 (by decide) ?_
    refine x_if_ne 15 C 21 dX12_path_15 (by decide) (fun _ => ?_) (fun c62 => absurd c62 (by decide))
    refine x_iload_n 21 C dX12_path_21 rfl 1 rfl ?_
    refine x_callSe 22 C dX12_path_22 (As := [.int (nI k)]) (rest := []) [.int (nI (50 + 12 * k))] (t_X12_pathAt l D z n G I L k (by first | omega | assumption | decide)) mt_X12_pathAt km_X12_146 kt_X12_pathAt rfl rfl (Nat.le_of_ble_eq_true rfl) ⟨⟨by decide, by decide⟩, by decide, by decide⟩ (fun I63 L64 eI63 eL64 => ?_)
    replace eI63 := eI63.symm; subst eI63
    replace eL64 := eL64.symm; subst eL64
    refine x_istore_n 25 C [(3, .int (nI (50 + 12 * k))), (0, .ref A), (1, .int (nI k)), (2, .int (nI 7))] dX12_path_25 rfl (by decide) rfl ?_
    refine x_iload_n 26 C dX12_path_26 rfl 3 rfl ?_
    refine x_tsIn 27 C 159 dX12_path_27 (v := 7) rfl (by decide) (by decide) rfl (by decide) ?_
    refine x_aload_n 159 C dX12_path_159 rfl 1 rfl ?_
    refine x_iload_n 160 C dX12_path_160 rfl 2 rfl ?_
    refine x_iload_n 161 C dX12_path_161 rfl 3 rfl ?_
    refine x_bipush 162 C (v := 7) dX12_path_162 rfl ?_
    refine x_isub 164 C dX12_path_164 ?_
    refine x_int 0 (by decide) ?_
    refine x_callVe 165 C dX12_path_165 (As := [.int (nI k), .int 0]) (rest := []) [.int (vpt (mvO (I (A + 1)) (50 + 12 * k)) 0)] (t_X12_thousandths l D z n G I L A k 0 hM (by first | omega | assumption | decide) (by first | omega | assumption | decide) (hprs k hku)) mt_X12_thousandths km_X12_215 ki_X12_thousandths ks_X12_thousandths hM.1 ⟨by decide, rfl⟩ rfl rfl (Nat.le_of_ble_eq_true rfl) ⟨⟨by decide, by decide⟩, by decide, by decide⟩ (fun I65 L66 eI65 eL66 => ?_)
    replace eI65 := eI65.symm; subst eI65
    replace eL66 := eL66.symm; subst eL66
    refine x_iret 168 C dX12_path_168 rfl rfl (Nat.le_refl _) (xN.intro ?_)
    exact ⟨rfl, rfl, rfl⟩
  · skip
    refine x_aload_n 0 C dX12_path_0 rfl 0 rfl ?_
    refine x_iload_n 1 C dX12_path_1 rfl 1 rfl ?_
    refine x_callVe 2 C dX12_path_2 (As := [.int (nI k)]) (rest := []) [.int (bI (decide (0 ≤ (nI k)) && decide ((nI k) < nI (dx * dy))))] (t_X12_isPath l D z n G I L A dx dy (nI k) hM hdx hdy (by omega) hd3) mt_X12_isPath km_X12_195 ki_X12_isPath ks_X12_isPath hM.1 ⟨by decide, rfl⟩ rfl rfl (Nat.le_of_ble_eq_true rfl) ⟨⟨by decide, by decide⟩, by decide, by decide⟩ (fun I67 L68 eI67 eL68 => ?_)
    replace eI67 := eI67.symm; subst eI67
    replace eL68 := eL68.symm; subst eL68
    refine x_if_eq 5 C 18 dX12_path_5 (by decide) (fun c69 => absurd c69 (isP_t hku hd3)) (fun _ => ?_)
    refine x_iload_n 8 C dX12_path_8 rfl 2 rfl ?_
    refine x_iconst 9 C (v := 0) dX12_path_9 rfl ?_
    refine x_bipush 10 C (v := 11) dX12_path_10 rfl ?_
    refine x_callSe 12 C dX12_path_12 (As := [.int (nI 8), .int 0, .int 11]) (rest := []) [.int (bI (decide (0 ≤ 8) && decide (8 ≤ 11)))] (t_X12_in_n l D z n G I L 8 0 11 (by first | omega | assumption | decide) (by first | omega | assumption | decide) (by first | omega | assumption | decide)) mt_X12_in km_X12_71 kt_X12_in rfl rfl (Nat.le_of_ble_eq_true rfl) ⟨⟨by decide, by decide⟩, by decide, by decide⟩ (fun I70 L71 eI70 eL71 => ?_)
    replace eI70 := eI70.symm; subst eI70
    replace eL71 := eL71.symm; subst eL71
    refine x_int 1 (by decide) ?_
    refine x_if_ne 15 C 21 dX12_path_15 (by decide) (fun _ => ?_) (fun c72 => absurd c72 (by decide))
    refine x_iload_n 21 C dX12_path_21 rfl 1 rfl ?_
    refine x_callSe 22 C dX12_path_22 (As := [.int (nI k)]) (rest := []) [.int (nI (50 + 12 * k))] (t_X12_pathAt l D z n G I L k (by first | omega | assumption | decide)) mt_X12_pathAt km_X12_146 kt_X12_pathAt rfl rfl (Nat.le_of_ble_eq_true rfl) ⟨⟨by decide, by decide⟩, by decide, by decide⟩ (fun I73 L74 eI73 eL74 => ?_)
    replace eI73 := eI73.symm; subst eI73
    replace eL74 := eL74.symm; subst eL74
    refine x_istore_n 25 C [(3, .int (nI (50 + 12 * k))), (0, .ref A), (1, .int (nI k)), (2, .int (nI 8))] dX12_path_25 rfl (by decide) rfl ?_
    refine x_iload_n 26 C dX12_path_26 rfl 3 rfl ?_
    refine x_tsIn 27 C 159 dX12_path_27 (v := 8) rfl (by decide) (by decide) rfl (by decide) ?_
    refine x_aload_n 159 C dX12_path_159 rfl 1 rfl ?_
    refine x_iload_n 160 C dX12_path_160 rfl 2 rfl ?_
    refine x_iload_n 161 C dX12_path_161 rfl 3 rfl ?_
    refine x_bipush 162 C (v := 7) dX12_path_162 rfl ?_
    refine x_isub 164 C dX12_path_164 ?_
    refine x_int 1 (by decide) ?_
    refine x_callVe 165 C dX12_path_165 (As := [.int (nI k), .int 1]) (rest := []) [.int (vpt (mvO (I (A + 1)) (50 + 12 * k)) 1)] (t_X12_thousandths l D z n G I L A k 1 hM (by first | omega | assumption | decide) (by first | omega | assumption | decide) (hprs k hku)) mt_X12_thousandths km_X12_215 ki_X12_thousandths ks_X12_thousandths hM.1 ⟨by decide, rfl⟩ rfl rfl (Nat.le_of_ble_eq_true rfl) ⟨⟨by decide, by decide⟩, by decide, by decide⟩ (fun I75 L76 eI75 eL76 => ?_)
    replace eI75 := eI75.symm; subst eI75
    replace eL76 := eL76.symm; subst eL76
    refine x_iret 168 C dX12_path_168 rfl rfl (Nat.le_refl _) (xN.intro ?_)
    exact ⟨rfl, rfl, rfl⟩
  · skip
    refine x_aload_n 0 C dX12_path_0 rfl 0 rfl ?_
    refine x_iload_n 1 C dX12_path_1 rfl 1 rfl ?_
    refine x_callVe 2 C dX12_path_2 (As := [.int (nI k)]) (rest := []) [.int (bI (decide (0 ≤ (nI k)) && decide ((nI k) < nI (dx * dy))))] (t_X12_isPath l D z n G I L A dx dy (nI k) hM hdx hdy (by omega) hd3) mt_X12_isPath km_X12_195 ki_X12_isPath ks_X12_isPath hM.1 ⟨by decide, rfl⟩ rfl rfl (Nat.le_of_ble_eq_true rfl) ⟨⟨by decide, by decide⟩, by decide, by decide⟩ (fun I77 L78 eI77 eL78 => ?_)
    replace eI77 := eI77.symm; subst eI77
    replace eL78 := eL78.symm; subst eL78
    refine x_if_eq 5 C 18 dX12_path_5 (by decide) (fun c79 => absurd c79 (isP_t hku hd3)) (fun _ => ?_)
    refine x_iload_n 8 C dX12_path_8 rfl 2 rfl ?_
    refine x_iconst 9 C (v := 0) dX12_path_9 rfl ?_
    refine x_bipush 10 C (v := 11) dX12_path_10 rfl ?_
    refine x_callSe 12 C dX12_path_12 (As := [.int (nI 9), .int 0, .int 11]) (rest := []) [.int (bI (decide (0 ≤ 9) && decide (9 ≤ 11)))] (t_X12_in_n l D z n G I L 9 0 11 (by first | omega | assumption | decide) (by first | omega | assumption | decide) (by first | omega | assumption | decide)) mt_X12_in km_X12_71 kt_X12_in rfl rfl (Nat.le_of_ble_eq_true rfl) ⟨⟨by decide, by decide⟩, by decide, by decide⟩ (fun I80 L81 eI80 eL81 => ?_)
    replace eI80 := eI80.symm; subst eI80
    replace eL81 := eL81.symm; subst eL81
    refine x_int 1 (by decide) ?_
    refine x_if_ne 15 C 21 dX12_path_15 (by decide) (fun _ => ?_) (fun c82 => absurd c82 (by decide))
    refine x_iload_n 21 C dX12_path_21 rfl 1 rfl ?_
    refine x_callSe 22 C dX12_path_22 (As := [.int (nI k)]) (rest := []) [.int (nI (50 + 12 * k))] (t_X12_pathAt l D z n G I L k (by first | omega | assumption | decide)) mt_X12_pathAt km_X12_146 kt_X12_pathAt rfl rfl (Nat.le_of_ble_eq_true rfl) ⟨⟨by decide, by decide⟩, by decide, by decide⟩ (fun I83 L84 eI83 eL84 => ?_)
    replace eI83 := eI83.symm; subst eI83
    replace eL84 := eL84.symm; subst eL84
    refine x_istore_n 25 C [(3, .int (nI (50 + 12 * k))), (0, .ref A), (1, .int (nI k)), (2, .int (nI 9))] dX12_path_25 rfl (by decide) rfl ?_
    refine x_iload_n 26 C dX12_path_26 rfl 3 rfl ?_
    refine x_tsIn 27 C 159 dX12_path_27 (v := 9) rfl (by decide) (by decide) rfl (by decide) ?_
    refine x_aload_n 159 C dX12_path_159 rfl 1 rfl ?_
    refine x_iload_n 160 C dX12_path_160 rfl 2 rfl ?_
    refine x_iload_n 161 C dX12_path_161 rfl 3 rfl ?_
    refine x_bipush 162 C (v := 7) dX12_path_162 rfl ?_
    refine x_isub 164 C dX12_path_164 ?_
    refine x_int 2 (by decide) ?_
    refine x_callVe 165 C dX12_path_165 (As := [.int (nI k), .int 2]) (rest := []) [.int (vpt (mvO (I (A + 1)) (50 + 12 * k)) 2)] (t_X12_thousandths l D z n G I L A k 2 hM (by first | omega | assumption | decide) (by first | omega | assumption | decide) (hprs k hku)) mt_X12_thousandths km_X12_215 ki_X12_thousandths ks_X12_thousandths hM.1 ⟨by decide, rfl⟩ rfl rfl (Nat.le_of_ble_eq_true rfl) ⟨⟨by decide, by decide⟩, by decide, by decide⟩ (fun I85 L86 eI85 eL86 => ?_)
    replace eI85 := eI85.symm; subst eI85
    replace eL86 := eL86.symm; subst eL86
    refine x_iret 168 C dX12_path_168 rfl rfl (Nat.le_refl _) (xN.intro ?_)
    exact ⟨rfl, rfl, rfl⟩
  · skip
    refine x_aload_n 0 C dX12_path_0 rfl 0 rfl ?_
    refine x_iload_n 1 C dX12_path_1 rfl 1 rfl ?_
    refine x_callVe 2 C dX12_path_2 (As := [.int (nI k)]) (rest := []) [.int (bI (decide (0 ≤ (nI k)) && decide ((nI k) < nI (dx * dy))))] (t_X12_isPath l D z n G I L A dx dy (nI k) hM hdx hdy (by omega) hd3) mt_X12_isPath km_X12_195 ki_X12_isPath ks_X12_isPath hM.1 ⟨by decide, rfl⟩ rfl rfl (Nat.le_of_ble_eq_true rfl) ⟨⟨by decide, by decide⟩, by decide, by decide⟩ (fun I87 L88 eI87 eL88 => ?_)
    replace eI87 := eI87.symm; subst eI87
    replace eL88 := eL88.symm; subst eL88
    refine x_if_eq 5 C 18 dX12_path_5 (by decide) (fun c89 => absurd c89 (isP_t hku hd3)) (fun _ => ?_)
    refine x_iload_n 8 C dX12_path_8 rfl 2 rfl ?_
    refine x_iconst 9 C (v := 0) dX12_path_9 rfl ?_
    refine x_bipush 10 C (v := 11) dX12_path_10 rfl ?_
    refine x_callSe 12 C dX12_path_12 (As := [.int (nI 10), .int 0, .int 11]) (rest := []) [.int (bI (decide (0 ≤ 10) && decide (10 ≤ 11)))] (t_X12_in_n l D z n G I L 10 0 11 (by first | omega | assumption | decide) (by first | omega | assumption | decide) (by first | omega | assumption | decide)) mt_X12_in km_X12_71 kt_X12_in rfl rfl (Nat.le_of_ble_eq_true rfl) ⟨⟨by decide, by decide⟩, by decide, by decide⟩ (fun I90 L91 eI90 eL91 => ?_)
    replace eI90 := eI90.symm; subst eI90
    replace eL91 := eL91.symm; subst eL91
    refine x_int 1 (by decide) ?_
    refine x_if_ne 15 C 21 dX12_path_15 (by decide) (fun _ => ?_) (fun c92 => absurd c92 (by decide))
    refine x_iload_n 21 C dX12_path_21 rfl 1 rfl ?_
    refine x_callSe 22 C dX12_path_22 (As := [.int (nI k)]) (rest := []) [.int (nI (50 + 12 * k))] (t_X12_pathAt l D z n G I L k (by first | omega | assumption | decide)) mt_X12_pathAt km_X12_146 kt_X12_pathAt rfl rfl (Nat.le_of_ble_eq_true rfl) ⟨⟨by decide, by decide⟩, by decide, by decide⟩ (fun I93 L94 eI93 eL94 => ?_)
    replace eI93 := eI93.symm; subst eI93
    replace eL94 := eL94.symm; subst eL94
    refine x_istore_n 25 C [(3, .int (nI (50 + 12 * k))), (0, .ref A), (1, .int (nI k)), (2, .int (nI 10))] dX12_path_25 rfl (by decide) rfl ?_
    refine x_iload_n 26 C dX12_path_26 rfl 3 rfl ?_
    refine x_tsIn 27 C 159 dX12_path_27 (v := 10) rfl (by decide) (by decide) rfl (by decide) ?_
    refine x_aload_n 159 C dX12_path_159 rfl 1 rfl ?_
    refine x_iload_n 160 C dX12_path_160 rfl 2 rfl ?_
    refine x_iload_n 161 C dX12_path_161 rfl 3 rfl ?_
    refine x_bipush 162 C (v := 7) dX12_path_162 rfl ?_
    refine x_isub 164 C dX12_path_164 ?_
    refine x_int 3 (by decide) ?_
    refine x_callVe 165 C dX12_path_165 (As := [.int (nI k), .int 3]) (rest := []) [.int (vpt (mvO (I (A + 1)) (50 + 12 * k)) 3)] (t_X12_thousandths l D z n G I L A k 3 hM (by first | omega | assumption | decide) (by first | omega | assumption | decide) (hprs k hku)) mt_X12_thousandths km_X12_215 ki_X12_thousandths ks_X12_thousandths hM.1 ⟨by decide, rfl⟩ rfl rfl (Nat.le_of_ble_eq_true rfl) ⟨⟨by decide, by decide⟩, by decide, by decide⟩ (fun I95 L96 eI95 eL96 => ?_)
    replace eI95 := eI95.symm; subst eI95
    replace eL96 := eL96.symm; subst eL96
    refine x_iret 168 C dX12_path_168 rfl rfl (Nat.le_refl _) (xN.intro ?_)
    exact ⟨rfl, rfl, rfl⟩
set_option maxHeartbeats 1000000 in
set_option maxRecDepth 100000 in
theorem t_X12_path_11 (l : Launch) (D : xD) (z n : Nat) (G : xG) (I : xI) (L : xL) (A : Nat) (k : Nat) (dx : Nat) (dy : Nat) (Y : xSy) (hM : shMo G A) (zA : z ≤ A) (hdx : I (A + 1) 40 = nI dx) (hdy : I (A + 1) 41 = nI dy) (hd3 : dx * dy ≤ 9) (hku : k < dx * dy) (hpr : I (A + 1) (50 + 12 * k + 3) = 10 ∨ I (A + 1) (50 + 12 * k + 3) = 18) (hxp : hC (mvO (I (A + 1)) (50 + 12 * k)).2.1 = (mvO (I (A + 1)) (50 + 12 * k)).2.1) (hyp : hC (mvO (I (A + 1)) (50 + 12 * k)).2.2 = (mvO (I (A + 1)) (50 + 12 * k)).2.2) (hY : cofY I A Y) : xM0 l D z yX12_path cX12_path 4 (some .int) 6 156 [.ref A, .int (nI k), .int 11] n G I L (fun v' I' L' => v' = (some (.int (cthou (lmax (sizC (syE0 Y evV (mvO (I (A + 1)) (50 + 12 * k)).2.1 (mvO (I (A + 1)) (50 + 12 * k)).2.2 (punit (I (A + 1) (50 + 12 * k + 3))))) (sizC (syE1 Y evV (mvO (I (A + 1)) (50 + 12 * k)).2.1 (mvO (I (A + 1)) (50 + 12 * k)).2.2 (punit (I (A + 1) (50 + 12 * k + 3)))))) (punit (I (A + 1) (50 + 12 * k + 3)))))) ∧ I' = I ∧ (∀ q, (q < A ∨ A + 14 ≤ q) → L' q = L q)) := by
  refine xM.of (by decide) (Nat.le_of_ble_eq_true rfl) (fun p e s m args below meth c C hnm hsz => ?_)
  refine x_lv [(0, .ref A), (1, .int (nI k)), (2, .int 11)] rfl ?_
  have hk : k < 9 := by omega
  refine x_aload_n 0 C dX12_path_0 rfl 0 rfl ?_
  refine x_iload_n 1 C dX12_path_1 rfl 1 rfl ?_
  refine x_callVe 2 C dX12_path_2 (As := [.int (nI k)]) (rest := []) [.int (bI (decide (0 ≤ (nI k)) && decide ((nI k) < nI (dx * dy))))] (t_X12_isPath l D z n G I L A dx dy (nI k) hM hdx hdy (by omega) hd3) mt_X12_isPath km_X12_195 ki_X12_isPath ks_X12_isPath hM.1 ⟨by decide, rfl⟩ rfl rfl (Nat.le_of_ble_eq_true rfl) ⟨⟨by decide, by decide⟩, by decide, by decide⟩ (fun I1 L2 eI1 eL2 => ?_)
  replace eI1 := eI1.symm; subst eI1
  replace eL2 := eL2.symm; subst eL2
  refine x_if_eq 5 C 18 dX12_path_5 (by decide) (fun c3 => absurd c3 (isP_t hku hd3)) (fun _ => ?_)
  refine x_iload_n 8 C dX12_path_8 rfl 2 rfl ?_
  refine x_iconst 9 C (v := 0) dX12_path_9 rfl ?_
  refine x_bipush 10 C (v := 11) dX12_path_10 rfl ?_
  refine x_callSe 12 C dX12_path_12 (As := [.int 11, .int 0, .int 11]) (rest := []) [.int (bI (decide (0 ≤ 11) && decide (11 ≤ 11)))] (t_X12_in_n l D z n G I L 11 0 11 (by first | omega | assumption | decide) (by first | omega | assumption | decide) (by first | omega | assumption | decide)) mt_X12_in km_X12_71 kt_X12_in rfl rfl (Nat.le_of_ble_eq_true rfl) ⟨⟨by decide, by decide⟩, by decide, by decide⟩ (fun I4 L5 eI4 eL5 => ?_)
  replace eI4 := eI4.symm; subst eI4
  replace eL5 := eL5.symm; subst eL5
  refine x_int 1 (by decide) ?_
  refine x_if_ne 15 C 21 dX12_path_15 (by decide) (fun _ => ?_) (fun c6 => absurd c6 (by decide))
  refine x_iload_n 21 C dX12_path_21 rfl 1 rfl ?_
  refine x_callSe 22 C dX12_path_22 (As := [.int (nI k)]) (rest := []) [.int (nI (50 + 12 * k))] (t_X12_pathAt l D z n G I L k (by first | omega | assumption | decide)) mt_X12_pathAt km_X12_146 kt_X12_pathAt rfl rfl (Nat.le_of_ble_eq_true rfl) ⟨⟨by decide, by decide⟩, by decide, by decide⟩ (fun I7 L8 eI7 eL8 => ?_)
  replace eI7 := eI7.symm; subst eI7
  replace eL8 := eL8.symm; subst eL8
  refine x_istore_n 25 C [(3, .int (nI (50 + 12 * k))), (0, .ref A), (1, .int (nI k)), (2, .int 11)] dX12_path_25 rfl (by decide) rfl ?_
  refine x_iload_n 26 C dX12_path_26 rfl 3 rfl ?_
  refine x_tsIn 27 C 153 dX12_path_27 (v := 11) rfl (by decide) (by decide) rfl (by decide) ?_
  refine x_aload_n 153 C dX12_path_153 rfl 1 rfl ?_
  refine x_iload_n 154 C dX12_path_154 rfl 2 rfl ?_
  refine x_callVp 155 C dX12_path_155 (As := [.int (nI k)]) (rest := []) (t_X12_residue l D z n G I L A k Y hM (by omega) (by first | omega | assumption | decide) (by first | omega | assumption | decide) (by first | assumption | omega | decide) (by first | assumption | omega | decide) (by first | assumption | omega | decide)) mt_X12_residue km_X12_212 ki_X12_residue ks_X12_residue hM.1 ⟨by decide, rfl⟩ rfl (Nat.le_of_ble_eq_true rfl) ⟨⟨by decide, by decide⟩, by decide, by decide⟩ (fun w9 I10 L11 hw9 => ?_)
  obtain ⟨hw9v, eI10, hw9r0⟩ := hw9
  subst hw9v
  refine x_st [.int (cthou (lmax (sizC (syE0 Y evV (mvO (I (A + 1)) (50 + 12 * k)).2.1 (mvO (I (A + 1)) (50 + 12 * k)).2.2 (punit (I (A + 1) (50 + 12 * k + 3))))) (sizC (syE1 Y evV (mvO (I (A + 1)) (50 + 12 * k)).2.1 (mvO (I (A + 1)) (50 + 12 * k)).2.2 (punit (I (A + 1) (50 + 12 * k + 3)))))) (punit (I (A + 1) (50 + 12 * k + 3))))] rfl ?_
  replace eI10 := eI10.symm; subst eI10
  refine x_iret 158 C dX12_path_158 rfl rfl (Nat.le_refl _) (xN.intro ?_)
  exact ⟨rfl, rfl, hw9r0⟩
set_option maxHeartbeats 1000000 in
set_option maxRecDepth 100000 in
theorem t_X12_path_bad (l : Launch) (D : xD) (z n : Nat) (G : xG) (I : xI) (L : xL) (A : Nat) (x : Int32) (w : Int32) (dx : Nat) (dy : Nat) (hM : shMo G A) (hdx : I (A + 1) 40 = nI dx) (hdy : I (A + 1) 41 = nI dy) (hd3 : dx * dy ≤ 9) (h1U : 1 ≤ dx * dy) (hbad : (decide (0 ≤ x) && decide (x < nI (dx * dy))) = false ∨ ¬ (0 ≤ w ∧ w ≤ 11)) : xM0 l D z yX12_path cX12_path 4 (some .int) 6 156 [.ref A, .int x, .int w] n G I L (xE (some (.int (-2000000001))) I L) := by
  refine xM.of (by decide) (Nat.le_of_ble_eq_true rfl) (fun p e s m args below meth c C hnm hsz => ?_)
  refine x_lv [(0, .ref A), (1, .int x), (2, .int w)] rfl ?_
  refine x_aload_n 0 C dX12_path_0 rfl 0 rfl ?_
  refine x_iload_n 1 C dX12_path_1 rfl 1 rfl ?_
  refine x_callVe 2 C dX12_path_2 (As := [.int x]) (rest := []) [.int (bI (decide (0 ≤ x) && decide (x < nI (dx * dy))))] (t_X12_isPath l D z n G I L A dx dy x hM hdx hdy (by omega) hd3) mt_X12_isPath km_X12_195 ki_X12_isPath ks_X12_isPath hM.1 ⟨by decide, rfl⟩ rfl rfl (Nat.le_of_ble_eq_true rfl) ⟨⟨by decide, by decide⟩, by decide, by decide⟩ (fun I1 L2 eI1 eL2 => ?_)
  replace eI1 := eI1.symm; subst eI1
  replace eL2 := eL2.symm; subst eL2
  refine x_if_eq 5 C 18 dX12_path_5 (by decide) (fun c3 => ?_) (fun c3 => ?_)
  · skip
    refine x_ldc 18 C (-2000000001) dX12_path_18 kk_X12_198 ?_
    refine x_iret 20 C dX12_path_20 rfl rfl (Nat.le_refl _) (xN.intro ?_)
    exact ⟨rfl, rfl, rfl⟩
  · skip
    have hg1 := bI_n0.mp c3
    refine x_iload_n 8 C dX12_path_8 rfl 2 rfl ?_
    refine x_iconst 9 C (v := 0) dX12_path_9 rfl ?_
    refine x_bipush 10 C (v := 11) dX12_path_10 rfl ?_
    refine x_callSe 12 C dX12_path_12 (As := [.int w, .int 0, .int 11]) (rest := []) [.int (bI (decide (0 ≤ w) && decide (w ≤ 11)))] (t_X12_in l D z n G I L w 0 11 ) mt_X12_in km_X12_71 kt_X12_in rfl rfl (Nat.le_of_ble_eq_true rfl) ⟨⟨by decide, by decide⟩, by decide, by decide⟩ (fun I4 L5 eI4 eL5 => ?_)
    replace eI4 := eI4.symm; subst eI4
    replace eL5 := eL5.symm; subst eL5
    refine x_if_ne 15 C 21 dX12_path_15 (by decide) (fun c6 => ?_) (fun c6 => ?_)
    · skip
      exact hbad.elim (fun h => absurd (hg1.symm.trans h) (by decide)) (fun h => absurd (in_b.mpr h) c6)
    · skip
      refine x_ldc 18 C (-2000000001) dX12_path_18 kk_X12_198 ?_
      refine x_iret 20 C dX12_path_20 rfl rfl (Nat.le_refl _) (xN.intro ?_)
      exact ⟨rfl, rfl, rfl⟩
theorem dX12_coefficient_0 : decode cX12_coefficient 0 = .ok (.iload_n 1, 1) := by decide +kernel
theorem dX12_coefficient_1 : decode cX12_coefficient 1 = .ok (.iconst 0, 1) := by decide +kernel
theorem dX12_coefficient_2 : decode cX12_coefficient 2 = .ok (.iconst 1, 1) := by decide +kernel
theorem dX12_coefficient_3 : decode cX12_coefficient 3 = .ok (.invokestatic 71, 3) := by decide +kernel
theorem dX12_coefficient_6 : decode cX12_coefficient 6 = .ok (.ifCond .eq 33, 3) := by decide +kernel
theorem dX12_coefficient_9 : decode cX12_coefficient 9 = .ok (.iload_n 2, 1) := by decide +kernel
theorem dX12_coefficient_10 : decode cX12_coefficient 10 = .ok (.iconst 0, 1) := by decide +kernel
theorem dX12_coefficient_11 : decode cX12_coefficient 11 = .ok (.iconst 3, 1) := by decide +kernel
theorem dX12_coefficient_12 : decode cX12_coefficient 12 = .ok (.invokestatic 71, 3) := by decide +kernel
theorem dX12_coefficient_15 : decode cX12_coefficient 15 = .ok (.ifCond .eq 24, 3) := by decide +kernel
theorem dX12_coefficient_18 : decode cX12_coefficient 18 = .ok (.iload_n 3, 1) := by decide +kernel
theorem dX12_coefficient_19 : decode cX12_coefficient 19 = .ok (.iconst 0, 1) := by decide +kernel
theorem dX12_coefficient_20 : decode cX12_coefficient 20 = .ok (.iconst 3, 1) := by decide +kernel
theorem dX12_coefficient_21 : decode cX12_coefficient 21 = .ok (.iload_n 2, 1) := by decide +kernel
theorem dX12_coefficient_22 : decode cX12_coefficient 22 = .ok (.isub, 1) := by decide +kernel
theorem dX12_coefficient_23 : decode cX12_coefficient 23 = .ok (.invokestatic 71, 3) := by decide +kernel
theorem dX12_coefficient_26 : decode cX12_coefficient 26 = .ok (.ifCond .eq 13, 3) := by decide +kernel
theorem dX12_coefficient_29 : decode cX12_coefficient 29 = .ok (.iload 4, 2) := by decide +kernel
theorem dX12_coefficient_31 : decode cX12_coefficient 31 = .ok (.iconst 0, 1) := by decide +kernel
theorem dX12_coefficient_32 : decode cX12_coefficient 32 = .ok (.iconst 1, 1) := by decide +kernel
theorem dX12_coefficient_33 : decode cX12_coefficient 33 = .ok (.invokestatic 71, 3) := by decide +kernel
theorem dX12_coefficient_36 : decode cX12_coefficient 36 = .ok (.ifCond .ne 6, 3) := by decide +kernel
theorem dX12_coefficient_39 : decode cX12_coefficient 39 = .ok (.ldc 198, 2) := by decide +kernel
theorem dX12_coefficient_41 : decode cX12_coefficient 41 = .ok (.ireturn, 1) := by decide +kernel
theorem dX12_coefficient_42 : decode cX12_coefficient 42 = .ok (.aload_n 0, 1) := by decide +kernel
theorem dX12_coefficient_43 : decode cX12_coefficient 43 = .ok (.getfield 7, 3) := by decide +kernel
theorem dX12_coefficient_46 : decode cX12_coefficient 46 = .ok (.iload_n 1, 1) := by decide +kernel
theorem dX12_coefficient_47 : decode cX12_coefficient 47 = .ok (.iload_n 2, 1) := by decide +kernel
theorem dX12_coefficient_48 : decode cX12_coefficient 48 = .ok (.iload_n 3, 1) := by decide +kernel
theorem dX12_coefficient_49 : decode cX12_coefficient 49 = .ok (.invokestatic 60, 3) := by decide +kernel
theorem dX12_coefficient_52 : decode cX12_coefficient 52 = .ok (.iload 4, 2) := by decide +kernel
theorem dX12_coefficient_54 : decode cX12_coefficient 54 = .ok (.iadd, 1) := by decide +kernel
theorem dX12_coefficient_55 : decode cX12_coefficient 55 = .ok (.iaload, 1) := by decide +kernel
theorem dX12_coefficient_56 : decode cX12_coefficient 56 = .ok (.ireturn, 1) := by decide +kernel
set_option maxHeartbeats 1000000 in
set_option maxRecDepth 100000 in
theorem t_X12_coefficient (l : Launch) (D : xD) (z n : Nat) (G : xG) (I : xI) (L : xL) (A : Nat) (b : Nat) (i : Nat) (j : Nat) (q : Nat) (hM : shMo G A) (hb : b < 2) (hij : i + j ≤ 3) (hq : q < 2) : xM0 l D z yX12_coefficient cX12_coefficient 5 (some .int) 1 23 [.ref A, .int (nI b), .int (nI i), .int (nI j), .int (nI q)] n G I L (xE (some (.int (I (A + 1) (20 * b + 2 * tm i j + q)))) I L) := by
  refine xM.of (by decide) (Nat.le_of_ble_eq_true rfl) (fun p e s m args below meth c C hnm hsz => ?_)
  refine x_lv [(0, .ref A), (1, .int (nI b)), (2, .int (nI i)), (3, .int (nI j)), (4, .int (nI q))] rfl ?_
  have htm := tm_lt hij
  refine x_iload_n 0 C dX12_coefficient_0 rfl 1 rfl ?_
  refine x_iconst 1 C (v := 0) dX12_coefficient_1 rfl ?_
  refine x_iconst 2 C (v := 1) dX12_coefficient_2 rfl ?_
  refine x_callSe 3 C dX12_coefficient_3 (As := [.int (nI b), .int 0, .int 1]) (rest := []) [.int (bI (decide (0 ≤ b) && decide (b ≤ 1)))] (t_X12_in_n l D z n G I L b 0 1 (by first | omega | assumption | decide) (by first | omega | assumption | decide) (by first | omega | assumption | decide)) mt_X12_in km_X12_71 kt_X12_in rfl rfl (Nat.le_of_ble_eq_true rfl) ⟨⟨by decide, by decide⟩, by decide, by decide⟩ (fun I1 L2 eI1 eL2 => ?_)
  replace eI1 := eI1.symm; subst eI1
  replace eL2 := eL2.symm; subst eL2
  refine x_int 1 (by simp [bI]; omega) ?_
  refine x_if_eq 6 C 39 dX12_coefficient_6 (by decide) (fun c3 => absurd c3 (by decide)) (fun _ => ?_)
  refine x_iload_n 9 C dX12_coefficient_9 rfl 2 rfl ?_
  refine x_iconst 10 C (v := 0) dX12_coefficient_10 rfl ?_
  refine x_iconst 11 C (v := 3) dX12_coefficient_11 rfl ?_
  refine x_callSe 12 C dX12_coefficient_12 (As := [.int (nI i), .int 0, .int 3]) (rest := []) [.int (bI (decide (0 ≤ i) && decide (i ≤ 3)))] (t_X12_in_n l D z n G I L i 0 3 (by first | omega | assumption | decide) (by first | omega | assumption | decide) (by first | omega | assumption | decide)) mt_X12_in km_X12_71 kt_X12_in rfl rfl (Nat.le_of_ble_eq_true rfl) ⟨⟨by decide, by decide⟩, by decide, by decide⟩ (fun I4 L5 eI4 eL5 => ?_)
  replace eI4 := eI4.symm; subst eI4
  replace eL5 := eL5.symm; subst eL5
  refine x_int 1 (by simp [bI]; omega) ?_
  refine x_if_eq 15 C 39 dX12_coefficient_15 (by decide) (fun c6 => absurd c6 (by decide)) (fun _ => ?_)
  refine x_iload_n 18 C dX12_coefficient_18 rfl 3 rfl ?_
  refine x_iconst 19 C (v := 0) dX12_coefficient_19 rfl ?_
  refine x_iconst 20 C (v := 3) dX12_coefficient_20 rfl ?_
  refine x_iload_n 21 C dX12_coefficient_21 rfl 2 rfl ?_
  refine x_isub 22 C dX12_coefficient_22 ?_
  refine x_int (nI (3 - i)) (nI_sub (a := 3) (b := i) (by omega)) ?_
  refine x_callSe 23 C dX12_coefficient_23 (As := [.int (nI j), .int 0, .int (nI (3 - i))]) (rest := []) [.int (bI (decide (0 ≤ j) && decide (j ≤ (3 - i))))] (t_X12_in_n l D z n G I L j 0 (3 - i) (by first | omega | assumption | decide) (by first | omega | assumption | decide) (by first | omega | assumption | decide)) mt_X12_in km_X12_71 kt_X12_in rfl rfl (Nat.le_of_ble_eq_true rfl) ⟨⟨by decide, by decide⟩, by decide, by decide⟩ (fun I7 L8 eI7 eL8 => ?_)
  replace eI7 := eI7.symm; subst eI7
  replace eL8 := eL8.symm; subst eL8
  refine x_int 1 (by simp [bI]; omega) ?_
  refine x_if_eq 26 C 39 dX12_coefficient_26 (by decide) (fun c9 => absurd c9 (by decide)) (fun _ => ?_)
  refine x_iload 29 C dX12_coefficient_29 4 rfl ?_
  refine x_iconst 31 C (v := 0) dX12_coefficient_31 rfl ?_
  refine x_iconst 32 C (v := 1) dX12_coefficient_32 rfl ?_
  refine x_callSe 33 C dX12_coefficient_33 (As := [.int (nI q), .int 0, .int 1]) (rest := []) [.int (bI (decide (0 ≤ q) && decide (q ≤ 1)))] (t_X12_in_n l D z n G I L q 0 1 (by first | omega | assumption | decide) (by first | omega | assumption | decide) (by first | omega | assumption | decide)) mt_X12_in km_X12_71 kt_X12_in rfl rfl (Nat.le_of_ble_eq_true rfl) ⟨⟨by decide, by decide⟩, by decide, by decide⟩ (fun I10 L11 eI10 eL11 => ?_)
  replace eI10 := eI10.symm; subst eI10
  replace eL11 := eL11.symm; subst eL11
  refine x_int 1 (by simp [bI]; omega) ?_
  refine x_if_ne 36 C 42 dX12_coefficient_36 (by decide) (fun _ => ?_) (fun c12 => absurd c12 (by decide))
  refine x_aload_n 42 C dX12_coefficient_42 rfl 0 rfl ?_
  refine x_getr 43 C (b := A + 1) dX12_coefficient_43 ff_X12_7 rfl hM.1 rfl ?_
  refine x_iload_n 46 C dX12_coefficient_46 rfl 1 rfl ?_
  refine x_iload_n 47 C dX12_coefficient_47 rfl 2 rfl ?_
  refine x_iload_n 48 C dX12_coefficient_48 rfl 3 rfl ?_
  refine x_callSe 49 C dX12_coefficient_49 (As := [.int (nI b), .int (nI i), .int (nI j)]) (rest := [.ref (A + 1)]) [.int (nI (20 * b + 2 * tm i j)), .ref (A + 1)] (t_X12_termOf l D z n G I L b i j (by first | omega | assumption | decide) (by first | omega | assumption | decide)) mt_X12_termOf km_X12_60 kt_X12_termOf rfl rfl (Nat.le_of_ble_eq_true rfl) ⟨⟨by decide, by decide⟩, by decide, by decide⟩ (fun I13 L14 eI13 eL14 => ?_)
  replace eI13 := eI13.symm; subst eI13
  replace eL14 := eL14.symm; subst eL14
  refine x_iload 52 C dX12_coefficient_52 4 rfl ?_
  refine x_iadd 54 C dX12_coefficient_54 ?_
  refine x_int (nI (20 * b + 2 * tm i j + q)) (nI_add (20 * b + 2 * tm i j) q) ?_
  refine x_iald 55 C (j := (20 * b + 2 * tm i j + q)) dX12_coefficient_55 hM.2.1 (xIx_nI (by omega) (by decide)) ?_
  refine x_iret 56 C dX12_coefficient_56 rfl rfl (Nat.le_refl _) (xN.intro ?_)
  exact ⟨rfl, rfl, rfl⟩
set_option maxHeartbeats 1000000 in
set_option maxRecDepth 100000 in
theorem t_X12_coefficient_bad (l : Launch) (D : xD) (z n : Nat) (G : xG) (I : xI) (L : xL) (A : Nat) (x : Int32) (i : Int32) (j : Int32) (q : Int32) (hM : shMo G A) (hbad : ¬ (0 ≤ x ∧ x ≤ 1 ∧ 0 ≤ q ∧ q ≤ 1 ∧ 0 ≤ i ∧ i ≤ 3 ∧ 0 ≤ j ∧ j ≤ 3 - i)) : xM0 l D z yX12_coefficient cX12_coefficient 5 (some .int) 1 23 [.ref A, .int x, .int i, .int j, .int q] n G I L (xE (some (.int (-2000000001))) I L) := by
  refine xM.of (by decide) (Nat.le_of_ble_eq_true rfl) (fun p e s m args below meth c C hnm hsz => ?_)
  refine x_lv [(0, .ref A), (1, .int x), (2, .int i), (3, .int j), (4, .int q)] rfl ?_
  refine x_iload_n 0 C dX12_coefficient_0 rfl 1 rfl ?_
  refine x_iconst 1 C (v := 0) dX12_coefficient_1 rfl ?_
  refine x_iconst 2 C (v := 1) dX12_coefficient_2 rfl ?_
  refine x_callSe 3 C dX12_coefficient_3 (As := [.int x, .int 0, .int 1]) (rest := []) [.int (bI (decide (0 ≤ x) && decide (x ≤ 1)))] (t_X12_in l D z n G I L x 0 1 ) mt_X12_in km_X12_71 kt_X12_in rfl rfl (Nat.le_of_ble_eq_true rfl) ⟨⟨by decide, by decide⟩, by decide, by decide⟩ (fun I1 L2 eI1 eL2 => ?_)
  replace eI1 := eI1.symm; subst eI1
  replace eL2 := eL2.symm; subst eL2
  refine x_if_eq 6 C 39 dX12_coefficient_6 (by decide) (fun c3 => ?_) (fun c3 => ?_)
  · skip
    refine x_ldc 39 C (-2000000001) dX12_coefficient_39 kk_X12_198 ?_
    refine x_iret 41 C dX12_coefficient_41 rfl rfl (Nat.le_refl _) (xN.intro ?_)
    exact ⟨rfl, rfl, rfl⟩
  · skip
    have hg6 := Decidable.not_not.mp (fun h => c3 (in_b.mpr h))
    refine x_iload_n 9 C dX12_coefficient_9 rfl 2 rfl ?_
    refine x_iconst 10 C (v := 0) dX12_coefficient_10 rfl ?_
    refine x_iconst 11 C (v := 3) dX12_coefficient_11 rfl ?_
    refine x_callSe 12 C dX12_coefficient_12 (As := [.int i, .int 0, .int 3]) (rest := []) [.int (bI (decide (0 ≤ i) && decide (i ≤ 3)))] (t_X12_in l D z n G I L i 0 3 ) mt_X12_in km_X12_71 kt_X12_in rfl rfl (Nat.le_of_ble_eq_true rfl) ⟨⟨by decide, by decide⟩, by decide, by decide⟩ (fun I4 L5 eI4 eL5 => ?_)
    replace eI4 := eI4.symm; subst eI4
    replace eL5 := eL5.symm; subst eL5
    refine x_if_eq 15 C 39 dX12_coefficient_15 (by decide) (fun c6 => ?_) (fun c6 => ?_)
    · skip
      refine x_ldc 39 C (-2000000001) dX12_coefficient_39 kk_X12_198 ?_
      refine x_iret 41 C dX12_coefficient_41 rfl rfl (Nat.le_refl _) (xN.intro ?_)
      exact ⟨rfl, rfl, rfl⟩
    · skip
      have hg15 := Decidable.not_not.mp (fun h => c6 (in_b.mpr h))
      refine x_iload_n 18 C dX12_coefficient_18 rfl 3 rfl ?_
      refine x_iconst 19 C (v := 0) dX12_coefficient_19 rfl ?_
      refine x_iconst 20 C (v := 3) dX12_coefficient_20 rfl ?_
      refine x_iload_n 21 C dX12_coefficient_21 rfl 2 rfl ?_
      refine x_isub 22 C dX12_coefficient_22 ?_
      refine x_callSe 23 C dX12_coefficient_23 (As := [.int j, .int 0, .int (3 - i)]) (rest := []) [.int (bI (decide (0 ≤ j) && decide (j ≤ (3 - i))))] (t_X12_in l D z n G I L j 0 (3 - i) ) mt_X12_in km_X12_71 kt_X12_in rfl rfl (Nat.le_of_ble_eq_true rfl) ⟨⟨by decide, by decide⟩, by decide, by decide⟩ (fun I7 L8 eI7 eL8 => ?_)
      replace eI7 := eI7.symm; subst eI7
      replace eL8 := eL8.symm; subst eL8
      refine x_if_eq 26 C 39 dX12_coefficient_26 (by decide) (fun c9 => ?_) (fun c9 => ?_)
      · skip
        refine x_ldc 39 C (-2000000001) dX12_coefficient_39 kk_X12_198 ?_
        refine x_iret 41 C dX12_coefficient_41 rfl rfl (Nat.le_refl _) (xN.intro ?_)
        exact ⟨rfl, rfl, rfl⟩
      · skip
        have hg26 := Decidable.not_not.mp (fun h => c9 (in_b.mpr h))
        refine x_iload 29 C dX12_coefficient_29 4 rfl ?_
        refine x_iconst 31 C (v := 0) dX12_coefficient_31 rfl ?_
        refine x_iconst 32 C (v := 1) dX12_coefficient_32 rfl ?_
        refine x_callSe 33 C dX12_coefficient_33 (As := [.int q, .int 0, .int 1]) (rest := []) [.int (bI (decide (0 ≤ q) && decide (q ≤ 1)))] (t_X12_in l D z n G I L q 0 1 ) mt_X12_in km_X12_71 kt_X12_in rfl rfl (Nat.le_of_ble_eq_true rfl) ⟨⟨by decide, by decide⟩, by decide, by decide⟩ (fun I10 L11 eI10 eL11 => ?_)
        replace eI10 := eI10.symm; subst eI10
        replace eL11 := eL11.symm; subst eL11
        refine x_if_ne 36 C 42 dX12_coefficient_36 (by decide) (fun c12 => ?_) (fun c12 => ?_)
        · skip
          have hg36 := Decidable.not_not.mp (fun h => c12 (in_b.mpr h))
          exact absurd ⟨hg6.1, hg6.2, hg36.1, hg36.2, hg15.1, hg15.2, hg26.1, hg26.2⟩ hbad
        · skip
          refine x_ldc 39 C (-2000000001) dX12_coefficient_39 kk_X12_198 ?_
          refine x_iret 41 C dX12_coefficient_41 rfl rfl (Nat.le_refl _) (xN.intro ?_)
          exact ⟨rfl, rfl, rfl⟩
