/-! The Model: set, equation -/
theorem lt8_7 {x : Int32} : x < 8 ↔ x ≤ 7 := by
  have e2 : (8 : Int32).toInt = 8 := by decide
  have e1 : (7 : Int32).toInt = 7 := by decide
  rw [Int32.lt_iff_toInt_lt, Int32.le_iff_toInt_le, e2, e1]; omega
theorem dX12_least_0 : decode cX12_least 0 = .ok (.iload_n 0, 1) := by decide +kernel
theorem dX12_least_1 : decode cX12_least 1 = .ok (.bipush 6, 2) := by decide +kernel
theorem dX12_least_3 : decode cX12_least 3 = .ok (.if_icmp .lt 8, 3) := by decide +kernel
theorem dX12_least_6 : decode cX12_least 6 = .ok (.bipush (-16), 2) := by decide +kernel
theorem dX12_least_8 : decode cX12_least 8 = .ok (.goto 22, 3) := by decide +kernel
theorem dX12_least_11 : decode cX12_least 11 = .ok (.iload_n 0, 1) := by decide +kernel
theorem dX12_least_12 : decode cX12_least 12 = .ok (.iconst 5, 1) := by decide +kernel
theorem dX12_least_13 : decode cX12_least 13 = .ok (.if_icmp .ne 7, 3) := by decide +kernel
theorem dX12_least_16 : decode cX12_least 16 = .ok (.iconst 0, 1) := by decide +kernel
theorem dX12_least_17 : decode cX12_least 17 = .ok (.goto 13, 3) := by decide +kernel
theorem dX12_least_20 : decode cX12_least 20 = .ok (.iload_n 0, 1) := by decide +kernel
theorem dX12_least_21 : decode cX12_least 21 = .ok (.iconst 4, 1) := by decide +kernel
theorem dX12_least_22 : decode cX12_least 22 = .ok (.if_icmp .ne 7, 3) := by decide +kernel
theorem dX12_least_25 : decode cX12_least 25 = .ok (.iconst 2, 1) := by decide +kernel
theorem dX12_least_26 : decode cX12_least 26 = .ok (.goto 4, 3) := by decide +kernel
theorem dX12_least_29 : decode cX12_least 29 = .ok (.iconst 1, 1) := by decide +kernel
theorem dX12_least_30 : decode cX12_least 30 = .ok (.ireturn, 1) := by decide +kernel
set_option maxHeartbeats 1000000 in
set_option maxRecDepth 100000 in
theorem t_X12_least (l : Launch) (D : xD) (z n : Nat) (G : xG) (I : xI) (L : xL) (w : Nat) (hw : w < 8) : xM0 l D z yX12_least cX12_least 1 (some .int) 0 0 [.int (nI w)] n G I L (xE (some (.int (xLv w))) I L) := by
  refine xM.of (by decide) (Nat.le_of_ble_eq_true rfl) (fun p e s m args below meth c C hnm hsz => ?_)
  refine x_lv [(0, .int (nI w))] rfl ?_
  rcases (show w = 0 ∨ w = 1 ∨ w = 2 ∨ w = 3 ∨ w = 4 ∨ w = 5 ∨ w = 6 ∨ w = 7 by omega) with rfl | rfl | rfl | rfl | rfl | rfl | rfl | rfl
  · skip
    refine x_iload_n 0 C dX12_least_0 rfl 0 rfl ?_
    refine x_bipush 1 C (v := 6) dX12_least_1 rfl ?_
    refine x_icmp_lt 3 C 11 dX12_least_3 (by decide) (fun _ => ?_) (fun c1 => absurd (by decide) c1)
    refine x_iload_n 11 C dX12_least_11 rfl 0 rfl ?_
    refine x_iconst 12 C (v := 5) dX12_least_12 rfl ?_
    refine x_icmp_ne 13 C 20 dX12_least_13 (by decide) (fun _ => ?_) (fun c2 => absurd c2 (by decide))
    refine x_iload_n 20 C dX12_least_20 rfl 0 rfl ?_
    refine x_iconst 21 C (v := 4) dX12_least_21 rfl ?_
    refine x_icmp_ne 22 C 29 dX12_least_22 (by decide) (fun _ => ?_) (fun c3 => absurd c3 (by decide))
    refine x_iconst 29 C (v := 1) dX12_least_29 rfl ?_
    refine x_iret 30 C dX12_least_30 rfl rfl (Nat.le_refl _) (xN.intro ?_)
    exact ⟨rfl, rfl, rfl⟩
  · skip
    refine x_iload_n 0 C dX12_least_0 rfl 0 rfl ?_
    refine x_bipush 1 C (v := 6) dX12_least_1 rfl ?_
    refine x_icmp_lt 3 C 11 dX12_least_3 (by decide) (fun _ => ?_) (fun c4 => absurd (by decide) c4)
    refine x_iload_n 11 C dX12_least_11 rfl 0 rfl ?_
    refine x_iconst 12 C (v := 5) dX12_least_12 rfl ?_
    refine x_icmp_ne 13 C 20 dX12_least_13 (by decide) (fun _ => ?_) (fun c5 => absurd c5 (by decide))
    refine x_iload_n 20 C dX12_least_20 rfl 0 rfl ?_
    refine x_iconst 21 C (v := 4) dX12_least_21 rfl ?_
    refine x_icmp_ne 22 C 29 dX12_least_22 (by decide) (fun _ => ?_) (fun c6 => absurd c6 (by decide))
    refine x_iconst 29 C (v := 1) dX12_least_29 rfl ?_
    refine x_iret 30 C dX12_least_30 rfl rfl (Nat.le_refl _) (xN.intro ?_)
    exact ⟨rfl, rfl, rfl⟩
  · skip
    refine x_iload_n 0 C dX12_least_0 rfl 0 rfl ?_
    refine x_bipush 1 C (v := 6) dX12_least_1 rfl ?_
    refine x_icmp_lt 3 C 11 dX12_least_3 (by decide) (fun _ => ?_) (fun c7 => absurd (by decide) c7)
    refine x_iload_n 11 C dX12_least_11 rfl 0 rfl ?_
    refine x_iconst 12 C (v := 5) dX12_least_12 rfl ?_
    refine x_icmp_ne 13 C 20 dX12_least_13 (by decide) (fun _ => ?_) (fun c8 => absurd c8 (by decide))
    refine x_iload_n 20 C dX12_least_20 rfl 0 rfl ?_
    refine x_iconst 21 C (v := 4) dX12_least_21 rfl ?_
    refine x_icmp_ne 22 C 29 dX12_least_22 (by decide) (fun _ => ?_) (fun c9 => absurd c9 (by decide))
    refine x_iconst 29 C (v := 1) dX12_least_29 rfl ?_
    refine x_iret 30 C dX12_least_30 rfl rfl (Nat.le_refl _) (xN.intro ?_)
    exact ⟨rfl, rfl, rfl⟩
  · skip
    refine x_iload_n 0 C dX12_least_0 rfl 0 rfl ?_
    refine x_bipush 1 C (v := 6) dX12_least_1 rfl ?_
    refine x_icmp_lt 3 C 11 dX12_least_3 (by decide) (fun _ => ?_) (fun c10 => absurd (by decide) c10)
    refine x_iload_n 11 C dX12_least_11 rfl 0 rfl ?_
    refine x_iconst 12 C (v := 5) dX12_least_12 rfl ?_
    refine x_icmp_ne 13 C 20 dX12_least_13 (by decide) (fun _ => ?_) (fun c11 => absurd c11 (by decide))
    refine x_iload_n 20 C dX12_least_20 rfl 0 rfl ?_
    refine x_iconst 21 C (v := 4) dX12_least_21 rfl ?_
    refine x_icmp_ne 22 C 29 dX12_least_22 (by decide) (fun _ => ?_) (fun c12 => absurd c12 (by decide))
    refine x_iconst 29 C (v := 1) dX12_least_29 rfl ?_
    refine x_iret 30 C dX12_least_30 rfl rfl (Nat.le_refl _) (xN.intro ?_)
    exact ⟨rfl, rfl, rfl⟩
  · skip
    refine x_iload_n 0 C dX12_least_0 rfl 0 rfl ?_
    refine x_bipush 1 C (v := 6) dX12_least_1 rfl ?_
    refine x_icmp_lt 3 C 11 dX12_least_3 (by decide) (fun _ => ?_) (fun c13 => absurd (by decide) c13)
    refine x_iload_n 11 C dX12_least_11 rfl 0 rfl ?_
    refine x_iconst 12 C (v := 5) dX12_least_12 rfl ?_
    refine x_icmp_ne 13 C 20 dX12_least_13 (by decide) (fun _ => ?_) (fun c14 => absurd c14 (by decide))
    refine x_iload_n 20 C dX12_least_20 rfl 0 rfl ?_
    refine x_iconst 21 C (v := 4) dX12_least_21 rfl ?_
    refine x_icmp_ne 22 C 29 dX12_least_22 (by decide) (fun c15 => absurd (by decide) c15) (fun _ => ?_)
    refine x_iconst 25 C (v := 2) dX12_least_25 rfl ?_
    refine x_goto 26 C 30 dX12_least_26 (by decide) ?_
    refine x_iret 30 C dX12_least_30 rfl rfl (Nat.le_refl _) (xN.intro ?_)
    exact ⟨rfl, rfl, rfl⟩
  · skip
    refine x_iload_n 0 C dX12_least_0 rfl 0 rfl ?_
    refine x_bipush 1 C (v := 6) dX12_least_1 rfl ?_
    refine x_icmp_lt 3 C 11 dX12_least_3 (by decide) (fun _ => ?_) (fun c16 => absurd (by decide) c16)
    refine x_iload_n 11 C dX12_least_11 rfl 0 rfl ?_
    refine x_iconst 12 C (v := 5) dX12_least_12 rfl ?_
    refine x_icmp_ne 13 C 20 dX12_least_13 (by decide) (fun c17 => absurd (by decide) c17) (fun _ => ?_)
    refine x_iconst 16 C (v := 0) dX12_least_16 rfl ?_
    refine x_goto 17 C 30 dX12_least_17 (by decide) ?_
    refine x_iret 30 C dX12_least_30 rfl rfl (Nat.le_refl _) (xN.intro ?_)
    exact ⟨rfl, rfl, rfl⟩
  · skip
    refine x_iload_n 0 C dX12_least_0 rfl 0 rfl ?_
    refine x_bipush 1 C (v := 6) dX12_least_1 rfl ?_
    refine x_icmp_lt 3 C 11 dX12_least_3 (by decide) (fun c18 => absurd c18 (by decide)) (fun _ => ?_)
    refine x_bipush 6 C (v := (-16)) dX12_least_6 rfl ?_
    refine x_goto 8 C 30 dX12_least_8 (by decide) ?_
    refine x_iret 30 C dX12_least_30 rfl rfl (Nat.le_refl _) (xN.intro ?_)
    exact ⟨rfl, rfl, rfl⟩
  · skip
    refine x_iload_n 0 C dX12_least_0 rfl 0 rfl ?_
    refine x_bipush 1 C (v := 6) dX12_least_1 rfl ?_
    refine x_icmp_lt 3 C 11 dX12_least_3 (by decide) (fun c19 => absurd c19 (by decide)) (fun _ => ?_)
    refine x_bipush 6 C (v := (-16)) dX12_least_6 rfl ?_
    refine x_goto 8 C 30 dX12_least_8 (by decide) ?_
    refine x_iret 30 C dX12_least_30 rfl rfl (Nat.le_refl _) (xN.intro ?_)
    exact ⟨rfl, rfl, rfl⟩
theorem dX12_most_0 : decode cX12_most 0 = .ok (.iload_n 0, 1) := by decide +kernel
theorem dX12_most_1 : decode cX12_most 1 = .ok (.iconst 2, 1) := by decide +kernel
theorem dX12_most_2 : decode cX12_most 2 = .ok (.if_icmp .ge 9, 3) := by decide +kernel
theorem dX12_most_5 : decode cX12_most 5 = .ok (.sipush 256, 3) := by decide +kernel
theorem dX12_most_8 : decode cX12_most 8 = .ok (.goto 47, 3) := by decide +kernel
theorem dX12_most_11 : decode cX12_most 11 = .ok (.iload_n 0, 1) := by decide +kernel
theorem dX12_most_12 : decode cX12_most 12 = .ok (.iconst 2, 1) := by decide +kernel
theorem dX12_most_13 : decode cX12_most 13 = .ok (.if_icmp .ne 8, 3) := by decide +kernel
theorem dX12_most_16 : decode cX12_most 16 = .ok (.bipush 6, 2) := by decide +kernel
theorem dX12_most_18 : decode cX12_most 18 = .ok (.goto 37, 3) := by decide +kernel
theorem dX12_most_21 : decode cX12_most 21 = .ok (.iload_n 0, 1) := by decide +kernel
theorem dX12_most_22 : decode cX12_most 22 = .ok (.iconst 3, 1) := by decide +kernel
theorem dX12_most_23 : decode cX12_most 23 = .ok (.if_icmp .ne 8, 3) := by decide +kernel
theorem dX12_most_26 : decode cX12_most 26 = .ok (.bipush 64, 2) := by decide +kernel
theorem dX12_most_28 : decode cX12_most 28 = .ok (.goto 27, 3) := by decide +kernel
theorem dX12_most_31 : decode cX12_most 31 = .ok (.iload_n 0, 1) := by decide +kernel
theorem dX12_most_32 : decode cX12_most 32 = .ok (.iconst 4, 1) := by decide +kernel
theorem dX12_most_33 : decode cX12_most 33 = .ok (.if_icmp .ne 9, 3) := by decide +kernel
theorem dX12_most_36 : decode cX12_most 36 = .ok (.sipush 500, 3) := by decide +kernel
theorem dX12_most_39 : decode cX12_most 39 = .ok (.goto 16, 3) := by decide +kernel
theorem dX12_most_42 : decode cX12_most 42 = .ok (.iload_n 0, 1) := by decide +kernel
theorem dX12_most_43 : decode cX12_most 43 = .ok (.iconst 5, 1) := by decide +kernel
theorem dX12_most_44 : decode cX12_most 44 = .ok (.if_icmp .ne 9, 3) := by decide +kernel
theorem dX12_most_47 : decode cX12_most 47 = .ok (.sipush 1000, 3) := by decide +kernel
theorem dX12_most_50 : decode cX12_most 50 = .ok (.goto 5, 3) := by decide +kernel
theorem dX12_most_53 : decode cX12_most 53 = .ok (.bipush 16, 2) := by decide +kernel
theorem dX12_most_55 : decode cX12_most 55 = .ok (.ireturn, 1) := by decide +kernel
set_option maxHeartbeats 1000000 in
set_option maxRecDepth 100000 in
theorem t_X12_most (l : Launch) (D : xD) (z n : Nat) (G : xG) (I : xI) (L : xL) (w : Nat) (hw : w < 8) : xM0 l D z yX12_most cX12_most 1 (some .int) 0 0 [.int (nI w)] n G I L (xE (some (.int (xGv w))) I L) := by
  refine xM.of (by decide) (Nat.le_of_ble_eq_true rfl) (fun p e s m args below meth c C hnm hsz => ?_)
  refine x_lv [(0, .int (nI w))] rfl ?_
  rcases (show w = 0 ∨ w = 1 ∨ w = 2 ∨ w = 3 ∨ w = 4 ∨ w = 5 ∨ w = 6 ∨ w = 7 by omega) with rfl | rfl | rfl | rfl | rfl | rfl | rfl | rfl
  · skip
    refine x_iload_n 0 C dX12_most_0 rfl 0 rfl ?_
    refine x_iconst 1 C (v := 2) dX12_most_1 rfl ?_
    refine x_icmp_ge 2 C 11 dX12_most_2 (by decide) (fun c1 => absurd c1 (by decide)) (fun _ => ?_)
    refine x_sipush 5 C (v := 256) dX12_most_5 rfl ?_
    refine x_goto 8 C 55 dX12_most_8 (by decide) ?_
    refine x_iret 55 C dX12_most_55 rfl rfl (Nat.le_refl _) (xN.intro ?_)
    exact ⟨rfl, rfl, rfl⟩
  · skip
    refine x_iload_n 0 C dX12_most_0 rfl 0 rfl ?_
    refine x_iconst 1 C (v := 2) dX12_most_1 rfl ?_
    refine x_icmp_ge 2 C 11 dX12_most_2 (by decide) (fun c2 => absurd c2 (by decide)) (fun _ => ?_)
    refine x_sipush 5 C (v := 256) dX12_most_5 rfl ?_
    refine x_goto 8 C 55 dX12_most_8 (by decide) ?_
    refine x_iret 55 C dX12_most_55 rfl rfl (Nat.le_refl _) (xN.intro ?_)
    exact ⟨rfl, rfl, rfl⟩
  · skip
    refine x_iload_n 0 C dX12_most_0 rfl 0 rfl ?_
    refine x_iconst 1 C (v := 2) dX12_most_1 rfl ?_
    refine x_icmp_ge 2 C 11 dX12_most_2 (by decide) (fun _ => ?_) (fun c3 => absurd (by decide) c3)
    refine x_iload_n 11 C dX12_most_11 rfl 0 rfl ?_
    refine x_iconst 12 C (v := 2) dX12_most_12 rfl ?_
    refine x_icmp_ne 13 C 21 dX12_most_13 (by decide) (fun c4 => absurd (by decide) c4) (fun _ => ?_)
    refine x_bipush 16 C (v := 6) dX12_most_16 rfl ?_
    refine x_goto 18 C 55 dX12_most_18 (by decide) ?_
    refine x_iret 55 C dX12_most_55 rfl rfl (Nat.le_refl _) (xN.intro ?_)
    exact ⟨rfl, rfl, rfl⟩
  · skip
    refine x_iload_n 0 C dX12_most_0 rfl 0 rfl ?_
    refine x_iconst 1 C (v := 2) dX12_most_1 rfl ?_
    refine x_icmp_ge 2 C 11 dX12_most_2 (by decide) (fun _ => ?_) (fun c5 => absurd (by decide) c5)
    refine x_iload_n 11 C dX12_most_11 rfl 0 rfl ?_
    refine x_iconst 12 C (v := 2) dX12_most_12 rfl ?_
    refine x_icmp_ne 13 C 21 dX12_most_13 (by decide) (fun _ => ?_) (fun c6 => absurd c6 (by decide))
    refine x_iload_n 21 C dX12_most_21 rfl 0 rfl ?_
    refine x_iconst 22 C (v := 3) dX12_most_22 rfl ?_
    refine x_icmp_ne 23 C 31 dX12_most_23 (by decide) (fun c7 => absurd (by decide) c7) (fun _ => ?_)
    refine x_bipush 26 C (v := 64) dX12_most_26 rfl ?_
    refine x_goto 28 C 55 dX12_most_28 (by decide) ?_
    refine x_iret 55 C dX12_most_55 rfl rfl (Nat.le_refl _) (xN.intro ?_)
    exact ⟨rfl, rfl, rfl⟩
  · skip
    refine x_iload_n 0 C dX12_most_0 rfl 0 rfl ?_
    refine x_iconst 1 C (v := 2) dX12_most_1 rfl ?_
    refine x_icmp_ge 2 C 11 dX12_most_2 (by decide) (fun _ => ?_) (fun c8 => absurd (by decide) c8)
    refine x_iload_n 11 C dX12_most_11 rfl 0 rfl ?_
    refine x_iconst 12 C (v := 2) dX12_most_12 rfl ?_
    refine x_icmp_ne 13 C 21 dX12_most_13 (by decide) (fun _ => ?_) (fun c9 => absurd c9 (by decide))
    refine x_iload_n 21 C dX12_most_21 rfl 0 rfl ?_
    refine x_iconst 22 C (v := 3) dX12_most_22 rfl ?_
    refine x_icmp_ne 23 C 31 dX12_most_23 (by decide) (fun _ => ?_) (fun c10 => absurd c10 (by decide))
    refine x_iload_n 31 C dX12_most_31 rfl 0 rfl ?_
    refine x_iconst 32 C (v := 4) dX12_most_32 rfl ?_
    refine x_icmp_ne 33 C 42 dX12_most_33 (by decide) (fun c11 => absurd (by decide) c11) (fun _ => ?_)
    refine x_sipush 36 C (v := 500) dX12_most_36 rfl ?_
    refine x_goto 39 C 55 dX12_most_39 (by decide) ?_
    refine x_iret 55 C dX12_most_55 rfl rfl (Nat.le_refl _) (xN.intro ?_)
    exact ⟨rfl, rfl, rfl⟩
  · skip
    refine x_iload_n 0 C dX12_most_0 rfl 0 rfl ?_
    refine x_iconst 1 C (v := 2) dX12_most_1 rfl ?_
    refine x_icmp_ge 2 C 11 dX12_most_2 (by decide) (fun _ => ?_) (fun c12 => absurd (by decide) c12)
    refine x_iload_n 11 C dX12_most_11 rfl 0 rfl ?_
    refine x_iconst 12 C (v := 2) dX12_most_12 rfl ?_
    refine x_icmp_ne 13 C 21 dX12_most_13 (by decide) (fun _ => ?_) (fun c13 => absurd c13 (by decide))
    refine x_iload_n 21 C dX12_most_21 rfl 0 rfl ?_
    refine x_iconst 22 C (v := 3) dX12_most_22 rfl ?_
    refine x_icmp_ne 23 C 31 dX12_most_23 (by decide) (fun _ => ?_) (fun c14 => absurd c14 (by decide))
    refine x_iload_n 31 C dX12_most_31 rfl 0 rfl ?_
    refine x_iconst 32 C (v := 4) dX12_most_32 rfl ?_
    refine x_icmp_ne 33 C 42 dX12_most_33 (by decide) (fun _ => ?_) (fun c15 => absurd c15 (by decide))
    refine x_iload_n 42 C dX12_most_42 rfl 0 rfl ?_
    refine x_iconst 43 C (v := 5) dX12_most_43 rfl ?_
    refine x_icmp_ne 44 C 53 dX12_most_44 (by decide) (fun c16 => absurd (by decide) c16) (fun _ => ?_)
    refine x_sipush 47 C (v := 1000) dX12_most_47 rfl ?_
    refine x_goto 50 C 55 dX12_most_50 (by decide) ?_
    refine x_iret 55 C dX12_most_55 rfl rfl (Nat.le_refl _) (xN.intro ?_)
    exact ⟨rfl, rfl, rfl⟩
  · skip
    refine x_iload_n 0 C dX12_most_0 rfl 0 rfl ?_
    refine x_iconst 1 C (v := 2) dX12_most_1 rfl ?_
    refine x_icmp_ge 2 C 11 dX12_most_2 (by decide) (fun _ => ?_) (fun c17 => absurd (by decide) c17)
    refine x_iload_n 11 C dX12_most_11 rfl 0 rfl ?_
    refine x_iconst 12 C (v := 2) dX12_most_12 rfl ?_
    refine x_icmp_ne 13 C 21 dX12_most_13 (by decide) (fun _ => ?_) (fun c18 => absurd c18 (by decide))
    refine x_iload_n 21 C dX12_most_21 rfl 0 rfl ?_
    refine x_iconst 22 C (v := 3) dX12_most_22 rfl ?_
    refine x_icmp_ne 23 C 31 dX12_most_23 (by decide) (fun _ => ?_) (fun c19 => absurd c19 (by decide))
    refine x_iload_n 31 C dX12_most_31 rfl 0 rfl ?_
    refine x_iconst 32 C (v := 4) dX12_most_32 rfl ?_
    refine x_icmp_ne 33 C 42 dX12_most_33 (by decide) (fun _ => ?_) (fun c20 => absurd c20 (by decide))
    refine x_iload_n 42 C dX12_most_42 rfl 0 rfl ?_
    refine x_iconst 43 C (v := 5) dX12_most_43 rfl ?_
    refine x_icmp_ne 44 C 53 dX12_most_44 (by decide) (fun _ => ?_) (fun c21 => absurd c21 (by decide))
    refine x_bipush 53 C (v := 16) dX12_most_53 rfl ?_
    refine x_iret 55 C dX12_most_55 rfl rfl (Nat.le_refl _) (xN.intro ?_)
    exact ⟨rfl, rfl, rfl⟩
  · skip
    refine x_iload_n 0 C dX12_most_0 rfl 0 rfl ?_
    refine x_iconst 1 C (v := 2) dX12_most_1 rfl ?_
    refine x_icmp_ge 2 C 11 dX12_most_2 (by decide) (fun _ => ?_) (fun c22 => absurd (by decide) c22)
    refine x_iload_n 11 C dX12_most_11 rfl 0 rfl ?_
    refine x_iconst 12 C (v := 2) dX12_most_12 rfl ?_
    refine x_icmp_ne 13 C 21 dX12_most_13 (by decide) (fun _ => ?_) (fun c23 => absurd c23 (by decide))
    refine x_iload_n 21 C dX12_most_21 rfl 0 rfl ?_
    refine x_iconst 22 C (v := 3) dX12_most_22 rfl ?_
    refine x_icmp_ne 23 C 31 dX12_most_23 (by decide) (fun _ => ?_) (fun c24 => absurd c24 (by decide))
    refine x_iload_n 31 C dX12_most_31 rfl 0 rfl ?_
    refine x_iconst 32 C (v := 4) dX12_most_32 rfl ?_
    refine x_icmp_ne 33 C 42 dX12_most_33 (by decide) (fun _ => ?_) (fun c25 => absurd c25 (by decide))
    refine x_iload_n 42 C dX12_most_42 rfl 0 rfl ?_
    refine x_iconst 43 C (v := 5) dX12_most_43 rfl ?_
    refine x_icmp_ne 44 C 53 dX12_most_44 (by decide) (fun _ => ?_) (fun c26 => absurd c26 (by decide))
    refine x_bipush 53 C (v := 16) dX12_most_53 rfl ?_
    refine x_iret 55 C dX12_most_55 rfl rfl (Nat.le_refl _) (xN.intro ?_)
    exact ⟨rfl, rfl, rfl⟩
theorem dX12_set_0 : decode cX12_set 0 = .ok (.iload_n 1, 1) := by decide +kernel
theorem dX12_set_1 : decode cX12_set 1 = .ok (.iconst 0, 1) := by decide +kernel
theorem dX12_set_2 : decode cX12_set 2 = .ok (.bipush 7, 2) := by decide +kernel
theorem dX12_set_4 : decode cX12_set 4 = .ok (.invokestatic 71, 3) := by decide +kernel
theorem dX12_set_7 : decode cX12_set 7 = .ok (.ifCond .eq 18, 3) := by decide +kernel
theorem dX12_set_10 : decode cX12_set 10 = .ok (.iload_n 2, 1) := by decide +kernel
theorem dX12_set_11 : decode cX12_set 11 = .ok (.iload_n 1, 1) := by decide +kernel
theorem dX12_set_12 : decode cX12_set 12 = .ok (.invokestatic 231, 3) := by decide +kernel
theorem dX12_set_15 : decode cX12_set 15 = .ok (.iload_n 1, 1) := by decide +kernel
theorem dX12_set_16 : decode cX12_set 16 = .ok (.invokestatic 234, 3) := by decide +kernel
theorem dX12_set_19 : decode cX12_set 19 = .ok (.invokestatic 71, 3) := by decide +kernel
theorem dX12_set_22 : decode cX12_set 22 = .ok (.ifCond .ne 6, 3) := by decide +kernel
theorem dX12_set_25 : decode cX12_set 25 = .ok (.ldc 198, 2) := by decide +kernel
theorem dX12_set_27 : decode cX12_set 27 = .ok (.ireturn, 1) := by decide +kernel
theorem dX12_set_28 : decode cX12_set 28 = .ok (.iload_n 1, 1) := by decide +kernel
theorem dX12_set_29 : decode cX12_set 29 = .ok (.bipush 6, 2) := by decide +kernel
theorem dX12_set_31 : decode cX12_set 31 = .ok (.if_icmp .lt 21, 3) := by decide +kernel
theorem dX12_set_34 : decode cX12_set 34 = .ok (.iload_n 2, 1) := by decide +kernel
theorem dX12_set_35 : decode cX12_set 35 = .ok (.ifCond .ne 17, 3) := by decide +kernel
theorem dX12_set_38 : decode cX12_set 38 = .ok (.aload_n 0, 1) := by decide +kernel
theorem dX12_set_39 : decode cX12_set 39 = .ok (.bipush 13, 2) := by decide +kernel
theorem dX12_set_41 : decode cX12_set 41 = .ok (.iload_n 1, 1) := by decide +kernel
theorem dX12_set_42 : decode cX12_set 42 = .ok (.isub, 1) := by decide +kernel
theorem dX12_set_43 : decode cX12_set 43 = .ok (.invokevirtual 119, 3) := by decide +kernel
theorem dX12_set_46 : decode cX12_set 46 = .ok (.ifCond .ne 6, 3) := by decide +kernel
theorem dX12_set_49 : decode cX12_set 49 = .ok (.ldc 199, 2) := by decide +kernel
theorem dX12_set_51 : decode cX12_set 51 = .ok (.ireturn, 1) := by decide +kernel
theorem dX12_set_52 : decode cX12_set 52 = .ok (.aload_n 0, 1) := by decide +kernel
theorem dX12_set_53 : decode cX12_set 53 = .ok (.invokevirtual 200, 3) := by decide +kernel
theorem dX12_set_56 : decode cX12_set 56 = .ok (.aload_n 0, 1) := by decide +kernel
theorem dX12_set_57 : decode cX12_set 57 = .ok (.iload_n 1, 1) := by decide +kernel
theorem dX12_set_58 : decode cX12_set 58 = .ok (.invokevirtual 119, 3) := by decide +kernel
theorem dX12_set_61 : decode cX12_set 61 = .ok (.istore_n 3, 1) := by decide +kernel
theorem dX12_set_62 : decode cX12_set 62 = .ok (.aload_n 0, 1) := by decide +kernel
theorem dX12_set_63 : decode cX12_set 63 = .ok (.getfield 7, 3) := by decide +kernel
theorem dX12_set_66 : decode cX12_set 66 = .ok (.bipush 42, 2) := by decide +kernel
theorem dX12_set_68 : decode cX12_set 68 = .ok (.iload_n 1, 1) := by decide +kernel
theorem dX12_set_69 : decode cX12_set 69 = .ok (.iadd, 1) := by decide +kernel
theorem dX12_set_70 : decode cX12_set 70 = .ok (.iload_n 2, 1) := by decide +kernel
theorem dX12_set_71 : decode cX12_set 71 = .ok (.iastore, 1) := by decide +kernel
theorem dX12_set_72 : decode cX12_set 72 = .ok (.iload_n 1, 1) := by decide +kernel
theorem dX12_set_73 : decode cX12_set 73 = .ok (.iconst 5, 1) := by decide +kernel
theorem dX12_set_74 : decode cX12_set 74 = .ok (.if_icmp .eq 7, 3) := by decide +kernel
theorem dX12_set_77 : decode cX12_set 77 = .ok (.aload_n 0, 1) := by decide +kernel
theorem dX12_set_78 : decode cX12_set 78 = .ok (.invokevirtual 64, 3) := by decide +kernel
theorem dX12_set_81 : decode cX12_set 81 = .ok (.iload_n 3, 1) := by decide +kernel
theorem dX12_set_82 : decode cX12_set 82 = .ok (.ireturn, 1) := by decide +kernel
set_option maxHeartbeats 1000000 in
set_option maxRecDepth 100000 in
theorem t_X12_set_5 (l : Launch) (D : xD) (z n : Nat) (G : xG) (I : xI) (L : xL) (A : Nat) (v : Int32) (Z : Nat) (hM : shMo G A) (zA : z ≤ A) (hin : inRg 5 v = true) (hZ : I A 2 = nI Z) (hZ4 : Z ≤ 4) : xM0 l D z yX12_set cX12_set 4 (some .int) 5 114 [.ref A, .int (nI 5), .int v] n G I L (fun v' I' L' => v' = (some (.int (I (A + 1) 47))) ∧ L' = L ∧ (mrec I A Z I') ∧ (∀ j, I' (A + 1) j = if j = 47 then v else I (A + 1) j) ∧ (∀ q, q ≠ A → q ≠ A + 1 → q ≠ A + 2 → I' q = I q) ∧ (∀ j, j ≠ 2 → I' A j = I A j)) := by
  refine xM.of (by decide) (Nat.le_of_ble_eq_true rfl) (fun p e s m args below meth c C hnm hsz => ?_)
  refine x_lv [(0, .ref A), (1, .int (nI 5)), (2, .int v)] rfl ?_
  refine x_iload_n 0 C dX12_set_0 rfl 1 rfl ?_
  refine x_iconst 1 C (v := 0) dX12_set_1 rfl ?_
  refine x_bipush 2 C (v := 7) dX12_set_2 rfl ?_
  refine x_callSe 4 C dX12_set_4 (As := [.int (nI 5), .int 0, .int 7]) (rest := []) [.int (bI (decide (0 ≤ 5) && decide (5 ≤ 7)))] (t_X12_in_n l D z n G I L 5 0 7 (by first | omega | assumption | decide) (by first | omega | assumption | decide) (by first | omega | assumption | decide)) mt_X12_in km_X12_71 kt_X12_in rfl rfl (Nat.le_of_ble_eq_true rfl) ⟨⟨by decide, by decide⟩, by decide, by decide⟩ (fun I1 L2 eI1 eL2 => ?_)
  replace eI1 := eI1.symm; subst eI1
  replace eL2 := eL2.symm; subst eL2
  refine x_int 1 (by first | decide | (simp [bI]; omega)) ?_
  refine x_if_eq 7 C 25 dX12_set_7 (by decide) (fun c3 => absurd c3 (by decide)) (fun _ => ?_)
  refine x_iload_n 10 C dX12_set_10 rfl 2 rfl ?_
  refine x_iload_n 11 C dX12_set_11 rfl 1 rfl ?_
  refine x_callSe 12 C dX12_set_12 (As := [.int (nI 5)]) (rest := [.int v]) [.int (xLv 5), .int v] (t_X12_least l D z n G I L 5 (by first | omega | assumption | decide)) mt_X12_least km_X12_231 kt_X12_least rfl rfl (Nat.le_of_ble_eq_true rfl) ⟨⟨by decide, by decide⟩, by decide, by decide⟩ (fun I4 L5 eI4 eL5 => ?_)
  replace eI4 := eI4.symm; subst eI4
  replace eL5 := eL5.symm; subst eL5
  refine x_int (xLv 5) rfl ?_
  refine x_iload_n 15 C dX12_set_15 rfl 1 rfl ?_
  refine x_callSe 16 C dX12_set_16 (As := [.int (nI 5)]) (rest := [.int (xLv 5), .int v]) [.int (xGv 5), .int (xLv 5), .int v] (t_X12_most l D z n G I L 5 (by first | omega | assumption | decide)) mt_X12_most km_X12_234 kt_X12_most rfl rfl (Nat.le_of_ble_eq_true rfl) ⟨⟨by decide, by decide⟩, by decide, by decide⟩ (fun I6 L7 eI6 eL7 => ?_)
  replace eI6 := eI6.symm; subst eI6
  replace eL7 := eL7.symm; subst eL7
  refine x_int (xGv 5) rfl ?_
  refine x_callSe 19 C dX12_set_19 (As := [.int v, .int (xLv 5), .int (xGv 5)]) (rest := []) [.int (bI (decide ((xLv 5) ≤ v) && decide (v ≤ (xGv 5))))] (t_X12_in l D z n G I L v (xLv 5) (xGv 5) ) mt_X12_in km_X12_71 kt_X12_in rfl rfl (Nat.le_of_ble_eq_true rfl) ⟨⟨by decide, by decide⟩, by decide, by decide⟩ (fun I8 L9 eI8 eL9 => ?_)
  replace eI8 := eI8.symm; subst eI8
  replace eL9 := eL9.symm; subst eL9
  refine x_int (bI (inRg 5 v)) rfl ?_
  refine x_if_ne 22 C 28 dX12_set_22 (by decide) (fun _ => ?_) (fun c10 => absurd c10 (bI_n0.mpr hin))
  refine x_iload_n 28 C dX12_set_28 rfl 1 rfl ?_
  refine x_bipush 29 C (v := 6) dX12_set_29 rfl ?_
  refine x_icmp_lt 31 C 52 dX12_set_31 (by decide) (fun _ => ?_) (fun c11 => absurd (by decide) c11)
  refine x_aload_n 52 C dX12_set_52 rfl 0 rfl ?_
  refine x_callVp 53 C dX12_set_53 (As := []) (rest := []) (t_X12_save0 l D z n G I L A Z hM (by omega) (by first | assumption | omega | decide) (by first | omega | assumption | decide)) mt_X12_save0 km_X12_200 ki_X12_save0 ks_X12_save0 hM.1 ⟨by decide, rfl⟩ rfl (Nat.le_of_ble_eq_true rfl) ⟨⟨by decide, by decide⟩, by decide, by decide⟩ (fun w12 I13 L14 hw12 => ?_)
  obtain ⟨hw12v, eL14, hw12r0, hw12r1, hw12r2⟩ := hw12
  subst hw12v
  refine x_st [] rfl ?_
  replace eL14 := eL14.symm; subst eL14
  have h1r : I13 (A + 1) = I (A + 1) := hw12r1 _ (by omega) (by omega)
  refine x_aload_n 56 C dX12_set_56 rfl 0 rfl ?_
  refine x_iload_n 57 C dX12_set_57 rfl 1 rfl ?_
  refine x_callVe 58 C dX12_set_58 (As := [.int (nI 5)]) (rest := []) [.int (I13 (A + 1) (42 + 5))] (t_X12_setting l D z n G I13 L A 5 hM (by first | omega | assumption | decide)) mt_X12_setting km_X12_119 ki_X12_setting ks_X12_setting hM.1 ⟨by decide, rfl⟩ rfl rfl (Nat.le_of_ble_eq_true rfl) ⟨⟨by decide, by decide⟩, by decide, by decide⟩ (fun I15 L16 eI15 eL16 => ?_)
  replace eI15 := eI15.symm; subst eI15
  replace eL16 := eL16.symm; subst eL16
  refine x_int (I (A + 1) 47) (by rw [h1r]) ?_
  refine x_istore_n 61 C [(3, .int (I (A + 1) 47)), (0, .ref A), (1, .int (nI 5)), (2, .int v)] dX12_set_61 rfl (by decide) rfl ?_
  refine x_aload_n 62 C dX12_set_62 rfl 1 rfl ?_
  refine x_getr 63 C (b := A + 1) dX12_set_63 ff_X12_7 rfl hM.1 rfl ?_
  refine x_bipush 66 C (v := 42) dX12_set_66 rfl ?_
  refine x_iload_n 68 C dX12_set_68 rfl 2 rfl ?_
  refine x_iadd 69 C dX12_set_69 ?_
  refine x_int 47 (by decide) ?_
  refine x_iload_n 70 C dX12_set_70 rfl 3 rfl ?_
  refine x_iast 71 C (j := 47) dX12_set_71 hM.2.1 (by omega) ⟨by decide, by decide, by decide⟩ (fun I17 eI17 => ?_)
  refine x_iload_n 72 C dX12_set_72 rfl 2 rfl ?_
  refine x_iconst 73 C (v := 5) dX12_set_73 rfl ?_
  refine x_icmp_eq 74 C 81 dX12_set_74 (by decide) (fun _ => ?_) (fun c18 => absurd (by decide) c18)
  refine x_iload_n 81 C dX12_set_81 rfl 0 rfl ?_
  refine x_iret 82 C dX12_set_82 rfl rfl (Nat.le_refl _) (xN.intro ?_)
  exact ⟨rfl, rfl, mrec_congr (by rw [eI17, xup_row _ _ (by omega)]) (by rw [eI17, xup_row _ _ (by omega)]) hw12r0, fun j => by rw [eI17, xup_at, h1r], fun q h0 h1 h2 => by rw [eI17, xup_row _ _ h1]; exact hw12r1 q h0 h2, fun j hj => by rw [eI17, xup_row _ _ (by omega)]; exact hw12r2 j hj⟩
set_option maxHeartbeats 1000000 in
set_option maxRecDepth 100000 in
theorem t_X12_set_n (l : Launch) (D : xD) (z n : Nat) (G : xG) (I : xI) (L : xL) (A : Nat) (w : Nat) (v : Int32) (dx : Nat) (dy : Nat) (Z : Nat) (hM : shMo G A) (zA : z ≤ A) (hw : w < 8) (hw5 : ¬ w = 5) (hin : inRg w v = true) (hgz : ¬ (v = 0 ∧ mothZ I A w = true)) (hdx : I (A + 1) 40 = nI dx) (hdy : I (A + 1) 41 = nI dy) (hd3 : dx * dy ≤ 9) (hd1 : 1 ≤ dy) (hd0 : 1 ≤ dx) (hZ : I A 2 = nI Z) (hZ4 : Z ≤ 4) : xM0 l D z yX12_set cX12_set 4 (some .int) 5 114 [.ref A, .int (nI w), .int v] n G I L (fun v' I' L' => v' = (some (.int (I (A + 1) (42 + w)))) ∧ (mrec I A Z I') ∧ (∀ k, k < dx * dy → mvO (I' (A + 1)) (50 + 12 * k) = mBg dx dy (if w = 0 then v else I (A + 1) 42) (if w = 1 then v else I (A + 1) 43) k) ∧ (∀ j, j < 50 → I' (A + 1) j = if j = 42 + w then v else I (A + 1) j) ∧ (∀ q, q ≠ A → q ≠ A + 1 → q ≠ A + 2 → I' q = I q) ∧ (∀ j, j ≠ 2 → I' A j = I A j) ∧ (∀ q, q ≠ A → L' q = L q)) := by
  refine xM.of (by decide) (Nat.le_of_ble_eq_true rfl) (fun p e s m args below meth c C hnm hsz => ?_)
  refine x_lv [(0, .ref A), (1, .int (nI w)), (2, .int v)] rfl ?_
  rcases (show w = 0 ∨ w = 1 ∨ w = 2 ∨ w = 3 ∨ w = 4 ∨ w = 6 ∨ w = 7 by omega) with rfl | rfl | rfl | rfl | rfl | rfl | rfl
  · skip
    refine x_iload_n 0 C dX12_set_0 rfl 1 rfl ?_
    refine x_iconst 1 C (v := 0) dX12_set_1 rfl ?_
    refine x_bipush 2 C (v := 7) dX12_set_2 rfl ?_
    refine x_callSe 4 C dX12_set_4 (As := [.int (nI 0), .int 0, .int 7]) (rest := []) [.int (bI (decide (0 ≤ 0) && decide (0 ≤ 7)))] (t_X12_in_n l D z n G I L 0 0 7 (by first | omega | assumption | decide) (by first | omega | assumption | decide) (by first | omega | assumption | decide)) mt_X12_in km_X12_71 kt_X12_in rfl rfl (Nat.le_of_ble_eq_true rfl) ⟨⟨by decide, by decide⟩, by decide, by decide⟩ (fun I1 L2 eI1 eL2 => ?_)
    replace eI1 := eI1.symm; subst eI1
    replace eL2 := eL2.symm; subst eL2
    refine x_int 1 (by first | decide | (simp [bI]; omega)) ?_
    refine x_if_eq 7 C 25 dX12_set_7 (by decide) (fun c3 => absurd c3 (by decide)) (fun _ => ?_)
    refine x_iload_n 10 C dX12_set_10 rfl 2 rfl ?_
    refine x_iload_n 11 C dX12_set_11 rfl 1 rfl ?_
    refine x_callSe 12 C dX12_set_12 (As := [.int (nI 0)]) (rest := [.int v]) [.int (xLv 0), .int v] (t_X12_least l D z n G I L 0 (by first | omega | assumption | decide)) mt_X12_least km_X12_231 kt_X12_least rfl rfl (Nat.le_of_ble_eq_true rfl) ⟨⟨by decide, by decide⟩, by decide, by decide⟩ (fun I4 L5 eI4 eL5 => ?_)
    replace eI4 := eI4.symm; subst eI4
    replace eL5 := eL5.symm; subst eL5
    refine x_int (xLv 0) rfl ?_
    refine x_iload_n 15 C dX12_set_15 rfl 1 rfl ?_
    refine x_callSe 16 C dX12_set_16 (As := [.int (nI 0)]) (rest := [.int (xLv 0), .int v]) [.int (xGv 0), .int (xLv 0), .int v] (t_X12_most l D z n G I L 0 (by first | omega | assumption | decide)) mt_X12_most km_X12_234 kt_X12_most rfl rfl (Nat.le_of_ble_eq_true rfl) ⟨⟨by decide, by decide⟩, by decide, by decide⟩ (fun I6 L7 eI6 eL7 => ?_)
    replace eI6 := eI6.symm; subst eI6
    replace eL7 := eL7.symm; subst eL7
    refine x_int (xGv 0) rfl ?_
    refine x_callSe 19 C dX12_set_19 (As := [.int v, .int (xLv 0), .int (xGv 0)]) (rest := []) [.int (bI (decide ((xLv 0) ≤ v) && decide (v ≤ (xGv 0))))] (t_X12_in l D z n G I L v (xLv 0) (xGv 0) ) mt_X12_in km_X12_71 kt_X12_in rfl rfl (Nat.le_of_ble_eq_true rfl) ⟨⟨by decide, by decide⟩, by decide, by decide⟩ (fun I8 L9 eI8 eL9 => ?_)
    replace eI8 := eI8.symm; subst eI8
    replace eL9 := eL9.symm; subst eL9
    refine x_int (bI (inRg 0 v)) rfl ?_
    refine x_if_ne 22 C 28 dX12_set_22 (by decide) (fun _ => ?_) (fun c10 => absurd c10 (bI_n0.mpr hin))
    refine x_iload_n 28 C dX12_set_28 rfl 1 rfl ?_
    refine x_bipush 29 C (v := 6) dX12_set_29 rfl ?_
    refine x_icmp_lt 31 C 52 dX12_set_31 (by decide) (fun _ => ?_) (fun c11 => absurd (by decide) c11)
    refine x_aload_n 52 C dX12_set_52 rfl 0 rfl ?_
    refine x_callVp 53 C dX12_set_53 (As := []) (rest := []) (t_X12_save0 l D z n G I L A Z hM (by omega) (by first | assumption | omega | decide) (by first | omega | assumption | decide)) mt_X12_save0 km_X12_200 ki_X12_save0 ks_X12_save0 hM.1 ⟨by decide, rfl⟩ rfl (Nat.le_of_ble_eq_true rfl) ⟨⟨by decide, by decide⟩, by decide, by decide⟩ (fun w12 I13 L14 hw12 => ?_)
    obtain ⟨hw12v, eL14, hw12r0, hw12r1, hw12r2⟩ := hw12
    subst hw12v
    refine x_st [] rfl ?_
    replace eL14 := eL14.symm; subst eL14
    have h1r : I13 (A + 1) = I (A + 1) := hw12r1 _ (by omega) (by omega)
    refine x_aload_n 56 C dX12_set_56 rfl 0 rfl ?_
    refine x_iload_n 57 C dX12_set_57 rfl 1 rfl ?_
    refine x_callVe 58 C dX12_set_58 (As := [.int (nI 0)]) (rest := []) [.int (I13 (A + 1) (42 + 0))] (t_X12_setting l D z n G I13 L A 0 hM (by first | omega | assumption | decide)) mt_X12_setting km_X12_119 ki_X12_setting ks_X12_setting hM.1 ⟨by decide, rfl⟩ rfl rfl (Nat.le_of_ble_eq_true rfl) ⟨⟨by decide, by decide⟩, by decide, by decide⟩ (fun I15 L16 eI15 eL16 => ?_)
    replace eI15 := eI15.symm; subst eI15
    replace eL16 := eL16.symm; subst eL16
    refine x_int (I (A + 1) (42 + 0)) (by rw [h1r]) ?_
    refine x_istore_n 61 C [(3, .int (I (A + 1) (42 + 0))), (0, .ref A), (1, .int (nI 0)), (2, .int v)] dX12_set_61 rfl (by decide) rfl ?_
    refine x_aload_n 62 C dX12_set_62 rfl 1 rfl ?_
    refine x_getr 63 C (b := A + 1) dX12_set_63 ff_X12_7 rfl hM.1 rfl ?_
    refine x_bipush 66 C (v := 42) dX12_set_66 rfl ?_
    refine x_iload_n 68 C dX12_set_68 rfl 2 rfl ?_
    refine x_iadd 69 C dX12_set_69 ?_
    refine x_int 42 (by decide) ?_
    refine x_iload_n 70 C dX12_set_70 rfl 3 rfl ?_
    refine x_iast 71 C (j := 42) dX12_set_71 hM.2.1 (by omega) ⟨by decide, by decide, by decide⟩ (fun I17 eI17 => ?_)
    refine x_iload_n 72 C dX12_set_72 rfl 2 rfl ?_
    refine x_iconst 73 C (v := 5) dX12_set_73 rfl ?_
    refine x_icmp_eq 74 C 81 dX12_set_74 (by decide) (fun c18 => absurd c18 (by decide)) (fun _ => ?_)
    refine x_aload_n 77 C dX12_set_77 rfl 1 rfl ?_
    refine x_callVp 78 C dX12_set_78 (As := []) (rest := []) (t_X12_beginAll l D z n G I17 L A dx dy hM (by omega) (by rw [eI17, xup_ne _ _ (fun h => absurd h.2 (by decide)), h1r]; exact hdx) (by rw [eI17, xup_ne _ _ (fun h => absurd h.2 (by decide)), h1r]; exact hdy) (by first | omega | assumption | decide) (by first | omega | assumption | decide) (by first | omega | assumption | decide)) mt_X12_beginAll km_X12_64 ki_X12_beginAll ks_X12_beginAll hM.1 ⟨by decide, rfl⟩ rfl (Nat.le_of_ble_eq_true rfl) ⟨⟨by decide, by decide⟩, by decide, by decide⟩ (fun w19 I20 L21 hw19 => ?_)
    obtain ⟨hw19v, hw19r0, hw19r1, hw19r2, hw19r3⟩ := hw19
    subst hw19v
    refine x_st [] rfl ?_
    refine x_iload_n 81 C dX12_set_81 rfl 0 rfl ?_
    refine x_iret 82 C dX12_set_82 rfl rfl (Nat.le_refl _) (xN.intro ?_)
    refine ⟨rfl, mrec_congr (by rw [hw19r2 A (by omega), eI17, xup_row _ _ (by omega)]) (by rw [hw19r2 _ (by omega), eI17, xup_row _ _ (by omega)]) hw12r0, fun k hk => ?_, fun j hj => by rw [hw19r1 j hj, eI17, xup_at, h1r], fun q h0 h1 h2 => by rw [hw19r2 q h1, eI17, xup_row _ _ h1]; exact hw12r1 q h0 h2, fun j hj => by rw [hw19r2 A (by omega), eI17, xup_row _ _ (by omega)]; exact hw12r2 j hj, hw19r3⟩
    rw [hw19r0 k hk, eI17, xup_at, xup_at, h1r]; rfl
  · skip
    refine x_iload_n 0 C dX12_set_0 rfl 1 rfl ?_
    refine x_iconst 1 C (v := 0) dX12_set_1 rfl ?_
    refine x_bipush 2 C (v := 7) dX12_set_2 rfl ?_
    refine x_callSe 4 C dX12_set_4 (As := [.int (nI 1), .int 0, .int 7]) (rest := []) [.int (bI (decide (0 ≤ 1) && decide (1 ≤ 7)))] (t_X12_in_n l D z n G I L 1 0 7 (by first | omega | assumption | decide) (by first | omega | assumption | decide) (by first | omega | assumption | decide)) mt_X12_in km_X12_71 kt_X12_in rfl rfl (Nat.le_of_ble_eq_true rfl) ⟨⟨by decide, by decide⟩, by decide, by decide⟩ (fun I22 L23 eI22 eL23 => ?_)
    replace eI22 := eI22.symm; subst eI22
    replace eL23 := eL23.symm; subst eL23
    refine x_int 1 (by first | decide | (simp [bI]; omega)) ?_
    refine x_if_eq 7 C 25 dX12_set_7 (by decide) (fun c24 => absurd c24 (by decide)) (fun _ => ?_)
    refine x_iload_n 10 C dX12_set_10 rfl 2 rfl ?_
    refine x_iload_n 11 C dX12_set_11 rfl 1 rfl ?_
    refine x_callSe 12 C dX12_set_12 (As := [.int (nI 1)]) (rest := [.int v]) [.int (xLv 1), .int v] (t_X12_least l D z n G I L 1 (by first | omega | assumption | decide)) mt_X12_least km_X12_231 kt_X12_least rfl rfl (Nat.le_of_ble_eq_true rfl) ⟨⟨by decide, by decide⟩, by decide, by decide⟩ (fun I25 L26 eI25 eL26 => ?_)
    replace eI25 := eI25.symm; subst eI25
    replace eL26 := eL26.symm; subst eL26
    refine x_int (xLv 1) rfl ?_
    refine x_iload_n 15 C dX12_set_15 rfl 1 rfl ?_
    refine x_callSe 16 C dX12_set_16 (As := [.int (nI 1)]) (rest := [.int (xLv 1), .int v]) [.int (xGv 1), .int (xLv 1), .int v] (t_X12_most l D z n G I L 1 (by first | omega | assumption | decide)) mt_X12_most km_X12_234 kt_X12_most rfl rfl (Nat.le_of_ble_eq_true rfl) ⟨⟨by decide, by decide⟩, by decide, by decide⟩ (fun I27 L28 eI27 eL28 => ?_)
    replace eI27 := eI27.symm; subst eI27
    replace eL28 := eL28.symm; subst eL28
    refine x_int (xGv 1) rfl ?_
    refine x_callSe 19 C dX12_set_19 (As := [.int v, .int (xLv 1), .int (xGv 1)]) (rest := []) [.int (bI (decide ((xLv 1) ≤ v) && decide (v ≤ (xGv 1))))] (t_X12_in l D z n G I L v (xLv 1) (xGv 1) ) mt_X12_in km_X12_71 kt_X12_in rfl rfl (Nat.le_of_ble_eq_true rfl) ⟨⟨by decide, by decide⟩, by decide, by decide⟩ (fun I29 L30 eI29 eL30 => ?_)
    replace eI29 := eI29.symm; subst eI29
    replace eL30 := eL30.symm; subst eL30
    refine x_int (bI (inRg 1 v)) rfl ?_
    refine x_if_ne 22 C 28 dX12_set_22 (by decide) (fun _ => ?_) (fun c31 => absurd c31 (bI_n0.mpr hin))
    refine x_iload_n 28 C dX12_set_28 rfl 1 rfl ?_
    refine x_bipush 29 C (v := 6) dX12_set_29 rfl ?_
    refine x_icmp_lt 31 C 52 dX12_set_31 (by decide) (fun _ => ?_) (fun c32 => absurd (by decide) c32)
    refine x_aload_n 52 C dX12_set_52 rfl 0 rfl ?_
    refine x_callVp 53 C dX12_set_53 (As := []) (rest := []) (t_X12_save0 l D z n G I L A Z hM (by omega) (by first | assumption | omega | decide) (by first | omega | assumption | decide)) mt_X12_save0 km_X12_200 ki_X12_save0 ks_X12_save0 hM.1 ⟨by decide, rfl⟩ rfl (Nat.le_of_ble_eq_true rfl) ⟨⟨by decide, by decide⟩, by decide, by decide⟩ (fun w33 I34 L35 hw33 => ?_)
    obtain ⟨hw33v, eL35, hw33r0, hw33r1, hw33r2⟩ := hw33
    subst hw33v
    refine x_st [] rfl ?_
    replace eL35 := eL35.symm; subst eL35
    have h1r : I34 (A + 1) = I (A + 1) := hw33r1 _ (by omega) (by omega)
    refine x_aload_n 56 C dX12_set_56 rfl 0 rfl ?_
    refine x_iload_n 57 C dX12_set_57 rfl 1 rfl ?_
    refine x_callVe 58 C dX12_set_58 (As := [.int (nI 1)]) (rest := []) [.int (I34 (A + 1) (42 + 1))] (t_X12_setting l D z n G I34 L A 1 hM (by first | omega | assumption | decide)) mt_X12_setting km_X12_119 ki_X12_setting ks_X12_setting hM.1 ⟨by decide, rfl⟩ rfl rfl (Nat.le_of_ble_eq_true rfl) ⟨⟨by decide, by decide⟩, by decide, by decide⟩ (fun I36 L37 eI36 eL37 => ?_)
    replace eI36 := eI36.symm; subst eI36
    replace eL37 := eL37.symm; subst eL37
    refine x_int (I (A + 1) (42 + 1)) (by rw [h1r]) ?_
    refine x_istore_n 61 C [(3, .int (I (A + 1) (42 + 1))), (0, .ref A), (1, .int (nI 1)), (2, .int v)] dX12_set_61 rfl (by decide) rfl ?_
    refine x_aload_n 62 C dX12_set_62 rfl 1 rfl ?_
    refine x_getr 63 C (b := A + 1) dX12_set_63 ff_X12_7 rfl hM.1 rfl ?_
    refine x_bipush 66 C (v := 42) dX12_set_66 rfl ?_
    refine x_iload_n 68 C dX12_set_68 rfl 2 rfl ?_
    refine x_iadd 69 C dX12_set_69 ?_
    refine x_int 43 (by decide) ?_
    refine x_iload_n 70 C dX12_set_70 rfl 3 rfl ?_
    refine x_iast 71 C (j := 43) dX12_set_71 hM.2.1 (by omega) ⟨by decide, by decide, by decide⟩ (fun I38 eI38 => ?_)
    refine x_iload_n 72 C dX12_set_72 rfl 2 rfl ?_
    refine x_iconst 73 C (v := 5) dX12_set_73 rfl ?_
    refine x_icmp_eq 74 C 81 dX12_set_74 (by decide) (fun c39 => absurd c39 (by decide)) (fun _ => ?_)
    refine x_aload_n 77 C dX12_set_77 rfl 1 rfl ?_
    refine x_callVp 78 C dX12_set_78 (As := []) (rest := []) (t_X12_beginAll l D z n G I38 L A dx dy hM (by omega) (by rw [eI38, xup_ne _ _ (fun h => absurd h.2 (by decide)), h1r]; exact hdx) (by rw [eI38, xup_ne _ _ (fun h => absurd h.2 (by decide)), h1r]; exact hdy) (by first | omega | assumption | decide) (by first | omega | assumption | decide) (by first | omega | assumption | decide)) mt_X12_beginAll km_X12_64 ki_X12_beginAll ks_X12_beginAll hM.1 ⟨by decide, rfl⟩ rfl (Nat.le_of_ble_eq_true rfl) ⟨⟨by decide, by decide⟩, by decide, by decide⟩ (fun w40 I41 L42 hw40 => ?_)
    obtain ⟨hw40v, hw40r0, hw40r1, hw40r2, hw40r3⟩ := hw40
    subst hw40v
    refine x_st [] rfl ?_
    refine x_iload_n 81 C dX12_set_81 rfl 0 rfl ?_
    refine x_iret 82 C dX12_set_82 rfl rfl (Nat.le_refl _) (xN.intro ?_)
    refine ⟨rfl, mrec_congr (by rw [hw40r2 A (by omega), eI38, xup_row _ _ (by omega)]) (by rw [hw40r2 _ (by omega), eI38, xup_row _ _ (by omega)]) hw33r0, fun k hk => ?_, fun j hj => by rw [hw40r1 j hj, eI38, xup_at, h1r], fun q h0 h1 h2 => by rw [hw40r2 q h1, eI38, xup_row _ _ h1]; exact hw33r1 q h0 h2, fun j hj => by rw [hw40r2 A (by omega), eI38, xup_row _ _ (by omega)]; exact hw33r2 j hj, hw40r3⟩
    rw [hw40r0 k hk, eI38, xup_at, xup_at, h1r]; rfl
  · skip
    refine x_iload_n 0 C dX12_set_0 rfl 1 rfl ?_
    refine x_iconst 1 C (v := 0) dX12_set_1 rfl ?_
    refine x_bipush 2 C (v := 7) dX12_set_2 rfl ?_
    refine x_callSe 4 C dX12_set_4 (As := [.int (nI 2), .int 0, .int 7]) (rest := []) [.int (bI (decide (0 ≤ 2) && decide (2 ≤ 7)))] (t_X12_in_n l D z n G I L 2 0 7 (by first | omega | assumption | decide) (by first | omega | assumption | decide) (by first | omega | assumption | decide)) mt_X12_in km_X12_71 kt_X12_in rfl rfl (Nat.le_of_ble_eq_true rfl) ⟨⟨by decide, by decide⟩, by decide, by decide⟩ (fun I43 L44 eI43 eL44 => ?_)
    replace eI43 := eI43.symm; subst eI43
    replace eL44 := eL44.symm; subst eL44
    refine x_int 1 (by first | decide | (simp [bI]; omega)) ?_
    refine x_if_eq 7 C 25 dX12_set_7 (by decide) (fun c45 => absurd c45 (by decide)) (fun _ => ?_)
    refine x_iload_n 10 C dX12_set_10 rfl 2 rfl ?_
    refine x_iload_n 11 C dX12_set_11 rfl 1 rfl ?_
    refine x_callSe 12 C dX12_set_12 (As := [.int (nI 2)]) (rest := [.int v]) [.int (xLv 2), .int v] (t_X12_least l D z n G I L 2 (by first | omega | assumption | decide)) mt_X12_least km_X12_231 kt_X12_least rfl rfl (Nat.le_of_ble_eq_true rfl) ⟨⟨by decide, by decide⟩, by decide, by decide⟩ (fun I46 L47 eI46 eL47 => ?_)
    replace eI46 := eI46.symm; subst eI46
    replace eL47 := eL47.symm; subst eL47
    refine x_int (xLv 2) rfl ?_
    refine x_iload_n 15 C dX12_set_15 rfl 1 rfl ?_
    refine x_callSe 16 C dX12_set_16 (As := [.int (nI 2)]) (rest := [.int (xLv 2), .int v]) [.int (xGv 2), .int (xLv 2), .int v] (t_X12_most l D z n G I L 2 (by first | omega | assumption | decide)) mt_X12_most km_X12_234 kt_X12_most rfl rfl (Nat.le_of_ble_eq_true rfl) ⟨⟨by decide, by decide⟩, by decide, by decide⟩ (fun I48 L49 eI48 eL49 => ?_)
    replace eI48 := eI48.symm; subst eI48
    replace eL49 := eL49.symm; subst eL49
    refine x_int (xGv 2) rfl ?_
    refine x_callSe 19 C dX12_set_19 (As := [.int v, .int (xLv 2), .int (xGv 2)]) (rest := []) [.int (bI (decide ((xLv 2) ≤ v) && decide (v ≤ (xGv 2))))] (t_X12_in l D z n G I L v (xLv 2) (xGv 2) ) mt_X12_in km_X12_71 kt_X12_in rfl rfl (Nat.le_of_ble_eq_true rfl) ⟨⟨by decide, by decide⟩, by decide, by decide⟩ (fun I50 L51 eI50 eL51 => ?_)
    replace eI50 := eI50.symm; subst eI50
    replace eL51 := eL51.symm; subst eL51
    refine x_int (bI (inRg 2 v)) rfl ?_
    refine x_if_ne 22 C 28 dX12_set_22 (by decide) (fun _ => ?_) (fun c52 => absurd c52 (bI_n0.mpr hin))
    refine x_iload_n 28 C dX12_set_28 rfl 1 rfl ?_
    refine x_bipush 29 C (v := 6) dX12_set_29 rfl ?_
    refine x_icmp_lt 31 C 52 dX12_set_31 (by decide) (fun _ => ?_) (fun c53 => absurd (by decide) c53)
    refine x_aload_n 52 C dX12_set_52 rfl 0 rfl ?_
    refine x_callVp 53 C dX12_set_53 (As := []) (rest := []) (t_X12_save0 l D z n G I L A Z hM (by omega) (by first | assumption | omega | decide) (by first | omega | assumption | decide)) mt_X12_save0 km_X12_200 ki_X12_save0 ks_X12_save0 hM.1 ⟨by decide, rfl⟩ rfl (Nat.le_of_ble_eq_true rfl) ⟨⟨by decide, by decide⟩, by decide, by decide⟩ (fun w54 I55 L56 hw54 => ?_)
    obtain ⟨hw54v, eL56, hw54r0, hw54r1, hw54r2⟩ := hw54
    subst hw54v
    refine x_st [] rfl ?_
    replace eL56 := eL56.symm; subst eL56
    have h1r : I55 (A + 1) = I (A + 1) := hw54r1 _ (by omega) (by omega)
    refine x_aload_n 56 C dX12_set_56 rfl 0 rfl ?_
    refine x_iload_n 57 C dX12_set_57 rfl 1 rfl ?_
    refine x_callVe 58 C dX12_set_58 (As := [.int (nI 2)]) (rest := []) [.int (I55 (A + 1) (42 + 2))] (t_X12_setting l D z n G I55 L A 2 hM (by first | omega | assumption | decide)) mt_X12_setting km_X12_119 ki_X12_setting ks_X12_setting hM.1 ⟨by decide, rfl⟩ rfl rfl (Nat.le_of_ble_eq_true rfl) ⟨⟨by decide, by decide⟩, by decide, by decide⟩ (fun I57 L58 eI57 eL58 => ?_)
    replace eI57 := eI57.symm; subst eI57
    replace eL58 := eL58.symm; subst eL58
    refine x_int (I (A + 1) (42 + 2)) (by rw [h1r]) ?_
    refine x_istore_n 61 C [(3, .int (I (A + 1) (42 + 2))), (0, .ref A), (1, .int (nI 2)), (2, .int v)] dX12_set_61 rfl (by decide) rfl ?_
    refine x_aload_n 62 C dX12_set_62 rfl 1 rfl ?_
    refine x_getr 63 C (b := A + 1) dX12_set_63 ff_X12_7 rfl hM.1 rfl ?_
    refine x_bipush 66 C (v := 42) dX12_set_66 rfl ?_
    refine x_iload_n 68 C dX12_set_68 rfl 2 rfl ?_
    refine x_iadd 69 C dX12_set_69 ?_
    refine x_int 44 (by decide) ?_
    refine x_iload_n 70 C dX12_set_70 rfl 3 rfl ?_
    refine x_iast 71 C (j := 44) dX12_set_71 hM.2.1 (by omega) ⟨by decide, by decide, by decide⟩ (fun I59 eI59 => ?_)
    refine x_iload_n 72 C dX12_set_72 rfl 2 rfl ?_
    refine x_iconst 73 C (v := 5) dX12_set_73 rfl ?_
    refine x_icmp_eq 74 C 81 dX12_set_74 (by decide) (fun c60 => absurd c60 (by decide)) (fun _ => ?_)
    refine x_aload_n 77 C dX12_set_77 rfl 1 rfl ?_
    refine x_callVp 78 C dX12_set_78 (As := []) (rest := []) (t_X12_beginAll l D z n G I59 L A dx dy hM (by omega) (by rw [eI59, xup_ne _ _ (fun h => absurd h.2 (by decide)), h1r]; exact hdx) (by rw [eI59, xup_ne _ _ (fun h => absurd h.2 (by decide)), h1r]; exact hdy) (by first | omega | assumption | decide) (by first | omega | assumption | decide) (by first | omega | assumption | decide)) mt_X12_beginAll km_X12_64 ki_X12_beginAll ks_X12_beginAll hM.1 ⟨by decide, rfl⟩ rfl (Nat.le_of_ble_eq_true rfl) ⟨⟨by decide, by decide⟩, by decide, by decide⟩ (fun w61 I62 L63 hw61 => ?_)
    obtain ⟨hw61v, hw61r0, hw61r1, hw61r2, hw61r3⟩ := hw61
    subst hw61v
    refine x_st [] rfl ?_
    refine x_iload_n 81 C dX12_set_81 rfl 0 rfl ?_
    refine x_iret 82 C dX12_set_82 rfl rfl (Nat.le_refl _) (xN.intro ?_)
    refine ⟨rfl, mrec_congr (by rw [hw61r2 A (by omega), eI59, xup_row _ _ (by omega)]) (by rw [hw61r2 _ (by omega), eI59, xup_row _ _ (by omega)]) hw54r0, fun k hk => ?_, fun j hj => by rw [hw61r1 j hj, eI59, xup_at, h1r], fun q h0 h1 h2 => by rw [hw61r2 q h1, eI59, xup_row _ _ h1]; exact hw54r1 q h0 h2, fun j hj => by rw [hw61r2 A (by omega), eI59, xup_row _ _ (by omega)]; exact hw54r2 j hj, hw61r3⟩
    rw [hw61r0 k hk, eI59, xup_at, xup_at, h1r]; rfl
  · skip
    refine x_iload_n 0 C dX12_set_0 rfl 1 rfl ?_
    refine x_iconst 1 C (v := 0) dX12_set_1 rfl ?_
    refine x_bipush 2 C (v := 7) dX12_set_2 rfl ?_
    refine x_callSe 4 C dX12_set_4 (As := [.int (nI 3), .int 0, .int 7]) (rest := []) [.int (bI (decide (0 ≤ 3) && decide (3 ≤ 7)))] (t_X12_in_n l D z n G I L 3 0 7 (by first | omega | assumption | decide) (by first | omega | assumption | decide) (by first | omega | assumption | decide)) mt_X12_in km_X12_71 kt_X12_in rfl rfl (Nat.le_of_ble_eq_true rfl) ⟨⟨by decide, by decide⟩, by decide, by decide⟩ (fun I64 L65 eI64 eL65 => ?_)
    replace eI64 := eI64.symm; subst eI64
    replace eL65 := eL65.symm; subst eL65
    refine x_int 1 (by first | decide | (simp [bI]; omega)) ?_
    refine x_if_eq 7 C 25 dX12_set_7 (by decide) (fun c66 => absurd c66 (by decide)) (fun _ => ?_)
    refine x_iload_n 10 C dX12_set_10 rfl 2 rfl ?_
    refine x_iload_n 11 C dX12_set_11 rfl 1 rfl ?_
    refine x_callSe 12 C dX12_set_12 (As := [.int (nI 3)]) (rest := [.int v]) [.int (xLv 3), .int v] (t_X12_least l D z n G I L 3 (by first | omega | assumption | decide)) mt_X12_least km_X12_231 kt_X12_least rfl rfl (Nat.le_of_ble_eq_true rfl) ⟨⟨by decide, by decide⟩, by decide, by decide⟩ (fun I67 L68 eI67 eL68 => ?_)
    replace eI67 := eI67.symm; subst eI67
    replace eL68 := eL68.symm; subst eL68
    refine x_int (xLv 3) rfl ?_
    refine x_iload_n 15 C dX12_set_15 rfl 1 rfl ?_
    refine x_callSe 16 C dX12_set_16 (As := [.int (nI 3)]) (rest := [.int (xLv 3), .int v]) [.int (xGv 3), .int (xLv 3), .int v] (t_X12_most l D z n G I L 3 (by first | omega | assumption | decide)) mt_X12_most km_X12_234 kt_X12_most rfl rfl (Nat.le_of_ble_eq_true rfl) ⟨⟨by decide, by decide⟩, by decide, by decide⟩ (fun I69 L70 eI69 eL70 => ?_)
    replace eI69 := eI69.symm; subst eI69
    replace eL70 := eL70.symm; subst eL70
    refine x_int (xGv 3) rfl ?_
    refine x_callSe 19 C dX12_set_19 (As := [.int v, .int (xLv 3), .int (xGv 3)]) (rest := []) [.int (bI (decide ((xLv 3) ≤ v) && decide (v ≤ (xGv 3))))] (t_X12_in l D z n G I L v (xLv 3) (xGv 3) ) mt_X12_in km_X12_71 kt_X12_in rfl rfl (Nat.le_of_ble_eq_true rfl) ⟨⟨by decide, by decide⟩, by decide, by decide⟩ (fun I71 L72 eI71 eL72 => ?_)
    replace eI71 := eI71.symm; subst eI71
    replace eL72 := eL72.symm; subst eL72
    refine x_int (bI (inRg 3 v)) rfl ?_
    refine x_if_ne 22 C 28 dX12_set_22 (by decide) (fun _ => ?_) (fun c73 => absurd c73 (bI_n0.mpr hin))
    refine x_iload_n 28 C dX12_set_28 rfl 1 rfl ?_
    refine x_bipush 29 C (v := 6) dX12_set_29 rfl ?_
    refine x_icmp_lt 31 C 52 dX12_set_31 (by decide) (fun _ => ?_) (fun c74 => absurd (by decide) c74)
    refine x_aload_n 52 C dX12_set_52 rfl 0 rfl ?_
    refine x_callVp 53 C dX12_set_53 (As := []) (rest := []) (t_X12_save0 l D z n G I L A Z hM (by omega) (by first | assumption | omega | decide) (by first | omega | assumption | decide)) mt_X12_save0 km_X12_200 ki_X12_save0 ks_X12_save0 hM.1 ⟨by decide, rfl⟩ rfl (Nat.le_of_ble_eq_true rfl) ⟨⟨by decide, by decide⟩, by decide, by decide⟩ (fun w75 I76 L77 hw75 => ?_)
    obtain ⟨hw75v, eL77, hw75r0, hw75r1, hw75r2⟩ := hw75
    subst hw75v
    refine x_st [] rfl ?_
    replace eL77 := eL77.symm; subst eL77
    have h1r : I76 (A + 1) = I (A + 1) := hw75r1 _ (by omega) (by omega)
    refine x_aload_n 56 C dX12_set_56 rfl 0 rfl ?_
    refine x_iload_n 57 C dX12_set_57 rfl 1 rfl ?_
    refine x_callVe 58 C dX12_set_58 (As := [.int (nI 3)]) (rest := []) [.int (I76 (A + 1) (42 + 3))] (t_X12_setting l D z n G I76 L A 3 hM (by first | omega | assumption | decide)) mt_X12_setting km_X12_119 ki_X12_setting ks_X12_setting hM.1 ⟨by decide, rfl⟩ rfl rfl (Nat.le_of_ble_eq_true rfl) ⟨⟨by decide, by decide⟩, by decide, by decide⟩ (fun I78 L79 eI78 eL79 => ?_)
    replace eI78 := eI78.symm; subst eI78
    replace eL79 := eL79.symm; subst eL79
    refine x_int (I (A + 1) (42 + 3)) (by rw [h1r]) ?_
    refine x_istore_n 61 C [(3, .int (I (A + 1) (42 + 3))), (0, .ref A), (1, .int (nI 3)), (2, .int v)] dX12_set_61 rfl (by decide) rfl ?_
    refine x_aload_n 62 C dX12_set_62 rfl 1 rfl ?_
    refine x_getr 63 C (b := A + 1) dX12_set_63 ff_X12_7 rfl hM.1 rfl ?_
    refine x_bipush 66 C (v := 42) dX12_set_66 rfl ?_
    refine x_iload_n 68 C dX12_set_68 rfl 2 rfl ?_
    refine x_iadd 69 C dX12_set_69 ?_
    refine x_int 45 (by decide) ?_
    refine x_iload_n 70 C dX12_set_70 rfl 3 rfl ?_
    refine x_iast 71 C (j := 45) dX12_set_71 hM.2.1 (by omega) ⟨by decide, by decide, by decide⟩ (fun I80 eI80 => ?_)
    refine x_iload_n 72 C dX12_set_72 rfl 2 rfl ?_
    refine x_iconst 73 C (v := 5) dX12_set_73 rfl ?_
    refine x_icmp_eq 74 C 81 dX12_set_74 (by decide) (fun c81 => absurd c81 (by decide)) (fun _ => ?_)
    refine x_aload_n 77 C dX12_set_77 rfl 1 rfl ?_
    refine x_callVp 78 C dX12_set_78 (As := []) (rest := []) (t_X12_beginAll l D z n G I80 L A dx dy hM (by omega) (by rw [eI80, xup_ne _ _ (fun h => absurd h.2 (by decide)), h1r]; exact hdx) (by rw [eI80, xup_ne _ _ (fun h => absurd h.2 (by decide)), h1r]; exact hdy) (by first | omega | assumption | decide) (by first | omega | assumption | decide) (by first | omega | assumption | decide)) mt_X12_beginAll km_X12_64 ki_X12_beginAll ks_X12_beginAll hM.1 ⟨by decide, rfl⟩ rfl (Nat.le_of_ble_eq_true rfl) ⟨⟨by decide, by decide⟩, by decide, by decide⟩ (fun w82 I83 L84 hw82 => ?_)
    obtain ⟨hw82v, hw82r0, hw82r1, hw82r2, hw82r3⟩ := hw82
    subst hw82v
    refine x_st [] rfl ?_
    refine x_iload_n 81 C dX12_set_81 rfl 0 rfl ?_
    refine x_iret 82 C dX12_set_82 rfl rfl (Nat.le_refl _) (xN.intro ?_)
    refine ⟨rfl, mrec_congr (by rw [hw82r2 A (by omega), eI80, xup_row _ _ (by omega)]) (by rw [hw82r2 _ (by omega), eI80, xup_row _ _ (by omega)]) hw75r0, fun k hk => ?_, fun j hj => by rw [hw82r1 j hj, eI80, xup_at, h1r], fun q h0 h1 h2 => by rw [hw82r2 q h1, eI80, xup_row _ _ h1]; exact hw75r1 q h0 h2, fun j hj => by rw [hw82r2 A (by omega), eI80, xup_row _ _ (by omega)]; exact hw75r2 j hj, hw82r3⟩
    rw [hw82r0 k hk, eI80, xup_at, xup_at, h1r]; rfl
  · skip
    refine x_iload_n 0 C dX12_set_0 rfl 1 rfl ?_
    refine x_iconst 1 C (v := 0) dX12_set_1 rfl ?_
    refine x_bipush 2 C (v := 7) dX12_set_2 rfl ?_
    refine x_callSe 4 C dX12_set_4 (As := [.int (nI 4), .int 0, .int 7]) (rest := []) [.int (bI (decide (0 ≤ 4) && decide (4 ≤ 7)))] (t_X12_in_n l D z n G I L 4 0 7 (by first | omega | assumption | decide) (by first | omega | assumption | decide) (by first | omega | assumption | decide)) mt_X12_in km_X12_71 kt_X12_in rfl rfl (Nat.le_of_ble_eq_true rfl) ⟨⟨by decide, by decide⟩, by decide, by decide⟩ (fun I85 L86 eI85 eL86 => ?_)
    replace eI85 := eI85.symm; subst eI85
    replace eL86 := eL86.symm; subst eL86
    refine x_int 1 (by first | decide | (simp [bI]; omega)) ?_
    refine x_if_eq 7 C 25 dX12_set_7 (by decide) (fun c87 => absurd c87 (by decide)) (fun _ => ?_)
    refine x_iload_n 10 C dX12_set_10 rfl 2 rfl ?_
    refine x_iload_n 11 C dX12_set_11 rfl 1 rfl ?_
    refine x_callSe 12 C dX12_set_12 (As := [.int (nI 4)]) (rest := [.int v]) [.int (xLv 4), .int v] (t_X12_least l D z n G I L 4 (by first | omega | assumption | decide)) mt_X12_least km_X12_231 kt_X12_least rfl rfl (Nat.le_of_ble_eq_true rfl) ⟨⟨by decide, by decide⟩, by decide, by decide⟩ (fun I88 L89 eI88 eL89 => ?_)
    replace eI88 := eI88.symm; subst eI88
    replace eL89 := eL89.symm; subst eL89
    refine x_int (xLv 4) rfl ?_
    refine x_iload_n 15 C dX12_set_15 rfl 1 rfl ?_
    refine x_callSe 16 C dX12_set_16 (As := [.int (nI 4)]) (rest := [.int (xLv 4), .int v]) [.int (xGv 4), .int (xLv 4), .int v] (t_X12_most l D z n G I L 4 (by first | omega | assumption | decide)) mt_X12_most km_X12_234 kt_X12_most rfl rfl (Nat.le_of_ble_eq_true rfl) ⟨⟨by decide, by decide⟩, by decide, by decide⟩ (fun I90 L91 eI90 eL91 => ?_)
    replace eI90 := eI90.symm; subst eI90
    replace eL91 := eL91.symm; subst eL91
    refine x_int (xGv 4) rfl ?_
    refine x_callSe 19 C dX12_set_19 (As := [.int v, .int (xLv 4), .int (xGv 4)]) (rest := []) [.int (bI (decide ((xLv 4) ≤ v) && decide (v ≤ (xGv 4))))] (t_X12_in l D z n G I L v (xLv 4) (xGv 4) ) mt_X12_in km_X12_71 kt_X12_in rfl rfl (Nat.le_of_ble_eq_true rfl) ⟨⟨by decide, by decide⟩, by decide, by decide⟩ (fun I92 L93 eI92 eL93 => ?_)
    replace eI92 := eI92.symm; subst eI92
    replace eL93 := eL93.symm; subst eL93
    refine x_int (bI (inRg 4 v)) rfl ?_
    refine x_if_ne 22 C 28 dX12_set_22 (by decide) (fun _ => ?_) (fun c94 => absurd c94 (bI_n0.mpr hin))
    refine x_iload_n 28 C dX12_set_28 rfl 1 rfl ?_
    refine x_bipush 29 C (v := 6) dX12_set_29 rfl ?_
    refine x_icmp_lt 31 C 52 dX12_set_31 (by decide) (fun _ => ?_) (fun c95 => absurd (by decide) c95)
    refine x_aload_n 52 C dX12_set_52 rfl 0 rfl ?_
    refine x_callVp 53 C dX12_set_53 (As := []) (rest := []) (t_X12_save0 l D z n G I L A Z hM (by omega) (by first | assumption | omega | decide) (by first | omega | assumption | decide)) mt_X12_save0 km_X12_200 ki_X12_save0 ks_X12_save0 hM.1 ⟨by decide, rfl⟩ rfl (Nat.le_of_ble_eq_true rfl) ⟨⟨by decide, by decide⟩, by decide, by decide⟩ (fun w96 I97 L98 hw96 => ?_)
    obtain ⟨hw96v, eL98, hw96r0, hw96r1, hw96r2⟩ := hw96
    subst hw96v
    refine x_st [] rfl ?_
    replace eL98 := eL98.symm; subst eL98
    have h1r : I97 (A + 1) = I (A + 1) := hw96r1 _ (by omega) (by omega)
    refine x_aload_n 56 C dX12_set_56 rfl 0 rfl ?_
    refine x_iload_n 57 C dX12_set_57 rfl 1 rfl ?_
    refine x_callVe 58 C dX12_set_58 (As := [.int (nI 4)]) (rest := []) [.int (I97 (A + 1) (42 + 4))] (t_X12_setting l D z n G I97 L A 4 hM (by first | omega | assumption | decide)) mt_X12_setting km_X12_119 ki_X12_setting ks_X12_setting hM.1 ⟨by decide, rfl⟩ rfl rfl (Nat.le_of_ble_eq_true rfl) ⟨⟨by decide, by decide⟩, by decide, by decide⟩ (fun I99 L100 eI99 eL100 => ?_)
    replace eI99 := eI99.symm; subst eI99
    replace eL100 := eL100.symm; subst eL100
    refine x_int (I (A + 1) (42 + 4)) (by rw [h1r]) ?_
    refine x_istore_n 61 C [(3, .int (I (A + 1) (42 + 4))), (0, .ref A), (1, .int (nI 4)), (2, .int v)] dX12_set_61 rfl (by decide) rfl ?_
    refine x_aload_n 62 C dX12_set_62 rfl 1 rfl ?_
    refine x_getr 63 C (b := A + 1) dX12_set_63 ff_X12_7 rfl hM.1 rfl ?_
    refine x_bipush 66 C (v := 42) dX12_set_66 rfl ?_
    refine x_iload_n 68 C dX12_set_68 rfl 2 rfl ?_
    refine x_iadd 69 C dX12_set_69 ?_
    refine x_int 46 (by decide) ?_
    refine x_iload_n 70 C dX12_set_70 rfl 3 rfl ?_
    refine x_iast 71 C (j := 46) dX12_set_71 hM.2.1 (by omega) ⟨by decide, by decide, by decide⟩ (fun I101 eI101 => ?_)
    refine x_iload_n 72 C dX12_set_72 rfl 2 rfl ?_
    refine x_iconst 73 C (v := 5) dX12_set_73 rfl ?_
    refine x_icmp_eq 74 C 81 dX12_set_74 (by decide) (fun c102 => absurd c102 (by decide)) (fun _ => ?_)
    refine x_aload_n 77 C dX12_set_77 rfl 1 rfl ?_
    refine x_callVp 78 C dX12_set_78 (As := []) (rest := []) (t_X12_beginAll l D z n G I101 L A dx dy hM (by omega) (by rw [eI101, xup_ne _ _ (fun h => absurd h.2 (by decide)), h1r]; exact hdx) (by rw [eI101, xup_ne _ _ (fun h => absurd h.2 (by decide)), h1r]; exact hdy) (by first | omega | assumption | decide) (by first | omega | assumption | decide) (by first | omega | assumption | decide)) mt_X12_beginAll km_X12_64 ki_X12_beginAll ks_X12_beginAll hM.1 ⟨by decide, rfl⟩ rfl (Nat.le_of_ble_eq_true rfl) ⟨⟨by decide, by decide⟩, by decide, by decide⟩ (fun w103 I104 L105 hw103 => ?_)
    obtain ⟨hw103v, hw103r0, hw103r1, hw103r2, hw103r3⟩ := hw103
    subst hw103v
    refine x_st [] rfl ?_
    refine x_iload_n 81 C dX12_set_81 rfl 0 rfl ?_
    refine x_iret 82 C dX12_set_82 rfl rfl (Nat.le_refl _) (xN.intro ?_)
    refine ⟨rfl, mrec_congr (by rw [hw103r2 A (by omega), eI101, xup_row _ _ (by omega)]) (by rw [hw103r2 _ (by omega), eI101, xup_row _ _ (by omega)]) hw96r0, fun k hk => ?_, fun j hj => by rw [hw103r1 j hj, eI101, xup_at, h1r], fun q h0 h1 h2 => by rw [hw103r2 q h1, eI101, xup_row _ _ h1]; exact hw96r1 q h0 h2, fun j hj => by rw [hw103r2 A (by omega), eI101, xup_row _ _ (by omega)]; exact hw96r2 j hj, hw103r3⟩
    rw [hw103r0 k hk, eI101, xup_at, xup_at, h1r]; rfl
  · skip
    refine x_iload_n 0 C dX12_set_0 rfl 1 rfl ?_
    refine x_iconst 1 C (v := 0) dX12_set_1 rfl ?_
    refine x_bipush 2 C (v := 7) dX12_set_2 rfl ?_
    refine x_callSe 4 C dX12_set_4 (As := [.int (nI 6), .int 0, .int 7]) (rest := []) [.int (bI (decide (0 ≤ 6) && decide (6 ≤ 7)))] (t_X12_in_n l D z n G I L 6 0 7 (by first | omega | assumption | decide) (by first | omega | assumption | decide) (by first | omega | assumption | decide)) mt_X12_in km_X12_71 kt_X12_in rfl rfl (Nat.le_of_ble_eq_true rfl) ⟨⟨by decide, by decide⟩, by decide, by decide⟩ (fun I106 L107 eI106 eL107 => ?_)
    replace eI106 := eI106.symm; subst eI106
    replace eL107 := eL107.symm; subst eL107
    refine x_int 1 (by first | decide | (simp [bI]; omega)) ?_
    refine x_if_eq 7 C 25 dX12_set_7 (by decide) (fun c108 => absurd c108 (by decide)) (fun _ => ?_)
    refine x_iload_n 10 C dX12_set_10 rfl 2 rfl ?_
    refine x_iload_n 11 C dX12_set_11 rfl 1 rfl ?_
    refine x_callSe 12 C dX12_set_12 (As := [.int (nI 6)]) (rest := [.int v]) [.int (xLv 6), .int v] (t_X12_least l D z n G I L 6 (by first | omega | assumption | decide)) mt_X12_least km_X12_231 kt_X12_least rfl rfl (Nat.le_of_ble_eq_true rfl) ⟨⟨by decide, by decide⟩, by decide, by decide⟩ (fun I109 L110 eI109 eL110 => ?_)
    replace eI109 := eI109.symm; subst eI109
    replace eL110 := eL110.symm; subst eL110
    refine x_int (xLv 6) rfl ?_
    refine x_iload_n 15 C dX12_set_15 rfl 1 rfl ?_
    refine x_callSe 16 C dX12_set_16 (As := [.int (nI 6)]) (rest := [.int (xLv 6), .int v]) [.int (xGv 6), .int (xLv 6), .int v] (t_X12_most l D z n G I L 6 (by first | omega | assumption | decide)) mt_X12_most km_X12_234 kt_X12_most rfl rfl (Nat.le_of_ble_eq_true rfl) ⟨⟨by decide, by decide⟩, by decide, by decide⟩ (fun I111 L112 eI111 eL112 => ?_)
    replace eI111 := eI111.symm; subst eI111
    replace eL112 := eL112.symm; subst eL112
    refine x_int (xGv 6) rfl ?_
    refine x_callSe 19 C dX12_set_19 (As := [.int v, .int (xLv 6), .int (xGv 6)]) (rest := []) [.int (bI (decide ((xLv 6) ≤ v) && decide (v ≤ (xGv 6))))] (t_X12_in l D z n G I L v (xLv 6) (xGv 6) ) mt_X12_in km_X12_71 kt_X12_in rfl rfl (Nat.le_of_ble_eq_true rfl) ⟨⟨by decide, by decide⟩, by decide, by decide⟩ (fun I113 L114 eI113 eL114 => ?_)
    replace eI113 := eI113.symm; subst eI113
    replace eL114 := eL114.symm; subst eL114
    refine x_int (bI (inRg 6 v)) rfl ?_
    refine x_if_ne 22 C 28 dX12_set_22 (by decide) (fun _ => ?_) (fun c115 => absurd c115 (bI_n0.mpr hin))
    refine x_iload_n 28 C dX12_set_28 rfl 1 rfl ?_
    refine x_bipush 29 C (v := 6) dX12_set_29 rfl ?_
    refine x_icmp_lt 31 C 52 dX12_set_31 (by decide) (fun c116 => absurd c116 (by decide)) (fun _ => ?_)
    refine x_iload_n 34 C dX12_set_34 rfl 2 rfl ?_
    refine x_if_ne 35 C 52 dX12_set_35 (by decide) (fun c117 => ?_) (fun c117 => ?_)
    · skip
      refine x_aload_n 52 C dX12_set_52 rfl 0 rfl ?_
      refine x_callVp 53 C dX12_set_53 (As := []) (rest := []) (t_X12_save0 l D z n G I L A Z hM (by omega) (by first | assumption | omega | decide) (by first | omega | assumption | decide)) mt_X12_save0 km_X12_200 ki_X12_save0 ks_X12_save0 hM.1 ⟨by decide, rfl⟩ rfl (Nat.le_of_ble_eq_true rfl) ⟨⟨by decide, by decide⟩, by decide, by decide⟩ (fun w118 I119 L120 hw118 => ?_)
      obtain ⟨hw118v, eL120, hw118r0, hw118r1, hw118r2⟩ := hw118
      subst hw118v
      refine x_st [] rfl ?_
      replace eL120 := eL120.symm; subst eL120
      have h1r : I119 (A + 1) = I (A + 1) := hw118r1 _ (by omega) (by omega)
      refine x_aload_n 56 C dX12_set_56 rfl 0 rfl ?_
      refine x_iload_n 57 C dX12_set_57 rfl 1 rfl ?_
      refine x_callVe 58 C dX12_set_58 (As := [.int (nI 6)]) (rest := []) [.int (I119 (A + 1) (42 + 6))] (t_X12_setting l D z n G I119 L A 6 hM (by first | omega | assumption | decide)) mt_X12_setting km_X12_119 ki_X12_setting ks_X12_setting hM.1 ⟨by decide, rfl⟩ rfl rfl (Nat.le_of_ble_eq_true rfl) ⟨⟨by decide, by decide⟩, by decide, by decide⟩ (fun I121 L122 eI121 eL122 => ?_)
      replace eI121 := eI121.symm; subst eI121
      replace eL122 := eL122.symm; subst eL122
      refine x_int (I (A + 1) (42 + 6)) (by rw [h1r]) ?_
      refine x_istore_n 61 C [(3, .int (I (A + 1) (42 + 6))), (0, .ref A), (1, .int (nI 6)), (2, .int v)] dX12_set_61 rfl (by decide) rfl ?_
      refine x_aload_n 62 C dX12_set_62 rfl 1 rfl ?_
      refine x_getr 63 C (b := A + 1) dX12_set_63 ff_X12_7 rfl hM.1 rfl ?_
      refine x_bipush 66 C (v := 42) dX12_set_66 rfl ?_
      refine x_iload_n 68 C dX12_set_68 rfl 2 rfl ?_
      refine x_iadd 69 C dX12_set_69 ?_
      refine x_int 48 (by decide) ?_
      refine x_iload_n 70 C dX12_set_70 rfl 3 rfl ?_
      refine x_iast 71 C (j := 48) dX12_set_71 hM.2.1 (by omega) ⟨by decide, by decide, by decide⟩ (fun I123 eI123 => ?_)
      refine x_iload_n 72 C dX12_set_72 rfl 2 rfl ?_
      refine x_iconst 73 C (v := 5) dX12_set_73 rfl ?_
      refine x_icmp_eq 74 C 81 dX12_set_74 (by decide) (fun c124 => absurd c124 (by decide)) (fun _ => ?_)
      refine x_aload_n 77 C dX12_set_77 rfl 1 rfl ?_
      refine x_callVp 78 C dX12_set_78 (As := []) (rest := []) (t_X12_beginAll l D z n G I123 L A dx dy hM (by omega) (by rw [eI123, xup_ne _ _ (fun h => absurd h.2 (by decide)), h1r]; exact hdx) (by rw [eI123, xup_ne _ _ (fun h => absurd h.2 (by decide)), h1r]; exact hdy) (by first | omega | assumption | decide) (by first | omega | assumption | decide) (by first | omega | assumption | decide)) mt_X12_beginAll km_X12_64 ki_X12_beginAll ks_X12_beginAll hM.1 ⟨by decide, rfl⟩ rfl (Nat.le_of_ble_eq_true rfl) ⟨⟨by decide, by decide⟩, by decide, by decide⟩ (fun w125 I126 L127 hw125 => ?_)
      obtain ⟨hw125v, hw125r0, hw125r1, hw125r2, hw125r3⟩ := hw125
      subst hw125v
      refine x_st [] rfl ?_
      refine x_iload_n 81 C dX12_set_81 rfl 0 rfl ?_
      refine x_iret 82 C dX12_set_82 rfl rfl (Nat.le_refl _) (xN.intro ?_)
      refine ⟨rfl, mrec_congr (by rw [hw125r2 A (by omega), eI123, xup_row _ _ (by omega)]) (by rw [hw125r2 _ (by omega), eI123, xup_row _ _ (by omega)]) hw118r0, fun k hk => ?_, fun j hj => by rw [hw125r1 j hj, eI123, xup_at, h1r], fun q h0 h1 h2 => by rw [hw125r2 q h1, eI123, xup_row _ _ h1]; exact hw118r1 q h0 h2, fun j hj => by rw [hw125r2 A (by omega), eI123, xup_row _ _ (by omega)]; exact hw118r2 j hj, hw125r3⟩
      rw [hw125r0 k hk, eI123, xup_at, xup_at, h1r]; rfl
    · skip
      have hv0 := c117
      refine x_aload_n 38 C dX12_set_38 rfl 0 rfl ?_
      refine x_bipush 39 C (v := 13) dX12_set_39 rfl ?_
      refine x_iload_n 41 C dX12_set_41 rfl 1 rfl ?_
      refine x_isub 42 C dX12_set_42 ?_
      refine x_int 7 (by decide) ?_
      refine x_callVe 43 C dX12_set_43 (As := [.int 7]) (rest := []) [.int (I (A + 1) (42 + 7))] (t_X12_setting l D z n G I L A 7 hM (by first | omega | assumption | decide)) mt_X12_setting km_X12_119 ki_X12_setting ks_X12_setting hM.1 ⟨by decide, rfl⟩ rfl rfl (Nat.le_of_ble_eq_true rfl) ⟨⟨by decide, by decide⟩, by decide, by decide⟩ (fun I128 L129 eI128 eL129 => ?_)
      replace eI128 := eI128.symm; subst eI128
      replace eL129 := eL129.symm; subst eL129
      refine x_if_ne 46 C 52 dX12_set_46 (by decide) (fun c130 => ?_) (fun c130 => ?_)
      · skip
        refine x_aload_n 52 C dX12_set_52 rfl 0 rfl ?_
        refine x_callVp 53 C dX12_set_53 (As := []) (rest := []) (t_X12_save0 l D z n G I L A Z hM (by omega) (by first | assumption | omega | decide) (by first | omega | assumption | decide)) mt_X12_save0 km_X12_200 ki_X12_save0 ks_X12_save0 hM.1 ⟨by decide, rfl⟩ rfl (Nat.le_of_ble_eq_true rfl) ⟨⟨by decide, by decide⟩, by decide, by decide⟩ (fun w131 I132 L133 hw131 => ?_)
        obtain ⟨hw131v, eL133, hw131r0, hw131r1, hw131r2⟩ := hw131
        subst hw131v
        refine x_st [] rfl ?_
        replace eL133 := eL133.symm; subst eL133
        have h1r : I132 (A + 1) = I (A + 1) := hw131r1 _ (by omega) (by omega)
        refine x_aload_n 56 C dX12_set_56 rfl 0 rfl ?_
        refine x_iload_n 57 C dX12_set_57 rfl 1 rfl ?_
        refine x_callVe 58 C dX12_set_58 (As := [.int (nI 6)]) (rest := []) [.int (I132 (A + 1) (42 + 6))] (t_X12_setting l D z n G I132 L A 6 hM (by first | omega | assumption | decide)) mt_X12_setting km_X12_119 ki_X12_setting ks_X12_setting hM.1 ⟨by decide, rfl⟩ rfl rfl (Nat.le_of_ble_eq_true rfl) ⟨⟨by decide, by decide⟩, by decide, by decide⟩ (fun I134 L135 eI134 eL135 => ?_)
        replace eI134 := eI134.symm; subst eI134
        replace eL135 := eL135.symm; subst eL135
        refine x_int (I (A + 1) (42 + 6)) (by rw [h1r]) ?_
        refine x_istore_n 61 C [(3, .int (I (A + 1) (42 + 6))), (0, .ref A), (1, .int (nI 6)), (2, .int v)] dX12_set_61 rfl (by decide) rfl ?_
        refine x_aload_n 62 C dX12_set_62 rfl 1 rfl ?_
        refine x_getr 63 C (b := A + 1) dX12_set_63 ff_X12_7 rfl hM.1 rfl ?_
        refine x_bipush 66 C (v := 42) dX12_set_66 rfl ?_
        refine x_iload_n 68 C dX12_set_68 rfl 2 rfl ?_
        refine x_iadd 69 C dX12_set_69 ?_
        refine x_int 48 (by decide) ?_
        refine x_iload_n 70 C dX12_set_70 rfl 3 rfl ?_
        refine x_iast 71 C (j := 48) dX12_set_71 hM.2.1 (by omega) ⟨by decide, by decide, by decide⟩ (fun I136 eI136 => ?_)
        refine x_iload_n 72 C dX12_set_72 rfl 2 rfl ?_
        refine x_iconst 73 C (v := 5) dX12_set_73 rfl ?_
        refine x_icmp_eq 74 C 81 dX12_set_74 (by decide) (fun c137 => absurd c137 (by decide)) (fun _ => ?_)
        refine x_aload_n 77 C dX12_set_77 rfl 1 rfl ?_
        refine x_callVp 78 C dX12_set_78 (As := []) (rest := []) (t_X12_beginAll l D z n G I136 L A dx dy hM (by omega) (by rw [eI136, xup_ne _ _ (fun h => absurd h.2 (by decide)), h1r]; exact hdx) (by rw [eI136, xup_ne _ _ (fun h => absurd h.2 (by decide)), h1r]; exact hdy) (by first | omega | assumption | decide) (by first | omega | assumption | decide) (by first | omega | assumption | decide)) mt_X12_beginAll km_X12_64 ki_X12_beginAll ks_X12_beginAll hM.1 ⟨by decide, rfl⟩ rfl (Nat.le_of_ble_eq_true rfl) ⟨⟨by decide, by decide⟩, by decide, by decide⟩ (fun w138 I139 L140 hw138 => ?_)
        obtain ⟨hw138v, hw138r0, hw138r1, hw138r2, hw138r3⟩ := hw138
        subst hw138v
        refine x_st [] rfl ?_
        refine x_iload_n 81 C dX12_set_81 rfl 0 rfl ?_
        refine x_iret 82 C dX12_set_82 rfl rfl (Nat.le_refl _) (xN.intro ?_)
        refine ⟨rfl, mrec_congr (by rw [hw138r2 A (by omega), eI136, xup_row _ _ (by omega)]) (by rw [hw138r2 _ (by omega), eI136, xup_row _ _ (by omega)]) hw131r0, fun k hk => ?_, fun j hj => by rw [hw138r1 j hj, eI136, xup_at, h1r], fun q h0 h1 h2 => by rw [hw138r2 q h1, eI136, xup_row _ _ h1]; exact hw131r1 q h0 h2, fun j hj => by rw [hw138r2 A (by omega), eI136, xup_row _ _ (by omega)]; exact hw131r2 j hj, hw138r3⟩
        rw [hw138r0 k hk, eI136, xup_at, xup_at, h1r]; rfl
      · skip
        exact (hgz ⟨hv0, by unfold mothZ; simp [show I (A + 1) 49 = 0 from c130]⟩).elim
  · skip
    refine x_iload_n 0 C dX12_set_0 rfl 1 rfl ?_
    refine x_iconst 1 C (v := 0) dX12_set_1 rfl ?_
    refine x_bipush 2 C (v := 7) dX12_set_2 rfl ?_
    refine x_callSe 4 C dX12_set_4 (As := [.int (nI 7), .int 0, .int 7]) (rest := []) [.int (bI (decide (0 ≤ 7) && decide (7 ≤ 7)))] (t_X12_in_n l D z n G I L 7 0 7 (by first | omega | assumption | decide) (by first | omega | assumption | decide) (by first | omega | assumption | decide)) mt_X12_in km_X12_71 kt_X12_in rfl rfl (Nat.le_of_ble_eq_true rfl) ⟨⟨by decide, by decide⟩, by decide, by decide⟩ (fun I141 L142 eI141 eL142 => ?_)
    replace eI141 := eI141.symm; subst eI141
    replace eL142 := eL142.symm; subst eL142
    refine x_int 1 (by first | decide | (simp [bI]; omega)) ?_
    refine x_if_eq 7 C 25 dX12_set_7 (by decide) (fun c143 => absurd c143 (by decide)) (fun _ => ?_)
    refine x_iload_n 10 C dX12_set_10 rfl 2 rfl ?_
    refine x_iload_n 11 C dX12_set_11 rfl 1 rfl ?_
    refine x_callSe 12 C dX12_set_12 (As := [.int (nI 7)]) (rest := [.int v]) [.int (xLv 7), .int v] (t_X12_least l D z n G I L 7 (by first | omega | assumption | decide)) mt_X12_least km_X12_231 kt_X12_least rfl rfl (Nat.le_of_ble_eq_true rfl) ⟨⟨by decide, by decide⟩, by decide, by decide⟩ (fun I144 L145 eI144 eL145 => ?_)
    replace eI144 := eI144.symm; subst eI144
    replace eL145 := eL145.symm; subst eL145
    refine x_int (xLv 7) rfl ?_
    refine x_iload_n 15 C dX12_set_15 rfl 1 rfl ?_
    refine x_callSe 16 C dX12_set_16 (As := [.int (nI 7)]) (rest := [.int (xLv 7), .int v]) [.int (xGv 7), .int (xLv 7), .int v] (t_X12_most l D z n G I L 7 (by first | omega | assumption | decide)) mt_X12_most km_X12_234 kt_X12_most rfl rfl (Nat.le_of_ble_eq_true rfl) ⟨⟨by decide, by decide⟩, by decide, by decide⟩ (fun I146 L147 eI146 eL147 => ?_)
    replace eI146 := eI146.symm; subst eI146
    replace eL147 := eL147.symm; subst eL147
    refine x_int (xGv 7) rfl ?_
    refine x_callSe 19 C dX12_set_19 (As := [.int v, .int (xLv 7), .int (xGv 7)]) (rest := []) [.int (bI (decide ((xLv 7) ≤ v) && decide (v ≤ (xGv 7))))] (t_X12_in l D z n G I L v (xLv 7) (xGv 7) ) mt_X12_in km_X12_71 kt_X12_in rfl rfl (Nat.le_of_ble_eq_true rfl) ⟨⟨by decide, by decide⟩, by decide, by decide⟩ (fun I148 L149 eI148 eL149 => ?_)
    replace eI148 := eI148.symm; subst eI148
    replace eL149 := eL149.symm; subst eL149
    refine x_int (bI (inRg 7 v)) rfl ?_
    refine x_if_ne 22 C 28 dX12_set_22 (by decide) (fun _ => ?_) (fun c150 => absurd c150 (bI_n0.mpr hin))
    refine x_iload_n 28 C dX12_set_28 rfl 1 rfl ?_
    refine x_bipush 29 C (v := 6) dX12_set_29 rfl ?_
    refine x_icmp_lt 31 C 52 dX12_set_31 (by decide) (fun c151 => absurd c151 (by decide)) (fun _ => ?_)
    refine x_iload_n 34 C dX12_set_34 rfl 2 rfl ?_
    refine x_if_ne 35 C 52 dX12_set_35 (by decide) (fun c152 => ?_) (fun c152 => ?_)
    · skip
      refine x_aload_n 52 C dX12_set_52 rfl 0 rfl ?_
      refine x_callVp 53 C dX12_set_53 (As := []) (rest := []) (t_X12_save0 l D z n G I L A Z hM (by omega) (by first | assumption | omega | decide) (by first | omega | assumption | decide)) mt_X12_save0 km_X12_200 ki_X12_save0 ks_X12_save0 hM.1 ⟨by decide, rfl⟩ rfl (Nat.le_of_ble_eq_true rfl) ⟨⟨by decide, by decide⟩, by decide, by decide⟩ (fun w153 I154 L155 hw153 => ?_)
      obtain ⟨hw153v, eL155, hw153r0, hw153r1, hw153r2⟩ := hw153
      subst hw153v
      refine x_st [] rfl ?_
      replace eL155 := eL155.symm; subst eL155
      have h1r : I154 (A + 1) = I (A + 1) := hw153r1 _ (by omega) (by omega)
      refine x_aload_n 56 C dX12_set_56 rfl 0 rfl ?_
      refine x_iload_n 57 C dX12_set_57 rfl 1 rfl ?_
      refine x_callVe 58 C dX12_set_58 (As := [.int (nI 7)]) (rest := []) [.int (I154 (A + 1) (42 + 7))] (t_X12_setting l D z n G I154 L A 7 hM (by first | omega | assumption | decide)) mt_X12_setting km_X12_119 ki_X12_setting ks_X12_setting hM.1 ⟨by decide, rfl⟩ rfl rfl (Nat.le_of_ble_eq_true rfl) ⟨⟨by decide, by decide⟩, by decide, by decide⟩ (fun I156 L157 eI156 eL157 => ?_)
      replace eI156 := eI156.symm; subst eI156
      replace eL157 := eL157.symm; subst eL157
      refine x_int (I (A + 1) (42 + 7)) (by rw [h1r]) ?_
      refine x_istore_n 61 C [(3, .int (I (A + 1) (42 + 7))), (0, .ref A), (1, .int (nI 7)), (2, .int v)] dX12_set_61 rfl (by decide) rfl ?_
      refine x_aload_n 62 C dX12_set_62 rfl 1 rfl ?_
      refine x_getr 63 C (b := A + 1) dX12_set_63 ff_X12_7 rfl hM.1 rfl ?_
      refine x_bipush 66 C (v := 42) dX12_set_66 rfl ?_
      refine x_iload_n 68 C dX12_set_68 rfl 2 rfl ?_
      refine x_iadd 69 C dX12_set_69 ?_
      refine x_int 49 (by decide) ?_
      refine x_iload_n 70 C dX12_set_70 rfl 3 rfl ?_
      refine x_iast 71 C (j := 49) dX12_set_71 hM.2.1 (by omega) ⟨by decide, by decide, by decide⟩ (fun I158 eI158 => ?_)
      refine x_iload_n 72 C dX12_set_72 rfl 2 rfl ?_
      refine x_iconst 73 C (v := 5) dX12_set_73 rfl ?_
      refine x_icmp_eq 74 C 81 dX12_set_74 (by decide) (fun c159 => absurd c159 (by decide)) (fun _ => ?_)
      refine x_aload_n 77 C dX12_set_77 rfl 1 rfl ?_
      refine x_callVp 78 C dX12_set_78 (As := []) (rest := []) (t_X12_beginAll l D z n G I158 L A dx dy hM (by omega) (by rw [eI158, xup_ne _ _ (fun h => absurd h.2 (by decide)), h1r]; exact hdx) (by rw [eI158, xup_ne _ _ (fun h => absurd h.2 (by decide)), h1r]; exact hdy) (by first | omega | assumption | decide) (by first | omega | assumption | decide) (by first | omega | assumption | decide)) mt_X12_beginAll km_X12_64 ki_X12_beginAll ks_X12_beginAll hM.1 ⟨by decide, rfl⟩ rfl (Nat.le_of_ble_eq_true rfl) ⟨⟨by decide, by decide⟩, by decide, by decide⟩ (fun w160 I161 L162 hw160 => ?_)
      obtain ⟨hw160v, hw160r0, hw160r1, hw160r2, hw160r3⟩ := hw160
      subst hw160v
      refine x_st [] rfl ?_
      refine x_iload_n 81 C dX12_set_81 rfl 0 rfl ?_
      refine x_iret 82 C dX12_set_82 rfl rfl (Nat.le_refl _) (xN.intro ?_)
      refine ⟨rfl, mrec_congr (by rw [hw160r2 A (by omega), eI158, xup_row _ _ (by omega)]) (by rw [hw160r2 _ (by omega), eI158, xup_row _ _ (by omega)]) hw153r0, fun k hk => ?_, fun j hj => by rw [hw160r1 j hj, eI158, xup_at, h1r], fun q h0 h1 h2 => by rw [hw160r2 q h1, eI158, xup_row _ _ h1]; exact hw153r1 q h0 h2, fun j hj => by rw [hw160r2 A (by omega), eI158, xup_row _ _ (by omega)]; exact hw153r2 j hj, hw160r3⟩
      rw [hw160r0 k hk, eI158, xup_at, xup_at, h1r]; rfl
    · skip
      have hv0 := c152
      refine x_aload_n 38 C dX12_set_38 rfl 0 rfl ?_
      refine x_bipush 39 C (v := 13) dX12_set_39 rfl ?_
      refine x_iload_n 41 C dX12_set_41 rfl 1 rfl ?_
      refine x_isub 42 C dX12_set_42 ?_
      refine x_int 6 (by decide) ?_
      refine x_callVe 43 C dX12_set_43 (As := [.int 6]) (rest := []) [.int (I (A + 1) (42 + 6))] (t_X12_setting l D z n G I L A 6 hM (by first | omega | assumption | decide)) mt_X12_setting km_X12_119 ki_X12_setting ks_X12_setting hM.1 ⟨by decide, rfl⟩ rfl rfl (Nat.le_of_ble_eq_true rfl) ⟨⟨by decide, by decide⟩, by decide, by decide⟩ (fun I163 L164 eI163 eL164 => ?_)
      replace eI163 := eI163.symm; subst eI163
      replace eL164 := eL164.symm; subst eL164
      refine x_if_ne 46 C 52 dX12_set_46 (by decide) (fun c165 => ?_) (fun c165 => ?_)
      · skip
        refine x_aload_n 52 C dX12_set_52 rfl 0 rfl ?_
        refine x_callVp 53 C dX12_set_53 (As := []) (rest := []) (t_X12_save0 l D z n G I L A Z hM (by omega) (by first | assumption | omega | decide) (by first | omega | assumption | decide)) mt_X12_save0 km_X12_200 ki_X12_save0 ks_X12_save0 hM.1 ⟨by decide, rfl⟩ rfl (Nat.le_of_ble_eq_true rfl) ⟨⟨by decide, by decide⟩, by decide, by decide⟩ (fun w166 I167 L168 hw166 => ?_)
        obtain ⟨hw166v, eL168, hw166r0, hw166r1, hw166r2⟩ := hw166
        subst hw166v
        refine x_st [] rfl ?_
        replace eL168 := eL168.symm; subst eL168
        have h1r : I167 (A + 1) = I (A + 1) := hw166r1 _ (by omega) (by omega)
        refine x_aload_n 56 C dX12_set_56 rfl 0 rfl ?_
        refine x_iload_n 57 C dX12_set_57 rfl 1 rfl ?_
        refine x_callVe 58 C dX12_set_58 (As := [.int (nI 7)]) (rest := []) [.int (I167 (A + 1) (42 + 7))] (t_X12_setting l D z n G I167 L A 7 hM (by first | omega | assumption | decide)) mt_X12_setting km_X12_119 ki_X12_setting ks_X12_setting hM.1 ⟨by decide, rfl⟩ rfl rfl (Nat.le_of_ble_eq_true rfl) ⟨⟨by decide, by decide⟩, by decide, by decide⟩ (fun I169 L170 eI169 eL170 => ?_)
        replace eI169 := eI169.symm; subst eI169
        replace eL170 := eL170.symm; subst eL170
        refine x_int (I (A + 1) (42 + 7)) (by rw [h1r]) ?_
        refine x_istore_n 61 C [(3, .int (I (A + 1) (42 + 7))), (0, .ref A), (1, .int (nI 7)), (2, .int v)] dX12_set_61 rfl (by decide) rfl ?_
        refine x_aload_n 62 C dX12_set_62 rfl 1 rfl ?_
        refine x_getr 63 C (b := A + 1) dX12_set_63 ff_X12_7 rfl hM.1 rfl ?_
        refine x_bipush 66 C (v := 42) dX12_set_66 rfl ?_
        refine x_iload_n 68 C dX12_set_68 rfl 2 rfl ?_
        refine x_iadd 69 C dX12_set_69 ?_
        refine x_int 49 (by decide) ?_
        refine x_iload_n 70 C dX12_set_70 rfl 3 rfl ?_
        refine x_iast 71 C (j := 49) dX12_set_71 hM.2.1 (by omega) ⟨by decide, by decide, by decide⟩ (fun I171 eI171 => ?_)
        refine x_iload_n 72 C dX12_set_72 rfl 2 rfl ?_
        refine x_iconst 73 C (v := 5) dX12_set_73 rfl ?_
        refine x_icmp_eq 74 C 81 dX12_set_74 (by decide) (fun c172 => absurd c172 (by decide)) (fun _ => ?_)
        refine x_aload_n 77 C dX12_set_77 rfl 1 rfl ?_
        refine x_callVp 78 C dX12_set_78 (As := []) (rest := []) (t_X12_beginAll l D z n G I171 L A dx dy hM (by omega) (by rw [eI171, xup_ne _ _ (fun h => absurd h.2 (by decide)), h1r]; exact hdx) (by rw [eI171, xup_ne _ _ (fun h => absurd h.2 (by decide)), h1r]; exact hdy) (by first | omega | assumption | decide) (by first | omega | assumption | decide) (by first | omega | assumption | decide)) mt_X12_beginAll km_X12_64 ki_X12_beginAll ks_X12_beginAll hM.1 ⟨by decide, rfl⟩ rfl (Nat.le_of_ble_eq_true rfl) ⟨⟨by decide, by decide⟩, by decide, by decide⟩ (fun w173 I174 L175 hw173 => ?_)
        obtain ⟨hw173v, hw173r0, hw173r1, hw173r2, hw173r3⟩ := hw173
        subst hw173v
        refine x_st [] rfl ?_
        refine x_iload_n 81 C dX12_set_81 rfl 0 rfl ?_
        refine x_iret 82 C dX12_set_82 rfl rfl (Nat.le_refl _) (xN.intro ?_)
        refine ⟨rfl, mrec_congr (by rw [hw173r2 A (by omega), eI171, xup_row _ _ (by omega)]) (by rw [hw173r2 _ (by omega), eI171, xup_row _ _ (by omega)]) hw166r0, fun k hk => ?_, fun j hj => by rw [hw173r1 j hj, eI171, xup_at, h1r], fun q h0 h1 h2 => by rw [hw173r2 q h1, eI171, xup_row _ _ h1]; exact hw166r1 q h0 h2, fun j hj => by rw [hw173r2 A (by omega), eI171, xup_row _ _ (by omega)]; exact hw166r2 j hj, hw173r3⟩
        rw [hw173r0 k hk, eI171, xup_at, xup_at, h1r]; rfl
      · skip
        exact (hgz ⟨hv0, by unfold mothZ; simp [show I (A + 1) 48 = 0 from c165]⟩).elim
set_option maxHeartbeats 1000000 in
set_option maxRecDepth 100000 in
theorem t_X12_set_bad (l : Launch) (D : xD) (z n : Nat) (G : xG) (I : xI) (L : xL) (A : Nat) (x : Int32) (y : Int32) (hM : shMo G A) (hbad : ¬ (0 ≤ x ∧ x < 8)) : xM0 l D z yX12_set cX12_set 4 (some .int) 5 114 [.ref A, .int x, .int y] n G I L (xE (some (.int (-2000000001))) I L) := by
  refine xM.of (by decide) (Nat.le_of_ble_eq_true rfl) (fun p e s m args below meth c C hnm hsz => ?_)
  refine x_lv [(0, .ref A), (1, .int x), (2, .int y)] rfl ?_
  refine x_iload_n 0 C dX12_set_0 rfl 1 rfl ?_
  refine x_iconst 1 C (v := 0) dX12_set_1 rfl ?_
  refine x_bipush 2 C (v := 7) dX12_set_2 rfl ?_
  refine x_callSe 4 C dX12_set_4 (As := [.int x, .int 0, .int 7]) (rest := []) [.int (bI (decide (0 ≤ x) && decide (x ≤ 7)))] (t_X12_in l D z n G I L x 0 7 ) mt_X12_in km_X12_71 kt_X12_in rfl rfl (Nat.le_of_ble_eq_true rfl) ⟨⟨by decide, by decide⟩, by decide, by decide⟩ (fun I1 L2 eI1 eL2 => ?_)
  replace eI1 := eI1.symm; subst eI1
  replace eL2 := eL2.symm; subst eL2
  refine x_if_eq 7 C 25 dX12_set_7 (by decide) (fun _ => ?_) (fun c3 => absurd (in_b.mpr (fun h => hbad ⟨h.1, lt8_7.mpr h.2⟩)) c3)
  refine x_ldc 25 C (-2000000001) dX12_set_25 kk_X12_198 ?_
  refine x_iret 27 C dX12_set_27 rfl rfl (Nat.le_refl _) (xN.intro ?_)
  exact ⟨rfl, rfl, rfl⟩
set_option maxHeartbeats 1000000 in
set_option maxRecDepth 100000 in
theorem t_X12_set_rng (l : Launch) (D : xD) (z n : Nat) (G : xG) (I : xI) (L : xL) (A : Nat) (w : Nat) (v : Int32) (hM : shMo G A) (hw : w < 8) (hin : inRg w v = false) : xM0 l D z yX12_set cX12_set 4 (some .int) 5 114 [.ref A, .int (nI w), .int v] n G I L (xE (some (.int (-2000000001))) I L) := by
  refine xM.of (by decide) (Nat.le_of_ble_eq_true rfl) (fun p e s m args below meth c C hnm hsz => ?_)
  refine x_lv [(0, .ref A), (1, .int (nI w)), (2, .int v)] rfl ?_
  refine x_iload_n 0 C dX12_set_0 rfl 1 rfl ?_
  refine x_iconst 1 C (v := 0) dX12_set_1 rfl ?_
  refine x_bipush 2 C (v := 7) dX12_set_2 rfl ?_
  refine x_callSe 4 C dX12_set_4 (As := [.int (nI w), .int 0, .int 7]) (rest := []) [.int (bI (decide (0 ≤ w) && decide (w ≤ 7)))] (t_X12_in_n l D z n G I L w 0 7 (by first | omega | assumption | decide) (by first | omega | assumption | decide) (by first | omega | assumption | decide)) mt_X12_in km_X12_71 kt_X12_in rfl rfl (Nat.le_of_ble_eq_true rfl) ⟨⟨by decide, by decide⟩, by decide, by decide⟩ (fun I1 L2 eI1 eL2 => ?_)
  replace eI1 := eI1.symm; subst eI1
  replace eL2 := eL2.symm; subst eL2
  refine x_int 1 (by first | decide | (simp [bI]; omega)) ?_
  refine x_if_eq 7 C 25 dX12_set_7 (by decide) (fun c3 => absurd c3 (by decide)) (fun _ => ?_)
  refine x_iload_n 10 C dX12_set_10 rfl 2 rfl ?_
  refine x_iload_n 11 C dX12_set_11 rfl 1 rfl ?_
  refine x_callSe 12 C dX12_set_12 (As := [.int (nI w)]) (rest := [.int v]) [.int (xLv w), .int v] (t_X12_least l D z n G I L w (by first | omega | assumption | decide)) mt_X12_least km_X12_231 kt_X12_least rfl rfl (Nat.le_of_ble_eq_true rfl) ⟨⟨by decide, by decide⟩, by decide, by decide⟩ (fun I4 L5 eI4 eL5 => ?_)
  replace eI4 := eI4.symm; subst eI4
  replace eL5 := eL5.symm; subst eL5
  refine x_int (xLv w) rfl ?_
  refine x_iload_n 15 C dX12_set_15 rfl 1 rfl ?_
  refine x_callSe 16 C dX12_set_16 (As := [.int (nI w)]) (rest := [.int (xLv w), .int v]) [.int (xGv w), .int (xLv w), .int v] (t_X12_most l D z n G I L w (by first | omega | assumption | decide)) mt_X12_most km_X12_234 kt_X12_most rfl rfl (Nat.le_of_ble_eq_true rfl) ⟨⟨by decide, by decide⟩, by decide, by decide⟩ (fun I6 L7 eI6 eL7 => ?_)
  replace eI6 := eI6.symm; subst eI6
  replace eL7 := eL7.symm; subst eL7
  refine x_int (xGv w) rfl ?_
  refine x_callSe 19 C dX12_set_19 (As := [.int v, .int (xLv w), .int (xGv w)]) (rest := []) [.int (bI (decide ((xLv w) ≤ v) && decide (v ≤ (xGv w))))] (t_X12_in l D z n G I L v (xLv w) (xGv w) ) mt_X12_in km_X12_71 kt_X12_in rfl rfl (Nat.le_of_ble_eq_true rfl) ⟨⟨by decide, by decide⟩, by decide, by decide⟩ (fun I8 L9 eI8 eL9 => ?_)
  replace eI8 := eI8.symm; subst eI8
  replace eL9 := eL9.symm; subst eL9
  refine x_int (bI (inRg w v)) rfl ?_
  refine x_if_ne 22 C 28 dX12_set_22 (by decide) (fun c10 => absurd (bI_0.mpr hin) c10) (fun _ => ?_)
  refine x_ldc 25 C (-2000000001) dX12_set_25 kk_X12_198 ?_
  refine x_iret 27 C dX12_set_27 rfl rfl (Nat.le_refl _) (xN.intro ?_)
  exact ⟨rfl, rfl, rfl⟩
set_option maxHeartbeats 1000000 in
set_option maxRecDepth 100000 in
theorem t_X12_set_gam (l : Launch) (D : xD) (z n : Nat) (G : xG) (I : xI) (L : xL) (A : Nat) (w : Nat) (v : Int32) (hM : shMo G A) (hw : w < 8) (hin : inRg w v = true) (hv0 : v = 0) (hgz : mothZ I A w = true) : xM0 l D z yX12_set cX12_set 4 (some .int) 5 114 [.ref A, .int (nI w), .int v] n G I L (xE (some (.int (-2000000002))) I L) := by
  refine xM.of (by decide) (Nat.le_of_ble_eq_true rfl) (fun p e s m args below meth c C hnm hsz => ?_)
  refine x_lv [(0, .ref A), (1, .int (nI w)), (2, .int v)] rfl ?_
  have hw67 : w = 6 ∨ w = 7 := by unfold mothZ at hgz; simp at hgz; omega
  rcases (show w = 6 ∨ w = 7 by omega) with rfl | rfl
  · skip
    refine x_iload_n 0 C dX12_set_0 rfl 1 rfl ?_
    refine x_iconst 1 C (v := 0) dX12_set_1 rfl ?_
    refine x_bipush 2 C (v := 7) dX12_set_2 rfl ?_
    refine x_callSe 4 C dX12_set_4 (As := [.int (nI 6), .int 0, .int 7]) (rest := []) [.int (bI (decide (0 ≤ 6) && decide (6 ≤ 7)))] (t_X12_in_n l D z n G I L 6 0 7 (by first | omega | assumption | decide) (by first | omega | assumption | decide) (by first | omega | assumption | decide)) mt_X12_in km_X12_71 kt_X12_in rfl rfl (Nat.le_of_ble_eq_true rfl) ⟨⟨by decide, by decide⟩, by decide, by decide⟩ (fun I1 L2 eI1 eL2 => ?_)
    replace eI1 := eI1.symm; subst eI1
    replace eL2 := eL2.symm; subst eL2
    refine x_int 1 (by first | decide | (simp [bI]; omega)) ?_
    refine x_if_eq 7 C 25 dX12_set_7 (by decide) (fun c3 => absurd c3 (by decide)) (fun _ => ?_)
    refine x_iload_n 10 C dX12_set_10 rfl 2 rfl ?_
    refine x_iload_n 11 C dX12_set_11 rfl 1 rfl ?_
    refine x_callSe 12 C dX12_set_12 (As := [.int (nI 6)]) (rest := [.int v]) [.int (xLv 6), .int v] (t_X12_least l D z n G I L 6 (by first | omega | assumption | decide)) mt_X12_least km_X12_231 kt_X12_least rfl rfl (Nat.le_of_ble_eq_true rfl) ⟨⟨by decide, by decide⟩, by decide, by decide⟩ (fun I4 L5 eI4 eL5 => ?_)
    replace eI4 := eI4.symm; subst eI4
    replace eL5 := eL5.symm; subst eL5
    refine x_int (xLv 6) rfl ?_
    refine x_iload_n 15 C dX12_set_15 rfl 1 rfl ?_
    refine x_callSe 16 C dX12_set_16 (As := [.int (nI 6)]) (rest := [.int (xLv 6), .int v]) [.int (xGv 6), .int (xLv 6), .int v] (t_X12_most l D z n G I L 6 (by first | omega | assumption | decide)) mt_X12_most km_X12_234 kt_X12_most rfl rfl (Nat.le_of_ble_eq_true rfl) ⟨⟨by decide, by decide⟩, by decide, by decide⟩ (fun I6 L7 eI6 eL7 => ?_)
    replace eI6 := eI6.symm; subst eI6
    replace eL7 := eL7.symm; subst eL7
    refine x_int (xGv 6) rfl ?_
    refine x_callSe 19 C dX12_set_19 (As := [.int v, .int (xLv 6), .int (xGv 6)]) (rest := []) [.int (bI (decide ((xLv 6) ≤ v) && decide (v ≤ (xGv 6))))] (t_X12_in l D z n G I L v (xLv 6) (xGv 6) ) mt_X12_in km_X12_71 kt_X12_in rfl rfl (Nat.le_of_ble_eq_true rfl) ⟨⟨by decide, by decide⟩, by decide, by decide⟩ (fun I8 L9 eI8 eL9 => ?_)
    replace eI8 := eI8.symm; subst eI8
    replace eL9 := eL9.symm; subst eL9
    refine x_int (bI (inRg 6 v)) rfl ?_
    refine x_if_ne 22 C 28 dX12_set_22 (by decide) (fun _ => ?_) (fun c10 => absurd c10 (bI_n0.mpr hin))
    refine x_iload_n 28 C dX12_set_28 rfl 1 rfl ?_
    refine x_bipush 29 C (v := 6) dX12_set_29 rfl ?_
    refine x_icmp_lt 31 C 52 dX12_set_31 (by decide) (fun c11 => absurd c11 (by decide)) (fun _ => ?_)
    refine x_iload_n 34 C dX12_set_34 rfl 2 rfl ?_
    refine x_if_ne 35 C 52 dX12_set_35 (by decide) (fun c12 => absurd hv0 c12) (fun _ => ?_)
    refine x_aload_n 38 C dX12_set_38 rfl 0 rfl ?_
    refine x_bipush 39 C (v := 13) dX12_set_39 rfl ?_
    refine x_iload_n 41 C dX12_set_41 rfl 1 rfl ?_
    refine x_isub 42 C dX12_set_42 ?_
    refine x_int 7 (by decide) ?_
    refine x_callVe 43 C dX12_set_43 (As := [.int 7]) (rest := []) [.int (I (A + 1) (42 + 7))] (t_X12_setting l D z n G I L A 7 hM (by first | omega | assumption | decide)) mt_X12_setting km_X12_119 ki_X12_setting ks_X12_setting hM.1 ⟨by decide, rfl⟩ rfl rfl (Nat.le_of_ble_eq_true rfl) ⟨⟨by decide, by decide⟩, by decide, by decide⟩ (fun I13 L14 eI13 eL14 => ?_)
    replace eI13 := eI13.symm; subst eI13
    replace eL14 := eL14.symm; subst eL14
    refine x_if_ne 46 C 52 dX12_set_46 (by decide) (fun c15 => absurd (by unfold mothZ at hgz; simp at hgz; exact hgz) c15) (fun _ => ?_)
    refine x_ldc 49 C (-2000000002) dX12_set_49 kk_X12_199 ?_
    refine x_iret 51 C dX12_set_51 rfl rfl (Nat.le_refl _) (xN.intro ?_)
    exact ⟨rfl, rfl, rfl⟩
  · skip
    refine x_iload_n 0 C dX12_set_0 rfl 1 rfl ?_
    refine x_iconst 1 C (v := 0) dX12_set_1 rfl ?_
    refine x_bipush 2 C (v := 7) dX12_set_2 rfl ?_
    refine x_callSe 4 C dX12_set_4 (As := [.int (nI 7), .int 0, .int 7]) (rest := []) [.int (bI (decide (0 ≤ 7) && decide (7 ≤ 7)))] (t_X12_in_n l D z n G I L 7 0 7 (by first | omega | assumption | decide) (by first | omega | assumption | decide) (by first | omega | assumption | decide)) mt_X12_in km_X12_71 kt_X12_in rfl rfl (Nat.le_of_ble_eq_true rfl) ⟨⟨by decide, by decide⟩, by decide, by decide⟩ (fun I16 L17 eI16 eL17 => ?_)
    replace eI16 := eI16.symm; subst eI16
    replace eL17 := eL17.symm; subst eL17
    refine x_int 1 (by first | decide | (simp [bI]; omega)) ?_
    refine x_if_eq 7 C 25 dX12_set_7 (by decide) (fun c18 => absurd c18 (by decide)) (fun _ => ?_)
    refine x_iload_n 10 C dX12_set_10 rfl 2 rfl ?_
    refine x_iload_n 11 C dX12_set_11 rfl 1 rfl ?_
    refine x_callSe 12 C dX12_set_12 (As := [.int (nI 7)]) (rest := [.int v]) [.int (xLv 7), .int v] (t_X12_least l D z n G I L 7 (by first | omega | assumption | decide)) mt_X12_least km_X12_231 kt_X12_least rfl rfl (Nat.le_of_ble_eq_true rfl) ⟨⟨by decide, by decide⟩, by decide, by decide⟩ (fun I19 L20 eI19 eL20 => ?_)
    replace eI19 := eI19.symm; subst eI19
    replace eL20 := eL20.symm; subst eL20
    refine x_int (xLv 7) rfl ?_
    refine x_iload_n 15 C dX12_set_15 rfl 1 rfl ?_
    refine x_callSe 16 C dX12_set_16 (As := [.int (nI 7)]) (rest := [.int (xLv 7), .int v]) [.int (xGv 7), .int (xLv 7), .int v] (t_X12_most l D z n G I L 7 (by first | omega | assumption | decide)) mt_X12_most km_X12_234 kt_X12_most rfl rfl (Nat.le_of_ble_eq_true rfl) ⟨⟨by decide, by decide⟩, by decide, by decide⟩ (fun I21 L22 eI21 eL22 => ?_)
    replace eI21 := eI21.symm; subst eI21
    replace eL22 := eL22.symm; subst eL22
    refine x_int (xGv 7) rfl ?_
    refine x_callSe 19 C dX12_set_19 (As := [.int v, .int (xLv 7), .int (xGv 7)]) (rest := []) [.int (bI (decide ((xLv 7) ≤ v) && decide (v ≤ (xGv 7))))] (t_X12_in l D z n G I L v (xLv 7) (xGv 7) ) mt_X12_in km_X12_71 kt_X12_in rfl rfl (Nat.le_of_ble_eq_true rfl) ⟨⟨by decide, by decide⟩, by decide, by decide⟩ (fun I23 L24 eI23 eL24 => ?_)
    replace eI23 := eI23.symm; subst eI23
    replace eL24 := eL24.symm; subst eL24
    refine x_int (bI (inRg 7 v)) rfl ?_
    refine x_if_ne 22 C 28 dX12_set_22 (by decide) (fun _ => ?_) (fun c25 => absurd c25 (bI_n0.mpr hin))
    refine x_iload_n 28 C dX12_set_28 rfl 1 rfl ?_
    refine x_bipush 29 C (v := 6) dX12_set_29 rfl ?_
    refine x_icmp_lt 31 C 52 dX12_set_31 (by decide) (fun c26 => absurd c26 (by decide)) (fun _ => ?_)
    refine x_iload_n 34 C dX12_set_34 rfl 2 rfl ?_
    refine x_if_ne 35 C 52 dX12_set_35 (by decide) (fun c27 => absurd hv0 c27) (fun _ => ?_)
    refine x_aload_n 38 C dX12_set_38 rfl 0 rfl ?_
    refine x_bipush 39 C (v := 13) dX12_set_39 rfl ?_
    refine x_iload_n 41 C dX12_set_41 rfl 1 rfl ?_
    refine x_isub 42 C dX12_set_42 ?_
    refine x_int 6 (by decide) ?_
    refine x_callVe 43 C dX12_set_43 (As := [.int 6]) (rest := []) [.int (I (A + 1) (42 + 6))] (t_X12_setting l D z n G I L A 6 hM (by first | omega | assumption | decide)) mt_X12_setting km_X12_119 ki_X12_setting ks_X12_setting hM.1 ⟨by decide, rfl⟩ rfl rfl (Nat.le_of_ble_eq_true rfl) ⟨⟨by decide, by decide⟩, by decide, by decide⟩ (fun I28 L29 eI28 eL29 => ?_)
    replace eI28 := eI28.symm; subst eI28
    replace eL29 := eL29.symm; subst eL29
    refine x_if_ne 46 C 52 dX12_set_46 (by decide) (fun c30 => absurd (by unfold mothZ at hgz; simp at hgz; exact hgz) c30) (fun _ => ?_)
    refine x_ldc 49 C (-2000000002) dX12_set_49 kk_X12_199 ?_
    refine x_iret 51 C dX12_set_51 rfl rfl (Nat.le_refl _) (xN.intro ?_)
    exact ⟨rfl, rfl, rfl⟩
theorem dX12_equation_0 : decode cX12_equation 0 = .ok (.iload_n 1, 1) := by decide +kernel
theorem dX12_equation_1 : decode cX12_equation 1 = .ok (.iconst 0, 1) := by decide +kernel
theorem dX12_equation_2 : decode cX12_equation 2 = .ok (.iconst 1, 1) := by decide +kernel
theorem dX12_equation_3 : decode cX12_equation 3 = .ok (.invokestatic 71, 3) := by decide +kernel
theorem dX12_equation_6 : decode cX12_equation 6 = .ok (.ifCond .ne 6, 3) := by decide +kernel
theorem dX12_equation_9 : decode cX12_equation 9 = .ok (.ldc 198, 2) := by decide +kernel
theorem dX12_equation_11 : decode cX12_equation 11 = .ok (.ireturn, 1) := by decide +kernel
theorem dX12_equation_12 : decode cX12_equation 12 = .ok (.aload_n 0, 1) := by decide +kernel
theorem dX12_equation_13 : decode cX12_equation 13 = .ok (.invokevirtual 288, 3) := by decide +kernel
theorem dX12_equation_16 : decode cX12_equation 16 = .ok (.ifCond .ge 10, 3) := by decide +kernel
theorem dX12_equation_19 : decode cX12_equation 19 = .ok (.aload_n 0, 1) := by decide +kernel
theorem dX12_equation_20 : decode cX12_equation 20 = .ok (.invokevirtual 291, 3) := by decide +kernel
theorem dX12_equation_23 : decode cX12_equation 23 = .ok (.ifCond .ne 6, 3) := by decide +kernel
theorem dX12_equation_26 : decode cX12_equation 26 = .ok (.ldc 199, 2) := by decide +kernel
theorem dX12_equation_28 : decode cX12_equation 28 = .ok (.ireturn, 1) := by decide +kernel
theorem dX12_equation_29 : decode cX12_equation 29 = .ok (.aload_n 0, 1) := by decide +kernel
theorem dX12_equation_30 : decode cX12_equation 30 = .ok (.invokevirtual 200, 3) := by decide +kernel
theorem dX12_equation_33 : decode cX12_equation 33 = .ok (.aload_n 0, 1) := by decide +kernel
theorem dX12_equation_34 : decode cX12_equation 34 = .ok (.invokevirtual 291, 3) := by decide +kernel
theorem dX12_equation_37 : decode cX12_equation 37 = .ok (.istore_n 2, 1) := by decide +kernel
theorem dX12_equation_38 : decode cX12_equation 38 = .ok (.iconst 0, 1) := by decide +kernel
theorem dX12_equation_39 : decode cX12_equation 39 = .ok (.istore_n 3, 1) := by decide +kernel
theorem dX12_equation_40 : decode cX12_equation 40 = .ok (.iload_n 3, 1) := by decide +kernel
theorem dX12_equation_41 : decode cX12_equation 41 = .ok (.bipush 20, 2) := by decide +kernel
theorem dX12_equation_43 : decode cX12_equation 43 = .ok (.if_icmp .ge 26, 3) := by decide +kernel
theorem dX12_equation_46 : decode cX12_equation 46 = .ok (.aload_n 0, 1) := by decide +kernel
theorem dX12_equation_47 : decode cX12_equation 47 = .ok (.getfield 7, 3) := by decide +kernel
theorem dX12_equation_50 : decode cX12_equation 50 = .ok (.bipush 20, 2) := by decide +kernel
theorem dX12_equation_52 : decode cX12_equation 52 = .ok (.iload_n 1, 1) := by decide +kernel
theorem dX12_equation_53 : decode cX12_equation 53 = .ok (.imul, 1) := by decide +kernel
theorem dX12_equation_54 : decode cX12_equation 54 = .ok (.iload_n 3, 1) := by decide +kernel
theorem dX12_equation_55 : decode cX12_equation 55 = .ok (.iadd, 1) := by decide +kernel
theorem dX12_equation_56 : decode cX12_equation 56 = .ok (.aload_n 0, 1) := by decide +kernel
theorem dX12_equation_57 : decode cX12_equation 57 = .ok (.getfield 57, 3) := by decide +kernel
theorem dX12_equation_60 : decode cX12_equation 60 = .ok (.iload_n 3, 1) := by decide +kernel
theorem dX12_equation_61 : decode cX12_equation 61 = .ok (.iaload, 1) := by decide +kernel
theorem dX12_equation_62 : decode cX12_equation 62 = .ok (.iastore, 1) := by decide +kernel
theorem dX12_equation_63 : decode cX12_equation 63 = .ok (.iinc 3 1, 3) := by decide +kernel
theorem dX12_equation_66 : decode cX12_equation 66 = .ok (.goto (-26), 3) := by decide +kernel
theorem dX12_equation_69 : decode cX12_equation 69 = .ok (.aload_n 0, 1) := by decide +kernel
theorem dX12_equation_70 : decode cX12_equation 70 = .ok (.getfield 7, 3) := by decide +kernel
theorem dX12_equation_73 : decode cX12_equation 73 = .ok (.bipush 40, 2) := by decide +kernel
theorem dX12_equation_75 : decode cX12_equation 75 = .ok (.iload_n 1, 1) := by decide +kernel
theorem dX12_equation_76 : decode cX12_equation 76 = .ok (.iadd, 1) := by decide +kernel
theorem dX12_equation_77 : decode cX12_equation 77 = .ok (.iload_n 2, 1) := by decide +kernel
theorem dX12_equation_78 : decode cX12_equation 78 = .ok (.iastore, 1) := by decide +kernel
theorem dX12_equation_79 : decode cX12_equation 79 = .ok (.aload_n 0, 1) := by decide +kernel
theorem dX12_equation_80 : decode cX12_equation 80 = .ok (.invokevirtual 64, 3) := by decide +kernel
theorem dX12_equation_83 : decode cX12_equation 83 = .ok (.aload_n 0, 1) := by decide +kernel
theorem dX12_equation_84 : decode cX12_equation 84 = .ok (.iconst 0, 1) := by decide +kernel
theorem dX12_equation_85 : decode cX12_equation 85 = .ok (.putfield 243, 3) := by decide +kernel
theorem dX12_equation_88 : decode cX12_equation 88 = .ok (.iload_n 2, 1) := by decide +kernel
theorem dX12_equation_89 : decode cX12_equation 89 = .ok (.ireturn, 1) := by decide +kernel
set_option maxHeartbeats 1000000 in
set_option maxRecDepth 100000 in
theorem t_X12_equation (l : Launch) (D : xD) (z n : Nat) (G : xG) (I : xI) (L : xL) (A : Nat) (b : Nat) (t : Nat → Nat) (N : Nat) (r : Nat) (dx : Nat) (dy : Nat) (Z : Nat) (hM : shMo G A) (zA : z ≤ A) (hb : b < 2) (hT : mx I A t N r) (hC : txc t N) (hdx : I (A + 1) 40 = nI dx) (hdy : I (A + 1) 41 = nI dy) (hd3 : dx * dy ≤ 9) (hd1 : 1 ≤ dy) (hd0 : 1 ≤ dx) (hZ : I A 2 = nI Z) (hZ4 : Z ≤ 4) (hok : (rdAll t N).1 = true) (hdg : 1 ≤ rdD t N) (hdx3 : dx ≤ 3) (hdy3 : dy ≤ 3) : xM0 l D z yX12_equation cX12_equation 4 (some .int) 5 114 [.ref A, .int (nI b)] n G I L (fun v' I' L' => v' = (some (.int (nI (rdD t N)))) ∧ (mrec I A Z I') ∧ (∀ k, k < 10 → I' (A + 1) (20 * b + 2 * k) = (rdAll t N).2.2.1 k ∧ I' (A + 1) (20 * b + 2 * k + 1) = (rdAll t N).2.2.2 k) ∧ (∀ j, j < 40 → (j < 20 * b ∨ 20 * b + 20 ≤ j) → I' (A + 1) j = I (A + 1) j) ∧ (∀ j, 40 ≤ j → j < 50 → I' (A + 1) j = if j = 40 + b then nI (rdD t N) else I (A + 1) j) ∧ (∀ k, k < (if b = 0 then rdD t N else dx) * (if b = 0 then dy else rdD t N) → mvO (I' (A + 1)) (50 + 12 * k) = mBg (if b = 0 then rdD t N else dx) (if b = 0 then dy else rdD t N) (I (A + 1) 42) (I (A + 1) 43) k) ∧ (∀ q, q ≠ A → q ≠ A + 1 → q ≠ A + 2 → q ≠ A + 14 → I' q = I q) ∧ (I' A 6 = nI 0) ∧ (∀ j, (j < 18 ∨ 22 < j) → j ≠ 2 → j ≠ 6 → I' A j = I A j) ∧ (∀ q, q ≠ A → L' q = L q)) := by
  refine xM.of (by decide) (Nat.le_of_ble_eq_true rfl) (fun p e s m args below meth c C hnm hsz => ?_)
  refine x_lv [(0, .ref A), (1, .int (nI b))] rfl ?_
  have hrd3 : rdD t N ≤ 3 := dgN_le _ _ 10
  have hdxl : dx ≤ 3 := hdx3
  have hdyl : dy ≤ 3 := hdy3
  have hk20 : True := trivial
  rcases (show b = 0 ∨ b = 1 by omega) with rfl | rfl
  · skip
    refine x_iload_n 0 C dX12_equation_0 rfl 1 rfl ?_
    refine x_iconst 1 C (v := 0) dX12_equation_1 rfl ?_
    refine x_iconst 2 C (v := 1) dX12_equation_2 rfl ?_
    refine x_callSe 3 C dX12_equation_3 (As := [.int (nI 0), .int 0, .int 1]) (rest := []) [.int (bI (decide (0 ≤ 0) && decide (0 ≤ 1)))] (t_X12_in_n l D z n G I L 0 0 1 (by first | omega | assumption | decide) (by first | omega | assumption | decide) (by first | omega | assumption | decide)) mt_X12_in km_X12_71 kt_X12_in rfl rfl (Nat.le_of_ble_eq_true rfl) ⟨⟨by decide, by decide⟩, by decide, by decide⟩ (fun I1 L2 eI1 eL2 => ?_)
    replace eI1 := eI1.symm; subst eI1
    replace eL2 := eL2.symm; subst eL2
    refine x_int 1 (by decide) ?_
    refine x_if_ne 6 C 12 dX12_equation_6 (by decide) (fun _ => ?_) (fun c3 => absurd c3 (by decide))
    refine x_aload_n 12 C dX12_equation_12 rfl 0 rfl ?_
    refine x_callVp 13 C dX12_equation_13 (As := []) (rest := []) (t_X12_faultOf l D z n G I L A t N r hM (by omega) (by first | assumption | omega | decide) (by first | assumption | omega | decide)) mt_X12_faultOf km_X12_288 ki_X12_faultOf ks_X12_faultOf hM.1 ⟨by decide, rfl⟩ rfl (Nat.le_of_ble_eq_true rfl) ⟨⟨by decide, by decide⟩, by decide, by decide⟩ (fun w4 I5 L6 hw4 => ?_)
    obtain ⟨hw4v, eL6, hw4r0, hw4r1, hw4r2⟩ := hw4
    subst hw4v
    refine x_st [.int (if (rdAll t N).1 = true then -1 else nI (rdAll t N).2.1)] rfl ?_
    replace eL6 := eL6.symm; subst eL6
    refine x_int (-1) (if_pos hok) ?_
    refine x_if_ge 16 C 26 dX12_equation_16 (by decide) (fun c7 => absurd c7 (by decide)) (fun _ => ?_)
    refine x_aload_n 19 C dX12_equation_19 rfl 0 rfl ?_
    refine x_callVe 20 C dX12_equation_20 (As := []) (rest := []) [.int (nI (dgN ((rdAll t N).2.2.1) ((rdAll t N).2.2.2) 10))] (t_X12_degreeTold l D z n G I5 L A ((rdAll t N).2.2.1) ((rdAll t N).2.2.2) hM (hw4r0 hok)) mt_X12_degreeTold km_X12_291 ki_X12_degreeTold ks_X12_degreeTold hM.1 ⟨by decide, rfl⟩ rfl rfl (Nat.le_of_ble_eq_true rfl) ⟨⟨by decide, by decide⟩, by decide, by decide⟩ (fun I8 L9 eI8 eL9 => ?_)
    replace eI8 := eI8.symm; subst eI8
    replace eL9 := eL9.symm; subst eL9
    refine x_int (nI (rdD t N)) rfl ?_
    refine x_if_ne 23 C 29 dX12_equation_23 (by decide) (fun _ => ?_) (fun c10 => absurd c10 (nI_ne0 (by omega) (by omega)))
    refine x_aload_n 29 C dX12_equation_29 rfl 0 rfl ?_
    refine x_callVp 30 C dX12_equation_30 (As := []) (rest := []) (t_X12_save0 l D z n G I5 L A Z hM (by omega) (by rw [hw4r2 2 (by omega)]; exact hZ) (by first | omega | assumption | decide)) mt_X12_save0 km_X12_200 ki_X12_save0 ks_X12_save0 hM.1 ⟨by decide, rfl⟩ rfl (Nat.le_of_ble_eq_true rfl) ⟨⟨by decide, by decide⟩, by decide, by decide⟩ (fun w11 I12 L13 hw11 => ?_)
    obtain ⟨hw11v, eL13, hw11r0, hw11r1, hw11r2⟩ := hw11
    subst hw11v
    refine x_st [] rfl ?_
    replace eL13 := eL13.symm; subst eL13
    refine x_aload_n 33 C dX12_equation_33 rfl 0 rfl ?_
    refine x_callVe 34 C dX12_equation_34 (As := []) (rest := []) [.int (nI (dgN ((rdAll t N).2.2.1) ((rdAll t N).2.2.2) 10))] (t_X12_degreeTold l D z n G I12 L A ((rdAll t N).2.2.1) ((rdAll t N).2.2.2) hM (fun k hk => by rw [hw11r1 _ (by omega) (by omega)]; exact hw4r0 hok k hk)) mt_X12_degreeTold km_X12_291 ki_X12_degreeTold ks_X12_degreeTold hM.1 ⟨by decide, rfl⟩ rfl rfl (Nat.le_of_ble_eq_true rfl) ⟨⟨by decide, by decide⟩, by decide, by decide⟩ (fun I14 L15 eI14 eL15 => ?_)
    replace eI14 := eI14.symm; subst eI14
    replace eL15 := eL15.symm; subst eL15
    refine x_int (nI (rdD t N)) rfl ?_
    refine x_istore_n 37 C [(2, .int (nI (rdD t N))), (0, .ref A), (1, .int (nI 0))] dX12_equation_37 rfl (by decide) rfl ?_
    have hP30 : I12 (A + 1) = I (A + 1) := by rw [hw11r1 _ (by omega) (by omega)]; exact hw4r1 _ (by omega) (by omega)
    have hdx30 : I12 (A + 1) 40 = nI dx := by rw [hP30]; exact hdx
    have hdy30 : I12 (A + 1) 41 = nI dy := by rw [hP30]; exact hdy
    have hT30 : ∀ j, j < 10 → I12 (A + 14) (2 * j) = (rdAll t N).2.2.1 j ∧ I12 (A + 14) (2 * j + 1) = (rdAll t N).2.2.2 j := fun j hj => by rw [hw11r1 _ (by omega) (by omega)]; exact hw4r0 hok j hj
    have hrec : mrec I A Z I12 := by have h := hw11r0; unfold mrec at h; rw [hw4r1 (A + 1) (by omega) (by omega), hw4r1 (A + 2) (by omega) (by omega)] at h; exact h
    refine x_iconst 38 C (v := 0) dX12_equation_38 rfl ?_
    refine x_istore_n 39 C [(3, .int 0), (2, .int (nI (rdD t N))), (0, .ref A), (1, .int (nI 0))] dX12_equation_39 rfl (by decide) rfl ?_
    have loop40 : ∀ (fuel : Nat) (k : Nat) (Im : xI), (k ≤ 20) → (21 ≤ k + fuel) → (∀ j, Im (A + 1) j = if 20 * 0 ≤ j ∧ j < 20 * 0 + k then I12 (A + 14) (j - 20 * 0) else I12 (A + 1) j) → (∀ q, q ≠ A + 1 → Im q = I12 q) → X p l e (xRm 5 114 0 0) s m args below meth c D z 4 (MQ below (xQc D z n (xN n G (fun v' I' L' => v' = (some (.int (nI (rdD t N)))) ∧ (mrec I A Z I') ∧ (∀ k, k < 10 → I' (A + 1) (20 * 0 + 2 * k) = (rdAll t N).2.2.1 k ∧ I' (A + 1) (20 * 0 + 2 * k + 1) = (rdAll t N).2.2.2 k) ∧ (∀ j, j < 40 → (j < 20 * 0 ∨ 20 * 0 + 20 ≤ j) → I' (A + 1) j = I (A + 1) j) ∧ (∀ j, 40 ≤ j → j < 50 → I' (A + 1) j = if j = 40 + 0 then nI (rdD t N) else I (A + 1) j) ∧ (∀ k, k < (if 0 = 0 then rdD t N else dx) * (if 0 = 0 then dy else rdD t N) → mvO (I' (A + 1)) (50 + 12 * k) = mBg (if 0 = 0 then rdD t N else dx) (if 0 = 0 then dy else rdD t N) (I (A + 1) 42) (I (A + 1) 43) k) ∧ (∀ q, q ≠ A → q ≠ A + 1 → q ≠ A + 2 → q ≠ A + 14 → I' q = I q) ∧ (I' A 6 = nI 0) ∧ (∀ j, (j < 18 ∨ 22 < j) → j ≠ 2 → j ≠ 6 → I' A j = I A j) ∧ (∀ q, q ≠ A → L' q = L q)))) args s 0 0 (fun a => z ≤ a)) 0 0 n G Im L 40 [(0, .ref A), (1, .int (nI 0)), (2, .int (nI (rdD t N))), (3, .int (nI k))] [] := by
      intro fuel
      induction fuel with
      | zero =>
        intro k Im hk hf2 hcp hcr
        exact absurd hf2 (by omega)
      | succ fuel ih =>
        intro k Im hk hf2 hcp hcr
        refine x_iload_n 40 C dX12_equation_40 rfl 3 rfl ?_
        refine x_bipush 41 C (v := 20) dX12_equation_41 rfl ?_
        refine x_icmp_ge 43 C 69 dX12_equation_43 (by decide) (fun c16 => ?_) (fun c16 => ?_)
        · skip
          have c16n : 20 ≤ k := (nI_leI (a := 20) (b := k) (by omega) (by omega)).mp c16
          have c16m : ¬ (k < 20) := by omega
          have c16o := Int32.not_lt.mpr c16
          refine x_aload_n 69 C dX12_equation_69 rfl 0 rfl ?_
          refine x_getr 70 C (b := A + 1) dX12_equation_70 ff_X12_7 rfl hM.1 rfl ?_
          refine x_bipush 73 C (v := 40) dX12_equation_73 rfl ?_
          refine x_iload_n 75 C dX12_equation_75 rfl 1 rfl ?_
          refine x_iadd 76 C dX12_equation_76 ?_
          refine x_int 40 (by decide) ?_
          refine x_iload_n 77 C dX12_equation_77 rfl 2 rfl ?_
          refine x_iast 78 C (j := 40) dX12_equation_78 hM.2.1 (by omega) ⟨by decide, by decide, by decide⟩ (fun I17 eI17 => ?_)
          refine x_aload_n 79 C dX12_equation_79 rfl 0 rfl ?_
          refine x_callVp 80 C dX12_equation_80 (As := []) (rest := []) (t_X12_beginAll l D z n G I17 L A (rdD t N) dy hM (by omega) (by rw [eI17, xup_at, if_pos rfl]) (by rw [eI17, xup_at, if_neg (by decide), hcp, if_neg (by omega)]; exact hdy30) hd1 (Nat.le_trans (Nat.mul_le_mul hrd3 hdyl) (by decide)) hdg) mt_X12_beginAll km_X12_64 ki_X12_beginAll ks_X12_beginAll hM.1 ⟨by decide, rfl⟩ rfl (Nat.le_of_ble_eq_true rfl) ⟨⟨by decide, by decide⟩, by decide, by decide⟩ (fun w18 I19 L20 hw18 => ?_)
          obtain ⟨hw18v, hw18r0, hw18r1, hw18r2, hw18r3⟩ := hw18
          subst hw18v
          refine x_st [] rfl ?_
          refine x_aload_n 83 C dX12_equation_83 rfl 0 rfl ?_
          refine x_iconst 84 C (v := 0) dX12_equation_84 rfl ?_
          refine x_puti 85 C dX12_equation_85 ff_X12_243 rfl hM.1 (by omega) (fun I21 eI21 => ?_)
          refine x_iload_n 88 C dX12_equation_88 rfl 2 rfl ?_
          refine x_iret 89 C dX12_equation_89 rfl rfl (Nat.le_refl _) (xN.intro ?_)
          have hk2 : k = 20 := by omega
          subst hk2
          have hlo : ∀ j, j < 50 → I21 (A + 1) j = if j = 40 + 0 then nI (rdD t N) else if 20 * 0 ≤ j ∧ j < 20 * 0 + 20 then I12 (A + 14) (j - 20 * 0) else I (A + 1) j := fun j hj => by rw [eI21, xup_row _ _ (by omega), hw18r1 j hj, eI17, xup_at, hcp, hP30]
          refine ⟨rfl, mrec_congr (by rw [eI21, xup_ne _ _ (by omega), hw18r2 A (by omega), eI17, xup_row _ _ (by omega), hcr A (by omega)]) (by rw [eI21, xup_row _ _ (by omega), hw18r2 _ (by omega), eI17, xup_row _ _ (by omega), hcr _ (by omega)]) hrec, fun i hi => ⟨?_, ?_⟩, fun j hj h2 => ?_, fun j h1 h2 => ?_, fun i hi => ?_, fun q h0 h1 h2 h14 => ?_, ?_, fun j h18 h2 h6 => ?_, ?_⟩
          · rw [hlo _ (by omega), if_neg (by omega), if_pos (by omega), show 20 * 0 + 2 * i - 20 * 0 = 2 * i by omega]; exact (hT30 i hi).1
          · rw [hlo _ (by omega), if_neg (by omega), if_pos (by omega), show 20 * 0 + 2 * i + 1 - 20 * 0 = 2 * i + 1 by omega]; exact (hT30 i hi).2
          · rw [hlo _ (by omega), if_neg (by omega), if_neg (by omega)]
          · rw [hlo _ h2]; by_cases hh : j = 40 + 0; (rw [if_pos hh, if_pos hh]); (rw [if_neg hh, if_neg hh, if_neg (by omega)])
          · rw [eI21, xup_row _ _ (by omega)]; exact (hw18r0 i hi).trans (by rw [eI17, xup_at, if_neg (by decide), xup_at, if_neg (by decide), hcp, if_neg (by omega), hcp, if_neg (by omega), hP30]; rfl)
          · rw [eI21, xup_row _ _ h0, hw18r2 q h1, eI17, xup_row _ _ h1, hcr q h1, hw11r1 q h0 h2]; exact hw4r1 q h0 h14
          · rw [eI21, xup_self]; rfl
          · rw [eI21, xup_ne _ _ (fun h => h6 h.2), hw18r2 A (by omega), eI17, xup_row _ _ (by omega), hcr A (by omega), hw11r2 j h2]; exact hw4r2 j h18
          · exact hw18r3
        · skip
          have c16n : ¬ (20 ≤ k) := fun h => c16 ((nI_leI (a := 20) (b := k) (by omega) (by omega)).mpr h)
          have c16m : k < 20 := by omega
          have c16o := Int32.not_le.mp c16
          refine x_aload_n 46 C dX12_equation_46 rfl 0 rfl ?_
          refine x_getr 47 C (b := A + 1) dX12_equation_47 ff_X12_7 rfl hM.1 rfl ?_
          refine x_bipush 50 C (v := 20) dX12_equation_50 rfl ?_
          refine x_iload_n 52 C dX12_equation_52 rfl 1 rfl ?_
          refine x_imul 53 C dX12_equation_53 ?_
          refine x_int 0 (by decide) ?_
          refine x_iload_n 54 C dX12_equation_54 rfl 3 rfl ?_
          refine x_iadd 55 C dX12_equation_55 ?_
          refine x_int (nI (0 + k)) (nI_add 0 k) ?_
          refine x_aload_n 56 C dX12_equation_56 rfl 0 rfl ?_
          refine x_getr 57 C (b := A + 14) dX12_equation_57 ff_X12_57 rfl hM.1 rfl ?_
          refine x_iload_n 60 C dX12_equation_60 rfl 3 rfl ?_
          refine x_iald 61 C (j := k) dX12_equation_61 hM.2.2.2.2.2.2.2.2.2.2.2.2.2.2 (xIx_nI (by omega) (by decide)) ?_
          refine x_int (I12 (A + 14) k) (by rw [hcr _ (by omega)]) ?_
          refine x_iast 62 C (j := (0 + k)) dX12_equation_62 hM.2.1 (by omega) (xIx_nI (by omega) (by decide)) (fun I22 eI22 => ?_)
          refine x_iinc 63 C [(3, .int (nI (k + 1))), (0, .ref A), (1, .int (nI 0)), (2, .int (nI (rdD t N)))] dX12_equation_63 3 rfl (nI_add k 1) (by decide) rfl ?_
          refine x_goto 66 C 40 dX12_equation_66 (by decide) ?_
          refine x_sub [(0, .ref A), (1, .int (nI 0)), (2, .int (nI (rdD t N))), (3, .int (nI (k + 1)))] [1, 2, 3, 0] rfl ?_
          exact ih (k + 1) I22 (by omega) (by omega) (fun j => by rw [eI22, xup_at]; by_cases h : j = 0 + k; (rw [if_pos (by omega), if_pos (by omega)]; congr 1; omega); (rw [if_neg (by omega), hcp]; by_cases h3 : 20 * 0 ≤ j ∧ j < 20 * 0 + k; (rw [if_pos h3, if_pos (by omega)]); (rw [if_neg h3, if_neg (by omega)]))) (fun q hq => by rw [eI22, xup_row _ _ hq]; exact hcr q hq)
    refine x_sub [(0, .ref A), (1, .int (nI 0)), (2, .int (nI (rdD t N))), (3, .int 0)] [2, 3, 1, 0] rfl ?_
    exact loop40 21 0 I12 (by omega) (by omega) (fun j => (if_neg (by omega)).symm) (fun _ _ => rfl)
  · skip
    refine x_iload_n 0 C dX12_equation_0 rfl 1 rfl ?_
    refine x_iconst 1 C (v := 0) dX12_equation_1 rfl ?_
    refine x_iconst 2 C (v := 1) dX12_equation_2 rfl ?_
    refine x_callSe 3 C dX12_equation_3 (As := [.int (nI 1), .int 0, .int 1]) (rest := []) [.int (bI (decide (0 ≤ 1) && decide (1 ≤ 1)))] (t_X12_in_n l D z n G I L 1 0 1 (by first | omega | assumption | decide) (by first | omega | assumption | decide) (by first | omega | assumption | decide)) mt_X12_in km_X12_71 kt_X12_in rfl rfl (Nat.le_of_ble_eq_true rfl) ⟨⟨by decide, by decide⟩, by decide, by decide⟩ (fun I23 L24 eI23 eL24 => ?_)
    replace eI23 := eI23.symm; subst eI23
    replace eL24 := eL24.symm; subst eL24
    refine x_int 1 (by decide) ?_
    refine x_if_ne 6 C 12 dX12_equation_6 (by decide) (fun _ => ?_) (fun c25 => absurd c25 (by decide))
    refine x_aload_n 12 C dX12_equation_12 rfl 0 rfl ?_
    refine x_callVp 13 C dX12_equation_13 (As := []) (rest := []) (t_X12_faultOf l D z n G I L A t N r hM (by omega) (by first | assumption | omega | decide) (by first | assumption | omega | decide)) mt_X12_faultOf km_X12_288 ki_X12_faultOf ks_X12_faultOf hM.1 ⟨by decide, rfl⟩ rfl (Nat.le_of_ble_eq_true rfl) ⟨⟨by decide, by decide⟩, by decide, by decide⟩ (fun w26 I27 L28 hw26 => ?_)
    obtain ⟨hw26v, eL28, hw26r0, hw26r1, hw26r2⟩ := hw26
    subst hw26v
    refine x_st [.int (if (rdAll t N).1 = true then -1 else nI (rdAll t N).2.1)] rfl ?_
    replace eL28 := eL28.symm; subst eL28
    refine x_int (-1) (if_pos hok) ?_
    refine x_if_ge 16 C 26 dX12_equation_16 (by decide) (fun c29 => absurd c29 (by decide)) (fun _ => ?_)
    refine x_aload_n 19 C dX12_equation_19 rfl 0 rfl ?_
    refine x_callVe 20 C dX12_equation_20 (As := []) (rest := []) [.int (nI (dgN ((rdAll t N).2.2.1) ((rdAll t N).2.2.2) 10))] (t_X12_degreeTold l D z n G I27 L A ((rdAll t N).2.2.1) ((rdAll t N).2.2.2) hM (hw26r0 hok)) mt_X12_degreeTold km_X12_291 ki_X12_degreeTold ks_X12_degreeTold hM.1 ⟨by decide, rfl⟩ rfl rfl (Nat.le_of_ble_eq_true rfl) ⟨⟨by decide, by decide⟩, by decide, by decide⟩ (fun I30 L31 eI30 eL31 => ?_)
    replace eI30 := eI30.symm; subst eI30
    replace eL31 := eL31.symm; subst eL31
    refine x_int (nI (rdD t N)) rfl ?_
    refine x_if_ne 23 C 29 dX12_equation_23 (by decide) (fun _ => ?_) (fun c32 => absurd c32 (nI_ne0 (by omega) (by omega)))
    refine x_aload_n 29 C dX12_equation_29 rfl 0 rfl ?_
    refine x_callVp 30 C dX12_equation_30 (As := []) (rest := []) (t_X12_save0 l D z n G I27 L A Z hM (by omega) (by rw [hw26r2 2 (by omega)]; exact hZ) (by first | omega | assumption | decide)) mt_X12_save0 km_X12_200 ki_X12_save0 ks_X12_save0 hM.1 ⟨by decide, rfl⟩ rfl (Nat.le_of_ble_eq_true rfl) ⟨⟨by decide, by decide⟩, by decide, by decide⟩ (fun w33 I34 L35 hw33 => ?_)
    obtain ⟨hw33v, eL35, hw33r0, hw33r1, hw33r2⟩ := hw33
    subst hw33v
    refine x_st [] rfl ?_
    replace eL35 := eL35.symm; subst eL35
    refine x_aload_n 33 C dX12_equation_33 rfl 0 rfl ?_
    refine x_callVe 34 C dX12_equation_34 (As := []) (rest := []) [.int (nI (dgN ((rdAll t N).2.2.1) ((rdAll t N).2.2.2) 10))] (t_X12_degreeTold l D z n G I34 L A ((rdAll t N).2.2.1) ((rdAll t N).2.2.2) hM (fun k hk => by rw [hw33r1 _ (by omega) (by omega)]; exact hw26r0 hok k hk)) mt_X12_degreeTold km_X12_291 ki_X12_degreeTold ks_X12_degreeTold hM.1 ⟨by decide, rfl⟩ rfl rfl (Nat.le_of_ble_eq_true rfl) ⟨⟨by decide, by decide⟩, by decide, by decide⟩ (fun I36 L37 eI36 eL37 => ?_)
    replace eI36 := eI36.symm; subst eI36
    replace eL37 := eL37.symm; subst eL37
    refine x_int (nI (rdD t N)) rfl ?_
    refine x_istore_n 37 C [(2, .int (nI (rdD t N))), (0, .ref A), (1, .int (nI 1))] dX12_equation_37 rfl (by decide) rfl ?_
    have hP30 : I34 (A + 1) = I (A + 1) := by rw [hw33r1 _ (by omega) (by omega)]; exact hw26r1 _ (by omega) (by omega)
    have hdx30 : I34 (A + 1) 40 = nI dx := by rw [hP30]; exact hdx
    have hdy30 : I34 (A + 1) 41 = nI dy := by rw [hP30]; exact hdy
    have hT30 : ∀ j, j < 10 → I34 (A + 14) (2 * j) = (rdAll t N).2.2.1 j ∧ I34 (A + 14) (2 * j + 1) = (rdAll t N).2.2.2 j := fun j hj => by rw [hw33r1 _ (by omega) (by omega)]; exact hw26r0 hok j hj
    have hrec : mrec I A Z I34 := by have h := hw33r0; unfold mrec at h; rw [hw26r1 (A + 1) (by omega) (by omega), hw26r1 (A + 2) (by omega) (by omega)] at h; exact h
    refine x_iconst 38 C (v := 0) dX12_equation_38 rfl ?_
    refine x_istore_n 39 C [(3, .int 0), (2, .int (nI (rdD t N))), (0, .ref A), (1, .int (nI 1))] dX12_equation_39 rfl (by decide) rfl ?_
    have loop40 : ∀ (fuel : Nat) (k : Nat) (Im : xI), (k ≤ 20) → (21 ≤ k + fuel) → (∀ j, Im (A + 1) j = if 20 * 1 ≤ j ∧ j < 20 * 1 + k then I34 (A + 14) (j - 20 * 1) else I34 (A + 1) j) → (∀ q, q ≠ A + 1 → Im q = I34 q) → X p l e (xRm 5 114 0 0) s m args below meth c D z 4 (MQ below (xQc D z n (xN n G (fun v' I' L' => v' = (some (.int (nI (rdD t N)))) ∧ (mrec I A Z I') ∧ (∀ k, k < 10 → I' (A + 1) (20 * 1 + 2 * k) = (rdAll t N).2.2.1 k ∧ I' (A + 1) (20 * 1 + 2 * k + 1) = (rdAll t N).2.2.2 k) ∧ (∀ j, j < 40 → (j < 20 * 1 ∨ 20 * 1 + 20 ≤ j) → I' (A + 1) j = I (A + 1) j) ∧ (∀ j, 40 ≤ j → j < 50 → I' (A + 1) j = if j = 40 + 1 then nI (rdD t N) else I (A + 1) j) ∧ (∀ k, k < (if 1 = 0 then rdD t N else dx) * (if 1 = 0 then dy else rdD t N) → mvO (I' (A + 1)) (50 + 12 * k) = mBg (if 1 = 0 then rdD t N else dx) (if 1 = 0 then dy else rdD t N) (I (A + 1) 42) (I (A + 1) 43) k) ∧ (∀ q, q ≠ A → q ≠ A + 1 → q ≠ A + 2 → q ≠ A + 14 → I' q = I q) ∧ (I' A 6 = nI 0) ∧ (∀ j, (j < 18 ∨ 22 < j) → j ≠ 2 → j ≠ 6 → I' A j = I A j) ∧ (∀ q, q ≠ A → L' q = L q)))) args s 0 0 (fun a => z ≤ a)) 0 0 n G Im L 40 [(0, .ref A), (1, .int (nI 1)), (2, .int (nI (rdD t N))), (3, .int (nI k))] [] := by
      intro fuel
      induction fuel with
      | zero =>
        intro k Im hk hf2 hcp hcr
        exact absurd hf2 (by omega)
      | succ fuel ih =>
        intro k Im hk hf2 hcp hcr
        refine x_iload_n 40 C dX12_equation_40 rfl 3 rfl ?_
        refine x_bipush 41 C (v := 20) dX12_equation_41 rfl ?_
        refine x_icmp_ge 43 C 69 dX12_equation_43 (by decide) (fun c38 => ?_) (fun c38 => ?_)
        · skip
          have c38n : 20 ≤ k := (nI_leI (a := 20) (b := k) (by omega) (by omega)).mp c38
          have c38m : ¬ (k < 20) := by omega
          have c38o := Int32.not_lt.mpr c38
          refine x_aload_n 69 C dX12_equation_69 rfl 0 rfl ?_
          refine x_getr 70 C (b := A + 1) dX12_equation_70 ff_X12_7 rfl hM.1 rfl ?_
          refine x_bipush 73 C (v := 40) dX12_equation_73 rfl ?_
          refine x_iload_n 75 C dX12_equation_75 rfl 1 rfl ?_
          refine x_iadd 76 C dX12_equation_76 ?_
          refine x_int 41 (by decide) ?_
          refine x_iload_n 77 C dX12_equation_77 rfl 2 rfl ?_
          refine x_iast 78 C (j := 41) dX12_equation_78 hM.2.1 (by omega) ⟨by decide, by decide, by decide⟩ (fun I39 eI39 => ?_)
          refine x_aload_n 79 C dX12_equation_79 rfl 0 rfl ?_
          refine x_callVp 80 C dX12_equation_80 (As := []) (rest := []) (t_X12_beginAll l D z n G I39 L A dx (rdD t N) hM (by omega) (by rw [eI39, xup_at, if_neg (by decide), hcp, if_neg (by omega)]; exact hdx30) (by rw [eI39, xup_at, if_pos rfl]) hdg (Nat.le_trans (Nat.mul_le_mul hdxl hrd3) (by decide)) hd0) mt_X12_beginAll km_X12_64 ki_X12_beginAll ks_X12_beginAll hM.1 ⟨by decide, rfl⟩ rfl (Nat.le_of_ble_eq_true rfl) ⟨⟨by decide, by decide⟩, by decide, by decide⟩ (fun w40 I41 L42 hw40 => ?_)
          obtain ⟨hw40v, hw40r0, hw40r1, hw40r2, hw40r3⟩ := hw40
          subst hw40v
          refine x_st [] rfl ?_
          refine x_aload_n 83 C dX12_equation_83 rfl 0 rfl ?_
          refine x_iconst 84 C (v := 0) dX12_equation_84 rfl ?_
          refine x_puti 85 C dX12_equation_85 ff_X12_243 rfl hM.1 (by omega) (fun I43 eI43 => ?_)
          refine x_iload_n 88 C dX12_equation_88 rfl 2 rfl ?_
          refine x_iret 89 C dX12_equation_89 rfl rfl (Nat.le_refl _) (xN.intro ?_)
          have hk2 : k = 20 := by omega
          subst hk2
          have hlo : ∀ j, j < 50 → I43 (A + 1) j = if j = 40 + 1 then nI (rdD t N) else if 20 * 1 ≤ j ∧ j < 20 * 1 + 20 then I34 (A + 14) (j - 20 * 1) else I (A + 1) j := fun j hj => by rw [eI43, xup_row _ _ (by omega), hw40r1 j hj, eI39, xup_at, hcp, hP30]
          refine ⟨rfl, mrec_congr (by rw [eI43, xup_ne _ _ (by omega), hw40r2 A (by omega), eI39, xup_row _ _ (by omega), hcr A (by omega)]) (by rw [eI43, xup_row _ _ (by omega), hw40r2 _ (by omega), eI39, xup_row _ _ (by omega), hcr _ (by omega)]) hrec, fun i hi => ⟨?_, ?_⟩, fun j hj h2 => ?_, fun j h1 h2 => ?_, fun i hi => ?_, fun q h0 h1 h2 h14 => ?_, ?_, fun j h18 h2 h6 => ?_, ?_⟩
          · rw [hlo _ (by omega), if_neg (by omega), if_pos (by omega), show 20 * 1 + 2 * i - 20 * 1 = 2 * i by omega]; exact (hT30 i hi).1
          · rw [hlo _ (by omega), if_neg (by omega), if_pos (by omega), show 20 * 1 + 2 * i + 1 - 20 * 1 = 2 * i + 1 by omega]; exact (hT30 i hi).2
          · rw [hlo _ (by omega), if_neg (by omega), if_neg (by omega)]
          · rw [hlo _ h2]; by_cases hh : j = 40 + 1; (rw [if_pos hh, if_pos hh]); (rw [if_neg hh, if_neg hh, if_neg (by omega)])
          · rw [eI43, xup_row _ _ (by omega)]; exact (hw40r0 i hi).trans (by rw [eI39, xup_at, if_neg (by decide), xup_at, if_neg (by decide), hcp, if_neg (by omega), hcp, if_neg (by omega), hP30]; rfl)
          · rw [eI43, xup_row _ _ h0, hw40r2 q h1, eI39, xup_row _ _ h1, hcr q h1, hw33r1 q h0 h2]; exact hw26r1 q h0 h14
          · rw [eI43, xup_self]; rfl
          · rw [eI43, xup_ne _ _ (fun h => h6 h.2), hw40r2 A (by omega), eI39, xup_row _ _ (by omega), hcr A (by omega), hw33r2 j h2]; exact hw26r2 j h18
          · exact hw40r3
        · skip
          have c38n : ¬ (20 ≤ k) := fun h => c38 ((nI_leI (a := 20) (b := k) (by omega) (by omega)).mpr h)
          have c38m : k < 20 := by omega
          have c38o := Int32.not_le.mp c38
          refine x_aload_n 46 C dX12_equation_46 rfl 0 rfl ?_
          refine x_getr 47 C (b := A + 1) dX12_equation_47 ff_X12_7 rfl hM.1 rfl ?_
          refine x_bipush 50 C (v := 20) dX12_equation_50 rfl ?_
          refine x_iload_n 52 C dX12_equation_52 rfl 1 rfl ?_
          refine x_imul 53 C dX12_equation_53 ?_
          refine x_int 20 (by decide) ?_
          refine x_iload_n 54 C dX12_equation_54 rfl 3 rfl ?_
          refine x_iadd 55 C dX12_equation_55 ?_
          refine x_int (nI (20 + k)) (nI_add 20 k) ?_
          refine x_aload_n 56 C dX12_equation_56 rfl 0 rfl ?_
          refine x_getr 57 C (b := A + 14) dX12_equation_57 ff_X12_57 rfl hM.1 rfl ?_
          refine x_iload_n 60 C dX12_equation_60 rfl 3 rfl ?_
          refine x_iald 61 C (j := k) dX12_equation_61 hM.2.2.2.2.2.2.2.2.2.2.2.2.2.2 (xIx_nI (by omega) (by decide)) ?_
          refine x_int (I34 (A + 14) k) (by rw [hcr _ (by omega)]) ?_
          refine x_iast 62 C (j := (20 + k)) dX12_equation_62 hM.2.1 (by omega) (xIx_nI (by omega) (by decide)) (fun I44 eI44 => ?_)
          refine x_iinc 63 C [(3, .int (nI (k + 1))), (0, .ref A), (1, .int (nI 1)), (2, .int (nI (rdD t N)))] dX12_equation_63 3 rfl (nI_add k 1) (by decide) rfl ?_
          refine x_goto 66 C 40 dX12_equation_66 (by decide) ?_
          refine x_sub [(0, .ref A), (1, .int (nI 1)), (2, .int (nI (rdD t N))), (3, .int (nI (k + 1)))] [1, 2, 3, 0] rfl ?_
          exact ih (k + 1) I44 (by omega) (by omega) (fun j => by rw [eI44, xup_at]; by_cases h : j = 20 + k; (rw [if_pos (by omega), if_pos (by omega)]; congr 1; omega); (rw [if_neg (by omega), hcp]; by_cases h3 : 20 * 1 ≤ j ∧ j < 20 * 1 + k; (rw [if_pos h3, if_pos (by omega)]); (rw [if_neg h3, if_neg (by omega)]))) (fun q hq => by rw [eI44, xup_row _ _ hq]; exact hcr q hq)
    refine x_sub [(0, .ref A), (1, .int (nI 1)), (2, .int (nI (rdD t N))), (3, .int 0)] [2, 3, 1, 0] rfl ?_
    exact loop40 21 0 I34 (by omega) (by omega) (fun j => (if_neg (by omega)).symm) (fun _ _ => rfl)
set_option maxHeartbeats 1000000 in
set_option maxRecDepth 100000 in
theorem t_X12_equation_bad (l : Launch) (D : xD) (z n : Nat) (G : xG) (I : xI) (L : xL) (A : Nat) (x : Int32) (hM : shMo G A) (hbad : ¬ (0 ≤ x ∧ x ≤ 1)) : xM0 l D z yX12_equation cX12_equation 4 (some .int) 5 114 [.ref A, .int x] n G I L (xE (some (.int (-2000000001))) I L) := by
  refine xM.of (by decide) (Nat.le_of_ble_eq_true rfl) (fun p e s m args below meth c C hnm hsz => ?_)
  refine x_lv [(0, .ref A), (1, .int x)] rfl ?_
  refine x_iload_n 0 C dX12_equation_0 rfl 1 rfl ?_
  refine x_iconst 1 C (v := 0) dX12_equation_1 rfl ?_
  refine x_iconst 2 C (v := 1) dX12_equation_2 rfl ?_
  refine x_callSe 3 C dX12_equation_3 (As := [.int x, .int 0, .int 1]) (rest := []) [.int (bI (decide (0 ≤ x) && decide (x ≤ 1)))] (t_X12_in l D z n G I L x 0 1 ) mt_X12_in km_X12_71 kt_X12_in rfl rfl (Nat.le_of_ble_eq_true rfl) ⟨⟨by decide, by decide⟩, by decide, by decide⟩ (fun I1 L2 eI1 eL2 => ?_)
  replace eI1 := eI1.symm; subst eI1
  replace eL2 := eL2.symm; subst eL2
  refine x_if_ne 6 C 12 dX12_equation_6 (by decide) (fun c3 => absurd (in_b.mpr hbad) c3) (fun _ => ?_)
  refine x_ldc 9 C (-2000000001) dX12_equation_9 kk_X12_198 ?_
  refine x_iret 11 C dX12_equation_11 rfl rfl (Nat.le_refl _) (xN.intro ?_)
  exact ⟨rfl, rfl, rfl⟩
set_option maxHeartbeats 1000000 in
set_option maxRecDepth 100000 in
theorem t_X12_equation_fault (l : Launch) (D : xD) (z n : Nat) (G : xG) (I : xI) (L : xL) (A : Nat) (b : Nat) (t : Nat → Nat) (N : Nat) (r : Nat) (hM : shMo G A) (zA : z ≤ A) (hb : b < 2) (hT : mx I A t N r) (hC : txc t N) (hok : (rdAll t N).1 = false) : xM0 l D z yX12_equation cX12_equation 4 (some .int) 5 114 [.ref A, .int (nI b)] n G I L (fun v' I' L' => v' = (some (.int (-2000000002))) ∧ L' = L ∧ (∀ a, a ≠ A → a ≠ A + 14 → I' a = I a) ∧ (∀ j, (j < 18 ∨ 22 < j) → I' A j = I A j)) := by
  refine xM.of (by decide) (Nat.le_of_ble_eq_true rfl) (fun p e s m args below meth c C hnm hsz => ?_)
  refine x_lv [(0, .ref A), (1, .int (nI b))] rfl ?_
  have hrl := rdAll_le t N
  have hN6 := hC.1
  refine x_iload_n 0 C dX12_equation_0 rfl 1 rfl ?_
  refine x_iconst 1 C (v := 0) dX12_equation_1 rfl ?_
  refine x_iconst 2 C (v := 1) dX12_equation_2 rfl ?_
  refine x_callSe 3 C dX12_equation_3 (As := [.int (nI b), .int 0, .int 1]) (rest := []) [.int (bI (decide (0 ≤ b) && decide (b ≤ 1)))] (t_X12_in_n l D z n G I L b 0 1 (by first | omega | assumption | decide) (by first | omega | assumption | decide) (by first | omega | assumption | decide)) mt_X12_in km_X12_71 kt_X12_in rfl rfl (Nat.le_of_ble_eq_true rfl) ⟨⟨by decide, by decide⟩, by decide, by decide⟩ (fun I1 L2 eI1 eL2 => ?_)
  replace eI1 := eI1.symm; subst eI1
  replace eL2 := eL2.symm; subst eL2
  refine x_int 1 (by simp [bI]; omega) ?_
  refine x_if_ne 6 C 12 dX12_equation_6 (by decide) (fun _ => ?_) (fun c3 => absurd c3 (by decide))
  refine x_aload_n 12 C dX12_equation_12 rfl 0 rfl ?_
  refine x_callVp 13 C dX12_equation_13 (As := []) (rest := []) (t_X12_faultOf l D z n G I L A t N r hM (by omega) (by first | assumption | omega | decide) (by first | assumption | omega | decide)) mt_X12_faultOf km_X12_288 ki_X12_faultOf ks_X12_faultOf hM.1 ⟨by decide, rfl⟩ rfl (Nat.le_of_ble_eq_true rfl) ⟨⟨by decide, by decide⟩, by decide, by decide⟩ (fun w4 I5 L6 hw4 => ?_)
  obtain ⟨hw4v, eL6, hw4r0, hw4r1, hw4r2⟩ := hw4
  subst hw4v
  refine x_st [.int (if (rdAll t N).1 = true then -1 else nI (rdAll t N).2.1)] rfl ?_
  replace eL6 := eL6.symm; subst eL6
  refine x_int (nI ((rdAll t N).2.1)) (if_neg (by rw [hok]; decide)) ?_
  refine x_if_ge 16 C 26 dX12_equation_16 (by decide) (fun _ => ?_) (fun c7 => absurd ((nI_leI (a := 0) (b := ((rdAll t N).2.1)) (by omega) (by omega)).mpr (by omega)) c7)
  refine x_ldc 26 C (-2000000002) dX12_equation_26 kk_X12_199 ?_
  refine x_iret 28 C dX12_equation_28 rfl rfl (Nat.le_refl _) (xN.intro ?_)
  exact ⟨rfl, rfl, hw4r1, hw4r2⟩
set_option maxHeartbeats 1000000 in
set_option maxRecDepth 100000 in
theorem t_X12_equation_deg (l : Launch) (D : xD) (z n : Nat) (G : xG) (I : xI) (L : xL) (A : Nat) (b : Nat) (t : Nat → Nat) (N : Nat) (r : Nat) (hM : shMo G A) (zA : z ≤ A) (hb : b < 2) (hT : mx I A t N r) (hC : txc t N) (hok : (rdAll t N).1 = true) (hdg : rdD t N = 0) : xM0 l D z yX12_equation cX12_equation 4 (some .int) 5 114 [.ref A, .int (nI b)] n G I L (fun v' I' L' => v' = (some (.int (-2000000002))) ∧ L' = L ∧ (∀ a, a ≠ A → a ≠ A + 14 → I' a = I a) ∧ (∀ j, (j < 18 ∨ 22 < j) → I' A j = I A j)) := by
  refine xM.of (by decide) (Nat.le_of_ble_eq_true rfl) (fun p e s m args below meth c C hnm hsz => ?_)
  refine x_lv [(0, .ref A), (1, .int (nI b))] rfl ?_
  refine x_iload_n 0 C dX12_equation_0 rfl 1 rfl ?_
  refine x_iconst 1 C (v := 0) dX12_equation_1 rfl ?_
  refine x_iconst 2 C (v := 1) dX12_equation_2 rfl ?_
  refine x_callSe 3 C dX12_equation_3 (As := [.int (nI b), .int 0, .int 1]) (rest := []) [.int (bI (decide (0 ≤ b) && decide (b ≤ 1)))] (t_X12_in_n l D z n G I L b 0 1 (by first | omega | assumption | decide) (by first | omega | assumption | decide) (by first | omega | assumption | decide)) mt_X12_in km_X12_71 kt_X12_in rfl rfl (Nat.le_of_ble_eq_true rfl) ⟨⟨by decide, by decide⟩, by decide, by decide⟩ (fun I1 L2 eI1 eL2 => ?_)
  replace eI1 := eI1.symm; subst eI1
  replace eL2 := eL2.symm; subst eL2
  refine x_int 1 (by simp [bI]; omega) ?_
  refine x_if_ne 6 C 12 dX12_equation_6 (by decide) (fun _ => ?_) (fun c3 => absurd c3 (by decide))
  refine x_aload_n 12 C dX12_equation_12 rfl 0 rfl ?_
  refine x_callVp 13 C dX12_equation_13 (As := []) (rest := []) (t_X12_faultOf l D z n G I L A t N r hM (by omega) (by first | assumption | omega | decide) (by first | assumption | omega | decide)) mt_X12_faultOf km_X12_288 ki_X12_faultOf ks_X12_faultOf hM.1 ⟨by decide, rfl⟩ rfl (Nat.le_of_ble_eq_true rfl) ⟨⟨by decide, by decide⟩, by decide, by decide⟩ (fun w4 I5 L6 hw4 => ?_)
  obtain ⟨hw4v, eL6, hw4r0, hw4r1, hw4r2⟩ := hw4
  subst hw4v
  refine x_st [.int (if (rdAll t N).1 = true then -1 else nI (rdAll t N).2.1)] rfl ?_
  replace eL6 := eL6.symm; subst eL6
  refine x_int (-1) (if_pos hok) ?_
  refine x_if_ge 16 C 26 dX12_equation_16 (by decide) (fun c7 => absurd c7 (by decide)) (fun _ => ?_)
  refine x_aload_n 19 C dX12_equation_19 rfl 0 rfl ?_
  refine x_callVe 20 C dX12_equation_20 (As := []) (rest := []) [.int (nI (dgN ((rdAll t N).2.2.1) ((rdAll t N).2.2.2) 10))] (t_X12_degreeTold l D z n G I5 L A ((rdAll t N).2.2.1) ((rdAll t N).2.2.2) hM (hw4r0 hok)) mt_X12_degreeTold km_X12_291 ki_X12_degreeTold ks_X12_degreeTold hM.1 ⟨by decide, rfl⟩ rfl rfl (Nat.le_of_ble_eq_true rfl) ⟨⟨by decide, by decide⟩, by decide, by decide⟩ (fun I8 L9 eI8 eL9 => ?_)
  replace eI8 := eI8.symm; subst eI8
  replace eL9 := eL9.symm; subst eL9
  refine x_int 0 (congrArg nI hdg) ?_
  refine x_if_ne 23 C 29 dX12_equation_23 (by decide) (fun c10 => absurd (by decide) c10) (fun _ => ?_)
  refine x_ldc 26 C (-2000000002) dX12_equation_26 kk_X12_199 ?_
  refine x_iret 28 C dX12_equation_28 rfl rfl (Nat.le_refl _) (xN.intro ?_)
  exact ⟨rfl, rfl, hw4r1, hw4r2⟩
