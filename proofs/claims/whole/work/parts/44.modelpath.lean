/-! The Model: a path in its row, from the place c on: place c, step 1, greatest 2, precision 3, row 4, kind 5, good 6, failed 7, point 8 to 11; as the class's path value -/
def rw8 (a2 a3 a4 a5 a6 a7 a8 a9 : Int32) : Nat → Int32 := fun j => if j = 2 then a2 else if j = 3 then a3 else if j = 4 then a4 else if j = 5 then a5 else if j = 6 then a6 else if j = 7 then a7 else if j = 8 then a8 else if j = 9 then a9 else 0
theorem rw8_u2 (a2 a3 a4 a5 a6 a7 a8 a9 x : Int32) : va_up (rw8 a2 a3 a4 a5 a6 a7 a8 a9) 2 x = rw8 x a3 a4 a5 a6 a7 a8 a9 := by
  funext j; simp only [va_up, rw8]; by_cases h : j = 2 <;> simp [h]
theorem rw8_2 (a2 a3 a4 a5 a6 a7 a8 a9 : Int32) : rw8 a2 a3 a4 a5 a6 a7 a8 a9 2 = a2 := rfl
theorem rw8_u3 (a2 a3 a4 a5 a6 a7 a8 a9 x : Int32) : va_up (rw8 a2 a3 a4 a5 a6 a7 a8 a9) 3 x = rw8 a2 x a4 a5 a6 a7 a8 a9 := by
  funext j; simp only [va_up, rw8]; by_cases h : j = 3 <;> simp [h]
theorem rw8_3 (a2 a3 a4 a5 a6 a7 a8 a9 : Int32) : rw8 a2 a3 a4 a5 a6 a7 a8 a9 3 = a3 := rfl
theorem rw8_u4 (a2 a3 a4 a5 a6 a7 a8 a9 x : Int32) : va_up (rw8 a2 a3 a4 a5 a6 a7 a8 a9) 4 x = rw8 a2 a3 x a5 a6 a7 a8 a9 := by
  funext j; simp only [va_up, rw8]; by_cases h : j = 4 <;> simp [h]
theorem rw8_4 (a2 a3 a4 a5 a6 a7 a8 a9 : Int32) : rw8 a2 a3 a4 a5 a6 a7 a8 a9 4 = a4 := rfl
theorem rw8_u5 (a2 a3 a4 a5 a6 a7 a8 a9 x : Int32) : va_up (rw8 a2 a3 a4 a5 a6 a7 a8 a9) 5 x = rw8 a2 a3 a4 x a6 a7 a8 a9 := by
  funext j; simp only [va_up, rw8]; by_cases h : j = 5 <;> simp [h]
theorem rw8_5 (a2 a3 a4 a5 a6 a7 a8 a9 : Int32) : rw8 a2 a3 a4 a5 a6 a7 a8 a9 5 = a5 := rfl
theorem rw8_u6 (a2 a3 a4 a5 a6 a7 a8 a9 x : Int32) : va_up (rw8 a2 a3 a4 a5 a6 a7 a8 a9) 6 x = rw8 a2 a3 a4 a5 x a7 a8 a9 := by
  funext j; simp only [va_up, rw8]; by_cases h : j = 6 <;> simp [h]
theorem rw8_6 (a2 a3 a4 a5 a6 a7 a8 a9 : Int32) : rw8 a2 a3 a4 a5 a6 a7 a8 a9 6 = a6 := rfl
theorem rw8_u7 (a2 a3 a4 a5 a6 a7 a8 a9 x : Int32) : va_up (rw8 a2 a3 a4 a5 a6 a7 a8 a9) 7 x = rw8 a2 a3 a4 a5 a6 x a8 a9 := by
  funext j; simp only [va_up, rw8]; by_cases h : j = 7 <;> simp [h]
theorem rw8_7 (a2 a3 a4 a5 a6 a7 a8 a9 : Int32) : rw8 a2 a3 a4 a5 a6 a7 a8 a9 7 = a7 := rfl
theorem rw8_u8 (a2 a3 a4 a5 a6 a7 a8 a9 x : Int32) : va_up (rw8 a2 a3 a4 a5 a6 a7 a8 a9) 8 x = rw8 a2 a3 a4 a5 a6 a7 x a9 := by
  funext j; simp only [va_up, rw8]; by_cases h : j = 8 <;> simp [h]
theorem rw8_8 (a2 a3 a4 a5 a6 a7 a8 a9 : Int32) : rw8 a2 a3 a4 a5 a6 a7 a8 a9 8 = a8 := rfl
theorem rw8_u9 (a2 a3 a4 a5 a6 a7 a8 a9 x : Int32) : va_up (rw8 a2 a3 a4 a5 a6 a7 a8 a9) 9 x = rw8 a2 a3 a4 a5 a6 a7 a8 x := by
  funext j; simp only [va_up, rw8]; by_cases h : j = 9 <;> simp [h]
theorem rw8_9 (a2 a3 a4 a5 a6 a7 a8 a9 : Int32) : rw8 a2 a3 a4 a5 a6 a7 a8 a9 9 = a9 := rfl
def mvO (f : Nat → Int32) (c : Nat) : xP := (rw8 (f (c + 5)) (f c) (f (c + 1)) (f (c + 2)) (f (c + 3)) (f (c + 6)) (f (c + 7)) (f (c + 4)), (Int32.toInt64 (f (c + 8)), Int32.toInt64 (f (c + 9))), (Int32.toInt64 (f (c + 10)), Int32.toInt64 (f (c + 11))))
theorem mvO_of (f : Nat → Int32) (c : Nat) {b0 b1 b2 b3 b4 b5 b6 b7 : Int32} {p0 p1 p2 p3 : Int64} (h0 : f c = b0) (h1 : f (c + 1) = b1) (h2 : f (c + 2) = b2) (h3 : f (c + 3) = b3) (h4 : f (c + 4) = b4) (h5 : f (c + 5) = b5) (h6 : f (c + 6) = b6) (h7 : f (c + 7) = b7)
    (h8 : Int32.toInt64 (f (c + 8)) = p0) (h9 : Int32.toInt64 (f (c + 9)) = p1) (h10 : Int32.toInt64 (f (c + 10)) = p2) (h11 : Int32.toInt64 (f (c + 11)) = p3) : mvO f c = (rw8 b5 b0 b1 b2 b3 b6 b7 b4, (p0, p1), (p2, p3)) := by
  unfold mvO; rw [h0, h1, h2, h3, h4, h5, h6, h7, h8, h9, h10, h11]
theorem mvO_congr {f g : Nat → Int32} {c d : Nat} (h : ∀ j, j < 12 → f (c + j) = g (d + j)) : mvO f c = mvO g d := by
  unfold mvO
  have h0 := h 0 (by decide)
  rw [Nat.add_zero, Nat.add_zero] at h0
  rw [h0, h 1 (by decide), h 2 (by decide), h 3 (by decide), h 4 (by decide), h 5 (by decide), h 6 (by decide), h 7 (by decide), h 8 (by decide), h 9 (by decide), h 10 (by decide), h 11 (by decide)]
theorem gMove_rw8 (P s g pr go fa w h bo : Int32) (m : Int64) : gMove (rw8 0 P s g pr go fa w) h bo m = rw8 (if m ≤ bo.toInt64 * punit pr then (if P + h < 1024 then 0 else 1) else 2) (P + h) (if w + 1 < 3 then s else imin (s * 2) g) g pr (go + 1) fa (if w + 1 < 3 then w + 1 else 0) := by
  unfold gMove gMove2 gMove1
  simp only [rw8_u2, rw8_u3, rw8_u4, rw8_u5, rw8_u6, rw8_u7, rw8_u8, rw8_u9, rw8_2, rw8_3, rw8_4, rw8_5, rw8_6, rw8_7, rw8_8, rw8_9]
  by_cases h1 : m ≤ bo.toInt64 * punit pr <;> by_cases h2 : P + h < 1024 <;> by_cases h3 : w + 1 < 3 <;> simp only [h1, h2, h3, if_true, if_false, rw8_u2, rw8_u3, rw8_u4, rw8_u5, rw8_u6, rw8_u7, rw8_u8, rw8_u9, rw8_2, rw8_3, rw8_4, rw8_5, rw8_6, rw8_7, rw8_8, rw8_9]
theorem gFail_rw8 (k P s g pr go fa w s0 : Int32) : gFail (rw8 k P s g pr go fa w) s0 = rw8 (if s ≤ 1 then (if pr = 10 then k else 3) else k) P (if s ≤ 1 then (if pr = 10 then imin s0 g else s) else s / 2) g (if s ≤ 1 then (if pr = 10 then 18 else pr) else pr) go (fa + 1) 0 := by
  unfold gFail gFail1
  simp only [rw8_u2, rw8_u3, rw8_u4, rw8_u5, rw8_u6, rw8_u7, rw8_u8, rw8_u9, rw8_2, rw8_3, rw8_4, rw8_5, rw8_6, rw8_7, rw8_8, rw8_9]
  by_cases h1 : s ≤ 1 <;> by_cases h2 : pr = 10 <;> simp only [h1, h2, if_true, if_false, rw8_u2, rw8_u3, rw8_u4, rw8_u5, rw8_u6, rw8_u7, rw8_u8, rw8_u9, rw8_2, rw8_3, rw8_4, rw8_5, rw8_6, rw8_7, rw8_8, rw8_9]
theorem l2i_held {v : Int64} (h : held v = v) : Int32.toInt64 (Int64.toInt32 v) = v := by
  have h1 := held_in h
  apply Int64.toInt_inj.mp
  rw [Int32.toInt_toInt64, Int64.toInt_toInt32, Int.bmod_eq_of_le (by omega) (by omega)]
theorem max_le2 {a b m : Int64} : lmax a b ≤ m ↔ ¬ m < a ∧ ¬ m < b := by
  unfold lmax
  constructor
  · intro h
    split at h <;> rename_i h2 <;> simp only [Int64.lt_iff_toInt_lt, Int64.le_iff_toInt_le] at * <;> omega
  · intro h
    split <;> rename_i h2 <;> simp only [Int64.lt_iff_toInt_lt, Int64.le_iff_toInt_le] at * <;> omega
theorem pun_of {x : Int32} (h : x = 10 ∨ x = 18) : (1 : Int64) <<< (Int32.toInt64 x &&& 63) = punit x := by
  rcases h with h | h <;> rw [h] <;> decide
theorem dX12_takes_0 : decode cX12_takes 0 = .ok (.iload_n 1, 1) := by decide +kernel
theorem dX12_takes_1 : decode cX12_takes 1 = .ok (.invokestatic 146, 3) := by decide +kernel
theorem dX12_takes_4 : decode cX12_takes 4 = .ok (.istore_n 2, 1) := by decide +kernel
theorem dX12_takes_5 : decode cX12_takes 5 = .ok (.aload_n 0, 1) := by decide +kernel
theorem dX12_takes_6 : decode cX12_takes 6 = .ok (.lconst 1, 1) := by decide +kernel
theorem dX12_takes_7 : decode cX12_takes 7 = .ok (.aload_n 0, 1) := by decide +kernel
theorem dX12_takes_8 : decode cX12_takes 8 = .ok (.getfield 7, 3) := by decide +kernel
theorem dX12_takes_11 : decode cX12_takes 11 = .ok (.iload_n 2, 1) := by decide +kernel
theorem dX12_takes_12 : decode cX12_takes 12 = .ok (.iconst 3, 1) := by decide +kernel
theorem dX12_takes_13 : decode cX12_takes 13 = .ok (.iadd, 1) := by decide +kernel
theorem dX12_takes_14 : decode cX12_takes 14 = .ok (.iaload, 1) := by decide +kernel
theorem dX12_takes_15 : decode cX12_takes 15 = .ok (.lshl, 1) := by decide +kernel
theorem dX12_takes_16 : decode cX12_takes 16 = .ok (.putfield 28, 3) := by decide +kernel
theorem dX12_takes_19 : decode cX12_takes 19 = .ok (.iconst 0, 1) := by decide +kernel
theorem dX12_takes_20 : decode cX12_takes 20 = .ok (.istore_n 3, 1) := by decide +kernel
theorem dX12_takes_21 : decode cX12_takes 21 = .ok (.iload_n 3, 1) := by decide +kernel
theorem dX12_takes_22 : decode cX12_takes 22 = .ok (.iconst 4, 1) := by decide +kernel
theorem dX12_takes_23 : decode cX12_takes 23 = .ok (.if_icmp .ge 27, 3) := by decide +kernel
theorem dX12_takes_26 : decode cX12_takes 26 = .ok (.aload_n 0, 1) := by decide +kernel
theorem dX12_takes_27 : decode cX12_takes 27 = .ok (.getfield 36, 3) := by decide +kernel
theorem dX12_takes_30 : decode cX12_takes 30 = .ok (.iload_n 3, 1) := by decide +kernel
theorem dX12_takes_31 : decode cX12_takes 31 = .ok (.aload_n 0, 1) := by decide +kernel
theorem dX12_takes_32 : decode cX12_takes 32 = .ok (.getfield 7, 3) := by decide +kernel
theorem dX12_takes_35 : decode cX12_takes 35 = .ok (.iload_n 2, 1) := by decide +kernel
theorem dX12_takes_36 : decode cX12_takes 36 = .ok (.bipush 8, 2) := by decide +kernel
theorem dX12_takes_38 : decode cX12_takes 38 = .ok (.iadd, 1) := by decide +kernel
theorem dX12_takes_39 : decode cX12_takes 39 = .ok (.iload_n 3, 1) := by decide +kernel
theorem dX12_takes_40 : decode cX12_takes 40 = .ok (.iadd, 1) := by decide +kernel
theorem dX12_takes_41 : decode cX12_takes 41 = .ok (.iaload, 1) := by decide +kernel
theorem dX12_takes_42 : decode cX12_takes 42 = .ok (.i2l, 1) := by decide +kernel
theorem dX12_takes_43 : decode cX12_takes 43 = .ok (.lastore, 1) := by decide +kernel
theorem dX12_takes_44 : decode cX12_takes 44 = .ok (.iinc 3 1, 3) := by decide +kernel
theorem dX12_takes_47 : decode cX12_takes 47 = .ok (.goto (-26), 3) := by decide +kernel
theorem dX12_takes_50 : decode cX12_takes 50 = .ok (.return_, 1) := by decide +kernel
set_option maxHeartbeats 1000000 in
set_option maxRecDepth 100000 in
theorem t_X12_takes (l : Launch) (D : xD) (z n : Nat) (G : xG) (I : xI) (L : xL) (A : Nat) (k : Nat) (hM : shMo G A) (zA : z ≤ A) (hk : k < 9) (hpr : I (A + 1) (50 + 12 * k + 3) = 10 ∨ I (A + 1) (50 + 12 * k + 3) = 18) : xM0 l D z yX12_takes cX12_takes 4 none 1 20 [.ref A, .int (nI k)] n G I L (fun v' I' L' => v' = none ∧ I' = I ∧ (L' A 9 = punit (I (A + 1) (50 + 12 * k + 3))) ∧ (mRp L' (A + 7) 0 = (mvO (I (A + 1)) (50 + 12 * k)).2.1) ∧ (mRp L' (A + 7) 2 = (mvO (I (A + 1)) (50 + 12 * k)).2.2) ∧ (∀ q, q ≠ A → q ≠ A + 7 → L' q = L q)) := by
  refine xM.of (by decide) (Nat.le_of_ble_eq_true rfl) (fun p e s m args below meth c C hnm hsz => ?_)
  refine x_lv [(0, .ref A), (1, .int (nI k))] rfl ?_
  refine x_iload_n 0 C dX12_takes_0 rfl 1 rfl ?_
  refine x_callSe 1 C dX12_takes_1 (As := [.int (nI k)]) (rest := []) [.int (nI (50 + 12 * k))] (t_X12_pathAt l D z n G I L k (by first | omega | assumption | decide)) mt_X12_pathAt km_X12_146 kt_X12_pathAt rfl rfl (Nat.le_of_ble_eq_true rfl) ⟨⟨by decide, by decide⟩, by decide, by decide⟩ (fun I1 L2 eI1 eL2 => ?_)
  replace eI1 := eI1.symm; subst eI1
  replace eL2 := eL2.symm; subst eL2
  refine x_istore_n 4 C [(2, .int (nI (50 + 12 * k))), (0, .ref A), (1, .int (nI k))] dX12_takes_4 rfl (by decide) rfl ?_
  refine x_aload_n 5 C dX12_takes_5 rfl 1 rfl ?_
  refine x_lconst 6 C (v := 1) dX12_takes_6 rfl ?_
  refine x_aload_n 7 C dX12_takes_7 rfl 1 rfl ?_
  refine x_getr 8 C (b := A + 1) dX12_takes_8 ff_X12_7 rfl hM.1 rfl ?_
  refine x_iload_n 11 C dX12_takes_11 rfl 0 rfl ?_
  refine x_iconst 12 C (v := 3) dX12_takes_12 rfl ?_
  refine x_iadd 13 C dX12_takes_13 ?_
  refine x_int (nI (50 + 12 * k + 3)) (nI_add (50 + 12 * k) 3) ?_
  refine x_iald 14 C (j := (50 + 12 * k + 3)) dX12_takes_14 hM.2.1 (xIx_nI (by omega) (by decide)) ?_
  refine x_lshl 15 C dX12_takes_15 ?_
  refine x_long (punit (I (A + 1) (50 + 12 * k + 3))) (pun_of hpr) ?_
  refine x_putl 16 C dX12_takes_16 ff_X12_28 rfl hM.1 (by omega) (fun L3 eL3 => ?_)
  refine x_iconst 19 C (v := 0) dX12_takes_19 rfl ?_
  refine x_istore_n 20 C [(3, .int 0), (2, .int (nI (50 + 12 * k))), (0, .ref A), (1, .int (nI k))] dX12_takes_20 rfl (by decide) rfl ?_
  refine x_iload_n 21 C dX12_takes_21 rfl 0 rfl ?_
  refine x_iconst 22 C (v := 4) dX12_takes_22 rfl ?_
  refine x_icmp_ge 23 C 50 dX12_takes_23 (by decide) (fun c4 => absurd c4 (by decide)) (fun _ => ?_)
  refine x_aload_n 26 C dX12_takes_26 rfl 2 rfl ?_
  refine x_getr 27 C (b := A + 7) dX12_takes_27 ff_X12_36 rfl hM.1 rfl ?_
  refine x_iload_n 30 C dX12_takes_30 rfl 0 rfl ?_
  refine x_aload_n 31 C dX12_takes_31 rfl 2 rfl ?_
  refine x_getr 32 C (b := A + 1) dX12_takes_32 ff_X12_7 rfl hM.1 rfl ?_
  refine x_iload_n 35 C dX12_takes_35 rfl 1 rfl ?_
  refine x_bipush 36 C (v := 8) dX12_takes_36 rfl ?_
  refine x_iadd 38 C dX12_takes_38 ?_
  refine x_int (nI (50 + 12 * k + 8)) (nI_add (50 + 12 * k) 8) ?_
  refine x_iload_n 39 C dX12_takes_39 rfl 0 rfl ?_
  refine x_iadd 40 C dX12_takes_40 ?_
  refine x_int (nI (50 + 12 * k + 8 + 0)) (nI_add (50 + 12 * k + 8) 0) ?_
  refine x_iald 41 C (j := (50 + 12 * k + 8 + 0)) dX12_takes_41 hM.2.1 (xIx_nI (by omega) (by decide)) ?_
  refine x_i2l 42 C dX12_takes_42 ?_
  refine x_last 43 C (j := 0) dX12_takes_43 hM.2.2.2.2.2.2.2.1 (by omega) ⟨by decide, by decide, by decide⟩ (fun L5 eL5 => ?_)
  refine x_iinc 44 C [(3, .int 1), (2, .int (nI (50 + 12 * k))), (0, .ref A), (1, .int (nI k))] dX12_takes_44 0 rfl (by decide) (by decide) rfl ?_
  refine x_goto 47 C 21 dX12_takes_47 (by decide) ?_
  refine x_iload_n 21 C dX12_takes_21 rfl 0 rfl ?_
  refine x_iconst 22 C (v := 4) dX12_takes_22 rfl ?_
  refine x_icmp_ge 23 C 50 dX12_takes_23 (by decide) (fun c6 => absurd c6 (by decide)) (fun _ => ?_)
  refine x_aload_n 26 C dX12_takes_26 rfl 2 rfl ?_
  refine x_getr 27 C (b := A + 7) dX12_takes_27 ff_X12_36 rfl hM.1 rfl ?_
  refine x_iload_n 30 C dX12_takes_30 rfl 0 rfl ?_
  refine x_aload_n 31 C dX12_takes_31 rfl 2 rfl ?_
  refine x_getr 32 C (b := A + 1) dX12_takes_32 ff_X12_7 rfl hM.1 rfl ?_
  refine x_iload_n 35 C dX12_takes_35 rfl 1 rfl ?_
  refine x_bipush 36 C (v := 8) dX12_takes_36 rfl ?_
  refine x_iadd 38 C dX12_takes_38 ?_
  refine x_int (nI (50 + 12 * k + 8)) (nI_add (50 + 12 * k) 8) ?_
  refine x_iload_n 39 C dX12_takes_39 rfl 0 rfl ?_
  refine x_iadd 40 C dX12_takes_40 ?_
  refine x_int (nI (50 + 12 * k + 8 + 1)) (nI_add (50 + 12 * k + 8) 1) ?_
  refine x_iald 41 C (j := (50 + 12 * k + 8 + 1)) dX12_takes_41 hM.2.1 (xIx_nI (by omega) (by decide)) ?_
  refine x_i2l 42 C dX12_takes_42 ?_
  refine x_last 43 C (j := 1) dX12_takes_43 hM.2.2.2.2.2.2.2.1 (by omega) ⟨by decide, by decide, by decide⟩ (fun L7 eL7 => ?_)
  refine x_iinc 44 C [(3, .int 2), (2, .int (nI (50 + 12 * k))), (0, .ref A), (1, .int (nI k))] dX12_takes_44 0 rfl (by decide) (by decide) rfl ?_
  refine x_goto 47 C 21 dX12_takes_47 (by decide) ?_
  refine x_iload_n 21 C dX12_takes_21 rfl 0 rfl ?_
  refine x_iconst 22 C (v := 4) dX12_takes_22 rfl ?_
  refine x_icmp_ge 23 C 50 dX12_takes_23 (by decide) (fun c8 => absurd c8 (by decide)) (fun _ => ?_)
  refine x_aload_n 26 C dX12_takes_26 rfl 2 rfl ?_
  refine x_getr 27 C (b := A + 7) dX12_takes_27 ff_X12_36 rfl hM.1 rfl ?_
  refine x_iload_n 30 C dX12_takes_30 rfl 0 rfl ?_
  refine x_aload_n 31 C dX12_takes_31 rfl 2 rfl ?_
  refine x_getr 32 C (b := A + 1) dX12_takes_32 ff_X12_7 rfl hM.1 rfl ?_
  refine x_iload_n 35 C dX12_takes_35 rfl 1 rfl ?_
  refine x_bipush 36 C (v := 8) dX12_takes_36 rfl ?_
  refine x_iadd 38 C dX12_takes_38 ?_
  refine x_int (nI (50 + 12 * k + 8)) (nI_add (50 + 12 * k) 8) ?_
  refine x_iload_n 39 C dX12_takes_39 rfl 0 rfl ?_
  refine x_iadd 40 C dX12_takes_40 ?_
  refine x_int (nI (50 + 12 * k + 8 + 2)) (nI_add (50 + 12 * k + 8) 2) ?_
  refine x_iald 41 C (j := (50 + 12 * k + 8 + 2)) dX12_takes_41 hM.2.1 (xIx_nI (by omega) (by decide)) ?_
  refine x_i2l 42 C dX12_takes_42 ?_
  refine x_last 43 C (j := 2) dX12_takes_43 hM.2.2.2.2.2.2.2.1 (by omega) ⟨by decide, by decide, by decide⟩ (fun L9 eL9 => ?_)
  refine x_iinc 44 C [(3, .int 3), (2, .int (nI (50 + 12 * k))), (0, .ref A), (1, .int (nI k))] dX12_takes_44 0 rfl (by decide) (by decide) rfl ?_
  refine x_goto 47 C 21 dX12_takes_47 (by decide) ?_
  refine x_iload_n 21 C dX12_takes_21 rfl 0 rfl ?_
  refine x_iconst 22 C (v := 4) dX12_takes_22 rfl ?_
  refine x_icmp_ge 23 C 50 dX12_takes_23 (by decide) (fun c10 => absurd c10 (by decide)) (fun _ => ?_)
  refine x_aload_n 26 C dX12_takes_26 rfl 2 rfl ?_
  refine x_getr 27 C (b := A + 7) dX12_takes_27 ff_X12_36 rfl hM.1 rfl ?_
  refine x_iload_n 30 C dX12_takes_30 rfl 0 rfl ?_
  refine x_aload_n 31 C dX12_takes_31 rfl 2 rfl ?_
  refine x_getr 32 C (b := A + 1) dX12_takes_32 ff_X12_7 rfl hM.1 rfl ?_
  refine x_iload_n 35 C dX12_takes_35 rfl 1 rfl ?_
  refine x_bipush 36 C (v := 8) dX12_takes_36 rfl ?_
  refine x_iadd 38 C dX12_takes_38 ?_
  refine x_int (nI (50 + 12 * k + 8)) (nI_add (50 + 12 * k) 8) ?_
  refine x_iload_n 39 C dX12_takes_39 rfl 0 rfl ?_
  refine x_iadd 40 C dX12_takes_40 ?_
  refine x_int (nI (50 + 12 * k + 8 + 3)) (nI_add (50 + 12 * k + 8) 3) ?_
  refine x_iald 41 C (j := (50 + 12 * k + 8 + 3)) dX12_takes_41 hM.2.1 (xIx_nI (by omega) (by decide)) ?_
  refine x_i2l 42 C dX12_takes_42 ?_
  refine x_last 43 C (j := 3) dX12_takes_43 hM.2.2.2.2.2.2.2.1 (by omega) ⟨by decide, by decide, by decide⟩ (fun L11 eL11 => ?_)
  refine x_iinc 44 C [(3, .int 4), (2, .int (nI (50 + 12 * k))), (0, .ref A), (1, .int (nI k))] dX12_takes_44 0 rfl (by decide) (by decide) rfl ?_
  refine x_goto 47 C 21 dX12_takes_47 (by decide) ?_
  refine x_iload_n 21 C dX12_takes_21 rfl 0 rfl ?_
  refine x_iconst 22 C (v := 4) dX12_takes_22 rfl ?_
  refine x_icmp_ge 23 C 50 dX12_takes_23 (by decide) (fun _ => ?_) (fun c12 => absurd (by decide) c12)
  refine x_vret 50 C dX12_takes_50 rfl (Nat.le_refl _) (xN.intro ?_)
  refine ⟨rfl, rfl, ?_, ?_, ?_, fun q h0 h7 => by rw [eL11, xup_row _ _ (by omega), eL9, xup_row _ _ (by omega), eL7, xup_row _ _ (by omega), eL5, xup_row _ _ (by omega), eL3, xup_row _ _ (by omega)]⟩
  · rw [eL11, xup_row _ _ (by omega), eL9, xup_row _ _ (by omega), eL7, xup_row _ _ (by omega), eL5, xup_row _ _ (by omega), eL3, xup_self]
  · exact Prod.ext (by show L11 (A + 7) 0 = _; rw [eL11, xup_at, if_neg (by omega), eL9, xup_at, if_neg (by omega), eL7, xup_at, if_neg (by omega), eL5, xup_at, if_pos (by omega)]; rfl) (by show L11 (A + 7) (0 + 1) = _; rw [eL11, xup_at, if_neg (by omega), eL9, xup_at, if_neg (by omega), eL7, xup_at, if_pos (by omega)]; rfl)
  · exact Prod.ext (by show L11 (A + 7) 2 = _; rw [eL11, xup_at, if_neg (by omega), eL9, xup_at, if_pos (by omega)]; rfl) (by show L11 (A + 7) (2 + 1) = _; rw [eL11, xup_at, if_pos (by omega)]; rfl)
theorem dX12_wasGood_0 : decode cX12_wasGood 0 = .ok (.iconst 0, 1) := by decide +kernel
theorem dX12_wasGood_1 : decode cX12_wasGood 1 = .ok (.istore_n 3, 1) := by decide +kernel
theorem dX12_wasGood_2 : decode cX12_wasGood 2 = .ok (.iload_n 3, 1) := by decide +kernel
theorem dX12_wasGood_3 : decode cX12_wasGood 3 = .ok (.iconst 4, 1) := by decide +kernel
theorem dX12_wasGood_4 : decode cX12_wasGood 4 = .ok (.if_icmp .ge 27, 3) := by decide +kernel
theorem dX12_wasGood_7 : decode cX12_wasGood 7 = .ok (.aload_n 0, 1) := by decide +kernel
theorem dX12_wasGood_8 : decode cX12_wasGood 8 = .ok (.getfield 7, 3) := by decide +kernel
theorem dX12_wasGood_11 : decode cX12_wasGood 11 = .ok (.iload_n 1, 1) := by decide +kernel
theorem dX12_wasGood_12 : decode cX12_wasGood 12 = .ok (.bipush 8, 2) := by decide +kernel
theorem dX12_wasGood_14 : decode cX12_wasGood 14 = .ok (.iadd, 1) := by decide +kernel
theorem dX12_wasGood_15 : decode cX12_wasGood 15 = .ok (.iload_n 3, 1) := by decide +kernel
theorem dX12_wasGood_16 : decode cX12_wasGood 16 = .ok (.iadd, 1) := by decide +kernel
theorem dX12_wasGood_17 : decode cX12_wasGood 17 = .ok (.aload_n 0, 1) := by decide +kernel
theorem dX12_wasGood_18 : decode cX12_wasGood 18 = .ok (.getfield 36, 3) := by decide +kernel
theorem dX12_wasGood_21 : decode cX12_wasGood 21 = .ok (.iload_n 3, 1) := by decide +kernel
theorem dX12_wasGood_22 : decode cX12_wasGood 22 = .ok (.laload, 1) := by decide +kernel
theorem dX12_wasGood_23 : decode cX12_wasGood 23 = .ok (.l2i, 1) := by decide +kernel
theorem dX12_wasGood_24 : decode cX12_wasGood 24 = .ok (.iastore, 1) := by decide +kernel
theorem dX12_wasGood_25 : decode cX12_wasGood 25 = .ok (.iinc 3 1, 3) := by decide +kernel
theorem dX12_wasGood_28 : decode cX12_wasGood 28 = .ok (.goto (-26), 3) := by decide +kernel
theorem dX12_wasGood_31 : decode cX12_wasGood 31 = .ok (.aload_n 0, 1) := by decide +kernel
theorem dX12_wasGood_32 : decode cX12_wasGood 32 = .ok (.getfield 7, 3) := by decide +kernel
theorem dX12_wasGood_35 : decode cX12_wasGood 35 = .ok (.iload_n 1, 1) := by decide +kernel
theorem dX12_wasGood_36 : decode cX12_wasGood 36 = .ok (.iconst 0, 1) := by decide +kernel
theorem dX12_wasGood_37 : decode cX12_wasGood 37 = .ok (.iadd, 1) := by decide +kernel
theorem dX12_wasGood_38 : decode cX12_wasGood 38 = .ok (.dup2, 1) := by decide +kernel
theorem dX12_wasGood_39 : decode cX12_wasGood 39 = .ok (.iaload, 1) := by decide +kernel
theorem dX12_wasGood_40 : decode cX12_wasGood 40 = .ok (.iload_n 2, 1) := by decide +kernel
theorem dX12_wasGood_41 : decode cX12_wasGood 41 = .ok (.iadd, 1) := by decide +kernel
theorem dX12_wasGood_42 : decode cX12_wasGood 42 = .ok (.iastore, 1) := by decide +kernel
theorem dX12_wasGood_43 : decode cX12_wasGood 43 = .ok (.aload_n 0, 1) := by decide +kernel
theorem dX12_wasGood_44 : decode cX12_wasGood 44 = .ok (.getfield 7, 3) := by decide +kernel
theorem dX12_wasGood_47 : decode cX12_wasGood 47 = .ok (.iload_n 1, 1) := by decide +kernel
theorem dX12_wasGood_48 : decode cX12_wasGood 48 = .ok (.bipush 6, 2) := by decide +kernel
theorem dX12_wasGood_50 : decode cX12_wasGood 50 = .ok (.iadd, 1) := by decide +kernel
theorem dX12_wasGood_51 : decode cX12_wasGood 51 = .ok (.dup2, 1) := by decide +kernel
theorem dX12_wasGood_52 : decode cX12_wasGood 52 = .ok (.iaload, 1) := by decide +kernel
theorem dX12_wasGood_53 : decode cX12_wasGood 53 = .ok (.iconst 1, 1) := by decide +kernel
theorem dX12_wasGood_54 : decode cX12_wasGood 54 = .ok (.iadd, 1) := by decide +kernel
theorem dX12_wasGood_55 : decode cX12_wasGood 55 = .ok (.iastore, 1) := by decide +kernel
theorem dX12_wasGood_56 : decode cX12_wasGood 56 = .ok (.aload_n 0, 1) := by decide +kernel
theorem dX12_wasGood_57 : decode cX12_wasGood 57 = .ok (.getfield 7, 3) := by decide +kernel
theorem dX12_wasGood_60 : decode cX12_wasGood 60 = .ok (.iload_n 1, 1) := by decide +kernel
theorem dX12_wasGood_61 : decode cX12_wasGood 61 = .ok (.iconst 4, 1) := by decide +kernel
theorem dX12_wasGood_62 : decode cX12_wasGood 62 = .ok (.iadd, 1) := by decide +kernel
theorem dX12_wasGood_63 : decode cX12_wasGood 63 = .ok (.dup2, 1) := by decide +kernel
theorem dX12_wasGood_64 : decode cX12_wasGood 64 = .ok (.iaload, 1) := by decide +kernel
theorem dX12_wasGood_65 : decode cX12_wasGood 65 = .ok (.iconst 1, 1) := by decide +kernel
theorem dX12_wasGood_66 : decode cX12_wasGood 66 = .ok (.iadd, 1) := by decide +kernel
theorem dX12_wasGood_67 : decode cX12_wasGood 67 = .ok (.iastore, 1) := by decide +kernel
theorem dX12_wasGood_68 : decode cX12_wasGood 68 = .ok (.aload_n 0, 1) := by decide +kernel
theorem dX12_wasGood_69 : decode cX12_wasGood 69 = .ok (.getfield 7, 3) := by decide +kernel
theorem dX12_wasGood_72 : decode cX12_wasGood 72 = .ok (.iload_n 1, 1) := by decide +kernel
theorem dX12_wasGood_73 : decode cX12_wasGood 73 = .ok (.iconst 4, 1) := by decide +kernel
theorem dX12_wasGood_74 : decode cX12_wasGood 74 = .ok (.iadd, 1) := by decide +kernel
theorem dX12_wasGood_75 : decode cX12_wasGood 75 = .ok (.iaload, 1) := by decide +kernel
theorem dX12_wasGood_76 : decode cX12_wasGood 76 = .ok (.iconst 3, 1) := by decide +kernel
theorem dX12_wasGood_77 : decode cX12_wasGood 77 = .ok (.if_icmp .ne 55, 3) := by decide +kernel
theorem dX12_wasGood_80 : decode cX12_wasGood 80 = .ok (.iconst 2, 1) := by decide +kernel
theorem dX12_wasGood_81 : decode cX12_wasGood 81 = .ok (.aload_n 0, 1) := by decide +kernel
theorem dX12_wasGood_82 : decode cX12_wasGood 82 = .ok (.getfield 7, 3) := by decide +kernel
theorem dX12_wasGood_85 : decode cX12_wasGood 85 = .ok (.iload_n 1, 1) := by decide +kernel
theorem dX12_wasGood_86 : decode cX12_wasGood 86 = .ok (.iconst 1, 1) := by decide +kernel
theorem dX12_wasGood_87 : decode cX12_wasGood 87 = .ok (.iadd, 1) := by decide +kernel
theorem dX12_wasGood_88 : decode cX12_wasGood 88 = .ok (.iaload, 1) := by decide +kernel
theorem dX12_wasGood_89 : decode cX12_wasGood 89 = .ok (.imul, 1) := by decide +kernel
theorem dX12_wasGood_90 : decode cX12_wasGood 90 = .ok (.istore_n 3, 1) := by decide +kernel
theorem dX12_wasGood_91 : decode cX12_wasGood 91 = .ok (.aload_n 0, 1) := by decide +kernel
theorem dX12_wasGood_92 : decode cX12_wasGood 92 = .ok (.getfield 7, 3) := by decide +kernel
theorem dX12_wasGood_95 : decode cX12_wasGood 95 = .ok (.iload_n 1, 1) := by decide +kernel
theorem dX12_wasGood_96 : decode cX12_wasGood 96 = .ok (.iconst 1, 1) := by decide +kernel
theorem dX12_wasGood_97 : decode cX12_wasGood 97 = .ok (.iadd, 1) := by decide +kernel
theorem dX12_wasGood_98 : decode cX12_wasGood 98 = .ok (.iload_n 3, 1) := by decide +kernel
theorem dX12_wasGood_99 : decode cX12_wasGood 99 = .ok (.aload_n 0, 1) := by decide +kernel
theorem dX12_wasGood_100 : decode cX12_wasGood 100 = .ok (.getfield 7, 3) := by decide +kernel
theorem dX12_wasGood_103 : decode cX12_wasGood 103 = .ok (.iload_n 1, 1) := by decide +kernel
theorem dX12_wasGood_104 : decode cX12_wasGood 104 = .ok (.iconst 2, 1) := by decide +kernel
theorem dX12_wasGood_105 : decode cX12_wasGood 105 = .ok (.iadd, 1) := by decide +kernel
theorem dX12_wasGood_106 : decode cX12_wasGood 106 = .ok (.iaload, 1) := by decide +kernel
theorem dX12_wasGood_107 : decode cX12_wasGood 107 = .ok (.if_icmp .ge 7, 3) := by decide +kernel
theorem dX12_wasGood_110 : decode cX12_wasGood 110 = .ok (.iload_n 3, 1) := by decide +kernel
theorem dX12_wasGood_111 : decode cX12_wasGood 111 = .ok (.goto 11, 3) := by decide +kernel
theorem dX12_wasGood_114 : decode cX12_wasGood 114 = .ok (.aload_n 0, 1) := by decide +kernel
theorem dX12_wasGood_115 : decode cX12_wasGood 115 = .ok (.getfield 7, 3) := by decide +kernel
theorem dX12_wasGood_118 : decode cX12_wasGood 118 = .ok (.iload_n 1, 1) := by decide +kernel
theorem dX12_wasGood_119 : decode cX12_wasGood 119 = .ok (.iconst 2, 1) := by decide +kernel
theorem dX12_wasGood_120 : decode cX12_wasGood 120 = .ok (.iadd, 1) := by decide +kernel
theorem dX12_wasGood_121 : decode cX12_wasGood 121 = .ok (.iaload, 1) := by decide +kernel
theorem dX12_wasGood_122 : decode cX12_wasGood 122 = .ok (.iastore, 1) := by decide +kernel
theorem dX12_wasGood_123 : decode cX12_wasGood 123 = .ok (.aload_n 0, 1) := by decide +kernel
theorem dX12_wasGood_124 : decode cX12_wasGood 124 = .ok (.getfield 7, 3) := by decide +kernel
theorem dX12_wasGood_127 : decode cX12_wasGood 127 = .ok (.iload_n 1, 1) := by decide +kernel
theorem dX12_wasGood_128 : decode cX12_wasGood 128 = .ok (.iconst 4, 1) := by decide +kernel
theorem dX12_wasGood_129 : decode cX12_wasGood 129 = .ok (.iadd, 1) := by decide +kernel
theorem dX12_wasGood_130 : decode cX12_wasGood 130 = .ok (.iconst 0, 1) := by decide +kernel
theorem dX12_wasGood_131 : decode cX12_wasGood 131 = .ok (.iastore, 1) := by decide +kernel
theorem dX12_wasGood_132 : decode cX12_wasGood 132 = .ok (.aload_n 0, 1) := by decide +kernel
theorem dX12_wasGood_133 : decode cX12_wasGood 133 = .ok (.iconst 4, 1) := by decide +kernel
theorem dX12_wasGood_134 : decode cX12_wasGood 134 = .ok (.invokevirtual 119, 3) := by decide +kernel
theorem dX12_wasGood_137 : decode cX12_wasGood 137 = .ok (.i2l, 1) := by decide +kernel
theorem dX12_wasGood_138 : decode cX12_wasGood 138 = .ok (.aload_n 0, 1) := by decide +kernel
theorem dX12_wasGood_139 : decode cX12_wasGood 139 = .ok (.getfield 28, 3) := by decide +kernel
theorem dX12_wasGood_142 : decode cX12_wasGood 142 = .ok (.lmul, 1) := by decide +kernel
theorem dX12_wasGood_143 : decode cX12_wasGood 143 = .ok (.lstore_n 3, 1) := by decide +kernel
theorem dX12_wasGood_144 : decode cX12_wasGood 144 = .ok (.aload_n 0, 1) := by decide +kernel
theorem dX12_wasGood_145 : decode cX12_wasGood 145 = .ok (.getfield 36, 3) := by decide +kernel
theorem dX12_wasGood_148 : decode cX12_wasGood 148 = .ok (.iconst 0, 1) := by decide +kernel
theorem dX12_wasGood_149 : decode cX12_wasGood 149 = .ok (.laload, 1) := by decide +kernel
theorem dX12_wasGood_150 : decode cX12_wasGood 150 = .ok (.aload_n 0, 1) := by decide +kernel
theorem dX12_wasGood_151 : decode cX12_wasGood 151 = .ok (.getfield 36, 3) := by decide +kernel
theorem dX12_wasGood_154 : decode cX12_wasGood 154 = .ok (.iconst 1, 1) := by decide +kernel
theorem dX12_wasGood_155 : decode cX12_wasGood 155 = .ok (.laload, 1) := by decide +kernel
theorem dX12_wasGood_156 : decode cX12_wasGood 156 = .ok (.invokestatic 166, 3) := by decide +kernel
theorem dX12_wasGood_159 : decode cX12_wasGood 159 = .ok (.lload_n 3, 1) := by decide +kernel
theorem dX12_wasGood_160 : decode cX12_wasGood 160 = .ok (.lcmp, 1) := by decide +kernel
theorem dX12_wasGood_161 : decode cX12_wasGood 161 = .ok (.ifCond .gt 23, 3) := by decide +kernel
theorem dX12_wasGood_164 : decode cX12_wasGood 164 = .ok (.aload_n 0, 1) := by decide +kernel
theorem dX12_wasGood_165 : decode cX12_wasGood 165 = .ok (.getfield 36, 3) := by decide +kernel
theorem dX12_wasGood_168 : decode cX12_wasGood 168 = .ok (.iconst 2, 1) := by decide +kernel
theorem dX12_wasGood_169 : decode cX12_wasGood 169 = .ok (.laload, 1) := by decide +kernel
theorem dX12_wasGood_170 : decode cX12_wasGood 170 = .ok (.aload_n 0, 1) := by decide +kernel
theorem dX12_wasGood_171 : decode cX12_wasGood 171 = .ok (.getfield 36, 3) := by decide +kernel
theorem dX12_wasGood_174 : decode cX12_wasGood 174 = .ok (.iconst 3, 1) := by decide +kernel
theorem dX12_wasGood_175 : decode cX12_wasGood 175 = .ok (.laload, 1) := by decide +kernel
theorem dX12_wasGood_176 : decode cX12_wasGood 176 = .ok (.invokestatic 166, 3) := by decide +kernel
theorem dX12_wasGood_179 : decode cX12_wasGood 179 = .ok (.lload_n 3, 1) := by decide +kernel
theorem dX12_wasGood_180 : decode cX12_wasGood 180 = .ok (.lcmp, 1) := by decide +kernel
theorem dX12_wasGood_181 : decode cX12_wasGood 181 = .ok (.ifCond .le 7, 3) := by decide +kernel
theorem dX12_wasGood_184 : decode cX12_wasGood 184 = .ok (.iconst 1, 1) := by decide +kernel
theorem dX12_wasGood_185 : decode cX12_wasGood 185 = .ok (.goto 4, 3) := by decide +kernel
theorem dX12_wasGood_188 : decode cX12_wasGood 188 = .ok (.iconst 0, 1) := by decide +kernel
theorem dX12_wasGood_189 : decode cX12_wasGood 189 = .ok (.istore 5, 2) := by decide +kernel
theorem dX12_wasGood_191 : decode cX12_wasGood 191 = .ok (.aload_n 0, 1) := by decide +kernel
theorem dX12_wasGood_192 : decode cX12_wasGood 192 = .ok (.getfield 7, 3) := by decide +kernel
theorem dX12_wasGood_195 : decode cX12_wasGood 195 = .ok (.iload_n 1, 1) := by decide +kernel
theorem dX12_wasGood_196 : decode cX12_wasGood 196 = .ok (.iconst 5, 1) := by decide +kernel
theorem dX12_wasGood_197 : decode cX12_wasGood 197 = .ok (.iadd, 1) := by decide +kernel
theorem dX12_wasGood_198 : decode cX12_wasGood 198 = .ok (.iload 5, 2) := by decide +kernel
theorem dX12_wasGood_200 : decode cX12_wasGood 200 = .ok (.ifCond .eq 7, 3) := by decide +kernel
theorem dX12_wasGood_203 : decode cX12_wasGood 203 = .ok (.iconst 2, 1) := by decide +kernel
theorem dX12_wasGood_204 : decode cX12_wasGood 204 = .ok (.goto 22, 3) := by decide +kernel
theorem dX12_wasGood_207 : decode cX12_wasGood 207 = .ok (.aload_n 0, 1) := by decide +kernel
theorem dX12_wasGood_208 : decode cX12_wasGood 208 = .ok (.getfield 7, 3) := by decide +kernel
theorem dX12_wasGood_211 : decode cX12_wasGood 211 = .ok (.iload_n 1, 1) := by decide +kernel
theorem dX12_wasGood_212 : decode cX12_wasGood 212 = .ok (.iconst 0, 1) := by decide +kernel
theorem dX12_wasGood_213 : decode cX12_wasGood 213 = .ok (.iadd, 1) := by decide +kernel
theorem dX12_wasGood_214 : decode cX12_wasGood 214 = .ok (.iaload, 1) := by decide +kernel
theorem dX12_wasGood_215 : decode cX12_wasGood 215 = .ok (.sipush 1024, 3) := by decide +kernel
theorem dX12_wasGood_218 : decode cX12_wasGood 218 = .ok (.if_icmp .ne 7, 3) := by decide +kernel
theorem dX12_wasGood_221 : decode cX12_wasGood 221 = .ok (.iconst 1, 1) := by decide +kernel
theorem dX12_wasGood_222 : decode cX12_wasGood 222 = .ok (.goto 4, 3) := by decide +kernel
theorem dX12_wasGood_225 : decode cX12_wasGood 225 = .ok (.iconst 0, 1) := by decide +kernel
theorem dX12_wasGood_226 : decode cX12_wasGood 226 = .ok (.iastore, 1) := by decide +kernel
theorem dX12_wasGood_227 : decode cX12_wasGood 227 = .ok (.return_, 1) := by decide +kernel
set_option maxHeartbeats 1000000 in
set_option maxRecDepth 100000 in
theorem t_X12_wasGood (l : Launch) (D : xD) (z n : Nat) (G : xG) (I : xI) (L : xL) (A : Nat) (k : Nat) (hN : Nat) (P : Nat) (sN : Nat) (gN : Nat) (wN : Nat) (hM : shMo G A) (zA : z ≤ A) (hk : k < 9) (h0 : I (A + 1) (50 + 12 * k) = nI P) (hPh : P + hN ≤ 1024) (h1 : I (A + 1) (50 + 12 * k + 1) = nI sN) (hs : sN ≤ 256) (h2 : I (A + 1) (50 + 12 * k + 2) = nI gN) (hg : gN ≤ 256) (h4 : I (A + 1) (50 + 12 * k + 4) = nI wN) (hw : wN ≤ 2) (h5 : I (A + 1) (50 + 12 * k + 5) = 0) (hu9 : L A 9 = punit (I (A + 1) (50 + 12 * k + 3))) (hx7 : hC (mRp L (A + 7) 0) = (mRp L (A + 7) 0)) (hy7 : hC (mRp L (A + 7) 2) = (mRp L (A + 7) 2)) : xM0 l D z yX12_wasGood cX12_wasGood 6 none 2 48 [.ref A, .int (nI (50 + 12 * k)), .int (nI hN)] n G I L (fun v' I' L' => v' = none ∧ L' = L ∧ (mvO (I' (A + 1)) (50 + 12 * k) = (gMove (mvO (I (A + 1)) (50 + 12 * k)).1 (nI hN) (I (A + 1) 46) (lmax (sizC (mRp L (A + 7) 0)) (sizC (mRp L (A + 7) 2))), (mRp L (A + 7) 0), (mRp L (A + 7) 2))) ∧ (∀ j, (j < 50 + 12 * k ∨ 62 + 12 * k ≤ j) → I' (A + 1) j = I (A + 1) j) ∧ (∀ q, q ≠ A + 1 → I' q = I q)) := by
  refine xM.of (by decide) (Nat.le_of_ble_eq_true rfl) (fun p e s m args below meth c C hnm hsz => ?_)
  refine x_lv [(0, .ref A), (1, .int (nI (50 + 12 * k))), (2, .int (nI hN))] rfl ?_
  refine x_iconst 0 C (v := 0) dX12_wasGood_0 rfl ?_
  refine x_istore_n 1 C [(3, .int 0), (0, .ref A), (1, .int (nI (50 + 12 * k))), (2, .int (nI hN))] dX12_wasGood_1 rfl (by decide) rfl ?_
  refine x_iload_n 2 C dX12_wasGood_2 rfl 0 rfl ?_
  refine x_iconst 3 C (v := 4) dX12_wasGood_3 rfl ?_
  refine x_icmp_ge 4 C 31 dX12_wasGood_4 (by decide) (fun c1 => absurd c1 (by decide)) (fun _ => ?_)
  refine x_aload_n 7 C dX12_wasGood_7 rfl 1 rfl ?_
  refine x_getr 8 C (b := A + 1) dX12_wasGood_8 ff_X12_7 rfl hM.1 rfl ?_
  refine x_iload_n 11 C dX12_wasGood_11 rfl 2 rfl ?_
  refine x_bipush 12 C (v := 8) dX12_wasGood_12 rfl ?_
  refine x_iadd 14 C dX12_wasGood_14 ?_
  refine x_int (nI (50 + 12 * k + 8)) (nI_add (50 + 12 * k) 8) ?_
  refine x_iload_n 15 C dX12_wasGood_15 rfl 0 rfl ?_
  refine x_iadd 16 C dX12_wasGood_16 ?_
  refine x_int (nI (50 + 12 * k + 8 + 0)) (nI_add (50 + 12 * k + 8) 0) ?_
  refine x_aload_n 17 C dX12_wasGood_17 rfl 1 rfl ?_
  refine x_getr 18 C (b := A + 7) dX12_wasGood_18 ff_X12_36 rfl hM.1 rfl ?_
  refine x_iload_n 21 C dX12_wasGood_21 rfl 0 rfl ?_
  refine x_lald 22 C (j := 0) dX12_wasGood_22 hM.2.2.2.2.2.2.2.1 ⟨by decide, by decide, by decide⟩ ?_
  refine x_l2i 23 C dX12_wasGood_23 ?_
  refine x_iast 24 C (j := (50 + 12 * k + 8 + 0)) dX12_wasGood_24 hM.2.1 (by omega) (xIx_nI (by omega) (by decide)) (fun I2 eI2 => ?_)
  refine x_iinc 25 C [(3, .int 1), (0, .ref A), (1, .int (nI (50 + 12 * k))), (2, .int (nI hN))] dX12_wasGood_25 0 rfl (by decide) (by decide) rfl ?_
  refine x_goto 28 C 2 dX12_wasGood_28 (by decide) ?_
  refine x_iload_n 2 C dX12_wasGood_2 rfl 0 rfl ?_
  refine x_iconst 3 C (v := 4) dX12_wasGood_3 rfl ?_
  refine x_icmp_ge 4 C 31 dX12_wasGood_4 (by decide) (fun c3 => absurd c3 (by decide)) (fun _ => ?_)
  refine x_aload_n 7 C dX12_wasGood_7 rfl 1 rfl ?_
  refine x_getr 8 C (b := A + 1) dX12_wasGood_8 ff_X12_7 rfl hM.1 rfl ?_
  refine x_iload_n 11 C dX12_wasGood_11 rfl 2 rfl ?_
  refine x_bipush 12 C (v := 8) dX12_wasGood_12 rfl ?_
  refine x_iadd 14 C dX12_wasGood_14 ?_
  refine x_int (nI (50 + 12 * k + 8)) (nI_add (50 + 12 * k) 8) ?_
  refine x_iload_n 15 C dX12_wasGood_15 rfl 0 rfl ?_
  refine x_iadd 16 C dX12_wasGood_16 ?_
  refine x_int (nI (50 + 12 * k + 8 + 1)) (nI_add (50 + 12 * k + 8) 1) ?_
  refine x_aload_n 17 C dX12_wasGood_17 rfl 1 rfl ?_
  refine x_getr 18 C (b := A + 7) dX12_wasGood_18 ff_X12_36 rfl hM.1 rfl ?_
  refine x_iload_n 21 C dX12_wasGood_21 rfl 0 rfl ?_
  refine x_lald 22 C (j := 1) dX12_wasGood_22 hM.2.2.2.2.2.2.2.1 ⟨by decide, by decide, by decide⟩ ?_
  refine x_l2i 23 C dX12_wasGood_23 ?_
  refine x_iast 24 C (j := (50 + 12 * k + 8 + 1)) dX12_wasGood_24 hM.2.1 (by omega) (xIx_nI (by omega) (by decide)) (fun I4 eI4 => ?_)
  refine x_iinc 25 C [(3, .int 2), (0, .ref A), (1, .int (nI (50 + 12 * k))), (2, .int (nI hN))] dX12_wasGood_25 0 rfl (by decide) (by decide) rfl ?_
  refine x_goto 28 C 2 dX12_wasGood_28 (by decide) ?_
  refine x_iload_n 2 C dX12_wasGood_2 rfl 0 rfl ?_
  refine x_iconst 3 C (v := 4) dX12_wasGood_3 rfl ?_
  refine x_icmp_ge 4 C 31 dX12_wasGood_4 (by decide) (fun c5 => absurd c5 (by decide)) (fun _ => ?_)
  refine x_aload_n 7 C dX12_wasGood_7 rfl 1 rfl ?_
  refine x_getr 8 C (b := A + 1) dX12_wasGood_8 ff_X12_7 rfl hM.1 rfl ?_
  refine x_iload_n 11 C dX12_wasGood_11 rfl 2 rfl ?_
  refine x_bipush 12 C (v := 8) dX12_wasGood_12 rfl ?_
  refine x_iadd 14 C dX12_wasGood_14 ?_
  refine x_int (nI (50 + 12 * k + 8)) (nI_add (50 + 12 * k) 8) ?_
  refine x_iload_n 15 C dX12_wasGood_15 rfl 0 rfl ?_
  refine x_iadd 16 C dX12_wasGood_16 ?_
  refine x_int (nI (50 + 12 * k + 8 + 2)) (nI_add (50 + 12 * k + 8) 2) ?_
  refine x_aload_n 17 C dX12_wasGood_17 rfl 1 rfl ?_
  refine x_getr 18 C (b := A + 7) dX12_wasGood_18 ff_X12_36 rfl hM.1 rfl ?_
  refine x_iload_n 21 C dX12_wasGood_21 rfl 0 rfl ?_
  refine x_lald 22 C (j := 2) dX12_wasGood_22 hM.2.2.2.2.2.2.2.1 ⟨by decide, by decide, by decide⟩ ?_
  refine x_l2i 23 C dX12_wasGood_23 ?_
  refine x_iast 24 C (j := (50 + 12 * k + 8 + 2)) dX12_wasGood_24 hM.2.1 (by omega) (xIx_nI (by omega) (by decide)) (fun I6 eI6 => ?_)
  refine x_iinc 25 C [(3, .int 3), (0, .ref A), (1, .int (nI (50 + 12 * k))), (2, .int (nI hN))] dX12_wasGood_25 0 rfl (by decide) (by decide) rfl ?_
  refine x_goto 28 C 2 dX12_wasGood_28 (by decide) ?_
  refine x_iload_n 2 C dX12_wasGood_2 rfl 0 rfl ?_
  refine x_iconst 3 C (v := 4) dX12_wasGood_3 rfl ?_
  refine x_icmp_ge 4 C 31 dX12_wasGood_4 (by decide) (fun c7 => absurd c7 (by decide)) (fun _ => ?_)
  refine x_aload_n 7 C dX12_wasGood_7 rfl 1 rfl ?_
  refine x_getr 8 C (b := A + 1) dX12_wasGood_8 ff_X12_7 rfl hM.1 rfl ?_
  refine x_iload_n 11 C dX12_wasGood_11 rfl 2 rfl ?_
  refine x_bipush 12 C (v := 8) dX12_wasGood_12 rfl ?_
  refine x_iadd 14 C dX12_wasGood_14 ?_
  refine x_int (nI (50 + 12 * k + 8)) (nI_add (50 + 12 * k) 8) ?_
  refine x_iload_n 15 C dX12_wasGood_15 rfl 0 rfl ?_
  refine x_iadd 16 C dX12_wasGood_16 ?_
  refine x_int (nI (50 + 12 * k + 8 + 3)) (nI_add (50 + 12 * k + 8) 3) ?_
  refine x_aload_n 17 C dX12_wasGood_17 rfl 1 rfl ?_
  refine x_getr 18 C (b := A + 7) dX12_wasGood_18 ff_X12_36 rfl hM.1 rfl ?_
  refine x_iload_n 21 C dX12_wasGood_21 rfl 0 rfl ?_
  refine x_lald 22 C (j := 3) dX12_wasGood_22 hM.2.2.2.2.2.2.2.1 ⟨by decide, by decide, by decide⟩ ?_
  refine x_l2i 23 C dX12_wasGood_23 ?_
  refine x_iast 24 C (j := (50 + 12 * k + 8 + 3)) dX12_wasGood_24 hM.2.1 (by omega) (xIx_nI (by omega) (by decide)) (fun I8 eI8 => ?_)
  refine x_iinc 25 C [(3, .int 4), (0, .ref A), (1, .int (nI (50 + 12 * k))), (2, .int (nI hN))] dX12_wasGood_25 0 rfl (by decide) (by decide) rfl ?_
  refine x_goto 28 C 2 dX12_wasGood_28 (by decide) ?_
  refine x_iload_n 2 C dX12_wasGood_2 rfl 0 rfl ?_
  refine x_iconst 3 C (v := 4) dX12_wasGood_3 rfl ?_
  refine x_icmp_ge 4 C 31 dX12_wasGood_4 (by decide) (fun _ => ?_) (fun c9 => absurd (by decide) c9)
  refine x_aload_n 31 C dX12_wasGood_31 rfl 1 rfl ?_
  refine x_getr 32 C (b := A + 1) dX12_wasGood_32 ff_X12_7 rfl hM.1 rfl ?_
  refine x_iload_n 35 C dX12_wasGood_35 rfl 2 rfl ?_
  refine x_iconst 36 C (v := 0) dX12_wasGood_36 rfl ?_
  refine x_iadd 37 C dX12_wasGood_37 ?_
  refine x_int (nI (50 + 12 * k + 0)) (nI_add (50 + 12 * k) 0) ?_
  refine x_dup2 38 C dX12_wasGood_38 rfl rfl ?_
  refine x_iald 39 C (j := (50 + 12 * k + 0)) dX12_wasGood_39 hM.2.1 (xIx_nI (by omega) (by decide)) ?_
  refine x_int (nI P) (by rw [eI8, xup_at, if_neg (by omega), eI6, xup_at, if_neg (by omega), eI4, xup_at, if_neg (by omega), eI2, xup_at, if_neg (by omega)]; exact h0) ?_
  refine x_iload_n 40 C dX12_wasGood_40 rfl 3 rfl ?_
  refine x_iadd 41 C dX12_wasGood_41 ?_
  refine x_int (nI (P + hN)) (nI_add P hN) ?_
  refine x_iast 42 C (j := (50 + 12 * k + 0)) dX12_wasGood_42 hM.2.1 (by omega) (xIx_nI (by omega) (by decide)) (fun I10 eI10 => ?_)
  refine x_aload_n 43 C dX12_wasGood_43 rfl 1 rfl ?_
  refine x_getr 44 C (b := A + 1) dX12_wasGood_44 ff_X12_7 rfl hM.1 rfl ?_
  refine x_iload_n 47 C dX12_wasGood_47 rfl 2 rfl ?_
  refine x_bipush 48 C (v := 6) dX12_wasGood_48 rfl ?_
  refine x_iadd 50 C dX12_wasGood_50 ?_
  refine x_int (nI (50 + 12 * k + 6)) (nI_add (50 + 12 * k) 6) ?_
  refine x_dup2 51 C dX12_wasGood_51 rfl rfl ?_
  refine x_iald 52 C (j := (50 + 12 * k + 6)) dX12_wasGood_52 hM.2.1 (xIx_nI (by omega) (by decide)) ?_
  refine x_int (I (A + 1) (50 + 12 * k + 6)) (by rw [eI10, xup_at, if_neg (by omega), eI8, xup_at, if_neg (by omega), eI6, xup_at, if_neg (by omega), eI4, xup_at, if_neg (by omega), eI2, xup_at, if_neg (by omega)]) ?_
  refine x_iconst 53 C (v := 1) dX12_wasGood_53 rfl ?_
  refine x_iadd 54 C dX12_wasGood_54 ?_
  refine x_iast 55 C (j := (50 + 12 * k + 6)) dX12_wasGood_55 hM.2.1 (by omega) (xIx_nI (by omega) (by decide)) (fun I11 eI11 => ?_)
  refine x_aload_n 56 C dX12_wasGood_56 rfl 1 rfl ?_
  refine x_getr 57 C (b := A + 1) dX12_wasGood_57 ff_X12_7 rfl hM.1 rfl ?_
  refine x_iload_n 60 C dX12_wasGood_60 rfl 2 rfl ?_
  refine x_iconst 61 C (v := 4) dX12_wasGood_61 rfl ?_
  refine x_iadd 62 C dX12_wasGood_62 ?_
  refine x_int (nI (50 + 12 * k + 4)) (nI_add (50 + 12 * k) 4) ?_
  refine x_dup2 63 C dX12_wasGood_63 rfl rfl ?_
  refine x_iald 64 C (j := (50 + 12 * k + 4)) dX12_wasGood_64 hM.2.1 (xIx_nI (by omega) (by decide)) ?_
  refine x_int (nI wN) (by rw [eI11, xup_at, if_neg (by omega), eI10, xup_at, if_neg (by omega), eI8, xup_at, if_neg (by omega), eI6, xup_at, if_neg (by omega), eI4, xup_at, if_neg (by omega), eI2, xup_at, if_neg (by omega)]; exact h4) ?_
  refine x_iconst 65 C (v := 1) dX12_wasGood_65 rfl ?_
  refine x_iadd 66 C dX12_wasGood_66 ?_
  refine x_int (nI (wN + 1)) (nI_add wN 1) ?_
  refine x_iast 67 C (j := (50 + 12 * k + 4)) dX12_wasGood_67 hM.2.1 (by omega) (xIx_nI (by omega) (by decide)) (fun I12 eI12 => ?_)
  refine x_aload_n 68 C dX12_wasGood_68 rfl 1 rfl ?_
  refine x_getr 69 C (b := A + 1) dX12_wasGood_69 ff_X12_7 rfl hM.1 rfl ?_
  refine x_iload_n 72 C dX12_wasGood_72 rfl 2 rfl ?_
  refine x_iconst 73 C (v := 4) dX12_wasGood_73 rfl ?_
  refine x_iadd 74 C dX12_wasGood_74 ?_
  refine x_int (nI (50 + 12 * k + 4)) (nI_add (50 + 12 * k) 4) ?_
  refine x_iald 75 C (j := (50 + 12 * k + 4)) dX12_wasGood_75 hM.2.1 (xIx_nI (by omega) (by decide)) ?_
  refine x_int (nI (wN + 1)) (by rw [eI12, xup_at, if_pos (by omega)]) ?_
  refine x_iconst 76 C (v := 3) dX12_wasGood_76 rfl ?_
  refine x_icmp_ne 77 C 132 dX12_wasGood_77 (by decide) (fun c13 => ?_) (fun c13 => ?_)
  · skip
    have c13n : ¬ ((wN + 1) = 3) := fun h => c13 ((nI_eq (a := (wN + 1)) (b := 3) (by omega) (by omega)).mpr h)
    have hw3 : ¬ wN + 1 = 3 := c13n
    refine x_aload_n 132 C dX12_wasGood_132 rfl 1 rfl ?_
    refine x_iconst 133 C (v := 4) dX12_wasGood_133 rfl ?_
    refine x_callVe 134 C dX12_wasGood_134 (As := [.int 4]) (rest := []) [.int (I12 (A + 1) (42 + 4))] (t_X12_setting l D z n G I12 L A 4 hM (by first | omega | assumption | decide)) mt_X12_setting km_X12_119 ki_X12_setting ks_X12_setting hM.1 ⟨by decide, rfl⟩ rfl rfl (Nat.le_of_ble_eq_true rfl) ⟨⟨by decide, by decide⟩, by decide, by decide⟩ (fun I14 L15 eI14 eL15 => ?_)
    replace eI14 := eI14.symm; subst eI14
    replace eL15 := eL15.symm; subst eL15
    refine x_int (I (A + 1) 46) (by rw [eI12, xup_at, if_neg (by omega)]; rw [eI11, xup_at, if_neg (by omega)]; rw [eI10, xup_at, if_neg (by omega)]; rw [eI8, xup_at, if_neg (by omega)]; rw [eI6, xup_at, if_neg (by omega)]; rw [eI4, xup_at, if_neg (by omega)]; rw [eI2, xup_at, if_neg (by omega)]) ?_
    refine x_i2l 137 C dX12_wasGood_137 ?_
    refine x_aload_n 138 C dX12_wasGood_138 rfl 1 rfl ?_
    refine x_getl 139 C dX12_wasGood_139 ff_X12_28 hM.1 ?_
    refine x_long (punit (I (A + 1) (50 + 12 * k + 3))) hu9 ?_
    refine x_lmul 142 C dX12_wasGood_142 ?_
    refine x_lstore_n 143 C [(3, .long ((Int32.toInt64 (I (A + 1) 46)) * (punit (I (A + 1) (50 + 12 * k + 3))))), (0, .ref A), (1, .int (nI (50 + 12 * k))), (2, .int (nI hN))] dX12_wasGood_143 rfl (by decide) rfl ?_
    refine x_aload_n 144 C dX12_wasGood_144 rfl 1 rfl ?_
    refine x_getr 145 C (b := A + 7) dX12_wasGood_145 ff_X12_36 rfl hM.1 rfl ?_
    refine x_iconst 148 C (v := 0) dX12_wasGood_148 rfl ?_
    refine x_lald 149 C (j := 0) dX12_wasGood_149 hM.2.2.2.2.2.2.2.1 ⟨by decide, by decide, by decide⟩ ?_
    refine x_aload_n 150 C dX12_wasGood_150 rfl 1 rfl ?_
    refine x_getr 151 C (b := A + 7) dX12_wasGood_151 ff_X12_36 rfl hM.1 rfl ?_
    refine x_iconst 154 C (v := 1) dX12_wasGood_154 rfl ?_
    refine x_lald 155 C (j := 1) dX12_wasGood_155 hM.2.2.2.2.2.2.2.1 ⟨by decide, by decide, by decide⟩ ?_
    refine x_callSe 156 C dX12_wasGood_156 (As := [.long (L (A + 7) 0), .long (L (A + 7) 1)]) (rest := []) [.long (sizC ((L (A + 7) 0), (L (A + 7) 1)))] (t_X12_size l D z n G I12 L (L (A + 7) 0) (L (A + 7) 1) ) mt_X12_size km_X12_166 kt_X12_size rfl rfl (Nat.le_of_ble_eq_true rfl) ⟨⟨by decide, by decide⟩, by decide, by decide⟩ (fun I16 L17 eI16 eL17 => ?_)
    replace eI16 := eI16.symm; subst eI16
    replace eL17 := eL17.symm; subst eL17
    refine x_long (sizC (mRp L (A + 7) 0)) rfl ?_
    refine x_lload_n 159 C dX12_wasGood_159 rfl 0 rfl ?_
    refine x_lc_gt 160 C 184 dX12_wasGood_160 dX12_wasGood_161 (by decide) (fun c18 => ?_) (fun c18 => ?_)
    · skip
      have c18o := Int64.not_le.mpr c18
      have hf1 : Int32.toInt64 (I (A + 1) 46) * punit (I (A + 1) (50 + 12 * k + 3)) < sizC (mRp L (A + 7) 0) := c18
      refine x_iconst 184 C (v := 1) dX12_wasGood_184 rfl ?_
      refine x_goto 185 C 189 dX12_wasGood_185 (by decide) ?_
      refine x_istore 189 C [(5, .int 1), (3, .long ((Int32.toInt64 (I (A + 1) 46)) * (punit (I (A + 1) (50 + 12 * k + 3))))), (0, .ref A), (1, .int (nI (50 + 12 * k))), (2, .int (nI hN))] dX12_wasGood_189 (by decide) rfl ?_
      refine x_aload_n 191 C dX12_wasGood_191 rfl 2 rfl ?_
      refine x_getr 192 C (b := A + 1) dX12_wasGood_192 ff_X12_7 rfl hM.1 rfl ?_
      refine x_iload_n 195 C dX12_wasGood_195 rfl 3 rfl ?_
      refine x_iconst 196 C (v := 5) dX12_wasGood_196 rfl ?_
      refine x_iadd 197 C dX12_wasGood_197 ?_
      refine x_int (nI (50 + 12 * k + 5)) (nI_add (50 + 12 * k) 5) ?_
      refine x_iload 198 C dX12_wasGood_198 0 rfl ?_
      refine x_if_eq 200 C 207 dX12_wasGood_200 (by decide) (fun c19 => absurd c19 (by decide)) (fun _ => ?_)
      refine x_iconst 203 C (v := 2) dX12_wasGood_203 rfl ?_
      refine x_goto 204 C 226 dX12_wasGood_204 (by decide) ?_
      refine x_iast 226 C (j := (50 + 12 * k + 5)) dX12_wasGood_226 hM.2.1 (by omega) (xIx_nI (by omega) (by decide)) (fun I20 eI20 => ?_)
      refine x_vret 227 C dX12_wasGood_227 rfl (Nat.le_refl _) (xN.intro ?_)
      have v0_ : I20 (A + 1) (50 + 12 * k) = nI (P + hN) := by rw [eI20, xup_at, if_neg (by omega), eI12, xup_at, if_neg (by omega), eI11, xup_at, if_neg (by omega), eI10, xup_at, if_pos (by omega)]
      have v1_ : I20 (A + 1) (50 + 12 * k + 1) = nI sN := by rw [eI20, xup_at, if_neg (by omega), eI12, xup_at, if_neg (by omega), eI11, xup_at, if_neg (by omega), eI10, xup_at, if_neg (by omega), eI8, xup_at, if_neg (by omega), eI6, xup_at, if_neg (by omega), eI4, xup_at, if_neg (by omega), eI2, xup_at, if_neg (by omega)]; exact h1
      have v2_ : I20 (A + 1) (50 + 12 * k + 2) = nI gN := by rw [eI20, xup_at, if_neg (by omega), eI12, xup_at, if_neg (by omega), eI11, xup_at, if_neg (by omega), eI10, xup_at, if_neg (by omega), eI8, xup_at, if_neg (by omega), eI6, xup_at, if_neg (by omega), eI4, xup_at, if_neg (by omega), eI2, xup_at, if_neg (by omega)]; exact h2
      have v3_ : I20 (A + 1) (50 + 12 * k + 3) = I (A + 1) (50 + 12 * k + 3) := by rw [eI20, xup_at, if_neg (by omega), eI12, xup_at, if_neg (by omega), eI11, xup_at, if_neg (by omega), eI10, xup_at, if_neg (by omega), eI8, xup_at, if_neg (by omega), eI6, xup_at, if_neg (by omega), eI4, xup_at, if_neg (by omega), eI2, xup_at, if_neg (by omega)]
      have v4_ : I20 (A + 1) (50 + 12 * k + 4) = nI (wN + 1) := by rw [eI20, xup_at, if_neg (by omega), eI12, xup_at, if_pos (by omega)]
      have v5_ : I20 (A + 1) (50 + 12 * k + 5) = 2 := by rw [eI20, xup_at, if_pos (by omega)]
      have v6_ : I20 (A + 1) (50 + 12 * k + 6) = (I (A + 1) (50 + 12 * k + 6)) + 1 := by rw [eI20, xup_at, if_neg (by omega), eI12, xup_at, if_neg (by omega), eI11, xup_at, if_pos (by omega)]
      have v7_ : I20 (A + 1) (50 + 12 * k + 7) = I (A + 1) (50 + 12 * k + 7) := by rw [eI20, xup_at, if_neg (by omega), eI12, xup_at, if_neg (by omega), eI11, xup_at, if_neg (by omega), eI10, xup_at, if_neg (by omega), eI8, xup_at, if_neg (by omega), eI6, xup_at, if_neg (by omega), eI4, xup_at, if_neg (by omega), eI2, xup_at, if_neg (by omega)]
      have v8_ : Int32.toInt64 (I20 (A + 1) (50 + 12 * k + 8)) = (mRp L (A + 7) 0).1 := by rw [eI20, xup_at, if_neg (by omega), eI12, xup_at, if_neg (by omega), eI11, xup_at, if_neg (by omega), eI10, xup_at, if_neg (by omega), eI8, xup_at, if_neg (by omega), eI6, xup_at, if_neg (by omega), eI4, xup_at, if_neg (by omega), eI2, xup_at, if_pos (by omega)]; exact l2i_held (hC_1 hx7).1
      have v9_ : Int32.toInt64 (I20 (A + 1) (50 + 12 * k + 9)) = (mRp L (A + 7) 0).2 := by rw [eI20, xup_at, if_neg (by omega), eI12, xup_at, if_neg (by omega), eI11, xup_at, if_neg (by omega), eI10, xup_at, if_neg (by omega), eI8, xup_at, if_neg (by omega), eI6, xup_at, if_neg (by omega), eI4, xup_at, if_pos (by omega)]; exact l2i_held (hC_1 hx7).2
      have v10_ : Int32.toInt64 (I20 (A + 1) (50 + 12 * k + 10)) = (mRp L (A + 7) 2).1 := by rw [eI20, xup_at, if_neg (by omega), eI12, xup_at, if_neg (by omega), eI11, xup_at, if_neg (by omega), eI10, xup_at, if_neg (by omega), eI8, xup_at, if_neg (by omega), eI6, xup_at, if_pos (by omega)]; exact l2i_held (hC_1 hy7).1
      have v11_ : Int32.toInt64 (I20 (A + 1) (50 + 12 * k + 11)) = (mRp L (A + 7) 2).2 := by rw [eI20, xup_at, if_neg (by omega), eI12, xup_at, if_neg (by omega), eI11, xup_at, if_neg (by omega), eI10, xup_at, if_neg (by omega), eI8, xup_at, if_pos (by omega)]; exact l2i_held (hC_1 hy7).2
      have hfar : ¬ (lmax (sizC (mRp L (A + 7) 0)) (sizC (mRp L (A + 7) 2))) ≤ (Int32.toInt64 (I (A + 1) 46) * punit (I (A + 1) (50 + 12 * k + 3))) := fun h => by have h2 := max_le2.mp h; first | exact h2.1 hf1 | exact h2.2 hf2
      have hw3' : (nI wN + 1 < 3) := by rw [nI_1]; exact nI_lt (a := wN + 1) (b := 3) (by omega) (by omega)
      refine ⟨rfl, rfl, ?_, fun j hj => by rw [eI20, xup_at, if_neg (by omega), eI12, xup_at, if_neg (by omega), eI11, xup_at, if_neg (by omega), eI10, xup_at, if_neg (by omega), eI8, xup_at, if_neg (by omega), eI6, xup_at, if_neg (by omega), eI4, xup_at, if_neg (by omega), eI2, xup_at, if_neg (by omega)], fun q hq => by rw [eI20, xup_row _ _ hq, eI12, xup_row _ _ hq, eI11, xup_row _ _ hq, eI10, xup_row _ _ hq, eI8, xup_row _ _ hq, eI6, xup_row _ _ hq, eI4, xup_row _ _ hq, eI2, xup_row _ _ hq]⟩
      rw [mvO_of (I20 (A + 1)) (50 + 12 * k) v0_ v1_ v2_ v3_ v4_ v5_ v6_ v7_ v8_ v9_ v10_ v11_, mvO_of (I (A + 1)) (50 + 12 * k) h0 h1 h2 rfl h4 h5 rfl rfl rfl rfl rfl rfl]
      show _ = (gMove (rw8 _ _ _ _ _ _ _ _) _ _ _, _, _)
      rw [gMove_rw8, if_neg hfar, if_pos hw3', if_pos hw3', nI_add P hN, nI_1 wN]
    · skip
      have c18o := Int64.not_lt.mp c18
      have hf1 : ¬ Int32.toInt64 (I (A + 1) 46) * punit (I (A + 1) (50 + 12 * k + 3)) < sizC (mRp L (A + 7) 0) := c18
      refine x_aload_n 164 C dX12_wasGood_164 rfl 1 rfl ?_
      refine x_getr 165 C (b := A + 7) dX12_wasGood_165 ff_X12_36 rfl hM.1 rfl ?_
      refine x_iconst 168 C (v := 2) dX12_wasGood_168 rfl ?_
      refine x_lald 169 C (j := 2) dX12_wasGood_169 hM.2.2.2.2.2.2.2.1 ⟨by decide, by decide, by decide⟩ ?_
      refine x_aload_n 170 C dX12_wasGood_170 rfl 1 rfl ?_
      refine x_getr 171 C (b := A + 7) dX12_wasGood_171 ff_X12_36 rfl hM.1 rfl ?_
      refine x_iconst 174 C (v := 3) dX12_wasGood_174 rfl ?_
      refine x_lald 175 C (j := 3) dX12_wasGood_175 hM.2.2.2.2.2.2.2.1 ⟨by decide, by decide, by decide⟩ ?_
      refine x_callSe 176 C dX12_wasGood_176 (As := [.long (L (A + 7) 2), .long (L (A + 7) 3)]) (rest := []) [.long (sizC ((L (A + 7) 2), (L (A + 7) 3)))] (t_X12_size l D z n G I12 L (L (A + 7) 2) (L (A + 7) 3) ) mt_X12_size km_X12_166 kt_X12_size rfl rfl (Nat.le_of_ble_eq_true rfl) ⟨⟨by decide, by decide⟩, by decide, by decide⟩ (fun I21 L22 eI21 eL22 => ?_)
      replace eI21 := eI21.symm; subst eI21
      replace eL22 := eL22.symm; subst eL22
      refine x_long (sizC (mRp L (A + 7) 2)) rfl ?_
      refine x_lload_n 179 C dX12_wasGood_179 rfl 0 rfl ?_
      refine x_lc_le 180 C 188 dX12_wasGood_180 dX12_wasGood_181 (by decide) (fun c23 => ?_) (fun c23 => ?_)
      · skip
        have c23o := Int64.not_lt.mpr c23
        have hf2 : ¬ Int32.toInt64 (I (A + 1) 46) * punit (I (A + 1) (50 + 12 * k + 3)) < sizC (mRp L (A + 7) 2) := Int64.not_lt.mpr c23
        refine x_iconst 188 C (v := 0) dX12_wasGood_188 rfl ?_
        refine x_istore 189 C [(5, .int 0), (3, .long ((Int32.toInt64 (I (A + 1) 46)) * (punit (I (A + 1) (50 + 12 * k + 3))))), (0, .ref A), (1, .int (nI (50 + 12 * k))), (2, .int (nI hN))] dX12_wasGood_189 (by decide) rfl ?_
        refine x_aload_n 191 C dX12_wasGood_191 rfl 2 rfl ?_
        refine x_getr 192 C (b := A + 1) dX12_wasGood_192 ff_X12_7 rfl hM.1 rfl ?_
        refine x_iload_n 195 C dX12_wasGood_195 rfl 3 rfl ?_
        refine x_iconst 196 C (v := 5) dX12_wasGood_196 rfl ?_
        refine x_iadd 197 C dX12_wasGood_197 ?_
        refine x_int (nI (50 + 12 * k + 5)) (nI_add (50 + 12 * k) 5) ?_
        refine x_iload 198 C dX12_wasGood_198 0 rfl ?_
        refine x_if_eq 200 C 207 dX12_wasGood_200 (by decide) (fun _ => ?_) (fun c24 => absurd (by decide) c24)
        refine x_aload_n 207 C dX12_wasGood_207 rfl 2 rfl ?_
        refine x_getr 208 C (b := A + 1) dX12_wasGood_208 ff_X12_7 rfl hM.1 rfl ?_
        refine x_iload_n 211 C dX12_wasGood_211 rfl 3 rfl ?_
        refine x_iconst 212 C (v := 0) dX12_wasGood_212 rfl ?_
        refine x_iadd 213 C dX12_wasGood_213 ?_
        refine x_int (nI (50 + 12 * k + 0)) (nI_add (50 + 12 * k) 0) ?_
        refine x_iald 214 C (j := (50 + 12 * k + 0)) dX12_wasGood_214 hM.2.1 (xIx_nI (by omega) (by decide)) ?_
        refine x_int (nI (P + hN)) (by rw [eI12, xup_at, if_neg (by omega), eI11, xup_at, if_neg (by omega), eI10, xup_at, if_pos (by omega)]) ?_
        refine x_sipush 215 C (v := 1024) dX12_wasGood_215 rfl ?_
        refine x_icmp_ne 218 C 225 dX12_wasGood_218 (by decide) (fun c25 => ?_) (fun c25 => ?_)
        · skip
          have c25n : ¬ ((P + hN) = 1024) := fun h => c25 ((nI_eq (a := (P + hN)) (b := 1024) (by omega) (by omega)).mpr h)
          refine x_iconst 225 C (v := 0) dX12_wasGood_225 rfl ?_
          refine x_iast 226 C (j := (50 + 12 * k + 5)) dX12_wasGood_226 hM.2.1 (by omega) (xIx_nI (by omega) (by decide)) (fun I26 eI26 => ?_)
          refine x_vret 227 C dX12_wasGood_227 rfl (Nat.le_refl _) (xN.intro ?_)
          have v0_ : I26 (A + 1) (50 + 12 * k) = nI (P + hN) := by rw [eI26, xup_at, if_neg (by omega), eI12, xup_at, if_neg (by omega), eI11, xup_at, if_neg (by omega), eI10, xup_at, if_pos (by omega)]
          have v1_ : I26 (A + 1) (50 + 12 * k + 1) = nI sN := by rw [eI26, xup_at, if_neg (by omega), eI12, xup_at, if_neg (by omega), eI11, xup_at, if_neg (by omega), eI10, xup_at, if_neg (by omega), eI8, xup_at, if_neg (by omega), eI6, xup_at, if_neg (by omega), eI4, xup_at, if_neg (by omega), eI2, xup_at, if_neg (by omega)]; exact h1
          have v2_ : I26 (A + 1) (50 + 12 * k + 2) = nI gN := by rw [eI26, xup_at, if_neg (by omega), eI12, xup_at, if_neg (by omega), eI11, xup_at, if_neg (by omega), eI10, xup_at, if_neg (by omega), eI8, xup_at, if_neg (by omega), eI6, xup_at, if_neg (by omega), eI4, xup_at, if_neg (by omega), eI2, xup_at, if_neg (by omega)]; exact h2
          have v3_ : I26 (A + 1) (50 + 12 * k + 3) = I (A + 1) (50 + 12 * k + 3) := by rw [eI26, xup_at, if_neg (by omega), eI12, xup_at, if_neg (by omega), eI11, xup_at, if_neg (by omega), eI10, xup_at, if_neg (by omega), eI8, xup_at, if_neg (by omega), eI6, xup_at, if_neg (by omega), eI4, xup_at, if_neg (by omega), eI2, xup_at, if_neg (by omega)]
          have v4_ : I26 (A + 1) (50 + 12 * k + 4) = nI (wN + 1) := by rw [eI26, xup_at, if_neg (by omega), eI12, xup_at, if_pos (by omega)]
          have v5_ : I26 (A + 1) (50 + 12 * k + 5) = 0 := by rw [eI26, xup_at, if_pos (by omega)]
          have v6_ : I26 (A + 1) (50 + 12 * k + 6) = (I (A + 1) (50 + 12 * k + 6)) + 1 := by rw [eI26, xup_at, if_neg (by omega), eI12, xup_at, if_neg (by omega), eI11, xup_at, if_pos (by omega)]
          have v7_ : I26 (A + 1) (50 + 12 * k + 7) = I (A + 1) (50 + 12 * k + 7) := by rw [eI26, xup_at, if_neg (by omega), eI12, xup_at, if_neg (by omega), eI11, xup_at, if_neg (by omega), eI10, xup_at, if_neg (by omega), eI8, xup_at, if_neg (by omega), eI6, xup_at, if_neg (by omega), eI4, xup_at, if_neg (by omega), eI2, xup_at, if_neg (by omega)]
          have v8_ : Int32.toInt64 (I26 (A + 1) (50 + 12 * k + 8)) = (mRp L (A + 7) 0).1 := by rw [eI26, xup_at, if_neg (by omega), eI12, xup_at, if_neg (by omega), eI11, xup_at, if_neg (by omega), eI10, xup_at, if_neg (by omega), eI8, xup_at, if_neg (by omega), eI6, xup_at, if_neg (by omega), eI4, xup_at, if_neg (by omega), eI2, xup_at, if_pos (by omega)]; exact l2i_held (hC_1 hx7).1
          have v9_ : Int32.toInt64 (I26 (A + 1) (50 + 12 * k + 9)) = (mRp L (A + 7) 0).2 := by rw [eI26, xup_at, if_neg (by omega), eI12, xup_at, if_neg (by omega), eI11, xup_at, if_neg (by omega), eI10, xup_at, if_neg (by omega), eI8, xup_at, if_neg (by omega), eI6, xup_at, if_neg (by omega), eI4, xup_at, if_pos (by omega)]; exact l2i_held (hC_1 hx7).2
          have v10_ : Int32.toInt64 (I26 (A + 1) (50 + 12 * k + 10)) = (mRp L (A + 7) 2).1 := by rw [eI26, xup_at, if_neg (by omega), eI12, xup_at, if_neg (by omega), eI11, xup_at, if_neg (by omega), eI10, xup_at, if_neg (by omega), eI8, xup_at, if_neg (by omega), eI6, xup_at, if_pos (by omega)]; exact l2i_held (hC_1 hy7).1
          have v11_ : Int32.toInt64 (I26 (A + 1) (50 + 12 * k + 11)) = (mRp L (A + 7) 2).2 := by rw [eI26, xup_at, if_neg (by omega), eI12, xup_at, if_neg (by omega), eI11, xup_at, if_neg (by omega), eI10, xup_at, if_neg (by omega), eI8, xup_at, if_pos (by omega)]; exact l2i_held (hC_1 hy7).2
          have hfar : (lmax (sizC (mRp L (A + 7) 0)) (sizC (mRp L (A + 7) 2))) ≤ (Int32.toInt64 (I (A + 1) 46) * punit (I (A + 1) (50 + 12 * k + 3))) := max_le2.mpr ⟨hf1, hf2⟩
          have hw3' : (nI wN + 1 < 3) := by rw [nI_1]; exact nI_lt (a := wN + 1) (b := 3) (by omega) (by omega)
          have hpl : (nI P + nI hN < 1024) := by rw [nI_add]; exact nI_lt (a := P + hN) (b := 1024) (by omega) (by omega)
          refine ⟨rfl, rfl, ?_, fun j hj => by rw [eI26, xup_at, if_neg (by omega), eI12, xup_at, if_neg (by omega), eI11, xup_at, if_neg (by omega), eI10, xup_at, if_neg (by omega), eI8, xup_at, if_neg (by omega), eI6, xup_at, if_neg (by omega), eI4, xup_at, if_neg (by omega), eI2, xup_at, if_neg (by omega)], fun q hq => by rw [eI26, xup_row _ _ hq, eI12, xup_row _ _ hq, eI11, xup_row _ _ hq, eI10, xup_row _ _ hq, eI8, xup_row _ _ hq, eI6, xup_row _ _ hq, eI4, xup_row _ _ hq, eI2, xup_row _ _ hq]⟩
          rw [mvO_of (I26 (A + 1)) (50 + 12 * k) v0_ v1_ v2_ v3_ v4_ v5_ v6_ v7_ v8_ v9_ v10_ v11_, mvO_of (I (A + 1)) (50 + 12 * k) h0 h1 h2 rfl h4 h5 rfl rfl rfl rfl rfl rfl]
          show _ = (gMove (rw8 _ _ _ _ _ _ _ _) _ _ _, _, _)
          rw [gMove_rw8, if_pos hfar, if_pos hpl, if_pos hw3', if_pos hw3', nI_add P hN, nI_1 wN]
        · skip
          have c25n : (P + hN) = 1024 := (nI_eq (a := (P + hN)) (b := 1024) (by omega) (by omega)).mp c25
          refine x_iconst 221 C (v := 1) dX12_wasGood_221 rfl ?_
          refine x_goto 222 C 226 dX12_wasGood_222 (by decide) ?_
          refine x_iast 226 C (j := (50 + 12 * k + 5)) dX12_wasGood_226 hM.2.1 (by omega) (xIx_nI (by omega) (by decide)) (fun I27 eI27 => ?_)
          refine x_vret 227 C dX12_wasGood_227 rfl (Nat.le_refl _) (xN.intro ?_)
          have v0_ : I27 (A + 1) (50 + 12 * k) = nI (P + hN) := by rw [eI27, xup_at, if_neg (by omega), eI12, xup_at, if_neg (by omega), eI11, xup_at, if_neg (by omega), eI10, xup_at, if_pos (by omega)]
          have v1_ : I27 (A + 1) (50 + 12 * k + 1) = nI sN := by rw [eI27, xup_at, if_neg (by omega), eI12, xup_at, if_neg (by omega), eI11, xup_at, if_neg (by omega), eI10, xup_at, if_neg (by omega), eI8, xup_at, if_neg (by omega), eI6, xup_at, if_neg (by omega), eI4, xup_at, if_neg (by omega), eI2, xup_at, if_neg (by omega)]; exact h1
          have v2_ : I27 (A + 1) (50 + 12 * k + 2) = nI gN := by rw [eI27, xup_at, if_neg (by omega), eI12, xup_at, if_neg (by omega), eI11, xup_at, if_neg (by omega), eI10, xup_at, if_neg (by omega), eI8, xup_at, if_neg (by omega), eI6, xup_at, if_neg (by omega), eI4, xup_at, if_neg (by omega), eI2, xup_at, if_neg (by omega)]; exact h2
          have v3_ : I27 (A + 1) (50 + 12 * k + 3) = I (A + 1) (50 + 12 * k + 3) := by rw [eI27, xup_at, if_neg (by omega), eI12, xup_at, if_neg (by omega), eI11, xup_at, if_neg (by omega), eI10, xup_at, if_neg (by omega), eI8, xup_at, if_neg (by omega), eI6, xup_at, if_neg (by omega), eI4, xup_at, if_neg (by omega), eI2, xup_at, if_neg (by omega)]
          have v4_ : I27 (A + 1) (50 + 12 * k + 4) = nI (wN + 1) := by rw [eI27, xup_at, if_neg (by omega), eI12, xup_at, if_pos (by omega)]
          have v5_ : I27 (A + 1) (50 + 12 * k + 5) = 1 := by rw [eI27, xup_at, if_pos (by omega)]
          have v6_ : I27 (A + 1) (50 + 12 * k + 6) = (I (A + 1) (50 + 12 * k + 6)) + 1 := by rw [eI27, xup_at, if_neg (by omega), eI12, xup_at, if_neg (by omega), eI11, xup_at, if_pos (by omega)]
          have v7_ : I27 (A + 1) (50 + 12 * k + 7) = I (A + 1) (50 + 12 * k + 7) := by rw [eI27, xup_at, if_neg (by omega), eI12, xup_at, if_neg (by omega), eI11, xup_at, if_neg (by omega), eI10, xup_at, if_neg (by omega), eI8, xup_at, if_neg (by omega), eI6, xup_at, if_neg (by omega), eI4, xup_at, if_neg (by omega), eI2, xup_at, if_neg (by omega)]
          have v8_ : Int32.toInt64 (I27 (A + 1) (50 + 12 * k + 8)) = (mRp L (A + 7) 0).1 := by rw [eI27, xup_at, if_neg (by omega), eI12, xup_at, if_neg (by omega), eI11, xup_at, if_neg (by omega), eI10, xup_at, if_neg (by omega), eI8, xup_at, if_neg (by omega), eI6, xup_at, if_neg (by omega), eI4, xup_at, if_neg (by omega), eI2, xup_at, if_pos (by omega)]; exact l2i_held (hC_1 hx7).1
          have v9_ : Int32.toInt64 (I27 (A + 1) (50 + 12 * k + 9)) = (mRp L (A + 7) 0).2 := by rw [eI27, xup_at, if_neg (by omega), eI12, xup_at, if_neg (by omega), eI11, xup_at, if_neg (by omega), eI10, xup_at, if_neg (by omega), eI8, xup_at, if_neg (by omega), eI6, xup_at, if_neg (by omega), eI4, xup_at, if_pos (by omega)]; exact l2i_held (hC_1 hx7).2
          have v10_ : Int32.toInt64 (I27 (A + 1) (50 + 12 * k + 10)) = (mRp L (A + 7) 2).1 := by rw [eI27, xup_at, if_neg (by omega), eI12, xup_at, if_neg (by omega), eI11, xup_at, if_neg (by omega), eI10, xup_at, if_neg (by omega), eI8, xup_at, if_neg (by omega), eI6, xup_at, if_pos (by omega)]; exact l2i_held (hC_1 hy7).1
          have v11_ : Int32.toInt64 (I27 (A + 1) (50 + 12 * k + 11)) = (mRp L (A + 7) 2).2 := by rw [eI27, xup_at, if_neg (by omega), eI12, xup_at, if_neg (by omega), eI11, xup_at, if_neg (by omega), eI10, xup_at, if_neg (by omega), eI8, xup_at, if_pos (by omega)]; exact l2i_held (hC_1 hy7).2
          have hfar : (lmax (sizC (mRp L (A + 7) 0)) (sizC (mRp L (A + 7) 2))) ≤ (Int32.toInt64 (I (A + 1) 46) * punit (I (A + 1) (50 + 12 * k + 3))) := max_le2.mpr ⟨hf1, hf2⟩
          have hw3' : (nI wN + 1 < 3) := by rw [nI_1]; exact nI_lt (a := wN + 1) (b := 3) (by omega) (by omega)
          have hpl : ¬ (nI P + nI hN < 1024) := by rw [nI_add]; exact nI_nlt (a := P + hN) (b := 1024) (by omega) (by omega)
          refine ⟨rfl, rfl, ?_, fun j hj => by rw [eI27, xup_at, if_neg (by omega), eI12, xup_at, if_neg (by omega), eI11, xup_at, if_neg (by omega), eI10, xup_at, if_neg (by omega), eI8, xup_at, if_neg (by omega), eI6, xup_at, if_neg (by omega), eI4, xup_at, if_neg (by omega), eI2, xup_at, if_neg (by omega)], fun q hq => by rw [eI27, xup_row _ _ hq, eI12, xup_row _ _ hq, eI11, xup_row _ _ hq, eI10, xup_row _ _ hq, eI8, xup_row _ _ hq, eI6, xup_row _ _ hq, eI4, xup_row _ _ hq, eI2, xup_row _ _ hq]⟩
          rw [mvO_of (I27 (A + 1)) (50 + 12 * k) v0_ v1_ v2_ v3_ v4_ v5_ v6_ v7_ v8_ v9_ v10_ v11_, mvO_of (I (A + 1)) (50 + 12 * k) h0 h1 h2 rfl h4 h5 rfl rfl rfl rfl rfl rfl]
          show _ = (gMove (rw8 _ _ _ _ _ _ _ _) _ _ _, _, _)
          rw [gMove_rw8, if_pos hfar, if_neg hpl, if_pos hw3', if_pos hw3', nI_add P hN, nI_1 wN]
      · skip
        have c23o := Int64.not_le.mp c23
        have hf2 : Int32.toInt64 (I (A + 1) 46) * punit (I (A + 1) (50 + 12 * k + 3)) < sizC (mRp L (A + 7) 2) := Int64.not_le.mp c23
        refine x_iconst 184 C (v := 1) dX12_wasGood_184 rfl ?_
        refine x_goto 185 C 189 dX12_wasGood_185 (by decide) ?_
        refine x_istore 189 C [(5, .int 1), (3, .long ((Int32.toInt64 (I (A + 1) 46)) * (punit (I (A + 1) (50 + 12 * k + 3))))), (0, .ref A), (1, .int (nI (50 + 12 * k))), (2, .int (nI hN))] dX12_wasGood_189 (by decide) rfl ?_
        refine x_aload_n 191 C dX12_wasGood_191 rfl 2 rfl ?_
        refine x_getr 192 C (b := A + 1) dX12_wasGood_192 ff_X12_7 rfl hM.1 rfl ?_
        refine x_iload_n 195 C dX12_wasGood_195 rfl 3 rfl ?_
        refine x_iconst 196 C (v := 5) dX12_wasGood_196 rfl ?_
        refine x_iadd 197 C dX12_wasGood_197 ?_
        refine x_int (nI (50 + 12 * k + 5)) (nI_add (50 + 12 * k) 5) ?_
        refine x_iload 198 C dX12_wasGood_198 0 rfl ?_
        refine x_if_eq 200 C 207 dX12_wasGood_200 (by decide) (fun c28 => absurd c28 (by decide)) (fun _ => ?_)
        refine x_iconst 203 C (v := 2) dX12_wasGood_203 rfl ?_
        refine x_goto 204 C 226 dX12_wasGood_204 (by decide) ?_
        refine x_iast 226 C (j := (50 + 12 * k + 5)) dX12_wasGood_226 hM.2.1 (by omega) (xIx_nI (by omega) (by decide)) (fun I29 eI29 => ?_)
        refine x_vret 227 C dX12_wasGood_227 rfl (Nat.le_refl _) (xN.intro ?_)
        have v0_ : I29 (A + 1) (50 + 12 * k) = nI (P + hN) := by rw [eI29, xup_at, if_neg (by omega), eI12, xup_at, if_neg (by omega), eI11, xup_at, if_neg (by omega), eI10, xup_at, if_pos (by omega)]
        have v1_ : I29 (A + 1) (50 + 12 * k + 1) = nI sN := by rw [eI29, xup_at, if_neg (by omega), eI12, xup_at, if_neg (by omega), eI11, xup_at, if_neg (by omega), eI10, xup_at, if_neg (by omega), eI8, xup_at, if_neg (by omega), eI6, xup_at, if_neg (by omega), eI4, xup_at, if_neg (by omega), eI2, xup_at, if_neg (by omega)]; exact h1
        have v2_ : I29 (A + 1) (50 + 12 * k + 2) = nI gN := by rw [eI29, xup_at, if_neg (by omega), eI12, xup_at, if_neg (by omega), eI11, xup_at, if_neg (by omega), eI10, xup_at, if_neg (by omega), eI8, xup_at, if_neg (by omega), eI6, xup_at, if_neg (by omega), eI4, xup_at, if_neg (by omega), eI2, xup_at, if_neg (by omega)]; exact h2
        have v3_ : I29 (A + 1) (50 + 12 * k + 3) = I (A + 1) (50 + 12 * k + 3) := by rw [eI29, xup_at, if_neg (by omega), eI12, xup_at, if_neg (by omega), eI11, xup_at, if_neg (by omega), eI10, xup_at, if_neg (by omega), eI8, xup_at, if_neg (by omega), eI6, xup_at, if_neg (by omega), eI4, xup_at, if_neg (by omega), eI2, xup_at, if_neg (by omega)]
        have v4_ : I29 (A + 1) (50 + 12 * k + 4) = nI (wN + 1) := by rw [eI29, xup_at, if_neg (by omega), eI12, xup_at, if_pos (by omega)]
        have v5_ : I29 (A + 1) (50 + 12 * k + 5) = 2 := by rw [eI29, xup_at, if_pos (by omega)]
        have v6_ : I29 (A + 1) (50 + 12 * k + 6) = (I (A + 1) (50 + 12 * k + 6)) + 1 := by rw [eI29, xup_at, if_neg (by omega), eI12, xup_at, if_neg (by omega), eI11, xup_at, if_pos (by omega)]
        have v7_ : I29 (A + 1) (50 + 12 * k + 7) = I (A + 1) (50 + 12 * k + 7) := by rw [eI29, xup_at, if_neg (by omega), eI12, xup_at, if_neg (by omega), eI11, xup_at, if_neg (by omega), eI10, xup_at, if_neg (by omega), eI8, xup_at, if_neg (by omega), eI6, xup_at, if_neg (by omega), eI4, xup_at, if_neg (by omega), eI2, xup_at, if_neg (by omega)]
        have v8_ : Int32.toInt64 (I29 (A + 1) (50 + 12 * k + 8)) = (mRp L (A + 7) 0).1 := by rw [eI29, xup_at, if_neg (by omega), eI12, xup_at, if_neg (by omega), eI11, xup_at, if_neg (by omega), eI10, xup_at, if_neg (by omega), eI8, xup_at, if_neg (by omega), eI6, xup_at, if_neg (by omega), eI4, xup_at, if_neg (by omega), eI2, xup_at, if_pos (by omega)]; exact l2i_held (hC_1 hx7).1
        have v9_ : Int32.toInt64 (I29 (A + 1) (50 + 12 * k + 9)) = (mRp L (A + 7) 0).2 := by rw [eI29, xup_at, if_neg (by omega), eI12, xup_at, if_neg (by omega), eI11, xup_at, if_neg (by omega), eI10, xup_at, if_neg (by omega), eI8, xup_at, if_neg (by omega), eI6, xup_at, if_neg (by omega), eI4, xup_at, if_pos (by omega)]; exact l2i_held (hC_1 hx7).2
        have v10_ : Int32.toInt64 (I29 (A + 1) (50 + 12 * k + 10)) = (mRp L (A + 7) 2).1 := by rw [eI29, xup_at, if_neg (by omega), eI12, xup_at, if_neg (by omega), eI11, xup_at, if_neg (by omega), eI10, xup_at, if_neg (by omega), eI8, xup_at, if_neg (by omega), eI6, xup_at, if_pos (by omega)]; exact l2i_held (hC_1 hy7).1
        have v11_ : Int32.toInt64 (I29 (A + 1) (50 + 12 * k + 11)) = (mRp L (A + 7) 2).2 := by rw [eI29, xup_at, if_neg (by omega), eI12, xup_at, if_neg (by omega), eI11, xup_at, if_neg (by omega), eI10, xup_at, if_neg (by omega), eI8, xup_at, if_pos (by omega)]; exact l2i_held (hC_1 hy7).2
        have hfar : ¬ (lmax (sizC (mRp L (A + 7) 0)) (sizC (mRp L (A + 7) 2))) ≤ (Int32.toInt64 (I (A + 1) 46) * punit (I (A + 1) (50 + 12 * k + 3))) := fun h => by have h2 := max_le2.mp h; first | exact h2.1 hf1 | exact h2.2 hf2
        have hw3' : (nI wN + 1 < 3) := by rw [nI_1]; exact nI_lt (a := wN + 1) (b := 3) (by omega) (by omega)
        refine ⟨rfl, rfl, ?_, fun j hj => by rw [eI29, xup_at, if_neg (by omega), eI12, xup_at, if_neg (by omega), eI11, xup_at, if_neg (by omega), eI10, xup_at, if_neg (by omega), eI8, xup_at, if_neg (by omega), eI6, xup_at, if_neg (by omega), eI4, xup_at, if_neg (by omega), eI2, xup_at, if_neg (by omega)], fun q hq => by rw [eI29, xup_row _ _ hq, eI12, xup_row _ _ hq, eI11, xup_row _ _ hq, eI10, xup_row _ _ hq, eI8, xup_row _ _ hq, eI6, xup_row _ _ hq, eI4, xup_row _ _ hq, eI2, xup_row _ _ hq]⟩
        rw [mvO_of (I29 (A + 1)) (50 + 12 * k) v0_ v1_ v2_ v3_ v4_ v5_ v6_ v7_ v8_ v9_ v10_ v11_, mvO_of (I (A + 1)) (50 + 12 * k) h0 h1 h2 rfl h4 h5 rfl rfl rfl rfl rfl rfl]
        show _ = (gMove (rw8 _ _ _ _ _ _ _ _) _ _ _, _, _)
        rw [gMove_rw8, if_neg hfar, if_pos hw3', if_pos hw3', nI_add P hN, nI_1 wN]
  · skip
    have c13n : (wN + 1) = 3 := (nI_eq (a := (wN + 1)) (b := 3) (by omega) (by omega)).mp c13
    have hw3 : wN + 1 = 3 := by omega
    refine x_iconst 80 C (v := 2) dX12_wasGood_80 rfl ?_
    refine x_aload_n 81 C dX12_wasGood_81 rfl 1 rfl ?_
    refine x_getr 82 C (b := A + 1) dX12_wasGood_82 ff_X12_7 rfl hM.1 rfl ?_
    refine x_iload_n 85 C dX12_wasGood_85 rfl 2 rfl ?_
    refine x_iconst 86 C (v := 1) dX12_wasGood_86 rfl ?_
    refine x_iadd 87 C dX12_wasGood_87 ?_
    refine x_int (nI (50 + 12 * k + 1)) (nI_add (50 + 12 * k) 1) ?_
    refine x_iald 88 C (j := (50 + 12 * k + 1)) dX12_wasGood_88 hM.2.1 (xIx_nI (by omega) (by decide)) ?_
    refine x_int (nI sN) (by rw [eI12, xup_at, if_neg (by omega), eI11, xup_at, if_neg (by omega), eI10, xup_at, if_neg (by omega), eI8, xup_at, if_neg (by omega), eI6, xup_at, if_neg (by omega), eI4, xup_at, if_neg (by omega), eI2, xup_at, if_neg (by omega)]; exact h1) ?_
    refine x_imul 89 C dX12_wasGood_89 ?_
    refine x_int (nI (2 * sN)) (nI_mul 2 sN) ?_
    refine x_istore_n 90 C [(3, .int (nI (2 * sN))), (0, .ref A), (1, .int (nI (50 + 12 * k))), (2, .int (nI hN))] dX12_wasGood_90 rfl (by decide) rfl ?_
    refine x_aload_n 91 C dX12_wasGood_91 rfl 1 rfl ?_
    refine x_getr 92 C (b := A + 1) dX12_wasGood_92 ff_X12_7 rfl hM.1 rfl ?_
    refine x_iload_n 95 C dX12_wasGood_95 rfl 2 rfl ?_
    refine x_iconst 96 C (v := 1) dX12_wasGood_96 rfl ?_
    refine x_iadd 97 C dX12_wasGood_97 ?_
    refine x_int (nI (50 + 12 * k + 1)) (nI_add (50 + 12 * k) 1) ?_
    refine x_iload_n 98 C dX12_wasGood_98 rfl 0 rfl ?_
    refine x_aload_n 99 C dX12_wasGood_99 rfl 1 rfl ?_
    refine x_getr 100 C (b := A + 1) dX12_wasGood_100 ff_X12_7 rfl hM.1 rfl ?_
    refine x_iload_n 103 C dX12_wasGood_103 rfl 2 rfl ?_
    refine x_iconst 104 C (v := 2) dX12_wasGood_104 rfl ?_
    refine x_iadd 105 C dX12_wasGood_105 ?_
    refine x_int (nI (50 + 12 * k + 2)) (nI_add (50 + 12 * k) 2) ?_
    refine x_iald 106 C (j := (50 + 12 * k + 2)) dX12_wasGood_106 hM.2.1 (xIx_nI (by omega) (by decide)) ?_
    refine x_int (nI gN) (by rw [eI12, xup_at, if_neg (by omega), eI11, xup_at, if_neg (by omega), eI10, xup_at, if_neg (by omega), eI8, xup_at, if_neg (by omega), eI6, xup_at, if_neg (by omega), eI4, xup_at, if_neg (by omega), eI2, xup_at, if_neg (by omega)]; exact h2) ?_
    refine x_icmp_ge 107 C 114 dX12_wasGood_107 (by decide) (fun c30 => ?_) (fun c30 => ?_)
    · skip
      have c30n : gN ≤ (2 * sN) := (nI_leI (a := gN) (b := (2 * sN)) (by omega) (by omega)).mp c30
      have c30m : ¬ ((2 * sN) < gN) := by omega
      have c30o := Int32.not_lt.mpr c30
      refine x_aload_n 114 C dX12_wasGood_114 rfl 1 rfl ?_
      refine x_getr 115 C (b := A + 1) dX12_wasGood_115 ff_X12_7 rfl hM.1 rfl ?_
      refine x_iload_n 118 C dX12_wasGood_118 rfl 2 rfl ?_
      refine x_iconst 119 C (v := 2) dX12_wasGood_119 rfl ?_
      refine x_iadd 120 C dX12_wasGood_120 ?_
      refine x_int (nI (50 + 12 * k + 2)) (nI_add (50 + 12 * k) 2) ?_
      refine x_iald 121 C (j := (50 + 12 * k + 2)) dX12_wasGood_121 hM.2.1 (xIx_nI (by omega) (by decide)) ?_
      refine x_int (nI gN) (by rw [eI12, xup_at, if_neg (by omega), eI11, xup_at, if_neg (by omega), eI10, xup_at, if_neg (by omega), eI8, xup_at, if_neg (by omega), eI6, xup_at, if_neg (by omega), eI4, xup_at, if_neg (by omega), eI2, xup_at, if_neg (by omega)]; exact h2) ?_
      refine x_iast 122 C (j := (50 + 12 * k + 1)) dX12_wasGood_122 hM.2.1 (by omega) (xIx_nI (by omega) (by decide)) (fun I31 eI31 => ?_)
      refine x_aload_n 123 C dX12_wasGood_123 rfl 1 rfl ?_
      refine x_getr 124 C (b := A + 1) dX12_wasGood_124 ff_X12_7 rfl hM.1 rfl ?_
      refine x_iload_n 127 C dX12_wasGood_127 rfl 2 rfl ?_
      refine x_iconst 128 C (v := 4) dX12_wasGood_128 rfl ?_
      refine x_iadd 129 C dX12_wasGood_129 ?_
      refine x_int (nI (50 + 12 * k + 4)) (nI_add (50 + 12 * k) 4) ?_
      refine x_iconst 130 C (v := 0) dX12_wasGood_130 rfl ?_
      refine x_iast 131 C (j := (50 + 12 * k + 4)) dX12_wasGood_131 hM.2.1 (by omega) (xIx_nI (by omega) (by decide)) (fun I32 eI32 => ?_)
      refine x_aload_n 132 C dX12_wasGood_132 rfl 1 rfl ?_
      refine x_iconst 133 C (v := 4) dX12_wasGood_133 rfl ?_
      refine x_callVe 134 C dX12_wasGood_134 (As := [.int 4]) (rest := []) [.int (I32 (A + 1) (42 + 4))] (t_X12_setting l D z n G I32 L A 4 hM (by first | omega | assumption | decide)) mt_X12_setting km_X12_119 ki_X12_setting ks_X12_setting hM.1 ⟨by decide, rfl⟩ rfl rfl (Nat.le_of_ble_eq_true rfl) ⟨⟨by decide, by decide⟩, by decide, by decide⟩ (fun I33 L34 eI33 eL34 => ?_)
      replace eI33 := eI33.symm; subst eI33
      replace eL34 := eL34.symm; subst eL34
      refine x_int (I (A + 1) 46) (by rw [eI32, xup_at, if_neg (by omega)]; rw [eI31, xup_at, if_neg (by omega)]; rw [eI12, xup_at, if_neg (by omega)]; rw [eI11, xup_at, if_neg (by omega)]; rw [eI10, xup_at, if_neg (by omega)]; rw [eI8, xup_at, if_neg (by omega)]; rw [eI6, xup_at, if_neg (by omega)]; rw [eI4, xup_at, if_neg (by omega)]; rw [eI2, xup_at, if_neg (by omega)]) ?_
      refine x_i2l 137 C dX12_wasGood_137 ?_
      refine x_aload_n 138 C dX12_wasGood_138 rfl 1 rfl ?_
      refine x_getl 139 C dX12_wasGood_139 ff_X12_28 hM.1 ?_
      refine x_long (punit (I (A + 1) (50 + 12 * k + 3))) hu9 ?_
      refine x_lmul 142 C dX12_wasGood_142 ?_
      refine x_lstore_n 143 C [(3, .long ((Int32.toInt64 (I (A + 1) 46)) * (punit (I (A + 1) (50 + 12 * k + 3))))), (0, .ref A), (1, .int (nI (50 + 12 * k))), (2, .int (nI hN))] dX12_wasGood_143 rfl (by decide) rfl ?_
      refine x_aload_n 144 C dX12_wasGood_144 rfl 1 rfl ?_
      refine x_getr 145 C (b := A + 7) dX12_wasGood_145 ff_X12_36 rfl hM.1 rfl ?_
      refine x_iconst 148 C (v := 0) dX12_wasGood_148 rfl ?_
      refine x_lald 149 C (j := 0) dX12_wasGood_149 hM.2.2.2.2.2.2.2.1 ⟨by decide, by decide, by decide⟩ ?_
      refine x_aload_n 150 C dX12_wasGood_150 rfl 1 rfl ?_
      refine x_getr 151 C (b := A + 7) dX12_wasGood_151 ff_X12_36 rfl hM.1 rfl ?_
      refine x_iconst 154 C (v := 1) dX12_wasGood_154 rfl ?_
      refine x_lald 155 C (j := 1) dX12_wasGood_155 hM.2.2.2.2.2.2.2.1 ⟨by decide, by decide, by decide⟩ ?_
      refine x_callSe 156 C dX12_wasGood_156 (As := [.long (L (A + 7) 0), .long (L (A + 7) 1)]) (rest := []) [.long (sizC ((L (A + 7) 0), (L (A + 7) 1)))] (t_X12_size l D z n G I32 L (L (A + 7) 0) (L (A + 7) 1) ) mt_X12_size km_X12_166 kt_X12_size rfl rfl (Nat.le_of_ble_eq_true rfl) ⟨⟨by decide, by decide⟩, by decide, by decide⟩ (fun I35 L36 eI35 eL36 => ?_)
      replace eI35 := eI35.symm; subst eI35
      replace eL36 := eL36.symm; subst eL36
      refine x_long (sizC (mRp L (A + 7) 0)) rfl ?_
      refine x_lload_n 159 C dX12_wasGood_159 rfl 0 rfl ?_
      refine x_lc_gt 160 C 184 dX12_wasGood_160 dX12_wasGood_161 (by decide) (fun c37 => ?_) (fun c37 => ?_)
      · skip
        have c37o := Int64.not_le.mpr c37
        have hf1 : Int32.toInt64 (I (A + 1) 46) * punit (I (A + 1) (50 + 12 * k + 3)) < sizC (mRp L (A + 7) 0) := c37
        refine x_iconst 184 C (v := 1) dX12_wasGood_184 rfl ?_
        refine x_goto 185 C 189 dX12_wasGood_185 (by decide) ?_
        refine x_istore 189 C [(5, .int 1), (3, .long ((Int32.toInt64 (I (A + 1) 46)) * (punit (I (A + 1) (50 + 12 * k + 3))))), (0, .ref A), (1, .int (nI (50 + 12 * k))), (2, .int (nI hN))] dX12_wasGood_189 (by decide) rfl ?_
        refine x_aload_n 191 C dX12_wasGood_191 rfl 2 rfl ?_
        refine x_getr 192 C (b := A + 1) dX12_wasGood_192 ff_X12_7 rfl hM.1 rfl ?_
        refine x_iload_n 195 C dX12_wasGood_195 rfl 3 rfl ?_
        refine x_iconst 196 C (v := 5) dX12_wasGood_196 rfl ?_
        refine x_iadd 197 C dX12_wasGood_197 ?_
        refine x_int (nI (50 + 12 * k + 5)) (nI_add (50 + 12 * k) 5) ?_
        refine x_iload 198 C dX12_wasGood_198 0 rfl ?_
        refine x_if_eq 200 C 207 dX12_wasGood_200 (by decide) (fun c38 => absurd c38 (by decide)) (fun _ => ?_)
        refine x_iconst 203 C (v := 2) dX12_wasGood_203 rfl ?_
        refine x_goto 204 C 226 dX12_wasGood_204 (by decide) ?_
        refine x_iast 226 C (j := (50 + 12 * k + 5)) dX12_wasGood_226 hM.2.1 (by omega) (xIx_nI (by omega) (by decide)) (fun I39 eI39 => ?_)
        refine x_vret 227 C dX12_wasGood_227 rfl (Nat.le_refl _) (xN.intro ?_)
        have v0_ : I39 (A + 1) (50 + 12 * k) = nI (P + hN) := by rw [eI39, xup_at, if_neg (by omega), eI32, xup_at, if_neg (by omega), eI31, xup_at, if_neg (by omega), eI12, xup_at, if_neg (by omega), eI11, xup_at, if_neg (by omega), eI10, xup_at, if_pos (by omega)]
        have v1_ : I39 (A + 1) (50 + 12 * k + 1) = nI gN := by rw [eI39, xup_at, if_neg (by omega), eI32, xup_at, if_neg (by omega), eI31, xup_at, if_pos (by omega)]
        have v2_ : I39 (A + 1) (50 + 12 * k + 2) = nI gN := by rw [eI39, xup_at, if_neg (by omega), eI32, xup_at, if_neg (by omega), eI31, xup_at, if_neg (by omega), eI12, xup_at, if_neg (by omega), eI11, xup_at, if_neg (by omega), eI10, xup_at, if_neg (by omega), eI8, xup_at, if_neg (by omega), eI6, xup_at, if_neg (by omega), eI4, xup_at, if_neg (by omega), eI2, xup_at, if_neg (by omega)]; exact h2
        have v3_ : I39 (A + 1) (50 + 12 * k + 3) = I (A + 1) (50 + 12 * k + 3) := by rw [eI39, xup_at, if_neg (by omega), eI32, xup_at, if_neg (by omega), eI31, xup_at, if_neg (by omega), eI12, xup_at, if_neg (by omega), eI11, xup_at, if_neg (by omega), eI10, xup_at, if_neg (by omega), eI8, xup_at, if_neg (by omega), eI6, xup_at, if_neg (by omega), eI4, xup_at, if_neg (by omega), eI2, xup_at, if_neg (by omega)]
        have v4_ : I39 (A + 1) (50 + 12 * k + 4) = 0 := by rw [eI39, xup_at, if_neg (by omega), eI32, xup_at, if_pos (by omega)]
        have v5_ : I39 (A + 1) (50 + 12 * k + 5) = 2 := by rw [eI39, xup_at, if_pos (by omega)]
        have v6_ : I39 (A + 1) (50 + 12 * k + 6) = (I (A + 1) (50 + 12 * k + 6)) + 1 := by rw [eI39, xup_at, if_neg (by omega), eI32, xup_at, if_neg (by omega), eI31, xup_at, if_neg (by omega), eI12, xup_at, if_neg (by omega), eI11, xup_at, if_pos (by omega)]
        have v7_ : I39 (A + 1) (50 + 12 * k + 7) = I (A + 1) (50 + 12 * k + 7) := by rw [eI39, xup_at, if_neg (by omega), eI32, xup_at, if_neg (by omega), eI31, xup_at, if_neg (by omega), eI12, xup_at, if_neg (by omega), eI11, xup_at, if_neg (by omega), eI10, xup_at, if_neg (by omega), eI8, xup_at, if_neg (by omega), eI6, xup_at, if_neg (by omega), eI4, xup_at, if_neg (by omega), eI2, xup_at, if_neg (by omega)]
        have v8_ : Int32.toInt64 (I39 (A + 1) (50 + 12 * k + 8)) = (mRp L (A + 7) 0).1 := by rw [eI39, xup_at, if_neg (by omega), eI32, xup_at, if_neg (by omega), eI31, xup_at, if_neg (by omega), eI12, xup_at, if_neg (by omega), eI11, xup_at, if_neg (by omega), eI10, xup_at, if_neg (by omega), eI8, xup_at, if_neg (by omega), eI6, xup_at, if_neg (by omega), eI4, xup_at, if_neg (by omega), eI2, xup_at, if_pos (by omega)]; exact l2i_held (hC_1 hx7).1
        have v9_ : Int32.toInt64 (I39 (A + 1) (50 + 12 * k + 9)) = (mRp L (A + 7) 0).2 := by rw [eI39, xup_at, if_neg (by omega), eI32, xup_at, if_neg (by omega), eI31, xup_at, if_neg (by omega), eI12, xup_at, if_neg (by omega), eI11, xup_at, if_neg (by omega), eI10, xup_at, if_neg (by omega), eI8, xup_at, if_neg (by omega), eI6, xup_at, if_neg (by omega), eI4, xup_at, if_pos (by omega)]; exact l2i_held (hC_1 hx7).2
        have v10_ : Int32.toInt64 (I39 (A + 1) (50 + 12 * k + 10)) = (mRp L (A + 7) 2).1 := by rw [eI39, xup_at, if_neg (by omega), eI32, xup_at, if_neg (by omega), eI31, xup_at, if_neg (by omega), eI12, xup_at, if_neg (by omega), eI11, xup_at, if_neg (by omega), eI10, xup_at, if_neg (by omega), eI8, xup_at, if_neg (by omega), eI6, xup_at, if_pos (by omega)]; exact l2i_held (hC_1 hy7).1
        have v11_ : Int32.toInt64 (I39 (A + 1) (50 + 12 * k + 11)) = (mRp L (A + 7) 2).2 := by rw [eI39, xup_at, if_neg (by omega), eI32, xup_at, if_neg (by omega), eI31, xup_at, if_neg (by omega), eI12, xup_at, if_neg (by omega), eI11, xup_at, if_neg (by omega), eI10, xup_at, if_neg (by omega), eI8, xup_at, if_pos (by omega)]; exact l2i_held (hC_1 hy7).2
        have hfar : ¬ (lmax (sizC (mRp L (A + 7) 0)) (sizC (mRp L (A + 7) 2))) ≤ (Int32.toInt64 (I (A + 1) 46) * punit (I (A + 1) (50 + 12 * k + 3))) := fun h => by have h2 := max_le2.mp h; first | exact h2.1 hf1 | exact h2.2 hf2
        have hw3' : ¬ (nI wN + 1 < 3) := by rw [nI_1]; exact nI_nlt (a := wN + 1) (b := 3) (by omega) (by omega)
        refine ⟨rfl, rfl, ?_, fun j hj => by rw [eI39, xup_at, if_neg (by omega), eI32, xup_at, if_neg (by omega), eI31, xup_at, if_neg (by omega), eI12, xup_at, if_neg (by omega), eI11, xup_at, if_neg (by omega), eI10, xup_at, if_neg (by omega), eI8, xup_at, if_neg (by omega), eI6, xup_at, if_neg (by omega), eI4, xup_at, if_neg (by omega), eI2, xup_at, if_neg (by omega)], fun q hq => by rw [eI39, xup_row _ _ hq, eI32, xup_row _ _ hq, eI31, xup_row _ _ hq, eI12, xup_row _ _ hq, eI11, xup_row _ _ hq, eI10, xup_row _ _ hq, eI8, xup_row _ _ hq, eI6, xup_row _ _ hq, eI4, xup_row _ _ hq, eI2, xup_row _ _ hq]⟩
        rw [mvO_of (I39 (A + 1)) (50 + 12 * k) v0_ v1_ v2_ v3_ v4_ v5_ v6_ v7_ v8_ v9_ v10_ v11_, mvO_of (I (A + 1)) (50 + 12 * k) h0 h1 h2 rfl h4 h5 rfl rfl rfl rfl rfl rfl]
        show _ = (gMove (rw8 _ _ _ _ _ _ _ _) _ _ _, _, _)
        rw [gMove_rw8, if_neg hfar, if_neg hw3', if_neg hw3', nI_add P hN]
        have hst : imin (nI sN * 2) (nI gN) = nI gN := by
          have e : nI sN * 2 = nI (2 * sN) := (Int32.mul_comm _ _).trans (nI_mul 2 sN)
          rw [e, imin_n (by omega) (by omega)]; first | rfl | (congr 1; omega)
        rw [hst]
      · skip
        have c37o := Int64.not_lt.mp c37
        have hf1 : ¬ Int32.toInt64 (I (A + 1) 46) * punit (I (A + 1) (50 + 12 * k + 3)) < sizC (mRp L (A + 7) 0) := c37
        refine x_aload_n 164 C dX12_wasGood_164 rfl 1 rfl ?_
        refine x_getr 165 C (b := A + 7) dX12_wasGood_165 ff_X12_36 rfl hM.1 rfl ?_
        refine x_iconst 168 C (v := 2) dX12_wasGood_168 rfl ?_
        refine x_lald 169 C (j := 2) dX12_wasGood_169 hM.2.2.2.2.2.2.2.1 ⟨by decide, by decide, by decide⟩ ?_
        refine x_aload_n 170 C dX12_wasGood_170 rfl 1 rfl ?_
        refine x_getr 171 C (b := A + 7) dX12_wasGood_171 ff_X12_36 rfl hM.1 rfl ?_
        refine x_iconst 174 C (v := 3) dX12_wasGood_174 rfl ?_
        refine x_lald 175 C (j := 3) dX12_wasGood_175 hM.2.2.2.2.2.2.2.1 ⟨by decide, by decide, by decide⟩ ?_
        refine x_callSe 176 C dX12_wasGood_176 (As := [.long (L (A + 7) 2), .long (L (A + 7) 3)]) (rest := []) [.long (sizC ((L (A + 7) 2), (L (A + 7) 3)))] (t_X12_size l D z n G I32 L (L (A + 7) 2) (L (A + 7) 3) ) mt_X12_size km_X12_166 kt_X12_size rfl rfl (Nat.le_of_ble_eq_true rfl) ⟨⟨by decide, by decide⟩, by decide, by decide⟩ (fun I40 L41 eI40 eL41 => ?_)
        replace eI40 := eI40.symm; subst eI40
        replace eL41 := eL41.symm; subst eL41
        refine x_long (sizC (mRp L (A + 7) 2)) rfl ?_
        refine x_lload_n 179 C dX12_wasGood_179 rfl 0 rfl ?_
        refine x_lc_le 180 C 188 dX12_wasGood_180 dX12_wasGood_181 (by decide) (fun c42 => ?_) (fun c42 => ?_)
        · skip
          have c42o := Int64.not_lt.mpr c42
          have hf2 : ¬ Int32.toInt64 (I (A + 1) 46) * punit (I (A + 1) (50 + 12 * k + 3)) < sizC (mRp L (A + 7) 2) := Int64.not_lt.mpr c42
          refine x_iconst 188 C (v := 0) dX12_wasGood_188 rfl ?_
          refine x_istore 189 C [(5, .int 0), (3, .long ((Int32.toInt64 (I (A + 1) 46)) * (punit (I (A + 1) (50 + 12 * k + 3))))), (0, .ref A), (1, .int (nI (50 + 12 * k))), (2, .int (nI hN))] dX12_wasGood_189 (by decide) rfl ?_
          refine x_aload_n 191 C dX12_wasGood_191 rfl 2 rfl ?_
          refine x_getr 192 C (b := A + 1) dX12_wasGood_192 ff_X12_7 rfl hM.1 rfl ?_
          refine x_iload_n 195 C dX12_wasGood_195 rfl 3 rfl ?_
          refine x_iconst 196 C (v := 5) dX12_wasGood_196 rfl ?_
          refine x_iadd 197 C dX12_wasGood_197 ?_
          refine x_int (nI (50 + 12 * k + 5)) (nI_add (50 + 12 * k) 5) ?_
          refine x_iload 198 C dX12_wasGood_198 0 rfl ?_
          refine x_if_eq 200 C 207 dX12_wasGood_200 (by decide) (fun _ => ?_) (fun c43 => absurd (by decide) c43)
          refine x_aload_n 207 C dX12_wasGood_207 rfl 2 rfl ?_
          refine x_getr 208 C (b := A + 1) dX12_wasGood_208 ff_X12_7 rfl hM.1 rfl ?_
          refine x_iload_n 211 C dX12_wasGood_211 rfl 3 rfl ?_
          refine x_iconst 212 C (v := 0) dX12_wasGood_212 rfl ?_
          refine x_iadd 213 C dX12_wasGood_213 ?_
          refine x_int (nI (50 + 12 * k + 0)) (nI_add (50 + 12 * k) 0) ?_
          refine x_iald 214 C (j := (50 + 12 * k + 0)) dX12_wasGood_214 hM.2.1 (xIx_nI (by omega) (by decide)) ?_
          refine x_int (nI (P + hN)) (by rw [eI32, xup_at, if_neg (by omega), eI31, xup_at, if_neg (by omega), eI12, xup_at, if_neg (by omega), eI11, xup_at, if_neg (by omega), eI10, xup_at, if_pos (by omega)]) ?_
          refine x_sipush 215 C (v := 1024) dX12_wasGood_215 rfl ?_
          refine x_icmp_ne 218 C 225 dX12_wasGood_218 (by decide) (fun c44 => ?_) (fun c44 => ?_)
          · skip
            have c44n : ¬ ((P + hN) = 1024) := fun h => c44 ((nI_eq (a := (P + hN)) (b := 1024) (by omega) (by omega)).mpr h)
            refine x_iconst 225 C (v := 0) dX12_wasGood_225 rfl ?_
            refine x_iast 226 C (j := (50 + 12 * k + 5)) dX12_wasGood_226 hM.2.1 (by omega) (xIx_nI (by omega) (by decide)) (fun I45 eI45 => ?_)
            refine x_vret 227 C dX12_wasGood_227 rfl (Nat.le_refl _) (xN.intro ?_)
            have v0_ : I45 (A + 1) (50 + 12 * k) = nI (P + hN) := by rw [eI45, xup_at, if_neg (by omega), eI32, xup_at, if_neg (by omega), eI31, xup_at, if_neg (by omega), eI12, xup_at, if_neg (by omega), eI11, xup_at, if_neg (by omega), eI10, xup_at, if_pos (by omega)]
            have v1_ : I45 (A + 1) (50 + 12 * k + 1) = nI gN := by rw [eI45, xup_at, if_neg (by omega), eI32, xup_at, if_neg (by omega), eI31, xup_at, if_pos (by omega)]
            have v2_ : I45 (A + 1) (50 + 12 * k + 2) = nI gN := by rw [eI45, xup_at, if_neg (by omega), eI32, xup_at, if_neg (by omega), eI31, xup_at, if_neg (by omega), eI12, xup_at, if_neg (by omega), eI11, xup_at, if_neg (by omega), eI10, xup_at, if_neg (by omega), eI8, xup_at, if_neg (by omega), eI6, xup_at, if_neg (by omega), eI4, xup_at, if_neg (by omega), eI2, xup_at, if_neg (by omega)]; exact h2
            have v3_ : I45 (A + 1) (50 + 12 * k + 3) = I (A + 1) (50 + 12 * k + 3) := by rw [eI45, xup_at, if_neg (by omega), eI32, xup_at, if_neg (by omega), eI31, xup_at, if_neg (by omega), eI12, xup_at, if_neg (by omega), eI11, xup_at, if_neg (by omega), eI10, xup_at, if_neg (by omega), eI8, xup_at, if_neg (by omega), eI6, xup_at, if_neg (by omega), eI4, xup_at, if_neg (by omega), eI2, xup_at, if_neg (by omega)]
            have v4_ : I45 (A + 1) (50 + 12 * k + 4) = 0 := by rw [eI45, xup_at, if_neg (by omega), eI32, xup_at, if_pos (by omega)]
            have v5_ : I45 (A + 1) (50 + 12 * k + 5) = 0 := by rw [eI45, xup_at, if_pos (by omega)]
            have v6_ : I45 (A + 1) (50 + 12 * k + 6) = (I (A + 1) (50 + 12 * k + 6)) + 1 := by rw [eI45, xup_at, if_neg (by omega), eI32, xup_at, if_neg (by omega), eI31, xup_at, if_neg (by omega), eI12, xup_at, if_neg (by omega), eI11, xup_at, if_pos (by omega)]
            have v7_ : I45 (A + 1) (50 + 12 * k + 7) = I (A + 1) (50 + 12 * k + 7) := by rw [eI45, xup_at, if_neg (by omega), eI32, xup_at, if_neg (by omega), eI31, xup_at, if_neg (by omega), eI12, xup_at, if_neg (by omega), eI11, xup_at, if_neg (by omega), eI10, xup_at, if_neg (by omega), eI8, xup_at, if_neg (by omega), eI6, xup_at, if_neg (by omega), eI4, xup_at, if_neg (by omega), eI2, xup_at, if_neg (by omega)]
            have v8_ : Int32.toInt64 (I45 (A + 1) (50 + 12 * k + 8)) = (mRp L (A + 7) 0).1 := by rw [eI45, xup_at, if_neg (by omega), eI32, xup_at, if_neg (by omega), eI31, xup_at, if_neg (by omega), eI12, xup_at, if_neg (by omega), eI11, xup_at, if_neg (by omega), eI10, xup_at, if_neg (by omega), eI8, xup_at, if_neg (by omega), eI6, xup_at, if_neg (by omega), eI4, xup_at, if_neg (by omega), eI2, xup_at, if_pos (by omega)]; exact l2i_held (hC_1 hx7).1
            have v9_ : Int32.toInt64 (I45 (A + 1) (50 + 12 * k + 9)) = (mRp L (A + 7) 0).2 := by rw [eI45, xup_at, if_neg (by omega), eI32, xup_at, if_neg (by omega), eI31, xup_at, if_neg (by omega), eI12, xup_at, if_neg (by omega), eI11, xup_at, if_neg (by omega), eI10, xup_at, if_neg (by omega), eI8, xup_at, if_neg (by omega), eI6, xup_at, if_neg (by omega), eI4, xup_at, if_pos (by omega)]; exact l2i_held (hC_1 hx7).2
            have v10_ : Int32.toInt64 (I45 (A + 1) (50 + 12 * k + 10)) = (mRp L (A + 7) 2).1 := by rw [eI45, xup_at, if_neg (by omega), eI32, xup_at, if_neg (by omega), eI31, xup_at, if_neg (by omega), eI12, xup_at, if_neg (by omega), eI11, xup_at, if_neg (by omega), eI10, xup_at, if_neg (by omega), eI8, xup_at, if_neg (by omega), eI6, xup_at, if_pos (by omega)]; exact l2i_held (hC_1 hy7).1
            have v11_ : Int32.toInt64 (I45 (A + 1) (50 + 12 * k + 11)) = (mRp L (A + 7) 2).2 := by rw [eI45, xup_at, if_neg (by omega), eI32, xup_at, if_neg (by omega), eI31, xup_at, if_neg (by omega), eI12, xup_at, if_neg (by omega), eI11, xup_at, if_neg (by omega), eI10, xup_at, if_neg (by omega), eI8, xup_at, if_pos (by omega)]; exact l2i_held (hC_1 hy7).2
            have hfar : (lmax (sizC (mRp L (A + 7) 0)) (sizC (mRp L (A + 7) 2))) ≤ (Int32.toInt64 (I (A + 1) 46) * punit (I (A + 1) (50 + 12 * k + 3))) := max_le2.mpr ⟨hf1, hf2⟩
            have hw3' : ¬ (nI wN + 1 < 3) := by rw [nI_1]; exact nI_nlt (a := wN + 1) (b := 3) (by omega) (by omega)
            have hpl : (nI P + nI hN < 1024) := by rw [nI_add]; exact nI_lt (a := P + hN) (b := 1024) (by omega) (by omega)
            refine ⟨rfl, rfl, ?_, fun j hj => by rw [eI45, xup_at, if_neg (by omega), eI32, xup_at, if_neg (by omega), eI31, xup_at, if_neg (by omega), eI12, xup_at, if_neg (by omega), eI11, xup_at, if_neg (by omega), eI10, xup_at, if_neg (by omega), eI8, xup_at, if_neg (by omega), eI6, xup_at, if_neg (by omega), eI4, xup_at, if_neg (by omega), eI2, xup_at, if_neg (by omega)], fun q hq => by rw [eI45, xup_row _ _ hq, eI32, xup_row _ _ hq, eI31, xup_row _ _ hq, eI12, xup_row _ _ hq, eI11, xup_row _ _ hq, eI10, xup_row _ _ hq, eI8, xup_row _ _ hq, eI6, xup_row _ _ hq, eI4, xup_row _ _ hq, eI2, xup_row _ _ hq]⟩
            rw [mvO_of (I45 (A + 1)) (50 + 12 * k) v0_ v1_ v2_ v3_ v4_ v5_ v6_ v7_ v8_ v9_ v10_ v11_, mvO_of (I (A + 1)) (50 + 12 * k) h0 h1 h2 rfl h4 h5 rfl rfl rfl rfl rfl rfl]
            show _ = (gMove (rw8 _ _ _ _ _ _ _ _) _ _ _, _, _)
            rw [gMove_rw8, if_pos hfar, if_pos hpl, if_neg hw3', if_neg hw3', nI_add P hN]
            have hst : imin (nI sN * 2) (nI gN) = nI gN := by
              have e : nI sN * 2 = nI (2 * sN) := (Int32.mul_comm _ _).trans (nI_mul 2 sN)
              rw [e, imin_n (by omega) (by omega)]; first | rfl | (congr 1; omega)
            rw [hst]
          · skip
            have c44n : (P + hN) = 1024 := (nI_eq (a := (P + hN)) (b := 1024) (by omega) (by omega)).mp c44
            refine x_iconst 221 C (v := 1) dX12_wasGood_221 rfl ?_
            refine x_goto 222 C 226 dX12_wasGood_222 (by decide) ?_
            refine x_iast 226 C (j := (50 + 12 * k + 5)) dX12_wasGood_226 hM.2.1 (by omega) (xIx_nI (by omega) (by decide)) (fun I46 eI46 => ?_)
            refine x_vret 227 C dX12_wasGood_227 rfl (Nat.le_refl _) (xN.intro ?_)
            have v0_ : I46 (A + 1) (50 + 12 * k) = nI (P + hN) := by rw [eI46, xup_at, if_neg (by omega), eI32, xup_at, if_neg (by omega), eI31, xup_at, if_neg (by omega), eI12, xup_at, if_neg (by omega), eI11, xup_at, if_neg (by omega), eI10, xup_at, if_pos (by omega)]
            have v1_ : I46 (A + 1) (50 + 12 * k + 1) = nI gN := by rw [eI46, xup_at, if_neg (by omega), eI32, xup_at, if_neg (by omega), eI31, xup_at, if_pos (by omega)]
            have v2_ : I46 (A + 1) (50 + 12 * k + 2) = nI gN := by rw [eI46, xup_at, if_neg (by omega), eI32, xup_at, if_neg (by omega), eI31, xup_at, if_neg (by omega), eI12, xup_at, if_neg (by omega), eI11, xup_at, if_neg (by omega), eI10, xup_at, if_neg (by omega), eI8, xup_at, if_neg (by omega), eI6, xup_at, if_neg (by omega), eI4, xup_at, if_neg (by omega), eI2, xup_at, if_neg (by omega)]; exact h2
            have v3_ : I46 (A + 1) (50 + 12 * k + 3) = I (A + 1) (50 + 12 * k + 3) := by rw [eI46, xup_at, if_neg (by omega), eI32, xup_at, if_neg (by omega), eI31, xup_at, if_neg (by omega), eI12, xup_at, if_neg (by omega), eI11, xup_at, if_neg (by omega), eI10, xup_at, if_neg (by omega), eI8, xup_at, if_neg (by omega), eI6, xup_at, if_neg (by omega), eI4, xup_at, if_neg (by omega), eI2, xup_at, if_neg (by omega)]
            have v4_ : I46 (A + 1) (50 + 12 * k + 4) = 0 := by rw [eI46, xup_at, if_neg (by omega), eI32, xup_at, if_pos (by omega)]
            have v5_ : I46 (A + 1) (50 + 12 * k + 5) = 1 := by rw [eI46, xup_at, if_pos (by omega)]
            have v6_ : I46 (A + 1) (50 + 12 * k + 6) = (I (A + 1) (50 + 12 * k + 6)) + 1 := by rw [eI46, xup_at, if_neg (by omega), eI32, xup_at, if_neg (by omega), eI31, xup_at, if_neg (by omega), eI12, xup_at, if_neg (by omega), eI11, xup_at, if_pos (by omega)]
            have v7_ : I46 (A + 1) (50 + 12 * k + 7) = I (A + 1) (50 + 12 * k + 7) := by rw [eI46, xup_at, if_neg (by omega), eI32, xup_at, if_neg (by omega), eI31, xup_at, if_neg (by omega), eI12, xup_at, if_neg (by omega), eI11, xup_at, if_neg (by omega), eI10, xup_at, if_neg (by omega), eI8, xup_at, if_neg (by omega), eI6, xup_at, if_neg (by omega), eI4, xup_at, if_neg (by omega), eI2, xup_at, if_neg (by omega)]
            have v8_ : Int32.toInt64 (I46 (A + 1) (50 + 12 * k + 8)) = (mRp L (A + 7) 0).1 := by rw [eI46, xup_at, if_neg (by omega), eI32, xup_at, if_neg (by omega), eI31, xup_at, if_neg (by omega), eI12, xup_at, if_neg (by omega), eI11, xup_at, if_neg (by omega), eI10, xup_at, if_neg (by omega), eI8, xup_at, if_neg (by omega), eI6, xup_at, if_neg (by omega), eI4, xup_at, if_neg (by omega), eI2, xup_at, if_pos (by omega)]; exact l2i_held (hC_1 hx7).1
            have v9_ : Int32.toInt64 (I46 (A + 1) (50 + 12 * k + 9)) = (mRp L (A + 7) 0).2 := by rw [eI46, xup_at, if_neg (by omega), eI32, xup_at, if_neg (by omega), eI31, xup_at, if_neg (by omega), eI12, xup_at, if_neg (by omega), eI11, xup_at, if_neg (by omega), eI10, xup_at, if_neg (by omega), eI8, xup_at, if_neg (by omega), eI6, xup_at, if_neg (by omega), eI4, xup_at, if_pos (by omega)]; exact l2i_held (hC_1 hx7).2
            have v10_ : Int32.toInt64 (I46 (A + 1) (50 + 12 * k + 10)) = (mRp L (A + 7) 2).1 := by rw [eI46, xup_at, if_neg (by omega), eI32, xup_at, if_neg (by omega), eI31, xup_at, if_neg (by omega), eI12, xup_at, if_neg (by omega), eI11, xup_at, if_neg (by omega), eI10, xup_at, if_neg (by omega), eI8, xup_at, if_neg (by omega), eI6, xup_at, if_pos (by omega)]; exact l2i_held (hC_1 hy7).1
            have v11_ : Int32.toInt64 (I46 (A + 1) (50 + 12 * k + 11)) = (mRp L (A + 7) 2).2 := by rw [eI46, xup_at, if_neg (by omega), eI32, xup_at, if_neg (by omega), eI31, xup_at, if_neg (by omega), eI12, xup_at, if_neg (by omega), eI11, xup_at, if_neg (by omega), eI10, xup_at, if_neg (by omega), eI8, xup_at, if_pos (by omega)]; exact l2i_held (hC_1 hy7).2
            have hfar : (lmax (sizC (mRp L (A + 7) 0)) (sizC (mRp L (A + 7) 2))) ≤ (Int32.toInt64 (I (A + 1) 46) * punit (I (A + 1) (50 + 12 * k + 3))) := max_le2.mpr ⟨hf1, hf2⟩
            have hw3' : ¬ (nI wN + 1 < 3) := by rw [nI_1]; exact nI_nlt (a := wN + 1) (b := 3) (by omega) (by omega)
            have hpl : ¬ (nI P + nI hN < 1024) := by rw [nI_add]; exact nI_nlt (a := P + hN) (b := 1024) (by omega) (by omega)
            refine ⟨rfl, rfl, ?_, fun j hj => by rw [eI46, xup_at, if_neg (by omega), eI32, xup_at, if_neg (by omega), eI31, xup_at, if_neg (by omega), eI12, xup_at, if_neg (by omega), eI11, xup_at, if_neg (by omega), eI10, xup_at, if_neg (by omega), eI8, xup_at, if_neg (by omega), eI6, xup_at, if_neg (by omega), eI4, xup_at, if_neg (by omega), eI2, xup_at, if_neg (by omega)], fun q hq => by rw [eI46, xup_row _ _ hq, eI32, xup_row _ _ hq, eI31, xup_row _ _ hq, eI12, xup_row _ _ hq, eI11, xup_row _ _ hq, eI10, xup_row _ _ hq, eI8, xup_row _ _ hq, eI6, xup_row _ _ hq, eI4, xup_row _ _ hq, eI2, xup_row _ _ hq]⟩
            rw [mvO_of (I46 (A + 1)) (50 + 12 * k) v0_ v1_ v2_ v3_ v4_ v5_ v6_ v7_ v8_ v9_ v10_ v11_, mvO_of (I (A + 1)) (50 + 12 * k) h0 h1 h2 rfl h4 h5 rfl rfl rfl rfl rfl rfl]
            show _ = (gMove (rw8 _ _ _ _ _ _ _ _) _ _ _, _, _)
            rw [gMove_rw8, if_pos hfar, if_neg hpl, if_neg hw3', if_neg hw3', nI_add P hN]
            have hst : imin (nI sN * 2) (nI gN) = nI gN := by
              have e : nI sN * 2 = nI (2 * sN) := (Int32.mul_comm _ _).trans (nI_mul 2 sN)
              rw [e, imin_n (by omega) (by omega)]; first | rfl | (congr 1; omega)
            rw [hst]
        · skip
          have c42o := Int64.not_le.mp c42
          have hf2 : Int32.toInt64 (I (A + 1) 46) * punit (I (A + 1) (50 + 12 * k + 3)) < sizC (mRp L (A + 7) 2) := Int64.not_le.mp c42
          refine x_iconst 184 C (v := 1) dX12_wasGood_184 rfl ?_
          refine x_goto 185 C 189 dX12_wasGood_185 (by decide) ?_
          refine x_istore 189 C [(5, .int 1), (3, .long ((Int32.toInt64 (I (A + 1) 46)) * (punit (I (A + 1) (50 + 12 * k + 3))))), (0, .ref A), (1, .int (nI (50 + 12 * k))), (2, .int (nI hN))] dX12_wasGood_189 (by decide) rfl ?_
          refine x_aload_n 191 C dX12_wasGood_191 rfl 2 rfl ?_
          refine x_getr 192 C (b := A + 1) dX12_wasGood_192 ff_X12_7 rfl hM.1 rfl ?_
          refine x_iload_n 195 C dX12_wasGood_195 rfl 3 rfl ?_
          refine x_iconst 196 C (v := 5) dX12_wasGood_196 rfl ?_
          refine x_iadd 197 C dX12_wasGood_197 ?_
          refine x_int (nI (50 + 12 * k + 5)) (nI_add (50 + 12 * k) 5) ?_
          refine x_iload 198 C dX12_wasGood_198 0 rfl ?_
          refine x_if_eq 200 C 207 dX12_wasGood_200 (by decide) (fun c47 => absurd c47 (by decide)) (fun _ => ?_)
          refine x_iconst 203 C (v := 2) dX12_wasGood_203 rfl ?_
          refine x_goto 204 C 226 dX12_wasGood_204 (by decide) ?_
          refine x_iast 226 C (j := (50 + 12 * k + 5)) dX12_wasGood_226 hM.2.1 (by omega) (xIx_nI (by omega) (by decide)) (fun I48 eI48 => ?_)
          refine x_vret 227 C dX12_wasGood_227 rfl (Nat.le_refl _) (xN.intro ?_)
          have v0_ : I48 (A + 1) (50 + 12 * k) = nI (P + hN) := by rw [eI48, xup_at, if_neg (by omega), eI32, xup_at, if_neg (by omega), eI31, xup_at, if_neg (by omega), eI12, xup_at, if_neg (by omega), eI11, xup_at, if_neg (by omega), eI10, xup_at, if_pos (by omega)]
          have v1_ : I48 (A + 1) (50 + 12 * k + 1) = nI gN := by rw [eI48, xup_at, if_neg (by omega), eI32, xup_at, if_neg (by omega), eI31, xup_at, if_pos (by omega)]
          have v2_ : I48 (A + 1) (50 + 12 * k + 2) = nI gN := by rw [eI48, xup_at, if_neg (by omega), eI32, xup_at, if_neg (by omega), eI31, xup_at, if_neg (by omega), eI12, xup_at, if_neg (by omega), eI11, xup_at, if_neg (by omega), eI10, xup_at, if_neg (by omega), eI8, xup_at, if_neg (by omega), eI6, xup_at, if_neg (by omega), eI4, xup_at, if_neg (by omega), eI2, xup_at, if_neg (by omega)]; exact h2
          have v3_ : I48 (A + 1) (50 + 12 * k + 3) = I (A + 1) (50 + 12 * k + 3) := by rw [eI48, xup_at, if_neg (by omega), eI32, xup_at, if_neg (by omega), eI31, xup_at, if_neg (by omega), eI12, xup_at, if_neg (by omega), eI11, xup_at, if_neg (by omega), eI10, xup_at, if_neg (by omega), eI8, xup_at, if_neg (by omega), eI6, xup_at, if_neg (by omega), eI4, xup_at, if_neg (by omega), eI2, xup_at, if_neg (by omega)]
          have v4_ : I48 (A + 1) (50 + 12 * k + 4) = 0 := by rw [eI48, xup_at, if_neg (by omega), eI32, xup_at, if_pos (by omega)]
          have v5_ : I48 (A + 1) (50 + 12 * k + 5) = 2 := by rw [eI48, xup_at, if_pos (by omega)]
          have v6_ : I48 (A + 1) (50 + 12 * k + 6) = (I (A + 1) (50 + 12 * k + 6)) + 1 := by rw [eI48, xup_at, if_neg (by omega), eI32, xup_at, if_neg (by omega), eI31, xup_at, if_neg (by omega), eI12, xup_at, if_neg (by omega), eI11, xup_at, if_pos (by omega)]
          have v7_ : I48 (A + 1) (50 + 12 * k + 7) = I (A + 1) (50 + 12 * k + 7) := by rw [eI48, xup_at, if_neg (by omega), eI32, xup_at, if_neg (by omega), eI31, xup_at, if_neg (by omega), eI12, xup_at, if_neg (by omega), eI11, xup_at, if_neg (by omega), eI10, xup_at, if_neg (by omega), eI8, xup_at, if_neg (by omega), eI6, xup_at, if_neg (by omega), eI4, xup_at, if_neg (by omega), eI2, xup_at, if_neg (by omega)]
          have v8_ : Int32.toInt64 (I48 (A + 1) (50 + 12 * k + 8)) = (mRp L (A + 7) 0).1 := by rw [eI48, xup_at, if_neg (by omega), eI32, xup_at, if_neg (by omega), eI31, xup_at, if_neg (by omega), eI12, xup_at, if_neg (by omega), eI11, xup_at, if_neg (by omega), eI10, xup_at, if_neg (by omega), eI8, xup_at, if_neg (by omega), eI6, xup_at, if_neg (by omega), eI4, xup_at, if_neg (by omega), eI2, xup_at, if_pos (by omega)]; exact l2i_held (hC_1 hx7).1
          have v9_ : Int32.toInt64 (I48 (A + 1) (50 + 12 * k + 9)) = (mRp L (A + 7) 0).2 := by rw [eI48, xup_at, if_neg (by omega), eI32, xup_at, if_neg (by omega), eI31, xup_at, if_neg (by omega), eI12, xup_at, if_neg (by omega), eI11, xup_at, if_neg (by omega), eI10, xup_at, if_neg (by omega), eI8, xup_at, if_neg (by omega), eI6, xup_at, if_neg (by omega), eI4, xup_at, if_pos (by omega)]; exact l2i_held (hC_1 hx7).2
          have v10_ : Int32.toInt64 (I48 (A + 1) (50 + 12 * k + 10)) = (mRp L (A + 7) 2).1 := by rw [eI48, xup_at, if_neg (by omega), eI32, xup_at, if_neg (by omega), eI31, xup_at, if_neg (by omega), eI12, xup_at, if_neg (by omega), eI11, xup_at, if_neg (by omega), eI10, xup_at, if_neg (by omega), eI8, xup_at, if_neg (by omega), eI6, xup_at, if_pos (by omega)]; exact l2i_held (hC_1 hy7).1
          have v11_ : Int32.toInt64 (I48 (A + 1) (50 + 12 * k + 11)) = (mRp L (A + 7) 2).2 := by rw [eI48, xup_at, if_neg (by omega), eI32, xup_at, if_neg (by omega), eI31, xup_at, if_neg (by omega), eI12, xup_at, if_neg (by omega), eI11, xup_at, if_neg (by omega), eI10, xup_at, if_neg (by omega), eI8, xup_at, if_pos (by omega)]; exact l2i_held (hC_1 hy7).2
          have hfar : ¬ (lmax (sizC (mRp L (A + 7) 0)) (sizC (mRp L (A + 7) 2))) ≤ (Int32.toInt64 (I (A + 1) 46) * punit (I (A + 1) (50 + 12 * k + 3))) := fun h => by have h2 := max_le2.mp h; first | exact h2.1 hf1 | exact h2.2 hf2
          have hw3' : ¬ (nI wN + 1 < 3) := by rw [nI_1]; exact nI_nlt (a := wN + 1) (b := 3) (by omega) (by omega)
          refine ⟨rfl, rfl, ?_, fun j hj => by rw [eI48, xup_at, if_neg (by omega), eI32, xup_at, if_neg (by omega), eI31, xup_at, if_neg (by omega), eI12, xup_at, if_neg (by omega), eI11, xup_at, if_neg (by omega), eI10, xup_at, if_neg (by omega), eI8, xup_at, if_neg (by omega), eI6, xup_at, if_neg (by omega), eI4, xup_at, if_neg (by omega), eI2, xup_at, if_neg (by omega)], fun q hq => by rw [eI48, xup_row _ _ hq, eI32, xup_row _ _ hq, eI31, xup_row _ _ hq, eI12, xup_row _ _ hq, eI11, xup_row _ _ hq, eI10, xup_row _ _ hq, eI8, xup_row _ _ hq, eI6, xup_row _ _ hq, eI4, xup_row _ _ hq, eI2, xup_row _ _ hq]⟩
          rw [mvO_of (I48 (A + 1)) (50 + 12 * k) v0_ v1_ v2_ v3_ v4_ v5_ v6_ v7_ v8_ v9_ v10_ v11_, mvO_of (I (A + 1)) (50 + 12 * k) h0 h1 h2 rfl h4 h5 rfl rfl rfl rfl rfl rfl]
          show _ = (gMove (rw8 _ _ _ _ _ _ _ _) _ _ _, _, _)
          rw [gMove_rw8, if_neg hfar, if_neg hw3', if_neg hw3', nI_add P hN]
          have hst : imin (nI sN * 2) (nI gN) = nI gN := by
            have e : nI sN * 2 = nI (2 * sN) := (Int32.mul_comm _ _).trans (nI_mul 2 sN)
            rw [e, imin_n (by omega) (by omega)]; first | rfl | (congr 1; omega)
          rw [hst]
    · skip
      have c30n : ¬ (gN ≤ (2 * sN)) := fun h => c30 ((nI_leI (a := gN) (b := (2 * sN)) (by omega) (by omega)).mpr h)
      have c30m : (2 * sN) < gN := by omega
      have c30o := Int32.not_le.mp c30
      refine x_iload_n 110 C dX12_wasGood_110 rfl 0 rfl ?_
      refine x_goto 111 C 122 dX12_wasGood_111 (by decide) ?_
      refine x_iast 122 C (j := (50 + 12 * k + 1)) dX12_wasGood_122 hM.2.1 (by omega) (xIx_nI (by omega) (by decide)) (fun I49 eI49 => ?_)
      refine x_aload_n 123 C dX12_wasGood_123 rfl 1 rfl ?_
      refine x_getr 124 C (b := A + 1) dX12_wasGood_124 ff_X12_7 rfl hM.1 rfl ?_
      refine x_iload_n 127 C dX12_wasGood_127 rfl 2 rfl ?_
      refine x_iconst 128 C (v := 4) dX12_wasGood_128 rfl ?_
      refine x_iadd 129 C dX12_wasGood_129 ?_
      refine x_int (nI (50 + 12 * k + 4)) (nI_add (50 + 12 * k) 4) ?_
      refine x_iconst 130 C (v := 0) dX12_wasGood_130 rfl ?_
      refine x_iast 131 C (j := (50 + 12 * k + 4)) dX12_wasGood_131 hM.2.1 (by omega) (xIx_nI (by omega) (by decide)) (fun I50 eI50 => ?_)
      refine x_aload_n 132 C dX12_wasGood_132 rfl 1 rfl ?_
      refine x_iconst 133 C (v := 4) dX12_wasGood_133 rfl ?_
      refine x_callVe 134 C dX12_wasGood_134 (As := [.int 4]) (rest := []) [.int (I50 (A + 1) (42 + 4))] (t_X12_setting l D z n G I50 L A 4 hM (by first | omega | assumption | decide)) mt_X12_setting km_X12_119 ki_X12_setting ks_X12_setting hM.1 ⟨by decide, rfl⟩ rfl rfl (Nat.le_of_ble_eq_true rfl) ⟨⟨by decide, by decide⟩, by decide, by decide⟩ (fun I51 L52 eI51 eL52 => ?_)
      replace eI51 := eI51.symm; subst eI51
      replace eL52 := eL52.symm; subst eL52
      refine x_int (I (A + 1) 46) (by rw [eI50, xup_at, if_neg (by omega)]; rw [eI49, xup_at, if_neg (by omega)]; rw [eI12, xup_at, if_neg (by omega)]; rw [eI11, xup_at, if_neg (by omega)]; rw [eI10, xup_at, if_neg (by omega)]; rw [eI8, xup_at, if_neg (by omega)]; rw [eI6, xup_at, if_neg (by omega)]; rw [eI4, xup_at, if_neg (by omega)]; rw [eI2, xup_at, if_neg (by omega)]) ?_
      refine x_i2l 137 C dX12_wasGood_137 ?_
      refine x_aload_n 138 C dX12_wasGood_138 rfl 1 rfl ?_
      refine x_getl 139 C dX12_wasGood_139 ff_X12_28 hM.1 ?_
      refine x_long (punit (I (A + 1) (50 + 12 * k + 3))) hu9 ?_
      refine x_lmul 142 C dX12_wasGood_142 ?_
      refine x_lstore_n 143 C [(3, .long ((Int32.toInt64 (I (A + 1) 46)) * (punit (I (A + 1) (50 + 12 * k + 3))))), (0, .ref A), (1, .int (nI (50 + 12 * k))), (2, .int (nI hN))] dX12_wasGood_143 rfl (by decide) rfl ?_
      refine x_aload_n 144 C dX12_wasGood_144 rfl 1 rfl ?_
      refine x_getr 145 C (b := A + 7) dX12_wasGood_145 ff_X12_36 rfl hM.1 rfl ?_
      refine x_iconst 148 C (v := 0) dX12_wasGood_148 rfl ?_
      refine x_lald 149 C (j := 0) dX12_wasGood_149 hM.2.2.2.2.2.2.2.1 ⟨by decide, by decide, by decide⟩ ?_
      refine x_aload_n 150 C dX12_wasGood_150 rfl 1 rfl ?_
      refine x_getr 151 C (b := A + 7) dX12_wasGood_151 ff_X12_36 rfl hM.1 rfl ?_
      refine x_iconst 154 C (v := 1) dX12_wasGood_154 rfl ?_
      refine x_lald 155 C (j := 1) dX12_wasGood_155 hM.2.2.2.2.2.2.2.1 ⟨by decide, by decide, by decide⟩ ?_
      refine x_callSe 156 C dX12_wasGood_156 (As := [.long (L (A + 7) 0), .long (L (A + 7) 1)]) (rest := []) [.long (sizC ((L (A + 7) 0), (L (A + 7) 1)))] (t_X12_size l D z n G I50 L (L (A + 7) 0) (L (A + 7) 1) ) mt_X12_size km_X12_166 kt_X12_size rfl rfl (Nat.le_of_ble_eq_true rfl) ⟨⟨by decide, by decide⟩, by decide, by decide⟩ (fun I53 L54 eI53 eL54 => ?_)
      replace eI53 := eI53.symm; subst eI53
      replace eL54 := eL54.symm; subst eL54
      refine x_long (sizC (mRp L (A + 7) 0)) rfl ?_
      refine x_lload_n 159 C dX12_wasGood_159 rfl 0 rfl ?_
      refine x_lc_gt 160 C 184 dX12_wasGood_160 dX12_wasGood_161 (by decide) (fun c55 => ?_) (fun c55 => ?_)
      · skip
        have c55o := Int64.not_le.mpr c55
        have hf1 : Int32.toInt64 (I (A + 1) 46) * punit (I (A + 1) (50 + 12 * k + 3)) < sizC (mRp L (A + 7) 0) := c55
        refine x_iconst 184 C (v := 1) dX12_wasGood_184 rfl ?_
        refine x_goto 185 C 189 dX12_wasGood_185 (by decide) ?_
        refine x_istore 189 C [(5, .int 1), (3, .long ((Int32.toInt64 (I (A + 1) 46)) * (punit (I (A + 1) (50 + 12 * k + 3))))), (0, .ref A), (1, .int (nI (50 + 12 * k))), (2, .int (nI hN))] dX12_wasGood_189 (by decide) rfl ?_
        refine x_aload_n 191 C dX12_wasGood_191 rfl 2 rfl ?_
        refine x_getr 192 C (b := A + 1) dX12_wasGood_192 ff_X12_7 rfl hM.1 rfl ?_
        refine x_iload_n 195 C dX12_wasGood_195 rfl 3 rfl ?_
        refine x_iconst 196 C (v := 5) dX12_wasGood_196 rfl ?_
        refine x_iadd 197 C dX12_wasGood_197 ?_
        refine x_int (nI (50 + 12 * k + 5)) (nI_add (50 + 12 * k) 5) ?_
        refine x_iload 198 C dX12_wasGood_198 0 rfl ?_
        refine x_if_eq 200 C 207 dX12_wasGood_200 (by decide) (fun c56 => absurd c56 (by decide)) (fun _ => ?_)
        refine x_iconst 203 C (v := 2) dX12_wasGood_203 rfl ?_
        refine x_goto 204 C 226 dX12_wasGood_204 (by decide) ?_
        refine x_iast 226 C (j := (50 + 12 * k + 5)) dX12_wasGood_226 hM.2.1 (by omega) (xIx_nI (by omega) (by decide)) (fun I57 eI57 => ?_)
        refine x_vret 227 C dX12_wasGood_227 rfl (Nat.le_refl _) (xN.intro ?_)
        have v0_ : I57 (A + 1) (50 + 12 * k) = nI (P + hN) := by rw [eI57, xup_at, if_neg (by omega), eI50, xup_at, if_neg (by omega), eI49, xup_at, if_neg (by omega), eI12, xup_at, if_neg (by omega), eI11, xup_at, if_neg (by omega), eI10, xup_at, if_pos (by omega)]
        have v1_ : I57 (A + 1) (50 + 12 * k + 1) = nI (2 * sN) := by rw [eI57, xup_at, if_neg (by omega), eI50, xup_at, if_neg (by omega), eI49, xup_at, if_pos (by omega)]
        have v2_ : I57 (A + 1) (50 + 12 * k + 2) = nI gN := by rw [eI57, xup_at, if_neg (by omega), eI50, xup_at, if_neg (by omega), eI49, xup_at, if_neg (by omega), eI12, xup_at, if_neg (by omega), eI11, xup_at, if_neg (by omega), eI10, xup_at, if_neg (by omega), eI8, xup_at, if_neg (by omega), eI6, xup_at, if_neg (by omega), eI4, xup_at, if_neg (by omega), eI2, xup_at, if_neg (by omega)]; exact h2
        have v3_ : I57 (A + 1) (50 + 12 * k + 3) = I (A + 1) (50 + 12 * k + 3) := by rw [eI57, xup_at, if_neg (by omega), eI50, xup_at, if_neg (by omega), eI49, xup_at, if_neg (by omega), eI12, xup_at, if_neg (by omega), eI11, xup_at, if_neg (by omega), eI10, xup_at, if_neg (by omega), eI8, xup_at, if_neg (by omega), eI6, xup_at, if_neg (by omega), eI4, xup_at, if_neg (by omega), eI2, xup_at, if_neg (by omega)]
        have v4_ : I57 (A + 1) (50 + 12 * k + 4) = 0 := by rw [eI57, xup_at, if_neg (by omega), eI50, xup_at, if_pos (by omega)]
        have v5_ : I57 (A + 1) (50 + 12 * k + 5) = 2 := by rw [eI57, xup_at, if_pos (by omega)]
        have v6_ : I57 (A + 1) (50 + 12 * k + 6) = (I (A + 1) (50 + 12 * k + 6)) + 1 := by rw [eI57, xup_at, if_neg (by omega), eI50, xup_at, if_neg (by omega), eI49, xup_at, if_neg (by omega), eI12, xup_at, if_neg (by omega), eI11, xup_at, if_pos (by omega)]
        have v7_ : I57 (A + 1) (50 + 12 * k + 7) = I (A + 1) (50 + 12 * k + 7) := by rw [eI57, xup_at, if_neg (by omega), eI50, xup_at, if_neg (by omega), eI49, xup_at, if_neg (by omega), eI12, xup_at, if_neg (by omega), eI11, xup_at, if_neg (by omega), eI10, xup_at, if_neg (by omega), eI8, xup_at, if_neg (by omega), eI6, xup_at, if_neg (by omega), eI4, xup_at, if_neg (by omega), eI2, xup_at, if_neg (by omega)]
        have v8_ : Int32.toInt64 (I57 (A + 1) (50 + 12 * k + 8)) = (mRp L (A + 7) 0).1 := by rw [eI57, xup_at, if_neg (by omega), eI50, xup_at, if_neg (by omega), eI49, xup_at, if_neg (by omega), eI12, xup_at, if_neg (by omega), eI11, xup_at, if_neg (by omega), eI10, xup_at, if_neg (by omega), eI8, xup_at, if_neg (by omega), eI6, xup_at, if_neg (by omega), eI4, xup_at, if_neg (by omega), eI2, xup_at, if_pos (by omega)]; exact l2i_held (hC_1 hx7).1
        have v9_ : Int32.toInt64 (I57 (A + 1) (50 + 12 * k + 9)) = (mRp L (A + 7) 0).2 := by rw [eI57, xup_at, if_neg (by omega), eI50, xup_at, if_neg (by omega), eI49, xup_at, if_neg (by omega), eI12, xup_at, if_neg (by omega), eI11, xup_at, if_neg (by omega), eI10, xup_at, if_neg (by omega), eI8, xup_at, if_neg (by omega), eI6, xup_at, if_neg (by omega), eI4, xup_at, if_pos (by omega)]; exact l2i_held (hC_1 hx7).2
        have v10_ : Int32.toInt64 (I57 (A + 1) (50 + 12 * k + 10)) = (mRp L (A + 7) 2).1 := by rw [eI57, xup_at, if_neg (by omega), eI50, xup_at, if_neg (by omega), eI49, xup_at, if_neg (by omega), eI12, xup_at, if_neg (by omega), eI11, xup_at, if_neg (by omega), eI10, xup_at, if_neg (by omega), eI8, xup_at, if_neg (by omega), eI6, xup_at, if_pos (by omega)]; exact l2i_held (hC_1 hy7).1
        have v11_ : Int32.toInt64 (I57 (A + 1) (50 + 12 * k + 11)) = (mRp L (A + 7) 2).2 := by rw [eI57, xup_at, if_neg (by omega), eI50, xup_at, if_neg (by omega), eI49, xup_at, if_neg (by omega), eI12, xup_at, if_neg (by omega), eI11, xup_at, if_neg (by omega), eI10, xup_at, if_neg (by omega), eI8, xup_at, if_pos (by omega)]; exact l2i_held (hC_1 hy7).2
        have hfar : ¬ (lmax (sizC (mRp L (A + 7) 0)) (sizC (mRp L (A + 7) 2))) ≤ (Int32.toInt64 (I (A + 1) 46) * punit (I (A + 1) (50 + 12 * k + 3))) := fun h => by have h2 := max_le2.mp h; first | exact h2.1 hf1 | exact h2.2 hf2
        have hw3' : ¬ (nI wN + 1 < 3) := by rw [nI_1]; exact nI_nlt (a := wN + 1) (b := 3) (by omega) (by omega)
        refine ⟨rfl, rfl, ?_, fun j hj => by rw [eI57, xup_at, if_neg (by omega), eI50, xup_at, if_neg (by omega), eI49, xup_at, if_neg (by omega), eI12, xup_at, if_neg (by omega), eI11, xup_at, if_neg (by omega), eI10, xup_at, if_neg (by omega), eI8, xup_at, if_neg (by omega), eI6, xup_at, if_neg (by omega), eI4, xup_at, if_neg (by omega), eI2, xup_at, if_neg (by omega)], fun q hq => by rw [eI57, xup_row _ _ hq, eI50, xup_row _ _ hq, eI49, xup_row _ _ hq, eI12, xup_row _ _ hq, eI11, xup_row _ _ hq, eI10, xup_row _ _ hq, eI8, xup_row _ _ hq, eI6, xup_row _ _ hq, eI4, xup_row _ _ hq, eI2, xup_row _ _ hq]⟩
        rw [mvO_of (I57 (A + 1)) (50 + 12 * k) v0_ v1_ v2_ v3_ v4_ v5_ v6_ v7_ v8_ v9_ v10_ v11_, mvO_of (I (A + 1)) (50 + 12 * k) h0 h1 h2 rfl h4 h5 rfl rfl rfl rfl rfl rfl]
        show _ = (gMove (rw8 _ _ _ _ _ _ _ _) _ _ _, _, _)
        rw [gMove_rw8, if_neg hfar, if_neg hw3', if_neg hw3', nI_add P hN]
        have hst : imin (nI sN * 2) (nI gN) = nI (2 * sN) := by
          have e : nI sN * 2 = nI (2 * sN) := (Int32.mul_comm _ _).trans (nI_mul 2 sN)
          rw [e, imin_n (by omega) (by omega)]; first | rfl | (congr 1; omega)
        rw [hst]
      · skip
        have c55o := Int64.not_lt.mp c55
        have hf1 : ¬ Int32.toInt64 (I (A + 1) 46) * punit (I (A + 1) (50 + 12 * k + 3)) < sizC (mRp L (A + 7) 0) := c55
        refine x_aload_n 164 C dX12_wasGood_164 rfl 1 rfl ?_
        refine x_getr 165 C (b := A + 7) dX12_wasGood_165 ff_X12_36 rfl hM.1 rfl ?_
        refine x_iconst 168 C (v := 2) dX12_wasGood_168 rfl ?_
        refine x_lald 169 C (j := 2) dX12_wasGood_169 hM.2.2.2.2.2.2.2.1 ⟨by decide, by decide, by decide⟩ ?_
        refine x_aload_n 170 C dX12_wasGood_170 rfl 1 rfl ?_
        refine x_getr 171 C (b := A + 7) dX12_wasGood_171 ff_X12_36 rfl hM.1 rfl ?_
        refine x_iconst 174 C (v := 3) dX12_wasGood_174 rfl ?_
        refine x_lald 175 C (j := 3) dX12_wasGood_175 hM.2.2.2.2.2.2.2.1 ⟨by decide, by decide, by decide⟩ ?_
        refine x_callSe 176 C dX12_wasGood_176 (As := [.long (L (A + 7) 2), .long (L (A + 7) 3)]) (rest := []) [.long (sizC ((L (A + 7) 2), (L (A + 7) 3)))] (t_X12_size l D z n G I50 L (L (A + 7) 2) (L (A + 7) 3) ) mt_X12_size km_X12_166 kt_X12_size rfl rfl (Nat.le_of_ble_eq_true rfl) ⟨⟨by decide, by decide⟩, by decide, by decide⟩ (fun I58 L59 eI58 eL59 => ?_)
        replace eI58 := eI58.symm; subst eI58
        replace eL59 := eL59.symm; subst eL59
        refine x_long (sizC (mRp L (A + 7) 2)) rfl ?_
        refine x_lload_n 179 C dX12_wasGood_179 rfl 0 rfl ?_
        refine x_lc_le 180 C 188 dX12_wasGood_180 dX12_wasGood_181 (by decide) (fun c60 => ?_) (fun c60 => ?_)
        · skip
          have c60o := Int64.not_lt.mpr c60
          have hf2 : ¬ Int32.toInt64 (I (A + 1) 46) * punit (I (A + 1) (50 + 12 * k + 3)) < sizC (mRp L (A + 7) 2) := Int64.not_lt.mpr c60
          refine x_iconst 188 C (v := 0) dX12_wasGood_188 rfl ?_
          refine x_istore 189 C [(5, .int 0), (3, .long ((Int32.toInt64 (I (A + 1) 46)) * (punit (I (A + 1) (50 + 12 * k + 3))))), (0, .ref A), (1, .int (nI (50 + 12 * k))), (2, .int (nI hN))] dX12_wasGood_189 (by decide) rfl ?_
          refine x_aload_n 191 C dX12_wasGood_191 rfl 2 rfl ?_
          refine x_getr 192 C (b := A + 1) dX12_wasGood_192 ff_X12_7 rfl hM.1 rfl ?_
          refine x_iload_n 195 C dX12_wasGood_195 rfl 3 rfl ?_
          refine x_iconst 196 C (v := 5) dX12_wasGood_196 rfl ?_
          refine x_iadd 197 C dX12_wasGood_197 ?_
          refine x_int (nI (50 + 12 * k + 5)) (nI_add (50 + 12 * k) 5) ?_
          refine x_iload 198 C dX12_wasGood_198 0 rfl ?_
          refine x_if_eq 200 C 207 dX12_wasGood_200 (by decide) (fun _ => ?_) (fun c61 => absurd (by decide) c61)
          refine x_aload_n 207 C dX12_wasGood_207 rfl 2 rfl ?_
          refine x_getr 208 C (b := A + 1) dX12_wasGood_208 ff_X12_7 rfl hM.1 rfl ?_
          refine x_iload_n 211 C dX12_wasGood_211 rfl 3 rfl ?_
          refine x_iconst 212 C (v := 0) dX12_wasGood_212 rfl ?_
          refine x_iadd 213 C dX12_wasGood_213 ?_
          refine x_int (nI (50 + 12 * k + 0)) (nI_add (50 + 12 * k) 0) ?_
          refine x_iald 214 C (j := (50 + 12 * k + 0)) dX12_wasGood_214 hM.2.1 (xIx_nI (by omega) (by decide)) ?_
          refine x_int (nI (P + hN)) (by rw [eI50, xup_at, if_neg (by omega), eI49, xup_at, if_neg (by omega), eI12, xup_at, if_neg (by omega), eI11, xup_at, if_neg (by omega), eI10, xup_at, if_pos (by omega)]) ?_
          refine x_sipush 215 C (v := 1024) dX12_wasGood_215 rfl ?_
          refine x_icmp_ne 218 C 225 dX12_wasGood_218 (by decide) (fun c62 => ?_) (fun c62 => ?_)
          · skip
            have c62n : ¬ ((P + hN) = 1024) := fun h => c62 ((nI_eq (a := (P + hN)) (b := 1024) (by omega) (by omega)).mpr h)
            refine x_iconst 225 C (v := 0) dX12_wasGood_225 rfl ?_
            refine x_iast 226 C (j := (50 + 12 * k + 5)) dX12_wasGood_226 hM.2.1 (by omega) (xIx_nI (by omega) (by decide)) (fun I63 eI63 => ?_)
            refine x_vret 227 C dX12_wasGood_227 rfl (Nat.le_refl _) (xN.intro ?_)
            have v0_ : I63 (A + 1) (50 + 12 * k) = nI (P + hN) := by rw [eI63, xup_at, if_neg (by omega), eI50, xup_at, if_neg (by omega), eI49, xup_at, if_neg (by omega), eI12, xup_at, if_neg (by omega), eI11, xup_at, if_neg (by omega), eI10, xup_at, if_pos (by omega)]
            have v1_ : I63 (A + 1) (50 + 12 * k + 1) = nI (2 * sN) := by rw [eI63, xup_at, if_neg (by omega), eI50, xup_at, if_neg (by omega), eI49, xup_at, if_pos (by omega)]
            have v2_ : I63 (A + 1) (50 + 12 * k + 2) = nI gN := by rw [eI63, xup_at, if_neg (by omega), eI50, xup_at, if_neg (by omega), eI49, xup_at, if_neg (by omega), eI12, xup_at, if_neg (by omega), eI11, xup_at, if_neg (by omega), eI10, xup_at, if_neg (by omega), eI8, xup_at, if_neg (by omega), eI6, xup_at, if_neg (by omega), eI4, xup_at, if_neg (by omega), eI2, xup_at, if_neg (by omega)]; exact h2
            have v3_ : I63 (A + 1) (50 + 12 * k + 3) = I (A + 1) (50 + 12 * k + 3) := by rw [eI63, xup_at, if_neg (by omega), eI50, xup_at, if_neg (by omega), eI49, xup_at, if_neg (by omega), eI12, xup_at, if_neg (by omega), eI11, xup_at, if_neg (by omega), eI10, xup_at, if_neg (by omega), eI8, xup_at, if_neg (by omega), eI6, xup_at, if_neg (by omega), eI4, xup_at, if_neg (by omega), eI2, xup_at, if_neg (by omega)]
            have v4_ : I63 (A + 1) (50 + 12 * k + 4) = 0 := by rw [eI63, xup_at, if_neg (by omega), eI50, xup_at, if_pos (by omega)]
            have v5_ : I63 (A + 1) (50 + 12 * k + 5) = 0 := by rw [eI63, xup_at, if_pos (by omega)]
            have v6_ : I63 (A + 1) (50 + 12 * k + 6) = (I (A + 1) (50 + 12 * k + 6)) + 1 := by rw [eI63, xup_at, if_neg (by omega), eI50, xup_at, if_neg (by omega), eI49, xup_at, if_neg (by omega), eI12, xup_at, if_neg (by omega), eI11, xup_at, if_pos (by omega)]
            have v7_ : I63 (A + 1) (50 + 12 * k + 7) = I (A + 1) (50 + 12 * k + 7) := by rw [eI63, xup_at, if_neg (by omega), eI50, xup_at, if_neg (by omega), eI49, xup_at, if_neg (by omega), eI12, xup_at, if_neg (by omega), eI11, xup_at, if_neg (by omega), eI10, xup_at, if_neg (by omega), eI8, xup_at, if_neg (by omega), eI6, xup_at, if_neg (by omega), eI4, xup_at, if_neg (by omega), eI2, xup_at, if_neg (by omega)]
            have v8_ : Int32.toInt64 (I63 (A + 1) (50 + 12 * k + 8)) = (mRp L (A + 7) 0).1 := by rw [eI63, xup_at, if_neg (by omega), eI50, xup_at, if_neg (by omega), eI49, xup_at, if_neg (by omega), eI12, xup_at, if_neg (by omega), eI11, xup_at, if_neg (by omega), eI10, xup_at, if_neg (by omega), eI8, xup_at, if_neg (by omega), eI6, xup_at, if_neg (by omega), eI4, xup_at, if_neg (by omega), eI2, xup_at, if_pos (by omega)]; exact l2i_held (hC_1 hx7).1
            have v9_ : Int32.toInt64 (I63 (A + 1) (50 + 12 * k + 9)) = (mRp L (A + 7) 0).2 := by rw [eI63, xup_at, if_neg (by omega), eI50, xup_at, if_neg (by omega), eI49, xup_at, if_neg (by omega), eI12, xup_at, if_neg (by omega), eI11, xup_at, if_neg (by omega), eI10, xup_at, if_neg (by omega), eI8, xup_at, if_neg (by omega), eI6, xup_at, if_neg (by omega), eI4, xup_at, if_pos (by omega)]; exact l2i_held (hC_1 hx7).2
            have v10_ : Int32.toInt64 (I63 (A + 1) (50 + 12 * k + 10)) = (mRp L (A + 7) 2).1 := by rw [eI63, xup_at, if_neg (by omega), eI50, xup_at, if_neg (by omega), eI49, xup_at, if_neg (by omega), eI12, xup_at, if_neg (by omega), eI11, xup_at, if_neg (by omega), eI10, xup_at, if_neg (by omega), eI8, xup_at, if_neg (by omega), eI6, xup_at, if_pos (by omega)]; exact l2i_held (hC_1 hy7).1
            have v11_ : Int32.toInt64 (I63 (A + 1) (50 + 12 * k + 11)) = (mRp L (A + 7) 2).2 := by rw [eI63, xup_at, if_neg (by omega), eI50, xup_at, if_neg (by omega), eI49, xup_at, if_neg (by omega), eI12, xup_at, if_neg (by omega), eI11, xup_at, if_neg (by omega), eI10, xup_at, if_neg (by omega), eI8, xup_at, if_pos (by omega)]; exact l2i_held (hC_1 hy7).2
            have hfar : (lmax (sizC (mRp L (A + 7) 0)) (sizC (mRp L (A + 7) 2))) ≤ (Int32.toInt64 (I (A + 1) 46) * punit (I (A + 1) (50 + 12 * k + 3))) := max_le2.mpr ⟨hf1, hf2⟩
            have hw3' : ¬ (nI wN + 1 < 3) := by rw [nI_1]; exact nI_nlt (a := wN + 1) (b := 3) (by omega) (by omega)
            have hpl : (nI P + nI hN < 1024) := by rw [nI_add]; exact nI_lt (a := P + hN) (b := 1024) (by omega) (by omega)
            refine ⟨rfl, rfl, ?_, fun j hj => by rw [eI63, xup_at, if_neg (by omega), eI50, xup_at, if_neg (by omega), eI49, xup_at, if_neg (by omega), eI12, xup_at, if_neg (by omega), eI11, xup_at, if_neg (by omega), eI10, xup_at, if_neg (by omega), eI8, xup_at, if_neg (by omega), eI6, xup_at, if_neg (by omega), eI4, xup_at, if_neg (by omega), eI2, xup_at, if_neg (by omega)], fun q hq => by rw [eI63, xup_row _ _ hq, eI50, xup_row _ _ hq, eI49, xup_row _ _ hq, eI12, xup_row _ _ hq, eI11, xup_row _ _ hq, eI10, xup_row _ _ hq, eI8, xup_row _ _ hq, eI6, xup_row _ _ hq, eI4, xup_row _ _ hq, eI2, xup_row _ _ hq]⟩
            rw [mvO_of (I63 (A + 1)) (50 + 12 * k) v0_ v1_ v2_ v3_ v4_ v5_ v6_ v7_ v8_ v9_ v10_ v11_, mvO_of (I (A + 1)) (50 + 12 * k) h0 h1 h2 rfl h4 h5 rfl rfl rfl rfl rfl rfl]
            show _ = (gMove (rw8 _ _ _ _ _ _ _ _) _ _ _, _, _)
            rw [gMove_rw8, if_pos hfar, if_pos hpl, if_neg hw3', if_neg hw3', nI_add P hN]
            have hst : imin (nI sN * 2) (nI gN) = nI (2 * sN) := by
              have e : nI sN * 2 = nI (2 * sN) := (Int32.mul_comm _ _).trans (nI_mul 2 sN)
              rw [e, imin_n (by omega) (by omega)]; first | rfl | (congr 1; omega)
            rw [hst]
          · skip
            have c62n : (P + hN) = 1024 := (nI_eq (a := (P + hN)) (b := 1024) (by omega) (by omega)).mp c62
            refine x_iconst 221 C (v := 1) dX12_wasGood_221 rfl ?_
            refine x_goto 222 C 226 dX12_wasGood_222 (by decide) ?_
            refine x_iast 226 C (j := (50 + 12 * k + 5)) dX12_wasGood_226 hM.2.1 (by omega) (xIx_nI (by omega) (by decide)) (fun I64 eI64 => ?_)
            refine x_vret 227 C dX12_wasGood_227 rfl (Nat.le_refl _) (xN.intro ?_)
            have v0_ : I64 (A + 1) (50 + 12 * k) = nI (P + hN) := by rw [eI64, xup_at, if_neg (by omega), eI50, xup_at, if_neg (by omega), eI49, xup_at, if_neg (by omega), eI12, xup_at, if_neg (by omega), eI11, xup_at, if_neg (by omega), eI10, xup_at, if_pos (by omega)]
            have v1_ : I64 (A + 1) (50 + 12 * k + 1) = nI (2 * sN) := by rw [eI64, xup_at, if_neg (by omega), eI50, xup_at, if_neg (by omega), eI49, xup_at, if_pos (by omega)]
            have v2_ : I64 (A + 1) (50 + 12 * k + 2) = nI gN := by rw [eI64, xup_at, if_neg (by omega), eI50, xup_at, if_neg (by omega), eI49, xup_at, if_neg (by omega), eI12, xup_at, if_neg (by omega), eI11, xup_at, if_neg (by omega), eI10, xup_at, if_neg (by omega), eI8, xup_at, if_neg (by omega), eI6, xup_at, if_neg (by omega), eI4, xup_at, if_neg (by omega), eI2, xup_at, if_neg (by omega)]; exact h2
            have v3_ : I64 (A + 1) (50 + 12 * k + 3) = I (A + 1) (50 + 12 * k + 3) := by rw [eI64, xup_at, if_neg (by omega), eI50, xup_at, if_neg (by omega), eI49, xup_at, if_neg (by omega), eI12, xup_at, if_neg (by omega), eI11, xup_at, if_neg (by omega), eI10, xup_at, if_neg (by omega), eI8, xup_at, if_neg (by omega), eI6, xup_at, if_neg (by omega), eI4, xup_at, if_neg (by omega), eI2, xup_at, if_neg (by omega)]
            have v4_ : I64 (A + 1) (50 + 12 * k + 4) = 0 := by rw [eI64, xup_at, if_neg (by omega), eI50, xup_at, if_pos (by omega)]
            have v5_ : I64 (A + 1) (50 + 12 * k + 5) = 1 := by rw [eI64, xup_at, if_pos (by omega)]
            have v6_ : I64 (A + 1) (50 + 12 * k + 6) = (I (A + 1) (50 + 12 * k + 6)) + 1 := by rw [eI64, xup_at, if_neg (by omega), eI50, xup_at, if_neg (by omega), eI49, xup_at, if_neg (by omega), eI12, xup_at, if_neg (by omega), eI11, xup_at, if_pos (by omega)]
            have v7_ : I64 (A + 1) (50 + 12 * k + 7) = I (A + 1) (50 + 12 * k + 7) := by rw [eI64, xup_at, if_neg (by omega), eI50, xup_at, if_neg (by omega), eI49, xup_at, if_neg (by omega), eI12, xup_at, if_neg (by omega), eI11, xup_at, if_neg (by omega), eI10, xup_at, if_neg (by omega), eI8, xup_at, if_neg (by omega), eI6, xup_at, if_neg (by omega), eI4, xup_at, if_neg (by omega), eI2, xup_at, if_neg (by omega)]
            have v8_ : Int32.toInt64 (I64 (A + 1) (50 + 12 * k + 8)) = (mRp L (A + 7) 0).1 := by rw [eI64, xup_at, if_neg (by omega), eI50, xup_at, if_neg (by omega), eI49, xup_at, if_neg (by omega), eI12, xup_at, if_neg (by omega), eI11, xup_at, if_neg (by omega), eI10, xup_at, if_neg (by omega), eI8, xup_at, if_neg (by omega), eI6, xup_at, if_neg (by omega), eI4, xup_at, if_neg (by omega), eI2, xup_at, if_pos (by omega)]; exact l2i_held (hC_1 hx7).1
            have v9_ : Int32.toInt64 (I64 (A + 1) (50 + 12 * k + 9)) = (mRp L (A + 7) 0).2 := by rw [eI64, xup_at, if_neg (by omega), eI50, xup_at, if_neg (by omega), eI49, xup_at, if_neg (by omega), eI12, xup_at, if_neg (by omega), eI11, xup_at, if_neg (by omega), eI10, xup_at, if_neg (by omega), eI8, xup_at, if_neg (by omega), eI6, xup_at, if_neg (by omega), eI4, xup_at, if_pos (by omega)]; exact l2i_held (hC_1 hx7).2
            have v10_ : Int32.toInt64 (I64 (A + 1) (50 + 12 * k + 10)) = (mRp L (A + 7) 2).1 := by rw [eI64, xup_at, if_neg (by omega), eI50, xup_at, if_neg (by omega), eI49, xup_at, if_neg (by omega), eI12, xup_at, if_neg (by omega), eI11, xup_at, if_neg (by omega), eI10, xup_at, if_neg (by omega), eI8, xup_at, if_neg (by omega), eI6, xup_at, if_pos (by omega)]; exact l2i_held (hC_1 hy7).1
            have v11_ : Int32.toInt64 (I64 (A + 1) (50 + 12 * k + 11)) = (mRp L (A + 7) 2).2 := by rw [eI64, xup_at, if_neg (by omega), eI50, xup_at, if_neg (by omega), eI49, xup_at, if_neg (by omega), eI12, xup_at, if_neg (by omega), eI11, xup_at, if_neg (by omega), eI10, xup_at, if_neg (by omega), eI8, xup_at, if_pos (by omega)]; exact l2i_held (hC_1 hy7).2
            have hfar : (lmax (sizC (mRp L (A + 7) 0)) (sizC (mRp L (A + 7) 2))) ≤ (Int32.toInt64 (I (A + 1) 46) * punit (I (A + 1) (50 + 12 * k + 3))) := max_le2.mpr ⟨hf1, hf2⟩
            have hw3' : ¬ (nI wN + 1 < 3) := by rw [nI_1]; exact nI_nlt (a := wN + 1) (b := 3) (by omega) (by omega)
            have hpl : ¬ (nI P + nI hN < 1024) := by rw [nI_add]; exact nI_nlt (a := P + hN) (b := 1024) (by omega) (by omega)
            refine ⟨rfl, rfl, ?_, fun j hj => by rw [eI64, xup_at, if_neg (by omega), eI50, xup_at, if_neg (by omega), eI49, xup_at, if_neg (by omega), eI12, xup_at, if_neg (by omega), eI11, xup_at, if_neg (by omega), eI10, xup_at, if_neg (by omega), eI8, xup_at, if_neg (by omega), eI6, xup_at, if_neg (by omega), eI4, xup_at, if_neg (by omega), eI2, xup_at, if_neg (by omega)], fun q hq => by rw [eI64, xup_row _ _ hq, eI50, xup_row _ _ hq, eI49, xup_row _ _ hq, eI12, xup_row _ _ hq, eI11, xup_row _ _ hq, eI10, xup_row _ _ hq, eI8, xup_row _ _ hq, eI6, xup_row _ _ hq, eI4, xup_row _ _ hq, eI2, xup_row _ _ hq]⟩
            rw [mvO_of (I64 (A + 1)) (50 + 12 * k) v0_ v1_ v2_ v3_ v4_ v5_ v6_ v7_ v8_ v9_ v10_ v11_, mvO_of (I (A + 1)) (50 + 12 * k) h0 h1 h2 rfl h4 h5 rfl rfl rfl rfl rfl rfl]
            show _ = (gMove (rw8 _ _ _ _ _ _ _ _) _ _ _, _, _)
            rw [gMove_rw8, if_pos hfar, if_neg hpl, if_neg hw3', if_neg hw3', nI_add P hN]
            have hst : imin (nI sN * 2) (nI gN) = nI (2 * sN) := by
              have e : nI sN * 2 = nI (2 * sN) := (Int32.mul_comm _ _).trans (nI_mul 2 sN)
              rw [e, imin_n (by omega) (by omega)]; first | rfl | (congr 1; omega)
            rw [hst]
        · skip
          have c60o := Int64.not_le.mp c60
          have hf2 : Int32.toInt64 (I (A + 1) 46) * punit (I (A + 1) (50 + 12 * k + 3)) < sizC (mRp L (A + 7) 2) := Int64.not_le.mp c60
          refine x_iconst 184 C (v := 1) dX12_wasGood_184 rfl ?_
          refine x_goto 185 C 189 dX12_wasGood_185 (by decide) ?_
          refine x_istore 189 C [(5, .int 1), (3, .long ((Int32.toInt64 (I (A + 1) 46)) * (punit (I (A + 1) (50 + 12 * k + 3))))), (0, .ref A), (1, .int (nI (50 + 12 * k))), (2, .int (nI hN))] dX12_wasGood_189 (by decide) rfl ?_
          refine x_aload_n 191 C dX12_wasGood_191 rfl 2 rfl ?_
          refine x_getr 192 C (b := A + 1) dX12_wasGood_192 ff_X12_7 rfl hM.1 rfl ?_
          refine x_iload_n 195 C dX12_wasGood_195 rfl 3 rfl ?_
          refine x_iconst 196 C (v := 5) dX12_wasGood_196 rfl ?_
          refine x_iadd 197 C dX12_wasGood_197 ?_
          refine x_int (nI (50 + 12 * k + 5)) (nI_add (50 + 12 * k) 5) ?_
          refine x_iload 198 C dX12_wasGood_198 0 rfl ?_
          refine x_if_eq 200 C 207 dX12_wasGood_200 (by decide) (fun c65 => absurd c65 (by decide)) (fun _ => ?_)
          refine x_iconst 203 C (v := 2) dX12_wasGood_203 rfl ?_
          refine x_goto 204 C 226 dX12_wasGood_204 (by decide) ?_
          refine x_iast 226 C (j := (50 + 12 * k + 5)) dX12_wasGood_226 hM.2.1 (by omega) (xIx_nI (by omega) (by decide)) (fun I66 eI66 => ?_)
          refine x_vret 227 C dX12_wasGood_227 rfl (Nat.le_refl _) (xN.intro ?_)
          have v0_ : I66 (A + 1) (50 + 12 * k) = nI (P + hN) := by rw [eI66, xup_at, if_neg (by omega), eI50, xup_at, if_neg (by omega), eI49, xup_at, if_neg (by omega), eI12, xup_at, if_neg (by omega), eI11, xup_at, if_neg (by omega), eI10, xup_at, if_pos (by omega)]
          have v1_ : I66 (A + 1) (50 + 12 * k + 1) = nI (2 * sN) := by rw [eI66, xup_at, if_neg (by omega), eI50, xup_at, if_neg (by omega), eI49, xup_at, if_pos (by omega)]
          have v2_ : I66 (A + 1) (50 + 12 * k + 2) = nI gN := by rw [eI66, xup_at, if_neg (by omega), eI50, xup_at, if_neg (by omega), eI49, xup_at, if_neg (by omega), eI12, xup_at, if_neg (by omega), eI11, xup_at, if_neg (by omega), eI10, xup_at, if_neg (by omega), eI8, xup_at, if_neg (by omega), eI6, xup_at, if_neg (by omega), eI4, xup_at, if_neg (by omega), eI2, xup_at, if_neg (by omega)]; exact h2
          have v3_ : I66 (A + 1) (50 + 12 * k + 3) = I (A + 1) (50 + 12 * k + 3) := by rw [eI66, xup_at, if_neg (by omega), eI50, xup_at, if_neg (by omega), eI49, xup_at, if_neg (by omega), eI12, xup_at, if_neg (by omega), eI11, xup_at, if_neg (by omega), eI10, xup_at, if_neg (by omega), eI8, xup_at, if_neg (by omega), eI6, xup_at, if_neg (by omega), eI4, xup_at, if_neg (by omega), eI2, xup_at, if_neg (by omega)]
          have v4_ : I66 (A + 1) (50 + 12 * k + 4) = 0 := by rw [eI66, xup_at, if_neg (by omega), eI50, xup_at, if_pos (by omega)]
          have v5_ : I66 (A + 1) (50 + 12 * k + 5) = 2 := by rw [eI66, xup_at, if_pos (by omega)]
          have v6_ : I66 (A + 1) (50 + 12 * k + 6) = (I (A + 1) (50 + 12 * k + 6)) + 1 := by rw [eI66, xup_at, if_neg (by omega), eI50, xup_at, if_neg (by omega), eI49, xup_at, if_neg (by omega), eI12, xup_at, if_neg (by omega), eI11, xup_at, if_pos (by omega)]
          have v7_ : I66 (A + 1) (50 + 12 * k + 7) = I (A + 1) (50 + 12 * k + 7) := by rw [eI66, xup_at, if_neg (by omega), eI50, xup_at, if_neg (by omega), eI49, xup_at, if_neg (by omega), eI12, xup_at, if_neg (by omega), eI11, xup_at, if_neg (by omega), eI10, xup_at, if_neg (by omega), eI8, xup_at, if_neg (by omega), eI6, xup_at, if_neg (by omega), eI4, xup_at, if_neg (by omega), eI2, xup_at, if_neg (by omega)]
          have v8_ : Int32.toInt64 (I66 (A + 1) (50 + 12 * k + 8)) = (mRp L (A + 7) 0).1 := by rw [eI66, xup_at, if_neg (by omega), eI50, xup_at, if_neg (by omega), eI49, xup_at, if_neg (by omega), eI12, xup_at, if_neg (by omega), eI11, xup_at, if_neg (by omega), eI10, xup_at, if_neg (by omega), eI8, xup_at, if_neg (by omega), eI6, xup_at, if_neg (by omega), eI4, xup_at, if_neg (by omega), eI2, xup_at, if_pos (by omega)]; exact l2i_held (hC_1 hx7).1
          have v9_ : Int32.toInt64 (I66 (A + 1) (50 + 12 * k + 9)) = (mRp L (A + 7) 0).2 := by rw [eI66, xup_at, if_neg (by omega), eI50, xup_at, if_neg (by omega), eI49, xup_at, if_neg (by omega), eI12, xup_at, if_neg (by omega), eI11, xup_at, if_neg (by omega), eI10, xup_at, if_neg (by omega), eI8, xup_at, if_neg (by omega), eI6, xup_at, if_neg (by omega), eI4, xup_at, if_pos (by omega)]; exact l2i_held (hC_1 hx7).2
          have v10_ : Int32.toInt64 (I66 (A + 1) (50 + 12 * k + 10)) = (mRp L (A + 7) 2).1 := by rw [eI66, xup_at, if_neg (by omega), eI50, xup_at, if_neg (by omega), eI49, xup_at, if_neg (by omega), eI12, xup_at, if_neg (by omega), eI11, xup_at, if_neg (by omega), eI10, xup_at, if_neg (by omega), eI8, xup_at, if_neg (by omega), eI6, xup_at, if_pos (by omega)]; exact l2i_held (hC_1 hy7).1
          have v11_ : Int32.toInt64 (I66 (A + 1) (50 + 12 * k + 11)) = (mRp L (A + 7) 2).2 := by rw [eI66, xup_at, if_neg (by omega), eI50, xup_at, if_neg (by omega), eI49, xup_at, if_neg (by omega), eI12, xup_at, if_neg (by omega), eI11, xup_at, if_neg (by omega), eI10, xup_at, if_neg (by omega), eI8, xup_at, if_pos (by omega)]; exact l2i_held (hC_1 hy7).2
          have hfar : ¬ (lmax (sizC (mRp L (A + 7) 0)) (sizC (mRp L (A + 7) 2))) ≤ (Int32.toInt64 (I (A + 1) 46) * punit (I (A + 1) (50 + 12 * k + 3))) := fun h => by have h2 := max_le2.mp h; first | exact h2.1 hf1 | exact h2.2 hf2
          have hw3' : ¬ (nI wN + 1 < 3) := by rw [nI_1]; exact nI_nlt (a := wN + 1) (b := 3) (by omega) (by omega)
          refine ⟨rfl, rfl, ?_, fun j hj => by rw [eI66, xup_at, if_neg (by omega), eI50, xup_at, if_neg (by omega), eI49, xup_at, if_neg (by omega), eI12, xup_at, if_neg (by omega), eI11, xup_at, if_neg (by omega), eI10, xup_at, if_neg (by omega), eI8, xup_at, if_neg (by omega), eI6, xup_at, if_neg (by omega), eI4, xup_at, if_neg (by omega), eI2, xup_at, if_neg (by omega)], fun q hq => by rw [eI66, xup_row _ _ hq, eI50, xup_row _ _ hq, eI49, xup_row _ _ hq, eI12, xup_row _ _ hq, eI11, xup_row _ _ hq, eI10, xup_row _ _ hq, eI8, xup_row _ _ hq, eI6, xup_row _ _ hq, eI4, xup_row _ _ hq, eI2, xup_row _ _ hq]⟩
          rw [mvO_of (I66 (A + 1)) (50 + 12 * k) v0_ v1_ v2_ v3_ v4_ v5_ v6_ v7_ v8_ v9_ v10_ v11_, mvO_of (I (A + 1)) (50 + 12 * k) h0 h1 h2 rfl h4 h5 rfl rfl rfl rfl rfl rfl]
          show _ = (gMove (rw8 _ _ _ _ _ _ _ _) _ _ _, _, _)
          rw [gMove_rw8, if_neg hfar, if_neg hw3', if_neg hw3', nI_add P hN]
          have hst : imin (nI sN * 2) (nI gN) = nI (2 * sN) := by
            have e : nI sN * 2 = nI (2 * sN) := (Int32.mul_comm _ _).trans (nI_mul 2 sN)
            rw [e, imin_n (by omega) (by omega)]; first | rfl | (congr 1; omega)
          rw [hst]
