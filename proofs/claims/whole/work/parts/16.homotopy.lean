/-! PathTracker$Homotopy: at h; its Powers at h + 1; of the equation e: the wanted one at h + 18 + 20 * e, the start at h + 22 + 20 * e, the Tangents: ends h + 26 + 20 * e, begins h + 30 + 20 * e, mixes h + 34 + 20 * e -/
def rHom (h : Nat) : Nat → Option Nat := va_up (va_up (va_up (va_up (va_up (va_up rN 0 (some (h + 1))) 1 (some (h + 13))) 2 (some (h + 14))) 3 (some (h + 15))) 4 (some (h + 16))) 5 (some (h + 17))
def rA2 (b : Nat) : Nat → Option Nat := fun k => if k < 2 then some (b + 20 * k) else none
def shH (G : xG) (h : Nat) : Prop := G h = some (5, 0, rHom h) ∧ shW G (h + 1) ∧ G (h + 13) = some (24, 2, rA2 (h + 18)) ∧ G (h + 14) = some (24, 2, rA2 (h + 22)) ∧ G (h + 15) = some (27, 2, rA2 (h + 26)) ∧ G (h + 16) = some (27, 2, rA2 (h + 30)) ∧ G (h + 17) = some (27, 2, rA2 (h + 34)) ∧ ∀ e, e < 2 → shE G (h + 18 + 20 * e) ∧ shE G (h + 22 + 20 * e) ∧ shT G (h + 26 + 20 * e) ∧ shT G (h + 30 + 20 * e) ∧ shT G (h + 34 + 20 * e)
/-- what stands in a Homotopy behind aim -/
def aimed (I : xI) (h : Nat) (cr0 ci0 cr1 ci1 : Nat → Int32) (m0 m1 : Nat) (gr gi : Int32) : Prop :=
  (∀ j, j < 10 → I (h + 18 + 20 * 0 + 1) j = cr0 j ∧ I (h + 18 + 20 * 0 + 2) j = ci0 j) ∧ (∀ j, j < 10 → I (h + 18 + 20 * 1 + 1) j = cr1 j ∧ I (h + 18 + 20 * 1 + 2) j = ci1 j) ∧
  (∀ j, j < 10 → I (h + 22 + 20 * 0 + 1) j = stRe m0 j ∧ I (h + 22 + 20 * 0 + 2) j = 0) ∧ (∀ j, j < 10 → I (h + 22 + 20 * 1 + 1) j = stRe m1 j ∧ I (h + 22 + 20 * 1 + 2) j = 0) ∧ I h 6 = gr ∧ I h 7 = gi
def sdg (I : xI) (S b : Nat) : Nat := dgN (I (S + 1 + 4 * b + 1)) (I (S + 1 + 4 * b + 2)) 10
/-- the parts of the equations at a point: wanted, start by gamma, mix -/
def sB (f : (Nat → Int32) → (Nat → Int32) → (Nat → xC) → Nat → xC) (m : Nat) (gr gi : Int32) (X Y : xC) (u : Int64) : xC := gauC gr.toInt64 gi.toInt64 (f (stRe m) (fun _ => 0) (powC X Y u) 10)
def sM (f : (Nat → Int32) → (Nat → Int32) → (Nat → xC) → Nat → xC) (cr ci : Nat → Int32) (m : Nat) (gr gi : Int32) (P : Nat) (X Y : xC) (u : Int64) : xC := mixC (nI (1024 - P)).toInt64 (sB f m gr gi X Y u) (nI P).toInt64 (f cr ci (powC X Y u) 10)
theorem mix_nz {P : Nat} (h : P ≤ 1024) : ¬ (nI (1024 - P)).toInt64 + (nI P).toInt64 = 0 := by
  rw [nI_l (by omega), nI_l (by omega), lN_add, Nat.sub_add_cancel h]
  decide
theorem dX5_aim_0 : decode cX5_aim 0 = .ok (.iconst 0, 1) := by decide +kernel
theorem dX5_aim_1 : decode cX5_aim 1 = .ok (.istore_n 2, 1) := by decide +kernel
theorem dX5_aim_2 : decode cX5_aim 2 = .ok (.iload_n 2, 1) := by decide +kernel
theorem dX5_aim_3 : decode cX5_aim 3 = .ok (.iconst 2, 1) := by decide +kernel
theorem dX5_aim_4 : decode cX5_aim 4 = .ok (.if_icmp .ge 50, 3) := by decide +kernel
theorem dX5_aim_7 : decode cX5_aim 7 = .ok (.aload_n 0, 1) := by decide +kernel
theorem dX5_aim_8 : decode cX5_aim 8 = .ok (.getfield 18, 3) := by decide +kernel
theorem dX5_aim_11 : decode cX5_aim 11 = .ok (.iload_n 2, 1) := by decide +kernel
theorem dX5_aim_12 : decode cX5_aim 12 = .ok (.aaload, 1) := by decide +kernel
theorem dX5_aim_13 : decode cX5_aim 13 = .ok (.aload_n 1, 1) := by decide +kernel
theorem dX5_aim_14 : decode cX5_aim 14 = .ok (.iload_n 2, 1) := by decide +kernel
theorem dX5_aim_15 : decode cX5_aim 15 = .ok (.invokevirtual 39, 3) := by decide +kernel
theorem dX5_aim_18 : decode cX5_aim 18 = .ok (.invokevirtual 45, 3) := by decide +kernel
theorem dX5_aim_21 : decode cX5_aim 21 = .ok (.aload_n 0, 1) := by decide +kernel
theorem dX5_aim_22 : decode cX5_aim 22 = .ok (.getfield 22, 3) := by decide +kernel
theorem dX5_aim_25 : decode cX5_aim 25 = .ok (.iload_n 2, 1) := by decide +kernel
theorem dX5_aim_26 : decode cX5_aim 26 = .ok (.aaload, 1) := by decide +kernel
theorem dX5_aim_27 : decode cX5_aim 27 = .ok (.aload_n 0, 1) := by decide +kernel
theorem dX5_aim_28 : decode cX5_aim 28 = .ok (.getfield 18, 3) := by decide +kernel
theorem dX5_aim_31 : decode cX5_aim 31 = .ok (.iload_n 2, 1) := by decide +kernel
theorem dX5_aim_32 : decode cX5_aim 32 = .ok (.aaload, 1) := by decide +kernel
theorem dX5_aim_33 : decode cX5_aim 33 = .ok (.invokevirtual 49, 3) := by decide +kernel
theorem dX5_aim_36 : decode cX5_aim 36 = .ok (.iload_n 2, 1) := by decide +kernel
theorem dX5_aim_37 : decode cX5_aim 37 = .ok (.ifCond .ne 7, 3) := by decide +kernel
theorem dX5_aim_40 : decode cX5_aim 40 = .ok (.iconst 1, 1) := by decide +kernel
theorem dX5_aim_41 : decode cX5_aim 41 = .ok (.goto 4, 3) := by decide +kernel
theorem dX5_aim_44 : decode cX5_aim 44 = .ok (.iconst 0, 1) := by decide +kernel
theorem dX5_aim_45 : decode cX5_aim 45 = .ok (.invokevirtual 53, 3) := by decide +kernel
theorem dX5_aim_48 : decode cX5_aim 48 = .ok (.iinc 2 1, 3) := by decide +kernel
theorem dX5_aim_51 : decode cX5_aim 51 = .ok (.goto (-49), 3) := by decide +kernel
theorem dX5_aim_54 : decode cX5_aim 54 = .ok (.aload_n 0, 1) := by decide +kernel
theorem dX5_aim_55 : decode cX5_aim 55 = .ok (.aload_n 1, 1) := by decide +kernel
theorem dX5_aim_56 : decode cX5_aim 56 = .ok (.bipush 6, 2) := by decide +kernel
theorem dX5_aim_58 : decode cX5_aim 58 = .ok (.invokevirtual 57, 3) := by decide +kernel
theorem dX5_aim_61 : decode cX5_aim 61 = .ok (.putfield 61, 3) := by decide +kernel
theorem dX5_aim_64 : decode cX5_aim 64 = .ok (.aload_n 0, 1) := by decide +kernel
theorem dX5_aim_65 : decode cX5_aim 65 = .ok (.aload_n 1, 1) := by decide +kernel
theorem dX5_aim_66 : decode cX5_aim 66 = .ok (.bipush 7, 2) := by decide +kernel
theorem dX5_aim_68 : decode cX5_aim 68 = .ok (.invokevirtual 57, 3) := by decide +kernel
theorem dX5_aim_71 : decode cX5_aim 71 = .ok (.putfield 65, 3) := by decide +kernel
theorem dX5_aim_74 : decode cX5_aim 74 = .ok (.return_, 1) := by decide +kernel
set_option maxHeartbeats 4000000 in
set_option maxRecDepth 100000 in
theorem t_X5_aim (l : Launch) (D : xD) (z n : Nat) (G : xG) (I : xI) (L : xL) (h : Nat) (S : Nat) (hH : shH G h) (hS : shS G S) (zh : z ≤ h) (dSh : S + 38 ≤ h ∨ h + 58 ≤ S) (hd0 : 1 ≤ sdg I S 0) (hd1 : 1 ≤ sdg I S 1) : xM0 l D z yX5_aim cX5_aim 3 none 4 90 [.ref h, .ref S] n G I L (fun v' I' L' => v' = none ∧ L' = L ∧ (aimed I' h (I (S + 1 + 4 * 0 + 1)) (I (S + 1 + 4 * 0 + 2)) (I (S + 1 + 4 * 1 + 1)) (I (S + 1 + 4 * 1 + 2)) (tm (sdg I S 0) 0) (tm 0 (sdg I S 1)) (I (S + 9) 6) (I (S + 9) 7)) ∧ (∀ a, (a < h ∨ h + 58 ≤ a) → I' a = I a)) := by
  refine xM.of (by decide) (Nat.le_of_ble_eq_true rfl) (fun p e s m args below meth c C hnm hsz => ?_)
  refine x_lv [(0, .ref h), (1, .ref S)] rfl ?_
  have hd0b : sdg I S 0 ≤ 3 := dgN_le _ _ _
  have hd1b : sdg I S 1 ≤ 3 := dgN_le _ _ _
  refine x_iconst 0 C (v := 0) dX5_aim_0 rfl ?_
  refine x_istore_n 1 C [(2, .int 0), (0, .ref h), (1, .ref S)] dX5_aim_1 rfl (by decide) rfl ?_
  refine x_iload_n 2 C dX5_aim_2 rfl 0 rfl ?_
  refine x_iconst 3 C (v := 2) dX5_aim_3 rfl ?_
  refine x_icmp_ge 4 C 54 dX5_aim_4 (by decide) (fun c1 => absurd c1 (by decide)) (fun _ => ?_)
  refine x_aload_n 7 C dX5_aim_7 rfl 1 rfl ?_
  refine x_getr 8 C (b := h + 13) dX5_aim_8 ff_X5_18 rfl hH.1 rfl ?_
  refine x_iload_n 11 C dX5_aim_11 rfl 0 rfl ?_
  refine x_aald 12 C (b := h + 18 + 20 * 0) (j := 0) dX5_aim_12 (by decide) hH.2.2.1 ⟨by decide, by decide, by decide⟩ rfl ?_
  refine x_aload_n 13 C dX5_aim_13 rfl 2 rfl ?_
  refine x_iload_n 14 C dX5_aim_14 rfl 0 rfl ?_
  refine x_callVe 15 C dX5_aim_15 (As := [.int 0]) (rest := [.ref (h + 18 + 20 * 0)]) [.ref (S + 1 + 4 * 0), .ref (h + 18 + 20 * 0)] (t_X9_equationAt l D z n G I L S 0 hS (by first | assumption | omega)) mt_X9_equationAt km_X5_39 ki_X9_equationAt ks_X9_equationAt hS.1 ⟨by decide, rfl⟩ rfl rfl (Nat.le_of_ble_eq_true rfl) ⟨⟨by decide, by decide⟩, by decide, by decide⟩ (fun I2 L3 eI2 eL3 => ?_)
  replace eI2 := eI2.symm; subst eI2
  replace eL3 := eL3.symm; subst eL3
  refine x_callVe 18 C dX5_aim_18 (As := [.ref (S + 1 + 4 * 0)]) (rest := []) [] (t_X1_copy l D z n G I L (h + 18 + 20 * 0) (S + 1 + 4 * 0) (hH.2.2.2.2.2.2.2 0 (by decide)).1 (hS.2.1 0 (by decide)) (by omega) (by first | assumption | omega)) mt_X1_copy km_X5_45 ki_X1_copy ks_X1_copy (hH.2.2.2.2.2.2.2 0 (by decide)).1.1 ⟨by decide, rfl⟩ rfl rfl (Nat.le_of_ble_eq_true rfl) ⟨⟨by decide, by decide⟩, by decide, by decide⟩ (fun I4 L5 eI4 eL5 => ?_)
  have q6 : ∀ j, j < 10 → I4 (h + 18 + 20 * 0 + 1) j = (I (S + 1 + 4 * 0 + 1)) j := fun j hj => by rw [eI4, eqFill_re _ _ _ _ hj]
  have q7 : ∀ j, j < 10 → I4 (h + 18 + 20 * 0 + 2) j = (I (S + 1 + 4 * 0 + 2)) j := fun j hj => by rw [eI4, eqFill_im _ _ _ _ hj]
  have q8 : ∀ j, j < 10 → I4 (h + 18 + 20 * 1 + 1) j = (I (h + 18 + 20 * 1 + 1)) j := fun j hj => by rw [eI4, eqFill_ne _ _ _ _ _ (by omega) (by omega)]
  have q9 : ∀ j, j < 10 → I4 (h + 18 + 20 * 1 + 2) j = (I (h + 18 + 20 * 1 + 2)) j := fun j hj => by rw [eI4, eqFill_ne _ _ _ _ _ (by omega) (by omega)]
  have q10 : ∀ j, j < 10 → I4 (h + 22 + 20 * 0 + 1) j = (I (h + 22 + 20 * 0 + 1)) j := fun j hj => by rw [eI4, eqFill_ne _ _ _ _ _ (by omega) (by omega)]
  have q11 : ∀ j, j < 10 → I4 (h + 22 + 20 * 0 + 2) j = (I (h + 22 + 20 * 0 + 2)) j := fun j hj => by rw [eI4, eqFill_ne _ _ _ _ _ (by omega) (by omega)]
  have q12 : ∀ j, j < 10 → I4 (h + 22 + 20 * 1 + 1) j = (I (h + 22 + 20 * 1 + 1)) j := fun j hj => by rw [eI4, eqFill_ne _ _ _ _ _ (by omega) (by omega)]
  have q13 : ∀ j, j < 10 → I4 (h + 22 + 20 * 1 + 2) j = (I (h + 22 + 20 * 1 + 2)) j := fun j hj => by rw [eI4, eqFill_ne _ _ _ _ _ (by omega) (by omega)]
  have q14 : ∀ j, j < 10 → I4 (S + 1 + 4 * 0 + 1) j = (I (S + 1 + 4 * 0 + 1)) j := fun j hj => by rw [eI4, eqFill_ne _ _ _ _ _ (by omega) (by omega)]
  have q15 : ∀ j, j < 10 → I4 (S + 1 + 4 * 0 + 2) j = (I (S + 1 + 4 * 0 + 2)) j := fun j hj => by rw [eI4, eqFill_ne _ _ _ _ _ (by omega) (by omega)]
  have q16 : ∀ j, j < 10 → I4 (S + 1 + 4 * 1 + 1) j = (I (S + 1 + 4 * 1 + 1)) j := fun j hj => by rw [eI4, eqFill_ne _ _ _ _ _ (by omega) (by omega)]
  have q17 : ∀ j, j < 10 → I4 (S + 1 + 4 * 1 + 2) j = (I (S + 1 + 4 * 1 + 2)) j := fun j hj => by rw [eI4, eqFill_ne _ _ _ _ _ (by omega) (by omega)]
  have q18 : ∀ j, j < 10 → I4 (S + 9) j = (I (S + 9)) j := fun j hj => by rw [eI4, eqFill_ne _ _ _ _ _ (by omega) (by omega)]
  replace eL5 := eL5.symm; subst eL5
  refine x_aload_n 21 C dX5_aim_21 rfl 1 rfl ?_
  refine x_getr 22 C (b := h + 14) dX5_aim_22 ff_X5_22 rfl hH.1 rfl ?_
  refine x_iload_n 25 C dX5_aim_25 rfl 0 rfl ?_
  refine x_aald 26 C (b := h + 22 + 20 * 0) (j := 0) dX5_aim_26 (by decide) hH.2.2.2.1 ⟨by decide, by decide, by decide⟩ rfl ?_
  refine x_aload_n 27 C dX5_aim_27 rfl 1 rfl ?_
  refine x_getr 28 C (b := h + 13) dX5_aim_28 ff_X5_18 rfl hH.1 rfl ?_
  refine x_iload_n 31 C dX5_aim_31 rfl 0 rfl ?_
  refine x_aald 32 C (b := h + 18 + 20 * 0) (j := 0) dX5_aim_32 (by decide) hH.2.2.1 ⟨by decide, by decide, by decide⟩ rfl ?_
  refine x_callVe 33 C dX5_aim_33 (As := []) (rest := [.ref (h + 22 + 20 * 0)]) [.int (nI (dgN (I4 ((h + 18 + 20 * 0) + 1)) (I4 ((h + 18 + 20 * 0) + 2)) 10)), .ref (h + 22 + 20 * 0)] (t_X1_degree l D z n G I4 L (h + 18 + 20 * 0) (hH.2.2.2.2.2.2.2 0 (by decide)).1) mt_X1_degree km_X5_49 ki_X1_degree ks_X1_degree (hH.2.2.2.2.2.2.2 0 (by decide)).1.1 ⟨by decide, rfl⟩ rfl rfl (Nat.le_of_ble_eq_true rfl) ⟨⟨by decide, by decide⟩, by decide, by decide⟩ (fun I19 L20 eI19 eL20 => ?_)
  replace eI19 := eI19.symm; subst eI19
  replace eL20 := eL20.symm; subst eL20
  refine x_int (nI (sdg I S 0)) (congrArg nI (dgN_congr q6 q7 10 (by decide))) ?_
  refine x_iload_n 36 C dX5_aim_36 rfl 0 rfl ?_
  refine x_if_ne 37 C 44 dX5_aim_37 (by decide) (fun c21 => absurd (by decide) c21) (fun _ => ?_)
  refine x_iconst 40 C (v := 1) dX5_aim_40 rfl ?_
  refine x_goto 41 C 45 dX5_aim_41 (by decide) ?_
  refine x_callVe 45 C dX5_aim_45 (As := [.int (nI (sdg I S 0)), .int 1]) (rest := []) [] (t_X1_putStart l D z n G I4 L (h + 22 + 20 * 0) (sdg I S 0) 1 (hH.2.2.2.2.2.2.2 0 (by decide)).2.1 (by omega) (by first | assumption | omega) (by first | assumption | omega)) mt_X1_putStart km_X5_53 ki_X1_putStart ks_X1_putStart (hH.2.2.2.2.2.2.2 0 (by decide)).2.1.1 ⟨by decide, rfl⟩ rfl rfl (Nat.le_of_ble_eq_true rfl) ⟨⟨by decide, by decide⟩, by decide, by decide⟩ (fun I22 L23 eI22 eL23 => ?_)
  have q24 : ∀ j, j < 10 → I22 (h + 18 + 20 * 0 + 1) j = (I (S + 1 + 4 * 0 + 1)) j := fun j hj => by rw [eI22, eqFill_ne _ _ _ _ _ (by omega) (by omega)]; exact q6 j hj
  have q25 : ∀ j, j < 10 → I22 (h + 18 + 20 * 0 + 2) j = (I (S + 1 + 4 * 0 + 2)) j := fun j hj => by rw [eI22, eqFill_ne _ _ _ _ _ (by omega) (by omega)]; exact q7 j hj
  have q26 : ∀ j, j < 10 → I22 (h + 18 + 20 * 1 + 1) j = (I (h + 18 + 20 * 1 + 1)) j := fun j hj => by rw [eI22, eqFill_ne _ _ _ _ _ (by omega) (by omega)]; exact q8 j hj
  have q27 : ∀ j, j < 10 → I22 (h + 18 + 20 * 1 + 2) j = (I (h + 18 + 20 * 1 + 2)) j := fun j hj => by rw [eI22, eqFill_ne _ _ _ _ _ (by omega) (by omega)]; exact q9 j hj
  have q28 : ∀ j, j < 10 → I22 (h + 22 + 20 * 0 + 1) j = (stRe (if 1 = 1 then tm (sdg I S 0) 0 else tm 0 (sdg I S 0))) j := fun j hj => by rw [eI22, eqFill_re _ _ _ _ hj]
  have q29 : ∀ j, j < 10 → I22 (h + 22 + 20 * 0 + 2) j = (fun _ => 0) j := fun j hj => by rw [eI22, eqFill_im _ _ _ _ hj]
  have q30 : ∀ j, j < 10 → I22 (h + 22 + 20 * 1 + 1) j = (I (h + 22 + 20 * 1 + 1)) j := fun j hj => by rw [eI22, eqFill_ne _ _ _ _ _ (by omega) (by omega)]; exact q12 j hj
  have q31 : ∀ j, j < 10 → I22 (h + 22 + 20 * 1 + 2) j = (I (h + 22 + 20 * 1 + 2)) j := fun j hj => by rw [eI22, eqFill_ne _ _ _ _ _ (by omega) (by omega)]; exact q13 j hj
  have q32 : ∀ j, j < 10 → I22 (S + 1 + 4 * 0 + 1) j = (I (S + 1 + 4 * 0 + 1)) j := fun j hj => by rw [eI22, eqFill_ne _ _ _ _ _ (by omega) (by omega)]; exact q14 j hj
  have q33 : ∀ j, j < 10 → I22 (S + 1 + 4 * 0 + 2) j = (I (S + 1 + 4 * 0 + 2)) j := fun j hj => by rw [eI22, eqFill_ne _ _ _ _ _ (by omega) (by omega)]; exact q15 j hj
  have q34 : ∀ j, j < 10 → I22 (S + 1 + 4 * 1 + 1) j = (I (S + 1 + 4 * 1 + 1)) j := fun j hj => by rw [eI22, eqFill_ne _ _ _ _ _ (by omega) (by omega)]; exact q16 j hj
  have q35 : ∀ j, j < 10 → I22 (S + 1 + 4 * 1 + 2) j = (I (S + 1 + 4 * 1 + 2)) j := fun j hj => by rw [eI22, eqFill_ne _ _ _ _ _ (by omega) (by omega)]; exact q17 j hj
  have q36 : ∀ j, j < 10 → I22 (S + 9) j = (I (S + 9)) j := fun j hj => by rw [eI22, eqFill_ne _ _ _ _ _ (by omega) (by omega)]; exact q18 j hj
  replace eL23 := eL23.symm; subst eL23
  refine x_iinc 48 C [(2, .int 1), (0, .ref h), (1, .ref S)] dX5_aim_48 0 rfl (by decide) (by decide) rfl ?_
  refine x_goto 51 C 2 dX5_aim_51 (by decide) ?_
  refine x_iload_n 2 C dX5_aim_2 rfl 0 rfl ?_
  refine x_iconst 3 C (v := 2) dX5_aim_3 rfl ?_
  refine x_icmp_ge 4 C 54 dX5_aim_4 (by decide) (fun c37 => absurd c37 (by decide)) (fun _ => ?_)
  refine x_aload_n 7 C dX5_aim_7 rfl 1 rfl ?_
  refine x_getr 8 C (b := h + 13) dX5_aim_8 ff_X5_18 rfl hH.1 rfl ?_
  refine x_iload_n 11 C dX5_aim_11 rfl 0 rfl ?_
  refine x_aald 12 C (b := h + 18 + 20 * 1) (j := 1) dX5_aim_12 (by decide) hH.2.2.1 ⟨by decide, by decide, by decide⟩ rfl ?_
  refine x_aload_n 13 C dX5_aim_13 rfl 2 rfl ?_
  refine x_iload_n 14 C dX5_aim_14 rfl 0 rfl ?_
  refine x_callVe 15 C dX5_aim_15 (As := [.int 1]) (rest := [.ref (h + 18 + 20 * 1)]) [.ref (S + 1 + 4 * 1), .ref (h + 18 + 20 * 1)] (t_X9_equationAt l D z n G I22 L S 1 hS (by first | assumption | omega)) mt_X9_equationAt km_X5_39 ki_X9_equationAt ks_X9_equationAt hS.1 ⟨by decide, rfl⟩ rfl rfl (Nat.le_of_ble_eq_true rfl) ⟨⟨by decide, by decide⟩, by decide, by decide⟩ (fun I38 L39 eI38 eL39 => ?_)
  replace eI38 := eI38.symm; subst eI38
  replace eL39 := eL39.symm; subst eL39
  refine x_callVe 18 C dX5_aim_18 (As := [.ref (S + 1 + 4 * 1)]) (rest := []) [] (t_X1_copy l D z n G I22 L (h + 18 + 20 * 1) (S + 1 + 4 * 1) (hH.2.2.2.2.2.2.2 1 (by decide)).1 (hS.2.1 1 (by decide)) (by omega) (by first | assumption | omega)) mt_X1_copy km_X5_45 ki_X1_copy ks_X1_copy (hH.2.2.2.2.2.2.2 1 (by decide)).1.1 ⟨by decide, rfl⟩ rfl rfl (Nat.le_of_ble_eq_true rfl) ⟨⟨by decide, by decide⟩, by decide, by decide⟩ (fun I40 L41 eI40 eL41 => ?_)
  have q42 : ∀ j, j < 10 → I40 (h + 18 + 20 * 0 + 1) j = (I (S + 1 + 4 * 0 + 1)) j := fun j hj => by rw [eI40, eqFill_ne _ _ _ _ _ (by omega) (by omega)]; exact q24 j hj
  have q43 : ∀ j, j < 10 → I40 (h + 18 + 20 * 0 + 2) j = (I (S + 1 + 4 * 0 + 2)) j := fun j hj => by rw [eI40, eqFill_ne _ _ _ _ _ (by omega) (by omega)]; exact q25 j hj
  have q44 : ∀ j, j < 10 → I40 (h + 18 + 20 * 1 + 1) j = (I (S + 1 + 4 * 1 + 1)) j := fun j hj => by rw [eI40, eqFill_re _ _ _ _ hj]; exact q34 j hj
  have q45 : ∀ j, j < 10 → I40 (h + 18 + 20 * 1 + 2) j = (I (S + 1 + 4 * 1 + 2)) j := fun j hj => by rw [eI40, eqFill_im _ _ _ _ hj]; exact q35 j hj
  have q46 : ∀ j, j < 10 → I40 (h + 22 + 20 * 0 + 1) j = (stRe (if 1 = 1 then tm (sdg I S 0) 0 else tm 0 (sdg I S 0))) j := fun j hj => by rw [eI40, eqFill_ne _ _ _ _ _ (by omega) (by omega)]; exact q28 j hj
  have q47 : ∀ j, j < 10 → I40 (h + 22 + 20 * 0 + 2) j = (fun _ => 0) j := fun j hj => by rw [eI40, eqFill_ne _ _ _ _ _ (by omega) (by omega)]; exact q29 j hj
  have q48 : ∀ j, j < 10 → I40 (h + 22 + 20 * 1 + 1) j = (I (h + 22 + 20 * 1 + 1)) j := fun j hj => by rw [eI40, eqFill_ne _ _ _ _ _ (by omega) (by omega)]; exact q30 j hj
  have q49 : ∀ j, j < 10 → I40 (h + 22 + 20 * 1 + 2) j = (I (h + 22 + 20 * 1 + 2)) j := fun j hj => by rw [eI40, eqFill_ne _ _ _ _ _ (by omega) (by omega)]; exact q31 j hj
  have q50 : ∀ j, j < 10 → I40 (S + 1 + 4 * 0 + 1) j = (I (S + 1 + 4 * 0 + 1)) j := fun j hj => by rw [eI40, eqFill_ne _ _ _ _ _ (by omega) (by omega)]; exact q32 j hj
  have q51 : ∀ j, j < 10 → I40 (S + 1 + 4 * 0 + 2) j = (I (S + 1 + 4 * 0 + 2)) j := fun j hj => by rw [eI40, eqFill_ne _ _ _ _ _ (by omega) (by omega)]; exact q33 j hj
  have q52 : ∀ j, j < 10 → I40 (S + 1 + 4 * 1 + 1) j = (I (S + 1 + 4 * 1 + 1)) j := fun j hj => by rw [eI40, eqFill_ne _ _ _ _ _ (by omega) (by omega)]; exact q34 j hj
  have q53 : ∀ j, j < 10 → I40 (S + 1 + 4 * 1 + 2) j = (I (S + 1 + 4 * 1 + 2)) j := fun j hj => by rw [eI40, eqFill_ne _ _ _ _ _ (by omega) (by omega)]; exact q35 j hj
  have q54 : ∀ j, j < 10 → I40 (S + 9) j = (I (S + 9)) j := fun j hj => by rw [eI40, eqFill_ne _ _ _ _ _ (by omega) (by omega)]; exact q36 j hj
  replace eL41 := eL41.symm; subst eL41
  refine x_aload_n 21 C dX5_aim_21 rfl 1 rfl ?_
  refine x_getr 22 C (b := h + 14) dX5_aim_22 ff_X5_22 rfl hH.1 rfl ?_
  refine x_iload_n 25 C dX5_aim_25 rfl 0 rfl ?_
  refine x_aald 26 C (b := h + 22 + 20 * 1) (j := 1) dX5_aim_26 (by decide) hH.2.2.2.1 ⟨by decide, by decide, by decide⟩ rfl ?_
  refine x_aload_n 27 C dX5_aim_27 rfl 1 rfl ?_
  refine x_getr 28 C (b := h + 13) dX5_aim_28 ff_X5_18 rfl hH.1 rfl ?_
  refine x_iload_n 31 C dX5_aim_31 rfl 0 rfl ?_
  refine x_aald 32 C (b := h + 18 + 20 * 1) (j := 1) dX5_aim_32 (by decide) hH.2.2.1 ⟨by decide, by decide, by decide⟩ rfl ?_
  refine x_callVe 33 C dX5_aim_33 (As := []) (rest := [.ref (h + 22 + 20 * 1)]) [.int (nI (dgN (I40 ((h + 18 + 20 * 1) + 1)) (I40 ((h + 18 + 20 * 1) + 2)) 10)), .ref (h + 22 + 20 * 1)] (t_X1_degree l D z n G I40 L (h + 18 + 20 * 1) (hH.2.2.2.2.2.2.2 1 (by decide)).1) mt_X1_degree km_X5_49 ki_X1_degree ks_X1_degree (hH.2.2.2.2.2.2.2 1 (by decide)).1.1 ⟨by decide, rfl⟩ rfl rfl (Nat.le_of_ble_eq_true rfl) ⟨⟨by decide, by decide⟩, by decide, by decide⟩ (fun I55 L56 eI55 eL56 => ?_)
  replace eI55 := eI55.symm; subst eI55
  replace eL56 := eL56.symm; subst eL56
  refine x_int (nI (sdg I S 1)) (congrArg nI (dgN_congr q44 q45 10 (by decide))) ?_
  refine x_iload_n 36 C dX5_aim_36 rfl 0 rfl ?_
  refine x_if_ne 37 C 44 dX5_aim_37 (by decide) (fun _ => ?_) (fun c57 => absurd c57 (by decide))
  refine x_iconst 44 C (v := 0) dX5_aim_44 rfl ?_
  refine x_callVe 45 C dX5_aim_45 (As := [.int (nI (sdg I S 1)), .int 0]) (rest := []) [] (t_X1_putStart l D z n G I40 L (h + 22 + 20 * 1) (sdg I S 1) 0 (hH.2.2.2.2.2.2.2 1 (by decide)).2.1 (by omega) (by first | assumption | omega) (by first | assumption | omega)) mt_X1_putStart km_X5_53 ki_X1_putStart ks_X1_putStart (hH.2.2.2.2.2.2.2 1 (by decide)).2.1.1 ⟨by decide, rfl⟩ rfl rfl (Nat.le_of_ble_eq_true rfl) ⟨⟨by decide, by decide⟩, by decide, by decide⟩ (fun I58 L59 eI58 eL59 => ?_)
  have q60 : ∀ j, j < 10 → I58 (h + 18 + 20 * 0 + 1) j = (I (S + 1 + 4 * 0 + 1)) j := fun j hj => by rw [eI58, eqFill_ne _ _ _ _ _ (by omega) (by omega)]; exact q42 j hj
  have q61 : ∀ j, j < 10 → I58 (h + 18 + 20 * 0 + 2) j = (I (S + 1 + 4 * 0 + 2)) j := fun j hj => by rw [eI58, eqFill_ne _ _ _ _ _ (by omega) (by omega)]; exact q43 j hj
  have q62 : ∀ j, j < 10 → I58 (h + 18 + 20 * 1 + 1) j = (I (S + 1 + 4 * 1 + 1)) j := fun j hj => by rw [eI58, eqFill_ne _ _ _ _ _ (by omega) (by omega)]; exact q44 j hj
  have q63 : ∀ j, j < 10 → I58 (h + 18 + 20 * 1 + 2) j = (I (S + 1 + 4 * 1 + 2)) j := fun j hj => by rw [eI58, eqFill_ne _ _ _ _ _ (by omega) (by omega)]; exact q45 j hj
  have q64 : ∀ j, j < 10 → I58 (h + 22 + 20 * 0 + 1) j = (stRe (if 1 = 1 then tm (sdg I S 0) 0 else tm 0 (sdg I S 0))) j := fun j hj => by rw [eI58, eqFill_ne _ _ _ _ _ (by omega) (by omega)]; exact q46 j hj
  have q65 : ∀ j, j < 10 → I58 (h + 22 + 20 * 0 + 2) j = (fun _ => 0) j := fun j hj => by rw [eI58, eqFill_ne _ _ _ _ _ (by omega) (by omega)]; exact q47 j hj
  have q66 : ∀ j, j < 10 → I58 (h + 22 + 20 * 1 + 1) j = (stRe (if 0 = 1 then tm (sdg I S 1) 0 else tm 0 (sdg I S 1))) j := fun j hj => by rw [eI58, eqFill_re _ _ _ _ hj]
  have q67 : ∀ j, j < 10 → I58 (h + 22 + 20 * 1 + 2) j = (fun _ => 0) j := fun j hj => by rw [eI58, eqFill_im _ _ _ _ hj]
  have q68 : ∀ j, j < 10 → I58 (S + 1 + 4 * 0 + 1) j = (I (S + 1 + 4 * 0 + 1)) j := fun j hj => by rw [eI58, eqFill_ne _ _ _ _ _ (by omega) (by omega)]; exact q50 j hj
  have q69 : ∀ j, j < 10 → I58 (S + 1 + 4 * 0 + 2) j = (I (S + 1 + 4 * 0 + 2)) j := fun j hj => by rw [eI58, eqFill_ne _ _ _ _ _ (by omega) (by omega)]; exact q51 j hj
  have q70 : ∀ j, j < 10 → I58 (S + 1 + 4 * 1 + 1) j = (I (S + 1 + 4 * 1 + 1)) j := fun j hj => by rw [eI58, eqFill_ne _ _ _ _ _ (by omega) (by omega)]; exact q52 j hj
  have q71 : ∀ j, j < 10 → I58 (S + 1 + 4 * 1 + 2) j = (I (S + 1 + 4 * 1 + 2)) j := fun j hj => by rw [eI58, eqFill_ne _ _ _ _ _ (by omega) (by omega)]; exact q53 j hj
  have q72 : ∀ j, j < 10 → I58 (S + 9) j = (I (S + 9)) j := fun j hj => by rw [eI58, eqFill_ne _ _ _ _ _ (by omega) (by omega)]; exact q54 j hj
  replace eL59 := eL59.symm; subst eL59
  refine x_iinc 48 C [(2, .int 2), (0, .ref h), (1, .ref S)] dX5_aim_48 0 rfl (by decide) (by decide) rfl ?_
  refine x_goto 51 C 2 dX5_aim_51 (by decide) ?_
  refine x_iload_n 2 C dX5_aim_2 rfl 0 rfl ?_
  refine x_iconst 3 C (v := 2) dX5_aim_3 rfl ?_
  refine x_icmp_ge 4 C 54 dX5_aim_4 (by decide) (fun _ => ?_) (fun c73 => absurd (by decide) c73)
  refine x_aload_n 54 C dX5_aim_54 rfl 1 rfl ?_
  refine x_aload_n 55 C dX5_aim_55 rfl 2 rfl ?_
  refine x_bipush 56 C (v := 6) dX5_aim_56 rfl ?_
  refine x_callVe 58 C dX5_aim_58 (As := [.int 6]) (rest := [.ref h]) [.int (I58 (S + 9) 6), .ref h] (t_X9_setting l D z n G I58 L S 6 hS (by first | assumption | omega)) mt_X9_setting km_X5_57 ki_X9_setting ks_X9_setting hS.1 ⟨by decide, rfl⟩ rfl rfl (Nat.le_of_ble_eq_true rfl) ⟨⟨by decide, by decide⟩, by decide, by decide⟩ (fun I74 L75 eI74 eL75 => ?_)
  replace eI74 := eI74.symm; subst eI74
  replace eL75 := eL75.symm; subst eL75
  refine x_int (I (S + 9) 6) (q72 6 (by decide)) ?_
  refine x_puti 61 C dX5_aim_61 ff_X5_61 rfl hH.1 (by omega) (fun I76 eI76 => ?_)
  have q77 : ∀ j, j < 10 → I76 (h + 18 + 20 * 0 + 1) j = (I (S + 1 + 4 * 0 + 1)) j := fun j hj => by rw [eI76, xup_row _ _ (by omega)]; exact q60 j hj
  have q78 : ∀ j, j < 10 → I76 (h + 18 + 20 * 0 + 2) j = (I (S + 1 + 4 * 0 + 2)) j := fun j hj => by rw [eI76, xup_row _ _ (by omega)]; exact q61 j hj
  have q79 : ∀ j, j < 10 → I76 (h + 18 + 20 * 1 + 1) j = (I (S + 1 + 4 * 1 + 1)) j := fun j hj => by rw [eI76, xup_row _ _ (by omega)]; exact q62 j hj
  have q80 : ∀ j, j < 10 → I76 (h + 18 + 20 * 1 + 2) j = (I (S + 1 + 4 * 1 + 2)) j := fun j hj => by rw [eI76, xup_row _ _ (by omega)]; exact q63 j hj
  have q81 : ∀ j, j < 10 → I76 (h + 22 + 20 * 0 + 1) j = (stRe (if 1 = 1 then tm (sdg I S 0) 0 else tm 0 (sdg I S 0))) j := fun j hj => by rw [eI76, xup_row _ _ (by omega)]; exact q64 j hj
  have q82 : ∀ j, j < 10 → I76 (h + 22 + 20 * 0 + 2) j = (fun _ => 0) j := fun j hj => by rw [eI76, xup_row _ _ (by omega)]; exact q65 j hj
  have q83 : ∀ j, j < 10 → I76 (h + 22 + 20 * 1 + 1) j = (stRe (if 0 = 1 then tm (sdg I S 1) 0 else tm 0 (sdg I S 1))) j := fun j hj => by rw [eI76, xup_row _ _ (by omega)]; exact q66 j hj
  have q84 : ∀ j, j < 10 → I76 (h + 22 + 20 * 1 + 2) j = (fun _ => 0) j := fun j hj => by rw [eI76, xup_row _ _ (by omega)]; exact q67 j hj
  have q85 : ∀ j, j < 10 → I76 (S + 1 + 4 * 0 + 1) j = (I (S + 1 + 4 * 0 + 1)) j := fun j hj => by rw [eI76, xup_row _ _ (by omega)]; exact q68 j hj
  have q86 : ∀ j, j < 10 → I76 (S + 1 + 4 * 0 + 2) j = (I (S + 1 + 4 * 0 + 2)) j := fun j hj => by rw [eI76, xup_row _ _ (by omega)]; exact q69 j hj
  have q87 : ∀ j, j < 10 → I76 (S + 1 + 4 * 1 + 1) j = (I (S + 1 + 4 * 1 + 1)) j := fun j hj => by rw [eI76, xup_row _ _ (by omega)]; exact q70 j hj
  have q88 : ∀ j, j < 10 → I76 (S + 1 + 4 * 1 + 2) j = (I (S + 1 + 4 * 1 + 2)) j := fun j hj => by rw [eI76, xup_row _ _ (by omega)]; exact q71 j hj
  have q89 : ∀ j, j < 10 → I76 (S + 9) j = (I (S + 9)) j := fun j hj => by rw [eI76, xup_row _ _ (by omega)]; exact q72 j hj
  refine x_aload_n 64 C dX5_aim_64 rfl 1 rfl ?_
  refine x_aload_n 65 C dX5_aim_65 rfl 2 rfl ?_
  refine x_bipush 66 C (v := 7) dX5_aim_66 rfl ?_
  refine x_callVe 68 C dX5_aim_68 (As := [.int 7]) (rest := [.ref h]) [.int (I76 (S + 9) 7), .ref h] (t_X9_setting l D z n G I76 L S 7 hS (by first | assumption | omega)) mt_X9_setting km_X5_57 ki_X9_setting ks_X9_setting hS.1 ⟨by decide, rfl⟩ rfl rfl (Nat.le_of_ble_eq_true rfl) ⟨⟨by decide, by decide⟩, by decide, by decide⟩ (fun I90 L91 eI90 eL91 => ?_)
  replace eI90 := eI90.symm; subst eI90
  replace eL91 := eL91.symm; subst eL91
  refine x_int (I (S + 9) 7) (q89 7 (by decide)) ?_
  refine x_puti 71 C dX5_aim_71 ff_X5_65 rfl hH.1 (by omega) (fun I92 eI92 => ?_)
  have q93 : ∀ j, j < 10 → I92 (h + 18 + 20 * 0 + 1) j = (I (S + 1 + 4 * 0 + 1)) j := fun j hj => by rw [eI92, xup_row _ _ (by omega)]; exact q77 j hj
  have q94 : ∀ j, j < 10 → I92 (h + 18 + 20 * 0 + 2) j = (I (S + 1 + 4 * 0 + 2)) j := fun j hj => by rw [eI92, xup_row _ _ (by omega)]; exact q78 j hj
  have q95 : ∀ j, j < 10 → I92 (h + 18 + 20 * 1 + 1) j = (I (S + 1 + 4 * 1 + 1)) j := fun j hj => by rw [eI92, xup_row _ _ (by omega)]; exact q79 j hj
  have q96 : ∀ j, j < 10 → I92 (h + 18 + 20 * 1 + 2) j = (I (S + 1 + 4 * 1 + 2)) j := fun j hj => by rw [eI92, xup_row _ _ (by omega)]; exact q80 j hj
  have q97 : ∀ j, j < 10 → I92 (h + 22 + 20 * 0 + 1) j = (stRe (if 1 = 1 then tm (sdg I S 0) 0 else tm 0 (sdg I S 0))) j := fun j hj => by rw [eI92, xup_row _ _ (by omega)]; exact q81 j hj
  have q98 : ∀ j, j < 10 → I92 (h + 22 + 20 * 0 + 2) j = (fun _ => 0) j := fun j hj => by rw [eI92, xup_row _ _ (by omega)]; exact q82 j hj
  have q99 : ∀ j, j < 10 → I92 (h + 22 + 20 * 1 + 1) j = (stRe (if 0 = 1 then tm (sdg I S 1) 0 else tm 0 (sdg I S 1))) j := fun j hj => by rw [eI92, xup_row _ _ (by omega)]; exact q83 j hj
  have q100 : ∀ j, j < 10 → I92 (h + 22 + 20 * 1 + 2) j = (fun _ => 0) j := fun j hj => by rw [eI92, xup_row _ _ (by omega)]; exact q84 j hj
  have q101 : ∀ j, j < 10 → I92 (S + 1 + 4 * 0 + 1) j = (I (S + 1 + 4 * 0 + 1)) j := fun j hj => by rw [eI92, xup_row _ _ (by omega)]; exact q85 j hj
  have q102 : ∀ j, j < 10 → I92 (S + 1 + 4 * 0 + 2) j = (I (S + 1 + 4 * 0 + 2)) j := fun j hj => by rw [eI92, xup_row _ _ (by omega)]; exact q86 j hj
  have q103 : ∀ j, j < 10 → I92 (S + 1 + 4 * 1 + 1) j = (I (S + 1 + 4 * 1 + 1)) j := fun j hj => by rw [eI92, xup_row _ _ (by omega)]; exact q87 j hj
  have q104 : ∀ j, j < 10 → I92 (S + 1 + 4 * 1 + 2) j = (I (S + 1 + 4 * 1 + 2)) j := fun j hj => by rw [eI92, xup_row _ _ (by omega)]; exact q88 j hj
  have q105 : ∀ j, j < 10 → I92 (S + 9) j = (I (S + 9)) j := fun j hj => by rw [eI92, xup_row _ _ (by omega)]; exact q89 j hj
  refine x_vret 74 C dX5_aim_74 rfl (Nat.le_refl _) (xN.intro ?_)
  refine ⟨rfl, rfl, ⟨fun j hj => ⟨q93 j hj, q94 j hj⟩, fun j hj => ⟨q95 j hj, q96 j hj⟩, fun j hj => ⟨q97 j hj, q98 j hj⟩, fun j hj => ⟨q99 j hj, q100 j hj⟩, ?_, ?_⟩, fun a ha => ?_⟩
  · simp [eI76, eI92, xup]
  · simp [eI76, eI92, xup]
  · rw [eI92, xup_row _ _ (by omega)]; rw [eI76, xup_row _ _ (by omega)]; rw [eI58, eqFill_ne _ _ _ _ _ (by omega) (by omega)]; rw [eI40, eqFill_ne _ _ _ _ _ (by omega) (by omega)]; rw [eI22, eqFill_ne _ _ _ _ _ (by omega) (by omega)]; rw [eI4, eqFill_ne _ _ _ _ _ (by omega) (by omega)]
theorem dX5_end_0 : decode cX5_end 0 = .ok (.aload_n 0, 1) := by decide +kernel
theorem dX5_end_1 : decode cX5_end 1 = .ok (.getfield 27, 3) := by decide +kernel
theorem dX5_end_4 : decode cX5_end 4 = .ok (.iload_n 1, 1) := by decide +kernel
theorem dX5_end_5 : decode cX5_end 5 = .ok (.iconst 1, 1) := by decide +kernel
theorem dX5_end_6 : decode cX5_end 6 = .ok (.if_icmp .ne 7, 3) := by decide +kernel
theorem dX5_end_9 : decode cX5_end 9 = .ok (.iconst 1, 1) := by decide +kernel
theorem dX5_end_10 : decode cX5_end 10 = .ok (.goto 4, 3) := by decide +kernel
theorem dX5_end_13 : decode cX5_end 13 = .ok (.iconst 0, 1) := by decide +kernel
theorem dX5_end_14 : decode cX5_end 14 = .ok (.aaload, 1) := by decide +kernel
theorem dX5_end_15 : decode cX5_end 15 = .ok (.areturn, 1) := by decide +kernel
set_option maxHeartbeats 4000000 in
set_option maxRecDepth 100000 in
theorem t_X5_end (l : Launch) (D : xD) (z n : Nat) (G : xG) (I : xI) (L : xL) (h : Nat) (e0 : Nat) (hH : shH G h) (he : e0 < 2) : xM0 l D z yX5_end cX5_end 2 (some (.object "PathTracker$Tangent")) 0 0 [.ref h, .int (nI e0)] n G I L (xE (some (.ref (h + 26 + 20 * e0))) I L) := by
  refine xM.of (by decide) (Nat.le_of_ble_eq_true rfl) (fun p e s m args below meth c C hnm hsz => ?_)
  refine x_lv [(0, .ref h), (1, .int (nI e0))] rfl ?_
  rcases (show e0 = 0 ∨ e0 = 1 by omega) with rfl | rfl
  · skip
    refine x_aload_n 0 C dX5_end_0 rfl 0 rfl ?_
    refine x_getr 1 C (b := h + 15) dX5_end_1 ff_X5_27 rfl hH.1 rfl ?_
    refine x_iload_n 4 C dX5_end_4 rfl 1 rfl ?_
    refine x_iconst 5 C (v := 1) dX5_end_5 rfl ?_
    refine x_icmp_ne 6 C 13 dX5_end_6 (by decide) (fun _ => ?_) (fun c1 => absurd c1 (by decide))
    refine x_iconst 13 C (v := 0) dX5_end_13 rfl ?_
    refine x_aald 14 C (b := h + 26 + 20 * 0) (j := 0) dX5_end_14 (by decide) hH.2.2.2.2.1 ⟨by decide, by decide, by decide⟩ rfl ?_
    refine x_aret 15 C dX5_end_15 rfl (Or.inl ⟨_, rfl⟩) (Nat.le_refl _) (xN.intro ?_)
    exact ⟨rfl, rfl, rfl⟩
  · skip
    refine x_aload_n 0 C dX5_end_0 rfl 0 rfl ?_
    refine x_getr 1 C (b := h + 15) dX5_end_1 ff_X5_27 rfl hH.1 rfl ?_
    refine x_iload_n 4 C dX5_end_4 rfl 1 rfl ?_
    refine x_iconst 5 C (v := 1) dX5_end_5 rfl ?_
    refine x_icmp_ne 6 C 13 dX5_end_6 (by decide) (fun c2 => absurd (by decide) c2) (fun _ => ?_)
    refine x_iconst 9 C (v := 1) dX5_end_9 rfl ?_
    refine x_goto 10 C 14 dX5_end_10 (by decide) ?_
    refine x_aald 14 C (b := h + 26 + 20 * 1) (j := 1) dX5_end_14 (by decide) hH.2.2.2.2.1 ⟨by decide, by decide, by decide⟩ rfl ?_
    refine x_aret 15 C dX5_end_15 rfl (Or.inl ⟨_, rfl⟩) (Nat.le_refl _) (xN.intro ?_)
    exact ⟨rfl, rfl, rfl⟩
theorem dX5_begin_0 : decode cX5_begin 0 = .ok (.aload_n 0, 1) := by decide +kernel
theorem dX5_begin_1 : decode cX5_begin 1 = .ok (.getfield 31, 3) := by decide +kernel
theorem dX5_begin_4 : decode cX5_begin 4 = .ok (.iload_n 1, 1) := by decide +kernel
theorem dX5_begin_5 : decode cX5_begin 5 = .ok (.iconst 1, 1) := by decide +kernel
theorem dX5_begin_6 : decode cX5_begin 6 = .ok (.if_icmp .ne 7, 3) := by decide +kernel
theorem dX5_begin_9 : decode cX5_begin 9 = .ok (.iconst 1, 1) := by decide +kernel
theorem dX5_begin_10 : decode cX5_begin 10 = .ok (.goto 4, 3) := by decide +kernel
theorem dX5_begin_13 : decode cX5_begin 13 = .ok (.iconst 0, 1) := by decide +kernel
theorem dX5_begin_14 : decode cX5_begin 14 = .ok (.aaload, 1) := by decide +kernel
theorem dX5_begin_15 : decode cX5_begin 15 = .ok (.areturn, 1) := by decide +kernel
set_option maxHeartbeats 4000000 in
set_option maxRecDepth 100000 in
theorem t_X5_begin (l : Launch) (D : xD) (z n : Nat) (G : xG) (I : xI) (L : xL) (h : Nat) (e0 : Nat) (hH : shH G h) (he : e0 < 2) : xM0 l D z yX5_begin cX5_begin 2 (some (.object "PathTracker$Tangent")) 0 0 [.ref h, .int (nI e0)] n G I L (xE (some (.ref (h + 30 + 20 * e0))) I L) := by
  refine xM.of (by decide) (Nat.le_of_ble_eq_true rfl) (fun p e s m args below meth c C hnm hsz => ?_)
  refine x_lv [(0, .ref h), (1, .int (nI e0))] rfl ?_
  rcases (show e0 = 0 ∨ e0 = 1 by omega) with rfl | rfl
  · skip
    refine x_aload_n 0 C dX5_begin_0 rfl 0 rfl ?_
    refine x_getr 1 C (b := h + 16) dX5_begin_1 ff_X5_31 rfl hH.1 rfl ?_
    refine x_iload_n 4 C dX5_begin_4 rfl 1 rfl ?_
    refine x_iconst 5 C (v := 1) dX5_begin_5 rfl ?_
    refine x_icmp_ne 6 C 13 dX5_begin_6 (by decide) (fun _ => ?_) (fun c1 => absurd c1 (by decide))
    refine x_iconst 13 C (v := 0) dX5_begin_13 rfl ?_
    refine x_aald 14 C (b := h + 30 + 20 * 0) (j := 0) dX5_begin_14 (by decide) hH.2.2.2.2.2.1 ⟨by decide, by decide, by decide⟩ rfl ?_
    refine x_aret 15 C dX5_begin_15 rfl (Or.inl ⟨_, rfl⟩) (Nat.le_refl _) (xN.intro ?_)
    exact ⟨rfl, rfl, rfl⟩
  · skip
    refine x_aload_n 0 C dX5_begin_0 rfl 0 rfl ?_
    refine x_getr 1 C (b := h + 16) dX5_begin_1 ff_X5_31 rfl hH.1 rfl ?_
    refine x_iload_n 4 C dX5_begin_4 rfl 1 rfl ?_
    refine x_iconst 5 C (v := 1) dX5_begin_5 rfl ?_
    refine x_icmp_ne 6 C 13 dX5_begin_6 (by decide) (fun c2 => absurd (by decide) c2) (fun _ => ?_)
    refine x_iconst 9 C (v := 1) dX5_begin_9 rfl ?_
    refine x_goto 10 C 14 dX5_begin_10 (by decide) ?_
    refine x_aald 14 C (b := h + 30 + 20 * 1) (j := 1) dX5_begin_14 (by decide) hH.2.2.2.2.2.1 ⟨by decide, by decide, by decide⟩ rfl ?_
    refine x_aret 15 C dX5_begin_15 rfl (Or.inl ⟨_, rfl⟩) (Nat.le_refl _) (xN.intro ?_)
    exact ⟨rfl, rfl, rfl⟩
theorem dX5_mix_0 : decode cX5_mix 0 = .ok (.aload_n 0, 1) := by decide +kernel
theorem dX5_mix_1 : decode cX5_mix 1 = .ok (.getfield 34, 3) := by decide +kernel
theorem dX5_mix_4 : decode cX5_mix 4 = .ok (.iload_n 1, 1) := by decide +kernel
theorem dX5_mix_5 : decode cX5_mix 5 = .ok (.iconst 1, 1) := by decide +kernel
theorem dX5_mix_6 : decode cX5_mix 6 = .ok (.if_icmp .ne 7, 3) := by decide +kernel
theorem dX5_mix_9 : decode cX5_mix 9 = .ok (.iconst 1, 1) := by decide +kernel
theorem dX5_mix_10 : decode cX5_mix 10 = .ok (.goto 4, 3) := by decide +kernel
theorem dX5_mix_13 : decode cX5_mix 13 = .ok (.iconst 0, 1) := by decide +kernel
theorem dX5_mix_14 : decode cX5_mix 14 = .ok (.aaload, 1) := by decide +kernel
theorem dX5_mix_15 : decode cX5_mix 15 = .ok (.areturn, 1) := by decide +kernel
set_option maxHeartbeats 4000000 in
set_option maxRecDepth 100000 in
theorem t_X5_mix (l : Launch) (D : xD) (z n : Nat) (G : xG) (I : xI) (L : xL) (h : Nat) (e0 : Nat) (hH : shH G h) (he : e0 < 2) : xM0 l D z yX5_mix cX5_mix 2 (some (.object "PathTracker$Tangent")) 0 0 [.ref h, .int (nI e0)] n G I L (xE (some (.ref (h + 34 + 20 * e0))) I L) := by
  refine xM.of (by decide) (Nat.le_of_ble_eq_true rfl) (fun p e s m args below meth c C hnm hsz => ?_)
  refine x_lv [(0, .ref h), (1, .int (nI e0))] rfl ?_
  rcases (show e0 = 0 ∨ e0 = 1 by omega) with rfl | rfl
  · skip
    refine x_aload_n 0 C dX5_mix_0 rfl 0 rfl ?_
    refine x_getr 1 C (b := h + 17) dX5_mix_1 ff_X5_34 rfl hH.1 rfl ?_
    refine x_iload_n 4 C dX5_mix_4 rfl 1 rfl ?_
    refine x_iconst 5 C (v := 1) dX5_mix_5 rfl ?_
    refine x_icmp_ne 6 C 13 dX5_mix_6 (by decide) (fun _ => ?_) (fun c1 => absurd c1 (by decide))
    refine x_iconst 13 C (v := 0) dX5_mix_13 rfl ?_
    refine x_aald 14 C (b := h + 34 + 20 * 0) (j := 0) dX5_mix_14 (by decide) hH.2.2.2.2.2.2.1 ⟨by decide, by decide, by decide⟩ rfl ?_
    refine x_aret 15 C dX5_mix_15 rfl (Or.inl ⟨_, rfl⟩) (Nat.le_refl _) (xN.intro ?_)
    exact ⟨rfl, rfl, rfl⟩
  · skip
    refine x_aload_n 0 C dX5_mix_0 rfl 0 rfl ?_
    refine x_getr 1 C (b := h + 17) dX5_mix_1 ff_X5_34 rfl hH.1 rfl ?_
    refine x_iload_n 4 C dX5_mix_4 rfl 1 rfl ?_
    refine x_iconst 5 C (v := 1) dX5_mix_5 rfl ?_
    refine x_icmp_ne 6 C 13 dX5_mix_6 (by decide) (fun c2 => absurd (by decide) c2) (fun _ => ?_)
    refine x_iconst 9 C (v := 1) dX5_mix_9 rfl ?_
    refine x_goto 10 C 14 dX5_mix_10 (by decide) ?_
    refine x_aald 14 C (b := h + 34 + 20 * 1) (j := 1) dX5_mix_14 (by decide) hH.2.2.2.2.2.2.1 ⟨by decide, by decide, by decide⟩ rfl ?_
    refine x_aret 15 C dX5_mix_15 rfl (Or.inl ⟨_, rfl⟩) (Nat.le_refl _) (xN.intro ?_)
    exact ⟨rfl, rfl, rfl⟩
theorem dX5_evaluate_0 : decode cX5_evaluate 0 = .ok (.aload_n 0, 1) := by decide +kernel
theorem dX5_evaluate_1 : decode cX5_evaluate 1 = .ok (.getfield 10, 3) := by decide +kernel
theorem dX5_evaluate_4 : decode cX5_evaluate 4 = .ok (.aload_n 1, 1) := by decide +kernel
theorem dX5_evaluate_5 : decode cX5_evaluate 5 = .ok (.aload_n 2, 1) := by decide +kernel
theorem dX5_evaluate_6 : decode cX5_evaluate 6 = .ok (.lload 4, 2) := by decide +kernel
theorem dX5_evaluate_8 : decode cX5_evaluate 8 = .ok (.invokevirtual 68, 3) := by decide +kernel
theorem dX5_evaluate_11 : decode cX5_evaluate 11 = .ok (.iconst 0, 1) := by decide +kernel
theorem dX5_evaluate_12 : decode cX5_evaluate 12 = .ok (.istore 6, 2) := by decide +kernel
theorem dX5_evaluate_14 : decode cX5_evaluate 14 = .ok (.iload 6, 2) := by decide +kernel
theorem dX5_evaluate_16 : decode cX5_evaluate 16 = .ok (.iconst 2, 1) := by decide +kernel
theorem dX5_evaluate_17 : decode cX5_evaluate 17 = .ok (.if_icmp .ge 103, 3) := by decide +kernel
theorem dX5_evaluate_20 : decode cX5_evaluate 20 = .ok (.aload_n 0, 1) := by decide +kernel
theorem dX5_evaluate_21 : decode cX5_evaluate 21 = .ok (.getfield 18, 3) := by decide +kernel
theorem dX5_evaluate_24 : decode cX5_evaluate 24 = .ok (.iload 6, 2) := by decide +kernel
theorem dX5_evaluate_26 : decode cX5_evaluate 26 = .ok (.aaload, 1) := by decide +kernel
theorem dX5_evaluate_27 : decode cX5_evaluate 27 = .ok (.aload_n 0, 1) := by decide +kernel
theorem dX5_evaluate_28 : decode cX5_evaluate 28 = .ok (.getfield 10, 3) := by decide +kernel
theorem dX5_evaluate_31 : decode cX5_evaluate 31 = .ok (.aload_n 0, 1) := by decide +kernel
theorem dX5_evaluate_32 : decode cX5_evaluate 32 = .ok (.getfield 27, 3) := by decide +kernel
theorem dX5_evaluate_35 : decode cX5_evaluate 35 = .ok (.iload 6, 2) := by decide +kernel
theorem dX5_evaluate_37 : decode cX5_evaluate 37 = .ok (.aaload, 1) := by decide +kernel
theorem dX5_evaluate_38 : decode cX5_evaluate 38 = .ok (.invokevirtual 72, 3) := by decide +kernel
theorem dX5_evaluate_41 : decode cX5_evaluate 41 = .ok (.aload_n 0, 1) := by decide +kernel
theorem dX5_evaluate_42 : decode cX5_evaluate 42 = .ok (.getfield 22, 3) := by decide +kernel
theorem dX5_evaluate_45 : decode cX5_evaluate 45 = .ok (.iload 6, 2) := by decide +kernel
theorem dX5_evaluate_47 : decode cX5_evaluate 47 = .ok (.aaload, 1) := by decide +kernel
theorem dX5_evaluate_48 : decode cX5_evaluate 48 = .ok (.aload_n 0, 1) := by decide +kernel
theorem dX5_evaluate_49 : decode cX5_evaluate 49 = .ok (.getfield 10, 3) := by decide +kernel
theorem dX5_evaluate_52 : decode cX5_evaluate 52 = .ok (.aload_n 0, 1) := by decide +kernel
theorem dX5_evaluate_53 : decode cX5_evaluate 53 = .ok (.getfield 31, 3) := by decide +kernel
theorem dX5_evaluate_56 : decode cX5_evaluate 56 = .ok (.iload 6, 2) := by decide +kernel
theorem dX5_evaluate_58 : decode cX5_evaluate 58 = .ok (.aaload, 1) := by decide +kernel
theorem dX5_evaluate_59 : decode cX5_evaluate 59 = .ok (.invokevirtual 72, 3) := by decide +kernel
theorem dX5_evaluate_62 : decode cX5_evaluate 62 = .ok (.aload_n 0, 1) := by decide +kernel
theorem dX5_evaluate_63 : decode cX5_evaluate 63 = .ok (.getfield 31, 3) := by decide +kernel
theorem dX5_evaluate_66 : decode cX5_evaluate 66 = .ok (.iload 6, 2) := by decide +kernel
theorem dX5_evaluate_68 : decode cX5_evaluate 68 = .ok (.aaload, 1) := by decide +kernel
theorem dX5_evaluate_69 : decode cX5_evaluate 69 = .ok (.aload_n 0, 1) := by decide +kernel
theorem dX5_evaluate_70 : decode cX5_evaluate 70 = .ok (.getfield 61, 3) := by decide +kernel
theorem dX5_evaluate_73 : decode cX5_evaluate 73 = .ok (.i2l, 1) := by decide +kernel
theorem dX5_evaluate_74 : decode cX5_evaluate 74 = .ok (.aload_n 0, 1) := by decide +kernel
theorem dX5_evaluate_75 : decode cX5_evaluate 75 = .ok (.getfield 65, 3) := by decide +kernel
theorem dX5_evaluate_78 : decode cX5_evaluate 78 = .ok (.i2l, 1) := by decide +kernel
theorem dX5_evaluate_79 : decode cX5_evaluate 79 = .ok (.invokevirtual 76, 3) := by decide +kernel
theorem dX5_evaluate_82 : decode cX5_evaluate 82 = .ok (.aload_n 0, 1) := by decide +kernel
theorem dX5_evaluate_83 : decode cX5_evaluate 83 = .ok (.getfield 34, 3) := by decide +kernel
theorem dX5_evaluate_86 : decode cX5_evaluate 86 = .ok (.iload 6, 2) := by decide +kernel
theorem dX5_evaluate_88 : decode cX5_evaluate 88 = .ok (.aaload, 1) := by decide +kernel
theorem dX5_evaluate_89 : decode cX5_evaluate 89 = .ok (.aload_n 0, 1) := by decide +kernel
theorem dX5_evaluate_90 : decode cX5_evaluate 90 = .ok (.getfield 31, 3) := by decide +kernel
theorem dX5_evaluate_93 : decode cX5_evaluate 93 = .ok (.iload 6, 2) := by decide +kernel
theorem dX5_evaluate_95 : decode cX5_evaluate 95 = .ok (.aaload, 1) := by decide +kernel
theorem dX5_evaluate_96 : decode cX5_evaluate 96 = .ok (.sipush 1024, 3) := by decide +kernel
theorem dX5_evaluate_99 : decode cX5_evaluate 99 = .ok (.iload_n 3, 1) := by decide +kernel
theorem dX5_evaluate_100 : decode cX5_evaluate 100 = .ok (.isub, 1) := by decide +kernel
theorem dX5_evaluate_101 : decode cX5_evaluate 101 = .ok (.i2l, 1) := by decide +kernel
theorem dX5_evaluate_102 : decode cX5_evaluate 102 = .ok (.aload_n 0, 1) := by decide +kernel
theorem dX5_evaluate_103 : decode cX5_evaluate 103 = .ok (.getfield 27, 3) := by decide +kernel
theorem dX5_evaluate_106 : decode cX5_evaluate 106 = .ok (.iload 6, 2) := by decide +kernel
theorem dX5_evaluate_108 : decode cX5_evaluate 108 = .ok (.aaload, 1) := by decide +kernel
theorem dX5_evaluate_109 : decode cX5_evaluate 109 = .ok (.iload_n 3, 1) := by decide +kernel
theorem dX5_evaluate_110 : decode cX5_evaluate 110 = .ok (.i2l, 1) := by decide +kernel
theorem dX5_evaluate_111 : decode cX5_evaluate 111 = .ok (.invokevirtual 82, 3) := by decide +kernel
theorem dX5_evaluate_114 : decode cX5_evaluate 114 = .ok (.iinc 6 1, 3) := by decide +kernel
theorem dX5_evaluate_117 : decode cX5_evaluate 117 = .ok (.goto (-103), 3) := by decide +kernel
theorem dX5_evaluate_120 : decode cX5_evaluate 120 = .ok (.return_, 1) := by decide +kernel
set_option maxHeartbeats 4000000 in
set_option maxRecDepth 100000 in
theorem t_X5_evaluate (l : Launch) (D : xD) (z n : Nat) (G : xG) (I : xI) (L : xL) (h : Nat) (x : Nat) (y : Nat) (P : Nat) (u : Int64) (cr0 : Nat → Int32) (ci0 : Nat → Int32) (cr1 : Nat → Int32) (ci1 : Nat → Int32) (m0 : Nat) (m1 : Nat) (gr : Int32) (gi : Int32) (hH : shH G h) (gx : G x = some (0, 0, rN)) (gy : G y = some (0, 0, rN)) (zh : z ≤ h) (dx : x < h ∨ h + 58 ≤ x) (dy : y < h ∨ h + 58 ≤ y) (hP : P ≤ 1024) (hu : ¬ u = 0) (hA : aimed I h cr0 ci0 cr1 ci1 m0 m1 gr gi) : xM0 l D z yX5_evaluate cX5_evaluate 7 none 3 78 [.ref h, .ref x, .ref y, .int (nI P), .long u] n G I L (fun v' I' L' => v' = none ∧ I' = I ∧ (rd L' (h + 26 + 20 * 0 + 1) = evV cr0 ci0 (powC (rd L x) (rd L y) u) 10) ∧ (rd L' (h + 26 + 20 * 0 + 2) = evX cr0 ci0 (powC (rd L x) (rd L y) u) 10) ∧ (rd L' (h + 26 + 20 * 0 + 3) = evY cr0 ci0 (powC (rd L x) (rd L y) u) 10) ∧ (rd L' (h + 30 + 20 * 0 + 1) = sB evV m0 gr gi (rd L x) (rd L y) u) ∧ (rd L' (h + 30 + 20 * 0 + 2) = sB evX m0 gr gi (rd L x) (rd L y) u) ∧ (rd L' (h + 30 + 20 * 0 + 3) = sB evY m0 gr gi (rd L x) (rd L y) u) ∧ (rd L' (h + 34 + 20 * 0 + 1) = sM evV cr0 ci0 m0 gr gi P (rd L x) (rd L y) u) ∧ (rd L' (h + 34 + 20 * 0 + 2) = sM evX cr0 ci0 m0 gr gi P (rd L x) (rd L y) u) ∧ (rd L' (h + 34 + 20 * 0 + 3) = sM evY cr0 ci0 m0 gr gi P (rd L x) (rd L y) u) ∧ (rd L' (h + 26 + 20 * 1 + 1) = evV cr1 ci1 (powC (rd L x) (rd L y) u) 10) ∧ (rd L' (h + 26 + 20 * 1 + 2) = evX cr1 ci1 (powC (rd L x) (rd L y) u) 10) ∧ (rd L' (h + 26 + 20 * 1 + 3) = evY cr1 ci1 (powC (rd L x) (rd L y) u) 10) ∧ (rd L' (h + 30 + 20 * 1 + 1) = sB evV m1 gr gi (rd L x) (rd L y) u) ∧ (rd L' (h + 30 + 20 * 1 + 2) = sB evX m1 gr gi (rd L x) (rd L y) u) ∧ (rd L' (h + 30 + 20 * 1 + 3) = sB evY m1 gr gi (rd L x) (rd L y) u) ∧ (rd L' (h + 34 + 20 * 1 + 1) = sM evV cr1 ci1 m1 gr gi P (rd L x) (rd L y) u) ∧ (rd L' (h + 34 + 20 * 1 + 2) = sM evX cr1 ci1 m1 gr gi P (rd L x) (rd L y) u) ∧ (rd L' (h + 34 + 20 * 1 + 3) = sM evY cr1 ci1 m1 gr gi P (rd L x) (rd L y) u) ∧ (∀ a, (a < h ∨ h + 58 ≤ a) → L' a = L a)) := by
  refine xM.of (by decide) (Nat.le_of_ble_eq_true rfl) (fun p e s m args below meth c C hnm hsz => ?_)
  refine x_lv [(0, .ref h), (1, .ref x), (2, .ref y), (3, .int (nI P)), (4, .long u)] rfl ?_
  refine x_aload_n 0 C dX5_evaluate_0 rfl 0 rfl ?_
  refine x_getr 1 C (b := h + 1) dX5_evaluate_1 ff_X5_10 rfl hH.1 rfl ?_
  refine x_aload_n 4 C dX5_evaluate_4 rfl 1 rfl ?_
  refine x_aload_n 5 C dX5_evaluate_5 rfl 2 rfl ?_
  refine x_lload 6 C dX5_evaluate_6 4 rfl ?_
  refine x_callVp 8 C dX5_evaluate_8 (As := [.ref x, .ref y, .long u]) (rest := []) (t_X7_fill l D z n G I L (h + 1) x y u hH.2.1 gx gy (by omega) (by first | assumption | omega) (by first | assumption | omega) (by first | assumption | omega)) mt_X7_fill km_X5_68 ki_X7_fill ks_X7_fill hH.2.1.1 ⟨by decide, rfl⟩ rfl (Nat.le_of_ble_eq_true rfl) ⟨⟨by decide, by decide⟩, by decide, by decide⟩ (fun w1 I2 L3 hw1 => ?_)
  obtain ⟨hw1v, eI2, hw1r0, hw1r1⟩ := hw1
  subst hw1v
  refine x_st [] rfl ?_
  replace eI2 := eI2.symm; subst eI2
  have k4 : rd L3 (h + 26 + 20 * 0 + 1) = rd L (h + 26 + 20 * 0 + 1) := (rd_congr (hw1r1 (h + 26 + 20 * 0 + 1) (by omega))).trans rfl
  have k5 : rd L3 (h + 26 + 20 * 0 + 2) = rd L (h + 26 + 20 * 0 + 2) := (rd_congr (hw1r1 (h + 26 + 20 * 0 + 2) (by omega))).trans rfl
  have k6 : rd L3 (h + 26 + 20 * 0 + 3) = rd L (h + 26 + 20 * 0 + 3) := (rd_congr (hw1r1 (h + 26 + 20 * 0 + 3) (by omega))).trans rfl
  have k7 : rd L3 (h + 30 + 20 * 0 + 1) = rd L (h + 30 + 20 * 0 + 1) := (rd_congr (hw1r1 (h + 30 + 20 * 0 + 1) (by omega))).trans rfl
  have k8 : rd L3 (h + 30 + 20 * 0 + 2) = rd L (h + 30 + 20 * 0 + 2) := (rd_congr (hw1r1 (h + 30 + 20 * 0 + 2) (by omega))).trans rfl
  have k9 : rd L3 (h + 30 + 20 * 0 + 3) = rd L (h + 30 + 20 * 0 + 3) := (rd_congr (hw1r1 (h + 30 + 20 * 0 + 3) (by omega))).trans rfl
  have k10 : rd L3 (h + 34 + 20 * 0 + 1) = rd L (h + 34 + 20 * 0 + 1) := (rd_congr (hw1r1 (h + 34 + 20 * 0 + 1) (by omega))).trans rfl
  have k11 : rd L3 (h + 34 + 20 * 0 + 2) = rd L (h + 34 + 20 * 0 + 2) := (rd_congr (hw1r1 (h + 34 + 20 * 0 + 2) (by omega))).trans rfl
  have k12 : rd L3 (h + 34 + 20 * 0 + 3) = rd L (h + 34 + 20 * 0 + 3) := (rd_congr (hw1r1 (h + 34 + 20 * 0 + 3) (by omega))).trans rfl
  have k13 : rd L3 (h + 26 + 20 * 1 + 1) = rd L (h + 26 + 20 * 1 + 1) := (rd_congr (hw1r1 (h + 26 + 20 * 1 + 1) (by omega))).trans rfl
  have k14 : rd L3 (h + 26 + 20 * 1 + 2) = rd L (h + 26 + 20 * 1 + 2) := (rd_congr (hw1r1 (h + 26 + 20 * 1 + 2) (by omega))).trans rfl
  have k15 : rd L3 (h + 26 + 20 * 1 + 3) = rd L (h + 26 + 20 * 1 + 3) := (rd_congr (hw1r1 (h + 26 + 20 * 1 + 3) (by omega))).trans rfl
  have k16 : rd L3 (h + 30 + 20 * 1 + 1) = rd L (h + 30 + 20 * 1 + 1) := (rd_congr (hw1r1 (h + 30 + 20 * 1 + 1) (by omega))).trans rfl
  have k17 : rd L3 (h + 30 + 20 * 1 + 2) = rd L (h + 30 + 20 * 1 + 2) := (rd_congr (hw1r1 (h + 30 + 20 * 1 + 2) (by omega))).trans rfl
  have k18 : rd L3 (h + 30 + 20 * 1 + 3) = rd L (h + 30 + 20 * 1 + 3) := (rd_congr (hw1r1 (h + 30 + 20 * 1 + 3) (by omega))).trans rfl
  have k19 : rd L3 (h + 34 + 20 * 1 + 1) = rd L (h + 34 + 20 * 1 + 1) := (rd_congr (hw1r1 (h + 34 + 20 * 1 + 1) (by omega))).trans rfl
  have k20 : rd L3 (h + 34 + 20 * 1 + 2) = rd L (h + 34 + 20 * 1 + 2) := (rd_congr (hw1r1 (h + 34 + 20 * 1 + 2) (by omega))).trans rfl
  have k21 : rd L3 (h + 34 + 20 * 1 + 3) = rd L (h + 34 + 20 * 1 + 3) := (rd_congr (hw1r1 (h + 34 + 20 * 1 + 3) (by omega))).trans rfl
  refine x_iconst 11 C (v := 0) dX5_evaluate_11 rfl ?_
  refine x_istore 12 C [(6, .int 0), (0, .ref h), (1, .ref x), (2, .ref y), (3, .int (nI P)), (4, .long u)] dX5_evaluate_12 (by decide) rfl ?_
  refine x_iload 14 C dX5_evaluate_14 0 rfl ?_
  refine x_iconst 16 C (v := 2) dX5_evaluate_16 rfl ?_
  refine x_icmp_ge 17 C 120 dX5_evaluate_17 (by decide) (fun c22 => absurd c22 (by decide)) (fun _ => ?_)
  refine x_aload_n 20 C dX5_evaluate_20 rfl 1 rfl ?_
  refine x_getr 21 C (b := h + 13) dX5_evaluate_21 ff_X5_18 rfl hH.1 rfl ?_
  refine x_iload 24 C dX5_evaluate_24 0 rfl ?_
  refine x_aald 26 C (b := h + 18 + 20 * 0) (j := 0) dX5_evaluate_26 (by decide) hH.2.2.1 ⟨by decide, by decide, by decide⟩ rfl ?_
  refine x_aload_n 27 C dX5_evaluate_27 rfl 1 rfl ?_
  refine x_getr 28 C (b := h + 1) dX5_evaluate_28 ff_X5_10 rfl hH.1 rfl ?_
  refine x_aload_n 31 C dX5_evaluate_31 rfl 1 rfl ?_
  refine x_getr 32 C (b := h + 15) dX5_evaluate_32 ff_X5_27 rfl hH.1 rfl ?_
  refine x_iload 35 C dX5_evaluate_35 0 rfl ?_
  refine x_aald 37 C (b := h + 26 + 20 * 0) (j := 0) dX5_evaluate_37 (by decide) hH.2.2.2.2.1 ⟨by decide, by decide, by decide⟩ rfl ?_
  refine x_callVp 38 C dX5_evaluate_38 (As := [.ref (h + 1), .ref (h + 26 + 20 * 0)]) (rest := []) (t_X1_evaluate l D z n G I L3 (h + 18 + 20 * 0) (h + 1) (h + 26 + 20 * 0) (powC (rd L x) (rd L y) u) (hH.2.2.2.2.2.2.2 0 (by decide)).1 hH.2.1 (hH.2.2.2.2.2.2.2 0 (by decide)).2.2.1 (by omega) (by omega) (by first | assumption | omega) (by first | assumption | omega) (by first | assumption | omega) (fun k hk => (rd_congr (show L3 (h + 1 + 2 + k) = L3 (h + 1 + 2 + k) by rfl)).trans (hw1r0 k hk))) mt_X1_evaluate km_X5_72 ki_X1_evaluate ks_X1_evaluate (hH.2.2.2.2.2.2.2 0 (by decide)).1.1 ⟨by decide, rfl⟩ rfl (Nat.le_of_ble_eq_true rfl) ⟨⟨by decide, by decide⟩, by decide, by decide⟩ (fun w23 I24 L25 hw23 => ?_)
  obtain ⟨hw23v, eI24, hw23r0, hw23r1, hw23r2, hw23r3⟩ := hw23
  subst hw23v
  refine x_st [] rfl ?_
  replace eI24 := eI24.symm; subst eI24
  have k26 : rd L25 (h + 26 + 20 * 0 + 1) = evV (I ((h + 18 + 20 * 0) + 1)) (I ((h + 18 + 20 * 0) + 2)) (powC (rd L x) (rd L y) u) 10 := hw23r0
  have k27 : rd L25 (h + 26 + 20 * 0 + 2) = evX (I ((h + 18 + 20 * 0) + 1)) (I ((h + 18 + 20 * 0) + 2)) (powC (rd L x) (rd L y) u) 10 := hw23r1
  have k28 : rd L25 (h + 26 + 20 * 0 + 3) = evY (I ((h + 18 + 20 * 0) + 1)) (I ((h + 18 + 20 * 0) + 2)) (powC (rd L x) (rd L y) u) 10 := hw23r2
  have k29 : rd L25 (h + 30 + 20 * 0 + 1) = rd L (h + 30 + 20 * 0 + 1) := (rd_congr (hw23r3 (h + 30 + 20 * 0 + 1) (by omega) (by omega))).trans k7
  have k30 : rd L25 (h + 30 + 20 * 0 + 2) = rd L (h + 30 + 20 * 0 + 2) := (rd_congr (hw23r3 (h + 30 + 20 * 0 + 2) (by omega) (by omega))).trans k8
  have k31 : rd L25 (h + 30 + 20 * 0 + 3) = rd L (h + 30 + 20 * 0 + 3) := (rd_congr (hw23r3 (h + 30 + 20 * 0 + 3) (by omega) (by omega))).trans k9
  have k32 : rd L25 (h + 34 + 20 * 0 + 1) = rd L (h + 34 + 20 * 0 + 1) := (rd_congr (hw23r3 (h + 34 + 20 * 0 + 1) (by omega) (by omega))).trans k10
  have k33 : rd L25 (h + 34 + 20 * 0 + 2) = rd L (h + 34 + 20 * 0 + 2) := (rd_congr (hw23r3 (h + 34 + 20 * 0 + 2) (by omega) (by omega))).trans k11
  have k34 : rd L25 (h + 34 + 20 * 0 + 3) = rd L (h + 34 + 20 * 0 + 3) := (rd_congr (hw23r3 (h + 34 + 20 * 0 + 3) (by omega) (by omega))).trans k12
  have k35 : rd L25 (h + 26 + 20 * 1 + 1) = rd L (h + 26 + 20 * 1 + 1) := (rd_congr (hw23r3 (h + 26 + 20 * 1 + 1) (by omega) (by omega))).trans k13
  have k36 : rd L25 (h + 26 + 20 * 1 + 2) = rd L (h + 26 + 20 * 1 + 2) := (rd_congr (hw23r3 (h + 26 + 20 * 1 + 2) (by omega) (by omega))).trans k14
  have k37 : rd L25 (h + 26 + 20 * 1 + 3) = rd L (h + 26 + 20 * 1 + 3) := (rd_congr (hw23r3 (h + 26 + 20 * 1 + 3) (by omega) (by omega))).trans k15
  have k38 : rd L25 (h + 30 + 20 * 1 + 1) = rd L (h + 30 + 20 * 1 + 1) := (rd_congr (hw23r3 (h + 30 + 20 * 1 + 1) (by omega) (by omega))).trans k16
  have k39 : rd L25 (h + 30 + 20 * 1 + 2) = rd L (h + 30 + 20 * 1 + 2) := (rd_congr (hw23r3 (h + 30 + 20 * 1 + 2) (by omega) (by omega))).trans k17
  have k40 : rd L25 (h + 30 + 20 * 1 + 3) = rd L (h + 30 + 20 * 1 + 3) := (rd_congr (hw23r3 (h + 30 + 20 * 1 + 3) (by omega) (by omega))).trans k18
  have k41 : rd L25 (h + 34 + 20 * 1 + 1) = rd L (h + 34 + 20 * 1 + 1) := (rd_congr (hw23r3 (h + 34 + 20 * 1 + 1) (by omega) (by omega))).trans k19
  have k42 : rd L25 (h + 34 + 20 * 1 + 2) = rd L (h + 34 + 20 * 1 + 2) := (rd_congr (hw23r3 (h + 34 + 20 * 1 + 2) (by omega) (by omega))).trans k20
  have k43 : rd L25 (h + 34 + 20 * 1 + 3) = rd L (h + 34 + 20 * 1 + 3) := (rd_congr (hw23r3 (h + 34 + 20 * 1 + 3) (by omega) (by omega))).trans k21
  have k44 : rd L25 (h + 26 + 20 * 0 + 1) = evV cr0 ci0 (powC (rd L x) (rd L y) u) 10 := k26.trans (evV_congr (fun j hj => (hA.1 j hj).1) (fun j hj => (hA.1 j hj).2) (fun _ _ => rfl) 10 (Nat.le_refl _))
  have k45 : rd L25 (h + 26 + 20 * 0 + 2) = evX cr0 ci0 (powC (rd L x) (rd L y) u) 10 := k27.trans (evX_congr (fun j hj => (hA.1 j hj).1) (fun j hj => (hA.1 j hj).2) (fun _ _ => rfl) 10 (Nat.le_refl _))
  have k46 : rd L25 (h + 26 + 20 * 0 + 3) = evY cr0 ci0 (powC (rd L x) (rd L y) u) 10 := k28.trans (evY_congr (fun j hj => (hA.1 j hj).1) (fun j hj => (hA.1 j hj).2) (fun _ _ => rfl) 10 (Nat.le_refl _))
  refine x_aload_n 41 C dX5_evaluate_41 rfl 1 rfl ?_
  refine x_getr 42 C (b := h + 14) dX5_evaluate_42 ff_X5_22 rfl hH.1 rfl ?_
  refine x_iload 45 C dX5_evaluate_45 0 rfl ?_
  refine x_aald 47 C (b := h + 22 + 20 * 0) (j := 0) dX5_evaluate_47 (by decide) hH.2.2.2.1 ⟨by decide, by decide, by decide⟩ rfl ?_
  refine x_aload_n 48 C dX5_evaluate_48 rfl 1 rfl ?_
  refine x_getr 49 C (b := h + 1) dX5_evaluate_49 ff_X5_10 rfl hH.1 rfl ?_
  refine x_aload_n 52 C dX5_evaluate_52 rfl 1 rfl ?_
  refine x_getr 53 C (b := h + 16) dX5_evaluate_53 ff_X5_31 rfl hH.1 rfl ?_
  refine x_iload 56 C dX5_evaluate_56 0 rfl ?_
  refine x_aald 58 C (b := h + 30 + 20 * 0) (j := 0) dX5_evaluate_58 (by decide) hH.2.2.2.2.2.1 ⟨by decide, by decide, by decide⟩ rfl ?_
  refine x_callVp 59 C dX5_evaluate_59 (As := [.ref (h + 1), .ref (h + 30 + 20 * 0)]) (rest := []) (t_X1_evaluate l D z n G I L25 (h + 22 + 20 * 0) (h + 1) (h + 30 + 20 * 0) (powC (rd L x) (rd L y) u) (hH.2.2.2.2.2.2.2 0 (by decide)).2.1 hH.2.1 (hH.2.2.2.2.2.2.2 0 (by decide)).2.2.2.1 (by omega) (by omega) (by first | assumption | omega) (by first | assumption | omega) (by first | assumption | omega) (fun k hk => (rd_congr (show L25 (h + 1 + 2 + k) = L3 (h + 1 + 2 + k) by rw [hw23r3 _ (by omega) (by omega)])).trans (hw1r0 k hk))) mt_X1_evaluate km_X5_72 ki_X1_evaluate ks_X1_evaluate (hH.2.2.2.2.2.2.2 0 (by decide)).2.1.1 ⟨by decide, rfl⟩ rfl (Nat.le_of_ble_eq_true rfl) ⟨⟨by decide, by decide⟩, by decide, by decide⟩ (fun w47 I48 L49 hw47 => ?_)
  obtain ⟨hw47v, eI48, hw47r0, hw47r1, hw47r2, hw47r3⟩ := hw47
  subst hw47v
  refine x_st [] rfl ?_
  replace eI48 := eI48.symm; subst eI48
  have k50 : rd L49 (h + 26 + 20 * 0 + 1) = evV cr0 ci0 (powC (rd L x) (rd L y) u) 10 := (rd_congr (hw47r3 (h + 26 + 20 * 0 + 1) (by omega) (by omega))).trans k44
  have k51 : rd L49 (h + 26 + 20 * 0 + 2) = evX cr0 ci0 (powC (rd L x) (rd L y) u) 10 := (rd_congr (hw47r3 (h + 26 + 20 * 0 + 2) (by omega) (by omega))).trans k45
  have k52 : rd L49 (h + 26 + 20 * 0 + 3) = evY cr0 ci0 (powC (rd L x) (rd L y) u) 10 := (rd_congr (hw47r3 (h + 26 + 20 * 0 + 3) (by omega) (by omega))).trans k46
  have k53 : rd L49 (h + 30 + 20 * 0 + 1) = evV (I ((h + 22 + 20 * 0) + 1)) (I ((h + 22 + 20 * 0) + 2)) (powC (rd L x) (rd L y) u) 10 := hw47r0
  have k54 : rd L49 (h + 30 + 20 * 0 + 2) = evX (I ((h + 22 + 20 * 0) + 1)) (I ((h + 22 + 20 * 0) + 2)) (powC (rd L x) (rd L y) u) 10 := hw47r1
  have k55 : rd L49 (h + 30 + 20 * 0 + 3) = evY (I ((h + 22 + 20 * 0) + 1)) (I ((h + 22 + 20 * 0) + 2)) (powC (rd L x) (rd L y) u) 10 := hw47r2
  have k56 : rd L49 (h + 34 + 20 * 0 + 1) = rd L (h + 34 + 20 * 0 + 1) := (rd_congr (hw47r3 (h + 34 + 20 * 0 + 1) (by omega) (by omega))).trans k32
  have k57 : rd L49 (h + 34 + 20 * 0 + 2) = rd L (h + 34 + 20 * 0 + 2) := (rd_congr (hw47r3 (h + 34 + 20 * 0 + 2) (by omega) (by omega))).trans k33
  have k58 : rd L49 (h + 34 + 20 * 0 + 3) = rd L (h + 34 + 20 * 0 + 3) := (rd_congr (hw47r3 (h + 34 + 20 * 0 + 3) (by omega) (by omega))).trans k34
  have k59 : rd L49 (h + 26 + 20 * 1 + 1) = rd L (h + 26 + 20 * 1 + 1) := (rd_congr (hw47r3 (h + 26 + 20 * 1 + 1) (by omega) (by omega))).trans k35
  have k60 : rd L49 (h + 26 + 20 * 1 + 2) = rd L (h + 26 + 20 * 1 + 2) := (rd_congr (hw47r3 (h + 26 + 20 * 1 + 2) (by omega) (by omega))).trans k36
  have k61 : rd L49 (h + 26 + 20 * 1 + 3) = rd L (h + 26 + 20 * 1 + 3) := (rd_congr (hw47r3 (h + 26 + 20 * 1 + 3) (by omega) (by omega))).trans k37
  have k62 : rd L49 (h + 30 + 20 * 1 + 1) = rd L (h + 30 + 20 * 1 + 1) := (rd_congr (hw47r3 (h + 30 + 20 * 1 + 1) (by omega) (by omega))).trans k38
  have k63 : rd L49 (h + 30 + 20 * 1 + 2) = rd L (h + 30 + 20 * 1 + 2) := (rd_congr (hw47r3 (h + 30 + 20 * 1 + 2) (by omega) (by omega))).trans k39
  have k64 : rd L49 (h + 30 + 20 * 1 + 3) = rd L (h + 30 + 20 * 1 + 3) := (rd_congr (hw47r3 (h + 30 + 20 * 1 + 3) (by omega) (by omega))).trans k40
  have k65 : rd L49 (h + 34 + 20 * 1 + 1) = rd L (h + 34 + 20 * 1 + 1) := (rd_congr (hw47r3 (h + 34 + 20 * 1 + 1) (by omega) (by omega))).trans k41
  have k66 : rd L49 (h + 34 + 20 * 1 + 2) = rd L (h + 34 + 20 * 1 + 2) := (rd_congr (hw47r3 (h + 34 + 20 * 1 + 2) (by omega) (by omega))).trans k42
  have k67 : rd L49 (h + 34 + 20 * 1 + 3) = rd L (h + 34 + 20 * 1 + 3) := (rd_congr (hw47r3 (h + 34 + 20 * 1 + 3) (by omega) (by omega))).trans k43
  have k68 : rd L49 (h + 30 + 20 * 0 + 1) = evV (stRe m0) (fun _ => 0) (powC (rd L x) (rd L y) u) 10 := k53.trans (evV_congr (fun j hj => (hA.2.2.1 j hj).1) (fun j hj => (hA.2.2.1 j hj).2) (fun _ _ => rfl) 10 (Nat.le_refl _))
  have k69 : rd L49 (h + 30 + 20 * 0 + 2) = evX (stRe m0) (fun _ => 0) (powC (rd L x) (rd L y) u) 10 := k54.trans (evX_congr (fun j hj => (hA.2.2.1 j hj).1) (fun j hj => (hA.2.2.1 j hj).2) (fun _ _ => rfl) 10 (Nat.le_refl _))
  have k70 : rd L49 (h + 30 + 20 * 0 + 3) = evY (stRe m0) (fun _ => 0) (powC (rd L x) (rd L y) u) 10 := k55.trans (evY_congr (fun j hj => (hA.2.2.1 j hj).1) (fun j hj => (hA.2.2.1 j hj).2) (fun _ _ => rfl) 10 (Nat.le_refl _))
  refine x_aload_n 62 C dX5_evaluate_62 rfl 1 rfl ?_
  refine x_getr 63 C (b := h + 16) dX5_evaluate_63 ff_X5_31 rfl hH.1 rfl ?_
  refine x_iload 66 C dX5_evaluate_66 0 rfl ?_
  refine x_aald 68 C (b := h + 30 + 20 * 0) (j := 0) dX5_evaluate_68 (by decide) hH.2.2.2.2.2.1 ⟨by decide, by decide, by decide⟩ rfl ?_
  refine x_aload_n 69 C dX5_evaluate_69 rfl 1 rfl ?_
  refine x_geti 70 C dX5_evaluate_70 ff_X5_61 hH.1 ?_
  refine x_int gr hA.2.2.2.2.1 ?_
  refine x_i2l 73 C dX5_evaluate_73 ?_
  refine x_aload_n 74 C dX5_evaluate_74 rfl 1 rfl ?_
  refine x_geti 75 C dX5_evaluate_75 ff_X5_65 hH.1 ?_
  refine x_int gi hA.2.2.2.2.2 ?_
  refine x_i2l 78 C dX5_evaluate_78 ?_
  refine x_callVe 79 C dX5_evaluate_79 (As := [.long (Int32.toInt64 gr), .long (Int32.toInt64 gi)]) (rest := []) [] (t_X10_timesGaussian l D z n G I L49 (h + 30 + 20 * 0) (Int32.toInt64 gr) (Int32.toInt64 gi) (hH.2.2.2.2.2.2.2 0 (by decide)).2.2.2.1 (by omega)) mt_X10_timesGaussian km_X5_76 ki_X10_timesGaussian ks_X10_timesGaussian (hH.2.2.2.2.2.2.2 0 (by decide)).2.2.2.1.1 ⟨by decide, rfl⟩ rfl rfl (Nat.le_of_ble_eq_true rfl) ⟨⟨by decide, by decide⟩, by decide, by decide⟩ (fun I71 L72 eI71 eL72 => ?_)
  replace eI71 := eI71.symm; subst eI71
  have k73 : rd L72 (h + 26 + 20 * 0 + 1) = evV cr0 ci0 (powC (rd L x) (rd L y) u) 10 := by rw [eL72, tw, rd_cw_ne _ _ (by omega), rd_cw_ne _ _ (by omega), rd_cw_ne _ _ (by omega)]; exact k50
  have k74 : rd L72 (h + 26 + 20 * 0 + 2) = evX cr0 ci0 (powC (rd L x) (rd L y) u) 10 := by rw [eL72, tw, rd_cw_ne _ _ (by omega), rd_cw_ne _ _ (by omega), rd_cw_ne _ _ (by omega)]; exact k51
  have k75 : rd L72 (h + 26 + 20 * 0 + 3) = evY cr0 ci0 (powC (rd L x) (rd L y) u) 10 := by rw [eL72, tw, rd_cw_ne _ _ (by omega), rd_cw_ne _ _ (by omega), rd_cw_ne _ _ (by omega)]; exact k52
  have k76 : rd L72 (h + 30 + 20 * 0 + 1) = gauC (Int32.toInt64 gr) (Int32.toInt64 gi) (evV (stRe m0) (fun _ => 0) (powC (rd L x) (rd L y) u) 10) := by rw [eL72, tw, rd_cw_ne _ _ (by omega), rd_cw_ne _ _ (by omega), rd_cw]; simp only [k68]
  have k77 : rd L72 (h + 30 + 20 * 0 + 2) = gauC (Int32.toInt64 gr) (Int32.toInt64 gi) (evX (stRe m0) (fun _ => 0) (powC (rd L x) (rd L y) u) 10) := by rw [eL72, tw, rd_cw_ne _ _ (by omega), rd_cw]; simp only [k69]
  have k78 : rd L72 (h + 30 + 20 * 0 + 3) = gauC (Int32.toInt64 gr) (Int32.toInt64 gi) (evY (stRe m0) (fun _ => 0) (powC (rd L x) (rd L y) u) 10) := by rw [eL72, tw, rd_cw]; simp only [k70]
  have k79 : rd L72 (h + 34 + 20 * 0 + 1) = rd L (h + 34 + 20 * 0 + 1) := by rw [eL72, tw, rd_cw_ne _ _ (by omega), rd_cw_ne _ _ (by omega), rd_cw_ne _ _ (by omega)]; exact k56
  have k80 : rd L72 (h + 34 + 20 * 0 + 2) = rd L (h + 34 + 20 * 0 + 2) := by rw [eL72, tw, rd_cw_ne _ _ (by omega), rd_cw_ne _ _ (by omega), rd_cw_ne _ _ (by omega)]; exact k57
  have k81 : rd L72 (h + 34 + 20 * 0 + 3) = rd L (h + 34 + 20 * 0 + 3) := by rw [eL72, tw, rd_cw_ne _ _ (by omega), rd_cw_ne _ _ (by omega), rd_cw_ne _ _ (by omega)]; exact k58
  have k82 : rd L72 (h + 26 + 20 * 1 + 1) = rd L (h + 26 + 20 * 1 + 1) := by rw [eL72, tw, rd_cw_ne _ _ (by omega), rd_cw_ne _ _ (by omega), rd_cw_ne _ _ (by omega)]; exact k59
  have k83 : rd L72 (h + 26 + 20 * 1 + 2) = rd L (h + 26 + 20 * 1 + 2) := by rw [eL72, tw, rd_cw_ne _ _ (by omega), rd_cw_ne _ _ (by omega), rd_cw_ne _ _ (by omega)]; exact k60
  have k84 : rd L72 (h + 26 + 20 * 1 + 3) = rd L (h + 26 + 20 * 1 + 3) := by rw [eL72, tw, rd_cw_ne _ _ (by omega), rd_cw_ne _ _ (by omega), rd_cw_ne _ _ (by omega)]; exact k61
  have k85 : rd L72 (h + 30 + 20 * 1 + 1) = rd L (h + 30 + 20 * 1 + 1) := by rw [eL72, tw, rd_cw_ne _ _ (by omega), rd_cw_ne _ _ (by omega), rd_cw_ne _ _ (by omega)]; exact k62
  have k86 : rd L72 (h + 30 + 20 * 1 + 2) = rd L (h + 30 + 20 * 1 + 2) := by rw [eL72, tw, rd_cw_ne _ _ (by omega), rd_cw_ne _ _ (by omega), rd_cw_ne _ _ (by omega)]; exact k63
  have k87 : rd L72 (h + 30 + 20 * 1 + 3) = rd L (h + 30 + 20 * 1 + 3) := by rw [eL72, tw, rd_cw_ne _ _ (by omega), rd_cw_ne _ _ (by omega), rd_cw_ne _ _ (by omega)]; exact k64
  have k88 : rd L72 (h + 34 + 20 * 1 + 1) = rd L (h + 34 + 20 * 1 + 1) := by rw [eL72, tw, rd_cw_ne _ _ (by omega), rd_cw_ne _ _ (by omega), rd_cw_ne _ _ (by omega)]; exact k65
  have k89 : rd L72 (h + 34 + 20 * 1 + 2) = rd L (h + 34 + 20 * 1 + 2) := by rw [eL72, tw, rd_cw_ne _ _ (by omega), rd_cw_ne _ _ (by omega), rd_cw_ne _ _ (by omega)]; exact k66
  have k90 : rd L72 (h + 34 + 20 * 1 + 3) = rd L (h + 34 + 20 * 1 + 3) := by rw [eL72, tw, rd_cw_ne _ _ (by omega), rd_cw_ne _ _ (by omega), rd_cw_ne _ _ (by omega)]; exact k67
  refine x_aload_n 82 C dX5_evaluate_82 rfl 1 rfl ?_
  refine x_getr 83 C (b := h + 17) dX5_evaluate_83 ff_X5_34 rfl hH.1 rfl ?_
  refine x_iload 86 C dX5_evaluate_86 0 rfl ?_
  refine x_aald 88 C (b := h + 34 + 20 * 0) (j := 0) dX5_evaluate_88 (by decide) hH.2.2.2.2.2.2.1 ⟨by decide, by decide, by decide⟩ rfl ?_
  refine x_aload_n 89 C dX5_evaluate_89 rfl 1 rfl ?_
  refine x_getr 90 C (b := h + 16) dX5_evaluate_90 ff_X5_31 rfl hH.1 rfl ?_
  refine x_iload 93 C dX5_evaluate_93 0 rfl ?_
  refine x_aald 95 C (b := h + 30 + 20 * 0) (j := 0) dX5_evaluate_95 (by decide) hH.2.2.2.2.2.1 ⟨by decide, by decide, by decide⟩ rfl ?_
  refine x_sipush 96 C (v := 1024) dX5_evaluate_96 rfl ?_
  refine x_iload_n 99 C dX5_evaluate_99 rfl 4 rfl ?_
  refine x_isub 100 C dX5_evaluate_100 ?_
  refine x_int (nI (1024 - P)) (nI_sub (a := 1024) (b := P) (by omega)) ?_
  refine x_i2l 101 C dX5_evaluate_101 ?_
  refine x_aload_n 102 C dX5_evaluate_102 rfl 1 rfl ?_
  refine x_getr 103 C (b := h + 15) dX5_evaluate_103 ff_X5_27 rfl hH.1 rfl ?_
  refine x_iload 106 C dX5_evaluate_106 0 rfl ?_
  refine x_aald 108 C (b := h + 26 + 20 * 0) (j := 0) dX5_evaluate_108 (by decide) hH.2.2.2.2.1 ⟨by decide, by decide, by decide⟩ rfl ?_
  refine x_iload_n 109 C dX5_evaluate_109 rfl 4 rfl ?_
  refine x_i2l 110 C dX5_evaluate_110 ?_
  refine x_callVe 111 C dX5_evaluate_111 (As := [.ref (h + 30 + 20 * 0), .long (Int32.toInt64 (nI (1024 - P))), .ref (h + 26 + 20 * 0), .long (Int32.toInt64 (nI P))]) (rest := []) [] (t_X10_putMix l D z n G I L72 (h + 34 + 20 * 0) (h + 30 + 20 * 0) (Int32.toInt64 (nI (1024 - P))) (h + 26 + 20 * 0) (Int32.toInt64 (nI P)) (hH.2.2.2.2.2.2.2 0 (by decide)).2.2.2.2 (hH.2.2.2.2.2.2.2 0 (by decide)).2.2.2.1 (hH.2.2.2.2.2.2.2 0 (by decide)).2.2.1 (by omega) (by first | assumption | omega) (by first | assumption | omega) (mix_nz hP)) mt_X10_putMix km_X5_82 ki_X10_putMix ks_X10_putMix (hH.2.2.2.2.2.2.2 0 (by decide)).2.2.2.2.1 ⟨by decide, rfl⟩ rfl rfl (Nat.le_of_ble_eq_true rfl) ⟨⟨by decide, by decide⟩, by decide, by decide⟩ (fun I91 L92 eI91 eL92 => ?_)
  replace eI91 := eI91.symm; subst eI91
  have k93 : rd L92 (h + 26 + 20 * 0 + 1) = evV cr0 ci0 (powC (rd L x) (rd L y) u) 10 := by rw [eL92, tw, rd_cw_ne _ _ (by omega), rd_cw_ne _ _ (by omega), rd_cw_ne _ _ (by omega)]; exact k73
  have k94 : rd L92 (h + 26 + 20 * 0 + 2) = evX cr0 ci0 (powC (rd L x) (rd L y) u) 10 := by rw [eL92, tw, rd_cw_ne _ _ (by omega), rd_cw_ne _ _ (by omega), rd_cw_ne _ _ (by omega)]; exact k74
  have k95 : rd L92 (h + 26 + 20 * 0 + 3) = evY cr0 ci0 (powC (rd L x) (rd L y) u) 10 := by rw [eL92, tw, rd_cw_ne _ _ (by omega), rd_cw_ne _ _ (by omega), rd_cw_ne _ _ (by omega)]; exact k75
  have k96 : rd L92 (h + 30 + 20 * 0 + 1) = gauC (Int32.toInt64 gr) (Int32.toInt64 gi) (evV (stRe m0) (fun _ => 0) (powC (rd L x) (rd L y) u) 10) := by rw [eL92, tw, rd_cw_ne _ _ (by omega), rd_cw_ne _ _ (by omega), rd_cw_ne _ _ (by omega)]; exact k76
  have k97 : rd L92 (h + 30 + 20 * 0 + 2) = gauC (Int32.toInt64 gr) (Int32.toInt64 gi) (evX (stRe m0) (fun _ => 0) (powC (rd L x) (rd L y) u) 10) := by rw [eL92, tw, rd_cw_ne _ _ (by omega), rd_cw_ne _ _ (by omega), rd_cw_ne _ _ (by omega)]; exact k77
  have k98 : rd L92 (h + 30 + 20 * 0 + 3) = gauC (Int32.toInt64 gr) (Int32.toInt64 gi) (evY (stRe m0) (fun _ => 0) (powC (rd L x) (rd L y) u) 10) := by rw [eL92, tw, rd_cw_ne _ _ (by omega), rd_cw_ne _ _ (by omega), rd_cw_ne _ _ (by omega)]; exact k78
  have k99 : rd L92 (h + 34 + 20 * 0 + 1) = mixC (Int32.toInt64 (nI (1024 - P))) (gauC (Int32.toInt64 gr) (Int32.toInt64 gi) (evV (stRe m0) (fun _ => 0) (powC (rd L x) (rd L y) u) 10)) (Int32.toInt64 (nI P)) (evV cr0 ci0 (powC (rd L x) (rd L y) u) 10) := by rw [eL92, tw, rd_cw_ne _ _ (by omega), rd_cw_ne _ _ (by omega), rd_cw]; simp only [k76, k73]
  have k100 : rd L92 (h + 34 + 20 * 0 + 2) = mixC (Int32.toInt64 (nI (1024 - P))) (gauC (Int32.toInt64 gr) (Int32.toInt64 gi) (evX (stRe m0) (fun _ => 0) (powC (rd L x) (rd L y) u) 10)) (Int32.toInt64 (nI P)) (evX cr0 ci0 (powC (rd L x) (rd L y) u) 10) := by rw [eL92, tw, rd_cw_ne _ _ (by omega), rd_cw]; simp only [k77, k74]
  have k101 : rd L92 (h + 34 + 20 * 0 + 3) = mixC (Int32.toInt64 (nI (1024 - P))) (gauC (Int32.toInt64 gr) (Int32.toInt64 gi) (evY (stRe m0) (fun _ => 0) (powC (rd L x) (rd L y) u) 10)) (Int32.toInt64 (nI P)) (evY cr0 ci0 (powC (rd L x) (rd L y) u) 10) := by rw [eL92, tw, rd_cw]; simp only [k78, k75]
  have k102 : rd L92 (h + 26 + 20 * 1 + 1) = rd L (h + 26 + 20 * 1 + 1) := by rw [eL92, tw, rd_cw_ne _ _ (by omega), rd_cw_ne _ _ (by omega), rd_cw_ne _ _ (by omega)]; exact k82
  have k103 : rd L92 (h + 26 + 20 * 1 + 2) = rd L (h + 26 + 20 * 1 + 2) := by rw [eL92, tw, rd_cw_ne _ _ (by omega), rd_cw_ne _ _ (by omega), rd_cw_ne _ _ (by omega)]; exact k83
  have k104 : rd L92 (h + 26 + 20 * 1 + 3) = rd L (h + 26 + 20 * 1 + 3) := by rw [eL92, tw, rd_cw_ne _ _ (by omega), rd_cw_ne _ _ (by omega), rd_cw_ne _ _ (by omega)]; exact k84
  have k105 : rd L92 (h + 30 + 20 * 1 + 1) = rd L (h + 30 + 20 * 1 + 1) := by rw [eL92, tw, rd_cw_ne _ _ (by omega), rd_cw_ne _ _ (by omega), rd_cw_ne _ _ (by omega)]; exact k85
  have k106 : rd L92 (h + 30 + 20 * 1 + 2) = rd L (h + 30 + 20 * 1 + 2) := by rw [eL92, tw, rd_cw_ne _ _ (by omega), rd_cw_ne _ _ (by omega), rd_cw_ne _ _ (by omega)]; exact k86
  have k107 : rd L92 (h + 30 + 20 * 1 + 3) = rd L (h + 30 + 20 * 1 + 3) := by rw [eL92, tw, rd_cw_ne _ _ (by omega), rd_cw_ne _ _ (by omega), rd_cw_ne _ _ (by omega)]; exact k87
  have k108 : rd L92 (h + 34 + 20 * 1 + 1) = rd L (h + 34 + 20 * 1 + 1) := by rw [eL92, tw, rd_cw_ne _ _ (by omega), rd_cw_ne _ _ (by omega), rd_cw_ne _ _ (by omega)]; exact k88
  have k109 : rd L92 (h + 34 + 20 * 1 + 2) = rd L (h + 34 + 20 * 1 + 2) := by rw [eL92, tw, rd_cw_ne _ _ (by omega), rd_cw_ne _ _ (by omega), rd_cw_ne _ _ (by omega)]; exact k89
  have k110 : rd L92 (h + 34 + 20 * 1 + 3) = rd L (h + 34 + 20 * 1 + 3) := by rw [eL92, tw, rd_cw_ne _ _ (by omega), rd_cw_ne _ _ (by omega), rd_cw_ne _ _ (by omega)]; exact k90
  refine x_iinc 114 C [(6, .int 1), (0, .ref h), (1, .ref x), (2, .ref y), (3, .int (nI P)), (4, .long u)] dX5_evaluate_114 0 rfl (by decide) (by decide) rfl ?_
  refine x_goto 117 C 14 dX5_evaluate_117 (by decide) ?_
  refine x_iload 14 C dX5_evaluate_14 0 rfl ?_
  refine x_iconst 16 C (v := 2) dX5_evaluate_16 rfl ?_
  refine x_icmp_ge 17 C 120 dX5_evaluate_17 (by decide) (fun c111 => absurd c111 (by decide)) (fun _ => ?_)
  refine x_aload_n 20 C dX5_evaluate_20 rfl 1 rfl ?_
  refine x_getr 21 C (b := h + 13) dX5_evaluate_21 ff_X5_18 rfl hH.1 rfl ?_
  refine x_iload 24 C dX5_evaluate_24 0 rfl ?_
  refine x_aald 26 C (b := h + 18 + 20 * 1) (j := 1) dX5_evaluate_26 (by decide) hH.2.2.1 ⟨by decide, by decide, by decide⟩ rfl ?_
  refine x_aload_n 27 C dX5_evaluate_27 rfl 1 rfl ?_
  refine x_getr 28 C (b := h + 1) dX5_evaluate_28 ff_X5_10 rfl hH.1 rfl ?_
  refine x_aload_n 31 C dX5_evaluate_31 rfl 1 rfl ?_
  refine x_getr 32 C (b := h + 15) dX5_evaluate_32 ff_X5_27 rfl hH.1 rfl ?_
  refine x_iload 35 C dX5_evaluate_35 0 rfl ?_
  refine x_aald 37 C (b := h + 26 + 20 * 1) (j := 1) dX5_evaluate_37 (by decide) hH.2.2.2.2.1 ⟨by decide, by decide, by decide⟩ rfl ?_
  refine x_callVp 38 C dX5_evaluate_38 (As := [.ref (h + 1), .ref (h + 26 + 20 * 1)]) (rest := []) (t_X1_evaluate l D z n G I L92 (h + 18 + 20 * 1) (h + 1) (h + 26 + 20 * 1) (powC (rd L x) (rd L y) u) (hH.2.2.2.2.2.2.2 1 (by decide)).1 hH.2.1 (hH.2.2.2.2.2.2.2 1 (by decide)).2.2.1 (by omega) (by omega) (by first | assumption | omega) (by first | assumption | omega) (by first | assumption | omega) (fun k hk => (rd_congr (show L92 (h + 1 + 2 + k) = L3 (h + 1 + 2 + k) by rw [eL92, tw, cw_ne _ _ (by omega), cw_ne _ _ (by omega), cw_ne _ _ (by omega)]; rw [eL72, tw, cw_ne _ _ (by omega), cw_ne _ _ (by omega), cw_ne _ _ (by omega)]; rw [hw47r3 _ (by omega) (by omega)]; rw [hw23r3 _ (by omega) (by omega)])).trans (hw1r0 k hk))) mt_X1_evaluate km_X5_72 ki_X1_evaluate ks_X1_evaluate (hH.2.2.2.2.2.2.2 1 (by decide)).1.1 ⟨by decide, rfl⟩ rfl (Nat.le_of_ble_eq_true rfl) ⟨⟨by decide, by decide⟩, by decide, by decide⟩ (fun w112 I113 L114 hw112 => ?_)
  obtain ⟨hw112v, eI113, hw112r0, hw112r1, hw112r2, hw112r3⟩ := hw112
  subst hw112v
  refine x_st [] rfl ?_
  replace eI113 := eI113.symm; subst eI113
  have k115 : rd L114 (h + 26 + 20 * 0 + 1) = evV cr0 ci0 (powC (rd L x) (rd L y) u) 10 := (rd_congr (hw112r3 (h + 26 + 20 * 0 + 1) (by omega) (by omega))).trans k93
  have k116 : rd L114 (h + 26 + 20 * 0 + 2) = evX cr0 ci0 (powC (rd L x) (rd L y) u) 10 := (rd_congr (hw112r3 (h + 26 + 20 * 0 + 2) (by omega) (by omega))).trans k94
  have k117 : rd L114 (h + 26 + 20 * 0 + 3) = evY cr0 ci0 (powC (rd L x) (rd L y) u) 10 := (rd_congr (hw112r3 (h + 26 + 20 * 0 + 3) (by omega) (by omega))).trans k95
  have k118 : rd L114 (h + 30 + 20 * 0 + 1) = gauC (Int32.toInt64 gr) (Int32.toInt64 gi) (evV (stRe m0) (fun _ => 0) (powC (rd L x) (rd L y) u) 10) := (rd_congr (hw112r3 (h + 30 + 20 * 0 + 1) (by omega) (by omega))).trans k96
  have k119 : rd L114 (h + 30 + 20 * 0 + 2) = gauC (Int32.toInt64 gr) (Int32.toInt64 gi) (evX (stRe m0) (fun _ => 0) (powC (rd L x) (rd L y) u) 10) := (rd_congr (hw112r3 (h + 30 + 20 * 0 + 2) (by omega) (by omega))).trans k97
  have k120 : rd L114 (h + 30 + 20 * 0 + 3) = gauC (Int32.toInt64 gr) (Int32.toInt64 gi) (evY (stRe m0) (fun _ => 0) (powC (rd L x) (rd L y) u) 10) := (rd_congr (hw112r3 (h + 30 + 20 * 0 + 3) (by omega) (by omega))).trans k98
  have k121 : rd L114 (h + 34 + 20 * 0 + 1) = mixC (Int32.toInt64 (nI (1024 - P))) (gauC (Int32.toInt64 gr) (Int32.toInt64 gi) (evV (stRe m0) (fun _ => 0) (powC (rd L x) (rd L y) u) 10)) (Int32.toInt64 (nI P)) (evV cr0 ci0 (powC (rd L x) (rd L y) u) 10) := (rd_congr (hw112r3 (h + 34 + 20 * 0 + 1) (by omega) (by omega))).trans k99
  have k122 : rd L114 (h + 34 + 20 * 0 + 2) = mixC (Int32.toInt64 (nI (1024 - P))) (gauC (Int32.toInt64 gr) (Int32.toInt64 gi) (evX (stRe m0) (fun _ => 0) (powC (rd L x) (rd L y) u) 10)) (Int32.toInt64 (nI P)) (evX cr0 ci0 (powC (rd L x) (rd L y) u) 10) := (rd_congr (hw112r3 (h + 34 + 20 * 0 + 2) (by omega) (by omega))).trans k100
  have k123 : rd L114 (h + 34 + 20 * 0 + 3) = mixC (Int32.toInt64 (nI (1024 - P))) (gauC (Int32.toInt64 gr) (Int32.toInt64 gi) (evY (stRe m0) (fun _ => 0) (powC (rd L x) (rd L y) u) 10)) (Int32.toInt64 (nI P)) (evY cr0 ci0 (powC (rd L x) (rd L y) u) 10) := (rd_congr (hw112r3 (h + 34 + 20 * 0 + 3) (by omega) (by omega))).trans k101
  have k124 : rd L114 (h + 26 + 20 * 1 + 1) = evV (I ((h + 18 + 20 * 1) + 1)) (I ((h + 18 + 20 * 1) + 2)) (powC (rd L x) (rd L y) u) 10 := hw112r0
  have k125 : rd L114 (h + 26 + 20 * 1 + 2) = evX (I ((h + 18 + 20 * 1) + 1)) (I ((h + 18 + 20 * 1) + 2)) (powC (rd L x) (rd L y) u) 10 := hw112r1
  have k126 : rd L114 (h + 26 + 20 * 1 + 3) = evY (I ((h + 18 + 20 * 1) + 1)) (I ((h + 18 + 20 * 1) + 2)) (powC (rd L x) (rd L y) u) 10 := hw112r2
  have k127 : rd L114 (h + 30 + 20 * 1 + 1) = rd L (h + 30 + 20 * 1 + 1) := (rd_congr (hw112r3 (h + 30 + 20 * 1 + 1) (by omega) (by omega))).trans k105
  have k128 : rd L114 (h + 30 + 20 * 1 + 2) = rd L (h + 30 + 20 * 1 + 2) := (rd_congr (hw112r3 (h + 30 + 20 * 1 + 2) (by omega) (by omega))).trans k106
  have k129 : rd L114 (h + 30 + 20 * 1 + 3) = rd L (h + 30 + 20 * 1 + 3) := (rd_congr (hw112r3 (h + 30 + 20 * 1 + 3) (by omega) (by omega))).trans k107
  have k130 : rd L114 (h + 34 + 20 * 1 + 1) = rd L (h + 34 + 20 * 1 + 1) := (rd_congr (hw112r3 (h + 34 + 20 * 1 + 1) (by omega) (by omega))).trans k108
  have k131 : rd L114 (h + 34 + 20 * 1 + 2) = rd L (h + 34 + 20 * 1 + 2) := (rd_congr (hw112r3 (h + 34 + 20 * 1 + 2) (by omega) (by omega))).trans k109
  have k132 : rd L114 (h + 34 + 20 * 1 + 3) = rd L (h + 34 + 20 * 1 + 3) := (rd_congr (hw112r3 (h + 34 + 20 * 1 + 3) (by omega) (by omega))).trans k110
  have k133 : rd L114 (h + 26 + 20 * 1 + 1) = evV cr1 ci1 (powC (rd L x) (rd L y) u) 10 := k124.trans (evV_congr (fun j hj => (hA.2.1 j hj).1) (fun j hj => (hA.2.1 j hj).2) (fun _ _ => rfl) 10 (Nat.le_refl _))
  have k134 : rd L114 (h + 26 + 20 * 1 + 2) = evX cr1 ci1 (powC (rd L x) (rd L y) u) 10 := k125.trans (evX_congr (fun j hj => (hA.2.1 j hj).1) (fun j hj => (hA.2.1 j hj).2) (fun _ _ => rfl) 10 (Nat.le_refl _))
  have k135 : rd L114 (h + 26 + 20 * 1 + 3) = evY cr1 ci1 (powC (rd L x) (rd L y) u) 10 := k126.trans (evY_congr (fun j hj => (hA.2.1 j hj).1) (fun j hj => (hA.2.1 j hj).2) (fun _ _ => rfl) 10 (Nat.le_refl _))
  refine x_aload_n 41 C dX5_evaluate_41 rfl 1 rfl ?_
  refine x_getr 42 C (b := h + 14) dX5_evaluate_42 ff_X5_22 rfl hH.1 rfl ?_
  refine x_iload 45 C dX5_evaluate_45 0 rfl ?_
  refine x_aald 47 C (b := h + 22 + 20 * 1) (j := 1) dX5_evaluate_47 (by decide) hH.2.2.2.1 ⟨by decide, by decide, by decide⟩ rfl ?_
  refine x_aload_n 48 C dX5_evaluate_48 rfl 1 rfl ?_
  refine x_getr 49 C (b := h + 1) dX5_evaluate_49 ff_X5_10 rfl hH.1 rfl ?_
  refine x_aload_n 52 C dX5_evaluate_52 rfl 1 rfl ?_
  refine x_getr 53 C (b := h + 16) dX5_evaluate_53 ff_X5_31 rfl hH.1 rfl ?_
  refine x_iload 56 C dX5_evaluate_56 0 rfl ?_
  refine x_aald 58 C (b := h + 30 + 20 * 1) (j := 1) dX5_evaluate_58 (by decide) hH.2.2.2.2.2.1 ⟨by decide, by decide, by decide⟩ rfl ?_
  refine x_callVp 59 C dX5_evaluate_59 (As := [.ref (h + 1), .ref (h + 30 + 20 * 1)]) (rest := []) (t_X1_evaluate l D z n G I L114 (h + 22 + 20 * 1) (h + 1) (h + 30 + 20 * 1) (powC (rd L x) (rd L y) u) (hH.2.2.2.2.2.2.2 1 (by decide)).2.1 hH.2.1 (hH.2.2.2.2.2.2.2 1 (by decide)).2.2.2.1 (by omega) (by omega) (by first | assumption | omega) (by first | assumption | omega) (by first | assumption | omega) (fun k hk => (rd_congr (show L114 (h + 1 + 2 + k) = L3 (h + 1 + 2 + k) by rw [hw112r3 _ (by omega) (by omega)]; rw [eL92, tw, cw_ne _ _ (by omega), cw_ne _ _ (by omega), cw_ne _ _ (by omega)]; rw [eL72, tw, cw_ne _ _ (by omega), cw_ne _ _ (by omega), cw_ne _ _ (by omega)]; rw [hw47r3 _ (by omega) (by omega)]; rw [hw23r3 _ (by omega) (by omega)])).trans (hw1r0 k hk))) mt_X1_evaluate km_X5_72 ki_X1_evaluate ks_X1_evaluate (hH.2.2.2.2.2.2.2 1 (by decide)).2.1.1 ⟨by decide, rfl⟩ rfl (Nat.le_of_ble_eq_true rfl) ⟨⟨by decide, by decide⟩, by decide, by decide⟩ (fun w136 I137 L138 hw136 => ?_)
  obtain ⟨hw136v, eI137, hw136r0, hw136r1, hw136r2, hw136r3⟩ := hw136
  subst hw136v
  refine x_st [] rfl ?_
  replace eI137 := eI137.symm; subst eI137
  have k139 : rd L138 (h + 26 + 20 * 0 + 1) = evV cr0 ci0 (powC (rd L x) (rd L y) u) 10 := (rd_congr (hw136r3 (h + 26 + 20 * 0 + 1) (by omega) (by omega))).trans k115
  have k140 : rd L138 (h + 26 + 20 * 0 + 2) = evX cr0 ci0 (powC (rd L x) (rd L y) u) 10 := (rd_congr (hw136r3 (h + 26 + 20 * 0 + 2) (by omega) (by omega))).trans k116
  have k141 : rd L138 (h + 26 + 20 * 0 + 3) = evY cr0 ci0 (powC (rd L x) (rd L y) u) 10 := (rd_congr (hw136r3 (h + 26 + 20 * 0 + 3) (by omega) (by omega))).trans k117
  have k142 : rd L138 (h + 30 + 20 * 0 + 1) = gauC (Int32.toInt64 gr) (Int32.toInt64 gi) (evV (stRe m0) (fun _ => 0) (powC (rd L x) (rd L y) u) 10) := (rd_congr (hw136r3 (h + 30 + 20 * 0 + 1) (by omega) (by omega))).trans k118
  have k143 : rd L138 (h + 30 + 20 * 0 + 2) = gauC (Int32.toInt64 gr) (Int32.toInt64 gi) (evX (stRe m0) (fun _ => 0) (powC (rd L x) (rd L y) u) 10) := (rd_congr (hw136r3 (h + 30 + 20 * 0 + 2) (by omega) (by omega))).trans k119
  have k144 : rd L138 (h + 30 + 20 * 0 + 3) = gauC (Int32.toInt64 gr) (Int32.toInt64 gi) (evY (stRe m0) (fun _ => 0) (powC (rd L x) (rd L y) u) 10) := (rd_congr (hw136r3 (h + 30 + 20 * 0 + 3) (by omega) (by omega))).trans k120
  have k145 : rd L138 (h + 34 + 20 * 0 + 1) = mixC (Int32.toInt64 (nI (1024 - P))) (gauC (Int32.toInt64 gr) (Int32.toInt64 gi) (evV (stRe m0) (fun _ => 0) (powC (rd L x) (rd L y) u) 10)) (Int32.toInt64 (nI P)) (evV cr0 ci0 (powC (rd L x) (rd L y) u) 10) := (rd_congr (hw136r3 (h + 34 + 20 * 0 + 1) (by omega) (by omega))).trans k121
  have k146 : rd L138 (h + 34 + 20 * 0 + 2) = mixC (Int32.toInt64 (nI (1024 - P))) (gauC (Int32.toInt64 gr) (Int32.toInt64 gi) (evX (stRe m0) (fun _ => 0) (powC (rd L x) (rd L y) u) 10)) (Int32.toInt64 (nI P)) (evX cr0 ci0 (powC (rd L x) (rd L y) u) 10) := (rd_congr (hw136r3 (h + 34 + 20 * 0 + 2) (by omega) (by omega))).trans k122
  have k147 : rd L138 (h + 34 + 20 * 0 + 3) = mixC (Int32.toInt64 (nI (1024 - P))) (gauC (Int32.toInt64 gr) (Int32.toInt64 gi) (evY (stRe m0) (fun _ => 0) (powC (rd L x) (rd L y) u) 10)) (Int32.toInt64 (nI P)) (evY cr0 ci0 (powC (rd L x) (rd L y) u) 10) := (rd_congr (hw136r3 (h + 34 + 20 * 0 + 3) (by omega) (by omega))).trans k123
  have k148 : rd L138 (h + 26 + 20 * 1 + 1) = evV cr1 ci1 (powC (rd L x) (rd L y) u) 10 := (rd_congr (hw136r3 (h + 26 + 20 * 1 + 1) (by omega) (by omega))).trans k133
  have k149 : rd L138 (h + 26 + 20 * 1 + 2) = evX cr1 ci1 (powC (rd L x) (rd L y) u) 10 := (rd_congr (hw136r3 (h + 26 + 20 * 1 + 2) (by omega) (by omega))).trans k134
  have k150 : rd L138 (h + 26 + 20 * 1 + 3) = evY cr1 ci1 (powC (rd L x) (rd L y) u) 10 := (rd_congr (hw136r3 (h + 26 + 20 * 1 + 3) (by omega) (by omega))).trans k135
  have k151 : rd L138 (h + 30 + 20 * 1 + 1) = evV (I ((h + 22 + 20 * 1) + 1)) (I ((h + 22 + 20 * 1) + 2)) (powC (rd L x) (rd L y) u) 10 := hw136r0
  have k152 : rd L138 (h + 30 + 20 * 1 + 2) = evX (I ((h + 22 + 20 * 1) + 1)) (I ((h + 22 + 20 * 1) + 2)) (powC (rd L x) (rd L y) u) 10 := hw136r1
  have k153 : rd L138 (h + 30 + 20 * 1 + 3) = evY (I ((h + 22 + 20 * 1) + 1)) (I ((h + 22 + 20 * 1) + 2)) (powC (rd L x) (rd L y) u) 10 := hw136r2
  have k154 : rd L138 (h + 34 + 20 * 1 + 1) = rd L (h + 34 + 20 * 1 + 1) := (rd_congr (hw136r3 (h + 34 + 20 * 1 + 1) (by omega) (by omega))).trans k130
  have k155 : rd L138 (h + 34 + 20 * 1 + 2) = rd L (h + 34 + 20 * 1 + 2) := (rd_congr (hw136r3 (h + 34 + 20 * 1 + 2) (by omega) (by omega))).trans k131
  have k156 : rd L138 (h + 34 + 20 * 1 + 3) = rd L (h + 34 + 20 * 1 + 3) := (rd_congr (hw136r3 (h + 34 + 20 * 1 + 3) (by omega) (by omega))).trans k132
  have k157 : rd L138 (h + 30 + 20 * 1 + 1) = evV (stRe m1) (fun _ => 0) (powC (rd L x) (rd L y) u) 10 := k151.trans (evV_congr (fun j hj => (hA.2.2.2.1 j hj).1) (fun j hj => (hA.2.2.2.1 j hj).2) (fun _ _ => rfl) 10 (Nat.le_refl _))
  have k158 : rd L138 (h + 30 + 20 * 1 + 2) = evX (stRe m1) (fun _ => 0) (powC (rd L x) (rd L y) u) 10 := k152.trans (evX_congr (fun j hj => (hA.2.2.2.1 j hj).1) (fun j hj => (hA.2.2.2.1 j hj).2) (fun _ _ => rfl) 10 (Nat.le_refl _))
  have k159 : rd L138 (h + 30 + 20 * 1 + 3) = evY (stRe m1) (fun _ => 0) (powC (rd L x) (rd L y) u) 10 := k153.trans (evY_congr (fun j hj => (hA.2.2.2.1 j hj).1) (fun j hj => (hA.2.2.2.1 j hj).2) (fun _ _ => rfl) 10 (Nat.le_refl _))
  refine x_aload_n 62 C dX5_evaluate_62 rfl 1 rfl ?_
  refine x_getr 63 C (b := h + 16) dX5_evaluate_63 ff_X5_31 rfl hH.1 rfl ?_
  refine x_iload 66 C dX5_evaluate_66 0 rfl ?_
  refine x_aald 68 C (b := h + 30 + 20 * 1) (j := 1) dX5_evaluate_68 (by decide) hH.2.2.2.2.2.1 ⟨by decide, by decide, by decide⟩ rfl ?_
  refine x_aload_n 69 C dX5_evaluate_69 rfl 1 rfl ?_
  refine x_geti 70 C dX5_evaluate_70 ff_X5_61 hH.1 ?_
  refine x_int gr hA.2.2.2.2.1 ?_
  refine x_i2l 73 C dX5_evaluate_73 ?_
  refine x_aload_n 74 C dX5_evaluate_74 rfl 1 rfl ?_
  refine x_geti 75 C dX5_evaluate_75 ff_X5_65 hH.1 ?_
  refine x_int gi hA.2.2.2.2.2 ?_
  refine x_i2l 78 C dX5_evaluate_78 ?_
  refine x_callVe 79 C dX5_evaluate_79 (As := [.long (Int32.toInt64 gr), .long (Int32.toInt64 gi)]) (rest := []) [] (t_X10_timesGaussian l D z n G I L138 (h + 30 + 20 * 1) (Int32.toInt64 gr) (Int32.toInt64 gi) (hH.2.2.2.2.2.2.2 1 (by decide)).2.2.2.1 (by omega)) mt_X10_timesGaussian km_X5_76 ki_X10_timesGaussian ks_X10_timesGaussian (hH.2.2.2.2.2.2.2 1 (by decide)).2.2.2.1.1 ⟨by decide, rfl⟩ rfl rfl (Nat.le_of_ble_eq_true rfl) ⟨⟨by decide, by decide⟩, by decide, by decide⟩ (fun I160 L161 eI160 eL161 => ?_)
  replace eI160 := eI160.symm; subst eI160
  have k162 : rd L161 (h + 26 + 20 * 0 + 1) = evV cr0 ci0 (powC (rd L x) (rd L y) u) 10 := by rw [eL161, tw, rd_cw_ne _ _ (by omega), rd_cw_ne _ _ (by omega), rd_cw_ne _ _ (by omega)]; exact k139
  have k163 : rd L161 (h + 26 + 20 * 0 + 2) = evX cr0 ci0 (powC (rd L x) (rd L y) u) 10 := by rw [eL161, tw, rd_cw_ne _ _ (by omega), rd_cw_ne _ _ (by omega), rd_cw_ne _ _ (by omega)]; exact k140
  have k164 : rd L161 (h + 26 + 20 * 0 + 3) = evY cr0 ci0 (powC (rd L x) (rd L y) u) 10 := by rw [eL161, tw, rd_cw_ne _ _ (by omega), rd_cw_ne _ _ (by omega), rd_cw_ne _ _ (by omega)]; exact k141
  have k165 : rd L161 (h + 30 + 20 * 0 + 1) = gauC (Int32.toInt64 gr) (Int32.toInt64 gi) (evV (stRe m0) (fun _ => 0) (powC (rd L x) (rd L y) u) 10) := by rw [eL161, tw, rd_cw_ne _ _ (by omega), rd_cw_ne _ _ (by omega), rd_cw_ne _ _ (by omega)]; exact k142
  have k166 : rd L161 (h + 30 + 20 * 0 + 2) = gauC (Int32.toInt64 gr) (Int32.toInt64 gi) (evX (stRe m0) (fun _ => 0) (powC (rd L x) (rd L y) u) 10) := by rw [eL161, tw, rd_cw_ne _ _ (by omega), rd_cw_ne _ _ (by omega), rd_cw_ne _ _ (by omega)]; exact k143
  have k167 : rd L161 (h + 30 + 20 * 0 + 3) = gauC (Int32.toInt64 gr) (Int32.toInt64 gi) (evY (stRe m0) (fun _ => 0) (powC (rd L x) (rd L y) u) 10) := by rw [eL161, tw, rd_cw_ne _ _ (by omega), rd_cw_ne _ _ (by omega), rd_cw_ne _ _ (by omega)]; exact k144
  have k168 : rd L161 (h + 34 + 20 * 0 + 1) = mixC (Int32.toInt64 (nI (1024 - P))) (gauC (Int32.toInt64 gr) (Int32.toInt64 gi) (evV (stRe m0) (fun _ => 0) (powC (rd L x) (rd L y) u) 10)) (Int32.toInt64 (nI P)) (evV cr0 ci0 (powC (rd L x) (rd L y) u) 10) := by rw [eL161, tw, rd_cw_ne _ _ (by omega), rd_cw_ne _ _ (by omega), rd_cw_ne _ _ (by omega)]; exact k145
  have k169 : rd L161 (h + 34 + 20 * 0 + 2) = mixC (Int32.toInt64 (nI (1024 - P))) (gauC (Int32.toInt64 gr) (Int32.toInt64 gi) (evX (stRe m0) (fun _ => 0) (powC (rd L x) (rd L y) u) 10)) (Int32.toInt64 (nI P)) (evX cr0 ci0 (powC (rd L x) (rd L y) u) 10) := by rw [eL161, tw, rd_cw_ne _ _ (by omega), rd_cw_ne _ _ (by omega), rd_cw_ne _ _ (by omega)]; exact k146
  have k170 : rd L161 (h + 34 + 20 * 0 + 3) = mixC (Int32.toInt64 (nI (1024 - P))) (gauC (Int32.toInt64 gr) (Int32.toInt64 gi) (evY (stRe m0) (fun _ => 0) (powC (rd L x) (rd L y) u) 10)) (Int32.toInt64 (nI P)) (evY cr0 ci0 (powC (rd L x) (rd L y) u) 10) := by rw [eL161, tw, rd_cw_ne _ _ (by omega), rd_cw_ne _ _ (by omega), rd_cw_ne _ _ (by omega)]; exact k147
  have k171 : rd L161 (h + 26 + 20 * 1 + 1) = evV cr1 ci1 (powC (rd L x) (rd L y) u) 10 := by rw [eL161, tw, rd_cw_ne _ _ (by omega), rd_cw_ne _ _ (by omega), rd_cw_ne _ _ (by omega)]; exact k148
  have k172 : rd L161 (h + 26 + 20 * 1 + 2) = evX cr1 ci1 (powC (rd L x) (rd L y) u) 10 := by rw [eL161, tw, rd_cw_ne _ _ (by omega), rd_cw_ne _ _ (by omega), rd_cw_ne _ _ (by omega)]; exact k149
  have k173 : rd L161 (h + 26 + 20 * 1 + 3) = evY cr1 ci1 (powC (rd L x) (rd L y) u) 10 := by rw [eL161, tw, rd_cw_ne _ _ (by omega), rd_cw_ne _ _ (by omega), rd_cw_ne _ _ (by omega)]; exact k150
  have k174 : rd L161 (h + 30 + 20 * 1 + 1) = gauC (Int32.toInt64 gr) (Int32.toInt64 gi) (evV (stRe m1) (fun _ => 0) (powC (rd L x) (rd L y) u) 10) := by rw [eL161, tw, rd_cw_ne _ _ (by omega), rd_cw_ne _ _ (by omega), rd_cw]; simp only [k157]
  have k175 : rd L161 (h + 30 + 20 * 1 + 2) = gauC (Int32.toInt64 gr) (Int32.toInt64 gi) (evX (stRe m1) (fun _ => 0) (powC (rd L x) (rd L y) u) 10) := by rw [eL161, tw, rd_cw_ne _ _ (by omega), rd_cw]; simp only [k158]
  have k176 : rd L161 (h + 30 + 20 * 1 + 3) = gauC (Int32.toInt64 gr) (Int32.toInt64 gi) (evY (stRe m1) (fun _ => 0) (powC (rd L x) (rd L y) u) 10) := by rw [eL161, tw, rd_cw]; simp only [k159]
  have k177 : rd L161 (h + 34 + 20 * 1 + 1) = rd L (h + 34 + 20 * 1 + 1) := by rw [eL161, tw, rd_cw_ne _ _ (by omega), rd_cw_ne _ _ (by omega), rd_cw_ne _ _ (by omega)]; exact k154
  have k178 : rd L161 (h + 34 + 20 * 1 + 2) = rd L (h + 34 + 20 * 1 + 2) := by rw [eL161, tw, rd_cw_ne _ _ (by omega), rd_cw_ne _ _ (by omega), rd_cw_ne _ _ (by omega)]; exact k155
  have k179 : rd L161 (h + 34 + 20 * 1 + 3) = rd L (h + 34 + 20 * 1 + 3) := by rw [eL161, tw, rd_cw_ne _ _ (by omega), rd_cw_ne _ _ (by omega), rd_cw_ne _ _ (by omega)]; exact k156
  refine x_aload_n 82 C dX5_evaluate_82 rfl 1 rfl ?_
  refine x_getr 83 C (b := h + 17) dX5_evaluate_83 ff_X5_34 rfl hH.1 rfl ?_
  refine x_iload 86 C dX5_evaluate_86 0 rfl ?_
  refine x_aald 88 C (b := h + 34 + 20 * 1) (j := 1) dX5_evaluate_88 (by decide) hH.2.2.2.2.2.2.1 ⟨by decide, by decide, by decide⟩ rfl ?_
  refine x_aload_n 89 C dX5_evaluate_89 rfl 1 rfl ?_
  refine x_getr 90 C (b := h + 16) dX5_evaluate_90 ff_X5_31 rfl hH.1 rfl ?_
  refine x_iload 93 C dX5_evaluate_93 0 rfl ?_
  refine x_aald 95 C (b := h + 30 + 20 * 1) (j := 1) dX5_evaluate_95 (by decide) hH.2.2.2.2.2.1 ⟨by decide, by decide, by decide⟩ rfl ?_
  refine x_sipush 96 C (v := 1024) dX5_evaluate_96 rfl ?_
  refine x_iload_n 99 C dX5_evaluate_99 rfl 4 rfl ?_
  refine x_isub 100 C dX5_evaluate_100 ?_
  refine x_int (nI (1024 - P)) (nI_sub (a := 1024) (b := P) (by omega)) ?_
  refine x_i2l 101 C dX5_evaluate_101 ?_
  refine x_aload_n 102 C dX5_evaluate_102 rfl 1 rfl ?_
  refine x_getr 103 C (b := h + 15) dX5_evaluate_103 ff_X5_27 rfl hH.1 rfl ?_
  refine x_iload 106 C dX5_evaluate_106 0 rfl ?_
  refine x_aald 108 C (b := h + 26 + 20 * 1) (j := 1) dX5_evaluate_108 (by decide) hH.2.2.2.2.1 ⟨by decide, by decide, by decide⟩ rfl ?_
  refine x_iload_n 109 C dX5_evaluate_109 rfl 4 rfl ?_
  refine x_i2l 110 C dX5_evaluate_110 ?_
  refine x_callVe 111 C dX5_evaluate_111 (As := [.ref (h + 30 + 20 * 1), .long (Int32.toInt64 (nI (1024 - P))), .ref (h + 26 + 20 * 1), .long (Int32.toInt64 (nI P))]) (rest := []) [] (t_X10_putMix l D z n G I L161 (h + 34 + 20 * 1) (h + 30 + 20 * 1) (Int32.toInt64 (nI (1024 - P))) (h + 26 + 20 * 1) (Int32.toInt64 (nI P)) (hH.2.2.2.2.2.2.2 1 (by decide)).2.2.2.2 (hH.2.2.2.2.2.2.2 1 (by decide)).2.2.2.1 (hH.2.2.2.2.2.2.2 1 (by decide)).2.2.1 (by omega) (by first | assumption | omega) (by first | assumption | omega) (mix_nz hP)) mt_X10_putMix km_X5_82 ki_X10_putMix ks_X10_putMix (hH.2.2.2.2.2.2.2 1 (by decide)).2.2.2.2.1 ⟨by decide, rfl⟩ rfl rfl (Nat.le_of_ble_eq_true rfl) ⟨⟨by decide, by decide⟩, by decide, by decide⟩ (fun I180 L181 eI180 eL181 => ?_)
  replace eI180 := eI180.symm; subst eI180
  have k182 : rd L181 (h + 26 + 20 * 0 + 1) = evV cr0 ci0 (powC (rd L x) (rd L y) u) 10 := by rw [eL181, tw, rd_cw_ne _ _ (by omega), rd_cw_ne _ _ (by omega), rd_cw_ne _ _ (by omega)]; exact k162
  have k183 : rd L181 (h + 26 + 20 * 0 + 2) = evX cr0 ci0 (powC (rd L x) (rd L y) u) 10 := by rw [eL181, tw, rd_cw_ne _ _ (by omega), rd_cw_ne _ _ (by omega), rd_cw_ne _ _ (by omega)]; exact k163
  have k184 : rd L181 (h + 26 + 20 * 0 + 3) = evY cr0 ci0 (powC (rd L x) (rd L y) u) 10 := by rw [eL181, tw, rd_cw_ne _ _ (by omega), rd_cw_ne _ _ (by omega), rd_cw_ne _ _ (by omega)]; exact k164
  have k185 : rd L181 (h + 30 + 20 * 0 + 1) = gauC (Int32.toInt64 gr) (Int32.toInt64 gi) (evV (stRe m0) (fun _ => 0) (powC (rd L x) (rd L y) u) 10) := by rw [eL181, tw, rd_cw_ne _ _ (by omega), rd_cw_ne _ _ (by omega), rd_cw_ne _ _ (by omega)]; exact k165
  have k186 : rd L181 (h + 30 + 20 * 0 + 2) = gauC (Int32.toInt64 gr) (Int32.toInt64 gi) (evX (stRe m0) (fun _ => 0) (powC (rd L x) (rd L y) u) 10) := by rw [eL181, tw, rd_cw_ne _ _ (by omega), rd_cw_ne _ _ (by omega), rd_cw_ne _ _ (by omega)]; exact k166
  have k187 : rd L181 (h + 30 + 20 * 0 + 3) = gauC (Int32.toInt64 gr) (Int32.toInt64 gi) (evY (stRe m0) (fun _ => 0) (powC (rd L x) (rd L y) u) 10) := by rw [eL181, tw, rd_cw_ne _ _ (by omega), rd_cw_ne _ _ (by omega), rd_cw_ne _ _ (by omega)]; exact k167
  have k188 : rd L181 (h + 34 + 20 * 0 + 1) = mixC (Int32.toInt64 (nI (1024 - P))) (gauC (Int32.toInt64 gr) (Int32.toInt64 gi) (evV (stRe m0) (fun _ => 0) (powC (rd L x) (rd L y) u) 10)) (Int32.toInt64 (nI P)) (evV cr0 ci0 (powC (rd L x) (rd L y) u) 10) := by rw [eL181, tw, rd_cw_ne _ _ (by omega), rd_cw_ne _ _ (by omega), rd_cw_ne _ _ (by omega)]; exact k168
  have k189 : rd L181 (h + 34 + 20 * 0 + 2) = mixC (Int32.toInt64 (nI (1024 - P))) (gauC (Int32.toInt64 gr) (Int32.toInt64 gi) (evX (stRe m0) (fun _ => 0) (powC (rd L x) (rd L y) u) 10)) (Int32.toInt64 (nI P)) (evX cr0 ci0 (powC (rd L x) (rd L y) u) 10) := by rw [eL181, tw, rd_cw_ne _ _ (by omega), rd_cw_ne _ _ (by omega), rd_cw_ne _ _ (by omega)]; exact k169
  have k190 : rd L181 (h + 34 + 20 * 0 + 3) = mixC (Int32.toInt64 (nI (1024 - P))) (gauC (Int32.toInt64 gr) (Int32.toInt64 gi) (evY (stRe m0) (fun _ => 0) (powC (rd L x) (rd L y) u) 10)) (Int32.toInt64 (nI P)) (evY cr0 ci0 (powC (rd L x) (rd L y) u) 10) := by rw [eL181, tw, rd_cw_ne _ _ (by omega), rd_cw_ne _ _ (by omega), rd_cw_ne _ _ (by omega)]; exact k170
  have k191 : rd L181 (h + 26 + 20 * 1 + 1) = evV cr1 ci1 (powC (rd L x) (rd L y) u) 10 := by rw [eL181, tw, rd_cw_ne _ _ (by omega), rd_cw_ne _ _ (by omega), rd_cw_ne _ _ (by omega)]; exact k171
  have k192 : rd L181 (h + 26 + 20 * 1 + 2) = evX cr1 ci1 (powC (rd L x) (rd L y) u) 10 := by rw [eL181, tw, rd_cw_ne _ _ (by omega), rd_cw_ne _ _ (by omega), rd_cw_ne _ _ (by omega)]; exact k172
  have k193 : rd L181 (h + 26 + 20 * 1 + 3) = evY cr1 ci1 (powC (rd L x) (rd L y) u) 10 := by rw [eL181, tw, rd_cw_ne _ _ (by omega), rd_cw_ne _ _ (by omega), rd_cw_ne _ _ (by omega)]; exact k173
  have k194 : rd L181 (h + 30 + 20 * 1 + 1) = gauC (Int32.toInt64 gr) (Int32.toInt64 gi) (evV (stRe m1) (fun _ => 0) (powC (rd L x) (rd L y) u) 10) := by rw [eL181, tw, rd_cw_ne _ _ (by omega), rd_cw_ne _ _ (by omega), rd_cw_ne _ _ (by omega)]; exact k174
  have k195 : rd L181 (h + 30 + 20 * 1 + 2) = gauC (Int32.toInt64 gr) (Int32.toInt64 gi) (evX (stRe m1) (fun _ => 0) (powC (rd L x) (rd L y) u) 10) := by rw [eL181, tw, rd_cw_ne _ _ (by omega), rd_cw_ne _ _ (by omega), rd_cw_ne _ _ (by omega)]; exact k175
  have k196 : rd L181 (h + 30 + 20 * 1 + 3) = gauC (Int32.toInt64 gr) (Int32.toInt64 gi) (evY (stRe m1) (fun _ => 0) (powC (rd L x) (rd L y) u) 10) := by rw [eL181, tw, rd_cw_ne _ _ (by omega), rd_cw_ne _ _ (by omega), rd_cw_ne _ _ (by omega)]; exact k176
  have k197 : rd L181 (h + 34 + 20 * 1 + 1) = mixC (Int32.toInt64 (nI (1024 - P))) (gauC (Int32.toInt64 gr) (Int32.toInt64 gi) (evV (stRe m1) (fun _ => 0) (powC (rd L x) (rd L y) u) 10)) (Int32.toInt64 (nI P)) (evV cr1 ci1 (powC (rd L x) (rd L y) u) 10) := by rw [eL181, tw, rd_cw_ne _ _ (by omega), rd_cw_ne _ _ (by omega), rd_cw]; simp only [k174, k171]
  have k198 : rd L181 (h + 34 + 20 * 1 + 2) = mixC (Int32.toInt64 (nI (1024 - P))) (gauC (Int32.toInt64 gr) (Int32.toInt64 gi) (evX (stRe m1) (fun _ => 0) (powC (rd L x) (rd L y) u) 10)) (Int32.toInt64 (nI P)) (evX cr1 ci1 (powC (rd L x) (rd L y) u) 10) := by rw [eL181, tw, rd_cw_ne _ _ (by omega), rd_cw]; simp only [k175, k172]
  have k199 : rd L181 (h + 34 + 20 * 1 + 3) = mixC (Int32.toInt64 (nI (1024 - P))) (gauC (Int32.toInt64 gr) (Int32.toInt64 gi) (evY (stRe m1) (fun _ => 0) (powC (rd L x) (rd L y) u) 10)) (Int32.toInt64 (nI P)) (evY cr1 ci1 (powC (rd L x) (rd L y) u) 10) := by rw [eL181, tw, rd_cw]; simp only [k176, k173]
  refine x_iinc 114 C [(6, .int 2), (0, .ref h), (1, .ref x), (2, .ref y), (3, .int (nI P)), (4, .long u)] dX5_evaluate_114 0 rfl (by decide) (by decide) rfl ?_
  refine x_goto 117 C 14 dX5_evaluate_117 (by decide) ?_
  refine x_iload 14 C dX5_evaluate_14 0 rfl ?_
  refine x_iconst 16 C (v := 2) dX5_evaluate_16 rfl ?_
  refine x_icmp_ge 17 C 120 dX5_evaluate_17 (by decide) (fun _ => ?_) (fun c200 => absurd (by decide) c200)
  refine x_vret 120 C dX5_evaluate_120 rfl (Nat.le_refl _) (xN.intro ?_)
  exact ⟨rfl, rfl, k182, k183, k184, k185, k186, k187, k188, k189, k190, k191, k192, k193, k194, k195, k196, k197, k198, k199, fun a ha => by rw [eL181, tw, cw_ne _ _ (by omega), cw_ne _ _ (by omega), cw_ne _ _ (by omega)]; rw [eL161, tw, cw_ne _ _ (by omega), cw_ne _ _ (by omega), cw_ne _ _ (by omega)]; rw [hw136r3 _ (by omega) (by omega)]; rw [hw112r3 _ (by omega) (by omega)]; rw [eL92, tw, cw_ne _ _ (by omega), cw_ne _ _ (by omega), cw_ne _ _ (by omega)]; rw [eL72, tw, cw_ne _ _ (by omega), cw_ne _ _ (by omega), cw_ne _ _ (by omega)]; rw [hw47r3 _ (by omega) (by omega)]; rw [hw23r3 _ (by omega) (by omega)]; rw [hw1r1 _ (by omega)]⟩
