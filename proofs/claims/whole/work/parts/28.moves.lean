/-! PathTracker: what changes the state -/
def recd (I : xI) (L : xL) (o F Z : Nat) (I' : xI) (L' : xL) : Prop := I' (o + 113) 1 = nI (if Z = 4 then (F + 1) % 4 else F) ∧ I' (o + 113) 2 = nI (if Z = 4 then 4 else Z + 1) ∧ stEq I L (o + 75) I' L' (o + 113 + 2 + 38 * ((F + Z) % 4))
theorem recd_congr {I : xI} {L : xL} {o F Z : Nat} {J J' : xI} {M M' : xL} (h1 : ∀ q, o + 113 ≤ q → q < o + 267 → J q = J' q) (h2 : ∀ q, o + 113 ≤ q → q < o + 267 → M q = M' q) (h : recd I L o F Z J M) : recd I L o F Z J' M' :=
  ⟨by rw [← h1 _ (by omega) (by omega)]; exact h.1, by rw [← h1 _ (by omega) (by omega)]; exact h.2.1, stEq_congr' (fun q a b => h1 q (by omega) (by omega)) (fun q a b => h2 q (by omega) (by omega)) h.2.2⟩
theorem yOf_congr {I I' : xI} {S : Nat} (h : ∀ q, S ≤ q → q < S + 11 → I' q = I q) : yOf I' S = yOf I S := by
  unfold yOf sdg
  rw [h (S + 1 + 4 * 0 + 1) (by omega) (by omega), h (S + 1 + 4 * 0 + 2) (by omega) (by omega), h (S + 1 + 4 * 1 + 1) (by omega) (by omega), h (S + 1 + 4 * 1 + 2) (by omega) (by omega), h (S + 9) (by omega) (by omega)]
theorem sdg_congr {I I' : xI} {S : Nat} (h : ∀ q, S ≤ q → q < S + 11 → I' q = I q) {b : Nat} (hb : b < 2) : sdg I' S b = sdg I S b := by
  unfold sdg
  rw [h (S + 1 + 4 * b + 1) (by omega) (by omega), h (S + 1 + 4 * b + 2) (by omega) (by omega)]
theorem pv_congr {I I' : xI} {L L' : xL} {a : Nat} (h1 : I' a = I a) (h2 : L' (a + 1) = L (a + 1)) (h3 : L' (a + 2) = L (a + 2)) : pv I' L' a = pv I L a := by
  unfold pv
  rw [h1, rd_congr h2, rd_congr h3]
def folS (I : xI) (S R s0 T : Nat) (v : xP) : Nat × xP := foll (yOf I S) R (I (S + 9) 3) (I (S + 9) 4) (nI s0) T v
theorem dX11_undo_0 : decode cX11_undo 0 = .ok (.aload_n 0, 1) := by decide +kernel
theorem dX11_undo_1 : decode cX11_undo 1 = .ok (.getfield 36, 3) := by decide +kernel
theorem dX11_undo_4 : decode cX11_undo 4 = .ok (.aload_n 0, 1) := by decide +kernel
theorem dX11_undo_5 : decode cX11_undo 5 = .ok (.getfield 26, 3) := by decide +kernel
theorem dX11_undo_8 : decode cX11_undo 8 = .ok (.invokevirtual 190, 3) := by decide +kernel
theorem dX11_undo_11 : decode cX11_undo 11 = .ok (.ifCond .eq 13, 3) := by decide +kernel
theorem dX11_undo_14 : decode cX11_undo 14 = .ok (.aload_n 0, 1) := by decide +kernel
theorem dX11_undo_15 : decode cX11_undo 15 = .ok (.getfield 36, 3) := by decide +kernel
theorem dX11_undo_18 : decode cX11_undo 18 = .ok (.invokevirtual 187, 3) := by decide +kernel
theorem dX11_undo_21 : decode cX11_undo 21 = .ok (.goto 5, 3) := by decide +kernel
theorem dX11_undo_24 : decode cX11_undo 24 = .ok (.ldc 69, 2) := by decide +kernel
theorem dX11_undo_26 : decode cX11_undo 26 = .ok (.ireturn, 1) := by decide +kernel
set_option maxHeartbeats 1000000 in
set_option maxRecDepth 100000 in
theorem t_X11_undo (l : Launch) (D : xD) (z n : Nat) (G : xG) (I : xI) (L : xL) (o : Nat) (F : Nat) (Z : Nat) (hW : shPT G o) (zo : z ≤ o) (hF : I (o + 113) 1 = nI F) (hF4 : F < 4) (hZ : I (o + 113) 2 = nI Z) (hZ4 : Z ≤ 4) : xM0 l D z yX11_undo cX11_undo 1 (some .int) 4 85 [.ref o] n G I L (fun v' I' L' => v' = (some (.int (if Z = 0 then (-2000000002) else nI (Z - 1)))) ∧ (Z = 0 → I' = I) ∧ (¬ Z = 0 → I' (o + 113) 1 = I (o + 113) 1 ∧ I' (o + 113) 2 = nI (Z - 1) ∧ stEq I L (o + 113 + 2 + 38 * ((F + (Z - 1)) % 4)) I' L' (o + 75) ∧ ∀ q, q ≠ o + 113 → (q < o + 75 ∨ o + 75 + 38 ≤ q) → I' q = I q) ∧ (∀ q, (q < o + 75 ∨ o + 75 + 38 ≤ q) → L' q = L q) ∧ (Z = 0 → L' = L)) := by
  refine xM.of (by decide) (Nat.le_of_ble_eq_true rfl) (fun p e s m args below meth c C hnm hsz => ?_)
  refine x_lv [(0, .ref o)] rfl ?_
  refine x_aload_n 0 C dX11_undo_0 rfl 0 rfl ?_
  refine x_getr 1 C (b := o + 113) dX11_undo_1 ff_X11_36 rfl hW.1 rfl ?_
  refine x_aload_n 4 C dX11_undo_4 rfl 0 rfl ?_
  refine x_getr 5 C (b := o + 75) dX11_undo_5 ff_X11_26 rfl hW.1 rfl ?_
  refine x_callVp 8 C dX11_undo_8 (As := [.ref (o + 75)]) (rest := []) (t_X4_takeBack l D z n G I L (o + 113) (o + 75) F Z hW.2.2.2.2.1 hW.2.2.2.1 (by omega) (by omega) (by first | omega | assumption | decide) (by first | assumption | omega | decide) (by first | omega | assumption | decide) (by first | assumption | omega | decide) (by first | omega | assumption | decide)) mt_X4_takeBack km_X11_190 ki_X4_takeBack ks_X4_takeBack hW.2.2.2.2.1.1 ⟨by decide, rfl⟩ rfl (Nat.le_of_ble_eq_true rfl) ⟨⟨by decide, by decide⟩, by decide, by decide⟩ (fun w1 I2 L3 hw1 => ?_)
  obtain ⟨hw1v, hw1r0, hw1r1, hw1r2, hw1r3⟩ := hw1
  subst hw1v
  refine x_st [.int (if Z = 0 then 0 else 1)] rfl ?_
  refine x_if_eq 11 C 24 dX11_undo_11 (by decide) (fun c4 => ?_) (fun c4 => ?_)
  · skip
    have hz0 : Z = 0 := ite01 c4
    refine x_ldc 24 C (-2000000002) dX11_undo_24 kk_X11_69 ?_
    refine x_iret 26 C dX11_undo_26 rfl rfl (Nat.le_refl _) (xN.intro ?_)
    first | exact ⟨by rw [if_neg hz0], hw1r0, hw1r1, hw1r2, fun h => absurd h hz0⟩ | exact ⟨by rw [if_pos hz0], hw1r0, hw1r1, hw1r2, hw1r3⟩
  · skip
    have hz0 : ¬ Z = 0 := ite01n c4
    refine x_aload_n 14 C dX11_undo_14 rfl 0 rfl ?_
    refine x_getr 15 C (b := o + 113) dX11_undo_15 ff_X11_36 rfl hW.1 rfl ?_
    refine x_callVe 18 C dX11_undo_18 (As := []) (rest := []) [.int (I2 (o + 113) 2)] (t_X4_size l D z n G I2 L3 (o + 113) hW.2.2.2.2.1) mt_X4_size km_X11_187 ki_X4_size ks_X4_size hW.2.2.2.2.1.1 ⟨by decide, rfl⟩ rfl rfl (Nat.le_of_ble_eq_true rfl) ⟨⟨by decide, by decide⟩, by decide, by decide⟩ (fun I5 L6 eI5 eL6 => ?_)
    replace eI5 := eI5.symm; subst eI5
    replace eL6 := eL6.symm; subst eL6
    refine x_int (nI (Z - 1)) (hw1r1 hz0).2.1 ?_
    refine x_goto 21 C 26 dX11_undo_21 (by decide) ?_
    refine x_iret 26 C dX11_undo_26 rfl rfl (Nat.le_refl _) (xN.intro ?_)
    first | exact ⟨by rw [if_neg hz0], hw1r0, hw1r1, hw1r2, fun h => absurd h hz0⟩ | exact ⟨by rw [if_pos hz0], hw1r0, hw1r1, hw1r2, hw1r3⟩
theorem dX11_save_0 : decode cX11_save 0 = .ok (.iload_n 1, 1) := by decide +kernel
theorem dX11_save_1 : decode cX11_save 1 = .ok (.ifCond .lt 8, 3) := by decide +kernel
theorem dX11_save_4 : decode cX11_save 4 = .ok (.iload_n 1, 1) := by decide +kernel
theorem dX11_save_5 : decode cX11_save 5 = .ok (.iconst 2, 1) := by decide +kernel
theorem dX11_save_6 : decode cX11_save 6 = .ok (.if_icmp .lt 6, 3) := by decide +kernel
theorem dX11_save_9 : decode cX11_save 9 = .ok (.ldc 48, 2) := by decide +kernel
theorem dX11_save_11 : decode cX11_save 11 = .ok (.ireturn, 1) := by decide +kernel
theorem dX11_save_12 : decode cX11_save 12 = .ok (.aload_n 0, 1) := by decide +kernel
theorem dX11_save_13 : decode cX11_save 13 = .ok (.getfield 40, 3) := by decide +kernel
theorem dX11_save_16 : decode cX11_save 16 = .ok (.iload_n 1, 1) := by decide +kernel
theorem dX11_save_17 : decode cX11_save 17 = .ok (.aaload, 1) := by decide +kernel
theorem dX11_save_18 : decode cX11_save 18 = .ok (.aload_n 0, 1) := by decide +kernel
theorem dX11_save_19 : decode cX11_save 19 = .ok (.getfield 26, 3) := by decide +kernel
theorem dX11_save_22 : decode cX11_save 22 = .ok (.invokevirtual 194, 3) := by decide +kernel
theorem dX11_save_25 : decode cX11_save 25 = .ok (.aload_n 0, 1) := by decide +kernel
theorem dX11_save_26 : decode cX11_save 26 = .ok (.getfield 44, 3) := by decide +kernel
theorem dX11_save_29 : decode cX11_save 29 = .ok (.iload_n 1, 1) := by decide +kernel
theorem dX11_save_30 : decode cX11_save 30 = .ok (.iconst 1, 1) := by decide +kernel
theorem dX11_save_31 : decode cX11_save 31 = .ok (.bastore, 1) := by decide +kernel
theorem dX11_save_32 : decode cX11_save 32 = .ok (.aload_n 0, 1) := by decide +kernel
theorem dX11_save_33 : decode cX11_save 33 = .ok (.getfield 26, 3) := by decide +kernel
theorem dX11_save_36 : decode cX11_save 36 = .ok (.invokevirtual 118, 3) := by decide +kernel
theorem dX11_save_39 : decode cX11_save 39 = .ok (.ireturn, 1) := by decide +kernel
set_option maxHeartbeats 1000000 in
set_option maxRecDepth 100000 in
theorem t_X11_save (l : Launch) (D : xD) (z n : Nat) (G : xG) (I : xI) (L : xL) (o : Nat) (k : Nat) (hW : shPT G o) (zo : z ≤ o) (hk : k < 2) : xM0 l D z yX11_save cX11_save 2 (some .int) 3 64 [.ref o, .int (nI k)] n G I L (fun v' I' L' => v' = (some (.int (I (o + 75) 4))) ∧ (stEq I L (o + 75) I' L' (o + 268 + 38 * k)) ∧ (∀ j, I' (o + 344) j = if j = k then 1 else I (o + 344) j) ∧ (∀ q, q ≠ o + 344 → (q < o + 268 + 38 * k ∨ o + 268 + 38 * k + 38 ≤ q) → I' q = I q) ∧ (∀ q, (q < o + 268 + 38 * k ∨ o + 268 + 38 * k + 38 ≤ q) → L' q = L q)) := by
  refine xM.of (by decide) (Nat.le_of_ble_eq_true rfl) (fun p e s m args below meth c C hnm hsz => ?_)
  refine x_lv [(0, .ref o), (1, .int (nI k))] rfl ?_
  refine x_iload_n 0 C dX11_save_0 rfl 1 rfl ?_
  refine x_if_lt 1 C 9 dX11_save_1 (by decide) (fun c1 => absurd c1 (nI_pos (n := k) (by omega))) (fun _ => ?_)
  refine x_iload_n 4 C dX11_save_4 rfl 1 rfl ?_
  refine x_iconst 5 C (v := 2) dX11_save_5 rfl ?_
  refine x_icmp_lt 6 C 12 dX11_save_6 (by decide) (fun _ => ?_) (fun c2 => absurd ((nI_ltI (a := k) (b := 2) (by omega) (by omega)).mpr (by omega)) c2)
  refine x_aload_n 12 C dX11_save_12 rfl 0 rfl ?_
  refine x_getr 13 C (b := o + 267) dX11_save_13 ff_X11_40 rfl hW.1 rfl ?_
  refine x_iload_n 16 C dX11_save_16 rfl 1 rfl ?_
  refine x_aald 17 C (b := o + 268 + 38 * k) (j := k) dX11_save_17 (by decide) hW.2.2.2.2.2.1 (xIx_nI (by omega) (by decide)) (if_pos (by omega)) ?_
  refine x_aload_n 18 C dX11_save_18 rfl 0 rfl ?_
  refine x_getr 19 C (b := o + 75) dX11_save_19 ff_X11_26 rfl hW.1 rfl ?_
  refine x_callVp 22 C dX11_save_22 (As := [.ref (o + 75)]) (rest := []) (t_X9_copy l D z n G I L (o + 268 + 38 * k) (o + 75) (hW.2.2.2.2.2.2.1 k (by omega)) hW.2.2.2.1 (by omega) (by first | omega | assumption | decide)) mt_X9_copy km_X11_194 ki_X9_copy ks_X9_copy (hW.2.2.2.2.2.2.1 k (by omega)).1 ⟨by decide, rfl⟩ rfl (Nat.le_of_ble_eq_true rfl) ⟨⟨by decide, by decide⟩, by decide, by decide⟩ (fun w3 I4 L5 hw3 => ?_)
  obtain ⟨hw3v, hw3r0, hw3r1, hw3r2⟩ := hw3
  subst hw3v
  refine x_st [] rfl ?_
  refine x_aload_n 25 C dX11_save_25 rfl 0 rfl ?_
  refine x_getr 26 C (b := o + 344) dX11_save_26 ff_X11_44 rfl hW.1 rfl ?_
  refine x_iload_n 29 C dX11_save_29 rfl 1 rfl ?_
  refine x_iconst 30 C (v := 1) dX11_save_30 rfl ?_
  refine x_zast 31 C (j := k) dX11_save_31 rfl hW.2.2.2.2.2.2.2 (by omega) (xIx_nI (by omega) (by decide)) (fun I6 eI6 => ?_)
  refine x_aload_n 32 C dX11_save_32 rfl 0 rfl ?_
  refine x_getr 33 C (b := o + 75) dX11_save_33 ff_X11_26 rfl hW.1 rfl ?_
  refine x_callVe 36 C dX11_save_36 (As := []) (rest := []) [.int (I6 (o + 75) 4)] (t_X9_pathCount l D z n G I6 L5 (o + 75) hW.2.2.2.1) mt_X9_pathCount km_X11_118 ki_X9_pathCount ks_X9_pathCount hW.2.2.2.1.1 ⟨by decide, rfl⟩ rfl rfl (Nat.le_of_ble_eq_true rfl) ⟨⟨by decide, by decide⟩, by decide, by decide⟩ (fun I7 L8 eI7 eL8 => ?_)
  replace eI7 := eI7.symm; subst eI7
  replace eL8 := eL8.symm; subst eL8
  refine x_int (I (o + 75) 4) (by rw [eI6, xup_row _ _ (by omega), hw3r1 _ (by omega)]) ?_
  refine x_iret 39 C dX11_save_39 rfl rfl (Nat.le_refl _) (xN.intro ?_)
  refine ⟨rfl, stEq_congr' (fun q h1 h2 => by rw [eI6, xup_row _ _ (by omega)]) (fun _ _ _ => rfl) hw3r0, fun j => by rw [eI6, xup_at, hw3r1 _ (by omega)], fun q h1 h2 => by rw [eI6, xup_row _ _ h1, hw3r1 _ (by omega)], fun q h => hw3r2 q h⟩
theorem dX11_restore_0 : decode cX11_restore 0 = .ok (.iload_n 1, 1) := by decide +kernel
theorem dX11_restore_1 : decode cX11_restore 1 = .ok (.ifCond .lt 8, 3) := by decide +kernel
theorem dX11_restore_4 : decode cX11_restore 4 = .ok (.iload_n 1, 1) := by decide +kernel
theorem dX11_restore_5 : decode cX11_restore 5 = .ok (.iconst 2, 1) := by decide +kernel
theorem dX11_restore_6 : decode cX11_restore 6 = .ok (.if_icmp .lt 6, 3) := by decide +kernel
theorem dX11_restore_9 : decode cX11_restore 9 = .ok (.ldc 48, 2) := by decide +kernel
theorem dX11_restore_11 : decode cX11_restore 11 = .ok (.ireturn, 1) := by decide +kernel
theorem dX11_restore_12 : decode cX11_restore 12 = .ok (.aload_n 0, 1) := by decide +kernel
theorem dX11_restore_13 : decode cX11_restore 13 = .ok (.getfield 44, 3) := by decide +kernel
theorem dX11_restore_16 : decode cX11_restore 16 = .ok (.iload_n 1, 1) := by decide +kernel
theorem dX11_restore_17 : decode cX11_restore 17 = .ok (.baload, 1) := by decide +kernel
theorem dX11_restore_18 : decode cX11_restore 18 = .ok (.ifCond .ne 6, 3) := by decide +kernel
theorem dX11_restore_21 : decode cX11_restore 21 = .ok (.ldc 69, 2) := by decide +kernel
theorem dX11_restore_23 : decode cX11_restore 23 = .ok (.ireturn, 1) := by decide +kernel
theorem dX11_restore_24 : decode cX11_restore 24 = .ok (.aload_n 0, 1) := by decide +kernel
theorem dX11_restore_25 : decode cX11_restore 25 = .ok (.getfield 36, 3) := by decide +kernel
theorem dX11_restore_28 : decode cX11_restore 28 = .ok (.aload_n 0, 1) := by decide +kernel
theorem dX11_restore_29 : decode cX11_restore 29 = .ok (.getfield 26, 3) := by decide +kernel
theorem dX11_restore_32 : decode cX11_restore 32 = .ok (.invokevirtual 79, 3) := by decide +kernel
theorem dX11_restore_35 : decode cX11_restore 35 = .ok (.aload_n 0, 1) := by decide +kernel
theorem dX11_restore_36 : decode cX11_restore 36 = .ok (.getfield 26, 3) := by decide +kernel
theorem dX11_restore_39 : decode cX11_restore 39 = .ok (.aload_n 0, 1) := by decide +kernel
theorem dX11_restore_40 : decode cX11_restore 40 = .ok (.getfield 40, 3) := by decide +kernel
theorem dX11_restore_43 : decode cX11_restore 43 = .ok (.iload_n 1, 1) := by decide +kernel
theorem dX11_restore_44 : decode cX11_restore 44 = .ok (.aaload, 1) := by decide +kernel
theorem dX11_restore_45 : decode cX11_restore 45 = .ok (.invokevirtual 194, 3) := by decide +kernel
theorem dX11_restore_48 : decode cX11_restore 48 = .ok (.aload_n 0, 1) := by decide +kernel
theorem dX11_restore_49 : decode cX11_restore 49 = .ok (.getfield 26, 3) := by decide +kernel
theorem dX11_restore_52 : decode cX11_restore 52 = .ok (.invokevirtual 118, 3) := by decide +kernel
theorem dX11_restore_55 : decode cX11_restore 55 = .ok (.ireturn, 1) := by decide +kernel
set_option maxHeartbeats 1000000 in
set_option maxRecDepth 100000 in
theorem t_X11_restore (l : Launch) (D : xD) (z n : Nat) (G : xG) (I : xI) (L : xL) (o : Nat) (k : Nat) (F : Nat) (Z : Nat) (hW : shPT G o) (zo : z ≤ o) (hk : k < 2) (hkf : ¬ I (o + 344) k = 0) (hF : I (o + 113) 1 = nI F) (hF4 : F < 4) (hZ : I (o + 113) 2 = nI Z) (hZ4 : Z ≤ 4) : xM0 l D z yX11_restore cX11_restore 2 (some .int) 4 85 [.ref o, .int (nI k)] n G I L (fun v' I' L' => v' = (some (.int (I (o + 268 + 38 * k) 4))) ∧ (recd I L o F Z I' L') ∧ (stEq I L (o + 268 + 38 * k) I' L' (o + 75)) ∧ (∀ q, q ≠ o + 113 → (q < o + 113 + 2 + 38 * ((F + Z) % 4) ∨ o + 113 + 2 + 38 * ((F + Z) % 4) + 38 ≤ q) → (q < o + 75 ∨ o + 75 + 38 ≤ q) → I' q = I q) ∧ (∀ q, (q < o + 113 + 2 + 38 * ((F + Z) % 4) ∨ o + 113 + 2 + 38 * ((F + Z) % 4) + 38 ≤ q) → (q < o + 75 ∨ o + 75 + 38 ≤ q) → L' q = L q)) := by
  refine xM.of (by decide) (Nat.le_of_ble_eq_true rfl) (fun p e s m args below meth c C hnm hsz => ?_)
  refine x_lv [(0, .ref o), (1, .int (nI k))] rfl ?_
  refine x_iload_n 0 C dX11_restore_0 rfl 1 rfl ?_
  refine x_if_lt 1 C 9 dX11_restore_1 (by decide) (fun c1 => absurd c1 (nI_pos (n := k) (by omega))) (fun _ => ?_)
  refine x_iload_n 4 C dX11_restore_4 rfl 1 rfl ?_
  refine x_iconst 5 C (v := 2) dX11_restore_5 rfl ?_
  refine x_icmp_lt 6 C 12 dX11_restore_6 (by decide) (fun _ => ?_) (fun c2 => absurd ((nI_ltI (a := k) (b := 2) (by omega) (by omega)).mpr (by omega)) c2)
  refine x_aload_n 12 C dX11_restore_12 rfl 0 rfl ?_
  refine x_getr 13 C (b := o + 344) dX11_restore_13 ff_X11_44 rfl hW.1 rfl ?_
  refine x_iload_n 16 C dX11_restore_16 rfl 1 rfl ?_
  refine x_zald 17 C (j := k) dX11_restore_17 hW.2.2.2.2.2.2.2 (xIx_nI (by omega) (by decide)) ?_
  refine x_if_ne 18 C 24 dX11_restore_18 (by decide) (fun _ => ?_) (fun c3 => absurd c3 hkf)
  refine x_aload_n 24 C dX11_restore_24 rfl 0 rfl ?_
  refine x_getr 25 C (b := o + 113) dX11_restore_25 ff_X11_36 rfl hW.1 rfl ?_
  refine x_aload_n 28 C dX11_restore_28 rfl 0 rfl ?_
  refine x_getr 29 C (b := o + 75) dX11_restore_29 ff_X11_26 rfl hW.1 rfl ?_
  refine x_callVp 32 C dX11_restore_32 (As := [.ref (o + 75)]) (rest := []) (t_X4_record l D z n G I L (o + 113) (o + 75) F Z hW.2.2.2.2.1 hW.2.2.2.1 (by omega) (by first | omega | assumption | decide) (by first | assumption | omega | decide) (by first | omega | assumption | decide) (by first | assumption | omega | decide) (by first | omega | assumption | decide)) mt_X4_record km_X11_79 ki_X4_record ks_X4_record hW.2.2.2.2.1.1 ⟨by decide, rfl⟩ rfl (Nat.le_of_ble_eq_true rfl) ⟨⟨by decide, by decide⟩, by decide, by decide⟩ (fun w4 I5 L6 hw4 => ?_)
  obtain ⟨hw4v, hw4r0, hw4r1, hw4r2, hw4r3, hw4r4⟩ := hw4
  subst hw4v
  refine x_st [] rfl ?_
  have hrec : recd I L o F Z I5 L6 := ⟨hw4r0, hw4r1, hw4r2⟩
  have hrI : ∀ q, q ≠ o + 113 → (q < o + 113 + 2 + 38 * ((F + Z) % 4) ∨ o + 113 + 2 + 38 * ((F + Z) % 4) + 38 ≤ q) → I5 q = I q := hw4r3
  have hrL : ∀ q, (q < o + 113 + 2 + 38 * ((F + Z) % 4) ∨ o + 113 + 2 + 38 * ((F + Z) % 4) + 38 ≤ q) → L6 q = L q := hw4r4
  have hrS : ∀ q, o + 75 ≤ q → q < o + 75 + 38 → I5 q = I q := fun q h1 h2 => hrI q (by omega) (by omega)
  have hrSL : ∀ q, o + 75 ≤ q → q < o + 75 + 38 → L6 q = L q := fun q h1 h2 => hrL q (by omega)
  have hrU : I5 (o + 75) 4 = I (o + 75) 4 := by rw [hrS _ (by omega) (by omega)]
  have hrd0 : sdg I5 (o + 75) 0 = sdg I (o + 75) 0 := sdg_congr (fun q h1 h2 => hrS q h1 (by omega)) (by omega)
  have hrd1 : sdg I5 (o + 75) 1 = sdg I (o + 75) 1 := sdg_congr (fun q h1 h2 => hrS q h1 (by omega)) (by omega)
  refine x_aload_n 35 C dX11_restore_35 rfl 0 rfl ?_
  refine x_getr 36 C (b := o + 75) dX11_restore_36 ff_X11_26 rfl hW.1 rfl ?_
  refine x_aload_n 39 C dX11_restore_39 rfl 0 rfl ?_
  refine x_getr 40 C (b := o + 267) dX11_restore_40 ff_X11_40 rfl hW.1 rfl ?_
  refine x_iload_n 43 C dX11_restore_43 rfl 1 rfl ?_
  refine x_aald 44 C (b := o + 268 + 38 * k) (j := k) dX11_restore_44 (by decide) hW.2.2.2.2.2.1 (xIx_nI (by omega) (by decide)) (if_pos (by omega)) ?_
  refine x_callVp 45 C dX11_restore_45 (As := [.ref (o + 268 + 38 * k)]) (rest := []) (t_X9_copy l D z n G I5 L6 (o + 75) (o + 268 + 38 * k) hW.2.2.2.1 (hW.2.2.2.2.2.2.1 k (by omega)) (by omega) (by first | omega | assumption | decide)) mt_X9_copy km_X11_194 ki_X9_copy ks_X9_copy hW.2.2.2.1.1 ⟨by decide, rfl⟩ rfl (Nat.le_of_ble_eq_true rfl) ⟨⟨by decide, by decide⟩, by decide, by decide⟩ (fun w7 I8 L9 hw7 => ?_)
  obtain ⟨hw7v, hw7r0, hw7r1, hw7r2⟩ := hw7
  subst hw7v
  refine x_st [] rfl ?_
  refine x_aload_n 48 C dX11_restore_48 rfl 0 rfl ?_
  refine x_getr 49 C (b := o + 75) dX11_restore_49 ff_X11_26 rfl hW.1 rfl ?_
  refine x_callVe 52 C dX11_restore_52 (As := []) (rest := []) [.int (I8 (o + 75) 4)] (t_X9_pathCount l D z n G I8 L9 (o + 75) hW.2.2.2.1) mt_X9_pathCount km_X11_118 ki_X9_pathCount ks_X9_pathCount hW.2.2.2.1.1 ⟨by decide, rfl⟩ rfl rfl (Nat.le_of_ble_eq_true rfl) ⟨⟨by decide, by decide⟩, by decide, by decide⟩ (fun I10 L11 eI10 eL11 => ?_)
  replace eI10 := eI10.symm; subst eI10
  replace eL11 := eL11.symm; subst eL11
  refine x_int (I (o + 268 + 38 * k) 4) (hw7r0.2.2.1.trans (by rw [hrI _ (by omega) (by omega)])) ?_
  refine x_iret 55 C dX11_restore_55 rfl rfl (Nat.le_refl _) (xN.intro ?_)
  refine ⟨rfl, recd_congr (fun q h1 h2 => (hw7r1 q (by omega)).symm) (fun q h1 h2 => (hw7r2 q (by omega)).symm) hrec, stEq_congr (fun q h1 h2 => hrI q (by omega) (by omega)) (fun q h1 h2 => hrL q (by omega)) hw7r0, fun q h1 h2 h3 => by rw [hw7r1 q (by omega)]; exact hrI q h1 h2, fun q h1 h2 => by rw [hw7r2 q (by omega)]; exact hrL q h1⟩
set_option maxHeartbeats 1000000 in
set_option maxRecDepth 100000 in
theorem t_X11_restore_no (l : Launch) (D : xD) (z n : Nat) (G : xG) (I : xI) (L : xL) (o : Nat) (k : Nat) (hW : shPT G o) (hk : k < 2) (hkf : I (o + 344) k = 0) : xM0 l D z yX11_restore cX11_restore 2 (some .int) 4 85 [.ref o, .int (nI k)] n G I L (xE (some (.int (-2000000002))) I L) := by
  refine xM.of (by decide) (Nat.le_of_ble_eq_true rfl) (fun p e s m args below meth c C hnm hsz => ?_)
  refine x_lv [(0, .ref o), (1, .int (nI k))] rfl ?_
  refine x_iload_n 0 C dX11_restore_0 rfl 1 rfl ?_
  refine x_if_lt 1 C 9 dX11_restore_1 (by decide) (fun c1 => absurd c1 (nI_pos (n := k) (by omega))) (fun _ => ?_)
  refine x_iload_n 4 C dX11_restore_4 rfl 1 rfl ?_
  refine x_iconst 5 C (v := 2) dX11_restore_5 rfl ?_
  refine x_icmp_lt 6 C 12 dX11_restore_6 (by decide) (fun _ => ?_) (fun c2 => absurd ((nI_ltI (a := k) (b := 2) (by omega) (by omega)).mpr (by omega)) c2)
  refine x_aload_n 12 C dX11_restore_12 rfl 0 rfl ?_
  refine x_getr 13 C (b := o + 344) dX11_restore_13 ff_X11_44 rfl hW.1 rfl ?_
  refine x_iload_n 16 C dX11_restore_16 rfl 1 rfl ?_
  refine x_zald 17 C (j := k) dX11_restore_17 hW.2.2.2.2.2.2.2 (xIx_nI (by omega) (by decide)) ?_
  refine x_if_ne 18 C 24 dX11_restore_18 (by decide) (fun c3 => absurd hkf c3) (fun _ => ?_)
  refine x_ldc 21 C (-2000000002) dX11_restore_21 kk_X11_69 ?_
  refine x_iret 23 C dX11_restore_23 rfl rfl (Nat.le_refl _) (xN.intro ?_)
  exact ⟨rfl, rfl, rfl⟩
set_option maxHeartbeats 1000000 in
set_option maxRecDepth 100000 in
theorem t_X11_save_bad (l : Launch) (D : xD) (z n : Nat) (G : xG) (I : xI) (L : xL) (o : Nat) (x : Int32) (hW : shPT G o) (hbad : ¬ (0 ≤ x ∧ x < 2)) : xM0 l D z yX11_save cX11_save 2 (some .int) 3 64 [.ref o, .int x] n G I L (xE (some (.int (-2000000001))) I L) := by
  refine xM.of (by decide) (Nat.le_of_ble_eq_true rfl) (fun p e s m args below meth c C hnm hsz => ?_)
  refine x_lv [(0, .ref o), (1, .int x)] rfl ?_
  refine x_iload_n 0 C dX11_save_0 rfl 1 rfl ?_
  refine x_if_lt 1 C 9 dX11_save_1 (by decide) (fun c1 => ?_) (fun c1 => ?_)
  · skip
    have c1o := Int32.not_le.mpr c1
    refine x_ldc 9 C (-2000000001) dX11_save_9 kk_X11_48 ?_
    refine x_iret 11 C dX11_save_11 rfl rfl (Nat.le_refl _) (xN.intro ?_)
    exact ⟨rfl, rfl, rfl⟩
  · skip
    have c1o := Int32.not_lt.mp c1
    refine x_iload_n 4 C dX11_save_4 rfl 1 rfl ?_
    refine x_iconst 5 C (v := 2) dX11_save_5 rfl ?_
    refine x_icmp_lt 6 C 12 dX11_save_6 (by decide) (fun c2 => ?_) (fun c2 => ?_)
    · skip
      have c2o := Int32.not_le.mpr c2
      exact absurd ⟨by assumption, by assumption⟩ hbad
    · skip
      have c2o := Int32.not_lt.mp c2
      refine x_ldc 9 C (-2000000001) dX11_save_9 kk_X11_48 ?_
      refine x_iret 11 C dX11_save_11 rfl rfl (Nat.le_refl _) (xN.intro ?_)
      exact ⟨rfl, rfl, rfl⟩
set_option maxHeartbeats 1000000 in
set_option maxRecDepth 100000 in
theorem t_X11_restore_bad (l : Launch) (D : xD) (z n : Nat) (G : xG) (I : xI) (L : xL) (o : Nat) (x : Int32) (hW : shPT G o) (hbad : ¬ (0 ≤ x ∧ x < 2)) : xM0 l D z yX11_restore cX11_restore 2 (some .int) 4 85 [.ref o, .int x] n G I L (xE (some (.int (-2000000001))) I L) := by
  refine xM.of (by decide) (Nat.le_of_ble_eq_true rfl) (fun p e s m args below meth c C hnm hsz => ?_)
  refine x_lv [(0, .ref o), (1, .int x)] rfl ?_
  refine x_iload_n 0 C dX11_restore_0 rfl 1 rfl ?_
  refine x_if_lt 1 C 9 dX11_restore_1 (by decide) (fun c1 => ?_) (fun c1 => ?_)
  · skip
    have c1o := Int32.not_le.mpr c1
    refine x_ldc 9 C (-2000000001) dX11_restore_9 kk_X11_48 ?_
    refine x_iret 11 C dX11_restore_11 rfl rfl (Nat.le_refl _) (xN.intro ?_)
    exact ⟨rfl, rfl, rfl⟩
  · skip
    have c1o := Int32.not_lt.mp c1
    refine x_iload_n 4 C dX11_restore_4 rfl 1 rfl ?_
    refine x_iconst 5 C (v := 2) dX11_restore_5 rfl ?_
    refine x_icmp_lt 6 C 12 dX11_restore_6 (by decide) (fun c2 => ?_) (fun c2 => ?_)
    · skip
      have c2o := Int32.not_le.mpr c2
      exact absurd ⟨by assumption, by assumption⟩ hbad
    · skip
      have c2o := Int32.not_lt.mp c2
      refine x_ldc 9 C (-2000000001) dX11_restore_9 kk_X11_48 ?_
      refine x_iret 11 C dX11_restore_11 rfl rfl (Nat.le_refl _) (xN.intro ?_)
      exact ⟨rfl, rfl, rfl⟩
theorem dX11_track_0 : decode cX11_track 0 = .ok (.aload_n 0, 1) := by decide +kernel
theorem dX11_track_1 : decode cX11_track 1 = .ok (.getfield 26, 3) := by decide +kernel
theorem dX11_track_4 : decode cX11_track 4 = .ok (.iload_n 1, 1) := by decide +kernel
theorem dX11_track_5 : decode cX11_track 5 = .ok (.invokevirtual 98, 3) := by decide +kernel
theorem dX11_track_8 : decode cX11_track 8 = .ok (.ifCond .eq 15, 3) := by decide +kernel
theorem dX11_track_11 : decode cX11_track 11 = .ok (.iload_n 2, 1) := by decide +kernel
theorem dX11_track_12 : decode cX11_track 12 = .ok (.iconst 1, 1) := by decide +kernel
theorem dX11_track_13 : decode cX11_track 13 = .ok (.if_icmp .lt 10, 3) := by decide +kernel
theorem dX11_track_16 : decode cX11_track 16 = .ok (.iload_n 2, 1) := by decide +kernel
theorem dX11_track_17 : decode cX11_track 17 = .ok (.sipush 200, 3) := by decide +kernel
theorem dX11_track_20 : decode cX11_track 20 = .ok (.if_icmp .le 6, 3) := by decide +kernel
theorem dX11_track_23 : decode cX11_track 23 = .ok (.ldc 48, 2) := by decide +kernel
theorem dX11_track_25 : decode cX11_track 25 = .ok (.ireturn, 1) := by decide +kernel
theorem dX11_track_26 : decode cX11_track 26 = .ok (.aload_n 0, 1) := by decide +kernel
theorem dX11_track_27 : decode cX11_track 27 = .ok (.getfield 26, 3) := by decide +kernel
theorem dX11_track_30 : decode cX11_track 30 = .ok (.iload_n 1, 1) := by decide +kernel
theorem dX11_track_31 : decode cX11_track 31 = .ok (.invokevirtual 101, 3) := by decide +kernel
theorem dX11_track_34 : decode cX11_track 34 = .ok (.astore_n 3, 1) := by decide +kernel
theorem dX11_track_35 : decode cX11_track 35 = .ok (.aload_n 3, 1) := by decide +kernel
theorem dX11_track_36 : decode cX11_track 36 = .ok (.getfield 105, 3) := by decide +kernel
theorem dX11_track_39 : decode cX11_track 39 = .ok (.ifCond .eq 6, 3) := by decide +kernel
theorem dX11_track_42 : decode cX11_track 42 = .ok (.ldc 69, 2) := by decide +kernel
theorem dX11_track_44 : decode cX11_track 44 = .ok (.ireturn, 1) := by decide +kernel
theorem dX11_track_45 : decode cX11_track 45 = .ok (.aload_n 0, 1) := by decide +kernel
theorem dX11_track_46 : decode cX11_track 46 = .ok (.getfield 36, 3) := by decide +kernel
theorem dX11_track_49 : decode cX11_track 49 = .ok (.aload_n 0, 1) := by decide +kernel
theorem dX11_track_50 : decode cX11_track 50 = .ok (.getfield 26, 3) := by decide +kernel
theorem dX11_track_53 : decode cX11_track 53 = .ok (.invokevirtual 79, 3) := by decide +kernel
theorem dX11_track_56 : decode cX11_track 56 = .ok (.aload_n 0, 1) := by decide +kernel
theorem dX11_track_57 : decode cX11_track 57 = .ok (.getfield 19, 3) := by decide +kernel
theorem dX11_track_60 : decode cX11_track 60 = .ok (.aload_n 0, 1) := by decide +kernel
theorem dX11_track_61 : decode cX11_track 61 = .ok (.getfield 26, 3) := by decide +kernel
theorem dX11_track_64 : decode cX11_track 64 = .ok (.invokevirtual 111, 3) := by decide +kernel
theorem dX11_track_67 : decode cX11_track 67 = .ok (.aload_n 0, 1) := by decide +kernel
theorem dX11_track_68 : decode cX11_track 68 = .ok (.getfield 19, 3) := by decide +kernel
theorem dX11_track_71 : decode cX11_track 71 = .ok (.aload_n 3, 1) := by decide +kernel
theorem dX11_track_72 : decode cX11_track 72 = .ok (.iload_n 2, 1) := by decide +kernel
theorem dX11_track_73 : decode cX11_track 73 = .ok (.invokevirtual 114, 3) := by decide +kernel
theorem dX11_track_76 : decode cX11_track 76 = .ok (.ireturn, 1) := by decide +kernel
set_option maxHeartbeats 1000000 in
set_option maxRecDepth 100000 in
theorem t_X11_track (l : Launch) (D : xD) (z n : Nat) (G : xG) (I : xI) (L : xL) (o : Nat) (k : Nat) (U : Nat) (T : Nat) (F : Nat) (Z : Nat) (R : Nat) (s0 : Nat) (hW : shPT G o) (zo : z ≤ o) (hU : I (o + 75) 4 = nI U) (hU9 : U ≤ 9) (hk : k < U) (hT1 : 1 ≤ T) (hT2 : T ≤ 200) (hst : I (o + 75 + 11 + 3 * k) 2 = 0) (hw : wfR (I (o + 75 + 11 + 3 * k))) (hd0 : 1 ≤ sdg I (o + 75) 0) (hd1 : 1 ≤ sdg I (o + 75) 1) (hR : I (o + 75 + 9) 2 = nI R) (hR9 : R ≤ 9) (hs0 : I (o + 75 + 9) 0 = nI s0) (hs0l : s0 ≤ 256) (hF : I (o + 113) 1 = nI F) (hF4 : F < 4) (hZ : I (o + 113) 2 = nI Z) (hZ4 : Z ≤ 4) : xM0 l D z yX11_track cX11_track 4 (some .int) 6 156 [.ref o, .int (nI k), .int (nI T)] n G I L (fun v' I' L' => v' = (some (.int (nI ((folS I (o + 75) R s0 T (pv I L (o + 75 + 11 + 3 * k))).1)))) ∧ (recd I L o F Z I' L') ∧ (pv I' L' (o + 75 + 11 + 3 * k) = (folS I (o + 75) R s0 T (pv I L (o + 75 + 11 + 3 * k))).2) ∧ (wfR (I' (o + 75 + 11 + 3 * k))) ∧ (∀ q, q ≠ o + 113 → (q < o + 113 + 2 + 38 * ((F + Z) % 4) ∨ o + 113 + 2 + 38 * ((F + Z) % 4) + 38 ≤ q) → (q < o + 7 ∨ o + 75 ≤ q) → q ≠ o + 75 + 11 + 3 * k → I' q = I q) ∧ (∀ q, (q < o + 113 + 2 + 38 * ((F + Z) % 4) ∨ o + 113 + 2 + 38 * ((F + Z) % 4) + 38 ≤ q) → (q < o + 7 ∨ o + 75 ≤ q) → q ≠ o + 75 + 11 + 3 * k + 1 → q ≠ o + 75 + 11 + 3 * k + 2 → L' q = L q)) := by
  refine xM.of (by decide) (Nat.le_of_ble_eq_true rfl) (fun p e s m args below meth c C hnm hsz => ?_)
  refine x_lv [(0, .ref o), (1, .int (nI k)), (2, .int (nI T))] rfl ?_
  refine x_aload_n 0 C dX11_track_0 rfl 0 rfl ?_
  refine x_getr 1 C (b := o + 75) dX11_track_1 ff_X11_26 rfl hW.1 rfl ?_
  refine x_iload_n 4 C dX11_track_4 rfl 1 rfl ?_
  refine x_callVe 5 C dX11_track_5 (As := [.int (nI k)]) (rest := []) [.int 1] (t_X9_hasPath_k l D z n G I L (o + 75) k U hW.2.2.2.1 (by first | assumption | omega | decide) (by first | omega | assumption | decide) (by first | omega | assumption | decide)) mt_X9_hasPath km_X11_98 ki_X9_hasPath ks_X9_hasPath hW.2.2.2.1.1 ⟨by decide, rfl⟩ rfl rfl (Nat.le_of_ble_eq_true rfl) ⟨⟨by decide, by decide⟩, by decide, by decide⟩ (fun I1 L2 eI1 eL2 => ?_)
  replace eI1 := eI1.symm; subst eI1
  replace eL2 := eL2.symm; subst eL2
  refine x_if_eq 8 C 23 dX11_track_8 (by decide) (fun c3 => absurd c3 (by decide)) (fun _ => ?_)
  refine x_iload_n 11 C dX11_track_11 rfl 2 rfl ?_
  refine x_iconst 12 C (v := 1) dX11_track_12 rfl ?_
  refine x_icmp_lt 13 C 23 dX11_track_13 (by decide) (fun c4 => absurd c4 (fun h => absurd ((nI_ltI (a := T) (b := 1) (by omega) (by omega)).mp h) (by omega))) (fun _ => ?_)
  refine x_iload_n 16 C dX11_track_16 rfl 2 rfl ?_
  refine x_sipush 17 C (v := 200) dX11_track_17 rfl ?_
  refine x_icmp_le 20 C 26 dX11_track_20 (by decide) (fun _ => ?_) (fun c5 => absurd ((nI_leI (a := T) (b := 200) (by omega) (by omega)).mpr (by omega)) c5)
  refine x_aload_n 26 C dX11_track_26 rfl 0 rfl ?_
  refine x_getr 27 C (b := o + 75) dX11_track_27 ff_X11_26 rfl hW.1 rfl ?_
  refine x_iload_n 30 C dX11_track_30 rfl 1 rfl ?_
  refine x_callVe 31 C dX11_track_31 (As := [.int (nI k)]) (rest := []) [.ref (o + 75 + 11 + 3 * k)] (t_X9_pathAt l D z n G I L (o + 75) k U hW.2.2.2.1 (by first | assumption | omega | decide) (by first | omega | assumption | decide) (by first | omega | assumption | decide)) mt_X9_pathAt km_X11_101 ki_X9_pathAt ks_X9_pathAt hW.2.2.2.1.1 ⟨by decide, rfl⟩ rfl rfl (Nat.le_of_ble_eq_true rfl) ⟨⟨by decide, by decide⟩, by decide, by decide⟩ (fun I6 L7 eI6 eL7 => ?_)
  replace eI6 := eI6.symm; subst eI6
  replace eL7 := eL7.symm; subst eL7
  refine x_astore_n 34 C [(3, .ref (o + 75 + 11 + 3 * k)), (0, .ref o), (1, .int (nI k)), (2, .int (nI T))] dX11_track_34 rfl (by decide) rfl ?_
  refine x_aload_n 35 C dX11_track_35 rfl 0 rfl ?_
  refine x_geti 36 C dX11_track_36 ff_X11_105 (hW.2.2.2.1.2.2.2.2 k (by omega)).1 ?_
  refine x_if_eq 39 C 45 dX11_track_39 (by decide) (fun _ => ?_) (fun c8 => absurd hst c8)
  refine x_aload_n 45 C dX11_track_45 rfl 1 rfl ?_
  refine x_getr 46 C (b := o + 113) dX11_track_46 ff_X11_36 rfl hW.1 rfl ?_
  refine x_aload_n 49 C dX11_track_49 rfl 1 rfl ?_
  refine x_getr 50 C (b := o + 75) dX11_track_50 ff_X11_26 rfl hW.1 rfl ?_
  refine x_callVp 53 C dX11_track_53 (As := [.ref (o + 75)]) (rest := []) (t_X4_record l D z n G I L (o + 113) (o + 75) F Z hW.2.2.2.2.1 hW.2.2.2.1 (by omega) (by first | omega | assumption | decide) (by first | assumption | omega | decide) (by first | omega | assumption | decide) (by first | assumption | omega | decide) (by first | omega | assumption | decide)) mt_X4_record km_X11_79 ki_X4_record ks_X4_record hW.2.2.2.2.1.1 ⟨by decide, rfl⟩ rfl (Nat.le_of_ble_eq_true rfl) ⟨⟨by decide, by decide⟩, by decide, by decide⟩ (fun w9 I10 L11 hw9 => ?_)
  obtain ⟨hw9v, hw9r0, hw9r1, hw9r2, hw9r3, hw9r4⟩ := hw9
  subst hw9v
  refine x_st [] rfl ?_
  have hrec : recd I L o F Z I10 L11 := ⟨hw9r0, hw9r1, hw9r2⟩
  have hrI : ∀ q, q ≠ o + 113 → (q < o + 113 + 2 + 38 * ((F + Z) % 4) ∨ o + 113 + 2 + 38 * ((F + Z) % 4) + 38 ≤ q) → I10 q = I q := hw9r3
  have hrL : ∀ q, (q < o + 113 + 2 + 38 * ((F + Z) % 4) ∨ o + 113 + 2 + 38 * ((F + Z) % 4) + 38 ≤ q) → L11 q = L q := hw9r4
  have hrS : ∀ q, o + 75 ≤ q → q < o + 75 + 38 → I10 q = I q := fun q h1 h2 => hrI q (by omega) (by omega)
  have hrSL : ∀ q, o + 75 ≤ q → q < o + 75 + 38 → L11 q = L q := fun q h1 h2 => hrL q (by omega)
  have hrU : I10 (o + 75) 4 = I (o + 75) 4 := by rw [hrS _ (by omega) (by omega)]
  have hrd0 : sdg I10 (o + 75) 0 = sdg I (o + 75) 0 := sdg_congr (fun q h1 h2 => hrS q h1 (by omega)) (by omega)
  have hrd1 : sdg I10 (o + 75) 1 = sdg I (o + 75) 1 := sdg_congr (fun q h1 h2 => hrS q h1 (by omega)) (by omega)
  refine x_aload_n 56 C dX11_track_56 rfl 1 rfl ?_
  refine x_getr 57 C (b := o + 7) dX11_track_57 ff_X11_19 rfl hW.1 rfl ?_
  refine x_aload_n 60 C dX11_track_60 rfl 1 rfl ?_
  refine x_getr 61 C (b := o + 75) dX11_track_61 ff_X11_26 rfl hW.1 rfl ?_
  refine x_callVp 64 C dX11_track_64 (As := [.ref (o + 75)]) (rest := []) (t_X3_aim l D z n G I10 L11 (o + 7) (o + 75) hW.2.2.1 hW.2.2.2.1 (by omega) (by first | omega | assumption | decide) (by rw [hrd0]; exact hd0) (by rw [hrd1]; exact hd1)) mt_X3_aim km_X11_111 ki_X3_aim ks_X3_aim hW.2.2.1.1 ⟨by decide, rfl⟩ rfl (Nat.le_of_ble_eq_true rfl) ⟨⟨by decide, by decide⟩, by decide, by decide⟩ (fun w12 I13 L14 hw12 => ?_)
  obtain ⟨hw12v, eL14, hw12r0, hw12r1, hw12r2⟩ := hw12
  subst hw12v
  refine x_st [] rfl ?_
  replace eL14 := eL14.symm; subst eL14
  have hAy : aimedS I13 (o + 7 + 1) (yOf I (o + 75)) := by have h : aimedS I13 (o + 7 + 1) (yOf I10 (o + 75)) := hw12r0; rw [yOf_congr (fun q h1 h2 => hrS q h1 (by omega))] at h; exact h
  have hfr := hw12r2
  have hf4 : I13 (o + 7) 4 = I (o + 75 + 9) 0 := by rw [hw12r1.1, hrS _ (by omega) (by omega)]
  have hf5 : I13 (o + 7) 5 = I (o + 75 + 9) 2 := by rw [hw12r1.2.1, hrS _ (by omega) (by omega)]
  have hf6 : I13 (o + 7) 6 = I (o + 75 + 9) 3 := by rw [hw12r1.2.2.1, hrS _ (by omega) (by omega)]
  have hf7 : I13 (o + 7) 7 = I (o + 75 + 9) 4 := by rw [hw12r1.2.2.2, hrS _ (by omega) (by omega)]
  refine x_aload_n 67 C dX11_track_67 rfl 1 rfl ?_
  refine x_getr 68 C (b := o + 7) dX11_track_68 ff_X11_19 rfl hW.1 rfl ?_
  refine x_aload_n 71 C dX11_track_71 rfl 0 rfl ?_
  refine x_iload_n 72 C dX11_track_72 rfl 3 rfl ?_
  refine x_callVp 73 C dX11_track_73 (As := [.ref (o + 75 + 11 + 3 * k), .int (nI T)]) (rest := []) (t_X3_follow l D z n G I13 L11 (o + 7) (o + 75 + 11 + 3 * k) T s0 R (yOf I (o + 75)) hW.2.2.1 (by omega) (hW.2.2.2.1.2.2.2.2 k (by omega)) (by omega) (by first | omega | assumption | decide) (by first | omega | assumption | decide) hAy (by rw [hf5]; exact hR) (by first | omega | assumption | decide) (by rw [hf4]; exact hs0) (by first | omega | assumption | decide) (by rw [hfr _ (by omega), hrS _ (by omega) (by omega)]; exact hw)) mt_X3_follow km_X11_114 ki_X3_follow ks_X3_follow hW.2.2.1.1 ⟨by decide, rfl⟩ rfl (Nat.le_of_ble_eq_true rfl) ⟨⟨by decide, by decide⟩, by decide, by decide⟩ (fun w15 I16 L17 hw15 => ?_)
  obtain ⟨hw15v, hw15r0, hw15r1, hw15r2, hw15r3⟩ := hw15
  subst hw15v
  refine x_st [.int (nI (foll (yOf I (o + 75)) R (I13 (o + 7) 6) (I13 (o + 7) 7) (nI s0) T (pv I13 L11 (o + 75 + 11 + 3 * k))).1)] rfl ?_
  refine x_iret 76 C dX11_track_76 rfl rfl (Nat.le_refl _) (xN.intro ?_)
  have hpv : pv I13 L11 (o + 75 + 11 + 3 * k) = pv I L (o + 75 + 11 + 3 * k) := pv_congr (by rw [hfr _ (by omega), hrS _ (by omega) (by omega)]) (hrSL _ (by omega) (by omega)) (hrSL _ (by omega) (by omega))
  have hfo : foll (yOf I (o + 75)) R (I13 (o + 7) 6) (I13 (o + 7) 7) (nI s0) T (pv I13 L11 (o + 75 + 11 + 3 * k)) = folS I (o + 75) R s0 T (pv I L (o + 75 + 11 + 3 * k)) := by rw [hf6, hf7, hpv]; rfl
  refine ⟨by rw [hfo], recd_congr (fun q h1 h2 => ?_) (fun q h1 h2 => ?_) hrec, by rw [← hfo]; exact hw15r0, hw15r1, fun q h1 h2 h3 h4 => ?_, fun q h1 h2 h3 h4 => ?_⟩
  · rw [hw15r2 q (by omega), hfr q (by omega)]
  · rw [hw15r3 q (by omega) (by omega) (by omega)]
  · rw [hw15r2 q h4, hfr q (by omega)]; exact hrI q h1 h2
  · rw [hw15r3 q h3 h4 (by omega)]; exact hrL q h1
