/-! PathTracker at o -/
def rPT (o : Nat) : Nat → Option Nat := va_up (va_up (va_up (va_up (va_up (va_up rN 0 (some (o + 1))) 1 (some (o + 7))) 2 (some (o + 75))) 3 (some (o + 113))) 4 (some (o + 267))) 5 (some (o + 344))
def rSl (o : Nat) : Nat → Option Nat := fun k => if k < 2 then some (o + 268 + 38 * k) else none
def shPT (G : xG) (o : Nat) : Prop := G o = some (11, 0, rPT o) ∧ shX G (o + 1) ∧ shF G (o + 7) ∧ shS G (o + 75) ∧ shHi G (o + 113) ∧ G (o + 267) = some (26, 2, rSl o) ∧ (∀ k, k < 2 → shS G (o + 268 + 38 * k)) ∧ G (o + 344) = some (22, 2, rN)
def nfO (o : Option Nat) : Int32 := match o with
  | some i => nI i
  | none => -2000000004
theorem nfO_of {p : Nat → Bool} {m : Nat} (hm : m ≤ 9) : (if oI (findN p m) < 0 then (-2000000004 : Int32) else oI (findN p m)) = nfO (findN p m) := by
  cases h : findN p m with
  | none => rfl
  | some i =>
    have hi := findN_lt p m i h
    have h2 : ¬ nI i < 0 := nI_pos (by omega)
    simp [oI, nfO, h2]
theorem nfO_mb {I : xI} {S m : Nat} (hm : m ≤ 9) : (if oI (mbN I S m) < 0 then (-2000000004 : Int32) else oI (mbN I S m)) = nfO (mbN I S m) := by
  cases h : mbN I S m with
  | none => rfl
  | some i =>
    have hi := mbN_lt I S m i h
    have h2 : ¬ nI i < 0 := nI_pos (by omega)
    simp [oI, nfO, h2]
theorem hasP_k {I : xI} {S U k : Nat} (hU : I S 4 = nI U) (hU9 : U ≤ 9) (hk : k < U) : hasP I S (nI k) = true := by
  have h1 : (0 : Int32) ≤ nI k := Int32.not_lt.mp (nI_pos (by omega))
  have h2 : nI k < nI U := nI_lt hk (by omega)
  have h3 : nI k < 9 := nI_lt (b := 9) (by omega) (by omega)
  simp [hasP, hU, h1, h2, h3]
theorem hasP_ex {I : xI} {S U : Nat} {x : Int32} (hU : I S 4 = nI U) (hU9 : U ≤ 9) (h : hasP I S x = true) : ∃ k, x = nI k ∧ k < U := by
  simp [hasP, hU] at h
  obtain ⟨h1, h2, h3⟩ := h
  have e1 := Int32.le_iff_toInt_le.mp h1
  have e2 := Int32.lt_iff_toInt_lt.mp h2
  rw [nI_toInt (by omega)] at e2
  have e0 : (0 : Int32).toInt = 0 := by decide
  rw [e0] at e1
  refine ⟨x.toInt.toNat, ?_, by omega⟩
  apply Int32.toInt_inj.mp
  rw [nI_toInt (by omega)]
  omega
theorem dX11_type_0 : decode cX11_type 0 = .ok (.iload_n 1, 1) := by decide +kernel
theorem dX11_type_1 : decode cX11_type 1 = .ok (.bipush 33, 2) := by decide +kernel
theorem dX11_type_3 : decode cX11_type 3 = .ok (.if_icmp .lt 9, 3) := by decide +kernel
theorem dX11_type_6 : decode cX11_type 6 = .ok (.iload_n 1, 1) := by decide +kernel
theorem dX11_type_7 : decode cX11_type 7 = .ok (.bipush 126, 2) := by decide +kernel
theorem dX11_type_9 : decode cX11_type 9 = .ok (.if_icmp .le 6, 3) := by decide +kernel
theorem dX11_type_12 : decode cX11_type 12 = .ok (.ldc 48, 2) := by decide +kernel
theorem dX11_type_14 : decode cX11_type 14 = .ok (.ireturn, 1) := by decide +kernel
theorem dX11_type_15 : decode cX11_type 15 = .ok (.aload_n 0, 1) := by decide +kernel
theorem dX11_type_16 : decode cX11_type 16 = .ok (.getfield 10, 3) := by decide +kernel
theorem dX11_type_19 : decode cX11_type 19 = .ok (.iload_n 1, 1) := by decide +kernel
theorem dX11_type_20 : decode cX11_type 20 = .ok (.invokevirtual 49, 3) := by decide +kernel
theorem dX11_type_23 : decode cX11_type 23 = .ok (.ifCond .eq 13, 3) := by decide +kernel
theorem dX11_type_26 : decode cX11_type 26 = .ok (.aload_n 0, 1) := by decide +kernel
theorem dX11_type_27 : decode cX11_type 27 = .ok (.getfield 10, 3) := by decide +kernel
theorem dX11_type_30 : decode cX11_type 30 = .ok (.invokevirtual 53, 3) := by decide +kernel
theorem dX11_type_33 : decode cX11_type 33 = .ok (.goto 5, 3) := by decide +kernel
theorem dX11_type_36 : decode cX11_type 36 = .ok (.ldc 57, 2) := by decide +kernel
theorem dX11_type_38 : decode cX11_type 38 = .ok (.ireturn, 1) := by decide +kernel
set_option maxHeartbeats 1000000 in
set_option maxRecDepth 100000 in
theorem t_X11_type (l : Launch) (D : xD) (z n : Nat) (G : xG) (I : xI) (L : xL) (o : Nat) (x : Int32) (N : Nat) (hW : shPT G o) (zo : z ≤ o) (hN : I (o + 1) 2 = nI N) (hN6 : N ≤ 60) : xM0 l D z yX11_type cX11_type 2 (some .int) 1 21 [.ref o, .int x] n G I L (xE (some (.int (if x < 33 ∨ 126 < x then (-2000000001) else if N < 60 then nI (N + 1) else (-2000000003)))) (if x < 33 ∨ 126 < x then I else if N < 60 then xup (xup I (o + 1 + 1) N x) (o + 1) 2 (nI (N + 1)) else I) L) := by
  refine xM.of (by decide) (Nat.le_of_ble_eq_true rfl) (fun p e s m args below meth c C hnm hsz => ?_)
  refine x_lv [(0, .ref o), (1, .int x)] rfl ?_
  refine x_iload_n 0 C dX11_type_0 rfl 1 rfl ?_
  refine x_bipush 1 C (v := 33) dX11_type_1 rfl ?_
  refine x_icmp_lt 3 C 12 dX11_type_3 (by decide) (fun c1 => ?_) (fun c1 => ?_)
  · skip
    have c1o := Int32.not_le.mpr c1
    refine x_ldc 12 C (-2000000001) dX11_type_12 kk_X11_48 ?_
    refine x_iret 14 C dX11_type_14 rfl rfl (Nat.le_refl _) (xN.intro ?_)
    have hb : x < 33 ∨ 126 < x := by first | exact Or.inl (by assumption) | exact Or.inr (by assumption)
    exact ⟨by rw [if_pos hb], by rw [if_pos hb], rfl⟩
  · skip
    have c1o := Int32.not_lt.mp c1
    refine x_iload_n 6 C dX11_type_6 rfl 1 rfl ?_
    refine x_bipush 7 C (v := 126) dX11_type_7 rfl ?_
    refine x_icmp_le 9 C 15 dX11_type_9 (by decide) (fun c2 => ?_) (fun c2 => ?_)
    · skip
      have c2o := Int32.not_lt.mpr c2
      refine x_aload_n 15 C dX11_type_15 rfl 0 rfl ?_
      refine x_getr 16 C (b := o + 1) dX11_type_16 ff_X11_10 rfl hW.1 rfl ?_
      refine x_iload_n 19 C dX11_type_19 rfl 1 rfl ?_
      refine x_callVe 20 C dX11_type_20 (As := [.int x]) (rest := []) [.int (if N < 60 then 1 else 0)] (t_X2_append l D z n G I L (o + 1) x N hW.2.1 (by omega) (by first | assumption | omega | decide) (by first | omega | assumption | decide)) mt_X2_append km_X11_49 ki_X2_append ks_X2_append hW.2.1.1 ⟨by decide, rfl⟩ rfl rfl (Nat.le_of_ble_eq_true rfl) ⟨⟨by decide, by decide⟩, by decide, by decide⟩ (fun I3 L4 eI3 eL4 => ?_)
      replace eL4 := eL4.symm; subst eL4
      refine x_if_eq 23 C 36 dX11_type_23 (by decide) (fun c5 => ?_) (fun c5 => ?_)
      · skip
        have h6 : ¬ N < 60 := fun h => absurd (c5) (by rw [if_pos h]; decide)
        refine x_ldc 36 C (-2000000003) dX11_type_36 kk_X11_57 ?_
        refine x_iret 38 C dX11_type_38 rfl rfl (Nat.le_refl _) (xN.intro ?_)
        have hb : ¬ (x < 33 ∨ 126 < x) := fun h => h.elim (fun h => c1 h) (fun h => absurd c2 (Int32.not_le.mpr h))
        first | exact ⟨by rw [if_neg hb, if_pos h6], by rw [if_neg hb, if_pos h6, eI3, if_pos h6], rfl⟩ | exact ⟨by rw [if_neg hb, if_neg h6], by rw [if_neg hb, if_neg h6, eI3, if_neg h6], rfl⟩
      · skip
        have h6 : N < 60 := Decidable.byContradiction fun h => c5 (if_neg h)
        refine x_aload_n 26 C dX11_type_26 rfl 0 rfl ?_
        refine x_getr 27 C (b := o + 1) dX11_type_27 ff_X11_10 rfl hW.1 rfl ?_
        refine x_callVe 30 C dX11_type_30 (As := []) (rest := []) [.int (I3 (o + 1) 2)] (t_X2_length l D z n G I3 L (o + 1) hW.2.1) mt_X2_length km_X11_53 ki_X2_length ks_X2_length hW.2.1.1 ⟨by decide, rfl⟩ rfl rfl (Nat.le_of_ble_eq_true rfl) ⟨⟨by decide, by decide⟩, by decide, by decide⟩ (fun I6 L7 eI6 eL7 => ?_)
        replace eI6 := eI6.symm; subst eI6
        replace eL7 := eL7.symm; subst eL7
        refine x_int (nI (N + 1)) (by rw [eI3, if_pos h6, xup_self]) ?_
        refine x_goto 33 C 38 dX11_type_33 (by decide) ?_
        refine x_iret 38 C dX11_type_38 rfl rfl (Nat.le_refl _) (xN.intro ?_)
        have hb : ¬ (x < 33 ∨ 126 < x) := fun h => h.elim (fun h => c1 h) (fun h => absurd c2 (Int32.not_le.mpr h))
        first | exact ⟨by rw [if_neg hb, if_pos h6], by rw [if_neg hb, if_pos h6, eI3, if_pos h6], rfl⟩ | exact ⟨by rw [if_neg hb, if_neg h6], by rw [if_neg hb, if_neg h6, eI3, if_neg h6], rfl⟩
    · skip
      have c2o := Int32.not_le.mp c2
      refine x_ldc 12 C (-2000000001) dX11_type_12 kk_X11_48 ?_
      refine x_iret 14 C dX11_type_14 rfl rfl (Nat.le_refl _) (xN.intro ?_)
      have hb : x < 33 ∨ 126 < x := by first | exact Or.inl (by assumption) | exact Or.inr (by assumption)
      exact ⟨by rw [if_pos hb], by rw [if_pos hb], rfl⟩
theorem dX11_wipe_0 : decode cX11_wipe 0 = .ok (.aload_n 0, 1) := by decide +kernel
theorem dX11_wipe_1 : decode cX11_wipe 1 = .ok (.getfield 10, 3) := by decide +kernel
theorem dX11_wipe_4 : decode cX11_wipe 4 = .ok (.invokevirtual 53, 3) := by decide +kernel
theorem dX11_wipe_7 : decode cX11_wipe 7 = .ok (.istore_n 1, 1) := by decide +kernel
theorem dX11_wipe_8 : decode cX11_wipe 8 = .ok (.aload_n 0, 1) := by decide +kernel
theorem dX11_wipe_9 : decode cX11_wipe 9 = .ok (.getfield 10, 3) := by decide +kernel
theorem dX11_wipe_12 : decode cX11_wipe 12 = .ok (.invokevirtual 58, 3) := by decide +kernel
theorem dX11_wipe_15 : decode cX11_wipe 15 = .ok (.iload_n 1, 1) := by decide +kernel
theorem dX11_wipe_16 : decode cX11_wipe 16 = .ok (.ireturn, 1) := by decide +kernel
set_option maxHeartbeats 1000000 in
set_option maxRecDepth 100000 in
theorem t_X11_wipe (l : Launch) (D : xD) (z n : Nat) (G : xG) (I : xI) (L : xL) (o : Nat) (N : Nat) (hW : shPT G o) (zo : z ≤ o) (hN : I (o + 1) 2 = nI N) : xM0 l D z yX11_wipe cX11_wipe 2 (some .int) 1 20 [.ref o] n G I L (xE (some (.int (nI N))) (xup I (o + 1) 2 0) L) := by
  refine xM.of (by decide) (Nat.le_of_ble_eq_true rfl) (fun p e s m args below meth c C hnm hsz => ?_)
  refine x_lv [(0, .ref o)] rfl ?_
  refine x_aload_n 0 C dX11_wipe_0 rfl 0 rfl ?_
  refine x_getr 1 C (b := o + 1) dX11_wipe_1 ff_X11_10 rfl hW.1 rfl ?_
  refine x_callVe 4 C dX11_wipe_4 (As := []) (rest := []) [.int (I (o + 1) 2)] (t_X2_length l D z n G I L (o + 1) hW.2.1) mt_X2_length km_X11_53 ki_X2_length ks_X2_length hW.2.1.1 ⟨by decide, rfl⟩ rfl rfl (Nat.le_of_ble_eq_true rfl) ⟨⟨by decide, by decide⟩, by decide, by decide⟩ (fun I1 L2 eI1 eL2 => ?_)
  replace eI1 := eI1.symm; subst eI1
  replace eL2 := eL2.symm; subst eL2
  refine x_int (nI N) hN ?_
  refine x_istore_n 7 C [(1, .int (nI N)), (0, .ref o)] dX11_wipe_7 rfl (by decide) rfl ?_
  refine x_aload_n 8 C dX11_wipe_8 rfl 1 rfl ?_
  refine x_getr 9 C (b := o + 1) dX11_wipe_9 ff_X11_10 rfl hW.1 rfl ?_
  refine x_callVe 12 C dX11_wipe_12 (As := []) (rest := []) [] (t_X2_empty l D z n G I L (o + 1) hW.2.1 (by omega)) mt_X2_empty km_X11_58 ki_X2_empty ks_X2_empty hW.2.1.1 ⟨by decide, rfl⟩ rfl rfl (Nat.le_of_ble_eq_true rfl) ⟨⟨by decide, by decide⟩, by decide, by decide⟩ (fun I3 L4 eI3 eL4 => ?_)
  replace eL4 := eL4.symm; subst eL4
  refine x_iload_n 15 C dX11_wipe_15 rfl 0 rfl ?_
  refine x_iret 16 C dX11_wipe_16 rfl rfl (Nat.le_refl _) (xN.intro ?_)
  subst eI3
  exact ⟨rfl, rfl, rfl⟩
theorem dX11_fault_0 : decode cX11_fault 0 = .ok (.aload_n 0, 1) := by decide +kernel
theorem dX11_fault_1 : decode cX11_fault 1 = .ok (.getfield 10, 3) := by decide +kernel
theorem dX11_fault_4 : decode cX11_fault 4 = .ok (.invokevirtual 61, 3) := by decide +kernel
theorem dX11_fault_7 : decode cX11_fault 7 = .ok (.ifCond .eq 8, 3) := by decide +kernel
theorem dX11_fault_10 : decode cX11_fault 10 = .ok (.ldc 65, 2) := by decide +kernel
theorem dX11_fault_12 : decode cX11_fault 12 = .ok (.goto 10, 3) := by decide +kernel
theorem dX11_fault_15 : decode cX11_fault 15 = .ok (.aload_n 0, 1) := by decide +kernel
theorem dX11_fault_16 : decode cX11_fault 16 = .ok (.getfield 10, 3) := by decide +kernel
theorem dX11_fault_19 : decode cX11_fault 19 = .ok (.invokevirtual 66, 3) := by decide +kernel
theorem dX11_fault_22 : decode cX11_fault 22 = .ok (.ireturn, 1) := by decide +kernel
set_option maxHeartbeats 1000000 in
set_option maxRecDepth 100000 in
theorem t_X11_fault (l : Launch) (D : xD) (z n : Nat) (G : xG) (I : xI) (L : xL) (o : Nat) (t : Nat → Nat) (N : Nat) (r : Nat) (hW : shPT G o) (zo : z ≤ o) (hT : tx I (o + 1) t N r) (hC : txc t N) : xM0 l D z yX11_fault cX11_fault 1 (some .int) 5 120 [.ref o] n G I L (xE (some (.int (if (rdAll t N).1 = true then (-2000000004) else nI (rdAll t N).2.1))) (xup (eqFill I (o + 1 + 2) 10 (rdAll t N).2.2.1 (rdAll t N).2.2.2) (o + 1) 3 (nI (rdAll t N).2.1)) L) := by
  refine xM.of (by decide) (Nat.le_of_ble_eq_true rfl) (fun p e s m args below meth c C hnm hsz => ?_)
  refine x_lv [(0, .ref o)] rfl ?_
  refine x_aload_n 0 C dX11_fault_0 rfl 0 rfl ?_
  refine x_getr 1 C (b := o + 1) dX11_fault_1 ff_X11_10 rfl hW.1 rfl ?_
  refine x_callVe 4 C dX11_fault_4 (As := []) (rest := []) [.int (bI (rdAll t N).1)] (t_X2_read l D z n G I L (o + 1) t N r hW.2.1 (by omega) (by first | assumption | omega | decide) (by first | assumption | omega | decide)) mt_X2_read km_X11_61 ki_X2_read ks_X2_read hW.2.1.1 ⟨by decide, rfl⟩ rfl rfl (Nat.le_of_ble_eq_true rfl) ⟨⟨by decide, by decide⟩, by decide, by decide⟩ (fun I1 L2 eI1 eL2 => ?_)
  replace eL2 := eL2.symm; subst eL2
  refine x_if_eq 7 C 15 dX11_fault_7 (by decide) (fun c3 => ?_) (fun c3 => ?_)
  · skip
    have hb : _ := bI_0.mp c3
    refine x_aload_n 15 C dX11_fault_15 rfl 0 rfl ?_
    refine x_getr 16 C (b := o + 1) dX11_fault_16 ff_X11_10 rfl hW.1 rfl ?_
    refine x_callVe 19 C dX11_fault_19 (As := []) (rest := []) [.int (I1 (o + 1) 3)] (t_X2_readingPlace l D z n G I1 L (o + 1) hW.2.1) mt_X2_readingPlace km_X11_66 ki_X2_readingPlace ks_X2_readingPlace hW.2.1.1 ⟨by decide, rfl⟩ rfl rfl (Nat.le_of_ble_eq_true rfl) ⟨⟨by decide, by decide⟩, by decide, by decide⟩ (fun I4 L5 eI4 eL5 => ?_)
    replace eI4 := eI4.symm; subst eI4
    replace eL5 := eL5.symm; subst eL5
    refine x_int (nI (rdAll t N).2.1) (by rw [eI1, xup_self]) ?_
    refine x_iret 22 C dX11_fault_22 rfl rfl (Nat.le_refl _) (xN.intro ?_)
    subst eI1
    first | exact ⟨by rw [if_pos hb], rfl, rfl⟩ | exact ⟨by rw [if_neg (by rw [hb]; decide)], rfl, rfl⟩
  · skip
    have hb : _ := bI_n0.mp c3
    refine x_ldc 10 C (-2000000004) dX11_fault_10 kk_X11_65 ?_
    refine x_goto 12 C 22 dX11_fault_12 (by decide) ?_
    refine x_iret 22 C dX11_fault_22 rfl rfl (Nat.le_refl _) (xN.intro ?_)
    subst eI1
    first | exact ⟨by rw [if_pos hb], rfl, rfl⟩ | exact ⟨by rw [if_neg (by rw [hb]; decide)], rfl, rfl⟩
theorem dX11_next_0 : decode cX11_next 0 = .ok (.aload_n 0, 1) := by decide +kernel
theorem dX11_next_1 : decode cX11_next 1 = .ok (.getfield 26, 3) := by decide +kernel
theorem dX11_next_4 : decode cX11_next 4 = .ok (.invokevirtual 162, 3) := by decide +kernel
theorem dX11_next_7 : decode cX11_next 7 = .ok (.istore_n 1, 1) := by decide +kernel
theorem dX11_next_8 : decode cX11_next 8 = .ok (.iload_n 1, 1) := by decide +kernel
theorem dX11_next_9 : decode cX11_next 9 = .ok (.ifCond .ge 8, 3) := by decide +kernel
theorem dX11_next_12 : decode cX11_next 12 = .ok (.ldc 65, 2) := by decide +kernel
theorem dX11_next_14 : decode cX11_next 14 = .ok (.goto 4, 3) := by decide +kernel
theorem dX11_next_17 : decode cX11_next 17 = .ok (.iload_n 1, 1) := by decide +kernel
theorem dX11_next_18 : decode cX11_next 18 = .ok (.ireturn, 1) := by decide +kernel
set_option maxHeartbeats 1000000 in
set_option maxRecDepth 100000 in
theorem t_X11_next (l : Launch) (D : xD) (z n : Nat) (G : xG) (I : xI) (L : xL) (o : Nat) (U : Nat) (hW : shPT G o) (hU : I (o + 75) 4 = nI U) (hU9 : U ≤ 9) : xM0 l D z yX11_next cX11_next 2 (some .int) 3 65 [.ref o] n G I L (xE (some (.int (nfO (mbN I (o + 75) U)))) I L) := by
  refine xM.of (by decide) (Nat.le_of_ble_eq_true rfl) (fun p e s m args below meth c C hnm hsz => ?_)
  refine x_lv [(0, .ref o)] rfl ?_
  refine x_aload_n 0 C dX11_next_0 rfl 0 rfl ?_
  refine x_getr 1 C (b := o + 75) dX11_next_1 ff_X11_26 rfl hW.1 rfl ?_
  refine x_callVe 4 C dX11_next_4 (As := []) (rest := []) [.int (oI (mbN I (o + 75) U))] (t_X9_mostBehind l D z n G I L (o + 75) U hW.2.2.2.1 (by first | assumption | omega | decide) (by first | omega | assumption | decide)) mt_X9_mostBehind km_X11_162 ki_X9_mostBehind ks_X9_mostBehind hW.2.2.2.1.1 ⟨by decide, rfl⟩ rfl rfl (Nat.le_of_ble_eq_true rfl) ⟨⟨by decide, by decide⟩, by decide, by decide⟩ (fun I1 L2 eI1 eL2 => ?_)
  replace eI1 := eI1.symm; subst eI1
  replace eL2 := eL2.symm; subst eL2
  refine x_istore_n 7 C [(1, .int (oI (mbN I (o + 75) U))), (0, .ref o)] dX11_next_7 rfl (by decide) rfl ?_
  refine x_iload_n 8 C dX11_next_8 rfl 0 rfl ?_
  refine x_if_ge 9 C 17 dX11_next_9 (by decide) (fun c3 => ?_) (fun c3 => ?_)
  · skip
    have c3o := Int32.not_lt.mpr c3
    refine x_iload_n 17 C dX11_next_17 rfl 0 rfl ?_
    refine x_iret 18 C dX11_next_18 rfl rfl (Nat.le_refl _) (xN.intro ?_)
    exact ⟨by rw [← nfO_mb (by omega)]; first | exact congrArg (fun x => some (Value.int x)) (if_pos (by assumption)).symm | exact congrArg (fun x => some (Value.int x)) (if_neg (by assumption)).symm, rfl, rfl⟩
  · skip
    have c3o := Int32.not_le.mp c3
    refine x_ldc 12 C (-2000000004) dX11_next_12 kk_X11_65 ?_
    refine x_goto 14 C 18 dX11_next_14 (by decide) ?_
    refine x_iret 18 C dX11_next_18 rfl rfl (Nat.le_refl _) (xN.intro ?_)
    exact ⟨by rw [← nfO_mb (by omega)]; first | exact congrArg (fun x => some (Value.int x)) (if_pos (by assumption)).symm | exact congrArg (fun x => some (Value.int x)) (if_neg (by assumption)).symm, rfl, rfl⟩
theorem dX11_endAt_0 : decode cX11_endAt 0 = .ok (.iload_n 1, 1) := by decide +kernel
theorem dX11_endAt_1 : decode cX11_endAt 1 = .ok (.ifCond .ge 6, 3) := by decide +kernel
theorem dX11_endAt_4 : decode cX11_endAt 4 = .ok (.ldc 48, 2) := by decide +kernel
theorem dX11_endAt_6 : decode cX11_endAt 6 = .ok (.ireturn, 1) := by decide +kernel
theorem dX11_endAt_7 : decode cX11_endAt 7 = .ok (.aload_n 0, 1) := by decide +kernel
theorem dX11_endAt_8 : decode cX11_endAt 8 = .ok (.getfield 26, 3) := by decide +kernel
theorem dX11_endAt_11 : decode cX11_endAt 11 = .ok (.iload_n 1, 1) := by decide +kernel
theorem dX11_endAt_12 : decode cX11_endAt 12 = .ok (.invokevirtual 165, 3) := by decide +kernel
theorem dX11_endAt_15 : decode cX11_endAt 15 = .ok (.istore_n 2, 1) := by decide +kernel
theorem dX11_endAt_16 : decode cX11_endAt 16 = .ok (.iload_n 2, 1) := by decide +kernel
theorem dX11_endAt_17 : decode cX11_endAt 17 = .ok (.ifCond .ge 8, 3) := by decide +kernel
theorem dX11_endAt_20 : decode cX11_endAt 20 = .ok (.ldc 65, 2) := by decide +kernel
theorem dX11_endAt_22 : decode cX11_endAt 22 = .ok (.goto 4, 3) := by decide +kernel
theorem dX11_endAt_25 : decode cX11_endAt 25 = .ok (.iload_n 2, 1) := by decide +kernel
theorem dX11_endAt_26 : decode cX11_endAt 26 = .ok (.ireturn, 1) := by decide +kernel
set_option maxHeartbeats 1000000 in
set_option maxRecDepth 100000 in
theorem t_X11_endAt (l : Launch) (D : xD) (z n : Nat) (G : xG) (I : xI) (L : xL) (o : Nat) (x : Int32) (U : Nat) (hW : shPT G o) (hU : I (o + 75) 4 = nI U) (hU9 : U ≤ 9) : xM0 l D z yX11_endAt cX11_endAt 3 (some .int) 5 113 [.ref o, .int x] n G I L (xE (some (.int (if x < 0 then (-2000000001) else nfO (findN (fun i => stIs I (o + 75) 1 i && decide (nI (cntN (befP I L (o + 75) i) U) = x)) U)))) I L) := by
  refine xM.of (by decide) (Nat.le_of_ble_eq_true rfl) (fun p e s m args below meth c C hnm hsz => ?_)
  refine x_lv [(0, .ref o), (1, .int x)] rfl ?_
  refine x_iload_n 0 C dX11_endAt_0 rfl 1 rfl ?_
  refine x_if_ge 1 C 7 dX11_endAt_1 (by decide) (fun c1 => ?_) (fun c1 => ?_)
  · skip
    have c1o := Int32.not_lt.mpr c1
    refine x_aload_n 7 C dX11_endAt_7 rfl 0 rfl ?_
    refine x_getr 8 C (b := o + 75) dX11_endAt_8 ff_X11_26 rfl hW.1 rfl ?_
    refine x_iload_n 11 C dX11_endAt_11 rfl 1 rfl ?_
    refine x_callVe 12 C dX11_endAt_12 (As := [.int x]) (rest := []) [.int (oI (findN (fun i => stIs I (o + 75) 1 i && decide (nI (cntN (befP I L (o + 75) i) U) = x)) U))] (t_X9_endOfRank l D z n G I L (o + 75) x U hW.2.2.2.1 (by first | assumption | omega | decide) (by first | omega | assumption | decide)) mt_X9_endOfRank km_X11_165 ki_X9_endOfRank ks_X9_endOfRank hW.2.2.2.1.1 ⟨by decide, rfl⟩ rfl rfl (Nat.le_of_ble_eq_true rfl) ⟨⟨by decide, by decide⟩, by decide, by decide⟩ (fun I2 L3 eI2 eL3 => ?_)
    replace eI2 := eI2.symm; subst eI2
    replace eL3 := eL3.symm; subst eL3
    refine x_istore_n 15 C [(2, .int (oI (findN (fun i => stIs I (o + 75) 1 i && decide (nI (cntN (befP I L (o + 75) i) U) = x)) U))), (0, .ref o), (1, .int x)] dX11_endAt_15 rfl (by decide) rfl ?_
    refine x_iload_n 16 C dX11_endAt_16 rfl 0 rfl ?_
    refine x_if_ge 17 C 25 dX11_endAt_17 (by decide) (fun c4 => ?_) (fun c4 => ?_)
    · skip
      have c4o := Int32.not_lt.mpr c4
      refine x_iload_n 25 C dX11_endAt_25 rfl 0 rfl ?_
      refine x_iret 26 C dX11_endAt_26 rfl rfl (Nat.le_refl _) (xN.intro ?_)
      rw [if_neg (Int32.not_lt.mpr c1)]
      exact ⟨by rw [← nfO_of (by omega)]; first | exact congrArg (fun x => some (Value.int x)) (if_pos (by assumption)).symm | exact congrArg (fun x => some (Value.int x)) (if_neg (by assumption)).symm, rfl, rfl⟩
    · skip
      have c4o := Int32.not_le.mp c4
      refine x_ldc 20 C (-2000000004) dX11_endAt_20 kk_X11_65 ?_
      refine x_goto 22 C 26 dX11_endAt_22 (by decide) ?_
      refine x_iret 26 C dX11_endAt_26 rfl rfl (Nat.le_refl _) (xN.intro ?_)
      rw [if_neg (Int32.not_lt.mpr c1)]
      exact ⟨by rw [← nfO_of (by omega)]; first | exact congrArg (fun x => some (Value.int x)) (if_pos (by assumption)).symm | exact congrArg (fun x => some (Value.int x)) (if_neg (by assumption)).symm, rfl, rfl⟩
  · skip
    have c1o := Int32.not_le.mp c1
    refine x_ldc 4 C (-2000000001) dX11_endAt_4 kk_X11_48 ?_
    refine x_iret 6 C dX11_endAt_6 rfl rfl (Nat.le_refl _) (xN.intro ?_)
    exact ⟨by rw [if_pos (by first | assumption | exact Int32.not_le.mp (by assumption))], rfl, rfl⟩
theorem dX11_meets_0 : decode cX11_meets 0 = .ok (.aload_n 0, 1) := by decide +kernel
theorem dX11_meets_1 : decode cX11_meets 1 = .ok (.getfield 26, 3) := by decide +kernel
theorem dX11_meets_4 : decode cX11_meets 4 = .ok (.iload_n 1, 1) := by decide +kernel
theorem dX11_meets_5 : decode cX11_meets 5 = .ok (.invokevirtual 98, 3) := by decide +kernel
theorem dX11_meets_8 : decode cX11_meets 8 = .ok (.ifCond .ne 6, 3) := by decide +kernel
theorem dX11_meets_11 : decode cX11_meets 11 = .ok (.ldc 48, 2) := by decide +kernel
theorem dX11_meets_13 : decode cX11_meets 13 = .ok (.ireturn, 1) := by decide +kernel
theorem dX11_meets_14 : decode cX11_meets 14 = .ok (.aload_n 0, 1) := by decide +kernel
theorem dX11_meets_15 : decode cX11_meets 15 = .ok (.getfield 26, 3) := by decide +kernel
theorem dX11_meets_18 : decode cX11_meets 18 = .ok (.iload_n 1, 1) := by decide +kernel
theorem dX11_meets_19 : decode cX11_meets 19 = .ok (.invokevirtual 101, 3) := by decide +kernel
theorem dX11_meets_22 : decode cX11_meets 22 = .ok (.getfield 105, 3) := by decide +kernel
theorem dX11_meets_25 : decode cX11_meets 25 = .ok (.iconst 1, 1) := by decide +kernel
theorem dX11_meets_26 : decode cX11_meets 26 = .ok (.if_icmp .eq 6, 3) := by decide +kernel
theorem dX11_meets_29 : decode cX11_meets 29 = .ok (.ldc 69, 2) := by decide +kernel
theorem dX11_meets_31 : decode cX11_meets 31 = .ok (.ireturn, 1) := by decide +kernel
theorem dX11_meets_32 : decode cX11_meets 32 = .ok (.aload_n 0, 1) := by decide +kernel
theorem dX11_meets_33 : decode cX11_meets 33 = .ok (.getfield 26, 3) := by decide +kernel
theorem dX11_meets_36 : decode cX11_meets 36 = .ok (.iload_n 1, 1) := by decide +kernel
theorem dX11_meets_37 : decode cX11_meets 37 = .ok (.aload_n 0, 1) := by decide +kernel
theorem dX11_meets_38 : decode cX11_meets 38 = .ok (.getfield 26, 3) := by decide +kernel
theorem dX11_meets_41 : decode cX11_meets 41 = .ok (.invokevirtual 118, 3) := by decide +kernel
theorem dX11_meets_44 : decode cX11_meets 44 = .ok (.invokevirtual 159, 3) := by decide +kernel
theorem dX11_meets_47 : decode cX11_meets 47 = .ok (.istore_n 2, 1) := by decide +kernel
theorem dX11_meets_48 : decode cX11_meets 48 = .ok (.iload_n 2, 1) := by decide +kernel
theorem dX11_meets_49 : decode cX11_meets 49 = .ok (.ifCond .ge 8, 3) := by decide +kernel
theorem dX11_meets_52 : decode cX11_meets 52 = .ok (.ldc 65, 2) := by decide +kernel
theorem dX11_meets_54 : decode cX11_meets 54 = .ok (.goto 4, 3) := by decide +kernel
theorem dX11_meets_57 : decode cX11_meets 57 = .ok (.iload_n 2, 1) := by decide +kernel
theorem dX11_meets_58 : decode cX11_meets 58 = .ok (.ireturn, 1) := by decide +kernel
set_option maxHeartbeats 1000000 in
set_option maxRecDepth 100000 in
theorem t_X11_meets (l : Launch) (D : xD) (z n : Nat) (G : xG) (I : xI) (L : xL) (o : Nat) (k : Nat) (U : Nat) (hW : shPT G o) (hU : I (o + 75) 4 = nI U) (hU9 : U ≤ 9) (hk : k < U) : xM0 l D z yX11_meets cX11_meets 3 (some .int) 4 93 [.ref o, .int (nI k)] n G I L (xE (some (.int (if I (o + 75 + 11 + 3 * k) 2 = 1 then nfO (findN (metP I L (o + 75) k) U) else (-2000000002)))) I L) := by
  refine xM.of (by decide) (Nat.le_of_ble_eq_true rfl) (fun p e s m args below meth c C hnm hsz => ?_)
  refine x_lv [(0, .ref o), (1, .int (nI k))] rfl ?_
  refine x_aload_n 0 C dX11_meets_0 rfl 0 rfl ?_
  refine x_getr 1 C (b := o + 75) dX11_meets_1 ff_X11_26 rfl hW.1 rfl ?_
  refine x_iload_n 4 C dX11_meets_4 rfl 1 rfl ?_
  refine x_callVe 5 C dX11_meets_5 (As := [.int (nI k)]) (rest := []) [.int 1] (t_X9_hasPath_k l D z n G I L (o + 75) k U hW.2.2.2.1 (by first | assumption | omega | decide) (by first | omega | assumption | decide) (by first | omega | assumption | decide)) mt_X9_hasPath km_X11_98 ki_X9_hasPath ks_X9_hasPath hW.2.2.2.1.1 ⟨by decide, rfl⟩ rfl rfl (Nat.le_of_ble_eq_true rfl) ⟨⟨by decide, by decide⟩, by decide, by decide⟩ (fun I1 L2 eI1 eL2 => ?_)
  replace eI1 := eI1.symm; subst eI1
  replace eL2 := eL2.symm; subst eL2
  refine x_if_ne 8 C 14 dX11_meets_8 (by decide) (fun _ => ?_) (fun c3 => absurd c3 (by decide))
  refine x_aload_n 14 C dX11_meets_14 rfl 0 rfl ?_
  refine x_getr 15 C (b := o + 75) dX11_meets_15 ff_X11_26 rfl hW.1 rfl ?_
  refine x_iload_n 18 C dX11_meets_18 rfl 1 rfl ?_
  refine x_callVe 19 C dX11_meets_19 (As := [.int (nI k)]) (rest := []) [.ref (o + 75 + 11 + 3 * k)] (t_X9_pathAt l D z n G I L (o + 75) k U hW.2.2.2.1 (by first | assumption | omega | decide) (by first | omega | assumption | decide) (by first | omega | assumption | decide)) mt_X9_pathAt km_X11_101 ki_X9_pathAt ks_X9_pathAt hW.2.2.2.1.1 ⟨by decide, rfl⟩ rfl rfl (Nat.le_of_ble_eq_true rfl) ⟨⟨by decide, by decide⟩, by decide, by decide⟩ (fun I4 L5 eI4 eL5 => ?_)
  replace eI4 := eI4.symm; subst eI4
  replace eL5 := eL5.symm; subst eL5
  refine x_geti 22 C dX11_meets_22 ff_X11_105 (hW.2.2.2.1.2.2.2.2 k (by omega)).1 ?_
  refine x_iconst 25 C (v := 1) dX11_meets_25 rfl ?_
  refine x_icmp_eq 26 C 32 dX11_meets_26 (by decide) (fun c6 => ?_) (fun c6 => ?_)
  · skip
    refine x_aload_n 32 C dX11_meets_32 rfl 0 rfl ?_
    refine x_getr 33 C (b := o + 75) dX11_meets_33 ff_X11_26 rfl hW.1 rfl ?_
    refine x_iload_n 36 C dX11_meets_36 rfl 1 rfl ?_
    refine x_aload_n 37 C dX11_meets_37 rfl 0 rfl ?_
    refine x_getr 38 C (b := o + 75) dX11_meets_38 ff_X11_26 rfl hW.1 rfl ?_
    refine x_callVe 41 C dX11_meets_41 (As := []) (rest := [.int (nI k), .ref (o + 75)]) [.int (I (o + 75) 4), .int (nI k), .ref (o + 75)] (t_X9_pathCount l D z n G I L (o + 75) hW.2.2.2.1) mt_X9_pathCount km_X11_118 ki_X9_pathCount ks_X9_pathCount hW.2.2.2.1.1 ⟨by decide, rfl⟩ rfl rfl (Nat.le_of_ble_eq_true rfl) ⟨⟨by decide, by decide⟩, by decide, by decide⟩ (fun I7 L8 eI7 eL8 => ?_)
    replace eI7 := eI7.symm; subst eI7
    replace eL8 := eL8.symm; subst eL8
    refine x_int (nI U) hU ?_
    refine x_callVe 44 C dX11_meets_44 (As := [.int (nI k), .int (nI U)]) (rest := []) [.int (oI (findN (metP I L (o + 75) k) U))] (t_X9_firstMetBelow l D z n G I L (o + 75) k U U hW.2.2.2.1 (by first | assumption | omega | decide) (by first | omega | assumption | decide) (by first | omega | assumption | decide) (by first | omega | assumption | decide)) mt_X9_firstMetBelow km_X11_159 ki_X9_firstMetBelow ks_X9_firstMetBelow hW.2.2.2.1.1 ⟨by decide, rfl⟩ rfl rfl (Nat.le_of_ble_eq_true rfl) ⟨⟨by decide, by decide⟩, by decide, by decide⟩ (fun I9 L10 eI9 eL10 => ?_)
    replace eI9 := eI9.symm; subst eI9
    replace eL10 := eL10.symm; subst eL10
    refine x_istore_n 47 C [(2, .int (oI (findN (metP I L (o + 75) k) U))), (0, .ref o), (1, .int (nI k))] dX11_meets_47 rfl (by decide) rfl ?_
    refine x_iload_n 48 C dX11_meets_48 rfl 0 rfl ?_
    refine x_if_ge 49 C 57 dX11_meets_49 (by decide) (fun c11 => ?_) (fun c11 => ?_)
    · skip
      have c11o := Int32.not_lt.mpr c11
      refine x_iload_n 57 C dX11_meets_57 rfl 0 rfl ?_
      refine x_iret 58 C dX11_meets_58 rfl rfl (Nat.le_refl _) (xN.intro ?_)
      rw [if_pos c6]
      exact ⟨by rw [← nfO_of (by omega)]; first | exact congrArg (fun x => some (Value.int x)) (if_pos (by assumption)).symm | exact congrArg (fun x => some (Value.int x)) (if_neg (by assumption)).symm, rfl, rfl⟩
    · skip
      have c11o := Int32.not_le.mp c11
      refine x_ldc 52 C (-2000000004) dX11_meets_52 kk_X11_65 ?_
      refine x_goto 54 C 58 dX11_meets_54 (by decide) ?_
      refine x_iret 58 C dX11_meets_58 rfl rfl (Nat.le_refl _) (xN.intro ?_)
      rw [if_pos c6]
      exact ⟨by rw [← nfO_of (by omega)]; first | exact congrArg (fun x => some (Value.int x)) (if_pos (by assumption)).symm | exact congrArg (fun x => some (Value.int x)) (if_neg (by assumption)).symm, rfl, rfl⟩
  · skip
    refine x_ldc 29 C (-2000000002) dX11_meets_29 kk_X11_69 ?_
    refine x_iret 31 C dX11_meets_31 rfl rfl (Nat.le_refl _) (xN.intro ?_)
    exact ⟨by rw [if_neg (by assumption)], rfl, rfl⟩
set_option maxHeartbeats 1000000 in
set_option maxRecDepth 100000 in
theorem t_X11_meets_bad (l : Launch) (D : xD) (z n : Nat) (G : xG) (I : xI) (L : xL) (o : Nat) (x : Int32) (hW : shPT G o) (hno : hasP I (o + 75) x = false) : xM0 l D z yX11_meets cX11_meets 3 (some .int) 4 93 [.ref o, .int x] n G I L (xE (some (.int (-2000000001))) I L) := by
  refine xM.of (by decide) (Nat.le_of_ble_eq_true rfl) (fun p e s m args below meth c C hnm hsz => ?_)
  refine x_lv [(0, .ref o), (1, .int x)] rfl ?_
  refine x_aload_n 0 C dX11_meets_0 rfl 0 rfl ?_
  refine x_getr 1 C (b := o + 75) dX11_meets_1 ff_X11_26 rfl hW.1 rfl ?_
  refine x_iload_n 4 C dX11_meets_4 rfl 1 rfl ?_
  refine x_callVe 5 C dX11_meets_5 (As := [.int x]) (rest := []) [.int (bI (hasP I (o + 75) x))] (t_X9_hasPath l D z n G I L (o + 75) x hW.2.2.2.1) mt_X9_hasPath km_X11_98 ki_X9_hasPath ks_X9_hasPath hW.2.2.2.1.1 ⟨by decide, rfl⟩ rfl rfl (Nat.le_of_ble_eq_true rfl) ⟨⟨by decide, by decide⟩, by decide, by decide⟩ (fun I1 L2 eI1 eL2 => ?_)
  replace eI1 := eI1.symm; subst eI1
  replace eL2 := eL2.symm; subst eL2
  refine x_if_ne 8 C 14 dX11_meets_8 (by decide) (fun c3 => absurd (by rw [hno]; rfl) c3) (fun _ => ?_)
  refine x_ldc 11 C (-2000000001) dX11_meets_11 kk_X11_48 ?_
  refine x_iret 13 C dX11_meets_13 rfl rfl (Nat.le_refl _) (xN.intro ?_)
  exact ⟨rfl, rfl, rfl⟩
theorem dX11_count_0 : decode cX11_count 0 = .ok (.iload_n 1, 1) := by decide +kernel
theorem dX11_count_1 : decode cX11_count 1 = .ok (.ifCond .lt 9, 3) := by decide +kernel
theorem dX11_count_4 : decode cX11_count 4 = .ok (.iload_n 1, 1) := by decide +kernel
theorem dX11_count_5 : decode cX11_count 5 = .ok (.bipush 18, 2) := by decide +kernel
theorem dX11_count_7 : decode cX11_count 7 = .ok (.if_icmp .le 6, 3) := by decide +kernel
theorem dX11_count_10 : decode cX11_count 10 = .ok (.ldc 48, 2) := by decide +kernel
theorem dX11_count_12 : decode cX11_count 12 = .ok (.ireturn, 1) := by decide +kernel
theorem dX11_count_13 : decode cX11_count 13 = .ok (.iload_n 1, 1) := by decide +kernel
theorem dX11_count_14 : decode cX11_count 14 = .ok (.tableswitch 158 8 18 #[58, 66, 75, 84, 93, 102, 110, 118, 126, 134, 146], 58) := by decide +kernel
theorem dX11_count_72 : decode cX11_count 72 = .ok (.aload_n 0, 1) := by decide +kernel
theorem dX11_count_73 : decode cX11_count 73 = .ok (.getfield 26, 3) := by decide +kernel
theorem dX11_count_76 : decode cX11_count 76 = .ok (.invokevirtual 118, 3) := by decide +kernel
theorem dX11_count_79 : decode cX11_count 79 = .ok (.ireturn, 1) := by decide +kernel
theorem dX11_count_80 : decode cX11_count 80 = .ok (.aload_n 0, 1) := by decide +kernel
theorem dX11_count_81 : decode cX11_count 81 = .ok (.getfield 26, 3) := by decide +kernel
theorem dX11_count_84 : decode cX11_count 84 = .ok (.iconst 0, 1) := by decide +kernel
theorem dX11_count_85 : decode cX11_count 85 = .ok (.invokevirtual 121, 3) := by decide +kernel
theorem dX11_count_88 : decode cX11_count 88 = .ok (.ireturn, 1) := by decide +kernel
theorem dX11_count_89 : decode cX11_count 89 = .ok (.aload_n 0, 1) := by decide +kernel
theorem dX11_count_90 : decode cX11_count 90 = .ok (.getfield 26, 3) := by decide +kernel
theorem dX11_count_93 : decode cX11_count 93 = .ok (.iconst 1, 1) := by decide +kernel
theorem dX11_count_94 : decode cX11_count 94 = .ok (.invokevirtual 121, 3) := by decide +kernel
theorem dX11_count_97 : decode cX11_count 97 = .ok (.ireturn, 1) := by decide +kernel
theorem dX11_count_98 : decode cX11_count 98 = .ok (.aload_n 0, 1) := by decide +kernel
theorem dX11_count_99 : decode cX11_count 99 = .ok (.getfield 26, 3) := by decide +kernel
theorem dX11_count_102 : decode cX11_count 102 = .ok (.iconst 2, 1) := by decide +kernel
theorem dX11_count_103 : decode cX11_count 103 = .ok (.invokevirtual 121, 3) := by decide +kernel
theorem dX11_count_106 : decode cX11_count 106 = .ok (.ireturn, 1) := by decide +kernel
theorem dX11_count_107 : decode cX11_count 107 = .ok (.aload_n 0, 1) := by decide +kernel
theorem dX11_count_108 : decode cX11_count 108 = .ok (.getfield 26, 3) := by decide +kernel
theorem dX11_count_111 : decode cX11_count 111 = .ok (.iconst 3, 1) := by decide +kernel
theorem dX11_count_112 : decode cX11_count 112 = .ok (.invokevirtual 121, 3) := by decide +kernel
theorem dX11_count_115 : decode cX11_count 115 = .ok (.ireturn, 1) := by decide +kernel
theorem dX11_count_116 : decode cX11_count 116 = .ok (.aload_n 0, 1) := by decide +kernel
theorem dX11_count_117 : decode cX11_count 117 = .ok (.getfield 26, 3) := by decide +kernel
theorem dX11_count_120 : decode cX11_count 120 = .ok (.invokevirtual 181, 3) := by decide +kernel
theorem dX11_count_123 : decode cX11_count 123 = .ok (.ireturn, 1) := by decide +kernel
theorem dX11_count_124 : decode cX11_count 124 = .ok (.aload_n 0, 1) := by decide +kernel
theorem dX11_count_125 : decode cX11_count 125 = .ok (.getfield 26, 3) := by decide +kernel
theorem dX11_count_128 : decode cX11_count 128 = .ok (.invokevirtual 184, 3) := by decide +kernel
theorem dX11_count_131 : decode cX11_count 131 = .ok (.ireturn, 1) := by decide +kernel
theorem dX11_count_132 : decode cX11_count 132 = .ok (.aload_n 0, 1) := by decide +kernel
theorem dX11_count_133 : decode cX11_count 133 = .ok (.getfield 10, 3) := by decide +kernel
theorem dX11_count_136 : decode cX11_count 136 = .ok (.invokevirtual 53, 3) := by decide +kernel
theorem dX11_count_139 : decode cX11_count 139 = .ok (.ireturn, 1) := by decide +kernel
theorem dX11_count_140 : decode cX11_count 140 = .ok (.aload_n 0, 1) := by decide +kernel
theorem dX11_count_141 : decode cX11_count 141 = .ok (.getfield 36, 3) := by decide +kernel
theorem dX11_count_144 : decode cX11_count 144 = .ok (.invokevirtual 187, 3) := by decide +kernel
theorem dX11_count_147 : decode cX11_count 147 = .ok (.ireturn, 1) := by decide +kernel
theorem dX11_count_148 : decode cX11_count 148 = .ok (.aload_n 0, 1) := by decide +kernel
theorem dX11_count_149 : decode cX11_count 149 = .ok (.getfield 26, 3) := by decide +kernel
theorem dX11_count_152 : decode cX11_count 152 = .ok (.iconst 0, 1) := by decide +kernel
theorem dX11_count_153 : decode cX11_count 153 = .ok (.invokevirtual 87, 3) := by decide +kernel
theorem dX11_count_156 : decode cX11_count 156 = .ok (.invokevirtual 74, 3) := by decide +kernel
theorem dX11_count_159 : decode cX11_count 159 = .ok (.ireturn, 1) := by decide +kernel
theorem dX11_count_160 : decode cX11_count 160 = .ok (.aload_n 0, 1) := by decide +kernel
theorem dX11_count_161 : decode cX11_count 161 = .ok (.getfield 26, 3) := by decide +kernel
theorem dX11_count_164 : decode cX11_count 164 = .ok (.iconst 1, 1) := by decide +kernel
theorem dX11_count_165 : decode cX11_count 165 = .ok (.invokevirtual 87, 3) := by decide +kernel
theorem dX11_count_168 : decode cX11_count 168 = .ok (.invokevirtual 74, 3) := by decide +kernel
theorem dX11_count_171 : decode cX11_count 171 = .ok (.ireturn, 1) := by decide +kernel
theorem dX11_count_172 : decode cX11_count 172 = .ok (.aload_n 0, 1) := by decide +kernel
theorem dX11_count_173 : decode cX11_count 173 = .ok (.getfield 26, 3) := by decide +kernel
theorem dX11_count_176 : decode cX11_count 176 = .ok (.iload_n 1, 1) := by decide +kernel
theorem dX11_count_177 : decode cX11_count 177 = .ok (.invokevirtual 175, 3) := by decide +kernel
theorem dX11_count_180 : decode cX11_count 180 = .ok (.ireturn, 1) := by decide +kernel
set_option maxHeartbeats 1000000 in
set_option maxRecDepth 100000 in
theorem t_X11_count (l : Launch) (D : xD) (z n : Nat) (G : xG) (I : xI) (L : xL) (o : Nat) (x : Nat) (N : Nat) (U : Nat) (hW : shPT G o) (hU : I (o + 75) 4 = nI U) (hU9 : U ≤ 9) (hN : I (o + 1) 2 = nI N) (hx : x < 19) : xM0 l D z yX11_count cX11_count 2 (some .int) 5 115 [.ref o, .int (nI x)] n G I L (xE (some (.int (if x < 8 then I (o + 75 + 9) x else if x = 8 then nI U else if x = 9 then nI (cntN (stIs I (o + 75) 0) U) else if x = 10 then nI (cntN (stIs I (o + 75) 1) U) else if x = 11 then nI (cntN (stIs I (o + 75) 2) U) else if x = 12 then nI (cntN (stIs I (o + 75) 3) U) else if x = 13 then nI (cntN (fun i => stIs I (o + 75) 1 i && (findN (metP I L (o + 75) i) i).isNone) U) else if x = 14 then nI (cntN (fun i => stIs I (o + 75) 1 i && realP I L (o + 75 + 11 + 3 * i) (I (o + 75 + 9) 5)) U) else if x = 15 then nI N else if x = 16 then I (o + 113) 2 else if x = 17 then nI (dgN (I (o + 75 + 1 + 4 * 0 + 1)) (I (o + 75 + 1 + 4 * 0 + 2)) 10) else nI (dgN (I (o + 75 + 1 + 4 * 1 + 1)) (I (o + 75 + 1 + 4 * 1 + 2)) 10)))) I L) := by
  refine xM.of (by decide) (Nat.le_of_ble_eq_true rfl) (fun p e s m args below meth c C hnm hsz => ?_)
  refine x_lv [(0, .ref o), (1, .int (nI x))] rfl ?_
  rcases (show x = 0 ∨ x = 1 ∨ x = 2 ∨ x = 3 ∨ x = 4 ∨ x = 5 ∨ x = 6 ∨ x = 7 ∨ x = 8 ∨ x = 9 ∨ x = 10 ∨ x = 11 ∨ x = 12 ∨ x = 13 ∨ x = 14 ∨ x = 15 ∨ x = 16 ∨ x = 17 ∨ x = 18 by omega) with rfl | rfl | rfl | rfl | rfl | rfl | rfl | rfl | rfl | rfl | rfl | rfl | rfl | rfl | rfl | rfl | rfl | rfl | rfl
  · skip
    refine x_iload_n 0 C dX11_count_0 rfl 1 rfl ?_
    refine x_if_lt 1 C 10 dX11_count_1 (by decide) (fun c1 => absurd c1 (by decide)) (fun _ => ?_)
    refine x_iload_n 4 C dX11_count_4 rfl 1 rfl ?_
    refine x_bipush 5 C (v := 18) dX11_count_5 rfl ?_
    refine x_icmp_le 7 C 13 dX11_count_7 (by decide) (fun _ => ?_) (fun c2 => absurd (by decide) c2)
    refine x_iload_n 13 C dX11_count_13 rfl 1 rfl ?_
    refine x_tsOut 14 C 172 dX11_count_14 (by decide) (by decide) ?_
    refine x_aload_n 172 C dX11_count_172 rfl 0 rfl ?_
    refine x_getr 173 C (b := o + 75) dX11_count_173 ff_X11_26 rfl hW.1 rfl ?_
    refine x_iload_n 176 C dX11_count_176 rfl 1 rfl ?_
    refine x_callVe 177 C dX11_count_177 (As := [.int (nI 0)]) (rest := []) [.int (I ((o + 75) + 9) 0)] (t_X9_setting l D z n G I L (o + 75) 0 hW.2.2.2.1 (by first | omega | assumption | decide)) mt_X9_setting km_X11_175 ki_X9_setting ks_X9_setting hW.2.2.2.1.1 ⟨by decide, rfl⟩ rfl rfl (Nat.le_of_ble_eq_true rfl) ⟨⟨by decide, by decide⟩, by decide, by decide⟩ (fun I3 L4 eI3 eL4 => ?_)
    replace eI3 := eI3.symm; subst eI3
    replace eL4 := eL4.symm; subst eL4
    refine x_iret 180 C dX11_count_180 rfl rfl (Nat.le_refl _) (xN.intro ?_)
    exact ⟨rfl, rfl, rfl⟩
  · skip
    refine x_iload_n 0 C dX11_count_0 rfl 1 rfl ?_
    refine x_if_lt 1 C 10 dX11_count_1 (by decide) (fun c5 => absurd c5 (by decide)) (fun _ => ?_)
    refine x_iload_n 4 C dX11_count_4 rfl 1 rfl ?_
    refine x_bipush 5 C (v := 18) dX11_count_5 rfl ?_
    refine x_icmp_le 7 C 13 dX11_count_7 (by decide) (fun _ => ?_) (fun c6 => absurd (by decide) c6)
    refine x_iload_n 13 C dX11_count_13 rfl 1 rfl ?_
    refine x_tsOut 14 C 172 dX11_count_14 (by decide) (by decide) ?_
    refine x_aload_n 172 C dX11_count_172 rfl 0 rfl ?_
    refine x_getr 173 C (b := o + 75) dX11_count_173 ff_X11_26 rfl hW.1 rfl ?_
    refine x_iload_n 176 C dX11_count_176 rfl 1 rfl ?_
    refine x_callVe 177 C dX11_count_177 (As := [.int (nI 1)]) (rest := []) [.int (I ((o + 75) + 9) 1)] (t_X9_setting l D z n G I L (o + 75) 1 hW.2.2.2.1 (by first | omega | assumption | decide)) mt_X9_setting km_X11_175 ki_X9_setting ks_X9_setting hW.2.2.2.1.1 ⟨by decide, rfl⟩ rfl rfl (Nat.le_of_ble_eq_true rfl) ⟨⟨by decide, by decide⟩, by decide, by decide⟩ (fun I7 L8 eI7 eL8 => ?_)
    replace eI7 := eI7.symm; subst eI7
    replace eL8 := eL8.symm; subst eL8
    refine x_iret 180 C dX11_count_180 rfl rfl (Nat.le_refl _) (xN.intro ?_)
    exact ⟨rfl, rfl, rfl⟩
  · skip
    refine x_iload_n 0 C dX11_count_0 rfl 1 rfl ?_
    refine x_if_lt 1 C 10 dX11_count_1 (by decide) (fun c9 => absurd c9 (by decide)) (fun _ => ?_)
    refine x_iload_n 4 C dX11_count_4 rfl 1 rfl ?_
    refine x_bipush 5 C (v := 18) dX11_count_5 rfl ?_
    refine x_icmp_le 7 C 13 dX11_count_7 (by decide) (fun _ => ?_) (fun c10 => absurd (by decide) c10)
    refine x_iload_n 13 C dX11_count_13 rfl 1 rfl ?_
    refine x_tsOut 14 C 172 dX11_count_14 (by decide) (by decide) ?_
    refine x_aload_n 172 C dX11_count_172 rfl 0 rfl ?_
    refine x_getr 173 C (b := o + 75) dX11_count_173 ff_X11_26 rfl hW.1 rfl ?_
    refine x_iload_n 176 C dX11_count_176 rfl 1 rfl ?_
    refine x_callVe 177 C dX11_count_177 (As := [.int (nI 2)]) (rest := []) [.int (I ((o + 75) + 9) 2)] (t_X9_setting l D z n G I L (o + 75) 2 hW.2.2.2.1 (by first | omega | assumption | decide)) mt_X9_setting km_X11_175 ki_X9_setting ks_X9_setting hW.2.2.2.1.1 ⟨by decide, rfl⟩ rfl rfl (Nat.le_of_ble_eq_true rfl) ⟨⟨by decide, by decide⟩, by decide, by decide⟩ (fun I11 L12 eI11 eL12 => ?_)
    replace eI11 := eI11.symm; subst eI11
    replace eL12 := eL12.symm; subst eL12
    refine x_iret 180 C dX11_count_180 rfl rfl (Nat.le_refl _) (xN.intro ?_)
    exact ⟨rfl, rfl, rfl⟩
  · skip
    refine x_iload_n 0 C dX11_count_0 rfl 1 rfl ?_
    refine x_if_lt 1 C 10 dX11_count_1 (by decide) (fun c13 => absurd c13 (by decide)) (fun _ => ?_)
    refine x_iload_n 4 C dX11_count_4 rfl 1 rfl ?_
    refine x_bipush 5 C (v := 18) dX11_count_5 rfl ?_
    refine x_icmp_le 7 C 13 dX11_count_7 (by decide) (fun _ => ?_) (fun c14 => absurd (by decide) c14)
    refine x_iload_n 13 C dX11_count_13 rfl 1 rfl ?_
    refine x_tsOut 14 C 172 dX11_count_14 (by decide) (by decide) ?_
    refine x_aload_n 172 C dX11_count_172 rfl 0 rfl ?_
    refine x_getr 173 C (b := o + 75) dX11_count_173 ff_X11_26 rfl hW.1 rfl ?_
    refine x_iload_n 176 C dX11_count_176 rfl 1 rfl ?_
    refine x_callVe 177 C dX11_count_177 (As := [.int (nI 3)]) (rest := []) [.int (I ((o + 75) + 9) 3)] (t_X9_setting l D z n G I L (o + 75) 3 hW.2.2.2.1 (by first | omega | assumption | decide)) mt_X9_setting km_X11_175 ki_X9_setting ks_X9_setting hW.2.2.2.1.1 ⟨by decide, rfl⟩ rfl rfl (Nat.le_of_ble_eq_true rfl) ⟨⟨by decide, by decide⟩, by decide, by decide⟩ (fun I15 L16 eI15 eL16 => ?_)
    replace eI15 := eI15.symm; subst eI15
    replace eL16 := eL16.symm; subst eL16
    refine x_iret 180 C dX11_count_180 rfl rfl (Nat.le_refl _) (xN.intro ?_)
    exact ⟨rfl, rfl, rfl⟩
  · skip
    refine x_iload_n 0 C dX11_count_0 rfl 1 rfl ?_
    refine x_if_lt 1 C 10 dX11_count_1 (by decide) (fun c17 => absurd c17 (by decide)) (fun _ => ?_)
    refine x_iload_n 4 C dX11_count_4 rfl 1 rfl ?_
    refine x_bipush 5 C (v := 18) dX11_count_5 rfl ?_
    refine x_icmp_le 7 C 13 dX11_count_7 (by decide) (fun _ => ?_) (fun c18 => absurd (by decide) c18)
    refine x_iload_n 13 C dX11_count_13 rfl 1 rfl ?_
    refine x_tsOut 14 C 172 dX11_count_14 (by decide) (by decide) ?_
    refine x_aload_n 172 C dX11_count_172 rfl 0 rfl ?_
    refine x_getr 173 C (b := o + 75) dX11_count_173 ff_X11_26 rfl hW.1 rfl ?_
    refine x_iload_n 176 C dX11_count_176 rfl 1 rfl ?_
    refine x_callVe 177 C dX11_count_177 (As := [.int (nI 4)]) (rest := []) [.int (I ((o + 75) + 9) 4)] (t_X9_setting l D z n G I L (o + 75) 4 hW.2.2.2.1 (by first | omega | assumption | decide)) mt_X9_setting km_X11_175 ki_X9_setting ks_X9_setting hW.2.2.2.1.1 ⟨by decide, rfl⟩ rfl rfl (Nat.le_of_ble_eq_true rfl) ⟨⟨by decide, by decide⟩, by decide, by decide⟩ (fun I19 L20 eI19 eL20 => ?_)
    replace eI19 := eI19.symm; subst eI19
    replace eL20 := eL20.symm; subst eL20
    refine x_iret 180 C dX11_count_180 rfl rfl (Nat.le_refl _) (xN.intro ?_)
    exact ⟨rfl, rfl, rfl⟩
  · skip
    refine x_iload_n 0 C dX11_count_0 rfl 1 rfl ?_
    refine x_if_lt 1 C 10 dX11_count_1 (by decide) (fun c21 => absurd c21 (by decide)) (fun _ => ?_)
    refine x_iload_n 4 C dX11_count_4 rfl 1 rfl ?_
    refine x_bipush 5 C (v := 18) dX11_count_5 rfl ?_
    refine x_icmp_le 7 C 13 dX11_count_7 (by decide) (fun _ => ?_) (fun c22 => absurd (by decide) c22)
    refine x_iload_n 13 C dX11_count_13 rfl 1 rfl ?_
    refine x_tsOut 14 C 172 dX11_count_14 (by decide) (by decide) ?_
    refine x_aload_n 172 C dX11_count_172 rfl 0 rfl ?_
    refine x_getr 173 C (b := o + 75) dX11_count_173 ff_X11_26 rfl hW.1 rfl ?_
    refine x_iload_n 176 C dX11_count_176 rfl 1 rfl ?_
    refine x_callVe 177 C dX11_count_177 (As := [.int (nI 5)]) (rest := []) [.int (I ((o + 75) + 9) 5)] (t_X9_setting l D z n G I L (o + 75) 5 hW.2.2.2.1 (by first | omega | assumption | decide)) mt_X9_setting km_X11_175 ki_X9_setting ks_X9_setting hW.2.2.2.1.1 ⟨by decide, rfl⟩ rfl rfl (Nat.le_of_ble_eq_true rfl) ⟨⟨by decide, by decide⟩, by decide, by decide⟩ (fun I23 L24 eI23 eL24 => ?_)
    replace eI23 := eI23.symm; subst eI23
    replace eL24 := eL24.symm; subst eL24
    refine x_iret 180 C dX11_count_180 rfl rfl (Nat.le_refl _) (xN.intro ?_)
    exact ⟨rfl, rfl, rfl⟩
  · skip
    refine x_iload_n 0 C dX11_count_0 rfl 1 rfl ?_
    refine x_if_lt 1 C 10 dX11_count_1 (by decide) (fun c25 => absurd c25 (by decide)) (fun _ => ?_)
    refine x_iload_n 4 C dX11_count_4 rfl 1 rfl ?_
    refine x_bipush 5 C (v := 18) dX11_count_5 rfl ?_
    refine x_icmp_le 7 C 13 dX11_count_7 (by decide) (fun _ => ?_) (fun c26 => absurd (by decide) c26)
    refine x_iload_n 13 C dX11_count_13 rfl 1 rfl ?_
    refine x_tsOut 14 C 172 dX11_count_14 (by decide) (by decide) ?_
    refine x_aload_n 172 C dX11_count_172 rfl 0 rfl ?_
    refine x_getr 173 C (b := o + 75) dX11_count_173 ff_X11_26 rfl hW.1 rfl ?_
    refine x_iload_n 176 C dX11_count_176 rfl 1 rfl ?_
    refine x_callVe 177 C dX11_count_177 (As := [.int (nI 6)]) (rest := []) [.int (I ((o + 75) + 9) 6)] (t_X9_setting l D z n G I L (o + 75) 6 hW.2.2.2.1 (by first | omega | assumption | decide)) mt_X9_setting km_X11_175 ki_X9_setting ks_X9_setting hW.2.2.2.1.1 ⟨by decide, rfl⟩ rfl rfl (Nat.le_of_ble_eq_true rfl) ⟨⟨by decide, by decide⟩, by decide, by decide⟩ (fun I27 L28 eI27 eL28 => ?_)
    replace eI27 := eI27.symm; subst eI27
    replace eL28 := eL28.symm; subst eL28
    refine x_iret 180 C dX11_count_180 rfl rfl (Nat.le_refl _) (xN.intro ?_)
    exact ⟨rfl, rfl, rfl⟩
  · skip
    refine x_iload_n 0 C dX11_count_0 rfl 1 rfl ?_
    refine x_if_lt 1 C 10 dX11_count_1 (by decide) (fun c29 => absurd c29 (by decide)) (fun _ => ?_)
    refine x_iload_n 4 C dX11_count_4 rfl 1 rfl ?_
    refine x_bipush 5 C (v := 18) dX11_count_5 rfl ?_
    refine x_icmp_le 7 C 13 dX11_count_7 (by decide) (fun _ => ?_) (fun c30 => absurd (by decide) c30)
    refine x_iload_n 13 C dX11_count_13 rfl 1 rfl ?_
    refine x_tsOut 14 C 172 dX11_count_14 (by decide) (by decide) ?_
    refine x_aload_n 172 C dX11_count_172 rfl 0 rfl ?_
    refine x_getr 173 C (b := o + 75) dX11_count_173 ff_X11_26 rfl hW.1 rfl ?_
    refine x_iload_n 176 C dX11_count_176 rfl 1 rfl ?_
    refine x_callVe 177 C dX11_count_177 (As := [.int (nI 7)]) (rest := []) [.int (I ((o + 75) + 9) 7)] (t_X9_setting l D z n G I L (o + 75) 7 hW.2.2.2.1 (by first | omega | assumption | decide)) mt_X9_setting km_X11_175 ki_X9_setting ks_X9_setting hW.2.2.2.1.1 ⟨by decide, rfl⟩ rfl rfl (Nat.le_of_ble_eq_true rfl) ⟨⟨by decide, by decide⟩, by decide, by decide⟩ (fun I31 L32 eI31 eL32 => ?_)
    replace eI31 := eI31.symm; subst eI31
    replace eL32 := eL32.symm; subst eL32
    refine x_iret 180 C dX11_count_180 rfl rfl (Nat.le_refl _) (xN.intro ?_)
    exact ⟨rfl, rfl, rfl⟩
  · skip
    refine x_iload_n 0 C dX11_count_0 rfl 1 rfl ?_
    refine x_if_lt 1 C 10 dX11_count_1 (by decide) (fun c33 => absurd c33 (by decide)) (fun _ => ?_)
    refine x_iload_n 4 C dX11_count_4 rfl 1 rfl ?_
    refine x_bipush 5 C (v := 18) dX11_count_5 rfl ?_
    refine x_icmp_le 7 C 13 dX11_count_7 (by decide) (fun _ => ?_) (fun c34 => absurd (by decide) c34)
    refine x_iload_n 13 C dX11_count_13 rfl 1 rfl ?_
    refine x_tsIn 14 C 72 dX11_count_14 (v := 8) rfl (by decide) (by decide) rfl (by decide) ?_
    refine x_aload_n 72 C dX11_count_72 rfl 0 rfl ?_
    refine x_getr 73 C (b := o + 75) dX11_count_73 ff_X11_26 rfl hW.1 rfl ?_
    refine x_callVe 76 C dX11_count_76 (As := []) (rest := []) [.int (I (o + 75) 4)] (t_X9_pathCount l D z n G I L (o + 75) hW.2.2.2.1) mt_X9_pathCount km_X11_118 ki_X9_pathCount ks_X9_pathCount hW.2.2.2.1.1 ⟨by decide, rfl⟩ rfl rfl (Nat.le_of_ble_eq_true rfl) ⟨⟨by decide, by decide⟩, by decide, by decide⟩ (fun I35 L36 eI35 eL36 => ?_)
    replace eI35 := eI35.symm; subst eI35
    replace eL36 := eL36.symm; subst eL36
    refine x_int (nI U) hU ?_
    refine x_iret 79 C dX11_count_79 rfl rfl (Nat.le_refl _) (xN.intro ?_)
    exact ⟨rfl, rfl, rfl⟩
  · skip
    refine x_iload_n 0 C dX11_count_0 rfl 1 rfl ?_
    refine x_if_lt 1 C 10 dX11_count_1 (by decide) (fun c37 => absurd c37 (by decide)) (fun _ => ?_)
    refine x_iload_n 4 C dX11_count_4 rfl 1 rfl ?_
    refine x_bipush 5 C (v := 18) dX11_count_5 rfl ?_
    refine x_icmp_le 7 C 13 dX11_count_7 (by decide) (fun _ => ?_) (fun c38 => absurd (by decide) c38)
    refine x_iload_n 13 C dX11_count_13 rfl 1 rfl ?_
    refine x_tsIn 14 C 80 dX11_count_14 (v := 9) rfl (by decide) (by decide) rfl (by decide) ?_
    refine x_aload_n 80 C dX11_count_80 rfl 0 rfl ?_
    refine x_getr 81 C (b := o + 75) dX11_count_81 ff_X11_26 rfl hW.1 rfl ?_
    refine x_iconst 84 C (v := 0) dX11_count_84 rfl ?_
    refine x_callVe 85 C dX11_count_85 (As := [.int 0]) (rest := []) [.int (nI (cntN (stIs I (o + 75) 0) U))] (t_X9_pathsOfStatus l D z n G I L (o + 75) 0 U hW.2.2.2.1 (by first | assumption | omega | decide) (by first | omega | assumption | decide)) mt_X9_pathsOfStatus km_X11_121 ki_X9_pathsOfStatus ks_X9_pathsOfStatus hW.2.2.2.1.1 ⟨by decide, rfl⟩ rfl rfl (Nat.le_of_ble_eq_true rfl) ⟨⟨by decide, by decide⟩, by decide, by decide⟩ (fun I39 L40 eI39 eL40 => ?_)
    replace eI39 := eI39.symm; subst eI39
    replace eL40 := eL40.symm; subst eL40
    refine x_iret 88 C dX11_count_88 rfl rfl (Nat.le_refl _) (xN.intro ?_)
    exact ⟨rfl, rfl, rfl⟩
  · skip
    refine x_iload_n 0 C dX11_count_0 rfl 1 rfl ?_
    refine x_if_lt 1 C 10 dX11_count_1 (by decide) (fun c41 => absurd c41 (by decide)) (fun _ => ?_)
    refine x_iload_n 4 C dX11_count_4 rfl 1 rfl ?_
    refine x_bipush 5 C (v := 18) dX11_count_5 rfl ?_
    refine x_icmp_le 7 C 13 dX11_count_7 (by decide) (fun _ => ?_) (fun c42 => absurd (by decide) c42)
    refine x_iload_n 13 C dX11_count_13 rfl 1 rfl ?_
    refine x_tsIn 14 C 89 dX11_count_14 (v := 10) rfl (by decide) (by decide) rfl (by decide) ?_
    refine x_aload_n 89 C dX11_count_89 rfl 0 rfl ?_
    refine x_getr 90 C (b := o + 75) dX11_count_90 ff_X11_26 rfl hW.1 rfl ?_
    refine x_iconst 93 C (v := 1) dX11_count_93 rfl ?_
    refine x_callVe 94 C dX11_count_94 (As := [.int 1]) (rest := []) [.int (nI (cntN (stIs I (o + 75) 1) U))] (t_X9_pathsOfStatus l D z n G I L (o + 75) 1 U hW.2.2.2.1 (by first | assumption | omega | decide) (by first | omega | assumption | decide)) mt_X9_pathsOfStatus km_X11_121 ki_X9_pathsOfStatus ks_X9_pathsOfStatus hW.2.2.2.1.1 ⟨by decide, rfl⟩ rfl rfl (Nat.le_of_ble_eq_true rfl) ⟨⟨by decide, by decide⟩, by decide, by decide⟩ (fun I43 L44 eI43 eL44 => ?_)
    replace eI43 := eI43.symm; subst eI43
    replace eL44 := eL44.symm; subst eL44
    refine x_iret 97 C dX11_count_97 rfl rfl (Nat.le_refl _) (xN.intro ?_)
    exact ⟨rfl, rfl, rfl⟩
  · skip
    refine x_iload_n 0 C dX11_count_0 rfl 1 rfl ?_
    refine x_if_lt 1 C 10 dX11_count_1 (by decide) (fun c45 => absurd c45 (by decide)) (fun _ => ?_)
    refine x_iload_n 4 C dX11_count_4 rfl 1 rfl ?_
    refine x_bipush 5 C (v := 18) dX11_count_5 rfl ?_
    refine x_icmp_le 7 C 13 dX11_count_7 (by decide) (fun _ => ?_) (fun c46 => absurd (by decide) c46)
    refine x_iload_n 13 C dX11_count_13 rfl 1 rfl ?_
    refine x_tsIn 14 C 98 dX11_count_14 (v := 11) rfl (by decide) (by decide) rfl (by decide) ?_
    refine x_aload_n 98 C dX11_count_98 rfl 0 rfl ?_
    refine x_getr 99 C (b := o + 75) dX11_count_99 ff_X11_26 rfl hW.1 rfl ?_
    refine x_iconst 102 C (v := 2) dX11_count_102 rfl ?_
    refine x_callVe 103 C dX11_count_103 (As := [.int 2]) (rest := []) [.int (nI (cntN (stIs I (o + 75) 2) U))] (t_X9_pathsOfStatus l D z n G I L (o + 75) 2 U hW.2.2.2.1 (by first | assumption | omega | decide) (by first | omega | assumption | decide)) mt_X9_pathsOfStatus km_X11_121 ki_X9_pathsOfStatus ks_X9_pathsOfStatus hW.2.2.2.1.1 ⟨by decide, rfl⟩ rfl rfl (Nat.le_of_ble_eq_true rfl) ⟨⟨by decide, by decide⟩, by decide, by decide⟩ (fun I47 L48 eI47 eL48 => ?_)
    replace eI47 := eI47.symm; subst eI47
    replace eL48 := eL48.symm; subst eL48
    refine x_iret 106 C dX11_count_106 rfl rfl (Nat.le_refl _) (xN.intro ?_)
    exact ⟨rfl, rfl, rfl⟩
  · skip
    refine x_iload_n 0 C dX11_count_0 rfl 1 rfl ?_
    refine x_if_lt 1 C 10 dX11_count_1 (by decide) (fun c49 => absurd c49 (by decide)) (fun _ => ?_)
    refine x_iload_n 4 C dX11_count_4 rfl 1 rfl ?_
    refine x_bipush 5 C (v := 18) dX11_count_5 rfl ?_
    refine x_icmp_le 7 C 13 dX11_count_7 (by decide) (fun _ => ?_) (fun c50 => absurd (by decide) c50)
    refine x_iload_n 13 C dX11_count_13 rfl 1 rfl ?_
    refine x_tsIn 14 C 107 dX11_count_14 (v := 12) rfl (by decide) (by decide) rfl (by decide) ?_
    refine x_aload_n 107 C dX11_count_107 rfl 0 rfl ?_
    refine x_getr 108 C (b := o + 75) dX11_count_108 ff_X11_26 rfl hW.1 rfl ?_
    refine x_iconst 111 C (v := 3) dX11_count_111 rfl ?_
    refine x_callVe 112 C dX11_count_112 (As := [.int 3]) (rest := []) [.int (nI (cntN (stIs I (o + 75) 3) U))] (t_X9_pathsOfStatus l D z n G I L (o + 75) 3 U hW.2.2.2.1 (by first | assumption | omega | decide) (by first | omega | assumption | decide)) mt_X9_pathsOfStatus km_X11_121 ki_X9_pathsOfStatus ks_X9_pathsOfStatus hW.2.2.2.1.1 ⟨by decide, rfl⟩ rfl rfl (Nat.le_of_ble_eq_true rfl) ⟨⟨by decide, by decide⟩, by decide, by decide⟩ (fun I51 L52 eI51 eL52 => ?_)
    replace eI51 := eI51.symm; subst eI51
    replace eL52 := eL52.symm; subst eL52
    refine x_iret 115 C dX11_count_115 rfl rfl (Nat.le_refl _) (xN.intro ?_)
    exact ⟨rfl, rfl, rfl⟩
  · skip
    refine x_iload_n 0 C dX11_count_0 rfl 1 rfl ?_
    refine x_if_lt 1 C 10 dX11_count_1 (by decide) (fun c53 => absurd c53 (by decide)) (fun _ => ?_)
    refine x_iload_n 4 C dX11_count_4 rfl 1 rfl ?_
    refine x_bipush 5 C (v := 18) dX11_count_5 rfl ?_
    refine x_icmp_le 7 C 13 dX11_count_7 (by decide) (fun _ => ?_) (fun c54 => absurd (by decide) c54)
    refine x_iload_n 13 C dX11_count_13 rfl 1 rfl ?_
    refine x_tsIn 14 C 116 dX11_count_14 (v := 13) rfl (by decide) (by decide) rfl (by decide) ?_
    refine x_aload_n 116 C dX11_count_116 rfl 0 rfl ?_
    refine x_getr 117 C (b := o + 75) dX11_count_117 ff_X11_26 rfl hW.1 rfl ?_
    refine x_callVe 120 C dX11_count_120 (As := []) (rest := []) [.int (nI (cntN (fun i => stIs I (o + 75) 1 i && (findN (metP I L (o + 75) i) i).isNone) U))] (t_X9_distinctEnds l D z n G I L (o + 75) U hW.2.2.2.1 (by first | assumption | omega | decide) (by first | omega | assumption | decide)) mt_X9_distinctEnds km_X11_181 ki_X9_distinctEnds ks_X9_distinctEnds hW.2.2.2.1.1 ⟨by decide, rfl⟩ rfl rfl (Nat.le_of_ble_eq_true rfl) ⟨⟨by decide, by decide⟩, by decide, by decide⟩ (fun I55 L56 eI55 eL56 => ?_)
    replace eI55 := eI55.symm; subst eI55
    replace eL56 := eL56.symm; subst eL56
    refine x_iret 123 C dX11_count_123 rfl rfl (Nat.le_refl _) (xN.intro ?_)
    exact ⟨rfl, rfl, rfl⟩
  · skip
    refine x_iload_n 0 C dX11_count_0 rfl 1 rfl ?_
    refine x_if_lt 1 C 10 dX11_count_1 (by decide) (fun c57 => absurd c57 (by decide)) (fun _ => ?_)
    refine x_iload_n 4 C dX11_count_4 rfl 1 rfl ?_
    refine x_bipush 5 C (v := 18) dX11_count_5 rfl ?_
    refine x_icmp_le 7 C 13 dX11_count_7 (by decide) (fun _ => ?_) (fun c58 => absurd (by decide) c58)
    refine x_iload_n 13 C dX11_count_13 rfl 1 rfl ?_
    refine x_tsIn 14 C 124 dX11_count_14 (v := 14) rfl (by decide) (by decide) rfl (by decide) ?_
    refine x_aload_n 124 C dX11_count_124 rfl 0 rfl ?_
    refine x_getr 125 C (b := o + 75) dX11_count_125 ff_X11_26 rfl hW.1 rfl ?_
    refine x_callVe 128 C dX11_count_128 (As := []) (rest := []) [.int (nI (cntN (fun i => stIs I (o + 75) 1 i && realP I L ((o + 75) + 11 + 3 * i) (I ((o + 75) + 9) 5)) U))] (t_X9_realEnds l D z n G I L (o + 75) U hW.2.2.2.1 (by first | assumption | omega | decide) (by first | omega | assumption | decide)) mt_X9_realEnds km_X11_184 ki_X9_realEnds ks_X9_realEnds hW.2.2.2.1.1 ⟨by decide, rfl⟩ rfl rfl (Nat.le_of_ble_eq_true rfl) ⟨⟨by decide, by decide⟩, by decide, by decide⟩ (fun I59 L60 eI59 eL60 => ?_)
    replace eI59 := eI59.symm; subst eI59
    replace eL60 := eL60.symm; subst eL60
    refine x_iret 131 C dX11_count_131 rfl rfl (Nat.le_refl _) (xN.intro ?_)
    exact ⟨rfl, rfl, rfl⟩
  · skip
    refine x_iload_n 0 C dX11_count_0 rfl 1 rfl ?_
    refine x_if_lt 1 C 10 dX11_count_1 (by decide) (fun c61 => absurd c61 (by decide)) (fun _ => ?_)
    refine x_iload_n 4 C dX11_count_4 rfl 1 rfl ?_
    refine x_bipush 5 C (v := 18) dX11_count_5 rfl ?_
    refine x_icmp_le 7 C 13 dX11_count_7 (by decide) (fun _ => ?_) (fun c62 => absurd (by decide) c62)
    refine x_iload_n 13 C dX11_count_13 rfl 1 rfl ?_
    refine x_tsIn 14 C 132 dX11_count_14 (v := 15) rfl (by decide) (by decide) rfl (by decide) ?_
    refine x_aload_n 132 C dX11_count_132 rfl 0 rfl ?_
    refine x_getr 133 C (b := o + 1) dX11_count_133 ff_X11_10 rfl hW.1 rfl ?_
    refine x_callVe 136 C dX11_count_136 (As := []) (rest := []) [.int (I (o + 1) 2)] (t_X2_length l D z n G I L (o + 1) hW.2.1) mt_X2_length km_X11_53 ki_X2_length ks_X2_length hW.2.1.1 ⟨by decide, rfl⟩ rfl rfl (Nat.le_of_ble_eq_true rfl) ⟨⟨by decide, by decide⟩, by decide, by decide⟩ (fun I63 L64 eI63 eL64 => ?_)
    replace eI63 := eI63.symm; subst eI63
    replace eL64 := eL64.symm; subst eL64
    refine x_int (nI N) hN ?_
    refine x_iret 139 C dX11_count_139 rfl rfl (Nat.le_refl _) (xN.intro ?_)
    exact ⟨rfl, rfl, rfl⟩
  · skip
    refine x_iload_n 0 C dX11_count_0 rfl 1 rfl ?_
    refine x_if_lt 1 C 10 dX11_count_1 (by decide) (fun c65 => absurd c65 (by decide)) (fun _ => ?_)
    refine x_iload_n 4 C dX11_count_4 rfl 1 rfl ?_
    refine x_bipush 5 C (v := 18) dX11_count_5 rfl ?_
    refine x_icmp_le 7 C 13 dX11_count_7 (by decide) (fun _ => ?_) (fun c66 => absurd (by decide) c66)
    refine x_iload_n 13 C dX11_count_13 rfl 1 rfl ?_
    refine x_tsIn 14 C 140 dX11_count_14 (v := 16) rfl (by decide) (by decide) rfl (by decide) ?_
    refine x_aload_n 140 C dX11_count_140 rfl 0 rfl ?_
    refine x_getr 141 C (b := o + 113) dX11_count_141 ff_X11_36 rfl hW.1 rfl ?_
    refine x_callVe 144 C dX11_count_144 (As := []) (rest := []) [.int (I (o + 113) 2)] (t_X4_size l D z n G I L (o + 113) hW.2.2.2.2.1) mt_X4_size km_X11_187 ki_X4_size ks_X4_size hW.2.2.2.2.1.1 ⟨by decide, rfl⟩ rfl rfl (Nat.le_of_ble_eq_true rfl) ⟨⟨by decide, by decide⟩, by decide, by decide⟩ (fun I67 L68 eI67 eL68 => ?_)
    replace eI67 := eI67.symm; subst eI67
    replace eL68 := eL68.symm; subst eL68
    refine x_iret 147 C dX11_count_147 rfl rfl (Nat.le_refl _) (xN.intro ?_)
    exact ⟨rfl, rfl, rfl⟩
  · skip
    refine x_iload_n 0 C dX11_count_0 rfl 1 rfl ?_
    refine x_if_lt 1 C 10 dX11_count_1 (by decide) (fun c69 => absurd c69 (by decide)) (fun _ => ?_)
    refine x_iload_n 4 C dX11_count_4 rfl 1 rfl ?_
    refine x_bipush 5 C (v := 18) dX11_count_5 rfl ?_
    refine x_icmp_le 7 C 13 dX11_count_7 (by decide) (fun _ => ?_) (fun c70 => absurd (by decide) c70)
    refine x_iload_n 13 C dX11_count_13 rfl 1 rfl ?_
    refine x_tsIn 14 C 148 dX11_count_14 (v := 17) rfl (by decide) (by decide) rfl (by decide) ?_
    refine x_aload_n 148 C dX11_count_148 rfl 0 rfl ?_
    refine x_getr 149 C (b := o + 75) dX11_count_149 ff_X11_26 rfl hW.1 rfl ?_
    refine x_iconst 152 C (v := 0) dX11_count_152 rfl ?_
    refine x_callVe 153 C dX11_count_153 (As := [.int 0]) (rest := []) [.ref (o + 75 + 1 + 4 * 0)] (t_X9_equationAt l D z n G I L (o + 75) 0 hW.2.2.2.1 (by first | omega | assumption | decide)) mt_X9_equationAt km_X11_87 ki_X9_equationAt ks_X9_equationAt hW.2.2.2.1.1 ⟨by decide, rfl⟩ rfl rfl (Nat.le_of_ble_eq_true rfl) ⟨⟨by decide, by decide⟩, by decide, by decide⟩ (fun I71 L72 eI71 eL72 => ?_)
    replace eI71 := eI71.symm; subst eI71
    replace eL72 := eL72.symm; subst eL72
    refine x_callVe 156 C dX11_count_156 (As := []) (rest := []) [.int (nI (dgN (I ((o + 75 + 1 + 4 * 0) + 1)) (I ((o + 75 + 1 + 4 * 0) + 2)) 10))] (t_X1_degree l D z n G I L (o + 75 + 1 + 4 * 0) (hW.2.2.2.1.2.1 0 (by decide))) mt_X1_degree km_X11_74 ki_X1_degree ks_X1_degree (hW.2.2.2.1.2.1 0 (by decide)).1 ⟨by decide, rfl⟩ rfl rfl (Nat.le_of_ble_eq_true rfl) ⟨⟨by decide, by decide⟩, by decide, by decide⟩ (fun I73 L74 eI73 eL74 => ?_)
    replace eI73 := eI73.symm; subst eI73
    replace eL74 := eL74.symm; subst eL74
    refine x_iret 159 C dX11_count_159 rfl rfl (Nat.le_refl _) (xN.intro ?_)
    exact ⟨rfl, rfl, rfl⟩
  · skip
    refine x_iload_n 0 C dX11_count_0 rfl 1 rfl ?_
    refine x_if_lt 1 C 10 dX11_count_1 (by decide) (fun c75 => absurd c75 (by decide)) (fun _ => ?_)
    refine x_iload_n 4 C dX11_count_4 rfl 1 rfl ?_
    refine x_bipush 5 C (v := 18) dX11_count_5 rfl ?_
    refine x_icmp_le 7 C 13 dX11_count_7 (by decide) (fun _ => ?_) (fun c76 => absurd (by decide) c76)
    refine x_iload_n 13 C dX11_count_13 rfl 1 rfl ?_
    refine x_tsIn 14 C 160 dX11_count_14 (v := 18) rfl (by decide) (by decide) rfl (by decide) ?_
    refine x_aload_n 160 C dX11_count_160 rfl 0 rfl ?_
    refine x_getr 161 C (b := o + 75) dX11_count_161 ff_X11_26 rfl hW.1 rfl ?_
    refine x_iconst 164 C (v := 1) dX11_count_164 rfl ?_
    refine x_callVe 165 C dX11_count_165 (As := [.int 1]) (rest := []) [.ref (o + 75 + 1 + 4 * 1)] (t_X9_equationAt l D z n G I L (o + 75) 1 hW.2.2.2.1 (by first | omega | assumption | decide)) mt_X9_equationAt km_X11_87 ki_X9_equationAt ks_X9_equationAt hW.2.2.2.1.1 ⟨by decide, rfl⟩ rfl rfl (Nat.le_of_ble_eq_true rfl) ⟨⟨by decide, by decide⟩, by decide, by decide⟩ (fun I77 L78 eI77 eL78 => ?_)
    replace eI77 := eI77.symm; subst eI77
    replace eL78 := eL78.symm; subst eL78
    refine x_callVe 168 C dX11_count_168 (As := []) (rest := []) [.int (nI (dgN (I ((o + 75 + 1 + 4 * 1) + 1)) (I ((o + 75 + 1 + 4 * 1) + 2)) 10))] (t_X1_degree l D z n G I L (o + 75 + 1 + 4 * 1) (hW.2.2.2.1.2.1 1 (by decide))) mt_X1_degree km_X11_74 ki_X1_degree ks_X1_degree (hW.2.2.2.1.2.1 1 (by decide)).1 ⟨by decide, rfl⟩ rfl rfl (Nat.le_of_ble_eq_true rfl) ⟨⟨by decide, by decide⟩, by decide, by decide⟩ (fun I79 L80 eI79 eL80 => ?_)
    replace eI79 := eI79.symm; subst eI79
    replace eL80 := eL80.symm; subst eL80
    refine x_iret 171 C dX11_count_171 rfl rfl (Nat.le_refl _) (xN.intro ?_)
    exact ⟨rfl, rfl, rfl⟩
