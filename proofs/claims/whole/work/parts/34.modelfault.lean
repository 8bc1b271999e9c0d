/-! The Model: faultOf -/
def fm (J Ik : xI) (A : Nat) (t : Nat → Nat) (N q : Nat) (f g : Nat → Int32) : Prop := mx Ik A t N q ∧ toldIs Ik A f g ∧ (∀ a, a ≠ A → a ≠ A + 14 → Ik a = J a) ∧ ∀ j, (j < 18 ∨ 22 < j) → Ik A j = J A j
theorem fm_rg {J Ik : xI} {A N q : Nat} {t : Nat → Nat} {f g : Nat → Int32} (h : fm J Ik A t N q f g) (r px py nu im : Nat) : fm J (rg Ik A r px py nu im) A t N r f g :=
  ⟨mx_rg h.1 r px py nu im, fun k hk => by rw [rg_row _ _ _ _ _ _ _ (by omega)]; exact h.2.1 k hk, fun a h1 h2 => by rw [rg_row _ _ _ _ _ _ _ h1]; exact h.2.2.1 a h1 h2, fun j hj => by rw [rg_oth _ _ _ _ _ _ _ hj]; exact h.2.2.2 j hj⟩
theorem fm_18 {J Ik : xI} {A N q : Nat} {t : Nat → Nat} {f g : Nat → Int32} (h : fm J Ik A t N q f g) (q' : Nat) : fm J (xup Ik A 18 (nI q')) A t N q' f g :=
  ⟨mx_up h.1 q', fun k hk => by rw [xup_row _ _ (by omega)]; exact h.2.1 k hk, fun a h1 h2 => by rw [xup_row _ _ h1]; exact h.2.2.1 a h1 h2, fun j hj => by rw [xup_ne _ _ (by omega)]; exact h.2.2.2 j hj⟩
theorem fm_add {J Ik : xI} {A N q k im mi v : Nat} {t : Nat → Nat} {f g : Nat → Int32} {sgn : Int32} (h : fm J Ik A t N q f g) (hf : inB f) (hg : inB g) (hk : k < 10) (him : im < 2) (hs : sgn = if mi = 1 then -(nI v) else nI v) :
    fm J (addI Ik A (2 * k + im) mi v) A t N q (upT f k (if im = 1 then 0 else sgn)) (upT g k (if im = 1 then sgn else 0)) :=
  ⟨⟨fun j hj => by unfold addI; rw [xup_row _ _ (by omega)]; exact h.1.1 j hj, by unfold addI; rw [xup_row _ _ (by omega)]; exact h.1.2.1, by unfold addI; rw [xup_row _ _ (by omega)]; exact h.1.2.2⟩, told_add h.2.1 hf hg hk him hs,
   fun a h1 h2 => by unfold addI; rw [xup_row _ _ h2]; exact h.2.2.1 a h1 h2, fun j hj => by unfold addI; rw [xup_row _ _ (by omega)]; exact h.2.2.2 j hj⟩
theorem tIm_lt (t : Nat → Nat) (N r : Nat) : tIm t N r < 2 := by unfold tIm; split <;> omega
theorem dX12_faultOf_0 : decode cX12_faultOf 0 = .ok (.iconst 0, 1) := by decide +kernel
theorem dX12_faultOf_1 : decode cX12_faultOf 1 = .ok (.istore_n 1, 1) := by decide +kernel
theorem dX12_faultOf_2 : decode cX12_faultOf 2 = .ok (.iload_n 1, 1) := by decide +kernel
theorem dX12_faultOf_3 : decode cX12_faultOf 3 = .ok (.bipush 20, 2) := by decide +kernel
theorem dX12_faultOf_5 : decode cX12_faultOf 5 = .ok (.if_icmp .ge 16, 3) := by decide +kernel
theorem dX12_faultOf_8 : decode cX12_faultOf 8 = .ok (.aload_n 0, 1) := by decide +kernel
theorem dX12_faultOf_9 : decode cX12_faultOf 9 = .ok (.getfield 57, 3) := by decide +kernel
theorem dX12_faultOf_12 : decode cX12_faultOf 12 = .ok (.iload_n 1, 1) := by decide +kernel
theorem dX12_faultOf_13 : decode cX12_faultOf 13 = .ok (.iconst 0, 1) := by decide +kernel
theorem dX12_faultOf_14 : decode cX12_faultOf 14 = .ok (.iastore, 1) := by decide +kernel
theorem dX12_faultOf_15 : decode cX12_faultOf 15 = .ok (.iinc 1 1, 3) := by decide +kernel
theorem dX12_faultOf_18 : decode cX12_faultOf 18 = .ok (.goto (-16), 3) := by decide +kernel
theorem dX12_faultOf_21 : decode cX12_faultOf 21 = .ok (.aload_n 0, 1) := by decide +kernel
theorem dX12_faultOf_22 : decode cX12_faultOf 22 = .ok (.iconst 0, 1) := by decide +kernel
theorem dX12_faultOf_23 : decode cX12_faultOf 23 = .ok (.putfield 247, 3) := by decide +kernel
theorem dX12_faultOf_26 : decode cX12_faultOf 26 = .ok (.aload_n 0, 1) := by decide +kernel
theorem dX12_faultOf_27 : decode cX12_faultOf 27 = .ok (.invokevirtual 250, 3) := by decide +kernel
theorem dX12_faultOf_30 : decode cX12_faultOf 30 = .ok (.bipush 45, 2) := by decide +kernel
theorem dX12_faultOf_32 : decode cX12_faultOf 32 = .ok (.if_icmp .ne 7, 3) := by decide +kernel
theorem dX12_faultOf_35 : decode cX12_faultOf 35 = .ok (.iconst 1, 1) := by decide +kernel
theorem dX12_faultOf_36 : decode cX12_faultOf 36 = .ok (.goto 4, 3) := by decide +kernel
theorem dX12_faultOf_39 : decode cX12_faultOf 39 = .ok (.iconst 0, 1) := by decide +kernel
theorem dX12_faultOf_40 : decode cX12_faultOf 40 = .ok (.istore_n 1, 1) := by decide +kernel
theorem dX12_faultOf_41 : decode cX12_faultOf 41 = .ok (.aload_n 0, 1) := by decide +kernel
theorem dX12_faultOf_42 : decode cX12_faultOf 42 = .ok (.dup, 1) := by decide +kernel
theorem dX12_faultOf_43 : decode cX12_faultOf 43 = .ok (.getfield 247, 3) := by decide +kernel
theorem dX12_faultOf_46 : decode cX12_faultOf 46 = .ok (.iload_n 1, 1) := by decide +kernel
theorem dX12_faultOf_47 : decode cX12_faultOf 47 = .ok (.ifCond .eq 7, 3) := by decide +kernel
theorem dX12_faultOf_50 : decode cX12_faultOf 50 = .ok (.iconst 1, 1) := by decide +kernel
theorem dX12_faultOf_51 : decode cX12_faultOf 51 = .ok (.goto 4, 3) := by decide +kernel
theorem dX12_faultOf_54 : decode cX12_faultOf 54 = .ok (.iconst 0, 1) := by decide +kernel
theorem dX12_faultOf_55 : decode cX12_faultOf 55 = .ok (.iadd, 1) := by decide +kernel
theorem dX12_faultOf_56 : decode cX12_faultOf 56 = .ok (.putfield 247, 3) := by decide +kernel
theorem dX12_faultOf_59 : decode cX12_faultOf 59 = .ok (.iconst 1, 1) := by decide +kernel
theorem dX12_faultOf_60 : decode cX12_faultOf 60 = .ok (.istore_n 2, 1) := by decide +kernel
theorem dX12_faultOf_61 : decode cX12_faultOf 61 = .ok (.iload_n 2, 1) := by decide +kernel
theorem dX12_faultOf_62 : decode cX12_faultOf 62 = .ok (.ifCond .eq 75, 3) := by decide +kernel
theorem dX12_faultOf_65 : decode cX12_faultOf 65 = .ok (.aload_n 0, 1) := by decide +kernel
theorem dX12_faultOf_66 : decode cX12_faultOf 66 = .ok (.invokevirtual 281, 3) := by decide +kernel
theorem dX12_faultOf_69 : decode cX12_faultOf 69 = .ok (.ifCond .ne 8, 3) := by decide +kernel
theorem dX12_faultOf_72 : decode cX12_faultOf 72 = .ok (.aload_n 0, 1) := by decide +kernel
theorem dX12_faultOf_73 : decode cX12_faultOf 73 = .ok (.getfield 247, 3) := by decide +kernel
theorem dX12_faultOf_76 : decode cX12_faultOf 76 = .ok (.ireturn, 1) := by decide +kernel
theorem dX12_faultOf_77 : decode cX12_faultOf 77 = .ok (.aload_n 0, 1) := by decide +kernel
theorem dX12_faultOf_78 : decode cX12_faultOf 78 = .ok (.iload_n 1, 1) := by decide +kernel
theorem dX12_faultOf_79 : decode cX12_faultOf 79 = .ok (.invokevirtual 284, 3) := by decide +kernel
theorem dX12_faultOf_82 : decode cX12_faultOf 82 = .ok (.aload_n 0, 1) := by decide +kernel
theorem dX12_faultOf_83 : decode cX12_faultOf 83 = .ok (.invokevirtual 250, 3) := by decide +kernel
theorem dX12_faultOf_86 : decode cX12_faultOf 86 = .ok (.bipush 45, 2) := by decide +kernel
theorem dX12_faultOf_88 : decode cX12_faultOf 88 = .ok (.if_icmp .ne 7, 3) := by decide +kernel
theorem dX12_faultOf_91 : decode cX12_faultOf 91 = .ok (.iconst 1, 1) := by decide +kernel
theorem dX12_faultOf_92 : decode cX12_faultOf 92 = .ok (.goto 4, 3) := by decide +kernel
theorem dX12_faultOf_95 : decode cX12_faultOf 95 = .ok (.iconst 0, 1) := by decide +kernel
theorem dX12_faultOf_96 : decode cX12_faultOf 96 = .ok (.istore_n 1, 1) := by decide +kernel
theorem dX12_faultOf_97 : decode cX12_faultOf 97 = .ok (.aload_n 0, 1) := by decide +kernel
theorem dX12_faultOf_98 : decode cX12_faultOf 98 = .ok (.invokevirtual 250, 3) := by decide +kernel
theorem dX12_faultOf_101 : decode cX12_faultOf 101 = .ok (.bipush 43, 2) := by decide +kernel
theorem dX12_faultOf_103 : decode cX12_faultOf 103 = .ok (.if_icmp .eq 7, 3) := by decide +kernel
theorem dX12_faultOf_106 : decode cX12_faultOf 106 = .ok (.iload_n 1, 1) := by decide +kernel
theorem dX12_faultOf_107 : decode cX12_faultOf 107 = .ok (.ifCond .eq 7, 3) := by decide +kernel
theorem dX12_faultOf_110 : decode cX12_faultOf 110 = .ok (.iconst 1, 1) := by decide +kernel
theorem dX12_faultOf_111 : decode cX12_faultOf 111 = .ok (.goto 4, 3) := by decide +kernel
theorem dX12_faultOf_114 : decode cX12_faultOf 114 = .ok (.iconst 0, 1) := by decide +kernel
theorem dX12_faultOf_115 : decode cX12_faultOf 115 = .ok (.istore_n 2, 1) := by decide +kernel
theorem dX12_faultOf_116 : decode cX12_faultOf 116 = .ok (.aload_n 0, 1) := by decide +kernel
theorem dX12_faultOf_117 : decode cX12_faultOf 117 = .ok (.dup, 1) := by decide +kernel
theorem dX12_faultOf_118 : decode cX12_faultOf 118 = .ok (.getfield 247, 3) := by decide +kernel
theorem dX12_faultOf_121 : decode cX12_faultOf 121 = .ok (.iload_n 2, 1) := by decide +kernel
theorem dX12_faultOf_122 : decode cX12_faultOf 122 = .ok (.ifCond .eq 7, 3) := by decide +kernel
theorem dX12_faultOf_125 : decode cX12_faultOf 125 = .ok (.iconst 1, 1) := by decide +kernel
theorem dX12_faultOf_126 : decode cX12_faultOf 126 = .ok (.goto 4, 3) := by decide +kernel
theorem dX12_faultOf_129 : decode cX12_faultOf 129 = .ok (.iconst 0, 1) := by decide +kernel
theorem dX12_faultOf_130 : decode cX12_faultOf 130 = .ok (.iadd, 1) := by decide +kernel
theorem dX12_faultOf_131 : decode cX12_faultOf 131 = .ok (.putfield 247, 3) := by decide +kernel
theorem dX12_faultOf_134 : decode cX12_faultOf 134 = .ok (.goto (-73), 3) := by decide +kernel
theorem dX12_faultOf_137 : decode cX12_faultOf 137 = .ok (.aload_n 0, 1) := by decide +kernel
theorem dX12_faultOf_138 : decode cX12_faultOf 138 = .ok (.getfield 247, 3) := by decide +kernel
theorem dX12_faultOf_141 : decode cX12_faultOf 141 = .ok (.aload_n 0, 1) := by decide +kernel
theorem dX12_faultOf_142 : decode cX12_faultOf 142 = .ok (.getfield 243, 3) := by decide +kernel
theorem dX12_faultOf_145 : decode cX12_faultOf 145 = .ok (.if_icmp .ne 7, 3) := by decide +kernel
theorem dX12_faultOf_148 : decode cX12_faultOf 148 = .ok (.iconst (-1), 1) := by decide +kernel
theorem dX12_faultOf_149 : decode cX12_faultOf 149 = .ok (.goto 7, 3) := by decide +kernel
theorem dX12_faultOf_152 : decode cX12_faultOf 152 = .ok (.aload_n 0, 1) := by decide +kernel
theorem dX12_faultOf_153 : decode cX12_faultOf 153 = .ok (.getfield 247, 3) := by decide +kernel
theorem dX12_faultOf_156 : decode cX12_faultOf 156 = .ok (.ireturn, 1) := by decide +kernel
set_option maxHeartbeats 1000000 in
set_option maxRecDepth 100000 in
theorem t_X12_faultOf (l : Launch) (D : xD) (z n : Nat) (G : xG) (I : xI) (L : xL) (A : Nat) (t : Nat → Nat) (N : Nat) (r : Nat) (hM : shMo G A) (zA : z ≤ A) (hT : mx I A t N r) (hC : txc t N) : xM0 l D z yX12_faultOf cX12_faultOf 3 (some .int) 4 84 [.ref A] n G I L (fun v' I' L' => v' = (some (.int (if (rdAll t N).1 = true then -1 else nI (rdAll t N).2.1))) ∧ L' = L ∧ ((rdAll t N).1 = true → toldIs I' A (rdAll t N).2.2.1 (rdAll t N).2.2.2) ∧ (∀ a, a ≠ A → a ≠ A + 14 → I' a = I a) ∧ (∀ j, (j < 18 ∨ 22 < j) → I' A j = I A j)) := by
  refine xM.of (by decide) (Nat.le_of_ble_eq_true rfl) (fun p e s m args below meth c C hnm hsz => ?_)
  refine x_lv [(0, .ref A)] rfl ?_
  have hN6 := hC.1
  refine x_iconst 0 C (v := 0) dX12_faultOf_0 rfl ?_
  refine x_istore_n 1 C [(1, .int 0), (0, .ref A)] dX12_faultOf_1 rfl (by decide) rfl ?_
  have loop2 : ∀ (fuel : Nat) (k : Nat) (Ik : xI), (k ≤ 20) → (21 ≤ k + fuel) → (Ik = rowFill I (A + 14) k (fun _ => 0)) → X p l e (xRm 4 84 0 0) s m args below meth c D z 3 (MQ below (xQc D z n (xN n G (fun v' I' L' => v' = (some (.int (if (rdAll t N).1 = true then -1 else nI (rdAll t N).2.1))) ∧ L' = L ∧ ((rdAll t N).1 = true → toldIs I' A (rdAll t N).2.2.1 (rdAll t N).2.2.2) ∧ (∀ a, a ≠ A → a ≠ A + 14 → I' a = I a) ∧ (∀ j, (j < 18 ∨ 22 < j) → I' A j = I A j)))) args s 0 0 (fun a => z ≤ a)) 0 0 n G Ik L 2 [(0, .ref A), (1, .int (nI k))] [] := by
    intro fuel
    induction fuel with
    | zero =>
      intro k Ik hk hf hI
      exact absurd hf (by omega)
    | succ fuel ih =>
      intro k Ik hk hf hI
      refine x_iload_n 2 C dX12_faultOf_2 rfl 1 rfl ?_
      refine x_bipush 3 C (v := 20) dX12_faultOf_3 rfl ?_
      refine x_icmp_ge 5 C 21 dX12_faultOf_5 (by decide) (fun c1 => ?_) (fun c1 => ?_)
      · skip
        have c1n : 20 ≤ k := (nI_leI (a := 20) (b := k) (by omega) (by omega)).mp c1
        have c1m : ¬ (k < 20) := by omega
        have c1o := Int32.not_lt.mpr c1
        have hk20 : k = 20 := by omega
        subst hk20
        refine x_aload_n 21 C dX12_faultOf_21 rfl 0 rfl ?_
        refine x_iconst 22 C (v := 0) dX12_faultOf_22 rfl ?_
        refine x_puti 23 C dX12_faultOf_23 ff_X12_247 rfl hM.1 (by omega) (fun I2 eI2 => ?_)
        have hF0 : fm I I2 A t N 0 (fun _ => 0) (fun _ => 0) := by rw [eI2, hI]; exact ⟨⟨fun j hj => by rw [xup_row _ _ (by omega), rowFill_ne _ _ _ _ (by omega)]; exact hT.1 j hj, by rw [xup_ne _ _ (by omega), rowFill_ne _ _ _ _ (by omega)]; exact hT.2.1, xup_self _ _ _ _⟩, fun k hk => ⟨by rw [xup_row _ _ (by omega), rowFill_at _ _ _ (by omega)], by rw [xup_row _ _ (by omega), rowFill_at _ _ _ (by omega)]⟩, fun a h1 h2 => by rw [xup_row _ _ h1, rowFill_ne _ _ _ _ h2], fun j hj => by rw [xup_ne _ _ (by omega), rowFill_ne _ _ _ _ (by omega)]⟩
        refine x_aload_n 26 C dX12_faultOf_26 rfl 0 rfl ?_
        have exit61 : ∀ (mi q : Nat) (f g : Nat → Int32) (Ix : xI), (fm I Ix A t N q f g) → (q ≤ N) → ((q = N ∧ rdAll t N = (true, q, f, g)) ∨ (q < N ∧ (rdAll t N).1 = false ∧ (rdAll t N).2.1 = q)) → X p l e (xRm 4 84 0 0) s m args below meth c D z 3 (MQ below (xQc D z n (xN n G (fun v' I' L' => v' = (some (.int (if (rdAll t N).1 = true then -1 else nI (rdAll t N).2.1))) ∧ L' = L ∧ ((rdAll t N).1 = true → toldIs I' A (rdAll t N).2.2.1 (rdAll t N).2.2.2) ∧ (∀ a, a ≠ A → a ≠ A + 14 → I' a = I a) ∧ (∀ j, (j < 18 ∨ 22 < j) → I' A j = I A j)))) args s 0 0 (fun a => z ≤ a)) 0 0 n G Ix L 61 [(0, .ref A), (1, .int (nI mi)), (2, .int 0)] [] := by
          intro mi q f g Ix hFx hqx hR
          refine x_iload_n 61 C dX12_faultOf_61 rfl 2 rfl ?_
          refine x_if_eq 62 C 137 dX12_faultOf_62 (by decide) (fun _ => ?_) (fun c3 => absurd (by decide) c3)
          refine x_aload_n 137 C dX12_faultOf_137 rfl 0 rfl ?_
          refine x_geti 138 C dX12_faultOf_138 ff_X12_247 hM.1 ?_
          refine x_int (nI q) hFx.1.2.2 ?_
          refine x_aload_n 141 C dX12_faultOf_141 rfl 0 rfl ?_
          refine x_geti 142 C dX12_faultOf_142 ff_X12_243 hM.1 ?_
          refine x_int (nI N) hFx.1.2.1 ?_
          refine x_icmp_ne 145 C 152 dX12_faultOf_145 (by decide) (fun c4 => ?_) (fun c4 => ?_)
          · skip
            have c4n : ¬ (q = N) := fun h => c4 ((nI_eq (a := q) (b := N) (by omega) (by omega)).mpr h)
            refine x_aload_n 152 C dX12_faultOf_152 rfl 0 rfl ?_
            refine x_geti 153 C dX12_faultOf_153 ff_X12_247 hM.1 ?_
            refine x_int (nI q) hFx.1.2.2 ?_
            refine x_iret 156 C dX12_faultOf_156 rfl rfl (Nat.le_refl _) (xN.intro ?_)
            rcases hR with ⟨h1, h2⟩ | ⟨h1, h2, h3⟩
            · first | exact absurd h1 (by omega) | exact ⟨by rw [h2]; rfl, rfl, fun _ => by rw [h2]; exact hFx.2.1, hFx.2.2.1, hFx.2.2.2⟩
            · first | exact absurd h1 (by omega) | exact ⟨by rw [h2, h3]; rfl, rfl, fun h => absurd h (by rw [h2]; decide), hFx.2.2.1, hFx.2.2.2⟩
          · skip
            have c4n : q = N := (nI_eq (a := q) (b := N) (by omega) (by omega)).mp c4
            refine x_iconst 148 C (v := (-1)) dX12_faultOf_148 rfl ?_
            refine x_goto 149 C 156 dX12_faultOf_149 (by decide) ?_
            refine x_iret 156 C dX12_faultOf_156 rfl rfl (Nat.le_refl _) (xN.intro ?_)
            rcases hR with ⟨h1, h2⟩ | ⟨h1, h2, h3⟩
            · first | exact absurd h1 (by omega) | exact ⟨by rw [h2]; rfl, rfl, fun _ => by rw [h2]; exact hFx.2.1, hFx.2.2.1, hFx.2.2.2⟩
            · first | exact absurd h1 (by omega) | exact ⟨by rw [h2, h3]; rfl, rfl, fun h => absurd h (by rw [h2]; decide), hFx.2.2.1, hFx.2.2.2⟩
        have join61 : ∀ (q mi : Nat) (I1 : xI), (fm I I1 A t N q (fun _ => 0) (fun _ => 0)) → (q ≤ N) → (mi < 2) → (rdAll t N = rds t N 61 q mi (fun _ => 0) (fun _ => 0)) → X p l e (xRm 4 84 0 0) s m args below meth c D z 3 (MQ below (xQc D z n (xN n G (fun v' I' L' => v' = (some (.int (if (rdAll t N).1 = true then -1 else nI (rdAll t N).2.1))) ∧ L' = L ∧ ((rdAll t N).1 = true → toldIs I' A (rdAll t N).2.2.1 (rdAll t N).2.2.2) ∧ (∀ a, a ≠ A → a ≠ A + 14 → I' a = I a) ∧ (∀ j, (j < 18 ∨ 22 < j) → I' A j = I A j)))) args s 0 0 (fun a => z ≤ a)) 0 0 n G I1 L 61 [(0, .ref A), (1, .int (nI mi)), (2, .int 1)] [] := by
          intro q mi I1 hF1 hq1 hmi1 hS1
          have loop61 : ∀ (fuel : Nat) (k q mi : Nat) (f g : Nat → Int32) (Ik : xI), (k ≤ q) → (61 ≤ q + fuel) → (fm I Ik A t N q f g) → (q ≤ N) → (mi < 2) → (inB f) → (inB g) → (rdAll t N = rds t N (61 - k) q mi f g) → X p l e (xRm 4 84 0 0) s m args below meth c D z 3 (MQ below (xQc D z n (xN n G (fun v' I' L' => v' = (some (.int (if (rdAll t N).1 = true then -1 else nI (rdAll t N).2.1))) ∧ L' = L ∧ ((rdAll t N).1 = true → toldIs I' A (rdAll t N).2.2.1 (rdAll t N).2.2.2) ∧ (∀ a, a ≠ A → a ≠ A + 14 → I' a = I a) ∧ (∀ j, (j < 18 ∨ 22 < j) → I' A j = I A j)))) args s 0 0 (fun a => z ≤ a)) 0 0 n G Ik L 61 [(0, .ref A), (1, .int (nI mi)), (2, .int 1)] [] := by
            intro fuel
            induction fuel with
            | zero =>
              intro k q mi f g Ik hk hf hF hq hmi hbf hbg hS
              exact absurd hf (by omega)
            | succ fuel ih =>
              intro k q mi f g Ik hk hf hF hq hmi hbf hbg hS
              have hte := tEnd_r (t := t) hq
              refine x_iload_n 61 C dX12_faultOf_61 rfl 2 rfl ?_
              refine x_if_eq 62 C 137 dX12_faultOf_62 (by decide) (fun c5 => absurd c5 (by decide)) (fun _ => ?_)
              refine x_aload_n 65 C dX12_faultOf_65 rfl 0 rfl ?_
              refine x_callVe 66 C dX12_faultOf_66 (As := []) (rest := []) [.int (bI (mOk t N q))] (t_X12_readTerm l D z n G Ik L A t N q hM (by omega) hF.1 hC (by omega)) mt_X12_readTerm km_X12_281 ki_X12_readTerm ks_X12_readTerm hM.1 ⟨by decide, rfl⟩ rfl rfl (Nat.le_of_ble_eq_true rfl) ⟨⟨by decide, by decide⟩, by decide, by decide⟩ (fun I6 L7 eI6 eL7 => ?_)
              replace eL7 := eL7.symm; subst eL7
              refine x_if_ne 69 C 77 dX12_faultOf_69 (by decide) (fun c8 => ?_) (fun c8 => ?_)
              · skip
                have hmo : _ := bI_n0.mp c8
                refine x_aload_n 77 C dX12_faultOf_77 rfl 0 rfl ?_
                refine x_iload_n 78 C dX12_faultOf_78 rfl 1 rfl ?_
                refine x_callVe 79 C dX12_faultOf_79 (As := [.int (nI mi)]) (rest := []) [] (t_X12_adds l D z n G I6 L A ((tFac t N q).2.1) ((tFac t N q).2.2.1) ((tNum t N q).1) (tIm t N q) mi hM (by omega) (by rw [eI6, rg_at19]) (by rw [eI6, rg_at20]) (by rw [eI6, rg_at21]) (by rw [eI6, rg_at22]) hte.2.2 (tIm_lt t N q) (by first | omega | assumption | decide)) mt_X12_adds km_X12_284 ki_X12_adds ks_X12_adds hM.1 ⟨by decide, rfl⟩ rfl rfl (Nat.le_of_ble_eq_true rfl) ⟨⟨by decide, by decide⟩, by decide, by decide⟩ (fun I9 L10 eI9 eL10 => ?_)
                replace eL10 := eL10.symm; subst eL10
                have hF2 : fm I I9 A t N (tEnd t N q) (upT f (tTm t N q) (tRe t N q mi)) (upT g (tTm t N q) (tIi t N q mi)) := by rw [eI9, eI6]; exact fm_add (fm_rg hF _ _ _ _ _) hbf hbg (tm_lt hte.2.2) (tIm_lt t N q) rfl
                refine x_aload_n 82 C dX12_faultOf_82 rfl 0 rfl ?_
                by_cases hEN : tEnd t N q < N
                · skip
                  refine x_callVe 83 C dX12_faultOf_83 (As := []) (rest := []) [.int (nI (sg t N (tEnd t N q)))] (t_X12_here l D z n G I9 L A t N (tEnd t N q) hM hF2.1 hC (by omega)) mt_X12_here km_X12_250 ki_X12_here ks_X12_here hM.1 ⟨by decide, rfl⟩ rfl rfl (Nat.le_of_ble_eq_true rfl) ⟨⟨by decide, by decide⟩, by decide, by decide⟩ (fun I11 L12 eI11 eL12 => ?_)
                  replace eI11 := eI11.symm; subst eI11
                  replace eL12 := eL12.symm; subst eL12
                  have hse := sg_le hC (tEnd t N q)
                  refine x_bipush 86 C (v := 45) dX12_faultOf_86 rfl ?_
                  refine x_icmp_ne 88 C 95 dX12_faultOf_88 (by decide) (fun c13 => ?_) (fun c13 => ?_)
                  · skip
                    have c13n : ¬ ((sg t N (tEnd t N q)) = 45) := fun h => c13 ((nI_eq (a := (sg t N (tEnd t N q))) (b := 45) (by omega) (by omega)).mpr h)
                    refine x_iconst 95 C (v := 0) dX12_faultOf_95 rfl ?_
                    refine x_istore_n 96 C [(1, .int 0), (0, .ref A), (2, .int 1)] dX12_faultOf_96 rfl (by decide) rfl ?_
                    refine x_aload_n 97 C dX12_faultOf_97 rfl 1 rfl ?_
                    refine x_callVe 98 C dX12_faultOf_98 (As := []) (rest := []) [.int (nI (sg t N (tEnd t N q)))] (t_X12_here l D z n G I9 L A t N (tEnd t N q) hM hF2.1 hC (by omega)) mt_X12_here km_X12_250 ki_X12_here ks_X12_here hM.1 ⟨by decide, rfl⟩ rfl rfl (Nat.le_of_ble_eq_true rfl) ⟨⟨by decide, by decide⟩, by decide, by decide⟩ (fun I14 L15 eI14 eL15 => ?_)
                    replace eI14 := eI14.symm; subst eI14
                    replace eL15 := eL15.symm; subst eL15
                    refine x_bipush 101 C (v := 43) dX12_faultOf_101 rfl ?_
                    refine x_icmp_eq 103 C 110 dX12_faultOf_103 (by decide) (fun c16 => ?_) (fun c16 => ?_)
                    · skip
                      have c16n : (sg t N (tEnd t N q)) = 43 := (nI_eq (a := (sg t N (tEnd t N q))) (b := 43) (by omega) (by omega)).mp c16
                      refine x_iconst 110 C (v := 1) dX12_faultOf_110 rfl ?_
                      refine x_goto 111 C 115 dX12_faultOf_111 (by decide) ?_
                      refine x_istore_n 115 C [(2, .int 1), (1, .int 0), (0, .ref A)] dX12_faultOf_115 rfl (by decide) rfl ?_
                      refine x_aload_n 116 C dX12_faultOf_116 rfl 2 rfl ?_
                      refine x_dup 117 C dX12_faultOf_117 rfl ?_
                      refine x_geti 118 C dX12_faultOf_118 ff_X12_247 hM.1 ?_
                      refine x_int (nI (tEnd t N q)) hF2.1.2.2 ?_
                      refine x_iload_n 121 C dX12_faultOf_121 rfl 0 rfl ?_
                      refine x_if_eq 122 C 129 dX12_faultOf_122 (by decide) (fun c17 => absurd c17 (by decide)) (fun _ => ?_)
                      refine x_iconst 125 C (v := 1) dX12_faultOf_125 rfl ?_
                      refine x_goto 126 C 130 dX12_faultOf_126 (by decide) ?_
                      refine x_iadd 130 C dX12_faultOf_130 ?_
                      refine x_int (nI (tEnd t N q + 1)) (nI_add (tEnd t N q) 1) ?_
                      refine x_puti 131 C dX12_faultOf_131 ff_X12_247 rfl hM.1 (by omega) (fun I18 eI18 => ?_)
                      refine x_goto 134 C 61 dX12_faultOf_134 (by decide) ?_
                      refine x_sub [(0, .ref A), (1, .int 0), (2, .int 1)] [2, 1, 0] rfl ?_
                      have hok : tOk t N q = true := by rcases mOk_cases hq hmo with h | ⟨_, h⟩; exact h; exact absurd (unk_b.mp h) (by omega)
                      exact ih (k + 1) (tEnd t N q + 1) 0 (upT f (tTm t N q) (tRe t N q mi)) (upT g (tTm t N q) (tIi t N q mi)) I18 (by omega) (by omega) (by rw [eI18]; exact fm_18 hF2 _) (by omega) (by omega) (inB_up hbf _ _) (inB_up hbg _ _) (by rw [hS, show 61 - k = (61 - (k + 1)) + 1 by omega]; simp only [rds]; rw [if_pos hok, if_neg (by omega), if_pos (by omega)])
                    · skip
                      have c16n : ¬ ((sg t N (tEnd t N q)) = 43) := fun h => c16 ((nI_eq (a := (sg t N (tEnd t N q))) (b := 43) (by omega) (by omega)).mpr h)
                      refine x_iload_n 106 C dX12_faultOf_106 rfl 0 rfl ?_
                      refine x_if_eq 107 C 114 dX12_faultOf_107 (by decide) (fun _ => ?_) (fun c19 => absurd (by decide) c19)
                      refine x_iconst 114 C (v := 0) dX12_faultOf_114 rfl ?_
                      refine x_istore_n 115 C [(2, .int 0), (1, .int 0), (0, .ref A)] dX12_faultOf_115 rfl (by decide) rfl ?_
                      refine x_aload_n 116 C dX12_faultOf_116 rfl 2 rfl ?_
                      refine x_dup 117 C dX12_faultOf_117 rfl ?_
                      refine x_geti 118 C dX12_faultOf_118 ff_X12_247 hM.1 ?_
                      refine x_int (nI (tEnd t N q)) hF2.1.2.2 ?_
                      refine x_iload_n 121 C dX12_faultOf_121 rfl 0 rfl ?_
                      refine x_if_eq 122 C 129 dX12_faultOf_122 (by decide) (fun _ => ?_) (fun c20 => absurd (by decide) c20)
                      refine x_iconst 129 C (v := 0) dX12_faultOf_129 rfl ?_
                      refine x_iadd 130 C dX12_faultOf_130 ?_
                      refine x_int (nI (tEnd t N q + 0)) (nI_add (tEnd t N q) 0) ?_
                      refine x_puti 131 C dX12_faultOf_131 ff_X12_247 rfl hM.1 (by omega) (fun I21 eI21 => ?_)
                      refine x_goto 134 C 61 dX12_faultOf_134 (by decide) ?_
                      refine x_sub [(0, .ref A), (1, .int 0), (2, .int 0)] [2, 1, 0] rfl ?_
                      refine exit61 0 (tEnd t N q) (upT f (tTm t N q) (tRe t N q mi)) (upT g (tTm t N q) (tIi t N q mi)) I21 (by rw [eI21]; exact fm_18 hF2 _) hte.2.1 ?_
                      by_cases hE : tEnd t N q = N
                      · have hok : tOk t N q = true := by rcases mOk_cases hq hmo with h | ⟨_, h⟩; exact h; exact absurd (unk_b.mp h) (by rw [sg_out (by omega)]; decide)
                        exact Or.inl ⟨hE, by rw [hS, show 61 - k = (61 - (k + 1)) + 1 by omega]; simp only [rds]; rw [if_pos hok, if_pos (by omega)]⟩
                      · refine Or.inr ⟨by omega, ?_⟩
                        by_cases hok : tOk t N q = true
                        · first | exact absurd hE (by omega) | (have hz : rdAll t N = (false, tEnd t N q, (upT f (tTm t N q) (tRe t N q mi)), (upT g (tTm t N q) (tIi t N q mi))) := by rw [hS, show 61 - k = (61 - (k + 1)) + 1 by omega]; simp only [rds]; rw [if_pos hok, if_neg (by omega), if_neg (by omega), if_neg (by omega)]); (rw [hz]; exact ⟨rfl, rfl⟩)
                        · have hz : rdAll t N = (false, tEnd t N q, f, g) := by rw [hS, show 61 - k = (61 - (k + 1)) + 1 by omega]; simp only [rds]; rw [if_neg hok]
                          rw [hz]; exact ⟨rfl, rfl⟩
                  · skip
                    have c13n : (sg t N (tEnd t N q)) = 45 := (nI_eq (a := (sg t N (tEnd t N q))) (b := 45) (by omega) (by omega)).mp c13
                    refine x_iconst 91 C (v := 1) dX12_faultOf_91 rfl ?_
                    refine x_goto 92 C 96 dX12_faultOf_92 (by decide) ?_
                    refine x_istore_n 96 C [(1, .int 1), (0, .ref A), (2, .int 1)] dX12_faultOf_96 rfl (by decide) rfl ?_
                    refine x_aload_n 97 C dX12_faultOf_97 rfl 1 rfl ?_
                    refine x_callVe 98 C dX12_faultOf_98 (As := []) (rest := []) [.int (nI (sg t N (tEnd t N q)))] (t_X12_here l D z n G I9 L A t N (tEnd t N q) hM hF2.1 hC (by omega)) mt_X12_here km_X12_250 ki_X12_here ks_X12_here hM.1 ⟨by decide, rfl⟩ rfl rfl (Nat.le_of_ble_eq_true rfl) ⟨⟨by decide, by decide⟩, by decide, by decide⟩ (fun I22 L23 eI22 eL23 => ?_)
                    replace eI22 := eI22.symm; subst eI22
                    replace eL23 := eL23.symm; subst eL23
                    refine x_bipush 101 C (v := 43) dX12_faultOf_101 rfl ?_
                    refine x_icmp_eq 103 C 110 dX12_faultOf_103 (by decide) (fun c24 => absurd c24 (fun h => absurd ((nI_eq (a := (sg t N (tEnd t N q))) (b := 43) (by omega) (by omega)).mp h) (by omega))) (fun _ => ?_)
                    refine x_iload_n 106 C dX12_faultOf_106 rfl 0 rfl ?_
                    refine x_if_eq 107 C 114 dX12_faultOf_107 (by decide) (fun c25 => absurd c25 (by decide)) (fun _ => ?_)
                    refine x_iconst 110 C (v := 1) dX12_faultOf_110 rfl ?_
                    refine x_goto 111 C 115 dX12_faultOf_111 (by decide) ?_
                    refine x_istore_n 115 C [(2, .int 1), (1, .int 1), (0, .ref A)] dX12_faultOf_115 rfl (by decide) rfl ?_
                    refine x_aload_n 116 C dX12_faultOf_116 rfl 2 rfl ?_
                    refine x_dup 117 C dX12_faultOf_117 rfl ?_
                    refine x_geti 118 C dX12_faultOf_118 ff_X12_247 hM.1 ?_
                    refine x_int (nI (tEnd t N q)) hF2.1.2.2 ?_
                    refine x_iload_n 121 C dX12_faultOf_121 rfl 0 rfl ?_
                    refine x_if_eq 122 C 129 dX12_faultOf_122 (by decide) (fun c26 => absurd c26 (by decide)) (fun _ => ?_)
                    refine x_iconst 125 C (v := 1) dX12_faultOf_125 rfl ?_
                    refine x_goto 126 C 130 dX12_faultOf_126 (by decide) ?_
                    refine x_iadd 130 C dX12_faultOf_130 ?_
                    refine x_int (nI (tEnd t N q + 1)) (nI_add (tEnd t N q) 1) ?_
                    refine x_puti 131 C dX12_faultOf_131 ff_X12_247 rfl hM.1 (by omega) (fun I27 eI27 => ?_)
                    refine x_goto 134 C 61 dX12_faultOf_134 (by decide) ?_
                    refine x_sub [(0, .ref A), (1, .int 1), (2, .int 1)] [2, 1, 0] rfl ?_
                    have hok : tOk t N q = true := by rcases mOk_cases hq hmo with h | ⟨_, h⟩; exact h; exact absurd (unk_b.mp h) (by omega)
                    exact ih (k + 1) (tEnd t N q + 1) 1 (upT f (tTm t N q) (tRe t N q mi)) (upT g (tTm t N q) (tIi t N q mi)) I27 (by omega) (by omega) (by rw [eI27]; exact fm_18 hF2 _) (by omega) (by omega) (inB_up hbf _ _) (inB_up hbg _ _) (by rw [hS, show 61 - k = (61 - (k + 1)) + 1 by omega]; simp only [rds]; rw [if_pos hok, if_neg (by omega), if_neg (by omega), if_pos (by omega)])
                · skip
                  refine x_callVe 83 C dX12_faultOf_83 (As := []) (rest := []) [.int (-1)] (t_X12_here_out l D z n G I9 L A t N (tEnd t N q) hM hF2.1 hC (by omega)) mt_X12_here km_X12_250 ki_X12_here ks_X12_here hM.1 ⟨by decide, rfl⟩ rfl rfl (Nat.le_of_ble_eq_true rfl) ⟨⟨by decide, by decide⟩, by decide, by decide⟩ (fun I28 L29 eI28 eL29 => ?_)
                  replace eI28 := eI28.symm; subst eI28
                  replace eL29 := eL29.symm; subst eL29
                  refine x_bipush 86 C (v := 45) dX12_faultOf_86 rfl ?_
                  refine x_icmp_ne 88 C 95 dX12_faultOf_88 (by decide) (fun _ => ?_) (fun c30 => absurd c30 (by decide))
                  refine x_iconst 95 C (v := 0) dX12_faultOf_95 rfl ?_
                  refine x_istore_n 96 C [(1, .int 0), (0, .ref A), (2, .int 1)] dX12_faultOf_96 rfl (by decide) rfl ?_
                  refine x_aload_n 97 C dX12_faultOf_97 rfl 1 rfl ?_
                  refine x_callVe 98 C dX12_faultOf_98 (As := []) (rest := []) [.int (-1)] (t_X12_here_out l D z n G I9 L A t N (tEnd t N q) hM hF2.1 hC (by omega)) mt_X12_here km_X12_250 ki_X12_here ks_X12_here hM.1 ⟨by decide, rfl⟩ rfl rfl (Nat.le_of_ble_eq_true rfl) ⟨⟨by decide, by decide⟩, by decide, by decide⟩ (fun I31 L32 eI31 eL32 => ?_)
                  replace eI31 := eI31.symm; subst eI31
                  replace eL32 := eL32.symm; subst eL32
                  refine x_bipush 101 C (v := 43) dX12_faultOf_101 rfl ?_
                  refine x_icmp_eq 103 C 110 dX12_faultOf_103 (by decide) (fun c33 => absurd c33 (by decide)) (fun _ => ?_)
                  refine x_iload_n 106 C dX12_faultOf_106 rfl 0 rfl ?_
                  refine x_if_eq 107 C 114 dX12_faultOf_107 (by decide) (fun _ => ?_) (fun c34 => absurd (by decide) c34)
                  refine x_iconst 114 C (v := 0) dX12_faultOf_114 rfl ?_
                  refine x_istore_n 115 C [(2, .int 0), (1, .int 0), (0, .ref A)] dX12_faultOf_115 rfl (by decide) rfl ?_
                  refine x_aload_n 116 C dX12_faultOf_116 rfl 2 rfl ?_
                  refine x_dup 117 C dX12_faultOf_117 rfl ?_
                  refine x_geti 118 C dX12_faultOf_118 ff_X12_247 hM.1 ?_
                  refine x_int (nI (tEnd t N q)) hF2.1.2.2 ?_
                  refine x_iload_n 121 C dX12_faultOf_121 rfl 0 rfl ?_
                  refine x_if_eq 122 C 129 dX12_faultOf_122 (by decide) (fun _ => ?_) (fun c35 => absurd (by decide) c35)
                  refine x_iconst 129 C (v := 0) dX12_faultOf_129 rfl ?_
                  refine x_iadd 130 C dX12_faultOf_130 ?_
                  refine x_int (nI (tEnd t N q + 0)) (nI_add (tEnd t N q) 0) ?_
                  refine x_puti 131 C dX12_faultOf_131 ff_X12_247 rfl hM.1 (by omega) (fun I36 eI36 => ?_)
                  refine x_goto 134 C 61 dX12_faultOf_134 (by decide) ?_
                  refine x_sub [(0, .ref A), (1, .int 0), (2, .int 0)] [2, 1, 0] rfl ?_
                  refine exit61 0 (tEnd t N q) (upT f (tTm t N q) (tRe t N q mi)) (upT g (tTm t N q) (tIi t N q mi)) I36 (by rw [eI36]; exact fm_18 hF2 _) hte.2.1 ?_
                  by_cases hE : tEnd t N q = N
                  · have hok : tOk t N q = true := by rcases mOk_cases hq hmo with h | ⟨_, h⟩; exact h; exact absurd (unk_b.mp h) (by rw [sg_out (by omega)]; decide)
                    exact Or.inl ⟨hE, by rw [hS, show 61 - k = (61 - (k + 1)) + 1 by omega]; simp only [rds]; rw [if_pos hok, if_pos (by omega)]⟩
                  · refine Or.inr ⟨by omega, ?_⟩
                    by_cases hok : tOk t N q = true
                    · first | exact absurd hE (by omega) | (have hz : rdAll t N = (false, tEnd t N q, (upT f (tTm t N q) (tRe t N q mi)), (upT g (tTm t N q) (tIi t N q mi))) := by rw [hS, show 61 - k = (61 - (k + 1)) + 1 by omega]; simp only [rds]; rw [if_pos hok, if_neg (by omega), if_neg (by omega), if_neg (by omega)]); (rw [hz]; exact ⟨rfl, rfl⟩)
                    · have hz : rdAll t N = (false, tEnd t N q, f, g) := by rw [hS, show 61 - k = (61 - (k + 1)) + 1 by omega]; simp only [rds]; rw [if_neg hok]
                      rw [hz]; exact ⟨rfl, rfl⟩
              · skip
                have hmo : _ := bI_0.mp c8
                refine x_aload_n 72 C dX12_faultOf_72 rfl 0 rfl ?_
                refine x_geti 73 C dX12_faultOf_73 ff_X12_247 hM.1 ?_
                refine x_int (nI (tEnd t N q)) (by rw [eI6, rg_at18]) ?_
                refine x_iret 76 C dX12_faultOf_76 rfl rfl (Nat.le_refl _) (xN.intro ?_)
                have hok : ¬ tOk t N q = true := fun h => absurd hmo (by unfold mOk; rw [h]; simp)
                have hz : rdAll t N = (false, tEnd t N q, f, g) := by rw [hS, show 61 - k = (61 - (k + 1)) + 1 by omega]; simp only [rds]; rw [if_neg hok]
                exact ⟨by rw [hz]; rfl, rfl, fun h => absurd h (by rw [hz]; exact Bool.false_ne_true), fun a h1 h2 => by rw [eI6, rg_row _ _ _ _ _ _ _ h1]; exact hF.2.2.1 a h1 h2, fun j hj => by rw [eI6, rg_oth _ _ _ _ _ _ _ hj]; exact hF.2.2.2 j hj⟩
          refine x_sub [(0, .ref A), (1, .int (nI mi)), (2, .int 1)] [0, 1, 2] rfl ?_
          exact loop61 61 0 q mi (fun _ => 0) (fun _ => 0) I1 (by omega) (by omega) hF1 hq1 hmi1 inB_0 inB_0 hS1
        by_cases h0N : 0 < N
        · skip
          refine x_callVe 27 C dX12_faultOf_27 (As := []) (rest := []) [.int (nI (sg t N 0))] (t_X12_here l D z n G I2 L A t N 0 hM hF0.1 hC (by omega)) mt_X12_here km_X12_250 ki_X12_here ks_X12_here hM.1 ⟨by decide, rfl⟩ rfl rfl (Nat.le_of_ble_eq_true rfl) ⟨⟨by decide, by decide⟩, by decide, by decide⟩ (fun I37 L38 eI37 eL38 => ?_)
          replace eI37 := eI37.symm; subst eI37
          replace eL38 := eL38.symm; subst eL38
          have hs0 := sg_le hC 0
          refine x_bipush 30 C (v := 45) dX12_faultOf_30 rfl ?_
          refine x_icmp_ne 32 C 39 dX12_faultOf_32 (by decide) (fun c39 => ?_) (fun c39 => ?_)
          · skip
            have c39n : ¬ ((sg t N 0) = 45) := fun h => c39 ((nI_eq (a := (sg t N 0)) (b := 45) (by omega) (by omega)).mpr h)
            have h45 : ¬ sg t N 0 = 45 := c39n
            refine x_iconst 39 C (v := 0) dX12_faultOf_39 rfl ?_
            refine x_istore_n 40 C [(1, .int 0), (0, .ref A)] dX12_faultOf_40 rfl (by decide) rfl ?_
            refine x_aload_n 41 C dX12_faultOf_41 rfl 1 rfl ?_
            refine x_dup 42 C dX12_faultOf_42 rfl ?_
            refine x_geti 43 C dX12_faultOf_43 ff_X12_247 hM.1 ?_
            refine x_int (nI 0) hF0.1.2.2 ?_
            refine x_iload_n 46 C dX12_faultOf_46 rfl 0 rfl ?_
            refine x_if_eq 47 C 54 dX12_faultOf_47 (by decide) (fun _ => ?_) (fun c40 => absurd (by decide) c40)
            refine x_iconst 54 C (v := 0) dX12_faultOf_54 rfl ?_
            refine x_iadd 55 C dX12_faultOf_55 ?_
            refine x_int 0 (by decide) ?_
            refine x_puti 56 C dX12_faultOf_56 ff_X12_247 rfl hM.1 (by omega) (fun I41 eI41 => ?_)
            refine x_iconst 59 C (v := 1) dX12_faultOf_59 rfl ?_
            refine x_istore_n 60 C [(2, .int 1), (1, .int 0), (0, .ref A)] dX12_faultOf_60 rfl (by decide) rfl ?_
            refine x_sub [(0, .ref A), (1, .int 0), (2, .int 1)] [2, 1, 0] rfl ?_
            exact join61 0 0 I41 (by rw [eI41]; exact fm_18 hF0 0) (by omega) (by omega) (if_neg h45)
          · skip
            have c39n : (sg t N 0) = 45 := (nI_eq (a := (sg t N 0)) (b := 45) (by omega) (by omega)).mp c39
            have h45 : sg t N 0 = 45 := c39n
            refine x_iconst 35 C (v := 1) dX12_faultOf_35 rfl ?_
            refine x_goto 36 C 40 dX12_faultOf_36 (by decide) ?_
            refine x_istore_n 40 C [(1, .int 1), (0, .ref A)] dX12_faultOf_40 rfl (by decide) rfl ?_
            refine x_aload_n 41 C dX12_faultOf_41 rfl 1 rfl ?_
            refine x_dup 42 C dX12_faultOf_42 rfl ?_
            refine x_geti 43 C dX12_faultOf_43 ff_X12_247 hM.1 ?_
            refine x_int (nI 0) hF0.1.2.2 ?_
            refine x_iload_n 46 C dX12_faultOf_46 rfl 0 rfl ?_
            refine x_if_eq 47 C 54 dX12_faultOf_47 (by decide) (fun c42 => absurd c42 (by decide)) (fun _ => ?_)
            refine x_iconst 50 C (v := 1) dX12_faultOf_50 rfl ?_
            refine x_goto 51 C 55 dX12_faultOf_51 (by decide) ?_
            refine x_iadd 55 C dX12_faultOf_55 ?_
            refine x_int 1 (by decide) ?_
            refine x_puti 56 C dX12_faultOf_56 ff_X12_247 rfl hM.1 (by omega) (fun I43 eI43 => ?_)
            refine x_iconst 59 C (v := 1) dX12_faultOf_59 rfl ?_
            refine x_istore_n 60 C [(2, .int 1), (1, .int 1), (0, .ref A)] dX12_faultOf_60 rfl (by decide) rfl ?_
            refine x_sub [(0, .ref A), (1, .int 1), (2, .int 1)] [2, 1, 0] rfl ?_
            exact join61 1 1 I43 (by rw [eI43]; exact fm_18 hF0 1) (by omega) (by omega) (if_pos h45)
        · skip
          refine x_callVe 27 C dX12_faultOf_27 (As := []) (rest := []) [.int (-1)] (t_X12_here_out l D z n G I2 L A t N 0 hM hF0.1 hC (by omega)) mt_X12_here km_X12_250 ki_X12_here ks_X12_here hM.1 ⟨by decide, rfl⟩ rfl rfl (Nat.le_of_ble_eq_true rfl) ⟨⟨by decide, by decide⟩, by decide, by decide⟩ (fun I44 L45 eI44 eL45 => ?_)
          replace eI44 := eI44.symm; subst eI44
          replace eL45 := eL45.symm; subst eL45
          have h45 : ¬ sg t N 0 = 45 := by rw [sg_out h0N]; decide
          refine x_bipush 30 C (v := 45) dX12_faultOf_30 rfl ?_
          refine x_icmp_ne 32 C 39 dX12_faultOf_32 (by decide) (fun _ => ?_) (fun c46 => absurd c46 (by decide))
          refine x_iconst 39 C (v := 0) dX12_faultOf_39 rfl ?_
          refine x_istore_n 40 C [(1, .int 0), (0, .ref A)] dX12_faultOf_40 rfl (by decide) rfl ?_
          refine x_aload_n 41 C dX12_faultOf_41 rfl 1 rfl ?_
          refine x_dup 42 C dX12_faultOf_42 rfl ?_
          refine x_geti 43 C dX12_faultOf_43 ff_X12_247 hM.1 ?_
          refine x_int (nI 0) hF0.1.2.2 ?_
          refine x_iload_n 46 C dX12_faultOf_46 rfl 0 rfl ?_
          refine x_if_eq 47 C 54 dX12_faultOf_47 (by decide) (fun _ => ?_) (fun c47 => absurd (by decide) c47)
          refine x_iconst 54 C (v := 0) dX12_faultOf_54 rfl ?_
          refine x_iadd 55 C dX12_faultOf_55 ?_
          refine x_int 0 (by decide) ?_
          refine x_puti 56 C dX12_faultOf_56 ff_X12_247 rfl hM.1 (by omega) (fun I48 eI48 => ?_)
          refine x_iconst 59 C (v := 1) dX12_faultOf_59 rfl ?_
          refine x_istore_n 60 C [(2, .int 1), (1, .int 0), (0, .ref A)] dX12_faultOf_60 rfl (by decide) rfl ?_
          refine x_sub [(0, .ref A), (1, .int 0), (2, .int 1)] [2, 1, 0] rfl ?_
          exact join61 0 0 I48 (by rw [eI48]; exact fm_18 hF0 0) (by omega) (by omega) (if_neg h45)
      · skip
        have c1n : ¬ (20 ≤ k) := fun h => c1 ((nI_leI (a := 20) (b := k) (by omega) (by omega)).mpr h)
        have c1m : k < 20 := by omega
        have c1o := Int32.not_le.mp c1
        refine x_aload_n 8 C dX12_faultOf_8 rfl 0 rfl ?_
        refine x_getr 9 C (b := A + 14) dX12_faultOf_9 ff_X12_57 rfl hM.1 rfl ?_
        refine x_iload_n 12 C dX12_faultOf_12 rfl 1 rfl ?_
        refine x_iconst 13 C (v := 0) dX12_faultOf_13 rfl ?_
        refine x_iast 14 C (j := k) dX12_faultOf_14 hM.2.2.2.2.2.2.2.2.2.2.2.2.2.2 (by omega) (xIx_nI (by omega) (by decide)) (fun I49 eI49 => ?_)
        refine x_iinc 15 C [(1, .int (nI (k + 1))), (0, .ref A)] dX12_faultOf_15 1 rfl (nI_add k 1) (by decide) rfl ?_
        refine x_goto 18 C 2 dX12_faultOf_18 (by decide) ?_
        refine x_sub [(0, .ref A), (1, .int (nI (k + 1)))] [1, 0] rfl ?_
        exact ih (k + 1) I49 (by omega) (by omega) (by rw [eI49, hI]; exact rowFill_succ I (A + 14) k (fun _ => 0))
  refine x_sub [(0, .ref A), (1, .int 0)] [1, 0] rfl ?_
  exact loop2 21 0 I (by omega) (by omega) (rowFill_0 _ _ _).symm
