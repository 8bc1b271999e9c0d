/-! Follower.follow: tries on one path. A path's value: its row of ints and its point -/
abbrev xP : Type := (Nat → Int32) × xC × xC
def pv (I : xI) (L : xL) (a : Nat) : xP := (I a, rd L (a + 1), rd L (a + 2))
def gMove1 (r : Nat → Int32) (h : Int32) : Nat → Int32 := va_up (va_up (va_up r 3 (r 3 + h)) 7 (r 7 + 1)) 9 (r 9 + 1)
def gMove2 (r : Nat → Int32) (h : Int32) : Nat → Int32 := if r 9 + 1 < 3 then gMove1 r h else va_up (va_up (gMove1 r h) 9 0) 4 (imin (r 4 * 2) (r 5))
def gMove (r : Nat → Int32) (h bo : Int32) (m : Int64) : Nat → Int32 := if m ≤ bo.toInt64 * punit (r 6) then (if r 3 + h < 1024 then gMove2 r h else va_up (gMove2 r h) 2 1) else va_up (gMove2 r h) 2 2
def gFail1 (r : Nat → Int32) : Nat → Int32 := va_up (va_up r 8 (r 8 + 1)) 9 0
def gFail (r : Nat → Int32) (s : Int32) : Nat → Int32 := if r 4 ≤ 1 then (if r 6 = 10 then va_up (va_up (gFail1 r) 6 18) 4 (imin s (r 5)) else va_up (gFail1 r) 2 3) else va_up (gFail1 r) 4 (r 4 / 2)
def gFailC (r : Nat → Int32) (c : xC) : xC := if r 4 ≤ 1 ∧ r 6 = 10 then hC (c.1 * 256, c.2 * 256) else c
theorem xup_rw {α : Type} (f : Nat → Nat → α) (a k : Nat) (v : α) : xup f a k v a = va_up (f a) k v := by funext j; simp [xup, va_up]
theorem pMoveI_row (I : xI) (a : Nat) (h bo : Int32) (m : Int64) : pMoveI I a h bo m a = gMove (I a) h bo m := by
  simp only [pMoveI, gMove, pMove2, gMove2, pMove1, gMove1]
  (repeat' split) <;> simp only [xup_rw]
theorem pMoveI_ne (I : xI) {a q : Nat} (h bo : Int32) (m : Int64) (hq : q ≠ a) : pMoveI I a h bo m q = I q := by
  simp only [pMoveI, pMove2, pMove1]
  (repeat' split) <;> simp only [xup_row _ _ hq]
theorem pFailI_row (I : xI) (a : Nat) (s : Int32) : pFailI I a s a = gFail (I a) s := by
  simp only [pFailI, gFail, pFail1, gFail1]
  (repeat' split) <;> simp only [xup_rw]
theorem pFailI_ne (I : xI) {a q : Nat} (s : Int32) (hq : q ≠ a) : pFailI I a s q = I q := by
  simp only [pFailI, pFail1]
  (repeat' split) <;> simp only [xup_row _ _ hq]
theorem pFailL_1 (I : xI) (L : xL) (a : Nat) : rd (pFailL I L a) (a + 1) = gFailC (I a) (rd L (a + 1)) := by
  unfold pFailL gFailC
  by_cases h : I a 4 ≤ 1 ∧ I a 6 = 10
  · rw [if_pos h, if_pos h]
    show rd (cw (cw L (a + 1) (hC ((rd L (a + 1)).1 * 256, (rd L (a + 1)).2 * 256))) (a + 2) (hC ((rd L (a + 2)).1 * 256, (rd L (a + 2)).2 * 256))) (a + 1) = _
    rw [rd_cw_ne _ _ (by omega), rd_cw]
  · rw [if_neg h, if_neg h]
theorem pFailL_2 (I : xI) (L : xL) (a : Nat) : rd (pFailL I L a) (a + 2) = gFailC (I a) (rd L (a + 2)) := by
  unfold pFailL gFailC
  by_cases h : I a 4 ≤ 1 ∧ I a 6 = 10
  · rw [if_pos h, if_pos h]
    show rd (cw (cw L (a + 1) (hC ((rd L (a + 1)).1 * 256, (rd L (a + 1)).2 * 256))) (a + 2) (hC ((rd L (a + 2)).1 * 256, (rd L (a + 2)).2 * 256))) (a + 2) = _
    rw [rd_cw]
  · rw [if_neg h, if_neg h]
theorem pFailL_ne (I : xI) (L : xL) {a q : Nat} (h1 : q ≠ a + 1) (h2 : q ≠ a + 2) : pFailL I L a q = L q := by
  simp only [pFailL]
  split
  · rw [cput_ne _ _ _ h2, cput_ne _ _ _ h1]
  · rfl
theorem imin_nI {a b : Nat} (ha : a < 2147483648) (hb : b < 2147483648) : (if nI b < nI a then nI b else nI a) = nI (min a b) := by
  by_cases h : b < a
  · rw [if_pos (nI_lt h (by omega)), Nat.min_eq_right (by omega)]
  · rw [if_neg (nI_nlt (by omega) (by omega)), Nat.min_eq_left (by omega)]
theorem imin_n {a b : Nat} (ha : a < 2147483648) (hb : b < 2147483648) : imin (nI a) (nI b) = nI (min a b) := imin_nI ha hb
theorem nI_half {s : Nat} (hs : s < 2147483648) : nI s / 2 = nI (s / 2) := by
  apply Int32.toInt_inj.mp
  have e2 : (2 : Int32).toInt = 2 := by decide
  rw [Int32.toInt_div, nI_toInt (by omega), nI_toInt (by omega), e2, Int.tdiv_eq_ediv_of_nonneg (by omega), Int.bmod_eq_of_le (by omega) (by omega)]
  omega
/-- place at most 1024, steps at most 256 -/
def wfR (r : Nat → Int32) : Prop := ∃ P s g : Nat, r 3 = nI P ∧ P ≤ 1024 ∧ r 4 = nI s ∧ s ≤ 256 ∧ r 5 = nI g ∧ g ≤ 256
theorem wf_move {r : Nat → Int32} {P s g : Nat} (h1 : r 3 = nI P) (h2 : P ≤ 1024) (h3 : r 4 = nI s) (h4 : s ≤ 256) (h5 : r 5 = nI g) (h6 : g ≤ 256) (bo : Int32) (m : Int64) : wfR (gMove r (nI (min s (1024 - P))) bo m) := by
  have e3 : ∀ r' : Nat → Int32, r' = gMove2 r (nI (min s (1024 - P))) → wfR r' ∧ ∀ x, wfR (va_up r' 2 x) := by
    intro r' hr'
    have k3 : gMove1 r (nI (min s (1024 - P))) 3 = nI (P + min s (1024 - P)) := by simp [gMove1, va_up, h1, nI_add]
    have k4 : gMove1 r (nI (min s (1024 - P))) 4 = nI s := by simp [gMove1, va_up, h3]
    have k5 : gMove1 r (nI (min s (1024 - P))) 5 = nI g := by simp [gMove1, va_up, h5]
    have hm : imin (r 4 * 2) (r 5) = nI (min (s * 2) g) := by
      rw [h3, h5]; exact (congrArg (fun x => imin x (nI g)) (nI_mul s 2)).trans (imin_n (by omega) (by omega))
    have hw : wfR r' := by
      subst hr'
      unfold gMove2
      split
      · exact ⟨_, _, _, k3, by omega, k4, h4, k5, h6⟩
      · exact ⟨P + min s (1024 - P), min (s * 2) g, g, by simp [va_up, k3], by omega, by simp [va_up, hm], by omega, by simp [va_up, k5], h6⟩
    refine ⟨hw, fun x => ?_⟩
    obtain ⟨a, b, c, q1, q2, q3, q4, q5, q6⟩ := hw
    exact ⟨a, b, c, by simp [va_up, q1], q2, by simp [va_up, q3], q4, by simp [va_up, q5], q6⟩
  obtain ⟨w1, w2⟩ := e3 _ rfl
  unfold gMove
  split
  · split
    · exact w1
    · exact w2 _
  · exact w2 _
theorem wf_fail {r : Nat → Int32} {P s g s0 : Nat} (h1 : r 3 = nI P) (h2 : P ≤ 1024) (h3 : r 4 = nI s) (h4 : s ≤ 256) (h5 : r 5 = nI g) (h6 : g ≤ 256) (h0 : s0 ≤ 256) : wfR (gFail r (nI s0)) := by
  have k3 : gFail1 r 3 = nI P := by simp [gFail1, va_up, h1]
  have k4 : gFail1 r 4 = nI s := by simp [gFail1, va_up, h3]
  have k5 : gFail1 r 5 = nI g := by simp [gFail1, va_up, h5]
  unfold gFail
  split
  · split
    · refine ⟨P, min s0 g, g, by simp [va_up, k3], h2, ?_, by omega, by simp [va_up, k5], h6⟩
      rw [h5, imin_n (by omega) (by omega)]; simp [va_up]
    · exact ⟨P, s, g, by simp [va_up, k3], h2, by simp [va_up, k4], h4, by simp [va_up, k5], h6⟩
  · exact ⟨P, s / 2, g, by simp [va_up, k3], h2, by simp [va_up, h3, nI_half (show s < 2147483648 by omega)], by omega, by simp [va_up, k5], h6⟩
/-- one try: the new point, if it is good -/
def tryC (Y : xSy) (R : Nat) (tol : Int32) (P hN : Nat) (u : Int64) (a b : xC) : Option (xC × xC) := if syN Y P u a b = 0 then none else coN Y (P + hN) u tol R 0 0 (pdX Y P (nI hN) u a b) (pdY Y P (nI hN) u a b)
def tryF (Y : xSy) (R : Nat) (tol bo s0 : Int32) (v : xP) (P s : Nat) : xP := match tryC Y R tol P (min s (1024 - P)) (punit (v.1 6)) v.2.1 v.2.2 with
  | some c => (gMove v.1 (nI (min s (1024 - P))) bo (lmax (sizC c.1) (sizC c.2)), c.1, c.2)
  | none => (gFail v.1 s0, gFailC v.1 v.2.1, gFailC v.1 v.2.2)
def tryP (Y : xSy) (R : Nat) (tol bo s0 : Int32) (v : xP) : xP := tryF Y R tol bo s0 v (v.1 3).toNatClampNeg (v.1 4).toNatClampNeg
def foll (Y : xSy) (R : Nat) (tol bo s0 : Int32) : Nat → xP → Nat × xP
  | 0, v => (0, v)
  | n + 1, v => if v.1 2 = 0 then ((foll Y R tol bo s0 n (tryP Y R tol bo s0 v)).1 + 1, (foll Y R tol bo s0 n (tryP Y R tol bo s0 v)).2) else (0, v)
theorem iteS {α : Type} {o : Option α} (h : ¬ (if o.isSome then (1 : Int32) else 0) = 0) : ∃ c, o = some c := by
  cases o with
  | none => exact absurd rfl h
  | some c => exact ⟨c, rfl⟩
theorem iteN {α : Type} {o : Option α} (h : (if o.isSome then (1 : Int32) else 0) = 0) : o = none := by
  cases o with
  | none => rfl
  | some c => exact absurd h (by simp)
theorem t_X6_moveOn_c (l : Launch) (D : xD) (z n : Nat) (G : xG) (I : xI) (L : xL) (a : Nat) (h0 : Int32) (b : Nat) (d : Nat) (bo : Int32) (hP : shP G a) (gb : G b = some (0, 0, rN)) (gd : G d = some (0, 0, rN)) (za : z ≤ a) (hd : d ≠ a + 1) : xM0 l D z yX6_moveOn cX6_moveOn 5 none 2 43 [.ref a, .int h0, .ref b, .ref d, .int bo] n G I L (xE none (pMoveI I a h0 bo (lmax (sizC (rd L b)) (sizC (rd L d)))) (cw (cw L (a + 1) (rd L b)) (a + 2) (rd L d))) := by
  exact t_X6_moveOn l D z n G I L a h0 b d bo hP gb gd za hd
theorem dX3_follow_0 : decode cX3_follow 0 = .ok (.iconst 0, 1) := by decide +kernel
theorem dX3_follow_1 : decode cX3_follow 1 = .ok (.istore_n 3, 1) := by decide +kernel
theorem dX3_follow_2 : decode cX3_follow 2 = .ok (.iload_n 3, 1) := by decide +kernel
theorem dX3_follow_3 : decode cX3_follow 3 = .ok (.iload_n 2, 1) := by decide +kernel
theorem dX3_follow_4 : decode cX3_follow 4 = .ok (.if_icmp .ge 119, 3) := by decide +kernel
theorem dX3_follow_7 : decode cX3_follow 7 = .ok (.aload_n 1, 1) := by decide +kernel
theorem dX3_follow_8 : decode cX3_follow 8 = .ok (.getfield 56, 3) := by decide +kernel
theorem dX3_follow_11 : decode cX3_follow 11 = .ok (.ifCond .ne 112, 3) := by decide +kernel
theorem dX3_follow_14 : decode cX3_follow 14 = .ok (.aload_n 1, 1) := by decide +kernel
theorem dX3_follow_15 : decode cX3_follow 15 = .ok (.getfield 61, 3) := by decide +kernel
theorem dX3_follow_18 : decode cX3_follow 18 = .ok (.sipush 1024, 3) := by decide +kernel
theorem dX3_follow_21 : decode cX3_follow 21 = .ok (.aload_n 1, 1) := by decide +kernel
theorem dX3_follow_22 : decode cX3_follow 22 = .ok (.getfield 64, 3) := by decide +kernel
theorem dX3_follow_25 : decode cX3_follow 25 = .ok (.isub, 1) := by decide +kernel
theorem dX3_follow_26 : decode cX3_follow 26 = .ok (.invokestatic 67, 3) := by decide +kernel
theorem dX3_follow_29 : decode cX3_follow 29 = .ok (.istore 4, 2) := by decide +kernel
theorem dX3_follow_31 : decode cX3_follow 31 = .ok (.aload_n 0, 1) := by decide +kernel
theorem dX3_follow_32 : decode cX3_follow 32 = .ok (.getfield 26, 3) := by decide +kernel
theorem dX3_follow_35 : decode cX3_follow 35 = .ok (.aload_n 1, 1) := by decide +kernel
theorem dX3_follow_36 : decode cX3_follow 36 = .ok (.getfield 73, 3) := by decide +kernel
theorem dX3_follow_39 : decode cX3_follow 39 = .ok (.invokevirtual 74, 3) := by decide +kernel
theorem dX3_follow_42 : decode cX3_follow 42 = .ok (.aload_n 0, 1) := by decide +kernel
theorem dX3_follow_43 : decode cX3_follow 43 = .ok (.getfield 30, 3) := by decide +kernel
theorem dX3_follow_46 : decode cX3_follow 46 = .ok (.aload_n 1, 1) := by decide +kernel
theorem dX3_follow_47 : decode cX3_follow 47 = .ok (.getfield 78, 3) := by decide +kernel
theorem dX3_follow_50 : decode cX3_follow 50 = .ok (.invokevirtual 74, 3) := by decide +kernel
theorem dX3_follow_53 : decode cX3_follow 53 = .ok (.aload_n 0, 1) := by decide +kernel
theorem dX3_follow_54 : decode cX3_follow 54 = .ok (.aload_n 1, 1) := by decide +kernel
theorem dX3_follow_55 : decode cX3_follow 55 = .ok (.getfield 64, 3) := by decide +kernel
theorem dX3_follow_58 : decode cX3_follow 58 = .ok (.iload 4, 2) := by decide +kernel
theorem dX3_follow_60 : decode cX3_follow 60 = .ok (.aload_n 1, 1) := by decide +kernel
theorem dX3_follow_61 : decode cX3_follow 61 = .ok (.invokevirtual 79, 3) := by decide +kernel
theorem dX3_follow_64 : decode cX3_follow 64 = .ok (.invokevirtual 83, 3) := by decide +kernel
theorem dX3_follow_67 : decode cX3_follow 67 = .ok (.ifCond .eq 42, 3) := by decide +kernel
theorem dX3_follow_70 : decode cX3_follow 70 = .ok (.aload_n 0, 1) := by decide +kernel
theorem dX3_follow_71 : decode cX3_follow 71 = .ok (.aload_n 1, 1) := by decide +kernel
theorem dX3_follow_72 : decode cX3_follow 72 = .ok (.getfield 64, 3) := by decide +kernel
theorem dX3_follow_75 : decode cX3_follow 75 = .ok (.iload 4, 2) := by decide +kernel
theorem dX3_follow_77 : decode cX3_follow 77 = .ok (.iadd, 1) := by decide +kernel
theorem dX3_follow_78 : decode cX3_follow 78 = .ok (.aload_n 1, 1) := by decide +kernel
theorem dX3_follow_79 : decode cX3_follow 79 = .ok (.invokevirtual 79, 3) := by decide +kernel
theorem dX3_follow_82 : decode cX3_follow 82 = .ok (.invokevirtual 87, 3) := by decide +kernel
theorem dX3_follow_85 : decode cX3_follow 85 = .ok (.ifCond .eq 24, 3) := by decide +kernel
theorem dX3_follow_88 : decode cX3_follow 88 = .ok (.aload_n 1, 1) := by decide +kernel
theorem dX3_follow_89 : decode cX3_follow 89 = .ok (.iload 4, 2) := by decide +kernel
theorem dX3_follow_91 : decode cX3_follow 91 = .ok (.aload_n 0, 1) := by decide +kernel
theorem dX3_follow_92 : decode cX3_follow 92 = .ok (.getfield 26, 3) := by decide +kernel
theorem dX3_follow_95 : decode cX3_follow 95 = .ok (.aload_n 0, 1) := by decide +kernel
theorem dX3_follow_96 : decode cX3_follow 96 = .ok (.getfield 30, 3) := by decide +kernel
theorem dX3_follow_99 : decode cX3_follow 99 = .ok (.aload_n 0, 1) := by decide +kernel
theorem dX3_follow_100 : decode cX3_follow 100 = .ok (.getfield 53, 3) := by decide +kernel
theorem dX3_follow_103 : decode cX3_follow 103 = .ok (.invokevirtual 91, 3) := by decide +kernel
theorem dX3_follow_106 : decode cX3_follow 106 = .ok (.goto 11, 3) := by decide +kernel
theorem dX3_follow_109 : decode cX3_follow 109 = .ok (.aload_n 1, 1) := by decide +kernel
theorem dX3_follow_110 : decode cX3_follow 110 = .ok (.aload_n 0, 1) := by decide +kernel
theorem dX3_follow_111 : decode cX3_follow 111 = .ok (.getfield 43, 3) := by decide +kernel
theorem dX3_follow_114 : decode cX3_follow 114 = .ok (.invokevirtual 95, 3) := by decide +kernel
theorem dX3_follow_117 : decode cX3_follow 117 = .ok (.iinc 3 1, 3) := by decide +kernel
theorem dX3_follow_120 : decode cX3_follow 120 = .ok (.goto (-118), 3) := by decide +kernel
theorem dX3_follow_123 : decode cX3_follow 123 = .ok (.iload_n 3, 1) := by decide +kernel
theorem dX3_follow_124 : decode cX3_follow 124 = .ok (.ireturn, 1) := by decide +kernel
set_option maxHeartbeats 1000000 in
set_option maxRecDepth 100000 in
theorem t_X3_follow (l : Launch) (D : xD) (z n : Nat) (G : xG) (I : xI) (L : xL) (f : Nat) (a : Nat) (T : Nat) (s0 : Nat) (R : Nat) (Y : xSy) (hF : shF G f) (zf : z ≤ f) (hPa : shP G a) (za : z ≤ a) (daf : a + 2 < f ∨ f + 68 ≤ a) (hT : T ≤ 200) (hA : aimedS I (f + 1) Y) (hR : I f 5 = nI R) (hR9 : R ≤ 9) (hs0 : I f 4 = nI s0) (hs0l : s0 ≤ 256) (hw0 : wfR (I a)) : xM0 l D z yX3_follow cX3_follow 5 (some .int) 5 132 [.ref f, .ref a, .int (nI T)] n G I L (fun v' I' L' => v' = (some (.int (nI (foll Y R (I f 6) (I f 7) (nI s0) T (pv I L a)).1))) ∧ (pv I' L' a = (foll Y R (I f 6) (I f 7) (nI s0) T (pv I L a)).2) ∧ (wfR (I' a)) ∧ (∀ q, q ≠ a → I' q = I q) ∧ (∀ q, q ≠ a + 1 → q ≠ a + 2 → (q < f ∨ f + 68 ≤ q) → L' q = L q)) := by
  refine xM.of (by decide) (Nat.le_of_ble_eq_true rfl) (fun p e s m args below meth c C hnm hsz => ?_)
  refine x_lv [(0, .ref f), (1, .ref a), (2, .int (nI T))] rfl ?_
  refine x_iconst 0 C (v := 0) dX3_follow_0 rfl ?_
  refine x_istore_n 1 C [(3, .int 0), (0, .ref f), (1, .ref a), (2, .int (nI T))] dX3_follow_1 rfl (by decide) rfl ?_
  have loop2 : ∀ (fuel : Nat) (mk : Nat) (Ik : xI) (Lk : xL), (mk ≤ T) → (T + 1 ≤ mk + fuel) → (wfR (Ik a)) → (foll Y R (I f 6) (I f 7) (nI s0) T (pv I L a) = (mk + (foll Y R (I f 6) (I f 7) (nI s0) (T - mk) (pv Ik Lk a)).1, (foll Y R (I f 6) (I f 7) (nI s0) (T - mk) (pv Ik Lk a)).2)) → (∀ q, q ≠ a → Ik q = I q) → (∀ q, q ≠ a + 1 → q ≠ a + 2 → (q < f ∨ f + 68 ≤ q) → Lk q = L q) → X p l e (xRm 5 132 0 0) s m args below meth c D z 5 (MQ below (xQc D z n (xN n G (fun v' I' L' => v' = (some (.int (nI (foll Y R (I f 6) (I f 7) (nI s0) T (pv I L a)).1))) ∧ (pv I' L' a = (foll Y R (I f 6) (I f 7) (nI s0) T (pv I L a)).2) ∧ (wfR (I' a)) ∧ (∀ q, q ≠ a → I' q = I q) ∧ (∀ q, q ≠ a + 1 → q ≠ a + 2 → (q < f ∨ f + 68 ≤ q) → L' q = L q)))) args s 0 0 (fun a => z ≤ a)) 0 0 n G Ik Lk 2 [(0, .ref f), (1, .ref a), (2, .int (nI T)), (3, .int (nI mk))] [] := by
    intro fuel
    induction fuel with
    | zero =>
      intro mk Ik Lk hm hf hw hS hfI hfL
      exact absurd hf (by omega)
    | succ fuel ih =>
      intro mk Ik Lk hm hf hw hS hfI hfL
      obtain ⟨P, sN, gN, hP3, hPl, hs4, hsl, hg5, hgl⟩ := id hw
      have hAk : aimedS Ik (f + 1) Y := aimedS_congr (fun q h1 h2 => hfI q (by omega)) hA
      have hRk : Ik f 5 = nI R := by rw [hfI f (by omega)]; exact hR
      have h6k : Ik f 6 = I f 6 := by rw [hfI f (by omega)]
      have h7k : Ik f 7 = I f 7 := by rw [hfI f (by omega)]
      have h4k : Ik f 4 = nI s0 := by rw [hfI f (by omega)]; exact hs0
      refine x_iload_n 2 C dX3_follow_2 rfl 3 rfl ?_
      refine x_iload_n 3 C dX3_follow_3 rfl 2 rfl ?_
      refine x_icmp_ge 4 C 123 dX3_follow_4 (by decide) (fun c1 => ?_) (fun c1 => ?_)
      · skip
        have c1n : T ≤ mk := (nI_leI (a := T) (b := mk) (by omega) (by omega)).mp c1
        have c1o := Int32.not_lt.mpr c1
        refine x_iload_n 123 C dX3_follow_123 rfl 3 rfl ?_
        refine x_iret 124 C dX3_follow_124 rfl rfl (Nat.le_refl _) (xN.intro ?_)
        first | (have hz : foll Y R (I f 6) (I f 7) (nI s0) (T - mk) (pv Ik Lk a) = (0, pv Ik Lk a) := (by rw [show T - mk = 0 by omega]; rfl); exact ⟨by rw [hS, hz]; rfl, by rw [hS, hz], hw, hfI, hfL⟩) | (have hz : foll Y R (I f 6) (I f 7) (nI s0) (T - mk) (pv Ik Lk a) = (0, pv Ik Lk a) := (by rw [show T - mk = (T - (mk + 1)) + 1 by omega]; simp only [foll]; exact if_neg hst1); exact ⟨by rw [hS, hz]; rfl, by rw [hS, hz], hw, hfI, hfL⟩)
      · skip
        have c1n : ¬ (T ≤ mk) := fun h => c1 ((nI_leI (a := T) (b := mk) (by omega) (by omega)).mpr h)
        have c1o := Int32.not_le.mp c1
        refine x_aload_n 7 C dX3_follow_7 rfl 1 rfl ?_
        refine x_geti 8 C dX3_follow_8 ff_X3_56 hPa.1 ?_
        refine x_if_ne 11 C 123 dX3_follow_11 (by decide) (fun c2 => ?_) (fun c2 => ?_)
        · skip
          have hst1 : ¬ Ik a 2 = 0 := c2
          refine x_iload_n 123 C dX3_follow_123 rfl 3 rfl ?_
          refine x_iret 124 C dX3_follow_124 rfl rfl (Nat.le_refl _) (xN.intro ?_)
          first | (have hz : foll Y R (I f 6) (I f 7) (nI s0) (T - mk) (pv Ik Lk a) = (0, pv Ik Lk a) := (by rw [show T - mk = 0 by omega]; rfl); exact ⟨by rw [hS, hz]; rfl, by rw [hS, hz], hw, hfI, hfL⟩) | (have hz : foll Y R (I f 6) (I f 7) (nI s0) (T - mk) (pv Ik Lk a) = (0, pv Ik Lk a) := (by rw [show T - mk = (T - (mk + 1)) + 1 by omega]; simp only [foll]; exact if_neg hst1); exact ⟨by rw [hS, hz]; rfl, by rw [hS, hz], hw, hfI, hfL⟩)
        · skip
          have hst0 : Ik a 2 = 0 := c2
          refine x_aload_n 14 C dX3_follow_14 rfl 1 rfl ?_
          refine x_geti 15 C dX3_follow_15 ff_X3_61 hPa.1 ?_
          refine x_int (nI sN) hs4 ?_
          refine x_sipush 18 C (v := 1024) dX3_follow_18 rfl ?_
          refine x_aload_n 21 C dX3_follow_21 rfl 1 rfl ?_
          refine x_geti 22 C dX3_follow_22 ff_X3_64 hPa.1 ?_
          refine x_int (nI P) hP3 ?_
          refine x_isub 25 C dX3_follow_25 ?_
          refine x_int (nI (1024 - P)) (nI_sub (a := 1024) (b := P) (by omega)) ?_
          refine x_mmin 26 C dX3_follow_26 km_X3_67 kt_J9_min_7cf53 kn_J9 kc_J9_min_7cf53 ⟨by decide, Nat.le_of_ble_eq_true rfl, by decide, by decide⟩ ?_
          refine x_int (nI (min sN (1024 - P))) (imin_nI (by omega) (by omega)) ?_
          refine x_istore 29 C [(4, .int (nI (min sN (1024 - P)))), (0, .ref f), (1, .ref a), (2, .int (nI T)), (3, .int (nI mk))] dX3_follow_29 (by decide) rfl ?_
          refine x_aload_n 31 C dX3_follow_31 rfl 1 rfl ?_
          refine x_getr 32 C (b := f + 66) dX3_follow_32 ff_X3_26 rfl hF.1 rfl ?_
          refine x_aload_n 35 C dX3_follow_35 rfl 2 rfl ?_
          refine x_getr 36 C (b := a + 1) dX3_follow_36 ff_X3_73 rfl hPa.1 rfl ?_
          refine x_callVe 39 C dX3_follow_39 (As := [.ref (a + 1)]) (rest := []) [] (t_X0_copy_c l D z n G Ik Lk (f + 66) (a + 1) hF.2.2.2.1 hPa.2.1 (by omega)) mt_X0_copy km_X3_74 ki_X0_copy ks_X0_copy hF.2.2.2.1 ⟨by decide, rfl⟩ rfl rfl (Nat.le_of_ble_eq_true rfl) ⟨⟨by decide, by decide⟩, by decide, by decide⟩ (fun I3 L4 eI3 eL4 => ?_)
          replace eI3 := eI3.symm; subst eI3
          have k5 : rd L4 (a + 1) = rd Lk (a + 1) := by rw [eL4, rd_cw_ne _ _ (by omega)]
          have k6 : rd L4 (a + 2) = rd Lk (a + 2) := by rw [eL4, rd_cw_ne _ _ (by omega)]
          have k7 : rd L4 (f + 66) = (rd Lk (a + 1)) := by rw [eL4, rd_cw]
          have k8 : rd L4 (f + 67) = rd Lk (f + 67) := by rw [eL4, rd_cw_ne _ _ (by omega)]
          refine x_aload_n 42 C dX3_follow_42 rfl 1 rfl ?_
          refine x_getr 43 C (b := f + 67) dX3_follow_43 ff_X3_30 rfl hF.1 rfl ?_
          refine x_aload_n 46 C dX3_follow_46 rfl 2 rfl ?_
          refine x_getr 47 C (b := a + 2) dX3_follow_47 ff_X3_78 rfl hPa.1 rfl ?_
          refine x_callVe 50 C dX3_follow_50 (As := [.ref (a + 2)]) (rest := []) [] (t_X0_copy_c l D z n G Ik L4 (f + 67) (a + 2) hF.2.2.2.2 hPa.2.2 (by omega)) mt_X0_copy km_X3_74 ki_X0_copy ks_X0_copy hF.2.2.2.2 ⟨by decide, rfl⟩ rfl rfl (Nat.le_of_ble_eq_true rfl) ⟨⟨by decide, by decide⟩, by decide, by decide⟩ (fun I9 L10 eI9 eL10 => ?_)
          replace eI9 := eI9.symm; subst eI9
          have k11 : rd L10 (a + 1) = rd Lk (a + 1) := by rw [eL10, rd_cw_ne _ _ (by omega)]; exact k5
          have k12 : rd L10 (a + 2) = rd Lk (a + 2) := by rw [eL10, rd_cw_ne _ _ (by omega)]; exact k6
          have k13 : rd L10 (f + 66) = (rd Lk (a + 1)) := by rw [eL10, rd_cw_ne _ _ (by omega)]; exact k7
          have k14 : rd L10 (f + 67) = (rd Lk (a + 2)) := by rw [eL10, rd_cw]; simp only [k6]
          refine x_aload_n 53 C dX3_follow_53 rfl 1 rfl ?_
          refine x_aload_n 54 C dX3_follow_54 rfl 2 rfl ?_
          refine x_geti 55 C dX3_follow_55 ff_X3_64 hPa.1 ?_
          refine x_int (nI P) hP3 ?_
          refine x_iload 58 C dX3_follow_58 0 rfl ?_
          refine x_aload_n 60 C dX3_follow_60 rfl 2 rfl ?_
          refine x_callVe 61 C dX3_follow_61 (As := []) (rest := [.int (nI (min sN (1024 - P))), .int (nI P), .ref f]) [.long (punit (Ik a 6)), .int (nI (min sN (1024 - P))), .int (nI P), .ref f] (t_X6_unit l D z n G Ik L10 a hPa) mt_X6_unit km_X3_79 ki_X6_unit ks_X6_unit hPa.1 ⟨by decide, rfl⟩ rfl rfl (Nat.le_of_ble_eq_true rfl) ⟨⟨by decide, by decide⟩, by decide, by decide⟩ (fun I15 L16 eI15 eL16 => ?_)
          replace eI15 := eI15.symm; subst eI15
          replace eL16 := eL16.symm; subst eL16
          refine x_callVp 64 C dX3_follow_64 (As := [.int (nI P), .int (nI (min sN (1024 - P))), .long (punit (Ik a 6))]) (rest := []) (t_X3_predict l D z n G Ik L10 f P (nI (min sN (1024 - P))) (punit (Ik a 6)) Y hF (by omega) (by first | omega | assumption | decide) (punit_nz _) hAk) mt_X3_predict km_X3_83 ki_X3_predict ks_X3_predict hF.1 ⟨by decide, rfl⟩ rfl (Nat.le_of_ble_eq_true rfl) ⟨⟨by decide, by decide⟩, by decide, by decide⟩ (fun w17 I18 L19 hw17 => ?_)
          obtain ⟨hw17v, eI18, hw17r0, hw17r1, hw17r2⟩ := hw17
          subst hw17v
          refine x_st [.int (if syN Y P (punit (Ik a 6)) (rd L10 (f + 66)) (rd L10 (f + 67)) = 0 then 0 else 1)] rfl ?_
          replace eI18 := eI18.symm; subst eI18
          have k20 : rd L19 (a + 1) = rd Lk (a + 1) := (rd_congr (hw17r2 (a + 1) (by omega))).trans k11
          have k21 : rd L19 (a + 2) = rd Lk (a + 2) := (rd_congr (hw17r2 (a + 2) (by omega))).trans k12
          have k22 : rd L19 (f + 66) = if syN Y P (punit (Ik a 6)) (rd Lk (a + 1)) (rd Lk (a + 2)) = 0 then (rd Lk (a + 1)) else pdX Y P (nI (min sN (1024 - P))) (punit (Ik a 6)) (rd Lk (a + 1)) (rd Lk (a + 2)) := by rw [hw17r0]; simp only [k13, k14]
          have k23 : rd L19 (f + 67) = if syN Y P (punit (Ik a 6)) (rd Lk (a + 1)) (rd Lk (a + 2)) = 0 then (rd Lk (a + 2)) else pdY Y P (nI (min sN (1024 - P))) (punit (Ik a 6)) (rd Lk (a + 1)) (rd Lk (a + 2)) := by rw [hw17r1]; simp only [k13, k14]
          refine x_if_eq 67 C 109 dX3_follow_67 (by decide) (fun c24 => ?_) (fun c24 => ?_)
          · skip
            have hn := ite01 c24
            rw [k13, k14] at hn
            have htry : tryC Y R (I f 6) P (min sN (1024 - P)) (punit (Ik a 6)) (rd Lk (a + 1)) (rd Lk (a + 2)) = none := by unfold tryC; exact if_pos hn
            refine x_aload_n 109 C dX3_follow_109 rfl 2 rfl ?_
            refine x_aload_n 110 C dX3_follow_110 rfl 1 rfl ?_
            refine x_geti 111 C dX3_follow_111 ff_X3_43 hF.1 ?_
            refine x_int (nI s0) h4k ?_
            refine x_callVe 114 C dX3_follow_114 (As := [.int (nI s0)]) (rest := []) [] (t_X6_shorten l D z n G Ik L19 a (nI s0) hPa (by omega)) mt_X6_shorten km_X3_95 ki_X6_shorten ks_X6_shorten hPa.1 ⟨by decide, rfl⟩ rfl rfl (Nat.le_of_ble_eq_true rfl) ⟨⟨by decide, by decide⟩, by decide, by decide⟩ (fun I25 L26 eI25 eL26 => ?_)
            refine x_iinc 117 C [(3, .int (nI (mk + 1))), (4, .int (nI (min sN (1024 - P)))), (0, .ref f), (1, .ref a), (2, .int (nI T))] dX3_follow_117 4 rfl (nI_add mk 1) (by decide) rfl ?_
            refine x_goto 120 C 2 dX3_follow_120 (by decide) ?_
            refine x_sub [(0, .ref f), (1, .ref a), (2, .int (nI T)), (3, .int (nI (mk + 1)))] [2, 3, 4, 0] rfl ?_
            have hst : Ik a 2 = 0 := hst0
            have hP0 : (Ik a 3).toNatClampNeg = P := by rw [hP3]; exact nI_clamp (by omega)
            have hs0n : (Ik a 4).toNatClampNeg = sN := by rw [hs4]; exact nI_clamp (by omega)
            have hnew : pv I25 L26 a = tryP Y R (I f 6) (I f 7) (nI s0) (pv Ik Lk a) := by
              show (I25 a, rd L26 (a + 1), rd L26 (a + 2)) = tryF Y R (I f 6) (I f 7) (nI s0) (pv Ik Lk a) (Ik a 3).toNatClampNeg (Ik a 4).toNatClampNeg
              rw [hP0, hs0n, eL26, pFailL_1, pFailL_2, k20, k21]
              unfold tryF; simp only [pv]; rw [htry, eI25, pFailI_row]; try rfl
            have hwn : wfR (I25 a) := by rw [eI25, pFailI_row]; exact wf_fail hP3 hPl hs4 hsl hg5 hgl hs0l
            refine ih (mk + 1) I25 L26 (by omega) (by omega) hwn ?_ ?_ ?_
            · rw [hS, show T - mk = (T - (mk + 1)) + 1 by omega]; simp only [foll]; rw [if_pos (show (pv Ik Lk a).1 2 = 0 from hst0), hnew]; exact Prod.ext (by show mk + (_ + 1) = mk + 1 + _; omega) rfl
            · intro q hq; rw [eI25, pFailI_ne _ _ hq]; exact hfI q hq
            · intro q h1 h2 h3; rw [eL26, pFailL_ne _ _ h1 h2]; rw [hw17r2 _ (by omega)]; rw [eL10, cw_ne _ _ (by omega)]; rw [eL4, cw_ne _ _ (by omega)]; exact hfL q h1 h2 h3
          · skip
            have hn := ite01n c24
            rw [k13, k14] at hn
            have k27 : rd L19 (f + 66) = pdX Y P (nI (min sN (1024 - P))) (punit (Ik a 6)) (rd Lk (a + 1)) (rd Lk (a + 2)) := k22.trans (if_neg hn)
            have k28 : rd L19 (f + 67) = pdY Y P (nI (min sN (1024 - P))) (punit (Ik a 6)) (rd Lk (a + 1)) (rd Lk (a + 2)) := k23.trans (if_neg hn)
            refine x_aload_n 70 C dX3_follow_70 rfl 1 rfl ?_
            refine x_aload_n 71 C dX3_follow_71 rfl 2 rfl ?_
            refine x_geti 72 C dX3_follow_72 ff_X3_64 hPa.1 ?_
            refine x_int (nI P) hP3 ?_
            refine x_iload 75 C dX3_follow_75 0 rfl ?_
            refine x_iadd 77 C dX3_follow_77 ?_
            refine x_int (nI (P + (min sN (1024 - P)))) (nI_add P (min sN (1024 - P))) ?_
            refine x_aload_n 78 C dX3_follow_78 rfl 2 rfl ?_
            refine x_callVe 79 C dX3_follow_79 (As := []) (rest := [.int (nI (P + (min sN (1024 - P)))), .ref f]) [.long (punit (Ik a 6)), .int (nI (P + (min sN (1024 - P)))), .ref f] (t_X6_unit l D z n G Ik L19 a hPa) mt_X6_unit km_X3_79 ki_X6_unit ks_X6_unit hPa.1 ⟨by decide, rfl⟩ rfl rfl (Nat.le_of_ble_eq_true rfl) ⟨⟨by decide, by decide⟩, by decide, by decide⟩ (fun I29 L30 eI29 eL30 => ?_)
            replace eI29 := eI29.symm; subst eI29
            replace eL30 := eL30.symm; subst eL30
            refine x_callVp 82 C dX3_follow_82 (As := [.int (nI (P + (min sN (1024 - P)))), .long (punit (Ik a 6))]) (rest := []) (t_X3_correct l D z n G Ik L19 f (P + (min sN (1024 - P))) (punit (Ik a 6)) R Y hF (by omega) (by first | omega | assumption | decide) (punit_nz _) hRk (by first | omega | assumption | decide) hAk) mt_X3_correct km_X3_87 ki_X3_correct ks_X3_correct hF.1 ⟨by decide, rfl⟩ rfl (Nat.le_of_ble_eq_true rfl) ⟨⟨by decide, by decide⟩, by decide, by decide⟩ (fun w31 I32 L33 hw31 => ?_)
            obtain ⟨hw31v, eI32, hw31r0, hw31r1⟩ := hw31
            subst hw31v
            refine x_st [.int (if (coN Y (P + (min sN (1024 - P))) (punit (Ik a 6)) (Ik f 6) R 0 0 (rd L19 (f + 66)) (rd L19 (f + 67))).isSome then 1 else 0)] rfl ?_
            replace eI32 := eI32.symm; subst eI32
            have k34 : rd L33 (a + 1) = rd Lk (a + 1) := (rd_congr (hw31r1 (a + 1) (by omega))).trans k20
            have k35 : rd L33 (a + 2) = rd Lk (a + 2) := (rd_congr (hw31r1 (a + 2) (by omega))).trans k21
            refine x_if_eq 85 C 109 dX3_follow_85 (by decide) (fun c36 => ?_) (fun c36 => ?_)
            · skip
              have hco : coN Y (P + (min sN (1024 - P))) (punit (Ik a 6)) (I f 6) R 0 0 (pdX Y P (nI (min sN (1024 - P))) (punit (Ik a 6)) (rd Lk (a + 1)) (rd Lk (a + 2))) (pdY Y P (nI (min sN (1024 - P))) (punit (Ik a 6)) (rd Lk (a + 1)) (rd Lk (a + 2))) = none := by have h := iteN c36; rw [k27, k28, h6k] at h; exact h
              have htry : tryC Y R (I f 6) P (min sN (1024 - P)) (punit (Ik a 6)) (rd Lk (a + 1)) (rd Lk (a + 2)) = none := by unfold tryC; rw [if_neg hn]; exact hco
              refine x_aload_n 109 C dX3_follow_109 rfl 2 rfl ?_
              refine x_aload_n 110 C dX3_follow_110 rfl 1 rfl ?_
              refine x_geti 111 C dX3_follow_111 ff_X3_43 hF.1 ?_
              refine x_int (nI s0) h4k ?_
              refine x_callVe 114 C dX3_follow_114 (As := [.int (nI s0)]) (rest := []) [] (t_X6_shorten l D z n G Ik L33 a (nI s0) hPa (by omega)) mt_X6_shorten km_X3_95 ki_X6_shorten ks_X6_shorten hPa.1 ⟨by decide, rfl⟩ rfl rfl (Nat.le_of_ble_eq_true rfl) ⟨⟨by decide, by decide⟩, by decide, by decide⟩ (fun I37 L38 eI37 eL38 => ?_)
              refine x_iinc 117 C [(3, .int (nI (mk + 1))), (4, .int (nI (min sN (1024 - P)))), (0, .ref f), (1, .ref a), (2, .int (nI T))] dX3_follow_117 4 rfl (nI_add mk 1) (by decide) rfl ?_
              refine x_goto 120 C 2 dX3_follow_120 (by decide) ?_
              refine x_sub [(0, .ref f), (1, .ref a), (2, .int (nI T)), (3, .int (nI (mk + 1)))] [2, 3, 4, 0] rfl ?_
              have hst : Ik a 2 = 0 := hst0
              have hP0 : (Ik a 3).toNatClampNeg = P := by rw [hP3]; exact nI_clamp (by omega)
              have hs0n : (Ik a 4).toNatClampNeg = sN := by rw [hs4]; exact nI_clamp (by omega)
              have hnew : pv I37 L38 a = tryP Y R (I f 6) (I f 7) (nI s0) (pv Ik Lk a) := by
                show (I37 a, rd L38 (a + 1), rd L38 (a + 2)) = tryF Y R (I f 6) (I f 7) (nI s0) (pv Ik Lk a) (Ik a 3).toNatClampNeg (Ik a 4).toNatClampNeg
                rw [hP0, hs0n, eL38, pFailL_1, pFailL_2, k34, k35]
                unfold tryF; simp only [pv]; rw [htry, eI37, pFailI_row]; try rfl
              have hwn : wfR (I37 a) := by rw [eI37, pFailI_row]; exact wf_fail hP3 hPl hs4 hsl hg5 hgl hs0l
              refine ih (mk + 1) I37 L38 (by omega) (by omega) hwn ?_ ?_ ?_
              · rw [hS, show T - mk = (T - (mk + 1)) + 1 by omega]; simp only [foll]; rw [if_pos (show (pv Ik Lk a).1 2 = 0 from hst0), hnew]; exact Prod.ext (by show mk + (_ + 1) = mk + 1 + _; omega) rfl
              · intro q hq; rw [eI37, pFailI_ne _ _ hq]; exact hfI q hq
              · intro q h1 h2 h3; rw [eL38, pFailL_ne _ _ h1 h2]; rw [hw31r1 _ (by omega)]; rw [hw17r2 _ (by omega)]; rw [eL10, cw_ne _ _ (by omega)]; rw [eL4, cw_ne _ _ (by omega)]; exact hfL q h1 h2 h3
            · skip
              obtain ⟨cc1, hcc⟩ := iteS c36
              have hpt := hw31r0 cc1 hcc
              have hco : coN Y (P + (min sN (1024 - P))) (punit (Ik a 6)) (I f 6) R 0 0 (pdX Y P (nI (min sN (1024 - P))) (punit (Ik a 6)) (rd Lk (a + 1)) (rd Lk (a + 2))) (pdY Y P (nI (min sN (1024 - P))) (punit (Ik a 6)) (rd Lk (a + 1)) (rd Lk (a + 2))) = some cc1 := by have h := hcc; rw [k27, k28, h6k] at h; exact h
              have htry : tryC Y R (I f 6) P (min sN (1024 - P)) (punit (Ik a 6)) (rd Lk (a + 1)) (rd Lk (a + 2)) = some cc1 := by unfold tryC; rw [if_neg hn]; exact hco
              refine x_aload_n 88 C dX3_follow_88 rfl 2 rfl ?_
              refine x_iload 89 C dX3_follow_89 0 rfl ?_
              refine x_aload_n 91 C dX3_follow_91 rfl 1 rfl ?_
              refine x_getr 92 C (b := f + 66) dX3_follow_92 ff_X3_26 rfl hF.1 rfl ?_
              refine x_aload_n 95 C dX3_follow_95 rfl 1 rfl ?_
              refine x_getr 96 C (b := f + 67) dX3_follow_96 ff_X3_30 rfl hF.1 rfl ?_
              refine x_aload_n 99 C dX3_follow_99 rfl 1 rfl ?_
              refine x_geti 100 C dX3_follow_100 ff_X3_53 hF.1 ?_
              refine x_int (I f 7) h7k ?_
              refine x_callVe 103 C dX3_follow_103 (As := [.int (nI (min sN (1024 - P))), .ref (f + 66), .ref (f + 67), .int (I f 7)]) (rest := []) [] (t_X6_moveOn_c l D z n G Ik L33 a (nI (min sN (1024 - P))) (f + 66) (f + 67) (I f 7) hPa hF.2.2.2.1 hF.2.2.2.2 (by omega) (by first | omega | assumption | decide)) mt_X6_moveOn km_X3_91 ki_X6_moveOn ks_X6_moveOn hPa.1 ⟨by decide, rfl⟩ rfl rfl (Nat.le_of_ble_eq_true rfl) ⟨⟨by decide, by decide⟩, by decide, by decide⟩ (fun I39 L40 eI39 eL40 => ?_)
              have k41 : rd L40 (a + 1) = cc1.1 := by rw [eL40, rd_cw_ne _ _ (by omega), rd_cw]; simp only [hpt.1]
              have k42 : rd L40 (a + 2) = cc1.2 := by rw [eL40, rd_cw]; simp only [hpt.2]
              have k43 : rd L40 (f + 66) = cc1.1 := by rw [eL40, rd_cw_ne _ _ (by omega), rd_cw_ne _ _ (by omega)]; exact hpt.1
              have k44 : rd L40 (f + 67) = cc1.2 := by rw [eL40, rd_cw_ne _ _ (by omega), rd_cw_ne _ _ (by omega)]; exact hpt.2
              refine x_goto 106 C 117 dX3_follow_106 (by decide) ?_
              refine x_iinc 117 C [(3, .int (nI (mk + 1))), (4, .int (nI (min sN (1024 - P)))), (0, .ref f), (1, .ref a), (2, .int (nI T))] dX3_follow_117 4 rfl (nI_add mk 1) (by decide) rfl ?_
              refine x_goto 120 C 2 dX3_follow_120 (by decide) ?_
              refine x_sub [(0, .ref f), (1, .ref a), (2, .int (nI T)), (3, .int (nI (mk + 1)))] [2, 3, 4, 0] rfl ?_
              have hst : Ik a 2 = 0 := hst0
              have hP0 : (Ik a 3).toNatClampNeg = P := by rw [hP3]; exact nI_clamp (by omega)
              have hs0n : (Ik a 4).toNatClampNeg = sN := by rw [hs4]; exact nI_clamp (by omega)
              have hnew : pv I39 L40 a = tryP Y R (I f 6) (I f 7) (nI s0) (pv Ik Lk a) := by
                show (I39 a, rd L40 (a + 1), rd L40 (a + 2)) = tryF Y R (I f 6) (I f 7) (nI s0) (pv Ik Lk a) (Ik a 3).toNatClampNeg (Ik a 4).toNatClampNeg
                rw [hP0, hs0n, k41, k42]
                unfold tryF; simp only [pv]; rw [htry, eI39, pMoveI_row, hpt.1, hpt.2]; try rfl
              have hwn : wfR (I39 a) := by rw [eI39, pMoveI_row]; exact wf_move hP3 hPl hs4 hsl hg5 hgl _ _
              refine ih (mk + 1) I39 L40 (by omega) (by omega) hwn ?_ ?_ ?_
              · rw [hS, show T - mk = (T - (mk + 1)) + 1 by omega]; simp only [foll]; rw [if_pos (show (pv Ik Lk a).1 2 = 0 from hst0), hnew]; exact Prod.ext (by show mk + (_ + 1) = mk + 1 + _; omega) rfl
              · intro q hq; rw [eI39, pMoveI_ne _ _ _ _ hq]; exact hfI q hq
              · intro q h1 h2 h3; rw [eL40, cw_ne _ _ (by omega), cw_ne _ _ (by omega)]; rw [hw31r1 _ (by omega)]; rw [hw17r2 _ (by omega)]; rw [eL10, cw_ne _ _ (by omega)]; rw [eL4, cw_ne _ _ (by omega)]; exact hfL q h1 h2 h3
  refine x_sub [(0, .ref f), (1, .ref a), (2, .int (nI T)), (3, .int 0)] [1, 2, 3, 0] rfl ?_
  exact loop2 (T + 1) 0 I L (by omega) (by omega) hw0 (Prod.ext (Nat.zero_add _).symm rfl) (fun _ _ => rfl) (fun _ _ _ _ => rfl)
