/-! The Model: what is asked of its paths -/
def mV (I : xI) (A i : Nat) : xP := mvO (I (A + 1)) (50 + 12 * i)
def vSt (V : Nat → xP) (x : Int32) (i : Nat) : Bool := decide ((V i).1 2 = x)
def vNear (v v' : xP) (w : Int32) (j : Nat) : Bool := decide (labs ((vpt v j).toInt64 - (vpt v' j).toInt64) ≤ w.toInt64)
def vNears (v v' : xP) (w : Int32) : Bool := vNear v v' w 0 && (vNear v v' w 1 && (vNear v v' w 2 && vNear v v' w 3))
def vMet (V : Nat → xP) (w : Int32) (k i : Nat) : Bool := decide (i ≠ k) && (vSt V 1 i && vNears (V i) (V k) w)
def vCmp (v v' : xP) : Int32 := if icmp (vpt v 0) (vpt v' 0) ≠ 0 then icmp (vpt v 0) (vpt v' 0) else if icmp (vpt v 1) (vpt v' 1) ≠ 0 then icmp (vpt v 1) (vpt v' 1) else if icmp (vpt v 2) (vpt v' 2) ≠ 0 then icmp (vpt v 2) (vpt v' 2) else icmp (vpt v 3) (vpt v' 3)
def vAhd (V : Nat → xP) (i k : Nat) : Bool := decide (vCmp (V i) (V k) < 0) || (decide (vCmp (V i) (V k) = 0) && decide (i < k))
def vBef (V : Nat → xP) (k i : Nat) : Bool := decide (i ≠ k) && (vSt V 1 i && vAhd V i k)
def vReal (v : xP) (w : Int32) : Bool := decide (iabs (vpt v 1) ≤ w) && decide (iabs (vpt v 3) ≤ w)
def vBeh (v v' : xP) : Bool := if v.1 3 = v'.1 3 then decide (v.1 4 < v'.1 4) else decide (v.1 3 < v'.1 3)
def vMb (V : Nat → xP) : Nat → Option Nat
  | 0 => none
  | k + 1 => if vSt V 0 k && (match vMb V k with | none => true | some f => vBeh (V k) (V f)) then some k else vMb V k
theorem vMb_lt (V : Nat → xP) : ∀ (k i : Nat), vMb V k = some i → i < k
  | 0, i, h => by cases h
  | k + 1, i, h => by
    simp only [vMb] at h
    generalize (vSt V 0 k && (match vMb V k with | none => true | some f => vBeh (V k) (V f))) = bb at h
    cases bb with
    | true => simp at h; omega
    | false => simp at h; have := vMb_lt V k i h; omega
theorem mV_st (I : xI) (A : Nat) (x : Int32) (i : Nat) : vSt (mV I A) x i = decide (I (A + 1) (50 + 12 * i + 5) = x) := rfl
theorem abL_labs (x : Int64) : abL x = labs x := abL_eq x
theorem i32_b (x : Int32) : -2147483648 ≤ x.toInt ∧ x.toInt < 2147483648 := ⟨Int32.le_toInt x, Int32.toInt_lt x⟩
theorem i64_sub {a b : Int64} (h1 : -9223372036854775808 ≤ a.toInt - b.toInt) (h2 : a.toInt - b.toInt < 9223372036854775808) : (a - b).toInt = a.toInt - b.toInt := by
  rw [Int64.toInt_sub, Int.bmod_eq_of_le (by omega) (by omega)]
theorem i64_neg {a : Int64} (h : -9223372036854775808 < a.toInt) : (-a).toInt = -a.toInt := by
  have h2 := Int64.toInt_lt a
  rw [Int64.toInt_neg, Int.bmod_eq_of_le (by omega) (by omega)]
theorem labs_comm (x y : Int32) : labs (x.toInt64 - y.toInt64) = labs (y.toInt64 - x.toInt64) := by
  have h1 := i32_b x
  have h2 := i32_b y
  have e1 : (x.toInt64 - y.toInt64).toInt = x.toInt - y.toInt := by rw [i64_sub (by rw [Int32.toInt_toInt64, Int32.toInt_toInt64]; omega) (by rw [Int32.toInt_toInt64, Int32.toInt_toInt64]; omega), Int32.toInt_toInt64, Int32.toInt_toInt64]
  have e2 : (y.toInt64 - x.toInt64).toInt = y.toInt - x.toInt := by rw [i64_sub (by rw [Int32.toInt_toInt64, Int32.toInt_toInt64]; omega) (by rw [Int32.toInt_toInt64, Int32.toInt_toInt64]; omega), Int32.toInt_toInt64, Int32.toInt_toInt64]
  have e0 : (0 : Int64).toInt = 0 := by decide
  apply Int64.toInt_inj.mp
  unfold labs
  split <;> split <;> rename_i a b <;> rw [Int64.lt_iff_toInt_lt, e0] at a b <;> first | (rw [i64_neg (by omega)]; omega) | omega | (rw [i64_neg (by omega), i64_neg (by omega)]; omega)
theorem vNear_comm (v v' : xP) (w : Int32) (j : Nat) : vNear v v' w j = vNear v' v w j := by unfold vNear; rw [labs_comm]
theorem tdu_in {t u : Int} (hu : u = 1024 ∨ u = 262144) (h1 : -2147483648000 ≤ t) (h2 : t ≤ 2147483648000) : -2147483647 ≤ t.tdiv u ∧ t.tdiv u ≤ 2147483647 := by
  by_cases h : 0 ≤ t
  · rcases hu with rfl | rfl <;> rw [Int.tdiv_eq_ediv_of_nonneg h] <;> omega
  · have e : t = -(-t) := by omega
    rcases hu with rfl | rfl <;> rw [e, Int.neg_tdiv, Int.tdiv_eq_ediv_of_nonneg (by omega)] <;> omega
theorem vpt_gt (f : Nat → Int32) (c j : Nat) : -2147483648 < (vpt (mvO f c) j).toInt := by
  have hv : ∃ x : Int32, vval (mvO f c) j = x.toInt64 := by
    unfold vval
    split
    · exact ⟨_, rfl⟩
    · split
      · exact ⟨_, rfl⟩
      · split
        · exact ⟨_, rfl⟩
        · exact ⟨_, rfl⟩
  obtain ⟨x, hx⟩ := hv
  have hb := i32_b x
  have e1000 : (1000 : Int64).toInt = 1000 := by decide
  unfold vpt cthou
  rw [if_neg (punit_nz _), hx]
  have hm : (x.toInt64 * 1000).toInt = x.toInt * 1000 := by rw [i64_mul (by rw [Int32.toInt_toInt64, e1000]; omega) (by rw [Int32.toInt_toInt64, e1000]; omega), Int32.toInt_toInt64, e1000]
  have hu : (punit ((mvO f c).1 6)).toInt = 1024 ∨ (punit ((mvO f c).1 6)).toInt = 262144 := by
    unfold punit
    split
    · right; decide
    · left; decide
  have ht := tdu_in hu (t := (x.toInt64 * 1000).toInt) (by rw [hm]; omega) (by rw [hm]; omega)
  have hd : (x.toInt64 * 1000 / punit ((mvO f c).1 6)).toInt = (x.toInt64 * 1000).toInt.tdiv (punit ((mvO f c).1 6)).toInt := by
    rw [Int64.toInt_div, Int.bmod_eq_of_le (by omega) (by omega)]
  rw [Int64.toInt_toInt32, hd, Int.bmod_eq_of_le (by omega) (by omega)]; omega
theorem iabs_le {x w : Int32} (h : -2147483648 < x.toInt) : iabs x ≤ w ↔ abL x.toInt64 ≤ w.toInt64 := by
  have hb := i32_b x
  have e0 : (0 : Int64).toInt = 0 := by decide
  have e0' : (0 : Int32).toInt = 0 := by decide
  rw [Int64.le_iff_toInt_le, Int32.le_iff_toInt_le, Int32.toInt_toInt64]
  unfold iabs abL
  by_cases h1 : 0 ≤ x
  · have h2 : ¬ x.toInt64 < 0 := by rw [Int64.lt_iff_toInt_lt, Int32.toInt_toInt64, e0]; rw [Int32.le_iff_toInt_le, e0'] at h1; omega
    rw [if_pos h1, if_neg h2, Int32.toInt_toInt64]
  · have h2 : x.toInt64 < 0 := by rw [Int64.lt_iff_toInt_lt, Int32.toInt_toInt64, e0]; rw [Int32.le_iff_toInt_le, e0'] at h1; omega
    rw [Int32.le_iff_toInt_le, e0'] at h1
    rw [if_neg (by rw [Int32.le_iff_toInt_le, e0']; exact h1), if_pos h2, i64_neg (by rw [Int32.toInt_toInt64]; omega), Int32.toInt_toInt64, Int32.toInt_sub, e0', Int.bmod_eq_of_le (by omega) (by omega)]
    omega
theorem findN_first {p : Nat → Bool} : ∀ (k m : Nat), findN p k = some m → p m = true
  | 0, m, h => by cases h
  | k + 1, m, h => by
    simp only [findN] at h
    cases hk : findN p k with
    | some j => rw [hk] at h; cases h; exact findN_first k m hk
    | none =>
      rw [hk] at h
      by_cases hp : p k = true
      · simp only [hp, if_true] at h; cases h; exact hp
      · simp only [hp] at h; cases h
theorem findN_lo {p : Nat → Bool} : ∀ (k : Nat), findN p k = none → ∀ i, i < k → p i = false
  | 0, _, i, hi => absurd hi (by omega)
  | k + 1, h, i, hi => by
    simp only [findN] at h
    cases hk : findN p k with
    | some j => rw [hk] at h; cases h
    | none =>
      rw [hk] at h
      by_cases hp : p k = true
      · simp only [hp, if_true] at h; cases h
      · by_cases hik : i = k
        · subst hik; exact Bool.not_eq_true _ ▸ hp
        · exact findN_lo k hk i (by omega)
/-- what distinct asks: the first over all paths is none, or above k -/
theorem met_iff {p : Nat → Bool} {k U : Nat} (hk : k < U) (hU : U ≤ 9) (hp : p k = false) : (findN p k).isNone = true ↔ (oI (findN p U) < 0 ∨ nI k < oI (findN p U)) := by
  constructor
  · intro h
    have h0 : findN p k = none := Option.isNone_iff_eq_none.mp h
    cases hm : findN p U with
    | none => exact Or.inl (by decide)
    | some m =>
      have h1 := findN_first U m hm
      have h2 := findN_lt p U m hm
      have h3 := findN_lo k h0
      right
      show nI k < nI m
      refine nI_lt ?_ (by omega)
      by_cases hmk : m < k
      · rw [h3 m hmk] at h1; cases h1
      · by_cases he : m = k
        · rw [he, hp] at h1; cases h1
        · omega
  · intro h
    cases h0 : findN p k with
    | none => rfl
    | some m =>
      have h1 := findN_keep h0 U (by omega)
      have h2 := findN_lt p k m h0
      rw [h1] at h
      rcases h with h | h
      · exact absurd h (nI_pos (by omega))
      · exact absurd h (nI_nlt (by omega) (by omega))
theorem siz_nn {c : xC} (h : hC c = c) : 0 ≤ (sizC c).toInt := by
  have h1 := held_in (hC_1 h).1
  have h2 := held_in (hC_1 h).2
  have e0 : (0 : Int64).toInt = 0 := by decide
  show 0 ≤ (csize c.1 c.2).toInt
  unfold csize
  have n1 : (-c.1).toInt = -c.1.toInt := i64_neg (by omega)
  have n2 : (-c.2).toInt = -c.2.toInt := i64_neg (by omega)
  have k1 : 0 ≤ (if 0 < c.1 then c.1 else -c.1).toInt := by
    split <;> rename_i a <;> rw [Int64.lt_iff_toInt_lt, e0] at a <;> omega
  have k2 : 0 ≤ (if 0 < c.2 then c.2 else -c.2).toInt := by
    split <;> rename_i a <;> rw [Int64.lt_iff_toInt_lt, e0] at a <;> omega
  have hg : ∀ a b : Int64, 0 ≤ a.toInt → 0 ≤ b.toInt → 0 ≤ (if b < a then a else b).toInt := by
    intro a b ha hb
    split
    · exact ha
    · exact hb
  exact hg _ _ k1 k2
theorem lmax_of {a b : Int64} (hb : 0 ≤ b.toInt) (ha : 0 ≤ a.toInt) (m : Int64) (hm : m = if b ≤ (if a ≤ 0 then 0 else a) then (if a ≤ 0 then 0 else a) else b) : m = lmax a b := by
  have e0 : (0 : Int64).toInt = 0 := by decide
  have ez : (if a ≤ 0 then (0 : Int64) else a) = a := by
    split
    · rename_i h; rw [Int64.le_iff_toInt_le, e0] at h; apply Int64.toInt_inj.mp; omega
    · rfl
  rw [hm, ez]
  unfold lmax
  by_cases h : b ≤ a
  · rw [if_pos h]
    by_cases h2 : b < a
    · rw [if_pos h2]
    · rw [if_neg h2]; rw [Int64.lt_iff_toInt_lt] at h2; rw [Int64.le_iff_toInt_le] at h; apply Int64.toInt_inj.mp; omega
  · rw [if_neg h, if_neg (fun h2 => h (Int64.le_of_lt h2))]
theorem dX12_residue_0 : decode cX12_residue 0 = .ok (.aload_n 0, 1) := by decide +kernel
theorem dX12_residue_1 : decode cX12_residue 1 = .ok (.iload_n 1, 1) := by decide +kernel
theorem dX12_residue_2 : decode cX12_residue 2 = .ok (.invokevirtual 172, 3) := by decide +kernel
theorem dX12_residue_5 : decode cX12_residue 5 = .ok (.aload_n 0, 1) := by decide +kernel
theorem dX12_residue_6 : decode cX12_residue 6 = .ok (.invokevirtual 123, 3) := by decide +kernel
theorem dX12_residue_9 : decode cX12_residue 9 = .ok (.lconst 0, 1) := by decide +kernel
theorem dX12_residue_10 : decode cX12_residue 10 = .ok (.lstore_n 2, 1) := by decide +kernel
theorem dX12_residue_11 : decode cX12_residue 11 = .ok (.iconst 0, 1) := by decide +kernel
theorem dX12_residue_12 : decode cX12_residue 12 = .ok (.istore 4, 2) := by decide +kernel
theorem dX12_residue_14 : decode cX12_residue 14 = .ok (.iload 4, 2) := by decide +kernel
theorem dX12_residue_16 : decode cX12_residue 16 = .ok (.iconst 2, 1) := by decide +kernel
theorem dX12_residue_17 : decode cX12_residue 17 = .ok (.if_icmp .ge 43, 3) := by decide +kernel
theorem dX12_residue_20 : decode cX12_residue 20 = .ok (.aload_n 0, 1) := by decide +kernel
theorem dX12_residue_21 : decode cX12_residue 21 = .ok (.iload 4, 2) := by decide +kernel
theorem dX12_residue_23 : decode cX12_residue 23 = .ok (.iconst 0, 1) := by decide +kernel
theorem dX12_residue_24 : decode cX12_residue 24 = .ok (.invokevirtual 116, 3) := by decide +kernel
theorem dX12_residue_27 : decode cX12_residue 27 = .ok (.aload_n 0, 1) := by decide +kernel
theorem dX12_residue_28 : decode cX12_residue 28 = .ok (.getfield 87, 3) := by decide +kernel
theorem dX12_residue_31 : decode cX12_residue 31 = .ok (.aload_n 0, 1) := by decide +kernel
theorem dX12_residue_32 : decode cX12_residue 32 = .ok (.getfield 90, 3) := by decide +kernel
theorem dX12_residue_35 : decode cX12_residue 35 = .ok (.invokestatic 166, 3) := by decide +kernel
theorem dX12_residue_38 : decode cX12_residue 38 = .ok (.lstore 5, 2) := by decide +kernel
theorem dX12_residue_40 : decode cX12_residue 40 = .ok (.lload 5, 2) := by decide +kernel
theorem dX12_residue_42 : decode cX12_residue 42 = .ok (.lload_n 2, 1) := by decide +kernel
theorem dX12_residue_43 : decode cX12_residue 43 = .ok (.lcmp, 1) := by decide +kernel
theorem dX12_residue_44 : decode cX12_residue 44 = .ok (.ifCond .le 8, 3) := by decide +kernel
theorem dX12_residue_47 : decode cX12_residue 47 = .ok (.lload 5, 2) := by decide +kernel
theorem dX12_residue_49 : decode cX12_residue 49 = .ok (.goto 4, 3) := by decide +kernel
theorem dX12_residue_52 : decode cX12_residue 52 = .ok (.lload_n 2, 1) := by decide +kernel
theorem dX12_residue_53 : decode cX12_residue 53 = .ok (.lstore_n 2, 1) := by decide +kernel
theorem dX12_residue_54 : decode cX12_residue 54 = .ok (.iinc 4 1, 3) := by decide +kernel
theorem dX12_residue_57 : decode cX12_residue 57 = .ok (.goto (-43), 3) := by decide +kernel
theorem dX12_residue_60 : decode cX12_residue 60 = .ok (.ldc2_w 210, 3) := by decide +kernel
theorem dX12_residue_63 : decode cX12_residue 63 = .ok (.lload_n 2, 1) := by decide +kernel
theorem dX12_residue_64 : decode cX12_residue 64 = .ok (.lmul, 1) := by decide +kernel
theorem dX12_residue_65 : decode cX12_residue 65 = .ok (.aload_n 0, 1) := by decide +kernel
theorem dX12_residue_66 : decode cX12_residue 66 = .ok (.getfield 28, 3) := by decide +kernel
theorem dX12_residue_69 : decode cX12_residue 69 = .ok (.ldiv, 1) := by decide +kernel
theorem dX12_residue_70 : decode cX12_residue 70 = .ok (.l2i, 1) := by decide +kernel
theorem dX12_residue_71 : decode cX12_residue 71 = .ok (.ireturn, 1) := by decide +kernel
set_option maxHeartbeats 1000000 in
set_option maxRecDepth 100000 in
theorem t_X12_residue (l : Launch) (D : xD) (z n : Nat) (G : xG) (I : xI) (L : xL) (A : Nat) (k : Nat) (Y : xSy) (hM : shMo G A) (zA : z ≤ A) (hk : k < 9) (hpr : I (A + 1) (50 + 12 * k + 3) = 10 ∨ I (A + 1) (50 + 12 * k + 3) = 18) (hxp : hC (mvO (I (A + 1)) (50 + 12 * k)).2.1 = (mvO (I (A + 1)) (50 + 12 * k)).2.1) (hyp : hC (mvO (I (A + 1)) (50 + 12 * k)).2.2 = (mvO (I (A + 1)) (50 + 12 * k)).2.2) (hY : cofY I A Y) : xM0 l D z yX12_residue cX12_residue 7 (some .int) 5 130 [.ref A, .int (nI k)] n G I L (fun v' I' L' => v' = (some (.int (cthou (lmax (sizC (syE0 Y evV (mvO (I (A + 1)) (50 + 12 * k)).2.1 (mvO (I (A + 1)) (50 + 12 * k)).2.2 (punit (I (A + 1) (50 + 12 * k + 3))))) (sizC (syE1 Y evV (mvO (I (A + 1)) (50 + 12 * k)).2.1 (mvO (I (A + 1)) (50 + 12 * k)).2.2 (punit (I (A + 1) (50 + 12 * k + 3)))))) (punit (I (A + 1) (50 + 12 * k + 3)))))) ∧ I' = I ∧ (∀ q, (q < A ∨ A + 14 ≤ q) → L' q = L q)) := by
  refine xM.of (by decide) (Nat.le_of_ble_eq_true rfl) (fun p e s m args below meth c C hnm hsz => ?_)
  refine x_lv [(0, .ref A), (1, .int (nI k))] rfl ?_
  refine x_aload_n 0 C dX12_residue_0 rfl 0 rfl ?_
  refine x_iload_n 1 C dX12_residue_1 rfl 1 rfl ?_
  refine x_callVp 2 C dX12_residue_2 (As := [.int (nI k)]) (rest := []) (t_X12_takes l D z n G I L A k hM (by omega) (by first | omega | assumption | decide) (by first | omega | assumption | decide)) mt_X12_takes km_X12_172 ki_X12_takes ks_X12_takes hM.1 ⟨by decide, rfl⟩ rfl (Nat.le_of_ble_eq_true rfl) ⟨⟨by decide, by decide⟩, by decide, by decide⟩ (fun w1 I2 L3 hw1 => ?_)
  obtain ⟨hw1v, eI2, hw1r0, hw1r1, hw1r2, hw1r3⟩ := hw1
  subst hw1v
  refine x_st [] rfl ?_
  replace eI2 := eI2.symm; subst eI2
  refine x_aload_n 5 C dX12_residue_5 rfl 0 rfl ?_
  refine x_callVp 6 C dX12_residue_6 (As := []) (rest := []) (t_X12_layPoint l D z n G I L3 A (punit (I (A + 1) (50 + 12 * k + 3))) hM (by omega) hw1r0 (punit_nz _)) mt_X12_layPoint km_X12_123 ki_X12_layPoint ks_X12_layPoint hM.1 ⟨by decide, rfl⟩ rfl (Nat.le_of_ble_eq_true rfl) ⟨⟨by decide, by decide⟩, by decide, by decide⟩ (fun w4 I5 L6 hw4 => ?_)
  obtain ⟨hw4v, eI5, hw4r0, hw4r1, hw4r2, hw4r3⟩ := hw4
  subst hw4v
  refine x_st [] rfl ?_
  replace eI5 := eI5.symm; subst eI5
  have hpx : powAt L6 A 0 (punit (I (A + 1) (50 + 12 * k + 3))) (mvO (I (A + 1)) (50 + 12 * k)).2.1 := by have h := hw4r0; rw [show (_, _) = _ from hw1r1] at h; exact h
  have hpy : powAt L6 A 8 (punit (I (A + 1) (50 + 12 * k + 3))) (mvO (I (A + 1)) (50 + 12 * k)).2.2 := by have h := hw4r1; rw [show (_, _) = _ from hw1r2] at h; exact h
  have hu5 : L6 A 9 = (punit (I (A + 1) (50 + 12 * k + 3))) := by rw [hw4r3 9 (by decide) (by decide)]; exact hw1r0
  refine x_lconst 9 C (v := 0) dX12_residue_9 rfl ?_
  refine x_lstore_n 10 C [(2, .long 0), (0, .ref A), (1, .int (nI k))] dX12_residue_10 rfl (by decide) rfl ?_
  refine x_iconst 11 C (v := 0) dX12_residue_11 rfl ?_
  refine x_istore 12 C [(4, .int 0), (2, .long 0), (0, .ref A), (1, .int (nI k))] dX12_residue_12 (by decide) rfl ?_
  refine x_iload 14 C dX12_residue_14 0 rfl ?_
  refine x_iconst 16 C (v := 2) dX12_residue_16 rfl ?_
  refine x_icmp_ge 17 C 60 dX12_residue_17 (by decide) (fun c7 => absurd c7 (by decide)) (fun _ => ?_)
  refine x_aload_n 20 C dX12_residue_20 rfl 2 rfl ?_
  refine x_iload 21 C dX12_residue_21 0 rfl ?_
  refine x_iconst 23 C (v := 0) dX12_residue_23 rfl ?_
  refine x_callVe 24 C dX12_residue_24 (As := [.int 0, .int 0]) (rest := []) [] (t_X12_worth_a l D z n G I L6 A 0 (mYF Y 0) (mYG Y 0) ((mvO (I (A + 1)) (50 + 12 * k)).2.1) ((mvO (I (A + 1)) (50 + 12 * k)).2.2) (punit (I (A + 1) (50 + 12 * k + 3))) 0 hM (by omega) (hY.1 0 (by omega)).1 (hY.1 0 (by omega)).2.1 (hY.1 0 (by omega)).2.2 hpx hpy hxp hyp (by exact hu5) (punit_nz _) (by decide)) mt_X12_worth km_X12_116 ki_X12_worth ks_X12_worth hM.1 ⟨by decide, rfl⟩ rfl rfl (Nat.le_of_ble_eq_true rfl) ⟨⟨by decide, by decide⟩, by decide, by decide⟩ (fun I8 L9 eI8 eL9 => ?_)
  replace eI8 := eI8.symm; subst eI8
  refine x_aload_n 27 C dX12_residue_27 rfl 2 rfl ?_
  refine x_getl 28 C dX12_residue_28 ff_X12_87 hM.1 ?_
  refine x_long ((syE0 Y evV (mvO (I (A + 1)) (50 + 12 * k)).2.1 (mvO (I (A + 1)) (50 + 12 * k)).2.2 (punit (I (A + 1) (50 + 12 * k + 3)))).1) (by rw [eL9, mwC_7]; rfl) ?_
  refine x_aload_n 31 C dX12_residue_31 rfl 2 rfl ?_
  refine x_getl 32 C dX12_residue_32 ff_X12_90 hM.1 ?_
  refine x_long ((syE0 Y evV (mvO (I (A + 1)) (50 + 12 * k)).2.1 (mvO (I (A + 1)) (50 + 12 * k)).2.2 (punit (I (A + 1) (50 + 12 * k + 3)))).2) (by rw [eL9, mwC_8]; rfl) ?_
  refine x_callSe 35 C dX12_residue_35 (As := [.long ((syE0 Y evV (mvO (I (A + 1)) (50 + 12 * k)).2.1 (mvO (I (A + 1)) (50 + 12 * k)).2.2 (punit (I (A + 1) (50 + 12 * k + 3)))).1), .long ((syE0 Y evV (mvO (I (A + 1)) (50 + 12 * k)).2.1 (mvO (I (A + 1)) (50 + 12 * k)).2.2 (punit (I (A + 1) (50 + 12 * k + 3)))).2)]) (rest := []) [.long (sizC (((syE0 Y evV (mvO (I (A + 1)) (50 + 12 * k)).2.1 (mvO (I (A + 1)) (50 + 12 * k)).2.2 (punit (I (A + 1) (50 + 12 * k + 3)))).1), ((syE0 Y evV (mvO (I (A + 1)) (50 + 12 * k)).2.1 (mvO (I (A + 1)) (50 + 12 * k)).2.2 (punit (I (A + 1) (50 + 12 * k + 3)))).2)))] (t_X12_size l D z n G I L9 ((syE0 Y evV (mvO (I (A + 1)) (50 + 12 * k)).2.1 (mvO (I (A + 1)) (50 + 12 * k)).2.2 (punit (I (A + 1) (50 + 12 * k + 3)))).1) ((syE0 Y evV (mvO (I (A + 1)) (50 + 12 * k)).2.1 (mvO (I (A + 1)) (50 + 12 * k)).2.2 (punit (I (A + 1) (50 + 12 * k + 3)))).2) ) mt_X12_size km_X12_166 kt_X12_size rfl rfl (Nat.le_of_ble_eq_true rfl) ⟨⟨by decide, by decide⟩, by decide, by decide⟩ (fun I10 L11 eI10 eL11 => ?_)
  replace eI10 := eI10.symm; subst eI10
  replace eL11 := eL11.symm; subst eL11
  refine x_long (sizC (syE0 Y evV (mvO (I (A + 1)) (50 + 12 * k)).2.1 (mvO (I (A + 1)) (50 + 12 * k)).2.2 (punit (I (A + 1) (50 + 12 * k + 3))))) rfl ?_
  refine x_lstore 38 C [(5, .long (sizC (syE0 Y evV (mvO (I (A + 1)) (50 + 12 * k)).2.1 (mvO (I (A + 1)) (50 + 12 * k)).2.2 (punit (I (A + 1) (50 + 12 * k + 3)))))), (4, .int 0), (2, .long 0), (0, .ref A), (1, .int (nI k))] dX12_residue_38 (by decide) rfl ?_
  refine x_lload 40 C dX12_residue_40 0 rfl ?_
  refine x_lload_n 42 C dX12_residue_42 rfl 2 rfl ?_
  refine x_lc_le 43 C 52 dX12_residue_43 dX12_residue_44 (by decide) (fun c12 => ?_) (fun c12 => ?_)
  · skip
    have c12o := Int64.not_lt.mpr c12
    refine x_lload_n 52 C dX12_residue_52 rfl 2 rfl ?_
    refine x_lstore_n 53 C [(2, .long 0), (5, .long (sizC (syE0 Y evV (mvO (I (A + 1)) (50 + 12 * k)).2.1 (mvO (I (A + 1)) (50 + 12 * k)).2.2 (punit (I (A + 1) (50 + 12 * k + 3)))))), (4, .int 0), (0, .ref A), (1, .int (nI k))] dX12_residue_53 rfl (by decide) rfl ?_
    refine x_iinc 54 C [(4, .int 1), (2, .long 0), (5, .long (sizC (syE0 Y evV (mvO (I (A + 1)) (50 + 12 * k)).2.1 (mvO (I (A + 1)) (50 + 12 * k)).2.2 (punit (I (A + 1) (50 + 12 * k + 3)))))), (0, .ref A), (1, .int (nI k))] dX12_residue_54 2 rfl (by decide) (by decide) rfl ?_
    refine x_goto 57 C 14 dX12_residue_57 (by decide) ?_
    refine x_iload 14 C dX12_residue_14 0 rfl ?_
    refine x_iconst 16 C (v := 2) dX12_residue_16 rfl ?_
    refine x_icmp_ge 17 C 60 dX12_residue_17 (by decide) (fun c13 => absurd c13 (by decide)) (fun _ => ?_)
    refine x_aload_n 20 C dX12_residue_20 rfl 3 rfl ?_
    refine x_iload 21 C dX12_residue_21 0 rfl ?_
    refine x_iconst 23 C (v := 0) dX12_residue_23 rfl ?_
    refine x_callVe 24 C dX12_residue_24 (As := [.int 1, .int 0]) (rest := []) [] (t_X12_worth_a l D z n G I L9 A 1 (mYF Y 1) (mYG Y 1) ((mvO (I (A + 1)) (50 + 12 * k)).2.1) ((mvO (I (A + 1)) (50 + 12 * k)).2.2) (punit (I (A + 1) (50 + 12 * k + 3))) 0 hM (by omega) (hY.1 1 (by omega)).1 (hY.1 1 (by omega)).2.1 (hY.1 1 (by omega)).2.2 (powAt_congr (fun j _ _ => by rw [eL9, mwC_row _ _ (by omega)]) hpx) (powAt_congr (fun j _ _ => by rw [eL9, mwC_row _ _ (by omega)]) hpy) hxp hyp (by rw [eL9, mwC_ne _ _ (by decide) (by decide)]; exact hu5) (punit_nz _) (by decide)) mt_X12_worth km_X12_116 ki_X12_worth ks_X12_worth hM.1 ⟨by decide, rfl⟩ rfl rfl (Nat.le_of_ble_eq_true rfl) ⟨⟨by decide, by decide⟩, by decide, by decide⟩ (fun I14 L15 eI14 eL15 => ?_)
    replace eI14 := eI14.symm; subst eI14
    refine x_aload_n 27 C dX12_residue_27 rfl 3 rfl ?_
    refine x_getl 28 C dX12_residue_28 ff_X12_87 hM.1 ?_
    refine x_long ((syE1 Y evV (mvO (I (A + 1)) (50 + 12 * k)).2.1 (mvO (I (A + 1)) (50 + 12 * k)).2.2 (punit (I (A + 1) (50 + 12 * k + 3)))).1) (by rw [eL15, mwC_7]; rfl) ?_
    refine x_aload_n 31 C dX12_residue_31 rfl 3 rfl ?_
    refine x_getl 32 C dX12_residue_32 ff_X12_90 hM.1 ?_
    refine x_long ((syE1 Y evV (mvO (I (A + 1)) (50 + 12 * k)).2.1 (mvO (I (A + 1)) (50 + 12 * k)).2.2 (punit (I (A + 1) (50 + 12 * k + 3)))).2) (by rw [eL15, mwC_8]; rfl) ?_
    refine x_callSe 35 C dX12_residue_35 (As := [.long ((syE1 Y evV (mvO (I (A + 1)) (50 + 12 * k)).2.1 (mvO (I (A + 1)) (50 + 12 * k)).2.2 (punit (I (A + 1) (50 + 12 * k + 3)))).1), .long ((syE1 Y evV (mvO (I (A + 1)) (50 + 12 * k)).2.1 (mvO (I (A + 1)) (50 + 12 * k)).2.2 (punit (I (A + 1) (50 + 12 * k + 3)))).2)]) (rest := []) [.long (sizC (((syE1 Y evV (mvO (I (A + 1)) (50 + 12 * k)).2.1 (mvO (I (A + 1)) (50 + 12 * k)).2.2 (punit (I (A + 1) (50 + 12 * k + 3)))).1), ((syE1 Y evV (mvO (I (A + 1)) (50 + 12 * k)).2.1 (mvO (I (A + 1)) (50 + 12 * k)).2.2 (punit (I (A + 1) (50 + 12 * k + 3)))).2)))] (t_X12_size l D z n G I L15 ((syE1 Y evV (mvO (I (A + 1)) (50 + 12 * k)).2.1 (mvO (I (A + 1)) (50 + 12 * k)).2.2 (punit (I (A + 1) (50 + 12 * k + 3)))).1) ((syE1 Y evV (mvO (I (A + 1)) (50 + 12 * k)).2.1 (mvO (I (A + 1)) (50 + 12 * k)).2.2 (punit (I (A + 1) (50 + 12 * k + 3)))).2) ) mt_X12_size km_X12_166 kt_X12_size rfl rfl (Nat.le_of_ble_eq_true rfl) ⟨⟨by decide, by decide⟩, by decide, by decide⟩ (fun I16 L17 eI16 eL17 => ?_)
    replace eI16 := eI16.symm; subst eI16
    replace eL17 := eL17.symm; subst eL17
    refine x_long (sizC (syE1 Y evV (mvO (I (A + 1)) (50 + 12 * k)).2.1 (mvO (I (A + 1)) (50 + 12 * k)).2.2 (punit (I (A + 1) (50 + 12 * k + 3))))) rfl ?_
    refine x_lstore 38 C [(5, .long (sizC (syE1 Y evV (mvO (I (A + 1)) (50 + 12 * k)).2.1 (mvO (I (A + 1)) (50 + 12 * k)).2.2 (punit (I (A + 1) (50 + 12 * k + 3)))))), (4, .int 1), (2, .long 0), (0, .ref A), (1, .int (nI k))] dX12_residue_38 (by decide) rfl ?_
    refine x_lload 40 C dX12_residue_40 0 rfl ?_
    refine x_lload_n 42 C dX12_residue_42 rfl 2 rfl ?_
    refine x_lc_le 43 C 52 dX12_residue_43 dX12_residue_44 (by decide) (fun c18 => ?_) (fun c18 => ?_)
    · skip
      have c18o := Int64.not_lt.mpr c18
      refine x_lload_n 52 C dX12_residue_52 rfl 2 rfl ?_
      refine x_lstore_n 53 C [(2, .long 0), (5, .long (sizC (syE1 Y evV (mvO (I (A + 1)) (50 + 12 * k)).2.1 (mvO (I (A + 1)) (50 + 12 * k)).2.2 (punit (I (A + 1) (50 + 12 * k + 3)))))), (4, .int 1), (0, .ref A), (1, .int (nI k))] dX12_residue_53 rfl (by decide) rfl ?_
      refine x_iinc 54 C [(4, .int 2), (2, .long 0), (5, .long (sizC (syE1 Y evV (mvO (I (A + 1)) (50 + 12 * k)).2.1 (mvO (I (A + 1)) (50 + 12 * k)).2.2 (punit (I (A + 1) (50 + 12 * k + 3)))))), (0, .ref A), (1, .int (nI k))] dX12_residue_54 2 rfl (by decide) (by decide) rfl ?_
      refine x_goto 57 C 14 dX12_residue_57 (by decide) ?_
      refine x_iload 14 C dX12_residue_14 0 rfl ?_
      refine x_iconst 16 C (v := 2) dX12_residue_16 rfl ?_
      refine x_icmp_ge 17 C 60 dX12_residue_17 (by decide) (fun _ => ?_) (fun c19 => absurd (by decide) c19)
      refine x_ldc2 60 C 1000 dX12_residue_60 kk_X12_210 ?_
      refine x_lload_n 63 C dX12_residue_63 rfl 1 rfl ?_
      refine x_lmul 64 C dX12_residue_64 ?_
      refine x_aload_n 65 C dX12_residue_65 rfl 3 rfl ?_
      refine x_getl 66 C dX12_residue_66 ff_X12_28 hM.1 ?_
      refine x_long (punit (I (A + 1) (50 + 12 * k + 3))) (by rw [eL15, mwC_ne _ _ (by decide) (by decide), eL9, mwC_ne _ _ (by decide) (by decide)]; exact hu5) ?_
      refine x_ldiv 69 C dX12_residue_69 (punit_nz _) ?_
      refine x_l2i 70 C dX12_residue_70 ?_
      refine x_iret 71 C dX12_residue_71 rfl rfl (Nat.le_refl _) (xN.intro ?_)
      have hmx : (0 : Int64) = lmax (sizC (syE0 Y evV (mvO (I (A + 1)) (50 + 12 * k)).2.1 (mvO (I (A + 1)) (50 + 12 * k)).2.2 (punit (I (A + 1) (50 + 12 * k + 3))))) (sizC (syE1 Y evV (mvO (I (A + 1)) (50 + 12 * k)).2.1 (mvO (I (A + 1)) (50 + 12 * k)).2.2 (punit (I (A + 1) (50 + 12 * k + 3))))) := by
        refine lmax_of (a := sizC (syE0 Y evV (mvO (I (A + 1)) (50 + 12 * k)).2.1 (mvO (I (A + 1)) (50 + 12 * k)).2.2 (punit (I (A + 1) (50 + 12 * k + 3))))) (b := sizC (syE1 Y evV (mvO (I (A + 1)) (50 + 12 * k)).2.1 (mvO (I (A + 1)) (50 + 12 * k)).2.2 (punit (I (A + 1) (50 + 12 * k + 3))))) (siz_nn (evV_held _ _ _ _)) (siz_nn (evV_held _ _ _ _)) _ ?_
        rw [if_pos c12, if_pos c18]
      refine ⟨congrArg (fun x => some (Value.int x)) ((cthou_of (punit_nz _)).trans (congrArg (fun q => cthou q (punit (I (A + 1) (50 + 12 * k + 3)))) hmx)), rfl, fun q hq => by rw [eL15, mwC_row _ _ (by omega), eL9, mwC_row _ _ (by omega), hw4r2 q (by omega) (by omega)]; exact hw1r3 q (by omega) (by omega)⟩
    · skip
      have c18o := Int64.not_le.mp c18
      refine x_lload 47 C dX12_residue_47 0 rfl ?_
      refine x_goto 49 C 53 dX12_residue_49 (by decide) ?_
      refine x_lstore_n 53 C [(2, .long (sizC (syE1 Y evV (mvO (I (A + 1)) (50 + 12 * k)).2.1 (mvO (I (A + 1)) (50 + 12 * k)).2.2 (punit (I (A + 1) (50 + 12 * k + 3)))))), (5, .long (sizC (syE1 Y evV (mvO (I (A + 1)) (50 + 12 * k)).2.1 (mvO (I (A + 1)) (50 + 12 * k)).2.2 (punit (I (A + 1) (50 + 12 * k + 3)))))), (4, .int 1), (0, .ref A), (1, .int (nI k))] dX12_residue_53 rfl (by decide) rfl ?_
      refine x_iinc 54 C [(4, .int 2), (2, .long (sizC (syE1 Y evV (mvO (I (A + 1)) (50 + 12 * k)).2.1 (mvO (I (A + 1)) (50 + 12 * k)).2.2 (punit (I (A + 1) (50 + 12 * k + 3)))))), (5, .long (sizC (syE1 Y evV (mvO (I (A + 1)) (50 + 12 * k)).2.1 (mvO (I (A + 1)) (50 + 12 * k)).2.2 (punit (I (A + 1) (50 + 12 * k + 3)))))), (0, .ref A), (1, .int (nI k))] dX12_residue_54 2 rfl (by decide) (by decide) rfl ?_
      refine x_goto 57 C 14 dX12_residue_57 (by decide) ?_
      refine x_iload 14 C dX12_residue_14 0 rfl ?_
      refine x_iconst 16 C (v := 2) dX12_residue_16 rfl ?_
      refine x_icmp_ge 17 C 60 dX12_residue_17 (by decide) (fun _ => ?_) (fun c20 => absurd (by decide) c20)
      refine x_ldc2 60 C 1000 dX12_residue_60 kk_X12_210 ?_
      refine x_lload_n 63 C dX12_residue_63 rfl 1 rfl ?_
      refine x_lmul 64 C dX12_residue_64 ?_
      refine x_aload_n 65 C dX12_residue_65 rfl 3 rfl ?_
      refine x_getl 66 C dX12_residue_66 ff_X12_28 hM.1 ?_
      refine x_long (punit (I (A + 1) (50 + 12 * k + 3))) (by rw [eL15, mwC_ne _ _ (by decide) (by decide), eL9, mwC_ne _ _ (by decide) (by decide)]; exact hu5) ?_
      refine x_ldiv 69 C dX12_residue_69 (punit_nz _) ?_
      refine x_l2i 70 C dX12_residue_70 ?_
      refine x_iret 71 C dX12_residue_71 rfl rfl (Nat.le_refl _) (xN.intro ?_)
      have hmx : (sizC (syE1 Y evV (mvO (I (A + 1)) (50 + 12 * k)).2.1 (mvO (I (A + 1)) (50 + 12 * k)).2.2 (punit (I (A + 1) (50 + 12 * k + 3)))) : Int64) = lmax (sizC (syE0 Y evV (mvO (I (A + 1)) (50 + 12 * k)).2.1 (mvO (I (A + 1)) (50 + 12 * k)).2.2 (punit (I (A + 1) (50 + 12 * k + 3))))) (sizC (syE1 Y evV (mvO (I (A + 1)) (50 + 12 * k)).2.1 (mvO (I (A + 1)) (50 + 12 * k)).2.2 (punit (I (A + 1) (50 + 12 * k + 3))))) := by
        refine lmax_of (a := sizC (syE0 Y evV (mvO (I (A + 1)) (50 + 12 * k)).2.1 (mvO (I (A + 1)) (50 + 12 * k)).2.2 (punit (I (A + 1) (50 + 12 * k + 3))))) (b := sizC (syE1 Y evV (mvO (I (A + 1)) (50 + 12 * k)).2.1 (mvO (I (A + 1)) (50 + 12 * k)).2.2 (punit (I (A + 1) (50 + 12 * k + 3))))) (siz_nn (evV_held _ _ _ _)) (siz_nn (evV_held _ _ _ _)) _ ?_
        rw [if_pos c12, if_neg c18]
      refine ⟨congrArg (fun x => some (Value.int x)) ((cthou_of (punit_nz _)).trans (congrArg (fun q => cthou q (punit (I (A + 1) (50 + 12 * k + 3)))) hmx)), rfl, fun q hq => by rw [eL15, mwC_row _ _ (by omega), eL9, mwC_row _ _ (by omega), hw4r2 q (by omega) (by omega)]; exact hw1r3 q (by omega) (by omega)⟩
  · skip
    have c12o := Int64.not_le.mp c12
    refine x_lload 47 C dX12_residue_47 0 rfl ?_
    refine x_goto 49 C 53 dX12_residue_49 (by decide) ?_
    refine x_lstore_n 53 C [(2, .long (sizC (syE0 Y evV (mvO (I (A + 1)) (50 + 12 * k)).2.1 (mvO (I (A + 1)) (50 + 12 * k)).2.2 (punit (I (A + 1) (50 + 12 * k + 3)))))), (5, .long (sizC (syE0 Y evV (mvO (I (A + 1)) (50 + 12 * k)).2.1 (mvO (I (A + 1)) (50 + 12 * k)).2.2 (punit (I (A + 1) (50 + 12 * k + 3)))))), (4, .int 0), (0, .ref A), (1, .int (nI k))] dX12_residue_53 rfl (by decide) rfl ?_
    refine x_iinc 54 C [(4, .int 1), (2, .long (sizC (syE0 Y evV (mvO (I (A + 1)) (50 + 12 * k)).2.1 (mvO (I (A + 1)) (50 + 12 * k)).2.2 (punit (I (A + 1) (50 + 12 * k + 3)))))), (5, .long (sizC (syE0 Y evV (mvO (I (A + 1)) (50 + 12 * k)).2.1 (mvO (I (A + 1)) (50 + 12 * k)).2.2 (punit (I (A + 1) (50 + 12 * k + 3)))))), (0, .ref A), (1, .int (nI k))] dX12_residue_54 2 rfl (by decide) (by decide) rfl ?_
    refine x_goto 57 C 14 dX12_residue_57 (by decide) ?_
    refine x_iload 14 C dX12_residue_14 0 rfl ?_
    refine x_iconst 16 C (v := 2) dX12_residue_16 rfl ?_
    refine x_icmp_ge 17 C 60 dX12_residue_17 (by decide) (fun c21 => absurd c21 (by decide)) (fun _ => ?_)
    refine x_aload_n 20 C dX12_residue_20 rfl 3 rfl ?_
    refine x_iload 21 C dX12_residue_21 0 rfl ?_
    refine x_iconst 23 C (v := 0) dX12_residue_23 rfl ?_
    refine x_callVe 24 C dX12_residue_24 (As := [.int 1, .int 0]) (rest := []) [] (t_X12_worth_a l D z n G I L9 A 1 (mYF Y 1) (mYG Y 1) ((mvO (I (A + 1)) (50 + 12 * k)).2.1) ((mvO (I (A + 1)) (50 + 12 * k)).2.2) (punit (I (A + 1) (50 + 12 * k + 3))) 0 hM (by omega) (hY.1 1 (by omega)).1 (hY.1 1 (by omega)).2.1 (hY.1 1 (by omega)).2.2 (powAt_congr (fun j _ _ => by rw [eL9, mwC_row _ _ (by omega)]) hpx) (powAt_congr (fun j _ _ => by rw [eL9, mwC_row _ _ (by omega)]) hpy) hxp hyp (by rw [eL9, mwC_ne _ _ (by decide) (by decide)]; exact hu5) (punit_nz _) (by decide)) mt_X12_worth km_X12_116 ki_X12_worth ks_X12_worth hM.1 ⟨by decide, rfl⟩ rfl rfl (Nat.le_of_ble_eq_true rfl) ⟨⟨by decide, by decide⟩, by decide, by decide⟩ (fun I22 L23 eI22 eL23 => ?_)
    replace eI22 := eI22.symm; subst eI22
    refine x_aload_n 27 C dX12_residue_27 rfl 3 rfl ?_
    refine x_getl 28 C dX12_residue_28 ff_X12_87 hM.1 ?_
    refine x_long ((syE1 Y evV (mvO (I (A + 1)) (50 + 12 * k)).2.1 (mvO (I (A + 1)) (50 + 12 * k)).2.2 (punit (I (A + 1) (50 + 12 * k + 3)))).1) (by rw [eL23, mwC_7]; rfl) ?_
    refine x_aload_n 31 C dX12_residue_31 rfl 3 rfl ?_
    refine x_getl 32 C dX12_residue_32 ff_X12_90 hM.1 ?_
    refine x_long ((syE1 Y evV (mvO (I (A + 1)) (50 + 12 * k)).2.1 (mvO (I (A + 1)) (50 + 12 * k)).2.2 (punit (I (A + 1) (50 + 12 * k + 3)))).2) (by rw [eL23, mwC_8]; rfl) ?_
    refine x_callSe 35 C dX12_residue_35 (As := [.long ((syE1 Y evV (mvO (I (A + 1)) (50 + 12 * k)).2.1 (mvO (I (A + 1)) (50 + 12 * k)).2.2 (punit (I (A + 1) (50 + 12 * k + 3)))).1), .long ((syE1 Y evV (mvO (I (A + 1)) (50 + 12 * k)).2.1 (mvO (I (A + 1)) (50 + 12 * k)).2.2 (punit (I (A + 1) (50 + 12 * k + 3)))).2)]) (rest := []) [.long (sizC (((syE1 Y evV (mvO (I (A + 1)) (50 + 12 * k)).2.1 (mvO (I (A + 1)) (50 + 12 * k)).2.2 (punit (I (A + 1) (50 + 12 * k + 3)))).1), ((syE1 Y evV (mvO (I (A + 1)) (50 + 12 * k)).2.1 (mvO (I (A + 1)) (50 + 12 * k)).2.2 (punit (I (A + 1) (50 + 12 * k + 3)))).2)))] (t_X12_size l D z n G I L23 ((syE1 Y evV (mvO (I (A + 1)) (50 + 12 * k)).2.1 (mvO (I (A + 1)) (50 + 12 * k)).2.2 (punit (I (A + 1) (50 + 12 * k + 3)))).1) ((syE1 Y evV (mvO (I (A + 1)) (50 + 12 * k)).2.1 (mvO (I (A + 1)) (50 + 12 * k)).2.2 (punit (I (A + 1) (50 + 12 * k + 3)))).2) ) mt_X12_size km_X12_166 kt_X12_size rfl rfl (Nat.le_of_ble_eq_true rfl) ⟨⟨by decide, by decide⟩, by decide, by decide⟩ (fun I24 L25 eI24 eL25 => ?_)
    replace eI24 := eI24.symm; subst eI24
    replace eL25 := eL25.symm; subst eL25
    refine x_long (sizC (syE1 Y evV (mvO (I (A + 1)) (50 + 12 * k)).2.1 (mvO (I (A + 1)) (50 + 12 * k)).2.2 (punit (I (A + 1) (50 + 12 * k + 3))))) rfl ?_
    refine x_lstore 38 C [(5, .long (sizC (syE1 Y evV (mvO (I (A + 1)) (50 + 12 * k)).2.1 (mvO (I (A + 1)) (50 + 12 * k)).2.2 (punit (I (A + 1) (50 + 12 * k + 3)))))), (4, .int 1), (2, .long (sizC (syE0 Y evV (mvO (I (A + 1)) (50 + 12 * k)).2.1 (mvO (I (A + 1)) (50 + 12 * k)).2.2 (punit (I (A + 1) (50 + 12 * k + 3)))))), (0, .ref A), (1, .int (nI k))] dX12_residue_38 (by decide) rfl ?_
    refine x_lload 40 C dX12_residue_40 0 rfl ?_
    refine x_lload_n 42 C dX12_residue_42 rfl 2 rfl ?_
    refine x_lc_le 43 C 52 dX12_residue_43 dX12_residue_44 (by decide) (fun c26 => ?_) (fun c26 => ?_)
    · skip
      have c26o := Int64.not_lt.mpr c26
      refine x_lload_n 52 C dX12_residue_52 rfl 2 rfl ?_
      refine x_lstore_n 53 C [(2, .long (sizC (syE0 Y evV (mvO (I (A + 1)) (50 + 12 * k)).2.1 (mvO (I (A + 1)) (50 + 12 * k)).2.2 (punit (I (A + 1) (50 + 12 * k + 3)))))), (5, .long (sizC (syE1 Y evV (mvO (I (A + 1)) (50 + 12 * k)).2.1 (mvO (I (A + 1)) (50 + 12 * k)).2.2 (punit (I (A + 1) (50 + 12 * k + 3)))))), (4, .int 1), (0, .ref A), (1, .int (nI k))] dX12_residue_53 rfl (by decide) rfl ?_
      refine x_iinc 54 C [(4, .int 2), (2, .long (sizC (syE0 Y evV (mvO (I (A + 1)) (50 + 12 * k)).2.1 (mvO (I (A + 1)) (50 + 12 * k)).2.2 (punit (I (A + 1) (50 + 12 * k + 3)))))), (5, .long (sizC (syE1 Y evV (mvO (I (A + 1)) (50 + 12 * k)).2.1 (mvO (I (A + 1)) (50 + 12 * k)).2.2 (punit (I (A + 1) (50 + 12 * k + 3)))))), (0, .ref A), (1, .int (nI k))] dX12_residue_54 2 rfl (by decide) (by decide) rfl ?_
      refine x_goto 57 C 14 dX12_residue_57 (by decide) ?_
      refine x_iload 14 C dX12_residue_14 0 rfl ?_
      refine x_iconst 16 C (v := 2) dX12_residue_16 rfl ?_
      refine x_icmp_ge 17 C 60 dX12_residue_17 (by decide) (fun _ => ?_) (fun c27 => absurd (by decide) c27)
      refine x_ldc2 60 C 1000 dX12_residue_60 kk_X12_210 ?_
      refine x_lload_n 63 C dX12_residue_63 rfl 1 rfl ?_
      refine x_lmul 64 C dX12_residue_64 ?_
      refine x_aload_n 65 C dX12_residue_65 rfl 3 rfl ?_
      refine x_getl 66 C dX12_residue_66 ff_X12_28 hM.1 ?_
      refine x_long (punit (I (A + 1) (50 + 12 * k + 3))) (by rw [eL23, mwC_ne _ _ (by decide) (by decide), eL9, mwC_ne _ _ (by decide) (by decide)]; exact hu5) ?_
      refine x_ldiv 69 C dX12_residue_69 (punit_nz _) ?_
      refine x_l2i 70 C dX12_residue_70 ?_
      refine x_iret 71 C dX12_residue_71 rfl rfl (Nat.le_refl _) (xN.intro ?_)
      have hmx : (sizC (syE0 Y evV (mvO (I (A + 1)) (50 + 12 * k)).2.1 (mvO (I (A + 1)) (50 + 12 * k)).2.2 (punit (I (A + 1) (50 + 12 * k + 3)))) : Int64) = lmax (sizC (syE0 Y evV (mvO (I (A + 1)) (50 + 12 * k)).2.1 (mvO (I (A + 1)) (50 + 12 * k)).2.2 (punit (I (A + 1) (50 + 12 * k + 3))))) (sizC (syE1 Y evV (mvO (I (A + 1)) (50 + 12 * k)).2.1 (mvO (I (A + 1)) (50 + 12 * k)).2.2 (punit (I (A + 1) (50 + 12 * k + 3))))) := by
        refine lmax_of (a := sizC (syE0 Y evV (mvO (I (A + 1)) (50 + 12 * k)).2.1 (mvO (I (A + 1)) (50 + 12 * k)).2.2 (punit (I (A + 1) (50 + 12 * k + 3))))) (b := sizC (syE1 Y evV (mvO (I (A + 1)) (50 + 12 * k)).2.1 (mvO (I (A + 1)) (50 + 12 * k)).2.2 (punit (I (A + 1) (50 + 12 * k + 3))))) (siz_nn (evV_held _ _ _ _)) (siz_nn (evV_held _ _ _ _)) _ ?_
        rw [if_neg c12, if_pos c26]
      refine ⟨congrArg (fun x => some (Value.int x)) ((cthou_of (punit_nz _)).trans (congrArg (fun q => cthou q (punit (I (A + 1) (50 + 12 * k + 3)))) hmx)), rfl, fun q hq => by rw [eL23, mwC_row _ _ (by omega), eL9, mwC_row _ _ (by omega), hw4r2 q (by omega) (by omega)]; exact hw1r3 q (by omega) (by omega)⟩
    · skip
      have c26o := Int64.not_le.mp c26
      refine x_lload 47 C dX12_residue_47 0 rfl ?_
      refine x_goto 49 C 53 dX12_residue_49 (by decide) ?_
      refine x_lstore_n 53 C [(2, .long (sizC (syE1 Y evV (mvO (I (A + 1)) (50 + 12 * k)).2.1 (mvO (I (A + 1)) (50 + 12 * k)).2.2 (punit (I (A + 1) (50 + 12 * k + 3)))))), (5, .long (sizC (syE1 Y evV (mvO (I (A + 1)) (50 + 12 * k)).2.1 (mvO (I (A + 1)) (50 + 12 * k)).2.2 (punit (I (A + 1) (50 + 12 * k + 3)))))), (4, .int 1), (0, .ref A), (1, .int (nI k))] dX12_residue_53 rfl (by decide) rfl ?_
      refine x_iinc 54 C [(4, .int 2), (2, .long (sizC (syE1 Y evV (mvO (I (A + 1)) (50 + 12 * k)).2.1 (mvO (I (A + 1)) (50 + 12 * k)).2.2 (punit (I (A + 1) (50 + 12 * k + 3)))))), (5, .long (sizC (syE1 Y evV (mvO (I (A + 1)) (50 + 12 * k)).2.1 (mvO (I (A + 1)) (50 + 12 * k)).2.2 (punit (I (A + 1) (50 + 12 * k + 3)))))), (0, .ref A), (1, .int (nI k))] dX12_residue_54 2 rfl (by decide) (by decide) rfl ?_
      refine x_goto 57 C 14 dX12_residue_57 (by decide) ?_
      refine x_iload 14 C dX12_residue_14 0 rfl ?_
      refine x_iconst 16 C (v := 2) dX12_residue_16 rfl ?_
      refine x_icmp_ge 17 C 60 dX12_residue_17 (by decide) (fun _ => ?_) (fun c28 => absurd (by decide) c28)
      refine x_ldc2 60 C 1000 dX12_residue_60 kk_X12_210 ?_
      refine x_lload_n 63 C dX12_residue_63 rfl 1 rfl ?_
      refine x_lmul 64 C dX12_residue_64 ?_
      refine x_aload_n 65 C dX12_residue_65 rfl 3 rfl ?_
      refine x_getl 66 C dX12_residue_66 ff_X12_28 hM.1 ?_
      refine x_long (punit (I (A + 1) (50 + 12 * k + 3))) (by rw [eL23, mwC_ne _ _ (by decide) (by decide), eL9, mwC_ne _ _ (by decide) (by decide)]; exact hu5) ?_
      refine x_ldiv 69 C dX12_residue_69 (punit_nz _) ?_
      refine x_l2i 70 C dX12_residue_70 ?_
      refine x_iret 71 C dX12_residue_71 rfl rfl (Nat.le_refl _) (xN.intro ?_)
      have hmx : (sizC (syE1 Y evV (mvO (I (A + 1)) (50 + 12 * k)).2.1 (mvO (I (A + 1)) (50 + 12 * k)).2.2 (punit (I (A + 1) (50 + 12 * k + 3)))) : Int64) = lmax (sizC (syE0 Y evV (mvO (I (A + 1)) (50 + 12 * k)).2.1 (mvO (I (A + 1)) (50 + 12 * k)).2.2 (punit (I (A + 1) (50 + 12 * k + 3))))) (sizC (syE1 Y evV (mvO (I (A + 1)) (50 + 12 * k)).2.1 (mvO (I (A + 1)) (50 + 12 * k)).2.2 (punit (I (A + 1) (50 + 12 * k + 3))))) := by
        refine lmax_of (a := sizC (syE0 Y evV (mvO (I (A + 1)) (50 + 12 * k)).2.1 (mvO (I (A + 1)) (50 + 12 * k)).2.2 (punit (I (A + 1) (50 + 12 * k + 3))))) (b := sizC (syE1 Y evV (mvO (I (A + 1)) (50 + 12 * k)).2.1 (mvO (I (A + 1)) (50 + 12 * k)).2.2 (punit (I (A + 1) (50 + 12 * k + 3))))) (siz_nn (evV_held _ _ _ _)) (siz_nn (evV_held _ _ _ _)) _ ?_
        rw [if_neg c12, if_neg c26]
      refine ⟨congrArg (fun x => some (Value.int x)) ((cthou_of (punit_nz _)).trans (congrArg (fun q => cthou q (punit (I (A + 1) (50 + 12 * k + 3)))) hmx)), rfl, fun q hq => by rw [eL23, mwC_row _ _ (by omega), eL9, mwC_row _ _ (by omega), hw4r2 q (by omega) (by omega)]; exact hw1r3 q (by omega) (by omega)⟩
theorem dX12_areMet_0 : decode cX12_areMet 0 = .ok (.iload_n 1, 1) := by decide +kernel
theorem dX12_areMet_1 : decode cX12_areMet 1 = .ok (.iload_n 2, 1) := by decide +kernel
theorem dX12_areMet_2 : decode cX12_areMet 2 = .ok (.if_icmp .eq 23, 3) := by decide +kernel
theorem dX12_areMet_5 : decode cX12_areMet 5 = .ok (.aload_n 0, 1) := by decide +kernel
theorem dX12_areMet_6 : decode cX12_areMet 6 = .ok (.iload_n 1, 1) := by decide +kernel
theorem dX12_areMet_7 : decode cX12_areMet 7 = .ok (.invokevirtual 218, 3) := by decide +kernel
theorem dX12_areMet_10 : decode cX12_areMet 10 = .ok (.ifCond .eq 15, 3) := by decide +kernel
theorem dX12_areMet_13 : decode cX12_areMet 13 = .ok (.aload_n 0, 1) := by decide +kernel
theorem dX12_areMet_14 : decode cX12_areMet 14 = .ok (.iload_n 2, 1) := by decide +kernel
theorem dX12_areMet_15 : decode cX12_areMet 15 = .ok (.invokevirtual 218, 3) := by decide +kernel
theorem dX12_areMet_18 : decode cX12_areMet 18 = .ok (.ifCond .eq 7, 3) := by decide +kernel
theorem dX12_areMet_21 : decode cX12_areMet 21 = .ok (.iconst 1, 1) := by decide +kernel
theorem dX12_areMet_22 : decode cX12_areMet 22 = .ok (.goto 4, 3) := by decide +kernel
theorem dX12_areMet_25 : decode cX12_areMet 25 = .ok (.iconst 0, 1) := by decide +kernel
theorem dX12_areMet_26 : decode cX12_areMet 26 = .ok (.istore_n 3, 1) := by decide +kernel
theorem dX12_areMet_27 : decode cX12_areMet 27 = .ok (.iconst 0, 1) := by decide +kernel
theorem dX12_areMet_28 : decode cX12_areMet 28 = .ok (.istore 4, 2) := by decide +kernel
theorem dX12_areMet_30 : decode cX12_areMet 30 = .ok (.iload 4, 2) := by decide +kernel
theorem dX12_areMet_32 : decode cX12_areMet 32 = .ok (.iconst 4, 1) := by decide +kernel
theorem dX12_areMet_33 : decode cX12_areMet 33 = .ok (.if_icmp .ge 49, 3) := by decide +kernel
theorem dX12_areMet_36 : decode cX12_areMet 36 = .ok (.iload_n 3, 1) := by decide +kernel
theorem dX12_areMet_37 : decode cX12_areMet 37 = .ok (.ifCond .eq 37, 3) := by decide +kernel
theorem dX12_areMet_40 : decode cX12_areMet 40 = .ok (.aload_n 0, 1) := by decide +kernel
theorem dX12_areMet_41 : decode cX12_areMet 41 = .ok (.iload_n 1, 1) := by decide +kernel
theorem dX12_areMet_42 : decode cX12_areMet 42 = .ok (.iload 4, 2) := by decide +kernel
theorem dX12_areMet_44 : decode cX12_areMet 44 = .ok (.invokevirtual 215, 3) := by decide +kernel
theorem dX12_areMet_47 : decode cX12_areMet 47 = .ok (.i2l, 1) := by decide +kernel
theorem dX12_areMet_48 : decode cX12_areMet 48 = .ok (.aload_n 0, 1) := by decide +kernel
theorem dX12_areMet_49 : decode cX12_areMet 49 = .ok (.iload_n 2, 1) := by decide +kernel
theorem dX12_areMet_50 : decode cX12_areMet 50 = .ok (.iload 4, 2) := by decide +kernel
theorem dX12_areMet_52 : decode cX12_areMet 52 = .ok (.invokevirtual 215, 3) := by decide +kernel
theorem dX12_areMet_55 : decode cX12_areMet 55 = .ok (.i2l, 1) := by decide +kernel
theorem dX12_areMet_56 : decode cX12_areMet 56 = .ok (.lsub, 1) := by decide +kernel
theorem dX12_areMet_57 : decode cX12_areMet 57 = .ok (.invokestatic 97, 3) := by decide +kernel
theorem dX12_areMet_60 : decode cX12_areMet 60 = .ok (.aload_n 0, 1) := by decide +kernel
theorem dX12_areMet_61 : decode cX12_areMet 61 = .ok (.iconst 5, 1) := by decide +kernel
theorem dX12_areMet_62 : decode cX12_areMet 62 = .ok (.invokevirtual 119, 3) := by decide +kernel
theorem dX12_areMet_65 : decode cX12_areMet 65 = .ok (.i2l, 1) := by decide +kernel
theorem dX12_areMet_66 : decode cX12_areMet 66 = .ok (.lcmp, 1) := by decide +kernel
theorem dX12_areMet_67 : decode cX12_areMet 67 = .ok (.ifCond .gt 7, 3) := by decide +kernel
theorem dX12_areMet_70 : decode cX12_areMet 70 = .ok (.iconst 1, 1) := by decide +kernel
theorem dX12_areMet_71 : decode cX12_areMet 71 = .ok (.goto 4, 3) := by decide +kernel
theorem dX12_areMet_74 : decode cX12_areMet 74 = .ok (.iconst 0, 1) := by decide +kernel
theorem dX12_areMet_75 : decode cX12_areMet 75 = .ok (.istore_n 3, 1) := by decide +kernel
theorem dX12_areMet_76 : decode cX12_areMet 76 = .ok (.iinc 4 1, 3) := by decide +kernel
theorem dX12_areMet_79 : decode cX12_areMet 79 = .ok (.goto (-49), 3) := by decide +kernel
theorem dX12_areMet_82 : decode cX12_areMet 82 = .ok (.iload_n 3, 1) := by decide +kernel
theorem dX12_areMet_83 : decode cX12_areMet 83 = .ok (.ireturn, 1) := by decide +kernel
set_option maxHeartbeats 1000000 in
set_option maxRecDepth 100000 in
theorem t_X12_areMet (l : Launch) (D : xD) (z n : Nat) (G : xG) (I : xI) (L : xL) (A : Nat) (k : Nat) (i : Nat) (hM : shMo G A) (hk : k < 9) (hi : i < 9) (hpr : I (A + 1) (50 + 12 * k + 3) = 10 ∨ I (A + 1) (50 + 12 * k + 3) = 18) (hpri : I (A + 1) (50 + 12 * i + 3) = 10 ∨ I (A + 1) (50 + 12 * i + 3) = 18) (hend : I (A + 1) (50 + 12 * k + 5) = 1) : xM0 l D z yX12_areMet cX12_areMet 5 (some .boolean) 2 43 [.ref A, .int (nI k), .int (nI i)] n G I L (xE (some (.int (bI (vMet (mV I A) (I (A + 1) 47) k i)))) I L) := by
  refine xM.of (by decide) (Nat.le_of_ble_eq_true rfl) (fun p e s m args below meth c C hnm hsz => ?_)
  refine x_lv [(0, .ref A), (1, .int (nI k)), (2, .int (nI i))] rfl ?_
  refine x_iload_n 0 C dX12_areMet_0 rfl 1 rfl ?_
  refine x_iload_n 1 C dX12_areMet_1 rfl 2 rfl ?_
  refine x_icmp_eq 2 C 25 dX12_areMet_2 (by decide) (fun c1 => ?_) (fun c1 => ?_)
  · skip
    have c1n : k = i := (nI_eq (a := k) (b := i) (by omega) (by omega)).mp c1
    have hne : ¬ i ≠ k := fun h => h c1n.symm
    refine x_iconst 25 C (v := 0) dX12_areMet_25 rfl ?_
    refine x_istore_n 26 C [(3, .int 0), (0, .ref A), (1, .int (nI k)), (2, .int (nI i))] dX12_areMet_26 rfl (by decide) rfl ?_
    refine x_iconst 27 C (v := 0) dX12_areMet_27 rfl ?_
    refine x_istore 28 C [(4, .int 0), (3, .int 0), (0, .ref A), (1, .int (nI k)), (2, .int (nI i))] dX12_areMet_28 (by decide) rfl ?_
    refine x_iload 30 C dX12_areMet_30 0 rfl ?_
    refine x_iconst 32 C (v := 4) dX12_areMet_32 rfl ?_
    refine x_icmp_ge 33 C 82 dX12_areMet_33 (by decide) (fun c2 => absurd c2 (by decide)) (fun _ => ?_)
    refine x_iload_n 36 C dX12_areMet_36 rfl 1 rfl ?_
    refine x_if_eq 37 C 74 dX12_areMet_37 (by decide) (fun _ => ?_) (fun c3 => absurd (by decide) c3)
    refine x_iconst 74 C (v := 0) dX12_areMet_74 rfl ?_
    refine x_istore_n 75 C [(3, .int 0), (4, .int 0), (0, .ref A), (1, .int (nI k)), (2, .int (nI i))] dX12_areMet_75 rfl (by decide) rfl ?_
    refine x_iinc 76 C [(4, .int 1), (3, .int 0), (0, .ref A), (1, .int (nI k)), (2, .int (nI i))] dX12_areMet_76 1 rfl (by decide) (by decide) rfl ?_
    refine x_goto 79 C 30 dX12_areMet_79 (by decide) ?_
    refine x_iload 30 C dX12_areMet_30 0 rfl ?_
    refine x_iconst 32 C (v := 4) dX12_areMet_32 rfl ?_
    refine x_icmp_ge 33 C 82 dX12_areMet_33 (by decide) (fun c4 => absurd c4 (by decide)) (fun _ => ?_)
    refine x_iload_n 36 C dX12_areMet_36 rfl 1 rfl ?_
    refine x_if_eq 37 C 74 dX12_areMet_37 (by decide) (fun _ => ?_) (fun c5 => absurd (by decide) c5)
    refine x_iconst 74 C (v := 0) dX12_areMet_74 rfl ?_
    refine x_istore_n 75 C [(3, .int 0), (4, .int 1), (0, .ref A), (1, .int (nI k)), (2, .int (nI i))] dX12_areMet_75 rfl (by decide) rfl ?_
    refine x_iinc 76 C [(4, .int 2), (3, .int 0), (0, .ref A), (1, .int (nI k)), (2, .int (nI i))] dX12_areMet_76 1 rfl (by decide) (by decide) rfl ?_
    refine x_goto 79 C 30 dX12_areMet_79 (by decide) ?_
    refine x_iload 30 C dX12_areMet_30 0 rfl ?_
    refine x_iconst 32 C (v := 4) dX12_areMet_32 rfl ?_
    refine x_icmp_ge 33 C 82 dX12_areMet_33 (by decide) (fun c6 => absurd c6 (by decide)) (fun _ => ?_)
    refine x_iload_n 36 C dX12_areMet_36 rfl 1 rfl ?_
    refine x_if_eq 37 C 74 dX12_areMet_37 (by decide) (fun _ => ?_) (fun c7 => absurd (by decide) c7)
    refine x_iconst 74 C (v := 0) dX12_areMet_74 rfl ?_
    refine x_istore_n 75 C [(3, .int 0), (4, .int 2), (0, .ref A), (1, .int (nI k)), (2, .int (nI i))] dX12_areMet_75 rfl (by decide) rfl ?_
    refine x_iinc 76 C [(4, .int 3), (3, .int 0), (0, .ref A), (1, .int (nI k)), (2, .int (nI i))] dX12_areMet_76 1 rfl (by decide) (by decide) rfl ?_
    refine x_goto 79 C 30 dX12_areMet_79 (by decide) ?_
    refine x_iload 30 C dX12_areMet_30 0 rfl ?_
    refine x_iconst 32 C (v := 4) dX12_areMet_32 rfl ?_
    refine x_icmp_ge 33 C 82 dX12_areMet_33 (by decide) (fun c8 => absurd c8 (by decide)) (fun _ => ?_)
    refine x_iload_n 36 C dX12_areMet_36 rfl 1 rfl ?_
    refine x_if_eq 37 C 74 dX12_areMet_37 (by decide) (fun _ => ?_) (fun c9 => absurd (by decide) c9)
    refine x_iconst 74 C (v := 0) dX12_areMet_74 rfl ?_
    refine x_istore_n 75 C [(3, .int 0), (4, .int 3), (0, .ref A), (1, .int (nI k)), (2, .int (nI i))] dX12_areMet_75 rfl (by decide) rfl ?_
    refine x_iinc 76 C [(4, .int 4), (3, .int 0), (0, .ref A), (1, .int (nI k)), (2, .int (nI i))] dX12_areMet_76 1 rfl (by decide) (by decide) rfl ?_
    refine x_goto 79 C 30 dX12_areMet_79 (by decide) ?_
    refine x_iload 30 C dX12_areMet_30 0 rfl ?_
    refine x_iconst 32 C (v := 4) dX12_areMet_32 rfl ?_
    refine x_icmp_ge 33 C 82 dX12_areMet_33 (by decide) (fun _ => ?_) (fun c10 => absurd (by decide) c10)
    refine x_iload_n 82 C dX12_areMet_82 rfl 1 rfl ?_
    refine x_iret 83 C dX12_areMet_83 rfl rfl (Nat.le_refl _) (xN.intro ?_)
    refine ⟨?_, rfl, rfl⟩
    simp [vMet, vNears, bI, hne]
  · skip
    have c1n : ¬ (k = i) := fun h => c1 ((nI_eq (a := k) (b := i) (by omega) (by omega)).mpr h)
    have hne : i ≠ k := fun h => c1n h.symm
    refine x_aload_n 5 C dX12_areMet_5 rfl 0 rfl ?_
    refine x_iload_n 6 C dX12_areMet_6 rfl 1 rfl ?_
    refine x_callVe 7 C dX12_areMet_7 (As := [.int (nI k)]) (rest := []) [.int (bI (decide (I (A + 1) (50 + 12 * k + 5) = 1)))] (t_X12_isAtEnd l D z n G I L A k hM (by first | omega | assumption | decide)) mt_X12_isAtEnd km_X12_218 ki_X12_isAtEnd ks_X12_isAtEnd hM.1 ⟨by decide, rfl⟩ rfl rfl (Nat.le_of_ble_eq_true rfl) ⟨⟨by decide, by decide⟩, by decide, by decide⟩ (fun I11 L12 eI11 eL12 => ?_)
    replace eI11 := eI11.symm; subst eI11
    replace eL12 := eL12.symm; subst eL12
    refine x_if_eq 10 C 25 dX12_areMet_10 (by decide) (fun c13 => absurd c13 (by rw [hend]; decide)) (fun _ => ?_)
    refine x_aload_n 13 C dX12_areMet_13 rfl 0 rfl ?_
    refine x_iload_n 14 C dX12_areMet_14 rfl 2 rfl ?_
    refine x_callVe 15 C dX12_areMet_15 (As := [.int (nI i)]) (rest := []) [.int (bI (decide (I (A + 1) (50 + 12 * i + 5) = 1)))] (t_X12_isAtEnd l D z n G I L A i hM (by first | omega | assumption | decide)) mt_X12_isAtEnd km_X12_218 ki_X12_isAtEnd ks_X12_isAtEnd hM.1 ⟨by decide, rfl⟩ rfl rfl (Nat.le_of_ble_eq_true rfl) ⟨⟨by decide, by decide⟩, by decide, by decide⟩ (fun I14 L15 eI14 eL15 => ?_)
    replace eI14 := eI14.symm; subst eI14
    replace eL15 := eL15.symm; subst eL15
    refine x_if_eq 18 C 25 dX12_areMet_18 (by decide) (fun c16 => ?_) (fun c16 => ?_)
    · skip
      have hei : vSt (mV I A) 1 i = false := bI_0.mp c16
      refine x_iconst 25 C (v := 0) dX12_areMet_25 rfl ?_
      refine x_istore_n 26 C [(3, .int 0), (0, .ref A), (1, .int (nI k)), (2, .int (nI i))] dX12_areMet_26 rfl (by decide) rfl ?_
      refine x_iconst 27 C (v := 0) dX12_areMet_27 rfl ?_
      refine x_istore 28 C [(4, .int 0), (3, .int 0), (0, .ref A), (1, .int (nI k)), (2, .int (nI i))] dX12_areMet_28 (by decide) rfl ?_
      refine x_iload 30 C dX12_areMet_30 0 rfl ?_
      refine x_iconst 32 C (v := 4) dX12_areMet_32 rfl ?_
      refine x_icmp_ge 33 C 82 dX12_areMet_33 (by decide) (fun c17 => absurd c17 (by decide)) (fun _ => ?_)
      refine x_iload_n 36 C dX12_areMet_36 rfl 1 rfl ?_
      refine x_if_eq 37 C 74 dX12_areMet_37 (by decide) (fun _ => ?_) (fun c18 => absurd (by decide) c18)
      refine x_iconst 74 C (v := 0) dX12_areMet_74 rfl ?_
      refine x_istore_n 75 C [(3, .int 0), (4, .int 0), (0, .ref A), (1, .int (nI k)), (2, .int (nI i))] dX12_areMet_75 rfl (by decide) rfl ?_
      refine x_iinc 76 C [(4, .int 1), (3, .int 0), (0, .ref A), (1, .int (nI k)), (2, .int (nI i))] dX12_areMet_76 1 rfl (by decide) (by decide) rfl ?_
      refine x_goto 79 C 30 dX12_areMet_79 (by decide) ?_
      refine x_iload 30 C dX12_areMet_30 0 rfl ?_
      refine x_iconst 32 C (v := 4) dX12_areMet_32 rfl ?_
      refine x_icmp_ge 33 C 82 dX12_areMet_33 (by decide) (fun c19 => absurd c19 (by decide)) (fun _ => ?_)
      refine x_iload_n 36 C dX12_areMet_36 rfl 1 rfl ?_
      refine x_if_eq 37 C 74 dX12_areMet_37 (by decide) (fun _ => ?_) (fun c20 => absurd (by decide) c20)
      refine x_iconst 74 C (v := 0) dX12_areMet_74 rfl ?_
      refine x_istore_n 75 C [(3, .int 0), (4, .int 1), (0, .ref A), (1, .int (nI k)), (2, .int (nI i))] dX12_areMet_75 rfl (by decide) rfl ?_
      refine x_iinc 76 C [(4, .int 2), (3, .int 0), (0, .ref A), (1, .int (nI k)), (2, .int (nI i))] dX12_areMet_76 1 rfl (by decide) (by decide) rfl ?_
      refine x_goto 79 C 30 dX12_areMet_79 (by decide) ?_
      refine x_iload 30 C dX12_areMet_30 0 rfl ?_
      refine x_iconst 32 C (v := 4) dX12_areMet_32 rfl ?_
      refine x_icmp_ge 33 C 82 dX12_areMet_33 (by decide) (fun c21 => absurd c21 (by decide)) (fun _ => ?_)
      refine x_iload_n 36 C dX12_areMet_36 rfl 1 rfl ?_
      refine x_if_eq 37 C 74 dX12_areMet_37 (by decide) (fun _ => ?_) (fun c22 => absurd (by decide) c22)
      refine x_iconst 74 C (v := 0) dX12_areMet_74 rfl ?_
      refine x_istore_n 75 C [(3, .int 0), (4, .int 2), (0, .ref A), (1, .int (nI k)), (2, .int (nI i))] dX12_areMet_75 rfl (by decide) rfl ?_
      refine x_iinc 76 C [(4, .int 3), (3, .int 0), (0, .ref A), (1, .int (nI k)), (2, .int (nI i))] dX12_areMet_76 1 rfl (by decide) (by decide) rfl ?_
      refine x_goto 79 C 30 dX12_areMet_79 (by decide) ?_
      refine x_iload 30 C dX12_areMet_30 0 rfl ?_
      refine x_iconst 32 C (v := 4) dX12_areMet_32 rfl ?_
      refine x_icmp_ge 33 C 82 dX12_areMet_33 (by decide) (fun c23 => absurd c23 (by decide)) (fun _ => ?_)
      refine x_iload_n 36 C dX12_areMet_36 rfl 1 rfl ?_
      refine x_if_eq 37 C 74 dX12_areMet_37 (by decide) (fun _ => ?_) (fun c24 => absurd (by decide) c24)
      refine x_iconst 74 C (v := 0) dX12_areMet_74 rfl ?_
      refine x_istore_n 75 C [(3, .int 0), (4, .int 3), (0, .ref A), (1, .int (nI k)), (2, .int (nI i))] dX12_areMet_75 rfl (by decide) rfl ?_
      refine x_iinc 76 C [(4, .int 4), (3, .int 0), (0, .ref A), (1, .int (nI k)), (2, .int (nI i))] dX12_areMet_76 1 rfl (by decide) (by decide) rfl ?_
      refine x_goto 79 C 30 dX12_areMet_79 (by decide) ?_
      refine x_iload 30 C dX12_areMet_30 0 rfl ?_
      refine x_iconst 32 C (v := 4) dX12_areMet_32 rfl ?_
      refine x_icmp_ge 33 C 82 dX12_areMet_33 (by decide) (fun _ => ?_) (fun c25 => absurd (by decide) c25)
      refine x_iload_n 82 C dX12_areMet_82 rfl 1 rfl ?_
      refine x_iret 83 C dX12_areMet_83 rfl rfl (Nat.le_refl _) (xN.intro ?_)
      refine ⟨?_, rfl, rfl⟩
      simp [vMet, vNears, bI, hne, hei]
    · skip
      have hei : vSt (mV I A) 1 i = true := bI_n0.mp c16
      refine x_iconst 21 C (v := 1) dX12_areMet_21 rfl ?_
      refine x_goto 22 C 26 dX12_areMet_22 (by decide) ?_
      refine x_istore_n 26 C [(3, .int 1), (0, .ref A), (1, .int (nI k)), (2, .int (nI i))] dX12_areMet_26 rfl (by decide) rfl ?_
      refine x_iconst 27 C (v := 0) dX12_areMet_27 rfl ?_
      refine x_istore 28 C [(4, .int 0), (3, .int 1), (0, .ref A), (1, .int (nI k)), (2, .int (nI i))] dX12_areMet_28 (by decide) rfl ?_
      refine x_iload 30 C dX12_areMet_30 0 rfl ?_
      refine x_iconst 32 C (v := 4) dX12_areMet_32 rfl ?_
      refine x_icmp_ge 33 C 82 dX12_areMet_33 (by decide) (fun c26 => absurd c26 (by decide)) (fun _ => ?_)
      refine x_iload_n 36 C dX12_areMet_36 rfl 1 rfl ?_
      refine x_if_eq 37 C 74 dX12_areMet_37 (by decide) (fun c27 => absurd c27 (by decide)) (fun _ => ?_)
      refine x_aload_n 40 C dX12_areMet_40 rfl 2 rfl ?_
      refine x_iload_n 41 C dX12_areMet_41 rfl 3 rfl ?_
      refine x_iload 42 C dX12_areMet_42 0 rfl ?_
      refine x_callVe 44 C dX12_areMet_44 (As := [.int (nI k), .int 0]) (rest := []) [.int (vpt (mvO (I (A + 1)) (50 + 12 * k)) 0)] (t_X12_thousandths l D z n G I L A k 0 hM (by first | omega | assumption | decide) (by first | omega | assumption | decide) (by first | omega | assumption | decide)) mt_X12_thousandths km_X12_215 ki_X12_thousandths ks_X12_thousandths hM.1 ⟨by decide, rfl⟩ rfl rfl (Nat.le_of_ble_eq_true rfl) ⟨⟨by decide, by decide⟩, by decide, by decide⟩ (fun I28 L29 eI28 eL29 => ?_)
      replace eI28 := eI28.symm; subst eI28
      replace eL29 := eL29.symm; subst eL29
      refine x_int (vpt (mV I A k) 0) rfl ?_
      refine x_i2l 47 C dX12_areMet_47 ?_
      refine x_aload_n 48 C dX12_areMet_48 rfl 2 rfl ?_
      refine x_iload_n 49 C dX12_areMet_49 rfl 4 rfl ?_
      refine x_iload 50 C dX12_areMet_50 0 rfl ?_
      refine x_callVe 52 C dX12_areMet_52 (As := [.int (nI i), .int 0]) (rest := [.long (Int32.toInt64 (vpt (mV I A k) 0))]) [.int (vpt (mvO (I (A + 1)) (50 + 12 * i)) 0), .long (Int32.toInt64 (vpt (mV I A k) 0))] (t_X12_thousandths l D z n G I L A i 0 hM (by first | omega | assumption | decide) (by first | omega | assumption | decide) hpri) mt_X12_thousandths km_X12_215 ki_X12_thousandths ks_X12_thousandths hM.1 ⟨by decide, rfl⟩ rfl rfl (Nat.le_of_ble_eq_true rfl) ⟨⟨by decide, by decide⟩, by decide, by decide⟩ (fun I30 L31 eI30 eL31 => ?_)
      replace eI30 := eI30.symm; subst eI30
      replace eL31 := eL31.symm; subst eL31
      refine x_int (vpt (mV I A i) 0) rfl ?_
      refine x_i2l 55 C dX12_areMet_55 ?_
      refine x_lsub 56 C dX12_areMet_56 ?_
      refine x_callSe 57 C dX12_areMet_57 (As := [.long ((Int32.toInt64 (vpt (mV I A k) 0)) - (Int32.toInt64 (vpt (mV I A i) 0)))]) (rest := []) [.long (abL ((Int32.toInt64 (vpt (mV I A k) 0)) - (Int32.toInt64 (vpt (mV I A i) 0))))] (t_X12_abs l D z n G I L ((Int32.toInt64 (vpt (mV I A k) 0)) - (Int32.toInt64 (vpt (mV I A i) 0))) ) mt_X12_abs km_X12_97 kt_X12_abs rfl rfl (Nat.le_of_ble_eq_true rfl) ⟨⟨by decide, by decide⟩, by decide, by decide⟩ (fun I32 L33 eI32 eL33 => ?_)
      replace eI32 := eI32.symm; subst eI32
      replace eL33 := eL33.symm; subst eL33
      refine x_long (labs (Int32.toInt64 (vpt (mV I A k) 0) - Int32.toInt64 (vpt (mV I A i) 0))) (abL_labs _) ?_
      refine x_aload_n 60 C dX12_areMet_60 rfl 2 rfl ?_
      refine x_iconst 61 C (v := 5) dX12_areMet_61 rfl ?_
      refine x_callVe 62 C dX12_areMet_62 (As := [.int 5]) (rest := [.long (labs (Int32.toInt64 (vpt (mV I A k) 0) - Int32.toInt64 (vpt (mV I A i) 0)))]) [.int (I (A + 1) (42 + 5)), .long (labs (Int32.toInt64 (vpt (mV I A k) 0) - Int32.toInt64 (vpt (mV I A i) 0)))] (t_X12_setting l D z n G I L A 5 hM (by first | omega | assumption | decide)) mt_X12_setting km_X12_119 ki_X12_setting ks_X12_setting hM.1 ⟨by decide, rfl⟩ rfl rfl (Nat.le_of_ble_eq_true rfl) ⟨⟨by decide, by decide⟩, by decide, by decide⟩ (fun I34 L35 eI34 eL35 => ?_)
      replace eI34 := eI34.symm; subst eI34
      replace eL35 := eL35.symm; subst eL35
      refine x_int (I (A + 1) 47) rfl ?_
      refine x_i2l 65 C dX12_areMet_65 ?_
      refine x_lc_gt 66 C 74 dX12_areMet_66 dX12_areMet_67 (by decide) (fun c36 => ?_) (fun c36 => ?_)
      · skip
        have c36o := Int64.not_le.mpr c36
        have hv0 : vNear (mV I A i) (mV I A k) (I (A + 1) 47) 0 = false := by rw [vNear_comm]; exact decide_eq_false (Int64.not_le.mpr c36)
        refine x_iconst 74 C (v := 0) dX12_areMet_74 rfl ?_
        refine x_istore_n 75 C [(3, .int 0), (4, .int 0), (0, .ref A), (1, .int (nI k)), (2, .int (nI i))] dX12_areMet_75 rfl (by decide) rfl ?_
        refine x_iinc 76 C [(4, .int 1), (3, .int 0), (0, .ref A), (1, .int (nI k)), (2, .int (nI i))] dX12_areMet_76 1 rfl (by decide) (by decide) rfl ?_
        refine x_goto 79 C 30 dX12_areMet_79 (by decide) ?_
        refine x_iload 30 C dX12_areMet_30 0 rfl ?_
        refine x_iconst 32 C (v := 4) dX12_areMet_32 rfl ?_
        refine x_icmp_ge 33 C 82 dX12_areMet_33 (by decide) (fun c37 => absurd c37 (by decide)) (fun _ => ?_)
        refine x_iload_n 36 C dX12_areMet_36 rfl 1 rfl ?_
        refine x_if_eq 37 C 74 dX12_areMet_37 (by decide) (fun _ => ?_) (fun c38 => absurd (by decide) c38)
        refine x_iconst 74 C (v := 0) dX12_areMet_74 rfl ?_
        refine x_istore_n 75 C [(3, .int 0), (4, .int 1), (0, .ref A), (1, .int (nI k)), (2, .int (nI i))] dX12_areMet_75 rfl (by decide) rfl ?_
        refine x_iinc 76 C [(4, .int 2), (3, .int 0), (0, .ref A), (1, .int (nI k)), (2, .int (nI i))] dX12_areMet_76 1 rfl (by decide) (by decide) rfl ?_
        refine x_goto 79 C 30 dX12_areMet_79 (by decide) ?_
        refine x_iload 30 C dX12_areMet_30 0 rfl ?_
        refine x_iconst 32 C (v := 4) dX12_areMet_32 rfl ?_
        refine x_icmp_ge 33 C 82 dX12_areMet_33 (by decide) (fun c39 => absurd c39 (by decide)) (fun _ => ?_)
        refine x_iload_n 36 C dX12_areMet_36 rfl 1 rfl ?_
        refine x_if_eq 37 C 74 dX12_areMet_37 (by decide) (fun _ => ?_) (fun c40 => absurd (by decide) c40)
        refine x_iconst 74 C (v := 0) dX12_areMet_74 rfl ?_
        refine x_istore_n 75 C [(3, .int 0), (4, .int 2), (0, .ref A), (1, .int (nI k)), (2, .int (nI i))] dX12_areMet_75 rfl (by decide) rfl ?_
        refine x_iinc 76 C [(4, .int 3), (3, .int 0), (0, .ref A), (1, .int (nI k)), (2, .int (nI i))] dX12_areMet_76 1 rfl (by decide) (by decide) rfl ?_
        refine x_goto 79 C 30 dX12_areMet_79 (by decide) ?_
        refine x_iload 30 C dX12_areMet_30 0 rfl ?_
        refine x_iconst 32 C (v := 4) dX12_areMet_32 rfl ?_
        refine x_icmp_ge 33 C 82 dX12_areMet_33 (by decide) (fun c41 => absurd c41 (by decide)) (fun _ => ?_)
        refine x_iload_n 36 C dX12_areMet_36 rfl 1 rfl ?_
        refine x_if_eq 37 C 74 dX12_areMet_37 (by decide) (fun _ => ?_) (fun c42 => absurd (by decide) c42)
        refine x_iconst 74 C (v := 0) dX12_areMet_74 rfl ?_
        refine x_istore_n 75 C [(3, .int 0), (4, .int 3), (0, .ref A), (1, .int (nI k)), (2, .int (nI i))] dX12_areMet_75 rfl (by decide) rfl ?_
        refine x_iinc 76 C [(4, .int 4), (3, .int 0), (0, .ref A), (1, .int (nI k)), (2, .int (nI i))] dX12_areMet_76 1 rfl (by decide) (by decide) rfl ?_
        refine x_goto 79 C 30 dX12_areMet_79 (by decide) ?_
        refine x_iload 30 C dX12_areMet_30 0 rfl ?_
        refine x_iconst 32 C (v := 4) dX12_areMet_32 rfl ?_
        refine x_icmp_ge 33 C 82 dX12_areMet_33 (by decide) (fun _ => ?_) (fun c43 => absurd (by decide) c43)
        refine x_iload_n 82 C dX12_areMet_82 rfl 1 rfl ?_
        refine x_iret 83 C dX12_areMet_83 rfl rfl (Nat.le_refl _) (xN.intro ?_)
        refine ⟨?_, rfl, rfl⟩
        simp [vMet, vNears, bI, hne, hei, hv0]
      · skip
        have c36o := Int64.not_lt.mp c36
        have hv0 : vNear (mV I A i) (mV I A k) (I (A + 1) 47) 0 = true := by rw [vNear_comm]; exact decide_eq_true (Int64.not_lt.mp c36)
        refine x_iconst 70 C (v := 1) dX12_areMet_70 rfl ?_
        refine x_goto 71 C 75 dX12_areMet_71 (by decide) ?_
        refine x_istore_n 75 C [(3, .int 1), (4, .int 0), (0, .ref A), (1, .int (nI k)), (2, .int (nI i))] dX12_areMet_75 rfl (by decide) rfl ?_
        refine x_iinc 76 C [(4, .int 1), (3, .int 1), (0, .ref A), (1, .int (nI k)), (2, .int (nI i))] dX12_areMet_76 1 rfl (by decide) (by decide) rfl ?_
        refine x_goto 79 C 30 dX12_areMet_79 (by decide) ?_
        refine x_iload 30 C dX12_areMet_30 0 rfl ?_
        refine x_iconst 32 C (v := 4) dX12_areMet_32 rfl ?_
        refine x_icmp_ge 33 C 82 dX12_areMet_33 (by decide) (fun c44 => absurd c44 (by decide)) (fun _ => ?_)
        refine x_iload_n 36 C dX12_areMet_36 rfl 1 rfl ?_
        refine x_if_eq 37 C 74 dX12_areMet_37 (by decide) (fun c45 => absurd c45 (by decide)) (fun _ => ?_)
        refine x_aload_n 40 C dX12_areMet_40 rfl 2 rfl ?_
        refine x_iload_n 41 C dX12_areMet_41 rfl 3 rfl ?_
        refine x_iload 42 C dX12_areMet_42 0 rfl ?_
        refine x_callVe 44 C dX12_areMet_44 (As := [.int (nI k), .int 1]) (rest := []) [.int (vpt (mvO (I (A + 1)) (50 + 12 * k)) 1)] (t_X12_thousandths l D z n G I L A k 1 hM (by first | omega | assumption | decide) (by first | omega | assumption | decide) (by first | omega | assumption | decide)) mt_X12_thousandths km_X12_215 ki_X12_thousandths ks_X12_thousandths hM.1 ⟨by decide, rfl⟩ rfl rfl (Nat.le_of_ble_eq_true rfl) ⟨⟨by decide, by decide⟩, by decide, by decide⟩ (fun I46 L47 eI46 eL47 => ?_)
        replace eI46 := eI46.symm; subst eI46
        replace eL47 := eL47.symm; subst eL47
        refine x_int (vpt (mV I A k) 1) rfl ?_
        refine x_i2l 47 C dX12_areMet_47 ?_
        refine x_aload_n 48 C dX12_areMet_48 rfl 2 rfl ?_
        refine x_iload_n 49 C dX12_areMet_49 rfl 4 rfl ?_
        refine x_iload 50 C dX12_areMet_50 0 rfl ?_
        refine x_callVe 52 C dX12_areMet_52 (As := [.int (nI i), .int 1]) (rest := [.long (Int32.toInt64 (vpt (mV I A k) 1))]) [.int (vpt (mvO (I (A + 1)) (50 + 12 * i)) 1), .long (Int32.toInt64 (vpt (mV I A k) 1))] (t_X12_thousandths l D z n G I L A i 1 hM (by first | omega | assumption | decide) (by first | omega | assumption | decide) hpri) mt_X12_thousandths km_X12_215 ki_X12_thousandths ks_X12_thousandths hM.1 ⟨by decide, rfl⟩ rfl rfl (Nat.le_of_ble_eq_true rfl) ⟨⟨by decide, by decide⟩, by decide, by decide⟩ (fun I48 L49 eI48 eL49 => ?_)
        replace eI48 := eI48.symm; subst eI48
        replace eL49 := eL49.symm; subst eL49
        refine x_int (vpt (mV I A i) 1) rfl ?_
        refine x_i2l 55 C dX12_areMet_55 ?_
        refine x_lsub 56 C dX12_areMet_56 ?_
        refine x_callSe 57 C dX12_areMet_57 (As := [.long ((Int32.toInt64 (vpt (mV I A k) 1)) - (Int32.toInt64 (vpt (mV I A i) 1)))]) (rest := []) [.long (abL ((Int32.toInt64 (vpt (mV I A k) 1)) - (Int32.toInt64 (vpt (mV I A i) 1))))] (t_X12_abs l D z n G I L ((Int32.toInt64 (vpt (mV I A k) 1)) - (Int32.toInt64 (vpt (mV I A i) 1))) ) mt_X12_abs km_X12_97 kt_X12_abs rfl rfl (Nat.le_of_ble_eq_true rfl) ⟨⟨by decide, by decide⟩, by decide, by decide⟩ (fun I50 L51 eI50 eL51 => ?_)
        replace eI50 := eI50.symm; subst eI50
        replace eL51 := eL51.symm; subst eL51
        refine x_long (labs (Int32.toInt64 (vpt (mV I A k) 1) - Int32.toInt64 (vpt (mV I A i) 1))) (abL_labs _) ?_
        refine x_aload_n 60 C dX12_areMet_60 rfl 2 rfl ?_
        refine x_iconst 61 C (v := 5) dX12_areMet_61 rfl ?_
        refine x_callVe 62 C dX12_areMet_62 (As := [.int 5]) (rest := [.long (labs (Int32.toInt64 (vpt (mV I A k) 1) - Int32.toInt64 (vpt (mV I A i) 1)))]) [.int (I (A + 1) (42 + 5)), .long (labs (Int32.toInt64 (vpt (mV I A k) 1) - Int32.toInt64 (vpt (mV I A i) 1)))] (t_X12_setting l D z n G I L A 5 hM (by first | omega | assumption | decide)) mt_X12_setting km_X12_119 ki_X12_setting ks_X12_setting hM.1 ⟨by decide, rfl⟩ rfl rfl (Nat.le_of_ble_eq_true rfl) ⟨⟨by decide, by decide⟩, by decide, by decide⟩ (fun I52 L53 eI52 eL53 => ?_)
        replace eI52 := eI52.symm; subst eI52
        replace eL53 := eL53.symm; subst eL53
        refine x_int (I (A + 1) 47) rfl ?_
        refine x_i2l 65 C dX12_areMet_65 ?_
        refine x_lc_gt 66 C 74 dX12_areMet_66 dX12_areMet_67 (by decide) (fun c54 => ?_) (fun c54 => ?_)
        · skip
          have c54o := Int64.not_le.mpr c54
          have hv1 : vNear (mV I A i) (mV I A k) (I (A + 1) 47) 1 = false := by rw [vNear_comm]; exact decide_eq_false (Int64.not_le.mpr c54)
          refine x_iconst 74 C (v := 0) dX12_areMet_74 rfl ?_
          refine x_istore_n 75 C [(3, .int 0), (4, .int 1), (0, .ref A), (1, .int (nI k)), (2, .int (nI i))] dX12_areMet_75 rfl (by decide) rfl ?_
          refine x_iinc 76 C [(4, .int 2), (3, .int 0), (0, .ref A), (1, .int (nI k)), (2, .int (nI i))] dX12_areMet_76 1 rfl (by decide) (by decide) rfl ?_
          refine x_goto 79 C 30 dX12_areMet_79 (by decide) ?_
          refine x_iload 30 C dX12_areMet_30 0 rfl ?_
          refine x_iconst 32 C (v := 4) dX12_areMet_32 rfl ?_
          refine x_icmp_ge 33 C 82 dX12_areMet_33 (by decide) (fun c55 => absurd c55 (by decide)) (fun _ => ?_)
          refine x_iload_n 36 C dX12_areMet_36 rfl 1 rfl ?_
          refine x_if_eq 37 C 74 dX12_areMet_37 (by decide) (fun _ => ?_) (fun c56 => absurd (by decide) c56)
          refine x_iconst 74 C (v := 0) dX12_areMet_74 rfl ?_
          refine x_istore_n 75 C [(3, .int 0), (4, .int 2), (0, .ref A), (1, .int (nI k)), (2, .int (nI i))] dX12_areMet_75 rfl (by decide) rfl ?_
          refine x_iinc 76 C [(4, .int 3), (3, .int 0), (0, .ref A), (1, .int (nI k)), (2, .int (nI i))] dX12_areMet_76 1 rfl (by decide) (by decide) rfl ?_
          refine x_goto 79 C 30 dX12_areMet_79 (by decide) ?_
          refine x_iload 30 C dX12_areMet_30 0 rfl ?_
          refine x_iconst 32 C (v := 4) dX12_areMet_32 rfl ?_
          refine x_icmp_ge 33 C 82 dX12_areMet_33 (by decide) (fun c57 => absurd c57 (by decide)) (fun _ => ?_)
          refine x_iload_n 36 C dX12_areMet_36 rfl 1 rfl ?_
          refine x_if_eq 37 C 74 dX12_areMet_37 (by decide) (fun _ => ?_) (fun c58 => absurd (by decide) c58)
          refine x_iconst 74 C (v := 0) dX12_areMet_74 rfl ?_
          refine x_istore_n 75 C [(3, .int 0), (4, .int 3), (0, .ref A), (1, .int (nI k)), (2, .int (nI i))] dX12_areMet_75 rfl (by decide) rfl ?_
          refine x_iinc 76 C [(4, .int 4), (3, .int 0), (0, .ref A), (1, .int (nI k)), (2, .int (nI i))] dX12_areMet_76 1 rfl (by decide) (by decide) rfl ?_
          refine x_goto 79 C 30 dX12_areMet_79 (by decide) ?_
          refine x_iload 30 C dX12_areMet_30 0 rfl ?_
          refine x_iconst 32 C (v := 4) dX12_areMet_32 rfl ?_
          refine x_icmp_ge 33 C 82 dX12_areMet_33 (by decide) (fun _ => ?_) (fun c59 => absurd (by decide) c59)
          refine x_iload_n 82 C dX12_areMet_82 rfl 1 rfl ?_
          refine x_iret 83 C dX12_areMet_83 rfl rfl (Nat.le_refl _) (xN.intro ?_)
          refine ⟨?_, rfl, rfl⟩
          simp [vMet, vNears, bI, hne, hei, hv0, hv1]
        · skip
          have c54o := Int64.not_lt.mp c54
          have hv1 : vNear (mV I A i) (mV I A k) (I (A + 1) 47) 1 = true := by rw [vNear_comm]; exact decide_eq_true (Int64.not_lt.mp c54)
          refine x_iconst 70 C (v := 1) dX12_areMet_70 rfl ?_
          refine x_goto 71 C 75 dX12_areMet_71 (by decide) ?_
          refine x_istore_n 75 C [(3, .int 1), (4, .int 1), (0, .ref A), (1, .int (nI k)), (2, .int (nI i))] dX12_areMet_75 rfl (by decide) rfl ?_
          refine x_iinc 76 C [(4, .int 2), (3, .int 1), (0, .ref A), (1, .int (nI k)), (2, .int (nI i))] dX12_areMet_76 1 rfl (by decide) (by decide) rfl ?_
          refine x_goto 79 C 30 dX12_areMet_79 (by decide) ?_
          refine x_iload 30 C dX12_areMet_30 0 rfl ?_
          refine x_iconst 32 C (v := 4) dX12_areMet_32 rfl ?_
          refine x_icmp_ge 33 C 82 dX12_areMet_33 (by decide) (fun c60 => absurd c60 (by decide)) (fun _ => ?_)
          refine x_iload_n 36 C dX12_areMet_36 rfl 1 rfl ?_
          refine x_if_eq 37 C 74 dX12_areMet_37 (by decide) (fun c61 => absurd c61 (by decide)) (fun _ => ?_)
          refine x_aload_n 40 C dX12_areMet_40 rfl 2 rfl ?_
          refine x_iload_n 41 C dX12_areMet_41 rfl 3 rfl ?_
          refine x_iload 42 C dX12_areMet_42 0 rfl ?_
          refine x_callVe 44 C dX12_areMet_44 (As := [.int (nI k), .int 2]) (rest := []) [.int (vpt (mvO (I (A + 1)) (50 + 12 * k)) 2)] (t_X12_thousandths l D z n G I L A k 2 hM (by first | omega | assumption | decide) (by first | omega | assumption | decide) (by first | omega | assumption | decide)) mt_X12_thousandths km_X12_215 ki_X12_thousandths ks_X12_thousandths hM.1 ⟨by decide, rfl⟩ rfl rfl (Nat.le_of_ble_eq_true rfl) ⟨⟨by decide, by decide⟩, by decide, by decide⟩ (fun I62 L63 eI62 eL63 => ?_)
          replace eI62 := eI62.symm; subst eI62
          replace eL63 := eL63.symm; subst eL63
          refine x_int (vpt (mV I A k) 2) rfl ?_
          refine x_i2l 47 C dX12_areMet_47 ?_
          refine x_aload_n 48 C dX12_areMet_48 rfl 2 rfl ?_
          refine x_iload_n 49 C dX12_areMet_49 rfl 4 rfl ?_
          refine x_iload 50 C dX12_areMet_50 0 rfl ?_
          refine x_callVe 52 C dX12_areMet_52 (As := [.int (nI i), .int 2]) (rest := [.long (Int32.toInt64 (vpt (mV I A k) 2))]) [.int (vpt (mvO (I (A + 1)) (50 + 12 * i)) 2), .long (Int32.toInt64 (vpt (mV I A k) 2))] (t_X12_thousandths l D z n G I L A i 2 hM (by first | omega | assumption | decide) (by first | omega | assumption | decide) hpri) mt_X12_thousandths km_X12_215 ki_X12_thousandths ks_X12_thousandths hM.1 ⟨by decide, rfl⟩ rfl rfl (Nat.le_of_ble_eq_true rfl) ⟨⟨by decide, by decide⟩, by decide, by decide⟩ (fun I64 L65 eI64 eL65 => ?_)
          replace eI64 := eI64.symm; subst eI64
          replace eL65 := eL65.symm; subst eL65
          refine x_int (vpt (mV I A i) 2) rfl ?_
          refine x_i2l 55 C dX12_areMet_55 ?_
          refine x_lsub 56 C dX12_areMet_56 ?_
          refine x_callSe 57 C dX12_areMet_57 (As := [.long ((Int32.toInt64 (vpt (mV I A k) 2)) - (Int32.toInt64 (vpt (mV I A i) 2)))]) (rest := []) [.long (abL ((Int32.toInt64 (vpt (mV I A k) 2)) - (Int32.toInt64 (vpt (mV I A i) 2))))] (t_X12_abs l D z n G I L ((Int32.toInt64 (vpt (mV I A k) 2)) - (Int32.toInt64 (vpt (mV I A i) 2))) ) mt_X12_abs km_X12_97 kt_X12_abs rfl rfl (Nat.le_of_ble_eq_true rfl) ⟨⟨by decide, by decide⟩, by decide, by decide⟩ (fun I66 L67 eI66 eL67 => ?_)
          replace eI66 := eI66.symm; subst eI66
          replace eL67 := eL67.symm; subst eL67
          refine x_long (labs (Int32.toInt64 (vpt (mV I A k) 2) - Int32.toInt64 (vpt (mV I A i) 2))) (abL_labs _) ?_
          refine x_aload_n 60 C dX12_areMet_60 rfl 2 rfl ?_
          refine x_iconst 61 C (v := 5) dX12_areMet_61 rfl ?_
          refine x_callVe 62 C dX12_areMet_62 (As := [.int 5]) (rest := [.long (labs (Int32.toInt64 (vpt (mV I A k) 2) - Int32.toInt64 (vpt (mV I A i) 2)))]) [.int (I (A + 1) (42 + 5)), .long (labs (Int32.toInt64 (vpt (mV I A k) 2) - Int32.toInt64 (vpt (mV I A i) 2)))] (t_X12_setting l D z n G I L A 5 hM (by first | omega | assumption | decide)) mt_X12_setting km_X12_119 ki_X12_setting ks_X12_setting hM.1 ⟨by decide, rfl⟩ rfl rfl (Nat.le_of_ble_eq_true rfl) ⟨⟨by decide, by decide⟩, by decide, by decide⟩ (fun I68 L69 eI68 eL69 => ?_)
          replace eI68 := eI68.symm; subst eI68
          replace eL69 := eL69.symm; subst eL69
          refine x_int (I (A + 1) 47) rfl ?_
          refine x_i2l 65 C dX12_areMet_65 ?_
          refine x_lc_gt 66 C 74 dX12_areMet_66 dX12_areMet_67 (by decide) (fun c70 => ?_) (fun c70 => ?_)
          · skip
            have c70o := Int64.not_le.mpr c70
            have hv2 : vNear (mV I A i) (mV I A k) (I (A + 1) 47) 2 = false := by rw [vNear_comm]; exact decide_eq_false (Int64.not_le.mpr c70)
            refine x_iconst 74 C (v := 0) dX12_areMet_74 rfl ?_
            refine x_istore_n 75 C [(3, .int 0), (4, .int 2), (0, .ref A), (1, .int (nI k)), (2, .int (nI i))] dX12_areMet_75 rfl (by decide) rfl ?_
            refine x_iinc 76 C [(4, .int 3), (3, .int 0), (0, .ref A), (1, .int (nI k)), (2, .int (nI i))] dX12_areMet_76 1 rfl (by decide) (by decide) rfl ?_
            refine x_goto 79 C 30 dX12_areMet_79 (by decide) ?_
            refine x_iload 30 C dX12_areMet_30 0 rfl ?_
            refine x_iconst 32 C (v := 4) dX12_areMet_32 rfl ?_
            refine x_icmp_ge 33 C 82 dX12_areMet_33 (by decide) (fun c71 => absurd c71 (by decide)) (fun _ => ?_)
            refine x_iload_n 36 C dX12_areMet_36 rfl 1 rfl ?_
            refine x_if_eq 37 C 74 dX12_areMet_37 (by decide) (fun _ => ?_) (fun c72 => absurd (by decide) c72)
            refine x_iconst 74 C (v := 0) dX12_areMet_74 rfl ?_
            refine x_istore_n 75 C [(3, .int 0), (4, .int 3), (0, .ref A), (1, .int (nI k)), (2, .int (nI i))] dX12_areMet_75 rfl (by decide) rfl ?_
            refine x_iinc 76 C [(4, .int 4), (3, .int 0), (0, .ref A), (1, .int (nI k)), (2, .int (nI i))] dX12_areMet_76 1 rfl (by decide) (by decide) rfl ?_
            refine x_goto 79 C 30 dX12_areMet_79 (by decide) ?_
            refine x_iload 30 C dX12_areMet_30 0 rfl ?_
            refine x_iconst 32 C (v := 4) dX12_areMet_32 rfl ?_
            refine x_icmp_ge 33 C 82 dX12_areMet_33 (by decide) (fun _ => ?_) (fun c73 => absurd (by decide) c73)
            refine x_iload_n 82 C dX12_areMet_82 rfl 1 rfl ?_
            refine x_iret 83 C dX12_areMet_83 rfl rfl (Nat.le_refl _) (xN.intro ?_)
            refine ⟨?_, rfl, rfl⟩
            simp [vMet, vNears, bI, hne, hei, hv0, hv1, hv2]
          · skip
            have c70o := Int64.not_lt.mp c70
            have hv2 : vNear (mV I A i) (mV I A k) (I (A + 1) 47) 2 = true := by rw [vNear_comm]; exact decide_eq_true (Int64.not_lt.mp c70)
            refine x_iconst 70 C (v := 1) dX12_areMet_70 rfl ?_
            refine x_goto 71 C 75 dX12_areMet_71 (by decide) ?_
            refine x_istore_n 75 C [(3, .int 1), (4, .int 2), (0, .ref A), (1, .int (nI k)), (2, .int (nI i))] dX12_areMet_75 rfl (by decide) rfl ?_
            refine x_iinc 76 C [(4, .int 3), (3, .int 1), (0, .ref A), (1, .int (nI k)), (2, .int (nI i))] dX12_areMet_76 1 rfl (by decide) (by decide) rfl ?_
            refine x_goto 79 C 30 dX12_areMet_79 (by decide) ?_
            refine x_iload 30 C dX12_areMet_30 0 rfl ?_
            refine x_iconst 32 C (v := 4) dX12_areMet_32 rfl ?_
            refine x_icmp_ge 33 C 82 dX12_areMet_33 (by decide) (fun c74 => absurd c74 (by decide)) (fun _ => ?_)
            refine x_iload_n 36 C dX12_areMet_36 rfl 1 rfl ?_
            refine x_if_eq 37 C 74 dX12_areMet_37 (by decide) (fun c75 => absurd c75 (by decide)) (fun _ => ?_)
            refine x_aload_n 40 C dX12_areMet_40 rfl 2 rfl ?_
            refine x_iload_n 41 C dX12_areMet_41 rfl 3 rfl ?_
            refine x_iload 42 C dX12_areMet_42 0 rfl ?_
            refine x_callVe 44 C dX12_areMet_44 (As := [.int (nI k), .int 3]) (rest := []) [.int (vpt (mvO (I (A + 1)) (50 + 12 * k)) 3)] (t_X12_thousandths l D z n G I L A k 3 hM (by first | omega | assumption | decide) (by first | omega | assumption | decide) (by first | omega | assumption | decide)) mt_X12_thousandths km_X12_215 ki_X12_thousandths ks_X12_thousandths hM.1 ⟨by decide, rfl⟩ rfl rfl (Nat.le_of_ble_eq_true rfl) ⟨⟨by decide, by decide⟩, by decide, by decide⟩ (fun I76 L77 eI76 eL77 => ?_)
            replace eI76 := eI76.symm; subst eI76
            replace eL77 := eL77.symm; subst eL77
            refine x_int (vpt (mV I A k) 3) rfl ?_
            refine x_i2l 47 C dX12_areMet_47 ?_
            refine x_aload_n 48 C dX12_areMet_48 rfl 2 rfl ?_
            refine x_iload_n 49 C dX12_areMet_49 rfl 4 rfl ?_
            refine x_iload 50 C dX12_areMet_50 0 rfl ?_
            refine x_callVe 52 C dX12_areMet_52 (As := [.int (nI i), .int 3]) (rest := [.long (Int32.toInt64 (vpt (mV I A k) 3))]) [.int (vpt (mvO (I (A + 1)) (50 + 12 * i)) 3), .long (Int32.toInt64 (vpt (mV I A k) 3))] (t_X12_thousandths l D z n G I L A i 3 hM (by first | omega | assumption | decide) (by first | omega | assumption | decide) hpri) mt_X12_thousandths km_X12_215 ki_X12_thousandths ks_X12_thousandths hM.1 ⟨by decide, rfl⟩ rfl rfl (Nat.le_of_ble_eq_true rfl) ⟨⟨by decide, by decide⟩, by decide, by decide⟩ (fun I78 L79 eI78 eL79 => ?_)
            replace eI78 := eI78.symm; subst eI78
            replace eL79 := eL79.symm; subst eL79
            refine x_int (vpt (mV I A i) 3) rfl ?_
            refine x_i2l 55 C dX12_areMet_55 ?_
            refine x_lsub 56 C dX12_areMet_56 ?_
            refine x_callSe 57 C dX12_areMet_57 (As := [.long ((Int32.toInt64 (vpt (mV I A k) 3)) - (Int32.toInt64 (vpt (mV I A i) 3)))]) (rest := []) [.long (abL ((Int32.toInt64 (vpt (mV I A k) 3)) - (Int32.toInt64 (vpt (mV I A i) 3))))] (t_X12_abs l D z n G I L ((Int32.toInt64 (vpt (mV I A k) 3)) - (Int32.toInt64 (vpt (mV I A i) 3))) ) mt_X12_abs km_X12_97 kt_X12_abs rfl rfl (Nat.le_of_ble_eq_true rfl) ⟨⟨by decide, by decide⟩, by decide, by decide⟩ (fun I80 L81 eI80 eL81 => ?_)
            replace eI80 := eI80.symm; subst eI80
            replace eL81 := eL81.symm; subst eL81
            refine x_long (labs (Int32.toInt64 (vpt (mV I A k) 3) - Int32.toInt64 (vpt (mV I A i) 3))) (abL_labs _) ?_
            refine x_aload_n 60 C dX12_areMet_60 rfl 2 rfl ?_
            refine x_iconst 61 C (v := 5) dX12_areMet_61 rfl ?_
            refine x_callVe 62 C dX12_areMet_62 (As := [.int 5]) (rest := [.long (labs (Int32.toInt64 (vpt (mV I A k) 3) - Int32.toInt64 (vpt (mV I A i) 3)))]) [.int (I (A + 1) (42 + 5)), .long (labs (Int32.toInt64 (vpt (mV I A k) 3) - Int32.toInt64 (vpt (mV I A i) 3)))] (t_X12_setting l D z n G I L A 5 hM (by first | omega | assumption | decide)) mt_X12_setting km_X12_119 ki_X12_setting ks_X12_setting hM.1 ⟨by decide, rfl⟩ rfl rfl (Nat.le_of_ble_eq_true rfl) ⟨⟨by decide, by decide⟩, by decide, by decide⟩ (fun I82 L83 eI82 eL83 => ?_)
            replace eI82 := eI82.symm; subst eI82
            replace eL83 := eL83.symm; subst eL83
            refine x_int (I (A + 1) 47) rfl ?_
            refine x_i2l 65 C dX12_areMet_65 ?_
            refine x_lc_gt 66 C 74 dX12_areMet_66 dX12_areMet_67 (by decide) (fun c84 => ?_) (fun c84 => ?_)
            · skip
              have c84o := Int64.not_le.mpr c84
              have hv3 : vNear (mV I A i) (mV I A k) (I (A + 1) 47) 3 = false := by rw [vNear_comm]; exact decide_eq_false (Int64.not_le.mpr c84)
              refine x_iconst 74 C (v := 0) dX12_areMet_74 rfl ?_
              refine x_istore_n 75 C [(3, .int 0), (4, .int 3), (0, .ref A), (1, .int (nI k)), (2, .int (nI i))] dX12_areMet_75 rfl (by decide) rfl ?_
              refine x_iinc 76 C [(4, .int 4), (3, .int 0), (0, .ref A), (1, .int (nI k)), (2, .int (nI i))] dX12_areMet_76 1 rfl (by decide) (by decide) rfl ?_
              refine x_goto 79 C 30 dX12_areMet_79 (by decide) ?_
              refine x_iload 30 C dX12_areMet_30 0 rfl ?_
              refine x_iconst 32 C (v := 4) dX12_areMet_32 rfl ?_
              refine x_icmp_ge 33 C 82 dX12_areMet_33 (by decide) (fun _ => ?_) (fun c85 => absurd (by decide) c85)
              refine x_iload_n 82 C dX12_areMet_82 rfl 1 rfl ?_
              refine x_iret 83 C dX12_areMet_83 rfl rfl (Nat.le_refl _) (xN.intro ?_)
              refine ⟨?_, rfl, rfl⟩
              simp [vMet, vNears, bI, hne, hei, hv0, hv1, hv2, hv3]
            · skip
              have c84o := Int64.not_lt.mp c84
              have hv3 : vNear (mV I A i) (mV I A k) (I (A + 1) 47) 3 = true := by rw [vNear_comm]; exact decide_eq_true (Int64.not_lt.mp c84)
              refine x_iconst 70 C (v := 1) dX12_areMet_70 rfl ?_
              refine x_goto 71 C 75 dX12_areMet_71 (by decide) ?_
              refine x_istore_n 75 C [(3, .int 1), (4, .int 3), (0, .ref A), (1, .int (nI k)), (2, .int (nI i))] dX12_areMet_75 rfl (by decide) rfl ?_
              refine x_iinc 76 C [(4, .int 4), (3, .int 1), (0, .ref A), (1, .int (nI k)), (2, .int (nI i))] dX12_areMet_76 1 rfl (by decide) (by decide) rfl ?_
              refine x_goto 79 C 30 dX12_areMet_79 (by decide) ?_
              refine x_iload 30 C dX12_areMet_30 0 rfl ?_
              refine x_iconst 32 C (v := 4) dX12_areMet_32 rfl ?_
              refine x_icmp_ge 33 C 82 dX12_areMet_33 (by decide) (fun _ => ?_) (fun c86 => absurd (by decide) c86)
              refine x_iload_n 82 C dX12_areMet_82 rfl 1 rfl ?_
              refine x_iret 83 C dX12_areMet_83 rfl rfl (Nat.le_refl _) (xN.intro ?_)
              refine ⟨?_, rfl, rfl⟩
              simp [vMet, vNears, bI, hne, hei, hv0, hv1, hv2, hv3]
theorem dX12_firstMet_0 : decode cX12_firstMet 0 = .ok (.iconst 0, 1) := by decide +kernel
theorem dX12_firstMet_1 : decode cX12_firstMet 1 = .ok (.istore_n 2, 1) := by decide +kernel
theorem dX12_firstMet_2 : decode cX12_firstMet 2 = .ok (.iload_n 2, 1) := by decide +kernel
theorem dX12_firstMet_3 : decode cX12_firstMet 3 = .ok (.aload_n 0, 1) := by decide +kernel
theorem dX12_firstMet_4 : decode cX12_firstMet 4 = .ok (.invokevirtual 67, 3) := by decide +kernel
theorem dX12_firstMet_7 : decode cX12_firstMet 7 = .ok (.if_icmp .ge 20, 3) := by decide +kernel
theorem dX12_firstMet_10 : decode cX12_firstMet 10 = .ok (.aload_n 0, 1) := by decide +kernel
theorem dX12_firstMet_11 : decode cX12_firstMet 11 = .ok (.iload_n 1, 1) := by decide +kernel
theorem dX12_firstMet_12 : decode cX12_firstMet 12 = .ok (.iload_n 2, 1) := by decide +kernel
theorem dX12_firstMet_13 : decode cX12_firstMet 13 = .ok (.invokevirtual 221, 3) := by decide +kernel
theorem dX12_firstMet_16 : decode cX12_firstMet 16 = .ok (.ifCond .eq 5, 3) := by decide +kernel
theorem dX12_firstMet_19 : decode cX12_firstMet 19 = .ok (.iload_n 2, 1) := by decide +kernel
theorem dX12_firstMet_20 : decode cX12_firstMet 20 = .ok (.ireturn, 1) := by decide +kernel
theorem dX12_firstMet_21 : decode cX12_firstMet 21 = .ok (.iinc 2 1, 3) := by decide +kernel
theorem dX12_firstMet_24 : decode cX12_firstMet 24 = .ok (.goto (-22), 3) := by decide +kernel
theorem dX12_firstMet_27 : decode cX12_firstMet 27 = .ok (.iconst (-1), 1) := by decide +kernel
theorem dX12_firstMet_28 : decode cX12_firstMet 28 = .ok (.ireturn, 1) := by decide +kernel
set_option maxHeartbeats 1000000 in
set_option maxRecDepth 100000 in
theorem t_X12_firstMet (l : Launch) (D : xD) (z n : Nat) (G : xG) (I : xI) (L : xL) (A : Nat) (k : Nat) (dx : Nat) (dy : Nat) (hM : shMo G A) (hdx : I (A + 1) 40 = nI dx) (hdy : I (A + 1) 41 = nI dy) (hd3 : dx * dy ≤ 9) (hku : k < dx * dy) (hprs : ∀ i, i < dx * dy → I (A + 1) (50 + 12 * i + 3) = 10 ∨ I (A + 1) (50 + 12 * i + 3) = 18) (hend : I (A + 1) (50 + 12 * k + 5) = 1) : xM0 l D z yX12_firstMet cX12_firstMet 3 (some .int) 3 67 [.ref A, .int (nI k)] n G I L (xE (some (.int (oI (findN (vMet (mV I A) (I (A + 1) 47) k) (dx * dy))))) I L) := by
  refine xM.of (by decide) (Nat.le_of_ble_eq_true rfl) (fun p e s m args below meth c C hnm hsz => ?_)
  refine x_lv [(0, .ref A), (1, .int (nI k))] rfl ?_
  refine x_iconst 0 C (v := 0) dX12_firstMet_0 rfl ?_
  refine x_istore_n 1 C [(2, .int 0), (0, .ref A), (1, .int (nI k))] dX12_firstMet_1 rfl (by decide) rfl ?_
  have loop2 : ∀ (fuel : Nat) (i : Nat), (i ≤ dx * dy) → (dx * dy + 1 ≤ i + fuel) → (findN (vMet (mV I A) (I (A + 1) 47) k) i = none) → X p l e (xRm 3 67 0 0) s m args below meth c D z 3 (MQ below (xQc D z n (xN n G (xE (some (.int (oI (findN (vMet (mV I A) (I (A + 1) 47) k) (dx * dy))))) I L))) args s 0 0 (fun a => z ≤ a)) 0 0 n G I L 2 [(0, .ref A), (1, .int (nI k)), (2, .int (nI i))] [] := by
    intro fuel
    induction fuel with
    | zero =>
      intro i hi hf hn
      exact absurd hf (by omega)
    | succ fuel ih =>
      intro i hi hf hn
      refine x_iload_n 2 C dX12_firstMet_2 rfl 2 rfl ?_
      refine x_aload_n 3 C dX12_firstMet_3 rfl 0 rfl ?_
      refine x_callVe 4 C dX12_firstMet_4 (As := []) (rest := [.int (nI i)]) [.int (nI (dx * dy)), .int (nI i)] (t_X12_paths l D z n G I L A dx dy hM hdx hdy) mt_X12_paths km_X12_67 ki_X12_paths ks_X12_paths hM.1 ⟨by decide, rfl⟩ rfl rfl (Nat.le_of_ble_eq_true rfl) ⟨⟨by decide, by decide⟩, by decide, by decide⟩ (fun I1 L2 eI1 eL2 => ?_)
      replace eI1 := eI1.symm; subst eI1
      replace eL2 := eL2.symm; subst eL2
      refine x_icmp_ge 7 C 27 dX12_firstMet_7 (by decide) (fun c3 => ?_) (fun c3 => ?_)
      · skip
        have c3n : (dx * dy) ≤ i := (nI_leI (a := (dx * dy)) (b := i) (by omega) (by omega)).mp c3
        have c3m : ¬ (i < (dx * dy)) := by omega
        have c3o := Int32.not_lt.mpr c3
        refine x_iconst 27 C (v := (-1)) dX12_firstMet_27 rfl ?_
        refine x_iret 28 C dX12_firstMet_28 rfl rfl (Nat.le_refl _) (xN.intro ?_)
        have hiU : i = dx * dy := by omega
        subst hiU
        exact ⟨by rw [hn]; rfl, rfl, rfl⟩
      · skip
        have c3n : ¬ ((dx * dy) ≤ i) := fun h => c3 ((nI_leI (a := (dx * dy)) (b := i) (by omega) (by omega)).mpr h)
        have c3m : i < (dx * dy) := by omega
        have c3o := Int32.not_le.mp c3
        refine x_aload_n 10 C dX12_firstMet_10 rfl 0 rfl ?_
        refine x_iload_n 11 C dX12_firstMet_11 rfl 1 rfl ?_
        refine x_iload_n 12 C dX12_firstMet_12 rfl 2 rfl ?_
        refine x_callVe 13 C dX12_firstMet_13 (As := [.int (nI k), .int (nI i)]) (rest := []) [.int (bI (vMet (mV I A) (I (A + 1) 47) k i))] (t_X12_areMet l D z n G I L A k i hM (by first | omega | assumption | decide) (by first | omega | assumption | decide) (hprs k hku) (hprs i (by omega)) (by first | assumption | omega | decide)) mt_X12_areMet km_X12_221 ki_X12_areMet ks_X12_areMet hM.1 ⟨by decide, rfl⟩ rfl rfl (Nat.le_of_ble_eq_true rfl) ⟨⟨by decide, by decide⟩, by decide, by decide⟩ (fun I4 L5 eI4 eL5 => ?_)
        replace eI4 := eI4.symm; subst eI4
        replace eL5 := eL5.symm; subst eL5
        refine x_if_eq 16 C 21 dX12_firstMet_16 (by decide) (fun c6 => ?_) (fun c6 => ?_)
        · skip
          have hmet : vMet (mV I A) (I (A + 1) 47) k i = false := bI_0.mp c6
          refine x_iinc 21 C [(2, .int (nI (i + 1))), (0, .ref A), (1, .int (nI k))] dX12_firstMet_21 2 rfl (nI_add i 1) (by decide) rfl ?_
          refine x_goto 24 C 2 dX12_firstMet_24 (by decide) ?_
          refine x_sub [(0, .ref A), (1, .int (nI k)), (2, .int (nI (i + 1)))] [1, 2, 0] rfl ?_
          exact ih (i + 1) (by omega) (by omega) (findN_none hn hmet)
        · skip
          have hmet : vMet (mV I A) (I (A + 1) 47) k i = true := bI_n0.mp c6
          refine x_iload_n 19 C dX12_firstMet_19 rfl 2 rfl ?_
          refine x_iret 20 C dX12_firstMet_20 rfl rfl (Nat.le_refl _) (xN.intro ?_)
          exact ⟨by rw [findN_keep (findN_some hn hmet) (dx * dy) (by omega)]; rfl, rfl, rfl⟩
  refine x_sub [(0, .ref A), (1, .int (nI k)), (2, .int 0)] [1, 2, 0] rfl ?_
  exact loop2 (dx * dy + 1) 0 (by omega) (by omega) rfl
theorem dX12_isAhead_0 : decode cX12_isAhead 0 = .ok (.iconst 0, 1) := by decide +kernel
theorem dX12_isAhead_1 : decode cX12_isAhead 1 = .ok (.istore_n 3, 1) := by decide +kernel
theorem dX12_isAhead_2 : decode cX12_isAhead 2 = .ok (.iload_n 3, 1) := by decide +kernel
theorem dX12_isAhead_3 : decode cX12_isAhead 3 = .ok (.iconst 4, 1) := by decide +kernel
theorem dX12_isAhead_4 : decode cX12_isAhead 4 = .ok (.if_icmp .ge 45, 3) := by decide +kernel
theorem dX12_isAhead_7 : decode cX12_isAhead 7 = .ok (.aload_n 0, 1) := by decide +kernel
theorem dX12_isAhead_8 : decode cX12_isAhead 8 = .ok (.iload_n 1, 1) := by decide +kernel
theorem dX12_isAhead_9 : decode cX12_isAhead 9 = .ok (.iload_n 3, 1) := by decide +kernel
theorem dX12_isAhead_10 : decode cX12_isAhead 10 = .ok (.invokevirtual 215, 3) := by decide +kernel
theorem dX12_isAhead_13 : decode cX12_isAhead 13 = .ok (.istore 4, 2) := by decide +kernel
theorem dX12_isAhead_15 : decode cX12_isAhead 15 = .ok (.aload_n 0, 1) := by decide +kernel
theorem dX12_isAhead_16 : decode cX12_isAhead 16 = .ok (.iload_n 2, 1) := by decide +kernel
theorem dX12_isAhead_17 : decode cX12_isAhead 17 = .ok (.iload_n 3, 1) := by decide +kernel
theorem dX12_isAhead_18 : decode cX12_isAhead 18 = .ok (.invokevirtual 215, 3) := by decide +kernel
theorem dX12_isAhead_21 : decode cX12_isAhead 21 = .ok (.istore 5, 2) := by decide +kernel
theorem dX12_isAhead_23 : decode cX12_isAhead 23 = .ok (.iload 4, 2) := by decide +kernel
theorem dX12_isAhead_25 : decode cX12_isAhead 25 = .ok (.iload 5, 2) := by decide +kernel
theorem dX12_isAhead_27 : decode cX12_isAhead 27 = .ok (.if_icmp .eq 16, 3) := by decide +kernel
theorem dX12_isAhead_30 : decode cX12_isAhead 30 = .ok (.iload 4, 2) := by decide +kernel
theorem dX12_isAhead_32 : decode cX12_isAhead 32 = .ok (.iload 5, 2) := by decide +kernel
theorem dX12_isAhead_34 : decode cX12_isAhead 34 = .ok (.if_icmp .ge 7, 3) := by decide +kernel
theorem dX12_isAhead_37 : decode cX12_isAhead 37 = .ok (.iconst 1, 1) := by decide +kernel
theorem dX12_isAhead_38 : decode cX12_isAhead 38 = .ok (.goto 4, 3) := by decide +kernel
theorem dX12_isAhead_41 : decode cX12_isAhead 41 = .ok (.iconst 0, 1) := by decide +kernel
theorem dX12_isAhead_42 : decode cX12_isAhead 42 = .ok (.ireturn, 1) := by decide +kernel
theorem dX12_isAhead_43 : decode cX12_isAhead 43 = .ok (.iinc 3 1, 3) := by decide +kernel
theorem dX12_isAhead_46 : decode cX12_isAhead 46 = .ok (.goto (-44), 3) := by decide +kernel
theorem dX12_isAhead_49 : decode cX12_isAhead 49 = .ok (.iload_n 1, 1) := by decide +kernel
theorem dX12_isAhead_50 : decode cX12_isAhead 50 = .ok (.iload_n 2, 1) := by decide +kernel
theorem dX12_isAhead_51 : decode cX12_isAhead 51 = .ok (.if_icmp .ge 7, 3) := by decide +kernel
theorem dX12_isAhead_54 : decode cX12_isAhead 54 = .ok (.iconst 1, 1) := by decide +kernel
theorem dX12_isAhead_55 : decode cX12_isAhead 55 = .ok (.goto 4, 3) := by decide +kernel
theorem dX12_isAhead_58 : decode cX12_isAhead 58 = .ok (.iconst 0, 1) := by decide +kernel
theorem dX12_isAhead_59 : decode cX12_isAhead 59 = .ok (.ireturn, 1) := by decide +kernel
set_option maxHeartbeats 1000000 in
set_option maxRecDepth 100000 in
theorem t_X12_isAhead (l : Launch) (D : xD) (z n : Nat) (G : xG) (I : xI) (L : xL) (A : Nat) (i : Nat) (k : Nat) (hM : shMo G A) (hk : k < 9) (hi : i < 9) (hpr : I (A + 1) (50 + 12 * k + 3) = 10 ∨ I (A + 1) (50 + 12 * k + 3) = 18) (hpri : I (A + 1) (50 + 12 * i + 3) = 10 ∨ I (A + 1) (50 + 12 * i + 3) = 18) : xM0 l D z yX12_isAhead cX12_isAhead 6 (some .boolean) 2 43 [.ref A, .int (nI i), .int (nI k)] n G I L (xE (some (.int (bI (vAhd (mV I A) i k)))) I L) := by
  refine xM.of (by decide) (Nat.le_of_ble_eq_true rfl) (fun p e s m args below meth c C hnm hsz => ?_)
  refine x_lv [(0, .ref A), (1, .int (nI i)), (2, .int (nI k))] rfl ?_
  refine x_iconst 0 C (v := 0) dX12_isAhead_0 rfl ?_
  refine x_istore_n 1 C [(3, .int 0), (0, .ref A), (1, .int (nI i)), (2, .int (nI k))] dX12_isAhead_1 rfl (by decide) rfl ?_
  refine x_iload_n 2 C dX12_isAhead_2 rfl 0 rfl ?_
  refine x_iconst 3 C (v := 4) dX12_isAhead_3 rfl ?_
  refine x_icmp_ge 4 C 49 dX12_isAhead_4 (by decide) (fun c1 => absurd c1 (by decide)) (fun _ => ?_)
  refine x_aload_n 7 C dX12_isAhead_7 rfl 1 rfl ?_
  refine x_iload_n 8 C dX12_isAhead_8 rfl 2 rfl ?_
  refine x_iload_n 9 C dX12_isAhead_9 rfl 0 rfl ?_
  refine x_callVe 10 C dX12_isAhead_10 (As := [.int (nI i), .int 0]) (rest := []) [.int (vpt (mvO (I (A + 1)) (50 + 12 * i)) 0)] (t_X12_thousandths l D z n G I L A i 0 hM (by first | omega | assumption | decide) (by first | omega | assumption | decide) hpri) mt_X12_thousandths km_X12_215 ki_X12_thousandths ks_X12_thousandths hM.1 ⟨by decide, rfl⟩ rfl rfl (Nat.le_of_ble_eq_true rfl) ⟨⟨by decide, by decide⟩, by decide, by decide⟩ (fun I2 L3 eI2 eL3 => ?_)
  replace eI2 := eI2.symm; subst eI2
  replace eL3 := eL3.symm; subst eL3
  refine x_int (vpt (mV I A i) 0) rfl ?_
  refine x_istore 13 C [(4, .int (vpt (mV I A i) 0)), (3, .int 0), (0, .ref A), (1, .int (nI i)), (2, .int (nI k))] dX12_isAhead_13 (by decide) rfl ?_
  refine x_aload_n 15 C dX12_isAhead_15 rfl 2 rfl ?_
  refine x_iload_n 16 C dX12_isAhead_16 rfl 4 rfl ?_
  refine x_iload_n 17 C dX12_isAhead_17 rfl 1 rfl ?_
  refine x_callVe 18 C dX12_isAhead_18 (As := [.int (nI k), .int 0]) (rest := []) [.int (vpt (mvO (I (A + 1)) (50 + 12 * k)) 0)] (t_X12_thousandths l D z n G I L A k 0 hM (by first | omega | assumption | decide) (by first | omega | assumption | decide) hpr) mt_X12_thousandths km_X12_215 ki_X12_thousandths ks_X12_thousandths hM.1 ⟨by decide, rfl⟩ rfl rfl (Nat.le_of_ble_eq_true rfl) ⟨⟨by decide, by decide⟩, by decide, by decide⟩ (fun I4 L5 eI4 eL5 => ?_)
  replace eI4 := eI4.symm; subst eI4
  replace eL5 := eL5.symm; subst eL5
  refine x_int (vpt (mV I A k) 0) rfl ?_
  refine x_istore 21 C [(5, .int (vpt (mV I A k) 0)), (4, .int (vpt (mV I A i) 0)), (3, .int 0), (0, .ref A), (1, .int (nI i)), (2, .int (nI k))] dX12_isAhead_21 (by decide) rfl ?_
  refine x_iload 23 C dX12_isAhead_23 1 rfl ?_
  refine x_iload 25 C dX12_isAhead_25 0 rfl ?_
  refine x_icmp_eq 27 C 43 dX12_isAhead_27 (by decide) (fun c6 => ?_) (fun c6 => ?_)
  · skip
    have ie0 : icmp (vpt (mV I A i) 0) (vpt (mV I A k) 0) = 0 := by rw [c6]; unfold icmp; rw [if_neg (Int32.lt_irrefl), if_pos rfl]
    refine x_iinc 43 C [(3, .int 1), (5, .int (vpt (mV I A k) 0)), (4, .int (vpt (mV I A i) 0)), (0, .ref A), (1, .int (nI i)), (2, .int (nI k))] dX12_isAhead_43 2 rfl (by decide) (by decide) rfl ?_
    refine x_goto 46 C 2 dX12_isAhead_46 (by decide) ?_
    refine x_iload_n 2 C dX12_isAhead_2 rfl 0 rfl ?_
    refine x_iconst 3 C (v := 4) dX12_isAhead_3 rfl ?_
    refine x_icmp_ge 4 C 49 dX12_isAhead_4 (by decide) (fun c7 => absurd c7 (by decide)) (fun _ => ?_)
    refine x_aload_n 7 C dX12_isAhead_7 rfl 3 rfl ?_
    refine x_iload_n 8 C dX12_isAhead_8 rfl 4 rfl ?_
    refine x_iload_n 9 C dX12_isAhead_9 rfl 0 rfl ?_
    refine x_callVe 10 C dX12_isAhead_10 (As := [.int (nI i), .int 1]) (rest := []) [.int (vpt (mvO (I (A + 1)) (50 + 12 * i)) 1)] (t_X12_thousandths l D z n G I L A i 1 hM (by first | omega | assumption | decide) (by first | omega | assumption | decide) hpri) mt_X12_thousandths km_X12_215 ki_X12_thousandths ks_X12_thousandths hM.1 ⟨by decide, rfl⟩ rfl rfl (Nat.le_of_ble_eq_true rfl) ⟨⟨by decide, by decide⟩, by decide, by decide⟩ (fun I8 L9 eI8 eL9 => ?_)
    replace eI8 := eI8.symm; subst eI8
    replace eL9 := eL9.symm; subst eL9
    refine x_int (vpt (mV I A i) 1) rfl ?_
    refine x_istore 13 C [(4, .int (vpt (mV I A i) 1)), (3, .int 1), (5, .int (vpt (mV I A k) 0)), (0, .ref A), (1, .int (nI i)), (2, .int (nI k))] dX12_isAhead_13 (by decide) rfl ?_
    refine x_aload_n 15 C dX12_isAhead_15 rfl 3 rfl ?_
    refine x_iload_n 16 C dX12_isAhead_16 rfl 5 rfl ?_
    refine x_iload_n 17 C dX12_isAhead_17 rfl 1 rfl ?_
    refine x_callVe 18 C dX12_isAhead_18 (As := [.int (nI k), .int 1]) (rest := []) [.int (vpt (mvO (I (A + 1)) (50 + 12 * k)) 1)] (t_X12_thousandths l D z n G I L A k 1 hM (by first | omega | assumption | decide) (by first | omega | assumption | decide) hpr) mt_X12_thousandths km_X12_215 ki_X12_thousandths ks_X12_thousandths hM.1 ⟨by decide, rfl⟩ rfl rfl (Nat.le_of_ble_eq_true rfl) ⟨⟨by decide, by decide⟩, by decide, by decide⟩ (fun I10 L11 eI10 eL11 => ?_)
    replace eI10 := eI10.symm; subst eI10
    replace eL11 := eL11.symm; subst eL11
    refine x_int (vpt (mV I A k) 1) rfl ?_
    refine x_istore 21 C [(5, .int (vpt (mV I A k) 1)), (4, .int (vpt (mV I A i) 1)), (3, .int 1), (0, .ref A), (1, .int (nI i)), (2, .int (nI k))] dX12_isAhead_21 (by decide) rfl ?_
    refine x_iload 23 C dX12_isAhead_23 1 rfl ?_
    refine x_iload 25 C dX12_isAhead_25 0 rfl ?_
    refine x_icmp_eq 27 C 43 dX12_isAhead_27 (by decide) (fun c12 => ?_) (fun c12 => ?_)
    · skip
      have ie1 : icmp (vpt (mV I A i) 1) (vpt (mV I A k) 1) = 0 := by rw [c12]; unfold icmp; rw [if_neg (Int32.lt_irrefl), if_pos rfl]
      refine x_iinc 43 C [(3, .int 2), (5, .int (vpt (mV I A k) 1)), (4, .int (vpt (mV I A i) 1)), (0, .ref A), (1, .int (nI i)), (2, .int (nI k))] dX12_isAhead_43 2 rfl (by decide) (by decide) rfl ?_
      refine x_goto 46 C 2 dX12_isAhead_46 (by decide) ?_
      refine x_iload_n 2 C dX12_isAhead_2 rfl 0 rfl ?_
      refine x_iconst 3 C (v := 4) dX12_isAhead_3 rfl ?_
      refine x_icmp_ge 4 C 49 dX12_isAhead_4 (by decide) (fun c13 => absurd c13 (by decide)) (fun _ => ?_)
      refine x_aload_n 7 C dX12_isAhead_7 rfl 3 rfl ?_
      refine x_iload_n 8 C dX12_isAhead_8 rfl 4 rfl ?_
      refine x_iload_n 9 C dX12_isAhead_9 rfl 0 rfl ?_
      refine x_callVe 10 C dX12_isAhead_10 (As := [.int (nI i), .int 2]) (rest := []) [.int (vpt (mvO (I (A + 1)) (50 + 12 * i)) 2)] (t_X12_thousandths l D z n G I L A i 2 hM (by first | omega | assumption | decide) (by first | omega | assumption | decide) hpri) mt_X12_thousandths km_X12_215 ki_X12_thousandths ks_X12_thousandths hM.1 ⟨by decide, rfl⟩ rfl rfl (Nat.le_of_ble_eq_true rfl) ⟨⟨by decide, by decide⟩, by decide, by decide⟩ (fun I14 L15 eI14 eL15 => ?_)
      replace eI14 := eI14.symm; subst eI14
      replace eL15 := eL15.symm; subst eL15
      refine x_int (vpt (mV I A i) 2) rfl ?_
      refine x_istore 13 C [(4, .int (vpt (mV I A i) 2)), (3, .int 2), (5, .int (vpt (mV I A k) 1)), (0, .ref A), (1, .int (nI i)), (2, .int (nI k))] dX12_isAhead_13 (by decide) rfl ?_
      refine x_aload_n 15 C dX12_isAhead_15 rfl 3 rfl ?_
      refine x_iload_n 16 C dX12_isAhead_16 rfl 5 rfl ?_
      refine x_iload_n 17 C dX12_isAhead_17 rfl 1 rfl ?_
      refine x_callVe 18 C dX12_isAhead_18 (As := [.int (nI k), .int 2]) (rest := []) [.int (vpt (mvO (I (A + 1)) (50 + 12 * k)) 2)] (t_X12_thousandths l D z n G I L A k 2 hM (by first | omega | assumption | decide) (by first | omega | assumption | decide) hpr) mt_X12_thousandths km_X12_215 ki_X12_thousandths ks_X12_thousandths hM.1 ⟨by decide, rfl⟩ rfl rfl (Nat.le_of_ble_eq_true rfl) ⟨⟨by decide, by decide⟩, by decide, by decide⟩ (fun I16 L17 eI16 eL17 => ?_)
      replace eI16 := eI16.symm; subst eI16
      replace eL17 := eL17.symm; subst eL17
      refine x_int (vpt (mV I A k) 2) rfl ?_
      refine x_istore 21 C [(5, .int (vpt (mV I A k) 2)), (4, .int (vpt (mV I A i) 2)), (3, .int 2), (0, .ref A), (1, .int (nI i)), (2, .int (nI k))] dX12_isAhead_21 (by decide) rfl ?_
      refine x_iload 23 C dX12_isAhead_23 1 rfl ?_
      refine x_iload 25 C dX12_isAhead_25 0 rfl ?_
      refine x_icmp_eq 27 C 43 dX12_isAhead_27 (by decide) (fun c18 => ?_) (fun c18 => ?_)
      · skip
        have ie2 : icmp (vpt (mV I A i) 2) (vpt (mV I A k) 2) = 0 := by rw [c18]; unfold icmp; rw [if_neg (Int32.lt_irrefl), if_pos rfl]
        refine x_iinc 43 C [(3, .int 3), (5, .int (vpt (mV I A k) 2)), (4, .int (vpt (mV I A i) 2)), (0, .ref A), (1, .int (nI i)), (2, .int (nI k))] dX12_isAhead_43 2 rfl (by decide) (by decide) rfl ?_
        refine x_goto 46 C 2 dX12_isAhead_46 (by decide) ?_
        refine x_iload_n 2 C dX12_isAhead_2 rfl 0 rfl ?_
        refine x_iconst 3 C (v := 4) dX12_isAhead_3 rfl ?_
        refine x_icmp_ge 4 C 49 dX12_isAhead_4 (by decide) (fun c19 => absurd c19 (by decide)) (fun _ => ?_)
        refine x_aload_n 7 C dX12_isAhead_7 rfl 3 rfl ?_
        refine x_iload_n 8 C dX12_isAhead_8 rfl 4 rfl ?_
        refine x_iload_n 9 C dX12_isAhead_9 rfl 0 rfl ?_
        refine x_callVe 10 C dX12_isAhead_10 (As := [.int (nI i), .int 3]) (rest := []) [.int (vpt (mvO (I (A + 1)) (50 + 12 * i)) 3)] (t_X12_thousandths l D z n G I L A i 3 hM (by first | omega | assumption | decide) (by first | omega | assumption | decide) hpri) mt_X12_thousandths km_X12_215 ki_X12_thousandths ks_X12_thousandths hM.1 ⟨by decide, rfl⟩ rfl rfl (Nat.le_of_ble_eq_true rfl) ⟨⟨by decide, by decide⟩, by decide, by decide⟩ (fun I20 L21 eI20 eL21 => ?_)
        replace eI20 := eI20.symm; subst eI20
        replace eL21 := eL21.symm; subst eL21
        refine x_int (vpt (mV I A i) 3) rfl ?_
        refine x_istore 13 C [(4, .int (vpt (mV I A i) 3)), (3, .int 3), (5, .int (vpt (mV I A k) 2)), (0, .ref A), (1, .int (nI i)), (2, .int (nI k))] dX12_isAhead_13 (by decide) rfl ?_
        refine x_aload_n 15 C dX12_isAhead_15 rfl 3 rfl ?_
        refine x_iload_n 16 C dX12_isAhead_16 rfl 5 rfl ?_
        refine x_iload_n 17 C dX12_isAhead_17 rfl 1 rfl ?_
        refine x_callVe 18 C dX12_isAhead_18 (As := [.int (nI k), .int 3]) (rest := []) [.int (vpt (mvO (I (A + 1)) (50 + 12 * k)) 3)] (t_X12_thousandths l D z n G I L A k 3 hM (by first | omega | assumption | decide) (by first | omega | assumption | decide) hpr) mt_X12_thousandths km_X12_215 ki_X12_thousandths ks_X12_thousandths hM.1 ⟨by decide, rfl⟩ rfl rfl (Nat.le_of_ble_eq_true rfl) ⟨⟨by decide, by decide⟩, by decide, by decide⟩ (fun I22 L23 eI22 eL23 => ?_)
        replace eI22 := eI22.symm; subst eI22
        replace eL23 := eL23.symm; subst eL23
        refine x_int (vpt (mV I A k) 3) rfl ?_
        refine x_istore 21 C [(5, .int (vpt (mV I A k) 3)), (4, .int (vpt (mV I A i) 3)), (3, .int 3), (0, .ref A), (1, .int (nI i)), (2, .int (nI k))] dX12_isAhead_21 (by decide) rfl ?_
        refine x_iload 23 C dX12_isAhead_23 1 rfl ?_
        refine x_iload 25 C dX12_isAhead_25 0 rfl ?_
        refine x_icmp_eq 27 C 43 dX12_isAhead_27 (by decide) (fun c24 => ?_) (fun c24 => ?_)
        · skip
          have ie3 : icmp (vpt (mV I A i) 3) (vpt (mV I A k) 3) = 0 := by rw [c24]; unfold icmp; rw [if_neg (Int32.lt_irrefl), if_pos rfl]
          refine x_iinc 43 C [(3, .int 4), (5, .int (vpt (mV I A k) 3)), (4, .int (vpt (mV I A i) 3)), (0, .ref A), (1, .int (nI i)), (2, .int (nI k))] dX12_isAhead_43 2 rfl (by decide) (by decide) rfl ?_
          refine x_goto 46 C 2 dX12_isAhead_46 (by decide) ?_
          refine x_iload_n 2 C dX12_isAhead_2 rfl 0 rfl ?_
          refine x_iconst 3 C (v := 4) dX12_isAhead_3 rfl ?_
          refine x_icmp_ge 4 C 49 dX12_isAhead_4 (by decide) (fun _ => ?_) (fun c25 => absurd (by decide) c25)
          refine x_iload_n 49 C dX12_isAhead_49 rfl 4 rfl ?_
          refine x_iload_n 50 C dX12_isAhead_50 rfl 5 rfl ?_
          refine x_icmp_ge 51 C 58 dX12_isAhead_51 (by decide) (fun c26 => ?_) (fun c26 => ?_)
          · skip
            have c26n : k ≤ i := (nI_leI (a := k) (b := i) (by omega) (by omega)).mp c26
            have c26m : ¬ (i < k) := by omega
            have c26o := Int32.not_lt.mpr c26
            refine x_iconst 58 C (v := 0) dX12_isAhead_58 rfl ?_
            refine x_iret 59 C dX12_isAhead_59 rfl rfl (Nat.le_refl _) (xN.intro ?_)
            refine ⟨?_, rfl, rfl⟩
            have hcm : vCmp (mV I A i) (mV I A k) = icmp (vpt (mV I A i) 3) (vpt (mV I A k) 3) := by unfold vCmp; simp [ie0, ie1, ie2, ie3]
            rw [ie3] at hcm
            unfold vAhd; rw [hcm]; simp [bI, c26n, c26m]
          · skip
            have c26n : ¬ (k ≤ i) := fun h => c26 ((nI_leI (a := k) (b := i) (by omega) (by omega)).mpr h)
            have c26m : i < k := by omega
            have c26o := Int32.not_le.mp c26
            refine x_iconst 54 C (v := 1) dX12_isAhead_54 rfl ?_
            refine x_goto 55 C 59 dX12_isAhead_55 (by decide) ?_
            refine x_iret 59 C dX12_isAhead_59 rfl rfl (Nat.le_refl _) (xN.intro ?_)
            refine ⟨?_, rfl, rfl⟩
            have hcm : vCmp (mV I A i) (mV I A k) = icmp (vpt (mV I A i) 3) (vpt (mV I A k) 3) := by unfold vCmp; simp [ie0, ie1, ie2, ie3]
            rw [ie3] at hcm
            unfold vAhd; rw [hcm]; simp [bI, c26n, c26m]
        · skip
          refine x_iload 30 C dX12_isAhead_30 1 rfl ?_
          refine x_iload 32 C dX12_isAhead_32 0 rfl ?_
          refine x_icmp_ge 34 C 41 dX12_isAhead_34 (by decide) (fun c27 => ?_) (fun c27 => ?_)
          · skip
            have c27o := Int32.not_lt.mpr c27
            have ie3 : icmp (vpt (mV I A i) 3) (vpt (mV I A k) 3) = 1 := by unfold icmp; rw [if_neg (Int32.not_lt.mpr c27), if_neg (by assumption)]
            refine x_iconst 41 C (v := 0) dX12_isAhead_41 rfl ?_
            refine x_iret 42 C dX12_isAhead_42 rfl rfl (Nat.le_refl _) (xN.intro ?_)
            refine ⟨?_, rfl, rfl⟩
            have hcm : vCmp (mV I A i) (mV I A k) = icmp (vpt (mV I A i) 3) (vpt (mV I A k) 3) := by unfold vCmp; simp [ie0, ie1, ie2, ie3]
            rw [ie3] at hcm
            unfold vAhd; rw [hcm]; simp [bI]
          · skip
            have c27o := Int32.not_le.mp c27
            have ie3 : icmp (vpt (mV I A i) 3) (vpt (mV I A k) 3) = -1 := by unfold icmp; rw [if_pos (Int32.not_le.mp c27)]
            refine x_iconst 37 C (v := 1) dX12_isAhead_37 rfl ?_
            refine x_goto 38 C 42 dX12_isAhead_38 (by decide) ?_
            refine x_iret 42 C dX12_isAhead_42 rfl rfl (Nat.le_refl _) (xN.intro ?_)
            refine ⟨?_, rfl, rfl⟩
            have hcm : vCmp (mV I A i) (mV I A k) = icmp (vpt (mV I A i) 3) (vpt (mV I A k) 3) := by unfold vCmp; simp [ie0, ie1, ie2, ie3]
            rw [ie3] at hcm
            unfold vAhd; rw [hcm]; simp [bI]
      · skip
        refine x_iload 30 C dX12_isAhead_30 1 rfl ?_
        refine x_iload 32 C dX12_isAhead_32 0 rfl ?_
        refine x_icmp_ge 34 C 41 dX12_isAhead_34 (by decide) (fun c28 => ?_) (fun c28 => ?_)
        · skip
          have c28o := Int32.not_lt.mpr c28
          have ie2 : icmp (vpt (mV I A i) 2) (vpt (mV I A k) 2) = 1 := by unfold icmp; rw [if_neg (Int32.not_lt.mpr c28), if_neg (by assumption)]
          refine x_iconst 41 C (v := 0) dX12_isAhead_41 rfl ?_
          refine x_iret 42 C dX12_isAhead_42 rfl rfl (Nat.le_refl _) (xN.intro ?_)
          refine ⟨?_, rfl, rfl⟩
          have hcm : vCmp (mV I A i) (mV I A k) = icmp (vpt (mV I A i) 2) (vpt (mV I A k) 2) := by unfold vCmp; simp [ie0, ie1, ie2]
          rw [ie2] at hcm
          unfold vAhd; rw [hcm]; simp [bI]
        · skip
          have c28o := Int32.not_le.mp c28
          have ie2 : icmp (vpt (mV I A i) 2) (vpt (mV I A k) 2) = -1 := by unfold icmp; rw [if_pos (Int32.not_le.mp c28)]
          refine x_iconst 37 C (v := 1) dX12_isAhead_37 rfl ?_
          refine x_goto 38 C 42 dX12_isAhead_38 (by decide) ?_
          refine x_iret 42 C dX12_isAhead_42 rfl rfl (Nat.le_refl _) (xN.intro ?_)
          refine ⟨?_, rfl, rfl⟩
          have hcm : vCmp (mV I A i) (mV I A k) = icmp (vpt (mV I A i) 2) (vpt (mV I A k) 2) := by unfold vCmp; simp [ie0, ie1, ie2]
          rw [ie2] at hcm
          unfold vAhd; rw [hcm]; simp [bI]
    · skip
      refine x_iload 30 C dX12_isAhead_30 1 rfl ?_
      refine x_iload 32 C dX12_isAhead_32 0 rfl ?_
      refine x_icmp_ge 34 C 41 dX12_isAhead_34 (by decide) (fun c29 => ?_) (fun c29 => ?_)
      · skip
        have c29o := Int32.not_lt.mpr c29
        have ie1 : icmp (vpt (mV I A i) 1) (vpt (mV I A k) 1) = 1 := by unfold icmp; rw [if_neg (Int32.not_lt.mpr c29), if_neg (by assumption)]
        refine x_iconst 41 C (v := 0) dX12_isAhead_41 rfl ?_
        refine x_iret 42 C dX12_isAhead_42 rfl rfl (Nat.le_refl _) (xN.intro ?_)
        refine ⟨?_, rfl, rfl⟩
        have hcm : vCmp (mV I A i) (mV I A k) = icmp (vpt (mV I A i) 1) (vpt (mV I A k) 1) := by unfold vCmp; simp [ie0, ie1]
        rw [ie1] at hcm
        unfold vAhd; rw [hcm]; simp [bI]
      · skip
        have c29o := Int32.not_le.mp c29
        have ie1 : icmp (vpt (mV I A i) 1) (vpt (mV I A k) 1) = -1 := by unfold icmp; rw [if_pos (Int32.not_le.mp c29)]
        refine x_iconst 37 C (v := 1) dX12_isAhead_37 rfl ?_
        refine x_goto 38 C 42 dX12_isAhead_38 (by decide) ?_
        refine x_iret 42 C dX12_isAhead_42 rfl rfl (Nat.le_refl _) (xN.intro ?_)
        refine ⟨?_, rfl, rfl⟩
        have hcm : vCmp (mV I A i) (mV I A k) = icmp (vpt (mV I A i) 1) (vpt (mV I A k) 1) := by unfold vCmp; simp [ie0, ie1]
        rw [ie1] at hcm
        unfold vAhd; rw [hcm]; simp [bI]
  · skip
    refine x_iload 30 C dX12_isAhead_30 1 rfl ?_
    refine x_iload 32 C dX12_isAhead_32 0 rfl ?_
    refine x_icmp_ge 34 C 41 dX12_isAhead_34 (by decide) (fun c30 => ?_) (fun c30 => ?_)
    · skip
      have c30o := Int32.not_lt.mpr c30
      have ie0 : icmp (vpt (mV I A i) 0) (vpt (mV I A k) 0) = 1 := by unfold icmp; rw [if_neg (Int32.not_lt.mpr c30), if_neg (by assumption)]
      refine x_iconst 41 C (v := 0) dX12_isAhead_41 rfl ?_
      refine x_iret 42 C dX12_isAhead_42 rfl rfl (Nat.le_refl _) (xN.intro ?_)
      refine ⟨?_, rfl, rfl⟩
      have hcm : vCmp (mV I A i) (mV I A k) = icmp (vpt (mV I A i) 0) (vpt (mV I A k) 0) := by unfold vCmp; simp [ie0]
      rw [ie0] at hcm
      unfold vAhd; rw [hcm]; simp [bI]
    · skip
      have c30o := Int32.not_le.mp c30
      have ie0 : icmp (vpt (mV I A i) 0) (vpt (mV I A k) 0) = -1 := by unfold icmp; rw [if_pos (Int32.not_le.mp c30)]
      refine x_iconst 37 C (v := 1) dX12_isAhead_37 rfl ?_
      refine x_goto 38 C 42 dX12_isAhead_38 (by decide) ?_
      refine x_iret 42 C dX12_isAhead_42 rfl rfl (Nat.le_refl _) (xN.intro ?_)
      refine ⟨?_, rfl, rfl⟩
      have hcm : vCmp (mV I A i) (mV I A k) = icmp (vpt (mV I A i) 0) (vpt (mV I A k) 0) := by unfold vCmp; simp [ie0]
      rw [ie0] at hcm
      unfold vAhd; rw [hcm]; simp [bI]
