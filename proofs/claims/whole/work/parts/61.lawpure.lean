/-! The law: what both sides compute of equal values is equal -/
def rwEq (r r' : Nat → Int32) : Prop := ∀ j, 2 ≤ j → j ≤ 9 → r j = r' j
def vEq (v w : xP) : Prop := rwEq v.1 w.1 ∧ v.2 = w.2
theorem rwEq_up {r r' : Nat → Int32} (h : rwEq r r') (k : Nat) {x y : Int32} (e : x = y) : rwEq (va_up r k x) (va_up r' k y) := by
  subst e; intro j h1 h2
  by_cases hj : j = k
  · simp [va_up, hj]
  · simp only [va_up, if_neg hj]; exact h j h1 h2
theorem gMove1_eq {r r' : Nat → Int32} (h : rwEq r r') (x : Int32) : rwEq (gMove1 r x) (gMove1 r' x) := by
  unfold gMove1
  exact rwEq_up (rwEq_up (rwEq_up h 3 (by rw [h 3 (by decide) (by decide)])) 7 (by rw [h 7 (by decide) (by decide)])) 9 (by rw [h 9 (by decide) (by decide)])
theorem gMove2_eq {r r' : Nat → Int32} (h : rwEq r r') (x : Int32) : rwEq (gMove2 r x) (gMove2 r' x) := by
  unfold gMove2
  rw [h 9 (by decide) (by decide)]
  by_cases c : r' 9 + 1 < 3
  · rw [if_pos c, if_pos c]; exact gMove1_eq h x
  · rw [if_neg c, if_neg c]; exact rwEq_up (rwEq_up (gMove1_eq h x) 9 rfl) 4 (by rw [h 4 (by decide) (by decide), h 5 (by decide) (by decide)])
theorem gMove_eq {r r' : Nat → Int32} (h : rwEq r r') (x bo : Int32) (m : Int64) : rwEq (gMove r x bo m) (gMove r' x bo m) := by
  unfold gMove
  rw [h 6 (by decide) (by decide), h 3 (by decide) (by decide)]
  by_cases c : m ≤ bo.toInt64 * punit (r' 6)
  · rw [if_pos c, if_pos c]
    by_cases c2 : r' 3 + x < 1024
    · rw [if_pos c2, if_pos c2]; exact gMove2_eq h x
    · rw [if_neg c2, if_neg c2]; exact rwEq_up (gMove2_eq h x) 2 rfl
  · rw [if_neg c, if_neg c]; exact rwEq_up (gMove2_eq h x) 2 rfl
theorem gFail1_eq {r r' : Nat → Int32} (h : rwEq r r') : rwEq (gFail1 r) (gFail1 r') := by
  unfold gFail1
  exact rwEq_up (rwEq_up h 8 (by rw [h 8 (by decide) (by decide)])) 9 rfl
theorem gFail_eq {r r' : Nat → Int32} (h : rwEq r r') (x : Int32) : rwEq (gFail r x) (gFail r' x) := by
  unfold gFail
  rw [h 6 (by decide) (by decide), h 4 (by decide) (by decide), h 5 (by decide) (by decide)]
  by_cases c : r' 4 ≤ 1
  · rw [if_pos c, if_pos c]
    by_cases c2 : r' 6 = 10
    · rw [if_pos c2, if_pos c2]; exact rwEq_up (rwEq_up (gFail1_eq h) 6 rfl) 4 rfl
    · rw [if_neg c2, if_neg c2]; exact rwEq_up (gFail1_eq h) 2 rfl
  · rw [if_neg c, if_neg c]; exact rwEq_up (gFail1_eq h) 4 rfl
theorem gFailC_eq {r r' : Nat → Int32} (h : rwEq r r') (c : xC) : gFailC r c = gFailC r' c := by
  unfold gFailC
  rw [h 6 (by decide) (by decide), h 4 (by decide) (by decide)]
theorem tryP_eqv {Y : xSy} {R : Nat} {tol bo s0 : Int32} {v w : xP} (h : vEq v w) : vEq (tryP Y R tol bo s0 v) (tryP Y R tol bo s0 w) := by
  obtain ⟨r, x, y⟩ := v
  obtain ⟨r', x', y'⟩ := w
  obtain ⟨ha, hb⟩ := h
  have hr : rwEq r r' := ha
  have he : (x, y) = (x', y') := hb
  clear ha hb
  cases he
  unfold tryP tryF
  dsimp only
  rw [hr 3 (by decide) (by decide), hr 4 (by decide) (by decide), hr 6 (by decide) (by decide)]
  generalize tryC Y R tol (r' 3).toNatClampNeg (min (r' 4).toNatClampNeg (1024 - (r' 3).toNatClampNeg)) (punit (r' 6)) x y = q
  cases q with
  | some c => exact ⟨gMove_eq hr _ _ _, rfl⟩
  | none => exact ⟨gFail_eq hr _, by show (gFailC r x, gFailC r y) = (gFailC r' x, gFailC r' y); rw [gFailC_eq hr, gFailC_eq hr]⟩
theorem foll_eqv {Y : xSy} {R : Nat} {tol bo s0 : Int32} : ∀ (n : Nat) (v w : xP), vEq v w → (foll Y R tol bo s0 n v).1 = (foll Y R tol bo s0 n w).1 ∧ vEq (foll Y R tol bo s0 n v).2 (foll Y R tol bo s0 n w).2
  | 0, v, w, h => ⟨rfl, h⟩
  | n + 1, v, w, h => by
    have ih := foll_eqv (Y := Y) (R := R) (tol := tol) (bo := bo) (s0 := s0) n _ _ (tryP_eqv (Y := Y) (R := R) (tol := tol) (bo := bo) (s0 := s0) h)
    unfold foll
    rw [h.1 2 (by decide) (by decide)]
    by_cases c : w.1 2 = 0
    · rw [if_pos c, if_pos c]; exact ⟨by rw [ih.1], ih.2⟩
    · rw [if_neg c, if_neg c]; exact ⟨rfl, h⟩
theorem vpt_eqv {v w : xP} (h : vEq v w) (j : Nat) : vpt v j = vpt w j := by
  unfold vpt vval
  rw [h.2, h.1 6 (by decide) (by decide)]
theorem vNears_eqv {v v' w w' : xP} (h : vEq v w) (h' : vEq v' w') (x : Int32) : vNears v v' x = vNears w w' x := by
  simp only [vNears, vNear, vpt_eqv h, vpt_eqv h']
theorem vCmp_eqv {v v' w w' : xP} (h : vEq v w) (h' : vEq v' w') : vCmp v v' = vCmp w w' := by
  simp only [vCmp, vpt_eqv h, vpt_eqv h']
theorem vReal_eqv {v w : xP} (h : vEq v w) (x : Int32) : vReal v x = vReal w x := by
  simp only [vReal, vpt_eqv h]
theorem vBeh_eqv {v v' w w' : xP} (h : vEq v w) (h' : vEq v' w') : vBeh v v' = vBeh w w' := by
  unfold vBeh
  rw [h.1 3 (by decide) (by decide), h'.1 3 (by decide) (by decide), h.1 4 (by decide) (by decide), h'.1 4 (by decide) (by decide)]
theorem vAns_eqv {v w : xP} (h : vEq v w) (k : Nat) : vAns v k = vAns w k := by
  unfold vAns
  rw [h.1 2 (by decide) (by decide), h.1 3 (by decide) (by decide), h.1 7 (by decide) (by decide), h.1 8 (by decide) (by decide), h.1 6 (by decide) (by decide), h.1 4 (by decide) (by decide), h.1 5 (by decide) (by decide), vpt_eqv h]
theorem vSt_eqv {V W : Nat → xP} {i : Nat} (h : vEq (V i) (W i)) (x : Int32) : vSt V x i = vSt W x i := by
  unfold vSt; rw [h.1 2 (by decide) (by decide)]
theorem vMet_eqv {V W : Nat → xP} {i k : Nat} (h : vEq (V i) (W i)) (hk : vEq (V k) (W k)) (x : Int32) : vMet V x k i = vMet W x k i := by
  unfold vMet; rw [vSt_eqv h, vNears_eqv h hk]
theorem vBef_eqv {V W : Nat → xP} {i k : Nat} (h : vEq (V i) (W i)) (hk : vEq (V k) (W k)) : vBef V k i = vBef W k i := by
  unfold vBef vAhd; rw [vSt_eqv h, vCmp_eqv h hk]
theorem findN_congr {p q : Nat → Bool} : ∀ k, (∀ i, i < k → p i = q i) → findN p k = findN q k
  | 0, _ => rfl
  | k + 1, h => by
    unfold findN
    rw [findN_congr k (fun i hi => h i (by omega)), h k (by omega)]
theorem vMb_eqv {V W : Nat → xP} : ∀ k, (∀ i, i < k → vEq (V i) (W i)) → vMb V k = vMb W k
  | 0, _ => rfl
  | k + 1, h => by
    have ih := vMb_eqv (V := V) (W := W) k (fun i hi => h i (by omega))
    unfold vMb
    rw [ih, vSt_eqv (h k (by omega))]
    have hl := vMb_lt W k
    cases hq : vMb W k with
    | none => rfl
    | some f =>
      have e : vBeh (V k) (V f) = vBeh (W k) (W f) := vBeh_eqv (h k (by omega)) (h f (by have := hl f hq; omega))
      simp only [e]
theorem mbN_v (I : xI) (L : xL) (S : Nat) : ∀ k, mbN I S k = vMb (fun i => pv I L (S + 11 + 3 * i)) k
  | 0 => rfl
  | k + 1 => by
    unfold mbN vMb
    rw [mbN_v I L S k]; rfl
theorem ppart_v (I : xI) (L : xL) (a j : Nat) : ppart I L a j = vpt (pv I L a) j := rfl
theorem metP_v (I : xI) (L : xL) (S k i : Nat) : metP I L S k i = vMet (fun i => pv I L (S + 11 + 3 * i)) (I (S + 9) 5) k i := rfl
theorem befP_v (I : xI) (L : xL) (S k i : Nat) : befP I L S k i = vBef (fun i => pv I L (S + 11 + 3 * i)) k i := rfl
theorem stIs_v (I : xI) (L : xL) (S : Nat) (x : Int32) (i : Nat) : stIs I S x i = vSt (fun i => pv I L (S + 11 + 3 * i)) x i := rfl
theorem realP_v (I : xI) (L : xL) (a : Nat) (x : Int32) : realP I L a x = vReal (pv I L a) x := rfl
theorem pAns_v (I : xI) (L : xL) (a k : Nat) : pAns I L a k = vAns (pv I L a) k := rfl
theorem nI_sur (x : Int32) : ∃ r, x = nI r := ⟨x.toBitVec.toNat, Int32.toBitVec.inj (by show x.toBitVec = BitVec.ofNat 32 x.toBitVec.toNat; simp)⟩
theorem rds_inB (t : Nat → Nat) (N : Nat) : ∀ (k r mi : Nat) (f g : Nat → Int32), inB f → inB g → inB (rds t N k r mi f g).2.2.1 ∧ inB (rds t N k r mi f g).2.2.2
  | 0, _, _, _, _, hf, hg => ⟨hf, hg⟩
  | k + 1, r, mi, f, g, hf, hg => by
    have hf' := inB_up hf (tTm t N r) (tRe t N r mi)
    have hg' := inB_up hg (tTm t N r) (tIi t N r mi)
    unfold rds
    by_cases c : tOk t N r = true
    · rw [if_pos c]
      by_cases c1 : N ≤ tEnd t N r
      · rw [if_pos c1]; exact ⟨hf', hg'⟩
      · rw [if_neg c1]
        by_cases c2 : sg t N (tEnd t N r) = 43
        · rw [if_pos c2]; exact rds_inB t N k _ _ _ _ hf' hg'
        · rw [if_neg c2]
          by_cases c3 : sg t N (tEnd t N r) = 45
          · rw [if_pos c3]; exact rds_inB t N k _ _ _ _ hf' hg'
          · rw [if_neg c3]; exact ⟨hf', hg'⟩
    · rw [if_neg c]; exact ⟨hf, hg⟩
theorem rdAll_inB (t : Nat → Nat) (N : Nat) : inB (rdAll t N).2.2.1 ∧ inB (rdAll t N).2.2.2 := by
  unfold rdAll
  by_cases c : sg t N 0 = 45
  · rw [if_pos c]; exact rds_inB t N _ _ _ _ _ inB_0 inB_0
  · rw [if_neg c]; exact rds_inB t N _ _ _ _ _ inB_0 inB_0
