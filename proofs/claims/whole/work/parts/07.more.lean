/-! THE x_ LAYER, 5: fused rows, exact contracts -/
/-- an exact end -/
def xE (v0 : Option Value) (I0 : xI) (L0 : xL) : Option Value → xI → xL → Prop := fun v I' L' => v = v0 ∧ I' = I0 ∧ L' = L0
abbrev rN : Nat → Option Nat := fun _ => none
section XM
variable {p : Program} {l : Launch} {e : Env} {R : Room} {s : State} {m : MethodId} {args : Array Value} {below : List Frame} {meth : Method} {c : Code} {D : xD} {z nL : Nat} {Q : State → Prop} {cells slots n n0 : Nat} {G : xG} {I : xI} {L : xL} {own : String} {cc : ByteArray} {rt : Option FieldType} {lv : List (Nat × Value)} {st : List Value} {Post : xPost}
theorem x_lc_ge (pc : Nat) (C : xOK p s m args meth c D z own cc nL rt) {x y : Int64} {off : Int} (tgt : Nat) (d1 : decode cc pc = .ok (.lcmp, 1)) (d2 : decode cc (pc + 1) = .ok (.ifCond .ge off, 3)) (ht : ((pc + 1 : Nat) : Int) + off = (tgt : Int)) (kt : y ≤ x → X p l e R s m args below meth c D z nL Q cells slots n G I L tgt lv st) (kf : ¬ y ≤ x → X p l e R s m args below meth c D z nL Q cells slots n G I L (pc + 1 + 3) lv st) : X p l e R s m args below meth c D z nL Q cells slots n G I L pc lv (.long y :: .long x :: st) :=
  x_lcmp pc C d1 (x_if_ge (pc + 1) C tgt d2 ht (fun q => kt ((lg_cmp_ge x y).mp q)) (fun q => kf (fun h => q ((lg_cmp_ge x y).mpr h))))
theorem x_lc_lt (pc : Nat) (C : xOK p s m args meth c D z own cc nL rt) {x y : Int64} {off : Int} (tgt : Nat) (d1 : decode cc pc = .ok (.lcmp, 1)) (d2 : decode cc (pc + 1) = .ok (.ifCond .lt off, 3)) (ht : ((pc + 1 : Nat) : Int) + off = (tgt : Int)) (kt : x < y → X p l e R s m args below meth c D z nL Q cells slots n G I L tgt lv st) (kf : ¬ x < y → X p l e R s m args below meth c D z nL Q cells slots n G I L (pc + 1 + 3) lv st) : X p l e R s m args below meth c D z nL Q cells slots n G I L pc lv (.long y :: .long x :: st) :=
  x_lcmp pc C d1 (x_if_lt (pc + 1) C tgt d2 ht (fun q => kt ((lg_cmp_lt x y).mp q)) (fun q => kf (fun h => q ((lg_cmp_lt x y).mpr h))))
theorem x_lc_gt (pc : Nat) (C : xOK p s m args meth c D z own cc nL rt) {x y : Int64} {off : Int} (tgt : Nat) (d1 : decode cc pc = .ok (.lcmp, 1)) (d2 : decode cc (pc + 1) = .ok (.ifCond .gt off, 3)) (ht : ((pc + 1 : Nat) : Int) + off = (tgt : Int)) (kt : y < x → X p l e R s m args below meth c D z nL Q cells slots n G I L tgt lv st) (kf : ¬ y < x → X p l e R s m args below meth c D z nL Q cells slots n G I L (pc + 1 + 3) lv st) : X p l e R s m args below meth c D z nL Q cells slots n G I L pc lv (.long y :: .long x :: st) :=
  x_lcmp pc C d1 (x_if_gt (pc + 1) C tgt d2 ht (fun q => kt ((lg_cmp_gt x y).mp q)) (fun q => kf (fun h => q ((lg_cmp_gt x y).mpr h))))
theorem x_lc_le (pc : Nat) (C : xOK p s m args meth c D z own cc nL rt) {x y : Int64} {off : Int} (tgt : Nat) (d1 : decode cc pc = .ok (.lcmp, 1)) (d2 : decode cc (pc + 1) = .ok (.ifCond .le off, 3)) (ht : ((pc + 1 : Nat) : Int) + off = (tgt : Int)) (kt : x ≤ y → X p l e R s m args below meth c D z nL Q cells slots n G I L tgt lv st) (kf : ¬ x ≤ y → X p l e R s m args below meth c D z nL Q cells slots n G I L (pc + 1 + 3) lv st) : X p l e R s m args below meth c D z nL Q cells slots n G I L pc lv (.long y :: .long x :: st) :=
  x_lcmp pc C d1 (x_if_le (pc + 1) C tgt d2 ht (fun q => kt ((lg_cmp_le x y).mp q)) (fun q => kf (fun h => q ((lg_cmp_le x y).mpr h))))
theorem x_lc_eq (pc : Nat) (C : xOK p s m args meth c D z own cc nL rt) {x y : Int64} {off : Int} (tgt : Nat) (d1 : decode cc pc = .ok (.lcmp, 1)) (d2 : decode cc (pc + 1) = .ok (.ifCond .eq off, 3)) (ht : ((pc + 1 : Nat) : Int) + off = (tgt : Int)) (kt : x = y → X p l e R s m args below meth c D z nL Q cells slots n G I L tgt lv st) (kf : ¬ x = y → X p l e R s m args below meth c D z nL Q cells slots n G I L (pc + 1 + 3) lv st) : X p l e R s m args below meth c D z nL Q cells slots n G I L pc lv (.long y :: .long x :: st) :=
  x_lcmp pc C d1 (x_if_eq (pc + 1) C tgt d2 ht (fun q => kt ((lg_cmp_eq x y).mp q)) (fun q => kf (fun h => q ((lg_cmp_eq x y).mpr h))))
theorem x_lc_ne (pc : Nat) (C : xOK p s m args meth c D z own cc nL rt) {x y : Int64} {off : Int} (tgt : Nat) (d1 : decode cc pc = .ok (.lcmp, 1)) (d2 : decode cc (pc + 1) = .ok (.ifCond .ne off, 3)) (ht : ((pc + 1 : Nat) : Int) + off = (tgt : Int)) (kt : ¬ x = y → X p l e R s m args below meth c D z nL Q cells slots n G I L tgt lv st) (kf : x = y → X p l e R s m args below meth c D z nL Q cells slots n G I L (pc + 1 + 3) lv st) : X p l e R s m args below meth c D z nL Q cells slots n G I L pc lv (.long y :: .long x :: st) :=
  x_lcmp pc C d1 (x_if_ne (pc + 1) C tgt d2 ht (fun q => kt (fun h => q ((lg_cmp_eq x y).mpr h))) (fun q => kf ((lg_cmp_eq x y).mp q)))
theorem x_lv {pc : Nat} (lv' : List (Nat × Value)) (h : lv = lv') (k : X p l e R s m args below meth c D z nL Q cells slots n G I L pc lv' st) : X p l e R s m args below meth c D z nL Q cells slots n G I L pc lv st := h ▸ k
theorem x_st {pc : Nat} (st' : List Value) (h : st = st') (k : X p l e R s m args below meth c D z nL Q cells slots n G I L pc lv st') : X p l e R s m args below meth c D z nL Q cells slots n G I L pc lv st := h ▸ k
/-- calls of methods that make no cell, by exact contracts: the state behind is named -/
theorem x_callVe (pc : Nat) (C : xOK p s m args meth c D z own cc nL rt) {idx : Nat} (d : decode cc pc = .ok (.invokevirtual idx, 3)) {y : MethodName} {cc' : ByteArray} {nL' fr lo ci b : Nat} {ret' : Option FieldType} {As rest : List Value} {r : Nat → Option Nat} {v0 : Option Value} {I0 : xI} {L0 : xL} (st' : List Value)
    (hM : xM0 l D z y cc' nL' ret' fr lo (.ref b :: As) n G I L (xE v0 I0 L0)) (mt : xMt y cc' nL' ret' As.length) (lk : Cond.methodLink own idx y ∈ xtbl) (hin : Cond.instanceMethod y ∈ xtbl) (hse : Cond.selects y.cls y y ∈ xtbl) (g : G b = some (ci, 0, r)) (hc : ci < 13 ∧ (xCl ci).1 = y.cls) (hst : st = As.reverse ++ .ref b :: rest) (hst' : v0.toList ++ rest = st') (hcat : (rest.map fun v => v.category).sum ≤ 8) (hR : (fr + 1 ≤ R.frames ∧ 8 + (nL' + 11) + lo ≤ R.locals) ∧ cells ≤ R.cells ∧ slots ≤ R.slots)
    (k : ∀ (I' : xI) (L' : xL), I' = I0 → L' = L0 → X p l e R s m args below meth c D z nL Q cells slots n G I' L' (pc + 3) lv st') : X p l e R s m args below meth c D z nL Q cells slots n G I L pc lv st :=
  x_callV pc C d hM mt lk hin hse g hc hst hcat ⟨hR.1, hR.2⟩ (fun v n' G' I' L' hp _ => by
    obtain ⟨rfl, rfl, rfl, eI, eL⟩ := hp
    subst hst'
    exact k I' L' eI eL)
theorem x_callSe (pc : Nat) (C : xOK p s m args meth c D z own cc nL rt) {idx : Nat} (d : decode cc pc = .ok (.invokestatic idx, 3)) {y : MethodName} {cc' : ByteArray} {nL' fr lo : Nat} {ret' : Option FieldType} {As rest : List Value} {v0 : Option Value} {I0 : xI} {L0 : xL} (st' : List Value)
    (hM : xM0 l D z y cc' nL' ret' fr lo As n G I L (xE v0 I0 L0)) (mt : xMt y cc' nL' ret' As.length) (lk : Cond.methodLink own idx y ∈ xtbl) (hs : Cond.static y ∈ xtbl) (hst : st = As.reverse ++ rest) (hst' : v0.toList ++ rest = st') (hcat : (rest.map fun v => v.category).sum ≤ 8) (hR : (fr + 1 ≤ R.frames ∧ 8 + (nL' + 11) + lo ≤ R.locals) ∧ cells ≤ R.cells ∧ slots ≤ R.slots)
    (k : ∀ (I' : xI) (L' : xL), I' = I0 → L' = L0 → X p l e R s m args below meth c D z nL Q cells slots n G I' L' (pc + 3) lv st') : X p l e R s m args below meth c D z nL Q cells slots n G I L pc lv st :=
  x_callS pc C d hM mt lk hs hst hcat ⟨hR.1, hR.2⟩ (fun v n' G' I' L' hp _ => by
    obtain ⟨rfl, rfl, rfl, eI, eL⟩ := hp
    subst hst'
    exact k I' L' eI eL)
/-- the same by contracts that are relations -/
theorem x_callVp (pc : Nat) (C : xOK p s m args meth c D z own cc nL rt) {idx : Nat} (d : decode cc pc = .ok (.invokevirtual idx, 3)) {y : MethodName} {cc' : ByteArray} {nL' fr lo ci b : Nat} {ret' : Option FieldType} {As rest : List Value} {r : Nat → Option Nat} {P : Option Value → xI → xL → Prop}
    (hM : xM0 l D z y cc' nL' ret' fr lo (.ref b :: As) n G I L P) (mt : xMt y cc' nL' ret' As.length) (lk : Cond.methodLink own idx y ∈ xtbl) (hin : Cond.instanceMethod y ∈ xtbl) (hse : Cond.selects y.cls y y ∈ xtbl) (g : G b = some (ci, 0, r)) (hc : ci < 13 ∧ (xCl ci).1 = y.cls) (hst : st = As.reverse ++ .ref b :: rest) (hcat : (rest.map fun v => v.category).sum ≤ 8) (hR : (fr + 1 ≤ R.frames ∧ 8 + (nL' + 11) + lo ≤ R.locals) ∧ cells ≤ R.cells ∧ slots ≤ R.slots)
    (k : ∀ (v : Option Value) (I' : xI) (L' : xL), P v I' L' → X p l e R s m args below meth c D z nL Q cells slots n G I' L' (pc + 3) lv (v.toList ++ rest)) : X p l e R s m args below meth c D z nL Q cells slots n G I L pc lv st :=
  x_callV pc C d hM mt lk hin hse g hc hst hcat ⟨hR.1, hR.2⟩ (fun v n' G' I' L' hp _ => by
    obtain ⟨rfl, rfl, hp⟩ := hp
    exact k v I' L' hp)
theorem x_callSp (pc : Nat) (C : xOK p s m args meth c D z own cc nL rt) {idx : Nat} (d : decode cc pc = .ok (.invokestatic idx, 3)) {y : MethodName} {cc' : ByteArray} {nL' fr lo : Nat} {ret' : Option FieldType} {As rest : List Value} {P : Option Value → xI → xL → Prop}
    (hM : xM0 l D z y cc' nL' ret' fr lo As n G I L P) (mt : xMt y cc' nL' ret' As.length) (lk : Cond.methodLink own idx y ∈ xtbl) (hs : Cond.static y ∈ xtbl) (hst : st = As.reverse ++ rest) (hcat : (rest.map fun v => v.category).sum ≤ 8) (hR : (fr + 1 ≤ R.frames ∧ 8 + (nL' + 11) + lo ≤ R.locals) ∧ cells ≤ R.cells ∧ slots ≤ R.slots)
    (k : ∀ (v : Option Value) (I' : xI) (L' : xL), P v I' L' → X p l e R s m args below meth c D z nL Q cells slots n G I' L' (pc + 3) lv (v.toList ++ rest)) : X p l e R s m args below meth c D z nL Q cells slots n G I L pc lv st :=
  x_callS pc C d hM mt lk hs hst hcat ⟨hR.1, hR.2⟩ (fun v n' G' I' L' hp _ => by
    obtain ⟨rfl, rfl, hp⟩ := hp
    exact k v I' L' hp)
/-- an int on the stack's top, in other words -/
theorem x_int {pc : Nat} {x : Int32} (y : Int32) (h : x = y) (k : X p l e R s m args below meth c D z nL Q cells slots n G I L pc lv (.int y :: st)) : X p l e R s m args below meth c D z nL Q cells slots n G I L pc lv (.int x :: st) := h ▸ k
theorem x_long {pc : Nat} {x : Int64} (y : Int64) (h : x = y) (k : X p l e R s m args below meth c D z nL Q cells slots n G I L pc lv (.long y :: st)) : X p l e R s m args below meth c D z nL Q cells slots n G I L pc lv (.long x :: st) := h ▸ k
theorem x_tsOut (pc : Nat) (C : xOK p s m args meth c D z own cc nL rt) {dflt lo hi : Int} {offs : Array Int} {len : Nat} {x : Int32} (tgt : Nat) (d : decode cc pc = .ok (.tableswitch dflt lo hi offs, len)) (h : x.toInt < lo ∨ hi < x.toInt) (ht : (pc : Int) + dflt = (tgt : Int)) (k : X p l e R s m args below meth c D z nL Q cells slots n G I L tgt lv st) : X p l e R s m args below meth c D z nL Q cells slots n G I L pc lv (.int x :: st) :=
  fun H locs ls h1 h2 h3 h4 => lv_tableOut C.exec C.code d h ht (k H locs ls h1 h2 h3 h4)
theorem x_tsIn (pc : Nat) (C : xOK p s m args meth c D z own cc nL rt) {dflt lo hi v off : Int} {offs : Array Int} {len : Nat} {x : Int32} (tgt : Nat) (d : decode cc pc = .ok (.tableswitch dflt lo hi offs, len)) (hv : x.toInt = v) (h1 : ¬ v < lo) (h2 : ¬ hi < v) (ho : offs[(v - lo).toNat]? = some off) (ht : (pc : Int) + off = (tgt : Int)) (k : X p l e R s m args below meth c D z nL Q cells slots n G I L tgt lv st) : X p l e R s m args below meth c D z nL Q cells slots n G I L pc lv (.int x :: st) := by
  subst hv
  exact fun H locs ls g1 g2 g3 g4 => lv_tableIn C.exec C.code d h1 h2 ho ht (k H locs ls g1 g2 g3 g4)
end XM
-- ints that are small whole numbers
theorem nI_mul (a b : Nat) : nI a * nI b = nI (a * b) := (Int32.ofNat_mul a b).symm
theorem nI_sub {a b : Nat} (h : b ≤ a) : nI a - nI b = nI (a - b) := by
  have h1 : nI a = nI (a - b) + nI b := by rw [nI_add, Nat.sub_add_cancel h]
  rw [h1, Int32.add_sub_cancel]
theorem xIx_nI {k len : Nat} (h : k < len) (hl : len < 2147483648) : xIx (nI k) len k := ⟨nI_pos (by omega), nI_clamp (by omega), h⟩
