/-! THE x_ LAYER, 4: answers and calls -/
theorem xN.intro {n : Nat} {G : xG} {P : Option Value → xI → xL → Prop} {v : Option Value} {I : xI} {L : xL} (h : P v I L) : xN n G P v n G I L := ⟨rfl, rfl, h⟩
section XC
variable {p : Program} {l : Launch} {e : Env} {R : Room} {s : State} {m : MethodId} {args : Array Value} {below : List Frame} {meth : Method} {c : Code} {D : xD} {z nL : Nat} {Q : State → Prop} {cells slots n n0 : Nat} {G : xG} {I : xI} {L : xL} {own : String} {cc : ByteArray} {rt : Option FieldType} {lv : List (Nat × Value)} {st : List Value} {Post : xPost}
theorem x_iret (pc : Nat) (C : xOK p s m args meth c D z own cc nL rt) {v : Int32} {ty : FieldType} (d : decode cc pc = .ok (.ireturn, 1)) (hr : rt = some ty) (hn : narrow ty (.int v) = .int v) (hn0 : n0 ≤ n) (hp : Post (some (.int v)) n G I L) : X p l e R s m args below meth c D z nL (MQ below (xQc D z n0 Post) args s cells slots (fun a => z ≤ a)) cells slots n G I L pc lv [.int v] :=
  fun H locs ls h1 h2 h3 h4 => W.zret (ty := ty) C.exec C.code (C.ret.trans hr) hn (fun t ht hW => ⟨⟨_, n, G, I, L, rfl, hp, by rw [ht, h1], hn0, by rw [ht]; exact h2⟩, h3.F ht⟩) h3.2.2 d C.locks
theorem x_lret (pc : Nat) (C : xOK p s m args meth c D z own cc nL rt) {v : Int64} (d : decode cc pc = .ok (.lreturn, 1)) (hr : rt = some .long) (hn0 : n0 ≤ n) (hp : Post (some (.long v)) n G I L) : X p l e R s m args below meth c D z nL (MQ below (xQc D z n0 Post) args s cells slots (fun a => z ≤ a)) cells slots n G I L pc lv [.long v] :=
  fun H locs ls h1 h2 h3 h4 => W.lret C.exec C.code (C.ret.trans hr) (fun t ht hW => ⟨⟨_, n, G, I, L, rfl, hp, by rw [ht, h1], hn0, by rw [ht]; exact h2⟩, h3.F ht⟩) h3.2.2 d C.locks
theorem x_vret (pc : Nat) (C : xOK p s m args meth c D z own cc nL rt) (d : decode cc pc = .ok (.return_, 1)) (hr : rt = none) (hn0 : n0 ≤ n) (hp : Post none n G I L) : X p l e R s m args below meth c D z nL (MQ below (xQc D z n0 Post) args s cells slots (fun a => z ≤ a)) cells slots n G I L pc lv [] :=
  fun H locs ls h1 h2 h3 h4 => W.vret C.exec C.code (C.ret.trans hr) (fun t ht hW => ⟨⟨_, n, G, I, L, rfl, hp, by rw [ht, h1], hn0, by rw [ht]; exact h2⟩, h3.F ht⟩) h3.2.2 d C.locks
theorem x_aret (pc : Nat) (C : xOK p s m args meth c D z own cc nL rt) {b : Nat} {ty : FieldType} (d : decode cc pc = .ok (.areturn, 1)) (hr : rt = some ty) (ht : (∃ n, ty = .object n) ∨ ∃ t, ty = .array t) (hn0 : n0 ≤ n) (hp : Post (some (.ref b)) n G I L) : X p l e R s m args below meth c D z nL (MQ below (xQc D z n0 Post) args s cells slots (fun a => z ≤ a)) cells slots n G I L pc lv [.ref b] :=
  fun H locs ls h1 h2 h3 h4 => W.aret C.exec C.code (C.ret.trans hr) ht (Or.inr ⟨_, rfl⟩) (fun t ht hW => ⟨⟨_, n, G, I, L, rfl, hp, by rw [ht, h1], hn0, by rw [ht]; exact h2⟩, h3.F ht⟩) h3.2.2 d C.locks
/-- what the tables hold of a method of ours -/
def xMt (y : MethodName) (cc : ByteArray) (nL : Nat) (ret : Option FieldType) (na : Nat) : Prop := Cond.code y cc nL ret ∈ xtbl ∧ Cond.initialized y.cls ∈ xtbl ∧ (y.cls ≠ "java/lang/invoke/MethodHandle" ∧ y.cls ≠ "java/lang/invoke/VarHandle" ∧ (parseMethodDescriptor y.desc).map (fun d => d.parameters.length) = some na)
theorem xB_blind {av : List Value} : FrameBlind (va_Pc av (xB D z n G I L)) := by
  intro a U g mk q
  obtain ⟨q0, h1, h2, h3, h4, h5⟩ := q
  exact ⟨q0, h1, h2, h3, ⟨va_K.moved (u := U) (U := U.calling g mk a) (Vm.Alike.refl U.vm) h4.1, fun C hC => va_AO.moved (u := U) (U := U.calling g mk a) (Vm.Alike.refl U.vm) (h4.2.1 C hC), fun q hq => va_Nw.same (u := U) (U := U.calling g mk a) rfl rfl (h4.2.2 q hq)⟩, xZ.moved (u := U) (U := U.calling g mk a) (Vm.Alike.refl U.vm) h5⟩
theorem xB_at (C : xOK p s m args meth c D z own cc nL rt) {H : Heap} {locs : List Loc} (h1 : H.size = n) (h2 : xRep D G I L H) (h3 : va_S (fun a => z ≤ a) s.heap H locs) {av : List Value} : ∀ U : State, U.heap = H → s.WarmedH U.vm → va_Pc av (xB D z n G I L) av.toArray U := fun U hU hW =>
  ⟨rfl, by rw [hU, h1], by rw [← h1]; exact Nat.le_trans C.zle h3.1, by rw [hU]; exact h2, xK.moved hW C.K, by rw [hU]; exact (C.Z.moved hW.alike).kept h3.2.1⟩
theorem x_run {mc ms : Nat} {pc : Nat} {ls : Array Slot} {H : Heap} {locs : List Loc} {a : Array Value} {rest st0 : List Value} (hr : va_Run p l e R s m args below meth c H locs cells slots mc ms (F0 m pc ls st0) rest (xQc D z n Post a) (fun a => z ≤ a)) (h1 : H.size = n) (h3 : va_S (fun a => z ≤ a) s.heap H locs) (h4 : lv_has ls nL lv)
    (k : ∀ (v : Option Value) (n' : Nat) (G' : xG) (I' : xI) (L' : xL), Post v n' G' I' L' → n ≤ n' → X p l e R s m args below meth c D z nL Q (cells + mc) (slots + ms) n' G' I' L' (pc + 3) lv (v.toList ++ rest)) : W p l e R s m args below meth c H locs cells slots Q (F0 m pc ls st0) := by
  intro T hT X0
  obtain ⟨v, st₀, t, T', LL, h0, X', hL, e1, e2, ⟨⟨v', n', G', I', L', hv, hp, hs', hn', hR'⟩, hz, hk⟩, stp⟩ := hr T hT X0
  cases hv
  rw [h0] at hz hk
  obtain ⟨t2, a1, b1⟩ := k v n' G' I' L' hp hn' T'.heap (locs ++ LL) ls (by rw [e1, hs']) (by rw [e1]; exact hR') ⟨Nat.le_trans h3.1 (by rw [e1]; exact hz), fun q g1 g2 => by rw [e1, hk q (Nat.lt_of_lt_of_le g1 h3.1) g2]; exact h3.2.1 q g1 g2, fun q hq => by
      rcases List.mem_append.mp hq with h | h
      · exact h3.2.2 q h
      · exact hL q h⟩ h4 T' rfl X'
  exact ⟨t2, stp t2 a1, b1⟩
theorem xCB (C : xOK p s m args meth c D z own cc nL rt) {y : MethodName} {cc' : ByteArray} {nL' fr lo mc ms na idx : Nat} {ret' : Option FieldType} (mt : xMt y cc' nL' ret' na) (lk : Cond.methodLink own idx y ∈ xtbl) (hR : fr + 1 ≤ R.frames ∧ 8 + (nL' + 11) + lo ≤ R.locals) : CallB R s args own idx y cc' nL' ret' (xws y cc' nL' ret') (xRm fr lo mc ms) mc ms na :=
  callB_of na C.ts (xws_good mt.1) rfl rfl rfl (C.ts _ mt.2.1) (C.ts _ lk) mt.2.2 hR
theorem x_callV (pc : Nat) (C : xOK p s m args meth c D z own cc nL rt) {idx : Nat} (d : decode cc pc = .ok (.invokevirtual idx, 3)) {y : MethodName} {cc' : ByteArray} {nL' fr lo mc ms ci b : Nat} {ret' : Option FieldType} {As rest : List Value} {r : Nat → Option Nat}
    (hM : xM l D z y cc' nL' ret' fr lo mc ms (.ref b :: As) n G I L Post) (mt : xMt y cc' nL' ret' As.length) (lk : Cond.methodLink own idx y ∈ xtbl) (hin : Cond.instanceMethod y ∈ xtbl) (hse : Cond.selects y.cls y y ∈ xtbl) (g : G b = some (ci, 0, r)) (hc : ci < 13 ∧ (xCl ci).1 = y.cls) (hst : st = As.reverse ++ .ref b :: rest) (hcat : (rest.map fun v => v.category).sum ≤ 8) (hR : (fr + 1 ≤ R.frames ∧ 8 + (nL' + 11) + lo ≤ R.locals) ∧ cells + mc ≤ R.cells ∧ slots + ms ≤ R.slots)
    (k : ∀ (v : Option Value) (n' : Nat) (G' : xG) (I' : xI) (L' : xL), Post v n' G' I' L' → n ≤ n' → X p l e R s m args below meth c D z nL Q (cells + mc) (slots + ms) n' G' I' L' (pc + 3) lv (v.toList ++ rest)) : X p l e R s m args below meth c D z nL Q cells slots n G I L pc lv st := by
  intro H locs ls h1 h2 h3 h4
  subst hst
  obtain ⟨cell, q1, q2, q3, -⟩ := xRep_obj h2 g hc.1
  refine x_run (va_runV (C := y.cls) (b := b) (As := As) (rest := rest) ⟨C.exec, C.code, C.maxL, C.cls, C.ts⟩ hM ⟨xCB C mt lk hR.1, C.ts _ hin, C.ts _ hse⟩ ⟨xB_blind, ⟨cell, q1, by rw [q3]; rfl, by rw [q2, ← hc.2]; exact (C.K.1.1 ci _ (xCl_ok hc.1)).2.1⟩, xB_at C h1 h2 h3⟩ rfl rfl h4.1 rfl (lv_room hcat) d hR.2) h1 h3 h4 k
theorem x_callS (pc : Nat) (C : xOK p s m args meth c D z own cc nL rt) {idx : Nat} (d : decode cc pc = .ok (.invokestatic idx, 3)) {y : MethodName} {cc' : ByteArray} {nL' fr lo mc ms : Nat} {ret' : Option FieldType} {As rest : List Value}
    (hM : xM l D z y cc' nL' ret' fr lo mc ms As n G I L Post) (mt : xMt y cc' nL' ret' As.length) (lk : Cond.methodLink own idx y ∈ xtbl) (hs : Cond.static y ∈ xtbl) (hst : st = As.reverse ++ rest) (hcat : (rest.map fun v => v.category).sum ≤ 8) (hR : (fr + 1 ≤ R.frames ∧ 8 + (nL' + 11) + lo ≤ R.locals) ∧ cells + mc ≤ R.cells ∧ slots + ms ≤ R.slots)
    (k : ∀ (v : Option Value) (n' : Nat) (G' : xG) (I' : xI) (L' : xL), Post v n' G' I' L' → n ≤ n' → X p l e R s m args below meth c D z nL Q (cells + mc) (slots + ms) n' G' I' L' (pc + 3) lv (v.toList ++ rest)) : X p l e R s m args below meth c D z nL Q cells slots n G I L pc lv st := by
  intro H locs ls h1 h2 h3 h4
  subst hst
  exact x_run (va_runS (As := As) (rest := rest) ⟨C.exec, C.code, C.maxL, C.cls, C.ts⟩ hM ⟨xCB C mt lk hR.1, C.ts _ hs⟩ ⟨xB_blind, xB_at C h1 h2 h3⟩ rfl rfl h4.1 rfl (lv_room hcat) d hR.2) h1 h3 h4 k
theorem x_callI (pc : Nat) (C : xOK p s m args meth c D z own cc nL rt) {idx : Nat} (d : decode cc pc = .ok (.invokespecial idx, 3)) {y : MethodName} {cc' : ByteArray} {nL' fr lo mc ms b : Nat} {As rest : List Value}
    (hM : xM l D z y cc' nL' none fr lo mc ms (.ref b :: As) n G I L Post) (mt : xMt y cc' nL' none As.length) (hy : y.name = "<init>") (lk : Cond.methodLink own idx y ∈ xtbl) (hin : Cond.instanceMethod y ∈ xtbl) (hst : st = As.reverse ++ .ref b :: rest) (hcat : (rest.map fun v => v.category).sum ≤ 8) (hR : (fr + 1 ≤ R.frames ∧ 8 + (nL' + 11) + lo ≤ R.locals) ∧ cells + mc ≤ R.cells ∧ slots + ms ≤ R.slots)
    (k : ∀ (v : Option Value) (n' : Nat) (G' : xG) (I' : xI) (L' : xL), Post v n' G' I' L' → n ≤ n' → X p l e R s m args below meth c D z nL Q (cells + mc) (slots + ms) n' G' I' L' (pc + 3) lv (v.toList ++ rest)) : X p l e R s m args below meth c D z nL Q cells slots n G I L pc lv st := by
  intro H locs ls h1 h2 h3 h4
  subst hst
  exact x_run (va_runI (b := b) (As := As) (rest := rest) ⟨C.exec, C.code, C.maxL, C.cls, C.ts⟩ hM ⟨xCB C mt lk hR.1, hy, C.ts _ hin⟩ ⟨xB_blind, xB_at C h1 h2 h3⟩ rfl rfl h4.1 rfl (lv_room hcat) d hR.2) h1 h3 h4 k
/-- the constructor of Complex, out of its nest mates -/
theorem x_callIN (pc : Nat) (C : xOK p s m args meth c D z own cc nL rt) {idx : Nat} (d : decode cc pc = .ok (.invokespecial idx, 3)) {cc' : ByteArray} {nL' fr lo mc ms b : Nat} {rest : List Value}
    (hM : xM l D z yX0_init cc' nL' none fr lo mc ms [.ref b] n G I L Post) (mt : xMt yX0_init cc' nL' none 0) (lk : (own, idx) ∈ xNest) (hin : Cond.instanceMethod yX0_init ∈ xtbl) (hst : st = .ref b :: rest) (hcat : (rest.map fun v => v.category).sum ≤ 8) (hR : (fr + 1 ≤ R.frames ∧ 8 + (nL' + 11) + lo ≤ R.locals) ∧ cells + mc ≤ R.cells ∧ slots + ms ≤ R.slots)
    (k : ∀ (v : Option Value) (n' : Nat) (G' : xG) (I' : xI) (L' : xL), Post v n' G' I' L' → n ≤ n' → X p l e R s m args below meth c D z nL Q (cells + mc) (slots + ms) n' G' I' L' (pc + 3) lv (v.toList ++ rest)) : X p l e R s m args below meth c D z nL Q cells slots n G I L pc lv st := by
  intro H locs ls h1 h2 h3 h4
  subst hst
  exact x_run (va_runIN (b := b) (As := []) (rest := rest) ⟨C.exec, C.code, C.maxL, C.cls, C.ts⟩ hM ⟨va_cnB 0 C.ts (xws_good mt.1) rfl rfl rfl (C.K.2.2 _ lk) (C.ts _ mt.2.1) mt.2.2 hR.1, rfl, C.ts _ hin⟩ ⟨xB_blind, xB_at C h1 h2 h3⟩ rfl rfl h4.1 rfl (lv_room hcat) d hR.2) h1 h3 h4 k
/-- Object's constructor -/
theorem x_obj (pc : Nat) (C : xOK p s m args meth c D z own cc nL rt) {idx b : Nat} (d : decode cc pc = .ok (.invokespecial idx, 3)) (lk : Cond.methodLink own idx objectInit ∈ xtbl) (hin : Cond.instanceMethod objectInit ∈ xtbl) (hco : Cond.code objectInit ⟨#[0xb1]⟩ 1 none ∈ xtbl) (hcat : (st.map fun v => v.category).sum + 12 ≤ R.locals) (hf : 1 ≤ R.frames)
    (k : X p l e R s m args below meth c D z nL Q cells slots n G I L (pc + 3) lv st) : X p l e R s m args below meth c D z nL Q cells slots n G I L pc lv (.ref b :: st) :=
  fun H locs ls h1 h2 h3 h4 => W.objInit C.exec C.code C.cls (C.ts _ lk) (C.ts _ hin) (C.ts _ hco) rfl (h4.1.trans C.maxL.symm) rfl d hf (by show 2 * 0 + _ + 12 ≤ _; omega) (k H locs ls h1 h2 h3 h4)
-- Math
theorem x_mmax (pc : Nat) (C : xOK p s m args meth c D z own cc nL rt) {idx : Nat} {x y : Int32} (d : decode cc pc = .ok (.invokestatic idx, 3)) (lk : Cond.methodLink own idx Lib.Math.max.name ∈ xtbl) (hs : Cond.static Lib.Math.max.name ∈ xtbl) (hi : Cond.initialized "java/lang/Math" ∈ xtbl) (hco : Cond.code Lib.Math.max.name Lib.Math.max.code 2 (some .int) ∈ xtbl) (hR : 1 ≤ R.frames ∧ (st.map fun v => v.category).sum + 13 ≤ R.locals ∧ cells ≤ R.cells ∧ slots ≤ R.slots)
    (k : X p l e R s m args below meth c D z nL Q cells slots n G I L (pc + 3) lv (.int (if x < y then y else x) :: st)) : X p l e R s m args below meth c D z nL Q cells slots n G I L pc lv (.int y :: .int x :: st) :=
  fun H locs ls h1 h2 h3 h4 => va_mmax C.exec C.code (C.maxL.trans h4.1.symm) C.cls (C.ts _ lk) (C.ts _ hs) (C.ts _ hi) (C.ts _ hco) hR.1 hR.2.1 hR.2.2.1 hR.2.2.2 d (k H locs ls h1 h2 h3 h4)
theorem x_mmin (pc : Nat) (C : xOK p s m args meth c D z own cc nL rt) {idx : Nat} {x y : Int32} (d : decode cc pc = .ok (.invokestatic idx, 3)) (lk : Cond.methodLink own idx Lib.Math.min.name ∈ xtbl) (hs : Cond.static Lib.Math.min.name ∈ xtbl) (hi : Cond.initialized "java/lang/Math" ∈ xtbl) (hco : Cond.code Lib.Math.min.name Lib.Math.min.code 2 (some .int) ∈ xtbl) (hR : 1 ≤ R.frames ∧ (st.map fun v => v.category).sum + 13 ≤ R.locals ∧ cells ≤ R.cells ∧ slots ≤ R.slots)
    (k : X p l e R s m args below meth c D z nL Q cells slots n G I L (pc + 3) lv (.int (if y < x then y else x) :: st)) : X p l e R s m args below meth c D z nL Q cells slots n G I L pc lv (.int y :: .int x :: st) :=
  fun H locs ls h1 h2 h3 h4 => va_mmin C.exec C.code (C.maxL.trans h4.1.symm) C.cls (C.ts _ lk) (C.ts _ hs) (C.ts _ hi) (C.ts _ hco) hR.1 hR.2.1 hR.2.2.1 hR.2.2.2 d (k H locs ls h1 h2 h3 h4)
theorem x_mabs (pc : Nat) (C : xOK p s m args meth c D z own cc nL rt) {idx : Nat} {x : Int32} (d : decode cc pc = .ok (.invokestatic idx, 3)) (lk : Cond.methodLink own idx Lib.Math.abs.name ∈ xtbl) (hs : Cond.static Lib.Math.abs.name ∈ xtbl) (hi : Cond.initialized "java/lang/Math" ∈ xtbl) (hco : Cond.code Lib.Math.abs.name Lib.Math.abs.code 1 (some .int) ∈ xtbl) (hR : 1 ≤ R.frames ∧ (st.map fun v => v.category).sum + 13 ≤ R.locals ∧ cells ≤ R.cells ∧ slots ≤ R.slots)
    (k : X p l e R s m args below meth c D z nL Q cells slots n G I L (pc + 3) lv (.int (if 0 ≤ x then x else 0 - x) :: st)) : X p l e R s m args below meth c D z nL Q cells slots n G I L pc lv (.int x :: st) :=
  fun H locs ls h1 h2 h3 h4 => va_mabs C.exec C.code (C.maxL.trans h4.1.symm) C.cls (C.ts _ lk) (C.ts _ hs) (C.ts _ hi) (C.ts _ hco) hR.1 hR.2.1 hR.2.2.1 hR.2.2.2 d (k H locs ls h1 h2 h3 h4)
theorem x_mmaxl (pc : Nat) (C : xOK p s m args meth c D z own cc nL rt) {idx : Nat} {x y : Int64} (d : decode cc pc = .ok (.invokestatic idx, 3)) (lk : Cond.methodLink own idx Lib.MathLoose.max_long.x ∈ xtbl) (hs : Cond.static Lib.MathLoose.max_long.x ∈ xtbl) (hi : Cond.initialized "java/lang/Math" ∈ xtbl) (hco : Cond.code Lib.MathLoose.max_long.x Lib.MathLoose.max_long.code 4 (some .long) ∈ xtbl) (hR : 1 ≤ R.frames ∧ (st.map fun v => v.category).sum + 15 ≤ R.locals ∧ cells ≤ R.cells ∧ slots ≤ R.slots)
    (k : X p l e R s m args below meth c D z nL Q cells slots n G I L (pc + 3) lv (.long (if y < x then x else y) :: st)) : X p l e R s m args below meth c D z nL Q cells slots n G I L pc lv (.long y :: .long x :: st) :=
  fun H locs ls h1 h2 h3 h4 => va_mmax_long C.exec C.code (C.maxL.trans h4.1.symm) C.cls (C.ts _ lk) (C.ts _ hs) (C.ts _ hi) (C.ts _ hco) hR.1 hR.2.1 hR.2.2.1 hR.2.2.2 d (k H locs ls h1 h2 h3 h4)
theorem x_mabsl (pc : Nat) (C : xOK p s m args meth c D z own cc nL rt) {idx : Nat} {x : Int64} (d : decode cc pc = .ok (.invokestatic idx, 3)) (lk : Cond.methodLink own idx Lib.MathLoose.abs_long.x ∈ xtbl) (hs : Cond.static Lib.MathLoose.abs_long.x ∈ xtbl) (hi : Cond.initialized "java/lang/Math" ∈ xtbl) (hco : Cond.code Lib.MathLoose.abs_long.x Lib.MathLoose.abs_long.code 2 (some .long) ∈ xtbl) (hR : 1 ≤ R.frames ∧ (st.map fun v => v.category).sum + 13 ≤ R.locals ∧ cells ≤ R.cells ∧ slots ≤ R.slots)
    (k : X p l e R s m args below meth c D z nL Q cells slots n G I L (pc + 3) lv (.long (if 0 < x then x else -x) :: st)) : X p l e R s m args below meth c D z nL Q cells slots n G I L pc lv (.long x :: st) :=
  fun H locs ls h1 h2 h3 h4 => va_mabs_long C.exec C.code (C.maxL.trans h4.1.symm) C.cls (C.ts _ lk) (C.ts _ hs) (C.ts _ hi) (C.ts _ hco) hR.1 hR.2.1 hR.2.2.1 hR.2.2.2 d (k H locs ls h1 h2 h3 h4)
end XC
