/-! THE x_ LAYER, 3: fields, arrays, new cells -/
def xHin (k : Nat) : Prop := (∀ w ∈ u_ws (xCl k).1 (xCl k).2.1 (xCl k).2.2, w ∈ xtbl) ∧ (∀ j, j < (xCl k).2.2 → parseFieldDescriptor ((xCl k).2.1 j).2.2.1 = some (xTy k j)) ∧ (∀ a, a < (xCl k).2.2 → ∀ b, b < (xCl k).2.2 → a ≠ b → ((xCl k).2.1 a).2.1 ≠ ((xCl k).2.1 b).2.1)
/-- field j of class ci, by its place idx in the pool of class own -/
def xFld (own : String) (idx ci j : Nat) (ty : FieldType) : Prop := ci < 13 ∧ j < (xCl ci).2.2 ∧ Cond.fieldLink own idx (xCl ci).1 ((xCl ci).2.1 j).2.1 ((xCl ci).2.1 j).2.2.1 ∈ xtbl ∧ xTy ci j = ty ∧ ((xCl ci).2.1 j).1 = (xCl ci).1 ∧ xHin ci
theorem xRep_obj {D : xD} {G : xG} {I : xI} {L : xL} {H : Heap} (h : xRep D G I L H) {a ci : Nat} {r : Nat → Option Nat} (g : G a = some (ci, 0, r)) (hc : ci < 13) : t_OB a (D.1.1 ci) (xCl ci).2.2 (D.1.2 ci) H (fun j => xV (xTy ci j) (I a j) (L a j) (r j)) := by
  have h1 := h a _ g
  unfold xAt at h1
  rw [if_pos hc] at h1
  exact h1
theorem xRep_arr {D : xD} {G : xG} {I : xI} {L : xL} {H : Heap} (h : xRep D G I L H) {a k len : Nat} {r : Nat → Option Nat} (g : G a = some (k, len, r)) (hc : ¬ k < 13) : H[a]? = some (arrV (D.2.1 (k - 20)) len (fun j => xAV k (I a j) (L a j) (r j))) := by
  have h1 := h a _ g
  unfold xAt at h1
  rw [if_neg hc] at h1
  exact h1
theorem xRep.lt {D : xD} {G : xG} {I : xI} {L : xL} {H : Heap} (h : xRep D G I L H) {a : Nat} {sh : xS} (g : G a = some sh) : a < H.size := (h a sh g).lt
theorem xRep_set {D : xD} {G G' : xG} {I I' : xI} {L L' : xL} {H H' : Heap} (h : xRep D G I L H) {a : Nat} (hself : ∀ sh, G' a = some sh → xAt D I' L' a sh H') (hG : ∀ q, q ≠ a → G' q = G q) (hI : ∀ q, q ≠ a → I' q = I q) (hL : ∀ q, q ≠ a → L' q = L q) (hH : ∀ q, q ≠ a → H'[q]? = H[q]?) : xRep D G' I' L' H' := by
  intro q sh hq
  by_cases hqa : q = a
  · subst hqa; exact hself sh hq
  · rw [hG q hqa] at hq
    exact (h q sh hq).kept (hH q hqa) (hI q hqa) (hL q hqa)
theorem xup_row {α : Type} (f : Nat → Nat → α) {a k q : Nat} (v : α) (h : q ≠ a) : xup f a k v q = f q := by funext k'; simp [xup, h]
theorem xup_at {α : Type} (f : Nat → Nat → α) (a k : Nat) (v : α) (j : Nat) : xup f a k v a j = if j = k then v else f a j := by simp [xup]
section XH
variable {p : Program} {l : Launch} {e : Env} {R : Room} {s : State} {m : MethodId} {args : Array Value} {below : List Frame} {meth : Method} {c : Code} {D : xD} {z nL : Nat} {Q : State → Prop} {cells slots n : Nat} {G : xG} {I : xI} {L : xL} {own : String} {cc : ByteArray} {rt : Option FieldType} {lv : List (Nat × Value)} {st : List Value}
theorem xOK.exec (C : xOK p s m args meth c D z own cc nL rt) : p.tables.exec = Jvm.exec := C.1
theorem xOK.code (C : xOK p s m args meth c D z own cc nL rt) : c.code = cc := C.2.1
theorem xOK.maxL (C : xOK p s m args meth c D z own cc nL rt) : c.maxLocals = nL := C.2.2.1
theorem xOK.cls (C : xOK p s m args meth c D z own cc nL rt) : s.vm.findClass own = some m.cls := C.2.2.2.1
theorem xOK.ts (C : xOK p s m args meth c D z own cc nL rt) : ∀ w ∈ xtbl, w.before args s = true := C.2.2.2.2.1
theorem xOK.ret (C : xOK p s m args meth c D z own cc nL rt) : meth.sig.returnType = rt := C.2.2.2.2.2.1
theorem xOK.locks (C : xOK p s m args meth c D z own cc nL rt) : meth.locks = false := C.2.2.2.2.2.2.1
theorem xOK.K (C : xOK p s m args meth c D z own cc nL rt) : xK D s := C.2.2.2.2.2.2.2.1
theorem xOK.Z (C : xOK p s m args meth c D z own cc nL rt) : xZ D z s s.heap := C.2.2.2.2.2.2.2.2.1
theorem xOK.zle (C : xOK p s m args meth c D z own cc nL rt) : z ≤ s.heap.size := C.2.2.2.2.2.2.2.2.2
theorem xOK.tys (C : xOK p s m args meth c D z own cc nL rt) {k : Nat} {q : ClassId × FieldType} (h : (xTys D)[k]? = some q) : ArrOfT s q.1 q.2 := (C.K.1.2 k q h).1
theorem x_getv (pc : Nat) (C : xOK p s m args meth c D z own cc nL rt) {idx ci j : Nat} {ty : FieldType} {a : Nat} {r : Nat → Option Nat} {v : Value} (d : decode cc pc = .ok (.getfield idx, 3)) (f : xFld own idx ci j ty) (g : G a = some (ci, 0, r)) (hv : xV ty (I a j) (L a j) (r j) = v)
    (k : X p l e R s m args below meth c D z nL Q cells slots n G I L (pc + 3) lv (v :: st)) : X p l e R s m args below meth c D z nL Q cells slots n G I L pc lv (.ref a :: st) := by
  intro H locs ls h1 h2 h3 h4
  obtain ⟨hc, hj, hl, hty, hown, hin, htys, hnm⟩ := f
  obtain ⟨cell, q1, q2, q3, q4⟩ := xRep_obj h2 g hc
  obtain ⟨hS, hfc, kC, hkC, hkind⟩ := C.K.1.1 ci _ (xCl_ok hc)
  obtain ⟨cf, kf, fi, f, hi, hsl⟩ := hS j hj
  refine W.getf C.exec C.code C.cls (C.ts _ hl) (by rw [← hown]; exact hi) (u_facts hfc hkC (u_lays C.ts hin hj) hi).1 q1 (by rw [q3]; exact fun h => by cases h) (v := v) ?_ rfl rfl d (k H locs ls h1 h2 h3 h4)
  rw [hsl, q4 j hj]
  show some (xV (xTy ci j) (I a j) (L a j) (r j)) = some v
  rw [hty, hv]
theorem x_geti (pc : Nat) (C : xOK p s m args meth c D z own cc nL rt) {idx ci j : Nat} {a : Nat} {r : Nat → Option Nat} (d : decode cc pc = .ok (.getfield idx, 3)) (f : xFld own idx ci j .int) (g : G a = some (ci, 0, r)) (k : X p l e R s m args below meth c D z nL Q cells slots n G I L (pc + 3) lv (.int (I a j) :: st)) : X p l e R s m args below meth c D z nL Q cells slots n G I L pc lv (.ref a :: st) := x_getv pc C d f g rfl k
theorem x_getz (pc : Nat) (C : xOK p s m args meth c D z own cc nL rt) {idx ci j : Nat} {a : Nat} {r : Nat → Option Nat} (d : decode cc pc = .ok (.getfield idx, 3)) (f : xFld own idx ci j .boolean) (g : G a = some (ci, 0, r)) (k : X p l e R s m args below meth c D z nL Q cells slots n G I L (pc + 3) lv (.int (I a j) :: st)) : X p l e R s m args below meth c D z nL Q cells slots n G I L pc lv (.ref a :: st) := x_getv pc C d f g rfl k
theorem x_getl (pc : Nat) (C : xOK p s m args meth c D z own cc nL rt) {idx ci j : Nat} {a : Nat} {r : Nat → Option Nat} (d : decode cc pc = .ok (.getfield idx, 3)) (f : xFld own idx ci j .long) (g : G a = some (ci, 0, r)) (k : X p l e R s m args below meth c D z nL Q cells slots n G I L (pc + 3) lv (.long (L a j) :: st)) : X p l e R s m args below meth c D z nL Q cells slots n G I L pc lv (.ref a :: st) := x_getv pc C d f g rfl k
def xIsRef (ty : FieldType) : Bool := match ty with
  | .object _ => true
  | .array _ => true
  | _ => false
theorem xV_ref {ty : FieldType} (h : xIsRef ty = true) (i : Int32) (l : Int64) (r : Option Nat) : xV ty i l r = va_rf r := by
  cases ty <;> first | rfl | cases h
theorem x_getr (pc : Nat) (C : xOK p s m args meth c D z own cc nL rt) {idx ci j : Nat} {ty : FieldType} {a b : Nat} {r : Nat → Option Nat} (d : decode cc pc = .ok (.getfield idx, 3)) (f : xFld own idx ci j ty) (ht : xIsRef ty = true) (g : G a = some (ci, 0, r)) (hr : r j = some b) (k : X p l e R s m args below meth c D z nL Q cells slots n G I L (pc + 3) lv (.ref b :: st)) : X p l e R s m args below meth c D z nL Q cells slots n G I L pc lv (.ref a :: st) := x_getv pc C d f g (by rw [xV_ref ht, hr]; rfl) k
/-- a store into a field, final or not -/
theorem x_putv (pc : Nat) (C : xOK p s m args meth c D z own cc nL rt) {idx ci j : Nat} {ty : FieldType} {a : Nat} {r r' : Nat → Option Nat} {v : Value} {G' : xG} {I' : xI} {L' : xL} (d : decode cc pc = .ok (.putfield idx, 3)) (f : xFld own idx ci j ty) (g : G a = some (ci, 0, r)) (hz : z ≤ a)
    (hfin : ((xCl ci).2.1 j).2.2.2 = false ∨ (((xCl ci).2.1 j).2.2.2 = true ∧ meth.name = "<init>" ∧ (xCl ci).1 = own)) (hn : narrow ty v = v) (hfit : fits ty v = true)
    (hG : G' a = some (ci, 0, r')) (hGo : ∀ q, q ≠ a → G' q = G q) (hIo : ∀ q, q ≠ a → I' q = I q) (hLo : ∀ q, q ≠ a → L' q = L q) (hval : ∀ i, xV (xTy ci i) (I' a i) (L' a i) (r' i) = if i = j then v else xV (xTy ci i) (I a i) (L a i) (r i))
    (k : X p l e R s m args below meth c D z nL Q cells slots n G' I' L' (pc + 3) lv st) : X p l e R s m args below meth c D z nL Q cells slots n G I L pc lv (v :: .ref a :: st) := by
  intro H locs ls h1 h2 h3 h4
  obtain ⟨hc, hj, hl, hty, hown, hin, htys, hnm⟩ := f
  have hK := C.K.1
  have hap := va_apart (own := own) C.ts hin (xTy ci) htys hnm hK (xCl_ok hc)
  obtain ⟨cell, q1, q2, q3, q4⟩ := xRep_obj h2 g hc
  obtain ⟨hS, hfc, kC, hkC, hkind⟩ := hK.1 ci _ (xCl_ok hc)
  obtain ⟨cf, kf, fi, f, hi, hsl⟩ := hS j hj
  have hd : parseFieldDescriptor ((xCl ci).2.1 j).2.2.1 = some ty := by rw [← hty]; exact htys j hj
  have hst := (u_facts hfc hkC (u_lays C.ts hin hj) hi).1
  have done : ∀ (H' : Heap) (locs' : List Loc), H'[a]? = some (cell.setSlot f.slot v) → H'.size = H.size → (∀ q, q ≠ a → H'[q]? = H[q]?) → va_S (fun a => z ≤ a) s.heap H' locs' → W p l e R s m args below meth c H' locs' cells slots Q (F0 m (pc + 3) ls st) := by
    intro H' locs' e1 e2 e3 hS'
    refine k H' locs' ls (by rw [e2]; exact h1) (xRep_set h2 (a := a) (fun sh hsh => ?_) hGo hIo hLo e3) hS' h4
    rw [hG] at hsh
    cases hsh
    unfold xAt
    rw [if_pos hc]
    refine t_OB.to (V := updV (fun i => xV (xTy ci i) (I a i) (L a i) (r i)) j v) ⟨_, e1, q2, q3, ?_⟩ (fun i _ => ?_)
    · rw [hsl]; exact t_set q4 hap hj v
    · rw [hval i]; rfl
  have hlay := C.ts _ (hin _ (u_in_lay hj))
  unfold u_lay at hlay
  have hi' : s.fieldFound? (xCl ci).1 ((xCl ci).2.1 j).2.1 ((xCl ci).2.1 j).2.2.1 = some (cf, kf, fi, f) := by rw [← hown]; exact hi
  rcases hfin with hf | ⟨hf, hinit, hcl⟩
  · rw [if_neg (by rw [hf]; decide)] at hlay
    have h6 := u_store hfc hkC hkind hlay hi hd hn hfit
    exact W.putK C.exec C.code (f := f) ⟨C.cls, C.ts _ hl, ⟨_, _, _, hi'⟩, hst⟩ (by rw [q2]; exact h6) q1 q3 (by rw [hsl]; exact k2_hasslot (q4 j hj)) rfl rfl d fun H' e1 e2 e3 => done H' _ e1 e2 e3 (h3.put e2 e3 hz)
  · rw [if_pos hf] at hlay
    have hcf : m.cls = cf := by
      obtain ⟨_, _, c', _, _, _, -, -, hf', -, -, -, hown2, -⟩ := Cond.laysFinal_spec hlay
      have e1 : c' = cf := by have := hi.symm.trans hf'; simp at this; exact this.1.symm
      rw [hown, hcl] at hown2
      rw [← e1]; exact Option.some.inj (C.cls.symm.trans hown2)
    have h6 := u_fits hfc hkC hkind (Or.inr hlay) hi hd hn hfit
    exact W.putFinK C.exec C.code C.cls (C.ts _ hl) hi' hst hcf hinit (by rw [q2]; exact h6) q1 q3 (by rw [hsl]; exact k2_hasslot (q4 j hj)) rfl rfl d fun H' e1 e2 e3 => done H' _ e1 e2 e3 (h3.put e2 e3 hz)
theorem x_puti (pc : Nat) (C : xOK p s m args meth c D z own cc nL rt) {idx ci j : Nat} {a : Nat} {r : Nat → Option Nat} {v : Int32} (d : decode cc pc = .ok (.putfield idx, 3)) (f : xFld own idx ci j .int) (hfin : ((xCl ci).2.1 j).2.2.2 = false) (g : G a = some (ci, 0, r)) (hz : z ≤ a)
    (k : ∀ I' : xI, I' = xup I a j v → X p l e R s m args below meth c D z nL Q cells slots n G I' L (pc + 3) lv st) : X p l e R s m args below meth c D z nL Q cells slots n G I L pc lv (.int v :: .ref a :: st) := by
  refine x_putv pc C d f g hz (Or.inl hfin) rfl rfl g (fun _ _ => rfl) (fun q hq => xup_row I v hq) (fun _ _ => rfl) (fun i => ?_) (k _ rfl)
  rw [xup_at]
  by_cases hi : i = j
  · subst hi; rw [if_pos rfl, if_pos rfl, f.2.2.2.1]; rfl
  · rw [if_neg hi, if_neg hi]
theorem x_putz (pc : Nat) (C : xOK p s m args meth c D z own cc nL rt) {idx ci j : Nat} {a : Nat} {r : Nat → Option Nat} {v : Int32} (d : decode cc pc = .ok (.putfield idx, 3)) (f : xFld own idx ci j .boolean) (hfin : ((xCl ci).2.1 j).2.2.2 = false) (hv : narrow .boolean (.int v) = .int v) (hf : fits .boolean (.int v) = true) (g : G a = some (ci, 0, r)) (hz : z ≤ a)
    (k : ∀ I' : xI, I' = xup I a j v → X p l e R s m args below meth c D z nL Q cells slots n G I' L (pc + 3) lv st) : X p l e R s m args below meth c D z nL Q cells slots n G I L pc lv (.int v :: .ref a :: st) := by
  refine x_putv pc C d f g hz (Or.inl hfin) hv hf g (fun _ _ => rfl) (fun q hq => xup_row I v hq) (fun _ _ => rfl) (fun i => ?_) (k _ rfl)
  rw [xup_at]
  by_cases hi : i = j
  · subst hi; rw [if_pos rfl, if_pos rfl, f.2.2.2.1]; rfl
  · rw [if_neg hi, if_neg hi]
theorem x_putl (pc : Nat) (C : xOK p s m args meth c D z own cc nL rt) {idx ci j : Nat} {a : Nat} {r : Nat → Option Nat} {v : Int64} (d : decode cc pc = .ok (.putfield idx, 3)) (f : xFld own idx ci j .long) (hfin : ((xCl ci).2.1 j).2.2.2 = false) (g : G a = some (ci, 0, r)) (hz : z ≤ a)
    (k : ∀ L' : xL, L' = xup L a j v → X p l e R s m args below meth c D z nL Q cells slots n G I L' (pc + 3) lv st) : X p l e R s m args below meth c D z nL Q cells slots n G I L pc lv (.long v :: .ref a :: st) := by
  refine x_putv pc C d f g hz (Or.inl hfin) rfl rfl g (fun _ _ => rfl) (fun _ _ => rfl) (fun q hq => xup_row L v hq) (fun i => ?_) (k _ rfl)
  rw [xup_at]
  by_cases hi : i = j
  · subst hi; rw [if_pos rfl, if_pos rfl, f.2.2.2.1]; rfl
  · rw [if_neg hi, if_neg hi]
theorem x_putr (pc : Nat) (C : xOK p s m args meth c D z own cc nL rt) {idx ci j : Nat} {ty : FieldType} {a b : Nat} {r : Nat → Option Nat} (d : decode cc pc = .ok (.putfield idx, 3)) (f : xFld own idx ci j ty) (ht : xIsRef ty = true) (hfin : ((xCl ci).2.1 j).2.2.2 = true) (hm : meth.name = "<init>") (hcl : (xCl ci).1 = own) (g : G a = some (ci, 0, r)) (hz : z ≤ a)
    (k : ∀ G' : xG, G' = va_up G a (some (ci, 0, va_up r j (some b))) → X p l e R s m args below meth c D z nL Q cells slots n G' I L (pc + 3) lv st) : X p l e R s m args below meth c D z nL Q cells slots n G I L pc lv (.ref b :: .ref a :: st) := by
  refine x_putv pc C d f g hz (Or.inr ⟨hfin, hm, hcl⟩) ?_ ?_ (va_up_self G a _) (fun q hq => va_up_ne G _ hq) (fun _ _ => rfl) (fun _ _ => rfl) (fun i => ?_) (k _ rfl)
  · cases ty <;> first | rfl | cases ht
  · cases ty <;> first | rfl | cases ht
  · by_cases hi : i = j
    · subst hi
      rw [if_pos rfl, va_up_self, f.2.2.2.1, xV_ref ht]; rfl
    · rw [if_neg hi, va_up_ne _ _ hi]
/-! arrays: kinds 20 int, 21 long, 22 boolean, 23.. of references -/
theorem xAV_i {k : Nat} (h1 : k ≠ 21) (h2 : k < 23) (i : Int32) (l : Int64) (r : Option Nat) : xAV k i l r = .int i := by simp [xAV, h1, h2]
theorem xAV_r {k : Nat} (h : 23 ≤ k) (i : Int32) (l : Int64) (r : Option Nat) : xAV k i l r = va_rf r := by
  have h1 : k ≠ 21 := by omega
  have h2 : ¬ k < 23 := by omega
  simp [xAV, h1, h2]
theorem x_iald (pc : Nat) (C : xOK p s m args meth c D z own cc nL rt) {a len j : Nat} {r : Nat → Option Nat} {i : Int32} (d : decode cc pc = .ok (.iaload, 1)) (g : G a = some (20, len, r)) (hi : xIx i len j) (k : X p l e R s m args below meth c D z nL Q cells slots n G I L (pc + 1) lv (.int (I a j) :: st)) : X p l e R s m args below meth c D z nL Q cells slots n G I L pc lv (.int i :: .ref a :: st) := by
  intro H locs ls h1 h2 h3 h4
  obtain ⟨hn, hj, hlt⟩ := id hi
  refine W.iald (v := .int (I a j)) C.exec C.code (xRep_arr h2 g (by decide)) (C.tys (k := 0) rfl len _) (fun q => by cases q) (by rw [arrV_size]; exact hi.in) ?_ rfl rfl d (k H locs ls h1 h2 h3 h4)
  rw [hj, arrV_read _ _ hlt]; rfl
theorem x_zald (pc : Nat) (C : xOK p s m args meth c D z own cc nL rt) {a len j : Nat} {r : Nat → Option Nat} {i : Int32} (d : decode cc pc = .ok (.baload, 1)) (g : G a = some (22, len, r)) (hi : xIx i len j) (k : X p l e R s m args below meth c D z nL Q cells slots n G I L (pc + 1) lv (.int (I a j) :: st)) : X p l e R s m args below meth c D z nL Q cells slots n G I L pc lv (.int i :: .ref a :: st) := by
  intro H locs ls h1 h2 h3 h4
  obtain ⟨hn, hj, hlt⟩ := id hi
  refine W.zald (v := .int (I a j)) C.exec C.code (xRep_arr h2 g (by decide)) (C.tys (k := 2) rfl len _) (fun q => by cases q) (by rw [arrV_size]; exact hi.in) ?_ rfl rfl d (k H locs ls h1 h2 h3 h4)
  rw [hj, arrV_read _ _ hlt]; rfl
theorem x_lald (pc : Nat) (C : xOK p s m args meth c D z own cc nL rt) {a len j : Nat} {r : Nat → Option Nat} {i : Int32} (d : decode cc pc = .ok (.laload, 1)) (g : G a = some (21, len, r)) (hi : xIx i len j) (k : X p l e R s m args below meth c D z nL Q cells slots n G I L (pc + 1) lv (.long (L a j) :: st)) : X p l e R s m args below meth c D z nL Q cells slots n G I L pc lv (.int i :: .ref a :: st) := by
  intro H locs ls h1 h2 h3 h4
  obtain ⟨hn, hj, hlt⟩ := id hi
  refine W.lald (v := .long (L a j)) C.exec C.code (xRep_arr h2 g (by decide)) (C.tys (k := 1) rfl len _) (fun q => by cases q) (by rw [arrV_size]; exact hi.in) ?_ rfl rfl d (k H locs ls h1 h2 h3 h4)
  rw [hj, arrV_read _ _ hlt]; rfl
def xAC (k : Nat) : Nat := (([0, 1, 6, 9, 10] : List Nat)[k - 23]?).getD 0
theorem x_aald (pc : Nat) (C : xOK p s m args meth c D z own cc nL rt) {k0 a b len j : Nat} {r : Nat → Option Nat} {i : Int32} (d : decode cc pc = .ok (.aaload, 1)) (hk : 23 ≤ k0 ∧ k0 < 28) (g : G a = some (k0, len, r)) (hi : xIx i len j) (hr : r j = some b) (k : X p l e R s m args below meth c D z nL Q cells slots n G I L (pc + 1) lv (.ref b :: st)) : X p l e R s m args below meth c D z nL Q cells slots n G I L pc lv (.int i :: .ref a :: st) := by
  intro H locs ls h1 h2 h3 h4
  obtain ⟨hn, hj, hlt⟩ := id hi
  have hty : ∃ C0 : String, (xTys D)[k0 - 20]? = some (D.2.1 (k0 - 20), .object C0) := by
    rcases (show k0 = 23 ∨ k0 = 24 ∨ k0 = 25 ∨ k0 = 26 ∨ k0 = 27 by omega) with rfl | rfl | rfl | rfl | rfl <;> exact ⟨_, rfl⟩
  obtain ⟨C0, hty⟩ := hty
  refine W.aald (v := .ref b) (ty := .object C0) C.exec C.code (xRep_arr h2 g (by omega)) (C.tys hty len _) rfl (fun q => by cases q) (by rw [arrV_size]; exact hi.in) ?_ rfl rfl d (k H locs ls h1 h2 h3 h4)
  rw [hj, arrV_read _ _ hlt, xAV_r hk.1, hr]; rfl
theorem xRep_arr_set {H H' : Heap} (h : xRep D G I L H) {G' : xG} {I' : xI} {L' : xL} {a k0 len j : Nat} {r r' : Nat → Option Nat} {v : Value} (g : G a = some (k0, len, r)) (hk : ¬ k0 < 13) (hG : G' a = some (k0, len, r')) (hGo : ∀ q, q ≠ a → G' q = G q) (hIo : ∀ q, q ≠ a → I' q = I q) (hLo : ∀ q, q ≠ a → L' q = L q) (hval : ∀ i, xAV k0 (I' a i) (L' a i) (r' i) = if i = j then v else xAV k0 (I a i) (L a i) (r i))
    (e : H'[a]? = some ((arrV (D.2.1 (k0 - 20)) len (fun j => xAV k0 (I a j) (L a j) (r j))).setSlot j v)) (oq : ∀ q, q ≠ a → H'[q]? = H[q]?) : xRep D G' I' L' H' := by
  refine xRep_set h (a := a) (fun sh hsh => ?_) hGo hIo hLo oq
  rw [hG] at hsh
  cases hsh
  unfold xAt
  rw [if_neg hk, e, arrV_store]
  congr 2
  funext i
  show updV _ j v i = xAV k0 (I' a i) (L' a i) (r' i)
  rw [hval i]
  rfl
theorem x_iast (pc : Nat) (C : xOK p s m args meth c D z own cc nL rt) {a len j : Nat} {r : Nat → Option Nat} {i v : Int32} (d : decode cc pc = .ok (.iastore, 1)) (g : G a = some (20, len, r)) (hz : z ≤ a) (hi : xIx i len j) (k : ∀ I' : xI, I' = xup I a j v → X p l e R s m args below meth c D z nL Q cells slots n G I' L (pc + 1) lv st) : X p l e R s m args below meth c D z nL Q cells slots n G I L pc lv (.int v :: .int i :: .ref a :: st) := by
  intro H locs ls h1 h2 h3 h4
  obtain ⟨hn, hj, hlt⟩ := id hi
  refine W.iast C.exec C.code (xRep_arr h2 g (by decide)) (C.tys (k := 0) rfl len _) (fun q => by cases q) (by rw [arrV_size]; exact hi.in) rfl rfl d fun H1 e1 e2 oq => ?_
  refine k _ rfl H1 _ ls (by rw [e2]; exact h1) (xRep_arr_set (j := j) (v := .int v) h2 g (by decide) g (fun _ _ => rfl) (fun q hq => xup_row I v hq) (fun _ _ => rfl) (fun i => ?_) (by rw [← hj]; exact e1) oq) (h3.put e2 oq hz) h4
  rw [xup_at, xAV_i (by decide) (by decide), xAV_i (by decide) (by decide)]
  by_cases h : i = j <;> simp [h]
theorem x_zast (pc : Nat) (C : xOK p s m args meth c D z own cc nL rt) {a len j : Nat} {r : Nat → Option Nat} {i v : Int32} (d : decode cc pc = .ok (.bastore, 1)) (hv : narrow .boolean (.int v) = .int v) (g : G a = some (22, len, r)) (hz : z ≤ a) (hi : xIx i len j) (k : ∀ I' : xI, I' = xup I a j v → X p l e R s m args below meth c D z nL Q cells slots n G I' L (pc + 1) lv st) : X p l e R s m args below meth c D z nL Q cells slots n G I L pc lv (.int v :: .int i :: .ref a :: st) := by
  intro H locs ls h1 h2 h3 h4
  obtain ⟨hn, hj, hlt⟩ := id hi
  refine W.zast C.exec C.code (xRep_arr h2 g (by decide)) (C.tys (k := 2) rfl len _) (fun q => by cases q) (by rw [arrV_size]; exact hi.in) rfl rfl d fun H1 e1 e2 oq => ?_
  refine k _ rfl H1 _ ls (by rw [e2]; exact h1) (xRep_arr_set (j := j) (v := .int v) h2 g (by decide) g (fun _ _ => rfl) (fun q hq => xup_row I v hq) (fun _ _ => rfl) (fun i => ?_) (by rw [← hj]; rw [hv] at e1; exact e1) oq) (h3.put e2 oq hz) h4
  rw [xup_at, xAV_i (by decide) (by decide), xAV_i (by decide) (by decide)]
  by_cases h : i = j <;> simp [h]
theorem x_last (pc : Nat) (C : xOK p s m args meth c D z own cc nL rt) {a len j : Nat} {r : Nat → Option Nat} {i : Int32} {v : Int64} (d : decode cc pc = .ok (.lastore, 1)) (g : G a = some (21, len, r)) (hz : z ≤ a) (hi : xIx i len j) (k : ∀ L' : xL, L' = xup L a j v → X p l e R s m args below meth c D z nL Q cells slots n G I L' (pc + 1) lv st) : X p l e R s m args below meth c D z nL Q cells slots n G I L pc lv (.long v :: .int i :: .ref a :: st) := by
  intro H locs ls h1 h2 h3 h4
  obtain ⟨hn, hj, hlt⟩ := id hi
  refine W.last C.exec C.code (xRep_arr h2 g (by decide)) (C.tys (k := 1) rfl len _) (fun q => by cases q) (by rw [arrV_size]; exact hi.in) rfl rfl d fun H1 e1 e2 oq => ?_
  refine k _ rfl H1 _ ls (by rw [e2]; exact h1) (xRep_arr_set (j := j) (v := .long v) h2 g (by decide) g (fun _ _ => rfl) (fun _ _ => rfl) (fun q hq => xup_row L v hq) (fun i => ?_) (by rw [← hj]; exact e1) oq) (h3.put e2 oq hz) h4
  rw [xup_at]
  by_cases h : i = j <;> simp [h, xAV]
theorem x_aast (pc : Nat) (C : xOK p s m args meth c D z own cc nL rt) {k0 a b len j : Nat} {r rb : Nat → Option Nat} {i : Int32} (d : decode cc pc = .ok (.aastore, 1)) (hk : 23 ≤ k0 ∧ k0 < 28) (g : G a = some (k0, len, r)) (gb : G b = some (xAC k0, 0, rb)) (hz : z ≤ a) (hi : xIx i len j) (k : ∀ G' : xG, G' = va_up G a (some (k0, len, va_up r j (some b))) → X p l e R s m args below meth c D z nL Q cells slots n G' I L (pc + 1) lv st) : X p l e R s m args below meth c D z nL Q cells slots n G I L pc lv (.ref b :: .int i :: .ref a :: st) := by
  intro H locs ls h1 h2 h3 h4
  obtain ⟨hn, hj, hlt⟩ := id hi
  have hty : (xTys D)[k0 - 20]? = some (D.2.1 (k0 - 20), .object (xCl (xAC k0)).1) ∧ xAC k0 < 13 := by
    rcases (show k0 = 23 ∨ k0 = 24 ∨ k0 = 25 ∨ k0 = 26 ∨ k0 = 27 by omega) with rfl | rfl | rfl | rfl | rfl <;> exact ⟨rfl, by decide⟩
  obtain ⟨hty, hac⟩ := hty
  obtain ⟨cellV, g1, g2, g3, -⟩ := xRep_obj h2 gb hac
  have hcls := (C.K.1.1 (xAC k0) _ (xCl_ok hac)).2
  obtain ⟨kA, comp, k1, k2, k3, -⟩ := (C.K.1.2 _ _ hty).2
  have hcomp : comp = D.1.1 (xAC k0) := Option.some.inj (k3.symm.trans hcls.1)
  subst hcomp
  obtain ⟨kC, hkC, -⟩ := hcls.2
  refine W.aast C.exec C.code (xRep_arr h2 g (by omega)) (fun q h => by cases h) (fun h => by cases h) k1 k2 rfl hkC ⟨hn, by rw [arrV_size, hj]; exact hlt⟩ g1 (fun q h => by rw [g3] at h; cases h) (by rw [g2]; exact hkC) (by rw [g2]; exact va_assign hcls) rfl rfl d fun H1 e1 e2 oq => ?_
  refine k _ rfl H1 _ ls (by rw [e2]; exact h1) (xRep_arr_set (j := j) (v := .ref b) h2 g (by omega) (va_up_self G a _) (fun q hq => va_up_ne G _ hq) (fun _ _ => rfl) (fun _ _ => rfl) (fun i => ?_) (by rw [← hj]; exact e1) oq) (h3.put e2 oq hz) h4
  rw [xAV_r hk.1, xAV_r hk.1]
  by_cases h : i = j
  · subst h; rw [if_pos rfl, va_up_self]; rfl
  · rw [if_neg h, va_up_ne _ _ h]
theorem x_alen (pc : Nat) (C : xOK p s m args meth c D z own cc nL rt) {k0 a len : Nat} {r : Nat → Option Nat} (d : decode cc pc = .ok (.arraylength, 1)) (hk : 20 ≤ k0 ∧ k0 < 28) (g : G a = some (k0, len, r)) (k : X p l e R s m args below meth c D z nL Q cells slots n G I L (pc + 1) lv (.int (Int32.ofNat len) :: st)) : X p l e R s m args below meth c D z nL Q cells slots n G I L pc lv (.ref a :: st) := by
  intro H locs ls h1 h2 h3 h4
  have hty : ∃ ty, (xTys D)[k0 - 20]? = some (D.2.1 (k0 - 20), ty) := by
    rcases (show k0 = 20 ∨ k0 = 21 ∨ k0 = 22 ∨ k0 = 23 ∨ k0 = 24 ∨ k0 = 25 ∨ k0 = 26 ∨ k0 = 27 by omega) with rfl | rfl | rfl | rfl | rfl | rfl | rfl | rfl <;> exact ⟨_, rfl⟩
  obtain ⟨ty, hty⟩ := hty
  exact W.alen (n := Int32.ofNat len) C.exec C.code (xRep_arr h2 g (by omega)) (C.tys hty len _) (by rw [arrV_size] <;> rfl) rfl rfl d (k H locs ls h1 h2 h3 h4)
/-- the static arrays -/
theorem x_gets (pc : Nat) (C : xOK p s m args meth c D z own cc nL rt) {idx k0 : Nat} {q : String × String × Nat × (Nat → Int32)} (d : decode cc pc = .ok (.getstatic idx, 3)) (hq : xStats[k0]? = some q) (hl : Cond.fieldLink own idx q.1 q.2.1 "[I" ∈ xtbl) (k : X p l e R s m args below meth c D z nL Q cells slots n G I L (pc + 3) lv (.ref (D.2.2 k0) :: st)) : X p l e R s m args below meth c D z nL Q cells slots n G I L pc lv st :=
  fun H locs ls h1 h2 h3 h4 => va_gets C.exec C.code (C.Z k0 q hq).1 h3 C.cls (C.ts _ hl) (fun _ h => h) d (k H locs ls h1 h2 h3 h4)
theorem x_stald (pc : Nat) (C : xOK p s m args meth c D z own cc nL rt) {k0 j : Nat} {i : Int32} {q : String × String × Nat × (Nat → Int32)} (d : decode cc pc = .ok (.iaload, 1)) (hq : xStats[k0]? = some q) (hi : xIx i q.2.2.1 j) (k : X p l e R s m args below meth c D z nL Q cells slots n G I L (pc + 1) lv (.int (q.2.2.2 j) :: st)) : X p l e R s m args below meth c D z nL Q cells slots n G I L pc lv (.int i :: .ref (D.2.2 k0) :: st) :=
  fun H locs ls h1 h2 h3 h4 => va_ti C.exec C.code (C.Z k0 q hq).2 h3 hi.in (by rw [hi.2.1]) d (k H locs ls h1 h2 h3 h4)
/-! new cells: at the heap's end -/
theorem xRep_new {H H' : Heap} (h : xRep D G I L H) {sh : xS} (hn : H.size = n) (hself : xAt D (xzero I n 0) (xzero L n 0) n sh H') (oq : ∀ q, q < n → H'[q]? = H[q]?) : xRep D (va_up G n (some sh)) (xzero I n 0) (xzero L n 0) H' := by
  intro q sh' hq
  by_cases hqn : q = n
  · subst hqn
    rw [va_up_self] at hq
    cases hq
    exact hself
  · rw [va_up_ne _ _ hqn] at hq
    have hlt : q < n := by rw [← hn]; exact h.lt hq
    exact (h q sh' hq).kept (oq q hlt) (by funext k; simp [xzero, hqn]) (by funext k; simp [xzero, hqn])
theorem va_S.new {A : Nat → Prop} {H0 H H1 : Heap} {locs : List Loc} (h : va_S A H0 H locs) (z1 : H.size ≤ H1.size) (oq : ∀ q, q < H.size → H1[q]? = H[q]?) : va_S A H0 H1 locs := ⟨Nat.le_trans h.1 z1, fun x h1 h2 => (oq x (Nat.lt_of_lt_of_le h1 h.1)).trans (h.2.1 x h1 h2), h.2.2⟩
theorem x_new (pc : Nat) (C : xOK p s m args meth c D z own cc nL rt) {idx ci : Nat} (d : decode cc pc = .ok (.new idx, 3)) (hc : ci < 13) (hh : xHin ci) (hcl : Cond.classLink own idx (xCl ci).1 ∈ xtbl) (hinst : Cond.instantiable (xCl ci).1 (xCl ci).2.2 ∈ xtbl) (hini : Cond.initialized (xCl ci).1 ∈ xtbl) (hdef : ∀ j, j < (xCl ci).2.2 → defaultValue (xTy ci j) = xV (xTy ci j) 0 0 none) (hcells : cells + 1 ≤ R.cells) (hslots : slots + (xCl ci).2.2 ≤ R.slots)
    (k : ∀ (G' : xG) (I' : xI) (L' : xL), G' = va_up G n (some (ci, 0, fun _ => none)) → I' = xzero I n 0 → L' = xzero L n 0 → X p l e R s m args below meth c D z nL Q (cells + 1) (slots + (xCl ci).2.2) (n + 1) G' I' L' (pc + 3) lv (.ref n :: st)) : X p l e R s m args below meth c D z nL Q cells slots n G I L pc lv st := by
  intro H locs ls h1 h2 h3 h4
  have hKn := C.K.1.1 ci _ (xCl_ok hc)
  refine W.newcK C.exec C.code C.cls (C.ts _ hcl) (C.ts _ hinst) (C.ts _ hini) rfl d hcells hslots hKn.2.1 h1 fun H1 kC hkC e1 z1 o1 => ?_
  refine k _ _ _ rfl rfl rfl H1 locs ls z1 (xRep_new h2 h1 ?_ o1) (h3.new (by rw [z1]; omega) (fun q hq => o1 q (by rw [← h1]; exact hq))) h4
  unfold xAt
  rw [if_pos hc]
  exact (u_born (xTy ci) C.ts hh.1 hKn hkC e1 hh.2.1).to (fun j hj => by rw [hdef j hj]; simp [xzero])
theorem x_newa (pc : Nat) (C : xOK p s m args meth c D z own cc nL rt) {atype : ArrayType} (k0 : Nat) {N : Nat} {i : Int32} (d : decode cc pc = .ok (.newarray atype, 2)) (hk : k0 < 3 ∧ (xTys D)[k0]? = some (D.2.1 k0, newarray.typeOf atype)) (harr : Cond.arrayClass (newarray.typeOf atype) ∈ xtbl) (hfc : ∀ cA, va_RA s cA (newarray.typeOf atype) → s.vm.findClass ("[" ++ (newarray.typeOf atype).toString) = some cA) (hdef : defaultValue (newarray.typeOf atype) = xAV (20 + k0) 0 0 none) (hn : ¬ i < 0) (hN : i.toNatClampNeg = N) (hbytes : N * componentBytes (newarray.typeOf atype) ≤ 536870912) (hcells : cells + 1 ≤ R.cells) (hslots : slots + N ≤ R.slots)
    (k : ∀ (G' : xG) (I' : xI) (L' : xL), G' = va_up G n (some (20 + k0, N, fun _ => none)) → I' = xzero I n 0 → L' = xzero L n 0 → X p l e R s m args below meth c D z nL Q (cells + 1) (slots + N) (n + 1) G' I' L' (pc + 2) lv (.ref n :: st)) : X p l e R s m args below meth c D z nL Q cells slots n G I L pc lv (.int i :: st) := by
  intro H locs ls h1 h2 h3 h4
  refine va_newaK C.exec C.code (C.ts _ harr) rfl d rfl hn hN hbytes hcells hslots h1 fun H1 cA e1 z1 o1 hAr hNm => ?_
  have hcA : cA = D.2.1 k0 := Option.some.inj (hNm.symm.trans (hfc _ (C.K.1.2 _ _ hk.2).2))
  subst hcA
  refine k _ _ _ rfl rfl rfl H1 locs ls z1 (xRep_new h2 h1 ?_ o1) (h3.new (by rw [z1]; omega) (fun q hq => o1 q (by rw [← h1]; exact hq))) h4
  unfold xAt
  rw [if_neg (by show ¬ 20 + k0 < 13; omega), e1, hdef]
  have e : 20 + k0 - 20 = k0 := by omega
  show some (arrV (D.2.1 k0) N _) = some (arrV (D.2.1 (20 + k0 - 20)) N _)
  rw [e]
  congr 2
  funext j
  simp [xzero]
theorem x_anew (pc : Nat) (C : xOK p s m args meth c D z own cc nL rt) {idx : Nat} (k0 : Nat) {N : Nat} {i : Int32} (d : decode cc pc = .ok (.anewarray idx, 3)) (hk : 23 ≤ k0 ∧ k0 < 28) (hcl : Cond.classLink own idx (xCl (xAC k0)).1 ∈ xtbl) (hn : ¬ i < 0) (hN : i.toNatClampNeg = N) (hbytes : N * 4 ≤ 536870912) (hcells : cells + 1 ≤ R.cells) (hslots : slots + N ≤ R.slots)
    (k : ∀ (G' : xG) (I' : xI) (L' : xL), G' = va_up G n (some (k0, N, fun _ => none)) → I' = xzero I n 0 → L' = xzero L n 0 → X p l e R s m args below meth c D z nL Q (cells + 1) (slots + N) (n + 1) G' I' L' (pc + 3) lv (.ref n :: st)) : X p l e R s m args below meth c D z nL Q cells slots n G I L pc lv (.int i :: st) := by
  intro H locs ls h1 h2 h3 h4
  subst hN
  have hty : (xTys D)[k0 - 20]? = some (D.2.1 (k0 - 20), .object (xCl (xAC k0)).1) ∧ (xCl (xAC k0)).1 ∈ ([RX0, RX1, RX6, RX9, RX10] : List String) := by
    rcases (show k0 = 23 ∨ k0 = 24 ∨ k0 = 25 ∨ k0 = 26 ∨ k0 = 27 by omega) with rfl | rfl | rfl | rfl | rfl <;> exact ⟨rfl, by simp [xCl, xAC]⟩
  obtain ⟨hty, hmem⟩ := hty
  refine W.anew C.exec C.code C.cls (C.ts _ hcl) (va_AO.use (C.K.2.1 _ hmem)) rfl d rfl hn hbytes hcells hslots fun cA kA comp f1 f2 f3 f4 => ?_
  obtain ⟨_, _, _, _, _, f5⟩ := (C.K.1.2 _ _ hty).2
  have hcA : cA = D.2.1 (k0 - 20) := Option.some.inj (f1.symm.trans f5)
  subst hcA
  generalize hH1 : H.push ({ cls := D.2.1 (k0 - 20), slots := Array.replicate i.toNatClampNeg .null, vm := .none } : Cell) = H1
  have z1 : H1.size = H.size + 1 := by rw [← hH1, Array.size_push]
  have e1 : H1[n]? = some (arrV (D.2.1 (k0 - 20)) i.toNatClampNeg (fun _ => .null)) := by rw [← hH1, ← h1, Array.getElem?_push_size, ← arrV_new]
  have o1 : ∀ q : Nat, q < H.size → H1[q]? = H[q]? := fun q hq => by rw [← hH1, Array.getElem?_push, if_neg (Nat.ne_of_lt hq)]
  rw [h1]
  refine k _ _ _ rfl rfl rfl H1 locs ls (by rw [z1, h1]) (xRep_new h2 h1 ?_ (fun q hq => o1 q (by rw [h1]; exact hq))) (h3.new (by rw [z1]; omega) o1) h4
  unfold xAt
  rw [if_neg (by show ¬ k0 < 13; omega), e1]
  congr 2
  funext j
  rw [xAV_r hk.1]; rfl
end XH
