/-! THE x_ LAYER, 1: words, world, judgement. Every method's words are the whole table's good ones; the world is a map of shapes G (address to kind, length, references) and two maps of contents I (ints) and L (longs), by address and place. -/
def xtbl : List Cond := lw_tbl.filter goodWord
theorem xtbl_in {w : Cond} (h : w ∈ lw_tbl) (g : goodWord w = true) : w ∈ xtbl := List.mem_filter.mpr ⟨h, g⟩
theorem xtbl_sub {w : Cond} (h : w ∈ xtbl) : w ∈ lw_tbl := (List.mem_filter.mp h).1
theorem xtbl_good {w : Cond} (h : w ∈ xtbl) : (w.onTables && w.keeps) = true ∨ ∃ ty, w = .arrayClass ty := good_of_word (List.mem_filter.mp h).2
def xws (y : MethodName) (cc : ByteArray) (nL : Nat) (ret : Option FieldType) : List Cond := .code y cc nL ret :: xtbl
theorem xws_good {y : MethodName} {cc : ByteArray} {nL : Nat} {ret : Option FieldType} (h : Cond.code y cc nL ret ∈ xtbl) : GoodIn xtbl (xws y cc nL ret) := by
  intro w hw
  rcases List.mem_cons.mp hw with rfl | hw
  · exact ⟨h, xtbl_good h⟩
  · exact ⟨hw, xtbl_good hw⟩
theorem xin_1 {w : Cond} (i : Nat) (h : tables_1_1[i]? = some w) (g : goodWord w = true) : w ∈ xtbl := xtbl_in (List.mem_append_right _ (List.mem_append_left _ (List.mem_of_getElem? h))) g
theorem xin_2 {w : Cond} (i : Nat) (h : tables_1_2[i]? = some w) (g : goodWord w = true) : w ∈ xtbl := xtbl_in (List.mem_append_right _ (List.mem_append_right _ (List.mem_append_left _ (List.mem_of_getElem? h)))) g
theorem xin_3 {w : Cond} (i : Nat) (h : tables_1_3[i]? = some w) (g : goodWord w = true) : w ∈ xtbl := xtbl_in (List.mem_append_right _ (List.mem_append_right _ (List.mem_append_right _ (List.mem_append_left _ (List.mem_of_getElem? h))))) g
theorem xin_4 {w : Cond} (i : Nat) (h : tables_1_4[i]? = some w) (g : goodWord w = true) : w ∈ xtbl := xtbl_in (List.mem_append_right _ (List.mem_append_right _ (List.mem_append_right _ (List.mem_append_right _ (List.mem_append_left _ (List.mem_of_getElem? h)))))) g
theorem xin_5 {w : Cond} (i : Nat) (h : tables_1_5[i]? = some w) (g : goodWord w = true) : w ∈ xtbl := xtbl_in (List.mem_append_right _ (List.mem_append_right _ (List.mem_append_right _ (List.mem_append_right _ (List.mem_append_right _ (List.mem_of_getElem? h)))))) g
theorem xin_p {q : MethodName × Nat} (i : Nat) (h : lw_privs[i]? = some q) : Cond.selects q.1.cls q.1 q.1 ∈ xtbl := xtbl_in (List.mem_append_left _ (List.mem_map.mpr ⟨q, List.mem_of_getElem? h, rfl⟩)) rfl
-- shapes
abbrev xS : Type := Nat × Nat × (Nat → Option Nat)
abbrev xD : Type := va_G × (Nat → ClassId) × (Nat → Nat)
abbrev xI : Type := Nat → Nat → Int32
abbrev xL : Type := Nat → Nat → Int64
abbrev xG : Type := Nat → Option xS
def xCl (k : Nat) : vw_C := (vwCl[k]?).getD (RX0, TX0, 2)
theorem xCl_ok {k : Nat} (h : k < 13) : vwCl[k]? = some (xCl k) := by
  have h' : k < vwCl.length := h
  simp [xCl, List.getElem?_eq_getElem h']
def xTy (k : Nat) : Nat → FieldType := (([tyX0, tyX1, tyX2, tyX3, tyX4, tyX5, tyX6, tyX7, tyX8, tyX9, tyX10, tyX11, tyX12] : List (Nat → FieldType))[k]?).getD tyX0
def xV (ty : FieldType) (i : Int32) (l : Int64) (r : Option Nat) : Value := match ty with
  | .int => .int i
  | .boolean => .int i
  | .long => .long l
  | _ => va_rf r
def xAV (k : Nat) (i : Int32) (l : Int64) (r : Option Nat) : Value := if k = 21 then .long l else if k < 23 then .int i else va_rf r
def xAt (D : xD) (I : xI) (L : xL) (a : Nat) (sh : xS) (H : Heap) : Prop :=
  if sh.1 < 13 then t_OB a (D.1.1 sh.1) (xCl sh.1).2.2 (D.1.2 sh.1) H (fun j => xV (xTy sh.1 j) (I a j) (L a j) (sh.2.2 j))
  else H[a]? = some (arrV (D.2.1 (sh.1 - 20)) sh.2.1 (fun j => xAV sh.1 (I a j) (L a j) (sh.2.2 j)))
def xRep (D : xD) (G : xG) (I : xI) (L : xL) (H : Heap) : Prop := ∀ (a : Nat) (sh : xS), G a = some sh → xAt D I L a sh H
theorem xAt.lt {D : xD} {I : xI} {L : xL} {a : Nat} {sh : xS} {H : Heap} (h : xAt D I L a sh H) : a < H.size := by
  unfold xAt at h
  split at h
  · obtain ⟨cell, h2, -⟩ := h
    exact (Array.getElem?_eq_some_iff.mp h2).1
  · exact (Array.getElem?_eq_some_iff.mp h).1
theorem xAt.kept {D : xD} {I I' : xI} {L L' : xL} {a : Nat} {sh : xS} {H H1 : Heap} (h : xAt D I L a sh H) (hq : H1[a]? = H[a]?) (hI : I' a = I a) (hL : L' a = L a) : xAt D I' L' a sh H1 := by
  unfold xAt at h ⊢
  rw [hI, hL]
  split at h
  · rw [if_pos (by assumption)]
    exact h.kept hq
  · rw [if_neg (by assumption)]
    exact hq.trans h
-- what stands of the tables, and of the static arrays
def xTys (D : xD) : List (ClassId × FieldType) := [(D.2.1 0, .int), (D.2.1 1, .long), (D.2.1 2, .boolean), (D.2.1 3, .object RX0), (D.2.1 4, .object RX1), (D.2.1 5, .object RX6), (D.2.1 6, .object RX9), (D.2.1 7, .object RX10)]
def xNest : List (String × Nat) := [(RX1, 18), (RX7, 17), (RX10, 9), (RX8, 9), (RX3, 25), (RX6, 9)]
def xK (D : xD) (U : State) : Prop := va_K D.1 vwCl (xTys D) U ∧ (∀ C ∈ ([RX0, RX1, RX6, RX9, RX10] : List String), va_AO C U) ∧ ∀ q ∈ xNest, va_Nw (.methodLinkNest q.1 q.2 yX0_init "PathTracker") U
theorem xK.moved {D : xD} {s U : State} (hW : s.WarmedH U.vm) (h : xK D s) : xK D U := ⟨va_K.moved hW.alike h.1, fun C hC => va_AO.moved hW.alike (h.2.1 C hC), fun q hq => va_Nw.warmM hW (h.2.2 q hq)⟩
def xPx : Nat → Int32 := fun j => ([0, 0, 0, 0, 1, 1, 1, 2, 2, 3] : List Int32).getD j 0
def xPy : Nat → Int32 := fun j => ([0, 1, 2, 3, 0, 1, 2, 0, 1, 0] : List Int32).getD j 0
def xFt : Nat → Int32 := fun j => ([0, 4, 7, 9] : List Int32).getD j 0
def xFv : Nat → Int32 := fun j => ([64, 128, 3, 4, 100, 10, 3, 2] : List Int32).getD j 0
def xLv : Nat → Int32 := fun j => ([1, 1, 1, 1, 2, 0, -16, -16] : List Int32).getD j 0
def xGv : Nat → Int32 := fun j => ([256, 256, 6, 64, 500, 1000, 16, 16] : List Int32).getD j 0
def xStats : List (String × String × Nat × (Nat → Int32)) := [("PathTracker$Equation", "POWER_OF_X", 10, xPx), ("PathTracker$Equation", "POWER_OF_Y", 10, xPy), ("PathTracker$Equation", "FIRST_TERM", 4, xFt), ("PathTracker$State", "FIRST_VALUE", 8, xFv), ("PathTracker$State", "LEAST_VALUE", 8, xLv), ("PathTracker$State", "GREATEST_VALUE", 8, xGv)]
def xZ (D : xD) (z : Nat) (U : State) (H : Heap) : Prop := ∀ (k : Nat) (q : String × String × Nat × (Nat → Int32)), xStats[k]? = some q → va_Z q.1 q.2.1 "[I" (.ref (D.2.2 k)) (fun a => z ≤ a) U H ∧ va_T .int (D.2.2 k) q.2.2.1 (fun j => .int (q.2.2.2 j)) (fun a => z ≤ a) U H
theorem xZ.moved {D : xD} {z : Nat} {u U : State} {H : Heap} (hvm : u.vm.Alike U.vm) (h : xZ D z u H) : xZ D z U H := fun k q hq => ⟨va_Z.moved hvm (h k q hq).1, va_T.moved hvm (h k q hq).2⟩
theorem xZ.kept {D : xD} {z : Nat} {U : State} {H H1 : Heap} (h : xZ D z U H) (hk : ∀ a : Nat, a < H.size → ¬ z ≤ a → H1[a]? = H[a]?) : xZ D z U H1 := fun k q hq => ⟨va_Z.kept (h k q hq).1 hk, va_T.kept (h k q hq).2 hk⟩
-- contracts
def xB (D : xD) (z n : Nat) (G : xG) (I : xI) (L : xL) (U : State) : Prop := U.heap.size = n ∧ z ≤ n ∧ xRep D G I L U.heap ∧ xK D U ∧ xZ D z U U.heap
abbrev xPost : Type := Option Value → Nat → xG → xI → xL → Prop
def xQc (D : xD) (z n : Nat) (Post : xPost) : Array Value → State → Outcome → State → Prop := fun _ st oc t => (∃ (v : Option Value) (n' : Nat) (G' : xG) (I' : xI) (L' : xL), oc = .returned v ∧ Post v n' G' I' L' ∧ t.heap.size = n' ∧ n ≤ n' ∧ xRep D G' I' L' t.heap) ∧ va_F (fun a => z ≤ a) st t
def xRm (fr lo mc ms : Nat) : Room := { frames := fr, cells := mc, slots := ms, locals := lo }
def xM (l : Launch) (D : xD) (z : Nat) (y : MethodName) (cc : ByteArray) (nL : Nat) (ret : Option FieldType) (fr lo mc ms : Nat) (av : List Value) (n : Nat) (G : xG) (I : xI) (L : xL) (Post : xPost) : Prop :=
  Met l y (xws y cc nL ret) (xRm fr lo mc ms) (va_Pc av (xB D z n G I L)) (xQc D z n Post) mc ms (fun a => z ≤ a)
/-- of a method that makes no cell: the shapes stay -/
def xN (n : Nat) (G : xG) (P : Option Value → xI → xL → Prop) : xPost := fun v n' G' I' L' => n' = n ∧ G' = G ∧ P v I' L'
abbrev xM0 (l : Launch) (D : xD) (z : Nat) (y : MethodName) (cc : ByteArray) (nL : Nat) (ret : Option FieldType) (fr lo : Nat) (av : List Value) (n : Nat) (G : xG) (I : xI) (L : xL) (P : Option Value → xI → xL → Prop) : Prop := xM l D z y cc nL ret fr lo 0 0 av n G I L (xN n G P)
-- the judgement
def xOK (p : Program) (s : State) (m : MethodId) (args : Array Value) (meth : Method) (c : Code) (D : xD) (z : Nat) (own : String) (cc : ByteArray) (nL : Nat) (rt : Option FieldType) : Prop :=
  p.tables.exec = Jvm.exec ∧ c.code = cc ∧ c.maxLocals = nL ∧ s.vm.findClass own = some m.cls ∧ (∀ w ∈ xtbl, w.before args s = true) ∧ meth.sig.returnType = rt ∧ meth.locks = false ∧ xK D s ∧ xZ D z s s.heap ∧ z ≤ s.heap.size
def X (p : Program) (l : Launch) (e : Env) (R : Room) (s : State) (m : MethodId) (args : Array Value) (below : List Frame) (meth : Method) (c : Code) (D : xD) (z nL : Nat) (Q : State → Prop) (cells slots n : Nat) (G : xG) (I : xI) (L : xL) (pc : Nat) (lv : List (Nat × Value)) (st : List Value) : Prop :=
  ∀ (H : Heap) (locs : List Loc) (ls : Array Slot), H.size = n → xRep D G I L H → va_S (fun a => z ≤ a) s.heap H locs → lv_has ls nL lv → W p l e R s m args below meth c H locs cells slots Q (F0 m pc ls st)
def xup {α : Type} (f : Nat → Nat → α) (a k : Nat) (v : α) : Nat → Nat → α := fun a' k' => if a' = a ∧ k' = k then v else f a' k'
def xzero {α : Type} (f : Nat → Nat → α) (a : Nat) (v : α) : Nat → Nat → α := fun a' k' => if a' = a then v else f a' k'
theorem xup_self {α : Type} (f : Nat → Nat → α) (a k : Nat) (v : α) : xup f a k v a k = v := by simp [xup]
theorem xup_ne {α : Type} (f : Nat → Nat → α) {a k a' k' : Nat} (v : α) (h : ¬ (a' = a ∧ k' = k)) : xup f a k v a' k' = f a' k' := by simp only [xup, if_neg h]
def xIx (i : Int32) (len j : Nat) : Prop := ¬ i < 0 ∧ i.toNatClampNeg = j ∧ j < len
theorem xIx.in {i : Int32} {len j : Nat} (h : xIx i len j) : vp_in i len := fun q => q.elim h.1 (fun q => by have h1 := h.2.1; have h2 := h.2.2; omega)
/-- a method's contract out of its walk from the entry -/
theorem xM.of {l : Launch} {D : xD} {z : Nat} {y : MethodName} {cc : ByteArray} {nL : Nat} {ret : Option FieldType} {fr lo mc ms : Nat} {av : List Value} {n : Nat} {G : xG} {I : xI} {L : xL} {Post : xPost} (hy : plainName y.cls = true) (hlen : (lg_sl av).length ≤ nL)
    (body : ∀ (p : Program) (e : Env) (s : State) (m : MethodId) (args : Array Value) (below : List Frame) (meth : Method) (c : Code), xOK p s m args meth c D z y.cls cc nL ret → (y.name = meth.name) → s.heap.size = n →
      X p l e (xRm fr lo mc ms) s m args below meth c D z nL (MQ below (xQc D z n Post) args s mc ms (fun a => z ≤ a)) 0 0 n G I L 0 (lv_args 0 av) []) :
    xM l D z y cc nL ret fr lo mc ms av n G I L Post := by
  refine Met.ofW (cc := cc) (maxL := nL) (ret := ret) hy rfl ?_
  intro p e s m args below meth c s₁ B hml hv
  obtain ⟨rfl, hn, hz, hR, hK, hZ⟩ := hv
  have hts := atoms_spec (ws := xws y cc nL ret) B.pre
  have hl := lv_entry av (n := nL) hlen
  rw [lg_entry_eq]
  exact body p e s m _ below meth c ⟨B.exec, B.bytes, hml, findClass_of_methodNamed B.named, fun w hw => hts w (List.mem_cons_of_mem _ hw), B.returns, B.notSynchronized, hK, hZ, by rw [hn]; exact hz⟩ (name_of_methodNamed B.named B.method).1.symm hn s.heap [] _ hn hR va_S.rf hl
