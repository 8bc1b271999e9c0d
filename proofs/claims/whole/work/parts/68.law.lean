/-! The law: its loop, its start, and the claim -/
theorem x_lawend {p : Program} {l : Launch} {e : Env} {s : State} {m : MethodId} {below : List Frame} {meth : Method} {c : Code} {D : xD} {n : Nat} {G : xG} {I : xI} {L : xL} {b : Nat} {lv : List (Nat × Value)} (C : xOK p s m #[Value.ref b] meth c D s.heap.size RL code 4 ret) : X p l e room_1 s m #[Value.ref b] below meth c D s.heap.size 4 (lw_Z below #[Value.ref b] s) 360 3003 n G I L 533 lv [] :=
  fun H locs ls h1 h2 h3 h4 => lv_iconst (v := 1) C.1 C.2.1 dL_533 (by decide) (va_forget (fun q hq => h3.2.2 q hq) (W.widen (k := 600000) (n := 7302249) (Nat.le_of_ble_eq_true rfl) (Nat.le_of_ble_eq_true rfl) (lw_ret C.exec C.code C.ret C.locks dL_534)))
theorem goes_on {Ln k : Nat} (hL : Ln ≤ 2560) (hk : k ≤ Ln) (h : ¬ nI Ln - 5 < nI k) : k + 5 ≤ Ln := by
  rcases Nat.lt_or_ge Ln 5 with q | q
  · refine absurd ?_ h
    have hp : (0 : Int32) ≤ nI k := nI_pos' (by omega)
    refine Int32.lt_of_lt_of_le ?_ hp
    rcases (show Ln = 0 ∨ Ln = 1 ∨ Ln = 2 ∨ Ln = 3 ∨ Ln = 4 by omega) with rfl | rfl | rfl | rfl | rfl <;> decide
  · rw [show nI Ln - 5 = nI (Ln - 5) from nI_sub (a := Ln) (b := 5) q, nI_ltI (by omega) (by omega)] at h
    omega
set_option maxHeartbeats 1000000 in
theorem law_loop {p : Program} {l : Launch} {e : Env} {s : State} {m : MethodId} {below : List Frame} {meth : Method} {c : Code} {D : xD} {n : Nat} {G : xG} {b Ln o A : Nat} {xs : Nat → Int32} (C : xOK p s m #[Value.ref b] meth c D s.heap.size RL code 4 ret) (hX : va_X b Ln xs s s.heap) (hbl : b < s.heap.size) (hL : Ln ≤ 2560) (hW : shPT G o) (hM : shMo G A) (zo : s.heap.size ≤ o) (hA : A = o + 345) :
    ∀ (fuel k : Nat) (I : xI) (L : xL), k ≤ Ln → Ln + 1 ≤ k + fuel → relM I L o A → X p l e room_1 s m #[Value.ref b] below meth c D s.heap.size 4 (lw_Z below #[Value.ref b] s) 360 3003 n G I L 18 [(3, .int (nI k)), (2, .ref A), (1, .ref o), (0, .ref b)] [] := by
  intro fuel
  induction fuel with
  | zero =>
    intro k I L h1 h2
    exact absurd h2 (by omega)
  | succ fuel ih =>
    intro k I L hk hf hR
    refine x_iload_n 18 C dL_18 rfl 0 rfl ?_
    refine x_aload_n 19 C dL_19 rfl 3 rfl ?_
    refine x_slen 20 C hX hbl rfl dL_20 ?_
    refine x_iconst 21 C (v := 5) dL_21 (by decide) ?_
    refine x_isub 22 C dL_22 ?_
    refine x_icmp_gt 23 C 533 dL_23 (by decide) (fun _ => x_lawend C) (fun hc => ?_)
    have hk5 := goes_on hL hk hc
    have kk : ∀ (I2 : xI) (L2 : xL), relM I2 L2 o A → X p l e room_1 s m #[Value.ref b] below meth c D s.heap.size 4 (lw_Z below #[Value.ref b] s) 360 3003 n G I2 L2 527 [(3, .int (nI k)), (2, .ref A), (1, .ref o), (0, .ref b)] [] := fun I2 L2 hR2 => by
      refine x_iinc 527 C [(3, .int (nI (k + 5))), (2, .ref A), (1, .ref o), (0, .ref b)] dL_527 0 rfl (nI_add k 5) (by decide) rfl ?_
      refine x_goto 530 C 18 dL_530 (by decide) ?_
      exact ih (k + 5) I2 L2 hk5 (by omega) hR2
    refine x_aload_n 26 C dL_26 rfl 3 rfl ?_
    refine x_iload_n 27 C dL_27 rfl 0 rfl ?_
    refine x_sld 28 C hX hbl rfl (j := k) (by omega) hL dL_28 ?_
    refine x_bipush 29 C (v := 31) dL_29 (by decide) ?_
    refine x_iand 31 C dL_31 ?_
    generalize xs k &&& 31 = y
    by_cases c0 : y.toInt = 0
    · refine x_tsIn 32 C 116 dL_32 c0 (by decide) (by decide) rfl (by decide) ?_
      exact lc_type C hX hbl rfl hk5 hL hW hM zo hA hR kk
    by_cases c1 : y.toInt = 1
    · refine x_tsIn 32 C 139 dL_32 c1 (by decide) (by decide) rfl (by decide) ?_
      exact lc_wipe C hX hbl rfl hk5 hL hW hM zo hA hR kk
    by_cases c2 : y.toInt = 2
    · refine x_tsIn 32 C 152 dL_32 c2 (by decide) (by decide) rfl (by decide) ?_
      exact lc_fault C hX hbl rfl hk5 hL hW hM zo hA hR kk
    by_cases c3 : y.toInt = 3
    · refine x_tsIn 32 C 165 dL_32 c3 (by decide) (by decide) rfl (by decide) ?_
      exact lc_equation C hX hbl rfl hk5 hL hW hM zo hA hR kk
    by_cases c4 : y.toInt = 4
    · refine x_tsIn 32 C 188 dL_32 c4 (by decide) (by decide) rfl (by decide) ?_
      exact lc_coefficient C hX hbl rfl hk5 hL hW hM zo hA hR kk
    by_cases c5 : y.toInt = 5
    · refine x_tsIn 32 C 241 dL_32 c5 (by decide) (by decide) rfl (by decide) ?_
      exact lc_track C hX hbl rfl hk5 hL hW hM zo hA hR kk
    by_cases c6 : y.toInt = 6
    · refine x_tsIn 32 C 274 dL_32 c6 (by decide) (by decide) rfl (by decide) ?_
      exact lc_trackAll C hX hbl rfl hk5 hL hW hM zo hA hR kk
    by_cases c7 : y.toInt = 7
    · refine x_tsIn 32 C 297 dL_32 c7 (by decide) (by decide) rfl (by decide) ?_
      exact lc_again C hX hbl rfl hk5 hL hW hM zo hA hR kk
    by_cases c8 : y.toInt = 8
    · refine x_tsIn 32 C 320 dL_32 c8 (by decide) (by decide) rfl (by decide) ?_
      exact lc_path C hX hbl rfl hk5 hL hW hM zo hA hR kk
    by_cases c9 : y.toInt = 9
    · refine x_tsIn 32 C 353 dL_32 c9 (by decide) (by decide) rfl (by decide) ?_
      exact lc_meets C hX hbl rfl hk5 hL hW hM zo hA hR kk
    by_cases c10 : y.toInt = 10
    · refine x_tsIn 32 C 376 dL_32 c10 (by decide) (by decide) rfl (by decide) ?_
      exact lc_next C hX hbl rfl hk5 hL hW hM zo hA hR kk
    by_cases c11 : y.toInt = 11
    · refine x_tsIn 32 C 389 dL_32 c11 (by decide) (by decide) rfl (by decide) ?_
      exact lc_endAt C hX hbl rfl hk5 hL hW hM zo hA hR kk
    by_cases c12 : y.toInt = 12
    · refine x_tsIn 32 C 412 dL_32 c12 (by decide) (by decide) rfl (by decide) ?_
      exact lc_set C hX hbl rfl hk5 hL hW hM zo hA hR kk
    by_cases c13 : y.toInt = 13
    · refine x_tsIn 32 C 445 dL_32 c13 (by decide) (by decide) rfl (by decide) ?_
      exact lc_count C hX hbl rfl hk5 hL hW hM zo hA hR kk
    by_cases c14 : y.toInt = 14
    · refine x_tsIn 32 C 468 dL_32 c14 (by decide) (by decide) rfl (by decide) ?_
      exact lc_undo C hX hbl rfl hk5 hL hW hM zo hA hR kk
    by_cases c15 : y.toInt = 15
    · refine x_tsIn 32 C 481 dL_32 c15 (by decide) (by decide) rfl (by decide) ?_
      exact lc_save C hX hbl rfl hk5 hL hW hM zo hA hR kk
    by_cases c16 : y.toInt = 16
    · refine x_tsIn 32 C 504 dL_32 c16 (by decide) (by decide) rfl (by decide) ?_
      exact lc_restore C hX hbl rfl hk5 hL hW hM zo hA hR kk
    refine x_tsOut 32 C 527 dL_32 (by omega) (by decide) ?_
    exact kk I L hR
set_option maxHeartbeats 1000000 in
/-- YOUR PART: from the entry, for every script of at most 2560 ints, the law comes to its end with true ('hflags': the launch's flags, for a law that throws: no stack traces) -/
theorem whole_start {p : Program} {e : Env} {s : State} {m : MethodId} {below : List Frame} {meth : Method} {c : Code} (l : Launch) (hflags : l.flags = flags0) {b L : Nat} {xs : Nat → Int32} (hL : L ≤ 2560) (C0 : lw_At p s m meth c b L xs) : W p l e room_1 s m #[Value.ref b] below meth c s.heap [] 0 0 (lw_Z below #[Value.ref b] s) (entryFrame m ([Value.ref b] : List Value).toArray 4) := by
  obtain ⟨hx, hb, hr, hml, hown, hts, hX, hbl, hlocks, hgv⟩ := C0
  obtain ⟨D, hK, hZ⟩ := st_all hts hgv
  have C : xOK p s m #[Value.ref b] meth c D s.heap.size RL code 4 ret := ⟨hx, hb, hml, hown, fun w hw => hts w (xtbl_sub hw), hr, hlocks, hK, hZ, Nat.le_refl _⟩
  have hl := lv_entry ([.ref b]) (n := 4) (Nat.le_of_ble_eq_true rfl)
  rw [lg_entry_eq]
  have K : X p l e room_1 s m #[Value.ref b] below meth c D s.heap.size 4 (lw_Z below #[Value.ref b] s) 0 0 s.heap.size (fun _ => none) (fun _ _ => 0) (fun _ _ => 0) 0 [(0, .ref b)] [] := by
    refine x_new 0 C dL_0 (by decide) hh_X11 kl_L_7 kb_X11 kn_X11 hd_X11 (Nat.le_of_ble_eq_true rfl) (Nat.le_of_ble_eq_true rfl) (fun G1 I1 L1 eG1 eI1 eL1 => ?_)
    refine x_dup 3 C dL_3 rfl ?_
    refine x_callI 4 C dL_4 (As := []) (rest := [.ref s.heap.size]) (c_X11_init l D s.heap.size G1 I1 L1 s.heap.size (by rw [eG1]; exact if_pos rfl) (Nat.le_refl _)) mt_X11_init rfl km_L_9 ki_X11_init rfl (Nat.le_of_ble_eq_true rfl) ⟨⟨(Nat.le_of_ble_eq_true rfl), (Nat.le_of_ble_eq_true rfl)⟩, (Nat.le_of_ble_eq_true rfl), (Nat.le_of_ble_eq_true rfl)⟩ (fun v2 n2 G2 I2 L2 hp2 _ => ?_)
    obtain ⟨rfl, rfl, p3, p4, p5, p6, p7, p8, p9, p10⟩ := hp2
    refine x_st [.ref s.heap.size] rfl ?_
    refine x_astore_n 7 C [(1, .ref s.heap.size), (0, .ref b)] dL_7 rfl (by decide) rfl ?_
    refine x_new 8 C dL_8 (by decide) hh_X12 kl_L_10 kb_X12 kn_X12 hd_X12 (Nat.le_of_ble_eq_true rfl) (Nat.le_of_ble_eq_true rfl) (fun G3 I3 L3 eG3 eI3 eL3 => ?_)
    refine x_dup 11 C dL_11 rfl ?_
    have z3 : ∀ j, I3 (s.heap.size + 345) j = 0 := fun j => by rw [eI3]; simp [xzero]
    refine x_callI 12 C dL_12 (As := []) (rest := [.ref (s.heap.size + 345)]) (c_X12_init l D s.heap.size G3 I3 L3 (s.heap.size + 345) (by rw [eG3]; exact if_pos rfl) (by omega) (z3 2) (z3 6) (z3 18)) mt_X12_init rfl km_L_12 ki_X12_init rfl (Nat.le_of_ble_eq_true rfl) ⟨⟨(Nat.le_of_ble_eq_true rfl), (Nat.le_of_ble_eq_true rfl)⟩, (Nat.le_of_ble_eq_true rfl), (Nat.le_of_ble_eq_true rfl)⟩ (fun v4 n4 G4 I4 L4 hp4 _ => ?_)
    obtain ⟨rfl, rfl, q3, q4, q5, q6, q7, q8, q9, q10⟩ := hp4
    refine x_st [.ref (s.heap.size + 345)] rfl ?_
    refine x_astore_n 15 C [(2, .ref (s.heap.size + 345)), (1, .ref s.heap.size), (0, .ref b)] dL_15 rfl (by decide) rfl ?_
    refine x_iconst 16 C (v := nI 0) dL_16 (by decide) ?_
    refine x_istore_n 17 C [(3, .int (nI 0)), (2, .ref (s.heap.size + 345)), (1, .ref s.heap.size), (0, .ref b)] dL_17 rfl (by decide) rfl ?_
    have fI : ∀ q, q < s.heap.size + 345 → I4 q = I2 q := fun q hq => by rw [q5 q hq, eI3]; funext j; simp only [xzero]; rw [if_neg (by omega)]
    have fL : ∀ q, q < s.heap.size + 345 → L4 q = L2 q := fun q hq => by rw [q6 q hq, eL3]; funext j; simp only [xzero]; rw [if_neg (by omega)]
    have fG : ∀ q, q < s.heap.size + 345 → G4 q = G2 q := fun q hq => by rw [q4 q hq, eG3, va_up_ne _ _ (by omega)]
    refine x_wid (k' := 360) (n' := 3003) (Nat.le_of_ble_eq_true rfl) (Nat.le_of_ble_eq_true rfl) ?_
    refine law_loop C hX hbl hL (shPT_congr (fun a h1 h2 => fG a (by omega)) p3) q3 (Nat.le_refl _) rfl (L + 1) 0 I4 L4 (Nat.zero_le _) (by omega) ?_
    exact relM_start (stF_cg (fun q h1 h2 => fI q (by omega)) (fun q h1 h2 => fL q (by omega)) p7) (by rw [fI _ (by omega)]; exact p8.1) (by rw [fI _ (by omega)]; exact p9) (fun j => by rw [fI _ (by omega)]; exact p10 j) q7 q8 q9 q10
  exact K s.heap [] _ rfl (fun a sh h => by cases h) va_S.rf hl
set_option maxHeartbeats 4000000 in
theorem lw_walk (l : Launch) (hflags : l.flags = flags0) (b : Addr) (xs : List Int32) : MetFree l x (headSpec (Jvm.Cond.code x code maxLocals ret :: tables_1) room_1) (lw_P b xs) (fun _ _ _ _ _ => True) lw_Q := by
  refine MetFree.of_bodyS (code := code) (maxLocals := maxLocals) (ret := ret) (by decide) ?_ ?_
  · intro args s m h hn
    obtain ⟨meth, c, h1, h2, h3, h4, h5, h6, -, -⟩ := Cond.code_spec hn (atoms_spec (ws := Jvm.Cond.code x code maxLocals ret :: tables_1) h _ List.mem_cons_self)
    exact ⟨meth, c, h1, h2, h3, h4, h5, h6⟩
  · intro p e s m args below meth c s₁ B hml0 hP _
    obtain ⟨rfl, hx, hbd, hgv⟩ := hP
    obtain ⟨scr, harrAt, hlist, hof, hsmall⟩ := hx
    obtain ⟨hcb, hkn, -, -⟩ := State.arrayAt?_spec harrAt
    have hown : s.vm.findClass R_law = some m.cls := findClass_of_methodNamed B.named
    have hts0 : ∀ c ∈ (Jvm.Cond.code x code maxLocals ret :: tables_1), c.before #[Value.ref b] s = true := atoms_spec (ws := Jvm.Cond.code x code maxLocals ret :: tables_1) B.pre
    have hts : ∀ w ∈ lw_tbl, w.before #[Value.ref b] s = true := k2_hts_sels lw_privs (fun w hw => hts0 w (List.mem_cons_of_mem _ hw)) lw_privs_ok
    have hml : c.maxLocals = 4 := B.maxLocals_eq (hts0 _ List.mem_cons_self)
    have X₀ : Stand p l e room_1 s m #[Value.ref b] below meth c s₁ [] 0 0 := Stand.of_body B
    have hh0 : s₁.heap = s.heap := by rw [B.state]; rfl
    have hsz : scr.slots.size = xs.length := by rw [← Array.length_toList, hlist, List.length_map]
    have hval : ∀ j : Nat, j < xs.length → scr.slots[j]? = some (.int (xs.getD j 0)) := fun j hj => by
      rw [← Array.getElem?_toList, hlist]
      simp [hj]
    have hbl : b < s.heap.size := (Array.getElem?_eq_some_iff.mp hcb).1
    have hX : va_X b xs.length (fun j => xs.getD j 0) s s.heap := ⟨scr, hcb, hof, hkn, hsz, hval⟩
    have K : W p l e room_1 s m #[Value.ref b] below meth c s₁.heap [] 0 0 (lw_Z below #[Value.ref b] s) (entryFrame m ([Value.ref b] : List Value).toArray 4) := by
      rw [hh0]
      exact whole_start l hflags hbd ⟨B.exec, B.bytes, B.returns, hml, hown, hts, hX, hbl, B.notSynchronized, hgv⟩
    obtain ⟨t, a1, o, b1, b2, b3⟩ := K s₁ rfl X₀
    exact ⟨t, o, a1, b1, b2, b3⟩
theorem lw_pre_spec {args : Array Value} {s : State} (h : (Jvm.Cond.and given_1 narrow_1).before args s = true) (hr : rest_1_c.before args s = true) : ∃ (b : Addr) (xs : List Int32), lw_P b xs args s := by
  have hs := flat_of_before _ h
  have hq := flat_of_before _ hr
  have hc : (Cond.count 1).before args s = true := hs _ (by decide +kernel)
  have harr : (Cond.arrayOf (.arg 0) .int).before args s = true := hs _ (by decide +kernel)
  have hle : (Cond.le (.length (.arg 0)) (.int 2560)).before args s = true := hs _ (by decide +kernel)
  have hlen : (Cond.isInt (.length (.arg 0))).before args s = true := hq _ (by decide +kernel)
  have hall : (Cond.all (.arg 0) (.isInt (.elem (.arg 0) (.index 0)))).before args s = true := hq _ (by decide +kernel)
  obtain ⟨b, xs, hb, hx⟩ := State.ints_of_pre rfl harr hlen hall
  have hsm : xs.length < 2 ^ 31 := hx.choose_spec.2.2.2
  have hev : (Term.length (.arg 0)).eval args s none [] s = some (.int xs.length.toInt32) := hx.length_eval hb
  have hv := Cond.le_ints hev (show (Term.int 2560).eval args s none [] s = some (.int 2560) from rfl)
  have hd : xs.length.toInt32 ≤ 2560 := by
    simpa [Cond.before, Cond.holds, hv] using hle
  have hN : xs.length ≤ 2560 := (Int32.ofNat_le_ofNat hsm (by decide)).mp (show Int32.ofNat xs.length ≤ Int32.ofNat 2560 from hd)
  exact ⟨b, xs, Cond.one_arg hc (show args[0]? = some (.ref b) from hb), hx, hN, h⟩
theorem lw_comes (l : Launch) (hflags : l.flags = flags0) : Comes l x (Jvm.Cond.code x code maxLocals ret :: tables_1) room_1 (fun tb e args s => Calls_1 tb e args s ∧ rest_1 tb e args s ∧ Pre_1 tb e args s)
    (fun _ _ args s o t => lw_Q args s o t) := by
  intro p e ha hc hk s m args below hf hfit hheap happ hpre
  obtain ⟨b, xs, hP⟩ := lw_pre_spec hpre.2.2 hpre.2.1
  obtain ⟨k, o, h1, h2, h3, hQ⟩ := lw_walk l hflags b xs p e ha hc hk s m args below hf ((Spec.applies_iff_loose hf).mp happ).1 hP trivial
  exact ⟨k, o, h1, h2, h3, hQ⟩
theorem lw_frame {s t : State} {o : Outcome} {args : Array Value} (h : Framed s o t [] 600000 7302249) :
    Framed s o t (fieldLocs frame_1_writes args s ++ arrayLocs frame_1_arrays args s ++ staticLocs frame_1_statics s) 600000 7302249 := h
theorem lw_limb (L : Cond) (hL : ∀ (args : Array Value) (s t : State), L.after args s (.returned (some (.int 1))) t = true) :
    ArmFor flags0 classFile x code maxLocals ret World_1 tables_1 room_1 Calls_1 rest_1 Pre_1
      (fun tb e a s o t => postC L tb e a s o t ∧ Framed s o t (fieldLocs frame_1_writes a s ++ arrayLocs frame_1_arrays a s ++ staticLocs frame_1_statics s) 600000 7302249) := by
  intro l hflags _ _ p e ha hc hk s m args below hf hfit hheap happ hpre
  obtain ⟨k, o, h1, h2, h3, rfl, hF⟩ := lw_comes l hflags p e ha hc hk s m args below hf hfit hheap happ hpre
  exact ⟨k, _, h1, h2, h3, hL args s _, lw_frame hF⟩
theorem i_vc : Claimed_1_1 ∧ Claimed_1_2 := ⟨lw_limb limb_1_1 (fun args s t => by simp [limb_1_1, Cond.after, Cond.holds, Cond.value]), lw_limb limb_1_2 (fun args s t => Cond.after_iff.mpr (by
  first | (rw [show limb_1_2 = Cond.eq .result (.int 1) from rfl, Cond.eq_ints (x := 1) (y := 1) rfl rfl]; simp; done) | (simp [limb_1_2, Cond.value, Term.eval]; done)))⟩

