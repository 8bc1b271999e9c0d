/-! PathTracker$History at H: its ring in the row H + 1, the States at H + 2 + 38 * k; first: place 1, size: place 2 -/
theorem xor4 {a : Nat} (h : a < 8) : 0 ≤ nI a ^^^ 4 := by
  rcases (show a = 0 ∨ a = 1 ∨ a = 2 ∨ a = 3 ∨ a = 4 ∨ a = 5 ∨ a = 6 ∨ a = 7 by omega) with rfl | rfl | rfl | rfl | rfl | rfl | rfl | rfl <;> decide
theorem xM.ofF {l : Launch} {D : xD} {z : Nat} {y : MethodName} {cc : ByteArray} {nL : Nat} {ret : Option FieldType} {fr lo mc ms : Nat} {av : List Value} {n : Nat} {G : xG} {I : xI} {L : xL} {Post : xPost} (hy : plainFor y = true) (hlen : (lg_sl av).length ≤ nL)
    (body : ∀ (p : Program) (e : Env) (s : State) (m : MethodId) (args : Array Value) (below : List Frame) (meth : Method) (c : Code), xOK p s m args meth c D z y.cls cc nL ret → (y.name = meth.name) → s.heap.size = n →
      X p l e (xRm fr lo mc ms) s m args below meth c D z nL (MQ below (xQc D z n Post) args s mc ms (fun a => z ≤ a)) 0 0 n G I L 0 (lv_args 0 av) []) :
    xM l D z y cc nL ret fr lo mc ms av n G I L Post := by
  refine va_MetF (cc := cc) (maxL := nL) (ret := ret) hy rfl ?_
  intro p e s m args below meth c s₁ B hml hv
  obtain ⟨rfl, hn, hz, hR, hK, hZ⟩ := hv
  have hts := atoms_spec (ws := xws y cc nL ret) B.pre
  have hl := lv_entry av (n := nL) hlen
  rw [lg_entry_eq]
  exact body p e s m _ below meth c ⟨B.exec, B.bytes, hml, findClass_of_methodNamed B.named, fun w hw => hts w (List.mem_cons_of_mem _ hw), B.returns, B.notSynchronized, hK, hZ, by rw [hn]; exact hz⟩ (name_of_methodNamed B.named B.method).1.symm hn s.heap [] _ hn hR va_S.rf hl
def rHis (H : Nat) : Nat → Option Nat := va_up rN 0 (some (H + 1))
def rR4 (H : Nat) : Nat → Option Nat := fun k => if k < 4 then some (H + 2 + 38 * k) else none
def shHi (G : xG) (H : Nat) : Prop := G H = some (4, 0, rHis H) ∧ G (H + 1) = some (26, 4, rR4 H) ∧ ∀ k, k < 4 → shS G (H + 2 + 38 * k)
theorem stEq_congr {I J : xI} {L M : xL} {O : Nat} {I' : xI} {L' : xL} {S : Nat} (h1 : ∀ q, O ≤ q → q < O + 38 → I q = J q) (h2 : ∀ q, O ≤ q → q < O + 38 → L q = M q) (h : stEq I L O I' L' S) : stEq J M O I' L' S := by
  obtain ⟨a, b, c, d⟩ := h
  refine ⟨fun e he j hj => ?_, fun j hj => ?_, ?_, fun k hk => ⟨fun j j1 j2 => ?_, ?_, ?_⟩⟩
  · rw [← h1 _ (by omega) (by omega), ← h1 _ (by omega) (by omega)]; exact a e he j hj
  · rw [← h1 _ (by omega) (by omega)]; exact b j hj
  · rw [← h1 _ (by omega) (by omega)]; exact c
  · rw [← h1 _ (by omega) (by omega)]; exact (d k hk).1 j j1 j2
  · exact (d k hk).2.1.trans (rd_congr (h2 _ (by omega) (by omega)))
  · exact (d k hk).2.2.trans (rd_congr (h2 _ (by omega) (by omega)))
theorem stEq_congr' {I J : xI} {L M : xL} {O : Nat} {I' : xI} {L' : xL} {S : Nat} (h1 : ∀ q, O ≤ q → q < O + 38 → I q = J q) (h2 : ∀ q, O ≤ q → q < O + 38 → L q = M q) (h : stEq I' L' S I L O) : stEq I' L' S J M O := by
  obtain ⟨a, b, c, d⟩ := h
  refine ⟨fun e he j hj => ?_, fun j hj => ?_, ?_, fun k hk => ⟨fun j j1 j2 => ?_, ?_, ?_⟩⟩
  · rw [← h1 _ (by omega) (by omega), ← h1 _ (by omega) (by omega)]; exact a e he j hj
  · rw [← h1 _ (by omega) (by omega)]; exact b j hj
  · rw [← h1 _ (by omega) (by omega)]; exact c
  · rw [← h1 _ (by omega) (by omega)]; exact (d k hk).1 j j1 j2
  · exact (rd_congr (h2 _ (by omega) (by omega))).symm.trans (d k hk).2.1
  · exact (rd_congr (h2 _ (by omega) (by omega))).symm.trans (d k hk).2.2
theorem dJ9_floorMod_7cf53_0 : decode cJ9_floorMod_7cf53 0 = .ok (.iload_n 0, 1) := by decide +kernel
theorem dJ9_floorMod_7cf53_1 : decode cJ9_floorMod_7cf53 1 = .ok (.iload_n 1, 1) := by decide +kernel
theorem dJ9_floorMod_7cf53_2 : decode cJ9_floorMod_7cf53 2 = .ok (.irem, 1) := by decide +kernel
theorem dJ9_floorMod_7cf53_3 : decode cJ9_floorMod_7cf53 3 = .ok (.istore_n 2, 1) := by decide +kernel
theorem dJ9_floorMod_7cf53_4 : decode cJ9_floorMod_7cf53 4 = .ok (.iload_n 0, 1) := by decide +kernel
theorem dJ9_floorMod_7cf53_5 : decode cJ9_floorMod_7cf53 5 = .ok (.iload_n 1, 1) := by decide +kernel
theorem dJ9_floorMod_7cf53_6 : decode cJ9_floorMod_7cf53 6 = .ok (.ixor, 1) := by decide +kernel
theorem dJ9_floorMod_7cf53_7 : decode cJ9_floorMod_7cf53 7 = .ok (.ifCond .ge 11, 3) := by decide +kernel
theorem dJ9_floorMod_7cf53_10 : decode cJ9_floorMod_7cf53 10 = .ok (.iload_n 2, 1) := by decide +kernel
theorem dJ9_floorMod_7cf53_11 : decode cJ9_floorMod_7cf53 11 = .ok (.ifCond .eq 7, 3) := by decide +kernel
theorem dJ9_floorMod_7cf53_14 : decode cJ9_floorMod_7cf53 14 = .ok (.iload_n 2, 1) := by decide +kernel
theorem dJ9_floorMod_7cf53_15 : decode cJ9_floorMod_7cf53 15 = .ok (.iload_n 1, 1) := by decide +kernel
theorem dJ9_floorMod_7cf53_16 : decode cJ9_floorMod_7cf53 16 = .ok (.iadd, 1) := by decide +kernel
theorem dJ9_floorMod_7cf53_17 : decode cJ9_floorMod_7cf53 17 = .ok (.ireturn, 1) := by decide +kernel
theorem dJ9_floorMod_7cf53_18 : decode cJ9_floorMod_7cf53 18 = .ok (.iload_n 2, 1) := by decide +kernel
theorem dJ9_floorMod_7cf53_19 : decode cJ9_floorMod_7cf53 19 = .ok (.ireturn, 1) := by decide +kernel
set_option maxHeartbeats 1000000 in
set_option maxRecDepth 100000 in
theorem t_J9_floorMod_7cf53 (l : Launch) (D : xD) (z n : Nat) (G : xG) (I : xI) (L : xL) (a : Nat) (ha : a < 8) : xM0 l D z yJ9_floorMod_7cf53 cJ9_floorMod_7cf53 3 (some .int) 0 0 [.int (nI a), .int 4] n G I L (xE (some (.int (nI (a % 4)))) I L) := by
  refine xM.ofF (by decide +kernel) (Nat.le_of_ble_eq_true rfl) (fun p e s m args below meth c C hnm hsz => ?_)
  refine x_lv [(0, .int (nI a)), (1, .int 4)] rfl ?_
  refine x_iload_n 0 C dJ9_floorMod_7cf53_0 rfl 0 rfl ?_
  refine x_iload_n 1 C dJ9_floorMod_7cf53_1 rfl 1 rfl ?_
  refine x_irem 2 C dJ9_floorMod_7cf53_2 (by first | assumption | decide) ?_
  refine x_int (nI (a % 4)) (nI_mod (a := a) (b := 4) (by omega) (by omega)) ?_
  refine x_istore_n 3 C [(2, .int (nI (a % 4))), (0, .int (nI a)), (1, .int 4)] dJ9_floorMod_7cf53_3 rfl (by decide) rfl ?_
  refine x_iload_n 4 C dJ9_floorMod_7cf53_4 rfl 1 rfl ?_
  refine x_iload_n 5 C dJ9_floorMod_7cf53_5 rfl 2 rfl ?_
  refine x_ixor 6 C dJ9_floorMod_7cf53_6 ?_
  refine x_if_ge 7 C 18 dJ9_floorMod_7cf53_7 (by decide) (fun _ => ?_) (fun c1 => absurd (xor4 ha) c1)
  refine x_iload_n 18 C dJ9_floorMod_7cf53_18 rfl 0 rfl ?_
  refine x_iret 19 C dJ9_floorMod_7cf53_19 rfl rfl (Nat.le_refl _) (xN.intro ?_)
  exact ⟨rfl, rfl, rfl⟩
theorem dX4_size_0 : decode cX4_size 0 = .ok (.aload_n 0, 1) := by decide +kernel
theorem dX4_size_1 : decode cX4_size 1 = .ok (.getfield 16, 3) := by decide +kernel
theorem dX4_size_4 : decode cX4_size 4 = .ok (.ireturn, 1) := by decide +kernel
set_option maxHeartbeats 1000000 in
set_option maxRecDepth 100000 in
theorem t_X4_size (l : Launch) (D : xD) (z n : Nat) (G : xG) (I : xI) (L : xL) (H : Nat) (hH : shHi G H) : xM0 l D z yX4_size cX4_size 1 (some .int) 0 0 [.ref H] n G I L (xE (some (.int (I H 2))) I L) := by
  refine xM.of (by decide) (Nat.le_of_ble_eq_true rfl) (fun p e s m args below meth c C hnm hsz => ?_)
  refine x_lv [(0, .ref H)] rfl ?_
  refine x_aload_n 0 C dX4_size_0 rfl 0 rfl ?_
  refine x_geti 1 C dX4_size_1 ff_X4_16 hH.1 ?_
  refine x_iret 4 C dX4_size_4 rfl rfl (Nat.le_refl _) (xN.intro ?_)
  exact ⟨rfl, rfl, rfl⟩
theorem dX4_record_0 : decode cX4_record 0 = .ok (.aload_n 0, 1) := by decide +kernel
theorem dX4_record_1 : decode cX4_record 1 = .ok (.getfield 16, 3) := by decide +kernel
theorem dX4_record_4 : decode cX4_record 4 = .ok (.iconst 4, 1) := by decide +kernel
theorem dX4_record_5 : decode cX4_record 5 = .ok (.if_icmp .ne 27, 3) := by decide +kernel
theorem dX4_record_8 : decode cX4_record 8 = .ok (.aload_n 0, 1) := by decide +kernel
theorem dX4_record_9 : decode cX4_record 9 = .ok (.aload_n 0, 1) := by decide +kernel
theorem dX4_record_10 : decode cX4_record 10 = .ok (.getfield 20, 3) := by decide +kernel
theorem dX4_record_13 : decode cX4_record 13 = .ok (.iconst 1, 1) := by decide +kernel
theorem dX4_record_14 : decode cX4_record 14 = .ok (.iadd, 1) := by decide +kernel
theorem dX4_record_15 : decode cX4_record 15 = .ok (.iconst 4, 1) := by decide +kernel
theorem dX4_record_16 : decode cX4_record 16 = .ok (.invokestatic 23, 3) := by decide +kernel
theorem dX4_record_19 : decode cX4_record 19 = .ok (.putfield 20, 3) := by decide +kernel
theorem dX4_record_22 : decode cX4_record 22 = .ok (.aload_n 0, 1) := by decide +kernel
theorem dX4_record_23 : decode cX4_record 23 = .ok (.dup, 1) := by decide +kernel
theorem dX4_record_24 : decode cX4_record 24 = .ok (.getfield 16, 3) := by decide +kernel
theorem dX4_record_27 : decode cX4_record 27 = .ok (.iconst 1, 1) := by decide +kernel
theorem dX4_record_28 : decode cX4_record 28 = .ok (.isub, 1) := by decide +kernel
theorem dX4_record_29 : decode cX4_record 29 = .ok (.putfield 16, 3) := by decide +kernel
theorem dX4_record_32 : decode cX4_record 32 = .ok (.aload_n 0, 1) := by decide +kernel
theorem dX4_record_33 : decode cX4_record 33 = .ok (.getfield 11, 3) := by decide +kernel
theorem dX4_record_36 : decode cX4_record 36 = .ok (.aload_n 0, 1) := by decide +kernel
theorem dX4_record_37 : decode cX4_record 37 = .ok (.getfield 20, 3) := by decide +kernel
theorem dX4_record_40 : decode cX4_record 40 = .ok (.aload_n 0, 1) := by decide +kernel
theorem dX4_record_41 : decode cX4_record 41 = .ok (.getfield 16, 3) := by decide +kernel
theorem dX4_record_44 : decode cX4_record 44 = .ok (.iadd, 1) := by decide +kernel
theorem dX4_record_45 : decode cX4_record 45 = .ok (.iconst 4, 1) := by decide +kernel
theorem dX4_record_46 : decode cX4_record 46 = .ok (.invokestatic 23, 3) := by decide +kernel
theorem dX4_record_49 : decode cX4_record 49 = .ok (.aaload, 1) := by decide +kernel
theorem dX4_record_50 : decode cX4_record 50 = .ok (.aload_n 1, 1) := by decide +kernel
theorem dX4_record_51 : decode cX4_record 51 = .ok (.invokevirtual 29, 3) := by decide +kernel
theorem dX4_record_54 : decode cX4_record 54 = .ok (.aload_n 0, 1) := by decide +kernel
theorem dX4_record_55 : decode cX4_record 55 = .ok (.dup, 1) := by decide +kernel
theorem dX4_record_56 : decode cX4_record 56 = .ok (.getfield 16, 3) := by decide +kernel
theorem dX4_record_59 : decode cX4_record 59 = .ok (.iconst 1, 1) := by decide +kernel
theorem dX4_record_60 : decode cX4_record 60 = .ok (.iadd, 1) := by decide +kernel
theorem dX4_record_61 : decode cX4_record 61 = .ok (.putfield 16, 3) := by decide +kernel
theorem dX4_record_64 : decode cX4_record 64 = .ok (.return_, 1) := by decide +kernel
set_option maxHeartbeats 1000000 in
set_option maxRecDepth 100000 in
theorem t_X4_record (l : Launch) (D : xD) (z n : Nat) (G : xG) (I : xI) (L : xL) (H : Nat) (S : Nat) (F : Nat) (Z : Nat) (hH : shHi G H) (hS : shS G S) (zH : z ≤ H) (dSH : S + 38 ≤ H ∨ H + 154 ≤ S) (hF : I H 1 = nI F) (hF4 : F < 4) (hZ : I H 2 = nI Z) (hZ4 : Z ≤ 4) : xM0 l D z yX4_record cX4_record 2 none 3 64 [.ref H, .ref S] n G I L (fun v' I' L' => v' = none ∧ (I' H 1 = nI (if Z = 4 then (F + 1) % 4 else F)) ∧ (I' H 2 = nI (if Z = 4 then 4 else Z + 1)) ∧ (stEq I L S I' L' (H + 2 + 38 * ((F + Z) % 4))) ∧ (∀ q, q ≠ H → (q < H + 2 + 38 * ((F + Z) % 4) ∨ H + 2 + 38 * ((F + Z) % 4) + 38 ≤ q) → I' q = I q) ∧ (∀ q, (q < H + 2 + 38 * ((F + Z) % 4) ∨ H + 2 + 38 * ((F + Z) % 4) + 38 ≤ q) → L' q = L q)) := by
  refine xM.of (by decide) (Nat.le_of_ble_eq_true rfl) (fun p e s m args below meth c C hnm hsz => ?_)
  refine x_lv [(0, .ref H), (1, .ref S)] rfl ?_
  refine x_aload_n 0 C dX4_record_0 rfl 0 rfl ?_
  refine x_geti 1 C dX4_record_1 ff_X4_16 hH.1 ?_
  refine x_int (nI Z) hZ ?_
  refine x_iconst 4 C (v := 4) dX4_record_4 rfl ?_
  refine x_icmp_ne 5 C 32 dX4_record_5 (by decide) (fun c1 => ?_) (fun c1 => ?_)
  · skip
    have c1n : ¬ (Z = 4) := fun h => c1 ((nI_eq (a := Z) (b := 4) (by omega) (by omega)).mpr h)
    refine x_aload_n 32 C dX4_record_32 rfl 0 rfl ?_
    refine x_getr 33 C (b := H + 1) dX4_record_33 ff_X4_11 rfl hH.1 rfl ?_
    refine x_aload_n 36 C dX4_record_36 rfl 0 rfl ?_
    refine x_geti 37 C dX4_record_37 ff_X4_20 hH.1 ?_
    refine x_int (nI F) hF ?_
    refine x_aload_n 40 C dX4_record_40 rfl 0 rfl ?_
    refine x_geti 41 C dX4_record_41 ff_X4_16 hH.1 ?_
    refine x_int (nI Z) hZ ?_
    refine x_iadd 44 C dX4_record_44 ?_
    refine x_int (nI (F + Z)) (nI_add F Z) ?_
    refine x_iconst 45 C (v := 4) dX4_record_45 rfl ?_
    refine x_callSe 46 C dX4_record_46 (As := [.int (nI (F + Z)), .int 4]) (rest := [.ref (H + 1)]) [.int (nI ((F + Z) % 4)), .ref (H + 1)] (t_J9_floorMod_7cf53 l D z n G I L (F + Z) (by first | omega | assumption | decide)) mt_J9_floorMod_7cf53 km_X4_23 kt_J9_floorMod_7cf53 rfl rfl (Nat.le_of_ble_eq_true rfl) ⟨⟨by decide, by decide⟩, by decide, by decide⟩ (fun I2 L3 eI2 eL3 => ?_)
    replace eI2 := eI2.symm; subst eI2
    replace eL3 := eL3.symm; subst eL3
    refine x_int (nI ((F + Z) % 4)) (congrArg nI (by omega)) ?_
    refine x_aald 49 C (b := H + 2 + 38 * ((F + Z) % 4)) (j := ((F + Z) % 4)) dX4_record_49 (by decide) hH.2.1 (xIx_nI (by omega) (by decide)) (if_pos (by omega)) ?_
    refine x_aload_n 50 C dX4_record_50 rfl 1 rfl ?_
    refine x_callVp 51 C dX4_record_51 (As := [.ref S]) (rest := []) (t_X9_copy l D z n G I L (H + 2 + 38 * ((F + Z) % 4)) S (hH.2.2 ((F + Z) % 4) (by omega)) hS (by omega) (by first | omega | assumption | decide)) mt_X9_copy km_X4_29 ki_X9_copy ks_X9_copy (hH.2.2 ((F + Z) % 4) (by omega)).1 ⟨by decide, rfl⟩ rfl (Nat.le_of_ble_eq_true rfl) ⟨⟨by decide, by decide⟩, by decide, by decide⟩ (fun w4 I5 L6 hw4 => ?_)
    obtain ⟨hw4v, hw4r0, hw4r1, hw4r2⟩ := hw4
    subst hw4v
    refine x_st [] rfl ?_
    refine x_aload_n 54 C dX4_record_54 rfl 0 rfl ?_
    refine x_dup 55 C dX4_record_55 rfl ?_
    refine x_geti 56 C dX4_record_56 ff_X4_16 hH.1 ?_
    refine x_int (nI Z) (by rw [hw4r1 _ (by omega)]; exact hZ) ?_
    refine x_iconst 59 C (v := 1) dX4_record_59 rfl ?_
    refine x_iadd 60 C dX4_record_60 ?_
    refine x_int (nI (Z + 1)) (nI_add Z 1) ?_
    refine x_puti 61 C dX4_record_61 ff_X4_16 rfl hH.1 (by omega) (fun I7 eI7 => ?_)
    refine x_vret 64 C dX4_record_64 rfl (Nat.le_refl _) (xN.intro ?_)
    refine ⟨rfl, ?_, ?_, ?_, fun q h1 h2 => ?_, fun q h2 => hw4r2 q h2⟩
    · rw [eI7, xup_ne _ _ (by omega), hw4r1 _ (by omega)]; simp [xup, hF, c1, c1n]
    · rw [eI7, xup_self]; simp [c1, c1n]
    · refine stEq_congr' (I := I5) (L := L6) (fun q h1 h2 => by rw [eI7, xup_row _ _ (by omega)]) (fun _ _ _ => rfl) (stEq_congr (I := I) (L := L) (fun q h1 h2 => by rfl) (fun _ _ _ => rfl) hw4r0)
    · rw [eI7, xup_row _ _ h1, hw4r1 _ (by omega)]
  · skip
    have c1n : Z = 4 := (nI_eq (a := Z) (b := 4) (by omega) (by omega)).mp c1
    refine x_aload_n 8 C dX4_record_8 rfl 0 rfl ?_
    refine x_aload_n 9 C dX4_record_9 rfl 0 rfl ?_
    refine x_geti 10 C dX4_record_10 ff_X4_20 hH.1 ?_
    refine x_int (nI F) hF ?_
    refine x_iconst 13 C (v := 1) dX4_record_13 rfl ?_
    refine x_iadd 14 C dX4_record_14 ?_
    refine x_int (nI (F + 1)) (nI_add F 1) ?_
    refine x_iconst 15 C (v := 4) dX4_record_15 rfl ?_
    refine x_callSe 16 C dX4_record_16 (As := [.int (nI (F + 1)), .int 4]) (rest := [.ref H]) [.int (nI ((F + 1) % 4)), .ref H] (t_J9_floorMod_7cf53 l D z n G I L (F + 1) (by first | omega | assumption | decide)) mt_J9_floorMod_7cf53 km_X4_23 kt_J9_floorMod_7cf53 rfl rfl (Nat.le_of_ble_eq_true rfl) ⟨⟨by decide, by decide⟩, by decide, by decide⟩ (fun I8 L9 eI8 eL9 => ?_)
    replace eI8 := eI8.symm; subst eI8
    replace eL9 := eL9.symm; subst eL9
    refine x_puti 19 C dX4_record_19 ff_X4_20 rfl hH.1 (by omega) (fun I10 eI10 => ?_)
    refine x_aload_n 22 C dX4_record_22 rfl 0 rfl ?_
    refine x_dup 23 C dX4_record_23 rfl ?_
    refine x_geti 24 C dX4_record_24 ff_X4_16 hH.1 ?_
    refine x_int (nI Z) (by simp [eI10, xup, hZ]) ?_
    refine x_iconst 27 C (v := 1) dX4_record_27 rfl ?_
    refine x_isub 28 C dX4_record_28 ?_
    refine x_int (nI (Z - 1)) (nI_sub (a := Z) (b := 1) (by omega)) ?_
    refine x_puti 29 C dX4_record_29 ff_X4_16 rfl hH.1 (by omega) (fun I11 eI11 => ?_)
    refine x_aload_n 32 C dX4_record_32 rfl 0 rfl ?_
    refine x_getr 33 C (b := H + 1) dX4_record_33 ff_X4_11 rfl hH.1 rfl ?_
    refine x_aload_n 36 C dX4_record_36 rfl 0 rfl ?_
    refine x_geti 37 C dX4_record_37 ff_X4_20 hH.1 ?_
    refine x_int (nI ((F + 1) % 4)) (by simp [eI10, eI11, xup]) ?_
    refine x_aload_n 40 C dX4_record_40 rfl 0 rfl ?_
    refine x_geti 41 C dX4_record_41 ff_X4_16 hH.1 ?_
    refine x_int (nI (Z - 1)) (by simp [eI10, eI11, xup]) ?_
    refine x_iadd 44 C dX4_record_44 ?_
    refine x_int (nI ((F + 1) % 4 + (Z - 1))) (nI_add ((F + 1) % 4) (Z - 1)) ?_
    refine x_iconst 45 C (v := 4) dX4_record_45 rfl ?_
    refine x_callSe 46 C dX4_record_46 (As := [.int (nI ((F + 1) % 4 + (Z - 1))), .int 4]) (rest := [.ref (H + 1)]) [.int (nI (((F + 1) % 4 + (Z - 1)) % 4)), .ref (H + 1)] (t_J9_floorMod_7cf53 l D z n G I11 L ((F + 1) % 4 + (Z - 1)) (by first | omega | assumption | decide)) mt_J9_floorMod_7cf53 km_X4_23 kt_J9_floorMod_7cf53 rfl rfl (Nat.le_of_ble_eq_true rfl) ⟨⟨by decide, by decide⟩, by decide, by decide⟩ (fun I12 L13 eI12 eL13 => ?_)
    replace eI12 := eI12.symm; subst eI12
    replace eL13 := eL13.symm; subst eL13
    refine x_int (nI ((F + Z) % 4)) (congrArg nI (by omega)) ?_
    refine x_aald 49 C (b := H + 2 + 38 * ((F + Z) % 4)) (j := ((F + Z) % 4)) dX4_record_49 (by decide) hH.2.1 (xIx_nI (by omega) (by decide)) (if_pos (by omega)) ?_
    refine x_aload_n 50 C dX4_record_50 rfl 1 rfl ?_
    refine x_callVp 51 C dX4_record_51 (As := [.ref S]) (rest := []) (t_X9_copy l D z n G I11 L (H + 2 + 38 * ((F + Z) % 4)) S (hH.2.2 ((F + Z) % 4) (by omega)) hS (by omega) (by first | omega | assumption | decide)) mt_X9_copy km_X4_29 ki_X9_copy ks_X9_copy (hH.2.2 ((F + Z) % 4) (by omega)).1 ⟨by decide, rfl⟩ rfl (Nat.le_of_ble_eq_true rfl) ⟨⟨by decide, by decide⟩, by decide, by decide⟩ (fun w14 I15 L16 hw14 => ?_)
    obtain ⟨hw14v, hw14r0, hw14r1, hw14r2⟩ := hw14
    subst hw14v
    refine x_st [] rfl ?_
    refine x_aload_n 54 C dX4_record_54 rfl 0 rfl ?_
    refine x_dup 55 C dX4_record_55 rfl ?_
    refine x_geti 56 C dX4_record_56 ff_X4_16 hH.1 ?_
    refine x_int (nI (Z - 1)) (by rw [hw14r1 _ (by omega)]; simp [eI10, eI11, xup]) ?_
    refine x_iconst 59 C (v := 1) dX4_record_59 rfl ?_
    refine x_iadd 60 C dX4_record_60 ?_
    refine x_int (nI (Z - 1 + 1)) (nI_add (Z - 1) 1) ?_
    refine x_puti 61 C dX4_record_61 ff_X4_16 rfl hH.1 (by omega) (fun I17 eI17 => ?_)
    refine x_vret 64 C dX4_record_64 rfl (Nat.le_refl _) (xN.intro ?_)
    refine ⟨rfl, ?_, ?_, ?_, fun q h1 h2 => ?_, fun q h2 => hw14r2 q h2⟩
    · rw [eI17, xup_ne _ _ (by omega), hw14r1 _ (by omega)]; simp [eI10, eI11, xup, hF, c1, c1n]
    · rw [eI17, xup_self]; simp [c1, c1n]
    · refine stEq_congr' (I := I15) (L := L16) (fun q h1 h2 => by rw [eI17, xup_row _ _ (by omega)]) (fun _ _ _ => rfl) (stEq_congr (I := I11) (L := L) (fun q h1 h2 => by rw [eI11, xup_row _ _ (by omega), eI10, xup_row _ _ (by omega)]) (fun _ _ _ => rfl) hw14r0)
    · rw [eI17, xup_row _ _ h1, hw14r1 _ (by omega)]; rw [eI11, xup_row _ _ (by omega), eI10, xup_row _ _ (by omega)]
theorem dX4_takeBack_0 : decode cX4_takeBack 0 = .ok (.aload_n 0, 1) := by decide +kernel
theorem dX4_takeBack_1 : decode cX4_takeBack 1 = .ok (.getfield 16, 3) := by decide +kernel
theorem dX4_takeBack_4 : decode cX4_takeBack 4 = .ok (.ifCond .ne 5, 3) := by decide +kernel
theorem dX4_takeBack_7 : decode cX4_takeBack 7 = .ok (.iconst 0, 1) := by decide +kernel
theorem dX4_takeBack_8 : decode cX4_takeBack 8 = .ok (.ireturn, 1) := by decide +kernel
theorem dX4_takeBack_9 : decode cX4_takeBack 9 = .ok (.aload_n 0, 1) := by decide +kernel
theorem dX4_takeBack_10 : decode cX4_takeBack 10 = .ok (.dup, 1) := by decide +kernel
theorem dX4_takeBack_11 : decode cX4_takeBack 11 = .ok (.getfield 16, 3) := by decide +kernel
theorem dX4_takeBack_14 : decode cX4_takeBack 14 = .ok (.iconst 1, 1) := by decide +kernel
theorem dX4_takeBack_15 : decode cX4_takeBack 15 = .ok (.isub, 1) := by decide +kernel
theorem dX4_takeBack_16 : decode cX4_takeBack 16 = .ok (.putfield 16, 3) := by decide +kernel
theorem dX4_takeBack_19 : decode cX4_takeBack 19 = .ok (.aload_n 1, 1) := by decide +kernel
theorem dX4_takeBack_20 : decode cX4_takeBack 20 = .ok (.aload_n 0, 1) := by decide +kernel
theorem dX4_takeBack_21 : decode cX4_takeBack 21 = .ok (.getfield 11, 3) := by decide +kernel
theorem dX4_takeBack_24 : decode cX4_takeBack 24 = .ok (.aload_n 0, 1) := by decide +kernel
theorem dX4_takeBack_25 : decode cX4_takeBack 25 = .ok (.getfield 20, 3) := by decide +kernel
theorem dX4_takeBack_28 : decode cX4_takeBack 28 = .ok (.aload_n 0, 1) := by decide +kernel
theorem dX4_takeBack_29 : decode cX4_takeBack 29 = .ok (.getfield 16, 3) := by decide +kernel
theorem dX4_takeBack_32 : decode cX4_takeBack 32 = .ok (.iadd, 1) := by decide +kernel
theorem dX4_takeBack_33 : decode cX4_takeBack 33 = .ok (.iconst 4, 1) := by decide +kernel
theorem dX4_takeBack_34 : decode cX4_takeBack 34 = .ok (.invokestatic 23, 3) := by decide +kernel
theorem dX4_takeBack_37 : decode cX4_takeBack 37 = .ok (.aaload, 1) := by decide +kernel
theorem dX4_takeBack_38 : decode cX4_takeBack 38 = .ok (.invokevirtual 29, 3) := by decide +kernel
theorem dX4_takeBack_41 : decode cX4_takeBack 41 = .ok (.iconst 1, 1) := by decide +kernel
theorem dX4_takeBack_42 : decode cX4_takeBack 42 = .ok (.ireturn, 1) := by decide +kernel
set_option maxHeartbeats 1000000 in
set_option maxRecDepth 100000 in
theorem t_X4_takeBack (l : Launch) (D : xD) (z n : Nat) (G : xG) (I : xI) (L : xL) (H : Nat) (S : Nat) (F : Nat) (Z : Nat) (hH : shHi G H) (hS : shS G S) (zH : z ≤ H) (zS : z ≤ S) (dSH : S + 38 ≤ H ∨ H + 154 ≤ S) (hF : I H 1 = nI F) (hF4 : F < 4) (hZ : I H 2 = nI Z) (hZ4 : Z ≤ 4) : xM0 l D z yX4_takeBack cX4_takeBack 2 (some .boolean) 3 64 [.ref H, .ref S] n G I L (fun v' I' L' => v' = (some (.int (if Z = 0 then 0 else 1))) ∧ (Z = 0 → I' = I) ∧ (¬ Z = 0 → I' H 1 = I H 1 ∧ I' H 2 = nI (Z - 1) ∧ stEq I L (H + 2 + 38 * ((F + (Z - 1)) % 4)) I' L' S ∧ ∀ q, q ≠ H → (q < S ∨ S + 38 ≤ q) → I' q = I q) ∧ (∀ q, (q < S ∨ S + 38 ≤ q) → L' q = L q) ∧ (Z = 0 → L' = L)) := by
  refine xM.of (by decide) (Nat.le_of_ble_eq_true rfl) (fun p e s m args below meth c C hnm hsz => ?_)
  refine x_lv [(0, .ref H), (1, .ref S)] rfl ?_
  refine x_aload_n 0 C dX4_takeBack_0 rfl 0 rfl ?_
  refine x_geti 1 C dX4_takeBack_1 ff_X4_16 hH.1 ?_
  refine x_int (nI Z) hZ ?_
  refine x_if_ne 4 C 9 dX4_takeBack_4 (by decide) (fun c1 => ?_) (fun c1 => ?_)
  · skip
    have c1n : ¬ (Z = 0) := fun h => c1 ((nI_eq (a := Z) (b := 0) (by omega) (by omega)).mpr h)
    refine x_aload_n 9 C dX4_takeBack_9 rfl 0 rfl ?_
    refine x_dup 10 C dX4_takeBack_10 rfl ?_
    refine x_geti 11 C dX4_takeBack_11 ff_X4_16 hH.1 ?_
    refine x_int (nI Z) hZ ?_
    refine x_iconst 14 C (v := 1) dX4_takeBack_14 rfl ?_
    refine x_isub 15 C dX4_takeBack_15 ?_
    refine x_int (nI (Z - 1)) (nI_sub (a := Z) (b := 1) (by omega)) ?_
    refine x_puti 16 C dX4_takeBack_16 ff_X4_16 rfl hH.1 (by omega) (fun I2 eI2 => ?_)
    refine x_aload_n 19 C dX4_takeBack_19 rfl 1 rfl ?_
    refine x_aload_n 20 C dX4_takeBack_20 rfl 0 rfl ?_
    refine x_getr 21 C (b := H + 1) dX4_takeBack_21 ff_X4_11 rfl hH.1 rfl ?_
    refine x_aload_n 24 C dX4_takeBack_24 rfl 0 rfl ?_
    refine x_geti 25 C dX4_takeBack_25 ff_X4_20 hH.1 ?_
    refine x_int (nI F) (by simp [eI2, xup, hF]) ?_
    refine x_aload_n 28 C dX4_takeBack_28 rfl 0 rfl ?_
    refine x_geti 29 C dX4_takeBack_29 ff_X4_16 hH.1 ?_
    refine x_int (nI (Z - 1)) (by simp [eI2, xup]) ?_
    refine x_iadd 32 C dX4_takeBack_32 ?_
    refine x_int (nI (F + (Z - 1))) (nI_add F (Z - 1)) ?_
    refine x_iconst 33 C (v := 4) dX4_takeBack_33 rfl ?_
    refine x_callSe 34 C dX4_takeBack_34 (As := [.int (nI (F + (Z - 1))), .int 4]) (rest := [.ref (H + 1), .ref S]) [.int (nI ((F + (Z - 1)) % 4)), .ref (H + 1), .ref S] (t_J9_floorMod_7cf53 l D z n G I2 L (F + (Z - 1)) (by first | omega | assumption | decide)) mt_J9_floorMod_7cf53 km_X4_23 kt_J9_floorMod_7cf53 rfl rfl (Nat.le_of_ble_eq_true rfl) ⟨⟨by decide, by decide⟩, by decide, by decide⟩ (fun I3 L4 eI3 eL4 => ?_)
    replace eI3 := eI3.symm; subst eI3
    replace eL4 := eL4.symm; subst eL4
    refine x_aald 37 C (b := H + 2 + 38 * ((F + (Z - 1)) % 4)) (j := ((F + (Z - 1)) % 4)) dX4_takeBack_37 (by decide) hH.2.1 (xIx_nI (by omega) (by decide)) (if_pos (by omega)) ?_
    refine x_callVp 38 C dX4_takeBack_38 (As := [.ref (H + 2 + 38 * ((F + (Z - 1)) % 4))]) (rest := []) (t_X9_copy l D z n G I2 L S (H + 2 + 38 * ((F + (Z - 1)) % 4)) hS (hH.2.2 ((F + (Z - 1)) % 4) (by omega)) (by omega) (by first | omega | assumption | decide)) mt_X9_copy km_X4_29 ki_X9_copy ks_X9_copy hS.1 ⟨by decide, rfl⟩ rfl (Nat.le_of_ble_eq_true rfl) ⟨⟨by decide, by decide⟩, by decide, by decide⟩ (fun w5 I6 L7 hw5 => ?_)
    obtain ⟨hw5v, hw5r0, hw5r1, hw5r2⟩ := hw5
    subst hw5v
    refine x_st [] rfl ?_
    refine x_iconst 41 C (v := 1) dX4_takeBack_41 rfl ?_
    refine x_iret 42 C dX4_takeBack_42 rfl rfl (Nat.le_refl _) (xN.intro ?_)
    refine ⟨by rw [if_neg c1n], fun h => absurd h c1n, fun _ => ⟨?_, ?_, ?_, fun q h1 h2 => ?_⟩, fun q h2 => hw5r2 q h2, fun h => absurd h c1n⟩
    · rw [hw5r1 _ (by omega), eI2, xup_ne _ _ (by omega)]
    · rw [hw5r1 _ (by omega), eI2, xup_self]
    · exact stEq_congr (fun q h1 h2 => by rw [eI2, xup_row _ _ (by omega)]) (fun _ _ _ => rfl) hw5r0
    · rw [hw5r1 _ (by omega), eI2, xup_row _ _ h1]
  · skip
    have c1n : Z = 0 := (nI_eq (a := Z) (b := 0) (by omega) (by omega)).mp c1
    refine x_iconst 7 C (v := 0) dX4_takeBack_7 rfl ?_
    refine x_iret 8 C dX4_takeBack_8 rfl rfl (Nat.le_refl _) (xN.intro ?_)
    refine ⟨by rw [if_pos c1n], fun _ => rfl, fun h => absurd c1n h, fun _ _ => rfl, fun _ => rfl⟩
