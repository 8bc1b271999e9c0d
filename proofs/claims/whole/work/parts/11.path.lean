/-! PathTracker$Path: contracts. A Path at a: its Complexes at a + 1, a + 2; status 2, place 3, step 4, greatest step 5, precision 6, good 7, failed 8, row 9. -/
def rPath (a : Nat) : Nat → Option Nat := va_up (va_up rN 0 (some (a + 1))) 1 (some (a + 2))
def shP (G : xG) (a : Nat) : Prop := G a = some (6, 0, rPath a) ∧ G (a + 1) = some (0, 0, rN) ∧ G (a + 2) = some (0, 0, rN)
def punit (pr : Int32) : Int64 := if pr = 18 then 262144 else 1024
/-- a part's value before it is told in thousandths -/
def pval (L : xL) (a j : Nat) : Int64 := if j = 0 then L (a + 1) 0 else if j = 1 then L (a + 1) 1 else if j = 2 then L (a + 2) 0 else L (a + 2) 1
def ppart (I : xI) (L : xL) (a j : Nat) : Int32 := cthou (pval L a j) (punit (I a 6))
def iabs (x : Int32) : Int32 := if 0 ≤ x then x else 0 - x
def labs (x : Int64) : Int64 := if 0 < x then x else -x
def imin (x y : Int32) : Int32 := if y < x then y else x
def pBegin (I : xI) (a : Nat) (s g : Int32) : xI := xup (xup (xup (xup (xup (xup (xup (xup I a 2 0) a 3 0) a 5 g) a 4 (imin s g)) a 6 10) a 7 0) a 8 0) a 9 0
def rootC (dg nu : Int32) (u : Int64) : Int64 × Int64 := if nu = 0 then (u, 0) else if dg = 2 then (-u, 0) else (-(u / 2), if nu = 1 then 866025404 * u / 1000000000 else -(866025404 * u / 1000000000))
def rootL (L : xL) (a : Nat) (dg nu : Int32) (u : Int64) : xL := cput L a (held (rootC dg nu u).1) (held (rootC dg nu u).2)
def pCopyI (I : xI) (a b : Nat) : xI := xup (xup (xup (xup (xup (xup (xup (xup I a 2 (I b 2)) a 3 (I b 3)) a 4 (I b 4)) a 5 (I b 5)) a 6 (I b 6)) a 7 (I b 7)) a 8 (I b 8)) a 9 (I b 9)
def pNear (I : xI) (L : xL) (a b : Nat) (w : Int32) (j : Nat) : Bool := decide (labs ((ppart I L a j).toInt64 - (ppart I L b j).toInt64) ≤ w.toInt64)
def pNears (I : xI) (L : xL) (a b : Nat) (w : Int32) : Bool := pNear I L a b w 0 && (pNear I L a b w 1 && (pNear I L a b w 2 && pNear I L a b w 3))
def bI (b : Bool) : Int32 := if b then 1 else 0
def icmp (x y : Int32) : Int32 := if x < y then -1 else if x = y then 0 else 1
def pCmp (I : xI) (L : xL) (a b : Nat) : Int32 := if icmp (ppart I L a 0) (ppart I L b 0) ≠ 0 then icmp (ppart I L a 0) (ppart I L b 0) else if icmp (ppart I L a 1) (ppart I L b 1) ≠ 0 then icmp (ppart I L a 1) (ppart I L b 1) else if icmp (ppart I L a 2) (ppart I L b 2) ≠ 0 then icmp (ppart I L a 2) (ppart I L b 2) else icmp (ppart I L a 3) (ppart I L b 3)
def lmax (x y : Int64) : Int64 := if y < x then x else y
def pMove1 (I : xI) (a : Nat) (h : Int32) : xI := xup (xup (xup I a 3 (I a 3 + h)) a 7 (I a 7 + 1)) a 9 (I a 9 + 1)
def pMove2 (I : xI) (a : Nat) (h : Int32) : xI := if I a 9 + 1 < 3 then pMove1 I a h else xup (xup (pMove1 I a h) a 9 0) a 4 (imin (I a 4 * 2) (I a 5))
/-- the fields behind a good try of h to a point of size m, with bound and unit -/
def pMoveI (I : xI) (a : Nat) (h bo : Int32) (m : Int64) : xI := if m ≤ bo.toInt64 * punit (I a 6) then (if I a 3 + h < 1024 then pMove2 I a h else xup (pMove2 I a h) a 2 1) else xup (pMove2 I a h) a 2 2
/-- the fields behind a failed try -/
def pFail1 (I : xI) (a : Nat) : xI := xup (xup I a 8 (I a 8 + 1)) a 9 0
def pFailI (I : xI) (a : Nat) (s : Int32) : xI := if I a 4 ≤ 1 then (if I a 6 = 10 then xup (xup (pFail1 I a) a 6 18) a 4 (imin s (I a 5)) else xup (pFail1 I a) a 2 3) else xup (pFail1 I a) a 4 (I a 4 / 2)
def pFailL (I : xI) (L : xL) (a : Nat) : xL := if I a 4 ≤ 1 ∧ I a 6 = 10 then cput (cput L (a + 1) (held (L (a + 1) 0 * 256)) (held (L (a + 1) 1 * 256))) (a + 2) (held (L (a + 2) 0 * 256)) (held (L (a + 2) 1 * 256)) else L
theorem cput_ne (L : xL) {a q : Nat} (x y : Int64) (h : q ≠ a) : cput L a x y q = L q := by funext j; simp [cput, xup, h]
theorem cput_0 (L : xL) (a : Nat) (x y : Int64) : cput L a x y a 0 = x := by simp [cput, xup]
theorem cput_1 (L : xL) (a : Nat) (x y : Int64) : cput L a x y a 1 = y := by simp [cput, xup]
theorem dX6_begin_0 : decode cX6_begin 0 = .ok (.aload_n 0, 1) := by decide +kernel
theorem dX6_begin_1 : decode cX6_begin 1 = .ok (.iconst 0, 1) := by decide +kernel
theorem dX6_begin_2 : decode cX6_begin 2 = .ok (.putfield 19, 3) := by decide +kernel
theorem dX6_begin_5 : decode cX6_begin 5 = .ok (.aload_n 0, 1) := by decide +kernel
theorem dX6_begin_6 : decode cX6_begin 6 = .ok (.iconst 0, 1) := by decide +kernel
theorem dX6_begin_7 : decode cX6_begin 7 = .ok (.putfield 23, 3) := by decide +kernel
theorem dX6_begin_10 : decode cX6_begin 10 = .ok (.aload_n 0, 1) := by decide +kernel
theorem dX6_begin_11 : decode cX6_begin 11 = .ok (.iload_n 2, 1) := by decide +kernel
theorem dX6_begin_12 : decode cX6_begin 12 = .ok (.putfield 26, 3) := by decide +kernel
theorem dX6_begin_15 : decode cX6_begin 15 = .ok (.aload_n 0, 1) := by decide +kernel
theorem dX6_begin_16 : decode cX6_begin 16 = .ok (.iload_n 1, 1) := by decide +kernel
theorem dX6_begin_17 : decode cX6_begin 17 = .ok (.iload_n 2, 1) := by decide +kernel
theorem dX6_begin_18 : decode cX6_begin 18 = .ok (.invokestatic 29, 3) := by decide +kernel
theorem dX6_begin_21 : decode cX6_begin 21 = .ok (.putfield 35, 3) := by decide +kernel
theorem dX6_begin_24 : decode cX6_begin 24 = .ok (.aload_n 0, 1) := by decide +kernel
theorem dX6_begin_25 : decode cX6_begin 25 = .ok (.bipush 10, 2) := by decide +kernel
theorem dX6_begin_27 : decode cX6_begin 27 = .ok (.putfield 38, 3) := by decide +kernel
theorem dX6_begin_30 : decode cX6_begin 30 = .ok (.aload_n 0, 1) := by decide +kernel
theorem dX6_begin_31 : decode cX6_begin 31 = .ok (.iconst 0, 1) := by decide +kernel
theorem dX6_begin_32 : decode cX6_begin 32 = .ok (.putfield 41, 3) := by decide +kernel
theorem dX6_begin_35 : decode cX6_begin 35 = .ok (.aload_n 0, 1) := by decide +kernel
theorem dX6_begin_36 : decode cX6_begin 36 = .ok (.iconst 0, 1) := by decide +kernel
theorem dX6_begin_37 : decode cX6_begin 37 = .ok (.putfield 44, 3) := by decide +kernel
theorem dX6_begin_40 : decode cX6_begin 40 = .ok (.aload_n 0, 1) := by decide +kernel
theorem dX6_begin_41 : decode cX6_begin 41 = .ok (.iconst 0, 1) := by decide +kernel
theorem dX6_begin_42 : decode cX6_begin 42 = .ok (.putfield 47, 3) := by decide +kernel
theorem dX6_begin_45 : decode cX6_begin 45 = .ok (.return_, 1) := by decide +kernel
set_option maxHeartbeats 4000000 in
set_option maxRecDepth 100000 in
theorem t_X6_begin (l : Launch) (D : xD) (z n : Nat) (G : xG) (I : xI) (L : xL) (a : Nat) (s0 : Int32) (g0 : Int32) (hP : shP G a) (za : z ≤ a) : xM0 l D z yX6_begin cX6_begin 3 none 1 23 [.ref a, .int s0, .int g0] n G I L (xE none (pBegin I a s0 g0) L) := by
  refine xM.of (by decide) (Nat.le_of_ble_eq_true rfl) (fun p e s m args below meth c C hnm hsz => ?_)
  refine x_lv [(0, .ref a), (1, .int s0), (2, .int g0)] rfl ?_
  refine x_aload_n 0 C dX6_begin_0 rfl 0 rfl ?_
  refine x_iconst 1 C (v := 0) dX6_begin_1 rfl ?_
  refine x_puti 2 C dX6_begin_2 ff_X6_19 rfl hP.1 (by omega) (fun I1 eI1 => ?_)
  refine x_aload_n 5 C dX6_begin_5 rfl 0 rfl ?_
  refine x_iconst 6 C (v := 0) dX6_begin_6 rfl ?_
  refine x_puti 7 C dX6_begin_7 ff_X6_23 rfl hP.1 (by omega) (fun I2 eI2 => ?_)
  refine x_aload_n 10 C dX6_begin_10 rfl 0 rfl ?_
  refine x_iload_n 11 C dX6_begin_11 rfl 2 rfl ?_
  refine x_puti 12 C dX6_begin_12 ff_X6_26 rfl hP.1 (by omega) (fun I3 eI3 => ?_)
  refine x_aload_n 15 C dX6_begin_15 rfl 0 rfl ?_
  refine x_iload_n 16 C dX6_begin_16 rfl 1 rfl ?_
  refine x_iload_n 17 C dX6_begin_17 rfl 2 rfl ?_
  refine x_mmin 18 C dX6_begin_18 km_X6_29 kt_J9_min_7cf53 kn_J9 kc_J9_min_7cf53 ⟨by decide, Nat.le_of_ble_eq_true rfl, by decide, by decide⟩ ?_
  refine x_int (imin s0 g0) rfl ?_
  refine x_puti 21 C dX6_begin_21 ff_X6_35 rfl hP.1 (by omega) (fun I4 eI4 => ?_)
  refine x_aload_n 24 C dX6_begin_24 rfl 0 rfl ?_
  refine x_bipush 25 C (v := 10) dX6_begin_25 rfl ?_
  refine x_puti 27 C dX6_begin_27 ff_X6_38 rfl hP.1 (by omega) (fun I5 eI5 => ?_)
  refine x_aload_n 30 C dX6_begin_30 rfl 0 rfl ?_
  refine x_iconst 31 C (v := 0) dX6_begin_31 rfl ?_
  refine x_puti 32 C dX6_begin_32 ff_X6_41 rfl hP.1 (by omega) (fun I6 eI6 => ?_)
  refine x_aload_n 35 C dX6_begin_35 rfl 0 rfl ?_
  refine x_iconst 36 C (v := 0) dX6_begin_36 rfl ?_
  refine x_puti 37 C dX6_begin_37 ff_X6_44 rfl hP.1 (by omega) (fun I7 eI7 => ?_)
  refine x_aload_n 40 C dX6_begin_40 rfl 0 rfl ?_
  refine x_iconst 41 C (v := 0) dX6_begin_41 rfl ?_
  refine x_puti 42 C dX6_begin_42 ff_X6_47 rfl hP.1 (by omega) (fun I8 eI8 => ?_)
  refine x_vret 45 C dX6_begin_45 rfl (Nat.le_refl _) (xN.intro ?_)
  subst eI1; subst eI2; subst eI3; subst eI4; subst eI5; subst eI6; subst eI7; subst eI8
  refine ⟨rfl, ?_, rfl⟩
  rfl
theorem dX6_unit_0 : decode cX6_unit 0 = .ok (.aload_n 0, 1) := by decide +kernel
theorem dX6_unit_1 : decode cX6_unit 1 = .ok (.getfield 38, 3) := by decide +kernel
theorem dX6_unit_4 : decode cX6_unit 4 = .ok (.bipush 18, 2) := by decide +kernel
theorem dX6_unit_6 : decode cX6_unit 6 = .ok (.if_icmp .ne 9, 3) := by decide +kernel
theorem dX6_unit_9 : decode cX6_unit 9 = .ok (.ldc2_w 72, 3) := by decide +kernel
theorem dX6_unit_12 : decode cX6_unit 12 = .ok (.goto 6, 3) := by decide +kernel
theorem dX6_unit_15 : decode cX6_unit 15 = .ok (.ldc2_w 74, 3) := by decide +kernel
theorem dX6_unit_18 : decode cX6_unit 18 = .ok (.lreturn, 1) := by decide +kernel
set_option maxHeartbeats 4000000 in
set_option maxRecDepth 100000 in
theorem t_X6_unit (l : Launch) (D : xD) (z n : Nat) (G : xG) (I : xI) (L : xL) (a : Nat) (hP : shP G a) : xM0 l D z yX6_unit cX6_unit 1 (some .long) 0 0 [.ref a] n G I L (xE (some (.long (punit (I a 6)))) I L) := by
  refine xM.of (by decide) (Nat.le_of_ble_eq_true rfl) (fun p e s m args below meth c C hnm hsz => ?_)
  refine x_lv [(0, .ref a)] rfl ?_
  refine x_aload_n 0 C dX6_unit_0 rfl 0 rfl ?_
  refine x_geti 1 C dX6_unit_1 ff_X6_38 hP.1 ?_
  refine x_bipush 4 C (v := 18) dX6_unit_4 rfl ?_
  refine x_icmp_ne 6 C 15 dX6_unit_6 (by decide) (fun c1 => ?_) (fun c1 => ?_)
  · skip
    refine x_ldc2 15 C 1024 dX6_unit_15 kk_X6_74 ?_
    refine x_lret 18 C dX6_unit_18 rfl (Nat.le_refl _) (xN.intro ?_)
    skip
    refine ⟨?_, rfl, rfl⟩
    simp [punit, c1]
  · skip
    refine x_ldc2 9 C 262144 dX6_unit_9 kk_X6_72 ?_
    refine x_goto 12 C 18 dX6_unit_12 (by decide) ?_
    refine x_lret 18 C dX6_unit_18 rfl (Nat.le_refl _) (xN.intro ?_)
    skip
    refine ⟨?_, rfl, rfl⟩
    simp [punit, c1]
theorem dX6_putRootOfOne_0 : decode cX6_putRootOfOne 0 = .ok (.iload_n 2, 1) := by decide +kernel
theorem dX6_putRootOfOne_1 : decode cX6_putRootOfOne 1 = .ok (.ifCond .ne 12, 3) := by decide +kernel
theorem dX6_putRootOfOne_4 : decode cX6_putRootOfOne 4 = .ok (.aload_n 0, 1) := by decide +kernel
theorem dX6_putRootOfOne_5 : decode cX6_putRootOfOne 5 = .ok (.lload_n 3, 1) := by decide +kernel
theorem dX6_putRootOfOne_6 : decode cX6_putRootOfOne 6 = .ok (.lconst 0, 1) := by decide +kernel
theorem dX6_putRootOfOne_7 : decode cX6_putRootOfOne 7 = .ok (.invokevirtual 58, 3) := by decide +kernel
theorem dX6_putRootOfOne_10 : decode cX6_putRootOfOne 10 = .ok (.goto 52, 3) := by decide +kernel
theorem dX6_putRootOfOne_13 : decode cX6_putRootOfOne 13 = .ok (.iload_n 1, 1) := by decide +kernel
theorem dX6_putRootOfOne_14 : decode cX6_putRootOfOne 14 = .ok (.iconst 2, 1) := by decide +kernel
theorem dX6_putRootOfOne_15 : decode cX6_putRootOfOne 15 = .ok (.if_icmp .ne 13, 3) := by decide +kernel
theorem dX6_putRootOfOne_18 : decode cX6_putRootOfOne 18 = .ok (.aload_n 0, 1) := by decide +kernel
theorem dX6_putRootOfOne_19 : decode cX6_putRootOfOne 19 = .ok (.lload_n 3, 1) := by decide +kernel
theorem dX6_putRootOfOne_20 : decode cX6_putRootOfOne 20 = .ok (.lneg, 1) := by decide +kernel
theorem dX6_putRootOfOne_21 : decode cX6_putRootOfOne 21 = .ok (.lconst 0, 1) := by decide +kernel
theorem dX6_putRootOfOne_22 : decode cX6_putRootOfOne 22 = .ok (.invokevirtual 58, 3) := by decide +kernel
theorem dX6_putRootOfOne_25 : decode cX6_putRootOfOne 25 = .ok (.goto 37, 3) := by decide +kernel
theorem dX6_putRootOfOne_28 : decode cX6_putRootOfOne 28 = .ok (.ldc2_w 62, 3) := by decide +kernel
theorem dX6_putRootOfOne_31 : decode cX6_putRootOfOne 31 = .ok (.lload_n 3, 1) := by decide +kernel
theorem dX6_putRootOfOne_32 : decode cX6_putRootOfOne 32 = .ok (.lmul, 1) := by decide +kernel
theorem dX6_putRootOfOne_33 : decode cX6_putRootOfOne 33 = .ok (.ldc2_w 64, 3) := by decide +kernel
theorem dX6_putRootOfOne_36 : decode cX6_putRootOfOne 36 = .ok (.ldiv, 1) := by decide +kernel
theorem dX6_putRootOfOne_37 : decode cX6_putRootOfOne 37 = .ok (.lstore 5, 2) := by decide +kernel
theorem dX6_putRootOfOne_39 : decode cX6_putRootOfOne 39 = .ok (.aload_n 0, 1) := by decide +kernel
theorem dX6_putRootOfOne_40 : decode cX6_putRootOfOne 40 = .ok (.lload_n 3, 1) := by decide +kernel
theorem dX6_putRootOfOne_41 : decode cX6_putRootOfOne 41 = .ok (.ldc2_w 66, 3) := by decide +kernel
theorem dX6_putRootOfOne_44 : decode cX6_putRootOfOne 44 = .ok (.ldiv, 1) := by decide +kernel
theorem dX6_putRootOfOne_45 : decode cX6_putRootOfOne 45 = .ok (.lneg, 1) := by decide +kernel
theorem dX6_putRootOfOne_46 : decode cX6_putRootOfOne 46 = .ok (.iload_n 2, 1) := by decide +kernel
theorem dX6_putRootOfOne_47 : decode cX6_putRootOfOne 47 = .ok (.iconst 1, 1) := by decide +kernel
theorem dX6_putRootOfOne_48 : decode cX6_putRootOfOne 48 = .ok (.if_icmp .ne 8, 3) := by decide +kernel
theorem dX6_putRootOfOne_51 : decode cX6_putRootOfOne 51 = .ok (.lload 5, 2) := by decide +kernel
theorem dX6_putRootOfOne_53 : decode cX6_putRootOfOne 53 = .ok (.goto 6, 3) := by decide +kernel
theorem dX6_putRootOfOne_56 : decode cX6_putRootOfOne 56 = .ok (.lload 5, 2) := by decide +kernel
theorem dX6_putRootOfOne_58 : decode cX6_putRootOfOne 58 = .ok (.lneg, 1) := by decide +kernel
theorem dX6_putRootOfOne_59 : decode cX6_putRootOfOne 59 = .ok (.invokevirtual 58, 3) := by decide +kernel
theorem dX6_putRootOfOne_62 : decode cX6_putRootOfOne 62 = .ok (.return_, 1) := by decide +kernel
set_option maxHeartbeats 4000000 in
set_option maxRecDepth 100000 in
theorem t_X6_putRootOfOne (l : Launch) (D : xD) (z n : Nat) (G : xG) (I : xI) (L : xL) (a : Nat) (dg : Int32) (nu : Int32) (u : Int64) (ga : G a = some (0, 0, rN)) (za : z ≤ a) : xM0 l D z yX6_putRootOfOne cX6_putRootOfOne 7 none 1 24 [.ref a, .int dg, .int nu, .long u] n G I L (xE none I (rootL L a dg nu u)) := by
  refine xM.of (by decide) (Nat.le_of_ble_eq_true rfl) (fun p e s m args below meth c C hnm hsz => ?_)
  refine x_lv [(0, .ref a), (1, .int dg), (2, .int nu), (3, .long u)] rfl ?_
  refine x_iload_n 0 C dX6_putRootOfOne_0 rfl 2 rfl ?_
  refine x_if_ne 1 C 13 dX6_putRootOfOne_1 (by decide) (fun c1 => ?_) (fun c1 => ?_)
  · skip
    refine x_iload_n 13 C dX6_putRootOfOne_13 rfl 1 rfl ?_
    refine x_iconst 14 C (v := 2) dX6_putRootOfOne_14 rfl ?_
    refine x_icmp_ne 15 C 28 dX6_putRootOfOne_15 (by decide) (fun c2 => ?_) (fun c2 => ?_)
    · skip
      refine x_ldc2 28 C 866025404 dX6_putRootOfOne_28 kk_X6_62 ?_
      refine x_lload_n 31 C dX6_putRootOfOne_31 rfl 3 rfl ?_
      refine x_lmul 32 C dX6_putRootOfOne_32 ?_
      refine x_ldc2 33 C 1000000000 dX6_putRootOfOne_33 kk_X6_64 ?_
      refine x_ldiv 36 C dX6_putRootOfOne_36 (by first | assumption | decide) ?_
      refine x_topl (fun v3 ev3 => ?_)
      refine x_lstore 37 C [(5, .long v3), (0, .ref a), (1, .int dg), (2, .int nu), (3, .long u)] dX6_putRootOfOne_37 (by decide) rfl ?_
      refine x_aload_n 39 C dX6_putRootOfOne_39 rfl 1 rfl ?_
      refine x_lload_n 40 C dX6_putRootOfOne_40 rfl 4 rfl ?_
      refine x_ldc2 41 C 2 dX6_putRootOfOne_41 kk_X6_66 ?_
      refine x_ldiv 44 C dX6_putRootOfOne_44 (by first | assumption | decide) ?_
      refine x_lneg 45 C dX6_putRootOfOne_45 ?_
      refine x_iload_n 46 C dX6_putRootOfOne_46 rfl 3 rfl ?_
      refine x_iconst 47 C (v := 1) dX6_putRootOfOne_47 rfl ?_
      refine x_icmp_ne 48 C 56 dX6_putRootOfOne_48 (by decide) (fun c4 => ?_) (fun c4 => ?_)
      · skip
        refine x_lload 56 C dX6_putRootOfOne_56 0 rfl ?_
        refine x_lneg 58 C dX6_putRootOfOne_58 ?_
        refine x_callVe 59 C dX6_putRootOfOne_59 (As := [.long (-(u / 2)), .long (-v3)]) (rest := []) [] (t_X0_put l D z n G I L a (-(u / 2)) (-v3) ga (by omega)) mt_X0_put km_X6_58 ki_X0_put ks_X0_put ga ⟨by decide, rfl⟩ rfl rfl (Nat.le_of_ble_eq_true rfl) ⟨⟨by decide, by decide⟩, by decide, by decide⟩ (fun I5 L6 eI5 eL6 => ?_)
        replace eI5 := eI5.symm; subst eI5
        refine x_vret 62 C dX6_putRootOfOne_62 rfl (Nat.le_refl _) (xN.intro ?_)
        subst ev3; subst eL6
        refine ⟨rfl, rfl, ?_⟩
        simp [rootL, rootC, c1, c2, c4]
      · skip
        refine x_lload 51 C dX6_putRootOfOne_51 0 rfl ?_
        refine x_goto 53 C 59 dX6_putRootOfOne_53 (by decide) ?_
        refine x_callVe 59 C dX6_putRootOfOne_59 (As := [.long (-(u / 2)), .long v3]) (rest := []) [] (t_X0_put l D z n G I L a (-(u / 2)) v3 ga (by omega)) mt_X0_put km_X6_58 ki_X0_put ks_X0_put ga ⟨by decide, rfl⟩ rfl rfl (Nat.le_of_ble_eq_true rfl) ⟨⟨by decide, by decide⟩, by decide, by decide⟩ (fun I7 L8 eI7 eL8 => ?_)
        replace eI7 := eI7.symm; subst eI7
        refine x_vret 62 C dX6_putRootOfOne_62 rfl (Nat.le_refl _) (xN.intro ?_)
        subst ev3; subst eL8
        refine ⟨rfl, rfl, ?_⟩
        simp [rootL, rootC, c1, c2, c4]
    · skip
      refine x_aload_n 18 C dX6_putRootOfOne_18 rfl 0 rfl ?_
      refine x_lload_n 19 C dX6_putRootOfOne_19 rfl 3 rfl ?_
      refine x_lneg 20 C dX6_putRootOfOne_20 ?_
      refine x_lconst 21 C (v := 0) dX6_putRootOfOne_21 rfl ?_
      refine x_callVe 22 C dX6_putRootOfOne_22 (As := [.long (-u), .long 0]) (rest := []) [] (t_X0_put l D z n G I L a (-u) 0 ga (by omega)) mt_X0_put km_X6_58 ki_X0_put ks_X0_put ga ⟨by decide, rfl⟩ rfl rfl (Nat.le_of_ble_eq_true rfl) ⟨⟨by decide, by decide⟩, by decide, by decide⟩ (fun I9 L10 eI9 eL10 => ?_)
      replace eI9 := eI9.symm; subst eI9
      refine x_goto 25 C 62 dX6_putRootOfOne_25 (by decide) ?_
      refine x_vret 62 C dX6_putRootOfOne_62 rfl (Nat.le_refl _) (xN.intro ?_)
      subst eL10
      refine ⟨rfl, rfl, ?_⟩
      simp [rootL, rootC, c1, c2]
  · skip
    refine x_aload_n 4 C dX6_putRootOfOne_4 rfl 0 rfl ?_
    refine x_lload_n 5 C dX6_putRootOfOne_5 rfl 3 rfl ?_
    refine x_lconst 6 C (v := 0) dX6_putRootOfOne_6 rfl ?_
    refine x_callVe 7 C dX6_putRootOfOne_7 (As := [.long u, .long 0]) (rest := []) [] (t_X0_put l D z n G I L a u 0 ga (by omega)) mt_X0_put km_X6_58 ki_X0_put ks_X0_put ga ⟨by decide, rfl⟩ rfl rfl (Nat.le_of_ble_eq_true rfl) ⟨⟨by decide, by decide⟩, by decide, by decide⟩ (fun I11 L12 eI11 eL12 => ?_)
    replace eI11 := eI11.symm; subst eI11
    refine x_goto 10 C 62 dX6_putRootOfOne_10 (by decide) ?_
    refine x_vret 62 C dX6_putRootOfOne_62 rfl (Nat.le_refl _) (xN.intro ?_)
    subst eL12
    refine ⟨rfl, rfl, ?_⟩
    simp [rootL, rootC, c1]
theorem dX6_putOnRoots_0 : decode cX6_putOnRoots 0 = .ok (.aload_n 0, 1) := by decide +kernel
theorem dX6_putOnRoots_1 : decode cX6_putOnRoots 1 = .ok (.getfield 10, 3) := by decide +kernel
theorem dX6_putOnRoots_4 : decode cX6_putOnRoots 4 = .ok (.iload_n 1, 1) := by decide +kernel
theorem dX6_putOnRoots_5 : decode cX6_putOnRoots 5 = .ok (.iload_n 2, 1) := by decide +kernel
theorem dX6_putOnRoots_6 : decode cX6_putOnRoots 6 = .ok (.aload_n 0, 1) := by decide +kernel
theorem dX6_putOnRoots_7 : decode cX6_putOnRoots 7 = .ok (.invokevirtual 50, 3) := by decide +kernel
theorem dX6_putOnRoots_10 : decode cX6_putOnRoots 10 = .ok (.invokestatic 54, 3) := by decide +kernel
theorem dX6_putOnRoots_13 : decode cX6_putOnRoots 13 = .ok (.aload_n 0, 1) := by decide +kernel
theorem dX6_putOnRoots_14 : decode cX6_putOnRoots 14 = .ok (.getfield 16, 3) := by decide +kernel
theorem dX6_putOnRoots_17 : decode cX6_putOnRoots 17 = .ok (.iload_n 3, 1) := by decide +kernel
theorem dX6_putOnRoots_18 : decode cX6_putOnRoots 18 = .ok (.iload 4, 2) := by decide +kernel
theorem dX6_putOnRoots_20 : decode cX6_putOnRoots 20 = .ok (.aload_n 0, 1) := by decide +kernel
theorem dX6_putOnRoots_21 : decode cX6_putOnRoots 21 = .ok (.invokevirtual 50, 3) := by decide +kernel
theorem dX6_putOnRoots_24 : decode cX6_putOnRoots 24 = .ok (.invokestatic 54, 3) := by decide +kernel
theorem dX6_putOnRoots_27 : decode cX6_putOnRoots 27 = .ok (.return_, 1) := by decide +kernel
set_option maxHeartbeats 4000000 in
set_option maxRecDepth 100000 in
theorem t_X6_putOnRoots (l : Launch) (D : xD) (z n : Nat) (G : xG) (I : xI) (L : xL) (a : Nat) (d1 : Int32) (n1 : Int32) (d2 : Int32) (n2 : Int32) (hP : shP G a) (za : z ≤ a) : xM0 l D z yX6_putOnRoots cX6_putOnRoots 5 none 2 50 [.ref a, .int d1, .int n1, .int d2, .int n2] n G I L (xE none I (rootL (rootL L (a + 1) d1 n1 (punit (I a 6))) (a + 2) d2 n2 (punit (I a 6)))) := by
  refine xM.of (by decide) (Nat.le_of_ble_eq_true rfl) (fun p e s m args below meth c C hnm hsz => ?_)
  refine x_lv [(0, .ref a), (1, .int d1), (2, .int n1), (3, .int d2), (4, .int n2)] rfl ?_
  refine x_aload_n 0 C dX6_putOnRoots_0 rfl 0 rfl ?_
  refine x_getr 1 C (b := a + 1) dX6_putOnRoots_1 ff_X6_10 rfl hP.1 rfl ?_
  refine x_iload_n 4 C dX6_putOnRoots_4 rfl 1 rfl ?_
  refine x_iload_n 5 C dX6_putOnRoots_5 rfl 2 rfl ?_
  refine x_aload_n 6 C dX6_putOnRoots_6 rfl 0 rfl ?_
  refine x_callVe 7 C dX6_putOnRoots_7 (As := []) (rest := [.int n1, .int d1, .ref (a + 1)]) [.long (punit (I a 6)), .int n1, .int d1, .ref (a + 1)] (t_X6_unit l D z n G I L a hP) mt_X6_unit km_X6_50 ki_X6_unit ks_X6_unit hP.1 ⟨by decide, rfl⟩ rfl rfl (Nat.le_of_ble_eq_true rfl) ⟨⟨by decide, by decide⟩, by decide, by decide⟩ (fun I1 L2 eI1 eL2 => ?_)
  replace eI1 := eI1.symm; subst eI1
  replace eL2 := eL2.symm; subst eL2
  refine x_callSe 10 C dX6_putOnRoots_10 (As := [.ref (a + 1), .int d1, .int n1, .long (punit (I a 6))]) (rest := []) [] (t_X6_putRootOfOne l D z n G I L (a + 1) d1 n1 (punit (I a 6)) hP.2.1 (by omega)) mt_X6_putRootOfOne km_X6_54 kt_X6_putRootOfOne rfl rfl (Nat.le_of_ble_eq_true rfl) ⟨⟨by decide, by decide⟩, by decide, by decide⟩ (fun I3 L4 eI3 eL4 => ?_)
  replace eI3 := eI3.symm; subst eI3
  refine x_aload_n 13 C dX6_putOnRoots_13 rfl 0 rfl ?_
  refine x_getr 14 C (b := a + 2) dX6_putOnRoots_14 ff_X6_16 rfl hP.1 rfl ?_
  refine x_iload_n 17 C dX6_putOnRoots_17 rfl 3 rfl ?_
  refine x_iload 18 C dX6_putOnRoots_18 4 rfl ?_
  refine x_aload_n 20 C dX6_putOnRoots_20 rfl 0 rfl ?_
  refine x_callVe 21 C dX6_putOnRoots_21 (As := []) (rest := [.int n2, .int d2, .ref (a + 2)]) [.long (punit (I a 6)), .int n2, .int d2, .ref (a + 2)] (t_X6_unit l D z n G I L4 a hP) mt_X6_unit km_X6_50 ki_X6_unit ks_X6_unit hP.1 ⟨by decide, rfl⟩ rfl rfl (Nat.le_of_ble_eq_true rfl) ⟨⟨by decide, by decide⟩, by decide, by decide⟩ (fun I5 L6 eI5 eL6 => ?_)
  replace eI5 := eI5.symm; subst eI5
  replace eL6 := eL6.symm; subst eL6
  refine x_callSe 24 C dX6_putOnRoots_24 (As := [.ref (a + 2), .int d2, .int n2, .long (punit (I a 6))]) (rest := []) [] (t_X6_putRootOfOne l D z n G I L4 (a + 2) d2 n2 (punit (I a 6)) hP.2.2 (by omega)) mt_X6_putRootOfOne km_X6_54 kt_X6_putRootOfOne rfl rfl (Nat.le_of_ble_eq_true rfl) ⟨⟨by decide, by decide⟩, by decide, by decide⟩ (fun I7 L8 eI7 eL8 => ?_)
  replace eI7 := eI7.symm; subst eI7
  refine x_vret 27 C dX6_putOnRoots_27 rfl (Nat.le_refl _) (xN.intro ?_)
  subst eL4; subst eL8
  exact ⟨rfl, rfl, rfl⟩
theorem dX6_copy_0 : decode cX6_copy 0 = .ok (.aload_n 0, 1) := by decide +kernel
theorem dX6_copy_1 : decode cX6_copy 1 = .ok (.getfield 10, 3) := by decide +kernel
theorem dX6_copy_4 : decode cX6_copy 4 = .ok (.aload_n 1, 1) := by decide +kernel
theorem dX6_copy_5 : decode cX6_copy 5 = .ok (.getfield 10, 3) := by decide +kernel
theorem dX6_copy_8 : decode cX6_copy 8 = .ok (.invokevirtual 68, 3) := by decide +kernel
theorem dX6_copy_11 : decode cX6_copy 11 = .ok (.aload_n 0, 1) := by decide +kernel
theorem dX6_copy_12 : decode cX6_copy 12 = .ok (.getfield 16, 3) := by decide +kernel
theorem dX6_copy_15 : decode cX6_copy 15 = .ok (.aload_n 1, 1) := by decide +kernel
theorem dX6_copy_16 : decode cX6_copy 16 = .ok (.getfield 16, 3) := by decide +kernel
theorem dX6_copy_19 : decode cX6_copy 19 = .ok (.invokevirtual 68, 3) := by decide +kernel
theorem dX6_copy_22 : decode cX6_copy 22 = .ok (.aload_n 0, 1) := by decide +kernel
theorem dX6_copy_23 : decode cX6_copy 23 = .ok (.aload_n 1, 1) := by decide +kernel
theorem dX6_copy_24 : decode cX6_copy 24 = .ok (.getfield 19, 3) := by decide +kernel
theorem dX6_copy_27 : decode cX6_copy 27 = .ok (.putfield 19, 3) := by decide +kernel
theorem dX6_copy_30 : decode cX6_copy 30 = .ok (.aload_n 0, 1) := by decide +kernel
theorem dX6_copy_31 : decode cX6_copy 31 = .ok (.aload_n 1, 1) := by decide +kernel
theorem dX6_copy_32 : decode cX6_copy 32 = .ok (.getfield 23, 3) := by decide +kernel
theorem dX6_copy_35 : decode cX6_copy 35 = .ok (.putfield 23, 3) := by decide +kernel
theorem dX6_copy_38 : decode cX6_copy 38 = .ok (.aload_n 0, 1) := by decide +kernel
theorem dX6_copy_39 : decode cX6_copy 39 = .ok (.aload_n 1, 1) := by decide +kernel
theorem dX6_copy_40 : decode cX6_copy 40 = .ok (.getfield 35, 3) := by decide +kernel
theorem dX6_copy_43 : decode cX6_copy 43 = .ok (.putfield 35, 3) := by decide +kernel
theorem dX6_copy_46 : decode cX6_copy 46 = .ok (.aload_n 0, 1) := by decide +kernel
theorem dX6_copy_47 : decode cX6_copy 47 = .ok (.aload_n 1, 1) := by decide +kernel
theorem dX6_copy_48 : decode cX6_copy 48 = .ok (.getfield 26, 3) := by decide +kernel
theorem dX6_copy_51 : decode cX6_copy 51 = .ok (.putfield 26, 3) := by decide +kernel
theorem dX6_copy_54 : decode cX6_copy 54 = .ok (.aload_n 0, 1) := by decide +kernel
theorem dX6_copy_55 : decode cX6_copy 55 = .ok (.aload_n 1, 1) := by decide +kernel
theorem dX6_copy_56 : decode cX6_copy 56 = .ok (.getfield 38, 3) := by decide +kernel
theorem dX6_copy_59 : decode cX6_copy 59 = .ok (.putfield 38, 3) := by decide +kernel
theorem dX6_copy_62 : decode cX6_copy 62 = .ok (.aload_n 0, 1) := by decide +kernel
theorem dX6_copy_63 : decode cX6_copy 63 = .ok (.aload_n 1, 1) := by decide +kernel
theorem dX6_copy_64 : decode cX6_copy 64 = .ok (.getfield 41, 3) := by decide +kernel
theorem dX6_copy_67 : decode cX6_copy 67 = .ok (.putfield 41, 3) := by decide +kernel
theorem dX6_copy_70 : decode cX6_copy 70 = .ok (.aload_n 0, 1) := by decide +kernel
theorem dX6_copy_71 : decode cX6_copy 71 = .ok (.aload_n 1, 1) := by decide +kernel
theorem dX6_copy_72 : decode cX6_copy 72 = .ok (.getfield 44, 3) := by decide +kernel
theorem dX6_copy_75 : decode cX6_copy 75 = .ok (.putfield 44, 3) := by decide +kernel
theorem dX6_copy_78 : decode cX6_copy 78 = .ok (.aload_n 0, 1) := by decide +kernel
theorem dX6_copy_79 : decode cX6_copy 79 = .ok (.aload_n 1, 1) := by decide +kernel
theorem dX6_copy_80 : decode cX6_copy 80 = .ok (.getfield 47, 3) := by decide +kernel
theorem dX6_copy_83 : decode cX6_copy 83 = .ok (.putfield 47, 3) := by decide +kernel
theorem dX6_copy_86 : decode cX6_copy 86 = .ok (.return_, 1) := by decide +kernel
set_option maxHeartbeats 4000000 in
set_option maxRecDepth 100000 in
theorem t_X6_copy (l : Launch) (D : xD) (z n : Nat) (G : xG) (I : xI) (L : xL) (a : Nat) (b : Nat) (hP : shP G a) (hPb : shP G b) (za : z ≤ a) (hab : b + 2 ≠ a + 1) : xM0 l D z yX6_copy cX6_copy 2 none 1 21 [.ref a, .ref b] n G I L (xE none (pCopyI I a b) (cput (cput L (a + 1) (L (b + 1) 0) (L (b + 1) 1)) (a + 2) (L (b + 2) 0) (L (b + 2) 1))) := by
  refine xM.of (by decide) (Nat.le_of_ble_eq_true rfl) (fun p e s m args below meth c C hnm hsz => ?_)
  refine x_lv [(0, .ref a), (1, .ref b)] rfl ?_
  refine x_aload_n 0 C dX6_copy_0 rfl 0 rfl ?_
  refine x_getr 1 C (b := a + 1) dX6_copy_1 ff_X6_10 rfl hP.1 rfl ?_
  refine x_aload_n 4 C dX6_copy_4 rfl 1 rfl ?_
  refine x_getr 5 C (b := b + 1) dX6_copy_5 ff_X6_10 rfl hPb.1 rfl ?_
  refine x_callVe 8 C dX6_copy_8 (As := [.ref (b + 1)]) (rest := []) [] (t_X0_copy l D z n G I L (a + 1) (b + 1) hP.2.1 hPb.2.1 (by omega)) mt_X0_copy km_X6_68 ki_X0_copy ks_X0_copy hP.2.1 ⟨by decide, rfl⟩ rfl rfl (Nat.le_of_ble_eq_true rfl) ⟨⟨by decide, by decide⟩, by decide, by decide⟩ (fun I1 L2 eI1 eL2 => ?_)
  replace eI1 := eI1.symm; subst eI1
  refine x_aload_n 11 C dX6_copy_11 rfl 0 rfl ?_
  refine x_getr 12 C (b := a + 2) dX6_copy_12 ff_X6_16 rfl hP.1 rfl ?_
  refine x_aload_n 15 C dX6_copy_15 rfl 1 rfl ?_
  refine x_getr 16 C (b := b + 2) dX6_copy_16 ff_X6_16 rfl hPb.1 rfl ?_
  refine x_callVe 19 C dX6_copy_19 (As := [.ref (b + 2)]) (rest := []) [] (t_X0_copy l D z n G I L2 (a + 2) (b + 2) hP.2.2 hPb.2.2 (by omega)) mt_X0_copy km_X6_68 ki_X0_copy ks_X0_copy hP.2.2 ⟨by decide, rfl⟩ rfl rfl (Nat.le_of_ble_eq_true rfl) ⟨⟨by decide, by decide⟩, by decide, by decide⟩ (fun I3 L4 eI3 eL4 => ?_)
  replace eI3 := eI3.symm; subst eI3
  refine x_aload_n 22 C dX6_copy_22 rfl 0 rfl ?_
  refine x_aload_n 23 C dX6_copy_23 rfl 1 rfl ?_
  refine x_geti 24 C dX6_copy_24 ff_X6_19 hPb.1 ?_
  refine x_puti 27 C dX6_copy_27 ff_X6_19 rfl hP.1 (by omega) (fun I5 eI5 => ?_)
  refine x_aload_n 30 C dX6_copy_30 rfl 0 rfl ?_
  refine x_aload_n 31 C dX6_copy_31 rfl 1 rfl ?_
  refine x_geti 32 C dX6_copy_32 ff_X6_23 hPb.1 ?_
  refine x_int (I b 3) (by simp [eI5, xup, cput]) ?_
  refine x_puti 35 C dX6_copy_35 ff_X6_23 rfl hP.1 (by omega) (fun I6 eI6 => ?_)
  refine x_aload_n 38 C dX6_copy_38 rfl 0 rfl ?_
  refine x_aload_n 39 C dX6_copy_39 rfl 1 rfl ?_
  refine x_geti 40 C dX6_copy_40 ff_X6_35 hPb.1 ?_
  refine x_int (I b 4) (by simp [eI5, eI6, xup, cput]) ?_
  refine x_puti 43 C dX6_copy_43 ff_X6_35 rfl hP.1 (by omega) (fun I7 eI7 => ?_)
  refine x_aload_n 46 C dX6_copy_46 rfl 0 rfl ?_
  refine x_aload_n 47 C dX6_copy_47 rfl 1 rfl ?_
  refine x_geti 48 C dX6_copy_48 ff_X6_26 hPb.1 ?_
  refine x_int (I b 5) (by simp [eI5, eI6, eI7, xup, cput]) ?_
  refine x_puti 51 C dX6_copy_51 ff_X6_26 rfl hP.1 (by omega) (fun I8 eI8 => ?_)
  refine x_aload_n 54 C dX6_copy_54 rfl 0 rfl ?_
  refine x_aload_n 55 C dX6_copy_55 rfl 1 rfl ?_
  refine x_geti 56 C dX6_copy_56 ff_X6_38 hPb.1 ?_
  refine x_int (I b 6) (by simp [eI5, eI6, eI7, eI8, xup, cput]) ?_
  refine x_puti 59 C dX6_copy_59 ff_X6_38 rfl hP.1 (by omega) (fun I9 eI9 => ?_)
  refine x_aload_n 62 C dX6_copy_62 rfl 0 rfl ?_
  refine x_aload_n 63 C dX6_copy_63 rfl 1 rfl ?_
  refine x_geti 64 C dX6_copy_64 ff_X6_41 hPb.1 ?_
  refine x_int (I b 7) (by simp [eI5, eI6, eI7, eI8, eI9, xup, cput]) ?_
  refine x_puti 67 C dX6_copy_67 ff_X6_41 rfl hP.1 (by omega) (fun I10 eI10 => ?_)
  refine x_aload_n 70 C dX6_copy_70 rfl 0 rfl ?_
  refine x_aload_n 71 C dX6_copy_71 rfl 1 rfl ?_
  refine x_geti 72 C dX6_copy_72 ff_X6_44 hPb.1 ?_
  refine x_int (I b 8) (by simp [eI5, eI6, eI7, eI8, eI9, eI10, xup, cput]) ?_
  refine x_puti 75 C dX6_copy_75 ff_X6_44 rfl hP.1 (by omega) (fun I11 eI11 => ?_)
  refine x_aload_n 78 C dX6_copy_78 rfl 0 rfl ?_
  refine x_aload_n 79 C dX6_copy_79 rfl 1 rfl ?_
  refine x_geti 80 C dX6_copy_80 ff_X6_47 hPb.1 ?_
  refine x_int (I b 9) (by simp [eI5, eI6, eI7, eI8, eI9, eI10, eI11, xup, cput]) ?_
  refine x_puti 83 C dX6_copy_83 ff_X6_47 rfl hP.1 (by omega) (fun I12 eI12 => ?_)
  refine x_vret 86 C dX6_copy_86 rfl (Nat.le_refl _) (xN.intro ?_)
  subst eL2; subst eL4; subst eI5; subst eI6; subst eI7; subst eI8; subst eI9; subst eI10; subst eI11; subst eI12
  refine ⟨rfl, rfl, ?_⟩
  rw [cput_ne L _ _ hab]
theorem dX6_part_0 : decode cX6_part 0 = .ok (.iload_n 1, 1) := by decide +kernel
theorem dX6_part_1 : decode cX6_part 1 = .ok (.tableswitch 72 0 2 #[27, 42, 57], 27) := by decide +kernel
theorem dX6_part_28 : decode cX6_part 28 = .ok (.aload_n 0, 1) := by decide +kernel
theorem dX6_part_29 : decode cX6_part 29 = .ok (.getfield 10, 3) := by decide +kernel
theorem dX6_part_32 : decode cX6_part 32 = .ok (.getfield 89, 3) := by decide +kernel
theorem dX6_part_35 : decode cX6_part 35 = .ok (.aload_n 0, 1) := by decide +kernel
theorem dX6_part_36 : decode cX6_part 36 = .ok (.invokevirtual 50, 3) := by decide +kernel
theorem dX6_part_39 : decode cX6_part 39 = .ok (.invokestatic 93, 3) := by decide +kernel
theorem dX6_part_42 : decode cX6_part 42 = .ok (.ireturn, 1) := by decide +kernel
theorem dX6_part_43 : decode cX6_part 43 = .ok (.aload_n 0, 1) := by decide +kernel
theorem dX6_part_44 : decode cX6_part 44 = .ok (.getfield 10, 3) := by decide +kernel
theorem dX6_part_47 : decode cX6_part 47 = .ok (.getfield 97, 3) := by decide +kernel
theorem dX6_part_50 : decode cX6_part 50 = .ok (.aload_n 0, 1) := by decide +kernel
theorem dX6_part_51 : decode cX6_part 51 = .ok (.invokevirtual 50, 3) := by decide +kernel
theorem dX6_part_54 : decode cX6_part 54 = .ok (.invokestatic 93, 3) := by decide +kernel
theorem dX6_part_57 : decode cX6_part 57 = .ok (.ireturn, 1) := by decide +kernel
theorem dX6_part_58 : decode cX6_part 58 = .ok (.aload_n 0, 1) := by decide +kernel
theorem dX6_part_59 : decode cX6_part 59 = .ok (.getfield 16, 3) := by decide +kernel
theorem dX6_part_62 : decode cX6_part 62 = .ok (.getfield 89, 3) := by decide +kernel
theorem dX6_part_65 : decode cX6_part 65 = .ok (.aload_n 0, 1) := by decide +kernel
theorem dX6_part_66 : decode cX6_part 66 = .ok (.invokevirtual 50, 3) := by decide +kernel
theorem dX6_part_69 : decode cX6_part 69 = .ok (.invokestatic 93, 3) := by decide +kernel
theorem dX6_part_72 : decode cX6_part 72 = .ok (.ireturn, 1) := by decide +kernel
theorem dX6_part_73 : decode cX6_part 73 = .ok (.aload_n 0, 1) := by decide +kernel
theorem dX6_part_74 : decode cX6_part 74 = .ok (.getfield 16, 3) := by decide +kernel
theorem dX6_part_77 : decode cX6_part 77 = .ok (.getfield 97, 3) := by decide +kernel
theorem dX6_part_80 : decode cX6_part 80 = .ok (.aload_n 0, 1) := by decide +kernel
theorem dX6_part_81 : decode cX6_part 81 = .ok (.invokevirtual 50, 3) := by decide +kernel
theorem dX6_part_84 : decode cX6_part 84 = .ok (.invokestatic 93, 3) := by decide +kernel
theorem dX6_part_87 : decode cX6_part 87 = .ok (.ireturn, 1) := by decide +kernel
set_option maxHeartbeats 4000000 in
set_option maxRecDepth 100000 in
theorem t_X6_part (l : Launch) (D : xD) (z n : Nat) (G : xG) (I : xI) (L : xL) (a : Nat) (j : Nat) (hP : shP G a) (hj : j < 4) : xM0 l D z yX6_part cX6_part 2 (some .int) 1 23 [.ref a, .int (nI j)] n G I L (xE (some (.int (ppart I L a j))) I L) := by
  refine xM.of (by decide) (Nat.le_of_ble_eq_true rfl) (fun p e s m args below meth c C hnm hsz => ?_)
  refine x_lv [(0, .ref a), (1, .int (nI j))] rfl ?_
  rcases (show j = 0 ∨ j = 1 ∨ j = 2 ∨ j = 3 by omega) with rfl | rfl | rfl | rfl
  · skip
    refine x_iload_n 0 C dX6_part_0 rfl 1 rfl ?_
    refine x_tsIn 1 C 28 dX6_part_1 (v := 0) rfl (by decide) (by decide) rfl (by decide) ?_
    refine x_aload_n 28 C dX6_part_28 rfl 0 rfl ?_
    refine x_getr 29 C (b := a + 1) dX6_part_29 ff_X6_10 rfl hP.1 rfl ?_
    refine x_getl 32 C dX6_part_32 ff_X6_89 hP.2.1 ?_
    refine x_aload_n 35 C dX6_part_35 rfl 0 rfl ?_
    refine x_callVe 36 C dX6_part_36 (As := []) (rest := [.long (L (a + 1) 0)]) [.long (punit (I a 6)), .long (L (a + 1) 0)] (t_X6_unit l D z n G I L a hP) mt_X6_unit km_X6_50 ki_X6_unit ks_X6_unit hP.1 ⟨by decide, rfl⟩ rfl rfl (Nat.le_of_ble_eq_true rfl) ⟨⟨by decide, by decide⟩, by decide, by decide⟩ (fun I1 L2 eI1 eL2 => ?_)
    replace eI1 := eI1.symm; subst eI1
    replace eL2 := eL2.symm; subst eL2
    refine x_callSe 39 C dX6_part_39 (As := [.long (L (a + 1) 0), .long (punit (I a 6))]) (rest := []) [.int (cthou (L (a + 1) 0) (punit (I a 6)))] (t_X0_thousandths l D z n G I L (L (a + 1) 0) (punit (I a 6)) ) mt_X0_thousandths km_X6_93 kt_X0_thousandths rfl rfl (Nat.le_of_ble_eq_true rfl) ⟨⟨by decide, by decide⟩, by decide, by decide⟩ (fun I3 L4 eI3 eL4 => ?_)
    replace eI3 := eI3.symm; subst eI3
    replace eL4 := eL4.symm; subst eL4
    refine x_iret 42 C dX6_part_42 rfl rfl (Nat.le_refl _) (xN.intro ?_)
    skip
    exact ⟨rfl, rfl, rfl⟩
  · skip
    refine x_iload_n 0 C dX6_part_0 rfl 1 rfl ?_
    refine x_tsIn 1 C 43 dX6_part_1 (v := 1) rfl (by decide) (by decide) rfl (by decide) ?_
    refine x_aload_n 43 C dX6_part_43 rfl 0 rfl ?_
    refine x_getr 44 C (b := a + 1) dX6_part_44 ff_X6_10 rfl hP.1 rfl ?_
    refine x_getl 47 C dX6_part_47 ff_X6_97 hP.2.1 ?_
    refine x_aload_n 50 C dX6_part_50 rfl 0 rfl ?_
    refine x_callVe 51 C dX6_part_51 (As := []) (rest := [.long (L (a + 1) 1)]) [.long (punit (I a 6)), .long (L (a + 1) 1)] (t_X6_unit l D z n G I L a hP) mt_X6_unit km_X6_50 ki_X6_unit ks_X6_unit hP.1 ⟨by decide, rfl⟩ rfl rfl (Nat.le_of_ble_eq_true rfl) ⟨⟨by decide, by decide⟩, by decide, by decide⟩ (fun I5 L6 eI5 eL6 => ?_)
    replace eI5 := eI5.symm; subst eI5
    replace eL6 := eL6.symm; subst eL6
    refine x_callSe 54 C dX6_part_54 (As := [.long (L (a + 1) 1), .long (punit (I a 6))]) (rest := []) [.int (cthou (L (a + 1) 1) (punit (I a 6)))] (t_X0_thousandths l D z n G I L (L (a + 1) 1) (punit (I a 6)) ) mt_X0_thousandths km_X6_93 kt_X0_thousandths rfl rfl (Nat.le_of_ble_eq_true rfl) ⟨⟨by decide, by decide⟩, by decide, by decide⟩ (fun I7 L8 eI7 eL8 => ?_)
    replace eI7 := eI7.symm; subst eI7
    replace eL8 := eL8.symm; subst eL8
    refine x_iret 57 C dX6_part_57 rfl rfl (Nat.le_refl _) (xN.intro ?_)
    skip
    exact ⟨rfl, rfl, rfl⟩
  · skip
    refine x_iload_n 0 C dX6_part_0 rfl 1 rfl ?_
    refine x_tsIn 1 C 58 dX6_part_1 (v := 2) rfl (by decide) (by decide) rfl (by decide) ?_
    refine x_aload_n 58 C dX6_part_58 rfl 0 rfl ?_
    refine x_getr 59 C (b := a + 2) dX6_part_59 ff_X6_16 rfl hP.1 rfl ?_
    refine x_getl 62 C dX6_part_62 ff_X6_89 hP.2.2 ?_
    refine x_aload_n 65 C dX6_part_65 rfl 0 rfl ?_
    refine x_callVe 66 C dX6_part_66 (As := []) (rest := [.long (L (a + 2) 0)]) [.long (punit (I a 6)), .long (L (a + 2) 0)] (t_X6_unit l D z n G I L a hP) mt_X6_unit km_X6_50 ki_X6_unit ks_X6_unit hP.1 ⟨by decide, rfl⟩ rfl rfl (Nat.le_of_ble_eq_true rfl) ⟨⟨by decide, by decide⟩, by decide, by decide⟩ (fun I9 L10 eI9 eL10 => ?_)
    replace eI9 := eI9.symm; subst eI9
    replace eL10 := eL10.symm; subst eL10
    refine x_callSe 69 C dX6_part_69 (As := [.long (L (a + 2) 0), .long (punit (I a 6))]) (rest := []) [.int (cthou (L (a + 2) 0) (punit (I a 6)))] (t_X0_thousandths l D z n G I L (L (a + 2) 0) (punit (I a 6)) ) mt_X0_thousandths km_X6_93 kt_X0_thousandths rfl rfl (Nat.le_of_ble_eq_true rfl) ⟨⟨by decide, by decide⟩, by decide, by decide⟩ (fun I11 L12 eI11 eL12 => ?_)
    replace eI11 := eI11.symm; subst eI11
    replace eL12 := eL12.symm; subst eL12
    refine x_iret 72 C dX6_part_72 rfl rfl (Nat.le_refl _) (xN.intro ?_)
    skip
    exact ⟨rfl, rfl, rfl⟩
  · skip
    refine x_iload_n 0 C dX6_part_0 rfl 1 rfl ?_
    refine x_tsOut 1 C 73 dX6_part_1 (by decide) (by decide) ?_
    refine x_aload_n 73 C dX6_part_73 rfl 0 rfl ?_
    refine x_getr 74 C (b := a + 2) dX6_part_74 ff_X6_16 rfl hP.1 rfl ?_
    refine x_getl 77 C dX6_part_77 ff_X6_97 hP.2.2 ?_
    refine x_aload_n 80 C dX6_part_80 rfl 0 rfl ?_
    refine x_callVe 81 C dX6_part_81 (As := []) (rest := [.long (L (a + 2) 1)]) [.long (punit (I a 6)), .long (L (a + 2) 1)] (t_X6_unit l D z n G I L a hP) mt_X6_unit km_X6_50 ki_X6_unit ks_X6_unit hP.1 ⟨by decide, rfl⟩ rfl rfl (Nat.le_of_ble_eq_true rfl) ⟨⟨by decide, by decide⟩, by decide, by decide⟩ (fun I13 L14 eI13 eL14 => ?_)
    replace eI13 := eI13.symm; subst eI13
    replace eL14 := eL14.symm; subst eL14
    refine x_callSe 84 C dX6_part_84 (As := [.long (L (a + 2) 1), .long (punit (I a 6))]) (rest := []) [.int (cthou (L (a + 2) 1) (punit (I a 6)))] (t_X0_thousandths l D z n G I L (L (a + 2) 1) (punit (I a 6)) ) mt_X0_thousandths km_X6_93 kt_X0_thousandths rfl rfl (Nat.le_of_ble_eq_true rfl) ⟨⟨by decide, by decide⟩, by decide, by decide⟩ (fun I15 L16 eI15 eL16 => ?_)
    replace eI15 := eI15.symm; subst eI15
    replace eL16 := eL16.symm; subst eL16
    refine x_iret 87 C dX6_part_87 rfl rfl (Nat.le_refl _) (xN.intro ?_)
    skip
    exact ⟨rfl, rfl, rfl⟩
theorem dX6_isReal_0 : decode cX6_isReal 0 = .ok (.aload_n 0, 1) := by decide +kernel
theorem dX6_isReal_1 : decode cX6_isReal 1 = .ok (.iconst 1, 1) := by decide +kernel
theorem dX6_isReal_2 : decode cX6_isReal 2 = .ok (.invokevirtual 100, 3) := by decide +kernel
theorem dX6_isReal_5 : decode cX6_isReal 5 = .ok (.invokestatic 108, 3) := by decide +kernel
theorem dX6_isReal_8 : decode cX6_isReal 8 = .ok (.iload_n 1, 1) := by decide +kernel
theorem dX6_isReal_9 : decode cX6_isReal 9 = .ok (.if_icmp .gt 19, 3) := by decide +kernel
theorem dX6_isReal_12 : decode cX6_isReal 12 = .ok (.aload_n 0, 1) := by decide +kernel
theorem dX6_isReal_13 : decode cX6_isReal 13 = .ok (.iconst 3, 1) := by decide +kernel
theorem dX6_isReal_14 : decode cX6_isReal 14 = .ok (.invokevirtual 100, 3) := by decide +kernel
theorem dX6_isReal_17 : decode cX6_isReal 17 = .ok (.invokestatic 108, 3) := by decide +kernel
theorem dX6_isReal_20 : decode cX6_isReal 20 = .ok (.iload_n 1, 1) := by decide +kernel
theorem dX6_isReal_21 : decode cX6_isReal 21 = .ok (.if_icmp .gt 7, 3) := by decide +kernel
theorem dX6_isReal_24 : decode cX6_isReal 24 = .ok (.iconst 1, 1) := by decide +kernel
theorem dX6_isReal_25 : decode cX6_isReal 25 = .ok (.goto 4, 3) := by decide +kernel
theorem dX6_isReal_28 : decode cX6_isReal 28 = .ok (.iconst 0, 1) := by decide +kernel
theorem dX6_isReal_29 : decode cX6_isReal 29 = .ok (.ireturn, 1) := by decide +kernel
set_option maxHeartbeats 4000000 in
set_option maxRecDepth 100000 in
theorem t_X6_isReal (l : Launch) (D : xD) (z n : Nat) (G : xG) (I : xI) (L : xL) (a : Nat) (w : Int32) (hP : shP G a) : xM0 l D z yX6_isReal cX6_isReal 2 (some .boolean) 2 44 [.ref a, .int w] n G I L (xE (some (.int (bI (decide (iabs (ppart I L a 1) ≤ w) && decide (iabs (ppart I L a 3) ≤ w))))) I L) := by
  refine xM.of (by decide) (Nat.le_of_ble_eq_true rfl) (fun p e s m args below meth c C hnm hsz => ?_)
  refine x_lv [(0, .ref a), (1, .int w)] rfl ?_
  refine x_aload_n 0 C dX6_isReal_0 rfl 0 rfl ?_
  refine x_iconst 1 C (v := 1) dX6_isReal_1 rfl ?_
  refine x_callVe 2 C dX6_isReal_2 (As := [.int 1]) (rest := []) [.int (ppart I L a 1)] (t_X6_part l D z n G I L a 1 hP (by first | assumption | omega)) mt_X6_part km_X6_100 ki_X6_part ks_X6_part hP.1 ⟨by decide, rfl⟩ rfl rfl (Nat.le_of_ble_eq_true rfl) ⟨⟨by decide, by decide⟩, by decide, by decide⟩ (fun I1 L2 eI1 eL2 => ?_)
  replace eI1 := eI1.symm; subst eI1
  replace eL2 := eL2.symm; subst eL2
  refine x_mabs 5 C dX6_isReal_5 km_X6_108 kt_J9_abs_0f7a4 kn_J9 kc_J9_abs_0f7a4 ⟨by decide, Nat.le_of_ble_eq_true rfl, by decide, by decide⟩ ?_
  refine x_int (iabs (ppart I L a 1)) rfl ?_
  refine x_iload_n 8 C dX6_isReal_8 rfl 1 rfl ?_
  refine x_icmp_gt 9 C 28 dX6_isReal_9 (by decide) (fun c3 => ?_) (fun c3 => ?_)
  · skip
    have c3o := Int32.not_le.mpr c3
    refine x_iconst 28 C (v := 0) dX6_isReal_28 rfl ?_
    refine x_iret 29 C dX6_isReal_29 rfl rfl (Nat.le_refl _) (xN.intro ?_)
    skip
    refine ⟨?_, rfl, rfl⟩
    simp [bI, c3, c3o]
  · skip
    have c3o := Int32.not_lt.mp c3
    refine x_aload_n 12 C dX6_isReal_12 rfl 0 rfl ?_
    refine x_iconst 13 C (v := 3) dX6_isReal_13 rfl ?_
    refine x_callVe 14 C dX6_isReal_14 (As := [.int 3]) (rest := []) [.int (ppart I L a 3)] (t_X6_part l D z n G I L a 3 hP (by first | assumption | omega)) mt_X6_part km_X6_100 ki_X6_part ks_X6_part hP.1 ⟨by decide, rfl⟩ rfl rfl (Nat.le_of_ble_eq_true rfl) ⟨⟨by decide, by decide⟩, by decide, by decide⟩ (fun I4 L5 eI4 eL5 => ?_)
    replace eI4 := eI4.symm; subst eI4
    replace eL5 := eL5.symm; subst eL5
    refine x_mabs 17 C dX6_isReal_17 km_X6_108 kt_J9_abs_0f7a4 kn_J9 kc_J9_abs_0f7a4 ⟨by decide, Nat.le_of_ble_eq_true rfl, by decide, by decide⟩ ?_
    refine x_int (iabs (ppart I L a 3)) rfl ?_
    refine x_iload_n 20 C dX6_isReal_20 rfl 1 rfl ?_
    refine x_icmp_gt 21 C 28 dX6_isReal_21 (by decide) (fun c6 => ?_) (fun c6 => ?_)
    · skip
      have c6o := Int32.not_le.mpr c6
      refine x_iconst 28 C (v := 0) dX6_isReal_28 rfl ?_
      refine x_iret 29 C dX6_isReal_29 rfl rfl (Nat.le_refl _) (xN.intro ?_)
      skip
      refine ⟨?_, rfl, rfl⟩
      simp [bI, c3, c3o, c6, c6o]
    · skip
      have c6o := Int32.not_lt.mp c6
      refine x_iconst 24 C (v := 1) dX6_isReal_24 rfl ?_
      refine x_goto 25 C 29 dX6_isReal_25 (by decide) ?_
      refine x_iret 29 C dX6_isReal_29 rfl rfl (Nat.le_refl _) (xN.intro ?_)
      skip
      refine ⟨?_, rfl, rfl⟩
      simp [bI, c3, c3o, c6, c6o]
theorem dX6_isNear_0 : decode cX6_isNear 0 = .ok (.iconst 0, 1) := by decide +kernel
theorem dX6_isNear_1 : decode cX6_isNear 1 = .ok (.istore_n 3, 1) := by decide +kernel
theorem dX6_isNear_2 : decode cX6_isNear 2 = .ok (.iload_n 3, 1) := by decide +kernel
theorem dX6_isNear_3 : decode cX6_isNear 3 = .ok (.iconst 4, 1) := by decide +kernel
theorem dX6_isNear_4 : decode cX6_isNear 4 = .ok (.if_icmp .ge 37, 3) := by decide +kernel
theorem dX6_isNear_7 : decode cX6_isNear 7 = .ok (.aload_n 0, 1) := by decide +kernel
theorem dX6_isNear_8 : decode cX6_isNear 8 = .ok (.iload_n 3, 1) := by decide +kernel
theorem dX6_isNear_9 : decode cX6_isNear 9 = .ok (.invokevirtual 100, 3) := by decide +kernel
theorem dX6_isNear_12 : decode cX6_isNear 12 = .ok (.i2l, 1) := by decide +kernel
theorem dX6_isNear_13 : decode cX6_isNear 13 = .ok (.aload_n 1, 1) := by decide +kernel
theorem dX6_isNear_14 : decode cX6_isNear 14 = .ok (.iload_n 3, 1) := by decide +kernel
theorem dX6_isNear_15 : decode cX6_isNear 15 = .ok (.invokevirtual 100, 3) := by decide +kernel
theorem dX6_isNear_18 : decode cX6_isNear 18 = .ok (.i2l, 1) := by decide +kernel
theorem dX6_isNear_19 : decode cX6_isNear 19 = .ok (.lsub, 1) := by decide +kernel
theorem dX6_isNear_20 : decode cX6_isNear 20 = .ok (.lstore 4, 2) := by decide +kernel
theorem dX6_isNear_22 : decode cX6_isNear 22 = .ok (.lload 4, 2) := by decide +kernel
theorem dX6_isNear_24 : decode cX6_isNear 24 = .ok (.invokestatic 104, 3) := by decide +kernel
theorem dX6_isNear_27 : decode cX6_isNear 27 = .ok (.iload_n 2, 1) := by decide +kernel
theorem dX6_isNear_28 : decode cX6_isNear 28 = .ok (.i2l, 1) := by decide +kernel
theorem dX6_isNear_29 : decode cX6_isNear 29 = .ok (.lcmp, 1) := by decide +kernel
theorem dX6_isNear_30 : decode cX6_isNear 30 = .ok (.ifCond .le 5, 3) := by decide +kernel
theorem dX6_isNear_33 : decode cX6_isNear 33 = .ok (.iconst 0, 1) := by decide +kernel
theorem dX6_isNear_34 : decode cX6_isNear 34 = .ok (.ireturn, 1) := by decide +kernel
theorem dX6_isNear_35 : decode cX6_isNear 35 = .ok (.iinc 3 1, 3) := by decide +kernel
theorem dX6_isNear_38 : decode cX6_isNear 38 = .ok (.goto (-36), 3) := by decide +kernel
theorem dX6_isNear_41 : decode cX6_isNear 41 = .ok (.iconst 1, 1) := by decide +kernel
theorem dX6_isNear_42 : decode cX6_isNear 42 = .ok (.ireturn, 1) := by decide +kernel
set_option maxHeartbeats 4000000 in
set_option maxRecDepth 100000 in
theorem t_X6_isNear (l : Launch) (D : xD) (z n : Nat) (G : xG) (I : xI) (L : xL) (a : Nat) (b : Nat) (w : Int32) (hP : shP G a) (hPb : shP G b) : xM0 l D z yX6_isNear cX6_isNear 6 (some .boolean) 2 44 [.ref a, .ref b, .int w] n G I L (xE (some (.int (bI (pNears I L a b w)))) I L) := by
  refine xM.of (by decide) (Nat.le_of_ble_eq_true rfl) (fun p e s m args below meth c C hnm hsz => ?_)
  refine x_lv [(0, .ref a), (1, .ref b), (2, .int w)] rfl ?_
  refine x_iconst 0 C (v := 0) dX6_isNear_0 rfl ?_
  refine x_istore_n 1 C [(3, .int 0), (0, .ref a), (1, .ref b), (2, .int w)] dX6_isNear_1 rfl (by decide) rfl ?_
  refine x_iload_n 2 C dX6_isNear_2 rfl 0 rfl ?_
  refine x_iconst 3 C (v := 4) dX6_isNear_3 rfl ?_
  refine x_icmp_ge 4 C 41 dX6_isNear_4 (by decide) (fun c1 => absurd c1 (by decide)) (fun _ => ?_)
  refine x_aload_n 7 C dX6_isNear_7 rfl 1 rfl ?_
  refine x_iload_n 8 C dX6_isNear_8 rfl 0 rfl ?_
  refine x_callVe 9 C dX6_isNear_9 (As := [.int 0]) (rest := []) [.int (ppart I L a 0)] (t_X6_part l D z n G I L a 0 hP (by first | assumption | omega)) mt_X6_part km_X6_100 ki_X6_part ks_X6_part hP.1 ⟨by decide, rfl⟩ rfl rfl (Nat.le_of_ble_eq_true rfl) ⟨⟨by decide, by decide⟩, by decide, by decide⟩ (fun I2 L3 eI2 eL3 => ?_)
  replace eI2 := eI2.symm; subst eI2
  replace eL3 := eL3.symm; subst eL3
  refine x_i2l 12 C dX6_isNear_12 ?_
  refine x_aload_n 13 C dX6_isNear_13 rfl 2 rfl ?_
  refine x_iload_n 14 C dX6_isNear_14 rfl 0 rfl ?_
  refine x_callVe 15 C dX6_isNear_15 (As := [.int 0]) (rest := [.long (Int32.toInt64 (ppart I L a 0))]) [.int (ppart I L b 0), .long (Int32.toInt64 (ppart I L a 0))] (t_X6_part l D z n G I L b 0 hPb (by first | assumption | omega)) mt_X6_part km_X6_100 ki_X6_part ks_X6_part hPb.1 ⟨by decide, rfl⟩ rfl rfl (Nat.le_of_ble_eq_true rfl) ⟨⟨by decide, by decide⟩, by decide, by decide⟩ (fun I4 L5 eI4 eL5 => ?_)
  replace eI4 := eI4.symm; subst eI4
  replace eL5 := eL5.symm; subst eL5
  refine x_i2l 18 C dX6_isNear_18 ?_
  refine x_lsub 19 C dX6_isNear_19 ?_
  refine x_topl (fun v6 ev6 => ?_)
  refine x_lstore 20 C [(4, .long v6), (3, .int 0), (0, .ref a), (1, .ref b), (2, .int w)] dX6_isNear_20 (by decide) rfl ?_
  refine x_lload 22 C dX6_isNear_22 0 rfl ?_
  refine x_mabsl 24 C dX6_isNear_24 km_X6_104 kt_J9_abs_067f4 kn_J9 kc_J9_abs_067f4 ⟨by decide, Nat.le_of_ble_eq_true rfl, by decide, by decide⟩ ?_
  refine x_long (labs (v6)) rfl ?_
  refine x_iload_n 27 C dX6_isNear_27 rfl 4 rfl ?_
  refine x_i2l 28 C dX6_isNear_28 ?_
  refine x_lc_le 29 C 35 dX6_isNear_29 dX6_isNear_30 (by decide) (fun c7 => ?_) (fun c7 => ?_)
  · skip
    have c7o := Int64.not_lt.mpr c7
    refine x_iinc 35 C [(3, .int 1), (4, .long v6), (0, .ref a), (1, .ref b), (2, .int w)] dX6_isNear_35 1 rfl (by decide) (by decide) rfl ?_
    refine x_goto 38 C 2 dX6_isNear_38 (by decide) ?_
    refine x_iload_n 2 C dX6_isNear_2 rfl 0 rfl ?_
    refine x_iconst 3 C (v := 4) dX6_isNear_3 rfl ?_
    refine x_icmp_ge 4 C 41 dX6_isNear_4 (by decide) (fun c8 => absurd c8 (by decide)) (fun _ => ?_)
    refine x_aload_n 7 C dX6_isNear_7 rfl 2 rfl ?_
    refine x_iload_n 8 C dX6_isNear_8 rfl 0 rfl ?_
    refine x_callVe 9 C dX6_isNear_9 (As := [.int 1]) (rest := []) [.int (ppart I L a 1)] (t_X6_part l D z n G I L a 1 hP (by first | assumption | omega)) mt_X6_part km_X6_100 ki_X6_part ks_X6_part hP.1 ⟨by decide, rfl⟩ rfl rfl (Nat.le_of_ble_eq_true rfl) ⟨⟨by decide, by decide⟩, by decide, by decide⟩ (fun I9 L10 eI9 eL10 => ?_)
    replace eI9 := eI9.symm; subst eI9
    replace eL10 := eL10.symm; subst eL10
    refine x_i2l 12 C dX6_isNear_12 ?_
    refine x_aload_n 13 C dX6_isNear_13 rfl 3 rfl ?_
    refine x_iload_n 14 C dX6_isNear_14 rfl 0 rfl ?_
    refine x_callVe 15 C dX6_isNear_15 (As := [.int 1]) (rest := [.long (Int32.toInt64 (ppart I L a 1))]) [.int (ppart I L b 1), .long (Int32.toInt64 (ppart I L a 1))] (t_X6_part l D z n G I L b 1 hPb (by first | assumption | omega)) mt_X6_part km_X6_100 ki_X6_part ks_X6_part hPb.1 ⟨by decide, rfl⟩ rfl rfl (Nat.le_of_ble_eq_true rfl) ⟨⟨by decide, by decide⟩, by decide, by decide⟩ (fun I11 L12 eI11 eL12 => ?_)
    replace eI11 := eI11.symm; subst eI11
    replace eL12 := eL12.symm; subst eL12
    refine x_i2l 18 C dX6_isNear_18 ?_
    refine x_lsub 19 C dX6_isNear_19 ?_
    refine x_topl (fun v13 ev13 => ?_)
    refine x_lstore 20 C [(4, .long v13), (3, .int 1), (0, .ref a), (1, .ref b), (2, .int w)] dX6_isNear_20 (by decide) rfl ?_
    refine x_lload 22 C dX6_isNear_22 0 rfl ?_
    refine x_mabsl 24 C dX6_isNear_24 km_X6_104 kt_J9_abs_067f4 kn_J9 kc_J9_abs_067f4 ⟨by decide, Nat.le_of_ble_eq_true rfl, by decide, by decide⟩ ?_
    refine x_long (labs (v13)) rfl ?_
    refine x_iload_n 27 C dX6_isNear_27 rfl 4 rfl ?_
    refine x_i2l 28 C dX6_isNear_28 ?_
    refine x_lc_le 29 C 35 dX6_isNear_29 dX6_isNear_30 (by decide) (fun c14 => ?_) (fun c14 => ?_)
    · skip
      have c14o := Int64.not_lt.mpr c14
      refine x_iinc 35 C [(3, .int 2), (4, .long v13), (0, .ref a), (1, .ref b), (2, .int w)] dX6_isNear_35 1 rfl (by decide) (by decide) rfl ?_
      refine x_goto 38 C 2 dX6_isNear_38 (by decide) ?_
      refine x_iload_n 2 C dX6_isNear_2 rfl 0 rfl ?_
      refine x_iconst 3 C (v := 4) dX6_isNear_3 rfl ?_
      refine x_icmp_ge 4 C 41 dX6_isNear_4 (by decide) (fun c15 => absurd c15 (by decide)) (fun _ => ?_)
      refine x_aload_n 7 C dX6_isNear_7 rfl 2 rfl ?_
      refine x_iload_n 8 C dX6_isNear_8 rfl 0 rfl ?_
      refine x_callVe 9 C dX6_isNear_9 (As := [.int 2]) (rest := []) [.int (ppart I L a 2)] (t_X6_part l D z n G I L a 2 hP (by first | assumption | omega)) mt_X6_part km_X6_100 ki_X6_part ks_X6_part hP.1 ⟨by decide, rfl⟩ rfl rfl (Nat.le_of_ble_eq_true rfl) ⟨⟨by decide, by decide⟩, by decide, by decide⟩ (fun I16 L17 eI16 eL17 => ?_)
      replace eI16 := eI16.symm; subst eI16
      replace eL17 := eL17.symm; subst eL17
      refine x_i2l 12 C dX6_isNear_12 ?_
      refine x_aload_n 13 C dX6_isNear_13 rfl 3 rfl ?_
      refine x_iload_n 14 C dX6_isNear_14 rfl 0 rfl ?_
      refine x_callVe 15 C dX6_isNear_15 (As := [.int 2]) (rest := [.long (Int32.toInt64 (ppart I L a 2))]) [.int (ppart I L b 2), .long (Int32.toInt64 (ppart I L a 2))] (t_X6_part l D z n G I L b 2 hPb (by first | assumption | omega)) mt_X6_part km_X6_100 ki_X6_part ks_X6_part hPb.1 ⟨by decide, rfl⟩ rfl rfl (Nat.le_of_ble_eq_true rfl) ⟨⟨by decide, by decide⟩, by decide, by decide⟩ (fun I18 L19 eI18 eL19 => ?_)
      replace eI18 := eI18.symm; subst eI18
      replace eL19 := eL19.symm; subst eL19
      refine x_i2l 18 C dX6_isNear_18 ?_
      refine x_lsub 19 C dX6_isNear_19 ?_
      refine x_topl (fun v20 ev20 => ?_)
      refine x_lstore 20 C [(4, .long v20), (3, .int 2), (0, .ref a), (1, .ref b), (2, .int w)] dX6_isNear_20 (by decide) rfl ?_
      refine x_lload 22 C dX6_isNear_22 0 rfl ?_
      refine x_mabsl 24 C dX6_isNear_24 km_X6_104 kt_J9_abs_067f4 kn_J9 kc_J9_abs_067f4 ⟨by decide, Nat.le_of_ble_eq_true rfl, by decide, by decide⟩ ?_
      refine x_long (labs (v20)) rfl ?_
      refine x_iload_n 27 C dX6_isNear_27 rfl 4 rfl ?_
      refine x_i2l 28 C dX6_isNear_28 ?_
      refine x_lc_le 29 C 35 dX6_isNear_29 dX6_isNear_30 (by decide) (fun c21 => ?_) (fun c21 => ?_)
      · skip
        have c21o := Int64.not_lt.mpr c21
        refine x_iinc 35 C [(3, .int 3), (4, .long v20), (0, .ref a), (1, .ref b), (2, .int w)] dX6_isNear_35 1 rfl (by decide) (by decide) rfl ?_
        refine x_goto 38 C 2 dX6_isNear_38 (by decide) ?_
        refine x_iload_n 2 C dX6_isNear_2 rfl 0 rfl ?_
        refine x_iconst 3 C (v := 4) dX6_isNear_3 rfl ?_
        refine x_icmp_ge 4 C 41 dX6_isNear_4 (by decide) (fun c22 => absurd c22 (by decide)) (fun _ => ?_)
        refine x_aload_n 7 C dX6_isNear_7 rfl 2 rfl ?_
        refine x_iload_n 8 C dX6_isNear_8 rfl 0 rfl ?_
        refine x_callVe 9 C dX6_isNear_9 (As := [.int 3]) (rest := []) [.int (ppart I L a 3)] (t_X6_part l D z n G I L a 3 hP (by first | assumption | omega)) mt_X6_part km_X6_100 ki_X6_part ks_X6_part hP.1 ⟨by decide, rfl⟩ rfl rfl (Nat.le_of_ble_eq_true rfl) ⟨⟨by decide, by decide⟩, by decide, by decide⟩ (fun I23 L24 eI23 eL24 => ?_)
        replace eI23 := eI23.symm; subst eI23
        replace eL24 := eL24.symm; subst eL24
        refine x_i2l 12 C dX6_isNear_12 ?_
        refine x_aload_n 13 C dX6_isNear_13 rfl 3 rfl ?_
        refine x_iload_n 14 C dX6_isNear_14 rfl 0 rfl ?_
        refine x_callVe 15 C dX6_isNear_15 (As := [.int 3]) (rest := [.long (Int32.toInt64 (ppart I L a 3))]) [.int (ppart I L b 3), .long (Int32.toInt64 (ppart I L a 3))] (t_X6_part l D z n G I L b 3 hPb (by first | assumption | omega)) mt_X6_part km_X6_100 ki_X6_part ks_X6_part hPb.1 ⟨by decide, rfl⟩ rfl rfl (Nat.le_of_ble_eq_true rfl) ⟨⟨by decide, by decide⟩, by decide, by decide⟩ (fun I25 L26 eI25 eL26 => ?_)
        replace eI25 := eI25.symm; subst eI25
        replace eL26 := eL26.symm; subst eL26
        refine x_i2l 18 C dX6_isNear_18 ?_
        refine x_lsub 19 C dX6_isNear_19 ?_
        refine x_topl (fun v27 ev27 => ?_)
        refine x_lstore 20 C [(4, .long v27), (3, .int 3), (0, .ref a), (1, .ref b), (2, .int w)] dX6_isNear_20 (by decide) rfl ?_
        refine x_lload 22 C dX6_isNear_22 0 rfl ?_
        refine x_mabsl 24 C dX6_isNear_24 km_X6_104 kt_J9_abs_067f4 kn_J9 kc_J9_abs_067f4 ⟨by decide, Nat.le_of_ble_eq_true rfl, by decide, by decide⟩ ?_
        refine x_long (labs (v27)) rfl ?_
        refine x_iload_n 27 C dX6_isNear_27 rfl 4 rfl ?_
        refine x_i2l 28 C dX6_isNear_28 ?_
        refine x_lc_le 29 C 35 dX6_isNear_29 dX6_isNear_30 (by decide) (fun c28 => ?_) (fun c28 => ?_)
        · skip
          have c28o := Int64.not_lt.mpr c28
          refine x_iinc 35 C [(3, .int 4), (4, .long v27), (0, .ref a), (1, .ref b), (2, .int w)] dX6_isNear_35 1 rfl (by decide) (by decide) rfl ?_
          refine x_goto 38 C 2 dX6_isNear_38 (by decide) ?_
          refine x_iload_n 2 C dX6_isNear_2 rfl 0 rfl ?_
          refine x_iconst 3 C (v := 4) dX6_isNear_3 rfl ?_
          refine x_icmp_ge 4 C 41 dX6_isNear_4 (by decide) (fun _ => ?_) (fun c29 => absurd (by decide) c29)
          refine x_iconst 41 C (v := 1) dX6_isNear_41 rfl ?_
          refine x_iret 42 C dX6_isNear_42 rfl rfl (Nat.le_refl _) (xN.intro ?_)
          subst ev6; subst ev13; subst ev20; subst ev27
          refine ⟨?_, rfl, rfl⟩
          simp [bI, pNears, pNear, c7, c7o, c14, c14o, c21, c21o, c28, c28o]
        · skip
          have c28o := Int64.not_le.mp c28
          refine x_iconst 33 C (v := 0) dX6_isNear_33 rfl ?_
          refine x_iret 34 C dX6_isNear_34 rfl rfl (Nat.le_refl _) (xN.intro ?_)
          subst ev6; subst ev13; subst ev20; subst ev27
          refine ⟨?_, rfl, rfl⟩
          simp [bI, pNears, pNear, c7, c7o, c14, c14o, c21, c21o, c28, c28o]
      · skip
        have c21o := Int64.not_le.mp c21
        refine x_iconst 33 C (v := 0) dX6_isNear_33 rfl ?_
        refine x_iret 34 C dX6_isNear_34 rfl rfl (Nat.le_refl _) (xN.intro ?_)
        subst ev6; subst ev13; subst ev20
        refine ⟨?_, rfl, rfl⟩
        simp [bI, pNears, pNear, c7, c7o, c14, c14o, c21, c21o]
    · skip
      have c14o := Int64.not_le.mp c14
      refine x_iconst 33 C (v := 0) dX6_isNear_33 rfl ?_
      refine x_iret 34 C dX6_isNear_34 rfl rfl (Nat.le_refl _) (xN.intro ?_)
      subst ev6; subst ev13
      refine ⟨?_, rfl, rfl⟩
      simp [bI, pNears, pNear, c7, c7o, c14, c14o]
  · skip
    have c7o := Int64.not_le.mp c7
    refine x_iconst 33 C (v := 0) dX6_isNear_33 rfl ?_
    refine x_iret 34 C dX6_isNear_34 rfl rfl (Nat.le_refl _) (xN.intro ?_)
    subst ev6
    refine ⟨?_, rfl, rfl⟩
    simp [bI, pNears, pNear, c7, c7o]
theorem dJ6_compare_7cf53_0 : decode cJ6_compare_7cf53 0 = .ok (.iload_n 0, 1) := by decide +kernel
theorem dJ6_compare_7cf53_1 : decode cJ6_compare_7cf53 1 = .ok (.iload_n 1, 1) := by decide +kernel
theorem dJ6_compare_7cf53_2 : decode cJ6_compare_7cf53 2 = .ok (.if_icmp .ge 7, 3) := by decide +kernel
theorem dJ6_compare_7cf53_5 : decode cJ6_compare_7cf53 5 = .ok (.iconst (-1), 1) := by decide +kernel
theorem dJ6_compare_7cf53_6 : decode cJ6_compare_7cf53 6 = .ok (.goto 13, 3) := by decide +kernel
theorem dJ6_compare_7cf53_9 : decode cJ6_compare_7cf53 9 = .ok (.iload_n 0, 1) := by decide +kernel
theorem dJ6_compare_7cf53_10 : decode cJ6_compare_7cf53 10 = .ok (.iload_n 1, 1) := by decide +kernel
theorem dJ6_compare_7cf53_11 : decode cJ6_compare_7cf53 11 = .ok (.if_icmp .ne 7, 3) := by decide +kernel
theorem dJ6_compare_7cf53_14 : decode cJ6_compare_7cf53 14 = .ok (.iconst 0, 1) := by decide +kernel
theorem dJ6_compare_7cf53_15 : decode cJ6_compare_7cf53 15 = .ok (.goto 4, 3) := by decide +kernel
theorem dJ6_compare_7cf53_18 : decode cJ6_compare_7cf53 18 = .ok (.iconst 1, 1) := by decide +kernel
theorem dJ6_compare_7cf53_19 : decode cJ6_compare_7cf53 19 = .ok (.ireturn, 1) := by decide +kernel
set_option maxHeartbeats 4000000 in
set_option maxRecDepth 100000 in
theorem t_J6_compare_7cf53 (l : Launch) (D : xD) (z n : Nat) (G : xG) (I : xI) (L : xL) (x : Int32) (y : Int32)  : xM0 l D z yJ6_compare_7cf53 cJ6_compare_7cf53 2 (some .int) 0 0 [.int x, .int y] n G I L (xE (some (.int (icmp x y))) I L) := by
  refine xM.of (by decide) (Nat.le_of_ble_eq_true rfl) (fun p e s m args below meth c C hnm hsz => ?_)
  refine x_lv [(0, .int x), (1, .int y)] rfl ?_
  refine x_iload_n 0 C dJ6_compare_7cf53_0 rfl 0 rfl ?_
  refine x_iload_n 1 C dJ6_compare_7cf53_1 rfl 1 rfl ?_
  refine x_icmp_ge 2 C 9 dJ6_compare_7cf53_2 (by decide) (fun c1 => ?_) (fun c1 => ?_)
  · skip
    have c1o := Int32.not_lt.mpr c1
    refine x_iload_n 9 C dJ6_compare_7cf53_9 rfl 0 rfl ?_
    refine x_iload_n 10 C dJ6_compare_7cf53_10 rfl 1 rfl ?_
    refine x_icmp_ne 11 C 18 dJ6_compare_7cf53_11 (by decide) (fun c2 => ?_) (fun c2 => ?_)
    · skip
      refine x_iconst 18 C (v := 1) dJ6_compare_7cf53_18 rfl ?_
      refine x_iret 19 C dJ6_compare_7cf53_19 rfl rfl (Nat.le_refl _) (xN.intro ?_)
      refine ⟨?_, rfl, rfl⟩
      simp [icmp, c1, c1o, c2]
    · skip
      refine x_iconst 14 C (v := 0) dJ6_compare_7cf53_14 rfl ?_
      refine x_goto 15 C 19 dJ6_compare_7cf53_15 (by decide) ?_
      refine x_iret 19 C dJ6_compare_7cf53_19 rfl rfl (Nat.le_refl _) (xN.intro ?_)
      refine ⟨?_, rfl, rfl⟩
      simp [icmp, c1, c1o, c2]
  · skip
    have c1o := Int32.not_le.mp c1
    refine x_iconst 5 C (v := (-1)) dJ6_compare_7cf53_5 rfl ?_
    refine x_goto 6 C 19 dJ6_compare_7cf53_6 (by decide) ?_
    refine x_iret 19 C dJ6_compare_7cf53_19 rfl rfl (Nat.le_refl _) (xN.intro ?_)
    refine ⟨?_, rfl, rfl⟩
    simp [icmp, c1, c1o]
theorem dX6_compareParts_0 : decode cX6_compareParts 0 = .ok (.iconst 0, 1) := by decide +kernel
theorem dX6_compareParts_1 : decode cX6_compareParts 1 = .ok (.istore_n 2, 1) := by decide +kernel
theorem dX6_compareParts_2 : decode cX6_compareParts 2 = .ok (.iload_n 2, 1) := by decide +kernel
theorem dX6_compareParts_3 : decode cX6_compareParts 3 = .ok (.iconst 4, 1) := by decide +kernel
theorem dX6_compareParts_4 : decode cX6_compareParts 4 = .ok (.if_icmp .ge 29, 3) := by decide +kernel
theorem dX6_compareParts_7 : decode cX6_compareParts 7 = .ok (.aload_n 0, 1) := by decide +kernel
theorem dX6_compareParts_8 : decode cX6_compareParts 8 = .ok (.iload_n 2, 1) := by decide +kernel
theorem dX6_compareParts_9 : decode cX6_compareParts 9 = .ok (.invokevirtual 100, 3) := by decide +kernel
theorem dX6_compareParts_12 : decode cX6_compareParts 12 = .ok (.aload_n 1, 1) := by decide +kernel
theorem dX6_compareParts_13 : decode cX6_compareParts 13 = .ok (.iload_n 2, 1) := by decide +kernel
theorem dX6_compareParts_14 : decode cX6_compareParts 14 = .ok (.invokevirtual 100, 3) := by decide +kernel
theorem dX6_compareParts_17 : decode cX6_compareParts 17 = .ok (.invokestatic 110, 3) := by decide +kernel
theorem dX6_compareParts_20 : decode cX6_compareParts 20 = .ok (.istore_n 3, 1) := by decide +kernel
theorem dX6_compareParts_21 : decode cX6_compareParts 21 = .ok (.iload_n 3, 1) := by decide +kernel
theorem dX6_compareParts_22 : decode cX6_compareParts 22 = .ok (.ifCond .eq 5, 3) := by decide +kernel
theorem dX6_compareParts_25 : decode cX6_compareParts 25 = .ok (.iload_n 3, 1) := by decide +kernel
theorem dX6_compareParts_26 : decode cX6_compareParts 26 = .ok (.ireturn, 1) := by decide +kernel
theorem dX6_compareParts_27 : decode cX6_compareParts 27 = .ok (.iinc 2 1, 3) := by decide +kernel
theorem dX6_compareParts_30 : decode cX6_compareParts 30 = .ok (.goto (-28), 3) := by decide +kernel
theorem dX6_compareParts_33 : decode cX6_compareParts 33 = .ok (.iconst 0, 1) := by decide +kernel
theorem dX6_compareParts_34 : decode cX6_compareParts 34 = .ok (.ireturn, 1) := by decide +kernel
set_option maxHeartbeats 4000000 in
set_option maxRecDepth 100000 in
theorem t_X6_compareParts (l : Launch) (D : xD) (z n : Nat) (G : xG) (I : xI) (L : xL) (a : Nat) (b : Nat) (hP : shP G a) (hPb : shP G b) : xM0 l D z yX6_compareParts cX6_compareParts 4 (some .int) 2 44 [.ref a, .ref b] n G I L (xE (some (.int (pCmp I L a b))) I L) := by
  refine xM.of (by decide) (Nat.le_of_ble_eq_true rfl) (fun p e s m args below meth c C hnm hsz => ?_)
  refine x_lv [(0, .ref a), (1, .ref b)] rfl ?_
  refine x_iconst 0 C (v := 0) dX6_compareParts_0 rfl ?_
  refine x_istore_n 1 C [(2, .int 0), (0, .ref a), (1, .ref b)] dX6_compareParts_1 rfl (by decide) rfl ?_
  refine x_iload_n 2 C dX6_compareParts_2 rfl 0 rfl ?_
  refine x_iconst 3 C (v := 4) dX6_compareParts_3 rfl ?_
  refine x_icmp_ge 4 C 33 dX6_compareParts_4 (by decide) (fun c1 => absurd c1 (by decide)) (fun _ => ?_)
  refine x_aload_n 7 C dX6_compareParts_7 rfl 1 rfl ?_
  refine x_iload_n 8 C dX6_compareParts_8 rfl 0 rfl ?_
  refine x_callVe 9 C dX6_compareParts_9 (As := [.int 0]) (rest := []) [.int (ppart I L a 0)] (t_X6_part l D z n G I L a 0 hP (by first | assumption | omega)) mt_X6_part km_X6_100 ki_X6_part ks_X6_part hP.1 ⟨by decide, rfl⟩ rfl rfl (Nat.le_of_ble_eq_true rfl) ⟨⟨by decide, by decide⟩, by decide, by decide⟩ (fun I2 L3 eI2 eL3 => ?_)
  replace eI2 := eI2.symm; subst eI2
  replace eL3 := eL3.symm; subst eL3
  refine x_aload_n 12 C dX6_compareParts_12 rfl 2 rfl ?_
  refine x_iload_n 13 C dX6_compareParts_13 rfl 0 rfl ?_
  refine x_callVe 14 C dX6_compareParts_14 (As := [.int 0]) (rest := [.int (ppart I L a 0)]) [.int (ppart I L b 0), .int (ppart I L a 0)] (t_X6_part l D z n G I L b 0 hPb (by first | assumption | omega)) mt_X6_part km_X6_100 ki_X6_part ks_X6_part hPb.1 ⟨by decide, rfl⟩ rfl rfl (Nat.le_of_ble_eq_true rfl) ⟨⟨by decide, by decide⟩, by decide, by decide⟩ (fun I4 L5 eI4 eL5 => ?_)
  replace eI4 := eI4.symm; subst eI4
  replace eL5 := eL5.symm; subst eL5
  refine x_callSe 17 C dX6_compareParts_17 (As := [.int (ppart I L a 0), .int (ppart I L b 0)]) (rest := []) [.int (icmp (ppart I L a 0) (ppart I L b 0))] (t_J6_compare_7cf53 l D z n G I L (ppart I L a 0) (ppart I L b 0) ) mt_J6_compare_7cf53 km_X6_110 kt_J6_compare_7cf53 rfl rfl (Nat.le_of_ble_eq_true rfl) ⟨⟨by decide, by decide⟩, by decide, by decide⟩ (fun I6 L7 eI6 eL7 => ?_)
  replace eI6 := eI6.symm; subst eI6
  replace eL7 := eL7.symm; subst eL7
  refine x_top (fun v8 ev8 => ?_)
  refine x_istore_n 20 C [(3, .int v8), (2, .int 0), (0, .ref a), (1, .ref b)] dX6_compareParts_20 rfl (by decide) rfl ?_
  refine x_iload_n 21 C dX6_compareParts_21 rfl 0 rfl ?_
  refine x_if_eq 22 C 27 dX6_compareParts_22 (by decide) (fun c9 => ?_) (fun c9 => ?_)
  · skip
    refine x_iinc 27 C [(2, .int 1), (3, .int v8), (0, .ref a), (1, .ref b)] dX6_compareParts_27 1 rfl (by decide) (by decide) rfl ?_
    refine x_goto 30 C 2 dX6_compareParts_30 (by decide) ?_
    refine x_iload_n 2 C dX6_compareParts_2 rfl 0 rfl ?_
    refine x_iconst 3 C (v := 4) dX6_compareParts_3 rfl ?_
    refine x_icmp_ge 4 C 33 dX6_compareParts_4 (by decide) (fun c10 => absurd c10 (by decide)) (fun _ => ?_)
    refine x_aload_n 7 C dX6_compareParts_7 rfl 2 rfl ?_
    refine x_iload_n 8 C dX6_compareParts_8 rfl 0 rfl ?_
    refine x_callVe 9 C dX6_compareParts_9 (As := [.int 1]) (rest := []) [.int (ppart I L a 1)] (t_X6_part l D z n G I L a 1 hP (by first | assumption | omega)) mt_X6_part km_X6_100 ki_X6_part ks_X6_part hP.1 ⟨by decide, rfl⟩ rfl rfl (Nat.le_of_ble_eq_true rfl) ⟨⟨by decide, by decide⟩, by decide, by decide⟩ (fun I11 L12 eI11 eL12 => ?_)
    replace eI11 := eI11.symm; subst eI11
    replace eL12 := eL12.symm; subst eL12
    refine x_aload_n 12 C dX6_compareParts_12 rfl 3 rfl ?_
    refine x_iload_n 13 C dX6_compareParts_13 rfl 0 rfl ?_
    refine x_callVe 14 C dX6_compareParts_14 (As := [.int 1]) (rest := [.int (ppart I L a 1)]) [.int (ppart I L b 1), .int (ppart I L a 1)] (t_X6_part l D z n G I L b 1 hPb (by first | assumption | omega)) mt_X6_part km_X6_100 ki_X6_part ks_X6_part hPb.1 ⟨by decide, rfl⟩ rfl rfl (Nat.le_of_ble_eq_true rfl) ⟨⟨by decide, by decide⟩, by decide, by decide⟩ (fun I13 L14 eI13 eL14 => ?_)
    replace eI13 := eI13.symm; subst eI13
    replace eL14 := eL14.symm; subst eL14
    refine x_callSe 17 C dX6_compareParts_17 (As := [.int (ppart I L a 1), .int (ppart I L b 1)]) (rest := []) [.int (icmp (ppart I L a 1) (ppart I L b 1))] (t_J6_compare_7cf53 l D z n G I L (ppart I L a 1) (ppart I L b 1) ) mt_J6_compare_7cf53 km_X6_110 kt_J6_compare_7cf53 rfl rfl (Nat.le_of_ble_eq_true rfl) ⟨⟨by decide, by decide⟩, by decide, by decide⟩ (fun I15 L16 eI15 eL16 => ?_)
    replace eI15 := eI15.symm; subst eI15
    replace eL16 := eL16.symm; subst eL16
    refine x_top (fun v17 ev17 => ?_)
    refine x_istore_n 20 C [(3, .int v17), (2, .int 1), (0, .ref a), (1, .ref b)] dX6_compareParts_20 rfl (by decide) rfl ?_
    refine x_iload_n 21 C dX6_compareParts_21 rfl 0 rfl ?_
    refine x_if_eq 22 C 27 dX6_compareParts_22 (by decide) (fun c18 => ?_) (fun c18 => ?_)
    · skip
      refine x_iinc 27 C [(2, .int 2), (3, .int v17), (0, .ref a), (1, .ref b)] dX6_compareParts_27 1 rfl (by decide) (by decide) rfl ?_
      refine x_goto 30 C 2 dX6_compareParts_30 (by decide) ?_
      refine x_iload_n 2 C dX6_compareParts_2 rfl 0 rfl ?_
      refine x_iconst 3 C (v := 4) dX6_compareParts_3 rfl ?_
      refine x_icmp_ge 4 C 33 dX6_compareParts_4 (by decide) (fun c19 => absurd c19 (by decide)) (fun _ => ?_)
      refine x_aload_n 7 C dX6_compareParts_7 rfl 2 rfl ?_
      refine x_iload_n 8 C dX6_compareParts_8 rfl 0 rfl ?_
      refine x_callVe 9 C dX6_compareParts_9 (As := [.int 2]) (rest := []) [.int (ppart I L a 2)] (t_X6_part l D z n G I L a 2 hP (by first | assumption | omega)) mt_X6_part km_X6_100 ki_X6_part ks_X6_part hP.1 ⟨by decide, rfl⟩ rfl rfl (Nat.le_of_ble_eq_true rfl) ⟨⟨by decide, by decide⟩, by decide, by decide⟩ (fun I20 L21 eI20 eL21 => ?_)
      replace eI20 := eI20.symm; subst eI20
      replace eL21 := eL21.symm; subst eL21
      refine x_aload_n 12 C dX6_compareParts_12 rfl 3 rfl ?_
      refine x_iload_n 13 C dX6_compareParts_13 rfl 0 rfl ?_
      refine x_callVe 14 C dX6_compareParts_14 (As := [.int 2]) (rest := [.int (ppart I L a 2)]) [.int (ppart I L b 2), .int (ppart I L a 2)] (t_X6_part l D z n G I L b 2 hPb (by first | assumption | omega)) mt_X6_part km_X6_100 ki_X6_part ks_X6_part hPb.1 ⟨by decide, rfl⟩ rfl rfl (Nat.le_of_ble_eq_true rfl) ⟨⟨by decide, by decide⟩, by decide, by decide⟩ (fun I22 L23 eI22 eL23 => ?_)
      replace eI22 := eI22.symm; subst eI22
      replace eL23 := eL23.symm; subst eL23
      refine x_callSe 17 C dX6_compareParts_17 (As := [.int (ppart I L a 2), .int (ppart I L b 2)]) (rest := []) [.int (icmp (ppart I L a 2) (ppart I L b 2))] (t_J6_compare_7cf53 l D z n G I L (ppart I L a 2) (ppart I L b 2) ) mt_J6_compare_7cf53 km_X6_110 kt_J6_compare_7cf53 rfl rfl (Nat.le_of_ble_eq_true rfl) ⟨⟨by decide, by decide⟩, by decide, by decide⟩ (fun I24 L25 eI24 eL25 => ?_)
      replace eI24 := eI24.symm; subst eI24
      replace eL25 := eL25.symm; subst eL25
      refine x_top (fun v26 ev26 => ?_)
      refine x_istore_n 20 C [(3, .int v26), (2, .int 2), (0, .ref a), (1, .ref b)] dX6_compareParts_20 rfl (by decide) rfl ?_
      refine x_iload_n 21 C dX6_compareParts_21 rfl 0 rfl ?_
      refine x_if_eq 22 C 27 dX6_compareParts_22 (by decide) (fun c27 => ?_) (fun c27 => ?_)
      · skip
        refine x_iinc 27 C [(2, .int 3), (3, .int v26), (0, .ref a), (1, .ref b)] dX6_compareParts_27 1 rfl (by decide) (by decide) rfl ?_
        refine x_goto 30 C 2 dX6_compareParts_30 (by decide) ?_
        refine x_iload_n 2 C dX6_compareParts_2 rfl 0 rfl ?_
        refine x_iconst 3 C (v := 4) dX6_compareParts_3 rfl ?_
        refine x_icmp_ge 4 C 33 dX6_compareParts_4 (by decide) (fun c28 => absurd c28 (by decide)) (fun _ => ?_)
        refine x_aload_n 7 C dX6_compareParts_7 rfl 2 rfl ?_
        refine x_iload_n 8 C dX6_compareParts_8 rfl 0 rfl ?_
        refine x_callVe 9 C dX6_compareParts_9 (As := [.int 3]) (rest := []) [.int (ppart I L a 3)] (t_X6_part l D z n G I L a 3 hP (by first | assumption | omega)) mt_X6_part km_X6_100 ki_X6_part ks_X6_part hP.1 ⟨by decide, rfl⟩ rfl rfl (Nat.le_of_ble_eq_true rfl) ⟨⟨by decide, by decide⟩, by decide, by decide⟩ (fun I29 L30 eI29 eL30 => ?_)
        replace eI29 := eI29.symm; subst eI29
        replace eL30 := eL30.symm; subst eL30
        refine x_aload_n 12 C dX6_compareParts_12 rfl 3 rfl ?_
        refine x_iload_n 13 C dX6_compareParts_13 rfl 0 rfl ?_
        refine x_callVe 14 C dX6_compareParts_14 (As := [.int 3]) (rest := [.int (ppart I L a 3)]) [.int (ppart I L b 3), .int (ppart I L a 3)] (t_X6_part l D z n G I L b 3 hPb (by first | assumption | omega)) mt_X6_part km_X6_100 ki_X6_part ks_X6_part hPb.1 ⟨by decide, rfl⟩ rfl rfl (Nat.le_of_ble_eq_true rfl) ⟨⟨by decide, by decide⟩, by decide, by decide⟩ (fun I31 L32 eI31 eL32 => ?_)
        replace eI31 := eI31.symm; subst eI31
        replace eL32 := eL32.symm; subst eL32
        refine x_callSe 17 C dX6_compareParts_17 (As := [.int (ppart I L a 3), .int (ppart I L b 3)]) (rest := []) [.int (icmp (ppart I L a 3) (ppart I L b 3))] (t_J6_compare_7cf53 l D z n G I L (ppart I L a 3) (ppart I L b 3) ) mt_J6_compare_7cf53 km_X6_110 kt_J6_compare_7cf53 rfl rfl (Nat.le_of_ble_eq_true rfl) ⟨⟨by decide, by decide⟩, by decide, by decide⟩ (fun I33 L34 eI33 eL34 => ?_)
        replace eI33 := eI33.symm; subst eI33
        replace eL34 := eL34.symm; subst eL34
        refine x_top (fun v35 ev35 => ?_)
        refine x_istore_n 20 C [(3, .int v35), (2, .int 3), (0, .ref a), (1, .ref b)] dX6_compareParts_20 rfl (by decide) rfl ?_
        refine x_iload_n 21 C dX6_compareParts_21 rfl 0 rfl ?_
        refine x_if_eq 22 C 27 dX6_compareParts_22 (by decide) (fun c36 => ?_) (fun c36 => ?_)
        · skip
          refine x_iinc 27 C [(2, .int 4), (3, .int v35), (0, .ref a), (1, .ref b)] dX6_compareParts_27 1 rfl (by decide) (by decide) rfl ?_
          refine x_goto 30 C 2 dX6_compareParts_30 (by decide) ?_
          refine x_iload_n 2 C dX6_compareParts_2 rfl 0 rfl ?_
          refine x_iconst 3 C (v := 4) dX6_compareParts_3 rfl ?_
          refine x_icmp_ge 4 C 33 dX6_compareParts_4 (by decide) (fun _ => ?_) (fun c37 => absurd (by decide) c37)
          refine x_iconst 33 C (v := 0) dX6_compareParts_33 rfl ?_
          refine x_iret 34 C dX6_compareParts_34 rfl rfl (Nat.le_refl _) (xN.intro ?_)
          subst ev8; subst ev17; subst ev26; subst ev35
          refine ⟨?_, rfl, rfl⟩
          simp [pCmp, c9, c18, c27, c36]
        · skip
          refine x_iload_n 25 C dX6_compareParts_25 rfl 0 rfl ?_
          refine x_iret 26 C dX6_compareParts_26 rfl rfl (Nat.le_refl _) (xN.intro ?_)
          subst ev8; subst ev17; subst ev26; subst ev35
          refine ⟨?_, rfl, rfl⟩
          simp [pCmp, c9, c18, c27, c36]
      · skip
        refine x_iload_n 25 C dX6_compareParts_25 rfl 0 rfl ?_
        refine x_iret 26 C dX6_compareParts_26 rfl rfl (Nat.le_refl _) (xN.intro ?_)
        subst ev8; subst ev17; subst ev26
        refine ⟨?_, rfl, rfl⟩
        simp [pCmp, c9, c18, c27]
    · skip
      refine x_iload_n 25 C dX6_compareParts_25 rfl 0 rfl ?_
      refine x_iret 26 C dX6_compareParts_26 rfl rfl (Nat.le_refl _) (xN.intro ?_)
      subst ev8; subst ev17
      refine ⟨?_, rfl, rfl⟩
      simp [pCmp, c9, c18]
  · skip
    refine x_iload_n 25 C dX6_compareParts_25 rfl 0 rfl ?_
    refine x_iret 26 C dX6_compareParts_26 rfl rfl (Nat.le_refl _) (xN.intro ?_)
    subst ev8
    refine ⟨?_, rfl, rfl⟩
    simp [pCmp, c9]
theorem dX6_moveOn_0 : decode cX6_moveOn 0 = .ok (.aload_n 0, 1) := by decide +kernel
theorem dX6_moveOn_1 : decode cX6_moveOn 1 = .ok (.getfield 10, 3) := by decide +kernel
theorem dX6_moveOn_4 : decode cX6_moveOn 4 = .ok (.aload_n 2, 1) := by decide +kernel
theorem dX6_moveOn_5 : decode cX6_moveOn 5 = .ok (.invokevirtual 68, 3) := by decide +kernel
theorem dX6_moveOn_8 : decode cX6_moveOn 8 = .ok (.aload_n 0, 1) := by decide +kernel
theorem dX6_moveOn_9 : decode cX6_moveOn 9 = .ok (.getfield 16, 3) := by decide +kernel
theorem dX6_moveOn_12 : decode cX6_moveOn 12 = .ok (.aload_n 3, 1) := by decide +kernel
theorem dX6_moveOn_13 : decode cX6_moveOn 13 = .ok (.invokevirtual 68, 3) := by decide +kernel
theorem dX6_moveOn_16 : decode cX6_moveOn 16 = .ok (.aload_n 0, 1) := by decide +kernel
theorem dX6_moveOn_17 : decode cX6_moveOn 17 = .ok (.dup, 1) := by decide +kernel
theorem dX6_moveOn_18 : decode cX6_moveOn 18 = .ok (.getfield 23, 3) := by decide +kernel
theorem dX6_moveOn_21 : decode cX6_moveOn 21 = .ok (.iload_n 1, 1) := by decide +kernel
theorem dX6_moveOn_22 : decode cX6_moveOn 22 = .ok (.iadd, 1) := by decide +kernel
theorem dX6_moveOn_23 : decode cX6_moveOn 23 = .ok (.putfield 23, 3) := by decide +kernel
theorem dX6_moveOn_26 : decode cX6_moveOn 26 = .ok (.aload_n 0, 1) := by decide +kernel
theorem dX6_moveOn_27 : decode cX6_moveOn 27 = .ok (.dup, 1) := by decide +kernel
theorem dX6_moveOn_28 : decode cX6_moveOn 28 = .ok (.getfield 41, 3) := by decide +kernel
theorem dX6_moveOn_31 : decode cX6_moveOn 31 = .ok (.iconst 1, 1) := by decide +kernel
theorem dX6_moveOn_32 : decode cX6_moveOn 32 = .ok (.iadd, 1) := by decide +kernel
theorem dX6_moveOn_33 : decode cX6_moveOn 33 = .ok (.putfield 41, 3) := by decide +kernel
theorem dX6_moveOn_36 : decode cX6_moveOn 36 = .ok (.aload_n 0, 1) := by decide +kernel
theorem dX6_moveOn_37 : decode cX6_moveOn 37 = .ok (.dup, 1) := by decide +kernel
theorem dX6_moveOn_38 : decode cX6_moveOn 38 = .ok (.getfield 47, 3) := by decide +kernel
theorem dX6_moveOn_41 : decode cX6_moveOn 41 = .ok (.iconst 1, 1) := by decide +kernel
theorem dX6_moveOn_42 : decode cX6_moveOn 42 = .ok (.iadd, 1) := by decide +kernel
theorem dX6_moveOn_43 : decode cX6_moveOn 43 = .ok (.putfield 47, 3) := by decide +kernel
theorem dX6_moveOn_46 : decode cX6_moveOn 46 = .ok (.aload_n 0, 1) := by decide +kernel
theorem dX6_moveOn_47 : decode cX6_moveOn 47 = .ok (.getfield 47, 3) := by decide +kernel
theorem dX6_moveOn_50 : decode cX6_moveOn 50 = .ok (.iconst 3, 1) := by decide +kernel
theorem dX6_moveOn_51 : decode cX6_moveOn 51 = .ok (.if_icmp .lt 25, 3) := by decide +kernel
theorem dX6_moveOn_54 : decode cX6_moveOn 54 = .ok (.aload_n 0, 1) := by decide +kernel
theorem dX6_moveOn_55 : decode cX6_moveOn 55 = .ok (.iconst 0, 1) := by decide +kernel
theorem dX6_moveOn_56 : decode cX6_moveOn 56 = .ok (.putfield 47, 3) := by decide +kernel
theorem dX6_moveOn_59 : decode cX6_moveOn 59 = .ok (.aload_n 0, 1) := by decide +kernel
theorem dX6_moveOn_60 : decode cX6_moveOn 60 = .ok (.aload_n 0, 1) := by decide +kernel
theorem dX6_moveOn_61 : decode cX6_moveOn 61 = .ok (.getfield 35, 3) := by decide +kernel
theorem dX6_moveOn_64 : decode cX6_moveOn 64 = .ok (.iconst 2, 1) := by decide +kernel
theorem dX6_moveOn_65 : decode cX6_moveOn 65 = .ok (.imul, 1) := by decide +kernel
theorem dX6_moveOn_66 : decode cX6_moveOn 66 = .ok (.aload_n 0, 1) := by decide +kernel
theorem dX6_moveOn_67 : decode cX6_moveOn 67 = .ok (.getfield 26, 3) := by decide +kernel
theorem dX6_moveOn_70 : decode cX6_moveOn 70 = .ok (.invokestatic 29, 3) := by decide +kernel
theorem dX6_moveOn_73 : decode cX6_moveOn 73 = .ok (.putfield 35, 3) := by decide +kernel
theorem dX6_moveOn_76 : decode cX6_moveOn 76 = .ok (.aload_n 0, 1) := by decide +kernel
theorem dX6_moveOn_77 : decode cX6_moveOn 77 = .ok (.getfield 10, 3) := by decide +kernel
theorem dX6_moveOn_80 : decode cX6_moveOn 80 = .ok (.invokevirtual 76, 3) := by decide +kernel
theorem dX6_moveOn_83 : decode cX6_moveOn 83 = .ok (.aload_n 0, 1) := by decide +kernel
theorem dX6_moveOn_84 : decode cX6_moveOn 84 = .ok (.getfield 16, 3) := by decide +kernel
theorem dX6_moveOn_87 : decode cX6_moveOn 87 = .ok (.invokevirtual 76, 3) := by decide +kernel
theorem dX6_moveOn_90 : decode cX6_moveOn 90 = .ok (.invokestatic 79, 3) := by decide +kernel
theorem dX6_moveOn_93 : decode cX6_moveOn 93 = .ok (.iload 4, 2) := by decide +kernel
theorem dX6_moveOn_95 : decode cX6_moveOn 95 = .ok (.i2l, 1) := by decide +kernel
theorem dX6_moveOn_96 : decode cX6_moveOn 96 = .ok (.aload_n 0, 1) := by decide +kernel
theorem dX6_moveOn_97 : decode cX6_moveOn 97 = .ok (.invokevirtual 50, 3) := by decide +kernel
theorem dX6_moveOn_100 : decode cX6_moveOn 100 = .ok (.lmul, 1) := by decide +kernel
theorem dX6_moveOn_101 : decode cX6_moveOn 101 = .ok (.lcmp, 1) := by decide +kernel
theorem dX6_moveOn_102 : decode cX6_moveOn 102 = .ok (.ifCond .le 11, 3) := by decide +kernel
theorem dX6_moveOn_105 : decode cX6_moveOn 105 = .ok (.aload_n 0, 1) := by decide +kernel
theorem dX6_moveOn_106 : decode cX6_moveOn 106 = .ok (.iconst 2, 1) := by decide +kernel
theorem dX6_moveOn_107 : decode cX6_moveOn 107 = .ok (.putfield 19, 3) := by decide +kernel
theorem dX6_moveOn_110 : decode cX6_moveOn 110 = .ok (.goto 18, 3) := by decide +kernel
theorem dX6_moveOn_113 : decode cX6_moveOn 113 = .ok (.aload_n 0, 1) := by decide +kernel
theorem dX6_moveOn_114 : decode cX6_moveOn 114 = .ok (.getfield 23, 3) := by decide +kernel
theorem dX6_moveOn_117 : decode cX6_moveOn 117 = .ok (.sipush 1024, 3) := by decide +kernel
theorem dX6_moveOn_120 : decode cX6_moveOn 120 = .ok (.if_icmp .lt 8, 3) := by decide +kernel
theorem dX6_moveOn_123 : decode cX6_moveOn 123 = .ok (.aload_n 0, 1) := by decide +kernel
theorem dX6_moveOn_124 : decode cX6_moveOn 124 = .ok (.iconst 1, 1) := by decide +kernel
theorem dX6_moveOn_125 : decode cX6_moveOn 125 = .ok (.putfield 19, 3) := by decide +kernel
theorem dX6_moveOn_128 : decode cX6_moveOn 128 = .ok (.return_, 1) := by decide +kernel
set_option maxHeartbeats 4000000 in
set_option maxRecDepth 100000 in
theorem t_X6_moveOn (l : Launch) (D : xD) (z n : Nat) (G : xG) (I : xI) (L : xL) (a : Nat) (h0 : Int32) (b : Nat) (d : Nat) (bo : Int32) (hP : shP G a) (gb : G b = some (0, 0, rN)) (gd : G d = some (0, 0, rN)) (za : z ≤ a) (hd : d ≠ a + 1) : xM0 l D z yX6_moveOn cX6_moveOn 5 none 2 43 [.ref a, .int h0, .ref b, .ref d, .int bo] n G I L (xE none (pMoveI I a h0 bo (lmax (csize (L b 0) (L b 1)) (csize (L d 0) (L d 1)))) (cput (cput L (a + 1) (L b 0) (L b 1)) (a + 2) (L d 0) (L d 1))) := by
  refine xM.of (by decide) (Nat.le_of_ble_eq_true rfl) (fun p e s m args below meth c C hnm hsz => ?_)
  refine x_lv [(0, .ref a), (1, .int h0), (2, .ref b), (3, .ref d), (4, .int bo)] rfl ?_
  refine x_aload_n 0 C dX6_moveOn_0 rfl 0 rfl ?_
  refine x_getr 1 C (b := a + 1) dX6_moveOn_1 ff_X6_10 rfl hP.1 rfl ?_
  refine x_aload_n 4 C dX6_moveOn_4 rfl 2 rfl ?_
  refine x_callVe 5 C dX6_moveOn_5 (As := [.ref b]) (rest := []) [] (t_X0_copy l D z n G I L (a + 1) b hP.2.1 gb (by omega)) mt_X0_copy km_X6_68 ki_X0_copy ks_X0_copy hP.2.1 ⟨by decide, rfl⟩ rfl rfl (Nat.le_of_ble_eq_true rfl) ⟨⟨by decide, by decide⟩, by decide, by decide⟩ (fun I1 L2 eI1 eL2 => ?_)
  replace eI1 := eI1.symm; subst eI1
  refine x_aload_n 8 C dX6_moveOn_8 rfl 0 rfl ?_
  refine x_getr 9 C (b := a + 2) dX6_moveOn_9 ff_X6_16 rfl hP.1 rfl ?_
  refine x_aload_n 12 C dX6_moveOn_12 rfl 3 rfl ?_
  refine x_callVe 13 C dX6_moveOn_13 (As := [.ref d]) (rest := []) [] (t_X0_copy l D z n G I L2 (a + 2) d hP.2.2 gd (by omega)) mt_X0_copy km_X6_68 ki_X0_copy ks_X0_copy hP.2.2 ⟨by decide, rfl⟩ rfl rfl (Nat.le_of_ble_eq_true rfl) ⟨⟨by decide, by decide⟩, by decide, by decide⟩ (fun I3 L4 eI3 eL4 => ?_)
  replace eI3 := eI3.symm; subst eI3
  refine x_aload_n 16 C dX6_moveOn_16 rfl 0 rfl ?_
  refine x_dup 17 C dX6_moveOn_17 rfl ?_
  refine x_geti 18 C dX6_moveOn_18 ff_X6_23 hP.1 ?_
  refine x_iload_n 21 C dX6_moveOn_21 rfl 1 rfl ?_
  refine x_iadd 22 C dX6_moveOn_22 ?_
  refine x_puti 23 C dX6_moveOn_23 ff_X6_23 rfl hP.1 (by omega) (fun I5 eI5 => ?_)
  refine x_aload_n 26 C dX6_moveOn_26 rfl 0 rfl ?_
  refine x_dup 27 C dX6_moveOn_27 rfl ?_
  refine x_geti 28 C dX6_moveOn_28 ff_X6_41 hP.1 ?_
  refine x_int (I a 7) (by simp [eI5, xup, cput, hd]) ?_
  refine x_iconst 31 C (v := 1) dX6_moveOn_31 rfl ?_
  refine x_iadd 32 C dX6_moveOn_32 ?_
  refine x_puti 33 C dX6_moveOn_33 ff_X6_41 rfl hP.1 (by omega) (fun I6 eI6 => ?_)
  refine x_aload_n 36 C dX6_moveOn_36 rfl 0 rfl ?_
  refine x_dup 37 C dX6_moveOn_37 rfl ?_
  refine x_geti 38 C dX6_moveOn_38 ff_X6_47 hP.1 ?_
  refine x_int (I a 9) (by simp [eI5, eI6, xup, cput, hd]) ?_
  refine x_iconst 41 C (v := 1) dX6_moveOn_41 rfl ?_
  refine x_iadd 42 C dX6_moveOn_42 ?_
  refine x_puti 43 C dX6_moveOn_43 ff_X6_47 rfl hP.1 (by omega) (fun I7 eI7 => ?_)
  refine x_aload_n 46 C dX6_moveOn_46 rfl 0 rfl ?_
  refine x_geti 47 C dX6_moveOn_47 ff_X6_47 hP.1 ?_
  refine x_int ((I a 9) + 1) (by simp [eI5, eI6, eI7, xup, cput, hd]) ?_
  refine x_iconst 50 C (v := 3) dX6_moveOn_50 rfl ?_
  refine x_icmp_lt 51 C 76 dX6_moveOn_51 (by decide) (fun c8 => ?_) (fun c8 => ?_)
  · skip
    have c8o := Int32.not_le.mpr c8
    refine x_aload_n 76 C dX6_moveOn_76 rfl 0 rfl ?_
    refine x_getr 77 C (b := a + 1) dX6_moveOn_77 ff_X6_10 rfl hP.1 rfl ?_
    refine x_callVe 80 C dX6_moveOn_80 (As := []) (rest := []) [.long (csize (L4 (a + 1) 0) (L4 (a + 1) 1))] (t_X0_size l D z n G I7 L4 (a + 1) hP.2.1) mt_X0_size km_X6_76 ki_X0_size ks_X0_size hP.2.1 ⟨by decide, rfl⟩ rfl rfl (Nat.le_of_ble_eq_true rfl) ⟨⟨by decide, by decide⟩, by decide, by decide⟩ (fun I9 L10 eI9 eL10 => ?_)
    replace eI9 := eI9.symm; subst eI9
    replace eL10 := eL10.symm; subst eL10
    refine x_long (csize (L b 0) (L b 1)) (by simp [eL2, eL4, eI5, eI6, eI7, cput, xup]) ?_
    refine x_aload_n 83 C dX6_moveOn_83 rfl 0 rfl ?_
    refine x_getr 84 C (b := a + 2) dX6_moveOn_84 ff_X6_16 rfl hP.1 rfl ?_
    refine x_callVe 87 C dX6_moveOn_87 (As := []) (rest := [.long (csize (L b 0) (L b 1))]) [.long (csize (L4 (a + 2) 0) (L4 (a + 2) 1)), .long (csize (L b 0) (L b 1))] (t_X0_size l D z n G I7 L4 (a + 2) hP.2.2) mt_X0_size km_X6_76 ki_X0_size ks_X0_size hP.2.2 ⟨by decide, rfl⟩ rfl rfl (Nat.le_of_ble_eq_true rfl) ⟨⟨by decide, by decide⟩, by decide, by decide⟩ (fun I11 L12 eI11 eL12 => ?_)
    replace eI11 := eI11.symm; subst eI11
    replace eL12 := eL12.symm; subst eL12
    refine x_long (csize (L d 0) (L d 1)) (by simp [eL2, eL4, eI5, eI6, eI7, cput, xup, hd]) ?_
    refine x_mmaxl 90 C dX6_moveOn_90 km_X6_79 kt_J9_max_f86c9 kn_J9 kc_J9_max_f86c9 ⟨by decide, Nat.le_of_ble_eq_true rfl, by decide, by decide⟩ ?_
    refine x_long (lmax (csize (L b 0) (L b 1)) (csize (L d 0) (L d 1))) rfl ?_
    refine x_iload 93 C dX6_moveOn_93 4 rfl ?_
    refine x_i2l 95 C dX6_moveOn_95 ?_
    refine x_aload_n 96 C dX6_moveOn_96 rfl 0 rfl ?_
    refine x_callVe 97 C dX6_moveOn_97 (As := []) (rest := [.long (Int32.toInt64 bo), .long (lmax (csize (L b 0) (L b 1)) (csize (L d 0) (L d 1)))]) [.long (punit (I7 a 6)), .long (Int32.toInt64 bo), .long (lmax (csize (L b 0) (L b 1)) (csize (L d 0) (L d 1)))] (t_X6_unit l D z n G I7 L4 a hP) mt_X6_unit km_X6_50 ki_X6_unit ks_X6_unit hP.1 ⟨by decide, rfl⟩ rfl rfl (Nat.le_of_ble_eq_true rfl) ⟨⟨by decide, by decide⟩, by decide, by decide⟩ (fun I13 L14 eI13 eL14 => ?_)
    replace eI13 := eI13.symm; subst eI13
    replace eL14 := eL14.symm; subst eL14
    refine x_long (punit (I a 6)) (by simp [eL2, eL4, eI5, eI6, eI7, xup]) ?_
    refine x_lmul 100 C dX6_moveOn_100 ?_
    refine x_lc_le 101 C 113 dX6_moveOn_101 dX6_moveOn_102 (by decide) (fun c15 => ?_) (fun c15 => ?_)
    · skip
      have c15o := Int64.not_lt.mpr c15
      refine x_aload_n 113 C dX6_moveOn_113 rfl 0 rfl ?_
      refine x_geti 114 C dX6_moveOn_114 ff_X6_23 hP.1 ?_
      refine x_int ((I a 3) + h0) (by simp [eI5, eI6, eI7, xup, cput, hd]) ?_
      refine x_sipush 117 C (v := 1024) dX6_moveOn_117 rfl ?_
      refine x_icmp_lt 120 C 128 dX6_moveOn_120 (by decide) (fun c16 => ?_) (fun c16 => ?_)
      · skip
        have c16o := Int32.not_le.mpr c16
        refine x_vret 128 C dX6_moveOn_128 rfl (Nat.le_refl _) (xN.intro ?_)
        subst eL2; subst eL4; subst eI5; subst eI6; subst eI7
        refine ⟨rfl, ?_, by rw [cput_ne _ _ _ hd]⟩
        simp [pMoveI, pMove2, pMove1, c8, c8o, c15, c15o, c16, c16o]
      · skip
        have c16o := Int32.not_lt.mp c16
        refine x_aload_n 123 C dX6_moveOn_123 rfl 0 rfl ?_
        refine x_iconst 124 C (v := 1) dX6_moveOn_124 rfl ?_
        refine x_puti 125 C dX6_moveOn_125 ff_X6_19 rfl hP.1 (by omega) (fun I17 eI17 => ?_)
        refine x_vret 128 C dX6_moveOn_128 rfl (Nat.le_refl _) (xN.intro ?_)
        subst eL2; subst eL4; subst eI5; subst eI6; subst eI7; subst eI17
        refine ⟨rfl, ?_, by rw [cput_ne _ _ _ hd]⟩
        simp [pMoveI, pMove2, pMove1, c8, c8o, c15, c15o, c16, c16o]
    · skip
      have c15o := Int64.not_le.mp c15
      refine x_aload_n 105 C dX6_moveOn_105 rfl 0 rfl ?_
      refine x_iconst 106 C (v := 2) dX6_moveOn_106 rfl ?_
      refine x_puti 107 C dX6_moveOn_107 ff_X6_19 rfl hP.1 (by omega) (fun I18 eI18 => ?_)
      refine x_goto 110 C 128 dX6_moveOn_110 (by decide) ?_
      refine x_vret 128 C dX6_moveOn_128 rfl (Nat.le_refl _) (xN.intro ?_)
      subst eL2; subst eL4; subst eI5; subst eI6; subst eI7; subst eI18
      refine ⟨rfl, ?_, by rw [cput_ne _ _ _ hd]⟩
      simp [pMoveI, pMove2, pMove1, c8, c8o, c15, c15o]
  · skip
    have c8o := Int32.not_lt.mp c8
    refine x_aload_n 54 C dX6_moveOn_54 rfl 0 rfl ?_
    refine x_iconst 55 C (v := 0) dX6_moveOn_55 rfl ?_
    refine x_puti 56 C dX6_moveOn_56 ff_X6_47 rfl hP.1 (by omega) (fun I19 eI19 => ?_)
    refine x_aload_n 59 C dX6_moveOn_59 rfl 0 rfl ?_
    refine x_aload_n 60 C dX6_moveOn_60 rfl 0 rfl ?_
    refine x_geti 61 C dX6_moveOn_61 ff_X6_35 hP.1 ?_
    refine x_int (I a 4) (by simp [eI5, eI6, eI7, eI19, xup, cput, hd]) ?_
    refine x_iconst 64 C (v := 2) dX6_moveOn_64 rfl ?_
    refine x_imul 65 C dX6_moveOn_65 ?_
    refine x_aload_n 66 C dX6_moveOn_66 rfl 0 rfl ?_
    refine x_geti 67 C dX6_moveOn_67 ff_X6_26 hP.1 ?_
    refine x_int (I a 5) (by simp [eI5, eI6, eI7, eI19, xup, cput, hd]) ?_
    refine x_mmin 70 C dX6_moveOn_70 km_X6_29 kt_J9_min_7cf53 kn_J9 kc_J9_min_7cf53 ⟨by decide, Nat.le_of_ble_eq_true rfl, by decide, by decide⟩ ?_
    refine x_int (imin (I a 4 * 2) (I a 5)) rfl ?_
    refine x_puti 73 C dX6_moveOn_73 ff_X6_35 rfl hP.1 (by omega) (fun I20 eI20 => ?_)
    refine x_aload_n 76 C dX6_moveOn_76 rfl 0 rfl ?_
    refine x_getr 77 C (b := a + 1) dX6_moveOn_77 ff_X6_10 rfl hP.1 rfl ?_
    refine x_callVe 80 C dX6_moveOn_80 (As := []) (rest := []) [.long (csize (L4 (a + 1) 0) (L4 (a + 1) 1))] (t_X0_size l D z n G I20 L4 (a + 1) hP.2.1) mt_X0_size km_X6_76 ki_X0_size ks_X0_size hP.2.1 ⟨by decide, rfl⟩ rfl rfl (Nat.le_of_ble_eq_true rfl) ⟨⟨by decide, by decide⟩, by decide, by decide⟩ (fun I21 L22 eI21 eL22 => ?_)
    replace eI21 := eI21.symm; subst eI21
    replace eL22 := eL22.symm; subst eL22
    refine x_long (csize (L b 0) (L b 1)) (by simp [eL2, eL4, eI5, eI6, eI7, eI19, eI20, cput, xup]) ?_
    refine x_aload_n 83 C dX6_moveOn_83 rfl 0 rfl ?_
    refine x_getr 84 C (b := a + 2) dX6_moveOn_84 ff_X6_16 rfl hP.1 rfl ?_
    refine x_callVe 87 C dX6_moveOn_87 (As := []) (rest := [.long (csize (L b 0) (L b 1))]) [.long (csize (L4 (a + 2) 0) (L4 (a + 2) 1)), .long (csize (L b 0) (L b 1))] (t_X0_size l D z n G I20 L4 (a + 2) hP.2.2) mt_X0_size km_X6_76 ki_X0_size ks_X0_size hP.2.2 ⟨by decide, rfl⟩ rfl rfl (Nat.le_of_ble_eq_true rfl) ⟨⟨by decide, by decide⟩, by decide, by decide⟩ (fun I23 L24 eI23 eL24 => ?_)
    replace eI23 := eI23.symm; subst eI23
    replace eL24 := eL24.symm; subst eL24
    refine x_long (csize (L d 0) (L d 1)) (by simp [eL2, eL4, eI5, eI6, eI7, eI19, eI20, cput, xup, hd]) ?_
    refine x_mmaxl 90 C dX6_moveOn_90 km_X6_79 kt_J9_max_f86c9 kn_J9 kc_J9_max_f86c9 ⟨by decide, Nat.le_of_ble_eq_true rfl, by decide, by decide⟩ ?_
    refine x_long (lmax (csize (L b 0) (L b 1)) (csize (L d 0) (L d 1))) rfl ?_
    refine x_iload 93 C dX6_moveOn_93 4 rfl ?_
    refine x_i2l 95 C dX6_moveOn_95 ?_
    refine x_aload_n 96 C dX6_moveOn_96 rfl 0 rfl ?_
    refine x_callVe 97 C dX6_moveOn_97 (As := []) (rest := [.long (Int32.toInt64 bo), .long (lmax (csize (L b 0) (L b 1)) (csize (L d 0) (L d 1)))]) [.long (punit (I20 a 6)), .long (Int32.toInt64 bo), .long (lmax (csize (L b 0) (L b 1)) (csize (L d 0) (L d 1)))] (t_X6_unit l D z n G I20 L4 a hP) mt_X6_unit km_X6_50 ki_X6_unit ks_X6_unit hP.1 ⟨by decide, rfl⟩ rfl rfl (Nat.le_of_ble_eq_true rfl) ⟨⟨by decide, by decide⟩, by decide, by decide⟩ (fun I25 L26 eI25 eL26 => ?_)
    replace eI25 := eI25.symm; subst eI25
    replace eL26 := eL26.symm; subst eL26
    refine x_long (punit (I a 6)) (by simp [eL2, eL4, eI5, eI6, eI7, eI19, eI20, xup]) ?_
    refine x_lmul 100 C dX6_moveOn_100 ?_
    refine x_lc_le 101 C 113 dX6_moveOn_101 dX6_moveOn_102 (by decide) (fun c27 => ?_) (fun c27 => ?_)
    · skip
      have c27o := Int64.not_lt.mpr c27
      refine x_aload_n 113 C dX6_moveOn_113 rfl 0 rfl ?_
      refine x_geti 114 C dX6_moveOn_114 ff_X6_23 hP.1 ?_
      refine x_int ((I a 3) + h0) (by simp [eI5, eI6, eI7, eI19, eI20, xup, cput, hd]) ?_
      refine x_sipush 117 C (v := 1024) dX6_moveOn_117 rfl ?_
      refine x_icmp_lt 120 C 128 dX6_moveOn_120 (by decide) (fun c28 => ?_) (fun c28 => ?_)
      · skip
        have c28o := Int32.not_le.mpr c28
        refine x_vret 128 C dX6_moveOn_128 rfl (Nat.le_refl _) (xN.intro ?_)
        subst eL2; subst eL4; subst eI5; subst eI6; subst eI7; subst eI19; subst eI20
        refine ⟨rfl, ?_, by rw [cput_ne _ _ _ hd]⟩
        simp [pMoveI, pMove2, pMove1, c8, c8o, c27, c27o, c28, c28o]
      · skip
        have c28o := Int32.not_lt.mp c28
        refine x_aload_n 123 C dX6_moveOn_123 rfl 0 rfl ?_
        refine x_iconst 124 C (v := 1) dX6_moveOn_124 rfl ?_
        refine x_puti 125 C dX6_moveOn_125 ff_X6_19 rfl hP.1 (by omega) (fun I29 eI29 => ?_)
        refine x_vret 128 C dX6_moveOn_128 rfl (Nat.le_refl _) (xN.intro ?_)
        subst eL2; subst eL4; subst eI5; subst eI6; subst eI7; subst eI19; subst eI20; subst eI29
        refine ⟨rfl, ?_, by rw [cput_ne _ _ _ hd]⟩
        simp [pMoveI, pMove2, pMove1, c8, c8o, c27, c27o, c28, c28o]
    · skip
      have c27o := Int64.not_le.mp c27
      refine x_aload_n 105 C dX6_moveOn_105 rfl 0 rfl ?_
      refine x_iconst 106 C (v := 2) dX6_moveOn_106 rfl ?_
      refine x_puti 107 C dX6_moveOn_107 ff_X6_19 rfl hP.1 (by omega) (fun I30 eI30 => ?_)
      refine x_goto 110 C 128 dX6_moveOn_110 (by decide) ?_
      refine x_vret 128 C dX6_moveOn_128 rfl (Nat.le_refl _) (xN.intro ?_)
      subst eL2; subst eL4; subst eI5; subst eI6; subst eI7; subst eI19; subst eI20; subst eI30
      refine ⟨rfl, ?_, by rw [cput_ne _ _ _ hd]⟩
      simp [pMoveI, pMove2, pMove1, c8, c8o, c27, c27o]
theorem dX6_shorten_0 : decode cX6_shorten 0 = .ok (.aload_n 0, 1) := by decide +kernel
theorem dX6_shorten_1 : decode cX6_shorten 1 = .ok (.dup, 1) := by decide +kernel
theorem dX6_shorten_2 : decode cX6_shorten 2 = .ok (.getfield 44, 3) := by decide +kernel
theorem dX6_shorten_5 : decode cX6_shorten 5 = .ok (.iconst 1, 1) := by decide +kernel
theorem dX6_shorten_6 : decode cX6_shorten 6 = .ok (.iadd, 1) := by decide +kernel
theorem dX6_shorten_7 : decode cX6_shorten 7 = .ok (.putfield 44, 3) := by decide +kernel
theorem dX6_shorten_10 : decode cX6_shorten 10 = .ok (.aload_n 0, 1) := by decide +kernel
theorem dX6_shorten_11 : decode cX6_shorten 11 = .ok (.iconst 0, 1) := by decide +kernel
theorem dX6_shorten_12 : decode cX6_shorten 12 = .ok (.putfield 47, 3) := by decide +kernel
theorem dX6_shorten_15 : decode cX6_shorten 15 = .ok (.aload_n 0, 1) := by decide +kernel
theorem dX6_shorten_16 : decode cX6_shorten 16 = .ok (.getfield 35, 3) := by decide +kernel
theorem dX6_shorten_19 : decode cX6_shorten 19 = .ok (.iconst 1, 1) := by decide +kernel
theorem dX6_shorten_20 : decode cX6_shorten 20 = .ok (.if_icmp .le 16, 3) := by decide +kernel
theorem dX6_shorten_23 : decode cX6_shorten 23 = .ok (.aload_n 0, 1) := by decide +kernel
theorem dX6_shorten_24 : decode cX6_shorten 24 = .ok (.aload_n 0, 1) := by decide +kernel
theorem dX6_shorten_25 : decode cX6_shorten 25 = .ok (.getfield 35, 3) := by decide +kernel
theorem dX6_shorten_28 : decode cX6_shorten 28 = .ok (.iconst 2, 1) := by decide +kernel
theorem dX6_shorten_29 : decode cX6_shorten 29 = .ok (.idiv, 1) := by decide +kernel
theorem dX6_shorten_30 : decode cX6_shorten 30 = .ok (.putfield 35, 3) := by decide +kernel
theorem dX6_shorten_33 : decode cX6_shorten 33 = .ok (.goto 58, 3) := by decide +kernel
theorem dX6_shorten_36 : decode cX6_shorten 36 = .ok (.aload_n 0, 1) := by decide +kernel
theorem dX6_shorten_37 : decode cX6_shorten 37 = .ok (.getfield 38, 3) := by decide +kernel
theorem dX6_shorten_40 : decode cX6_shorten 40 = .ok (.bipush 10, 2) := by decide +kernel
theorem dX6_shorten_42 : decode cX6_shorten 42 = .ok (.if_icmp .ne 44, 3) := by decide +kernel
theorem dX6_shorten_45 : decode cX6_shorten 45 = .ok (.aload_n 0, 1) := by decide +kernel
theorem dX6_shorten_46 : decode cX6_shorten 46 = .ok (.bipush 18, 2) := by decide +kernel
theorem dX6_shorten_48 : decode cX6_shorten 48 = .ok (.putfield 38, 3) := by decide +kernel
theorem dX6_shorten_51 : decode cX6_shorten 51 = .ok (.aload_n 0, 1) := by decide +kernel
theorem dX6_shorten_52 : decode cX6_shorten 52 = .ok (.getfield 10, 3) := by decide +kernel
theorem dX6_shorten_55 : decode cX6_shorten 55 = .ok (.ldc2_w 83, 3) := by decide +kernel
theorem dX6_shorten_58 : decode cX6_shorten 58 = .ok (.invokevirtual 85, 3) := by decide +kernel
theorem dX6_shorten_61 : decode cX6_shorten 61 = .ok (.aload_n 0, 1) := by decide +kernel
theorem dX6_shorten_62 : decode cX6_shorten 62 = .ok (.getfield 16, 3) := by decide +kernel
theorem dX6_shorten_65 : decode cX6_shorten 65 = .ok (.ldc2_w 83, 3) := by decide +kernel
theorem dX6_shorten_68 : decode cX6_shorten 68 = .ok (.invokevirtual 85, 3) := by decide +kernel
theorem dX6_shorten_71 : decode cX6_shorten 71 = .ok (.aload_n 0, 1) := by decide +kernel
theorem dX6_shorten_72 : decode cX6_shorten 72 = .ok (.iload_n 1, 1) := by decide +kernel
theorem dX6_shorten_73 : decode cX6_shorten 73 = .ok (.aload_n 0, 1) := by decide +kernel
theorem dX6_shorten_74 : decode cX6_shorten 74 = .ok (.getfield 26, 3) := by decide +kernel
theorem dX6_shorten_77 : decode cX6_shorten 77 = .ok (.invokestatic 29, 3) := by decide +kernel
theorem dX6_shorten_80 : decode cX6_shorten 80 = .ok (.putfield 35, 3) := by decide +kernel
theorem dX6_shorten_83 : decode cX6_shorten 83 = .ok (.goto 8, 3) := by decide +kernel
theorem dX6_shorten_86 : decode cX6_shorten 86 = .ok (.aload_n 0, 1) := by decide +kernel
theorem dX6_shorten_87 : decode cX6_shorten 87 = .ok (.iconst 3, 1) := by decide +kernel
theorem dX6_shorten_88 : decode cX6_shorten 88 = .ok (.putfield 19, 3) := by decide +kernel
theorem dX6_shorten_91 : decode cX6_shorten 91 = .ok (.return_, 1) := by decide +kernel
set_option maxHeartbeats 4000000 in
set_option maxRecDepth 100000 in
theorem t_X6_shorten (l : Launch) (D : xD) (z n : Nat) (G : xG) (I : xI) (L : xL) (a : Nat) (s0 : Int32) (hP : shP G a) (za : z ≤ a) : xM0 l D z yX6_shorten cX6_shorten 2 none 2 46 [.ref a, .int s0] n G I L (xE none (pFailI I a s0) (pFailL I L a)) := by
  refine xM.of (by decide) (Nat.le_of_ble_eq_true rfl) (fun p e s m args below meth c C hnm hsz => ?_)
  refine x_lv [(0, .ref a), (1, .int s0)] rfl ?_
  refine x_aload_n 0 C dX6_shorten_0 rfl 0 rfl ?_
  refine x_dup 1 C dX6_shorten_1 rfl ?_
  refine x_geti 2 C dX6_shorten_2 ff_X6_44 hP.1 ?_
  refine x_iconst 5 C (v := 1) dX6_shorten_5 rfl ?_
  refine x_iadd 6 C dX6_shorten_6 ?_
  refine x_puti 7 C dX6_shorten_7 ff_X6_44 rfl hP.1 (by omega) (fun I1 eI1 => ?_)
  refine x_aload_n 10 C dX6_shorten_10 rfl 0 rfl ?_
  refine x_iconst 11 C (v := 0) dX6_shorten_11 rfl ?_
  refine x_puti 12 C dX6_shorten_12 ff_X6_47 rfl hP.1 (by omega) (fun I2 eI2 => ?_)
  refine x_aload_n 15 C dX6_shorten_15 rfl 0 rfl ?_
  refine x_geti 16 C dX6_shorten_16 ff_X6_35 hP.1 ?_
  refine x_int (I a 4) (by simp [eI1, eI2, xup, cput]) ?_
  refine x_iconst 19 C (v := 1) dX6_shorten_19 rfl ?_
  refine x_icmp_le 20 C 36 dX6_shorten_20 (by decide) (fun c3 => ?_) (fun c3 => ?_)
  · skip
    have c3o := Int32.not_lt.mpr c3
    refine x_aload_n 36 C dX6_shorten_36 rfl 0 rfl ?_
    refine x_geti 37 C dX6_shorten_37 ff_X6_38 hP.1 ?_
    refine x_int (I a 6) (by simp [eI1, eI2, xup, cput]) ?_
    refine x_bipush 40 C (v := 10) dX6_shorten_40 rfl ?_
    refine x_icmp_ne 42 C 86 dX6_shorten_42 (by decide) (fun c4 => ?_) (fun c4 => ?_)
    · skip
      refine x_aload_n 86 C dX6_shorten_86 rfl 0 rfl ?_
      refine x_iconst 87 C (v := 3) dX6_shorten_87 rfl ?_
      refine x_puti 88 C dX6_shorten_88 ff_X6_19 rfl hP.1 (by omega) (fun I5 eI5 => ?_)
      refine x_vret 91 C dX6_shorten_91 rfl (Nat.le_refl _) (xN.intro ?_)
      subst eI1; subst eI2; subst eI5
      refine ⟨rfl, ?_, ?_⟩ <;> simp [pFailI, pFail1, pFailL, cput_ne, c3, c3o, c4]
    · skip
      refine x_aload_n 45 C dX6_shorten_45 rfl 0 rfl ?_
      refine x_bipush 46 C (v := 18) dX6_shorten_46 rfl ?_
      refine x_puti 48 C dX6_shorten_48 ff_X6_38 rfl hP.1 (by omega) (fun I6 eI6 => ?_)
      refine x_aload_n 51 C dX6_shorten_51 rfl 0 rfl ?_
      refine x_getr 52 C (b := a + 1) dX6_shorten_52 ff_X6_10 rfl hP.1 rfl ?_
      refine x_ldc2 55 C 256 dX6_shorten_55 kk_X6_83 ?_
      refine x_callVe 58 C dX6_shorten_58 (As := [.long 256]) (rest := []) [] (t_X0_scale l D z n G I6 L (a + 1) 256 hP.2.1 (by omega)) mt_X0_scale km_X6_85 ki_X0_scale ks_X0_scale hP.2.1 ⟨by decide, rfl⟩ rfl rfl (Nat.le_of_ble_eq_true rfl) ⟨⟨by decide, by decide⟩, by decide, by decide⟩ (fun I7 L8 eI7 eL8 => ?_)
      replace eI7 := eI7.symm; subst eI7
      refine x_aload_n 61 C dX6_shorten_61 rfl 0 rfl ?_
      refine x_getr 62 C (b := a + 2) dX6_shorten_62 ff_X6_16 rfl hP.1 rfl ?_
      refine x_ldc2 65 C 256 dX6_shorten_65 kk_X6_83 ?_
      refine x_callVe 68 C dX6_shorten_68 (As := [.long 256]) (rest := []) [] (t_X0_scale l D z n G I6 L8 (a + 2) 256 hP.2.2 (by omega)) mt_X0_scale km_X6_85 ki_X0_scale ks_X0_scale hP.2.2 ⟨by decide, rfl⟩ rfl rfl (Nat.le_of_ble_eq_true rfl) ⟨⟨by decide, by decide⟩, by decide, by decide⟩ (fun I9 L10 eI9 eL10 => ?_)
      replace eI9 := eI9.symm; subst eI9
      refine x_aload_n 71 C dX6_shorten_71 rfl 0 rfl ?_
      refine x_iload_n 72 C dX6_shorten_72 rfl 1 rfl ?_
      refine x_aload_n 73 C dX6_shorten_73 rfl 0 rfl ?_
      refine x_geti 74 C dX6_shorten_74 ff_X6_26 hP.1 ?_
      refine x_int (I a 5) (by simp [eI1, eI2, eI6, xup, cput]) ?_
      refine x_mmin 77 C dX6_shorten_77 km_X6_29 kt_J9_min_7cf53 kn_J9 kc_J9_min_7cf53 ⟨by decide, Nat.le_of_ble_eq_true rfl, by decide, by decide⟩ ?_
      refine x_int (imin s0 (I a 5)) rfl ?_
      refine x_puti 80 C dX6_shorten_80 ff_X6_35 rfl hP.1 (by omega) (fun I11 eI11 => ?_)
      refine x_goto 83 C 91 dX6_shorten_83 (by decide) ?_
      refine x_vret 91 C dX6_shorten_91 rfl (Nat.le_refl _) (xN.intro ?_)
      subst eI1; subst eI2; subst eI6; subst eL8; subst eL10; subst eI11
      refine ⟨rfl, ?_, ?_⟩ <;> simp [pFailI, pFail1, pFailL, cput_ne, c3, c3o, c4]
  · skip
    have c3o := Int32.not_le.mp c3
    refine x_aload_n 23 C dX6_shorten_23 rfl 0 rfl ?_
    refine x_aload_n 24 C dX6_shorten_24 rfl 0 rfl ?_
    refine x_geti 25 C dX6_shorten_25 ff_X6_35 hP.1 ?_
    refine x_int (I a 4) (by simp [eI1, eI2, xup, cput]) ?_
    refine x_iconst 28 C (v := 2) dX6_shorten_28 rfl ?_
    refine x_idiv 29 C dX6_shorten_29 (by first | assumption | decide) ?_
    refine x_puti 30 C dX6_shorten_30 ff_X6_35 rfl hP.1 (by omega) (fun I12 eI12 => ?_)
    refine x_goto 33 C 91 dX6_shorten_33 (by decide) ?_
    refine x_vret 91 C dX6_shorten_91 rfl (Nat.le_refl _) (xN.intro ?_)
    subst eI1; subst eI2; subst eI12
    refine ⟨rfl, ?_, ?_⟩ <;> simp [pFailI, pFail1, pFailL, cput_ne, c3, c3o]
