/-! The Model: the system at a point. Pairs of longs in a row; Y, the system of both equations and their starts -/
def mRp (L : xL) (a j : Nat) : xC := (L a j, L a (j + 1))
def mPk (c : xC) (i : Nat) : Int64 := if i = 0 then c.1 else c.2
def mYF (Y : xSy) (e : Nat) : Nat → Int32 := if e = 0 then Y.1 else if e = 1 then Y.2.2.1 else if e = 2 then stRe Y.2.2.2.2.1 else stRe Y.2.2.2.2.2.1
def mYG (Y : xSy) (e : Nat) : Nat → Int32 := if e = 0 then Y.2.1 else if e = 1 then Y.2.2.2.1 else fun _ => 0
def cofY (I : xI) (A : Nat) (Y : xSy) : Prop := (∀ e, e < 4 → cofOf I A e (mYF Y e) (mYG Y e) ∧ inT (mYF Y e) ∧ inT (mYG Y e)) ∧ I (A + 1) 48 = Y.2.2.2.2.2.2.1 ∧ I (A + 1) 49 = Y.2.2.2.2.2.2.2
def mE (Y : xSy) (b q : Nat) (x y : xC) (u : Int64) : xC := evS b (mYF Y q) (mYG Y q) (powC x y u) 10
def mS (Y : xSy) (b q : Nat) (x y : xC) (u : Int64) : xC := gauC Y.2.2.2.2.2.2.1.toInt64 Y.2.2.2.2.2.2.2.toInt64 (evS b (mYF Y (2 + q)) (mYG Y (2 + q)) (powC x y u) 10)
def mEnd (Y : xSy) (x y : xC) (u : Int64) (j : Nat) : Int64 := mPk (mE Y (j / 4) (j / 2 % 2) x y u) (j % 2)
def mSta (Y : xSy) (x y : xC) (u : Int64) (j : Nat) : Int64 := mPk (mS Y (j / 4) (j / 2 % 2) x y u) (j % 2)
def mMix (Y : xSy) (P : Nat) (x y : xC) (u : Int64) (j : Nat) : Int64 := ((nI (1024 - P)).toInt64 * mSta Y x y u j + (nI P).toInt64 * mEnd Y x y u j) / 1024
def mSys (L Lk : xL) (A : Nat) (Y : xSy) (x y : xC) (u : Int64) (K : Nat) : Prop := powAt Lk A 0 u x ∧ powAt Lk A 8 u y ∧ (∀ q, q ≠ A → q ≠ A + 6 → q ≠ A + 8 → q ≠ A + 9 → q ≠ A + 10 → Lk q = L q) ∧ (∀ j, j ≠ 7 → j ≠ 8 → Lk A j = L A j) ∧ ∀ j, j < K → Lk (A + 8) j = mEnd Y x y u j ∧ Lk (A + 9) j = mSta Y x y u j
theorem mPk_0 (c : xC) : mPk c 0 = c.1 := rfl
theorem mPk_1 (c : xC) : mPk c 1 = c.2 := rfl
theorem mEnd_0 (Y : xSy) (x y : xC) (u : Int64) {b q : Nat} (hq : q < 2) : mEnd Y x y u (4 * b + 2 * q) = (mE Y b q x y u).1 := by
  unfold mEnd
  rw [show (4 * b + 2 * q) / 4 = b by omega, show (4 * b + 2 * q) / 2 % 2 = q by omega, show (4 * b + 2 * q) % 2 = 0 by omega, mPk_0]
theorem mEnd_1 (Y : xSy) (x y : xC) (u : Int64) {b q : Nat} (hq : q < 2) : mEnd Y x y u (4 * b + 2 * q + 1) = (mE Y b q x y u).2 := by
  unfold mEnd
  rw [show (4 * b + 2 * q + 1) / 4 = b by omega, show (4 * b + 2 * q + 1) / 2 % 2 = q by omega, show (4 * b + 2 * q + 1) % 2 = 1 by omega, mPk_1]
theorem mSta_0 (Y : xSy) (x y : xC) (u : Int64) {b q : Nat} (hq : q < 2) : mSta Y x y u (4 * b + 2 * q) = (mS Y b q x y u).1 := by
  unfold mSta
  rw [show (4 * b + 2 * q) / 4 = b by omega, show (4 * b + 2 * q) / 2 % 2 = q by omega, show (4 * b + 2 * q) % 2 = 0 by omega, mPk_0]
theorem mSta_1 (Y : xSy) (x y : xC) (u : Int64) {b q : Nat} (hq : q < 2) : mSta Y x y u (4 * b + 2 * q + 1) = (mS Y b q x y u).2 := by
  unfold mSta
  rw [show (4 * b + 2 * q + 1) / 4 = b by omega, show (4 * b + 2 * q + 1) / 2 % 2 = q by omega, show (4 * b + 2 * q + 1) % 2 = 1 by omega, mPk_1]
def mStp (Lk : xL) (A : Nat) (K : Nat) (c d : xC) : xL := xup (xup (mwC (xup (xup (mwC Lk A c) (A + 8) K c.1) (A + 8) (K + 1) c.2) A d) (A + 9) K d.1) (A + 9) (K + 1) d.2
theorem mStp_row (Lk : xL) {A K r : Nat} (c d : xC) (h0 : r ≠ A) (h8 : r ≠ A + 8) (h9 : r ≠ A + 9) : mStp Lk A K c d r = Lk r := by
  unfold mStp; rw [xup_row _ _ h9, xup_row _ _ h9, mwC_row _ _ h0, xup_row _ _ h8, xup_row _ _ h8, mwC_row _ _ h0]
theorem mSys_step {L Lk : xL} {A : Nat} {Y : xSy} {x y : xC} {u : Int64} {b q : Nat} (hq : q < 2) (h : mSys L Lk A Y x y u (4 * b + 2 * q)) : mSys L (mStp Lk A (4 * b + 2 * q) (mE Y b q x y u) (mS Y b q x y u)) A Y x y u (4 * b + 2 * (q + 1)) := by
  have h6 := mStp_row Lk (A := A) (K := 4 * b + 2 * q) (r := A + 6) (mE Y b q x y u) (mS Y b q x y u) (by omega) (by omega) (by omega)
  refine ⟨powAt_congr (fun j _ _ => by rw [h6]) h.1, powAt_congr (fun j _ _ => by rw [h6]) h.2.1, fun r h0 h6 h8 h9 h10 => (mStp_row Lk _ _ h0 h8 h9).trans (h.2.2.1 r h0 h6 h8 h9 h10), fun j h7 h8 => ?_, fun j hj => ?_⟩
  · unfold mStp
    rw [xup_row _ _ (by omega), xup_row _ _ (by omega), mwC_ne _ _ h7 h8, xup_row _ _ (by omega), xup_row _ _ (by omega), mwC_ne _ _ h7 h8]
    exact h.2.2.2.1 j h7 h8
  · have e8 : ∀ j, mStp Lk A (4 * b + 2 * q) (mE Y b q x y u) (mS Y b q x y u) (A + 8) j = if j = 4 * b + 2 * q + 1 then (mE Y b q x y u).2 else if j = 4 * b + 2 * q then (mE Y b q x y u).1 else Lk (A + 8) j := by
      intro j
      unfold mStp
      rw [xup_row _ _ (by omega), xup_row _ _ (by omega), mwC_row _ _ (by omega), xup_at, xup_at, mwC_row _ _ (by omega)]
    have e9 : ∀ j, mStp Lk A (4 * b + 2 * q) (mE Y b q x y u) (mS Y b q x y u) (A + 9) j = if j = 4 * b + 2 * q + 1 then (mS Y b q x y u).2 else if j = 4 * b + 2 * q then (mS Y b q x y u).1 else Lk (A + 9) j := by
      intro j
      unfold mStp
      rw [xup_at, xup_at, mwC_row _ _ (by omega), xup_row _ _ (by omega), xup_row _ _ (by omega), mwC_row _ _ (by omega)]
    rw [e8, e9]
    by_cases h1 : j = 4 * b + 2 * q + 1
    · rw [if_pos h1, if_pos h1, h1, mEnd_1 _ _ _ _ hq, mSta_1 _ _ _ _ hq]; exact ⟨rfl, rfl⟩
    · rw [if_neg h1, if_neg h1]
      by_cases h2 : j = 4 * b + 2 * q
      · rw [if_pos h2, if_pos h2, h2, mEnd_0 _ _ _ _ hq, mSta_0 _ _ _ _ hq]; exact ⟨rfl, rfl⟩
      · rw [if_neg h2, if_neg h2]; exact h.2.2.2.2 j (by omega)
def mSysO (L' : xL) (A : Nat) (Y : xSy) (P : Nat) (x y : xC) (u : Int64) : Prop :=
  (mRp L' (A + 8) 0 = syE0 Y evV x y u ∧ mRp L' (A + 8) 2 = syE1 Y evV x y u) ∧ (mRp L' (A + 9) 0 = syB0 Y evV x y u ∧ mRp L' (A + 9) 2 = syB1 Y evV x y u) ∧
  mRp L' (A + 10) 0 = syM0 Y P evV x y u ∧ mRp L' (A + 10) 2 = syM1 Y P evV x y u ∧ mRp L' (A + 10) 4 = syM0 Y P evX x y u ∧ mRp L' (A + 10) 6 = syM1 Y P evX x y u ∧ mRp L' (A + 10) 8 = syM0 Y P evY x y u ∧ mRp L' (A + 10) 10 = syM1 Y P evY x y u
theorem mS_held (Y : xSy) (b q : Nat) (x y : xC) (u : Int64) : hC (mS Y b q x y u) = mS Y b q x y u := hC_2 _
theorem mE_held (Y : xSy) (b q : Nat) (x y : xC) (u : Int64) : hC (mE Y b q x y u) = mE Y b q x y u := evS_held _ _ _ _ _
theorem mMix_of (Y : xSy) {P : Nat} (hP : P ≤ 1024) (x y : xC) (u : Int64) {b q : Nat} (hq : q < 2) : (mMix Y P x y u (4 * b + 2 * q), mMix Y P x y u (4 * b + 2 * q + 1)) = mixC (nI (1024 - P)).toInt64 (mS Y b q x y u) (nI P).toInt64 (mE Y b q x y u) := by
  rw [mix_of hP (mS_held Y b q x y u) (mE_held Y b q x y u)]
  unfold mMix
  rw [mEnd_0 _ _ _ _ hq, mEnd_1 _ _ _ _ hq, mSta_0 _ _ _ _ hq, mSta_1 _ _ _ _ hq]
theorem evS_1 (f g : Nat → Int32) (pw : Nat → xC) (k : Nat) : evS 1 f g pw k = evX f g pw k := by unfold evS; rw [if_neg (by decide), if_pos rfl]
theorem evS_2 (f g : Nat → Int32) (pw : Nat → xC) (k : Nat) : evS 2 f g pw k = evY f g pw k := by unfold evS; rw [if_neg (by decide), if_neg (by decide)]
theorem mE_00 (Y : xSy) (x y : xC) (u : Int64) : mE Y 0 0 x y u = syE0 Y evV x y u := rfl
theorem mE_01 (Y : xSy) (x y : xC) (u : Int64) : mE Y 0 1 x y u = syE1 Y evV x y u := rfl
theorem mE_10 (Y : xSy) (x y : xC) (u : Int64) : mE Y 1 0 x y u = syE0 Y evX x y u := by unfold mE; rw [evS_1]; rfl
theorem mE_11 (Y : xSy) (x y : xC) (u : Int64) : mE Y 1 1 x y u = syE1 Y evX x y u := by unfold mE; rw [evS_1]; rfl
theorem mE_20 (Y : xSy) (x y : xC) (u : Int64) : mE Y 2 0 x y u = syE0 Y evY x y u := by unfold mE; rw [evS_2]; rfl
theorem mE_21 (Y : xSy) (x y : xC) (u : Int64) : mE Y 2 1 x y u = syE1 Y evY x y u := by unfold mE; rw [evS_2]; rfl
theorem mS_00 (Y : xSy) (x y : xC) (u : Int64) : mS Y 0 0 x y u = syB0 Y evV x y u := rfl
theorem mS_01 (Y : xSy) (x y : xC) (u : Int64) : mS Y 0 1 x y u = syB1 Y evV x y u := rfl
theorem mS_10 (Y : xSy) (x y : xC) (u : Int64) : mS Y 1 0 x y u = syB0 Y evX x y u := by unfold mS; rw [evS_1]; rfl
theorem mS_11 (Y : xSy) (x y : xC) (u : Int64) : mS Y 1 1 x y u = syB1 Y evX x y u := by unfold mS; rw [evS_1]; rfl
theorem mS_20 (Y : xSy) (x y : xC) (u : Int64) : mS Y 2 0 x y u = syB0 Y evY x y u := by unfold mS; rw [evS_2]; rfl
theorem mS_21 (Y : xSy) (x y : xC) (u : Int64) : mS Y 2 1 x y u = syB1 Y evY x y u := by unfold mS; rw [evS_2]; rfl
theorem mSysO_of {L Lk L' : xL} {A : Nat} {Y : xSy} {P : Nat} {x y : xC} {u : Int64} (hP : P ≤ 1024) (h : mSys L Lk A Y x y u 12) (h8 : L' (A + 8) = Lk (A + 8)) (h9 : L' (A + 9) = Lk (A + 9)) (hm : ∀ j, j < 12 → L' (A + 10) j = mMix Y P x y u j) : mSysO L' A Y P x y u := by
  have he : ∀ b q, b < 3 → q < 2 → mRp L' (A + 8) (4 * b + 2 * q) = mE Y b q x y u := fun b q hb hq => by
    unfold mRp; rw [h8, (h.2.2.2.2 _ (by omega)).1, (h.2.2.2.2 _ (by omega)).1, mEnd_0 _ _ _ _ hq, mEnd_1 _ _ _ _ hq]
  have hs : ∀ b q, b < 3 → q < 2 → mRp L' (A + 9) (4 * b + 2 * q) = mS Y b q x y u := fun b q hb hq => by
    unfold mRp; rw [h9, (h.2.2.2.2 _ (by omega)).2, (h.2.2.2.2 _ (by omega)).2, mSta_0 _ _ _ _ hq, mSta_1 _ _ _ _ hq]
  have hx : ∀ b q, b < 3 → q < 2 → mRp L' (A + 10) (4 * b + 2 * q) = mixC (nI (1024 - P)).toInt64 (mS Y b q x y u) (nI P).toInt64 (mE Y b q x y u) := fun b q hb hq => by
    unfold mRp; rw [hm _ (by omega), hm _ (by omega)]; exact mMix_of Y hP x y u hq
  have x00 := hx 0 0 (by decide) (by decide)
  have x01 := hx 0 1 (by decide) (by decide)
  have x10 := hx 1 0 (by decide) (by decide)
  have x11 := hx 1 1 (by decide) (by decide)
  have x20 := hx 2 0 (by decide) (by decide)
  have x21 := hx 2 1 (by decide) (by decide)
  rw [mS_00, mE_00] at x00
  rw [mS_01, mE_01] at x01
  rw [mS_10, mE_10] at x10
  rw [mS_11, mE_11] at x11
  rw [mS_20, mE_20] at x20
  rw [mS_21, mE_21] at x21
  exact ⟨⟨(he 0 0 (by decide) (by decide)).trans (mE_00 Y x y u), (he 0 1 (by decide) (by decide)).trans (mE_01 Y x y u)⟩, ⟨(hs 0 0 (by decide) (by decide)).trans (mS_00 Y x y u), (hs 0 1 (by decide) (by decide)).trans (mS_01 Y x y u)⟩, x00, x01, x10, x11, x20, x21⟩
theorem t_X12_worth_a (l : Launch) (D : xD) (z n : Nat) (G : xG) (I : xI) (L : xL) (A : Nat) (e0 : Nat) (f : Nat → Int32) (g : Nat → Int32) (x : xC) (y : xC) (u : Int64) (b : Nat) (hM : shMo G A) (zA : z ≤ A) (hcf : cofOf I A e0 f g) (hbf : inT f) (hbg : inT g) (hp : powAt L A 0 u x) (hq : powAt L A 8 u y) (hx : hC x = x) (hy : hC y = y) (hu9 : L A 9 = u) (hu : ¬ u = 0) (hb : b < 3) : xM0 l D z yX12_worth cX12_worth 15 none 4 96 [.ref A, .int (nI e0), .int (nI b)] n G I L (xE none I (mwC L A (evS b f g (powC x y u) 10))) := by
  rcases (show b = 0 ∨ b = 1 ∨ b = 2 by omega) with rfl | rfl | rfl
  · exact t_X12_worth_0 l D z n G I L A e0 f g x y u hM zA hcf hbf hbg hp hq hx hy hu9 hu
  · exact t_X12_worth_1 l D z n G I L A e0 f g x y u hM zA hcf hbf hbg hp hq hx hy hu9 hu
  · exact t_X12_worth_2 l D z n G I L A e0 f g x y u hM zA hcf hbf hbg hp hq hx hy hu9 hu
theorem dX12_worthWithGamma_0 : decode cX12_worthWithGamma 0 = .ok (.aload_n 0, 1) := by decide +kernel
theorem dX12_worthWithGamma_1 : decode cX12_worthWithGamma 1 = .ok (.iload_n 1, 1) := by decide +kernel
theorem dX12_worthWithGamma_2 : decode cX12_worthWithGamma 2 = .ok (.iload_n 2, 1) := by decide +kernel
theorem dX12_worthWithGamma_3 : decode cX12_worthWithGamma 3 = .ok (.invokevirtual 116, 3) := by decide +kernel
theorem dX12_worthWithGamma_6 : decode cX12_worthWithGamma 6 = .ok (.aload_n 0, 1) := by decide +kernel
theorem dX12_worthWithGamma_7 : decode cX12_worthWithGamma 7 = .ok (.bipush 6, 2) := by decide +kernel
theorem dX12_worthWithGamma_9 : decode cX12_worthWithGamma 9 = .ok (.invokevirtual 119, 3) := by decide +kernel
theorem dX12_worthWithGamma_12 : decode cX12_worthWithGamma 12 = .ok (.i2l, 1) := by decide +kernel
theorem dX12_worthWithGamma_13 : decode cX12_worthWithGamma 13 = .ok (.lstore_n 3, 1) := by decide +kernel
theorem dX12_worthWithGamma_14 : decode cX12_worthWithGamma 14 = .ok (.aload_n 0, 1) := by decide +kernel
theorem dX12_worthWithGamma_15 : decode cX12_worthWithGamma 15 = .ok (.bipush 7, 2) := by decide +kernel
theorem dX12_worthWithGamma_17 : decode cX12_worthWithGamma 17 = .ok (.invokevirtual 119, 3) := by decide +kernel
theorem dX12_worthWithGamma_20 : decode cX12_worthWithGamma 20 = .ok (.i2l, 1) := by decide +kernel
theorem dX12_worthWithGamma_21 : decode cX12_worthWithGamma 21 = .ok (.lstore 5, 2) := by decide +kernel
theorem dX12_worthWithGamma_23 : decode cX12_worthWithGamma 23 = .ok (.aload_n 0, 1) := by decide +kernel
theorem dX12_worthWithGamma_24 : decode cX12_worthWithGamma 24 = .ok (.lload_n 3, 1) := by decide +kernel
theorem dX12_worthWithGamma_25 : decode cX12_worthWithGamma 25 = .ok (.aload_n 0, 1) := by decide +kernel
theorem dX12_worthWithGamma_26 : decode cX12_worthWithGamma 26 = .ok (.getfield 87, 3) := by decide +kernel
theorem dX12_worthWithGamma_29 : decode cX12_worthWithGamma 29 = .ok (.lmul, 1) := by decide +kernel
theorem dX12_worthWithGamma_30 : decode cX12_worthWithGamma 30 = .ok (.lload 5, 2) := by decide +kernel
theorem dX12_worthWithGamma_32 : decode cX12_worthWithGamma 32 = .ok (.aload_n 0, 1) := by decide +kernel
theorem dX12_worthWithGamma_33 : decode cX12_worthWithGamma 33 = .ok (.getfield 90, 3) := by decide +kernel
theorem dX12_worthWithGamma_36 : decode cX12_worthWithGamma 36 = .ok (.lmul, 1) := by decide +kernel
theorem dX12_worthWithGamma_37 : decode cX12_worthWithGamma 37 = .ok (.lsub, 1) := by decide +kernel
theorem dX12_worthWithGamma_38 : decode cX12_worthWithGamma 38 = .ok (.lload_n 3, 1) := by decide +kernel
theorem dX12_worthWithGamma_39 : decode cX12_worthWithGamma 39 = .ok (.aload_n 0, 1) := by decide +kernel
theorem dX12_worthWithGamma_40 : decode cX12_worthWithGamma 40 = .ok (.getfield 90, 3) := by decide +kernel
theorem dX12_worthWithGamma_43 : decode cX12_worthWithGamma 43 = .ok (.lmul, 1) := by decide +kernel
theorem dX12_worthWithGamma_44 : decode cX12_worthWithGamma 44 = .ok (.lload 5, 2) := by decide +kernel
theorem dX12_worthWithGamma_46 : decode cX12_worthWithGamma 46 = .ok (.aload_n 0, 1) := by decide +kernel
theorem dX12_worthWithGamma_47 : decode cX12_worthWithGamma 47 = .ok (.getfield 87, 3) := by decide +kernel
theorem dX12_worthWithGamma_50 : decode cX12_worthWithGamma 50 = .ok (.lmul, 1) := by decide +kernel
theorem dX12_worthWithGamma_51 : decode cX12_worthWithGamma 51 = .ok (.ladd, 1) := by decide +kernel
theorem dX12_worthWithGamma_52 : decode cX12_worthWithGamma 52 = .ok (.invokevirtual 93, 3) := by decide +kernel
theorem dX12_worthWithGamma_55 : decode cX12_worthWithGamma 55 = .ok (.return_, 1) := by decide +kernel
set_option maxHeartbeats 1000000 in
set_option maxRecDepth 100000 in
theorem t_X12_worthWithGamma (l : Launch) (D : xD) (z n : Nat) (G : xG) (I : xI) (L : xL) (A : Nat) (e0 : Nat) (f : Nat → Int32) (g : Nat → Int32) (x : xC) (y : xC) (u : Int64) (b : Nat) (hM : shMo G A) (zA : z ≤ A) (hcf : cofOf I A e0 f g) (hbf : inT f) (hbg : inT g) (hp : powAt L A 0 u x) (hq : powAt L A 8 u y) (hx : hC x = x) (hy : hC y = y) (hu9 : L A 9 = u) (hu : ¬ u = 0) (hb : b < 3) : xM0 l D z yX12_worthWithGamma cX12_worthWithGamma 7 none 5 130 [.ref A, .int (nI e0), .int (nI b)] n G I L (xE none I (mwC L A (gauC (I (A + 1) 48).toInt64 (I (A + 1) 49).toInt64 (evS b f g (powC x y u) 10)))) := by
  refine xM.of (by decide) (Nat.le_of_ble_eq_true rfl) (fun p e s m args below meth c C hnm hsz => ?_)
  refine x_lv [(0, .ref A), (1, .int (nI e0)), (2, .int (nI b))] rfl ?_
  refine x_aload_n 0 C dX12_worthWithGamma_0 rfl 0 rfl ?_
  refine x_iload_n 1 C dX12_worthWithGamma_1 rfl 1 rfl ?_
  refine x_iload_n 2 C dX12_worthWithGamma_2 rfl 2 rfl ?_
  refine x_callVe 3 C dX12_worthWithGamma_3 (As := [.int (nI e0), .int (nI b)]) (rest := []) [] (t_X12_worth_a l D z n G I L A e0 f g x y u b hM (by omega) (by first | assumption | omega | decide) (by first | assumption | omega | decide) (by first | assumption | omega | decide) (by first | assumption | omega | decide) (by first | assumption | omega | decide) (by first | assumption | omega | decide) (by first | assumption | omega | decide) (by first | assumption | omega | decide) (by first | assumption | omega | decide) (by first | omega | assumption | decide)) mt_X12_worth km_X12_116 ki_X12_worth ks_X12_worth hM.1 ⟨by decide, rfl⟩ rfl rfl (Nat.le_of_ble_eq_true rfl) ⟨⟨by decide, by decide⟩, by decide, by decide⟩ (fun I1 L2 eI1 eL2 => ?_)
  replace eI1 := eI1.symm; subst eI1
  refine x_aload_n 6 C dX12_worthWithGamma_6 rfl 0 rfl ?_
  refine x_bipush 7 C (v := 6) dX12_worthWithGamma_7 rfl ?_
  refine x_callVe 9 C dX12_worthWithGamma_9 (As := [.int 6]) (rest := []) [.int (I (A + 1) (42 + 6))] (t_X12_setting l D z n G I L2 A 6 hM (by first | omega | assumption | decide)) mt_X12_setting km_X12_119 ki_X12_setting ks_X12_setting hM.1 ⟨by decide, rfl⟩ rfl rfl (Nat.le_of_ble_eq_true rfl) ⟨⟨by decide, by decide⟩, by decide, by decide⟩ (fun I3 L4 eI3 eL4 => ?_)
  replace eI3 := eI3.symm; subst eI3
  replace eL4 := eL4.symm; subst eL4
  refine x_int (I (A + 1) 48) rfl ?_
  refine x_i2l 12 C dX12_worthWithGamma_12 ?_
  refine x_lstore_n 13 C [(3, .long (Int32.toInt64 (I (A + 1) 48))), (0, .ref A), (1, .int (nI e0)), (2, .int (nI b))] dX12_worthWithGamma_13 rfl (by decide) rfl ?_
  refine x_aload_n 14 C dX12_worthWithGamma_14 rfl 1 rfl ?_
  refine x_bipush 15 C (v := 7) dX12_worthWithGamma_15 rfl ?_
  refine x_callVe 17 C dX12_worthWithGamma_17 (As := [.int 7]) (rest := []) [.int (I (A + 1) (42 + 7))] (t_X12_setting l D z n G I L2 A 7 hM (by first | omega | assumption | decide)) mt_X12_setting km_X12_119 ki_X12_setting ks_X12_setting hM.1 ⟨by decide, rfl⟩ rfl rfl (Nat.le_of_ble_eq_true rfl) ⟨⟨by decide, by decide⟩, by decide, by decide⟩ (fun I5 L6 eI5 eL6 => ?_)
  replace eI5 := eI5.symm; subst eI5
  replace eL6 := eL6.symm; subst eL6
  refine x_int (I (A + 1) 49) rfl ?_
  refine x_i2l 20 C dX12_worthWithGamma_20 ?_
  refine x_lstore 21 C [(5, .long (Int32.toInt64 (I (A + 1) 49))), (3, .long (Int32.toInt64 (I (A + 1) 48))), (0, .ref A), (1, .int (nI e0)), (2, .int (nI b))] dX12_worthWithGamma_21 (by decide) rfl ?_
  refine x_aload_n 23 C dX12_worthWithGamma_23 rfl 2 rfl ?_
  refine x_lload_n 24 C dX12_worthWithGamma_24 rfl 1 rfl ?_
  refine x_aload_n 25 C dX12_worthWithGamma_25 rfl 2 rfl ?_
  refine x_getl 26 C dX12_worthWithGamma_26 ff_X12_87 hM.1 ?_
  refine x_long ((evS b f g (powC x y u) 10).1) (by rw [eL2, mwC_7]) ?_
  refine x_lmul 29 C dX12_worthWithGamma_29 ?_
  refine x_lload 30 C dX12_worthWithGamma_30 0 rfl ?_
  refine x_aload_n 32 C dX12_worthWithGamma_32 rfl 2 rfl ?_
  refine x_getl 33 C dX12_worthWithGamma_33 ff_X12_90 hM.1 ?_
  refine x_long ((evS b f g (powC x y u) 10).2) (by rw [eL2, mwC_8]) ?_
  refine x_lmul 36 C dX12_worthWithGamma_36 ?_
  refine x_lsub 37 C dX12_worthWithGamma_37 ?_
  refine x_lload_n 38 C dX12_worthWithGamma_38 rfl 1 rfl ?_
  refine x_aload_n 39 C dX12_worthWithGamma_39 rfl 2 rfl ?_
  refine x_getl 40 C dX12_worthWithGamma_40 ff_X12_90 hM.1 ?_
  refine x_long ((evS b f g (powC x y u) 10).2) (by rw [eL2, mwC_8]) ?_
  refine x_lmul 43 C dX12_worthWithGamma_43 ?_
  refine x_lload 44 C dX12_worthWithGamma_44 0 rfl ?_
  refine x_aload_n 46 C dX12_worthWithGamma_46 rfl 2 rfl ?_
  refine x_getl 47 C dX12_worthWithGamma_47 ff_X12_87 hM.1 ?_
  refine x_long ((evS b f g (powC x y u) 10).1) (by rw [eL2, mwC_7]) ?_
  refine x_lmul 50 C dX12_worthWithGamma_50 ?_
  refine x_ladd 51 C dX12_worthWithGamma_51 ?_
  refine x_callVe 52 C dX12_worthWithGamma_52 (As := [.long (((Int32.toInt64 (I (A + 1) 48)) * ((evS b f g (powC x y u) 10).1)) - ((Int32.toInt64 (I (A + 1) 49)) * ((evS b f g (powC x y u) 10).2))), .long (((Int32.toInt64 (I (A + 1) 48)) * ((evS b f g (powC x y u) 10).2)) + ((Int32.toInt64 (I (A + 1) 49)) * ((evS b f g (powC x y u) 10).1)))]) (rest := []) [] (t_X12_hold l D z n G I L2 A (((Int32.toInt64 (I (A + 1) 48)) * ((evS b f g (powC x y u) 10).1)) - ((Int32.toInt64 (I (A + 1) 49)) * ((evS b f g (powC x y u) 10).2))) (((Int32.toInt64 (I (A + 1) 48)) * ((evS b f g (powC x y u) 10).2)) + ((Int32.toInt64 (I (A + 1) 49)) * ((evS b f g (powC x y u) 10).1))) hM (by omega)) mt_X12_hold km_X12_93 ki_X12_hold ks_X12_hold hM.1 ⟨by decide, rfl⟩ rfl rfl (Nat.le_of_ble_eq_true rfl) ⟨⟨by decide, by decide⟩, by decide, by decide⟩ (fun I7 L8 eI7 eL8 => ?_)
  replace eI7 := eI7.symm; subst eI7
  refine x_vret 55 C dX12_worthWithGamma_55 rfl (Nat.le_refl _) (xN.intro ?_)
  refine ⟨rfl, rfl, ?_⟩
  rw [eL8, eL2, mwC_2]; rfl
theorem dX12_laySystem_0 : decode cX12_laySystem 0 = .ok (.aload_n 0, 1) := by decide +kernel
theorem dX12_laySystem_1 : decode cX12_laySystem 1 = .ok (.invokevirtual 123, 3) := by decide +kernel
theorem dX12_laySystem_4 : decode cX12_laySystem 4 = .ok (.iconst 0, 1) := by decide +kernel
theorem dX12_laySystem_5 : decode cX12_laySystem 5 = .ok (.istore_n 2, 1) := by decide +kernel
theorem dX12_laySystem_6 : decode cX12_laySystem 6 = .ok (.iload_n 2, 1) := by decide +kernel
theorem dX12_laySystem_7 : decode cX12_laySystem 7 = .ok (.iconst 3, 1) := by decide +kernel
theorem dX12_laySystem_8 : decode cX12_laySystem 8 = .ok (.if_icmp .ge 93, 3) := by decide +kernel
theorem dX12_laySystem_11 : decode cX12_laySystem 11 = .ok (.iconst 0, 1) := by decide +kernel
theorem dX12_laySystem_12 : decode cX12_laySystem 12 = .ok (.istore_n 3, 1) := by decide +kernel
theorem dX12_laySystem_13 : decode cX12_laySystem 13 = .ok (.iload_n 3, 1) := by decide +kernel
theorem dX12_laySystem_14 : decode cX12_laySystem 14 = .ok (.iconst 2, 1) := by decide +kernel
theorem dX12_laySystem_15 : decode cX12_laySystem 15 = .ok (.if_icmp .ge 80, 3) := by decide +kernel
theorem dX12_laySystem_18 : decode cX12_laySystem 18 = .ok (.iconst 4, 1) := by decide +kernel
theorem dX12_laySystem_19 : decode cX12_laySystem 19 = .ok (.iload_n 2, 1) := by decide +kernel
theorem dX12_laySystem_20 : decode cX12_laySystem 20 = .ok (.imul, 1) := by decide +kernel
theorem dX12_laySystem_21 : decode cX12_laySystem 21 = .ok (.iconst 2, 1) := by decide +kernel
theorem dX12_laySystem_22 : decode cX12_laySystem 22 = .ok (.iload_n 3, 1) := by decide +kernel
theorem dX12_laySystem_23 : decode cX12_laySystem 23 = .ok (.imul, 1) := by decide +kernel
theorem dX12_laySystem_24 : decode cX12_laySystem 24 = .ok (.iadd, 1) := by decide +kernel
theorem dX12_laySystem_25 : decode cX12_laySystem 25 = .ok (.istore 4, 2) := by decide +kernel
theorem dX12_laySystem_27 : decode cX12_laySystem 27 = .ok (.aload_n 0, 1) := by decide +kernel
theorem dX12_laySystem_28 : decode cX12_laySystem 28 = .ok (.iload_n 3, 1) := by decide +kernel
theorem dX12_laySystem_29 : decode cX12_laySystem 29 = .ok (.iload_n 2, 1) := by decide +kernel
theorem dX12_laySystem_30 : decode cX12_laySystem 30 = .ok (.invokevirtual 116, 3) := by decide +kernel
theorem dX12_laySystem_33 : decode cX12_laySystem 33 = .ok (.aload_n 0, 1) := by decide +kernel
theorem dX12_laySystem_34 : decode cX12_laySystem 34 = .ok (.getfield 39, 3) := by decide +kernel
theorem dX12_laySystem_37 : decode cX12_laySystem 37 = .ok (.iload 4, 2) := by decide +kernel
theorem dX12_laySystem_39 : decode cX12_laySystem 39 = .ok (.aload_n 0, 1) := by decide +kernel
theorem dX12_laySystem_40 : decode cX12_laySystem 40 = .ok (.getfield 87, 3) := by decide +kernel
theorem dX12_laySystem_43 : decode cX12_laySystem 43 = .ok (.lastore, 1) := by decide +kernel
theorem dX12_laySystem_44 : decode cX12_laySystem 44 = .ok (.aload_n 0, 1) := by decide +kernel
theorem dX12_laySystem_45 : decode cX12_laySystem 45 = .ok (.getfield 39, 3) := by decide +kernel
theorem dX12_laySystem_48 : decode cX12_laySystem 48 = .ok (.iload 4, 2) := by decide +kernel
theorem dX12_laySystem_50 : decode cX12_laySystem 50 = .ok (.iconst 1, 1) := by decide +kernel
theorem dX12_laySystem_51 : decode cX12_laySystem 51 = .ok (.iadd, 1) := by decide +kernel
theorem dX12_laySystem_52 : decode cX12_laySystem 52 = .ok (.aload_n 0, 1) := by decide +kernel
theorem dX12_laySystem_53 : decode cX12_laySystem 53 = .ok (.getfield 90, 3) := by decide +kernel
theorem dX12_laySystem_56 : decode cX12_laySystem 56 = .ok (.lastore, 1) := by decide +kernel
theorem dX12_laySystem_57 : decode cX12_laySystem 57 = .ok (.aload_n 0, 1) := by decide +kernel
theorem dX12_laySystem_58 : decode cX12_laySystem 58 = .ok (.iconst 2, 1) := by decide +kernel
theorem dX12_laySystem_59 : decode cX12_laySystem 59 = .ok (.iload_n 3, 1) := by decide +kernel
theorem dX12_laySystem_60 : decode cX12_laySystem 60 = .ok (.iadd, 1) := by decide +kernel
theorem dX12_laySystem_61 : decode cX12_laySystem 61 = .ok (.iload_n 2, 1) := by decide +kernel
theorem dX12_laySystem_62 : decode cX12_laySystem 62 = .ok (.invokevirtual 126, 3) := by decide +kernel
theorem dX12_laySystem_65 : decode cX12_laySystem 65 = .ok (.aload_n 0, 1) := by decide +kernel
theorem dX12_laySystem_66 : decode cX12_laySystem 66 = .ok (.getfield 42, 3) := by decide +kernel
theorem dX12_laySystem_69 : decode cX12_laySystem 69 = .ok (.iload 4, 2) := by decide +kernel
theorem dX12_laySystem_71 : decode cX12_laySystem 71 = .ok (.aload_n 0, 1) := by decide +kernel
theorem dX12_laySystem_72 : decode cX12_laySystem 72 = .ok (.getfield 87, 3) := by decide +kernel
theorem dX12_laySystem_75 : decode cX12_laySystem 75 = .ok (.lastore, 1) := by decide +kernel
theorem dX12_laySystem_76 : decode cX12_laySystem 76 = .ok (.aload_n 0, 1) := by decide +kernel
theorem dX12_laySystem_77 : decode cX12_laySystem 77 = .ok (.getfield 42, 3) := by decide +kernel
theorem dX12_laySystem_80 : decode cX12_laySystem 80 = .ok (.iload 4, 2) := by decide +kernel
theorem dX12_laySystem_82 : decode cX12_laySystem 82 = .ok (.iconst 1, 1) := by decide +kernel
theorem dX12_laySystem_83 : decode cX12_laySystem 83 = .ok (.iadd, 1) := by decide +kernel
theorem dX12_laySystem_84 : decode cX12_laySystem 84 = .ok (.aload_n 0, 1) := by decide +kernel
theorem dX12_laySystem_85 : decode cX12_laySystem 85 = .ok (.getfield 90, 3) := by decide +kernel
theorem dX12_laySystem_88 : decode cX12_laySystem 88 = .ok (.lastore, 1) := by decide +kernel
theorem dX12_laySystem_89 : decode cX12_laySystem 89 = .ok (.iinc 3 1, 3) := by decide +kernel
theorem dX12_laySystem_92 : decode cX12_laySystem 92 = .ok (.goto (-79), 3) := by decide +kernel
theorem dX12_laySystem_95 : decode cX12_laySystem 95 = .ok (.iinc 2 1, 3) := by decide +kernel
theorem dX12_laySystem_98 : decode cX12_laySystem 98 = .ok (.goto (-92), 3) := by decide +kernel
theorem dX12_laySystem_101 : decode cX12_laySystem 101 = .ok (.iconst 0, 1) := by decide +kernel
theorem dX12_laySystem_102 : decode cX12_laySystem 102 = .ok (.istore_n 2, 1) := by decide +kernel
theorem dX12_laySystem_103 : decode cX12_laySystem 103 = .ok (.iload_n 2, 1) := by decide +kernel
theorem dX12_laySystem_104 : decode cX12_laySystem 104 = .ok (.bipush 12, 2) := by decide +kernel
theorem dX12_laySystem_106 : decode cX12_laySystem 106 = .ok (.if_icmp .ge 42, 3) := by decide +kernel
theorem dX12_laySystem_109 : decode cX12_laySystem 109 = .ok (.aload_n 0, 1) := by decide +kernel
theorem dX12_laySystem_110 : decode cX12_laySystem 110 = .ok (.getfield 45, 3) := by decide +kernel
theorem dX12_laySystem_113 : decode cX12_laySystem 113 = .ok (.iload_n 2, 1) := by decide +kernel
theorem dX12_laySystem_114 : decode cX12_laySystem 114 = .ok (.sipush 1024, 3) := by decide +kernel
theorem dX12_laySystem_117 : decode cX12_laySystem 117 = .ok (.iload_n 1, 1) := by decide +kernel
theorem dX12_laySystem_118 : decode cX12_laySystem 118 = .ok (.isub, 1) := by decide +kernel
theorem dX12_laySystem_119 : decode cX12_laySystem 119 = .ok (.i2l, 1) := by decide +kernel
theorem dX12_laySystem_120 : decode cX12_laySystem 120 = .ok (.aload_n 0, 1) := by decide +kernel
theorem dX12_laySystem_121 : decode cX12_laySystem 121 = .ok (.getfield 42, 3) := by decide +kernel
theorem dX12_laySystem_124 : decode cX12_laySystem 124 = .ok (.iload_n 2, 1) := by decide +kernel
theorem dX12_laySystem_125 : decode cX12_laySystem 125 = .ok (.laload, 1) := by decide +kernel
theorem dX12_laySystem_126 : decode cX12_laySystem 126 = .ok (.lmul, 1) := by decide +kernel
theorem dX12_laySystem_127 : decode cX12_laySystem 127 = .ok (.iload_n 1, 1) := by decide +kernel
theorem dX12_laySystem_128 : decode cX12_laySystem 128 = .ok (.i2l, 1) := by decide +kernel
theorem dX12_laySystem_129 : decode cX12_laySystem 129 = .ok (.aload_n 0, 1) := by decide +kernel
theorem dX12_laySystem_130 : decode cX12_laySystem 130 = .ok (.getfield 39, 3) := by decide +kernel
theorem dX12_laySystem_133 : decode cX12_laySystem 133 = .ok (.iload_n 2, 1) := by decide +kernel
theorem dX12_laySystem_134 : decode cX12_laySystem 134 = .ok (.laload, 1) := by decide +kernel
theorem dX12_laySystem_135 : decode cX12_laySystem 135 = .ok (.lmul, 1) := by decide +kernel
theorem dX12_laySystem_136 : decode cX12_laySystem 136 = .ok (.ladd, 1) := by decide +kernel
theorem dX12_laySystem_137 : decode cX12_laySystem 137 = .ok (.ldc2_w 26, 3) := by decide +kernel
theorem dX12_laySystem_140 : decode cX12_laySystem 140 = .ok (.ldiv, 1) := by decide +kernel
theorem dX12_laySystem_141 : decode cX12_laySystem 141 = .ok (.lastore, 1) := by decide +kernel
theorem dX12_laySystem_142 : decode cX12_laySystem 142 = .ok (.iinc 2 1, 3) := by decide +kernel
theorem dX12_laySystem_145 : decode cX12_laySystem 145 = .ok (.goto (-42), 3) := by decide +kernel
theorem dX12_laySystem_148 : decode cX12_laySystem 148 = .ok (.return_, 1) := by decide +kernel
set_option maxHeartbeats 1000000 in
set_option maxRecDepth 100000 in
theorem t_X12_laySystem (l : Launch) (D : xD) (z n : Nat) (G : xG) (I : xI) (L : xL) (A : Nat) (P : Nat) (u : Int64) (Y : xSy) (hM : shMo G A) (zA : z ≤ A) (hP : P ≤ 1024) (hu9 : L A 9 = u) (hu : ¬ u = 0) (hY : cofY I A Y) (hx7 : hC (mRp L (A + 7) 0) = (mRp L (A + 7) 0)) (hy7 : hC (mRp L (A + 7) 2) = (mRp L (A + 7) 2)) : xM0 l D z yX12_laySystem cX12_laySystem 5 none 6 156 [.ref A, .int (nI P)] n G I L (fun v' I' L' => v' = none ∧ I' = I ∧ (mSysO L' A Y P (mRp L (A + 7) 0) (mRp L (A + 7) 2) u) ∧ (∀ q, q ≠ A → q ≠ A + 6 → q ≠ A + 8 → q ≠ A + 9 → q ≠ A + 10 → L' q = L q) ∧ (∀ j, j ≠ 7 → j ≠ 8 → L' A j = L A j)) := by
  refine xM.of (by decide) (Nat.le_of_ble_eq_true rfl) (fun p e s m args below meth c C hnm hsz => ?_)
  refine x_lv [(0, .ref A), (1, .int (nI P))] rfl ?_
  refine x_aload_n 0 C dX12_laySystem_0 rfl 0 rfl ?_
  refine x_callVp 1 C dX12_laySystem_1 (As := []) (rest := []) (t_X12_layPoint l D z n G I L A u hM (by omega) (by first | assumption | omega | decide) (by first | assumption | omega | decide)) mt_X12_layPoint km_X12_123 ki_X12_layPoint ks_X12_layPoint hM.1 ⟨by decide, rfl⟩ rfl (Nat.le_of_ble_eq_true rfl) ⟨⟨by decide, by decide⟩, by decide, by decide⟩ (fun w1 I2 L3 hw1 => ?_)
  obtain ⟨hw1v, eI2, hw1r0, hw1r1, hw1r2, hw1r3⟩ := hw1
  subst hw1v
  refine x_st [] rfl ?_
  replace eI2 := eI2.symm; subst eI2
  refine x_iconst 4 C (v := 0) dX12_laySystem_4 rfl ?_
  refine x_istore_n 5 C [(2, .int 0), (0, .ref A), (1, .int (nI P))] dX12_laySystem_5 rfl (by decide) rfl ?_
  have loop6 : ∀ (fuel : Nat) (b : Nat) (Lk : xL), (b ≤ 3) → (4 ≤ b + fuel) → (mSys L Lk A Y (mRp L (A + 7) 0) (mRp L (A + 7) 2) u (4 * b)) → X p l e (xRm 6 156 0 0) s m args below meth c D z 5 (MQ below (xQc D z n (xN n G (fun v' I' L' => v' = none ∧ I' = I ∧ (mSysO L' A Y P (mRp L (A + 7) 0) (mRp L (A + 7) 2) u) ∧ (∀ q, q ≠ A → q ≠ A + 6 → q ≠ A + 8 → q ≠ A + 9 → q ≠ A + 10 → L' q = L q) ∧ (∀ j, j ≠ 7 → j ≠ 8 → L' A j = L A j)))) args s 0 0 (fun a => z ≤ a)) 0 0 n G I Lk 6 [(0, .ref A), (1, .int (nI P)), (2, .int (nI b))] [] := by
    intro fuel
    induction fuel with
    | zero =>
      intro b Lk hb hf hS
      exact absurd hf (by omega)
    | succ fuel ih =>
      intro b Lk hb hf hS
      have ihO := ih
      refine x_iload_n 6 C dX12_laySystem_6 rfl 2 rfl ?_
      refine x_iconst 7 C (v := 3) dX12_laySystem_7 rfl ?_
      refine x_icmp_ge 8 C 101 dX12_laySystem_8 (by decide) (fun c4 => ?_) (fun c4 => ?_)
      · skip
        have c4n : 3 ≤ b := (nI_leI (a := 3) (b := b) (by omega) (by omega)).mp c4
        have c4m : ¬ (b < 3) := by omega
        have c4o := Int32.not_lt.mpr c4
        refine x_iconst 101 C (v := 0) dX12_laySystem_101 rfl ?_
        refine x_istore_n 102 C [(2, .int 0), (0, .ref A), (1, .int (nI P))] dX12_laySystem_102 rfl (by decide) rfl ?_
        have loop103 : ∀ (fuel : Nat) (k : Nat) (Lm : xL), (k ≤ 12) → (13 ≤ k + fuel) → (∀ j, j < k → Lm (A + 10) j = mMix Y P (mRp L (A + 7) 0) (mRp L (A + 7) 2) u j) → (∀ q, q ≠ A + 10 → Lm q = Lk q) → X p l e (xRm 6 156 0 0) s m args below meth c D z 5 (MQ below (xQc D z n (xN n G (fun v' I' L' => v' = none ∧ I' = I ∧ (mSysO L' A Y P (mRp L (A + 7) 0) (mRp L (A + 7) 2) u) ∧ (∀ q, q ≠ A → q ≠ A + 6 → q ≠ A + 8 → q ≠ A + 9 → q ≠ A + 10 → L' q = L q) ∧ (∀ j, j ≠ 7 → j ≠ 8 → L' A j = L A j)))) args s 0 0 (fun a => z ≤ a)) 0 0 n G I Lm 103 [(0, .ref A), (1, .int (nI P)), (2, .int (nI k))] [] := by
          intro fuel
          induction fuel with
          | zero =>
            intro k Lm hk hf3 hm hr
            exact absurd hf3 (by omega)
          | succ fuel ih =>
            intro k Lm hk hf3 hm hr
            refine x_iload_n 103 C dX12_laySystem_103 rfl 2 rfl ?_
            refine x_bipush 104 C (v := 12) dX12_laySystem_104 rfl ?_
            refine x_icmp_ge 106 C 148 dX12_laySystem_106 (by decide) (fun c5 => ?_) (fun c5 => ?_)
            · skip
              have c5n : 12 ≤ k := (nI_leI (a := 12) (b := k) (by omega) (by omega)).mp c5
              have c5m : ¬ (k < 12) := by omega
              have c5o := Int32.not_lt.mpr c5
              refine x_vret 148 C dX12_laySystem_148 rfl (Nat.le_refl _) (xN.intro ?_)
              have hk12 : k = 12 := by omega
              subst hk12
              have hb3 : b = 3 := by omega
              subst hb3
              exact ⟨rfl, rfl, mSysO_of hP hS (hr _ (by omega)) (hr _ (by omega)) hm, fun q h0 h6 h8 h9 h10 => (hr q h10).trans (hS.2.2.1 q h0 h6 h8 h9 h10), fun j h7 h8 => by rw [hr A (by omega)]; exact hS.2.2.2.1 j h7 h8⟩
            · skip
              have c5n : ¬ (12 ≤ k) := fun h => c5 ((nI_leI (a := 12) (b := k) (by omega) (by omega)).mpr h)
              have c5m : k < 12 := by omega
              have c5o := Int32.not_le.mp c5
              refine x_aload_n 109 C dX12_laySystem_109 rfl 0 rfl ?_
              refine x_getr 110 C (b := A + 10) dX12_laySystem_110 ff_X12_45 rfl hM.1 rfl ?_
              refine x_iload_n 113 C dX12_laySystem_113 rfl 2 rfl ?_
              refine x_sipush 114 C (v := 1024) dX12_laySystem_114 rfl ?_
              refine x_iload_n 117 C dX12_laySystem_117 rfl 1 rfl ?_
              refine x_isub 118 C dX12_laySystem_118 ?_
              refine x_int (nI (1024 - P)) (nI_sub (a := 1024) (b := P) (by omega)) ?_
              refine x_i2l 119 C dX12_laySystem_119 ?_
              refine x_aload_n 120 C dX12_laySystem_120 rfl 0 rfl ?_
              refine x_getr 121 C (b := A + 9) dX12_laySystem_121 ff_X12_42 rfl hM.1 rfl ?_
              refine x_iload_n 124 C dX12_laySystem_124 rfl 2 rfl ?_
              refine x_lald 125 C (j := k) dX12_laySystem_125 hM.2.2.2.2.2.2.2.2.2.1 (xIx_nI (by omega) (by decide)) ?_
              refine x_long (mSta Y (mRp L (A + 7) 0) (mRp L (A + 7) 2) u k) (by rw [hr _ (by omega)]; exact (hS.2.2.2.2 k (by omega)).2) ?_
              refine x_lmul 126 C dX12_laySystem_126 ?_
              refine x_iload_n 127 C dX12_laySystem_127 rfl 1 rfl ?_
              refine x_i2l 128 C dX12_laySystem_128 ?_
              refine x_aload_n 129 C dX12_laySystem_129 rfl 0 rfl ?_
              refine x_getr 130 C (b := A + 8) dX12_laySystem_130 ff_X12_39 rfl hM.1 rfl ?_
              refine x_iload_n 133 C dX12_laySystem_133 rfl 2 rfl ?_
              refine x_lald 134 C (j := k) dX12_laySystem_134 hM.2.2.2.2.2.2.2.2.1 (xIx_nI (by omega) (by decide)) ?_
              refine x_long (mEnd Y (mRp L (A + 7) 0) (mRp L (A + 7) 2) u k) (by rw [hr _ (by omega)]; exact (hS.2.2.2.2 k (by omega)).1) ?_
              refine x_lmul 135 C dX12_laySystem_135 ?_
              refine x_ladd 136 C dX12_laySystem_136 ?_
              refine x_ldc2 137 C 1024 dX12_laySystem_137 kk_X12_26 ?_
              refine x_ldiv 140 C dX12_laySystem_140 (by decide) ?_
              refine x_last 141 C (j := k) dX12_laySystem_141 hM.2.2.2.2.2.2.2.2.2.2.1 (by omega) (xIx_nI (by omega) (by decide)) (fun L6 eL6 => ?_)
              refine x_iinc 142 C [(2, .int (nI (k + 1))), (0, .ref A), (1, .int (nI P))] dX12_laySystem_142 2 rfl (nI_add k 1) (by decide) rfl ?_
              refine x_goto 145 C 103 dX12_laySystem_145 (by decide) ?_
              refine x_sub [(0, .ref A), (1, .int (nI P)), (2, .int (nI (k + 1)))] [1, 2, 0] rfl ?_
              exact ih (k + 1) L6 (by omega) (by omega) (fun j hj => by rw [eL6, xup_at]; by_cases h : j = k; (rw [if_pos h, h]; rfl); (rw [if_neg h]; exact hm j (by omega))) (fun q hq => by rw [eL6, xup_row _ _ hq]; exact hr q hq)
        refine x_sub [(0, .ref A), (1, .int (nI P)), (2, .int 0)] [1, 2, 0] rfl ?_
        exact loop103 13 0 Lk (by omega) (by omega) (fun j hj => absurd hj (by omega)) (fun _ _ => rfl)
      · skip
        have c4n : ¬ (3 ≤ b) := fun h => c4 ((nI_leI (a := 3) (b := b) (by omega) (by omega)).mpr h)
        have c4m : b < 3 := by omega
        have c4o := Int32.not_le.mp c4
        refine x_iconst 11 C (v := 0) dX12_laySystem_11 rfl ?_
        refine x_istore_n 12 C [(3, .int 0), (0, .ref A), (1, .int (nI P)), (2, .int (nI b))] dX12_laySystem_12 rfl (by decide) rfl ?_
        have loop13 : ∀ (fuel : Nat) (q : Nat) (Lk : xL), (q ≤ 2) → (3 ≤ q + fuel) → (mSys L Lk A Y (mRp L (A + 7) 0) (mRp L (A + 7) 2) u (4 * b + 2 * q)) → X p l e (xRm 6 156 0 0) s m args below meth c D z 5 (MQ below (xQc D z n (xN n G (fun v' I' L' => v' = none ∧ I' = I ∧ (mSysO L' A Y P (mRp L (A + 7) 0) (mRp L (A + 7) 2) u) ∧ (∀ q, q ≠ A → q ≠ A + 6 → q ≠ A + 8 → q ≠ A + 9 → q ≠ A + 10 → L' q = L q) ∧ (∀ j, j ≠ 7 → j ≠ 8 → L' A j = L A j)))) args s 0 0 (fun a => z ≤ a)) 0 0 n G I Lk 13 [(0, .ref A), (1, .int (nI P)), (2, .int (nI b)), (3, .int (nI q))] [] := by
          intro fuel
          induction fuel with
          | zero =>
            intro q Lk hq2 hf2 hS2
            exact absurd hf2 (by omega)
          | succ fuel ih =>
            intro q Lk hq2 hf2 hS2
            have huk : Lk A 9 = u := (hS2.2.2.2.1 9 (by decide) (by decide)).trans hu9
            refine x_iload_n 13 C dX12_laySystem_13 rfl 3 rfl ?_
            refine x_iconst 14 C (v := 2) dX12_laySystem_14 rfl ?_
            refine x_icmp_ge 15 C 95 dX12_laySystem_15 (by decide) (fun c7 => ?_) (fun c7 => ?_)
            · skip
              have c7n : 2 ≤ q := (nI_leI (a := 2) (b := q) (by omega) (by omega)).mp c7
              have c7m : ¬ (q < 2) := by omega
              have c7o := Int32.not_lt.mpr c7
              refine x_iinc 95 C [(2, .int (nI (b + 1))), (0, .ref A), (1, .int (nI P)), (3, .int (nI q))] dX12_laySystem_95 2 rfl (nI_add b 1) (by decide) rfl ?_
              refine x_goto 98 C 6 dX12_laySystem_98 (by decide) ?_
              refine x_sub [(0, .ref A), (1, .int (nI P)), (2, .int (nI (b + 1)))] [1, 2, 0] rfl ?_
              exact ihO (b + 1) Lk (by omega) (by omega) (by rw [show 4 * (b + 1) = 4 * b + 2 * q by omega]; exact hS2)
            · skip
              have c7n : ¬ (2 ≤ q) := fun h => c7 ((nI_leI (a := 2) (b := q) (by omega) (by omega)).mpr h)
              have c7m : q < 2 := by omega
              have c7o := Int32.not_le.mp c7
              refine x_iconst 18 C (v := 4) dX12_laySystem_18 rfl ?_
              refine x_iload_n 19 C dX12_laySystem_19 rfl 2 rfl ?_
              refine x_imul 20 C dX12_laySystem_20 ?_
              refine x_int (nI (4 * b)) (nI_mul 4 b) ?_
              refine x_iconst 21 C (v := 2) dX12_laySystem_21 rfl ?_
              refine x_iload_n 22 C dX12_laySystem_22 rfl 3 rfl ?_
              refine x_imul 23 C dX12_laySystem_23 ?_
              refine x_int (nI (2 * q)) (nI_mul 2 q) ?_
              refine x_iadd 24 C dX12_laySystem_24 ?_
              refine x_int (nI (4 * b + (2 * q))) (nI_add (4 * b) (2 * q)) ?_
              refine x_istore 25 C [(4, .int (nI (4 * b + (2 * q)))), (0, .ref A), (1, .int (nI P)), (2, .int (nI b)), (3, .int (nI q))] dX12_laySystem_25 (by decide) rfl ?_
              refine x_aload_n 27 C dX12_laySystem_27 rfl 1 rfl ?_
              refine x_iload_n 28 C dX12_laySystem_28 rfl 4 rfl ?_
              refine x_iload_n 29 C dX12_laySystem_29 rfl 3 rfl ?_
              refine x_callVe 30 C dX12_laySystem_30 (As := [.int (nI q), .int (nI b)]) (rest := []) [] (t_X12_worth_a l D z n G I Lk A q (mYF Y (q)) (mYG Y (q)) (mRp L (A + 7) 0) (mRp L (A + 7) 2) u b hM (by omega) (hY.1 (q) (by omega)).1 (hY.1 (q) (by omega)).2.1 (hY.1 (q) (by omega)).2.2 hS2.1 hS2.2.1 hx7 hy7 huk hu (by omega)) mt_X12_worth km_X12_116 ki_X12_worth ks_X12_worth hM.1 ⟨by decide, rfl⟩ rfl rfl (Nat.le_of_ble_eq_true rfl) ⟨⟨by decide, by decide⟩, by decide, by decide⟩ (fun I8 L9 eI8 eL9 => ?_)
              replace eI8 := eI8.symm; subst eI8
              refine x_aload_n 33 C dX12_laySystem_33 rfl 1 rfl ?_
              refine x_getr 34 C (b := A + 8) dX12_laySystem_34 ff_X12_39 rfl hM.1 rfl ?_
              refine x_iload 37 C dX12_laySystem_37 0 rfl ?_
              refine x_aload_n 39 C dX12_laySystem_39 rfl 1 rfl ?_
              refine x_getl 40 C dX12_laySystem_40 ff_X12_87 hM.1 ?_
              refine x_long ((mE Y b q (mRp L (A + 7) 0) (mRp L (A + 7) 2) u).1) (by rw [eL9, mwC_7]; rfl) ?_
              refine x_last 43 C (j := (4 * b + (2 * q))) dX12_laySystem_43 hM.2.2.2.2.2.2.2.2.1 (by omega) (xIx_nI (by omega) (by decide)) (fun L10 eL10 => ?_)
              refine x_aload_n 44 C dX12_laySystem_44 rfl 1 rfl ?_
              refine x_getr 45 C (b := A + 8) dX12_laySystem_45 ff_X12_39 rfl hM.1 rfl ?_
              refine x_iload 48 C dX12_laySystem_48 0 rfl ?_
              refine x_iconst 50 C (v := 1) dX12_laySystem_50 rfl ?_
              refine x_iadd 51 C dX12_laySystem_51 ?_
              refine x_int (nI (4 * b + (2 * q) + 1)) (nI_add (4 * b + (2 * q)) 1) ?_
              refine x_aload_n 52 C dX12_laySystem_52 rfl 1 rfl ?_
              refine x_getl 53 C dX12_laySystem_53 ff_X12_90 hM.1 ?_
              refine x_long ((mE Y b q (mRp L (A + 7) 0) (mRp L (A + 7) 2) u).2) (by rw [eL10, xup_row _ _ (by omega), eL9, mwC_8]; rfl) ?_
              refine x_last 56 C (j := (4 * b + (2 * q) + 1)) dX12_laySystem_56 hM.2.2.2.2.2.2.2.2.1 (by omega) (xIx_nI (by omega) (by decide)) (fun L11 eL11 => ?_)
              refine x_aload_n 57 C dX12_laySystem_57 rfl 1 rfl ?_
              refine x_iconst 58 C (v := 2) dX12_laySystem_58 rfl ?_
              refine x_iload_n 59 C dX12_laySystem_59 rfl 4 rfl ?_
              refine x_iadd 60 C dX12_laySystem_60 ?_
              refine x_int (nI (2 + q)) (nI_add 2 q) ?_
              refine x_iload_n 61 C dX12_laySystem_61 rfl 3 rfl ?_
              refine x_callVe 62 C dX12_laySystem_62 (As := [.int (nI (2 + q)), .int (nI b)]) (rest := []) [] (t_X12_worthWithGamma l D z n G I L11 A (2 + q) (mYF Y (2 + q)) (mYG Y (2 + q)) (mRp L (A + 7) 0) (mRp L (A + 7) 2) u b hM (by omega) (hY.1 (2 + q) (by omega)).1 (hY.1 (2 + q) (by omega)).2.1 (hY.1 (2 + q) (by omega)).2.2 (powAt_congr (fun j _ _ => by rw [eL11, xup_row _ _ (by omega), eL10, xup_row _ _ (by omega), eL9, mwC_row _ _ (by omega)]) hS2.1) (powAt_congr (fun j _ _ => by rw [eL11, xup_row _ _ (by omega), eL10, xup_row _ _ (by omega), eL9, mwC_row _ _ (by omega)]) hS2.2.1) hx7 hy7 (by rw [eL11, xup_row _ _ (by omega), eL10, xup_row _ _ (by omega), eL9, mwC_ne _ _ (by decide) (by decide)]; exact huk) hu (by omega)) mt_X12_worthWithGamma km_X12_126 ki_X12_worthWithGamma ks_X12_worthWithGamma hM.1 ⟨by decide, rfl⟩ rfl rfl (Nat.le_of_ble_eq_true rfl) ⟨⟨by decide, by decide⟩, by decide, by decide⟩ (fun I12 L13 eI12 eL13 => ?_)
              replace eI12 := eI12.symm; subst eI12
              refine x_aload_n 65 C dX12_laySystem_65 rfl 1 rfl ?_
              refine x_getr 66 C (b := A + 9) dX12_laySystem_66 ff_X12_42 rfl hM.1 rfl ?_
              refine x_iload 69 C dX12_laySystem_69 0 rfl ?_
              refine x_aload_n 71 C dX12_laySystem_71 rfl 1 rfl ?_
              refine x_getl 72 C dX12_laySystem_72 ff_X12_87 hM.1 ?_
              refine x_long ((mS Y b q (mRp L (A + 7) 0) (mRp L (A + 7) 2) u).1) (by rw [eL13, mwC_7, hY.2.1, hY.2.2]; rfl) ?_
              refine x_last 75 C (j := (4 * b + (2 * q))) dX12_laySystem_75 hM.2.2.2.2.2.2.2.2.2.1 (by omega) (xIx_nI (by omega) (by decide)) (fun L14 eL14 => ?_)
              refine x_aload_n 76 C dX12_laySystem_76 rfl 1 rfl ?_
              refine x_getr 77 C (b := A + 9) dX12_laySystem_77 ff_X12_42 rfl hM.1 rfl ?_
              refine x_iload 80 C dX12_laySystem_80 0 rfl ?_
              refine x_iconst 82 C (v := 1) dX12_laySystem_82 rfl ?_
              refine x_iadd 83 C dX12_laySystem_83 ?_
              refine x_int (nI (4 * b + (2 * q) + 1)) (nI_add (4 * b + (2 * q)) 1) ?_
              refine x_aload_n 84 C dX12_laySystem_84 rfl 1 rfl ?_
              refine x_getl 85 C dX12_laySystem_85 ff_X12_90 hM.1 ?_
              refine x_long ((mS Y b q (mRp L (A + 7) 0) (mRp L (A + 7) 2) u).2) (by rw [eL14, xup_row _ _ (by omega), eL13, mwC_8, hY.2.1, hY.2.2]; rfl) ?_
              refine x_last 88 C (j := (4 * b + (2 * q) + 1)) dX12_laySystem_88 hM.2.2.2.2.2.2.2.2.2.1 (by omega) (xIx_nI (by omega) (by decide)) (fun L15 eL15 => ?_)
              refine x_iinc 89 C [(3, .int (nI (q + 1))), (4, .int (nI (4 * b + (2 * q)))), (0, .ref A), (1, .int (nI P)), (2, .int (nI b))] dX12_laySystem_89 4 rfl (nI_add q 1) (by decide) rfl ?_
              refine x_goto 92 C 13 dX12_laySystem_92 (by decide) ?_
              refine x_sub [(0, .ref A), (1, .int (nI P)), (2, .int (nI b)), (3, .int (nI (q + 1)))] [2, 3, 4, 0] rfl ?_
              exact ih (q + 1) L15 (by omega) (by omega) (by have hs := mSys_step (q := q) (by omega) hS2; rw [eL15, eL14, eL13, eL11, eL10, eL9, hY.2.1, hY.2.2]; exact hs)
        refine x_sub [(0, .ref A), (1, .int (nI P)), (2, .int (nI b)), (3, .int 0)] [1, 2, 3, 0] rfl ?_
        exact loop13 3 0 Lk (by omega) (by omega) (by rw [show 4 * b + 2 * 0 = 4 * b by omega]; exact hS)
  refine x_sub [(0, .ref A), (1, .int (nI P)), (2, .int 0)] [1, 2, 0] rfl ?_
  exact loop6 4 0 L3 (by omega) (by omega) ⟨hw1r0, hw1r1, fun q h0 h6 _ _ _ => hw1r2 q h0 h6, hw1r3, fun j hj => absurd hj (by omega)⟩
