/-! Constructors: what a new object's cells are -/
theorem vau {α : Type} {f : Nat → α} {k j : Nat} {v : α} (h : j = k) : va_up f k v j = v := by subst h; exact va_up_self f j v
theorem xzero_row {α : Type} (f : Nat → Nat → α) {a q : Nat} (v : α) (h : q ≠ a) : xzero f a v q = f q := by funext k; simp [xzero, h]
theorem xzero_at {α : Type} (f : Nat → Nat → α) (a : Nat) (v : α) (j : Nat) : xzero f a v a j = v := by simp [xzero]
def rPart (f : Nat → Option Nat) (i : Nat) : Nat → Option Nat := fun k => if k < i then f k else none
theorem rPart_0 {f : Nat → Option Nat} : rPart f 0 = rN := by funext k; simp [rPart]
theorem rPart_up {f : Nat → Option Nat} {i : Nat} {x : Option Nat} (h : x = f i) : va_up (rPart f i) i x = rPart f (i + 1) := by
  funext k
  simp only [va_up, rPart]
  by_cases h1 : k = i
  · subst h1; rw [if_pos rfl, if_pos (by omega), h]
  · rw [if_neg h1]
    by_cases h2 : k < i
    · rw [if_pos h2, if_pos (by omega)]
    · rw [if_neg h2, if_neg (by omega)]
def cPost (b sz : Nat) (sh : xG → Prop) (G : xG) (I : xI) (L : xL) : xPost := fun v n' G' I' L' => v = none ∧ n' = b + sz ∧ sh G' ∧ (∀ a, a < b → G' a = G a) ∧ (∀ a, a < b + 1 → I' a = I a) ∧ ∀ a, a < b + 1 → L' a = L a
theorem shP_congr {G G' : xG} {b : Nat} (h : ∀ a, b ≤ a → a < b + 3 → G' a = G a) (s : shP G b) : shP G' b := ⟨(h _ (by omega) (by omega)).trans s.1, (h _ (by omega) (by omega)).trans s.2.1, (h _ (by omega) (by omega)).trans s.2.2⟩
theorem shE_congr {G G' : xG} {b : Nat} (h : ∀ a, b ≤ a → a < b + 4 → G' a = G a) (s : shE G b) : shE G' b := ⟨(h _ (by omega) (by omega)).trans s.1, (h _ (by omega) (by omega)).trans s.2.1, (h _ (by omega) (by omega)).trans s.2.2.1, (h _ (by omega) (by omega)).trans s.2.2.2⟩
theorem shT_congr {G G' : xG} {b : Nat} (h : ∀ a, b ≤ a → a < b + 4 → G' a = G a) (s : shT G b) : shT G' b := ⟨(h _ (by omega) (by omega)).trans s.1, (h _ (by omega) (by omega)).trans s.2.1, (h _ (by omega) (by omega)).trans s.2.2.1, (h _ (by omega) (by omega)).trans s.2.2.2⟩
theorem shW_congr {G G' : xG} {b : Nat} (h : ∀ a, b ≤ a → a < b + 12 → G' a = G a) (s : shW G b) : shW G' b := ⟨(h _ (by omega) (by omega)).trans s.1, (h _ (by omega) (by omega)).trans s.2.1, fun k hk => (h _ (by omega) (by omega)).trans (s.2.2 k hk)⟩
theorem shO_congr {G G' : xG} {b : Nat} (h : ∀ a, b ≤ a → a < b + 7 → G' a = G a) (s : shO G b) : shO G' b := ⟨(h _ (by omega) (by omega)).trans s.1, fun k hk => (h _ (by omega) (by omega)).trans (s.2 k hk)⟩
theorem shH_congr {G G' : xG} {b : Nat} (h : ∀ a, b ≤ a → a < b + 58 → G' a = G a) (s : shH G b) : shH G' b :=
  ⟨(h _ (by omega) (by omega)).trans s.1, shW_congr (fun a h1 h2 => h a (by omega) (by omega)) s.2.1, (h _ (by omega) (by omega)).trans s.2.2.1, (h _ (by omega) (by omega)).trans s.2.2.2.1, (h _ (by omega) (by omega)).trans s.2.2.2.2.1, (h _ (by omega) (by omega)).trans s.2.2.2.2.2.1, (h _ (by omega) (by omega)).trans s.2.2.2.2.2.2.1, fun e he =>
    ⟨shE_congr (fun a h1 h2 => h a (by omega) (by omega)) (s.2.2.2.2.2.2.2 e he).1, shE_congr (fun a h1 h2 => h a (by omega) (by omega)) (s.2.2.2.2.2.2.2 e he).2.1, shT_congr (fun a h1 h2 => h a (by omega) (by omega)) (s.2.2.2.2.2.2.2 e he).2.2.1, shT_congr (fun a h1 h2 => h a (by omega) (by omega)) (s.2.2.2.2.2.2.2 e he).2.2.2.1, shT_congr (fun a h1 h2 => h a (by omega) (by omega)) (s.2.2.2.2.2.2.2 e he).2.2.2.2⟩⟩
theorem shF_congr {G G' : xG} {b : Nat} (h : ∀ a, b ≤ a → a < b + 68 → G' a = G a) (s : shF G b) : shF G' b :=
  ⟨(h _ (by omega) (by omega)).trans s.1, shH_congr (fun a h1 h2 => h a (by omega) (by omega)) s.2.1, shO_congr (fun a h1 h2 => h a (by omega) (by omega)) s.2.2.1, (h _ (by omega) (by omega)).trans s.2.2.2.1, (h _ (by omega) (by omega)).trans s.2.2.2.2⟩
theorem shS_congr {G G' : xG} {b : Nat} (h : ∀ a, b ≤ a → a < b + 38 → G' a = G a) (s : shS G b) : shS G' b :=
  ⟨(h _ (by omega) (by omega)).trans s.1, fun e he => shE_congr (fun a h1 h2 => h a (by omega) (by omega)) (s.2.1 e he), (h _ (by omega) (by omega)).trans s.2.2.1, (h _ (by omega) (by omega)).trans s.2.2.2.1, fun k hk => shP_congr (fun a h1 h2 => h a (by omega) (by omega)) (s.2.2.2.2 k hk)⟩
theorem shHi_congr {G G' : xG} {b : Nat} (h : ∀ a, b ≤ a → a < b + 154 → G' a = G a) (s : shHi G b) : shHi G' b :=
  ⟨(h _ (by omega) (by omega)).trans s.1, (h _ (by omega) (by omega)).trans s.2.1, fun k hk => shS_congr (fun a h1 h2 => h a (by omega) (by omega)) (s.2.2 k hk)⟩
theorem shX_congr {G G' : xG} {b : Nat} (h : ∀ a, b ≤ a → a < b + 6 → G' a = G a) (s : shX G b) : shX G' b :=
  ⟨(h _ (by omega) (by omega)).trans s.1, (h _ (by omega) (by omega)).trans s.2.1, shE_congr (fun a h1 h2 => h a (by omega) (by omega)) s.2.2⟩
theorem hd_X0 : ∀ j, j < (xCl 0).2.2 → defaultValue (xTy 0 j) = xV (xTy 0 j) 0 0 none := fun j hj => by
  have hj' : j < 2 := hj
  rcases (show j = 0 ∨ j = 1 by omega) with rfl | rfl <;> rfl
theorem hd_X1 : ∀ j, j < (xCl 1).2.2 → defaultValue (xTy 1 j) = xV (xTy 1 j) 0 0 none := fun j hj => by
  have hj' : j < 3 := hj
  rcases (show j = 0 ∨ j = 1 ∨ j = 2 by omega) with rfl | rfl | rfl <;> rfl
theorem hd_X2 : ∀ j, j < (xCl 2).2.2 → defaultValue (xTy 2 j) = xV (xTy 2 j) 0 0 none := fun j hj => by
  have hj' : j < 4 := hj
  rcases (show j = 0 ∨ j = 1 ∨ j = 2 ∨ j = 3 by omega) with rfl | rfl | rfl | rfl <;> rfl
theorem hd_X3 : ∀ j, j < (xCl 3).2.2 → defaultValue (xTy 3 j) = xV (xTy 3 j) 0 0 none := fun j hj => by
  have hj' : j < 8 := hj
  rcases (show j = 0 ∨ j = 1 ∨ j = 2 ∨ j = 3 ∨ j = 4 ∨ j = 5 ∨ j = 6 ∨ j = 7 by omega) with rfl | rfl | rfl | rfl | rfl | rfl | rfl | rfl <;> rfl
theorem hd_X4 : ∀ j, j < (xCl 4).2.2 → defaultValue (xTy 4 j) = xV (xTy 4 j) 0 0 none := fun j hj => by
  have hj' : j < 3 := hj
  rcases (show j = 0 ∨ j = 1 ∨ j = 2 by omega) with rfl | rfl | rfl <;> rfl
theorem hd_X5 : ∀ j, j < (xCl 5).2.2 → defaultValue (xTy 5 j) = xV (xTy 5 j) 0 0 none := fun j hj => by
  have hj' : j < 8 := hj
  rcases (show j = 0 ∨ j = 1 ∨ j = 2 ∨ j = 3 ∨ j = 4 ∨ j = 5 ∨ j = 6 ∨ j = 7 by omega) with rfl | rfl | rfl | rfl | rfl | rfl | rfl | rfl <;> rfl
theorem hd_X6 : ∀ j, j < (xCl 6).2.2 → defaultValue (xTy 6 j) = xV (xTy 6 j) 0 0 none := fun j hj => by
  have hj' : j < 10 := hj
  rcases (show j = 0 ∨ j = 1 ∨ j = 2 ∨ j = 3 ∨ j = 4 ∨ j = 5 ∨ j = 6 ∨ j = 7 ∨ j = 8 ∨ j = 9 by omega) with rfl | rfl | rfl | rfl | rfl | rfl | rfl | rfl | rfl | rfl <;> rfl
theorem hd_X7 : ∀ j, j < (xCl 7).2.2 → defaultValue (xTy 7 j) = xV (xTy 7 j) 0 0 none := fun j hj => by
  have hj' : j < 1 := hj
  rcases (show j = 0 by omega) with rfl <;> rfl
theorem hd_X8 : ∀ j, j < (xCl 8).2.2 → defaultValue (xTy 8 j) = xV (xTy 8 j) 0 0 none := fun j hj => by
  have hj' : j < 6 := hj
  rcases (show j = 0 ∨ j = 1 ∨ j = 2 ∨ j = 3 ∨ j = 4 ∨ j = 5 by omega) with rfl | rfl | rfl | rfl | rfl | rfl <;> rfl
theorem hd_X9 : ∀ j, j < (xCl 9).2.2 → defaultValue (xTy 9 j) = xV (xTy 9 j) 0 0 none := fun j hj => by
  have hj' : j < 5 := hj
  rcases (show j = 0 ∨ j = 1 ∨ j = 2 ∨ j = 3 ∨ j = 4 by omega) with rfl | rfl | rfl | rfl | rfl <;> rfl
theorem hd_X10 : ∀ j, j < (xCl 10).2.2 → defaultValue (xTy 10 j) = xV (xTy 10 j) 0 0 none := fun j hj => by
  have hj' : j < 3 := hj
  rcases (show j = 0 ∨ j = 1 ∨ j = 2 by omega) with rfl | rfl | rfl <;> rfl
theorem hd_X11 : ∀ j, j < (xCl 11).2.2 → defaultValue (xTy 11 j) = xV (xTy 11 j) 0 0 none := fun j hj => by
  have hj' : j < 6 := hj
  rcases (show j = 0 ∨ j = 1 ∨ j = 2 ∨ j = 3 ∨ j = 4 ∨ j = 5 by omega) with rfl | rfl | rfl | rfl | rfl | rfl <;> rfl
theorem hd_X12 : ∀ j, j < (xCl 12).2.2 → defaultValue (xTy 12 j) = xV (xTy 12 j) 0 0 none := fun j hj => by
  have hj' : j < 24 := hj
  rcases (show j = 0 ∨ j = 1 ∨ j = 2 ∨ j = 3 ∨ j = 4 ∨ j = 5 ∨ j = 6 ∨ j = 7 ∨ j = 8 ∨ j = 9 ∨ j = 10 ∨ j = 11 ∨ j = 12 ∨ j = 13 ∨ j = 14 ∨ j = 15 ∨ j = 16 ∨ j = 17 ∨ j = 18 ∨ j = 19 ∨ j = 20 ∨ j = 21 ∨ j = 22 ∨ j = 23 by omega) with rfl | rfl | rfl | rfl | rfl | rfl | rfl | rfl | rfl | rfl | rfl | rfl | rfl | rfl | rfl | rfl | rfl | rfl | rfl | rfl | rfl | rfl | rfl | rfl <;> rfl
theorem dX0_init_0 : decode cX0_init 0 = .ok (.aload_n 0, 1) := by decide +kernel
theorem dX0_init_1 : decode cX0_init 1 = .ok (.invokespecial 1, 3) := by decide +kernel
theorem dX0_init_4 : decode cX0_init 4 = .ok (.return_, 1) := by decide +kernel
set_option maxHeartbeats 1000000 in
theorem c_X0_init (l : Launch) (D : xD) (z n : Nat) (G : xG) (I : xI) (L : xL) (a : Nat)  : xM0 l D z yX0_init cX0_init 1 none 1 20 [.ref a] n G I L (xE none I L) := by
  refine xM.of (by decide) (Nat.le_of_ble_eq_true rfl) (fun p e s m args below meth c C hnm hsz => ?_)
  refine x_lv [(0, .ref a)] rfl ?_
  refine x_aload_n 0 C dX0_init_0 rfl 0 rfl ?_
  refine x_obj 1 C dX0_init_1 km_X0_1 ki_obj kc_obj (Nat.le_of_ble_eq_true rfl) (Nat.le_of_ble_eq_true rfl) ?_
  refine x_vret 4 C dX0_init_4 rfl (Nat.le_refl _) (xN.intro ?_)
  exact ⟨rfl, rfl, rfl⟩
theorem dX6_init_0 : decode cX6_init 0 = .ok (.aload_n 0, 1) := by decide +kernel
theorem dX6_init_1 : decode cX6_init 1 = .ok (.invokespecial 1, 3) := by decide +kernel
theorem dX6_init_4 : decode cX6_init 4 = .ok (.aload_n 0, 1) := by decide +kernel
theorem dX6_init_5 : decode cX6_init 5 = .ok (.new 7, 3) := by decide +kernel
theorem dX6_init_8 : decode cX6_init 8 = .ok (.dup, 1) := by decide +kernel
theorem dX6_init_9 : decode cX6_init 9 = .ok (.invokespecial 9, 3) := by decide +kernel
theorem dX6_init_12 : decode cX6_init 12 = .ok (.putfield 10, 3) := by decide +kernel
theorem dX6_init_15 : decode cX6_init 15 = .ok (.aload_n 0, 1) := by decide +kernel
theorem dX6_init_16 : decode cX6_init 16 = .ok (.new 7, 3) := by decide +kernel
theorem dX6_init_19 : decode cX6_init 19 = .ok (.dup, 1) := by decide +kernel
theorem dX6_init_20 : decode cX6_init 20 = .ok (.invokespecial 9, 3) := by decide +kernel
theorem dX6_init_23 : decode cX6_init 23 = .ok (.putfield 16, 3) := by decide +kernel
theorem dX6_init_26 : decode cX6_init 26 = .ok (.return_, 1) := by decide +kernel
set_option maxHeartbeats 1000000 in
set_option maxRecDepth 100000 in
theorem c_X6_init (l : Launch) (D : xD) (z : Nat) (G : xG) (I : xI) (L : xL) (b : Nat) (g0 : G b = some (6, 0, rN)) (zb : z ≤ b) : xM l D z yX6_init cX6_init 1 none 2 40 2 4 [.ref b] (b + 1) G I L (cPost b 3 (fun G' => shP G' b) G I L) := by
  refine xM.of (by decide) (Nat.le_of_ble_eq_true rfl) (fun p e s m args below meth c C hnm hsz => ?_)
  refine x_lv [(0, .ref b)] rfl ?_
  refine x_aload_n 0 C dX6_init_0 rfl 0 rfl ?_
  refine x_obj 1 C dX6_init_1 km_X6_1 ki_obj kc_obj (Nat.le_of_ble_eq_true rfl) (Nat.le_of_ble_eq_true rfl) ?_
  refine x_aload_n 4 C dX6_init_4 rfl 0 rfl ?_
  refine x_new 5 C dX6_init_5 (by decide) hh_X0 kl_X6_7 kb_X0 kn_X0 hd_X0 (Nat.le_of_ble_eq_true rfl) (Nat.le_of_ble_eq_true rfl) (fun G1 I1 L1 eG1 eI1 eL1 => ?_)
  refine x_dup 8 C dX6_init_8 rfl ?_
  refine x_callIN 9 C dX6_init_9 (rest := [.ref (b + 1), .ref b]) (c_X0_init l D z (b + 2) G1 I1 L1 (b + 1)) mt_X0_init (by decide) ki_X0_init rfl (Nat.le_of_ble_eq_true rfl) ⟨⟨(Nat.le_of_ble_eq_true rfl), (Nat.le_of_ble_eq_true rfl)⟩, (Nat.le_of_ble_eq_true rfl), (Nat.le_of_ble_eq_true rfl)⟩ (fun v2 n2 G2 I2 L2 hp2 _ => ?_)
  obtain ⟨hn2, hG2, hv2, hI2, hL2⟩ := hp2
  replace hG2 := hG2.symm; replace hI2 := hI2.symm; replace hL2 := hL2.symm; subst hv2; subst hG2; subst hI2; subst hL2; subst hn2
  refine x_st [.ref (b + 1), .ref b] rfl ?_
  have g3 : G1 (b) = some (6, 0, rN) := by rw [eG1, va_up_ne _ _ (by omega)]; exact g0
  refine x_putr 12 C dX6_init_12 ff_X6_10 rfl rfl hnm.symm rfl g3 (by omega) (fun G4 eG4 => ?_)
  refine x_aload_n 15 C dX6_init_15 rfl 0 rfl ?_
  refine x_new 16 C dX6_init_16 (by decide) hh_X0 kl_X6_7 kb_X0 kn_X0 hd_X0 (Nat.le_of_ble_eq_true rfl) (Nat.le_of_ble_eq_true rfl) (fun G5 I5 L5 eG5 eI5 eL5 => ?_)
  refine x_dup 19 C dX6_init_19 rfl ?_
  refine x_callIN 20 C dX6_init_20 (rest := [.ref (b + 2), .ref b]) (c_X0_init l D z (b + 3) G5 I5 L5 (b + 2)) mt_X0_init (by decide) ki_X0_init rfl (Nat.le_of_ble_eq_true rfl) ⟨⟨(Nat.le_of_ble_eq_true rfl), (Nat.le_of_ble_eq_true rfl)⟩, (Nat.le_of_ble_eq_true rfl), (Nat.le_of_ble_eq_true rfl)⟩ (fun v6 n6 G6 I6 L6 hp6 _ => ?_)
  obtain ⟨hn6, hG6, hv6, hI6, hL6⟩ := hp6
  replace hG6 := hG6.symm; replace hI6 := hI6.symm; replace hL6 := hL6.symm; subst hv6; subst hG6; subst hI6; subst hL6; subst hn6
  refine x_st [.ref (b + 2), .ref b] rfl ?_
  have g7 : G5 (b) = some (6, 0, va_up rN 0 (some (b + 1))) := by rw [eG5, va_up_ne _ _ (by omega)]; rw [eG4, vau (by omega)]
  refine x_putr 23 C dX6_init_23 ff_X6_16 rfl rfl hnm.symm rfl g7 (by omega) (fun G8 eG8 => ?_)
  refine x_wid (k' := 2) (n' := 4) (Nat.le_of_ble_eq_true rfl) (Nat.le_of_ble_eq_true rfl) ?_
  refine x_vret 26 C dX6_init_26 rfl (by omega) ?_
  refine ⟨rfl, rfl, ?_, fun a h1 => by rw [eG8, va_up_ne _ _ (by omega)]; rw [eG5, va_up_ne _ _ (by omega)]; rw [eG4, va_up_ne _ _ (by omega)]; rw [eG1, va_up_ne _ _ (by omega)], fun a h1 => by rw [eI5, xzero_row _ _ (by omega)]; rw [eI1, xzero_row _ _ (by omega)], fun a h1 => by rw [eL5, xzero_row _ _ (by omega)]; rw [eL1, xzero_row _ _ (by omega)]⟩
  have g9 : G8 (b) = some (6, 0, va_up (va_up rN 0 (some (b + 1))) 1 (some (b + 2))) := by rw [eG8, vau (by omega)]
  have g10 : G8 (b + 1) = some (0, 0, rN) := by rw [eG8, va_up_ne _ _ (by omega)]; rw [eG5, va_up_ne _ _ (by omega)]; rw [eG4, va_up_ne _ _ (by omega)]; rw [eG1, vau (by omega)]
  have g11 : G8 (b + 2) = some (0, 0, rN) := by rw [eG8, va_up_ne _ _ (by omega)]; rw [eG5, vau (by omega)]
  exact ⟨g9, g10, g11⟩
theorem dX1_init_0 : decode cX1_init 0 = .ok (.aload_n 0, 1) := by decide +kernel
theorem dX1_init_1 : decode cX1_init 1 = .ok (.invokespecial 1, 3) := by decide +kernel
theorem dX1_init_4 : decode cX1_init 4 = .ok (.aload_n 0, 1) := by decide +kernel
theorem dX1_init_5 : decode cX1_init 5 = .ok (.bipush 10, 2) := by decide +kernel
theorem dX1_init_7 : decode cX1_init 7 = .ok (.newarray .int, 2) := by decide +kernel
theorem dX1_init_9 : decode cX1_init 9 = .ok (.putfield 9, 3) := by decide +kernel
theorem dX1_init_12 : decode cX1_init 12 = .ok (.aload_n 0, 1) := by decide +kernel
theorem dX1_init_13 : decode cX1_init 13 = .ok (.bipush 10, 2) := by decide +kernel
theorem dX1_init_15 : decode cX1_init 15 = .ok (.newarray .int, 2) := by decide +kernel
theorem dX1_init_17 : decode cX1_init 17 = .ok (.putfield 13, 3) := by decide +kernel
theorem dX1_init_20 : decode cX1_init 20 = .ok (.aload_n 0, 1) := by decide +kernel
theorem dX1_init_21 : decode cX1_init 21 = .ok (.new 16, 3) := by decide +kernel
theorem dX1_init_24 : decode cX1_init 24 = .ok (.dup, 1) := by decide +kernel
theorem dX1_init_25 : decode cX1_init 25 = .ok (.invokespecial 18, 3) := by decide +kernel
theorem dX1_init_28 : decode cX1_init 28 = .ok (.putfield 19, 3) := by decide +kernel
theorem dX1_init_31 : decode cX1_init 31 = .ok (.return_, 1) := by decide +kernel
set_option maxHeartbeats 1000000 in
set_option maxRecDepth 100000 in
theorem c_X1_init (l : Launch) (D : xD) (z : Nat) (G : xG) (I : xI) (L : xL) (b : Nat) (g0 : G b = some (1, 0, rN)) (zb : z ≤ b) : xM l D z yX1_init cX1_init 1 none 2 40 3 22 [.ref b] (b + 1) G I L (cPost b 4 (fun G' => shE G' b) G I L) := by
  refine xM.of (by decide) (Nat.le_of_ble_eq_true rfl) (fun p e s m args below meth c C hnm hsz => ?_)
  refine x_lv [(0, .ref b)] rfl ?_
  refine x_aload_n 0 C dX1_init_0 rfl 0 rfl ?_
  refine x_obj 1 C dX1_init_1 km_X1_1 ki_obj kc_obj (Nat.le_of_ble_eq_true rfl) (Nat.le_of_ble_eq_true rfl) ?_
  refine x_aload_n 4 C dX1_init_4 rfl 0 rfl ?_
  refine x_bipush 5 C (v := 10) dX1_init_5 rfl ?_
  refine x_newa 7 C 0 (N := 10) dX1_init_7 ⟨by decide, rfl⟩ ka_int (fun cA h => h) rfl (by decide) (by decide) (Nat.le_of_ble_eq_true rfl) (Nat.le_of_ble_eq_true rfl) (Nat.le_of_ble_eq_true rfl) (fun G1 I1 L1 eG1 eI1 eL1 => ?_)
  have g2 : G1 (b) = some (1, 0, rN) := by rw [eG1, va_up_ne _ _ (by omega)]; exact g0
  refine x_putr 9 C dX1_init_9 ff_X1_9 rfl rfl hnm.symm rfl g2 (by omega) (fun G3 eG3 => ?_)
  refine x_aload_n 12 C dX1_init_12 rfl 0 rfl ?_
  refine x_bipush 13 C (v := 10) dX1_init_13 rfl ?_
  refine x_newa 15 C 0 (N := 10) dX1_init_15 ⟨by decide, rfl⟩ ka_int (fun cA h => h) rfl (by decide) (by decide) (Nat.le_of_ble_eq_true rfl) (Nat.le_of_ble_eq_true rfl) (Nat.le_of_ble_eq_true rfl) (fun G4 I4 L4 eG4 eI4 eL4 => ?_)
  have g5 : G4 (b) = some (1, 0, va_up rN 0 (some (b + 1))) := by rw [eG4, va_up_ne _ _ (by omega)]; rw [eG3, vau (by omega)]
  refine x_putr 17 C dX1_init_17 ff_X1_13 rfl rfl hnm.symm rfl g5 (by omega) (fun G6 eG6 => ?_)
  refine x_aload_n 20 C dX1_init_20 rfl 0 rfl ?_
  refine x_new 21 C dX1_init_21 (by decide) hh_X0 kl_X1_16 kb_X0 kn_X0 hd_X0 (Nat.le_of_ble_eq_true rfl) (Nat.le_of_ble_eq_true rfl) (fun G7 I7 L7 eG7 eI7 eL7 => ?_)
  refine x_dup 24 C dX1_init_24 rfl ?_
  refine x_callIN 25 C dX1_init_25 (rest := [.ref (b + 3), .ref b]) (c_X0_init l D z (b + 4) G7 I7 L7 (b + 3)) mt_X0_init (by decide) ki_X0_init rfl (Nat.le_of_ble_eq_true rfl) ⟨⟨(Nat.le_of_ble_eq_true rfl), (Nat.le_of_ble_eq_true rfl)⟩, (Nat.le_of_ble_eq_true rfl), (Nat.le_of_ble_eq_true rfl)⟩ (fun v8 n8 G8 I8 L8 hp8 _ => ?_)
  obtain ⟨hn8, hG8, hv8, hI8, hL8⟩ := hp8
  replace hG8 := hG8.symm; replace hI8 := hI8.symm; replace hL8 := hL8.symm; subst hv8; subst hG8; subst hI8; subst hL8; subst hn8
  refine x_st [.ref (b + 3), .ref b] rfl ?_
  have g9 : G7 (b) = some (1, 0, va_up (va_up rN 0 (some (b + 1))) 1 (some (b + 2))) := by rw [eG7, va_up_ne _ _ (by omega)]; rw [eG6, vau (by omega)]
  refine x_putr 28 C dX1_init_28 ff_X1_19 rfl rfl hnm.symm rfl g9 (by omega) (fun G10 eG10 => ?_)
  refine x_wid (k' := 3) (n' := 22) (Nat.le_of_ble_eq_true rfl) (Nat.le_of_ble_eq_true rfl) ?_
  refine x_vret 31 C dX1_init_31 rfl (by omega) ?_
  refine ⟨rfl, rfl, ?_, fun a h1 => by rw [eG10, va_up_ne _ _ (by omega)]; rw [eG7, va_up_ne _ _ (by omega)]; rw [eG6, va_up_ne _ _ (by omega)]; rw [eG4, va_up_ne _ _ (by omega)]; rw [eG3, va_up_ne _ _ (by omega)]; rw [eG1, va_up_ne _ _ (by omega)], fun a h1 => by rw [eI7, xzero_row _ _ (by omega)]; rw [eI4, xzero_row _ _ (by omega)]; rw [eI1, xzero_row _ _ (by omega)], fun a h1 => by rw [eL7, xzero_row _ _ (by omega)]; rw [eL4, xzero_row _ _ (by omega)]; rw [eL1, xzero_row _ _ (by omega)]⟩
  have g11 : G10 (b) = some (1, 0, va_up (va_up (va_up rN 0 (some (b + 1))) 1 (some (b + 2))) 2 (some (b + 3))) := by rw [eG10, vau (by omega)]
  have g12 : G10 (b + 1) = some (20, 10, rN) := by rw [eG10, va_up_ne _ _ (by omega)]; rw [eG7, va_up_ne _ _ (by omega)]; rw [eG6, va_up_ne _ _ (by omega)]; rw [eG4, va_up_ne _ _ (by omega)]; rw [eG3, va_up_ne _ _ (by omega)]; rw [eG1, vau (by omega)]
  have g13 : G10 (b + 2) = some (20, 10, rN) := by rw [eG10, va_up_ne _ _ (by omega)]; rw [eG7, va_up_ne _ _ (by omega)]; rw [eG6, va_up_ne _ _ (by omega)]; rw [eG4, vau (by omega)]
  have g14 : G10 (b + 3) = some (0, 0, rN) := by rw [eG10, va_up_ne _ _ (by omega)]; rw [eG7, vau (by omega)]
  exact ⟨g11, g12, g13, g14⟩
theorem dX10_init_0 : decode cX10_init 0 = .ok (.aload_n 0, 1) := by decide +kernel
theorem dX10_init_1 : decode cX10_init 1 = .ok (.invokespecial 1, 3) := by decide +kernel
theorem dX10_init_4 : decode cX10_init 4 = .ok (.aload_n 0, 1) := by decide +kernel
theorem dX10_init_5 : decode cX10_init 5 = .ok (.new 7, 3) := by decide +kernel
theorem dX10_init_8 : decode cX10_init 8 = .ok (.dup, 1) := by decide +kernel
theorem dX10_init_9 : decode cX10_init 9 = .ok (.invokespecial 9, 3) := by decide +kernel
theorem dX10_init_12 : decode cX10_init 12 = .ok (.putfield 10, 3) := by decide +kernel
theorem dX10_init_15 : decode cX10_init 15 = .ok (.aload_n 0, 1) := by decide +kernel
theorem dX10_init_16 : decode cX10_init 16 = .ok (.new 7, 3) := by decide +kernel
theorem dX10_init_19 : decode cX10_init 19 = .ok (.dup, 1) := by decide +kernel
theorem dX10_init_20 : decode cX10_init 20 = .ok (.invokespecial 9, 3) := by decide +kernel
theorem dX10_init_23 : decode cX10_init 23 = .ok (.putfield 16, 3) := by decide +kernel
theorem dX10_init_26 : decode cX10_init 26 = .ok (.aload_n 0, 1) := by decide +kernel
theorem dX10_init_27 : decode cX10_init 27 = .ok (.new 7, 3) := by decide +kernel
theorem dX10_init_30 : decode cX10_init 30 = .ok (.dup, 1) := by decide +kernel
theorem dX10_init_31 : decode cX10_init 31 = .ok (.invokespecial 9, 3) := by decide +kernel
theorem dX10_init_34 : decode cX10_init 34 = .ok (.putfield 19, 3) := by decide +kernel
theorem dX10_init_37 : decode cX10_init 37 = .ok (.return_, 1) := by decide +kernel
set_option maxHeartbeats 1000000 in
set_option maxRecDepth 100000 in
theorem c_X10_init (l : Launch) (D : xD) (z : Nat) (G : xG) (I : xI) (L : xL) (b : Nat) (g0 : G b = some (10, 0, rN)) (zb : z ≤ b) : xM l D z yX10_init cX10_init 1 none 2 40 3 6 [.ref b] (b + 1) G I L (cPost b 4 (fun G' => shT G' b) G I L) := by
  refine xM.of (by decide) (Nat.le_of_ble_eq_true rfl) (fun p e s m args below meth c C hnm hsz => ?_)
  refine x_lv [(0, .ref b)] rfl ?_
  refine x_aload_n 0 C dX10_init_0 rfl 0 rfl ?_
  refine x_obj 1 C dX10_init_1 km_X10_1 ki_obj kc_obj (Nat.le_of_ble_eq_true rfl) (Nat.le_of_ble_eq_true rfl) ?_
  refine x_aload_n 4 C dX10_init_4 rfl 0 rfl ?_
  refine x_new 5 C dX10_init_5 (by decide) hh_X0 kl_X10_7 kb_X0 kn_X0 hd_X0 (Nat.le_of_ble_eq_true rfl) (Nat.le_of_ble_eq_true rfl) (fun G1 I1 L1 eG1 eI1 eL1 => ?_)
  refine x_dup 8 C dX10_init_8 rfl ?_
  refine x_callIN 9 C dX10_init_9 (rest := [.ref (b + 1), .ref b]) (c_X0_init l D z (b + 2) G1 I1 L1 (b + 1)) mt_X0_init (by decide) ki_X0_init rfl (Nat.le_of_ble_eq_true rfl) ⟨⟨(Nat.le_of_ble_eq_true rfl), (Nat.le_of_ble_eq_true rfl)⟩, (Nat.le_of_ble_eq_true rfl), (Nat.le_of_ble_eq_true rfl)⟩ (fun v2 n2 G2 I2 L2 hp2 _ => ?_)
  obtain ⟨hn2, hG2, hv2, hI2, hL2⟩ := hp2
  replace hG2 := hG2.symm; replace hI2 := hI2.symm; replace hL2 := hL2.symm; subst hv2; subst hG2; subst hI2; subst hL2; subst hn2
  refine x_st [.ref (b + 1), .ref b] rfl ?_
  have g3 : G1 (b) = some (10, 0, rN) := by rw [eG1, va_up_ne _ _ (by omega)]; exact g0
  refine x_putr 12 C dX10_init_12 ff_X10_10 rfl rfl hnm.symm rfl g3 (by omega) (fun G4 eG4 => ?_)
  refine x_aload_n 15 C dX10_init_15 rfl 0 rfl ?_
  refine x_new 16 C dX10_init_16 (by decide) hh_X0 kl_X10_7 kb_X0 kn_X0 hd_X0 (Nat.le_of_ble_eq_true rfl) (Nat.le_of_ble_eq_true rfl) (fun G5 I5 L5 eG5 eI5 eL5 => ?_)
  refine x_dup 19 C dX10_init_19 rfl ?_
  refine x_callIN 20 C dX10_init_20 (rest := [.ref (b + 2), .ref b]) (c_X0_init l D z (b + 3) G5 I5 L5 (b + 2)) mt_X0_init (by decide) ki_X0_init rfl (Nat.le_of_ble_eq_true rfl) ⟨⟨(Nat.le_of_ble_eq_true rfl), (Nat.le_of_ble_eq_true rfl)⟩, (Nat.le_of_ble_eq_true rfl), (Nat.le_of_ble_eq_true rfl)⟩ (fun v6 n6 G6 I6 L6 hp6 _ => ?_)
  obtain ⟨hn6, hG6, hv6, hI6, hL6⟩ := hp6
  replace hG6 := hG6.symm; replace hI6 := hI6.symm; replace hL6 := hL6.symm; subst hv6; subst hG6; subst hI6; subst hL6; subst hn6
  refine x_st [.ref (b + 2), .ref b] rfl ?_
  have g7 : G5 (b) = some (10, 0, va_up rN 0 (some (b + 1))) := by rw [eG5, va_up_ne _ _ (by omega)]; rw [eG4, vau (by omega)]
  refine x_putr 23 C dX10_init_23 ff_X10_16 rfl rfl hnm.symm rfl g7 (by omega) (fun G8 eG8 => ?_)
  refine x_aload_n 26 C dX10_init_26 rfl 0 rfl ?_
  refine x_new 27 C dX10_init_27 (by decide) hh_X0 kl_X10_7 kb_X0 kn_X0 hd_X0 (Nat.le_of_ble_eq_true rfl) (Nat.le_of_ble_eq_true rfl) (fun G9 I9 L9 eG9 eI9 eL9 => ?_)
  refine x_dup 30 C dX10_init_30 rfl ?_
  refine x_callIN 31 C dX10_init_31 (rest := [.ref (b + 3), .ref b]) (c_X0_init l D z (b + 4) G9 I9 L9 (b + 3)) mt_X0_init (by decide) ki_X0_init rfl (Nat.le_of_ble_eq_true rfl) ⟨⟨(Nat.le_of_ble_eq_true rfl), (Nat.le_of_ble_eq_true rfl)⟩, (Nat.le_of_ble_eq_true rfl), (Nat.le_of_ble_eq_true rfl)⟩ (fun v10 n10 G10 I10 L10 hp10 _ => ?_)
  obtain ⟨hn10, hG10, hv10, hI10, hL10⟩ := hp10
  replace hG10 := hG10.symm; replace hI10 := hI10.symm; replace hL10 := hL10.symm; subst hv10; subst hG10; subst hI10; subst hL10; subst hn10
  refine x_st [.ref (b + 3), .ref b] rfl ?_
  have g11 : G9 (b) = some (10, 0, va_up (va_up rN 0 (some (b + 1))) 1 (some (b + 2))) := by rw [eG9, va_up_ne _ _ (by omega)]; rw [eG8, vau (by omega)]
  refine x_putr 34 C dX10_init_34 ff_X10_19 rfl rfl hnm.symm rfl g11 (by omega) (fun G12 eG12 => ?_)
  refine x_wid (k' := 3) (n' := 6) (Nat.le_of_ble_eq_true rfl) (Nat.le_of_ble_eq_true rfl) ?_
  refine x_vret 37 C dX10_init_37 rfl (by omega) ?_
  refine ⟨rfl, rfl, ?_, fun a h1 => by rw [eG12, va_up_ne _ _ (by omega)]; rw [eG9, va_up_ne _ _ (by omega)]; rw [eG8, va_up_ne _ _ (by omega)]; rw [eG5, va_up_ne _ _ (by omega)]; rw [eG4, va_up_ne _ _ (by omega)]; rw [eG1, va_up_ne _ _ (by omega)], fun a h1 => by rw [eI9, xzero_row _ _ (by omega)]; rw [eI5, xzero_row _ _ (by omega)]; rw [eI1, xzero_row _ _ (by omega)], fun a h1 => by rw [eL9, xzero_row _ _ (by omega)]; rw [eL5, xzero_row _ _ (by omega)]; rw [eL1, xzero_row _ _ (by omega)]⟩
  have g13 : G12 (b) = some (10, 0, va_up (va_up (va_up rN 0 (some (b + 1))) 1 (some (b + 2))) 2 (some (b + 3))) := by rw [eG12, vau (by omega)]
  have g14 : G12 (b + 1) = some (0, 0, rN) := by rw [eG12, va_up_ne _ _ (by omega)]; rw [eG9, va_up_ne _ _ (by omega)]; rw [eG8, va_up_ne _ _ (by omega)]; rw [eG5, va_up_ne _ _ (by omega)]; rw [eG4, va_up_ne _ _ (by omega)]; rw [eG1, vau (by omega)]
  have g15 : G12 (b + 2) = some (0, 0, rN) := by rw [eG12, va_up_ne _ _ (by omega)]; rw [eG9, va_up_ne _ _ (by omega)]; rw [eG8, va_up_ne _ _ (by omega)]; rw [eG5, vau (by omega)]
  have g16 : G12 (b + 3) = some (0, 0, rN) := by rw [eG12, va_up_ne _ _ (by omega)]; rw [eG9, vau (by omega)]
  exact ⟨g13, g14, g15, g16⟩
theorem dX7_init_0 : decode cX7_init 0 = .ok (.aload_n 0, 1) := by decide +kernel
theorem dX7_init_1 : decode cX7_init 1 = .ok (.invokespecial 1, 3) := by decide +kernel
theorem dX7_init_4 : decode cX7_init 4 = .ok (.aload_n 0, 1) := by decide +kernel
theorem dX7_init_5 : decode cX7_init 5 = .ok (.bipush 10, 2) := by decide +kernel
theorem dX7_init_7 : decode cX7_init 7 = .ok (.anewarray 9, 3) := by decide +kernel
theorem dX7_init_10 : decode cX7_init 10 = .ok (.putfield 11, 3) := by decide +kernel
theorem dX7_init_13 : decode cX7_init 13 = .ok (.iconst 0, 1) := by decide +kernel
theorem dX7_init_14 : decode cX7_init 14 = .ok (.istore_n 1, 1) := by decide +kernel
theorem dX7_init_15 : decode cX7_init 15 = .ok (.iload_n 1, 1) := by decide +kernel
theorem dX7_init_16 : decode cX7_init 16 = .ok (.bipush 10, 2) := by decide +kernel
theorem dX7_init_18 : decode cX7_init 18 = .ok (.if_icmp .ge 22, 3) := by decide +kernel
theorem dX7_init_21 : decode cX7_init 21 = .ok (.aload_n 0, 1) := by decide +kernel
theorem dX7_init_22 : decode cX7_init 22 = .ok (.getfield 11, 3) := by decide +kernel
theorem dX7_init_25 : decode cX7_init 25 = .ok (.iload_n 1, 1) := by decide +kernel
theorem dX7_init_26 : decode cX7_init 26 = .ok (.new 9, 3) := by decide +kernel
theorem dX7_init_29 : decode cX7_init 29 = .ok (.dup, 1) := by decide +kernel
theorem dX7_init_30 : decode cX7_init 30 = .ok (.invokespecial 17, 3) := by decide +kernel
theorem dX7_init_33 : decode cX7_init 33 = .ok (.aastore, 1) := by decide +kernel
theorem dX7_init_34 : decode cX7_init 34 = .ok (.iinc 1 1, 3) := by decide +kernel
theorem dX7_init_37 : decode cX7_init 37 = .ok (.goto (-22), 3) := by decide +kernel
theorem dX7_init_40 : decode cX7_init 40 = .ok (.return_, 1) := by decide +kernel
set_option maxHeartbeats 1000000 in
set_option maxRecDepth 100000 in
theorem c_X7_init (l : Launch) (D : xD) (z : Nat) (G : xG) (I : xI) (L : xL) (b : Nat) (g0 : G b = some (7, 0, rN)) (zb : z ≤ b) : xM l D z yX7_init cX7_init 2 none 2 40 11 30 [.ref b] (b + 1) G I L (cPost b 12 (fun G' => shW G' b) G I L) := by
  refine xM.of (by decide) (Nat.le_of_ble_eq_true rfl) (fun p e s m args below meth c C hnm hsz => ?_)
  refine x_lv [(0, .ref b)] rfl ?_
  refine x_aload_n 0 C dX7_init_0 rfl 0 rfl ?_
  refine x_obj 1 C dX7_init_1 km_X7_1 ki_obj kc_obj (Nat.le_of_ble_eq_true rfl) (Nat.le_of_ble_eq_true rfl) ?_
  refine x_aload_n 4 C dX7_init_4 rfl 0 rfl ?_
  refine x_bipush 5 C (v := 10) dX7_init_5 rfl ?_
  refine x_anew 7 C 23 (N := 10) dX7_init_7 (by decide) kl_X7_9 (by decide) (by decide) (Nat.le_of_ble_eq_true rfl) (Nat.le_of_ble_eq_true rfl) (Nat.le_of_ble_eq_true rfl) (fun G1 I1 L1 eG01 eI1 eL1 => ?_)
  have eG1 : G1 = va_up G (b + 1) (some (23, 10, rPart (fun k => some (b + 2 + k)) 0)) := eG01.trans (by rw [rPart_0])
  have g2 : G1 (b) = some (7, 0, rN) := by rw [eG1, va_up_ne _ _ (by omega)]; exact g0
  refine x_putr 10 C dX7_init_10 ff_X7_11 rfl rfl hnm.symm rfl g2 (by omega) (fun G3 eG3 => ?_)
  refine x_iconst 13 C (v := 0) dX7_init_13 rfl ?_
  refine x_istore_n 14 C [(1, .int 0), (0, .ref b)] dX7_init_14 rfl (by decide) rfl ?_
  refine x_iload_n 15 C dX7_init_15 rfl 0 rfl ?_
  refine x_bipush 16 C (v := 10) dX7_init_16 rfl ?_
  refine x_icmp_ge 18 C 40 dX7_init_18 (by decide) (fun c4 => absurd c4 (by decide)) (fun _ => ?_)
  refine x_aload_n 21 C dX7_init_21 rfl 1 rfl ?_
  have g5 : G3 (b) = some (7, 0, va_up rN 0 (some (b + 1))) := by rw [eG3, vau (by omega)]
  refine x_getr 22 C (b := b + 1) dX7_init_22 ff_X7_11 rfl g5 rfl ?_
  refine x_iload_n 25 C dX7_init_25 rfl 0 rfl ?_
  refine x_new 26 C dX7_init_26 (by decide) hh_X0 kl_X7_9 kb_X0 kn_X0 hd_X0 (Nat.le_of_ble_eq_true rfl) (Nat.le_of_ble_eq_true rfl) (fun G6 I6 L6 eG6 eI6 eL6 => ?_)
  refine x_dup 29 C dX7_init_29 rfl ?_
  refine x_callIN 30 C dX7_init_30 (rest := [.ref (b + 2), .int 0, .ref (b + 1)]) (c_X0_init l D z (b + 3) G6 I6 L6 (b + 2)) mt_X0_init (by decide) ki_X0_init rfl (Nat.le_of_ble_eq_true rfl) ⟨⟨(Nat.le_of_ble_eq_true rfl), (Nat.le_of_ble_eq_true rfl)⟩, (Nat.le_of_ble_eq_true rfl), (Nat.le_of_ble_eq_true rfl)⟩ (fun v7 n7 G7 I7 L7 hp7 _ => ?_)
  obtain ⟨hn7, hG7, hv7, hI7, hL7⟩ := hp7
  replace hG7 := hG7.symm; replace hI7 := hI7.symm; replace hL7 := hL7.symm; subst hv7; subst hG7; subst hI7; subst hL7; subst hn7
  refine x_st [.ref (b + 2), .int 0, .ref (b + 1)] rfl ?_
  have g8 : G6 (b + 2) = some (0, 0, rN) := by rw [eG6, vau (by omega)]
  have g9 : G6 (b + 1) = some (23, 10, rPart (fun k => some (b + 2 + k)) 0) := by rw [eG6, va_up_ne _ _ (by omega)]; rw [eG3, va_up_ne _ _ (by omega)]; rw [eG1, vau (by omega)]
  refine x_aast 33 C (j := 0) dX7_init_33 (by decide) g9 g8 (by omega) ⟨by decide, by decide, by decide⟩ (fun G10 eG010 => ?_)
  have eG10 : G10 = va_up G6 (b + 1) (some (23, 10, rPart (fun k => some (b + 2 + k)) 1)) := eG010.trans (by rw [rPart_up (f := (fun k => some (b + 2 + k))) (congrArg some (by omega))])
  refine x_iinc 34 C [(1, .int 1), (0, .ref b)] dX7_init_34 0 rfl (by decide) (by decide) rfl ?_
  refine x_goto 37 C 15 dX7_init_37 (by decide) ?_
  refine x_iload_n 15 C dX7_init_15 rfl 0 rfl ?_
  refine x_bipush 16 C (v := 10) dX7_init_16 rfl ?_
  refine x_icmp_ge 18 C 40 dX7_init_18 (by decide) (fun c11 => absurd c11 (by decide)) (fun _ => ?_)
  refine x_aload_n 21 C dX7_init_21 rfl 1 rfl ?_
  have g12 : G10 (b) = some (7, 0, va_up rN 0 (some (b + 1))) := by rw [eG10, va_up_ne _ _ (by omega)]; rw [eG6, va_up_ne _ _ (by omega)]; rw [eG3, vau (by omega)]
  refine x_getr 22 C (b := b + 1) dX7_init_22 ff_X7_11 rfl g12 rfl ?_
  refine x_iload_n 25 C dX7_init_25 rfl 0 rfl ?_
  refine x_new 26 C dX7_init_26 (by decide) hh_X0 kl_X7_9 kb_X0 kn_X0 hd_X0 (Nat.le_of_ble_eq_true rfl) (Nat.le_of_ble_eq_true rfl) (fun G13 I13 L13 eG13 eI13 eL13 => ?_)
  refine x_dup 29 C dX7_init_29 rfl ?_
  refine x_callIN 30 C dX7_init_30 (rest := [.ref (b + 3), .int 1, .ref (b + 1)]) (c_X0_init l D z (b + 4) G13 I13 L13 (b + 3)) mt_X0_init (by decide) ki_X0_init rfl (Nat.le_of_ble_eq_true rfl) ⟨⟨(Nat.le_of_ble_eq_true rfl), (Nat.le_of_ble_eq_true rfl)⟩, (Nat.le_of_ble_eq_true rfl), (Nat.le_of_ble_eq_true rfl)⟩ (fun v14 n14 G14 I14 L14 hp14 _ => ?_)
  obtain ⟨hn14, hG14, hv14, hI14, hL14⟩ := hp14
  replace hG14 := hG14.symm; replace hI14 := hI14.symm; replace hL14 := hL14.symm; subst hv14; subst hG14; subst hI14; subst hL14; subst hn14
  refine x_st [.ref (b + 3), .int 1, .ref (b + 1)] rfl ?_
  have g15 : G13 (b + 3) = some (0, 0, rN) := by rw [eG13, vau (by omega)]
  have g16 : G13 (b + 1) = some (23, 10, rPart (fun k => some (b + 2 + k)) 1) := by rw [eG13, va_up_ne _ _ (by omega)]; rw [eG10, vau (by omega)]
  refine x_aast 33 C (j := 1) dX7_init_33 (by decide) g16 g15 (by omega) ⟨by decide, by decide, by decide⟩ (fun G17 eG017 => ?_)
  have eG17 : G17 = va_up G13 (b + 1) (some (23, 10, rPart (fun k => some (b + 2 + k)) 2)) := eG017.trans (by rw [rPart_up (f := (fun k => some (b + 2 + k))) (congrArg some (by omega))])
  refine x_iinc 34 C [(1, .int 2), (0, .ref b)] dX7_init_34 0 rfl (by decide) (by decide) rfl ?_
  refine x_goto 37 C 15 dX7_init_37 (by decide) ?_
  refine x_iload_n 15 C dX7_init_15 rfl 0 rfl ?_
  refine x_bipush 16 C (v := 10) dX7_init_16 rfl ?_
  refine x_icmp_ge 18 C 40 dX7_init_18 (by decide) (fun c18 => absurd c18 (by decide)) (fun _ => ?_)
  refine x_aload_n 21 C dX7_init_21 rfl 1 rfl ?_
  have g19 : G17 (b) = some (7, 0, va_up rN 0 (some (b + 1))) := by rw [eG17, va_up_ne _ _ (by omega)]; rw [eG13, va_up_ne _ _ (by omega)]; rw [eG10, va_up_ne _ _ (by omega)]; rw [eG6, va_up_ne _ _ (by omega)]; rw [eG3, vau (by omega)]
  refine x_getr 22 C (b := b + 1) dX7_init_22 ff_X7_11 rfl g19 rfl ?_
  refine x_iload_n 25 C dX7_init_25 rfl 0 rfl ?_
  refine x_new 26 C dX7_init_26 (by decide) hh_X0 kl_X7_9 kb_X0 kn_X0 hd_X0 (Nat.le_of_ble_eq_true rfl) (Nat.le_of_ble_eq_true rfl) (fun G20 I20 L20 eG20 eI20 eL20 => ?_)
  refine x_dup 29 C dX7_init_29 rfl ?_
  refine x_callIN 30 C dX7_init_30 (rest := [.ref (b + 4), .int 2, .ref (b + 1)]) (c_X0_init l D z (b + 5) G20 I20 L20 (b + 4)) mt_X0_init (by decide) ki_X0_init rfl (Nat.le_of_ble_eq_true rfl) ⟨⟨(Nat.le_of_ble_eq_true rfl), (Nat.le_of_ble_eq_true rfl)⟩, (Nat.le_of_ble_eq_true rfl), (Nat.le_of_ble_eq_true rfl)⟩ (fun v21 n21 G21 I21 L21 hp21 _ => ?_)
  obtain ⟨hn21, hG21, hv21, hI21, hL21⟩ := hp21
  replace hG21 := hG21.symm; replace hI21 := hI21.symm; replace hL21 := hL21.symm; subst hv21; subst hG21; subst hI21; subst hL21; subst hn21
  refine x_st [.ref (b + 4), .int 2, .ref (b + 1)] rfl ?_
  have g22 : G20 (b + 4) = some (0, 0, rN) := by rw [eG20, vau (by omega)]
  have g23 : G20 (b + 1) = some (23, 10, rPart (fun k => some (b + 2 + k)) 2) := by rw [eG20, va_up_ne _ _ (by omega)]; rw [eG17, vau (by omega)]
  refine x_aast 33 C (j := 2) dX7_init_33 (by decide) g23 g22 (by omega) ⟨by decide, by decide, by decide⟩ (fun G24 eG024 => ?_)
  have eG24 : G24 = va_up G20 (b + 1) (some (23, 10, rPart (fun k => some (b + 2 + k)) 3)) := eG024.trans (by rw [rPart_up (f := (fun k => some (b + 2 + k))) (congrArg some (by omega))])
  refine x_iinc 34 C [(1, .int 3), (0, .ref b)] dX7_init_34 0 rfl (by decide) (by decide) rfl ?_
  refine x_goto 37 C 15 dX7_init_37 (by decide) ?_
  refine x_iload_n 15 C dX7_init_15 rfl 0 rfl ?_
  refine x_bipush 16 C (v := 10) dX7_init_16 rfl ?_
  refine x_icmp_ge 18 C 40 dX7_init_18 (by decide) (fun c25 => absurd c25 (by decide)) (fun _ => ?_)
  refine x_aload_n 21 C dX7_init_21 rfl 1 rfl ?_
  have g26 : G24 (b) = some (7, 0, va_up rN 0 (some (b + 1))) := by rw [eG24, va_up_ne _ _ (by omega)]; rw [eG20, va_up_ne _ _ (by omega)]; rw [eG17, va_up_ne _ _ (by omega)]; rw [eG13, va_up_ne _ _ (by omega)]; rw [eG10, va_up_ne _ _ (by omega)]; rw [eG6, va_up_ne _ _ (by omega)]; rw [eG3, vau (by omega)]
  refine x_getr 22 C (b := b + 1) dX7_init_22 ff_X7_11 rfl g26 rfl ?_
  refine x_iload_n 25 C dX7_init_25 rfl 0 rfl ?_
  refine x_new 26 C dX7_init_26 (by decide) hh_X0 kl_X7_9 kb_X0 kn_X0 hd_X0 (Nat.le_of_ble_eq_true rfl) (Nat.le_of_ble_eq_true rfl) (fun G27 I27 L27 eG27 eI27 eL27 => ?_)
  refine x_dup 29 C dX7_init_29 rfl ?_
  refine x_callIN 30 C dX7_init_30 (rest := [.ref (b + 5), .int 3, .ref (b + 1)]) (c_X0_init l D z (b + 6) G27 I27 L27 (b + 5)) mt_X0_init (by decide) ki_X0_init rfl (Nat.le_of_ble_eq_true rfl) ⟨⟨(Nat.le_of_ble_eq_true rfl), (Nat.le_of_ble_eq_true rfl)⟩, (Nat.le_of_ble_eq_true rfl), (Nat.le_of_ble_eq_true rfl)⟩ (fun v28 n28 G28 I28 L28 hp28 _ => ?_)
  obtain ⟨hn28, hG28, hv28, hI28, hL28⟩ := hp28
  replace hG28 := hG28.symm; replace hI28 := hI28.symm; replace hL28 := hL28.symm; subst hv28; subst hG28; subst hI28; subst hL28; subst hn28
  refine x_st [.ref (b + 5), .int 3, .ref (b + 1)] rfl ?_
  have g29 : G27 (b + 5) = some (0, 0, rN) := by rw [eG27, vau (by omega)]
  have g30 : G27 (b + 1) = some (23, 10, rPart (fun k => some (b + 2 + k)) 3) := by rw [eG27, va_up_ne _ _ (by omega)]; rw [eG24, vau (by omega)]
  refine x_aast 33 C (j := 3) dX7_init_33 (by decide) g30 g29 (by omega) ⟨by decide, by decide, by decide⟩ (fun G31 eG031 => ?_)
  have eG31 : G31 = va_up G27 (b + 1) (some (23, 10, rPart (fun k => some (b + 2 + k)) 4)) := eG031.trans (by rw [rPart_up (f := (fun k => some (b + 2 + k))) (congrArg some (by omega))])
  refine x_iinc 34 C [(1, .int 4), (0, .ref b)] dX7_init_34 0 rfl (by decide) (by decide) rfl ?_
  refine x_goto 37 C 15 dX7_init_37 (by decide) ?_
  refine x_iload_n 15 C dX7_init_15 rfl 0 rfl ?_
  refine x_bipush 16 C (v := 10) dX7_init_16 rfl ?_
  refine x_icmp_ge 18 C 40 dX7_init_18 (by decide) (fun c32 => absurd c32 (by decide)) (fun _ => ?_)
  refine x_aload_n 21 C dX7_init_21 rfl 1 rfl ?_
  have g33 : G31 (b) = some (7, 0, va_up rN 0 (some (b + 1))) := by rw [eG31, va_up_ne _ _ (by omega)]; rw [eG27, va_up_ne _ _ (by omega)]; rw [eG24, va_up_ne _ _ (by omega)]; rw [eG20, va_up_ne _ _ (by omega)]; rw [eG17, va_up_ne _ _ (by omega)]; rw [eG13, va_up_ne _ _ (by omega)]; rw [eG10, va_up_ne _ _ (by omega)]; rw [eG6, va_up_ne _ _ (by omega)]; rw [eG3, vau (by omega)]
  refine x_getr 22 C (b := b + 1) dX7_init_22 ff_X7_11 rfl g33 rfl ?_
  refine x_iload_n 25 C dX7_init_25 rfl 0 rfl ?_
  refine x_new 26 C dX7_init_26 (by decide) hh_X0 kl_X7_9 kb_X0 kn_X0 hd_X0 (Nat.le_of_ble_eq_true rfl) (Nat.le_of_ble_eq_true rfl) (fun G34 I34 L34 eG34 eI34 eL34 => ?_)
  refine x_dup 29 C dX7_init_29 rfl ?_
  refine x_callIN 30 C dX7_init_30 (rest := [.ref (b + 6), .int 4, .ref (b + 1)]) (c_X0_init l D z (b + 7) G34 I34 L34 (b + 6)) mt_X0_init (by decide) ki_X0_init rfl (Nat.le_of_ble_eq_true rfl) ⟨⟨(Nat.le_of_ble_eq_true rfl), (Nat.le_of_ble_eq_true rfl)⟩, (Nat.le_of_ble_eq_true rfl), (Nat.le_of_ble_eq_true rfl)⟩ (fun v35 n35 G35 I35 L35 hp35 _ => ?_)
  obtain ⟨hn35, hG35, hv35, hI35, hL35⟩ := hp35
  replace hG35 := hG35.symm; replace hI35 := hI35.symm; replace hL35 := hL35.symm; subst hv35; subst hG35; subst hI35; subst hL35; subst hn35
  refine x_st [.ref (b + 6), .int 4, .ref (b + 1)] rfl ?_
  have g36 : G34 (b + 6) = some (0, 0, rN) := by rw [eG34, vau (by omega)]
  have g37 : G34 (b + 1) = some (23, 10, rPart (fun k => some (b + 2 + k)) 4) := by rw [eG34, va_up_ne _ _ (by omega)]; rw [eG31, vau (by omega)]
  refine x_aast 33 C (j := 4) dX7_init_33 (by decide) g37 g36 (by omega) ⟨by decide, by decide, by decide⟩ (fun G38 eG038 => ?_)
  have eG38 : G38 = va_up G34 (b + 1) (some (23, 10, rPart (fun k => some (b + 2 + k)) 5)) := eG038.trans (by rw [rPart_up (f := (fun k => some (b + 2 + k))) (congrArg some (by omega))])
  refine x_iinc 34 C [(1, .int 5), (0, .ref b)] dX7_init_34 0 rfl (by decide) (by decide) rfl ?_
  refine x_goto 37 C 15 dX7_init_37 (by decide) ?_
  refine x_iload_n 15 C dX7_init_15 rfl 0 rfl ?_
  refine x_bipush 16 C (v := 10) dX7_init_16 rfl ?_
  refine x_icmp_ge 18 C 40 dX7_init_18 (by decide) (fun c39 => absurd c39 (by decide)) (fun _ => ?_)
  refine x_aload_n 21 C dX7_init_21 rfl 1 rfl ?_
  have g40 : G38 (b) = some (7, 0, va_up rN 0 (some (b + 1))) := by rw [eG38, va_up_ne _ _ (by omega)]; rw [eG34, va_up_ne _ _ (by omega)]; rw [eG31, va_up_ne _ _ (by omega)]; rw [eG27, va_up_ne _ _ (by omega)]; rw [eG24, va_up_ne _ _ (by omega)]; rw [eG20, va_up_ne _ _ (by omega)]; rw [eG17, va_up_ne _ _ (by omega)]; rw [eG13, va_up_ne _ _ (by omega)]; rw [eG10, va_up_ne _ _ (by omega)]; rw [eG6, va_up_ne _ _ (by omega)]; rw [eG3, vau (by omega)]
  refine x_getr 22 C (b := b + 1) dX7_init_22 ff_X7_11 rfl g40 rfl ?_
  refine x_iload_n 25 C dX7_init_25 rfl 0 rfl ?_
  refine x_new 26 C dX7_init_26 (by decide) hh_X0 kl_X7_9 kb_X0 kn_X0 hd_X0 (Nat.le_of_ble_eq_true rfl) (Nat.le_of_ble_eq_true rfl) (fun G41 I41 L41 eG41 eI41 eL41 => ?_)
  refine x_dup 29 C dX7_init_29 rfl ?_
  refine x_callIN 30 C dX7_init_30 (rest := [.ref (b + 7), .int 5, .ref (b + 1)]) (c_X0_init l D z (b + 8) G41 I41 L41 (b + 7)) mt_X0_init (by decide) ki_X0_init rfl (Nat.le_of_ble_eq_true rfl) ⟨⟨(Nat.le_of_ble_eq_true rfl), (Nat.le_of_ble_eq_true rfl)⟩, (Nat.le_of_ble_eq_true rfl), (Nat.le_of_ble_eq_true rfl)⟩ (fun v42 n42 G42 I42 L42 hp42 _ => ?_)
  obtain ⟨hn42, hG42, hv42, hI42, hL42⟩ := hp42
  replace hG42 := hG42.symm; replace hI42 := hI42.symm; replace hL42 := hL42.symm; subst hv42; subst hG42; subst hI42; subst hL42; subst hn42
  refine x_st [.ref (b + 7), .int 5, .ref (b + 1)] rfl ?_
  have g43 : G41 (b + 7) = some (0, 0, rN) := by rw [eG41, vau (by omega)]
  have g44 : G41 (b + 1) = some (23, 10, rPart (fun k => some (b + 2 + k)) 5) := by rw [eG41, va_up_ne _ _ (by omega)]; rw [eG38, vau (by omega)]
  refine x_aast 33 C (j := 5) dX7_init_33 (by decide) g44 g43 (by omega) ⟨by decide, by decide, by decide⟩ (fun G45 eG045 => ?_)
  have eG45 : G45 = va_up G41 (b + 1) (some (23, 10, rPart (fun k => some (b + 2 + k)) 6)) := eG045.trans (by rw [rPart_up (f := (fun k => some (b + 2 + k))) (congrArg some (by omega))])
  refine x_iinc 34 C [(1, .int 6), (0, .ref b)] dX7_init_34 0 rfl (by decide) (by decide) rfl ?_
  refine x_goto 37 C 15 dX7_init_37 (by decide) ?_
  refine x_iload_n 15 C dX7_init_15 rfl 0 rfl ?_
  refine x_bipush 16 C (v := 10) dX7_init_16 rfl ?_
  refine x_icmp_ge 18 C 40 dX7_init_18 (by decide) (fun c46 => absurd c46 (by decide)) (fun _ => ?_)
  refine x_aload_n 21 C dX7_init_21 rfl 1 rfl ?_
  have g47 : G45 (b) = some (7, 0, va_up rN 0 (some (b + 1))) := by rw [eG45, va_up_ne _ _ (by omega)]; rw [eG41, va_up_ne _ _ (by omega)]; rw [eG38, va_up_ne _ _ (by omega)]; rw [eG34, va_up_ne _ _ (by omega)]; rw [eG31, va_up_ne _ _ (by omega)]; rw [eG27, va_up_ne _ _ (by omega)]; rw [eG24, va_up_ne _ _ (by omega)]; rw [eG20, va_up_ne _ _ (by omega)]; rw [eG17, va_up_ne _ _ (by omega)]; rw [eG13, va_up_ne _ _ (by omega)]; rw [eG10, va_up_ne _ _ (by omega)]; rw [eG6, va_up_ne _ _ (by omega)]; rw [eG3, vau (by omega)]
  refine x_getr 22 C (b := b + 1) dX7_init_22 ff_X7_11 rfl g47 rfl ?_
  refine x_iload_n 25 C dX7_init_25 rfl 0 rfl ?_
  refine x_new 26 C dX7_init_26 (by decide) hh_X0 kl_X7_9 kb_X0 kn_X0 hd_X0 (Nat.le_of_ble_eq_true rfl) (Nat.le_of_ble_eq_true rfl) (fun G48 I48 L48 eG48 eI48 eL48 => ?_)
  refine x_dup 29 C dX7_init_29 rfl ?_
  refine x_callIN 30 C dX7_init_30 (rest := [.ref (b + 8), .int 6, .ref (b + 1)]) (c_X0_init l D z (b + 9) G48 I48 L48 (b + 8)) mt_X0_init (by decide) ki_X0_init rfl (Nat.le_of_ble_eq_true rfl) ⟨⟨(Nat.le_of_ble_eq_true rfl), (Nat.le_of_ble_eq_true rfl)⟩, (Nat.le_of_ble_eq_true rfl), (Nat.le_of_ble_eq_true rfl)⟩ (fun v49 n49 G49 I49 L49 hp49 _ => ?_)
  obtain ⟨hn49, hG49, hv49, hI49, hL49⟩ := hp49
  replace hG49 := hG49.symm; replace hI49 := hI49.symm; replace hL49 := hL49.symm; subst hv49; subst hG49; subst hI49; subst hL49; subst hn49
  refine x_st [.ref (b + 8), .int 6, .ref (b + 1)] rfl ?_
  have g50 : G48 (b + 8) = some (0, 0, rN) := by rw [eG48, vau (by omega)]
  have g51 : G48 (b + 1) = some (23, 10, rPart (fun k => some (b + 2 + k)) 6) := by rw [eG48, va_up_ne _ _ (by omega)]; rw [eG45, vau (by omega)]
  refine x_aast 33 C (j := 6) dX7_init_33 (by decide) g51 g50 (by omega) ⟨by decide, by decide, by decide⟩ (fun G52 eG052 => ?_)
  have eG52 : G52 = va_up G48 (b + 1) (some (23, 10, rPart (fun k => some (b + 2 + k)) 7)) := eG052.trans (by rw [rPart_up (f := (fun k => some (b + 2 + k))) (congrArg some (by omega))])
  refine x_iinc 34 C [(1, .int 7), (0, .ref b)] dX7_init_34 0 rfl (by decide) (by decide) rfl ?_
  refine x_goto 37 C 15 dX7_init_37 (by decide) ?_
  refine x_iload_n 15 C dX7_init_15 rfl 0 rfl ?_
  refine x_bipush 16 C (v := 10) dX7_init_16 rfl ?_
  refine x_icmp_ge 18 C 40 dX7_init_18 (by decide) (fun c53 => absurd c53 (by decide)) (fun _ => ?_)
  refine x_aload_n 21 C dX7_init_21 rfl 1 rfl ?_
  have g54 : G52 (b) = some (7, 0, va_up rN 0 (some (b + 1))) := by rw [eG52, va_up_ne _ _ (by omega)]; rw [eG48, va_up_ne _ _ (by omega)]; rw [eG45, va_up_ne _ _ (by omega)]; rw [eG41, va_up_ne _ _ (by omega)]; rw [eG38, va_up_ne _ _ (by omega)]; rw [eG34, va_up_ne _ _ (by omega)]; rw [eG31, va_up_ne _ _ (by omega)]; rw [eG27, va_up_ne _ _ (by omega)]; rw [eG24, va_up_ne _ _ (by omega)]; rw [eG20, va_up_ne _ _ (by omega)]; rw [eG17, va_up_ne _ _ (by omega)]; rw [eG13, va_up_ne _ _ (by omega)]; rw [eG10, va_up_ne _ _ (by omega)]; rw [eG6, va_up_ne _ _ (by omega)]; rw [eG3, vau (by omega)]
  refine x_getr 22 C (b := b + 1) dX7_init_22 ff_X7_11 rfl g54 rfl ?_
  refine x_iload_n 25 C dX7_init_25 rfl 0 rfl ?_
  refine x_new 26 C dX7_init_26 (by decide) hh_X0 kl_X7_9 kb_X0 kn_X0 hd_X0 (Nat.le_of_ble_eq_true rfl) (Nat.le_of_ble_eq_true rfl) (fun G55 I55 L55 eG55 eI55 eL55 => ?_)
  refine x_dup 29 C dX7_init_29 rfl ?_
  refine x_callIN 30 C dX7_init_30 (rest := [.ref (b + 9), .int 7, .ref (b + 1)]) (c_X0_init l D z (b + 10) G55 I55 L55 (b + 9)) mt_X0_init (by decide) ki_X0_init rfl (Nat.le_of_ble_eq_true rfl) ⟨⟨(Nat.le_of_ble_eq_true rfl), (Nat.le_of_ble_eq_true rfl)⟩, (Nat.le_of_ble_eq_true rfl), (Nat.le_of_ble_eq_true rfl)⟩ (fun v56 n56 G56 I56 L56 hp56 _ => ?_)
  obtain ⟨hn56, hG56, hv56, hI56, hL56⟩ := hp56
  replace hG56 := hG56.symm; replace hI56 := hI56.symm; replace hL56 := hL56.symm; subst hv56; subst hG56; subst hI56; subst hL56; subst hn56
  refine x_st [.ref (b + 9), .int 7, .ref (b + 1)] rfl ?_
  have g57 : G55 (b + 9) = some (0, 0, rN) := by rw [eG55, vau (by omega)]
  have g58 : G55 (b + 1) = some (23, 10, rPart (fun k => some (b + 2 + k)) 7) := by rw [eG55, va_up_ne _ _ (by omega)]; rw [eG52, vau (by omega)]
  refine x_aast 33 C (j := 7) dX7_init_33 (by decide) g58 g57 (by omega) ⟨by decide, by decide, by decide⟩ (fun G59 eG059 => ?_)
  have eG59 : G59 = va_up G55 (b + 1) (some (23, 10, rPart (fun k => some (b + 2 + k)) 8)) := eG059.trans (by rw [rPart_up (f := (fun k => some (b + 2 + k))) (congrArg some (by omega))])
  refine x_iinc 34 C [(1, .int 8), (0, .ref b)] dX7_init_34 0 rfl (by decide) (by decide) rfl ?_
  refine x_goto 37 C 15 dX7_init_37 (by decide) ?_
  refine x_iload_n 15 C dX7_init_15 rfl 0 rfl ?_
  refine x_bipush 16 C (v := 10) dX7_init_16 rfl ?_
  refine x_icmp_ge 18 C 40 dX7_init_18 (by decide) (fun c60 => absurd c60 (by decide)) (fun _ => ?_)
  refine x_aload_n 21 C dX7_init_21 rfl 1 rfl ?_
  have g61 : G59 (b) = some (7, 0, va_up rN 0 (some (b + 1))) := by rw [eG59, va_up_ne _ _ (by omega)]; rw [eG55, va_up_ne _ _ (by omega)]; rw [eG52, va_up_ne _ _ (by omega)]; rw [eG48, va_up_ne _ _ (by omega)]; rw [eG45, va_up_ne _ _ (by omega)]; rw [eG41, va_up_ne _ _ (by omega)]; rw [eG38, va_up_ne _ _ (by omega)]; rw [eG34, va_up_ne _ _ (by omega)]; rw [eG31, va_up_ne _ _ (by omega)]; rw [eG27, va_up_ne _ _ (by omega)]; rw [eG24, va_up_ne _ _ (by omega)]; rw [eG20, va_up_ne _ _ (by omega)]; rw [eG17, va_up_ne _ _ (by omega)]; rw [eG13, va_up_ne _ _ (by omega)]; rw [eG10, va_up_ne _ _ (by omega)]; rw [eG6, va_up_ne _ _ (by omega)]; rw [eG3, vau (by omega)]
  refine x_getr 22 C (b := b + 1) dX7_init_22 ff_X7_11 rfl g61 rfl ?_
  refine x_iload_n 25 C dX7_init_25 rfl 0 rfl ?_
  refine x_new 26 C dX7_init_26 (by decide) hh_X0 kl_X7_9 kb_X0 kn_X0 hd_X0 (Nat.le_of_ble_eq_true rfl) (Nat.le_of_ble_eq_true rfl) (fun G62 I62 L62 eG62 eI62 eL62 => ?_)
  refine x_dup 29 C dX7_init_29 rfl ?_
  refine x_callIN 30 C dX7_init_30 (rest := [.ref (b + 10), .int 8, .ref (b + 1)]) (c_X0_init l D z (b + 11) G62 I62 L62 (b + 10)) mt_X0_init (by decide) ki_X0_init rfl (Nat.le_of_ble_eq_true rfl) ⟨⟨(Nat.le_of_ble_eq_true rfl), (Nat.le_of_ble_eq_true rfl)⟩, (Nat.le_of_ble_eq_true rfl), (Nat.le_of_ble_eq_true rfl)⟩ (fun v63 n63 G63 I63 L63 hp63 _ => ?_)
  obtain ⟨hn63, hG63, hv63, hI63, hL63⟩ := hp63
  replace hG63 := hG63.symm; replace hI63 := hI63.symm; replace hL63 := hL63.symm; subst hv63; subst hG63; subst hI63; subst hL63; subst hn63
  refine x_st [.ref (b + 10), .int 8, .ref (b + 1)] rfl ?_
  have g64 : G62 (b + 10) = some (0, 0, rN) := by rw [eG62, vau (by omega)]
  have g65 : G62 (b + 1) = some (23, 10, rPart (fun k => some (b + 2 + k)) 8) := by rw [eG62, va_up_ne _ _ (by omega)]; rw [eG59, vau (by omega)]
  refine x_aast 33 C (j := 8) dX7_init_33 (by decide) g65 g64 (by omega) ⟨by decide, by decide, by decide⟩ (fun G66 eG066 => ?_)
  have eG66 : G66 = va_up G62 (b + 1) (some (23, 10, rPart (fun k => some (b + 2 + k)) 9)) := eG066.trans (by rw [rPart_up (f := (fun k => some (b + 2 + k))) (congrArg some (by omega))])
  refine x_iinc 34 C [(1, .int 9), (0, .ref b)] dX7_init_34 0 rfl (by decide) (by decide) rfl ?_
  refine x_goto 37 C 15 dX7_init_37 (by decide) ?_
  refine x_iload_n 15 C dX7_init_15 rfl 0 rfl ?_
  refine x_bipush 16 C (v := 10) dX7_init_16 rfl ?_
  refine x_icmp_ge 18 C 40 dX7_init_18 (by decide) (fun c67 => absurd c67 (by decide)) (fun _ => ?_)
  refine x_aload_n 21 C dX7_init_21 rfl 1 rfl ?_
  have g68 : G66 (b) = some (7, 0, va_up rN 0 (some (b + 1))) := by rw [eG66, va_up_ne _ _ (by omega)]; rw [eG62, va_up_ne _ _ (by omega)]; rw [eG59, va_up_ne _ _ (by omega)]; rw [eG55, va_up_ne _ _ (by omega)]; rw [eG52, va_up_ne _ _ (by omega)]; rw [eG48, va_up_ne _ _ (by omega)]; rw [eG45, va_up_ne _ _ (by omega)]; rw [eG41, va_up_ne _ _ (by omega)]; rw [eG38, va_up_ne _ _ (by omega)]; rw [eG34, va_up_ne _ _ (by omega)]; rw [eG31, va_up_ne _ _ (by omega)]; rw [eG27, va_up_ne _ _ (by omega)]; rw [eG24, va_up_ne _ _ (by omega)]; rw [eG20, va_up_ne _ _ (by omega)]; rw [eG17, va_up_ne _ _ (by omega)]; rw [eG13, va_up_ne _ _ (by omega)]; rw [eG10, va_up_ne _ _ (by omega)]; rw [eG6, va_up_ne _ _ (by omega)]; rw [eG3, vau (by omega)]
  refine x_getr 22 C (b := b + 1) dX7_init_22 ff_X7_11 rfl g68 rfl ?_
  refine x_iload_n 25 C dX7_init_25 rfl 0 rfl ?_
  refine x_new 26 C dX7_init_26 (by decide) hh_X0 kl_X7_9 kb_X0 kn_X0 hd_X0 (Nat.le_of_ble_eq_true rfl) (Nat.le_of_ble_eq_true rfl) (fun G69 I69 L69 eG69 eI69 eL69 => ?_)
  refine x_dup 29 C dX7_init_29 rfl ?_
  refine x_callIN 30 C dX7_init_30 (rest := [.ref (b + 11), .int 9, .ref (b + 1)]) (c_X0_init l D z (b + 12) G69 I69 L69 (b + 11)) mt_X0_init (by decide) ki_X0_init rfl (Nat.le_of_ble_eq_true rfl) ⟨⟨(Nat.le_of_ble_eq_true rfl), (Nat.le_of_ble_eq_true rfl)⟩, (Nat.le_of_ble_eq_true rfl), (Nat.le_of_ble_eq_true rfl)⟩ (fun v70 n70 G70 I70 L70 hp70 _ => ?_)
  obtain ⟨hn70, hG70, hv70, hI70, hL70⟩ := hp70
  replace hG70 := hG70.symm; replace hI70 := hI70.symm; replace hL70 := hL70.symm; subst hv70; subst hG70; subst hI70; subst hL70; subst hn70
  refine x_st [.ref (b + 11), .int 9, .ref (b + 1)] rfl ?_
  have g71 : G69 (b + 11) = some (0, 0, rN) := by rw [eG69, vau (by omega)]
  have g72 : G69 (b + 1) = some (23, 10, rPart (fun k => some (b + 2 + k)) 9) := by rw [eG69, va_up_ne _ _ (by omega)]; rw [eG66, vau (by omega)]
  refine x_aast 33 C (j := 9) dX7_init_33 (by decide) g72 g71 (by omega) ⟨by decide, by decide, by decide⟩ (fun G73 eG073 => ?_)
  have eG73 : G73 = va_up G69 (b + 1) (some (23, 10, rPart (fun k => some (b + 2 + k)) 10)) := eG073.trans (by rw [rPart_up (f := (fun k => some (b + 2 + k))) (congrArg some (by omega))])
  refine x_iinc 34 C [(1, .int 10), (0, .ref b)] dX7_init_34 0 rfl (by decide) (by decide) rfl ?_
  refine x_goto 37 C 15 dX7_init_37 (by decide) ?_
  refine x_iload_n 15 C dX7_init_15 rfl 0 rfl ?_
  refine x_bipush 16 C (v := 10) dX7_init_16 rfl ?_
  refine x_icmp_ge 18 C 40 dX7_init_18 (by decide) (fun _ => ?_) (fun c74 => absurd (by decide) c74)
  refine x_wid (k' := 11) (n' := 30) (Nat.le_of_ble_eq_true rfl) (Nat.le_of_ble_eq_true rfl) ?_
  refine x_vret 40 C dX7_init_40 rfl (by omega) ?_
  refine ⟨rfl, rfl, ?_, fun a h1 => by rw [eG73, va_up_ne _ _ (by omega)]; rw [eG69, va_up_ne _ _ (by omega)]; rw [eG66, va_up_ne _ _ (by omega)]; rw [eG62, va_up_ne _ _ (by omega)]; rw [eG59, va_up_ne _ _ (by omega)]; rw [eG55, va_up_ne _ _ (by omega)]; rw [eG52, va_up_ne _ _ (by omega)]; rw [eG48, va_up_ne _ _ (by omega)]; rw [eG45, va_up_ne _ _ (by omega)]; rw [eG41, va_up_ne _ _ (by omega)]; rw [eG38, va_up_ne _ _ (by omega)]; rw [eG34, va_up_ne _ _ (by omega)]; rw [eG31, va_up_ne _ _ (by omega)]; rw [eG27, va_up_ne _ _ (by omega)]; rw [eG24, va_up_ne _ _ (by omega)]; rw [eG20, va_up_ne _ _ (by omega)]; rw [eG17, va_up_ne _ _ (by omega)]; rw [eG13, va_up_ne _ _ (by omega)]; rw [eG10, va_up_ne _ _ (by omega)]; rw [eG6, va_up_ne _ _ (by omega)]; rw [eG3, va_up_ne _ _ (by omega)]; rw [eG1, va_up_ne _ _ (by omega)], fun a h1 => by rw [eI69, xzero_row _ _ (by omega)]; rw [eI62, xzero_row _ _ (by omega)]; rw [eI55, xzero_row _ _ (by omega)]; rw [eI48, xzero_row _ _ (by omega)]; rw [eI41, xzero_row _ _ (by omega)]; rw [eI34, xzero_row _ _ (by omega)]; rw [eI27, xzero_row _ _ (by omega)]; rw [eI20, xzero_row _ _ (by omega)]; rw [eI13, xzero_row _ _ (by omega)]; rw [eI6, xzero_row _ _ (by omega)]; rw [eI1, xzero_row _ _ (by omega)], fun a h1 => by rw [eL69, xzero_row _ _ (by omega)]; rw [eL62, xzero_row _ _ (by omega)]; rw [eL55, xzero_row _ _ (by omega)]; rw [eL48, xzero_row _ _ (by omega)]; rw [eL41, xzero_row _ _ (by omega)]; rw [eL34, xzero_row _ _ (by omega)]; rw [eL27, xzero_row _ _ (by omega)]; rw [eL20, xzero_row _ _ (by omega)]; rw [eL13, xzero_row _ _ (by omega)]; rw [eL6, xzero_row _ _ (by omega)]; rw [eL1, xzero_row _ _ (by omega)]⟩
  have g75 : G73 (b) = some (7, 0, va_up rN 0 (some (b + 1))) := by rw [eG73, va_up_ne _ _ (by omega)]; rw [eG69, va_up_ne _ _ (by omega)]; rw [eG66, va_up_ne _ _ (by omega)]; rw [eG62, va_up_ne _ _ (by omega)]; rw [eG59, va_up_ne _ _ (by omega)]; rw [eG55, va_up_ne _ _ (by omega)]; rw [eG52, va_up_ne _ _ (by omega)]; rw [eG48, va_up_ne _ _ (by omega)]; rw [eG45, va_up_ne _ _ (by omega)]; rw [eG41, va_up_ne _ _ (by omega)]; rw [eG38, va_up_ne _ _ (by omega)]; rw [eG34, va_up_ne _ _ (by omega)]; rw [eG31, va_up_ne _ _ (by omega)]; rw [eG27, va_up_ne _ _ (by omega)]; rw [eG24, va_up_ne _ _ (by omega)]; rw [eG20, va_up_ne _ _ (by omega)]; rw [eG17, va_up_ne _ _ (by omega)]; rw [eG13, va_up_ne _ _ (by omega)]; rw [eG10, va_up_ne _ _ (by omega)]; rw [eG6, va_up_ne _ _ (by omega)]; rw [eG3, vau (by omega)]
  have g76 : G73 (b + 1) = some (23, 10, rPart (fun k => some (b + 2 + k)) 10) := by rw [eG73, vau (by omega)]
  have g77 : G73 (b + 2) = some (0, 0, rN) := by rw [eG73, va_up_ne _ _ (by omega)]; rw [eG69, va_up_ne _ _ (by omega)]; rw [eG66, va_up_ne _ _ (by omega)]; rw [eG62, va_up_ne _ _ (by omega)]; rw [eG59, va_up_ne _ _ (by omega)]; rw [eG55, va_up_ne _ _ (by omega)]; rw [eG52, va_up_ne _ _ (by omega)]; rw [eG48, va_up_ne _ _ (by omega)]; rw [eG45, va_up_ne _ _ (by omega)]; rw [eG41, va_up_ne _ _ (by omega)]; rw [eG38, va_up_ne _ _ (by omega)]; rw [eG34, va_up_ne _ _ (by omega)]; rw [eG31, va_up_ne _ _ (by omega)]; rw [eG27, va_up_ne _ _ (by omega)]; rw [eG24, va_up_ne _ _ (by omega)]; rw [eG20, va_up_ne _ _ (by omega)]; rw [eG17, va_up_ne _ _ (by omega)]; rw [eG13, va_up_ne _ _ (by omega)]; rw [eG10, va_up_ne _ _ (by omega)]; rw [eG6, vau (by omega)]
  have g78 : G73 (b + 3) = some (0, 0, rN) := by rw [eG73, va_up_ne _ _ (by omega)]; rw [eG69, va_up_ne _ _ (by omega)]; rw [eG66, va_up_ne _ _ (by omega)]; rw [eG62, va_up_ne _ _ (by omega)]; rw [eG59, va_up_ne _ _ (by omega)]; rw [eG55, va_up_ne _ _ (by omega)]; rw [eG52, va_up_ne _ _ (by omega)]; rw [eG48, va_up_ne _ _ (by omega)]; rw [eG45, va_up_ne _ _ (by omega)]; rw [eG41, va_up_ne _ _ (by omega)]; rw [eG38, va_up_ne _ _ (by omega)]; rw [eG34, va_up_ne _ _ (by omega)]; rw [eG31, va_up_ne _ _ (by omega)]; rw [eG27, va_up_ne _ _ (by omega)]; rw [eG24, va_up_ne _ _ (by omega)]; rw [eG20, va_up_ne _ _ (by omega)]; rw [eG17, va_up_ne _ _ (by omega)]; rw [eG13, vau (by omega)]
  have g79 : G73 (b + 4) = some (0, 0, rN) := by rw [eG73, va_up_ne _ _ (by omega)]; rw [eG69, va_up_ne _ _ (by omega)]; rw [eG66, va_up_ne _ _ (by omega)]; rw [eG62, va_up_ne _ _ (by omega)]; rw [eG59, va_up_ne _ _ (by omega)]; rw [eG55, va_up_ne _ _ (by omega)]; rw [eG52, va_up_ne _ _ (by omega)]; rw [eG48, va_up_ne _ _ (by omega)]; rw [eG45, va_up_ne _ _ (by omega)]; rw [eG41, va_up_ne _ _ (by omega)]; rw [eG38, va_up_ne _ _ (by omega)]; rw [eG34, va_up_ne _ _ (by omega)]; rw [eG31, va_up_ne _ _ (by omega)]; rw [eG27, va_up_ne _ _ (by omega)]; rw [eG24, va_up_ne _ _ (by omega)]; rw [eG20, vau (by omega)]
  have g80 : G73 (b + 5) = some (0, 0, rN) := by rw [eG73, va_up_ne _ _ (by omega)]; rw [eG69, va_up_ne _ _ (by omega)]; rw [eG66, va_up_ne _ _ (by omega)]; rw [eG62, va_up_ne _ _ (by omega)]; rw [eG59, va_up_ne _ _ (by omega)]; rw [eG55, va_up_ne _ _ (by omega)]; rw [eG52, va_up_ne _ _ (by omega)]; rw [eG48, va_up_ne _ _ (by omega)]; rw [eG45, va_up_ne _ _ (by omega)]; rw [eG41, va_up_ne _ _ (by omega)]; rw [eG38, va_up_ne _ _ (by omega)]; rw [eG34, va_up_ne _ _ (by omega)]; rw [eG31, va_up_ne _ _ (by omega)]; rw [eG27, vau (by omega)]
  have g81 : G73 (b + 6) = some (0, 0, rN) := by rw [eG73, va_up_ne _ _ (by omega)]; rw [eG69, va_up_ne _ _ (by omega)]; rw [eG66, va_up_ne _ _ (by omega)]; rw [eG62, va_up_ne _ _ (by omega)]; rw [eG59, va_up_ne _ _ (by omega)]; rw [eG55, va_up_ne _ _ (by omega)]; rw [eG52, va_up_ne _ _ (by omega)]; rw [eG48, va_up_ne _ _ (by omega)]; rw [eG45, va_up_ne _ _ (by omega)]; rw [eG41, va_up_ne _ _ (by omega)]; rw [eG38, va_up_ne _ _ (by omega)]; rw [eG34, vau (by omega)]
  have g82 : G73 (b + 7) = some (0, 0, rN) := by rw [eG73, va_up_ne _ _ (by omega)]; rw [eG69, va_up_ne _ _ (by omega)]; rw [eG66, va_up_ne _ _ (by omega)]; rw [eG62, va_up_ne _ _ (by omega)]; rw [eG59, va_up_ne _ _ (by omega)]; rw [eG55, va_up_ne _ _ (by omega)]; rw [eG52, va_up_ne _ _ (by omega)]; rw [eG48, va_up_ne _ _ (by omega)]; rw [eG45, va_up_ne _ _ (by omega)]; rw [eG41, vau (by omega)]
  have g83 : G73 (b + 8) = some (0, 0, rN) := by rw [eG73, va_up_ne _ _ (by omega)]; rw [eG69, va_up_ne _ _ (by omega)]; rw [eG66, va_up_ne _ _ (by omega)]; rw [eG62, va_up_ne _ _ (by omega)]; rw [eG59, va_up_ne _ _ (by omega)]; rw [eG55, va_up_ne _ _ (by omega)]; rw [eG52, va_up_ne _ _ (by omega)]; rw [eG48, vau (by omega)]
  have g84 : G73 (b + 9) = some (0, 0, rN) := by rw [eG73, va_up_ne _ _ (by omega)]; rw [eG69, va_up_ne _ _ (by omega)]; rw [eG66, va_up_ne _ _ (by omega)]; rw [eG62, va_up_ne _ _ (by omega)]; rw [eG59, va_up_ne _ _ (by omega)]; rw [eG55, vau (by omega)]
  have g85 : G73 (b + 10) = some (0, 0, rN) := by rw [eG73, va_up_ne _ _ (by omega)]; rw [eG69, va_up_ne _ _ (by omega)]; rw [eG66, va_up_ne _ _ (by omega)]; rw [eG62, vau (by omega)]
  have g86 : G73 (b + 11) = some (0, 0, rN) := by rw [eG73, va_up_ne _ _ (by omega)]; rw [eG69, vau (by omega)]
  refine ⟨g75, g76, fun k hk => ?_⟩
  rcases (show k = 0 ∨ k = 1 ∨ k = 2 ∨ k = 3 ∨ k = 4 ∨ k = 5 ∨ k = 6 ∨ k = 7 ∨ k = 8 ∨ k = 9 by omega) with rfl | rfl | rfl | rfl | rfl | rfl | rfl | rfl | rfl | rfl
  · exact g77
  · exact g78
  · exact g79
  · exact g80
  · exact g81
  · exact g82
  · exact g83
  · exact g84
  · exact g85
  · exact g86
theorem dX8_init_0 : decode cX8_init 0 = .ok (.aload_n 0, 1) := by decide +kernel
theorem dX8_init_1 : decode cX8_init 1 = .ok (.invokespecial 1, 3) := by decide +kernel
theorem dX8_init_4 : decode cX8_init 4 = .ok (.aload_n 0, 1) := by decide +kernel
theorem dX8_init_5 : decode cX8_init 5 = .ok (.new 7, 3) := by decide +kernel
theorem dX8_init_8 : decode cX8_init 8 = .ok (.dup, 1) := by decide +kernel
theorem dX8_init_9 : decode cX8_init 9 = .ok (.invokespecial 9, 3) := by decide +kernel
theorem dX8_init_12 : decode cX8_init 12 = .ok (.putfield 10, 3) := by decide +kernel
theorem dX8_init_15 : decode cX8_init 15 = .ok (.aload_n 0, 1) := by decide +kernel
theorem dX8_init_16 : decode cX8_init 16 = .ok (.new 7, 3) := by decide +kernel
theorem dX8_init_19 : decode cX8_init 19 = .ok (.dup, 1) := by decide +kernel
theorem dX8_init_20 : decode cX8_init 20 = .ok (.invokespecial 9, 3) := by decide +kernel
theorem dX8_init_23 : decode cX8_init 23 = .ok (.putfield 16, 3) := by decide +kernel
theorem dX8_init_26 : decode cX8_init 26 = .ok (.aload_n 0, 1) := by decide +kernel
theorem dX8_init_27 : decode cX8_init 27 = .ok (.new 7, 3) := by decide +kernel
theorem dX8_init_30 : decode cX8_init 30 = .ok (.dup, 1) := by decide +kernel
theorem dX8_init_31 : decode cX8_init 31 = .ok (.invokespecial 9, 3) := by decide +kernel
theorem dX8_init_34 : decode cX8_init 34 = .ok (.putfield 19, 3) := by decide +kernel
theorem dX8_init_37 : decode cX8_init 37 = .ok (.aload_n 0, 1) := by decide +kernel
theorem dX8_init_38 : decode cX8_init 38 = .ok (.new 7, 3) := by decide +kernel
theorem dX8_init_41 : decode cX8_init 41 = .ok (.dup, 1) := by decide +kernel
theorem dX8_init_42 : decode cX8_init 42 = .ok (.invokespecial 9, 3) := by decide +kernel
theorem dX8_init_45 : decode cX8_init 45 = .ok (.putfield 22, 3) := by decide +kernel
theorem dX8_init_48 : decode cX8_init 48 = .ok (.aload_n 0, 1) := by decide +kernel
theorem dX8_init_49 : decode cX8_init 49 = .ok (.new 7, 3) := by decide +kernel
theorem dX8_init_52 : decode cX8_init 52 = .ok (.dup, 1) := by decide +kernel
theorem dX8_init_53 : decode cX8_init 53 = .ok (.invokespecial 9, 3) := by decide +kernel
theorem dX8_init_56 : decode cX8_init 56 = .ok (.putfield 25, 3) := by decide +kernel
theorem dX8_init_59 : decode cX8_init 59 = .ok (.aload_n 0, 1) := by decide +kernel
theorem dX8_init_60 : decode cX8_init 60 = .ok (.new 7, 3) := by decide +kernel
theorem dX8_init_63 : decode cX8_init 63 = .ok (.dup, 1) := by decide +kernel
theorem dX8_init_64 : decode cX8_init 64 = .ok (.invokespecial 9, 3) := by decide +kernel
theorem dX8_init_67 : decode cX8_init 67 = .ok (.putfield 28, 3) := by decide +kernel
theorem dX8_init_70 : decode cX8_init 70 = .ok (.return_, 1) := by decide +kernel
set_option maxHeartbeats 1000000 in
set_option maxRecDepth 100000 in
theorem c_X8_init (l : Launch) (D : xD) (z : Nat) (G : xG) (I : xI) (L : xL) (b : Nat) (g0 : G b = some (8, 0, rN)) (zb : z ≤ b) : xM l D z yX8_init cX8_init 1 none 2 40 6 12 [.ref b] (b + 1) G I L (cPost b 7 (fun G' => shO G' b) G I L) := by
  refine xM.of (by decide) (Nat.le_of_ble_eq_true rfl) (fun p e s m args below meth c C hnm hsz => ?_)
  refine x_lv [(0, .ref b)] rfl ?_
  refine x_aload_n 0 C dX8_init_0 rfl 0 rfl ?_
  refine x_obj 1 C dX8_init_1 km_X8_1 ki_obj kc_obj (Nat.le_of_ble_eq_true rfl) (Nat.le_of_ble_eq_true rfl) ?_
  refine x_aload_n 4 C dX8_init_4 rfl 0 rfl ?_
  refine x_new 5 C dX8_init_5 (by decide) hh_X0 kl_X8_7 kb_X0 kn_X0 hd_X0 (Nat.le_of_ble_eq_true rfl) (Nat.le_of_ble_eq_true rfl) (fun G1 I1 L1 eG1 eI1 eL1 => ?_)
  refine x_dup 8 C dX8_init_8 rfl ?_
  refine x_callIN 9 C dX8_init_9 (rest := [.ref (b + 1), .ref b]) (c_X0_init l D z (b + 2) G1 I1 L1 (b + 1)) mt_X0_init (by decide) ki_X0_init rfl (Nat.le_of_ble_eq_true rfl) ⟨⟨(Nat.le_of_ble_eq_true rfl), (Nat.le_of_ble_eq_true rfl)⟩, (Nat.le_of_ble_eq_true rfl), (Nat.le_of_ble_eq_true rfl)⟩ (fun v2 n2 G2 I2 L2 hp2 _ => ?_)
  obtain ⟨hn2, hG2, hv2, hI2, hL2⟩ := hp2
  replace hG2 := hG2.symm; replace hI2 := hI2.symm; replace hL2 := hL2.symm; subst hv2; subst hG2; subst hI2; subst hL2; subst hn2
  refine x_st [.ref (b + 1), .ref b] rfl ?_
  have g3 : G1 (b) = some (8, 0, rN) := by rw [eG1, va_up_ne _ _ (by omega)]; exact g0
  refine x_putr 12 C dX8_init_12 ff_X8_10 rfl rfl hnm.symm rfl g3 (by omega) (fun G4 eG4 => ?_)
  refine x_aload_n 15 C dX8_init_15 rfl 0 rfl ?_
  refine x_new 16 C dX8_init_16 (by decide) hh_X0 kl_X8_7 kb_X0 kn_X0 hd_X0 (Nat.le_of_ble_eq_true rfl) (Nat.le_of_ble_eq_true rfl) (fun G5 I5 L5 eG5 eI5 eL5 => ?_)
  refine x_dup 19 C dX8_init_19 rfl ?_
  refine x_callIN 20 C dX8_init_20 (rest := [.ref (b + 2), .ref b]) (c_X0_init l D z (b + 3) G5 I5 L5 (b + 2)) mt_X0_init (by decide) ki_X0_init rfl (Nat.le_of_ble_eq_true rfl) ⟨⟨(Nat.le_of_ble_eq_true rfl), (Nat.le_of_ble_eq_true rfl)⟩, (Nat.le_of_ble_eq_true rfl), (Nat.le_of_ble_eq_true rfl)⟩ (fun v6 n6 G6 I6 L6 hp6 _ => ?_)
  obtain ⟨hn6, hG6, hv6, hI6, hL6⟩ := hp6
  replace hG6 := hG6.symm; replace hI6 := hI6.symm; replace hL6 := hL6.symm; subst hv6; subst hG6; subst hI6; subst hL6; subst hn6
  refine x_st [.ref (b + 2), .ref b] rfl ?_
  have g7 : G5 (b) = some (8, 0, va_up rN 0 (some (b + 1))) := by rw [eG5, va_up_ne _ _ (by omega)]; rw [eG4, vau (by omega)]
  refine x_putr 23 C dX8_init_23 ff_X8_16 rfl rfl hnm.symm rfl g7 (by omega) (fun G8 eG8 => ?_)
  refine x_aload_n 26 C dX8_init_26 rfl 0 rfl ?_
  refine x_new 27 C dX8_init_27 (by decide) hh_X0 kl_X8_7 kb_X0 kn_X0 hd_X0 (Nat.le_of_ble_eq_true rfl) (Nat.le_of_ble_eq_true rfl) (fun G9 I9 L9 eG9 eI9 eL9 => ?_)
  refine x_dup 30 C dX8_init_30 rfl ?_
  refine x_callIN 31 C dX8_init_31 (rest := [.ref (b + 3), .ref b]) (c_X0_init l D z (b + 4) G9 I9 L9 (b + 3)) mt_X0_init (by decide) ki_X0_init rfl (Nat.le_of_ble_eq_true rfl) ⟨⟨(Nat.le_of_ble_eq_true rfl), (Nat.le_of_ble_eq_true rfl)⟩, (Nat.le_of_ble_eq_true rfl), (Nat.le_of_ble_eq_true rfl)⟩ (fun v10 n10 G10 I10 L10 hp10 _ => ?_)
  obtain ⟨hn10, hG10, hv10, hI10, hL10⟩ := hp10
  replace hG10 := hG10.symm; replace hI10 := hI10.symm; replace hL10 := hL10.symm; subst hv10; subst hG10; subst hI10; subst hL10; subst hn10
  refine x_st [.ref (b + 3), .ref b] rfl ?_
  have g11 : G9 (b) = some (8, 0, va_up (va_up rN 0 (some (b + 1))) 1 (some (b + 2))) := by rw [eG9, va_up_ne _ _ (by omega)]; rw [eG8, vau (by omega)]
  refine x_putr 34 C dX8_init_34 ff_X8_19 rfl rfl hnm.symm rfl g11 (by omega) (fun G12 eG12 => ?_)
  refine x_aload_n 37 C dX8_init_37 rfl 0 rfl ?_
  refine x_new 38 C dX8_init_38 (by decide) hh_X0 kl_X8_7 kb_X0 kn_X0 hd_X0 (Nat.le_of_ble_eq_true rfl) (Nat.le_of_ble_eq_true rfl) (fun G13 I13 L13 eG13 eI13 eL13 => ?_)
  refine x_dup 41 C dX8_init_41 rfl ?_
  refine x_callIN 42 C dX8_init_42 (rest := [.ref (b + 4), .ref b]) (c_X0_init l D z (b + 5) G13 I13 L13 (b + 4)) mt_X0_init (by decide) ki_X0_init rfl (Nat.le_of_ble_eq_true rfl) ⟨⟨(Nat.le_of_ble_eq_true rfl), (Nat.le_of_ble_eq_true rfl)⟩, (Nat.le_of_ble_eq_true rfl), (Nat.le_of_ble_eq_true rfl)⟩ (fun v14 n14 G14 I14 L14 hp14 _ => ?_)
  obtain ⟨hn14, hG14, hv14, hI14, hL14⟩ := hp14
  replace hG14 := hG14.symm; replace hI14 := hI14.symm; replace hL14 := hL14.symm; subst hv14; subst hG14; subst hI14; subst hL14; subst hn14
  refine x_st [.ref (b + 4), .ref b] rfl ?_
  have g15 : G13 (b) = some (8, 0, va_up (va_up (va_up rN 0 (some (b + 1))) 1 (some (b + 2))) 2 (some (b + 3))) := by rw [eG13, va_up_ne _ _ (by omega)]; rw [eG12, vau (by omega)]
  refine x_putr 45 C dX8_init_45 ff_X8_22 rfl rfl hnm.symm rfl g15 (by omega) (fun G16 eG16 => ?_)
  refine x_aload_n 48 C dX8_init_48 rfl 0 rfl ?_
  refine x_new 49 C dX8_init_49 (by decide) hh_X0 kl_X8_7 kb_X0 kn_X0 hd_X0 (Nat.le_of_ble_eq_true rfl) (Nat.le_of_ble_eq_true rfl) (fun G17 I17 L17 eG17 eI17 eL17 => ?_)
  refine x_dup 52 C dX8_init_52 rfl ?_
  refine x_callIN 53 C dX8_init_53 (rest := [.ref (b + 5), .ref b]) (c_X0_init l D z (b + 6) G17 I17 L17 (b + 5)) mt_X0_init (by decide) ki_X0_init rfl (Nat.le_of_ble_eq_true rfl) ⟨⟨(Nat.le_of_ble_eq_true rfl), (Nat.le_of_ble_eq_true rfl)⟩, (Nat.le_of_ble_eq_true rfl), (Nat.le_of_ble_eq_true rfl)⟩ (fun v18 n18 G18 I18 L18 hp18 _ => ?_)
  obtain ⟨hn18, hG18, hv18, hI18, hL18⟩ := hp18
  replace hG18 := hG18.symm; replace hI18 := hI18.symm; replace hL18 := hL18.symm; subst hv18; subst hG18; subst hI18; subst hL18; subst hn18
  refine x_st [.ref (b + 5), .ref b] rfl ?_
  have g19 : G17 (b) = some (8, 0, va_up (va_up (va_up (va_up rN 0 (some (b + 1))) 1 (some (b + 2))) 2 (some (b + 3))) 3 (some (b + 4))) := by rw [eG17, va_up_ne _ _ (by omega)]; rw [eG16, vau (by omega)]
  refine x_putr 56 C dX8_init_56 ff_X8_25 rfl rfl hnm.symm rfl g19 (by omega) (fun G20 eG20 => ?_)
  refine x_aload_n 59 C dX8_init_59 rfl 0 rfl ?_
  refine x_new 60 C dX8_init_60 (by decide) hh_X0 kl_X8_7 kb_X0 kn_X0 hd_X0 (Nat.le_of_ble_eq_true rfl) (Nat.le_of_ble_eq_true rfl) (fun G21 I21 L21 eG21 eI21 eL21 => ?_)
  refine x_dup 63 C dX8_init_63 rfl ?_
  refine x_callIN 64 C dX8_init_64 (rest := [.ref (b + 6), .ref b]) (c_X0_init l D z (b + 7) G21 I21 L21 (b + 6)) mt_X0_init (by decide) ki_X0_init rfl (Nat.le_of_ble_eq_true rfl) ⟨⟨(Nat.le_of_ble_eq_true rfl), (Nat.le_of_ble_eq_true rfl)⟩, (Nat.le_of_ble_eq_true rfl), (Nat.le_of_ble_eq_true rfl)⟩ (fun v22 n22 G22 I22 L22 hp22 _ => ?_)
  obtain ⟨hn22, hG22, hv22, hI22, hL22⟩ := hp22
  replace hG22 := hG22.symm; replace hI22 := hI22.symm; replace hL22 := hL22.symm; subst hv22; subst hG22; subst hI22; subst hL22; subst hn22
  refine x_st [.ref (b + 6), .ref b] rfl ?_
  have g23 : G21 (b) = some (8, 0, va_up (va_up (va_up (va_up (va_up rN 0 (some (b + 1))) 1 (some (b + 2))) 2 (some (b + 3))) 3 (some (b + 4))) 4 (some (b + 5))) := by rw [eG21, va_up_ne _ _ (by omega)]; rw [eG20, vau (by omega)]
  refine x_putr 67 C dX8_init_67 ff_X8_28 rfl rfl hnm.symm rfl g23 (by omega) (fun G24 eG24 => ?_)
  refine x_wid (k' := 6) (n' := 12) (Nat.le_of_ble_eq_true rfl) (Nat.le_of_ble_eq_true rfl) ?_
  refine x_vret 70 C dX8_init_70 rfl (by omega) ?_
  refine ⟨rfl, rfl, ?_, fun a h1 => by rw [eG24, va_up_ne _ _ (by omega)]; rw [eG21, va_up_ne _ _ (by omega)]; rw [eG20, va_up_ne _ _ (by omega)]; rw [eG17, va_up_ne _ _ (by omega)]; rw [eG16, va_up_ne _ _ (by omega)]; rw [eG13, va_up_ne _ _ (by omega)]; rw [eG12, va_up_ne _ _ (by omega)]; rw [eG9, va_up_ne _ _ (by omega)]; rw [eG8, va_up_ne _ _ (by omega)]; rw [eG5, va_up_ne _ _ (by omega)]; rw [eG4, va_up_ne _ _ (by omega)]; rw [eG1, va_up_ne _ _ (by omega)], fun a h1 => by rw [eI21, xzero_row _ _ (by omega)]; rw [eI17, xzero_row _ _ (by omega)]; rw [eI13, xzero_row _ _ (by omega)]; rw [eI9, xzero_row _ _ (by omega)]; rw [eI5, xzero_row _ _ (by omega)]; rw [eI1, xzero_row _ _ (by omega)], fun a h1 => by rw [eL21, xzero_row _ _ (by omega)]; rw [eL17, xzero_row _ _ (by omega)]; rw [eL13, xzero_row _ _ (by omega)]; rw [eL9, xzero_row _ _ (by omega)]; rw [eL5, xzero_row _ _ (by omega)]; rw [eL1, xzero_row _ _ (by omega)]⟩
  have g25 : G24 (b) = some (8, 0, va_up (va_up (va_up (va_up (va_up (va_up rN 0 (some (b + 1))) 1 (some (b + 2))) 2 (some (b + 3))) 3 (some (b + 4))) 4 (some (b + 5))) 5 (some (b + 6))) := by rw [eG24, vau (by omega)]
  have g26 : G24 (b + 1) = some (0, 0, rN) := by rw [eG24, va_up_ne _ _ (by omega)]; rw [eG21, va_up_ne _ _ (by omega)]; rw [eG20, va_up_ne _ _ (by omega)]; rw [eG17, va_up_ne _ _ (by omega)]; rw [eG16, va_up_ne _ _ (by omega)]; rw [eG13, va_up_ne _ _ (by omega)]; rw [eG12, va_up_ne _ _ (by omega)]; rw [eG9, va_up_ne _ _ (by omega)]; rw [eG8, va_up_ne _ _ (by omega)]; rw [eG5, va_up_ne _ _ (by omega)]; rw [eG4, va_up_ne _ _ (by omega)]; rw [eG1, vau (by omega)]
  have g27 : G24 (b + 2) = some (0, 0, rN) := by rw [eG24, va_up_ne _ _ (by omega)]; rw [eG21, va_up_ne _ _ (by omega)]; rw [eG20, va_up_ne _ _ (by omega)]; rw [eG17, va_up_ne _ _ (by omega)]; rw [eG16, va_up_ne _ _ (by omega)]; rw [eG13, va_up_ne _ _ (by omega)]; rw [eG12, va_up_ne _ _ (by omega)]; rw [eG9, va_up_ne _ _ (by omega)]; rw [eG8, va_up_ne _ _ (by omega)]; rw [eG5, vau (by omega)]
  have g28 : G24 (b + 3) = some (0, 0, rN) := by rw [eG24, va_up_ne _ _ (by omega)]; rw [eG21, va_up_ne _ _ (by omega)]; rw [eG20, va_up_ne _ _ (by omega)]; rw [eG17, va_up_ne _ _ (by omega)]; rw [eG16, va_up_ne _ _ (by omega)]; rw [eG13, va_up_ne _ _ (by omega)]; rw [eG12, va_up_ne _ _ (by omega)]; rw [eG9, vau (by omega)]
  have g29 : G24 (b + 4) = some (0, 0, rN) := by rw [eG24, va_up_ne _ _ (by omega)]; rw [eG21, va_up_ne _ _ (by omega)]; rw [eG20, va_up_ne _ _ (by omega)]; rw [eG17, va_up_ne _ _ (by omega)]; rw [eG16, va_up_ne _ _ (by omega)]; rw [eG13, vau (by omega)]
  have g30 : G24 (b + 5) = some (0, 0, rN) := by rw [eG24, va_up_ne _ _ (by omega)]; rw [eG21, va_up_ne _ _ (by omega)]; rw [eG20, va_up_ne _ _ (by omega)]; rw [eG17, vau (by omega)]
  have g31 : G24 (b + 6) = some (0, 0, rN) := by rw [eG24, va_up_ne _ _ (by omega)]; rw [eG21, vau (by omega)]
  refine ⟨g25, fun k hk => ?_⟩
  rcases (show k = 0 ∨ k = 1 ∨ k = 2 ∨ k = 3 ∨ k = 4 ∨ k = 5 by omega) with rfl | rfl | rfl | rfl | rfl | rfl
  · exact g26
  · exact g27
  · exact g28
  · exact g29
  · exact g30
  · exact g31
