/-! The Model: worth -/
def inT (f : Nat → Int32) : Prop := ∀ k, k < 10 → heldc (f k) = f k
def cofOf (I : xI) (A e0 : Nat) (f g : Nat → Int32) : Prop := (e0 < 2 ∧ ∀ k, k < 10 → I (A + 1) (20 * e0 + 2 * k) = f k ∧ I (A + 1) (20 * e0 + 2 * k + 1) = g k) ∨ ((e0 = 2 ∨ e0 = 3) ∧ ∃ d, (1 ≤ d ∧ d ≤ 3) ∧ I (A + 1) (38 + e0) = nI d ∧ f = stRe (if e0 = 2 then tm d 0 else tm 0 d) ∧ g = fun _ => 0)
def evS (b : Nat) (f g : Nat → Int32) (pw : Nat → xC) (k : Nat) : xC := if b = 0 then evV f g pw k else if b = 1 then evX f g pw k else evY f g pw k
theorem inB_le {x : Int32} (h : heldc x = x) : -999 ≤ x.toInt ∧ x.toInt ≤ 999 := by
  rw [← bnd_heldc] at h
  unfold bnd at h
  have e1 : (-999 : Int32).toInt = -999 := by decide
  have e2 : (999 : Int32).toInt = 999 := by decide
  by_cases h1 : x < -999
  · rw [if_pos h1] at h; rw [← h]; decide
  · by_cases h2 : (999 : Int32) < x
    · rw [if_neg h1, if_pos h2] at h; rw [← h]; decide
    · rw [Int32.lt_iff_toInt_lt] at h1 h2; omega
theorem mulI {i : Nat} {x : Int32} (hi : i ≤ 3) (hx : heldc x = x) : (nI i * x).toInt = i * x.toInt := by
  have h := inB_le hx
  rw [Int32.toInt_mul, nI_toInt (by omega)]
  rcases (show i = 0 ∨ i = 1 ∨ i = 2 ∨ i = 3 by omega) with rfl | rfl | rfl | rfl <;> rw [Int.bmod_eq_of_le (by omega) (by omega)]
theorem mul64 {i : Nat} {x : Int32} (hi : i ≤ 3) (hx : heldc x = x) : Int32.toInt64 (nI i) * Int32.toInt64 x = Int32.toInt64 (nI i * x) := by
  apply Int64.toInt_inj.mp
  have h := inB_le hx
  rw [Int64.toInt_mul, Int32.toInt_toInt64, Int32.toInt_toInt64, Int32.toInt_toInt64, mulI hi hx, nI_toInt (by omega)]
  rcases (show i = 0 ∨ i = 1 ∨ i = 2 ∨ i = 3 by omega) with rfl | rfl | rfl | rfl <;> rw [Int.bmod_eq_of_le (by omega) (by omega)]
theorem l64_0 {x : Int32} : Int32.toInt64 x = 0 ↔ x = 0 := by
  constructor
  · intro h
    have h2 := congrArg Int64.toInt h
    rw [Int32.toInt_toInt64] at h2
    exact Int32.toInt_inj.mp h2
  · intro h; rw [h]; rfl
theorem mul_0 {i : Nat} {x : Int32} (hi : i ≤ 3) (hx : heldc x = x) (h : nI i * x = 0) : i = 0 ∨ x = 0 := by
  have h2 := congrArg Int32.toInt h
  rw [mulI hi hx] at h2
  have e0 : (0 : Int32).toInt = 0 := by decide
  rw [e0] at h2
  rcases Int.mul_eq_zero.mp h2 with h3 | h3
  · exact Or.inl (by omega)
  · exact Or.inr (Int32.toInt_inj.mp (h3.trans e0.symm))
theorem mw_fin {L Lk : xL} {A : Nat} (h1 : ∀ q, q ≠ A → Lk q = L q) (h2 : ∀ j, j ≠ 7 → j ≠ 8 → Lk A j = L A j) (c : xC) : xup (xup Lk A 7 c.1) A 8 c.2 = mwC L A c := by
  funext q j
  unfold mwC
  by_cases hq : q = A
  · subst hq
    by_cases h8 : j = 8
    · subst h8; rw [xup_self, xup_self]
    · by_cases h7 : j = 7
      · subst h7; rw [xup_ne _ _ (by omega), xup_self, xup_ne _ _ (by omega), xup_self]
      · rw [xup_ne _ _ (by omega), xup_ne _ _ (by omega), xup_ne _ _ (by omega), xup_ne _ _ (by omega)]; exact h2 j h7 h8
  · rw [xup_row _ _ hq, xup_row _ _ hq, xup_row _ _ hq, xup_row _ _ hq, h1 q hq]
theorem evV_s {f g : Nat → Int32} {pw : Nat → xC} {k : Nat} (h : ¬ (Int32.toInt64 (f k) = 0 ∧ Int32.toInt64 (g k) = 0)) : evS 0 f g pw (k + 1) = addC (evS 0 f g pw k) (gauC (Int32.toInt64 (f k)) (Int32.toInt64 (g k)) (pw k)) := by
  show evV f g pw (k + 1) = _
  simp only [evV]; rw [if_neg (fun h2 => h ⟨l64_0.mpr h2.1, l64_0.mpr h2.2⟩)]; rfl
theorem evV_n {f g : Nat → Int32} {pw : Nat → xC} {k : Nat} (h : Int32.toInt64 (f k) = 0 ∧ Int32.toInt64 (g k) = 0) : evS 0 f g pw (k + 1) = evS 0 f g pw k := by
  show evV f g pw (k + 1) = _
  simp only [evV]; rw [if_pos ⟨l64_0.mp h.1, l64_0.mp h.2⟩]; rfl
theorem evX_s {f g : Nat → Int32} {pw : Nat → xC} {i j : Nat} (hij : i + j ≤ 3) (h : ¬ (Int32.toInt64 (nI i * f (tm i j)) = 0 ∧ Int32.toInt64 (nI i * g (tm i j)) = 0)) : 1 ≤ i ∧ evS 1 f g pw (tm i j + 1) = addC (evS 1 f g pw (tm i j)) (gauC (Int32.toInt64 (nI i * f (tm i j))) (Int32.toInt64 (nI i * g (tm i j))) (pw (tm (i - 1) j))) := by
  have hi : 1 ≤ i := Nat.one_le_iff_ne_zero.mpr (fun h0 => h (by subst h0; exact ⟨l64_0.mpr (Int32.zero_mul), l64_0.mpr (Int32.zero_mul)⟩))
  refine ⟨hi, ?_⟩
  have hxy := tXY_tm hij
  show evX f g pw (tm i j + 1) = _
  simp only [evX]
  rw [if_neg (fun h2 => h (by rw [h2.1, h2.2]; exact ⟨l64_0.mpr (Int32.mul_zero), l64_0.mpr (Int32.mul_zero)⟩)), hxy.1, hxy.2, if_pos (Nat.lt_of_lt_of_le Nat.zero_lt_one hi)]; rfl
theorem evX_n {f g : Nat → Int32} {pw : Nat → xC} {i j : Nat} (hij : i + j ≤ 3) (hf : inT f) (hg : inT g) (h : Int32.toInt64 (nI i * f (tm i j)) = 0 ∧ Int32.toInt64 (nI i * g (tm i j)) = 0) : evS 1 f g pw (tm i j + 1) = evS 1 f g pw (tm i j) := by
  have hxy := tXY_tm hij
  show evX f g pw (tm i j + 1) = _
  simp only [evX]
  by_cases h0 : f (tm i j) = 0 ∧ g (tm i j) = 0
  · rw [if_pos h0]; rfl
  · rw [if_neg h0, hxy.1]
    rcases mul_0 (by omega) (hf (tm i j) (tm_lt hij)) (l64_0.mp h.1) with h1 | h1
    · rw [if_neg (by omega)]; rfl
    · rcases mul_0 (by omega) (hg (tm i j) (tm_lt hij)) (l64_0.mp h.2) with h2 | h2
      · rw [if_neg (by omega)]; rfl
      · exact absurd ⟨h1, h2⟩ h0
theorem evY_s {f g : Nat → Int32} {pw : Nat → xC} {i j : Nat} (hij : i + j ≤ 3) (h : ¬ (Int32.toInt64 (nI j * f (tm i j)) = 0 ∧ Int32.toInt64 (nI j * g (tm i j)) = 0)) : 1 ≤ j ∧ evS 2 f g pw (tm i j + 1) = addC (evS 2 f g pw (tm i j)) (gauC (Int32.toInt64 (nI j * f (tm i j))) (Int32.toInt64 (nI j * g (tm i j))) (pw (tm i (j - 1)))) := by
  have hi : 1 ≤ j := Nat.one_le_iff_ne_zero.mpr (fun h0 => h (by subst h0; exact ⟨l64_0.mpr (Int32.zero_mul), l64_0.mpr (Int32.zero_mul)⟩))
  refine ⟨hi, ?_⟩
  have hxy := tXY_tm hij
  show evY f g pw (tm i j + 1) = _
  simp only [evY]
  rw [if_neg (fun h2 => h (by rw [h2.1, h2.2]; exact ⟨l64_0.mpr (Int32.mul_zero), l64_0.mpr (Int32.mul_zero)⟩)), hxy.1, hxy.2, if_pos (Nat.lt_of_lt_of_le Nat.zero_lt_one hi)]; rfl
theorem evY_n {f g : Nat → Int32} {pw : Nat → xC} {i j : Nat} (hij : i + j ≤ 3) (hf : inT f) (hg : inT g) (h : Int32.toInt64 (nI j * f (tm i j)) = 0 ∧ Int32.toInt64 (nI j * g (tm i j)) = 0) : evS 2 f g pw (tm i j + 1) = evS 2 f g pw (tm i j) := by
  have hxy := tXY_tm hij
  show evY f g pw (tm i j + 1) = _
  simp only [evY]
  by_cases h0 : f (tm i j) = 0 ∧ g (tm i j) = 0
  · rw [if_pos h0]; rfl
  · rw [if_neg h0, hxy.2]
    rcases mul_0 (by omega) (hf (tm i j) (tm_lt hij)) (l64_0.mp h.1) with h1 | h1
    · rw [if_neg (by omega)]; rfl
    · rcases mul_0 (by omega) (hg (tm i j) (tm_lt hij)) (l64_0.mp h.2) with h2 | h2
      · rw [if_neg (by omega)]; rfl
      · exact absurd ⟨h1, h2⟩ h0
theorem t_X12_coefficientOf_a (l : Launch) (D : xD) (z n : Nat) (G : xG) (I : xI) (L : xL) (A : Nat) (e0 : Nat) (i : Nat) (j : Nat) (q : Nat) (f : Nat → Int32) (g : Nat → Int32) (hM : shMo G A) (hcf : cofOf I A e0 f g) (hij : i + j ≤ 3) (hq : q < 2) : xM0 l D z yX12_coefficientOf cX12_coefficientOf 7 (some .int) 1 23 [.ref A, .int (nI e0), .int (nI i), .int (nI j), .int (nI q)] n G I L (xE (some (.int (if q = 0 then f (tm i j) else g (tm i j)))) I L) := by
  rcases hcf with ⟨h1, hk⟩ | ⟨h1, d, hd, hdg, hf, hg⟩
  · have h := t_X12_coefficientOf l D z n G I L A e0 i j q hM h1 hij hq
    have e : I (A + 1) (20 * e0 + 2 * tm i j + q) = if q = 0 then f (tm i j) else g (tm i j) := by
      rcases (show q = 0 ∨ q = 1 by omega) with rfl | rfl
      · exact (hk _ (tm_lt hij)).1
      · exact (hk _ (tm_lt hij)).2
    rw [e] at h; exact h
  · have h := t_X12_coefficientOf_s l D z n G I L A e0 i j q d hM h1 hij hq hd hdg
    have e : (if q = 1 then 0 else stRe (if e0 = 2 then tm d 0 else tm 0 d) (tm i j)) = if q = 0 then f (tm i j) else g (tm i j) := by
      rw [hf, hg]
      rcases (show q = 0 ∨ q = 1 by omega) with rfl | rfl <;> rfl
    rw [e] at h; exact h
theorem dX12_worth_0 : decode cX12_worth 0 = .ok (.lconst 0, 1) := by decide +kernel
theorem dX12_worth_1 : decode cX12_worth 1 = .ok (.lstore_n 3, 1) := by decide +kernel
theorem dX12_worth_2 : decode cX12_worth 2 = .ok (.lconst 0, 1) := by decide +kernel
theorem dX12_worth_3 : decode cX12_worth 3 = .ok (.lstore 5, 2) := by decide +kernel
theorem dX12_worth_5 : decode cX12_worth 5 = .ok (.iconst 0, 1) := by decide +kernel
theorem dX12_worth_6 : decode cX12_worth 6 = .ok (.istore 7, 2) := by decide +kernel
theorem dX12_worth_8 : decode cX12_worth 8 = .ok (.iload 7, 2) := by decide +kernel
theorem dX12_worth_10 : decode cX12_worth 10 = .ok (.iconst 4, 1) := by decide +kernel
theorem dX12_worth_11 : decode cX12_worth 11 = .ok (.if_icmp .ge 191, 3) := by decide +kernel
theorem dX12_worth_14 : decode cX12_worth 14 = .ok (.iconst 0, 1) := by decide +kernel
theorem dX12_worth_15 : decode cX12_worth 15 = .ok (.istore 8, 2) := by decide +kernel
theorem dX12_worth_17 : decode cX12_worth 17 = .ok (.iload 7, 2) := by decide +kernel
theorem dX12_worth_19 : decode cX12_worth 19 = .ok (.iload 8, 2) := by decide +kernel
theorem dX12_worth_21 : decode cX12_worth 21 = .ok (.iadd, 1) := by decide +kernel
theorem dX12_worth_22 : decode cX12_worth 22 = .ok (.iconst 4, 1) := by decide +kernel
theorem dX12_worth_23 : decode cX12_worth 23 = .ok (.if_icmp .ge 173, 3) := by decide +kernel
theorem dX12_worth_26 : decode cX12_worth 26 = .ok (.iload_n 2, 1) := by decide +kernel
theorem dX12_worth_27 : decode cX12_worth 27 = .ok (.ifCond .ne 7, 3) := by decide +kernel
theorem dX12_worth_30 : decode cX12_worth 30 = .ok (.lconst 1, 1) := by decide +kernel
theorem dX12_worth_31 : decode cX12_worth 31 = .ok (.goto 17, 3) := by decide +kernel
theorem dX12_worth_34 : decode cX12_worth 34 = .ok (.iload_n 2, 1) := by decide +kernel
theorem dX12_worth_35 : decode cX12_worth 35 = .ok (.iconst 1, 1) := by decide +kernel
theorem dX12_worth_36 : decode cX12_worth 36 = .ok (.if_icmp .ne 9, 3) := by decide +kernel
theorem dX12_worth_39 : decode cX12_worth 39 = .ok (.iload 7, 2) := by decide +kernel
theorem dX12_worth_41 : decode cX12_worth 41 = .ok (.i2l, 1) := by decide +kernel
theorem dX12_worth_42 : decode cX12_worth 42 = .ok (.goto 6, 3) := by decide +kernel
theorem dX12_worth_45 : decode cX12_worth 45 = .ok (.iload 8, 2) := by decide +kernel
theorem dX12_worth_47 : decode cX12_worth 47 = .ok (.i2l, 1) := by decide +kernel
theorem dX12_worth_48 : decode cX12_worth 48 = .ok (.lstore 9, 2) := by decide +kernel
theorem dX12_worth_50 : decode cX12_worth 50 = .ok (.lload 9, 2) := by decide +kernel
theorem dX12_worth_52 : decode cX12_worth 52 = .ok (.aload_n 0, 1) := by decide +kernel
theorem dX12_worth_53 : decode cX12_worth 53 = .ok (.iload_n 1, 1) := by decide +kernel
theorem dX12_worth_54 : decode cX12_worth 54 = .ok (.iload 7, 2) := by decide +kernel
theorem dX12_worth_56 : decode cX12_worth 56 = .ok (.iload 8, 2) := by decide +kernel
theorem dX12_worth_58 : decode cX12_worth 58 = .ok (.iconst 0, 1) := by decide +kernel
theorem dX12_worth_59 : decode cX12_worth 59 = .ok (.invokevirtual 108, 3) := by decide +kernel
theorem dX12_worth_62 : decode cX12_worth 62 = .ok (.i2l, 1) := by decide +kernel
theorem dX12_worth_63 : decode cX12_worth 63 = .ok (.lmul, 1) := by decide +kernel
theorem dX12_worth_64 : decode cX12_worth 64 = .ok (.lstore 11, 2) := by decide +kernel
theorem dX12_worth_66 : decode cX12_worth 66 = .ok (.lload 9, 2) := by decide +kernel
theorem dX12_worth_68 : decode cX12_worth 68 = .ok (.aload_n 0, 1) := by decide +kernel
theorem dX12_worth_69 : decode cX12_worth 69 = .ok (.iload_n 1, 1) := by decide +kernel
theorem dX12_worth_70 : decode cX12_worth 70 = .ok (.iload 7, 2) := by decide +kernel
theorem dX12_worth_72 : decode cX12_worth 72 = .ok (.iload 8, 2) := by decide +kernel
theorem dX12_worth_74 : decode cX12_worth 74 = .ok (.iconst 1, 1) := by decide +kernel
theorem dX12_worth_75 : decode cX12_worth 75 = .ok (.invokevirtual 108, 3) := by decide +kernel
theorem dX12_worth_78 : decode cX12_worth 78 = .ok (.i2l, 1) := by decide +kernel
theorem dX12_worth_79 : decode cX12_worth 79 = .ok (.lmul, 1) := by decide +kernel
theorem dX12_worth_80 : decode cX12_worth 80 = .ok (.lstore 13, 2) := by decide +kernel
theorem dX12_worth_82 : decode cX12_worth 82 = .ok (.lload 11, 2) := by decide +kernel
theorem dX12_worth_84 : decode cX12_worth 84 = .ok (.lconst 0, 1) := by decide +kernel
theorem dX12_worth_85 : decode cX12_worth 85 = .ok (.lcmp, 1) := by decide +kernel
theorem dX12_worth_86 : decode cX12_worth 86 = .ok (.ifCond .ne 10, 3) := by decide +kernel
theorem dX12_worth_89 : decode cX12_worth 89 = .ok (.lload 13, 2) := by decide +kernel
theorem dX12_worth_91 : decode cX12_worth 91 = .ok (.lconst 0, 1) := by decide +kernel
theorem dX12_worth_92 : decode cX12_worth 92 = .ok (.lcmp, 1) := by decide +kernel
theorem dX12_worth_93 : decode cX12_worth 93 = .ok (.ifCond .eq 97, 3) := by decide +kernel
theorem dX12_worth_96 : decode cX12_worth 96 = .ok (.aload_n 0, 1) := by decide +kernel
theorem dX12_worth_97 : decode cX12_worth 97 = .ok (.iload_n 2, 1) := by decide +kernel
theorem dX12_worth_98 : decode cX12_worth 98 = .ok (.iconst 1, 1) := by decide +kernel
theorem dX12_worth_99 : decode cX12_worth 99 = .ok (.if_icmp .ne 10, 3) := by decide +kernel
theorem dX12_worth_102 : decode cX12_worth 102 = .ok (.iload 7, 2) := by decide +kernel
theorem dX12_worth_104 : decode cX12_worth 104 = .ok (.iconst 1, 1) := by decide +kernel
theorem dX12_worth_105 : decode cX12_worth 105 = .ok (.isub, 1) := by decide +kernel
theorem dX12_worth_106 : decode cX12_worth 106 = .ok (.goto 5, 3) := by decide +kernel
theorem dX12_worth_109 : decode cX12_worth 109 = .ok (.iload 7, 2) := by decide +kernel
theorem dX12_worth_111 : decode cX12_worth 111 = .ok (.iload_n 2, 1) := by decide +kernel
theorem dX12_worth_112 : decode cX12_worth 112 = .ok (.iconst 2, 1) := by decide +kernel
theorem dX12_worth_113 : decode cX12_worth 113 = .ok (.if_icmp .ne 10, 3) := by decide +kernel
theorem dX12_worth_116 : decode cX12_worth 116 = .ok (.iload 8, 2) := by decide +kernel
theorem dX12_worth_118 : decode cX12_worth 118 = .ok (.iconst 1, 1) := by decide +kernel
theorem dX12_worth_119 : decode cX12_worth 119 = .ok (.isub, 1) := by decide +kernel
theorem dX12_worth_120 : decode cX12_worth 120 = .ok (.goto 5, 3) := by decide +kernel
theorem dX12_worth_123 : decode cX12_worth 123 = .ok (.iload 8, 2) := by decide +kernel
theorem dX12_worth_125 : decode cX12_worth 125 = .ok (.invokevirtual 112, 3) := by decide +kernel
theorem dX12_worth_128 : decode cX12_worth 128 = .ok (.aload_n 0, 1) := by decide +kernel
theorem dX12_worth_129 : decode cX12_worth 129 = .ok (.lload 11, 2) := by decide +kernel
theorem dX12_worth_131 : decode cX12_worth 131 = .ok (.aload_n 0, 1) := by decide +kernel
theorem dX12_worth_132 : decode cX12_worth 132 = .ok (.getfield 87, 3) := by decide +kernel
theorem dX12_worth_135 : decode cX12_worth 135 = .ok (.lmul, 1) := by decide +kernel
theorem dX12_worth_136 : decode cX12_worth 136 = .ok (.lload 13, 2) := by decide +kernel
theorem dX12_worth_138 : decode cX12_worth 138 = .ok (.aload_n 0, 1) := by decide +kernel
theorem dX12_worth_139 : decode cX12_worth 139 = .ok (.getfield 90, 3) := by decide +kernel
theorem dX12_worth_142 : decode cX12_worth 142 = .ok (.lmul, 1) := by decide +kernel
theorem dX12_worth_143 : decode cX12_worth 143 = .ok (.lsub, 1) := by decide +kernel
theorem dX12_worth_144 : decode cX12_worth 144 = .ok (.lload 11, 2) := by decide +kernel
theorem dX12_worth_146 : decode cX12_worth 146 = .ok (.aload_n 0, 1) := by decide +kernel
theorem dX12_worth_147 : decode cX12_worth 147 = .ok (.getfield 90, 3) := by decide +kernel
theorem dX12_worth_150 : decode cX12_worth 150 = .ok (.lmul, 1) := by decide +kernel
theorem dX12_worth_151 : decode cX12_worth 151 = .ok (.lload 13, 2) := by decide +kernel
theorem dX12_worth_153 : decode cX12_worth 153 = .ok (.aload_n 0, 1) := by decide +kernel
theorem dX12_worth_154 : decode cX12_worth 154 = .ok (.getfield 87, 3) := by decide +kernel
theorem dX12_worth_157 : decode cX12_worth 157 = .ok (.lmul, 1) := by decide +kernel
theorem dX12_worth_158 : decode cX12_worth 158 = .ok (.ladd, 1) := by decide +kernel
theorem dX12_worth_159 : decode cX12_worth 159 = .ok (.invokevirtual 93, 3) := by decide +kernel
theorem dX12_worth_162 : decode cX12_worth 162 = .ok (.aload_n 0, 1) := by decide +kernel
theorem dX12_worth_163 : decode cX12_worth 163 = .ok (.lload_n 3, 1) := by decide +kernel
theorem dX12_worth_164 : decode cX12_worth 164 = .ok (.aload_n 0, 1) := by decide +kernel
theorem dX12_worth_165 : decode cX12_worth 165 = .ok (.getfield 87, 3) := by decide +kernel
theorem dX12_worth_168 : decode cX12_worth 168 = .ok (.ladd, 1) := by decide +kernel
theorem dX12_worth_169 : decode cX12_worth 169 = .ok (.lload 5, 2) := by decide +kernel
theorem dX12_worth_171 : decode cX12_worth 171 = .ok (.aload_n 0, 1) := by decide +kernel
theorem dX12_worth_172 : decode cX12_worth 172 = .ok (.getfield 90, 3) := by decide +kernel
theorem dX12_worth_175 : decode cX12_worth 175 = .ok (.ladd, 1) := by decide +kernel
theorem dX12_worth_176 : decode cX12_worth 176 = .ok (.invokevirtual 93, 3) := by decide +kernel
theorem dX12_worth_179 : decode cX12_worth 179 = .ok (.aload_n 0, 1) := by decide +kernel
theorem dX12_worth_180 : decode cX12_worth 180 = .ok (.getfield 87, 3) := by decide +kernel
theorem dX12_worth_183 : decode cX12_worth 183 = .ok (.lstore_n 3, 1) := by decide +kernel
theorem dX12_worth_184 : decode cX12_worth 184 = .ok (.aload_n 0, 1) := by decide +kernel
theorem dX12_worth_185 : decode cX12_worth 185 = .ok (.getfield 90, 3) := by decide +kernel
theorem dX12_worth_188 : decode cX12_worth 188 = .ok (.lstore 5, 2) := by decide +kernel
theorem dX12_worth_190 : decode cX12_worth 190 = .ok (.iinc 8 1, 3) := by decide +kernel
theorem dX12_worth_193 : decode cX12_worth 193 = .ok (.goto (-176), 3) := by decide +kernel
theorem dX12_worth_196 : decode cX12_worth 196 = .ok (.iinc 7 1, 3) := by decide +kernel
theorem dX12_worth_199 : decode cX12_worth 199 = .ok (.goto (-191), 3) := by decide +kernel
theorem dX12_worth_202 : decode cX12_worth 202 = .ok (.aload_n 0, 1) := by decide +kernel
theorem dX12_worth_203 : decode cX12_worth 203 = .ok (.lload_n 3, 1) := by decide +kernel
theorem dX12_worth_204 : decode cX12_worth 204 = .ok (.putfield 87, 3) := by decide +kernel
theorem dX12_worth_207 : decode cX12_worth 207 = .ok (.aload_n 0, 1) := by decide +kernel
theorem dX12_worth_208 : decode cX12_worth 208 = .ok (.lload 5, 2) := by decide +kernel
theorem dX12_worth_210 : decode cX12_worth 210 = .ok (.putfield 90, 3) := by decide +kernel
theorem dX12_worth_213 : decode cX12_worth 213 = .ok (.return_, 1) := by decide +kernel
set_option maxHeartbeats 1000000 in
set_option maxRecDepth 100000 in
theorem t_X12_worth_0 (l : Launch) (D : xD) (z n : Nat) (G : xG) (I : xI) (L : xL) (A : Nat) (e0 : Nat) (f : Nat → Int32) (g : Nat → Int32) (x : xC) (y : xC) (u : Int64) (hM : shMo G A) (zA : z ≤ A) (hcf : cofOf I A e0 f g) (hbf : inT f) (hbg : inT g) (hp : powAt L A 0 u x) (hq : powAt L A 8 u y) (hx : hC x = x) (hy : hC y = y) (hu9 : L A 9 = u) (hu : ¬ u = 0) : xM0 l D z yX12_worth cX12_worth 15 none 4 96 [.ref A, .int (nI e0), .int 0] n G I L (xE none I (mwC L A (evS 0 f g (powC x y u) 10))) := by
  refine xM.of (by decide) (Nat.le_of_ble_eq_true rfl) (fun p e s m args below meth c C hnm hsz => ?_)
  refine x_lv [(0, .ref A), (1, .int (nI e0)), (2, .int 0)] rfl ?_
  refine x_lconst 0 C (v := 0) dX12_worth_0 rfl ?_
  refine x_lstore_n 1 C [(3, .long 0), (0, .ref A), (1, .int (nI e0)), (2, .int 0)] dX12_worth_1 rfl (by decide) rfl ?_
  refine x_lconst 2 C (v := 0) dX12_worth_2 rfl ?_
  refine x_lstore 3 C [(5, .long 0), (3, .long 0), (0, .ref A), (1, .int (nI e0)), (2, .int 0)] dX12_worth_3 (by decide) rfl ?_
  refine x_iconst 5 C (v := 0) dX12_worth_5 rfl ?_
  refine x_istore 6 C [(7, .int 0), (5, .long 0), (3, .long 0), (0, .ref A), (1, .int (nI e0)), (2, .int 0)] dX12_worth_6 (by decide) rfl ?_
  have loop8 : ∀ (fuel : Nat) (i : Nat) (Lk : xL), (i ≤ 4) → (5 ≤ i + fuel) → (∀ q, q ≠ A → Lk q = L q) → (∀ j, j ≠ 7 → j ≠ 8 → Lk A j = L A j) → X p l e (xRm 4 96 0 0) s m args below meth c D z 15 (MQ below (xQc D z n (xN n G (xE none I (mwC L A (evS 0 f g (powC x y u) 10))))) args s 0 0 (fun a => z ≤ a)) 0 0 n G I Lk 8 [(0, .ref A), (1, .int (nI e0)), (2, .int 0), (3, .long ((evS 0 f g (powC x y u) (t4 i)).1)), (5, .long ((evS 0 f g (powC x y u) (t4 i)).2)), (7, .int (nI i))] [] := by
    intro fuel
    induction fuel with
    | zero =>
      intro i Lk hi hf hLr hLj
      exact absurd hf (by omega)
    | succ fuel ih =>
      intro i Lk hi hf hLr hLj
      have ihO := ih
      refine x_iload 8 C dX12_worth_8 5 rfl ?_
      refine x_iconst 10 C (v := 4) dX12_worth_10 rfl ?_
      refine x_icmp_ge 11 C 202 dX12_worth_11 (by decide) (fun c1 => ?_) (fun c1 => ?_)
      · skip
        have c1n : 4 ≤ i := (nI_leI (a := 4) (b := i) (by omega) (by omega)).mp c1
        have c1m : ¬ (i < 4) := by omega
        have c1o := Int32.not_lt.mpr c1
        refine x_aload_n 202 C dX12_worth_202 rfl 0 rfl ?_
        refine x_lload_n 203 C dX12_worth_203 rfl 3 rfl ?_
        refine x_putl 204 C dX12_worth_204 ff_X12_87 rfl hM.1 (by omega) (fun L2 eL2 => ?_)
        refine x_aload_n 207 C dX12_worth_207 rfl 0 rfl ?_
        refine x_lload 208 C dX12_worth_208 4 rfl ?_
        refine x_putl 210 C dX12_worth_210 ff_X12_90 rfl hM.1 (by omega) (fun L3 eL3 => ?_)
        refine x_vret 213 C dX12_worth_213 rfl (Nat.le_refl _) (xN.intro ?_)
        have hi4 : i = 4 := by omega
        subst hi4
        subst eL2; subst eL3
        exact ⟨rfl, rfl, mw_fin hLr hLj _⟩
      · skip
        have c1n : ¬ (4 ≤ i) := fun h => c1 ((nI_leI (a := 4) (b := i) (by omega) (by omega)).mpr h)
        have c1m : i < 4 := by omega
        have c1o := Int32.not_le.mp c1
        refine x_iconst 14 C (v := 0) dX12_worth_14 rfl ?_
        refine x_istore 15 C [(8, .int 0), (0, .ref A), (1, .int (nI e0)), (2, .int 0), (3, .long ((evS 0 f g (powC x y u) (t4 i)).1)), (5, .long ((evS 0 f g (powC x y u) (t4 i)).2)), (7, .int (nI i))] dX12_worth_15 (by decide) rfl ?_
        have loop17 : ∀ (fuel : Nat) (j : Nat) (Lk : xL), (i + j ≤ 4) → (5 ≤ i + j + fuel) → (∀ q, q ≠ A → Lk q = L q) → (∀ j, j ≠ 7 → j ≠ 8 → Lk A j = L A j) → X p l e (xRm 4 96 0 0) s m args below meth c D z 15 (MQ below (xQc D z n (xN n G (xE none I (mwC L A (evS 0 f g (powC x y u) 10))))) args s 0 0 (fun a => z ≤ a)) 0 0 n G I Lk 17 [(0, .ref A), (1, .int (nI e0)), (2, .int 0), (3, .long ((evS 0 f g (powC x y u) (tm i j)).1)), (5, .long ((evS 0 f g (powC x y u) (tm i j)).2)), (7, .int (nI i)), (8, .int (nI j))] [] := by
          intro fuel
          induction fuel with
          | zero =>
            intro j Lk hj hf2 hLr hLj
            exact absurd hf2 (by omega)
          | succ fuel ih =>
            intro j Lk hj hf2 hLr hLj
            refine x_iload 17 C dX12_worth_17 5 rfl ?_
            refine x_iload 19 C dX12_worth_19 6 rfl ?_
            refine x_iadd 21 C dX12_worth_21 ?_
            refine x_int (nI (i + j)) (nI_add i j) ?_
            refine x_iconst 22 C (v := 4) dX12_worth_22 rfl ?_
            refine x_icmp_ge 23 C 196 dX12_worth_23 (by decide) (fun c4 => ?_) (fun c4 => ?_)
            · skip
              have c4n : 4 ≤ (i + j) := (nI_leI (a := 4) (b := (i + j)) (by omega) (by omega)).mp c4
              have c4m : ¬ ((i + j) < 4) := by omega
              have c4o := Int32.not_lt.mpr c4
              have hj4 : i + j = 4 := by omega
              refine x_iinc 196 C [(7, .int (nI (i + 1))), (0, .ref A), (1, .int (nI e0)), (2, .int 0), (3, .long ((evS 0 f g (powC x y u) (tm i j)).1)), (5, .long ((evS 0 f g (powC x y u) (tm i j)).2)), (8, .int (nI j))] dX12_worth_196 5 rfl (nI_add i 1) (by decide) rfl ?_
              refine x_goto 199 C 8 dX12_worth_199 (by decide) ?_
              refine x_sub [(0, .ref A), (1, .int (nI e0)), (2, .int 0), (3, .long ((evS 0 f g (powC x y u) (tm i j)).1)), (5, .long ((evS 0 f g (powC x y u) (tm i j)).2)), (7, .int (nI (i + 1)))] [1, 2, 3, 4, 5, 0] rfl ?_
              refine x_lv [(0, .ref A), (1, .int (nI e0)), (2, .int 0), (3, .long ((evS 0 f g (powC x y u) (t4 (i + 1))).1)), (5, .long ((evS 0 f g (powC x y u) (t4 (i + 1))).2)), (7, .int (nI (i + 1)))] (by rw [← tm_4 (by omega) hj4]) ?_
              exact ihO (i + 1) Lk (by omega) (by omega) hLr hLj
            · skip
              have c4n : ¬ (4 ≤ (i + j)) := fun h => c4 ((nI_leI (a := 4) (b := (i + j)) (by omega) (by omega)).mpr h)
              have c4m : (i + j) < 4 := by omega
              have c4o := Int32.not_le.mp c4
              have hij : i + j ≤ 3 := by omega
              have hpk := powAt_congr (M := Lk) (fun j _ _ => by rw [hLr _ (by omega)]) hp
              have hqk := powAt_congr (M := Lk) (fun j _ _ => by rw [hLr _ (by omega)]) hq
              have huk : Lk A 9 = u := (hLj 9 (by decide) (by decide)).trans hu9
              refine x_iload_n 26 C dX12_worth_26 rfl 2 rfl ?_
              refine x_if_ne 27 C 34 dX12_worth_27 (by decide) (fun c5 => absurd (by decide) c5) (fun _ => ?_)
              refine x_lconst 30 C (v := 1) dX12_worth_30 rfl ?_
              refine x_goto 31 C 48 dX12_worth_31 (by decide) ?_
              refine x_lstore 48 C [(9, .long 1), (0, .ref A), (1, .int (nI e0)), (2, .int 0), (3, .long ((evS 0 f g (powC x y u) (tm i j)).1)), (5, .long ((evS 0 f g (powC x y u) (tm i j)).2)), (7, .int (nI i)), (8, .int (nI j))] dX12_worth_48 (by decide) rfl ?_
              refine x_lload 50 C dX12_worth_50 0 rfl ?_
              refine x_aload_n 52 C dX12_worth_52 rfl 1 rfl ?_
              refine x_iload_n 53 C dX12_worth_53 rfl 2 rfl ?_
              refine x_iload 54 C dX12_worth_54 6 rfl ?_
              refine x_iload 56 C dX12_worth_56 7 rfl ?_
              refine x_iconst 58 C (v := 0) dX12_worth_58 rfl ?_
              refine x_callVe 59 C dX12_worth_59 (As := [.int (nI e0), .int (nI i), .int (nI j), .int 0]) (rest := [.long 1]) [.int (if 0 = 0 then f (tm i j) else g (tm i j)), .long 1] (t_X12_coefficientOf_a l D z n G I Lk A e0 i j 0 f g hM (by first | assumption | omega | decide) (by first | omega | assumption | decide) (by first | omega | assumption | decide)) mt_X12_coefficientOf km_X12_108 ki_X12_coefficientOf ks_X12_coefficientOf hM.1 ⟨by decide, rfl⟩ rfl rfl (Nat.le_of_ble_eq_true rfl) ⟨⟨by decide, by decide⟩, by decide, by decide⟩ (fun I6 L7 eI6 eL7 => ?_)
              replace eI6 := eI6.symm; subst eI6
              replace eL7 := eL7.symm; subst eL7
              refine x_int (f (tm i j)) (if_pos rfl) ?_
              refine x_i2l 62 C dX12_worth_62 ?_
              refine x_lmul 63 C dX12_worth_63 ?_
              refine x_long (Int32.toInt64 (f (tm i j))) (Int64.one_mul _) ?_
              refine x_lstore 64 C [(11, .long (Int32.toInt64 (f (tm i j)))), (9, .long 1), (0, .ref A), (1, .int (nI e0)), (2, .int 0), (3, .long ((evS 0 f g (powC x y u) (tm i j)).1)), (5, .long ((evS 0 f g (powC x y u) (tm i j)).2)), (7, .int (nI i)), (8, .int (nI j))] dX12_worth_64 (by decide) rfl ?_
              refine x_lload 66 C dX12_worth_66 1 rfl ?_
              refine x_aload_n 68 C dX12_worth_68 rfl 2 rfl ?_
              refine x_iload_n 69 C dX12_worth_69 rfl 3 rfl ?_
              refine x_iload 70 C dX12_worth_70 7 rfl ?_
              refine x_iload 72 C dX12_worth_72 8 rfl ?_
              refine x_iconst 74 C (v := 1) dX12_worth_74 rfl ?_
              refine x_callVe 75 C dX12_worth_75 (As := [.int (nI e0), .int (nI i), .int (nI j), .int 1]) (rest := [.long 1]) [.int (if 1 = 0 then f (tm i j) else g (tm i j)), .long 1] (t_X12_coefficientOf_a l D z n G I Lk A e0 i j 1 f g hM (by first | assumption | omega | decide) (by first | omega | assumption | decide) (by first | omega | assumption | decide)) mt_X12_coefficientOf km_X12_108 ki_X12_coefficientOf ks_X12_coefficientOf hM.1 ⟨by decide, rfl⟩ rfl rfl (Nat.le_of_ble_eq_true rfl) ⟨⟨by decide, by decide⟩, by decide, by decide⟩ (fun I8 L9 eI8 eL9 => ?_)
              replace eI8 := eI8.symm; subst eI8
              replace eL9 := eL9.symm; subst eL9
              refine x_int (g (tm i j)) (if_neg (by decide)) ?_
              refine x_i2l 78 C dX12_worth_78 ?_
              refine x_lmul 79 C dX12_worth_79 ?_
              refine x_long (Int32.toInt64 (g (tm i j))) (Int64.one_mul _) ?_
              refine x_lstore 80 C [(13, .long (Int32.toInt64 (g (tm i j)))), (11, .long (Int32.toInt64 (f (tm i j)))), (9, .long 1), (0, .ref A), (1, .int (nI e0)), (2, .int 0), (3, .long ((evS 0 f g (powC x y u) (tm i j)).1)), (5, .long ((evS 0 f g (powC x y u) (tm i j)).2)), (7, .int (nI i)), (8, .int (nI j))] dX12_worth_80 (by decide) rfl ?_
              refine x_lload 82 C dX12_worth_82 1 rfl ?_
              refine x_lconst 84 C (v := 0) dX12_worth_84 rfl ?_
              have join96 : ∀ (u0 : Unit), (¬ (Int32.toInt64 (f (tm i j)) = 0 ∧ Int32.toInt64 (g (tm i j)) = 0)) → X p l e (xRm 4 96 0 0) s m args below meth c D z 15 (MQ below (xQc D z n (xN n G (xE none I (mwC L A (evS 0 f g (powC x y u) 10))))) args s 0 0 (fun a => z ≤ a)) 0 0 n G I Lk 96 [(0, .ref A), (1, .int (nI e0)), (2, .int 0), (3, .long ((evS 0 f g (powC x y u) (tm i j)).1)), (5, .long ((evS 0 f g (powC x y u) (tm i j)).2)), (7, .int (nI i)), (8, .int (nI j)), (11, .long (Int32.toInt64 (f (tm i j)))), (13, .long (Int32.toInt64 (g (tm i j))))] [] := by
                intro u0 hnz
                have hstep := evV_s (pw := (powC x y u)) hnz
                refine x_aload_n 96 C dX12_worth_96 rfl 0 rfl ?_
                refine x_iload_n 97 C dX12_worth_97 rfl 2 rfl ?_
                refine x_iconst 98 C (v := 1) dX12_worth_98 rfl ?_
                refine x_icmp_ne 99 C 109 dX12_worth_99 (by decide) (fun _ => ?_) (fun c11 => absurd c11 (by decide))
                refine x_iload 109 C dX12_worth_109 5 rfl ?_
                refine x_iload_n 111 C dX12_worth_111 rfl 2 rfl ?_
                refine x_iconst 112 C (v := 2) dX12_worth_112 rfl ?_
                refine x_icmp_ne 113 C 123 dX12_worth_113 (by decide) (fun _ => ?_) (fun c12 => absurd c12 (by decide))
                refine x_iload 123 C dX12_worth_123 6 rfl ?_
                refine x_callVe 125 C dX12_worth_125 (As := [.int (nI i), .int (nI j)]) (rest := []) [] (t_X12_product l D z n G I Lk A i j x y u hM (by omega) (by first | omega | assumption | decide) hpk hqk hx hy huk (by first | assumption | omega | decide)) mt_X12_product km_X12_112 ki_X12_product ks_X12_product hM.1 ⟨by decide, rfl⟩ rfl rfl (Nat.le_of_ble_eq_true rfl) ⟨⟨by decide, by decide⟩, by decide, by decide⟩ (fun I13 L14 eI13 eL14 => ?_)
                replace eI13 := eI13.symm; subst eI13
                refine x_aload_n 128 C dX12_worth_128 rfl 0 rfl ?_
                refine x_lload 129 C dX12_worth_129 7 rfl ?_
                refine x_aload_n 131 C dX12_worth_131 rfl 0 rfl ?_
                refine x_getl 132 C dX12_worth_132 ff_X12_87 hM.1 ?_
                refine x_long ((powC x y u (tm i j)).1) (by rw [eL14, mwC_7]) ?_
                refine x_lmul 135 C dX12_worth_135 ?_
                refine x_lload 136 C dX12_worth_136 8 rfl ?_
                refine x_aload_n 138 C dX12_worth_138 rfl 0 rfl ?_
                refine x_getl 139 C dX12_worth_139 ff_X12_90 hM.1 ?_
                refine x_long ((powC x y u (tm i j)).2) (by rw [eL14, mwC_8]) ?_
                refine x_lmul 142 C dX12_worth_142 ?_
                refine x_lsub 143 C dX12_worth_143 ?_
                refine x_lload 144 C dX12_worth_144 7 rfl ?_
                refine x_aload_n 146 C dX12_worth_146 rfl 0 rfl ?_
                refine x_getl 147 C dX12_worth_147 ff_X12_90 hM.1 ?_
                refine x_long ((powC x y u (tm i j)).2) (by rw [eL14, mwC_8]) ?_
                refine x_lmul 150 C dX12_worth_150 ?_
                refine x_lload 151 C dX12_worth_151 8 rfl ?_
                refine x_aload_n 153 C dX12_worth_153 rfl 0 rfl ?_
                refine x_getl 154 C dX12_worth_154 ff_X12_87 hM.1 ?_
                refine x_long ((powC x y u (tm i j)).1) (by rw [eL14, mwC_7]) ?_
                refine x_lmul 157 C dX12_worth_157 ?_
                refine x_ladd 158 C dX12_worth_158 ?_
                refine x_callVe 159 C dX12_worth_159 (As := [.long (((Int32.toInt64 (f (tm i j))) * ((powC x y u (tm i j)).1)) - ((Int32.toInt64 (g (tm i j))) * ((powC x y u (tm i j)).2))), .long (((Int32.toInt64 (f (tm i j))) * ((powC x y u (tm i j)).2)) + ((Int32.toInt64 (g (tm i j))) * ((powC x y u (tm i j)).1)))]) (rest := []) [] (t_X12_hold l D z n G I L14 A (((Int32.toInt64 (f (tm i j))) * ((powC x y u (tm i j)).1)) - ((Int32.toInt64 (g (tm i j))) * ((powC x y u (tm i j)).2))) (((Int32.toInt64 (f (tm i j))) * ((powC x y u (tm i j)).2)) + ((Int32.toInt64 (g (tm i j))) * ((powC x y u (tm i j)).1))) hM (by omega)) mt_X12_hold km_X12_93 ki_X12_hold ks_X12_hold hM.1 ⟨by decide, rfl⟩ rfl rfl (Nat.le_of_ble_eq_true rfl) ⟨⟨by decide, by decide⟩, by decide, by decide⟩ (fun I15 L16 eI15 eL16 => ?_)
                replace eI15 := eI15.symm; subst eI15
                refine x_aload_n 162 C dX12_worth_162 rfl 0 rfl ?_
                refine x_lload_n 163 C dX12_worth_163 rfl 3 rfl ?_
                refine x_aload_n 164 C dX12_worth_164 rfl 0 rfl ?_
                refine x_getl 165 C dX12_worth_165 ff_X12_87 hM.1 ?_
                refine x_long ((gauC (Int32.toInt64 (f (tm i j))) (Int32.toInt64 (g (tm i j))) (powC x y u (tm i j))).1) (by rw [eL16, mwC_7]; rfl) ?_
                refine x_ladd 168 C dX12_worth_168 ?_
                refine x_lload 169 C dX12_worth_169 4 rfl ?_
                refine x_aload_n 171 C dX12_worth_171 rfl 0 rfl ?_
                refine x_getl 172 C dX12_worth_172 ff_X12_90 hM.1 ?_
                refine x_long ((gauC (Int32.toInt64 (f (tm i j))) (Int32.toInt64 (g (tm i j))) (powC x y u (tm i j))).2) (by rw [eL16, mwC_8]; rfl) ?_
                refine x_ladd 175 C dX12_worth_175 ?_
                refine x_callVe 176 C dX12_worth_176 (As := [.long (((evS 0 f g (powC x y u) (tm i j)).1) + ((gauC (Int32.toInt64 (f (tm i j))) (Int32.toInt64 (g (tm i j))) (powC x y u (tm i j))).1)), .long (((evS 0 f g (powC x y u) (tm i j)).2) + ((gauC (Int32.toInt64 (f (tm i j))) (Int32.toInt64 (g (tm i j))) (powC x y u (tm i j))).2))]) (rest := []) [] (t_X12_hold l D z n G I L16 A (((evS 0 f g (powC x y u) (tm i j)).1) + ((gauC (Int32.toInt64 (f (tm i j))) (Int32.toInt64 (g (tm i j))) (powC x y u (tm i j))).1)) (((evS 0 f g (powC x y u) (tm i j)).2) + ((gauC (Int32.toInt64 (f (tm i j))) (Int32.toInt64 (g (tm i j))) (powC x y u (tm i j))).2)) hM (by omega)) mt_X12_hold km_X12_93 ki_X12_hold ks_X12_hold hM.1 ⟨by decide, rfl⟩ rfl rfl (Nat.le_of_ble_eq_true rfl) ⟨⟨by decide, by decide⟩, by decide, by decide⟩ (fun I17 L18 eI17 eL18 => ?_)
                replace eI17 := eI17.symm; subst eI17
                refine x_aload_n 179 C dX12_worth_179 rfl 0 rfl ?_
                refine x_getl 180 C dX12_worth_180 ff_X12_87 hM.1 ?_
                refine x_long ((addC (evS 0 f g (powC x y u) (tm i j)) (gauC (Int32.toInt64 (f (tm i j))) (Int32.toInt64 (g (tm i j))) (powC x y u (tm i j)))).1) (by rw [eL18, mwC_7]; rfl) ?_
                refine x_lstore_n 183 C [(3, .long ((addC (evS 0 f g (powC x y u) (tm i j)) (gauC (Int32.toInt64 (f (tm i j))) (Int32.toInt64 (g (tm i j))) (powC x y u (tm i j)))).1)), (0, .ref A), (1, .int (nI e0)), (2, .int 0), (5, .long ((evS 0 f g (powC x y u) (tm i j)).2)), (7, .int (nI i)), (8, .int (nI j)), (11, .long (Int32.toInt64 (f (tm i j)))), (13, .long (Int32.toInt64 (g (tm i j))))] dX12_worth_183 rfl (by decide) rfl ?_
                refine x_aload_n 184 C dX12_worth_184 rfl 1 rfl ?_
                refine x_getl 185 C dX12_worth_185 ff_X12_90 hM.1 ?_
                refine x_long ((addC (evS 0 f g (powC x y u) (tm i j)) (gauC (Int32.toInt64 (f (tm i j))) (Int32.toInt64 (g (tm i j))) (powC x y u (tm i j)))).2) (by rw [eL18, mwC_8]; rfl) ?_
                refine x_lstore 188 C [(5, .long ((addC (evS 0 f g (powC x y u) (tm i j)) (gauC (Int32.toInt64 (f (tm i j))) (Int32.toInt64 (g (tm i j))) (powC x y u (tm i j)))).2)), (3, .long ((addC (evS 0 f g (powC x y u) (tm i j)) (gauC (Int32.toInt64 (f (tm i j))) (Int32.toInt64 (g (tm i j))) (powC x y u (tm i j)))).1)), (0, .ref A), (1, .int (nI e0)), (2, .int 0), (7, .int (nI i)), (8, .int (nI j)), (11, .long (Int32.toInt64 (f (tm i j)))), (13, .long (Int32.toInt64 (g (tm i j))))] dX12_worth_188 (by decide) rfl ?_
                refine x_iinc 190 C [(8, .int (nI (j + 1))), (5, .long ((addC (evS 0 f g (powC x y u) (tm i j)) (gauC (Int32.toInt64 (f (tm i j))) (Int32.toInt64 (g (tm i j))) (powC x y u (tm i j)))).2)), (3, .long ((addC (evS 0 f g (powC x y u) (tm i j)) (gauC (Int32.toInt64 (f (tm i j))) (Int32.toInt64 (g (tm i j))) (powC x y u (tm i j)))).1)), (0, .ref A), (1, .int (nI e0)), (2, .int 0), (7, .int (nI i)), (11, .long (Int32.toInt64 (f (tm i j)))), (13, .long (Int32.toInt64 (g (tm i j))))] dX12_worth_190 6 rfl (nI_add j 1) (by decide) rfl ?_
                refine x_goto 193 C 17 dX12_worth_193 (by decide) ?_
                refine x_sub [(0, .ref A), (1, .int (nI e0)), (2, .int 0), (3, .long ((addC (evS 0 f g (powC x y u) (tm i j)) (gauC (Int32.toInt64 (f (tm i j))) (Int32.toInt64 (g (tm i j))) (powC x y u (tm i j)))).1)), (5, .long ((addC (evS 0 f g (powC x y u) (tm i j)) (gauC (Int32.toInt64 (f (tm i j))) (Int32.toInt64 (g (tm i j))) (powC x y u (tm i j)))).2)), (7, .int (nI i)), (8, .int (nI (j + 1)))] [3, 4, 5, 2, 1, 6, 0] rfl ?_
                have hst : evS 0 f g (powC x y u) (tm i (j + 1)) = (addC (evS 0 f g (powC x y u) (tm i j)) (gauC (Int32.toInt64 (f (tm i j))) (Int32.toInt64 (g (tm i j))) (powC x y u (tm i j)))) := hstep
                refine x_lv [(0, .ref A), (1, .int (nI e0)), (2, .int 0), (3, .long ((evS 0 f g (powC x y u) (tm i (j + 1))).1)), (5, .long ((evS 0 f g (powC x y u) (tm i (j + 1))).2)), (7, .int (nI i)), (8, .int (nI (j + 1)))] (by rw [hst]) ?_
                exact ih (j + 1) L18 (by omega) (by omega) (fun q hq => by rw [eL18, mwC_row _ _ hq, eL16, mwC_row _ _ hq, eL14, mwC_row _ _ hq]; exact hLr q hq) (fun j h7 h8 => by rw [eL18, mwC_ne _ _ h7 h8, eL16, mwC_ne _ _ h7 h8, eL14, mwC_ne _ _ h7 h8]; exact hLj j h7 h8)
              refine x_lc_ne 85 C 96 dX12_worth_85 dX12_worth_86 (by decide) (fun c10 => ?_) (fun c10 => ?_)
              · skip
                have hcrn := c10
                refine x_sub [(0, .ref A), (1, .int (nI e0)), (2, .int 0), (3, .long ((evS 0 f g (powC x y u) (tm i j)).1)), (5, .long ((evS 0 f g (powC x y u) (tm i j)).2)), (7, .int (nI i)), (8, .int (nI j)), (11, .long (Int32.toInt64 (f (tm i j)))), (13, .long (Int32.toInt64 (g (tm i j))))] [3, 4, 5, 6, 7, 8, 9, 1, 0] rfl ?_
                first | exact join96 () (fun h => hcrn h.1) | exact join96 () (fun h => hcin h.2)
              · skip
                have hcr0 := c10
                refine x_lload 89 C dX12_worth_89 0 rfl ?_
                refine x_lconst 91 C (v := 0) dX12_worth_91 rfl ?_
                refine x_lc_eq 92 C 190 dX12_worth_92 dX12_worth_93 (by decide) (fun c19 => ?_) (fun c19 => ?_)
                · skip
                  have hci0 := c19
                  refine x_iinc 190 C [(8, .int (nI (j + 1))), (13, .long (Int32.toInt64 (g (tm i j)))), (11, .long (Int32.toInt64 (f (tm i j)))), (9, .long 1), (0, .ref A), (1, .int (nI e0)), (2, .int 0), (3, .long ((evS 0 f g (powC x y u) (tm i j)).1)), (5, .long ((evS 0 f g (powC x y u) (tm i j)).2)), (7, .int (nI i))] dX12_worth_190 9 rfl (nI_add j 1) (by decide) rfl ?_
                  refine x_goto 193 C 17 dX12_worth_193 (by decide) ?_
                  refine x_sub [(0, .ref A), (1, .int (nI e0)), (2, .int 0), (3, .long ((evS 0 f g (powC x y u) (tm i j)).1)), (5, .long ((evS 0 f g (powC x y u) (tm i j)).2)), (7, .int (nI i)), (8, .int (nI (j + 1)))] [4, 5, 6, 7, 8, 9, 0] rfl ?_
                  have hst : evS 0 f g (powC x y u) (tm i (j + 1)) = evS 0 f g (powC x y u) (tm i j) := evV_n ⟨hcr0, hci0⟩
                  refine x_lv [(0, .ref A), (1, .int (nI e0)), (2, .int 0), (3, .long ((evS 0 f g (powC x y u) (tm i (j + 1))).1)), (5, .long ((evS 0 f g (powC x y u) (tm i (j + 1))).2)), (7, .int (nI i)), (8, .int (nI (j + 1)))] (by rw [hst]) ?_
                  exact ih (j + 1) Lk (by omega) (by omega) hLr hLj
                · skip
                  have hcin := c19
                  refine x_sub [(0, .ref A), (1, .int (nI e0)), (2, .int 0), (3, .long ((evS 0 f g (powC x y u) (tm i j)).1)), (5, .long ((evS 0 f g (powC x y u) (tm i j)).2)), (7, .int (nI i)), (8, .int (nI j)), (11, .long (Int32.toInt64 (f (tm i j)))), (13, .long (Int32.toInt64 (g (tm i j))))] [3, 4, 5, 6, 7, 8, 9, 1, 0] rfl ?_
                  first | exact join96 () (fun h => hcrn h.1) | exact join96 () (fun h => hcin h.2)
        refine x_sub [(0, .ref A), (1, .int (nI e0)), (2, .int 0), (3, .long ((evS 0 f g (powC x y u) (t4 i)).1)), (5, .long ((evS 0 f g (powC x y u) (t4 i)).2)), (7, .int (nI i)), (8, .int 0)] [1, 2, 3, 4, 5, 6, 0] rfl ?_
        refine x_lv [(0, .ref A), (1, .int (nI e0)), (2, .int 0), (3, .long ((evS 0 f g (powC x y u) (tm i 0)).1)), (5, .long ((evS 0 f g (powC x y u) (tm i 0)).2)), (7, .int (nI i)), (8, .int 0)] (by rw [show t4 i = tm i 0 by unfold t4; exact if_neg (by omega)]) ?_
        exact loop17 5 0 Lk (by omega) (by omega) hLr hLj
  refine x_sub [(0, .ref A), (1, .int (nI e0)), (2, .int 0), (3, .long 0), (5, .long 0), (7, .int 0)] [3, 4, 5, 2, 1, 0] rfl ?_
  refine x_lv [(0, .ref A), (1, .int (nI e0)), (2, .int 0), (3, .long ((evS 0 f g (powC x y u) (t4 0)).1)), (5, .long ((evS 0 f g (powC x y u) (t4 0)).2)), (7, .int 0)] rfl ?_
  exact loop8 5 0 L (by omega) (by omega) (fun _ _ => rfl) (fun _ _ _ => rfl)
set_option maxHeartbeats 1000000 in
set_option maxRecDepth 100000 in
theorem t_X12_worth_1 (l : Launch) (D : xD) (z n : Nat) (G : xG) (I : xI) (L : xL) (A : Nat) (e0 : Nat) (f : Nat → Int32) (g : Nat → Int32) (x : xC) (y : xC) (u : Int64) (hM : shMo G A) (zA : z ≤ A) (hcf : cofOf I A e0 f g) (hbf : inT f) (hbg : inT g) (hp : powAt L A 0 u x) (hq : powAt L A 8 u y) (hx : hC x = x) (hy : hC y = y) (hu9 : L A 9 = u) (hu : ¬ u = 0) : xM0 l D z yX12_worth cX12_worth 15 none 4 96 [.ref A, .int (nI e0), .int 1] n G I L (xE none I (mwC L A (evS 1 f g (powC x y u) 10))) := by
  refine xM.of (by decide) (Nat.le_of_ble_eq_true rfl) (fun p e s m args below meth c C hnm hsz => ?_)
  refine x_lv [(0, .ref A), (1, .int (nI e0)), (2, .int 1)] rfl ?_
  refine x_lconst 0 C (v := 0) dX12_worth_0 rfl ?_
  refine x_lstore_n 1 C [(3, .long 0), (0, .ref A), (1, .int (nI e0)), (2, .int 1)] dX12_worth_1 rfl (by decide) rfl ?_
  refine x_lconst 2 C (v := 0) dX12_worth_2 rfl ?_
  refine x_lstore 3 C [(5, .long 0), (3, .long 0), (0, .ref A), (1, .int (nI e0)), (2, .int 1)] dX12_worth_3 (by decide) rfl ?_
  refine x_iconst 5 C (v := 0) dX12_worth_5 rfl ?_
  refine x_istore 6 C [(7, .int 0), (5, .long 0), (3, .long 0), (0, .ref A), (1, .int (nI e0)), (2, .int 1)] dX12_worth_6 (by decide) rfl ?_
  have loop8 : ∀ (fuel : Nat) (i : Nat) (Lk : xL), (i ≤ 4) → (5 ≤ i + fuel) → (∀ q, q ≠ A → Lk q = L q) → (∀ j, j ≠ 7 → j ≠ 8 → Lk A j = L A j) → X p l e (xRm 4 96 0 0) s m args below meth c D z 15 (MQ below (xQc D z n (xN n G (xE none I (mwC L A (evS 1 f g (powC x y u) 10))))) args s 0 0 (fun a => z ≤ a)) 0 0 n G I Lk 8 [(0, .ref A), (1, .int (nI e0)), (2, .int 1), (3, .long ((evS 1 f g (powC x y u) (t4 i)).1)), (5, .long ((evS 1 f g (powC x y u) (t4 i)).2)), (7, .int (nI i))] [] := by
    intro fuel
    induction fuel with
    | zero =>
      intro i Lk hi hf hLr hLj
      exact absurd hf (by omega)
    | succ fuel ih =>
      intro i Lk hi hf hLr hLj
      have ihO := ih
      refine x_iload 8 C dX12_worth_8 5 rfl ?_
      refine x_iconst 10 C (v := 4) dX12_worth_10 rfl ?_
      refine x_icmp_ge 11 C 202 dX12_worth_11 (by decide) (fun c1 => ?_) (fun c1 => ?_)
      · skip
        have c1n : 4 ≤ i := (nI_leI (a := 4) (b := i) (by omega) (by omega)).mp c1
        have c1m : ¬ (i < 4) := by omega
        have c1o := Int32.not_lt.mpr c1
        refine x_aload_n 202 C dX12_worth_202 rfl 0 rfl ?_
        refine x_lload_n 203 C dX12_worth_203 rfl 3 rfl ?_
        refine x_putl 204 C dX12_worth_204 ff_X12_87 rfl hM.1 (by omega) (fun L2 eL2 => ?_)
        refine x_aload_n 207 C dX12_worth_207 rfl 0 rfl ?_
        refine x_lload 208 C dX12_worth_208 4 rfl ?_
        refine x_putl 210 C dX12_worth_210 ff_X12_90 rfl hM.1 (by omega) (fun L3 eL3 => ?_)
        refine x_vret 213 C dX12_worth_213 rfl (Nat.le_refl _) (xN.intro ?_)
        have hi4 : i = 4 := by omega
        subst hi4
        subst eL2; subst eL3
        exact ⟨rfl, rfl, mw_fin hLr hLj _⟩
      · skip
        have c1n : ¬ (4 ≤ i) := fun h => c1 ((nI_leI (a := 4) (b := i) (by omega) (by omega)).mpr h)
        have c1m : i < 4 := by omega
        have c1o := Int32.not_le.mp c1
        refine x_iconst 14 C (v := 0) dX12_worth_14 rfl ?_
        refine x_istore 15 C [(8, .int 0), (0, .ref A), (1, .int (nI e0)), (2, .int 1), (3, .long ((evS 1 f g (powC x y u) (t4 i)).1)), (5, .long ((evS 1 f g (powC x y u) (t4 i)).2)), (7, .int (nI i))] dX12_worth_15 (by decide) rfl ?_
        have loop17 : ∀ (fuel : Nat) (j : Nat) (Lk : xL), (i + j ≤ 4) → (5 ≤ i + j + fuel) → (∀ q, q ≠ A → Lk q = L q) → (∀ j, j ≠ 7 → j ≠ 8 → Lk A j = L A j) → X p l e (xRm 4 96 0 0) s m args below meth c D z 15 (MQ below (xQc D z n (xN n G (xE none I (mwC L A (evS 1 f g (powC x y u) 10))))) args s 0 0 (fun a => z ≤ a)) 0 0 n G I Lk 17 [(0, .ref A), (1, .int (nI e0)), (2, .int 1), (3, .long ((evS 1 f g (powC x y u) (tm i j)).1)), (5, .long ((evS 1 f g (powC x y u) (tm i j)).2)), (7, .int (nI i)), (8, .int (nI j))] [] := by
          intro fuel
          induction fuel with
          | zero =>
            intro j Lk hj hf2 hLr hLj
            exact absurd hf2 (by omega)
          | succ fuel ih =>
            intro j Lk hj hf2 hLr hLj
            refine x_iload 17 C dX12_worth_17 5 rfl ?_
            refine x_iload 19 C dX12_worth_19 6 rfl ?_
            refine x_iadd 21 C dX12_worth_21 ?_
            refine x_int (nI (i + j)) (nI_add i j) ?_
            refine x_iconst 22 C (v := 4) dX12_worth_22 rfl ?_
            refine x_icmp_ge 23 C 196 dX12_worth_23 (by decide) (fun c4 => ?_) (fun c4 => ?_)
            · skip
              have c4n : 4 ≤ (i + j) := (nI_leI (a := 4) (b := (i + j)) (by omega) (by omega)).mp c4
              have c4m : ¬ ((i + j) < 4) := by omega
              have c4o := Int32.not_lt.mpr c4
              have hj4 : i + j = 4 := by omega
              refine x_iinc 196 C [(7, .int (nI (i + 1))), (0, .ref A), (1, .int (nI e0)), (2, .int 1), (3, .long ((evS 1 f g (powC x y u) (tm i j)).1)), (5, .long ((evS 1 f g (powC x y u) (tm i j)).2)), (8, .int (nI j))] dX12_worth_196 5 rfl (nI_add i 1) (by decide) rfl ?_
              refine x_goto 199 C 8 dX12_worth_199 (by decide) ?_
              refine x_sub [(0, .ref A), (1, .int (nI e0)), (2, .int 1), (3, .long ((evS 1 f g (powC x y u) (tm i j)).1)), (5, .long ((evS 1 f g (powC x y u) (tm i j)).2)), (7, .int (nI (i + 1)))] [1, 2, 3, 4, 5, 0] rfl ?_
              refine x_lv [(0, .ref A), (1, .int (nI e0)), (2, .int 1), (3, .long ((evS 1 f g (powC x y u) (t4 (i + 1))).1)), (5, .long ((evS 1 f g (powC x y u) (t4 (i + 1))).2)), (7, .int (nI (i + 1)))] (by rw [← tm_4 (by omega) hj4]) ?_
              exact ihO (i + 1) Lk (by omega) (by omega) hLr hLj
            · skip
              have c4n : ¬ (4 ≤ (i + j)) := fun h => c4 ((nI_leI (a := 4) (b := (i + j)) (by omega) (by omega)).mpr h)
              have c4m : (i + j) < 4 := by omega
              have c4o := Int32.not_le.mp c4
              have hij : i + j ≤ 3 := by omega
              have hpk := powAt_congr (M := Lk) (fun j _ _ => by rw [hLr _ (by omega)]) hp
              have hqk := powAt_congr (M := Lk) (fun j _ _ => by rw [hLr _ (by omega)]) hq
              have huk : Lk A 9 = u := (hLj 9 (by decide) (by decide)).trans hu9
              refine x_iload_n 26 C dX12_worth_26 rfl 2 rfl ?_
              refine x_if_ne 27 C 34 dX12_worth_27 (by decide) (fun _ => ?_) (fun c5 => absurd c5 (by decide))
              refine x_iload_n 34 C dX12_worth_34 rfl 2 rfl ?_
              refine x_iconst 35 C (v := 1) dX12_worth_35 rfl ?_
              refine x_icmp_ne 36 C 45 dX12_worth_36 (by decide) (fun c6 => absurd (by decide) c6) (fun _ => ?_)
              refine x_iload 39 C dX12_worth_39 5 rfl ?_
              refine x_i2l 41 C dX12_worth_41 ?_
              refine x_goto 42 C 48 dX12_worth_42 (by decide) ?_
              refine x_lstore 48 C [(9, .long (Int32.toInt64 (nI i))), (0, .ref A), (1, .int (nI e0)), (2, .int 1), (3, .long ((evS 1 f g (powC x y u) (tm i j)).1)), (5, .long ((evS 1 f g (powC x y u) (tm i j)).2)), (7, .int (nI i)), (8, .int (nI j))] dX12_worth_48 (by decide) rfl ?_
              refine x_lload 50 C dX12_worth_50 0 rfl ?_
              refine x_aload_n 52 C dX12_worth_52 rfl 1 rfl ?_
              refine x_iload_n 53 C dX12_worth_53 rfl 2 rfl ?_
              refine x_iload 54 C dX12_worth_54 6 rfl ?_
              refine x_iload 56 C dX12_worth_56 7 rfl ?_
              refine x_iconst 58 C (v := 0) dX12_worth_58 rfl ?_
              refine x_callVe 59 C dX12_worth_59 (As := [.int (nI e0), .int (nI i), .int (nI j), .int 0]) (rest := [.long (Int32.toInt64 (nI i))]) [.int (if 0 = 0 then f (tm i j) else g (tm i j)), .long (Int32.toInt64 (nI i))] (t_X12_coefficientOf_a l D z n G I Lk A e0 i j 0 f g hM (by first | assumption | omega | decide) (by first | omega | assumption | decide) (by first | omega | assumption | decide)) mt_X12_coefficientOf km_X12_108 ki_X12_coefficientOf ks_X12_coefficientOf hM.1 ⟨by decide, rfl⟩ rfl rfl (Nat.le_of_ble_eq_true rfl) ⟨⟨by decide, by decide⟩, by decide, by decide⟩ (fun I7 L8 eI7 eL8 => ?_)
              replace eI7 := eI7.symm; subst eI7
              replace eL8 := eL8.symm; subst eL8
              refine x_int (f (tm i j)) (if_pos rfl) ?_
              refine x_i2l 62 C dX12_worth_62 ?_
              refine x_lmul 63 C dX12_worth_63 ?_
              refine x_long (Int32.toInt64 (nI i * f (tm i j))) (mul64 (by omega) (hbf _ (tm_lt hij))) ?_
              refine x_lstore 64 C [(11, .long (Int32.toInt64 (nI i * f (tm i j)))), (9, .long (Int32.toInt64 (nI i))), (0, .ref A), (1, .int (nI e0)), (2, .int 1), (3, .long ((evS 1 f g (powC x y u) (tm i j)).1)), (5, .long ((evS 1 f g (powC x y u) (tm i j)).2)), (7, .int (nI i)), (8, .int (nI j))] dX12_worth_64 (by decide) rfl ?_
              refine x_lload 66 C dX12_worth_66 1 rfl ?_
              refine x_aload_n 68 C dX12_worth_68 rfl 2 rfl ?_
              refine x_iload_n 69 C dX12_worth_69 rfl 3 rfl ?_
              refine x_iload 70 C dX12_worth_70 7 rfl ?_
              refine x_iload 72 C dX12_worth_72 8 rfl ?_
              refine x_iconst 74 C (v := 1) dX12_worth_74 rfl ?_
              refine x_callVe 75 C dX12_worth_75 (As := [.int (nI e0), .int (nI i), .int (nI j), .int 1]) (rest := [.long (Int32.toInt64 (nI i))]) [.int (if 1 = 0 then f (tm i j) else g (tm i j)), .long (Int32.toInt64 (nI i))] (t_X12_coefficientOf_a l D z n G I Lk A e0 i j 1 f g hM (by first | assumption | omega | decide) (by first | omega | assumption | decide) (by first | omega | assumption | decide)) mt_X12_coefficientOf km_X12_108 ki_X12_coefficientOf ks_X12_coefficientOf hM.1 ⟨by decide, rfl⟩ rfl rfl (Nat.le_of_ble_eq_true rfl) ⟨⟨by decide, by decide⟩, by decide, by decide⟩ (fun I9 L10 eI9 eL10 => ?_)
              replace eI9 := eI9.symm; subst eI9
              replace eL10 := eL10.symm; subst eL10
              refine x_int (g (tm i j)) (if_neg (by decide)) ?_
              refine x_i2l 78 C dX12_worth_78 ?_
              refine x_lmul 79 C dX12_worth_79 ?_
              refine x_long (Int32.toInt64 (nI i * g (tm i j))) (mul64 (by omega) (hbg _ (tm_lt hij))) ?_
              refine x_lstore 80 C [(13, .long (Int32.toInt64 (nI i * g (tm i j)))), (11, .long (Int32.toInt64 (nI i * f (tm i j)))), (9, .long (Int32.toInt64 (nI i))), (0, .ref A), (1, .int (nI e0)), (2, .int 1), (3, .long ((evS 1 f g (powC x y u) (tm i j)).1)), (5, .long ((evS 1 f g (powC x y u) (tm i j)).2)), (7, .int (nI i)), (8, .int (nI j))] dX12_worth_80 (by decide) rfl ?_
              refine x_lload 82 C dX12_worth_82 1 rfl ?_
              refine x_lconst 84 C (v := 0) dX12_worth_84 rfl ?_
              have join96 : ∀ (u0 : Unit), (¬ (Int32.toInt64 (nI i * f (tm i j)) = 0 ∧ Int32.toInt64 (nI i * g (tm i j)) = 0)) → X p l e (xRm 4 96 0 0) s m args below meth c D z 15 (MQ below (xQc D z n (xN n G (xE none I (mwC L A (evS 1 f g (powC x y u) 10))))) args s 0 0 (fun a => z ≤ a)) 0 0 n G I Lk 96 [(0, .ref A), (1, .int (nI e0)), (2, .int 1), (3, .long ((evS 1 f g (powC x y u) (tm i j)).1)), (5, .long ((evS 1 f g (powC x y u) (tm i j)).2)), (7, .int (nI i)), (8, .int (nI j)), (11, .long (Int32.toInt64 (nI i * f (tm i j)))), (13, .long (Int32.toInt64 (nI i * g (tm i j))))] [] := by
                intro u0 hnz
                have hstep := evX_s hij (pw := (powC x y u)) hnz
                have h1 := hstep.1
                refine x_aload_n 96 C dX12_worth_96 rfl 0 rfl ?_
                refine x_iload_n 97 C dX12_worth_97 rfl 2 rfl ?_
                refine x_iconst 98 C (v := 1) dX12_worth_98 rfl ?_
                refine x_icmp_ne 99 C 109 dX12_worth_99 (by decide) (fun c12 => absurd (by decide) c12) (fun _ => ?_)
                refine x_iload 102 C dX12_worth_102 5 rfl ?_
                refine x_iconst 104 C (v := 1) dX12_worth_104 rfl ?_
                refine x_isub 105 C dX12_worth_105 ?_
                refine x_int (nI (i - 1)) (nI_sub (a := i) (b := 1) (by omega)) ?_
                refine x_goto 106 C 111 dX12_worth_106 (by decide) ?_
                refine x_iload_n 111 C dX12_worth_111 rfl 2 rfl ?_
                refine x_iconst 112 C (v := 2) dX12_worth_112 rfl ?_
                refine x_icmp_ne 113 C 123 dX12_worth_113 (by decide) (fun _ => ?_) (fun c13 => absurd c13 (by decide))
                refine x_iload 123 C dX12_worth_123 6 rfl ?_
                refine x_callVe 125 C dX12_worth_125 (As := [.int (nI (i - 1)), .int (nI j)]) (rest := []) [] (t_X12_product l D z n G I Lk A (i - 1) j x y u hM (by omega) (by first | omega | assumption | decide) hpk hqk hx hy huk (by first | assumption | omega | decide)) mt_X12_product km_X12_112 ki_X12_product ks_X12_product hM.1 ⟨by decide, rfl⟩ rfl rfl (Nat.le_of_ble_eq_true rfl) ⟨⟨by decide, by decide⟩, by decide, by decide⟩ (fun I14 L15 eI14 eL15 => ?_)
                replace eI14 := eI14.symm; subst eI14
                refine x_aload_n 128 C dX12_worth_128 rfl 0 rfl ?_
                refine x_lload 129 C dX12_worth_129 7 rfl ?_
                refine x_aload_n 131 C dX12_worth_131 rfl 0 rfl ?_
                refine x_getl 132 C dX12_worth_132 ff_X12_87 hM.1 ?_
                refine x_long ((powC x y u (tm (i - 1) j)).1) (by rw [eL15, mwC_7]) ?_
                refine x_lmul 135 C dX12_worth_135 ?_
                refine x_lload 136 C dX12_worth_136 8 rfl ?_
                refine x_aload_n 138 C dX12_worth_138 rfl 0 rfl ?_
                refine x_getl 139 C dX12_worth_139 ff_X12_90 hM.1 ?_
                refine x_long ((powC x y u (tm (i - 1) j)).2) (by rw [eL15, mwC_8]) ?_
                refine x_lmul 142 C dX12_worth_142 ?_
                refine x_lsub 143 C dX12_worth_143 ?_
                refine x_lload 144 C dX12_worth_144 7 rfl ?_
                refine x_aload_n 146 C dX12_worth_146 rfl 0 rfl ?_
                refine x_getl 147 C dX12_worth_147 ff_X12_90 hM.1 ?_
                refine x_long ((powC x y u (tm (i - 1) j)).2) (by rw [eL15, mwC_8]) ?_
                refine x_lmul 150 C dX12_worth_150 ?_
                refine x_lload 151 C dX12_worth_151 8 rfl ?_
                refine x_aload_n 153 C dX12_worth_153 rfl 0 rfl ?_
                refine x_getl 154 C dX12_worth_154 ff_X12_87 hM.1 ?_
                refine x_long ((powC x y u (tm (i - 1) j)).1) (by rw [eL15, mwC_7]) ?_
                refine x_lmul 157 C dX12_worth_157 ?_
                refine x_ladd 158 C dX12_worth_158 ?_
                refine x_callVe 159 C dX12_worth_159 (As := [.long (((Int32.toInt64 (nI i * f (tm i j))) * ((powC x y u (tm (i - 1) j)).1)) - ((Int32.toInt64 (nI i * g (tm i j))) * ((powC x y u (tm (i - 1) j)).2))), .long (((Int32.toInt64 (nI i * f (tm i j))) * ((powC x y u (tm (i - 1) j)).2)) + ((Int32.toInt64 (nI i * g (tm i j))) * ((powC x y u (tm (i - 1) j)).1)))]) (rest := []) [] (t_X12_hold l D z n G I L15 A (((Int32.toInt64 (nI i * f (tm i j))) * ((powC x y u (tm (i - 1) j)).1)) - ((Int32.toInt64 (nI i * g (tm i j))) * ((powC x y u (tm (i - 1) j)).2))) (((Int32.toInt64 (nI i * f (tm i j))) * ((powC x y u (tm (i - 1) j)).2)) + ((Int32.toInt64 (nI i * g (tm i j))) * ((powC x y u (tm (i - 1) j)).1))) hM (by omega)) mt_X12_hold km_X12_93 ki_X12_hold ks_X12_hold hM.1 ⟨by decide, rfl⟩ rfl rfl (Nat.le_of_ble_eq_true rfl) ⟨⟨by decide, by decide⟩, by decide, by decide⟩ (fun I16 L17 eI16 eL17 => ?_)
                replace eI16 := eI16.symm; subst eI16
                refine x_aload_n 162 C dX12_worth_162 rfl 0 rfl ?_
                refine x_lload_n 163 C dX12_worth_163 rfl 3 rfl ?_
                refine x_aload_n 164 C dX12_worth_164 rfl 0 rfl ?_
                refine x_getl 165 C dX12_worth_165 ff_X12_87 hM.1 ?_
                refine x_long ((gauC (Int32.toInt64 (nI i * f (tm i j))) (Int32.toInt64 (nI i * g (tm i j))) (powC x y u (tm (i - 1) j))).1) (by rw [eL17, mwC_7]; rfl) ?_
                refine x_ladd 168 C dX12_worth_168 ?_
                refine x_lload 169 C dX12_worth_169 4 rfl ?_
                refine x_aload_n 171 C dX12_worth_171 rfl 0 rfl ?_
                refine x_getl 172 C dX12_worth_172 ff_X12_90 hM.1 ?_
                refine x_long ((gauC (Int32.toInt64 (nI i * f (tm i j))) (Int32.toInt64 (nI i * g (tm i j))) (powC x y u (tm (i - 1) j))).2) (by rw [eL17, mwC_8]; rfl) ?_
                refine x_ladd 175 C dX12_worth_175 ?_
                refine x_callVe 176 C dX12_worth_176 (As := [.long (((evS 1 f g (powC x y u) (tm i j)).1) + ((gauC (Int32.toInt64 (nI i * f (tm i j))) (Int32.toInt64 (nI i * g (tm i j))) (powC x y u (tm (i - 1) j))).1)), .long (((evS 1 f g (powC x y u) (tm i j)).2) + ((gauC (Int32.toInt64 (nI i * f (tm i j))) (Int32.toInt64 (nI i * g (tm i j))) (powC x y u (tm (i - 1) j))).2))]) (rest := []) [] (t_X12_hold l D z n G I L17 A (((evS 1 f g (powC x y u) (tm i j)).1) + ((gauC (Int32.toInt64 (nI i * f (tm i j))) (Int32.toInt64 (nI i * g (tm i j))) (powC x y u (tm (i - 1) j))).1)) (((evS 1 f g (powC x y u) (tm i j)).2) + ((gauC (Int32.toInt64 (nI i * f (tm i j))) (Int32.toInt64 (nI i * g (tm i j))) (powC x y u (tm (i - 1) j))).2)) hM (by omega)) mt_X12_hold km_X12_93 ki_X12_hold ks_X12_hold hM.1 ⟨by decide, rfl⟩ rfl rfl (Nat.le_of_ble_eq_true rfl) ⟨⟨by decide, by decide⟩, by decide, by decide⟩ (fun I18 L19 eI18 eL19 => ?_)
                replace eI18 := eI18.symm; subst eI18
                refine x_aload_n 179 C dX12_worth_179 rfl 0 rfl ?_
                refine x_getl 180 C dX12_worth_180 ff_X12_87 hM.1 ?_
                refine x_long ((addC (evS 1 f g (powC x y u) (tm i j)) (gauC (Int32.toInt64 (nI i * f (tm i j))) (Int32.toInt64 (nI i * g (tm i j))) (powC x y u (tm (i - 1) j)))).1) (by rw [eL19, mwC_7]; rfl) ?_
                refine x_lstore_n 183 C [(3, .long ((addC (evS 1 f g (powC x y u) (tm i j)) (gauC (Int32.toInt64 (nI i * f (tm i j))) (Int32.toInt64 (nI i * g (tm i j))) (powC x y u (tm (i - 1) j)))).1)), (0, .ref A), (1, .int (nI e0)), (2, .int 1), (5, .long ((evS 1 f g (powC x y u) (tm i j)).2)), (7, .int (nI i)), (8, .int (nI j)), (11, .long (Int32.toInt64 (nI i * f (tm i j)))), (13, .long (Int32.toInt64 (nI i * g (tm i j))))] dX12_worth_183 rfl (by decide) rfl ?_
                refine x_aload_n 184 C dX12_worth_184 rfl 1 rfl ?_
                refine x_getl 185 C dX12_worth_185 ff_X12_90 hM.1 ?_
                refine x_long ((addC (evS 1 f g (powC x y u) (tm i j)) (gauC (Int32.toInt64 (nI i * f (tm i j))) (Int32.toInt64 (nI i * g (tm i j))) (powC x y u (tm (i - 1) j)))).2) (by rw [eL19, mwC_8]; rfl) ?_
                refine x_lstore 188 C [(5, .long ((addC (evS 1 f g (powC x y u) (tm i j)) (gauC (Int32.toInt64 (nI i * f (tm i j))) (Int32.toInt64 (nI i * g (tm i j))) (powC x y u (tm (i - 1) j)))).2)), (3, .long ((addC (evS 1 f g (powC x y u) (tm i j)) (gauC (Int32.toInt64 (nI i * f (tm i j))) (Int32.toInt64 (nI i * g (tm i j))) (powC x y u (tm (i - 1) j)))).1)), (0, .ref A), (1, .int (nI e0)), (2, .int 1), (7, .int (nI i)), (8, .int (nI j)), (11, .long (Int32.toInt64 (nI i * f (tm i j)))), (13, .long (Int32.toInt64 (nI i * g (tm i j))))] dX12_worth_188 (by decide) rfl ?_
                refine x_iinc 190 C [(8, .int (nI (j + 1))), (5, .long ((addC (evS 1 f g (powC x y u) (tm i j)) (gauC (Int32.toInt64 (nI i * f (tm i j))) (Int32.toInt64 (nI i * g (tm i j))) (powC x y u (tm (i - 1) j)))).2)), (3, .long ((addC (evS 1 f g (powC x y u) (tm i j)) (gauC (Int32.toInt64 (nI i * f (tm i j))) (Int32.toInt64 (nI i * g (tm i j))) (powC x y u (tm (i - 1) j)))).1)), (0, .ref A), (1, .int (nI e0)), (2, .int 1), (7, .int (nI i)), (11, .long (Int32.toInt64 (nI i * f (tm i j)))), (13, .long (Int32.toInt64 (nI i * g (tm i j))))] dX12_worth_190 6 rfl (nI_add j 1) (by decide) rfl ?_
                refine x_goto 193 C 17 dX12_worth_193 (by decide) ?_
                refine x_sub [(0, .ref A), (1, .int (nI e0)), (2, .int 1), (3, .long ((addC (evS 1 f g (powC x y u) (tm i j)) (gauC (Int32.toInt64 (nI i * f (tm i j))) (Int32.toInt64 (nI i * g (tm i j))) (powC x y u (tm (i - 1) j)))).1)), (5, .long ((addC (evS 1 f g (powC x y u) (tm i j)) (gauC (Int32.toInt64 (nI i * f (tm i j))) (Int32.toInt64 (nI i * g (tm i j))) (powC x y u (tm (i - 1) j)))).2)), (7, .int (nI i)), (8, .int (nI (j + 1)))] [3, 4, 5, 2, 1, 6, 0] rfl ?_
                have hst : evS 1 f g (powC x y u) (tm i (j + 1)) = (addC (evS 1 f g (powC x y u) (tm i j)) (gauC (Int32.toInt64 (nI i * f (tm i j))) (Int32.toInt64 (nI i * g (tm i j))) (powC x y u (tm (i - 1) j)))) := hstep.2
                refine x_lv [(0, .ref A), (1, .int (nI e0)), (2, .int 1), (3, .long ((evS 1 f g (powC x y u) (tm i (j + 1))).1)), (5, .long ((evS 1 f g (powC x y u) (tm i (j + 1))).2)), (7, .int (nI i)), (8, .int (nI (j + 1)))] (by rw [hst]) ?_
                exact ih (j + 1) L19 (by omega) (by omega) (fun q hq => by rw [eL19, mwC_row _ _ hq, eL17, mwC_row _ _ hq, eL15, mwC_row _ _ hq]; exact hLr q hq) (fun j h7 h8 => by rw [eL19, mwC_ne _ _ h7 h8, eL17, mwC_ne _ _ h7 h8, eL15, mwC_ne _ _ h7 h8]; exact hLj j h7 h8)
              refine x_lc_ne 85 C 96 dX12_worth_85 dX12_worth_86 (by decide) (fun c11 => ?_) (fun c11 => ?_)
              · skip
                have hcrn := c11
                refine x_sub [(0, .ref A), (1, .int (nI e0)), (2, .int 1), (3, .long ((evS 1 f g (powC x y u) (tm i j)).1)), (5, .long ((evS 1 f g (powC x y u) (tm i j)).2)), (7, .int (nI i)), (8, .int (nI j)), (11, .long (Int32.toInt64 (nI i * f (tm i j)))), (13, .long (Int32.toInt64 (nI i * g (tm i j))))] [3, 4, 5, 6, 7, 8, 9, 1, 0] rfl ?_
                first | exact join96 () (fun h => hcrn h.1) | exact join96 () (fun h => hcin h.2)
              · skip
                have hcr0 := c11
                refine x_lload 89 C dX12_worth_89 0 rfl ?_
                refine x_lconst 91 C (v := 0) dX12_worth_91 rfl ?_
                refine x_lc_eq 92 C 190 dX12_worth_92 dX12_worth_93 (by decide) (fun c20 => ?_) (fun c20 => ?_)
                · skip
                  have hci0 := c20
                  refine x_iinc 190 C [(8, .int (nI (j + 1))), (13, .long (Int32.toInt64 (nI i * g (tm i j)))), (11, .long (Int32.toInt64 (nI i * f (tm i j)))), (9, .long (Int32.toInt64 (nI i))), (0, .ref A), (1, .int (nI e0)), (2, .int 1), (3, .long ((evS 1 f g (powC x y u) (tm i j)).1)), (5, .long ((evS 1 f g (powC x y u) (tm i j)).2)), (7, .int (nI i))] dX12_worth_190 9 rfl (nI_add j 1) (by decide) rfl ?_
                  refine x_goto 193 C 17 dX12_worth_193 (by decide) ?_
                  refine x_sub [(0, .ref A), (1, .int (nI e0)), (2, .int 1), (3, .long ((evS 1 f g (powC x y u) (tm i j)).1)), (5, .long ((evS 1 f g (powC x y u) (tm i j)).2)), (7, .int (nI i)), (8, .int (nI (j + 1)))] [4, 5, 6, 7, 8, 9, 0] rfl ?_
                  have hst : evS 1 f g (powC x y u) (tm i (j + 1)) = evS 1 f g (powC x y u) (tm i j) := evX_n hij hbf hbg ⟨hcr0, hci0⟩
                  refine x_lv [(0, .ref A), (1, .int (nI e0)), (2, .int 1), (3, .long ((evS 1 f g (powC x y u) (tm i (j + 1))).1)), (5, .long ((evS 1 f g (powC x y u) (tm i (j + 1))).2)), (7, .int (nI i)), (8, .int (nI (j + 1)))] (by rw [hst]) ?_
                  exact ih (j + 1) Lk (by omega) (by omega) hLr hLj
                · skip
                  have hcin := c20
                  refine x_sub [(0, .ref A), (1, .int (nI e0)), (2, .int 1), (3, .long ((evS 1 f g (powC x y u) (tm i j)).1)), (5, .long ((evS 1 f g (powC x y u) (tm i j)).2)), (7, .int (nI i)), (8, .int (nI j)), (11, .long (Int32.toInt64 (nI i * f (tm i j)))), (13, .long (Int32.toInt64 (nI i * g (tm i j))))] [3, 4, 5, 6, 7, 8, 9, 1, 0] rfl ?_
                  first | exact join96 () (fun h => hcrn h.1) | exact join96 () (fun h => hcin h.2)
        refine x_sub [(0, .ref A), (1, .int (nI e0)), (2, .int 1), (3, .long ((evS 1 f g (powC x y u) (t4 i)).1)), (5, .long ((evS 1 f g (powC x y u) (t4 i)).2)), (7, .int (nI i)), (8, .int 0)] [1, 2, 3, 4, 5, 6, 0] rfl ?_
        refine x_lv [(0, .ref A), (1, .int (nI e0)), (2, .int 1), (3, .long ((evS 1 f g (powC x y u) (tm i 0)).1)), (5, .long ((evS 1 f g (powC x y u) (tm i 0)).2)), (7, .int (nI i)), (8, .int 0)] (by rw [show t4 i = tm i 0 by unfold t4; exact if_neg (by omega)]) ?_
        exact loop17 5 0 Lk (by omega) (by omega) hLr hLj
  refine x_sub [(0, .ref A), (1, .int (nI e0)), (2, .int 1), (3, .long 0), (5, .long 0), (7, .int 0)] [3, 4, 5, 2, 1, 0] rfl ?_
  refine x_lv [(0, .ref A), (1, .int (nI e0)), (2, .int 1), (3, .long ((evS 1 f g (powC x y u) (t4 0)).1)), (5, .long ((evS 1 f g (powC x y u) (t4 0)).2)), (7, .int 0)] rfl ?_
  exact loop8 5 0 L (by omega) (by omega) (fun _ _ => rfl) (fun _ _ _ => rfl)
set_option maxHeartbeats 1000000 in
set_option maxRecDepth 100000 in
theorem t_X12_worth_2 (l : Launch) (D : xD) (z n : Nat) (G : xG) (I : xI) (L : xL) (A : Nat) (e0 : Nat) (f : Nat → Int32) (g : Nat → Int32) (x : xC) (y : xC) (u : Int64) (hM : shMo G A) (zA : z ≤ A) (hcf : cofOf I A e0 f g) (hbf : inT f) (hbg : inT g) (hp : powAt L A 0 u x) (hq : powAt L A 8 u y) (hx : hC x = x) (hy : hC y = y) (hu9 : L A 9 = u) (hu : ¬ u = 0) : xM0 l D z yX12_worth cX12_worth 15 none 4 96 [.ref A, .int (nI e0), .int 2] n G I L (xE none I (mwC L A (evS 2 f g (powC x y u) 10))) := by
  refine xM.of (by decide) (Nat.le_of_ble_eq_true rfl) (fun p e s m args below meth c C hnm hsz => ?_)
  refine x_lv [(0, .ref A), (1, .int (nI e0)), (2, .int 2)] rfl ?_
  refine x_lconst 0 C (v := 0) dX12_worth_0 rfl ?_
  refine x_lstore_n 1 C [(3, .long 0), (0, .ref A), (1, .int (nI e0)), (2, .int 2)] dX12_worth_1 rfl (by decide) rfl ?_
  refine x_lconst 2 C (v := 0) dX12_worth_2 rfl ?_
  refine x_lstore 3 C [(5, .long 0), (3, .long 0), (0, .ref A), (1, .int (nI e0)), (2, .int 2)] dX12_worth_3 (by decide) rfl ?_
  refine x_iconst 5 C (v := 0) dX12_worth_5 rfl ?_
  refine x_istore 6 C [(7, .int 0), (5, .long 0), (3, .long 0), (0, .ref A), (1, .int (nI e0)), (2, .int 2)] dX12_worth_6 (by decide) rfl ?_
  have loop8 : ∀ (fuel : Nat) (i : Nat) (Lk : xL), (i ≤ 4) → (5 ≤ i + fuel) → (∀ q, q ≠ A → Lk q = L q) → (∀ j, j ≠ 7 → j ≠ 8 → Lk A j = L A j) → X p l e (xRm 4 96 0 0) s m args below meth c D z 15 (MQ below (xQc D z n (xN n G (xE none I (mwC L A (evS 2 f g (powC x y u) 10))))) args s 0 0 (fun a => z ≤ a)) 0 0 n G I Lk 8 [(0, .ref A), (1, .int (nI e0)), (2, .int 2), (3, .long ((evS 2 f g (powC x y u) (t4 i)).1)), (5, .long ((evS 2 f g (powC x y u) (t4 i)).2)), (7, .int (nI i))] [] := by
    intro fuel
    induction fuel with
    | zero =>
      intro i Lk hi hf hLr hLj
      exact absurd hf (by omega)
    | succ fuel ih =>
      intro i Lk hi hf hLr hLj
      have ihO := ih
      refine x_iload 8 C dX12_worth_8 5 rfl ?_
      refine x_iconst 10 C (v := 4) dX12_worth_10 rfl ?_
      refine x_icmp_ge 11 C 202 dX12_worth_11 (by decide) (fun c1 => ?_) (fun c1 => ?_)
      · skip
        have c1n : 4 ≤ i := (nI_leI (a := 4) (b := i) (by omega) (by omega)).mp c1
        have c1m : ¬ (i < 4) := by omega
        have c1o := Int32.not_lt.mpr c1
        refine x_aload_n 202 C dX12_worth_202 rfl 0 rfl ?_
        refine x_lload_n 203 C dX12_worth_203 rfl 3 rfl ?_
        refine x_putl 204 C dX12_worth_204 ff_X12_87 rfl hM.1 (by omega) (fun L2 eL2 => ?_)
        refine x_aload_n 207 C dX12_worth_207 rfl 0 rfl ?_
        refine x_lload 208 C dX12_worth_208 4 rfl ?_
        refine x_putl 210 C dX12_worth_210 ff_X12_90 rfl hM.1 (by omega) (fun L3 eL3 => ?_)
        refine x_vret 213 C dX12_worth_213 rfl (Nat.le_refl _) (xN.intro ?_)
        have hi4 : i = 4 := by omega
        subst hi4
        subst eL2; subst eL3
        exact ⟨rfl, rfl, mw_fin hLr hLj _⟩
      · skip
        have c1n : ¬ (4 ≤ i) := fun h => c1 ((nI_leI (a := 4) (b := i) (by omega) (by omega)).mpr h)
        have c1m : i < 4 := by omega
        have c1o := Int32.not_le.mp c1
        refine x_iconst 14 C (v := 0) dX12_worth_14 rfl ?_
        refine x_istore 15 C [(8, .int 0), (0, .ref A), (1, .int (nI e0)), (2, .int 2), (3, .long ((evS 2 f g (powC x y u) (t4 i)).1)), (5, .long ((evS 2 f g (powC x y u) (t4 i)).2)), (7, .int (nI i))] dX12_worth_15 (by decide) rfl ?_
        have loop17 : ∀ (fuel : Nat) (j : Nat) (Lk : xL), (i + j ≤ 4) → (5 ≤ i + j + fuel) → (∀ q, q ≠ A → Lk q = L q) → (∀ j, j ≠ 7 → j ≠ 8 → Lk A j = L A j) → X p l e (xRm 4 96 0 0) s m args below meth c D z 15 (MQ below (xQc D z n (xN n G (xE none I (mwC L A (evS 2 f g (powC x y u) 10))))) args s 0 0 (fun a => z ≤ a)) 0 0 n G I Lk 17 [(0, .ref A), (1, .int (nI e0)), (2, .int 2), (3, .long ((evS 2 f g (powC x y u) (tm i j)).1)), (5, .long ((evS 2 f g (powC x y u) (tm i j)).2)), (7, .int (nI i)), (8, .int (nI j))] [] := by
          intro fuel
          induction fuel with
          | zero =>
            intro j Lk hj hf2 hLr hLj
            exact absurd hf2 (by omega)
          | succ fuel ih =>
            intro j Lk hj hf2 hLr hLj
            refine x_iload 17 C dX12_worth_17 5 rfl ?_
            refine x_iload 19 C dX12_worth_19 6 rfl ?_
            refine x_iadd 21 C dX12_worth_21 ?_
            refine x_int (nI (i + j)) (nI_add i j) ?_
            refine x_iconst 22 C (v := 4) dX12_worth_22 rfl ?_
            refine x_icmp_ge 23 C 196 dX12_worth_23 (by decide) (fun c4 => ?_) (fun c4 => ?_)
            · skip
              have c4n : 4 ≤ (i + j) := (nI_leI (a := 4) (b := (i + j)) (by omega) (by omega)).mp c4
              have c4m : ¬ ((i + j) < 4) := by omega
              have c4o := Int32.not_lt.mpr c4
              have hj4 : i + j = 4 := by omega
              refine x_iinc 196 C [(7, .int (nI (i + 1))), (0, .ref A), (1, .int (nI e0)), (2, .int 2), (3, .long ((evS 2 f g (powC x y u) (tm i j)).1)), (5, .long ((evS 2 f g (powC x y u) (tm i j)).2)), (8, .int (nI j))] dX12_worth_196 5 rfl (nI_add i 1) (by decide) rfl ?_
              refine x_goto 199 C 8 dX12_worth_199 (by decide) ?_
              refine x_sub [(0, .ref A), (1, .int (nI e0)), (2, .int 2), (3, .long ((evS 2 f g (powC x y u) (tm i j)).1)), (5, .long ((evS 2 f g (powC x y u) (tm i j)).2)), (7, .int (nI (i + 1)))] [1, 2, 3, 4, 5, 0] rfl ?_
              refine x_lv [(0, .ref A), (1, .int (nI e0)), (2, .int 2), (3, .long ((evS 2 f g (powC x y u) (t4 (i + 1))).1)), (5, .long ((evS 2 f g (powC x y u) (t4 (i + 1))).2)), (7, .int (nI (i + 1)))] (by rw [← tm_4 (by omega) hj4]) ?_
              exact ihO (i + 1) Lk (by omega) (by omega) hLr hLj
            · skip
              have c4n : ¬ (4 ≤ (i + j)) := fun h => c4 ((nI_leI (a := 4) (b := (i + j)) (by omega) (by omega)).mpr h)
              have c4m : (i + j) < 4 := by omega
              have c4o := Int32.not_le.mp c4
              have hij : i + j ≤ 3 := by omega
              have hpk := powAt_congr (M := Lk) (fun j _ _ => by rw [hLr _ (by omega)]) hp
              have hqk := powAt_congr (M := Lk) (fun j _ _ => by rw [hLr _ (by omega)]) hq
              have huk : Lk A 9 = u := (hLj 9 (by decide) (by decide)).trans hu9
              refine x_iload_n 26 C dX12_worth_26 rfl 2 rfl ?_
              refine x_if_ne 27 C 34 dX12_worth_27 (by decide) (fun _ => ?_) (fun c5 => absurd c5 (by decide))
              refine x_iload_n 34 C dX12_worth_34 rfl 2 rfl ?_
              refine x_iconst 35 C (v := 1) dX12_worth_35 rfl ?_
              refine x_icmp_ne 36 C 45 dX12_worth_36 (by decide) (fun _ => ?_) (fun c6 => absurd c6 (by decide))
              refine x_iload 45 C dX12_worth_45 6 rfl ?_
              refine x_i2l 47 C dX12_worth_47 ?_
              refine x_lstore 48 C [(9, .long (Int32.toInt64 (nI j))), (0, .ref A), (1, .int (nI e0)), (2, .int 2), (3, .long ((evS 2 f g (powC x y u) (tm i j)).1)), (5, .long ((evS 2 f g (powC x y u) (tm i j)).2)), (7, .int (nI i)), (8, .int (nI j))] dX12_worth_48 (by decide) rfl ?_
              refine x_lload 50 C dX12_worth_50 0 rfl ?_
              refine x_aload_n 52 C dX12_worth_52 rfl 1 rfl ?_
              refine x_iload_n 53 C dX12_worth_53 rfl 2 rfl ?_
              refine x_iload 54 C dX12_worth_54 6 rfl ?_
              refine x_iload 56 C dX12_worth_56 7 rfl ?_
              refine x_iconst 58 C (v := 0) dX12_worth_58 rfl ?_
              refine x_callVe 59 C dX12_worth_59 (As := [.int (nI e0), .int (nI i), .int (nI j), .int 0]) (rest := [.long (Int32.toInt64 (nI j))]) [.int (if 0 = 0 then f (tm i j) else g (tm i j)), .long (Int32.toInt64 (nI j))] (t_X12_coefficientOf_a l D z n G I Lk A e0 i j 0 f g hM (by first | assumption | omega | decide) (by first | omega | assumption | decide) (by first | omega | assumption | decide)) mt_X12_coefficientOf km_X12_108 ki_X12_coefficientOf ks_X12_coefficientOf hM.1 ⟨by decide, rfl⟩ rfl rfl (Nat.le_of_ble_eq_true rfl) ⟨⟨by decide, by decide⟩, by decide, by decide⟩ (fun I7 L8 eI7 eL8 => ?_)
              replace eI7 := eI7.symm; subst eI7
              replace eL8 := eL8.symm; subst eL8
              refine x_int (f (tm i j)) (if_pos rfl) ?_
              refine x_i2l 62 C dX12_worth_62 ?_
              refine x_lmul 63 C dX12_worth_63 ?_
              refine x_long (Int32.toInt64 (nI j * f (tm i j))) (mul64 (by omega) (hbf _ (tm_lt hij))) ?_
              refine x_lstore 64 C [(11, .long (Int32.toInt64 (nI j * f (tm i j)))), (9, .long (Int32.toInt64 (nI j))), (0, .ref A), (1, .int (nI e0)), (2, .int 2), (3, .long ((evS 2 f g (powC x y u) (tm i j)).1)), (5, .long ((evS 2 f g (powC x y u) (tm i j)).2)), (7, .int (nI i)), (8, .int (nI j))] dX12_worth_64 (by decide) rfl ?_
              refine x_lload 66 C dX12_worth_66 1 rfl ?_
              refine x_aload_n 68 C dX12_worth_68 rfl 2 rfl ?_
              refine x_iload_n 69 C dX12_worth_69 rfl 3 rfl ?_
              refine x_iload 70 C dX12_worth_70 7 rfl ?_
              refine x_iload 72 C dX12_worth_72 8 rfl ?_
              refine x_iconst 74 C (v := 1) dX12_worth_74 rfl ?_
              refine x_callVe 75 C dX12_worth_75 (As := [.int (nI e0), .int (nI i), .int (nI j), .int 1]) (rest := [.long (Int32.toInt64 (nI j))]) [.int (if 1 = 0 then f (tm i j) else g (tm i j)), .long (Int32.toInt64 (nI j))] (t_X12_coefficientOf_a l D z n G I Lk A e0 i j 1 f g hM (by first | assumption | omega | decide) (by first | omega | assumption | decide) (by first | omega | assumption | decide)) mt_X12_coefficientOf km_X12_108 ki_X12_coefficientOf ks_X12_coefficientOf hM.1 ⟨by decide, rfl⟩ rfl rfl (Nat.le_of_ble_eq_true rfl) ⟨⟨by decide, by decide⟩, by decide, by decide⟩ (fun I9 L10 eI9 eL10 => ?_)
              replace eI9 := eI9.symm; subst eI9
              replace eL10 := eL10.symm; subst eL10
              refine x_int (g (tm i j)) (if_neg (by decide)) ?_
              refine x_i2l 78 C dX12_worth_78 ?_
              refine x_lmul 79 C dX12_worth_79 ?_
              refine x_long (Int32.toInt64 (nI j * g (tm i j))) (mul64 (by omega) (hbg _ (tm_lt hij))) ?_
              refine x_lstore 80 C [(13, .long (Int32.toInt64 (nI j * g (tm i j)))), (11, .long (Int32.toInt64 (nI j * f (tm i j)))), (9, .long (Int32.toInt64 (nI j))), (0, .ref A), (1, .int (nI e0)), (2, .int 2), (3, .long ((evS 2 f g (powC x y u) (tm i j)).1)), (5, .long ((evS 2 f g (powC x y u) (tm i j)).2)), (7, .int (nI i)), (8, .int (nI j))] dX12_worth_80 (by decide) rfl ?_
              refine x_lload 82 C dX12_worth_82 1 rfl ?_
              refine x_lconst 84 C (v := 0) dX12_worth_84 rfl ?_
              have join96 : ∀ (u0 : Unit), (¬ (Int32.toInt64 (nI j * f (tm i j)) = 0 ∧ Int32.toInt64 (nI j * g (tm i j)) = 0)) → X p l e (xRm 4 96 0 0) s m args below meth c D z 15 (MQ below (xQc D z n (xN n G (xE none I (mwC L A (evS 2 f g (powC x y u) 10))))) args s 0 0 (fun a => z ≤ a)) 0 0 n G I Lk 96 [(0, .ref A), (1, .int (nI e0)), (2, .int 2), (3, .long ((evS 2 f g (powC x y u) (tm i j)).1)), (5, .long ((evS 2 f g (powC x y u) (tm i j)).2)), (7, .int (nI i)), (8, .int (nI j)), (11, .long (Int32.toInt64 (nI j * f (tm i j)))), (13, .long (Int32.toInt64 (nI j * g (tm i j))))] [] := by
                intro u0 hnz
                have hstep := evY_s hij (pw := (powC x y u)) hnz
                have h1 := hstep.1
                refine x_aload_n 96 C dX12_worth_96 rfl 0 rfl ?_
                refine x_iload_n 97 C dX12_worth_97 rfl 2 rfl ?_
                refine x_iconst 98 C (v := 1) dX12_worth_98 rfl ?_
                refine x_icmp_ne 99 C 109 dX12_worth_99 (by decide) (fun _ => ?_) (fun c12 => absurd c12 (by decide))
                refine x_iload 109 C dX12_worth_109 5 rfl ?_
                refine x_iload_n 111 C dX12_worth_111 rfl 2 rfl ?_
                refine x_iconst 112 C (v := 2) dX12_worth_112 rfl ?_
                refine x_icmp_ne 113 C 123 dX12_worth_113 (by decide) (fun c13 => absurd (by decide) c13) (fun _ => ?_)
                refine x_iload 116 C dX12_worth_116 6 rfl ?_
                refine x_iconst 118 C (v := 1) dX12_worth_118 rfl ?_
                refine x_isub 119 C dX12_worth_119 ?_
                refine x_int (nI (j - 1)) (nI_sub (a := j) (b := 1) (by omega)) ?_
                refine x_goto 120 C 125 dX12_worth_120 (by decide) ?_
                refine x_callVe 125 C dX12_worth_125 (As := [.int (nI i), .int (nI (j - 1))]) (rest := []) [] (t_X12_product l D z n G I Lk A i (j - 1) x y u hM (by omega) (by first | omega | assumption | decide) hpk hqk hx hy huk (by first | assumption | omega | decide)) mt_X12_product km_X12_112 ki_X12_product ks_X12_product hM.1 ⟨by decide, rfl⟩ rfl rfl (Nat.le_of_ble_eq_true rfl) ⟨⟨by decide, by decide⟩, by decide, by decide⟩ (fun I14 L15 eI14 eL15 => ?_)
                replace eI14 := eI14.symm; subst eI14
                refine x_aload_n 128 C dX12_worth_128 rfl 0 rfl ?_
                refine x_lload 129 C dX12_worth_129 7 rfl ?_
                refine x_aload_n 131 C dX12_worth_131 rfl 0 rfl ?_
                refine x_getl 132 C dX12_worth_132 ff_X12_87 hM.1 ?_
                refine x_long ((powC x y u (tm i (j - 1))).1) (by rw [eL15, mwC_7]) ?_
                refine x_lmul 135 C dX12_worth_135 ?_
                refine x_lload 136 C dX12_worth_136 8 rfl ?_
                refine x_aload_n 138 C dX12_worth_138 rfl 0 rfl ?_
                refine x_getl 139 C dX12_worth_139 ff_X12_90 hM.1 ?_
                refine x_long ((powC x y u (tm i (j - 1))).2) (by rw [eL15, mwC_8]) ?_
                refine x_lmul 142 C dX12_worth_142 ?_
                refine x_lsub 143 C dX12_worth_143 ?_
                refine x_lload 144 C dX12_worth_144 7 rfl ?_
                refine x_aload_n 146 C dX12_worth_146 rfl 0 rfl ?_
                refine x_getl 147 C dX12_worth_147 ff_X12_90 hM.1 ?_
                refine x_long ((powC x y u (tm i (j - 1))).2) (by rw [eL15, mwC_8]) ?_
                refine x_lmul 150 C dX12_worth_150 ?_
                refine x_lload 151 C dX12_worth_151 8 rfl ?_
                refine x_aload_n 153 C dX12_worth_153 rfl 0 rfl ?_
                refine x_getl 154 C dX12_worth_154 ff_X12_87 hM.1 ?_
                refine x_long ((powC x y u (tm i (j - 1))).1) (by rw [eL15, mwC_7]) ?_
                refine x_lmul 157 C dX12_worth_157 ?_
                refine x_ladd 158 C dX12_worth_158 ?_
                refine x_callVe 159 C dX12_worth_159 (As := [.long (((Int32.toInt64 (nI j * f (tm i j))) * ((powC x y u (tm i (j - 1))).1)) - ((Int32.toInt64 (nI j * g (tm i j))) * ((powC x y u (tm i (j - 1))).2))), .long (((Int32.toInt64 (nI j * f (tm i j))) * ((powC x y u (tm i (j - 1))).2)) + ((Int32.toInt64 (nI j * g (tm i j))) * ((powC x y u (tm i (j - 1))).1)))]) (rest := []) [] (t_X12_hold l D z n G I L15 A (((Int32.toInt64 (nI j * f (tm i j))) * ((powC x y u (tm i (j - 1))).1)) - ((Int32.toInt64 (nI j * g (tm i j))) * ((powC x y u (tm i (j - 1))).2))) (((Int32.toInt64 (nI j * f (tm i j))) * ((powC x y u (tm i (j - 1))).2)) + ((Int32.toInt64 (nI j * g (tm i j))) * ((powC x y u (tm i (j - 1))).1))) hM (by omega)) mt_X12_hold km_X12_93 ki_X12_hold ks_X12_hold hM.1 ⟨by decide, rfl⟩ rfl rfl (Nat.le_of_ble_eq_true rfl) ⟨⟨by decide, by decide⟩, by decide, by decide⟩ (fun I16 L17 eI16 eL17 => ?_)
                replace eI16 := eI16.symm; subst eI16
                refine x_aload_n 162 C dX12_worth_162 rfl 0 rfl ?_
                refine x_lload_n 163 C dX12_worth_163 rfl 3 rfl ?_
                refine x_aload_n 164 C dX12_worth_164 rfl 0 rfl ?_
                refine x_getl 165 C dX12_worth_165 ff_X12_87 hM.1 ?_
                refine x_long ((gauC (Int32.toInt64 (nI j * f (tm i j))) (Int32.toInt64 (nI j * g (tm i j))) (powC x y u (tm i (j - 1)))).1) (by rw [eL17, mwC_7]; rfl) ?_
                refine x_ladd 168 C dX12_worth_168 ?_
                refine x_lload 169 C dX12_worth_169 4 rfl ?_
                refine x_aload_n 171 C dX12_worth_171 rfl 0 rfl ?_
                refine x_getl 172 C dX12_worth_172 ff_X12_90 hM.1 ?_
                refine x_long ((gauC (Int32.toInt64 (nI j * f (tm i j))) (Int32.toInt64 (nI j * g (tm i j))) (powC x y u (tm i (j - 1)))).2) (by rw [eL17, mwC_8]; rfl) ?_
                refine x_ladd 175 C dX12_worth_175 ?_
                refine x_callVe 176 C dX12_worth_176 (As := [.long (((evS 2 f g (powC x y u) (tm i j)).1) + ((gauC (Int32.toInt64 (nI j * f (tm i j))) (Int32.toInt64 (nI j * g (tm i j))) (powC x y u (tm i (j - 1)))).1)), .long (((evS 2 f g (powC x y u) (tm i j)).2) + ((gauC (Int32.toInt64 (nI j * f (tm i j))) (Int32.toInt64 (nI j * g (tm i j))) (powC x y u (tm i (j - 1)))).2))]) (rest := []) [] (t_X12_hold l D z n G I L17 A (((evS 2 f g (powC x y u) (tm i j)).1) + ((gauC (Int32.toInt64 (nI j * f (tm i j))) (Int32.toInt64 (nI j * g (tm i j))) (powC x y u (tm i (j - 1)))).1)) (((evS 2 f g (powC x y u) (tm i j)).2) + ((gauC (Int32.toInt64 (nI j * f (tm i j))) (Int32.toInt64 (nI j * g (tm i j))) (powC x y u (tm i (j - 1)))).2)) hM (by omega)) mt_X12_hold km_X12_93 ki_X12_hold ks_X12_hold hM.1 ⟨by decide, rfl⟩ rfl rfl (Nat.le_of_ble_eq_true rfl) ⟨⟨by decide, by decide⟩, by decide, by decide⟩ (fun I18 L19 eI18 eL19 => ?_)
                replace eI18 := eI18.symm; subst eI18
                refine x_aload_n 179 C dX12_worth_179 rfl 0 rfl ?_
                refine x_getl 180 C dX12_worth_180 ff_X12_87 hM.1 ?_
                refine x_long ((addC (evS 2 f g (powC x y u) (tm i j)) (gauC (Int32.toInt64 (nI j * f (tm i j))) (Int32.toInt64 (nI j * g (tm i j))) (powC x y u (tm i (j - 1))))).1) (by rw [eL19, mwC_7]; rfl) ?_
                refine x_lstore_n 183 C [(3, .long ((addC (evS 2 f g (powC x y u) (tm i j)) (gauC (Int32.toInt64 (nI j * f (tm i j))) (Int32.toInt64 (nI j * g (tm i j))) (powC x y u (tm i (j - 1))))).1)), (0, .ref A), (1, .int (nI e0)), (2, .int 2), (5, .long ((evS 2 f g (powC x y u) (tm i j)).2)), (7, .int (nI i)), (8, .int (nI j)), (11, .long (Int32.toInt64 (nI j * f (tm i j)))), (13, .long (Int32.toInt64 (nI j * g (tm i j))))] dX12_worth_183 rfl (by decide) rfl ?_
                refine x_aload_n 184 C dX12_worth_184 rfl 1 rfl ?_
                refine x_getl 185 C dX12_worth_185 ff_X12_90 hM.1 ?_
                refine x_long ((addC (evS 2 f g (powC x y u) (tm i j)) (gauC (Int32.toInt64 (nI j * f (tm i j))) (Int32.toInt64 (nI j * g (tm i j))) (powC x y u (tm i (j - 1))))).2) (by rw [eL19, mwC_8]; rfl) ?_
                refine x_lstore 188 C [(5, .long ((addC (evS 2 f g (powC x y u) (tm i j)) (gauC (Int32.toInt64 (nI j * f (tm i j))) (Int32.toInt64 (nI j * g (tm i j))) (powC x y u (tm i (j - 1))))).2)), (3, .long ((addC (evS 2 f g (powC x y u) (tm i j)) (gauC (Int32.toInt64 (nI j * f (tm i j))) (Int32.toInt64 (nI j * g (tm i j))) (powC x y u (tm i (j - 1))))).1)), (0, .ref A), (1, .int (nI e0)), (2, .int 2), (7, .int (nI i)), (8, .int (nI j)), (11, .long (Int32.toInt64 (nI j * f (tm i j)))), (13, .long (Int32.toInt64 (nI j * g (tm i j))))] dX12_worth_188 (by decide) rfl ?_
                refine x_iinc 190 C [(8, .int (nI (j + 1))), (5, .long ((addC (evS 2 f g (powC x y u) (tm i j)) (gauC (Int32.toInt64 (nI j * f (tm i j))) (Int32.toInt64 (nI j * g (tm i j))) (powC x y u (tm i (j - 1))))).2)), (3, .long ((addC (evS 2 f g (powC x y u) (tm i j)) (gauC (Int32.toInt64 (nI j * f (tm i j))) (Int32.toInt64 (nI j * g (tm i j))) (powC x y u (tm i (j - 1))))).1)), (0, .ref A), (1, .int (nI e0)), (2, .int 2), (7, .int (nI i)), (11, .long (Int32.toInt64 (nI j * f (tm i j)))), (13, .long (Int32.toInt64 (nI j * g (tm i j))))] dX12_worth_190 6 rfl (nI_add j 1) (by decide) rfl ?_
                refine x_goto 193 C 17 dX12_worth_193 (by decide) ?_
                refine x_sub [(0, .ref A), (1, .int (nI e0)), (2, .int 2), (3, .long ((addC (evS 2 f g (powC x y u) (tm i j)) (gauC (Int32.toInt64 (nI j * f (tm i j))) (Int32.toInt64 (nI j * g (tm i j))) (powC x y u (tm i (j - 1))))).1)), (5, .long ((addC (evS 2 f g (powC x y u) (tm i j)) (gauC (Int32.toInt64 (nI j * f (tm i j))) (Int32.toInt64 (nI j * g (tm i j))) (powC x y u (tm i (j - 1))))).2)), (7, .int (nI i)), (8, .int (nI (j + 1)))] [3, 4, 5, 2, 1, 6, 0] rfl ?_
                have hst : evS 2 f g (powC x y u) (tm i (j + 1)) = (addC (evS 2 f g (powC x y u) (tm i j)) (gauC (Int32.toInt64 (nI j * f (tm i j))) (Int32.toInt64 (nI j * g (tm i j))) (powC x y u (tm i (j - 1))))) := hstep.2
                refine x_lv [(0, .ref A), (1, .int (nI e0)), (2, .int 2), (3, .long ((evS 2 f g (powC x y u) (tm i (j + 1))).1)), (5, .long ((evS 2 f g (powC x y u) (tm i (j + 1))).2)), (7, .int (nI i)), (8, .int (nI (j + 1)))] (by rw [hst]) ?_
                exact ih (j + 1) L19 (by omega) (by omega) (fun q hq => by rw [eL19, mwC_row _ _ hq, eL17, mwC_row _ _ hq, eL15, mwC_row _ _ hq]; exact hLr q hq) (fun j h7 h8 => by rw [eL19, mwC_ne _ _ h7 h8, eL17, mwC_ne _ _ h7 h8, eL15, mwC_ne _ _ h7 h8]; exact hLj j h7 h8)
              refine x_lc_ne 85 C 96 dX12_worth_85 dX12_worth_86 (by decide) (fun c11 => ?_) (fun c11 => ?_)
              · skip
                have hcrn := c11
                refine x_sub [(0, .ref A), (1, .int (nI e0)), (2, .int 2), (3, .long ((evS 2 f g (powC x y u) (tm i j)).1)), (5, .long ((evS 2 f g (powC x y u) (tm i j)).2)), (7, .int (nI i)), (8, .int (nI j)), (11, .long (Int32.toInt64 (nI j * f (tm i j)))), (13, .long (Int32.toInt64 (nI j * g (tm i j))))] [3, 4, 5, 6, 7, 8, 9, 1, 0] rfl ?_
                first | exact join96 () (fun h => hcrn h.1) | exact join96 () (fun h => hcin h.2)
              · skip
                have hcr0 := c11
                refine x_lload 89 C dX12_worth_89 0 rfl ?_
                refine x_lconst 91 C (v := 0) dX12_worth_91 rfl ?_
                refine x_lc_eq 92 C 190 dX12_worth_92 dX12_worth_93 (by decide) (fun c20 => ?_) (fun c20 => ?_)
                · skip
                  have hci0 := c20
                  refine x_iinc 190 C [(8, .int (nI (j + 1))), (13, .long (Int32.toInt64 (nI j * g (tm i j)))), (11, .long (Int32.toInt64 (nI j * f (tm i j)))), (9, .long (Int32.toInt64 (nI j))), (0, .ref A), (1, .int (nI e0)), (2, .int 2), (3, .long ((evS 2 f g (powC x y u) (tm i j)).1)), (5, .long ((evS 2 f g (powC x y u) (tm i j)).2)), (7, .int (nI i))] dX12_worth_190 9 rfl (nI_add j 1) (by decide) rfl ?_
                  refine x_goto 193 C 17 dX12_worth_193 (by decide) ?_
                  refine x_sub [(0, .ref A), (1, .int (nI e0)), (2, .int 2), (3, .long ((evS 2 f g (powC x y u) (tm i j)).1)), (5, .long ((evS 2 f g (powC x y u) (tm i j)).2)), (7, .int (nI i)), (8, .int (nI (j + 1)))] [4, 5, 6, 7, 8, 9, 0] rfl ?_
                  have hst : evS 2 f g (powC x y u) (tm i (j + 1)) = evS 2 f g (powC x y u) (tm i j) := evY_n hij hbf hbg ⟨hcr0, hci0⟩
                  refine x_lv [(0, .ref A), (1, .int (nI e0)), (2, .int 2), (3, .long ((evS 2 f g (powC x y u) (tm i (j + 1))).1)), (5, .long ((evS 2 f g (powC x y u) (tm i (j + 1))).2)), (7, .int (nI i)), (8, .int (nI (j + 1)))] (by rw [hst]) ?_
                  exact ih (j + 1) Lk (by omega) (by omega) hLr hLj
                · skip
                  have hcin := c20
                  refine x_sub [(0, .ref A), (1, .int (nI e0)), (2, .int 2), (3, .long ((evS 2 f g (powC x y u) (tm i j)).1)), (5, .long ((evS 2 f g (powC x y u) (tm i j)).2)), (7, .int (nI i)), (8, .int (nI j)), (11, .long (Int32.toInt64 (nI j * f (tm i j)))), (13, .long (Int32.toInt64 (nI j * g (tm i j))))] [3, 4, 5, 6, 7, 8, 9, 1, 0] rfl ?_
                  first | exact join96 () (fun h => hcrn h.1) | exact join96 () (fun h => hcin h.2)
        refine x_sub [(0, .ref A), (1, .int (nI e0)), (2, .int 2), (3, .long ((evS 2 f g (powC x y u) (t4 i)).1)), (5, .long ((evS 2 f g (powC x y u) (t4 i)).2)), (7, .int (nI i)), (8, .int 0)] [1, 2, 3, 4, 5, 6, 0] rfl ?_
        refine x_lv [(0, .ref A), (1, .int (nI e0)), (2, .int 2), (3, .long ((evS 2 f g (powC x y u) (tm i 0)).1)), (5, .long ((evS 2 f g (powC x y u) (tm i 0)).2)), (7, .int (nI i)), (8, .int 0)] (by rw [show t4 i = tm i 0 by unfold t4; exact if_neg (by omega)]) ?_
        exact loop17 5 0 Lk (by omega) (by omega) hLr hLj
  refine x_sub [(0, .ref A), (1, .int (nI e0)), (2, .int 2), (3, .long 0), (5, .long 0), (7, .int 0)] [3, 4, 5, 2, 1, 0] rfl ?_
  refine x_lv [(0, .ref A), (1, .int (nI e0)), (2, .int 2), (3, .long ((evS 2 f g (powC x y u) (t4 0)).1)), (5, .long ((evS 2 f g (powC x y u) (t4 0)).2)), (7, .int 0)] rfl ?_
  exact loop8 5 0 L (by omega) (by omega) (fun _ _ => rfl) (fun _ _ _ => rfl)
