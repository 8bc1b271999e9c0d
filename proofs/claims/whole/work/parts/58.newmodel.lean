theorem dX12_init_0 : decode cX12_init 0 = .ok (.aload_n 0, 1) := by decide +kernel
theorem dX12_init_1 : decode cX12_init 1 = .ok (.invokespecial 1, 3) := by decide +kernel
theorem dX12_init_4 : decode cX12_init 4 = .ok (.aload_n 0, 1) := by decide +kernel
theorem dX12_init_5 : decode cX12_init 5 = .ok (.sipush 158, 3) := by decide +kernel
theorem dX12_init_8 : decode cX12_init 8 = .ok (.newarray .int, 2) := by decide +kernel
theorem dX12_init_10 : decode cX12_init 10 = .ok (.putfield 7, 3) := by decide +kernel
theorem dX12_init_13 : decode cX12_init 13 = .ok (.aload_n 0, 1) := by decide +kernel
theorem dX12_init_14 : decode cX12_init 14 = .ok (.sipush 632, 3) := by decide +kernel
theorem dX12_init_17 : decode cX12_init 17 = .ok (.newarray .int, 2) := by decide +kernel
theorem dX12_init_19 : decode cX12_init 19 = .ok (.putfield 13, 3) := by decide +kernel
theorem dX12_init_22 : decode cX12_init 22 = .ok (.aload_n 0, 1) := by decide +kernel
theorem dX12_init_23 : decode cX12_init 23 = .ok (.sipush 316, 3) := by decide +kernel
theorem dX12_init_26 : decode cX12_init 26 = .ok (.newarray .int, 2) := by decide +kernel
theorem dX12_init_28 : decode cX12_init 28 = .ok (.putfield 16, 3) := by decide +kernel
theorem dX12_init_31 : decode cX12_init 31 = .ok (.aload_n 0, 1) := by decide +kernel
theorem dX12_init_32 : decode cX12_init 32 = .ok (.iconst 2, 1) := by decide +kernel
theorem dX12_init_33 : decode cX12_init 33 = .ok (.newarray .boolean, 2) := by decide +kernel
theorem dX12_init_35 : decode cX12_init 35 = .ok (.putfield 19, 3) := by decide +kernel
theorem dX12_init_38 : decode cX12_init 38 = .ok (.aload_n 0, 1) := by decide +kernel
theorem dX12_init_39 : decode cX12_init 39 = .ok (.bipush 60, 2) := by decide +kernel
theorem dX12_init_41 : decode cX12_init 41 = .ok (.newarray .int, 2) := by decide +kernel
theorem dX12_init_43 : decode cX12_init 43 = .ok (.putfield 23, 3) := by decide +kernel
theorem dX12_init_46 : decode cX12_init 46 = .ok (.aload_n 0, 1) := by decide +kernel
theorem dX12_init_47 : decode cX12_init 47 = .ok (.ldc2_w 26, 3) := by decide +kernel
theorem dX12_init_50 : decode cX12_init 50 = .ok (.putfield 28, 3) := by decide +kernel
theorem dX12_init_53 : decode cX12_init 53 = .ok (.aload_n 0, 1) := by decide +kernel
theorem dX12_init_54 : decode cX12_init 54 = .ok (.bipush 16, 2) := by decide +kernel
theorem dX12_init_56 : decode cX12_init 56 = .ok (.newarray .long, 2) := by decide +kernel
theorem dX12_init_58 : decode cX12_init 58 = .ok (.putfield 32, 3) := by decide +kernel
theorem dX12_init_61 : decode cX12_init 61 = .ok (.aload_n 0, 1) := by decide +kernel
theorem dX12_init_62 : decode cX12_init 62 = .ok (.iconst 4, 1) := by decide +kernel
theorem dX12_init_63 : decode cX12_init 63 = .ok (.newarray .long, 2) := by decide +kernel
theorem dX12_init_65 : decode cX12_init 65 = .ok (.putfield 36, 3) := by decide +kernel
theorem dX12_init_68 : decode cX12_init 68 = .ok (.aload_n 0, 1) := by decide +kernel
theorem dX12_init_69 : decode cX12_init 69 = .ok (.bipush 12, 2) := by decide +kernel
theorem dX12_init_71 : decode cX12_init 71 = .ok (.newarray .long, 2) := by decide +kernel
theorem dX12_init_73 : decode cX12_init 73 = .ok (.putfield 39, 3) := by decide +kernel
theorem dX12_init_76 : decode cX12_init 76 = .ok (.aload_n 0, 1) := by decide +kernel
theorem dX12_init_77 : decode cX12_init 77 = .ok (.bipush 12, 2) := by decide +kernel
theorem dX12_init_79 : decode cX12_init 79 = .ok (.newarray .long, 2) := by decide +kernel
theorem dX12_init_81 : decode cX12_init 81 = .ok (.putfield 42, 3) := by decide +kernel
theorem dX12_init_84 : decode cX12_init 84 = .ok (.aload_n 0, 1) := by decide +kernel
theorem dX12_init_85 : decode cX12_init 85 = .ok (.bipush 12, 2) := by decide +kernel
theorem dX12_init_87 : decode cX12_init 87 = .ok (.newarray .long, 2) := by decide +kernel
theorem dX12_init_89 : decode cX12_init 89 = .ok (.putfield 45, 3) := by decide +kernel
theorem dX12_init_92 : decode cX12_init 92 = .ok (.aload_n 0, 1) := by decide +kernel
theorem dX12_init_93 : decode cX12_init 93 = .ok (.iconst 4, 1) := by decide +kernel
theorem dX12_init_94 : decode cX12_init 94 = .ok (.newarray .long, 2) := by decide +kernel
theorem dX12_init_96 : decode cX12_init 96 = .ok (.putfield 48, 3) := by decide +kernel
theorem dX12_init_99 : decode cX12_init 99 = .ok (.aload_n 0, 1) := by decide +kernel
theorem dX12_init_100 : decode cX12_init 100 = .ok (.iconst 4, 1) := by decide +kernel
theorem dX12_init_101 : decode cX12_init 101 = .ok (.newarray .long, 2) := by decide +kernel
theorem dX12_init_103 : decode cX12_init 103 = .ok (.putfield 51, 3) := by decide +kernel
theorem dX12_init_106 : decode cX12_init 106 = .ok (.aload_n 0, 1) := by decide +kernel
theorem dX12_init_107 : decode cX12_init 107 = .ok (.iconst 2, 1) := by decide +kernel
theorem dX12_init_108 : decode cX12_init 108 = .ok (.newarray .long, 2) := by decide +kernel
theorem dX12_init_110 : decode cX12_init 110 = .ok (.putfield 54, 3) := by decide +kernel
theorem dX12_init_113 : decode cX12_init 113 = .ok (.aload_n 0, 1) := by decide +kernel
theorem dX12_init_114 : decode cX12_init 114 = .ok (.bipush 20, 2) := by decide +kernel
theorem dX12_init_116 : decode cX12_init 116 = .ok (.newarray .int, 2) := by decide +kernel
theorem dX12_init_118 : decode cX12_init 118 = .ok (.putfield 57, 3) := by decide +kernel
theorem dX12_init_121 : decode cX12_init 121 = .ok (.aload_n 0, 1) := by decide +kernel
theorem dX12_init_122 : decode cX12_init 122 = .ok (.getfield 7, 3) := by decide +kernel
theorem dX12_init_125 : decode cX12_init 125 = .ok (.iconst 0, 1) := by decide +kernel
theorem dX12_init_126 : decode cX12_init 126 = .ok (.iconst 1, 1) := by decide +kernel
theorem dX12_init_127 : decode cX12_init 127 = .ok (.iconst 0, 1) := by decide +kernel
theorem dX12_init_128 : decode cX12_init 128 = .ok (.invokestatic 60, 3) := by decide +kernel
theorem dX12_init_131 : decode cX12_init 131 = .ok (.iconst 1, 1) := by decide +kernel
theorem dX12_init_132 : decode cX12_init 132 = .ok (.iastore, 1) := by decide +kernel
theorem dX12_init_133 : decode cX12_init 133 = .ok (.aload_n 0, 1) := by decide +kernel
theorem dX12_init_134 : decode cX12_init 134 = .ok (.getfield 7, 3) := by decide +kernel
theorem dX12_init_137 : decode cX12_init 137 = .ok (.iconst 1, 1) := by decide +kernel
theorem dX12_init_138 : decode cX12_init 138 = .ok (.iconst 0, 1) := by decide +kernel
theorem dX12_init_139 : decode cX12_init 139 = .ok (.iconst 1, 1) := by decide +kernel
theorem dX12_init_140 : decode cX12_init 140 = .ok (.invokestatic 60, 3) := by decide +kernel
theorem dX12_init_143 : decode cX12_init 143 = .ok (.iconst 1, 1) := by decide +kernel
theorem dX12_init_144 : decode cX12_init 144 = .ok (.iastore, 1) := by decide +kernel
theorem dX12_init_145 : decode cX12_init 145 = .ok (.aload_n 0, 1) := by decide +kernel
theorem dX12_init_146 : decode cX12_init 146 = .ok (.getfield 7, 3) := by decide +kernel
theorem dX12_init_149 : decode cX12_init 149 = .ok (.bipush 40, 2) := by decide +kernel
theorem dX12_init_151 : decode cX12_init 151 = .ok (.iconst 1, 1) := by decide +kernel
theorem dX12_init_152 : decode cX12_init 152 = .ok (.iastore, 1) := by decide +kernel
theorem dX12_init_153 : decode cX12_init 153 = .ok (.aload_n 0, 1) := by decide +kernel
theorem dX12_init_154 : decode cX12_init 154 = .ok (.getfield 7, 3) := by decide +kernel
theorem dX12_init_157 : decode cX12_init 157 = .ok (.bipush 41, 2) := by decide +kernel
theorem dX12_init_159 : decode cX12_init 159 = .ok (.iconst 1, 1) := by decide +kernel
theorem dX12_init_160 : decode cX12_init 160 = .ok (.iastore, 1) := by decide +kernel
theorem dX12_init_161 : decode cX12_init 161 = .ok (.aload_n 0, 1) := by decide +kernel
theorem dX12_init_162 : decode cX12_init 162 = .ok (.getfield 7, 3) := by decide +kernel
theorem dX12_init_165 : decode cX12_init 165 = .ok (.bipush 42, 2) := by decide +kernel
theorem dX12_init_167 : decode cX12_init 167 = .ok (.bipush 64, 2) := by decide +kernel
theorem dX12_init_169 : decode cX12_init 169 = .ok (.iastore, 1) := by decide +kernel
theorem dX12_init_170 : decode cX12_init 170 = .ok (.aload_n 0, 1) := by decide +kernel
theorem dX12_init_171 : decode cX12_init 171 = .ok (.getfield 7, 3) := by decide +kernel
theorem dX12_init_174 : decode cX12_init 174 = .ok (.bipush 43, 2) := by decide +kernel
theorem dX12_init_176 : decode cX12_init 176 = .ok (.sipush 128, 3) := by decide +kernel
theorem dX12_init_179 : decode cX12_init 179 = .ok (.iastore, 1) := by decide +kernel
theorem dX12_init_180 : decode cX12_init 180 = .ok (.aload_n 0, 1) := by decide +kernel
theorem dX12_init_181 : decode cX12_init 181 = .ok (.getfield 7, 3) := by decide +kernel
theorem dX12_init_184 : decode cX12_init 184 = .ok (.bipush 44, 2) := by decide +kernel
theorem dX12_init_186 : decode cX12_init 186 = .ok (.iconst 3, 1) := by decide +kernel
theorem dX12_init_187 : decode cX12_init 187 = .ok (.iastore, 1) := by decide +kernel
theorem dX12_init_188 : decode cX12_init 188 = .ok (.aload_n 0, 1) := by decide +kernel
theorem dX12_init_189 : decode cX12_init 189 = .ok (.getfield 7, 3) := by decide +kernel
theorem dX12_init_192 : decode cX12_init 192 = .ok (.bipush 45, 2) := by decide +kernel
theorem dX12_init_194 : decode cX12_init 194 = .ok (.iconst 4, 1) := by decide +kernel
theorem dX12_init_195 : decode cX12_init 195 = .ok (.iastore, 1) := by decide +kernel
theorem dX12_init_196 : decode cX12_init 196 = .ok (.aload_n 0, 1) := by decide +kernel
theorem dX12_init_197 : decode cX12_init 197 = .ok (.getfield 7, 3) := by decide +kernel
theorem dX12_init_200 : decode cX12_init 200 = .ok (.bipush 46, 2) := by decide +kernel
theorem dX12_init_202 : decode cX12_init 202 = .ok (.bipush 100, 2) := by decide +kernel
theorem dX12_init_204 : decode cX12_init 204 = .ok (.iastore, 1) := by decide +kernel
theorem dX12_init_205 : decode cX12_init 205 = .ok (.aload_n 0, 1) := by decide +kernel
theorem dX12_init_206 : decode cX12_init 206 = .ok (.getfield 7, 3) := by decide +kernel
theorem dX12_init_209 : decode cX12_init 209 = .ok (.bipush 47, 2) := by decide +kernel
theorem dX12_init_211 : decode cX12_init 211 = .ok (.bipush 10, 2) := by decide +kernel
theorem dX12_init_213 : decode cX12_init 213 = .ok (.iastore, 1) := by decide +kernel
theorem dX12_init_214 : decode cX12_init 214 = .ok (.aload_n 0, 1) := by decide +kernel
theorem dX12_init_215 : decode cX12_init 215 = .ok (.getfield 7, 3) := by decide +kernel
theorem dX12_init_218 : decode cX12_init 218 = .ok (.bipush 48, 2) := by decide +kernel
theorem dX12_init_220 : decode cX12_init 220 = .ok (.iconst 3, 1) := by decide +kernel
theorem dX12_init_221 : decode cX12_init 221 = .ok (.iastore, 1) := by decide +kernel
theorem dX12_init_222 : decode cX12_init 222 = .ok (.aload_n 0, 1) := by decide +kernel
theorem dX12_init_223 : decode cX12_init 223 = .ok (.getfield 7, 3) := by decide +kernel
theorem dX12_init_226 : decode cX12_init 226 = .ok (.bipush 49, 2) := by decide +kernel
theorem dX12_init_228 : decode cX12_init 228 = .ok (.iconst 2, 1) := by decide +kernel
theorem dX12_init_229 : decode cX12_init 229 = .ok (.iastore, 1) := by decide +kernel
theorem dX12_init_230 : decode cX12_init 230 = .ok (.aload_n 0, 1) := by decide +kernel
theorem dX12_init_231 : decode cX12_init 231 = .ok (.invokevirtual 64, 3) := by decide +kernel
theorem dX12_init_234 : decode cX12_init 234 = .ok (.return_, 1) := by decide +kernel
set_option maxHeartbeats 4000000 in
set_option maxRecDepth 100000 in
theorem c_X12_init (l : Launch) (D : xD) (z : Nat) (G : xG) (I : xI) (L : xL) (b : Nat) (g0 : G b = some (12, 0, rN)) (zb : z ≤ b) (hz2 : I b 2 = 0) (hz6 : I b 6 = 0) (hz18 : I b 18 = 0) : xM l D z yX12_init cX12_init 1 none 5 114 14 1254 [.ref b] (b + 1) G I L (mPost b G I L) := by
  refine xM.of (by decide) (Nat.le_of_ble_eq_true rfl) (fun p e s m args below meth c C hnm hsz => ?_)
  refine x_lv [(0, .ref b)] rfl ?_
  refine x_aload_n 0 C dX12_init_0 rfl 0 rfl ?_
  refine x_obj 1 C dX12_init_1 km_X12_1 ki_obj kc_obj (Nat.le_of_ble_eq_true rfl) (Nat.le_of_ble_eq_true rfl) ?_
  refine x_aload_n 4 C dX12_init_4 rfl 0 rfl ?_
  refine x_sipush 5 C (v := 158) dX12_init_5 rfl ?_
  refine x_newa 8 C 0 (N := 158) dX12_init_8 ⟨by decide, rfl⟩ ka_int (fun cA h => h) rfl (by decide) (by decide) (Nat.le_of_ble_eq_true rfl) (Nat.le_of_ble_eq_true rfl) (Nat.le_of_ble_eq_true rfl) (fun G1 I1 L1 eG1 eI1 eL1 => ?_)
  have g2 : G1 (b) = some (12, 0, rN) := by rw [eG1, va_up_ne _ _ (by omega)]; exact g0
  refine x_putr 10 C dX12_init_10 ff_X12_7 rfl rfl hnm.symm rfl g2 (by omega) (fun G3 eG3 => ?_)
  refine x_aload_n 13 C dX12_init_13 rfl 0 rfl ?_
  refine x_sipush 14 C (v := 632) dX12_init_14 rfl ?_
  refine x_newa 17 C 0 (N := 632) dX12_init_17 ⟨by decide, rfl⟩ ka_int (fun cA h => h) rfl (by decide) (by decide) (Nat.le_of_ble_eq_true rfl) (Nat.le_of_ble_eq_true rfl) (Nat.le_of_ble_eq_true rfl) (fun G4 I4 L4 eG4 eI4 eL4 => ?_)
  have g5 : G4 (b) = some (12, 0, va_up rN 0 (some (b + 1))) := by rw [eG4, va_up_ne _ _ (by omega)]; rw [eG3, vau (by omega)]
  refine x_putr 19 C dX12_init_19 ff_X12_13 rfl rfl hnm.symm rfl g5 (by omega) (fun G6 eG6 => ?_)
  refine x_aload_n 22 C dX12_init_22 rfl 0 rfl ?_
  refine x_sipush 23 C (v := 316) dX12_init_23 rfl ?_
  refine x_newa 26 C 0 (N := 316) dX12_init_26 ⟨by decide, rfl⟩ ka_int (fun cA h => h) rfl (by decide) (by decide) (Nat.le_of_ble_eq_true rfl) (Nat.le_of_ble_eq_true rfl) (Nat.le_of_ble_eq_true rfl) (fun G7 I7 L7 eG7 eI7 eL7 => ?_)
  have g8 : G7 (b) = some (12, 0, va_up (va_up rN 0 (some (b + 1))) 1 (some (b + 2))) := by rw [eG7, va_up_ne _ _ (by omega)]; rw [eG6, vau (by omega)]
  refine x_putr 28 C dX12_init_28 ff_X12_16 rfl rfl hnm.symm rfl g8 (by omega) (fun G9 eG9 => ?_)
  refine x_aload_n 31 C dX12_init_31 rfl 0 rfl ?_
  refine x_iconst 32 C (v := 2) dX12_init_32 rfl ?_
  refine x_newa 33 C 2 (N := 2) dX12_init_33 ⟨by decide, rfl⟩ ka_boolean (fun cA h => h) rfl (by decide) (by decide) (Nat.le_of_ble_eq_true rfl) (Nat.le_of_ble_eq_true rfl) (Nat.le_of_ble_eq_true rfl) (fun G10 I10 L10 eG10 eI10 eL10 => ?_)
  have g11 : G10 (b) = some (12, 0, va_up (va_up (va_up rN 0 (some (b + 1))) 1 (some (b + 2))) 3 (some (b + 3))) := by rw [eG10, va_up_ne _ _ (by omega)]; rw [eG9, vau (by omega)]
  refine x_putr 35 C dX12_init_35 ff_X12_19 rfl rfl hnm.symm rfl g11 (by omega) (fun G12 eG12 => ?_)
  refine x_aload_n 38 C dX12_init_38 rfl 0 rfl ?_
  refine x_bipush 39 C (v := 60) dX12_init_39 rfl ?_
  refine x_newa 41 C 0 (N := 60) dX12_init_41 ⟨by decide, rfl⟩ ka_int (fun cA h => h) rfl (by decide) (by decide) (Nat.le_of_ble_eq_true rfl) (Nat.le_of_ble_eq_true rfl) (Nat.le_of_ble_eq_true rfl) (fun G13 I13 L13 eG13 eI13 eL13 => ?_)
  have g14 : G13 (b) = some (12, 0, va_up (va_up (va_up (va_up rN 0 (some (b + 1))) 1 (some (b + 2))) 3 (some (b + 3))) 4 (some (b + 4))) := by rw [eG13, va_up_ne _ _ (by omega)]; rw [eG12, vau (by omega)]
  refine x_putr 43 C dX12_init_43 ff_X12_23 rfl rfl hnm.symm rfl g14 (by omega) (fun G15 eG15 => ?_)
  refine x_aload_n 46 C dX12_init_46 rfl 0 rfl ?_
  refine x_ldc2 47 C 1024 dX12_init_47 kk_X12_26 ?_
  have g16 : G15 (b) = some (12, 0, va_up (va_up (va_up (va_up (va_up rN 0 (some (b + 1))) 1 (some (b + 2))) 3 (some (b + 3))) 4 (some (b + 4))) 5 (some (b + 5))) := by rw [eG15, vau (by omega)]
  refine x_putl 50 C dX12_init_50 ff_X12_28 rfl g16 (by omega) (fun L17 eL17 => ?_)
  refine x_aload_n 53 C dX12_init_53 rfl 0 rfl ?_
  refine x_bipush 54 C (v := 16) dX12_init_54 rfl ?_
  refine x_newa 56 C 1 (N := 16) dX12_init_56 ⟨by decide, rfl⟩ ka_long (fun cA h => h) rfl (by decide) (by decide) (Nat.le_of_ble_eq_true rfl) (Nat.le_of_ble_eq_true rfl) (Nat.le_of_ble_eq_true rfl) (fun G18 I18 L18 eG18 eI18 eL18 => ?_)
  have g19 : G18 (b) = some (12, 0, va_up (va_up (va_up (va_up (va_up rN 0 (some (b + 1))) 1 (some (b + 2))) 3 (some (b + 3))) 4 (some (b + 4))) 5 (some (b + 5))) := by rw [eG18, va_up_ne _ _ (by omega)]; rw [eG15, vau (by omega)]
  refine x_putr 58 C dX12_init_58 ff_X12_32 rfl rfl hnm.symm rfl g19 (by omega) (fun G20 eG20 => ?_)
  refine x_aload_n 61 C dX12_init_61 rfl 0 rfl ?_
  refine x_iconst 62 C (v := 4) dX12_init_62 rfl ?_
  refine x_newa 63 C 1 (N := 4) dX12_init_63 ⟨by decide, rfl⟩ ka_long (fun cA h => h) rfl (by decide) (by decide) (Nat.le_of_ble_eq_true rfl) (Nat.le_of_ble_eq_true rfl) (Nat.le_of_ble_eq_true rfl) (fun G21 I21 L21 eG21 eI21 eL21 => ?_)
  have g22 : G21 (b) = some (12, 0, va_up (va_up (va_up (va_up (va_up (va_up rN 0 (some (b + 1))) 1 (some (b + 2))) 3 (some (b + 3))) 4 (some (b + 4))) 5 (some (b + 5))) 10 (some (b + 6))) := by rw [eG21, va_up_ne _ _ (by omega)]; rw [eG20, vau (by omega)]
  refine x_putr 65 C dX12_init_65 ff_X12_36 rfl rfl hnm.symm rfl g22 (by omega) (fun G23 eG23 => ?_)
  refine x_aload_n 68 C dX12_init_68 rfl 0 rfl ?_
  refine x_bipush 69 C (v := 12) dX12_init_69 rfl ?_
  refine x_newa 71 C 1 (N := 12) dX12_init_71 ⟨by decide, rfl⟩ ka_long (fun cA h => h) rfl (by decide) (by decide) (Nat.le_of_ble_eq_true rfl) (Nat.le_of_ble_eq_true rfl) (Nat.le_of_ble_eq_true rfl) (fun G24 I24 L24 eG24 eI24 eL24 => ?_)
  have g25 : G24 (b) = some (12, 0, va_up (va_up (va_up (va_up (va_up (va_up (va_up rN 0 (some (b + 1))) 1 (some (b + 2))) 3 (some (b + 3))) 4 (some (b + 4))) 5 (some (b + 5))) 10 (some (b + 6))) 11 (some (b + 7))) := by rw [eG24, va_up_ne _ _ (by omega)]; rw [eG23, vau (by omega)]
  refine x_putr 73 C dX12_init_73 ff_X12_39 rfl rfl hnm.symm rfl g25 (by omega) (fun G26 eG26 => ?_)
  refine x_aload_n 76 C dX12_init_76 rfl 0 rfl ?_
  refine x_bipush 77 C (v := 12) dX12_init_77 rfl ?_
  refine x_newa 79 C 1 (N := 12) dX12_init_79 ⟨by decide, rfl⟩ ka_long (fun cA h => h) rfl (by decide) (by decide) (Nat.le_of_ble_eq_true rfl) (Nat.le_of_ble_eq_true rfl) (Nat.le_of_ble_eq_true rfl) (fun G27 I27 L27 eG27 eI27 eL27 => ?_)
  have g28 : G27 (b) = some (12, 0, va_up (va_up (va_up (va_up (va_up (va_up (va_up (va_up rN 0 (some (b + 1))) 1 (some (b + 2))) 3 (some (b + 3))) 4 (some (b + 4))) 5 (some (b + 5))) 10 (some (b + 6))) 11 (some (b + 7))) 12 (some (b + 8))) := by rw [eG27, va_up_ne _ _ (by omega)]; rw [eG26, vau (by omega)]
  refine x_putr 81 C dX12_init_81 ff_X12_42 rfl rfl hnm.symm rfl g28 (by omega) (fun G29 eG29 => ?_)
  refine x_aload_n 84 C dX12_init_84 rfl 0 rfl ?_
  refine x_bipush 85 C (v := 12) dX12_init_85 rfl ?_
  refine x_newa 87 C 1 (N := 12) dX12_init_87 ⟨by decide, rfl⟩ ka_long (fun cA h => h) rfl (by decide) (by decide) (Nat.le_of_ble_eq_true rfl) (Nat.le_of_ble_eq_true rfl) (Nat.le_of_ble_eq_true rfl) (fun G30 I30 L30 eG30 eI30 eL30 => ?_)
  have g31 : G30 (b) = some (12, 0, va_up (va_up (va_up (va_up (va_up (va_up (va_up (va_up (va_up rN 0 (some (b + 1))) 1 (some (b + 2))) 3 (some (b + 3))) 4 (some (b + 4))) 5 (some (b + 5))) 10 (some (b + 6))) 11 (some (b + 7))) 12 (some (b + 8))) 13 (some (b + 9))) := by rw [eG30, va_up_ne _ _ (by omega)]; rw [eG29, vau (by omega)]
  refine x_putr 89 C dX12_init_89 ff_X12_45 rfl rfl hnm.symm rfl g31 (by omega) (fun G32 eG32 => ?_)
  refine x_aload_n 92 C dX12_init_92 rfl 0 rfl ?_
  refine x_iconst 93 C (v := 4) dX12_init_93 rfl ?_
  refine x_newa 94 C 1 (N := 4) dX12_init_94 ⟨by decide, rfl⟩ ka_long (fun cA h => h) rfl (by decide) (by decide) (Nat.le_of_ble_eq_true rfl) (Nat.le_of_ble_eq_true rfl) (Nat.le_of_ble_eq_true rfl) (fun G33 I33 L33 eG33 eI33 eL33 => ?_)
  have g34 : G33 (b) = some (12, 0, va_up (va_up (va_up (va_up (va_up (va_up (va_up (va_up (va_up (va_up rN 0 (some (b + 1))) 1 (some (b + 2))) 3 (some (b + 3))) 4 (some (b + 4))) 5 (some (b + 5))) 10 (some (b + 6))) 11 (some (b + 7))) 12 (some (b + 8))) 13 (some (b + 9))) 14 (some (b + 10))) := by rw [eG33, va_up_ne _ _ (by omega)]; rw [eG32, vau (by omega)]
  refine x_putr 96 C dX12_init_96 ff_X12_48 rfl rfl hnm.symm rfl g34 (by omega) (fun G35 eG35 => ?_)
  refine x_aload_n 99 C dX12_init_99 rfl 0 rfl ?_
  refine x_iconst 100 C (v := 4) dX12_init_100 rfl ?_
  refine x_newa 101 C 1 (N := 4) dX12_init_101 ⟨by decide, rfl⟩ ka_long (fun cA h => h) rfl (by decide) (by decide) (Nat.le_of_ble_eq_true rfl) (Nat.le_of_ble_eq_true rfl) (Nat.le_of_ble_eq_true rfl) (fun G36 I36 L36 eG36 eI36 eL36 => ?_)
  have g37 : G36 (b) = some (12, 0, va_up (va_up (va_up (va_up (va_up (va_up (va_up (va_up (va_up (va_up (va_up rN 0 (some (b + 1))) 1 (some (b + 2))) 3 (some (b + 3))) 4 (some (b + 4))) 5 (some (b + 5))) 10 (some (b + 6))) 11 (some (b + 7))) 12 (some (b + 8))) 13 (some (b + 9))) 14 (some (b + 10))) 15 (some (b + 11))) := by rw [eG36, va_up_ne _ _ (by omega)]; rw [eG35, vau (by omega)]
  refine x_putr 103 C dX12_init_103 ff_X12_51 rfl rfl hnm.symm rfl g37 (by omega) (fun G38 eG38 => ?_)
  refine x_aload_n 106 C dX12_init_106 rfl 0 rfl ?_
  refine x_iconst 107 C (v := 2) dX12_init_107 rfl ?_
  refine x_newa 108 C 1 (N := 2) dX12_init_108 ⟨by decide, rfl⟩ ka_long (fun cA h => h) rfl (by decide) (by decide) (Nat.le_of_ble_eq_true rfl) (Nat.le_of_ble_eq_true rfl) (Nat.le_of_ble_eq_true rfl) (fun G39 I39 L39 eG39 eI39 eL39 => ?_)
  have g40 : G39 (b) = some (12, 0, va_up (va_up (va_up (va_up (va_up (va_up (va_up (va_up (va_up (va_up (va_up (va_up rN 0 (some (b + 1))) 1 (some (b + 2))) 3 (some (b + 3))) 4 (some (b + 4))) 5 (some (b + 5))) 10 (some (b + 6))) 11 (some (b + 7))) 12 (some (b + 8))) 13 (some (b + 9))) 14 (some (b + 10))) 15 (some (b + 11))) 16 (some (b + 12))) := by rw [eG39, va_up_ne _ _ (by omega)]; rw [eG38, vau (by omega)]
  refine x_putr 110 C dX12_init_110 ff_X12_54 rfl rfl hnm.symm rfl g40 (by omega) (fun G41 eG41 => ?_)
  refine x_aload_n 113 C dX12_init_113 rfl 0 rfl ?_
  refine x_bipush 114 C (v := 20) dX12_init_114 rfl ?_
  refine x_newa 116 C 0 (N := 20) dX12_init_116 ⟨by decide, rfl⟩ ka_int (fun cA h => h) rfl (by decide) (by decide) (Nat.le_of_ble_eq_true rfl) (Nat.le_of_ble_eq_true rfl) (Nat.le_of_ble_eq_true rfl) (fun G42 I42 L42 eG42 eI42 eL42 => ?_)
  have g43 : G42 (b) = some (12, 0, va_up (va_up (va_up (va_up (va_up (va_up (va_up (va_up (va_up (va_up (va_up (va_up (va_up rN 0 (some (b + 1))) 1 (some (b + 2))) 3 (some (b + 3))) 4 (some (b + 4))) 5 (some (b + 5))) 10 (some (b + 6))) 11 (some (b + 7))) 12 (some (b + 8))) 13 (some (b + 9))) 14 (some (b + 10))) 15 (some (b + 11))) 16 (some (b + 12))) 17 (some (b + 13))) := by rw [eG42, va_up_ne _ _ (by omega)]; rw [eG41, vau (by omega)]
  refine x_putr 118 C dX12_init_118 ff_X12_57 rfl rfl hnm.symm rfl g43 (by omega) (fun G44 eG44 => ?_)
  refine x_aload_n 121 C dX12_init_121 rfl 0 rfl ?_
  have g45 : G44 (b) = some (12, 0, va_up (va_up (va_up (va_up (va_up (va_up (va_up (va_up (va_up (va_up (va_up (va_up (va_up (va_up rN 0 (some (b + 1))) 1 (some (b + 2))) 3 (some (b + 3))) 4 (some (b + 4))) 5 (some (b + 5))) 10 (some (b + 6))) 11 (some (b + 7))) 12 (some (b + 8))) 13 (some (b + 9))) 14 (some (b + 10))) 15 (some (b + 11))) 16 (some (b + 12))) 17 (some (b + 13))) 23 (some (b + 14))) := by rw [eG44, vau (by omega)]
  have g47 : G44 (b + 1) = some (20, 158, rN) := by rw [eG44, va_up_ne _ _ (by omega)]; rw [eG42, va_up_ne _ _ (by omega)]; rw [eG41, va_up_ne _ _ (by omega)]; rw [eG39, va_up_ne _ _ (by omega)]; rw [eG38, va_up_ne _ _ (by omega)]; rw [eG36, va_up_ne _ _ (by omega)]; rw [eG35, va_up_ne _ _ (by omega)]; rw [eG33, va_up_ne _ _ (by omega)]; rw [eG32, va_up_ne _ _ (by omega)]; rw [eG30, va_up_ne _ _ (by omega)]; rw [eG29, va_up_ne _ _ (by omega)]; rw [eG27, va_up_ne _ _ (by omega)]; rw [eG26, va_up_ne _ _ (by omega)]; rw [eG24, va_up_ne _ _ (by omega)]; rw [eG23, va_up_ne _ _ (by omega)]; rw [eG21, va_up_ne _ _ (by omega)]; rw [eG20, va_up_ne _ _ (by omega)]; rw [eG18, va_up_ne _ _ (by omega)]; rw [eG15, va_up_ne _ _ (by omega)]; rw [eG13, va_up_ne _ _ (by omega)]; rw [eG12, va_up_ne _ _ (by omega)]; rw [eG10, va_up_ne _ _ (by omega)]; rw [eG9, va_up_ne _ _ (by omega)]; rw [eG7, va_up_ne _ _ (by omega)]; rw [eG6, va_up_ne _ _ (by omega)]; rw [eG4, va_up_ne _ _ (by omega)]; rw [eG3, va_up_ne _ _ (by omega)]; rw [eG1, vau (by omega)]
  have g48 : G44 (b + 2) = some (20, 632, rN) := by rw [eG44, va_up_ne _ _ (by omega)]; rw [eG42, va_up_ne _ _ (by omega)]; rw [eG41, va_up_ne _ _ (by omega)]; rw [eG39, va_up_ne _ _ (by omega)]; rw [eG38, va_up_ne _ _ (by omega)]; rw [eG36, va_up_ne _ _ (by omega)]; rw [eG35, va_up_ne _ _ (by omega)]; rw [eG33, va_up_ne _ _ (by omega)]; rw [eG32, va_up_ne _ _ (by omega)]; rw [eG30, va_up_ne _ _ (by omega)]; rw [eG29, va_up_ne _ _ (by omega)]; rw [eG27, va_up_ne _ _ (by omega)]; rw [eG26, va_up_ne _ _ (by omega)]; rw [eG24, va_up_ne _ _ (by omega)]; rw [eG23, va_up_ne _ _ (by omega)]; rw [eG21, va_up_ne _ _ (by omega)]; rw [eG20, va_up_ne _ _ (by omega)]; rw [eG18, va_up_ne _ _ (by omega)]; rw [eG15, va_up_ne _ _ (by omega)]; rw [eG13, va_up_ne _ _ (by omega)]; rw [eG12, va_up_ne _ _ (by omega)]; rw [eG10, va_up_ne _ _ (by omega)]; rw [eG9, va_up_ne _ _ (by omega)]; rw [eG7, va_up_ne _ _ (by omega)]; rw [eG6, va_up_ne _ _ (by omega)]; rw [eG4, vau (by omega)]
  have g49 : G44 (b + 3) = some (20, 316, rN) := by rw [eG44, va_up_ne _ _ (by omega)]; rw [eG42, va_up_ne _ _ (by omega)]; rw [eG41, va_up_ne _ _ (by omega)]; rw [eG39, va_up_ne _ _ (by omega)]; rw [eG38, va_up_ne _ _ (by omega)]; rw [eG36, va_up_ne _ _ (by omega)]; rw [eG35, va_up_ne _ _ (by omega)]; rw [eG33, va_up_ne _ _ (by omega)]; rw [eG32, va_up_ne _ _ (by omega)]; rw [eG30, va_up_ne _ _ (by omega)]; rw [eG29, va_up_ne _ _ (by omega)]; rw [eG27, va_up_ne _ _ (by omega)]; rw [eG26, va_up_ne _ _ (by omega)]; rw [eG24, va_up_ne _ _ (by omega)]; rw [eG23, va_up_ne _ _ (by omega)]; rw [eG21, va_up_ne _ _ (by omega)]; rw [eG20, va_up_ne _ _ (by omega)]; rw [eG18, va_up_ne _ _ (by omega)]; rw [eG15, va_up_ne _ _ (by omega)]; rw [eG13, va_up_ne _ _ (by omega)]; rw [eG12, va_up_ne _ _ (by omega)]; rw [eG10, va_up_ne _ _ (by omega)]; rw [eG9, va_up_ne _ _ (by omega)]; rw [eG7, vau (by omega)]
  have g50 : G44 (b + 4) = some (22, 2, rN) := by rw [eG44, va_up_ne _ _ (by omega)]; rw [eG42, va_up_ne _ _ (by omega)]; rw [eG41, va_up_ne _ _ (by omega)]; rw [eG39, va_up_ne _ _ (by omega)]; rw [eG38, va_up_ne _ _ (by omega)]; rw [eG36, va_up_ne _ _ (by omega)]; rw [eG35, va_up_ne _ _ (by omega)]; rw [eG33, va_up_ne _ _ (by omega)]; rw [eG32, va_up_ne _ _ (by omega)]; rw [eG30, va_up_ne _ _ (by omega)]; rw [eG29, va_up_ne _ _ (by omega)]; rw [eG27, va_up_ne _ _ (by omega)]; rw [eG26, va_up_ne _ _ (by omega)]; rw [eG24, va_up_ne _ _ (by omega)]; rw [eG23, va_up_ne _ _ (by omega)]; rw [eG21, va_up_ne _ _ (by omega)]; rw [eG20, va_up_ne _ _ (by omega)]; rw [eG18, va_up_ne _ _ (by omega)]; rw [eG15, va_up_ne _ _ (by omega)]; rw [eG13, va_up_ne _ _ (by omega)]; rw [eG12, va_up_ne _ _ (by omega)]; rw [eG10, vau (by omega)]
  have g51 : G44 (b + 5) = some (20, 60, rN) := by rw [eG44, va_up_ne _ _ (by omega)]; rw [eG42, va_up_ne _ _ (by omega)]; rw [eG41, va_up_ne _ _ (by omega)]; rw [eG39, va_up_ne _ _ (by omega)]; rw [eG38, va_up_ne _ _ (by omega)]; rw [eG36, va_up_ne _ _ (by omega)]; rw [eG35, va_up_ne _ _ (by omega)]; rw [eG33, va_up_ne _ _ (by omega)]; rw [eG32, va_up_ne _ _ (by omega)]; rw [eG30, va_up_ne _ _ (by omega)]; rw [eG29, va_up_ne _ _ (by omega)]; rw [eG27, va_up_ne _ _ (by omega)]; rw [eG26, va_up_ne _ _ (by omega)]; rw [eG24, va_up_ne _ _ (by omega)]; rw [eG23, va_up_ne _ _ (by omega)]; rw [eG21, va_up_ne _ _ (by omega)]; rw [eG20, va_up_ne _ _ (by omega)]; rw [eG18, va_up_ne _ _ (by omega)]; rw [eG15, va_up_ne _ _ (by omega)]; rw [eG13, vau (by omega)]
  have g52 : G44 (b + 6) = some (21, 16, rN) := by rw [eG44, va_up_ne _ _ (by omega)]; rw [eG42, va_up_ne _ _ (by omega)]; rw [eG41, va_up_ne _ _ (by omega)]; rw [eG39, va_up_ne _ _ (by omega)]; rw [eG38, va_up_ne _ _ (by omega)]; rw [eG36, va_up_ne _ _ (by omega)]; rw [eG35, va_up_ne _ _ (by omega)]; rw [eG33, va_up_ne _ _ (by omega)]; rw [eG32, va_up_ne _ _ (by omega)]; rw [eG30, va_up_ne _ _ (by omega)]; rw [eG29, va_up_ne _ _ (by omega)]; rw [eG27, va_up_ne _ _ (by omega)]; rw [eG26, va_up_ne _ _ (by omega)]; rw [eG24, va_up_ne _ _ (by omega)]; rw [eG23, va_up_ne _ _ (by omega)]; rw [eG21, va_up_ne _ _ (by omega)]; rw [eG20, va_up_ne _ _ (by omega)]; rw [eG18, vau (by omega)]
  have g53 : G44 (b + 7) = some (21, 4, rN) := by rw [eG44, va_up_ne _ _ (by omega)]; rw [eG42, va_up_ne _ _ (by omega)]; rw [eG41, va_up_ne _ _ (by omega)]; rw [eG39, va_up_ne _ _ (by omega)]; rw [eG38, va_up_ne _ _ (by omega)]; rw [eG36, va_up_ne _ _ (by omega)]; rw [eG35, va_up_ne _ _ (by omega)]; rw [eG33, va_up_ne _ _ (by omega)]; rw [eG32, va_up_ne _ _ (by omega)]; rw [eG30, va_up_ne _ _ (by omega)]; rw [eG29, va_up_ne _ _ (by omega)]; rw [eG27, va_up_ne _ _ (by omega)]; rw [eG26, va_up_ne _ _ (by omega)]; rw [eG24, va_up_ne _ _ (by omega)]; rw [eG23, va_up_ne _ _ (by omega)]; rw [eG21, vau (by omega)]
  have g54 : G44 (b + 8) = some (21, 12, rN) := by rw [eG44, va_up_ne _ _ (by omega)]; rw [eG42, va_up_ne _ _ (by omega)]; rw [eG41, va_up_ne _ _ (by omega)]; rw [eG39, va_up_ne _ _ (by omega)]; rw [eG38, va_up_ne _ _ (by omega)]; rw [eG36, va_up_ne _ _ (by omega)]; rw [eG35, va_up_ne _ _ (by omega)]; rw [eG33, va_up_ne _ _ (by omega)]; rw [eG32, va_up_ne _ _ (by omega)]; rw [eG30, va_up_ne _ _ (by omega)]; rw [eG29, va_up_ne _ _ (by omega)]; rw [eG27, va_up_ne _ _ (by omega)]; rw [eG26, va_up_ne _ _ (by omega)]; rw [eG24, vau (by omega)]
  have g55 : G44 (b + 9) = some (21, 12, rN) := by rw [eG44, va_up_ne _ _ (by omega)]; rw [eG42, va_up_ne _ _ (by omega)]; rw [eG41, va_up_ne _ _ (by omega)]; rw [eG39, va_up_ne _ _ (by omega)]; rw [eG38, va_up_ne _ _ (by omega)]; rw [eG36, va_up_ne _ _ (by omega)]; rw [eG35, va_up_ne _ _ (by omega)]; rw [eG33, va_up_ne _ _ (by omega)]; rw [eG32, va_up_ne _ _ (by omega)]; rw [eG30, va_up_ne _ _ (by omega)]; rw [eG29, va_up_ne _ _ (by omega)]; rw [eG27, vau (by omega)]
  have g56 : G44 (b + 10) = some (21, 12, rN) := by rw [eG44, va_up_ne _ _ (by omega)]; rw [eG42, va_up_ne _ _ (by omega)]; rw [eG41, va_up_ne _ _ (by omega)]; rw [eG39, va_up_ne _ _ (by omega)]; rw [eG38, va_up_ne _ _ (by omega)]; rw [eG36, va_up_ne _ _ (by omega)]; rw [eG35, va_up_ne _ _ (by omega)]; rw [eG33, va_up_ne _ _ (by omega)]; rw [eG32, va_up_ne _ _ (by omega)]; rw [eG30, vau (by omega)]
  have g57 : G44 (b + 11) = some (21, 4, rN) := by rw [eG44, va_up_ne _ _ (by omega)]; rw [eG42, va_up_ne _ _ (by omega)]; rw [eG41, va_up_ne _ _ (by omega)]; rw [eG39, va_up_ne _ _ (by omega)]; rw [eG38, va_up_ne _ _ (by omega)]; rw [eG36, va_up_ne _ _ (by omega)]; rw [eG35, va_up_ne _ _ (by omega)]; rw [eG33, vau (by omega)]
  have g58 : G44 (b + 12) = some (21, 4, rN) := by rw [eG44, va_up_ne _ _ (by omega)]; rw [eG42, va_up_ne _ _ (by omega)]; rw [eG41, va_up_ne _ _ (by omega)]; rw [eG39, va_up_ne _ _ (by omega)]; rw [eG38, va_up_ne _ _ (by omega)]; rw [eG36, vau (by omega)]
  have g59 : G44 (b + 13) = some (21, 2, rN) := by rw [eG44, va_up_ne _ _ (by omega)]; rw [eG42, va_up_ne _ _ (by omega)]; rw [eG41, va_up_ne _ _ (by omega)]; rw [eG39, vau (by omega)]
  have g60 : G44 (b + 14) = some (20, 20, rN) := by rw [eG44, va_up_ne _ _ (by omega)]; rw [eG42, vau (by omega)]
  have hMo46 : shMo G44 b := ⟨g45, g47, g48, g49, g50, g51, g52, g53, g54, g55, g56, g57, g58, g59, g60⟩
  refine x_getr 122 C (b := b + 1) dX12_init_122 ff_X12_7 rfl g45 rfl ?_
  refine x_iconst 125 C (v := 0) dX12_init_125 rfl ?_
  refine x_iconst 126 C (v := 1) dX12_init_126 rfl ?_
  refine x_iconst 127 C (v := 0) dX12_init_127 rfl ?_
  refine x_wid (k' := 14) (n' := 1254) (Nat.le_of_ble_eq_true rfl) (Nat.le_of_ble_eq_true rfl) ?_
  refine x_callSe 128 C dX12_init_128 (As := [.int 0, .int 1, .int 0]) (rest := [.ref (b + 1)]) [.int (nI (20 * 0 + 2 * tm 1 0)), .ref (b + 1)] (t_X12_termOf l D z (b + 15) G44 I42 L42 0 1 0 (by first | omega | assumption | decide) (by first | omega | assumption | decide)) mt_X12_termOf km_X12_60 kt_X12_termOf rfl rfl (Nat.le_of_ble_eq_true rfl) ⟨⟨by decide, by decide⟩, by decide, by decide⟩ (fun I61 L62 eI61 eL62 => ?_)
  replace eI61 := eI61.symm; subst eI61
  replace eL62 := eL62.symm; subst eL62
  refine x_int 8 (by decide) ?_
  refine x_iconst 131 C (v := 1) dX12_init_131 rfl ?_
  refine x_iast 132 C (j := 8) dX12_init_132 g47 (by omega) ⟨by decide, by decide, by decide⟩ (fun I63 eI63 => ?_)
  refine x_aload_n 133 C dX12_init_133 rfl 0 rfl ?_
  have hMo64 : shMo G44 b := ⟨g45, g47, g48, g49, g50, g51, g52, g53, g54, g55, g56, g57, g58, g59, g60⟩
  refine x_getr 134 C (b := b + 1) dX12_init_134 ff_X12_7 rfl g45 rfl ?_
  refine x_iconst 137 C (v := 1) dX12_init_137 rfl ?_
  refine x_iconst 138 C (v := 0) dX12_init_138 rfl ?_
  refine x_iconst 139 C (v := 1) dX12_init_139 rfl ?_
  refine x_wid (k' := 14) (n' := 1254) (Nat.le_of_ble_eq_true rfl) (Nat.le_of_ble_eq_true rfl) ?_
  refine x_callSe 140 C dX12_init_140 (As := [.int 1, .int 0, .int 1]) (rest := [.ref (b + 1)]) [.int (nI (20 * 1 + 2 * tm 0 1)), .ref (b + 1)] (t_X12_termOf l D z (b + 15) G44 I63 L42 1 0 1 (by first | omega | assumption | decide) (by first | omega | assumption | decide)) mt_X12_termOf km_X12_60 kt_X12_termOf rfl rfl (Nat.le_of_ble_eq_true rfl) ⟨⟨by decide, by decide⟩, by decide, by decide⟩ (fun I65 L66 eI65 eL66 => ?_)
  replace eI65 := eI65.symm; subst eI65
  replace eL66 := eL66.symm; subst eL66
  refine x_int 22 (by decide) ?_
  refine x_iconst 143 C (v := 1) dX12_init_143 rfl ?_
  refine x_iast 144 C (j := 22) dX12_init_144 g47 (by omega) ⟨by decide, by decide, by decide⟩ (fun I67 eI67 => ?_)
  refine x_aload_n 145 C dX12_init_145 rfl 0 rfl ?_
  have hMo68 : shMo G44 b := ⟨g45, g47, g48, g49, g50, g51, g52, g53, g54, g55, g56, g57, g58, g59, g60⟩
  refine x_getr 146 C (b := b + 1) dX12_init_146 ff_X12_7 rfl g45 rfl ?_
  refine x_bipush 149 C (v := 40) dX12_init_149 rfl ?_
  refine x_iconst 151 C (v := 1) dX12_init_151 rfl ?_
  refine x_iast 152 C (j := 40) dX12_init_152 g47 (by omega) ⟨by decide, by decide, by decide⟩ (fun I69 eI69 => ?_)
  refine x_aload_n 153 C dX12_init_153 rfl 0 rfl ?_
  have hMo70 : shMo G44 b := ⟨g45, g47, g48, g49, g50, g51, g52, g53, g54, g55, g56, g57, g58, g59, g60⟩
  refine x_getr 154 C (b := b + 1) dX12_init_154 ff_X12_7 rfl g45 rfl ?_
  refine x_bipush 157 C (v := 41) dX12_init_157 rfl ?_
  refine x_iconst 159 C (v := 1) dX12_init_159 rfl ?_
  refine x_iast 160 C (j := 41) dX12_init_160 g47 (by omega) ⟨by decide, by decide, by decide⟩ (fun I71 eI71 => ?_)
  refine x_aload_n 161 C dX12_init_161 rfl 0 rfl ?_
  have hMo72 : shMo G44 b := ⟨g45, g47, g48, g49, g50, g51, g52, g53, g54, g55, g56, g57, g58, g59, g60⟩
  refine x_getr 162 C (b := b + 1) dX12_init_162 ff_X12_7 rfl g45 rfl ?_
  refine x_bipush 165 C (v := 42) dX12_init_165 rfl ?_
  refine x_bipush 167 C (v := 64) dX12_init_167 rfl ?_
  refine x_iast 169 C (j := 42) dX12_init_169 g47 (by omega) ⟨by decide, by decide, by decide⟩ (fun I73 eI73 => ?_)
  refine x_aload_n 170 C dX12_init_170 rfl 0 rfl ?_
  have hMo74 : shMo G44 b := ⟨g45, g47, g48, g49, g50, g51, g52, g53, g54, g55, g56, g57, g58, g59, g60⟩
  refine x_getr 171 C (b := b + 1) dX12_init_171 ff_X12_7 rfl g45 rfl ?_
  refine x_bipush 174 C (v := 43) dX12_init_174 rfl ?_
  refine x_sipush 176 C (v := 128) dX12_init_176 rfl ?_
  refine x_iast 179 C (j := 43) dX12_init_179 g47 (by omega) ⟨by decide, by decide, by decide⟩ (fun I75 eI75 => ?_)
  refine x_aload_n 180 C dX12_init_180 rfl 0 rfl ?_
  have hMo76 : shMo G44 b := ⟨g45, g47, g48, g49, g50, g51, g52, g53, g54, g55, g56, g57, g58, g59, g60⟩
  refine x_getr 181 C (b := b + 1) dX12_init_181 ff_X12_7 rfl g45 rfl ?_
  refine x_bipush 184 C (v := 44) dX12_init_184 rfl ?_
  refine x_iconst 186 C (v := 3) dX12_init_186 rfl ?_
  refine x_iast 187 C (j := 44) dX12_init_187 g47 (by omega) ⟨by decide, by decide, by decide⟩ (fun I77 eI77 => ?_)
  refine x_aload_n 188 C dX12_init_188 rfl 0 rfl ?_
  have hMo78 : shMo G44 b := ⟨g45, g47, g48, g49, g50, g51, g52, g53, g54, g55, g56, g57, g58, g59, g60⟩
  refine x_getr 189 C (b := b + 1) dX12_init_189 ff_X12_7 rfl g45 rfl ?_
  refine x_bipush 192 C (v := 45) dX12_init_192 rfl ?_
  refine x_iconst 194 C (v := 4) dX12_init_194 rfl ?_
  refine x_iast 195 C (j := 45) dX12_init_195 g47 (by omega) ⟨by decide, by decide, by decide⟩ (fun I79 eI79 => ?_)
  refine x_aload_n 196 C dX12_init_196 rfl 0 rfl ?_
  have hMo80 : shMo G44 b := ⟨g45, g47, g48, g49, g50, g51, g52, g53, g54, g55, g56, g57, g58, g59, g60⟩
  refine x_getr 197 C (b := b + 1) dX12_init_197 ff_X12_7 rfl g45 rfl ?_
  refine x_bipush 200 C (v := 46) dX12_init_200 rfl ?_
  refine x_bipush 202 C (v := 100) dX12_init_202 rfl ?_
  refine x_iast 204 C (j := 46) dX12_init_204 g47 (by omega) ⟨by decide, by decide, by decide⟩ (fun I81 eI81 => ?_)
  refine x_aload_n 205 C dX12_init_205 rfl 0 rfl ?_
  have hMo82 : shMo G44 b := ⟨g45, g47, g48, g49, g50, g51, g52, g53, g54, g55, g56, g57, g58, g59, g60⟩
  refine x_getr 206 C (b := b + 1) dX12_init_206 ff_X12_7 rfl g45 rfl ?_
  refine x_bipush 209 C (v := 47) dX12_init_209 rfl ?_
  refine x_bipush 211 C (v := 10) dX12_init_211 rfl ?_
  refine x_iast 213 C (j := 47) dX12_init_213 g47 (by omega) ⟨by decide, by decide, by decide⟩ (fun I83 eI83 => ?_)
  refine x_aload_n 214 C dX12_init_214 rfl 0 rfl ?_
  have hMo84 : shMo G44 b := ⟨g45, g47, g48, g49, g50, g51, g52, g53, g54, g55, g56, g57, g58, g59, g60⟩
  refine x_getr 215 C (b := b + 1) dX12_init_215 ff_X12_7 rfl g45 rfl ?_
  refine x_bipush 218 C (v := 48) dX12_init_218 rfl ?_
  refine x_iconst 220 C (v := 3) dX12_init_220 rfl ?_
  refine x_iast 221 C (j := 48) dX12_init_221 g47 (by omega) ⟨by decide, by decide, by decide⟩ (fun I85 eI85 => ?_)
  refine x_aload_n 222 C dX12_init_222 rfl 0 rfl ?_
  have hMo86 : shMo G44 b := ⟨g45, g47, g48, g49, g50, g51, g52, g53, g54, g55, g56, g57, g58, g59, g60⟩
  refine x_getr 223 C (b := b + 1) dX12_init_223 ff_X12_7 rfl g45 rfl ?_
  refine x_bipush 226 C (v := 49) dX12_init_226 rfl ?_
  refine x_iconst 228 C (v := 2) dX12_init_228 rfl ?_
  refine x_iast 229 C (j := 49) dX12_init_229 g47 (by omega) ⟨by decide, by decide, by decide⟩ (fun I87 eI87 => ?_)
  refine x_aload_n 230 C dX12_init_230 rfl 0 rfl ?_
  refine x_wid (k' := 14) (n' := 1254) (Nat.le_of_ble_eq_true rfl) (Nat.le_of_ble_eq_true rfl) ?_
  have hMo88 : shMo G44 b := ⟨g45, g47, g48, g49, g50, g51, g52, g53, g54, g55, g56, g57, g58, g59, g60⟩
  have hMo92 : shMo G44 b := ⟨g45, g47, g48, g49, g50, g51, g52, g53, g54, g55, g56, g57, g58, g59, g60⟩
  refine x_callVp 231 C dX12_init_231 (As := []) (rest := []) (t_X12_beginAll l D z (b + 15) G44 I87 L42 b 1 1 hMo88 (by omega) (by rw [eI87, xup_at]; rw [eI85, xup_at]; rw [eI83, xup_at]; rw [eI81, xup_at]; rw [eI79, xup_at]; rw [eI77, xup_at]; rw [eI75, xup_at]; rw [eI73, xup_at]; rw [eI71, xup_at]; rw [eI69, xup_at]; rw [eI67, xup_at]; rw [eI63, xup_at]; rw [eI42, xzero_row _ _ (by omega)]; rw [eI39, xzero_row _ _ (by omega)]; rw [eI36, xzero_row _ _ (by omega)]; rw [eI33, xzero_row _ _ (by omega)]; rw [eI30, xzero_row _ _ (by omega)]; rw [eI27, xzero_row _ _ (by omega)]; rw [eI24, xzero_row _ _ (by omega)]; rw [eI21, xzero_row _ _ (by omega)]; rw [eI18, xzero_row _ _ (by omega)]; rw [eI13, xzero_row _ _ (by omega)]; rw [eI10, xzero_row _ _ (by omega)]; rw [eI7, xzero_row _ _ (by omega)]; rw [eI4, xzero_row _ _ (by omega)]; rw [eI1, xzero_at]; rfl) (by rw [eI87, xup_at]; rw [eI85, xup_at]; rw [eI83, xup_at]; rw [eI81, xup_at]; rw [eI79, xup_at]; rw [eI77, xup_at]; rw [eI75, xup_at]; rw [eI73, xup_at]; rw [eI71, xup_at]; rw [eI69, xup_at]; rw [eI67, xup_at]; rw [eI63, xup_at]; rw [eI42, xzero_row _ _ (by omega)]; rw [eI39, xzero_row _ _ (by omega)]; rw [eI36, xzero_row _ _ (by omega)]; rw [eI33, xzero_row _ _ (by omega)]; rw [eI30, xzero_row _ _ (by omega)]; rw [eI27, xzero_row _ _ (by omega)]; rw [eI24, xzero_row _ _ (by omega)]; rw [eI21, xzero_row _ _ (by omega)]; rw [eI18, xzero_row _ _ (by omega)]; rw [eI13, xzero_row _ _ (by omega)]; rw [eI10, xzero_row _ _ (by omega)]; rw [eI7, xzero_row _ _ (by omega)]; rw [eI4, xzero_row _ _ (by omega)]; rw [eI1, xzero_at]; rfl) (by decide) (by decide) (by decide)) mt_X12_beginAll km_X12_64 ki_X12_beginAll ks_X12_beginAll g45 ⟨by decide, rfl⟩ rfl (Nat.le_of_ble_eq_true rfl) ⟨⟨by decide, by decide⟩, by decide, by decide⟩ (fun w89 I90 L91 hw89 => ?_)
  obtain ⟨hw89v, hw89r0, hw89r1, hw89r2, hw89r3⟩ := hw89
  subst hw89v
  refine x_st [] rfl ?_
  refine x_wid (k' := 14) (n' := 1254) (Nat.le_of_ble_eq_true rfl) (Nat.le_of_ble_eq_true rfl) ?_
  refine x_vret 234 C dX12_init_234 rfl (by omega) ?_
  have hMo93 : shMo G44 b := ⟨g45, g47, g48, g49, g50, g51, g52, g53, g54, g55, g56, g57, g58, g59, g60⟩
  have hrow : ∀ j, I87 (b + 1) j = if j = 49 then 2 else if j = 48 then 3 else if j = 47 then 10 else if j = 46 then 100 else if j = 45 then 4 else if j = 44 then 3 else if j = 43 then 128 else if j = 42 then 64 else if j = 41 then 1 else if j = 40 then 1 else if j = 22 then 1 else if j = 8 then 1 else 0 := by intro j; rw [eI87, xup_at]; rw [eI85, xup_at]; rw [eI83, xup_at]; rw [eI81, xup_at]; rw [eI79, xup_at]; rw [eI77, xup_at]; rw [eI75, xup_at]; rw [eI73, xup_at]; rw [eI71, xup_at]; rw [eI69, xup_at]; rw [eI67, xup_at]; rw [eI63, xup_at]; rw [eI42, xzero_row _ _ (by omega)]; rw [eI39, xzero_row _ _ (by omega)]; rw [eI36, xzero_row _ _ (by omega)]; rw [eI33, xzero_row _ _ (by omega)]; rw [eI30, xzero_row _ _ (by omega)]; rw [eI27, xzero_row _ _ (by omega)]; rw [eI24, xzero_row _ _ (by omega)]; rw [eI21, xzero_row _ _ (by omega)]; rw [eI18, xzero_row _ _ (by omega)]; rw [eI13, xzero_row _ _ (by omega)]; rw [eI10, xzero_row _ _ (by omega)]; rw [eI7, xzero_row _ _ (by omega)]; rw [eI4, xzero_row _ _ (by omega)]; rw [eI1, xzero_at]
  have hrow2 : ∀ j, j < 50 → I87 (b + 1) j = mP0 j := by
    intro j hj
    rw [hrow j]; unfold mP0
    rcases (show j < 8 ∨ j = 8 ∨ (8 < j ∧ j < 22) ∨ j = 22 ∨ (22 < j ∧ j < 40) ∨ j = 40 ∨ j = 41 ∨ j = 42 ∨ j = 43 ∨ j = 44 ∨ j = 45 ∨ j = 46 ∨ j = 47 ∨ j = 48 ∨ j = 49 by omega) with h | h | h | h | h | h | h | h | h | h | h | h | h | h | h
    all_goals first | (subst h; rfl) | ((repeat rw [if_neg (show ¬ j = _ by omega)]))
  have hb0 := hw89r0 0 (by decide)
  rw [hrow2 42 (by decide), hrow2 43 (by decide)] at hb0
  refine ⟨rfl, rfl, hMo93, fun a h1 => by rw [eG44, va_up_ne _ _ (by omega)]; rw [eG42, va_up_ne _ _ (by omega)]; rw [eG41, va_up_ne _ _ (by omega)]; rw [eG39, va_up_ne _ _ (by omega)]; rw [eG38, va_up_ne _ _ (by omega)]; rw [eG36, va_up_ne _ _ (by omega)]; rw [eG35, va_up_ne _ _ (by omega)]; rw [eG33, va_up_ne _ _ (by omega)]; rw [eG32, va_up_ne _ _ (by omega)]; rw [eG30, va_up_ne _ _ (by omega)]; rw [eG29, va_up_ne _ _ (by omega)]; rw [eG27, va_up_ne _ _ (by omega)]; rw [eG26, va_up_ne _ _ (by omega)]; rw [eG24, va_up_ne _ _ (by omega)]; rw [eG23, va_up_ne _ _ (by omega)]; rw [eG21, va_up_ne _ _ (by omega)]; rw [eG20, va_up_ne _ _ (by omega)]; rw [eG18, va_up_ne _ _ (by omega)]; rw [eG15, va_up_ne _ _ (by omega)]; rw [eG13, va_up_ne _ _ (by omega)]; rw [eG12, va_up_ne _ _ (by omega)]; rw [eG10, va_up_ne _ _ (by omega)]; rw [eG9, va_up_ne _ _ (by omega)]; rw [eG7, va_up_ne _ _ (by omega)]; rw [eG6, va_up_ne _ _ (by omega)]; rw [eG4, va_up_ne _ _ (by omega)]; rw [eG3, va_up_ne _ _ (by omega)]; rw [eG1, va_up_ne _ _ (by omega)], fun a h1 => by rw [hw89r2 _ (by omega)]; rw [eI87, xup_row _ _ (by omega)]; rw [eI85, xup_row _ _ (by omega)]; rw [eI83, xup_row _ _ (by omega)]; rw [eI81, xup_row _ _ (by omega)]; rw [eI79, xup_row _ _ (by omega)]; rw [eI77, xup_row _ _ (by omega)]; rw [eI75, xup_row _ _ (by omega)]; rw [eI73, xup_row _ _ (by omega)]; rw [eI71, xup_row _ _ (by omega)]; rw [eI69, xup_row _ _ (by omega)]; rw [eI67, xup_row _ _ (by omega)]; rw [eI63, xup_row _ _ (by omega)]; rw [eI42, xzero_row _ _ (by omega)]; rw [eI39, xzero_row _ _ (by omega)]; rw [eI36, xzero_row _ _ (by omega)]; rw [eI33, xzero_row _ _ (by omega)]; rw [eI30, xzero_row _ _ (by omega)]; rw [eI27, xzero_row _ _ (by omega)]; rw [eI24, xzero_row _ _ (by omega)]; rw [eI21, xzero_row _ _ (by omega)]; rw [eI18, xzero_row _ _ (by omega)]; rw [eI13, xzero_row _ _ (by omega)]; rw [eI10, xzero_row _ _ (by omega)]; rw [eI7, xzero_row _ _ (by omega)]; rw [eI4, xzero_row _ _ (by omega)]; rw [eI1, xzero_row _ _ (by omega)], fun a h1 => by rw [hw89r3 _ (by omega)]; rw [eL42, xzero_row _ _ (by omega)]; rw [eL39, xzero_row _ _ (by omega)]; rw [eL36, xzero_row _ _ (by omega)]; rw [eL33, xzero_row _ _ (by omega)]; rw [eL30, xzero_row _ _ (by omega)]; rw [eL27, xzero_row _ _ (by omega)]; rw [eL24, xzero_row _ _ (by omega)]; rw [eL21, xzero_row _ _ (by omega)]; rw [eL18, xzero_row _ _ (by omega)]; rw [eL17, xup_row _ _ (by omega)]; rw [eL13, xzero_row _ _ (by omega)]; rw [eL10, xzero_row _ _ (by omega)]; rw [eL7, xzero_row _ _ (by omega)]; rw [eL4, xzero_row _ _ (by omega)]; rw [eL1, xzero_row _ _ (by omega)], fun j hj => (hw89r1 j hj).trans (hrow2 j hj), hb0, ⟨by rw [hw89r2 _ (by omega)]; rw [eI87, xup_row _ _ (by omega)]; rw [eI85, xup_row _ _ (by omega)]; rw [eI83, xup_row _ _ (by omega)]; rw [eI81, xup_row _ _ (by omega)]; rw [eI79, xup_row _ _ (by omega)]; rw [eI77, xup_row _ _ (by omega)]; rw [eI75, xup_row _ _ (by omega)]; rw [eI73, xup_row _ _ (by omega)]; rw [eI71, xup_row _ _ (by omega)]; rw [eI69, xup_row _ _ (by omega)]; rw [eI67, xup_row _ _ (by omega)]; rw [eI63, xup_row _ _ (by omega)]; rw [eI42, xzero_row _ _ (by omega)]; rw [eI39, xzero_row _ _ (by omega)]; rw [eI36, xzero_row _ _ (by omega)]; rw [eI33, xzero_row _ _ (by omega)]; rw [eI30, xzero_row _ _ (by omega)]; rw [eI27, xzero_row _ _ (by omega)]; rw [eI24, xzero_row _ _ (by omega)]; rw [eI21, xzero_row _ _ (by omega)]; rw [eI18, xzero_row _ _ (by omega)]; rw [eI13, xzero_row _ _ (by omega)]; rw [eI10, xzero_row _ _ (by omega)]; rw [eI7, xzero_row _ _ (by omega)]; rw [eI4, xzero_row _ _ (by omega)]; rw [eI1, xzero_row _ _ (by omega)]; exact hz2, by rw [hw89r2 _ (by omega)]; rw [eI87, xup_row _ _ (by omega)]; rw [eI85, xup_row _ _ (by omega)]; rw [eI83, xup_row _ _ (by omega)]; rw [eI81, xup_row _ _ (by omega)]; rw [eI79, xup_row _ _ (by omega)]; rw [eI77, xup_row _ _ (by omega)]; rw [eI75, xup_row _ _ (by omega)]; rw [eI73, xup_row _ _ (by omega)]; rw [eI71, xup_row _ _ (by omega)]; rw [eI69, xup_row _ _ (by omega)]; rw [eI67, xup_row _ _ (by omega)]; rw [eI63, xup_row _ _ (by omega)]; rw [eI42, xzero_row _ _ (by omega)]; rw [eI39, xzero_row _ _ (by omega)]; rw [eI36, xzero_row _ _ (by omega)]; rw [eI33, xzero_row _ _ (by omega)]; rw [eI30, xzero_row _ _ (by omega)]; rw [eI27, xzero_row _ _ (by omega)]; rw [eI24, xzero_row _ _ (by omega)]; rw [eI21, xzero_row _ _ (by omega)]; rw [eI18, xzero_row _ _ (by omega)]; rw [eI13, xzero_row _ _ (by omega)]; rw [eI10, xzero_row _ _ (by omega)]; rw [eI7, xzero_row _ _ (by omega)]; rw [eI4, xzero_row _ _ (by omega)]; rw [eI1, xzero_row _ _ (by omega)]; exact hz6, by rw [hw89r2 _ (by omega)]; rw [eI87, xup_row _ _ (by omega)]; rw [eI85, xup_row _ _ (by omega)]; rw [eI83, xup_row _ _ (by omega)]; rw [eI81, xup_row _ _ (by omega)]; rw [eI79, xup_row _ _ (by omega)]; rw [eI77, xup_row _ _ (by omega)]; rw [eI75, xup_row _ _ (by omega)]; rw [eI73, xup_row _ _ (by omega)]; rw [eI71, xup_row _ _ (by omega)]; rw [eI69, xup_row _ _ (by omega)]; rw [eI67, xup_row _ _ (by omega)]; rw [eI63, xup_row _ _ (by omega)]; rw [eI42, xzero_row _ _ (by omega)]; rw [eI39, xzero_row _ _ (by omega)]; rw [eI36, xzero_row _ _ (by omega)]; rw [eI33, xzero_row _ _ (by omega)]; rw [eI30, xzero_row _ _ (by omega)]; rw [eI27, xzero_row _ _ (by omega)]; rw [eI24, xzero_row _ _ (by omega)]; rw [eI21, xzero_row _ _ (by omega)]; rw [eI18, xzero_row _ _ (by omega)]; rw [eI13, xzero_row _ _ (by omega)]; rw [eI10, xzero_row _ _ (by omega)]; rw [eI7, xzero_row _ _ (by omega)]; rw [eI4, xzero_row _ _ (by omega)]; rw [eI1, xzero_row _ _ (by omega)]; exact hz18⟩, fun j => by rw [hw89r2 _ (by omega)]; rw [eI87, xup_row _ _ (by omega)]; rw [eI85, xup_row _ _ (by omega)]; rw [eI83, xup_row _ _ (by omega)]; rw [eI81, xup_row _ _ (by omega)]; rw [eI79, xup_row _ _ (by omega)]; rw [eI77, xup_row _ _ (by omega)]; rw [eI75, xup_row _ _ (by omega)]; rw [eI73, xup_row _ _ (by omega)]; rw [eI71, xup_row _ _ (by omega)]; rw [eI69, xup_row _ _ (by omega)]; rw [eI67, xup_row _ _ (by omega)]; rw [eI63, xup_row _ _ (by omega)]; rw [eI42, xzero_row _ _ (by omega)]; rw [eI39, xzero_row _ _ (by omega)]; rw [eI36, xzero_row _ _ (by omega)]; rw [eI33, xzero_row _ _ (by omega)]; rw [eI30, xzero_row _ _ (by omega)]; rw [eI27, xzero_row _ _ (by omega)]; rw [eI24, xzero_row _ _ (by omega)]; rw [eI21, xzero_row _ _ (by omega)]; rw [eI18, xzero_row _ _ (by omega)]; rw [eI13, xzero_row _ _ (by omega)]; rw [eI10, xzero_at]⟩
