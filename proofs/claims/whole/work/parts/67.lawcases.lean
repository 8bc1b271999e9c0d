/-! The law: its cases -/
section XC
variable {p : Program} {l : Launch} {e : Env} {s : State} {m : MethodId} {below : List Frame} {meth : Method} {c : Code} {D : xD} {z : Nat} {Q : State → Prop} {n : Nat} {G : xG} {I : xI} {L : xL} {b Ln k o A : Nat} {xs : Nat → Int32}
theorem lc_type (C : xOK p s m #[Value.ref b] meth c D z RL code 4 ret) (hX : va_X b Ln xs s s.heap) (hbl : b < s.heap.size) (hz : z = s.heap.size) (hk : k + 5 ≤ Ln) (hL : Ln ≤ 2560) (hW : shPT G o) (hM : shMo G A) (zo : z ≤ o) (hA : A = o + 345) (hR : relM I L o A)
    (kk : ∀ (I2 : xI) (L2 : xL), relM I2 L2 o A → X p l e room_1 s m #[Value.ref b] below meth c D z 4 Q 360 3003 n G I2 L2 527 [(3, .int (nI k)), (2, .ref A), (1, .ref o), (0, .ref b)] []) : X p l e room_1 s m #[Value.ref b] below meth c D z 4 Q 360 3003 n G I L 116 [(3, .int (nI k)), (2, .ref A), (1, .ref o), (0, .ref b)] [] := by
  obtain ⟨PX, hx, hi, hk1⟩ := b_type l D z n G I L o A hW hM zo hA hR (xs (k + 1))
  refine x_aload_n 116 C dL_116 rfl 2 rfl ?_
  refine x_sarg 117 C (j := 1) hX hbl hz (by omega) hL rfl rfl dL_117 dL_118 dL_119 (by decide) dL_120 dL_121 ?_
  refine x_callVp 122 C dL_122 (As := [.int (xs (k + 1))]) (rest := []) hx mt_X11_type km_L_13 ki_X11_type ks_X11_type hW.1 ⟨by decide, rfl⟩ rfl (Nat.le_of_ble_eq_true rfl) ⟨⟨by decide, by decide⟩, by decide, by decide⟩ (fun v I1 L1 hv => ?_)
  obtain ⟨PM, hm, hk2⟩ := hk1 v I1 L1 hv
  obtain ⟨a, rfl⟩ := hi v I1 L1 hv
  refine x_st [.int a] rfl ?_
  refine x_aload_n 125 C dL_125 rfl 1 rfl ?_
  refine x_sarg 126 C (j := 1) hX hbl hz (by omega) hL rfl rfl dL_126 dL_127 dL_128 (by decide) dL_129 dL_130 ?_
  refine x_callVp 131 C dL_131 (As := [.int (xs (k + 1))]) (rest := [.int a]) hm mt_X12_type km_L_17 ki_X12_type ks_X12_type hM.1 ⟨by decide, rfl⟩ rfl (Nat.le_of_ble_eq_true rfl) ⟨⟨by decide, by decide⟩, by decide, by decide⟩ (fun w I2 L2 hw => ?_)
  obtain ⟨a', ha, rfl, hR2⟩ := hk2 w I2 L2 hw
  cases ha
  refine x_st [.int a, .int a] rfl ?_
  refine x_icmp_eq 134 C 527 dL_134 (by decide) (fun _ => ?_) (fun h => absurd rfl h)
  exact kk I2 L2 hR2
theorem lc_wipe (C : xOK p s m #[Value.ref b] meth c D z RL code 4 ret) (hX : va_X b Ln xs s s.heap) (hbl : b < s.heap.size) (hz : z = s.heap.size) (hk : k + 5 ≤ Ln) (hL : Ln ≤ 2560) (hW : shPT G o) (hM : shMo G A) (zo : z ≤ o) (hA : A = o + 345) (hR : relM I L o A)
    (kk : ∀ (I2 : xI) (L2 : xL), relM I2 L2 o A → X p l e room_1 s m #[Value.ref b] below meth c D z 4 Q 360 3003 n G I2 L2 527 [(3, .int (nI k)), (2, .ref A), (1, .ref o), (0, .ref b)] []) : X p l e room_1 s m #[Value.ref b] below meth c D z 4 Q 360 3003 n G I L 139 [(3, .int (nI k)), (2, .ref A), (1, .ref o), (0, .ref b)] [] := by
  obtain ⟨PX, hx, hi, hk1⟩ := b_wipe l D z n G I L o A hW hM zo hA hR 
  refine x_aload_n 139 C dL_139 rfl 2 rfl ?_
  refine x_callVp 140 C dL_140 (As := []) (rest := []) hx mt_X11_wipe km_L_18 ki_X11_wipe ks_X11_wipe hW.1 ⟨by decide, rfl⟩ rfl (Nat.le_of_ble_eq_true rfl) ⟨⟨by decide, by decide⟩, by decide, by decide⟩ (fun v I1 L1 hv => ?_)
  obtain ⟨PM, hm, hk2⟩ := hk1 v I1 L1 hv
  obtain ⟨a, rfl⟩ := hi v I1 L1 hv
  refine x_st [.int a] rfl ?_
  refine x_aload_n 143 C dL_143 rfl 1 rfl ?_
  refine x_callVp 144 C dL_144 (As := []) (rest := [.int a]) hm mt_X12_wipe km_L_22 ki_X12_wipe ks_X12_wipe hM.1 ⟨by decide, rfl⟩ rfl (Nat.le_of_ble_eq_true rfl) ⟨⟨by decide, by decide⟩, by decide, by decide⟩ (fun w I2 L2 hw => ?_)
  obtain ⟨a', ha, rfl, hR2⟩ := hk2 w I2 L2 hw
  cases ha
  refine x_st [.int a, .int a] rfl ?_
  refine x_icmp_eq 147 C 527 dL_147 (by decide) (fun _ => ?_) (fun h => absurd rfl h)
  exact kk I2 L2 hR2
theorem lc_fault (C : xOK p s m #[Value.ref b] meth c D z RL code 4 ret) (hX : va_X b Ln xs s s.heap) (hbl : b < s.heap.size) (hz : z = s.heap.size) (hk : k + 5 ≤ Ln) (hL : Ln ≤ 2560) (hW : shPT G o) (hM : shMo G A) (zo : z ≤ o) (hA : A = o + 345) (hR : relM I L o A)
    (kk : ∀ (I2 : xI) (L2 : xL), relM I2 L2 o A → X p l e room_1 s m #[Value.ref b] below meth c D z 4 Q 360 3003 n G I2 L2 527 [(3, .int (nI k)), (2, .ref A), (1, .ref o), (0, .ref b)] []) : X p l e room_1 s m #[Value.ref b] below meth c D z 4 Q 360 3003 n G I L 152 [(3, .int (nI k)), (2, .ref A), (1, .ref o), (0, .ref b)] [] := by
  obtain ⟨PX, hx, hi, hk1⟩ := b_fault l D z n G I L o A hW hM zo hA hR 
  refine x_aload_n 152 C dL_152 rfl 2 rfl ?_
  refine x_callVp 153 C dL_153 (As := []) (rest := []) hx mt_X11_fault km_L_23 ki_X11_fault ks_X11_fault hW.1 ⟨by decide, rfl⟩ rfl (Nat.le_of_ble_eq_true rfl) ⟨⟨by decide, by decide⟩, by decide, by decide⟩ (fun v I1 L1 hv => ?_)
  obtain ⟨PM, hm, hk2⟩ := hk1 v I1 L1 hv
  obtain ⟨a, rfl⟩ := hi v I1 L1 hv
  refine x_st [.int a] rfl ?_
  refine x_aload_n 156 C dL_156 rfl 1 rfl ?_
  refine x_callVp 157 C dL_157 (As := []) (rest := [.int a]) hm mt_X12_fault km_L_26 ki_X12_fault ks_X12_fault hM.1 ⟨by decide, rfl⟩ rfl (Nat.le_of_ble_eq_true rfl) ⟨⟨by decide, by decide⟩, by decide, by decide⟩ (fun w I2 L2 hw => ?_)
  obtain ⟨a', ha, rfl, hR2⟩ := hk2 w I2 L2 hw
  cases ha
  refine x_st [.int a, .int a] rfl ?_
  refine x_icmp_eq 160 C 527 dL_160 (by decide) (fun _ => ?_) (fun h => absurd rfl h)
  exact kk I2 L2 hR2
theorem lc_equation (C : xOK p s m #[Value.ref b] meth c D z RL code 4 ret) (hX : va_X b Ln xs s s.heap) (hbl : b < s.heap.size) (hz : z = s.heap.size) (hk : k + 5 ≤ Ln) (hL : Ln ≤ 2560) (hW : shPT G o) (hM : shMo G A) (zo : z ≤ o) (hA : A = o + 345) (hR : relM I L o A)
    (kk : ∀ (I2 : xI) (L2 : xL), relM I2 L2 o A → X p l e room_1 s m #[Value.ref b] below meth c D z 4 Q 360 3003 n G I2 L2 527 [(3, .int (nI k)), (2, .ref A), (1, .ref o), (0, .ref b)] []) : X p l e room_1 s m #[Value.ref b] below meth c D z 4 Q 360 3003 n G I L 165 [(3, .int (nI k)), (2, .ref A), (1, .ref o), (0, .ref b)] [] := by
  obtain ⟨PX, hx, hi, hk1⟩ := b_equation l D z n G I L o A hW hM zo hA hR (xs (k + 1))
  refine x_aload_n 165 C dL_165 rfl 2 rfl ?_
  refine x_sarg 166 C (j := 1) hX hbl hz (by omega) hL rfl rfl dL_166 dL_167 dL_168 (by decide) dL_169 dL_170 ?_
  refine x_callVp 171 C dL_171 (As := [.int (xs (k + 1))]) (rest := []) hx mt_X11_equation km_L_27 ki_X11_equation ks_X11_equation hW.1 ⟨by decide, rfl⟩ rfl (Nat.le_of_ble_eq_true rfl) ⟨⟨by decide, by decide⟩, by decide, by decide⟩ (fun v I1 L1 hv => ?_)
  obtain ⟨PM, hm, hk2⟩ := hk1 v I1 L1 hv
  obtain ⟨a, rfl⟩ := hi v I1 L1 hv
  refine x_st [.int a] rfl ?_
  refine x_aload_n 174 C dL_174 rfl 1 rfl ?_
  refine x_sarg 175 C (j := 1) hX hbl hz (by omega) hL rfl rfl dL_175 dL_176 dL_177 (by decide) dL_178 dL_179 ?_
  refine x_callVp 180 C dL_180 (As := [.int (xs (k + 1))]) (rest := [.int a]) hm mt_X12_equation km_L_30 ki_X12_equation ks_X12_equation hM.1 ⟨by decide, rfl⟩ rfl (Nat.le_of_ble_eq_true rfl) ⟨⟨by decide, by decide⟩, by decide, by decide⟩ (fun w I2 L2 hw => ?_)
  obtain ⟨a', ha, rfl, hR2⟩ := hk2 w I2 L2 hw
  cases ha
  refine x_st [.int a, .int a] rfl ?_
  refine x_icmp_eq 183 C 527 dL_183 (by decide) (fun _ => ?_) (fun h => absurd rfl h)
  exact kk I2 L2 hR2
theorem lc_coefficient (C : xOK p s m #[Value.ref b] meth c D z RL code 4 ret) (hX : va_X b Ln xs s s.heap) (hbl : b < s.heap.size) (hz : z = s.heap.size) (hk : k + 5 ≤ Ln) (hL : Ln ≤ 2560) (hW : shPT G o) (hM : shMo G A) (zo : z ≤ o) (hA : A = o + 345) (hR : relM I L o A)
    (kk : ∀ (I2 : xI) (L2 : xL), relM I2 L2 o A → X p l e room_1 s m #[Value.ref b] below meth c D z 4 Q 360 3003 n G I2 L2 527 [(3, .int (nI k)), (2, .ref A), (1, .ref o), (0, .ref b)] []) : X p l e room_1 s m #[Value.ref b] below meth c D z 4 Q 360 3003 n G I L 188 [(3, .int (nI k)), (2, .ref A), (1, .ref o), (0, .ref b)] [] := by
  obtain ⟨PX, hx, hi, hk1⟩ := b_coefficient l D z n G I L o A hW hM zo hA hR (xs (k + 1)) (xs (k + 2)) (xs (k + 3)) (xs (k + 4))
  refine x_aload_n 188 C dL_188 rfl 2 rfl ?_
  refine x_sarg 189 C (j := 1) hX hbl hz (by omega) hL rfl rfl dL_189 dL_190 dL_191 (by decide) dL_192 dL_193 ?_
  refine x_sarg 194 C (j := 2) hX hbl hz (by omega) hL rfl rfl dL_194 dL_195 dL_196 (by decide) dL_197 dL_198 ?_
  refine x_sarg 199 C (j := 3) hX hbl hz (by omega) hL rfl rfl dL_199 dL_200 dL_201 (by decide) dL_202 dL_203 ?_
  refine x_sarg 204 C (j := 4) hX hbl hz (by omega) hL rfl rfl dL_204 dL_205 dL_206 (by decide) dL_207 dL_208 ?_
  refine x_callVp 209 C dL_209 (As := [.int (xs (k + 1)), .int (xs (k + 2)), .int (xs (k + 3)), .int (xs (k + 4))]) (rest := []) hx mt_X11_coefficient km_L_31 ki_X11_coefficient ks_X11_coefficient hW.1 ⟨by decide, rfl⟩ rfl (Nat.le_of_ble_eq_true rfl) ⟨⟨by decide, by decide⟩, by decide, by decide⟩ (fun v I1 L1 hv => ?_)
  obtain ⟨PM, hm, hk2⟩ := hk1 v I1 L1 hv
  obtain ⟨a, rfl⟩ := hi v I1 L1 hv
  refine x_st [.int a] rfl ?_
  refine x_aload_n 212 C dL_212 rfl 1 rfl ?_
  refine x_sarg 213 C (j := 1) hX hbl hz (by omega) hL rfl rfl dL_213 dL_214 dL_215 (by decide) dL_216 dL_217 ?_
  refine x_sarg 218 C (j := 2) hX hbl hz (by omega) hL rfl rfl dL_218 dL_219 dL_220 (by decide) dL_221 dL_222 ?_
  refine x_sarg 223 C (j := 3) hX hbl hz (by omega) hL rfl rfl dL_223 dL_224 dL_225 (by decide) dL_226 dL_227 ?_
  refine x_sarg 228 C (j := 4) hX hbl hz (by omega) hL rfl rfl dL_228 dL_229 dL_230 (by decide) dL_231 dL_232 ?_
  refine x_callVp 233 C dL_233 (As := [.int (xs (k + 1)), .int (xs (k + 2)), .int (xs (k + 3)), .int (xs (k + 4))]) (rest := [.int a]) hm mt_X12_coefficient km_L_35 ki_X12_coefficient ks_X12_coefficient hM.1 ⟨by decide, rfl⟩ rfl (Nat.le_of_ble_eq_true rfl) ⟨⟨by decide, by decide⟩, by decide, by decide⟩ (fun w I2 L2 hw => ?_)
  obtain ⟨a', ha, rfl, hR2⟩ := hk2 w I2 L2 hw
  cases ha
  refine x_st [.int a, .int a] rfl ?_
  refine x_icmp_eq 236 C 527 dL_236 (by decide) (fun _ => ?_) (fun h => absurd rfl h)
  exact kk I2 L2 hR2
theorem lc_track (C : xOK p s m #[Value.ref b] meth c D z RL code 4 ret) (hX : va_X b Ln xs s s.heap) (hbl : b < s.heap.size) (hz : z = s.heap.size) (hk : k + 5 ≤ Ln) (hL : Ln ≤ 2560) (hW : shPT G o) (hM : shMo G A) (zo : z ≤ o) (hA : A = o + 345) (hR : relM I L o A)
    (kk : ∀ (I2 : xI) (L2 : xL), relM I2 L2 o A → X p l e room_1 s m #[Value.ref b] below meth c D z 4 Q 360 3003 n G I2 L2 527 [(3, .int (nI k)), (2, .ref A), (1, .ref o), (0, .ref b)] []) : X p l e room_1 s m #[Value.ref b] below meth c D z 4 Q 360 3003 n G I L 241 [(3, .int (nI k)), (2, .ref A), (1, .ref o), (0, .ref b)] [] := by
  obtain ⟨PX, hx, hi, hk1⟩ := b_track l D z n G I L o A hW hM zo hA hR (xs (k + 1)) (xs (k + 2))
  refine x_aload_n 241 C dL_241 rfl 2 rfl ?_
  refine x_sarg 242 C (j := 1) hX hbl hz (by omega) hL rfl rfl dL_242 dL_243 dL_244 (by decide) dL_245 dL_246 ?_
  refine x_sarg 247 C (j := 2) hX hbl hz (by omega) hL rfl rfl dL_247 dL_248 dL_249 (by decide) dL_250 dL_251 ?_
  refine x_callVp 252 C dL_252 (As := [.int (xs (k + 1)), .int (xs (k + 2))]) (rest := []) hx mt_X11_track km_L_36 ki_X11_track ks_X11_track hW.1 ⟨by decide, rfl⟩ rfl (Nat.le_of_ble_eq_true rfl) ⟨⟨by decide, by decide⟩, by decide, by decide⟩ (fun v I1 L1 hv => ?_)
  obtain ⟨PM, hm, hk2⟩ := hk1 v I1 L1 hv
  obtain ⟨a, rfl⟩ := hi v I1 L1 hv
  refine x_st [.int a] rfl ?_
  refine x_aload_n 255 C dL_255 rfl 1 rfl ?_
  refine x_sarg 256 C (j := 1) hX hbl hz (by omega) hL rfl rfl dL_256 dL_257 dL_258 (by decide) dL_259 dL_260 ?_
  refine x_sarg 261 C (j := 2) hX hbl hz (by omega) hL rfl rfl dL_261 dL_262 dL_263 (by decide) dL_264 dL_265 ?_
  refine x_callVp 266 C dL_266 (As := [.int (xs (k + 1)), .int (xs (k + 2))]) (rest := [.int a]) hm mt_X12_track km_L_40 ki_X12_track ks_X12_track hM.1 ⟨by decide, rfl⟩ rfl (Nat.le_of_ble_eq_true rfl) ⟨⟨by decide, by decide⟩, by decide, by decide⟩ (fun w I2 L2 hw => ?_)
  obtain ⟨a', ha, rfl, hR2⟩ := hk2 w I2 L2 hw
  cases ha
  refine x_st [.int a, .int a] rfl ?_
  refine x_icmp_eq 269 C 527 dL_269 (by decide) (fun _ => ?_) (fun h => absurd rfl h)
  exact kk I2 L2 hR2
theorem lc_trackAll (C : xOK p s m #[Value.ref b] meth c D z RL code 4 ret) (hX : va_X b Ln xs s s.heap) (hbl : b < s.heap.size) (hz : z = s.heap.size) (hk : k + 5 ≤ Ln) (hL : Ln ≤ 2560) (hW : shPT G o) (hM : shMo G A) (zo : z ≤ o) (hA : A = o + 345) (hR : relM I L o A)
    (kk : ∀ (I2 : xI) (L2 : xL), relM I2 L2 o A → X p l e room_1 s m #[Value.ref b] below meth c D z 4 Q 360 3003 n G I2 L2 527 [(3, .int (nI k)), (2, .ref A), (1, .ref o), (0, .ref b)] []) : X p l e room_1 s m #[Value.ref b] below meth c D z 4 Q 360 3003 n G I L 274 [(3, .int (nI k)), (2, .ref A), (1, .ref o), (0, .ref b)] [] := by
  obtain ⟨PX, hx, hi, hk1⟩ := b_trackAll l D z n G I L o A hW hM zo hA hR (xs (k + 1))
  refine x_aload_n 274 C dL_274 rfl 2 rfl ?_
  refine x_sarg 275 C (j := 1) hX hbl hz (by omega) hL rfl rfl dL_275 dL_276 dL_277 (by decide) dL_278 dL_279 ?_
  refine x_callVp 280 C dL_280 (As := [.int (xs (k + 1))]) (rest := []) hx mt_X11_trackAll km_L_41 ki_X11_trackAll ks_X11_trackAll hW.1 ⟨by decide, rfl⟩ rfl (Nat.le_of_ble_eq_true rfl) ⟨⟨by decide, by decide⟩, by decide, by decide⟩ (fun v I1 L1 hv => ?_)
  obtain ⟨PM, hm, hk2⟩ := hk1 v I1 L1 hv
  obtain ⟨a, rfl⟩ := hi v I1 L1 hv
  refine x_st [.int a] rfl ?_
  refine x_aload_n 283 C dL_283 rfl 1 rfl ?_
  refine x_sarg 284 C (j := 1) hX hbl hz (by omega) hL rfl rfl dL_284 dL_285 dL_286 (by decide) dL_287 dL_288 ?_
  refine x_callVp 289 C dL_289 (As := [.int (xs (k + 1))]) (rest := [.int a]) hm mt_X12_trackAll km_L_44 ki_X12_trackAll ks_X12_trackAll hM.1 ⟨by decide, rfl⟩ rfl (Nat.le_of_ble_eq_true rfl) ⟨⟨by decide, by decide⟩, by decide, by decide⟩ (fun w I2 L2 hw => ?_)
  obtain ⟨a', ha, rfl, hR2⟩ := hk2 w I2 L2 hw
  cases ha
  refine x_st [.int a, .int a] rfl ?_
  refine x_icmp_eq 292 C 527 dL_292 (by decide) (fun _ => ?_) (fun h => absurd rfl h)
  exact kk I2 L2 hR2
theorem lc_again (C : xOK p s m #[Value.ref b] meth c D z RL code 4 ret) (hX : va_X b Ln xs s s.heap) (hbl : b < s.heap.size) (hz : z = s.heap.size) (hk : k + 5 ≤ Ln) (hL : Ln ≤ 2560) (hW : shPT G o) (hM : shMo G A) (zo : z ≤ o) (hA : A = o + 345) (hR : relM I L o A)
    (kk : ∀ (I2 : xI) (L2 : xL), relM I2 L2 o A → X p l e room_1 s m #[Value.ref b] below meth c D z 4 Q 360 3003 n G I2 L2 527 [(3, .int (nI k)), (2, .ref A), (1, .ref o), (0, .ref b)] []) : X p l e room_1 s m #[Value.ref b] below meth c D z 4 Q 360 3003 n G I L 297 [(3, .int (nI k)), (2, .ref A), (1, .ref o), (0, .ref b)] [] := by
  obtain ⟨PX, hx, hi, hk1⟩ := b_again l D z n G I L o A hW hM zo hA hR (xs (k + 1))
  refine x_aload_n 297 C dL_297 rfl 2 rfl ?_
  refine x_sarg 298 C (j := 1) hX hbl hz (by omega) hL rfl rfl dL_298 dL_299 dL_300 (by decide) dL_301 dL_302 ?_
  refine x_callVp 303 C dL_303 (As := [.int (xs (k + 1))]) (rest := []) hx mt_X11_again km_L_45 ki_X11_again ks_X11_again hW.1 ⟨by decide, rfl⟩ rfl (Nat.le_of_ble_eq_true rfl) ⟨⟨by decide, by decide⟩, by decide, by decide⟩ (fun v I1 L1 hv => ?_)
  obtain ⟨PM, hm, hk2⟩ := hk1 v I1 L1 hv
  obtain ⟨a, rfl⟩ := hi v I1 L1 hv
  refine x_st [.int a] rfl ?_
  refine x_aload_n 306 C dL_306 rfl 1 rfl ?_
  refine x_sarg 307 C (j := 1) hX hbl hz (by omega) hL rfl rfl dL_307 dL_308 dL_309 (by decide) dL_310 dL_311 ?_
  refine x_callVp 312 C dL_312 (As := [.int (xs (k + 1))]) (rest := [.int a]) hm mt_X12_again km_L_48 ki_X12_again ks_X12_again hM.1 ⟨by decide, rfl⟩ rfl (Nat.le_of_ble_eq_true rfl) ⟨⟨by decide, by decide⟩, by decide, by decide⟩ (fun w I2 L2 hw => ?_)
  obtain ⟨a', ha, rfl, hR2⟩ := hk2 w I2 L2 hw
  cases ha
  refine x_st [.int a, .int a] rfl ?_
  refine x_icmp_eq 315 C 527 dL_315 (by decide) (fun _ => ?_) (fun h => absurd rfl h)
  exact kk I2 L2 hR2
theorem lc_path (C : xOK p s m #[Value.ref b] meth c D z RL code 4 ret) (hX : va_X b Ln xs s s.heap) (hbl : b < s.heap.size) (hz : z = s.heap.size) (hk : k + 5 ≤ Ln) (hL : Ln ≤ 2560) (hW : shPT G o) (hM : shMo G A) (zo : z ≤ o) (hA : A = o + 345) (hR : relM I L o A)
    (kk : ∀ (I2 : xI) (L2 : xL), relM I2 L2 o A → X p l e room_1 s m #[Value.ref b] below meth c D z 4 Q 360 3003 n G I2 L2 527 [(3, .int (nI k)), (2, .ref A), (1, .ref o), (0, .ref b)] []) : X p l e room_1 s m #[Value.ref b] below meth c D z 4 Q 360 3003 n G I L 320 [(3, .int (nI k)), (2, .ref A), (1, .ref o), (0, .ref b)] [] := by
  obtain ⟨PX, hx, hi, hk1⟩ := b_path l D z n G I L o A hW hM zo hA hR (xs (k + 1)) (xs (k + 2))
  refine x_aload_n 320 C dL_320 rfl 2 rfl ?_
  refine x_sarg 321 C (j := 1) hX hbl hz (by omega) hL rfl rfl dL_321 dL_322 dL_323 (by decide) dL_324 dL_325 ?_
  refine x_sarg 326 C (j := 2) hX hbl hz (by omega) hL rfl rfl dL_326 dL_327 dL_328 (by decide) dL_329 dL_330 ?_
  refine x_callVp 331 C dL_331 (As := [.int (xs (k + 1)), .int (xs (k + 2))]) (rest := []) hx mt_X11_path km_L_49 ki_X11_path ks_X11_path hW.1 ⟨by decide, rfl⟩ rfl (Nat.le_of_ble_eq_true rfl) ⟨⟨by decide, by decide⟩, by decide, by decide⟩ (fun v I1 L1 hv => ?_)
  obtain ⟨PM, hm, hk2⟩ := hk1 v I1 L1 hv
  obtain ⟨a, rfl⟩ := hi v I1 L1 hv
  refine x_st [.int a] rfl ?_
  refine x_aload_n 334 C dL_334 rfl 1 rfl ?_
  refine x_sarg 335 C (j := 1) hX hbl hz (by omega) hL rfl rfl dL_335 dL_336 dL_337 (by decide) dL_338 dL_339 ?_
  refine x_sarg 340 C (j := 2) hX hbl hz (by omega) hL rfl rfl dL_340 dL_341 dL_342 (by decide) dL_343 dL_344 ?_
  refine x_callVp 345 C dL_345 (As := [.int (xs (k + 1)), .int (xs (k + 2))]) (rest := [.int a]) hm mt_X12_path km_L_52 ki_X12_path ks_X12_path hM.1 ⟨by decide, rfl⟩ rfl (Nat.le_of_ble_eq_true rfl) ⟨⟨by decide, by decide⟩, by decide, by decide⟩ (fun w I2 L2 hw => ?_)
  obtain ⟨a', ha, rfl, hR2⟩ := hk2 w I2 L2 hw
  cases ha
  refine x_st [.int a, .int a] rfl ?_
  refine x_icmp_eq 348 C 527 dL_348 (by decide) (fun _ => ?_) (fun h => absurd rfl h)
  exact kk I2 L2 hR2
theorem lc_meets (C : xOK p s m #[Value.ref b] meth c D z RL code 4 ret) (hX : va_X b Ln xs s s.heap) (hbl : b < s.heap.size) (hz : z = s.heap.size) (hk : k + 5 ≤ Ln) (hL : Ln ≤ 2560) (hW : shPT G o) (hM : shMo G A) (zo : z ≤ o) (hA : A = o + 345) (hR : relM I L o A)
    (kk : ∀ (I2 : xI) (L2 : xL), relM I2 L2 o A → X p l e room_1 s m #[Value.ref b] below meth c D z 4 Q 360 3003 n G I2 L2 527 [(3, .int (nI k)), (2, .ref A), (1, .ref o), (0, .ref b)] []) : X p l e room_1 s m #[Value.ref b] below meth c D z 4 Q 360 3003 n G I L 353 [(3, .int (nI k)), (2, .ref A), (1, .ref o), (0, .ref b)] [] := by
  obtain ⟨PX, hx, hi, hk1⟩ := b_meets l D z n G I L o A hW hM zo hA hR (xs (k + 1))
  refine x_aload_n 353 C dL_353 rfl 2 rfl ?_
  refine x_sarg 354 C (j := 1) hX hbl hz (by omega) hL rfl rfl dL_354 dL_355 dL_356 (by decide) dL_357 dL_358 ?_
  refine x_callVp 359 C dL_359 (As := [.int (xs (k + 1))]) (rest := []) hx mt_X11_meets km_L_53 ki_X11_meets ks_X11_meets hW.1 ⟨by decide, rfl⟩ rfl (Nat.le_of_ble_eq_true rfl) ⟨⟨by decide, by decide⟩, by decide, by decide⟩ (fun v I1 L1 hv => ?_)
  obtain ⟨PM, hm, hk2⟩ := hk1 v I1 L1 hv
  obtain ⟨a, rfl⟩ := hi v I1 L1 hv
  refine x_st [.int a] rfl ?_
  refine x_aload_n 362 C dL_362 rfl 1 rfl ?_
  refine x_sarg 363 C (j := 1) hX hbl hz (by omega) hL rfl rfl dL_363 dL_364 dL_365 (by decide) dL_366 dL_367 ?_
  refine x_callVp 368 C dL_368 (As := [.int (xs (k + 1))]) (rest := [.int a]) hm mt_X12_meets km_L_56 ki_X12_meets ks_X12_meets hM.1 ⟨by decide, rfl⟩ rfl (Nat.le_of_ble_eq_true rfl) ⟨⟨by decide, by decide⟩, by decide, by decide⟩ (fun w I2 L2 hw => ?_)
  obtain ⟨a', ha, rfl, hR2⟩ := hk2 w I2 L2 hw
  cases ha
  refine x_st [.int a, .int a] rfl ?_
  refine x_icmp_eq 371 C 527 dL_371 (by decide) (fun _ => ?_) (fun h => absurd rfl h)
  exact kk I2 L2 hR2
theorem lc_next (C : xOK p s m #[Value.ref b] meth c D z RL code 4 ret) (hX : va_X b Ln xs s s.heap) (hbl : b < s.heap.size) (hz : z = s.heap.size) (hk : k + 5 ≤ Ln) (hL : Ln ≤ 2560) (hW : shPT G o) (hM : shMo G A) (zo : z ≤ o) (hA : A = o + 345) (hR : relM I L o A)
    (kk : ∀ (I2 : xI) (L2 : xL), relM I2 L2 o A → X p l e room_1 s m #[Value.ref b] below meth c D z 4 Q 360 3003 n G I2 L2 527 [(3, .int (nI k)), (2, .ref A), (1, .ref o), (0, .ref b)] []) : X p l e room_1 s m #[Value.ref b] below meth c D z 4 Q 360 3003 n G I L 376 [(3, .int (nI k)), (2, .ref A), (1, .ref o), (0, .ref b)] [] := by
  obtain ⟨PX, hx, hi, hk1⟩ := b_next l D z n G I L o A hW hM zo hA hR 
  refine x_aload_n 376 C dL_376 rfl 2 rfl ?_
  refine x_callVp 377 C dL_377 (As := []) (rest := []) hx mt_X11_next km_L_57 ki_X11_next ks_X11_next hW.1 ⟨by decide, rfl⟩ rfl (Nat.le_of_ble_eq_true rfl) ⟨⟨by decide, by decide⟩, by decide, by decide⟩ (fun v I1 L1 hv => ?_)
  obtain ⟨PM, hm, hk2⟩ := hk1 v I1 L1 hv
  obtain ⟨a, rfl⟩ := hi v I1 L1 hv
  refine x_st [.int a] rfl ?_
  refine x_aload_n 380 C dL_380 rfl 1 rfl ?_
  refine x_callVp 381 C dL_381 (As := []) (rest := [.int a]) hm mt_X12_next km_L_60 ki_X12_next ks_X12_next hM.1 ⟨by decide, rfl⟩ rfl (Nat.le_of_ble_eq_true rfl) ⟨⟨by decide, by decide⟩, by decide, by decide⟩ (fun w I2 L2 hw => ?_)
  obtain ⟨a', ha, rfl, hR2⟩ := hk2 w I2 L2 hw
  cases ha
  refine x_st [.int a, .int a] rfl ?_
  refine x_icmp_eq 384 C 527 dL_384 (by decide) (fun _ => ?_) (fun h => absurd rfl h)
  exact kk I2 L2 hR2
theorem lc_endAt (C : xOK p s m #[Value.ref b] meth c D z RL code 4 ret) (hX : va_X b Ln xs s s.heap) (hbl : b < s.heap.size) (hz : z = s.heap.size) (hk : k + 5 ≤ Ln) (hL : Ln ≤ 2560) (hW : shPT G o) (hM : shMo G A) (zo : z ≤ o) (hA : A = o + 345) (hR : relM I L o A)
    (kk : ∀ (I2 : xI) (L2 : xL), relM I2 L2 o A → X p l e room_1 s m #[Value.ref b] below meth c D z 4 Q 360 3003 n G I2 L2 527 [(3, .int (nI k)), (2, .ref A), (1, .ref o), (0, .ref b)] []) : X p l e room_1 s m #[Value.ref b] below meth c D z 4 Q 360 3003 n G I L 389 [(3, .int (nI k)), (2, .ref A), (1, .ref o), (0, .ref b)] [] := by
  obtain ⟨PX, hx, hi, hk1⟩ := b_endAt l D z n G I L o A hW hM zo hA hR (xs (k + 1))
  refine x_aload_n 389 C dL_389 rfl 2 rfl ?_
  refine x_sarg 390 C (j := 1) hX hbl hz (by omega) hL rfl rfl dL_390 dL_391 dL_392 (by decide) dL_393 dL_394 ?_
  refine x_callVp 395 C dL_395 (As := [.int (xs (k + 1))]) (rest := []) hx mt_X11_endAt km_L_61 ki_X11_endAt ks_X11_endAt hW.1 ⟨by decide, rfl⟩ rfl (Nat.le_of_ble_eq_true rfl) ⟨⟨by decide, by decide⟩, by decide, by decide⟩ (fun v I1 L1 hv => ?_)
  obtain ⟨PM, hm, hk2⟩ := hk1 v I1 L1 hv
  obtain ⟨a, rfl⟩ := hi v I1 L1 hv
  refine x_st [.int a] rfl ?_
  refine x_aload_n 398 C dL_398 rfl 1 rfl ?_
  refine x_sarg 399 C (j := 1) hX hbl hz (by omega) hL rfl rfl dL_399 dL_400 dL_401 (by decide) dL_402 dL_403 ?_
  refine x_callVp 404 C dL_404 (As := [.int (xs (k + 1))]) (rest := [.int a]) hm mt_X12_endAt km_L_64 ki_X12_endAt ks_X12_endAt hM.1 ⟨by decide, rfl⟩ rfl (Nat.le_of_ble_eq_true rfl) ⟨⟨by decide, by decide⟩, by decide, by decide⟩ (fun w I2 L2 hw => ?_)
  obtain ⟨a', ha, rfl, hR2⟩ := hk2 w I2 L2 hw
  cases ha
  refine x_st [.int a, .int a] rfl ?_
  refine x_icmp_eq 407 C 527 dL_407 (by decide) (fun _ => ?_) (fun h => absurd rfl h)
  exact kk I2 L2 hR2
theorem lc_set (C : xOK p s m #[Value.ref b] meth c D z RL code 4 ret) (hX : va_X b Ln xs s s.heap) (hbl : b < s.heap.size) (hz : z = s.heap.size) (hk : k + 5 ≤ Ln) (hL : Ln ≤ 2560) (hW : shPT G o) (hM : shMo G A) (zo : z ≤ o) (hA : A = o + 345) (hR : relM I L o A)
    (kk : ∀ (I2 : xI) (L2 : xL), relM I2 L2 o A → X p l e room_1 s m #[Value.ref b] below meth c D z 4 Q 360 3003 n G I2 L2 527 [(3, .int (nI k)), (2, .ref A), (1, .ref o), (0, .ref b)] []) : X p l e room_1 s m #[Value.ref b] below meth c D z 4 Q 360 3003 n G I L 412 [(3, .int (nI k)), (2, .ref A), (1, .ref o), (0, .ref b)] [] := by
  obtain ⟨PX, hx, hi, hk1⟩ := b_set l D z n G I L o A hW hM zo hA hR (xs (k + 1)) (xs (k + 2))
  refine x_aload_n 412 C dL_412 rfl 2 rfl ?_
  refine x_sarg 413 C (j := 1) hX hbl hz (by omega) hL rfl rfl dL_413 dL_414 dL_415 (by decide) dL_416 dL_417 ?_
  refine x_sarg 418 C (j := 2) hX hbl hz (by omega) hL rfl rfl dL_418 dL_419 dL_420 (by decide) dL_421 dL_422 ?_
  refine x_callVp 423 C dL_423 (As := [.int (xs (k + 1)), .int (xs (k + 2))]) (rest := []) hx mt_X11_set km_L_65 ki_X11_set ks_X11_set hW.1 ⟨by decide, rfl⟩ rfl (Nat.le_of_ble_eq_true rfl) ⟨⟨by decide, by decide⟩, by decide, by decide⟩ (fun v I1 L1 hv => ?_)
  obtain ⟨PM, hm, hk2⟩ := hk1 v I1 L1 hv
  obtain ⟨a, rfl⟩ := hi v I1 L1 hv
  refine x_st [.int a] rfl ?_
  refine x_aload_n 426 C dL_426 rfl 1 rfl ?_
  refine x_sarg 427 C (j := 1) hX hbl hz (by omega) hL rfl rfl dL_427 dL_428 dL_429 (by decide) dL_430 dL_431 ?_
  refine x_sarg 432 C (j := 2) hX hbl hz (by omega) hL rfl rfl dL_432 dL_433 dL_434 (by decide) dL_435 dL_436 ?_
  refine x_callVp 437 C dL_437 (As := [.int (xs (k + 1)), .int (xs (k + 2))]) (rest := [.int a]) hm mt_X12_set km_L_68 ki_X12_set ks_X12_set hM.1 ⟨by decide, rfl⟩ rfl (Nat.le_of_ble_eq_true rfl) ⟨⟨by decide, by decide⟩, by decide, by decide⟩ (fun w I2 L2 hw => ?_)
  obtain ⟨a', ha, rfl, hR2⟩ := hk2 w I2 L2 hw
  cases ha
  refine x_st [.int a, .int a] rfl ?_
  refine x_icmp_eq 440 C 527 dL_440 (by decide) (fun _ => ?_) (fun h => absurd rfl h)
  exact kk I2 L2 hR2
theorem lc_count (C : xOK p s m #[Value.ref b] meth c D z RL code 4 ret) (hX : va_X b Ln xs s s.heap) (hbl : b < s.heap.size) (hz : z = s.heap.size) (hk : k + 5 ≤ Ln) (hL : Ln ≤ 2560) (hW : shPT G o) (hM : shMo G A) (zo : z ≤ o) (hA : A = o + 345) (hR : relM I L o A)
    (kk : ∀ (I2 : xI) (L2 : xL), relM I2 L2 o A → X p l e room_1 s m #[Value.ref b] below meth c D z 4 Q 360 3003 n G I2 L2 527 [(3, .int (nI k)), (2, .ref A), (1, .ref o), (0, .ref b)] []) : X p l e room_1 s m #[Value.ref b] below meth c D z 4 Q 360 3003 n G I L 445 [(3, .int (nI k)), (2, .ref A), (1, .ref o), (0, .ref b)] [] := by
  obtain ⟨PX, hx, hi, hk1⟩ := b_count l D z n G I L o A hW hM zo hA hR (xs (k + 1))
  refine x_aload_n 445 C dL_445 rfl 2 rfl ?_
  refine x_sarg 446 C (j := 1) hX hbl hz (by omega) hL rfl rfl dL_446 dL_447 dL_448 (by decide) dL_449 dL_450 ?_
  refine x_callVp 451 C dL_451 (As := [.int (xs (k + 1))]) (rest := []) hx mt_X11_count km_L_69 ki_X11_count ks_X11_count hW.1 ⟨by decide, rfl⟩ rfl (Nat.le_of_ble_eq_true rfl) ⟨⟨by decide, by decide⟩, by decide, by decide⟩ (fun v I1 L1 hv => ?_)
  obtain ⟨PM, hm, hk2⟩ := hk1 v I1 L1 hv
  obtain ⟨a, rfl⟩ := hi v I1 L1 hv
  refine x_st [.int a] rfl ?_
  refine x_aload_n 454 C dL_454 rfl 1 rfl ?_
  refine x_sarg 455 C (j := 1) hX hbl hz (by omega) hL rfl rfl dL_455 dL_456 dL_457 (by decide) dL_458 dL_459 ?_
  refine x_callVp 460 C dL_460 (As := [.int (xs (k + 1))]) (rest := [.int a]) hm mt_X12_count km_L_72 ki_X12_count ks_X12_count hM.1 ⟨by decide, rfl⟩ rfl (Nat.le_of_ble_eq_true rfl) ⟨⟨by decide, by decide⟩, by decide, by decide⟩ (fun w I2 L2 hw => ?_)
  obtain ⟨a', ha, rfl, hR2⟩ := hk2 w I2 L2 hw
  cases ha
  refine x_st [.int a, .int a] rfl ?_
  refine x_icmp_eq 463 C 527 dL_463 (by decide) (fun _ => ?_) (fun h => absurd rfl h)
  exact kk I2 L2 hR2
theorem lc_undo (C : xOK p s m #[Value.ref b] meth c D z RL code 4 ret) (hX : va_X b Ln xs s s.heap) (hbl : b < s.heap.size) (hz : z = s.heap.size) (hk : k + 5 ≤ Ln) (hL : Ln ≤ 2560) (hW : shPT G o) (hM : shMo G A) (zo : z ≤ o) (hA : A = o + 345) (hR : relM I L o A)
    (kk : ∀ (I2 : xI) (L2 : xL), relM I2 L2 o A → X p l e room_1 s m #[Value.ref b] below meth c D z 4 Q 360 3003 n G I2 L2 527 [(3, .int (nI k)), (2, .ref A), (1, .ref o), (0, .ref b)] []) : X p l e room_1 s m #[Value.ref b] below meth c D z 4 Q 360 3003 n G I L 468 [(3, .int (nI k)), (2, .ref A), (1, .ref o), (0, .ref b)] [] := by
  obtain ⟨PX, hx, hi, hk1⟩ := b_undo l D z n G I L o A hW hM zo hA hR 
  refine x_aload_n 468 C dL_468 rfl 2 rfl ?_
  refine x_callVp 469 C dL_469 (As := []) (rest := []) hx mt_X11_undo km_L_73 ki_X11_undo ks_X11_undo hW.1 ⟨by decide, rfl⟩ rfl (Nat.le_of_ble_eq_true rfl) ⟨⟨by decide, by decide⟩, by decide, by decide⟩ (fun v I1 L1 hv => ?_)
  obtain ⟨PM, hm, hk2⟩ := hk1 v I1 L1 hv
  obtain ⟨a, rfl⟩ := hi v I1 L1 hv
  refine x_st [.int a] rfl ?_
  refine x_aload_n 472 C dL_472 rfl 1 rfl ?_
  refine x_callVp 473 C dL_473 (As := []) (rest := [.int a]) hm mt_X12_undo km_L_76 ki_X12_undo ks_X12_undo hM.1 ⟨by decide, rfl⟩ rfl (Nat.le_of_ble_eq_true rfl) ⟨⟨by decide, by decide⟩, by decide, by decide⟩ (fun w I2 L2 hw => ?_)
  obtain ⟨a', ha, rfl, hR2⟩ := hk2 w I2 L2 hw
  cases ha
  refine x_st [.int a, .int a] rfl ?_
  refine x_icmp_eq 476 C 527 dL_476 (by decide) (fun _ => ?_) (fun h => absurd rfl h)
  exact kk I2 L2 hR2
theorem lc_save (C : xOK p s m #[Value.ref b] meth c D z RL code 4 ret) (hX : va_X b Ln xs s s.heap) (hbl : b < s.heap.size) (hz : z = s.heap.size) (hk : k + 5 ≤ Ln) (hL : Ln ≤ 2560) (hW : shPT G o) (hM : shMo G A) (zo : z ≤ o) (hA : A = o + 345) (hR : relM I L o A)
    (kk : ∀ (I2 : xI) (L2 : xL), relM I2 L2 o A → X p l e room_1 s m #[Value.ref b] below meth c D z 4 Q 360 3003 n G I2 L2 527 [(3, .int (nI k)), (2, .ref A), (1, .ref o), (0, .ref b)] []) : X p l e room_1 s m #[Value.ref b] below meth c D z 4 Q 360 3003 n G I L 481 [(3, .int (nI k)), (2, .ref A), (1, .ref o), (0, .ref b)] [] := by
  obtain ⟨PX, hx, hi, hk1⟩ := b_save l D z n G I L o A hW hM zo hA hR (xs (k + 1))
  refine x_aload_n 481 C dL_481 rfl 2 rfl ?_
  refine x_sarg 482 C (j := 1) hX hbl hz (by omega) hL rfl rfl dL_482 dL_483 dL_484 (by decide) dL_485 dL_486 ?_
  refine x_callVp 487 C dL_487 (As := [.int (xs (k + 1))]) (rest := []) hx mt_X11_save km_L_77 ki_X11_save ks_X11_save hW.1 ⟨by decide, rfl⟩ rfl (Nat.le_of_ble_eq_true rfl) ⟨⟨by decide, by decide⟩, by decide, by decide⟩ (fun v I1 L1 hv => ?_)
  obtain ⟨PM, hm, hk2⟩ := hk1 v I1 L1 hv
  obtain ⟨a, rfl⟩ := hi v I1 L1 hv
  refine x_st [.int a] rfl ?_
  refine x_aload_n 490 C dL_490 rfl 1 rfl ?_
  refine x_sarg 491 C (j := 1) hX hbl hz (by omega) hL rfl rfl dL_491 dL_492 dL_493 (by decide) dL_494 dL_495 ?_
  refine x_callVp 496 C dL_496 (As := [.int (xs (k + 1))]) (rest := [.int a]) hm mt_X12_save km_L_80 ki_X12_save ks_X12_save hM.1 ⟨by decide, rfl⟩ rfl (Nat.le_of_ble_eq_true rfl) ⟨⟨by decide, by decide⟩, by decide, by decide⟩ (fun w I2 L2 hw => ?_)
  obtain ⟨a', ha, rfl, hR2⟩ := hk2 w I2 L2 hw
  cases ha
  refine x_st [.int a, .int a] rfl ?_
  refine x_icmp_eq 499 C 527 dL_499 (by decide) (fun _ => ?_) (fun h => absurd rfl h)
  exact kk I2 L2 hR2
theorem lc_restore (C : xOK p s m #[Value.ref b] meth c D z RL code 4 ret) (hX : va_X b Ln xs s s.heap) (hbl : b < s.heap.size) (hz : z = s.heap.size) (hk : k + 5 ≤ Ln) (hL : Ln ≤ 2560) (hW : shPT G o) (hM : shMo G A) (zo : z ≤ o) (hA : A = o + 345) (hR : relM I L o A)
    (kk : ∀ (I2 : xI) (L2 : xL), relM I2 L2 o A → X p l e room_1 s m #[Value.ref b] below meth c D z 4 Q 360 3003 n G I2 L2 527 [(3, .int (nI k)), (2, .ref A), (1, .ref o), (0, .ref b)] []) : X p l e room_1 s m #[Value.ref b] below meth c D z 4 Q 360 3003 n G I L 504 [(3, .int (nI k)), (2, .ref A), (1, .ref o), (0, .ref b)] [] := by
  obtain ⟨PX, hx, hi, hk1⟩ := b_restore l D z n G I L o A hW hM zo hA hR (xs (k + 1))
  refine x_aload_n 504 C dL_504 rfl 2 rfl ?_
  refine x_sarg 505 C (j := 1) hX hbl hz (by omega) hL rfl rfl dL_505 dL_506 dL_507 (by decide) dL_508 dL_509 ?_
  refine x_callVp 510 C dL_510 (As := [.int (xs (k + 1))]) (rest := []) hx mt_X11_restore km_L_81 ki_X11_restore ks_X11_restore hW.1 ⟨by decide, rfl⟩ rfl (Nat.le_of_ble_eq_true rfl) ⟨⟨by decide, by decide⟩, by decide, by decide⟩ (fun v I1 L1 hv => ?_)
  obtain ⟨PM, hm, hk2⟩ := hk1 v I1 L1 hv
  obtain ⟨a, rfl⟩ := hi v I1 L1 hv
  refine x_st [.int a] rfl ?_
  refine x_aload_n 513 C dL_513 rfl 1 rfl ?_
  refine x_sarg 514 C (j := 1) hX hbl hz (by omega) hL rfl rfl dL_514 dL_515 dL_516 (by decide) dL_517 dL_518 ?_
  refine x_callVp 519 C dL_519 (As := [.int (xs (k + 1))]) (rest := [.int a]) hm mt_X12_restore km_L_84 ki_X12_restore ks_X12_restore hM.1 ⟨by decide, rfl⟩ rfl (Nat.le_of_ble_eq_true rfl) ⟨⟨by decide, by decide⟩, by decide, by decide⟩ (fun w I2 L2 hw => ?_)
  obtain ⟨a', ha, rfl, hR2⟩ := hk2 w I2 L2 hw
  cases ha
  refine x_st [.int a, .int a] rfl ?_
  refine x_icmp_eq 522 C 527 dL_522 (by decide) (fun _ => ?_) (fun h => absurd rfl h)
  exact kk I2 L2 hR2
end XC
