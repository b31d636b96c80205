section LawCases
variable {nm : String}
set_option maxHeartbeats 4000000 in
set_option maxRecDepth 100000 in
theorem law_c0 {E : hEv} {K : hKv} (C : hCx E K cL_law 4 RL nm room_1) {b L : Nat} {xs : Nat → Int32} (S : hSc E b L xs) (hL : L ≤ 3072) {A B : Nat → Nat} {σ : hSt} {M : hM} (X : cX K A σ M) (Y : mX K B σ M) (ho : okS σ) (i k : Nat) (hi6 : i + 6 ≤ L) (hk : k < 512) (kk : ∀ (σ2 : hSt) (M2 : hM), cX K A σ2 M2 → mX K B σ2 M2 → okS σ2 → hX E (64 + 4 * (k + 1)) (7533 + 61 * (k + 1)) 1166 [some (.ref b), some (.ref (A 36)), some (.ref (B 0)), some (.int (nI i))] [] M2) : hX E (64 + 4 * k) (7533 + 61 * k) 156 [some (.ref b), some (.ref (A 36)), some (.ref (B 0)), some (.int (nI i))] [] M := by
  obtain ⟨zx, hx36⟩ := X.obj
  refine x_aload_1 157 C dL_law_156 rfl ?_
  refine x_aload_0 158 C dL_law_157 rfl ?_
  refine x_iload_3 159 C dL_law_158 rfl ?_
  refine x_iconst (v := 1) 160 C dL_law_159 rfl rfl ?_
  refine x_iadd 161 C dL_law_160 rfl ?_
  refine x_topi (nI_add i 1) ?_
  refine x_sld 162 (i + 1) C S (rfl) (by omega) (by omega) dL_law_161 rfl ?_
  refine x_aload_0 163 C dL_law_162 rfl ?_
  refine x_iload_3 164 C dL_law_163 rfl ?_
  refine x_iconst (v := 2) 165 C dL_law_164 rfl rfl ?_
  refine x_iadd 166 C dL_law_165 rfl ?_
  refine x_topi (nI_add i 2) ?_
  refine x_sld 167 (i + 2) C S (rfl) (by omega) (by omega) dL_law_166 rfl ?_
  refine x_callV 170 C (c_X5_set K _ X ho _ _) hx36 wcl_X5 hy_X5_set wv_X5_set we_X5_set lk_L_13 dL_law_167 rfl ⟨Nat.le_of_ble_eq_true rfl, Nat.le_of_ble_eq_true rfl⟩ ⟨show 64 + 4 * k + 0 ≤ 600000 by omega, show 7533 + 61 * k + 0 ≤ 7302250 by omega⟩ (Nat.le_of_ble_eq_true rfl) rfl (k_0 rfl rfl (k_i (fun r_1 M_1 h_1 => ?_)))
  obtain ⟨rfl, X, fr⟩ := h_1
  have Y := Y.kept fr
  obtain ⟨z, F, G, WB, hr⟩ := Y
  refine x_wid (k2 := 64 + 4 * (k + 1)) (n2 := 7533 + 61 * (k + 1)) (by show 64 + 4 * k + 0 ≤ _; omega) (by show 7533 + 61 * k + 0 ≤ _; omega) ?_
  refine x_aload_2 171 C dL_law_170 rfl ?_
  refine x_aload_0 172 C dL_law_171 rfl ?_
  refine x_iload_3 173 C dL_law_172 rfl ?_
  refine x_iconst (v := 1) 174 C dL_law_173 rfl rfl ?_
  refine x_iadd 175 C dL_law_174 rfl ?_
  refine x_topi (nI_add i 1) ?_
  refine x_sld 176 (i + 1) C S (rfl) (by omega) (by omega) dL_law_175 rfl ?_
  refine x_aload_0 177 C dL_law_176 rfl ?_
  refine x_iload_3 178 C dL_law_177 rfl ?_
  refine x_iconst (v := 2) 179 C dL_law_178 rfl rfl ?_
  refine x_iadd 180 C dL_law_179 rfl ?_
  refine x_topi (nI_add i 2) ?_
  refine x_sld 181 (i + 2) C S (rfl) (by omega) (by omega) dL_law_180 rfl ?_
  refine x_callV 184 C (c_X6_set K _ WB hr ho _ _) WB.obj wcl_X6 hy_X6_set wv_X6_set we_X6_set lk_L_17 dL_law_181 rfl ⟨Nat.le_of_ble_eq_true rfl, Nat.le_of_ble_eq_true rfl⟩ ⟨show 64 + 4 * (k + 1) + 0 ≤ 600000 by omega, show 7533 + 61 * (k + 1) + 0 ≤ 7302250 by omega⟩ (Nat.le_of_ble_eq_true rfl) rfl (k_0 rfl rfl (k_i (fun r_2 M_2 h_2 => ?_)))
  obtain ⟨rfl, Y, fr⟩ := h_2
  have X := X.kept fr
  refine x_icmp_eq 187 1166 C dL_law_184 rfl rfl (fun _ => ?_) (fun z => absurd (rfl) z)
  exact kk _ _ X Y (okS_set ho _ _)
set_option maxHeartbeats 4000000 in
set_option maxRecDepth 100000 in
theorem law_c1 {E : hEv} {K : hKv} (C : hCx E K cL_law 4 RL nm room_1) {b L : Nat} {xs : Nat → Int32} (S : hSc E b L xs) (hL : L ≤ 3072) {A B : Nat → Nat} {σ : hSt} {M : hM} (X : cX K A σ M) (Y : mX K B σ M) (ho : okS σ) (i k : Nat) (hi6 : i + 6 ≤ L) (hk : k < 512) (kk : ∀ (σ2 : hSt) (M2 : hM), cX K A σ2 M2 → mX K B σ2 M2 → okS σ2 → hX E (64 + 4 * (k + 1)) (7533 + 61 * (k + 1)) 1166 [some (.ref b), some (.ref (A 36)), some (.ref (B 0)), some (.int (nI i))] [] M2) : hX E (64 + 4 * k) (7533 + 61 * k) 189 [some (.ref b), some (.ref (A 36)), some (.ref (B 0)), some (.int (nI i))] [] M := by
  obtain ⟨zx, hx36⟩ := X.obj
  refine x_aload_1 190 C dL_law_189 rfl ?_
  refine x_aload_0 191 C dL_law_190 rfl ?_
  refine x_iload_3 192 C dL_law_191 rfl ?_
  refine x_iconst (v := 1) 193 C dL_law_192 rfl rfl ?_
  refine x_iadd 194 C dL_law_193 rfl ?_
  refine x_topi (nI_add i 1) ?_
  refine x_sld 195 (i + 1) C S (rfl) (by omega) (by omega) dL_law_194 rfl ?_
  refine x_aload_0 196 C dL_law_195 rfl ?_
  refine x_iload_3 197 C dL_law_196 rfl ?_
  refine x_iconst (v := 2) 198 C dL_law_197 rfl rfl ?_
  refine x_iadd 199 C dL_law_198 rfl ?_
  refine x_topi (nI_add i 2) ?_
  refine x_sld 200 (i + 2) C S (rfl) (by omega) (by omega) dL_law_199 rfl ?_
  refine x_i2l 201 C dL_law_200 rfl ?_
  refine x_bipush (v := 32) 203 C dL_law_201 rfl rfl ?_
  refine x_lshl 204 C dL_law_203 rfl ?_
  refine x_aload_0 205 C dL_law_204 rfl ?_
  refine x_iload_3 206 C dL_law_205 rfl ?_
  refine x_iconst (v := 3) 207 C dL_law_206 rfl rfl ?_
  refine x_iadd 208 C dL_law_207 rfl ?_
  refine x_topi (nI_add i 3) ?_
  refine x_sld 209 (i + 3) C S (rfl) (by omega) (by omega) dL_law_208 rfl ?_
  refine x_i2l 210 C dL_law_209 rfl ?_
  refine x_ldc2 (v := 4294967295) 213 C dL_law_210 rfl wq_L_18 ?_
  refine x_land 214 C dL_law_213 rfl ?_
  refine x_lor 215 C dL_law_214 rfl ?_
  refine x_callV 218 C (c_X5_setCell K _ X ho _ _) hx36 wcl_X5 hy_X5_setCell wv_X5_setCell we_X5_setCell lk_L_20 dL_law_215 rfl ⟨Nat.le_of_ble_eq_true rfl, Nat.le_of_ble_eq_true rfl⟩ ⟨show 64 + 4 * k + 0 ≤ 600000 by omega, show 7533 + 61 * k + 0 ≤ 7302250 by omega⟩ (Nat.le_of_ble_eq_true rfl) rfl (k_0 rfl rfl (k_l (fun r_1 M_1 h_1 => ?_)))
  obtain ⟨rfl, X, fr⟩ := h_1
  have Y := Y.kept fr
  obtain ⟨z, F, G, WB, hr⟩ := Y
  refine x_wid (k2 := 64 + 4 * (k + 1)) (n2 := 7533 + 61 * (k + 1)) (by show 64 + 4 * k + 0 ≤ _; omega) (by show 7533 + 61 * k + 0 ≤ _; omega) ?_
  refine x_aload_2 219 C dL_law_218 rfl ?_
  refine x_aload_0 220 C dL_law_219 rfl ?_
  refine x_iload_3 221 C dL_law_220 rfl ?_
  refine x_iconst (v := 1) 222 C dL_law_221 rfl rfl ?_
  refine x_iadd 223 C dL_law_222 rfl ?_
  refine x_topi (nI_add i 1) ?_
  refine x_sld 224 (i + 1) C S (rfl) (by omega) (by omega) dL_law_223 rfl ?_
  refine x_aload_0 225 C dL_law_224 rfl ?_
  refine x_iload_3 226 C dL_law_225 rfl ?_
  refine x_iconst (v := 2) 227 C dL_law_226 rfl rfl ?_
  refine x_iadd 228 C dL_law_227 rfl ?_
  refine x_topi (nI_add i 2) ?_
  refine x_sld 229 (i + 2) C S (rfl) (by omega) (by omega) dL_law_228 rfl ?_
  refine x_i2l 230 C dL_law_229 rfl ?_
  refine x_bipush (v := 32) 232 C dL_law_230 rfl rfl ?_
  refine x_lshl 233 C dL_law_232 rfl ?_
  refine x_aload_0 234 C dL_law_233 rfl ?_
  refine x_iload_3 235 C dL_law_234 rfl ?_
  refine x_iconst (v := 3) 236 C dL_law_235 rfl rfl ?_
  refine x_iadd 237 C dL_law_236 rfl ?_
  refine x_topi (nI_add i 3) ?_
  refine x_sld 238 (i + 3) C S (rfl) (by omega) (by omega) dL_law_237 rfl ?_
  refine x_i2l 239 C dL_law_238 rfl ?_
  refine x_ldc2 (v := 4294967295) 242 C dL_law_239 rfl wq_L_18 ?_
  refine x_land 243 C dL_law_242 rfl ?_
  refine x_lor 244 C dL_law_243 rfl ?_
  refine x_callV 247 C (c_X6_setCell K _ WB hr ho _ _) WB.obj wcl_X6 hy_X6_setCell wv_X6_setCell we_X6_setCell lk_L_24 dL_law_244 rfl ⟨Nat.le_of_ble_eq_true rfl, Nat.le_of_ble_eq_true rfl⟩ ⟨show 64 + 4 * (k + 1) + 0 ≤ 600000 by omega, show 7533 + 61 * (k + 1) + 0 ≤ 7302250 by omega⟩ (Nat.le_of_ble_eq_true rfl) rfl (k_0 rfl rfl (k_l (fun r_2 M_2 h_2 => ?_)))
  obtain ⟨rfl, Y, fr⟩ := h_2
  have X := X.kept fr
  refine x_lc_eq 251 1166 C dL_law_247 dL_law_248 rfl rfl (fun _ => ?_) (fun z => absurd (rfl) z)
  exact kk _ _ X Y (okS_setCell ho _ _)
set_option maxHeartbeats 4000000 in
set_option maxRecDepth 100000 in
theorem law_c2 {E : hEv} {K : hKv} (C : hCx E K cL_law 4 RL nm room_1) {b L : Nat} {xs : Nat → Int32} (S : hSc E b L xs) (hL : L ≤ 3072) {A B : Nat → Nat} {σ : hSt} {M : hM} (X : cX K A σ M) (Y : mX K B σ M) (ho : okS σ) (i k : Nat) (hi6 : i + 6 ≤ L) (hk : k < 512) (kk : ∀ (σ2 : hSt) (M2 : hM), cX K A σ2 M2 → mX K B σ2 M2 → okS σ2 → hX E (64 + 4 * (k + 1)) (7533 + 61 * (k + 1)) 1166 [some (.ref b), some (.ref (A 36)), some (.ref (B 0)), some (.int (nI i))] [] M2) : hX E (64 + 4 * k) (7533 + 61 * k) 253 [some (.ref b), some (.ref (A 36)), some (.ref (B 0)), some (.int (nI i))] [] M := by
  obtain ⟨zx, hx36⟩ := X.obj
  refine x_aload_1 254 C dL_law_253 rfl ?_
  refine x_aload_0 255 C dL_law_254 rfl ?_
  refine x_iload_3 256 C dL_law_255 rfl ?_
  refine x_iconst (v := 1) 257 C dL_law_256 rfl rfl ?_
  refine x_iadd 258 C dL_law_257 rfl ?_
  refine x_topi (nI_add i 1) ?_
  refine x_sld 259 (i + 1) C S (rfl) (by omega) (by omega) dL_law_258 rfl ?_
  refine x_callV 262 C (c_X5_cell K _ X ho _) hx36 wcl_X5 hy_X5_cell wv_X5_cell we_X5_cell lk_L_25 dL_law_259 rfl ⟨Nat.le_of_ble_eq_true rfl, Nat.le_of_ble_eq_true rfl⟩ ⟨show 64 + 4 * k + 0 ≤ 600000 by omega, show 7533 + 61 * k + 0 ≤ 7302250 by omega⟩ (Nat.le_of_ble_eq_true rfl) rfl (k_0 rfl rfl (k_lp ?_))
  obtain ⟨z, F, G, WB, hr⟩ := Y
  refine x_wid (k2 := 64 + 4 * (k + 1)) (n2 := 7533 + 61 * (k + 1)) (by show 64 + 4 * k + 0 ≤ _; omega) (by show 7533 + 61 * k + 0 ≤ _; omega) ?_
  refine x_aload_2 263 C dL_law_262 rfl ?_
  refine x_aload_0 264 C dL_law_263 rfl ?_
  refine x_iload_3 265 C dL_law_264 rfl ?_
  refine x_iconst (v := 1) 266 C dL_law_265 rfl rfl ?_
  refine x_iadd 267 C dL_law_266 rfl ?_
  refine x_topi (nI_add i 1) ?_
  refine x_sld 268 (i + 1) C S (rfl) (by omega) (by omega) dL_law_267 rfl ?_
  refine x_callV 271 C (c_X6_cell K _ WB hr ho _) WB.obj wcl_X6 hy_X6_cell wv_X6_cell we_X6_cell lk_L_29 dL_law_268 rfl ⟨Nat.le_of_ble_eq_true rfl, Nat.le_of_ble_eq_true rfl⟩ ⟨show 64 + 4 * (k + 1) + 0 ≤ 600000 by omega, show 7533 + 61 * (k + 1) + 0 ≤ 7302250 by omega⟩ (Nat.le_of_ble_eq_true rfl) rfl (k_0 rfl rfl (k_lp ?_))
  refine x_lc_eq 275 1166 C dL_law_271 dL_law_272 rfl rfl (fun _ => ?_) (fun z => absurd (rfl) z)
  exact kk _ _ X ⟨z, F, G, WB, hr⟩ ho
set_option maxHeartbeats 4000000 in
set_option maxRecDepth 100000 in
theorem law_c3 {E : hEv} {K : hKv} (C : hCx E K cL_law 4 RL nm room_1) {b L : Nat} {xs : Nat → Int32} (S : hSc E b L xs) (hL : L ≤ 3072) {A B : Nat → Nat} {σ : hSt} {M : hM} (X : cX K A σ M) (Y : mX K B σ M) (ho : okS σ) (i k : Nat) (hi6 : i + 6 ≤ L) (hk : k < 512) (kk : ∀ (σ2 : hSt) (M2 : hM), cX K A σ2 M2 → mX K B σ2 M2 → okS σ2 → hX E (64 + 4 * (k + 1)) (7533 + 61 * (k + 1)) 1166 [some (.ref b), some (.ref (A 36)), some (.ref (B 0)), some (.int (nI i))] [] M2) : hX E (64 + 4 * k) (7533 + 61 * k) 277 [some (.ref b), some (.ref (A 36)), some (.ref (B 0)), some (.int (nI i))] [] M := by
  obtain ⟨zx, hx36⟩ := X.obj
  refine x_aload_1 278 C dL_law_277 rfl ?_
  refine x_aload_0 279 C dL_law_278 rfl ?_
  refine x_iload_3 280 C dL_law_279 rfl ?_
  refine x_iconst (v := 1) 281 C dL_law_280 rfl rfl ?_
  refine x_iadd 282 C dL_law_281 rfl ?_
  refine x_topi (nI_add i 1) ?_
  refine x_sld 283 (i + 1) C S (rfl) (by omega) (by omega) dL_law_282 rfl ?_
  refine x_i2l 284 C dL_law_283 rfl ?_
  refine x_bipush (v := 32) 286 C dL_law_284 rfl rfl ?_
  refine x_lshl 287 C dL_law_286 rfl ?_
  refine x_aload_0 288 C dL_law_287 rfl ?_
  refine x_iload_3 289 C dL_law_288 rfl ?_
  refine x_iconst (v := 2) 290 C dL_law_289 rfl rfl ?_
  refine x_iadd 291 C dL_law_290 rfl ?_
  refine x_topi (nI_add i 2) ?_
  refine x_sld 292 (i + 2) C S (rfl) (by omega) (by omega) dL_law_291 rfl ?_
  refine x_i2l 293 C dL_law_292 rfl ?_
  refine x_ldc2 (v := 4294967295) 296 C dL_law_293 rfl wq_L_18 ?_
  refine x_land 297 C dL_law_296 rfl ?_
  refine x_lor 298 C dL_law_297 rfl ?_
  refine x_callV 301 C (c_X5_put K _ X ho _) hx36 wcl_X5 hy_X5_put wv_X5_put we_X5_put lk_L_30 dL_law_298 rfl ⟨Nat.le_of_ble_eq_true rfl, Nat.le_of_ble_eq_true rfl⟩ ⟨show 64 + 4 * k + 0 ≤ 600000 by omega, show 7533 + 61 * k + 0 ≤ 7302250 by omega⟩ (Nat.le_of_ble_eq_true rfl) rfl (k_0 rfl rfl (k_i (fun r_1 M_1 h_1 => ?_)))
  obtain ⟨rfl, X, fr⟩ := h_1
  have Y := Y.kept fr
  obtain ⟨z, F, G, WB, hr⟩ := Y
  refine x_wid (k2 := 64 + 4 * (k + 1)) (n2 := 7533 + 61 * (k + 1)) (by show 64 + 4 * k + 0 ≤ _; omega) (by show 7533 + 61 * k + 0 ≤ _; omega) ?_
  refine x_aload_2 302 C dL_law_301 rfl ?_
  refine x_aload_0 303 C dL_law_302 rfl ?_
  refine x_iload_3 304 C dL_law_303 rfl ?_
  refine x_iconst (v := 1) 305 C dL_law_304 rfl rfl ?_
  refine x_iadd 306 C dL_law_305 rfl ?_
  refine x_topi (nI_add i 1) ?_
  refine x_sld 307 (i + 1) C S (rfl) (by omega) (by omega) dL_law_306 rfl ?_
  refine x_i2l 308 C dL_law_307 rfl ?_
  refine x_bipush (v := 32) 310 C dL_law_308 rfl rfl ?_
  refine x_lshl 311 C dL_law_310 rfl ?_
  refine x_aload_0 312 C dL_law_311 rfl ?_
  refine x_iload_3 313 C dL_law_312 rfl ?_
  refine x_iconst (v := 2) 314 C dL_law_313 rfl rfl ?_
  refine x_iadd 315 C dL_law_314 rfl ?_
  refine x_topi (nI_add i 2) ?_
  refine x_sld 316 (i + 2) C S (rfl) (by omega) (by omega) dL_law_315 rfl ?_
  refine x_i2l 317 C dL_law_316 rfl ?_
  refine x_ldc2 (v := 4294967295) 320 C dL_law_317 rfl wq_L_18 ?_
  refine x_land 321 C dL_law_320 rfl ?_
  refine x_lor 322 C dL_law_321 rfl ?_
  refine x_callV 325 C (c_X6_put K _ WB hr ho _) WB.obj wcl_X6 hy_X6_put wv_X6_put we_X6_put lk_L_34 dL_law_322 rfl ⟨Nat.le_of_ble_eq_true rfl, Nat.le_of_ble_eq_true rfl⟩ ⟨show 64 + 4 * (k + 1) + 0 ≤ 600000 by omega, show 7533 + 61 * (k + 1) + 0 ≤ 7302250 by omega⟩ (Nat.le_of_ble_eq_true rfl) rfl (k_0 rfl rfl (k_i (fun r_2 M_2 h_2 => ?_)))
  obtain ⟨rfl, Y, fr⟩ := h_2
  have X := X.kept fr
  refine x_icmp_eq 328 1166 C dL_law_325 rfl rfl (fun _ => ?_) (fun z => absurd (rfl) z)
  exact kk _ _ X Y (okS_put ho _)
set_option maxHeartbeats 4000000 in
set_option maxRecDepth 100000 in
theorem law_c4 {E : hEv} {K : hKv} (C : hCx E K cL_law 4 RL nm room_1) {b L : Nat} {xs : Nat → Int32} (S : hSc E b L xs) (hL : L ≤ 3072) {A B : Nat → Nat} {σ : hSt} {M : hM} (X : cX K A σ M) (Y : mX K B σ M) (ho : okS σ) (i k : Nat) (hi6 : i + 6 ≤ L) (hk : k < 512) (kk : ∀ (σ2 : hSt) (M2 : hM), cX K A σ2 M2 → mX K B σ2 M2 → okS σ2 → hX E (64 + 4 * (k + 1)) (7533 + 61 * (k + 1)) 1166 [some (.ref b), some (.ref (A 36)), some (.ref (B 0)), some (.int (nI i))] [] M2) : hX E (64 + 4 * k) (7533 + 61 * k) 330 [some (.ref b), some (.ref (A 36)), some (.ref (B 0)), some (.int (nI i))] [] M := by
  obtain ⟨zx, hx36⟩ := X.obj
  refine x_aload_1 331 C dL_law_330 rfl ?_
  refine x_callV 334 C (c_X5_wipe K _ X ho) hx36 wcl_X5 hy_X5_wipe wv_X5_wipe we_X5_wipe lk_L_35 dL_law_331 rfl ⟨Nat.le_of_ble_eq_true rfl, Nat.le_of_ble_eq_true rfl⟩ ⟨show 64 + 4 * k + 0 ≤ 600000 by omega, show 7533 + 61 * k + 0 ≤ 7302250 by omega⟩ (Nat.le_of_ble_eq_true rfl) rfl (k_0 rfl rfl (k_i (fun r_1 M_1 h_1 => ?_)))
  obtain ⟨rfl, X, fr⟩ := h_1
  have Y := Y.kept fr
  obtain ⟨z, F, G, WB, hr⟩ := Y
  refine x_wid (k2 := 64 + 4 * (k + 1)) (n2 := 7533 + 61 * (k + 1)) (by show 64 + 4 * k + 0 ≤ _; omega) (by show 7533 + 61 * k + 0 ≤ _; omega) ?_
  refine x_aload_2 335 C dL_law_334 rfl ?_
  refine x_callV 338 C (c_X6_wipe K _ WB hr ho) WB.obj wcl_X6 hy_X6_wipe wv_X6_wipe we_X6_wipe lk_L_39 dL_law_335 rfl ⟨Nat.le_of_ble_eq_true rfl, Nat.le_of_ble_eq_true rfl⟩ ⟨show 64 + 4 * (k + 1) + 0 ≤ 600000 by omega, show 7533 + 61 * (k + 1) + 0 ≤ 7302250 by omega⟩ (Nat.le_of_ble_eq_true rfl) rfl (k_0 rfl rfl (k_i (fun r_2 M_2 h_2 => ?_)))
  obtain ⟨rfl, Y, fr⟩ := h_2
  have X := X.kept fr
  refine x_icmp_eq 341 1166 C dL_law_338 rfl rfl (fun _ => ?_) (fun z => absurd (rfl) z)
  exact kk _ _ X Y (okS_wipe ho)
set_option maxHeartbeats 4000000 in
set_option maxRecDepth 100000 in
theorem law_c5 {E : hEv} {K : hKv} (C : hCx E K cL_law 4 RL nm room_1) {b L : Nat} {xs : Nat → Int32} (S : hSc E b L xs) (hL : L ≤ 3072) {A B : Nat → Nat} {σ : hSt} {M : hM} (X : cX K A σ M) (Y : mX K B σ M) (ho : okS σ) (i k : Nat) (hi6 : i + 6 ≤ L) (hk : k < 512) (kk : ∀ (σ2 : hSt) (M2 : hM), cX K A σ2 M2 → mX K B σ2 M2 → okS σ2 → hX E (64 + 4 * (k + 1)) (7533 + 61 * (k + 1)) 1166 [some (.ref b), some (.ref (A 36)), some (.ref (B 0)), some (.int (nI i))] [] M2) : hX E (64 + 4 * k) (7533 + 61 * k) 343 [some (.ref b), some (.ref (A 36)), some (.ref (B 0)), some (.int (nI i))] [] M := by
  obtain ⟨zx, hx36⟩ := X.obj
  refine x_aload_1 344 C dL_law_343 rfl ?_
  refine x_callV 347 C (c_X5_fault K _ X ho) hx36 wcl_X5 hy_X5_fault wv_X5_fault we_X5_fault lk_L_40 dL_law_344 rfl ⟨Nat.le_of_ble_eq_true rfl, Nat.le_of_ble_eq_true rfl⟩ ⟨show 64 + 4 * k + 0 ≤ 600000 by omega, show 7533 + 61 * k + 0 ≤ 7302250 by omega⟩ (Nat.le_of_ble_eq_true rfl) rfl (k_0 rfl rfl (k_i (fun r_1 M_1 h_1 => ?_)))
  obtain ⟨rfl, X, fr⟩ := h_1
  have Y := Y.kept fr
  obtain ⟨z, F, G, WB, hr⟩ := Y
  refine x_wid (k2 := 64 + 4 * (k + 1)) (n2 := 7533 + 61 * (k + 1)) (by show 64 + 4 * k + 0 ≤ _; omega) (by show 7533 + 61 * k + 0 ≤ _; omega) ?_
  refine x_aload_2 348 C dL_law_347 rfl ?_
  refine x_callV 351 C (c_X6_fault K _ WB hr.2.1 hr.2.2.2.2.2.2 ho.2.2.2.2.1 ho.2.2.2.2.2) WB.obj wcl_X6 hy_X6_fault wv_X6_fault we_X6_fault lk_L_43 dL_law_348 rfl ⟨Nat.le_of_ble_eq_true rfl, Nat.le_of_ble_eq_true rfl⟩ ⟨show 64 + 4 * (k + 1) + 0 ≤ 600000 by omega, show 7533 + 61 * (k + 1) + 0 ≤ 7302250 by omega⟩ (Nat.le_of_ble_eq_true rfl) rfl (k_0 rfl rfl (k_i (fun r_2 M_2 h_2 => ?_)))
  obtain ⟨⟨z_2, F_2, WB, ms⟩, fr, rfl⟩ := h_2
  have Y : mX K B σ M_2 := ⟨_, _, _, WB, repM_ms hr ms⟩
  have X := X.kept fr
  refine x_icmp_eq 354 1166 C dL_law_351 rfl rfl (fun _ => ?_) (fun z => absurd (rfl) z)
  exact kk _ _ X Y ho
set_option maxHeartbeats 4000000 in
set_option maxRecDepth 100000 in
theorem law_c6 {E : hEv} {K : hKv} (C : hCx E K cL_law 4 RL nm room_1) {b L : Nat} {xs : Nat → Int32} (S : hSc E b L xs) (hL : L ≤ 3072) {A B : Nat → Nat} {σ : hSt} {M : hM} (X : cX K A σ M) (Y : mX K B σ M) (ho : okS σ) (i k : Nat) (hi6 : i + 6 ≤ L) (hk : k < 512) (kk : ∀ (σ2 : hSt) (M2 : hM), cX K A σ2 M2 → mX K B σ2 M2 → okS σ2 → hX E (64 + 4 * (k + 1)) (7533 + 61 * (k + 1)) 1166 [some (.ref b), some (.ref (A 36)), some (.ref (B 0)), some (.int (nI i))] [] M2) : hX E (64 + 4 * k) (7533 + 61 * k) 356 [some (.ref b), some (.ref (A 36)), some (.ref (B 0)), some (.int (nI i))] [] M := by
  obtain ⟨zx, hx36⟩ := X.obj
  refine x_aload_1 357 C dL_law_356 rfl ?_
  refine x_aload_0 358 C dL_law_357 rfl ?_
  refine x_iload_3 359 C dL_law_358 rfl ?_
  refine x_iconst (v := 1) 360 C dL_law_359 rfl rfl ?_
  refine x_iadd 361 C dL_law_360 rfl ?_
  refine x_topi (nI_add i 1) ?_
  refine x_sld 362 (i + 1) C S (rfl) (by omega) (by omega) dL_law_361 rfl ?_
  refine x_callV 365 C (c_X5_load K _ X ho _) hx36 wcl_X5 hy_X5_load wv_X5_load we_X5_load lk_L_44 dL_law_362 rfl ⟨Nat.le_of_ble_eq_true rfl, Nat.le_of_ble_eq_true rfl⟩ ⟨show 64 + 4 * k + 2 ≤ 600000 by omega, show 7533 + 61 * k + 61 ≤ 7302250 by omega⟩ (Nat.le_of_ble_eq_true rfl) rfl (k_i (fun r_1 M_1 h_1 => ?_))
  obtain ⟨rfl, X, fr⟩ := h_1
  have Y := Y.kept fr
  obtain ⟨z, F, G, WB, hr⟩ := Y
  refine x_wid (k2 := 64 + 4 * (k + 1)) (n2 := 7533 + 61 * (k + 1)) (by show 64 + 4 * k + 2 ≤ _; omega) (by show 7533 + 61 * k + 61 ≤ _; omega) ?_
  refine x_aload_2 366 C dL_law_365 rfl ?_
  refine x_aload_0 367 C dL_law_366 rfl ?_
  refine x_iload_3 368 C dL_law_367 rfl ?_
  refine x_iconst (v := 1) 369 C dL_law_368 rfl rfl ?_
  refine x_iadd 370 C dL_law_369 rfl ?_
  refine x_topi (nI_add i 1) ?_
  refine x_sld 371 (i + 1) C S (rfl) (by omega) (by omega) dL_law_370 rfl ?_
  refine x_callV 374 C (c_X6_load K _ WB hr ho _) WB.obj wcl_X6 hy_X6_load wv_X6_load we_X6_load lk_L_48 dL_law_371 rfl ⟨Nat.le_of_ble_eq_true rfl, Nat.le_of_ble_eq_true rfl⟩ ⟨show 64 + 4 * (k + 1) + 0 ≤ 600000 by omega, show 7533 + 61 * (k + 1) + 0 ≤ 7302250 by omega⟩ (Nat.le_of_ble_eq_true rfl) rfl (k_0 rfl rfl (k_i (fun r_2 M_2 h_2 => ?_)))
  obtain ⟨rfl, Y, fr⟩ := h_2
  have X := X.kept fr
  refine x_icmp_eq 377 1166 C dL_law_374 rfl rfl (fun _ => ?_) (fun z => absurd (rfl) z)
  exact kk _ _ X Y (okS_load ho _)
set_option maxHeartbeats 4000000 in
set_option maxRecDepth 100000 in
theorem law_c7 {E : hEv} {K : hKv} (C : hCx E K cL_law 4 RL nm room_1) {b L : Nat} {xs : Nat → Int32} (S : hSc E b L xs) (hL : L ≤ 3072) {A B : Nat → Nat} {σ : hSt} {M : hM} (X : cX K A σ M) (Y : mX K B σ M) (ho : okS σ) (i k : Nat) (hi6 : i + 6 ≤ L) (hk : k < 512) (kk : ∀ (σ2 : hSt) (M2 : hM), cX K A σ2 M2 → mX K B σ2 M2 → okS σ2 → hX E (64 + 4 * (k + 1)) (7533 + 61 * (k + 1)) 1166 [some (.ref b), some (.ref (A 36)), some (.ref (B 0)), some (.int (nI i))] [] M2) : hX E (64 + 4 * k) (7533 + 61 * k) 379 [some (.ref b), some (.ref (A 36)), some (.ref (B 0)), some (.int (nI i))] [] M := by
  obtain ⟨zx, hx36⟩ := X.obj
  refine x_aload_1 380 C dL_law_379 rfl ?_
  refine x_aload_0 381 C dL_law_380 rfl ?_
  refine x_iload_3 382 C dL_law_381 rfl ?_
  refine x_iconst (v := 1) 383 C dL_law_382 rfl rfl ?_
  refine x_iadd 384 C dL_law_383 rfl ?_
  refine x_topi (nI_add i 1) ?_
  refine x_sld 385 (i + 1) C S (rfl) (by omega) (by omega) dL_law_384 rfl ?_
  refine x_aload_0 386 C dL_law_385 rfl ?_
  refine x_iload_3 387 C dL_law_386 rfl ?_
  refine x_iconst (v := 2) 388 C dL_law_387 rfl rfl ?_
  refine x_iadd 389 C dL_law_388 rfl ?_
  refine x_topi (nI_add i 2) ?_
  refine x_sld 390 (i + 2) C S (rfl) (by omega) (by omega) dL_law_389 rfl ?_
  refine x_callV 393 C (c_X5_assign K _ X ho _ _) hx36 wcl_X5 hy_X5_assign wv_X5_assign we_X5_assign lk_L_49 dL_law_390 rfl ⟨Nat.le_of_ble_eq_true rfl, Nat.le_of_ble_eq_true rfl⟩ ⟨show 64 + 4 * k + 0 ≤ 600000 by omega, show 7533 + 61 * k + 0 ≤ 7302250 by omega⟩ (Nat.le_of_ble_eq_true rfl) rfl (k_0 rfl rfl (k_l (fun r_1 M_1 h_1 => ?_)))
  obtain ⟨rfl, X, fr⟩ := h_1
  have Y := Y.kept fr
  obtain ⟨z, F, G, WB, hr⟩ := Y
  refine x_wid (k2 := 64 + 4 * (k + 1)) (n2 := 7533 + 61 * (k + 1)) (by show 64 + 4 * k + 0 ≤ _; omega) (by show 7533 + 61 * k + 0 ≤ _; omega) ?_
  refine x_aload_2 394 C dL_law_393 rfl ?_
  refine x_aload_0 395 C dL_law_394 rfl ?_
  refine x_iload_3 396 C dL_law_395 rfl ?_
  refine x_iconst (v := 1) 397 C dL_law_396 rfl rfl ?_
  refine x_iadd 398 C dL_law_397 rfl ?_
  refine x_topi (nI_add i 1) ?_
  refine x_sld 399 (i + 1) C S (rfl) (by omega) (by omega) dL_law_398 rfl ?_
  refine x_aload_0 400 C dL_law_399 rfl ?_
  refine x_iload_3 401 C dL_law_400 rfl ?_
  refine x_iconst (v := 2) 402 C dL_law_401 rfl rfl ?_
  refine x_iadd 403 C dL_law_402 rfl ?_
  refine x_topi (nI_add i 2) ?_
  refine x_sld 404 (i + 2) C S (rfl) (by omega) (by omega) dL_law_403 rfl ?_
  refine x_callV 407 C (c_X6_assign K _ WB hr ho _ _) WB.obj wcl_X6 hy_X6_assign wv_X6_assign we_X6_assign lk_L_53 dL_law_404 rfl ⟨Nat.le_of_ble_eq_true rfl, Nat.le_of_ble_eq_true rfl⟩ ⟨show 64 + 4 * (k + 1) + 0 ≤ 600000 by omega, show 7533 + 61 * (k + 1) + 0 ≤ 7302250 by omega⟩ (Nat.le_of_ble_eq_true rfl) rfl (k_0 rfl rfl (k_l (fun r_2 M_2 h_2 => ?_)))
  obtain ⟨rfl, Y, fr⟩ := h_2
  have X := X.kept fr
  refine x_lc_eq 411 1166 C dL_law_407 dL_law_408 rfl rfl (fun _ => ?_) (fun z => absurd (rfl) z)
  exact kk _ _ X Y (okS_assign ho _ _)
set_option maxHeartbeats 4000000 in
set_option maxRecDepth 100000 in
theorem law_c8 {E : hEv} {K : hKv} (C : hCx E K cL_law 4 RL nm room_1) {b L : Nat} {xs : Nat → Int32} (S : hSc E b L xs) (hL : L ≤ 3072) {A B : Nat → Nat} {σ : hSt} {M : hM} (X : cX K A σ M) (Y : mX K B σ M) (ho : okS σ) (i k : Nat) (hi6 : i + 6 ≤ L) (hk : k < 512) (kk : ∀ (σ2 : hSt) (M2 : hM), cX K A σ2 M2 → mX K B σ2 M2 → okS σ2 → hX E (64 + 4 * (k + 1)) (7533 + 61 * (k + 1)) 1166 [some (.ref b), some (.ref (A 36)), some (.ref (B 0)), some (.int (nI i))] [] M2) : hX E (64 + 4 * k) (7533 + 61 * k) 413 [some (.ref b), some (.ref (A 36)), some (.ref (B 0)), some (.int (nI i))] [] M := by
  obtain ⟨zx, hx36⟩ := X.obj
  refine x_aload_1 414 C dL_law_413 rfl ?_
  refine x_aload_0 415 C dL_law_414 rfl ?_
  refine x_iload_3 416 C dL_law_415 rfl ?_
  refine x_iconst (v := 1) 417 C dL_law_416 rfl rfl ?_
  refine x_iadd 418 C dL_law_417 rfl ?_
  refine x_topi (nI_add i 1) ?_
  refine x_sld 419 (i + 1) C S (rfl) (by omega) (by omega) dL_law_418 rfl ?_
  refine x_aload_0 420 C dL_law_419 rfl ?_
  refine x_iload_3 421 C dL_law_420 rfl ?_
  refine x_iconst (v := 2) 422 C dL_law_421 rfl rfl ?_
  refine x_iadd 423 C dL_law_422 rfl ?_
  refine x_topi (nI_add i 2) ?_
  refine x_sld 424 (i + 2) C S (rfl) (by omega) (by omega) dL_law_423 rfl ?_
  refine x_aload_0 425 C dL_law_424 rfl ?_
  refine x_iload_3 426 C dL_law_425 rfl ?_
  refine x_iconst (v := 3) 427 C dL_law_426 rfl rfl ?_
  refine x_iadd 428 C dL_law_427 rfl ?_
  refine x_topi (nI_add i 3) ?_
  refine x_sld 429 (i + 3) C S (rfl) (by omega) (by omega) dL_law_428 rfl ?_
  refine x_callV 432 C (c_X5_settle K _ X ho _ _ _) hx36 wcl_X5 hy_X5_settle wv_X5_settle we_X5_settle lk_L_54 dL_law_429 rfl ⟨Nat.le_of_ble_eq_true rfl, Nat.le_of_ble_eq_true rfl⟩ ⟨show 64 + 4 * k + 0 ≤ 600000 by omega, show 7533 + 61 * k + 0 ≤ 7302250 by omega⟩ (Nat.le_of_ble_eq_true rfl) rfl (k_0 rfl rfl (k_i (fun r_1 M_1 h_1 => ?_)))
  obtain ⟨rfl, X, fr⟩ := h_1
  have Y := Y.kept fr
  obtain ⟨z, F, G, WB, hr⟩ := Y
  refine x_wid (k2 := 64 + 4 * (k + 1)) (n2 := 7533 + 61 * (k + 1)) (by show 64 + 4 * k + 0 ≤ _; omega) (by show 7533 + 61 * k + 0 ≤ _; omega) ?_
  refine x_aload_2 433 C dL_law_432 rfl ?_
  refine x_aload_0 434 C dL_law_433 rfl ?_
  refine x_iload_3 435 C dL_law_434 rfl ?_
  refine x_iconst (v := 1) 436 C dL_law_435 rfl rfl ?_
  refine x_iadd 437 C dL_law_436 rfl ?_
  refine x_topi (nI_add i 1) ?_
  refine x_sld 438 (i + 1) C S (rfl) (by omega) (by omega) dL_law_437 rfl ?_
  refine x_aload_0 439 C dL_law_438 rfl ?_
  refine x_iload_3 440 C dL_law_439 rfl ?_
  refine x_iconst (v := 2) 441 C dL_law_440 rfl rfl ?_
  refine x_iadd 442 C dL_law_441 rfl ?_
  refine x_topi (nI_add i 2) ?_
  refine x_sld 443 (i + 2) C S (rfl) (by omega) (by omega) dL_law_442 rfl ?_
  refine x_aload_0 444 C dL_law_443 rfl ?_
  refine x_iload_3 445 C dL_law_444 rfl ?_
  refine x_iconst (v := 3) 446 C dL_law_445 rfl rfl ?_
  refine x_iadd 447 C dL_law_446 rfl ?_
  refine x_topi (nI_add i 3) ?_
  refine x_sld 448 (i + 3) C S (rfl) (by omega) (by omega) dL_law_447 rfl ?_
  refine x_callV 451 C (c_X6_settle K _ WB hr ho _ _ _) WB.obj wcl_X6 hy_X6_settle wv_X6_settle we_X6_settle lk_L_58 dL_law_448 rfl ⟨Nat.le_of_ble_eq_true rfl, Nat.le_of_ble_eq_true rfl⟩ ⟨show 64 + 4 * (k + 1) + 0 ≤ 600000 by omega, show 7533 + 61 * (k + 1) + 0 ≤ 7302250 by omega⟩ (Nat.le_of_ble_eq_true rfl) rfl (k_0 rfl rfl (k_i (fun r_2 M_2 h_2 => ?_)))
  obtain ⟨rfl, Y, fr⟩ := h_2
  have X := X.kept fr
  refine x_icmp_eq 454 1166 C dL_law_451 rfl rfl (fun _ => ?_) (fun z => absurd (rfl) z)
  exact kk _ _ X Y (okS_settle ho _ _ _)
set_option maxHeartbeats 4000000 in
set_option maxRecDepth 100000 in
theorem law_c9 {E : hEv} {K : hKv} (C : hCx E K cL_law 4 RL nm room_1) {b L : Nat} {xs : Nat → Int32} (S : hSc E b L xs) (hL : L ≤ 3072) {A B : Nat → Nat} {σ : hSt} {M : hM} (X : cX K A σ M) (Y : mX K B σ M) (ho : okS σ) (i k : Nat) (hi6 : i + 6 ≤ L) (hk : k < 512) (kk : ∀ (σ2 : hSt) (M2 : hM), cX K A σ2 M2 → mX K B σ2 M2 → okS σ2 → hX E (64 + 4 * (k + 1)) (7533 + 61 * (k + 1)) 1166 [some (.ref b), some (.ref (A 36)), some (.ref (B 0)), some (.int (nI i))] [] M2) : hX E (64 + 4 * k) (7533 + 61 * k) 456 [some (.ref b), some (.ref (A 36)), some (.ref (B 0)), some (.int (nI i))] [] M := by
  obtain ⟨zx, hx36⟩ := X.obj
  refine x_aload_1 457 C dL_law_456 rfl ?_
  refine x_aload_0 458 C dL_law_457 rfl ?_
  refine x_iload_3 459 C dL_law_458 rfl ?_
  refine x_iconst (v := 1) 460 C dL_law_459 rfl rfl ?_
  refine x_iadd 461 C dL_law_460 rfl ?_
  refine x_topi (nI_add i 1) ?_
  refine x_sld 462 (i + 1) C S (rfl) (by omega) (by omega) dL_law_461 rfl ?_
  refine x_callV 465 C (c_X5_value K _ X ho _) hx36 wcl_X5 hy_X5_value wv_X5_value we_X5_value lk_L_59 dL_law_462 rfl ⟨Nat.le_of_ble_eq_true rfl, Nat.le_of_ble_eq_true rfl⟩ ⟨show 64 + 4 * k + 0 ≤ 600000 by omega, show 7533 + 61 * k + 0 ≤ 7302250 by omega⟩ (Nat.le_of_ble_eq_true rfl) rfl (k_0 rfl rfl (k_l (fun r_1 M_1 h_1 => ?_)))
  obtain ⟨rfl, X, fr⟩ := h_1
  have Y := Y.kept fr
  obtain ⟨z, F, G, WB, hr⟩ := Y
  refine x_wid (k2 := 64 + 4 * (k + 1)) (n2 := 7533 + 61 * (k + 1)) (by show 64 + 4 * k + 0 ≤ _; omega) (by show 7533 + 61 * k + 0 ≤ _; omega) ?_
  refine x_aload_2 466 C dL_law_465 rfl ?_
  refine x_aload_0 467 C dL_law_466 rfl ?_
  refine x_iload_3 468 C dL_law_467 rfl ?_
  refine x_iconst (v := 1) 469 C dL_law_468 rfl rfl ?_
  refine x_iadd 470 C dL_law_469 rfl ?_
  refine x_topi (nI_add i 1) ?_
  refine x_sld 471 (i + 1) C S (rfl) (by omega) (by omega) dL_law_470 rfl ?_
  refine x_callV 474 C (c_X6_value K _ WB hr ho _) WB.obj wcl_X6 hy_X6_value wv_X6_value we_X6_value lk_L_62 dL_law_471 rfl ⟨Nat.le_of_ble_eq_true rfl, Nat.le_of_ble_eq_true rfl⟩ ⟨show 64 + 4 * (k + 1) + 0 ≤ 600000 by omega, show 7533 + 61 * (k + 1) + 0 ≤ 7302250 by omega⟩ (Nat.le_of_ble_eq_true rfl) rfl (k_0 rfl rfl (k_l (fun r_2 M_2 h_2 => ?_)))
  obtain ⟨rfl, Y, fr⟩ := h_2
  have X := X.kept fr
  refine x_lc_eq 478 1166 C dL_law_474 dL_law_475 rfl rfl (fun _ => ?_) (fun z => absurd (rfl) z)
  exact kk _ _ X Y ho
set_option maxHeartbeats 4000000 in
set_option maxRecDepth 100000 in
theorem law_c10 {E : hEv} {K : hKv} (C : hCx E K cL_law 4 RL nm room_1) {b L : Nat} {xs : Nat → Int32} (S : hSc E b L xs) (hL : L ≤ 3072) {A B : Nat → Nat} {σ : hSt} {M : hM} (X : cX K A σ M) (Y : mX K B σ M) (ho : okS σ) (i k : Nat) (hi6 : i + 6 ≤ L) (hk : k < 512) (kk : ∀ (σ2 : hSt) (M2 : hM), cX K A σ2 M2 → mX K B σ2 M2 → okS σ2 → hX E (64 + 4 * (k + 1)) (7533 + 61 * (k + 1)) 1166 [some (.ref b), some (.ref (A 36)), some (.ref (B 0)), some (.int (nI i))] [] M2) : hX E (64 + 4 * k) (7533 + 61 * k) 480 [some (.ref b), some (.ref (A 36)), some (.ref (B 0)), some (.int (nI i))] [] M := by
  obtain ⟨zx, hx36⟩ := X.obj
  refine x_aload_1 481 C dL_law_480 rfl ?_
  refine x_aload_0 482 C dL_law_481 rfl ?_
  refine x_iload_3 483 C dL_law_482 rfl ?_
  refine x_iconst (v := 1) 484 C dL_law_483 rfl rfl ?_
  refine x_iadd 485 C dL_law_484 rfl ?_
  refine x_topi (nI_add i 1) ?_
  refine x_sld 486 (i + 1) C S (rfl) (by omega) (by omega) dL_law_485 rfl ?_
  refine x_aload_0 487 C dL_law_486 rfl ?_
  refine x_iload_3 488 C dL_law_487 rfl ?_
  refine x_iconst (v := 2) 489 C dL_law_488 rfl rfl ?_
  refine x_iadd 490 C dL_law_489 rfl ?_
  refine x_topi (nI_add i 2) ?_
  refine x_sld 491 (i + 2) C S (rfl) (by omega) (by omega) dL_law_490 rfl ?_
  refine x_callV 494 C (c_X5_ofFormula K _ X ho _ _) hx36 wcl_X5 hy_X5_ofFormula wv_X5_ofFormula we_X5_ofFormula lk_L_63 dL_law_491 rfl ⟨Nat.le_of_ble_eq_true rfl, Nat.le_of_ble_eq_true rfl⟩ ⟨show 64 + 4 * k + 0 ≤ 600000 by omega, show 7533 + 61 * k + 0 ≤ 7302250 by omega⟩ (Nat.le_of_ble_eq_true rfl) rfl (k_0 rfl rfl (k_i (fun r_1 M_1 h_1 => ?_)))
  obtain ⟨rfl, X, fr⟩ := h_1
  have Y := Y.kept fr
  obtain ⟨z, F, G, WB, hr⟩ := Y
  refine x_wid (k2 := 64 + 4 * (k + 1)) (n2 := 7533 + 61 * (k + 1)) (by show 64 + 4 * k + 0 ≤ _; omega) (by show 7533 + 61 * k + 0 ≤ _; omega) ?_
  refine x_aload_2 495 C dL_law_494 rfl ?_
  refine x_aload_0 496 C dL_law_495 rfl ?_
  refine x_iload_3 497 C dL_law_496 rfl ?_
  refine x_iconst (v := 1) 498 C dL_law_497 rfl rfl ?_
  refine x_iadd 499 C dL_law_498 rfl ?_
  refine x_topi (nI_add i 1) ?_
  refine x_sld 500 (i + 1) C S (rfl) (by omega) (by omega) dL_law_499 rfl ?_
  refine x_aload_0 501 C dL_law_500 rfl ?_
  refine x_iload_3 502 C dL_law_501 rfl ?_
  refine x_iconst (v := 2) 503 C dL_law_502 rfl rfl ?_
  refine x_iadd 504 C dL_law_503 rfl ?_
  refine x_topi (nI_add i 2) ?_
  refine x_sld 505 (i + 2) C S (rfl) (by omega) (by omega) dL_law_504 rfl ?_
  refine x_callV 508 C (c_X6_ofFormula K _ WB hr ho _ _) WB.obj wcl_X6 hy_X6_ofFormula wv_X6_ofFormula we_X6_ofFormula lk_L_66 dL_law_505 rfl ⟨Nat.le_of_ble_eq_true rfl, Nat.le_of_ble_eq_true rfl⟩ ⟨show 64 + 4 * (k + 1) + 0 ≤ 600000 by omega, show 7533 + 61 * (k + 1) + 0 ≤ 7302250 by omega⟩ (Nat.le_of_ble_eq_true rfl) rfl (k_0 rfl rfl (k_i (fun r_2 M_2 h_2 => ?_)))
  obtain ⟨rfl, Y, fr⟩ := h_2
  have X := X.kept fr
  refine x_icmp_eq 511 1166 C dL_law_508 rfl rfl (fun _ => ?_) (fun z => absurd (rfl) z)
  exact kk _ _ X Y ho
set_option maxHeartbeats 4000000 in
set_option maxRecDepth 100000 in
theorem law_c11 {E : hEv} {K : hKv} (C : hCx E K cL_law 4 RL nm room_1) {b L : Nat} {xs : Nat → Int32} (S : hSc E b L xs) (hL : L ≤ 3072) {A B : Nat → Nat} {σ : hSt} {M : hM} (X : cX K A σ M) (Y : mX K B σ M) (ho : okS σ) (i k : Nat) (hi6 : i + 6 ≤ L) (hk : k < 512) (kk : ∀ (σ2 : hSt) (M2 : hM), cX K A σ2 M2 → mX K B σ2 M2 → okS σ2 → hX E (64 + 4 * (k + 1)) (7533 + 61 * (k + 1)) 1166 [some (.ref b), some (.ref (A 36)), some (.ref (B 0)), some (.int (nI i))] [] M2) : hX E (64 + 4 * k) (7533 + 61 * k) 513 [some (.ref b), some (.ref (A 36)), some (.ref (B 0)), some (.int (nI i))] [] M := by
  obtain ⟨zx, hx36⟩ := X.obj
  refine x_aload_1 514 C dL_law_513 rfl ?_
  refine x_aload_0 515 C dL_law_514 rfl ?_
  refine x_iload_3 516 C dL_law_515 rfl ?_
  refine x_iconst (v := 1) 517 C dL_law_516 rfl rfl ?_
  refine x_iadd 518 C dL_law_517 rfl ?_
  refine x_topi (nI_add i 1) ?_
  refine x_sld 519 (i + 1) C S (rfl) (by omega) (by omega) dL_law_518 rfl ?_
  refine x_aload_0 520 C dL_law_519 rfl ?_
  refine x_iload_3 521 C dL_law_520 rfl ?_
  refine x_iconst (v := 2) 522 C dL_law_521 rfl rfl ?_
  refine x_iadd 523 C dL_law_522 rfl ?_
  refine x_topi (nI_add i 2) ?_
  refine x_sld 524 (i + 2) C S (rfl) (by omega) (by omega) dL_law_523 rfl ?_
  refine x_callV 527 C (c_X5_stepValue K _ X ho _ _) hx36 wcl_X5 hy_X5_stepValue wv_X5_stepValue we_X5_stepValue lk_L_67 dL_law_524 rfl ⟨Nat.le_of_ble_eq_true rfl, Nat.le_of_ble_eq_true rfl⟩ ⟨show 64 + 4 * k + 0 ≤ 600000 by omega, show 7533 + 61 * k + 0 ≤ 7302250 by omega⟩ (Nat.le_of_ble_eq_true rfl) rfl (k_0 rfl rfl (k_l (fun r_1 M_1 h_1 => ?_)))
  obtain ⟨rfl, X, fr⟩ := h_1
  have Y := Y.kept fr
  obtain ⟨z, F, G, WB, hr⟩ := Y
  refine x_wid (k2 := 64 + 4 * (k + 1)) (n2 := 7533 + 61 * (k + 1)) (by show 64 + 4 * k + 0 ≤ _; omega) (by show 7533 + 61 * k + 0 ≤ _; omega) ?_
  refine x_aload_2 528 C dL_law_527 rfl ?_
  refine x_aload_0 529 C dL_law_528 rfl ?_
  refine x_iload_3 530 C dL_law_529 rfl ?_
  refine x_iconst (v := 1) 531 C dL_law_530 rfl rfl ?_
  refine x_iadd 532 C dL_law_531 rfl ?_
  refine x_topi (nI_add i 1) ?_
  refine x_sld 533 (i + 1) C S (rfl) (by omega) (by omega) dL_law_532 rfl ?_
  refine x_aload_0 534 C dL_law_533 rfl ?_
  refine x_iload_3 535 C dL_law_534 rfl ?_
  refine x_iconst (v := 2) 536 C dL_law_535 rfl rfl ?_
  refine x_iadd 537 C dL_law_536 rfl ?_
  refine x_topi (nI_add i 2) ?_
  refine x_sld 538 (i + 2) C S (rfl) (by omega) (by omega) dL_law_537 rfl ?_
  refine x_callV 541 C (c_X6_stepValue K _ WB hr ho _ _) WB.obj wcl_X6 hy_X6_stepValue wv_X6_stepValue we_X6_stepValue lk_L_70 dL_law_538 rfl ⟨Nat.le_of_ble_eq_true rfl, Nat.le_of_ble_eq_true rfl⟩ ⟨show 64 + 4 * (k + 1) + 0 ≤ 600000 by omega, show 7533 + 61 * (k + 1) + 0 ≤ 7302250 by omega⟩ (Nat.le_of_ble_eq_true rfl) rfl (k_0 rfl rfl (k_l (fun r_2 M_2 h_2 => ?_)))
  obtain ⟨rfl, Y, fr⟩ := h_2
  have X := X.kept fr
  refine x_lc_eq 545 1166 C dL_law_541 dL_law_542 rfl rfl (fun _ => ?_) (fun z => absurd (rfl) z)
  exact kk _ _ X Y ho
set_option maxHeartbeats 4000000 in
set_option maxRecDepth 100000 in
theorem law_c12 {E : hEv} {K : hKv} (C : hCx E K cL_law 4 RL nm room_1) {b L : Nat} {xs : Nat → Int32} (S : hSc E b L xs) (hL : L ≤ 3072) {A B : Nat → Nat} {σ : hSt} {M : hM} (X : cX K A σ M) (Y : mX K B σ M) (ho : okS σ) (i k : Nat) (hi6 : i + 6 ≤ L) (hk : k < 512) (kk : ∀ (σ2 : hSt) (M2 : hM), cX K A σ2 M2 → mX K B σ2 M2 → okS σ2 → hX E (64 + 4 * (k + 1)) (7533 + 61 * (k + 1)) 1166 [some (.ref b), some (.ref (A 36)), some (.ref (B 0)), some (.int (nI i))] [] M2) : hX E (64 + 4 * k) (7533 + 61 * k) 547 [some (.ref b), some (.ref (A 36)), some (.ref (B 0)), some (.int (nI i))] [] M := by
  obtain ⟨zx, hx36⟩ := X.obj
  refine x_aload_1 548 C dL_law_547 rfl ?_
  refine x_aload_0 549 C dL_law_548 rfl ?_
  refine x_iload_3 550 C dL_law_549 rfl ?_
  refine x_iconst (v := 1) 551 C dL_law_550 rfl rfl ?_
  refine x_iadd 552 C dL_law_551 rfl ?_
  refine x_topi (nI_add i 1) ?_
  refine x_sld 553 (i + 1) C S (rfl) (by omega) (by omega) dL_law_552 rfl ?_
  refine x_callV 556 C (c_X5_count K _ X ho _) hx36 wcl_X5 hy_X5_count wv_X5_count we_X5_count lk_L_71 dL_law_553 rfl ⟨Nat.le_of_ble_eq_true rfl, Nat.le_of_ble_eq_true rfl⟩ ⟨show 64 + 4 * k + 0 ≤ 600000 by omega, show 7533 + 61 * k + 0 ≤ 7302250 by omega⟩ (Nat.le_of_ble_eq_true rfl) rfl (k_0 rfl rfl (k_ip ?_))
  obtain ⟨z, F, G, WB, hr⟩ := Y
  refine x_wid (k2 := 64 + 4 * (k + 1)) (n2 := 7533 + 61 * (k + 1)) (by show 64 + 4 * k + 0 ≤ _; omega) (by show 7533 + 61 * k + 0 ≤ _; omega) ?_
  refine x_aload_2 557 C dL_law_556 rfl ?_
  refine x_aload_0 558 C dL_law_557 rfl ?_
  refine x_iload_3 559 C dL_law_558 rfl ?_
  refine x_iconst (v := 1) 560 C dL_law_559 rfl rfl ?_
  refine x_iadd 561 C dL_law_560 rfl ?_
  refine x_topi (nI_add i 1) ?_
  refine x_sld 562 (i + 1) C S (rfl) (by omega) (by omega) dL_law_561 rfl ?_
  refine x_callV 565 C (c_X6_count K _ WB hr ho _) WB.obj wcl_X6 hy_X6_count wv_X6_count we_X6_count lk_L_74 dL_law_562 rfl ⟨Nat.le_of_ble_eq_true rfl, Nat.le_of_ble_eq_true rfl⟩ ⟨show 64 + 4 * (k + 1) + 0 ≤ 600000 by omega, show 7533 + 61 * (k + 1) + 0 ≤ 7302250 by omega⟩ (Nat.le_of_ble_eq_true rfl) rfl (k_0 rfl rfl (k_ip ?_))
  refine x_icmp_eq 568 1166 C dL_law_565 rfl rfl (fun _ => ?_) (fun z => absurd (rfl) z)
  exact kk _ _ X ⟨z, F, G, WB, hr⟩ ho
set_option maxHeartbeats 4000000 in
set_option maxRecDepth 100000 in
theorem law_c13 {E : hEv} {K : hKv} (C : hCx E K cL_law 4 RL nm room_1) {b L : Nat} {xs : Nat → Int32} (S : hSc E b L xs) (hL : L ≤ 3072) {A B : Nat → Nat} {σ : hSt} {M : hM} (X : cX K A σ M) (Y : mX K B σ M) (ho : okS σ) (i k : Nat) (hi6 : i + 6 ≤ L) (hk : k < 512) (kk : ∀ (σ2 : hSt) (M2 : hM), cX K A σ2 M2 → mX K B σ2 M2 → okS σ2 → hX E (64 + 4 * (k + 1)) (7533 + 61 * (k + 1)) 1166 [some (.ref b), some (.ref (A 36)), some (.ref (B 0)), some (.int (nI i))] [] M2) : hX E (64 + 4 * k) (7533 + 61 * k) 570 [some (.ref b), some (.ref (A 36)), some (.ref (B 0)), some (.int (nI i))] [] M := by
  obtain ⟨zx, hx36⟩ := X.obj
  refine x_aload_1 571 C dL_law_570 rfl ?_
  refine x_aload_0 572 C dL_law_571 rfl ?_
  refine x_iload_3 573 C dL_law_572 rfl ?_
  refine x_iconst (v := 1) 574 C dL_law_573 rfl rfl ?_
  refine x_iadd 575 C dL_law_574 rfl ?_
  refine x_topi (nI_add i 1) ?_
  refine x_sld 576 (i + 1) C S (rfl) (by omega) (by omega) dL_law_575 rfl ?_
  refine x_i2l 577 C dL_law_576 rfl ?_
  refine x_bipush (v := 32) 579 C dL_law_577 rfl rfl ?_
  refine x_lshl 580 C dL_law_579 rfl ?_
  refine x_aload_0 581 C dL_law_580 rfl ?_
  refine x_iload_3 582 C dL_law_581 rfl ?_
  refine x_iconst (v := 2) 583 C dL_law_582 rfl rfl ?_
  refine x_iadd 584 C dL_law_583 rfl ?_
  refine x_topi (nI_add i 2) ?_
  refine x_sld 585 (i + 2) C S (rfl) (by omega) (by omega) dL_law_584 rfl ?_
  refine x_i2l 586 C dL_law_585 rfl ?_
  refine x_ldc2 (v := 4294967295) 589 C dL_law_586 rfl wq_L_18 ?_
  refine x_land 590 C dL_law_589 rfl ?_
  refine x_lor 591 C dL_law_590 rfl ?_
  refine x_aload_0 592 C dL_law_591 rfl ?_
  refine x_iload_3 593 C dL_law_592 rfl ?_
  refine x_iconst (v := 3) 594 C dL_law_593 rfl rfl ?_
  refine x_iadd 595 C dL_law_594 rfl ?_
  refine x_topi (nI_add i 3) ?_
  refine x_sld 596 (i + 3) C S (rfl) (by omega) (by omega) dL_law_595 rfl ?_
  refine x_callV 599 C (c_X5_root K _ X ho _ _) hx36 wcl_X5 hy_X5_root wv_X5_root we_X5_root lk_L_75 dL_law_596 rfl ⟨Nat.le_of_ble_eq_true rfl, Nat.le_of_ble_eq_true rfl⟩ ⟨show 64 + 4 * k + 0 ≤ 600000 by omega, show 7533 + 61 * k + 0 ≤ 7302250 by omega⟩ (Nat.le_of_ble_eq_true rfl) rfl (k_0 rfl rfl (k_ip ?_))
  obtain ⟨z, F, G, WB, hr⟩ := Y
  refine x_wid (k2 := 64 + 4 * (k + 1)) (n2 := 7533 + 61 * (k + 1)) (by show 64 + 4 * k + 0 ≤ _; omega) (by show 7533 + 61 * k + 0 ≤ _; omega) ?_
  refine x_aload_2 600 C dL_law_599 rfl ?_
  refine x_aload_0 601 C dL_law_600 rfl ?_
  refine x_iload_3 602 C dL_law_601 rfl ?_
  refine x_iconst (v := 1) 603 C dL_law_602 rfl rfl ?_
  refine x_iadd 604 C dL_law_603 rfl ?_
  refine x_topi (nI_add i 1) ?_
  refine x_sld 605 (i + 1) C S (rfl) (by omega) (by omega) dL_law_604 rfl ?_
  refine x_i2l 606 C dL_law_605 rfl ?_
  refine x_bipush (v := 32) 608 C dL_law_606 rfl rfl ?_
  refine x_lshl 609 C dL_law_608 rfl ?_
  refine x_aload_0 610 C dL_law_609 rfl ?_
  refine x_iload_3 611 C dL_law_610 rfl ?_
  refine x_iconst (v := 2) 612 C dL_law_611 rfl rfl ?_
  refine x_iadd 613 C dL_law_612 rfl ?_
  refine x_topi (nI_add i 2) ?_
  refine x_sld 614 (i + 2) C S (rfl) (by omega) (by omega) dL_law_613 rfl ?_
  refine x_i2l 615 C dL_law_614 rfl ?_
  refine x_ldc2 (v := 4294967295) 618 C dL_law_615 rfl wq_L_18 ?_
  refine x_land 619 C dL_law_618 rfl ?_
  refine x_lor 620 C dL_law_619 rfl ?_
  refine x_aload_0 621 C dL_law_620 rfl ?_
  refine x_iload_3 622 C dL_law_621 rfl ?_
  refine x_iconst (v := 3) 623 C dL_law_622 rfl rfl ?_
  refine x_iadd 624 C dL_law_623 rfl ?_
  refine x_topi (nI_add i 3) ?_
  refine x_sld 625 (i + 3) C S (rfl) (by omega) (by omega) dL_law_624 rfl ?_
  refine x_callV 628 C (c_X6_root K _ WB (τ := σ.1) hr.2.2.1 ho.1 _ _) WB.obj wcl_X6 hy_X6_root wv_X6_root we_X6_root lk_L_79 dL_law_625 rfl ⟨Nat.le_of_ble_eq_true rfl, Nat.le_of_ble_eq_true rfl⟩ ⟨show 64 + 4 * (k + 1) + 0 ≤ 600000 by omega, show 7533 + 61 * (k + 1) + 0 ≤ 7302250 by omega⟩ (Nat.le_of_ble_eq_true rfl) rfl (k_0 rfl rfl (k_ip ?_))
  refine x_icmp_eq 631 1166 C dL_law_628 rfl rfl (fun _ => ?_) (fun z => absurd (rfl) z)
  exact kk _ _ X ⟨z, F, G, WB, hr⟩ ho
end LawCases
