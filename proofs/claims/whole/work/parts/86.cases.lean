/-! the law: one call of each kind -/
set_option maxRecDepth 20000 in
set_option maxHeartbeats 4000000 in
theorem lw_188 {sz L i : Nat} {xs : Nat → Int32} {ad : Nm → Nat} {g : Sg} {S : CS} {Q : Option Value → PH → Prop} (h : LwI sz L xs g S) (hi : i + 5 ≤ L) (hL : L ≤ 2560) (hk : ∀ ad' g' S', LwI sz L xs g' S' → PP mL_law 1193 [some (.ref (ad' (50, 0, 0))), some (.ref (ad' (0, 0, 0))), some (.ref (ad' (40, 0, 0))), some (.int (nI i))] [] (Rel ad' g') Q) : PP mL_law 188 [some (.ref (ad (50, 0, 0))), some (.ref (ad (0, 0, 0))), some (.ref (ad (40, 0, 0))), some (.int (nI i))] [] (Rel ad g) Q := by
  obtain ⟨hR, hc, hm, hs⟩ := h
  refine pp_aload_n dL_law_188 rfl isRf_r (q := 189) rfl ?_
  refine pp_aload_n dL_law_189 rfl (by first | exact isRf_r | exact isRf_va | exact isRf_n) (q := 190) rfl ?_
  refine pp_iload_n dL_law_190 rfl (q := 191) rfl ?_
  refine pp_iconst dL_law_191 ci_1 (q := 192) rfl ?_
  refine pp_iadd dL_law_192 (q := 193) rfl ?_
  try rw [nI_add]
  refine ps_sld dL_law_193 hs.1 (LwS_sc hs) rfl (by omega) (by omega) (q := 194) rfl ?_
  refine pp_aload_n dL_law_194 rfl (by first | exact isRf_r | exact isRf_va | exact isRf_n) (q := 195) rfl ?_
  refine pp_iload_n dL_law_195 rfl (q := 196) rfl ?_
  refine pp_iconst dL_law_196 ci_2 (q := 197) rfl ?_
  refine pp_iadd dL_law_197 (q := 198) rfl ?_
  try rw [nI_add]
  refine ps_sld dL_law_198 hs.1 (LwS_sc hs) rfl (by omega) (by omega) (q := 199) rfl ?_
  refine pp_i2l dL_law_199 (q := 200) rfl ?_
  refine pp_bipush dL_law_200 cb_32 (q := 202) rfl ?_
  refine pp_lshl dL_law_202 (q := 203) rfl ?_
  refine pp_aload_n dL_law_203 rfl (by first | exact isRf_r | exact isRf_va | exact isRf_n) (q := 204) rfl ?_
  refine pp_iload_n dL_law_204 rfl (q := 205) rfl ?_
  refine pp_iconst dL_law_205 ci_3 (q := 206) rfl ?_
  refine pp_iadd dL_law_206 (q := 207) rfl ?_
  try rw [nI_add]
  refine ps_sld dL_law_207 hs.1 (LwS_sc hs) rfl (by omega) (by omega) (q := 208) rfl ?_
  refine pp_i2l dL_law_208 (q := 209) rfl ?_
  refine pp_ldc2 (v := (4294967295)) dL_law_209 kc_L_13 (q := 212) rfl ?_
  refine pp_land dL_law_212 (q := 213) rfl ?_
  refine pp_lor dL_law_213 (q := 214) rfl ?_
  refine ps_callVq dL_law_214 lk_L_15 (by exact hR.1) (by rfl) (by rfl) (by rfl) (x_member hR hc) (by rfl) (by exact Nat.le_of_ble_eq_true rfl) (by decide) (by decide) (by exact Nat.le_of_ble_eq_true rfl) (q := 217) rfl (fun v214 ad214 g214 h214 => ?_)
  obtain ⟨rfl, hR2, hc2, hE⟩ := h214
  rw [← hE.2.1 (50, 0, 0) hs.1 (Or.inl (by decide)), ← hE.2.1 (0, 0, 0) hR.1 (Or.inr rfl), ← hE.2.1 (40, 0, 0) hm.1.1 (Or.inl (by decide))]
  have hs := LwS_c hs hE
  have hm := RR_c hm hE
  change PP mL_law 217 _ [Value.int _] (Rel ad214 g214) _
  refine pp_aload_n dL_law_217 rfl isRf_r (q := 218) rfl ?_
  refine pp_aload_n dL_law_218 rfl (by first | exact isRf_r | exact isRf_va | exact isRf_n) (q := 219) rfl ?_
  refine pp_iload_n dL_law_219 rfl (q := 220) rfl ?_
  refine pp_iconst dL_law_220 ci_1 (q := 221) rfl ?_
  refine pp_iadd dL_law_221 (q := 222) rfl ?_
  try rw [nI_add]
  refine ps_sld dL_law_222 hs.1 (LwS_sc hs) rfl (by omega) (by omega) (q := 223) rfl ?_
  refine pp_aload_n dL_law_223 rfl (by first | exact isRf_r | exact isRf_va | exact isRf_n) (q := 224) rfl ?_
  refine pp_iload_n dL_law_224 rfl (q := 225) rfl ?_
  refine pp_iconst dL_law_225 ci_2 (q := 226) rfl ?_
  refine pp_iadd dL_law_226 (q := 227) rfl ?_
  try rw [nI_add]
  refine ps_sld dL_law_227 hs.1 (LwS_sc hs) rfl (by omega) (by omega) (q := 228) rfl ?_
  refine pp_i2l dL_law_228 (q := 229) rfl ?_
  refine pp_bipush dL_law_229 cb_32 (q := 231) rfl ?_
  refine pp_lshl dL_law_231 (q := 232) rfl ?_
  refine pp_aload_n dL_law_232 rfl (by first | exact isRf_r | exact isRf_va | exact isRf_n) (q := 233) rfl ?_
  refine pp_iload_n dL_law_233 rfl (q := 234) rfl ?_
  refine pp_iconst dL_law_234 ci_3 (q := 235) rfl ?_
  refine pp_iadd dL_law_235 (q := 236) rfl ?_
  try rw [nI_add]
  refine ps_sld dL_law_236 hs.1 (LwS_sc hs) rfl (by omega) (by omega) (q := 237) rfl ?_
  refine pp_i2l dL_law_237 (q := 238) rfl ?_
  refine pp_ldc2 (v := (4294967295)) dL_law_238 kc_L_13 (q := 241) rfl ?_
  refine pp_land dL_law_241 (q := 242) rfl ?_
  refine pp_lor dL_law_242 (q := 243) rfl ?_
  refine ps_callVi dL_law_243 lk_L_19 (by exact hm.1.1) (by rfl) (by rfl) (by rfl) (m_member hm hR.2.1.1) (by rfl) (by exact Nat.le_of_ble_eq_true rfl) (by decide) (by decide) (by exact Nat.le_of_ble_eq_true rfl) (q := 246) rfl (fun r243 g243 h243 => ?_)
  obtain ⟨rfl, hm3, hX⟩ := h243
  refine pp_icmp_eq (tgt := 1193) dL_law_246 (by decide) (q := 249) rfl (fun c246 => ?_) (fun c246 => absurd rfl c246)
  exact hk _ _ _ (LwI_x hR2 hc2 hs hm3 hX)
set_option maxRecDepth 20000 in
set_option maxHeartbeats 4000000 in
theorem lw_251 {sz L i : Nat} {xs : Nat → Int32} {ad : Nm → Nat} {g : Sg} {S : CS} {Q : Option Value → PH → Prop} (h : LwI sz L xs g S) (hi : i + 5 ≤ L) (hL : L ≤ 2560) (hk : ∀ ad' g' S', LwI sz L xs g' S' → PP mL_law 1193 [some (.ref (ad' (50, 0, 0))), some (.ref (ad' (0, 0, 0))), some (.ref (ad' (40, 0, 0))), some (.int (nI i))] [] (Rel ad' g') Q) : PP mL_law 251 [some (.ref (ad (50, 0, 0))), some (.ref (ad (0, 0, 0))), some (.ref (ad (40, 0, 0))), some (.int (nI i))] [] (Rel ad g) Q := by
  obtain ⟨hR, hc, hm, hs⟩ := h
  refine pp_aload_n dL_law_251 rfl isRf_r (q := 252) rfl ?_
  refine pp_aload_n dL_law_252 rfl (by first | exact isRf_r | exact isRf_va | exact isRf_n) (q := 253) rfl ?_
  refine pp_iload_n dL_law_253 rfl (q := 254) rfl ?_
  refine pp_iconst dL_law_254 ci_1 (q := 255) rfl ?_
  refine pp_iadd dL_law_255 (q := 256) rfl ?_
  try rw [nI_add]
  refine ps_sld dL_law_256 hs.1 (LwS_sc hs) rfl (by omega) (by omega) (q := 257) rfl ?_
  refine pp_aload_n dL_law_257 rfl (by first | exact isRf_r | exact isRf_va | exact isRf_n) (q := 258) rfl ?_
  refine pp_iload_n dL_law_258 rfl (q := 259) rfl ?_
  refine pp_iconst dL_law_259 ci_2 (q := 260) rfl ?_
  refine pp_iadd dL_law_260 (q := 261) rfl ?_
  try rw [nI_add]
  refine ps_sld dL_law_261 hs.1 (LwS_sc hs) rfl (by omega) (by omega) (q := 262) rfl ?_
  refine ps_callVq dL_law_262 lk_L_20 (by exact hR.1) (by rfl) (by rfl) (by rfl) (x_join hR hc) (by rfl) (by exact Nat.le_of_ble_eq_true rfl) (by decide) (by decide) (by exact Nat.le_of_ble_eq_true rfl) (q := 265) rfl (fun v262 ad262 g262 h262 => ?_)
  obtain ⟨rfl, hR2, hc2, hE⟩ := h262
  rw [← hE.2.1 (50, 0, 0) hs.1 (Or.inl (by decide)), ← hE.2.1 (0, 0, 0) hR.1 (Or.inr rfl), ← hE.2.1 (40, 0, 0) hm.1.1 (Or.inl (by decide))]
  have hs := LwS_c hs hE
  have hm := RR_c hm hE
  change PP mL_law 265 _ [Value.int _] (Rel ad262 g262) _
  refine pp_aload_n dL_law_265 rfl isRf_r (q := 266) rfl ?_
  refine pp_aload_n dL_law_266 rfl (by first | exact isRf_r | exact isRf_va | exact isRf_n) (q := 267) rfl ?_
  refine pp_iload_n dL_law_267 rfl (q := 268) rfl ?_
  refine pp_iconst dL_law_268 ci_1 (q := 269) rfl ?_
  refine pp_iadd dL_law_269 (q := 270) rfl ?_
  try rw [nI_add]
  refine ps_sld dL_law_270 hs.1 (LwS_sc hs) rfl (by omega) (by omega) (q := 271) rfl ?_
  refine pp_aload_n dL_law_271 rfl (by first | exact isRf_r | exact isRf_va | exact isRf_n) (q := 272) rfl ?_
  refine pp_iload_n dL_law_272 rfl (q := 273) rfl ?_
  refine pp_iconst dL_law_273 ci_2 (q := 274) rfl ?_
  refine pp_iadd dL_law_274 (q := 275) rfl ?_
  try rw [nI_add]
  refine ps_sld dL_law_275 hs.1 (LwS_sc hs) rfl (by omega) (by omega) (q := 276) rfl ?_
  refine ps_callVi dL_law_276 lk_L_24 (by exact hm.1.1) (by rfl) (by rfl) (by rfl) (m_join hm hR.2.1.1) (by rfl) (by exact Nat.le_of_ble_eq_true rfl) (by decide) (by decide) (by exact Nat.le_of_ble_eq_true rfl) (q := 279) rfl (fun r276 g276 h276 => ?_)
  obtain ⟨rfl, hm3, hX⟩ := h276
  refine pp_icmp_eq (tgt := 1193) dL_law_279 (by decide) (q := 282) rfl (fun c279 => ?_) (fun c279 => absurd rfl c279)
  exact hk _ _ _ (LwI_x hR2 hc2 hs hm3 hX)
set_option maxRecDepth 20000 in
set_option maxHeartbeats 4000000 in
theorem lw_284 {sz L i : Nat} {xs : Nat → Int32} {ad : Nm → Nat} {g : Sg} {S : CS} {Q : Option Value → PH → Prop} (h : LwI sz L xs g S) (hi : i + 5 ≤ L) (hL : L ≤ 2560) (hk : ∀ ad' g' S', LwI sz L xs g' S' → PP mL_law 1193 [some (.ref (ad' (50, 0, 0))), some (.ref (ad' (0, 0, 0))), some (.ref (ad' (40, 0, 0))), some (.int (nI i))] [] (Rel ad' g') Q) : PP mL_law 284 [some (.ref (ad (50, 0, 0))), some (.ref (ad (0, 0, 0))), some (.ref (ad (40, 0, 0))), some (.int (nI i))] [] (Rel ad g) Q := by
  obtain ⟨hR, hc, hm, hs⟩ := h
  refine pp_aload_n dL_law_284 rfl isRf_r (q := 285) rfl ?_
  refine pp_aload_n dL_law_285 rfl (by first | exact isRf_r | exact isRf_va | exact isRf_n) (q := 286) rfl ?_
  refine pp_iload_n dL_law_286 rfl (q := 287) rfl ?_
  refine pp_iconst dL_law_287 ci_1 (q := 288) rfl ?_
  refine pp_iadd dL_law_288 (q := 289) rfl ?_
  try rw [nI_add]
  refine ps_sld dL_law_289 hs.1 (LwS_sc hs) rfl (by omega) (by omega) (q := 290) rfl ?_
  refine ps_callVq dL_law_290 lk_L_25 (by exact hR.1) (by rfl) (by rfl) (by rfl) (x_leave hR hc) (by rfl) (by exact Nat.le_of_ble_eq_true rfl) (by decide) (by decide) (by exact Nat.le_of_ble_eq_true rfl) (q := 293) rfl (fun v290 ad290 g290 h290 => ?_)
  obtain ⟨rfl, hR2, hc2, hE⟩ := h290
  rw [← hE.2.1 (50, 0, 0) hs.1 (Or.inl (by decide)), ← hE.2.1 (0, 0, 0) hR.1 (Or.inr rfl), ← hE.2.1 (40, 0, 0) hm.1.1 (Or.inl (by decide))]
  have hs := LwS_c hs hE
  have hm := RR_c hm hE
  change PP mL_law 293 _ [Value.int _] (Rel ad290 g290) _
  refine pp_aload_n dL_law_293 rfl isRf_r (q := 294) rfl ?_
  refine pp_aload_n dL_law_294 rfl (by first | exact isRf_r | exact isRf_va | exact isRf_n) (q := 295) rfl ?_
  refine pp_iload_n dL_law_295 rfl (q := 296) rfl ?_
  refine pp_iconst dL_law_296 ci_1 (q := 297) rfl ?_
  refine pp_iadd dL_law_297 (q := 298) rfl ?_
  try rw [nI_add]
  refine ps_sld dL_law_298 hs.1 (LwS_sc hs) rfl (by omega) (by omega) (q := 299) rfl ?_
  refine ps_callVi dL_law_299 lk_L_29 (by exact hm.1.1) (by rfl) (by rfl) (by rfl) (m_leave hm hR.2.1.1) (by rfl) (by exact Nat.le_of_ble_eq_true rfl) (by decide) (by decide) (by exact Nat.le_of_ble_eq_true rfl) (q := 302) rfl (fun r299 g299 h299 => ?_)
  obtain ⟨rfl, hm3, hX⟩ := h299
  refine pp_icmp_eq (tgt := 1193) dL_law_302 (by decide) (q := 305) rfl (fun c302 => ?_) (fun c302 => absurd rfl c302)
  exact hk _ _ _ (LwI_x hR2 hc2 hs hm3 hX)
set_option maxRecDepth 20000 in
set_option maxHeartbeats 4000000 in
theorem lw_307 {sz L i : Nat} {xs : Nat → Int32} {ad : Nm → Nat} {g : Sg} {S : CS} {Q : Option Value → PH → Prop} (h : LwI sz L xs g S) (hi : i + 5 ≤ L) (hL : L ≤ 2560) (hk : ∀ ad' g' S', LwI sz L xs g' S' → PP mL_law 1193 [some (.ref (ad' (50, 0, 0))), some (.ref (ad' (0, 0, 0))), some (.ref (ad' (40, 0, 0))), some (.int (nI i))] [] (Rel ad' g') Q) : PP mL_law 307 [some (.ref (ad (50, 0, 0))), some (.ref (ad (0, 0, 0))), some (.ref (ad (40, 0, 0))), some (.int (nI i))] [] (Rel ad g) Q := by
  obtain ⟨hR, hc, hm, hs⟩ := h
  refine pp_aload_n dL_law_307 rfl isRf_r (q := 308) rfl ?_
  refine pp_aload_n dL_law_308 rfl (by first | exact isRf_r | exact isRf_va | exact isRf_n) (q := 309) rfl ?_
  refine pp_iload_n dL_law_309 rfl (q := 310) rfl ?_
  refine pp_iconst dL_law_310 ci_1 (q := 311) rfl ?_
  refine pp_iadd dL_law_311 (q := 312) rfl ?_
  try rw [nI_add]
  refine ps_sld dL_law_312 hs.1 (LwS_sc hs) rfl (by omega) (by omega) (q := 313) rfl ?_
  refine ps_callVq dL_law_313 lk_L_30 (by exact hR.1) (by rfl) (by rfl) (by rfl) (x_turn hR hc) (by rfl) (by exact Nat.le_of_ble_eq_true rfl) (by decide) (by decide) (by exact Nat.le_of_ble_eq_true rfl) (q := 316) rfl (fun v313 ad313 g313 h313 => ?_)
  obtain ⟨rfl, hR2, hc2, hE⟩ := h313
  rw [← hE.2.1 (50, 0, 0) hs.1 (Or.inl (by decide)), ← hE.2.1 (0, 0, 0) hR.1 (Or.inr rfl), ← hE.2.1 (40, 0, 0) hm.1.1 (Or.inl (by decide))]
  have hs := LwS_c hs hE
  have hm := RR_c hm hE
  change PP mL_law 316 _ [Value.int _] (Rel ad313 g313) _
  refine pp_aload_n dL_law_316 rfl isRf_r (q := 317) rfl ?_
  refine pp_aload_n dL_law_317 rfl (by first | exact isRf_r | exact isRf_va | exact isRf_n) (q := 318) rfl ?_
  refine pp_iload_n dL_law_318 rfl (q := 319) rfl ?_
  refine pp_iconst dL_law_319 ci_1 (q := 320) rfl ?_
  refine pp_iadd dL_law_320 (q := 321) rfl ?_
  try rw [nI_add]
  refine ps_sld dL_law_321 hs.1 (LwS_sc hs) rfl (by omega) (by omega) (q := 322) rfl ?_
  refine ps_callVi dL_law_322 lk_L_33 (by exact hm.1.1) (by rfl) (by rfl) (by rfl) (m_turn hm hR.2.1.1) (by rfl) (by exact Nat.le_of_ble_eq_true rfl) (by decide) (by decide) (by exact Nat.le_of_ble_eq_true rfl) (q := 325) rfl (fun r322 g322 h322 => ?_)
  obtain ⟨rfl, hm3, hX⟩ := h322
  refine pp_icmp_eq (tgt := 1193) dL_law_325 (by decide) (q := 328) rfl (fun c325 => ?_) (fun c325 => absurd rfl c325)
  exact hk _ _ _ (LwI_x hR2 hc2 hs hm3 hX)
set_option maxRecDepth 20000 in
set_option maxHeartbeats 4000000 in
theorem lw_330 {sz L i : Nat} {xs : Nat → Int32} {ad : Nm → Nat} {g : Sg} {S : CS} {Q : Option Value → PH → Prop} (h : LwI sz L xs g S) (hi : i + 5 ≤ L) (hL : L ≤ 2560) (hk : ∀ ad' g' S', LwI sz L xs g' S' → PP mL_law 1193 [some (.ref (ad' (50, 0, 0))), some (.ref (ad' (0, 0, 0))), some (.ref (ad' (40, 0, 0))), some (.int (nI i))] [] (Rel ad' g') Q) : PP mL_law 330 [some (.ref (ad (50, 0, 0))), some (.ref (ad (0, 0, 0))), some (.ref (ad (40, 0, 0))), some (.int (nI i))] [] (Rel ad g) Q := by
  obtain ⟨hR, hc, hm, hs⟩ := h
  refine pp_aload_n dL_law_330 rfl isRf_r (q := 331) rfl ?_
  refine pp_aload_n dL_law_331 rfl (by first | exact isRf_r | exact isRf_va | exact isRf_n) (q := 332) rfl ?_
  refine pp_iload_n dL_law_332 rfl (q := 333) rfl ?_
  refine pp_iconst dL_law_333 ci_1 (q := 334) rfl ?_
  refine pp_iadd dL_law_334 (q := 335) rfl ?_
  try rw [nI_add]
  refine ps_sld dL_law_335 hs.1 (LwS_sc hs) rfl (by omega) (by omega) (q := 336) rfl ?_
  refine ps_callVq dL_law_336 lk_L_34 (by exact hR.1) (by rfl) (by rfl) (by rfl) (x_fall hR hc) (by rfl) (by exact Nat.le_of_ble_eq_true rfl) (by decide) (by decide) (by exact Nat.le_of_ble_eq_true rfl) (q := 339) rfl (fun v336 ad336 g336 h336 => ?_)
  obtain ⟨rfl, hR2, hc2, hE⟩ := h336
  rw [← hE.2.1 (50, 0, 0) hs.1 (Or.inl (by decide)), ← hE.2.1 (0, 0, 0) hR.1 (Or.inr rfl), ← hE.2.1 (40, 0, 0) hm.1.1 (Or.inl (by decide))]
  have hs := LwS_c hs hE
  have hm := RR_c hm hE
  change PP mL_law 339 _ [Value.int _] (Rel ad336 g336) _
  refine pp_aload_n dL_law_339 rfl isRf_r (q := 340) rfl ?_
  refine pp_aload_n dL_law_340 rfl (by first | exact isRf_r | exact isRf_va | exact isRf_n) (q := 341) rfl ?_
  refine pp_iload_n dL_law_341 rfl (q := 342) rfl ?_
  refine pp_iconst dL_law_342 ci_1 (q := 343) rfl ?_
  refine pp_iadd dL_law_343 (q := 344) rfl ?_
  try rw [nI_add]
  refine ps_sld dL_law_344 hs.1 (LwS_sc hs) rfl (by omega) (by omega) (q := 345) rfl ?_
  refine ps_callVi dL_law_345 lk_L_37 (by exact hm.1.1) (by rfl) (by rfl) (by rfl) (m_fall hm hR.2.1.1) (by rfl) (by exact Nat.le_of_ble_eq_true rfl) (by decide) (by decide) (by exact Nat.le_of_ble_eq_true rfl) (q := 348) rfl (fun r345 g345 h345 => ?_)
  obtain ⟨rfl, hm3, hX⟩ := h345
  refine pp_icmp_eq (tgt := 1193) dL_law_348 (by decide) (q := 351) rfl (fun c348 => ?_) (fun c348 => absurd rfl c348)
  exact hk _ _ _ (LwI_x hR2 hc2 hs hm3 hX)
set_option maxRecDepth 20000 in
set_option maxHeartbeats 4000000 in
theorem lw_353 {sz L i : Nat} {xs : Nat → Int32} {ad : Nm → Nat} {g : Sg} {S : CS} {Q : Option Value → PH → Prop} (h : LwI sz L xs g S) (hi : i + 5 ≤ L) (hL : L ≤ 2560) (hk : ∀ ad' g' S', LwI sz L xs g' S' → PP mL_law 1193 [some (.ref (ad' (50, 0, 0))), some (.ref (ad' (0, 0, 0))), some (.ref (ad' (40, 0, 0))), some (.int (nI i))] [] (Rel ad' g') Q) : PP mL_law 353 [some (.ref (ad (50, 0, 0))), some (.ref (ad (0, 0, 0))), some (.ref (ad (40, 0, 0))), some (.int (nI i))] [] (Rel ad g) Q := by
  obtain ⟨hR, hc, hm, hs⟩ := h
  refine pp_aload_n dL_law_353 rfl isRf_r (q := 354) rfl ?_
  refine pp_aload_n dL_law_354 rfl (by first | exact isRf_r | exact isRf_va | exact isRf_n) (q := 355) rfl ?_
  refine pp_iload_n dL_law_355 rfl (q := 356) rfl ?_
  refine pp_iconst dL_law_356 ci_1 (q := 357) rfl ?_
  refine pp_iadd dL_law_357 (q := 358) rfl ?_
  try rw [nI_add]
  refine ps_sld dL_law_358 hs.1 (LwS_sc hs) rfl (by omega) (by omega) (q := 359) rfl ?_
  refine ps_callVq dL_law_359 lk_L_38 (by exact hR.1) (by rfl) (by rfl) (by rfl) (x_rise hR hc) (by rfl) (by exact Nat.le_of_ble_eq_true rfl) (by decide) (by decide) (by exact Nat.le_of_ble_eq_true rfl) (q := 362) rfl (fun v359 ad359 g359 h359 => ?_)
  obtain ⟨rfl, hR2, hc2, hE⟩ := h359
  rw [← hE.2.1 (50, 0, 0) hs.1 (Or.inl (by decide)), ← hE.2.1 (0, 0, 0) hR.1 (Or.inr rfl), ← hE.2.1 (40, 0, 0) hm.1.1 (Or.inl (by decide))]
  have hs := LwS_c hs hE
  have hm := RR_c hm hE
  change PP mL_law 362 _ [Value.int _] (Rel ad359 g359) _
  refine pp_aload_n dL_law_362 rfl isRf_r (q := 363) rfl ?_
  refine pp_aload_n dL_law_363 rfl (by first | exact isRf_r | exact isRf_va | exact isRf_n) (q := 364) rfl ?_
  refine pp_iload_n dL_law_364 rfl (q := 365) rfl ?_
  refine pp_iconst dL_law_365 ci_1 (q := 366) rfl ?_
  refine pp_iadd dL_law_366 (q := 367) rfl ?_
  try rw [nI_add]
  refine ps_sld dL_law_367 hs.1 (LwS_sc hs) rfl (by omega) (by omega) (q := 368) rfl ?_
  refine ps_callVi dL_law_368 lk_L_41 (by exact hm.1.1) (by rfl) (by rfl) (by rfl) (m_rise hm hR.2.1.1) (by rfl) (by exact Nat.le_of_ble_eq_true rfl) (by decide) (by decide) (by exact Nat.le_of_ble_eq_true rfl) (q := 371) rfl (fun r368 g368 h368 => ?_)
  obtain ⟨rfl, hm3, hX⟩ := h368
  refine pp_icmp_eq (tgt := 1193) dL_law_371 (by decide) (q := 374) rfl (fun c371 => ?_) (fun c371 => absurd rfl c371)
  exact hk _ _ _ (LwI_x hR2 hc2 hs hm3 hX)
set_option maxRecDepth 20000 in
set_option maxHeartbeats 4000000 in
theorem lw_376 {sz L i : Nat} {xs : Nat → Int32} {ad : Nm → Nat} {g : Sg} {S : CS} {Q : Option Value → PH → Prop} (h : LwI sz L xs g S) (hi : i + 5 ≤ L) (hL : L ≤ 2560) (hk : ∀ ad' g' S', LwI sz L xs g' S' → PP mL_law 1193 [some (.ref (ad' (50, 0, 0))), some (.ref (ad' (0, 0, 0))), some (.ref (ad' (40, 0, 0))), some (.int (nI i))] [] (Rel ad' g') Q) : PP mL_law 376 [some (.ref (ad (50, 0, 0))), some (.ref (ad (0, 0, 0))), some (.ref (ad (40, 0, 0))), some (.int (nI i))] [] (Rel ad g) Q := by
  obtain ⟨hR, hc, hm, hs⟩ := h
  refine pp_aload_n dL_law_376 rfl isRf_r (q := 377) rfl ?_
  refine pp_aload_n dL_law_377 rfl (by first | exact isRf_r | exact isRf_va | exact isRf_n) (q := 378) rfl ?_
  refine pp_iload_n dL_law_378 rfl (q := 379) rfl ?_
  refine pp_iconst dL_law_379 ci_1 (q := 380) rfl ?_
  refine pp_iadd dL_law_380 (q := 381) rfl ?_
  try rw [nI_add]
  refine ps_sld dL_law_381 hs.1 (LwS_sc hs) rfl (by omega) (by omega) (q := 382) rfl ?_
  refine ps_callVq dL_law_382 lk_L_42 (by exact hR.1) (by rfl) (by rfl) (by rfl) (x_deliver hR hc) (by rfl) (by exact Nat.le_of_ble_eq_true rfl) (by decide) (by decide) (by exact Nat.le_of_ble_eq_true rfl) (q := 385) rfl (fun v382 ad382 g382 h382 => ?_)
  obtain ⟨rfl, hR2, hc2, hE⟩ := h382
  rw [← hE.2.1 (50, 0, 0) hs.1 (Or.inl (by decide)), ← hE.2.1 (0, 0, 0) hR.1 (Or.inr rfl), ← hE.2.1 (40, 0, 0) hm.1.1 (Or.inl (by decide))]
  have hs := LwS_c hs hE
  have hm := RR_c hm hE
  change PP mL_law 385 _ [Value.int _] (Rel ad382 g382) _
  refine pp_aload_n dL_law_385 rfl isRf_r (q := 386) rfl ?_
  refine pp_aload_n dL_law_386 rfl (by first | exact isRf_r | exact isRf_va | exact isRf_n) (q := 387) rfl ?_
  refine pp_iload_n dL_law_387 rfl (q := 388) rfl ?_
  refine pp_iconst dL_law_388 ci_1 (q := 389) rfl ?_
  refine pp_iadd dL_law_389 (q := 390) rfl ?_
  try rw [nI_add]
  refine ps_sld dL_law_390 hs.1 (LwS_sc hs) rfl (by omega) (by omega) (q := 391) rfl ?_
  refine ps_callVi dL_law_391 lk_L_45 (by exact hm.1.1) (by rfl) (by rfl) (by rfl) (m_deliver hm hR.2.1.1) (by rfl) (by exact Nat.le_of_ble_eq_true rfl) (by decide) (by decide) (by exact Nat.le_of_ble_eq_true rfl) (q := 394) rfl (fun r391 g391 h391 => ?_)
  obtain ⟨rfl, hm3, hX⟩ := h391
  refine pp_icmp_eq (tgt := 1193) dL_law_394 (by decide) (q := 397) rfl (fun c394 => ?_) (fun c394 => absurd rfl c394)
  exact hk _ _ _ (LwI_x hR2 hc2 hs hm3 hX)
set_option maxRecDepth 20000 in
set_option maxHeartbeats 4000000 in
theorem lw_399 {sz L i : Nat} {xs : Nat → Int32} {ad : Nm → Nat} {g : Sg} {S : CS} {Q : Option Value → PH → Prop} (h : LwI sz L xs g S) (hi : i + 5 ≤ L) (hL : L ≤ 2560) (hk : ∀ ad' g' S', LwI sz L xs g' S' → PP mL_law 1193 [some (.ref (ad' (50, 0, 0))), some (.ref (ad' (0, 0, 0))), some (.ref (ad' (40, 0, 0))), some (.int (nI i))] [] (Rel ad' g') Q) : PP mL_law 399 [some (.ref (ad (50, 0, 0))), some (.ref (ad (0, 0, 0))), some (.ref (ad (40, 0, 0))), some (.int (nI i))] [] (Rel ad g) Q := by
  obtain ⟨hR, hc, hm, hs⟩ := h
  refine pp_aload_n dL_law_399 rfl isRf_r (q := 400) rfl ?_
  refine pp_aload_n dL_law_400 rfl (by first | exact isRf_r | exact isRf_va | exact isRf_n) (q := 401) rfl ?_
  refine pp_iload_n dL_law_401 rfl (q := 402) rfl ?_
  refine pp_iconst dL_law_402 ci_1 (q := 403) rfl ?_
  refine pp_iadd dL_law_403 (q := 404) rfl ?_
  try rw [nI_add]
  refine ps_sld dL_law_404 hs.1 (LwS_sc hs) rfl (by omega) (by omega) (q := 405) rfl ?_
  refine ps_callVq dL_law_405 lk_L_46 (by exact hR.1) (by rfl) (by rfl) (by rfl) (x_lose hR hc) (by rfl) (by exact Nat.le_of_ble_eq_true rfl) (by decide) (by decide) (by exact Nat.le_of_ble_eq_true rfl) (q := 408) rfl (fun v405 ad405 g405 h405 => ?_)
  obtain ⟨rfl, hR2, hc2, hE⟩ := h405
  rw [← hE.2.1 (50, 0, 0) hs.1 (Or.inl (by decide)), ← hE.2.1 (0, 0, 0) hR.1 (Or.inr rfl), ← hE.2.1 (40, 0, 0) hm.1.1 (Or.inl (by decide))]
  have hs := LwS_c hs hE
  have hm := RR_c hm hE
  change PP mL_law 408 _ [Value.int _] (Rel ad405 g405) _
  refine pp_aload_n dL_law_408 rfl isRf_r (q := 409) rfl ?_
  refine pp_aload_n dL_law_409 rfl (by first | exact isRf_r | exact isRf_va | exact isRf_n) (q := 410) rfl ?_
  refine pp_iload_n dL_law_410 rfl (q := 411) rfl ?_
  refine pp_iconst dL_law_411 ci_1 (q := 412) rfl ?_
  refine pp_iadd dL_law_412 (q := 413) rfl ?_
  try rw [nI_add]
  refine ps_sld dL_law_413 hs.1 (LwS_sc hs) rfl (by omega) (by omega) (q := 414) rfl ?_
  refine ps_callVi dL_law_414 lk_L_49 (by exact hm.1.1) (by rfl) (by rfl) (by rfl) (m_lose hm hR.2.1.1) (by rfl) (by exact Nat.le_of_ble_eq_true rfl) (by decide) (by decide) (by exact Nat.le_of_ble_eq_true rfl) (q := 417) rfl (fun r414 g414 h414 => ?_)
  obtain ⟨rfl, hm3, hX⟩ := h414
  refine pp_icmp_eq (tgt := 1193) dL_law_417 (by decide) (q := 420) rfl (fun c417 => ?_) (fun c417 => absurd rfl c417)
  exact hk _ _ _ (LwI_x hR2 hc2 hs hm3 hX)
set_option maxRecDepth 20000 in
set_option maxHeartbeats 4000000 in
theorem lw_422 {sz L i : Nat} {xs : Nat → Int32} {ad : Nm → Nat} {g : Sg} {S : CS} {Q : Option Value → PH → Prop} (h : LwI sz L xs g S) (hi : i + 5 ≤ L) (hL : L ≤ 2560) (hk : ∀ ad' g' S', LwI sz L xs g' S' → PP mL_law 1193 [some (.ref (ad' (50, 0, 0))), some (.ref (ad' (0, 0, 0))), some (.ref (ad' (40, 0, 0))), some (.int (nI i))] [] (Rel ad' g') Q) : PP mL_law 422 [some (.ref (ad (50, 0, 0))), some (.ref (ad (0, 0, 0))), some (.ref (ad (40, 0, 0))), some (.int (nI i))] [] (Rel ad g) Q := by
  obtain ⟨hR, hc, hm, hs⟩ := h
  refine pp_aload_n dL_law_422 rfl isRf_r (q := 423) rfl ?_
  refine pp_aload_n dL_law_423 rfl (by first | exact isRf_r | exact isRf_va | exact isRf_n) (q := 424) rfl ?_
  refine pp_iload_n dL_law_424 rfl (q := 425) rfl ?_
  refine pp_iconst dL_law_425 ci_1 (q := 426) rfl ?_
  refine pp_iadd dL_law_426 (q := 427) rfl ?_
  try rw [nI_add]
  refine ps_sld dL_law_427 hs.1 (LwS_sc hs) rfl (by omega) (by omega) (q := 428) rfl ?_
  refine ps_callVq dL_law_428 lk_L_50 (by exact hR.1) (by rfl) (by rfl) (by rfl) (x_twice hR hc) (by rfl) (by exact Nat.le_of_ble_eq_true rfl) (by decide) (by decide) (by exact Nat.le_of_ble_eq_true rfl) (q := 431) rfl (fun v428 ad428 g428 h428 => ?_)
  obtain ⟨rfl, hR2, hc2, hE⟩ := h428
  rw [← hE.2.1 (50, 0, 0) hs.1 (Or.inl (by decide)), ← hE.2.1 (0, 0, 0) hR.1 (Or.inr rfl), ← hE.2.1 (40, 0, 0) hm.1.1 (Or.inl (by decide))]
  have hs := LwS_c hs hE
  have hm := RR_c hm hE
  change PP mL_law 431 _ [Value.int _] (Rel ad428 g428) _
  refine pp_aload_n dL_law_431 rfl isRf_r (q := 432) rfl ?_
  refine pp_aload_n dL_law_432 rfl (by first | exact isRf_r | exact isRf_va | exact isRf_n) (q := 433) rfl ?_
  refine pp_iload_n dL_law_433 rfl (q := 434) rfl ?_
  refine pp_iconst dL_law_434 ci_1 (q := 435) rfl ?_
  refine pp_iadd dL_law_435 (q := 436) rfl ?_
  try rw [nI_add]
  refine ps_sld dL_law_436 hs.1 (LwS_sc hs) rfl (by omega) (by omega) (q := 437) rfl ?_
  refine ps_callVi dL_law_437 lk_L_53 (by exact hm.1.1) (by rfl) (by rfl) (by rfl) (m_twice hm hR.2.1.1) (by rfl) (by exact Nat.le_of_ble_eq_true rfl) (by decide) (by decide) (by exact Nat.le_of_ble_eq_true rfl) (q := 440) rfl (fun r437 g437 h437 => ?_)
  obtain ⟨rfl, hm3, hX⟩ := h437
  refine pp_icmp_eq (tgt := 1193) dL_law_440 (by decide) (q := 443) rfl (fun c440 => ?_) (fun c440 => absurd rfl c440)
  exact hk _ _ _ (LwI_x hR2 hc2 hs hm3 hX)
set_option maxRecDepth 20000 in
set_option maxHeartbeats 4000000 in
theorem lw_445 {sz L i : Nat} {xs : Nat → Int32} {ad : Nm → Nat} {g : Sg} {S : CS} {Q : Option Value → PH → Prop} (h : LwI sz L xs g S) (hi : i + 5 ≤ L) (hL : L ≤ 2560) (hk : ∀ ad' g' S', LwI sz L xs g' S' → PP mL_law 1193 [some (.ref (ad' (50, 0, 0))), some (.ref (ad' (0, 0, 0))), some (.ref (ad' (40, 0, 0))), some (.int (nI i))] [] (Rel ad' g') Q) : PP mL_law 445 [some (.ref (ad (50, 0, 0))), some (.ref (ad (0, 0, 0))), some (.ref (ad (40, 0, 0))), some (.int (nI i))] [] (Rel ad g) Q := by
  obtain ⟨hR, hc, hm, hs⟩ := h
  refine pp_aload_n dL_law_445 rfl isRf_r (q := 446) rfl ?_
  refine pp_aload_n dL_law_446 rfl (by first | exact isRf_r | exact isRf_va | exact isRf_n) (q := 447) rfl ?_
  refine pp_iload_n dL_law_447 rfl (q := 448) rfl ?_
  refine pp_iconst dL_law_448 ci_1 (q := 449) rfl ?_
  refine pp_iadd dL_law_449 (q := 450) rfl ?_
  try rw [nI_add]
  refine ps_sld dL_law_450 hs.1 (LwS_sc hs) rfl (by omega) (by omega) (q := 451) rfl ?_
  refine pp_aload_n dL_law_451 rfl (by first | exact isRf_r | exact isRf_va | exact isRf_n) (q := 452) rfl ?_
  refine pp_iload_n dL_law_452 rfl (q := 453) rfl ?_
  refine pp_iconst dL_law_453 ci_2 (q := 454) rfl ?_
  refine pp_iadd dL_law_454 (q := 455) rfl ?_
  try rw [nI_add]
  refine ps_sld dL_law_455 hs.1 (LwS_sc hs) rfl (by omega) (by omega) (q := 456) rfl ?_
  refine ps_callVq dL_law_456 lk_L_54 (by exact hR.1) (by rfl) (by rfl) (by rfl) (x_cut hR hc) (by rfl) (by exact Nat.le_of_ble_eq_true rfl) (by decide) (by decide) (by exact Nat.le_of_ble_eq_true rfl) (q := 459) rfl (fun v456 ad456 g456 h456 => ?_)
  obtain ⟨rfl, hR2, hc2, hE⟩ := h456
  rw [← hE.2.1 (50, 0, 0) hs.1 (Or.inl (by decide)), ← hE.2.1 (0, 0, 0) hR.1 (Or.inr rfl), ← hE.2.1 (40, 0, 0) hm.1.1 (Or.inl (by decide))]
  have hs := LwS_c hs hE
  have hm := RR_c hm hE
  change PP mL_law 459 _ [Value.int _] (Rel ad456 g456) _
  refine pp_aload_n dL_law_459 rfl isRf_r (q := 460) rfl ?_
  refine pp_aload_n dL_law_460 rfl (by first | exact isRf_r | exact isRf_va | exact isRf_n) (q := 461) rfl ?_
  refine pp_iload_n dL_law_461 rfl (q := 462) rfl ?_
  refine pp_iconst dL_law_462 ci_1 (q := 463) rfl ?_
  refine pp_iadd dL_law_463 (q := 464) rfl ?_
  try rw [nI_add]
  refine ps_sld dL_law_464 hs.1 (LwS_sc hs) rfl (by omega) (by omega) (q := 465) rfl ?_
  refine pp_aload_n dL_law_465 rfl (by first | exact isRf_r | exact isRf_va | exact isRf_n) (q := 466) rfl ?_
  refine pp_iload_n dL_law_466 rfl (q := 467) rfl ?_
  refine pp_iconst dL_law_467 ci_2 (q := 468) rfl ?_
  refine pp_iadd dL_law_468 (q := 469) rfl ?_
  try rw [nI_add]
  refine ps_sld dL_law_469 hs.1 (LwS_sc hs) rfl (by omega) (by omega) (q := 470) rfl ?_
  refine ps_callVi dL_law_470 lk_L_57 (by exact hm.1.1) (by rfl) (by rfl) (by rfl) (m_cut hm hR.2.1.1) (by rfl) (by exact Nat.le_of_ble_eq_true rfl) (by decide) (by decide) (by exact Nat.le_of_ble_eq_true rfl) (q := 473) rfl (fun r470 g470 h470 => ?_)
  obtain ⟨rfl, hm3, hX⟩ := h470
  refine pp_icmp_eq (tgt := 1193) dL_law_473 (by decide) (q := 476) rfl (fun c473 => ?_) (fun c473 => absurd rfl c473)
  exact hk _ _ _ (LwI_x hR2 hc2 hs hm3 hX)
set_option maxRecDepth 20000 in
set_option maxHeartbeats 4000000 in
theorem lw_478 {sz L i : Nat} {xs : Nat → Int32} {ad : Nm → Nat} {g : Sg} {S : CS} {Q : Option Value → PH → Prop} (h : LwI sz L xs g S) (hi : i + 5 ≤ L) (hL : L ≤ 2560) (hk : ∀ ad' g' S', LwI sz L xs g' S' → PP mL_law 1193 [some (.ref (ad' (50, 0, 0))), some (.ref (ad' (0, 0, 0))), some (.ref (ad' (40, 0, 0))), some (.int (nI i))] [] (Rel ad' g') Q) : PP mL_law 478 [some (.ref (ad (50, 0, 0))), some (.ref (ad (0, 0, 0))), some (.ref (ad (40, 0, 0))), some (.int (nI i))] [] (Rel ad g) Q := by
  obtain ⟨hR, hc, hm, hs⟩ := h
  refine pp_aload_n dL_law_478 rfl isRf_r (q := 479) rfl ?_
  refine pp_aload_n dL_law_479 rfl (by first | exact isRf_r | exact isRf_va | exact isRf_n) (q := 480) rfl ?_
  refine pp_iload_n dL_law_480 rfl (q := 481) rfl ?_
  refine pp_iconst dL_law_481 ci_1 (q := 482) rfl ?_
  refine pp_iadd dL_law_482 (q := 483) rfl ?_
  try rw [nI_add]
  refine ps_sld dL_law_483 hs.1 (LwS_sc hs) rfl (by omega) (by omega) (q := 484) rfl ?_
  refine pp_aload_n dL_law_484 rfl (by first | exact isRf_r | exact isRf_va | exact isRf_n) (q := 485) rfl ?_
  refine pp_iload_n dL_law_485 rfl (q := 486) rfl ?_
  refine pp_iconst dL_law_486 ci_2 (q := 487) rfl ?_
  refine pp_iadd dL_law_487 (q := 488) rfl ?_
  try rw [nI_add]
  refine ps_sld dL_law_488 hs.1 (LwS_sc hs) rfl (by omega) (by omega) (q := 489) rfl ?_
  refine ps_callVq dL_law_489 lk_L_58 (by exact hR.1) (by rfl) (by rfl) (by rfl) (x_heal hR hc) (by rfl) (by exact Nat.le_of_ble_eq_true rfl) (by decide) (by decide) (by exact Nat.le_of_ble_eq_true rfl) (q := 492) rfl (fun v489 ad489 g489 h489 => ?_)
  obtain ⟨rfl, hR2, hc2, hE⟩ := h489
  rw [← hE.2.1 (50, 0, 0) hs.1 (Or.inl (by decide)), ← hE.2.1 (0, 0, 0) hR.1 (Or.inr rfl), ← hE.2.1 (40, 0, 0) hm.1.1 (Or.inl (by decide))]
  have hs := LwS_c hs hE
  have hm := RR_c hm hE
  change PP mL_law 492 _ [Value.int _] (Rel ad489 g489) _
  refine pp_aload_n dL_law_492 rfl isRf_r (q := 493) rfl ?_
  refine pp_aload_n dL_law_493 rfl (by first | exact isRf_r | exact isRf_va | exact isRf_n) (q := 494) rfl ?_
  refine pp_iload_n dL_law_494 rfl (q := 495) rfl ?_
  refine pp_iconst dL_law_495 ci_1 (q := 496) rfl ?_
  refine pp_iadd dL_law_496 (q := 497) rfl ?_
  try rw [nI_add]
  refine ps_sld dL_law_497 hs.1 (LwS_sc hs) rfl (by omega) (by omega) (q := 498) rfl ?_
  refine pp_aload_n dL_law_498 rfl (by first | exact isRf_r | exact isRf_va | exact isRf_n) (q := 499) rfl ?_
  refine pp_iload_n dL_law_499 rfl (q := 500) rfl ?_
  refine pp_iconst dL_law_500 ci_2 (q := 501) rfl ?_
  refine pp_iadd dL_law_501 (q := 502) rfl ?_
  try rw [nI_add]
  refine ps_sld dL_law_502 hs.1 (LwS_sc hs) rfl (by omega) (by omega) (q := 503) rfl ?_
  refine ps_callVi dL_law_503 lk_L_61 (by exact hm.1.1) (by rfl) (by rfl) (by rfl) (m_heal hm hR.2.1.1) (by rfl) (by exact Nat.le_of_ble_eq_true rfl) (by decide) (by decide) (by exact Nat.le_of_ble_eq_true rfl) (q := 506) rfl (fun r503 g503 h503 => ?_)
  obtain ⟨rfl, hm3, hX⟩ := h503
  refine pp_icmp_eq (tgt := 1193) dL_law_506 (by decide) (q := 509) rfl (fun c506 => ?_) (fun c506 => absurd rfl c506)
  exact hk _ _ _ (LwI_x hR2 hc2 hs hm3 hX)
set_option maxRecDepth 20000 in
set_option maxHeartbeats 4000000 in
theorem lw_511 {sz L i : Nat} {xs : Nat → Int32} {ad : Nm → Nat} {g : Sg} {S : CS} {Q : Option Value → PH → Prop} (h : LwI sz L xs g S) (hi : i + 5 ≤ L) (hL : L ≤ 2560) (hk : ∀ ad' g' S', LwI sz L xs g' S' → PP mL_law 1193 [some (.ref (ad' (50, 0, 0))), some (.ref (ad' (0, 0, 0))), some (.ref (ad' (40, 0, 0))), some (.int (nI i))] [] (Rel ad' g') Q) : PP mL_law 511 [some (.ref (ad (50, 0, 0))), some (.ref (ad (0, 0, 0))), some (.ref (ad (40, 0, 0))), some (.int (nI i))] [] (Rel ad g) Q := by
  obtain ⟨hR, hc, hm, hs⟩ := h
  refine pp_aload_n dL_law_511 rfl isRf_r (q := 512) rfl ?_
  refine pp_aload_n dL_law_512 rfl (by first | exact isRf_r | exact isRf_va | exact isRf_n) (q := 513) rfl ?_
  refine pp_iload_n dL_law_513 rfl (q := 514) rfl ?_
  refine pp_iconst dL_law_514 ci_1 (q := 515) rfl ?_
  refine pp_iadd dL_law_515 (q := 516) rfl ?_
  try rw [nI_add]
  refine ps_sld dL_law_516 hs.1 (LwS_sc hs) rfl (by omega) (by omega) (q := 517) rfl ?_
  refine ps_callVq dL_law_517 lk_L_62 (by exact hR.1) (by rfl) (by rfl) (by rfl) (x_letters hR hc) (by rfl) (by exact Nat.le_of_ble_eq_true rfl) (by decide) (by decide) (by exact Nat.le_of_ble_eq_true rfl) (q := 520) rfl (fun v517 ad517 g517 h517 => ?_)
  obtain ⟨rfl, hR2, hc2, hE⟩ := h517
  rw [← hE.2.1 (50, 0, 0) hs.1 (Or.inl (by decide)), ← hE.2.1 (0, 0, 0) hR.1 (Or.inr rfl), ← hE.2.1 (40, 0, 0) hm.1.1 (Or.inl (by decide))]
  have hs := LwS_c hs hE
  have hm := RR_c hm hE
  change PP mL_law 520 _ [Value.int _] (Rel ad517 g517) _
  refine pp_aload_n dL_law_520 rfl isRf_r (q := 521) rfl ?_
  refine pp_aload_n dL_law_521 rfl (by first | exact isRf_r | exact isRf_va | exact isRf_n) (q := 522) rfl ?_
  refine pp_iload_n dL_law_522 rfl (q := 523) rfl ?_
  refine pp_iconst dL_law_523 ci_1 (q := 524) rfl ?_
  refine pp_iadd dL_law_524 (q := 525) rfl ?_
  try rw [nI_add]
  refine ps_sld dL_law_525 hs.1 (LwS_sc hs) rfl (by omega) (by omega) (q := 526) rfl ?_
  refine ps_callVi dL_law_526 lk_L_65 (by exact hm.1.1) (by rfl) (by rfl) (by rfl) (m_letters hm hR.2.1.1) (by rfl) (by exact Nat.le_of_ble_eq_true rfl) (by decide) (by decide) (by exact Nat.le_of_ble_eq_true rfl) (q := 529) rfl (fun r526 g526 h526 => ?_)
  obtain ⟨rfl, hm3, hX⟩ := h526
  refine pp_icmp_eq (tgt := 1193) dL_law_529 (by decide) (q := 532) rfl (fun c529 => ?_) (fun c529 => absurd rfl c529)
  exact hk _ _ _ (LwI_x hR2 hc2 hs hm3 hX)
set_option maxRecDepth 20000 in
set_option maxHeartbeats 4000000 in
theorem lw_534 {sz L i : Nat} {xs : Nat → Int32} {ad : Nm → Nat} {g : Sg} {S : CS} {Q : Option Value → PH → Prop} (h : LwI sz L xs g S) (hi : i + 5 ≤ L) (hL : L ≤ 2560) (hk : ∀ ad' g' S', LwI sz L xs g' S' → PP mL_law 1193 [some (.ref (ad' (50, 0, 0))), some (.ref (ad' (0, 0, 0))), some (.ref (ad' (40, 0, 0))), some (.int (nI i))] [] (Rel ad' g') Q) : PP mL_law 534 [some (.ref (ad (50, 0, 0))), some (.ref (ad (0, 0, 0))), some (.ref (ad (40, 0, 0))), some (.int (nI i))] [] (Rel ad g) Q := by
  obtain ⟨hR, hc, hm, hs⟩ := h
  refine pp_aload_n dL_law_534 rfl isRf_r (q := 535) rfl ?_
  refine pp_aload_n dL_law_535 rfl (by first | exact isRf_r | exact isRf_va | exact isRf_n) (q := 536) rfl ?_
  refine pp_iload_n dL_law_536 rfl (q := 537) rfl ?_
  refine pp_iconst dL_law_537 ci_1 (q := 538) rfl ?_
  refine pp_iadd dL_law_538 (q := 539) rfl ?_
  try rw [nI_add]
  refine ps_sld dL_law_539 hs.1 (LwS_sc hs) rfl (by omega) (by omega) (q := 540) rfl ?_
  refine ps_callVq dL_law_540 lk_L_66 (by exact hR.1) (by rfl) (by rfl) (by rfl) (x_under hR hc) (by rfl) (by exact Nat.le_of_ble_eq_true rfl) (by decide) (by decide) (by exact Nat.le_of_ble_eq_true rfl) (q := 543) rfl (fun v540 ad540 g540 h540 => ?_)
  obtain ⟨rfl, hR2, hc2, hE⟩ := h540
  rw [← hE.2.1 (50, 0, 0) hs.1 (Or.inl (by decide)), ← hE.2.1 (0, 0, 0) hR.1 (Or.inr rfl), ← hE.2.1 (40, 0, 0) hm.1.1 (Or.inl (by decide))]
  have hs := LwS_c hs hE
  have hm := RR_c hm hE
  change PP mL_law 543 _ [Value.int _] (Rel ad540 g540) _
  refine pp_aload_n dL_law_543 rfl isRf_r (q := 544) rfl ?_
  refine pp_aload_n dL_law_544 rfl (by first | exact isRf_r | exact isRf_va | exact isRf_n) (q := 545) rfl ?_
  refine pp_iload_n dL_law_545 rfl (q := 546) rfl ?_
  refine pp_iconst dL_law_546 ci_1 (q := 547) rfl ?_
  refine pp_iadd dL_law_547 (q := 548) rfl ?_
  try rw [nI_add]
  refine ps_sld dL_law_548 hs.1 (LwS_sc hs) rfl (by omega) (by omega) (q := 549) rfl ?_
  refine ps_callVi dL_law_549 lk_L_69 (by exact hm.1.1) (by rfl) (by rfl) (by rfl) (m_under hm hR.2.1.1) (by rfl) (by exact Nat.le_of_ble_eq_true rfl) (by decide) (by decide) (by exact Nat.le_of_ble_eq_true rfl) (q := 552) rfl (fun r549 g549 h549 => ?_)
  obtain ⟨rfl, hm3, hX⟩ := h549
  refine pp_icmp_eq (tgt := 1193) dL_law_552 (by decide) (q := 555) rfl (fun c552 => ?_) (fun c552 => absurd rfl c552)
  exact hk _ _ _ (LwI_x hR2 hc2 hs hm3 hX)
set_option maxRecDepth 20000 in
set_option maxHeartbeats 4000000 in
theorem lw_557 {sz L i : Nat} {xs : Nat → Int32} {ad : Nm → Nat} {g : Sg} {S : CS} {Q : Option Value → PH → Prop} (h : LwI sz L xs g S) (hi : i + 5 ≤ L) (hL : L ≤ 2560) (hk : ∀ ad' g' S', LwI sz L xs g' S' → PP mL_law 1193 [some (.ref (ad' (50, 0, 0))), some (.ref (ad' (0, 0, 0))), some (.ref (ad' (40, 0, 0))), some (.int (nI i))] [] (Rel ad' g') Q) : PP mL_law 557 [some (.ref (ad (50, 0, 0))), some (.ref (ad (0, 0, 0))), some (.ref (ad (40, 0, 0))), some (.int (nI i))] [] (Rel ad g) Q := by
  obtain ⟨hR, hc, hm, hs⟩ := h
  refine pp_aload_n dL_law_557 rfl isRf_r (q := 558) rfl ?_
  refine pp_aload_n dL_law_558 rfl (by first | exact isRf_r | exact isRf_va | exact isRf_n) (q := 559) rfl ?_
  refine pp_iload_n dL_law_559 rfl (q := 560) rfl ?_
  refine pp_iconst dL_law_560 ci_1 (q := 561) rfl ?_
  refine pp_iadd dL_law_561 (q := 562) rfl ?_
  try rw [nI_add]
  refine ps_sld dL_law_562 hs.1 (LwS_sc hs) rfl (by omega) (by omega) (q := 563) rfl ?_
  refine pp_aload_n dL_law_563 rfl (by first | exact isRf_r | exact isRf_va | exact isRf_n) (q := 564) rfl ?_
  refine pp_iload_n dL_law_564 rfl (q := 565) rfl ?_
  refine pp_iconst dL_law_565 ci_2 (q := 566) rfl ?_
  refine pp_iadd dL_law_566 (q := 567) rfl ?_
  try rw [nI_add]
  refine ps_sld dL_law_567 hs.1 (LwS_sc hs) rfl (by omega) (by omega) (q := 568) rfl ?_
  refine ps_callVq dL_law_568 lk_L_70 (by exact hR.1) (by rfl) (by rfl) (by rfl) (x_letter hR hc) (by rfl) (by exact Nat.le_of_ble_eq_true rfl) (by decide) (by decide) (by exact Nat.le_of_ble_eq_true rfl) (q := 571) rfl (fun v568 ad568 g568 h568 => ?_)
  obtain ⟨rfl, hR2, hc2, hE⟩ := h568
  rw [← hE.2.1 (50, 0, 0) hs.1 (Or.inl (by decide)), ← hE.2.1 (0, 0, 0) hR.1 (Or.inr rfl), ← hE.2.1 (40, 0, 0) hm.1.1 (Or.inl (by decide))]
  have hs := LwS_c hs hE
  have hm := RR_c hm hE
  change PP mL_law 571 _ [Value.int _] (Rel ad568 g568) _
  refine pp_aload_n dL_law_571 rfl isRf_r (q := 572) rfl ?_
  refine pp_aload_n dL_law_572 rfl (by first | exact isRf_r | exact isRf_va | exact isRf_n) (q := 573) rfl ?_
  refine pp_iload_n dL_law_573 rfl (q := 574) rfl ?_
  refine pp_iconst dL_law_574 ci_1 (q := 575) rfl ?_
  refine pp_iadd dL_law_575 (q := 576) rfl ?_
  try rw [nI_add]
  refine ps_sld dL_law_576 hs.1 (LwS_sc hs) rfl (by omega) (by omega) (q := 577) rfl ?_
  refine pp_aload_n dL_law_577 rfl (by first | exact isRf_r | exact isRf_va | exact isRf_n) (q := 578) rfl ?_
  refine pp_iload_n dL_law_578 rfl (q := 579) rfl ?_
  refine pp_iconst dL_law_579 ci_2 (q := 580) rfl ?_
  refine pp_iadd dL_law_580 (q := 581) rfl ?_
  try rw [nI_add]
  refine ps_sld dL_law_581 hs.1 (LwS_sc hs) rfl (by omega) (by omega) (q := 582) rfl ?_
  refine ps_callVi dL_law_582 lk_L_73 (by exact hm.1.1) (by rfl) (by rfl) (by rfl) (m_letter hm hR.2.1.1) (by rfl) (by exact Nat.le_of_ble_eq_true rfl) (by decide) (by decide) (by exact Nat.le_of_ble_eq_true rfl) (q := 585) rfl (fun r582 g582 h582 => ?_)
  obtain ⟨rfl, hm3, hX⟩ := h582
  refine pp_icmp_eq (tgt := 1193) dL_law_585 (by decide) (q := 588) rfl (fun c585 => ?_) (fun c585 => absurd rfl c585)
  exact hk _ _ _ (LwI_x hR2 hc2 hs hm3 hX)
set_option maxRecDepth 20000 in
set_option maxHeartbeats 4000000 in
theorem lw_590 {sz L i : Nat} {xs : Nat → Int32} {ad : Nm → Nat} {g : Sg} {S : CS} {Q : Option Value → PH → Prop} (h : LwI sz L xs g S) (hi : i + 5 ≤ L) (hL : L ≤ 2560) (hk : ∀ ad' g' S', LwI sz L xs g' S' → PP mL_law 1193 [some (.ref (ad' (50, 0, 0))), some (.ref (ad' (0, 0, 0))), some (.ref (ad' (40, 0, 0))), some (.int (nI i))] [] (Rel ad' g') Q) : PP mL_law 590 [some (.ref (ad (50, 0, 0))), some (.ref (ad (0, 0, 0))), some (.ref (ad (40, 0, 0))), some (.int (nI i))] [] (Rel ad g) Q := by
  obtain ⟨hR, hc, hm, hs⟩ := h
  refine pp_aload_n dL_law_590 rfl isRf_r (q := 591) rfl ?_
  refine pp_aload_n dL_law_591 rfl (by first | exact isRf_r | exact isRf_va | exact isRf_n) (q := 592) rfl ?_
  refine pp_iload_n dL_law_592 rfl (q := 593) rfl ?_
  refine pp_iconst dL_law_593 ci_1 (q := 594) rfl ?_
  refine pp_iadd dL_law_594 (q := 595) rfl ?_
  try rw [nI_add]
  refine ps_sld dL_law_595 hs.1 (LwS_sc hs) rfl (by omega) (by omega) (q := 596) rfl ?_
  refine pp_aload_n dL_law_596 rfl (by first | exact isRf_r | exact isRf_va | exact isRf_n) (q := 597) rfl ?_
  refine pp_iload_n dL_law_597 rfl (q := 598) rfl ?_
  refine pp_iconst dL_law_598 ci_2 (q := 599) rfl ?_
  refine pp_iadd dL_law_599 (q := 600) rfl ?_
  try rw [nI_add]
  refine ps_sld dL_law_600 hs.1 (LwS_sc hs) rfl (by omega) (by omega) (q := 601) rfl ?_
  refine pp_aload_n dL_law_601 rfl (by first | exact isRf_r | exact isRf_va | exact isRf_n) (q := 602) rfl ?_
  refine pp_iload_n dL_law_602 rfl (q := 603) rfl ?_
  refine pp_iconst dL_law_603 ci_3 (q := 604) rfl ?_
  refine pp_iadd dL_law_604 (q := 605) rfl ?_
  try rw [nI_add]
  refine ps_sld dL_law_605 hs.1 (LwS_sc hs) rfl (by omega) (by omega) (q := 606) rfl ?_
  refine ps_callVq dL_law_606 lk_L_74 (by exact hR.1) (by rfl) (by rfl) (by rfl) (x_carries hR hc) (by rfl) (by exact Nat.le_of_ble_eq_true rfl) (by decide) (by decide) (by exact Nat.le_of_ble_eq_true rfl) (q := 609) rfl (fun v606 ad606 g606 h606 => ?_)
  obtain ⟨rfl, hR2, hc2, hE⟩ := h606
  rw [← hE.2.1 (50, 0, 0) hs.1 (Or.inl (by decide)), ← hE.2.1 (0, 0, 0) hR.1 (Or.inr rfl), ← hE.2.1 (40, 0, 0) hm.1.1 (Or.inl (by decide))]
  have hs := LwS_c hs hE
  have hm := RR_c hm hE
  change PP mL_law 609 _ [Value.int _] (Rel ad606 g606) _
  refine pp_aload_n dL_law_609 rfl isRf_r (q := 610) rfl ?_
  refine pp_aload_n dL_law_610 rfl (by first | exact isRf_r | exact isRf_va | exact isRf_n) (q := 611) rfl ?_
  refine pp_iload_n dL_law_611 rfl (q := 612) rfl ?_
  refine pp_iconst dL_law_612 ci_1 (q := 613) rfl ?_
  refine pp_iadd dL_law_613 (q := 614) rfl ?_
  try rw [nI_add]
  refine ps_sld dL_law_614 hs.1 (LwS_sc hs) rfl (by omega) (by omega) (q := 615) rfl ?_
  refine pp_aload_n dL_law_615 rfl (by first | exact isRf_r | exact isRf_va | exact isRf_n) (q := 616) rfl ?_
  refine pp_iload_n dL_law_616 rfl (q := 617) rfl ?_
  refine pp_iconst dL_law_617 ci_2 (q := 618) rfl ?_
  refine pp_iadd dL_law_618 (q := 619) rfl ?_
  try rw [nI_add]
  refine ps_sld dL_law_619 hs.1 (LwS_sc hs) rfl (by omega) (by omega) (q := 620) rfl ?_
  refine pp_aload_n dL_law_620 rfl (by first | exact isRf_r | exact isRf_va | exact isRf_n) (q := 621) rfl ?_
  refine pp_iload_n dL_law_621 rfl (q := 622) rfl ?_
  refine pp_iconst dL_law_622 ci_3 (q := 623) rfl ?_
  refine pp_iadd dL_law_623 (q := 624) rfl ?_
  try rw [nI_add]
  refine ps_sld dL_law_624 hs.1 (LwS_sc hs) rfl (by omega) (by omega) (q := 625) rfl ?_
  refine ps_callVi dL_law_625 lk_L_78 (by exact hm.1.1) (by rfl) (by rfl) (by rfl) (m_carries hm hR.2.1.1) (by rfl) (by exact Nat.le_of_ble_eq_true rfl) (by decide) (by decide) (by exact Nat.le_of_ble_eq_true rfl) (q := 628) rfl (fun r625 g625 h625 => ?_)
  obtain ⟨rfl, hm3, hX⟩ := h625
  refine pp_icmp_eq (tgt := 1193) dL_law_628 (by decide) (q := 631) rfl (fun c628 => ?_) (fun c628 => absurd rfl c628)
  exact hk _ _ _ (LwI_x hR2 hc2 hs hm3 hX)
set_option maxRecDepth 20000 in
set_option maxHeartbeats 4000000 in
theorem lw_633 {sz L i : Nat} {xs : Nat → Int32} {ad : Nm → Nat} {g : Sg} {S : CS} {Q : Option Value → PH → Prop} (h : LwI sz L xs g S) (hi : i + 5 ≤ L) (hL : L ≤ 2560) (hk : ∀ ad' g' S', LwI sz L xs g' S' → PP mL_law 1193 [some (.ref (ad' (50, 0, 0))), some (.ref (ad' (0, 0, 0))), some (.ref (ad' (40, 0, 0))), some (.int (nI i))] [] (Rel ad' g') Q) : PP mL_law 633 [some (.ref (ad (50, 0, 0))), some (.ref (ad (0, 0, 0))), some (.ref (ad (40, 0, 0))), some (.int (nI i))] [] (Rel ad g) Q := by
  obtain ⟨hR, hc, hm, hs⟩ := h
  refine pp_aload_n dL_law_633 rfl isRf_r (q := 634) rfl ?_
  refine pp_aload_n dL_law_634 rfl (by first | exact isRf_r | exact isRf_va | exact isRf_n) (q := 635) rfl ?_
  refine pp_iload_n dL_law_635 rfl (q := 636) rfl ?_
  refine pp_iconst dL_law_636 ci_1 (q := 637) rfl ?_
  refine pp_iadd dL_law_637 (q := 638) rfl ?_
  try rw [nI_add]
  refine ps_sld dL_law_638 hs.1 (LwS_sc hs) rfl (by omega) (by omega) (q := 639) rfl ?_
  refine pp_aload_n dL_law_639 rfl (by first | exact isRf_r | exact isRf_va | exact isRf_n) (q := 640) rfl ?_
  refine pp_iload_n dL_law_640 rfl (q := 641) rfl ?_
  refine pp_iconst dL_law_641 ci_2 (q := 642) rfl ?_
  refine pp_iadd dL_law_642 (q := 643) rfl ?_
  try rw [nI_add]
  refine ps_sld dL_law_643 hs.1 (LwS_sc hs) rfl (by omega) (by omega) (q := 644) rfl ?_
  refine ps_callVq dL_law_644 lk_L_79 (by exact hR.1) (by rfl) (by rfl) (by rfl) (x_state hR hc) (by rfl) (by exact Nat.le_of_ble_eq_true rfl) (by decide) (by decide) (by exact Nat.le_of_ble_eq_true rfl) (q := 647) rfl (fun v644 ad644 g644 h644 => ?_)
  obtain ⟨rfl, hR2, hc2, hE⟩ := h644
  rw [← hE.2.1 (50, 0, 0) hs.1 (Or.inl (by decide)), ← hE.2.1 (0, 0, 0) hR.1 (Or.inr rfl), ← hE.2.1 (40, 0, 0) hm.1.1 (Or.inl (by decide))]
  have hs := LwS_c hs hE
  have hm := RR_c hm hE
  change PP mL_law 647 _ [Value.int _] (Rel ad644 g644) _
  refine pp_aload_n dL_law_647 rfl isRf_r (q := 648) rfl ?_
  refine pp_aload_n dL_law_648 rfl (by first | exact isRf_r | exact isRf_va | exact isRf_n) (q := 649) rfl ?_
  refine pp_iload_n dL_law_649 rfl (q := 650) rfl ?_
  refine pp_iconst dL_law_650 ci_1 (q := 651) rfl ?_
  refine pp_iadd dL_law_651 (q := 652) rfl ?_
  try rw [nI_add]
  refine ps_sld dL_law_652 hs.1 (LwS_sc hs) rfl (by omega) (by omega) (q := 653) rfl ?_
  refine pp_aload_n dL_law_653 rfl (by first | exact isRf_r | exact isRf_va | exact isRf_n) (q := 654) rfl ?_
  refine pp_iload_n dL_law_654 rfl (q := 655) rfl ?_
  refine pp_iconst dL_law_655 ci_2 (q := 656) rfl ?_
  refine pp_iadd dL_law_656 (q := 657) rfl ?_
  try rw [nI_add]
  refine ps_sld dL_law_657 hs.1 (LwS_sc hs) rfl (by omega) (by omega) (q := 658) rfl ?_
  refine ps_callVi dL_law_658 lk_L_82 (by exact hm.1.1) (by rfl) (by rfl) (by rfl) (m_state hm hR.2.1.1) (by rfl) (by exact Nat.le_of_ble_eq_true rfl) (by decide) (by decide) (by exact Nat.le_of_ble_eq_true rfl) (q := 661) rfl (fun r658 g658 h658 => ?_)
  obtain ⟨rfl, hm3, hX⟩ := h658
  refine pp_icmp_eq (tgt := 1193) dL_law_661 (by decide) (q := 664) rfl (fun c661 => ?_) (fun c661 => absurd rfl c661)
  exact hk _ _ _ (LwI_x hR2 hc2 hs hm3 hX)
set_option maxRecDepth 20000 in
set_option maxHeartbeats 4000000 in
theorem lw_666 {sz L i : Nat} {xs : Nat → Int32} {ad : Nm → Nat} {g : Sg} {S : CS} {Q : Option Value → PH → Prop} (h : LwI sz L xs g S) (hi : i + 5 ≤ L) (hL : L ≤ 2560) (hk : ∀ ad' g' S', LwI sz L xs g' S' → PP mL_law 1193 [some (.ref (ad' (50, 0, 0))), some (.ref (ad' (0, 0, 0))), some (.ref (ad' (40, 0, 0))), some (.int (nI i))] [] (Rel ad' g') Q) : PP mL_law 666 [some (.ref (ad (50, 0, 0))), some (.ref (ad (0, 0, 0))), some (.ref (ad (40, 0, 0))), some (.int (nI i))] [] (Rel ad g) Q := by
  obtain ⟨hR, hc, hm, hs⟩ := h
  refine pp_aload_n dL_law_666 rfl isRf_r (q := 667) rfl ?_
  refine pp_aload_n dL_law_667 rfl (by first | exact isRf_r | exact isRf_va | exact isRf_n) (q := 668) rfl ?_
  refine pp_iload_n dL_law_668 rfl (q := 669) rfl ?_
  refine pp_iconst dL_law_669 ci_1 (q := 670) rfl ?_
  refine pp_iadd dL_law_670 (q := 671) rfl ?_
  try rw [nI_add]
  refine ps_sld dL_law_671 hs.1 (LwS_sc hs) rfl (by omega) (by omega) (q := 672) rfl ?_
  refine pp_aload_n dL_law_672 rfl (by first | exact isRf_r | exact isRf_va | exact isRf_n) (q := 673) rfl ?_
  refine pp_iload_n dL_law_673 rfl (q := 674) rfl ?_
  refine pp_iconst dL_law_674 ci_2 (q := 675) rfl ?_
  refine pp_iadd dL_law_675 (q := 676) rfl ?_
  try rw [nI_add]
  refine ps_sld dL_law_676 hs.1 (LwS_sc hs) rfl (by omega) (by omega) (q := 677) rfl ?_
  refine pp_aload_n dL_law_677 rfl (by first | exact isRf_r | exact isRf_va | exact isRf_n) (q := 678) rfl ?_
  refine pp_iload_n dL_law_678 rfl (q := 679) rfl ?_
  refine pp_iconst dL_law_679 ci_3 (q := 680) rfl ?_
  refine pp_iadd dL_law_680 (q := 681) rfl ?_
  try rw [nI_add]
  refine ps_sld dL_law_681 hs.1 (LwS_sc hs) rfl (by omega) (by omega) (q := 682) rfl ?_
  refine ps_callVq dL_law_682 lk_L_83 (by exact hR.1) (by rfl) (by rfl) (by rfl) (x_news hR hc) (by rfl) (by exact Nat.le_of_ble_eq_true rfl) (by decide) (by decide) (by exact Nat.le_of_ble_eq_true rfl) (q := 685) rfl (fun v682 ad682 g682 h682 => ?_)
  obtain ⟨rfl, hR2, hc2, hE⟩ := h682
  rw [← hE.2.1 (50, 0, 0) hs.1 (Or.inl (by decide)), ← hE.2.1 (0, 0, 0) hR.1 (Or.inr rfl), ← hE.2.1 (40, 0, 0) hm.1.1 (Or.inl (by decide))]
  have hs := LwS_c hs hE
  have hm := RR_c hm hE
  change PP mL_law 685 _ [Value.int _] (Rel ad682 g682) _
  refine pp_aload_n dL_law_685 rfl isRf_r (q := 686) rfl ?_
  refine pp_aload_n dL_law_686 rfl (by first | exact isRf_r | exact isRf_va | exact isRf_n) (q := 687) rfl ?_
  refine pp_iload_n dL_law_687 rfl (q := 688) rfl ?_
  refine pp_iconst dL_law_688 ci_1 (q := 689) rfl ?_
  refine pp_iadd dL_law_689 (q := 690) rfl ?_
  try rw [nI_add]
  refine ps_sld dL_law_690 hs.1 (LwS_sc hs) rfl (by omega) (by omega) (q := 691) rfl ?_
  refine pp_aload_n dL_law_691 rfl (by first | exact isRf_r | exact isRf_va | exact isRf_n) (q := 692) rfl ?_
  refine pp_iload_n dL_law_692 rfl (q := 693) rfl ?_
  refine pp_iconst dL_law_693 ci_2 (q := 694) rfl ?_
  refine pp_iadd dL_law_694 (q := 695) rfl ?_
  try rw [nI_add]
  refine ps_sld dL_law_695 hs.1 (LwS_sc hs) rfl (by omega) (by omega) (q := 696) rfl ?_
  refine pp_aload_n dL_law_696 rfl (by first | exact isRf_r | exact isRf_va | exact isRf_n) (q := 697) rfl ?_
  refine pp_iload_n dL_law_697 rfl (q := 698) rfl ?_
  refine pp_iconst dL_law_698 ci_3 (q := 699) rfl ?_
  refine pp_iadd dL_law_699 (q := 700) rfl ?_
  try rw [nI_add]
  refine ps_sld dL_law_700 hs.1 (LwS_sc hs) rfl (by omega) (by omega) (q := 701) rfl ?_
  refine ps_callVi dL_law_701 lk_L_86 (by exact hm.1.1) (by rfl) (by rfl) (by rfl) (m_news hm hR.2.1.1) (by rfl) (by exact Nat.le_of_ble_eq_true rfl) (by decide) (by decide) (by exact Nat.le_of_ble_eq_true rfl) (q := 704) rfl (fun r701 g701 h701 => ?_)
  obtain ⟨rfl, hm3, hX⟩ := h701
  refine pp_icmp_eq (tgt := 1193) dL_law_704 (by decide) (q := 707) rfl (fun c704 => ?_) (fun c704 => absurd rfl c704)
  exact hk _ _ _ (LwI_x hR2 hc2 hs hm3 hX)
set_option maxRecDepth 20000 in
set_option maxHeartbeats 4000000 in
theorem lw_709 {sz L i : Nat} {xs : Nat → Int32} {ad : Nm → Nat} {g : Sg} {S : CS} {Q : Option Value → PH → Prop} (h : LwI sz L xs g S) (hi : i + 5 ≤ L) (hL : L ≤ 2560) (hk : ∀ ad' g' S', LwI sz L xs g' S' → PP mL_law 1193 [some (.ref (ad' (50, 0, 0))), some (.ref (ad' (0, 0, 0))), some (.ref (ad' (40, 0, 0))), some (.int (nI i))] [] (Rel ad' g') Q) : PP mL_law 709 [some (.ref (ad (50, 0, 0))), some (.ref (ad (0, 0, 0))), some (.ref (ad (40, 0, 0))), some (.int (nI i))] [] (Rel ad g) Q := by
  obtain ⟨hR, hc, hm, hs⟩ := h
  refine pp_aload_n dL_law_709 rfl isRf_r (q := 710) rfl ?_
  refine pp_aload_n dL_law_710 rfl (by first | exact isRf_r | exact isRf_va | exact isRf_n) (q := 711) rfl ?_
  refine pp_iload_n dL_law_711 rfl (q := 712) rfl ?_
  refine pp_iconst dL_law_712 ci_1 (q := 713) rfl ?_
  refine pp_iadd dL_law_713 (q := 714) rfl ?_
  try rw [nI_add]
  refine ps_sld dL_law_714 hs.1 (LwS_sc hs) rfl (by omega) (by omega) (q := 715) rfl ?_
  refine pp_aload_n dL_law_715 rfl (by first | exact isRf_r | exact isRf_va | exact isRf_n) (q := 716) rfl ?_
  refine pp_iload_n dL_law_716 rfl (q := 717) rfl ?_
  refine pp_iconst dL_law_717 ci_2 (q := 718) rfl ?_
  refine pp_iadd dL_law_718 (q := 719) rfl ?_
  try rw [nI_add]
  refine ps_sld dL_law_719 hs.1 (LwS_sc hs) rfl (by omega) (by omega) (q := 720) rfl ?_
  refine pp_aload_n dL_law_720 rfl (by first | exact isRf_r | exact isRf_va | exact isRf_n) (q := 721) rfl ?_
  refine pp_iload_n dL_law_721 rfl (q := 722) rfl ?_
  refine pp_iconst dL_law_722 ci_3 (q := 723) rfl ?_
  refine pp_iadd dL_law_723 (q := 724) rfl ?_
  try rw [nI_add]
  refine ps_sld dL_law_724 hs.1 (LwS_sc hs) rfl (by omega) (by omega) (q := 725) rfl ?_
  refine ps_callVq dL_law_725 lk_L_87 (by exact hR.1) (by rfl) (by rfl) (by rfl) (x_as hR hc) (by rfl) (by exact Nat.le_of_ble_eq_true rfl) (by decide) (by decide) (by exact Nat.le_of_ble_eq_true rfl) (q := 728) rfl (fun v725 ad725 g725 h725 => ?_)
  obtain ⟨rfl, hR2, hc2, hE⟩ := h725
  rw [← hE.2.1 (50, 0, 0) hs.1 (Or.inl (by decide)), ← hE.2.1 (0, 0, 0) hR.1 (Or.inr rfl), ← hE.2.1 (40, 0, 0) hm.1.1 (Or.inl (by decide))]
  have hs := LwS_c hs hE
  have hm := RR_c hm hE
  change PP mL_law 728 _ [Value.int _] (Rel ad725 g725) _
  refine pp_aload_n dL_law_728 rfl isRf_r (q := 729) rfl ?_
  refine pp_aload_n dL_law_729 rfl (by first | exact isRf_r | exact isRf_va | exact isRf_n) (q := 730) rfl ?_
  refine pp_iload_n dL_law_730 rfl (q := 731) rfl ?_
  refine pp_iconst dL_law_731 ci_1 (q := 732) rfl ?_
  refine pp_iadd dL_law_732 (q := 733) rfl ?_
  try rw [nI_add]
  refine ps_sld dL_law_733 hs.1 (LwS_sc hs) rfl (by omega) (by omega) (q := 734) rfl ?_
  refine pp_aload_n dL_law_734 rfl (by first | exact isRf_r | exact isRf_va | exact isRf_n) (q := 735) rfl ?_
  refine pp_iload_n dL_law_735 rfl (q := 736) rfl ?_
  refine pp_iconst dL_law_736 ci_2 (q := 737) rfl ?_
  refine pp_iadd dL_law_737 (q := 738) rfl ?_
  try rw [nI_add]
  refine ps_sld dL_law_738 hs.1 (LwS_sc hs) rfl (by omega) (by omega) (q := 739) rfl ?_
  refine pp_aload_n dL_law_739 rfl (by first | exact isRf_r | exact isRf_va | exact isRf_n) (q := 740) rfl ?_
  refine pp_iload_n dL_law_740 rfl (q := 741) rfl ?_
  refine pp_iconst dL_law_741 ci_3 (q := 742) rfl ?_
  refine pp_iadd dL_law_742 (q := 743) rfl ?_
  try rw [nI_add]
  refine ps_sld dL_law_743 hs.1 (LwS_sc hs) rfl (by omega) (by omega) (q := 744) rfl ?_
  refine ps_callVi dL_law_744 lk_L_90 (by exact hm.1.1) (by rfl) (by rfl) (by rfl) (m_as hm hR.2.1.1) (by rfl) (by exact Nat.le_of_ble_eq_true rfl) (by decide) (by decide) (by exact Nat.le_of_ble_eq_true rfl) (q := 747) rfl (fun r744 g744 h744 => ?_)
  obtain ⟨rfl, hm3, hX⟩ := h744
  refine pp_icmp_eq (tgt := 1193) dL_law_747 (by decide) (q := 750) rfl (fun c747 => ?_) (fun c747 => absurd rfl c747)
  exact hk _ _ _ (LwI_x hR2 hc2 hs hm3 hX)
set_option maxRecDepth 20000 in
set_option maxHeartbeats 4000000 in
theorem lw_752 {sz L i : Nat} {xs : Nat → Int32} {ad : Nm → Nat} {g : Sg} {S : CS} {Q : Option Value → PH → Prop} (h : LwI sz L xs g S) (hi : i + 5 ≤ L) (hL : L ≤ 2560) (hk : ∀ ad' g' S', LwI sz L xs g' S' → PP mL_law 1193 [some (.ref (ad' (50, 0, 0))), some (.ref (ad' (0, 0, 0))), some (.ref (ad' (40, 0, 0))), some (.int (nI i))] [] (Rel ad' g') Q) : PP mL_law 752 [some (.ref (ad (50, 0, 0))), some (.ref (ad (0, 0, 0))), some (.ref (ad (40, 0, 0))), some (.int (nI i))] [] (Rel ad g) Q := by
  obtain ⟨hR, hc, hm, hs⟩ := h
  refine pp_aload_n dL_law_752 rfl isRf_r (q := 753) rfl ?_
  refine pp_aload_n dL_law_753 rfl (by first | exact isRf_r | exact isRf_va | exact isRf_n) (q := 754) rfl ?_
  refine pp_iload_n dL_law_754 rfl (q := 755) rfl ?_
  refine pp_iconst dL_law_755 ci_1 (q := 756) rfl ?_
  refine pp_iadd dL_law_756 (q := 757) rfl ?_
  try rw [nI_add]
  refine ps_sld dL_law_757 hs.1 (LwS_sc hs) rfl (by omega) (by omega) (q := 758) rfl ?_
  refine pp_aload_n dL_law_758 rfl (by first | exact isRf_r | exact isRf_va | exact isRf_n) (q := 759) rfl ?_
  refine pp_iload_n dL_law_759 rfl (q := 760) rfl ?_
  refine pp_iconst dL_law_760 ci_2 (q := 761) rfl ?_
  refine pp_iadd dL_law_761 (q := 762) rfl ?_
  try rw [nI_add]
  refine ps_sld dL_law_762 hs.1 (LwS_sc hs) rfl (by omega) (by omega) (q := 763) rfl ?_
  refine ps_callVq dL_law_763 lk_L_91 (by exact hR.1) (by rfl) (by rfl) (by rfl) (x_round hR hc) (by rfl) (by exact Nat.le_of_ble_eq_true rfl) (by decide) (by decide) (by exact Nat.le_of_ble_eq_true rfl) (q := 766) rfl (fun v763 ad763 g763 h763 => ?_)
  obtain ⟨rfl, hR2, hc2, hE⟩ := h763
  rw [← hE.2.1 (50, 0, 0) hs.1 (Or.inl (by decide)), ← hE.2.1 (0, 0, 0) hR.1 (Or.inr rfl), ← hE.2.1 (40, 0, 0) hm.1.1 (Or.inl (by decide))]
  have hs := LwS_c hs hE
  have hm := RR_c hm hE
  change PP mL_law 766 _ [Value.int _] (Rel ad763 g763) _
  refine pp_aload_n dL_law_766 rfl isRf_r (q := 767) rfl ?_
  refine pp_aload_n dL_law_767 rfl (by first | exact isRf_r | exact isRf_va | exact isRf_n) (q := 768) rfl ?_
  refine pp_iload_n dL_law_768 rfl (q := 769) rfl ?_
  refine pp_iconst dL_law_769 ci_1 (q := 770) rfl ?_
  refine pp_iadd dL_law_770 (q := 771) rfl ?_
  try rw [nI_add]
  refine ps_sld dL_law_771 hs.1 (LwS_sc hs) rfl (by omega) (by omega) (q := 772) rfl ?_
  refine pp_aload_n dL_law_772 rfl (by first | exact isRf_r | exact isRf_va | exact isRf_n) (q := 773) rfl ?_
  refine pp_iload_n dL_law_773 rfl (q := 774) rfl ?_
  refine pp_iconst dL_law_774 ci_2 (q := 775) rfl ?_
  refine pp_iadd dL_law_775 (q := 776) rfl ?_
  try rw [nI_add]
  refine ps_sld dL_law_776 hs.1 (LwS_sc hs) rfl (by omega) (by omega) (q := 777) rfl ?_
  refine ps_callVi dL_law_777 lk_L_94 (by exact hm.1.1) (by rfl) (by rfl) (by rfl) (m_round hm hR.2.1.1) (by rfl) (by exact Nat.le_of_ble_eq_true rfl) (by decide) (by decide) (by exact Nat.le_of_ble_eq_true rfl) (q := 780) rfl (fun r777 g777 h777 => ?_)
  obtain ⟨rfl, hm3, hX⟩ := h777
  refine pp_icmp_eq (tgt := 1193) dL_law_780 (by decide) (q := 783) rfl (fun c780 => ?_) (fun c780 => absurd rfl c780)
  exact hk _ _ _ (LwI_x hR2 hc2 hs hm3 hX)
set_option maxRecDepth 20000 in
set_option maxHeartbeats 4000000 in
theorem lw_785 {sz L i : Nat} {xs : Nat → Int32} {ad : Nm → Nat} {g : Sg} {S : CS} {Q : Option Value → PH → Prop} (h : LwI sz L xs g S) (hi : i + 5 ≤ L) (hL : L ≤ 2560) (hk : ∀ ad' g' S', LwI sz L xs g' S' → PP mL_law 1193 [some (.ref (ad' (50, 0, 0))), some (.ref (ad' (0, 0, 0))), some (.ref (ad' (40, 0, 0))), some (.int (nI i))] [] (Rel ad' g') Q) : PP mL_law 785 [some (.ref (ad (50, 0, 0))), some (.ref (ad (0, 0, 0))), some (.ref (ad (40, 0, 0))), some (.int (nI i))] [] (Rel ad g) Q := by
  obtain ⟨hR, hc, hm, hs⟩ := h
  refine pp_aload_n dL_law_785 rfl isRf_r (q := 786) rfl ?_
  refine pp_aload_n dL_law_786 rfl (by first | exact isRf_r | exact isRf_va | exact isRf_n) (q := 787) rfl ?_
  refine pp_iload_n dL_law_787 rfl (q := 788) rfl ?_
  refine pp_iconst dL_law_788 ci_1 (q := 789) rfl ?_
  refine pp_iadd dL_law_789 (q := 790) rfl ?_
  try rw [nI_add]
  refine ps_sld dL_law_790 hs.1 (LwS_sc hs) rfl (by omega) (by omega) (q := 791) rfl ?_
  refine ps_callVq dL_law_791 lk_L_95 (by exact hR.1) (by rfl) (by rfl) (by rfl) (x_next hR hc) (by rfl) (by exact Nat.le_of_ble_eq_true rfl) (by decide) (by decide) (by exact Nat.le_of_ble_eq_true rfl) (q := 794) rfl (fun v791 ad791 g791 h791 => ?_)
  obtain ⟨rfl, hR2, hc2, hE⟩ := h791
  rw [← hE.2.1 (50, 0, 0) hs.1 (Or.inl (by decide)), ← hE.2.1 (0, 0, 0) hR.1 (Or.inr rfl), ← hE.2.1 (40, 0, 0) hm.1.1 (Or.inl (by decide))]
  have hs := LwS_c hs hE
  have hm := RR_c hm hE
  change PP mL_law 794 _ [Value.int _] (Rel ad791 g791) _
  refine pp_aload_n dL_law_794 rfl isRf_r (q := 795) rfl ?_
  refine pp_aload_n dL_law_795 rfl (by first | exact isRf_r | exact isRf_va | exact isRf_n) (q := 796) rfl ?_
  refine pp_iload_n dL_law_796 rfl (q := 797) rfl ?_
  refine pp_iconst dL_law_797 ci_1 (q := 798) rfl ?_
  refine pp_iadd dL_law_798 (q := 799) rfl ?_
  try rw [nI_add]
  refine ps_sld dL_law_799 hs.1 (LwS_sc hs) rfl (by omega) (by omega) (q := 800) rfl ?_
  refine ps_callVi dL_law_800 lk_L_98 (by exact hm.1.1) (by rfl) (by rfl) (by rfl) (m_next hm hR.2.1.1) (by rfl) (by exact Nat.le_of_ble_eq_true rfl) (by decide) (by decide) (by exact Nat.le_of_ble_eq_true rfl) (q := 803) rfl (fun r800 g800 h800 => ?_)
  obtain ⟨rfl, hm3, hX⟩ := h800
  refine pp_icmp_eq (tgt := 1193) dL_law_803 (by decide) (q := 806) rfl (fun c803 => ?_) (fun c803 => absurd rfl c803)
  exact hk _ _ _ (LwI_x hR2 hc2 hs hm3 hX)
set_option maxRecDepth 20000 in
set_option maxHeartbeats 4000000 in
theorem lw_808 {sz L i : Nat} {xs : Nat → Int32} {ad : Nm → Nat} {g : Sg} {S : CS} {Q : Option Value → PH → Prop} (h : LwI sz L xs g S) (hi : i + 5 ≤ L) (hL : L ≤ 2560) (hk : ∀ ad' g' S', LwI sz L xs g' S' → PP mL_law 1193 [some (.ref (ad' (50, 0, 0))), some (.ref (ad' (0, 0, 0))), some (.ref (ad' (40, 0, 0))), some (.int (nI i))] [] (Rel ad' g') Q) : PP mL_law 808 [some (.ref (ad (50, 0, 0))), some (.ref (ad (0, 0, 0))), some (.ref (ad (40, 0, 0))), some (.int (nI i))] [] (Rel ad g) Q := by
  obtain ⟨hR, hc, hm, hs⟩ := h
  refine pp_aload_n dL_law_808 rfl isRf_r (q := 809) rfl ?_
  refine pp_aload_n dL_law_809 rfl (by first | exact isRf_r | exact isRf_va | exact isRf_n) (q := 810) rfl ?_
  refine pp_iload_n dL_law_810 rfl (q := 811) rfl ?_
  refine pp_iconst dL_law_811 ci_1 (q := 812) rfl ?_
  refine pp_iadd dL_law_812 (q := 813) rfl ?_
  try rw [nI_add]
  refine ps_sld dL_law_813 hs.1 (LwS_sc hs) rfl (by omega) (by omega) (q := 814) rfl ?_
  refine pp_aload_n dL_law_814 rfl (by first | exact isRf_r | exact isRf_va | exact isRf_n) (q := 815) rfl ?_
  refine pp_iload_n dL_law_815 rfl (q := 816) rfl ?_
  refine pp_iconst dL_law_816 ci_2 (q := 817) rfl ?_
  refine pp_iadd dL_law_817 (q := 818) rfl ?_
  try rw [nI_add]
  refine ps_sld dL_law_818 hs.1 (LwS_sc hs) rfl (by omega) (by omega) (q := 819) rfl ?_
  refine pp_aload_n dL_law_819 rfl (by first | exact isRf_r | exact isRf_va | exact isRf_n) (q := 820) rfl ?_
  refine pp_iload_n dL_law_820 rfl (q := 821) rfl ?_
  refine pp_iconst dL_law_821 ci_3 (q := 822) rfl ?_
  refine pp_iadd dL_law_822 (q := 823) rfl ?_
  try rw [nI_add]
  refine ps_sld dL_law_823 hs.1 (LwS_sc hs) rfl (by omega) (by omega) (q := 824) rfl ?_
  refine pp_aload_n dL_law_824 rfl (by first | exact isRf_r | exact isRf_va | exact isRf_n) (q := 825) rfl ?_
  refine pp_iload_n dL_law_825 rfl (q := 826) rfl ?_
  refine pp_iconst dL_law_826 ci_4 (q := 827) rfl ?_
  refine pp_iadd dL_law_827 (q := 828) rfl ?_
  try rw [nI_add]
  refine ps_sld dL_law_828 hs.1 (LwS_sc hs) rfl (by omega) (by omega) (q := 829) rfl ?_
  refine ps_callVq dL_law_829 lk_L_99 (by exact hR.1) (by rfl) (by rfl) (by rfl) (x_copy hR hc) (by rfl) (by exact Nat.le_of_ble_eq_true rfl) (by decide) (by decide) (by exact Nat.le_of_ble_eq_true rfl) (q := 832) rfl (fun v829 ad829 g829 h829 => ?_)
  obtain ⟨rfl, hR2, hc2, hE⟩ := h829
  rw [← hE.2.1 (50, 0, 0) hs.1 (Or.inl (by decide)), ← hE.2.1 (0, 0, 0) hR.1 (Or.inr rfl), ← hE.2.1 (40, 0, 0) hm.1.1 (Or.inl (by decide))]
  have hs := LwS_c hs hE
  have hm := RR_c hm hE
  change PP mL_law 832 _ [Value.int _] (Rel ad829 g829) _
  refine pp_aload_n dL_law_832 rfl isRf_r (q := 833) rfl ?_
  refine pp_aload_n dL_law_833 rfl (by first | exact isRf_r | exact isRf_va | exact isRf_n) (q := 834) rfl ?_
  refine pp_iload_n dL_law_834 rfl (q := 835) rfl ?_
  refine pp_iconst dL_law_835 ci_1 (q := 836) rfl ?_
  refine pp_iadd dL_law_836 (q := 837) rfl ?_
  try rw [nI_add]
  refine ps_sld dL_law_837 hs.1 (LwS_sc hs) rfl (by omega) (by omega) (q := 838) rfl ?_
  refine pp_aload_n dL_law_838 rfl (by first | exact isRf_r | exact isRf_va | exact isRf_n) (q := 839) rfl ?_
  refine pp_iload_n dL_law_839 rfl (q := 840) rfl ?_
  refine pp_iconst dL_law_840 ci_2 (q := 841) rfl ?_
  refine pp_iadd dL_law_841 (q := 842) rfl ?_
  try rw [nI_add]
  refine ps_sld dL_law_842 hs.1 (LwS_sc hs) rfl (by omega) (by omega) (q := 843) rfl ?_
  refine pp_aload_n dL_law_843 rfl (by first | exact isRf_r | exact isRf_va | exact isRf_n) (q := 844) rfl ?_
  refine pp_iload_n dL_law_844 rfl (q := 845) rfl ?_
  refine pp_iconst dL_law_845 ci_3 (q := 846) rfl ?_
  refine pp_iadd dL_law_846 (q := 847) rfl ?_
  try rw [nI_add]
  refine ps_sld dL_law_847 hs.1 (LwS_sc hs) rfl (by omega) (by omega) (q := 848) rfl ?_
  refine pp_aload_n dL_law_848 rfl (by first | exact isRf_r | exact isRf_va | exact isRf_n) (q := 849) rfl ?_
  refine pp_iload_n dL_law_849 rfl (q := 850) rfl ?_
  refine pp_iconst dL_law_850 ci_4 (q := 851) rfl ?_
  refine pp_iadd dL_law_851 (q := 852) rfl ?_
  try rw [nI_add]
  refine ps_sld dL_law_852 hs.1 (LwS_sc hs) rfl (by omega) (by omega) (q := 853) rfl ?_
  refine ps_callVi dL_law_853 lk_L_103 (by exact hm.1.1) (by rfl) (by rfl) (by rfl) (m_copy hm hR.2.1.1) (by rfl) (by exact Nat.le_of_ble_eq_true rfl) (by decide) (by decide) (by exact Nat.le_of_ble_eq_true rfl) (q := 856) rfl (fun r853 g853 h853 => ?_)
  obtain ⟨rfl, hm3, hX⟩ := h853
  refine pp_icmp_eq (tgt := 1193) dL_law_856 (by decide) (q := 859) rfl (fun c856 => ?_) (fun c856 => absurd rfl c856)
  exact hk _ _ _ (LwI_x hR2 hc2 hs hm3 hX)
set_option maxRecDepth 20000 in
set_option maxHeartbeats 4000000 in
theorem lw_861 {sz L i : Nat} {xs : Nat → Int32} {ad : Nm → Nat} {g : Sg} {S : CS} {Q : Option Value → PH → Prop} (h : LwI sz L xs g S) (hi : i + 5 ≤ L) (hL : L ≤ 2560) (hk : ∀ ad' g' S', LwI sz L xs g' S' → PP mL_law 1193 [some (.ref (ad' (50, 0, 0))), some (.ref (ad' (0, 0, 0))), some (.ref (ad' (40, 0, 0))), some (.int (nI i))] [] (Rel ad' g') Q) : PP mL_law 861 [some (.ref (ad (50, 0, 0))), some (.ref (ad (0, 0, 0))), some (.ref (ad (40, 0, 0))), some (.int (nI i))] [] (Rel ad g) Q := by
  obtain ⟨hR, hc, hm, hs⟩ := h
  refine pp_aload_n dL_law_861 rfl isRf_r (q := 862) rfl ?_
  refine pp_aload_n dL_law_862 rfl (by first | exact isRf_r | exact isRf_va | exact isRf_n) (q := 863) rfl ?_
  refine pp_iload_n dL_law_863 rfl (q := 864) rfl ?_
  refine pp_iconst dL_law_864 ci_1 (q := 865) rfl ?_
  refine pp_iadd dL_law_865 (q := 866) rfl ?_
  try rw [nI_add]
  refine ps_sld dL_law_866 hs.1 (LwS_sc hs) rfl (by omega) (by omega) (q := 867) rfl ?_
  refine ps_callVq dL_law_867 lk_L_104 (by exact hR.1) (by rfl) (by rfl) (by rfl) (x_table hR hc) (by rfl) (by exact Nat.le_of_ble_eq_true rfl) (by decide) (by decide) (by exact Nat.le_of_ble_eq_true rfl) (q := 870) rfl (fun v867 ad867 g867 h867 => ?_)
  obtain ⟨rfl, hR2, hc2, hE⟩ := h867
  rw [← hE.2.1 (50, 0, 0) hs.1 (Or.inl (by decide)), ← hE.2.1 (0, 0, 0) hR.1 (Or.inr rfl), ← hE.2.1 (40, 0, 0) hm.1.1 (Or.inl (by decide))]
  have hs := LwS_c hs hE
  have hm := RR_c hm hE
  change PP mL_law 870 _ [Value.int _] (Rel ad867 g867) _
  refine pp_aload_n dL_law_870 rfl isRf_r (q := 871) rfl ?_
  refine pp_aload_n dL_law_871 rfl (by first | exact isRf_r | exact isRf_va | exact isRf_n) (q := 872) rfl ?_
  refine pp_iload_n dL_law_872 rfl (q := 873) rfl ?_
  refine pp_iconst dL_law_873 ci_1 (q := 874) rfl ?_
  refine pp_iadd dL_law_874 (q := 875) rfl ?_
  try rw [nI_add]
  refine ps_sld dL_law_875 hs.1 (LwS_sc hs) rfl (by omega) (by omega) (q := 876) rfl ?_
  refine ps_callVi dL_law_876 lk_L_107 (by exact hm.1.1) (by rfl) (by rfl) (by rfl) (m_table hm hR.2.1.1) (by rfl) (by exact Nat.le_of_ble_eq_true rfl) (by decide) (by decide) (by exact Nat.le_of_ble_eq_true rfl) (q := 879) rfl (fun r876 g876 h876 => ?_)
  obtain ⟨rfl, hm3, hX⟩ := h876
  refine pp_icmp_eq (tgt := 1193) dL_law_879 (by decide) (q := 882) rfl (fun c879 => ?_) (fun c879 => absurd rfl c879)
  exact hk _ _ _ (LwI_x hR2 hc2 hs hm3 hX)
set_option maxRecDepth 20000 in
set_option maxHeartbeats 4000000 in
theorem lw_884 {sz L i : Nat} {xs : Nat → Int32} {ad : Nm → Nat} {g : Sg} {S : CS} {Q : Option Value → PH → Prop} (h : LwI sz L xs g S) (hi : i + 5 ≤ L) (hL : L ≤ 2560) (hk : ∀ ad' g' S', LwI sz L xs g' S' → PP mL_law 1193 [some (.ref (ad' (50, 0, 0))), some (.ref (ad' (0, 0, 0))), some (.ref (ad' (40, 0, 0))), some (.int (nI i))] [] (Rel ad' g') Q) : PP mL_law 884 [some (.ref (ad (50, 0, 0))), some (.ref (ad (0, 0, 0))), some (.ref (ad (40, 0, 0))), some (.int (nI i))] [] (Rel ad g) Q := by
  obtain ⟨hR, hc, hm, hs⟩ := h
  refine pp_aload_n dL_law_884 rfl isRf_r (q := 885) rfl ?_
  refine ps_callVq dL_law_885 lk_L_108 (by exact hR.1) (by rfl) (by rfl) (by rfl) (x_agree hR hc) (by rfl) (by exact Nat.le_of_ble_eq_true rfl) (by decide) (by decide) (by exact Nat.le_of_ble_eq_true rfl) (q := 888) rfl (fun v885 ad885 g885 h885 => ?_)
  obtain ⟨rfl, hR2, hc2, hE⟩ := h885
  rw [← hE.2.1 (50, 0, 0) hs.1 (Or.inl (by decide)), ← hE.2.1 (0, 0, 0) hR.1 (Or.inr rfl), ← hE.2.1 (40, 0, 0) hm.1.1 (Or.inl (by decide))]
  have hs := LwS_c hs hE
  have hm := RR_c hm hE
  change PP mL_law 888 _ [Value.int _] (Rel ad885 g885) _
  refine pp_aload_n dL_law_888 rfl isRf_r (q := 889) rfl ?_
  refine ps_callVi dL_law_889 lk_L_112 (by exact hm.1.1) (by rfl) (by rfl) (by rfl) (m_agree hm hR.2.1.1) (by rfl) (by exact Nat.le_of_ble_eq_true rfl) (by decide) (by decide) (by exact Nat.le_of_ble_eq_true rfl) (q := 892) rfl (fun r889 g889 h889 => ?_)
  obtain ⟨rfl, hm3, hX⟩ := h889
  refine pp_icmp_eq (tgt := 1193) dL_law_892 (by decide) (q := 895) rfl (fun c892 => ?_) (fun c892 => absurd rfl c892)
  exact hk _ _ _ (LwI_x hR2 hc2 hs hm3 hX)
set_option maxRecDepth 20000 in
set_option maxHeartbeats 4000000 in
theorem lw_897 {sz L i : Nat} {xs : Nat → Int32} {ad : Nm → Nat} {g : Sg} {S : CS} {Q : Option Value → PH → Prop} (h : LwI sz L xs g S) (hi : i + 5 ≤ L) (hL : L ≤ 2560) (hk : ∀ ad' g' S', LwI sz L xs g' S' → PP mL_law 1193 [some (.ref (ad' (50, 0, 0))), some (.ref (ad' (0, 0, 0))), some (.ref (ad' (40, 0, 0))), some (.int (nI i))] [] (Rel ad' g') Q) : PP mL_law 897 [some (.ref (ad (50, 0, 0))), some (.ref (ad (0, 0, 0))), some (.ref (ad (40, 0, 0))), some (.int (nI i))] [] (Rel ad g) Q := by
  obtain ⟨hR, hc, hm, hs⟩ := h
  refine pp_aload_n dL_law_897 rfl isRf_r (q := 898) rfl ?_
  refine pp_aload_n dL_law_898 rfl (by first | exact isRf_r | exact isRf_va | exact isRf_n) (q := 899) rfl ?_
  refine pp_iload_n dL_law_899 rfl (q := 900) rfl ?_
  refine pp_iconst dL_law_900 ci_1 (q := 901) rfl ?_
  refine pp_iadd dL_law_901 (q := 902) rfl ?_
  try rw [nI_add]
  refine ps_sld dL_law_902 hs.1 (LwS_sc hs) rfl (by omega) (by omega) (q := 903) rfl ?_
  refine ps_callVq dL_law_903 lk_L_113 (by exact hR.1) (by rfl) (by rfl) (by rfl) (x_apart hR hc) (by rfl) (by exact Nat.le_of_ble_eq_true rfl) (by decide) (by decide) (by exact Nat.le_of_ble_eq_true rfl) (q := 906) rfl (fun v903 ad903 g903 h903 => ?_)
  obtain ⟨rfl, hR2, hc2, hE⟩ := h903
  rw [← hE.2.1 (50, 0, 0) hs.1 (Or.inl (by decide)), ← hE.2.1 (0, 0, 0) hR.1 (Or.inr rfl), ← hE.2.1 (40, 0, 0) hm.1.1 (Or.inl (by decide))]
  have hs := LwS_c hs hE
  have hm := RR_c hm hE
  change PP mL_law 906 _ [Value.int _] (Rel ad903 g903) _
  refine pp_aload_n dL_law_906 rfl isRf_r (q := 907) rfl ?_
  refine pp_aload_n dL_law_907 rfl (by first | exact isRf_r | exact isRf_va | exact isRf_n) (q := 908) rfl ?_
  refine pp_iload_n dL_law_908 rfl (q := 909) rfl ?_
  refine pp_iconst dL_law_909 ci_1 (q := 910) rfl ?_
  refine pp_iadd dL_law_910 (q := 911) rfl ?_
  try rw [nI_add]
  refine ps_sld dL_law_911 hs.1 (LwS_sc hs) rfl (by omega) (by omega) (q := 912) rfl ?_
  refine ps_callVi dL_law_912 lk_L_116 (by exact hm.1.1) (by rfl) (by rfl) (by rfl) (m_apart hm hR.2.1.1) (by rfl) (by exact Nat.le_of_ble_eq_true rfl) (by decide) (by decide) (by exact Nat.le_of_ble_eq_true rfl) (q := 915) rfl (fun r912 g912 h912 => ?_)
  obtain ⟨rfl, hm3, hX⟩ := h912
  refine pp_icmp_eq (tgt := 1193) dL_law_915 (by decide) (q := 918) rfl (fun c915 => ?_) (fun c915 => absurd rfl c915)
  exact hk _ _ _ (LwI_x hR2 hc2 hs hm3 hX)
set_option maxRecDepth 20000 in
set_option maxHeartbeats 4000000 in
theorem lw_920 {sz L i : Nat} {xs : Nat → Int32} {ad : Nm → Nat} {g : Sg} {S : CS} {Q : Option Value → PH → Prop} (h : LwI sz L xs g S) (hi : i + 5 ≤ L) (hL : L ≤ 2560) (hk : ∀ ad' g' S', LwI sz L xs g' S' → PP mL_law 1193 [some (.ref (ad' (50, 0, 0))), some (.ref (ad' (0, 0, 0))), some (.ref (ad' (40, 0, 0))), some (.int (nI i))] [] (Rel ad' g') Q) : PP mL_law 920 [some (.ref (ad (50, 0, 0))), some (.ref (ad (0, 0, 0))), some (.ref (ad (40, 0, 0))), some (.int (nI i))] [] (Rel ad g) Q := by
  obtain ⟨hR, hc, hm, hs⟩ := h
  refine pp_aload_n dL_law_920 rfl isRf_r (q := 921) rfl ?_
  refine pp_aload_n dL_law_921 rfl (by first | exact isRf_r | exact isRf_va | exact isRf_n) (q := 922) rfl ?_
  refine pp_iload_n dL_law_922 rfl (q := 923) rfl ?_
  refine pp_iconst dL_law_923 ci_1 (q := 924) rfl ?_
  refine pp_iadd dL_law_924 (q := 925) rfl ?_
  try rw [nI_add]
  refine ps_sld dL_law_925 hs.1 (LwS_sc hs) rfl (by omega) (by omega) (q := 926) rfl ?_
  refine pp_aload_n dL_law_926 rfl (by first | exact isRf_r | exact isRf_va | exact isRf_n) (q := 927) rfl ?_
  refine pp_iload_n dL_law_927 rfl (q := 928) rfl ?_
  refine pp_iconst dL_law_928 ci_2 (q := 929) rfl ?_
  refine pp_iadd dL_law_929 (q := 930) rfl ?_
  try rw [nI_add]
  refine ps_sld dL_law_930 hs.1 (LwS_sc hs) rfl (by omega) (by omega) (q := 931) rfl ?_
  refine ps_callVq dL_law_931 lk_L_117 (by exact hR.1) (by rfl) (by rfl) (by rfl) (x_count hR hc) (by rfl) (by exact Nat.le_of_ble_eq_true rfl) (by decide) (by decide) (by exact Nat.le_of_ble_eq_true rfl) (q := 934) rfl (fun v931 ad931 g931 h931 => ?_)
  obtain ⟨rfl, hR2, hc2, hE⟩ := h931
  rw [← hE.2.1 (50, 0, 0) hs.1 (Or.inl (by decide)), ← hE.2.1 (0, 0, 0) hR.1 (Or.inr rfl), ← hE.2.1 (40, 0, 0) hm.1.1 (Or.inl (by decide))]
  have hs := LwS_c hs hE
  have hm := RR_c hm hE
  change PP mL_law 934 _ [Value.int _] (Rel ad931 g931) _
  refine pp_aload_n dL_law_934 rfl isRf_r (q := 935) rfl ?_
  refine pp_aload_n dL_law_935 rfl (by first | exact isRf_r | exact isRf_va | exact isRf_n) (q := 936) rfl ?_
  refine pp_iload_n dL_law_936 rfl (q := 937) rfl ?_
  refine pp_iconst dL_law_937 ci_1 (q := 938) rfl ?_
  refine pp_iadd dL_law_938 (q := 939) rfl ?_
  try rw [nI_add]
  refine ps_sld dL_law_939 hs.1 (LwS_sc hs) rfl (by omega) (by omega) (q := 940) rfl ?_
  refine pp_aload_n dL_law_940 rfl (by first | exact isRf_r | exact isRf_va | exact isRf_n) (q := 941) rfl ?_
  refine pp_iload_n dL_law_941 rfl (q := 942) rfl ?_
  refine pp_iconst dL_law_942 ci_2 (q := 943) rfl ?_
  refine pp_iadd dL_law_943 (q := 944) rfl ?_
  try rw [nI_add]
  refine ps_sld dL_law_944 hs.1 (LwS_sc hs) rfl (by omega) (by omega) (q := 945) rfl ?_
  refine ps_callVi dL_law_945 lk_L_120 (by exact hm.1.1) (by rfl) (by rfl) (by rfl) (m_count hm hR.2.1.1) (by rfl) (by exact Nat.le_of_ble_eq_true rfl) (by decide) (by decide) (by exact Nat.le_of_ble_eq_true rfl) (q := 948) rfl (fun r945 g945 h945 => ?_)
  obtain ⟨rfl, hm3, hX⟩ := h945
  refine pp_icmp_eq (tgt := 1193) dL_law_948 (by decide) (q := 951) rfl (fun c948 => ?_) (fun c948 => absurd rfl c948)
  exact hk _ _ _ (LwI_x hR2 hc2 hs hm3 hX)
set_option maxRecDepth 20000 in
set_option maxHeartbeats 4000000 in
theorem lw_953 {sz L i : Nat} {xs : Nat → Int32} {ad : Nm → Nat} {g : Sg} {S : CS} {Q : Option Value → PH → Prop} (h : LwI sz L xs g S) (hi : i + 5 ≤ L) (hL : L ≤ 2560) (hk : ∀ ad' g' S', LwI sz L xs g' S' → PP mL_law 1193 [some (.ref (ad' (50, 0, 0))), some (.ref (ad' (0, 0, 0))), some (.ref (ad' (40, 0, 0))), some (.int (nI i))] [] (Rel ad' g') Q) : PP mL_law 953 [some (.ref (ad (50, 0, 0))), some (.ref (ad (0, 0, 0))), some (.ref (ad (40, 0, 0))), some (.int (nI i))] [] (Rel ad g) Q := by
  obtain ⟨hR, hc, hm, hs⟩ := h
  refine pp_aload_n dL_law_953 rfl isRf_r (q := 954) rfl ?_
  refine pp_aload_n dL_law_954 rfl (by first | exact isRf_r | exact isRf_va | exact isRf_n) (q := 955) rfl ?_
  refine pp_iload_n dL_law_955 rfl (q := 956) rfl ?_
  refine pp_iconst dL_law_956 ci_1 (q := 957) rfl ?_
  refine pp_iadd dL_law_957 (q := 958) rfl ?_
  try rw [nI_add]
  refine ps_sld dL_law_958 hs.1 (LwS_sc hs) rfl (by omega) (by omega) (q := 959) rfl ?_
  refine pp_aload_n dL_law_959 rfl (by first | exact isRf_r | exact isRf_va | exact isRf_n) (q := 960) rfl ?_
  refine pp_iload_n dL_law_960 rfl (q := 961) rfl ?_
  refine pp_iconst dL_law_961 ci_2 (q := 962) rfl ?_
  refine pp_iadd dL_law_962 (q := 963) rfl ?_
  try rw [nI_add]
  refine ps_sld dL_law_963 hs.1 (LwS_sc hs) rfl (by omega) (by omega) (q := 964) rfl ?_
  refine ps_callVq dL_law_964 lk_L_121 (by exact hR.1) (by rfl) (by rfl) (by rfl) (x_way hR hc) (by rfl) (by exact Nat.le_of_ble_eq_true rfl) (by decide) (by decide) (by exact Nat.le_of_ble_eq_true rfl) (q := 967) rfl (fun v964 ad964 g964 h964 => ?_)
  obtain ⟨rfl, hR2, hc2, hE⟩ := h964
  rw [← hE.2.1 (50, 0, 0) hs.1 (Or.inl (by decide)), ← hE.2.1 (0, 0, 0) hR.1 (Or.inr rfl), ← hE.2.1 (40, 0, 0) hm.1.1 (Or.inl (by decide))]
  have hs := LwS_c hs hE
  have hm := RR_c hm hE
  change PP mL_law 967 _ [Value.int _] (Rel ad964 g964) _
  refine pp_aload_n dL_law_967 rfl isRf_r (q := 968) rfl ?_
  refine pp_aload_n dL_law_968 rfl (by first | exact isRf_r | exact isRf_va | exact isRf_n) (q := 969) rfl ?_
  refine pp_iload_n dL_law_969 rfl (q := 970) rfl ?_
  refine pp_iconst dL_law_970 ci_1 (q := 971) rfl ?_
  refine pp_iadd dL_law_971 (q := 972) rfl ?_
  try rw [nI_add]
  refine ps_sld dL_law_972 hs.1 (LwS_sc hs) rfl (by omega) (by omega) (q := 973) rfl ?_
  refine pp_aload_n dL_law_973 rfl (by first | exact isRf_r | exact isRf_va | exact isRf_n) (q := 974) rfl ?_
  refine pp_iload_n dL_law_974 rfl (q := 975) rfl ?_
  refine pp_iconst dL_law_975 ci_2 (q := 976) rfl ?_
  refine pp_iadd dL_law_976 (q := 977) rfl ?_
  try rw [nI_add]
  refine ps_sld dL_law_977 hs.1 (LwS_sc hs) rfl (by omega) (by omega) (q := 978) rfl ?_
  refine ps_callVi dL_law_978 lk_L_124 (by exact hm.1.1) (by rfl) (by rfl) (by rfl) (m_way hm hR.2.1.1) (by rfl) (by exact Nat.le_of_ble_eq_true rfl) (by decide) (by decide) (by exact Nat.le_of_ble_eq_true rfl) (q := 981) rfl (fun r978 g978 h978 => ?_)
  obtain ⟨rfl, hm3, hX⟩ := h978
  refine pp_icmp_eq (tgt := 1193) dL_law_981 (by decide) (q := 984) rfl (fun c981 => ?_) (fun c981 => absurd rfl c981)
  exact hk _ _ _ (LwI_x hR2 hc2 hs hm3 hX)
set_option maxRecDepth 20000 in
set_option maxHeartbeats 4000000 in
theorem lw_986 {sz L i : Nat} {xs : Nat → Int32} {ad : Nm → Nat} {g : Sg} {S : CS} {Q : Option Value → PH → Prop} (h : LwI sz L xs g S) (hi : i + 5 ≤ L) (hL : L ≤ 2560) (hk : ∀ ad' g' S', LwI sz L xs g' S' → PP mL_law 1193 [some (.ref (ad' (50, 0, 0))), some (.ref (ad' (0, 0, 0))), some (.ref (ad' (40, 0, 0))), some (.int (nI i))] [] (Rel ad' g') Q) : PP mL_law 986 [some (.ref (ad (50, 0, 0))), some (.ref (ad (0, 0, 0))), some (.ref (ad (40, 0, 0))), some (.int (nI i))] [] (Rel ad g) Q := by
  obtain ⟨hR, hc, hm, hs⟩ := h
  refine pp_aload_n dL_law_986 rfl isRf_r (q := 987) rfl ?_
  refine pp_aload_n dL_law_987 rfl (by first | exact isRf_r | exact isRf_va | exact isRf_n) (q := 988) rfl ?_
  refine pp_iload_n dL_law_988 rfl (q := 989) rfl ?_
  refine pp_iconst dL_law_989 ci_1 (q := 990) rfl ?_
  refine pp_iadd dL_law_990 (q := 991) rfl ?_
  try rw [nI_add]
  refine ps_sld dL_law_991 hs.1 (LwS_sc hs) rfl (by omega) (by omega) (q := 992) rfl ?_
  refine ps_callVq dL_law_992 lk_L_125 (by exact hR.1) (by rfl) (by rfl) (by rfl) (x_wayAt hR hc) (by rfl) (by exact Nat.le_of_ble_eq_true rfl) (by decide) (by decide) (by exact Nat.le_of_ble_eq_true rfl) (q := 995) rfl (fun v992 ad992 g992 h992 => ?_)
  obtain ⟨rfl, hR2, hc2, hE⟩ := h992
  rw [← hE.2.1 (50, 0, 0) hs.1 (Or.inl (by decide)), ← hE.2.1 (0, 0, 0) hR.1 (Or.inr rfl), ← hE.2.1 (40, 0, 0) hm.1.1 (Or.inl (by decide))]
  have hs := LwS_c hs hE
  have hm := RR_c hm hE
  change PP mL_law 995 _ [Value.int _] (Rel ad992 g992) _
  refine pp_aload_n dL_law_995 rfl isRf_r (q := 996) rfl ?_
  refine pp_aload_n dL_law_996 rfl (by first | exact isRf_r | exact isRf_va | exact isRf_n) (q := 997) rfl ?_
  refine pp_iload_n dL_law_997 rfl (q := 998) rfl ?_
  refine pp_iconst dL_law_998 ci_1 (q := 999) rfl ?_
  refine pp_iadd dL_law_999 (q := 1000) rfl ?_
  try rw [nI_add]
  refine ps_sld dL_law_1000 hs.1 (LwS_sc hs) rfl (by omega) (by omega) (q := 1001) rfl ?_
  refine ps_callVi dL_law_1001 lk_L_128 (by exact hm.1.1) (by rfl) (by rfl) (by rfl) (m_wayAt hm hR.2.1.1) (by rfl) (by exact Nat.le_of_ble_eq_true rfl) (by decide) (by decide) (by exact Nat.le_of_ble_eq_true rfl) (q := 1004) rfl (fun r1001 g1001 h1001 => ?_)
  obtain ⟨rfl, hm3, hX⟩ := h1001
  refine pp_icmp_eq (tgt := 1193) dL_law_1004 (by decide) (q := 1007) rfl (fun c1004 => ?_) (fun c1004 => absurd rfl c1004)
  exact hk _ _ _ (LwI_x hR2 hc2 hs hm3 hX)
set_option maxRecDepth 20000 in
set_option maxHeartbeats 4000000 in
theorem lw_1009 {sz L i : Nat} {xs : Nat → Int32} {ad : Nm → Nat} {g : Sg} {S : CS} {Q : Option Value → PH → Prop} (h : LwI sz L xs g S) (hi : i + 5 ≤ L) (hL : L ≤ 2560) (hk : ∀ ad' g' S', LwI sz L xs g' S' → PP mL_law 1193 [some (.ref (ad' (50, 0, 0))), some (.ref (ad' (0, 0, 0))), some (.ref (ad' (40, 0, 0))), some (.int (nI i))] [] (Rel ad' g') Q) : PP mL_law 1009 [some (.ref (ad (50, 0, 0))), some (.ref (ad (0, 0, 0))), some (.ref (ad (40, 0, 0))), some (.int (nI i))] [] (Rel ad g) Q := by
  obtain ⟨hR, hc, hm, hs⟩ := h
  refine pp_aload_n dL_law_1009 rfl isRf_r (q := 1010) rfl ?_
  refine pp_aload_n dL_law_1010 rfl (by first | exact isRf_r | exact isRf_va | exact isRf_n) (q := 1011) rfl ?_
  refine pp_iload_n dL_law_1011 rfl (q := 1012) rfl ?_
  refine pp_iconst dL_law_1012 ci_1 (q := 1013) rfl ?_
  refine pp_iadd dL_law_1013 (q := 1014) rfl ?_
  try rw [nI_add]
  refine ps_sld dL_law_1014 hs.1 (LwS_sc hs) rfl (by omega) (by omega) (q := 1015) rfl ?_
  refine pp_aload_n dL_law_1015 rfl (by first | exact isRf_r | exact isRf_va | exact isRf_n) (q := 1016) rfl ?_
  refine pp_iload_n dL_law_1016 rfl (q := 1017) rfl ?_
  refine pp_iconst dL_law_1017 ci_2 (q := 1018) rfl ?_
  refine pp_iadd dL_law_1018 (q := 1019) rfl ?_
  try rw [nI_add]
  refine ps_sld dL_law_1019 hs.1 (LwS_sc hs) rfl (by omega) (by omega) (q := 1020) rfl ?_
  refine ps_callVq dL_law_1020 lk_L_129 (by exact hR.1) (by rfl) (by rfl) (by rfl) (x_forge hR hc) (by rfl) (by exact Nat.le_of_ble_eq_true rfl) (by decide) (by decide) (by exact Nat.le_of_ble_eq_true rfl) (q := 1023) rfl (fun v1020 ad1020 g1020 h1020 => ?_)
  obtain ⟨rfl, hR2, hc2, hE⟩ := h1020
  rw [← hE.2.1 (50, 0, 0) hs.1 (Or.inl (by decide)), ← hE.2.1 (0, 0, 0) hR.1 (Or.inr rfl), ← hE.2.1 (40, 0, 0) hm.1.1 (Or.inl (by decide))]
  have hs := LwS_c hs hE
  have hm := RR_c hm hE
  change PP mL_law 1023 _ [Value.int _] (Rel ad1020 g1020) _
  refine pp_aload_n dL_law_1023 rfl isRf_r (q := 1024) rfl ?_
  refine pp_aload_n dL_law_1024 rfl (by first | exact isRf_r | exact isRf_va | exact isRf_n) (q := 1025) rfl ?_
  refine pp_iload_n dL_law_1025 rfl (q := 1026) rfl ?_
  refine pp_iconst dL_law_1026 ci_1 (q := 1027) rfl ?_
  refine pp_iadd dL_law_1027 (q := 1028) rfl ?_
  try rw [nI_add]
  refine ps_sld dL_law_1028 hs.1 (LwS_sc hs) rfl (by omega) (by omega) (q := 1029) rfl ?_
  refine pp_aload_n dL_law_1029 rfl (by first | exact isRf_r | exact isRf_va | exact isRf_n) (q := 1030) rfl ?_
  refine pp_iload_n dL_law_1030 rfl (q := 1031) rfl ?_
  refine pp_iconst dL_law_1031 ci_2 (q := 1032) rfl ?_
  refine pp_iadd dL_law_1032 (q := 1033) rfl ?_
  try rw [nI_add]
  refine ps_sld dL_law_1033 hs.1 (LwS_sc hs) rfl (by omega) (by omega) (q := 1034) rfl ?_
  refine ps_callVi dL_law_1034 lk_L_132 (by exact hm.1.1) (by rfl) (by rfl) (by rfl) (m_forge hm hR.2.1.1) (by rfl) (by exact Nat.le_of_ble_eq_true rfl) (by decide) (by decide) (by exact Nat.le_of_ble_eq_true rfl) (q := 1037) rfl (fun r1034 g1034 h1034 => ?_)
  obtain ⟨rfl, hm3, hX⟩ := h1034
  refine pp_icmp_eq (tgt := 1193) dL_law_1037 (by decide) (q := 1040) rfl (fun c1037 => ?_) (fun c1037 => absurd rfl c1037)
  exact hk _ _ _ (LwI_x hR2 hc2 hs hm3 hX)
set_option maxRecDepth 20000 in
set_option maxHeartbeats 4000000 in
theorem lw_1042 {sz L i : Nat} {xs : Nat → Int32} {ad : Nm → Nat} {g : Sg} {S : CS} {Q : Option Value → PH → Prop} (h : LwI sz L xs g S) (hi : i + 5 ≤ L) (hL : L ≤ 2560) (hk : ∀ ad' g' S', LwI sz L xs g' S' → PP mL_law 1193 [some (.ref (ad' (50, 0, 0))), some (.ref (ad' (0, 0, 0))), some (.ref (ad' (40, 0, 0))), some (.int (nI i))] [] (Rel ad' g') Q) : PP mL_law 1042 [some (.ref (ad (50, 0, 0))), some (.ref (ad (0, 0, 0))), some (.ref (ad (40, 0, 0))), some (.int (nI i))] [] (Rel ad g) Q := by
  obtain ⟨hR, hc, hm, hs⟩ := h
  refine pp_aload_n dL_law_1042 rfl isRf_r (q := 1043) rfl ?_
  refine pp_aload_n dL_law_1043 rfl (by first | exact isRf_r | exact isRf_va | exact isRf_n) (q := 1044) rfl ?_
  refine pp_iload_n dL_law_1044 rfl (q := 1045) rfl ?_
  refine pp_iconst dL_law_1045 ci_1 (q := 1046) rfl ?_
  refine pp_iadd dL_law_1046 (q := 1047) rfl ?_
  try rw [nI_add]
  refine ps_sld dL_law_1047 hs.1 (LwS_sc hs) rfl (by omega) (by omega) (q := 1048) rfl ?_
  refine pp_aload_n dL_law_1048 rfl (by first | exact isRf_r | exact isRf_va | exact isRf_n) (q := 1049) rfl ?_
  refine pp_iload_n dL_law_1049 rfl (q := 1050) rfl ?_
  refine pp_iconst dL_law_1050 ci_2 (q := 1051) rfl ?_
  refine pp_iadd dL_law_1051 (q := 1052) rfl ?_
  try rw [nI_add]
  refine ps_sld dL_law_1052 hs.1 (LwS_sc hs) rfl (by omega) (by omega) (q := 1053) rfl ?_
  refine pp_aload_n dL_law_1053 rfl (by first | exact isRf_r | exact isRf_va | exact isRf_n) (q := 1054) rfl ?_
  refine pp_iload_n dL_law_1054 rfl (q := 1055) rfl ?_
  refine pp_iconst dL_law_1055 ci_3 (q := 1056) rfl ?_
  refine pp_iadd dL_law_1056 (q := 1057) rfl ?_
  try rw [nI_add]
  refine ps_sld dL_law_1057 hs.1 (LwS_sc hs) rfl (by omega) (by omega) (q := 1058) rfl ?_
  refine pp_aload_n dL_law_1058 rfl (by first | exact isRf_r | exact isRf_va | exact isRf_n) (q := 1059) rfl ?_
  refine pp_iload_n dL_law_1059 rfl (q := 1060) rfl ?_
  refine pp_iconst dL_law_1060 ci_4 (q := 1061) rfl ?_
  refine pp_iadd dL_law_1061 (q := 1062) rfl ?_
  try rw [nI_add]
  refine ps_sld dL_law_1062 hs.1 (LwS_sc hs) rfl (by omega) (by omega) (q := 1063) rfl ?_
  refine ps_callVq dL_law_1063 lk_L_133 (by exact hR.1) (by rfl) (by rfl) (by rfl) (x_check hR hc) (by rfl) (by exact Nat.le_of_ble_eq_true rfl) (by decide) (by decide) (by exact Nat.le_of_ble_eq_true rfl) (q := 1066) rfl (fun v1063 ad1063 g1063 h1063 => ?_)
  obtain ⟨rfl, hR2, hc2, hE⟩ := h1063
  rw [← hE.2.1 (50, 0, 0) hs.1 (Or.inl (by decide)), ← hE.2.1 (0, 0, 0) hR.1 (Or.inr rfl), ← hE.2.1 (40, 0, 0) hm.1.1 (Or.inl (by decide))]
  have hs := LwS_c hs hE
  have hm := RR_c hm hE
  change PP mL_law 1066 _ [Value.int _] (Rel ad1063 g1063) _
  refine pp_aload_n dL_law_1066 rfl isRf_r (q := 1067) rfl ?_
  refine pp_aload_n dL_law_1067 rfl (by first | exact isRf_r | exact isRf_va | exact isRf_n) (q := 1068) rfl ?_
  refine pp_iload_n dL_law_1068 rfl (q := 1069) rfl ?_
  refine pp_iconst dL_law_1069 ci_1 (q := 1070) rfl ?_
  refine pp_iadd dL_law_1070 (q := 1071) rfl ?_
  try rw [nI_add]
  refine ps_sld dL_law_1071 hs.1 (LwS_sc hs) rfl (by omega) (by omega) (q := 1072) rfl ?_
  refine pp_aload_n dL_law_1072 rfl (by first | exact isRf_r | exact isRf_va | exact isRf_n) (q := 1073) rfl ?_
  refine pp_iload_n dL_law_1073 rfl (q := 1074) rfl ?_
  refine pp_iconst dL_law_1074 ci_2 (q := 1075) rfl ?_
  refine pp_iadd dL_law_1075 (q := 1076) rfl ?_
  try rw [nI_add]
  refine ps_sld dL_law_1076 hs.1 (LwS_sc hs) rfl (by omega) (by omega) (q := 1077) rfl ?_
  refine pp_aload_n dL_law_1077 rfl (by first | exact isRf_r | exact isRf_va | exact isRf_n) (q := 1078) rfl ?_
  refine pp_iload_n dL_law_1078 rfl (q := 1079) rfl ?_
  refine pp_iconst dL_law_1079 ci_3 (q := 1080) rfl ?_
  refine pp_iadd dL_law_1080 (q := 1081) rfl ?_
  try rw [nI_add]
  refine ps_sld dL_law_1081 hs.1 (LwS_sc hs) rfl (by omega) (by omega) (q := 1082) rfl ?_
  refine pp_aload_n dL_law_1082 rfl (by first | exact isRf_r | exact isRf_va | exact isRf_n) (q := 1083) rfl ?_
  refine pp_iload_n dL_law_1083 rfl (q := 1084) rfl ?_
  refine pp_iconst dL_law_1084 ci_4 (q := 1085) rfl ?_
  refine pp_iadd dL_law_1085 (q := 1086) rfl ?_
  try rw [nI_add]
  refine ps_sld dL_law_1086 hs.1 (LwS_sc hs) rfl (by omega) (by omega) (q := 1087) rfl ?_
  refine ps_callVi dL_law_1087 lk_L_136 (by exact hm.1.1) (by rfl) (by rfl) (by rfl) (m_check hm hR.2.1.1) (by rfl) (by exact Nat.le_of_ble_eq_true rfl) (by decide) (by decide) (by exact Nat.le_of_ble_eq_true rfl) (q := 1090) rfl (fun r1087 g1087 h1087 => ?_)
  obtain ⟨rfl, hm3, hX⟩ := h1087
  refine pp_icmp_eq (tgt := 1193) dL_law_1090 (by decide) (q := 1093) rfl (fun c1090 => ?_) (fun c1090 => absurd rfl c1090)
  exact hk _ _ _ (LwI_x hR2 hc2 hs hm3 hX)
set_option maxRecDepth 20000 in
set_option maxHeartbeats 4000000 in
theorem lw_1095 {sz L i : Nat} {xs : Nat → Int32} {ad : Nm → Nat} {g : Sg} {S : CS} {Q : Option Value → PH → Prop} (h : LwI sz L xs g S) (hi : i + 5 ≤ L) (hL : L ≤ 2560) (hk : ∀ ad' g' S', LwI sz L xs g' S' → PP mL_law 1193 [some (.ref (ad' (50, 0, 0))), some (.ref (ad' (0, 0, 0))), some (.ref (ad' (40, 0, 0))), some (.int (nI i))] [] (Rel ad' g') Q) : PP mL_law 1095 [some (.ref (ad (50, 0, 0))), some (.ref (ad (0, 0, 0))), some (.ref (ad (40, 0, 0))), some (.int (nI i))] [] (Rel ad g) Q := by
  obtain ⟨hR, hc, hm, hs⟩ := h
  refine pp_aload_n dL_law_1095 rfl isRf_r (q := 1096) rfl ?_
  refine ps_callVq dL_law_1096 lk_L_137 (by exact hR.1) (by rfl) (by rfl) (by rfl) (x_replay hR hc) (by rfl) (by exact Nat.le_of_ble_eq_true rfl) (by decide) (by decide) (by exact Nat.le_of_ble_eq_true rfl) (q := 1099) rfl (fun v1096 ad1096 g1096 h1096 => ?_)
  obtain ⟨rfl, hR2, hc2, hE⟩ := h1096
  rw [← hE.2.1 (50, 0, 0) hs.1 (Or.inl (by decide)), ← hE.2.1 (0, 0, 0) hR.1 (Or.inr rfl), ← hE.2.1 (40, 0, 0) hm.1.1 (Or.inl (by decide))]
  have hs := LwS_c hs hE
  have hm := RR_c hm hE
  change PP mL_law 1099 _ [Value.int _] (Rel ad1096 g1096) _
  refine pp_aload_n dL_law_1099 rfl isRf_r (q := 1100) rfl ?_
  refine ps_callVi dL_law_1100 lk_L_140 (by exact hm.1.1) (by rfl) (by rfl) (by rfl) (m_replay hm hR.2.1.1) (by rfl) (by exact Nat.le_of_ble_eq_true rfl) (by decide) (by decide) (by exact Nat.le_of_ble_eq_true rfl) (q := 1103) rfl (fun r1100 g1100 h1100 => ?_)
  obtain ⟨rfl, hm3, hX⟩ := h1100
  refine pp_icmp_eq (tgt := 1193) dL_law_1103 (by decide) (q := 1106) rfl (fun c1103 => ?_) (fun c1103 => absurd rfl c1103)
  exact hk _ _ _ (LwI_x hR2 hc2 hs hm3 hX)
set_option maxRecDepth 20000 in
set_option maxHeartbeats 4000000 in
theorem lw_1108 {sz L i : Nat} {xs : Nat → Int32} {ad : Nm → Nat} {g : Sg} {S : CS} {Q : Option Value → PH → Prop} (h : LwI sz L xs g S) (hi : i + 5 ≤ L) (hL : L ≤ 2560) (hk : ∀ ad' g' S', LwI sz L xs g' S' → PP mL_law 1193 [some (.ref (ad' (50, 0, 0))), some (.ref (ad' (0, 0, 0))), some (.ref (ad' (40, 0, 0))), some (.int (nI i))] [] (Rel ad' g') Q) : PP mL_law 1108 [some (.ref (ad (50, 0, 0))), some (.ref (ad (0, 0, 0))), some (.ref (ad (40, 0, 0))), some (.int (nI i))] [] (Rel ad g) Q := by
  obtain ⟨hR, hc, hm, hs⟩ := h
  refine pp_aload_n dL_law_1108 rfl isRf_r (q := 1109) rfl ?_
  refine ps_callVq dL_law_1109 lk_L_141 (by exact hR.1) (by rfl) (by rfl) (by rfl) (x_image hR hc) (by rfl) (by exact Nat.le_of_ble_eq_true rfl) (by decide) (by decide) (by exact Nat.le_of_ble_eq_true rfl) (q := 1112) rfl (fun v1109 ad1109 g1109 h1109 => ?_)
  obtain ⟨rfl, hR2, hc2, hE⟩ := h1109
  rw [← hE.2.1 (50, 0, 0) hs.1 (Or.inl (by decide)), ← hE.2.1 (0, 0, 0) hR.1 (Or.inr rfl), ← hE.2.1 (40, 0, 0) hm.1.1 (Or.inl (by decide))]
  have hs := LwS_c hs hE
  have hm := RR_c hm hE
  change PP mL_law 1112 _ [Value.int _] (Rel ad1109 g1109) _
  refine pp_aload_n dL_law_1112 rfl isRf_r (q := 1113) rfl ?_
  refine ps_callVi dL_law_1113 lk_L_144 (by exact hm.1.1) (by rfl) (by rfl) (by rfl) (m_image hm hR.2.1.1) (by rfl) (by exact Nat.le_of_ble_eq_true rfl) (by decide) (by decide) (by exact Nat.le_of_ble_eq_true rfl) (q := 1116) rfl (fun r1113 g1113 h1113 => ?_)
  obtain ⟨rfl, hm3, hX⟩ := h1113
  refine pp_icmp_eq (tgt := 1193) dL_law_1116 (by decide) (q := 1119) rfl (fun c1116 => ?_) (fun c1116 => absurd rfl c1116)
  exact hk _ _ _ (LwI_x hR2 hc2 hs hm3 hX)
set_option maxRecDepth 20000 in
set_option maxHeartbeats 4000000 in
theorem lw_1121 {sz L i : Nat} {xs : Nat → Int32} {ad : Nm → Nat} {g : Sg} {S : CS} {Q : Option Value → PH → Prop} (h : LwI sz L xs g S) (hi : i + 5 ≤ L) (hL : L ≤ 2560) (hk : ∀ ad' g' S', LwI sz L xs g' S' → PP mL_law 1193 [some (.ref (ad' (50, 0, 0))), some (.ref (ad' (0, 0, 0))), some (.ref (ad' (40, 0, 0))), some (.int (nI i))] [] (Rel ad' g') Q) : PP mL_law 1121 [some (.ref (ad (50, 0, 0))), some (.ref (ad (0, 0, 0))), some (.ref (ad (40, 0, 0))), some (.int (nI i))] [] (Rel ad g) Q := by
  obtain ⟨hR, hc, hm, hs⟩ := h
  refine pp_aload_n dL_law_1121 rfl isRf_r (q := 1122) rfl ?_
  refine ps_callVq dL_law_1122 lk_L_145 (by exact hR.1) (by rfl) (by rfl) (by rfl) (x_back hR hc) (by rfl) (by exact Nat.le_of_ble_eq_true rfl) (by decide) (by decide) (by exact Nat.le_of_ble_eq_true rfl) (q := 1125) rfl (fun v1122 ad1122 g1122 h1122 => ?_)
  obtain ⟨rfl, hR2, hc2, hE⟩ := h1122
  rw [← hE.2.1 (50, 0, 0) hs.1 (Or.inl (by decide)), ← hE.2.1 (0, 0, 0) hR.1 (Or.inr rfl), ← hE.2.1 (40, 0, 0) hm.1.1 (Or.inl (by decide))]
  have hs := LwS_c hs hE
  have hm := RR_c hm hE
  change PP mL_law 1125 _ [Value.int _] (Rel ad1122 g1122) _
  refine pp_aload_n dL_law_1125 rfl isRf_r (q := 1126) rfl ?_
  refine ps_callVi dL_law_1126 lk_L_148 (by exact hm.1.1) (by rfl) (by rfl) (by rfl) (m_back hm hR.2.1.1) (by rfl) (by exact Nat.le_of_ble_eq_true rfl) (by decide) (by decide) (by exact Nat.le_of_ble_eq_true rfl) (q := 1129) rfl (fun r1126 g1126 h1126 => ?_)
  obtain ⟨rfl, hm3, hX⟩ := h1126
  refine pp_icmp_eq (tgt := 1193) dL_law_1129 (by decide) (q := 1132) rfl (fun c1129 => ?_) (fun c1129 => absurd rfl c1129)
  exact hk _ _ _ (LwI_x hR2 hc2 hs hm3 hX)
set_option maxRecDepth 20000 in
set_option maxHeartbeats 4000000 in
theorem lw_1134 {sz L i : Nat} {xs : Nat → Int32} {ad : Nm → Nat} {g : Sg} {S : CS} {Q : Option Value → PH → Prop} (h : LwI sz L xs g S) (hi : i + 5 ≤ L) (hL : L ≤ 2560) (hk : ∀ ad' g' S', LwI sz L xs g' S' → PP mL_law 1193 [some (.ref (ad' (50, 0, 0))), some (.ref (ad' (0, 0, 0))), some (.ref (ad' (40, 0, 0))), some (.int (nI i))] [] (Rel ad' g') Q) : PP mL_law 1134 [some (.ref (ad (50, 0, 0))), some (.ref (ad (0, 0, 0))), some (.ref (ad (40, 0, 0))), some (.int (nI i))] [] (Rel ad g) Q := by
  obtain ⟨hR, hc, hm, hs⟩ := h
  refine pp_aload_n dL_law_1134 rfl isRf_r (q := 1135) rfl ?_
  refine pp_aload_n dL_law_1135 rfl (by first | exact isRf_r | exact isRf_va | exact isRf_n) (q := 1136) rfl ?_
  refine pp_iload_n dL_law_1136 rfl (q := 1137) rfl ?_
  refine pp_iconst dL_law_1137 ci_1 (q := 1138) rfl ?_
  refine pp_iadd dL_law_1138 (q := 1139) rfl ?_
  try rw [nI_add]
  refine ps_sld dL_law_1139 hs.1 (LwS_sc hs) rfl (by omega) (by omega) (q := 1140) rfl ?_
  refine ps_callVq dL_law_1140 lk_L_149 (by exact hR.1) (by rfl) (by rfl) (by rfl) (x_trace hR hc) (by rfl) (by exact Nat.le_of_ble_eq_true rfl) (by decide) (by decide) (by exact Nat.le_of_ble_eq_true rfl) (q := 1143) rfl (fun v1140 ad1140 g1140 h1140 => ?_)
  obtain ⟨rfl, hR2, hc2, hE⟩ := h1140
  rw [← hE.2.1 (50, 0, 0) hs.1 (Or.inl (by decide)), ← hE.2.1 (0, 0, 0) hR.1 (Or.inr rfl), ← hE.2.1 (40, 0, 0) hm.1.1 (Or.inl (by decide))]
  have hs := LwS_c hs hE
  have hm := RR_c hm hE
  change PP mL_law 1143 _ [Value.int _] (Rel ad1140 g1140) _
  refine pp_aload_n dL_law_1143 rfl isRf_r (q := 1144) rfl ?_
  refine pp_aload_n dL_law_1144 rfl (by first | exact isRf_r | exact isRf_va | exact isRf_n) (q := 1145) rfl ?_
  refine pp_iload_n dL_law_1145 rfl (q := 1146) rfl ?_
  refine pp_iconst dL_law_1146 ci_1 (q := 1147) rfl ?_
  refine pp_iadd dL_law_1147 (q := 1148) rfl ?_
  try rw [nI_add]
  refine ps_sld dL_law_1148 hs.1 (LwS_sc hs) rfl (by omega) (by omega) (q := 1149) rfl ?_
  refine ps_callVi dL_law_1149 lk_L_152 (by exact hm.1.1) (by rfl) (by rfl) (by rfl) (m_trace hm hR.2.1.1) (by rfl) (by exact Nat.le_of_ble_eq_true rfl) (by decide) (by decide) (by exact Nat.le_of_ble_eq_true rfl) (q := 1152) rfl (fun r1149 g1149 h1149 => ?_)
  obtain ⟨rfl, hm3, hX⟩ := h1149
  refine pp_icmp_eq (tgt := 1193) dL_law_1152 (by decide) (q := 1155) rfl (fun c1152 => ?_) (fun c1152 => absurd rfl c1152)
  exact hk _ _ _ (LwI_x hR2 hc2 hs hm3 hX)
set_option maxRecDepth 20000 in
set_option maxHeartbeats 4000000 in
theorem lw_1157 {sz L i : Nat} {xs : Nat → Int32} {ad : Nm → Nat} {g : Sg} {S : CS} {Q : Option Value → PH → Prop} (h : LwI sz L xs g S) (hi : i + 5 ≤ L) (hL : L ≤ 2560) (hk : ∀ ad' g' S', LwI sz L xs g' S' → PP mL_law 1193 [some (.ref (ad' (50, 0, 0))), some (.ref (ad' (0, 0, 0))), some (.ref (ad' (40, 0, 0))), some (.int (nI i))] [] (Rel ad' g') Q) : PP mL_law 1157 [some (.ref (ad (50, 0, 0))), some (.ref (ad (0, 0, 0))), some (.ref (ad (40, 0, 0))), some (.int (nI i))] [] (Rel ad g) Q := by
  obtain ⟨hR, hc, hm, hs⟩ := h
  refine pp_aload_n dL_law_1157 rfl isRf_r (q := 1158) rfl ?_
  refine ps_callVq dL_law_1158 lk_L_153 (by exact hR.1) (by rfl) (by rfl) (by rfl) (x_again hR hc) (by rfl) (by exact Nat.le_of_ble_eq_true rfl) (by decide) (by decide) (by exact Nat.le_of_ble_eq_true rfl) (q := 1161) rfl (fun v1158 ad1158 g1158 h1158 => ?_)
  obtain ⟨rfl, hR2, hc2, hE⟩ := h1158
  rw [← hE.2.1 (50, 0, 0) hs.1 (Or.inl (by decide)), ← hE.2.1 (0, 0, 0) hR.1 (Or.inr rfl), ← hE.2.1 (40, 0, 0) hm.1.1 (Or.inl (by decide))]
  have hs := LwS_c hs hE
  have hm := RR_c hm hE
  change PP mL_law 1161 _ [Value.int _] (Rel ad1158 g1158) _
  refine pp_aload_n dL_law_1161 rfl isRf_r (q := 1162) rfl ?_
  refine ps_callVi dL_law_1162 lk_L_156 (by exact hm.1.1) (by rfl) (by rfl) (by rfl) (m_again hm hR.2.1.1) (by rfl) (by exact Nat.le_of_ble_eq_true rfl) (by decide) (by decide) (by exact Nat.le_of_ble_eq_true rfl) (q := 1165) rfl (fun r1162 g1162 h1162 => ?_)
  obtain ⟨rfl, hm3, hX⟩ := h1162
  refine pp_icmp_eq (tgt := 1193) dL_law_1165 (by decide) (q := 1168) rfl (fun c1165 => ?_) (fun c1165 => absurd rfl c1165)
  exact hk _ _ _ (LwI_x hR2 hc2 hs hm3 hX)
set_option maxRecDepth 20000 in
set_option maxHeartbeats 4000000 in
theorem lw_1170 {sz L i : Nat} {xs : Nat → Int32} {ad : Nm → Nat} {g : Sg} {S : CS} {Q : Option Value → PH → Prop} (h : LwI sz L xs g S) (hi : i + 5 ≤ L) (hL : L ≤ 2560) (hk : ∀ ad' g' S', LwI sz L xs g' S' → PP mL_law 1193 [some (.ref (ad' (50, 0, 0))), some (.ref (ad' (0, 0, 0))), some (.ref (ad' (40, 0, 0))), some (.int (nI i))] [] (Rel ad' g') Q) : PP mL_law 1170 [some (.ref (ad (50, 0, 0))), some (.ref (ad (0, 0, 0))), some (.ref (ad (40, 0, 0))), some (.int (nI i))] [] (Rel ad g) Q := by
  obtain ⟨hR, hc, hm, hs⟩ := h
  refine pp_aload_n dL_law_1170 rfl isRf_r (q := 1171) rfl ?_
  refine pp_aload_n dL_law_1171 rfl (by first | exact isRf_r | exact isRf_va | exact isRf_n) (q := 1172) rfl ?_
  refine pp_iload_n dL_law_1172 rfl (q := 1173) rfl ?_
  refine pp_iconst dL_law_1173 ci_1 (q := 1174) rfl ?_
  refine pp_iadd dL_law_1174 (q := 1175) rfl ?_
  try rw [nI_add]
  refine ps_sld dL_law_1175 hs.1 (LwS_sc hs) rfl (by omega) (by omega) (q := 1176) rfl ?_
  refine ps_callVq dL_law_1176 lk_L_157 (by exact hR.1) (by rfl) (by rfl) (by rfl) (x_status hR hc) (by rfl) (by exact Nat.le_of_ble_eq_true rfl) (by decide) (by decide) (by exact Nat.le_of_ble_eq_true rfl) (q := 1179) rfl (fun v1176 ad1176 g1176 h1176 => ?_)
  obtain ⟨rfl, hR2, hc2, hE⟩ := h1176
  rw [← hE.2.1 (50, 0, 0) hs.1 (Or.inl (by decide)), ← hE.2.1 (0, 0, 0) hR.1 (Or.inr rfl), ← hE.2.1 (40, 0, 0) hm.1.1 (Or.inl (by decide))]
  have hs := LwS_c hs hE
  have hm := RR_c hm hE
  change PP mL_law 1179 _ [Value.int _] (Rel ad1176 g1176) _
  refine pp_aload_n dL_law_1179 rfl isRf_r (q := 1180) rfl ?_
  refine pp_aload_n dL_law_1180 rfl (by first | exact isRf_r | exact isRf_va | exact isRf_n) (q := 1181) rfl ?_
  refine pp_iload_n dL_law_1181 rfl (q := 1182) rfl ?_
  refine pp_iconst dL_law_1182 ci_1 (q := 1183) rfl ?_
  refine pp_iadd dL_law_1183 (q := 1184) rfl ?_
  try rw [nI_add]
  refine ps_sld dL_law_1184 hs.1 (LwS_sc hs) rfl (by omega) (by omega) (q := 1185) rfl ?_
  refine ps_callVi dL_law_1185 lk_L_160 (by exact hm.1.1) (by rfl) (by rfl) (by rfl) (m_status hm hR.2.1.1) (by rfl) (by exact Nat.le_of_ble_eq_true rfl) (by decide) (by decide) (by exact Nat.le_of_ble_eq_true rfl) (q := 1188) rfl (fun r1185 g1185 h1185 => ?_)
  obtain ⟨rfl, hm3, hX⟩ := h1185
  refine pp_icmp_eq (tgt := 1193) dL_law_1188 (by decide) (q := 1191) rfl (fun c1188 => ?_) (fun c1188 => absurd rfl c1188)
  exact hk _ _ _ (LwI_x hR2 hc2 hs hm3 hX)
