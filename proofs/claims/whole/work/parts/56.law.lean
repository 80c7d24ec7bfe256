section LAWLOOP
variable {g : XG} {l : Launch} {M : XM}
def mL_law : XY := (yL_law, cL_law, 4, some .boolean)
abbrev lwL (i : Nat) : List (Option XV) := [some (xr 1003), some (xr 0), some (xr 49), some (xi (nI i))]
def lwQ : Option XV → XM → Prop := fun r _ => r = some (xi 1)
set_option maxRecDepth 20000 in
theorem lw_row {i : Nat} (hi : i + 6 ≤ g.2.2.2.2.1) (hL : g.2.2.2.2.1 ≤ 3072) (hI : Inv M) (K : ∀ M2, Inv M2 → XW g l mL_law 11 916 (lwL i) [] M2 lwQ) : XW g l mL_law 11 144 (lwL i) [] M lwQ := by
  refine xw_aload_n dL_law_144 rfl ?_
  refine xw_aload_n dL_law_145 rfl ?_
  refine xw_iload_n dL_law_146 rfl ?_
  refine xw_iconst (v := 1) dL_law_147 (by decide) ?_
  refine xw_iaddN (b := 1) dL_law_148 ?_
  refine xw_ialdS dL_law_149 ?_ ?_
  · exact vp_in_nI (by omega) (by omega)
  refine xw_aload_n dL_law_150 rfl ?_
  refine xw_iload_n dL_law_151 rfl ?_
  refine xw_iconst (v := 2) dL_law_152 (by decide) ?_
  refine xw_iaddN (b := 2) dL_law_153 ?_
  refine xw_ialdS dL_law_154 ?_ ?_
  · exact vp_in_nI (by omega) (by omega)
  refine xw_aload_n dL_law_155 rfl ?_
  refine xw_iload_n dL_law_156 rfl ?_
  refine xw_iconst (v := 3) dL_law_157 (by decide) ?_
  refine xw_iaddN (b := 3) dL_law_158 ?_
  refine xw_ialdS dL_law_159 ?_ ?_
  · exact vp_in_nI (by omega) (by omega)
  refine xw_cV3Q dL_law_160 okX7_row ml_L_13 rfl rfl rfl rfl (pr_row (g := g) (l := l) hI _ _ _) ?_
  rintro _ M1 ⟨w, rfl, h2⟩
  refine xw_aload_n dL_law_163 rfl ?_
  refine xw_aload_n dL_law_164 rfl ?_
  refine xw_iload_n dL_law_165 rfl ?_
  refine xw_iconst (v := 1) dL_law_166 (by decide) ?_
  refine xw_iaddN (b := 1) dL_law_167 ?_
  refine xw_ialdS dL_law_168 ?_ ?_
  · exact vp_in_nI (by omega) (by omega)
  refine xw_aload_n dL_law_169 rfl ?_
  refine xw_iload_n dL_law_170 rfl ?_
  refine xw_iconst (v := 2) dL_law_171 (by decide) ?_
  refine xw_iaddN (b := 2) dL_law_172 ?_
  refine xw_ialdS dL_law_173 ?_ ?_
  · exact vp_in_nI (by omega) (by omega)
  refine xw_aload_n dL_law_174 rfl ?_
  refine xw_iload_n dL_law_175 rfl ?_
  refine xw_iconst (v := 3) dL_law_176 (by decide) ?_
  refine xw_iaddN (b := 3) dL_law_177 ?_
  refine xw_ialdS dL_law_178 ?_ ?_
  · exact vp_in_nI (by omega) (by omega)
  refine xw_cV3Q dL_law_179 okX8_row ml_L_17 rfl rfl rfl rfl (h2) ?_
  rintro _ M2 ⟨rfl, hI2⟩
  refine xw_icmp_eq (tgt := 916) dL_law_182 (by decide) (fun c182 => ?_) (fun c182 => ?_)
  · exact K M2 hI2
  · exact absurd rfl c182
set_option maxRecDepth 20000 in
theorem lw_set {i : Nat} (hi : i + 6 ≤ g.2.2.2.2.1) (hL : g.2.2.2.2.1 ≤ 3072) (hI : Inv M) (K : ∀ M2, Inv M2 → XW g l mL_law 11 916 (lwL i) [] M2 lwQ) : XW g l mL_law 11 187 (lwL i) [] M lwQ := by
  refine xw_aload_n dL_law_187 rfl ?_
  refine xw_aload_n dL_law_188 rfl ?_
  refine xw_iload_n dL_law_189 rfl ?_
  refine xw_iconst (v := 1) dL_law_190 (by decide) ?_
  refine xw_iaddN (b := 1) dL_law_191 ?_
  refine xw_ialdS dL_law_192 ?_ ?_
  · exact vp_in_nI (by omega) (by omega)
  refine xw_aload_n dL_law_193 rfl ?_
  refine xw_iload_n dL_law_194 rfl ?_
  refine xw_iconst (v := 2) dL_law_195 (by decide) ?_
  refine xw_iaddN (b := 2) dL_law_196 ?_
  refine xw_ialdS dL_law_197 ?_ ?_
  · exact vp_in_nI (by omega) (by omega)
  refine xw_aload_n dL_law_198 rfl ?_
  refine xw_iload_n dL_law_199 rfl ?_
  refine xw_iconst (v := 3) dL_law_200 (by decide) ?_
  refine xw_iaddN (b := 3) dL_law_201 ?_
  refine xw_ialdS dL_law_202 ?_ ?_
  · exact vp_in_nI (by omega) (by omega)
  refine xw_cV3Q dL_law_203 okX7_set ml_L_18 rfl rfl rfl rfl (pr_set (g := g) (l := l) hI _ _ _) ?_
  rintro _ M1 ⟨w, rfl, h2⟩
  refine xw_aload_n dL_law_206 rfl ?_
  refine xw_aload_n dL_law_207 rfl ?_
  refine xw_iload_n dL_law_208 rfl ?_
  refine xw_iconst (v := 1) dL_law_209 (by decide) ?_
  refine xw_iaddN (b := 1) dL_law_210 ?_
  refine xw_ialdS dL_law_211 ?_ ?_
  · exact vp_in_nI (by omega) (by omega)
  refine xw_aload_n dL_law_212 rfl ?_
  refine xw_iload_n dL_law_213 rfl ?_
  refine xw_iconst (v := 2) dL_law_214 (by decide) ?_
  refine xw_iaddN (b := 2) dL_law_215 ?_
  refine xw_ialdS dL_law_216 ?_ ?_
  · exact vp_in_nI (by omega) (by omega)
  refine xw_aload_n dL_law_217 rfl ?_
  refine xw_iload_n dL_law_218 rfl ?_
  refine xw_iconst (v := 3) dL_law_219 (by decide) ?_
  refine xw_iaddN (b := 3) dL_law_220 ?_
  refine xw_ialdS dL_law_221 ?_ ?_
  · exact vp_in_nI (by omega) (by omega)
  refine xw_cV3Q dL_law_222 okX8_set ml_L_21 rfl rfl rfl rfl (h2) ?_
  rintro _ M2 ⟨rfl, hI2⟩
  refine xw_icmp_eq (tgt := 916) dL_law_225 (by decide) (fun c225 => ?_) (fun c225 => ?_)
  · exact K M2 hI2
  · exact absurd rfl c225
set_option maxRecDepth 20000 in
theorem lw_copy {i : Nat} (hi : i + 6 ≤ g.2.2.2.2.1) (hL : g.2.2.2.2.1 ≤ 3072) (hI : Inv M) (K : ∀ M2, Inv M2 → XW g l mL_law 11 916 (lwL i) [] M2 lwQ) : XW g l mL_law 11 230 (lwL i) [] M lwQ := by
  refine xw_aload_n dL_law_230 rfl ?_
  refine xw_aload_n dL_law_231 rfl ?_
  refine xw_iload_n dL_law_232 rfl ?_
  refine xw_iconst (v := 1) dL_law_233 (by decide) ?_
  refine xw_iaddN (b := 1) dL_law_234 ?_
  refine xw_ialdS dL_law_235 ?_ ?_
  · exact vp_in_nI (by omega) (by omega)
  refine xw_aload_n dL_law_236 rfl ?_
  refine xw_iload_n dL_law_237 rfl ?_
  refine xw_iconst (v := 2) dL_law_238 (by decide) ?_
  refine xw_iaddN (b := 2) dL_law_239 ?_
  refine xw_ialdS dL_law_240 ?_ ?_
  · exact vp_in_nI (by omega) (by omega)
  refine xw_aload_n dL_law_241 rfl ?_
  refine xw_iload_n dL_law_242 rfl ?_
  refine xw_iconst (v := 3) dL_law_243 (by decide) ?_
  refine xw_iaddN (b := 3) dL_law_244 ?_
  refine xw_ialdS dL_law_245 ?_ ?_
  · exact vp_in_nI (by omega) (by omega)
  refine xw_aload_n dL_law_246 rfl ?_
  refine xw_iload_n dL_law_247 rfl ?_
  refine xw_iconst (v := 4) dL_law_248 (by decide) ?_
  refine xw_iaddN (b := 4) dL_law_249 ?_
  refine xw_ialdS dL_law_250 ?_ ?_
  · exact vp_in_nI (by omega) (by omega)
  refine xw_aload_n dL_law_251 rfl ?_
  refine xw_iload_n dL_law_252 rfl ?_
  refine xw_iconst (v := 5) dL_law_253 (by decide) ?_
  refine xw_iaddN (b := 5) dL_law_254 ?_
  refine xw_ialdS dL_law_255 ?_ ?_
  · exact vp_in_nI (by omega) (by omega)
  refine xw_cV5Q dL_law_256 okX7_copy ml_L_22 rfl rfl rfl rfl (pr_copy (g := g) (l := l) hI _ _ _ _ _) ?_
  rintro _ M1 ⟨w, rfl, h2⟩
  refine xw_aload_n dL_law_259 rfl ?_
  refine xw_aload_n dL_law_260 rfl ?_
  refine xw_iload_n dL_law_261 rfl ?_
  refine xw_iconst (v := 1) dL_law_262 (by decide) ?_
  refine xw_iaddN (b := 1) dL_law_263 ?_
  refine xw_ialdS dL_law_264 ?_ ?_
  · exact vp_in_nI (by omega) (by omega)
  refine xw_aload_n dL_law_265 rfl ?_
  refine xw_iload_n dL_law_266 rfl ?_
  refine xw_iconst (v := 2) dL_law_267 (by decide) ?_
  refine xw_iaddN (b := 2) dL_law_268 ?_
  refine xw_ialdS dL_law_269 ?_ ?_
  · exact vp_in_nI (by omega) (by omega)
  refine xw_aload_n dL_law_270 rfl ?_
  refine xw_iload_n dL_law_271 rfl ?_
  refine xw_iconst (v := 3) dL_law_272 (by decide) ?_
  refine xw_iaddN (b := 3) dL_law_273 ?_
  refine xw_ialdS dL_law_274 ?_ ?_
  · exact vp_in_nI (by omega) (by omega)
  refine xw_aload_n dL_law_275 rfl ?_
  refine xw_iload_n dL_law_276 rfl ?_
  refine xw_iconst (v := 4) dL_law_277 (by decide) ?_
  refine xw_iaddN (b := 4) dL_law_278 ?_
  refine xw_ialdS dL_law_279 ?_ ?_
  · exact vp_in_nI (by omega) (by omega)
  refine xw_aload_n dL_law_280 rfl ?_
  refine xw_iload_n dL_law_281 rfl ?_
  refine xw_iconst (v := 5) dL_law_282 (by decide) ?_
  refine xw_iaddN (b := 5) dL_law_283 ?_
  refine xw_ialdS dL_law_284 ?_ ?_
  · exact vp_in_nI (by omega) (by omega)
  refine xw_cV5Q dL_law_285 okX8_copy ml_L_26 rfl rfl rfl rfl (h2) ?_
  rintro _ M2 ⟨rfl, hI2⟩
  refine xw_icmp_eq (tgt := 916) dL_law_288 (by decide) (fun c288 => ?_) (fun c288 => ?_)
  · exact K M2 hI2
  · exact absurd rfl c288
set_option maxRecDepth 20000 in
theorem lw_drop {i : Nat} (hi : i + 6 ≤ g.2.2.2.2.1) (hL : g.2.2.2.2.1 ≤ 3072) (hI : Inv M) (K : ∀ M2, Inv M2 → XW g l mL_law 11 916 (lwL i) [] M2 lwQ) : XW g l mL_law 11 293 (lwL i) [] M lwQ := by
  refine xw_aload_n dL_law_293 rfl ?_
  refine xw_aload_n dL_law_294 rfl ?_
  refine xw_iload_n dL_law_295 rfl ?_
  refine xw_iconst (v := 1) dL_law_296 (by decide) ?_
  refine xw_iaddN (b := 1) dL_law_297 ?_
  refine xw_ialdS dL_law_298 ?_ ?_
  · exact vp_in_nI (by omega) (by omega)
  refine xw_cV1Q dL_law_299 okX7_drop ml_L_27 rfl rfl rfl rfl (pr_drop (g := g) (l := l) hI _) ?_
  rintro _ M1 ⟨w, rfl, h2⟩
  refine xw_aload_n dL_law_302 rfl ?_
  refine xw_aload_n dL_law_303 rfl ?_
  refine xw_iload_n dL_law_304 rfl ?_
  refine xw_iconst (v := 1) dL_law_305 (by decide) ?_
  refine xw_iaddN (b := 1) dL_law_306 ?_
  refine xw_ialdS dL_law_307 ?_ ?_
  · exact vp_in_nI (by omega) (by omega)
  refine xw_cV1Q dL_law_308 okX8_drop ml_L_31 rfl rfl rfl rfl (h2) ?_
  rintro _ M2 ⟨rfl, hI2⟩
  refine xw_icmp_eq (tgt := 916) dL_law_311 (by decide) (fun c311 => ?_) (fun c311 => ?_)
  · exact K M2 hI2
  · exact absurd rfl c311
set_option maxRecDepth 20000 in
theorem lw_feed {i : Nat} (hi : i + 6 ≤ g.2.2.2.2.1) (hL : g.2.2.2.2.1 ≤ 3072) (hI : Inv M) (K : ∀ M2, Inv M2 → XW g l mL_law 11 916 (lwL i) [] M2 lwQ) : XW g l mL_law 11 316 (lwL i) [] M lwQ := by
  refine xw_aload_n dL_law_316 rfl ?_
  refine xw_aload_n dL_law_317 rfl ?_
  refine xw_iload_n dL_law_318 rfl ?_
  refine xw_iconst (v := 1) dL_law_319 (by decide) ?_
  refine xw_iaddN (b := 1) dL_law_320 ?_
  refine xw_ialdS dL_law_321 ?_ ?_
  · exact vp_in_nI (by omega) (by omega)
  refine xw_i2l dL_law_322 ?_
  refine xw_bipush (v := 32) dL_law_323 (by decide) ?_
  refine xw_lshl dL_law_325 ?_
  refine xw_aload_n dL_law_326 rfl ?_
  refine xw_iload_n dL_law_327 rfl ?_
  refine xw_iconst (v := 2) dL_law_328 (by decide) ?_
  refine xw_iaddN (b := 2) dL_law_329 ?_
  refine xw_ialdS dL_law_330 ?_ ?_
  · exact vp_in_nI (by omega) (by omega)
  refine xw_i2l dL_law_331 ?_
  refine xw_ldc2 dL_law_332 kc_L_32 ?_
  refine xw_land dL_law_335 ?_
  refine xw_lor dL_law_336 ?_
  refine xw_aload_n dL_law_337 rfl ?_
  refine xw_iload_n dL_law_338 rfl ?_
  refine xw_iconst (v := 3) dL_law_339 (by decide) ?_
  refine xw_iaddN (b := 3) dL_law_340 ?_
  refine xw_ialdS dL_law_341 ?_ ?_
  · exact vp_in_nI (by omega) (by omega)
  refine xw_cV2Q dL_law_342 okX7_feed ml_L_34 rfl rfl rfl rfl (pr_feed (g := g) (l := l) hI _ _) ?_
  rintro _ M1 ⟨w, rfl, h2⟩
  refine xw_aload_n dL_law_345 rfl ?_
  refine xw_aload_n dL_law_346 rfl ?_
  refine xw_iload_n dL_law_347 rfl ?_
  refine xw_iconst (v := 1) dL_law_348 (by decide) ?_
  refine xw_iaddN (b := 1) dL_law_349 ?_
  refine xw_ialdS dL_law_350 ?_ ?_
  · exact vp_in_nI (by omega) (by omega)
  refine xw_i2l dL_law_351 ?_
  refine xw_bipush (v := 32) dL_law_352 (by decide) ?_
  refine xw_lshl dL_law_354 ?_
  refine xw_aload_n dL_law_355 rfl ?_
  refine xw_iload_n dL_law_356 rfl ?_
  refine xw_iconst (v := 2) dL_law_357 (by decide) ?_
  refine xw_iaddN (b := 2) dL_law_358 ?_
  refine xw_ialdS dL_law_359 ?_ ?_
  · exact vp_in_nI (by omega) (by omega)
  refine xw_i2l dL_law_360 ?_
  refine xw_ldc2 dL_law_361 kc_L_32 ?_
  refine xw_land dL_law_364 ?_
  refine xw_lor dL_law_365 ?_
  refine xw_aload_n dL_law_366 rfl ?_
  refine xw_iload_n dL_law_367 rfl ?_
  refine xw_iconst (v := 3) dL_law_368 (by decide) ?_
  refine xw_iaddN (b := 3) dL_law_369 ?_
  refine xw_ialdS dL_law_370 ?_ ?_
  · exact vp_in_nI (by omega) (by omega)
  refine xw_cV2Q dL_law_371 okX8_feed ml_L_38 rfl rfl rfl rfl (h2) ?_
  rintro _ M2 ⟨rfl, hI2⟩
  refine xw_icmp_eq (tgt := 916) dL_law_374 (by decide) (fun c374 => ?_) (fun c374 => ?_)
  · exact K M2 hI2
  · exact absurd rfl c374
set_option maxRecDepth 20000 in
theorem lw_field {i : Nat} (hi : i + 6 ≤ g.2.2.2.2.1) (hL : g.2.2.2.2.1 ≤ 3072) (hI : Inv M) (K : ∀ M2, Inv M2 → XW g l mL_law 11 916 (lwL i) [] M2 lwQ) : XW g l mL_law 11 379 (lwL i) [] M lwQ := by
  refine xw_aload_n dL_law_379 rfl ?_
  refine xw_cV0Q dL_law_380 okX7_field ml_L_39 rfl rfl rfl rfl (pr_field (g := g) (l := l) hI) ?_
  rintro _ M1 ⟨w, rfl, h2⟩
  refine xw_aload_n dL_law_383 rfl ?_
  refine xw_cV0Q dL_law_384 okX8_field ml_L_43 rfl rfl rfl rfl (h2) ?_
  rintro _ M2 ⟨rfl, hI2⟩
  refine xw_icmp_eq (tgt := 916) dL_law_387 (by decide) (fun c387 => ?_) (fun c387 => ?_)
  · exact K M2 hI2
  · exact absurd rfl c387
set_option maxRecDepth 20000 in
theorem lw_fault {i : Nat} (hi : i + 6 ≤ g.2.2.2.2.1) (hL : g.2.2.2.2.1 ≤ 3072) (hI : Inv M) (K : ∀ M2, Inv M2 → XW g l mL_law 11 916 (lwL i) [] M2 lwQ) : XW g l mL_law 11 392 (lwL i) [] M lwQ := by
  refine xw_aload_n dL_law_392 rfl ?_
  refine xw_cV0Q dL_law_393 okX7_fault ml_L_44 rfl rfl rfl rfl (pr_fault (g := g) (l := l) hI) ?_
  rintro _ M1 ⟨w, rfl, h2⟩
  refine xw_aload_n dL_law_396 rfl ?_
  refine xw_cV0Q dL_law_397 okX8_fault ml_L_47 rfl rfl rfl rfl (h2) ?_
  rintro _ M2 ⟨rfl, hI2⟩
  refine xw_icmp_eq (tgt := 916) dL_law_400 (by decide) (fun c400 => ?_) (fun c400 => ?_)
  · exact K M2 hI2
  · exact absurd rfl c400
set_option maxRecDepth 20000 in
theorem lw_say {i : Nat} (hi : i + 6 ≤ g.2.2.2.2.1) (hL : g.2.2.2.2.1 ≤ 3072) (hI : Inv M) (K : ∀ M2, Inv M2 → XW g l mL_law 11 916 (lwL i) [] M2 lwQ) : XW g l mL_law 11 405 (lwL i) [] M lwQ := by
  refine xw_aload_n dL_law_405 rfl ?_
  refine xw_aload_n dL_law_406 rfl ?_
  refine xw_iload_n dL_law_407 rfl ?_
  refine xw_iconst (v := 1) dL_law_408 (by decide) ?_
  refine xw_iaddN (b := 1) dL_law_409 ?_
  refine xw_ialdS dL_law_410 ?_ ?_
  · exact vp_in_nI (by omega) (by omega)
  refine xw_aload_n dL_law_411 rfl ?_
  refine xw_iload_n dL_law_412 rfl ?_
  refine xw_iconst (v := 2) dL_law_413 (by decide) ?_
  refine xw_iaddN (b := 2) dL_law_414 ?_
  refine xw_ialdS dL_law_415 ?_ ?_
  · exact vp_in_nI (by omega) (by omega)
  refine xw_cV2Q dL_law_416 okX7_say ml_L_48 rfl rfl rfl rfl (pr_say (g := g) (l := l) hI _ _) ?_
  rintro _ M1 ⟨w, rfl, h2⟩
  refine xw_aload_n dL_law_419 rfl ?_
  refine xw_aload_n dL_law_420 rfl ?_
  refine xw_iload_n dL_law_421 rfl ?_
  refine xw_iconst (v := 1) dL_law_422 (by decide) ?_
  refine xw_iaddN (b := 1) dL_law_423 ?_
  refine xw_ialdS dL_law_424 ?_ ?_
  · exact vp_in_nI (by omega) (by omega)
  refine xw_aload_n dL_law_425 rfl ?_
  refine xw_iload_n dL_law_426 rfl ?_
  refine xw_iconst (v := 2) dL_law_427 (by decide) ?_
  refine xw_iaddN (b := 2) dL_law_428 ?_
  refine xw_ialdS dL_law_429 ?_ ?_
  · exact vp_in_nI (by omega) (by omega)
  refine xw_cV2Q dL_law_430 okX8_say ml_L_52 rfl rfl rfl rfl (h2) ?_
  rintro _ M2 ⟨rfl, hI2⟩
  refine xw_icmp_eq (tgt := 916) dL_law_433 (by decide) (fun c433 => ?_) (fun c433 => ?_)
  · exact K M2 hI2
  · exact absurd rfl c433
set_option maxRecDepth 20000 in
theorem lw_talk {i : Nat} (hi : i + 6 ≤ g.2.2.2.2.1) (hL : g.2.2.2.2.1 ≤ 3072) (hI : Inv M) (K : ∀ M2, Inv M2 → XW g l mL_law 11 916 (lwL i) [] M2 lwQ) : XW g l mL_law 11 438 (lwL i) [] M lwQ := by
  refine xw_aload_n dL_law_438 rfl ?_
  refine xw_aload_n dL_law_439 rfl ?_
  refine xw_iload_n dL_law_440 rfl ?_
  refine xw_iconst (v := 1) dL_law_441 (by decide) ?_
  refine xw_iaddN (b := 1) dL_law_442 ?_
  refine xw_ialdS dL_law_443 ?_ ?_
  · exact vp_in_nI (by omega) (by omega)
  refine xw_aload_n dL_law_444 rfl ?_
  refine xw_iload_n dL_law_445 rfl ?_
  refine xw_iconst (v := 2) dL_law_446 (by decide) ?_
  refine xw_iaddN (b := 2) dL_law_447 ?_
  refine xw_ialdS dL_law_448 ?_ ?_
  · exact vp_in_nI (by omega) (by omega)
  refine xw_aload_n dL_law_449 rfl ?_
  refine xw_iload_n dL_law_450 rfl ?_
  refine xw_iconst (v := 3) dL_law_451 (by decide) ?_
  refine xw_iaddN (b := 3) dL_law_452 ?_
  refine xw_ialdS dL_law_453 ?_ ?_
  · exact vp_in_nI (by omega) (by omega)
  refine xw_cV3Q dL_law_454 okX7_talk ml_L_53 rfl rfl rfl rfl (pr_talk (g := g) (l := l) hI _ _ _) ?_
  rintro _ M1 ⟨w, rfl, h2⟩
  refine xw_aload_n dL_law_457 rfl ?_
  refine xw_aload_n dL_law_458 rfl ?_
  refine xw_iload_n dL_law_459 rfl ?_
  refine xw_iconst (v := 1) dL_law_460 (by decide) ?_
  refine xw_iaddN (b := 1) dL_law_461 ?_
  refine xw_ialdS dL_law_462 ?_ ?_
  · exact vp_in_nI (by omega) (by omega)
  refine xw_aload_n dL_law_463 rfl ?_
  refine xw_iload_n dL_law_464 rfl ?_
  refine xw_iconst (v := 2) dL_law_465 (by decide) ?_
  refine xw_iaddN (b := 2) dL_law_466 ?_
  refine xw_ialdS dL_law_467 ?_ ?_
  · exact vp_in_nI (by omega) (by omega)
  refine xw_aload_n dL_law_468 rfl ?_
  refine xw_iload_n dL_law_469 rfl ?_
  refine xw_iconst (v := 3) dL_law_470 (by decide) ?_
  refine xw_iaddN (b := 3) dL_law_471 ?_
  refine xw_ialdS dL_law_472 ?_ ?_
  · exact vp_in_nI (by omega) (by omega)
  refine xw_cV3Q dL_law_473 okX8_talk ml_L_56 rfl rfl rfl rfl (h2) ?_
  rintro _ M2 ⟨rfl, hI2⟩
  refine xw_icmp_eq (tgt := 916) dL_law_476 (by decide) (fun c476 => ?_) (fun c476 => ?_)
  · exact K M2 hI2
  · exact absurd rfl c476
set_option maxRecDepth 20000 in
theorem lw_undo {i : Nat} (hi : i + 6 ≤ g.2.2.2.2.1) (hL : g.2.2.2.2.1 ≤ 3072) (hI : Inv M) (K : ∀ M2, Inv M2 → XW g l mL_law 11 916 (lwL i) [] M2 lwQ) : XW g l mL_law 11 481 (lwL i) [] M lwQ := by
  refine xw_aload_n dL_law_481 rfl ?_
  refine xw_cV0Q dL_law_482 okX7_undo ml_L_57 rfl rfl rfl rfl (pr_undo (g := g) (l := l) hI) ?_
  rintro _ M1 ⟨w, rfl, h2⟩
  refine xw_aload_n dL_law_485 rfl ?_
  refine xw_cV0Q dL_law_486 okX8_undo ml_L_60 rfl rfl rfl rfl (h2) ?_
  rintro _ M2 ⟨rfl, hI2⟩
  refine xw_icmp_eq (tgt := 916) dL_law_489 (by decide) (fun c489 => ?_) (fun c489 => ?_)
  · exact K M2 hI2
  · exact absurd rfl c489
set_option maxRecDepth 20000 in
theorem lw_house {i : Nat} (hi : i + 6 ≤ g.2.2.2.2.1) (hL : g.2.2.2.2.1 ≤ 3072) (hI : Inv M) (K : ∀ M2, Inv M2 → XW g l mL_law 11 916 (lwL i) [] M2 lwQ) : XW g l mL_law 11 494 (lwL i) [] M lwQ := by
  refine xw_aload_n dL_law_494 rfl ?_
  refine xw_aload_n dL_law_495 rfl ?_
  refine xw_iload_n dL_law_496 rfl ?_
  refine xw_iconst (v := 1) dL_law_497 (by decide) ?_
  refine xw_iaddN (b := 1) dL_law_498 ?_
  refine xw_ialdS dL_law_499 ?_ ?_
  · exact vp_in_nI (by omega) (by omega)
  refine xw_aload_n dL_law_500 rfl ?_
  refine xw_iload_n dL_law_501 rfl ?_
  refine xw_iconst (v := 2) dL_law_502 (by decide) ?_
  refine xw_iaddN (b := 2) dL_law_503 ?_
  refine xw_ialdS dL_law_504 ?_ ?_
  · exact vp_in_nI (by omega) (by omega)
  refine xw_cV2Q dL_law_505 okX7_house ml_L_61 rfl rfl rfl rfl (pr_house (g := g) (l := l) hI _ _) ?_
  rintro _ M1 ⟨w, rfl, h2⟩
  refine xw_aload_n dL_law_508 rfl ?_
  refine xw_aload_n dL_law_509 rfl ?_
  refine xw_iload_n dL_law_510 rfl ?_
  refine xw_iconst (v := 1) dL_law_511 (by decide) ?_
  refine xw_iaddN (b := 1) dL_law_512 ?_
  refine xw_ialdS dL_law_513 ?_ ?_
  · exact vp_in_nI (by omega) (by omega)
  refine xw_aload_n dL_law_514 rfl ?_
  refine xw_iload_n dL_law_515 rfl ?_
  refine xw_iconst (v := 2) dL_law_516 (by decide) ?_
  refine xw_iaddN (b := 2) dL_law_517 ?_
  refine xw_ialdS dL_law_518 ?_ ?_
  · exact vp_in_nI (by omega) (by omega)
  refine xw_cV2Q dL_law_519 okX8_house ml_L_64 rfl rfl rfl rfl (h2) ?_
  rintro _ M2 ⟨rfl, hI2⟩
  refine xw_icmp_eq (tgt := 916) dL_law_522 (by decide) (fun c522 => ?_) (fun c522 => ?_)
  · exact K M2 hI2
  · exact absurd rfl c522
set_option maxRecDepth 20000 in
theorem lw_cell {i : Nat} (hi : i + 6 ≤ g.2.2.2.2.1) (hL : g.2.2.2.2.1 ≤ 3072) (hI : Inv M) (K : ∀ M2, Inv M2 → XW g l mL_law 11 916 (lwL i) [] M2 lwQ) : XW g l mL_law 11 527 (lwL i) [] M lwQ := by
  refine xw_aload_n dL_law_527 rfl ?_
  refine xw_aload_n dL_law_528 rfl ?_
  refine xw_iload_n dL_law_529 rfl ?_
  refine xw_iconst (v := 1) dL_law_530 (by decide) ?_
  refine xw_iaddN (b := 1) dL_law_531 ?_
  refine xw_ialdS dL_law_532 ?_ ?_
  · exact vp_in_nI (by omega) (by omega)
  refine xw_cV1Q dL_law_533 okX7_cell ml_L_65 rfl rfl rfl rfl (pr_cell (g := g) (l := l) hI _) ?_
  rintro _ M1 ⟨w, rfl, h2⟩
  refine xw_aload_n dL_law_536 rfl ?_
  refine xw_aload_n dL_law_537 rfl ?_
  refine xw_iload_n dL_law_538 rfl ?_
  refine xw_iconst (v := 1) dL_law_539 (by decide) ?_
  refine xw_iaddN (b := 1) dL_law_540 ?_
  refine xw_ialdS dL_law_541 ?_ ?_
  · exact vp_in_nI (by omega) (by omega)
  refine xw_cV1Q dL_law_542 okX8_cell ml_L_68 rfl rfl rfl rfl (h2) ?_
  rintro _ M2 ⟨rfl, hI2⟩
  refine xw_icmp_eq (tgt := 916) dL_law_545 (by decide) (fun c545 => ?_) (fun c545 => ?_)
  · exact K M2 hI2
  · exact absurd rfl c545
set_option maxRecDepth 20000 in
theorem lw_lies {i : Nat} (hi : i + 6 ≤ g.2.2.2.2.1) (hL : g.2.2.2.2.1 ≤ 3072) (hI : Inv M) (K : ∀ M2, Inv M2 → XW g l mL_law 11 916 (lwL i) [] M2 lwQ) : XW g l mL_law 11 550 (lwL i) [] M lwQ := by
  refine xw_aload_n dL_law_550 rfl ?_
  refine xw_aload_n dL_law_551 rfl ?_
  refine xw_iload_n dL_law_552 rfl ?_
  refine xw_iconst (v := 1) dL_law_553 (by decide) ?_
  refine xw_iaddN (b := 1) dL_law_554 ?_
  refine xw_ialdS dL_law_555 ?_ ?_
  · exact vp_in_nI (by omega) (by omega)
  refine xw_aload_n dL_law_556 rfl ?_
  refine xw_iload_n dL_law_557 rfl ?_
  refine xw_iconst (v := 2) dL_law_558 (by decide) ?_
  refine xw_iaddN (b := 2) dL_law_559 ?_
  refine xw_ialdS dL_law_560 ?_ ?_
  · exact vp_in_nI (by omega) (by omega)
  refine xw_aload_n dL_law_561 rfl ?_
  refine xw_iload_n dL_law_562 rfl ?_
  refine xw_iconst (v := 3) dL_law_563 (by decide) ?_
  refine xw_iaddN (b := 3) dL_law_564 ?_
  refine xw_ialdS dL_law_565 ?_ ?_
  · exact vp_in_nI (by omega) (by omega)
  refine xw_aload_n dL_law_566 rfl ?_
  refine xw_iload_n dL_law_567 rfl ?_
  refine xw_iconst (v := 4) dL_law_568 (by decide) ?_
  refine xw_iaddN (b := 4) dL_law_569 ?_
  refine xw_ialdS dL_law_570 ?_ ?_
  · exact vp_in_nI (by omega) (by omega)
  refine xw_cV4Q dL_law_571 okX7_lies ml_L_69 rfl rfl rfl rfl (pr_lies (g := g) (l := l) hI _ _ _ _) ?_
  rintro _ M1 ⟨w, rfl, h2⟩
  refine xw_aload_n dL_law_574 rfl ?_
  refine xw_aload_n dL_law_575 rfl ?_
  refine xw_iload_n dL_law_576 rfl ?_
  refine xw_iconst (v := 1) dL_law_577 (by decide) ?_
  refine xw_iaddN (b := 1) dL_law_578 ?_
  refine xw_ialdS dL_law_579 ?_ ?_
  · exact vp_in_nI (by omega) (by omega)
  refine xw_aload_n dL_law_580 rfl ?_
  refine xw_iload_n dL_law_581 rfl ?_
  refine xw_iconst (v := 2) dL_law_582 (by decide) ?_
  refine xw_iaddN (b := 2) dL_law_583 ?_
  refine xw_ialdS dL_law_584 ?_ ?_
  · exact vp_in_nI (by omega) (by omega)
  refine xw_aload_n dL_law_585 rfl ?_
  refine xw_iload_n dL_law_586 rfl ?_
  refine xw_iconst (v := 3) dL_law_587 (by decide) ?_
  refine xw_iaddN (b := 3) dL_law_588 ?_
  refine xw_ialdS dL_law_589 ?_ ?_
  · exact vp_in_nI (by omega) (by omega)
  refine xw_aload_n dL_law_590 rfl ?_
  refine xw_iload_n dL_law_591 rfl ?_
  refine xw_iconst (v := 4) dL_law_592 (by decide) ?_
  refine xw_iaddN (b := 4) dL_law_593 ?_
  refine xw_ialdS dL_law_594 ?_ ?_
  · exact vp_in_nI (by omega) (by omega)
  refine xw_cV4Q dL_law_595 okX8_lies ml_L_73 rfl rfl rfl rfl (h2) ?_
  rintro _ M2 ⟨rfl, hI2⟩
  refine xw_icmp_eq (tgt := 916) dL_law_598 (by decide) (fun c598 => ?_) (fun c598 => ?_)
  · exact K M2 hI2
  · exact absurd rfl c598
set_option maxRecDepth 20000 in
theorem lw_guess {i : Nat} (hi : i + 6 ≤ g.2.2.2.2.1) (hL : g.2.2.2.2.1 ≤ 3072) (hI : Inv M) (K : ∀ M2, Inv M2 → XW g l mL_law 11 916 (lwL i) [] M2 lwQ) : XW g l mL_law 11 603 (lwL i) [] M lwQ := by
  refine xw_aload_n dL_law_603 rfl ?_
  refine xw_aload_n dL_law_604 rfl ?_
  refine xw_iload_n dL_law_605 rfl ?_
  refine xw_iconst (v := 1) dL_law_606 (by decide) ?_
  refine xw_iaddN (b := 1) dL_law_607 ?_
  refine xw_ialdS dL_law_608 ?_ ?_
  · exact vp_in_nI (by omega) (by omega)
  refine xw_aload_n dL_law_609 rfl ?_
  refine xw_iload_n dL_law_610 rfl ?_
  refine xw_iconst (v := 2) dL_law_611 (by decide) ?_
  refine xw_iaddN (b := 2) dL_law_612 ?_
  refine xw_ialdS dL_law_613 ?_ ?_
  · exact vp_in_nI (by omega) (by omega)
  refine xw_aload_n dL_law_614 rfl ?_
  refine xw_iload_n dL_law_615 rfl ?_
  refine xw_iconst (v := 3) dL_law_616 (by decide) ?_
  refine xw_iaddN (b := 3) dL_law_617 ?_
  refine xw_ialdS dL_law_618 ?_ ?_
  · exact vp_in_nI (by omega) (by omega)
  refine xw_aload_n dL_law_619 rfl ?_
  refine xw_iload_n dL_law_620 rfl ?_
  refine xw_iconst (v := 4) dL_law_621 (by decide) ?_
  refine xw_iaddN (b := 4) dL_law_622 ?_
  refine xw_ialdS dL_law_623 ?_ ?_
  · exact vp_in_nI (by omega) (by omega)
  refine xw_cV4Q dL_law_624 okX7_guess ml_L_74 rfl rfl rfl rfl (pr_guess (g := g) (l := l) hI _ _ _ _) ?_
  rintro _ M1 ⟨w, rfl, h2⟩
  refine xw_aload_n dL_law_627 rfl ?_
  refine xw_aload_n dL_law_628 rfl ?_
  refine xw_iload_n dL_law_629 rfl ?_
  refine xw_iconst (v := 1) dL_law_630 (by decide) ?_
  refine xw_iaddN (b := 1) dL_law_631 ?_
  refine xw_ialdS dL_law_632 ?_ ?_
  · exact vp_in_nI (by omega) (by omega)
  refine xw_aload_n dL_law_633 rfl ?_
  refine xw_iload_n dL_law_634 rfl ?_
  refine xw_iconst (v := 2) dL_law_635 (by decide) ?_
  refine xw_iaddN (b := 2) dL_law_636 ?_
  refine xw_ialdS dL_law_637 ?_ ?_
  · exact vp_in_nI (by omega) (by omega)
  refine xw_aload_n dL_law_638 rfl ?_
  refine xw_iload_n dL_law_639 rfl ?_
  refine xw_iconst (v := 3) dL_law_640 (by decide) ?_
  refine xw_iaddN (b := 3) dL_law_641 ?_
  refine xw_ialdS dL_law_642 ?_ ?_
  · exact vp_in_nI (by omega) (by omega)
  refine xw_aload_n dL_law_643 rfl ?_
  refine xw_iload_n dL_law_644 rfl ?_
  refine xw_iconst (v := 4) dL_law_645 (by decide) ?_
  refine xw_iaddN (b := 4) dL_law_646 ?_
  refine xw_ialdS dL_law_647 ?_ ?_
  · exact vp_in_nI (by omega) (by omega)
  refine xw_cV4Q dL_law_648 okX8_guess ml_L_77 rfl rfl rfl rfl (h2) ?_
  rintro _ M2 ⟨rfl, hI2⟩
  refine xw_icmp_eq (tgt := 916) dL_law_651 (by decide) (fun c651 => ?_) (fun c651 => ?_)
  · exact K M2 hI2
  · exact absurd rfl c651
set_option maxRecDepth 20000 in
theorem lw_wanted {i : Nat} (hi : i + 6 ≤ g.2.2.2.2.1) (hL : g.2.2.2.2.1 ≤ 3072) (hI : Inv M) (K : ∀ M2, Inv M2 → XW g l mL_law 11 916 (lwL i) [] M2 lwQ) : XW g l mL_law 11 656 (lwL i) [] M lwQ := by
  refine xw_aload_n dL_law_656 rfl ?_
  refine xw_aload_n dL_law_657 rfl ?_
  refine xw_iload_n dL_law_658 rfl ?_
  refine xw_iconst (v := 1) dL_law_659 (by decide) ?_
  refine xw_iaddN (b := 1) dL_law_660 ?_
  refine xw_ialdS dL_law_661 ?_ ?_
  · exact vp_in_nI (by omega) (by omega)
  refine xw_aload_n dL_law_662 rfl ?_
  refine xw_iload_n dL_law_663 rfl ?_
  refine xw_iconst (v := 2) dL_law_664 (by decide) ?_
  refine xw_iaddN (b := 2) dL_law_665 ?_
  refine xw_ialdS dL_law_666 ?_ ?_
  · exact vp_in_nI (by omega) (by omega)
  refine xw_aload_n dL_law_667 rfl ?_
  refine xw_iload_n dL_law_668 rfl ?_
  refine xw_iconst (v := 3) dL_law_669 (by decide) ?_
  refine xw_iaddN (b := 3) dL_law_670 ?_
  refine xw_ialdS dL_law_671 ?_ ?_
  · exact vp_in_nI (by omega) (by omega)
  refine xw_cV3Q dL_law_672 okX7_wanted ml_L_78 rfl rfl rfl rfl (pr_wanted (g := g) (l := l) hI _ _ _) ?_
  rintro _ M1 ⟨w, rfl, h2⟩
  refine xw_aload_n dL_law_675 rfl ?_
  refine xw_aload_n dL_law_676 rfl ?_
  refine xw_iload_n dL_law_677 rfl ?_
  refine xw_iconst (v := 1) dL_law_678 (by decide) ?_
  refine xw_iaddN (b := 1) dL_law_679 ?_
  refine xw_ialdS dL_law_680 ?_ ?_
  · exact vp_in_nI (by omega) (by omega)
  refine xw_aload_n dL_law_681 rfl ?_
  refine xw_iload_n dL_law_682 rfl ?_
  refine xw_iconst (v := 2) dL_law_683 (by decide) ?_
  refine xw_iaddN (b := 2) dL_law_684 ?_
  refine xw_ialdS dL_law_685 ?_ ?_
  · exact vp_in_nI (by omega) (by omega)
  refine xw_aload_n dL_law_686 rfl ?_
  refine xw_iload_n dL_law_687 rfl ?_
  refine xw_iconst (v := 3) dL_law_688 (by decide) ?_
  refine xw_iaddN (b := 3) dL_law_689 ?_
  refine xw_ialdS dL_law_690 ?_ ?_
  · exact vp_in_nI (by omega) (by omega)
  refine xw_cV3Q dL_law_691 okX8_wanted ml_L_81 rfl rfl rfl rfl (h2) ?_
  rintro _ M2 ⟨rfl, hI2⟩
  refine xw_icmp_eq (tgt := 916) dL_law_694 (by decide) (fun c694 => ?_) (fun c694 => ?_)
  · exact K M2 hI2
  · exact absurd rfl c694
set_option maxRecDepth 20000 in
theorem lw_brook {i : Nat} (hi : i + 6 ≤ g.2.2.2.2.1) (hL : g.2.2.2.2.1 ≤ 3072) (hI : Inv M) (K : ∀ M2, Inv M2 → XW g l mL_law 11 916 (lwL i) [] M2 lwQ) : XW g l mL_law 11 699 (lwL i) [] M lwQ := by
  refine xw_aload_n dL_law_699 rfl ?_
  refine xw_aload_n dL_law_700 rfl ?_
  refine xw_iload_n dL_law_701 rfl ?_
  refine xw_iconst (v := 1) dL_law_702 (by decide) ?_
  refine xw_iaddN (b := 1) dL_law_703 ?_
  refine xw_ialdS dL_law_704 ?_ ?_
  · exact vp_in_nI (by omega) (by omega)
  refine xw_cV1Q dL_law_705 okX7_brook ml_L_82 rfl rfl rfl rfl (pr_brook (g := g) (l := l) hI _) ?_
  rintro _ M1 ⟨w, rfl, h2⟩
  refine xw_aload_n dL_law_708 rfl ?_
  refine xw_aload_n dL_law_709 rfl ?_
  refine xw_iload_n dL_law_710 rfl ?_
  refine xw_iconst (v := 1) dL_law_711 (by decide) ?_
  refine xw_iaddN (b := 1) dL_law_712 ?_
  refine xw_ialdS dL_law_713 ?_ ?_
  · exact vp_in_nI (by omega) (by omega)
  refine xw_cV1Q dL_law_714 okX8_brook ml_L_85 rfl rfl rfl rfl (h2) ?_
  rintro _ M2 ⟨rfl, hI2⟩
  refine xw_icmp_eq (tgt := 916) dL_law_717 (by decide) (fun c717 => ?_) (fun c717 => ?_)
  · exact K M2 hI2
  · exact absurd rfl c717
set_option maxRecDepth 20000 in
theorem lw_image {i : Nat} (hi : i + 6 ≤ g.2.2.2.2.1) (hL : g.2.2.2.2.1 ≤ 3072) (hI : Inv M) (K : ∀ M2, Inv M2 → XW g l mL_law 11 916 (lwL i) [] M2 lwQ) : XW g l mL_law 11 722 (lwL i) [] M lwQ := by
  refine xw_aload_n dL_law_722 rfl ?_
  refine xw_aload_n dL_law_723 rfl ?_
  refine xw_iload_n dL_law_724 rfl ?_
  refine xw_iconst (v := 1) dL_law_725 (by decide) ?_
  refine xw_iaddN (b := 1) dL_law_726 ?_
  refine xw_ialdS dL_law_727 ?_ ?_
  · exact vp_in_nI (by omega) (by omega)
  refine xw_cV1Q dL_law_728 okX7_image ml_L_86 rfl rfl rfl rfl (pr_image (g := g) (l := l) hI _) ?_
  rintro _ M1 ⟨w, rfl, h2⟩
  refine xw_aload_n dL_law_731 rfl ?_
  refine xw_aload_n dL_law_732 rfl ?_
  refine xw_iload_n dL_law_733 rfl ?_
  refine xw_iconst (v := 1) dL_law_734 (by decide) ?_
  refine xw_iaddN (b := 1) dL_law_735 ?_
  refine xw_ialdS dL_law_736 ?_ ?_
  · exact vp_in_nI (by omega) (by omega)
  refine xw_cV1Q dL_law_737 okX8_image ml_L_89 rfl rfl rfl rfl (h2) ?_
  rintro _ M2 ⟨rfl, hI2⟩
  refine xw_icmp_eq (tgt := 916) dL_law_740 (by decide) (fun c740 => ?_) (fun c740 => ?_)
  · exact K M2 hI2
  · exact absurd rfl c740
set_option maxRecDepth 20000 in
theorem lw_restore {i : Nat} (hi : i + 6 ≤ g.2.2.2.2.1) (hL : g.2.2.2.2.1 ≤ 3072) (hI : Inv M) (K : ∀ M2, Inv M2 → XW g l mL_law 11 916 (lwL i) [] M2 lwQ) : XW g l mL_law 11 745 (lwL i) [] M lwQ := by
  refine xw_aload_n dL_law_745 rfl ?_
  refine xw_aload_n dL_law_746 rfl ?_
  refine xw_iload_n dL_law_747 rfl ?_
  refine xw_iconst (v := 1) dL_law_748 (by decide) ?_
  refine xw_iaddN (b := 1) dL_law_749 ?_
  refine xw_ialdS dL_law_750 ?_ ?_
  · exact vp_in_nI (by omega) (by omega)
  refine xw_cV1Q dL_law_751 okX7_restore ml_L_90 rfl rfl rfl rfl (pr_restore (g := g) (l := l) hI _) ?_
  rintro _ M1 ⟨w, rfl, h2⟩
  refine xw_aload_n dL_law_754 rfl ?_
  refine xw_aload_n dL_law_755 rfl ?_
  refine xw_iload_n dL_law_756 rfl ?_
  refine xw_iconst (v := 1) dL_law_757 (by decide) ?_
  refine xw_iaddN (b := 1) dL_law_758 ?_
  refine xw_ialdS dL_law_759 ?_ ?_
  · exact vp_in_nI (by omega) (by omega)
  refine xw_cV1Q dL_law_760 okX8_restore ml_L_93 rfl rfl rfl rfl (h2) ?_
  rintro _ M2 ⟨rfl, hI2⟩
  refine xw_icmp_eq (tgt := 916) dL_law_763 (by decide) (fun c763 => ?_) (fun c763 => ?_)
  · exact K M2 hI2
  · exact absurd rfl c763
set_option maxRecDepth 20000 in
theorem lw_kind {i : Nat} (hi : i + 6 ≤ g.2.2.2.2.1) (hL : g.2.2.2.2.1 ≤ 3072) (hI : Inv M) (K : ∀ M2, Inv M2 → XW g l mL_law 11 916 (lwL i) [] M2 lwQ) : XW g l mL_law 11 768 (lwL i) [] M lwQ := by
  refine xw_aload_n dL_law_768 rfl ?_
  refine xw_aload_n dL_law_769 rfl ?_
  refine xw_iload_n dL_law_770 rfl ?_
  refine xw_iconst (v := 1) dL_law_771 (by decide) ?_
  refine xw_iaddN (b := 1) dL_law_772 ?_
  refine xw_ialdS dL_law_773 ?_ ?_
  · exact vp_in_nI (by omega) (by omega)
  refine xw_cV1Q dL_law_774 okX7_kind ml_L_94 rfl rfl rfl rfl (pr_kind (g := g) (l := l) hI _) ?_
  rintro _ M1 ⟨w, rfl, h2⟩
  refine xw_aload_n dL_law_777 rfl ?_
  refine xw_aload_n dL_law_778 rfl ?_
  refine xw_iload_n dL_law_779 rfl ?_
  refine xw_iconst (v := 1) dL_law_780 (by decide) ?_
  refine xw_iaddN (b := 1) dL_law_781 ?_
  refine xw_ialdS dL_law_782 ?_ ?_
  · exact vp_in_nI (by omega) (by omega)
  refine xw_cV1Q dL_law_783 okX8_kind ml_L_97 rfl rfl rfl rfl (h2) ?_
  rintro _ M2 ⟨rfl, hI2⟩
  refine xw_icmp_eq (tgt := 916) dL_law_786 (by decide) (fun c786 => ?_) (fun c786 => ?_)
  · exact K M2 hI2
  · exact absurd rfl c786
set_option maxRecDepth 20000 in
theorem lw_as {i : Nat} (hi : i + 6 ≤ g.2.2.2.2.1) (hL : g.2.2.2.2.1 ≤ 3072) (hI : Inv M) (K : ∀ M2, Inv M2 → XW g l mL_law 11 916 (lwL i) [] M2 lwQ) : XW g l mL_law 11 791 (lwL i) [] M lwQ := by
  refine xw_aload_n dL_law_791 rfl ?_
  refine xw_aload_n dL_law_792 rfl ?_
  refine xw_iload_n dL_law_793 rfl ?_
  refine xw_iconst (v := 1) dL_law_794 (by decide) ?_
  refine xw_iaddN (b := 1) dL_law_795 ?_
  refine xw_ialdS dL_law_796 ?_ ?_
  · exact vp_in_nI (by omega) (by omega)
  refine xw_aload_n dL_law_797 rfl ?_
  refine xw_iload_n dL_law_798 rfl ?_
  refine xw_iconst (v := 2) dL_law_799 (by decide) ?_
  refine xw_iaddN (b := 2) dL_law_800 ?_
  refine xw_ialdS dL_law_801 ?_ ?_
  · exact vp_in_nI (by omega) (by omega)
  refine xw_cV2Q dL_law_802 okX7_as ml_L_98 rfl rfl rfl rfl (pr_as (g := g) (l := l) hI _ _) ?_
  rintro _ M1 ⟨w, rfl, h2⟩
  refine xw_aload_n dL_law_805 rfl ?_
  refine xw_aload_n dL_law_806 rfl ?_
  refine xw_iload_n dL_law_807 rfl ?_
  refine xw_iconst (v := 1) dL_law_808 (by decide) ?_
  refine xw_iaddN (b := 1) dL_law_809 ?_
  refine xw_ialdS dL_law_810 ?_ ?_
  · exact vp_in_nI (by omega) (by omega)
  refine xw_aload_n dL_law_811 rfl ?_
  refine xw_iload_n dL_law_812 rfl ?_
  refine xw_iconst (v := 2) dL_law_813 (by decide) ?_
  refine xw_iaddN (b := 2) dL_law_814 ?_
  refine xw_ialdS dL_law_815 ?_ ?_
  · exact vp_in_nI (by omega) (by omega)
  refine xw_cV2Q dL_law_816 okX8_as ml_L_101 rfl rfl rfl rfl (h2) ?_
  rintro _ M2 ⟨rfl, hI2⟩
  refine xw_icmp_eq (tgt := 916) dL_law_819 (by decide) (fun c819 => ?_) (fun c819 => ?_)
  · exact K M2 hI2
  · exact absurd rfl c819
set_option maxRecDepth 20000 in
theorem lw_ask {i : Nat} (hi : i + 6 ≤ g.2.2.2.2.1) (hL : g.2.2.2.2.1 ≤ 3072) (hI : Inv M) (K : ∀ M2, Inv M2 → XW g l mL_law 11 916 (lwL i) [] M2 lwQ) : XW g l mL_law 11 824 (lwL i) [] M lwQ := by
  refine xw_aload_n dL_law_824 rfl ?_
  refine xw_aload_n dL_law_825 rfl ?_
  refine xw_iload_n dL_law_826 rfl ?_
  refine xw_iconst (v := 1) dL_law_827 (by decide) ?_
  refine xw_iaddN (b := 1) dL_law_828 ?_
  refine xw_ialdS dL_law_829 ?_ ?_
  · exact vp_in_nI (by omega) (by omega)
  refine xw_aload_n dL_law_830 rfl ?_
  refine xw_iload_n dL_law_831 rfl ?_
  refine xw_iconst (v := 2) dL_law_832 (by decide) ?_
  refine xw_iaddN (b := 2) dL_law_833 ?_
  refine xw_ialdS dL_law_834 ?_ ?_
  · exact vp_in_nI (by omega) (by omega)
  refine xw_cV2Q dL_law_835 okX7_ask ml_L_102 rfl rfl rfl rfl (pr_ask (g := g) (l := l) hI _ _) ?_
  rintro _ M1 ⟨w, rfl, h2⟩
  refine xw_aload_n dL_law_838 rfl ?_
  refine xw_aload_n dL_law_839 rfl ?_
  refine xw_iload_n dL_law_840 rfl ?_
  refine xw_iconst (v := 1) dL_law_841 (by decide) ?_
  refine xw_iaddN (b := 1) dL_law_842 ?_
  refine xw_ialdS dL_law_843 ?_ ?_
  · exact vp_in_nI (by omega) (by omega)
  refine xw_aload_n dL_law_844 rfl ?_
  refine xw_iload_n dL_law_845 rfl ?_
  refine xw_iconst (v := 2) dL_law_846 (by decide) ?_
  refine xw_iaddN (b := 2) dL_law_847 ?_
  refine xw_ialdS dL_law_848 ?_ ?_
  · exact vp_in_nI (by omega) (by omega)
  refine xw_cV2Q dL_law_849 okX8_ask ml_L_105 rfl rfl rfl rfl (h2) ?_
  rintro _ M2 ⟨rfl, hI2⟩
  refine xw_icmp_eq (tgt := 916) dL_law_852 (by decide) (fun c852 => ?_) (fun c852 => ?_)
  · exact K M2 hI2
  · exact absurd rfl c852
set_option maxRecDepth 20000 in
theorem lw_trace {i : Nat} (hi : i + 6 ≤ g.2.2.2.2.1) (hL : g.2.2.2.2.1 ≤ 3072) (hI : Inv M) (K : ∀ M2, Inv M2 → XW g l mL_law 11 916 (lwL i) [] M2 lwQ) : XW g l mL_law 11 857 (lwL i) [] M lwQ := by
  refine xw_aload_n dL_law_857 rfl ?_
  refine xw_aload_n dL_law_858 rfl ?_
  refine xw_iload_n dL_law_859 rfl ?_
  refine xw_iconst (v := 1) dL_law_860 (by decide) ?_
  refine xw_iaddN (b := 1) dL_law_861 ?_
  refine xw_ialdS dL_law_862 ?_ ?_
  · exact vp_in_nI (by omega) (by omega)
  refine xw_cV1Q dL_law_863 okX7_trace ml_L_106 rfl rfl rfl rfl (pr_trace (g := g) (l := l) hI _) ?_
  rintro _ M1 ⟨w, rfl, h2⟩
  refine xw_aload_n dL_law_866 rfl ?_
  refine xw_aload_n dL_law_867 rfl ?_
  refine xw_iload_n dL_law_868 rfl ?_
  refine xw_iconst (v := 1) dL_law_869 (by decide) ?_
  refine xw_iaddN (b := 1) dL_law_870 ?_
  refine xw_ialdS dL_law_871 ?_ ?_
  · exact vp_in_nI (by omega) (by omega)
  refine xw_cV1Q dL_law_872 okX8_trace ml_L_109 rfl rfl rfl rfl (h2) ?_
  rintro _ M2 ⟨rfl, hI2⟩
  refine xw_icmp_eq (tgt := 916) dL_law_875 (by decide) (fun c875 => ?_) (fun c875 => ?_)
  · exact K M2 hI2
  · exact absurd rfl c875
set_option maxRecDepth 20000 in
theorem lw_count {i : Nat} (hi : i + 6 ≤ g.2.2.2.2.1) (hL : g.2.2.2.2.1 ≤ 3072) (hI : Inv M) (K : ∀ M2, Inv M2 → XW g l mL_law 11 916 (lwL i) [] M2 lwQ) : XW g l mL_law 11 880 (lwL i) [] M lwQ := by
  refine xw_aload_n dL_law_880 rfl ?_
  refine xw_aload_n dL_law_881 rfl ?_
  refine xw_iload_n dL_law_882 rfl ?_
  refine xw_iconst (v := 1) dL_law_883 (by decide) ?_
  refine xw_iaddN (b := 1) dL_law_884 ?_
  refine xw_ialdS dL_law_885 ?_ ?_
  · exact vp_in_nI (by omega) (by omega)
  refine xw_cV1Q dL_law_886 okX7_count ml_L_110 rfl rfl rfl rfl (pr_count (g := g) (l := l) hI _) ?_
  rintro _ M1 ⟨w, rfl, h2⟩
  refine xw_aload_n dL_law_889 rfl ?_
  refine xw_aload_n dL_law_890 rfl ?_
  refine xw_iload_n dL_law_891 rfl ?_
  refine xw_iconst (v := 1) dL_law_892 (by decide) ?_
  refine xw_iaddN (b := 1) dL_law_893 ?_
  refine xw_ialdS dL_law_894 ?_ ?_
  · exact vp_in_nI (by omega) (by omega)
  refine xw_cV1Q dL_law_895 okX8_count ml_L_113 rfl rfl rfl rfl (h2) ?_
  rintro _ M2 ⟨rfl, hI2⟩
  refine xw_icmp_eq (tgt := 916) dL_law_898 (by decide) (fun c898 => ?_) (fun c898 => ?_)
  · exact K M2 hI2
  · exact absurd rfl c898
set_option maxRecDepth 20000 in
theorem lw_status {i : Nat} (hi : i + 6 ≤ g.2.2.2.2.1) (hL : g.2.2.2.2.1 ≤ 3072) (hI : Inv M) (K : ∀ M2, Inv M2 → XW g l mL_law 11 916 (lwL i) [] M2 lwQ) : XW g l mL_law 11 903 (lwL i) [] M lwQ := by
  refine xw_aload_n dL_law_903 rfl ?_
  refine xw_cV0Q dL_law_904 okX7_status ml_L_114 rfl rfl rfl rfl (pr_status (g := g) (l := l) hI) ?_
  rintro _ M1 ⟨w, rfl, h2⟩
  refine xw_aload_n dL_law_907 rfl ?_
  refine xw_cV0Q dL_law_908 okX8_status ml_L_117 rfl rfl rfl rfl (h2) ?_
  rintro _ M2 ⟨rfl, hI2⟩
  refine xw_icmp_eq (tgt := 916) dL_law_911 (by decide) (fun c911 => ?_) (fun c911 => ?_)
  · exact K M2 hI2
  · exact absurd rfl c911
set_option maxRecDepth 20000 in
theorem law_loop (hL : g.2.2.2.2.1 ≤ 3072) : ∀ (q i : Nat) (M : XM), g.2.2.2.2.1 + 7 ≤ i + q → i ≤ g.2.2.2.2.1 → Inv M → XW g l mL_law 11 18 (lwL i) [] M lwQ := by
  intro q
  induction q with
  | zero => intro i M hq hb hI; omega
  | succ q ih =>
    intro i M hq hb hI
    have hLI : (Int32.ofNat g.2.2.2.2.1 - 6).toInt = (g.2.2.2.2.1 : Int) - 6 := by
      have e6 : (6 : Int32).toInt = 6 := by decide
      have eL : (Int32.ofNat g.2.2.2.2.1).toInt = (g.2.2.2.2.1 : Int) := nI_toInt (by omega)
      rw [fb_subI] <;> rw [eL, e6] <;> omega
    have hii : (nI i).toInt = (i : Int) := nI_toInt (by omega)
    refine xw_iload_n dL_law_18 rfl ?_
    refine xw_aload_n dL_law_19 rfl ?_
    refine xw_alenS dL_law_20 ?_
    refine xw_bipush (v := 6) dL_law_21 (by decide) ?_
    refine xw_isub dL_law_23 ?_
    refine xw_icmp_gt (tgt := 922) dL_law_24 (by decide) (fun c24 => ?_) (fun c24 => ?_)
    · refine xw_iconst (v := 1) dL_law_922 (by decide) ?_
      exact xw_iretz dL_law_923 rfl (Or.inr rfl) rfl
    · rw [fa_lt, hLI, hii] at c24
      have hi : i + 6 ≤ g.2.2.2.2.1 := by omega
      have K : ∀ M2, Inv M2 → XW g l mL_law 11 916 (lwL i) [] M2 lwQ := by
        intro M2 hI2
        refine xw_iincN (v := 6) dL_law_916 (by decide) rfl rfl rfl ?_
        refine xw_goto (tgt := 18) dL_law_919 (by decide) ?_
        exact ih (i + 6) M2 (by omega) (by omega) hI2
      refine xw_aload_n dL_law_27 rfl ?_
      refine xw_iload_n dL_law_28 rfl ?_
      refine xw_ialdS dL_law_29 ?_ ?_
      · exact vp_in_nI (by omega) (by omega)
      refine xw_bipush (v := 31) dL_law_30 (by decide) ?_
      refine xw_iand dL_law_32 ?_
      obtain ⟨c, hc, ec⟩ := pk_andE (g.2.2.2.2.2 (nI i).toNatClampNeg) (m := 31) 5 (by decide)
      rw [ec]
      have hc : c < 32 := hc
      by_cases h24 : 24 ≤ c
      · exact xw_tabOut (tgt := 916) dL_law_33 (by rw [nI_toInt (by omega)]; omega) (by decide) (K M hI)
      rcases (show c = 0 ∨ c = 1 ∨ c = 2 ∨ c = 3 ∨ c = 4 ∨ c = 5 ∨ c = 6 ∨ c = 7 ∨ c = 8 ∨ c = 9 ∨ c = 10 ∨ c = 11 ∨ c = 12 ∨ c = 13 ∨ c = 14 ∨ c = 15 ∨ c = 16 ∨ c = 17 ∨ c = 18 ∨ c = 19 ∨ c = 20 ∨ c = 21 ∨ c = 22 ∨ c = 23 by omega) with rfl | rfl | rfl | rfl | rfl | rfl | rfl | rfl | rfl | rfl | rfl | rfl | rfl | rfl | rfl | rfl | rfl | rfl | rfl | rfl | rfl | rfl | rfl | rfl
      · exact xw_tabIn (off := 111) (tgt := 144) dL_law_33 (by decide) (by decide) (by decide) (by decide) (lw_row hi hL hI K)
      · exact xw_tabIn (off := 154) (tgt := 187) dL_law_33 (by decide) (by decide) (by decide) (by decide) (lw_set hi hL hI K)
      · exact xw_tabIn (off := 197) (tgt := 230) dL_law_33 (by decide) (by decide) (by decide) (by decide) (lw_copy hi hL hI K)
      · exact xw_tabIn (off := 260) (tgt := 293) dL_law_33 (by decide) (by decide) (by decide) (by decide) (lw_drop hi hL hI K)
      · exact xw_tabIn (off := 283) (tgt := 316) dL_law_33 (by decide) (by decide) (by decide) (by decide) (lw_feed hi hL hI K)
      · exact xw_tabIn (off := 346) (tgt := 379) dL_law_33 (by decide) (by decide) (by decide) (by decide) (lw_field hi hL hI K)
      · exact xw_tabIn (off := 359) (tgt := 392) dL_law_33 (by decide) (by decide) (by decide) (by decide) (lw_fault hi hL hI K)
      · exact xw_tabIn (off := 372) (tgt := 405) dL_law_33 (by decide) (by decide) (by decide) (by decide) (lw_say hi hL hI K)
      · exact xw_tabIn (off := 405) (tgt := 438) dL_law_33 (by decide) (by decide) (by decide) (by decide) (lw_talk hi hL hI K)
      · exact xw_tabIn (off := 448) (tgt := 481) dL_law_33 (by decide) (by decide) (by decide) (by decide) (lw_undo hi hL hI K)
      · exact xw_tabIn (off := 461) (tgt := 494) dL_law_33 (by decide) (by decide) (by decide) (by decide) (lw_house hi hL hI K)
      · exact xw_tabIn (off := 494) (tgt := 527) dL_law_33 (by decide) (by decide) (by decide) (by decide) (lw_cell hi hL hI K)
      · exact xw_tabIn (off := 517) (tgt := 550) dL_law_33 (by decide) (by decide) (by decide) (by decide) (lw_lies hi hL hI K)
      · exact xw_tabIn (off := 570) (tgt := 603) dL_law_33 (by decide) (by decide) (by decide) (by decide) (lw_guess hi hL hI K)
      · exact xw_tabIn (off := 623) (tgt := 656) dL_law_33 (by decide) (by decide) (by decide) (by decide) (lw_wanted hi hL hI K)
      · exact xw_tabIn (off := 666) (tgt := 699) dL_law_33 (by decide) (by decide) (by decide) (by decide) (lw_brook hi hL hI K)
      · exact xw_tabIn (off := 689) (tgt := 722) dL_law_33 (by decide) (by decide) (by decide) (by decide) (lw_image hi hL hI K)
      · exact xw_tabIn (off := 712) (tgt := 745) dL_law_33 (by decide) (by decide) (by decide) (by decide) (lw_restore hi hL hI K)
      · exact xw_tabIn (off := 735) (tgt := 768) dL_law_33 (by decide) (by decide) (by decide) (by decide) (lw_kind hi hL hI K)
      · exact xw_tabIn (off := 758) (tgt := 791) dL_law_33 (by decide) (by decide) (by decide) (by decide) (lw_as hi hL hI K)
      · exact xw_tabIn (off := 791) (tgt := 824) dL_law_33 (by decide) (by decide) (by decide) (by decide) (lw_ask hi hL hI K)
      · exact xw_tabIn (off := 824) (tgt := 857) dL_law_33 (by decide) (by decide) (by decide) (by decide) (lw_trace hi hL hI K)
      · exact xw_tabIn (off := 847) (tgt := 880) dL_law_33 (by decide) (by decide) (by decide) (by decide) (lw_count hi hL hI K)
      · exact xw_tabIn (off := 870) (tgt := 903) dL_law_33 (by decide) (by decide) (by decide) (by decide) (lw_status hi hL hI K)
end LAWLOOP
