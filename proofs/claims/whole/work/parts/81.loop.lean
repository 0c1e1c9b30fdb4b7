/-- what is still owed of plan, planned, days -/
def OpenH : Prop := (∀ M, Inv M → ∀ x : Int32, Good M [.int x] 18 yX8_plan cX8_plan 2 .int 5 yX9_plan cX9_plan 2 .int) ∧ (∀ M, Inv M → ∀ x : Int32, Good M [.int x] 18 yX8_planned cX8_planned 3 .int 5 yX9_planned cX9_planned 4 .int) ∧ (∀ M, Inv M → ∀ x : Int32, Good M [.int x] 19 yX8_days cX8_days 3 .int 5 yX9_days cX9_days 3 .int)
set_option maxRecDepth 100000 in
set_option maxHeartbeats 1000000 in
theorem cs_village {b L : Nat} {xs : Nat → Int32} {G : gJ} (hG : gSl b L xs G) (hL : L ≤ 3584) {M : gM} (hI : Inv M) {i : Nat} (hi : i + 7 ≤ L) {c s : Nat} (hc : c + 1 ≤ 601024) (hs : s + 6 ≤ 7293034) {x5 x6 : Option Value} (hT : ∀ M2 c2 s2 x5 x6, Inv M2 → c2 ≤ c + 1 → s2 ≤ s + 6 → G (140, c2, s2) 1022 [some (.ref 3000), some (.ref 0), some (.ref 88), some (.ref 139), some (.int (nI i)), x5, x6] [] M2) : G (140, c, s) 140 [some (.ref 3000), some (.ref 0), some (.ref 88), some (.ref 139), some (.int (nI i)), x5, x6] [] M := by
  have hS := hG.s
  refine r_aload_n hS dL_law_140 rfl ?_
  refine r_aload_n hS dL_law_141 rfl ?_
  refine r_iload hS dL_law_142 rfl ?_
  refine r_iconst hS (1) dL_law_144 (by decide) ?_
  refine r_iadd hS dL_law_145 ?_
  refine r_top (nI (i + 1)) (nI_add i 1) ?_
  refine r_sld hG (i + 1) dL_law_146 rfl (by omega) hL ?_
  refine r_aload_n hS dL_law_147 rfl ?_
  refine r_iload hS dL_law_148 rfl ?_
  refine r_iconst hS (2) dL_law_150 (by decide) ?_
  refine r_iadd hS dL_law_151 ?_
  refine r_top (nI (i + 2)) (nI_add i 2) ?_
  refine r_sld hG (i + 2) dL_law_152 rfl (by omega) hL ?_
  refine r_aload_n hS dL_law_153 rfl ?_
  refine r_iload hS dL_law_154 rfl ?_
  refine r_iconst hS (3) dL_law_156 (by decide) ?_
  refine r_iadd hS dL_law_157 ?_
  refine r_top (nI (i + 3)) (nI_add i 3) ?_
  refine r_sld hG (i + 3) dL_law_158 rfl (by omega) hL ?_
  refine r_aload_n hS dL_law_159 rfl ?_
  refine r_iload hS dL_law_160 rfl ?_
  refine r_iconst hS (4) dL_law_162 (by decide) ?_
  refine r_iadd hS dL_law_163 ?_
  refine r_top (nI (i + 4)) (nI_add i 4) ?_
  refine r_sld hG (i + 4) dL_law_164 rfl (by omega) hL ?_
  obtain ⟨P1, hC1, hk1⟩ := good_village hI (xs (i + 1)) (xs (i + 2)) (xs (i + 3)) (xs (i + 4))
  refine r_cVI4 hS mk_L_19 dL_law_165 rfl (show 0 < 140 by decide) hC1 (by decide) ⟨show c ≤ 601024 by omega, show s ≤ 7293034 by omega⟩ (Nat.le_of_ble_eq_true rfl) (fun x1 M1 h1 => ?_)
  obtain ⟨P2, hC2, hk2⟩ := hk1 x1 M1 h1
  refine r_aload_n hS dL_law_168 rfl ?_
  refine r_aload_n hS dL_law_169 rfl ?_
  refine r_iload hS dL_law_170 rfl ?_
  refine r_iconst hS (1) dL_law_172 (by decide) ?_
  refine r_iadd hS dL_law_173 ?_
  refine r_top (nI (i + 1)) (nI_add i 1) ?_
  refine r_sld hG (i + 1) dL_law_174 rfl (by omega) hL ?_
  refine r_aload_n hS dL_law_175 rfl ?_
  refine r_iload hS dL_law_176 rfl ?_
  refine r_iconst hS (2) dL_law_178 (by decide) ?_
  refine r_iadd hS dL_law_179 ?_
  refine r_top (nI (i + 2)) (nI_add i 2) ?_
  refine r_sld hG (i + 2) dL_law_180 rfl (by omega) hL ?_
  refine r_aload_n hS dL_law_181 rfl ?_
  refine r_iload hS dL_law_182 rfl ?_
  refine r_iconst hS (3) dL_law_184 (by decide) ?_
  refine r_iadd hS dL_law_185 ?_
  refine r_top (nI (i + 3)) (nI_add i 3) ?_
  refine r_sld hG (i + 3) dL_law_186 rfl (by omega) hL ?_
  refine r_aload_n hS dL_law_187 rfl ?_
  refine r_iload hS dL_law_188 rfl ?_
  refine r_iconst hS (4) dL_law_190 (by decide) ?_
  refine r_iadd hS dL_law_191 ?_
  refine r_top (nI (i + 4)) (nI_add i 4) ?_
  refine r_sld hG (i + 4) dL_law_192 rfl (by omega) hL ?_
  refine r_cVI4 hS mk_L_23 dL_law_193 rfl (show 88 < 140 by decide) hC2 (by decide) ⟨show c ≤ 601024 by omega, show s ≤ 7293034 by omega⟩ (Nat.le_of_ble_eq_true rfl) (fun x2 M2 h2 => ?_)
  obtain ⟨e, hI2⟩ := hk2 x2 M2 h2
  exact r_icmp_eq hS 1022 dL_law_196 (by decide) (fun _ => hT M2 c s x5 x6 hI2 (by omega) (by omega)) (fun hc => absurd e hc)

set_option maxRecDepth 100000 in
set_option maxHeartbeats 1000000 in
theorem cs_spring {b L : Nat} {xs : Nat → Int32} {G : gJ} (hG : gSl b L xs G) (hL : L ≤ 3584) {M : gM} (hI : Inv M) {i : Nat} (hi : i + 7 ≤ L) {c s : Nat} (hc : c + 1 ≤ 601024) (hs : s + 6 ≤ 7293034) {x5 x6 : Option Value} (hT : ∀ M2 c2 s2 x5 x6, Inv M2 → c2 ≤ c + 1 → s2 ≤ s + 6 → G (140, c2, s2) 1022 [some (.ref 3000), some (.ref 0), some (.ref 88), some (.ref 139), some (.int (nI i)), x5, x6] [] M2) : G (140, c, s) 201 [some (.ref 3000), some (.ref 0), some (.ref 88), some (.ref 139), some (.int (nI i)), x5, x6] [] M := by
  have hS := hG.s
  refine r_aload_n hS dL_law_201 rfl ?_
  refine r_aload_n hS dL_law_202 rfl ?_
  refine r_iload hS dL_law_203 rfl ?_
  refine r_iconst hS (1) dL_law_205 (by decide) ?_
  refine r_iadd hS dL_law_206 ?_
  refine r_top (nI (i + 1)) (nI_add i 1) ?_
  refine r_sld hG (i + 1) dL_law_207 rfl (by omega) hL ?_
  refine r_aload_n hS dL_law_208 rfl ?_
  refine r_iload hS dL_law_209 rfl ?_
  refine r_iconst hS (2) dL_law_211 (by decide) ?_
  refine r_iadd hS dL_law_212 ?_
  refine r_top (nI (i + 2)) (nI_add i 2) ?_
  refine r_sld hG (i + 2) dL_law_213 rfl (by omega) hL ?_
  refine r_aload_n hS dL_law_214 rfl ?_
  refine r_iload hS dL_law_215 rfl ?_
  refine r_iconst hS (3) dL_law_217 (by decide) ?_
  refine r_iadd hS dL_law_218 ?_
  refine r_top (nI (i + 3)) (nI_add i 3) ?_
  refine r_sld hG (i + 3) dL_law_219 rfl (by omega) hL ?_
  obtain ⟨P1, hC1, hk1⟩ := good_spring hI (xs (i + 1)) (xs (i + 2)) (xs (i + 3))
  refine r_cVI3 hS mk_L_24 dL_law_220 rfl (show 0 < 140 by decide) hC1 (by decide) ⟨show c ≤ 601024 by omega, show s ≤ 7293034 by omega⟩ (Nat.le_of_ble_eq_true rfl) (fun x1 M1 h1 => ?_)
  obtain ⟨P2, hC2, hk2⟩ := hk1 x1 M1 h1
  refine r_aload_n hS dL_law_223 rfl ?_
  refine r_aload_n hS dL_law_224 rfl ?_
  refine r_iload hS dL_law_225 rfl ?_
  refine r_iconst hS (1) dL_law_227 (by decide) ?_
  refine r_iadd hS dL_law_228 ?_
  refine r_top (nI (i + 1)) (nI_add i 1) ?_
  refine r_sld hG (i + 1) dL_law_229 rfl (by omega) hL ?_
  refine r_aload_n hS dL_law_230 rfl ?_
  refine r_iload hS dL_law_231 rfl ?_
  refine r_iconst hS (2) dL_law_233 (by decide) ?_
  refine r_iadd hS dL_law_234 ?_
  refine r_top (nI (i + 2)) (nI_add i 2) ?_
  refine r_sld hG (i + 2) dL_law_235 rfl (by omega) hL ?_
  refine r_aload_n hS dL_law_236 rfl ?_
  refine r_iload hS dL_law_237 rfl ?_
  refine r_iconst hS (3) dL_law_239 (by decide) ?_
  refine r_iadd hS dL_law_240 ?_
  refine r_top (nI (i + 3)) (nI_add i 3) ?_
  refine r_sld hG (i + 3) dL_law_241 rfl (by omega) hL ?_
  refine r_cVI3 hS mk_L_28 dL_law_242 rfl (show 88 < 140 by decide) hC2 (by decide) ⟨show c ≤ 601024 by omega, show s ≤ 7293034 by omega⟩ (Nat.le_of_ble_eq_true rfl) (fun x2 M2 h2 => ?_)
  obtain ⟨e, hI2⟩ := hk2 x2 M2 h2
  exact r_icmp_eq hS 1022 dL_law_245 (by decide) (fun _ => hT M2 c s x5 x6 hI2 (by omega) (by omega)) (fun hc => absurd e hc)

set_option maxRecDepth 100000 in
set_option maxHeartbeats 1000000 in
theorem cs_tanker {b L : Nat} {xs : Nat → Int32} {G : gJ} (hG : gSl b L xs G) (hL : L ≤ 3584) {M : gM} (hI : Inv M) {i : Nat} (hi : i + 7 ≤ L) {c s : Nat} (hc : c + 1 ≤ 601024) (hs : s + 6 ≤ 7293034) {x5 x6 : Option Value} (hT : ∀ M2 c2 s2 x5 x6, Inv M2 → c2 ≤ c + 1 → s2 ≤ s + 6 → G (140, c2, s2) 1022 [some (.ref 3000), some (.ref 0), some (.ref 88), some (.ref 139), some (.int (nI i)), x5, x6] [] M2) : G (140, c, s) 250 [some (.ref 3000), some (.ref 0), some (.ref 88), some (.ref 139), some (.int (nI i)), x5, x6] [] M := by
  have hS := hG.s
  refine r_aload_n hS dL_law_250 rfl ?_
  refine r_aload_n hS dL_law_251 rfl ?_
  refine r_iload hS dL_law_252 rfl ?_
  refine r_iconst hS (1) dL_law_254 (by decide) ?_
  refine r_iadd hS dL_law_255 ?_
  refine r_top (nI (i + 1)) (nI_add i 1) ?_
  refine r_sld hG (i + 1) dL_law_256 rfl (by omega) hL ?_
  refine r_aload_n hS dL_law_257 rfl ?_
  refine r_iload hS dL_law_258 rfl ?_
  refine r_iconst hS (2) dL_law_260 (by decide) ?_
  refine r_iadd hS dL_law_261 ?_
  refine r_top (nI (i + 2)) (nI_add i 2) ?_
  refine r_sld hG (i + 2) dL_law_262 rfl (by omega) hL ?_
  refine r_aload_n hS dL_law_263 rfl ?_
  refine r_iload hS dL_law_264 rfl ?_
  refine r_iconst hS (3) dL_law_266 (by decide) ?_
  refine r_iadd hS dL_law_267 ?_
  refine r_top (nI (i + 3)) (nI_add i 3) ?_
  refine r_sld hG (i + 3) dL_law_268 rfl (by omega) hL ?_
  obtain ⟨P1, hC1, hk1⟩ := good_tanker hI (xs (i + 1)) (xs (i + 2)) (xs (i + 3))
  refine r_cVI3 hS mk_L_29 dL_law_269 rfl (show 0 < 140 by decide) hC1 (by decide) ⟨show c ≤ 601024 by omega, show s ≤ 7293034 by omega⟩ (Nat.le_of_ble_eq_true rfl) (fun x1 M1 h1 => ?_)
  obtain ⟨P2, hC2, hk2⟩ := hk1 x1 M1 h1
  refine r_aload_n hS dL_law_272 rfl ?_
  refine r_aload_n hS dL_law_273 rfl ?_
  refine r_iload hS dL_law_274 rfl ?_
  refine r_iconst hS (1) dL_law_276 (by decide) ?_
  refine r_iadd hS dL_law_277 ?_
  refine r_top (nI (i + 1)) (nI_add i 1) ?_
  refine r_sld hG (i + 1) dL_law_278 rfl (by omega) hL ?_
  refine r_aload_n hS dL_law_279 rfl ?_
  refine r_iload hS dL_law_280 rfl ?_
  refine r_iconst hS (2) dL_law_282 (by decide) ?_
  refine r_iadd hS dL_law_283 ?_
  refine r_top (nI (i + 2)) (nI_add i 2) ?_
  refine r_sld hG (i + 2) dL_law_284 rfl (by omega) hL ?_
  refine r_aload_n hS dL_law_285 rfl ?_
  refine r_iload hS dL_law_286 rfl ?_
  refine r_iconst hS (3) dL_law_288 (by decide) ?_
  refine r_iadd hS dL_law_289 ?_
  refine r_top (nI (i + 3)) (nI_add i 3) ?_
  refine r_sld hG (i + 3) dL_law_290 rfl (by omega) hL ?_
  refine r_cVI3 hS mk_L_32 dL_law_291 rfl (show 88 < 140 by decide) hC2 (by decide) ⟨show c ≤ 601024 by omega, show s ≤ 7293034 by omega⟩ (Nat.le_of_ble_eq_true rfl) (fun x2 M2 h2 => ?_)
  obtain ⟨e, hI2⟩ := hk2 x2 M2 h2
  exact r_icmp_eq hS 1022 dL_law_294 (by decide) (fun _ => hT M2 c s x5 x6 hI2 (by omega) (by omega)) (fun hc => absurd e hc)

set_option maxRecDepth 100000 in
set_option maxHeartbeats 1000000 in
theorem cs_way {b L : Nat} {xs : Nat → Int32} {G : gJ} (hG : gSl b L xs G) (hL : L ≤ 3584) {M : gM} (hI : Inv M) {i : Nat} (hi : i + 7 ≤ L) {c s : Nat} (hc : c + 1 ≤ 601024) (hs : s + 6 ≤ 7293034) {x5 x6 : Option Value} (hT : ∀ M2 c2 s2 x5 x6, Inv M2 → c2 ≤ c + 1 → s2 ≤ s + 6 → G (140, c2, s2) 1022 [some (.ref 3000), some (.ref 0), some (.ref 88), some (.ref 139), some (.int (nI i)), x5, x6] [] M2) : G (140, c, s) 299 [some (.ref 3000), some (.ref 0), some (.ref 88), some (.ref 139), some (.int (nI i)), x5, x6] [] M := by
  have hS := hG.s
  refine r_aload_n hS dL_law_299 rfl ?_
  refine r_aload_n hS dL_law_300 rfl ?_
  refine r_iload hS dL_law_301 rfl ?_
  refine r_iconst hS (1) dL_law_303 (by decide) ?_
  refine r_iadd hS dL_law_304 ?_
  refine r_top (nI (i + 1)) (nI_add i 1) ?_
  refine r_sld hG (i + 1) dL_law_305 rfl (by omega) hL ?_
  refine r_aload_n hS dL_law_306 rfl ?_
  refine r_iload hS dL_law_307 rfl ?_
  refine r_iconst hS (2) dL_law_309 (by decide) ?_
  refine r_iadd hS dL_law_310 ?_
  refine r_top (nI (i + 2)) (nI_add i 2) ?_
  refine r_sld hG (i + 2) dL_law_311 rfl (by omega) hL ?_
  refine r_aload_n hS dL_law_312 rfl ?_
  refine r_iload hS dL_law_313 rfl ?_
  refine r_iconst hS (3) dL_law_315 (by decide) ?_
  refine r_iadd hS dL_law_316 ?_
  refine r_top (nI (i + 3)) (nI_add i 3) ?_
  refine r_sld hG (i + 3) dL_law_317 rfl (by omega) hL ?_
  obtain ⟨P1, hC1, hk1⟩ := good_way hI (xs (i + 1)) (xs (i + 2)) (xs (i + 3))
  refine r_cVI3 hS mk_L_33 dL_law_318 rfl (show 0 < 140 by decide) hC1 (by decide) ⟨show c ≤ 601024 by omega, show s ≤ 7293034 by omega⟩ (Nat.le_of_ble_eq_true rfl) (fun x1 M1 h1 => ?_)
  obtain ⟨P2, hC2, hk2⟩ := hk1 x1 M1 h1
  refine r_aload_n hS dL_law_321 rfl ?_
  refine r_aload_n hS dL_law_322 rfl ?_
  refine r_iload hS dL_law_323 rfl ?_
  refine r_iconst hS (1) dL_law_325 (by decide) ?_
  refine r_iadd hS dL_law_326 ?_
  refine r_top (nI (i + 1)) (nI_add i 1) ?_
  refine r_sld hG (i + 1) dL_law_327 rfl (by omega) hL ?_
  refine r_aload_n hS dL_law_328 rfl ?_
  refine r_iload hS dL_law_329 rfl ?_
  refine r_iconst hS (2) dL_law_331 (by decide) ?_
  refine r_iadd hS dL_law_332 ?_
  refine r_top (nI (i + 2)) (nI_add i 2) ?_
  refine r_sld hG (i + 2) dL_law_333 rfl (by omega) hL ?_
  refine r_aload_n hS dL_law_334 rfl ?_
  refine r_iload hS dL_law_335 rfl ?_
  refine r_iconst hS (3) dL_law_337 (by decide) ?_
  refine r_iadd hS dL_law_338 ?_
  refine r_top (nI (i + 3)) (nI_add i 3) ?_
  refine r_sld hG (i + 3) dL_law_339 rfl (by omega) hL ?_
  refine r_cVI3 hS mk_L_37 dL_law_340 rfl (show 88 < 140 by decide) hC2 (by decide) ⟨show c ≤ 601024 by omega, show s ≤ 7293034 by omega⟩ (Nat.le_of_ble_eq_true rfl) (fun x2 M2 h2 => ?_)
  obtain ⟨e, hI2⟩ := hk2 x2 M2 h2
  exact r_icmp_eq hS 1022 dL_law_343 (by decide) (fun _ => hT M2 c s x5 x6 hI2 (by omega) (by omega)) (fun hc => absurd e hc)

set_option maxRecDepth 100000 in
set_option maxHeartbeats 1000000 in
theorem cs_feed {b L : Nat} {xs : Nat → Int32} {G : gJ} (hG : gSl b L xs G) (hL : L ≤ 3584) {M : gM} (hI : Inv M) {i : Nat} (hi : i + 7 ≤ L) {c s : Nat} (hc : c + 1 ≤ 601024) (hs : s + 6 ≤ 7293034) {x5 x6 : Option Value} (hT : ∀ M2 c2 s2 x5 x6, Inv M2 → c2 ≤ c + 1 → s2 ≤ s + 6 → G (140, c2, s2) 1022 [some (.ref 3000), some (.ref 0), some (.ref 88), some (.ref 139), some (.int (nI i)), x5, x6] [] M2) : G (140, c, s) 348 [some (.ref 3000), some (.ref 0), some (.ref 88), some (.ref 139), some (.int (nI i)), x5, x6] [] M := by
  have hS := hG.s
  refine r_aload_n hS dL_law_348 rfl ?_
  refine r_aload_n hS dL_law_349 rfl ?_
  refine r_iload hS dL_law_350 rfl ?_
  refine r_iconst hS (1) dL_law_352 (by decide) ?_
  refine r_iadd hS dL_law_353 ?_
  refine r_top (nI (i + 1)) (nI_add i 1) ?_
  refine r_sld hG (i + 1) dL_law_354 rfl (by omega) hL ?_
  refine r_i2l hS dL_law_355 ?_
  refine r_bipush hS (32) dL_law_356 (by decide) ?_
  refine r_lshl hS dL_law_358 ?_
  refine r_aload_n hS dL_law_359 rfl ?_
  refine r_iload hS dL_law_360 rfl ?_
  refine r_iconst hS (2) dL_law_362 (by decide) ?_
  refine r_iadd hS dL_law_363 ?_
  refine r_top (nI (i + 2)) (nI_add i 2) ?_
  refine r_sld hG (i + 2) dL_law_364 rfl (by omega) hL ?_
  refine r_i2l hS dL_law_365 ?_
  refine r_ldc2 hS (4294967295) dL_law_366 ck_L_38 ?_
  refine r_land hS dL_law_369 ?_
  refine r_lor hS dL_law_370 ?_
  refine r_aload_n hS dL_law_371 rfl ?_
  refine r_iload hS dL_law_372 rfl ?_
  refine r_iconst hS (3) dL_law_374 (by decide) ?_
  refine r_iadd hS dL_law_375 ?_
  refine r_top (nI (i + 3)) (nI_add i 3) ?_
  refine r_sld hG (i + 3) dL_law_376 rfl (by omega) hL ?_
  refine r_i2l hS dL_law_377 ?_
  refine r_bipush hS (32) dL_law_378 (by decide) ?_
  refine r_lshl hS dL_law_380 ?_
  refine r_aload_n hS dL_law_381 rfl ?_
  refine r_iload hS dL_law_382 rfl ?_
  refine r_iconst hS (4) dL_law_384 (by decide) ?_
  refine r_iadd hS dL_law_385 ?_
  refine r_top (nI (i + 4)) (nI_add i 4) ?_
  refine r_sld hG (i + 4) dL_law_386 rfl (by omega) hL ?_
  refine r_i2l hS dL_law_387 ?_
  refine r_ldc2 hS (4294967295) dL_law_388 ck_L_38 ?_
  refine r_land hS dL_law_391 ?_
  refine r_lor hS dL_law_392 ?_
  refine r_aload_n hS dL_law_393 rfl ?_
  refine r_iload hS dL_law_394 rfl ?_
  refine r_iconst hS (5) dL_law_396 (by decide) ?_
  refine r_iadd hS dL_law_397 ?_
  refine r_top (nI (i + 5)) (nI_add i 5) ?_
  refine r_sld hG (i + 5) dL_law_398 rfl (by omega) hL ?_
  refine r_i2l hS dL_law_399 ?_
  refine r_bipush hS (32) dL_law_400 (by decide) ?_
  refine r_lshl hS dL_law_402 ?_
  refine r_aload_n hS dL_law_403 rfl ?_
  refine r_iload hS dL_law_404 rfl ?_
  refine r_bipush hS (6) dL_law_406 (by decide) ?_
  refine r_iadd hS dL_law_408 ?_
  refine r_top (nI (i + 6)) (nI_add i 6) ?_
  refine r_sld hG (i + 6) dL_law_409 rfl (by omega) hL ?_
  refine r_i2l hS dL_law_410 ?_
  refine r_ldc2 hS (4294967295) dL_law_411 ck_L_38 ?_
  refine r_land hS dL_law_414 ?_
  refine r_lor hS dL_law_415 ?_
  obtain ⟨P1, hC1, hk1⟩ := good_feed hI ((xs (i + 1)).toInt64 <<< ((32 : Int32).toInt64 &&& 63) ||| (xs (i + 2)).toInt64 &&& 4294967295) ((xs (i + 3)).toInt64 <<< ((32 : Int32).toInt64 &&& 63) ||| (xs (i + 4)).toInt64 &&& 4294967295) ((xs (i + 5)).toInt64 <<< ((32 : Int32).toInt64 &&& 63) ||| (xs (i + 6)).toInt64 &&& 4294967295)
  refine r_cVI3 hS mk_L_40 dL_law_416 rfl (show 0 < 140 by decide) hC1 (by decide) ⟨show c ≤ 601024 by omega, show s ≤ 7293034 by omega⟩ (Nat.le_of_ble_eq_true rfl) (fun x1 M1 h1 => ?_)
  obtain ⟨P2, hC2, hk2⟩ := hk1 x1 M1 h1
  refine r_aload_n hS dL_law_419 rfl ?_
  refine r_aload_n hS dL_law_420 rfl ?_
  refine r_iload hS dL_law_421 rfl ?_
  refine r_iconst hS (1) dL_law_423 (by decide) ?_
  refine r_iadd hS dL_law_424 ?_
  refine r_top (nI (i + 1)) (nI_add i 1) ?_
  refine r_sld hG (i + 1) dL_law_425 rfl (by omega) hL ?_
  refine r_i2l hS dL_law_426 ?_
  refine r_bipush hS (32) dL_law_427 (by decide) ?_
  refine r_lshl hS dL_law_429 ?_
  refine r_aload_n hS dL_law_430 rfl ?_
  refine r_iload hS dL_law_431 rfl ?_
  refine r_iconst hS (2) dL_law_433 (by decide) ?_
  refine r_iadd hS dL_law_434 ?_
  refine r_top (nI (i + 2)) (nI_add i 2) ?_
  refine r_sld hG (i + 2) dL_law_435 rfl (by omega) hL ?_
  refine r_i2l hS dL_law_436 ?_
  refine r_ldc2 hS (4294967295) dL_law_437 ck_L_38 ?_
  refine r_land hS dL_law_440 ?_
  refine r_lor hS dL_law_441 ?_
  refine r_aload_n hS dL_law_442 rfl ?_
  refine r_iload hS dL_law_443 rfl ?_
  refine r_iconst hS (3) dL_law_445 (by decide) ?_
  refine r_iadd hS dL_law_446 ?_
  refine r_top (nI (i + 3)) (nI_add i 3) ?_
  refine r_sld hG (i + 3) dL_law_447 rfl (by omega) hL ?_
  refine r_i2l hS dL_law_448 ?_
  refine r_bipush hS (32) dL_law_449 (by decide) ?_
  refine r_lshl hS dL_law_451 ?_
  refine r_aload_n hS dL_law_452 rfl ?_
  refine r_iload hS dL_law_453 rfl ?_
  refine r_iconst hS (4) dL_law_455 (by decide) ?_
  refine r_iadd hS dL_law_456 ?_
  refine r_top (nI (i + 4)) (nI_add i 4) ?_
  refine r_sld hG (i + 4) dL_law_457 rfl (by omega) hL ?_
  refine r_i2l hS dL_law_458 ?_
  refine r_ldc2 hS (4294967295) dL_law_459 ck_L_38 ?_
  refine r_land hS dL_law_462 ?_
  refine r_lor hS dL_law_463 ?_
  refine r_aload_n hS dL_law_464 rfl ?_
  refine r_iload hS dL_law_465 rfl ?_
  refine r_iconst hS (5) dL_law_467 (by decide) ?_
  refine r_iadd hS dL_law_468 ?_
  refine r_top (nI (i + 5)) (nI_add i 5) ?_
  refine r_sld hG (i + 5) dL_law_469 rfl (by omega) hL ?_
  refine r_i2l hS dL_law_470 ?_
  refine r_bipush hS (32) dL_law_471 (by decide) ?_
  refine r_lshl hS dL_law_473 ?_
  refine r_aload_n hS dL_law_474 rfl ?_
  refine r_iload hS dL_law_475 rfl ?_
  refine r_bipush hS (6) dL_law_477 (by decide) ?_
  refine r_iadd hS dL_law_479 ?_
  refine r_top (nI (i + 6)) (nI_add i 6) ?_
  refine r_sld hG (i + 6) dL_law_480 rfl (by omega) hL ?_
  refine r_i2l hS dL_law_481 ?_
  refine r_ldc2 hS (4294967295) dL_law_482 ck_L_38 ?_
  refine r_land hS dL_law_485 ?_
  refine r_lor hS dL_law_486 ?_
  refine r_cVI3 hS mk_L_44 dL_law_487 rfl (show 88 < 140 by decide) hC2 (by decide) ⟨show c ≤ 601024 by omega, show s ≤ 7293034 by omega⟩ (Nat.le_of_ble_eq_true rfl) (fun x2 M2 h2 => ?_)
  obtain ⟨e, hI2⟩ := hk2 x2 M2 h2
  exact r_icmp_eq hS 1022 dL_law_490 (by decide) (fun _ => hT M2 c s x5 x6 hI2 (by omega) (by omega)) (fun hc => absurd e hc)

set_option maxRecDepth 100000 in
set_option maxHeartbeats 1000000 in
theorem cs_text {b L : Nat} {xs : Nat → Int32} {G : gJ} (hG : gSl b L xs G) (hL : L ≤ 3584) {M : gM} (hI : Inv M) {i : Nat} (hi : i + 7 ≤ L) {c s : Nat} (hc : c + 1 ≤ 601024) (hs : s + 6 ≤ 7293034) {x5 x6 : Option Value} (hT : ∀ M2 c2 s2 x5 x6, Inv M2 → c2 ≤ c + 1 → s2 ≤ s + 6 → G (140, c2, s2) 1022 [some (.ref 3000), some (.ref 0), some (.ref 88), some (.ref 139), some (.int (nI i)), x5, x6] [] M2) : G (140, c, s) 495 [some (.ref 3000), some (.ref 0), some (.ref 88), some (.ref 139), some (.int (nI i)), x5, x6] [] M := by
  have hS := hG.s
  refine r_aload_n hS dL_law_495 rfl ?_
  obtain ⟨P1, hC1, hk1⟩ := good_text hI 
  refine r_cVI0 hS mk_L_45 dL_law_496 rfl (show 0 < 140 by decide) hC1 (by decide) ⟨show c ≤ 601024 by omega, show s ≤ 7293034 by omega⟩ (Nat.le_of_ble_eq_true rfl) (fun x1 M1 h1 => ?_)
  obtain ⟨P2, hC2, hk2⟩ := hk1 x1 M1 h1
  refine r_aload_n hS dL_law_499 rfl ?_
  refine r_cVI0 hS mk_L_49 dL_law_500 rfl (show 88 < 140 by decide) hC2 (by decide) ⟨show c ≤ 601024 by omega, show s ≤ 7293034 by omega⟩ (Nat.le_of_ble_eq_true rfl) (fun x2 M2 h2 => ?_)
  obtain ⟨e, hI2⟩ := hk2 x2 M2 h2
  exact r_icmp_eq hS 1022 dL_law_503 (by decide) (fun _ => hT M2 c s x5 x6 hI2 (by omega) (by omega)) (fun hc => absurd e hc)

set_option maxRecDepth 100000 in
set_option maxHeartbeats 1000000 in
theorem cs_want {b L : Nat} {xs : Nat → Int32} {G : gJ} (hG : gSl b L xs G) (hL : L ≤ 3584) {M : gM} (hI : Inv M) {i : Nat} (hi : i + 7 ≤ L) {c s : Nat} (hc : c + 1 ≤ 601024) (hs : s + 6 ≤ 7293034) {x5 x6 : Option Value} (hT : ∀ M2 c2 s2 x5 x6, Inv M2 → c2 ≤ c + 1 → s2 ≤ s + 6 → G (140, c2, s2) 1022 [some (.ref 3000), some (.ref 0), some (.ref 88), some (.ref 139), some (.int (nI i)), x5, x6] [] M2) : G (140, c, s) 508 [some (.ref 3000), some (.ref 0), some (.ref 88), some (.ref 139), some (.int (nI i)), x5, x6] [] M := by
  have hS := hG.s
  refine r_aload_n hS dL_law_508 rfl ?_
  refine r_aload_n hS dL_law_509 rfl ?_
  refine r_iload hS dL_law_510 rfl ?_
  refine r_iconst hS (1) dL_law_512 (by decide) ?_
  refine r_iadd hS dL_law_513 ?_
  refine r_top (nI (i + 1)) (nI_add i 1) ?_
  refine r_sld hG (i + 1) dL_law_514 rfl (by omega) hL ?_
  obtain ⟨P1, hC1, hk1⟩ := good_want hI (xs (i + 1))
  refine r_cVI1 hS mk_L_50 dL_law_515 rfl (show 0 < 140 by decide) hC1 (by decide) ⟨show c ≤ 601024 by omega, show s ≤ 7293034 by omega⟩ (Nat.le_of_ble_eq_true rfl) (fun x1 M1 h1 => ?_)
  obtain ⟨P2, hC2, hk2⟩ := hk1 x1 M1 h1
  refine r_aload_n hS dL_law_518 rfl ?_
  refine r_aload_n hS dL_law_519 rfl ?_
  refine r_iload hS dL_law_520 rfl ?_
  refine r_iconst hS (1) dL_law_522 (by decide) ?_
  refine r_iadd hS dL_law_523 ?_
  refine r_top (nI (i + 1)) (nI_add i 1) ?_
  refine r_sld hG (i + 1) dL_law_524 rfl (by omega) hL ?_
  refine r_cVI1 hS mk_L_54 dL_law_525 rfl (show 88 < 140 by decide) hC2 (by decide) ⟨show c ≤ 601024 by omega, show s ≤ 7293034 by omega⟩ (Nat.le_of_ble_eq_true rfl) (fun x2 M2 h2 => ?_)
  obtain ⟨e, hI2⟩ := hk2 x2 M2 h2
  exact r_icmp_eq hS 1022 dL_law_528 (by decide) (fun _ => hT M2 c s x5 x6 hI2 (by omega) (by omega)) (fun hc => absurd e hc)

set_option maxRecDepth 100000 in
set_option maxHeartbeats 1000000 in
theorem cs_plan {b L : Nat} {xs : Nat → Int32} {G : gJ} (hG : gSl b L xs G) (hL : L ≤ 3584) {M : gM} (hI : Inv M) {i : Nat} (hi : i + 7 ≤ L) {c s : Nat} (hc : c + 1 ≤ 601024) (hs : s + 6 ≤ 7293034) {x5 x6 : Option Value} (hO : OpenH) (hT : ∀ M2 c2 s2 x5 x6, Inv M2 → c2 ≤ c + 1 → s2 ≤ s + 6 → G (140, c2, s2) 1022 [some (.ref 3000), some (.ref 0), some (.ref 88), some (.ref 139), some (.int (nI i)), x5, x6] [] M2) : G (140, c, s) 533 [some (.ref 3000), some (.ref 0), some (.ref 88), some (.ref 139), some (.int (nI i)), x5, x6] [] M := by
  have hS := hG.s
  refine r_aload_n hS dL_law_533 rfl ?_
  refine r_aload_n hS dL_law_534 rfl ?_
  refine r_iload hS dL_law_535 rfl ?_
  refine r_iconst hS (1) dL_law_537 (by decide) ?_
  refine r_iadd hS dL_law_538 ?_
  refine r_top (nI (i + 1)) (nI_add i 1) ?_
  refine r_sld hG (i + 1) dL_law_539 rfl (by omega) hL ?_
  obtain ⟨P1, hC1, hk1⟩ := hO.1 M hI (xs (i + 1))
  refine r_cVI1 hS mk_L_55 dL_law_540 rfl (show 0 < 140 by decide) hC1 (by decide) ⟨show c ≤ 601024 by omega, show s ≤ 7293034 by omega⟩ (Nat.le_of_ble_eq_true rfl) (fun x1 M1 h1 => ?_)
  obtain ⟨P2, hC2, hk2⟩ := hk1 x1 M1 h1
  refine r_aload_n hS dL_law_543 rfl ?_
  refine r_aload_n hS dL_law_544 rfl ?_
  refine r_iload hS dL_law_545 rfl ?_
  refine r_iconst hS (1) dL_law_547 (by decide) ?_
  refine r_iadd hS dL_law_548 ?_
  refine r_top (nI (i + 1)) (nI_add i 1) ?_
  refine r_sld hG (i + 1) dL_law_549 rfl (by omega) hL ?_
  refine r_cVI1 hS mk_L_58 dL_law_550 rfl (show 88 < 140 by decide) hC2 (by decide) ⟨show c ≤ 601024 by omega, show s ≤ 7293034 by omega⟩ (Nat.le_of_ble_eq_true rfl) (fun x2 M2 h2 => ?_)
  obtain ⟨e, hI2⟩ := hk2 x2 M2 h2
  exact r_icmp_eq hS 1022 dL_law_553 (by decide) (fun _ => hT M2 c s x5 x6 hI2 (by omega) (by omega)) (fun hc => absurd e hc)

set_option maxRecDepth 100000 in
set_option maxHeartbeats 1000000 in
theorem cs_planned {b L : Nat} {xs : Nat → Int32} {G : gJ} (hG : gSl b L xs G) (hL : L ≤ 3584) {M : gM} (hI : Inv M) {i : Nat} (hi : i + 7 ≤ L) {c s : Nat} (hc : c + 1 ≤ 601024) (hs : s + 6 ≤ 7293034) {x5 x6 : Option Value} (hO : OpenH) (hT : ∀ M2 c2 s2 x5 x6, Inv M2 → c2 ≤ c + 1 → s2 ≤ s + 6 → G (140, c2, s2) 1022 [some (.ref 3000), some (.ref 0), some (.ref 88), some (.ref 139), some (.int (nI i)), x5, x6] [] M2) : G (140, c, s) 558 [some (.ref 3000), some (.ref 0), some (.ref 88), some (.ref 139), some (.int (nI i)), x5, x6] [] M := by
  have hS := hG.s
  refine r_aload_n hS dL_law_558 rfl ?_
  refine r_aload_n hS dL_law_559 rfl ?_
  refine r_iload hS dL_law_560 rfl ?_
  refine r_iconst hS (1) dL_law_562 (by decide) ?_
  refine r_iadd hS dL_law_563 ?_
  refine r_top (nI (i + 1)) (nI_add i 1) ?_
  refine r_sld hG (i + 1) dL_law_564 rfl (by omega) hL ?_
  obtain ⟨P1, hC1, hk1⟩ := hO.2.1 M hI (xs (i + 1))
  refine r_cVI1 hS mk_L_59 dL_law_565 rfl (show 0 < 140 by decide) hC1 (by decide) ⟨show c ≤ 601024 by omega, show s ≤ 7293034 by omega⟩ (Nat.le_of_ble_eq_true rfl) (fun x1 M1 h1 => ?_)
  obtain ⟨P2, hC2, hk2⟩ := hk1 x1 M1 h1
  refine r_aload_n hS dL_law_568 rfl ?_
  refine r_aload_n hS dL_law_569 rfl ?_
  refine r_iload hS dL_law_570 rfl ?_
  refine r_iconst hS (1) dL_law_572 (by decide) ?_
  refine r_iadd hS dL_law_573 ?_
  refine r_top (nI (i + 1)) (nI_add i 1) ?_
  refine r_sld hG (i + 1) dL_law_574 rfl (by omega) hL ?_
  refine r_cVI1 hS mk_L_62 dL_law_575 rfl (show 88 < 140 by decide) hC2 (by decide) ⟨show c ≤ 601024 by omega, show s ≤ 7293034 by omega⟩ (Nat.le_of_ble_eq_true rfl) (fun x2 M2 h2 => ?_)
  obtain ⟨e, hI2⟩ := hk2 x2 M2 h2
  exact r_icmp_eq hS 1022 dL_law_578 (by decide) (fun _ => hT M2 c s x5 x6 hI2 (by omega) (by omega)) (fun hc => absurd e hc)

set_option maxRecDepth 100000 in
set_option maxHeartbeats 1000000 in
theorem cs_days {b L : Nat} {xs : Nat → Int32} {G : gJ} (hG : gSl b L xs G) (hL : L ≤ 3584) {M : gM} (hI : Inv M) {i : Nat} (hi : i + 7 ≤ L) {c s : Nat} (hc : c + 1 ≤ 601024) (hs : s + 6 ≤ 7293034) {x5 x6 : Option Value} (hO : OpenH) (hT : ∀ M2 c2 s2 x5 x6, Inv M2 → c2 ≤ c + 1 → s2 ≤ s + 6 → G (140, c2, s2) 1022 [some (.ref 3000), some (.ref 0), some (.ref 88), some (.ref 139), some (.int (nI i)), x5, x6] [] M2) : G (140, c, s) 583 [some (.ref 3000), some (.ref 0), some (.ref 88), some (.ref 139), some (.int (nI i)), x5, x6] [] M := by
  have hS := hG.s
  refine r_aload_n hS dL_law_583 rfl ?_
  refine r_aload_n hS dL_law_584 rfl ?_
  refine r_iload hS dL_law_585 rfl ?_
  refine r_iconst hS (1) dL_law_587 (by decide) ?_
  refine r_iadd hS dL_law_588 ?_
  refine r_top (nI (i + 1)) (nI_add i 1) ?_
  refine r_sld hG (i + 1) dL_law_589 rfl (by omega) hL ?_
  obtain ⟨P1, hC1, hk1⟩ := hO.2.2 M hI (xs (i + 1))
  refine r_cVI1 hS mk_L_63 dL_law_590 rfl (show 0 < 140 by decide) hC1 (by decide) ⟨show c ≤ 601024 by omega, show s ≤ 7293034 by omega⟩ (Nat.le_of_ble_eq_true rfl) (fun x1 M1 h1 => ?_)
  obtain ⟨P2, hC2, hk2⟩ := hk1 x1 M1 h1
  refine r_aload_n hS dL_law_593 rfl ?_
  refine r_aload_n hS dL_law_594 rfl ?_
  refine r_iload hS dL_law_595 rfl ?_
  refine r_iconst hS (1) dL_law_597 (by decide) ?_
  refine r_iadd hS dL_law_598 ?_
  refine r_top (nI (i + 1)) (nI_add i 1) ?_
  refine r_sld hG (i + 1) dL_law_599 rfl (by omega) hL ?_
  refine r_cVI1 hS mk_L_66 dL_law_600 rfl (show 88 < 140 by decide) hC2 (by decide) ⟨show c ≤ 601024 by omega, show s ≤ 7293034 by omega⟩ (Nat.le_of_ble_eq_true rfl) (fun x2 M2 h2 => ?_)
  obtain ⟨e, hI2⟩ := hk2 x2 M2 h2
  exact r_icmp_eq hS 1022 dL_law_603 (by decide) (fun _ => hT M2 c s x5 x6 hI2 (by omega) (by omega)) (fun hc => absurd e hc)

set_option maxRecDepth 100000 in
set_option maxHeartbeats 1000000 in
theorem cs_foretold {b L : Nat} {xs : Nat → Int32} {G : gJ} (hG : gSl b L xs G) (hL : L ≤ 3584) {M : gM} (hI : Inv M) {i : Nat} (hi : i + 7 ≤ L) {c s : Nat} (hc : c + 1 ≤ 601024) (hs : s + 6 ≤ 7293034) {x5 x6 : Option Value} (hT : ∀ M2 c2 s2 x5 x6, Inv M2 → c2 ≤ c + 1 → s2 ≤ s + 6 → G (140, c2, s2) 1022 [some (.ref 3000), some (.ref 0), some (.ref 88), some (.ref 139), some (.int (nI i)), x5, x6] [] M2) : G (140, c, s) 608 [some (.ref 3000), some (.ref 0), some (.ref 88), some (.ref 139), some (.int (nI i)), x5, x6] [] M := by
  have hS := hG.s
  refine r_aload_n hS dL_law_608 rfl ?_
  refine r_aload_n hS dL_law_609 rfl ?_
  refine r_iload hS dL_law_610 rfl ?_
  refine r_iconst hS (1) dL_law_612 (by decide) ?_
  refine r_iadd hS dL_law_613 ?_
  refine r_top (nI (i + 1)) (nI_add i 1) ?_
  refine r_sld hG (i + 1) dL_law_614 rfl (by omega) hL ?_
  obtain ⟨P1, hC1, hk1⟩ := good_foretold hI (xs (i + 1))
  refine r_cVI1 hS mk_L_67 dL_law_615 rfl (show 0 < 140 by decide) hC1 (by decide) ⟨show c ≤ 601024 by omega, show s ≤ 7293034 by omega⟩ (Nat.le_of_ble_eq_true rfl) (fun x1 M1 h1 => ?_)
  obtain ⟨P2, hC2, hk2⟩ := hk1 x1 M1 h1
  refine r_aload_n hS dL_law_618 rfl ?_
  refine r_aload_n hS dL_law_619 rfl ?_
  refine r_iload hS dL_law_620 rfl ?_
  refine r_iconst hS (1) dL_law_622 (by decide) ?_
  refine r_iadd hS dL_law_623 ?_
  refine r_top (nI (i + 1)) (nI_add i 1) ?_
  refine r_sld hG (i + 1) dL_law_624 rfl (by omega) hL ?_
  refine r_cVI1 hS mk_L_70 dL_law_625 rfl (show 88 < 140 by decide) hC2 (by decide) ⟨show c ≤ 601024 by omega, show s ≤ 7293034 by omega⟩ (Nat.le_of_ble_eq_true rfl) (fun x2 M2 h2 => ?_)
  obtain ⟨e, hI2⟩ := hk2 x2 M2 h2
  exact r_icmp_eq hS 1022 dL_law_628 (by decide) (fun _ => hT M2 c s x5 x6 hI2 (by omega) (by omega)) (fun hc => absurd e hc)

set_option maxRecDepth 100000 in
set_option maxHeartbeats 1000000 in
theorem cs_bore {b L : Nat} {xs : Nat → Int32} {G : gJ} (hG : gSl b L xs G) (hL : L ≤ 3584) {M : gM} (hI : Inv M) {i : Nat} (hi : i + 7 ≤ L) {c s : Nat} (hc : c + 1 ≤ 601024) (hs : s + 6 ≤ 7293034) {x5 x6 : Option Value} (hT : ∀ M2 c2 s2 x5 x6, Inv M2 → c2 ≤ c + 1 → s2 ≤ s + 6 → G (140, c2, s2) 1022 [some (.ref 3000), some (.ref 0), some (.ref 88), some (.ref 139), some (.int (nI i)), x5, x6] [] M2) : G (140, c, s) 633 [some (.ref 3000), some (.ref 0), some (.ref 88), some (.ref 139), some (.int (nI i)), x5, x6] [] M := by
  have hS := hG.s
  refine r_aload_n hS dL_law_633 rfl ?_
  refine r_aload_n hS dL_law_634 rfl ?_
  refine r_iload hS dL_law_635 rfl ?_
  refine r_iconst hS (1) dL_law_637 (by decide) ?_
  refine r_iadd hS dL_law_638 ?_
  refine r_top (nI (i + 1)) (nI_add i 1) ?_
  refine r_sld hG (i + 1) dL_law_639 rfl (by omega) hL ?_
  refine r_aload_n hS dL_law_640 rfl ?_
  refine r_iload hS dL_law_641 rfl ?_
  refine r_iconst hS (2) dL_law_643 (by decide) ?_
  refine r_iadd hS dL_law_644 ?_
  refine r_top (nI (i + 2)) (nI_add i 2) ?_
  refine r_sld hG (i + 2) dL_law_645 rfl (by omega) hL ?_
  refine r_aload_n hS dL_law_646 rfl ?_
  refine r_iload hS dL_law_647 rfl ?_
  refine r_iconst hS (3) dL_law_649 (by decide) ?_
  refine r_iadd hS dL_law_650 ?_
  refine r_top (nI (i + 3)) (nI_add i 3) ?_
  refine r_sld hG (i + 3) dL_law_651 rfl (by omega) hL ?_
  obtain ⟨P1, hC1, hk1⟩ := good_bore hI (xs (i + 1)) (xs (i + 2)) (xs (i + 3))
  refine r_cVI3 hS mk_L_71 dL_law_652 rfl (show 0 < 140 by decide) hC1 (by decide) ⟨show c ≤ 601024 by omega, show s ≤ 7293034 by omega⟩ (Nat.le_of_ble_eq_true rfl) (fun x1 M1 h1 => ?_)
  obtain ⟨P2, hC2, hk2⟩ := hk1 x1 M1 h1
  refine r_aload_n hS dL_law_655 rfl ?_
  refine r_aload_n hS dL_law_656 rfl ?_
  refine r_iload hS dL_law_657 rfl ?_
  refine r_iconst hS (1) dL_law_659 (by decide) ?_
  refine r_iadd hS dL_law_660 ?_
  refine r_top (nI (i + 1)) (nI_add i 1) ?_
  refine r_sld hG (i + 1) dL_law_661 rfl (by omega) hL ?_
  refine r_aload_n hS dL_law_662 rfl ?_
  refine r_iload hS dL_law_663 rfl ?_
  refine r_iconst hS (2) dL_law_665 (by decide) ?_
  refine r_iadd hS dL_law_666 ?_
  refine r_top (nI (i + 2)) (nI_add i 2) ?_
  refine r_sld hG (i + 2) dL_law_667 rfl (by omega) hL ?_
  refine r_aload_n hS dL_law_668 rfl ?_
  refine r_iload hS dL_law_669 rfl ?_
  refine r_iconst hS (3) dL_law_671 (by decide) ?_
  refine r_iadd hS dL_law_672 ?_
  refine r_top (nI (i + 3)) (nI_add i 3) ?_
  refine r_sld hG (i + 3) dL_law_673 rfl (by omega) hL ?_
  refine r_cVI3 hS mk_L_74 dL_law_674 rfl (show 88 < 140 by decide) hC2 (by decide) ⟨show c ≤ 601024 by omega, show s ≤ 7293034 by omega⟩ (Nat.le_of_ble_eq_true rfl) (fun x2 M2 h2 => ?_)
  obtain ⟨e, hI2⟩ := hk2 x2 M2 h2
  exact r_icmp_eq hS 1022 dL_law_677 (by decide) (fun _ => hT M2 c s x5 x6 hI2 (by omega) (by omega)) (fun hc => absurd e hc)

set_option maxRecDepth 100000 in
set_option maxHeartbeats 1000000 in
theorem cs_best {b L : Nat} {xs : Nat → Int32} {G : gJ} (hG : gSl b L xs G) (hL : L ≤ 3584) {M : gM} (hI : Inv M) {i : Nat} (hi : i + 7 ≤ L) {c s : Nat} (hc : c + 1 ≤ 601024) (hs : s + 6 ≤ 7293034) {x5 x6 : Option Value} (hT : ∀ M2 c2 s2 x5 x6, Inv M2 → c2 ≤ c + 1 → s2 ≤ s + 6 → G (140, c2, s2) 1022 [some (.ref 3000), some (.ref 0), some (.ref 88), some (.ref 139), some (.int (nI i)), x5, x6] [] M2) : G (140, c, s) 682 [some (.ref 3000), some (.ref 0), some (.ref 88), some (.ref 139), some (.int (nI i)), x5, x6] [] M := by
  have hS := hG.s
  refine r_aload_n hS dL_law_682 rfl ?_
  refine r_aload_n hS dL_law_683 rfl ?_
  refine r_iload hS dL_law_684 rfl ?_
  refine r_iconst hS (1) dL_law_686 (by decide) ?_
  refine r_iadd hS dL_law_687 ?_
  refine r_top (nI (i + 1)) (nI_add i 1) ?_
  refine r_sld hG (i + 1) dL_law_688 rfl (by omega) hL ?_
  obtain ⟨P1, hC1, hk1⟩ := good_best hI (xs (i + 1))
  refine r_cVI1 hS mk_L_75 dL_law_689 rfl (show 0 < 140 by decide) hC1 (by decide) ⟨show c ≤ 601024 by omega, show s ≤ 7293034 by omega⟩ (Nat.le_of_ble_eq_true rfl) (fun x1 M1 h1 => ?_)
  obtain ⟨P2, hC2, hk2⟩ := hk1 x1 M1 h1
  refine r_aload_n hS dL_law_692 rfl ?_
  refine r_aload_n hS dL_law_693 rfl ?_
  refine r_iload hS dL_law_694 rfl ?_
  refine r_iconst hS (1) dL_law_696 (by decide) ?_
  refine r_iadd hS dL_law_697 ?_
  refine r_top (nI (i + 1)) (nI_add i 1) ?_
  refine r_sld hG (i + 1) dL_law_698 rfl (by omega) hL ?_
  refine r_cVI1 hS mk_L_78 dL_law_699 rfl (show 88 < 140 by decide) hC2 (by decide) ⟨show c ≤ 601024 by omega, show s ≤ 7293034 by omega⟩ (Nat.le_of_ble_eq_true rfl) (fun x2 M2 h2 => ?_)
  obtain ⟨e, hI2⟩ := hk2 x2 M2 h2
  exact r_icmp_eq hS 1022 dL_law_702 (by decide) (fun _ => hT M2 c s x5 x6 hI2 (by omega) (by omega)) (fun hc => absurd e hc)

set_option maxRecDepth 100000 in
set_option maxHeartbeats 1000000 in
theorem cs_drill {b L : Nat} {xs : Nat → Int32} {G : gJ} (hG : gSl b L xs G) (hL : L ≤ 3584) {M : gM} (hI : Inv M) {i : Nat} (hi : i + 7 ≤ L) {c s : Nat} (hc : c + 1 ≤ 601024) (hs : s + 6 ≤ 7293034) {x5 x6 : Option Value} (hT : ∀ M2 c2 s2 x5 x6, Inv M2 → c2 ≤ c + 1 → s2 ≤ s + 6 → G (140, c2, s2) 1022 [some (.ref 3000), some (.ref 0), some (.ref 88), some (.ref 139), some (.int (nI i)), x5, x6] [] M2) : G (140, c, s) 707 [some (.ref 3000), some (.ref 0), some (.ref 88), some (.ref 139), some (.int (nI i)), x5, x6] [] M := by
  have hS := hG.s
  refine r_aload_n hS dL_law_707 rfl ?_
  refine r_aload_n hS dL_law_708 rfl ?_
  refine r_iload hS dL_law_709 rfl ?_
  refine r_iconst hS (1) dL_law_711 (by decide) ?_
  refine r_iadd hS dL_law_712 ?_
  refine r_top (nI (i + 1)) (nI_add i 1) ?_
  refine r_sld hG (i + 1) dL_law_713 rfl (by omega) hL ?_
  refine r_aload_n hS dL_law_714 rfl ?_
  refine r_iload hS dL_law_715 rfl ?_
  refine r_iconst hS (2) dL_law_717 (by decide) ?_
  refine r_iadd hS dL_law_718 ?_
  refine r_top (nI (i + 2)) (nI_add i 2) ?_
  refine r_sld hG (i + 2) dL_law_719 rfl (by omega) hL ?_
  obtain ⟨P1, hC1, hk1⟩ := good_drill hI (xs (i + 1)) (xs (i + 2))
  refine r_cVI2 hS mk_L_79 dL_law_720 rfl (show 0 < 140 by decide) hC1 (by decide) ⟨show c ≤ 601024 by omega, show s ≤ 7293034 by omega⟩ (Nat.le_of_ble_eq_true rfl) (fun x1 M1 h1 => ?_)
  obtain ⟨P2, hC2, hk2⟩ := hk1 x1 M1 h1
  refine r_aload_n hS dL_law_723 rfl ?_
  refine r_aload_n hS dL_law_724 rfl ?_
  refine r_iload hS dL_law_725 rfl ?_
  refine r_iconst hS (1) dL_law_727 (by decide) ?_
  refine r_iadd hS dL_law_728 ?_
  refine r_top (nI (i + 1)) (nI_add i 1) ?_
  refine r_sld hG (i + 1) dL_law_729 rfl (by omega) hL ?_
  refine r_aload_n hS dL_law_730 rfl ?_
  refine r_iload hS dL_law_731 rfl ?_
  refine r_iconst hS (2) dL_law_733 (by decide) ?_
  refine r_iadd hS dL_law_734 ?_
  refine r_top (nI (i + 2)) (nI_add i 2) ?_
  refine r_sld hG (i + 2) dL_law_735 rfl (by omega) hL ?_
  refine r_cVI2 hS mk_L_83 dL_law_736 rfl (show 88 < 140 by decide) hC2 (by decide) ⟨show c ≤ 601024 by omega, show s ≤ 7293034 by omega⟩ (Nat.le_of_ble_eq_true rfl) (fun x2 M2 h2 => ?_)
  obtain ⟨e, hI2⟩ := hk2 x2 M2 h2
  exact r_icmp_eq hS 1022 dL_law_739 (by decide) (fun _ => hT M2 c s x5 x6 hI2 (by omega) (by omega)) (fun hc => absurd e hc)

set_option maxRecDepth 100000 in
set_option maxHeartbeats 1000000 in
theorem cs_dip {b L : Nat} {xs : Nat → Int32} {G : gJ} (hG : gSl b L xs G) (hL : L ≤ 3584) {M : gM} (hI : Inv M) {i : Nat} (hi : i + 7 ≤ L) {c s : Nat} (hc : c + 1 ≤ 601024) (hs : s + 6 ≤ 7293034) {x5 x6 : Option Value} (hT : ∀ M2 c2 s2 x5 x6, Inv M2 → c2 ≤ c + 1 → s2 ≤ s + 6 → G (140, c2, s2) 1022 [some (.ref 3000), some (.ref 0), some (.ref 88), some (.ref 139), some (.int (nI i)), x5, x6] [] M2) : G (140, c, s) 744 [some (.ref 3000), some (.ref 0), some (.ref 88), some (.ref 139), some (.int (nI i)), x5, x6] [] M := by
  have hS := hG.s
  refine r_aload_n hS dL_law_744 rfl ?_
  refine r_aload_n hS dL_law_745 rfl ?_
  refine r_iload hS dL_law_746 rfl ?_
  refine r_iconst hS (1) dL_law_748 (by decide) ?_
  refine r_iadd hS dL_law_749 ?_
  refine r_top (nI (i + 1)) (nI_add i 1) ?_
  refine r_sld hG (i + 1) dL_law_750 rfl (by omega) hL ?_
  refine r_aload_n hS dL_law_751 rfl ?_
  refine r_iload hS dL_law_752 rfl ?_
  refine r_iconst hS (2) dL_law_754 (by decide) ?_
  refine r_iadd hS dL_law_755 ?_
  refine r_top (nI (i + 2)) (nI_add i 2) ?_
  refine r_sld hG (i + 2) dL_law_756 rfl (by omega) hL ?_
  refine r_aload_n hS dL_law_757 rfl ?_
  refine r_iload hS dL_law_758 rfl ?_
  refine r_iconst hS (3) dL_law_760 (by decide) ?_
  refine r_iadd hS dL_law_761 ?_
  refine r_top (nI (i + 3)) (nI_add i 3) ?_
  refine r_sld hG (i + 3) dL_law_762 rfl (by omega) hL ?_
  refine r_aload_n hS dL_law_763 rfl ?_
  refine r_iload hS dL_law_764 rfl ?_
  refine r_iconst hS (4) dL_law_766 (by decide) ?_
  refine r_iadd hS dL_law_767 ?_
  refine r_top (nI (i + 4)) (nI_add i 4) ?_
  refine r_sld hG (i + 4) dL_law_768 rfl (by omega) hL ?_
  obtain ⟨P1, hC1, hk1⟩ := good_dip hI (xs (i + 1)) (xs (i + 2)) (xs (i + 3)) (xs (i + 4))
  refine r_cVI4 hS mk_L_84 dL_law_769 rfl (show 0 < 140 by decide) hC1 (by decide) ⟨show c ≤ 601024 by omega, show s ≤ 7293034 by omega⟩ (Nat.le_of_ble_eq_true rfl) (fun x1 M1 h1 => ?_)
  obtain ⟨P2, hC2, hk2⟩ := hk1 x1 M1 h1
  refine r_aload_n hS dL_law_772 rfl ?_
  refine r_aload_n hS dL_law_773 rfl ?_
  refine r_iload hS dL_law_774 rfl ?_
  refine r_iconst hS (1) dL_law_776 (by decide) ?_
  refine r_iadd hS dL_law_777 ?_
  refine r_top (nI (i + 1)) (nI_add i 1) ?_
  refine r_sld hG (i + 1) dL_law_778 rfl (by omega) hL ?_
  refine r_aload_n hS dL_law_779 rfl ?_
  refine r_iload hS dL_law_780 rfl ?_
  refine r_iconst hS (2) dL_law_782 (by decide) ?_
  refine r_iadd hS dL_law_783 ?_
  refine r_top (nI (i + 2)) (nI_add i 2) ?_
  refine r_sld hG (i + 2) dL_law_784 rfl (by omega) hL ?_
  refine r_aload_n hS dL_law_785 rfl ?_
  refine r_iload hS dL_law_786 rfl ?_
  refine r_iconst hS (3) dL_law_788 (by decide) ?_
  refine r_iadd hS dL_law_789 ?_
  refine r_top (nI (i + 3)) (nI_add i 3) ?_
  refine r_sld hG (i + 3) dL_law_790 rfl (by omega) hL ?_
  refine r_aload_n hS dL_law_791 rfl ?_
  refine r_iload hS dL_law_792 rfl ?_
  refine r_iconst hS (4) dL_law_794 (by decide) ?_
  refine r_iadd hS dL_law_795 ?_
  refine r_top (nI (i + 4)) (nI_add i 4) ?_
  refine r_sld hG (i + 4) dL_law_796 rfl (by omega) hL ?_
  refine r_cVI4 hS mk_L_87 dL_law_797 rfl (show 88 < 140 by decide) hC2 (by decide) ⟨show c ≤ 601024 by omega, show s ≤ 7293034 by omega⟩ (Nat.le_of_ble_eq_true rfl) (fun x2 M2 h2 => ?_)
  obtain ⟨e, hI2⟩ := hk2 x2 M2 h2
  exact r_icmp_eq hS 1022 dL_law_800 (by decide) (fun _ => hT M2 c s x5 x6 hI2 (by omega) (by omega)) (fun hc => absurd e hc)

set_option maxRecDepth 100000 in
set_option maxHeartbeats 1000000 in
theorem cs_isShort {b L : Nat} {xs : Nat → Int32} {G : gJ} (hG : gSl b L xs G) (hL : L ≤ 3584) {M : gM} (hI : Inv M) {i : Nat} (hi : i + 7 ≤ L) {c s : Nat} (hc : c + 1 ≤ 601024) (hs : s + 6 ≤ 7293034) {x5 x6 : Option Value} (hT : ∀ M2 c2 s2 x5 x6, Inv M2 → c2 ≤ c + 1 → s2 ≤ s + 6 → G (140, c2, s2) 1022 [some (.ref 3000), some (.ref 0), some (.ref 88), some (.ref 139), some (.int (nI i)), x5, x6] [] M2) : G (140, c, s) 805 [some (.ref 3000), some (.ref 0), some (.ref 88), some (.ref 139), some (.int (nI i)), x5, x6] [] M := by
  have hS := hG.s
  refine r_aload_n hS dL_law_805 rfl ?_
  refine r_aload_n hS dL_law_806 rfl ?_
  refine r_iload hS dL_law_807 rfl ?_
  refine r_iconst hS (1) dL_law_809 (by decide) ?_
  refine r_iadd hS dL_law_810 ?_
  refine r_top (nI (i + 1)) (nI_add i 1) ?_
  refine r_sld hG (i + 1) dL_law_811 rfl (by omega) hL ?_
  obtain ⟨P1, hC1, hk1⟩ := good_isShort hI (xs (i + 1))
  refine r_cVI1 hS mk_L_88 dL_law_812 rfl (show 0 < 140 by decide) hC1 (by decide) ⟨show c ≤ 601024 by omega, show s ≤ 7293034 by omega⟩ (Nat.le_of_ble_eq_true rfl) (fun x1 M1 h1 => ?_)
  obtain ⟨P2, hC2, hk2⟩ := hk1 x1 M1 h1
  refine r_aload_n hS dL_law_815 rfl ?_
  refine r_aload_n hS dL_law_816 rfl ?_
  refine r_iload hS dL_law_817 rfl ?_
  refine r_iconst hS (1) dL_law_819 (by decide) ?_
  refine r_iadd hS dL_law_820 ?_
  refine r_top (nI (i + 1)) (nI_add i 1) ?_
  refine r_sld hG (i + 1) dL_law_821 rfl (by omega) hL ?_
  refine r_cVI1 hS mk_L_91 dL_law_822 rfl (show 88 < 140 by decide) hC2 (by decide) ⟨show c ≤ 601024 by omega, show s ≤ 7293034 by omega⟩ (Nat.le_of_ble_eq_true rfl) (fun x2 M2 h2 => ?_)
  obtain ⟨e, hI2⟩ := hk2 x2 M2 h2
  exact r_icmp_eq hS 1022 dL_law_825 (by decide) (fun _ => hT M2 c s x5 x6 hI2 (by omega) (by omega)) (fun hc => absurd e hc)

set_option maxRecDepth 100000 in
set_option maxHeartbeats 1000000 in
theorem cs_share {b L : Nat} {xs : Nat → Int32} {G : gJ} (hG : gSl b L xs G) (hL : L ≤ 3584) {M : gM} (hI : Inv M) {i : Nat} (hi : i + 7 ≤ L) {c s : Nat} (hc : c + 1 ≤ 601024) (hs : s + 6 ≤ 7293034) {x5 x6 : Option Value} (hT : ∀ M2 c2 s2 x5 x6, Inv M2 → c2 ≤ c + 1 → s2 ≤ s + 6 → G (140, c2, s2) 1022 [some (.ref 3000), some (.ref 0), some (.ref 88), some (.ref 139), some (.int (nI i)), x5, x6] [] M2) : G (140, c, s) 830 [some (.ref 3000), some (.ref 0), some (.ref 88), some (.ref 139), some (.int (nI i)), x5, x6] [] M := by
  have hS := hG.s
  refine r_aload_n hS dL_law_830 rfl ?_
  refine r_aload_n hS dL_law_831 rfl ?_
  refine r_iload hS dL_law_832 rfl ?_
  refine r_iconst hS (1) dL_law_834 (by decide) ?_
  refine r_iadd hS dL_law_835 ?_
  refine r_top (nI (i + 1)) (nI_add i 1) ?_
  refine r_sld hG (i + 1) dL_law_836 rfl (by omega) hL ?_
  obtain ⟨P1, hC1, hk1⟩ := good_share hI (xs (i + 1))
  refine r_cVI1 hS mk_L_92 dL_law_837 rfl (show 0 < 140 by decide) hC1 (by decide) ⟨show c ≤ 601024 by omega, show s ≤ 7293034 by omega⟩ (Nat.le_of_ble_eq_true rfl) (fun x1 M1 h1 => ?_)
  obtain ⟨P2, hC2, hk2⟩ := hk1 x1 M1 h1
  refine r_aload_n hS dL_law_840 rfl ?_
  refine r_aload_n hS dL_law_841 rfl ?_
  refine r_iload hS dL_law_842 rfl ?_
  refine r_iconst hS (1) dL_law_844 (by decide) ?_
  refine r_iadd hS dL_law_845 ?_
  refine r_top (nI (i + 1)) (nI_add i 1) ?_
  refine r_sld hG (i + 1) dL_law_846 rfl (by omega) hL ?_
  refine r_cVI1 hS mk_L_95 dL_law_847 rfl (show 88 < 140 by decide) hC2 (by decide) ⟨show c ≤ 601024 by omega, show s ≤ 7293034 by omega⟩ (Nat.le_of_ble_eq_true rfl) (fun x2 M2 h2 => ?_)
  obtain ⟨e, hI2⟩ := hk2 x2 M2 h2
  exact r_icmp_eq hS 1022 dL_law_850 (by decide) (fun _ => hT M2 c s x5 x6 hI2 (by omega) (by omega)) (fun hc => absurd e hc)

set_option maxRecDepth 100000 in
set_option maxHeartbeats 1000000 in
theorem cs_flows {b L : Nat} {xs : Nat → Int32} {G : gJ} (hG : gSl b L xs G) (hL : L ≤ 3584) {M : gM} (hI : Inv M) {i : Nat} (hi : i + 7 ≤ L) {c s : Nat} (hc : c + 1 ≤ 601024) (hs : s + 6 ≤ 7293034) {x5 x6 : Option Value} (hT : ∀ M2 c2 s2 x5 x6, Inv M2 → c2 ≤ c + 1 → s2 ≤ s + 6 → G (140, c2, s2) 1022 [some (.ref 3000), some (.ref 0), some (.ref 88), some (.ref 139), some (.int (nI i)), x5, x6] [] M2) : G (140, c, s) 923 [some (.ref 3000), some (.ref 0), some (.ref 88), some (.ref 139), some (.int (nI i)), x5, x6] [] M := by
  have hS := hG.s
  refine r_aload_n hS dL_law_923 rfl ?_
  refine r_aload_n hS dL_law_924 rfl ?_
  refine r_iload hS dL_law_925 rfl ?_
  refine r_iconst hS (1) dL_law_927 (by decide) ?_
  refine r_iadd hS dL_law_928 ?_
  refine r_top (nI (i + 1)) (nI_add i 1) ?_
  refine r_sld hG (i + 1) dL_law_929 rfl (by omega) hL ?_
  refine r_aload_n hS dL_law_930 rfl ?_
  refine r_iload hS dL_law_931 rfl ?_
  refine r_iconst hS (2) dL_law_933 (by decide) ?_
  refine r_iadd hS dL_law_934 ?_
  refine r_top (nI (i + 2)) (nI_add i 2) ?_
  refine r_sld hG (i + 2) dL_law_935 rfl (by omega) hL ?_
  obtain ⟨P1, hC1, hk1⟩ := good_flows hI (xs (i + 1)) (xs (i + 2))
  refine r_cVI2 hS mk_L_105 dL_law_936 rfl (show 0 < 140 by decide) hC1 (by decide) ⟨show c ≤ 601024 by omega, show s ≤ 7293034 by omega⟩ (Nat.le_of_ble_eq_true rfl) (fun x1 M1 h1 => ?_)
  obtain ⟨P2, hC2, hk2⟩ := hk1 x1 M1 h1
  refine r_aload_n hS dL_law_939 rfl ?_
  refine r_aload_n hS dL_law_940 rfl ?_
  refine r_iload hS dL_law_941 rfl ?_
  refine r_iconst hS (1) dL_law_943 (by decide) ?_
  refine r_iadd hS dL_law_944 ?_
  refine r_top (nI (i + 1)) (nI_add i 1) ?_
  refine r_sld hG (i + 1) dL_law_945 rfl (by omega) hL ?_
  refine r_aload_n hS dL_law_946 rfl ?_
  refine r_iload hS dL_law_947 rfl ?_
  refine r_iconst hS (2) dL_law_949 (by decide) ?_
  refine r_iadd hS dL_law_950 ?_
  refine r_top (nI (i + 2)) (nI_add i 2) ?_
  refine r_sld hG (i + 2) dL_law_951 rfl (by omega) hL ?_
  refine r_cVI2 hS mk_L_108 dL_law_952 rfl (show 88 < 140 by decide) hC2 (by decide) ⟨show c ≤ 601024 by omega, show s ≤ 7293034 by omega⟩ (Nat.le_of_ble_eq_true rfl) (fun x2 M2 h2 => ?_)
  obtain ⟨e, hI2⟩ := hk2 x2 M2 h2
  exact r_icmp_eq hS 1022 dL_law_955 (by decide) (fun _ => hT M2 c s x5 x6 hI2 (by omega) (by omega)) (fun hc => absurd e hc)

set_option maxRecDepth 100000 in
set_option maxHeartbeats 1000000 in
theorem cs_goes {b L : Nat} {xs : Nat → Int32} {G : gJ} (hG : gSl b L xs G) (hL : L ≤ 3584) {M : gM} (hI : Inv M) {i : Nat} (hi : i + 7 ≤ L) {c s : Nat} (hc : c + 1 ≤ 601024) (hs : s + 6 ≤ 7293034) {x5 x6 : Option Value} (hT : ∀ M2 c2 s2 x5 x6, Inv M2 → c2 ≤ c + 1 → s2 ≤ s + 6 → G (140, c2, s2) 1022 [some (.ref 3000), some (.ref 0), some (.ref 88), some (.ref 139), some (.int (nI i)), x5, x6] [] M2) : G (140, c, s) 960 [some (.ref 3000), some (.ref 0), some (.ref 88), some (.ref 139), some (.int (nI i)), x5, x6] [] M := by
  have hS := hG.s
  refine r_aload_n hS dL_law_960 rfl ?_
  refine r_aload_n hS dL_law_961 rfl ?_
  refine r_iload hS dL_law_962 rfl ?_
  refine r_iconst hS (1) dL_law_964 (by decide) ?_
  refine r_iadd hS dL_law_965 ?_
  refine r_top (nI (i + 1)) (nI_add i 1) ?_
  refine r_sld hG (i + 1) dL_law_966 rfl (by omega) hL ?_
  refine r_aload_n hS dL_law_967 rfl ?_
  refine r_iload hS dL_law_968 rfl ?_
  refine r_iconst hS (2) dL_law_970 (by decide) ?_
  refine r_iadd hS dL_law_971 ?_
  refine r_top (nI (i + 2)) (nI_add i 2) ?_
  refine r_sld hG (i + 2) dL_law_972 rfl (by omega) hL ?_
  obtain ⟨P1, hC1, hk1⟩ := good_goes hI (xs (i + 1)) (xs (i + 2))
  refine r_cVI2 hS mk_L_109 dL_law_973 rfl (show 0 < 140 by decide) hC1 (by decide) ⟨show c ≤ 601024 by omega, show s ≤ 7293034 by omega⟩ (Nat.le_of_ble_eq_true rfl) (fun x1 M1 h1 => ?_)
  obtain ⟨P2, hC2, hk2⟩ := hk1 x1 M1 h1
  refine r_aload_n hS dL_law_976 rfl ?_
  refine r_aload_n hS dL_law_977 rfl ?_
  refine r_iload hS dL_law_978 rfl ?_
  refine r_iconst hS (1) dL_law_980 (by decide) ?_
  refine r_iadd hS dL_law_981 ?_
  refine r_top (nI (i + 1)) (nI_add i 1) ?_
  refine r_sld hG (i + 1) dL_law_982 rfl (by omega) hL ?_
  refine r_aload_n hS dL_law_983 rfl ?_
  refine r_iload hS dL_law_984 rfl ?_
  refine r_iconst hS (2) dL_law_986 (by decide) ?_
  refine r_iadd hS dL_law_987 ?_
  refine r_top (nI (i + 2)) (nI_add i 2) ?_
  refine r_sld hG (i + 2) dL_law_988 rfl (by omega) hL ?_
  refine r_cVI2 hS mk_L_112 dL_law_989 rfl (show 88 < 140 by decide) hC2 (by decide) ⟨show c ≤ 601024 by omega, show s ≤ 7293034 by omega⟩ (Nat.le_of_ble_eq_true rfl) (fun x2 M2 h2 => ?_)
  obtain ⟨e, hI2⟩ := hk2 x2 M2 h2
  exact r_icmp_eq hS 1022 dL_law_992 (by decide) (fun _ => hT M2 c s x5 x6 hI2 (by omega) (by omega)) (fun hc => absurd e hc)

set_option maxRecDepth 100000 in
set_option maxHeartbeats 1000000 in
theorem cs_count {b L : Nat} {xs : Nat → Int32} {G : gJ} (hG : gSl b L xs G) (hL : L ≤ 3584) {M : gM} (hI : Inv M) {i : Nat} (hi : i + 7 ≤ L) {c s : Nat} (hc : c + 1 ≤ 601024) (hs : s + 6 ≤ 7293034) {x5 x6 : Option Value} (hT : ∀ M2 c2 s2 x5 x6, Inv M2 → c2 ≤ c + 1 → s2 ≤ s + 6 → G (140, c2, s2) 1022 [some (.ref 3000), some (.ref 0), some (.ref 88), some (.ref 139), some (.int (nI i)), x5, x6] [] M2) : G (140, c, s) 997 [some (.ref 3000), some (.ref 0), some (.ref 88), some (.ref 139), some (.int (nI i)), x5, x6] [] M := by
  have hS := hG.s
  refine r_aload_n hS dL_law_997 rfl ?_
  refine r_aload_n hS dL_law_998 rfl ?_
  refine r_iload hS dL_law_999 rfl ?_
  refine r_iconst hS (1) dL_law_1001 (by decide) ?_
  refine r_iadd hS dL_law_1002 ?_
  refine r_top (nI (i + 1)) (nI_add i 1) ?_
  refine r_sld hG (i + 1) dL_law_1003 rfl (by omega) hL ?_
  obtain ⟨P1, hC1, hk1⟩ := good_count hI (xs (i + 1))
  refine r_cVI1 hS mk_L_113 dL_law_1004 rfl (show 0 < 140 by decide) hC1 (by decide) ⟨show c ≤ 601024 by omega, show s ≤ 7293034 by omega⟩ (Nat.le_of_ble_eq_true rfl) (fun x1 M1 h1 => ?_)
  obtain ⟨P2, hC2, hk2⟩ := hk1 x1 M1 h1
  refine r_aload_n hS dL_law_1007 rfl ?_
  refine r_aload_n hS dL_law_1008 rfl ?_
  refine r_iload hS dL_law_1009 rfl ?_
  refine r_iconst hS (1) dL_law_1011 (by decide) ?_
  refine r_iadd hS dL_law_1012 ?_
  refine r_top (nI (i + 1)) (nI_add i 1) ?_
  refine r_sld hG (i + 1) dL_law_1013 rfl (by omega) hL ?_
  refine r_cVI1 hS mk_L_116 dL_law_1014 rfl (show 88 < 140 by decide) hC2 (by decide) ⟨show c ≤ 601024 by omega, show s ≤ 7293034 by omega⟩ (Nat.le_of_ble_eq_true rfl) (fun x2 M2 h2 => ?_)
  obtain ⟨e, hI2⟩ := hk2 x2 M2 h2
  exact r_icmp_eq hS 1022 dL_law_1017 (by decide) (fun _ => hT M2 c s x5 x6 hI2 (by omega) (by omega)) (fun hc => absurd e hc)

set_option maxRecDepth 100000 in
set_option maxHeartbeats 1000000 in
theorem cs_look {b L : Nat} {xs : Nat → Int32} {G : gJ} (hG : gSl b L xs G) (hL : L ≤ 3584) {M : gM} (hI : Inv M) {i : Nat} (hi : i + 7 ≤ L) {c s : Nat} (hc : c + 1 ≤ 601024) (hs : s + 6 ≤ 7293034) {x5 x6 : Option Value} (hT : ∀ M2 c2 s2 x5 x6, Inv M2 → c2 ≤ c + 1 → s2 ≤ s + 6 → G (140, c2, s2) 1022 [some (.ref 3000), some (.ref 0), some (.ref 88), some (.ref 139), some (.int (nI i)), x5, x6] [] M2) : G (140, c, s) 855 [some (.ref 3000), some (.ref 0), some (.ref 88), some (.ref 139), some (.int (nI i)), x5, x6] [] M := by
  have hS := hG.s
  refine r_aload_n hS dL_law_855 rfl ?_
  refine r_aload_n hS dL_law_856 rfl ?_
  refine r_iload hS dL_law_857 rfl ?_
  refine r_iconst hS (1) dL_law_859 (by decide) ?_
  refine r_iadd hS dL_law_860 ?_
  refine r_top (nI (i + 1)) (nI_add i 1) ?_
  refine r_sld hG (i + 1) dL_law_861 rfl (by omega) hL ?_
  refine r_aload_n hS dL_law_862 rfl ?_
  refine r_iload hS dL_law_863 rfl ?_
  refine r_iconst hS (2) dL_law_865 (by decide) ?_
  refine r_iadd hS dL_law_866 ?_
  refine r_top (nI (i + 2)) (nI_add i 2) ?_
  refine r_sld hG (i + 2) dL_law_867 rfl (by omega) hL ?_
  refine r_aload_n hS dL_law_868 rfl ?_
  obtain ⟨bb, h, nv, ns, nt, nb, nd, nw, t, s0, hR, r⟩ := hI
  have l := r.1
  have l1 := l.1
  have r2 := r.2.1
  refine r_cLook hG dL_law_869 (ct_L_look hR r2.1 l.1 (xs (i + 1)) (xs (i + 2))) ⟨show c + 1 ≤ 601024 by omega, show s + 6 ≤ 7293034 by omega⟩ (fun x1 M1 h1 => ?_)
  refine r_istore hS dL_law_872 (by decide) ?_
  refine r_loc [some (.ref 3000), some (.ref 0), some (.ref 88), some (.ref 139), some (.int (nI i)), some (.int x1), x6] rfl ?_
  have hM1 : M1.1 = M.1 ∧ M1.2.2 = M.2.2 ∧ ∀ w, w < 10 → M1.2.1 93 w = M.2.1 93 w := by
    rcases h1 with ⟨_, _, -, -, -, -, -, rfl⟩ | ⟨-, -, rfl⟩
    · exact ⟨rfl, rfl, fun w hw => gwL_n (by omega)⟩
    · exact ⟨rfl, rfl, fun w hw => rfl⟩
  have hR1 : M1.2.2 = stdR bb := by rw [hM1.2.1]; exact hR
  have r1 : Rl bb h nv ns nt nb nd nw t s0 M1 M1 := (r.c (fun k j _ => by rw [hM1.1])).m (fun k j _ => by rw [hM1.1]) hM1.2.2
  have r3 := r1.2.2.1
  refine r_aload_n hS dL_law_874 rfl ?_
  refine r_aload_n hS dL_law_875 rfl ?_
  refine r_iload hS dL_law_876 rfl ?_
  refine r_iconst hS (1) dL_law_878 (by decide) ?_
  refine r_iadd hS dL_law_879 ?_
  refine r_top (nI (i + 1)) (nI_add i 1) ?_
  refine r_sld hG (i + 1) dL_law_880 rfl (by omega) hL ?_
  refine r_aload_n hS dL_law_881 rfl ?_
  refine r_iload hS dL_law_882 rfl ?_
  refine r_iconst hS (2) dL_law_884 (by decide) ?_
  refine r_iadd hS dL_law_885 ?_
  refine r_top (nI (i + 2)) (nI_add i 2) ?_
  refine r_sld hG (i + 2) dL_law_886 rfl (by omega) hL ?_
  refine r_cVI2 hS mk_L_101 dL_law_887 rfl (show 88 < 140 by decide) (ct_X9_look hR1 r3.1 l.1 r3.2.1 l.2.1 r3.2.2.1 l.2.2.1 r3.2.2.2.1 l.2.2.2.1 r3.2.2.2.2.2 l.2.2.2.2.2 (xs (i + 1)) (xs (i + 2))) (by decide) ⟨show c + 1 ≤ 601024 by omega, show s + 6 ≤ 7293034 by omega⟩ (Nat.le_of_ble_eq_true rfl) (fun x2 M2 h2 => ?_)
  refine r_istore hS dL_law_890 (by decide) ?_
  refine r_loc [some (.ref 3000), some (.ref 0), some (.ref 88), some (.ref 139), some (.int (nI i)), some (.int x1), some (.int x2)] rfl ?_
  have hR2 : M2.2.2 = stdR bb := by
    rcases h2 with ⟨_, _, -, -, -, -, -, rfl⟩ | ⟨-, -, rfl⟩
    · exact hR1
    · exact hR1
  refine r_aload_n hS dL_law_892 rfl ?_
  refine r_cVI0 hS mk_L_102 dL_law_893 rfl (show 88 < 140 by decide) (ct_X9_thrown hR2) (by decide) ⟨show c + 1 ≤ 601024 by omega, show s + 6 ≤ 7293034 by omega⟩ (Nat.le_of_ble_eq_true rfl) (fun x3 M3 h3 => ?_)
  obtain ⟨rfl, rfl⟩ := h3
  refine r_iload hS dL_law_896 rfl ?_
  have hval : (∃ q w, q < nv ∧ xs (i + 1) = nI q ∧ w < 9 ∧ xs (i + 2) = nI w) ↔ (vIn (xs (i + 1)) nv ∧ 0 ≤ xs (i + 2) ∧ xs (i + 2) ≤ 8) := by
    constructor
    · rintro ⟨q, w, h1, h2, h3, h4⟩; rw [h4]; exact ⟨⟨q, h1, h2⟩, nI_pos' (by omega), nI_le (b := 8) (by omega) (by omega)⟩
    · rintro ⟨⟨q, h1, h2⟩, h3⟩
      obtain ⟨w, e, -, hw⟩ := rng (lo := 0) (hi := 8) (by omega) (by omega) h3
      exact ⟨q, w, h1, h2, by omega, e⟩
  rcases h1 with ⟨q, w, hq, e1, hw, e2, rfl, rfl⟩ | ⟨hno, rfl, rfl⟩
  · rcases h2 with ⟨q', w', hq', e1', hw', e2', rfl, rfl⟩ | ⟨hno, -⟩
    · obtain rfl : q = q' := neq_t (by omega) (by omega) (e1.symm.trans e1')
      obtain rfl : w = w' := neq_t (by omega) (by omega) (e2.symm.trans e2')
      refine r_icmp_eq hS 903 dL_law_898 (by decide) (fun _ => ?_) (fun hc => absurd gwI_s hc)
      refine r_iload hS dL_law_903 rfl ?_
      refine r_if_ne hS 920 dL_law_905 (by decide) (fun hc => absurd rfl hc) (fun _ => ?_)
      refine r_aload_n hS dL_law_908 rfl ?_
      refine r_iconst hS (0) dL_law_909 (by decide) ?_
      refine r_laldv hS 0 (fTold M (2 * q + 42) w).toInt64 dL_law_910 rfl (show 139 < 140 by decide) rfl (by decide) (by decide) gwL_s ?_
      refine r_iload hS dL_law_911 rfl ?_
      refine r_i2l hS dL_law_913 ?_
      refine r_lcmp hS dL_law_914 ?_
      refine r_if_eq hS 920 dL_law_915 (by decide) (fun _ => ?_) (fun hc => absurd (lc_eq.mpr (by rw [told_eq r hq hw]; rfl)) hc)
      refine r_goto hS 1022 dL_law_920 (by decide) ?_
      exact hT _ (c + 1) (s + 6) _ _ (Inv.t0 hR1 r1) (by omega) (by omega)
    · exact absurd ⟨q, w, hq, e1, hw, e2⟩ hno
  · rcases h2 with ⟨q', w', hq', e1', hw', e2', -, -⟩ | ⟨-, rfl, rfl⟩
    · exact absurd (hval.mp ⟨q', w', hq', e1', hw', e2'⟩) hno
    · refine r_icmp_eq hS 903 dL_law_898 (by decide) (fun _ => ?_) (fun hc => absurd gwI_s hc)
      refine r_iload hS dL_law_903 rfl ?_
      refine r_if_ne hS 920 dL_law_905 (by decide) (fun _ => ?_) (fun hc => absurd hc (by decide))
      refine r_goto hS 1022 dL_law_920 (by decide) ?_
      exact hT _ (c + 1) (s + 6) _ _ (Inv.t0 hR1 r1) (by omega) (by omega)

theorem isub7 {L i : Nat} (hL : L ≤ 3584) (hi : i ≤ 10000) : nI L - 7 < nI i ↔ L < i + 7 := by
  have e := pk_sub_toInt (a := L) (b := 7) (by omega) (by omega)
  constructor
  · intro z
    have h1 := Int32.lt_iff_toInt_lt.mp z
    rw [show (7 : Int32) = nI 7 from rfl, e, nI_toInt (by omega)] at h1
    omega
  · intro z
    refine Int32.lt_iff_toInt_lt.mpr ?_
    rw [show (7 : Int32) = nI 7 from rfl, e, nI_toInt (by omega)]
    omega
set_option maxRecDepth 100000 in
set_option maxHeartbeats 4000000 in
theorem lp_law {b L : Nat} {xs : Nat → Int32} {G : gJ} (hG : gSl b L xs G) (hL : L ≤ 3584) (hO : OpenH) : ∀ (r i : Nat) (M : gM) (c s : Nat) (x5 x6 : Option Value), Inv M → i ≤ L → L ≤ i + r → c + (r + 1) ≤ 601024 → s + 6 * (r + 1) ≤ 7293034 → G (140, c, s) 23 [some (.ref 3000), some (.ref 0), some (.ref 88), some (.ref 139), some (.int (nI i)), x5, x6] [] M := by
  have hS := hG.s
  intro r
  induction r with
  | zero =>
    intro i M c s x5 x6 hI hi hr hc hs
    refine r_iload hS dL_law_23 rfl ?_
    refine r_aload_n hS dL_law_25 rfl ?_
    refine r_slen hG dL_law_26 ?_
    refine r_bipush hS (7) dL_law_27 (by decide) ?_
    refine r_isub hS dL_law_29 ?_
    refine r_icmp_gt hS 1028 dL_law_30 (by decide) (fun _ => ?_) (fun hc => absurd ((isub7 hL (by omega)).mpr (by omega)) hc)
    refine r_iconst hS (1) dL_law_1028 (by decide) ?_
    exact r_lend hG dL_law_1029 (show c ≤ 601024 by omega) (show s ≤ 7293034 by omega)
  | succ r ih =>
    intro i M c s x5 x6 hI hi hr hc hs
    refine r_iload hS dL_law_23 rfl ?_
    refine r_aload_n hS dL_law_25 rfl ?_
    refine r_slen hG dL_law_26 ?_
    refine r_bipush hS (7) dL_law_27 (by decide) ?_
    refine r_isub hS dL_law_29 ?_
    refine r_icmp_gt hS 1028 dL_law_30 (by decide) (fun _ => ?_) (fun hc9 => ?_)
    · refine r_iconst hS (1) dL_law_1028 (by decide) ?_
      exact r_lend hG dL_law_1029 (show c ≤ 601024 by omega) (show s ≤ 7293034 by omega)
    · have hi7 : i + 7 ≤ L := Nat.not_lt.mp (fun z => hc9 ((isub7 hL (by omega)).mpr z))
      have hT : ∀ M2 c2 s2 x5 x6, Inv M2 → c2 ≤ c + 1 → s2 ≤ s + 6 → G (140, c2, s2) 1022 [some (.ref 3000), some (.ref 0), some (.ref 88), some (.ref 139), some (.int (nI i)), x5, x6] [] M2 := by
        intro M2 c2 s2 x5 x6 hI2 h1 h2
        refine r_iinc hS (7) dL_law_1022 (by decide) rfl ?_
        refine r_loc [some (.ref 3000), some (.ref 0), some (.ref 88), some (.ref 139), some (.int (nI i + 7)), x5, x6] rfl ?_
        refine r_goto hS 23 dL_law_1025 (by decide) ?_
        rw [show nI i + 7 = nI (i + 7) from nI_add i 7]
        exact ih (i + 7) M2 c2 s2 x5 x6 hI2 hi7 (by omega) (by omega) (by omega)
      refine r_aload_n hS dL_law_33 rfl ?_
      refine r_iload hS dL_law_34 rfl ?_
      refine r_sld hG i dL_law_36 rfl (by omega) hL ?_
      refine r_bipush hS (31) dL_law_37 (by decide) ?_
      refine r_iand hS dL_law_39 ?_
      obtain ⟨q, hq32, hq⟩ := and31 (xs i)
      rcases (show q = 0 ∨ q = 1 ∨ q = 2 ∨ q = 3 ∨ q = 4 ∨ q = 5 ∨ q = 6 ∨ q = 7 ∨ q = 8 ∨ q = 9 ∨ q = 10 ∨ q = 11 ∨ q = 12 ∨ q = 13 ∨ q = 14 ∨ q = 15 ∨ q = 16 ∨ q = 17 ∨ q = 18 ∨ q = 19 ∨ q = 20 ∨ 21 ≤ q by omega) with rfl | rfl | rfl | rfl | rfl | rfl | rfl | rfl | rfl | rfl | rfl | rfl | rfl | rfl | rfl | rfl | rfl | rfl | rfl | rfl | rfl | h21
      · rw [hq]
        refine r_tableIn hS (off := 100) 140 dL_law_40 (by decide) (by decide) (by decide) (by decide) ?_
        exact cs_village hG hL hI hi7 (by omega) (by omega) hT
      · rw [hq]
        refine r_tableIn hS (off := 161) 201 dL_law_40 (by decide) (by decide) (by decide) (by decide) ?_
        exact cs_spring hG hL hI hi7 (by omega) (by omega) hT
      · rw [hq]
        refine r_tableIn hS (off := 210) 250 dL_law_40 (by decide) (by decide) (by decide) (by decide) ?_
        exact cs_tanker hG hL hI hi7 (by omega) (by omega) hT
      · rw [hq]
        refine r_tableIn hS (off := 259) 299 dL_law_40 (by decide) (by decide) (by decide) (by decide) ?_
        exact cs_way hG hL hI hi7 (by omega) (by omega) hT
      · rw [hq]
        refine r_tableIn hS (off := 308) 348 dL_law_40 (by decide) (by decide) (by decide) (by decide) ?_
        exact cs_feed hG hL hI hi7 (by omega) (by omega) hT
      · rw [hq]
        refine r_tableIn hS (off := 455) 495 dL_law_40 (by decide) (by decide) (by decide) (by decide) ?_
        exact cs_text hG hL hI hi7 (by omega) (by omega) hT
      · rw [hq]
        refine r_tableIn hS (off := 468) 508 dL_law_40 (by decide) (by decide) (by decide) (by decide) ?_
        exact cs_want hG hL hI hi7 (by omega) (by omega) hT
      · rw [hq]
        refine r_tableIn hS (off := 493) 533 dL_law_40 (by decide) (by decide) (by decide) (by decide) ?_
        exact cs_plan hG hL hI hi7 (by omega) (by omega) hO hT
      · rw [hq]
        refine r_tableIn hS (off := 518) 558 dL_law_40 (by decide) (by decide) (by decide) (by decide) ?_
        exact cs_planned hG hL hI hi7 (by omega) (by omega) hO hT
      · rw [hq]
        refine r_tableIn hS (off := 543) 583 dL_law_40 (by decide) (by decide) (by decide) (by decide) ?_
        exact cs_days hG hL hI hi7 (by omega) (by omega) hO hT
      · rw [hq]
        refine r_tableIn hS (off := 568) 608 dL_law_40 (by decide) (by decide) (by decide) (by decide) ?_
        exact cs_foretold hG hL hI hi7 (by omega) (by omega) hT
      · rw [hq]
        refine r_tableIn hS (off := 593) 633 dL_law_40 (by decide) (by decide) (by decide) (by decide) ?_
        exact cs_bore hG hL hI hi7 (by omega) (by omega) hT
      · rw [hq]
        refine r_tableIn hS (off := 642) 682 dL_law_40 (by decide) (by decide) (by decide) (by decide) ?_
        exact cs_best hG hL hI hi7 (by omega) (by omega) hT
      · rw [hq]
        refine r_tableIn hS (off := 667) 707 dL_law_40 (by decide) (by decide) (by decide) (by decide) ?_
        exact cs_drill hG hL hI hi7 (by omega) (by omega) hT
      · rw [hq]
        refine r_tableIn hS (off := 704) 744 dL_law_40 (by decide) (by decide) (by decide) (by decide) ?_
        exact cs_dip hG hL hI hi7 (by omega) (by omega) hT
      · rw [hq]
        refine r_tableIn hS (off := 765) 805 dL_law_40 (by decide) (by decide) (by decide) (by decide) ?_
        exact cs_isShort hG hL hI hi7 (by omega) (by omega) hT
      · rw [hq]
        refine r_tableIn hS (off := 790) 830 dL_law_40 (by decide) (by decide) (by decide) (by decide) ?_
        exact cs_share hG hL hI hi7 (by omega) (by omega) hT
      · rw [hq]
        refine r_tableIn hS (off := 815) 855 dL_law_40 (by decide) (by decide) (by decide) (by decide) ?_
        exact cs_look hG hL hI hi7 (by omega) (by omega) hT
      · rw [hq]
        refine r_tableIn hS (off := 883) 923 dL_law_40 (by decide) (by decide) (by decide) (by decide) ?_
        exact cs_flows hG hL hI hi7 (by omega) (by omega) hT
      · rw [hq]
        refine r_tableIn hS (off := 920) 960 dL_law_40 (by decide) (by decide) (by decide) (by decide) ?_
        exact cs_goes hG hL hI hi7 (by omega) (by omega) hT
      · rw [hq]
        refine r_tableIn hS (off := 957) 997 dL_law_40 (by decide) (by decide) (by decide) (by decide) ?_
        exact cs_count hG hL hI hi7 (by omega) (by omega) hT
      · rw [hq]
        refine r_tableOut hS 1022 dL_law_40 ?_ (by decide) ?_
        · rw [nI_toInt (by omega)]; omega
        · exact hT M c s x5 x6 hI (by omega) (by omega)
