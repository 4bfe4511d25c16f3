abbrev mL_law : MM := (yL_law, cL_law, 4, (some .boolean))
set_option maxRecDepth 100000 in
theorem law_loop {X : CT} (hF : Fix mL_law 11 X) {L : Nat} {xs : Nat → Int32} (hX : Sc X L xs) (hL : L ≤ 2147483647) (hdone : ∀ σ lv, Gs X 835 lv [] σ) (σ : Sg) (hJ : JI σ) : Gs X 18 [some (vR 95), some (vR 0), some (vR 73), some (vI 0)] [] σ := by
  refine gs_loop (α := Sg) (fun k _ => [some (vR 95), some (vR 0), some (vR 73), some (vI (4 * (k : Int)))]) (fun σ' => σ') (fun k σ' => JI σ') (L / 4) (fun σ1 h1 => ?_) (fun k σ1 hk h1 ih => ?_) σ hJ
  · refine jr_iload_n hF dL_law_18 (q := 19) rfl rfl ?_
    refine jr_aload_n hF dL_law_19 (q := 20) rfl rfl ?_
    refine jr_slen hF hX dL_law_20 (q := 21) rfl ?_
    refine jr_iconst hF dL_law_21 (q := 22) rfl (by decide) ?_
    refine jr_isub hF dL_law_22 (q := 23) rfl (by omega) ?_
    refine jr_icmp_gt hF dL_law_23 (q := 26) rfl 835 (by decide) (fun a1 => ?_) (fun a1 => ?_)
    · exact hdone _ _
    · omega
  · have hnext : ∀ σ2, JI σ2 → Gs X 829 [some (vR 95), some (vR 0), some (vR 73), some (vI (4 * (k : Int)))] [] σ2 := by
      intro σ2 h2
      have ih1 := ih σ2 h2
      rw [show 4 * ((k + 1 : Nat) : Int) = 4 * (k : Int) + 4 by omega] at ih1
      refine jr_iinc hF dL_law_829 (q := 832) rfl (by decide) rfl rfl (by omega) ?_
      refine jr_goto hF dL_law_832 18 (by decide) ?_
      exact ih1
    refine jr_iload_n hF dL_law_18 (q := 19) rfl rfl ?_
    refine jr_aload_n hF dL_law_19 (q := 20) rfl rfl ?_
    refine jr_slen hF hX dL_law_20 (q := 21) rfl ?_
    refine jr_iconst hF dL_law_21 (q := 22) rfl (by decide) ?_
    refine jr_isub hF dL_law_22 (q := 23) rfl (by omega) ?_
    refine jr_icmp_gt hF dL_law_23 (q := 26) rfl 835 (by decide) (fun a1 => ?_) (fun a1 => ?_)
    · omega
    · refine jr_aload_n hF dL_law_26 (q := 27) rfl rfl ?_
      refine jr_iload_n hF dL_law_27 (q := 28) rfl rfl ?_
      refine jr_sld hF hX dL_law_28 (q := 29) rfl (by omega) ?_
      refine jr_bipush hF dL_law_29 (q := 31) rfl (by decide) (by decide +kernel) ?_
      refine jr_iand hF dL_law_31 (q := 32) rfl ?_
      rw [Int32.ofInt_toInt]
      have h31 := and31 (xs (4 * (k : Int)).toNat)
      generalize (xs (4 * (k : Int)).toNat &&& Int32.ofInt 31).toInt = c at h31
      by_cases hc : 24 < c
      · refine jr_tout hF dL_law_32 829 (Or.inr hc) (by decide) ?_
        exact hnext σ1 h1
      have hcs : c = 0 ∨ c = 1 ∨ c = 2 ∨ c = 3 ∨ c = 4 ∨ c = 5 ∨ c = 6 ∨ c = 7 ∨ c = 8 ∨ c = 9 ∨ c = 10 ∨ c = 11 ∨ c = 12 ∨ c = 13 ∨ c = 14 ∨ c = 15 ∨ c = 16 ∨ c = 17 ∨ c = 18 ∨ c = 19 ∨ c = 20 ∨ c = 21 ∨ c = 22 ∨ c = 23 ∨ c = 24 := by omega
      rcases hcs with rfl | rfl | rfl | rfl | rfl | rfl | rfl | rfl | rfl | rfl | rfl | rfl | rfl | rfl | rfl | rfl | rfl | rfl | rfl | rfl | rfl | rfl | rfl | rfl | rfl
      · refine jr_tin hF dL_law_32 148 (by decide) (by decide) rfl (by decide) ?_
        refine jr_aload_n hF dL_law_148 (q := 149) rfl rfl ?_
        refine jr_aload_n hF dL_law_149 (q := 150) rfl rfl ?_
        refine jr_iload_n hF dL_law_150 (q := 151) rfl rfl ?_
        refine jr_iconst hF dL_law_151 (q := 152) rfl (by decide) ?_
        refine jr_iadd hF dL_law_152 (q := 153) rfl (by omega) ?_
        refine jr_sld hF hX dL_law_153 (q := 154) rfl (by omega) ?_
        refine jr_aload_n hF dL_law_154 (q := 155) rfl rfl ?_
        refine jr_iload_n hF dL_law_155 (q := 156) rfl rfl ?_
        refine jr_iconst hF dL_law_156 (q := 157) rfl (by decide) ?_
        refine jr_iadd hF dL_law_157 (q := 158) rfl (by omega) ?_
        refine jr_sld hF hX dL_law_158 (q := 159) rfl (by omega) ?_
        refine jr_i2l hF dL_law_159 (q := 160) rfl ?_
        refine jr_bipush hF dL_law_160 (q := 162) rfl (by decide) (by decide +kernel) ?_
        refine jr_lshl hF dL_law_162 (q := 163) rfl ?_
        refine jr_aload_n hF dL_law_163 (q := 164) rfl rfl ?_
        refine jr_iload_n hF dL_law_164 (q := 165) rfl rfl ?_
        refine jr_iconst hF dL_law_165 (q := 166) rfl (by decide) ?_
        refine jr_iadd hF dL_law_166 (q := 167) rfl (by omega) ?_
        refine jr_sld hF hX dL_law_167 (q := 168) rfl (by omega) ?_
        refine jr_i2l hF dL_law_168 (q := 169) rfl ?_
        refine jr_ldc2 hF 4294967295 dL_law_169 (q := 172) rfl klL_13 (by decide) (by decide +kernel) ?_
        refine jr_land hF dL_law_172 (q := 173) rfl ?_
        refine jr_lor hF dL_law_173 (q := 174) rfl ?_
        refine jr_cV2I hF (p_write σ1 h1 _ _) dL_law_174 (q := 177) rfl lkL_15 vX9_write kX9_write rfl rfl rfl (by decide) (Nat.le_of_ble_eq_true rfl) (fun z σ2 hz => ?_)
        refine jr_aload_n hF dL_law_177 (q := 178) rfl rfl ?_
        refine jr_aload_n hF dL_law_178 (q := 179) rfl rfl ?_
        refine jr_iload_n hF dL_law_179 (q := 180) rfl rfl ?_
        refine jr_iconst hF dL_law_180 (q := 181) rfl (by decide) ?_
        refine jr_iadd hF dL_law_181 (q := 182) rfl (by omega) ?_
        refine jr_sld hF hX dL_law_182 (q := 183) rfl (by omega) ?_
        refine jr_aload_n hF dL_law_183 (q := 184) rfl rfl ?_
        refine jr_iload_n hF dL_law_184 (q := 185) rfl rfl ?_
        refine jr_iconst hF dL_law_185 (q := 186) rfl (by decide) ?_
        refine jr_iadd hF dL_law_186 (q := 187) rfl (by omega) ?_
        refine jr_sld hF hX dL_law_187 (q := 188) rfl (by omega) ?_
        refine jr_i2l hF dL_law_188 (q := 189) rfl ?_
        refine jr_bipush hF dL_law_189 (q := 191) rfl (by decide) (by decide +kernel) ?_
        refine jr_lshl hF dL_law_191 (q := 192) rfl ?_
        refine jr_aload_n hF dL_law_192 (q := 193) rfl rfl ?_
        refine jr_iload_n hF dL_law_193 (q := 194) rfl rfl ?_
        refine jr_iconst hF dL_law_194 (q := 195) rfl (by decide) ?_
        refine jr_iadd hF dL_law_195 (q := 196) rfl (by omega) ?_
        refine jr_sld hF hX dL_law_196 (q := 197) rfl (by omega) ?_
        refine jr_i2l hF dL_law_197 (q := 198) rfl ?_
        refine jr_ldc2 hF 4294967295 dL_law_198 (q := 201) rfl klL_13 (by decide) (by decide +kernel) ?_
        refine jr_land hF dL_law_201 (q := 202) rfl ?_
        refine jr_lor hF dL_law_202 (q := 203) rfl ?_
        refine jr_cV2I hF (hz) dL_law_203 (q := 206) rfl lkL_19 vX10_write kX10_write rfl rfl rfl (by decide) (Nat.le_of_ble_eq_true rfl) (fun z2 σ3 hz2 => ?_)
        obtain ⟨rfl, h3⟩ := hz2
        refine jr_icmp_eq hF dL_law_206 (q := 209) rfl 829 (by decide) (fun a2 => ?_) (fun a2 => ?_)
        · exact hnext σ3 h3
        · exact absurd rfl a2
      · refine jr_tin hF dL_law_32 211 (by decide) (by decide) rfl (by decide) ?_
        refine jr_aload_n hF dL_law_211 (q := 212) rfl rfl ?_
        refine jr_cV0I hF (p_wipe σ1 h1) dL_law_212 (q := 215) rfl lkL_20 vX9_wipe kX9_wipe rfl rfl rfl (by decide) (Nat.le_of_ble_eq_true rfl) (fun z σ2 hz => ?_)
        refine jr_aload_n hF dL_law_215 (q := 216) rfl rfl ?_
        refine jr_cV0I hF (hz) dL_law_216 (q := 219) rfl lkL_24 vX10_wipe kX10_wipe rfl rfl rfl (by decide) (Nat.le_of_ble_eq_true rfl) (fun z2 σ3 hz2 => ?_)
        obtain ⟨rfl, h3⟩ := hz2
        refine jr_icmp_eq hF dL_law_219 (q := 222) rfl 829 (by decide) (fun a2 => ?_) (fun a2 => ?_)
        · exact hnext σ3 h3
        · exact absurd rfl a2
      · refine jr_tin hF dL_law_32 224 (by decide) (by decide) rfl (by decide) ?_
        refine jr_aload_n hF dL_law_224 (q := 225) rfl rfl ?_
        refine jr_cV0I hF (p_fault σ1 h1) dL_law_225 (q := 228) rfl lkL_25 vX9_fault kX9_fault rfl rfl rfl (by decide) (Nat.le_of_ble_eq_true rfl) (fun z σ2 hz => ?_)
        refine jr_aload_n hF dL_law_228 (q := 229) rfl rfl ?_
        refine jr_cV0I hF (hz) dL_law_229 (q := 232) rfl lkL_28 vX10_fault kX10_fault rfl rfl rfl (by decide) (Nat.le_of_ble_eq_true rfl) (fun z2 σ3 hz2 => ?_)
        obtain ⟨rfl, h3⟩ := hz2
        refine jr_icmp_eq hF dL_law_232 (q := 235) rfl 829 (by decide) (fun a2 => ?_) (fun a2 => ?_)
        · exact hnext σ3 h3
        · exact absurd rfl a2
      · refine jr_tin hF dL_law_32 237 (by decide) (by decide) rfl (by decide) ?_
        refine jr_aload_n hF dL_law_237 (q := 238) rfl rfl ?_
        refine jr_cV0I hF (p_lay σ1 h1) dL_law_238 (q := 241) rfl lkL_29 vX9_lay kX9_lay rfl rfl rfl (by decide) (Nat.le_of_ble_eq_true rfl) (fun z σ2 hz => ?_)
        refine jr_aload_n hF dL_law_241 (q := 242) rfl rfl ?_
        refine jr_cV0I hF (hz) dL_law_242 (q := 245) rfl lkL_32 vX10_lay kX10_lay rfl rfl rfl (by decide) (Nat.le_of_ble_eq_true rfl) (fun z2 σ3 hz2 => ?_)
        obtain ⟨rfl, h3⟩ := hz2
        refine jr_icmp_eq hF dL_law_245 (q := 248) rfl 829 (by decide) (fun a2 => ?_) (fun a2 => ?_)
        · exact hnext σ3 h3
        · exact absurd rfl a2
      · refine jr_tin hF dL_law_32 250 (by decide) (by decide) rfl (by decide) ?_
        refine jr_aload_n hF dL_law_250 (q := 251) rfl rfl ?_
        refine jr_aload_n hF dL_law_251 (q := 252) rfl rfl ?_
        refine jr_iload_n hF dL_law_252 (q := 253) rfl rfl ?_
        refine jr_iconst hF dL_law_253 (q := 254) rfl (by decide) ?_
        refine jr_iadd hF dL_law_254 (q := 255) rfl (by omega) ?_
        refine jr_sld hF hX dL_law_255 (q := 256) rfl (by omega) ?_
        refine jr_aload_n hF dL_law_256 (q := 257) rfl rfl ?_
        refine jr_iload_n hF dL_law_257 (q := 258) rfl rfl ?_
        refine jr_iconst hF dL_law_258 (q := 259) rfl (by decide) ?_
        refine jr_iadd hF dL_law_259 (q := 260) rfl (by omega) ?_
        refine jr_sld hF hX dL_law_260 (q := 261) rfl (by omega) ?_
        refine jr_cV2I hF (p_lad σ1 h1 _ _) dL_law_261 (q := 264) rfl lkL_33 vX9_lad kX9_lad rfl rfl rfl (by decide) (Nat.le_of_ble_eq_true rfl) (fun z σ2 hz => ?_)
        refine jr_aload_n hF dL_law_264 (q := 265) rfl rfl ?_
        refine jr_aload_n hF dL_law_265 (q := 266) rfl rfl ?_
        refine jr_iload_n hF dL_law_266 (q := 267) rfl rfl ?_
        refine jr_iconst hF dL_law_267 (q := 268) rfl (by decide) ?_
        refine jr_iadd hF dL_law_268 (q := 269) rfl (by omega) ?_
        refine jr_sld hF hX dL_law_269 (q := 270) rfl (by omega) ?_
        refine jr_aload_n hF dL_law_270 (q := 271) rfl rfl ?_
        refine jr_iload_n hF dL_law_271 (q := 272) rfl rfl ?_
        refine jr_iconst hF dL_law_272 (q := 273) rfl (by decide) ?_
        refine jr_iadd hF dL_law_273 (q := 274) rfl (by omega) ?_
        refine jr_sld hF hX dL_law_274 (q := 275) rfl (by omega) ?_
        refine jr_cV2I hF (hz) dL_law_275 (q := 278) rfl lkL_37 vX10_lad kX10_lad rfl rfl rfl (by decide) (Nat.le_of_ble_eq_true rfl) (fun z2 σ3 hz2 => ?_)
        obtain ⟨rfl, h3⟩ := hz2
        refine jr_icmp_eq hF dL_law_278 (q := 281) rfl 829 (by decide) (fun a2 => ?_) (fun a2 => ?_)
        · exact hnext σ3 h3
        · exact absurd rfl a2
      · refine jr_tin hF dL_law_32 283 (by decide) (by decide) rfl (by decide) ?_
        refine jr_aload_n hF dL_law_283 (q := 284) rfl rfl ?_
        refine jr_aload_n hF dL_law_284 (q := 285) rfl rfl ?_
        refine jr_iload_n hF dL_law_285 (q := 286) rfl rfl ?_
        refine jr_iconst hF dL_law_286 (q := 287) rfl (by decide) ?_
        refine jr_iadd hF dL_law_287 (q := 288) rfl (by omega) ?_
        refine jr_sld hF hX dL_law_288 (q := 289) rfl (by omega) ?_
        refine jr_aload_n hF dL_law_289 (q := 290) rfl rfl ?_
        refine jr_iload_n hF dL_law_290 (q := 291) rfl rfl ?_
        refine jr_iconst hF dL_law_291 (q := 292) rfl (by decide) ?_
        refine jr_iadd hF dL_law_292 (q := 293) rfl (by omega) ?_
        refine jr_sld hF hX dL_law_293 (q := 294) rfl (by omega) ?_
        refine jr_cV2I hF (p_master σ1 h1 _ _) dL_law_294 (q := 297) rfl lkL_38 vX9_master kX9_master rfl rfl rfl (by decide) (Nat.le_of_ble_eq_true rfl) (fun z σ2 hz => ?_)
        refine jr_aload_n hF dL_law_297 (q := 298) rfl rfl ?_
        refine jr_aload_n hF dL_law_298 (q := 299) rfl rfl ?_
        refine jr_iload_n hF dL_law_299 (q := 300) rfl rfl ?_
        refine jr_iconst hF dL_law_300 (q := 301) rfl (by decide) ?_
        refine jr_iadd hF dL_law_301 (q := 302) rfl (by omega) ?_
        refine jr_sld hF hX dL_law_302 (q := 303) rfl (by omega) ?_
        refine jr_aload_n hF dL_law_303 (q := 304) rfl rfl ?_
        refine jr_iload_n hF dL_law_304 (q := 305) rfl rfl ?_
        refine jr_iconst hF dL_law_305 (q := 306) rfl (by decide) ?_
        refine jr_iadd hF dL_law_306 (q := 307) rfl (by omega) ?_
        refine jr_sld hF hX dL_law_307 (q := 308) rfl (by omega) ?_
        refine jr_cV2I hF (hz) dL_law_308 (q := 311) rfl lkL_41 vX10_master kX10_master rfl rfl rfl (by decide) (Nat.le_of_ble_eq_true rfl) (fun z2 σ3 hz2 => ?_)
        obtain ⟨rfl, h3⟩ := hz2
        refine jr_icmp_eq hF dL_law_311 (q := 314) rfl 829 (by decide) (fun a2 => ?_) (fun a2 => ?_)
        · exact hnext σ3 h3
        · exact absurd rfl a2
      · refine jr_tin hF dL_law_32 316 (by decide) (by decide) rfl (by decide) ?_
        refine jr_aload_n hF dL_law_316 (q := 317) rfl rfl ?_
        refine jr_aload_n hF dL_law_317 (q := 318) rfl rfl ?_
        refine jr_iload_n hF dL_law_318 (q := 319) rfl rfl ?_
        refine jr_iconst hF dL_law_319 (q := 320) rfl (by decide) ?_
        refine jr_iadd hF dL_law_320 (q := 321) rfl (by omega) ?_
        refine jr_sld hF hX dL_law_321 (q := 322) rfl (by omega) ?_
        refine jr_aload_n hF dL_law_322 (q := 323) rfl rfl ?_
        refine jr_iload_n hF dL_law_323 (q := 324) rfl rfl ?_
        refine jr_iconst hF dL_law_324 (q := 325) rfl (by decide) ?_
        refine jr_iadd hF dL_law_325 (q := 326) rfl (by omega) ?_
        refine jr_sld hF hX dL_law_326 (q := 327) rfl (by omega) ?_
        refine jr_aload_n hF dL_law_327 (q := 328) rfl rfl ?_
        refine jr_iload_n hF dL_law_328 (q := 329) rfl rfl ?_
        refine jr_iconst hF dL_law_329 (q := 330) rfl (by decide) ?_
        refine jr_iadd hF dL_law_330 (q := 331) rfl (by omega) ?_
        refine jr_sld hF hX dL_law_331 (q := 332) rfl (by omega) ?_
        refine jr_cV3I hF (p_wants σ1 h1 _ _ _) dL_law_332 (q := 335) rfl lkL_42 vX9_wants kX9_wants rfl rfl rfl (by decide) (Nat.le_of_ble_eq_true rfl) (fun z σ2 hz => ?_)
        refine jr_aload_n hF dL_law_335 (q := 336) rfl rfl ?_
        refine jr_aload_n hF dL_law_336 (q := 337) rfl rfl ?_
        refine jr_iload_n hF dL_law_337 (q := 338) rfl rfl ?_
        refine jr_iconst hF dL_law_338 (q := 339) rfl (by decide) ?_
        refine jr_iadd hF dL_law_339 (q := 340) rfl (by omega) ?_
        refine jr_sld hF hX dL_law_340 (q := 341) rfl (by omega) ?_
        refine jr_aload_n hF dL_law_341 (q := 342) rfl rfl ?_
        refine jr_iload_n hF dL_law_342 (q := 343) rfl rfl ?_
        refine jr_iconst hF dL_law_343 (q := 344) rfl (by decide) ?_
        refine jr_iadd hF dL_law_344 (q := 345) rfl (by omega) ?_
        refine jr_sld hF hX dL_law_345 (q := 346) rfl (by omega) ?_
        refine jr_aload_n hF dL_law_346 (q := 347) rfl rfl ?_
        refine jr_iload_n hF dL_law_347 (q := 348) rfl rfl ?_
        refine jr_iconst hF dL_law_348 (q := 349) rfl (by decide) ?_
        refine jr_iadd hF dL_law_349 (q := 350) rfl (by omega) ?_
        refine jr_sld hF hX dL_law_350 (q := 351) rfl (by omega) ?_
        refine jr_cV3I hF (hz) dL_law_351 (q := 354) rfl lkL_46 vX10_wants kX10_wants rfl rfl rfl (by decide) (Nat.le_of_ble_eq_true rfl) (fun z2 σ3 hz2 => ?_)
        obtain ⟨rfl, h3⟩ := hz2
        refine jr_icmp_eq hF dL_law_354 (q := 357) rfl 829 (by decide) (fun a2 => ?_) (fun a2 => ?_)
        · exact hnext σ3 h3
        · exact absurd rfl a2
      · refine jr_tin hF dL_law_32 359 (by decide) (by decide) rfl (by decide) ?_
        refine jr_aload_n hF dL_law_359 (q := 360) rfl rfl ?_
        refine jr_aload_n hF dL_law_360 (q := 361) rfl rfl ?_
        refine jr_iload_n hF dL_law_361 (q := 362) rfl rfl ?_
        refine jr_iconst hF dL_law_362 (q := 363) rfl (by decide) ?_
        refine jr_iadd hF dL_law_363 (q := 364) rfl (by omega) ?_
        refine jr_sld hF hX dL_law_364 (q := 365) rfl (by omega) ?_
        refine jr_cV1I hF (p_all σ1 h1 _) dL_law_365 (q := 368) rfl lkL_47 vX9_all kX9_all rfl rfl rfl (by decide) (Nat.le_of_ble_eq_true rfl) (fun z σ2 hz => ?_)
        refine jr_aload_n hF dL_law_368 (q := 369) rfl rfl ?_
        refine jr_aload_n hF dL_law_369 (q := 370) rfl rfl ?_
        refine jr_iload_n hF dL_law_370 (q := 371) rfl rfl ?_
        refine jr_iconst hF dL_law_371 (q := 372) rfl (by decide) ?_
        refine jr_iadd hF dL_law_372 (q := 373) rfl (by omega) ?_
        refine jr_sld hF hX dL_law_373 (q := 374) rfl (by omega) ?_
        refine jr_cV1I hF (hz) dL_law_374 (q := 377) rfl lkL_51 vX10_all kX10_all rfl rfl rfl (by decide) (Nat.le_of_ble_eq_true rfl) (fun z2 σ3 hz2 => ?_)
        obtain ⟨rfl, h3⟩ := hz2
        refine jr_icmp_eq hF dL_law_377 (q := 380) rfl 829 (by decide) (fun a2 => ?_) (fun a2 => ?_)
        · exact hnext σ3 h3
        · exact absurd rfl a2
      · refine jr_tin hF dL_law_32 382 (by decide) (by decide) rfl (by decide) ?_
        refine jr_aload_n hF dL_law_382 (q := 383) rfl rfl ?_
        refine jr_aload_n hF dL_law_383 (q := 384) rfl rfl ?_
        refine jr_iload_n hF dL_law_384 (q := 385) rfl rfl ?_
        refine jr_iconst hF dL_law_385 (q := 386) rfl (by decide) ?_
        refine jr_iadd hF dL_law_386 (q := 387) rfl (by omega) ?_
        refine jr_sld hF hX dL_law_387 (q := 388) rfl (by omega) ?_
        refine jr_aload_n hF dL_law_388 (q := 389) rfl rfl ?_
        refine jr_iload_n hF dL_law_389 (q := 390) rfl rfl ?_
        refine jr_iconst hF dL_law_390 (q := 391) rfl (by decide) ?_
        refine jr_iadd hF dL_law_391 (q := 392) rfl (by omega) ?_
        refine jr_sld hF hX dL_law_392 (q := 393) rfl (by omega) ?_
        refine jr_cV2I hF (p_limit σ1 h1 _ _) dL_law_393 (q := 396) rfl lkL_52 vX9_limit kX9_limit rfl rfl rfl (by decide) (Nat.le_of_ble_eq_true rfl) (fun z σ2 hz => ?_)
        refine jr_aload_n hF dL_law_396 (q := 397) rfl rfl ?_
        refine jr_aload_n hF dL_law_397 (q := 398) rfl rfl ?_
        refine jr_iload_n hF dL_law_398 (q := 399) rfl rfl ?_
        refine jr_iconst hF dL_law_399 (q := 400) rfl (by decide) ?_
        refine jr_iadd hF dL_law_400 (q := 401) rfl (by omega) ?_
        refine jr_sld hF hX dL_law_401 (q := 402) rfl (by omega) ?_
        refine jr_aload_n hF dL_law_402 (q := 403) rfl rfl ?_
        refine jr_iload_n hF dL_law_403 (q := 404) rfl rfl ?_
        refine jr_iconst hF dL_law_404 (q := 405) rfl (by decide) ?_
        refine jr_iadd hF dL_law_405 (q := 406) rfl (by omega) ?_
        refine jr_sld hF hX dL_law_406 (q := 407) rfl (by omega) ?_
        refine jr_cV2I hF (hz) dL_law_407 (q := 410) rfl lkL_55 vX10_limit kX10_limit rfl rfl rfl (by decide) (Nat.le_of_ble_eq_true rfl) (fun z2 σ3 hz2 => ?_)
        obtain ⟨rfl, h3⟩ := hz2
        refine jr_icmp_eq hF dL_law_410 (q := 413) rfl 829 (by decide) (fun a2 => ?_) (fun a2 => ?_)
        · exact hnext σ3 h3
        · exact absurd rfl a2
      · refine jr_tin hF dL_law_32 415 (by decide) (by decide) rfl (by decide) ?_
        refine jr_aload_n hF dL_law_415 (q := 416) rfl rfl ?_
        refine jr_aload_n hF dL_law_416 (q := 417) rfl rfl ?_
        refine jr_iload_n hF dL_law_417 (q := 418) rfl rfl ?_
        refine jr_iconst hF dL_law_418 (q := 419) rfl (by decide) ?_
        refine jr_iadd hF dL_law_419 (q := 420) rfl (by omega) ?_
        refine jr_sld hF hX dL_law_420 (q := 421) rfl (by omega) ?_
        refine jr_cV1I hF (p_calls σ1 h1 _) dL_law_421 (q := 424) rfl lkL_56 vX9_calls kX9_calls rfl rfl rfl (by decide) (Nat.le_of_ble_eq_true rfl) (fun z σ2 hz => ?_)
        refine jr_aload_n hF dL_law_424 (q := 425) rfl rfl ?_
        refine jr_aload_n hF dL_law_425 (q := 426) rfl rfl ?_
        refine jr_iload_n hF dL_law_426 (q := 427) rfl rfl ?_
        refine jr_iconst hF dL_law_427 (q := 428) rfl (by decide) ?_
        refine jr_iadd hF dL_law_428 (q := 429) rfl (by omega) ?_
        refine jr_sld hF hX dL_law_429 (q := 430) rfl (by omega) ?_
        refine jr_cV1I hF (hz) dL_law_430 (q := 433) rfl lkL_59 vX10_calls kX10_calls rfl rfl rfl (by decide) (Nat.le_of_ble_eq_true rfl) (fun z2 σ3 hz2 => ?_)
        obtain ⟨rfl, h3⟩ := hz2
        refine jr_icmp_eq hF dL_law_433 (q := 436) rfl 829 (by decide) (fun a2 => ?_) (fun a2 => ?_)
        · exact hnext σ3 h3
        · exact absurd rfl a2
      · refine jr_tin hF dL_law_32 438 (by decide) (by decide) rfl (by decide) ?_
        refine jr_aload_n hF dL_law_438 (q := 439) rfl rfl ?_
        refine jr_aload_n hF dL_law_439 (q := 440) rfl rfl ?_
        refine jr_iload_n hF dL_law_440 (q := 441) rfl rfl ?_
        refine jr_iconst hF dL_law_441 (q := 442) rfl (by decide) ?_
        refine jr_iadd hF dL_law_442 (q := 443) rfl (by omega) ?_
        refine jr_sld hF hX dL_law_443 (q := 444) rfl (by omega) ?_
        refine jr_cV1I hF (p_step σ1 h1 _) dL_law_444 (q := 447) rfl lkL_60 vX9_step kX9_step rfl rfl rfl (by decide) (Nat.le_of_ble_eq_true rfl) (fun z σ2 hz => ?_)
        refine jr_aload_n hF dL_law_447 (q := 448) rfl rfl ?_
        refine jr_aload_n hF dL_law_448 (q := 449) rfl rfl ?_
        refine jr_iload_n hF dL_law_449 (q := 450) rfl rfl ?_
        refine jr_iconst hF dL_law_450 (q := 451) rfl (by decide) ?_
        refine jr_iadd hF dL_law_451 (q := 452) rfl (by omega) ?_
        refine jr_sld hF hX dL_law_452 (q := 453) rfl (by omega) ?_
        refine jr_cV1I hF (hz) dL_law_453 (q := 456) rfl lkL_63 vX10_step kX10_step rfl rfl rfl (by decide) (Nat.le_of_ble_eq_true rfl) (fun z2 σ3 hz2 => ?_)
        obtain ⟨rfl, h3⟩ := hz2
        refine jr_icmp_eq hF dL_law_456 (q := 459) rfl 829 (by decide) (fun a2 => ?_) (fun a2 => ?_)
        · exact hnext σ3 h3
        · exact absurd rfl a2
      · refine jr_tin hF dL_law_32 461 (by decide) (by decide) rfl (by decide) ?_
        refine jr_aload_n hF dL_law_461 (q := 462) rfl rfl ?_
        refine jr_cV0I hF (p_undo σ1 h1) dL_law_462 (q := 465) rfl lkL_64 vX9_undo kX9_undo rfl rfl rfl (by decide) (Nat.le_of_ble_eq_true rfl) (fun z σ2 hz => ?_)
        refine jr_aload_n hF dL_law_465 (q := 466) rfl rfl ?_
        refine jr_cV0I hF (hz) dL_law_466 (q := 469) rfl lkL_67 vX10_undo kX10_undo rfl rfl rfl (by decide) (Nat.le_of_ble_eq_true rfl) (fun z2 σ3 hz2 => ?_)
        obtain ⟨rfl, h3⟩ := hz2
        refine jr_icmp_eq hF dL_law_469 (q := 472) rfl 829 (by decide) (fun a2 => ?_) (fun a2 => ?_)
        · exact hnext σ3 h3
        · exact absurd rfl a2
      · refine jr_tin hF dL_law_32 474 (by decide) (by decide) rfl (by decide) ?_
        refine jr_aload_n hF dL_law_474 (q := 475) rfl rfl ?_
        refine jr_aload_n hF dL_law_475 (q := 476) rfl rfl ?_
        refine jr_iload_n hF dL_law_476 (q := 477) rfl rfl ?_
        refine jr_iconst hF dL_law_477 (q := 478) rfl (by decide) ?_
        refine jr_iadd hF dL_law_478 (q := 479) rfl (by omega) ?_
        refine jr_sld hF hX dL_law_479 (q := 480) rfl (by omega) ?_
        refine jr_aload_n hF dL_law_480 (q := 481) rfl rfl ?_
        refine jr_iload_n hF dL_law_481 (q := 482) rfl rfl ?_
        refine jr_iconst hF dL_law_482 (q := 483) rfl (by decide) ?_
        refine jr_iadd hF dL_law_483 (q := 484) rfl (by omega) ?_
        refine jr_sld hF hX dL_law_484 (q := 485) rfl (by omega) ?_
        refine jr_cV2I hF (p_lie σ1 h1 _ _) dL_law_485 (q := 488) rfl lkL_68 vX9_lie kX9_lie rfl rfl rfl (by decide) (Nat.le_of_ble_eq_true rfl) (fun z σ2 hz => ?_)
        refine jr_aload_n hF dL_law_488 (q := 489) rfl rfl ?_
        refine jr_aload_n hF dL_law_489 (q := 490) rfl rfl ?_
        refine jr_iload_n hF dL_law_490 (q := 491) rfl rfl ?_
        refine jr_iconst hF dL_law_491 (q := 492) rfl (by decide) ?_
        refine jr_iadd hF dL_law_492 (q := 493) rfl (by omega) ?_
        refine jr_sld hF hX dL_law_493 (q := 494) rfl (by omega) ?_
        refine jr_aload_n hF dL_law_494 (q := 495) rfl rfl ?_
        refine jr_iload_n hF dL_law_495 (q := 496) rfl rfl ?_
        refine jr_iconst hF dL_law_496 (q := 497) rfl (by decide) ?_
        refine jr_iadd hF dL_law_497 (q := 498) rfl (by omega) ?_
        refine jr_sld hF hX dL_law_498 (q := 499) rfl (by omega) ?_
        refine jr_cV2I hF (hz) dL_law_499 (q := 502) rfl lkL_71 vX10_lie kX10_lie rfl rfl rfl (by decide) (Nat.le_of_ble_eq_true rfl) (fun z2 σ3 hz2 => ?_)
        obtain ⟨rfl, h3⟩ := hz2
        refine jr_icmp_eq hF dL_law_502 (q := 505) rfl 829 (by decide) (fun a2 => ?_) (fun a2 => ?_)
        · exact hnext σ3 h3
        · exact absurd rfl a2
      · refine jr_tin hF dL_law_32 507 (by decide) (by decide) rfl (by decide) ?_
        refine jr_aload_n hF dL_law_507 (q := 508) rfl rfl ?_
        refine jr_aload_n hF dL_law_508 (q := 509) rfl rfl ?_
        refine jr_iload_n hF dL_law_509 (q := 510) rfl rfl ?_
        refine jr_iconst hF dL_law_510 (q := 511) rfl (by decide) ?_
        refine jr_iadd hF dL_law_511 (q := 512) rfl (by omega) ?_
        refine jr_sld hF hX dL_law_512 (q := 513) rfl (by omega) ?_
        refine jr_aload_n hF dL_law_513 (q := 514) rfl rfl ?_
        refine jr_iload_n hF dL_law_514 (q := 515) rfl rfl ?_
        refine jr_iconst hF dL_law_515 (q := 516) rfl (by decide) ?_
        refine jr_iadd hF dL_law_516 (q := 517) rfl (by omega) ?_
        refine jr_sld hF hX dL_law_517 (q := 518) rfl (by omega) ?_
        refine jr_aload_n hF dL_law_518 (q := 519) rfl rfl ?_
        refine jr_iload_n hF dL_law_519 (q := 520) rfl rfl ?_
        refine jr_iconst hF dL_law_520 (q := 521) rfl (by decide) ?_
        refine jr_iadd hF dL_law_521 (q := 522) rfl (by omega) ?_
        refine jr_sld hF hX dL_law_522 (q := 523) rfl (by omega) ?_
        refine jr_cV3I hF (p_game σ1 h1 _ _ _) dL_law_523 (q := 526) rfl lkL_72 vX9_game kX9_game rfl rfl rfl (by decide) (Nat.le_of_ble_eq_true rfl) (fun z σ2 hz => ?_)
        refine jr_aload_n hF dL_law_526 (q := 527) rfl rfl ?_
        refine jr_aload_n hF dL_law_527 (q := 528) rfl rfl ?_
        refine jr_iload_n hF dL_law_528 (q := 529) rfl rfl ?_
        refine jr_iconst hF dL_law_529 (q := 530) rfl (by decide) ?_
        refine jr_iadd hF dL_law_530 (q := 531) rfl (by omega) ?_
        refine jr_sld hF hX dL_law_531 (q := 532) rfl (by omega) ?_
        refine jr_aload_n hF dL_law_532 (q := 533) rfl rfl ?_
        refine jr_iload_n hF dL_law_533 (q := 534) rfl rfl ?_
        refine jr_iconst hF dL_law_534 (q := 535) rfl (by decide) ?_
        refine jr_iadd hF dL_law_535 (q := 536) rfl (by omega) ?_
        refine jr_sld hF hX dL_law_536 (q := 537) rfl (by omega) ?_
        refine jr_aload_n hF dL_law_537 (q := 538) rfl rfl ?_
        refine jr_iload_n hF dL_law_538 (q := 539) rfl rfl ?_
        refine jr_iconst hF dL_law_539 (q := 540) rfl (by decide) ?_
        refine jr_iadd hF dL_law_540 (q := 541) rfl (by omega) ?_
        refine jr_sld hF hX dL_law_541 (q := 542) rfl (by omega) ?_
        refine jr_cV3I hF (hz) dL_law_542 (q := 545) rfl lkL_75 vX10_game kX10_game rfl rfl rfl (by decide) (Nat.le_of_ble_eq_true rfl) (fun z2 σ3 hz2 => ?_)
        obtain ⟨rfl, h3⟩ := hz2
        refine jr_icmp_eq hF dL_law_545 (q := 548) rfl 829 (by decide) (fun a2 => ?_) (fun a2 => ?_)
        · exact hnext σ3 h3
        · exact absurd rfl a2
      · refine jr_tin hF dL_law_32 550 (by decide) (by decide) rfl (by decide) ?_
        refine jr_aload_n hF dL_law_550 (q := 551) rfl rfl ?_
        refine jr_aload_n hF dL_law_551 (q := 552) rfl rfl ?_
        refine jr_iload_n hF dL_law_552 (q := 553) rfl rfl ?_
        refine jr_iconst hF dL_law_553 (q := 554) rfl (by decide) ?_
        refine jr_iadd hF dL_law_554 (q := 555) rfl (by omega) ?_
        refine jr_sld hF hX dL_law_555 (q := 556) rfl (by omega) ?_
        refine jr_aload_n hF dL_law_556 (q := 557) rfl rfl ?_
        refine jr_iload_n hF dL_law_557 (q := 558) rfl rfl ?_
        refine jr_iconst hF dL_law_558 (q := 559) rfl (by decide) ?_
        refine jr_iadd hF dL_law_559 (q := 560) rfl (by omega) ?_
        refine jr_sld hF hX dL_law_560 (q := 561) rfl (by omega) ?_
        refine jr_if_eq hF dL_law_561 (q := 564) rfl 568 (by decide) (fun a3 => ?_) (fun a3 => ?_)
        · refine jr_iconst hF dL_law_568 (q := 569) rfl (by decide) ?_
          refine jr_cV2I hF (p_rest σ1 h1 _ false 0 rfl) dL_law_569 (q := 572) rfl lkL_76 vX9_rest kX9_rest rfl rfl rfl (by decide) (Nat.le_of_ble_eq_true rfl) (fun z σ2 hz => ?_)
          refine jr_aload_n hF dL_law_572 (q := 573) rfl rfl ?_
          refine jr_aload_n hF dL_law_573 (q := 574) rfl rfl ?_
          refine jr_iload_n hF dL_law_574 (q := 575) rfl rfl ?_
          refine jr_iconst hF dL_law_575 (q := 576) rfl (by decide) ?_
          refine jr_iadd hF dL_law_576 (q := 577) rfl (by omega) ?_
          refine jr_sld hF hX dL_law_577 (q := 578) rfl (by omega) ?_
          refine jr_aload_n hF dL_law_578 (q := 579) rfl rfl ?_
          refine jr_iload_n hF dL_law_579 (q := 580) rfl rfl ?_
          refine jr_iconst hF dL_law_580 (q := 581) rfl (by decide) ?_
          refine jr_iadd hF dL_law_581 (q := 582) rfl (by omega) ?_
          refine jr_sld hF hX dL_law_582 (q := 583) rfl (by omega) ?_
          refine jr_if_eq hF dL_law_583 (q := 586) rfl 590 (by decide) (fun a4 => ?_) (fun a4 => ?_)
          · refine jr_iconst hF dL_law_590 (q := 591) rfl (by decide) ?_
            refine jr_cV2I hF (hz) dL_law_591 (q := 594) rfl lkL_80 vX10_rest kX10_rest rfl rfl rfl (by decide) (Nat.le_of_ble_eq_true rfl) (fun z2 σ3 hz2 => ?_)
            obtain ⟨rfl, h3⟩ := hz2
            refine jr_icmp_eq hF dL_law_594 (q := 597) rfl 829 (by decide) (fun a2 => ?_) (fun a2 => ?_)
            · exact hnext σ3 h3
            · exact absurd rfl a2
          · exact absurd a3 a4
        · refine jr_iconst hF dL_law_564 (q := 565) rfl (by decide) ?_
          refine jr_goto hF dL_law_565 569 (by decide) ?_
          refine jr_cV2I hF (p_rest σ1 h1 _ true 1 rfl) dL_law_569 (q := 572) rfl lkL_76 vX9_rest kX9_rest rfl rfl rfl (by decide) (Nat.le_of_ble_eq_true rfl) (fun z σ2 hz => ?_)
          refine jr_aload_n hF dL_law_572 (q := 573) rfl rfl ?_
          refine jr_aload_n hF dL_law_573 (q := 574) rfl rfl ?_
          refine jr_iload_n hF dL_law_574 (q := 575) rfl rfl ?_
          refine jr_iconst hF dL_law_575 (q := 576) rfl (by decide) ?_
          refine jr_iadd hF dL_law_576 (q := 577) rfl (by omega) ?_
          refine jr_sld hF hX dL_law_577 (q := 578) rfl (by omega) ?_
          refine jr_aload_n hF dL_law_578 (q := 579) rfl rfl ?_
          refine jr_iload_n hF dL_law_579 (q := 580) rfl rfl ?_
          refine jr_iconst hF dL_law_580 (q := 581) rfl (by decide) ?_
          refine jr_iadd hF dL_law_581 (q := 582) rfl (by omega) ?_
          refine jr_sld hF hX dL_law_582 (q := 583) rfl (by omega) ?_
          refine jr_if_eq hF dL_law_583 (q := 586) rfl 590 (by decide) (fun a4 => ?_) (fun a4 => ?_)
          · exact absurd a4 a3
          · refine jr_iconst hF dL_law_586 (q := 587) rfl (by decide) ?_
            refine jr_goto hF dL_law_587 591 (by decide) ?_
            refine jr_cV2I hF (hz) dL_law_591 (q := 594) rfl lkL_80 vX10_rest kX10_rest rfl rfl rfl (by decide) (Nat.le_of_ble_eq_true rfl) (fun z2 σ3 hz2 => ?_)
            obtain ⟨rfl, h3⟩ := hz2
            refine jr_icmp_eq hF dL_law_594 (q := 597) rfl 829 (by decide) (fun a2 => ?_) (fun a2 => ?_)
            · exact hnext σ3 h3
            · exact absurd rfl a2
      · refine jr_tin hF dL_law_32 599 (by decide) (by decide) rfl (by decide) ?_
        refine jr_aload_n hF dL_law_599 (q := 600) rfl rfl ?_
        refine jr_aload_n hF dL_law_600 (q := 601) rfl rfl ?_
        refine jr_iload_n hF dL_law_601 (q := 602) rfl rfl ?_
        refine jr_iconst hF dL_law_602 (q := 603) rfl (by decide) ?_
        refine jr_iadd hF dL_law_603 (q := 604) rfl (by omega) ?_
        refine jr_sld hF hX dL_law_604 (q := 605) rfl (by omega) ?_
        refine jr_cV1I hF (p_joint σ1 h1 _) dL_law_605 (q := 608) rfl lkL_81 vX9_joint kX9_joint rfl rfl rfl (by decide) (Nat.le_of_ble_eq_true rfl) (fun z σ2 hz => ?_)
        refine jr_aload_n hF dL_law_608 (q := 609) rfl rfl ?_
        refine jr_aload_n hF dL_law_609 (q := 610) rfl rfl ?_
        refine jr_iload_n hF dL_law_610 (q := 611) rfl rfl ?_
        refine jr_iconst hF dL_law_611 (q := 612) rfl (by decide) ?_
        refine jr_iadd hF dL_law_612 (q := 613) rfl (by omega) ?_
        refine jr_sld hF hX dL_law_613 (q := 614) rfl (by omega) ?_
        refine jr_cV1I hF (hz) dL_law_614 (q := 617) rfl lkL_84 vX10_joint kX10_joint rfl rfl rfl (by decide) (Nat.le_of_ble_eq_true rfl) (fun z2 σ3 hz2 => ?_)
        obtain ⟨rfl, h3⟩ := hz2
        refine jr_icmp_eq hF dL_law_617 (q := 620) rfl 829 (by decide) (fun a2 => ?_) (fun a2 => ?_)
        · exact hnext σ3 h3
        · exact absurd rfl a2
      · refine jr_tin hF dL_law_32 622 (by decide) (by decide) rfl (by decide) ?_
        refine jr_aload_n hF dL_law_622 (q := 623) rfl rfl ?_
        refine jr_aload_n hF dL_law_623 (q := 624) rfl rfl ?_
        refine jr_iload_n hF dL_law_624 (q := 625) rfl rfl ?_
        refine jr_iconst hF dL_law_625 (q := 626) rfl (by decide) ?_
        refine jr_iadd hF dL_law_626 (q := 627) rfl (by omega) ?_
        refine jr_sld hF hX dL_law_627 (q := 628) rfl (by omega) ?_
        refine jr_cV1I hF (p_pay σ1 h1 _) dL_law_628 (q := 631) rfl lkL_85 vX9_pay kX9_pay rfl rfl rfl (by decide) (Nat.le_of_ble_eq_true rfl) (fun z σ2 hz => ?_)
        refine jr_aload_n hF dL_law_631 (q := 632) rfl rfl ?_
        refine jr_aload_n hF dL_law_632 (q := 633) rfl rfl ?_
        refine jr_iload_n hF dL_law_633 (q := 634) rfl rfl ?_
        refine jr_iconst hF dL_law_634 (q := 635) rfl (by decide) ?_
        refine jr_iadd hF dL_law_635 (q := 636) rfl (by omega) ?_
        refine jr_sld hF hX dL_law_636 (q := 637) rfl (by omega) ?_
        refine jr_cV1I hF (hz) dL_law_637 (q := 640) rfl lkL_88 vX10_pay kX10_pay rfl rfl rfl (by decide) (Nat.le_of_ble_eq_true rfl) (fun z2 σ3 hz2 => ?_)
        obtain ⟨rfl, h3⟩ := hz2
        refine jr_icmp_eq hF dL_law_640 (q := 643) rfl 829 (by decide) (fun a2 => ?_) (fun a2 => ?_)
        · exact hnext σ3 h3
        · exact absurd rfl a2
      · refine jr_tin hF dL_law_32 645 (by decide) (by decide) rfl (by decide) ?_
        refine jr_aload_n hF dL_law_645 (q := 646) rfl rfl ?_
        refine jr_aload_n hF dL_law_646 (q := 647) rfl rfl ?_
        refine jr_iload_n hF dL_law_647 (q := 648) rfl rfl ?_
        refine jr_iconst hF dL_law_648 (q := 649) rfl (by decide) ?_
        refine jr_iadd hF dL_law_649 (q := 650) rfl (by omega) ?_
        refine jr_sld hF hX dL_law_650 (q := 651) rfl (by omega) ?_
        refine jr_aload_n hF dL_law_651 (q := 652) rfl rfl ?_
        refine jr_iload_n hF dL_law_652 (q := 653) rfl rfl ?_
        refine jr_iconst hF dL_law_653 (q := 654) rfl (by decide) ?_
        refine jr_iadd hF dL_law_654 (q := 655) rfl (by omega) ?_
        refine jr_sld hF hX dL_law_655 (q := 656) rfl (by omega) ?_
        refine jr_cV2I hF (p_seen σ1 h1 _ _) dL_law_656 (q := 659) rfl lkL_89 vX9_seen kX9_seen rfl rfl rfl (by decide) (Nat.le_of_ble_eq_true rfl) (fun z σ2 hz => ?_)
        refine jr_aload_n hF dL_law_659 (q := 660) rfl rfl ?_
        refine jr_aload_n hF dL_law_660 (q := 661) rfl rfl ?_
        refine jr_iload_n hF dL_law_661 (q := 662) rfl rfl ?_
        refine jr_iconst hF dL_law_662 (q := 663) rfl (by decide) ?_
        refine jr_iadd hF dL_law_663 (q := 664) rfl (by omega) ?_
        refine jr_sld hF hX dL_law_664 (q := 665) rfl (by omega) ?_
        refine jr_aload_n hF dL_law_665 (q := 666) rfl rfl ?_
        refine jr_iload_n hF dL_law_666 (q := 667) rfl rfl ?_
        refine jr_iconst hF dL_law_667 (q := 668) rfl (by decide) ?_
        refine jr_iadd hF dL_law_668 (q := 669) rfl (by omega) ?_
        refine jr_sld hF hX dL_law_669 (q := 670) rfl (by omega) ?_
        refine jr_cV2I hF (hz) dL_law_670 (q := 673) rfl lkL_92 vX10_seen kX10_seen rfl rfl rfl (by decide) (Nat.le_of_ble_eq_true rfl) (fun z2 σ3 hz2 => ?_)
        obtain ⟨rfl, h3⟩ := hz2
        refine jr_icmp_eq hF dL_law_673 (q := 676) rfl 829 (by decide) (fun a2 => ?_) (fun a2 => ?_)
        · exact hnext σ3 h3
        · exact absurd rfl a2
      · refine jr_tin hF dL_law_32 678 (by decide) (by decide) rfl (by decide) ?_
        refine jr_aload_n hF dL_law_678 (q := 679) rfl rfl ?_
        refine jr_cV0I hF (p_forget σ1 h1) dL_law_679 (q := 682) rfl lkL_93 vX9_forget kX9_forget rfl rfl rfl (by decide) (Nat.le_of_ble_eq_true rfl) (fun z σ2 hz => ?_)
        refine jr_aload_n hF dL_law_682 (q := 683) rfl rfl ?_
        refine jr_cV0I hF (hz) dL_law_683 (q := 686) rfl lkL_96 vX10_forget kX10_forget rfl rfl rfl (by decide) (Nat.le_of_ble_eq_true rfl) (fun z2 σ3 hz2 => ?_)
        obtain ⟨rfl, h3⟩ := hz2
        refine jr_icmp_eq hF dL_law_686 (q := 689) rfl 829 (by decide) (fun a2 => ?_) (fun a2 => ?_)
        · exact hnext σ3 h3
        · exact absurd rfl a2
      · refine jr_tin hF dL_law_32 691 (by decide) (by decide) rfl (by decide) ?_
        refine jr_aload_n hF dL_law_691 (q := 692) rfl rfl ?_
        refine jr_cV0I hF (p_cousins σ1 h1) dL_law_692 (q := 695) rfl lkL_97 vX9_cousins kX9_cousins rfl rfl rfl (by decide) (Nat.le_of_ble_eq_true rfl) (fun z σ2 hz => ?_)
        refine jr_aload_n hF dL_law_695 (q := 696) rfl rfl ?_
        refine jr_cV0I hF (hz) dL_law_696 (q := 699) rfl lkL_100 vX10_cousins kX10_cousins rfl rfl rfl (by decide) (Nat.le_of_ble_eq_true rfl) (fun z2 σ3 hz2 => ?_)
        obtain ⟨rfl, h3⟩ := hz2
        refine jr_icmp_eq hF dL_law_699 (q := 702) rfl 829 (by decide) (fun a2 => ?_) (fun a2 => ?_)
        · exact hnext σ3 h3
        · exact absurd rfl a2
      · refine jr_tin hF dL_law_32 704 (by decide) (by decide) rfl (by decide) ?_
        refine jr_aload_n hF dL_law_704 (q := 705) rfl rfl ?_
        refine jr_aload_n hF dL_law_705 (q := 706) rfl rfl ?_
        refine jr_iload_n hF dL_law_706 (q := 707) rfl rfl ?_
        refine jr_iconst hF dL_law_707 (q := 708) rfl (by decide) ?_
        refine jr_iadd hF dL_law_708 (q := 709) rfl (by omega) ?_
        refine jr_sld hF hX dL_law_709 (q := 710) rfl (by omega) ?_
        refine jr_aload_n hF dL_law_710 (q := 711) rfl rfl ?_
        refine jr_iload_n hF dL_law_711 (q := 712) rfl rfl ?_
        refine jr_iconst hF dL_law_712 (q := 713) rfl (by decide) ?_
        refine jr_iadd hF dL_law_713 (q := 714) rfl (by omega) ?_
        refine jr_sld hF hX dL_law_714 (q := 715) rfl (by omega) ?_
        refine jr_aload_n hF dL_law_715 (q := 716) rfl rfl ?_
        refine jr_iload_n hF dL_law_716 (q := 717) rfl rfl ?_
        refine jr_iconst hF dL_law_717 (q := 718) rfl (by decide) ?_
        refine jr_iadd hF dL_law_718 (q := 719) rfl (by omega) ?_
        refine jr_sld hF hX dL_law_719 (q := 720) rfl (by omega) ?_
        refine jr_cV3I hF (p_span σ1 h1 _ _ _) dL_law_720 (q := 723) rfl lkL_101 vX9_span kX9_span rfl rfl rfl (by decide) (Nat.le_of_ble_eq_true rfl) (fun z σ2 hz => ?_)
        refine jr_aload_n hF dL_law_723 (q := 724) rfl rfl ?_
        refine jr_aload_n hF dL_law_724 (q := 725) rfl rfl ?_
        refine jr_iload_n hF dL_law_725 (q := 726) rfl rfl ?_
        refine jr_iconst hF dL_law_726 (q := 727) rfl (by decide) ?_
        refine jr_iadd hF dL_law_727 (q := 728) rfl (by omega) ?_
        refine jr_sld hF hX dL_law_728 (q := 729) rfl (by omega) ?_
        refine jr_aload_n hF dL_law_729 (q := 730) rfl rfl ?_
        refine jr_iload_n hF dL_law_730 (q := 731) rfl rfl ?_
        refine jr_iconst hF dL_law_731 (q := 732) rfl (by decide) ?_
        refine jr_iadd hF dL_law_732 (q := 733) rfl (by omega) ?_
        refine jr_sld hF hX dL_law_733 (q := 734) rfl (by omega) ?_
        refine jr_aload_n hF dL_law_734 (q := 735) rfl rfl ?_
        refine jr_iload_n hF dL_law_735 (q := 736) rfl rfl ?_
        refine jr_iconst hF dL_law_736 (q := 737) rfl (by decide) ?_
        refine jr_iadd hF dL_law_737 (q := 738) rfl (by omega) ?_
        refine jr_sld hF hX dL_law_738 (q := 739) rfl (by omega) ?_
        refine jr_cV3I hF (hz) dL_law_739 (q := 742) rfl lkL_104 vX10_span kX10_span rfl rfl rfl (by decide) (Nat.le_of_ble_eq_true rfl) (fun z2 σ3 hz2 => ?_)
        obtain ⟨rfl, h3⟩ := hz2
        refine jr_icmp_eq hF dL_law_742 (q := 745) rfl 829 (by decide) (fun a2 => ?_) (fun a2 => ?_)
        · exact hnext σ3 h3
        · exact absurd rfl a2
      · refine jr_tin hF dL_law_32 747 (by decide) (by decide) rfl (by decide) ?_
        refine jr_aload_n hF dL_law_747 (q := 748) rfl rfl ?_
        refine jr_aload_n hF dL_law_748 (q := 749) rfl rfl ?_
        refine jr_iload_n hF dL_law_749 (q := 750) rfl rfl ?_
        refine jr_iconst hF dL_law_750 (q := 751) rfl (by decide) ?_
        refine jr_iadd hF dL_law_751 (q := 752) rfl (by omega) ?_
        refine jr_sld hF hX dL_law_752 (q := 753) rfl (by omega) ?_
        refine jr_aload_n hF dL_law_753 (q := 754) rfl rfl ?_
        refine jr_iload_n hF dL_law_754 (q := 755) rfl rfl ?_
        refine jr_iconst hF dL_law_755 (q := 756) rfl (by decide) ?_
        refine jr_iadd hF dL_law_756 (q := 757) rfl (by omega) ?_
        refine jr_sld hF hX dL_law_757 (q := 758) rfl (by omega) ?_
        refine jr_cV2I hF (p_year σ1 h1 _ _) dL_law_758 (q := 761) rfl lkL_105 vX9_year kX9_year rfl rfl rfl (by decide) (Nat.le_of_ble_eq_true rfl) (fun z σ2 hz => ?_)
        refine jr_aload_n hF dL_law_761 (q := 762) rfl rfl ?_
        refine jr_aload_n hF dL_law_762 (q := 763) rfl rfl ?_
        refine jr_iload_n hF dL_law_763 (q := 764) rfl rfl ?_
        refine jr_iconst hF dL_law_764 (q := 765) rfl (by decide) ?_
        refine jr_iadd hF dL_law_765 (q := 766) rfl (by omega) ?_
        refine jr_sld hF hX dL_law_766 (q := 767) rfl (by omega) ?_
        refine jr_aload_n hF dL_law_767 (q := 768) rfl rfl ?_
        refine jr_iload_n hF dL_law_768 (q := 769) rfl rfl ?_
        refine jr_iconst hF dL_law_769 (q := 770) rfl (by decide) ?_
        refine jr_iadd hF dL_law_770 (q := 771) rfl (by omega) ?_
        refine jr_sld hF hX dL_law_771 (q := 772) rfl (by omega) ?_
        refine jr_cV2I hF (hz) dL_law_772 (q := 775) rfl lkL_108 vX10_year kX10_year rfl rfl rfl (by decide) (Nat.le_of_ble_eq_true rfl) (fun z2 σ3 hz2 => ?_)
        obtain ⟨rfl, h3⟩ := hz2
        refine jr_icmp_eq hF dL_law_775 (q := 778) rfl 829 (by decide) (fun a2 => ?_) (fun a2 => ?_)
        · exact hnext σ3 h3
        · exact absurd rfl a2
      · refine jr_tin hF dL_law_32 780 (by decide) (by decide) rfl (by decide) ?_
        refine jr_aload_n hF dL_law_780 (q := 781) rfl rfl ?_
        refine jr_cV0I hF (p_keep σ1 h1) dL_law_781 (q := 784) rfl lkL_109 vX9_keep kX9_keep rfl rfl rfl (by decide) (Nat.le_of_ble_eq_true rfl) (fun z σ2 hz => ?_)
        refine jr_aload_n hF dL_law_784 (q := 785) rfl rfl ?_
        refine jr_cV0I hF (hz) dL_law_785 (q := 788) rfl lkL_112 vX10_keep kX10_keep rfl rfl rfl (by decide) (Nat.le_of_ble_eq_true rfl) (fun z2 σ3 hz2 => ?_)
        obtain ⟨rfl, h3⟩ := hz2
        refine jr_icmp_eq hF dL_law_788 (q := 791) rfl 829 (by decide) (fun a2 => ?_) (fun a2 => ?_)
        · exact hnext σ3 h3
        · exact absurd rfl a2
      · refine jr_tin hF dL_law_32 793 (by decide) (by decide) rfl (by decide) ?_
        refine jr_aload_n hF dL_law_793 (q := 794) rfl rfl ?_
        refine jr_cV0I hF (p_back σ1 h1) dL_law_794 (q := 797) rfl lkL_113 vX9_back kX9_back rfl rfl rfl (by decide) (Nat.le_of_ble_eq_true rfl) (fun z σ2 hz => ?_)
        refine jr_aload_n hF dL_law_797 (q := 798) rfl rfl ?_
        refine jr_cV0I hF (hz) dL_law_798 (q := 801) rfl lkL_116 vX10_back kX10_back rfl rfl rfl (by decide) (Nat.le_of_ble_eq_true rfl) (fun z2 σ3 hz2 => ?_)
        obtain ⟨rfl, h3⟩ := hz2
        refine jr_icmp_eq hF dL_law_801 (q := 804) rfl 829 (by decide) (fun a2 => ?_) (fun a2 => ?_)
        · exact hnext σ3 h3
        · exact absurd rfl a2
      · refine jr_tin hF dL_law_32 806 (by decide) (by decide) rfl (by decide) ?_
        refine jr_aload_n hF dL_law_806 (q := 807) rfl rfl ?_
        refine jr_aload_n hF dL_law_807 (q := 808) rfl rfl ?_
        refine jr_iload_n hF dL_law_808 (q := 809) rfl rfl ?_
        refine jr_iconst hF dL_law_809 (q := 810) rfl (by decide) ?_
        refine jr_iadd hF dL_law_810 (q := 811) rfl (by omega) ?_
        refine jr_sld hF hX dL_law_811 (q := 812) rfl (by omega) ?_
        refine jr_cV1I hF (p_count σ1 h1 _) dL_law_812 (q := 815) rfl lkL_117 vX9_count kX9_count rfl rfl rfl (by decide) (Nat.le_of_ble_eq_true rfl) (fun z σ2 hz => ?_)
        refine jr_aload_n hF dL_law_815 (q := 816) rfl rfl ?_
        refine jr_aload_n hF dL_law_816 (q := 817) rfl rfl ?_
        refine jr_iload_n hF dL_law_817 (q := 818) rfl rfl ?_
        refine jr_iconst hF dL_law_818 (q := 819) rfl (by decide) ?_
        refine jr_iadd hF dL_law_819 (q := 820) rfl (by omega) ?_
        refine jr_sld hF hX dL_law_820 (q := 821) rfl (by omega) ?_
        refine jr_cV1I hF (hz) dL_law_821 (q := 824) rfl lkL_120 vX10_count kX10_count rfl rfl rfl (by decide) (Nat.le_of_ble_eq_true rfl) (fun z2 σ3 hz2 => ?_)
        obtain ⟨rfl, h3⟩ := hz2
        refine jr_icmp_eq hF dL_law_824 (q := 827) rfl 829 (by decide) (fun a2 => ?_) (fun a2 => ?_)
        · exact hnext σ3 h3
        · exact absurd rfl a2

