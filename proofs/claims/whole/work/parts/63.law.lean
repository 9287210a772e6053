theorem law_loop {sc : PSc} (hL : sc.1 ≤ 3072) : ∀ (n i : Nat) (S : PS), sc.1 + 6 - i < n → i ≤ sc.1 + 6 → InvS S → E sc mL_law 18 [.ref 99, .ref 0, .ref 54, .int (nI i)] [] S (fun r _ => r = some (.int (nI 1))) := by
  intro n
  induction n with
  | zero => intro i S hn; exact absurd hn (by omega)
  | succ n ih =>
    intro i S hn hi hI
    refine e_iload_n (pc := 18) (i := 3) dL_law_18 rfl rfl ?_
    refine e_aload_n (pc := 19) (i := 0) dL_law_19 rfl rfl ?_
    refine e_slen (pc := 20) dL_law_20 ?_
    refine E.it (nI sc.1) rfl ?_
    refine e_bipush' (pc := 21) (nI 6) dL_law_21 (by decide) ?_
    refine e_isub (pc := 23) dL_law_23 ?_
    refine e_icmp_gt (pc := 24) (tgt := 1325) dL_law_24 (by decide) (fun h24 => ?_) (fun h24 => ?_)
    · refine e_iconst' (pc := 1325) (nI 1) dL_law_1325 (by decide) ?_
      refine e_iret (pc := 1326) (st := []) (ty := .boolean) dL_law_1326 rfl rfl ?_
      exact rfl
    · have hi6 : i + 6 ≤ sc.1 := by
        rw [fa_lt, pk_sub_toInt (by omega) (by decide), nI_toInt (by omega)] at h24
        omega
      refine e_aload_n (pc := 27) (i := 0) dL_law_27 rfl rfl ?_
      refine e_iload_n (pc := 28) (i := 3) dL_law_28 rfl rfl ?_
      refine e_sld (pc := 29) dL_law_29 (vp_in_nI (by omega) (by omega)) ?_
      obtain ⟨c, hc, ec⟩ := pk_andE (sc.2 (nI i).toNatClampNeg) (m := nI 63) 6 (by decide)
      have hc : c < 64 := hc
      refine e_bipush' (pc := 30) (nI 63) dL_law_30 (by decide) ?_
      refine e_iand (pc := 32) dL_law_32 ?_
      refine E.it (nI c) ec ?_
      rcases (show c = 0 ∨ c = 1 ∨ c = 2 ∨ c = 3 ∨ c = 4 ∨ c = 5 ∨ c = 6 ∨ c = 7 ∨ c = 8 ∨ c = 9 ∨ c = 10 ∨ c = 11 ∨ c = 12 ∨ c = 13 ∨ c = 14 ∨ c = 15 ∨ c = 16 ∨ c = 17 ∨ c = 18 ∨ c = 19 ∨ c = 20 ∨ c = 21 ∨ c = 22 ∨ c = 23 ∨ c = 24 ∨ c = 25 ∨ c = 26 ∨ c = 27 ∨ c = 28 ∨ c = 29 ∨ c = 30 ∨ c = 31 ∨ c = 32 ∨ c = 33 ∨ c = 34 ∨ c = 35 ∨ c = 36 ∨ 37 ≤ c by omega) with rfl | rfl | rfl | rfl | rfl | rfl | rfl | rfl | rfl | rfl | rfl | rfl | rfl | rfl | rfl | rfl | rfl | rfl | rfl | rfl | rfl | rfl | rfl | rfl | rfl | rfl | rfl | rfl | rfl | rfl | rfl | rfl | rfl | rfl | rfl | rfl | rfl | hd
      · refine e_table (pc := 33) dL_law_33 ⟨196, Or.inr ⟨by decide, by decide, 163, by decide, by decide⟩, ?_⟩
        refine e_aload_n (pc := 196) (i := 1) dL_law_196 rfl rfl ?_
        refine e_aload_n (pc := 197) (i := 0) dL_law_197 rfl rfl ?_
        refine e_iload_n (pc := 198) (i := 3) dL_law_198 rfl rfl ?_
        refine e_iconst' (pc := 199) (nI 1) dL_law_199 (by decide) ?_
        refine e_iadd (pc := 200) dL_law_200 ?_
        refine E.it (nI (i + 1)) (nI_add _ _) ?_
        refine e_sld (pc := 201) dL_law_201 (vp_in_nI (by omega) (by omega)) ?_
        refine e_callV1 (pc := 202) (M' := mX5_feed) dL_law_202 iX5_feed lkL_13 (by decide) (rO_obj sh_0 rfl) (Nat.le_of_ble_eq_true rfl) (Nat.le_of_ble_eq_true rfl) ?_
        refine E.mono (b_feed hI _) (fun r S1 hr => ?_)
        obtain ⟨v, rfl, h2⟩ := hr
        refine e_aload_n (pc := 205) (i := 2) dL_law_205 rfl rfl ?_
        refine e_aload_n (pc := 206) (i := 0) dL_law_206 rfl rfl ?_
        refine e_iload_n (pc := 207) (i := 3) dL_law_207 rfl rfl ?_
        refine e_iconst' (pc := 208) (nI 1) dL_law_208 (by decide) ?_
        refine e_iadd (pc := 209) dL_law_209 ?_
        refine E.it (nI (i + 1)) (nI_add _ _) ?_
        refine e_sld (pc := 210) dL_law_210 (vp_in_nI (by omega) (by omega)) ?_
        refine e_callV1 (pc := 211) (M' := mX6_feed) dL_law_211 iX6_feed lkL_17 (by decide) (rO_obj sh_54 rfl) (Nat.le_of_ble_eq_true rfl) (Nat.le_of_ble_eq_true rfl) ?_
        refine E.mono h2 (fun r S2 hr2 => ?_)
        obtain ⟨rfl, hI2⟩ := hr2
        refine e_icmp_eq (pc := 214) (tgt := 1319) dL_law_214 (by decide) (fun h214 => ?_) (fun h214 => absurd rfl h214)
        refine e_iinc' (pc := 1319) (nI (i + 6)) dL_law_1319 rfl (by decide) rfl (nI_add _ _) ?_
        refine e_goto (pc := 1322) (tgt := 18) dL_law_1322 (by decide) ?_
        first
          | exact ih (i + 6) S2 (by omega) (by omega) hI2
          | exact ih (i + 6) S (by omega) (by omega) hI
      · refine e_table (pc := 33) dL_law_33 ⟨219, Or.inr ⟨by decide, by decide, 186, by decide, by decide⟩, ?_⟩
        refine e_aload_n (pc := 219) (i := 1) dL_law_219 rfl rfl ?_
        refine e_aload_n (pc := 220) (i := 0) dL_law_220 rfl rfl ?_
        refine e_iload_n (pc := 221) (i := 3) dL_law_221 rfl rfl ?_
        refine e_iconst' (pc := 222) (nI 1) dL_law_222 (by decide) ?_
        refine e_iadd (pc := 223) dL_law_223 ?_
        refine E.it (nI (i + 1)) (nI_add _ _) ?_
        refine e_sld (pc := 224) dL_law_224 (vp_in_nI (by omega) (by omega)) ?_
        refine e_callV1 (pc := 225) (M' := mX5_end) dL_law_225 iX5_end lkL_18 (by decide) (rO_obj sh_0 rfl) (Nat.le_of_ble_eq_true rfl) (Nat.le_of_ble_eq_true rfl) ?_
        refine E.mono (b_end hI _) (fun r S1 hr => ?_)
        obtain ⟨v, rfl, h2⟩ := hr
        refine e_aload_n (pc := 228) (i := 2) dL_law_228 rfl rfl ?_
        refine e_aload_n (pc := 229) (i := 0) dL_law_229 rfl rfl ?_
        refine e_iload_n (pc := 230) (i := 3) dL_law_230 rfl rfl ?_
        refine e_iconst' (pc := 231) (nI 1) dL_law_231 (by decide) ?_
        refine e_iadd (pc := 232) dL_law_232 ?_
        refine E.it (nI (i + 1)) (nI_add _ _) ?_
        refine e_sld (pc := 233) dL_law_233 (vp_in_nI (by omega) (by omega)) ?_
        refine e_callV1 (pc := 234) (M' := mX6_end) dL_law_234 iX6_end lkL_21 (by decide) (rO_obj sh_54 rfl) (Nat.le_of_ble_eq_true rfl) (Nat.le_of_ble_eq_true rfl) ?_
        refine E.mono h2 (fun r S2 hr2 => ?_)
        obtain ⟨rfl, hI2⟩ := hr2
        refine e_icmp_eq (pc := 237) (tgt := 1319) dL_law_237 (by decide) (fun h237 => ?_) (fun h237 => absurd rfl h237)
        refine e_iinc' (pc := 1319) (nI (i + 6)) dL_law_1319 rfl (by decide) rfl (nI_add _ _) ?_
        refine e_goto (pc := 1322) (tgt := 18) dL_law_1322 (by decide) ?_
        first
          | exact ih (i + 6) S2 (by omega) (by omega) hI2
          | exact ih (i + 6) S (by omega) (by omega) hI
      · refine e_table (pc := 33) dL_law_33 ⟨242, Or.inr ⟨by decide, by decide, 209, by decide, by decide⟩, ?_⟩
        refine e_aload_n (pc := 242) (i := 1) dL_law_242 rfl rfl ?_
        refine e_callV0 (pc := 243) (M' := mX5_text) dL_law_243 iX5_text lkL_22 (by decide) (rO_obj sh_0 rfl) (Nat.le_of_ble_eq_true rfl) (Nat.le_of_ble_eq_true rfl) ?_
        refine E.mono (b_text hI) (fun r S1 hr => ?_)
        obtain ⟨v, rfl, h2⟩ := hr
        refine e_aload_n (pc := 246) (i := 2) dL_law_246 rfl rfl ?_
        refine e_callV0 (pc := 247) (M' := mX6_text) dL_law_247 iX6_text lkL_26 (by decide) (rO_obj sh_54 rfl) (Nat.le_of_ble_eq_true rfl) (Nat.le_of_ble_eq_true rfl) ?_
        refine E.mono h2 (fun r S2 hr2 => ?_)
        obtain ⟨rfl, hI2⟩ := hr2
        refine e_icmp_eq (pc := 250) (tgt := 1319) dL_law_250 (by decide) (fun h250 => ?_) (fun h250 => absurd rfl h250)
        refine e_iinc' (pc := 1319) (nI (i + 6)) dL_law_1319 rfl (by decide) rfl (nI_add _ _) ?_
        refine e_goto (pc := 1322) (tgt := 18) dL_law_1322 (by decide) ?_
        first
          | exact ih (i + 6) S2 (by omega) (by omega) hI2
          | exact ih (i + 6) S (by omega) (by omega) hI
      · refine e_table (pc := 33) dL_law_33 ⟨255, Or.inr ⟨by decide, by decide, 222, by decide, by decide⟩, ?_⟩
        refine e_aload_n (pc := 255) (i := 1) dL_law_255 rfl rfl ?_
        refine e_callV0 (pc := 256) (M' := mX5_fault) dL_law_256 iX5_fault lkL_27 (by decide) (rO_obj sh_0 rfl) (Nat.le_of_ble_eq_true rfl) (Nat.le_of_ble_eq_true rfl) ?_
        refine E.mono (b_fault hI) (fun r S1 hr => ?_)
        obtain ⟨v, rfl, h2⟩ := hr
        refine e_aload_n (pc := 259) (i := 2) dL_law_259 rfl rfl ?_
        refine e_callV0 (pc := 260) (M' := mX6_fault) dL_law_260 iX6_fault lkL_30 (by decide) (rO_obj sh_54 rfl) (Nat.le_of_ble_eq_true rfl) (Nat.le_of_ble_eq_true rfl) ?_
        refine E.mono h2 (fun r S2 hr2 => ?_)
        obtain ⟨rfl, hI2⟩ := hr2
        refine e_icmp_eq (pc := 263) (tgt := 1319) dL_law_263 (by decide) (fun h263 => ?_) (fun h263 => absurd rfl h263)
        refine e_iinc' (pc := 1319) (nI (i + 6)) dL_law_1319 rfl (by decide) rfl (nI_add _ _) ?_
        refine e_goto (pc := 1322) (tgt := 18) dL_law_1322 (by decide) ?_
        first
          | exact ih (i + 6) S2 (by omega) (by omega) hI2
          | exact ih (i + 6) S (by omega) (by omega) hI
      · refine e_table (pc := 33) dL_law_33 ⟨268, Or.inr ⟨by decide, by decide, 235, by decide, by decide⟩, ?_⟩
        refine e_aload_n (pc := 268) (i := 1) dL_law_268 rfl rfl ?_
        refine e_aload_n (pc := 269) (i := 0) dL_law_269 rfl rfl ?_
        refine e_iload_n (pc := 270) (i := 3) dL_law_270 rfl rfl ?_
        refine e_iconst' (pc := 271) (nI 1) dL_law_271 (by decide) ?_
        refine e_iadd (pc := 272) dL_law_272 ?_
        refine E.it (nI (i + 1)) (nI_add _ _) ?_
        refine e_sld (pc := 273) dL_law_273 (vp_in_nI (by omega) (by omega)) ?_
        refine e_callV1 (pc := 274) (M' := mX5_rule) dL_law_274 iX5_rule lkL_31 (by decide) (rO_obj sh_0 rfl) (Nat.le_of_ble_eq_true rfl) (Nat.le_of_ble_eq_true rfl) ?_
        refine E.mono (b_rule hI _) (fun r S1 hr => ?_)
        obtain ⟨v, rfl, h2⟩ := hr
        refine e_aload_n (pc := 277) (i := 2) dL_law_277 rfl rfl ?_
        refine e_aload_n (pc := 278) (i := 0) dL_law_278 rfl rfl ?_
        refine e_iload_n (pc := 279) (i := 3) dL_law_279 rfl rfl ?_
        refine e_iconst' (pc := 280) (nI 1) dL_law_280 (by decide) ?_
        refine e_iadd (pc := 281) dL_law_281 ?_
        refine E.it (nI (i + 1)) (nI_add _ _) ?_
        refine e_sld (pc := 282) dL_law_282 (vp_in_nI (by omega) (by omega)) ?_
        refine e_callV1 (pc := 283) (M' := mX6_rule) dL_law_283 iX6_rule lkL_34 (by decide) (rO_obj sh_54 rfl) (Nat.le_of_ble_eq_true rfl) (Nat.le_of_ble_eq_true rfl) ?_
        refine E.mono h2 (fun r S2 hr2 => ?_)
        obtain ⟨rfl, hI2⟩ := hr2
        refine e_icmp_eq (pc := 286) (tgt := 1319) dL_law_286 (by decide) (fun h286 => ?_) (fun h286 => absurd rfl h286)
        refine e_iinc' (pc := 1319) (nI (i + 6)) dL_law_1319 rfl (by decide) rfl (nI_add _ _) ?_
        refine e_goto (pc := 1322) (tgt := 18) dL_law_1322 (by decide) ?_
        first
          | exact ih (i + 6) S2 (by omega) (by omega) hI2
          | exact ih (i + 6) S (by omega) (by omega) hI
      · refine e_table (pc := 33) dL_law_33 ⟨291, Or.inr ⟨by decide, by decide, 258, by decide, by decide⟩, ?_⟩
        refine e_aload_n (pc := 291) (i := 1) dL_law_291 rfl rfl ?_
        refine e_aload_n (pc := 292) (i := 0) dL_law_292 rfl rfl ?_
        refine e_iload_n (pc := 293) (i := 3) dL_law_293 rfl rfl ?_
        refine e_iconst' (pc := 294) (nI 1) dL_law_294 (by decide) ?_
        refine e_iadd (pc := 295) dL_law_295 ?_
        refine E.it (nI (i + 1)) (nI_add _ _) ?_
        refine e_sld (pc := 296) dL_law_296 (vp_in_nI (by omega) (by omega)) ?_
        refine e_aload_n (pc := 297) (i := 0) dL_law_297 rfl rfl ?_
        refine e_iload_n (pc := 298) (i := 3) dL_law_298 rfl rfl ?_
        refine e_iconst' (pc := 299) (nI 2) dL_law_299 (by decide) ?_
        refine e_iadd (pc := 300) dL_law_300 ?_
        refine E.it (nI (i + 2)) (nI_add _ _) ?_
        refine e_sld (pc := 301) dL_law_301 (vp_in_nI (by omega) (by omega)) ?_
        refine e_callV2 (pc := 302) (M' := mX5_wheel) dL_law_302 iX5_wheel lkL_35 (by decide) (rO_obj sh_0 rfl) (Nat.le_of_ble_eq_true rfl) (Nat.le_of_ble_eq_true rfl) ?_
        refine E.mono (b_wheel hI _ _) (fun r S1 hr => ?_)
        obtain ⟨v, rfl, h2⟩ := hr
        refine e_aload_n (pc := 305) (i := 2) dL_law_305 rfl rfl ?_
        refine e_aload_n (pc := 306) (i := 0) dL_law_306 rfl rfl ?_
        refine e_iload_n (pc := 307) (i := 3) dL_law_307 rfl rfl ?_
        refine e_iconst' (pc := 308) (nI 1) dL_law_308 (by decide) ?_
        refine e_iadd (pc := 309) dL_law_309 ?_
        refine E.it (nI (i + 1)) (nI_add _ _) ?_
        refine e_sld (pc := 310) dL_law_310 (vp_in_nI (by omega) (by omega)) ?_
        refine e_aload_n (pc := 311) (i := 0) dL_law_311 rfl rfl ?_
        refine e_iload_n (pc := 312) (i := 3) dL_law_312 rfl rfl ?_
        refine e_iconst' (pc := 313) (nI 2) dL_law_313 (by decide) ?_
        refine e_iadd (pc := 314) dL_law_314 ?_
        refine E.it (nI (i + 2)) (nI_add _ _) ?_
        refine e_sld (pc := 315) dL_law_315 (vp_in_nI (by omega) (by omega)) ?_
        refine e_callV2 (pc := 316) (M' := mX6_wheel) dL_law_316 iX6_wheel lkL_39 (by decide) (rO_obj sh_54 rfl) (Nat.le_of_ble_eq_true rfl) (Nat.le_of_ble_eq_true rfl) ?_
        refine E.mono h2 (fun r S2 hr2 => ?_)
        obtain ⟨rfl, hI2⟩ := hr2
        refine e_icmp_eq (pc := 319) (tgt := 1319) dL_law_319 (by decide) (fun h319 => ?_) (fun h319 => absurd rfl h319)
        refine e_iinc' (pc := 1319) (nI (i + 6)) dL_law_1319 rfl (by decide) rfl (nI_add _ _) ?_
        refine e_goto (pc := 1322) (tgt := 18) dL_law_1322 (by decide) ?_
        first
          | exact ih (i + 6) S2 (by omega) (by omega) hI2
          | exact ih (i + 6) S (by omega) (by omega) hI
      · refine e_table (pc := 33) dL_law_33 ⟨324, Or.inr ⟨by decide, by decide, 291, by decide, by decide⟩, ?_⟩
        refine e_aload_n (pc := 324) (i := 1) dL_law_324 rfl rfl ?_
        refine e_aload_n (pc := 325) (i := 0) dL_law_325 rfl rfl ?_
        refine e_iload_n (pc := 326) (i := 3) dL_law_326 rfl rfl ?_
        refine e_iconst' (pc := 327) (nI 1) dL_law_327 (by decide) ?_
        refine e_iadd (pc := 328) dL_law_328 ?_
        refine E.it (nI (i + 1)) (nI_add _ _) ?_
        refine e_sld (pc := 329) dL_law_329 (vp_in_nI (by omega) (by omega)) ?_
        refine e_aload_n (pc := 330) (i := 0) dL_law_330 rfl rfl ?_
        refine e_iload_n (pc := 331) (i := 3) dL_law_331 rfl rfl ?_
        refine e_iconst' (pc := 332) (nI 2) dL_law_332 (by decide) ?_
        refine e_iadd (pc := 333) dL_law_333 ?_
        refine E.it (nI (i + 2)) (nI_add _ _) ?_
        refine e_sld (pc := 334) dL_law_334 (vp_in_nI (by omega) (by omega)) ?_
        refine e_aload_n (pc := 335) (i := 0) dL_law_335 rfl rfl ?_
        refine e_iload_n (pc := 336) (i := 3) dL_law_336 rfl rfl ?_
        refine e_iconst' (pc := 337) (nI 3) dL_law_337 (by decide) ?_
        refine e_iadd (pc := 338) dL_law_338 ?_
        refine E.it (nI (i + 3)) (nI_add _ _) ?_
        refine e_sld (pc := 339) dL_law_339 (vp_in_nI (by omega) (by omega)) ?_
        refine e_callV3 (pc := 340) (M' := mX5_alter) dL_law_340 iX5_alter lkL_40 (by decide) (rO_obj sh_0 rfl) (Nat.le_of_ble_eq_true rfl) (Nat.le_of_ble_eq_true rfl) ?_
        refine E.mono (b_alter hI _ _ _) (fun r S1 hr => ?_)
        obtain ⟨v, rfl, h2⟩ := hr
        refine e_aload_n (pc := 343) (i := 2) dL_law_343 rfl rfl ?_
        refine e_aload_n (pc := 344) (i := 0) dL_law_344 rfl rfl ?_
        refine e_iload_n (pc := 345) (i := 3) dL_law_345 rfl rfl ?_
        refine e_iconst' (pc := 346) (nI 1) dL_law_346 (by decide) ?_
        refine e_iadd (pc := 347) dL_law_347 ?_
        refine E.it (nI (i + 1)) (nI_add _ _) ?_
        refine e_sld (pc := 348) dL_law_348 (vp_in_nI (by omega) (by omega)) ?_
        refine e_aload_n (pc := 349) (i := 0) dL_law_349 rfl rfl ?_
        refine e_iload_n (pc := 350) (i := 3) dL_law_350 rfl rfl ?_
        refine e_iconst' (pc := 351) (nI 2) dL_law_351 (by decide) ?_
        refine e_iadd (pc := 352) dL_law_352 ?_
        refine E.it (nI (i + 2)) (nI_add _ _) ?_
        refine e_sld (pc := 353) dL_law_353 (vp_in_nI (by omega) (by omega)) ?_
        refine e_aload_n (pc := 354) (i := 0) dL_law_354 rfl rfl ?_
        refine e_iload_n (pc := 355) (i := 3) dL_law_355 rfl rfl ?_
        refine e_iconst' (pc := 356) (nI 3) dL_law_356 (by decide) ?_
        refine e_iadd (pc := 357) dL_law_357 ?_
        refine E.it (nI (i + 3)) (nI_add _ _) ?_
        refine e_sld (pc := 358) dL_law_358 (vp_in_nI (by omega) (by omega)) ?_
        refine e_callV3 (pc := 359) (M' := mX6_alter) dL_law_359 iX6_alter lkL_44 (by decide) (rO_obj sh_54 rfl) (Nat.le_of_ble_eq_true rfl) (Nat.le_of_ble_eq_true rfl) ?_
        refine E.mono h2 (fun r S2 hr2 => ?_)
        obtain ⟨rfl, hI2⟩ := hr2
        refine e_icmp_eq (pc := 362) (tgt := 1319) dL_law_362 (by decide) (fun h362 => ?_) (fun h362 => absurd rfl h362)
        refine e_iinc' (pc := 1319) (nI (i + 6)) dL_law_1319 rfl (by decide) rfl (nI_add _ _) ?_
        refine e_goto (pc := 1322) (tgt := 18) dL_law_1322 (by decide) ?_
        first
          | exact ih (i + 6) S2 (by omega) (by omega) hI2
          | exact ih (i + 6) S (by omega) (by omega) hI
      · refine e_table (pc := 33) dL_law_33 ⟨367, Or.inr ⟨by decide, by decide, 334, by decide, by decide⟩, ?_⟩
        refine e_aload_n (pc := 367) (i := 1) dL_law_367 rfl rfl ?_
        refine e_aload_n (pc := 368) (i := 0) dL_law_368 rfl rfl ?_
        refine e_iload_n (pc := 369) (i := 3) dL_law_369 rfl rfl ?_
        refine e_iconst' (pc := 370) (nI 1) dL_law_370 (by decide) ?_
        refine e_iadd (pc := 371) dL_law_371 ?_
        refine E.it (nI (i + 1)) (nI_add _ _) ?_
        refine e_sld (pc := 372) dL_law_372 (vp_in_nI (by omega) (by omega)) ?_
        refine e_aload_n (pc := 373) (i := 0) dL_law_373 rfl rfl ?_
        refine e_iload_n (pc := 374) (i := 3) dL_law_374 rfl rfl ?_
        refine e_iconst' (pc := 375) (nI 2) dL_law_375 (by decide) ?_
        refine e_iadd (pc := 376) dL_law_376 ?_
        refine E.it (nI (i + 2)) (nI_add _ _) ?_
        refine e_sld (pc := 377) dL_law_377 (vp_in_nI (by omega) (by omega)) ?_
        refine e_callV2 (pc := 378) (M' := mX5_add) dL_law_378 iX5_add lkL_45 (by decide) (rO_obj sh_0 rfl) (Nat.le_of_ble_eq_true rfl) (Nat.le_of_ble_eq_true rfl) ?_
        refine E.mono (b_add hI _ _) (fun r S1 hr => ?_)
        obtain ⟨v, rfl, h2⟩ := hr
        refine e_aload_n (pc := 381) (i := 2) dL_law_381 rfl rfl ?_
        refine e_aload_n (pc := 382) (i := 0) dL_law_382 rfl rfl ?_
        refine e_iload_n (pc := 383) (i := 3) dL_law_383 rfl rfl ?_
        refine e_iconst' (pc := 384) (nI 1) dL_law_384 (by decide) ?_
        refine e_iadd (pc := 385) dL_law_385 ?_
        refine E.it (nI (i + 1)) (nI_add _ _) ?_
        refine e_sld (pc := 386) dL_law_386 (vp_in_nI (by omega) (by omega)) ?_
        refine e_aload_n (pc := 387) (i := 0) dL_law_387 rfl rfl ?_
        refine e_iload_n (pc := 388) (i := 3) dL_law_388 rfl rfl ?_
        refine e_iconst' (pc := 389) (nI 2) dL_law_389 (by decide) ?_
        refine e_iadd (pc := 390) dL_law_390 ?_
        refine E.it (nI (i + 2)) (nI_add _ _) ?_
        refine e_sld (pc := 391) dL_law_391 (vp_in_nI (by omega) (by omega)) ?_
        refine e_callV2 (pc := 392) (M' := mX6_add) dL_law_392 iX6_add lkL_48 (by decide) (rO_obj sh_54 rfl) (Nat.le_of_ble_eq_true rfl) (Nat.le_of_ble_eq_true rfl) ?_
        refine E.mono h2 (fun r S2 hr2 => ?_)
        obtain ⟨rfl, hI2⟩ := hr2
        refine e_icmp_eq (pc := 395) (tgt := 1319) dL_law_395 (by decide) (fun h395 => ?_) (fun h395 => absurd rfl h395)
        refine e_iinc' (pc := 1319) (nI (i + 6)) dL_law_1319 rfl (by decide) rfl (nI_add _ _) ?_
        refine e_goto (pc := 1322) (tgt := 18) dL_law_1322 (by decide) ?_
        first
          | exact ih (i + 6) S2 (by omega) (by omega) hI2
          | exact ih (i + 6) S (by omega) (by omega) hI
      · refine e_table (pc := 33) dL_law_33 ⟨400, Or.inr ⟨by decide, by decide, 367, by decide, by decide⟩, ?_⟩
        refine e_aload_n (pc := 400) (i := 1) dL_law_400 rfl rfl ?_
        refine e_aload_n (pc := 401) (i := 0) dL_law_401 rfl rfl ?_
        refine e_iload_n (pc := 402) (i := 3) dL_law_402 rfl rfl ?_
        refine e_iconst' (pc := 403) (nI 1) dL_law_403 (by decide) ?_
        refine e_iadd (pc := 404) dL_law_404 ?_
        refine E.it (nI (i + 1)) (nI_add _ _) ?_
        refine e_sld (pc := 405) dL_law_405 (vp_in_nI (by omega) (by omega)) ?_
        refine e_callV1 (pc := 406) (M' := mX5_cut) dL_law_406 iX5_cut lkL_49 (by decide) (rO_obj sh_0 rfl) (Nat.le_of_ble_eq_true rfl) (Nat.le_of_ble_eq_true rfl) ?_
        refine E.mono (b_cut hI _) (fun r S1 hr => ?_)
        obtain ⟨v, rfl, h2⟩ := hr
        refine e_aload_n (pc := 409) (i := 2) dL_law_409 rfl rfl ?_
        refine e_aload_n (pc := 410) (i := 0) dL_law_410 rfl rfl ?_
        refine e_iload_n (pc := 411) (i := 3) dL_law_411 rfl rfl ?_
        refine e_iconst' (pc := 412) (nI 1) dL_law_412 (by decide) ?_
        refine e_iadd (pc := 413) dL_law_413 ?_
        refine E.it (nI (i + 1)) (nI_add _ _) ?_
        refine e_sld (pc := 414) dL_law_414 (vp_in_nI (by omega) (by omega)) ?_
        refine e_callV1 (pc := 415) (M' := mX6_cut) dL_law_415 iX6_cut lkL_52 (by decide) (rO_obj sh_54 rfl) (Nat.le_of_ble_eq_true rfl) (Nat.le_of_ble_eq_true rfl) ?_
        refine E.mono h2 (fun r S2 hr2 => ?_)
        obtain ⟨rfl, hI2⟩ := hr2
        refine e_icmp_eq (pc := 418) (tgt := 1319) dL_law_418 (by decide) (fun h418 => ?_) (fun h418 => absurd rfl h418)
        refine e_iinc' (pc := 1319) (nI (i + 6)) dL_law_1319 rfl (by decide) rfl (nI_add _ _) ?_
        refine e_goto (pc := 1322) (tgt := 18) dL_law_1322 (by decide) ?_
        first
          | exact ih (i + 6) S2 (by omega) (by omega) hI2
          | exact ih (i + 6) S (by omega) (by omega) hI
      · refine e_table (pc := 33) dL_law_33 ⟨423, Or.inr ⟨by decide, by decide, 390, by decide, by decide⟩, ?_⟩
        refine e_aload_n (pc := 423) (i := 1) dL_law_423 rfl rfl ?_
        refine e_aload_n (pc := 424) (i := 0) dL_law_424 rfl rfl ?_
        refine e_iload_n (pc := 425) (i := 3) dL_law_425 rfl rfl ?_
        refine e_iconst' (pc := 426) (nI 1) dL_law_426 (by decide) ?_
        refine e_iadd (pc := 427) dL_law_427 ?_
        refine E.it (nI (i + 1)) (nI_add _ _) ?_
        refine e_sld (pc := 428) dL_law_428 (vp_in_nI (by omega) (by omega)) ?_
        refine e_callV1 (pc := 429) (M' := mX5_turn) dL_law_429 iX5_turn lkL_53 (by decide) (rO_obj sh_0 rfl) (Nat.le_of_ble_eq_true rfl) (Nat.le_of_ble_eq_true rfl) ?_
        refine E.mono (b_turn hI _) (fun r S1 hr => ?_)
        obtain ⟨v, rfl, h2⟩ := hr
        refine e_aload_n (pc := 432) (i := 2) dL_law_432 rfl rfl ?_
        refine e_aload_n (pc := 433) (i := 0) dL_law_433 rfl rfl ?_
        refine e_iload_n (pc := 434) (i := 3) dL_law_434 rfl rfl ?_
        refine e_iconst' (pc := 435) (nI 1) dL_law_435 (by decide) ?_
        refine e_iadd (pc := 436) dL_law_436 ?_
        refine E.it (nI (i + 1)) (nI_add _ _) ?_
        refine e_sld (pc := 437) dL_law_437 (vp_in_nI (by omega) (by omega)) ?_
        refine e_callV1 (pc := 438) (M' := mX6_turn) dL_law_438 iX6_turn lkL_56 (by decide) (rO_obj sh_54 rfl) (Nat.le_of_ble_eq_true rfl) (Nat.le_of_ble_eq_true rfl) ?_
        refine E.mono h2 (fun r S2 hr2 => ?_)
        obtain ⟨rfl, hI2⟩ := hr2
        refine e_icmp_eq (pc := 441) (tgt := 1319) dL_law_441 (by decide) (fun h441 => ?_) (fun h441 => absurd rfl h441)
        refine e_iinc' (pc := 1319) (nI (i + 6)) dL_law_1319 rfl (by decide) rfl (nI_add _ _) ?_
        refine e_goto (pc := 1322) (tgt := 18) dL_law_1322 (by decide) ?_
        first
          | exact ih (i + 6) S2 (by omega) (by omega) hI2
          | exact ih (i + 6) S (by omega) (by omega) hI
      · refine e_table (pc := 33) dL_law_33 ⟨446, Or.inr ⟨by decide, by decide, 413, by decide, by decide⟩, ?_⟩
        refine e_aload_n (pc := 446) (i := 1) dL_law_446 rfl rfl ?_
        refine e_callV0 (pc := 447) (M' := mX5_clear) dL_law_447 iX5_clear lkL_57 (by decide) (rO_obj sh_0 rfl) (Nat.le_of_ble_eq_true rfl) (Nat.le_of_ble_eq_true rfl) ?_
        refine E.mono (b_clear hI) (fun r S1 hr => ?_)
        obtain ⟨v, rfl, h2⟩ := hr
        refine e_aload_n (pc := 450) (i := 2) dL_law_450 rfl rfl ?_
        refine e_callV0 (pc := 451) (M' := mX6_clear) dL_law_451 iX6_clear lkL_60 (by decide) (rO_obj sh_54 rfl) (Nat.le_of_ble_eq_true rfl) (Nat.le_of_ble_eq_true rfl) ?_
        refine E.mono h2 (fun r S2 hr2 => ?_)
        obtain ⟨rfl, hI2⟩ := hr2
        refine e_icmp_eq (pc := 454) (tgt := 1319) dL_law_454 (by decide) (fun h454 => ?_) (fun h454 => absurd rfl h454)
        refine e_iinc' (pc := 1319) (nI (i + 6)) dL_law_1319 rfl (by decide) rfl (nI_add _ _) ?_
        refine e_goto (pc := 1322) (tgt := 18) dL_law_1322 (by decide) ?_
        first
          | exact ih (i + 6) S2 (by omega) (by omega) hI2
          | exact ih (i + 6) S (by omega) (by omega) hI
      · refine e_table (pc := 33) dL_law_33 ⟨459, Or.inr ⟨by decide, by decide, 426, by decide, by decide⟩, ?_⟩
        refine e_aload_n (pc := 459) (i := 1) dL_law_459 rfl rfl ?_
        refine e_aload_n (pc := 460) (i := 0) dL_law_460 rfl rfl ?_
        refine e_iload_n (pc := 461) (i := 3) dL_law_461 rfl rfl ?_
        refine e_iconst' (pc := 462) (nI 1) dL_law_462 (by decide) ?_
        refine e_iadd (pc := 463) dL_law_463 ?_
        refine E.it (nI (i + 1)) (nI_add _ _) ?_
        refine e_sld (pc := 464) dL_law_464 (vp_in_nI (by omega) (by omega)) ?_
        refine e_callV1 (pc := 465) (M' := mX5_pushes) dL_law_465 iX5_pushes lkL_61 (by decide) (rO_obj sh_0 rfl) (Nat.le_of_ble_eq_true rfl) (Nat.le_of_ble_eq_true rfl) ?_
        refine E.mono (b_pushes hI _) (fun r S1 hr => ?_)
        obtain ⟨v, rfl, h2⟩ := hr
        refine e_aload_n (pc := 468) (i := 2) dL_law_468 rfl rfl ?_
        refine e_aload_n (pc := 469) (i := 0) dL_law_469 rfl rfl ?_
        refine e_iload_n (pc := 470) (i := 3) dL_law_470 rfl rfl ?_
        refine e_iconst' (pc := 471) (nI 1) dL_law_471 (by decide) ?_
        refine e_iadd (pc := 472) dL_law_472 ?_
        refine E.it (nI (i + 1)) (nI_add _ _) ?_
        refine e_sld (pc := 473) dL_law_473 (vp_in_nI (by omega) (by omega)) ?_
        refine e_callV1 (pc := 474) (M' := mX6_pushes) dL_law_474 iX6_pushes lkL_64 (by decide) (rO_obj sh_54 rfl) (Nat.le_of_ble_eq_true rfl) (Nat.le_of_ble_eq_true rfl) ?_
        refine E.mono h2 (fun r S2 hr2 => ?_)
        obtain ⟨rfl, hI2⟩ := hr2
        refine e_icmp_eq (pc := 477) (tgt := 1319) dL_law_477 (by decide) (fun h477 => ?_) (fun h477 => absurd rfl h477)
        refine e_iinc' (pc := 1319) (nI (i + 6)) dL_law_1319 rfl (by decide) rfl (nI_add _ _) ?_
        refine e_goto (pc := 1322) (tgt := 18) dL_law_1322 (by decide) ?_
        first
          | exact ih (i + 6) S2 (by omega) (by omega) hI2
          | exact ih (i + 6) S (by omega) (by omega) hI
      · refine e_table (pc := 33) dL_law_33 ⟨482, Or.inr ⟨by decide, by decide, 449, by decide, by decide⟩, ?_⟩
        refine e_aload_n (pc := 482) (i := 1) dL_law_482 rfl rfl ?_
        refine e_aload_n (pc := 483) (i := 0) dL_law_483 rfl rfl ?_
        refine e_iload_n (pc := 484) (i := 3) dL_law_484 rfl rfl ?_
        refine e_iconst' (pc := 485) (nI 1) dL_law_485 (by decide) ?_
        refine e_iadd (pc := 486) dL_law_486 ?_
        refine E.it (nI (i + 1)) (nI_add _ _) ?_
        refine e_sld (pc := 487) dL_law_487 (vp_in_nI (by omega) (by omega)) ?_
        refine e_aload_n (pc := 488) (i := 0) dL_law_488 rfl rfl ?_
        refine e_iload_n (pc := 489) (i := 3) dL_law_489 rfl rfl ?_
        refine e_iconst' (pc := 490) (nI 2) dL_law_490 (by decide) ?_
        refine e_iadd (pc := 491) dL_law_491 ?_
        refine E.it (nI (i + 2)) (nI_add _ _) ?_
        refine e_sld (pc := 492) dL_law_492 (vp_in_nI (by omega) (by omega)) ?_
        refine e_callV2 (pc := 493) (M' := mX5_runs) dL_law_493 iX5_runs lkL_65 (by decide) (rO_obj sh_0 rfl) (Nat.le_of_ble_eq_true rfl) (Nat.le_of_ble_eq_true rfl) ?_
        refine E.mono (b_runs hI _ _) (fun r S1 hr => ?_)
        obtain ⟨v, rfl, h2⟩ := hr
        refine e_aload_n (pc := 496) (i := 2) dL_law_496 rfl rfl ?_
        refine e_aload_n (pc := 497) (i := 0) dL_law_497 rfl rfl ?_
        refine e_iload_n (pc := 498) (i := 3) dL_law_498 rfl rfl ?_
        refine e_iconst' (pc := 499) (nI 1) dL_law_499 (by decide) ?_
        refine e_iadd (pc := 500) dL_law_500 ?_
        refine E.it (nI (i + 1)) (nI_add _ _) ?_
        refine e_sld (pc := 501) dL_law_501 (vp_in_nI (by omega) (by omega)) ?_
        refine e_aload_n (pc := 502) (i := 0) dL_law_502 rfl rfl ?_
        refine e_iload_n (pc := 503) (i := 3) dL_law_503 rfl rfl ?_
        refine e_iconst' (pc := 504) (nI 2) dL_law_504 (by decide) ?_
        refine e_iadd (pc := 505) dL_law_505 ?_
        refine E.it (nI (i + 2)) (nI_add _ _) ?_
        refine e_sld (pc := 506) dL_law_506 (vp_in_nI (by omega) (by omega)) ?_
        refine e_callV2 (pc := 507) (M' := mX6_runs) dL_law_507 iX6_runs lkL_68 (by decide) (rO_obj sh_54 rfl) (Nat.le_of_ble_eq_true rfl) (Nat.le_of_ble_eq_true rfl) ?_
        refine E.mono h2 (fun r S2 hr2 => ?_)
        obtain ⟨rfl, hI2⟩ := hr2
        refine e_icmp_eq (pc := 510) (tgt := 1319) dL_law_510 (by decide) (fun h510 => ?_) (fun h510 => absurd rfl h510)
        refine e_iinc' (pc := 1319) (nI (i + 6)) dL_law_1319 rfl (by decide) rfl (nI_add _ _) ?_
        refine e_goto (pc := 1322) (tgt := 18) dL_law_1322 (by decide) ?_
        first
          | exact ih (i + 6) S2 (by omega) (by omega) hI2
          | exact ih (i + 6) S (by omega) (by omega) hI
      · refine e_table (pc := 33) dL_law_33 ⟨515, Or.inr ⟨by decide, by decide, 482, by decide, by decide⟩, ?_⟩
        refine e_aload_n (pc := 515) (i := 1) dL_law_515 rfl rfl ?_
        refine e_aload_n (pc := 516) (i := 0) dL_law_516 rfl rfl ?_
        refine e_iload_n (pc := 517) (i := 3) dL_law_517 rfl rfl ?_
        refine e_iconst' (pc := 518) (nI 1) dL_law_518 (by decide) ?_
        refine e_iadd (pc := 519) dL_law_519 ?_
        refine E.it (nI (i + 1)) (nI_add _ _) ?_
        refine e_sld (pc := 520) dL_law_520 (vp_in_nI (by omega) (by omega)) ?_
        refine e_aload_n (pc := 521) (i := 0) dL_law_521 rfl rfl ?_
        refine e_iload_n (pc := 522) (i := 3) dL_law_522 rfl rfl ?_
        refine e_iconst' (pc := 523) (nI 2) dL_law_523 (by decide) ?_
        refine e_iadd (pc := 524) dL_law_524 ?_
        refine E.it (nI (i + 2)) (nI_add _ _) ?_
        refine e_sld (pc := 525) dL_law_525 (vp_in_nI (by omega) (by omega)) ?_
        refine e_callV2 (pc := 526) (M' := mX5_ahead) dL_law_526 iX5_ahead lkL_69 (by decide) (rO_obj sh_0 rfl) (Nat.le_of_ble_eq_true rfl) (Nat.le_of_ble_eq_true rfl) ?_
        refine E.mono (b_ahead hI _ _) (fun r S1 hr => ?_)
        obtain ⟨v, rfl, h2⟩ := hr
        refine e_aload_n (pc := 529) (i := 2) dL_law_529 rfl rfl ?_
        refine e_aload_n (pc := 530) (i := 0) dL_law_530 rfl rfl ?_
        refine e_iload_n (pc := 531) (i := 3) dL_law_531 rfl rfl ?_
        refine e_iconst' (pc := 532) (nI 1) dL_law_532 (by decide) ?_
        refine e_iadd (pc := 533) dL_law_533 ?_
        refine E.it (nI (i + 1)) (nI_add _ _) ?_
        refine e_sld (pc := 534) dL_law_534 (vp_in_nI (by omega) (by omega)) ?_
        refine e_aload_n (pc := 535) (i := 0) dL_law_535 rfl rfl ?_
        refine e_iload_n (pc := 536) (i := 3) dL_law_536 rfl rfl ?_
        refine e_iconst' (pc := 537) (nI 2) dL_law_537 (by decide) ?_
        refine e_iadd (pc := 538) dL_law_538 ?_
        refine E.it (nI (i + 2)) (nI_add _ _) ?_
        refine e_sld (pc := 539) dL_law_539 (vp_in_nI (by omega) (by omega)) ?_
        refine e_callV2 (pc := 540) (M' := mX6_ahead) dL_law_540 iX6_ahead lkL_72 (by decide) (rO_obj sh_54 rfl) (Nat.le_of_ble_eq_true rfl) (Nat.le_of_ble_eq_true rfl) ?_
        refine E.mono h2 (fun r S2 hr2 => ?_)
        obtain ⟨rfl, hI2⟩ := hr2
        refine e_icmp_eq (pc := 543) (tgt := 1319) dL_law_543 (by decide) (fun h543 => ?_) (fun h543 => absurd rfl h543)
        refine e_iinc' (pc := 1319) (nI (i + 6)) dL_law_1319 rfl (by decide) rfl (nI_add _ _) ?_
        refine e_goto (pc := 1322) (tgt := 18) dL_law_1322 (by decide) ?_
        first
          | exact ih (i + 6) S2 (by omega) (by omega) hI2
          | exact ih (i + 6) S (by omega) (by omega) hI
      · refine e_table (pc := 33) dL_law_33 ⟨548, Or.inr ⟨by decide, by decide, 515, by decide, by decide⟩, ?_⟩
        refine e_aload_n (pc := 548) (i := 1) dL_law_548 rfl rfl ?_
        refine e_aload_n (pc := 549) (i := 0) dL_law_549 rfl rfl ?_
        refine e_iload_n (pc := 550) (i := 3) dL_law_550 rfl rfl ?_
        refine e_iconst' (pc := 551) (nI 1) dL_law_551 (by decide) ?_
        refine e_iadd (pc := 552) dL_law_552 ?_
        refine E.it (nI (i + 1)) (nI_add _ _) ?_
        refine e_sld (pc := 553) dL_law_553 (vp_in_nI (by omega) (by omega)) ?_
        refine e_callV1 (pc := 554) (M' := mX5_when) dL_law_554 iX5_when lkL_73 (by decide) (rO_obj sh_0 rfl) (Nat.le_of_ble_eq_true rfl) (Nat.le_of_ble_eq_true rfl) ?_
        refine E.mono (b_when hI _) (fun r S1 hr => ?_)
        obtain ⟨v, rfl, h2⟩ := hr
        refine e_aload_n (pc := 557) (i := 2) dL_law_557 rfl rfl ?_
        refine e_aload_n (pc := 558) (i := 0) dL_law_558 rfl rfl ?_
        refine e_iload_n (pc := 559) (i := 3) dL_law_559 rfl rfl ?_
        refine e_iconst' (pc := 560) (nI 1) dL_law_560 (by decide) ?_
        refine e_iadd (pc := 561) dL_law_561 ?_
        refine E.it (nI (i + 1)) (nI_add _ _) ?_
        refine e_sld (pc := 562) dL_law_562 (vp_in_nI (by omega) (by omega)) ?_
        refine e_callV1 (pc := 563) (M' := mX6_when) dL_law_563 iX6_when lkL_76 (by decide) (rO_obj sh_54 rfl) (Nat.le_of_ble_eq_true rfl) (Nat.le_of_ble_eq_true rfl) ?_
        refine E.mono h2 (fun r S2 hr2 => ?_)
        obtain ⟨rfl, hI2⟩ := hr2
        refine e_icmp_eq (pc := 566) (tgt := 1319) dL_law_566 (by decide) (fun h566 => ?_) (fun h566 => absurd rfl h566)
        refine e_iinc' (pc := 1319) (nI (i + 6)) dL_law_1319 rfl (by decide) rfl (nI_add _ _) ?_
        refine e_goto (pc := 1322) (tgt := 18) dL_law_1322 (by decide) ?_
        first
          | exact ih (i + 6) S2 (by omega) (by omega) hI2
          | exact ih (i + 6) S (by omega) (by omega) hI
      · refine e_table (pc := 33) dL_law_33 ⟨571, Or.inr ⟨by decide, by decide, 538, by decide, by decide⟩, ?_⟩
        refine e_aload_n (pc := 571) (i := 1) dL_law_571 rfl rfl ?_
        refine e_aload_n (pc := 572) (i := 0) dL_law_572 rfl rfl ?_
        refine e_iload_n (pc := 573) (i := 3) dL_law_573 rfl rfl ?_
        refine e_iconst' (pc := 574) (nI 1) dL_law_574 (by decide) ?_
        refine e_iadd (pc := 575) dL_law_575 ?_
        refine E.it (nI (i + 1)) (nI_add _ _) ?_
        refine e_sld (pc := 576) dL_law_576 (vp_in_nI (by omega) (by omega)) ?_
        refine e_aload_n (pc := 577) (i := 0) dL_law_577 rfl rfl ?_
        refine e_iload_n (pc := 578) (i := 3) dL_law_578 rfl rfl ?_
        refine e_iconst' (pc := 579) (nI 2) dL_law_579 (by decide) ?_
        refine e_iadd (pc := 580) dL_law_580 ?_
        refine E.it (nI (i + 2)) (nI_add _ _) ?_
        refine e_sld (pc := 581) dL_law_581 (vp_in_nI (by omega) (by omega)) ?_
        refine e_callV2 (pc := 582) (M' := mX5_shows) dL_law_582 iX5_shows lkL_77 (by decide) (rO_obj sh_0 rfl) (Nat.le_of_ble_eq_true rfl) (Nat.le_of_ble_eq_true rfl) ?_
        refine E.mono (b_shows hI _ _) (fun r S1 hr => ?_)
        obtain ⟨v, rfl, h2⟩ := hr
        refine e_aload_n (pc := 585) (i := 2) dL_law_585 rfl rfl ?_
        refine e_aload_n (pc := 586) (i := 0) dL_law_586 rfl rfl ?_
        refine e_iload_n (pc := 587) (i := 3) dL_law_587 rfl rfl ?_
        refine e_iconst' (pc := 588) (nI 1) dL_law_588 (by decide) ?_
        refine e_iadd (pc := 589) dL_law_589 ?_
        refine E.it (nI (i + 1)) (nI_add _ _) ?_
        refine e_sld (pc := 590) dL_law_590 (vp_in_nI (by omega) (by omega)) ?_
        refine e_aload_n (pc := 591) (i := 0) dL_law_591 rfl rfl ?_
        refine e_iload_n (pc := 592) (i := 3) dL_law_592 rfl rfl ?_
        refine e_iconst' (pc := 593) (nI 2) dL_law_593 (by decide) ?_
        refine e_iadd (pc := 594) dL_law_594 ?_
        refine E.it (nI (i + 2)) (nI_add _ _) ?_
        refine e_sld (pc := 595) dL_law_595 (vp_in_nI (by omega) (by omega)) ?_
        refine e_callV2 (pc := 596) (M' := mX6_shows) dL_law_596 iX6_shows lkL_80 (by decide) (rO_obj sh_54 rfl) (Nat.le_of_ble_eq_true rfl) (Nat.le_of_ble_eq_true rfl) ?_
        refine E.mono h2 (fun r S2 hr2 => ?_)
        obtain ⟨rfl, hI2⟩ := hr2
        refine e_icmp_eq (pc := 599) (tgt := 1319) dL_law_599 (by decide) (fun h599 => ?_) (fun h599 => absurd rfl h599)
        refine e_iinc' (pc := 1319) (nI (i + 6)) dL_law_1319 rfl (by decide) rfl (nI_add _ _) ?_
        refine e_goto (pc := 1322) (tgt := 18) dL_law_1322 (by decide) ?_
        first
          | exact ih (i + 6) S2 (by omega) (by omega) hI2
          | exact ih (i + 6) S (by omega) (by omega) hI
      · refine e_table (pc := 33) dL_law_33 ⟨604, Or.inr ⟨by decide, by decide, 571, by decide, by decide⟩, ?_⟩
        refine e_aload_n (pc := 604) (i := 1) dL_law_604 rfl rfl ?_
        refine e_callV0 (pc := 605) (M' := mX5_again) dL_law_605 iX5_again lkL_81 (by decide) (rO_obj sh_0 rfl) (Nat.le_of_ble_eq_true rfl) (Nat.le_of_ble_eq_true rfl) ?_
        refine E.mono (b_again hI) (fun r S1 hr => ?_)
        obtain ⟨v, rfl, h2⟩ := hr
        refine e_aload_n (pc := 608) (i := 2) dL_law_608 rfl rfl ?_
        refine e_callV0 (pc := 609) (M' := mX6_again) dL_law_609 iX6_again lkL_84 (by decide) (rO_obj sh_54 rfl) (Nat.le_of_ble_eq_true rfl) (Nat.le_of_ble_eq_true rfl) ?_
        refine E.mono h2 (fun r S2 hr2 => ?_)
        obtain ⟨rfl, hI2⟩ := hr2
        refine e_icmp_eq (pc := 612) (tgt := 1319) dL_law_612 (by decide) (fun h612 => ?_) (fun h612 => absurd rfl h612)
        refine e_iinc' (pc := 1319) (nI (i + 6)) dL_law_1319 rfl (by decide) rfl (nI_add _ _) ?_
        refine e_goto (pc := 1322) (tgt := 18) dL_law_1322 (by decide) ?_
        first
          | exact ih (i + 6) S2 (by omega) (by omega) hI2
          | exact ih (i + 6) S (by omega) (by omega) hI
      · refine e_table (pc := 33) dL_law_33 ⟨617, Or.inr ⟨by decide, by decide, 584, by decide, by decide⟩, ?_⟩
        refine e_aload_n (pc := 617) (i := 1) dL_law_617 rfl rfl ?_
        refine e_aload_n (pc := 618) (i := 0) dL_law_618 rfl rfl ?_
        refine e_iload_n (pc := 619) (i := 3) dL_law_619 rfl rfl ?_
        refine e_iconst' (pc := 620) (nI 1) dL_law_620 (by decide) ?_
        refine e_iadd (pc := 621) dL_law_621 ?_
        refine E.it (nI (i + 1)) (nI_add _ _) ?_
        refine e_sld (pc := 622) dL_law_622 (vp_in_nI (by omega) (by omega)) ?_
        refine e_aload_n (pc := 623) (i := 0) dL_law_623 rfl rfl ?_
        refine e_iload_n (pc := 624) (i := 3) dL_law_624 rfl rfl ?_
        refine e_iconst' (pc := 625) (nI 2) dL_law_625 (by decide) ?_
        refine e_iadd (pc := 626) dL_law_626 ?_
        refine E.it (nI (i + 2)) (nI_add _ _) ?_
        refine e_sld (pc := 627) dL_law_627 (vp_in_nI (by omega) (by omega)) ?_
        refine e_callV2 (pc := 628) (M' := mX5_mend) dL_law_628 iX5_mend lkL_85 (by decide) (rO_obj sh_0 rfl) (Nat.le_of_ble_eq_true rfl) (Nat.le_of_ble_eq_true rfl) ?_
        refine E.mono (b_mend hI _ _) (fun r S1 hr => ?_)
        obtain ⟨v, rfl, h2⟩ := hr
        refine e_aload_n (pc := 631) (i := 2) dL_law_631 rfl rfl ?_
        refine e_aload_n (pc := 632) (i := 0) dL_law_632 rfl rfl ?_
        refine e_iload_n (pc := 633) (i := 3) dL_law_633 rfl rfl ?_
        refine e_iconst' (pc := 634) (nI 1) dL_law_634 (by decide) ?_
        refine e_iadd (pc := 635) dL_law_635 ?_
        refine E.it (nI (i + 1)) (nI_add _ _) ?_
        refine e_sld (pc := 636) dL_law_636 (vp_in_nI (by omega) (by omega)) ?_
        refine e_aload_n (pc := 637) (i := 0) dL_law_637 rfl rfl ?_
        refine e_iload_n (pc := 638) (i := 3) dL_law_638 rfl rfl ?_
        refine e_iconst' (pc := 639) (nI 2) dL_law_639 (by decide) ?_
        refine e_iadd (pc := 640) dL_law_640 ?_
        refine E.it (nI (i + 2)) (nI_add _ _) ?_
        refine e_sld (pc := 641) dL_law_641 (vp_in_nI (by omega) (by omega)) ?_
        refine e_callV2 (pc := 642) (M' := mX6_mend) dL_law_642 iX6_mend lkL_88 (by decide) (rO_obj sh_54 rfl) (Nat.le_of_ble_eq_true rfl) (Nat.le_of_ble_eq_true rfl) ?_
        refine E.mono h2 (fun r S2 hr2 => ?_)
        obtain ⟨rfl, hI2⟩ := hr2
        refine e_icmp_eq (pc := 645) (tgt := 1319) dL_law_645 (by decide) (fun h645 => ?_) (fun h645 => absurd rfl h645)
        refine e_iinc' (pc := 1319) (nI (i + 6)) dL_law_1319 rfl (by decide) rfl (nI_add _ _) ?_
        refine e_goto (pc := 1322) (tgt := 18) dL_law_1322 (by decide) ?_
        first
          | exact ih (i + 6) S2 (by omega) (by omega) hI2
          | exact ih (i + 6) S (by omega) (by omega) hI
      · refine e_table (pc := 33) dL_law_33 ⟨650, Or.inr ⟨by decide, by decide, 617, by decide, by decide⟩, ?_⟩
        refine e_aload_n (pc := 650) (i := 1) dL_law_650 rfl rfl ?_
        refine e_aload_n (pc := 651) (i := 0) dL_law_651 rfl rfl ?_
        refine e_iload_n (pc := 652) (i := 3) dL_law_652 rfl rfl ?_
        refine e_iconst' (pc := 653) (nI 1) dL_law_653 (by decide) ?_
        refine e_iadd (pc := 654) dL_law_654 ?_
        refine E.it (nI (i + 1)) (nI_add _ _) ?_
        refine e_sld (pc := 655) dL_law_655 (vp_in_nI (by omega) (by omega)) ?_
        refine e_aload_n (pc := 656) (i := 0) dL_law_656 rfl rfl ?_
        refine e_iload_n (pc := 657) (i := 3) dL_law_657 rfl rfl ?_
        refine e_iconst' (pc := 658) (nI 2) dL_law_658 (by decide) ?_
        refine e_iadd (pc := 659) dL_law_659 ?_
        refine E.it (nI (i + 2)) (nI_add _ _) ?_
        refine e_sld (pc := 660) dL_law_660 (vp_in_nI (by omega) (by omega)) ?_
        refine e_callV2 (pc := 661) (M' := mX5_swap) dL_law_661 iX5_swap lkL_89 (by decide) (rO_obj sh_0 rfl) (Nat.le_of_ble_eq_true rfl) (Nat.le_of_ble_eq_true rfl) ?_
        refine E.mono (b_swap hI _ _) (fun r S1 hr => ?_)
        obtain ⟨v, rfl, h2⟩ := hr
        refine e_aload_n (pc := 664) (i := 2) dL_law_664 rfl rfl ?_
        refine e_aload_n (pc := 665) (i := 0) dL_law_665 rfl rfl ?_
        refine e_iload_n (pc := 666) (i := 3) dL_law_666 rfl rfl ?_
        refine e_iconst' (pc := 667) (nI 1) dL_law_667 (by decide) ?_
        refine e_iadd (pc := 668) dL_law_668 ?_
        refine E.it (nI (i + 1)) (nI_add _ _) ?_
        refine e_sld (pc := 669) dL_law_669 (vp_in_nI (by omega) (by omega)) ?_
        refine e_aload_n (pc := 670) (i := 0) dL_law_670 rfl rfl ?_
        refine e_iload_n (pc := 671) (i := 3) dL_law_671 rfl rfl ?_
        refine e_iconst' (pc := 672) (nI 2) dL_law_672 (by decide) ?_
        refine e_iadd (pc := 673) dL_law_673 ?_
        refine E.it (nI (i + 2)) (nI_add _ _) ?_
        refine e_sld (pc := 674) dL_law_674 (vp_in_nI (by omega) (by omega)) ?_
        refine e_callV2 (pc := 675) (M' := mX6_swap) dL_law_675 iX6_swap lkL_92 (by decide) (rO_obj sh_54 rfl) (Nat.le_of_ble_eq_true rfl) (Nat.le_of_ble_eq_true rfl) ?_
        refine E.mono h2 (fun r S2 hr2 => ?_)
        obtain ⟨rfl, hI2⟩ := hr2
        refine e_icmp_eq (pc := 678) (tgt := 1319) dL_law_678 (by decide) (fun h678 => ?_) (fun h678 => absurd rfl h678)
        refine e_iinc' (pc := 1319) (nI (i + 6)) dL_law_1319 rfl (by decide) rfl (nI_add _ _) ?_
        refine e_goto (pc := 1322) (tgt := 18) dL_law_1322 (by decide) ?_
        first
          | exact ih (i + 6) S2 (by omega) (by omega) hI2
          | exact ih (i + 6) S (by omega) (by omega) hI
      · refine e_table (pc := 33) dL_law_33 ⟨683, Or.inr ⟨by decide, by decide, 650, by decide, by decide⟩, ?_⟩
        refine e_aload_n (pc := 683) (i := 1) dL_law_683 rfl rfl ?_
        refine e_aload_n (pc := 684) (i := 0) dL_law_684 rfl rfl ?_
        refine e_iload_n (pc := 685) (i := 3) dL_law_685 rfl rfl ?_
        refine e_iconst' (pc := 686) (nI 1) dL_law_686 (by decide) ?_
        refine e_iadd (pc := 687) dL_law_687 ?_
        refine E.it (nI (i + 1)) (nI_add _ _) ?_
        refine e_sld (pc := 688) dL_law_688 (vp_in_nI (by omega) (by omega)) ?_
        refine e_aload_n (pc := 689) (i := 0) dL_law_689 rfl rfl ?_
        refine e_iload_n (pc := 690) (i := 3) dL_law_690 rfl rfl ?_
        refine e_iconst' (pc := 691) (nI 2) dL_law_691 (by decide) ?_
        refine e_iadd (pc := 692) dL_law_692 ?_
        refine E.it (nI (i + 2)) (nI_add _ _) ?_
        refine e_sld (pc := 693) dL_law_693 (vp_in_nI (by omega) (by omega)) ?_
        refine e_aload_n (pc := 694) (i := 0) dL_law_694 rfl rfl ?_
        refine e_iload_n (pc := 695) (i := 3) dL_law_695 rfl rfl ?_
        refine e_iconst' (pc := 696) (nI 3) dL_law_696 (by decide) ?_
        refine e_iadd (pc := 697) dL_law_697 ?_
        refine E.it (nI (i + 3)) (nI_add _ _) ?_
        refine e_sld (pc := 698) dL_law_698 (vp_in_nI (by omega) (by omega)) ?_
        refine e_callV3 (pc := 699) (M' := mX5_kind) dL_law_699 iX5_kind lkL_93 (by decide) (rO_obj sh_0 rfl) (Nat.le_of_ble_eq_true rfl) (Nat.le_of_ble_eq_true rfl) ?_
        refine E.mono (b_kind hI _ _ _) (fun r S1 hr => ?_)
        obtain ⟨v, rfl, h2⟩ := hr
        refine e_aload_n (pc := 702) (i := 2) dL_law_702 rfl rfl ?_
        refine e_aload_n (pc := 703) (i := 0) dL_law_703 rfl rfl ?_
        refine e_iload_n (pc := 704) (i := 3) dL_law_704 rfl rfl ?_
        refine e_iconst' (pc := 705) (nI 1) dL_law_705 (by decide) ?_
        refine e_iadd (pc := 706) dL_law_706 ?_
        refine E.it (nI (i + 1)) (nI_add _ _) ?_
        refine e_sld (pc := 707) dL_law_707 (vp_in_nI (by omega) (by omega)) ?_
        refine e_aload_n (pc := 708) (i := 0) dL_law_708 rfl rfl ?_
        refine e_iload_n (pc := 709) (i := 3) dL_law_709 rfl rfl ?_
        refine e_iconst' (pc := 710) (nI 2) dL_law_710 (by decide) ?_
        refine e_iadd (pc := 711) dL_law_711 ?_
        refine E.it (nI (i + 2)) (nI_add _ _) ?_
        refine e_sld (pc := 712) dL_law_712 (vp_in_nI (by omega) (by omega)) ?_
        refine e_aload_n (pc := 713) (i := 0) dL_law_713 rfl rfl ?_
        refine e_iload_n (pc := 714) (i := 3) dL_law_714 rfl rfl ?_
        refine e_iconst' (pc := 715) (nI 3) dL_law_715 (by decide) ?_
        refine e_iadd (pc := 716) dL_law_716 ?_
        refine E.it (nI (i + 3)) (nI_add _ _) ?_
        refine e_sld (pc := 717) dL_law_717 (vp_in_nI (by omega) (by omega)) ?_
        refine e_callV3 (pc := 718) (M' := mX6_kind) dL_law_718 iX6_kind lkL_96 (by decide) (rO_obj sh_54 rfl) (Nat.le_of_ble_eq_true rfl) (Nat.le_of_ble_eq_true rfl) ?_
        refine E.mono h2 (fun r S2 hr2 => ?_)
        obtain ⟨rfl, hI2⟩ := hr2
        refine e_icmp_eq (pc := 721) (tgt := 1319) dL_law_721 (by decide) (fun h721 => ?_) (fun h721 => absurd rfl h721)
        refine e_iinc' (pc := 1319) (nI (i + 6)) dL_law_1319 rfl (by decide) rfl (nI_add _ _) ?_
        refine e_goto (pc := 1322) (tgt := 18) dL_law_1322 (by decide) ?_
        first
          | exact ih (i + 6) S2 (by omega) (by omega) hI2
          | exact ih (i + 6) S (by omega) (by omega) hI
      · refine e_table (pc := 33) dL_law_33 ⟨726, Or.inr ⟨by decide, by decide, 693, by decide, by decide⟩, ?_⟩
        refine e_aload_n (pc := 726) (i := 1) dL_law_726 rfl rfl ?_
        refine e_aload_n (pc := 727) (i := 0) dL_law_727 rfl rfl ?_
        refine e_iload_n (pc := 728) (i := 3) dL_law_728 rfl rfl ?_
        refine e_iconst' (pc := 729) (nI 1) dL_law_729 (by decide) ?_
        refine e_iadd (pc := 730) dL_law_730 ?_
        refine E.it (nI (i + 1)) (nI_add _ _) ?_
        refine e_sld (pc := 731) dL_law_731 (vp_in_nI (by omega) (by omega)) ?_
        refine e_aload_n (pc := 732) (i := 0) dL_law_732 rfl rfl ?_
        refine e_iload_n (pc := 733) (i := 3) dL_law_733 rfl rfl ?_
        refine e_iconst' (pc := 734) (nI 2) dL_law_734 (by decide) ?_
        refine e_iadd (pc := 735) dL_law_735 ?_
        refine E.it (nI (i + 2)) (nI_add _ _) ?_
        refine e_sld (pc := 736) dL_law_736 (vp_in_nI (by omega) (by omega)) ?_
        refine e_aload_n (pc := 737) (i := 0) dL_law_737 rfl rfl ?_
        refine e_iload_n (pc := 738) (i := 3) dL_law_738 rfl rfl ?_
        refine e_iconst' (pc := 739) (nI 3) dL_law_739 (by decide) ?_
        refine e_iadd (pc := 740) dL_law_740 ?_
        refine E.it (nI (i + 3)) (nI_add _ _) ?_
        refine e_sld (pc := 741) dL_law_741 (vp_in_nI (by omega) (by omega)) ?_
        refine e_callV3 (pc := 742) (M' := mX5_begin) dL_law_742 iX5_begin lkL_97 (by decide) (rO_obj sh_0 rfl) (Nat.le_of_ble_eq_true rfl) (Nat.le_of_ble_eq_true rfl) ?_
        refine E.mono (b_begin hI _ _ _) (fun r S1 hr => ?_)
        obtain ⟨v, rfl, h2⟩ := hr
        refine e_aload_n (pc := 745) (i := 2) dL_law_745 rfl rfl ?_
        refine e_aload_n (pc := 746) (i := 0) dL_law_746 rfl rfl ?_
        refine e_iload_n (pc := 747) (i := 3) dL_law_747 rfl rfl ?_
        refine e_iconst' (pc := 748) (nI 1) dL_law_748 (by decide) ?_
        refine e_iadd (pc := 749) dL_law_749 ?_
        refine E.it (nI (i + 1)) (nI_add _ _) ?_
        refine e_sld (pc := 750) dL_law_750 (vp_in_nI (by omega) (by omega)) ?_
        refine e_aload_n (pc := 751) (i := 0) dL_law_751 rfl rfl ?_
        refine e_iload_n (pc := 752) (i := 3) dL_law_752 rfl rfl ?_
        refine e_iconst' (pc := 753) (nI 2) dL_law_753 (by decide) ?_
        refine e_iadd (pc := 754) dL_law_754 ?_
        refine E.it (nI (i + 2)) (nI_add _ _) ?_
        refine e_sld (pc := 755) dL_law_755 (vp_in_nI (by omega) (by omega)) ?_
        refine e_aload_n (pc := 756) (i := 0) dL_law_756 rfl rfl ?_
        refine e_iload_n (pc := 757) (i := 3) dL_law_757 rfl rfl ?_
        refine e_iconst' (pc := 758) (nI 3) dL_law_758 (by decide) ?_
        refine e_iadd (pc := 759) dL_law_759 ?_
        refine E.it (nI (i + 3)) (nI_add _ _) ?_
        refine e_sld (pc := 760) dL_law_760 (vp_in_nI (by omega) (by omega)) ?_
        refine e_callV3 (pc := 761) (M' := mX6_begin) dL_law_761 iX6_begin lkL_100 (by decide) (rO_obj sh_54 rfl) (Nat.le_of_ble_eq_true rfl) (Nat.le_of_ble_eq_true rfl) ?_
        refine E.mono h2 (fun r S2 hr2 => ?_)
        obtain ⟨rfl, hI2⟩ := hr2
        refine e_icmp_eq (pc := 764) (tgt := 1319) dL_law_764 (by decide) (fun h764 => ?_) (fun h764 => absurd rfl h764)
        refine e_iinc' (pc := 1319) (nI (i + 6)) dL_law_1319 rfl (by decide) rfl (nI_add _ _) ?_
        refine e_goto (pc := 1322) (tgt := 18) dL_law_1322 (by decide) ?_
        first
          | exact ih (i + 6) S2 (by omega) (by omega) hI2
          | exact ih (i + 6) S (by omega) (by omega) hI
      · refine e_table (pc := 33) dL_law_33 ⟨769, Or.inr ⟨by decide, by decide, 736, by decide, by decide⟩, ?_⟩
        refine e_aload_n (pc := 769) (i := 1) dL_law_769 rfl rfl ?_
        refine e_aload_n (pc := 770) (i := 0) dL_law_770 rfl rfl ?_
        refine e_iload_n (pc := 771) (i := 3) dL_law_771 rfl rfl ?_
        refine e_iconst' (pc := 772) (nI 1) dL_law_772 (by decide) ?_
        refine e_iadd (pc := 773) dL_law_773 ?_
        refine E.it (nI (i + 1)) (nI_add _ _) ?_
        refine e_sld (pc := 774) dL_law_774 (vp_in_nI (by omega) (by omega)) ?_
        refine e_aload_n (pc := 775) (i := 0) dL_law_775 rfl rfl ?_
        refine e_iload_n (pc := 776) (i := 3) dL_law_776 rfl rfl ?_
        refine e_iconst' (pc := 777) (nI 2) dL_law_777 (by decide) ?_
        refine e_iadd (pc := 778) dL_law_778 ?_
        refine E.it (nI (i + 2)) (nI_add _ _) ?_
        refine e_sld (pc := 779) dL_law_779 (vp_in_nI (by omega) (by omega)) ?_
        refine e_aload_n (pc := 780) (i := 0) dL_law_780 rfl rfl ?_
        refine e_iload_n (pc := 781) (i := 3) dL_law_781 rfl rfl ?_
        refine e_iconst' (pc := 782) (nI 3) dL_law_782 (by decide) ?_
        refine e_iadd (pc := 783) dL_law_783 ?_
        refine E.it (nI (i + 3)) (nI_add _ _) ?_
        refine e_sld (pc := 784) dL_law_784 (vp_in_nI (by omega) (by omega)) ?_
        refine e_callV3 (pc := 785) (M' := mX5_file) dL_law_785 iX5_file lkL_101 (by decide) (rO_obj sh_0 rfl) (Nat.le_of_ble_eq_true rfl) (Nat.le_of_ble_eq_true rfl) ?_
        refine E.mono (b_file hI _ _ _) (fun r S1 hr => ?_)
        obtain ⟨v, rfl, h2⟩ := hr
        refine e_aload_n (pc := 788) (i := 2) dL_law_788 rfl rfl ?_
        refine e_aload_n (pc := 789) (i := 0) dL_law_789 rfl rfl ?_
        refine e_iload_n (pc := 790) (i := 3) dL_law_790 rfl rfl ?_
        refine e_iconst' (pc := 791) (nI 1) dL_law_791 (by decide) ?_
        refine e_iadd (pc := 792) dL_law_792 ?_
        refine E.it (nI (i + 1)) (nI_add _ _) ?_
        refine e_sld (pc := 793) dL_law_793 (vp_in_nI (by omega) (by omega)) ?_
        refine e_aload_n (pc := 794) (i := 0) dL_law_794 rfl rfl ?_
        refine e_iload_n (pc := 795) (i := 3) dL_law_795 rfl rfl ?_
        refine e_iconst' (pc := 796) (nI 2) dL_law_796 (by decide) ?_
        refine e_iadd (pc := 797) dL_law_797 ?_
        refine E.it (nI (i + 2)) (nI_add _ _) ?_
        refine e_sld (pc := 798) dL_law_798 (vp_in_nI (by omega) (by omega)) ?_
        refine e_aload_n (pc := 799) (i := 0) dL_law_799 rfl rfl ?_
        refine e_iload_n (pc := 800) (i := 3) dL_law_800 rfl rfl ?_
        refine e_iconst' (pc := 801) (nI 3) dL_law_801 (by decide) ?_
        refine e_iadd (pc := 802) dL_law_802 ?_
        refine E.it (nI (i + 3)) (nI_add _ _) ?_
        refine e_sld (pc := 803) dL_law_803 (vp_in_nI (by omega) (by omega)) ?_
        refine e_callV3 (pc := 804) (M' := mX6_file) dL_law_804 iX6_file lkL_104 (by decide) (rO_obj sh_54 rfl) (Nat.le_of_ble_eq_true rfl) (Nat.le_of_ble_eq_true rfl) ?_
        refine E.mono h2 (fun r S2 hr2 => ?_)
        obtain ⟨rfl, hI2⟩ := hr2
        refine e_icmp_eq (pc := 807) (tgt := 1319) dL_law_807 (by decide) (fun h807 => ?_) (fun h807 => absurd rfl h807)
        refine e_iinc' (pc := 1319) (nI (i + 6)) dL_law_1319 rfl (by decide) rfl (nI_add _ _) ?_
        refine e_goto (pc := 1322) (tgt := 18) dL_law_1322 (by decide) ?_
        first
          | exact ih (i + 6) S2 (by omega) (by omega) hI2
          | exact ih (i + 6) S (by omega) (by omega) hI
      · refine e_table (pc := 33) dL_law_33 ⟨812, Or.inr ⟨by decide, by decide, 779, by decide, by decide⟩, ?_⟩
        refine e_aload_n (pc := 812) (i := 1) dL_law_812 rfl rfl ?_
        refine e_aload_n (pc := 813) (i := 0) dL_law_813 rfl rfl ?_
        refine e_iload_n (pc := 814) (i := 3) dL_law_814 rfl rfl ?_
        refine e_iconst' (pc := 815) (nI 1) dL_law_815 (by decide) ?_
        refine e_iadd (pc := 816) dL_law_816 ?_
        refine E.it (nI (i + 1)) (nI_add _ _) ?_
        refine e_sld (pc := 817) dL_law_817 (vp_in_nI (by omega) (by omega)) ?_
        refine e_aload_n (pc := 818) (i := 0) dL_law_818 rfl rfl ?_
        refine e_iload_n (pc := 819) (i := 3) dL_law_819 rfl rfl ?_
        refine e_iconst' (pc := 820) (nI 2) dL_law_820 (by decide) ?_
        refine e_iadd (pc := 821) dL_law_821 ?_
        refine E.it (nI (i + 2)) (nI_add _ _) ?_
        refine e_sld (pc := 822) dL_law_822 (vp_in_nI (by omega) (by omega)) ?_
        refine e_aload_n (pc := 823) (i := 0) dL_law_823 rfl rfl ?_
        refine e_iload_n (pc := 824) (i := 3) dL_law_824 rfl rfl ?_
        refine e_iconst' (pc := 825) (nI 3) dL_law_825 (by decide) ?_
        refine e_iadd (pc := 826) dL_law_826 ?_
        refine E.it (nI (i + 3)) (nI_add _ _) ?_
        refine e_sld (pc := 827) dL_law_827 (vp_in_nI (by omega) (by omega)) ?_
        refine e_aload_n (pc := 828) (i := 0) dL_law_828 rfl rfl ?_
        refine e_iload_n (pc := 829) (i := 3) dL_law_829 rfl rfl ?_
        refine e_iconst' (pc := 830) (nI 4) dL_law_830 (by decide) ?_
        refine e_iadd (pc := 831) dL_law_831 ?_
        refine E.it (nI (i + 4)) (nI_add _ _) ?_
        refine e_sld (pc := 832) dL_law_832 (vp_in_nI (by omega) (by omega)) ?_
        refine e_aload_n (pc := 833) (i := 0) dL_law_833 rfl rfl ?_
        refine e_iload_n (pc := 834) (i := 3) dL_law_834 rfl rfl ?_
        refine e_iconst' (pc := 835) (nI 5) dL_law_835 (by decide) ?_
        refine e_iadd (pc := 836) dL_law_836 ?_
        refine E.it (nI (i + 5)) (nI_add _ _) ?_
        refine e_sld (pc := 837) dL_law_837 (vp_in_nI (by omega) (by omega)) ?_
        refine e_callV5 (pc := 838) (M' := mX5_luck) dL_law_838 iX5_luck lkL_105 (by decide) (rO_obj sh_0 rfl) (Nat.le_of_ble_eq_true rfl) (Nat.le_of_ble_eq_true rfl) ?_
        refine E.mono (b_luck hI _ _ _ _ _) (fun r S1 hr => ?_)
        obtain ⟨v, rfl, h2⟩ := hr
        refine e_aload_n (pc := 841) (i := 2) dL_law_841 rfl rfl ?_
        refine e_aload_n (pc := 842) (i := 0) dL_law_842 rfl rfl ?_
        refine e_iload_n (pc := 843) (i := 3) dL_law_843 rfl rfl ?_
        refine e_iconst' (pc := 844) (nI 1) dL_law_844 (by decide) ?_
        refine e_iadd (pc := 845) dL_law_845 ?_
        refine E.it (nI (i + 1)) (nI_add _ _) ?_
        refine e_sld (pc := 846) dL_law_846 (vp_in_nI (by omega) (by omega)) ?_
        refine e_aload_n (pc := 847) (i := 0) dL_law_847 rfl rfl ?_
        refine e_iload_n (pc := 848) (i := 3) dL_law_848 rfl rfl ?_
        refine e_iconst' (pc := 849) (nI 2) dL_law_849 (by decide) ?_
        refine e_iadd (pc := 850) dL_law_850 ?_
        refine E.it (nI (i + 2)) (nI_add _ _) ?_
        refine e_sld (pc := 851) dL_law_851 (vp_in_nI (by omega) (by omega)) ?_
        refine e_aload_n (pc := 852) (i := 0) dL_law_852 rfl rfl ?_
        refine e_iload_n (pc := 853) (i := 3) dL_law_853 rfl rfl ?_
        refine e_iconst' (pc := 854) (nI 3) dL_law_854 (by decide) ?_
        refine e_iadd (pc := 855) dL_law_855 ?_
        refine E.it (nI (i + 3)) (nI_add _ _) ?_
        refine e_sld (pc := 856) dL_law_856 (vp_in_nI (by omega) (by omega)) ?_
        refine e_aload_n (pc := 857) (i := 0) dL_law_857 rfl rfl ?_
        refine e_iload_n (pc := 858) (i := 3) dL_law_858 rfl rfl ?_
        refine e_iconst' (pc := 859) (nI 4) dL_law_859 (by decide) ?_
        refine e_iadd (pc := 860) dL_law_860 ?_
        refine E.it (nI (i + 4)) (nI_add _ _) ?_
        refine e_sld (pc := 861) dL_law_861 (vp_in_nI (by omega) (by omega)) ?_
        refine e_aload_n (pc := 862) (i := 0) dL_law_862 rfl rfl ?_
        refine e_iload_n (pc := 863) (i := 3) dL_law_863 rfl rfl ?_
        refine e_iconst' (pc := 864) (nI 5) dL_law_864 (by decide) ?_
        refine e_iadd (pc := 865) dL_law_865 ?_
        refine E.it (nI (i + 5)) (nI_add _ _) ?_
        refine e_sld (pc := 866) dL_law_866 (vp_in_nI (by omega) (by omega)) ?_
        refine e_callV5 (pc := 867) (M' := mX6_luck) dL_law_867 iX6_luck lkL_109 (by decide) (rO_obj sh_54 rfl) (Nat.le_of_ble_eq_true rfl) (Nat.le_of_ble_eq_true rfl) ?_
        refine E.mono h2 (fun r S2 hr2 => ?_)
        obtain ⟨rfl, hI2⟩ := hr2
        refine e_lcmp (pc := 870) dL_law_870 ?_
        refine e_if_eq (pc := 871) (tgt := 1319) dL_law_871 (by decide) (fun h871 => ?_) (fun h871 => absurd ((lg_cmp_eq _ _).mpr rfl) h871)
        refine e_iinc' (pc := 1319) (nI (i + 6)) dL_law_1319 rfl (by decide) rfl (nI_add _ _) ?_
        refine e_goto (pc := 1322) (tgt := 18) dL_law_1322 (by decide) ?_
        first
          | exact ih (i + 6) S2 (by omega) (by omega) hI2
          | exact ih (i + 6) S (by omega) (by omega) hI
      · refine e_table (pc := 33) dL_law_33 ⟨876, Or.inr ⟨by decide, by decide, 843, by decide, by decide⟩, ?_⟩
        refine e_aload_n (pc := 876) (i := 1) dL_law_876 rfl rfl ?_
        refine e_aload_n (pc := 877) (i := 0) dL_law_877 rfl rfl ?_
        refine e_iload_n (pc := 878) (i := 3) dL_law_878 rfl rfl ?_
        refine e_iconst' (pc := 879) (nI 1) dL_law_879 (by decide) ?_
        refine e_iadd (pc := 880) dL_law_880 ?_
        refine E.it (nI (i + 1)) (nI_add _ _) ?_
        refine e_sld (pc := 881) dL_law_881 (vp_in_nI (by omega) (by omega)) ?_
        refine e_aload_n (pc := 882) (i := 0) dL_law_882 rfl rfl ?_
        refine e_iload_n (pc := 883) (i := 3) dL_law_883 rfl rfl ?_
        refine e_iconst' (pc := 884) (nI 2) dL_law_884 (by decide) ?_
        refine e_iadd (pc := 885) dL_law_885 ?_
        refine E.it (nI (i + 2)) (nI_add _ _) ?_
        refine e_sld (pc := 886) dL_law_886 (vp_in_nI (by omega) (by omega)) ?_
        refine e_aload_n (pc := 887) (i := 0) dL_law_887 rfl rfl ?_
        refine e_iload_n (pc := 888) (i := 3) dL_law_888 rfl rfl ?_
        refine e_iconst' (pc := 889) (nI 3) dL_law_889 (by decide) ?_
        refine e_iadd (pc := 890) dL_law_890 ?_
        refine E.it (nI (i + 3)) (nI_add _ _) ?_
        refine e_sld (pc := 891) dL_law_891 (vp_in_nI (by omega) (by omega)) ?_
        refine e_callV3 (pc := 892) (M' := mX5_mean) dL_law_892 iX5_mean lkL_110 (by decide) (rO_obj sh_0 rfl) (Nat.le_of_ble_eq_true rfl) (Nat.le_of_ble_eq_true rfl) ?_
        refine E.mono (b_mean hI _ _ _) (fun r S1 hr => ?_)
        obtain ⟨v, rfl, h2⟩ := hr
        refine e_aload_n (pc := 895) (i := 2) dL_law_895 rfl rfl ?_
        refine e_aload_n (pc := 896) (i := 0) dL_law_896 rfl rfl ?_
        refine e_iload_n (pc := 897) (i := 3) dL_law_897 rfl rfl ?_
        refine e_iconst' (pc := 898) (nI 1) dL_law_898 (by decide) ?_
        refine e_iadd (pc := 899) dL_law_899 ?_
        refine E.it (nI (i + 1)) (nI_add _ _) ?_
        refine e_sld (pc := 900) dL_law_900 (vp_in_nI (by omega) (by omega)) ?_
        refine e_aload_n (pc := 901) (i := 0) dL_law_901 rfl rfl ?_
        refine e_iload_n (pc := 902) (i := 3) dL_law_902 rfl rfl ?_
        refine e_iconst' (pc := 903) (nI 2) dL_law_903 (by decide) ?_
        refine e_iadd (pc := 904) dL_law_904 ?_
        refine E.it (nI (i + 2)) (nI_add _ _) ?_
        refine e_sld (pc := 905) dL_law_905 (vp_in_nI (by omega) (by omega)) ?_
        refine e_aload_n (pc := 906) (i := 0) dL_law_906 rfl rfl ?_
        refine e_iload_n (pc := 907) (i := 3) dL_law_907 rfl rfl ?_
        refine e_iconst' (pc := 908) (nI 3) dL_law_908 (by decide) ?_
        refine e_iadd (pc := 909) dL_law_909 ?_
        refine E.it (nI (i + 3)) (nI_add _ _) ?_
        refine e_sld (pc := 910) dL_law_910 (vp_in_nI (by omega) (by omega)) ?_
        refine e_callV3 (pc := 911) (M' := mX6_mean) dL_law_911 iX6_mean lkL_114 (by decide) (rO_obj sh_54 rfl) (Nat.le_of_ble_eq_true rfl) (Nat.le_of_ble_eq_true rfl) ?_
        refine E.mono h2 (fun r S2 hr2 => ?_)
        obtain ⟨rfl, hI2⟩ := hr2
        refine e_lcmp (pc := 914) dL_law_914 ?_
        refine e_if_eq (pc := 915) (tgt := 1319) dL_law_915 (by decide) (fun h915 => ?_) (fun h915 => absurd ((lg_cmp_eq _ _).mpr rfl) h915)
        refine e_iinc' (pc := 1319) (nI (i + 6)) dL_law_1319 rfl (by decide) rfl (nI_add _ _) ?_
        refine e_goto (pc := 1322) (tgt := 18) dL_law_1322 (by decide) ?_
        first
          | exact ih (i + 6) S2 (by omega) (by omega) hI2
          | exact ih (i + 6) S (by omega) (by omega) hI
      · refine e_table (pc := 33) dL_law_33 ⟨920, Or.inr ⟨by decide, by decide, 887, by decide, by decide⟩, ?_⟩
        refine e_aload_n (pc := 920) (i := 1) dL_law_920 rfl rfl ?_
        refine e_aload_n (pc := 921) (i := 0) dL_law_921 rfl rfl ?_
        refine e_iload_n (pc := 922) (i := 3) dL_law_922 rfl rfl ?_
        refine e_iconst' (pc := 923) (nI 1) dL_law_923 (by decide) ?_
        refine e_iadd (pc := 924) dL_law_924 ?_
        refine E.it (nI (i + 1)) (nI_add _ _) ?_
        refine e_sld (pc := 925) dL_law_925 (vp_in_nI (by omega) (by omega)) ?_
        refine e_aload_n (pc := 926) (i := 0) dL_law_926 rfl rfl ?_
        refine e_iload_n (pc := 927) (i := 3) dL_law_927 rfl rfl ?_
        refine e_iconst' (pc := 928) (nI 2) dL_law_928 (by decide) ?_
        refine e_iadd (pc := 929) dL_law_929 ?_
        refine E.it (nI (i + 2)) (nI_add _ _) ?_
        refine e_sld (pc := 930) dL_law_930 (vp_in_nI (by omega) (by omega)) ?_
        refine e_callV2 (pc := 931) (M' := mX5_see) dL_law_931 iX5_see lkL_115 (by decide) (rO_obj sh_0 rfl) (Nat.le_of_ble_eq_true rfl) (Nat.le_of_ble_eq_true rfl) ?_
        refine E.mono (b_see hI _ _) (fun r S1 hr => ?_)
        obtain ⟨v, rfl, h2⟩ := hr
        refine e_aload_n (pc := 934) (i := 2) dL_law_934 rfl rfl ?_
        refine e_aload_n (pc := 935) (i := 0) dL_law_935 rfl rfl ?_
        refine e_iload_n (pc := 936) (i := 3) dL_law_936 rfl rfl ?_
        refine e_iconst' (pc := 937) (nI 1) dL_law_937 (by decide) ?_
        refine e_iadd (pc := 938) dL_law_938 ?_
        refine E.it (nI (i + 1)) (nI_add _ _) ?_
        refine e_sld (pc := 939) dL_law_939 (vp_in_nI (by omega) (by omega)) ?_
        refine e_aload_n (pc := 940) (i := 0) dL_law_940 rfl rfl ?_
        refine e_iload_n (pc := 941) (i := 3) dL_law_941 rfl rfl ?_
        refine e_iconst' (pc := 942) (nI 2) dL_law_942 (by decide) ?_
        refine e_iadd (pc := 943) dL_law_943 ?_
        refine E.it (nI (i + 2)) (nI_add _ _) ?_
        refine e_sld (pc := 944) dL_law_944 (vp_in_nI (by omega) (by omega)) ?_
        refine e_callV2 (pc := 945) (M' := mX6_see) dL_law_945 iX6_see lkL_118 (by decide) (rO_obj sh_54 rfl) (Nat.le_of_ble_eq_true rfl) (Nat.le_of_ble_eq_true rfl) ?_
        refine E.mono h2 (fun r S2 hr2 => ?_)
        obtain ⟨rfl, hI2⟩ := hr2
        refine e_icmp_eq (pc := 948) (tgt := 1319) dL_law_948 (by decide) (fun h948 => ?_) (fun h948 => absurd rfl h948)
        refine e_iinc' (pc := 1319) (nI (i + 6)) dL_law_1319 rfl (by decide) rfl (nI_add _ _) ?_
        refine e_goto (pc := 1322) (tgt := 18) dL_law_1322 (by decide) ?_
        first
          | exact ih (i + 6) S2 (by omega) (by omega) hI2
          | exact ih (i + 6) S (by omega) (by omega) hI
      · refine e_table (pc := 33) dL_law_33 ⟨953, Or.inr ⟨by decide, by decide, 920, by decide, by decide⟩, ?_⟩
        refine e_aload_n (pc := 953) (i := 1) dL_law_953 rfl rfl ?_
        refine e_aload_n (pc := 954) (i := 0) dL_law_954 rfl rfl ?_
        refine e_iload_n (pc := 955) (i := 3) dL_law_955 rfl rfl ?_
        refine e_iconst' (pc := 956) (nI 1) dL_law_956 (by decide) ?_
        refine e_iadd (pc := 957) dL_law_957 ?_
        refine E.it (nI (i + 1)) (nI_add _ _) ?_
        refine e_sld (pc := 958) dL_law_958 (vp_in_nI (by omega) (by omega)) ?_
        refine e_callV1 (pc := 959) (M' := mX5_forget) dL_law_959 iX5_forget lkL_119 (by decide) (rO_obj sh_0 rfl) (Nat.le_of_ble_eq_true rfl) (Nat.le_of_ble_eq_true rfl) ?_
        refine E.mono (b_forget hI _) (fun r S1 hr => ?_)
        obtain ⟨v, rfl, h2⟩ := hr
        refine e_aload_n (pc := 962) (i := 2) dL_law_962 rfl rfl ?_
        refine e_aload_n (pc := 963) (i := 0) dL_law_963 rfl rfl ?_
        refine e_iload_n (pc := 964) (i := 3) dL_law_964 rfl rfl ?_
        refine e_iconst' (pc := 965) (nI 1) dL_law_965 (by decide) ?_
        refine e_iadd (pc := 966) dL_law_966 ?_
        refine E.it (nI (i + 1)) (nI_add _ _) ?_
        refine e_sld (pc := 967) dL_law_967 (vp_in_nI (by omega) (by omega)) ?_
        refine e_callV1 (pc := 968) (M' := mX6_forget) dL_law_968 iX6_forget lkL_122 (by decide) (rO_obj sh_54 rfl) (Nat.le_of_ble_eq_true rfl) (Nat.le_of_ble_eq_true rfl) ?_
        refine E.mono h2 (fun r S2 hr2 => ?_)
        obtain ⟨rfl, hI2⟩ := hr2
        refine e_icmp_eq (pc := 971) (tgt := 1319) dL_law_971 (by decide) (fun h971 => ?_) (fun h971 => absurd rfl h971)
        refine e_iinc' (pc := 1319) (nI (i + 6)) dL_law_1319 rfl (by decide) rfl (nI_add _ _) ?_
        refine e_goto (pc := 1322) (tgt := 18) dL_law_1322 (by decide) ?_
        first
          | exact ih (i + 6) S2 (by omega) (by omega) hI2
          | exact ih (i + 6) S (by omega) (by omega) hI
      · refine e_table (pc := 33) dL_law_33 ⟨976, Or.inr ⟨by decide, by decide, 943, by decide, by decide⟩, ?_⟩
        refine e_aload_n (pc := 976) (i := 1) dL_law_976 rfl rfl ?_
        refine e_aload_n (pc := 977) (i := 0) dL_law_977 rfl rfl ?_
        refine e_iload_n (pc := 978) (i := 3) dL_law_978 rfl rfl ?_
        refine e_iconst' (pc := 979) (nI 1) dL_law_979 (by decide) ?_
        refine e_iadd (pc := 980) dL_law_980 ?_
        refine E.it (nI (i + 1)) (nI_add _ _) ?_
        refine e_sld (pc := 981) dL_law_981 (vp_in_nI (by omega) (by omega)) ?_
        refine e_callV1 (pc := 982) (M' := mX5_kinds) dL_law_982 iX5_kinds lkL_123 (by decide) (rO_obj sh_0 rfl) (Nat.le_of_ble_eq_true rfl) (Nat.le_of_ble_eq_true rfl) ?_
        refine E.mono (b_kinds hI _) (fun r S1 hr => ?_)
        obtain ⟨v, rfl, h2⟩ := hr
        refine e_aload_n (pc := 985) (i := 2) dL_law_985 rfl rfl ?_
        refine e_aload_n (pc := 986) (i := 0) dL_law_986 rfl rfl ?_
        refine e_iload_n (pc := 987) (i := 3) dL_law_987 rfl rfl ?_
        refine e_iconst' (pc := 988) (nI 1) dL_law_988 (by decide) ?_
        refine e_iadd (pc := 989) dL_law_989 ?_
        refine E.it (nI (i + 1)) (nI_add _ _) ?_
        refine e_sld (pc := 990) dL_law_990 (vp_in_nI (by omega) (by omega)) ?_
        refine e_callV1 (pc := 991) (M' := mX6_kinds) dL_law_991 iX6_kinds lkL_126 (by decide) (rO_obj sh_54 rfl) (Nat.le_of_ble_eq_true rfl) (Nat.le_of_ble_eq_true rfl) ?_
        refine E.mono h2 (fun r S2 hr2 => ?_)
        obtain ⟨rfl, hI2⟩ := hr2
        refine e_icmp_eq (pc := 994) (tgt := 1319) dL_law_994 (by decide) (fun h994 => ?_) (fun h994 => absurd rfl h994)
        refine e_iinc' (pc := 1319) (nI (i + 6)) dL_law_1319 rfl (by decide) rfl (nI_add _ _) ?_
        refine e_goto (pc := 1322) (tgt := 18) dL_law_1322 (by decide) ?_
        first
          | exact ih (i + 6) S2 (by omega) (by omega) hI2
          | exact ih (i + 6) S (by omega) (by omega) hI
      · refine e_table (pc := 33) dL_law_33 ⟨999, Or.inr ⟨by decide, by decide, 966, by decide, by decide⟩, ?_⟩
        refine e_aload_n (pc := 999) (i := 1) dL_law_999 rfl rfl ?_
        refine e_aload_n (pc := 1000) (i := 0) dL_law_1000 rfl rfl ?_
        refine e_iload_n (pc := 1001) (i := 3) dL_law_1001 rfl rfl ?_
        refine e_iconst' (pc := 1002) (nI 1) dL_law_1002 (by decide) ?_
        refine e_iadd (pc := 1003) dL_law_1003 ?_
        refine E.it (nI (i + 1)) (nI_add _ _) ?_
        refine e_sld (pc := 1004) dL_law_1004 (vp_in_nI (by omega) (by omega)) ?_
        refine e_callV1 (pc := 1005) (M' := mX5_broken) dL_law_1005 iX5_broken lkL_127 (by decide) (rO_obj sh_0 rfl) (Nat.le_of_ble_eq_true rfl) (Nat.le_of_ble_eq_true rfl) ?_
        refine E.mono (b_broken hI _) (fun r S1 hr => ?_)
        obtain ⟨v, rfl, h2⟩ := hr
        refine e_aload_n (pc := 1008) (i := 2) dL_law_1008 rfl rfl ?_
        refine e_aload_n (pc := 1009) (i := 0) dL_law_1009 rfl rfl ?_
        refine e_iload_n (pc := 1010) (i := 3) dL_law_1010 rfl rfl ?_
        refine e_iconst' (pc := 1011) (nI 1) dL_law_1011 (by decide) ?_
        refine e_iadd (pc := 1012) dL_law_1012 ?_
        refine E.it (nI (i + 1)) (nI_add _ _) ?_
        refine e_sld (pc := 1013) dL_law_1013 (vp_in_nI (by omega) (by omega)) ?_
        refine e_callV1 (pc := 1014) (M' := mX6_broken) dL_law_1014 iX6_broken lkL_130 (by decide) (rO_obj sh_54 rfl) (Nat.le_of_ble_eq_true rfl) (Nat.le_of_ble_eq_true rfl) ?_
        refine E.mono h2 (fun r S2 hr2 => ?_)
        obtain ⟨rfl, hI2⟩ := hr2
        refine e_icmp_eq (pc := 1017) (tgt := 1319) dL_law_1017 (by decide) (fun h1017 => ?_) (fun h1017 => absurd rfl h1017)
        refine e_iinc' (pc := 1319) (nI (i + 6)) dL_law_1319 rfl (by decide) rfl (nI_add _ _) ?_
        refine e_goto (pc := 1322) (tgt := 18) dL_law_1322 (by decide) ?_
        first
          | exact ih (i + 6) S2 (by omega) (by omega) hI2
          | exact ih (i + 6) S (by omega) (by omega) hI
      · refine e_table (pc := 33) dL_law_33 ⟨1022, Or.inr ⟨by decide, by decide, 989, by decide, by decide⟩, ?_⟩
        refine e_aload_n (pc := 1022) (i := 1) dL_law_1022 rfl rfl ?_
        refine e_aload_n (pc := 1023) (i := 0) dL_law_1023 rfl rfl ?_
        refine e_iload_n (pc := 1024) (i := 3) dL_law_1024 rfl rfl ?_
        refine e_iconst' (pc := 1025) (nI 1) dL_law_1025 (by decide) ?_
        refine e_iadd (pc := 1026) dL_law_1026 ?_
        refine E.it (nI (i + 1)) (nI_add _ _) ?_
        refine e_sld (pc := 1027) dL_law_1027 (vp_in_nI (by omega) (by omega)) ?_
        refine e_aload_n (pc := 1028) (i := 0) dL_law_1028 rfl rfl ?_
        refine e_iload_n (pc := 1029) (i := 3) dL_law_1029 rfl rfl ?_
        refine e_iconst' (pc := 1030) (nI 2) dL_law_1030 (by decide) ?_
        refine e_iadd (pc := 1031) dL_law_1031 ?_
        refine E.it (nI (i + 2)) (nI_add _ _) ?_
        refine e_sld (pc := 1032) dL_law_1032 (vp_in_nI (by omega) (by omega)) ?_
        refine e_callV2 (pc := 1033) (M' := mX5_ask) dL_law_1033 iX5_ask lkL_131 (by decide) (rO_obj sh_0 rfl) (Nat.le_of_ble_eq_true rfl) (Nat.le_of_ble_eq_true rfl) ?_
        refine E.mono (b_ask hI _ _) (fun r S1 hr => ?_)
        obtain ⟨v, rfl, h2⟩ := hr
        refine e_aload_n (pc := 1036) (i := 2) dL_law_1036 rfl rfl ?_
        refine e_aload_n (pc := 1037) (i := 0) dL_law_1037 rfl rfl ?_
        refine e_iload_n (pc := 1038) (i := 3) dL_law_1038 rfl rfl ?_
        refine e_iconst' (pc := 1039) (nI 1) dL_law_1039 (by decide) ?_
        refine e_iadd (pc := 1040) dL_law_1040 ?_
        refine E.it (nI (i + 1)) (nI_add _ _) ?_
        refine e_sld (pc := 1041) dL_law_1041 (vp_in_nI (by omega) (by omega)) ?_
        refine e_aload_n (pc := 1042) (i := 0) dL_law_1042 rfl rfl ?_
        refine e_iload_n (pc := 1043) (i := 3) dL_law_1043 rfl rfl ?_
        refine e_iconst' (pc := 1044) (nI 2) dL_law_1044 (by decide) ?_
        refine e_iadd (pc := 1045) dL_law_1045 ?_
        refine E.it (nI (i + 2)) (nI_add _ _) ?_
        refine e_sld (pc := 1046) dL_law_1046 (vp_in_nI (by omega) (by omega)) ?_
        refine e_callV2 (pc := 1047) (M' := mX6_ask) dL_law_1047 iX6_ask lkL_134 (by decide) (rO_obj sh_54 rfl) (Nat.le_of_ble_eq_true rfl) (Nat.le_of_ble_eq_true rfl) ?_
        refine E.mono h2 (fun r S2 hr2 => ?_)
        obtain ⟨rfl, hI2⟩ := hr2
        refine e_icmp_eq (pc := 1050) (tgt := 1319) dL_law_1050 (by decide) (fun h1050 => ?_) (fun h1050 => absurd rfl h1050)
        refine e_iinc' (pc := 1319) (nI (i + 6)) dL_law_1319 rfl (by decide) rfl (nI_add _ _) ?_
        refine e_goto (pc := 1322) (tgt := 18) dL_law_1322 (by decide) ?_
        first
          | exact ih (i + 6) S2 (by omega) (by omega) hI2
          | exact ih (i + 6) S (by omega) (by omega) hI
      · refine e_table (pc := 33) dL_law_33 ⟨1055, Or.inr ⟨by decide, by decide, 1022, by decide, by decide⟩, ?_⟩
        refine e_aload_n (pc := 1055) (i := 1) dL_law_1055 rfl rfl ?_
        refine e_aload_n (pc := 1056) (i := 0) dL_law_1056 rfl rfl ?_
        refine e_iload_n (pc := 1057) (i := 3) dL_law_1057 rfl rfl ?_
        refine e_iconst' (pc := 1058) (nI 1) dL_law_1058 (by decide) ?_
        refine e_iadd (pc := 1059) dL_law_1059 ?_
        refine E.it (nI (i + 1)) (nI_add _ _) ?_
        refine e_sld (pc := 1060) dL_law_1060 (vp_in_nI (by omega) (by omega)) ?_
        refine e_aload_n (pc := 1061) (i := 0) dL_law_1061 rfl rfl ?_
        refine e_iload_n (pc := 1062) (i := 3) dL_law_1062 rfl rfl ?_
        refine e_iconst' (pc := 1063) (nI 2) dL_law_1063 (by decide) ?_
        refine e_iadd (pc := 1064) dL_law_1064 ?_
        refine E.it (nI (i + 2)) (nI_add _ _) ?_
        refine e_sld (pc := 1065) dL_law_1065 (vp_in_nI (by omega) (by omega)) ?_
        refine e_aload_n (pc := 1066) (i := 0) dL_law_1066 rfl rfl ?_
        refine e_iload_n (pc := 1067) (i := 3) dL_law_1067 rfl rfl ?_
        refine e_iconst' (pc := 1068) (nI 3) dL_law_1068 (by decide) ?_
        refine e_iadd (pc := 1069) dL_law_1069 ?_
        refine E.it (nI (i + 3)) (nI_add _ _) ?_
        refine e_sld (pc := 1070) dL_law_1070 (vp_in_nI (by omega) (by omega)) ?_
        refine e_callV3 (pc := 1071) (M' := mX5_drift) dL_law_1071 iX5_drift lkL_135 (by decide) (rO_obj sh_0 rfl) (Nat.le_of_ble_eq_true rfl) (Nat.le_of_ble_eq_true rfl) ?_
        refine E.mono (b_drift hI _ _ _) (fun r S1 hr => ?_)
        obtain ⟨v, rfl, h2⟩ := hr
        refine e_aload_n (pc := 1074) (i := 2) dL_law_1074 rfl rfl ?_
        refine e_aload_n (pc := 1075) (i := 0) dL_law_1075 rfl rfl ?_
        refine e_iload_n (pc := 1076) (i := 3) dL_law_1076 rfl rfl ?_
        refine e_iconst' (pc := 1077) (nI 1) dL_law_1077 (by decide) ?_
        refine e_iadd (pc := 1078) dL_law_1078 ?_
        refine E.it (nI (i + 1)) (nI_add _ _) ?_
        refine e_sld (pc := 1079) dL_law_1079 (vp_in_nI (by omega) (by omega)) ?_
        refine e_aload_n (pc := 1080) (i := 0) dL_law_1080 rfl rfl ?_
        refine e_iload_n (pc := 1081) (i := 3) dL_law_1081 rfl rfl ?_
        refine e_iconst' (pc := 1082) (nI 2) dL_law_1082 (by decide) ?_
        refine e_iadd (pc := 1083) dL_law_1083 ?_
        refine E.it (nI (i + 2)) (nI_add _ _) ?_
        refine e_sld (pc := 1084) dL_law_1084 (vp_in_nI (by omega) (by omega)) ?_
        refine e_aload_n (pc := 1085) (i := 0) dL_law_1085 rfl rfl ?_
        refine e_iload_n (pc := 1086) (i := 3) dL_law_1086 rfl rfl ?_
        refine e_iconst' (pc := 1087) (nI 3) dL_law_1087 (by decide) ?_
        refine e_iadd (pc := 1088) dL_law_1088 ?_
        refine E.it (nI (i + 3)) (nI_add _ _) ?_
        refine e_sld (pc := 1089) dL_law_1089 (vp_in_nI (by omega) (by omega)) ?_
        refine e_callV3 (pc := 1090) (M' := mX6_drift) dL_law_1090 iX6_drift lkL_138 (by decide) (rO_obj sh_54 rfl) (Nat.le_of_ble_eq_true rfl) (Nat.le_of_ble_eq_true rfl) ?_
        refine E.mono h2 (fun r S2 hr2 => ?_)
        obtain ⟨rfl, hI2⟩ := hr2
        refine e_icmp_eq (pc := 1093) (tgt := 1319) dL_law_1093 (by decide) (fun h1093 => ?_) (fun h1093 => absurd rfl h1093)
        refine e_iinc' (pc := 1319) (nI (i + 6)) dL_law_1319 rfl (by decide) rfl (nI_add _ _) ?_
        refine e_goto (pc := 1322) (tgt := 18) dL_law_1322 (by decide) ?_
        first
          | exact ih (i + 6) S2 (by omega) (by omega) hI2
          | exact ih (i + 6) S (by omega) (by omega) hI
      · refine e_table (pc := 33) dL_law_33 ⟨1098, Or.inr ⟨by decide, by decide, 1065, by decide, by decide⟩, ?_⟩
        refine e_aload_n (pc := 1098) (i := 1) dL_law_1098 rfl rfl ?_
        refine e_aload_n (pc := 1099) (i := 0) dL_law_1099 rfl rfl ?_
        refine e_iload_n (pc := 1100) (i := 3) dL_law_1100 rfl rfl ?_
        refine e_iconst' (pc := 1101) (nI 1) dL_law_1101 (by decide) ?_
        refine e_iadd (pc := 1102) dL_law_1102 ?_
        refine E.it (nI (i + 1)) (nI_add _ _) ?_
        refine e_sld (pc := 1103) dL_law_1103 (vp_in_nI (by omega) (by omega)) ?_
        refine e_callV1 (pc := 1104) (M' := mX5_keep) dL_law_1104 iX5_keep lkL_139 (by decide) (rO_obj sh_0 rfl) (Nat.le_of_ble_eq_true rfl) (Nat.le_of_ble_eq_true rfl) ?_
        refine E.mono (b_keep hI _) (fun r S1 hr => ?_)
        obtain ⟨v, rfl, h2⟩ := hr
        refine e_aload_n (pc := 1107) (i := 2) dL_law_1107 rfl rfl ?_
        refine e_aload_n (pc := 1108) (i := 0) dL_law_1108 rfl rfl ?_
        refine e_iload_n (pc := 1109) (i := 3) dL_law_1109 rfl rfl ?_
        refine e_iconst' (pc := 1110) (nI 1) dL_law_1110 (by decide) ?_
        refine e_iadd (pc := 1111) dL_law_1111 ?_
        refine E.it (nI (i + 1)) (nI_add _ _) ?_
        refine e_sld (pc := 1112) dL_law_1112 (vp_in_nI (by omega) (by omega)) ?_
        refine e_callV1 (pc := 1113) (M' := mX6_keep) dL_law_1113 iX6_keep lkL_142 (by decide) (rO_obj sh_54 rfl) (Nat.le_of_ble_eq_true rfl) (Nat.le_of_ble_eq_true rfl) ?_
        refine E.mono h2 (fun r S2 hr2 => ?_)
        obtain ⟨rfl, hI2⟩ := hr2
        refine e_icmp_eq (pc := 1116) (tgt := 1319) dL_law_1116 (by decide) (fun h1116 => ?_) (fun h1116 => absurd rfl h1116)
        refine e_iinc' (pc := 1319) (nI (i + 6)) dL_law_1319 rfl (by decide) rfl (nI_add _ _) ?_
        refine e_goto (pc := 1322) (tgt := 18) dL_law_1322 (by decide) ?_
        first
          | exact ih (i + 6) S2 (by omega) (by omega) hI2
          | exact ih (i + 6) S (by omega) (by omega) hI
      · refine e_table (pc := 33) dL_law_33 ⟨1121, Or.inr ⟨by decide, by decide, 1088, by decide, by decide⟩, ?_⟩
        refine e_aload_n (pc := 1121) (i := 1) dL_law_1121 rfl rfl ?_
        refine e_aload_n (pc := 1122) (i := 0) dL_law_1122 rfl rfl ?_
        refine e_iload_n (pc := 1123) (i := 3) dL_law_1123 rfl rfl ?_
        refine e_iconst' (pc := 1124) (nI 1) dL_law_1124 (by decide) ?_
        refine e_iadd (pc := 1125) dL_law_1125 ?_
        refine E.it (nI (i + 1)) (nI_add _ _) ?_
        refine e_sld (pc := 1126) dL_law_1126 (vp_in_nI (by omega) (by omega)) ?_
        refine e_callV1 (pc := 1127) (M' := mX5_back) dL_law_1127 iX5_back lkL_143 (by decide) (rO_obj sh_0 rfl) (Nat.le_of_ble_eq_true rfl) (Nat.le_of_ble_eq_true rfl) ?_
        refine E.mono (b_back hI _) (fun r S1 hr => ?_)
        obtain ⟨v, rfl, h2⟩ := hr
        refine e_aload_n (pc := 1130) (i := 2) dL_law_1130 rfl rfl ?_
        refine e_aload_n (pc := 1131) (i := 0) dL_law_1131 rfl rfl ?_
        refine e_iload_n (pc := 1132) (i := 3) dL_law_1132 rfl rfl ?_
        refine e_iconst' (pc := 1133) (nI 1) dL_law_1133 (by decide) ?_
        refine e_iadd (pc := 1134) dL_law_1134 ?_
        refine E.it (nI (i + 1)) (nI_add _ _) ?_
        refine e_sld (pc := 1135) dL_law_1135 (vp_in_nI (by omega) (by omega)) ?_
        refine e_callV1 (pc := 1136) (M' := mX6_back) dL_law_1136 iX6_back lkL_146 (by decide) (rO_obj sh_54 rfl) (Nat.le_of_ble_eq_true rfl) (Nat.le_of_ble_eq_true rfl) ?_
        refine E.mono h2 (fun r S2 hr2 => ?_)
        obtain ⟨rfl, hI2⟩ := hr2
        refine e_icmp_eq (pc := 1139) (tgt := 1319) dL_law_1139 (by decide) (fun h1139 => ?_) (fun h1139 => absurd rfl h1139)
        refine e_iinc' (pc := 1319) (nI (i + 6)) dL_law_1319 rfl (by decide) rfl (nI_add _ _) ?_
        refine e_goto (pc := 1322) (tgt := 18) dL_law_1322 (by decide) ?_
        first
          | exact ih (i + 6) S2 (by omega) (by omega) hI2
          | exact ih (i + 6) S (by omega) (by omega) hI
      · refine e_table (pc := 33) dL_law_33 ⟨1144, Or.inr ⟨by decide, by decide, 1111, by decide, by decide⟩, ?_⟩
        refine e_aload_n (pc := 1144) (i := 1) dL_law_1144 rfl rfl ?_
        refine e_aload_n (pc := 1145) (i := 0) dL_law_1145 rfl rfl ?_
        refine e_iload_n (pc := 1146) (i := 3) dL_law_1146 rfl rfl ?_
        refine e_iconst' (pc := 1147) (nI 1) dL_law_1147 (by decide) ?_
        refine e_iadd (pc := 1148) dL_law_1148 ?_
        refine E.it (nI (i + 1)) (nI_add _ _) ?_
        refine e_sld (pc := 1149) dL_law_1149 (vp_in_nI (by omega) (by omega)) ?_
        refine e_aload_n (pc := 1150) (i := 0) dL_law_1150 rfl rfl ?_
        refine e_iload_n (pc := 1151) (i := 3) dL_law_1151 rfl rfl ?_
        refine e_iconst' (pc := 1152) (nI 2) dL_law_1152 (by decide) ?_
        refine e_iadd (pc := 1153) dL_law_1153 ?_
        refine E.it (nI (i + 2)) (nI_add _ _) ?_
        refine e_sld (pc := 1154) dL_law_1154 (vp_in_nI (by omega) (by omega)) ?_
        refine e_aload_n (pc := 1155) (i := 0) dL_law_1155 rfl rfl ?_
        refine e_iload_n (pc := 1156) (i := 3) dL_law_1156 rfl rfl ?_
        refine e_iconst' (pc := 1157) (nI 3) dL_law_1157 (by decide) ?_
        refine e_iadd (pc := 1158) dL_law_1158 ?_
        refine E.it (nI (i + 3)) (nI_add _ _) ?_
        refine e_sld (pc := 1159) dL_law_1159 (vp_in_nI (by omega) (by omega)) ?_
        refine e_callV3 (pc := 1160) (M' := mX5_sheet) dL_law_1160 iX5_sheet lkL_147 (by decide) (rO_obj sh_0 rfl) (Nat.le_of_ble_eq_true rfl) (Nat.le_of_ble_eq_true rfl) ?_
        refine E.mono (b_sheet hI _ _ _) (fun r S1 hr => ?_)
        obtain ⟨v, rfl, h2⟩ := hr
        refine e_aload_n (pc := 1163) (i := 2) dL_law_1163 rfl rfl ?_
        refine e_aload_n (pc := 1164) (i := 0) dL_law_1164 rfl rfl ?_
        refine e_iload_n (pc := 1165) (i := 3) dL_law_1165 rfl rfl ?_
        refine e_iconst' (pc := 1166) (nI 1) dL_law_1166 (by decide) ?_
        refine e_iadd (pc := 1167) dL_law_1167 ?_
        refine E.it (nI (i + 1)) (nI_add _ _) ?_
        refine e_sld (pc := 1168) dL_law_1168 (vp_in_nI (by omega) (by omega)) ?_
        refine e_aload_n (pc := 1169) (i := 0) dL_law_1169 rfl rfl ?_
        refine e_iload_n (pc := 1170) (i := 3) dL_law_1170 rfl rfl ?_
        refine e_iconst' (pc := 1171) (nI 2) dL_law_1171 (by decide) ?_
        refine e_iadd (pc := 1172) dL_law_1172 ?_
        refine E.it (nI (i + 2)) (nI_add _ _) ?_
        refine e_sld (pc := 1173) dL_law_1173 (vp_in_nI (by omega) (by omega)) ?_
        refine e_aload_n (pc := 1174) (i := 0) dL_law_1174 rfl rfl ?_
        refine e_iload_n (pc := 1175) (i := 3) dL_law_1175 rfl rfl ?_
        refine e_iconst' (pc := 1176) (nI 3) dL_law_1176 (by decide) ?_
        refine e_iadd (pc := 1177) dL_law_1177 ?_
        refine E.it (nI (i + 3)) (nI_add _ _) ?_
        refine e_sld (pc := 1178) dL_law_1178 (vp_in_nI (by omega) (by omega)) ?_
        refine e_callV3 (pc := 1179) (M' := mX6_sheet) dL_law_1179 iX6_sheet lkL_150 (by decide) (rO_obj sh_54 rfl) (Nat.le_of_ble_eq_true rfl) (Nat.le_of_ble_eq_true rfl) ?_
        refine E.mono h2 (fun r S2 hr2 => ?_)
        obtain ⟨rfl, hI2⟩ := hr2
        refine e_icmp_eq (pc := 1182) (tgt := 1319) dL_law_1182 (by decide) (fun h1182 => ?_) (fun h1182 => absurd rfl h1182)
        refine e_iinc' (pc := 1319) (nI (i + 6)) dL_law_1319 rfl (by decide) rfl (nI_add _ _) ?_
        refine e_goto (pc := 1322) (tgt := 18) dL_law_1322 (by decide) ?_
        first
          | exact ih (i + 6) S2 (by omega) (by omega) hI2
          | exact ih (i + 6) S (by omega) (by omega) hI
      · refine e_table (pc := 33) dL_law_33 ⟨1187, Or.inr ⟨by decide, by decide, 1154, by decide, by decide⟩, ?_⟩
        refine e_aload_n (pc := 1187) (i := 1) dL_law_1187 rfl rfl ?_
        refine e_aload_n (pc := 1188) (i := 0) dL_law_1188 rfl rfl ?_
        refine e_iload_n (pc := 1189) (i := 3) dL_law_1189 rfl rfl ?_
        refine e_iconst' (pc := 1190) (nI 1) dL_law_1190 (by decide) ?_
        refine e_iadd (pc := 1191) dL_law_1191 ?_
        refine E.it (nI (i + 1)) (nI_add _ _) ?_
        refine e_sld (pc := 1192) dL_law_1192 (vp_in_nI (by omega) (by omega)) ?_
        refine e_aload_n (pc := 1193) (i := 0) dL_law_1193 rfl rfl ?_
        refine e_iload_n (pc := 1194) (i := 3) dL_law_1194 rfl rfl ?_
        refine e_iconst' (pc := 1195) (nI 2) dL_law_1195 (by decide) ?_
        refine e_iadd (pc := 1196) dL_law_1196 ?_
        refine E.it (nI (i + 2)) (nI_add _ _) ?_
        refine e_sld (pc := 1197) dL_law_1197 (vp_in_nI (by omega) (by omega)) ?_
        refine e_aload_n (pc := 1198) (i := 0) dL_law_1198 rfl rfl ?_
        refine e_iload_n (pc := 1199) (i := 3) dL_law_1199 rfl rfl ?_
        refine e_iconst' (pc := 1200) (nI 3) dL_law_1200 (by decide) ?_
        refine e_iadd (pc := 1201) dL_law_1201 ?_
        refine E.it (nI (i + 3)) (nI_add _ _) ?_
        refine e_sld (pc := 1202) dL_law_1202 (vp_in_nI (by omega) (by omega)) ?_
        refine e_callV3 (pc := 1203) (M' := mX5_lay) dL_law_1203 iX5_lay lkL_151 (by decide) (rO_obj sh_0 rfl) (Nat.le_of_ble_eq_true rfl) (Nat.le_of_ble_eq_true rfl) ?_
        refine E.mono (b_lay hI _ _ _) (fun r S1 hr => ?_)
        obtain ⟨v, rfl, h2⟩ := hr
        refine e_aload_n (pc := 1206) (i := 2) dL_law_1206 rfl rfl ?_
        refine e_aload_n (pc := 1207) (i := 0) dL_law_1207 rfl rfl ?_
        refine e_iload_n (pc := 1208) (i := 3) dL_law_1208 rfl rfl ?_
        refine e_iconst' (pc := 1209) (nI 1) dL_law_1209 (by decide) ?_
        refine e_iadd (pc := 1210) dL_law_1210 ?_
        refine E.it (nI (i + 1)) (nI_add _ _) ?_
        refine e_sld (pc := 1211) dL_law_1211 (vp_in_nI (by omega) (by omega)) ?_
        refine e_aload_n (pc := 1212) (i := 0) dL_law_1212 rfl rfl ?_
        refine e_iload_n (pc := 1213) (i := 3) dL_law_1213 rfl rfl ?_
        refine e_iconst' (pc := 1214) (nI 2) dL_law_1214 (by decide) ?_
        refine e_iadd (pc := 1215) dL_law_1215 ?_
        refine E.it (nI (i + 2)) (nI_add _ _) ?_
        refine e_sld (pc := 1216) dL_law_1216 (vp_in_nI (by omega) (by omega)) ?_
        refine e_aload_n (pc := 1217) (i := 0) dL_law_1217 rfl rfl ?_
        refine e_iload_n (pc := 1218) (i := 3) dL_law_1218 rfl rfl ?_
        refine e_iconst' (pc := 1219) (nI 3) dL_law_1219 (by decide) ?_
        refine e_iadd (pc := 1220) dL_law_1220 ?_
        refine E.it (nI (i + 3)) (nI_add _ _) ?_
        refine e_sld (pc := 1221) dL_law_1221 (vp_in_nI (by omega) (by omega)) ?_
        refine e_callV3 (pc := 1222) (M' := mX6_lay) dL_law_1222 iX6_lay lkL_154 (by decide) (rO_obj sh_54 rfl) (Nat.le_of_ble_eq_true rfl) (Nat.le_of_ble_eq_true rfl) ?_
        refine E.mono h2 (fun r S2 hr2 => ?_)
        obtain ⟨rfl, hI2⟩ := hr2
        refine e_icmp_eq (pc := 1225) (tgt := 1319) dL_law_1225 (by decide) (fun h1225 => ?_) (fun h1225 => absurd rfl h1225)
        refine e_iinc' (pc := 1319) (nI (i + 6)) dL_law_1319 rfl (by decide) rfl (nI_add _ _) ?_
        refine e_goto (pc := 1322) (tgt := 18) dL_law_1322 (by decide) ?_
        first
          | exact ih (i + 6) S2 (by omega) (by omega) hI2
          | exact ih (i + 6) S (by omega) (by omega) hI
      · refine e_table (pc := 33) dL_law_33 ⟨1230, Or.inr ⟨by decide, by decide, 1197, by decide, by decide⟩, ?_⟩
        refine e_aload_n (pc := 1230) (i := 1) dL_law_1230 rfl rfl ?_
        refine e_aload_n (pc := 1231) (i := 0) dL_law_1231 rfl rfl ?_
        refine e_iload_n (pc := 1232) (i := 3) dL_law_1232 rfl rfl ?_
        refine e_iconst' (pc := 1233) (nI 1) dL_law_1233 (by decide) ?_
        refine e_iadd (pc := 1234) dL_law_1234 ?_
        refine E.it (nI (i + 1)) (nI_add _ _) ?_
        refine e_sld (pc := 1235) dL_law_1235 (vp_in_nI (by omega) (by omega)) ?_
        refine e_aload_n (pc := 1236) (i := 0) dL_law_1236 rfl rfl ?_
        refine e_iload_n (pc := 1237) (i := 3) dL_law_1237 rfl rfl ?_
        refine e_iconst' (pc := 1238) (nI 2) dL_law_1238 (by decide) ?_
        refine e_iadd (pc := 1239) dL_law_1239 ?_
        refine E.it (nI (i + 2)) (nI_add _ _) ?_
        refine e_sld (pc := 1240) dL_law_1240 (vp_in_nI (by omega) (by omega)) ?_
        refine e_aload_n (pc := 1241) (i := 0) dL_law_1241 rfl rfl ?_
        refine e_iload_n (pc := 1242) (i := 3) dL_law_1242 rfl rfl ?_
        refine e_iconst' (pc := 1243) (nI 3) dL_law_1243 (by decide) ?_
        refine e_iadd (pc := 1244) dL_law_1244 ?_
        refine E.it (nI (i + 3)) (nI_add _ _) ?_
        refine e_sld (pc := 1245) dL_law_1245 (vp_in_nI (by omega) (by omega)) ?_
        refine e_aload_n (pc := 1246) (i := 0) dL_law_1246 rfl rfl ?_
        refine e_iload_n (pc := 1247) (i := 3) dL_law_1247 rfl rfl ?_
        refine e_iconst' (pc := 1248) (nI 4) dL_law_1248 (by decide) ?_
        refine e_iadd (pc := 1249) dL_law_1249 ?_
        refine E.it (nI (i + 4)) (nI_add _ _) ?_
        refine e_sld (pc := 1250) dL_law_1250 (vp_in_nI (by omega) (by omega)) ?_
        refine e_callV4 (pc := 1251) (M' := mX5_read) dL_law_1251 iX5_read lkL_155 (by decide) (rO_obj sh_0 rfl) (Nat.le_of_ble_eq_true rfl) (Nat.le_of_ble_eq_true rfl) ?_
        refine E.mono (b_read hI _ _ _ _) (fun r S1 hr => ?_)
        obtain ⟨v, rfl, h2⟩ := hr
        refine e_aload_n (pc := 1254) (i := 2) dL_law_1254 rfl rfl ?_
        refine e_aload_n (pc := 1255) (i := 0) dL_law_1255 rfl rfl ?_
        refine e_iload_n (pc := 1256) (i := 3) dL_law_1256 rfl rfl ?_
        refine e_iconst' (pc := 1257) (nI 1) dL_law_1257 (by decide) ?_
        refine e_iadd (pc := 1258) dL_law_1258 ?_
        refine E.it (nI (i + 1)) (nI_add _ _) ?_
        refine e_sld (pc := 1259) dL_law_1259 (vp_in_nI (by omega) (by omega)) ?_
        refine e_aload_n (pc := 1260) (i := 0) dL_law_1260 rfl rfl ?_
        refine e_iload_n (pc := 1261) (i := 3) dL_law_1261 rfl rfl ?_
        refine e_iconst' (pc := 1262) (nI 2) dL_law_1262 (by decide) ?_
        refine e_iadd (pc := 1263) dL_law_1263 ?_
        refine E.it (nI (i + 2)) (nI_add _ _) ?_
        refine e_sld (pc := 1264) dL_law_1264 (vp_in_nI (by omega) (by omega)) ?_
        refine e_aload_n (pc := 1265) (i := 0) dL_law_1265 rfl rfl ?_
        refine e_iload_n (pc := 1266) (i := 3) dL_law_1266 rfl rfl ?_
        refine e_iconst' (pc := 1267) (nI 3) dL_law_1267 (by decide) ?_
        refine e_iadd (pc := 1268) dL_law_1268 ?_
        refine E.it (nI (i + 3)) (nI_add _ _) ?_
        refine e_sld (pc := 1269) dL_law_1269 (vp_in_nI (by omega) (by omega)) ?_
        refine e_aload_n (pc := 1270) (i := 0) dL_law_1270 rfl rfl ?_
        refine e_iload_n (pc := 1271) (i := 3) dL_law_1271 rfl rfl ?_
        refine e_iconst' (pc := 1272) (nI 4) dL_law_1272 (by decide) ?_
        refine e_iadd (pc := 1273) dL_law_1273 ?_
        refine E.it (nI (i + 4)) (nI_add _ _) ?_
        refine e_sld (pc := 1274) dL_law_1274 (vp_in_nI (by omega) (by omega)) ?_
        refine e_callV4 (pc := 1275) (M' := mX6_read) dL_law_1275 iX6_read lkL_159 (by decide) (rO_obj sh_54 rfl) (Nat.le_of_ble_eq_true rfl) (Nat.le_of_ble_eq_true rfl) ?_
        refine E.mono h2 (fun r S2 hr2 => ?_)
        obtain ⟨rfl, hI2⟩ := hr2
        refine e_icmp_eq (pc := 1278) (tgt := 1319) dL_law_1278 (by decide) (fun h1278 => ?_) (fun h1278 => absurd rfl h1278)
        refine e_iinc' (pc := 1319) (nI (i + 6)) dL_law_1319 rfl (by decide) rfl (nI_add _ _) ?_
        refine e_goto (pc := 1322) (tgt := 18) dL_law_1322 (by decide) ?_
        first
          | exact ih (i + 6) S2 (by omega) (by omega) hI2
          | exact ih (i + 6) S (by omega) (by omega) hI
      · refine e_table (pc := 33) dL_law_33 ⟨1283, Or.inr ⟨by decide, by decide, 1250, by decide, by decide⟩, ?_⟩
        refine e_aload_n (pc := 1283) (i := 1) dL_law_1283 rfl rfl ?_
        refine e_callV0 (pc := 1284) (M' := mX5_torn) dL_law_1284 iX5_torn lkL_160 (by decide) (rO_obj sh_0 rfl) (Nat.le_of_ble_eq_true rfl) (Nat.le_of_ble_eq_true rfl) ?_
        refine E.mono (b_torn hI) (fun r S1 hr => ?_)
        obtain ⟨v, rfl, h2⟩ := hr
        refine e_aload_n (pc := 1287) (i := 2) dL_law_1287 rfl rfl ?_
        refine e_callV0 (pc := 1288) (M' := mX6_torn) dL_law_1288 iX6_torn lkL_163 (by decide) (rO_obj sh_54 rfl) (Nat.le_of_ble_eq_true rfl) (Nat.le_of_ble_eq_true rfl) ?_
        refine E.mono h2 (fun r S2 hr2 => ?_)
        obtain ⟨rfl, hI2⟩ := hr2
        refine e_icmp_eq (pc := 1291) (tgt := 1319) dL_law_1291 (by decide) (fun h1291 => ?_) (fun h1291 => absurd rfl h1291)
        refine e_iinc' (pc := 1319) (nI (i + 6)) dL_law_1319 rfl (by decide) rfl (nI_add _ _) ?_
        refine e_goto (pc := 1322) (tgt := 18) dL_law_1322 (by decide) ?_
        first
          | exact ih (i + 6) S2 (by omega) (by omega) hI2
          | exact ih (i + 6) S (by omega) (by omega) hI
      · refine e_table (pc := 33) dL_law_33 ⟨1296, Or.inr ⟨by decide, by decide, 1263, by decide, by decide⟩, ?_⟩
        refine e_aload_n (pc := 1296) (i := 1) dL_law_1296 rfl rfl ?_
        refine e_aload_n (pc := 1297) (i := 0) dL_law_1297 rfl rfl ?_
        refine e_iload_n (pc := 1298) (i := 3) dL_law_1298 rfl rfl ?_
        refine e_iconst' (pc := 1299) (nI 1) dL_law_1299 (by decide) ?_
        refine e_iadd (pc := 1300) dL_law_1300 ?_
        refine E.it (nI (i + 1)) (nI_add _ _) ?_
        refine e_sld (pc := 1301) dL_law_1301 (vp_in_nI (by omega) (by omega)) ?_
        refine e_callV1 (pc := 1302) (M' := mX5_count) dL_law_1302 iX5_count lkL_164 (by decide) (rO_obj sh_0 rfl) (Nat.le_of_ble_eq_true rfl) (Nat.le_of_ble_eq_true rfl) ?_
        refine E.mono (b_count hI _) (fun r S1 hr => ?_)
        obtain ⟨v, rfl, h2⟩ := hr
        refine e_aload_n (pc := 1305) (i := 2) dL_law_1305 rfl rfl ?_
        refine e_aload_n (pc := 1306) (i := 0) dL_law_1306 rfl rfl ?_
        refine e_iload_n (pc := 1307) (i := 3) dL_law_1307 rfl rfl ?_
        refine e_iconst' (pc := 1308) (nI 1) dL_law_1308 (by decide) ?_
        refine e_iadd (pc := 1309) dL_law_1309 ?_
        refine E.it (nI (i + 1)) (nI_add _ _) ?_
        refine e_sld (pc := 1310) dL_law_1310 (vp_in_nI (by omega) (by omega)) ?_
        refine e_callV1 (pc := 1311) (M' := mX6_count) dL_law_1311 iX6_count lkL_167 (by decide) (rO_obj sh_54 rfl) (Nat.le_of_ble_eq_true rfl) (Nat.le_of_ble_eq_true rfl) ?_
        refine E.mono h2 (fun r S2 hr2 => ?_)
        obtain ⟨rfl, hI2⟩ := hr2
        refine e_icmp_eq (pc := 1314) (tgt := 1319) dL_law_1314 (by decide) (fun h1314 => ?_) (fun h1314 => absurd rfl h1314)
        refine e_iinc' (pc := 1319) (nI (i + 6)) dL_law_1319 rfl (by decide) rfl (nI_add _ _) ?_
        refine e_goto (pc := 1322) (tgt := 18) dL_law_1322 (by decide) ?_
        first
          | exact ih (i + 6) S2 (by omega) (by omega) hI2
          | exact ih (i + 6) S (by omega) (by omega) hI
      · have hg : (36 : Int) < (nI c).toInt := by rw [nI_toInt (by omega)]; omega
        refine e_table (pc := 33) dL_law_33 ⟨1319, Or.inl ⟨Or.inr hg, by decide⟩, ?_⟩
        refine e_iinc' (pc := 1319) (nI (i + 6)) dL_law_1319 rfl (by decide) rfl (nI_add _ _) ?_
        refine e_goto (pc := 1322) (tgt := 18) dL_law_1322 (by decide) ?_
        first
          | exact ih (i + 6) S2 (by omega) (by omega) hI2
          | exact ih (i + 6) S (by omega) (by omega) hI
