/-! ===== the law's cases ===== -/
theorem lw_swap {E : xE} {h0 : xHp} {z : Nat} {O : xO} {D : xMd} : MH E (RO E h0 z O) (z + 157) D = RO E (MH E h0 (z + 157) D) z O := putB_swap (by omega)
theorem sub7 {L i : Nat} (hL : L ≤ 3584) (hi : i ≤ 4000) (h : ¬ nI L - nI 7 < nI i) : i + 7 ≤ L := by
  by_cases h7 : 7 ≤ L
  · rw [nI_sub h7] at h
    have : ¬ L - 7 < i := fun q => h ((nI_ltI (by omega) (by omega)).mpr q)
    omega
  · have h1 := pk_sneg (a := L) (b := 7) (by decide) (by omega)
    have h2 : (0 : Int32) ≤ nI i := nI_pos' (by omega)
    exact absurd (Int32.lt_of_lt_of_le h1 h2) h
set_option maxHeartbeats 4000000 in
set_option maxRecDepth 100000 in
theorem lc_0 {E : xE} {b0 L0 : Nat} {xs : Nat → Int32} {h0 : xHp} {z i : Nat} (hL : L0 ≤ 3584) (hi : i + 7 ≤ L0) (kk : ∀ (O : xO) (D : xMd), Rel O D → LW E b0 L0 xs 167 2192 1251 [some (.ref b0), some (.ref z), some (.ref (z + 157)), some (.int (nI i))] [] (MH E (RO E h0 z O) (z + 157) D)) (O : xO) (D : xMd) (hR : Rel O D) : LW E b0 L0 xs 167 2192 180 [some (.ref b0), some (.ref z), some (.ref (z + 157)), some (.int (nI i))] [] (MH E (RO E h0 z O) (z + 157) D) := by
  obtain ⟨x, O1, hc, hr⟩ := ag_apprentice (xs (i + 1)) (xs (i + 2)) (xs (i + 3)) E z (z + 157) O D hR
  refine qx_aload_n dL_law_180 rfl ?_
  refine qx_aload_n dL_law_181 rfl ?_
  refine qx_iload_n dL_law_182 rfl ?_
  refine qx_iconst (v := nI 1) dL_law_183 (by decide) ?_
  refine qx_iaddN dL_law_184 ?_
  refine qx_sld dL_law_185 (by omega) hL ?_
  refine qx_aload_n dL_law_186 rfl ?_
  refine qx_iload_n dL_law_187 rfl ?_
  refine qx_iconst (v := nI 2) dL_law_188 (by decide) ?_
  refine qx_iaddN dL_law_189 ?_
  refine qx_sld dL_law_190 (by omega) hL ?_
  refine qx_aload_n dL_law_191 rfl ?_
  refine qx_iload_n dL_law_192 rfl ?_
  refine qx_iconst (v := nI 3) dL_law_193 (by decide) ?_
  refine qx_iaddN dL_law_194 ?_
  refine qx_sld dL_law_195 (by omega) hL ?_
  refine qx_heap lw_swap ?_
  refine qx_callV (M2 := mX5_apprentice) (hc (MH E h0 (z + 157) D)) mw_X5_apprentice wm_X5_apprentice we_X5_apprentice ml_L_13 dL_law_196 RO_obj rfl (by decide) rfl rfl (Nat.le_of_ble_eq_true rfl) (by decide) (fun v h2 hq => ?_)
  obtain ⟨rfl, O2, hO, rfl⟩ := hq
  refine qx_heap lw_swap.symm ?_
  refine qx_aload_n dL_law_199 rfl ?_
  refine qx_aload_n dL_law_200 rfl ?_
  refine qx_iload_n dL_law_201 rfl ?_
  refine qx_iconst (v := nI 1) dL_law_202 (by decide) ?_
  refine qx_iaddN dL_law_203 ?_
  refine qx_sld dL_law_204 (by omega) hL ?_
  refine qx_aload_n dL_law_205 rfl ?_
  refine qx_iload_n dL_law_206 rfl ?_
  refine qx_iconst (v := nI 2) dL_law_207 (by decide) ?_
  refine qx_iaddN dL_law_208 ?_
  refine qx_sld dL_law_209 (by omega) hL ?_
  refine qx_aload_n dL_law_210 rfl ?_
  refine qx_iload_n dL_law_211 rfl ?_
  refine qx_iconst (v := nI 3) dL_law_212 (by decide) ?_
  refine qx_iaddN dL_law_213 ?_
  refine qx_sld dL_law_214 (by omega) hL ?_
  refine qx_callV (M2 := mX6_apprentice) (hr (RO E h0 z O2)) mw_X6_apprentice wm_X6_apprentice we_X6_apprentice ml_L_17 dL_law_215 MH_obj rfl (by decide) rfl rfl (Nat.le_of_ble_eq_true rfl) (by decide) (fun v h2 hq => ?_)
  obtain ⟨rfl, D2, hR2, rfl⟩ := hq
  refine qx_icmp_eq 1251 dL_law_218 (by decide) (fun _ => ?_) (fun z => absurd rfl z)
  exact kk O2 D2 (hO D2 hR2)
set_option maxHeartbeats 4000000 in
set_option maxRecDepth 100000 in
theorem lc_1 {E : xE} {b0 L0 : Nat} {xs : Nat → Int32} {h0 : xHp} {z i : Nat} (hL : L0 ≤ 3584) (hi : i + 7 ≤ L0) (kk : ∀ (O : xO) (D : xMd), Rel O D → LW E b0 L0 xs 167 2192 1251 [some (.ref b0), some (.ref z), some (.ref (z + 157)), some (.int (nI i))] [] (MH E (RO E h0 z O) (z + 157) D)) (O : xO) (D : xMd) (hR : Rel O D) : LW E b0 L0 xs 167 2192 223 [some (.ref b0), some (.ref z), some (.ref (z + 157)), some (.int (nI i))] [] (MH E (RO E h0 z O) (z + 157) D) := by
  obtain ⟨x, O1, hc, hr⟩ := ag_thief (xs (i + 1)) (xs (i + 2)) E z (z + 157) O D hR
  refine qx_aload_n dL_law_223 rfl ?_
  refine qx_aload_n dL_law_224 rfl ?_
  refine qx_iload_n dL_law_225 rfl ?_
  refine qx_iconst (v := nI 1) dL_law_226 (by decide) ?_
  refine qx_iaddN dL_law_227 ?_
  refine qx_sld dL_law_228 (by omega) hL ?_
  refine qx_aload_n dL_law_229 rfl ?_
  refine qx_iload_n dL_law_230 rfl ?_
  refine qx_iconst (v := nI 2) dL_law_231 (by decide) ?_
  refine qx_iaddN dL_law_232 ?_
  refine qx_sld dL_law_233 (by omega) hL ?_
  refine qx_heap lw_swap ?_
  refine qx_callV (M2 := mX5_thief) (hc (MH E h0 (z + 157) D)) mw_X5_thief wm_X5_thief we_X5_thief ml_L_18 dL_law_234 RO_obj rfl (by decide) rfl rfl (Nat.le_of_ble_eq_true rfl) (by decide) (fun v h2 hq => ?_)
  obtain ⟨rfl, O2, hO, rfl⟩ := hq
  refine qx_heap lw_swap.symm ?_
  refine qx_aload_n dL_law_237 rfl ?_
  refine qx_aload_n dL_law_238 rfl ?_
  refine qx_iload_n dL_law_239 rfl ?_
  refine qx_iconst (v := nI 1) dL_law_240 (by decide) ?_
  refine qx_iaddN dL_law_241 ?_
  refine qx_sld dL_law_242 (by omega) hL ?_
  refine qx_aload_n dL_law_243 rfl ?_
  refine qx_iload_n dL_law_244 rfl ?_
  refine qx_iconst (v := nI 2) dL_law_245 (by decide) ?_
  refine qx_iaddN dL_law_246 ?_
  refine qx_sld dL_law_247 (by omega) hL ?_
  refine qx_callV (M2 := mX6_thief) (hr (RO E h0 z O2)) mw_X6_thief wm_X6_thief we_X6_thief ml_L_22 dL_law_248 MH_obj rfl (by decide) rfl rfl (Nat.le_of_ble_eq_true rfl) (by decide) (fun v h2 hq => ?_)
  obtain ⟨rfl, D2, hR2, rfl⟩ := hq
  refine qx_icmp_eq 1251 dL_law_251 (by decide) (fun _ => ?_) (fun z => absurd rfl z)
  exact kk O2 D2 (hO D2 hR2)
set_option maxHeartbeats 4000000 in
set_option maxRecDepth 100000 in
theorem lc_2 {E : xE} {b0 L0 : Nat} {xs : Nat → Int32} {h0 : xHp} {z i : Nat} (hL : L0 ≤ 3584) (hi : i + 7 ≤ L0) (kk : ∀ (O : xO) (D : xMd), Rel O D → LW E b0 L0 xs 167 2192 1251 [some (.ref b0), some (.ref z), some (.ref (z + 157)), some (.int (nI i))] [] (MH E (RO E h0 z O) (z + 157) D)) (O : xO) (D : xMd) (hR : Rel O D) : LW E b0 L0 xs 167 2192 256 [some (.ref b0), some (.ref z), some (.ref (z + 157)), some (.int (nI i))] [] (MH E (RO E h0 z O) (z + 157) D) := by
  obtain ⟨x, O1, hc, hr⟩ := ag_bar (xs (i + 1)) E z (z + 157) O D hR
  refine qx_aload_n dL_law_256 rfl ?_
  refine qx_aload_n dL_law_257 rfl ?_
  refine qx_iload_n dL_law_258 rfl ?_
  refine qx_iconst (v := nI 1) dL_law_259 (by decide) ?_
  refine qx_iaddN dL_law_260 ?_
  refine qx_sld dL_law_261 (by omega) hL ?_
  refine qx_heap lw_swap ?_
  refine qx_callV (M2 := mX5_bar) (hc (MH E h0 (z + 157) D)) mw_X5_bar wm_X5_bar we_X5_bar ml_L_23 dL_law_262 RO_obj rfl (by decide) rfl rfl (Nat.le_of_ble_eq_true rfl) (by decide) (fun v h2 hq => ?_)
  obtain ⟨rfl, O2, hO, rfl⟩ := hq
  refine qx_heap lw_swap.symm ?_
  refine qx_aload_n dL_law_265 rfl ?_
  refine qx_aload_n dL_law_266 rfl ?_
  refine qx_iload_n dL_law_267 rfl ?_
  refine qx_iconst (v := nI 1) dL_law_268 (by decide) ?_
  refine qx_iaddN dL_law_269 ?_
  refine qx_sld dL_law_270 (by omega) hL ?_
  refine qx_callV (M2 := mX6_bar) (hr (RO E h0 z O2)) mw_X6_bar wm_X6_bar we_X6_bar ml_L_27 dL_law_271 MH_obj rfl (by decide) rfl rfl (Nat.le_of_ble_eq_true rfl) (by decide) (fun v h2 hq => ?_)
  obtain ⟨rfl, D2, hR2, rfl⟩ := hq
  refine qx_icmp_eq 1251 dL_law_274 (by decide) (fun _ => ?_) (fun z => absurd rfl z)
  exact kk O2 D2 (hO D2 hR2)
set_option maxHeartbeats 4000000 in
set_option maxRecDepth 100000 in
theorem lc_3 {E : xE} {b0 L0 : Nat} {xs : Nat → Int32} {h0 : xHp} {z i : Nat} (hL : L0 ≤ 3584) (hi : i + 7 ≤ L0) (kk : ∀ (O : xO) (D : xMd), Rel O D → LW E b0 L0 xs 167 2192 1251 [some (.ref b0), some (.ref z), some (.ref (z + 157)), some (.int (nI i))] [] (MH E (RO E h0 z O) (z + 157) D)) (O : xO) (D : xMd) (hR : Rel O D) : LW E b0 L0 xs 167 2192 279 [some (.ref b0), some (.ref z), some (.ref (z + 157)), some (.int (nI i))] [] (MH E (RO E h0 z O) (z + 157) D) := by
  obtain ⟨x, O1, hc, hr⟩ := ag_of (xs (i + 1)) (xs (i + 2)) E z (z + 157) O D hR
  refine qx_aload_n dL_law_279 rfl ?_
  refine qx_aload_n dL_law_280 rfl ?_
  refine qx_iload_n dL_law_281 rfl ?_
  refine qx_iconst (v := nI 1) dL_law_282 (by decide) ?_
  refine qx_iaddN dL_law_283 ?_
  refine qx_sld dL_law_284 (by omega) hL ?_
  refine qx_aload_n dL_law_285 rfl ?_
  refine qx_iload_n dL_law_286 rfl ?_
  refine qx_iconst (v := nI 2) dL_law_287 (by decide) ?_
  refine qx_iaddN dL_law_288 ?_
  refine qx_sld dL_law_289 (by omega) hL ?_
  refine qx_heap lw_swap ?_
  refine qx_callV (M2 := mX5_of) (hc (MH E h0 (z + 157) D)) mw_X5_of wm_X5_of we_X5_of ml_L_28 dL_law_290 RO_obj rfl (by decide) rfl rfl (Nat.le_of_ble_eq_true rfl) (by decide) (fun v h2 hq => ?_)
  obtain ⟨rfl, O2, hO, rfl⟩ := hq
  refine qx_heap lw_swap.symm ?_
  refine qx_aload_n dL_law_293 rfl ?_
  refine qx_aload_n dL_law_294 rfl ?_
  refine qx_iload_n dL_law_295 rfl ?_
  refine qx_iconst (v := nI 1) dL_law_296 (by decide) ?_
  refine qx_iaddN dL_law_297 ?_
  refine qx_sld dL_law_298 (by omega) hL ?_
  refine qx_aload_n dL_law_299 rfl ?_
  refine qx_iload_n dL_law_300 rfl ?_
  refine qx_iconst (v := nI 2) dL_law_301 (by decide) ?_
  refine qx_iaddN dL_law_302 ?_
  refine qx_sld dL_law_303 (by omega) hL ?_
  refine qx_callV (M2 := mX6_of) (hr (RO E h0 z O2)) mw_X6_of wm_X6_of we_X6_of ml_L_31 dL_law_304 MH_obj rfl (by decide) rfl rfl (Nat.le_of_ble_eq_true rfl) (by decide) (fun v h2 hq => ?_)
  obtain ⟨rfl, D2, hR2, rfl⟩ := hq
  refine qx_icmp_eq 1251 dL_law_307 (by decide) (fun _ => ?_) (fun z => absurd rfl z)
  exact kk O2 D2 (hO D2 hR2)
set_option maxHeartbeats 4000000 in
set_option maxRecDepth 100000 in
theorem lc_4 {E : xE} {b0 L0 : Nat} {xs : Nat → Int32} {h0 : xHp} {z i : Nat} (hL : L0 ≤ 3584) (hi : i + 7 ≤ L0) (kk : ∀ (O : xO) (D : xMd), Rel O D → LW E b0 L0 xs 167 2192 1251 [some (.ref b0), some (.ref z), some (.ref (z + 157)), some (.int (nI i))] [] (MH E (RO E h0 z O) (z + 157) D)) (O : xO) (D : xMd) (hR : Rel O D) : LW E b0 L0 xs 167 2192 312 [some (.ref b0), some (.ref z), some (.ref (z + 157)), some (.int (nI i))] [] (MH E (RO E h0 z O) (z + 157) D) := by
  obtain ⟨x, O1, hc, hr⟩ := ag_at (xs (i + 1)) (xs (i + 2)) E z (z + 157) O D hR
  refine qx_aload_n dL_law_312 rfl ?_
  refine qx_aload_n dL_law_313 rfl ?_
  refine qx_iload_n dL_law_314 rfl ?_
  refine qx_iconst (v := nI 1) dL_law_315 (by decide) ?_
  refine qx_iaddN dL_law_316 ?_
  refine qx_sld dL_law_317 (by omega) hL ?_
  refine qx_aload_n dL_law_318 rfl ?_
  refine qx_iload_n dL_law_319 rfl ?_
  refine qx_iconst (v := nI 2) dL_law_320 (by decide) ?_
  refine qx_iaddN dL_law_321 ?_
  refine qx_sld dL_law_322 (by omega) hL ?_
  refine qx_heap lw_swap ?_
  refine qx_callV (M2 := mX5_at) (hc (MH E h0 (z + 157) D)) mw_X5_at wm_X5_at we_X5_at ml_L_32 dL_law_323 RO_obj rfl (by decide) rfl rfl (Nat.le_of_ble_eq_true rfl) (by decide) (fun v h2 hq => ?_)
  obtain ⟨rfl, O2, hO, rfl⟩ := hq
  refine qx_heap lw_swap.symm ?_
  refine qx_aload_n dL_law_326 rfl ?_
  refine qx_aload_n dL_law_327 rfl ?_
  refine qx_iload_n dL_law_328 rfl ?_
  refine qx_iconst (v := nI 1) dL_law_329 (by decide) ?_
  refine qx_iaddN dL_law_330 ?_
  refine qx_sld dL_law_331 (by omega) hL ?_
  refine qx_aload_n dL_law_332 rfl ?_
  refine qx_iload_n dL_law_333 rfl ?_
  refine qx_iconst (v := nI 2) dL_law_334 (by decide) ?_
  refine qx_iaddN dL_law_335 ?_
  refine qx_sld dL_law_336 (by omega) hL ?_
  refine qx_callV (M2 := mX6_at) (hr (RO E h0 z O2)) mw_X6_at wm_X6_at we_X6_at ml_L_35 dL_law_337 MH_obj rfl (by decide) rfl rfl (Nat.le_of_ble_eq_true rfl) (by decide) (fun v h2 hq => ?_)
  obtain ⟨rfl, D2, hR2, rfl⟩ := hq
  refine qx_icmp_eq 1251 dL_law_340 (by decide) (fun _ => ?_) (fun z => absurd rfl z)
  exact kk O2 D2 (hO D2 hR2)
set_option maxHeartbeats 4000000 in
set_option maxRecDepth 100000 in
theorem lc_5 {E : xE} {b0 L0 : Nat} {xs : Nat → Int32} {h0 : xHp} {z i : Nat} (hL : L0 ≤ 3584) (hi : i + 7 ≤ L0) (kk : ∀ (O : xO) (D : xMd), Rel O D → LW E b0 L0 xs 167 2192 1251 [some (.ref b0), some (.ref z), some (.ref (z + 157)), some (.int (nI i))] [] (MH E (RO E h0 z O) (z + 157) D)) (O : xO) (D : xMd) (hR : Rel O D) : LW E b0 L0 xs 167 2192 345 [some (.ref b0), some (.ref z), some (.ref (z + 157)), some (.int (nI i))] [] (MH E (RO E h0 z O) (z + 157) D) := by
  obtain ⟨x, O1, hc, hr⟩ := ag_type (xs (i + 1)) E z (z + 157) O D hR
  refine qx_aload_n dL_law_345 rfl ?_
  refine qx_aload_n dL_law_346 rfl ?_
  refine qx_iload_n dL_law_347 rfl ?_
  refine qx_iconst (v := nI 1) dL_law_348 (by decide) ?_
  refine qx_iaddN dL_law_349 ?_
  refine qx_sld dL_law_350 (by omega) hL ?_
  refine qx_heap lw_swap ?_
  refine qx_callV (M2 := mX5_type) (hc (MH E h0 (z + 157) D)) mw_X5_type wm_X5_type we_X5_type ml_L_36 dL_law_351 RO_obj rfl (by decide) rfl rfl (Nat.le_of_ble_eq_true rfl) (by decide) (fun v h2 hq => ?_)
  obtain ⟨rfl, O2, hO, rfl⟩ := hq
  refine qx_heap lw_swap.symm ?_
  refine qx_aload_n dL_law_354 rfl ?_
  refine qx_aload_n dL_law_355 rfl ?_
  refine qx_iload_n dL_law_356 rfl ?_
  refine qx_iconst (v := nI 1) dL_law_357 (by decide) ?_
  refine qx_iaddN dL_law_358 ?_
  refine qx_sld dL_law_359 (by omega) hL ?_
  refine qx_callV (M2 := mX6_type) (hr (RO E h0 z O2)) mw_X6_type wm_X6_type we_X6_type ml_L_39 dL_law_360 MH_obj rfl (by decide) rfl rfl (Nat.le_of_ble_eq_true rfl) (by decide) (fun v h2 hq => ?_)
  obtain ⟨rfl, D2, hR2, rfl⟩ := hq
  refine qx_icmp_eq 1251 dL_law_363 (by decide) (fun _ => ?_) (fun z => absurd rfl z)
  exact kk O2 D2 (hO D2 hR2)
set_option maxHeartbeats 4000000 in
set_option maxRecDepth 100000 in
theorem lc_6 {E : xE} {b0 L0 : Nat} {xs : Nat → Int32} {h0 : xHp} {z i : Nat} (hL : L0 ≤ 3584) (hi : i + 7 ≤ L0) (kk : ∀ (O : xO) (D : xMd), Rel O D → LW E b0 L0 xs 167 2192 1251 [some (.ref b0), some (.ref z), some (.ref (z + 157)), some (.int (nI i))] [] (MH E (RO E h0 z O) (z + 157) D)) (O : xO) (D : xMd) (hR : Rel O D) : LW E b0 L0 xs 167 2192 368 [some (.ref b0), some (.ref z), some (.ref (z + 157)), some (.int (nI i))] [] (MH E (RO E h0 z O) (z + 157) D) := by
  obtain ⟨x, O1, hc, hr⟩ := ag_town  E z (z + 157) O D hR
  refine qx_aload_n dL_law_368 rfl ?_
  refine qx_heap lw_swap ?_
  refine qx_callV (M2 := mX5_town) (hc (MH E h0 (z + 157) D)) mw_X5_town wm_X5_town we_X5_town ml_L_40 dL_law_369 RO_obj rfl (by decide) rfl rfl (Nat.le_of_ble_eq_true rfl) (by decide) (fun v h2 hq => ?_)
  obtain ⟨rfl, O2, hO, rfl⟩ := hq
  refine qx_heap lw_swap.symm ?_
  refine qx_aload_n dL_law_372 rfl ?_
  refine qx_callV (M2 := mX6_town) (hr (RO E h0 z O2)) mw_X6_town wm_X6_town we_X6_town ml_L_44 dL_law_373 MH_obj rfl (by decide) rfl rfl (Nat.le_of_ble_eq_true rfl) (by decide) (fun v h2 hq => ?_)
  obtain ⟨rfl, D2, hR2, rfl⟩ := hq
  refine qx_icmp_eq 1251 dL_law_376 (by decide) (fun _ => ?_) (fun z => absurd rfl z)
  exact kk O2 D2 (hO D2 hR2)
set_option maxHeartbeats 4000000 in
set_option maxRecDepth 100000 in
theorem lc_7 {E : xE} {b0 L0 : Nat} {xs : Nat → Int32} {h0 : xHp} {z i : Nat} (hL : L0 ≤ 3584) (hi : i + 7 ≤ L0) (kk : ∀ (O : xO) (D : xMd), Rel O D → LW E b0 L0 xs 167 2192 1251 [some (.ref b0), some (.ref z), some (.ref (z + 157)), some (.int (nI i))] [] (MH E (RO E h0 z O) (z + 157) D)) (O : xO) (D : xMd) (hR : Rel O D) : LW E b0 L0 xs 167 2192 381 [some (.ref b0), some (.ref z), some (.ref (z + 157)), some (.int (nI i))] [] (MH E (RO E h0 z O) (z + 157) D) := by
  obtain ⟨x, O1, hc, hr⟩ := ag_count (xs (i + 1)) E z (z + 157) O D hR
  refine qx_aload_n dL_law_381 rfl ?_
  refine qx_aload_n dL_law_382 rfl ?_
  refine qx_iload_n dL_law_383 rfl ?_
  refine qx_iconst (v := nI 1) dL_law_384 (by decide) ?_
  refine qx_iaddN dL_law_385 ?_
  refine qx_sld dL_law_386 (by omega) hL ?_
  refine qx_heap lw_swap ?_
  refine qx_callV (M2 := mX5_count) (hc (MH E h0 (z + 157) D)) mw_X5_count wm_X5_count we_X5_count ml_L_45 dL_law_387 RO_obj rfl (by decide) rfl rfl (Nat.le_of_ble_eq_true rfl) (by decide) (fun v h2 hq => ?_)
  obtain ⟨rfl, O2, hO, rfl⟩ := hq
  refine qx_heap lw_swap.symm ?_
  refine qx_aload_n dL_law_390 rfl ?_
  refine qx_aload_n dL_law_391 rfl ?_
  refine qx_iload_n dL_law_392 rfl ?_
  refine qx_iconst (v := nI 1) dL_law_393 (by decide) ?_
  refine qx_iaddN dL_law_394 ?_
  refine qx_sld dL_law_395 (by omega) hL ?_
  refine qx_callV (M2 := mX6_count) (hr (RO E h0 z O2)) mw_X6_count wm_X6_count we_X6_count ml_L_48 dL_law_396 MH_obj rfl (by decide) rfl rfl (Nat.le_of_ble_eq_true rfl) (by decide) (fun v h2 hq => ?_)
  obtain ⟨rfl, D2, hR2, rfl⟩ := hq
  refine qx_icmp_eq 1251 dL_law_399 (by decide) (fun _ => ?_) (fun z => absurd rfl z)
  exact kk O2 D2 (hO D2 hR2)
set_option maxHeartbeats 4000000 in
set_option maxRecDepth 100000 in
theorem lc_8 {E : xE} {b0 L0 : Nat} {xs : Nat → Int32} {h0 : xHp} {z i : Nat} (hL : L0 ≤ 3584) (hi : i + 7 ≤ L0) (kk : ∀ (O : xO) (D : xMd), Rel O D → LW E b0 L0 xs 167 2192 1251 [some (.ref b0), some (.ref z), some (.ref (z + 157)), some (.int (nI i))] [] (MH E (RO E h0 z O) (z + 157) D)) (O : xO) (D : xMd) (hR : Rel O D) : LW E b0 L0 xs 167 2192 404 [some (.ref b0), some (.ref z), some (.ref (z + 157)), some (.int (nI i))] [] (MH E (RO E h0 z O) (z + 157) D) := by
  obtain ⟨x, O1, hc, hr⟩ := ag_nights (xs (i + 1)) E z (z + 157) O D hR
  refine qx_aload_n dL_law_404 rfl ?_
  refine qx_aload_n dL_law_405 rfl ?_
  refine qx_iload_n dL_law_406 rfl ?_
  refine qx_iconst (v := nI 1) dL_law_407 (by decide) ?_
  refine qx_iaddN dL_law_408 ?_
  refine qx_sld dL_law_409 (by omega) hL ?_
  refine qx_heap lw_swap ?_
  refine qx_callV (M2 := mX5_nights) (hc (MH E h0 (z + 157) D)) mw_X5_nights wm_X5_nights we_X5_nights ml_L_49 dL_law_410 RO_obj rfl (by decide) rfl rfl (Nat.le_of_ble_eq_true rfl) (by decide) (fun v h2 hq => ?_)
  obtain ⟨rfl, O2, hO, rfl⟩ := hq
  refine qx_heap lw_swap.symm ?_
  refine qx_aload_n dL_law_413 rfl ?_
  refine qx_aload_n dL_law_414 rfl ?_
  refine qx_iload_n dL_law_415 rfl ?_
  refine qx_iconst (v := nI 1) dL_law_416 (by decide) ?_
  refine qx_iaddN dL_law_417 ?_
  refine qx_sld dL_law_418 (by omega) hL ?_
  refine qx_callV (M2 := mX6_nights) (hr (RO E h0 z O2)) mw_X6_nights wm_X6_nights we_X6_nights ml_L_52 dL_law_419 MH_obj rfl (by decide) rfl rfl (Nat.le_of_ble_eq_true rfl) (by decide) (fun v h2 hq => ?_)
  obtain ⟨rfl, D2, hR2, rfl⟩ := hq
  refine qx_icmp_eq 1251 dL_law_422 (by decide) (fun _ => ?_) (fun z => absurd rfl z)
  exact kk O2 D2 (hO D2 hR2)
set_option maxHeartbeats 4000000 in
set_option maxRecDepth 100000 in
theorem lc_9 {E : xE} {b0 L0 : Nat} {xs : Nat → Int32} {h0 : xHp} {z i : Nat} (hL : L0 ≤ 3584) (hi : i + 7 ≤ L0) (kk : ∀ (O : xO) (D : xMd), Rel O D → LW E b0 L0 xs 167 2192 1251 [some (.ref b0), some (.ref z), some (.ref (z + 157)), some (.int (nI i))] [] (MH E (RO E h0 z O) (z + 157) D)) (O : xO) (D : xMd) (hR : Rel O D) : LW E b0 L0 xs 167 2192 427 [some (.ref b0), some (.ref z), some (.ref (z + 157)), some (.int (nI i))] [] (MH E (RO E h0 z O) (z + 157) D) := by
  obtain ⟨x, O1, hc, hr⟩ := ag_show (xs (i + 1)) (xs (i + 2)) E z (z + 157) O D hR
  refine qx_aload_n dL_law_427 rfl ?_
  refine qx_aload_n dL_law_428 rfl ?_
  refine qx_iload_n dL_law_429 rfl ?_
  refine qx_iconst (v := nI 1) dL_law_430 (by decide) ?_
  refine qx_iaddN dL_law_431 ?_
  refine qx_sld dL_law_432 (by omega) hL ?_
  refine qx_aload_n dL_law_433 rfl ?_
  refine qx_iload_n dL_law_434 rfl ?_
  refine qx_iconst (v := nI 2) dL_law_435 (by decide) ?_
  refine qx_iaddN dL_law_436 ?_
  refine qx_sld dL_law_437 (by omega) hL ?_
  refine qx_heap lw_swap ?_
  refine qx_callV (M2 := mX5_show) (hc (MH E h0 (z + 157) D)) mw_X5_show wm_X5_show we_X5_show ml_L_53 dL_law_438 RO_obj rfl (by decide) rfl rfl (Nat.le_of_ble_eq_true rfl) (by decide) (fun v h2 hq => ?_)
  obtain ⟨rfl, O2, hO, rfl⟩ := hq
  refine qx_heap lw_swap.symm ?_
  refine qx_aload_n dL_law_441 rfl ?_
  refine qx_aload_n dL_law_442 rfl ?_
  refine qx_iload_n dL_law_443 rfl ?_
  refine qx_iconst (v := nI 1) dL_law_444 (by decide) ?_
  refine qx_iaddN dL_law_445 ?_
  refine qx_sld dL_law_446 (by omega) hL ?_
  refine qx_aload_n dL_law_447 rfl ?_
  refine qx_iload_n dL_law_448 rfl ?_
  refine qx_iconst (v := nI 2) dL_law_449 (by decide) ?_
  refine qx_iaddN dL_law_450 ?_
  refine qx_sld dL_law_451 (by omega) hL ?_
  refine qx_callV (M2 := mX6_show) (hr (RO E h0 z O2)) mw_X6_show wm_X6_show we_X6_show ml_L_56 dL_law_452 MH_obj rfl (by decide) rfl rfl (Nat.le_of_ble_eq_true rfl) (by decide) (fun v h2 hq => ?_)
  obtain ⟨rfl, D2, hR2, rfl⟩ := hq
  refine qx_icmp_eq 1251 dL_law_455 (by decide) (fun _ => ?_) (fun z => absurd rfl z)
  exact kk O2 D2 (hO D2 hR2)
set_option maxHeartbeats 4000000 in
set_option maxRecDepth 100000 in
theorem lc_10 {E : xE} {b0 L0 : Nat} {xs : Nat → Int32} {h0 : xHp} {z i : Nat} (hL : L0 ≤ 3584) (hi : i + 7 ≤ L0) (kk : ∀ (O : xO) (D : xMd), Rel O D → LW E b0 L0 xs 167 2192 1251 [some (.ref b0), some (.ref z), some (.ref (z + 157)), some (.int (nI i))] [] (MH E (RO E h0 z O) (z + 157) D)) (O : xO) (D : xMd) (hR : Rel O D) : LW E b0 L0 xs 167 2192 460 [some (.ref b0), some (.ref z), some (.ref (z + 157)), some (.int (nI i))] [] (MH E (RO E h0 z O) (z + 157) D) := by
  obtain ⟨x, O1, hc, hr⟩ := ag_teach (xs (i + 1)) (xs (i + 2)) E z (z + 157) O D hR
  refine qx_aload_n dL_law_460 rfl ?_
  refine qx_aload_n dL_law_461 rfl ?_
  refine qx_iload_n dL_law_462 rfl ?_
  refine qx_iconst (v := nI 1) dL_law_463 (by decide) ?_
  refine qx_iaddN dL_law_464 ?_
  refine qx_sld dL_law_465 (by omega) hL ?_
  refine qx_aload_n dL_law_466 rfl ?_
  refine qx_iload_n dL_law_467 rfl ?_
  refine qx_iconst (v := nI 2) dL_law_468 (by decide) ?_
  refine qx_iaddN dL_law_469 ?_
  refine qx_sld dL_law_470 (by omega) hL ?_
  refine qx_heap lw_swap ?_
  refine qx_callV (M2 := mX5_teach) (hc (MH E h0 (z + 157) D)) mw_X5_teach wm_X5_teach we_X5_teach ml_L_57 dL_law_471 RO_obj rfl (by decide) rfl rfl (Nat.le_of_ble_eq_true rfl) (by decide) (fun v h2 hq => ?_)
  obtain ⟨rfl, O2, hO, rfl⟩ := hq
  refine qx_heap lw_swap.symm ?_
  refine qx_aload_n dL_law_474 rfl ?_
  refine qx_aload_n dL_law_475 rfl ?_
  refine qx_iload_n dL_law_476 rfl ?_
  refine qx_iconst (v := nI 1) dL_law_477 (by decide) ?_
  refine qx_iaddN dL_law_478 ?_
  refine qx_sld dL_law_479 (by omega) hL ?_
  refine qx_aload_n dL_law_480 rfl ?_
  refine qx_iload_n dL_law_481 rfl ?_
  refine qx_iconst (v := nI 2) dL_law_482 (by decide) ?_
  refine qx_iaddN dL_law_483 ?_
  refine qx_sld dL_law_484 (by omega) hL ?_
  refine qx_callV (M2 := mX6_teach) (hr (RO E h0 z O2)) mw_X6_teach wm_X6_teach we_X6_teach ml_L_60 dL_law_485 MH_obj rfl (by decide) rfl rfl (Nat.le_of_ble_eq_true rfl) (by decide) (fun v h2 hq => ?_)
  obtain ⟨rfl, D2, hR2, rfl⟩ := hq
  refine qx_icmp_eq 1251 dL_law_488 (by decide) (fun _ => ?_) (fun z => absurd rfl z)
  exact kk O2 D2 (hO D2 hR2)
set_option maxHeartbeats 4000000 in
set_option maxRecDepth 100000 in
theorem lc_11 {E : xE} {b0 L0 : Nat} {xs : Nat → Int32} {h0 : xHp} {z i : Nat} (hL : L0 ≤ 3584) (hi : i + 7 ≤ L0) (kk : ∀ (O : xO) (D : xMd), Rel O D → LW E b0 L0 xs 167 2192 1251 [some (.ref b0), some (.ref z), some (.ref (z + 157)), some (.int (nI i))] [] (MH E (RO E h0 z O) (z + 157) D)) (O : xO) (D : xMd) (hR : Rel O D) : LW E b0 L0 xs 167 2192 493 [some (.ref b0), some (.ref z), some (.ref (z + 157)), some (.int (nI i))] [] (MH E (RO E h0 z O) (z + 157) D) := by
  obtain ⟨x, O1, hc, hr⟩ := ag_drift (xs (i + 1)) E z (z + 157) O D hR
  refine qx_aload_n dL_law_493 rfl ?_
  refine qx_aload_n dL_law_494 rfl ?_
  refine qx_iload_n dL_law_495 rfl ?_
  refine qx_iconst (v := nI 1) dL_law_496 (by decide) ?_
  refine qx_iaddN dL_law_497 ?_
  refine qx_sld dL_law_498 (by omega) hL ?_
  refine qx_heap lw_swap ?_
  refine qx_callV (M2 := mX5_drift) (hc (MH E h0 (z + 157) D)) mw_X5_drift wm_X5_drift we_X5_drift ml_L_61 dL_law_499 RO_obj rfl (by decide) rfl rfl (Nat.le_of_ble_eq_true rfl) (by decide) (fun v h2 hq => ?_)
  obtain ⟨rfl, O2, hO, rfl⟩ := hq
  refine qx_heap lw_swap.symm ?_
  refine qx_aload_n dL_law_502 rfl ?_
  refine qx_aload_n dL_law_503 rfl ?_
  refine qx_iload_n dL_law_504 rfl ?_
  refine qx_iconst (v := nI 1) dL_law_505 (by decide) ?_
  refine qx_iaddN dL_law_506 ?_
  refine qx_sld dL_law_507 (by omega) hL ?_
  refine qx_callV (M2 := mX6_drift) (hr (RO E h0 z O2)) mw_X6_drift wm_X6_drift we_X6_drift ml_L_64 dL_law_508 MH_obj rfl (by decide) rfl rfl (Nat.le_of_ble_eq_true rfl) (by decide) (fun v h2 hq => ?_)
  obtain ⟨rfl, D2, hR2, rfl⟩ := hq
  refine qx_icmp_eq 1251 dL_law_511 (by decide) (fun _ => ?_) (fun z => absurd rfl z)
  exact kk O2 D2 (hO D2 hR2)
set_option maxHeartbeats 4000000 in
set_option maxRecDepth 100000 in
theorem lc_12 {E : xE} {b0 L0 : Nat} {xs : Nat → Int32} {h0 : xHp} {z i : Nat} (hL : L0 ≤ 3584) (hi : i + 7 ≤ L0) (kk : ∀ (O : xO) (D : xMd), Rel O D → LW E b0 L0 xs 167 2192 1251 [some (.ref b0), some (.ref z), some (.ref (z + 157)), some (.int (nI i))] [] (MH E (RO E h0 z O) (z + 157) D)) (O : xO) (D : xMd) (hR : Rel O D) : LW E b0 L0 xs 167 2192 516 [some (.ref b0), some (.ref z), some (.ref (z + 157)), some (.int (nI i))] [] (MH E (RO E h0 z O) (z + 157) D) := by
  obtain ⟨x, O1, hc, hr⟩ := ag_undo  E z (z + 157) O D hR
  refine qx_aload_n dL_law_516 rfl ?_
  refine qx_heap lw_swap ?_
  refine qx_callV (M2 := mX5_undo) (hc (MH E h0 (z + 157) D)) mw_X5_undo wm_X5_undo we_X5_undo ml_L_65 dL_law_517 RO_obj rfl (by decide) rfl rfl (Nat.le_of_ble_eq_true rfl) (by decide) (fun v h2 hq => ?_)
  obtain ⟨rfl, O2, hO, rfl⟩ := hq
  refine qx_heap lw_swap.symm ?_
  refine qx_aload_n dL_law_520 rfl ?_
  refine qx_callV (M2 := mX6_undo) (hr (RO E h0 z O2)) mw_X6_undo wm_X6_undo we_X6_undo ml_L_68 dL_law_521 MH_obj rfl (by decide) rfl rfl (Nat.le_of_ble_eq_true rfl) (by decide) (fun v h2 hq => ?_)
  obtain ⟨rfl, D2, hR2, rfl⟩ := hq
  refine qx_icmp_eq 1251 dL_law_524 (by decide) (fun _ => ?_) (fun z => absurd rfl z)
  exact kk O2 D2 (hO D2 hR2)
set_option maxHeartbeats 4000000 in
set_option maxRecDepth 100000 in
theorem lc_13 {E : xE} {b0 L0 : Nat} {xs : Nat → Int32} {h0 : xHp} {z i : Nat} (hL : L0 ≤ 3584) (hi : i + 7 ≤ L0) (kk : ∀ (O : xO) (D : xMd), Rel O D → LW E b0 L0 xs 167 2192 1251 [some (.ref b0), some (.ref z), some (.ref (z + 157)), some (.int (nI i))] [] (MH E (RO E h0 z O) (z + 157) D)) (O : xO) (D : xMd) (hR : Rel O D) : LW E b0 L0 xs 167 2192 529 [some (.ref b0), some (.ref z), some (.ref (z + 157)), some (.int (nI i))] [] (MH E (RO E h0 z O) (z + 157) D) := by
  obtain ⟨x, O1, hc, hr⟩ := ag_seed (xs (i + 1)) E z (z + 157) O D hR
  refine qx_aload_n dL_law_529 rfl ?_
  refine qx_aload_n dL_law_530 rfl ?_
  refine qx_iload_n dL_law_531 rfl ?_
  refine qx_iconst (v := nI 1) dL_law_532 (by decide) ?_
  refine qx_iaddN dL_law_533 ?_
  refine qx_sld dL_law_534 (by omega) hL ?_
  refine qx_heap lw_swap ?_
  refine qx_callV (M2 := mX5_seed) (hc (MH E h0 (z + 157) D)) mw_X5_seed wm_X5_seed we_X5_seed ml_L_69 dL_law_535 RO_obj rfl (by decide) rfl rfl (Nat.le_of_ble_eq_true rfl) (by decide) (fun v h2 hq => ?_)
  obtain ⟨rfl, O2, hO, rfl⟩ := hq
  refine qx_heap lw_swap.symm ?_
  refine qx_aload_n dL_law_538 rfl ?_
  refine qx_aload_n dL_law_539 rfl ?_
  refine qx_iload_n dL_law_540 rfl ?_
  refine qx_iconst (v := nI 1) dL_law_541 (by decide) ?_
  refine qx_iaddN dL_law_542 ?_
  refine qx_sld dL_law_543 (by omega) hL ?_
  refine qx_callV (M2 := mX6_seed) (hr (RO E h0 z O2)) mw_X6_seed wm_X6_seed we_X6_seed ml_L_72 dL_law_544 MH_obj rfl (by decide) rfl rfl (Nat.le_of_ble_eq_true rfl) (by decide) (fun v h2 hq => ?_)
  obtain ⟨rfl, D2, hR2, rfl⟩ := hq
  refine qx_icmp_eq 1251 dL_law_547 (by decide) (fun _ => ?_) (fun z => absurd rfl z)
  exact kk O2 D2 (hO D2 hR2)
set_option maxHeartbeats 4000000 in
set_option maxRecDepth 100000 in
theorem lc_14 {E : xE} {b0 L0 : Nat} {xs : Nat → Int32} {h0 : xHp} {z i : Nat} (hL : L0 ≤ 3584) (hi : i + 7 ≤ L0) (kk : ∀ (O : xO) (D : xMd), Rel O D → LW E b0 L0 xs 167 2192 1251 [some (.ref b0), some (.ref z), some (.ref (z + 157)), some (.int (nI i))] [] (MH E (RO E h0 z O) (z + 157) D)) (O : xO) (D : xMd) (hR : Rel O D) : LW E b0 L0 xs 167 2192 552 [some (.ref b0), some (.ref z), some (.ref (z + 157)), some (.int (nI i))] [] (MH E (RO E h0 z O) (z + 157) D) := by
  obtain ⟨x, O1, hc, hr⟩ := ag_ahead (xs (i + 1)) (xs (i + 2)) E z (z + 157) O D hR
  refine qx_aload_n dL_law_552 rfl ?_
  refine qx_aload_n dL_law_553 rfl ?_
  refine qx_iload_n dL_law_554 rfl ?_
  refine qx_iconst (v := nI 1) dL_law_555 (by decide) ?_
  refine qx_iaddN dL_law_556 ?_
  refine qx_sld dL_law_557 (by omega) hL ?_
  refine qx_aload_n dL_law_558 rfl ?_
  refine qx_iload_n dL_law_559 rfl ?_
  refine qx_iconst (v := nI 2) dL_law_560 (by decide) ?_
  refine qx_iaddN dL_law_561 ?_
  refine qx_sld dL_law_562 (by omega) hL ?_
  refine qx_heap lw_swap ?_
  refine qx_callV (M2 := mX5_ahead) (hc (MH E h0 (z + 157) D)) mw_X5_ahead wm_X5_ahead we_X5_ahead ml_L_73 dL_law_563 RO_obj rfl (by decide) rfl rfl (Nat.le_of_ble_eq_true rfl) (by decide) (fun v h2 hq => ?_)
  obtain ⟨rfl, O2, hO, rfl⟩ := hq
  refine qx_heap lw_swap.symm ?_
  refine qx_aload_n dL_law_566 rfl ?_
  refine qx_aload_n dL_law_567 rfl ?_
  refine qx_iload_n dL_law_568 rfl ?_
  refine qx_iconst (v := nI 1) dL_law_569 (by decide) ?_
  refine qx_iaddN dL_law_570 ?_
  refine qx_sld dL_law_571 (by omega) hL ?_
  refine qx_aload_n dL_law_572 rfl ?_
  refine qx_iload_n dL_law_573 rfl ?_
  refine qx_iconst (v := nI 2) dL_law_574 (by decide) ?_
  refine qx_iaddN dL_law_575 ?_
  refine qx_sld dL_law_576 (by omega) hL ?_
  refine qx_callV (M2 := mX6_ahead) (hr (RO E h0 z O2)) mw_X6_ahead wm_X6_ahead we_X6_ahead ml_L_76 dL_law_577 MH_obj rfl (by decide) rfl rfl (Nat.le_of_ble_eq_true rfl) (by decide) (fun v h2 hq => ?_)
  obtain ⟨rfl, D2, hR2, rfl⟩ := hq
  refine qx_icmp_eq 1251 dL_law_580 (by decide) (fun _ => ?_) (fun z => absurd rfl z)
  exact kk O2 D2 (hO D2 hR2)
set_option maxHeartbeats 4000000 in
set_option maxRecDepth 100000 in
theorem lc_15 {E : xE} {b0 L0 : Nat} {xs : Nat → Int32} {h0 : xHp} {z i : Nat} (hL : L0 ≤ 3584) (hi : i + 7 ≤ L0) (kk : ∀ (O : xO) (D : xMd), Rel O D → LW E b0 L0 xs 167 2192 1251 [some (.ref b0), some (.ref z), some (.ref (z + 157)), some (.int (nI i))] [] (MH E (RO E h0 z O) (z + 157) D)) (O : xO) (D : xMd) (hR : Rel O D) : LW E b0 L0 xs 167 2192 585 [some (.ref b0), some (.ref z), some (.ref (z + 157)), some (.int (nI i))] [] (MH E (RO E h0 z O) (z + 157) D) := by
  obtain ⟨x, O1, hc, hr⟩ := ag_then (xs (i + 1)) E z (z + 157) O D hR
  refine qx_aload_n dL_law_585 rfl ?_
  refine qx_aload_n dL_law_586 rfl ?_
  refine qx_iload_n dL_law_587 rfl ?_
  refine qx_iconst (v := nI 1) dL_law_588 (by decide) ?_
  refine qx_iaddN dL_law_589 ?_
  refine qx_sld dL_law_590 (by omega) hL ?_
  refine qx_heap lw_swap ?_
  refine qx_callV (M2 := mX5_then) (hc (MH E h0 (z + 157) D)) mw_X5_then wm_X5_then we_X5_then ml_L_77 dL_law_591 RO_obj rfl (by decide) rfl rfl (Nat.le_of_ble_eq_true rfl) (by decide) (fun v h2 hq => ?_)
  obtain ⟨rfl, O2, hO, rfl⟩ := hq
  refine qx_heap lw_swap.symm ?_
  refine qx_aload_n dL_law_594 rfl ?_
  refine qx_aload_n dL_law_595 rfl ?_
  refine qx_iload_n dL_law_596 rfl ?_
  refine qx_iconst (v := nI 1) dL_law_597 (by decide) ?_
  refine qx_iaddN dL_law_598 ?_
  refine qx_sld dL_law_599 (by omega) hL ?_
  refine qx_callV (M2 := mX6_then) (hr (RO E h0 z O2)) mw_X6_then wm_X6_then we_X6_then ml_L_80 dL_law_600 MH_obj rfl (by decide) rfl rfl (Nat.le_of_ble_eq_true rfl) (by decide) (fun v h2 hq => ?_)
  obtain ⟨rfl, D2, hR2, rfl⟩ := hq
  refine qx_icmp_eq 1251 dL_law_603 (by decide) (fun _ => ?_) (fun z => absurd rfl z)
  exact kk O2 D2 (hO D2 hR2)
set_option maxHeartbeats 4000000 in
set_option maxRecDepth 100000 in
theorem lc_16 {E : xE} {b0 L0 : Nat} {xs : Nat → Int32} {h0 : xHp} {z i : Nat} (hL : L0 ≤ 3584) (hi : i + 7 ≤ L0) (kk : ∀ (O : xO) (D : xMd), Rel O D → LW E b0 L0 xs 167 2192 1251 [some (.ref b0), some (.ref z), some (.ref (z + 157)), some (.int (nI i))] [] (MH E (RO E h0 z O) (z + 157) D)) (O : xO) (D : xMd) (hR : Rel O D) : LW E b0 L0 xs 167 2192 608 [some (.ref b0), some (.ref z), some (.ref (z + 157)), some (.int (nI i))] [] (MH E (RO E h0 z O) (z + 157) D) := by
  obtain ⟨x, O1, hc, hr⟩ := ag_sworn (xs (i + 1)) E z (z + 157) O D hR
  refine qx_aload_n dL_law_608 rfl ?_
  refine qx_aload_n dL_law_609 rfl ?_
  refine qx_iload_n dL_law_610 rfl ?_
  refine qx_iconst (v := nI 1) dL_law_611 (by decide) ?_
  refine qx_iaddN dL_law_612 ?_
  refine qx_sld dL_law_613 (by omega) hL ?_
  refine qx_heap lw_swap ?_
  refine qx_callV (M2 := mX5_sworn) (hc (MH E h0 (z + 157) D)) mw_X5_sworn wm_X5_sworn we_X5_sworn ml_L_81 dL_law_614 RO_obj rfl (by decide) rfl rfl (Nat.le_of_ble_eq_true rfl) (by decide) (fun v h2 hq => ?_)
  obtain ⟨rfl, O2, hO, rfl⟩ := hq
  refine qx_heap lw_swap.symm ?_
  refine qx_aload_n dL_law_617 rfl ?_
  refine qx_aload_n dL_law_618 rfl ?_
  refine qx_iload_n dL_law_619 rfl ?_
  refine qx_iconst (v := nI 1) dL_law_620 (by decide) ?_
  refine qx_iaddN dL_law_621 ?_
  refine qx_sld dL_law_622 (by omega) hL ?_
  refine qx_callV (M2 := mX6_sworn) (hr (RO E h0 z O2)) mw_X6_sworn wm_X6_sworn we_X6_sworn ml_L_84 dL_law_623 MH_obj rfl (by decide) rfl rfl (Nat.le_of_ble_eq_true rfl) (by decide) (fun v h2 hq => ?_)
  obtain ⟨rfl, D2, hR2, rfl⟩ := hq
  refine qx_icmp_eq 1251 dL_law_626 (by decide) (fun _ => ?_) (fun z => absurd rfl z)
  exact kk O2 D2 (hO D2 hR2)
set_option maxHeartbeats 4000000 in
set_option maxRecDepth 100000 in
theorem lc_17 {E : xE} {b0 L0 : Nat} {xs : Nat → Int32} {h0 : xHp} {z i : Nat} (hL : L0 ≤ 3584) (hi : i + 7 ≤ L0) (kk : ∀ (O : xO) (D : xMd), Rel O D → LW E b0 L0 xs 167 2192 1251 [some (.ref b0), some (.ref z), some (.ref (z + 157)), some (.int (nI i))] [] (MH E (RO E h0 z O) (z + 157) D)) (O : xO) (D : xMd) (hR : Rel O D) : LW E b0 L0 xs 167 2192 631 [some (.ref b0), some (.ref z), some (.ref (z + 157)), some (.int (nI i))] [] (MH E (RO E h0 z O) (z + 157) D) := by
  obtain ⟨x, O1, hc, hr⟩ := ag_robs (xs (i + 1)) E z (z + 157) O D hR
  refine qx_aload_n dL_law_631 rfl ?_
  refine qx_aload_n dL_law_632 rfl ?_
  refine qx_iload_n dL_law_633 rfl ?_
  refine qx_iconst (v := nI 1) dL_law_634 (by decide) ?_
  refine qx_iaddN dL_law_635 ?_
  refine qx_sld dL_law_636 (by omega) hL ?_
  refine qx_heap lw_swap ?_
  refine qx_callV (M2 := mX5_robs) (hc (MH E h0 (z + 157) D)) mw_X5_robs wm_X5_robs we_X5_robs ml_L_85 dL_law_637 RO_obj rfl (by decide) rfl rfl (Nat.le_of_ble_eq_true rfl) (by decide) (fun v h2 hq => ?_)
  obtain ⟨rfl, O2, hO, rfl⟩ := hq
  refine qx_heap lw_swap.symm ?_
  refine qx_aload_n dL_law_640 rfl ?_
  refine qx_aload_n dL_law_641 rfl ?_
  refine qx_iload_n dL_law_642 rfl ?_
  refine qx_iconst (v := nI 1) dL_law_643 (by decide) ?_
  refine qx_iaddN dL_law_644 ?_
  refine qx_sld dL_law_645 (by omega) hL ?_
  refine qx_callV (M2 := mX6_robs) (hr (RO E h0 z O2)) mw_X6_robs wm_X6_robs we_X6_robs ml_L_88 dL_law_646 MH_obj rfl (by decide) rfl rfl (Nat.le_of_ble_eq_true rfl) (by decide) (fun v h2 hq => ?_)
  obtain ⟨rfl, D2, hR2, rfl⟩ := hq
  refine qx_icmp_eq 1251 dL_law_649 (by decide) (fun _ => ?_) (fun z => absurd rfl z)
  exact kk O2 D2 (hO D2 hR2)
set_option maxHeartbeats 4000000 in
set_option maxRecDepth 100000 in
theorem lc_18 {E : xE} {b0 L0 : Nat} {xs : Nat → Int32} {h0 : xHp} {z i : Nat} (hL : L0 ≤ 3584) (hi : i + 7 ≤ L0) (kk : ∀ (O : xO) (D : xMd), Rel O D → LW E b0 L0 xs 167 2192 1251 [some (.ref b0), some (.ref z), some (.ref (z + 157)), some (.int (nI i))] [] (MH E (RO E h0 z O) (z + 157) D)) (O : xO) (D : xMd) (hR : Rel O D) : LW E b0 L0 xs 167 2192 654 [some (.ref b0), some (.ref z), some (.ref (z + 157)), some (.int (nI i))] [] (MH E (RO E h0 z O) (z + 157) D) := by
  obtain ⟨x, O1, hc, hr⟩ := ag_hides (xs (i + 1)) (xs (i + 2)) E z (z + 157) O D hR
  refine qx_aload_n dL_law_654 rfl ?_
  refine qx_aload_n dL_law_655 rfl ?_
  refine qx_iload_n dL_law_656 rfl ?_
  refine qx_iconst (v := nI 1) dL_law_657 (by decide) ?_
  refine qx_iaddN dL_law_658 ?_
  refine qx_sld dL_law_659 (by omega) hL ?_
  refine qx_aload_n dL_law_660 rfl ?_
  refine qx_iload_n dL_law_661 rfl ?_
  refine qx_iconst (v := nI 2) dL_law_662 (by decide) ?_
  refine qx_iaddN dL_law_663 ?_
  refine qx_sld dL_law_664 (by omega) hL ?_
  refine qx_heap lw_swap ?_
  refine qx_callV (M2 := mX5_hides) (hc (MH E h0 (z + 157) D)) mw_X5_hides wm_X5_hides we_X5_hides ml_L_89 dL_law_665 RO_obj rfl (by decide) rfl rfl (Nat.le_of_ble_eq_true rfl) (by decide) (fun v h2 hq => ?_)
  obtain ⟨rfl, O2, hO, rfl⟩ := hq
  refine qx_heap lw_swap.symm ?_
  refine qx_aload_n dL_law_668 rfl ?_
  refine qx_aload_n dL_law_669 rfl ?_
  refine qx_iload_n dL_law_670 rfl ?_
  refine qx_iconst (v := nI 1) dL_law_671 (by decide) ?_
  refine qx_iaddN dL_law_672 ?_
  refine qx_sld dL_law_673 (by omega) hL ?_
  refine qx_aload_n dL_law_674 rfl ?_
  refine qx_iload_n dL_law_675 rfl ?_
  refine qx_iconst (v := nI 2) dL_law_676 (by decide) ?_
  refine qx_iaddN dL_law_677 ?_
  refine qx_sld dL_law_678 (by omega) hL ?_
  refine qx_callV (M2 := mX6_hides) (hr (RO E h0 z O2)) mw_X6_hides wm_X6_hides we_X6_hides ml_L_92 dL_law_679 MH_obj rfl (by decide) rfl rfl (Nat.le_of_ble_eq_true rfl) (by decide) (fun v h2 hq => ?_)
  obtain ⟨rfl, D2, hR2, rfl⟩ := hq
  refine qx_icmp_eq 1251 dL_law_682 (by decide) (fun _ => ?_) (fun z => absurd rfl z)
  exact kk O2 D2 (hO D2 hR2)
set_option maxHeartbeats 4000000 in
set_option maxRecDepth 100000 in
theorem lc_19 {E : xE} {b0 L0 : Nat} {xs : Nat → Int32} {h0 : xHp} {z i : Nat} (hL : L0 ≤ 3584) (hi : i + 7 ≤ L0) (kk : ∀ (O : xO) (D : xMd), Rel O D → LW E b0 L0 xs 167 2192 1251 [some (.ref b0), some (.ref z), some (.ref (z + 157)), some (.int (nI i))] [] (MH E (RO E h0 z O) (z + 157) D)) (O : xO) (D : xMd) (hR : Rel O D) : LW E b0 L0 xs 167 2192 687 [some (.ref b0), some (.ref z), some (.ref (z + 157)), some (.int (nI i))] [] (MH E (RO E h0 z O) (z + 157) D) := by
  obtain ⟨x, O1, hc, hr⟩ := ag_cover (xs (i + 1)) (xs (i + 2)) (xs (i + 3)) E z (z + 157) O D hR
  refine qx_aload_n dL_law_687 rfl ?_
  refine qx_aload_n dL_law_688 rfl ?_
  refine qx_iload_n dL_law_689 rfl ?_
  refine qx_iconst (v := nI 1) dL_law_690 (by decide) ?_
  refine qx_iaddN dL_law_691 ?_
  refine qx_sld dL_law_692 (by omega) hL ?_
  refine qx_aload_n dL_law_693 rfl ?_
  refine qx_iload_n dL_law_694 rfl ?_
  refine qx_iconst (v := nI 2) dL_law_695 (by decide) ?_
  refine qx_iaddN dL_law_696 ?_
  refine qx_sld dL_law_697 (by omega) hL ?_
  refine qx_aload_n dL_law_698 rfl ?_
  refine qx_iload_n dL_law_699 rfl ?_
  refine qx_iconst (v := nI 3) dL_law_700 (by decide) ?_
  refine qx_iaddN dL_law_701 ?_
  refine qx_sld dL_law_702 (by omega) hL ?_
  refine qx_heap lw_swap ?_
  refine qx_callV (M2 := mX5_cover) (hc (MH E h0 (z + 157) D)) mw_X5_cover wm_X5_cover we_X5_cover ml_L_93 dL_law_703 RO_obj rfl (by decide) rfl rfl (Nat.le_of_ble_eq_true rfl) (by decide) (fun v h2 hq => ?_)
  obtain ⟨rfl, O2, hO, rfl⟩ := hq
  refine qx_heap lw_swap.symm ?_
  refine qx_aload_n dL_law_706 rfl ?_
  refine qx_aload_n dL_law_707 rfl ?_
  refine qx_iload_n dL_law_708 rfl ?_
  refine qx_iconst (v := nI 1) dL_law_709 (by decide) ?_
  refine qx_iaddN dL_law_710 ?_
  refine qx_sld dL_law_711 (by omega) hL ?_
  refine qx_aload_n dL_law_712 rfl ?_
  refine qx_iload_n dL_law_713 rfl ?_
  refine qx_iconst (v := nI 2) dL_law_714 (by decide) ?_
  refine qx_iaddN dL_law_715 ?_
  refine qx_sld dL_law_716 (by omega) hL ?_
  refine qx_aload_n dL_law_717 rfl ?_
  refine qx_iload_n dL_law_718 rfl ?_
  refine qx_iconst (v := nI 3) dL_law_719 (by decide) ?_
  refine qx_iaddN dL_law_720 ?_
  refine qx_sld dL_law_721 (by omega) hL ?_
  refine qx_callV (M2 := mX6_cover) (hr (RO E h0 z O2)) mw_X6_cover wm_X6_cover we_X6_cover ml_L_96 dL_law_722 MH_obj rfl (by decide) rfl rfl (Nat.le_of_ble_eq_true rfl) (by decide) (fun v h2 hq => ?_)
  obtain ⟨rfl, D2, hR2, rfl⟩ := hq
  refine qx_icmp_eq 1251 dL_law_725 (by decide) (fun _ => ?_) (fun z => absurd rfl z)
  exact kk O2 D2 (hO D2 hR2)
set_option maxHeartbeats 4000000 in
set_option maxRecDepth 100000 in
theorem lc_20 {E : xE} {b0 L0 : Nat} {xs : Nat → Int32} {h0 : xHp} {z i : Nat} (hL : L0 ≤ 3584) (hi : i + 7 ≤ L0) (kk : ∀ (O : xO) (D : xMd), Rel O D → LW E b0 L0 xs 167 2192 1251 [some (.ref b0), some (.ref z), some (.ref (z + 157)), some (.int (nI i))] [] (MH E (RO E h0 z O) (z + 157) D)) (O : xO) (D : xMd) (hR : Rel O D) : LW E b0 L0 xs 167 2192 730 [some (.ref b0), some (.ref z), some (.ref (z + 157)), some (.int (nI i))] [] (MH E (RO E h0 z O) (z + 157) D) := by
  obtain ⟨x, O1, hc, hr⟩ := ag_low (xs (i + 1)) E z (z + 157) O D hR
  refine qx_aload_n dL_law_730 rfl ?_
  refine qx_aload_n dL_law_731 rfl ?_
  refine qx_iload_n dL_law_732 rfl ?_
  refine qx_iconst (v := nI 1) dL_law_733 (by decide) ?_
  refine qx_iaddN dL_law_734 ?_
  refine qx_sld dL_law_735 (by omega) hL ?_
  refine qx_heap lw_swap ?_
  refine qx_callV (M2 := mX5_low) (hc (MH E h0 (z + 157) D)) mw_X5_low wm_X5_low we_X5_low ml_L_97 dL_law_736 RO_obj rfl (by decide) rfl rfl (Nat.le_of_ble_eq_true rfl) (by decide) (fun v h2 hq => ?_)
  obtain ⟨rfl, O2, hO, rfl⟩ := hq
  refine qx_heap lw_swap.symm ?_
  refine qx_aload_n dL_law_739 rfl ?_
  refine qx_aload_n dL_law_740 rfl ?_
  refine qx_iload_n dL_law_741 rfl ?_
  refine qx_iconst (v := nI 1) dL_law_742 (by decide) ?_
  refine qx_iaddN dL_law_743 ?_
  refine qx_sld dL_law_744 (by omega) hL ?_
  refine qx_callV (M2 := mX6_low) (hr (RO E h0 z O2)) mw_X6_low wm_X6_low we_X6_low ml_L_100 dL_law_745 MH_obj rfl (by decide) rfl rfl (Nat.le_of_ble_eq_true rfl) (by decide) (fun v h2 hq => ?_)
  obtain ⟨rfl, D2, hR2, rfl⟩ := hq
  refine qx_icmp_eq 1251 dL_law_748 (by decide) (fun _ => ?_) (fun z => absurd rfl z)
  exact kk O2 D2 (hO D2 hR2)
set_option maxHeartbeats 4000000 in
set_option maxRecDepth 100000 in
theorem lc_21 {E : xE} {b0 L0 : Nat} {xs : Nat → Int32} {h0 : xHp} {z i : Nat} (hL : L0 ≤ 3584) (hi : i + 7 ≤ L0) (kk : ∀ (O : xO) (D : xMd), Rel O D → LW E b0 L0 xs 167 2192 1251 [some (.ref b0), some (.ref z), some (.ref (z + 157)), some (.int (nI i))] [] (MH E (RO E h0 z O) (z + 157) D)) (O : xO) (D : xMd) (hR : Rel O D) : LW E b0 L0 xs 167 2192 753 [some (.ref b0), some (.ref z), some (.ref (z + 157)), some (.int (nI i))] [] (MH E (RO E h0 z O) (z + 157) D) := by
  obtain ⟨x, O1, hc, hr⟩ := ag_spare (xs (i + 1)) (xs (i + 2)) E z (z + 157) O D hR
  refine qx_aload_n dL_law_753 rfl ?_
  refine qx_aload_n dL_law_754 rfl ?_
  refine qx_iload_n dL_law_755 rfl ?_
  refine qx_iconst (v := nI 1) dL_law_756 (by decide) ?_
  refine qx_iaddN dL_law_757 ?_
  refine qx_sld dL_law_758 (by omega) hL ?_
  refine qx_aload_n dL_law_759 rfl ?_
  refine qx_iload_n dL_law_760 rfl ?_
  refine qx_iconst (v := nI 2) dL_law_761 (by decide) ?_
  refine qx_iaddN dL_law_762 ?_
  refine qx_sld dL_law_763 (by omega) hL ?_
  refine qx_heap lw_swap ?_
  refine qx_callV (M2 := mX5_spare) (hc (MH E h0 (z + 157) D)) mw_X5_spare wm_X5_spare we_X5_spare ml_L_101 dL_law_764 RO_obj rfl (by decide) rfl rfl (Nat.le_of_ble_eq_true rfl) (by decide) (fun v h2 hq => ?_)
  obtain ⟨rfl, O2, hO, rfl⟩ := hq
  refine qx_heap lw_swap.symm ?_
  refine qx_aload_n dL_law_767 rfl ?_
  refine qx_aload_n dL_law_768 rfl ?_
  refine qx_iload_n dL_law_769 rfl ?_
  refine qx_iconst (v := nI 1) dL_law_770 (by decide) ?_
  refine qx_iaddN dL_law_771 ?_
  refine qx_sld dL_law_772 (by omega) hL ?_
  refine qx_aload_n dL_law_773 rfl ?_
  refine qx_iload_n dL_law_774 rfl ?_
  refine qx_iconst (v := nI 2) dL_law_775 (by decide) ?_
  refine qx_iaddN dL_law_776 ?_
  refine qx_sld dL_law_777 (by omega) hL ?_
  refine qx_callV (M2 := mX6_spare) (hr (RO E h0 z O2)) mw_X6_spare wm_X6_spare we_X6_spare ml_L_104 dL_law_778 MH_obj rfl (by decide) rfl rfl (Nat.le_of_ble_eq_true rfl) (by decide) (fun v h2 hq => ?_)
  obtain ⟨rfl, D2, hR2, rfl⟩ := hq
  refine qx_icmp_eq 1251 dL_law_781 (by decide) (fun _ => ?_) (fun z => absurd rfl z)
  exact kk O2 D2 (hO D2 hR2)
set_option maxHeartbeats 4000000 in
set_option maxRecDepth 100000 in
theorem lc_22 {E : xE} {b0 L0 : Nat} {xs : Nat → Int32} {h0 : xHp} {z i : Nat} (hL : L0 ≤ 3584) (hi : i + 7 ≤ L0) (kk : ∀ (O : xO) (D : xMd), Rel O D → LW E b0 L0 xs 167 2192 1251 [some (.ref b0), some (.ref z), some (.ref (z + 157)), some (.int (nI i))] [] (MH E (RO E h0 z O) (z + 157) D)) (O : xO) (D : xMd) (hR : Rel O D) : LW E b0 L0 xs 167 2192 786 [some (.ref b0), some (.ref z), some (.ref (z + 157)), some (.int (nI i))] [] (MH E (RO E h0 z O) (z + 157) D) := by
  obtain ⟨x, O1, hc, hr⟩ := ag_match  E z (z + 157) O D hR
  refine qx_aload_n dL_law_786 rfl ?_
  refine qx_heap lw_swap ?_
  refine qx_callV (M2 := mX5_match) (hc (MH E h0 (z + 157) D)) mw_X5_match wm_X5_match we_X5_match ml_L_105 dL_law_787 RO_obj rfl (by decide) rfl rfl (Nat.le_of_ble_eq_true rfl) (by decide) (fun v h2 hq => ?_)
  obtain ⟨rfl, O2, hO, rfl⟩ := hq
  refine qx_heap lw_swap.symm ?_
  refine qx_aload_n dL_law_790 rfl ?_
  refine qx_callV (M2 := mX6_match) (hr (RO E h0 z O2)) mw_X6_match wm_X6_match we_X6_match ml_L_108 dL_law_791 MH_obj rfl (by decide) rfl rfl (Nat.le_of_ble_eq_true rfl) (by decide) (fun v h2 hq => ?_)
  obtain ⟨rfl, D2, hR2, rfl⟩ := hq
  refine qx_icmp_eq 1251 dL_law_794 (by decide) (fun _ => ?_) (fun z => absurd rfl z)
  exact kk O2 D2 (hO D2 hR2)
set_option maxHeartbeats 4000000 in
set_option maxRecDepth 100000 in
theorem lc_23 {E : xE} {b0 L0 : Nat} {xs : Nat → Int32} {h0 : xHp} {z i : Nat} (hL : L0 ≤ 3584) (hi : i + 7 ≤ L0) (kk : ∀ (O : xO) (D : xMd), Rel O D → LW E b0 L0 xs 167 2192 1251 [some (.ref b0), some (.ref z), some (.ref (z + 157)), some (.int (nI i))] [] (MH E (RO E h0 z O) (z + 157) D)) (O : xO) (D : xMd) (hR : Rel O D) : LW E b0 L0 xs 167 2192 799 [some (.ref b0), some (.ref z), some (.ref (z + 157)), some (.int (nI i))] [] (MH E (RO E h0 z O) (z + 157) D) := by
  obtain ⟨x, O1, hc, hr⟩ := ag_care (xs (i + 1)) (xs (i + 2)) E z (z + 157) O D hR
  refine qx_aload_n dL_law_799 rfl ?_
  refine qx_aload_n dL_law_800 rfl ?_
  refine qx_iload_n dL_law_801 rfl ?_
  refine qx_iconst (v := nI 1) dL_law_802 (by decide) ?_
  refine qx_iaddN dL_law_803 ?_
  refine qx_sld dL_law_804 (by omega) hL ?_
  refine qx_aload_n dL_law_805 rfl ?_
  refine qx_iload_n dL_law_806 rfl ?_
  refine qx_iconst (v := nI 2) dL_law_807 (by decide) ?_
  refine qx_iaddN dL_law_808 ?_
  refine qx_sld dL_law_809 (by omega) hL ?_
  refine qx_heap lw_swap ?_
  refine qx_callV (M2 := mX5_care) (hc (MH E h0 (z + 157) D)) mw_X5_care wm_X5_care we_X5_care ml_L_109 dL_law_810 RO_obj rfl (by decide) rfl rfl (Nat.le_of_ble_eq_true rfl) (by decide) (fun v h2 hq => ?_)
  obtain ⟨rfl, O2, hO, rfl⟩ := hq
  refine qx_heap lw_swap.symm ?_
  refine qx_aload_n dL_law_813 rfl ?_
  refine qx_aload_n dL_law_814 rfl ?_
  refine qx_iload_n dL_law_815 rfl ?_
  refine qx_iconst (v := nI 1) dL_law_816 (by decide) ?_
  refine qx_iaddN dL_law_817 ?_
  refine qx_sld dL_law_818 (by omega) hL ?_
  refine qx_aload_n dL_law_819 rfl ?_
  refine qx_iload_n dL_law_820 rfl ?_
  refine qx_iconst (v := nI 2) dL_law_821 (by decide) ?_
  refine qx_iaddN dL_law_822 ?_
  refine qx_sld dL_law_823 (by omega) hL ?_
  refine qx_callV (M2 := mX6_care) (hr (RO E h0 z O2)) mw_X6_care wm_X6_care we_X6_care ml_L_112 dL_law_824 MH_obj rfl (by decide) rfl rfl (Nat.le_of_ble_eq_true rfl) (by decide) (fun v h2 hq => ?_)
  obtain ⟨rfl, D2, hR2, rfl⟩ := hq
  refine qx_icmp_eq 1251 dL_law_827 (by decide) (fun _ => ?_) (fun z => absurd rfl z)
  exact kk O2 D2 (hO D2 hR2)
set_option maxHeartbeats 4000000 in
set_option maxRecDepth 100000 in
theorem lc_24 {E : xE} {b0 L0 : Nat} {xs : Nat → Int32} {h0 : xHp} {z i : Nat} (hL : L0 ≤ 3584) (hi : i + 7 ≤ L0) (kk : ∀ (O : xO) (D : xMd), Rel O D → LW E b0 L0 xs 167 2192 1251 [some (.ref b0), some (.ref z), some (.ref (z + 157)), some (.int (nI i))] [] (MH E (RO E h0 z O) (z + 157) D)) (O : xO) (D : xMd) (hR : Rel O D) : LW E b0 L0 xs 167 2192 832 [some (.ref b0), some (.ref z), some (.ref (z + 157)), some (.int (nI i))] [] (MH E (RO E h0 z O) (z + 157) D) := by
  obtain ⟨x, O1, hc, hr⟩ := ag_leave (xs (i + 1)) (xs (i + 2)) (xs (i + 3)) E z (z + 157) O D hR
  refine qx_aload_n dL_law_832 rfl ?_
  refine qx_aload_n dL_law_833 rfl ?_
  refine qx_iload_n dL_law_834 rfl ?_
  refine qx_iconst (v := nI 1) dL_law_835 (by decide) ?_
  refine qx_iaddN dL_law_836 ?_
  refine qx_sld dL_law_837 (by omega) hL ?_
  refine qx_aload_n dL_law_838 rfl ?_
  refine qx_iload_n dL_law_839 rfl ?_
  refine qx_iconst (v := nI 2) dL_law_840 (by decide) ?_
  refine qx_iaddN dL_law_841 ?_
  refine qx_sld dL_law_842 (by omega) hL ?_
  refine qx_aload_n dL_law_843 rfl ?_
  refine qx_iload_n dL_law_844 rfl ?_
  refine qx_iconst (v := nI 3) dL_law_845 (by decide) ?_
  refine qx_iaddN dL_law_846 ?_
  refine qx_sld dL_law_847 (by omega) hL ?_
  refine qx_heap lw_swap ?_
  refine qx_callV (M2 := mX5_leave) (hc (MH E h0 (z + 157) D)) mw_X5_leave wm_X5_leave we_X5_leave ml_L_113 dL_law_848 RO_obj rfl (by decide) rfl rfl (Nat.le_of_ble_eq_true rfl) (by decide) (fun v h2 hq => ?_)
  obtain ⟨rfl, O2, hO, rfl⟩ := hq
  refine qx_heap lw_swap.symm ?_
  refine qx_aload_n dL_law_851 rfl ?_
  refine qx_aload_n dL_law_852 rfl ?_
  refine qx_iload_n dL_law_853 rfl ?_
  refine qx_iconst (v := nI 1) dL_law_854 (by decide) ?_
  refine qx_iaddN dL_law_855 ?_
  refine qx_sld dL_law_856 (by omega) hL ?_
  refine qx_aload_n dL_law_857 rfl ?_
  refine qx_iload_n dL_law_858 rfl ?_
  refine qx_iconst (v := nI 2) dL_law_859 (by decide) ?_
  refine qx_iaddN dL_law_860 ?_
  refine qx_sld dL_law_861 (by omega) hL ?_
  refine qx_aload_n dL_law_862 rfl ?_
  refine qx_iload_n dL_law_863 rfl ?_
  refine qx_iconst (v := nI 3) dL_law_864 (by decide) ?_
  refine qx_iaddN dL_law_865 ?_
  refine qx_sld dL_law_866 (by omega) hL ?_
  refine qx_callV (M2 := mX6_leave) (hr (RO E h0 z O2)) mw_X6_leave wm_X6_leave we_X6_leave ml_L_116 dL_law_867 MH_obj rfl (by decide) rfl rfl (Nat.le_of_ble_eq_true rfl) (by decide) (fun v h2 hq => ?_)
  obtain ⟨rfl, D2, hR2, rfl⟩ := hq
  refine qx_icmp_eq 1251 dL_law_870 (by decide) (fun _ => ?_) (fun z => absurd rfl z)
  exact kk O2 D2 (hO D2 hR2)
set_option maxHeartbeats 4000000 in
set_option maxRecDepth 100000 in
theorem lc_25 {E : xE} {b0 L0 : Nat} {xs : Nat → Int32} {h0 : xHp} {z i : Nat} (hL : L0 ≤ 3584) (hi : i + 7 ≤ L0) (kk : ∀ (O : xO) (D : xMd), Rel O D → LW E b0 L0 xs 167 2192 1251 [some (.ref b0), some (.ref z), some (.ref (z + 157)), some (.int (nI i))] [] (MH E (RO E h0 z O) (z + 157) D)) (O : xO) (D : xMd) (hR : Rel O D) : LW E b0 L0 xs 167 2192 875 [some (.ref b0), some (.ref z), some (.ref (z + 157)), some (.int (nI i))] [] (MH E (RO E h0 z O) (z + 157) D) := by
  obtain ⟨x, O1, hc, hr⟩ := ag_image  E z (z + 157) O D hR
  refine qx_aload_n dL_law_875 rfl ?_
  refine qx_heap lw_swap ?_
  refine qx_callV (M2 := mX5_image) (hc (MH E h0 (z + 157) D)) mw_X5_image wm_X5_image we_X5_image ml_L_117 dL_law_876 RO_obj rfl (by decide) rfl rfl (Nat.le_of_ble_eq_true rfl) (by decide) (fun v h2 hq => ?_)
  obtain ⟨rfl, O2, hO, rfl⟩ := hq
  refine qx_heap lw_swap.symm ?_
  refine qx_aload_n dL_law_879 rfl ?_
  refine qx_callV (M2 := mX6_image) (hr (RO E h0 z O2)) mw_X6_image wm_X6_image we_X6_image ml_L_120 dL_law_880 MH_obj rfl (by decide) rfl rfl (Nat.le_of_ble_eq_true rfl) (by decide) (fun v h2 hq => ?_)
  obtain ⟨rfl, D2, hR2, rfl⟩ := hq
  refine qx_icmp_eq 1251 dL_law_883 (by decide) (fun _ => ?_) (fun z => absurd rfl z)
  exact kk O2 D2 (hO D2 hR2)
set_option maxHeartbeats 4000000 in
set_option maxRecDepth 100000 in
theorem lc_26 {E : xE} {b0 L0 : Nat} {xs : Nat → Int32} {h0 : xHp} {z i : Nat} (hL : L0 ≤ 3584) (hi : i + 7 ≤ L0) (kk : ∀ (O : xO) (D : xMd), Rel O D → LW E b0 L0 xs 167 2192 1251 [some (.ref b0), some (.ref z), some (.ref (z + 157)), some (.int (nI i))] [] (MH E (RO E h0 z O) (z + 157) D)) (O : xO) (D : xMd) (hR : Rel O D) : LW E b0 L0 xs 167 2192 888 [some (.ref b0), some (.ref z), some (.ref (z + 157)), some (.int (nI i))] [] (MH E (RO E h0 z O) (z + 157) D) := by
  obtain ⟨x, O1, hc, hr⟩ := ag_restore  E z (z + 157) O D hR
  refine qx_aload_n dL_law_888 rfl ?_
  refine qx_heap lw_swap ?_
  refine qx_callV (M2 := mX5_restore) (hc (MH E h0 (z + 157) D)) mw_X5_restore wm_X5_restore we_X5_restore ml_L_121 dL_law_889 RO_obj rfl (by decide) rfl rfl (Nat.le_of_ble_eq_true rfl) (by decide) (fun v h2 hq => ?_)
  obtain ⟨rfl, O2, hO, rfl⟩ := hq
  refine qx_heap lw_swap.symm ?_
  refine qx_aload_n dL_law_892 rfl ?_
  refine qx_callV (M2 := mX6_restore) (hr (RO E h0 z O2)) mw_X6_restore wm_X6_restore we_X6_restore ml_L_124 dL_law_893 MH_obj rfl (by decide) rfl rfl (Nat.le_of_ble_eq_true rfl) (by decide) (fun v h2 hq => ?_)
  obtain ⟨rfl, D2, hR2, rfl⟩ := hq
  refine qx_icmp_eq 1251 dL_law_896 (by decide) (fun _ => ?_) (fun z => absurd rfl z)
  exact kk O2 D2 (hO D2 hR2)
set_option maxHeartbeats 4000000 in
set_option maxRecDepth 100000 in
theorem lc_27 {E : xE} {b0 L0 : Nat} {xs : Nat → Int32} {h0 : xHp} {z i : Nat} (hL : L0 ≤ 3584) (hi : i + 7 ≤ L0) (kk : ∀ (O : xO) (D : xMd), Rel O D → LW E b0 L0 xs 167 2192 1251 [some (.ref b0), some (.ref z), some (.ref (z + 157)), some (.int (nI i))] [] (MH E (RO E h0 z O) (z + 157) D)) (O : xO) (D : xMd) (hR : Rel O D) : LW E b0 L0 xs 167 2192 901 [some (.ref b0), some (.ref z), some (.ref (z + 157)), some (.int (nI i))] [] (MH E (RO E h0 z O) (z + 157) D) := by
  obtain ⟨x, O1, hc, hr⟩ := ag_grown (xs (i + 1)) (xs (i + 2)) (xs (i + 3)) (xs (i + 4)) (xs (i + 5)) (xs (i + 6)) E z (z + 157) O D hR
  refine qx_aload_n dL_law_901 rfl ?_
  refine qx_aload_n dL_law_902 rfl ?_
  refine qx_iload_n dL_law_903 rfl ?_
  refine qx_iconst (v := nI 1) dL_law_904 (by decide) ?_
  refine qx_iaddN dL_law_905 ?_
  refine qx_sld dL_law_906 (by omega) hL ?_
  refine qx_aload_n dL_law_907 rfl ?_
  refine qx_iload_n dL_law_908 rfl ?_
  refine qx_iconst (v := nI 2) dL_law_909 (by decide) ?_
  refine qx_iaddN dL_law_910 ?_
  refine qx_sld dL_law_911 (by omega) hL ?_
  refine qx_aload_n dL_law_912 rfl ?_
  refine qx_iload_n dL_law_913 rfl ?_
  refine qx_iconst (v := nI 3) dL_law_914 (by decide) ?_
  refine qx_iaddN dL_law_915 ?_
  refine qx_sld dL_law_916 (by omega) hL ?_
  refine qx_aload_n dL_law_917 rfl ?_
  refine qx_iload_n dL_law_918 rfl ?_
  refine qx_iconst (v := nI 4) dL_law_919 (by decide) ?_
  refine qx_iaddN dL_law_920 ?_
  refine qx_sld dL_law_921 (by omega) hL ?_
  refine qx_aload_n dL_law_922 rfl ?_
  refine qx_iload_n dL_law_923 rfl ?_
  refine qx_iconst (v := nI 5) dL_law_924 (by decide) ?_
  refine qx_iaddN dL_law_925 ?_
  refine qx_sld dL_law_926 (by omega) hL ?_
  refine qx_aload_n dL_law_927 rfl ?_
  refine qx_iload_n dL_law_928 rfl ?_
  refine qx_bipush (v := nI 6) dL_law_929 (by decide) ?_
  refine qx_iaddN dL_law_931 ?_
  refine qx_sld dL_law_932 (by omega) hL ?_
  refine qx_heap lw_swap ?_
  refine qx_callV (M2 := mX5_grown) (hc (MH E h0 (z + 157) D)) mw_X5_grown wm_X5_grown we_X5_grown ml_L_125 dL_law_933 RO_obj rfl (by decide) rfl rfl (Nat.le_of_ble_eq_true rfl) (by decide) (fun v h2 hq => ?_)
  obtain ⟨rfl, O2, hO, rfl⟩ := hq
  refine qx_heap lw_swap.symm ?_
  refine qx_aload_n dL_law_936 rfl ?_
  refine qx_aload_n dL_law_937 rfl ?_
  refine qx_iload_n dL_law_938 rfl ?_
  refine qx_iconst (v := nI 1) dL_law_939 (by decide) ?_
  refine qx_iaddN dL_law_940 ?_
  refine qx_sld dL_law_941 (by omega) hL ?_
  refine qx_aload_n dL_law_942 rfl ?_
  refine qx_iload_n dL_law_943 rfl ?_
  refine qx_iconst (v := nI 2) dL_law_944 (by decide) ?_
  refine qx_iaddN dL_law_945 ?_
  refine qx_sld dL_law_946 (by omega) hL ?_
  refine qx_aload_n dL_law_947 rfl ?_
  refine qx_iload_n dL_law_948 rfl ?_
  refine qx_iconst (v := nI 3) dL_law_949 (by decide) ?_
  refine qx_iaddN dL_law_950 ?_
  refine qx_sld dL_law_951 (by omega) hL ?_
  refine qx_aload_n dL_law_952 rfl ?_
  refine qx_iload_n dL_law_953 rfl ?_
  refine qx_iconst (v := nI 4) dL_law_954 (by decide) ?_
  refine qx_iaddN dL_law_955 ?_
  refine qx_sld dL_law_956 (by omega) hL ?_
  refine qx_aload_n dL_law_957 rfl ?_
  refine qx_iload_n dL_law_958 rfl ?_
  refine qx_iconst (v := nI 5) dL_law_959 (by decide) ?_
  refine qx_iaddN dL_law_960 ?_
  refine qx_sld dL_law_961 (by omega) hL ?_
  refine qx_aload_n dL_law_962 rfl ?_
  refine qx_iload_n dL_law_963 rfl ?_
  refine qx_bipush (v := nI 6) dL_law_964 (by decide) ?_
  refine qx_iaddN dL_law_966 ?_
  refine qx_sld dL_law_967 (by omega) hL ?_
  refine qx_callV (M2 := mX6_grown) (hr (RO E h0 z O2)) mw_X6_grown wm_X6_grown we_X6_grown ml_L_129 dL_law_968 MH_obj rfl (by decide) rfl rfl (Nat.le_of_ble_eq_true rfl) (by decide) (fun v h2 hq => ?_)
  obtain ⟨rfl, D2, hR2, rfl⟩ := hq
  refine qx_icmp_eq 1251 dL_law_971 (by decide) (fun _ => ?_) (fun z => absurd rfl z)
  exact kk O2 D2 (hO D2 hR2)
set_option maxHeartbeats 4000000 in
set_option maxRecDepth 100000 in
theorem lc_28 {E : xE} {b0 L0 : Nat} {xs : Nat → Int32} {h0 : xHp} {z i : Nat} (hL : L0 ≤ 3584) (hi : i + 7 ≤ L0) (kk : ∀ (O : xO) (D : xMd), Rel O D → LW E b0 L0 xs 167 2192 1251 [some (.ref b0), some (.ref z), some (.ref (z + 157)), some (.int (nI i))] [] (MH E (RO E h0 z O) (z + 157) D)) (O : xO) (D : xMd) (hR : Rel O D) : LW E b0 L0 xs 167 2192 976 [some (.ref b0), some (.ref z), some (.ref (z + 157)), some (.int (nI i))] [] (MH E (RO E h0 z O) (z + 157) D) := by
  obtain ⟨x, O1, hc, hr⟩ := ag_film (xs (i + 1)) (xs (i + 2)) (xs (i + 3)) (xs (i + 4)) (xs (i + 5)) E z (z + 157) O D hR
  refine qx_aload_n dL_law_976 rfl ?_
  refine qx_aload_n dL_law_977 rfl ?_
  refine qx_iload_n dL_law_978 rfl ?_
  refine qx_iconst (v := nI 1) dL_law_979 (by decide) ?_
  refine qx_iaddN dL_law_980 ?_
  refine qx_sld dL_law_981 (by omega) hL ?_
  refine qx_aload_n dL_law_982 rfl ?_
  refine qx_iload_n dL_law_983 rfl ?_
  refine qx_iconst (v := nI 2) dL_law_984 (by decide) ?_
  refine qx_iaddN dL_law_985 ?_
  refine qx_sld dL_law_986 (by omega) hL ?_
  refine qx_aload_n dL_law_987 rfl ?_
  refine qx_iload_n dL_law_988 rfl ?_
  refine qx_iconst (v := nI 3) dL_law_989 (by decide) ?_
  refine qx_iaddN dL_law_990 ?_
  refine qx_sld dL_law_991 (by omega) hL ?_
  refine qx_aload_n dL_law_992 rfl ?_
  refine qx_iload_n dL_law_993 rfl ?_
  refine qx_iconst (v := nI 4) dL_law_994 (by decide) ?_
  refine qx_iaddN dL_law_995 ?_
  refine qx_sld dL_law_996 (by omega) hL ?_
  refine qx_aload_n dL_law_997 rfl ?_
  refine qx_iload_n dL_law_998 rfl ?_
  refine qx_iconst (v := nI 5) dL_law_999 (by decide) ?_
  refine qx_iaddN dL_law_1000 ?_
  refine qx_sld dL_law_1001 (by omega) hL ?_
  refine qx_heap lw_swap ?_
  refine qx_callV (M2 := mX5_film) (hc (MH E h0 (z + 157) D)) mw_X5_film wm_X5_film we_X5_film ml_L_130 dL_law_1002 RO_obj rfl (by decide) rfl rfl (Nat.le_of_ble_eq_true rfl) (by decide) (fun v h2 hq => ?_)
  obtain ⟨rfl, O2, hO, rfl⟩ := hq
  refine qx_heap lw_swap.symm ?_
  refine qx_aload_n dL_law_1005 rfl ?_
  refine qx_aload_n dL_law_1006 rfl ?_
  refine qx_iload_n dL_law_1007 rfl ?_
  refine qx_iconst (v := nI 1) dL_law_1008 (by decide) ?_
  refine qx_iaddN dL_law_1009 ?_
  refine qx_sld dL_law_1010 (by omega) hL ?_
  refine qx_aload_n dL_law_1011 rfl ?_
  refine qx_iload_n dL_law_1012 rfl ?_
  refine qx_iconst (v := nI 2) dL_law_1013 (by decide) ?_
  refine qx_iaddN dL_law_1014 ?_
  refine qx_sld dL_law_1015 (by omega) hL ?_
  refine qx_aload_n dL_law_1016 rfl ?_
  refine qx_iload_n dL_law_1017 rfl ?_
  refine qx_iconst (v := nI 3) dL_law_1018 (by decide) ?_
  refine qx_iaddN dL_law_1019 ?_
  refine qx_sld dL_law_1020 (by omega) hL ?_
  refine qx_aload_n dL_law_1021 rfl ?_
  refine qx_iload_n dL_law_1022 rfl ?_
  refine qx_iconst (v := nI 4) dL_law_1023 (by decide) ?_
  refine qx_iaddN dL_law_1024 ?_
  refine qx_sld dL_law_1025 (by omega) hL ?_
  refine qx_aload_n dL_law_1026 rfl ?_
  refine qx_iload_n dL_law_1027 rfl ?_
  refine qx_iconst (v := nI 5) dL_law_1028 (by decide) ?_
  refine qx_iaddN dL_law_1029 ?_
  refine qx_sld dL_law_1030 (by omega) hL ?_
  refine qx_callV (M2 := mX6_film) (hr (RO E h0 z O2)) mw_X6_film wm_X6_film we_X6_film ml_L_134 dL_law_1031 MH_obj rfl (by decide) rfl rfl (Nat.le_of_ble_eq_true rfl) (by decide) (fun v h2 hq => ?_)
  obtain ⟨rfl, D2, hR2, rfl⟩ := hq
  refine qx_icmp_eq 1251 dL_law_1034 (by decide) (fun _ => ?_) (fun z => absurd rfl z)
  exact kk O2 D2 (hO D2 hR2)
set_option maxHeartbeats 4000000 in
set_option maxRecDepth 100000 in
theorem lc_29 {E : xE} {b0 L0 : Nat} {xs : Nat → Int32} {h0 : xHp} {z i : Nat} (hL : L0 ≤ 3584) (hi : i + 7 ≤ L0) (kk : ∀ (O : xO) (D : xMd), Rel O D → LW E b0 L0 xs 167 2192 1251 [some (.ref b0), some (.ref z), some (.ref (z + 157)), some (.int (nI i))] [] (MH E (RO E h0 z O) (z + 157) D)) (O : xO) (D : xMd) (hR : Rel O D) : LW E b0 L0 xs 167 2192 1039 [some (.ref b0), some (.ref z), some (.ref (z + 157)), some (.int (nI i))] [] (MH E (RO E h0 z O) (z + 157) D) := by
  obtain ⟨x, O1, hc, hr⟩ := ag_sheet (xs (i + 1)) (xs (i + 2)) (xs (i + 3)) E z (z + 157) O D hR
  refine qx_aload_n dL_law_1039 rfl ?_
  refine qx_aload_n dL_law_1040 rfl ?_
  refine qx_iload_n dL_law_1041 rfl ?_
  refine qx_iconst (v := nI 1) dL_law_1042 (by decide) ?_
  refine qx_iaddN dL_law_1043 ?_
  refine qx_sld dL_law_1044 (by omega) hL ?_
  refine qx_aload_n dL_law_1045 rfl ?_
  refine qx_iload_n dL_law_1046 rfl ?_
  refine qx_iconst (v := nI 2) dL_law_1047 (by decide) ?_
  refine qx_iaddN dL_law_1048 ?_
  refine qx_sld dL_law_1049 (by omega) hL ?_
  refine qx_aload_n dL_law_1050 rfl ?_
  refine qx_iload_n dL_law_1051 rfl ?_
  refine qx_iconst (v := nI 3) dL_law_1052 (by decide) ?_
  refine qx_iaddN dL_law_1053 ?_
  refine qx_sld dL_law_1054 (by omega) hL ?_
  refine qx_heap lw_swap ?_
  refine qx_callV (M2 := mX5_sheet) (hc (MH E h0 (z + 157) D)) mw_X5_sheet wm_X5_sheet we_X5_sheet ml_L_135 dL_law_1055 RO_obj rfl (by decide) rfl rfl (Nat.le_of_ble_eq_true rfl) (by decide) (fun v h2 hq => ?_)
  obtain ⟨rfl, O2, hO, rfl⟩ := hq
  refine qx_heap lw_swap.symm ?_
  refine qx_aload_n dL_law_1058 rfl ?_
  refine qx_aload_n dL_law_1059 rfl ?_
  refine qx_iload_n dL_law_1060 rfl ?_
  refine qx_iconst (v := nI 1) dL_law_1061 (by decide) ?_
  refine qx_iaddN dL_law_1062 ?_
  refine qx_sld dL_law_1063 (by omega) hL ?_
  refine qx_aload_n dL_law_1064 rfl ?_
  refine qx_iload_n dL_law_1065 rfl ?_
  refine qx_iconst (v := nI 2) dL_law_1066 (by decide) ?_
  refine qx_iaddN dL_law_1067 ?_
  refine qx_sld dL_law_1068 (by omega) hL ?_
  refine qx_aload_n dL_law_1069 rfl ?_
  refine qx_iload_n dL_law_1070 rfl ?_
  refine qx_iconst (v := nI 3) dL_law_1071 (by decide) ?_
  refine qx_iaddN dL_law_1072 ?_
  refine qx_sld dL_law_1073 (by omega) hL ?_
  refine qx_callV (M2 := mX6_sheet) (hr (RO E h0 z O2)) mw_X6_sheet wm_X6_sheet we_X6_sheet ml_L_138 dL_law_1074 MH_obj rfl (by decide) rfl rfl (Nat.le_of_ble_eq_true rfl) (by decide) (fun v h2 hq => ?_)
  obtain ⟨rfl, D2, hR2, rfl⟩ := hq
  refine qx_icmp_eq 1251 dL_law_1077 (by decide) (fun _ => ?_) (fun z => absurd rfl z)
  exact kk O2 D2 (hO D2 hR2)
set_option maxHeartbeats 4000000 in
set_option maxRecDepth 100000 in
theorem lc_30 {E : xE} {b0 L0 : Nat} {xs : Nat → Int32} {h0 : xHp} {z i : Nat} (hL : L0 ≤ 3584) (hi : i + 7 ≤ L0) (kk : ∀ (O : xO) (D : xMd), Rel O D → LW E b0 L0 xs 167 2192 1251 [some (.ref b0), some (.ref z), some (.ref (z + 157)), some (.int (nI i))] [] (MH E (RO E h0 z O) (z + 157) D)) (O : xO) (D : xMd) (hR : Rel O D) : LW E b0 L0 xs 167 2192 1082 [some (.ref b0), some (.ref z), some (.ref (z + 157)), some (.int (nI i))] [] (MH E (RO E h0 z O) (z + 157) D) := by
  obtain ⟨x, O1, hc, hr⟩ := ag_drop (xs (i + 1)) E z (z + 157) O D hR
  refine qx_aload_n dL_law_1082 rfl ?_
  refine qx_aload_n dL_law_1083 rfl ?_
  refine qx_iload_n dL_law_1084 rfl ?_
  refine qx_iconst (v := nI 1) dL_law_1085 (by decide) ?_
  refine qx_iaddN dL_law_1086 ?_
  refine qx_sld dL_law_1087 (by omega) hL ?_
  refine qx_heap lw_swap ?_
  refine qx_callV (M2 := mX5_drop) (hc (MH E h0 (z + 157) D)) mw_X5_drop wm_X5_drop we_X5_drop ml_L_139 dL_law_1088 RO_obj rfl (by decide) rfl rfl (Nat.le_of_ble_eq_true rfl) (by decide) (fun v h2 hq => ?_)
  obtain ⟨rfl, O2, hO, rfl⟩ := hq
  refine qx_heap lw_swap.symm ?_
  refine qx_aload_n dL_law_1091 rfl ?_
  refine qx_aload_n dL_law_1092 rfl ?_
  refine qx_iload_n dL_law_1093 rfl ?_
  refine qx_iconst (v := nI 1) dL_law_1094 (by decide) ?_
  refine qx_iaddN dL_law_1095 ?_
  refine qx_sld dL_law_1096 (by omega) hL ?_
  refine qx_callV (M2 := mX6_drop) (hr (RO E h0 z O2)) mw_X6_drop wm_X6_drop we_X6_drop ml_L_142 dL_law_1097 MH_obj rfl (by decide) rfl rfl (Nat.le_of_ble_eq_true rfl) (by decide) (fun v h2 hq => ?_)
  obtain ⟨rfl, D2, hR2, rfl⟩ := hq
  refine qx_icmp_eq 1251 dL_law_1100 (by decide) (fun _ => ?_) (fun z => absurd rfl z)
  exact kk O2 D2 (hO D2 hR2)
set_option maxHeartbeats 4000000 in
set_option maxRecDepth 100000 in
theorem lc_31 {E : xE} {b0 L0 : Nat} {xs : Nat → Int32} {h0 : xHp} {z i : Nat} (hL : L0 ≤ 3584) (hi : i + 7 ≤ L0) (kk : ∀ (O : xO) (D : xMd), Rel O D → LW E b0 L0 xs 167 2192 1251 [some (.ref b0), some (.ref z), some (.ref (z + 157)), some (.int (nI i))] [] (MH E (RO E h0 z O) (z + 157) D)) (O : xO) (D : xMd) (hR : Rel O D) : LW E b0 L0 xs 167 2192 1105 [some (.ref b0), some (.ref z), some (.ref (z + 157)), some (.int (nI i))] [] (MH E (RO E h0 z O) (z + 157) D) := by
  obtain ⟨x, O1, hc, hr⟩ := ag_item (xs (i + 1)) (xs (i + 2)) (xs (i + 3)) ((((xs (i + 4)).toInt64 <<< ((nI 32).toInt64 &&& 63)) ||| ((xs (i + 5)).toInt64 &&& 4294967295))) E z (z + 157) O D hR
  refine qx_aload_n dL_law_1105 rfl ?_
  refine qx_aload_n dL_law_1106 rfl ?_
  refine qx_iload_n dL_law_1107 rfl ?_
  refine qx_iconst (v := nI 1) dL_law_1108 (by decide) ?_
  refine qx_iaddN dL_law_1109 ?_
  refine qx_sld dL_law_1110 (by omega) hL ?_
  refine qx_aload_n dL_law_1111 rfl ?_
  refine qx_iload_n dL_law_1112 rfl ?_
  refine qx_iconst (v := nI 2) dL_law_1113 (by decide) ?_
  refine qx_iaddN dL_law_1114 ?_
  refine qx_sld dL_law_1115 (by omega) hL ?_
  refine qx_aload_n dL_law_1116 rfl ?_
  refine qx_iload_n dL_law_1117 rfl ?_
  refine qx_iconst (v := nI 3) dL_law_1118 (by decide) ?_
  refine qx_iaddN dL_law_1119 ?_
  refine qx_sld dL_law_1120 (by omega) hL ?_
  refine qx_aload_n dL_law_1121 rfl ?_
  refine qx_iload_n dL_law_1122 rfl ?_
  refine qx_iconst (v := nI 4) dL_law_1123 (by decide) ?_
  refine qx_iaddN dL_law_1124 ?_
  refine qx_sld dL_law_1125 (by omega) hL ?_
  refine qx_i2l dL_law_1126 ?_
  refine qx_bipush (v := nI 32) dL_law_1127 (by decide) ?_
  refine qx_lshl dL_law_1129 ?_
  refine qx_aload_n dL_law_1130 rfl ?_
  refine qx_iload_n dL_law_1131 rfl ?_
  refine qx_iconst (v := nI 5) dL_law_1132 (by decide) ?_
  refine qx_iaddN dL_law_1133 ?_
  refine qx_sld dL_law_1134 (by omega) hL ?_
  refine qx_i2l dL_law_1135 ?_
  refine qx_ldc2 dL_law_1136 kc_L_143 ?_
  refine qx_land dL_law_1139 ?_
  refine qx_lor dL_law_1140 ?_
  refine qx_heap lw_swap ?_
  refine qx_callV (M2 := mX5_item) (hc (MH E h0 (z + 157) D)) mw_X5_item wm_X5_item we_X5_item ml_L_145 dL_law_1141 RO_obj rfl (by decide) rfl rfl (Nat.le_of_ble_eq_true rfl) (by decide) (fun v h2 hq => ?_)
  obtain ⟨rfl, O2, hO, rfl⟩ := hq
  refine qx_heap lw_swap.symm ?_
  refine qx_aload_n dL_law_1144 rfl ?_
  refine qx_aload_n dL_law_1145 rfl ?_
  refine qx_iload_n dL_law_1146 rfl ?_
  refine qx_iconst (v := nI 1) dL_law_1147 (by decide) ?_
  refine qx_iaddN dL_law_1148 ?_
  refine qx_sld dL_law_1149 (by omega) hL ?_
  refine qx_aload_n dL_law_1150 rfl ?_
  refine qx_iload_n dL_law_1151 rfl ?_
  refine qx_iconst (v := nI 2) dL_law_1152 (by decide) ?_
  refine qx_iaddN dL_law_1153 ?_
  refine qx_sld dL_law_1154 (by omega) hL ?_
  refine qx_aload_n dL_law_1155 rfl ?_
  refine qx_iload_n dL_law_1156 rfl ?_
  refine qx_iconst (v := nI 3) dL_law_1157 (by decide) ?_
  refine qx_iaddN dL_law_1158 ?_
  refine qx_sld dL_law_1159 (by omega) hL ?_
  refine qx_aload_n dL_law_1160 rfl ?_
  refine qx_iload_n dL_law_1161 rfl ?_
  refine qx_iconst (v := nI 4) dL_law_1162 (by decide) ?_
  refine qx_iaddN dL_law_1163 ?_
  refine qx_sld dL_law_1164 (by omega) hL ?_
  refine qx_i2l dL_law_1165 ?_
  refine qx_bipush (v := nI 32) dL_law_1166 (by decide) ?_
  refine qx_lshl dL_law_1168 ?_
  refine qx_aload_n dL_law_1169 rfl ?_
  refine qx_iload_n dL_law_1170 rfl ?_
  refine qx_iconst (v := nI 5) dL_law_1171 (by decide) ?_
  refine qx_iaddN dL_law_1172 ?_
  refine qx_sld dL_law_1173 (by omega) hL ?_
  refine qx_i2l dL_law_1174 ?_
  refine qx_ldc2 dL_law_1175 kc_L_143 ?_
  refine qx_land dL_law_1178 ?_
  refine qx_lor dL_law_1179 ?_
  refine qx_callV (M2 := mX6_item) (hr (RO E h0 z O2)) mw_X6_item wm_X6_item we_X6_item ml_L_149 dL_law_1180 MH_obj rfl (by decide) rfl rfl (Nat.le_of_ble_eq_true rfl) (by decide) (fun v h2 hq => ?_)
  obtain ⟨rfl, D2, hR2, rfl⟩ := hq
  refine qx_icmp_eq 1251 dL_law_1183 (by decide) (fun _ => ?_) (fun z => absurd rfl z)
  exact kk O2 D2 (hO D2 hR2)
set_option maxHeartbeats 4000000 in
set_option maxRecDepth 100000 in
theorem lc_32 {E : xE} {b0 L0 : Nat} {xs : Nat → Int32} {h0 : xHp} {z i : Nat} (hL : L0 ≤ 3584) (hi : i + 7 ≤ L0) (kk : ∀ (O : xO) (D : xMd), Rel O D → LW E b0 L0 xs 167 2192 1251 [some (.ref b0), some (.ref z), some (.ref (z + 157)), some (.int (nI i))] [] (MH E (RO E h0 z O) (z + 157) D)) (O : xO) (D : xMd) (hR : Rel O D) : LW E b0 L0 xs 167 2192 1188 [some (.ref b0), some (.ref z), some (.ref (z + 157)), some (.int (nI i))] [] (MH E (RO E h0 z O) (z + 157) D) := by
  obtain ⟨x, O1, hc, hr⟩ := ag_copy (xs (i + 1)) (xs (i + 2)) (xs (i + 3)) (xs (i + 4)) (xs (i + 5)) E z (z + 157) O D hR
  refine qx_aload_n dL_law_1188 rfl ?_
  refine qx_aload_n dL_law_1189 rfl ?_
  refine qx_iload_n dL_law_1190 rfl ?_
  refine qx_iconst (v := nI 1) dL_law_1191 (by decide) ?_
  refine qx_iaddN dL_law_1192 ?_
  refine qx_sld dL_law_1193 (by omega) hL ?_
  refine qx_aload_n dL_law_1194 rfl ?_
  refine qx_iload_n dL_law_1195 rfl ?_
  refine qx_iconst (v := nI 2) dL_law_1196 (by decide) ?_
  refine qx_iaddN dL_law_1197 ?_
  refine qx_sld dL_law_1198 (by omega) hL ?_
  refine qx_aload_n dL_law_1199 rfl ?_
  refine qx_iload_n dL_law_1200 rfl ?_
  refine qx_iconst (v := nI 3) dL_law_1201 (by decide) ?_
  refine qx_iaddN dL_law_1202 ?_
  refine qx_sld dL_law_1203 (by omega) hL ?_
  refine qx_aload_n dL_law_1204 rfl ?_
  refine qx_iload_n dL_law_1205 rfl ?_
  refine qx_iconst (v := nI 4) dL_law_1206 (by decide) ?_
  refine qx_iaddN dL_law_1207 ?_
  refine qx_sld dL_law_1208 (by omega) hL ?_
  refine qx_aload_n dL_law_1209 rfl ?_
  refine qx_iload_n dL_law_1210 rfl ?_
  refine qx_iconst (v := nI 5) dL_law_1211 (by decide) ?_
  refine qx_iaddN dL_law_1212 ?_
  refine qx_sld dL_law_1213 (by omega) hL ?_
  refine qx_heap lw_swap ?_
  refine qx_callV (M2 := mX5_copy) (hc (MH E h0 (z + 157) D)) mw_X5_copy wm_X5_copy we_X5_copy ml_L_150 dL_law_1214 RO_obj rfl (by decide) rfl rfl (Nat.le_of_ble_eq_true rfl) (by decide) (fun v h2 hq => ?_)
  obtain ⟨rfl, O2, hO, rfl⟩ := hq
  refine qx_heap lw_swap.symm ?_
  refine qx_aload_n dL_law_1217 rfl ?_
  refine qx_aload_n dL_law_1218 rfl ?_
  refine qx_iload_n dL_law_1219 rfl ?_
  refine qx_iconst (v := nI 1) dL_law_1220 (by decide) ?_
  refine qx_iaddN dL_law_1221 ?_
  refine qx_sld dL_law_1222 (by omega) hL ?_
  refine qx_aload_n dL_law_1223 rfl ?_
  refine qx_iload_n dL_law_1224 rfl ?_
  refine qx_iconst (v := nI 2) dL_law_1225 (by decide) ?_
  refine qx_iaddN dL_law_1226 ?_
  refine qx_sld dL_law_1227 (by omega) hL ?_
  refine qx_aload_n dL_law_1228 rfl ?_
  refine qx_iload_n dL_law_1229 rfl ?_
  refine qx_iconst (v := nI 3) dL_law_1230 (by decide) ?_
  refine qx_iaddN dL_law_1231 ?_
  refine qx_sld dL_law_1232 (by omega) hL ?_
  refine qx_aload_n dL_law_1233 rfl ?_
  refine qx_iload_n dL_law_1234 rfl ?_
  refine qx_iconst (v := nI 4) dL_law_1235 (by decide) ?_
  refine qx_iaddN dL_law_1236 ?_
  refine qx_sld dL_law_1237 (by omega) hL ?_
  refine qx_aload_n dL_law_1238 rfl ?_
  refine qx_iload_n dL_law_1239 rfl ?_
  refine qx_iconst (v := nI 5) dL_law_1240 (by decide) ?_
  refine qx_iaddN dL_law_1241 ?_
  refine qx_sld dL_law_1242 (by omega) hL ?_
  refine qx_callV (M2 := mX6_copy) (hr (RO E h0 z O2)) mw_X6_copy wm_X6_copy we_X6_copy ml_L_153 dL_law_1243 MH_obj rfl (by decide) rfl rfl (Nat.le_of_ble_eq_true rfl) (by decide) (fun v h2 hq => ?_)
  obtain ⟨rfl, D2, hR2, rfl⟩ := hq
  refine qx_icmp_eq 1251 dL_law_1246 (by decide) (fun _ => ?_) (fun z => absurd rfl z)
  exact kk O2 D2 (hO D2 hR2)
set_option maxHeartbeats 4000000 in
set_option maxRecDepth 100000 in
theorem law_loop {E : xE} {b0 L0 : Nat} {xs : Nat → Int32} {h0 : xHp} {z : Nat} (hL : L0 ≤ 3584) : ∀ (n i : Nat) (O : xO) (D : xMd), i ≤ L0 → L0 + 1 ≤ i + 7 * n → Rel O D → LW E b0 L0 xs 167 2192 18 [some (.ref b0), some (.ref z), some (.ref (z + 157)), some (.int (nI i))] [] (MH E (RO E h0 z O) (z + 157) D) := by
  intro n
  induction n with
  | zero =>
    intro i O D h1 h2 hR
    refine qx_iload_n dL_law_18 rfl ?_
    refine qx_aload_n dL_law_19 rfl ?_
    refine qx_slen dL_law_20 ?_
    refine qx_bipush (v := nI 7) dL_law_21 (by decide) ?_
    refine qx_isub dL_law_23 ?_
    refine qx_icmp_gt 1257 dL_law_24 (by decide) (fun _ => ?_) (fun c24 => ?_)
    · refine qx_iconst (v := nI 1) dL_law_1257 (by decide) ?_
      exact qx_ret dL_law_1258 (by decide) (by decide)
    · have h7 := sub7 hL (by omega) c24
      omega
  | succ n ih =>
    intro i O D h1 h2 hR
    refine qx_iload_n dL_law_18 rfl ?_
    refine qx_aload_n dL_law_19 rfl ?_
    refine qx_slen dL_law_20 ?_
    refine qx_bipush (v := nI 7) dL_law_21 (by decide) ?_
    refine qx_isub dL_law_23 ?_
    refine qx_icmp_gt 1257 dL_law_24 (by decide) (fun _ => ?_) (fun c24 => ?_)
    · refine qx_iconst (v := nI 1) dL_law_1257 (by decide) ?_
      exact qx_ret dL_law_1258 (by decide) (by decide)
    · have h7 := sub7 hL (by omega) c24
      have kk : ∀ (O : xO) (D : xMd), Rel O D → LW E b0 L0 xs 167 2192 1251 [some (.ref b0), some (.ref z), some (.ref (z + 157)), some (.int (nI i))] [] (MH E (RO E h0 z O) (z + 157) D) := fun O D hR => by
        refine qx_inc_3 (v := nI (i + 7)) dL_law_1251 rfl (by show nI i + nI 7 = nI (i + 7); exact nI_add i 7) rfl ?_
        refine qx_goto 18 dL_law_1254 (by decide) ?_
        exact ih (i + 7) O D (by omega) (by omega) hR
      refine qx_aload_n dL_law_27 rfl ?_
      refine qx_iload_n dL_law_28 rfl ?_
      refine qx_sld dL_law_29 (by omega) hL ?_
      refine qx_bipush (v := nI 63) dL_law_30 (by decide) ?_
      refine qx_iand dL_law_32 ?_
      generalize xs i &&& nI 63 = u
      rcases exS u 32 (by decide) with hu | ⟨j, hj, rfl⟩
      · refine qx_tabOut 1251 dL_law_33 hu (by decide) ?_
        exact kk O D hR
      · have hh : j = 0 ∨ j = 1 ∨ j = 2 ∨ j = 3 ∨ j = 4 ∨ j = 5 ∨ j = 6 ∨ j = 7 ∨ j = 8 ∨ j = 9 ∨ j = 10 ∨ j = 11 ∨ j = 12 ∨ j = 13 ∨ j = 14 ∨ j = 15 ∨ j = 16 ∨ j = 17 ∨ j = 18 ∨ j = 19 ∨ j = 20 ∨ j = 21 ∨ j = 22 ∨ j = 23 ∨ j = 24 ∨ j = 25 ∨ j = 26 ∨ j = 27 ∨ j = 28 ∨ j = 29 ∨ j = 30 ∨ j = 31 ∨ j = 32 := by omega
        rcases hh with hq | hq | hq | hq | hq | hq | hq | hq | hq | hq | hq | hq | hq | hq | hq | hq | hq | hq | hq | hq | hq | hq | hq | hq | hq | hq | hq | hq | hq | hq | hq | hq | hq
        · subst hq
          refine qx_tabIn 180 dL_law_33 (by decide) (by decide) rfl (by decide) ?_
          exact lc_0 hL h7 kk O D hR
        · subst hq
          refine qx_tabIn 223 dL_law_33 (by decide) (by decide) rfl (by decide) ?_
          exact lc_1 hL h7 kk O D hR
        · subst hq
          refine qx_tabIn 256 dL_law_33 (by decide) (by decide) rfl (by decide) ?_
          exact lc_2 hL h7 kk O D hR
        · subst hq
          refine qx_tabIn 279 dL_law_33 (by decide) (by decide) rfl (by decide) ?_
          exact lc_3 hL h7 kk O D hR
        · subst hq
          refine qx_tabIn 312 dL_law_33 (by decide) (by decide) rfl (by decide) ?_
          exact lc_4 hL h7 kk O D hR
        · subst hq
          refine qx_tabIn 345 dL_law_33 (by decide) (by decide) rfl (by decide) ?_
          exact lc_5 hL h7 kk O D hR
        · subst hq
          refine qx_tabIn 368 dL_law_33 (by decide) (by decide) rfl (by decide) ?_
          exact lc_6 hL h7 kk O D hR
        · subst hq
          refine qx_tabIn 381 dL_law_33 (by decide) (by decide) rfl (by decide) ?_
          exact lc_7 hL h7 kk O D hR
        · subst hq
          refine qx_tabIn 404 dL_law_33 (by decide) (by decide) rfl (by decide) ?_
          exact lc_8 hL h7 kk O D hR
        · subst hq
          refine qx_tabIn 427 dL_law_33 (by decide) (by decide) rfl (by decide) ?_
          exact lc_9 hL h7 kk O D hR
        · subst hq
          refine qx_tabIn 460 dL_law_33 (by decide) (by decide) rfl (by decide) ?_
          exact lc_10 hL h7 kk O D hR
        · subst hq
          refine qx_tabIn 493 dL_law_33 (by decide) (by decide) rfl (by decide) ?_
          exact lc_11 hL h7 kk O D hR
        · subst hq
          refine qx_tabIn 516 dL_law_33 (by decide) (by decide) rfl (by decide) ?_
          exact lc_12 hL h7 kk O D hR
        · subst hq
          refine qx_tabIn 529 dL_law_33 (by decide) (by decide) rfl (by decide) ?_
          exact lc_13 hL h7 kk O D hR
        · subst hq
          refine qx_tabIn 552 dL_law_33 (by decide) (by decide) rfl (by decide) ?_
          exact lc_14 hL h7 kk O D hR
        · subst hq
          refine qx_tabIn 585 dL_law_33 (by decide) (by decide) rfl (by decide) ?_
          exact lc_15 hL h7 kk O D hR
        · subst hq
          refine qx_tabIn 608 dL_law_33 (by decide) (by decide) rfl (by decide) ?_
          exact lc_16 hL h7 kk O D hR
        · subst hq
          refine qx_tabIn 631 dL_law_33 (by decide) (by decide) rfl (by decide) ?_
          exact lc_17 hL h7 kk O D hR
        · subst hq
          refine qx_tabIn 654 dL_law_33 (by decide) (by decide) rfl (by decide) ?_
          exact lc_18 hL h7 kk O D hR
        · subst hq
          refine qx_tabIn 687 dL_law_33 (by decide) (by decide) rfl (by decide) ?_
          exact lc_19 hL h7 kk O D hR
        · subst hq
          refine qx_tabIn 730 dL_law_33 (by decide) (by decide) rfl (by decide) ?_
          exact lc_20 hL h7 kk O D hR
        · subst hq
          refine qx_tabIn 753 dL_law_33 (by decide) (by decide) rfl (by decide) ?_
          exact lc_21 hL h7 kk O D hR
        · subst hq
          refine qx_tabIn 786 dL_law_33 (by decide) (by decide) rfl (by decide) ?_
          exact lc_22 hL h7 kk O D hR
        · subst hq
          refine qx_tabIn 799 dL_law_33 (by decide) (by decide) rfl (by decide) ?_
          exact lc_23 hL h7 kk O D hR
        · subst hq
          refine qx_tabIn 832 dL_law_33 (by decide) (by decide) rfl (by decide) ?_
          exact lc_24 hL h7 kk O D hR
        · subst hq
          refine qx_tabIn 875 dL_law_33 (by decide) (by decide) rfl (by decide) ?_
          exact lc_25 hL h7 kk O D hR
        · subst hq
          refine qx_tabIn 888 dL_law_33 (by decide) (by decide) rfl (by decide) ?_
          exact lc_26 hL h7 kk O D hR
        · subst hq
          refine qx_tabIn 901 dL_law_33 (by decide) (by decide) rfl (by decide) ?_
          exact lc_27 hL h7 kk O D hR
        · subst hq
          refine qx_tabIn 976 dL_law_33 (by decide) (by decide) rfl (by decide) ?_
          exact lc_28 hL h7 kk O D hR
        · subst hq
          refine qx_tabIn 1039 dL_law_33 (by decide) (by decide) rfl (by decide) ?_
          exact lc_29 hL h7 kk O D hR
        · subst hq
          refine qx_tabIn 1082 dL_law_33 (by decide) (by decide) rfl (by decide) ?_
          exact lc_30 hL h7 kk O D hR
        · subst hq
          refine qx_tabIn 1105 dL_law_33 (by decide) (by decide) rfl (by decide) ?_
          exact lc_31 hL h7 kk O D hR
        · subst hq
          refine qx_tabIn 1188 dL_law_33 (by decide) (by decide) rfl (by decide) ?_
          exact lc_32 hL h7 kk O D hR
set_option maxHeartbeats 4000000 in
set_option maxRecDepth 100000 in
theorem law_main {E : xE} {b0 L0 : Nat} {xs : Nat → Int32} (hL : L0 ≤ 3584) : LW E b0 L0 xs 0 0 0 [some (.ref b0), none, none, none] [] (fun _ => none) := by
  have hs0 : xSz E (fun _ => none) (E.2 0) := ⟨Nat.le_refl _, fun a ha => ⟨fun z => (by cases z), fun z => absurd z (Nat.not_lt.mpr ha)⟩⟩
  refine qx_newP (fs := dfX5) xk_X5 dL_law_0 cl_L_7 in_X5 wi_RobbedOnce hs0 dfX5_ok (by decide) (fun hs1 => ?_)
  refine qx_dup dL_law_3 rfl ?_
  refine qx_callI (M2 := mX5_init) (c_X5_init hs1) mw_X5_init wm_X5_init rfl rfl ml_L_9 dL_law_4 (by decide) rfl rfl (Nat.le_of_ble_eq_true rfl) (by decide) (fun v h2 hq => ?_)
  obtain ⟨rfl, rfl, hs2⟩ := hq
  refine qx_astn_1 dL_law_7 rfl ?_
  refine qx_newP (fs := dfX6) xk_X6 dL_law_8 cl_L_10 in_X6 wi_RobbedOnceModel hs2 dfX6_ok (by decide) (fun hs3 => ?_)
  refine qx_dup dL_law_11 rfl ?_
  refine qx_callI (M2 := mX6_init) (c_X6_init hs3) mw_X6_init wm_X6_init rfl rfl ml_L_12 dL_law_12 (by decide) rfl rfl (Nat.le_of_ble_eq_true rfl) (by decide) (fun v h2 hq => ?_)
  obtain ⟨rfl, D, hR, rfl, _⟩ := hq
  refine qx_astn_2 dL_law_15 rfl ?_
  refine qx_iconst (v := nI 0) dL_law_16 (by decide) ?_
  refine qx_istn_3 dL_law_17 rfl ?_
  refine qx_kn (k2 := 167) (n2 := 2192) rfl rfl ?_
  exact law_loop hL (L0 + 1) 0 O00 D (Nat.zero_le _) (by omega) hR
