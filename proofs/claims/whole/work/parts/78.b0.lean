/-! ===== the law: blocks ===== -/
theorem gWf_le (M : gM) (a : Int32) : gWf M a ≤ 1 := by
  unfold gWf
  split <;> omega
theorem gBn_01 (b : Bool) : gB b = nI 0 ∨ gB b = nI 1 := by cases b <;> first | exact Or.inl rfl | exact Or.inr rfl
set_option maxHeartbeats 4000000 in
set_option maxRecDepth 100000 in
theorem bk_feed {Γ : gC} {b L x y o : Nat} {xs : Nat → Int32} (G : gOK Γ RL cL_law 12 601024 7293034) (X : gScr Γ b L xs) : gBlk Γ b L x y o 196 := by
  intro S ad bb M j k sl w5 w6 w7 w8 h hr i hd h40 ho hj hL hk hs kk
  have hb := i.b
  first | refine g_aload_n G dL_law_196 rfl ?_ | refine g_aload_nN G dL_law_196 rfl ?_ | refine g_aload_nQ G dL_law_196 rfl ?_
  first | refine g_aload_n G dL_law_197 rfl ?_ | refine g_aload_nN G dL_law_197 rfl ?_ | refine g_aload_nQ G dL_law_197 rfl ?_
  refine g_iload G dL_law_198 rfl ?_
  refine g_iconst (v := nI 1) G dL_law_200 (by decide) ?_
  refine g_iadd G dL_law_201 (nI_add _ _) ?_
  refine g_sld G X (j := 6 * j + 1) (by omega) (by omega) dL_law_202 ?_
  first | refine g_aload_n G dL_law_203 rfl ?_ | refine g_aload_nN G dL_law_203 rfl ?_ | refine g_aload_nQ G dL_law_203 rfl ?_
  refine g_iload G dL_law_204 rfl ?_
  refine g_iconst (v := nI 2) G dL_law_206 (by decide) ?_
  refine g_iadd G dL_law_207 (nI_add _ _) ?_
  refine g_sld G X (j := 6 * j + 2) (by omega) (by omega) dL_law_208 ?_
  first | refine g_aload_n G dL_law_209 rfl ?_ | refine g_aload_nN G dL_law_209 rfl ?_ | refine g_aload_nQ G dL_law_209 rfl ?_
  refine g_iload G dL_law_210 rfl ?_
  refine g_iconst (v := nI 3) G dL_law_212 (by decide) ?_
  refine g_iadd G dL_law_213 (nI_add _ _) ?_
  refine g_sld G X (j := 6 * j + 3) (by omega) (by omega) dL_law_214 ?_
  first | refine g_aload_n G dL_law_215 rfl ?_ | refine g_aload_nN G dL_law_215 rfl ?_ | refine g_aload_nQ G dL_law_215 rfl ?_
  refine g_iload G dL_law_216 rfl ?_
  refine g_iconst (v := nI 4) G dL_law_218 (by decide) ?_
  refine g_iadd G dL_law_219 (nI_add _ _) ?_
  refine g_sld G X (j := 6 * j + 4) (by omega) (by omega) dL_law_220 ?_
  first | refine g_aload_n G dL_law_221 rfl ?_ | refine g_aload_nN G dL_law_221 rfl ?_ | refine g_aload_nQ G dL_law_221 rfl ?_
  refine g_iload G dL_law_222 rfl ?_
  refine g_iconst (v := nI 5) G dL_law_224 (by decide) ?_
  refine g_iadd G dL_law_225 (nI_add _ _) ?_
  refine g_sld G X (j := 6 * j + 5) (by omega) (by omega) dL_law_226 ?_
  first | refine g_aload_n G dL_law_227 rfl ?_ | refine g_aload_nN G dL_law_227 rfl ?_ | refine g_aload_nQ G dL_law_227 rfl ?_
  refine g_callSW G (c_L_feed h.1.1 (c_X7_feed _ S x ad M h (xs (6 * j + 1)) (xs (6 * j + 2)) (xs (6 * j + 3)) (xs (6 * j + 4)) (xs (6 * j + 5))) (fun v S1 z => by obtain ⟨q, M9, rfl, ⟨ad9, -, F⟩, -⟩ := (ag_feed (y := y) h i hd h40 (xs (6 * j + 1)) (xs (6 * j + 2)) (xs (6 * j + 3)) (xs (6 * j + 4)) (xs (6 * j + 5))).1 v S1 z; exact ⟨⟨q, rfl⟩, ho.fr F⟩) (fun E S1 z => by obtain ⟨-, -, c, t, hc, -⟩ := (ag_feed (y := y) h i hd h40 (xs (6 * j + 1)) (xs (6 * j + 2)) (xs (6 * j + 3)) (xs (6 * j + 4)) (xs (6 * j + 5))).2 E S1 z; simp only [List.mem_cons, Prod.mk.injEq, List.not_mem_nil, or_false] at hc; exact hc.1)) mw_L_feed ms_L_feed ml_L_121 (by omega) (by omega) (by omega) rfl (Nat.le_of_ble_eq_true rfl) dL_law_228 (fun v S1 hp => ?_)
  rcases hp with ⟨q, S2, hP, rfl, rfl⟩ | ⟨E, c9, hX, hc, rfl⟩
  · obtain ⟨q9, M9, e9, ⟨ad9, hm, F⟩, ⟨ok, hwt⟩, hR⟩ := (ag_feed (y := y) h i hd h40 (xs (6 * j + 1)) (xs (6 * j + 2)) (xs (6 * j + 3)) (xs (6 * j + 4)) (xs (6 * j + 5))).1 _ _ hP
    obtain rfl : q = q9 := by cases e9; rfl
    have hr3 := gRef_18 (gRef_cls hr F) (gFr_18 (o := o) (v := q.toInt64))
    have hm3 := gMail_18 hm (gFr_18 (o := o) (v := q.toInt64))
    have ho3 := (ho.fr F).fr (gFr_18 (o := o) (v := q.toInt64))
    obtain ⟨m1, m2, hm1, hm2, ct⟩ := hR _ _ hr3
    simp only [Option.toList, List.cons_append, List.nil_append]
    refine g_istore G dL_law_231 (gSt_5 (by first | rfl | exact g_c1_rf)) ?_
    first | refine g_aload_n G dL_law_233 rfl ?_ | refine g_aload_nN G dL_law_233 rfl ?_ | refine g_aload_nQ G dL_law_233 rfl ?_
    first | refine g_aload_n G dL_law_234 rfl ?_ | refine g_aload_nN G dL_law_234 rfl ?_ | refine g_aload_nQ G dL_law_234 rfl ?_
    refine g_iload G dL_law_235 rfl ?_
    refine g_iconst (v := nI 1) G dL_law_237 (by decide) ?_
    refine g_iadd G dL_law_238 (nI_add _ _) ?_
    refine g_sld G X (j := 6 * j + 1) (by omega) (by omega) dL_law_239 ?_
    first | refine g_aload_n G dL_law_240 rfl ?_ | refine g_aload_nN G dL_law_240 rfl ?_ | refine g_aload_nQ G dL_law_240 rfl ?_
    refine g_iload G dL_law_241 rfl ?_
    refine g_iconst (v := nI 2) G dL_law_243 (by decide) ?_
    refine g_iadd G dL_law_244 (nI_add _ _) ?_
    refine g_sld G X (j := 6 * j + 2) (by omega) (by omega) dL_law_245 ?_
    first | refine g_aload_n G dL_law_246 rfl ?_ | refine g_aload_nN G dL_law_246 rfl ?_ | refine g_aload_nQ G dL_law_246 rfl ?_
    refine g_iload G dL_law_247 rfl ?_
    refine g_iconst (v := nI 3) G dL_law_249 (by decide) ?_
    refine g_iadd G dL_law_250 (nI_add _ _) ?_
    refine g_sld G X (j := 6 * j + 3) (by omega) (by omega) dL_law_251 ?_
    first | refine g_aload_n G dL_law_252 rfl ?_ | refine g_aload_nN G dL_law_252 rfl ?_ | refine g_aload_nQ G dL_law_252 rfl ?_
    refine g_iload G dL_law_253 rfl ?_
    refine g_iconst (v := nI 4) G dL_law_255 (by decide) ?_
    refine g_iadd G dL_law_256 (nI_add _ _) ?_
    refine g_sld G X (j := 6 * j + 4) (by omega) (by omega) dL_law_257 ?_
    first | refine g_aload_n G dL_law_258 rfl ?_ | refine g_aload_nN G dL_law_258 rfl ?_ | refine g_aload_nQ G dL_law_258 rfl ?_
    refine g_iload G dL_law_259 rfl ?_
    refine g_iconst (v := nI 5) G dL_law_261 (by decide) ?_
    refine g_iadd G dL_law_262 (nI_add _ _) ?_
    refine g_sld G X (j := 6 * j + 5) (by omega) (by omega) dL_law_263 ?_
    refine g_callV (ci := 10) G ct mt_X9_feed mi_X9_feed ml_L_126 hr3.1.kd (by decide) rfl (by omega) (by omega) (by omega) rfl (Nat.le_of_ble_eq_true rfl) dL_law_264 (fun v4 S4 hp4 => ?_)
    obtain ⟨rfl, t4, b4, hr4, F4⟩ := hp4
    simp only [Option.toList, List.cons_append, List.nil_append]
    refine g_istore G dL_law_267 (gSt_6 (by first | rfl | exact g_c1_rf)) ?_
    first | refine g_aload_n G dL_law_269 rfl ?_ | refine g_aload_nN G dL_law_269 rfl ?_ | refine g_aload_nQ G dL_law_269 rfl ?_
    refine g_callVp (ci := 10) G (c_X9_thrown _ S4 y (nI 0) hr4.1.kd t4) mt_X9_thrown mi_X9_thrown ml_L_127 hr4.1.kd (by decide) rfl (by omega) (by omega) (by omega) rfl (Nat.le_of_ble_eq_true rfl) dL_law_270 ?_
    refine g_iload G dL_law_273 rfl ?_
    refine g_icmp_eq (tgt := 280) G dL_law_275 (by decide) (fun _ => ?_) (fun z => absurd rfl z)
    refine g_iload G dL_law_280 rfl ?_
    refine g_if_ne (tgt := 297) G dL_law_282 (by decide) (fun z => absurd nI_0 z) (fun _ => ?_)
    have ho4 := ho3.fr F4
    first | refine g_aload_n G dL_law_285 rfl ?_ | refine g_aload_nN G dL_law_285 rfl ?_ | refine g_aload_nQ G dL_law_285 rfl ?_
    refine g_iconst (v := nI 0) G dL_law_286 (by decide) ?_
    refine g_lald G ho4.1 (by decide) (by rw [ho4.2]; omega) (by omega) (gOut_Z F4) dL_law_287 ?_
    refine g_iload G dL_law_288 rfl ?_
    refine g_i2l G dL_law_290 (rfl) ?_
    refine g_lcmp G dL_law_291 ?_
    refine g_if_eq (tgt := 297) G dL_law_292 (by decide) (fun _ => ?_) (fun z => absurd (lg_cmp_s _) z)
    refine g_goto (tgt := 2423) G dL_law_297 (by decide) ?_
    exact gW.wid (by omega) (by omega) (kk S4 ad9 b4 M9 _ _ _ _ (gMail_ref hm3 F4) hr4 ok ho4)
  · obtain ⟨rfl, w0, c8, t, hc8, rfl, ht1, ht3, hR⟩ := (ag_feed (y := y) h i hd h40 (xs (6 * j + 1)) (xs (6 * j + 2)) (xs (6 * j + 3)) (xs (6 * j + 4)) (xs (6 * j + 5))).2 _ _ hX
    obtain rfl : c9 = nI t := gKey_one (by decide) hc hc8
    obtain ⟨v8, m1, m2, hm1, hm2, ct⟩ := hR _ _ hr
    simp only [Option.toList, List.cons_append, List.nil_append]
    refine g_istore G dL_law_231 (gSt_5 (by first | rfl | exact g_c1_rf)) ?_
    first | refine g_aload_n G dL_law_233 rfl ?_ | refine g_aload_nN G dL_law_233 rfl ?_ | refine g_aload_nQ G dL_law_233 rfl ?_
    first | refine g_aload_n G dL_law_234 rfl ?_ | refine g_aload_nN G dL_law_234 rfl ?_ | refine g_aload_nQ G dL_law_234 rfl ?_
    refine g_iload G dL_law_235 rfl ?_
    refine g_iconst (v := nI 1) G dL_law_237 (by decide) ?_
    refine g_iadd G dL_law_238 (nI_add _ _) ?_
    refine g_sld G X (j := 6 * j + 1) (by omega) (by omega) dL_law_239 ?_
    first | refine g_aload_n G dL_law_240 rfl ?_ | refine g_aload_nN G dL_law_240 rfl ?_ | refine g_aload_nQ G dL_law_240 rfl ?_
    refine g_iload G dL_law_241 rfl ?_
    refine g_iconst (v := nI 2) G dL_law_243 (by decide) ?_
    refine g_iadd G dL_law_244 (nI_add _ _) ?_
    refine g_sld G X (j := 6 * j + 2) (by omega) (by omega) dL_law_245 ?_
    first | refine g_aload_n G dL_law_246 rfl ?_ | refine g_aload_nN G dL_law_246 rfl ?_ | refine g_aload_nQ G dL_law_246 rfl ?_
    refine g_iload G dL_law_247 rfl ?_
    refine g_iconst (v := nI 3) G dL_law_249 (by decide) ?_
    refine g_iadd G dL_law_250 (nI_add _ _) ?_
    refine g_sld G X (j := 6 * j + 3) (by omega) (by omega) dL_law_251 ?_
    first | refine g_aload_n G dL_law_252 rfl ?_ | refine g_aload_nN G dL_law_252 rfl ?_ | refine g_aload_nQ G dL_law_252 rfl ?_
    refine g_iload G dL_law_253 rfl ?_
    refine g_iconst (v := nI 4) G dL_law_255 (by decide) ?_
    refine g_iadd G dL_law_256 (nI_add _ _) ?_
    refine g_sld G X (j := 6 * j + 4) (by omega) (by omega) dL_law_257 ?_
    first | refine g_aload_n G dL_law_258 rfl ?_ | refine g_aload_nN G dL_law_258 rfl ?_ | refine g_aload_nQ G dL_law_258 rfl ?_
    refine g_iload G dL_law_259 rfl ?_
    refine g_iconst (v := nI 5) G dL_law_261 (by decide) ?_
    refine g_iadd G dL_law_262 (nI_add _ _) ?_
    refine g_sld G X (j := 6 * j + 5) (by omega) (by omega) dL_law_263 ?_
    refine g_callV (ci := 10) G ct mt_X9_feed mi_X9_feed ml_L_126 hr.1.kd (by decide) rfl (by omega) (by omega) (by omega) rfl (Nat.le_of_ble_eq_true rfl) dL_law_264 (fun v4 S4 hp4 => ?_)
    obtain ⟨rfl, t4, b4, hr4, F4⟩ := hp4
    simp only [Option.toList, List.cons_append, List.nil_append]
    refine g_istore G dL_law_267 (gSt_6 (by first | rfl | exact g_c1_rf)) ?_
    first | refine g_aload_n G dL_law_269 rfl ?_ | refine g_aload_nN G dL_law_269 rfl ?_ | refine g_aload_nQ G dL_law_269 rfl ?_
    refine g_callVp (ci := 10) G (c_X9_thrown _ S4 y (nI t) hr4.1.kd t4) mt_X9_thrown mi_X9_thrown ml_L_127 hr4.1.kd (by decide) rfl (by omega) (by omega) (by omega) rfl (Nat.le_of_ble_eq_true rfl) dL_law_270 ?_
    refine g_iload G dL_law_273 rfl ?_
    refine g_icmp_eq (tgt := 280) G dL_law_275 (by decide) (fun _ => ?_) (fun z => absurd rfl z)
    refine g_iload G dL_law_280 rfl ?_
    refine g_if_ne (tgt := 297) G dL_law_282 (by decide) (fun _ => ?_) (fun z => absurd z (nI_ne0 (by omega) (by omega)))
    refine g_goto (tgt := 2423) G dL_law_297 (by decide) ?_
    exact gW.wid (by omega) (by omega) (kk S4 ad b4 M _ _ _ _ (gMail_ref h F4) hr4 (gOk_rf i hd) (ho.fr F4))
set_option maxHeartbeats 4000000 in
set_option maxRecDepth 100000 in
theorem bk_trim {Γ : gC} {b L x y o : Nat} {xs : Nat → Int32} (G : gOK Γ RL cL_law 12 601024 7293034) (X : gScr Γ b L xs) : gBlk Γ b L x y o 300 := by
  intro S ad bb M j k sl w5 w6 w7 w8 h hr i hd h40 ho hj hL hk hs kk
  have hb := i.b
  first | refine g_aload_n G dL_law_300 rfl ?_ | refine g_aload_nN G dL_law_300 rfl ?_ | refine g_aload_nQ G dL_law_300 rfl ?_
  first | refine g_aload_n G dL_law_301 rfl ?_ | refine g_aload_nN G dL_law_301 rfl ?_ | refine g_aload_nQ G dL_law_301 rfl ?_
  refine g_iload G dL_law_302 rfl ?_
  refine g_iconst (v := nI 1) G dL_law_304 (by decide) ?_
  refine g_iadd G dL_law_305 (nI_add _ _) ?_
  refine g_sld G X (j := 6 * j + 1) (by omega) (by omega) dL_law_306 ?_
  first | refine g_aload_n G dL_law_307 rfl ?_ | refine g_aload_nN G dL_law_307 rfl ?_ | refine g_aload_nQ G dL_law_307 rfl ?_
  refine g_callSW G (c_L_trim h.1.1 (c_X7_trim _ S x ad M h (xs (6 * j + 1))) (fun v S1 z => by obtain ⟨q, M9, rfl, ⟨ad9, -, F⟩, -⟩ := (ag_trim (y := y) h i hd h40 (xs (6 * j + 1))).1 v S1 z; exact ⟨⟨q, rfl⟩, ho.fr F⟩) (fun E S1 z => by obtain ⟨-, -, c, t, hc, -⟩ := (ag_trim (y := y) h i hd h40 (xs (6 * j + 1))).2 E S1 z; simp only [List.mem_cons, Prod.mk.injEq, List.not_mem_nil, or_false] at hc; exact hc.1)) mw_L_trim ms_L_trim ml_L_131 (by omega) (by omega) (by omega) rfl (Nat.le_of_ble_eq_true rfl) dL_law_308 (fun v S1 hp => ?_)
  rcases hp with ⟨q, S2, hP, rfl, rfl⟩ | ⟨E, c9, hX, hc, rfl⟩
  · obtain ⟨q9, M9, e9, ⟨ad9, hm, F⟩, ⟨ok, hwt⟩, hR⟩ := (ag_trim (y := y) h i hd h40 (xs (6 * j + 1))).1 _ _ hP
    obtain rfl : q = q9 := by cases e9; rfl
    have hr3 := gRef_18 (gRef_cls hr F) (gFr_18 (o := o) (v := q.toInt64))
    have hm3 := gMail_18 hm (gFr_18 (o := o) (v := q.toInt64))
    have ho3 := (ho.fr F).fr (gFr_18 (o := o) (v := q.toInt64))
    obtain ⟨m1, m2, hm1, hm2, ct⟩ := hR _ _ hr3
    simp only [Option.toList, List.cons_append, List.nil_append]
    refine g_istore G dL_law_311 (gSt_5 (by first | rfl | exact g_c1_rf)) ?_
    first | refine g_aload_n G dL_law_313 rfl ?_ | refine g_aload_nN G dL_law_313 rfl ?_ | refine g_aload_nQ G dL_law_313 rfl ?_
    first | refine g_aload_n G dL_law_314 rfl ?_ | refine g_aload_nN G dL_law_314 rfl ?_ | refine g_aload_nQ G dL_law_314 rfl ?_
    refine g_iload G dL_law_315 rfl ?_
    refine g_iconst (v := nI 1) G dL_law_317 (by decide) ?_
    refine g_iadd G dL_law_318 (nI_add _ _) ?_
    refine g_sld G X (j := 6 * j + 1) (by omega) (by omega) dL_law_319 ?_
    refine g_callV (ci := 10) G ct mt_X9_trim mi_X9_trim ml_L_134 hr3.1.kd (by decide) rfl (by omega) (by omega) (by omega) rfl (Nat.le_of_ble_eq_true rfl) dL_law_320 (fun v4 S4 hp4 => ?_)
    obtain ⟨rfl, t4, b4, hr4, F4⟩ := hp4
    simp only [Option.toList, List.cons_append, List.nil_append]
    refine g_istore G dL_law_323 (gSt_6 (by first | rfl | exact g_c1_rf)) ?_
    first | refine g_aload_n G dL_law_325 rfl ?_ | refine g_aload_nN G dL_law_325 rfl ?_ | refine g_aload_nQ G dL_law_325 rfl ?_
    refine g_callVp (ci := 10) G (c_X9_thrown _ S4 y (nI 0) hr4.1.kd t4) mt_X9_thrown mi_X9_thrown ml_L_127 hr4.1.kd (by decide) rfl (by omega) (by omega) (by omega) rfl (Nat.le_of_ble_eq_true rfl) dL_law_326 ?_
    refine g_iload G dL_law_329 rfl ?_
    refine g_icmp_eq (tgt := 336) G dL_law_331 (by decide) (fun _ => ?_) (fun z => absurd rfl z)
    refine g_iload G dL_law_336 rfl ?_
    refine g_if_ne (tgt := 353) G dL_law_338 (by decide) (fun z => absurd nI_0 z) (fun _ => ?_)
    have ho4 := ho3.fr F4
    first | refine g_aload_n G dL_law_341 rfl ?_ | refine g_aload_nN G dL_law_341 rfl ?_ | refine g_aload_nQ G dL_law_341 rfl ?_
    refine g_iconst (v := nI 0) G dL_law_342 (by decide) ?_
    refine g_lald G ho4.1 (by decide) (by rw [ho4.2]; omega) (by omega) (gOut_Z F4) dL_law_343 ?_
    refine g_iload G dL_law_344 rfl ?_
    refine g_i2l G dL_law_346 (rfl) ?_
    refine g_lcmp G dL_law_347 ?_
    refine g_if_eq (tgt := 353) G dL_law_348 (by decide) (fun _ => ?_) (fun z => absurd (lg_cmp_s _) z)
    refine g_goto (tgt := 2423) G dL_law_353 (by decide) ?_
    exact gW.wid (by omega) (by omega) (kk S4 ad9 b4 M9 _ _ _ _ (gMail_ref hm3 F4) hr4 ok ho4)
  · obtain ⟨rfl, w0, c8, t, hc8, rfl, ht1, ht3, hR⟩ := (ag_trim (y := y) h i hd h40 (xs (6 * j + 1))).2 _ _ hX
    obtain rfl : c9 = nI t := gKey_one (by decide) hc hc8
    obtain ⟨v8, m1, m2, hm1, hm2, ct⟩ := hR _ _ hr
    simp only [Option.toList, List.cons_append, List.nil_append]
    refine g_istore G dL_law_311 (gSt_5 (by first | rfl | exact g_c1_rf)) ?_
    first | refine g_aload_n G dL_law_313 rfl ?_ | refine g_aload_nN G dL_law_313 rfl ?_ | refine g_aload_nQ G dL_law_313 rfl ?_
    first | refine g_aload_n G dL_law_314 rfl ?_ | refine g_aload_nN G dL_law_314 rfl ?_ | refine g_aload_nQ G dL_law_314 rfl ?_
    refine g_iload G dL_law_315 rfl ?_
    refine g_iconst (v := nI 1) G dL_law_317 (by decide) ?_
    refine g_iadd G dL_law_318 (nI_add _ _) ?_
    refine g_sld G X (j := 6 * j + 1) (by omega) (by omega) dL_law_319 ?_
    refine g_callV (ci := 10) G ct mt_X9_trim mi_X9_trim ml_L_134 hr.1.kd (by decide) rfl (by omega) (by omega) (by omega) rfl (Nat.le_of_ble_eq_true rfl) dL_law_320 (fun v4 S4 hp4 => ?_)
    obtain ⟨rfl, t4, b4, hr4, F4⟩ := hp4
    simp only [Option.toList, List.cons_append, List.nil_append]
    refine g_istore G dL_law_323 (gSt_6 (by first | rfl | exact g_c1_rf)) ?_
    first | refine g_aload_n G dL_law_325 rfl ?_ | refine g_aload_nN G dL_law_325 rfl ?_ | refine g_aload_nQ G dL_law_325 rfl ?_
    refine g_callVp (ci := 10) G (c_X9_thrown _ S4 y (nI t) hr4.1.kd t4) mt_X9_thrown mi_X9_thrown ml_L_127 hr4.1.kd (by decide) rfl (by omega) (by omega) (by omega) rfl (Nat.le_of_ble_eq_true rfl) dL_law_326 ?_
    refine g_iload G dL_law_329 rfl ?_
    refine g_icmp_eq (tgt := 336) G dL_law_331 (by decide) (fun _ => ?_) (fun z => absurd rfl z)
    refine g_iload G dL_law_336 rfl ?_
    refine g_if_ne (tgt := 353) G dL_law_338 (by decide) (fun _ => ?_) (fun z => absurd z (nI_ne0 (by omega) (by omega)))
    refine g_goto (tgt := 2423) G dL_law_353 (by decide) ?_
    exact gW.wid (by omega) (by omega) (kk S4 ad b4 M _ _ _ _ (gMail_ref h F4) hr4 (gOk_rf i hd) (ho.fr F4))
set_option maxHeartbeats 4000000 in
set_option maxRecDepth 100000 in
theorem bk_file {Γ : gC} {b L x y o : Nat} {xs : Nat → Int32} (G : gOK Γ RL cL_law 12 601024 7293034) (X : gScr Γ b L xs) : gBlk Γ b L x y o 356 := by
  intro S ad bb M j k sl w5 w6 w7 w8 h hr i hd h40 ho hj hL hk hs kk
  have hb := i.b
  have hwf := gWf_le M (xs (6 * j + 1))
  first | refine g_aload_n G dL_law_356 rfl ?_ | refine g_aload_nN G dL_law_356 rfl ?_ | refine g_aload_nQ G dL_law_356 rfl ?_
  first | refine g_aload_n G dL_law_357 rfl ?_ | refine g_aload_nN G dL_law_357 rfl ?_ | refine g_aload_nQ G dL_law_357 rfl ?_
  refine g_iload G dL_law_358 rfl ?_
  refine g_iconst (v := nI 1) G dL_law_360 (by decide) ?_
  refine g_iadd G dL_law_361 (nI_add _ _) ?_
  refine g_sld G X (j := 6 * j + 1) (by omega) (by omega) dL_law_362 ?_
  first | refine g_aload_n G dL_law_363 rfl ?_ | refine g_aload_nN G dL_law_363 rfl ?_ | refine g_aload_nQ G dL_law_363 rfl ?_
  refine g_callSW G (c_L_file h.1.1 (c_X7_file _ S x ad M h i.1 (xs (6 * j + 1)) i.2.2.2.2 (gWf M (xs (6 * j + 1))) (fun c g1 g2 g3 g4 => gWf_1 g1 g2 g3 g4)) (fun v S1 z => by obtain ⟨q, M9, rfl, ⟨ad9, -, F⟩, -⟩ := (ag_file (y := y) h i hd h40 (xs (6 * j + 1))).1 v S1 z; exact ⟨⟨q, rfl⟩, ho.fr F⟩) (fun E S1 z => by obtain ⟨-, -, c, t, hc, -⟩ := (ag_file (y := y) h i hd h40 (xs (6 * j + 1))).2 E S1 z; simp only [List.mem_cons, Prod.mk.injEq, List.not_mem_nil, or_false] at hc; exact hc.imp And.left And.left)) mw_L_file ms_L_file ml_L_135 (by omega) (by omega) (by omega) rfl (Nat.le_of_ble_eq_true rfl) dL_law_364 (fun v S1 hp => ?_)
  rcases hp with ⟨q, S2, hP, rfl, rfl⟩ | ⟨E, c9, hX, hc, rfl⟩
  · obtain ⟨q9, M9, e9, ⟨ad9, hm, F⟩, ⟨ok, hwt⟩, hR⟩ := (ag_file (y := y) h i hd h40 (xs (6 * j + 1))).1 _ _ hP
    obtain rfl : q = q9 := by cases e9; rfl
    have hr3 := gRef_18 (gRef_cls hr F) (gFr_18 (o := o) (v := q.toInt64))
    have hm3 := gMail_18 hm (gFr_18 (o := o) (v := q.toInt64))
    have ho3 := (ho.fr F).fr (gFr_18 (o := o) (v := q.toInt64))
    obtain ⟨m1, m2, hm1, hm2, ct⟩ := hR _ _ hr3
    simp only [Option.toList, List.cons_append, List.nil_append]
    refine g_istore G dL_law_367 (gSt_5 (by first | rfl | exact g_c1_rf)) ?_
    first | refine g_aload_n G dL_law_369 rfl ?_ | refine g_aload_nN G dL_law_369 rfl ?_ | refine g_aload_nQ G dL_law_369 rfl ?_
    first | refine g_aload_n G dL_law_370 rfl ?_ | refine g_aload_nN G dL_law_370 rfl ?_ | refine g_aload_nQ G dL_law_370 rfl ?_
    refine g_iload G dL_law_371 rfl ?_
    refine g_iconst (v := nI 1) G dL_law_373 (by decide) ?_
    refine g_iadd G dL_law_374 (nI_add _ _) ?_
    refine g_sld G X (j := 6 * j + 1) (by omega) (by omega) dL_law_375 ?_
    refine g_callV (ci := 10) G ct mt_X9_file mi_X9_file ml_L_137 hr3.1.kd (by decide) rfl (by omega) (by omega) (by omega) rfl (Nat.le_of_ble_eq_true rfl) dL_law_376 (fun v4 S4 hp4 => ?_)
    obtain ⟨rfl, t4, b4, hr4, F4⟩ := hp4
    simp only [Option.toList, List.cons_append, List.nil_append]
    refine g_istore G dL_law_379 (gSt_6 (by first | rfl | exact g_c1_rf)) ?_
    first | refine g_aload_n G dL_law_381 rfl ?_ | refine g_aload_nN G dL_law_381 rfl ?_ | refine g_aload_nQ G dL_law_381 rfl ?_
    refine g_callVp (ci := 10) G (c_X9_thrown _ S4 y (nI 0) hr4.1.kd t4) mt_X9_thrown mi_X9_thrown ml_L_127 hr4.1.kd (by decide) rfl (by omega) (by omega) (by omega) rfl (Nat.le_of_ble_eq_true rfl) dL_law_382 ?_
    refine g_iload G dL_law_385 rfl ?_
    refine g_icmp_eq (tgt := 392) G dL_law_387 (by decide) (fun _ => ?_) (fun z => absurd rfl z)
    refine g_iload G dL_law_392 rfl ?_
    refine g_if_ne (tgt := 409) G dL_law_394 (by decide) (fun z => absurd nI_0 z) (fun _ => ?_)
    have ho4 := ho3.fr F4
    first | refine g_aload_n G dL_law_397 rfl ?_ | refine g_aload_nN G dL_law_397 rfl ?_ | refine g_aload_nQ G dL_law_397 rfl ?_
    refine g_iconst (v := nI 0) G dL_law_398 (by decide) ?_
    refine g_lald G ho4.1 (by decide) (by rw [ho4.2]; omega) (by omega) (gOut_Z F4) dL_law_399 ?_
    refine g_iload G dL_law_400 rfl ?_
    refine g_i2l G dL_law_402 (rfl) ?_
    refine g_lcmp G dL_law_403 ?_
    refine g_if_eq (tgt := 409) G dL_law_404 (by decide) (fun _ => ?_) (fun z => absurd (lg_cmp_s _) z)
    refine g_goto (tgt := 2423) G dL_law_409 (by decide) ?_
    exact gW.wid (by omega) (by omega) (kk S4 ad9 b4 M9 _ _ _ _ (gMail_ref hm3 F4) hr4 ok ho4)
  · obtain ⟨rfl, w0, c8, t, hc8, rfl, ht1, ht3, hR⟩ := (ag_file (y := y) h i hd h40 (xs (6 * j + 1))).2 _ _ hX
    obtain rfl : c9 = nI t := gKey_one (by decide) hc hc8
    obtain ⟨v8, m1, m2, hm1, hm2, ct⟩ := hR _ _ hr
    simp only [Option.toList, List.cons_append, List.nil_append]
    refine g_istore G dL_law_367 (gSt_5 (by first | rfl | exact g_c1_rf)) ?_
    first | refine g_aload_n G dL_law_369 rfl ?_ | refine g_aload_nN G dL_law_369 rfl ?_ | refine g_aload_nQ G dL_law_369 rfl ?_
    first | refine g_aload_n G dL_law_370 rfl ?_ | refine g_aload_nN G dL_law_370 rfl ?_ | refine g_aload_nQ G dL_law_370 rfl ?_
    refine g_iload G dL_law_371 rfl ?_
    refine g_iconst (v := nI 1) G dL_law_373 (by decide) ?_
    refine g_iadd G dL_law_374 (nI_add _ _) ?_
    refine g_sld G X (j := 6 * j + 1) (by omega) (by omega) dL_law_375 ?_
    refine g_callV (ci := 10) G ct mt_X9_file mi_X9_file ml_L_137 hr.1.kd (by decide) rfl (by omega) (by omega) (by omega) rfl (Nat.le_of_ble_eq_true rfl) dL_law_376 (fun v4 S4 hp4 => ?_)
    obtain ⟨rfl, t4, b4, hr4, F4⟩ := hp4
    simp only [Option.toList, List.cons_append, List.nil_append]
    refine g_istore G dL_law_379 (gSt_6 (by first | rfl | exact g_c1_rf)) ?_
    first | refine g_aload_n G dL_law_381 rfl ?_ | refine g_aload_nN G dL_law_381 rfl ?_ | refine g_aload_nQ G dL_law_381 rfl ?_
    refine g_callVp (ci := 10) G (c_X9_thrown _ S4 y (nI t) hr4.1.kd t4) mt_X9_thrown mi_X9_thrown ml_L_127 hr4.1.kd (by decide) rfl (by omega) (by omega) (by omega) rfl (Nat.le_of_ble_eq_true rfl) dL_law_382 ?_
    refine g_iload G dL_law_385 rfl ?_
    refine g_icmp_eq (tgt := 392) G dL_law_387 (by decide) (fun _ => ?_) (fun z => absurd rfl z)
    refine g_iload G dL_law_392 rfl ?_
    refine g_if_ne (tgt := 409) G dL_law_394 (by decide) (fun _ => ?_) (fun z => absurd z (nI_ne0 (by omega) (by omega)))
    refine g_goto (tgt := 2423) G dL_law_409 (by decide) ?_
    exact gW.wid (by omega) (by omega) (kk S4 ad b4 M _ _ _ _ (gMail_ref h F4) hr4 (gOk_rf i hd) (ho.fr F4))
set_option maxHeartbeats 4000000 in
set_option maxRecDepth 100000 in
theorem bk_veil {Γ : gC} {b L x y o : Nat} {xs : Nat → Int32} (G : gOK Γ RL cL_law 12 601024 7293034) (X : gScr Γ b L xs) : gBlk Γ b L x y o 425 := by
  intro S ad bb M j k sl w5 w6 w7 w8 h hr i hd h40 ho hj hL hk hs kk
  have hb := i.b
  first | refine g_aload_n G dL_law_425 rfl ?_ | refine g_aload_nN G dL_law_425 rfl ?_ | refine g_aload_nQ G dL_law_425 rfl ?_
  first | refine g_aload_n G dL_law_426 rfl ?_ | refine g_aload_nN G dL_law_426 rfl ?_ | refine g_aload_nQ G dL_law_426 rfl ?_
  refine g_iload G dL_law_427 rfl ?_
  refine g_iconst (v := nI 1) G dL_law_429 (by decide) ?_
  refine g_iadd G dL_law_430 (nI_add _ _) ?_
  refine g_sld G X (j := 6 * j + 1) (by omega) (by omega) dL_law_431 ?_
  first | refine g_aload_n G dL_law_432 rfl ?_ | refine g_aload_nN G dL_law_432 rfl ?_ | refine g_aload_nQ G dL_law_432 rfl ?_
  refine g_iload G dL_law_433 rfl ?_
  refine g_iconst (v := nI 2) G dL_law_435 (by decide) ?_
  refine g_iadd G dL_law_436 (nI_add _ _) ?_
  refine g_sld G X (j := 6 * j + 2) (by omega) (by omega) dL_law_437 ?_
  first | refine g_aload_n G dL_law_438 rfl ?_ | refine g_aload_nN G dL_law_438 rfl ?_ | refine g_aload_nQ G dL_law_438 rfl ?_
  refine g_iload G dL_law_439 rfl ?_
  refine g_iconst (v := nI 3) G dL_law_441 (by decide) ?_
  refine g_iadd G dL_law_442 (nI_add _ _) ?_
  refine g_sld G X (j := 6 * j + 3) (by omega) (by omega) dL_law_443 ?_
  first | refine g_aload_n G dL_law_444 rfl ?_ | refine g_aload_nN G dL_law_444 rfl ?_ | refine g_aload_nQ G dL_law_444 rfl ?_
  refine g_iload G dL_law_445 rfl ?_
  refine g_iconst (v := nI 4) G dL_law_447 (by decide) ?_
  refine g_iadd G dL_law_448 (nI_add _ _) ?_
  refine g_sld G X (j := 6 * j + 4) (by omega) (by omega) dL_law_449 ?_
  first | refine g_aload_n G dL_law_450 rfl ?_ | refine g_aload_nN G dL_law_450 rfl ?_ | refine g_aload_nQ G dL_law_450 rfl ?_
  refine g_callSW G (c_L_veil h.1.1 (c_X7_veil _ S x ad M h (xs (6 * j + 1)) (xs (6 * j + 2)) (xs (6 * j + 3)) (xs (6 * j + 4))) (fun v S1 z => by obtain ⟨q, M9, rfl, ⟨ad9, -, F⟩, -⟩ := (ag_veil (y := y) h i hd h40 (xs (6 * j + 1)) (xs (6 * j + 2)) (xs (6 * j + 3)) (xs (6 * j + 4))).1 v S1 z; exact ⟨⟨q, rfl⟩, ho.fr F⟩) (fun E S1 z => by obtain ⟨-, -, c, t, hc, -⟩ := (ag_veil (y := y) h i hd h40 (xs (6 * j + 1)) (xs (6 * j + 2)) (xs (6 * j + 3)) (xs (6 * j + 4))).2 E S1 z; simp only [List.mem_cons, Prod.mk.injEq, List.not_mem_nil, or_false] at hc; exact hc.imp And.left And.left)) mw_L_veil ms_L_veil ml_L_142 (by omega) (by omega) (by omega) rfl (Nat.le_of_ble_eq_true rfl) dL_law_451 (fun v S1 hp => ?_)
  rcases hp with ⟨q, S2, hP, rfl, rfl⟩ | ⟨E, c9, hX, hc, rfl⟩
  · obtain ⟨q9, M9, e9, ⟨ad9, hm, F⟩, ⟨ok, hwt⟩, hR⟩ := (ag_veil (y := y) h i hd h40 (xs (6 * j + 1)) (xs (6 * j + 2)) (xs (6 * j + 3)) (xs (6 * j + 4))).1 _ _ hP
    obtain rfl : q = q9 := by cases e9; rfl
    have hr3 := gRef_18 (gRef_cls hr F) (gFr_18 (o := o) (v := q.toInt64))
    have hm3 := gMail_18 hm (gFr_18 (o := o) (v := q.toInt64))
    have ho3 := (ho.fr F).fr (gFr_18 (o := o) (v := q.toInt64))
    obtain ⟨m1, m2, hm1, hm2, ct⟩ := hR _ _ hr3
    simp only [Option.toList, List.cons_append, List.nil_append]
    refine g_istore G dL_law_454 (gSt_5 (by first | rfl | exact g_c1_rf)) ?_
    first | refine g_aload_n G dL_law_456 rfl ?_ | refine g_aload_nN G dL_law_456 rfl ?_ | refine g_aload_nQ G dL_law_456 rfl ?_
    first | refine g_aload_n G dL_law_457 rfl ?_ | refine g_aload_nN G dL_law_457 rfl ?_ | refine g_aload_nQ G dL_law_457 rfl ?_
    refine g_iload G dL_law_458 rfl ?_
    refine g_iconst (v := nI 1) G dL_law_460 (by decide) ?_
    refine g_iadd G dL_law_461 (nI_add _ _) ?_
    refine g_sld G X (j := 6 * j + 1) (by omega) (by omega) dL_law_462 ?_
    first | refine g_aload_n G dL_law_463 rfl ?_ | refine g_aload_nN G dL_law_463 rfl ?_ | refine g_aload_nQ G dL_law_463 rfl ?_
    refine g_iload G dL_law_464 rfl ?_
    refine g_iconst (v := nI 2) G dL_law_466 (by decide) ?_
    refine g_iadd G dL_law_467 (nI_add _ _) ?_
    refine g_sld G X (j := 6 * j + 2) (by omega) (by omega) dL_law_468 ?_
    first | refine g_aload_n G dL_law_469 rfl ?_ | refine g_aload_nN G dL_law_469 rfl ?_ | refine g_aload_nQ G dL_law_469 rfl ?_
    refine g_iload G dL_law_470 rfl ?_
    refine g_iconst (v := nI 3) G dL_law_472 (by decide) ?_
    refine g_iadd G dL_law_473 (nI_add _ _) ?_
    refine g_sld G X (j := 6 * j + 3) (by omega) (by omega) dL_law_474 ?_
    first | refine g_aload_n G dL_law_475 rfl ?_ | refine g_aload_nN G dL_law_475 rfl ?_ | refine g_aload_nQ G dL_law_475 rfl ?_
    refine g_iload G dL_law_476 rfl ?_
    refine g_iconst (v := nI 4) G dL_law_478 (by decide) ?_
    refine g_iadd G dL_law_479 (nI_add _ _) ?_
    refine g_sld G X (j := 6 * j + 4) (by omega) (by omega) dL_law_480 ?_
    refine g_callV (ci := 10) G ct mt_X9_veil mi_X9_veil ml_L_145 hr3.1.kd (by decide) rfl (by omega) (by omega) (by omega) rfl (Nat.le_of_ble_eq_true rfl) dL_law_481 (fun v4 S4 hp4 => ?_)
    obtain ⟨rfl, t4, b4, hr4, F4⟩ := hp4
    simp only [Option.toList, List.cons_append, List.nil_append]
    refine g_istore G dL_law_484 (gSt_6 (by first | rfl | exact g_c1_rf)) ?_
    first | refine g_aload_n G dL_law_486 rfl ?_ | refine g_aload_nN G dL_law_486 rfl ?_ | refine g_aload_nQ G dL_law_486 rfl ?_
    refine g_callVp (ci := 10) G (c_X9_thrown _ S4 y (nI 0) hr4.1.kd t4) mt_X9_thrown mi_X9_thrown ml_L_127 hr4.1.kd (by decide) rfl (by omega) (by omega) (by omega) rfl (Nat.le_of_ble_eq_true rfl) dL_law_487 ?_
    refine g_iload G dL_law_490 rfl ?_
    refine g_icmp_eq (tgt := 497) G dL_law_492 (by decide) (fun _ => ?_) (fun z => absurd rfl z)
    refine g_iload G dL_law_497 rfl ?_
    refine g_if_ne (tgt := 514) G dL_law_499 (by decide) (fun z => absurd nI_0 z) (fun _ => ?_)
    have ho4 := ho3.fr F4
    first | refine g_aload_n G dL_law_502 rfl ?_ | refine g_aload_nN G dL_law_502 rfl ?_ | refine g_aload_nQ G dL_law_502 rfl ?_
    refine g_iconst (v := nI 0) G dL_law_503 (by decide) ?_
    refine g_lald G ho4.1 (by decide) (by rw [ho4.2]; omega) (by omega) (gOut_Z F4) dL_law_504 ?_
    refine g_iload G dL_law_505 rfl ?_
    refine g_i2l G dL_law_507 (rfl) ?_
    refine g_lcmp G dL_law_508 ?_
    refine g_if_eq (tgt := 514) G dL_law_509 (by decide) (fun _ => ?_) (fun z => absurd (lg_cmp_s _) z)
    refine g_goto (tgt := 2423) G dL_law_514 (by decide) ?_
    exact gW.wid (by omega) (by omega) (kk S4 ad9 b4 M9 _ _ _ _ (gMail_ref hm3 F4) hr4 ok ho4)
  · obtain ⟨rfl, w0, c8, t, hc8, rfl, ht1, ht3, hR⟩ := (ag_veil (y := y) h i hd h40 (xs (6 * j + 1)) (xs (6 * j + 2)) (xs (6 * j + 3)) (xs (6 * j + 4))).2 _ _ hX
    obtain rfl : c9 = nI t := gKey_one (by decide) hc hc8
    obtain ⟨v8, m1, m2, hm1, hm2, ct⟩ := hR _ _ hr
    simp only [Option.toList, List.cons_append, List.nil_append]
    refine g_istore G dL_law_454 (gSt_5 (by first | rfl | exact g_c1_rf)) ?_
    first | refine g_aload_n G dL_law_456 rfl ?_ | refine g_aload_nN G dL_law_456 rfl ?_ | refine g_aload_nQ G dL_law_456 rfl ?_
    first | refine g_aload_n G dL_law_457 rfl ?_ | refine g_aload_nN G dL_law_457 rfl ?_ | refine g_aload_nQ G dL_law_457 rfl ?_
    refine g_iload G dL_law_458 rfl ?_
    refine g_iconst (v := nI 1) G dL_law_460 (by decide) ?_
    refine g_iadd G dL_law_461 (nI_add _ _) ?_
    refine g_sld G X (j := 6 * j + 1) (by omega) (by omega) dL_law_462 ?_
    first | refine g_aload_n G dL_law_463 rfl ?_ | refine g_aload_nN G dL_law_463 rfl ?_ | refine g_aload_nQ G dL_law_463 rfl ?_
    refine g_iload G dL_law_464 rfl ?_
    refine g_iconst (v := nI 2) G dL_law_466 (by decide) ?_
    refine g_iadd G dL_law_467 (nI_add _ _) ?_
    refine g_sld G X (j := 6 * j + 2) (by omega) (by omega) dL_law_468 ?_
    first | refine g_aload_n G dL_law_469 rfl ?_ | refine g_aload_nN G dL_law_469 rfl ?_ | refine g_aload_nQ G dL_law_469 rfl ?_
    refine g_iload G dL_law_470 rfl ?_
    refine g_iconst (v := nI 3) G dL_law_472 (by decide) ?_
    refine g_iadd G dL_law_473 (nI_add _ _) ?_
    refine g_sld G X (j := 6 * j + 3) (by omega) (by omega) dL_law_474 ?_
    first | refine g_aload_n G dL_law_475 rfl ?_ | refine g_aload_nN G dL_law_475 rfl ?_ | refine g_aload_nQ G dL_law_475 rfl ?_
    refine g_iload G dL_law_476 rfl ?_
    refine g_iconst (v := nI 4) G dL_law_478 (by decide) ?_
    refine g_iadd G dL_law_479 (nI_add _ _) ?_
    refine g_sld G X (j := 6 * j + 4) (by omega) (by omega) dL_law_480 ?_
    refine g_callV (ci := 10) G ct mt_X9_veil mi_X9_veil ml_L_145 hr.1.kd (by decide) rfl (by omega) (by omega) (by omega) rfl (Nat.le_of_ble_eq_true rfl) dL_law_481 (fun v4 S4 hp4 => ?_)
    obtain ⟨rfl, t4, b4, hr4, F4⟩ := hp4
    simp only [Option.toList, List.cons_append, List.nil_append]
    refine g_istore G dL_law_484 (gSt_6 (by first | rfl | exact g_c1_rf)) ?_
    first | refine g_aload_n G dL_law_486 rfl ?_ | refine g_aload_nN G dL_law_486 rfl ?_ | refine g_aload_nQ G dL_law_486 rfl ?_
    refine g_callVp (ci := 10) G (c_X9_thrown _ S4 y (nI t) hr4.1.kd t4) mt_X9_thrown mi_X9_thrown ml_L_127 hr4.1.kd (by decide) rfl (by omega) (by omega) (by omega) rfl (Nat.le_of_ble_eq_true rfl) dL_law_487 ?_
    refine g_iload G dL_law_490 rfl ?_
    refine g_icmp_eq (tgt := 497) G dL_law_492 (by decide) (fun _ => ?_) (fun z => absurd rfl z)
    refine g_iload G dL_law_497 rfl ?_
    refine g_if_ne (tgt := 514) G dL_law_499 (by decide) (fun _ => ?_) (fun z => absurd z (nI_ne0 (by omega) (by omega)))
    refine g_goto (tgt := 2423) G dL_law_514 (by decide) ?_
    exact gW.wid (by omega) (by omega) (kk S4 ad b4 M _ _ _ _ (gMail_ref h F4) hr4 (gOk_rf i hd) (ho.fr F4))
set_option maxHeartbeats 4000000 in
set_option maxRecDepth 100000 in
theorem bk_document {Γ : gC} {b L x y o : Nat} {xs : Nat → Int32} (G : gOK Γ RL cL_law 12 601024 7293034) (X : gScr Γ b L xs) : gBlk Γ b L x y o 517 := by
  intro S ad bb M j k sl w5 w6 w7 w8 h hr i hd h40 ho hj hL hk hs kk
  have hb := i.b
  first | refine g_aload_n G dL_law_517 rfl ?_ | refine g_aload_nN G dL_law_517 rfl ?_ | refine g_aload_nQ G dL_law_517 rfl ?_
  first | refine g_aload_n G dL_law_518 rfl ?_ | refine g_aload_nN G dL_law_518 rfl ?_ | refine g_aload_nQ G dL_law_518 rfl ?_
  refine g_iload G dL_law_519 rfl ?_
  refine g_iconst (v := nI 1) G dL_law_521 (by decide) ?_
  refine g_iadd G dL_law_522 (nI_add _ _) ?_
  refine g_sld G X (j := 6 * j + 1) (by omega) (by omega) dL_law_523 ?_
  first | refine g_aload_n G dL_law_524 rfl ?_ | refine g_aload_nN G dL_law_524 rfl ?_ | refine g_aload_nQ G dL_law_524 rfl ?_
  refine g_iload G dL_law_525 rfl ?_
  refine g_iconst (v := nI 2) G dL_law_527 (by decide) ?_
  refine g_iadd G dL_law_528 (nI_add _ _) ?_
  refine g_sld G X (j := 6 * j + 2) (by omega) (by omega) dL_law_529 ?_
  first | refine g_aload_n G dL_law_530 rfl ?_ | refine g_aload_nN G dL_law_530 rfl ?_ | refine g_aload_nQ G dL_law_530 rfl ?_
  refine g_callSW G (c_L_document h.1.1 (c_X7_document _ S x ad M h (xs (6 * j + 1)) (xs (6 * j + 2))) (fun v S1 z => by obtain ⟨q, M9, rfl, ⟨ad9, -, F⟩, -⟩ := (ag_document (y := y) h i hd h40 (xs (6 * j + 1)) (xs (6 * j + 2))).1 v S1 z; exact ⟨⟨q, rfl⟩, ho.fr F⟩) (fun E S1 z => by obtain ⟨-, -, c, t, hc, -⟩ := (ag_document (y := y) h i hd h40 (xs (6 * j + 1)) (xs (6 * j + 2))).2 E S1 z; simp only [List.mem_cons, Prod.mk.injEq, List.not_mem_nil, or_false] at hc; exact hc.1)) mw_L_document ms_L_document ml_L_146 (by omega) (by omega) (by omega) rfl (Nat.le_of_ble_eq_true rfl) dL_law_531 (fun v S1 hp => ?_)
  rcases hp with ⟨q, S2, hP, rfl, rfl⟩ | ⟨E, c9, hX, hc, rfl⟩
  · obtain ⟨q9, M9, e9, ⟨ad9, hm, F⟩, ⟨ok, hwt⟩, hR⟩ := (ag_document (y := y) h i hd h40 (xs (6 * j + 1)) (xs (6 * j + 2))).1 _ _ hP
    obtain rfl : q = q9 := by cases e9; rfl
    have hr3 := gRef_18 (gRef_cls hr F) (gFr_18 (o := o) (v := q.toInt64))
    have hm3 := gMail_18 hm (gFr_18 (o := o) (v := q.toInt64))
    have ho3 := (ho.fr F).fr (gFr_18 (o := o) (v := q.toInt64))
    obtain ⟨m1, m2, hm1, hm2, ct⟩ := hR _ _ hr3
    simp only [Option.toList, List.cons_append, List.nil_append]
    refine g_istore G dL_law_534 (gSt_5 (by first | rfl | exact g_c1_rf)) ?_
    first | refine g_aload_n G dL_law_536 rfl ?_ | refine g_aload_nN G dL_law_536 rfl ?_ | refine g_aload_nQ G dL_law_536 rfl ?_
    first | refine g_aload_n G dL_law_537 rfl ?_ | refine g_aload_nN G dL_law_537 rfl ?_ | refine g_aload_nQ G dL_law_537 rfl ?_
    refine g_iload G dL_law_538 rfl ?_
    refine g_iconst (v := nI 1) G dL_law_540 (by decide) ?_
    refine g_iadd G dL_law_541 (nI_add _ _) ?_
    refine g_sld G X (j := 6 * j + 1) (by omega) (by omega) dL_law_542 ?_
    first | refine g_aload_n G dL_law_543 rfl ?_ | refine g_aload_nN G dL_law_543 rfl ?_ | refine g_aload_nQ G dL_law_543 rfl ?_
    refine g_iload G dL_law_544 rfl ?_
    refine g_iconst (v := nI 2) G dL_law_546 (by decide) ?_
    refine g_iadd G dL_law_547 (nI_add _ _) ?_
    refine g_sld G X (j := 6 * j + 2) (by omega) (by omega) dL_law_548 ?_
    refine g_callV (ci := 10) G ct mt_X9_document mi_X9_document ml_L_149 hr3.1.kd (by decide) rfl (by omega) (by omega) (by omega) rfl (Nat.le_of_ble_eq_true rfl) dL_law_549 (fun v4 S4 hp4 => ?_)
    obtain ⟨rfl, t4, b4, hr4, F4⟩ := hp4
    simp only [Option.toList, List.cons_append, List.nil_append]
    refine g_istore G dL_law_552 (gSt_6 (by first | rfl | exact g_c1_rf)) ?_
    first | refine g_aload_n G dL_law_554 rfl ?_ | refine g_aload_nN G dL_law_554 rfl ?_ | refine g_aload_nQ G dL_law_554 rfl ?_
    refine g_callVp (ci := 10) G (c_X9_thrown _ S4 y (nI 0) hr4.1.kd t4) mt_X9_thrown mi_X9_thrown ml_L_127 hr4.1.kd (by decide) rfl (by omega) (by omega) (by omega) rfl (Nat.le_of_ble_eq_true rfl) dL_law_555 ?_
    refine g_iload G dL_law_558 rfl ?_
    refine g_icmp_eq (tgt := 565) G dL_law_560 (by decide) (fun _ => ?_) (fun z => absurd rfl z)
    refine g_iload G dL_law_565 rfl ?_
    refine g_if_ne (tgt := 582) G dL_law_567 (by decide) (fun z => absurd nI_0 z) (fun _ => ?_)
    have ho4 := ho3.fr F4
    first | refine g_aload_n G dL_law_570 rfl ?_ | refine g_aload_nN G dL_law_570 rfl ?_ | refine g_aload_nQ G dL_law_570 rfl ?_
    refine g_iconst (v := nI 0) G dL_law_571 (by decide) ?_
    refine g_lald G ho4.1 (by decide) (by rw [ho4.2]; omega) (by omega) (gOut_Z F4) dL_law_572 ?_
    refine g_iload G dL_law_573 rfl ?_
    refine g_i2l G dL_law_575 (rfl) ?_
    refine g_lcmp G dL_law_576 ?_
    refine g_if_eq (tgt := 582) G dL_law_577 (by decide) (fun _ => ?_) (fun z => absurd (lg_cmp_s _) z)
    refine g_goto (tgt := 2423) G dL_law_582 (by decide) ?_
    exact gW.wid (by omega) (by omega) (kk S4 ad9 b4 M9 _ _ _ _ (gMail_ref hm3 F4) hr4 ok ho4)
  · obtain ⟨rfl, w0, c8, t, hc8, rfl, ht1, ht3, hR⟩ := (ag_document (y := y) h i hd h40 (xs (6 * j + 1)) (xs (6 * j + 2))).2 _ _ hX
    obtain rfl : c9 = nI t := gKey_one (by decide) hc hc8
    obtain ⟨v8, m1, m2, hm1, hm2, ct⟩ := hR _ _ hr
    simp only [Option.toList, List.cons_append, List.nil_append]
    refine g_istore G dL_law_534 (gSt_5 (by first | rfl | exact g_c1_rf)) ?_
    first | refine g_aload_n G dL_law_536 rfl ?_ | refine g_aload_nN G dL_law_536 rfl ?_ | refine g_aload_nQ G dL_law_536 rfl ?_
    first | refine g_aload_n G dL_law_537 rfl ?_ | refine g_aload_nN G dL_law_537 rfl ?_ | refine g_aload_nQ G dL_law_537 rfl ?_
    refine g_iload G dL_law_538 rfl ?_
    refine g_iconst (v := nI 1) G dL_law_540 (by decide) ?_
    refine g_iadd G dL_law_541 (nI_add _ _) ?_
    refine g_sld G X (j := 6 * j + 1) (by omega) (by omega) dL_law_542 ?_
    first | refine g_aload_n G dL_law_543 rfl ?_ | refine g_aload_nN G dL_law_543 rfl ?_ | refine g_aload_nQ G dL_law_543 rfl ?_
    refine g_iload G dL_law_544 rfl ?_
    refine g_iconst (v := nI 2) G dL_law_546 (by decide) ?_
    refine g_iadd G dL_law_547 (nI_add _ _) ?_
    refine g_sld G X (j := 6 * j + 2) (by omega) (by omega) dL_law_548 ?_
    refine g_callV (ci := 10) G ct mt_X9_document mi_X9_document ml_L_149 hr.1.kd (by decide) rfl (by omega) (by omega) (by omega) rfl (Nat.le_of_ble_eq_true rfl) dL_law_549 (fun v4 S4 hp4 => ?_)
    obtain ⟨rfl, t4, b4, hr4, F4⟩ := hp4
    simp only [Option.toList, List.cons_append, List.nil_append]
    refine g_istore G dL_law_552 (gSt_6 (by first | rfl | exact g_c1_rf)) ?_
    first | refine g_aload_n G dL_law_554 rfl ?_ | refine g_aload_nN G dL_law_554 rfl ?_ | refine g_aload_nQ G dL_law_554 rfl ?_
    refine g_callVp (ci := 10) G (c_X9_thrown _ S4 y (nI t) hr4.1.kd t4) mt_X9_thrown mi_X9_thrown ml_L_127 hr4.1.kd (by decide) rfl (by omega) (by omega) (by omega) rfl (Nat.le_of_ble_eq_true rfl) dL_law_555 ?_
    refine g_iload G dL_law_558 rfl ?_
    refine g_icmp_eq (tgt := 565) G dL_law_560 (by decide) (fun _ => ?_) (fun z => absurd rfl z)
    refine g_iload G dL_law_565 rfl ?_
    refine g_if_ne (tgt := 582) G dL_law_567 (by decide) (fun _ => ?_) (fun z => absurd z (nI_ne0 (by omega) (by omega)))
    refine g_goto (tgt := 2423) G dL_law_582 (by decide) ?_
    exact gW.wid (by omega) (by omega) (kk S4 ad b4 M _ _ _ _ (gMail_ref h F4) hr4 (gOk_rf i hd) (ho.fr F4))
set_option maxHeartbeats 4000000 in
set_option maxRecDepth 100000 in
theorem bk_open {Γ : gC} {b L x y o : Nat} {xs : Nat → Int32} (G : gOK Γ RL cL_law 12 601024 7293034) (X : gScr Γ b L xs) : gBlk Γ b L x y o 585 := by
  intro S ad bb M j k sl w5 w6 w7 w8 h hr i hd h40 ho hj hL hk hs kk
  have hb := i.b
  first | refine g_aload_n G dL_law_585 rfl ?_ | refine g_aload_nN G dL_law_585 rfl ?_ | refine g_aload_nQ G dL_law_585 rfl ?_
  first | refine g_aload_n G dL_law_586 rfl ?_ | refine g_aload_nN G dL_law_586 rfl ?_ | refine g_aload_nQ G dL_law_586 rfl ?_
  refine g_iload G dL_law_587 rfl ?_
  refine g_iconst (v := nI 1) G dL_law_589 (by decide) ?_
  refine g_iadd G dL_law_590 (nI_add _ _) ?_
  refine g_sld G X (j := 6 * j + 1) (by omega) (by omega) dL_law_591 ?_
  first | refine g_aload_n G dL_law_592 rfl ?_ | refine g_aload_nN G dL_law_592 rfl ?_ | refine g_aload_nQ G dL_law_592 rfl ?_
  refine g_callSW G (c_L_open h.1.1 (c_X7_open _ S x ad M h i.1 (xs (6 * j + 1))) (fun v S1 z => by obtain ⟨q, M9, rfl, ⟨ad9, -, F⟩, -⟩ := (ag_open (y := y) h i hd h40 (xs (6 * j + 1))).1 v S1 z; exact ⟨⟨q, rfl⟩, ho.fr F⟩) (fun E S1 z => by obtain ⟨-, -, c, t, hc, -⟩ := (ag_open (y := y) h i hd h40 (xs (6 * j + 1))).2 E S1 z; simp only [List.mem_cons, Prod.mk.injEq, List.not_mem_nil, or_false] at hc; exact hc.imp And.left And.left)) mw_L_open ms_L_open ml_L_150 (by omega) (by omega) (by omega) rfl (Nat.le_of_ble_eq_true rfl) dL_law_593 (fun v S1 hp => ?_)
  rcases hp with ⟨q, S2, hP, rfl, rfl⟩ | ⟨E, c9, hX, hc, rfl⟩
  · obtain ⟨q9, M9, e9, ⟨ad9, hm, F⟩, ⟨ok, hwt⟩, hR⟩ := (ag_open (y := y) h i hd h40 (xs (6 * j + 1))).1 _ _ hP
    obtain rfl : q = q9 := by cases e9; rfl
    have hr3 := gRef_18 (gRef_cls hr F) (gFr_18 (o := o) (v := q.toInt64))
    have hm3 := gMail_18 hm (gFr_18 (o := o) (v := q.toInt64))
    have ho3 := (ho.fr F).fr (gFr_18 (o := o) (v := q.toInt64))
    obtain ⟨m1, m2, hm1, hm2, ct⟩ := hR _ _ hr3
    simp only [Option.toList, List.cons_append, List.nil_append]
    refine g_istore G dL_law_596 (gSt_5 (by first | rfl | exact g_c1_rf)) ?_
    first | refine g_aload_n G dL_law_598 rfl ?_ | refine g_aload_nN G dL_law_598 rfl ?_ | refine g_aload_nQ G dL_law_598 rfl ?_
    first | refine g_aload_n G dL_law_599 rfl ?_ | refine g_aload_nN G dL_law_599 rfl ?_ | refine g_aload_nQ G dL_law_599 rfl ?_
    refine g_iload G dL_law_600 rfl ?_
    refine g_iconst (v := nI 1) G dL_law_602 (by decide) ?_
    refine g_iadd G dL_law_603 (nI_add _ _) ?_
    refine g_sld G X (j := 6 * j + 1) (by omega) (by omega) dL_law_604 ?_
    refine g_callV (ci := 10) G ct mt_X9_open mi_X9_open ml_L_152 hr3.1.kd (by decide) rfl (by omega) (by omega) (by omega) rfl (Nat.le_of_ble_eq_true rfl) dL_law_605 (fun v4 S4 hp4 => ?_)
    obtain ⟨rfl, t4, b4, hr4, F4⟩ := hp4
    simp only [Option.toList, List.cons_append, List.nil_append]
    refine g_istore G dL_law_608 (gSt_6 (by first | rfl | exact g_c1_rf)) ?_
    first | refine g_aload_n G dL_law_610 rfl ?_ | refine g_aload_nN G dL_law_610 rfl ?_ | refine g_aload_nQ G dL_law_610 rfl ?_
    refine g_callVp (ci := 10) G (c_X9_thrown _ S4 y (nI 0) hr4.1.kd t4) mt_X9_thrown mi_X9_thrown ml_L_127 hr4.1.kd (by decide) rfl (by omega) (by omega) (by omega) rfl (Nat.le_of_ble_eq_true rfl) dL_law_611 ?_
    refine g_iload G dL_law_614 rfl ?_
    refine g_icmp_eq (tgt := 621) G dL_law_616 (by decide) (fun _ => ?_) (fun z => absurd rfl z)
    refine g_iload G dL_law_621 rfl ?_
    refine g_if_ne (tgt := 638) G dL_law_623 (by decide) (fun z => absurd nI_0 z) (fun _ => ?_)
    have ho4 := ho3.fr F4
    first | refine g_aload_n G dL_law_626 rfl ?_ | refine g_aload_nN G dL_law_626 rfl ?_ | refine g_aload_nQ G dL_law_626 rfl ?_
    refine g_iconst (v := nI 0) G dL_law_627 (by decide) ?_
    refine g_lald G ho4.1 (by decide) (by rw [ho4.2]; omega) (by omega) (gOut_Z F4) dL_law_628 ?_
    refine g_iload G dL_law_629 rfl ?_
    refine g_i2l G dL_law_631 (rfl) ?_
    refine g_lcmp G dL_law_632 ?_
    refine g_if_eq (tgt := 638) G dL_law_633 (by decide) (fun _ => ?_) (fun z => absurd (lg_cmp_s _) z)
    refine g_goto (tgt := 2423) G dL_law_638 (by decide) ?_
    exact gW.wid (by omega) (by omega) (kk S4 ad9 b4 M9 _ _ _ _ (gMail_ref hm3 F4) hr4 ok ho4)
  · obtain ⟨rfl, w0, c8, t, hc8, rfl, ht1, ht3, hR⟩ := (ag_open (y := y) h i hd h40 (xs (6 * j + 1))).2 _ _ hX
    obtain rfl : c9 = nI t := gKey_one (by decide) hc hc8
    obtain ⟨v8, m1, m2, hm1, hm2, ct⟩ := hR _ _ hr
    simp only [Option.toList, List.cons_append, List.nil_append]
    refine g_istore G dL_law_596 (gSt_5 (by first | rfl | exact g_c1_rf)) ?_
    first | refine g_aload_n G dL_law_598 rfl ?_ | refine g_aload_nN G dL_law_598 rfl ?_ | refine g_aload_nQ G dL_law_598 rfl ?_
    first | refine g_aload_n G dL_law_599 rfl ?_ | refine g_aload_nN G dL_law_599 rfl ?_ | refine g_aload_nQ G dL_law_599 rfl ?_
    refine g_iload G dL_law_600 rfl ?_
    refine g_iconst (v := nI 1) G dL_law_602 (by decide) ?_
    refine g_iadd G dL_law_603 (nI_add _ _) ?_
    refine g_sld G X (j := 6 * j + 1) (by omega) (by omega) dL_law_604 ?_
    refine g_callV (ci := 10) G ct mt_X9_open mi_X9_open ml_L_152 hr.1.kd (by decide) rfl (by omega) (by omega) (by omega) rfl (Nat.le_of_ble_eq_true rfl) dL_law_605 (fun v4 S4 hp4 => ?_)
    obtain ⟨rfl, t4, b4, hr4, F4⟩ := hp4
    simp only [Option.toList, List.cons_append, List.nil_append]
    refine g_istore G dL_law_608 (gSt_6 (by first | rfl | exact g_c1_rf)) ?_
    first | refine g_aload_n G dL_law_610 rfl ?_ | refine g_aload_nN G dL_law_610 rfl ?_ | refine g_aload_nQ G dL_law_610 rfl ?_
    refine g_callVp (ci := 10) G (c_X9_thrown _ S4 y (nI t) hr4.1.kd t4) mt_X9_thrown mi_X9_thrown ml_L_127 hr4.1.kd (by decide) rfl (by omega) (by omega) (by omega) rfl (Nat.le_of_ble_eq_true rfl) dL_law_611 ?_
    refine g_iload G dL_law_614 rfl ?_
    refine g_icmp_eq (tgt := 621) G dL_law_616 (by decide) (fun _ => ?_) (fun z => absurd rfl z)
    refine g_iload G dL_law_621 rfl ?_
    refine g_if_ne (tgt := 638) G dL_law_623 (by decide) (fun _ => ?_) (fun z => absurd z (nI_ne0 (by omega) (by omega)))
    refine g_goto (tgt := 2423) G dL_law_638 (by decide) ?_
    exact gW.wid (by omega) (by omega) (kk S4 ad b4 M _ _ _ _ (gMail_ref h F4) hr4 (gOk_rf i hd) (ho.fr F4))
set_option maxHeartbeats 4000000 in
set_option maxRecDepth 100000 in
theorem bk_seal {Γ : gC} {b L x y o : Nat} {xs : Nat → Int32} (G : gOK Γ RL cL_law 12 601024 7293034) (X : gScr Γ b L xs) : gBlk Γ b L x y o 641 := by
  intro S ad bb M j k sl w5 w6 w7 w8 h hr i hd h40 ho hj hL hk hs kk
  have hb := i.b
  first | refine g_aload_n G dL_law_641 rfl ?_ | refine g_aload_nN G dL_law_641 rfl ?_ | refine g_aload_nQ G dL_law_641 rfl ?_
  first | refine g_aload_n G dL_law_642 rfl ?_ | refine g_aload_nN G dL_law_642 rfl ?_ | refine g_aload_nQ G dL_law_642 rfl ?_
  refine g_iload G dL_law_643 rfl ?_
  refine g_iconst (v := nI 1) G dL_law_645 (by decide) ?_
  refine g_iadd G dL_law_646 (nI_add _ _) ?_
  refine g_sld G X (j := 6 * j + 1) (by omega) (by omega) dL_law_647 ?_
  first | refine g_aload_n G dL_law_648 rfl ?_ | refine g_aload_nN G dL_law_648 rfl ?_ | refine g_aload_nQ G dL_law_648 rfl ?_
  refine g_iload G dL_law_649 rfl ?_
  refine g_iconst (v := nI 2) G dL_law_651 (by decide) ?_
  refine g_iadd G dL_law_652 (nI_add _ _) ?_
  refine g_sld G X (j := 6 * j + 2) (by omega) (by omega) dL_law_653 ?_
  first | refine g_aload_n G dL_law_654 rfl ?_ | refine g_aload_nN G dL_law_654 rfl ?_ | refine g_aload_nQ G dL_law_654 rfl ?_
  refine g_callSW G (c_L_seal h.1.1 (c_X7_seal _ S x ad M h (xs (6 * j + 1)) (xs (6 * j + 2))) (fun v S1 z => by obtain ⟨q, M9, rfl, ⟨ad9, -, F⟩, -⟩ := (ag_seal (y := y) h i hd h40 (xs (6 * j + 1)) (xs (6 * j + 2))).1 v S1 z; exact ⟨⟨q, rfl⟩, ho.fr F⟩) (fun E S1 z => by obtain ⟨-, -, c, t, hc, -⟩ := (ag_seal (y := y) h i hd h40 (xs (6 * j + 1)) (xs (6 * j + 2))).2 E S1 z; simp only [List.mem_cons, Prod.mk.injEq, List.not_mem_nil, or_false] at hc; exact hc.imp And.left And.left)) mw_L_seal ms_L_seal ml_L_153 (by omega) (by omega) (by omega) rfl (Nat.le_of_ble_eq_true rfl) dL_law_655 (fun v S1 hp => ?_)
  rcases hp with ⟨q, S2, hP, rfl, rfl⟩ | ⟨E, c9, hX, hc, rfl⟩
  · obtain ⟨q9, M9, e9, ⟨ad9, hm, F⟩, ⟨ok, hwt⟩, hR⟩ := (ag_seal (y := y) h i hd h40 (xs (6 * j + 1)) (xs (6 * j + 2))).1 _ _ hP
    obtain rfl : q = q9 := by cases e9; rfl
    have hr3 := gRef_18 (gRef_cls hr F) (gFr_18 (o := o) (v := q.toInt64))
    have hm3 := gMail_18 hm (gFr_18 (o := o) (v := q.toInt64))
    have ho3 := (ho.fr F).fr (gFr_18 (o := o) (v := q.toInt64))
    obtain ⟨m1, m2, hm1, hm2, ct⟩ := hR _ _ hr3
    simp only [Option.toList, List.cons_append, List.nil_append]
    refine g_istore G dL_law_658 (gSt_5 (by first | rfl | exact g_c1_rf)) ?_
    first | refine g_aload_n G dL_law_660 rfl ?_ | refine g_aload_nN G dL_law_660 rfl ?_ | refine g_aload_nQ G dL_law_660 rfl ?_
    first | refine g_aload_n G dL_law_661 rfl ?_ | refine g_aload_nN G dL_law_661 rfl ?_ | refine g_aload_nQ G dL_law_661 rfl ?_
    refine g_iload G dL_law_662 rfl ?_
    refine g_iconst (v := nI 1) G dL_law_664 (by decide) ?_
    refine g_iadd G dL_law_665 (nI_add _ _) ?_
    refine g_sld G X (j := 6 * j + 1) (by omega) (by omega) dL_law_666 ?_
    first | refine g_aload_n G dL_law_667 rfl ?_ | refine g_aload_nN G dL_law_667 rfl ?_ | refine g_aload_nQ G dL_law_667 rfl ?_
    refine g_iload G dL_law_668 rfl ?_
    refine g_iconst (v := nI 2) G dL_law_670 (by decide) ?_
    refine g_iadd G dL_law_671 (nI_add _ _) ?_
    refine g_sld G X (j := 6 * j + 2) (by omega) (by omega) dL_law_672 ?_
    refine g_callV (ci := 10) G ct mt_X9_seal mi_X9_seal ml_L_155 hr3.1.kd (by decide) rfl (by omega) (by omega) (by omega) rfl (Nat.le_of_ble_eq_true rfl) dL_law_673 (fun v4 S4 hp4 => ?_)
    obtain ⟨rfl, t4, b4, hr4, F4⟩ := hp4
    simp only [Option.toList, List.cons_append, List.nil_append]
    refine g_istore G dL_law_676 (gSt_6 (by first | rfl | exact g_c1_rf)) ?_
    first | refine g_aload_n G dL_law_678 rfl ?_ | refine g_aload_nN G dL_law_678 rfl ?_ | refine g_aload_nQ G dL_law_678 rfl ?_
    refine g_callVp (ci := 10) G (c_X9_thrown _ S4 y (nI 0) hr4.1.kd t4) mt_X9_thrown mi_X9_thrown ml_L_127 hr4.1.kd (by decide) rfl (by omega) (by omega) (by omega) rfl (Nat.le_of_ble_eq_true rfl) dL_law_679 ?_
    refine g_iload G dL_law_682 rfl ?_
    refine g_icmp_eq (tgt := 689) G dL_law_684 (by decide) (fun _ => ?_) (fun z => absurd rfl z)
    refine g_iload G dL_law_689 rfl ?_
    refine g_if_ne (tgt := 706) G dL_law_691 (by decide) (fun z => absurd nI_0 z) (fun _ => ?_)
    have ho4 := ho3.fr F4
    first | refine g_aload_n G dL_law_694 rfl ?_ | refine g_aload_nN G dL_law_694 rfl ?_ | refine g_aload_nQ G dL_law_694 rfl ?_
    refine g_iconst (v := nI 0) G dL_law_695 (by decide) ?_
    refine g_lald G ho4.1 (by decide) (by rw [ho4.2]; omega) (by omega) (gOut_Z F4) dL_law_696 ?_
    refine g_iload G dL_law_697 rfl ?_
    refine g_i2l G dL_law_699 (rfl) ?_
    refine g_lcmp G dL_law_700 ?_
    refine g_if_eq (tgt := 706) G dL_law_701 (by decide) (fun _ => ?_) (fun z => absurd (lg_cmp_s _) z)
    refine g_goto (tgt := 2423) G dL_law_706 (by decide) ?_
    exact gW.wid (by omega) (by omega) (kk S4 ad9 b4 M9 _ _ _ _ (gMail_ref hm3 F4) hr4 ok ho4)
  · obtain ⟨rfl, w0, c8, t, hc8, rfl, ht1, ht3, hR⟩ := (ag_seal (y := y) h i hd h40 (xs (6 * j + 1)) (xs (6 * j + 2))).2 _ _ hX
    obtain rfl : c9 = nI t := gKey_one (by decide) hc hc8
    obtain ⟨v8, m1, m2, hm1, hm2, ct⟩ := hR _ _ hr
    simp only [Option.toList, List.cons_append, List.nil_append]
    refine g_istore G dL_law_658 (gSt_5 (by first | rfl | exact g_c1_rf)) ?_
    first | refine g_aload_n G dL_law_660 rfl ?_ | refine g_aload_nN G dL_law_660 rfl ?_ | refine g_aload_nQ G dL_law_660 rfl ?_
    first | refine g_aload_n G dL_law_661 rfl ?_ | refine g_aload_nN G dL_law_661 rfl ?_ | refine g_aload_nQ G dL_law_661 rfl ?_
    refine g_iload G dL_law_662 rfl ?_
    refine g_iconst (v := nI 1) G dL_law_664 (by decide) ?_
    refine g_iadd G dL_law_665 (nI_add _ _) ?_
    refine g_sld G X (j := 6 * j + 1) (by omega) (by omega) dL_law_666 ?_
    first | refine g_aload_n G dL_law_667 rfl ?_ | refine g_aload_nN G dL_law_667 rfl ?_ | refine g_aload_nQ G dL_law_667 rfl ?_
    refine g_iload G dL_law_668 rfl ?_
    refine g_iconst (v := nI 2) G dL_law_670 (by decide) ?_
    refine g_iadd G dL_law_671 (nI_add _ _) ?_
    refine g_sld G X (j := 6 * j + 2) (by omega) (by omega) dL_law_672 ?_
    refine g_callV (ci := 10) G ct mt_X9_seal mi_X9_seal ml_L_155 hr.1.kd (by decide) rfl (by omega) (by omega) (by omega) rfl (Nat.le_of_ble_eq_true rfl) dL_law_673 (fun v4 S4 hp4 => ?_)
    obtain ⟨rfl, t4, b4, hr4, F4⟩ := hp4
    simp only [Option.toList, List.cons_append, List.nil_append]
    refine g_istore G dL_law_676 (gSt_6 (by first | rfl | exact g_c1_rf)) ?_
    first | refine g_aload_n G dL_law_678 rfl ?_ | refine g_aload_nN G dL_law_678 rfl ?_ | refine g_aload_nQ G dL_law_678 rfl ?_
    refine g_callVp (ci := 10) G (c_X9_thrown _ S4 y (nI t) hr4.1.kd t4) mt_X9_thrown mi_X9_thrown ml_L_127 hr4.1.kd (by decide) rfl (by omega) (by omega) (by omega) rfl (Nat.le_of_ble_eq_true rfl) dL_law_679 ?_
    refine g_iload G dL_law_682 rfl ?_
    refine g_icmp_eq (tgt := 689) G dL_law_684 (by decide) (fun _ => ?_) (fun z => absurd rfl z)
    refine g_iload G dL_law_689 rfl ?_
    refine g_if_ne (tgt := 706) G dL_law_691 (by decide) (fun _ => ?_) (fun z => absurd z (nI_ne0 (by omega) (by omega)))
    refine g_goto (tgt := 2423) G dL_law_706 (by decide) ?_
    exact gW.wid (by omega) (by omega) (kk S4 ad b4 M _ _ _ _ (gMail_ref h F4) hr4 (gOk_rf i hd) (ho.fr F4))
set_option maxHeartbeats 4000000 in
set_option maxRecDepth 100000 in
theorem bk_addPerson {Γ : gC} {b L x y o : Nat} {xs : Nat → Int32} (G : gOK Γ RL cL_law 12 601024 7293034) (X : gScr Γ b L xs) : gBlk Γ b L x y o 709 := by
  intro S ad bb M j k sl w5 w6 w7 w8 h hr i hd h40 ho hj hL hk hs kk
  have hb := i.b
  first | refine g_aload_n G dL_law_709 rfl ?_ | refine g_aload_nN G dL_law_709 rfl ?_ | refine g_aload_nQ G dL_law_709 rfl ?_
  first | refine g_aload_n G dL_law_710 rfl ?_ | refine g_aload_nN G dL_law_710 rfl ?_ | refine g_aload_nQ G dL_law_710 rfl ?_
  refine g_iload G dL_law_711 rfl ?_
  refine g_iconst (v := nI 1) G dL_law_713 (by decide) ?_
  refine g_iadd G dL_law_714 (nI_add _ _) ?_
  refine g_sld G X (j := 6 * j + 1) (by omega) (by omega) dL_law_715 ?_
  first | refine g_aload_n G dL_law_716 rfl ?_ | refine g_aload_nN G dL_law_716 rfl ?_ | refine g_aload_nQ G dL_law_716 rfl ?_
  refine g_iload G dL_law_717 rfl ?_
  refine g_iconst (v := nI 2) G dL_law_719 (by decide) ?_
  refine g_iadd G dL_law_720 (nI_add _ _) ?_
  refine g_sld G X (j := 6 * j + 2) (by omega) (by omega) dL_law_721 ?_
  first | refine g_aload_n G dL_law_722 rfl ?_ | refine g_aload_nN G dL_law_722 rfl ?_ | refine g_aload_nQ G dL_law_722 rfl ?_
  refine g_callSW G (c_L_addPerson h.1.1 (c_X7_addPerson _ S x ad M h i.1 i.2.2.2.2 (xs (6 * j + 1)) (xs (6 * j + 2))) (fun v S1 z => by obtain ⟨q, M9, rfl, ⟨ad9, -, F⟩, -⟩ := (ag_addPerson (y := y) h i hd h40 (xs (6 * j + 1)) (xs (6 * j + 2))).1 v S1 z; exact ⟨⟨q, rfl⟩, ho.fr F⟩) (fun E S1 z => by obtain ⟨-, -, c, t, hc, -⟩ := (ag_addPerson (y := y) h i hd h40 (xs (6 * j + 1)) (xs (6 * j + 2))).2 E S1 z; simp only [List.mem_cons, Prod.mk.injEq, List.not_mem_nil, or_false] at hc; exact hc.imp And.left And.left)) mw_L_addPerson ms_L_addPerson ml_L_156 (by omega) (by omega) (by omega) rfl (Nat.le_of_ble_eq_true rfl) dL_law_723 (fun v S1 hp => ?_)
  rcases hp with ⟨q, S2, hP, rfl, rfl⟩ | ⟨E, c9, hX, hc, rfl⟩
  · obtain ⟨q9, M9, e9, ⟨ad9, hm, F⟩, ⟨ok, hwt⟩, hR⟩ := (ag_addPerson (y := y) h i hd h40 (xs (6 * j + 1)) (xs (6 * j + 2))).1 _ _ hP
    obtain rfl : q = q9 := by cases e9; rfl
    have hr3 := gRef_18 (gRef_cls hr F) (gFr_18 (o := o) (v := q.toInt64))
    have hm3 := gMail_18 hm (gFr_18 (o := o) (v := q.toInt64))
    have ho3 := (ho.fr F).fr (gFr_18 (o := o) (v := q.toInt64))
    obtain ⟨m1, m2, hm1, hm2, ct⟩ := hR _ _ hr3
    simp only [Option.toList, List.cons_append, List.nil_append]
    refine g_istore G dL_law_726 (gSt_5 (by first | rfl | exact g_c1_rf)) ?_
    first | refine g_aload_n G dL_law_728 rfl ?_ | refine g_aload_nN G dL_law_728 rfl ?_ | refine g_aload_nQ G dL_law_728 rfl ?_
    first | refine g_aload_n G dL_law_729 rfl ?_ | refine g_aload_nN G dL_law_729 rfl ?_ | refine g_aload_nQ G dL_law_729 rfl ?_
    refine g_iload G dL_law_730 rfl ?_
    refine g_iconst (v := nI 1) G dL_law_732 (by decide) ?_
    refine g_iadd G dL_law_733 (nI_add _ _) ?_
    refine g_sld G X (j := 6 * j + 1) (by omega) (by omega) dL_law_734 ?_
    first | refine g_aload_n G dL_law_735 rfl ?_ | refine g_aload_nN G dL_law_735 rfl ?_ | refine g_aload_nQ G dL_law_735 rfl ?_
    refine g_iload G dL_law_736 rfl ?_
    refine g_iconst (v := nI 2) G dL_law_738 (by decide) ?_
    refine g_iadd G dL_law_739 (nI_add _ _) ?_
    refine g_sld G X (j := 6 * j + 2) (by omega) (by omega) dL_law_740 ?_
    refine g_callV (ci := 10) G ct mt_X9_addPerson mi_X9_addPerson ml_L_158 hr3.1.kd (by decide) rfl (by omega) (by omega) (by omega) rfl (Nat.le_of_ble_eq_true rfl) dL_law_741 (fun v4 S4 hp4 => ?_)
    obtain ⟨rfl, t4, b4, hr4, F4⟩ := hp4
    simp only [Option.toList, List.cons_append, List.nil_append]
    refine g_istore G dL_law_744 (gSt_6 (by first | rfl | exact g_c1_rf)) ?_
    first | refine g_aload_n G dL_law_746 rfl ?_ | refine g_aload_nN G dL_law_746 rfl ?_ | refine g_aload_nQ G dL_law_746 rfl ?_
    refine g_callVp (ci := 10) G (c_X9_thrown _ S4 y (nI 0) hr4.1.kd t4) mt_X9_thrown mi_X9_thrown ml_L_127 hr4.1.kd (by decide) rfl (by omega) (by omega) (by omega) rfl (Nat.le_of_ble_eq_true rfl) dL_law_747 ?_
    refine g_iload G dL_law_750 rfl ?_
    refine g_icmp_eq (tgt := 757) G dL_law_752 (by decide) (fun _ => ?_) (fun z => absurd rfl z)
    refine g_iload G dL_law_757 rfl ?_
    refine g_if_ne (tgt := 774) G dL_law_759 (by decide) (fun z => absurd nI_0 z) (fun _ => ?_)
    have ho4 := ho3.fr F4
    first | refine g_aload_n G dL_law_762 rfl ?_ | refine g_aload_nN G dL_law_762 rfl ?_ | refine g_aload_nQ G dL_law_762 rfl ?_
    refine g_iconst (v := nI 0) G dL_law_763 (by decide) ?_
    refine g_lald G ho4.1 (by decide) (by rw [ho4.2]; omega) (by omega) (gOut_Z F4) dL_law_764 ?_
    refine g_iload G dL_law_765 rfl ?_
    refine g_i2l G dL_law_767 (rfl) ?_
    refine g_lcmp G dL_law_768 ?_
    refine g_if_eq (tgt := 774) G dL_law_769 (by decide) (fun _ => ?_) (fun z => absurd (lg_cmp_s _) z)
    refine g_goto (tgt := 2423) G dL_law_774 (by decide) ?_
    exact gW.wid (by omega) (by omega) (kk S4 ad9 b4 M9 _ _ _ _ (gMail_ref hm3 F4) hr4 ok ho4)
  · obtain ⟨rfl, w0, c8, t, hc8, rfl, ht1, ht3, hR⟩ := (ag_addPerson (y := y) h i hd h40 (xs (6 * j + 1)) (xs (6 * j + 2))).2 _ _ hX
    obtain rfl : c9 = nI t := gKey_one (by decide) hc hc8
    obtain ⟨v8, m1, m2, hm1, hm2, ct⟩ := hR _ _ hr
    simp only [Option.toList, List.cons_append, List.nil_append]
    refine g_istore G dL_law_726 (gSt_5 (by first | rfl | exact g_c1_rf)) ?_
    first | refine g_aload_n G dL_law_728 rfl ?_ | refine g_aload_nN G dL_law_728 rfl ?_ | refine g_aload_nQ G dL_law_728 rfl ?_
    first | refine g_aload_n G dL_law_729 rfl ?_ | refine g_aload_nN G dL_law_729 rfl ?_ | refine g_aload_nQ G dL_law_729 rfl ?_
    refine g_iload G dL_law_730 rfl ?_
    refine g_iconst (v := nI 1) G dL_law_732 (by decide) ?_
    refine g_iadd G dL_law_733 (nI_add _ _) ?_
    refine g_sld G X (j := 6 * j + 1) (by omega) (by omega) dL_law_734 ?_
    first | refine g_aload_n G dL_law_735 rfl ?_ | refine g_aload_nN G dL_law_735 rfl ?_ | refine g_aload_nQ G dL_law_735 rfl ?_
    refine g_iload G dL_law_736 rfl ?_
    refine g_iconst (v := nI 2) G dL_law_738 (by decide) ?_
    refine g_iadd G dL_law_739 (nI_add _ _) ?_
    refine g_sld G X (j := 6 * j + 2) (by omega) (by omega) dL_law_740 ?_
    refine g_callV (ci := 10) G ct mt_X9_addPerson mi_X9_addPerson ml_L_158 hr.1.kd (by decide) rfl (by omega) (by omega) (by omega) rfl (Nat.le_of_ble_eq_true rfl) dL_law_741 (fun v4 S4 hp4 => ?_)
    obtain ⟨rfl, t4, b4, hr4, F4⟩ := hp4
    simp only [Option.toList, List.cons_append, List.nil_append]
    refine g_istore G dL_law_744 (gSt_6 (by first | rfl | exact g_c1_rf)) ?_
    first | refine g_aload_n G dL_law_746 rfl ?_ | refine g_aload_nN G dL_law_746 rfl ?_ | refine g_aload_nQ G dL_law_746 rfl ?_
    refine g_callVp (ci := 10) G (c_X9_thrown _ S4 y (nI t) hr4.1.kd t4) mt_X9_thrown mi_X9_thrown ml_L_127 hr4.1.kd (by decide) rfl (by omega) (by omega) (by omega) rfl (Nat.le_of_ble_eq_true rfl) dL_law_747 ?_
    refine g_iload G dL_law_750 rfl ?_
    refine g_icmp_eq (tgt := 757) G dL_law_752 (by decide) (fun _ => ?_) (fun z => absurd rfl z)
    refine g_iload G dL_law_757 rfl ?_
    refine g_if_ne (tgt := 774) G dL_law_759 (by decide) (fun _ => ?_) (fun z => absurd z (nI_ne0 (by omega) (by omega)))
    refine g_goto (tgt := 2423) G dL_law_774 (by decide) ?_
    exact gW.wid (by omega) (by omega) (kk S4 ad b4 M _ _ _ _ (gMail_ref h F4) hr4 (gOk_rf i hd) (ho.fr F4))
