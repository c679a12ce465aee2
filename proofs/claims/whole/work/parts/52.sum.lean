/-! ===== the reference: the checksum ===== -/

set_option maxHeartbeats 4000000 in
set_option maxRecDepth 100000 in
theorem c_X9_digest (d0 : Nat × Nat) (S : gS) (y : Nat) (b : Nat → Nat → Nat) (M : gM) (h : gRef S y b M) (i : gInv M)  : gCt d0 yX9_digest cX9_digest 6 (some .long) 10 700 4700 [.ref y] S (gAn S y 0 M (some (.long (gDigest M)))) gNo := by
  refine gCt_of (lo := [some (.ref y), none, none, none, none, none]) (by decide +kernel) (Nat.le_of_ble_eq_true rfl) (rfl) ?_
  intro Γ hd G F hini
  have hk9 : ∀ κ, gRk κ → κ ≠ 17 + 32 * 90 := fun κ z e => gRk_9 (e ▸ z)
  first | refine g_aload_n G dX9_digest_0 rfl ?_ | refine g_aload_nN G dX9_digest_0 rfl ?_ | refine g_aload_nQ G dX9_digest_0 rfl ?_
  refine g_iconst (v := nI 0) G dX9_digest_1 (by decide) ?_
  refine g_putI G fl_X9_91 pu_10_0 (h.1.kd) (by first | decide | omega) rfl dX9_digest_2 ?_
  have h0 := gRef_th (v := nI 0) h
  obtain ⟨r, q, -⟩ := id h0
  obtain ⟨i6, i8, i11, i17, i23, i2, i5⟩ := i.b
  refine g_ldc2 G k_X9_261 dX9_digest_5 ?_
  refine g_lstore_n G dX9_digest_8 (gSt2_1 (by first | rfl | exact g_c1_rf)) ?_
  refine g_iconst (v := nI 0) G dX9_digest_9 (by decide) ?_
  refine g_istore_n G dX9_digest_10 (gSt_3 (by first | rfl | exact g_c1_rf)) ?_
  have loop11 : ∀ f2 t : Nat, ∀ St : gS, ∀ (kc sc : Nat), t ≤ 12 → 12 + 1 ≤ t + f2 → ∀ w4 w5 : Option Value, (gFr (fun k => k ≠ 17 + 32 * 90) (sX S 11 0 y (nI 0)) St ∧ kc ≤ t ∧ sc ≤ 12 * t) → gW Γ 11 [some (.ref y), some (.long (gDg (gTellCount M) 653 (t))), none, some (.int (nI (t))), w4, w5] [] St kc sc := by
    intro f2
    induction f2 with
    | zero => intro t St kc sc q1 q2; omega
    | succ f2 ih2 =>
      intro t St kc sc ht2 hf2 w4 w5 hv2
      obtain ⟨Fs, hkc, hsc⟩ := hv2
      have rs := gRest_mono r Fs hk9
      have qs := gStt_mono q Fs (by omega) (fun _ _ _ => by omega)
      refine g_iload_n G dX9_digest_11 rfl ?_
      refine g_bipush (v := nI 11) G dX9_digest_12 (by decide) ?_
      refine g_icmp_gt (tgt := 36) G dX9_digest_14 (by decide) (fun c_14 => ?_) (fun c_14 => ?_)
      · have et : t = 12 := by have := (nI_ltI (a := 11) (by omega) (by omega)).mp c_14; omega
        subst et
        refine g_iconst (v := nI 0) G dX9_digest_36 (by decide) ?_
        refine g_istore_n G dX9_digest_37 (gSt_3 (by first | rfl | exact g_c1_rf)) ?_
        have loop38 : ∀ f2 t : Nat, ∀ St : gS, ∀ (kc sc : Nat), t ≤ (mN M 6) → (mN M 6) + 1 ≤ t + f2 → ∀ w4 w5 : Option Value, (gFr (fun k => k ≠ 17 + 32 * 90) (sX S 11 0 y (nI 0)) St ∧ kc ≤ 12 + 5 * t ∧ sc ≤ 144 + 25 * t) → gW Γ 38 [some (.ref y), some (.long (gDgC M (gDg (gTellCount M) 653 12) (t))), none, some (.int (nI (t))), w4, w5] [] St kc sc := by
          intro f2
          induction f2 with
          | zero => intro t St kc sc q1 q2; omega
          | succ f2 ih2 =>
            intro t St kc sc ht2 hf2 w4 w5 hv2
            obtain ⟨Fs, hkc, hsc⟩ := hv2
            have rs := gRest_mono r Fs hk9
            have qs := gStt_mono q Fs (by omega) (fun _ _ _ => by omega)
            refine g_iload_n G dX9_digest_38 rfl ?_
            first | refine g_aload_n G dX9_digest_39 rfl ?_ | refine g_aload_nN G dX9_digest_39 rfl ?_ | refine g_aload_nQ G dX9_digest_39 rfl ?_
            refine g_getI G fl_X9_94 (rs.kd) (by first | decide | omega) rfl (rs.n 6 rfl) dX9_digest_40 ?_
            refine g_icmp_ge (tgt := 82) G dX9_digest_43 (by decide) (fun c_43 => ?_) (fun c_43 => ?_)
            · have et : t = (mN M 6) := by have := (nI_leI (by omega) (by omega)).mp c_43; omega
              subst et
              refine g_iconst (v := nI 0) G dX9_digest_82 (by decide) ?_
              refine g_istore_n G dX9_digest_83 (gSt_3 (by first | rfl | exact g_c1_rf)) ?_
              have loop84 : ∀ f2 t : Nat, ∀ St : gS, ∀ (kc sc : Nat), t ≤ (mN M 8) → (mN M 8) + 1 ≤ t + f2 → ∀ w4 w5 : Option Value, (gFr (fun k => k ≠ 17 + 32 * 90) (sX S 11 0 y (nI 0)) St ∧ kc ≤ 12 + 5 * mN M 6 + 8 * t ∧ sc ≤ 144 + 25 * mN M 6 + 64 * t) → gW Γ 84 [some (.ref y), some (.long (gDgP M (gDgC M (gDg (gTellCount M) 653 12) (mN M 6)) (t))), none, some (.int (nI (t))), w4, w5] [] St kc sc := by
                intro f2
                induction f2 with
                | zero => intro t St kc sc q1 q2; omega
                | succ f2 ih2 =>
                  intro t St kc sc ht2 hf2 w4 w5 hv2
                  obtain ⟨Fs, hkc, hsc⟩ := hv2
                  have rs := gRest_mono r Fs hk9
                  have qs := gStt_mono q Fs (by omega) (fun _ _ _ => by omega)
                  refine g_iload_n G dX9_digest_84 rfl ?_
                  first | refine g_aload_n G dX9_digest_85 rfl ?_ | refine g_aload_nN G dX9_digest_85 rfl ?_ | refine g_aload_nQ G dX9_digest_85 rfl ?_
                  refine g_getI G fl_X9_101 (rs.kd) (by first | decide | omega) rfl (rs.n 8 rfl) dX9_digest_86 ?_
                  refine g_icmp_ge (tgt := 129) G dX9_digest_89 (by decide) (fun c_89 => ?_) (fun c_89 => ?_)
                  · have et : t = (mN M 8) := by have := (nI_leI (by omega) (by omega)).mp c_89; omega
                    subst et
                    refine g_iconst (v := nI 0) G dX9_digest_129 (by decide) ?_
                    refine g_istore_n G dX9_digest_130 (gSt_3 (by first | rfl | exact g_c1_rf)) ?_
                    have loop131 : ∀ f2 t : Nat, ∀ St : gS, ∀ (kc sc : Nat), t ≤ (mN M 11) → (mN M 11) + 1 ≤ t + f2 → ∀ w4 w5 : Option Value, (gFr (fun k => k ≠ 17 + 32 * 90) (sX S 11 0 y (nI 0)) St ∧ kc ≤ 12 + 5 * mN M 6 + 8 * mN M 8 + 8 * t ∧ sc ≤ 144 + 25 * mN M 6 + 64 * mN M 8 + 64 * t) → gW Γ 131 [some (.ref y), some (.long (gDgD M (gDgP M (gDgC M (gDg (gTellCount M) 653 12) (mN M 6)) (mN M 8)) (t))), none, some (.int (nI (t))), w4, w5] [] St kc sc := by
                      intro f2
                      induction f2 with
                      | zero => intro t St kc sc q1 q2; omega
                      | succ f2 ih2 =>
                        intro t St kc sc ht2 hf2 w4 w5 hv2
                        obtain ⟨Fs, hkc, hsc⟩ := hv2
                        have rs := gRest_mono r Fs hk9
                        have qs := gStt_mono q Fs (by omega) (fun _ _ _ => by omega)
                        refine g_iload_n G dX9_digest_131 rfl ?_
                        first | refine g_aload_n G dX9_digest_132 rfl ?_ | refine g_aload_nN G dX9_digest_132 rfl ?_ | refine g_aload_nQ G dX9_digest_132 rfl ?_
                        refine g_getI G fl_X9_104 (rs.kd) (by first | decide | omega) rfl (rs.n 11 rfl) dX9_digest_133 ?_
                        refine g_icmp_ge (tgt := 229) G dX9_digest_136 (by decide) (fun c_136 => ?_) (fun c_136 => ?_)
                        · have et : t = (mN M 11) := by have := (nI_leI (by omega) (by omega)).mp c_136; omega
                          subst et
                          refine g_iconst (v := nI 0) G dX9_digest_229 (by decide) ?_
                          refine g_istore_n G dX9_digest_230 (gSt_3 (by first | rfl | exact g_c1_rf)) ?_
                          have loop231 : ∀ f2 t : Nat, ∀ St : gS, ∀ (kc sc : Nat), t ≤ (mN M 17) → (mN M 17) + 1 ≤ t + f2 → ∀ w4 w5 : Option Value, (gFr (fun k => k ≠ 17 + 32 * 90) (sX S 11 0 y (nI 0)) St ∧ kc ≤ 12 + 5 * mN M 6 + 8 * mN M 8 + 8 * mN M 11 + 7 * t ∧ sc ≤ 144 + 25 * mN M 6 + 64 * mN M 8 + 64 * mN M 11 + 49 * t) → gW Γ 231 [some (.ref y), some (.long (gDgE M (gDgD M (gDgP M (gDgC M (gDg (gTellCount M) 653 12) (mN M 6)) (mN M 8)) (mN M 11)) (t))), none, some (.int (nI (t))), w4, w5] [] St kc sc := by
                            intro f2
                            induction f2 with
                            | zero => intro t St kc sc q1 q2; omega
                            | succ f2 ih2 =>
                              intro t St kc sc ht2 hf2 w4 w5 hv2
                              obtain ⟨Fs, hkc, hsc⟩ := hv2
                              have rs := gRest_mono r Fs hk9
                              have qs := gStt_mono q Fs (by omega) (fun _ _ _ => by omega)
                              refine g_iload_n G dX9_digest_231 rfl ?_
                              first | refine g_aload_n G dX9_digest_232 rfl ?_ | refine g_aload_nN G dX9_digest_232 rfl ?_ | refine g_aload_nQ G dX9_digest_232 rfl ?_
                              refine g_getI G fl_X9_107 (rs.kd) (by first | decide | omega) rfl (rs.n 17 rfl) dX9_digest_233 ?_
                              refine g_icmp_ge (tgt := 328) G dX9_digest_236 (by decide) (fun c_236 => ?_) (fun c_236 => ?_)
                              · have et : t = (mN M 17) := by have := (nI_leI (by omega) (by omega)).mp c_236; omega
                                subst et
                                refine g_iconst (v := nI 0) G dX9_digest_328 (by decide) ?_
                                refine g_istore_n G dX9_digest_329 (gSt_3 (by first | rfl | exact g_c1_rf)) ?_
                                have loop330 : ∀ f2 t : Nat, ∀ St : gS, ∀ (kc sc : Nat), t ≤ (mN M 23) → (mN M 23) + 1 ≤ t + f2 → ∀ w4 w5 : Option Value, (gFr (fun k => k ≠ 17 + 32 * 90) (sX S 11 0 y (nI 0)) St ∧ kc ≤ 12 + 5 * mN M 6 + 8 * mN M 8 + 8 * mN M 11 + 7 * mN M 17 + 5 * t ∧ sc ≤ 144 + 25 * mN M 6 + 64 * mN M 8 + 64 * mN M 11 + 49 * mN M 17 + 25 * t) → gW Γ 330 [some (.ref y), some (.long (gDgL M (gDgE M (gDgD M (gDgP M (gDgC M (gDg (gTellCount M) 653 12) (mN M 6)) (mN M 8)) (mN M 11)) (mN M 17)) (t))), none, some (.int (nI (t))), w4, w5] [] St kc sc := by
                                  intro f2
                                  induction f2 with
                                  | zero => intro t St kc sc q1 q2; omega
                                  | succ f2 ih2 =>
                                    intro t St kc sc ht2 hf2 w4 w5 hv2
                                    obtain ⟨Fs, hkc, hsc⟩ := hv2
                                    have rs := gRest_mono r Fs hk9
                                    have qs := gStt_mono q Fs (by omega) (fun _ _ _ => by omega)
                                    refine g_iload_n G dX9_digest_330 rfl ?_
                                    first | refine g_aload_n G dX9_digest_331 rfl ?_ | refine g_aload_nN G dX9_digest_331 rfl ?_ | refine g_aload_nQ G dX9_digest_331 rfl ?_
                                    refine g_getI G fl_X9_182 (rs.kd) (by first | decide | omega) rfl (rs.n 23 rfl) dX9_digest_332 ?_
                                    refine g_icmp_ge (tgt := 374) G dX9_digest_335 (by decide) (fun c_335 => ?_) (fun c_335 => ?_)
                                    · have et : t = (mN M 23) := by have := (nI_leI (by omega) (by omega)).mp c_335; omega
                                      subst et
                                      refine g_iconst (v := nI 0) G dX9_digest_374 (by decide) ?_
                                      refine g_istore_n G dX9_digest_375 (gSt_3 (by first | rfl | exact g_c1_rf)) ?_
                                      have loop376 : ∀ f2 t : Nat, ∀ St : gS, ∀ (kc sc : Nat), t ≤ (mN M 5) → (mN M 5) + 1 ≤ t + f2 → ∀ w4 w5 : Option Value, (gFr (fun k => k ≠ 17 + 32 * 90) (sX S 11 0 y (nI 0)) St ∧ kc ≤ 12 + 5 * mN M 6 + 8 * mN M 8 + 8 * mN M 11 + 7 * mN M 17 + 5 * mN M 23 ∧ sc ≤ 144 + 25 * mN M 6 + 64 * mN M 8 + 64 * mN M 11 + 49 * mN M 17 + 25 * mN M 23) → gW Γ 376 [some (.ref y), some (.long (gDg (mA M 4) (gDgL M (gDgE M (gDgD M (gDgP M (gDgC M (gDg (gTellCount M) 653 12) (mN M 6)) (mN M 8)) (mN M 11)) (mN M 17)) (mN M 23)) (t))), none, some (.int (nI (t))), w4, w5] [] St kc sc := by
                                        intro f2
                                        induction f2 with
                                        | zero => intro t St kc sc q1 q2; omega
                                        | succ f2 ih2 =>
                                          intro t St kc sc ht2 hf2 w4 w5 hv2
                                          obtain ⟨Fs, hkc, hsc⟩ := hv2
                                          have rs := gRest_mono r Fs hk9
                                          have qs := gStt_mono q Fs (by omega) (fun _ _ _ => by omega)
                                          refine g_iload_n G dX9_digest_376 rfl ?_
                                          first | refine g_aload_n G dX9_digest_377 rfl ?_ | refine g_aload_nN G dX9_digest_377 rfl ?_ | refine g_aload_nQ G dX9_digest_377 rfl ?_
                                          refine g_getI G fl_X9_210 (rs.kd) (by first | decide | omega) rfl (rs.n 5 rfl) dX9_digest_378 ?_
                                          refine g_icmp_ge (tgt := 404) G dX9_digest_381 (by decide) (fun c_381 => ?_) (fun c_381 => ?_)
                                          · have et : t = (mN M 5) := by have := (nI_leI (by omega) (by omega)).mp c_381; omega
                                            subst et
                                            refine g_lload_n G dX9_digest_404 rfl ?_
                                            exact g_lret G F (by exact gAn_T h Fs) (by omega) (by omega) dX9_digest_405
                                          · have hlt2 : t < (mN M 5) := by have z : ¬ (mN M 5) ≤ t := fun z => c_381 ((nI_leI (by omega) (by omega)).mpr z); omega
                                            refine g_lload_n G dX9_digest_384 rfl ?_
                                            refine g_ldc2 G k_X9_263 dX9_digest_385 ?_
                                            refine g_lmul G dX9_digest_388 (rfl) ?_
                                            first | refine g_aload_n G dX9_digest_389 rfl ?_ | refine g_aload_nN G dX9_digest_389 rfl ?_ | refine g_aload_nQ G dX9_digest_389 rfl ?_
                                            refine g_getR G fl_X9_17 (rs.kd) (by first | decide | omega) rfl (rs.Y 4 rfl) dX9_digest_390 ?_
                                            refine g_iload_n G dX9_digest_393 rfl ?_
                                            refine g_iald G (rs.A 4 rfl) (by first | decide | omega) (rs.lt 4 2499 rfl (by omega)) (by omega) (rs.p (by omega)) dX9_digest_394 ?_
                                            refine g_i2l G dX9_digest_395 (rfl) ?_
                                            refine g_ladd G dX9_digest_396 (rfl) ?_
                                            refine g_lstore_n G dX9_digest_397 (gSt2_1 (by first | rfl | exact g_c1_rf)) ?_
                                            refine g_iinc (v := _) G dX9_digest_398 rfl (by first | exact nI_1 _ | rfl) (gSt_3 (by first | rfl | exact g_c1_rf)) ?_
                                            refine g_goto (tgt := 376) G dX9_digest_401 (by decide) ?_
                                            exact ih2 (t + 1) _ _ _ (by omega) (by omega) _ _ ⟨Fs, by omega, by omega⟩
                                      exact loop376 ((mN M 5) + 1) 0 _ _ _ (by omega) (by omega) _ _ ⟨Fs, by omega, by omega⟩
                                    · have hlt2 : t < (mN M 23) := by have z : ¬ (mN M 23) ≤ t := fun z => c_335 ((nI_leI (by omega) (by omega)).mpr z); omega
                                      have hlt2a := hlt2
                                      have loop341 : ∀ f2 u : Nat, ∀ St : gS, ∀ (kc sc : Nat), u ≤ 5 → 5 + 1 ≤ u + f2 → ∀ w5 : Option Value, (gFr (fun k => k ≠ 17 + 32 * 90) (sX S 11 0 y (nI 0)) St ∧ kc ≤ 12 + 5 * mN M 6 + 8 * mN M 8 + 8 * mN M 11 + 7 * mN M 17 + 5 * t + u ∧ sc ≤ 144 + 25 * mN M 6 + 64 * mN M 8 + 64 * mN M 11 + 49 * mN M 17 + 25 * t + 5 * u) → gW Γ 341 [some (.ref y), some (.long (gDg (gTellLtr M t) (gDgL M (gDgE M (gDgD M (gDgP M (gDgC M (gDg (gTellCount M) 653 12) (mN M 6)) (mN M 8)) (mN M 11)) (mN M 17)) t) (u))), none, some (.int (nI (t))), some (.int (nI (u))), w5] [] St kc sc := by
                                        intro f2
                                        induction f2 with
                                        | zero => intro u St kc sc q1 q2; omega
                                        | succ f2 ih3 =>
                                          intro u St kc sc ht2 hf2 w5 hv2
                                          obtain ⟨Fs, hkc, hsc⟩ := hv2
                                          have rs := gRest_mono r Fs hk9
                                          have qs := gStt_mono q Fs (by omega) (fun _ _ _ => by omega)
                                          refine g_iload G dX9_digest_341 rfl ?_
                                          refine g_iconst (v := nI 4) G dX9_digest_343 (by decide) ?_
                                          refine g_icmp_gt (tgt := 368) G dX9_digest_344 (by decide) (fun c_344 => ?_) (fun c_344 => ?_)
                                          · have et : u = 5 := by have := (nI_ltI (a := 4) (by omega) (by omega)).mp c_344; omega
                                            subst et
                                            refine g_iinc (v := _) G dX9_digest_368 rfl (by first | exact nI_1 _ | rfl) (gSt_3 (by first | rfl | exact g_c1_rf)) ?_
                                            refine g_goto (tgt := 330) G dX9_digest_371 (by decide) ?_
                                            exact ih2 (t + 1) _ _ _ (by omega) (by omega) _ _ ⟨Fs, by omega, by omega⟩
                                          · have hlt2 : u < 5 := by have z : ¬ 4 < u := fun z => c_344 (nI_lt z (by omega)); omega
                                            refine g_lload_n G dX9_digest_347 rfl ?_
                                            refine g_ldc2 G k_X9_263 dX9_digest_348 ?_
                                            refine g_lmul G dX9_digest_351 (rfl) ?_
                                            first | refine g_aload_n G dX9_digest_352 rfl ?_ | refine g_aload_nN G dX9_digest_352 rfl ?_ | refine g_aload_nQ G dX9_digest_352 rfl ?_
                                            refine g_iload_n G dX9_digest_353 rfl ?_
                                            refine g_iload G dX9_digest_354 rfl ?_
                                            refine g_callV (ci := 10) G (c_X9_letterTold _ _ _ _ _ rs qs i _ _ (by omega) (by omega)) mt_X9_letterTold mi_X9_letterTold ml_X9_247 (rs.kd) (by first | decide | omega) rfl (by decide) (by omega) (by omega) rfl (Nat.le_of_ble_eq_true rfl) dX9_digest_356 (fun v_356 S_356 hp_356 => ?_)
                                            obtain ⟨rfl, FT⟩ := hp_356
                                            simp only [Option.toList, List.cons_append, List.nil_append]
                                            have FN := Fs.tr (K := fun k => k ≠ 17 + 32 * 90) FT (fun _ z => ⟨z, z⟩)
                                            refine g_i2l G dX9_digest_359 (rfl) ?_
                                            refine g_ladd G dX9_digest_360 (rfl) ?_
                                            refine g_lstore_n G dX9_digest_361 (gSt2_1 (by first | rfl | exact g_c1_rf)) ?_
                                            refine g_iinc (v := _) G dX9_digest_362 rfl (by first | exact nI_1 _ | rfl) (gSt_4 (by first | rfl | exact g_c1_rf)) ?_
                                            refine g_goto (tgt := 341) G dX9_digest_365 (by decide) ?_
                                            exact ih3 (u + 1) _ _ _ (by omega) (by omega) _ ⟨FN, by omega, by omega⟩
                                      refine g_iconst (v := nI 0) G dX9_digest_338 (by decide) ?_
                                      refine g_istore G dX9_digest_339 (gSt_4 (by first | rfl | exact g_c1_rf)) ?_
                                      exact loop341 (5 + 1) 0 _ _ _ (by omega) (by omega) _ ⟨Fs, by omega, by omega⟩
                                exact loop330 ((mN M 23) + 1) 0 _ _ _ (by omega) (by omega) _ _ ⟨Fs, by omega, by omega⟩
                              · have hlt2 : t < (mN M 17) := by have z : ¬ (mN M 17) ≤ t := fun z => c_236 ((nI_leI (by omega) (by omega)).mpr z); omega
                                have hlt2a := hlt2
                                have loop242 : ∀ f2 u : Nat, ∀ St : gS, ∀ (kc sc : Nat), u ≤ 7 → 7 + 1 ≤ u + f2 → ∀ w5 : Option Value, (gFr (fun k => k ≠ 17 + 32 * 90) (sX S 11 0 y (nI 0)) St ∧ kc ≤ 12 + 5 * mN M 6 + 8 * mN M 8 + 8 * mN M 11 + 7 * t + u ∧ sc ≤ 144 + 25 * mN M 6 + 64 * mN M 8 + 64 * mN M 11 + 49 * t + 7 * u) → gW Γ 242 [some (.ref y), some (.long (gDg (gTellExh M t) (gDgE M (gDgD M (gDgP M (gDgC M (gDg (gTellCount M) 653 12) (mN M 6)) (mN M 8)) (mN M 11)) t) (u))), none, some (.int (nI (t))), some (.int (nI (u))), w5] [] St kc sc := by
                                  intro f2
                                  induction f2 with
                                  | zero => intro u St kc sc q1 q2; omega
                                  | succ f2 ih3 =>
                                    intro u St kc sc ht2 hf2 w5 hv2
                                    obtain ⟨Fs, hkc, hsc⟩ := hv2
                                    have rs := gRest_mono r Fs hk9
                                    have qs := gStt_mono q Fs (by omega) (fun _ _ _ => by omega)
                                    refine g_iload G dX9_digest_242 rfl ?_
                                    refine g_bipush (v := nI 6) G dX9_digest_244 (by decide) ?_
                                    refine g_icmp_gt (tgt := 270) G dX9_digest_246 (by decide) (fun c_246 => ?_) (fun c_246 => ?_)
                                    · have et : u = 7 := by have := (nI_ltI (a := 6) (by omega) (by omega)).mp c_246; omega
                                      subst et
                                      have ie := i.e t
                                      have loop273 : ∀ f2 u : Nat, ∀ St : gS, ∀ (kc sc : Nat), u ≤ (mN M (200 + t)) → (mN M (200 + t)) + 1 ≤ u + f2 → ∀ w5 : Option Value, (gFr (fun k => k ≠ 17 + 32 * 90) (sX S 11 0 y (nI 0)) St ∧ kc ≤ 12 + 5 * mN M 6 + 8 * mN M 8 + 8 * mN M 11 + 7 * t + 7 ∧ sc ≤ 144 + 25 * mN M 6 + 64 * mN M 8 + 64 * mN M 11 + 49 * t + 49) → gW Γ 273 [some (.ref y), some (.long (gDgK M t (gDg (gTellExh M t) (gDgE M (gDgD M (gDgP M (gDgC M (gDg (gTellCount M) 653 12) (mN M 6)) (mN M 8)) (mN M 11)) t) 7) (u))), none, some (.int (nI (t))), some (.int (nI (u))), w5] [] St kc sc := by
                                        intro f2
                                        induction f2 with
                                        | zero => intro u St kc sc q1 q2; omega
                                        | succ f2 ih4 =>
                                          intro u St kc sc ht2 hf2 w5 hv2
                                          obtain ⟨Fs, hkc, hsc⟩ := hv2
                                          have rs := gRest_mono r Fs hk9
                                          have qs := gStt_mono q Fs (by omega) (fun _ _ _ => by omega)
                                          refine g_iload G dX9_digest_273 rfl ?_
                                          first | refine g_aload_n G dX9_digest_275 rfl ?_ | refine g_aload_nN G dX9_digest_275 rfl ?_ | refine g_aload_nQ G dX9_digest_275 rfl ?_
                                          refine g_getR G fl_X9_55 (rs.kd) (by first | decide | omega) rfl (rs.Y 21 rfl) dX9_digest_276 ?_
                                          refine g_iload_n G dX9_digest_279 rfl ?_
                                          refine g_iald G (rs.A 21 rfl) (by first | decide | omega) (rs.lt 21 19 rfl (by omega)) (by omega) (rs.k (by omega)) dX9_digest_280 ?_
                                          refine g_icmp_ge (tgt := 322) G dX9_digest_281 (by decide) (fun c_281 => ?_) (fun c_281 => ?_)
                                          · have et : u = (mN M (200 + t)) := by have := (nI_leI (by omega) (by omega)).mp c_281; omega
                                            subst et
                                            refine g_iinc (v := _) G dX9_digest_322 rfl (by first | exact nI_1 _ | rfl) (gSt_3 (by first | rfl | exact g_c1_rf)) ?_
                                            refine g_goto (tgt := 231) G dX9_digest_325 (by decide) ?_
                                            exact ih2 (t + 1) _ _ _ (by omega) (by omega) _ _ ⟨Fs, by omega, by omega⟩
                                          · have hlt2 : u < (mN M (200 + t)) := by have z : ¬ (mN M (200 + t)) ≤ u := fun z => c_281 ((nI_leI (by omega) (by omega)).mpr z); omega
                                            have hlt2b := hlt2
                                            have loop287 : ∀ f2 v : Nat, ∀ St : gS, ∀ (kc sc : Nat), v ≤ 4 → 4 + 1 ≤ v + f2 → (gFr (fun k => k ≠ 17 + 32 * 90) (sX S 11 0 y (nI 0)) St ∧ kc ≤ 12 + 5 * mN M 6 + 8 * mN M 8 + 8 * mN M 11 + 7 * t + 7 ∧ sc ≤ 144 + 25 * mN M 6 + 64 * mN M 8 + 64 * mN M 11 + 49 * t + 49) → gW Γ 287 [some (.ref y), some (.long (gDg (gTellLink M t u) (gDgK M t (gDg (gTellExh M t) (gDgE M (gDgD M (gDgP M (gDgC M (gDg (gTellCount M) 653 12) (mN M 6)) (mN M 8)) (mN M 11)) t) 7) u) (v))), none, some (.int (nI (t))), some (.int (nI u)), some (.int (nI (v)))] [] St kc sc := by
                                              intro f2
                                              induction f2 with
                                              | zero => intro v St kc sc q1 q2; omega
                                              | succ f2 ih5 =>
                                                intro v St kc sc ht2 hf2  hv2
                                                obtain ⟨Fs, hkc, hsc⟩ := hv2
                                                have rs := gRest_mono r Fs hk9
                                                have qs := gStt_mono q Fs (by omega) (fun _ _ _ => by omega)
                                                refine g_iload G dX9_digest_287 rfl ?_
                                                refine g_iconst (v := nI 3) G dX9_digest_289 (by decide) ?_
                                                refine g_icmp_gt (tgt := 316) G dX9_digest_290 (by decide) (fun c_290 => ?_) (fun c_290 => ?_)
                                                · have et : v = 4 := by have := (nI_ltI (a := 3) (by omega) (by omega)).mp c_290; omega
                                                  subst et
                                                  refine g_iinc (v := _) G dX9_digest_316 rfl (by first | exact nI_1 _ | rfl) (gSt_4 (by first | rfl | exact g_c1_rf)) ?_
                                                  refine g_goto (tgt := 273) G dX9_digest_319 (by decide) ?_
                                                  exact ih4 (u + 1) _ _ _ (by omega) (by omega) _ ⟨Fs, by omega, by omega⟩
                                                · have hlt2 : v < 4 := by have z : ¬ 3 < v := fun z => c_290 (nI_lt z (by omega)); omega
                                                  refine g_lload_n G dX9_digest_293 rfl ?_
                                                  refine g_ldc2 G k_X9_263 dX9_digest_294 ?_
                                                  refine g_lmul G dX9_digest_297 (rfl) ?_
                                                  first | refine g_aload_n G dX9_digest_298 rfl ?_ | refine g_aload_nN G dX9_digest_298 rfl ?_ | refine g_aload_nQ G dX9_digest_298 rfl ?_
                                                  refine g_iload_n G dX9_digest_299 rfl ?_
                                                  refine g_iload G dX9_digest_300 rfl ?_
                                                  refine g_iload G dX9_digest_302 rfl ?_
                                                  refine g_callVp (ci := 10) G (c_X9_linkTold _ _ _ _ _ rs _ _ _ (by omega) (by omega) (by omega)) mt_X9_linkTold mi_X9_linkTold ml_X9_235 (rs.kd) (by first | decide | omega) rfl (by decide) (by omega) (by omega) rfl (Nat.le_of_ble_eq_true rfl) dX9_digest_304 ?_
                                                  refine g_i2l G dX9_digest_307 (rfl) ?_
                                                  refine g_ladd G dX9_digest_308 (rfl) ?_
                                                  refine g_lstore_n G dX9_digest_309 (gSt2_1 (by first | rfl | exact g_c1_rf)) ?_
                                                  refine g_iinc (v := _) G dX9_digest_310 rfl (by first | exact nI_1 _ | rfl) (gSt_5 (by first | rfl | exact g_c1_rf)) ?_
                                                  refine g_goto (tgt := 287) G dX9_digest_313 (by decide) ?_
                                                  exact ih5 (v + 1) _ _ _ (by omega) (by omega) ⟨Fs, by omega, by omega⟩
                                            refine g_iconst (v := nI 0) G dX9_digest_284 (by decide) ?_
                                            refine g_istore G dX9_digest_285 (gSt_5 (by first | rfl | exact g_c1_rf)) ?_
                                            exact loop287 (4 + 1) 0 _ _ _ (by omega) (by omega) ⟨Fs, by omega, by omega⟩
                                      refine g_iconst (v := nI 0) G dX9_digest_270 (by decide) ?_
                                      refine g_istore G dX9_digest_271 (gSt_4 (by first | rfl | exact g_c1_rf)) ?_
                                      exact loop273 ((mN M (200 + t)) + 1) 0 _ _ _ (by omega) (by omega) _ ⟨Fs, by omega, by omega⟩
                                    · have hlt2 : u < 7 := by have z : ¬ 6 < u := fun z => c_246 (nI_lt z (by omega)); omega
                                      refine g_lload_n G dX9_digest_249 rfl ?_
                                      refine g_ldc2 G k_X9_263 dX9_digest_250 ?_
                                      refine g_lmul G dX9_digest_253 (rfl) ?_
                                      first | refine g_aload_n G dX9_digest_254 rfl ?_ | refine g_aload_nN G dX9_digest_254 rfl ?_ | refine g_aload_nQ G dX9_digest_254 rfl ?_
                                      refine g_iload_n G dX9_digest_255 rfl ?_
                                      refine g_iload G dX9_digest_256 rfl ?_
                                      refine g_callV (ci := 10) G (c_X9_exhibitTold _ _ _ _ _ rs qs i _ _ (by omega) (by omega)) mt_X9_exhibitTold mi_X9_exhibitTold ml_X9_241 (rs.kd) (by first | decide | omega) rfl (by decide) (by omega) (by omega) rfl (Nat.le_of_ble_eq_true rfl) dX9_digest_258 (fun v_258 S_258 hp_258 => ?_)
                                      obtain ⟨rfl, FT⟩ := hp_258
                                      simp only [Option.toList, List.cons_append, List.nil_append]
                                      have FN := Fs.tr (K := fun k => k ≠ 17 + 32 * 90) FT (fun _ z => ⟨z, z⟩)
                                      refine g_i2l G dX9_digest_261 (rfl) ?_
                                      refine g_ladd G dX9_digest_262 (rfl) ?_
                                      refine g_lstore_n G dX9_digest_263 (gSt2_1 (by first | rfl | exact g_c1_rf)) ?_
                                      refine g_iinc (v := _) G dX9_digest_264 rfl (by first | exact nI_1 _ | rfl) (gSt_4 (by first | rfl | exact g_c1_rf)) ?_
                                      refine g_goto (tgt := 242) G dX9_digest_267 (by decide) ?_
                                      exact ih3 (u + 1) _ _ _ (by omega) (by omega) _ ⟨FN, by omega, by omega⟩
                                refine g_iconst (v := nI 0) G dX9_digest_239 (by decide) ?_
                                refine g_istore G dX9_digest_240 (gSt_4 (by first | rfl | exact g_c1_rf)) ?_
                                exact loop242 (7 + 1) 0 _ _ _ (by omega) (by omega) _ ⟨Fs, by omega, by omega⟩
                          exact loop231 ((mN M 17) + 1) 0 _ _ _ (by omega) (by omega) _ _ ⟨Fs, by omega, by omega⟩
                        · have hlt2 : t < (mN M 11) := by have z : ¬ (mN M 11) ≤ t := fun z => c_136 ((nI_leI (by omega) (by omega)).mpr z); omega
                          have hlt2a := hlt2
                          have loop142 : ∀ f2 u : Nat, ∀ St : gS, ∀ (kc sc : Nat), u ≤ 8 → 8 + 1 ≤ u + f2 → ∀ w5 : Option Value, (gFr (fun k => k ≠ 17 + 32 * 90) (sX S 11 0 y (nI 0)) St ∧ kc ≤ 12 + 5 * mN M 6 + 8 * mN M 8 + 8 * t + u ∧ sc ≤ 144 + 25 * mN M 6 + 64 * mN M 8 + 64 * t + 8 * u) → gW Γ 142 [some (.ref y), some (.long (gDg (gTellDoc M t) (gDgD M (gDgP M (gDgC M (gDg (gTellCount M) 653 12) (mN M 6)) (mN M 8)) t) (u))), none, some (.int (nI (t))), some (.int (nI (u))), w5] [] St kc sc := by
                            intro f2
                            induction f2 with
                            | zero => intro u St kc sc q1 q2; omega
                            | succ f2 ih3 =>
                              intro u St kc sc ht2 hf2 w5 hv2
                              obtain ⟨Fs, hkc, hsc⟩ := hv2
                              have rs := gRest_mono r Fs hk9
                              have qs := gStt_mono q Fs (by omega) (fun _ _ _ => by omega)
                              refine g_iload G dX9_digest_142 rfl ?_
                              refine g_bipush (v := nI 7) G dX9_digest_144 (by decide) ?_
                              refine g_icmp_gt (tgt := 170) G dX9_digest_146 (by decide) (fun c_146 => ?_) (fun c_146 => ?_)
                              · have et : u = 8 := by have := (nI_ltI (a := 7) (by omega) (by omega)).mp c_146; omega
                                subst et
                                have it := i.t hlt2a
                                have loop173 : ∀ f2 u : Nat, ∀ St : gS, ∀ (kc sc : Nat), u ≤ (mN M (100 + t)) → (mN M (100 + t)) + 1 ≤ u + f2 → ∀ w5 : Option Value, (gFr (fun k => k ≠ 17 + 32 * 90) (sX S 11 0 y (nI 0)) St ∧ kc ≤ 12 + 5 * mN M 6 + 8 * mN M 8 + 8 * t + 8 ∧ sc ≤ 144 + 25 * mN M 6 + 64 * mN M 8 + 64 * t + 64) → gW Γ 173 [some (.ref y), some (.long (gDg2 (mT M 13 t) (mT M 14 t) (gDg (gTellDoc M t) (gDgD M (gDgP M (gDgC M (gDg (gTellCount M) 653 12) (mN M 6)) (mN M 8)) t) 8) (u))), none, some (.int (nI (t))), some (.int (nI (u))), w5] [] St kc sc := by
                                  intro f2
                                  induction f2 with
                                  | zero => intro u St kc sc q1 q2; omega
                                  | succ f2 ih4 =>
                                    intro u St kc sc ht2 hf2 w5 hv2
                                    obtain ⟨Fs, hkc, hsc⟩ := hv2
                                    have rs := gRest_mono r Fs hk9
                                    have qs := gStt_mono q Fs (by omega) (fun _ _ _ => by omega)
                                    refine g_iload G dX9_digest_173 rfl ?_
                                    first | refine g_aload_n G dX9_digest_175 rfl ?_ | refine g_aload_nN G dX9_digest_175 rfl ?_ | refine g_aload_nQ G dX9_digest_175 rfl ?_
                                    refine g_getR G fl_X9_33 (rs.kd) (by first | decide | omega) rfl (rs.RY 13 (by decide)) dX9_digest_176 ?_
                                    refine g_iload_n G dX9_digest_179 rfl ?_
                                    refine g_aald G (rs.RA 13 (by decide)) (by first | decide | omega) (by rw [rs.RL 13 (by decide)]; omega) (by omega) (rs.RR 13 (by decide) (by omega)) dX9_digest_180 ?_
                                    refine g_alen G (rs.TK 13 (by decide) (by omega)) (by first | decide | omega) (rs.TL 13 (by decide) (by omega)) dX9_digest_181 ?_
                                    refine g_icmp_ge (tgt := 223) G dX9_digest_182 (by decide) (fun c_182 => ?_) (fun c_182 => ?_)
                                    · have et : u = (mN M (100 + t)) := by have := (nI_leI (by omega) (by omega)).mp c_182; omega
                                      subst et
                                      refine g_iinc (v := _) G dX9_digest_223 rfl (by first | exact nI_1 _ | rfl) (gSt_3 (by first | rfl | exact g_c1_rf)) ?_
                                      refine g_goto (tgt := 131) G dX9_digest_226 (by decide) ?_
                                      exact ih2 (t + 1) _ _ _ (by omega) (by omega) _ _ ⟨Fs, by omega, by omega⟩
                                    · have hlt2 : u < (mN M (100 + t)) := by have z : ¬ (mN M (100 + t)) ≤ u := fun z => c_182 ((nI_leI (by omega) (by omega)).mpr z); omega
                                      refine g_lload_n G dX9_digest_185 rfl ?_
                                      refine g_ldc2 G k_X9_263 dX9_digest_186 ?_
                                      refine g_lmul G dX9_digest_189 (rfl) ?_
                                      first | refine g_aload_n G dX9_digest_190 rfl ?_ | refine g_aload_nN G dX9_digest_190 rfl ?_ | refine g_aload_nQ G dX9_digest_190 rfl ?_
                                      refine g_getR G fl_X9_33 (rs.kd) (by first | decide | omega) rfl (rs.RY 13 (by decide)) dX9_digest_191 ?_
                                      refine g_iload_n G dX9_digest_194 rfl ?_
                                      refine g_aald G (rs.RA 13 (by decide)) (by first | decide | omega) (by rw [rs.RL 13 (by decide)]; omega) (by omega) (rs.RR 13 (by decide) (by omega)) dX9_digest_195 ?_
                                      refine g_iload G dX9_digest_196 rfl ?_
                                      refine g_iald G (rs.TK 13 (by decide) (by omega)) (by first | decide | omega) (rs.tlt 13 (by decide) (by omega) (by omega)) (by omega) (rs.TX 13 (by decide) (by omega) (by omega)) dX9_digest_198 ?_
                                      refine g_i2l G dX9_digest_199 (rfl) ?_
                                      refine g_ladd G dX9_digest_200 (rfl) ?_
                                      refine g_ldc2 G k_X9_263 dX9_digest_201 ?_
                                      refine g_lmul G dX9_digest_204 (rfl) ?_
                                      first | refine g_aload_n G dX9_digest_205 rfl ?_ | refine g_aload_nN G dX9_digest_205 rfl ?_ | refine g_aload_nQ G dX9_digest_205 rfl ?_
                                      refine g_getR G fl_X9_37 (rs.kd) (by first | decide | omega) rfl (rs.RY 14 (by decide)) dX9_digest_206 ?_
                                      refine g_iload_n G dX9_digest_209 rfl ?_
                                      refine g_aald G (rs.RA 14 (by decide)) (by first | decide | omega) (by rw [rs.RL 14 (by decide)]; omega) (by omega) (rs.RR 14 (by decide) (by omega)) dX9_digest_210 ?_
                                      refine g_iload G dX9_digest_211 rfl ?_
                                      refine g_iald G (rs.TK 14 (by decide) (by omega)) (by first | decide | omega) (rs.tlt 14 (by decide) (by omega) (by omega)) (by omega) (rs.TX 14 (by decide) (by omega) (by omega)) dX9_digest_213 ?_
                                      refine g_i2l G dX9_digest_214 (rfl) ?_
                                      refine g_ladd G dX9_digest_215 (rfl) ?_
                                      refine g_lstore_n G dX9_digest_216 (gSt2_1 (by first | rfl | exact g_c1_rf)) ?_
                                      refine g_iinc (v := _) G dX9_digest_217 rfl (by first | exact nI_1 _ | rfl) (gSt_4 (by first | rfl | exact g_c1_rf)) ?_
                                      refine g_goto (tgt := 173) G dX9_digest_220 (by decide) ?_
                                      exact ih4 (u + 1) _ _ _ (by omega) (by omega) _ ⟨Fs, by omega, by omega⟩
                                refine g_iconst (v := nI 0) G dX9_digest_170 (by decide) ?_
                                refine g_istore G dX9_digest_171 (gSt_4 (by first | rfl | exact g_c1_rf)) ?_
                                exact loop173 ((mN M (100 + t)) + 1) 0 _ _ _ (by omega) (by omega) _ ⟨Fs, by omega, by omega⟩
                              · have hlt2 : u < 8 := by have z : ¬ 7 < u := fun z => c_146 (nI_lt z (by omega)); omega
                                refine g_lload_n G dX9_digest_149 rfl ?_
                                refine g_ldc2 G k_X9_263 dX9_digest_150 ?_
                                refine g_lmul G dX9_digest_153 (rfl) ?_
                                first | refine g_aload_n G dX9_digest_154 rfl ?_ | refine g_aload_nN G dX9_digest_154 rfl ?_ | refine g_aload_nQ G dX9_digest_154 rfl ?_
                                refine g_iload_n G dX9_digest_155 rfl ?_
                                refine g_iload G dX9_digest_156 rfl ?_
                                refine g_callV (ci := 10) G (c_X9_documentTold _ _ _ _ _ rs qs i _ _ (by omega) (by omega)) mt_X9_documentTold mi_X9_documentTold ml_X9_170 (rs.kd) (by first | decide | omega) rfl (by decide) (by omega) (by omega) rfl (Nat.le_of_ble_eq_true rfl) dX9_digest_158 (fun v_158 S_158 hp_158 => ?_)
                                obtain ⟨rfl, FT⟩ := hp_158
                                simp only [Option.toList, List.cons_append, List.nil_append]
                                have FN := Fs.tr (K := fun k => k ≠ 17 + 32 * 90) FT (fun _ z => ⟨z, z⟩)
                                refine g_i2l G dX9_digest_161 (rfl) ?_
                                refine g_ladd G dX9_digest_162 (rfl) ?_
                                refine g_lstore_n G dX9_digest_163 (gSt2_1 (by first | rfl | exact g_c1_rf)) ?_
                                refine g_iinc (v := _) G dX9_digest_164 rfl (by first | exact nI_1 _ | rfl) (gSt_4 (by first | rfl | exact g_c1_rf)) ?_
                                refine g_goto (tgt := 142) G dX9_digest_167 (by decide) ?_
                                exact ih3 (u + 1) _ _ _ (by omega) (by omega) _ ⟨FN, by omega, by omega⟩
                          refine g_iconst (v := nI 0) G dX9_digest_139 (by decide) ?_
                          refine g_istore G dX9_digest_140 (gSt_4 (by first | rfl | exact g_c1_rf)) ?_
                          exact loop142 (8 + 1) 0 _ _ _ (by omega) (by omega) _ ⟨Fs, by omega, by omega⟩
                    exact loop131 ((mN M 11) + 1) 0 _ _ _ (by omega) (by omega) _ _ ⟨Fs, by omega, by omega⟩
                  · have hlt2 : t < (mN M 8) := by have z : ¬ (mN M 8) ≤ t := fun z => c_89 ((nI_leI (by omega) (by omega)).mpr z); omega
                    have hlt2a := hlt2
                    have loop95 : ∀ f2 u : Nat, ∀ St : gS, ∀ (kc sc : Nat), u ≤ 8 → 8 + 1 ≤ u + f2 → ∀ w5 : Option Value, (gFr (fun k => k ≠ 17 + 32 * 90) (sX S 11 0 y (nI 0)) St ∧ kc ≤ 12 + 5 * mN M 6 + 8 * t + u ∧ sc ≤ 144 + 25 * mN M 6 + 64 * t + 8 * u) → gW Γ 95 [some (.ref y), some (.long (gDg (gTellPers M t) (gDgP M (gDgC M (gDg (gTellCount M) 653 12) (mN M 6)) t) (u))), none, some (.int (nI (t))), some (.int (nI (u))), w5] [] St kc sc := by
                      intro f2
                      induction f2 with
                      | zero => intro u St kc sc q1 q2; omega
                      | succ f2 ih3 =>
                        intro u St kc sc ht2 hf2 w5 hv2
                        obtain ⟨Fs, hkc, hsc⟩ := hv2
                        have rs := gRest_mono r Fs hk9
                        have qs := gStt_mono q Fs (by omega) (fun _ _ _ => by omega)
                        refine g_iload G dX9_digest_95 rfl ?_
                        refine g_bipush (v := nI 7) G dX9_digest_97 (by decide) ?_
                        refine g_icmp_gt (tgt := 123) G dX9_digest_99 (by decide) (fun c_99 => ?_) (fun c_99 => ?_)
                        · have et : u = 8 := by have := (nI_ltI (a := 7) (by omega) (by omega)).mp c_99; omega
                          subst et
                          refine g_iinc (v := _) G dX9_digest_123 rfl (by first | exact nI_1 _ | rfl) (gSt_3 (by first | rfl | exact g_c1_rf)) ?_
                          refine g_goto (tgt := 84) G dX9_digest_126 (by decide) ?_
                          exact ih2 (t + 1) _ _ _ (by omega) (by omega) _ _ ⟨Fs, by omega, by omega⟩
                        · have hlt2 : u < 8 := by have z : ¬ 7 < u := fun z => c_99 (nI_lt z (by omega)); omega
                          refine g_lload_n G dX9_digest_102 rfl ?_
                          refine g_ldc2 G k_X9_263 dX9_digest_103 ?_
                          refine g_lmul G dX9_digest_106 (rfl) ?_
                          first | refine g_aload_n G dX9_digest_107 rfl ?_ | refine g_aload_nN G dX9_digest_107 rfl ?_ | refine g_aload_nQ G dX9_digest_107 rfl ?_
                          refine g_iload_n G dX9_digest_108 rfl ?_
                          refine g_iload G dX9_digest_109 rfl ?_
                          refine g_callV (ci := 10) G (c_X9_personTold _ _ _ _ _ rs qs i _ _ (by omega) (by omega)) mt_X9_personTold mi_X9_personTold ml_X9_191 (rs.kd) (by first | decide | omega) rfl (by decide) (by omega) (by omega) rfl (Nat.le_of_ble_eq_true rfl) dX9_digest_111 (fun v_111 S_111 hp_111 => ?_)
                          obtain ⟨rfl, FT⟩ := hp_111
                          simp only [Option.toList, List.cons_append, List.nil_append]
                          have FN := Fs.tr (K := fun k => k ≠ 17 + 32 * 90) FT (fun _ z => ⟨z, z⟩)
                          refine g_i2l G dX9_digest_114 (rfl) ?_
                          refine g_ladd G dX9_digest_115 (rfl) ?_
                          refine g_lstore_n G dX9_digest_116 (gSt2_1 (by first | rfl | exact g_c1_rf)) ?_
                          refine g_iinc (v := _) G dX9_digest_117 rfl (by first | exact nI_1 _ | rfl) (gSt_4 (by first | rfl | exact g_c1_rf)) ?_
                          refine g_goto (tgt := 95) G dX9_digest_120 (by decide) ?_
                          exact ih3 (u + 1) _ _ _ (by omega) (by omega) _ ⟨FN, by omega, by omega⟩
                    refine g_iconst (v := nI 0) G dX9_digest_92 (by decide) ?_
                    refine g_istore G dX9_digest_93 (gSt_4 (by first | rfl | exact g_c1_rf)) ?_
                    exact loop95 (8 + 1) 0 _ _ _ (by omega) (by omega) _ ⟨Fs, by omega, by omega⟩
              exact loop84 ((mN M 8) + 1) 0 _ _ _ (by omega) (by omega) _ _ ⟨Fs, by omega, by omega⟩
            · have hlt2 : t < (mN M 6) := by have z : ¬ (mN M 6) ≤ t := fun z => c_43 ((nI_leI (by omega) (by omega)).mpr z); omega
              have hlt2a := hlt2
              have loop49 : ∀ f2 u : Nat, ∀ St : gS, ∀ (kc sc : Nat), u ≤ 5 → 5 + 1 ≤ u + f2 → ∀ w5 : Option Value, (gFr (fun k => k ≠ 17 + 32 * 90) (sX S 11 0 y (nI 0)) St ∧ kc ≤ 12 + 5 * t + u ∧ sc ≤ 144 + 25 * t + 5 * u) → gW Γ 49 [some (.ref y), some (.long (gDg (gTellCase M t) (gDgC M (gDg (gTellCount M) 653 12) t) (u))), none, some (.int (nI (t))), some (.int (nI (u))), w5] [] St kc sc := by
                intro f2
                induction f2 with
                | zero => intro u St kc sc q1 q2; omega
                | succ f2 ih3 =>
                  intro u St kc sc ht2 hf2 w5 hv2
                  obtain ⟨Fs, hkc, hsc⟩ := hv2
                  have rs := gRest_mono r Fs hk9
                  have qs := gStt_mono q Fs (by omega) (fun _ _ _ => by omega)
                  refine g_iload G dX9_digest_49 rfl ?_
                  refine g_iconst (v := nI 4) G dX9_digest_51 (by decide) ?_
                  refine g_icmp_gt (tgt := 76) G dX9_digest_52 (by decide) (fun c_52 => ?_) (fun c_52 => ?_)
                  · have et : u = 5 := by have := (nI_ltI (a := 4) (by omega) (by omega)).mp c_52; omega
                    subst et
                    refine g_iinc (v := _) G dX9_digest_76 rfl (by first | exact nI_1 _ | rfl) (gSt_3 (by first | rfl | exact g_c1_rf)) ?_
                    refine g_goto (tgt := 38) G dX9_digest_79 (by decide) ?_
                    exact ih2 (t + 1) _ _ _ (by omega) (by omega) _ _ ⟨Fs, by omega, by omega⟩
                  · have hlt2 : u < 5 := by have z : ¬ 4 < u := fun z => c_52 (nI_lt z (by omega)); omega
                    refine g_lload_n G dX9_digest_55 rfl ?_
                    refine g_ldc2 G k_X9_263 dX9_digest_56 ?_
                    refine g_lmul G dX9_digest_59 (rfl) ?_
                    first | refine g_aload_n G dX9_digest_60 rfl ?_ | refine g_aload_nN G dX9_digest_60 rfl ?_ | refine g_aload_nQ G dX9_digest_60 rfl ?_
                    refine g_iload_n G dX9_digest_61 rfl ?_
                    refine g_iload G dX9_digest_62 rfl ?_
                    refine g_callV (ci := 10) G (c_X9_caseTold _ _ _ _ _ rs qs i _ _ (by omega) (by omega)) mt_X9_caseTold mi_X9_caseTold ml_X9_197 (rs.kd) (by first | decide | omega) rfl (by decide) (by omega) (by omega) rfl (Nat.le_of_ble_eq_true rfl) dX9_digest_64 (fun v_64 S_64 hp_64 => ?_)
                    obtain ⟨rfl, FT⟩ := hp_64
                    simp only [Option.toList, List.cons_append, List.nil_append]
                    have FN := Fs.tr (K := fun k => k ≠ 17 + 32 * 90) FT (fun _ z => ⟨z, z⟩)
                    refine g_i2l G dX9_digest_67 (rfl) ?_
                    refine g_ladd G dX9_digest_68 (rfl) ?_
                    refine g_lstore_n G dX9_digest_69 (gSt2_1 (by first | rfl | exact g_c1_rf)) ?_
                    refine g_iinc (v := _) G dX9_digest_70 rfl (by first | exact nI_1 _ | rfl) (gSt_4 (by first | rfl | exact g_c1_rf)) ?_
                    refine g_goto (tgt := 49) G dX9_digest_73 (by decide) ?_
                    exact ih3 (u + 1) _ _ _ (by omega) (by omega) _ ⟨FN, by omega, by omega⟩
              refine g_iconst (v := nI 0) G dX9_digest_46 (by decide) ?_
              refine g_istore G dX9_digest_47 (gSt_4 (by first | rfl | exact g_c1_rf)) ?_
              exact loop49 (5 + 1) 0 _ _ _ (by omega) (by omega) _ ⟨Fs, by omega, by omega⟩
        exact loop38 ((mN M 6) + 1) 0 _ _ _ (by omega) (by omega) _ _ ⟨Fs, by omega, by omega⟩
      · have hlt2 : t < 12 := by have z : ¬ 11 < t := fun z => c_14 (nI_lt z (by omega)); omega
        refine g_lload_n G dX9_digest_17 rfl ?_
        refine g_ldc2 G k_X9_263 dX9_digest_18 ?_
        refine g_lmul G dX9_digest_21 (rfl) ?_
        first | refine g_aload_n G dX9_digest_22 rfl ?_ | refine g_aload_nN G dX9_digest_22 rfl ?_ | refine g_aload_nQ G dX9_digest_22 rfl ?_
        refine g_iload_n G dX9_digest_23 rfl ?_
        refine g_callV (ci := 10) G (c_X9_counted _ _ _ _ _ rs qs i _ (by omega)) mt_X9_counted mi_X9_counted ml_X9_258 (rs.kd) (by first | decide | omega) rfl (by decide) (by omega) (by omega) rfl (Nat.le_of_ble_eq_true rfl) dX9_digest_24 (fun v_24 S_24 hp_24 => ?_)
        obtain ⟨rfl, FT⟩ := hp_24
        simp only [Option.toList, List.cons_append, List.nil_append]
        have FN := Fs.tr (K := fun k => k ≠ 17 + 32 * 90) FT (fun _ z => ⟨z, z⟩)
        refine g_i2l G dX9_digest_27 (rfl) ?_
        refine g_ladd G dX9_digest_28 (rfl) ?_
        refine g_lstore_n G dX9_digest_29 (gSt2_1 (by first | rfl | exact g_c1_rf)) ?_
        refine g_iinc (v := _) G dX9_digest_30 rfl (by first | exact nI_1 _ | rfl) (gSt_3 (by first | rfl | exact g_c1_rf)) ?_
        refine g_goto (tgt := 11) G dX9_digest_33 (by decide) ?_
        exact ih2 (t + 1) _ _ _ (by omega) (by omega) _ _ ⟨FN, by omega, by omega⟩
  exact loop11 (12 + 1) 0 _ _ _ (by omega) (by omega) _ _ ⟨gFr.rf _, by omega, by omega⟩
