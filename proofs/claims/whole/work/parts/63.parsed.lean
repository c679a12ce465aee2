/-! ===== the reference: parse, walked ===== -/

set_option maxHeartbeats 4000000 in
set_option maxRecDepth 100000 in
theorem c_X9_parse (d0 : Nat × Nat) (S : gS) (y : Nat) (b : Nat → Nat → Nat) (M : gM) (h : gRef S y b M) (i : gInv M) (c : Nat) (hc : c < mN M 6) : gCt d0 yX9_parse cX9_parse 8 (some .int) 3 1 6 [.ref y, .int (nI c)] S (fun v' S' => gRef S' y b M ∧ gW9 S S' y ∧ ((∃ p, v' = some (.int (nI p)) ∧ p ≤ 2000 ∧ gBad (mA M 1) (gOwn M c) (mN M 2) p) ∨ (∃ D W, v' = some (.int (-1)) ∧ gPs S' y b M D W ∧ W ≤ 2500 ∧ (mA D 4 1 = -1 ∨ ¬ mA D 4 1 < 0) ∧ dOut (mA M 1) (gOwn M c) (mN M 2) = (if mA D 4 1 < 0 then nI 0 else nI 2, mA D 4 1, D)))) gNo := by
  refine gCt_of (lo := [some (.ref y), some (.int (nI c)), none, none, none, none, none, none]) (by decide +kernel) (Nat.le_of_ble_eq_true rfl) (rfl) ?_
  intro Γ hd G F hini
  obtain ⟨r, q, -⟩ := id h
  obtain ⟨i6, i8, i11, i17, i23, i2, i5⟩ := i.b
  refine g_bipush (v := nI 6) G dX9_parse_0 (by decide) ?_
  refine g_new_int (κ := 17 + 32 * 90) G ac_int (by first | decide | omega) (rfl) (by omega) (by omega) (by omega) dX9_parse_2 (fun q_2 hq_2 => ?_)
  have hM := gRef_mono h (gFr_M (17 + 32 * 90) 6 hq_2) (fun κ z e => gRk_9 (e ▸ z))
  first | refine g_astore_n G dX9_parse_4 (gSt_2 (by first | rfl | exact g_c1_rf)) ?_ | refine g_astore_nN G dX9_parse_4 (gSt_2 (by first | rfl | exact g_c1_rf)) ?_ | refine g_astore_nQ G dX9_parse_4 (gSt_2 (by first | rfl | exact g_c1_rf)) ?_
  refine g_iconst (v := nI 0) G dX9_parse_5 (by decide) ?_
  refine g_istore_n G dX9_parse_6 (gSt_3 (by first | rfl | exact g_c1_rf)) ?_
  first | refine g_aload_n G dX9_parse_7 rfl ?_ | refine g_aload_nN G dX9_parse_7 rfl ?_ | refine g_aload_nQ G dX9_parse_7 rfl ?_
  refine g_iconst (v := nI 0) G dX9_parse_8 (by decide) ?_
  refine g_putI G fl_X9_117 pu_10_32 (hM.1.kd) (by first | decide | omega) rfl dX9_parse_9 ?_
  first | refine g_aload_n G dX9_parse_12 rfl ?_ | refine g_aload_nN G dX9_parse_12 rfl ?_ | refine g_aload_nQ G dX9_parse_12 rfl ?_
  refine g_iconst (v := (-1)) G dX9_parse_13 (by decide) ?_
  refine g_putI G fl_X9_120 pu_10_33 (hM.1.kd) (by first | decide | omega) rfl dX9_parse_14 ?_
  first | refine g_aload_n G dX9_parse_17 rfl ?_ | refine g_aload_nN G dX9_parse_17 rfl ?_ | refine g_aload_nQ G dX9_parse_17 rfl ?_
  refine g_iconst (v := nI 0) G dX9_parse_18 (by decide) ?_
  refine g_putI G fl_X9_123 pu_10_34 (hM.1.kd) (by first | decide | omega) rfl dX9_parse_19 ?_
  refine g_iconst (v := nI 0) G dX9_parse_22 (by decide) ?_
  refine g_istore G dX9_parse_23 (gSt_4 (by first | rfl | exact g_c1_rf)) ?_
  have loop25 : ∀ f2 t : Nat, ∀ St : gS, ∀ (D : gM) (W : Nat), t ≤ (mN M 2) → (mN M 2) + 1 ≤ t + f2 → ∀ w5 w6 w7 : Option Value, (gPI S St y b M c q_2 t D W) → gW Γ 25 [some (.ref y), some (.int (nI c)), some (.ref q_2), some (.int (nI (mN D 1))), some (.int (nI (t))), w5, w6, w7] [] St 1 6 := by
    intro f2
    induction f2 with
    | zero => intro t St D W q1 q2; omega
    | succ f2 ih2 =>
      intro t St D W ht2 hf2 w5 w6 w7 hv2
      obtain ⟨hS, hP, hA, hW2, hw, hO⟩ := hv2
      have h5 := hS.1
      obtain ⟨r, q, -⟩ := id hP.1
      refine g_iload G dX9_parse_25 rfl ?_
      first | refine g_aload_n G dX9_parse_27 rfl ?_ | refine g_aload_nN G dX9_parse_27 rfl ?_ | refine g_aload_nQ G dX9_parse_27 rfl ?_
      refine g_getI G fl_X9_110 (r.kd) (by first | decide | omega) rfl (r.n 2 rfl) dX9_parse_28 ?_
      refine g_icmp_ge (tgt := 444) G dX9_parse_31 (by decide) (fun c_31 => ?_) (fun c_31 => ?_)
      · have et : t = (mN M 2) := by have := (nI_leI (by omega) (by omega)).mp c_31; omega
        subst et
        refine g_iload_n G dX9_parse_444 rfl ?_
        refine g_if_ne (tgt := 452) G dX9_parse_445 (by decide) (fun c_445 => ?_) (fun c_445 => ?_)
        · have h9 := gSet_open hS (fun z => c_445 (by rw [z]; rfl))
          first | refine g_aload_n G dX9_parse_452 rfl ?_ | refine g_aload_nN G dX9_parse_452 rfl ?_ | refine g_aload_nQ G dX9_parse_452 rfl ?_
          refine g_getI G fl_X9_110 (r.kd) (by first | decide | omega) rfl (r.n 2 rfl) dX9_parse_453 ?_
          exact g_iret G F (by first | exact ⟨hP.1, hO, Or.inl ⟨_, rfl, by omega, h9⟩⟩ | exact ⟨hP.1, hO, Or.inr ⟨D, W, rfl, hP, by omega, hw.2, h9⟩⟩) (by omega) (by omega) dX9_parse_456
        · have h0 : mN D 1 = 0 := (nI_eq (b := 0) (by have := hS.1; omega) (by omega)).mp c_445
          have h9 := gSet_end hS h0
          refine g_iconst (v := (-1)) G dX9_parse_448 (by decide) ?_
          refine g_goto (tgt := 456) G dX9_parse_449 (by decide) ?_
          exact g_iret G F (by first | exact ⟨hP.1, hO, Or.inl ⟨_, rfl, by omega, h9⟩⟩ | exact ⟨hP.1, hO, Or.inr ⟨D, W, rfl, hP, by omega, hw.2, h9⟩⟩) (by omega) (by omega) dX9_parse_456
      · have hlt2 : t < (mN M 2) := by have z : ¬ (mN M 2) ≤ t := fun z => c_31 ((nI_leI (by omega) (by omega)).mpr z); omega
        first | refine g_aload_n G dX9_parse_34 rfl ?_ | refine g_aload_nN G dX9_parse_34 rfl ?_ | refine g_aload_nQ G dX9_parse_34 rfl ?_
        refine g_getR G fl_X9_9 (r.kd) (by first | decide | omega) rfl (r.Y 1 rfl) dX9_parse_35 ?_
        refine g_iload G dX9_parse_38 rfl ?_
        refine g_iald G (r.A 1 rfl) (by first | decide | omega) (r.lt 1 999 rfl (by omega)) (by omega) (r.t (by omega)) dX9_parse_40 ?_
        refine g_istore G dX9_parse_41 (gSt_5 (by first | rfl | exact g_c1_rf)) ?_
        refine g_iload G dX9_parse_43 rfl ?_
        refine g_bipush (v := nI 91) G dX9_parse_45 (by decide) ?_
        refine g_icmp_ne (tgt := 131) G dX9_parse_47 (by decide) (fun c_47 => ?_) (fun c_47 => ?_)
        · have n91 : ¬ mA M 1 t = nI 91 := c_47
          refine g_iload G dX9_parse_131 rfl ?_
          refine g_bipush (v := nI 93) G dX9_parse_133 (by decide) ?_
          refine g_icmp_ne (tgt := 154) G dX9_parse_135 (by decide) (fun c_135 => ?_) (fun c_135 => ?_)
          · have n93 : ¬ mA M 1 t = nI 93 := c_135
            refine g_iload G dX9_parse_154 rfl ?_
            refine g_bipush (v := nI 123) G dX9_parse_156 (by decide) ?_
            refine g_icmp_ne (tgt := 252) G dX9_parse_158 (by decide) (fun c_158 => ?_) (fun c_158 => ?_)
            · have n123 : ¬ mA M 1 t = nI 123 := c_158
              refine g_iload G dX9_parse_252 rfl ?_
              refine g_bipush (v := nI 64) G dX9_parse_254 (by decide) ?_
              refine g_icmp_ne (tgt := 399) G dX9_parse_256 (by decide) (fun c_256 => ?_) (fun c_256 => ?_)
              · have n64 : ¬ mA M 1 t = nI 64 := c_256
                refine g_iload G dX9_parse_399 rfl ?_
                refine g_bipush (v := nI 10) G dX9_parse_401 (by decide) ?_
                refine g_icmp_eq (tgt := 418) G dX9_parse_403 (by decide) (fun c_403 => ?_) (fun c_403 => ?_)
                · have p10 : dPlk (mA M 1 t) = true := decide_eq_true (Or.inl c_403)
                  refine g_iload G dX9_parse_418 rfl ?_
                  refine g_bipush (v := nI 125) G dX9_parse_420 (by decide) ?_
                  refine g_icmp_ne (tgt := 428) G dX9_parse_422 (by decide) (fun c_422 => ?_) (fun c_422 => ?_)
                  · have n125 : ¬ mA M 1 t = nI 125 := c_422
                    have e1 : dBok D (mA M 1 t) = dPlk (mA M 1 t) := (if_neg n91).trans ((if_neg n93).trans ((if_neg n123).trans ((if_neg n125).trans (if_neg n64))))
                    have hs1 : dRes (mA M 1) (gOwn M c) (t + 1) = .inr (dPut D (mA M 1 t) (nI 0)) := by
                      have z := gSet_step hS hlt2
                      rw [e1, p10, if_pos rfl] at z
                      rw [z]
                      exact congrArg Sum.inr ((if_neg n91).trans ((if_neg n93).trans ((if_neg n123).trans (if_neg n64))))
                    first | refine g_aload_n G dX9_parse_428 rfl ?_ | refine g_aload_nN G dX9_parse_428 rfl ?_ | refine g_aload_nQ G dX9_parse_428 rfl ?_
                    refine g_iload G dX9_parse_429 rfl ?_
                    first | refine g_aload_n G dX9_parse_431 rfl ?_ | refine g_aload_nN G dX9_parse_431 rfl ?_ | refine g_aload_nQ G dX9_parse_431 rfl ?_
                    refine g_iload_n G dX9_parse_432 rfl ?_
                    refine g_iald G (hA.1) (by first | decide | omega) (by rw [hA.2.1]; omega) (by omega) (hA.2.2 _ (Nat.le_refl _)) dX9_parse_433 ?_
                    refine g_iconst (v := nI 0) G dX9_parse_434 (by decide) ?_
                    refine g_callV (ci := 10) G (c_X9_write _ _ y b M hP.1 W hP.2.1 (by omega) _ _ _) mt_X9_write mi_X9_write ml_X9_139 (r.kd) (by first | decide | omega) rfl (by decide) (by omega) (by omega) rfl (Nat.le_of_ble_eq_true rfl) dX9_parse_435 (fun v_435 S_435 hp_435 => ?_)
                    obtain ⟨rfl, rfl⟩ := hp_435
                    simp only [Option.toList, List.nil_append]
                    have p2 := gPs_put (one := mA M 1 t) (own := mA D 3 (mN D 1)) (mk := nI 0) hP rfl
                    refine g_iinc (v := _) G dX9_parse_438 rfl (by first | exact nI_1 _ | rfl) (gSt_4 (by first | rfl | exact g_c1_rf)) ?_
                    refine g_goto (tgt := 25) G dX9_parse_441 (by decide) ?_
                    exact ih2 (t + 1) _ (dPut D (mA M 1 t) (nI 0)) (W + 1) (by omega) (by omega) _ _ _ ⟨gSet_of hs1 (show mN D 2 = 0 from gSet_st hS) (show mN D 1 ≤ 5 from hS.1), p2, gAr_put hA wrS_fr, by omega, ⟨(dPut_3 (by omega)).trans hw.1, by rw [dPut_3 (by omega)]; exact hw.2⟩, gW9_wr hO⟩
                  · have e9 : gBad (mA M 1) (gOwn M c) (mN M 2) t := gSet_bad hS hlt2 (by rw [show mA M 1 t = nI 125 from c_422]; rfl)
                    refine g_iload G dX9_parse_425 rfl ?_
                    exact g_iret G F (⟨hP.1, hO, Or.inl ⟨_, rfl, by omega, e9⟩⟩) (by omega) (by omega) dX9_parse_427
                · have n10 : ¬ mA M 1 t = nI 10 := c_403
                  refine g_iload G dX9_parse_406 rfl ?_
                  refine g_bipush (v := nI 32) G dX9_parse_408 (by decide) ?_
                  refine g_bipush (v := nI 126) G dX9_parse_410 (by decide) ?_
                  refine g_callSp G (c_X9_isIn _ _ _ _ _) mt_X9_isIn ms_X9_isIn ml_X9_97 (by decide) (by omega) (by omega) rfl (Nat.le_of_ble_eq_true rfl) dX9_parse_412 ?_
                  refine g_if_eq (tgt := 425) G dX9_parse_415 (by decide) (fun c_415 => ?_) (fun c_415 => ?_)
                  · have np := of_decide_eq_false (gB_eq0.mp c_415)
                    have e9 : gBad (mA M 1) (gOwn M c) (mN M 2) t := gSet_bad hS hlt2 (by
                      by_cases n125 : mA M 1 t = nI 125
                      · rw [n125]; rfl
                      · have e1 : dBok D (mA M 1 t) = dPlk (mA M 1 t) := (if_neg n91).trans ((if_neg n93).trans ((if_neg n123).trans ((if_neg n125).trans (if_neg n64))))
                        exact e1.trans (decide_eq_false (fun z => z.elim n10 np)))
                    refine g_iload G dX9_parse_425 rfl ?_
                    exact g_iret G F (⟨hP.1, hO, Or.inl ⟨_, rfl, by omega, e9⟩⟩) (by omega) (by omega) dX9_parse_427
                  · have p10 : dPlk (mA M 1 t) = true := decide_eq_true (Or.inr (of_decide_eq_true (gB_ne0.mp c_415)))
                    refine g_iload G dX9_parse_418 rfl ?_
                    refine g_bipush (v := nI 125) G dX9_parse_420 (by decide) ?_
                    refine g_icmp_ne (tgt := 428) G dX9_parse_422 (by decide) (fun c_422 => ?_) (fun c_422 => ?_)
                    · have n125 : ¬ mA M 1 t = nI 125 := c_422
                      have e1 : dBok D (mA M 1 t) = dPlk (mA M 1 t) := (if_neg n91).trans ((if_neg n93).trans ((if_neg n123).trans ((if_neg n125).trans (if_neg n64))))
                      have hs1 : dRes (mA M 1) (gOwn M c) (t + 1) = .inr (dPut D (mA M 1 t) (nI 0)) := by
                        have z := gSet_step hS hlt2
                        rw [e1, p10, if_pos rfl] at z
                        rw [z]
                        exact congrArg Sum.inr ((if_neg n91).trans ((if_neg n93).trans ((if_neg n123).trans (if_neg n64))))
                      first | refine g_aload_n G dX9_parse_428 rfl ?_ | refine g_aload_nN G dX9_parse_428 rfl ?_ | refine g_aload_nQ G dX9_parse_428 rfl ?_
                      refine g_iload G dX9_parse_429 rfl ?_
                      first | refine g_aload_n G dX9_parse_431 rfl ?_ | refine g_aload_nN G dX9_parse_431 rfl ?_ | refine g_aload_nQ G dX9_parse_431 rfl ?_
                      refine g_iload_n G dX9_parse_432 rfl ?_
                      refine g_iald G (hA.1) (by first | decide | omega) (by rw [hA.2.1]; omega) (by omega) (hA.2.2 _ (Nat.le_refl _)) dX9_parse_433 ?_
                      refine g_iconst (v := nI 0) G dX9_parse_434 (by decide) ?_
                      refine g_callV (ci := 10) G (c_X9_write _ _ y b M hP.1 W hP.2.1 (by omega) _ _ _) mt_X9_write mi_X9_write ml_X9_139 (r.kd) (by first | decide | omega) rfl (by decide) (by omega) (by omega) rfl (Nat.le_of_ble_eq_true rfl) dX9_parse_435 (fun v_435 S_435 hp_435 => ?_)
                      obtain ⟨rfl, rfl⟩ := hp_435
                      simp only [Option.toList, List.nil_append]
                      have p2 := gPs_put (one := mA M 1 t) (own := mA D 3 (mN D 1)) (mk := nI 0) hP rfl
                      refine g_iinc (v := _) G dX9_parse_438 rfl (by first | exact nI_1 _ | rfl) (gSt_4 (by first | rfl | exact g_c1_rf)) ?_
                      refine g_goto (tgt := 25) G dX9_parse_441 (by decide) ?_
                      exact ih2 (t + 1) _ (dPut D (mA M 1 t) (nI 0)) (W + 1) (by omega) (by omega) _ _ _ ⟨gSet_of hs1 (show mN D 2 = 0 from gSet_st hS) (show mN D 1 ≤ 5 from hS.1), p2, gAr_put hA wrS_fr, by omega, ⟨(dPut_3 (by omega)).trans hw.1, by rw [dPut_3 (by omega)]; exact hw.2⟩, gW9_wr hO⟩
                    · have e9 : gBad (mA M 1) (gOwn M c) (mN M 2) t := gSet_bad hS hlt2 (by rw [show mA M 1 t = nI 125 from c_422]; rfl)
                      refine g_iload G dX9_parse_425 rfl ?_
                      exact g_iret G F (⟨hP.1, hO, Or.inl ⟨_, rfl, by omega, e9⟩⟩) (by omega) (by omega) dX9_parse_427
              · have eb : mA M 1 t = nI 64 := c_256
                have h5 := hS.1
                have hs1 : dRes (mA M 1) (gOwn M c) (t + 1) = .inr (uN (uN (uN (uN D 2 4) 3 0) 4 0) 5 t) := by
                  have z := gSet_step hS hlt2
                  rw [eb] at z
                  exact z
                have hlt2a := hlt2
                have loop269 : ∀ f2 u : Nat, ∀ (o : Nat), u ≤ 3 → 3 + 1 ≤ u + f2 → ((∃ X, (mN X 2 = 4 ∧ mN X 3 = u ∧ mN X 4 = o ∧ mN X 5 = t ∧ mN X 0 = mN D 0 ∧ mN X 1 = mN D 1 ∧ X.2 = D.2) ∧ (u < 3 → dRes (mA M 1) (gOwn M c) (t + 1 + u) = .inr X) ∧ (u = 3 → dRes (mA M 1) (gOwn M c) (t + 1 + u) = .inr (dEnd X))) ∧ o < 10 ^ u ∧ t + 1 + u ≤ mN M 2) → gW Γ 269 [some (.ref y), some (.int (nI c)), some (.ref q_2), some (.int (nI (mN D 1))), some (.int (nI (t + 1 + u))), some (.int (nI 64)), some (.int (nI t)), some (.int (nI o))] [] St 1 6 := by
                  intro f2
                  induction f2 with
                  | zero => intro u o q1 q2; omega
                  | succ f2 ih3 =>
                    intro u o ht2 hf2  hv2
                    obtain ⟨⟨X, hX, hR1, hR3⟩, ho, hle⟩ := hv2
                    have ht3 := ht2
                    refine g_iload G dX9_parse_269 rfl ?_
                    refine g_iload G dX9_parse_271 rfl ?_
                    refine g_iconst (v := nI 4) G dX9_parse_273 (by decide) ?_
                    refine g_iadd G dX9_parse_274 (nI_add t 4) ?_
                    refine g_icmp_ge (tgt := 318) G dX9_parse_275 (by decide) (fun c_275 => ?_) (fun c_275 => ?_)
                    · have hu : u = 3 := by have := (nI_leI (by omega) (by omega)).mp c_275; omega
                      obtain ⟨x2, x3, x4, x5, x0, x1, xr⟩ := hX
                      have xa : ∀ f j, mA X f j = mA D f j := fun f j => congrFun (congrFun (congrArg Prod.fst xr) f) j
                      refine g_iload G dX9_parse_318 rfl ?_
                      refine g_iload G dX9_parse_320 rfl ?_
                      refine g_iconst (v := nI 1) G dX9_parse_322 (by decide) ?_
                      refine g_iadd G dX9_parse_323 (nI_1 _) ?_
                      refine g_icmp_ne (tgt := 330) G dX9_parse_324 (by decide) (fun c_324 => ?_) (fun c_324 => (absurd ((nI_eq (by omega) (by omega)).mp c_324) (by omega)))
                      have hu0 : 0 < u := by
                        have z : ¬ u = 0 := fun z => c_324 (by rw [z])
                        omega
                      have hC : gCo o ≤ 5 ∧ u = 1 ∨ gCo o ≤ 6 ∧ u = 2 ∨ gCo o ≤ 7 ∧ u = 3 := by
                        unfold gCo
                        rcases (show u = 1 ∨ u = 2 ∨ u = 3 by omega) with z | z | z <;> subst z
                        · exact Or.inl ⟨by rw [if_pos (show o < 10 by omega)]; omega, rfl⟩
                        · exact Or.inr (Or.inl ⟨by split <;> first | omega | (rw [if_pos (show o < 100 by omega)]; omega), rfl⟩)
                        · exact Or.inr (Or.inr ⟨by split <;> first | omega | (split <;> omega), rfl⟩)
                      have hoo : o < 1000 := Nat.lt_of_lt_of_le ho (Nat.pow_le_pow_right (n := 10) (by decide) ht3)
                      have hg : gSet (mA M 1) (gOwn M c) (mN M 2) (t + 1 + u) (dEnd X) := gSet_of (hR3 (by omega)) (dEnd_2 X) (by rw [dEnd_p (j := 1) (by omega) (by omega)]; omega)
                      have hA9 : ∀ {Sz : gS}, gFr gQk St Sz → gAr Sz q_2 (dEnd X) := fun FF => ⟨(gAr_fr hA FF).1, (gAr_fr hA FF).2.1, fun j hj => ((gAr_fr hA FF).2.2 j (by rw [dEnd_p (j := 1) (by omega) (by omega), x1] at hj; exact hj)).trans (dEnd_3.trans (xa 3 j)).symm⟩
                      by_cases hown : dOwn X = true
                      · have eE : dEnd X = dExT (dEx1 X) o := (if_pos hown).trans (by rw [dEx_T, x4])
                        have hz := Bool.and_eq_true_iff.mp hown
                        have ho20 : o < 20 := by have := of_decide_eq_true hz.1; omega
                        have hbit := hz.2
                        rw [x4, show mA X 4 2 = gOwn M c from (xa 4 2).trans hw.1, gOwn_bit i17 ho20] at hbit
                        obtain ⟨hon, hoc⟩ := of_decide_eq_true hbit
                        first | refine g_aload_n G dX9_parse_330 rfl ?_ | refine g_aload_nN G dX9_parse_330 rfl ?_ | refine g_aload_nQ G dX9_parse_330 rfl ?_
                        refine g_iload G dX9_parse_331 rfl ?_
                        first | refine g_aload_n G dX9_parse_333 rfl ?_ | refine g_aload_nN G dX9_parse_333 rfl ?_ | refine g_aload_nQ G dX9_parse_333 rfl ?_
                        refine g_iload_n G dX9_parse_334 rfl ?_
                        refine g_iald G (hA.1) (by first | decide | omega) (by rw [hA.2.1]; omega) (by omega) (hA.2.2 _ (Nat.le_refl _)) dX9_parse_335 ?_
                        refine g_callV (ci := 10) G (c_X9_writeExhibit_a _ St y b M D W hP o ho20 (by omega)) mt_X9_writeExhibit mi_X9_writeExhibit ml_X9_143 (r.kd) (by first | decide | omega) rfl (by decide) (by omega) (by omega) rfl (Nat.le_of_ble_eq_true rfl) dX9_parse_336 (fun v_336 S_336 hp_336 => ?_)
                        obtain ⟨rfl, p2, g2⟩ := hp_336
                        simp only [Option.toList, List.nil_append]
                        obtain ⟨r2, q2, -⟩ := id g2.1
                        refine g_iload G dX9_parse_339 rfl ?_
                        first | refine g_aload_n G dX9_parse_341 rfl ?_ | refine g_aload_nN G dX9_parse_341 rfl ?_ | refine g_aload_nQ G dX9_parse_341 rfl ?_
                        refine g_getI G fl_X9_107 (r2.kd) (by first | decide | omega) rfl (r2.n 17 rfl) dX9_parse_342 ?_
                        refine g_icmp_ge (tgt := 359) G dX9_parse_345 (by decide) (fun c_345 => (absurd ((nI_leI (by omega) (by omega)).mp c_345) (by omega))) (fun c_345 => ?_)
                        first | refine g_aload_n G dX9_parse_348 rfl ?_ | refine g_aload_nN G dX9_parse_348 rfl ?_ | refine g_aload_nQ G dX9_parse_348 rfl ?_
                        refine g_getR G fl_X9_46 (r2.kd) (by first | decide | omega) rfl (r2.Y 18 rfl) dX9_parse_349 ?_
                        refine g_iload G dX9_parse_352 rfl ?_
                        refine g_iald G (r2.A 18 rfl) (by first | decide | omega) (r2.lt 18 19 rfl (by omega)) (by omega) (r2.X 18 19 rfl rfl (by omega)) dX9_parse_354 ?_
                        refine g_iload_n G dX9_parse_355 rfl ?_
                        refine g_icmp_eq (tgt := 383) G dX9_parse_356 (by decide) (fun c_356 => ?_) (fun c_356 => (absurd hoc c_356))
                        first | refine g_aload_n G dX9_parse_383 rfl ?_ | refine g_aload_nN G dX9_parse_383 rfl ?_ | refine g_aload_nQ G dX9_parse_383 rfl ?_
                        refine g_dup G dX9_parse_384 rfl ?_
                        refine g_getI G fl_X9_123 (r2.kd) (by first | decide | omega) rfl ((show gX S_336 11 34 y = mA D 4 0 from p2.2.2.2.1.trans (dExT_3 (by omega)))) dX9_parse_385 ?_
                        refine g_iconst (v := nI 1) G dX9_parse_388 (by decide) ?_
                        refine g_iload G dX9_parse_389 rfl ?_
                        refine g_ishl G dX9_parse_391 (rfl) ?_
                        refine g_ior G dX9_parse_392 (rfl) ?_
                        refine g_putI G fl_X9_123 pu_10_34 (r2.kd) (by first | decide | omega) rfl dX9_parse_393 ?_
                        refine g_goto (tgt := 441) G dX9_parse_396 (by decide) ?_
                        refine g_goto (tgt := 25) G dX9_parse_441 (by decide) ?_
                        have hq := dEq_T (o := o) (show dEq (dEx1 X) D from ⟨x0, x1, fun f j hf => (uA_f (by omega)).trans (xa f j)⟩)
                        have e40 : mA (dEnd X) 4 0 = mA D 4 0 ||| (nI 1 <<< (nI o &&& 31)) := by
                          rw [eE, dExT_3 (by omega)]
                          show mA (uA (uN X 2 0) 4 0 (mA X 4 0 ||| (nI 1 <<< (nI (mN X 4) &&& 31)))) 4 0 = _
                          rw [uA_s, xa, x4]
                        have e41 : mA (dEnd X) 4 1 = mA D 4 1 := by
                          rw [eE, dExT_3 (by omega)]
                          exact (uA_i (by omega)).trans (xa 4 1)
                        have p3 : gPs (sX S_336 11 34 y (mA D 4 0 ||| (nI 1 <<< (nI o &&& 31)))) y b M (dEnd X) (W + gCo o) := by
                          obtain ⟨u1, u2, u3, u4, u5⟩ := p2
                          rw [dExT_3 (by omega)] at u3 u5
                          refine ⟨gRef_32 u1 (by decide), sX_p (by decide) u2, by rw [e41]; exact sX_p (by decide) u3, by rw [e40]; exact sX_s, fun hf => ?_⟩
                          rw [e41] at hf
                          obtain ⟨v1, v2⟩ := u5 hf
                          rw [eE]
                          refine ⟨v1.trans hq.1.symm, fun j hj => ?_⟩
                          rw [hq.2.2 0 j (by omega), hq.2.2 1 j (by omega), hq.2.2 2 j (by omega)]
                          exact ⟨sX_k (by decide) (v2 j hj).1, sX_k (by decide) (v2 j hj).2.1, sX_k (by decide) (v2 j hj).2.2⟩
                        have h9 := fun w5 w6 w7 => ih2 (t + 1 + u) _ (dEnd X) (W + gCo o) (by omega) (by omega) w5 w6 w7 ⟨hg, p3, hA9 (g2.2.2.2.X1 _ _ _ (fun _ z => z.1)), by omega, ⟨dEnd_o.trans ((xa 4 2).trans hw.1), by rw [e41]; exact hw.2⟩, gW9_11 (gW9_w hO g2) (by decide)⟩
                        rw [show mN (dEnd X) 1 = mN D 1 from (dEnd_p (by omega) (by omega)).trans x1] at h9
                        exact h9 _ _ _
                      · have eE : dEnd X = dFar X := if_neg hown
                        have hno : ¬ (o < mN M 17 ∧ mA M 18 o = nI c) := fun z => hown (by
                          have ho20 : o < 20 := by omega
                          unfold dOwn
                          rw [x4, show mA X 4 2 = gOwn M c from (xa 4 2).trans hw.1, gOwn_bit i17 ho20, decide_eq_true ho20, decide_eq_true z]
                          rfl)
                        first | refine g_aload_n G dX9_parse_330 rfl ?_ | refine g_aload_nN G dX9_parse_330 rfl ?_ | refine g_aload_nQ G dX9_parse_330 rfl ?_
                        refine g_iload G dX9_parse_331 rfl ?_
                        first | refine g_aload_n G dX9_parse_333 rfl ?_ | refine g_aload_nN G dX9_parse_333 rfl ?_ | refine g_aload_nQ G dX9_parse_333 rfl ?_
                        refine g_iload_n G dX9_parse_334 rfl ?_
                        refine g_iald G (hA.1) (by first | decide | omega) (by rw [hA.2.1]; omega) (by omega) (hA.2.2 _ (Nat.le_refl _)) dX9_parse_335 ?_
                        refine g_callV (ci := 10) G (c_X9_writeExhibit_b _ St y b M hP.1 W hP.2.1 o hoo _ (by omega)) mt_X9_writeExhibit mi_X9_writeExhibit ml_X9_143 (r.kd) (by first | decide | omega) rfl (by decide) (by omega) (by omega) rfl (Nat.le_of_ble_eq_true rfl) dX9_parse_336 (fun v_336 S_336 hp_336 => ?_)
                        obtain ⟨rfl, g2⟩ := hp_336
                        simp only [Option.toList, List.nil_append]
                        obtain ⟨r2, q2, -⟩ := id g2.1
                        have h33 : gX S_336 11 33 y = mA D 4 1 := (g2.2.2.1 33 (by decide)).trans hP.2.2.1
                        have h34 : gX S_336 11 34 y = mA D 4 0 := (g2.2.2.1 34 (by decide)).trans hP.2.2.2.1
                        refine g_iload G dX9_parse_339 rfl ?_
                        first | refine g_aload_n G dX9_parse_341 rfl ?_ | refine g_aload_nN G dX9_parse_341 rfl ?_ | refine g_aload_nQ G dX9_parse_341 rfl ?_
                        refine g_getI G fl_X9_107 (r2.kd) (by first | decide | omega) rfl (r2.n 17 rfl) dX9_parse_342 ?_
                        refine g_icmp_ge (tgt := 359) G dX9_parse_345 (by decide) (fun c_345 => ?_) (fun c_345 => ?_)
                        · first | refine g_aload_n G dX9_parse_359 rfl ?_ | refine g_aload_nN G dX9_parse_359 rfl ?_ | refine g_aload_nQ G dX9_parse_359 rfl ?_
                          first | refine g_aload_n G dX9_parse_360 rfl ?_ | refine g_aload_nN G dX9_parse_360 rfl ?_ | refine g_aload_nQ G dX9_parse_360 rfl ?_
                          refine g_getI G fl_X9_120 (r2.kd) (by first | decide | omega) rfl (h33) dX9_parse_361 ?_
                          refine g_iconst (v := (-1)) G dX9_parse_364 (by decide) ?_
                          refine g_icmp_ne (tgt := 373) G dX9_parse_365 (by decide) (fun c_365 => ?_) (fun c_365 => ?_)
                          · have nf : ¬ mA D 4 1 < 0 := hw.2.resolve_left c_365
                            have e41 : mA (dEnd X) 4 1 = mA D 4 1 := by rw [eE]; unfold dFar; rw [if_neg (by rw [xa]; exact nf)]; exact xa 4 1
                            have e40 : mA (dEnd X) 4 0 = mA D 4 0 := by rw [eE]; unfold dFar; rw [if_neg (by rw [xa]; exact nf)]; exact xa 4 0
                            have nf2 : ¬ mA (dEnd X) 4 1 < 0 := by rw [e41]; exact nf
                            first | refine g_aload_n G dX9_parse_373 rfl ?_ | refine g_aload_nN G dX9_parse_373 rfl ?_ | refine g_aload_nQ G dX9_parse_373 rfl ?_
                            refine g_getI G fl_X9_120 (r2.kd) (by first | decide | omega) rfl (h33) dX9_parse_374 ?_
                            refine g_putI G fl_X9_120 pu_10_33 (r2.kd) (by first | decide | omega) rfl dX9_parse_377 ?_
                            refine g_goto (tgt := 396) G dX9_parse_380 (by decide) ?_
                            refine g_goto (tgt := 441) G dX9_parse_396 (by decide) ?_
                            refine g_goto (tgt := 25) G dX9_parse_441 (by decide) ?_
                            have h9 := fun w5 w6 w7 => ih2 (t + 1 + u) _ (dEnd X) (W + gCo o) (by omega) (by omega) w5 w6 w7 ⟨hg, ⟨gRef_32 (p := 33) g2.1 (by decide), sX_p (p := 33) (by decide) g2.2.1, by rw [e41]; exact sX_s, by rw [e40]; exact sX_p (by decide) h34, fun hf => absurd hf nf2⟩, hA9 (g2.2.2.2.X1 _ _ _ (fun _ z => z.1)), by omega, ⟨dEnd_o.trans ((xa 4 2).trans hw.1), Or.inr nf2⟩, gW9_11 (p := 33) (gW9_w hO g2) (by decide)⟩
                            rw [show mN (dEnd X) 1 = mN D 1 from (dEnd_p (by omega) (by omega)).trans x1] at h9
                            exact h9 _ _ _
                          · have ff : mA D 4 1 < 0 := by rw [show mA D 4 1 = -1 from c_365]; decide
                            have e41 : mA (dEnd X) 4 1 = nI t := by rw [eE]; unfold dFar; rw [if_pos (by rw [xa]; exact ff), x5]; exact uA_s
                            have e40 : mA (dEnd X) 4 0 = mA D 4 0 := by rw [eE]; unfold dFar; rw [if_pos (by rw [xa]; exact ff)]; exact (uA_i (by omega)).trans (xa 4 0)
                            have nf2 : ¬ mA (dEnd X) 4 1 < 0 := by rw [e41]; exact nI_pos (by omega)
                            refine g_iload G dX9_parse_368 rfl ?_
                            refine g_goto (tgt := 377) G dX9_parse_370 (by decide) ?_
                            refine g_putI G fl_X9_120 pu_10_33 (r2.kd) (by first | decide | omega) rfl dX9_parse_377 ?_
                            refine g_goto (tgt := 396) G dX9_parse_380 (by decide) ?_
                            refine g_goto (tgt := 441) G dX9_parse_396 (by decide) ?_
                            refine g_goto (tgt := 25) G dX9_parse_441 (by decide) ?_
                            have h9 := fun w5 w6 w7 => ih2 (t + 1 + u) _ (dEnd X) (W + gCo o) (by omega) (by omega) w5 w6 w7 ⟨hg, ⟨gRef_32 (p := 33) g2.1 (by decide), sX_p (p := 33) (by decide) g2.2.1, by rw [e41]; exact sX_s, by rw [e40]; exact sX_p (by decide) h34, fun hf => absurd hf nf2⟩, hA9 (g2.2.2.2.X1 _ _ _ (fun _ z => z.1)), by omega, ⟨dEnd_o.trans ((xa 4 2).trans hw.1), Or.inr nf2⟩, gW9_11 (p := 33) (gW9_w hO g2) (by decide)⟩
                            rw [show mN (dEnd X) 1 = mN D 1 from (dEnd_p (by omega) (by omega)).trans x1] at h9
                            exact h9 _ _ _
                        · have hon : o < mN M 17 := by have z : ¬ mN M 17 ≤ o := fun z => c_345 ((nI_leI (by omega) (by omega)).mpr z); omega
                          first | refine g_aload_n G dX9_parse_348 rfl ?_ | refine g_aload_nN G dX9_parse_348 rfl ?_ | refine g_aload_nQ G dX9_parse_348 rfl ?_
                          refine g_getR G fl_X9_46 (r2.kd) (by first | decide | omega) rfl (r2.Y 18 rfl) dX9_parse_349 ?_
                          refine g_iload G dX9_parse_352 rfl ?_
                          refine g_iald G (r2.A 18 rfl) (by first | decide | omega) (r2.lt 18 19 rfl (by omega)) (by omega) (r2.X 18 19 rfl rfl (by omega)) dX9_parse_354 ?_
                          refine g_iload_n G dX9_parse_355 rfl ?_
                          refine g_icmp_eq (tgt := 383) G dX9_parse_356 (by decide) (fun c_356 => (absurd ⟨hon, c_356⟩ hno)) (fun c_356 => ?_)
                          first | refine g_aload_n G dX9_parse_359 rfl ?_ | refine g_aload_nN G dX9_parse_359 rfl ?_ | refine g_aload_nQ G dX9_parse_359 rfl ?_
                          first | refine g_aload_n G dX9_parse_360 rfl ?_ | refine g_aload_nN G dX9_parse_360 rfl ?_ | refine g_aload_nQ G dX9_parse_360 rfl ?_
                          refine g_getI G fl_X9_120 (r2.kd) (by first | decide | omega) rfl (h33) dX9_parse_361 ?_
                          refine g_iconst (v := (-1)) G dX9_parse_364 (by decide) ?_
                          refine g_icmp_ne (tgt := 373) G dX9_parse_365 (by decide) (fun c_365 => ?_) (fun c_365 => ?_)
                          · have nf : ¬ mA D 4 1 < 0 := hw.2.resolve_left c_365
                            have e41 : mA (dEnd X) 4 1 = mA D 4 1 := by rw [eE]; unfold dFar; rw [if_neg (by rw [xa]; exact nf)]; exact xa 4 1
                            have e40 : mA (dEnd X) 4 0 = mA D 4 0 := by rw [eE]; unfold dFar; rw [if_neg (by rw [xa]; exact nf)]; exact xa 4 0
                            have nf2 : ¬ mA (dEnd X) 4 1 < 0 := by rw [e41]; exact nf
                            first | refine g_aload_n G dX9_parse_373 rfl ?_ | refine g_aload_nN G dX9_parse_373 rfl ?_ | refine g_aload_nQ G dX9_parse_373 rfl ?_
                            refine g_getI G fl_X9_120 (r2.kd) (by first | decide | omega) rfl (h33) dX9_parse_374 ?_
                            refine g_putI G fl_X9_120 pu_10_33 (r2.kd) (by first | decide | omega) rfl dX9_parse_377 ?_
                            refine g_goto (tgt := 396) G dX9_parse_380 (by decide) ?_
                            refine g_goto (tgt := 441) G dX9_parse_396 (by decide) ?_
                            refine g_goto (tgt := 25) G dX9_parse_441 (by decide) ?_
                            have h9 := fun w5 w6 w7 => ih2 (t + 1 + u) _ (dEnd X) (W + gCo o) (by omega) (by omega) w5 w6 w7 ⟨hg, ⟨gRef_32 (p := 33) g2.1 (by decide), sX_p (p := 33) (by decide) g2.2.1, by rw [e41]; exact sX_s, by rw [e40]; exact sX_p (by decide) h34, fun hf => absurd hf nf2⟩, hA9 (g2.2.2.2.X1 _ _ _ (fun _ z => z.1)), by omega, ⟨dEnd_o.trans ((xa 4 2).trans hw.1), Or.inr nf2⟩, gW9_11 (p := 33) (gW9_w hO g2) (by decide)⟩
                            rw [show mN (dEnd X) 1 = mN D 1 from (dEnd_p (by omega) (by omega)).trans x1] at h9
                            exact h9 _ _ _
                          · have ff : mA D 4 1 < 0 := by rw [show mA D 4 1 = -1 from c_365]; decide
                            have e41 : mA (dEnd X) 4 1 = nI t := by rw [eE]; unfold dFar; rw [if_pos (by rw [xa]; exact ff), x5]; exact uA_s
                            have e40 : mA (dEnd X) 4 0 = mA D 4 0 := by rw [eE]; unfold dFar; rw [if_pos (by rw [xa]; exact ff)]; exact (uA_i (by omega)).trans (xa 4 0)
                            have nf2 : ¬ mA (dEnd X) 4 1 < 0 := by rw [e41]; exact nI_pos (by omega)
                            refine g_iload G dX9_parse_368 rfl ?_
                            refine g_goto (tgt := 377) G dX9_parse_370 (by decide) ?_
                            refine g_putI G fl_X9_120 pu_10_33 (r2.kd) (by first | decide | omega) rfl dX9_parse_377 ?_
                            refine g_goto (tgt := 396) G dX9_parse_380 (by decide) ?_
                            refine g_goto (tgt := 441) G dX9_parse_396 (by decide) ?_
                            refine g_goto (tgt := 25) G dX9_parse_441 (by decide) ?_
                            have h9 := fun w5 w6 w7 => ih2 (t + 1 + u) _ (dEnd X) (W + gCo o) (by omega) (by omega) w5 w6 w7 ⟨hg, ⟨gRef_32 (p := 33) g2.1 (by decide), sX_p (p := 33) (by decide) g2.2.1, by rw [e41]; exact sX_s, by rw [e40]; exact sX_p (by decide) h34, fun hf => absurd hf nf2⟩, hA9 (g2.2.2.2.X1 _ _ _ (fun _ z => z.1)), by omega, ⟨dEnd_o.trans ((xa 4 2).trans hw.1), Or.inr nf2⟩, gW9_11 (p := 33) (gW9_w hO g2) (by decide)⟩
                            rw [show mN (dEnd X) 1 = mN D 1 from (dEnd_p (by omega) (by omega)).trans x1] at h9
                            exact h9 _ _ _
                    · have hlt3 : u < 3 := by have z : ¬ t + 4 ≤ t + 1 + u := fun z => c_275 ((nI_leI (by omega) (by omega)).mpr z); omega
                      first | refine g_aload_n G dX9_parse_278 rfl ?_ | refine g_aload_nN G dX9_parse_278 rfl ?_ | refine g_aload_nQ G dX9_parse_278 rfl ?_
                      refine g_iload G dX9_parse_279 rfl ?_
                      refine g_callVp (ci := 10) G (c_X9_at _ _ _ _ _ r i _ (by omega)) mt_X9_at mi_X9_at ml_X9_126 (r.kd) (by first | decide | omega) rfl (by decide) (by omega) (by omega) rfl (Nat.le_of_ble_eq_true rfl) dX9_parse_281 ?_
                      refine g_bipush (v := nI 48) G dX9_parse_284 (by decide) ?_
                      refine g_bipush (v := nI 57) G dX9_parse_286 (by decide) ?_
                      refine g_callSp G (c_X9_isIn _ _ _ _ _) mt_X9_isIn ms_X9_isIn ml_X9_97 (by decide) (by omega) (by omega) rfl (Nat.le_of_ble_eq_true rfl) dX9_parse_288 ?_
                      refine g_if_eq (tgt := 318) G dX9_parse_291 (by decide) (fun c_291 => ?_) (fun c_291 => ?_)
                      · have hu3 := hlt3
                        have hnd : t + 1 + u < mN M 2 → dDig (nI 48) (mA M 1 (t + 1 + u)) = false := fun hp => by
                          rw [← gAt_y hp]
                          exact gB_eq0.mp c_291
                        obtain ⟨x2, x3, x4, x5, x0, x1, xr⟩ := hX
                        have xa : ∀ f j, mA X f j = mA D f j := fun f j => congrFun (congrFun (congrArg Prod.fst xr) f) j
                        have hRX := hR1 hu3
                        refine g_iload G dX9_parse_318 rfl ?_
                        refine g_iload G dX9_parse_320 rfl ?_
                        refine g_iconst (v := nI 1) G dX9_parse_322 (by decide) ?_
                        refine g_iadd G dX9_parse_323 (nI_1 _) ?_
                        refine g_icmp_ne (tgt := 330) G dX9_parse_324 (by decide) (fun c_324 => ?_) (fun c_324 => ?_)
                        · have hu0 : 0 < u := by
                            have z : ¬ u = 0 := fun z => c_324 (by rw [z])
                            omega
                          have hC : gCo o ≤ 5 ∧ u = 1 ∨ gCo o ≤ 6 ∧ u = 2 ∨ gCo o ≤ 7 ∧ u = 3 := by
                            unfold gCo
                            rcases (show u = 1 ∨ u = 2 ∨ u = 3 by omega) with z | z | z <;> subst z
                            · exact Or.inl ⟨by rw [if_pos (show o < 10 by omega)]; omega, rfl⟩
                            · exact Or.inr (Or.inl ⟨by split <;> first | omega | (rw [if_pos (show o < 100 by omega)]; omega), rfl⟩)
                            · exact Or.inr (Or.inr ⟨by split <;> first | omega | (split <;> omega), rfl⟩)
                          have hoo : o < 1000 := Nat.lt_of_lt_of_le ho (Nat.pow_le_pow_right (n := 10) (by decide) ht3)
                          have hg : gSet (mA M 1) (gOwn M c) (mN M 2) (t + 1 + u) (dEnd X) := gSet_num hRX x2 (by omega) hnd (by omega)
                          have hA9 : ∀ {Sz : gS}, gFr gQk St Sz → gAr Sz q_2 (dEnd X) := fun FF => ⟨(gAr_fr hA FF).1, (gAr_fr hA FF).2.1, fun j hj => ((gAr_fr hA FF).2.2 j (by rw [dEnd_p (j := 1) (by omega) (by omega), x1] at hj; exact hj)).trans (dEnd_3.trans (xa 3 j)).symm⟩
                          by_cases hown : dOwn X = true
                          · have eE : dEnd X = dExT (dEx1 X) o := (if_pos hown).trans (by rw [dEx_T, x4])
                            have hz := Bool.and_eq_true_iff.mp hown
                            have ho20 : o < 20 := by have := of_decide_eq_true hz.1; omega
                            have hbit := hz.2
                            rw [x4, show mA X 4 2 = gOwn M c from (xa 4 2).trans hw.1, gOwn_bit i17 ho20] at hbit
                            obtain ⟨hon, hoc⟩ := of_decide_eq_true hbit
                            first | refine g_aload_n G dX9_parse_330 rfl ?_ | refine g_aload_nN G dX9_parse_330 rfl ?_ | refine g_aload_nQ G dX9_parse_330 rfl ?_
                            refine g_iload G dX9_parse_331 rfl ?_
                            first | refine g_aload_n G dX9_parse_333 rfl ?_ | refine g_aload_nN G dX9_parse_333 rfl ?_ | refine g_aload_nQ G dX9_parse_333 rfl ?_
                            refine g_iload_n G dX9_parse_334 rfl ?_
                            refine g_iald G (hA.1) (by first | decide | omega) (by rw [hA.2.1]; omega) (by omega) (hA.2.2 _ (Nat.le_refl _)) dX9_parse_335 ?_
                            refine g_callV (ci := 10) G (c_X9_writeExhibit_a _ St y b M D W hP o ho20 (by omega)) mt_X9_writeExhibit mi_X9_writeExhibit ml_X9_143 (r.kd) (by first | decide | omega) rfl (by decide) (by omega) (by omega) rfl (Nat.le_of_ble_eq_true rfl) dX9_parse_336 (fun v_336 S_336 hp_336 => ?_)
                            obtain ⟨rfl, p2, g2⟩ := hp_336
                            simp only [Option.toList, List.nil_append]
                            obtain ⟨r2, q2, -⟩ := id g2.1
                            refine g_iload G dX9_parse_339 rfl ?_
                            first | refine g_aload_n G dX9_parse_341 rfl ?_ | refine g_aload_nN G dX9_parse_341 rfl ?_ | refine g_aload_nQ G dX9_parse_341 rfl ?_
                            refine g_getI G fl_X9_107 (r2.kd) (by first | decide | omega) rfl (r2.n 17 rfl) dX9_parse_342 ?_
                            refine g_icmp_ge (tgt := 359) G dX9_parse_345 (by decide) (fun c_345 => (absurd ((nI_leI (by omega) (by omega)).mp c_345) (by omega))) (fun c_345 => ?_)
                            first | refine g_aload_n G dX9_parse_348 rfl ?_ | refine g_aload_nN G dX9_parse_348 rfl ?_ | refine g_aload_nQ G dX9_parse_348 rfl ?_
                            refine g_getR G fl_X9_46 (r2.kd) (by first | decide | omega) rfl (r2.Y 18 rfl) dX9_parse_349 ?_
                            refine g_iload G dX9_parse_352 rfl ?_
                            refine g_iald G (r2.A 18 rfl) (by first | decide | omega) (r2.lt 18 19 rfl (by omega)) (by omega) (r2.X 18 19 rfl rfl (by omega)) dX9_parse_354 ?_
                            refine g_iload_n G dX9_parse_355 rfl ?_
                            refine g_icmp_eq (tgt := 383) G dX9_parse_356 (by decide) (fun c_356 => ?_) (fun c_356 => (absurd hoc c_356))
                            first | refine g_aload_n G dX9_parse_383 rfl ?_ | refine g_aload_nN G dX9_parse_383 rfl ?_ | refine g_aload_nQ G dX9_parse_383 rfl ?_
                            refine g_dup G dX9_parse_384 rfl ?_
                            refine g_getI G fl_X9_123 (r2.kd) (by first | decide | omega) rfl ((show gX S_336 11 34 y = mA D 4 0 from p2.2.2.2.1.trans (dExT_3 (by omega)))) dX9_parse_385 ?_
                            refine g_iconst (v := nI 1) G dX9_parse_388 (by decide) ?_
                            refine g_iload G dX9_parse_389 rfl ?_
                            refine g_ishl G dX9_parse_391 (rfl) ?_
                            refine g_ior G dX9_parse_392 (rfl) ?_
                            refine g_putI G fl_X9_123 pu_10_34 (r2.kd) (by first | decide | omega) rfl dX9_parse_393 ?_
                            refine g_goto (tgt := 441) G dX9_parse_396 (by decide) ?_
                            refine g_goto (tgt := 25) G dX9_parse_441 (by decide) ?_
                            have hq := dEq_T (o := o) (show dEq (dEx1 X) D from ⟨x0, x1, fun f j hf => (uA_f (by omega)).trans (xa f j)⟩)
                            have e40 : mA (dEnd X) 4 0 = mA D 4 0 ||| (nI 1 <<< (nI o &&& 31)) := by
                              rw [eE, dExT_3 (by omega)]
                              show mA (uA (uN X 2 0) 4 0 (mA X 4 0 ||| (nI 1 <<< (nI (mN X 4) &&& 31)))) 4 0 = _
                              rw [uA_s, xa, x4]
                            have e41 : mA (dEnd X) 4 1 = mA D 4 1 := by
                              rw [eE, dExT_3 (by omega)]
                              exact (uA_i (by omega)).trans (xa 4 1)
                            have p3 : gPs (sX S_336 11 34 y (mA D 4 0 ||| (nI 1 <<< (nI o &&& 31)))) y b M (dEnd X) (W + gCo o) := by
                              obtain ⟨u1, u2, u3, u4, u5⟩ := p2
                              rw [dExT_3 (by omega)] at u3 u5
                              refine ⟨gRef_32 u1 (by decide), sX_p (by decide) u2, by rw [e41]; exact sX_p (by decide) u3, by rw [e40]; exact sX_s, fun hf => ?_⟩
                              rw [e41] at hf
                              obtain ⟨v1, v2⟩ := u5 hf
                              rw [eE]
                              refine ⟨v1.trans hq.1.symm, fun j hj => ?_⟩
                              rw [hq.2.2 0 j (by omega), hq.2.2 1 j (by omega), hq.2.2 2 j (by omega)]
                              exact ⟨sX_k (by decide) (v2 j hj).1, sX_k (by decide) (v2 j hj).2.1, sX_k (by decide) (v2 j hj).2.2⟩
                            have h9 := fun w5 w6 w7 => ih2 (t + 1 + u) _ (dEnd X) (W + gCo o) (by omega) (by omega) w5 w6 w7 ⟨hg, p3, hA9 (g2.2.2.2.X1 _ _ _ (fun _ z => z.1)), by omega, ⟨dEnd_o.trans ((xa 4 2).trans hw.1), by rw [e41]; exact hw.2⟩, gW9_11 (gW9_w hO g2) (by decide)⟩
                            rw [show mN (dEnd X) 1 = mN D 1 from (dEnd_p (by omega) (by omega)).trans x1] at h9
                            exact h9 _ _ _
                          · have eE : dEnd X = dFar X := if_neg hown
                            have hno : ¬ (o < mN M 17 ∧ mA M 18 o = nI c) := fun z => hown (by
                              have ho20 : o < 20 := by omega
                              unfold dOwn
                              rw [x4, show mA X 4 2 = gOwn M c from (xa 4 2).trans hw.1, gOwn_bit i17 ho20, decide_eq_true ho20, decide_eq_true z]
                              rfl)
                            first | refine g_aload_n G dX9_parse_330 rfl ?_ | refine g_aload_nN G dX9_parse_330 rfl ?_ | refine g_aload_nQ G dX9_parse_330 rfl ?_
                            refine g_iload G dX9_parse_331 rfl ?_
                            first | refine g_aload_n G dX9_parse_333 rfl ?_ | refine g_aload_nN G dX9_parse_333 rfl ?_ | refine g_aload_nQ G dX9_parse_333 rfl ?_
                            refine g_iload_n G dX9_parse_334 rfl ?_
                            refine g_iald G (hA.1) (by first | decide | omega) (by rw [hA.2.1]; omega) (by omega) (hA.2.2 _ (Nat.le_refl _)) dX9_parse_335 ?_
                            refine g_callV (ci := 10) G (c_X9_writeExhibit_b _ St y b M hP.1 W hP.2.1 o hoo _ (by omega)) mt_X9_writeExhibit mi_X9_writeExhibit ml_X9_143 (r.kd) (by first | decide | omega) rfl (by decide) (by omega) (by omega) rfl (Nat.le_of_ble_eq_true rfl) dX9_parse_336 (fun v_336 S_336 hp_336 => ?_)
                            obtain ⟨rfl, g2⟩ := hp_336
                            simp only [Option.toList, List.nil_append]
                            obtain ⟨r2, q2, -⟩ := id g2.1
                            have h33 : gX S_336 11 33 y = mA D 4 1 := (g2.2.2.1 33 (by decide)).trans hP.2.2.1
                            have h34 : gX S_336 11 34 y = mA D 4 0 := (g2.2.2.1 34 (by decide)).trans hP.2.2.2.1
                            refine g_iload G dX9_parse_339 rfl ?_
                            first | refine g_aload_n G dX9_parse_341 rfl ?_ | refine g_aload_nN G dX9_parse_341 rfl ?_ | refine g_aload_nQ G dX9_parse_341 rfl ?_
                            refine g_getI G fl_X9_107 (r2.kd) (by first | decide | omega) rfl (r2.n 17 rfl) dX9_parse_342 ?_
                            refine g_icmp_ge (tgt := 359) G dX9_parse_345 (by decide) (fun c_345 => ?_) (fun c_345 => ?_)
                            · first | refine g_aload_n G dX9_parse_359 rfl ?_ | refine g_aload_nN G dX9_parse_359 rfl ?_ | refine g_aload_nQ G dX9_parse_359 rfl ?_
                              first | refine g_aload_n G dX9_parse_360 rfl ?_ | refine g_aload_nN G dX9_parse_360 rfl ?_ | refine g_aload_nQ G dX9_parse_360 rfl ?_
                              refine g_getI G fl_X9_120 (r2.kd) (by first | decide | omega) rfl (h33) dX9_parse_361 ?_
                              refine g_iconst (v := (-1)) G dX9_parse_364 (by decide) ?_
                              refine g_icmp_ne (tgt := 373) G dX9_parse_365 (by decide) (fun c_365 => ?_) (fun c_365 => ?_)
                              · have nf : ¬ mA D 4 1 < 0 := hw.2.resolve_left c_365
                                have e41 : mA (dEnd X) 4 1 = mA D 4 1 := by rw [eE]; unfold dFar; rw [if_neg (by rw [xa]; exact nf)]; exact xa 4 1
                                have e40 : mA (dEnd X) 4 0 = mA D 4 0 := by rw [eE]; unfold dFar; rw [if_neg (by rw [xa]; exact nf)]; exact xa 4 0
                                have nf2 : ¬ mA (dEnd X) 4 1 < 0 := by rw [e41]; exact nf
                                first | refine g_aload_n G dX9_parse_373 rfl ?_ | refine g_aload_nN G dX9_parse_373 rfl ?_ | refine g_aload_nQ G dX9_parse_373 rfl ?_
                                refine g_getI G fl_X9_120 (r2.kd) (by first | decide | omega) rfl (h33) dX9_parse_374 ?_
                                refine g_putI G fl_X9_120 pu_10_33 (r2.kd) (by first | decide | omega) rfl dX9_parse_377 ?_
                                refine g_goto (tgt := 396) G dX9_parse_380 (by decide) ?_
                                refine g_goto (tgt := 441) G dX9_parse_396 (by decide) ?_
                                refine g_goto (tgt := 25) G dX9_parse_441 (by decide) ?_
                                have h9 := fun w5 w6 w7 => ih2 (t + 1 + u) _ (dEnd X) (W + gCo o) (by omega) (by omega) w5 w6 w7 ⟨hg, ⟨gRef_32 (p := 33) g2.1 (by decide), sX_p (p := 33) (by decide) g2.2.1, by rw [e41]; exact sX_s, by rw [e40]; exact sX_p (by decide) h34, fun hf => absurd hf nf2⟩, hA9 (g2.2.2.2.X1 _ _ _ (fun _ z => z.1)), by omega, ⟨dEnd_o.trans ((xa 4 2).trans hw.1), Or.inr nf2⟩, gW9_11 (p := 33) (gW9_w hO g2) (by decide)⟩
                                rw [show mN (dEnd X) 1 = mN D 1 from (dEnd_p (by omega) (by omega)).trans x1] at h9
                                exact h9 _ _ _
                              · have ff : mA D 4 1 < 0 := by rw [show mA D 4 1 = -1 from c_365]; decide
                                have e41 : mA (dEnd X) 4 1 = nI t := by rw [eE]; unfold dFar; rw [if_pos (by rw [xa]; exact ff), x5]; exact uA_s
                                have e40 : mA (dEnd X) 4 0 = mA D 4 0 := by rw [eE]; unfold dFar; rw [if_pos (by rw [xa]; exact ff)]; exact (uA_i (by omega)).trans (xa 4 0)
                                have nf2 : ¬ mA (dEnd X) 4 1 < 0 := by rw [e41]; exact nI_pos (by omega)
                                refine g_iload G dX9_parse_368 rfl ?_
                                refine g_goto (tgt := 377) G dX9_parse_370 (by decide) ?_
                                refine g_putI G fl_X9_120 pu_10_33 (r2.kd) (by first | decide | omega) rfl dX9_parse_377 ?_
                                refine g_goto (tgt := 396) G dX9_parse_380 (by decide) ?_
                                refine g_goto (tgt := 441) G dX9_parse_396 (by decide) ?_
                                refine g_goto (tgt := 25) G dX9_parse_441 (by decide) ?_
                                have h9 := fun w5 w6 w7 => ih2 (t + 1 + u) _ (dEnd X) (W + gCo o) (by omega) (by omega) w5 w6 w7 ⟨hg, ⟨gRef_32 (p := 33) g2.1 (by decide), sX_p (p := 33) (by decide) g2.2.1, by rw [e41]; exact sX_s, by rw [e40]; exact sX_p (by decide) h34, fun hf => absurd hf nf2⟩, hA9 (g2.2.2.2.X1 _ _ _ (fun _ z => z.1)), by omega, ⟨dEnd_o.trans ((xa 4 2).trans hw.1), Or.inr nf2⟩, gW9_11 (p := 33) (gW9_w hO g2) (by decide)⟩
                                rw [show mN (dEnd X) 1 = mN D 1 from (dEnd_p (by omega) (by omega)).trans x1] at h9
                                exact h9 _ _ _
                            · have hon : o < mN M 17 := by have z : ¬ mN M 17 ≤ o := fun z => c_345 ((nI_leI (by omega) (by omega)).mpr z); omega
                              first | refine g_aload_n G dX9_parse_348 rfl ?_ | refine g_aload_nN G dX9_parse_348 rfl ?_ | refine g_aload_nQ G dX9_parse_348 rfl ?_
                              refine g_getR G fl_X9_46 (r2.kd) (by first | decide | omega) rfl (r2.Y 18 rfl) dX9_parse_349 ?_
                              refine g_iload G dX9_parse_352 rfl ?_
                              refine g_iald G (r2.A 18 rfl) (by first | decide | omega) (r2.lt 18 19 rfl (by omega)) (by omega) (r2.X 18 19 rfl rfl (by omega)) dX9_parse_354 ?_
                              refine g_iload_n G dX9_parse_355 rfl ?_
                              refine g_icmp_eq (tgt := 383) G dX9_parse_356 (by decide) (fun c_356 => (absurd ⟨hon, c_356⟩ hno)) (fun c_356 => ?_)
                              first | refine g_aload_n G dX9_parse_359 rfl ?_ | refine g_aload_nN G dX9_parse_359 rfl ?_ | refine g_aload_nQ G dX9_parse_359 rfl ?_
                              first | refine g_aload_n G dX9_parse_360 rfl ?_ | refine g_aload_nN G dX9_parse_360 rfl ?_ | refine g_aload_nQ G dX9_parse_360 rfl ?_
                              refine g_getI G fl_X9_120 (r2.kd) (by first | decide | omega) rfl (h33) dX9_parse_361 ?_
                              refine g_iconst (v := (-1)) G dX9_parse_364 (by decide) ?_
                              refine g_icmp_ne (tgt := 373) G dX9_parse_365 (by decide) (fun c_365 => ?_) (fun c_365 => ?_)
                              · have nf : ¬ mA D 4 1 < 0 := hw.2.resolve_left c_365
                                have e41 : mA (dEnd X) 4 1 = mA D 4 1 := by rw [eE]; unfold dFar; rw [if_neg (by rw [xa]; exact nf)]; exact xa 4 1
                                have e40 : mA (dEnd X) 4 0 = mA D 4 0 := by rw [eE]; unfold dFar; rw [if_neg (by rw [xa]; exact nf)]; exact xa 4 0
                                have nf2 : ¬ mA (dEnd X) 4 1 < 0 := by rw [e41]; exact nf
                                first | refine g_aload_n G dX9_parse_373 rfl ?_ | refine g_aload_nN G dX9_parse_373 rfl ?_ | refine g_aload_nQ G dX9_parse_373 rfl ?_
                                refine g_getI G fl_X9_120 (r2.kd) (by first | decide | omega) rfl (h33) dX9_parse_374 ?_
                                refine g_putI G fl_X9_120 pu_10_33 (r2.kd) (by first | decide | omega) rfl dX9_parse_377 ?_
                                refine g_goto (tgt := 396) G dX9_parse_380 (by decide) ?_
                                refine g_goto (tgt := 441) G dX9_parse_396 (by decide) ?_
                                refine g_goto (tgt := 25) G dX9_parse_441 (by decide) ?_
                                have h9 := fun w5 w6 w7 => ih2 (t + 1 + u) _ (dEnd X) (W + gCo o) (by omega) (by omega) w5 w6 w7 ⟨hg, ⟨gRef_32 (p := 33) g2.1 (by decide), sX_p (p := 33) (by decide) g2.2.1, by rw [e41]; exact sX_s, by rw [e40]; exact sX_p (by decide) h34, fun hf => absurd hf nf2⟩, hA9 (g2.2.2.2.X1 _ _ _ (fun _ z => z.1)), by omega, ⟨dEnd_o.trans ((xa 4 2).trans hw.1), Or.inr nf2⟩, gW9_11 (p := 33) (gW9_w hO g2) (by decide)⟩
                                rw [show mN (dEnd X) 1 = mN D 1 from (dEnd_p (by omega) (by omega)).trans x1] at h9
                                exact h9 _ _ _
                              · have ff : mA D 4 1 < 0 := by rw [show mA D 4 1 = -1 from c_365]; decide
                                have e41 : mA (dEnd X) 4 1 = nI t := by rw [eE]; unfold dFar; rw [if_pos (by rw [xa]; exact ff), x5]; exact uA_s
                                have e40 : mA (dEnd X) 4 0 = mA D 4 0 := by rw [eE]; unfold dFar; rw [if_pos (by rw [xa]; exact ff)]; exact (uA_i (by omega)).trans (xa 4 0)
                                have nf2 : ¬ mA (dEnd X) 4 1 < 0 := by rw [e41]; exact nI_pos (by omega)
                                refine g_iload G dX9_parse_368 rfl ?_
                                refine g_goto (tgt := 377) G dX9_parse_370 (by decide) ?_
                                refine g_putI G fl_X9_120 pu_10_33 (r2.kd) (by first | decide | omega) rfl dX9_parse_377 ?_
                                refine g_goto (tgt := 396) G dX9_parse_380 (by decide) ?_
                                refine g_goto (tgt := 441) G dX9_parse_396 (by decide) ?_
                                refine g_goto (tgt := 25) G dX9_parse_441 (by decide) ?_
                                have h9 := fun w5 w6 w7 => ih2 (t + 1 + u) _ (dEnd X) (W + gCo o) (by omega) (by omega) w5 w6 w7 ⟨hg, ⟨gRef_32 (p := 33) g2.1 (by decide), sX_p (p := 33) (by decide) g2.2.1, by rw [e41]; exact sX_s, by rw [e40]; exact sX_p (by decide) h34, fun hf => absurd hf nf2⟩, hA9 (g2.2.2.2.X1 _ _ _ (fun _ z => z.1)), by omega, ⟨dEnd_o.trans ((xa 4 2).trans hw.1), Or.inr nf2⟩, gW9_11 (p := 33) (gW9_w hO g2) (by decide)⟩
                                rw [show mN (dEnd X) 1 = mN D 1 from (dEnd_p (by omega) (by omega)).trans x1] at h9
                                exact h9 _ _ _
                        · have hu : u = 0 := by have := (nI_eq (by omega) (by omega)).mp c_324; omega
                          subst hu
                          refine g_iload G dX9_parse_327 rfl ?_
                          exact g_iret G F (⟨hP.1, hO, Or.inl ⟨_, rfl, by omega, gBad_of hRX (by omega) (fun hp => by
                              rw [show dOk X (mA M 1 (t + 1 + 0)) = dUok X (mA M 1 (t + 1 + 0)) from (if_neg (by omega)).trans ((if_neg (by omega)).trans ((if_neg (by omega)).trans (if_pos x2)))]
                              rw [show dUok X (mA M 1 (t + 1 + 0)) = (decide (0 < mN X 3) && dBok X (mA M 1 (t + 1 + 0))) from if_neg (by rw [hnd hp]; decide), x3]
                              rfl) (fun _ => decide_eq_false (fun w => by omega))⟩⟩) (by omega) (by omega) dX9_parse_329
                      · have hd1 := of_decide_eq_true (gB_ne0.mp c_291)
                        have hb : t + 1 + u < mN M 2 := gAt_lt (fun z => by rw [z] at hd1; exact absurd hd1.1 (by decide))
                        have hdg : dDig (nI 48) (mA M 1 (t + 1 + u)) = true := by
                          rw [← gAt_y hb]
                          exact gB_ne0.mp c_291
                        rw [gAt_y hb] at hd1
                        obtain ⟨j, hj, ej⟩ := gWt_of (k := 57) ⟨Int32.le_trans (by decide) hd1.1, hd1.2⟩ (by omega)
                        have hj2 : 48 ≤ j := (nI_leI (a := 48) (by omega) (by omega)).mp (by rw [← ej]; exact hd1.1)
                        obtain ⟨x2, x3, x4, x5, x0, x1, xr⟩ := hX
                        have hRX := hR1 hlt3
                        have ec : (mA M 1 (t + 1 + u)).toNatClampNeg = j := by rw [ej, nI_clamp (by omega)]
                        have hs := dRes_s hRX
                        rw [show dOk X (mA M 1 (t + 1 + u)) = dUok X (mA M 1 (t + 1 + u)) from (if_neg (by omega)).trans ((if_neg (by omega)).trans ((if_neg (by omega)).trans (if_pos x2))), show dUok X (mA M 1 (t + 1 + u)) = true from if_pos hdg, if_pos rfl, show dNx X (mA M 1 (t + 1 + u)) (t + 1 + u) = dNum X (mA M 1 (t + 1 + u)) (t + 1 + u) from (if_neg (by omega)).trans ((if_neg (by omega)).trans ((if_neg (by omega)).trans (if_pos x2))), show dNum X (mA M 1 (t + 1 + u)) (t + 1 + u) = (if mN X 3 + 1 < 3 then dDgt X (mA M 1 (t + 1 + u)) else dEnd (dDgt X (mA M 1 (t + 1 + u)))) from if_pos hdg, x3] at hs
                        have hpw : 10 * o + j - 48 < 10 ^ (u + 1) := by rw [Nat.pow_succ]; omega
                        have hoo : o < 1000 := Nat.lt_of_lt_of_le ho (Nat.pow_le_pow_right (n := 10) (by decide) ht3)
                        refine g_bipush (v := nI 10) G dX9_parse_294 (by decide) ?_
                        refine g_iload G dX9_parse_296 rfl ?_
                        refine g_imul G dX9_parse_298 (pk_mul 10 o) ?_
                        first | refine g_aload_n G dX9_parse_299 rfl ?_ | refine g_aload_nN G dX9_parse_299 rfl ?_ | refine g_aload_nQ G dX9_parse_299 rfl ?_
                        refine g_getR G fl_X9_9 (r.kd) (by first | decide | omega) rfl (r.Y 1 rfl) dX9_parse_300 ?_
                        refine g_iload G dX9_parse_303 rfl ?_
                        refine g_iald G (r.A 1 rfl) (by first | decide | omega) (r.lt 1 999 rfl (by omega)) (by omega) ((r.t (by omega)).trans ej) dX9_parse_305 ?_
                        refine g_iadd G dX9_parse_306 (nI_add _ _) ?_
                        refine g_bipush (v := nI 48) G dX9_parse_307 (by decide) ?_
                        refine g_isub G dX9_parse_309 (pk_sub (by omega)) ?_
                        refine g_istore G dX9_parse_310 (gSt_7 (by first | rfl | exact g_c1_rf)) ?_
                        refine g_iinc (v := _) G dX9_parse_312 rfl (by first | exact nI_1 _ | rfl) (gSt_4 (by first | rfl | exact g_c1_rf)) ?_
                        refine g_goto (tgt := 269) G dX9_parse_315 (by decide) ?_
                        exact ih3 (u + 1) (10 * o + j - 48) (by omega) (by omega) ⟨⟨dDgt X (mA M 1 (t + 1 + u)), ⟨x2, by show mN X 3 + 1 = u + 1; rw [x3], by show mN X 4 * 10 + (mA M 1 (t + 1 + u)).toNatClampNeg - 48 = _; rw [ec, x4]; omega, x5, x0, x1, xr⟩, fun z => by rw [if_pos z] at hs; exact hs, fun z => by rw [if_neg (by omega)] at hs; exact hs⟩, hpw, by omega⟩
                rw [eb]
                refine g_iload G dX9_parse_259 rfl ?_
                refine g_istore G dX9_parse_261 (gSt_6 (by first | rfl | exact g_c1_rf)) ?_
                refine g_iconst (v := nI 0) G dX9_parse_263 (by decide) ?_
                refine g_istore G dX9_parse_264 (gSt_7 (by first | rfl | exact g_c1_rf)) ?_
                refine g_iinc (v := _) G dX9_parse_266 rfl (by first | exact nI_1 _ | rfl) (gSt_4 (by first | rfl | exact g_c1_rf)) ?_
                exact loop269 (3 + 1) 0 0 (by omega) (by omega) ⟨⟨(uN (uN (uN (uN D 2 4) 3 0) 4 0) 5 t), ⟨rfl, rfl, rfl, rfl, rfl, rfl, rfl⟩, fun _ => hs1, fun z => absurd z (by decide)⟩, by decide, by omega⟩
            · have eb : mA M 1 t = nI 123 := c_158
              have h5 := hS.1
              have hs1 : dRes (mA M 1) (gOwn M c) (t + 1) = .inr (uN (uN D 2 3) 3 0) := by
                have z := gSet_step hS hlt2
                rw [eb] at z
                exact z
              have hlt2a := hlt2
              have hSa := hS
              have loop171 : ∀ f2 u : Nat, ∀ St : gS, ∀ (Du : gM) (Wu : Nat), u ≤ 12 → 12 + 1 ≤ u + f2 → (dRes (mA M 1) (gOwn M c) (t + 1 + u) = .inr Du ∧ mN Du 2 = 3 ∧ mN Du 3 = u ∧ mN Du 1 = mN D 1 ∧ gPs St y b M Du Wu ∧ gAr St q_2 Du ∧ 2 * Wu ≤ 5 * t + 2 * u ∧ t + 1 + u ≤ mN M 2 ∧ (mA Du 4 2 = gOwn M c ∧ (mA Du 4 1 = -1 ∨ ¬ mA Du 4 1 < 0)) ∧ gW9 S St y) → gW Γ 171 [some (.ref y), some (.int (nI c)), some (.ref q_2), some (.int (nI (mN D 1))), some (.int (nI (t + 1 + u))), some (.int (nI 123)), some (.int (nI (t + 1))), w7] [] St 1 6 := by
                intro f2
                induction f2 with
                | zero => intro u St Du Wu q1 q2; omega
                | succ f2 ih3 =>
                  intro u St Du Wu ht2 hf2  hv2
                  obtain ⟨hR, h3, hru, hd1, hP2, hA2, hWu, hle, hw2, hO2⟩ := hv2
                  obtain ⟨r, q, -⟩ := id hP2.1
                  refine g_iload G dX9_parse_171 rfl ?_
                  refine g_iload G dX9_parse_173 rfl ?_
                  refine g_bipush (v := nI 12) G dX9_parse_175 (by decide) ?_
                  refine g_iadd G dX9_parse_177 (nI_add (t + 1) 12) ?_
                  refine g_icmp_ge (tgt := 225) G dX9_parse_178 (by decide) (fun c_178 => ?_) (fun c_178 => ?_)
                  · have hx : u = 12 ∨ dLet (gAt M (t + 1 + u)) = false := Or.inl (by have := (nI_leI (by omega) (by omega)).mp c_178; omega)
                    refine g_iload G dX9_parse_225 rfl ?_
                    refine g_iload G dX9_parse_227 rfl ?_
                    refine g_icmp_eq (tgt := 243) G dX9_parse_229 (by decide) (fun c_229 => ?_) (fun c_229 => ?_)
                    · have hy : u = 0 ∨ ¬ gAt M (t + 1 + u) = nI 125 := Or.inl (by have := (nI_eq (by omega) (by omega)).mp c_229; omega)
                      refine g_iload G dX9_parse_243 rfl ?_
                      exact g_iret G F (⟨hP2.1, hO2, Or.inl ⟨_, rfl, by omega, gBad_of hR hle (fun hp => by
                          rw [show dOk Du (mA M 1 (t + 1 + u)) = dNok Du (mA M 1 (t + 1 + u)) from (if_neg (by omega)).trans ((if_neg (by omega)).trans (if_pos h3)), ← gAt_y hp]
                          exact gNok_no hru hx hy) (fun _ => decide_eq_false (fun w => by omega))⟩⟩) (by omega) (by omega) dX9_parse_245
                    · have hu0 : ¬ u = 0 := fun z => c_229 (by rw [z])
                      first | refine g_aload_n G dX9_parse_232 rfl ?_ | refine g_aload_nN G dX9_parse_232 rfl ?_ | refine g_aload_nQ G dX9_parse_232 rfl ?_
                      refine g_iload G dX9_parse_233 rfl ?_
                      refine g_callVp (ci := 10) G (c_X9_at _ _ _ _ _ r i _ (by omega)) mt_X9_at mi_X9_at ml_X9_126 (r.kd) (by first | decide | omega) rfl (by decide) (by omega) (by omega) rfl (Nat.le_of_ble_eq_true rfl) dX9_parse_235 ?_
                      refine g_bipush (v := nI 125) G dX9_parse_238 (by decide) ?_
                      refine g_icmp_eq (tgt := 246) G dX9_parse_240 (by decide) (fun c_240 => ?_) (fun c_240 => ?_)
                      · have hb : t + 1 + u < mN M 2 := gAt_lt (fun z => by rw [z] at c_240; exact absurd c_240 (by decide))
                        have hs : dRes (mA M 1) (gOwn M c) (t + 1 + u + 1) = .inr (uN Du 2 0) := by
                          have z := dRes_s hR
                          have w1 : ¬ mN Du 2 = 1 := by omega
                          have w2 : ¬ mN Du 2 = 2 := by omega
                          have e125 : mA M 1 (t + 1 + u) = nI 125 := by rw [← gAt_y hb]; exact c_240
                          rw [e125] at z
                          rw [show dOk Du (nI 125) = dNok Du (nI 125) from (if_neg w1).trans ((if_neg w2).trans (if_pos h3)), show dNok Du (nI 125) = true from decide_eq_true (show 0 < mN Du 3 by omega), if_pos rfl] at z
                          rw [z]
                          exact congrArg Sum.inr ((if_neg w1).trans ((if_neg w2).trans (if_pos h3)))
                        refine g_iinc (v := _) G dX9_parse_246 rfl (by first | exact nI_1 _ | rfl) (gSt_4 (by first | rfl | exact g_c1_rf)) ?_
                        refine g_goto (tgt := 441) G dX9_parse_249 (by decide) ?_
                        refine g_goto (tgt := 25) G dX9_parse_441 (by decide) ?_
                        have h9 := fun w5 w6 w7 => ih2 (t + 1 + u + 1) _ (uN Du 2 0) Wu (by omega) (by omega) w5 w6 w7 ⟨gSet_of hs rfl (show mN Du 1 ≤ 5 by omega), gPs_cong hP2 ⟨rfl, rfl⟩ rfl (fun _ _ _ => rfl), hA2, by omega, hw2, hO2⟩
                        rw [show mN (uN Du 2 0) 1 = mN D 1 from hd1] at h9
                        exact h9 _ _ _
                      · have hy : u = 0 ∨ ¬ gAt M (t + 1 + u) = nI 125 := Or.inr c_240
                        refine g_iload G dX9_parse_243 rfl ?_
                        exact g_iret G F (⟨hP2.1, hO2, Or.inl ⟨_, rfl, by omega, gBad_of hR hle (fun hp => by
                            rw [show dOk Du (mA M 1 (t + 1 + u)) = dNok Du (mA M 1 (t + 1 + u)) from (if_neg (by omega)).trans ((if_neg (by omega)).trans (if_pos h3)), ← gAt_y hp]
                            exact gNok_no hru hx hy) (fun _ => decide_eq_false (fun w => by omega))⟩⟩) (by omega) (by omega) dX9_parse_245
                  · have hlt3 : u < 12 := by have z : ¬ t + 1 + 12 ≤ t + 1 + u := fun z => c_178 ((nI_leI (by omega) (by omega)).mpr z); omega
                    first | refine g_aload_n G dX9_parse_181 rfl ?_ | refine g_aload_nN G dX9_parse_181 rfl ?_ | refine g_aload_nQ G dX9_parse_181 rfl ?_
                    refine g_iload G dX9_parse_182 rfl ?_
                    refine g_callVp (ci := 10) G (c_X9_at _ _ _ _ _ r i _ (by omega)) mt_X9_at mi_X9_at ml_X9_126 (r.kd) (by first | decide | omega) rfl (by decide) (by omega) (by omega) rfl (Nat.le_of_ble_eq_true rfl) dX9_parse_184 ?_
                    refine g_callSp G (c_X9_isLetter _ _ _) mt_X9_isLetter ms_X9_isLetter ml_X9_135 (by decide) (by omega) (by omega) rfl (Nat.le_of_ble_eq_true rfl) dX9_parse_187 ?_
                    refine g_if_eq (tgt := 225) G dX9_parse_190 (by decide) (fun c_190 => ?_) (fun c_190 => ?_)
                    · have hx : u = 12 ∨ dLet (gAt M (t + 1 + u)) = false := Or.inr (gB_eq0.mp c_190)
                      refine g_iload G dX9_parse_225 rfl ?_
                      refine g_iload G dX9_parse_227 rfl ?_
                      refine g_icmp_eq (tgt := 243) G dX9_parse_229 (by decide) (fun c_229 => ?_) (fun c_229 => ?_)
                      · have hy : u = 0 ∨ ¬ gAt M (t + 1 + u) = nI 125 := Or.inl (by have := (nI_eq (by omega) (by omega)).mp c_229; omega)
                        refine g_iload G dX9_parse_243 rfl ?_
                        exact g_iret G F (⟨hP2.1, hO2, Or.inl ⟨_, rfl, by omega, gBad_of hR hle (fun hp => by
                            rw [show dOk Du (mA M 1 (t + 1 + u)) = dNok Du (mA M 1 (t + 1 + u)) from (if_neg (by omega)).trans ((if_neg (by omega)).trans (if_pos h3)), ← gAt_y hp]
                            exact gNok_no hru hx hy) (fun _ => decide_eq_false (fun w => by omega))⟩⟩) (by omega) (by omega) dX9_parse_245
                      · have hu0 : ¬ u = 0 := fun z => c_229 (by rw [z])
                        first | refine g_aload_n G dX9_parse_232 rfl ?_ | refine g_aload_nN G dX9_parse_232 rfl ?_ | refine g_aload_nQ G dX9_parse_232 rfl ?_
                        refine g_iload G dX9_parse_233 rfl ?_
                        refine g_callVp (ci := 10) G (c_X9_at _ _ _ _ _ r i _ (by omega)) mt_X9_at mi_X9_at ml_X9_126 (r.kd) (by first | decide | omega) rfl (by decide) (by omega) (by omega) rfl (Nat.le_of_ble_eq_true rfl) dX9_parse_235 ?_
                        refine g_bipush (v := nI 125) G dX9_parse_238 (by decide) ?_
                        refine g_icmp_eq (tgt := 246) G dX9_parse_240 (by decide) (fun c_240 => ?_) (fun c_240 => ?_)
                        · have hb : t + 1 + u < mN M 2 := gAt_lt (fun z => by rw [z] at c_240; exact absurd c_240 (by decide))
                          have hs : dRes (mA M 1) (gOwn M c) (t + 1 + u + 1) = .inr (uN Du 2 0) := by
                            have z := dRes_s hR
                            have w1 : ¬ mN Du 2 = 1 := by omega
                            have w2 : ¬ mN Du 2 = 2 := by omega
                            have e125 : mA M 1 (t + 1 + u) = nI 125 := by rw [← gAt_y hb]; exact c_240
                            rw [e125] at z
                            rw [show dOk Du (nI 125) = dNok Du (nI 125) from (if_neg w1).trans ((if_neg w2).trans (if_pos h3)), show dNok Du (nI 125) = true from decide_eq_true (show 0 < mN Du 3 by omega), if_pos rfl] at z
                            rw [z]
                            exact congrArg Sum.inr ((if_neg w1).trans ((if_neg w2).trans (if_pos h3)))
                          refine g_iinc (v := _) G dX9_parse_246 rfl (by first | exact nI_1 _ | rfl) (gSt_4 (by first | rfl | exact g_c1_rf)) ?_
                          refine g_goto (tgt := 441) G dX9_parse_249 (by decide) ?_
                          refine g_goto (tgt := 25) G dX9_parse_441 (by decide) ?_
                          have h9 := fun w5 w6 w7 => ih2 (t + 1 + u + 1) _ (uN Du 2 0) Wu (by omega) (by omega) w5 w6 w7 ⟨gSet_of hs rfl (show mN Du 1 ≤ 5 by omega), gPs_cong hP2 ⟨rfl, rfl⟩ rfl (fun _ _ _ => rfl), hA2, by omega, hw2, hO2⟩
                          rw [show mN (uN Du 2 0) 1 = mN D 1 from hd1] at h9
                          exact h9 _ _ _
                        · have hy : u = 0 ∨ ¬ gAt M (t + 1 + u) = nI 125 := Or.inr c_240
                          refine g_iload G dX9_parse_243 rfl ?_
                          exact g_iret G F (⟨hP2.1, hO2, Or.inl ⟨_, rfl, by omega, gBad_of hR hle (fun hp => by
                              rw [show dOk Du (mA M 1 (t + 1 + u)) = dNok Du (mA M 1 (t + 1 + u)) from (if_neg (by omega)).trans ((if_neg (by omega)).trans (if_pos h3)), ← gAt_y hp]
                              exact gNok_no hru hx hy) (fun _ => decide_eq_false (fun w => by omega))⟩⟩) (by omega) (by omega) dX9_parse_245
                    · have hl : dLet (gAt M (t + 1 + u)) = true := gB_ne0.mp c_190
                      have hb : t + 1 + u < mN M 2 := gAt_lt (fun z => by rw [z] at hl; exact absurd hl (by decide))
                      rw [gAt_y hb] at hl
                      have n125 : ¬ mA M 1 (t + 1 + u) = nI 125 := fun z => by rw [z] at hl; exact absurd hl (by decide)
                      have hs : dRes (mA M 1) (gOwn M c) (t + 1 + u + 1) = .inr (dNam Du (mA M 1 (t + 1 + u))) := by
                        have z := dRes_s hR
                        have w1 : ¬ mN Du 2 = 1 := by omega
                        have w2 : ¬ mN Du 2 = 2 := by omega
                        rw [show dOk Du (mA M 1 (t + 1 + u)) = dNok Du (mA M 1 (t + 1 + u)) from (if_neg w1).trans ((if_neg w2).trans (if_pos h3)), show dNok Du (mA M 1 (t + 1 + u)) = true from (if_neg n125).trans (by rw [decide_eq_true (show mN Du 3 < 12 by omega), hl]; rfl), if_pos rfl] at z
                        rw [z]
                        exact congrArg Sum.inr ((if_neg w1).trans ((if_neg w2).trans (if_pos h3)))
                      first | refine g_aload_n G dX9_parse_193 rfl ?_ | refine g_aload_nN G dX9_parse_193 rfl ?_ | refine g_aload_nQ G dX9_parse_193 rfl ?_
                      first | refine g_aload_n G dX9_parse_194 rfl ?_ | refine g_aload_nN G dX9_parse_194 rfl ?_ | refine g_aload_nQ G dX9_parse_194 rfl ?_
                      refine g_getR G fl_X9_9 (r.kd) (by first | decide | omega) rfl (r.Y 1 rfl) dX9_parse_195 ?_
                      refine g_iload G dX9_parse_198 rfl ?_
                      refine g_iald G (r.A 1 rfl) (by first | decide | omega) (r.lt 1 999 rfl (by omega)) (by omega) (r.t (by omega)) dX9_parse_200 ?_
                      first | refine g_aload_n G dX9_parse_201 rfl ?_ | refine g_aload_nN G dX9_parse_201 rfl ?_ | refine g_aload_nQ G dX9_parse_201 rfl ?_
                      refine g_iload_n G dX9_parse_202 rfl ?_
                      refine g_iald G (hA2.1) (by first | decide | omega) (by rw [hA2.2.1]; omega) (by omega) ((hA2.2.2 (mN D 1) (by omega))) dX9_parse_203 ?_
                      refine g_iload G dX9_parse_204 rfl ?_
                      refine g_iload G dX9_parse_206 rfl ?_
                      refine g_icmp_ne (tgt := 215) G dX9_parse_208 (by decide) (fun c_208 => ?_) (fun c_208 => ?_)
                      · have hm : (if 0 < mN Du 3 then nI 1 else nI 0) = nI 1 := if_pos (by
                          have z : ¬ u = 0 := fun z => c_208 (by rw [z])
                          omega)
                        refine g_iconst (v := nI 1) G dX9_parse_215 (by decide) ?_
                        refine g_callV (ci := 10) G (c_X9_write _ _ y b M hP2.1 Wu hP2.2.1 (by omega) _ _ _) mt_X9_write mi_X9_write ml_X9_139 (r.kd) (by first | decide | omega) rfl (by decide) (by omega) (by omega) rfl (Nat.le_of_ble_eq_true rfl) dX9_parse_216 (fun v_216 S_216 hp_216 => ?_)
                        obtain ⟨rfl, rfl⟩ := hp_216
                        simp only [Option.toList, List.nil_append]
                        have p2 := gPs_put (one := mA M 1 (t + 1 + u)) (own := mA Du 3 (mN D 1)) (mk := nI 1) hP2 (by rw [hd1])
                        have eN : dNam Du (mA M 1 (t + 1 + u)) = uN (dPut Du (mA M 1 (t + 1 + u)) (nI 1)) 3 (u + 1) := by
                          rw [show dNam Du (mA M 1 (t + 1 + u)) = uN (dPut Du (mA M 1 (t + 1 + u)) (if 0 < mN Du 3 then nI 1 else nI 0)) 3 (mN Du 3 + 1) from if_neg n125, hm, hru]
                        refine g_iinc (v := _) G dX9_parse_219 rfl (by first | exact nI_1 _ | rfl) (gSt_4 (by first | rfl | exact g_c1_rf)) ?_
                        refine g_goto (tgt := 171) G dX9_parse_222 (by decide) ?_
                        exact ih3 (u + 1) _ (uN (dPut Du (mA M 1 (t + 1 + u)) (nI 1)) 3 (u + 1)) (Wu + 1) (by omega) (by omega) ⟨by rw [← eN]; exact hs, h3, rfl, hd1, gPs_cong p2 ⟨rfl, rfl⟩ rfl (fun _ _ _ => rfl), gAr_put (v := mA M 1 (t + 1 + u)) (m := nI 1) hA2 wrS_fr, by omega, by omega, ⟨(dPut_3 (by omega)).trans hw2.1, by rw [show mA (uN (dPut Du (mA M 1 (t + 1 + u)) (nI 1)) 3 (u + 1)) 4 1 = mA Du 4 1 from dPut_3 (by omega)]; exact hw2.2⟩, gW9_wr hO2⟩
                      · have hm : (if 0 < mN Du 3 then nI 1 else nI 0) = nI 0 := if_neg (by
                          have z := (nI_eq (by omega) (by omega)).mp c_208
                          omega)
                        refine g_iconst (v := nI 0) G dX9_parse_211 (by decide) ?_
                        refine g_goto (tgt := 216) G dX9_parse_212 (by decide) ?_
                        refine g_callV (ci := 10) G (c_X9_write _ _ y b M hP2.1 Wu hP2.2.1 (by omega) _ _ _) mt_X9_write mi_X9_write ml_X9_139 (r.kd) (by first | decide | omega) rfl (by decide) (by omega) (by omega) rfl (Nat.le_of_ble_eq_true rfl) dX9_parse_216 (fun v_216 S_216 hp_216 => ?_)
                        obtain ⟨rfl, rfl⟩ := hp_216
                        simp only [Option.toList, List.nil_append]
                        have p2 := gPs_put (one := mA M 1 (t + 1 + u)) (own := mA Du 3 (mN D 1)) (mk := nI 0) hP2 (by rw [hd1])
                        have eN : dNam Du (mA M 1 (t + 1 + u)) = uN (dPut Du (mA M 1 (t + 1 + u)) (nI 0)) 3 (u + 1) := by
                          rw [show dNam Du (mA M 1 (t + 1 + u)) = uN (dPut Du (mA M 1 (t + 1 + u)) (if 0 < mN Du 3 then nI 1 else nI 0)) 3 (mN Du 3 + 1) from if_neg n125, hm, hru]
                        refine g_iinc (v := _) G dX9_parse_219 rfl (by first | exact nI_1 _ | rfl) (gSt_4 (by first | rfl | exact g_c1_rf)) ?_
                        refine g_goto (tgt := 171) G dX9_parse_222 (by decide) ?_
                        exact ih3 (u + 1) _ (uN (dPut Du (mA M 1 (t + 1 + u)) (nI 0)) 3 (u + 1)) (Wu + 1) (by omega) (by omega) ⟨by rw [← eN]; exact hs, h3, rfl, hd1, gPs_cong p2 ⟨rfl, rfl⟩ rfl (fun _ _ _ => rfl), gAr_put (v := mA M 1 (t + 1 + u)) (m := nI 0) hA2 wrS_fr, by omega, by omega, ⟨(dPut_3 (by omega)).trans hw2.1, by rw [show mA (uN (dPut Du (mA M 1 (t + 1 + u)) (nI 0)) 3 (u + 1)) 4 1 = mA Du 4 1 from dPut_3 (by omega)]; exact hw2.2⟩, gW9_wr hO2⟩
              rw [eb]
              refine g_iload G dX9_parse_161 rfl ?_
              refine g_iconst (v := nI 1) G dX9_parse_163 (by decide) ?_
              refine g_iadd G dX9_parse_164 (nI_1 _) ?_
              refine g_istore G dX9_parse_165 (gSt_6 (by first | rfl | exact g_c1_rf)) ?_
              refine g_iload G dX9_parse_167 rfl ?_
              refine g_istore G dX9_parse_169 (gSt_4 (by first | rfl | exact g_c1_rf)) ?_
              exact loop171 (12 + 1) 0 _ (uN (uN D 2 3) 3 0) W (by omega) (by omega) ⟨hs1, rfl, rfl, rfl, gPs_cong hP ⟨rfl, rfl⟩ rfl (fun _ _ _ => rfl), hA, by omega, by omega, hw, hO⟩
          · have eb : mA M 1 t = nI 93 := c_135
            have h5 := hS.1
            refine g_iload_n G dX9_parse_138 rfl ?_
            refine g_if_ne (tgt := 145) G dX9_parse_139 (by decide) (fun c_139 => ?_) (fun c_139 => ?_)
            · have l0 : 0 < mN D 1 := by
                have z : ¬ mN D 1 = 0 := fun z => c_139 (by rw [z]; rfl)
                omega
              have hs1 : dRes (mA M 1) (gOwn M c) (t + 1) = .inr (uN D 1 (mN D 1 - 1)) := by
                have z := gSet_step hS hlt2
                rw [eb, show dBok D (nI 93) = true from decide_eq_true l0] at z
                exact z
              refine g_iinc (v := nI (mN D 1 - 1)) G dX9_parse_145 rfl (by rw [show Int32.ofInt (-1) = -1 by decide]; exact nI_m1 l0) (gSt_3 (by first | rfl | exact g_c1_rf)) ?_
              refine g_iinc (v := _) G dX9_parse_148 rfl (by first | exact nI_1 _ | rfl) (gSt_4 (by first | rfl | exact g_c1_rf)) ?_
              refine g_goto (tgt := 441) G dX9_parse_151 (by decide) ?_
              refine g_goto (tgt := 25) G dX9_parse_441 (by decide) ?_
              exact ih2 (t + 1) _ (uN D 1 (mN D 1 - 1)) W (by omega) (by omega) _ _ _ ⟨gSet_of hs1 (show mN D 2 = 0 from gSet_st hS) (show mN D 1 - 1 ≤ 5 by omega), gPs_cong hP ⟨rfl, rfl⟩ rfl (fun _ _ _ => rfl), ⟨hA.1, hA.2.1, fun j (hj : j ≤ mN D 1 - 1) => hA.2.2 j (by omega)⟩, by omega, hw, hO⟩
            · have e0 : mN D 1 = 0 := (nI_eq (b := 0) (by omega) (by omega)).mp c_139
              refine g_iload G dX9_parse_142 rfl ?_
              exact g_iret G F (⟨hP.1, hO, Or.inl ⟨_, rfl, by omega, gSet_bad hS hlt2 (by rw [eb]; exact decide_eq_false (by omega))⟩⟩) (by omega) (by omega) dX9_parse_144
        · have eb : mA M 1 t = nI 91 := c_47
          have h5 := hS.1
          refine g_iload_n G dX9_parse_50 rfl ?_
          refine g_iconst (v := nI 5) G dX9_parse_51 (by decide) ?_
          refine g_icmp_ne (tgt := 58) G dX9_parse_52 (by decide) (fun c_52 => ?_) (fun c_52 => ?_)
          · have l5 : mN D 1 < 5 := by
              have z : ¬ mN D 1 = 5 := fun z => c_52 (by rw [z])
              omega
            have hs1 : dRes (mA M 1) (gOwn M c) (t + 1) = .inr (uN D 2 1) := by
              have z := gSet_step hS hlt2
              rw [eb, show dBok D (nI 91) = true from decide_eq_true l5] at z
              exact z
            first | refine g_aload_n G dX9_parse_58 rfl ?_ | refine g_aload_nN G dX9_parse_58 rfl ?_ | refine g_aload_nQ G dX9_parse_58 rfl ?_
            refine g_iload G dX9_parse_59 rfl ?_
            refine g_iconst (v := nI 1) G dX9_parse_61 (by decide) ?_
            refine g_iadd G dX9_parse_62 (nI_1 _) ?_
            refine g_callVp (ci := 10) G (c_X9_at _ _ _ _ _ r i _ (by omega)) mt_X9_at mi_X9_at ml_X9_126 (r.kd) (by first | decide | omega) rfl (by decide) (by omega) (by omega) rfl (Nat.le_of_ble_eq_true rfl) dX9_parse_63 ?_
            refine g_bipush (v := nI 49) G dX9_parse_66 (by decide) ?_
            refine g_bipush (v := nI 57) G dX9_parse_68 (by decide) ?_
            refine g_callSp G (c_X9_isIn _ _ _ _ _) mt_X9_isIn ms_X9_isIn ml_X9_97 (by decide) (by omega) (by omega) rfl (Nat.le_of_ble_eq_true rfl) dX9_parse_70 ?_
            refine g_if_ne (tgt := 81) G dX9_parse_73 (by decide) (fun c_73 => ?_) (fun c_73 => ?_)
            · have hd1 := of_decide_eq_true (gB_ne0.mp c_73)
              have ht1 : t + 1 < mN M 2 := gAt_lt (fun z => by rw [z] at hd1; exact absurd hd1.1 (by decide))
              have hs2 : dRes (mA M 1) (gOwn M c) (t + 2) = .inr (dLev (uN D 2 1) (mA M 1 (t + 1))) := by
                have z := dRes_s hs1
                rw [show dOk (uN D 2 1) (mA M 1 (t + 1)) = true from (by
                  show dDig (nI 49) (mA M 1 (t + 1)) = true
                  rw [← gAt_y ht1]
                  exact gB_ne0.mp c_73)] at z
                exact z
              first | refine g_aload_n G dX9_parse_81 rfl ?_ | refine g_aload_nN G dX9_parse_81 rfl ?_ | refine g_aload_nQ G dX9_parse_81 rfl ?_
              refine g_iload G dX9_parse_82 rfl ?_
              refine g_iconst (v := nI 2) G dX9_parse_84 (by decide) ?_
              refine g_iadd G dX9_parse_85 (nI_add t 2) ?_
              refine g_callVp (ci := 10) G (c_X9_at _ _ _ _ _ r i _ (by omega)) mt_X9_at mi_X9_at ml_X9_126 (r.kd) (by first | decide | omega) rfl (by decide) (by omega) (by omega) rfl (Nat.le_of_ble_eq_true rfl) dX9_parse_86 ?_
              refine g_bipush (v := nI 58) G dX9_parse_89 (by decide) ?_
              refine g_icmp_eq (tgt := 99) G dX9_parse_91 (by decide) (fun c_91 => ?_) (fun c_91 => ?_)
              · have ht2b : t + 2 < mN M 2 := gAt_lt (fun z => by rw [z] at c_91; exact absurd c_91 (by decide))
                have hs3 : dRes (mA M 1) (gOwn M c) (t + 3) = .inr (uN (dLev (uN D 2 1) (mA M 1 (t + 1))) 2 0) := by
                  have z := dRes_s hs2
                  rw [show dOk (dLev (uN D 2 1) (mA M 1 (t + 1))) (mA M 1 (t + 2)) = true from (by
                    show decide (mA M 1 (t + 2) = nI 58) = true
                    rw [← gAt_y ht2b]
                    exact decide_eq_true c_91)] at z
                  exact z
                refine g_iinc (v := _) G dX9_parse_99 rfl (by first | exact nI_1 _ | rfl) (gSt_3 (by first | rfl | exact g_c1_rf)) ?_
                first | refine g_aload_n G dX9_parse_102 rfl ?_ | refine g_aload_nN G dX9_parse_102 rfl ?_ | refine g_aload_nQ G dX9_parse_102 rfl ?_
                refine g_iload_n G dX9_parse_103 rfl ?_
                first | refine g_aload_n G dX9_parse_104 rfl ?_ | refine g_aload_nN G dX9_parse_104 rfl ?_ | refine g_aload_nQ G dX9_parse_104 rfl ?_
                refine g_iload_n G dX9_parse_105 rfl ?_
                refine g_iconst (v := nI 1) G dX9_parse_106 (by decide) ?_
                refine g_isub G dX9_parse_107 ((show nI (mN D 1 + 1) - nI 1 = nI (mN D 1) from pk_sub (by omega))) ?_
                refine g_iald G (hA.1) (by first | decide | omega) (by rw [hA.2.1]; omega) (by omega) (hA.2.2 _ (Nat.le_refl _)) dX9_parse_108 ?_
                first | refine g_aload_n G dX9_parse_109 rfl ?_ | refine g_aload_nN G dX9_parse_109 rfl ?_ | refine g_aload_nQ G dX9_parse_109 rfl ?_
                refine g_getR G fl_X9_9 (r.kd) (by first | decide | omega) rfl (r.Y 1 rfl) dX9_parse_110 ?_
                refine g_iload G dX9_parse_113 rfl ?_
                refine g_iconst (v := nI 1) G dX9_parse_115 (by decide) ?_
                refine g_iadd G dX9_parse_116 (nI_1 _) ?_
                refine g_iald G (r.A 1 rfl) (by first | decide | omega) (r.lt 1 999 rfl (by omega)) (by omega) (r.t (by omega)) dX9_parse_117 ?_
                refine g_bipush (v := nI 48) G dX9_parse_118 (by decide) ?_
                refine g_isub G dX9_parse_120 (rfl) ?_
                refine g_mmax G ml_X9_129 (by decide) (by omega) (by omega) (Nat.le_of_ble_eq_true rfl) (rfl) dX9_parse_121 ?_
                refine g_iast G (hA.1) (by first | decide | omega) (by rw [hA.2.1]; omega) (by omega) (rfl) dX9_parse_124 ?_
                refine g_iinc (v := nI (t + 3)) G dX9_parse_125 rfl (by rw [show Int32.ofInt 3 = nI 3 by decide]; exact nI_add t 3) (gSt_4 (by first | rfl | exact g_c1_rf)) ?_
                refine g_goto (tgt := 441) G dX9_parse_128 (by decide) ?_
                refine g_goto (tgt := 25) G dX9_parse_441 (by decide) ?_
                exact ih2 (t + 3) _ (uN (dLev (uN D 2 1) (mA M 1 (t + 1))) 2 0) W (by omega) (by omega) _ _ _ ⟨gSet_of hs3 rfl (show mN D 1 + 1 ≤ 5 by omega), gPs_cong (gPs_t hP) ⟨uA_f (by omega), uA_f (by omega)⟩ rfl (fun f j hf => uA_f (by omega)), gAr_lev hA, by omega, ⟨(uA_f (by omega)).trans hw.1, by rw [show mA (uN (dLev (uN D 2 1) (mA M 1 (t + 1))) 2 0) 4 1 = mA D 4 1 from uA_f (by omega)]; exact hw.2⟩, gW9_t hO⟩
              · have e9 : gBad (mA M 1) (gOwn M c) (mN M 2) (t + 2) := gBad_of hs2 (by omega) (fun hp => by
                  show decide (mA M 1 (t + 2) = nI 58) = false
                  rw [← gAt_y hp]
                  exact decide_eq_false c_91) (fun _ => decide_eq_false (fun w => by rcases w.2 with z | z; exact absurd (show (2 : Nat) = 0 from z) (by decide); exact absurd (show (2 : Nat) = 4 from z.1) (by decide)))
                refine g_iload G dX9_parse_94 rfl ?_
                refine g_iconst (v := nI 2) G dX9_parse_96 (by decide) ?_
                refine g_iadd G dX9_parse_97 (nI_add t 2) ?_
                exact g_iret G F (⟨hP.1, hO, Or.inl ⟨_, rfl, by omega, e9⟩⟩) (by omega) (by omega) dX9_parse_98
            · have e9 : gBad (mA M 1) (gOwn M c) (mN M 2) (t + 1) := gBad_of hs1 (by omega) (fun hp => by
                show dDig (nI 49) (mA M 1 (t + 1)) = false
                rw [← gAt_y hp]
                exact gB_eq0.mp c_73) (fun _ => decide_eq_false (fun w => by rcases w.2 with z | z; exact absurd (show (1 : Nat) = 0 from z) (by decide); exact absurd (show (1 : Nat) = 4 from z.1) (by decide)))
              refine g_iload G dX9_parse_76 rfl ?_
              refine g_iconst (v := nI 1) G dX9_parse_78 (by decide) ?_
              refine g_iadd G dX9_parse_79 (nI_1 _) ?_
              exact g_iret G F (⟨hP.1, hO, Or.inl ⟨_, rfl, by omega, e9⟩⟩) (by omega) (by omega) dX9_parse_80
          · have e5 : mN D 1 = 5 := (nI_eq (b := 5) (by omega) (by omega)).mp c_52
            refine g_iload G dX9_parse_55 rfl ?_
            exact g_iret G F (⟨hP.1, hO, Or.inl ⟨_, rfl, by omega, gSet_bad hS hlt2 (by rw [eb]; exact decide_eq_false (by omega))⟩⟩) (by omega) (by omega) dX9_parse_57
  exact loop25 (mN M 2 + 1) 0 _ (dStart (gOwn M c)) 0 (by omega) (by omega) _ _ _ ⟨gSet_0, ⟨gRef_32 (gRef_32 (gRef_32 hM (by decide)) (by decide)) (by decide), sX_p (by decide) (sX_p (by decide) sX_s), sX_p (by decide) sX_s, sX_s, fun _ => ⟨rfl, fun j hj => absurd hj (Nat.not_lt_zero j)⟩⟩, ⟨va_up_self _ _ _, va_up_self _ _ _, fun j (hj : j ≤ 0) => by rw [Nat.le_zero.mp hj]; exact sX_k (by decide) (sX_k (by decide) (sX_k (by decide) (congrFun (gM_x _ _ _ _) 0)))⟩, by omega, ⟨rfl, Or.inl rfl⟩, gW9_11 (gW9_11 (gW9_11 ⟨fun p hp => congrFun (congrFun (gM_xk S (by decide)) p) y, (gFr_M _ _ hq_2).mono (fun k z => z.2)⟩ (by decide)) (by decide)) (by decide)⟩
