/-! ===== the reference: feed, veil, read, chains ===== -/

set_option maxHeartbeats 4000000 in
set_option maxRecDepth 100000 in
theorem c_X9_add (d0 : Nat × Nat) (S : gS) (y : Nat) (b : Nat → Nat → Nat) (M : gM) (h : gRef S y b M) (i : gInv M) (e : Nat) (fr to wh : Int32) (he : e < mN M 17) (hk : mN M (200 + e) < 12) : gCt d0 yX9_add cX9_add 6 (some .int) 1 1 4 [.ref y, .int (nI e), .int fr, .int to, .int wh] S (fun v' S' => v' = some (.int (nI (mN M (200 + e) + 1))) ∧ gRef S' y b (mLink M e (nI (mN M 40)) fr to wh) ∧ gX S' 11 0 y = gX S 11 0 y ∧ gFr gCk S S') gNo := by
  refine gCt_of (lo := [some (.ref y), some (.int (nI e)), some (.int fr), some (.int to), some (.int wh), none]) (by decide +kernel) (Nat.le_of_ble_eq_true rfl) (rfl) ?_
  intro Γ hd G F hini
  obtain ⟨i6, i8, i11, i17, i23, i2, i5⟩ := i.b
  obtain ⟨r, q, -⟩ := id h
  refine g_iconst (v := nI 4) G dX9_add_0 (by decide) ?_
  refine g_new_int (κ := 17 + 32 * 90) G ac_int (by first | decide | omega) (rfl) (by omega) (by omega) (by omega) dX9_add_1 (fun q_1 hq_1 => ?_)
  have hlen : gL (sM S (17 + 32 * 90) q_1 4) q_1 = 4 := va_up_self _ _ _
  have hk9 : ∀ κ, gRk κ → κ ≠ 17 + 32 * 90 := fun κ z e => gRk_9 (e ▸ z)
  refine g_dup G dX9_add_3 rfl ?_
  refine g_iconst (v := nI 0) G dX9_add_4 (by decide) ?_
  first | refine g_aload_n G dX9_add_5 rfl ?_ | refine g_aload_nN G dX9_add_5 rfl ?_ | refine g_aload_nQ G dX9_add_5 rfl ?_
  refine g_getR G fl_X9_75 ((gRest_mono r (gFr_M (17 + 32 * 90) 4 hq_1) hk9).kd) (by first | decide | omega) rfl ((gRest_mono r (gFr_M (17 + 32 * 90) 4 hq_1) hk9).st) dX9_add_6 ?_
  refine g_getIN G fl_X9_219 ((gStt_mono q (gFr_M (17 + 32 * 90) 4 hq_1) (by omega) (fun _ _ _ => by omega)).kd) (by first | decide | omega) rfl ((gStt_mono q (gFr_M (17 + 32 * 90) 4 hq_1) (by omega) (fun _ _ _ => by omega)).d) dX9_add_9 ?_
  refine g_iast G (va_up_self _ _ _) (by first | decide | omega) (show 0 < gL (sM S (17 + 32 * 90) q_1 4) q_1 by rw [hlen]; decide) (by omega) (rfl) dX9_add_12 ?_
  refine g_dup G dX9_add_13 rfl ?_
  refine g_iconst (v := nI 1) G dX9_add_14 (by decide) ?_
  refine g_iload_n G dX9_add_15 rfl ?_
  refine g_iast G (va_up_self _ _ _) (by first | decide | omega) (show 1 < gL (sM S (17 + 32 * 90) q_1 4) q_1 by rw [hlen]; decide) (by omega) (rfl) dX9_add_16 ?_
  refine g_dup G dX9_add_17 rfl ?_
  refine g_iconst (v := nI 2) G dX9_add_18 (by decide) ?_
  refine g_iload_n G dX9_add_19 rfl ?_
  refine g_iast G (va_up_self _ _ _) (by first | decide | omega) (show 2 < gL (sM S (17 + 32 * 90) q_1 4) q_1 by rw [hlen]; decide) (by omega) (rfl) dX9_add_20 ?_
  refine g_dup G dX9_add_21 rfl ?_
  refine g_iconst (v := nI 3) G dX9_add_22 (by decide) ?_
  refine g_iload G dX9_add_23 rfl ?_
  refine g_iast G (va_up_self _ _ _) (by first | decide | omega) (show 3 < gL (sM S (17 + 32 * 90) q_1 4) q_1 by rw [hlen]; decide) (by omega) (rfl) dX9_add_25 ?_
  first | refine g_astore G dX9_add_26 (gSt_5 (by first | rfl | exact g_c1_rf)) ?_ | refine g_astoreN G dX9_add_26 (gSt_5 (by first | rfl | exact g_c1_rf)) ?_ | refine g_astoreQ G dX9_add_26 (gSt_5 (by first | rfl | exact g_c1_rf)) ?_
  first | refine g_aload G dX9_add_28 rfl ?_ | refine g_aloadN G dX9_add_28 rfl ?_ | refine g_aloadQ G dX9_add_28 rfl ?_
  refine g_iconst (v := nI 0) G dX9_add_30 (by decide) ?_
  first | refine g_aload_n G dX9_add_31 rfl ?_ | refine g_aload_nN G dX9_add_31 rfl ?_ | refine g_aload_nQ G dX9_add_31 rfl ?_
  refine g_getR G fl_X9_58 ((gRest_mono r (((((gFr_M (17 + 32 * 90) 4 hq_1).X1 _ _ _ (fun _ z => z)).X1 _ _ _ (fun _ z => z)).X1 _ _ _ (fun _ z => z)).X1 _ _ _ (fun _ z => z)) hk9).kd) (by first | decide | omega) rfl ((gRest_mono r (((((gFr_M (17 + 32 * 90) 4 hq_1).X1 _ _ _ (fun _ z => z)).X1 _ _ _ (fun _ z => z)).X1 _ _ _ (fun _ z => z)).X1 _ _ _ (fun _ z => z)) hk9).Y 22 rfl) dX9_add_32 ?_
  refine g_iconst (v := nI 4) G dX9_add_35 (by decide) ?_
  refine g_bipush (v := nI 12) G dX9_add_36 (by decide) ?_
  refine g_iload_n G dX9_add_38 rfl ?_
  refine g_imul G dX9_add_39 (by first | exact pk_mul _ _ | rfl) ?_
  first | refine g_aload_n G dX9_add_40 rfl ?_ | refine g_aload_nN G dX9_add_40 rfl ?_ | refine g_aload_nQ G dX9_add_40 rfl ?_
  refine g_getR G fl_X9_55 ((gRest_mono r (((((gFr_M (17 + 32 * 90) 4 hq_1).X1 _ _ _ (fun _ z => z)).X1 _ _ _ (fun _ z => z)).X1 _ _ _ (fun _ z => z)).X1 _ _ _ (fun _ z => z)) hk9).kd) (by first | decide | omega) rfl ((gRest_mono r (((((gFr_M (17 + 32 * 90) 4 hq_1).X1 _ _ _ (fun _ z => z)).X1 _ _ _ (fun _ z => z)).X1 _ _ _ (fun _ z => z)).X1 _ _ _ (fun _ z => z)) hk9).Y 21 rfl) dX9_add_41 ?_
  refine g_iload_n G dX9_add_44 rfl ?_
  refine g_iald G ((gRest_mono r (((((gFr_M (17 + 32 * 90) 4 hq_1).X1 _ _ _ (fun _ z => z)).X1 _ _ _ (fun _ z => z)).X1 _ _ _ (fun _ z => z)).X1 _ _ _ (fun _ z => z)) hk9).A 21 rfl) (by first | decide | omega) ((gRest_mono r (((((gFr_M (17 + 32 * 90) 4 hq_1).X1 _ _ _ (fun _ z => z)).X1 _ _ _ (fun _ z => z)).X1 _ _ _ (fun _ z => z)).X1 _ _ _ (fun _ z => z)) hk9).lt 21 19 rfl (by omega)) (by omega) ((show gX _ (17 + 32 * (10 + 21)) _ e = nI (mN M (200 + e)) from (gRest_mono r (((((gFr_M (17 + 32 * 90) 4 hq_1).X1 _ _ _ (fun _ z => z)).X1 _ _ _ (fun _ z => z)).X1 _ _ _ (fun _ z => z)).X1 _ _ _ (fun _ z => z)) hk9).k (by omega))) dX9_add_45 ?_
  refine g_iadd G dX9_add_46 (by first | exact nI_add _ _ | rfl) ?_
  refine g_imul G dX9_add_47 (by first | exact pk_mul _ _ | rfl) ?_
  refine g_iconst (v := nI 4) G dX9_add_48 (by decide) ?_
  have hfr : gFr (fun k => k ≠ 17 + 32 * 90) S (sX (sX (sX (sX (sM S (17 + 32 * 90) q_1 4) (17 + 32 * 90) q_1 0 (nI (mN M 40))) (17 + 32 * 90) q_1 1 fr) (17 + 32 * 90) q_1 2 to) (17 + 32 * 90) q_1 3 wh) := ((((gFr_M (17 + 32 * 90) 4 hq_1).X1 _ _ _ (fun _ z => z)).X1 _ _ _ (fun _ z => z)).X1 _ _ _ (fun _ z => z)).X1 _ _ _ (fun _ z => z)
  have h1 := gRef_mono h hfr hk9
  have hx : ∀ j, j < 4 → gX (sX (sX (sX (sX (sM S (17 + 32 * 90) q_1 4) (17 + 32 * 90) q_1 0 (nI (mN M 40))) (17 + 32 * 90) q_1 1 fr) (17 + 32 * 90) q_1 2 to) (17 + 32 * 90) q_1 3 wh) (17 + 32 * 90) q_1 j = (if j = 0 then nI (mN M 40) else if j = 1 then fr else if j = 2 then to else wh) := fun j hj => by
    obtain rfl | rfl | rfl | rfl := (show j = 0 ∨ j = 1 ∨ j = 2 ∨ j = 3 by omega)
    · exact sX_q (by decide) (sX_q (by decide) (sX_q (by decide) sX_s))
    · exact sX_q (by decide) (sX_q (by decide) sX_s)
    · exact sX_q (by decide) sX_s
    · exact sX_s
  have r1 := h1.1
  refine g_acopyI (sp := 0) (dp := 4 * (12 * e + mN M (200 + e))) (N := 4) G kac_X9_222 (κ0 := 17 + 32 * 90) (κ1 := 17 + 32 * (10 + 22)) (va_up_self _ _ _) (r1.A 22 rfl) (by decide) (show 0 + 4 ≤ gL (sM S (17 + 32 * 90) q_1 4) q_1 by rw [hlen]; decide) (by rw [r1.L 22 959 rfl]; omega) ⟨by omega, by omega, by omega⟩ (fun i hi => rfl) (by omega) (Nat.le_of_ble_eq_true rfl) dX9_add_49 ?_
  have h2 := gRef_ch (f := fun j => if j = 4 * (12 * e + mN M (200 + e)) then nI (mN M 40) else if j = 4 * (12 * e + mN M (200 + e)) + 1 then fr else if j = 4 * (12 * e + mN M (200 + e)) + 2 then to else if j = 4 * (12 * e + mN M (200 + e)) + 3 then wh else mA M 22 j) (g := va_cpy (gX (sX (sX (sX (sX (sM S (17 + 32 * 90) q_1 4) (17 + 32 * 90) q_1 0 (nI (mN M 40))) (17 + 32 * 90) q_1 1 fr) (17 + 32 * 90) q_1 2 to) (17 + 32 * 90) q_1 3 wh) (17 + 32 * 90) q_1) (gX (sX (sX (sX (sX (sM S (17 + 32 * 90) q_1 4) (17 + 32 * 90) q_1 0 (nI (mN M 40))) (17 + 32 * 90) q_1 1 fr) (17 + 32 * 90) q_1 2 to) (17 + 32 * 90) q_1 3 wh) (17 + 32 * (10 + 22)) (b 0 22)) 0 (4 * (12 * e + mN M (200 + e))) 4) h1 (fun j hj => by
    unfold va_cpy
    by_cases c : 4 * (12 * e + mN M (200 + e)) ≤ j ∧ j < 4 * (12 * e + mN M (200 + e)) + 4
    · rw [if_pos c, hx _ (by omega)]
      obtain z | z | z | z := (show j = 4 * (12 * e + mN M (200 + e)) ∨ j = 4 * (12 * e + mN M (200 + e)) + 1 ∨ j = 4 * (12 * e + mN M (200 + e)) + 2 ∨ j = 4 * (12 * e + mN M (200 + e)) + 3 by omega) <;> subst z
      · rw [if_pos (by omega), if_pos rfl]
      · rw [if_neg (by omega), if_pos (by omega), if_neg (by omega), if_pos rfl]
      · rw [if_neg (by omega), if_neg (by omega), if_pos (by omega), if_neg (by omega), if_neg (by omega), if_pos rfl]
      · rw [if_neg (by omega), if_neg (by omega), if_neg (by omega), if_neg (by omega), if_neg (by omega), if_neg (by omega), if_pos rfl]
    · rw [if_neg c, if_neg (by omega), if_neg (by omega), if_neg (by omega), if_neg (by omega)]
      exact r1.X 22 959 rfl rfl hj)
  obtain ⟨r2, q2, -⟩ := id h2
  have FX := gFr_Xr (sX (sX (sX (sX (sM S (17 + 32 * 90) q_1 4) (17 + 32 * 90) q_1 0 (nI (mN M 40))) (17 + 32 * 90) q_1 1 fr) (17 + 32 * 90) q_1 2 to) (17 + 32 * 90) q_1 3 wh) (17 + 32 * (10 + 22)) (b 0 22) (va_cpy (gX (sX (sX (sX (sX (sM S (17 + 32 * 90) q_1 4) (17 + 32 * 90) q_1 0 (nI (mN M 40))) (17 + 32 * 90) q_1 1 fr) (17 + 32 * 90) q_1 2 to) (17 + 32 * 90) q_1 3 wh) (17 + 32 * 90) q_1) (gX (sX (sX (sX (sX (sM S (17 + 32 * 90) q_1 4) (17 + 32 * 90) q_1 0 (nI (mN M 40))) (17 + 32 * 90) q_1 1 fr) (17 + 32 * 90) q_1 2 to) (17 + 32 * 90) q_1 3 wh) (17 + 32 * (10 + 22)) (b 0 22)) 0 (4 * (12 * e + mN M (200 + e))) 4)
  have F2 := hfr.tr (K := gCk) FX (fun k z => ⟨by unfold gCk at z; omega, by unfold gCk at z; omega⟩)
  have t2 := FX.X (κ := 11) (p := 0) (a := y) (by decide) (hfr.X (κ := 11) (p := 0) (a := y) (by decide) rfl)
  first | refine g_aload_n G dX9_add_52 rfl ?_ | refine g_aload_nN G dX9_add_52 rfl ?_ | refine g_aload_nQ G dX9_add_52 rfl ?_
  refine g_getR G fl_X9_55 (r2.kd) (by first | decide | omega) rfl (r2.Y 21 rfl) dX9_add_53 ?_
  refine g_iload_n G dX9_add_56 rfl ?_
  refine g_dup2 G dX9_add_57 rfl rfl ?_
  refine g_iald G (r2.A 21 rfl) (by first | decide | omega) (r2.lt 21 19 rfl (by omega)) (by omega) ((show gX _ (17 + 32 * (10 + 21)) _ e = nI (mN M (200 + e)) from r2.k (by omega))) dX9_add_58 ?_
  refine g_iconst (v := nI 1) G dX9_add_59 (by decide) ?_
  refine g_iadd G dX9_add_60 (by first | exact nI_add _ _ | rfl) ?_
  refine g_iast G (r2.A 21 rfl) (by first | decide | omega) (r2.lt 21 19 rfl (by omega)) (by omega) (rfl) dX9_add_61 ?_
  have h3 := gRef_l (e := e) (mN M (200 + e) + 1) h2 (by omega) (show mN M 11 ≤ 100 by omega)
  obtain ⟨r3, q3, -⟩ := id h3
  first | refine g_aload_n G dX9_add_62 rfl ?_ | refine g_aload_nN G dX9_add_62 rfl ?_ | refine g_aload_nQ G dX9_add_62 rfl ?_
  refine g_getR G fl_X9_49 (r3.kd) (by first | decide | omega) rfl (r3.Y 19 rfl) dX9_add_63 ?_
  refine g_iload_n G dX9_add_66 rfl ?_
  refine g_iload_n G dX9_add_67 rfl ?_
  refine g_iast G (r3.A 19 rfl) (by first | decide | omega) (r3.lt 19 19 rfl (by omega)) (by omega) (rfl) dX9_add_68 ?_
  have h4 := gRef_A 19 19 (j := e) to h3 rfl rfl (by omega)
  obtain ⟨r4, q4, -⟩ := id h4
  first | refine g_aload_n G dX9_add_69 rfl ?_ | refine g_aload_nN G dX9_add_69 rfl ?_ | refine g_aload_nQ G dX9_add_69 rfl ?_
  refine g_getR G fl_X9_55 (r4.kd) (by first | decide | omega) rfl (r4.Y 21 rfl) dX9_add_70 ?_
  refine g_iload_n G dX9_add_73 rfl ?_
  refine g_iald G (r4.A 21 rfl) (by first | decide | omega) (r4.lt 21 19 rfl (by omega)) (by omega) ((r4.k (e := e) (by omega)).trans (congrArg nI (show mN (uA (uN (uR M 22 _) (200 + e) (mN M (200 + e) + 1)) 19 e to) (200 + e) = mN M (200 + e) + 1 from uN_s))) dX9_add_74 ?_
  exact g_iret G F (⟨rfl, h4, sX_k (by decide) (sX_k (by decide) t2), (F2.X1 _ _ _ (fun k z => by unfold gCk at z; omega)).X1 _ _ _ (fun k z => by unfold gCk at z; omega)⟩) (by omega) (by omega) dX9_add_75

set_option maxHeartbeats 4000000 in
set_option maxRecDepth 100000 in
theorem c_X9_found (d0 : Nat × Nat) (S : gS) (y : Nat) (b : Nat → Nat → Nat) (M : gM) (h : gRef S y b M) (i : gInv M) (e : Nat) (t : Int32) (he : e < mN M 17) (ht : gPr M t) (hl : mA M 19 e = -2) (hk : mN M (200 + e) < 12) : gCt d0 yX9_found cX9_found 3 (some .int) 10 1 14 [.ref y, .int (nI e), .int t] S (gAn S y 0 (mLink M e (nI (mN M 40)) (-1) t (nI 1)) (some (.int (nI (mN M (200 + e) + 1))))) gNo := by
  refine gCt_of (lo := [some (.ref y), some (.int (nI e)), some (.int t)]) (by decide +kernel) (Nat.le_of_ble_eq_true rfl) (rfl) ?_
  intro Γ hd G F hini
  first | refine g_aload_n G dX9_found_0 rfl ?_ | refine g_aload_nN G dX9_found_0 rfl ?_ | refine g_aload_nQ G dX9_found_0 rfl ?_
  refine g_iconst (v := nI 0) G dX9_found_1 (by decide) ?_
  refine g_putI G fl_X9_91 pu_10_0 (h.1.kd) (by first | decide | omega) rfl dX9_found_2 ?_
  have h0 := gRef_th (v := nI 0) h
  obtain ⟨r, q, -⟩ := id h0
  obtain ⟨i6, i8, i11, i17, i23, i2, i5⟩ := i.b
  first | refine g_aload_n G dX9_found_5 rfl ?_ | refine g_aload_nN G dX9_found_5 rfl ?_ | refine g_aload_nQ G dX9_found_5 rfl ?_
  refine g_iload_n G dX9_found_6 rfl ?_
  refine g_callVp (ci := 10) G (c_X9_isExhibit _ _ _ _ _ r i _) mt_X9_isExhibit mi_X9_isExhibit ml_X9_228 (r.kd) (by first | decide | omega) rfl (by decide) (by omega) (by omega) rfl (Nat.le_of_ble_eq_true rfl) dX9_found_7 ?_
  refine g_if_eq (tgt := 26) G dX9_found_10 (by decide) (fun c_10 => (absurd c_10 (gIxB_ok he (by omega)))) (fun c_10 => ?_)
  refine g_iload_n G dX9_found_13 rfl ?_
  refine g_iconst (v := (-1)) G dX9_found_14 (by decide) ?_
  refine g_icmp_eq (tgt := 32) G dX9_found_15 (by decide) (fun c_15 => ?_) (fun c_15 => ?_)
  · first | refine g_aload_n G dX9_found_32 rfl ?_ | refine g_aload_nN G dX9_found_32 rfl ?_ | refine g_aload_nQ G dX9_found_32 rfl ?_
    refine g_getR G fl_X9_49 (r.kd) (by first | decide | omega) rfl (r.Y 19 rfl) dX9_found_33 ?_
    refine g_iload_n G dX9_found_36 rfl ?_
    refine g_iald G (r.A 19 rfl) (by first | decide | omega) (r.lt 19 19 rfl (by omega)) (by omega) (r.X 19 19 rfl rfl (by omega)) dX9_found_37 ?_
    refine g_bipush (v := (-2)) G dX9_found_38 (by decide) ?_
    refine g_icmp_ne (tgt := 54) G dX9_found_40 (by decide) (fun c_40 => (absurd hl c_40)) (fun c_40 => ?_)
    first | refine g_aload_n G dX9_found_43 rfl ?_ | refine g_aload_nN G dX9_found_43 rfl ?_ | refine g_aload_nQ G dX9_found_43 rfl ?_
    refine g_getR G fl_X9_55 (r.kd) (by first | decide | omega) rfl (r.Y 21 rfl) dX9_found_44 ?_
    refine g_iload_n G dX9_found_47 rfl ?_
    refine g_iald G (r.A 21 rfl) (by first | decide | omega) (r.lt 21 19 rfl (by omega)) (by omega) ((show gX _ (17 + 32 * (10 + 21)) _ e = nI (mN M (200 + e)) from r.k (by omega))) dX9_found_48 ?_
    refine g_bipush (v := nI 12) G dX9_found_49 (by decide) ?_
    refine g_icmp_ne (tgt := 60) G dX9_found_51 (by decide) (fun c_51 => ?_) (fun c_51 => (absurd ((nI_eq (b := 12) (by omega) (by omega)).mp c_51) (by omega)))
    first | refine g_aload_n G dX9_found_60 rfl ?_ | refine g_aload_nN G dX9_found_60 rfl ?_ | refine g_aload_nQ G dX9_found_60 rfl ?_
    refine g_iload_n G dX9_found_61 rfl ?_
    refine g_iconst (v := (-1)) G dX9_found_62 (by decide) ?_
    refine g_iload_n G dX9_found_63 rfl ?_
    refine g_iconst (v := nI 1) G dX9_found_64 (by decide) ?_
    refine g_callV (ci := 10) G (c_X9_add _ _ _ _ _ h0 i _ _ _ _ (by omega) (by omega)) mt_X9_add mi_X9_add ml_X9_231 (r.kd) (by first | decide | omega) rfl (by decide) (by omega) (by omega) rfl (Nat.le_of_ble_eq_true rfl) dX9_found_65 (fun v_65 S_65 hp_65 => ?_)
    obtain ⟨rfl, hA, hth, FA⟩ := hp_65
    simp only [Option.toList, List.cons_append, List.nil_append]
    have hth2 := hth.trans sX_s
    have FB := gFr_th.tr (K := gCk) FA (fun _ z => ⟨z, z⟩)
    obtain ⟨rA, qA, -⟩ := id hA
    exact g_iret G F (⟨rfl, hth2, b, hA, FB⟩) (by omega) (by omega) dX9_found_68
  · first | refine g_aload_n G dX9_found_18 rfl ?_ | refine g_aload_nN G dX9_found_18 rfl ?_ | refine g_aload_nQ G dX9_found_18 rfl ?_
    refine g_iload_n G dX9_found_19 rfl ?_
    refine g_callVp (ci := 10) G (c_X9_isPerson _ _ _ _ _ r i _) mt_X9_isPerson mi_X9_isPerson ml_X9_176 (r.kd) (by first | decide | omega) rfl (by decide) (by omega) (by omega) rfl (Nat.le_of_ble_eq_true rfl) dX9_found_20 ?_
    refine g_if_ne (tgt := 32) G dX9_found_23 (by decide) (fun c_23 => ?_) (fun c_23 => (absurd c_23 ((ht.resolve_left c_15).elim fun p z => by rw [z.2]; exact gIxB_ok z.1 (by omega))))
    first | refine g_aload_n G dX9_found_32 rfl ?_ | refine g_aload_nN G dX9_found_32 rfl ?_ | refine g_aload_nQ G dX9_found_32 rfl ?_
    refine g_getR G fl_X9_49 (r.kd) (by first | decide | omega) rfl (r.Y 19 rfl) dX9_found_33 ?_
    refine g_iload_n G dX9_found_36 rfl ?_
    refine g_iald G (r.A 19 rfl) (by first | decide | omega) (r.lt 19 19 rfl (by omega)) (by omega) (r.X 19 19 rfl rfl (by omega)) dX9_found_37 ?_
    refine g_bipush (v := (-2)) G dX9_found_38 (by decide) ?_
    refine g_icmp_ne (tgt := 54) G dX9_found_40 (by decide) (fun c_40 => (absurd hl c_40)) (fun c_40 => ?_)
    first | refine g_aload_n G dX9_found_43 rfl ?_ | refine g_aload_nN G dX9_found_43 rfl ?_ | refine g_aload_nQ G dX9_found_43 rfl ?_
    refine g_getR G fl_X9_55 (r.kd) (by first | decide | omega) rfl (r.Y 21 rfl) dX9_found_44 ?_
    refine g_iload_n G dX9_found_47 rfl ?_
    refine g_iald G (r.A 21 rfl) (by first | decide | omega) (r.lt 21 19 rfl (by omega)) (by omega) ((show gX _ (17 + 32 * (10 + 21)) _ e = nI (mN M (200 + e)) from r.k (by omega))) dX9_found_48 ?_
    refine g_bipush (v := nI 12) G dX9_found_49 (by decide) ?_
    refine g_icmp_ne (tgt := 60) G dX9_found_51 (by decide) (fun c_51 => ?_) (fun c_51 => (absurd ((nI_eq (b := 12) (by omega) (by omega)).mp c_51) (by omega)))
    first | refine g_aload_n G dX9_found_60 rfl ?_ | refine g_aload_nN G dX9_found_60 rfl ?_ | refine g_aload_nQ G dX9_found_60 rfl ?_
    refine g_iload_n G dX9_found_61 rfl ?_
    refine g_iconst (v := (-1)) G dX9_found_62 (by decide) ?_
    refine g_iload_n G dX9_found_63 rfl ?_
    refine g_iconst (v := nI 1) G dX9_found_64 (by decide) ?_
    refine g_callV (ci := 10) G (c_X9_add _ _ _ _ _ h0 i _ _ _ _ (by omega) (by omega)) mt_X9_add mi_X9_add ml_X9_231 (r.kd) (by first | decide | omega) rfl (by decide) (by omega) (by omega) rfl (Nat.le_of_ble_eq_true rfl) dX9_found_65 (fun v_65 S_65 hp_65 => ?_)
    obtain ⟨rfl, hA, hth, FA⟩ := hp_65
    simp only [Option.toList, List.cons_append, List.nil_append]
    have hth2 := hth.trans sX_s
    have FB := gFr_th.tr (K := gCk) FA (fun _ z => ⟨z, z⟩)
    obtain ⟨rA, qA, -⟩ := id hA
    exact g_iret G F (⟨rfl, hth2, b, hA, FB⟩) (by omega) (by omega) dX9_found_68

set_option maxHeartbeats 4000000 in
set_option maxRecDepth 100000 in
theorem c_X9_found_no (d0 : Nat × Nat) (S : gS) (y : Nat) (b : Nat → Nat → Nat) (M : gM) (h : gRef S y b M) (i : gInv M) (e t : Int32) (hno : ¬ (gIx (mN M 17) e ∧ gPr M t)) : gCt d0 yX9_found cX9_found 3 (some .int) 10 1 12 [.ref y, .int e, .int t] S (gAn S y 1 M (some (.int (nI 0)))) gNo := by
  refine gCt_of (lo := [some (.ref y), some (.int e), some (.int t)]) (by decide +kernel) (Nat.le_of_ble_eq_true rfl) (rfl) ?_
  intro Γ hd G F hini
  first | refine g_aload_n G dX9_found_0 rfl ?_ | refine g_aload_nN G dX9_found_0 rfl ?_ | refine g_aload_nQ G dX9_found_0 rfl ?_
  refine g_iconst (v := nI 0) G dX9_found_1 (by decide) ?_
  refine g_putI G fl_X9_91 pu_10_0 (h.1.kd) (by first | decide | omega) rfl dX9_found_2 ?_
  have h0 := gRef_th (v := nI 0) h
  obtain ⟨r, q, -⟩ := id h0
  obtain ⟨i6, i8, i11, i17, i23, i2, i5⟩ := i.b
  first | refine g_aload_n G dX9_found_5 rfl ?_ | refine g_aload_nN G dX9_found_5 rfl ?_ | refine g_aload_nQ G dX9_found_5 rfl ?_
  refine g_iload_n G dX9_found_6 rfl ?_
  refine g_callVp (ci := 10) G (c_X9_isExhibit _ _ _ _ _ r i _) mt_X9_isExhibit mi_X9_isExhibit ml_X9_228 (r.kd) (by first | decide | omega) rfl (by decide) (by omega) (by omega) rfl (Nat.le_of_ble_eq_true rfl) dX9_found_7 ?_
  refine g_if_eq (tgt := 26) G dX9_found_10 (by decide) (fun c_10 => ?_) (fun c_10 => ?_)
  · first | refine g_aload_n G dX9_found_26 rfl ?_ | refine g_aload_nN G dX9_found_26 rfl ?_ | refine g_aload_nQ G dX9_found_26 rfl ?_
    refine g_iconst (v := nI 1) G dX9_found_27 (by decide) ?_
    refine g_callV (ci := 10) G (c_X9_no _ _ _ _ r.kd) mt_X9_no mi_X9_no ml_X9_113 (r.kd) (by first | decide | omega) rfl (by decide) (by omega) (by omega) rfl (Nat.le_of_ble_eq_true rfl) dX9_found_28 (fun v_28 S_28 hp_28 => ?_)
    obtain ⟨rfl, rfl⟩ := hp_28
    simp only [Option.toList, List.cons_append, List.nil_append]
    exact g_iret G F (gAn_N 1 h) (by omega) (by omega) dX9_found_31
  · refine g_iload_n G dX9_found_13 rfl ?_
    refine g_iconst (v := (-1)) G dX9_found_14 (by decide) ?_
    refine g_icmp_eq (tgt := 32) G dX9_found_15 (by decide) (fun c_15 => (absurd ⟨gIxB_y c_10, Or.inl c_15⟩ hno)) (fun c_15 => ?_)
    first | refine g_aload_n G dX9_found_18 rfl ?_ | refine g_aload_nN G dX9_found_18 rfl ?_ | refine g_aload_nQ G dX9_found_18 rfl ?_
    refine g_iload_n G dX9_found_19 rfl ?_
    refine g_callVp (ci := 10) G (c_X9_isPerson _ _ _ _ _ r i _) mt_X9_isPerson mi_X9_isPerson ml_X9_176 (r.kd) (by first | decide | omega) rfl (by decide) (by omega) (by omega) rfl (Nat.le_of_ble_eq_true rfl) dX9_found_20 ?_
    refine g_if_ne (tgt := 32) G dX9_found_23 (by decide) (fun c_23 => (absurd ⟨gIxB_y c_10, Or.inr (gIx_of (gIxB_y c_23) (by omega))⟩ hno)) (fun c_23 => ?_)
    first | refine g_aload_n G dX9_found_26 rfl ?_ | refine g_aload_nN G dX9_found_26 rfl ?_ | refine g_aload_nQ G dX9_found_26 rfl ?_
    refine g_iconst (v := nI 1) G dX9_found_27 (by decide) ?_
    refine g_callV (ci := 10) G (c_X9_no _ _ _ _ r.kd) mt_X9_no mi_X9_no ml_X9_113 (r.kd) (by first | decide | omega) rfl (by decide) (by omega) (by omega) rfl (Nat.le_of_ble_eq_true rfl) dX9_found_28 (fun v_28 S_28 hp_28 => ?_)
    obtain ⟨rfl, rfl⟩ := hp_28
    simp only [Option.toList, List.cons_append, List.nil_append]
    exact g_iret G F (gAn_N 1 h) (by omega) (by omega) dX9_found_31

set_option maxHeartbeats 4000000 in
set_option maxRecDepth 100000 in
theorem c_X9_found_no2 (d0 : Nat × Nat) (S : gS) (y : Nat) (b : Nat → Nat → Nat) (M : gM) (h : gRef S y b M) (i : gInv M) (e : Nat) (t : Int32) (he : e < mN M 17) (ht : gPr M t) (hno : ¬ (mA M 19 e = -2 ∧ mN M (200 + e) < 12)) : gCt d0 yX9_found cX9_found 3 (some .int) 10 1 12 [.ref y, .int (nI e), .int t] S (gAn S y 2 M (some (.int (nI 0)))) gNo := by
  refine gCt_of (lo := [some (.ref y), some (.int (nI e)), some (.int t)]) (by decide +kernel) (Nat.le_of_ble_eq_true rfl) (rfl) ?_
  intro Γ hd G F hini
  first | refine g_aload_n G dX9_found_0 rfl ?_ | refine g_aload_nN G dX9_found_0 rfl ?_ | refine g_aload_nQ G dX9_found_0 rfl ?_
  refine g_iconst (v := nI 0) G dX9_found_1 (by decide) ?_
  refine g_putI G fl_X9_91 pu_10_0 (h.1.kd) (by first | decide | omega) rfl dX9_found_2 ?_
  have h0 := gRef_th (v := nI 0) h
  obtain ⟨r, q, -⟩ := id h0
  obtain ⟨i6, i8, i11, i17, i23, i2, i5⟩ := i.b
  first | refine g_aload_n G dX9_found_5 rfl ?_ | refine g_aload_nN G dX9_found_5 rfl ?_ | refine g_aload_nQ G dX9_found_5 rfl ?_
  refine g_iload_n G dX9_found_6 rfl ?_
  refine g_callVp (ci := 10) G (c_X9_isExhibit _ _ _ _ _ r i _) mt_X9_isExhibit mi_X9_isExhibit ml_X9_228 (r.kd) (by first | decide | omega) rfl (by decide) (by omega) (by omega) rfl (Nat.le_of_ble_eq_true rfl) dX9_found_7 ?_
  refine g_if_eq (tgt := 26) G dX9_found_10 (by decide) (fun c_10 => (absurd c_10 (gIxB_ok he (by omega)))) (fun c_10 => ?_)
  refine g_iload_n G dX9_found_13 rfl ?_
  refine g_iconst (v := (-1)) G dX9_found_14 (by decide) ?_
  refine g_icmp_eq (tgt := 32) G dX9_found_15 (by decide) (fun c_15 => ?_) (fun c_15 => ?_)
  · first | refine g_aload_n G dX9_found_32 rfl ?_ | refine g_aload_nN G dX9_found_32 rfl ?_ | refine g_aload_nQ G dX9_found_32 rfl ?_
    refine g_getR G fl_X9_49 (r.kd) (by first | decide | omega) rfl (r.Y 19 rfl) dX9_found_33 ?_
    refine g_iload_n G dX9_found_36 rfl ?_
    refine g_iald G (r.A 19 rfl) (by first | decide | omega) (r.lt 19 19 rfl (by omega)) (by omega) (r.X 19 19 rfl rfl (by omega)) dX9_found_37 ?_
    refine g_bipush (v := (-2)) G dX9_found_38 (by decide) ?_
    refine g_icmp_ne (tgt := 54) G dX9_found_40 (by decide) (fun c_40 => ?_) (fun c_40 => ?_)
    · first | refine g_aload_n G dX9_found_54 rfl ?_ | refine g_aload_nN G dX9_found_54 rfl ?_ | refine g_aload_nQ G dX9_found_54 rfl ?_
      refine g_iconst (v := nI 2) G dX9_found_55 (by decide) ?_
      refine g_callV (ci := 10) G (c_X9_no _ _ _ _ r.kd) mt_X9_no mi_X9_no ml_X9_113 (r.kd) (by first | decide | omega) rfl (by decide) (by omega) (by omega) rfl (Nat.le_of_ble_eq_true rfl) dX9_found_56 (fun v_56 S_56 hp_56 => ?_)
      obtain ⟨rfl, rfl⟩ := hp_56
      simp only [Option.toList, List.cons_append, List.nil_append]
      exact g_iret G F (gAn_N 2 h) (by omega) (by omega) dX9_found_59
    · first | refine g_aload_n G dX9_found_43 rfl ?_ | refine g_aload_nN G dX9_found_43 rfl ?_ | refine g_aload_nQ G dX9_found_43 rfl ?_
      refine g_getR G fl_X9_55 (r.kd) (by first | decide | omega) rfl (r.Y 21 rfl) dX9_found_44 ?_
      refine g_iload_n G dX9_found_47 rfl ?_
      refine g_iald G (r.A 21 rfl) (by first | decide | omega) (r.lt 21 19 rfl (by omega)) (by omega) ((show gX _ (17 + 32 * (10 + 21)) _ e = nI (mN M (200 + e)) from r.k (by omega))) dX9_found_48 ?_
      refine g_bipush (v := nI 12) G dX9_found_49 (by decide) ?_
      refine g_icmp_ne (tgt := 60) G dX9_found_51 (by decide) (fun c_51 => (absurd ⟨c_40, by
          have ie := i.e e
          have z : ¬ mN M (200 + e) = 12 := fun z => c_51 (by rw [z])
          omega⟩ hno)) (fun c_51 => ?_)
      first | refine g_aload_n G dX9_found_54 rfl ?_ | refine g_aload_nN G dX9_found_54 rfl ?_ | refine g_aload_nQ G dX9_found_54 rfl ?_
      refine g_iconst (v := nI 2) G dX9_found_55 (by decide) ?_
      refine g_callV (ci := 10) G (c_X9_no _ _ _ _ r.kd) mt_X9_no mi_X9_no ml_X9_113 (r.kd) (by first | decide | omega) rfl (by decide) (by omega) (by omega) rfl (Nat.le_of_ble_eq_true rfl) dX9_found_56 (fun v_56 S_56 hp_56 => ?_)
      obtain ⟨rfl, rfl⟩ := hp_56
      simp only [Option.toList, List.cons_append, List.nil_append]
      exact g_iret G F (gAn_N 2 h) (by omega) (by omega) dX9_found_59
  · first | refine g_aload_n G dX9_found_18 rfl ?_ | refine g_aload_nN G dX9_found_18 rfl ?_ | refine g_aload_nQ G dX9_found_18 rfl ?_
    refine g_iload_n G dX9_found_19 rfl ?_
    refine g_callVp (ci := 10) G (c_X9_isPerson _ _ _ _ _ r i _) mt_X9_isPerson mi_X9_isPerson ml_X9_176 (r.kd) (by first | decide | omega) rfl (by decide) (by omega) (by omega) rfl (Nat.le_of_ble_eq_true rfl) dX9_found_20 ?_
    refine g_if_ne (tgt := 32) G dX9_found_23 (by decide) (fun c_23 => ?_) (fun c_23 => (absurd c_23 ((ht.resolve_left c_15).elim fun p z => by rw [z.2]; exact gIxB_ok z.1 (by omega))))
    first | refine g_aload_n G dX9_found_32 rfl ?_ | refine g_aload_nN G dX9_found_32 rfl ?_ | refine g_aload_nQ G dX9_found_32 rfl ?_
    refine g_getR G fl_X9_49 (r.kd) (by first | decide | omega) rfl (r.Y 19 rfl) dX9_found_33 ?_
    refine g_iload_n G dX9_found_36 rfl ?_
    refine g_iald G (r.A 19 rfl) (by first | decide | omega) (r.lt 19 19 rfl (by omega)) (by omega) (r.X 19 19 rfl rfl (by omega)) dX9_found_37 ?_
    refine g_bipush (v := (-2)) G dX9_found_38 (by decide) ?_
    refine g_icmp_ne (tgt := 54) G dX9_found_40 (by decide) (fun c_40 => ?_) (fun c_40 => ?_)
    · first | refine g_aload_n G dX9_found_54 rfl ?_ | refine g_aload_nN G dX9_found_54 rfl ?_ | refine g_aload_nQ G dX9_found_54 rfl ?_
      refine g_iconst (v := nI 2) G dX9_found_55 (by decide) ?_
      refine g_callV (ci := 10) G (c_X9_no _ _ _ _ r.kd) mt_X9_no mi_X9_no ml_X9_113 (r.kd) (by first | decide | omega) rfl (by decide) (by omega) (by omega) rfl (Nat.le_of_ble_eq_true rfl) dX9_found_56 (fun v_56 S_56 hp_56 => ?_)
      obtain ⟨rfl, rfl⟩ := hp_56
      simp only [Option.toList, List.cons_append, List.nil_append]
      exact g_iret G F (gAn_N 2 h) (by omega) (by omega) dX9_found_59
    · first | refine g_aload_n G dX9_found_43 rfl ?_ | refine g_aload_nN G dX9_found_43 rfl ?_ | refine g_aload_nQ G dX9_found_43 rfl ?_
      refine g_getR G fl_X9_55 (r.kd) (by first | decide | omega) rfl (r.Y 21 rfl) dX9_found_44 ?_
      refine g_iload_n G dX9_found_47 rfl ?_
      refine g_iald G (r.A 21 rfl) (by first | decide | omega) (r.lt 21 19 rfl (by omega)) (by omega) ((show gX _ (17 + 32 * (10 + 21)) _ e = nI (mN M (200 + e)) from r.k (by omega))) dX9_found_48 ?_
      refine g_bipush (v := nI 12) G dX9_found_49 (by decide) ?_
      refine g_icmp_ne (tgt := 60) G dX9_found_51 (by decide) (fun c_51 => (absurd ⟨c_40, by
          have ie := i.e e
          have z : ¬ mN M (200 + e) = 12 := fun z => c_51 (by rw [z])
          omega⟩ hno)) (fun c_51 => ?_)
      first | refine g_aload_n G dX9_found_54 rfl ?_ | refine g_aload_nN G dX9_found_54 rfl ?_ | refine g_aload_nQ G dX9_found_54 rfl ?_
      refine g_iconst (v := nI 2) G dX9_found_55 (by decide) ?_
      refine g_callV (ci := 10) G (c_X9_no _ _ _ _ r.kd) mt_X9_no mi_X9_no ml_X9_113 (r.kd) (by first | decide | omega) rfl (by decide) (by omega) (by omega) rfl (Nat.le_of_ble_eq_true rfl) dX9_found_56 (fun v_56 S_56 hp_56 => ?_)
      obtain ⟨rfl, rfl⟩ := hp_56
      simp only [Option.toList, List.cons_append, List.nil_append]
      exact g_iret G F (gAn_N 2 h) (by omega) (by omega) dX9_found_59

set_option maxHeartbeats 4000000 in
set_option maxRecDepth 100000 in
theorem c_X9_unseal (d0 : Nat × Nat) (S : gS) (y : Nat) (b : Nat → Nat → Nat) (M : gM) (h : gRef S y b M) (i : gInv M) (e : Nat) (he : e < mN M 17) (hl : ¬ mA M 19 e < 0) (hk : mN M (200 + e) < 12) : gCt d0 yX9_unseal cX9_unseal 2 (some .int) 10 1 14 [.ref y, .int (nI e)] S (gAn S y 0 (mUnseal M e) (some (.int (gNum M e)))) gNo := by
  refine gCt_of (lo := [some (.ref y), some (.int (nI e))]) (by decide +kernel) (Nat.le_of_ble_eq_true rfl) (rfl) ?_
  intro Γ hd G F hini
  first | refine g_aload_n G dX9_unseal_0 rfl ?_ | refine g_aload_nN G dX9_unseal_0 rfl ?_ | refine g_aload_nQ G dX9_unseal_0 rfl ?_
  refine g_iconst (v := nI 0) G dX9_unseal_1 (by decide) ?_
  refine g_putI G fl_X9_91 pu_10_0 (h.1.kd) (by first | decide | omega) rfl dX9_unseal_2 ?_
  have h0 := gRef_th (v := nI 0) h
  obtain ⟨r, q, -⟩ := id h0
  obtain ⟨i6, i8, i11, i17, i23, i2, i5⟩ := i.b
  first | refine g_aload_n G dX9_unseal_5 rfl ?_ | refine g_aload_nN G dX9_unseal_5 rfl ?_ | refine g_aload_nQ G dX9_unseal_5 rfl ?_
  refine g_iload_n G dX9_unseal_6 rfl ?_
  refine g_callVp (ci := 10) G (c_X9_isExhibit _ _ _ _ _ r i _) mt_X9_isExhibit mi_X9_isExhibit ml_X9_228 (r.kd) (by first | decide | omega) rfl (by decide) (by omega) (by omega) rfl (Nat.le_of_ble_eq_true rfl) dX9_unseal_7 ?_
  refine g_if_ne (tgt := 19) G dX9_unseal_10 (by decide) (fun c_10 => ?_) (fun c_10 => (absurd c_10 (gIxB_ok he (by omega))))
  first | refine g_aload_n G dX9_unseal_19 rfl ?_ | refine g_aload_nN G dX9_unseal_19 rfl ?_ | refine g_aload_nQ G dX9_unseal_19 rfl ?_
  refine g_getR G fl_X9_49 (r.kd) (by first | decide | omega) rfl (r.Y 19 rfl) dX9_unseal_20 ?_
  refine g_iload_n G dX9_unseal_23 rfl ?_
  refine g_iald G (r.A 19 rfl) (by first | decide | omega) (r.lt 19 19 rfl (by omega)) (by omega) (r.X 19 19 rfl rfl (by omega)) dX9_unseal_24 ?_
  refine g_if_lt (tgt := 39) G dX9_unseal_25 (by decide) (fun c_25 => (absurd c_25 hl)) (fun c_25 => ?_)
  first | refine g_aload_n G dX9_unseal_28 rfl ?_ | refine g_aload_nN G dX9_unseal_28 rfl ?_ | refine g_aload_nQ G dX9_unseal_28 rfl ?_
  refine g_getR G fl_X9_55 (r.kd) (by first | decide | omega) rfl (r.Y 21 rfl) dX9_unseal_29 ?_
  refine g_iload_n G dX9_unseal_32 rfl ?_
  refine g_iald G (r.A 21 rfl) (by first | decide | omega) (r.lt 21 19 rfl (by omega)) (by omega) ((show gX _ (17 + 32 * (10 + 21)) _ e = nI (mN M (200 + e)) from r.k (by omega))) dX9_unseal_33 ?_
  refine g_bipush (v := nI 12) G dX9_unseal_34 (by decide) ?_
  refine g_icmp_ne (tgt := 45) G dX9_unseal_36 (by decide) (fun c_36 => ?_) (fun c_36 => (absurd ((nI_eq (b := 12) (by omega) (by omega)).mp c_36) (by omega)))
  first | refine g_aload_n G dX9_unseal_45 rfl ?_ | refine g_aload_nN G dX9_unseal_45 rfl ?_ | refine g_aload_nQ G dX9_unseal_45 rfl ?_
  refine g_iload_n G dX9_unseal_46 rfl ?_
  first | refine g_aload_n G dX9_unseal_47 rfl ?_ | refine g_aload_nN G dX9_unseal_47 rfl ?_ | refine g_aload_nQ G dX9_unseal_47 rfl ?_
  refine g_getR G fl_X9_49 (r.kd) (by first | decide | omega) rfl (r.Y 19 rfl) dX9_unseal_48 ?_
  refine g_iload_n G dX9_unseal_51 rfl ?_
  refine g_iald G (r.A 19 rfl) (by first | decide | omega) (r.lt 19 19 rfl (by omega)) (by omega) (r.X 19 19 rfl rfl (by omega)) dX9_unseal_52 ?_
  first | refine g_aload_n G dX9_unseal_53 rfl ?_ | refine g_aload_nN G dX9_unseal_53 rfl ?_ | refine g_aload_nQ G dX9_unseal_53 rfl ?_
  refine g_getR G fl_X9_49 (r.kd) (by first | decide | omega) rfl (r.Y 19 rfl) dX9_unseal_54 ?_
  refine g_iload_n G dX9_unseal_57 rfl ?_
  refine g_iald G (r.A 19 rfl) (by first | decide | omega) (r.lt 19 19 rfl (by omega)) (by omega) (r.X 19 19 rfl rfl (by omega)) dX9_unseal_58 ?_
  refine g_iconst (v := nI 2) G dX9_unseal_59 (by decide) ?_
  refine g_callV (ci := 10) G (c_X9_add _ _ _ _ _ h0 i _ _ _ _ (by omega) (by omega)) mt_X9_add mi_X9_add ml_X9_231 (r.kd) (by first | decide | omega) rfl (by decide) (by omega) (by omega) rfl (Nat.le_of_ble_eq_true rfl) dX9_unseal_60 (fun v_60 S_60 hp_60 => ?_)
  obtain ⟨rfl, hA, hth, FA⟩ := hp_60
  simp only [Option.toList, List.cons_append, List.nil_append]
  have hth2 := hth.trans sX_s
  have FB := gFr_th.tr (K := gCk) FA (fun _ z => ⟨z, z⟩)
  obtain ⟨rA, qA, -⟩ := id hA
  refine g_pop G dX9_unseal_63 rfl ?_
  first | refine g_aload_n G dX9_unseal_64 rfl ?_ | refine g_aload_nN G dX9_unseal_64 rfl ?_ | refine g_aload_nQ G dX9_unseal_64 rfl ?_
  refine g_getR G fl_X9_52 (rA.kd) (by first | decide | omega) rfl (rA.Y 20 rfl) dX9_unseal_65 ?_
  refine g_iload_n G dX9_unseal_68 rfl ?_
  first | refine g_aload_n G dX9_unseal_69 rfl ?_ | refine g_aload_nN G dX9_unseal_69 rfl ?_ | refine g_aload_nQ G dX9_unseal_69 rfl ?_
  refine g_getR G fl_X9_52 (rA.kd) (by first | decide | omega) rfl (rA.Y 20 rfl) dX9_unseal_70 ?_
  refine g_iload_n G dX9_unseal_73 rfl ?_
  refine g_iald G (rA.A 20 rfl) (by first | decide | omega) (rA.lt 20 19 rfl (by omega)) (by omega) ((show gX _ (17 + 32 * (10 + 20)) _ e = mA M 20 e from rA.X 20 19 rfl rfl (by omega))) dX9_unseal_74 ?_
  refine g_bipush (v := nI 31) G dX9_unseal_75 (by decide) ?_
  refine g_imul G dX9_unseal_77 (rfl) ?_
  first | refine g_aload_n G dX9_unseal_78 rfl ?_ | refine g_aload_nN G dX9_unseal_78 rfl ?_ | refine g_aload_nQ G dX9_unseal_78 rfl ?_
  refine g_getR G fl_X9_75 (rA.kd) (by first | decide | omega) rfl (rA.st) dX9_unseal_79 ?_
  refine g_getIN G fl_X9_219 (qA.kd) (by first | decide | omega) rfl ((show gX _ (10 + 32 * 0) 0 _ = nI (mN M 40) from (qA.d.trans (congrArg nI (show mN (mLink M e _ _ _ _) 40 = mN M 40 from uN_o (by omega)))))) dX9_unseal_82 ?_
  refine g_iadd G dX9_unseal_85 (rfl) ?_
  refine g_sipush (v := nI 10007) G dX9_unseal_86 (by decide) ?_
  refine g_irem G dX9_unseal_89 (by decide) (rfl) ?_
  refine g_iast G (rA.A 20 rfl) (by first | decide | omega) (rA.lt 20 19 rfl (by omega)) (by omega) (rfl) dX9_unseal_90 ?_
  have h9 := gRef_A 20 19 (j := e) (gNum M e) hA rfl rfl (by omega)
  obtain ⟨r9, q9, -⟩ := id h9
  first | refine g_aload_n G dX9_unseal_91 rfl ?_ | refine g_aload_nN G dX9_unseal_91 rfl ?_ | refine g_aload_nQ G dX9_unseal_91 rfl ?_
  refine g_getR G fl_X9_52 (r9.kd) (by first | decide | omega) rfl (r9.Y 20 rfl) dX9_unseal_92 ?_
  refine g_iload_n G dX9_unseal_95 rfl ?_
  refine g_iald G (r9.A 20 rfl) (by first | decide | omega) (r9.lt 20 19 rfl (by omega)) (by omega) ((r9.X 20 19 rfl rfl (by omega)).trans uA_s) dX9_unseal_96 ?_
  exact g_iret G F (⟨rfl, sX_k (by decide) hth2, b, h9, FB.X1 _ _ _ (fun k z => by unfold gCk at z; omega)⟩) (by omega) (by omega) dX9_unseal_97

set_option maxHeartbeats 4000000 in
set_option maxRecDepth 100000 in
theorem c_X9_unseal_no (d0 : Nat × Nat) (S : gS) (y : Nat) (b : Nat → Nat → Nat) (M : gM) (h : gRef S y b M) (i : gInv M) (e : Int32) (hno : ¬ gIx (mN M 17) e) : gCt d0 yX9_unseal cX9_unseal 2 (some .int) 10 1 12 [.ref y, .int e] S (gAn S y 1 M (some (.int (nI 0)))) gNo := by
  refine gCt_of (lo := [some (.ref y), some (.int e)]) (by decide +kernel) (Nat.le_of_ble_eq_true rfl) (rfl) ?_
  intro Γ hd G F hini
  first | refine g_aload_n G dX9_unseal_0 rfl ?_ | refine g_aload_nN G dX9_unseal_0 rfl ?_ | refine g_aload_nQ G dX9_unseal_0 rfl ?_
  refine g_iconst (v := nI 0) G dX9_unseal_1 (by decide) ?_
  refine g_putI G fl_X9_91 pu_10_0 (h.1.kd) (by first | decide | omega) rfl dX9_unseal_2 ?_
  have h0 := gRef_th (v := nI 0) h
  obtain ⟨r, q, -⟩ := id h0
  obtain ⟨i6, i8, i11, i17, i23, i2, i5⟩ := i.b
  first | refine g_aload_n G dX9_unseal_5 rfl ?_ | refine g_aload_nN G dX9_unseal_5 rfl ?_ | refine g_aload_nQ G dX9_unseal_5 rfl ?_
  refine g_iload_n G dX9_unseal_6 rfl ?_
  refine g_callVp (ci := 10) G (c_X9_isExhibit _ _ _ _ _ r i _) mt_X9_isExhibit mi_X9_isExhibit ml_X9_228 (r.kd) (by first | decide | omega) rfl (by decide) (by omega) (by omega) rfl (Nat.le_of_ble_eq_true rfl) dX9_unseal_7 ?_
  refine g_if_ne (tgt := 19) G dX9_unseal_10 (by decide) (fun c_10 => (absurd (gIxB_y c_10) hno)) (fun c_10 => ?_)
  first | refine g_aload_n G dX9_unseal_13 rfl ?_ | refine g_aload_nN G dX9_unseal_13 rfl ?_ | refine g_aload_nQ G dX9_unseal_13 rfl ?_
  refine g_iconst (v := nI 1) G dX9_unseal_14 (by decide) ?_
  refine g_callV (ci := 10) G (c_X9_no _ _ _ _ r.kd) mt_X9_no mi_X9_no ml_X9_113 (r.kd) (by first | decide | omega) rfl (by decide) (by omega) (by omega) rfl (Nat.le_of_ble_eq_true rfl) dX9_unseal_15 (fun v_15 S_15 hp_15 => ?_)
  obtain ⟨rfl, rfl⟩ := hp_15
  simp only [Option.toList, List.cons_append, List.nil_append]
  exact g_iret G F (gAn_N 1 h) (by omega) (by omega) dX9_unseal_18

set_option maxHeartbeats 4000000 in
set_option maxRecDepth 100000 in
theorem c_X9_unseal_no2 (d0 : Nat × Nat) (S : gS) (y : Nat) (b : Nat → Nat → Nat) (M : gM) (h : gRef S y b M) (i : gInv M) (e : Nat) (he : e < mN M 17) (hno : ¬ (¬ mA M 19 e < 0 ∧ mN M (200 + e) < 12)) : gCt d0 yX9_unseal cX9_unseal 2 (some .int) 10 1 12 [.ref y, .int (nI e)] S (gAn S y 2 M (some (.int (nI 0)))) gNo := by
  refine gCt_of (lo := [some (.ref y), some (.int (nI e))]) (by decide +kernel) (Nat.le_of_ble_eq_true rfl) (rfl) ?_
  intro Γ hd G F hini
  first | refine g_aload_n G dX9_unseal_0 rfl ?_ | refine g_aload_nN G dX9_unseal_0 rfl ?_ | refine g_aload_nQ G dX9_unseal_0 rfl ?_
  refine g_iconst (v := nI 0) G dX9_unseal_1 (by decide) ?_
  refine g_putI G fl_X9_91 pu_10_0 (h.1.kd) (by first | decide | omega) rfl dX9_unseal_2 ?_
  have h0 := gRef_th (v := nI 0) h
  obtain ⟨r, q, -⟩ := id h0
  obtain ⟨i6, i8, i11, i17, i23, i2, i5⟩ := i.b
  first | refine g_aload_n G dX9_unseal_5 rfl ?_ | refine g_aload_nN G dX9_unseal_5 rfl ?_ | refine g_aload_nQ G dX9_unseal_5 rfl ?_
  refine g_iload_n G dX9_unseal_6 rfl ?_
  refine g_callVp (ci := 10) G (c_X9_isExhibit _ _ _ _ _ r i _) mt_X9_isExhibit mi_X9_isExhibit ml_X9_228 (r.kd) (by first | decide | omega) rfl (by decide) (by omega) (by omega) rfl (Nat.le_of_ble_eq_true rfl) dX9_unseal_7 ?_
  refine g_if_ne (tgt := 19) G dX9_unseal_10 (by decide) (fun c_10 => ?_) (fun c_10 => (absurd c_10 (gIxB_ok he (by omega))))
  first | refine g_aload_n G dX9_unseal_19 rfl ?_ | refine g_aload_nN G dX9_unseal_19 rfl ?_ | refine g_aload_nQ G dX9_unseal_19 rfl ?_
  refine g_getR G fl_X9_49 (r.kd) (by first | decide | omega) rfl (r.Y 19 rfl) dX9_unseal_20 ?_
  refine g_iload_n G dX9_unseal_23 rfl ?_
  refine g_iald G (r.A 19 rfl) (by first | decide | omega) (r.lt 19 19 rfl (by omega)) (by omega) (r.X 19 19 rfl rfl (by omega)) dX9_unseal_24 ?_
  refine g_if_lt (tgt := 39) G dX9_unseal_25 (by decide) (fun c_25 => ?_) (fun c_25 => ?_)
  · first | refine g_aload_n G dX9_unseal_39 rfl ?_ | refine g_aload_nN G dX9_unseal_39 rfl ?_ | refine g_aload_nQ G dX9_unseal_39 rfl ?_
    refine g_iconst (v := nI 2) G dX9_unseal_40 (by decide) ?_
    refine g_callV (ci := 10) G (c_X9_no _ _ _ _ r.kd) mt_X9_no mi_X9_no ml_X9_113 (r.kd) (by first | decide | omega) rfl (by decide) (by omega) (by omega) rfl (Nat.le_of_ble_eq_true rfl) dX9_unseal_41 (fun v_41 S_41 hp_41 => ?_)
    obtain ⟨rfl, rfl⟩ := hp_41
    simp only [Option.toList, List.cons_append, List.nil_append]
    exact g_iret G F (gAn_N 2 h) (by omega) (by omega) dX9_unseal_44
  · first | refine g_aload_n G dX9_unseal_28 rfl ?_ | refine g_aload_nN G dX9_unseal_28 rfl ?_ | refine g_aload_nQ G dX9_unseal_28 rfl ?_
    refine g_getR G fl_X9_55 (r.kd) (by first | decide | omega) rfl (r.Y 21 rfl) dX9_unseal_29 ?_
    refine g_iload_n G dX9_unseal_32 rfl ?_
    refine g_iald G (r.A 21 rfl) (by first | decide | omega) (r.lt 21 19 rfl (by omega)) (by omega) ((show gX _ (17 + 32 * (10 + 21)) _ e = nI (mN M (200 + e)) from r.k (by omega))) dX9_unseal_33 ?_
    refine g_bipush (v := nI 12) G dX9_unseal_34 (by decide) ?_
    refine g_icmp_ne (tgt := 45) G dX9_unseal_36 (by decide) (fun c_36 => (absurd ⟨c_25, by
        have ie := i.e e
        have z : ¬ mN M (200 + e) = 12 := fun z => c_36 (by rw [z])
        omega⟩ hno)) (fun c_36 => ?_)
    first | refine g_aload_n G dX9_unseal_39 rfl ?_ | refine g_aload_nN G dX9_unseal_39 rfl ?_ | refine g_aload_nQ G dX9_unseal_39 rfl ?_
    refine g_iconst (v := nI 2) G dX9_unseal_40 (by decide) ?_
    refine g_callV (ci := 10) G (c_X9_no _ _ _ _ r.kd) mt_X9_no mi_X9_no ml_X9_113 (r.kd) (by first | decide | omega) rfl (by decide) (by omega) (by omega) rfl (Nat.le_of_ble_eq_true rfl) dX9_unseal_41 (fun v_41 S_41 hp_41 => ?_)
    obtain ⟨rfl, rfl⟩ := hp_41
    simp only [Option.toList, List.cons_append, List.nil_append]
    exact g_iret G F (gAn_N 2 h) (by omega) (by omega) dX9_unseal_44

set_option maxHeartbeats 4000000 in
set_option maxRecDepth 100000 in
theorem c_X9_hand (d0 : Nat × Nat) (S : gS) (y : Nat) (b : Nat → Nat → Nat) (M : gM) (h : gRef S y b M) (i : gInv M) (e : Nat) (t : Int32) (he : e < mN M 17) (ht : gPr M t) (ho : gHandOk M e t) : gCt d0 yX9_hand cX9_hand 3 (some .int) 10 1 14 [.ref y, .int (nI e), .int t] S (gAn S y 0 (mLink M e (nI (mN M 40)) (mA M 19 e) t (nI 0)) (some (.int (nI (mN M (200 + e) + 1))))) gNo := by
  refine gCt_of (lo := [some (.ref y), some (.int (nI e)), some (.int t)]) (by decide +kernel) (Nat.le_of_ble_eq_true rfl) (rfl) ?_
  intro Γ hd G F hini
  have ie := i.e e
  obtain ⟨kc, kc1, kc2⟩ := i.x he
  have ec : mE M e = kc := by rw [mE, kc2, nI_clamp (by have := i.b.1; omega)]
  first | refine g_aload_n G dX9_hand_0 rfl ?_ | refine g_aload_nN G dX9_hand_0 rfl ?_ | refine g_aload_nQ G dX9_hand_0 rfl ?_
  refine g_iconst (v := nI 0) G dX9_hand_1 (by decide) ?_
  refine g_putI G fl_X9_91 pu_10_0 (h.1.kd) (by first | decide | omega) rfl dX9_hand_2 ?_
  have h0 := gRef_th (v := nI 0) h
  obtain ⟨r, q, -⟩ := id h0
  obtain ⟨i6, i8, i11, i17, i23, i2, i5⟩ := i.b
  first | refine g_aload_n G dX9_hand_5 rfl ?_ | refine g_aload_nN G dX9_hand_5 rfl ?_ | refine g_aload_nQ G dX9_hand_5 rfl ?_
  refine g_iload_n G dX9_hand_6 rfl ?_
  refine g_callVp (ci := 10) G (c_X9_isExhibit _ _ _ _ _ r i _) mt_X9_isExhibit mi_X9_isExhibit ml_X9_228 (r.kd) (by first | decide | omega) rfl (by decide) (by omega) (by omega) rfl (Nat.le_of_ble_eq_true rfl) dX9_hand_7 ?_
  refine g_if_eq (tgt := 26) G dX9_hand_10 (by decide) (fun c_10 => (absurd c_10 (gIxB_ok he (by omega)))) (fun c_10 => ?_)
  refine g_iload_n G dX9_hand_13 rfl ?_
  refine g_iconst (v := (-1)) G dX9_hand_14 (by decide) ?_
  refine g_icmp_eq (tgt := 32) G dX9_hand_15 (by decide) (fun c_15 => ?_) (fun c_15 => ?_)
  · first | refine g_aload_n G dX9_hand_32 rfl ?_ | refine g_aload_nN G dX9_hand_32 rfl ?_ | refine g_aload_nQ G dX9_hand_32 rfl ?_
    refine g_getR G fl_X9_49 (r.kd) (by first | decide | omega) rfl (r.Y 19 rfl) dX9_hand_33 ?_
    refine g_iload_n G dX9_hand_36 rfl ?_
    refine g_iald G (r.A 19 rfl) (by first | decide | omega) (r.lt 19 19 rfl (by omega)) (by omega) (r.X 19 19 rfl rfl (by omega)) dX9_hand_37 ?_
    refine g_bipush (v := (-2)) G dX9_hand_38 (by decide) ?_
    refine g_icmp_eq (tgt := 64) G dX9_hand_40 (by decide) (fun c_40 => (absurd c_40 ho.1)) (fun c_40 => ?_)
    first | refine g_aload_n G dX9_hand_43 rfl ?_ | refine g_aload_nN G dX9_hand_43 rfl ?_ | refine g_aload_nQ G dX9_hand_43 rfl ?_
    refine g_getR G fl_X9_49 (r.kd) (by first | decide | omega) rfl (r.Y 19 rfl) dX9_hand_44 ?_
    refine g_iload_n G dX9_hand_47 rfl ?_
    refine g_iald G (r.A 19 rfl) (by first | decide | omega) (r.lt 19 19 rfl (by omega)) (by omega) (r.X 19 19 rfl rfl (by omega)) dX9_hand_48 ?_
    refine g_iload_n G dX9_hand_49 rfl ?_
    refine g_icmp_eq (tgt := 64) G dX9_hand_50 (by decide) (fun c_50 => (absurd c_50 ho.2.1)) (fun c_50 => ?_)
    first | refine g_aload_n G dX9_hand_53 rfl ?_ | refine g_aload_nN G dX9_hand_53 rfl ?_ | refine g_aload_nQ G dX9_hand_53 rfl ?_
    refine g_getR G fl_X9_55 (r.kd) (by first | decide | omega) rfl (r.Y 21 rfl) dX9_hand_54 ?_
    refine g_iload_n G dX9_hand_57 rfl ?_
    refine g_iald G (r.A 21 rfl) (by first | decide | omega) (r.lt 21 19 rfl (by omega)) (by omega) ((show gX _ (17 + 32 * (10 + 21)) _ e = nI (mN M (200 + e)) from r.k (by omega))) dX9_hand_58 ?_
    refine g_bipush (v := nI 12) G dX9_hand_59 (by decide) ?_
    refine g_icmp_ne (tgt := 70) G dX9_hand_61 (by decide) (fun c_61 => ?_) (fun c_61 => (absurd ((nI_eq (b := 12) (by omega) (by omega)).mp c_61) (by have := ho.2.2.1; omega)))
    refine g_iload_n G dX9_hand_70 rfl ?_
    refine g_iconst (v := (-1)) G dX9_hand_71 (by decide) ?_
    refine g_icmp_eq (tgt := 98) G dX9_hand_72 (by decide) (fun c_72 => ?_) (fun c_72 => ?_)
    · first | refine g_aload_n G dX9_hand_98 rfl ?_ | refine g_aload_nN G dX9_hand_98 rfl ?_ | refine g_aload_nQ G dX9_hand_98 rfl ?_
      refine g_iload_n G dX9_hand_99 rfl ?_
      first | refine g_aload_n G dX9_hand_100 rfl ?_ | refine g_aload_nN G dX9_hand_100 rfl ?_ | refine g_aload_nQ G dX9_hand_100 rfl ?_
      refine g_getR G fl_X9_49 (r.kd) (by first | decide | omega) rfl (r.Y 19 rfl) dX9_hand_101 ?_
      refine g_iload_n G dX9_hand_104 rfl ?_
      refine g_iald G (r.A 19 rfl) (by first | decide | omega) (r.lt 19 19 rfl (by omega)) (by omega) (r.X 19 19 rfl rfl (by omega)) dX9_hand_105 ?_
      refine g_iload_n G dX9_hand_106 rfl ?_
      refine g_iconst (v := nI 0) G dX9_hand_107 (by decide) ?_
      refine g_callV (ci := 10) G (c_X9_add _ _ _ _ _ h0 i _ _ _ _ (by omega) ho.2.2.1) mt_X9_add mi_X9_add ml_X9_231 (r.kd) (by first | decide | omega) rfl (by decide) (by omega) (by omega) rfl (Nat.le_of_ble_eq_true rfl) dX9_hand_108 (fun v_108 S_108 hp_108 => ?_)
      obtain ⟨rfl, hA, hth, FA⟩ := hp_108
      simp only [Option.toList, List.cons_append, List.nil_append]
      have hth2 := hth.trans sX_s
      have FB := gFr_th.tr (K := gCk) FA (fun _ z => ⟨z, z⟩)
      obtain ⟨rA, qA, -⟩ := id hA
      exact g_iret G F (⟨rfl, hth2, b, hA, FB⟩) (by omega) (by omega) dX9_hand_111
    · obtain ⟨p, hp, rfl⟩ := ht.resolve_left c_72
      have hin := ho.2.2.2 p hp rfl
      rw [ec] at hin
      first | refine g_aload_n G dX9_hand_75 rfl ?_ | refine g_aload_nN G dX9_hand_75 rfl ?_ | refine g_aload_nQ G dX9_hand_75 rfl ?_
      refine g_getR G fl_X9_75 (r.kd) (by first | decide | omega) rfl (r.st) dX9_hand_76 ?_
      refine g_iload_n G dX9_hand_79 rfl ?_
      first | refine g_aload_n G dX9_hand_80 rfl ?_ | refine g_aload_nN G dX9_hand_80 rfl ?_ | refine g_aload_nQ G dX9_hand_80 rfl ?_
      refine g_getR G fl_X9_46 (r.kd) (by first | decide | omega) rfl (r.Y 18 rfl) dX9_hand_81 ?_
      refine g_iload_n G dX9_hand_84 rfl ?_
      refine g_iald G (r.A 18 rfl) (by first | decide | omega) (r.lt 18 19 rfl (by omega)) (by omega) ((r.X 18 19 rfl rfl (by omega)).trans kc2) dX9_hand_85 ?_
      refine g_callVp (ci := 9) G (c_X8_isIn _ _ _ _ _ _ _ r q i _ _ (by omega) (by omega)) mt_X8_isIn mi_X8_isIn ml_X9_179 (q.kd) (by first | decide | omega) rfl (by decide) (by omega) (by omega) rfl (Nat.le_of_ble_eq_true rfl) dX9_hand_86 ?_
      refine g_if_ne (tgt := 98) G dX9_hand_89 (by decide) (fun c_89 => ?_) (fun c_89 => (absurd c_89 (gB_ne0.mpr (decide_eq_true hin))))
      first | refine g_aload_n G dX9_hand_98 rfl ?_ | refine g_aload_nN G dX9_hand_98 rfl ?_ | refine g_aload_nQ G dX9_hand_98 rfl ?_
      refine g_iload_n G dX9_hand_99 rfl ?_
      first | refine g_aload_n G dX9_hand_100 rfl ?_ | refine g_aload_nN G dX9_hand_100 rfl ?_ | refine g_aload_nQ G dX9_hand_100 rfl ?_
      refine g_getR G fl_X9_49 (r.kd) (by first | decide | omega) rfl (r.Y 19 rfl) dX9_hand_101 ?_
      refine g_iload_n G dX9_hand_104 rfl ?_
      refine g_iald G (r.A 19 rfl) (by first | decide | omega) (r.lt 19 19 rfl (by omega)) (by omega) (r.X 19 19 rfl rfl (by omega)) dX9_hand_105 ?_
      refine g_iload_n G dX9_hand_106 rfl ?_
      refine g_iconst (v := nI 0) G dX9_hand_107 (by decide) ?_
      refine g_callV (ci := 10) G (c_X9_add _ _ _ _ _ h0 i _ _ _ _ (by omega) ho.2.2.1) mt_X9_add mi_X9_add ml_X9_231 (r.kd) (by first | decide | omega) rfl (by decide) (by omega) (by omega) rfl (Nat.le_of_ble_eq_true rfl) dX9_hand_108 (fun v_108 S_108 hp_108 => ?_)
      obtain ⟨rfl, hA, hth, FA⟩ := hp_108
      simp only [Option.toList, List.cons_append, List.nil_append]
      have hth2 := hth.trans sX_s
      have FB := gFr_th.tr (K := gCk) FA (fun _ z => ⟨z, z⟩)
      obtain ⟨rA, qA, -⟩ := id hA
      exact g_iret G F (⟨rfl, hth2, b, hA, FB⟩) (by omega) (by omega) dX9_hand_111
  · first | refine g_aload_n G dX9_hand_18 rfl ?_ | refine g_aload_nN G dX9_hand_18 rfl ?_ | refine g_aload_nQ G dX9_hand_18 rfl ?_
    refine g_iload_n G dX9_hand_19 rfl ?_
    refine g_callVp (ci := 10) G (c_X9_isPerson _ _ _ _ _ r i _) mt_X9_isPerson mi_X9_isPerson ml_X9_176 (r.kd) (by first | decide | omega) rfl (by decide) (by omega) (by omega) rfl (Nat.le_of_ble_eq_true rfl) dX9_hand_20 ?_
    refine g_if_ne (tgt := 32) G dX9_hand_23 (by decide) (fun c_23 => ?_) (fun c_23 => (absurd c_23 ((ht.resolve_left c_15).elim fun p z => by rw [z.2]; exact gIxB_ok z.1 (by omega))))
    first | refine g_aload_n G dX9_hand_32 rfl ?_ | refine g_aload_nN G dX9_hand_32 rfl ?_ | refine g_aload_nQ G dX9_hand_32 rfl ?_
    refine g_getR G fl_X9_49 (r.kd) (by first | decide | omega) rfl (r.Y 19 rfl) dX9_hand_33 ?_
    refine g_iload_n G dX9_hand_36 rfl ?_
    refine g_iald G (r.A 19 rfl) (by first | decide | omega) (r.lt 19 19 rfl (by omega)) (by omega) (r.X 19 19 rfl rfl (by omega)) dX9_hand_37 ?_
    refine g_bipush (v := (-2)) G dX9_hand_38 (by decide) ?_
    refine g_icmp_eq (tgt := 64) G dX9_hand_40 (by decide) (fun c_40 => (absurd c_40 ho.1)) (fun c_40 => ?_)
    first | refine g_aload_n G dX9_hand_43 rfl ?_ | refine g_aload_nN G dX9_hand_43 rfl ?_ | refine g_aload_nQ G dX9_hand_43 rfl ?_
    refine g_getR G fl_X9_49 (r.kd) (by first | decide | omega) rfl (r.Y 19 rfl) dX9_hand_44 ?_
    refine g_iload_n G dX9_hand_47 rfl ?_
    refine g_iald G (r.A 19 rfl) (by first | decide | omega) (r.lt 19 19 rfl (by omega)) (by omega) (r.X 19 19 rfl rfl (by omega)) dX9_hand_48 ?_
    refine g_iload_n G dX9_hand_49 rfl ?_
    refine g_icmp_eq (tgt := 64) G dX9_hand_50 (by decide) (fun c_50 => (absurd c_50 ho.2.1)) (fun c_50 => ?_)
    first | refine g_aload_n G dX9_hand_53 rfl ?_ | refine g_aload_nN G dX9_hand_53 rfl ?_ | refine g_aload_nQ G dX9_hand_53 rfl ?_
    refine g_getR G fl_X9_55 (r.kd) (by first | decide | omega) rfl (r.Y 21 rfl) dX9_hand_54 ?_
    refine g_iload_n G dX9_hand_57 rfl ?_
    refine g_iald G (r.A 21 rfl) (by first | decide | omega) (r.lt 21 19 rfl (by omega)) (by omega) ((show gX _ (17 + 32 * (10 + 21)) _ e = nI (mN M (200 + e)) from r.k (by omega))) dX9_hand_58 ?_
    refine g_bipush (v := nI 12) G dX9_hand_59 (by decide) ?_
    refine g_icmp_ne (tgt := 70) G dX9_hand_61 (by decide) (fun c_61 => ?_) (fun c_61 => (absurd ((nI_eq (b := 12) (by omega) (by omega)).mp c_61) (by have := ho.2.2.1; omega)))
    refine g_iload_n G dX9_hand_70 rfl ?_
    refine g_iconst (v := (-1)) G dX9_hand_71 (by decide) ?_
    refine g_icmp_eq (tgt := 98) G dX9_hand_72 (by decide) (fun c_72 => ?_) (fun c_72 => ?_)
    · first | refine g_aload_n G dX9_hand_98 rfl ?_ | refine g_aload_nN G dX9_hand_98 rfl ?_ | refine g_aload_nQ G dX9_hand_98 rfl ?_
      refine g_iload_n G dX9_hand_99 rfl ?_
      first | refine g_aload_n G dX9_hand_100 rfl ?_ | refine g_aload_nN G dX9_hand_100 rfl ?_ | refine g_aload_nQ G dX9_hand_100 rfl ?_
      refine g_getR G fl_X9_49 (r.kd) (by first | decide | omega) rfl (r.Y 19 rfl) dX9_hand_101 ?_
      refine g_iload_n G dX9_hand_104 rfl ?_
      refine g_iald G (r.A 19 rfl) (by first | decide | omega) (r.lt 19 19 rfl (by omega)) (by omega) (r.X 19 19 rfl rfl (by omega)) dX9_hand_105 ?_
      refine g_iload_n G dX9_hand_106 rfl ?_
      refine g_iconst (v := nI 0) G dX9_hand_107 (by decide) ?_
      refine g_callV (ci := 10) G (c_X9_add _ _ _ _ _ h0 i _ _ _ _ (by omega) ho.2.2.1) mt_X9_add mi_X9_add ml_X9_231 (r.kd) (by first | decide | omega) rfl (by decide) (by omega) (by omega) rfl (Nat.le_of_ble_eq_true rfl) dX9_hand_108 (fun v_108 S_108 hp_108 => ?_)
      obtain ⟨rfl, hA, hth, FA⟩ := hp_108
      simp only [Option.toList, List.cons_append, List.nil_append]
      have hth2 := hth.trans sX_s
      have FB := gFr_th.tr (K := gCk) FA (fun _ z => ⟨z, z⟩)
      obtain ⟨rA, qA, -⟩ := id hA
      exact g_iret G F (⟨rfl, hth2, b, hA, FB⟩) (by omega) (by omega) dX9_hand_111
    · obtain ⟨p, hp, rfl⟩ := ht.resolve_left c_72
      have hin := ho.2.2.2 p hp rfl
      rw [ec] at hin
      first | refine g_aload_n G dX9_hand_75 rfl ?_ | refine g_aload_nN G dX9_hand_75 rfl ?_ | refine g_aload_nQ G dX9_hand_75 rfl ?_
      refine g_getR G fl_X9_75 (r.kd) (by first | decide | omega) rfl (r.st) dX9_hand_76 ?_
      refine g_iload_n G dX9_hand_79 rfl ?_
      first | refine g_aload_n G dX9_hand_80 rfl ?_ | refine g_aload_nN G dX9_hand_80 rfl ?_ | refine g_aload_nQ G dX9_hand_80 rfl ?_
      refine g_getR G fl_X9_46 (r.kd) (by first | decide | omega) rfl (r.Y 18 rfl) dX9_hand_81 ?_
      refine g_iload_n G dX9_hand_84 rfl ?_
      refine g_iald G (r.A 18 rfl) (by first | decide | omega) (r.lt 18 19 rfl (by omega)) (by omega) ((r.X 18 19 rfl rfl (by omega)).trans kc2) dX9_hand_85 ?_
      refine g_callVp (ci := 9) G (c_X8_isIn _ _ _ _ _ _ _ r q i _ _ (by omega) (by omega)) mt_X8_isIn mi_X8_isIn ml_X9_179 (q.kd) (by first | decide | omega) rfl (by decide) (by omega) (by omega) rfl (Nat.le_of_ble_eq_true rfl) dX9_hand_86 ?_
      refine g_if_ne (tgt := 98) G dX9_hand_89 (by decide) (fun c_89 => ?_) (fun c_89 => (absurd c_89 (gB_ne0.mpr (decide_eq_true hin))))
      first | refine g_aload_n G dX9_hand_98 rfl ?_ | refine g_aload_nN G dX9_hand_98 rfl ?_ | refine g_aload_nQ G dX9_hand_98 rfl ?_
      refine g_iload_n G dX9_hand_99 rfl ?_
      first | refine g_aload_n G dX9_hand_100 rfl ?_ | refine g_aload_nN G dX9_hand_100 rfl ?_ | refine g_aload_nQ G dX9_hand_100 rfl ?_
      refine g_getR G fl_X9_49 (r.kd) (by first | decide | omega) rfl (r.Y 19 rfl) dX9_hand_101 ?_
      refine g_iload_n G dX9_hand_104 rfl ?_
      refine g_iald G (r.A 19 rfl) (by first | decide | omega) (r.lt 19 19 rfl (by omega)) (by omega) (r.X 19 19 rfl rfl (by omega)) dX9_hand_105 ?_
      refine g_iload_n G dX9_hand_106 rfl ?_
      refine g_iconst (v := nI 0) G dX9_hand_107 (by decide) ?_
      refine g_callV (ci := 10) G (c_X9_add _ _ _ _ _ h0 i _ _ _ _ (by omega) ho.2.2.1) mt_X9_add mi_X9_add ml_X9_231 (r.kd) (by first | decide | omega) rfl (by decide) (by omega) (by omega) rfl (Nat.le_of_ble_eq_true rfl) dX9_hand_108 (fun v_108 S_108 hp_108 => ?_)
      obtain ⟨rfl, hA, hth, FA⟩ := hp_108
      simp only [Option.toList, List.cons_append, List.nil_append]
      have hth2 := hth.trans sX_s
      have FB := gFr_th.tr (K := gCk) FA (fun _ z => ⟨z, z⟩)
      obtain ⟨rA, qA, -⟩ := id hA
      exact g_iret G F (⟨rfl, hth2, b, hA, FB⟩) (by omega) (by omega) dX9_hand_111

set_option maxHeartbeats 4000000 in
set_option maxRecDepth 100000 in
theorem c_X9_hand_no (d0 : Nat × Nat) (S : gS) (y : Nat) (b : Nat → Nat → Nat) (M : gM) (h : gRef S y b M) (i : gInv M) (e t : Int32) (hno : ¬ (gIx (mN M 17) e ∧ gPr M t)) : gCt d0 yX9_hand cX9_hand 3 (some .int) 10 1 12 [.ref y, .int e, .int t] S (gAn S y 1 M (some (.int (nI 0)))) gNo := by
  refine gCt_of (lo := [some (.ref y), some (.int e), some (.int t)]) (by decide +kernel) (Nat.le_of_ble_eq_true rfl) (rfl) ?_
  intro Γ hd G F hini
  first | refine g_aload_n G dX9_hand_0 rfl ?_ | refine g_aload_nN G dX9_hand_0 rfl ?_ | refine g_aload_nQ G dX9_hand_0 rfl ?_
  refine g_iconst (v := nI 0) G dX9_hand_1 (by decide) ?_
  refine g_putI G fl_X9_91 pu_10_0 (h.1.kd) (by first | decide | omega) rfl dX9_hand_2 ?_
  have h0 := gRef_th (v := nI 0) h
  obtain ⟨r, q, -⟩ := id h0
  obtain ⟨i6, i8, i11, i17, i23, i2, i5⟩ := i.b
  first | refine g_aload_n G dX9_hand_5 rfl ?_ | refine g_aload_nN G dX9_hand_5 rfl ?_ | refine g_aload_nQ G dX9_hand_5 rfl ?_
  refine g_iload_n G dX9_hand_6 rfl ?_
  refine g_callVp (ci := 10) G (c_X9_isExhibit _ _ _ _ _ r i _) mt_X9_isExhibit mi_X9_isExhibit ml_X9_228 (r.kd) (by first | decide | omega) rfl (by decide) (by omega) (by omega) rfl (Nat.le_of_ble_eq_true rfl) dX9_hand_7 ?_
  refine g_if_eq (tgt := 26) G dX9_hand_10 (by decide) (fun c_10 => ?_) (fun c_10 => ?_)
  · first | refine g_aload_n G dX9_hand_26 rfl ?_ | refine g_aload_nN G dX9_hand_26 rfl ?_ | refine g_aload_nQ G dX9_hand_26 rfl ?_
    refine g_iconst (v := nI 1) G dX9_hand_27 (by decide) ?_
    refine g_callV (ci := 10) G (c_X9_no _ _ _ _ r.kd) mt_X9_no mi_X9_no ml_X9_113 (r.kd) (by first | decide | omega) rfl (by decide) (by omega) (by omega) rfl (Nat.le_of_ble_eq_true rfl) dX9_hand_28 (fun v_28 S_28 hp_28 => ?_)
    obtain ⟨rfl, rfl⟩ := hp_28
    simp only [Option.toList, List.cons_append, List.nil_append]
    exact g_iret G F (gAn_N 1 h) (by omega) (by omega) dX9_hand_31
  · refine g_iload_n G dX9_hand_13 rfl ?_
    refine g_iconst (v := (-1)) G dX9_hand_14 (by decide) ?_
    refine g_icmp_eq (tgt := 32) G dX9_hand_15 (by decide) (fun c_15 => (absurd ⟨gIxB_y c_10, Or.inl c_15⟩ hno)) (fun c_15 => ?_)
    first | refine g_aload_n G dX9_hand_18 rfl ?_ | refine g_aload_nN G dX9_hand_18 rfl ?_ | refine g_aload_nQ G dX9_hand_18 rfl ?_
    refine g_iload_n G dX9_hand_19 rfl ?_
    refine g_callVp (ci := 10) G (c_X9_isPerson _ _ _ _ _ r i _) mt_X9_isPerson mi_X9_isPerson ml_X9_176 (r.kd) (by first | decide | omega) rfl (by decide) (by omega) (by omega) rfl (Nat.le_of_ble_eq_true rfl) dX9_hand_20 ?_
    refine g_if_ne (tgt := 32) G dX9_hand_23 (by decide) (fun c_23 => (absurd ⟨gIxB_y c_10, Or.inr (gIx_of (gIxB_y c_23) (by omega))⟩ hno)) (fun c_23 => ?_)
    first | refine g_aload_n G dX9_hand_26 rfl ?_ | refine g_aload_nN G dX9_hand_26 rfl ?_ | refine g_aload_nQ G dX9_hand_26 rfl ?_
    refine g_iconst (v := nI 1) G dX9_hand_27 (by decide) ?_
    refine g_callV (ci := 10) G (c_X9_no _ _ _ _ r.kd) mt_X9_no mi_X9_no ml_X9_113 (r.kd) (by first | decide | omega) rfl (by decide) (by omega) (by omega) rfl (Nat.le_of_ble_eq_true rfl) dX9_hand_28 (fun v_28 S_28 hp_28 => ?_)
    obtain ⟨rfl, rfl⟩ := hp_28
    simp only [Option.toList, List.cons_append, List.nil_append]
    exact g_iret G F (gAn_N 1 h) (by omega) (by omega) dX9_hand_31

set_option maxHeartbeats 4000000 in
set_option maxRecDepth 100000 in
theorem c_X9_hand_no2 (d0 : Nat × Nat) (S : gS) (y : Nat) (b : Nat → Nat → Nat) (M : gM) (h : gRef S y b M) (i : gInv M) (e : Nat) (t : Int32) (he : e < mN M 17) (ht : gPr M t) (hno : ¬ gHandOk M e t) : gCt d0 yX9_hand cX9_hand 3 (some .int) 10 1 12 [.ref y, .int (nI e), .int t] S (gAn S y 2 M (some (.int (nI 0)))) gNo := by
  refine gCt_of (lo := [some (.ref y), some (.int (nI e)), some (.int t)]) (by decide +kernel) (Nat.le_of_ble_eq_true rfl) (rfl) ?_
  intro Γ hd G F hini
  have ie := i.e e
  obtain ⟨kc, kc1, kc2⟩ := i.x he
  have ec : mE M e = kc := by rw [mE, kc2, nI_clamp (by have := i.b.1; omega)]
  first | refine g_aload_n G dX9_hand_0 rfl ?_ | refine g_aload_nN G dX9_hand_0 rfl ?_ | refine g_aload_nQ G dX9_hand_0 rfl ?_
  refine g_iconst (v := nI 0) G dX9_hand_1 (by decide) ?_
  refine g_putI G fl_X9_91 pu_10_0 (h.1.kd) (by first | decide | omega) rfl dX9_hand_2 ?_
  have h0 := gRef_th (v := nI 0) h
  obtain ⟨r, q, -⟩ := id h0
  obtain ⟨i6, i8, i11, i17, i23, i2, i5⟩ := i.b
  first | refine g_aload_n G dX9_hand_5 rfl ?_ | refine g_aload_nN G dX9_hand_5 rfl ?_ | refine g_aload_nQ G dX9_hand_5 rfl ?_
  refine g_iload_n G dX9_hand_6 rfl ?_
  refine g_callVp (ci := 10) G (c_X9_isExhibit _ _ _ _ _ r i _) mt_X9_isExhibit mi_X9_isExhibit ml_X9_228 (r.kd) (by first | decide | omega) rfl (by decide) (by omega) (by omega) rfl (Nat.le_of_ble_eq_true rfl) dX9_hand_7 ?_
  refine g_if_eq (tgt := 26) G dX9_hand_10 (by decide) (fun c_10 => (absurd c_10 (gIxB_ok he (by omega)))) (fun c_10 => ?_)
  refine g_iload_n G dX9_hand_13 rfl ?_
  refine g_iconst (v := (-1)) G dX9_hand_14 (by decide) ?_
  refine g_icmp_eq (tgt := 32) G dX9_hand_15 (by decide) (fun c_15 => ?_) (fun c_15 => ?_)
  · first | refine g_aload_n G dX9_hand_32 rfl ?_ | refine g_aload_nN G dX9_hand_32 rfl ?_ | refine g_aload_nQ G dX9_hand_32 rfl ?_
    refine g_getR G fl_X9_49 (r.kd) (by first | decide | omega) rfl (r.Y 19 rfl) dX9_hand_33 ?_
    refine g_iload_n G dX9_hand_36 rfl ?_
    refine g_iald G (r.A 19 rfl) (by first | decide | omega) (r.lt 19 19 rfl (by omega)) (by omega) (r.X 19 19 rfl rfl (by omega)) dX9_hand_37 ?_
    refine g_bipush (v := (-2)) G dX9_hand_38 (by decide) ?_
    refine g_icmp_eq (tgt := 64) G dX9_hand_40 (by decide) (fun c_40 => ?_) (fun c_40 => ?_)
    · first | refine g_aload_n G dX9_hand_64 rfl ?_ | refine g_aload_nN G dX9_hand_64 rfl ?_ | refine g_aload_nQ G dX9_hand_64 rfl ?_
      refine g_iconst (v := nI 2) G dX9_hand_65 (by decide) ?_
      refine g_callV (ci := 10) G (c_X9_no _ _ _ _ r.kd) mt_X9_no mi_X9_no ml_X9_113 (r.kd) (by first | decide | omega) rfl (by decide) (by omega) (by omega) rfl (Nat.le_of_ble_eq_true rfl) dX9_hand_66 (fun v_66 S_66 hp_66 => ?_)
      obtain ⟨rfl, rfl⟩ := hp_66
      simp only [Option.toList, List.cons_append, List.nil_append]
      exact g_iret G F (gAn_N 2 h) (by omega) (by omega) dX9_hand_69
    · first | refine g_aload_n G dX9_hand_43 rfl ?_ | refine g_aload_nN G dX9_hand_43 rfl ?_ | refine g_aload_nQ G dX9_hand_43 rfl ?_
      refine g_getR G fl_X9_49 (r.kd) (by first | decide | omega) rfl (r.Y 19 rfl) dX9_hand_44 ?_
      refine g_iload_n G dX9_hand_47 rfl ?_
      refine g_iald G (r.A 19 rfl) (by first | decide | omega) (r.lt 19 19 rfl (by omega)) (by omega) (r.X 19 19 rfl rfl (by omega)) dX9_hand_48 ?_
      refine g_iload_n G dX9_hand_49 rfl ?_
      refine g_icmp_eq (tgt := 64) G dX9_hand_50 (by decide) (fun c_50 => ?_) (fun c_50 => ?_)
      · first | refine g_aload_n G dX9_hand_64 rfl ?_ | refine g_aload_nN G dX9_hand_64 rfl ?_ | refine g_aload_nQ G dX9_hand_64 rfl ?_
        refine g_iconst (v := nI 2) G dX9_hand_65 (by decide) ?_
        refine g_callV (ci := 10) G (c_X9_no _ _ _ _ r.kd) mt_X9_no mi_X9_no ml_X9_113 (r.kd) (by first | decide | omega) rfl (by decide) (by omega) (by omega) rfl (Nat.le_of_ble_eq_true rfl) dX9_hand_66 (fun v_66 S_66 hp_66 => ?_)
        obtain ⟨rfl, rfl⟩ := hp_66
        simp only [Option.toList, List.cons_append, List.nil_append]
        exact g_iret G F (gAn_N 2 h) (by omega) (by omega) dX9_hand_69
      · first | refine g_aload_n G dX9_hand_53 rfl ?_ | refine g_aload_nN G dX9_hand_53 rfl ?_ | refine g_aload_nQ G dX9_hand_53 rfl ?_
        refine g_getR G fl_X9_55 (r.kd) (by first | decide | omega) rfl (r.Y 21 rfl) dX9_hand_54 ?_
        refine g_iload_n G dX9_hand_57 rfl ?_
        refine g_iald G (r.A 21 rfl) (by first | decide | omega) (r.lt 21 19 rfl (by omega)) (by omega) ((show gX _ (17 + 32 * (10 + 21)) _ e = nI (mN M (200 + e)) from r.k (by omega))) dX9_hand_58 ?_
        refine g_bipush (v := nI 12) G dX9_hand_59 (by decide) ?_
        refine g_icmp_ne (tgt := 70) G dX9_hand_61 (by decide) (fun c_61 => ?_) (fun c_61 => ?_)
        · refine g_iload_n G dX9_hand_70 rfl ?_
          refine g_iconst (v := (-1)) G dX9_hand_71 (by decide) ?_
          refine g_icmp_eq (tgt := 98) G dX9_hand_72 (by decide) (fun c_72 => (absurd ⟨c_40, c_50, by
              have ie := i.e e
              have z : ¬ mN M (200 + e) = 12 := fun z => c_61 (by rw [z])
              omega, fun p hp z => absurd (show nI p < 0 by rw [← z, c_72]; decide) (nI_pos (by omega))⟩ hno)) (fun c_72 => ?_)
          obtain ⟨p1, hp1, rfl⟩ := ht.resolve_left c_72
          first | refine g_aload_n G dX9_hand_75 rfl ?_ | refine g_aload_nN G dX9_hand_75 rfl ?_ | refine g_aload_nQ G dX9_hand_75 rfl ?_
          refine g_getR G fl_X9_75 (r.kd) (by first | decide | omega) rfl (r.st) dX9_hand_76 ?_
          refine g_iload_n G dX9_hand_79 rfl ?_
          first | refine g_aload_n G dX9_hand_80 rfl ?_ | refine g_aload_nN G dX9_hand_80 rfl ?_ | refine g_aload_nQ G dX9_hand_80 rfl ?_
          refine g_getR G fl_X9_46 (r.kd) (by first | decide | omega) rfl (r.Y 18 rfl) dX9_hand_81 ?_
          refine g_iload_n G dX9_hand_84 rfl ?_
          refine g_iald G (r.A 18 rfl) (by first | decide | omega) (r.lt 18 19 rfl (by omega)) (by omega) ((r.X 18 19 rfl rfl (by omega)).trans kc2) dX9_hand_85 ?_
          refine g_callVp (ci := 9) G (c_X8_isIn _ _ _ _ _ _ _ r q i _ _ (by omega) (by omega)) mt_X8_isIn mi_X8_isIn ml_X9_179 (q.kd) (by first | decide | omega) rfl (by decide) (by omega) (by omega) rfl (Nat.le_of_ble_eq_true rfl) dX9_hand_86 ?_
          refine g_if_ne (tgt := 98) G dX9_hand_89 (by decide) (fun c_89 => (absurd ⟨c_40, c_50, by
              have ie := i.e e
              have z : ¬ mN M (200 + e) = 12 := fun z => c_61 (by rw [z])
              omega, fun p hp z => by
                rw [ec, ← (nI_eq (by omega) (by omega)).mp z]
                exact of_decide_eq_true (gB_ne0.mp c_89)⟩ hno)) (fun c_89 => ?_)
          first | refine g_aload_n G dX9_hand_92 rfl ?_ | refine g_aload_nN G dX9_hand_92 rfl ?_ | refine g_aload_nQ G dX9_hand_92 rfl ?_
          refine g_iconst (v := nI 2) G dX9_hand_93 (by decide) ?_
          refine g_callV (ci := 10) G (c_X9_no _ _ _ _ r.kd) mt_X9_no mi_X9_no ml_X9_113 (r.kd) (by first | decide | omega) rfl (by decide) (by omega) (by omega) rfl (Nat.le_of_ble_eq_true rfl) dX9_hand_94 (fun v_94 S_94 hp_94 => ?_)
          obtain ⟨rfl, rfl⟩ := hp_94
          simp only [Option.toList, List.cons_append, List.nil_append]
          exact g_iret G F (gAn_N 2 h) (by omega) (by omega) dX9_hand_97
        · first | refine g_aload_n G dX9_hand_64 rfl ?_ | refine g_aload_nN G dX9_hand_64 rfl ?_ | refine g_aload_nQ G dX9_hand_64 rfl ?_
          refine g_iconst (v := nI 2) G dX9_hand_65 (by decide) ?_
          refine g_callV (ci := 10) G (c_X9_no _ _ _ _ r.kd) mt_X9_no mi_X9_no ml_X9_113 (r.kd) (by first | decide | omega) rfl (by decide) (by omega) (by omega) rfl (Nat.le_of_ble_eq_true rfl) dX9_hand_66 (fun v_66 S_66 hp_66 => ?_)
          obtain ⟨rfl, rfl⟩ := hp_66
          simp only [Option.toList, List.cons_append, List.nil_append]
          exact g_iret G F (gAn_N 2 h) (by omega) (by omega) dX9_hand_69
  · first | refine g_aload_n G dX9_hand_18 rfl ?_ | refine g_aload_nN G dX9_hand_18 rfl ?_ | refine g_aload_nQ G dX9_hand_18 rfl ?_
    refine g_iload_n G dX9_hand_19 rfl ?_
    refine g_callVp (ci := 10) G (c_X9_isPerson _ _ _ _ _ r i _) mt_X9_isPerson mi_X9_isPerson ml_X9_176 (r.kd) (by first | decide | omega) rfl (by decide) (by omega) (by omega) rfl (Nat.le_of_ble_eq_true rfl) dX9_hand_20 ?_
    refine g_if_ne (tgt := 32) G dX9_hand_23 (by decide) (fun c_23 => ?_) (fun c_23 => (absurd c_23 ((ht.resolve_left c_15).elim fun p z => by rw [z.2]; exact gIxB_ok z.1 (by omega))))
    first | refine g_aload_n G dX9_hand_32 rfl ?_ | refine g_aload_nN G dX9_hand_32 rfl ?_ | refine g_aload_nQ G dX9_hand_32 rfl ?_
    refine g_getR G fl_X9_49 (r.kd) (by first | decide | omega) rfl (r.Y 19 rfl) dX9_hand_33 ?_
    refine g_iload_n G dX9_hand_36 rfl ?_
    refine g_iald G (r.A 19 rfl) (by first | decide | omega) (r.lt 19 19 rfl (by omega)) (by omega) (r.X 19 19 rfl rfl (by omega)) dX9_hand_37 ?_
    refine g_bipush (v := (-2)) G dX9_hand_38 (by decide) ?_
    refine g_icmp_eq (tgt := 64) G dX9_hand_40 (by decide) (fun c_40 => ?_) (fun c_40 => ?_)
    · first | refine g_aload_n G dX9_hand_64 rfl ?_ | refine g_aload_nN G dX9_hand_64 rfl ?_ | refine g_aload_nQ G dX9_hand_64 rfl ?_
      refine g_iconst (v := nI 2) G dX9_hand_65 (by decide) ?_
      refine g_callV (ci := 10) G (c_X9_no _ _ _ _ r.kd) mt_X9_no mi_X9_no ml_X9_113 (r.kd) (by first | decide | omega) rfl (by decide) (by omega) (by omega) rfl (Nat.le_of_ble_eq_true rfl) dX9_hand_66 (fun v_66 S_66 hp_66 => ?_)
      obtain ⟨rfl, rfl⟩ := hp_66
      simp only [Option.toList, List.cons_append, List.nil_append]
      exact g_iret G F (gAn_N 2 h) (by omega) (by omega) dX9_hand_69
    · first | refine g_aload_n G dX9_hand_43 rfl ?_ | refine g_aload_nN G dX9_hand_43 rfl ?_ | refine g_aload_nQ G dX9_hand_43 rfl ?_
      refine g_getR G fl_X9_49 (r.kd) (by first | decide | omega) rfl (r.Y 19 rfl) dX9_hand_44 ?_
      refine g_iload_n G dX9_hand_47 rfl ?_
      refine g_iald G (r.A 19 rfl) (by first | decide | omega) (r.lt 19 19 rfl (by omega)) (by omega) (r.X 19 19 rfl rfl (by omega)) dX9_hand_48 ?_
      refine g_iload_n G dX9_hand_49 rfl ?_
      refine g_icmp_eq (tgt := 64) G dX9_hand_50 (by decide) (fun c_50 => ?_) (fun c_50 => ?_)
      · first | refine g_aload_n G dX9_hand_64 rfl ?_ | refine g_aload_nN G dX9_hand_64 rfl ?_ | refine g_aload_nQ G dX9_hand_64 rfl ?_
        refine g_iconst (v := nI 2) G dX9_hand_65 (by decide) ?_
        refine g_callV (ci := 10) G (c_X9_no _ _ _ _ r.kd) mt_X9_no mi_X9_no ml_X9_113 (r.kd) (by first | decide | omega) rfl (by decide) (by omega) (by omega) rfl (Nat.le_of_ble_eq_true rfl) dX9_hand_66 (fun v_66 S_66 hp_66 => ?_)
        obtain ⟨rfl, rfl⟩ := hp_66
        simp only [Option.toList, List.cons_append, List.nil_append]
        exact g_iret G F (gAn_N 2 h) (by omega) (by omega) dX9_hand_69
      · first | refine g_aload_n G dX9_hand_53 rfl ?_ | refine g_aload_nN G dX9_hand_53 rfl ?_ | refine g_aload_nQ G dX9_hand_53 rfl ?_
        refine g_getR G fl_X9_55 (r.kd) (by first | decide | omega) rfl (r.Y 21 rfl) dX9_hand_54 ?_
        refine g_iload_n G dX9_hand_57 rfl ?_
        refine g_iald G (r.A 21 rfl) (by first | decide | omega) (r.lt 21 19 rfl (by omega)) (by omega) ((show gX _ (17 + 32 * (10 + 21)) _ e = nI (mN M (200 + e)) from r.k (by omega))) dX9_hand_58 ?_
        refine g_bipush (v := nI 12) G dX9_hand_59 (by decide) ?_
        refine g_icmp_ne (tgt := 70) G dX9_hand_61 (by decide) (fun c_61 => ?_) (fun c_61 => ?_)
        · refine g_iload_n G dX9_hand_70 rfl ?_
          refine g_iconst (v := (-1)) G dX9_hand_71 (by decide) ?_
          refine g_icmp_eq (tgt := 98) G dX9_hand_72 (by decide) (fun c_72 => (absurd ⟨c_40, c_50, by
              have ie := i.e e
              have z : ¬ mN M (200 + e) = 12 := fun z => c_61 (by rw [z])
              omega, fun p hp z => absurd (show nI p < 0 by rw [← z, c_72]; decide) (nI_pos (by omega))⟩ hno)) (fun c_72 => ?_)
          obtain ⟨p1, hp1, rfl⟩ := ht.resolve_left c_72
          first | refine g_aload_n G dX9_hand_75 rfl ?_ | refine g_aload_nN G dX9_hand_75 rfl ?_ | refine g_aload_nQ G dX9_hand_75 rfl ?_
          refine g_getR G fl_X9_75 (r.kd) (by first | decide | omega) rfl (r.st) dX9_hand_76 ?_
          refine g_iload_n G dX9_hand_79 rfl ?_
          first | refine g_aload_n G dX9_hand_80 rfl ?_ | refine g_aload_nN G dX9_hand_80 rfl ?_ | refine g_aload_nQ G dX9_hand_80 rfl ?_
          refine g_getR G fl_X9_46 (r.kd) (by first | decide | omega) rfl (r.Y 18 rfl) dX9_hand_81 ?_
          refine g_iload_n G dX9_hand_84 rfl ?_
          refine g_iald G (r.A 18 rfl) (by first | decide | omega) (r.lt 18 19 rfl (by omega)) (by omega) ((r.X 18 19 rfl rfl (by omega)).trans kc2) dX9_hand_85 ?_
          refine g_callVp (ci := 9) G (c_X8_isIn _ _ _ _ _ _ _ r q i _ _ (by omega) (by omega)) mt_X8_isIn mi_X8_isIn ml_X9_179 (q.kd) (by first | decide | omega) rfl (by decide) (by omega) (by omega) rfl (Nat.le_of_ble_eq_true rfl) dX9_hand_86 ?_
          refine g_if_ne (tgt := 98) G dX9_hand_89 (by decide) (fun c_89 => (absurd ⟨c_40, c_50, by
              have ie := i.e e
              have z : ¬ mN M (200 + e) = 12 := fun z => c_61 (by rw [z])
              omega, fun p hp z => by
                rw [ec, ← (nI_eq (by omega) (by omega)).mp z]
                exact of_decide_eq_true (gB_ne0.mp c_89)⟩ hno)) (fun c_89 => ?_)
          first | refine g_aload_n G dX9_hand_92 rfl ?_ | refine g_aload_nN G dX9_hand_92 rfl ?_ | refine g_aload_nQ G dX9_hand_92 rfl ?_
          refine g_iconst (v := nI 2) G dX9_hand_93 (by decide) ?_
          refine g_callV (ci := 10) G (c_X9_no _ _ _ _ r.kd) mt_X9_no mi_X9_no ml_X9_113 (r.kd) (by first | decide | omega) rfl (by decide) (by omega) (by omega) rfl (Nat.le_of_ble_eq_true rfl) dX9_hand_94 (fun v_94 S_94 hp_94 => ?_)
          obtain ⟨rfl, rfl⟩ := hp_94
          simp only [Option.toList, List.cons_append, List.nil_append]
          exact g_iret G F (gAn_N 2 h) (by omega) (by omega) dX9_hand_97
        · first | refine g_aload_n G dX9_hand_64 rfl ?_ | refine g_aload_nN G dX9_hand_64 rfl ?_ | refine g_aload_nQ G dX9_hand_64 rfl ?_
          refine g_iconst (v := nI 2) G dX9_hand_65 (by decide) ?_
          refine g_callV (ci := 10) G (c_X9_no _ _ _ _ r.kd) mt_X9_no mi_X9_no ml_X9_113 (r.kd) (by first | decide | omega) rfl (by decide) (by omega) (by omega) rfl (Nat.le_of_ble_eq_true rfl) dX9_hand_66 (fun v_66 S_66 hp_66 => ?_)
          obtain ⟨rfl, rfl⟩ := hp_66
          simp only [Option.toList, List.cons_append, List.nil_append]
          exact g_iret G F (gAn_N 2 h) (by omega) (by omega) dX9_hand_69
