/-! ===== unseal, found, takeIn, send ===== -/
def gNum (M : gM) (e : Nat) : Int32 := (mA M 20 e * nI 31 + nI (mN M 40)) - (mA M 20 e * nI 31 + nI (mN M 40)) / nI 10007 * nI 10007
def mUnseal (M : gM) (e : Nat) : gM := uA (mLink M e (nI (mN M 40)) (mA M 19 e) (mA M 19 e) (nI 2)) 20 e (gNum M e)
theorem gRf_lt {ad : Nat → Nat → Nat} {v : Int32} : gRf ad v = none ↔ v < 0 := by
  unfold gRf
  split
  · next h => exact ⟨fun _ => h, fun _ => rfl⟩
  · next h => exact ⟨fun z => (by cases z), fun z => absurd z h⟩
theorem gPr_of {M : gM} {v : Int32} (h : gWho M v) (h2 : ¬ v < 0) : ∃ p, p < mN M 8 ∧ v = nI p := by
  rcases h with rfl | rfl | h
  · exact absurd (by decide) h2
  · exact absurd (by decide) h2
  · exact h

set_option maxHeartbeats 4000000 in
set_option maxRecDepth 100000 in
theorem c_X7_unseal (d0 : Nat × Nat) (S : gS) (x : Nat) (ad : Nat → Nat → Nat) (M : gM) (h : gMail d0 S x ad M) (i : Int32) : gCt d0 yX7_unseal cX7_unseal 3 (some .int) 10 2 120 [.ref x, .int i] S (fun v' S' => ∃ e, e < mN M 17 ∧ i = nI e ∧ (¬ mA M 19 e < 0 ∧ mN M (200 + e) < 12) ∧ v' = some (.int (gNum M e)) ∧ gTo d0 x S S' (mUnseal M e)) (fun E S' => S' = S ∧ ((E = "java/lang/IndexOutOfBoundsException" ∧ ¬ gIx (mN M 17) i) ∨ (E = "java/lang/IllegalStateException" ∧ ∃ e, e < mN M 17 ∧ i = nI e ∧ ¬ (¬ mA M 19 e < 0 ∧ mN M (200 + e) < 12)))) := by
  refine gCt_of (lo := [some (.ref x), some (.int i), none]) (by decide +kernel) (Nat.le_of_ble_eq_true rfl) (rfl) ?_
  intro Γ hd G F hini
  obtain ⟨⟨r1, ⟨ra, rb, rc, rd, re⟩, rt, rtl, rp, rpl, rdr, rep, rday⟩, ⟨l0, l1, l2, l3, l4⟩, ht, hcs, hps, hds, hes, hls⟩ := id h
  subst hd
  by_cases h_e : gIx (mN M 17) i
  · obtain ⟨e, he, rfl⟩ := gIx_of h_e (by have := l3.2.2.1; omega)
    obtain ⟨k1, k2, ⟨kc, kc1, kc2, kc3⟩, ⟨k4, k5, k6, k7, kw⟩, k8, k9, k10⟩ := hes e he
    have hN1 := l1.2.2.1
    have hN3 := l3.2.2.1
    first | refine g_aload_n G dX7_unseal_0 rfl ?_ | refine g_aload_nN G dX7_unseal_0 rfl ?_ | refine g_aload_nQ G dX7_unseal_0 rfl ?_
    refine g_iload_n G dX7_unseal_1 rfl ?_
    refine g_callVp (ci := 8) G (c_exhibitAt _ S x ad M h e he) mt_X7_exhibitAt mi_X7_exhibitAt ml_X7_246 (by assumption) (by first | decide | omega) rfl (by decide) (by omega) (by omega) rfl (Nat.le_of_ble_eq_true rfl) dX7_unseal_2 ?_
    first | refine g_astore_n G dX7_unseal_5 (gSt_2 (by first | rfl | exact g_c1_rf)) ?_ | refine g_astore_nN G dX7_unseal_5 (gSt_2 (by first | rfl | exact g_c1_rf)) ?_ | refine g_astore_nQ G dX7_unseal_5 (gSt_2 (by first | rfl | exact g_c1_rf)) ?_
    first | refine g_aload_n G dX7_unseal_6 rfl ?_ | refine g_aload_nN G dX7_unseal_6 rfl ?_ | refine g_aload_nQ G dX7_unseal_6 rfl ?_
    refine g_ifnonnull (tgt := 21) G dX7_unseal_7 (by decide) ?_
    first | refine g_aload_n G dX7_unseal_21 rfl ?_ | refine g_aload_nN G dX7_unseal_21 rfl ?_ | refine g_aload_nQ G dX7_unseal_21 rfl ?_
    refine g_getQ G fl_X7_256 (by assumption) (by first | decide | omega) rfl (k4) dX7_unseal_22 ?_
    refine g_ifnullQ (tgt := 35) G dX7_unseal_25 (by decide) (fun c_25 => ?_) (fun q_25 c_25 => ?_)
    · have hno : ¬ (¬ mA M 19 e < 0 ∧ mN M (200 + e) < 12) := fun z => z.1 (gRf_lt.mp c_25)
      exact g_throwW (names := nm_ISE) G F tf_ISE cl_X7_55 ti_ISE st_X7_283 ta_ISE dX7_unseal_35 (by exact dX7_unseal_38) (by exact dX7_unseal_39) (by exact dX7_unseal_42) (by exact dX7_unseal_45) (by decide) (Nat.le_of_ble_eq_true rfl) (by omega) (by omega) (⟨rfl, Or.inr ⟨rfl, e, he, rfl, hno⟩⟩)
    · have e0 : ¬ mA M 19 e < 0 := fun z => by rw [gRf_lt.mpr z] at c_25; cases c_25
      obtain ⟨p, hp, ep⟩ := gPr_of kw e0
      have kw2 : gPr M (mA M 19 e) := Or.inr ⟨p, hp, ep⟩
      first | refine g_aload_n G dX7_unseal_28 rfl ?_ | refine g_aload_nN G dX7_unseal_28 rfl ?_ | refine g_aload_nQ G dX7_unseal_28 rfl ?_
      refine g_callVp (ci := 4) G (c_X3_hasFullChain _ S x ad M h e he) mt_X3_hasFullChain mi_X3_hasFullChain ml_X7_257 (by assumption) (by first | decide | omega) rfl (by decide) (by omega) (by omega) rfl (Nat.le_of_ble_eq_true rfl) dX7_unseal_29 ?_
      refine g_if_eq (tgt := 46) G dX7_unseal_32 (by decide) (fun c_32 => ?_) (fun c_32 => ?_)
      · have hk : mN M (200 + e) < 12 := by have := of_decide_eq_false (gB_eq0.mp c_32); omega
        first | refine g_aload_n G dX7_unseal_46 rfl ?_ | refine g_aload_nN G dX7_unseal_46 rfl ?_ | refine g_aload_nQ G dX7_unseal_46 rfl ?_
        refine g_new (N := 4) (κ := (7 + 32 * (12 * e + mN M (200 + e)))) G nw_X7_269 (by first | decide | omega) rfl (by omega) (by omega) dX7_unseal_47 (fun q_47 hq_47 => ?_)
        have F1 := gFr_N (S := S) (7 + 32 * (12 * e + mN M (200 + e))) hq_47
        refine g_dup G dX7_unseal_50 rfl ?_
        first | refine g_aload_n G dX7_unseal_51 rfl ?_ | refine g_aload_nN G dX7_unseal_51 rfl ?_ | refine g_aload_nQ G dX7_unseal_51 rfl ?_
        refine g_getI G fl_X7_52 (F1.K r1 (by decide)) (by first | decide | omega) rfl (F1.X (by first | omega | (dsimp only; omega)) rday) dX7_unseal_52 ?_
        first | refine g_aload_n G dX7_unseal_55 rfl ?_ | refine g_aload_nN G dX7_unseal_55 rfl ?_ | refine g_aload_nQ G dX7_unseal_55 rfl ?_
        refine g_getQ G fl_X7_256 (F1.K k1 (by omega)) (by first | decide | omega) rfl (F1.Y (by first | omega | (dsimp only; omega)) k4) dX7_unseal_56 ?_
        first | refine g_aload_n G dX7_unseal_59 rfl ?_ | refine g_aload_nN G dX7_unseal_59 rfl ?_ | refine g_aload_nQ G dX7_unseal_59 rfl ?_
        refine g_getQ G fl_X7_256 (F1.K k1 (by omega)) (by first | decide | omega) rfl (F1.Y (by first | omega | (dsimp only; omega)) k4) dX7_unseal_60 ?_
        refine g_iconst (v := nI 2) G dX7_unseal_63 (by decide) ?_
        refine g_callI G (c_X5_init _ _ q_47 e (mN M (200 + e)) (nI (mN M 40)) (nI 2) (gRf ad (mA M 19 e)) (gRf ad (mA M 19 e)) (gK_N _ _ _)) mt_X5_init mi_X5_init ml_X7_271 (by decide) (by omega) (by omega) rfl (Nat.le_of_ble_eq_true rfl) dX7_unseal_64 (fun v_64 S_64 hp_64 => ?_)
        obtain ⟨rfl, ⟨z0, z1, z2, z3, z4⟩, F2⟩ := hp_64
        simp only [Option.toList, List.nil_append]
        have F3 := F1.tr (K := fun k => k ≠ (7 + 32 * (12 * e + mN M (200 + e)))) F2 (fun k z => ⟨z, z⟩)
        refine g_callV (ci := 4) G (c_X3_addLink _ _ (ad 3 e) e (ad 10 e) q_47 (mN M (200 + e)) (ad (20 + e)) (F3.K k1 (by omega)) (F3.Y (by first | omega | (dsimp only; omega)) k7) (gLst_mono k9 F3 (by first | omega | (dsimp only; omega)) (by first | omega | (dsimp only; omega)) (fun _ _ => rfl)) (by omega) (by rw [z0]; omega) (fun i hi => by rw [F3.K (k10 i hi).1 (by omega)]; omega)) mt_X3_addLink mi_X3_addLink ml_X7_274 (F3.K k1 (by omega)) (by first | decide | omega) rfl (by decide) (by omega) (by omega) rfl (Nat.le_of_ble_eq_true rfl) dX7_unseal_67 (fun v_67 S_67 hp_67 => ?_)
        obtain ⟨rfl, hl, FL⟩ := hp_67
        simp only [Option.toList, List.nil_append]
        have F5 := gFr_L FL
        have F4 := F3.tr (K := (fun k => k ≠ (7 + 32 * (12 * e + mN M (200 + e))) ∧ k ≠ 1 + 32 * (10 + e) ∧ k ≠ 19 + 32 * (10 + e))) F5 (fun k z => ⟨z.1, z.2⟩)
        have k1b := F4.K k1 (by omega)
        have r1b := F4.K r1 (by decide)
        first | refine g_aload_n G dX7_unseal_70 rfl ?_ | refine g_aload_nN G dX7_unseal_70 rfl ?_ | refine g_aload_nQ G dX7_unseal_70 rfl ?_
        first | refine g_aload_n G dX7_unseal_71 rfl ?_ | refine g_aload_nN G dX7_unseal_71 rfl ?_ | refine g_aload_nQ G dX7_unseal_71 rfl ?_
        refine g_getI G fl_X7_285 (k1b) (by first | decide | omega) rfl (F4.X (by first | omega | (dsimp only; omega)) k6) dX7_unseal_72 ?_
        refine g_bipush (v := nI 31) G dX7_unseal_75 (by decide) ?_
        refine g_imul G dX7_unseal_77 (rfl) ?_
        first | refine g_aload_n G dX7_unseal_78 rfl ?_ | refine g_aload_nN G dX7_unseal_78 rfl ?_ | refine g_aload_nQ G dX7_unseal_78 rfl ?_
        refine g_getI G fl_X7_52 (r1b) (by first | decide | omega) rfl (F4.X (by first | omega | (dsimp only; omega)) rday) dX7_unseal_79 ?_
        refine g_iadd G dX7_unseal_82 (rfl) ?_
        refine g_sipush (v := nI 10007) G dX7_unseal_83 (by decide) ?_
        refine g_irem G dX7_unseal_86 (by decide) (rfl) ?_
        refine g_putI G fl_X7_285 pu_4_4 (k1b) (by first | decide | omega) rfl dX7_unseal_87 ?_
        have F6 : gFr (fun k => k ≠ 5 + 32 * e) S_67 (sX S_67 (5 + 32 * e) 4 (ad 3 e) (gNum M e)) := (gFr.rf S_67).X1 _ _ _ (fun _ z => z)
        have hlb := gLst_mono hl F6 (by first | omega | (dsimp only; omega)) (by first | omega | (dsimp only; omega)) (fun _ _ => rfl)
        have F7 := F4.tr (K := (fun k => k ≠ (7 + 32 * (12 * e + mN M (200 + e))) ∧ k ≠ 1 + 32 * (10 + e) ∧ k ≠ 19 + 32 * (10 + e) ∧ k ≠ 5 + 32 * e)) F6 (fun k z => ⟨⟨z.1, z.2.1, z.2.2.1⟩, z.2.2.2⟩)
        have F56 := F5.tr (K := fun k => k = (7 + 32 * (12 * e + mN M (200 + e)))) F6 (fun k (z : k = _) => ⟨by subst z; first | omega | (dsimp only; omega), by subst z; first | omega | (dsimp only; omega)⟩)
        have hE := gExh_link (S3 := sX S_67 (5 + 32 * e) 4 (ad 3 e) (gNum M e)) (M9 := mUnseal M e) (q := q_47) (t := mA M 19 e) (day := nI (mN M 40)) (fr := mA M 19 e) (w := nI 2) (num := gNum M e) (hes e he) hN1 hk F7 (fun i hi => by first | omega | (dsimp only; omega)) (sX_p (by decide) (F4.X (by first | omega | (dsimp only; omega)) k2)) (F4.Y (by first | omega | (dsimp only; omega)) rfl) (F4.Y (by first | omega | (dsimp only; omega)) k4) (sX_p (by decide) (F4.X (by first | omega | (dsimp only; omega)) k5)) sX_s (F4.Y (by first | omega | (dsimp only; omega)) k7) hlb (F56.K z0 (by omega)) (F56.X rfl z1) (F56.Y rfl z2) (F56.Y rfl z3) (F56.X rfl z4) kw2 kw2 (uN_o (M := uR M 22 _) (by omega)) (uN_o (M := uR M 22 _) (by omega)) uN_s rfl ((uA_f (by omega)).trans uA_s) uA_s ((funext fun j => (uA_f (by omega)).trans (uA_f (by omega))).trans (uR_s (M := M)))
        first | refine g_aload_n G dX7_unseal_90 rfl ?_ | refine g_aload_nN G dX7_unseal_90 rfl ?_ | refine g_aload_nQ G dX7_unseal_90 rfl ?_
        refine g_getI G fl_X7_285 (k1b) (by first | decide | omega) rfl (sX_s) dX7_unseal_91 ?_
        exact g_iret G F (⟨e, he, rfl, ⟨e0, hk⟩, rfl, gMail_exh (M := M) (M9 := mUnseal M e) (e := e) (fun g j z => uad_f z) (fun j z => uN_o (M := uR M 22 _) z) (fun f j z1 z2 => by rcases z2 with z | z; exact (uA_f (by omega)).trans ((uA_f (by omega)).trans (congrFun (uR_f z1) j)); exact (uA_i z).trans ((uA_i z).trans (congrFun (uR_f z1) j))) (fun j hj => (uA_f (M := mLink M e _ _ _ _) (f := 20) (by omega)).trans ((uA_f (M := uN (uR M 22 _) (200 + e) _) (f := 19) (by omega)).trans ((congrFun (uR_s (M := M)) j).trans (by rw [if_neg (by omega), if_neg (by omega), if_neg (by omega), if_neg (by omega)])))) rfl (fun _ => hE) h (by omega) (F7.mono (fun k z => ⟨by omega, z.2.1, z.2.2.1, z.1⟩))⟩) (by omega) (by omega) dX7_unseal_94
      · have hno : ¬ (¬ mA M 19 e < 0 ∧ mN M (200 + e) < 12) := fun z => by have := of_decide_eq_true (gB_ne0.mp c_32); have := z.2; omega
        exact g_throwW (names := nm_ISE) G F tf_ISE cl_X7_55 ti_ISE st_X7_283 ta_ISE dX7_unseal_35 (by exact dX7_unseal_38) (by exact dX7_unseal_39) (by exact dX7_unseal_42) (by exact dX7_unseal_45) (by decide) (Nat.le_of_ble_eq_true rfl) (by omega) (by omega) (⟨rfl, Or.inr ⟨rfl, e, he, rfl, hno⟩⟩)
  · have hno : ¬ (gIx (mN M 17) i) := fun z => h_e (z)
    first | refine g_aload_n G dX7_unseal_0 rfl ?_ | refine g_aload_nN G dX7_unseal_0 rfl ?_ | refine g_aload_nQ G dX7_unseal_0 rfl ?_
    refine g_iload_n G dX7_unseal_1 rfl ?_
    refine g_callVp (ci := 8) G (c_exhibitAt_no _ S x ad M h i (gIx_no h_e)) mt_X7_exhibitAt mi_X7_exhibitAt ml_X7_246 (by assumption) (by first | decide | omega) rfl (by decide) (by omega) (by omega) rfl (Nat.le_of_ble_eq_true rfl) dX7_unseal_2 ?_
    first | refine g_astore_n G dX7_unseal_5 (gSt_2 (by first | rfl | exact g_c1_rf)) ?_ | refine g_astore_nN G dX7_unseal_5 (gSt_2 (by first | rfl | exact g_c1_rf)) ?_ | refine g_astore_nQ G dX7_unseal_5 (gSt_2 (by first | rfl | exact g_c1_rf)) ?_
    first | refine g_aload_n G dX7_unseal_6 rfl ?_ | refine g_aload_nN G dX7_unseal_6 rfl ?_ | refine g_aload_nQ G dX7_unseal_6 rfl ?_
    refine g_ifnonnullN G dX7_unseal_7 ?_
    exact g_throwW (names := nm_IOE) G F tf_IOE cl_X7_75 ti_IOE st_X7_281 ta_IOE dX7_unseal_10 (by exact dX7_unseal_13) (by exact dX7_unseal_14) (by exact dX7_unseal_17) (by exact dX7_unseal_20) (by decide) (Nat.le_of_ble_eq_true rfl) (by omega) (by omega) (⟨rfl, Or.inl ⟨rfl, hno⟩⟩)

set_option maxHeartbeats 4000000 in
set_option maxRecDepth 100000 in
theorem c_X7_found (d0 : Nat × Nat) (S : gS) (x : Nat) (ad : Nat → Nat → Nat) (M : gM) (h : gMail d0 S x ad M) (i t : Int32) : gCt d0 yX7_found cX7_found 5 (some .int) 10 2 120 [.ref x, .int i, .int t] S (fun v' S' => ∃ e, e < mN M 17 ∧ i = nI e ∧ gPr M t ∧ (mA M 19 e = -2 ∧ mN M (200 + e) < 12) ∧ v' = some (.int (nI (mN M (200 + e) + 1))) ∧ gTo d0 x S S' (mLink M e (nI (mN M 40)) (-1) t (nI 1))) (fun E S' => S' = S ∧ ((E = "java/lang/IndexOutOfBoundsException" ∧ ¬ (gIx (mN M 17) i ∧ gPr M t)) ∨ (E = "java/lang/IllegalStateException" ∧ ∃ e, e < mN M 17 ∧ i = nI e ∧ gPr M t ∧ ¬ (mA M 19 e = -2 ∧ mN M (200 + e) < 12)))) := by
  refine gCt_of (lo := [some (.ref x), some (.int i), some (.int t), none, none]) (by decide +kernel) (Nat.le_of_ble_eq_true rfl) (rfl) ?_
  intro Γ hd G F hini
  obtain ⟨⟨r1, ⟨ra, rb, rc, rd, re⟩, rt, rtl, rp, rpl, rdr, rep, rday⟩, ⟨l0, l1, l2, l3, l4⟩, ht, hcs, hps, hds, hes, hls⟩ := id h
  subst hd
  by_cases h_e : gIx (mN M 17) i
  · obtain ⟨e, he, rfl⟩ := gIx_of h_e (by have := l3.2.2.1; omega)
    obtain ⟨k1, k2, ⟨kc, kc1, kc2, kc3⟩, ⟨k4, k5, k6, k7, kw⟩, k8, k9, k10⟩ := hes e he
    have hN1 := l1.2.2.1
    have hN3 := l3.2.2.1
    by_cases h_p : gIx (mN M 8) t
    · obtain ⟨p, hp, rfl⟩ := gIx_of h_p (by omega)
      obtain ⟨p1, p2, p3, p4, p5, p6⟩ := id (hps p hp)
      first | refine g_aload_n G dX7_found_0 rfl ?_ | refine g_aload_nN G dX7_found_0 rfl ?_ | refine g_aload_nQ G dX7_found_0 rfl ?_
      refine g_iload_n G dX7_found_1 rfl ?_
      refine g_callVp (ci := 8) G (c_exhibitAt _ S x ad M h e he) mt_X7_exhibitAt mi_X7_exhibitAt ml_X7_246 (by assumption) (by first | decide | omega) rfl (by decide) (by omega) (by omega) rfl (Nat.le_of_ble_eq_true rfl) dX7_found_2 ?_
      first | refine g_astore_n G dX7_found_5 (gSt_3 (by first | rfl | exact g_c1_rf)) ?_ | refine g_astore_nN G dX7_found_5 (gSt_3 (by first | rfl | exact g_c1_rf)) ?_ | refine g_astore_nQ G dX7_found_5 (gSt_3 (by first | rfl | exact g_c1_rf)) ?_
      first | refine g_aload_n G dX7_found_6 rfl ?_ | refine g_aload_nN G dX7_found_6 rfl ?_ | refine g_aload_nQ G dX7_found_6 rfl ?_
      refine g_iload_n G dX7_found_7 rfl ?_
      refine g_callVp (ci := 8) G (c_personAt _ S x ad M h p hp) mt_X7_personAt mi_X7_personAt ml_X7_151 (by assumption) (by first | decide | omega) rfl (by decide) (by omega) (by omega) rfl (Nat.le_of_ble_eq_true rfl) dX7_found_8 ?_
      first | refine g_astore G dX7_found_11 (gSt_4 (by first | rfl | exact g_c1_rf)) ?_ | refine g_astoreN G dX7_found_11 (gSt_4 (by first | rfl | exact g_c1_rf)) ?_ | refine g_astoreQ G dX7_found_11 (gSt_4 (by first | rfl | exact g_c1_rf)) ?_
      first | refine g_aload_n G dX7_found_13 rfl ?_ | refine g_aload_nN G dX7_found_13 rfl ?_ | refine g_aload_nQ G dX7_found_13 rfl ?_
      refine g_ifnull G dX7_found_14 ?_
      first | refine g_aload G dX7_found_17 rfl ?_ | refine g_aloadN G dX7_found_17 rfl ?_ | refine g_aloadQ G dX7_found_17 rfl ?_
      refine g_ifnonnull (tgt := 37) G dX7_found_19 (by decide) ?_
      first | refine g_aload_n G dX7_found_37 rfl ?_ | refine g_aload_nN G dX7_found_37 rfl ?_ | refine g_aload_nQ G dX7_found_37 rfl ?_
      refine g_getI G fl_X7_252 (by assumption) (by first | decide | omega) rfl (by first | assumption | rfl) dX7_found_38 ?_
      refine g_if_eq (tgt := 51) G dX7_found_41 (by decide) (fun c_41 => ?_) (fun c_41 => ?_)
      · have e0 : ¬ mA M 19 e = -2 := of_decide_eq_false (gB_eq0.mp c_41)
        have hno : ¬ (mA M 19 e = -2 ∧ mN M (200 + e) < 12) := fun z => e0 z.1
        exact g_throwW (names := nm_ISE) G F tf_ISE cl_X7_55 ti_ISE st_X7_290 ta_ISE dX7_found_51 (by exact dX7_found_54) (by exact dX7_found_55) (by exact dX7_found_58) (by exact dX7_found_61) (by decide) (Nat.le_of_ble_eq_true rfl) (by omega) (by omega) (⟨rfl, Or.inr ⟨rfl, e, he, rfl, (Or.inr ⟨p, hp, rfl⟩), hno⟩⟩)
      · have e0 : mA M 19 e = -2 := of_decide_eq_true (gB_ne0.mp c_41)
        first | refine g_aload_n G dX7_found_44 rfl ?_ | refine g_aload_nN G dX7_found_44 rfl ?_ | refine g_aload_nQ G dX7_found_44 rfl ?_
        refine g_callVp (ci := 4) G (c_X3_hasFullChain _ S x ad M h e he) mt_X3_hasFullChain mi_X3_hasFullChain ml_X7_257 (by assumption) (by first | decide | omega) rfl (by decide) (by omega) (by omega) rfl (Nat.le_of_ble_eq_true rfl) dX7_found_45 ?_
        refine g_if_eq (tgt := 62) G dX7_found_48 (by decide) (fun c_48 => ?_) (fun c_48 => ?_)
        · have hk : mN M (200 + e) < 12 := by have := of_decide_eq_false (gB_eq0.mp c_48); omega
          first | refine g_aload_n G dX7_found_62 rfl ?_ | refine g_aload_nN G dX7_found_62 rfl ?_ | refine g_aload_nQ G dX7_found_62 rfl ?_
          refine g_new (N := 4) (κ := (7 + 32 * (12 * e + mN M (200 + e)))) G nw_X7_269 (by first | decide | omega) rfl (by omega) (by omega) dX7_found_63 (fun q_63 hq_63 => ?_)
          have F1 := gFr_N (S := S) (7 + 32 * (12 * e + mN M (200 + e))) hq_63
          refine g_dup G dX7_found_66 rfl ?_
          first | refine g_aload_n G dX7_found_67 rfl ?_ | refine g_aload_nN G dX7_found_67 rfl ?_ | refine g_aload_nQ G dX7_found_67 rfl ?_
          refine g_getI G fl_X7_52 (F1.K r1 (by decide)) (by first | decide | omega) rfl (F1.X (by first | omega | (dsimp only; omega)) rday) dX7_found_68 ?_
          refine g_null G dX7_found_71 ?_
          first | refine g_aload G dX7_found_72 rfl ?_ | refine g_aloadN G dX7_found_72 rfl ?_ | refine g_aloadQ G dX7_found_72 rfl ?_
          refine g_iconst (v := nI 1) G dX7_found_74 (by decide) ?_
          refine g_callI G (c_X5_init _ _ q_63 e (mN M (200 + e)) (nI (mN M 40)) (nI 1) (none) (some (ad 1 p)) (gK_N _ _ _)) mt_X5_init mi_X5_init ml_X7_271 (by decide) (by omega) (by omega) rfl (Nat.le_of_ble_eq_true rfl) dX7_found_75 (fun v_75 S_75 hp_75 => ?_)
          obtain ⟨rfl, ⟨z0, z1, z2, z3, z4⟩, F2⟩ := hp_75
          simp only [Option.toList, List.nil_append]
          have F3 := F1.tr (K := fun k => k ≠ (7 + 32 * (12 * e + mN M (200 + e)))) F2 (fun k z => ⟨z, z⟩)
          refine g_callV (ci := 4) G (c_X3_addLink _ _ (ad 3 e) e (ad 10 e) q_63 (mN M (200 + e)) (ad (20 + e)) (F3.K k1 (by omega)) (F3.Y (by first | omega | (dsimp only; omega)) k7) (gLst_mono k9 F3 (by first | omega | (dsimp only; omega)) (by first | omega | (dsimp only; omega)) (fun _ _ => rfl)) (by omega) (by rw [z0]; omega) (fun i hi => by rw [F3.K (k10 i hi).1 (by omega)]; omega)) mt_X3_addLink mi_X3_addLink ml_X7_274 (F3.K k1 (by omega)) (by first | decide | omega) rfl (by decide) (by omega) (by omega) rfl (Nat.le_of_ble_eq_true rfl) dX7_found_78 (fun v_78 S_78 hp_78 => ?_)
          obtain ⟨rfl, hl, FL⟩ := hp_78
          simp only [Option.toList, List.nil_append]
          have F5 := gFr_L FL
          have F4 := F3.tr (K := (fun k => k ≠ (7 + 32 * (12 * e + mN M (200 + e))) ∧ k ≠ 1 + 32 * (10 + e) ∧ k ≠ 19 + 32 * (10 + e))) F5 (fun k z => ⟨z.1, z.2⟩)
          have k1b := F4.K k1 (by omega)
          have r1b := F4.K r1 (by decide)
          first | refine g_aload_n G dX7_found_81 rfl ?_ | refine g_aload_nN G dX7_found_81 rfl ?_ | refine g_aload_nQ G dX7_found_81 rfl ?_
          refine g_iconst (v := nI 0) G dX7_found_82 (by decide) ?_
          refine g_putB G fl_X7_252 pu_4_3 (by first | exact Or.inl rfl | exact Or.inr rfl | assumption) (k1b) (by first | decide | omega) rfl dX7_found_83 ?_
          first | refine g_aload_n G dX7_found_86 rfl ?_ | refine g_aload_nN G dX7_found_86 rfl ?_ | refine g_aload_nQ G dX7_found_86 rfl ?_
          first | refine g_aload G dX7_found_87 rfl ?_ | refine g_aloadN G dX7_found_87 rfl ?_ | refine g_aloadQ G dX7_found_87 rfl ?_
          refine g_putQ (v := some (ad 1 p)) G fl_X7_256 pu_4_2 k1b (by omega) rfl dX7_found_89 ?_
          replace z3 : gY S_75 (7 + 32 * (12 * e + mN M (200 + e))) 2 q_63 = gRf ad (nI p) := z3.trans (gRf_p (by omega)).symm
          replace z2 : gY S_75 (7 + 32 * (12 * e + mN M (200 + e))) 1 q_63 = gRf ad (-1) := z2.trans gRf_1.symm
          have F6 : gFr (fun k => k ≠ 5 + 32 * e) S_78 (sY (sX S_78 (5 + 32 * e) 3 (ad 3 e) (nI 0)) (5 + 32 * e) 2 (ad 3 e) (some (ad 1 p))) := ((gFr.rf S_78).X1 _ _ _ (fun _ z => z)).Y1 _ _ _ (fun _ z => z)
          have hlb := gLst_mono hl F6 (by first | omega | (dsimp only; omega)) (by first | omega | (dsimp only; omega)) (fun _ _ => rfl)
          have F7 := F4.tr (K := (fun k => k ≠ (7 + 32 * (12 * e + mN M (200 + e))) ∧ k ≠ 1 + 32 * (10 + e) ∧ k ≠ 19 + 32 * (10 + e) ∧ k ≠ 5 + 32 * e)) F6 (fun k z => ⟨⟨z.1, z.2.1, z.2.2.1⟩, z.2.2.2⟩)
          have F56 := F5.tr (K := fun k => k = (7 + 32 * (12 * e + mN M (200 + e)))) F6 (fun k (z : k = _) => ⟨by subst z; first | omega | (dsimp only; omega), by subst z; first | omega | (dsimp only; omega)⟩)
          have hE := gExh_link (S3 := sY (sX S_78 (5 + 32 * e) 3 (ad 3 e) (nI 0)) (5 + 32 * e) 2 (ad 3 e) (some (ad 1 p))) (M9 := mLink M e (nI (mN M 40)) (-1) (nI p) (nI 1)) (q := q_63) (t := (nI p)) (day := nI (mN M 40)) (fr := (-1)) (w := nI 1) (num := mA M 20 e) (hes e he) hN1 hk F7 (fun i hi => by first | omega | (dsimp only; omega)) (sX_p (by decide) (F4.X (by first | omega | (dsimp only; omega)) k2)) ((u3_p _ _ (by decide)).trans (F4.Y (by first | omega | (dsimp only; omega)) rfl)) ((u3_same _ _ _ _ _).trans (gRf_p (by omega)).symm) (sX_s.trans (by rw [decide_eq_false (fun z => absurd (by rw [z]; decide) (nI_pos (n := p) (by omega)))]; rfl)) (sX_p (by decide) (F4.X (by first | omega | (dsimp only; omega)) k6)) ((u3_p _ _ (by decide)).trans (F4.Y (by first | omega | (dsimp only; omega)) k7)) hlb (F56.K z0 (by omega)) (F56.X rfl z1) (F56.Y rfl z2) (F56.Y rfl z3) (F56.X rfl z4) (Or.inl rfl) (Or.inr ⟨p, hp, rfl⟩) (uN_o (M := uR M 22 _) (by omega)) (uN_o (M := uR M 22 _) (by omega)) uN_s rfl uA_s rfl ((funext fun j => uA_f (by omega)).trans (uR_s (M := M)))
          first | refine g_aload_n G dX7_found_92 rfl ?_ | refine g_aload_nN G dX7_found_92 rfl ?_ | refine g_aload_nQ G dX7_found_92 rfl ?_
          refine g_getR G fl_X7_278 (k1b) (by first | decide | omega) rfl ((u3_p _ _ (by decide)).trans (F4.Y (by first | omega | (dsimp only; omega)) k7)) dX7_found_93 ?_
          refine g_callVp (ci := 0) G (c_Jx4a65c_size_8abf5 _ _ (ad 10 e) (10 + e) (mN M (200 + e) + 1) _ hlb) mt_Jx4a65c_size_8abf5 mi_Jx4a65c_size_8abf5 ml_X7_80 (hlb.1) (by first | decide | omega) rfl (by decide) (by omega) (by omega) rfl (Nat.le_of_ble_eq_true rfl) dX7_found_96 ?_
          exact g_iret G F (⟨e, he, rfl, (Or.inr ⟨p, hp, rfl⟩), ⟨e0, hk⟩, rfl, gMail_exh (M := M) (M9 := mLink M e (nI (mN M 40)) (-1) (nI p) (nI 1)) (e := e) (fun g j z => uad_f z) (fun j z => uN_o (M := uR M 22 _) z) (fun f j z1 z2 => by rcases z2 with z | z; exact (uA_f (by omega)).trans (congrFun (uR_f z1) j); exact (uA_i z).trans (congrFun (uR_f z1) j)) (fun j hj => (uA_f (M := uN (uR M 22 _) (200 + e) _) (f := 19) (by omega)).trans ((congrFun (uR_s (M := M)) j).trans (by rw [if_neg (by omega), if_neg (by omega), if_neg (by omega), if_neg (by omega)]))) rfl (fun _ => hE) h (by omega) (F7.mono (fun k z => ⟨by omega, z.2.1, z.2.2.1, z.1⟩))⟩) (by omega) (by omega) dX7_found_99
        · have hno : ¬ (mA M 19 e = -2 ∧ mN M (200 + e) < 12) := fun z => by have := of_decide_eq_true (gB_ne0.mp c_48); have := z.2; omega
          exact g_throwW (names := nm_ISE) G F tf_ISE cl_X7_55 ti_ISE st_X7_290 ta_ISE dX7_found_51 (by exact dX7_found_54) (by exact dX7_found_55) (by exact dX7_found_58) (by exact dX7_found_61) (by decide) (Nat.le_of_ble_eq_true rfl) (by omega) (by omega) (⟨rfl, Or.inr ⟨rfl, e, he, rfl, (Or.inr ⟨p, hp, rfl⟩), hno⟩⟩)
    · by_cases h_r : t = -1
      · subst h_r
        first | refine g_aload_n G dX7_found_0 rfl ?_ | refine g_aload_nN G dX7_found_0 rfl ?_ | refine g_aload_nQ G dX7_found_0 rfl ?_
        refine g_iload_n G dX7_found_1 rfl ?_
        refine g_callVp (ci := 8) G (c_exhibitAt _ S x ad M h e he) mt_X7_exhibitAt mi_X7_exhibitAt ml_X7_246 (by assumption) (by first | decide | omega) rfl (by decide) (by omega) (by omega) rfl (Nat.le_of_ble_eq_true rfl) dX7_found_2 ?_
        first | refine g_astore_n G dX7_found_5 (gSt_3 (by first | rfl | exact g_c1_rf)) ?_ | refine g_astore_nN G dX7_found_5 (gSt_3 (by first | rfl | exact g_c1_rf)) ?_ | refine g_astore_nQ G dX7_found_5 (gSt_3 (by first | rfl | exact g_c1_rf)) ?_
        first | refine g_aload_n G dX7_found_6 rfl ?_ | refine g_aload_nN G dX7_found_6 rfl ?_ | refine g_aload_nQ G dX7_found_6 rfl ?_
        refine g_iload_n G dX7_found_7 rfl ?_
        refine g_callVp (ci := 8) G (c_personAt_no _ S x ad M h (-1) (gIx_no h_p)) mt_X7_personAt mi_X7_personAt ml_X7_151 (by assumption) (by first | decide | omega) rfl (by decide) (by omega) (by omega) rfl (Nat.le_of_ble_eq_true rfl) dX7_found_8 ?_
        first | refine g_astore G dX7_found_11 (gSt_4 (by first | rfl | exact g_c1_rf)) ?_ | refine g_astoreN G dX7_found_11 (gSt_4 (by first | rfl | exact g_c1_rf)) ?_ | refine g_astoreQ G dX7_found_11 (gSt_4 (by first | rfl | exact g_c1_rf)) ?_
        first | refine g_aload_n G dX7_found_13 rfl ?_ | refine g_aload_nN G dX7_found_13 rfl ?_ | refine g_aload_nQ G dX7_found_13 rfl ?_
        refine g_ifnull G dX7_found_14 ?_
        first | refine g_aload G dX7_found_17 rfl ?_ | refine g_aloadN G dX7_found_17 rfl ?_ | refine g_aloadQ G dX7_found_17 rfl ?_
        refine g_ifnonnullN G dX7_found_19 ?_
        refine g_iload_n G dX7_found_22 rfl ?_
        refine g_iconst (v := (-1)) G dX7_found_23 (by decide) ?_
        refine g_icmp_eq (tgt := 37) G dX7_found_24 (by decide) (fun c_24 => ?_) (fun c_24 => (absurd rfl c_24))
        first | refine g_aload_n G dX7_found_37 rfl ?_ | refine g_aload_nN G dX7_found_37 rfl ?_ | refine g_aload_nQ G dX7_found_37 rfl ?_
        refine g_getI G fl_X7_252 (by assumption) (by first | decide | omega) rfl (by first | assumption | rfl) dX7_found_38 ?_
        refine g_if_eq (tgt := 51) G dX7_found_41 (by decide) (fun c_41 => ?_) (fun c_41 => ?_)
        · have e0 : ¬ mA M 19 e = -2 := of_decide_eq_false (gB_eq0.mp c_41)
          have hno : ¬ (mA M 19 e = -2 ∧ mN M (200 + e) < 12) := fun z => e0 z.1
          exact g_throwW (names := nm_ISE) G F tf_ISE cl_X7_55 ti_ISE st_X7_290 ta_ISE dX7_found_51 (by exact dX7_found_54) (by exact dX7_found_55) (by exact dX7_found_58) (by exact dX7_found_61) (by decide) (Nat.le_of_ble_eq_true rfl) (by omega) (by omega) (⟨rfl, Or.inr ⟨rfl, e, he, rfl, (Or.inl rfl), hno⟩⟩)
        · have e0 : mA M 19 e = -2 := of_decide_eq_true (gB_ne0.mp c_41)
          first | refine g_aload_n G dX7_found_44 rfl ?_ | refine g_aload_nN G dX7_found_44 rfl ?_ | refine g_aload_nQ G dX7_found_44 rfl ?_
          refine g_callVp (ci := 4) G (c_X3_hasFullChain _ S x ad M h e he) mt_X3_hasFullChain mi_X3_hasFullChain ml_X7_257 (by assumption) (by first | decide | omega) rfl (by decide) (by omega) (by omega) rfl (Nat.le_of_ble_eq_true rfl) dX7_found_45 ?_
          refine g_if_eq (tgt := 62) G dX7_found_48 (by decide) (fun c_48 => ?_) (fun c_48 => ?_)
          · have hk : mN M (200 + e) < 12 := by have := of_decide_eq_false (gB_eq0.mp c_48); omega
            first | refine g_aload_n G dX7_found_62 rfl ?_ | refine g_aload_nN G dX7_found_62 rfl ?_ | refine g_aload_nQ G dX7_found_62 rfl ?_
            refine g_new (N := 4) (κ := (7 + 32 * (12 * e + mN M (200 + e)))) G nw_X7_269 (by first | decide | omega) rfl (by omega) (by omega) dX7_found_63 (fun q_63 hq_63 => ?_)
            have F1 := gFr_N (S := S) (7 + 32 * (12 * e + mN M (200 + e))) hq_63
            refine g_dup G dX7_found_66 rfl ?_
            first | refine g_aload_n G dX7_found_67 rfl ?_ | refine g_aload_nN G dX7_found_67 rfl ?_ | refine g_aload_nQ G dX7_found_67 rfl ?_
            refine g_getI G fl_X7_52 (F1.K r1 (by decide)) (by first | decide | omega) rfl (F1.X (by first | omega | (dsimp only; omega)) rday) dX7_found_68 ?_
            refine g_null G dX7_found_71 ?_
            first | refine g_aload G dX7_found_72 rfl ?_ | refine g_aloadN G dX7_found_72 rfl ?_ | refine g_aloadQ G dX7_found_72 rfl ?_
            refine g_iconst (v := nI 1) G dX7_found_74 (by decide) ?_
            refine g_callI G (c_X5_init _ _ q_63 e (mN M (200 + e)) (nI (mN M 40)) (nI 1) (none) (none) (gK_N _ _ _)) mt_X5_init mi_X5_init ml_X7_271 (by decide) (by omega) (by omega) rfl (Nat.le_of_ble_eq_true rfl) dX7_found_75 (fun v_75 S_75 hp_75 => ?_)
            obtain ⟨rfl, ⟨z0, z1, z2, z3, z4⟩, F2⟩ := hp_75
            simp only [Option.toList, List.nil_append]
            have F3 := F1.tr (K := fun k => k ≠ (7 + 32 * (12 * e + mN M (200 + e)))) F2 (fun k z => ⟨z, z⟩)
            refine g_callV (ci := 4) G (c_X3_addLink _ _ (ad 3 e) e (ad 10 e) q_63 (mN M (200 + e)) (ad (20 + e)) (F3.K k1 (by omega)) (F3.Y (by first | omega | (dsimp only; omega)) k7) (gLst_mono k9 F3 (by first | omega | (dsimp only; omega)) (by first | omega | (dsimp only; omega)) (fun _ _ => rfl)) (by omega) (by rw [z0]; omega) (fun i hi => by rw [F3.K (k10 i hi).1 (by omega)]; omega)) mt_X3_addLink mi_X3_addLink ml_X7_274 (F3.K k1 (by omega)) (by first | decide | omega) rfl (by decide) (by omega) (by omega) rfl (Nat.le_of_ble_eq_true rfl) dX7_found_78 (fun v_78 S_78 hp_78 => ?_)
            obtain ⟨rfl, hl, FL⟩ := hp_78
            simp only [Option.toList, List.nil_append]
            have F5 := gFr_L FL
            have F4 := F3.tr (K := (fun k => k ≠ (7 + 32 * (12 * e + mN M (200 + e))) ∧ k ≠ 1 + 32 * (10 + e) ∧ k ≠ 19 + 32 * (10 + e))) F5 (fun k z => ⟨z.1, z.2⟩)
            have k1b := F4.K k1 (by omega)
            have r1b := F4.K r1 (by decide)
            first | refine g_aload_n G dX7_found_81 rfl ?_ | refine g_aload_nN G dX7_found_81 rfl ?_ | refine g_aload_nQ G dX7_found_81 rfl ?_
            refine g_iconst (v := nI 0) G dX7_found_82 (by decide) ?_
            refine g_putB G fl_X7_252 pu_4_3 (by first | exact Or.inl rfl | exact Or.inr rfl | assumption) (k1b) (by first | decide | omega) rfl dX7_found_83 ?_
            first | refine g_aload_n G dX7_found_86 rfl ?_ | refine g_aload_nN G dX7_found_86 rfl ?_ | refine g_aload_nQ G dX7_found_86 rfl ?_
            first | refine g_aload G dX7_found_87 rfl ?_ | refine g_aloadN G dX7_found_87 rfl ?_ | refine g_aloadQ G dX7_found_87 rfl ?_
            refine g_putQ (v := none) G fl_X7_256 pu_4_2 k1b (by omega) rfl dX7_found_89 ?_
            replace z3 : gY S_75 (7 + 32 * (12 * e + mN M (200 + e))) 2 q_63 = gRf ad (-1) := z3.trans gRf_1.symm
            replace z2 : gY S_75 (7 + 32 * (12 * e + mN M (200 + e))) 1 q_63 = gRf ad (-1) := z2.trans gRf_1.symm
            have F6 : gFr (fun k => k ≠ 5 + 32 * e) S_78 (sY (sX S_78 (5 + 32 * e) 3 (ad 3 e) (nI 0)) (5 + 32 * e) 2 (ad 3 e) (none)) := ((gFr.rf S_78).X1 _ _ _ (fun _ z => z)).Y1 _ _ _ (fun _ z => z)
            have hlb := gLst_mono hl F6 (by first | omega | (dsimp only; omega)) (by first | omega | (dsimp only; omega)) (fun _ _ => rfl)
            have F7 := F4.tr (K := (fun k => k ≠ (7 + 32 * (12 * e + mN M (200 + e))) ∧ k ≠ 1 + 32 * (10 + e) ∧ k ≠ 19 + 32 * (10 + e) ∧ k ≠ 5 + 32 * e)) F6 (fun k z => ⟨⟨z.1, z.2.1, z.2.2.1⟩, z.2.2.2⟩)
            have F56 := F5.tr (K := fun k => k = (7 + 32 * (12 * e + mN M (200 + e)))) F6 (fun k (z : k = _) => ⟨by subst z; first | omega | (dsimp only; omega), by subst z; first | omega | (dsimp only; omega)⟩)
            have hE := gExh_link (S3 := sY (sX S_78 (5 + 32 * e) 3 (ad 3 e) (nI 0)) (5 + 32 * e) 2 (ad 3 e) (none)) (M9 := mLink M e (nI (mN M 40)) (-1) (-1) (nI 1)) (q := q_63) (t := (-1)) (day := nI (mN M 40)) (fr := (-1)) (w := nI 1) (num := mA M 20 e) (hes e he) hN1 hk F7 (fun i hi => by first | omega | (dsimp only; omega)) (sX_p (by decide) (F4.X (by first | omega | (dsimp only; omega)) k2)) ((u3_p _ _ (by decide)).trans (F4.Y (by first | omega | (dsimp only; omega)) rfl)) ((u3_same _ _ _ _ _).trans gRf_1.symm) (sX_s.trans (by rw [decide_eq_false (by decide)]; rfl)) (sX_p (by decide) (F4.X (by first | omega | (dsimp only; omega)) k6)) ((u3_p _ _ (by decide)).trans (F4.Y (by first | omega | (dsimp only; omega)) k7)) hlb (F56.K z0 (by omega)) (F56.X rfl z1) (F56.Y rfl z2) (F56.Y rfl z3) (F56.X rfl z4) (Or.inl rfl) (Or.inl rfl) (uN_o (M := uR M 22 _) (by omega)) (uN_o (M := uR M 22 _) (by omega)) uN_s rfl uA_s rfl ((funext fun j => uA_f (by omega)).trans (uR_s (M := M)))
            first | refine g_aload_n G dX7_found_92 rfl ?_ | refine g_aload_nN G dX7_found_92 rfl ?_ | refine g_aload_nQ G dX7_found_92 rfl ?_
            refine g_getR G fl_X7_278 (k1b) (by first | decide | omega) rfl ((u3_p _ _ (by decide)).trans (F4.Y (by first | omega | (dsimp only; omega)) k7)) dX7_found_93 ?_
            refine g_callVp (ci := 0) G (c_Jx4a65c_size_8abf5 _ _ (ad 10 e) (10 + e) (mN M (200 + e) + 1) _ hlb) mt_Jx4a65c_size_8abf5 mi_Jx4a65c_size_8abf5 ml_X7_80 (hlb.1) (by first | decide | omega) rfl (by decide) (by omega) (by omega) rfl (Nat.le_of_ble_eq_true rfl) dX7_found_96 ?_
            exact g_iret G F (⟨e, he, rfl, (Or.inl rfl), ⟨e0, hk⟩, rfl, gMail_exh (M := M) (M9 := mLink M e (nI (mN M 40)) (-1) (-1) (nI 1)) (e := e) (fun g j z => uad_f z) (fun j z => uN_o (M := uR M 22 _) z) (fun f j z1 z2 => by rcases z2 with z | z; exact (uA_f (by omega)).trans (congrFun (uR_f z1) j); exact (uA_i z).trans (congrFun (uR_f z1) j)) (fun j hj => (uA_f (M := uN (uR M 22 _) (200 + e) _) (f := 19) (by omega)).trans ((congrFun (uR_s (M := M)) j).trans (by rw [if_neg (by omega), if_neg (by omega), if_neg (by omega), if_neg (by omega)]))) rfl (fun _ => hE) h (by omega) (F7.mono (fun k z => ⟨by omega, z.2.1, z.2.2.1, z.1⟩))⟩) (by omega) (by omega) dX7_found_99
          · have hno : ¬ (mA M 19 e = -2 ∧ mN M (200 + e) < 12) := fun z => by have := of_decide_eq_true (gB_ne0.mp c_48); have := z.2; omega
            exact g_throwW (names := nm_ISE) G F tf_ISE cl_X7_55 ti_ISE st_X7_290 ta_ISE dX7_found_51 (by exact dX7_found_54) (by exact dX7_found_55) (by exact dX7_found_58) (by exact dX7_found_61) (by decide) (Nat.le_of_ble_eq_true rfl) (by omega) (by omega) (⟨rfl, Or.inr ⟨rfl, e, he, rfl, (Or.inl rfl), hno⟩⟩)
      · have hno : ¬ (gIx (mN M 17) (nI e) ∧ gPr M t) := fun z => z.2.elim h_r (fun ⟨p, hp, y⟩ => h_p (by rw [y]; exact gIx_nI hp (by omega)))
        first | refine g_aload_n G dX7_found_0 rfl ?_ | refine g_aload_nN G dX7_found_0 rfl ?_ | refine g_aload_nQ G dX7_found_0 rfl ?_
        refine g_iload_n G dX7_found_1 rfl ?_
        refine g_callVp (ci := 8) G (c_exhibitAt _ S x ad M h e he) mt_X7_exhibitAt mi_X7_exhibitAt ml_X7_246 (by assumption) (by first | decide | omega) rfl (by decide) (by omega) (by omega) rfl (Nat.le_of_ble_eq_true rfl) dX7_found_2 ?_
        first | refine g_astore_n G dX7_found_5 (gSt_3 (by first | rfl | exact g_c1_rf)) ?_ | refine g_astore_nN G dX7_found_5 (gSt_3 (by first | rfl | exact g_c1_rf)) ?_ | refine g_astore_nQ G dX7_found_5 (gSt_3 (by first | rfl | exact g_c1_rf)) ?_
        first | refine g_aload_n G dX7_found_6 rfl ?_ | refine g_aload_nN G dX7_found_6 rfl ?_ | refine g_aload_nQ G dX7_found_6 rfl ?_
        refine g_iload_n G dX7_found_7 rfl ?_
        refine g_callVp (ci := 8) G (c_personAt_no _ S x ad M h t (gIx_no h_p)) mt_X7_personAt mi_X7_personAt ml_X7_151 (by assumption) (by first | decide | omega) rfl (by decide) (by omega) (by omega) rfl (Nat.le_of_ble_eq_true rfl) dX7_found_8 ?_
        first | refine g_astore G dX7_found_11 (gSt_4 (by first | rfl | exact g_c1_rf)) ?_ | refine g_astoreN G dX7_found_11 (gSt_4 (by first | rfl | exact g_c1_rf)) ?_ | refine g_astoreQ G dX7_found_11 (gSt_4 (by first | rfl | exact g_c1_rf)) ?_
        first | refine g_aload_n G dX7_found_13 rfl ?_ | refine g_aload_nN G dX7_found_13 rfl ?_ | refine g_aload_nQ G dX7_found_13 rfl ?_
        refine g_ifnull G dX7_found_14 ?_
        first | refine g_aload G dX7_found_17 rfl ?_ | refine g_aloadN G dX7_found_17 rfl ?_ | refine g_aloadQ G dX7_found_17 rfl ?_
        refine g_ifnonnullN G dX7_found_19 ?_
        refine g_iload_n G dX7_found_22 rfl ?_
        refine g_iconst (v := (-1)) G dX7_found_23 (by decide) ?_
        refine g_icmp_eq (tgt := 37) G dX7_found_24 (by decide) (fun c_24 => (absurd c_24 h_r)) (fun c_24 => ?_)
        exact g_throw (names := nm_IOE) G F tf_IOE cl_X7_75 ti_IOE st_X7_250 ta_IOE dX7_found_27 (by exact dX7_found_30) (by exact dX7_found_31) (by exact dX7_found_33) (by exact dX7_found_36) (by decide) (Nat.le_of_ble_eq_true rfl) (by omega) (by omega) (⟨rfl, Or.inl ⟨rfl, hno⟩⟩)
  · have hno : ¬ (gIx (mN M 17) i ∧ gPr M t) := fun z => h_e z.1
    by_cases h_p : gIx (mN M 8) t
    · obtain ⟨p, hp, rfl⟩ := gIx_of h_p (by have := l1.2.2.1; omega)
      first | refine g_aload_n G dX7_found_0 rfl ?_ | refine g_aload_nN G dX7_found_0 rfl ?_ | refine g_aload_nQ G dX7_found_0 rfl ?_
      refine g_iload_n G dX7_found_1 rfl ?_
      refine g_callVp (ci := 8) G (c_exhibitAt_no _ S x ad M h i (gIx_no h_e)) mt_X7_exhibitAt mi_X7_exhibitAt ml_X7_246 (by assumption) (by first | decide | omega) rfl (by decide) (by omega) (by omega) rfl (Nat.le_of_ble_eq_true rfl) dX7_found_2 ?_
      first | refine g_astore_n G dX7_found_5 (gSt_3 (by first | rfl | exact g_c1_rf)) ?_ | refine g_astore_nN G dX7_found_5 (gSt_3 (by first | rfl | exact g_c1_rf)) ?_ | refine g_astore_nQ G dX7_found_5 (gSt_3 (by first | rfl | exact g_c1_rf)) ?_
      first | refine g_aload_n G dX7_found_6 rfl ?_ | refine g_aload_nN G dX7_found_6 rfl ?_ | refine g_aload_nQ G dX7_found_6 rfl ?_
      refine g_iload_n G dX7_found_7 rfl ?_
      refine g_callVp (ci := 8) G (c_personAt _ S x ad M h p hp) mt_X7_personAt mi_X7_personAt ml_X7_151 (by assumption) (by first | decide | omega) rfl (by decide) (by omega) (by omega) rfl (Nat.le_of_ble_eq_true rfl) dX7_found_8 ?_
      first | refine g_astore G dX7_found_11 (gSt_4 (by first | rfl | exact g_c1_rf)) ?_ | refine g_astoreN G dX7_found_11 (gSt_4 (by first | rfl | exact g_c1_rf)) ?_ | refine g_astoreQ G dX7_found_11 (gSt_4 (by first | rfl | exact g_c1_rf)) ?_
      first | refine g_aload_n G dX7_found_13 rfl ?_ | refine g_aload_nN G dX7_found_13 rfl ?_ | refine g_aload_nQ G dX7_found_13 rfl ?_
      refine g_ifnullN (tgt := 27) G dX7_found_14 (by decide) ?_
      exact g_throw (names := nm_IOE) G F tf_IOE cl_X7_75 ti_IOE st_X7_250 ta_IOE dX7_found_27 (by exact dX7_found_30) (by exact dX7_found_31) (by exact dX7_found_33) (by exact dX7_found_36) (by decide) (Nat.le_of_ble_eq_true rfl) (by omega) (by omega) (⟨rfl, Or.inl ⟨rfl, hno⟩⟩)
    · first | refine g_aload_n G dX7_found_0 rfl ?_ | refine g_aload_nN G dX7_found_0 rfl ?_ | refine g_aload_nQ G dX7_found_0 rfl ?_
      refine g_iload_n G dX7_found_1 rfl ?_
      refine g_callVp (ci := 8) G (c_exhibitAt_no _ S x ad M h i (gIx_no h_e)) mt_X7_exhibitAt mi_X7_exhibitAt ml_X7_246 (by assumption) (by first | decide | omega) rfl (by decide) (by omega) (by omega) rfl (Nat.le_of_ble_eq_true rfl) dX7_found_2 ?_
      first | refine g_astore_n G dX7_found_5 (gSt_3 (by first | rfl | exact g_c1_rf)) ?_ | refine g_astore_nN G dX7_found_5 (gSt_3 (by first | rfl | exact g_c1_rf)) ?_ | refine g_astore_nQ G dX7_found_5 (gSt_3 (by first | rfl | exact g_c1_rf)) ?_
      first | refine g_aload_n G dX7_found_6 rfl ?_ | refine g_aload_nN G dX7_found_6 rfl ?_ | refine g_aload_nQ G dX7_found_6 rfl ?_
      refine g_iload_n G dX7_found_7 rfl ?_
      refine g_callVp (ci := 8) G (c_personAt_no _ S x ad M h t (gIx_no h_p)) mt_X7_personAt mi_X7_personAt ml_X7_151 (by assumption) (by first | decide | omega) rfl (by decide) (by omega) (by omega) rfl (Nat.le_of_ble_eq_true rfl) dX7_found_8 ?_
      first | refine g_astore G dX7_found_11 (gSt_4 (by first | rfl | exact g_c1_rf)) ?_ | refine g_astoreN G dX7_found_11 (gSt_4 (by first | rfl | exact g_c1_rf)) ?_ | refine g_astoreQ G dX7_found_11 (gSt_4 (by first | rfl | exact g_c1_rf)) ?_
      first | refine g_aload_n G dX7_found_13 rfl ?_ | refine g_aload_nN G dX7_found_13 rfl ?_ | refine g_aload_nQ G dX7_found_13 rfl ?_
      refine g_ifnullN (tgt := 27) G dX7_found_14 (by decide) ?_
      exact g_throw (names := nm_IOE) G F tf_IOE cl_X7_75 ti_IOE st_X7_250 ta_IOE dX7_found_27 (by exact dX7_found_30) (by exact dX7_found_31) (by exact dX7_found_33) (by exact dX7_found_36) (by decide) (Nat.le_of_ble_eq_true rfl) (by omega) (by omega) (⟨rfl, Or.inl ⟨rfl, hno⟩⟩)

theorem gMail_take {d0 : Nat × Nat} {S S3 : gS} {x : Nat} {ad : Nat → Nat → Nat} {M : gM} {c q q2 : Nat} (hc : c < mN M 6) (hb : mN M 17 < 20) (hz : mN M (200 + mN M 17) = 0) (g1 : gK S3 q = 5 + 32 * mN M 17 ∧ gX S3 (5 + 32 * mN M 17) 0 q = nI (mN M 17) ∧ gY S3 (5 + 32 * mN M 17) 1 q = some (ad 0 c) ∧ gY S3 (5 + 32 * mN M 17) 2 q = none ∧ gX S3 (5 + 32 * mN M 17) 3 q = nI 0 ∧ gX S3 (5 + 32 * mN M 17) 4 q = nI (1000 + mN M 17) ∧ gY S3 (5 + 32 * mN M 17) 5 q = some q2) (g2 : gLst d0 S3 q2 (10 + mN M 17) 0 (ad (20 + mN M 17))) (hl : gLst d0 S3 (ad 5 3) 4 (mN M 17 + 1) (fun i => if i = mN M 17 then q else ad 3 i)) (h : gMail d0 S x ad M) (F : gFr (fun k => k ≠ 5 + 32 * mN M 17 ∧ k ≠ 1 + 32 * (10 + mN M 17) ∧ k ≠ 129 ∧ k ≠ 147) S S3) : gTo d0 x S S3 (mTake M c) := by
  obtain ⟨hr, ⟨l0, l1, l2, l3, l4⟩, ht, hcs, hps, hds, hes, hls⟩ := id h
  have hN := l1.2.2.1
  refine ⟨uad (uad ad 3 (mN M 17) q) 10 (mN M 17) q2, ⟨?_, ⟨?_, ?_, ?_, ?_, ?_⟩, ?_, ?_, ?_, ?_, ?_, ?_⟩, F.mono (fun k (z : gMk k) => by unfold gMk at z; first | omega | (dsimp only; omega))⟩
  · exact gRoot_mono hr F (by first | omega | (dsimp only; omega)) rfl rfl rfl rfl rfl rfl
  · exact gLst_mono l0 F (by first | omega | (dsimp only; omega)) (by first | omega | (dsimp only; omega)) (fun _ _ => rfl)
  · exact gLst_mono l1 F (by first | omega | (dsimp only; omega)) (by first | omega | (dsimp only; omega)) (fun _ _ => rfl)
  · exact gLst_mono l2 F (by first | omega | (dsimp only; omega)) (by first | omega | (dsimp only; omega)) (fun _ _ => rfl)
  · show gLst d0 S3 (ad 5 3) 4 (mN M 17 + 1) (uad (uad ad 3 (mN M 17) q) 10 (mN M 17) q2 3)
    show gLst d0 S3 (ad 5 3) 4 (mN M 17 + 1) (uad ad 3 (mN M 17) q 3)
    rw [uad_row]
    exact hl
  · exact gLst_mono l4 F (by first | omega | (dsimp only; omega)) (by first | omega | (dsimp only; omega)) (fun _ _ => rfl)
  · exact gTape_mono ht F (by first | omega | (dsimp only; omega)) (by first | omega | (dsimp only; omega)) rfl rfl rfl rfl rfl
  · exact fun i hi => gCase_mono (hcs i hi) F (by first | omega | (dsimp only; omega))
  · exact fun i hi => gPers_mono (hps i hi) F (by first | omega | (dsimp only; omega))
  · exact fun d hd => gDoc_mono (hds d hd) F (by first | omega | (dsimp only; omega)) (by first | omega | (dsimp only; omega)) (by first | omega | (dsimp only; omega)) (by first | omega | (dsimp only; omega)) hN rfl rfl rfl rfl (fun _ _ => rfl) (fun _ _ => rfl) (Nat.le_refl _) (Nat.le_refl _) rfl rfl rfl rfl rfl (uN_o (by omega)) rfl rfl rfl
  · intro e' hi
    have hi : e' < mN M 17 + 1 := hi
    have nn : ∀ j, j ≠ 17 → mN (mTake M c) j = mN M j := fun j hj => uN_o hj
    by_cases e : e' = mN M 17
    · subst e
      have e18 : mA (mTake M c) 18 (mN M 17) = nI c := (uA_f (by omega)).trans ((uA_f (by omega)).trans uA_s)
      have e19 : mA (mTake M c) 19 (mN M 17) = -1 := (uA_f (by omega)).trans uA_s
      have e20 : mA (mTake M c) 20 (mN M 17) = nI (1000 + mN M 17) := uA_s
      unfold gExh
      rw [e18, e19, e20, nn (200 + mN M 17) (by omega), hz, show uad (uad ad 3 (mN M 17) q) 10 (mN M 17) q2 3 (mN M 17) = q from (uad_f (by omega)).trans uad_s, show uad (uad ad 3 (mN M 17) q) 10 (mN M 17) q2 10 (mN M 17) = q2 from uad_s, gRf_1]
      exact ⟨g1.1, g1.2.1, ⟨c, hc, rfl, g1.2.2.1⟩, ⟨g1.2.2.2.1, g1.2.2.2.2.1, g1.2.2.2.2.2.1, g1.2.2.2.2.2.2, Or.inl rfl⟩, by omega, (show gLst d0 S3 q2 (10 + mN M 17) 0 (uad (uad ad 3 (mN M 17) q) 10 (mN M 17) q2 (20 + mN M 17)) from gLst_mono g2 (gFr.rf S3) (K := fun _ => True) trivial trivial (fun i hi => absurd hi (Nat.not_lt_zero i))), fun k hk => absurd hk (Nat.not_lt_zero k)⟩
    · have z3 : ∀ f, mA (mTake M c) f e' = mA M f e' := fun f => (uA_i e).trans ((uA_i e).trans (uA_i e))
      exact gExh_mono (hes e' (by omega)) F (by first | omega | (dsimp only; omega)) (by first | omega | (dsimp only; omega)) (by first | omega | (dsimp only; omega)) (fun k hk => (by first | omega | (dsimp only; omega))) hN ((uad_f (by omega)).trans (uad_i e)) ((uad_i e).trans (uad_f (by omega))) (fun k => (uad_f (by omega)).trans (uad_f (by omega))) (fun _ _ => rfl) (fun _ _ => rfl) (Nat.le_refl _) (Nat.le_refl _) (z3 18) (z3 19) (z3 20) (nn _ (by omega)) (fun w hw => (uA_f (by omega)).trans ((uA_f (by omega)).trans (uA_f (by omega))))
  · exact fun k hk => gLtr_mono (hls k hk) F (by first | omega | (dsimp only; omega)) rfl (fun _ _ => rfl) (fun _ _ => rfl) (Nat.le_refl _) (Nat.le_refl _) rfl rfl rfl rfl rfl

set_option maxHeartbeats 4000000 in
set_option maxRecDepth 100000 in
theorem c_X7_takeIn (d0 : Nat × Nat) (S : gS) (x : Nat) (ad : Nat → Nat → Nat) (M : gM) (h : gMail d0 S x ad M) (hB : gBnd M) (hz : gZero M) (i : Int32) : gCt d0 yX7_takeIn cX7_takeIn 3 (some .int) 10 4 150 [.ref x, .int i] S (fun v' S' => ∃ c, c < mN M 6 ∧ i = nI c ∧ ¬ mN M 17 = 20 ∧ v' = some (.int (nI (mN M 17))) ∧ gTo d0 x S S' (mTake M c)) (fun E S' => S' = S ∧ ((E = "java/lang/IndexOutOfBoundsException" ∧ ¬ gIx (mN M 6) i) ∨ (E = "java/lang/IllegalStateException" ∧ gIx (mN M 6) i ∧ mN M 17 = 20))) := by
  refine gCt_of (lo := [some (.ref x), some (.int i), none]) (by decide +kernel) (Nat.le_of_ble_eq_true rfl) (rfl) ?_
  intro Γ hd G F hini
  obtain ⟨⟨r1, ⟨ra, rb, rc, rd, re⟩, rt, rtl, rp, rpl, rdr, rep, rday⟩, ⟨l0, l1, l2, l3, l4⟩, ht, hcs, hps, hds, hes, hls⟩ := id h
  subst hd
  have hb6 := hB.2.2.2.1
  by_cases h_c : gIx (mN M 6) i
  · obtain ⟨c, hc, rfl⟩ := gIx_of h_c (by have := l0.2.2.1; omega)
    first | refine g_aload_n G dX7_takeIn_0 rfl ?_ | refine g_aload_nN G dX7_takeIn_0 rfl ?_ | refine g_aload_nQ G dX7_takeIn_0 rfl ?_
    refine g_iload_n G dX7_takeIn_1 rfl ?_
    refine g_callVp (ci := 8) G (c_caseAt _ S x ad M h c hc) mt_X7_caseAt mi_X7_caseAt ml_X7_71 (by assumption) (by first | decide | omega) rfl (by decide) (by omega) (by omega) rfl (Nat.le_of_ble_eq_true rfl) dX7_takeIn_2 ?_
    first | refine g_astore_n G dX7_takeIn_5 (gSt_2 (by first | rfl | exact g_c1_rf)) ?_ | refine g_astore_nN G dX7_takeIn_5 (gSt_2 (by first | rfl | exact g_c1_rf)) ?_ | refine g_astore_nQ G dX7_takeIn_5 (gSt_2 (by first | rfl | exact g_c1_rf)) ?_
    first | refine g_aload_n G dX7_takeIn_6 rfl ?_ | refine g_aload_nN G dX7_takeIn_6 rfl ?_ | refine g_aload_nQ G dX7_takeIn_6 rfl ?_
    refine g_ifnonnull (tgt := 20) G dX7_takeIn_7 (by decide) ?_
    first | refine g_aload_n G dX7_takeIn_20 rfl ?_ | refine g_aload_nN G dX7_takeIn_20 rfl ?_ | refine g_aload_nQ G dX7_takeIn_20 rfl ?_
    first | refine g_getR G fl_X7_22 (by assumption) (by first | decide | omega) rfl (by assumption) dX7_takeIn_21 ?_ | refine g_getZ G fl_X7_22 (by assumption) (by first | decide | omega) rfl (by assumption) dX7_takeIn_21 ?_ | refine g_getQ G fl_X7_22 (by assumption) (by first | decide | omega) rfl (by first | assumption | rfl) dX7_takeIn_21 ?_
    refine g_callVp (ci := 0) G (c_Jx4a65c_size_8abf5 _ S (ad 5 3) 4 (mN M 17) (ad 3) l3) mt_Jx4a65c_size_8abf5 mi_Jx4a65c_size_8abf5 ml_X7_80 (l3.1) (by first | decide | omega) rfl (by decide) (by omega) (by omega) rfl (Nat.le_of_ble_eq_true rfl) dX7_takeIn_24 ?_
    refine g_bipush (v := nI 20) G dX7_takeIn_27 (by decide) ?_
    refine g_icmp_lt (tgt := 42) G dX7_takeIn_29 (by decide) (fun c_29 => ?_) (fun c_29 => ?_)
    · have h6 : mN M 17 < 20 := (nI_ltI (a := mN M 17) (b := 20) (by omega) (by omega)).mp c_29
      first | refine g_aload_n G dX7_takeIn_42 rfl ?_ | refine g_aload_nN G dX7_takeIn_42 rfl ?_ | refine g_aload_nQ G dX7_takeIn_42 rfl ?_
      first | refine g_getR G fl_X7_22 (by assumption) (by first | decide | omega) rfl (by assumption) dX7_takeIn_43 ?_ | refine g_getZ G fl_X7_22 (by assumption) (by first | decide | omega) rfl (by assumption) dX7_takeIn_43 ?_ | refine g_getQ G fl_X7_22 (by assumption) (by first | decide | omega) rfl (by first | assumption | rfl) dX7_takeIn_43 ?_
      refine g_new (N := 6) (κ := 5 + 32 * mN M 17) G nw_X7_241 (by first | decide | omega) rfl (by omega) (by omega) dX7_takeIn_46 (fun q_46 hq_46 => ?_)
      have F1 := gFr_N (S := S) (5 + 32 * mN M 17) hq_46
      have la := gLst_mono l3 F1 (by first | omega | (dsimp only; omega)) (by first | omega | (dsimp only; omega)) (fun _ _ => rfl)
      have r1a := F1.K r1 (by decide)
      have raa := F1.Y (κ := 9) (by first | omega | (dsimp only; omega)) rd
      refine g_dup G dX7_takeIn_49 rfl ?_
      first | refine g_aload_n G dX7_takeIn_50 rfl ?_ | refine g_aload_nN G dX7_takeIn_50 rfl ?_ | refine g_aload_nQ G dX7_takeIn_50 rfl ?_
      refine g_getR G fl_X7_22 (r1a) (by first | decide | omega) rfl (raa) dX7_takeIn_51 ?_
      refine g_callVp (ci := 0) G (c_Jx4a65c_size_8abf5 _ _ (ad 5 3) 4 (mN M 17) (ad 3) la) mt_Jx4a65c_size_8abf5 mi_Jx4a65c_size_8abf5 ml_X7_80 (la.1) (by first | decide | omega) rfl (by decide) (by omega) (by omega) rfl (Nat.le_of_ble_eq_true rfl) dX7_takeIn_54 ?_
      first | refine g_aload_n G dX7_takeIn_57 rfl ?_ | refine g_aload_nN G dX7_takeIn_57 rfl ?_ | refine g_aload_nQ G dX7_takeIn_57 rfl ?_
      refine g_callI G (c_X3_init _ _ q_46 (mN M 17) (ad 0 c) (ad (20 + mN M 17)) (gK_N _ _ _)) mt_X3_init mi_X3_init ml_X7_243 (by decide) (by omega) (by omega) rfl (Nat.le_of_ble_eq_true rfl) dX7_takeIn_58 (fun v_58 S_58 hp_58 => ?_)
      obtain ⟨rfl, q2, ⟨u1, u2, u3_, u4, u5, u6, u7, u8⟩, F2⟩ := hp_58
      simp only [Option.toList, List.nil_append]
      have F3 := F1.tr (K := fun k => k ≠ 5 + 32 * mN M 17 ∧ k ≠ 1 + 32 * (10 + mN M 17)) F2 (fun k z => ⟨z.1, z⟩)
      have hc9 := u1
      have lb := gLst_mono l3 F3 (by first | omega | (dsimp only; omega)) (by first | omega | (dsimp only; omega)) (fun _ _ => rfl)
      refine g_callV (ci := 0) G (c_add _ _ (ad 5 3) 4 q_46 (mN M 17) (ad 3) lb (by omega) 4 RX3 (by rw [u1]; omega) (fun i hi => by rw [F3.K (hes i hi).1 (by omega)]; omega) (by decide) rfl kco_4) mt_Jx4a65c_add_9ea2d mi_Jx4a65c_add_9ea2d ml_X7_100 (lb.1) (by first | decide | omega) rfl (by decide) (by omega) (by omega) rfl (Nat.le_of_ble_eq_true rfl) dX7_takeIn_61 (fun v_61 S_61 hp_61 => ?_)
      obtain ⟨rfl, hl, FL⟩ := hp_61
      simp only [Option.toList, List.cons_append, List.nil_append]
      have F5 := gFr_L FL
      have F4 := F3.tr (K := fun k => k ≠ 5 + 32 * mN M 17 ∧ k ≠ 1 + 32 * (10 + mN M 17) ∧ k ≠ 129 ∧ k ≠ 147) F5 (fun k z => ⟨⟨z.1, z.2.1⟩, ⟨z.2.2.1, z.2.2.2⟩⟩)
      have F5b := F5.mono (K := fun k => k = 5 + 32 * mN M 17 ∨ k = 1 + 32 * (10 + mN M 17) ∨ k = 19 + 32 * (10 + mN M 17)) (fun k z => by omega)
      have hT := gMail_take hc h6 (hz.2.2.2 _ (Nat.le_refl _)) ⟨F5b.K u1 (by omega), F5b.X (Or.inl rfl) u2, F5b.Y (Or.inl rfl) u3_, F5b.Y (Or.inl rfl) u4, F5b.X (Or.inl rfl) u5, F5b.X (Or.inl rfl) u6, F5b.Y (Or.inl rfl) u7⟩ (gLst_mono u8 F5b (Or.inr (Or.inl rfl)) (Or.inr (Or.inr rfl)) (fun _ _ => rfl)) hl h F4
      have r1b := F4.K r1 (by decide)
      have rab := F4.Y (κ := 9) (by first | omega | (dsimp only; omega)) rd
      refine g_pop G dX7_takeIn_64 rfl ?_
      first | refine g_aload_n G dX7_takeIn_65 rfl ?_ | refine g_aload_nN G dX7_takeIn_65 rfl ?_ | refine g_aload_nQ G dX7_takeIn_65 rfl ?_
      refine g_getR G fl_X7_22 (r1b) (by first | decide | omega) rfl (rab) dX7_takeIn_66 ?_
      refine g_callVp (ci := 0) G (c_Jx4a65c_size_8abf5 _ _ (ad 5 3) 4 (mN M 17 + 1) _ hl) mt_Jx4a65c_size_8abf5 mi_Jx4a65c_size_8abf5 ml_X7_80 (hl.1) (by first | decide | omega) rfl (by decide) (by omega) (by omega) rfl (Nat.le_of_ble_eq_true rfl) dX7_takeIn_69 ?_
      refine g_iconst (v := nI 1) G dX7_takeIn_72 (by decide) ?_
      refine g_isub G dX7_takeIn_73 (pk_sub (by omega)) ?_
      exact g_iret G F (⟨c, hc, rfl, by omega, rfl, hT⟩) (by omega) (by omega) dX7_takeIn_74
    · have h6 : mN M 17 = 20 := by have := (nI_leI (a := 20) (b := mN M 17) (by omega) (by omega)).mp (Int32.not_lt.mp c_29); omega
      exact g_throw (names := nm_ISE) G F tf_ISE cl_X7_55 ti_ISE st_X7_239 ta_ISE dX7_takeIn_32 (by exact dX7_takeIn_35) (by exact dX7_takeIn_36) (by exact dX7_takeIn_38) (by exact dX7_takeIn_41) (by decide) (Nat.le_of_ble_eq_true rfl) (by omega) (by omega) (⟨rfl, Or.inr ⟨rfl, h_c, h6⟩⟩)
  · have hno : ¬ (gIx (mN M 6) i) := fun z => h_c (z)
    first | refine g_aload_n G dX7_takeIn_0 rfl ?_ | refine g_aload_nN G dX7_takeIn_0 rfl ?_ | refine g_aload_nQ G dX7_takeIn_0 rfl ?_
    refine g_iload_n G dX7_takeIn_1 rfl ?_
    refine g_callVp (ci := 8) G (c_caseAt_no _ S x ad M h i (gIx_no h_c)) mt_X7_caseAt mi_X7_caseAt ml_X7_71 (by assumption) (by first | decide | omega) rfl (by decide) (by omega) (by omega) rfl (Nat.le_of_ble_eq_true rfl) dX7_takeIn_2 ?_
    first | refine g_astore_n G dX7_takeIn_5 (gSt_2 (by first | rfl | exact g_c1_rf)) ?_ | refine g_astore_nN G dX7_takeIn_5 (gSt_2 (by first | rfl | exact g_c1_rf)) ?_ | refine g_astore_nQ G dX7_takeIn_5 (gSt_2 (by first | rfl | exact g_c1_rf)) ?_
    first | refine g_aload_n G dX7_takeIn_6 rfl ?_ | refine g_aload_nN G dX7_takeIn_6 rfl ?_ | refine g_aload_nQ G dX7_takeIn_6 rfl ?_
    refine g_ifnonnullN G dX7_takeIn_7 ?_
    exact g_throw (names := nm_IOE) G F tf_IOE cl_X7_75 ti_IOE st_X7_77 ta_IOE dX7_takeIn_10 (by exact dX7_takeIn_13) (by exact dX7_takeIn_14) (by exact dX7_takeIn_16) (by exact dX7_takeIn_19) (by decide) (Nat.le_of_ble_eq_true rfl) (by omega) (by omega) (⟨rfl, Or.inl ⟨rfl, hno⟩⟩)

theorem gMail_send {d0 : Nat × Nat} {S S3 : gS} {x : Nat} {ad : Nat → Nat → Nat} {M : gM} {dd pp q : Nat} {due : Int32} (hd9 : dd < mN M 11) (hp9 : pp < mN M 8) (hz : mA M 46 (mN M 23) = nI 0) (g1 : gK S3 q = 6 + 32 * mN M 23 ∧ gY S3 (6 + 32 * mN M 23) 0 q = some (ad 2 dd) ∧ gX S3 (6 + 32 * mN M 23) 1 q = nI dd ∧ gY S3 (6 + 32 * mN M 23) 2 q = some (ad 1 pp) ∧ gX S3 (6 + 32 * mN M 23) 3 q = due ∧ gX S3 (6 + 32 * mN M 23) 4 q = nI 0 ∧ gX S3 (6 + 32 * mN M 23) 5 q = -1) (hl : gLst d0 S3 (ad 5 4) 5 (mN M 23 + 1) (fun i => if i = mN M 23 then q else ad 4 i)) (h : gMail d0 S x ad M) (F : gFr (fun k => k ≠ 6 + 32 * mN M 23 ∧ k ≠ 161 ∧ k ≠ 179) S S3) : gTo d0 x S S3 (mSend M dd pp due) := by
  obtain ⟨hr, ⟨l0, l1, l2, l3, l4⟩, ht, hcs, hps, hds, hes, hls⟩ := id h
  have hN := l1.2.2.1
  refine ⟨(uad ad 4 (mN M 23) q), ⟨?_, ⟨?_, ?_, ?_, ?_, ?_⟩, ?_, ?_, ?_, ?_, ?_, ?_⟩, F.mono (fun k (z : gMk k) => by unfold gMk at z; first | omega | (dsimp only; omega))⟩
  · exact gRoot_mono hr F (by first | omega | (dsimp only; omega)) rfl rfl rfl rfl rfl rfl
  · exact gLst_mono l0 F (by first | omega | (dsimp only; omega)) (by first | omega | (dsimp only; omega)) (fun _ _ => rfl)
  · exact gLst_mono l1 F (by first | omega | (dsimp only; omega)) (by first | omega | (dsimp only; omega)) (fun _ _ => rfl)
  · exact gLst_mono l2 F (by first | omega | (dsimp only; omega)) (by first | omega | (dsimp only; omega)) (fun _ _ => rfl)
  · exact gLst_mono l3 F (by first | omega | (dsimp only; omega)) (by first | omega | (dsimp only; omega)) (fun _ _ => rfl)
  · show gLst d0 S3 (ad 5 4) 5 (mN M 23 + 1) (uad ad 4 (mN M 23) q 4)
    rw [uad_row]
    exact hl
  · exact gTape_mono ht F (by first | omega | (dsimp only; omega)) (by first | omega | (dsimp only; omega)) rfl rfl rfl rfl rfl
  · exact fun i hi => gCase_mono (hcs i hi) F (by first | omega | (dsimp only; omega))
  · exact fun i hi => gPers_mono (hps i hi) F (by first | omega | (dsimp only; omega))
  · exact fun d hd => gDoc_mono (hds d hd) F (by first | omega | (dsimp only; omega)) (by first | omega | (dsimp only; omega)) (by first | omega | (dsimp only; omega)) (by first | omega | (dsimp only; omega)) hN rfl rfl rfl rfl (fun _ _ => rfl) (fun _ _ => rfl) (Nat.le_refl _) (Nat.le_refl _) rfl rfl rfl rfl rfl (uN_o (by omega)) rfl rfl rfl
  · exact fun e he => gExh_mono (hes e he) F (by first | omega | (dsimp only; omega)) (by first | omega | (dsimp only; omega)) (by first | omega | (dsimp only; omega)) (fun k hk => by first | omega | (dsimp only; omega)) hN rfl rfl (fun _ => uad_f (by omega)) (fun _ _ => rfl) (fun _ _ => rfl) (Nat.le_refl _) (Nat.le_refl _) rfl rfl rfl (uN_o (by omega)) (fun _ _ => rfl)
  · intro k hi
    have hi : k < mN M 23 + 1 := hi
    by_cases e : k = mN M 23
    · subst e
      have e24 : mA (mSend M dd pp due) 24 (mN M 23) = nI dd := (uA_f (by omega)).trans ((uA_f (by omega)).trans ((uA_f (by omega)).trans uA_s))
      have e25 : mA (mSend M dd pp due) 25 (mN M 23) = nI pp := (uA_f (by omega)).trans ((uA_f (by omega)).trans uA_s)
      have e26 : mA (mSend M dd pp due) 26 (mN M 23) = due := (uA_f (by omega)).trans uA_s
      have e47 : mA (mSend M dd pp due) 47 (mN M 23) = -1 := uA_s
      have e46 : mA (mSend M dd pp due) 46 (mN M 23) = nI 0 := ((uA_f (by omega)).trans ((uA_f (by omega)).trans ((uA_f (by omega)).trans (uA_f (by omega))))).trans hz
      unfold gLtr
      rw [e24, e25, e26, e46, e47, uad_s]
      exact ⟨g1.1, ⟨dd, hd9, rfl, g1.2.1⟩, g1.2.2.1, ⟨pp, hp9, rfl, g1.2.2.2.1⟩, g1.2.2.2.2.1, g1.2.2.2.2.2.1, g1.2.2.2.2.2.2⟩
    · have z3 : ∀ f, mA (mSend M dd pp due) f k = mA M f k := fun f => (uA_i e).trans ((uA_i e).trans ((uA_i e).trans (uA_i e)))
      exact gLtr_mono (hls k (by omega)) F (by first | omega | (dsimp only; omega)) (uad_i e) (fun _ _ => rfl) (fun _ _ => rfl) (Nat.le_refl _) (Nat.le_refl _) (z3 24) (z3 25) (z3 26) (z3 46) (z3 47)

set_option maxHeartbeats 4000000 in
set_option maxRecDepth 100000 in
theorem c_X7_send (d0 : Nat × Nat) (S : gS) (x : Nat) (ad : Nat → Nat → Nat) (M : gM) (h : gMail d0 S x ad M) (hB : gBnd M) (hz : gZero M) (i j t : Int32) : gCt d0 yX7_send cX7_send 6 (some .int) 10 4 150 [.ref x, .int i, .int j, .int t] S (fun v' S' => ∃ d p, d < mN M 11 ∧ i = nI d ∧ p < mN M 8 ∧ j = nI p ∧ gWt 30 t ∧ ¬ mN M 23 = 40 ∧ v' = some (.int (nI (mN M 23))) ∧ gTo d0 x S S' (mSend M d p (nI (mN M 40) + t))) (fun E S' => S' = S ∧ ((E = "java/lang/IndexOutOfBoundsException" ∧ ¬ (gIx (mN M 11) i ∧ gIx (mN M 8) j)) ∨ (E = "java/lang/IllegalArgumentException" ∧ (gIx (mN M 11) i ∧ gIx (mN M 8) j) ∧ ¬ gWt 30 t) ∨ (E = "java/lang/IllegalStateException" ∧ (gIx (mN M 11) i ∧ gIx (mN M 8) j) ∧ gWt 30 t ∧ mN M 23 = 40))) := by
  refine gCt_of (lo := [some (.ref x), some (.int i), some (.int j), some (.int t), none, none]) (by decide +kernel) (Nat.le_of_ble_eq_true rfl) (rfl) ?_
  intro Γ hd G F hini
  obtain ⟨⟨r1, ⟨ra, rb, rc, rd, re⟩, rt, rtl, rp, rpl, rdr, rep, rday⟩, ⟨l0, l1, l2, l3, l4⟩, ht, hcs, hps, hds, hes, hls⟩ := id h
  subst hd
  have hb6 := hB.2.2.2.2
  by_cases h_d : gIx (mN M 11) i
  · obtain ⟨d, hd, rfl⟩ := gIx_of h_d (by have := l2.2.2.1; omega)
    by_cases h_p : gIx (mN M 8) j
    · obtain ⟨p, hp, rfl⟩ := gIx_of h_p (by have := l1.2.2.1; omega)
      first | refine g_aload_n G dX7_send_0 rfl ?_ | refine g_aload_nN G dX7_send_0 rfl ?_ | refine g_aload_nQ G dX7_send_0 rfl ?_
      refine g_iload_n G dX7_send_1 rfl ?_
      refine g_callVp (ci := 8) G (c_documentAt _ S x ad M h d hd) mt_X7_documentAt mi_X7_documentAt ml_X7_104 (by assumption) (by first | decide | omega) rfl (by decide) (by omega) (by omega) rfl (Nat.le_of_ble_eq_true rfl) dX7_send_2 ?_
      first | refine g_astore G dX7_send_5 (gSt_4 (by first | rfl | exact g_c1_rf)) ?_ | refine g_astoreN G dX7_send_5 (gSt_4 (by first | rfl | exact g_c1_rf)) ?_ | refine g_astoreQ G dX7_send_5 (gSt_4 (by first | rfl | exact g_c1_rf)) ?_
      first | refine g_aload_n G dX7_send_7 rfl ?_ | refine g_aload_nN G dX7_send_7 rfl ?_ | refine g_aload_nQ G dX7_send_7 rfl ?_
      refine g_iload_n G dX7_send_8 rfl ?_
      refine g_callVp (ci := 8) G (c_personAt _ S x ad M h p hp) mt_X7_personAt mi_X7_personAt ml_X7_151 (by assumption) (by first | decide | omega) rfl (by decide) (by omega) (by omega) rfl (Nat.le_of_ble_eq_true rfl) dX7_send_9 ?_
      first | refine g_astore G dX7_send_12 (gSt_5 (by first | rfl | exact g_c1_rf)) ?_ | refine g_astoreN G dX7_send_12 (gSt_5 (by first | rfl | exact g_c1_rf)) ?_ | refine g_astoreQ G dX7_send_12 (gSt_5 (by first | rfl | exact g_c1_rf)) ?_
      first | refine g_aload G dX7_send_14 rfl ?_ | refine g_aloadN G dX7_send_14 rfl ?_ | refine g_aloadQ G dX7_send_14 rfl ?_
      refine g_ifnull G dX7_send_16 ?_
      first | refine g_aload G dX7_send_19 rfl ?_ | refine g_aloadN G dX7_send_19 rfl ?_ | refine g_aloadQ G dX7_send_19 rfl ?_
      refine g_ifnonnull (tgt := 34) G dX7_send_21 (by decide) ?_
      refine g_iload_n G dX7_send_34 rfl ?_
      refine g_if_lt (tgt := 44) G dX7_send_35 (by decide) (fun c_35 => ?_) (fun c_35 => ?_)
      · have hno : ¬ gWt 30 t := fun z => absurd z.1 (Int32.not_le.mpr c_35)
        exact g_throwW (names := nm_IAE) G F tf_IAE cl_X7_66 ti_IAE st_X7_308 ta_IAE dX7_send_44 (by exact dX7_send_47) (by exact dX7_send_48) (by exact dX7_send_51) (by exact dX7_send_54) (by decide) (Nat.le_of_ble_eq_true rfl) (by omega) (by omega) (⟨rfl, Or.inr (Or.inl ⟨rfl, ⟨h_d, h_p⟩, hno⟩)⟩)
      · refine g_iload_n G dX7_send_38 rfl ?_
        refine g_bipush (v := nI 30) G dX7_send_39 (by decide) ?_
        refine g_icmp_le (tgt := 55) G dX7_send_41 (by decide) (fun c_41 => ?_) (fun c_41 => ?_)
        · have hw : gWt 30 t := ⟨Int32.not_lt.mp c_35, c_41⟩
          first | refine g_aload_n G dX7_send_55 rfl ?_ | refine g_aload_nN G dX7_send_55 rfl ?_ | refine g_aload_nQ G dX7_send_55 rfl ?_
          first | refine g_getR G fl_X7_25 (by assumption) (by first | decide | omega) rfl (by assumption) dX7_send_56 ?_ | refine g_getZ G fl_X7_25 (by assumption) (by first | decide | omega) rfl (by assumption) dX7_send_56 ?_ | refine g_getQ G fl_X7_25 (by assumption) (by first | decide | omega) rfl (by first | assumption | rfl) dX7_send_56 ?_
          refine g_callVp (ci := 0) G (c_Jx4a65c_size_8abf5 _ S (ad 5 4) 5 (mN M 23) (ad 4) l4) mt_Jx4a65c_size_8abf5 mi_Jx4a65c_size_8abf5 ml_X7_80 (l4.1) (by first | decide | omega) rfl (by decide) (by omega) (by omega) rfl (Nat.le_of_ble_eq_true rfl) dX7_send_59 ?_
          refine g_bipush (v := nI 40) G dX7_send_62 (by decide) ?_
          refine g_icmp_lt (tgt := 78) G dX7_send_64 (by decide) (fun c_64 => ?_) (fun c_64 => ?_)
          · have h6 : mN M 23 < 40 := (nI_ltI (a := mN M 23) (b := 40) (by omega) (by omega)).mp c_64
            first | refine g_aload_n G dX7_send_78 rfl ?_ | refine g_aload_nN G dX7_send_78 rfl ?_ | refine g_aload_nQ G dX7_send_78 rfl ?_
            first | refine g_getR G fl_X7_25 (by assumption) (by first | decide | omega) rfl (by assumption) dX7_send_79 ?_ | refine g_getZ G fl_X7_25 (by assumption) (by first | decide | omega) rfl (by assumption) dX7_send_79 ?_ | refine g_getQ G fl_X7_25 (by assumption) (by first | decide | omega) rfl (by first | assumption | rfl) dX7_send_79 ?_
            refine g_new (N := 6) (κ := 6 + 32 * mN M 23) G nw_X7_312 (by first | decide | omega) rfl (by omega) (by omega) dX7_send_82 (fun q_82 hq_82 => ?_)
            have F1 := gFr_N (S := S) (6 + 32 * mN M 23) hq_82
            have la := gLst_mono l4 F1 (by first | omega | (dsimp only; omega)) (by first | omega | (dsimp only; omega)) (fun _ _ => rfl)
            have r1a := F1.K r1 (by decide)
            have raa := F1.Y (κ := 9) (by first | omega | (dsimp only; omega)) re
            refine g_dup G dX7_send_85 rfl ?_
            first | refine g_aload G dX7_send_86 rfl ?_ | refine g_aloadN G dX7_send_86 rfl ?_ | refine g_aloadQ G dX7_send_86 rfl ?_
            refine g_iload_n G dX7_send_88 rfl ?_
            first | refine g_aload G dX7_send_89 rfl ?_ | refine g_aloadN G dX7_send_89 rfl ?_ | refine g_aloadQ G dX7_send_89 rfl ?_
            first | refine g_aload_n G dX7_send_91 rfl ?_ | refine g_aload_nN G dX7_send_91 rfl ?_ | refine g_aload_nQ G dX7_send_91 rfl ?_
            refine g_getI G fl_X7_52 (r1a) (by first | decide | omega) rfl (F1.X (by first | omega | (dsimp only; omega)) rday) dX7_send_92 ?_
            refine g_iload_n G dX7_send_95 rfl ?_
            refine g_iadd G dX7_send_96 (rfl) ?_
            refine g_callI G (c_X4_init _ _ q_82 (mN M 23) (ad 2 d) (ad 1 p) (nI d) (nI (mN M 40) + t) (gK_N _ _ _)) mt_X4_init mi_X4_init ml_X7_314 (by decide) (by omega) (by omega) rfl (Nat.le_of_ble_eq_true rfl) dX7_send_97 (fun v_97 S_97 hp_97 => ?_)
            obtain ⟨rfl, hc, F2⟩ := hp_97
            simp only [Option.toList, List.nil_append]
            have F3 := F1.tr (K := fun k => k ≠ 6 + 32 * mN M 23) F2 (fun k z => ⟨z, z⟩)
            have lb := gLst_mono l4 F3 (by first | omega | (dsimp only; omega)) (by first | omega | (dsimp only; omega)) (fun _ _ => rfl)
            refine g_callV (ci := 0) G (c_add _ _ (ad 5 4) 5 q_82 (mN M 23) (ad 4) lb (by omega) 5 RX4 (by rw [hc.1]; omega) (fun i hi => by rw [F3.K (hls i hi).1 (by omega)]; omega) (by decide) rfl kco_5) mt_Jx4a65c_add_9ea2d mi_Jx4a65c_add_9ea2d ml_X7_100 (lb.1) (by first | decide | omega) rfl (by decide) (by omega) (by omega) rfl (Nat.le_of_ble_eq_true rfl) dX7_send_100 (fun v_100 S_100 hp_100 => ?_)
            obtain ⟨rfl, hl, FL⟩ := hp_100
            simp only [Option.toList, List.cons_append, List.nil_append]
            have F5 := gFr_L FL
            have F4 := F3.tr (K := fun k => k ≠ 6 + 32 * mN M 23 ∧ k ≠ 161 ∧ k ≠ 179) F5 (fun k z => ⟨z.1, z.2⟩)
            have F5b := F5.mono (K := fun k => k = 6 + 32 * mN M 23) (fun k z => by omega)
            obtain ⟨u1, u2, u3_, u4, u5, u6, u7⟩ := hc
            have hT := gMail_send hd hp (hz.2.2.1 _ (Nat.le_refl _)) ⟨F5b.K u1 (by omega), F5b.Y rfl u2, F5b.X rfl u3_, F5b.Y rfl u4, F5b.X rfl u5, F5b.X rfl u6, F5b.X rfl u7⟩ hl h F4
            have r1b := F4.K r1 (by decide)
            have rab := F4.Y (κ := 9) (by first | omega | (dsimp only; omega)) re
            refine g_pop G dX7_send_103 rfl ?_
            first | refine g_aload_n G dX7_send_104 rfl ?_ | refine g_aload_nN G dX7_send_104 rfl ?_ | refine g_aload_nQ G dX7_send_104 rfl ?_
            refine g_getR G fl_X7_25 (r1b) (by first | decide | omega) rfl (rab) dX7_send_105 ?_
            refine g_callVp (ci := 0) G (c_Jx4a65c_size_8abf5 _ _ (ad 5 4) 5 (mN M 23 + 1) _ hl) mt_Jx4a65c_size_8abf5 mi_Jx4a65c_size_8abf5 ml_X7_80 (hl.1) (by first | decide | omega) rfl (by decide) (by omega) (by omega) rfl (Nat.le_of_ble_eq_true rfl) dX7_send_108 ?_
            refine g_iconst (v := nI 1) G dX7_send_111 (by decide) ?_
            refine g_isub G dX7_send_112 (pk_sub (by omega)) ?_
            exact g_iret G F (⟨d, p, hd, rfl, hp, rfl, hw, by omega, rfl, hT⟩) (by omega) (by omega) dX7_send_113
          · have h6 : mN M 23 = 40 := by have := (nI_leI (a := 40) (b := mN M 23) (by omega) (by omega)).mp (Int32.not_lt.mp c_64); omega
            exact g_throwW (names := nm_ISE) G F tf_ISE cl_X7_55 ti_ISE st_X7_310 ta_ISE dX7_send_67 (by exact dX7_send_70) (by exact dX7_send_71) (by exact dX7_send_74) (by exact dX7_send_77) (by decide) (Nat.le_of_ble_eq_true rfl) (by omega) (by omega) (⟨rfl, Or.inr (Or.inr ⟨rfl, ⟨h_d, h_p⟩, hw, h6⟩)⟩)
        · have hno : ¬ gWt 30 t := fun z => c_41 z.2
          exact g_throwW (names := nm_IAE) G F tf_IAE cl_X7_66 ti_IAE st_X7_308 ta_IAE dX7_send_44 (by exact dX7_send_47) (by exact dX7_send_48) (by exact dX7_send_51) (by exact dX7_send_54) (by decide) (Nat.le_of_ble_eq_true rfl) (by omega) (by omega) (⟨rfl, Or.inr (Or.inl ⟨rfl, ⟨h_d, h_p⟩, hno⟩)⟩)
    · have hno : ¬ (gIx (mN M 11) (nI d) ∧ gIx (mN M 8) j) := fun z => h_p (z.2)
      first | refine g_aload_n G dX7_send_0 rfl ?_ | refine g_aload_nN G dX7_send_0 rfl ?_ | refine g_aload_nQ G dX7_send_0 rfl ?_
      refine g_iload_n G dX7_send_1 rfl ?_
      refine g_callVp (ci := 8) G (c_documentAt _ S x ad M h d hd) mt_X7_documentAt mi_X7_documentAt ml_X7_104 (by assumption) (by first | decide | omega) rfl (by decide) (by omega) (by omega) rfl (Nat.le_of_ble_eq_true rfl) dX7_send_2 ?_
      first | refine g_astore G dX7_send_5 (gSt_4 (by first | rfl | exact g_c1_rf)) ?_ | refine g_astoreN G dX7_send_5 (gSt_4 (by first | rfl | exact g_c1_rf)) ?_ | refine g_astoreQ G dX7_send_5 (gSt_4 (by first | rfl | exact g_c1_rf)) ?_
      first | refine g_aload_n G dX7_send_7 rfl ?_ | refine g_aload_nN G dX7_send_7 rfl ?_ | refine g_aload_nQ G dX7_send_7 rfl ?_
      refine g_iload_n G dX7_send_8 rfl ?_
      refine g_callVp (ci := 8) G (c_personAt_no _ S x ad M h j (gIx_no h_p)) mt_X7_personAt mi_X7_personAt ml_X7_151 (by assumption) (by first | decide | omega) rfl (by decide) (by omega) (by omega) rfl (Nat.le_of_ble_eq_true rfl) dX7_send_9 ?_
      first | refine g_astore G dX7_send_12 (gSt_5 (by first | rfl | exact g_c1_rf)) ?_ | refine g_astoreN G dX7_send_12 (gSt_5 (by first | rfl | exact g_c1_rf)) ?_ | refine g_astoreQ G dX7_send_12 (gSt_5 (by first | rfl | exact g_c1_rf)) ?_
      first | refine g_aload G dX7_send_14 rfl ?_ | refine g_aloadN G dX7_send_14 rfl ?_ | refine g_aloadQ G dX7_send_14 rfl ?_
      refine g_ifnull G dX7_send_16 ?_
      first | refine g_aload G dX7_send_19 rfl ?_ | refine g_aloadN G dX7_send_19 rfl ?_ | refine g_aloadQ G dX7_send_19 rfl ?_
      refine g_ifnonnullN G dX7_send_21 ?_
      exact g_throw (names := nm_IOE) G F tf_IOE cl_X7_75 ti_IOE st_X7_219 ta_IOE dX7_send_24 (by exact dX7_send_27) (by exact dX7_send_28) (by exact dX7_send_30) (by exact dX7_send_33) (by decide) (Nat.le_of_ble_eq_true rfl) (by omega) (by omega) (⟨rfl, Or.inl ⟨rfl, hno⟩⟩)
  · have hno : ¬ (gIx (mN M 11) i ∧ gIx (mN M 8) j) := fun z => h_d (z.1)
    by_cases h_p : gIx (mN M 8) j
    · obtain ⟨p, hp, rfl⟩ := gIx_of h_p (by have := l1.2.2.1; omega)
      first | refine g_aload_n G dX7_send_0 rfl ?_ | refine g_aload_nN G dX7_send_0 rfl ?_ | refine g_aload_nQ G dX7_send_0 rfl ?_
      refine g_iload_n G dX7_send_1 rfl ?_
      refine g_callVp (ci := 8) G (c_documentAt_no _ S x ad M h i (gIx_no h_d)) mt_X7_documentAt mi_X7_documentAt ml_X7_104 (by assumption) (by first | decide | omega) rfl (by decide) (by omega) (by omega) rfl (Nat.le_of_ble_eq_true rfl) dX7_send_2 ?_
      first | refine g_astore G dX7_send_5 (gSt_4 (by first | rfl | exact g_c1_rf)) ?_ | refine g_astoreN G dX7_send_5 (gSt_4 (by first | rfl | exact g_c1_rf)) ?_ | refine g_astoreQ G dX7_send_5 (gSt_4 (by first | rfl | exact g_c1_rf)) ?_
      first | refine g_aload_n G dX7_send_7 rfl ?_ | refine g_aload_nN G dX7_send_7 rfl ?_ | refine g_aload_nQ G dX7_send_7 rfl ?_
      refine g_iload_n G dX7_send_8 rfl ?_
      refine g_callVp (ci := 8) G (c_personAt _ S x ad M h p hp) mt_X7_personAt mi_X7_personAt ml_X7_151 (by assumption) (by first | decide | omega) rfl (by decide) (by omega) (by omega) rfl (Nat.le_of_ble_eq_true rfl) dX7_send_9 ?_
      first | refine g_astore G dX7_send_12 (gSt_5 (by first | rfl | exact g_c1_rf)) ?_ | refine g_astoreN G dX7_send_12 (gSt_5 (by first | rfl | exact g_c1_rf)) ?_ | refine g_astoreQ G dX7_send_12 (gSt_5 (by first | rfl | exact g_c1_rf)) ?_
      first | refine g_aload G dX7_send_14 rfl ?_ | refine g_aloadN G dX7_send_14 rfl ?_ | refine g_aloadQ G dX7_send_14 rfl ?_
      refine g_ifnullN (tgt := 24) G dX7_send_16 (by decide) ?_
      exact g_throw (names := nm_IOE) G F tf_IOE cl_X7_75 ti_IOE st_X7_219 ta_IOE dX7_send_24 (by exact dX7_send_27) (by exact dX7_send_28) (by exact dX7_send_30) (by exact dX7_send_33) (by decide) (Nat.le_of_ble_eq_true rfl) (by omega) (by omega) (⟨rfl, Or.inl ⟨rfl, hno⟩⟩)
    · first | refine g_aload_n G dX7_send_0 rfl ?_ | refine g_aload_nN G dX7_send_0 rfl ?_ | refine g_aload_nQ G dX7_send_0 rfl ?_
      refine g_iload_n G dX7_send_1 rfl ?_
      refine g_callVp (ci := 8) G (c_documentAt_no _ S x ad M h i (gIx_no h_d)) mt_X7_documentAt mi_X7_documentAt ml_X7_104 (by assumption) (by first | decide | omega) rfl (by decide) (by omega) (by omega) rfl (Nat.le_of_ble_eq_true rfl) dX7_send_2 ?_
      first | refine g_astore G dX7_send_5 (gSt_4 (by first | rfl | exact g_c1_rf)) ?_ | refine g_astoreN G dX7_send_5 (gSt_4 (by first | rfl | exact g_c1_rf)) ?_ | refine g_astoreQ G dX7_send_5 (gSt_4 (by first | rfl | exact g_c1_rf)) ?_
      first | refine g_aload_n G dX7_send_7 rfl ?_ | refine g_aload_nN G dX7_send_7 rfl ?_ | refine g_aload_nQ G dX7_send_7 rfl ?_
      refine g_iload_n G dX7_send_8 rfl ?_
      refine g_callVp (ci := 8) G (c_personAt_no _ S x ad M h j (gIx_no h_p)) mt_X7_personAt mi_X7_personAt ml_X7_151 (by assumption) (by first | decide | omega) rfl (by decide) (by omega) (by omega) rfl (Nat.le_of_ble_eq_true rfl) dX7_send_9 ?_
      first | refine g_astore G dX7_send_12 (gSt_5 (by first | rfl | exact g_c1_rf)) ?_ | refine g_astoreN G dX7_send_12 (gSt_5 (by first | rfl | exact g_c1_rf)) ?_ | refine g_astoreQ G dX7_send_12 (gSt_5 (by first | rfl | exact g_c1_rf)) ?_
      first | refine g_aload G dX7_send_14 rfl ?_ | refine g_aloadN G dX7_send_14 rfl ?_ | refine g_aloadQ G dX7_send_14 rfl ?_
      refine g_ifnullN (tgt := 24) G dX7_send_16 (by decide) ?_
      exact g_throw (names := nm_IOE) G F tf_IOE cl_X7_75 ti_IOE st_X7_219 ta_IOE dX7_send_24 (by exact dX7_send_27) (by exact dX7_send_28) (by exact dX7_send_30) (by exact dX7_send_33) (by decide) (Nat.le_of_ble_eq_true rfl) (by omega) (by omega) (⟨rfl, Or.inl ⟨rfl, hno⟩⟩)
