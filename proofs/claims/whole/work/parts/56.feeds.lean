/-! ===== the reference: feed, veil, read ===== -/
theorem mPut_o {M : gM} {v : Int32} {i : Nat} (h : i ≠ 2) : mN (mPut M v) i = mN M i := uN_o h
theorem mApp_o {M : gM} {v : Int32} {i : Nat} (h : i ≠ 2) : mN (mApp M v) i = mN M i := (mPut_o h).trans ((mPut_o h).trans ((mPut_o h).trans (mPut_o h)))
theorem mFeed_o {M : gM} {a b c d e : Int32} {i : Nat} (h : i ≠ 2) : mN (mFeed M a b c d e) i = mN M i := (mApp_o h).trans ((mApp_o h).trans ((mApp_o h).trans ((mApp_o h).trans (mApp_o h))))
theorem mPut_f {M : gM} {v : Int32} {f : Nat} (h : f ≠ 1) : mA (mPut M v) f = mA M f := funext fun _ => uA_f h
theorem mApp_f {M : gM} {v : Int32} {f : Nat} (h : f ≠ 1) : mA (mApp M v) f = mA M f := (mPut_f h).trans ((mPut_f h).trans ((mPut_f h).trans (mPut_f h)))
theorem mFeed_f {M : gM} {a b c d e : Int32} {f : Nat} (h : f ≠ 1) : mA (mFeed M a b c d e) f = mA M f := (mApp_f h).trans ((mApp_f h).trans ((mApp_f h).trans ((mApp_f h).trans (mApp_f h))))
theorem mFeed_n {M : gM} {a b c d e : Int32} : mN (mFeed M a b c d e) 2 = mN M 2 + 20 := rfl

set_option maxHeartbeats 4000000 in
set_option maxRecDepth 100000 in
theorem c_X9_feed (d0 : Nat × Nat) (S : gS) (y : Nat) (b : Nat → Nat → Nat) (M : gM) (h : gRef S y b M) (i : gInv M) (v0 v1 v2 v3 v4 : Int32) (hn : mN M 2 + 20 ≤ 1000) : gCt d0 yX9_feed cX9_feed 8 (some .int) 10 1 12 [.ref y, .int v0, .int v1, .int v2, .int v3, .int v4] S (gAn S y 0 (mFeed M v0 v1 v2 v3 v4) (some (.int (nI (mN M 2 + 20))))) gNo := by
  refine gCt_of (lo := [some (.ref y), some (.int v0), some (.int v1), some (.int v2), some (.int v3), some (.int v4), none, none]) (by decide +kernel) (Nat.le_of_ble_eq_true rfl) (rfl) ?_
  intro Γ hd G F hini
  first | refine g_aload_n G dX9_feed_0 rfl ?_ | refine g_aload_nN G dX9_feed_0 rfl ?_ | refine g_aload_nQ G dX9_feed_0 rfl ?_
  refine g_iconst (v := nI 0) G dX9_feed_1 (by decide) ?_
  refine g_putI G fl_X9_91 pu_10_0 (h.1.kd) (by first | decide | omega) rfl dX9_feed_2 ?_
  have h0 := gRef_th (v := nI 0) h
  obtain ⟨r, q, -⟩ := id h0
  obtain ⟨i6, i8, i11, i17, i23, i2, i5⟩ := i.b
  first | refine g_aload_n G dX9_feed_5 rfl ?_ | refine g_aload_nN G dX9_feed_5 rfl ?_ | refine g_aload_nQ G dX9_feed_5 rfl ?_
  refine g_getI G fl_X9_110 (r.kd) (by first | decide | omega) rfl (r.n 2 rfl) dX9_feed_6 ?_
  refine g_bipush (v := nI 20) G dX9_feed_9 (by decide) ?_
  refine g_iadd G dX9_feed_11 (nI_add _ 20) ?_
  refine g_sipush (v := nI 1000) G dX9_feed_12 (by decide) ?_
  refine g_icmp_le (tgt := 24) G dX9_feed_15 (by decide) (fun c_15 => ?_) (fun c_15 => (absurd ((nI_leI (b := 1000) (by omega) (by omega)).mpr hn) c_15))
  refine g_iconst (v := nI 5) G dX9_feed_24 (by decide) ?_
  refine g_new_int (κ := 17 + 32 * 90) G ac_int (by first | decide | omega) (rfl) (by omega) (by omega) (by omega) dX9_feed_25 (fun q_25 hq_25 => ?_)
  have hlen : gL (sM (sX S 11 0 y (nI 0)) (17 + 32 * 90) q_25 5) q_25 = 5 := va_up_self _ _ _
  have hk9 : ∀ κ, gRk κ → κ ≠ 17 + 32 * 90 := fun κ z e => gRk_9 (e ▸ z)
  refine g_dup G dX9_feed_27 rfl ?_
  refine g_iconst (v := nI 0) G dX9_feed_28 (by decide) ?_
  refine g_iload_n G dX9_feed_29 rfl ?_
  refine g_iast G (va_up_self _ _ _) (by first | decide | omega) (show 0 < gL (sM (sX S 11 0 y (nI 0)) (17 + 32 * 90) q_25 5) q_25 by rw [hlen]; decide) (by omega) (rfl) dX9_feed_30 ?_
  refine g_dup G dX9_feed_31 rfl ?_
  refine g_iconst (v := nI 1) G dX9_feed_32 (by decide) ?_
  refine g_iload_n G dX9_feed_33 rfl ?_
  refine g_iast G (va_up_self _ _ _) (by first | decide | omega) (show 1 < gL (sM (sX S 11 0 y (nI 0)) (17 + 32 * 90) q_25 5) q_25 by rw [hlen]; decide) (by omega) (rfl) dX9_feed_34 ?_
  refine g_dup G dX9_feed_35 rfl ?_
  refine g_iconst (v := nI 2) G dX9_feed_36 (by decide) ?_
  refine g_iload_n G dX9_feed_37 rfl ?_
  refine g_iast G (va_up_self _ _ _) (by first | decide | omega) (show 2 < gL (sM (sX S 11 0 y (nI 0)) (17 + 32 * 90) q_25 5) q_25 by rw [hlen]; decide) (by omega) (rfl) dX9_feed_38 ?_
  refine g_dup G dX9_feed_39 rfl ?_
  refine g_iconst (v := nI 3) G dX9_feed_40 (by decide) ?_
  refine g_iload G dX9_feed_41 rfl ?_
  refine g_iast G (va_up_self _ _ _) (by first | decide | omega) (show 3 < gL (sM (sX S 11 0 y (nI 0)) (17 + 32 * 90) q_25 5) q_25 by rw [hlen]; decide) (by omega) (rfl) dX9_feed_43 ?_
  refine g_dup G dX9_feed_44 rfl ?_
  refine g_iconst (v := nI 4) G dX9_feed_45 (by decide) ?_
  refine g_iload G dX9_feed_46 rfl ?_
  refine g_iast G (va_up_self _ _ _) (by first | decide | omega) (show 4 < gL (sM (sX S 11 0 y (nI 0)) (17 + 32 * 90) q_25 5) q_25 by rw [hlen]; decide) (by omega) (rfl) dX9_feed_48 ?_
  first | refine g_astore G dX9_feed_49 (gSt_6 (by first | rfl | exact g_c1_rf)) ?_ | refine g_astoreN G dX9_feed_49 (gSt_6 (by first | rfl | exact g_c1_rf)) ?_ | refine g_astoreQ G dX9_feed_49 (gSt_6 (by first | rfl | exact g_c1_rf)) ?_
  refine g_iconst (v := nI 0) G dX9_feed_51 (by decide) ?_
  refine g_istore G dX9_feed_52 (gSt_7 (by first | rfl | exact g_c1_rf)) ?_
  have hfr : gFr (fun k => k ≠ 17 + 32 * 90) (sX S 11 0 y (nI 0)) (sX (sX (sX (sX (sX (sM (sX S 11 0 y (nI 0)) (17 + 32 * 90) q_25 5) (17 + 32 * 90) q_25 0 v0) (17 + 32 * 90) q_25 1 v1) (17 + 32 * 90) q_25 2 v2) (17 + 32 * 90) q_25 3 v3) (17 + 32 * 90) q_25 4 v4) := (((((gFr_M (17 + 32 * 90) 5 hq_25).X1 _ _ _ (fun _ z => z)).X1 _ _ _ (fun _ z => z)).X1 _ _ _ (fun _ z => z)).X1 _ _ _ (fun _ z => z)).X1 _ _ _ (fun _ z => z)
  have hR0 := gRef_mono h0 hfr hk9
  have hx0 : ∀ j, j < 5 → gX (sX (sX (sX (sX (sX (sM (sX S 11 0 y (nI 0)) (17 + 32 * 90) q_25 5) (17 + 32 * 90) q_25 0 v0) (17 + 32 * 90) q_25 1 v1) (17 + 32 * 90) q_25 2 v2) (17 + 32 * 90) q_25 3 v3) (17 + 32 * 90) q_25 4 v4) (17 + 32 * 90) q_25 j = gFive v0 v1 v2 v3 v4 j := fun j hj => by
    obtain rfl | rfl | rfl | rfl | rfl := (show j = 0 ∨ j = 1 ∨ j = 2 ∨ j = 3 ∨ j = 4 by omega)
    · exact sX_q (by decide) (sX_q (by decide) (sX_q (by decide) (sX_q (by decide) (sX_s))))
    · exact sX_q (by decide) (sX_q (by decide) (sX_q (by decide) (sX_s)))
    · exact sX_q (by decide) (sX_q (by decide) (sX_s))
    · exact sX_q (by decide) (sX_s)
    · exact sX_s
  have loop54 : ∀ f2 t : Nat, ∀ St : gS, t ≤ 20 → 20 + 1 ≤ t + f2 → (gRef St y b M ∧ gX St 11 0 y = nI 0 ∧ gFr gCk S St ∧ gK St q_25 = 17 + 32 * 90 ∧ gL St q_25 = 5 ∧ (∀ j, j < 5 → gX St (17 + 32 * 90) q_25 j = gFive v0 v1 v2 v3 v4 j) ∧ ∀ k, k < t → gX St (17 + 32 * (10 + 1)) (b 0 1) (mN M 2 + k) = gByte (gFive v0 v1 v2 v3 v4 (k / 4)) (24 - 8 * (k % 4))) → gW Γ 54 [some (.ref y), some (.int v0), some (.int v1), some (.int v2), some (.int v3), some (.int v4), some (.ref q_25), some (.int (nI (t)))] [] St 1 5 := by
    intro f2
    induction f2 with
    | zero => intro t St  q1 q2; omega
    | succ f2 ih2 =>
      intro t St  ht2 hf2  hv2
      obtain ⟨hR, hth, hF9, hq1, hq2, hq3, hq4⟩ := hv2
      obtain ⟨r, q, -⟩ := id hR
      refine g_iload G dX9_feed_54 rfl ?_
      refine g_bipush (v := nI 20) G dX9_feed_56 (by decide) ?_
      refine g_icmp_ge (tgt := 101) G dX9_feed_58 (by decide) (fun c_58 => ?_) (fun c_58 => ?_)
      · have et : t = 20 := by have := (nI_leI (by omega) (by omega)).mp c_58; omega
        subst et
        first | refine g_aload_n G dX9_feed_101 rfl ?_ | refine g_aload_nN G dX9_feed_101 rfl ?_ | refine g_aload_nQ G dX9_feed_101 rfl ?_
        refine g_dup G dX9_feed_102 rfl ?_
        refine g_getI G fl_X9_110 (r.kd) (by first | decide | omega) rfl (r.n 2 rfl) dX9_feed_103 ?_
        refine g_bipush (v := nI 20) G dX9_feed_106 (by decide) ?_
        refine g_iadd G dX9_feed_108 (nI_add _ 20) ?_
        refine g_putI G fl_X9_110 pu_10_2 (r.kd) (by first | decide | omega) rfl dX9_feed_109 ?_
        have h9 := gRef_feed (M' := mFeed M v0 v1 v2 v3 v4) (n := mN M 2 + 20) hR mFeed_n (fun i hi => mFeed_o hi) (fun f hf => mFeed_f hf) rfl (fun j hj => by
          by_cases z : j < mN M 2
          · exact (r.t z).trans (mFeed_lo z).symm
          · have z2 := hq4 (j - mN M 2) (by omega)
            rw [show mN M 2 + (j - mN M 2) = j by omega] at z2
            have z3 := mFeed_at (M := M) (a := v0) (b := v1) (c := v2) (d := v3) (e := v4) (k := j - mN M 2) (by omega)
            rw [show mN M 2 + (j - mN M 2) = j by omega] at z3
            exact z2.trans z3.symm)
        obtain ⟨r9, q9, -⟩ := id h9
        first | refine g_aload_n G dX9_feed_112 rfl ?_ | refine g_aload_nN G dX9_feed_112 rfl ?_ | refine g_aload_nQ G dX9_feed_112 rfl ?_
        refine g_getI G fl_X9_110 (r9.kd) (by first | decide | omega) rfl ((show gX _ 11 2 y = nI (mN M 2 + 20) from r9.n 2 rfl)) dX9_feed_113 ?_
        exact g_iret G F (⟨rfl, sX_p (by decide) hth, b, h9, hF9.X1 _ _ _ (fun k z => by unfold gCk at z; omega)⟩) (by omega) (by omega) dX9_feed_116
      · have hlt2 : t < 20 := by have z : ¬ 20 ≤ t := fun z => c_58 ((nI_leI (by omega) (by omega)).mpr z); omega
        first | refine g_aload_n G dX9_feed_61 rfl ?_ | refine g_aload_nN G dX9_feed_61 rfl ?_ | refine g_aload_nQ G dX9_feed_61 rfl ?_
        refine g_getR G fl_X9_9 (r.kd) (by first | decide | omega) rfl (r.Y 1 rfl) dX9_feed_62 ?_
        first | refine g_aload_n G dX9_feed_65 rfl ?_ | refine g_aload_nN G dX9_feed_65 rfl ?_ | refine g_aload_nQ G dX9_feed_65 rfl ?_
        refine g_getI G fl_X9_110 (r.kd) (by first | decide | omega) rfl (r.n 2 rfl) dX9_feed_66 ?_
        refine g_iload G dX9_feed_69 rfl ?_
        refine g_iadd G dX9_feed_71 (nI_add _ _) ?_
        first | refine g_aload G dX9_feed_72 rfl ?_ | refine g_aloadN G dX9_feed_72 rfl ?_ | refine g_aloadQ G dX9_feed_72 rfl ?_
        refine g_iload G dX9_feed_74 rfl ?_
        refine g_iconst (v := nI 4) G dX9_feed_76 (by decide) ?_
        refine g_idiv G dX9_feed_77 (by decide) (pk_div (d := 4) (by omega) (by omega) (by omega)) ?_
        refine g_iald G (hq1) (by first | decide | omega) (by rw [hq2]; omega) (by omega) (hq3 _ (by omega)) dX9_feed_78 ?_
        refine g_bipush (v := nI 24) G dX9_feed_79 (by decide) ?_
        refine g_bipush (v := nI 8) G dX9_feed_81 (by decide) ?_
        refine g_iload G dX9_feed_83 rfl ?_
        refine g_iconst (v := nI 4) G dX9_feed_85 (by decide) ?_
        refine g_irem G dX9_feed_86 (by decide) (pk_rem (d := 4) (by omega) (by omega) (by omega)) ?_
        refine g_imul G dX9_feed_87 (pk_mul 8 _) ?_
        refine g_isub G dX9_feed_88 (pk_sub (by omega)) ?_
        refine g_iushr G dX9_feed_89 (rfl) ?_
        refine g_sipush (v := nI 255) G dX9_feed_90 (by decide) ?_
        refine g_iand G dX9_feed_93 (rfl) ?_
        refine g_iast G (r.A 1 rfl) (by first | decide | omega) (r.lt 1 999 rfl (by omega)) (by omega) (rfl) dX9_feed_94 ?_
        have hR2 := gRef_t (j := mN M 2 + t) (gByte (gFive v0 v1 v2 v3 v4 (t / 4)) (24 - 8 * (t % 4))) hR (by omega)
        refine g_iinc (v := _) G dX9_feed_95 rfl (by first | exact nI_1 _ | rfl) (gSt_7 (by first | rfl | exact g_c1_rf)) ?_
        refine g_goto (tgt := 54) G dX9_feed_98 (by decide) ?_
        exact ih2 (t + 1) _ (by omega) (by omega) ⟨hR2, sX_k (by decide) hth, hF9.X1 _ _ _ (fun k z => by unfold gCk at z; omega), hq1, hq2, fun j hj => sX_k (by decide) (hq3 j hj), fun k hk => by
          by_cases e : k = t
          · rw [e]; exact sX_s
          · exact sX_q (by omega) (hq4 k (by omega))⟩
  exact loop54 (20 + 1) 0 _ (by omega) (by omega) ⟨hR0, hfr.X (by decide) sX_s, gFr_th.tr hfr (fun k z => ⟨z, by unfold gCk at z; omega⟩), va_up_self _ _ _, va_up_self _ _ _, hx0, fun k hk => by omega⟩

set_option maxHeartbeats 4000000 in
set_option maxRecDepth 100000 in
theorem c_X9_feed_no (d0 : Nat × Nat) (S : gS) (y : Nat) (b : Nat → Nat → Nat) (M : gM) (h : gRef S y b M) (i : gInv M) (v0 v1 v2 v3 v4 : Int32) (hno : ¬ mN M 2 + 20 ≤ 1000) : gCt d0 yX9_feed cX9_feed 8 (some .int) 10 1 12 [.ref y, .int v0, .int v1, .int v2, .int v3, .int v4] S (gAn S y 1 M (some (.int (nI 0)))) gNo := by
  refine gCt_of (lo := [some (.ref y), some (.int v0), some (.int v1), some (.int v2), some (.int v3), some (.int v4), none, none]) (by decide +kernel) (Nat.le_of_ble_eq_true rfl) (rfl) ?_
  intro Γ hd G F hini
  first | refine g_aload_n G dX9_feed_0 rfl ?_ | refine g_aload_nN G dX9_feed_0 rfl ?_ | refine g_aload_nQ G dX9_feed_0 rfl ?_
  refine g_iconst (v := nI 0) G dX9_feed_1 (by decide) ?_
  refine g_putI G fl_X9_91 pu_10_0 (h.1.kd) (by first | decide | omega) rfl dX9_feed_2 ?_
  have h0 := gRef_th (v := nI 0) h
  obtain ⟨r, q, -⟩ := id h0
  obtain ⟨i6, i8, i11, i17, i23, i2, i5⟩ := i.b
  first | refine g_aload_n G dX9_feed_5 rfl ?_ | refine g_aload_nN G dX9_feed_5 rfl ?_ | refine g_aload_nQ G dX9_feed_5 rfl ?_
  refine g_getI G fl_X9_110 (r.kd) (by first | decide | omega) rfl (r.n 2 rfl) dX9_feed_6 ?_
  refine g_bipush (v := nI 20) G dX9_feed_9 (by decide) ?_
  refine g_iadd G dX9_feed_11 (nI_add _ 20) ?_
  refine g_sipush (v := nI 1000) G dX9_feed_12 (by decide) ?_
  refine g_icmp_le (tgt := 24) G dX9_feed_15 (by decide) (fun c_15 => (absurd ((nI_leI (b := 1000) (by omega) (by omega)).mp c_15) hno)) (fun c_15 => ?_)
  first | refine g_aload_n G dX9_feed_18 rfl ?_ | refine g_aload_nN G dX9_feed_18 rfl ?_ | refine g_aload_nQ G dX9_feed_18 rfl ?_
  refine g_iconst (v := nI 1) G dX9_feed_19 (by decide) ?_
  refine g_callV (ci := 10) G (c_X9_no _ _ _ _ r.kd) mt_X9_no mi_X9_no ml_X9_113 (r.kd) (by first | decide | omega) rfl (by decide) (by omega) (by omega) rfl (Nat.le_of_ble_eq_true rfl) dX9_feed_20 (fun v_20 S_20 hp_20 => ?_)
  obtain ⟨rfl, rfl⟩ := hp_20
  simp only [Option.toList, List.cons_append, List.nil_append]
  exact g_iret G F (gAn_N 1 h) (by omega) (by omega) dX9_feed_23

set_option maxHeartbeats 4000000 in
set_option maxRecDepth 100000 in
theorem c_X9_veil (d0 : Nat × Nat) (S : gS) (y : Nat) (b : Nat → Nat → Nat) (M : gM) (h : gRef S y b M) (i : gInv M) (d a e w : Nat) (hd2 : d < mN M 11) (ha : a ≤ e) (he : e ≤ mN M (100 + d)) (hw : w ≤ 9) : gCt d0 yX9_veil cX9_veil 7 (some .int) 10 1 12 [.ref y, .int (nI d), .int (nI a), .int (nI e), .int (nI w)] S (gAn S y 0 (mVeil M d a e (nI w)) (some (.int (nI (gcn (gVdif M d (nI w)) a (e - a)))))) gNo := by
  refine gCt_of (lo := [some (.ref y), some (.int (nI d)), some (.int (nI a)), some (.int (nI e)), some (.int (nI w)), none, none]) (by decide +kernel) (Nat.le_of_ble_eq_true rfl) (rfl) ?_
  intro Γ hd G F hini
  have it := i.t hd2
  first | refine g_aload_n G dX9_veil_0 rfl ?_ | refine g_aload_nN G dX9_veil_0 rfl ?_ | refine g_aload_nQ G dX9_veil_0 rfl ?_
  refine g_iconst (v := nI 0) G dX9_veil_1 (by decide) ?_
  refine g_putI G fl_X9_91 pu_10_0 (h.1.kd) (by first | decide | omega) rfl dX9_veil_2 ?_
  have h0 := gRef_th (v := nI 0) h
  obtain ⟨r, q, -⟩ := id h0
  obtain ⟨i6, i8, i11, i17, i23, i2, i5⟩ := i.b
  first | refine g_aload_n G dX9_veil_5 rfl ?_ | refine g_aload_nN G dX9_veil_5 rfl ?_ | refine g_aload_nQ G dX9_veil_5 rfl ?_
  refine g_iload_n G dX9_veil_6 rfl ?_
  refine g_callVp (ci := 10) G (c_X9_isDocument _ _ _ _ _ r i _) mt_X9_isDocument mi_X9_isDocument ml_X9_164 (r.kd) (by first | decide | omega) rfl (by decide) (by omega) (by omega) rfl (Nat.le_of_ble_eq_true rfl) dX9_veil_7 ?_
  refine g_if_ne (tgt := 19) G dX9_veil_10 (by decide) (fun c_10 => ?_) (fun c_10 => (absurd c_10 (gIxB_ok hd2 (by omega))))
  refine g_iload_n G dX9_veil_19 rfl ?_
  refine g_iconst (v := nI 0) G dX9_veil_20 (by decide) ?_
  refine g_iload_n G dX9_veil_21 rfl ?_
  refine g_callSp G (c_X9_isIn _ _ _ _ _) mt_X9_isIn ms_X9_isIn ml_X9_97 (by decide) (by omega) (by omega) rfl (Nat.le_of_ble_eq_true rfl) dX9_veil_22 ?_
  refine g_if_eq (tgt := 50) G dX9_veil_25 (by decide) (fun c_25 => (absurd c_25 (gIn_ok ha (by omega)))) (fun c_25 => ?_)
  refine g_iload_n G dX9_veil_28 rfl ?_
  first | refine g_aload_n G dX9_veil_29 rfl ?_ | refine g_aload_nN G dX9_veil_29 rfl ?_ | refine g_aload_nQ G dX9_veil_29 rfl ?_
  refine g_getR G fl_X9_33 (r.kd) (by first | decide | omega) rfl (r.RY 13 (by decide)) dX9_veil_30 ?_
  refine g_iload_n G dX9_veil_33 rfl ?_
  refine g_aald G (r.RA 13 (by decide)) (by first | decide | omega) (by rw [r.RL 13 (by decide)]; omega) (by omega) (r.RR 13 (by decide) (by omega)) dX9_veil_34 ?_
  refine g_alen G (r.TK 13 (by decide) (by omega)) (by first | decide | omega) (r.TL 13 (by decide) (by omega)) dX9_veil_35 ?_
  refine g_icmp_gt (tgt := 50) G dX9_veil_36 (by decide) (fun c_36 => (absurd c_36 (Int32.not_lt.mpr ((nI_leI (by omega) (by omega)).mpr he)))) (fun c_36 => ?_)
  refine g_iload G dX9_veil_39 rfl ?_
  refine g_iconst (v := nI 0) G dX9_veil_41 (by decide) ?_
  refine g_bipush (v := nI 9) G dX9_veil_42 (by decide) ?_
  refine g_callSp G (c_X9_isIn _ _ _ _ _) mt_X9_isIn ms_X9_isIn ml_X9_97 (by decide) (by omega) (by omega) rfl (Nat.le_of_ble_eq_true rfl) dX9_veil_44 ?_
  refine g_if_ne (tgt := 56) G dX9_veil_47 (by decide) (fun c_47 => ?_) (fun c_47 => (absurd c_47 (gIn_ok hw (by omega))))
  refine g_iconst (v := nI 0) G dX9_veil_56 (by decide) ?_
  refine g_istore G dX9_veil_57 (gSt_5 (by first | rfl | exact g_c1_rf)) ?_
  refine g_iload_n G dX9_veil_59 rfl ?_
  refine g_istore G dX9_veil_60 (gSt_6 (by first | rfl | exact g_c1_rf)) ?_
  have loop62 : ∀ f2 t : Nat, ∀ St : gS, t ≤ e → e + 1 ≤ t + f2 → (a ≤ t ∧ gRef St y b (uT M 14 d (fun k => if a ≤ k ∧ k < t then nI w else mT M 14 d k)) ∧ gX St 11 0 y = nI 0 ∧ gFr gCk S St) → gW Γ 62 [some (.ref y), some (.int (nI d)), some (.int (nI a)), some (.int (nI e)), some (.int (nI w)), some (.int (nI (gcn (gVdif M d (nI w)) a (t - a)))), some (.int (nI (t)))] [] St 0 0 := by
    intro f2
    induction f2 with
    | zero => intro t St  q1 q2; omega
    | succ f2 ih2 =>
      intro t St  ht2 hf2  hv2
      obtain ⟨hat, hR, hth, hF9⟩ := hv2
      obtain ⟨r, q, -⟩ := id hR
      refine g_iload G dX9_veil_62 rfl ?_
      refine g_iload_n G dX9_veil_64 rfl ?_
      refine g_icmp_ge (tgt := 109) G dX9_veil_65 (by decide) (fun c_65 => ?_) (fun c_65 => ?_)
      · have et : t = e := by have := (nI_leI (by omega) (by omega)).mp c_65; omega
        subst et
        refine g_iload G dX9_veil_109 rfl ?_
        exact g_iret G F (⟨rfl, hth, b, hR, hF9⟩) (by omega) (by omega) dX9_veil_111
      · have hlt2 : t < e := by have z : ¬ e ≤ t := fun z => c_65 ((nI_leI (by omega) (by omega)).mpr z); omega
        refine g_iload G dX9_veil_68 rfl ?_
        first | refine g_aload_n G dX9_veil_70 rfl ?_ | refine g_aload_nN G dX9_veil_70 rfl ?_ | refine g_aload_nQ G dX9_veil_70 rfl ?_
        refine g_getR G fl_X9_37 (r.kd) (by first | decide | omega) rfl (r.RY 14 (by decide)) dX9_veil_71 ?_
        refine g_iload_n G dX9_veil_74 rfl ?_
        refine g_aald G (r.RA 14 (by decide)) (by first | decide | omega) (by rw [r.RL 14 (by decide)]; omega) (by omega) (r.RR 14 (by decide) (show d < mN M 11 from hd2)) dX9_veil_75 ?_
        refine g_iload G dX9_veil_76 rfl ?_
        refine g_iald G (r.TK 14 (by decide) (show d < mN M 11 from hd2)) (by first | decide | omega) (r.tlt 14 (by decide) (show d < mN M 11 from hd2) (show t < mN M (100 + d) by omega)) (by omega) ((r.TX 14 (by decide) (show d < mN M 11 from hd2) (show t < mN M (100 + d) by omega)).trans ((congrFun uT_s t).trans (if_neg (fun z => by omega)))) dX9_veil_78 ?_
        refine g_iload G dX9_veil_79 rfl ?_
        refine g_icmp_ne (tgt := 88) G dX9_veil_81 (by decide) (fun c_81 => ?_) (fun c_81 => ?_)
        · have es : t + 1 - a = (t - a) + 1 := by omega
          have ea : a + (t - a) = t := by omega
          have e9 : gcn (gVdif M d (nI w)) a (t + 1 - a) = gcn (gVdif M d (nI w)) a (t - a) + 1 := by rw [es]; exact gct_yes (by simp only [ea]; exact decide_eq_true c_81)
          refine g_iconst (v := nI 1) G dX9_veil_88 (by decide) ?_
          refine g_iadd G dX9_veil_89 (by first | exact nI_add _ _ | rfl) ?_
          refine g_istore G dX9_veil_90 (gSt_5 (by first | rfl | exact g_c1_rf)) ?_
          first | refine g_aload_n G dX9_veil_92 rfl ?_ | refine g_aload_nN G dX9_veil_92 rfl ?_ | refine g_aload_nQ G dX9_veil_92 rfl ?_
          refine g_getR G fl_X9_37 (r.kd) (by first | decide | omega) rfl (r.RY 14 (by decide)) dX9_veil_93 ?_
          refine g_iload_n G dX9_veil_96 rfl ?_
          refine g_aald G (r.RA 14 (by decide)) (by first | decide | omega) (by rw [r.RL 14 (by decide)]; omega) (by omega) (r.RR 14 (by decide) (show d < mN M 11 from hd2)) dX9_veil_97 ?_
          refine g_iload G dX9_veil_98 rfl ?_
          refine g_iload G dX9_veil_100 rfl ?_
          refine g_iast G (r.TK 14 (by decide) (show d < mN M 11 from hd2)) (by first | decide | omega) (r.tlt 14 (by decide) (show d < mN M 11 from hd2) (show t < mN M (100 + d) by omega)) (by omega) (rfl) dX9_veil_102 ?_
          have hR2 := gRef_T (w := nI w) (u := t) hR hd2
          rw [show (fun k => if k = t then nI w else if a ≤ k ∧ k < t then nI w else mT M 14 d k) = (fun k => if a ≤ k ∧ k < t + 1 then nI w else mT M 14 d k) from funext fun k => by
            by_cases z : k = t
            · rw [if_pos z, if_pos ⟨by omega, by omega⟩]
            · rw [if_neg z]
              by_cases z2 : a ≤ k ∧ k < t
              · rw [if_pos z2, if_pos ⟨z2.1, by omega⟩]
              · rw [if_neg z2, if_neg (fun y9 => z2 ⟨y9.1, by omega⟩)]] at hR2
          refine g_iinc (v := _) G dX9_veil_103 rfl (by first | exact nI_1 _ | rfl) (gSt_6 (by first | rfl | exact g_c1_rf)) ?_
          refine g_goto (tgt := 62) G dX9_veil_106 (by decide) ?_
          have h9 := ih2 (t + 1) _ (by omega) (by omega) ⟨by omega, hR2, sX_k (by omega) hth, hF9.X1 _ _ _ (fun k z => by unfold gCk at z; omega)⟩
          rw [e9] at h9
          exact h9
        · have es : t + 1 - a = (t - a) + 1 := by omega
          have ea : a + (t - a) = t := by omega
          have e9 : gcn (gVdif M d (nI w)) a (t + 1 - a) = gcn (gVdif M d (nI w)) a (t - a) := by rw [es]; exact gct_no (by simp only [ea]; exact decide_eq_false (fun z => z c_81))
          refine g_iconst (v := nI 0) G dX9_veil_84 (by decide) ?_
          refine g_goto (tgt := 89) G dX9_veil_85 (by decide) ?_
          refine g_iadd G dX9_veil_89 (by first | exact nI_add _ _ | rfl) ?_
          refine g_istore G dX9_veil_90 (gSt_5 (by first | rfl | exact g_c1_rf)) ?_
          first | refine g_aload_n G dX9_veil_92 rfl ?_ | refine g_aload_nN G dX9_veil_92 rfl ?_ | refine g_aload_nQ G dX9_veil_92 rfl ?_
          refine g_getR G fl_X9_37 (r.kd) (by first | decide | omega) rfl (r.RY 14 (by decide)) dX9_veil_93 ?_
          refine g_iload_n G dX9_veil_96 rfl ?_
          refine g_aald G (r.RA 14 (by decide)) (by first | decide | omega) (by rw [r.RL 14 (by decide)]; omega) (by omega) (r.RR 14 (by decide) (show d < mN M 11 from hd2)) dX9_veil_97 ?_
          refine g_iload G dX9_veil_98 rfl ?_
          refine g_iload G dX9_veil_100 rfl ?_
          refine g_iast G (r.TK 14 (by decide) (show d < mN M 11 from hd2)) (by first | decide | omega) (r.tlt 14 (by decide) (show d < mN M 11 from hd2) (show t < mN M (100 + d) by omega)) (by omega) (rfl) dX9_veil_102 ?_
          have hR2 := gRef_T (w := nI w) (u := t) hR hd2
          rw [show (fun k => if k = t then nI w else if a ≤ k ∧ k < t then nI w else mT M 14 d k) = (fun k => if a ≤ k ∧ k < t + 1 then nI w else mT M 14 d k) from funext fun k => by
            by_cases z : k = t
            · rw [if_pos z, if_pos ⟨by omega, by omega⟩]
            · rw [if_neg z]
              by_cases z2 : a ≤ k ∧ k < t
              · rw [if_pos z2, if_pos ⟨z2.1, by omega⟩]
              · rw [if_neg z2, if_neg (fun y9 => z2 ⟨y9.1, by omega⟩)]] at hR2
          refine g_iinc (v := _) G dX9_veil_103 rfl (by first | exact nI_1 _ | rfl) (gSt_6 (by first | rfl | exact g_c1_rf)) ?_
          refine g_goto (tgt := 62) G dX9_veil_106 (by decide) ?_
          have h9 := ih2 (t + 1) _ (by omega) (by omega) ⟨by omega, hR2, sX_k (by omega) hth, hF9.X1 _ _ _ (fun k z => by unfold gCk at z; omega)⟩
          rw [e9] at h9
          exact h9
  have h9 := loop62 (e + 1) a _ (by omega) (by omega) ⟨Nat.le_refl a, gRef_Tc h0 (fun k => if_neg (fun z => by omega)), sX_s, gFr_th⟩
  rw [Nat.sub_self] at h9
  exact h9

set_option maxHeartbeats 4000000 in
set_option maxRecDepth 100000 in
theorem c_X9_veil_no (d0 : Nat × Nat) (S : gS) (y : Nat) (b : Nat → Nat → Nat) (M : gM) (h : gRef S y b M) (i : gInv M) (d f g s : Int32) (hno : ¬ gIx (mN M 11) d) : gCt d0 yX9_veil cX9_veil 7 (some .int) 10 1 12 [.ref y, .int d, .int f, .int g, .int s] S (gAn S y 1 M (some (.int (nI 0)))) gNo := by
  refine gCt_of (lo := [some (.ref y), some (.int d), some (.int f), some (.int g), some (.int s), none, none]) (by decide +kernel) (Nat.le_of_ble_eq_true rfl) (rfl) ?_
  intro Γ hd G F hini
  first | refine g_aload_n G dX9_veil_0 rfl ?_ | refine g_aload_nN G dX9_veil_0 rfl ?_ | refine g_aload_nQ G dX9_veil_0 rfl ?_
  refine g_iconst (v := nI 0) G dX9_veil_1 (by decide) ?_
  refine g_putI G fl_X9_91 pu_10_0 (h.1.kd) (by first | decide | omega) rfl dX9_veil_2 ?_
  have h0 := gRef_th (v := nI 0) h
  obtain ⟨r, q, -⟩ := id h0
  obtain ⟨i6, i8, i11, i17, i23, i2, i5⟩ := i.b
  first | refine g_aload_n G dX9_veil_5 rfl ?_ | refine g_aload_nN G dX9_veil_5 rfl ?_ | refine g_aload_nQ G dX9_veil_5 rfl ?_
  refine g_iload_n G dX9_veil_6 rfl ?_
  refine g_callVp (ci := 10) G (c_X9_isDocument _ _ _ _ _ r i _) mt_X9_isDocument mi_X9_isDocument ml_X9_164 (r.kd) (by first | decide | omega) rfl (by decide) (by omega) (by omega) rfl (Nat.le_of_ble_eq_true rfl) dX9_veil_7 ?_
  refine g_if_ne (tgt := 19) G dX9_veil_10 (by decide) (fun c_10 => (absurd (gIxB_y c_10) hno)) (fun c_10 => ?_)
  first | refine g_aload_n G dX9_veil_13 rfl ?_ | refine g_aload_nN G dX9_veil_13 rfl ?_ | refine g_aload_nQ G dX9_veil_13 rfl ?_
  refine g_iconst (v := nI 1) G dX9_veil_14 (by decide) ?_
  refine g_callV (ci := 10) G (c_X9_no _ _ _ _ r.kd) mt_X9_no mi_X9_no ml_X9_113 (r.kd) (by first | decide | omega) rfl (by decide) (by omega) (by omega) rfl (Nat.le_of_ble_eq_true rfl) dX9_veil_15 (fun v_15 S_15 hp_15 => ?_)
  obtain ⟨rfl, rfl⟩ := hp_15
  simp only [Option.toList, List.cons_append, List.nil_append]
  exact g_iret G F (gAn_N 1 h) (by omega) (by omega) dX9_veil_18

set_option maxHeartbeats 4000000 in
set_option maxRecDepth 100000 in
theorem c_X9_veil_no2 (d0 : Nat × Nat) (S : gS) (y : Nat) (b : Nat → Nat → Nat) (M : gM) (h : gRef S y b M) (i : gInv M) (d : Nat) (f g s : Int32) (hd2 : d < mN M 11) (hno : ¬ ((0 ≤ f ∧ f ≤ g ∧ g ≤ nI (mN M (100 + d))) ∧ gLv s)) : gCt d0 yX9_veil cX9_veil 7 (some .int) 10 1 12 [.ref y, .int (nI d), .int f, .int g, .int s] S (gAn S y 2 M (some (.int (nI 0)))) gNo := by
  refine gCt_of (lo := [some (.ref y), some (.int (nI d)), some (.int f), some (.int g), some (.int s), none, none]) (by decide +kernel) (Nat.le_of_ble_eq_true rfl) (rfl) ?_
  intro Γ hd G F hini
  have it := i.t hd2
  first | refine g_aload_n G dX9_veil_0 rfl ?_ | refine g_aload_nN G dX9_veil_0 rfl ?_ | refine g_aload_nQ G dX9_veil_0 rfl ?_
  refine g_iconst (v := nI 0) G dX9_veil_1 (by decide) ?_
  refine g_putI G fl_X9_91 pu_10_0 (h.1.kd) (by first | decide | omega) rfl dX9_veil_2 ?_
  have h0 := gRef_th (v := nI 0) h
  obtain ⟨r, q, -⟩ := id h0
  obtain ⟨i6, i8, i11, i17, i23, i2, i5⟩ := i.b
  first | refine g_aload_n G dX9_veil_5 rfl ?_ | refine g_aload_nN G dX9_veil_5 rfl ?_ | refine g_aload_nQ G dX9_veil_5 rfl ?_
  refine g_iload_n G dX9_veil_6 rfl ?_
  refine g_callVp (ci := 10) G (c_X9_isDocument _ _ _ _ _ r i _) mt_X9_isDocument mi_X9_isDocument ml_X9_164 (r.kd) (by first | decide | omega) rfl (by decide) (by omega) (by omega) rfl (Nat.le_of_ble_eq_true rfl) dX9_veil_7 ?_
  refine g_if_ne (tgt := 19) G dX9_veil_10 (by decide) (fun c_10 => ?_) (fun c_10 => (absurd c_10 (gIxB_ok hd2 (by omega))))
  refine g_iload_n G dX9_veil_19 rfl ?_
  refine g_iconst (v := nI 0) G dX9_veil_20 (by decide) ?_
  refine g_iload_n G dX9_veil_21 rfl ?_
  refine g_callSp G (c_X9_isIn _ _ _ _ _) mt_X9_isIn ms_X9_isIn ml_X9_97 (by decide) (by omega) (by omega) rfl (Nat.le_of_ble_eq_true rfl) dX9_veil_22 ?_
  refine g_if_eq (tgt := 50) G dX9_veil_25 (by decide) (fun c_25 => ?_) (fun c_25 => ?_)
  · first | refine g_aload_n G dX9_veil_50 rfl ?_ | refine g_aload_nN G dX9_veil_50 rfl ?_ | refine g_aload_nQ G dX9_veil_50 rfl ?_
    refine g_iconst (v := nI 2) G dX9_veil_51 (by decide) ?_
    refine g_callV (ci := 10) G (c_X9_no _ _ _ _ r.kd) mt_X9_no mi_X9_no ml_X9_113 (r.kd) (by first | decide | omega) rfl (by decide) (by omega) (by omega) rfl (Nat.le_of_ble_eq_true rfl) dX9_veil_52 (fun v_52 S_52 hp_52 => ?_)
    obtain ⟨rfl, rfl⟩ := hp_52
    simp only [Option.toList, List.cons_append, List.nil_append]
    exact g_iret G F (gAn_N 2 h) (by omega) (by omega) dX9_veil_55
  · have z1 := of_decide_eq_true (gB_ne0.mp c_25)
    refine g_iload_n G dX9_veil_28 rfl ?_
    first | refine g_aload_n G dX9_veil_29 rfl ?_ | refine g_aload_nN G dX9_veil_29 rfl ?_ | refine g_aload_nQ G dX9_veil_29 rfl ?_
    refine g_getR G fl_X9_33 (r.kd) (by first | decide | omega) rfl (r.RY 13 (by decide)) dX9_veil_30 ?_
    refine g_iload_n G dX9_veil_33 rfl ?_
    refine g_aald G (r.RA 13 (by decide)) (by first | decide | omega) (by rw [r.RL 13 (by decide)]; omega) (by omega) (r.RR 13 (by decide) (by omega)) dX9_veil_34 ?_
    refine g_alen G (r.TK 13 (by decide) (by omega)) (by first | decide | omega) (r.TL 13 (by decide) (by omega)) dX9_veil_35 ?_
    refine g_icmp_gt (tgt := 50) G dX9_veil_36 (by decide) (fun c_36 => ?_) (fun c_36 => ?_)
    · first | refine g_aload_n G dX9_veil_50 rfl ?_ | refine g_aload_nN G dX9_veil_50 rfl ?_ | refine g_aload_nQ G dX9_veil_50 rfl ?_
      refine g_iconst (v := nI 2) G dX9_veil_51 (by decide) ?_
      refine g_callV (ci := 10) G (c_X9_no _ _ _ _ r.kd) mt_X9_no mi_X9_no ml_X9_113 (r.kd) (by first | decide | omega) rfl (by decide) (by omega) (by omega) rfl (Nat.le_of_ble_eq_true rfl) dX9_veil_52 (fun v_52 S_52 hp_52 => ?_)
      obtain ⟨rfl, rfl⟩ := hp_52
      simp only [Option.toList, List.cons_append, List.nil_append]
      exact g_iret G F (gAn_N 2 h) (by omega) (by omega) dX9_veil_55
    · refine g_iload G dX9_veil_39 rfl ?_
      refine g_iconst (v := nI 0) G dX9_veil_41 (by decide) ?_
      refine g_bipush (v := nI 9) G dX9_veil_42 (by decide) ?_
      refine g_callSp G (c_X9_isIn _ _ _ _ _) mt_X9_isIn ms_X9_isIn ml_X9_97 (by decide) (by omega) (by omega) rfl (Nat.le_of_ble_eq_true rfl) dX9_veil_44 ?_
      refine g_if_ne (tgt := 56) G dX9_veil_47 (by decide) (fun c_47 => (absurd ⟨⟨z1.1, z1.2, Int32.not_lt.mp c_36⟩, gIn_y c_47⟩ hno)) (fun c_47 => ?_)
      first | refine g_aload_n G dX9_veil_50 rfl ?_ | refine g_aload_nN G dX9_veil_50 rfl ?_ | refine g_aload_nQ G dX9_veil_50 rfl ?_
      refine g_iconst (v := nI 2) G dX9_veil_51 (by decide) ?_
      refine g_callV (ci := 10) G (c_X9_no _ _ _ _ r.kd) mt_X9_no mi_X9_no ml_X9_113 (r.kd) (by first | decide | omega) rfl (by decide) (by omega) (by omega) rfl (Nat.le_of_ble_eq_true rfl) dX9_veil_52 (fun v_52 S_52 hp_52 => ?_)
      obtain ⟨rfl, rfl⟩ := hp_52
      simp only [Option.toList, List.cons_append, List.nil_append]
      exact g_iret G F (gAn_N 2 h) (by omega) (by omega) dX9_veil_55

set_option maxHeartbeats 4000000 in
set_option maxRecDepth 100000 in
theorem c_X9_read (d0 : Nat × Nat) (S : gS) (y : Nat) (b : Nat → Nat → Nat) (M : gM) (h : gRef S y b M) (i : gInv M) (p d : Nat) (hp : p < mN M 8) (hd2 : d < mN M 11) (hin : ¬ gIntoOf M p (mC M d) = -1) : gCt d0 yX9_read cX9_read 4 (some .int) 10 1 12 [.ref y, .int (nI p), .int (nI d)] S (gAn S y 0 (mLog (mPaper M d (gIntoOf M p (mC M d))) d p) (some (.int (nI (mN M (100 + d)))))) gNo := by
  refine gCt_of (lo := [some (.ref y), some (.int (nI p)), some (.int (nI d)), none]) (by decide +kernel) (Nat.le_of_ble_eq_true rfl) (rfl) ?_
  intro Γ hd G F hini
  have i6 := i.b.1
  obtain ⟨kc, kc1, kc2⟩ := i.c hd2
  have ec : mC M d = kc := by rw [mC, kc2, nI_clamp (by omega)]
  have hs := i.2.2.2.1.1 kc kc1
  have it := i.t hd2
  first | refine g_aload_n G dX9_read_0 rfl ?_ | refine g_aload_nN G dX9_read_0 rfl ?_ | refine g_aload_nQ G dX9_read_0 rfl ?_
  refine g_iconst (v := nI 0) G dX9_read_1 (by decide) ?_
  refine g_putI G fl_X9_91 pu_10_0 (h.1.kd) (by first | decide | omega) rfl dX9_read_2 ?_
  have h0 := gRef_th (v := nI 0) h
  obtain ⟨r, q, -⟩ := id h0
  obtain ⟨i6, i8, i11, i17, i23, i2, i5⟩ := i.b
  first | refine g_aload_n G dX9_read_5 rfl ?_ | refine g_aload_nN G dX9_read_5 rfl ?_ | refine g_aload_nQ G dX9_read_5 rfl ?_
  refine g_iload_n G dX9_read_6 rfl ?_
  refine g_iload_n G dX9_read_7 rfl ?_
  refine g_callVp (ci := 10) G (c_X9_isPair _ _ _ _ _ r i _ _) mt_X9_isPair mi_X9_isPair ml_X9_207 (r.kd) (by first | decide | omega) rfl (by decide) (by omega) (by omega) rfl (Nat.le_of_ble_eq_true rfl) dX9_read_8 ?_
  refine g_if_ne (tgt := 20) G dX9_read_11 (by decide) (fun c_11 => ?_) (fun c_11 => (absurd c_11 (gPair_ok hp hd2 (by omega) (by omega))))
  first | refine g_aload_n G dX9_read_20 rfl ?_ | refine g_aload_nN G dX9_read_20 rfl ?_ | refine g_aload_nQ G dX9_read_20 rfl ?_
  refine g_getR G fl_X9_75 (r.kd) (by first | decide | omega) rfl (r.st) dX9_read_21 ?_
  refine g_iload_n G dX9_read_24 rfl ?_
  first | refine g_aload_n G dX9_read_25 rfl ?_ | refine g_aload_nN G dX9_read_25 rfl ?_ | refine g_aload_nQ G dX9_read_25 rfl ?_
  refine g_getR G fl_X9_29 (r.kd) (by first | decide | omega) rfl (r.Y 12 rfl) dX9_read_26 ?_
  refine g_iload_n G dX9_read_29 rfl ?_
  refine g_iald G (r.A 12 rfl) (by first | decide | omega) (r.lt 12 23 rfl (by omega)) (by omega) ((r.X 12 23 rfl rfl (by omega)).trans kc2) dX9_read_30 ?_
  refine g_callVp (ci := 9) G (c_X8_isIn _ _ _ _ _ _ _ r q i _ _ (by omega) (by omega)) mt_X8_isIn mi_X8_isIn ml_X9_179 (q.kd) (by first | decide | omega) rfl (by decide) (by omega) (by omega) rfl (Nat.le_of_ble_eq_true rfl) dX9_read_31 ?_
  refine g_if_ne (tgt := 39) G dX9_read_34 (by decide) (fun c_34 => ?_) (fun c_34 => (absurd c_34 (gB_ne0.mpr (decide_eq_true (Classical.byContradiction fun z => hin (by rw [ec]; exact gInto_n z))))))
  first | refine g_aload_n G dX9_read_39 rfl ?_ | refine g_aload_nN G dX9_read_39 rfl ?_ | refine g_aload_nQ G dX9_read_39 rfl ?_
  first | refine g_aload_n G dX9_read_40 rfl ?_ | refine g_aload_nN G dX9_read_40 rfl ?_ | refine g_aload_nQ G dX9_read_40 rfl ?_
  refine g_getR G fl_X9_33 (r.kd) (by first | decide | omega) rfl (r.RY 13 (by decide)) dX9_read_41 ?_
  refine g_iload_n G dX9_read_44 rfl ?_
  refine g_aald G (r.RA 13 (by decide)) (by first | decide | omega) (by rw [r.RL 13 (by decide)]; omega) (by omega) (r.RR 13 (by decide) (by omega)) dX9_read_45 ?_
  refine g_alen G (r.TK 13 (by decide) (by omega)) (by first | decide | omega) (r.TL 13 (by decide) (by omega)) dX9_read_46 ?_
  refine g_putI G fl_X9_210 pu_10_5 (r.kd) (by first | decide | omega) rfl dX9_read_47 ?_
  have h1 := gRef_5 (L := (mN M (100 + d))) h0
  obtain ⟨r1, q1, -⟩ := id h1
  refine g_iconst (v := nI 0) G dX9_read_50 (by decide) ?_
  refine g_istore_n G dX9_read_51 (gSt_3 (by first | rfl | exact g_c1_rf)) ?_
  have loop52 : ∀ f2 t : Nat, ∀ St : gS, t ≤ (mN M (100 + d)) → (mN M (100 + d)) + 1 ≤ t + f2 → ((∃ f, gRef St y b (uN (uR M 4 f) 5 (mN M (100 + d))) ∧ ∀ k, k < t → f k = gSeenAt (mT M 13 d k) (mT M 14 d k) (mT M 15 d k) (gIntoOf M p (mC M d))) ∧ gX St 11 0 y = nI 0 ∧ gFr gCk S St) → gW Γ 52 [some (.ref y), some (.int (nI p)), some (.int (nI d)), some (.int (nI (t)))] [] St 0 0 := by
    intro f2
    induction f2 with
    | zero => intro t St  q1 q2; omega
    | succ f2 ih2 =>
      intro t St  ht2 hf2  hv2
      obtain ⟨⟨f, hR, hf⟩, hth, hF9⟩ := hv2
      obtain ⟨r, q, -⟩ := id hR
      refine g_iload_n G dX9_read_52 rfl ?_
      first | refine g_aload_n G dX9_read_53 rfl ?_ | refine g_aload_nN G dX9_read_53 rfl ?_ | refine g_aload_nQ G dX9_read_53 rfl ?_
      refine g_getI G fl_X9_210 (r.kd) (by first | decide | omega) rfl ((r.n 5 rfl).trans (congrArg nI uN_s)) dX9_read_54 ?_
      refine g_icmp_ge (tgt := 79) G dX9_read_57 (by decide) (fun c_57 => ?_) (fun c_57 => ?_)
      · have et : t = (mN M (100 + d)) := by have := (nI_leI (by omega) (by omega)).mp c_57; omega
        subst et
        have hP : gRef St y b (mPaper M d (gIntoOf M p (mC M d))) := gRef_pc hR hf
        obtain ⟨r8, q8, -⟩ := id hP
        first | refine g_aload_n G dX9_read_79 rfl ?_ | refine g_aload_nN G dX9_read_79 rfl ?_ | refine g_aload_nQ G dX9_read_79 rfl ?_
        refine g_getR G fl_X9_75 (r8.kd) (by first | decide | omega) rfl (r8.st) dX9_read_80 ?_
        refine g_getRN G fl_X9_167 (q8.kd) (by first | decide | omega) rfl (q8.Y 5 rfl) dX9_read_83 ?_
        refine g_iload_n G dX9_read_86 rfl ?_
        refine g_dup2 G dX9_read_87 rfl rfl ?_
        refine g_iald G (q8.A 5 rfl) (by first | decide | omega) (q8.lt 5 23 rfl (by omega)) (by omega) ((show gX _ (17 + 32 * (60 + 10 * 0 + 5)) _ d = mA M 45 d from q8.X 5 23 rfl (by omega))) dX9_read_88 ?_
        refine g_iconst (v := nI 1) G dX9_read_89 (by decide) ?_
        refine g_iload_n G dX9_read_90 rfl ?_
        refine g_ishl G dX9_read_91 (rfl) ?_
        refine g_ior G dX9_read_92 (rfl) ?_
        refine g_iast G (q8.A 5 rfl) (by first | decide | omega) (q8.lt 5 23 rfl (by omega)) (by omega) (rfl) dX9_read_93 ?_
        have h9 := gRef_S 5 23 (j := d) (mA M 45 d ||| (nI 1 <<< (nI p &&& 31))) hP rfl (by omega)
        obtain ⟨r9, q9, -⟩ := id h9
        first | refine g_aload_n G dX9_read_94 rfl ?_ | refine g_aload_nN G dX9_read_94 rfl ?_ | refine g_aload_nQ G dX9_read_94 rfl ?_
        refine g_getI G fl_X9_210 (r9.kd) (by first | decide | omega) rfl ((r9.n 5 rfl).trans (congrArg nI (show mN (mPaper M d (gIntoOf M p (mC M d))) 5 = (mN M (100 + d)) from uN_s))) dX9_read_95 ?_
        exact g_iret G F (⟨rfl, sX_k (by decide) hth, b, h9, hF9.X1 _ _ _ (fun k z => by unfold gCk at z; omega)⟩) (by omega) (by omega) dX9_read_98
      · have hlt2 : t < (mN M (100 + d)) := by have z : ¬ (mN M (100 + d)) ≤ t := fun z => c_57 ((nI_leI (by omega) (by omega)).mpr z); omega
        first | refine g_aload_n G dX9_read_60 rfl ?_ | refine g_aload_nN G dX9_read_60 rfl ?_ | refine g_aload_nQ G dX9_read_60 rfl ?_
        refine g_getR G fl_X9_17 (r.kd) (by first | decide | omega) rfl (r.Y 4 rfl) dX9_read_61 ?_
        refine g_iload_n G dX9_read_64 rfl ?_
        first | refine g_aload_n G dX9_read_65 rfl ?_ | refine g_aload_nN G dX9_read_65 rfl ?_ | refine g_aload_nQ G dX9_read_65 rfl ?_
        refine g_iload_n G dX9_read_66 rfl ?_
        refine g_iload_n G dX9_read_67 rfl ?_
        refine g_iload_n G dX9_read_68 rfl ?_
        refine g_callVp (ci := 10) G (c_X9_seenBy _ _ _ _ _ r q (gInv_paper i it) p d hp hd2 t (by rw [uN_o (by omega)]; exact hlt2)) mt_X9_seenBy mi_X9_seenBy ml_X9_213 (r.kd) (by first | decide | omega) rfl (by decide) (by omega) (by omega) rfl (Nat.le_of_ble_eq_true rfl) dX9_read_69 ?_
        show gW Γ 72 _ (.int (gSeenAt (mT M 13 d t) (mT M 14 d t) (mT M 15 d t) (gIntoOf M p (mC M d))) :: _) _ _ _
        refine g_iast G (r.A 4 rfl) (by first | decide | omega) (r.lt 4 2499 rfl (by omega)) (by omega) (rfl) dX9_read_72 ?_
        have hR2 := gRef_p (j := t) (gSeenAt (mT M 13 d t) (mT M 14 d t) (mT M 15 d t) (gIntoOf M p (mC M d))) hR
        refine g_iinc (v := _) G dX9_read_73 rfl (by first | exact nI_1 _ | rfl) (gSt_3 (by first | rfl | exact g_c1_rf)) ?_
        refine g_goto (tgt := 52) G dX9_read_76 (by decide) ?_
        exact ih2 (t + 1) _ (by omega) (by omega) ⟨⟨_, hR2, fun k hk => by
          by_cases z : k = t
          · rw [if_pos z, z]
          · rw [if_neg z]; exact hf k (by omega)⟩, sX_k (by decide) hth, hF9.X1 _ _ _ (fun k z => by unfold gCk at z; omega)⟩
  exact loop52 ((mN M (100 + d)) + 1) 0 _ (by omega) (by omega) ⟨⟨_, h1, fun k hk => by omega⟩, sX_p (by decide) sX_s, gFr_th.X1 _ _ _ (fun k z => by unfold gCk at z; omega)⟩

set_option maxHeartbeats 4000000 in
set_option maxRecDepth 100000 in
theorem c_X9_read_b (d0 : Nat × Nat) (S : gS) (y : Nat) (b : Nat → Nat → Nat) (M : gM) (h : gRef S y b M) (i : gInv M) (p d : Nat) (hp : p < mN M 8) (hd2 : d < mN M 11) (hin : gIntoOf M p (mC M d) = -1) : gCt d0 yX9_read cX9_read 4 (some .int) 10 1 12 [.ref y, .int (nI p), .int (nI d)] S (gAn S y 0 M (some (.int (-1)))) gNo := by
  refine gCt_of (lo := [some (.ref y), some (.int (nI p)), some (.int (nI d)), none]) (by decide +kernel) (Nat.le_of_ble_eq_true rfl) (rfl) ?_
  intro Γ hd G F hini
  have i6 := i.b.1
  obtain ⟨kc, kc1, kc2⟩ := i.c hd2
  have ec : mC M d = kc := by rw [mC, kc2, nI_clamp (by omega)]
  have hs := i.2.2.2.1.1 kc kc1
  have it := i.t hd2
  first | refine g_aload_n G dX9_read_0 rfl ?_ | refine g_aload_nN G dX9_read_0 rfl ?_ | refine g_aload_nQ G dX9_read_0 rfl ?_
  refine g_iconst (v := nI 0) G dX9_read_1 (by decide) ?_
  refine g_putI G fl_X9_91 pu_10_0 (h.1.kd) (by first | decide | omega) rfl dX9_read_2 ?_
  have h0 := gRef_th (v := nI 0) h
  obtain ⟨r, q, -⟩ := id h0
  obtain ⟨i6, i8, i11, i17, i23, i2, i5⟩ := i.b
  first | refine g_aload_n G dX9_read_5 rfl ?_ | refine g_aload_nN G dX9_read_5 rfl ?_ | refine g_aload_nQ G dX9_read_5 rfl ?_
  refine g_iload_n G dX9_read_6 rfl ?_
  refine g_iload_n G dX9_read_7 rfl ?_
  refine g_callVp (ci := 10) G (c_X9_isPair _ _ _ _ _ r i _ _) mt_X9_isPair mi_X9_isPair ml_X9_207 (r.kd) (by first | decide | omega) rfl (by decide) (by omega) (by omega) rfl (Nat.le_of_ble_eq_true rfl) dX9_read_8 ?_
  refine g_if_ne (tgt := 20) G dX9_read_11 (by decide) (fun c_11 => ?_) (fun c_11 => (absurd c_11 (gPair_ok hp hd2 (by omega) (by omega))))
  first | refine g_aload_n G dX9_read_20 rfl ?_ | refine g_aload_nN G dX9_read_20 rfl ?_ | refine g_aload_nQ G dX9_read_20 rfl ?_
  refine g_getR G fl_X9_75 (r.kd) (by first | decide | omega) rfl (r.st) dX9_read_21 ?_
  refine g_iload_n G dX9_read_24 rfl ?_
  first | refine g_aload_n G dX9_read_25 rfl ?_ | refine g_aload_nN G dX9_read_25 rfl ?_ | refine g_aload_nQ G dX9_read_25 rfl ?_
  refine g_getR G fl_X9_29 (r.kd) (by first | decide | omega) rfl (r.Y 12 rfl) dX9_read_26 ?_
  refine g_iload_n G dX9_read_29 rfl ?_
  refine g_iald G (r.A 12 rfl) (by first | decide | omega) (r.lt 12 23 rfl (by omega)) (by omega) ((r.X 12 23 rfl rfl (by omega)).trans kc2) dX9_read_30 ?_
  refine g_callVp (ci := 9) G (c_X8_isIn _ _ _ _ _ _ _ r q i _ _ (by omega) (by omega)) mt_X8_isIn mi_X8_isIn ml_X9_179 (q.kd) (by first | decide | omega) rfl (by decide) (by omega) (by omega) rfl (Nat.le_of_ble_eq_true rfl) dX9_read_31 ?_
  refine g_if_ne (tgt := 39) G dX9_read_34 (by decide) (fun c_34 => (absurd (by rw [← ec]; exact hin) (fun z => (gInto_y hs (of_decide_eq_true (gB_ne0.mp c_34))).2 ((gInto_y hs (of_decide_eq_true (gB_ne0.mp c_34))).1.symm.trans z)))) (fun c_34 => ?_)
  refine g_iconst (v := (-1)) G dX9_read_37 (by decide) ?_
  exact g_iret G F (gAn_0 h) (by omega) (by omega) dX9_read_38

set_option maxHeartbeats 4000000 in
set_option maxRecDepth 100000 in
theorem c_X9_read_no (d0 : Nat × Nat) (S : gS) (y : Nat) (b : Nat → Nat → Nat) (M : gM) (h : gRef S y b M) (i : gInv M) (p d : Int32) (hno : ¬ (gIx (mN M 8) p ∧ gIx (mN M 11) d)) : gCt d0 yX9_read cX9_read 4 (some .int) 10 1 12 [.ref y, .int p, .int d] S (gAn S y 1 M (some (.int (nI 0)))) gNo := by
  refine gCt_of (lo := [some (.ref y), some (.int p), some (.int d), none]) (by decide +kernel) (Nat.le_of_ble_eq_true rfl) (rfl) ?_
  intro Γ hd G F hini
  first | refine g_aload_n G dX9_read_0 rfl ?_ | refine g_aload_nN G dX9_read_0 rfl ?_ | refine g_aload_nQ G dX9_read_0 rfl ?_
  refine g_iconst (v := nI 0) G dX9_read_1 (by decide) ?_
  refine g_putI G fl_X9_91 pu_10_0 (h.1.kd) (by first | decide | omega) rfl dX9_read_2 ?_
  have h0 := gRef_th (v := nI 0) h
  obtain ⟨r, q, -⟩ := id h0
  obtain ⟨i6, i8, i11, i17, i23, i2, i5⟩ := i.b
  first | refine g_aload_n G dX9_read_5 rfl ?_ | refine g_aload_nN G dX9_read_5 rfl ?_ | refine g_aload_nQ G dX9_read_5 rfl ?_
  refine g_iload_n G dX9_read_6 rfl ?_
  refine g_iload_n G dX9_read_7 rfl ?_
  refine g_callVp (ci := 10) G (c_X9_isPair _ _ _ _ _ r i _ _) mt_X9_isPair mi_X9_isPair ml_X9_207 (r.kd) (by first | decide | omega) rfl (by decide) (by omega) (by omega) rfl (Nat.le_of_ble_eq_true rfl) dX9_read_8 ?_
  refine g_if_ne (tgt := 20) G dX9_read_11 (by decide) (fun c_11 => (absurd (gPair_y c_11) hno)) (fun c_11 => ?_)
  first | refine g_aload_n G dX9_read_14 rfl ?_ | refine g_aload_nN G dX9_read_14 rfl ?_ | refine g_aload_nQ G dX9_read_14 rfl ?_
  refine g_iconst (v := nI 1) G dX9_read_15 (by decide) ?_
  refine g_callV (ci := 10) G (c_X9_no _ _ _ _ r.kd) mt_X9_no mi_X9_no ml_X9_113 (r.kd) (by first | decide | omega) rfl (by decide) (by omega) (by omega) rfl (Nat.le_of_ble_eq_true rfl) dX9_read_16 (fun v_16 S_16 hp_16 => ?_)
  obtain ⟨rfl, rfl⟩ := hp_16
  simp only [Option.toList, List.cons_append, List.nil_append]
  exact g_iret G F (gAn_N 1 h) (by omega) (by omega) dX9_read_19
