/-! ===== the reference: what is told ===== -/
theorem gRk_9 : ¬ gRk (17 + 32 * 90) := fun z => by unfold gRk at z; omega
abbrev gTmp (S : gS) (v : Int32) (v' : Option Value) (S' : gS) : Prop := v' = some (.int v) ∧ gFr (fun k => k ≠ 17 + 32 * 90) S S'

set_option maxHeartbeats 4000000 in
set_option maxRecDepth 100000 in
theorem c_X9_letterTold (d0 : Nat × Nat) (S : gS) (y : Nat) (b : Nat → Nat → Nat) (M : gM) (r : gRest S y b M) (q : gStt S (b 0 27) 0 b y M) (i : gInv M) (k w : Nat) (hk : k < mN M 23) (hw : w ≤ 4) : gCt d0 yX9_letterTold cX9_letterTold 4 (some .int) 0 1 5 [.ref y, .int (nI k), .int (nI w)] S (gTmp S (gTellLtr M k w)) gNo := by
  refine gCt_of (lo := [some (.ref y), some (.int (nI k)), some (.int (nI w)), none]) (by decide +kernel) (Nat.le_of_ble_eq_true rfl) (rfl) ?_
  intro Γ hd G F hini
  obtain ⟨i6, i8, i11, i17, i23, i2, i5⟩ := i.b
  refine g_iconst (v := nI 5) G dX9_letterTold_0 (by decide) ?_
  refine g_new_int (κ := 17 + 32 * 90) G ac_int (by first | decide | omega) (rfl) (by omega) (by omega) (by omega) dX9_letterTold_1 (fun q_1 hq_1 => ?_)
  have hlen : gL (sM S (17 + 32 * 90) q_1 5) q_1 = 5 := va_up_self _ _ _
  have hk9 : ∀ κ, gRk κ → κ ≠ 17 + 32 * 90 := fun κ z e => gRk_9 (e ▸ z)
  refine g_dup G dX9_letterTold_3 rfl ?_
  refine g_iconst (v := nI 0) G dX9_letterTold_4 (by decide) ?_
  first | refine g_aload_n G dX9_letterTold_5 rfl ?_ | refine g_aload_nN G dX9_letterTold_5 rfl ?_ | refine g_aload_nQ G dX9_letterTold_5 rfl ?_
  refine g_getR G fl_X9_61 ((gRest_mono r (gFr_M (17 + 32 * 90) 5 hq_1) hk9).kd) (by first | decide | omega) rfl ((gRest_mono r (gFr_M (17 + 32 * 90) 5 hq_1) hk9).Y 24 rfl) dX9_letterTold_6 ?_
  refine g_iload_n G dX9_letterTold_9 rfl ?_
  refine g_iald G ((gRest_mono r (gFr_M (17 + 32 * 90) 5 hq_1) hk9).A 24 rfl) (by first | decide | omega) ((gRest_mono r (gFr_M (17 + 32 * 90) 5 hq_1) hk9).lt 24 39 rfl (by omega)) (by omega) ((gRest_mono r (gFr_M (17 + 32 * 90) 5 hq_1) hk9).X 24 39 rfl rfl (by omega)) dX9_letterTold_10 ?_
  refine g_iast G (va_up_self _ _ _) (by first | decide | omega) (show 0 < gL (sM S (17 + 32 * 90) q_1 5) q_1 by rw [hlen]; decide) (by omega) (rfl) dX9_letterTold_11 ?_
  refine g_dup G dX9_letterTold_12 rfl ?_
  refine g_iconst (v := nI 1) G dX9_letterTold_13 (by decide) ?_
  first | refine g_aload_n G dX9_letterTold_14 rfl ?_ | refine g_aload_nN G dX9_letterTold_14 rfl ?_ | refine g_aload_nQ G dX9_letterTold_14 rfl ?_
  refine g_getR G fl_X9_64 ((gRest_mono r ((gFr_M (17 + 32 * 90) 5 hq_1).X1 _ _ _ (fun _ z => z)) hk9).kd) (by first | decide | omega) rfl ((gRest_mono r ((gFr_M (17 + 32 * 90) 5 hq_1).X1 _ _ _ (fun _ z => z)) hk9).Y 25 rfl) dX9_letterTold_15 ?_
  refine g_iload_n G dX9_letterTold_18 rfl ?_
  refine g_iald G ((gRest_mono r ((gFr_M (17 + 32 * 90) 5 hq_1).X1 _ _ _ (fun _ z => z)) hk9).A 25 rfl) (by first | decide | omega) ((gRest_mono r ((gFr_M (17 + 32 * 90) 5 hq_1).X1 _ _ _ (fun _ z => z)) hk9).lt 25 39 rfl (by omega)) (by omega) ((gRest_mono r ((gFr_M (17 + 32 * 90) 5 hq_1).X1 _ _ _ (fun _ z => z)) hk9).X 25 39 rfl rfl (by omega)) dX9_letterTold_19 ?_
  refine g_iast G (va_up_self _ _ _) (by first | decide | omega) (show 1 < gL (sM S (17 + 32 * 90) q_1 5) q_1 by rw [hlen]; decide) (by omega) (rfl) dX9_letterTold_20 ?_
  refine g_dup G dX9_letterTold_21 rfl ?_
  refine g_iconst (v := nI 2) G dX9_letterTold_22 (by decide) ?_
  first | refine g_aload_n G dX9_letterTold_23 rfl ?_ | refine g_aload_nN G dX9_letterTold_23 rfl ?_ | refine g_aload_nQ G dX9_letterTold_23 rfl ?_
  refine g_getR G fl_X9_67 ((gRest_mono r (((gFr_M (17 + 32 * 90) 5 hq_1).X1 _ _ _ (fun _ z => z)).X1 _ _ _ (fun _ z => z)) hk9).kd) (by first | decide | omega) rfl ((gRest_mono r (((gFr_M (17 + 32 * 90) 5 hq_1).X1 _ _ _ (fun _ z => z)).X1 _ _ _ (fun _ z => z)) hk9).Y 26 rfl) dX9_letterTold_24 ?_
  refine g_iload_n G dX9_letterTold_27 rfl ?_
  refine g_iald G ((gRest_mono r (((gFr_M (17 + 32 * 90) 5 hq_1).X1 _ _ _ (fun _ z => z)).X1 _ _ _ (fun _ z => z)) hk9).A 26 rfl) (by first | decide | omega) ((gRest_mono r (((gFr_M (17 + 32 * 90) 5 hq_1).X1 _ _ _ (fun _ z => z)).X1 _ _ _ (fun _ z => z)) hk9).lt 26 39 rfl (by omega)) (by omega) ((gRest_mono r (((gFr_M (17 + 32 * 90) 5 hq_1).X1 _ _ _ (fun _ z => z)).X1 _ _ _ (fun _ z => z)) hk9).X 26 39 rfl rfl (by omega)) dX9_letterTold_28 ?_
  refine g_iast G (va_up_self _ _ _) (by first | decide | omega) (show 2 < gL (sM S (17 + 32 * 90) q_1 5) q_1 by rw [hlen]; decide) (by omega) (rfl) dX9_letterTold_29 ?_
  refine g_dup G dX9_letterTold_30 rfl ?_
  refine g_iconst (v := nI 3) G dX9_letterTold_31 (by decide) ?_
  first | refine g_aload_n G dX9_letterTold_32 rfl ?_ | refine g_aload_nN G dX9_letterTold_32 rfl ?_ | refine g_aload_nQ G dX9_letterTold_32 rfl ?_
  refine g_getR G fl_X9_75 ((gRest_mono r ((((gFr_M (17 + 32 * 90) 5 hq_1).X1 _ _ _ (fun _ z => z)).X1 _ _ _ (fun _ z => z)).X1 _ _ _ (fun _ z => z)) hk9).kd) (by first | decide | omega) rfl ((gRest_mono r ((((gFr_M (17 + 32 * 90) 5 hq_1).X1 _ _ _ (fun _ z => z)).X1 _ _ _ (fun _ z => z)).X1 _ _ _ (fun _ z => z)) hk9).st) dX9_letterTold_33 ?_
  refine g_getRN G fl_X9_185 ((gStt_mono q ((((gFr_M (17 + 32 * 90) 5 hq_1).X1 _ _ _ (fun _ z => z)).X1 _ _ _ (fun _ z => z)).X1 _ _ _ (fun _ z => z)) (by omega) (fun _ _ _ => by omega)).kd) (by first | decide | omega) rfl ((gStt_mono q ((((gFr_M (17 + 32 * 90) 5 hq_1).X1 _ _ _ (fun _ z => z)).X1 _ _ _ (fun _ z => z)).X1 _ _ _ (fun _ z => z)) (by omega) (fun _ _ _ => by omega)).Y 6 rfl) dX9_letterTold_36 ?_
  refine g_iload_n G dX9_letterTold_39 rfl ?_
  refine g_iald G ((gStt_mono q ((((gFr_M (17 + 32 * 90) 5 hq_1).X1 _ _ _ (fun _ z => z)).X1 _ _ _ (fun _ z => z)).X1 _ _ _ (fun _ z => z)) (by omega) (fun _ _ _ => by omega)).A 6 rfl) (by first | decide | omega) ((gStt_mono q ((((gFr_M (17 + 32 * 90) 5 hq_1).X1 _ _ _ (fun _ z => z)).X1 _ _ _ (fun _ z => z)).X1 _ _ _ (fun _ z => z)) (by omega) (fun _ _ _ => by omega)).lt 6 39 rfl (by omega)) (by omega) ((gStt_mono q ((((gFr_M (17 + 32 * 90) 5 hq_1).X1 _ _ _ (fun _ z => z)).X1 _ _ _ (fun _ z => z)).X1 _ _ _ (fun _ z => z)) (by omega) (fun _ _ _ => by omega)).X 6 39 rfl (by omega)) dX9_letterTold_40 ?_
  refine g_iast G (va_up_self _ _ _) (by first | decide | omega) (show 3 < gL (sM S (17 + 32 * 90) q_1 5) q_1 by rw [hlen]; decide) (by omega) (rfl) dX9_letterTold_41 ?_
  refine g_dup G dX9_letterTold_42 rfl ?_
  refine g_iconst (v := nI 4) G dX9_letterTold_43 (by decide) ?_
  first | refine g_aload_n G dX9_letterTold_44 rfl ?_ | refine g_aload_nN G dX9_letterTold_44 rfl ?_ | refine g_aload_nQ G dX9_letterTold_44 rfl ?_
  refine g_getR G fl_X9_75 ((gRest_mono r (((((gFr_M (17 + 32 * 90) 5 hq_1).X1 _ _ _ (fun _ z => z)).X1 _ _ _ (fun _ z => z)).X1 _ _ _ (fun _ z => z)).X1 _ _ _ (fun _ z => z)) hk9).kd) (by first | decide | omega) rfl ((gRest_mono r (((((gFr_M (17 + 32 * 90) 5 hq_1).X1 _ _ _ (fun _ z => z)).X1 _ _ _ (fun _ z => z)).X1 _ _ _ (fun _ z => z)).X1 _ _ _ (fun _ z => z)) hk9).st) dX9_letterTold_45 ?_
  refine g_getRN G fl_X9_244 ((gStt_mono q (((((gFr_M (17 + 32 * 90) 5 hq_1).X1 _ _ _ (fun _ z => z)).X1 _ _ _ (fun _ z => z)).X1 _ _ _ (fun _ z => z)).X1 _ _ _ (fun _ z => z)) (by omega) (fun _ _ _ => by omega)).kd) (by first | decide | omega) rfl ((gStt_mono q (((((gFr_M (17 + 32 * 90) 5 hq_1).X1 _ _ _ (fun _ z => z)).X1 _ _ _ (fun _ z => z)).X1 _ _ _ (fun _ z => z)).X1 _ _ _ (fun _ z => z)) (by omega) (fun _ _ _ => by omega)).Y 7 rfl) dX9_letterTold_48 ?_
  refine g_iload_n G dX9_letterTold_51 rfl ?_
  refine g_iald G ((gStt_mono q (((((gFr_M (17 + 32 * 90) 5 hq_1).X1 _ _ _ (fun _ z => z)).X1 _ _ _ (fun _ z => z)).X1 _ _ _ (fun _ z => z)).X1 _ _ _ (fun _ z => z)) (by omega) (fun _ _ _ => by omega)).A 7 rfl) (by first | decide | omega) ((gStt_mono q (((((gFr_M (17 + 32 * 90) 5 hq_1).X1 _ _ _ (fun _ z => z)).X1 _ _ _ (fun _ z => z)).X1 _ _ _ (fun _ z => z)).X1 _ _ _ (fun _ z => z)) (by omega) (fun _ _ _ => by omega)).lt 7 39 rfl (by omega)) (by omega) ((gStt_mono q (((((gFr_M (17 + 32 * 90) 5 hq_1).X1 _ _ _ (fun _ z => z)).X1 _ _ _ (fun _ z => z)).X1 _ _ _ (fun _ z => z)).X1 _ _ _ (fun _ z => z)) (by omega) (fun _ _ _ => by omega)).X 7 39 rfl (by omega)) dX9_letterTold_52 ?_
  refine g_iast G (va_up_self _ _ _) (by first | decide | omega) (show 4 < gL (sM S (17 + 32 * 90) q_1 5) q_1 by rw [hlen]; decide) (by omega) (rfl) dX9_letterTold_53 ?_
  first | refine g_astore_n G dX9_letterTold_54 (gSt_3 (by first | rfl | exact g_c1_rf)) ?_ | refine g_astore_nN G dX9_letterTold_54 (gSt_3 (by first | rfl | exact g_c1_rf)) ?_ | refine g_astore_nQ G dX9_letterTold_54 (gSt_3 (by first | rfl | exact g_c1_rf)) ?_
  first | refine g_aload_n G dX9_letterTold_55 rfl ?_ | refine g_aload_nN G dX9_letterTold_55 rfl ?_ | refine g_aload_nQ G dX9_letterTold_55 rfl ?_
  refine g_iload_n G dX9_letterTold_56 rfl ?_
  refine g_iald G (va_up_self _ _ _) (by first | decide | omega) (show w < gL (sM S (17 + 32 * 90) q_1 5) q_1 by rw [hlen]; omega) (by omega) ((by
      obtain rfl | rfl | rfl | rfl | rfl := (show w = 0 ∨ w = 1 ∨ w = 2 ∨ w = 3 ∨ w = 4 by omega)
      · exact sX_q (by decide) (sX_q (by decide) (sX_q (by decide) (sX_q (by decide) (sX_s))))
      · exact sX_q (by decide) (sX_q (by decide) (sX_q (by decide) (sX_s)))
      · exact sX_q (by decide) (sX_q (by decide) (sX_s))
      · exact sX_q (by decide) (sX_s)
      · exact sX_s : gX _ (17 + 32 * 90) q_1 w = gTellLtr M k w)) dX9_letterTold_57 ?_
  exact g_iret G F (⟨rfl, (((((gFr_M (17 + 32 * 90) 5 hq_1).X1 _ _ _ (fun _ z => z)).X1 _ _ _ (fun _ z => z)).X1 _ _ _ (fun _ z => z)).X1 _ _ _ (fun _ z => z)).X1 _ _ _ (fun _ z => z)⟩) (by omega) (by omega) dX9_letterTold_58

set_option maxHeartbeats 4000000 in
set_option maxRecDepth 100000 in
theorem c_X9_exhibitTold (d0 : Nat × Nat) (S : gS) (y : Nat) (b : Nat → Nat → Nat) (M : gM) (r : gRest S y b M) (q : gStt S (b 0 27) 0 b y M) (i : gInv M) (e w : Nat) (he : e < mN M 17) (hw : w ≤ 6) : gCt d0 yX9_exhibitTold cX9_exhibitTold 5 (some .int) 3 1 7 [.ref y, .int (nI e), .int (nI w)] S (gTmp S (gTellExh M e w)) gNo := by
  refine gCt_of (lo := [some (.ref y), some (.int (nI e)), some (.int (nI w)), none, none]) (by decide +kernel) (Nat.le_of_ble_eq_true rfl) (rfl) ?_
  intro Γ hd G F hini
  obtain ⟨i6, i8, i11, i17, i23, i2, i5⟩ := i.b
  have ie := i.e e
  refine g_iconst (v := nI 0) G dX9_exhibitTold_0 (by decide) ?_
  refine g_istore_n G dX9_exhibitTold_1 (gSt_3 (by first | rfl | exact g_c1_rf)) ?_
  refine g_iconst (v := nI 0) G dX9_exhibitTold_2 (by decide) ?_
  refine g_istore G dX9_exhibitTold_3 (gSt_4 (by first | rfl | exact g_c1_rf)) ?_
  have loop5 : ∀ f2 t : Nat, t ≤ (mN M 11) → (mN M 11) + 1 ≤ t + f2 → gW Γ 5 [some (.ref y), some (.int (nI e)), some (.int (nI w)), some (.int (nI (gct (fun k => gBit (mA M 16 k) e) (t)))), some (.int (nI (t)))] [] S 0 0 := by
    intro f2
    induction f2 with
    | zero => intro t  q1 q2; omega
    | succ f2 ih2 =>
      intro t  ht2 hf2 
      refine g_iload G dX9_exhibitTold_5 rfl ?_
      first | refine g_aload_n G dX9_exhibitTold_7 rfl ?_ | refine g_aload_nN G dX9_exhibitTold_7 rfl ?_ | refine g_aload_nQ G dX9_exhibitTold_7 rfl ?_
      refine g_getI G fl_X9_104 (r.kd) (by first | decide | omega) rfl (r.n 11 rfl) dX9_exhibitTold_8 ?_
      refine g_icmp_ge (tgt := 34) G dX9_exhibitTold_11 (by decide) (fun c_11 => ?_) (fun c_11 => ?_)
      · have et : t = (mN M 11) := by have := (nI_leI (by omega) (by omega)).mp c_11; omega
        subst et
        refine g_bipush (v := nI 7) G dX9_exhibitTold_34 (by decide) ?_
        refine g_new_int (κ := 17 + 32 * 90) G ac_int (by first | decide | omega) (rfl) (by omega) (by omega) (by omega) dX9_exhibitTold_36 (fun q_36 hq_36 => ?_)
        have hlen : gL (sM S (17 + 32 * 90) q_36 7) q_36 = 7 := va_up_self _ _ _
        have hk9 : ∀ κ, gRk κ → κ ≠ 17 + 32 * 90 := fun κ z e => gRk_9 (e ▸ z)
        refine g_dup G dX9_exhibitTold_38 rfl ?_
        refine g_iconst (v := nI 0) G dX9_exhibitTold_39 (by decide) ?_
        first | refine g_aload_n G dX9_exhibitTold_40 rfl ?_ | refine g_aload_nN G dX9_exhibitTold_40 rfl ?_ | refine g_aload_nQ G dX9_exhibitTold_40 rfl ?_
        refine g_getR G fl_X9_46 ((gRest_mono r (gFr_M (17 + 32 * 90) 7 hq_36) hk9).kd) (by first | decide | omega) rfl ((gRest_mono r (gFr_M (17 + 32 * 90) 7 hq_36) hk9).Y 18 rfl) dX9_exhibitTold_41 ?_
        refine g_iload_n G dX9_exhibitTold_44 rfl ?_
        refine g_iald G ((gRest_mono r (gFr_M (17 + 32 * 90) 7 hq_36) hk9).A 18 rfl) (by first | decide | omega) ((gRest_mono r (gFr_M (17 + 32 * 90) 7 hq_36) hk9).lt 18 19 rfl (by omega)) (by omega) ((gRest_mono r (gFr_M (17 + 32 * 90) 7 hq_36) hk9).X 18 19 rfl rfl (by omega)) dX9_exhibitTold_45 ?_
        refine g_iast G (va_up_self _ _ _) (by first | decide | omega) (show 0 < gL (sM S (17 + 32 * 90) q_36 7) q_36 by rw [hlen]; decide) (by omega) (rfl) dX9_exhibitTold_46 ?_
        refine g_dup G dX9_exhibitTold_47 rfl ?_
        refine g_iconst (v := nI 1) G dX9_exhibitTold_48 (by decide) ?_
        first | refine g_aload_n G dX9_exhibitTold_49 rfl ?_ | refine g_aload_nN G dX9_exhibitTold_49 rfl ?_ | refine g_aload_nQ G dX9_exhibitTold_49 rfl ?_
        refine g_getR G fl_X9_49 ((gRest_mono r ((gFr_M (17 + 32 * 90) 7 hq_36).X1 _ _ _ (fun _ z => z)) hk9).kd) (by first | decide | omega) rfl ((gRest_mono r ((gFr_M (17 + 32 * 90) 7 hq_36).X1 _ _ _ (fun _ z => z)) hk9).Y 19 rfl) dX9_exhibitTold_50 ?_
        refine g_iload_n G dX9_exhibitTold_53 rfl ?_
        refine g_iald G ((gRest_mono r ((gFr_M (17 + 32 * 90) 7 hq_36).X1 _ _ _ (fun _ z => z)) hk9).A 19 rfl) (by first | decide | omega) ((gRest_mono r ((gFr_M (17 + 32 * 90) 7 hq_36).X1 _ _ _ (fun _ z => z)) hk9).lt 19 19 rfl (by omega)) (by omega) ((gRest_mono r ((gFr_M (17 + 32 * 90) 7 hq_36).X1 _ _ _ (fun _ z => z)) hk9).X 19 19 rfl rfl (by omega)) dX9_exhibitTold_54 ?_
        refine g_iast G (va_up_self _ _ _) (by first | decide | omega) (show 1 < gL (sM S (17 + 32 * 90) q_36 7) q_36 by rw [hlen]; decide) (by omega) (rfl) dX9_exhibitTold_55 ?_
        refine g_dup G dX9_exhibitTold_56 rfl ?_
        refine g_iconst (v := nI 2) G dX9_exhibitTold_57 (by decide) ?_
        first | refine g_aload_n G dX9_exhibitTold_58 rfl ?_ | refine g_aload_nN G dX9_exhibitTold_58 rfl ?_ | refine g_aload_nQ G dX9_exhibitTold_58 rfl ?_
        refine g_getR G fl_X9_52 ((gRest_mono r (((gFr_M (17 + 32 * 90) 7 hq_36).X1 _ _ _ (fun _ z => z)).X1 _ _ _ (fun _ z => z)) hk9).kd) (by first | decide | omega) rfl ((gRest_mono r (((gFr_M (17 + 32 * 90) 7 hq_36).X1 _ _ _ (fun _ z => z)).X1 _ _ _ (fun _ z => z)) hk9).Y 20 rfl) dX9_exhibitTold_59 ?_
        refine g_iload_n G dX9_exhibitTold_62 rfl ?_
        refine g_iald G ((gRest_mono r (((gFr_M (17 + 32 * 90) 7 hq_36).X1 _ _ _ (fun _ z => z)).X1 _ _ _ (fun _ z => z)) hk9).A 20 rfl) (by first | decide | omega) ((gRest_mono r (((gFr_M (17 + 32 * 90) 7 hq_36).X1 _ _ _ (fun _ z => z)).X1 _ _ _ (fun _ z => z)) hk9).lt 20 19 rfl (by omega)) (by omega) ((gRest_mono r (((gFr_M (17 + 32 * 90) 7 hq_36).X1 _ _ _ (fun _ z => z)).X1 _ _ _ (fun _ z => z)) hk9).X 20 19 rfl rfl (by omega)) dX9_exhibitTold_63 ?_
        refine g_iast G (va_up_self _ _ _) (by first | decide | omega) (show 2 < gL (sM S (17 + 32 * 90) q_36 7) q_36 by rw [hlen]; decide) (by omega) (rfl) dX9_exhibitTold_64 ?_
        refine g_dup G dX9_exhibitTold_65 rfl ?_
        refine g_iconst (v := nI 3) G dX9_exhibitTold_66 (by decide) ?_
        first | refine g_aload_n G dX9_exhibitTold_67 rfl ?_ | refine g_aload_nN G dX9_exhibitTold_67 rfl ?_ | refine g_aload_nQ G dX9_exhibitTold_67 rfl ?_
        refine g_getR G fl_X9_55 ((gRest_mono r ((((gFr_M (17 + 32 * 90) 7 hq_36).X1 _ _ _ (fun _ z => z)).X1 _ _ _ (fun _ z => z)).X1 _ _ _ (fun _ z => z)) hk9).kd) (by first | decide | omega) rfl ((gRest_mono r ((((gFr_M (17 + 32 * 90) 7 hq_36).X1 _ _ _ (fun _ z => z)).X1 _ _ _ (fun _ z => z)).X1 _ _ _ (fun _ z => z)) hk9).Y 21 rfl) dX9_exhibitTold_68 ?_
        refine g_iload_n G dX9_exhibitTold_71 rfl ?_
        refine g_iald G ((gRest_mono r ((((gFr_M (17 + 32 * 90) 7 hq_36).X1 _ _ _ (fun _ z => z)).X1 _ _ _ (fun _ z => z)).X1 _ _ _ (fun _ z => z)) hk9).A 21 rfl) (by first | decide | omega) ((gRest_mono r ((((gFr_M (17 + 32 * 90) 7 hq_36).X1 _ _ _ (fun _ z => z)).X1 _ _ _ (fun _ z => z)).X1 _ _ _ (fun _ z => z)) hk9).lt 21 19 rfl (by omega)) (by omega) ((gRest_mono r ((((gFr_M (17 + 32 * 90) 7 hq_36).X1 _ _ _ (fun _ z => z)).X1 _ _ _ (fun _ z => z)).X1 _ _ _ (fun _ z => z)) hk9).k (by omega)) dX9_exhibitTold_72 ?_
        refine g_iast G (va_up_self _ _ _) (by first | decide | omega) (show 3 < gL (sM S (17 + 32 * 90) q_36 7) q_36 by rw [hlen]; decide) (by omega) (rfl) dX9_exhibitTold_73 ?_
        refine g_dup G dX9_exhibitTold_74 rfl ?_
        refine g_iconst (v := nI 4) G dX9_exhibitTold_75 (by decide) ?_
        first | refine g_aload_n G dX9_exhibitTold_76 rfl ?_ | refine g_aload_nN G dX9_exhibitTold_76 rfl ?_ | refine g_aload_nQ G dX9_exhibitTold_76 rfl ?_
        refine g_iload_n G dX9_exhibitTold_77 rfl ?_
        refine g_callVp (ci := 10) G (c_X9_gaps _ _ _ _ _ (gRest_mono r (((((gFr_M (17 + 32 * 90) 7 hq_36).X1 _ _ _ (fun _ z => z)).X1 _ _ _ (fun _ z => z)).X1 _ _ _ (fun _ z => z)).X1 _ _ _ (fun _ z => z)) hk9) i _ (by omega)) mt_X9_gaps mi_X9_gaps ml_X9_238 ((gRest_mono r (((((gFr_M (17 + 32 * 90) 7 hq_36).X1 _ _ _ (fun _ z => z)).X1 _ _ _ (fun _ z => z)).X1 _ _ _ (fun _ z => z)).X1 _ _ _ (fun _ z => z)) hk9).kd) (by first | decide | omega) rfl (by decide) (by omega) (by omega) rfl (Nat.le_of_ble_eq_true rfl) dX9_exhibitTold_78 ?_
        refine g_iast G (va_up_self _ _ _) (by first | decide | omega) (show 4 < gL (sM S (17 + 32 * 90) q_36 7) q_36 by rw [hlen]; decide) (by omega) (rfl) dX9_exhibitTold_81 ?_
        refine g_dup G dX9_exhibitTold_82 rfl ?_
        refine g_iconst (v := nI 5) G dX9_exhibitTold_83 (by decide) ?_
        first | refine g_aload_n G dX9_exhibitTold_84 rfl ?_ | refine g_aload_nN G dX9_exhibitTold_84 rfl ?_ | refine g_aload_nQ G dX9_exhibitTold_84 rfl ?_
        refine g_iload_n G dX9_exhibitTold_85 rfl ?_
        refine g_callVp (ci := 10) G (c_X9_isGood _ _ _ _ _ (gRest_mono r ((((((gFr_M (17 + 32 * 90) 7 hq_36).X1 _ _ _ (fun _ z => z)).X1 _ _ _ (fun _ z => z)).X1 _ _ _ (fun _ z => z)).X1 _ _ _ (fun _ z => z)).X1 _ _ _ (fun _ z => z)) hk9) i _ (by omega)) mt_X9_isGood mi_X9_isGood ml_X9_194 ((gRest_mono r ((((((gFr_M (17 + 32 * 90) 7 hq_36).X1 _ _ _ (fun _ z => z)).X1 _ _ _ (fun _ z => z)).X1 _ _ _ (fun _ z => z)).X1 _ _ _ (fun _ z => z)).X1 _ _ _ (fun _ z => z)) hk9).kd) (by first | decide | omega) rfl (by decide) (by omega) (by omega) rfl (Nat.le_of_ble_eq_true rfl) dX9_exhibitTold_86 ?_
        refine g_if_eq (tgt := 96) G dX9_exhibitTold_89 (by decide) (fun c_89 => ?_) (fun c_89 => ?_)
        · have e5 : nI 0 = gB (gAdm M e) := by rw [gB_eq0.mp c_89]; rfl
          refine g_iconst (v := nI 0) G dX9_exhibitTold_96 (by decide) ?_
          refine g_iast G (va_up_self _ _ _) (by first | decide | omega) (show 5 < gL (sM S (17 + 32 * 90) q_36 7) q_36 by rw [hlen]; decide) (by omega) (rfl) dX9_exhibitTold_97 ?_
          refine g_dup G dX9_exhibitTold_98 rfl ?_
          refine g_bipush (v := nI 6) G dX9_exhibitTold_99 (by decide) ?_
          refine g_iload_n G dX9_exhibitTold_101 rfl ?_
          refine g_iast G (va_up_self _ _ _) (by first | decide | omega) (show 6 < gL (sM S (17 + 32 * 90) q_36 7) q_36 by rw [hlen]; decide) (by omega) (rfl) dX9_exhibitTold_102 ?_
          first | refine g_astore G dX9_exhibitTold_103 (gSt_4 (by first | rfl | exact g_c1_rf)) ?_ | refine g_astoreN G dX9_exhibitTold_103 (gSt_4 (by first | rfl | exact g_c1_rf)) ?_ | refine g_astoreQ G dX9_exhibitTold_103 (gSt_4 (by first | rfl | exact g_c1_rf)) ?_
          first | refine g_aload G dX9_exhibitTold_105 rfl ?_ | refine g_aloadN G dX9_exhibitTold_105 rfl ?_ | refine g_aloadQ G dX9_exhibitTold_105 rfl ?_
          refine g_iload_n G dX9_exhibitTold_107 rfl ?_
          refine g_iald G (va_up_self _ _ _) (by first | decide | omega) (show w < gL (sM S (17 + 32 * 90) q_36 7) q_36 by rw [hlen]; omega) (by omega) ((by
              obtain rfl | rfl | rfl | rfl | rfl | rfl | rfl := (show w = 0 ∨ w = 1 ∨ w = 2 ∨ w = 3 ∨ w = 4 ∨ w = 5 ∨ w = 6 by omega)
              · exact sX_q (by decide) (sX_q (by decide) (sX_q (by decide) (sX_q (by decide) (sX_q (by decide) (sX_q (by decide) (sX_s))))))
              · exact sX_q (by decide) (sX_q (by decide) (sX_q (by decide) (sX_q (by decide) (sX_q (by decide) (sX_s)))))
              · exact sX_q (by decide) (sX_q (by decide) (sX_q (by decide) (sX_q (by decide) (sX_s))))
              · exact sX_q (by decide) (sX_q (by decide) (sX_q (by decide) (sX_s)))
              · exact sX_q (by decide) (sX_q (by decide) (sX_s))
              · exact sX_q (by decide) (sX_s.trans e5)
              · exact sX_s : gX _ (17 + 32 * 90) q_36 w = gTellExh M e w)) dX9_exhibitTold_108 ?_
          exact g_iret G F (⟨rfl, (((((((gFr_M (17 + 32 * 90) 7 hq_36).X1 _ _ _ (fun _ z => z)).X1 _ _ _ (fun _ z => z)).X1 _ _ _ (fun _ z => z)).X1 _ _ _ (fun _ z => z)).X1 _ _ _ (fun _ z => z)).X1 _ _ _ (fun _ z => z)).X1 _ _ _ (fun _ z => z)⟩) (by omega) (by omega) dX9_exhibitTold_109
        · have e5 : nI 1 = gB (gAdm M e) := by rw [gB_ne0.mp c_89]; rfl
          refine g_iconst (v := nI 1) G dX9_exhibitTold_92 (by decide) ?_
          refine g_goto (tgt := 97) G dX9_exhibitTold_93 (by decide) ?_
          refine g_iast G (va_up_self _ _ _) (by first | decide | omega) (show 5 < gL (sM S (17 + 32 * 90) q_36 7) q_36 by rw [hlen]; decide) (by omega) (rfl) dX9_exhibitTold_97 ?_
          refine g_dup G dX9_exhibitTold_98 rfl ?_
          refine g_bipush (v := nI 6) G dX9_exhibitTold_99 (by decide) ?_
          refine g_iload_n G dX9_exhibitTold_101 rfl ?_
          refine g_iast G (va_up_self _ _ _) (by first | decide | omega) (show 6 < gL (sM S (17 + 32 * 90) q_36 7) q_36 by rw [hlen]; decide) (by omega) (rfl) dX9_exhibitTold_102 ?_
          first | refine g_astore G dX9_exhibitTold_103 (gSt_4 (by first | rfl | exact g_c1_rf)) ?_ | refine g_astoreN G dX9_exhibitTold_103 (gSt_4 (by first | rfl | exact g_c1_rf)) ?_ | refine g_astoreQ G dX9_exhibitTold_103 (gSt_4 (by first | rfl | exact g_c1_rf)) ?_
          first | refine g_aload G dX9_exhibitTold_105 rfl ?_ | refine g_aloadN G dX9_exhibitTold_105 rfl ?_ | refine g_aloadQ G dX9_exhibitTold_105 rfl ?_
          refine g_iload_n G dX9_exhibitTold_107 rfl ?_
          refine g_iald G (va_up_self _ _ _) (by first | decide | omega) (show w < gL (sM S (17 + 32 * 90) q_36 7) q_36 by rw [hlen]; omega) (by omega) ((by
              obtain rfl | rfl | rfl | rfl | rfl | rfl | rfl := (show w = 0 ∨ w = 1 ∨ w = 2 ∨ w = 3 ∨ w = 4 ∨ w = 5 ∨ w = 6 by omega)
              · exact sX_q (by decide) (sX_q (by decide) (sX_q (by decide) (sX_q (by decide) (sX_q (by decide) (sX_q (by decide) (sX_s))))))
              · exact sX_q (by decide) (sX_q (by decide) (sX_q (by decide) (sX_q (by decide) (sX_q (by decide) (sX_s)))))
              · exact sX_q (by decide) (sX_q (by decide) (sX_q (by decide) (sX_q (by decide) (sX_s))))
              · exact sX_q (by decide) (sX_q (by decide) (sX_q (by decide) (sX_s)))
              · exact sX_q (by decide) (sX_q (by decide) (sX_s))
              · exact sX_q (by decide) (sX_s.trans e5)
              · exact sX_s : gX _ (17 + 32 * 90) q_36 w = gTellExh M e w)) dX9_exhibitTold_108 ?_
          exact g_iret G F (⟨rfl, (((((((gFr_M (17 + 32 * 90) 7 hq_36).X1 _ _ _ (fun _ z => z)).X1 _ _ _ (fun _ z => z)).X1 _ _ _ (fun _ z => z)).X1 _ _ _ (fun _ z => z)).X1 _ _ _ (fun _ z => z)).X1 _ _ _ (fun _ z => z)).X1 _ _ _ (fun _ z => z)⟩) (by omega) (by omega) dX9_exhibitTold_109
      · have hlt2 : t < (mN M 11) := by have z : ¬ (mN M 11) ≤ t := fun z => c_11 ((nI_leI (by omega) (by omega)).mpr z); omega
        have e9 : nI (gct (fun k => gBit (mA M 16 k) e) (t + 1)) = nI (gct (fun k => gBit (mA M 16 k) e) t) + ((mA M 16 t >>> (nI e &&& 31)) &&& nI 1) := by
          rcases gAnd1 (mA M 16 t >>> (nI e &&& 31)) with z | z
          · rw [gct_no (p := (fun k => gBit (mA M 16 k) e)) (n := t) (gBit_no z), z]
            exact (nI_add _ 0).symm
          · rw [gct_yes (p := (fun k => gBit (mA M 16 k) e)) (n := t) (decide_eq_true z), z]
            exact (nI_add _ 1).symm
        refine g_iload_n G dX9_exhibitTold_14 rfl ?_
        first | refine g_aload_n G dX9_exhibitTold_15 rfl ?_ | refine g_aload_nN G dX9_exhibitTold_15 rfl ?_ | refine g_aload_nQ G dX9_exhibitTold_15 rfl ?_
        refine g_getR G fl_X9_43 (r.kd) (by first | decide | omega) rfl (r.Y 16 rfl) dX9_exhibitTold_16 ?_
        refine g_iload G dX9_exhibitTold_19 rfl ?_
        refine g_iald G (r.A 16 rfl) (by first | decide | omega) (r.lt 16 23 rfl (by omega)) (by omega) (r.X 16 23 rfl rfl (by omega)) dX9_exhibitTold_21 ?_
        refine g_iload_n G dX9_exhibitTold_22 rfl ?_
        refine g_ishr G dX9_exhibitTold_23 (rfl) ?_
        refine g_iconst (v := nI 1) G dX9_exhibitTold_24 (by decide) ?_
        refine g_iand G dX9_exhibitTold_25 (rfl) ?_
        refine g_iadd G dX9_exhibitTold_26 (by first | exact nI_add _ _ | rfl) ?_
        refine g_istore_n G dX9_exhibitTold_27 (gSt_3 (by first | rfl | exact g_c1_rf)) ?_
        refine g_iinc (v := _) G dX9_exhibitTold_28 rfl (by first | exact nI_1 _ | rfl) (gSt_4 (by first | rfl | exact g_c1_rf)) ?_
        refine g_goto (tgt := 5) G dX9_exhibitTold_31 (by decide) ?_
        have h9 := ih2 (t + 1) (by omega) (by omega)
        rw [e9] at h9
        exact h9
  exact loop5 ((mN M 11) + 1) 0 (by omega) (by omega)

set_option maxHeartbeats 4000000 in
set_option maxRecDepth 100000 in
theorem c_X9_documentTold (d0 : Nat × Nat) (S : gS) (y : Nat) (b : Nat → Nat → Nat) (M : gM) (r : gRest S y b M) (q : gStt S (b 0 27) 0 b y M) (i : gInv M) (d w : Nat) (hd2 : d < mN M 11) (hw : w ≤ 7) : gCt d0 yX9_documentTold cX9_documentTold 7 (some .int) 1 1 8 [.ref y, .int (nI d), .int (nI w)] S (gTmp S (gTellDoc M d w)) gNo := by
  refine gCt_of (lo := [some (.ref y), some (.int (nI d)), some (.int (nI w)), none, none, none, none]) (by decide +kernel) (Nat.le_of_ble_eq_true rfl) (rfl) ?_
  intro Γ hd G F hini
  obtain ⟨i6, i8, i11, i17, i23, i2, i5⟩ := i.b
  have it := i.t hd2
  refine g_iconst (v := nI 0) G dX9_documentTold_0 (by decide) ?_
  refine g_istore_n G dX9_documentTold_1 (gSt_3 (by first | rfl | exact g_c1_rf)) ?_
  refine g_iconst (v := nI 0) G dX9_documentTold_2 (by decide) ?_
  refine g_istore G dX9_documentTold_3 (gSt_4 (by first | rfl | exact g_c1_rf)) ?_
  refine g_iconst (v := nI 0) G dX9_documentTold_5 (by decide) ?_
  refine g_istore G dX9_documentTold_6 (gSt_5 (by first | rfl | exact g_c1_rf)) ?_
  refine g_iconst (v := nI 0) G dX9_documentTold_8 (by decide) ?_
  refine g_istore G dX9_documentTold_9 (gSt_6 (by first | rfl | exact g_c1_rf)) ?_
  have loop11 : ∀ f2 t : Nat, t ≤ (mN M (100 + d)) → (mN M (100 + d)) + 1 ≤ t + f2 → gW Γ 11 [some (.ref y), some (.int (nI d)), some (.int (nI w)), some (.int (nI (gct (fun k => decide (0 < mT M 14 d k)) (t)))), some (.int (gmx (mT M 14 d) (t))), some (.int (gsm (mT M 15 d) (t))), some (.int (nI (t)))] [] S 0 0 := by
    intro f2
    induction f2 with
    | zero => intro t  q1 q2; omega
    | succ f2 ih2 =>
      intro t  ht2 hf2 
      refine g_iload G dX9_documentTold_11 rfl ?_
      first | refine g_aload_n G dX9_documentTold_13 rfl ?_ | refine g_aload_nN G dX9_documentTold_13 rfl ?_ | refine g_aload_nQ G dX9_documentTold_13 rfl ?_
      refine g_getR G fl_X9_33 (r.kd) (by first | decide | omega) rfl (r.RY 13 (by decide)) dX9_documentTold_14 ?_
      refine g_iload_n G dX9_documentTold_17 rfl ?_
      refine g_aald G (r.RA 13 (by decide)) (by first | decide | omega) (by rw [r.RL 13 (by decide)]; omega) (by omega) (r.RR 13 (by decide) (by omega)) dX9_documentTold_18 ?_
      refine g_alen G (r.TK 13 (by decide) (by omega)) (by first | decide | omega) (r.TL 13 (by decide) (by omega)) dX9_documentTold_19 ?_
      refine g_icmp_ge (tgt := 79) G dX9_documentTold_20 (by decide) (fun c_20 => ?_) (fun c_20 => ?_)
      · have et : t = (mN M (100 + d)) := by have := (nI_leI (by omega) (by omega)).mp c_20; omega
        subst et
        refine g_bipush (v := nI 8) G dX9_documentTold_79 (by decide) ?_
        refine g_new_int (κ := 17 + 32 * 90) G ac_int (by first | decide | omega) (rfl) (by omega) (by omega) (by omega) dX9_documentTold_81 (fun q_81 hq_81 => ?_)
        have hlen : gL (sM S (17 + 32 * 90) q_81 8) q_81 = 8 := va_up_self _ _ _
        have hk9 : ∀ κ, gRk κ → κ ≠ 17 + 32 * 90 := fun κ z e => gRk_9 (e ▸ z)
        refine g_dup G dX9_documentTold_83 rfl ?_
        refine g_iconst (v := nI 0) G dX9_documentTold_84 (by decide) ?_
        first | refine g_aload_n G dX9_documentTold_85 rfl ?_ | refine g_aload_nN G dX9_documentTold_85 rfl ?_ | refine g_aload_nQ G dX9_documentTold_85 rfl ?_
        refine g_getR G fl_X9_29 ((gRest_mono r (gFr_M (17 + 32 * 90) 8 hq_81) hk9).kd) (by first | decide | omega) rfl ((gRest_mono r (gFr_M (17 + 32 * 90) 8 hq_81) hk9).Y 12 rfl) dX9_documentTold_86 ?_
        refine g_iload_n G dX9_documentTold_89 rfl ?_
        refine g_iald G ((gRest_mono r (gFr_M (17 + 32 * 90) 8 hq_81) hk9).A 12 rfl) (by first | decide | omega) ((gRest_mono r (gFr_M (17 + 32 * 90) 8 hq_81) hk9).lt 12 23 rfl (by omega)) (by omega) ((gRest_mono r (gFr_M (17 + 32 * 90) 8 hq_81) hk9).X 12 23 rfl rfl (by omega)) dX9_documentTold_90 ?_
        refine g_iast G (va_up_self _ _ _) (by first | decide | omega) (show 0 < gL (sM S (17 + 32 * 90) q_81 8) q_81 by rw [hlen]; decide) (by omega) (rfl) dX9_documentTold_91 ?_
        refine g_dup G dX9_documentTold_92 rfl ?_
        refine g_iconst (v := nI 1) G dX9_documentTold_93 (by decide) ?_
        first | refine g_aload_n G dX9_documentTold_94 rfl ?_ | refine g_aload_nN G dX9_documentTold_94 rfl ?_ | refine g_aload_nQ G dX9_documentTold_94 rfl ?_
        refine g_getR G fl_X9_33 ((gRest_mono r ((gFr_M (17 + 32 * 90) 8 hq_81).X1 _ _ _ (fun _ z => z)) hk9).kd) (by first | decide | omega) rfl ((gRest_mono r ((gFr_M (17 + 32 * 90) 8 hq_81).X1 _ _ _ (fun _ z => z)) hk9).RY 13 (by decide)) dX9_documentTold_95 ?_
        refine g_iload_n G dX9_documentTold_98 rfl ?_
        refine g_aald G ((gRest_mono r ((gFr_M (17 + 32 * 90) 8 hq_81).X1 _ _ _ (fun _ z => z)) hk9).RA 13 (by decide)) (by first | decide | omega) (by rw [(gRest_mono r ((gFr_M (17 + 32 * 90) 8 hq_81).X1 _ _ _ (fun _ z => z)) hk9).RL 13 (by decide)]; omega) (by omega) ((gRest_mono r ((gFr_M (17 + 32 * 90) 8 hq_81).X1 _ _ _ (fun _ z => z)) hk9).RR 13 (by decide) (by omega)) dX9_documentTold_99 ?_
        refine g_alen G ((gRest_mono r ((gFr_M (17 + 32 * 90) 8 hq_81).X1 _ _ _ (fun _ z => z)) hk9).TK 13 (by decide) (by omega)) (by first | decide | omega) ((gRest_mono r ((gFr_M (17 + 32 * 90) 8 hq_81).X1 _ _ _ (fun _ z => z)) hk9).TL 13 (by decide) (by omega)) dX9_documentTold_100 ?_
        refine g_iast G (va_up_self _ _ _) (by first | decide | omega) (show 1 < gL (sM S (17 + 32 * 90) q_81 8) q_81 by rw [hlen]; decide) (by omega) (rfl) dX9_documentTold_101 ?_
        refine g_dup G dX9_documentTold_102 rfl ?_
        refine g_iconst (v := nI 2) G dX9_documentTold_103 (by decide) ?_
        refine g_iload_n G dX9_documentTold_104 rfl ?_
        refine g_iast G (va_up_self _ _ _) (by first | decide | omega) (show 2 < gL (sM S (17 + 32 * 90) q_81 8) q_81 by rw [hlen]; decide) (by omega) (rfl) dX9_documentTold_105 ?_
        refine g_dup G dX9_documentTold_106 rfl ?_
        refine g_iconst (v := nI 3) G dX9_documentTold_107 (by decide) ?_
        refine g_iload G dX9_documentTold_108 rfl ?_
        refine g_iast G (va_up_self _ _ _) (by first | decide | omega) (show 3 < gL (sM S (17 + 32 * 90) q_81 8) q_81 by rw [hlen]; decide) (by omega) (rfl) dX9_documentTold_110 ?_
        refine g_dup G dX9_documentTold_111 rfl ?_
        refine g_iconst (v := nI 4) G dX9_documentTold_112 (by decide) ?_
        refine g_iload G dX9_documentTold_113 rfl ?_
        refine g_iast G (va_up_self _ _ _) (by first | decide | omega) (show 4 < gL (sM S (17 + 32 * 90) q_81 8) q_81 by rw [hlen]; decide) (by omega) (rfl) dX9_documentTold_115 ?_
        refine g_dup G dX9_documentTold_116 rfl ?_
        refine g_iconst (v := nI 5) G dX9_documentTold_117 (by decide) ?_
        first | refine g_aload_n G dX9_documentTold_118 rfl ?_ | refine g_aload_nN G dX9_documentTold_118 rfl ?_ | refine g_aload_nQ G dX9_documentTold_118 rfl ?_
        refine g_getR G fl_X9_75 ((gRest_mono r ((((((gFr_M (17 + 32 * 90) 8 hq_81).X1 _ _ _ (fun _ z => z)).X1 _ _ _ (fun _ z => z)).X1 _ _ _ (fun _ z => z)).X1 _ _ _ (fun _ z => z)).X1 _ _ _ (fun _ z => z)) hk9).kd) (by first | decide | omega) rfl ((gRest_mono r ((((((gFr_M (17 + 32 * 90) 8 hq_81).X1 _ _ _ (fun _ z => z)).X1 _ _ _ (fun _ z => z)).X1 _ _ _ (fun _ z => z)).X1 _ _ _ (fun _ z => z)).X1 _ _ _ (fun _ z => z)) hk9).st) dX9_documentTold_119 ?_
        refine g_getRN G fl_X9_158 ((gStt_mono q ((((((gFr_M (17 + 32 * 90) 8 hq_81).X1 _ _ _ (fun _ z => z)).X1 _ _ _ (fun _ z => z)).X1 _ _ _ (fun _ z => z)).X1 _ _ _ (fun _ z => z)).X1 _ _ _ (fun _ z => z)) (by omega) (fun _ _ _ => by omega)).kd) (by first | decide | omega) rfl ((gStt_mono q ((((((gFr_M (17 + 32 * 90) 8 hq_81).X1 _ _ _ (fun _ z => z)).X1 _ _ _ (fun _ z => z)).X1 _ _ _ (fun _ z => z)).X1 _ _ _ (fun _ z => z)).X1 _ _ _ (fun _ z => z)) (by omega) (fun _ _ _ => by omega)).Y 3 rfl) dX9_documentTold_122 ?_
        refine g_iload_n G dX9_documentTold_125 rfl ?_
        refine g_iald G ((gStt_mono q ((((((gFr_M (17 + 32 * 90) 8 hq_81).X1 _ _ _ (fun _ z => z)).X1 _ _ _ (fun _ z => z)).X1 _ _ _ (fun _ z => z)).X1 _ _ _ (fun _ z => z)).X1 _ _ _ (fun _ z => z)) (by omega) (fun _ _ _ => by omega)).A 3 rfl) (by first | decide | omega) ((gStt_mono q ((((((gFr_M (17 + 32 * 90) 8 hq_81).X1 _ _ _ (fun _ z => z)).X1 _ _ _ (fun _ z => z)).X1 _ _ _ (fun _ z => z)).X1 _ _ _ (fun _ z => z)).X1 _ _ _ (fun _ z => z)) (by omega) (fun _ _ _ => by omega)).lt 3 23 rfl (by omega)) (by omega) ((gStt_mono q ((((((gFr_M (17 + 32 * 90) 8 hq_81).X1 _ _ _ (fun _ z => z)).X1 _ _ _ (fun _ z => z)).X1 _ _ _ (fun _ z => z)).X1 _ _ _ (fun _ z => z)).X1 _ _ _ (fun _ z => z)) (by omega) (fun _ _ _ => by omega)).X 3 23 rfl (by omega)) dX9_documentTold_126 ?_
        refine g_iast G (va_up_self _ _ _) (by first | decide | omega) (show 5 < gL (sM S (17 + 32 * 90) q_81 8) q_81 by rw [hlen]; decide) (by omega) (rfl) dX9_documentTold_127 ?_
        refine g_dup G dX9_documentTold_128 rfl ?_
        refine g_bipush (v := nI 6) G dX9_documentTold_129 (by decide) ?_
        first | refine g_aload_n G dX9_documentTold_131 rfl ?_ | refine g_aload_nN G dX9_documentTold_131 rfl ?_ | refine g_aload_nQ G dX9_documentTold_131 rfl ?_
        refine g_getR G fl_X9_75 ((gRest_mono r (((((((gFr_M (17 + 32 * 90) 8 hq_81).X1 _ _ _ (fun _ z => z)).X1 _ _ _ (fun _ z => z)).X1 _ _ _ (fun _ z => z)).X1 _ _ _ (fun _ z => z)).X1 _ _ _ (fun _ z => z)).X1 _ _ _ (fun _ z => z)) hk9).kd) (by first | decide | omega) rfl ((gRest_mono r (((((((gFr_M (17 + 32 * 90) 8 hq_81).X1 _ _ _ (fun _ z => z)).X1 _ _ _ (fun _ z => z)).X1 _ _ _ (fun _ z => z)).X1 _ _ _ (fun _ z => z)).X1 _ _ _ (fun _ z => z)).X1 _ _ _ (fun _ z => z)) hk9).st) dX9_documentTold_132 ?_
        refine g_getRN G fl_X9_161 ((gStt_mono q (((((((gFr_M (17 + 32 * 90) 8 hq_81).X1 _ _ _ (fun _ z => z)).X1 _ _ _ (fun _ z => z)).X1 _ _ _ (fun _ z => z)).X1 _ _ _ (fun _ z => z)).X1 _ _ _ (fun _ z => z)).X1 _ _ _ (fun _ z => z)) (by omega) (fun _ _ _ => by omega)).kd) (by first | decide | omega) rfl ((gStt_mono q (((((((gFr_M (17 + 32 * 90) 8 hq_81).X1 _ _ _ (fun _ z => z)).X1 _ _ _ (fun _ z => z)).X1 _ _ _ (fun _ z => z)).X1 _ _ _ (fun _ z => z)).X1 _ _ _ (fun _ z => z)).X1 _ _ _ (fun _ z => z)) (by omega) (fun _ _ _ => by omega)).Y 4 rfl) dX9_documentTold_135 ?_
        refine g_iload_n G dX9_documentTold_138 rfl ?_
        refine g_iald G ((gStt_mono q (((((((gFr_M (17 + 32 * 90) 8 hq_81).X1 _ _ _ (fun _ z => z)).X1 _ _ _ (fun _ z => z)).X1 _ _ _ (fun _ z => z)).X1 _ _ _ (fun _ z => z)).X1 _ _ _ (fun _ z => z)).X1 _ _ _ (fun _ z => z)) (by omega) (fun _ _ _ => by omega)).A 4 rfl) (by first | decide | omega) ((gStt_mono q (((((((gFr_M (17 + 32 * 90) 8 hq_81).X1 _ _ _ (fun _ z => z)).X1 _ _ _ (fun _ z => z)).X1 _ _ _ (fun _ z => z)).X1 _ _ _ (fun _ z => z)).X1 _ _ _ (fun _ z => z)).X1 _ _ _ (fun _ z => z)) (by omega) (fun _ _ _ => by omega)).lt 4 23 rfl (by omega)) (by omega) ((gStt_mono q (((((((gFr_M (17 + 32 * 90) 8 hq_81).X1 _ _ _ (fun _ z => z)).X1 _ _ _ (fun _ z => z)).X1 _ _ _ (fun _ z => z)).X1 _ _ _ (fun _ z => z)).X1 _ _ _ (fun _ z => z)).X1 _ _ _ (fun _ z => z)) (by omega) (fun _ _ _ => by omega)).X 4 23 rfl (by omega)) dX9_documentTold_139 ?_
        refine g_iast G (va_up_self _ _ _) (by first | decide | omega) (show 6 < gL (sM S (17 + 32 * 90) q_81 8) q_81 by rw [hlen]; decide) (by omega) (rfl) dX9_documentTold_140 ?_
        refine g_dup G dX9_documentTold_141 rfl ?_
        refine g_bipush (v := nI 7) G dX9_documentTold_142 (by decide) ?_
        first | refine g_aload_n G dX9_documentTold_144 rfl ?_ | refine g_aload_nN G dX9_documentTold_144 rfl ?_ | refine g_aload_nQ G dX9_documentTold_144 rfl ?_
        refine g_getR G fl_X9_75 ((gRest_mono r ((((((((gFr_M (17 + 32 * 90) 8 hq_81).X1 _ _ _ (fun _ z => z)).X1 _ _ _ (fun _ z => z)).X1 _ _ _ (fun _ z => z)).X1 _ _ _ (fun _ z => z)).X1 _ _ _ (fun _ z => z)).X1 _ _ _ (fun _ z => z)).X1 _ _ _ (fun _ z => z)) hk9).kd) (by first | decide | omega) rfl ((gRest_mono r ((((((((gFr_M (17 + 32 * 90) 8 hq_81).X1 _ _ _ (fun _ z => z)).X1 _ _ _ (fun _ z => z)).X1 _ _ _ (fun _ z => z)).X1 _ _ _ (fun _ z => z)).X1 _ _ _ (fun _ z => z)).X1 _ _ _ (fun _ z => z)).X1 _ _ _ (fun _ z => z)) hk9).st) dX9_documentTold_145 ?_
        refine g_getRN G fl_X9_167 ((gStt_mono q ((((((((gFr_M (17 + 32 * 90) 8 hq_81).X1 _ _ _ (fun _ z => z)).X1 _ _ _ (fun _ z => z)).X1 _ _ _ (fun _ z => z)).X1 _ _ _ (fun _ z => z)).X1 _ _ _ (fun _ z => z)).X1 _ _ _ (fun _ z => z)).X1 _ _ _ (fun _ z => z)) (by omega) (fun _ _ _ => by omega)).kd) (by first | decide | omega) rfl ((gStt_mono q ((((((((gFr_M (17 + 32 * 90) 8 hq_81).X1 _ _ _ (fun _ z => z)).X1 _ _ _ (fun _ z => z)).X1 _ _ _ (fun _ z => z)).X1 _ _ _ (fun _ z => z)).X1 _ _ _ (fun _ z => z)).X1 _ _ _ (fun _ z => z)).X1 _ _ _ (fun _ z => z)) (by omega) (fun _ _ _ => by omega)).Y 5 rfl) dX9_documentTold_148 ?_
        refine g_iload_n G dX9_documentTold_151 rfl ?_
        refine g_iald G ((gStt_mono q ((((((((gFr_M (17 + 32 * 90) 8 hq_81).X1 _ _ _ (fun _ z => z)).X1 _ _ _ (fun _ z => z)).X1 _ _ _ (fun _ z => z)).X1 _ _ _ (fun _ z => z)).X1 _ _ _ (fun _ z => z)).X1 _ _ _ (fun _ z => z)).X1 _ _ _ (fun _ z => z)) (by omega) (fun _ _ _ => by omega)).A 5 rfl) (by first | decide | omega) ((gStt_mono q ((((((((gFr_M (17 + 32 * 90) 8 hq_81).X1 _ _ _ (fun _ z => z)).X1 _ _ _ (fun _ z => z)).X1 _ _ _ (fun _ z => z)).X1 _ _ _ (fun _ z => z)).X1 _ _ _ (fun _ z => z)).X1 _ _ _ (fun _ z => z)).X1 _ _ _ (fun _ z => z)) (by omega) (fun _ _ _ => by omega)).lt 5 23 rfl (by omega)) (by omega) ((gStt_mono q ((((((((gFr_M (17 + 32 * 90) 8 hq_81).X1 _ _ _ (fun _ z => z)).X1 _ _ _ (fun _ z => z)).X1 _ _ _ (fun _ z => z)).X1 _ _ _ (fun _ z => z)).X1 _ _ _ (fun _ z => z)).X1 _ _ _ (fun _ z => z)).X1 _ _ _ (fun _ z => z)) (by omega) (fun _ _ _ => by omega)).X 5 23 rfl (by omega)) dX9_documentTold_152 ?_
        refine g_iast G (va_up_self _ _ _) (by first | decide | omega) (show 7 < gL (sM S (17 + 32 * 90) q_81 8) q_81 by rw [hlen]; decide) (by omega) (rfl) dX9_documentTold_153 ?_
        first | refine g_astore G dX9_documentTold_154 (gSt_6 (by first | rfl | exact g_c1_rf)) ?_ | refine g_astoreN G dX9_documentTold_154 (gSt_6 (by first | rfl | exact g_c1_rf)) ?_ | refine g_astoreQ G dX9_documentTold_154 (gSt_6 (by first | rfl | exact g_c1_rf)) ?_
        first | refine g_aload G dX9_documentTold_156 rfl ?_ | refine g_aloadN G dX9_documentTold_156 rfl ?_ | refine g_aloadQ G dX9_documentTold_156 rfl ?_
        refine g_iload_n G dX9_documentTold_158 rfl ?_
        refine g_iald G (va_up_self _ _ _) (by first | decide | omega) (show w < gL (sM S (17 + 32 * 90) q_81 8) q_81 by rw [hlen]; omega) (by omega) ((by
            obtain rfl | rfl | rfl | rfl | rfl | rfl | rfl | rfl := (show w = 0 ∨ w = 1 ∨ w = 2 ∨ w = 3 ∨ w = 4 ∨ w = 5 ∨ w = 6 ∨ w = 7 by omega)
            · exact sX_q (by decide) (sX_q (by decide) (sX_q (by decide) (sX_q (by decide) (sX_q (by decide) (sX_q (by decide) (sX_q (by decide) (sX_s)))))))
            · exact sX_q (by decide) (sX_q (by decide) (sX_q (by decide) (sX_q (by decide) (sX_q (by decide) (sX_q (by decide) (sX_s))))))
            · exact sX_q (by decide) (sX_q (by decide) (sX_q (by decide) (sX_q (by decide) (sX_q (by decide) (sX_s)))))
            · exact sX_q (by decide) (sX_q (by decide) (sX_q (by decide) (sX_q (by decide) (sX_s))))
            · exact sX_q (by decide) (sX_q (by decide) (sX_q (by decide) (sX_s)))
            · exact sX_q (by decide) (sX_q (by decide) (sX_s))
            · exact sX_q (by decide) (sX_s)
            · exact sX_s : gX _ (17 + 32 * 90) q_81 w = gTellDoc M d w)) dX9_documentTold_159 ?_
        exact g_iret G F (⟨rfl, ((((((((gFr_M (17 + 32 * 90) 8 hq_81).X1 _ _ _ (fun _ z => z)).X1 _ _ _ (fun _ z => z)).X1 _ _ _ (fun _ z => z)).X1 _ _ _ (fun _ z => z)).X1 _ _ _ (fun _ z => z)).X1 _ _ _ (fun _ z => z)).X1 _ _ _ (fun _ z => z)).X1 _ _ _ (fun _ z => z)⟩) (by omega) (by omega) dX9_documentTold_160
      · have hlt2 : t < (mN M (100 + d)) := by have z : ¬ (mN M (100 + d)) ≤ t := fun z => c_20 ((nI_leI (by omega) (by omega)).mpr z); omega
        refine g_iload_n G dX9_documentTold_23 rfl ?_
        first | refine g_aload_n G dX9_documentTold_24 rfl ?_ | refine g_aload_nN G dX9_documentTold_24 rfl ?_ | refine g_aload_nQ G dX9_documentTold_24 rfl ?_
        refine g_getR G fl_X9_37 (r.kd) (by first | decide | omega) rfl (r.RY 14 (by decide)) dX9_documentTold_25 ?_
        refine g_iload_n G dX9_documentTold_28 rfl ?_
        refine g_aald G (r.RA 14 (by decide)) (by first | decide | omega) (by rw [r.RL 14 (by decide)]; omega) (by omega) (r.RR 14 (by decide) (by omega)) dX9_documentTold_29 ?_
        refine g_iload G dX9_documentTold_30 rfl ?_
        refine g_iald G (r.TK 14 (by decide) (by omega)) (by first | decide | omega) (r.tlt 14 (by decide) (by omega) (by omega)) (by omega) (r.TX 14 (by decide) (by omega) (by omega)) dX9_documentTold_32 ?_
        refine g_if_le (tgt := 40) G dX9_documentTold_33 (by decide) (fun c_33 => ?_) (fun c_33 => ?_)
        · have e9 := gct_no (p := (fun k => decide (0 < mT M 14 d k))) (n := t) (decide_eq_false (Int32.not_lt.mpr c_33))
          refine g_iconst (v := nI 0) G dX9_documentTold_40 (by decide) ?_
          refine g_iadd G dX9_documentTold_41 (by first | exact nI_add _ _ | rfl) ?_
          refine g_istore_n G dX9_documentTold_42 (gSt_3 (by first | rfl | exact g_c1_rf)) ?_
          refine g_iload G dX9_documentTold_43 rfl ?_
          first | refine g_aload_n G dX9_documentTold_45 rfl ?_ | refine g_aload_nN G dX9_documentTold_45 rfl ?_ | refine g_aload_nQ G dX9_documentTold_45 rfl ?_
          refine g_getR G fl_X9_37 (r.kd) (by first | decide | omega) rfl (r.RY 14 (by decide)) dX9_documentTold_46 ?_
          refine g_iload_n G dX9_documentTold_49 rfl ?_
          refine g_aald G (r.RA 14 (by decide)) (by first | decide | omega) (by rw [r.RL 14 (by decide)]; omega) (by omega) (r.RR 14 (by decide) (by omega)) dX9_documentTold_50 ?_
          refine g_iload G dX9_documentTold_51 rfl ?_
          refine g_iald G (r.TK 14 (by decide) (by omega)) (by first | decide | omega) (r.tlt 14 (by decide) (by omega) (by omega)) (by omega) (r.TX 14 (by decide) (by omega) (by omega)) dX9_documentTold_53 ?_
          refine g_mmax G ml_X9_129 (by decide) (by omega) (by omega) (Nat.le_of_ble_eq_true rfl) (rfl) dX9_documentTold_54 ?_
          refine g_istore G dX9_documentTold_57 (gSt_4 (by first | rfl | exact g_c1_rf)) ?_
          refine g_iload G dX9_documentTold_59 rfl ?_
          first | refine g_aload_n G dX9_documentTold_61 rfl ?_ | refine g_aload_nN G dX9_documentTold_61 rfl ?_ | refine g_aload_nQ G dX9_documentTold_61 rfl ?_
          refine g_getR G fl_X9_40 (r.kd) (by first | decide | omega) rfl (r.RY 15 (by decide)) dX9_documentTold_62 ?_
          refine g_iload_n G dX9_documentTold_65 rfl ?_
          refine g_aald G (r.RA 15 (by decide)) (by first | decide | omega) (by rw [r.RL 15 (by decide)]; omega) (by omega) (r.RR 15 (by decide) (by omega)) dX9_documentTold_66 ?_
          refine g_iload G dX9_documentTold_67 rfl ?_
          refine g_iald G (r.TK 15 (by decide) (by omega)) (by first | decide | omega) (r.tlt 15 (by decide) (by omega) (by omega)) (by omega) (r.TX 15 (by decide) (by omega) (by omega)) dX9_documentTold_69 ?_
          refine g_iadd G dX9_documentTold_70 (by first | exact nI_add _ _ | rfl) ?_
          refine g_istore G dX9_documentTold_71 (gSt_5 (by first | rfl | exact g_c1_rf)) ?_
          refine g_iinc (v := _) G dX9_documentTold_73 rfl (by first | exact nI_1 _ | rfl) (gSt_6 (by first | rfl | exact g_c1_rf)) ?_
          refine g_goto (tgt := 11) G dX9_documentTold_76 (by decide) ?_
          have h9 := ih2 (t + 1) (by omega) (by omega)
          rw [e9] at h9
          exact h9
        · have e9 := gct_yes (p := (fun k => decide (0 < mT M 14 d k))) (n := t) (decide_eq_true (Int32.not_le.mp c_33))
          refine g_iconst (v := nI 1) G dX9_documentTold_36 (by decide) ?_
          refine g_goto (tgt := 41) G dX9_documentTold_37 (by decide) ?_
          refine g_iadd G dX9_documentTold_41 (by first | exact nI_add _ _ | rfl) ?_
          refine g_istore_n G dX9_documentTold_42 (gSt_3 (by first | rfl | exact g_c1_rf)) ?_
          refine g_iload G dX9_documentTold_43 rfl ?_
          first | refine g_aload_n G dX9_documentTold_45 rfl ?_ | refine g_aload_nN G dX9_documentTold_45 rfl ?_ | refine g_aload_nQ G dX9_documentTold_45 rfl ?_
          refine g_getR G fl_X9_37 (r.kd) (by first | decide | omega) rfl (r.RY 14 (by decide)) dX9_documentTold_46 ?_
          refine g_iload_n G dX9_documentTold_49 rfl ?_
          refine g_aald G (r.RA 14 (by decide)) (by first | decide | omega) (by rw [r.RL 14 (by decide)]; omega) (by omega) (r.RR 14 (by decide) (by omega)) dX9_documentTold_50 ?_
          refine g_iload G dX9_documentTold_51 rfl ?_
          refine g_iald G (r.TK 14 (by decide) (by omega)) (by first | decide | omega) (r.tlt 14 (by decide) (by omega) (by omega)) (by omega) (r.TX 14 (by decide) (by omega) (by omega)) dX9_documentTold_53 ?_
          refine g_mmax G ml_X9_129 (by decide) (by omega) (by omega) (Nat.le_of_ble_eq_true rfl) (rfl) dX9_documentTold_54 ?_
          refine g_istore G dX9_documentTold_57 (gSt_4 (by first | rfl | exact g_c1_rf)) ?_
          refine g_iload G dX9_documentTold_59 rfl ?_
          first | refine g_aload_n G dX9_documentTold_61 rfl ?_ | refine g_aload_nN G dX9_documentTold_61 rfl ?_ | refine g_aload_nQ G dX9_documentTold_61 rfl ?_
          refine g_getR G fl_X9_40 (r.kd) (by first | decide | omega) rfl (r.RY 15 (by decide)) dX9_documentTold_62 ?_
          refine g_iload_n G dX9_documentTold_65 rfl ?_
          refine g_aald G (r.RA 15 (by decide)) (by first | decide | omega) (by rw [r.RL 15 (by decide)]; omega) (by omega) (r.RR 15 (by decide) (by omega)) dX9_documentTold_66 ?_
          refine g_iload G dX9_documentTold_67 rfl ?_
          refine g_iald G (r.TK 15 (by decide) (by omega)) (by first | decide | omega) (r.tlt 15 (by decide) (by omega) (by omega)) (by omega) (r.TX 15 (by decide) (by omega) (by omega)) dX9_documentTold_69 ?_
          refine g_iadd G dX9_documentTold_70 (by first | exact nI_add _ _ | rfl) ?_
          refine g_istore G dX9_documentTold_71 (gSt_5 (by first | rfl | exact g_c1_rf)) ?_
          refine g_iinc (v := _) G dX9_documentTold_73 rfl (by first | exact nI_1 _ | rfl) (gSt_6 (by first | rfl | exact g_c1_rf)) ?_
          refine g_goto (tgt := 11) G dX9_documentTold_76 (by decide) ?_
          have h9 := ih2 (t + 1) (by omega) (by omega)
          rw [e9] at h9
          exact h9
  exact loop11 ((mN M (100 + d)) + 1) 0 (by omega) (by omega)

set_option maxHeartbeats 4000000 in
set_option maxRecDepth 100000 in
theorem c_X9_caseTold (d0 : Nat × Nat) (S : gS) (y : Nat) (b : Nat → Nat → Nat) (M : gM) (r : gRest S y b M) (q : gStt S (b 0 27) 0 b y M) (i : gInv M) (c w : Nat) (hc : c < mN M 6) (hw : w ≤ 4) : gCt d0 yX9_caseTold cX9_caseTold 8 (some .int) 3 1 5 [.ref y, .int (nI c), .int (nI w)] S (gTmp S (gTellCase M c w)) gNo := by
  refine gCt_of (lo := [some (.ref y), some (.int (nI c)), some (.int (nI w)), none, none, none, none, none]) (by decide +kernel) (Nat.le_of_ble_eq_true rfl) (rfl) ?_
  intro Γ hd G F hini
  obtain ⟨i6, i8, i11, i17, i23, i2, i5⟩ := i.b
  refine g_iconst (v := nI 0) G dX9_caseTold_0 (by decide) ?_
  refine g_istore_n G dX9_caseTold_1 (gSt_3 (by first | rfl | exact g_c1_rf)) ?_
  refine g_iconst (v := nI 0) G dX9_caseTold_2 (by decide) ?_
  refine g_istore G dX9_caseTold_3 (gSt_4 (by first | rfl | exact g_c1_rf)) ?_
  refine g_iconst (v := nI 0) G dX9_caseTold_5 (by decide) ?_
  refine g_istore G dX9_caseTold_6 (gSt_5 (by first | rfl | exact g_c1_rf)) ?_
  refine g_iconst (v := nI 0) G dX9_caseTold_8 (by decide) ?_
  refine g_istore G dX9_caseTold_9 (gSt_6 (by first | rfl | exact g_c1_rf)) ?_
  refine g_iconst (v := nI 0) G dX9_caseTold_11 (by decide) ?_
  refine g_istore G dX9_caseTold_12 (gSt_7 (by first | rfl | exact g_c1_rf)) ?_
  have loop14 : ∀ f2 t : Nat, t ≤ (mN M 11) → (mN M 11) + 1 ≤ t + f2 → gW Γ 14 [some (.ref y), some (.int (nI c)), some (.int (nI w)), some (.int (nI (gct (fun k => decide (mA M 12 k = nI c)) (t)))), some (.int (nI 0)), some (.int (nI 0)), some (.int (nI 0)), some (.int (nI (t)))] [] S 0 0 := by
    intro f2
    induction f2 with
    | zero => intro t  q1 q2; omega
    | succ f2 ih2 =>
      intro t  ht2 hf2 
      refine g_iload G dX9_caseTold_14 rfl ?_
      first | refine g_aload_n G dX9_caseTold_16 rfl ?_ | refine g_aload_nN G dX9_caseTold_16 rfl ?_ | refine g_aload_nQ G dX9_caseTold_16 rfl ?_
      refine g_getI G fl_X9_104 (r.kd) (by first | decide | omega) rfl (r.n 11 rfl) dX9_caseTold_17 ?_
      refine g_icmp_ge (tgt := 48) G dX9_caseTold_20 (by decide) (fun c_20 => ?_) (fun c_20 => ?_)
      · have et : t = (mN M 11) := by have := (nI_leI (by omega) (by omega)).mp c_20; omega
        subst et
        refine g_iconst (v := nI 0) G dX9_caseTold_48 (by decide) ?_
        refine g_istore G dX9_caseTold_49 (gSt_7 (by first | rfl | exact g_c1_rf)) ?_
        have loop51 : ∀ f2 t : Nat, t ≤ (mN M 17) → (mN M 17) + 1 ≤ t + f2 → gW Γ 51 [some (.ref y), some (.int (nI c)), some (.int (nI w)), some (.int (nI (gct (fun k => decide (mA M 12 k = nI c)) (mN M 11)))), some (.int (nI (gct (fun k => decide (mA M 18 k = nI c)) (t)))), some (.int (nI (gct (fun k => decide (mA M 18 k = nI c) && gAdm M k) (t)))), some (.int (nI 0)), some (.int (nI (t)))] [] S 0 0 := by
          intro f2
          induction f2 with
          | zero => intro t  q1 q2; omega
          | succ f2 ih2 =>
            intro t  ht2 hf2 
            refine g_iload G dX9_caseTold_51 rfl ?_
            first | refine g_aload_n G dX9_caseTold_53 rfl ?_ | refine g_aload_nN G dX9_caseTold_53 rfl ?_ | refine g_aload_nQ G dX9_caseTold_53 rfl ?_
            refine g_getI G fl_X9_107 (r.kd) (by first | decide | omega) rfl (r.n 17 rfl) dX9_caseTold_54 ?_
            refine g_icmp_ge (tgt := 117) G dX9_caseTold_57 (by decide) (fun c_57 => ?_) (fun c_57 => ?_)
            · have et : t = (mN M 17) := by have := (nI_leI (by omega) (by omega)).mp c_57; omega
              subst et
              refine g_iconst (v := nI 0) G dX9_caseTold_117 (by decide) ?_
              refine g_istore G dX9_caseTold_118 (gSt_7 (by first | rfl | exact g_c1_rf)) ?_
              have loop120 : ∀ f2 t : Nat, t ≤ (mN M 8) → (mN M 8) + 1 ≤ t + f2 → gW Γ 120 [some (.ref y), some (.int (nI c)), some (.int (nI w)), some (.int (nI (gct (fun k => decide (mA M 12 k = nI c)) (mN M 11)))), some (.int (nI (gct (fun k => decide (mA M 18 k = nI c)) (mN M 17)))), some (.int (nI (gct (fun k => decide (mA M 18 k = nI c) && gAdm M k) (mN M 17)))), some (.int (nI (gct (fun k => decide (mA M 7 c ≤ gReachOf M k c)) (t)))), some (.int (nI (t)))] [] S 0 0 := by
                intro f2
                induction f2 with
                | zero => intro t  q1 q2; omega
                | succ f2 ih2 =>
                  intro t  ht2 hf2 
                  refine g_iload G dX9_caseTold_120 rfl ?_
                  first | refine g_aload_n G dX9_caseTold_122 rfl ?_ | refine g_aload_nN G dX9_caseTold_122 rfl ?_ | refine g_aload_nQ G dX9_caseTold_122 rfl ?_
                  refine g_getI G fl_X9_101 (r.kd) (by first | decide | omega) rfl (r.n 8 rfl) dX9_caseTold_123 ?_
                  refine g_icmp_ge (tgt := 158) G dX9_caseTold_126 (by decide) (fun c_126 => ?_) (fun c_126 => ?_)
                  · have et : t = (mN M 8) := by have := (nI_leI (by omega) (by omega)).mp c_126; omega
                    subst et
                    refine g_iconst (v := nI 5) G dX9_caseTold_158 (by decide) ?_
                    refine g_new_int (κ := 17 + 32 * 90) G ac_int (by first | decide | omega) (rfl) (by omega) (by omega) (by omega) dX9_caseTold_159 (fun q_159 hq_159 => ?_)
                    have hlen : gL (sM S (17 + 32 * 90) q_159 5) q_159 = 5 := va_up_self _ _ _
                    have hk9 : ∀ κ, gRk κ → κ ≠ 17 + 32 * 90 := fun κ z e => gRk_9 (e ▸ z)
                    refine g_dup G dX9_caseTold_161 rfl ?_
                    refine g_iconst (v := nI 0) G dX9_caseTold_162 (by decide) ?_
                    first | refine g_aload_n G dX9_caseTold_163 rfl ?_ | refine g_aload_nN G dX9_caseTold_163 rfl ?_ | refine g_aload_nQ G dX9_caseTold_163 rfl ?_
                    refine g_getR G fl_X9_20 ((gRest_mono r (gFr_M (17 + 32 * 90) 5 hq_159) hk9).kd) (by first | decide | omega) rfl ((gRest_mono r (gFr_M (17 + 32 * 90) 5 hq_159) hk9).Y 7 rfl) dX9_caseTold_164 ?_
                    refine g_iload_n G dX9_caseTold_167 rfl ?_
                    refine g_iald G ((gRest_mono r (gFr_M (17 + 32 * 90) 5 hq_159) hk9).A 7 rfl) (by first | decide | omega) ((gRest_mono r (gFr_M (17 + 32 * 90) 5 hq_159) hk9).lt 7 7 rfl (by omega)) (by omega) ((gRest_mono r (gFr_M (17 + 32 * 90) 5 hq_159) hk9).X 7 7 rfl rfl (by omega)) dX9_caseTold_168 ?_
                    refine g_iast G (va_up_self _ _ _) (by first | decide | omega) (show 0 < gL (sM S (17 + 32 * 90) q_159 5) q_159 by rw [hlen]; decide) (by omega) (rfl) dX9_caseTold_169 ?_
                    refine g_dup G dX9_caseTold_170 rfl ?_
                    refine g_iconst (v := nI 1) G dX9_caseTold_171 (by decide) ?_
                    refine g_iload_n G dX9_caseTold_172 rfl ?_
                    refine g_iast G (va_up_self _ _ _) (by first | decide | omega) (show 1 < gL (sM S (17 + 32 * 90) q_159 5) q_159 by rw [hlen]; decide) (by omega) (rfl) dX9_caseTold_173 ?_
                    refine g_dup G dX9_caseTold_174 rfl ?_
                    refine g_iconst (v := nI 2) G dX9_caseTold_175 (by decide) ?_
                    refine g_iload G dX9_caseTold_176 rfl ?_
                    refine g_iast G (va_up_self _ _ _) (by first | decide | omega) (show 2 < gL (sM S (17 + 32 * 90) q_159 5) q_159 by rw [hlen]; decide) (by omega) (rfl) dX9_caseTold_178 ?_
                    refine g_dup G dX9_caseTold_179 rfl ?_
                    refine g_iconst (v := nI 3) G dX9_caseTold_180 (by decide) ?_
                    refine g_iload G dX9_caseTold_181 rfl ?_
                    refine g_iast G (va_up_self _ _ _) (by first | decide | omega) (show 3 < gL (sM S (17 + 32 * 90) q_159 5) q_159 by rw [hlen]; decide) (by omega) (rfl) dX9_caseTold_183 ?_
                    refine g_dup G dX9_caseTold_184 rfl ?_
                    refine g_iconst (v := nI 4) G dX9_caseTold_185 (by decide) ?_
                    refine g_iload G dX9_caseTold_186 rfl ?_
                    refine g_iast G (va_up_self _ _ _) (by first | decide | omega) (show 4 < gL (sM S (17 + 32 * 90) q_159 5) q_159 by rw [hlen]; decide) (by omega) (rfl) dX9_caseTold_188 ?_
                    first | refine g_astore G dX9_caseTold_189 (gSt_7 (by first | rfl | exact g_c1_rf)) ?_ | refine g_astoreN G dX9_caseTold_189 (gSt_7 (by first | rfl | exact g_c1_rf)) ?_ | refine g_astoreQ G dX9_caseTold_189 (gSt_7 (by first | rfl | exact g_c1_rf)) ?_
                    first | refine g_aload G dX9_caseTold_191 rfl ?_ | refine g_aloadN G dX9_caseTold_191 rfl ?_ | refine g_aloadQ G dX9_caseTold_191 rfl ?_
                    refine g_iload_n G dX9_caseTold_193 rfl ?_
                    refine g_iald G (va_up_self _ _ _) (by first | decide | omega) (show w < gL (sM S (17 + 32 * 90) q_159 5) q_159 by rw [hlen]; omega) (by omega) ((by
                        obtain rfl | rfl | rfl | rfl | rfl := (show w = 0 ∨ w = 1 ∨ w = 2 ∨ w = 3 ∨ w = 4 by omega)
                        · exact sX_q (by decide) (sX_q (by decide) (sX_q (by decide) (sX_q (by decide) (sX_s))))
                        · exact sX_q (by decide) (sX_q (by decide) (sX_q (by decide) (sX_s)))
                        · exact sX_q (by decide) (sX_q (by decide) (sX_s))
                        · exact sX_q (by decide) (sX_s)
                        · exact sX_s : gX _ (17 + 32 * 90) q_159 w = gTellCase M c w)) dX9_caseTold_194 ?_
                    exact g_iret G F (⟨rfl, (((((gFr_M (17 + 32 * 90) 5 hq_159).X1 _ _ _ (fun _ z => z)).X1 _ _ _ (fun _ z => z)).X1 _ _ _ (fun _ z => z)).X1 _ _ _ (fun _ z => z)).X1 _ _ _ (fun _ z => z)⟩) (by omega) (by omega) dX9_caseTold_195
                  · have hlt2 : t < (mN M 8) := by have z : ¬ (mN M 8) ≤ t := fun z => c_126 ((nI_leI (by omega) (by omega)).mpr z); omega
                    refine g_iload G dX9_caseTold_129 rfl ?_
                    first | refine g_aload_n G dX9_caseTold_131 rfl ?_ | refine g_aload_nN G dX9_caseTold_131 rfl ?_ | refine g_aload_nQ G dX9_caseTold_131 rfl ?_
                    refine g_getR G fl_X9_75 (r.kd) (by first | decide | omega) rfl (r.st) dX9_caseTold_132 ?_
                    refine g_iload G dX9_caseTold_135 rfl ?_
                    refine g_iload_n G dX9_caseTold_137 rfl ?_
                    refine g_callVp (ci := 9) G (c_X8_isIn _ _ _ _ _ _ _ r q i _ _ (by omega) (by omega)) mt_X8_isIn mi_X8_isIn ml_X9_179 (q.kd) (by first | decide | omega) rfl (by decide) (by omega) (by omega) rfl (Nat.le_of_ble_eq_true rfl) dX9_caseTold_138 ?_
                    refine g_if_eq (tgt := 148) G dX9_caseTold_141 (by decide) (fun c_141 => ?_) (fun c_141 => ?_)
                    · have e6 := gct_no (p := (fun k => decide (mA M 7 c ≤ gReachOf M k c))) (n := t) (gB_eq0.mp c_141)
                      refine g_iconst (v := nI 0) G dX9_caseTold_148 (by decide) ?_
                      refine g_iadd G dX9_caseTold_149 (by first | exact nI_add _ _ | rfl) ?_
                      refine g_istore G dX9_caseTold_150 (gSt_6 (by first | rfl | exact g_c1_rf)) ?_
                      refine g_iinc (v := _) G dX9_caseTold_152 rfl (by first | exact nI_1 _ | rfl) (gSt_7 (by first | rfl | exact g_c1_rf)) ?_
                      refine g_goto (tgt := 120) G dX9_caseTold_155 (by decide) ?_
                      have h9 := ih2 (t + 1) (by omega) (by omega)
                      rw [e6] at h9
                      exact h9
                    · have e6 := gct_yes (p := (fun k => decide (mA M 7 c ≤ gReachOf M k c))) (n := t) (gB_ne0.mp c_141)
                      refine g_iconst (v := nI 1) G dX9_caseTold_144 (by decide) ?_
                      refine g_goto (tgt := 149) G dX9_caseTold_145 (by decide) ?_
                      refine g_iadd G dX9_caseTold_149 (by first | exact nI_add _ _ | rfl) ?_
                      refine g_istore G dX9_caseTold_150 (gSt_6 (by first | rfl | exact g_c1_rf)) ?_
                      refine g_iinc (v := _) G dX9_caseTold_152 rfl (by first | exact nI_1 _ | rfl) (gSt_7 (by first | rfl | exact g_c1_rf)) ?_
                      refine g_goto (tgt := 120) G dX9_caseTold_155 (by decide) ?_
                      have h9 := ih2 (t + 1) (by omega) (by omega)
                      rw [e6] at h9
                      exact h9
              exact loop120 ((mN M 8) + 1) 0 (by omega) (by omega)
            · have hlt2 : t < (mN M 17) := by have z : ¬ (mN M 17) ≤ t := fun z => c_57 ((nI_leI (by omega) (by omega)).mpr z); omega
              refine g_iload G dX9_caseTold_60 rfl ?_
              first | refine g_aload_n G dX9_caseTold_62 rfl ?_ | refine g_aload_nN G dX9_caseTold_62 rfl ?_ | refine g_aload_nQ G dX9_caseTold_62 rfl ?_
              refine g_getR G fl_X9_46 (r.kd) (by first | decide | omega) rfl (r.Y 18 rfl) dX9_caseTold_63 ?_
              refine g_iload G dX9_caseTold_66 rfl ?_
              refine g_iald G (r.A 18 rfl) (by first | decide | omega) (r.lt 18 19 rfl (by omega)) (by omega) (r.X 18 19 rfl rfl (by omega)) dX9_caseTold_68 ?_
              refine g_iload_n G dX9_caseTold_69 rfl ?_
              refine g_icmp_ne (tgt := 77) G dX9_caseTold_70 (by decide) (fun c_70 => ?_) (fun c_70 => ?_)
              · have e4 := gct_no (p := (fun k => decide (mA M 18 k = nI c))) (n := t) (decide_eq_false c_70)
                refine g_iconst (v := nI 0) G dX9_caseTold_77 (by decide) ?_
                refine g_iadd G dX9_caseTold_78 (by first | exact nI_add _ _ | rfl) ?_
                refine g_istore G dX9_caseTold_79 (gSt_4 (by first | rfl | exact g_c1_rf)) ?_
                refine g_iload G dX9_caseTold_81 rfl ?_
                first | refine g_aload_n G dX9_caseTold_83 rfl ?_ | refine g_aload_nN G dX9_caseTold_83 rfl ?_ | refine g_aload_nQ G dX9_caseTold_83 rfl ?_
                refine g_getR G fl_X9_46 (r.kd) (by first | decide | omega) rfl (r.Y 18 rfl) dX9_caseTold_84 ?_
                refine g_iload G dX9_caseTold_87 rfl ?_
                refine g_iald G (r.A 18 rfl) (by first | decide | omega) (r.lt 18 19 rfl (by omega)) (by omega) (r.X 18 19 rfl rfl (by omega)) dX9_caseTold_89 ?_
                refine g_iload_n G dX9_caseTold_90 rfl ?_
                refine g_icmp_ne (tgt := 107) G dX9_caseTold_91 (by decide) (fun c_91 => ?_) (fun c_91 => ?_)
                · have e5 := gct_no (p := (fun k => decide (mA M 18 k = nI c) && gAdm M k)) (n := t) (by simp only [decide_eq_false c_91, Bool.false_and])
                  refine g_iconst (v := nI 0) G dX9_caseTold_107 (by decide) ?_
                  refine g_iadd G dX9_caseTold_108 (by first | exact nI_add _ _ | rfl) ?_
                  refine g_istore G dX9_caseTold_109 (gSt_5 (by first | rfl | exact g_c1_rf)) ?_
                  refine g_iinc (v := _) G dX9_caseTold_111 rfl (by first | exact nI_1 _ | rfl) (gSt_7 (by first | rfl | exact g_c1_rf)) ?_
                  refine g_goto (tgt := 51) G dX9_caseTold_114 (by decide) ?_
                  have h9 := ih2 (t + 1) (by omega) (by omega)
                  rw [e4, e5] at h9
                  exact h9
                · have e8 : decide (mA M 18 t = nI c) = true := decide_eq_true c_91
                  first | refine g_aload_n G dX9_caseTold_94 rfl ?_ | refine g_aload_nN G dX9_caseTold_94 rfl ?_ | refine g_aload_nQ G dX9_caseTold_94 rfl ?_
                  refine g_iload G dX9_caseTold_95 rfl ?_
                  refine g_callVp (ci := 10) G (c_X9_isGood _ _ _ _ _ r i _ (by omega)) mt_X9_isGood mi_X9_isGood ml_X9_194 (r.kd) (by first | decide | omega) rfl (by decide) (by omega) (by omega) rfl (Nat.le_of_ble_eq_true rfl) dX9_caseTold_97 ?_
                  refine g_if_eq (tgt := 107) G dX9_caseTold_100 (by decide) (fun c_100 => ?_) (fun c_100 => ?_)
                  · have e5 := gct_no (p := (fun k => decide (mA M 18 k = nI c) && gAdm M k)) (n := t) (by simp only [gB_eq0.mp c_100, Bool.and_false])
                    refine g_iconst (v := nI 0) G dX9_caseTold_107 (by decide) ?_
                    refine g_iadd G dX9_caseTold_108 (by first | exact nI_add _ _ | rfl) ?_
                    refine g_istore G dX9_caseTold_109 (gSt_5 (by first | rfl | exact g_c1_rf)) ?_
                    refine g_iinc (v := _) G dX9_caseTold_111 rfl (by first | exact nI_1 _ | rfl) (gSt_7 (by first | rfl | exact g_c1_rf)) ?_
                    refine g_goto (tgt := 51) G dX9_caseTold_114 (by decide) ?_
                    have h9 := ih2 (t + 1) (by omega) (by omega)
                    rw [e4, e5] at h9
                    exact h9
                  · have e5 := gct_yes (p := (fun k => decide (mA M 18 k = nI c) && gAdm M k)) (n := t) (by simp only [gB_ne0.mp c_100, e8, Bool.and_self])
                    refine g_iconst (v := nI 1) G dX9_caseTold_103 (by decide) ?_
                    refine g_goto (tgt := 108) G dX9_caseTold_104 (by decide) ?_
                    refine g_iadd G dX9_caseTold_108 (by first | exact nI_add _ _ | rfl) ?_
                    refine g_istore G dX9_caseTold_109 (gSt_5 (by first | rfl | exact g_c1_rf)) ?_
                    refine g_iinc (v := _) G dX9_caseTold_111 rfl (by first | exact nI_1 _ | rfl) (gSt_7 (by first | rfl | exact g_c1_rf)) ?_
                    refine g_goto (tgt := 51) G dX9_caseTold_114 (by decide) ?_
                    have h9 := ih2 (t + 1) (by omega) (by omega)
                    rw [e4, e5] at h9
                    exact h9
              · have e4 := gct_yes (p := (fun k => decide (mA M 18 k = nI c))) (n := t) (decide_eq_true c_70)
                refine g_iconst (v := nI 1) G dX9_caseTold_73 (by decide) ?_
                refine g_goto (tgt := 78) G dX9_caseTold_74 (by decide) ?_
                refine g_iadd G dX9_caseTold_78 (by first | exact nI_add _ _ | rfl) ?_
                refine g_istore G dX9_caseTold_79 (gSt_4 (by first | rfl | exact g_c1_rf)) ?_
                refine g_iload G dX9_caseTold_81 rfl ?_
                first | refine g_aload_n G dX9_caseTold_83 rfl ?_ | refine g_aload_nN G dX9_caseTold_83 rfl ?_ | refine g_aload_nQ G dX9_caseTold_83 rfl ?_
                refine g_getR G fl_X9_46 (r.kd) (by first | decide | omega) rfl (r.Y 18 rfl) dX9_caseTold_84 ?_
                refine g_iload G dX9_caseTold_87 rfl ?_
                refine g_iald G (r.A 18 rfl) (by first | decide | omega) (r.lt 18 19 rfl (by omega)) (by omega) (r.X 18 19 rfl rfl (by omega)) dX9_caseTold_89 ?_
                refine g_iload_n G dX9_caseTold_90 rfl ?_
                refine g_icmp_ne (tgt := 107) G dX9_caseTold_91 (by decide) (fun c_91 => ?_) (fun c_91 => ?_)
                · have e5 := gct_no (p := (fun k => decide (mA M 18 k = nI c) && gAdm M k)) (n := t) (by simp only [decide_eq_false c_91, Bool.false_and])
                  refine g_iconst (v := nI 0) G dX9_caseTold_107 (by decide) ?_
                  refine g_iadd G dX9_caseTold_108 (by first | exact nI_add _ _ | rfl) ?_
                  refine g_istore G dX9_caseTold_109 (gSt_5 (by first | rfl | exact g_c1_rf)) ?_
                  refine g_iinc (v := _) G dX9_caseTold_111 rfl (by first | exact nI_1 _ | rfl) (gSt_7 (by first | rfl | exact g_c1_rf)) ?_
                  refine g_goto (tgt := 51) G dX9_caseTold_114 (by decide) ?_
                  have h9 := ih2 (t + 1) (by omega) (by omega)
                  rw [e4, e5] at h9
                  exact h9
                · have e8 : decide (mA M 18 t = nI c) = true := decide_eq_true c_91
                  first | refine g_aload_n G dX9_caseTold_94 rfl ?_ | refine g_aload_nN G dX9_caseTold_94 rfl ?_ | refine g_aload_nQ G dX9_caseTold_94 rfl ?_
                  refine g_iload G dX9_caseTold_95 rfl ?_
                  refine g_callVp (ci := 10) G (c_X9_isGood _ _ _ _ _ r i _ (by omega)) mt_X9_isGood mi_X9_isGood ml_X9_194 (r.kd) (by first | decide | omega) rfl (by decide) (by omega) (by omega) rfl (Nat.le_of_ble_eq_true rfl) dX9_caseTold_97 ?_
                  refine g_if_eq (tgt := 107) G dX9_caseTold_100 (by decide) (fun c_100 => ?_) (fun c_100 => ?_)
                  · have e5 := gct_no (p := (fun k => decide (mA M 18 k = nI c) && gAdm M k)) (n := t) (by simp only [gB_eq0.mp c_100, Bool.and_false])
                    refine g_iconst (v := nI 0) G dX9_caseTold_107 (by decide) ?_
                    refine g_iadd G dX9_caseTold_108 (by first | exact nI_add _ _ | rfl) ?_
                    refine g_istore G dX9_caseTold_109 (gSt_5 (by first | rfl | exact g_c1_rf)) ?_
                    refine g_iinc (v := _) G dX9_caseTold_111 rfl (by first | exact nI_1 _ | rfl) (gSt_7 (by first | rfl | exact g_c1_rf)) ?_
                    refine g_goto (tgt := 51) G dX9_caseTold_114 (by decide) ?_
                    have h9 := ih2 (t + 1) (by omega) (by omega)
                    rw [e4, e5] at h9
                    exact h9
                  · have e5 := gct_yes (p := (fun k => decide (mA M 18 k = nI c) && gAdm M k)) (n := t) (by simp only [gB_ne0.mp c_100, e8, Bool.and_self])
                    refine g_iconst (v := nI 1) G dX9_caseTold_103 (by decide) ?_
                    refine g_goto (tgt := 108) G dX9_caseTold_104 (by decide) ?_
                    refine g_iadd G dX9_caseTold_108 (by first | exact nI_add _ _ | rfl) ?_
                    refine g_istore G dX9_caseTold_109 (gSt_5 (by first | rfl | exact g_c1_rf)) ?_
                    refine g_iinc (v := _) G dX9_caseTold_111 rfl (by first | exact nI_1 _ | rfl) (gSt_7 (by first | rfl | exact g_c1_rf)) ?_
                    refine g_goto (tgt := 51) G dX9_caseTold_114 (by decide) ?_
                    have h9 := ih2 (t + 1) (by omega) (by omega)
                    rw [e4, e5] at h9
                    exact h9
        exact loop51 ((mN M 17) + 1) 0 (by omega) (by omega)
      · have hlt2 : t < (mN M 11) := by have z : ¬ (mN M 11) ≤ t := fun z => c_20 ((nI_leI (by omega) (by omega)).mpr z); omega
        refine g_iload_n G dX9_caseTold_23 rfl ?_
        first | refine g_aload_n G dX9_caseTold_24 rfl ?_ | refine g_aload_nN G dX9_caseTold_24 rfl ?_ | refine g_aload_nQ G dX9_caseTold_24 rfl ?_
        refine g_getR G fl_X9_29 (r.kd) (by first | decide | omega) rfl (r.Y 12 rfl) dX9_caseTold_25 ?_
        refine g_iload G dX9_caseTold_28 rfl ?_
        refine g_iald G (r.A 12 rfl) (by first | decide | omega) (r.lt 12 23 rfl (by omega)) (by omega) (r.X 12 23 rfl rfl (by omega)) dX9_caseTold_30 ?_
        refine g_iload_n G dX9_caseTold_31 rfl ?_
        refine g_icmp_ne (tgt := 39) G dX9_caseTold_32 (by decide) (fun c_32 => ?_) (fun c_32 => ?_)
        · have e9 := gct_no (p := (fun k => decide (mA M 12 k = nI c))) (n := t) (decide_eq_false c_32)
          refine g_iconst (v := nI 0) G dX9_caseTold_39 (by decide) ?_
          refine g_iadd G dX9_caseTold_40 (by first | exact nI_add _ _ | rfl) ?_
          refine g_istore_n G dX9_caseTold_41 (gSt_3 (by first | rfl | exact g_c1_rf)) ?_
          refine g_iinc (v := _) G dX9_caseTold_42 rfl (by first | exact nI_1 _ | rfl) (gSt_7 (by first | rfl | exact g_c1_rf)) ?_
          refine g_goto (tgt := 14) G dX9_caseTold_45 (by decide) ?_
          have h9 := ih2 (t + 1) (by omega) (by omega)
          rw [e9] at h9
          exact h9
        · have e9 := gct_yes (p := (fun k => decide (mA M 12 k = nI c))) (n := t) (decide_eq_true c_32)
          refine g_iconst (v := nI 1) G dX9_caseTold_35 (by decide) ?_
          refine g_goto (tgt := 40) G dX9_caseTold_36 (by decide) ?_
          refine g_iadd G dX9_caseTold_40 (by first | exact nI_add _ _ | rfl) ?_
          refine g_istore_n G dX9_caseTold_41 (gSt_3 (by first | rfl | exact g_c1_rf)) ?_
          refine g_iinc (v := _) G dX9_caseTold_42 rfl (by first | exact nI_1 _ | rfl) (gSt_7 (by first | rfl | exact g_c1_rf)) ?_
          refine g_goto (tgt := 14) G dX9_caseTold_45 (by decide) ?_
          have h9 := ih2 (t + 1) (by omega) (by omega)
          rw [e9] at h9
          exact h9
  exact loop14 ((mN M 11) + 1) 0 (by omega) (by omega)

set_option maxHeartbeats 4000000 in
set_option maxRecDepth 100000 in
theorem c_X9_personTold (d0 : Nat × Nat) (S : gS) (y : Nat) (b : Nat → Nat → Nat) (M : gM) (r : gRest S y b M) (q : gStt S (b 0 27) 0 b y M) (i : gInv M) (p w : Nat) (hp : p < mN M 8) (hw : w ≤ 7) : gCt d0 yX9_personTold cX9_personTold 8 (some .int) 3 1 8 [.ref y, .int (nI p), .int (nI w)] S (gTmp S (gTellPers M p w)) gNo := by
  refine gCt_of (lo := [some (.ref y), some (.int (nI p)), some (.int (nI w)), none, none, none, none, none]) (by decide +kernel) (Nat.le_of_ble_eq_true rfl) (rfl) ?_
  intro Γ hd G F hini
  obtain ⟨i6, i8, i11, i17, i23, i2, i5⟩ := i.b
  refine g_iconst (v := nI 0) G dX9_personTold_0 (by decide) ?_
  refine g_istore_n G dX9_personTold_1 (gSt_3 (by first | rfl | exact g_c1_rf)) ?_
  refine g_iconst (v := nI 0) G dX9_personTold_2 (by decide) ?_
  refine g_istore G dX9_personTold_3 (gSt_4 (by first | rfl | exact g_c1_rf)) ?_
  refine g_iconst (v := nI 0) G dX9_personTold_5 (by decide) ?_
  refine g_istore G dX9_personTold_6 (gSt_5 (by first | rfl | exact g_c1_rf)) ?_
  refine g_iconst (v := nI 0) G dX9_personTold_8 (by decide) ?_
  refine g_istore G dX9_personTold_9 (gSt_6 (by first | rfl | exact g_c1_rf)) ?_
  refine g_iconst (v := nI 0) G dX9_personTold_11 (by decide) ?_
  refine g_istore G dX9_personTold_12 (gSt_7 (by first | rfl | exact g_c1_rf)) ?_
  have loop14 : ∀ f2 t : Nat, t ≤ (mN M 6) → (mN M 6) + 1 ≤ t + f2 → gW Γ 14 [some (.ref y), some (.int (nI p)), some (.int (nI w)), some (.int (gor (fun k => decide (mA M 7 k ≤ gReachOf M p k)) (t))), some (.int (nI 0)), some (.int (nI 0)), some (.int (nI 0)), some (.int (nI (t)))] [] S 0 0 := by
    intro f2
    induction f2 with
    | zero => intro t  q1 q2; omega
    | succ f2 ih2 =>
      intro t  ht2 hf2 
      refine g_iload G dX9_personTold_14 rfl ?_
      first | refine g_aload_n G dX9_personTold_16 rfl ?_ | refine g_aload_nN G dX9_personTold_16 rfl ?_ | refine g_aload_nQ G dX9_personTold_16 rfl ?_
      refine g_getI G fl_X9_94 (r.kd) (by first | decide | omega) rfl (r.n 6 rfl) dX9_personTold_17 ?_
      refine g_icmp_ge (tgt := 53) G dX9_personTold_20 (by decide) (fun c_20 => ?_) (fun c_20 => ?_)
      · have et : t = (mN M 6) := by have := (nI_leI (by omega) (by omega)).mp c_20; omega
        subst et
        refine g_iconst (v := nI 0) G dX9_personTold_53 (by decide) ?_
        refine g_istore G dX9_personTold_54 (gSt_7 (by first | rfl | exact g_c1_rf)) ?_
        have loop56 : ∀ f2 t : Nat, t ≤ (mN M 11) → (mN M 11) + 1 ≤ t + f2 → gW Γ 56 [some (.ref y), some (.int (nI p)), some (.int (nI w)), some (.int (gor (fun k => decide (mA M 7 k ≤ gReachOf M p k)) (mN M 6))), some (.int (nI (gct (fun k => decide (mA M 43 k = nI p)) (t)))), some (.int (nI 0)), some (.int (nI 0)), some (.int (nI (t)))] [] S 0 0 := by
          intro f2
          induction f2 with
          | zero => intro t  q1 q2; omega
          | succ f2 ih2 =>
            intro t  ht2 hf2 
            refine g_iload G dX9_personTold_56 rfl ?_
            first | refine g_aload_n G dX9_personTold_58 rfl ?_ | refine g_aload_nN G dX9_personTold_58 rfl ?_ | refine g_aload_nQ G dX9_personTold_58 rfl ?_
            refine g_getI G fl_X9_104 (r.kd) (by first | decide | omega) rfl (r.n 11 rfl) dX9_personTold_59 ?_
            refine g_icmp_ge (tgt := 95) G dX9_personTold_62 (by decide) (fun c_62 => ?_) (fun c_62 => ?_)
            · have et : t = (mN M 11) := by have := (nI_leI (by omega) (by omega)).mp c_62; omega
              subst et
              refine g_iconst (v := nI 0) G dX9_personTold_95 (by decide) ?_
              refine g_istore G dX9_personTold_96 (gSt_7 (by first | rfl | exact g_c1_rf)) ?_
              have loop98 : ∀ f2 t : Nat, t ≤ (mN M 17) → (mN M 17) + 1 ≤ t + f2 → gW Γ 98 [some (.ref y), some (.int (nI p)), some (.int (nI w)), some (.int (gor (fun k => decide (mA M 7 k ≤ gReachOf M p k)) (mN M 6))), some (.int (nI (gct (fun k => decide (mA M 43 k = nI p)) (mN M 11)))), some (.int (nI (gct (fun k => decide (mA M 19 k = nI p)) (t)))), some (.int (nI 0)), some (.int (nI (t)))] [] S 0 0 := by
                intro f2
                induction f2 with
                | zero => intro t  q1 q2; omega
                | succ f2 ih2 =>
                  intro t  ht2 hf2 
                  refine g_iload G dX9_personTold_98 rfl ?_
                  first | refine g_aload_n G dX9_personTold_100 rfl ?_ | refine g_aload_nN G dX9_personTold_100 rfl ?_ | refine g_aload_nQ G dX9_personTold_100 rfl ?_
                  refine g_getI G fl_X9_107 (r.kd) (by first | decide | omega) rfl (r.n 17 rfl) dX9_personTold_101 ?_
                  refine g_icmp_ge (tgt := 134) G dX9_personTold_104 (by decide) (fun c_104 => ?_) (fun c_104 => ?_)
                  · have et : t = (mN M 17) := by have := (nI_leI (by omega) (by omega)).mp c_104; omega
                    subst et
                    refine g_iconst (v := nI 0) G dX9_personTold_134 (by decide) ?_
                    refine g_istore G dX9_personTold_135 (gSt_7 (by first | rfl | exact g_c1_rf)) ?_
                    have loop137 : ∀ f2 t : Nat, t ≤ (mN M 23) → (mN M 23) + 1 ≤ t + f2 → gW Γ 137 [some (.ref y), some (.int (nI p)), some (.int (nI w)), some (.int (gor (fun k => decide (mA M 7 k ≤ gReachOf M p k)) (mN M 6))), some (.int (nI (gct (fun k => decide (mA M 43 k = nI p)) (mN M 11)))), some (.int (nI (gct (fun k => decide (mA M 19 k = nI p)) (mN M 17)))), some (.int (nI (gct (fun k => decide (mA M 25 k = nI p ∧ mA M 46 k = nI 1)) (t)))), some (.int (nI (t)))] [] S 0 0 := by
                      intro f2
                      induction f2 with
                      | zero => intro t  q1 q2; omega
                      | succ f2 ih2 =>
                        intro t  ht2 hf2 
                        refine g_iload G dX9_personTold_137 rfl ?_
                        first | refine g_aload_n G dX9_personTold_139 rfl ?_ | refine g_aload_nN G dX9_personTold_139 rfl ?_ | refine g_aload_nQ G dX9_personTold_139 rfl ?_
                        refine g_getI G fl_X9_182 (r.kd) (by first | decide | omega) rfl (r.n 23 rfl) dX9_personTold_140 ?_
                        refine g_icmp_ge (tgt := 187) G dX9_personTold_143 (by decide) (fun c_143 => ?_) (fun c_143 => ?_)
                        · have et : t = (mN M 23) := by have := (nI_leI (by omega) (by omega)).mp c_143; omega
                          subst et
                          refine g_bipush (v := nI 8) G dX9_personTold_187 (by decide) ?_
                          refine g_new_int (κ := 17 + 32 * 90) G ac_int (by first | decide | omega) (rfl) (by omega) (by omega) (by omega) dX9_personTold_189 (fun q_189 hq_189 => ?_)
                          have hlen : gL (sM S (17 + 32 * 90) q_189 8) q_189 = 8 := va_up_self _ _ _
                          have hk9 : ∀ κ, gRk κ → κ ≠ 17 + 32 * 90 := fun κ z e => gRk_9 (e ▸ z)
                          refine g_dup G dX9_personTold_191 rfl ?_
                          refine g_iconst (v := nI 0) G dX9_personTold_192 (by decide) ?_
                          first | refine g_aload_n G dX9_personTold_193 rfl ?_ | refine g_aload_nN G dX9_personTold_193 rfl ?_ | refine g_aload_nQ G dX9_personTold_193 rfl ?_
                          refine g_getR G fl_X9_23 ((gRest_mono r (gFr_M (17 + 32 * 90) 8 hq_189) hk9).kd) (by first | decide | omega) rfl ((gRest_mono r (gFr_M (17 + 32 * 90) 8 hq_189) hk9).Y 9 rfl) dX9_personTold_194 ?_
                          refine g_iload_n G dX9_personTold_197 rfl ?_
                          refine g_iald G ((gRest_mono r (gFr_M (17 + 32 * 90) 8 hq_189) hk9).A 9 rfl) (by first | decide | omega) ((gRest_mono r (gFr_M (17 + 32 * 90) 8 hq_189) hk9).lt 9 11 rfl (by omega)) (by omega) ((gRest_mono r (gFr_M (17 + 32 * 90) 8 hq_189) hk9).X 9 11 rfl rfl (by omega)) dX9_personTold_198 ?_
                          refine g_iast G (va_up_self _ _ _) (by first | decide | omega) (show 0 < gL (sM S (17 + 32 * 90) q_189 8) q_189 by rw [hlen]; decide) (by omega) (rfl) dX9_personTold_199 ?_
                          refine g_dup G dX9_personTold_200 rfl ?_
                          refine g_iconst (v := nI 1) G dX9_personTold_201 (by decide) ?_
                          first | refine g_aload_n G dX9_personTold_202 rfl ?_ | refine g_aload_nN G dX9_personTold_202 rfl ?_ | refine g_aload_nQ G dX9_personTold_202 rfl ?_
                          refine g_getR G fl_X9_75 ((gRest_mono r ((gFr_M (17 + 32 * 90) 8 hq_189).X1 _ _ _ (fun _ z => z)) hk9).kd) (by first | decide | omega) rfl ((gRest_mono r ((gFr_M (17 + 32 * 90) 8 hq_189).X1 _ _ _ (fun _ z => z)) hk9).st) dX9_personTold_203 ?_
                          refine g_getRN G fl_X9_173 ((gStt_mono q ((gFr_M (17 + 32 * 90) 8 hq_189).X1 _ _ _ (fun _ z => z)) (by omega) (fun _ _ _ => by omega)).kd) (by first | decide | omega) rfl ((gStt_mono q ((gFr_M (17 + 32 * 90) 8 hq_189).X1 _ _ _ (fun _ z => z)) (by omega) (fun _ _ _ => by omega)).Y 1 rfl) dX9_personTold_206 ?_
                          refine g_iload_n G dX9_personTold_209 rfl ?_
                          refine g_iald G ((gStt_mono q ((gFr_M (17 + 32 * 90) 8 hq_189).X1 _ _ _ (fun _ z => z)) (by omega) (fun _ _ _ => by omega)).A 1 rfl) (by first | decide | omega) ((gStt_mono q ((gFr_M (17 + 32 * 90) 8 hq_189).X1 _ _ _ (fun _ z => z)) (by omega) (fun _ _ _ => by omega)).lt 1 11 rfl (by omega)) (by omega) ((gStt_mono q ((gFr_M (17 + 32 * 90) 8 hq_189).X1 _ _ _ (fun _ z => z)) (by omega) (fun _ _ _ => by omega)).X 1 11 rfl (by omega)) dX9_personTold_210 ?_
                          refine g_iast G (va_up_self _ _ _) (by first | decide | omega) (show 1 < gL (sM S (17 + 32 * 90) q_189 8) q_189 by rw [hlen]; decide) (by omega) (rfl) dX9_personTold_211 ?_
                          refine g_dup G dX9_personTold_212 rfl ?_
                          refine g_iconst (v := nI 2) G dX9_personTold_213 (by decide) ?_
                          first | refine g_aload_n G dX9_personTold_214 rfl ?_ | refine g_aload_nN G dX9_personTold_214 rfl ?_ | refine g_aload_nQ G dX9_personTold_214 rfl ?_
                          refine g_getR G fl_X9_26 ((gRest_mono r (((gFr_M (17 + 32 * 90) 8 hq_189).X1 _ _ _ (fun _ z => z)).X1 _ _ _ (fun _ z => z)) hk9).kd) (by first | decide | omega) rfl ((gRest_mono r (((gFr_M (17 + 32 * 90) 8 hq_189).X1 _ _ _ (fun _ z => z)).X1 _ _ _ (fun _ z => z)) hk9).Y 10 rfl) dX9_personTold_215 ?_
                          refine g_iload_n G dX9_personTold_218 rfl ?_
                          refine g_iald G ((gRest_mono r (((gFr_M (17 + 32 * 90) 8 hq_189).X1 _ _ _ (fun _ z => z)).X1 _ _ _ (fun _ z => z)) hk9).A 10 rfl) (by first | decide | omega) ((gRest_mono r (((gFr_M (17 + 32 * 90) 8 hq_189).X1 _ _ _ (fun _ z => z)).X1 _ _ _ (fun _ z => z)) hk9).lt 10 11 rfl (by omega)) (by omega) ((gRest_mono r (((gFr_M (17 + 32 * 90) 8 hq_189).X1 _ _ _ (fun _ z => z)).X1 _ _ _ (fun _ z => z)) hk9).X 10 11 rfl rfl (by omega)) dX9_personTold_219 ?_
                          refine g_iast G (va_up_self _ _ _) (by first | decide | omega) (show 2 < gL (sM S (17 + 32 * 90) q_189 8) q_189 by rw [hlen]; decide) (by omega) (rfl) dX9_personTold_220 ?_
                          refine g_dup G dX9_personTold_221 rfl ?_
                          refine g_iconst (v := nI 3) G dX9_personTold_222 (by decide) ?_
                          refine g_iload_n G dX9_personTold_223 rfl ?_
                          refine g_iast G (va_up_self _ _ _) (by first | decide | omega) (show 3 < gL (sM S (17 + 32 * 90) q_189 8) q_189 by rw [hlen]; decide) (by omega) (rfl) dX9_personTold_224 ?_
                          refine g_dup G dX9_personTold_225 rfl ?_
                          refine g_iconst (v := nI 4) G dX9_personTold_226 (by decide) ?_
                          first | refine g_aload_n G dX9_personTold_227 rfl ?_ | refine g_aload_nN G dX9_personTold_227 rfl ?_ | refine g_aload_nQ G dX9_personTold_227 rfl ?_
                          refine g_getR G fl_X9_75 ((gRest_mono r (((((gFr_M (17 + 32 * 90) 8 hq_189).X1 _ _ _ (fun _ z => z)).X1 _ _ _ (fun _ z => z)).X1 _ _ _ (fun _ z => z)).X1 _ _ _ (fun _ z => z)) hk9).kd) (by first | decide | omega) rfl ((gRest_mono r (((((gFr_M (17 + 32 * 90) 8 hq_189).X1 _ _ _ (fun _ z => z)).X1 _ _ _ (fun _ z => z)).X1 _ _ _ (fun _ z => z)).X1 _ _ _ (fun _ z => z)) hk9).st) dX9_personTold_228 ?_
                          refine g_getRN G fl_X9_188 ((gStt_mono q (((((gFr_M (17 + 32 * 90) 8 hq_189).X1 _ _ _ (fun _ z => z)).X1 _ _ _ (fun _ z => z)).X1 _ _ _ (fun _ z => z)).X1 _ _ _ (fun _ z => z)) (by omega) (fun _ _ _ => by omega)).kd) (by first | decide | omega) rfl ((gStt_mono q (((((gFr_M (17 + 32 * 90) 8 hq_189).X1 _ _ _ (fun _ z => z)).X1 _ _ _ (fun _ z => z)).X1 _ _ _ (fun _ z => z)).X1 _ _ _ (fun _ z => z)) (by omega) (fun _ _ _ => by omega)).Y 2 rfl) dX9_personTold_231 ?_
                          refine g_iload_n G dX9_personTold_234 rfl ?_
                          refine g_iald G ((gStt_mono q (((((gFr_M (17 + 32 * 90) 8 hq_189).X1 _ _ _ (fun _ z => z)).X1 _ _ _ (fun _ z => z)).X1 _ _ _ (fun _ z => z)).X1 _ _ _ (fun _ z => z)) (by omega) (fun _ _ _ => by omega)).A 2 rfl) (by first | decide | omega) ((gStt_mono q (((((gFr_M (17 + 32 * 90) 8 hq_189).X1 _ _ _ (fun _ z => z)).X1 _ _ _ (fun _ z => z)).X1 _ _ _ (fun _ z => z)).X1 _ _ _ (fun _ z => z)) (by omega) (fun _ _ _ => by omega)).lt 2 11 rfl (by omega)) (by omega) ((gStt_mono q (((((gFr_M (17 + 32 * 90) 8 hq_189).X1 _ _ _ (fun _ z => z)).X1 _ _ _ (fun _ z => z)).X1 _ _ _ (fun _ z => z)).X1 _ _ _ (fun _ z => z)) (by omega) (fun _ _ _ => by omega)).X 2 11 rfl (by omega)) dX9_personTold_235 ?_
                          refine g_iast G (va_up_self _ _ _) (by first | decide | omega) (show 4 < gL (sM S (17 + 32 * 90) q_189 8) q_189 by rw [hlen]; decide) (by omega) (rfl) dX9_personTold_236 ?_
                          refine g_dup G dX9_personTold_237 rfl ?_
                          refine g_iconst (v := nI 5) G dX9_personTold_238 (by decide) ?_
                          refine g_iload G dX9_personTold_239 rfl ?_
                          refine g_iast G (va_up_self _ _ _) (by first | decide | omega) (show 5 < gL (sM S (17 + 32 * 90) q_189 8) q_189 by rw [hlen]; decide) (by omega) (rfl) dX9_personTold_241 ?_
                          refine g_dup G dX9_personTold_242 rfl ?_
                          refine g_bipush (v := nI 6) G dX9_personTold_243 (by decide) ?_
                          refine g_iload G dX9_personTold_245 rfl ?_
                          refine g_iast G (va_up_self _ _ _) (by first | decide | omega) (show 6 < gL (sM S (17 + 32 * 90) q_189 8) q_189 by rw [hlen]; decide) (by omega) (rfl) dX9_personTold_247 ?_
                          refine g_dup G dX9_personTold_248 rfl ?_
                          refine g_bipush (v := nI 7) G dX9_personTold_249 (by decide) ?_
                          refine g_iload G dX9_personTold_251 rfl ?_
                          refine g_iast G (va_up_self _ _ _) (by first | decide | omega) (show 7 < gL (sM S (17 + 32 * 90) q_189 8) q_189 by rw [hlen]; decide) (by omega) (rfl) dX9_personTold_253 ?_
                          first | refine g_astore G dX9_personTold_254 (gSt_7 (by first | rfl | exact g_c1_rf)) ?_ | refine g_astoreN G dX9_personTold_254 (gSt_7 (by first | rfl | exact g_c1_rf)) ?_ | refine g_astoreQ G dX9_personTold_254 (gSt_7 (by first | rfl | exact g_c1_rf)) ?_
                          first | refine g_aload G dX9_personTold_256 rfl ?_ | refine g_aloadN G dX9_personTold_256 rfl ?_ | refine g_aloadQ G dX9_personTold_256 rfl ?_
                          refine g_iload_n G dX9_personTold_258 rfl ?_
                          refine g_iald G (va_up_self _ _ _) (by first | decide | omega) (show w < gL (sM S (17 + 32 * 90) q_189 8) q_189 by rw [hlen]; omega) (by omega) ((by
                              obtain rfl | rfl | rfl | rfl | rfl | rfl | rfl | rfl := (show w = 0 ∨ w = 1 ∨ w = 2 ∨ w = 3 ∨ w = 4 ∨ w = 5 ∨ w = 6 ∨ w = 7 by omega)
                              · exact sX_q (by decide) (sX_q (by decide) (sX_q (by decide) (sX_q (by decide) (sX_q (by decide) (sX_q (by decide) (sX_q (by decide) (sX_s)))))))
                              · exact sX_q (by decide) (sX_q (by decide) (sX_q (by decide) (sX_q (by decide) (sX_q (by decide) (sX_q (by decide) (sX_s))))))
                              · exact sX_q (by decide) (sX_q (by decide) (sX_q (by decide) (sX_q (by decide) (sX_q (by decide) (sX_s)))))
                              · exact sX_q (by decide) (sX_q (by decide) (sX_q (by decide) (sX_q (by decide) (sX_s))))
                              · exact sX_q (by decide) (sX_q (by decide) (sX_q (by decide) (sX_s)))
                              · exact sX_q (by decide) (sX_q (by decide) (sX_s))
                              · exact sX_q (by decide) (sX_s)
                              · exact sX_s : gX _ (17 + 32 * 90) q_189 w = gTellPers M p w)) dX9_personTold_259 ?_
                          exact g_iret G F (⟨rfl, ((((((((gFr_M (17 + 32 * 90) 8 hq_189).X1 _ _ _ (fun _ z => z)).X1 _ _ _ (fun _ z => z)).X1 _ _ _ (fun _ z => z)).X1 _ _ _ (fun _ z => z)).X1 _ _ _ (fun _ z => z)).X1 _ _ _ (fun _ z => z)).X1 _ _ _ (fun _ z => z)).X1 _ _ _ (fun _ z => z)⟩) (by omega) (by omega) dX9_personTold_260
                        · have hlt2 : t < (mN M 23) := by have z : ¬ (mN M 23) ≤ t := fun z => c_143 ((nI_leI (by omega) (by omega)).mpr z); omega
                          refine g_iload G dX9_personTold_146 rfl ?_
                          first | refine g_aload_n G dX9_personTold_148 rfl ?_ | refine g_aload_nN G dX9_personTold_148 rfl ?_ | refine g_aload_nQ G dX9_personTold_148 rfl ?_
                          refine g_getR G fl_X9_64 (r.kd) (by first | decide | omega) rfl (r.Y 25 rfl) dX9_personTold_149 ?_
                          refine g_iload G dX9_personTold_152 rfl ?_
                          refine g_iald G (r.A 25 rfl) (by first | decide | omega) (r.lt 25 39 rfl (by omega)) (by omega) (r.X 25 39 rfl rfl (by omega)) dX9_personTold_154 ?_
                          refine g_iload_n G dX9_personTold_155 rfl ?_
                          refine g_icmp_ne (tgt := 177) G dX9_personTold_156 (by decide) (fun c_156 => ?_) (fun c_156 => ?_)
                          · have e6 := gct_no (p := (fun k => decide (mA M 25 k = nI p ∧ mA M 46 k = nI 1))) (n := t) (decide_eq_false (fun z => c_156 z.1))
                            refine g_iconst (v := nI 0) G dX9_personTold_177 (by decide) ?_
                            refine g_iadd G dX9_personTold_178 (by first | exact nI_add _ _ | rfl) ?_
                            refine g_istore G dX9_personTold_179 (gSt_6 (by first | rfl | exact g_c1_rf)) ?_
                            refine g_iinc (v := _) G dX9_personTold_181 rfl (by first | exact nI_1 _ | rfl) (gSt_7 (by first | rfl | exact g_c1_rf)) ?_
                            refine g_goto (tgt := 137) G dX9_personTold_184 (by decide) ?_
                            have h9 := ih2 (t + 1) (by omega) (by omega)
                            rw [e6] at h9
                            exact h9
                          · first | refine g_aload_n G dX9_personTold_159 rfl ?_ | refine g_aload_nN G dX9_personTold_159 rfl ?_ | refine g_aload_nQ G dX9_personTold_159 rfl ?_
                            refine g_getR G fl_X9_75 (r.kd) (by first | decide | omega) rfl (r.st) dX9_personTold_160 ?_
                            refine g_getRN G fl_X9_185 (q.kd) (by first | decide | omega) rfl (q.Y 6 rfl) dX9_personTold_163 ?_
                            refine g_iload G dX9_personTold_166 rfl ?_
                            refine g_iald G (q.A 6 rfl) (by first | decide | omega) (q.lt 6 39 rfl (by omega)) (by omega) (q.X 6 39 rfl (by omega)) dX9_personTold_168 ?_
                            refine g_iconst (v := nI 1) G dX9_personTold_169 (by decide) ?_
                            refine g_icmp_ne (tgt := 177) G dX9_personTold_170 (by decide) (fun c_170 => ?_) (fun c_170 => ?_)
                            · have e6 := gct_no (p := (fun k => decide (mA M 25 k = nI p ∧ mA M 46 k = nI 1))) (n := t) (decide_eq_false (fun z => c_170 z.2))
                              refine g_iconst (v := nI 0) G dX9_personTold_177 (by decide) ?_
                              refine g_iadd G dX9_personTold_178 (by first | exact nI_add _ _ | rfl) ?_
                              refine g_istore G dX9_personTold_179 (gSt_6 (by first | rfl | exact g_c1_rf)) ?_
                              refine g_iinc (v := _) G dX9_personTold_181 rfl (by first | exact nI_1 _ | rfl) (gSt_7 (by first | rfl | exact g_c1_rf)) ?_
                              refine g_goto (tgt := 137) G dX9_personTold_184 (by decide) ?_
                              have h9 := ih2 (t + 1) (by omega) (by omega)
                              rw [e6] at h9
                              exact h9
                            · have e6 := gct_yes (p := (fun k => decide (mA M 25 k = nI p ∧ mA M 46 k = nI 1))) (n := t) (decide_eq_true ⟨c_156, c_170⟩)
                              refine g_iconst (v := nI 1) G dX9_personTold_173 (by decide) ?_
                              refine g_goto (tgt := 178) G dX9_personTold_174 (by decide) ?_
                              refine g_iadd G dX9_personTold_178 (by first | exact nI_add _ _ | rfl) ?_
                              refine g_istore G dX9_personTold_179 (gSt_6 (by first | rfl | exact g_c1_rf)) ?_
                              refine g_iinc (v := _) G dX9_personTold_181 rfl (by first | exact nI_1 _ | rfl) (gSt_7 (by first | rfl | exact g_c1_rf)) ?_
                              refine g_goto (tgt := 137) G dX9_personTold_184 (by decide) ?_
                              have h9 := ih2 (t + 1) (by omega) (by omega)
                              rw [e6] at h9
                              exact h9
                    exact loop137 ((mN M 23) + 1) 0 (by omega) (by omega)
                  · have hlt2 : t < (mN M 17) := by have z : ¬ (mN M 17) ≤ t := fun z => c_104 ((nI_leI (by omega) (by omega)).mpr z); omega
                    refine g_iload G dX9_personTold_107 rfl ?_
                    first | refine g_aload_n G dX9_personTold_109 rfl ?_ | refine g_aload_nN G dX9_personTold_109 rfl ?_ | refine g_aload_nQ G dX9_personTold_109 rfl ?_
                    refine g_getR G fl_X9_49 (r.kd) (by first | decide | omega) rfl (r.Y 19 rfl) dX9_personTold_110 ?_
                    refine g_iload G dX9_personTold_113 rfl ?_
                    refine g_iald G (r.A 19 rfl) (by first | decide | omega) (r.lt 19 19 rfl (by omega)) (by omega) (r.X 19 19 rfl rfl (by omega)) dX9_personTold_115 ?_
                    refine g_iload_n G dX9_personTold_116 rfl ?_
                    refine g_icmp_ne (tgt := 124) G dX9_personTold_117 (by decide) (fun c_117 => ?_) (fun c_117 => ?_)
                    · have e5 := gct_no (p := (fun k => decide (mA M 19 k = nI p))) (n := t) (decide_eq_false c_117)
                      refine g_iconst (v := nI 0) G dX9_personTold_124 (by decide) ?_
                      refine g_iadd G dX9_personTold_125 (by first | exact nI_add _ _ | rfl) ?_
                      refine g_istore G dX9_personTold_126 (gSt_5 (by first | rfl | exact g_c1_rf)) ?_
                      refine g_iinc (v := _) G dX9_personTold_128 rfl (by first | exact nI_1 _ | rfl) (gSt_7 (by first | rfl | exact g_c1_rf)) ?_
                      refine g_goto (tgt := 98) G dX9_personTold_131 (by decide) ?_
                      have h9 := ih2 (t + 1) (by omega) (by omega)
                      rw [e5] at h9
                      exact h9
                    · have e5 := gct_yes (p := (fun k => decide (mA M 19 k = nI p))) (n := t) (decide_eq_true c_117)
                      refine g_iconst (v := nI 1) G dX9_personTold_120 (by decide) ?_
                      refine g_goto (tgt := 125) G dX9_personTold_121 (by decide) ?_
                      refine g_iadd G dX9_personTold_125 (by first | exact nI_add _ _ | rfl) ?_
                      refine g_istore G dX9_personTold_126 (gSt_5 (by first | rfl | exact g_c1_rf)) ?_
                      refine g_iinc (v := _) G dX9_personTold_128 rfl (by first | exact nI_1 _ | rfl) (gSt_7 (by first | rfl | exact g_c1_rf)) ?_
                      refine g_goto (tgt := 98) G dX9_personTold_131 (by decide) ?_
                      have h9 := ih2 (t + 1) (by omega) (by omega)
                      rw [e5] at h9
                      exact h9
              exact loop98 ((mN M 17) + 1) 0 (by omega) (by omega)
            · have hlt2 : t < (mN M 11) := by have z : ¬ (mN M 11) ≤ t := fun z => c_62 ((nI_leI (by omega) (by omega)).mpr z); omega
              refine g_iload G dX9_personTold_65 rfl ?_
              first | refine g_aload_n G dX9_personTold_67 rfl ?_ | refine g_aload_nN G dX9_personTold_67 rfl ?_ | refine g_aload_nQ G dX9_personTold_67 rfl ?_
              refine g_getR G fl_X9_75 (r.kd) (by first | decide | omega) rfl (r.st) dX9_personTold_68 ?_
              refine g_getRN G fl_X9_158 (q.kd) (by first | decide | omega) rfl (q.Y 3 rfl) dX9_personTold_71 ?_
              refine g_iload G dX9_personTold_74 rfl ?_
              refine g_iald G (q.A 3 rfl) (by first | decide | omega) (q.lt 3 23 rfl (by omega)) (by omega) (q.X 3 23 rfl (by omega)) dX9_personTold_76 ?_
              refine g_iload_n G dX9_personTold_77 rfl ?_
              refine g_icmp_ne (tgt := 85) G dX9_personTold_78 (by decide) (fun c_78 => ?_) (fun c_78 => ?_)
              · have e4 := gct_no (p := (fun k => decide (mA M 43 k = nI p))) (n := t) (decide_eq_false c_78)
                refine g_iconst (v := nI 0) G dX9_personTold_85 (by decide) ?_
                refine g_iadd G dX9_personTold_86 (by first | exact nI_add _ _ | rfl) ?_
                refine g_istore G dX9_personTold_87 (gSt_4 (by first | rfl | exact g_c1_rf)) ?_
                refine g_iinc (v := _) G dX9_personTold_89 rfl (by first | exact nI_1 _ | rfl) (gSt_7 (by first | rfl | exact g_c1_rf)) ?_
                refine g_goto (tgt := 56) G dX9_personTold_92 (by decide) ?_
                have h9 := ih2 (t + 1) (by omega) (by omega)
                rw [e4] at h9
                exact h9
              · have e4 := gct_yes (p := (fun k => decide (mA M 43 k = nI p))) (n := t) (decide_eq_true c_78)
                refine g_iconst (v := nI 1) G dX9_personTold_81 (by decide) ?_
                refine g_goto (tgt := 86) G dX9_personTold_82 (by decide) ?_
                refine g_iadd G dX9_personTold_86 (by first | exact nI_add _ _ | rfl) ?_
                refine g_istore G dX9_personTold_87 (gSt_4 (by first | rfl | exact g_c1_rf)) ?_
                refine g_iinc (v := _) G dX9_personTold_89 rfl (by first | exact nI_1 _ | rfl) (gSt_7 (by first | rfl | exact g_c1_rf)) ?_
                refine g_goto (tgt := 56) G dX9_personTold_92 (by decide) ?_
                have h9 := ih2 (t + 1) (by omega) (by omega)
                rw [e4] at h9
                exact h9
        exact loop56 ((mN M 11) + 1) 0 (by omega) (by omega)
      · have hlt2 : t < (mN M 6) := by have z : ¬ (mN M 6) ≤ t := fun z => c_20 ((nI_leI (by omega) (by omega)).mpr z); omega
        refine g_iload_n G dX9_personTold_23 rfl ?_
        first | refine g_aload_n G dX9_personTold_24 rfl ?_ | refine g_aload_nN G dX9_personTold_24 rfl ?_ | refine g_aload_nQ G dX9_personTold_24 rfl ?_
        refine g_getR G fl_X9_75 (r.kd) (by first | decide | omega) rfl (r.st) dX9_personTold_25 ?_
        refine g_iload_n G dX9_personTold_28 rfl ?_
        refine g_iload G dX9_personTold_29 rfl ?_
        refine g_callVp (ci := 9) G (c_X8_isIn _ _ _ _ _ _ _ r q i _ _ (by omega) (by omega)) mt_X8_isIn mi_X8_isIn ml_X9_179 (q.kd) (by first | decide | omega) rfl (by decide) (by omega) (by omega) rfl (Nat.le_of_ble_eq_true rfl) dX9_personTold_31 ?_
        refine g_if_eq (tgt := 44) G dX9_personTold_34 (by decide) (fun c_34 => ?_) (fun c_34 => ?_)
        · have e9 : gor (fun k => decide (mA M 7 k ≤ gReachOf M p k)) (t + 1) = gor (fun k => decide (mA M 7 k ≤ gReachOf M p k)) t ||| nI 0 := (gor_no (p := (fun k => decide (mA M 7 k ≤ gReachOf M p k))) (n := t) (gB_eq0.mp c_34)).trans Int32.or_zero.symm
          refine g_iconst (v := nI 0) G dX9_personTold_44 (by decide) ?_
          refine g_ior G dX9_personTold_45 (rfl) ?_
          refine g_istore_n G dX9_personTold_46 (gSt_3 (by first | rfl | exact g_c1_rf)) ?_
          refine g_iinc (v := _) G dX9_personTold_47 rfl (by first | exact nI_1 _ | rfl) (gSt_7 (by first | rfl | exact g_c1_rf)) ?_
          refine g_goto (tgt := 14) G dX9_personTold_50 (by decide) ?_
          have h9 := ih2 (t + 1) (by omega) (by omega)
          rw [e9] at h9
          exact h9
        · have e9 := gor_yes (p := (fun k => decide (mA M 7 k ≤ gReachOf M p k))) (n := t) (gB_ne0.mp c_34)
          refine g_iconst (v := nI 1) G dX9_personTold_37 (by decide) ?_
          refine g_iload G dX9_personTold_38 rfl ?_
          refine g_ishl G dX9_personTold_40 (rfl) ?_
          refine g_goto (tgt := 45) G dX9_personTold_41 (by decide) ?_
          refine g_ior G dX9_personTold_45 (rfl) ?_
          refine g_istore_n G dX9_personTold_46 (gSt_3 (by first | rfl | exact g_c1_rf)) ?_
          refine g_iinc (v := _) G dX9_personTold_47 rfl (by first | exact nI_1 _ | rfl) (gSt_7 (by first | rfl | exact g_c1_rf)) ?_
          refine g_goto (tgt := 14) G dX9_personTold_50 (by decide) ?_
          have h9 := ih2 (t + 1) (by omega) (by omega)
          rw [e9] at h9
          exact h9
  exact loop14 ((mN M 6) + 1) 0 (by omega) (by omega)

set_option maxHeartbeats 4000000 in
set_option maxRecDepth 100000 in
theorem c_X9_counted (d0 : Nat × Nat) (S : gS) (y : Nat) (b : Nat → Nat → Nat) (M : gM) (r : gRest S y b M) (q : gStt S (b 0 27) 0 b y M) (i : gInv M) (w : Nat) (hw : w ≤ 11) : gCt d0 yX9_counted cX9_counted 7 (some .int) 0 1 12 [.ref y, .int (nI w)] S (gTmp S (gTellCount M w)) gNo := by
  refine gCt_of (lo := [some (.ref y), some (.int (nI w)), none, none, none, none, none]) (by decide +kernel) (Nat.le_of_ble_eq_true rfl) (rfl) ?_
  intro Γ hd G F hini
  obtain ⟨i6, i8, i11, i17, i23, i2, i5⟩ := i.b
  refine g_iconst (v := nI 0) G dX9_counted_0 (by decide) ?_
  refine g_istore_n G dX9_counted_1 (gSt_2 (by first | rfl | exact g_c1_rf)) ?_
  refine g_iconst (v := nI 0) G dX9_counted_2 (by decide) ?_
  refine g_istore_n G dX9_counted_3 (gSt_3 (by first | rfl | exact g_c1_rf)) ?_
  refine g_iconst (v := nI 0) G dX9_counted_4 (by decide) ?_
  refine g_istore G dX9_counted_5 (gSt_4 (by first | rfl | exact g_c1_rf)) ?_
  refine g_iconst (v := nI 0) G dX9_counted_7 (by decide) ?_
  refine g_istore G dX9_counted_8 (gSt_5 (by first | rfl | exact g_c1_rf)) ?_
  refine g_iconst (v := nI 0) G dX9_counted_10 (by decide) ?_
  refine g_istore G dX9_counted_11 (gSt_6 (by first | rfl | exact g_c1_rf)) ?_
  have loop13 : ∀ f2 t : Nat, t ≤ (mN M 23) → (mN M 23) + 1 ≤ t + f2 → gW Γ 13 [some (.ref y), some (.int (nI w)), some (.int (nI (gct (fun k => decide (mA M 46 k = nI 0)) (t)))), some (.int (nI (gct (fun k => decide (mA M 46 k = nI 1)) (t)))), some (.int (nI 0)), some (.int (nI 0)), some (.int (nI (t)))] [] S 0 0 := by
    intro f2
    induction f2 with
    | zero => intro t  q1 q2; omega
    | succ f2 ih2 =>
      intro t  ht2 hf2 
      refine g_iload G dX9_counted_13 rfl ?_
      first | refine g_aload_n G dX9_counted_15 rfl ?_ | refine g_aload_nN G dX9_counted_15 rfl ?_ | refine g_aload_nQ G dX9_counted_15 rfl ?_
      refine g_getI G fl_X9_182 (r.kd) (by first | decide | omega) rfl (r.n 23 rfl) dX9_counted_16 ?_
      refine g_icmp_ge (tgt := 71) G dX9_counted_19 (by decide) (fun c_19 => ?_) (fun c_19 => ?_)
      · have et : t = (mN M 23) := by have := (nI_leI (by omega) (by omega)).mp c_19; omega
        subst et
        refine g_iconst (v := nI 0) G dX9_counted_71 (by decide) ?_
        refine g_istore G dX9_counted_72 (gSt_6 (by first | rfl | exact g_c1_rf)) ?_
        have loop74 : ∀ f2 t : Nat, t ≤ (mN M 17) → (mN M 17) + 1 ≤ t + f2 → gW Γ 74 [some (.ref y), some (.int (nI w)), some (.int (nI (gct (fun k => decide (mA M 46 k = nI 0)) (mN M 23)))), some (.int (nI (gct (fun k => decide (mA M 46 k = nI 1)) (mN M 23)))), some (.int (nI (gct (fun k => decide (mA M 19 k = -2)) (t)))), some (.int (nI 0)), some (.int (nI (t)))] [] S 0 0 := by
          intro f2
          induction f2 with
          | zero => intro t  q1 q2; omega
          | succ f2 ih2 =>
            intro t  ht2 hf2 
            refine g_iload G dX9_counted_74 rfl ?_
            first | refine g_aload_n G dX9_counted_76 rfl ?_ | refine g_aload_nN G dX9_counted_76 rfl ?_ | refine g_aload_nQ G dX9_counted_76 rfl ?_
            refine g_getI G fl_X9_107 (r.kd) (by first | decide | omega) rfl (r.n 17 rfl) dX9_counted_77 ?_
            refine g_icmp_ge (tgt := 111) G dX9_counted_80 (by decide) (fun c_80 => ?_) (fun c_80 => ?_)
            · have et : t = (mN M 17) := by have := (nI_leI (by omega) (by omega)).mp c_80; omega
              subst et
              refine g_iconst (v := nI 0) G dX9_counted_111 (by decide) ?_
              refine g_istore G dX9_counted_112 (gSt_6 (by first | rfl | exact g_c1_rf)) ?_
              have loop114 : ∀ f2 t : Nat, t ≤ (mN M 11) → (mN M 11) + 1 ≤ t + f2 → gW Γ 114 [some (.ref y), some (.int (nI w)), some (.int (nI (gct (fun k => decide (mA M 46 k = nI 0)) (mN M 23)))), some (.int (nI (gct (fun k => decide (mA M 46 k = nI 1)) (mN M 23)))), some (.int (nI (gct (fun k => decide (mA M 19 k = -2)) (mN M 17)))), some (.int (nI (gct (fun k => decide (¬ mA M 43 k = -1)) (t)))), some (.int (nI (t)))] [] S 0 0 := by
                intro f2
                induction f2 with
                | zero => intro t  q1 q2; omega
                | succ f2 ih2 =>
                  intro t  ht2 hf2 
                  refine g_iload G dX9_counted_114 rfl ?_
                  first | refine g_aload_n G dX9_counted_116 rfl ?_ | refine g_aload_nN G dX9_counted_116 rfl ?_ | refine g_aload_nQ G dX9_counted_116 rfl ?_
                  refine g_getI G fl_X9_104 (r.kd) (by first | decide | omega) rfl (r.n 11 rfl) dX9_counted_117 ?_
                  refine g_icmp_ge (tgt := 153) G dX9_counted_120 (by decide) (fun c_120 => ?_) (fun c_120 => ?_)
                  · have et : t = (mN M 11) := by have := (nI_leI (by omega) (by omega)).mp c_120; omega
                    subst et
                    refine g_bipush (v := nI 12) G dX9_counted_153 (by decide) ?_
                    refine g_new_int (κ := 17 + 32 * 90) G ac_int (by first | decide | omega) (rfl) (by omega) (by omega) (by omega) dX9_counted_155 (fun q_155 hq_155 => ?_)
                    have hlen : gL (sM S (17 + 32 * 90) q_155 12) q_155 = 12 := va_up_self _ _ _
                    have hk9 : ∀ κ, gRk κ → κ ≠ 17 + 32 * 90 := fun κ z e => gRk_9 (e ▸ z)
                    refine g_dup G dX9_counted_157 rfl ?_
                    refine g_iconst (v := nI 0) G dX9_counted_158 (by decide) ?_
                    first | refine g_aload_n G dX9_counted_159 rfl ?_ | refine g_aload_nN G dX9_counted_159 rfl ?_ | refine g_aload_nQ G dX9_counted_159 rfl ?_
                    refine g_getR G fl_X9_75 ((gRest_mono r (gFr_M (17 + 32 * 90) 12 hq_155) hk9).kd) (by first | decide | omega) rfl ((gRest_mono r (gFr_M (17 + 32 * 90) 12 hq_155) hk9).st) dX9_counted_160 ?_
                    refine g_getIN G fl_X9_219 ((gStt_mono q (gFr_M (17 + 32 * 90) 12 hq_155) (by omega) (fun _ _ _ => by omega)).kd) (by first | decide | omega) rfl ((gStt_mono q (gFr_M (17 + 32 * 90) 12 hq_155) (by omega) (fun _ _ _ => by omega)).d) dX9_counted_163 ?_
                    refine g_iast G (va_up_self _ _ _) (by first | decide | omega) (show 0 < gL (sM S (17 + 32 * 90) q_155 12) q_155 by rw [hlen]; decide) (by omega) (rfl) dX9_counted_166 ?_
                    refine g_dup G dX9_counted_167 rfl ?_
                    refine g_iconst (v := nI 1) G dX9_counted_168 (by decide) ?_
                    first | refine g_aload_n G dX9_counted_169 rfl ?_ | refine g_aload_nN G dX9_counted_169 rfl ?_ | refine g_aload_nQ G dX9_counted_169 rfl ?_
                    refine g_getI G fl_X9_94 ((gRest_mono r ((gFr_M (17 + 32 * 90) 12 hq_155).X1 _ _ _ (fun _ z => z)) hk9).kd) (by first | decide | omega) rfl ((gRest_mono r ((gFr_M (17 + 32 * 90) 12 hq_155).X1 _ _ _ (fun _ z => z)) hk9).n 6 rfl) dX9_counted_170 ?_
                    refine g_iast G (va_up_self _ _ _) (by first | decide | omega) (show 1 < gL (sM S (17 + 32 * 90) q_155 12) q_155 by rw [hlen]; decide) (by omega) (rfl) dX9_counted_173 ?_
                    refine g_dup G dX9_counted_174 rfl ?_
                    refine g_iconst (v := nI 2) G dX9_counted_175 (by decide) ?_
                    first | refine g_aload_n G dX9_counted_176 rfl ?_ | refine g_aload_nN G dX9_counted_176 rfl ?_ | refine g_aload_nQ G dX9_counted_176 rfl ?_
                    refine g_getI G fl_X9_101 ((gRest_mono r (((gFr_M (17 + 32 * 90) 12 hq_155).X1 _ _ _ (fun _ z => z)).X1 _ _ _ (fun _ z => z)) hk9).kd) (by first | decide | omega) rfl ((gRest_mono r (((gFr_M (17 + 32 * 90) 12 hq_155).X1 _ _ _ (fun _ z => z)).X1 _ _ _ (fun _ z => z)) hk9).n 8 rfl) dX9_counted_177 ?_
                    refine g_iast G (va_up_self _ _ _) (by first | decide | omega) (show 2 < gL (sM S (17 + 32 * 90) q_155 12) q_155 by rw [hlen]; decide) (by omega) (rfl) dX9_counted_180 ?_
                    refine g_dup G dX9_counted_181 rfl ?_
                    refine g_iconst (v := nI 3) G dX9_counted_182 (by decide) ?_
                    first | refine g_aload_n G dX9_counted_183 rfl ?_ | refine g_aload_nN G dX9_counted_183 rfl ?_ | refine g_aload_nQ G dX9_counted_183 rfl ?_
                    refine g_getI G fl_X9_104 ((gRest_mono r ((((gFr_M (17 + 32 * 90) 12 hq_155).X1 _ _ _ (fun _ z => z)).X1 _ _ _ (fun _ z => z)).X1 _ _ _ (fun _ z => z)) hk9).kd) (by first | decide | omega) rfl ((gRest_mono r ((((gFr_M (17 + 32 * 90) 12 hq_155).X1 _ _ _ (fun _ z => z)).X1 _ _ _ (fun _ z => z)).X1 _ _ _ (fun _ z => z)) hk9).n 11 rfl) dX9_counted_184 ?_
                    refine g_iast G (va_up_self _ _ _) (by first | decide | omega) (show 3 < gL (sM S (17 + 32 * 90) q_155 12) q_155 by rw [hlen]; decide) (by omega) (rfl) dX9_counted_187 ?_
                    refine g_dup G dX9_counted_188 rfl ?_
                    refine g_iconst (v := nI 4) G dX9_counted_189 (by decide) ?_
                    first | refine g_aload_n G dX9_counted_190 rfl ?_ | refine g_aload_nN G dX9_counted_190 rfl ?_ | refine g_aload_nQ G dX9_counted_190 rfl ?_
                    refine g_getI G fl_X9_107 ((gRest_mono r (((((gFr_M (17 + 32 * 90) 12 hq_155).X1 _ _ _ (fun _ z => z)).X1 _ _ _ (fun _ z => z)).X1 _ _ _ (fun _ z => z)).X1 _ _ _ (fun _ z => z)) hk9).kd) (by first | decide | omega) rfl ((gRest_mono r (((((gFr_M (17 + 32 * 90) 12 hq_155).X1 _ _ _ (fun _ z => z)).X1 _ _ _ (fun _ z => z)).X1 _ _ _ (fun _ z => z)).X1 _ _ _ (fun _ z => z)) hk9).n 17 rfl) dX9_counted_191 ?_
                    refine g_iast G (va_up_self _ _ _) (by first | decide | omega) (show 4 < gL (sM S (17 + 32 * 90) q_155 12) q_155 by rw [hlen]; decide) (by omega) (rfl) dX9_counted_194 ?_
                    refine g_dup G dX9_counted_195 rfl ?_
                    refine g_iconst (v := nI 5) G dX9_counted_196 (by decide) ?_
                    first | refine g_aload_n G dX9_counted_197 rfl ?_ | refine g_aload_nN G dX9_counted_197 rfl ?_ | refine g_aload_nQ G dX9_counted_197 rfl ?_
                    refine g_getI G fl_X9_182 ((gRest_mono r ((((((gFr_M (17 + 32 * 90) 12 hq_155).X1 _ _ _ (fun _ z => z)).X1 _ _ _ (fun _ z => z)).X1 _ _ _ (fun _ z => z)).X1 _ _ _ (fun _ z => z)).X1 _ _ _ (fun _ z => z)) hk9).kd) (by first | decide | omega) rfl ((gRest_mono r ((((((gFr_M (17 + 32 * 90) 12 hq_155).X1 _ _ _ (fun _ z => z)).X1 _ _ _ (fun _ z => z)).X1 _ _ _ (fun _ z => z)).X1 _ _ _ (fun _ z => z)).X1 _ _ _ (fun _ z => z)) hk9).n 23 rfl) dX9_counted_198 ?_
                    refine g_iast G (va_up_self _ _ _) (by first | decide | omega) (show 5 < gL (sM S (17 + 32 * 90) q_155 12) q_155 by rw [hlen]; decide) (by omega) (rfl) dX9_counted_201 ?_
                    refine g_dup G dX9_counted_202 rfl ?_
                    refine g_bipush (v := nI 6) G dX9_counted_203 (by decide) ?_
                    refine g_iload_n G dX9_counted_205 rfl ?_
                    refine g_iast G (va_up_self _ _ _) (by first | decide | omega) (show 6 < gL (sM S (17 + 32 * 90) q_155 12) q_155 by rw [hlen]; decide) (by omega) (rfl) dX9_counted_206 ?_
                    refine g_dup G dX9_counted_207 rfl ?_
                    refine g_bipush (v := nI 7) G dX9_counted_208 (by decide) ?_
                    refine g_iload_n G dX9_counted_210 rfl ?_
                    refine g_iast G (va_up_self _ _ _) (by first | decide | omega) (show 7 < gL (sM S (17 + 32 * 90) q_155 12) q_155 by rw [hlen]; decide) (by omega) (rfl) dX9_counted_211 ?_
                    refine g_dup G dX9_counted_212 rfl ?_
                    refine g_bipush (v := nI 8) G dX9_counted_213 (by decide) ?_
                    first | refine g_aload_n G dX9_counted_215 rfl ?_ | refine g_aload_nN G dX9_counted_215 rfl ?_ | refine g_aload_nQ G dX9_counted_215 rfl ?_
                    refine g_getI G fl_X9_110 ((gRest_mono r (((((((((gFr_M (17 + 32 * 90) 12 hq_155).X1 _ _ _ (fun _ z => z)).X1 _ _ _ (fun _ z => z)).X1 _ _ _ (fun _ z => z)).X1 _ _ _ (fun _ z => z)).X1 _ _ _ (fun _ z => z)).X1 _ _ _ (fun _ z => z)).X1 _ _ _ (fun _ z => z)).X1 _ _ _ (fun _ z => z)) hk9).kd) (by first | decide | omega) rfl ((gRest_mono r (((((((((gFr_M (17 + 32 * 90) 12 hq_155).X1 _ _ _ (fun _ z => z)).X1 _ _ _ (fun _ z => z)).X1 _ _ _ (fun _ z => z)).X1 _ _ _ (fun _ z => z)).X1 _ _ _ (fun _ z => z)).X1 _ _ _ (fun _ z => z)).X1 _ _ _ (fun _ z => z)).X1 _ _ _ (fun _ z => z)) hk9).n 2 rfl) dX9_counted_216 ?_
                    refine g_iast G (va_up_self _ _ _) (by first | decide | omega) (show 8 < gL (sM S (17 + 32 * 90) q_155 12) q_155 by rw [hlen]; decide) (by omega) (rfl) dX9_counted_219 ?_
                    refine g_dup G dX9_counted_220 rfl ?_
                    refine g_bipush (v := nI 9) G dX9_counted_221 (by decide) ?_
                    first | refine g_aload_n G dX9_counted_223 rfl ?_ | refine g_aload_nN G dX9_counted_223 rfl ?_ | refine g_aload_nQ G dX9_counted_223 rfl ?_
                    refine g_getI G fl_X9_210 ((gRest_mono r ((((((((((gFr_M (17 + 32 * 90) 12 hq_155).X1 _ _ _ (fun _ z => z)).X1 _ _ _ (fun _ z => z)).X1 _ _ _ (fun _ z => z)).X1 _ _ _ (fun _ z => z)).X1 _ _ _ (fun _ z => z)).X1 _ _ _ (fun _ z => z)).X1 _ _ _ (fun _ z => z)).X1 _ _ _ (fun _ z => z)).X1 _ _ _ (fun _ z => z)) hk9).kd) (by first | decide | omega) rfl ((gRest_mono r ((((((((((gFr_M (17 + 32 * 90) 12 hq_155).X1 _ _ _ (fun _ z => z)).X1 _ _ _ (fun _ z => z)).X1 _ _ _ (fun _ z => z)).X1 _ _ _ (fun _ z => z)).X1 _ _ _ (fun _ z => z)).X1 _ _ _ (fun _ z => z)).X1 _ _ _ (fun _ z => z)).X1 _ _ _ (fun _ z => z)).X1 _ _ _ (fun _ z => z)) hk9).n 5 rfl) dX9_counted_224 ?_
                    refine g_iast G (va_up_self _ _ _) (by first | decide | omega) (show 9 < gL (sM S (17 + 32 * 90) q_155 12) q_155 by rw [hlen]; decide) (by omega) (rfl) dX9_counted_227 ?_
                    refine g_dup G dX9_counted_228 rfl ?_
                    refine g_bipush (v := nI 10) G dX9_counted_229 (by decide) ?_
                    refine g_iload G dX9_counted_231 rfl ?_
                    refine g_iast G (va_up_self _ _ _) (by first | decide | omega) (show 10 < gL (sM S (17 + 32 * 90) q_155 12) q_155 by rw [hlen]; decide) (by omega) (rfl) dX9_counted_233 ?_
                    refine g_dup G dX9_counted_234 rfl ?_
                    refine g_bipush (v := nI 11) G dX9_counted_235 (by decide) ?_
                    refine g_iload G dX9_counted_237 rfl ?_
                    refine g_iast G (va_up_self _ _ _) (by first | decide | omega) (show 11 < gL (sM S (17 + 32 * 90) q_155 12) q_155 by rw [hlen]; decide) (by omega) (rfl) dX9_counted_239 ?_
                    first | refine g_astore G dX9_counted_240 (gSt_6 (by first | rfl | exact g_c1_rf)) ?_ | refine g_astoreN G dX9_counted_240 (gSt_6 (by first | rfl | exact g_c1_rf)) ?_ | refine g_astoreQ G dX9_counted_240 (gSt_6 (by first | rfl | exact g_c1_rf)) ?_
                    first | refine g_aload G dX9_counted_242 rfl ?_ | refine g_aloadN G dX9_counted_242 rfl ?_ | refine g_aloadQ G dX9_counted_242 rfl ?_
                    refine g_iload_n G dX9_counted_244 rfl ?_
                    refine g_iald G (va_up_self _ _ _) (by first | decide | omega) (show w < gL (sM S (17 + 32 * 90) q_155 12) q_155 by rw [hlen]; omega) (by omega) ((by
                        obtain rfl | rfl | rfl | rfl | rfl | rfl | rfl | rfl | rfl | rfl | rfl | rfl := (show w = 0 ∨ w = 1 ∨ w = 2 ∨ w = 3 ∨ w = 4 ∨ w = 5 ∨ w = 6 ∨ w = 7 ∨ w = 8 ∨ w = 9 ∨ w = 10 ∨ w = 11 by omega)
                        · exact sX_q (by decide) (sX_q (by decide) (sX_q (by decide) (sX_q (by decide) (sX_q (by decide) (sX_q (by decide) (sX_q (by decide) (sX_q (by decide) (sX_q (by decide) (sX_q (by decide) (sX_q (by decide) (sX_s)))))))))))
                        · exact sX_q (by decide) (sX_q (by decide) (sX_q (by decide) (sX_q (by decide) (sX_q (by decide) (sX_q (by decide) (sX_q (by decide) (sX_q (by decide) (sX_q (by decide) (sX_q (by decide) (sX_s))))))))))
                        · exact sX_q (by decide) (sX_q (by decide) (sX_q (by decide) (sX_q (by decide) (sX_q (by decide) (sX_q (by decide) (sX_q (by decide) (sX_q (by decide) (sX_q (by decide) (sX_s)))))))))
                        · exact sX_q (by decide) (sX_q (by decide) (sX_q (by decide) (sX_q (by decide) (sX_q (by decide) (sX_q (by decide) (sX_q (by decide) (sX_q (by decide) (sX_s))))))))
                        · exact sX_q (by decide) (sX_q (by decide) (sX_q (by decide) (sX_q (by decide) (sX_q (by decide) (sX_q (by decide) (sX_q (by decide) (sX_s)))))))
                        · exact sX_q (by decide) (sX_q (by decide) (sX_q (by decide) (sX_q (by decide) (sX_q (by decide) (sX_q (by decide) (sX_s))))))
                        · exact sX_q (by decide) (sX_q (by decide) (sX_q (by decide) (sX_q (by decide) (sX_q (by decide) (sX_s)))))
                        · exact sX_q (by decide) (sX_q (by decide) (sX_q (by decide) (sX_q (by decide) (sX_s))))
                        · exact sX_q (by decide) (sX_q (by decide) (sX_q (by decide) (sX_s)))
                        · exact sX_q (by decide) (sX_q (by decide) (sX_s))
                        · exact sX_q (by decide) (sX_s)
                        · exact sX_s : gX _ (17 + 32 * 90) q_155 w = gTellCount M w)) dX9_counted_245 ?_
                    exact g_iret G F (⟨rfl, ((((((((((((gFr_M (17 + 32 * 90) 12 hq_155).X1 _ _ _ (fun _ z => z)).X1 _ _ _ (fun _ z => z)).X1 _ _ _ (fun _ z => z)).X1 _ _ _ (fun _ z => z)).X1 _ _ _ (fun _ z => z)).X1 _ _ _ (fun _ z => z)).X1 _ _ _ (fun _ z => z)).X1 _ _ _ (fun _ z => z)).X1 _ _ _ (fun _ z => z)).X1 _ _ _ (fun _ z => z)).X1 _ _ _ (fun _ z => z)).X1 _ _ _ (fun _ z => z)⟩) (by omega) (by omega) dX9_counted_246
                  · have hlt2 : t < (mN M 11) := by have z : ¬ (mN M 11) ≤ t := fun z => c_120 ((nI_leI (by omega) (by omega)).mpr z); omega
                    refine g_iload G dX9_counted_123 rfl ?_
                    first | refine g_aload_n G dX9_counted_125 rfl ?_ | refine g_aload_nN G dX9_counted_125 rfl ?_ | refine g_aload_nQ G dX9_counted_125 rfl ?_
                    refine g_getR G fl_X9_75 (r.kd) (by first | decide | omega) rfl (r.st) dX9_counted_126 ?_
                    refine g_getRN G fl_X9_158 (q.kd) (by first | decide | omega) rfl (q.Y 3 rfl) dX9_counted_129 ?_
                    refine g_iload G dX9_counted_132 rfl ?_
                    refine g_iald G (q.A 3 rfl) (by first | decide | omega) (q.lt 3 23 rfl (by omega)) (by omega) (q.X 3 23 rfl (by omega)) dX9_counted_134 ?_
                    refine g_iconst (v := (-1)) G dX9_counted_135 (by decide) ?_
                    refine g_icmp_ne (tgt := 143) G dX9_counted_136 (by decide) (fun c_136 => ?_) (fun c_136 => ?_)
                    · have e5 := gct_yes (p := (fun k => decide (¬ mA M 43 k = -1))) (n := t) (decide_eq_true c_136)
                      refine g_iconst (v := nI 1) G dX9_counted_143 (by decide) ?_
                      refine g_iadd G dX9_counted_144 (by first | exact nI_add _ _ | rfl) ?_
                      refine g_istore G dX9_counted_145 (gSt_5 (by first | rfl | exact g_c1_rf)) ?_
                      refine g_iinc (v := _) G dX9_counted_147 rfl (by first | exact nI_1 _ | rfl) (gSt_6 (by first | rfl | exact g_c1_rf)) ?_
                      refine g_goto (tgt := 114) G dX9_counted_150 (by decide) ?_
                      have h9 := ih2 (t + 1) (by omega) (by omega)
                      rw [e5] at h9
                      exact h9
                    · have e5 := gct_no (p := (fun k => decide (¬ mA M 43 k = -1))) (n := t) (decide_eq_false (fun z => z c_136))
                      refine g_iconst (v := nI 0) G dX9_counted_139 (by decide) ?_
                      refine g_goto (tgt := 144) G dX9_counted_140 (by decide) ?_
                      refine g_iadd G dX9_counted_144 (by first | exact nI_add _ _ | rfl) ?_
                      refine g_istore G dX9_counted_145 (gSt_5 (by first | rfl | exact g_c1_rf)) ?_
                      refine g_iinc (v := _) G dX9_counted_147 rfl (by first | exact nI_1 _ | rfl) (gSt_6 (by first | rfl | exact g_c1_rf)) ?_
                      refine g_goto (tgt := 114) G dX9_counted_150 (by decide) ?_
                      have h9 := ih2 (t + 1) (by omega) (by omega)
                      rw [e5] at h9
                      exact h9
              exact loop114 ((mN M 11) + 1) 0 (by omega) (by omega)
            · have hlt2 : t < (mN M 17) := by have z : ¬ (mN M 17) ≤ t := fun z => c_80 ((nI_leI (by omega) (by omega)).mpr z); omega
              refine g_iload G dX9_counted_83 rfl ?_
              first | refine g_aload_n G dX9_counted_85 rfl ?_ | refine g_aload_nN G dX9_counted_85 rfl ?_ | refine g_aload_nQ G dX9_counted_85 rfl ?_
              refine g_getR G fl_X9_49 (r.kd) (by first | decide | omega) rfl (r.Y 19 rfl) dX9_counted_86 ?_
              refine g_iload G dX9_counted_89 rfl ?_
              refine g_iald G (r.A 19 rfl) (by first | decide | omega) (r.lt 19 19 rfl (by omega)) (by omega) (r.X 19 19 rfl rfl (by omega)) dX9_counted_91 ?_
              refine g_bipush (v := (-2)) G dX9_counted_92 (by decide) ?_
              refine g_icmp_ne (tgt := 101) G dX9_counted_94 (by decide) (fun c_94 => ?_) (fun c_94 => ?_)
              · have e4 := gct_no (p := (fun k => decide (mA M 19 k = -2))) (n := t) (decide_eq_false c_94)
                refine g_iconst (v := nI 0) G dX9_counted_101 (by decide) ?_
                refine g_iadd G dX9_counted_102 (by first | exact nI_add _ _ | rfl) ?_
                refine g_istore G dX9_counted_103 (gSt_4 (by first | rfl | exact g_c1_rf)) ?_
                refine g_iinc (v := _) G dX9_counted_105 rfl (by first | exact nI_1 _ | rfl) (gSt_6 (by first | rfl | exact g_c1_rf)) ?_
                refine g_goto (tgt := 74) G dX9_counted_108 (by decide) ?_
                have h9 := ih2 (t + 1) (by omega) (by omega)
                rw [e4] at h9
                exact h9
              · have e4 := gct_yes (p := (fun k => decide (mA M 19 k = -2))) (n := t) (decide_eq_true c_94)
                refine g_iconst (v := nI 1) G dX9_counted_97 (by decide) ?_
                refine g_goto (tgt := 102) G dX9_counted_98 (by decide) ?_
                refine g_iadd G dX9_counted_102 (by first | exact nI_add _ _ | rfl) ?_
                refine g_istore G dX9_counted_103 (gSt_4 (by first | rfl | exact g_c1_rf)) ?_
                refine g_iinc (v := _) G dX9_counted_105 rfl (by first | exact nI_1 _ | rfl) (gSt_6 (by first | rfl | exact g_c1_rf)) ?_
                refine g_goto (tgt := 74) G dX9_counted_108 (by decide) ?_
                have h9 := ih2 (t + 1) (by omega) (by omega)
                rw [e4] at h9
                exact h9
        exact loop74 ((mN M 17) + 1) 0 (by omega) (by omega)
      · have hlt2 : t < (mN M 23) := by have z : ¬ (mN M 23) ≤ t := fun z => c_19 ((nI_leI (by omega) (by omega)).mpr z); omega
        refine g_iload_n G dX9_counted_22 rfl ?_
        first | refine g_aload_n G dX9_counted_23 rfl ?_ | refine g_aload_nN G dX9_counted_23 rfl ?_ | refine g_aload_nQ G dX9_counted_23 rfl ?_
        refine g_getR G fl_X9_75 (r.kd) (by first | decide | omega) rfl (r.st) dX9_counted_24 ?_
        refine g_getRN G fl_X9_185 (q.kd) (by first | decide | omega) rfl (q.Y 6 rfl) dX9_counted_27 ?_
        refine g_iload G dX9_counted_30 rfl ?_
        refine g_iald G (q.A 6 rfl) (by first | decide | omega) (q.lt 6 39 rfl (by omega)) (by omega) (q.X 6 39 rfl (by omega)) dX9_counted_32 ?_
        refine g_if_ne (tgt := 40) G dX9_counted_33 (by decide) (fun c_33 => ?_) (fun c_33 => ?_)
        · have e2 := gct_no (p := (fun k => decide (mA M 46 k = nI 0))) (n := t) (decide_eq_false c_33)
          refine g_iconst (v := nI 0) G dX9_counted_40 (by decide) ?_
          refine g_iadd G dX9_counted_41 (by first | exact nI_add _ _ | rfl) ?_
          refine g_istore_n G dX9_counted_42 (gSt_2 (by first | rfl | exact g_c1_rf)) ?_
          refine g_iload_n G dX9_counted_43 rfl ?_
          first | refine g_aload_n G dX9_counted_44 rfl ?_ | refine g_aload_nN G dX9_counted_44 rfl ?_ | refine g_aload_nQ G dX9_counted_44 rfl ?_
          refine g_getR G fl_X9_75 (r.kd) (by first | decide | omega) rfl (r.st) dX9_counted_45 ?_
          refine g_getRN G fl_X9_185 (q.kd) (by first | decide | omega) rfl (q.Y 6 rfl) dX9_counted_48 ?_
          refine g_iload G dX9_counted_51 rfl ?_
          refine g_iald G (q.A 6 rfl) (by first | decide | omega) (q.lt 6 39 rfl (by omega)) (by omega) (q.X 6 39 rfl (by omega)) dX9_counted_53 ?_
          refine g_iconst (v := nI 1) G dX9_counted_54 (by decide) ?_
          refine g_icmp_ne (tgt := 62) G dX9_counted_55 (by decide) (fun c_55 => ?_) (fun c_55 => ?_)
          · have e3 := gct_no (p := (fun k => decide (mA M 46 k = nI 1))) (n := t) (decide_eq_false c_55)
            refine g_iconst (v := nI 0) G dX9_counted_62 (by decide) ?_
            refine g_iadd G dX9_counted_63 (by first | exact nI_add _ _ | rfl) ?_
            refine g_istore_n G dX9_counted_64 (gSt_3 (by first | rfl | exact g_c1_rf)) ?_
            refine g_iinc (v := _) G dX9_counted_65 rfl (by first | exact nI_1 _ | rfl) (gSt_6 (by first | rfl | exact g_c1_rf)) ?_
            refine g_goto (tgt := 13) G dX9_counted_68 (by decide) ?_
            have h9 := ih2 (t + 1) (by omega) (by omega)
            rw [e2, e3] at h9
            exact h9
          · have e3 := gct_yes (p := (fun k => decide (mA M 46 k = nI 1))) (n := t) (decide_eq_true c_55)
            refine g_iconst (v := nI 1) G dX9_counted_58 (by decide) ?_
            refine g_goto (tgt := 63) G dX9_counted_59 (by decide) ?_
            refine g_iadd G dX9_counted_63 (by first | exact nI_add _ _ | rfl) ?_
            refine g_istore_n G dX9_counted_64 (gSt_3 (by first | rfl | exact g_c1_rf)) ?_
            refine g_iinc (v := _) G dX9_counted_65 rfl (by first | exact nI_1 _ | rfl) (gSt_6 (by first | rfl | exact g_c1_rf)) ?_
            refine g_goto (tgt := 13) G dX9_counted_68 (by decide) ?_
            have h9 := ih2 (t + 1) (by omega) (by omega)
            rw [e2, e3] at h9
            exact h9
        · have e2 := gct_yes (p := (fun k => decide (mA M 46 k = nI 0))) (n := t) (decide_eq_true c_33)
          refine g_iconst (v := nI 1) G dX9_counted_36 (by decide) ?_
          refine g_goto (tgt := 41) G dX9_counted_37 (by decide) ?_
          refine g_iadd G dX9_counted_41 (by first | exact nI_add _ _ | rfl) ?_
          refine g_istore_n G dX9_counted_42 (gSt_2 (by first | rfl | exact g_c1_rf)) ?_
          refine g_iload_n G dX9_counted_43 rfl ?_
          first | refine g_aload_n G dX9_counted_44 rfl ?_ | refine g_aload_nN G dX9_counted_44 rfl ?_ | refine g_aload_nQ G dX9_counted_44 rfl ?_
          refine g_getR G fl_X9_75 (r.kd) (by first | decide | omega) rfl (r.st) dX9_counted_45 ?_
          refine g_getRN G fl_X9_185 (q.kd) (by first | decide | omega) rfl (q.Y 6 rfl) dX9_counted_48 ?_
          refine g_iload G dX9_counted_51 rfl ?_
          refine g_iald G (q.A 6 rfl) (by first | decide | omega) (q.lt 6 39 rfl (by omega)) (by omega) (q.X 6 39 rfl (by omega)) dX9_counted_53 ?_
          refine g_iconst (v := nI 1) G dX9_counted_54 (by decide) ?_
          refine g_icmp_ne (tgt := 62) G dX9_counted_55 (by decide) (fun c_55 => ?_) (fun c_55 => ?_)
          · have e3 := gct_no (p := (fun k => decide (mA M 46 k = nI 1))) (n := t) (decide_eq_false c_55)
            refine g_iconst (v := nI 0) G dX9_counted_62 (by decide) ?_
            refine g_iadd G dX9_counted_63 (by first | exact nI_add _ _ | rfl) ?_
            refine g_istore_n G dX9_counted_64 (gSt_3 (by first | rfl | exact g_c1_rf)) ?_
            refine g_iinc (v := _) G dX9_counted_65 rfl (by first | exact nI_1 _ | rfl) (gSt_6 (by first | rfl | exact g_c1_rf)) ?_
            refine g_goto (tgt := 13) G dX9_counted_68 (by decide) ?_
            have h9 := ih2 (t + 1) (by omega) (by omega)
            rw [e2, e3] at h9
            exact h9
          · have e3 := gct_yes (p := (fun k => decide (mA M 46 k = nI 1))) (n := t) (decide_eq_true c_55)
            refine g_iconst (v := nI 1) G dX9_counted_58 (by decide) ?_
            refine g_goto (tgt := 63) G dX9_counted_59 (by decide) ?_
            refine g_iadd G dX9_counted_63 (by first | exact nI_add _ _ | rfl) ?_
            refine g_istore_n G dX9_counted_64 (gSt_3 (by first | rfl | exact g_c1_rf)) ?_
            refine g_iinc (v := _) G dX9_counted_65 rfl (by first | exact nI_1 _ | rfl) (gSt_6 (by first | rfl | exact g_c1_rf)) ?_
            refine g_goto (tgt := 13) G dX9_counted_68 (by decide) ?_
            have h9 := ih2 (t + 1) (by omega) (by omega)
            rw [e2, e3] at h9
            exact h9
  exact loop13 ((mN M 23) + 1) 0 (by omega) (by omega)
