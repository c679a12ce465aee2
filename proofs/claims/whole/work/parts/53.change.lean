/-! ===== the reference: its faces that change ===== -/
theorem gRef_2 {S : gS} {y : Nat} {b : Nat → Nat → Nat} {M : gM} (n : Nat) (h : gRef S y b M) (hn : n ≤ mN M 2) : gRef (sX S 11 2 y (nI n)) y b (uN M 2 n) :=
  gRef_11 h (fun c z => (Nat.decEq c 2).casesOn (fun z => Or.inr ⟨z, uN_o z⟩) (fun z => Or.inl ⟨z, by rw [z]; exact congrArg nI uN_s.symm⟩)) (Or.inr ⟨by omega, rfl⟩) (fun _ _ => rfl) (fun i hi => uN_o (by omega)) hn (Nat.le_refl _) (Nat.le_refl _) rfl

set_option maxHeartbeats 4000000 in
set_option maxRecDepth 100000 in
theorem c_X9_open (d0 : Nat × Nat) (S : gS) (y : Nat) (b : Nat → Nat → Nat) (M : gM) (h : gRef S y b M) (i : gInv M) (s : Int32) (hw : gWt 9 s) (hn : ¬ mN M 6 = 8) : gCt d0 yX9_open cX9_open 2 (some .int) 10 1 12 [.ref y, .int s] S (gAn S y 0 (mOpen M s) (some (.int (nI (mN M 6))))) gNo := by
  refine gCt_of (lo := [some (.ref y), some (.int s)]) (by decide +kernel) (Nat.le_of_ble_eq_true rfl) (rfl) ?_
  intro Γ hd G F hini
  first | refine g_aload_n G dX9_open_0 rfl ?_ | refine g_aload_nN G dX9_open_0 rfl ?_ | refine g_aload_nQ G dX9_open_0 rfl ?_
  refine g_iconst (v := nI 0) G dX9_open_1 (by decide) ?_
  refine g_putI G fl_X9_91 pu_10_0 (h.1.kd) (by first | decide | omega) rfl dX9_open_2 ?_
  have h0 := gRef_th (v := nI 0) h
  obtain ⟨r, q, -⟩ := id h0
  obtain ⟨i6, i8, i11, i17, i23, i2, i5⟩ := i.b
  refine g_iload_n G dX9_open_5 rfl ?_
  refine g_iconst (v := nI 0) G dX9_open_6 (by decide) ?_
  refine g_bipush (v := nI 9) G dX9_open_7 (by decide) ?_
  refine g_callSp G (c_X9_isIn _ _ _ _ _) mt_X9_isIn ms_X9_isIn ml_X9_97 (by decide) (by omega) (by omega) rfl (Nat.le_of_ble_eq_true rfl) dX9_open_9 ?_
  refine g_if_ne (tgt := 21) G dX9_open_12 (by decide) (fun c_12 => ?_) (fun c_12 => (absurd c_12 (gB_ne0.mpr (decide_eq_true hw))))
  first | refine g_aload_n G dX9_open_21 rfl ?_ | refine g_aload_nN G dX9_open_21 rfl ?_ | refine g_aload_nQ G dX9_open_21 rfl ?_
  refine g_getI G fl_X9_94 (r.kd) (by first | decide | omega) rfl (r.n 6 rfl) dX9_open_22 ?_
  refine g_bipush (v := nI 8) G dX9_open_25 (by decide) ?_
  refine g_icmp_ne (tgt := 36) G dX9_open_27 (by decide) (fun c_27 => ?_) (fun c_27 => (absurd ((nI_eq (b := 8) (by omega) (by omega)).mp c_27) hn))
  first | refine g_aload_n G dX9_open_36 rfl ?_ | refine g_aload_nN G dX9_open_36 rfl ?_ | refine g_aload_nQ G dX9_open_36 rfl ?_
  refine g_getR G fl_X9_20 (r.kd) (by first | decide | omega) rfl (r.Y 7 rfl) dX9_open_37 ?_
  first | refine g_aload_n G dX9_open_40 rfl ?_ | refine g_aload_nN G dX9_open_40 rfl ?_ | refine g_aload_nQ G dX9_open_40 rfl ?_
  refine g_getI G fl_X9_94 (r.kd) (by first | decide | omega) rfl (r.n 6 rfl) dX9_open_41 ?_
  refine g_iload_n G dX9_open_44 rfl ?_
  refine g_iast G (r.A 7 rfl) (by first | decide | omega) (r.lt 7 7 rfl (by omega)) (by omega) (rfl) dX9_open_45 ?_
  have h1 := gRef_A 7 7 (j := mN M 6) (s) h0 rfl rfl (by omega)
  obtain ⟨r1, q1, -⟩ := id h1
  first | refine g_aload_n G dX9_open_46 rfl ?_ | refine g_aload_nN G dX9_open_46 rfl ?_ | refine g_aload_nQ G dX9_open_46 rfl ?_
  refine g_dup G dX9_open_47 rfl ?_
  refine g_getI G fl_X9_94 (r1.kd) (by first | decide | omega) rfl ((show gX _ 11 6 y = nI (mN M 6) from r1.n 6 rfl)) dX9_open_48 ?_
  refine g_iconst (v := nI 1) G dX9_open_51 (by decide) ?_
  refine g_iadd G dX9_open_52 (by first | exact nI_add _ _ | rfl) ?_
  refine g_putI G fl_X9_94 pu_10_6 (r1.kd) (by first | decide | omega) rfl dX9_open_53 ?_
  have h2 := gRef_N 6 (mN M 6 + 1) h1 (by decide)
  obtain ⟨r2, q2, -⟩ := id h2
  first | refine g_aload_n G dX9_open_56 rfl ?_ | refine g_aload_nN G dX9_open_56 rfl ?_ | refine g_aload_nQ G dX9_open_56 rfl ?_
  refine g_getI G fl_X9_94 (r2.kd) (by first | decide | omega) rfl ((show gX _ 11 6 y = nI (mN M 6 + 1) from r2.n 6 rfl)) dX9_open_57 ?_
  refine g_iconst (v := nI 1) G dX9_open_60 (by decide) ?_
  refine g_isub G dX9_open_61 (pk_sub (by omega)) ?_
  exact g_iret G F (⟨rfl, sX_p (by decide) (sX_k (by decide) (sX_s)), b, h2, ((gFr_th).X1 _ _ _ (fun k z => by unfold gCk at z; omega)).X1 _ _ _ (fun k z => by unfold gCk at z; omega)⟩) (by omega) (by omega) dX9_open_62

set_option maxHeartbeats 4000000 in
set_option maxRecDepth 100000 in
theorem c_X9_open_no (d0 : Nat × Nat) (S : gS) (y : Nat) (b : Nat → Nat → Nat) (M : gM) (h : gRef S y b M) (i : gInv M) (s : Int32) (hw : ¬ gLv s) : gCt d0 yX9_open cX9_open 2 (some .int) 10 1 12 [.ref y, .int s] S (gAn S y 1 M (some (.int (nI 0)))) gNo := by
  refine gCt_of (lo := [some (.ref y), some (.int s)]) (by decide +kernel) (Nat.le_of_ble_eq_true rfl) (rfl) ?_
  intro Γ hd G F hini
  first | refine g_aload_n G dX9_open_0 rfl ?_ | refine g_aload_nN G dX9_open_0 rfl ?_ | refine g_aload_nQ G dX9_open_0 rfl ?_
  refine g_iconst (v := nI 0) G dX9_open_1 (by decide) ?_
  refine g_putI G fl_X9_91 pu_10_0 (h.1.kd) (by first | decide | omega) rfl dX9_open_2 ?_
  have h0 := gRef_th (v := nI 0) h
  obtain ⟨r, q, -⟩ := id h0
  obtain ⟨i6, i8, i11, i17, i23, i2, i5⟩ := i.b
  refine g_iload_n G dX9_open_5 rfl ?_
  refine g_iconst (v := nI 0) G dX9_open_6 (by decide) ?_
  refine g_bipush (v := nI 9) G dX9_open_7 (by decide) ?_
  refine g_callSp G (c_X9_isIn _ _ _ _ _) mt_X9_isIn ms_X9_isIn ml_X9_97 (by decide) (by omega) (by omega) rfl (Nat.le_of_ble_eq_true rfl) dX9_open_9 ?_
  refine g_if_ne (tgt := 21) G dX9_open_12 (by decide) (fun c_12 => (absurd (gIn_y c_12) hw)) (fun c_12 => ?_)
  first | refine g_aload_n G dX9_open_15 rfl ?_ | refine g_aload_nN G dX9_open_15 rfl ?_ | refine g_aload_nQ G dX9_open_15 rfl ?_
  refine g_iconst (v := nI 1) G dX9_open_16 (by decide) ?_
  refine g_callV (ci := 10) G (c_X9_no _ _ _ _ r.kd) mt_X9_no mi_X9_no ml_X9_113 (r.kd) (by first | decide | omega) rfl (by decide) (by omega) (by omega) rfl (Nat.le_of_ble_eq_true rfl) dX9_open_17 (fun v_17 S_17 hp_17 => ?_)
  obtain ⟨rfl, rfl⟩ := hp_17
  simp only [Option.toList, List.cons_append, List.nil_append]
  exact g_iret G F (gAn_N 1 h) (by omega) (by omega) dX9_open_20

set_option maxHeartbeats 4000000 in
set_option maxRecDepth 100000 in
theorem c_X9_open_no2 (d0 : Nat × Nat) (S : gS) (y : Nat) (b : Nat → Nat → Nat) (M : gM) (h : gRef S y b M) (i : gInv M) (s : Int32) (hw : gWt 9 s) (hn : mN M 6 = 8) : gCt d0 yX9_open cX9_open 2 (some .int) 10 1 12 [.ref y, .int s] S (gAn S y 2 M (some (.int (nI 0)))) gNo := by
  refine gCt_of (lo := [some (.ref y), some (.int s)]) (by decide +kernel) (Nat.le_of_ble_eq_true rfl) (rfl) ?_
  intro Γ hd G F hini
  first | refine g_aload_n G dX9_open_0 rfl ?_ | refine g_aload_nN G dX9_open_0 rfl ?_ | refine g_aload_nQ G dX9_open_0 rfl ?_
  refine g_iconst (v := nI 0) G dX9_open_1 (by decide) ?_
  refine g_putI G fl_X9_91 pu_10_0 (h.1.kd) (by first | decide | omega) rfl dX9_open_2 ?_
  have h0 := gRef_th (v := nI 0) h
  obtain ⟨r, q, -⟩ := id h0
  obtain ⟨i6, i8, i11, i17, i23, i2, i5⟩ := i.b
  refine g_iload_n G dX9_open_5 rfl ?_
  refine g_iconst (v := nI 0) G dX9_open_6 (by decide) ?_
  refine g_bipush (v := nI 9) G dX9_open_7 (by decide) ?_
  refine g_callSp G (c_X9_isIn _ _ _ _ _) mt_X9_isIn ms_X9_isIn ml_X9_97 (by decide) (by omega) (by omega) rfl (Nat.le_of_ble_eq_true rfl) dX9_open_9 ?_
  refine g_if_ne (tgt := 21) G dX9_open_12 (by decide) (fun c_12 => ?_) (fun c_12 => (absurd c_12 (gB_ne0.mpr (decide_eq_true hw))))
  first | refine g_aload_n G dX9_open_21 rfl ?_ | refine g_aload_nN G dX9_open_21 rfl ?_ | refine g_aload_nQ G dX9_open_21 rfl ?_
  refine g_getI G fl_X9_94 (r.kd) (by first | decide | omega) rfl (r.n 6 rfl) dX9_open_22 ?_
  refine g_bipush (v := nI 8) G dX9_open_25 (by decide) ?_
  refine g_icmp_ne (tgt := 36) G dX9_open_27 (by decide) (fun c_27 => (absurd (by rw [hn]) c_27)) (fun c_27 => ?_)
  first | refine g_aload_n G dX9_open_30 rfl ?_ | refine g_aload_nN G dX9_open_30 rfl ?_ | refine g_aload_nQ G dX9_open_30 rfl ?_
  refine g_iconst (v := nI 2) G dX9_open_31 (by decide) ?_
  refine g_callV (ci := 10) G (c_X9_no _ _ _ _ r.kd) mt_X9_no mi_X9_no ml_X9_113 (r.kd) (by first | decide | omega) rfl (by decide) (by omega) (by omega) rfl (Nat.le_of_ble_eq_true rfl) dX9_open_32 (fun v_32 S_32 hp_32 => ?_)
  obtain ⟨rfl, rfl⟩ := hp_32
  simp only [Option.toList, List.cons_append, List.nil_append]
  exact g_iret G F (gAn_N 2 h) (by omega) (by omega) dX9_open_35

set_option maxHeartbeats 4000000 in
set_option maxRecDepth 100000 in
theorem c_X9_seal (d0 : Nat × Nat) (S : gS) (y : Nat) (b : Nat → Nat → Nat) (M : gM) (h : gRef S y b M) (i : gInv M) (c : Nat) (s : Int32) (hc : c < mN M 6) (hw : gWt 9 s) : gCt d0 yX9_seal cX9_seal 4 (some .int) 10 1 12 [.ref y, .int (nI c), .int s] S (gAn S y 0 (uA M 7 c s) (some (.int (mA M 7 c)))) gNo := by
  refine gCt_of (lo := [some (.ref y), some (.int (nI c)), some (.int s), none]) (by decide +kernel) (Nat.le_of_ble_eq_true rfl) (rfl) ?_
  intro Γ hd G F hini
  first | refine g_aload_n G dX9_seal_0 rfl ?_ | refine g_aload_nN G dX9_seal_0 rfl ?_ | refine g_aload_nQ G dX9_seal_0 rfl ?_
  refine g_iconst (v := nI 0) G dX9_seal_1 (by decide) ?_
  refine g_putI G fl_X9_91 pu_10_0 (h.1.kd) (by first | decide | omega) rfl dX9_seal_2 ?_
  have h0 := gRef_th (v := nI 0) h
  obtain ⟨r, q, -⟩ := id h0
  obtain ⟨i6, i8, i11, i17, i23, i2, i5⟩ := i.b
  first | refine g_aload_n G dX9_seal_5 rfl ?_ | refine g_aload_nN G dX9_seal_5 rfl ?_ | refine g_aload_nQ G dX9_seal_5 rfl ?_
  refine g_iload_n G dX9_seal_6 rfl ?_
  refine g_callVp (ci := 10) G (c_X9_isCase _ _ _ _ _ r i _) mt_X9_isCase mi_X9_isCase ml_X9_147 (r.kd) (by first | decide | omega) rfl (by decide) (by omega) (by omega) rfl (Nat.le_of_ble_eq_true rfl) dX9_seal_7 ?_
  refine g_if_ne (tgt := 19) G dX9_seal_10 (by decide) (fun c_10 => ?_) (fun c_10 => (absurd c_10 (gIxB_ok hc (by omega))))
  refine g_iload_n G dX9_seal_19 rfl ?_
  refine g_iconst (v := nI 0) G dX9_seal_20 (by decide) ?_
  refine g_bipush (v := nI 9) G dX9_seal_21 (by decide) ?_
  refine g_callSp G (c_X9_isIn _ _ _ _ _) mt_X9_isIn ms_X9_isIn ml_X9_97 (by decide) (by omega) (by omega) rfl (Nat.le_of_ble_eq_true rfl) dX9_seal_23 ?_
  refine g_if_ne (tgt := 35) G dX9_seal_26 (by decide) (fun c_26 => ?_) (fun c_26 => (absurd c_26 (gB_ne0.mpr (decide_eq_true hw))))
  first | refine g_aload_n G dX9_seal_35 rfl ?_ | refine g_aload_nN G dX9_seal_35 rfl ?_ | refine g_aload_nQ G dX9_seal_35 rfl ?_
  refine g_getR G fl_X9_20 (r.kd) (by first | decide | omega) rfl (r.Y 7 rfl) dX9_seal_36 ?_
  refine g_iload_n G dX9_seal_39 rfl ?_
  refine g_iald G (r.A 7 rfl) (by first | decide | omega) (r.lt 7 7 rfl (by omega)) (by omega) (r.X 7 7 rfl rfl (by omega)) dX9_seal_40 ?_
  refine g_istore_n G dX9_seal_41 (gSt_3 (by first | rfl | exact g_c1_rf)) ?_
  first | refine g_aload_n G dX9_seal_42 rfl ?_ | refine g_aload_nN G dX9_seal_42 rfl ?_ | refine g_aload_nQ G dX9_seal_42 rfl ?_
  refine g_getR G fl_X9_20 (r.kd) (by first | decide | omega) rfl (r.Y 7 rfl) dX9_seal_43 ?_
  refine g_iload_n G dX9_seal_46 rfl ?_
  refine g_iload_n G dX9_seal_47 rfl ?_
  refine g_iast G (r.A 7 rfl) (by first | decide | omega) (r.lt 7 7 rfl (by omega)) (by omega) (rfl) dX9_seal_48 ?_
  have h1 := gRef_A 7 7 (j := c) (s) h0 rfl rfl (by omega)
  obtain ⟨r1, q1, -⟩ := id h1
  refine g_iload_n G dX9_seal_49 rfl ?_
  exact g_iret G F (⟨rfl, sX_k (by decide) (sX_s), b, h1, (gFr_th).X1 _ _ _ (fun k z => by unfold gCk at z; omega)⟩) (by omega) (by omega) dX9_seal_50

set_option maxHeartbeats 4000000 in
set_option maxRecDepth 100000 in
theorem c_X9_seal_no (d0 : Nat × Nat) (S : gS) (y : Nat) (b : Nat → Nat → Nat) (M : gM) (h : gRef S y b M) (i : gInv M) (i9 s : Int32) (hno : ¬ gIx (mN M 6) i9) : gCt d0 yX9_seal cX9_seal 4 (some .int) 10 1 12 [.ref y, .int i9, .int s] S (gAn S y 1 M (some (.int (nI 0)))) gNo := by
  refine gCt_of (lo := [some (.ref y), some (.int i9), some (.int s), none]) (by decide +kernel) (Nat.le_of_ble_eq_true rfl) (rfl) ?_
  intro Γ hd G F hini
  first | refine g_aload_n G dX9_seal_0 rfl ?_ | refine g_aload_nN G dX9_seal_0 rfl ?_ | refine g_aload_nQ G dX9_seal_0 rfl ?_
  refine g_iconst (v := nI 0) G dX9_seal_1 (by decide) ?_
  refine g_putI G fl_X9_91 pu_10_0 (h.1.kd) (by first | decide | omega) rfl dX9_seal_2 ?_
  have h0 := gRef_th (v := nI 0) h
  obtain ⟨r, q, -⟩ := id h0
  obtain ⟨i6, i8, i11, i17, i23, i2, i5⟩ := i.b
  first | refine g_aload_n G dX9_seal_5 rfl ?_ | refine g_aload_nN G dX9_seal_5 rfl ?_ | refine g_aload_nQ G dX9_seal_5 rfl ?_
  refine g_iload_n G dX9_seal_6 rfl ?_
  refine g_callVp (ci := 10) G (c_X9_isCase _ _ _ _ _ r i _) mt_X9_isCase mi_X9_isCase ml_X9_147 (r.kd) (by first | decide | omega) rfl (by decide) (by omega) (by omega) rfl (Nat.le_of_ble_eq_true rfl) dX9_seal_7 ?_
  refine g_if_ne (tgt := 19) G dX9_seal_10 (by decide) (fun c_10 => (absurd (gIxB_y c_10) hno)) (fun c_10 => ?_)
  first | refine g_aload_n G dX9_seal_13 rfl ?_ | refine g_aload_nN G dX9_seal_13 rfl ?_ | refine g_aload_nQ G dX9_seal_13 rfl ?_
  refine g_iconst (v := nI 1) G dX9_seal_14 (by decide) ?_
  refine g_callV (ci := 10) G (c_X9_no _ _ _ _ r.kd) mt_X9_no mi_X9_no ml_X9_113 (r.kd) (by first | decide | omega) rfl (by decide) (by omega) (by omega) rfl (Nat.le_of_ble_eq_true rfl) dX9_seal_15 (fun v_15 S_15 hp_15 => ?_)
  obtain ⟨rfl, rfl⟩ := hp_15
  simp only [Option.toList, List.cons_append, List.nil_append]
  exact g_iret G F (gAn_N 1 h) (by omega) (by omega) dX9_seal_18

set_option maxHeartbeats 4000000 in
set_option maxRecDepth 100000 in
theorem c_X9_seal_no2 (d0 : Nat × Nat) (S : gS) (y : Nat) (b : Nat → Nat → Nat) (M : gM) (h : gRef S y b M) (i : gInv M) (c : Nat) (s : Int32) (hc : c < mN M 6) (hw : ¬ gLv s) : gCt d0 yX9_seal cX9_seal 4 (some .int) 10 1 12 [.ref y, .int (nI c), .int s] S (gAn S y 2 M (some (.int (nI 0)))) gNo := by
  refine gCt_of (lo := [some (.ref y), some (.int (nI c)), some (.int s), none]) (by decide +kernel) (Nat.le_of_ble_eq_true rfl) (rfl) ?_
  intro Γ hd G F hini
  first | refine g_aload_n G dX9_seal_0 rfl ?_ | refine g_aload_nN G dX9_seal_0 rfl ?_ | refine g_aload_nQ G dX9_seal_0 rfl ?_
  refine g_iconst (v := nI 0) G dX9_seal_1 (by decide) ?_
  refine g_putI G fl_X9_91 pu_10_0 (h.1.kd) (by first | decide | omega) rfl dX9_seal_2 ?_
  have h0 := gRef_th (v := nI 0) h
  obtain ⟨r, q, -⟩ := id h0
  obtain ⟨i6, i8, i11, i17, i23, i2, i5⟩ := i.b
  first | refine g_aload_n G dX9_seal_5 rfl ?_ | refine g_aload_nN G dX9_seal_5 rfl ?_ | refine g_aload_nQ G dX9_seal_5 rfl ?_
  refine g_iload_n G dX9_seal_6 rfl ?_
  refine g_callVp (ci := 10) G (c_X9_isCase _ _ _ _ _ r i _) mt_X9_isCase mi_X9_isCase ml_X9_147 (r.kd) (by first | decide | omega) rfl (by decide) (by omega) (by omega) rfl (Nat.le_of_ble_eq_true rfl) dX9_seal_7 ?_
  refine g_if_ne (tgt := 19) G dX9_seal_10 (by decide) (fun c_10 => ?_) (fun c_10 => (absurd c_10 (gIxB_ok hc (by omega))))
  refine g_iload_n G dX9_seal_19 rfl ?_
  refine g_iconst (v := nI 0) G dX9_seal_20 (by decide) ?_
  refine g_bipush (v := nI 9) G dX9_seal_21 (by decide) ?_
  refine g_callSp G (c_X9_isIn _ _ _ _ _) mt_X9_isIn ms_X9_isIn ml_X9_97 (by decide) (by omega) (by omega) rfl (Nat.le_of_ble_eq_true rfl) dX9_seal_23 ?_
  refine g_if_ne (tgt := 35) G dX9_seal_26 (by decide) (fun c_26 => (absurd (gIn_y c_26) hw)) (fun c_26 => ?_)
  first | refine g_aload_n G dX9_seal_29 rfl ?_ | refine g_aload_nN G dX9_seal_29 rfl ?_ | refine g_aload_nQ G dX9_seal_29 rfl ?_
  refine g_iconst (v := nI 2) G dX9_seal_30 (by decide) ?_
  refine g_callV (ci := 10) G (c_X9_no _ _ _ _ r.kd) mt_X9_no mi_X9_no ml_X9_113 (r.kd) (by first | decide | omega) rfl (by decide) (by omega) (by omega) rfl (Nat.le_of_ble_eq_true rfl) dX9_seal_31 (fun v_31 S_31 hp_31 => ?_)
  obtain ⟨rfl, rfl⟩ := hp_31
  simp only [Option.toList, List.cons_append, List.nil_append]
  exact g_iret G F (gAn_N 2 h) (by omega) (by omega) dX9_seal_34

set_option maxHeartbeats 4000000 in
set_option maxRecDepth 100000 in
theorem c_X9_addPerson (d0 : Nat × Nat) (S : gS) (y : Nat) (b : Nat → Nat → Nat) (M : gM) (h : gRef S y b M) (i : gInv M) (v s : Int32) (hv : gWt 3 v) (hw : gWt 9 s) (hn : ¬ mN M 8 = 12) : gCt d0 yX9_addPerson cX9_addPerson 3 (some .int) 10 1 12 [.ref y, .int v, .int s] S (gAn S y 0 (mAddP M v s) (some (.int (nI (mN M 8))))) gNo := by
  refine gCt_of (lo := [some (.ref y), some (.int v), some (.int s)]) (by decide +kernel) (Nat.le_of_ble_eq_true rfl) (rfl) ?_
  intro Γ hd G F hini
  first | refine g_aload_n G dX9_addPerson_0 rfl ?_ | refine g_aload_nN G dX9_addPerson_0 rfl ?_ | refine g_aload_nQ G dX9_addPerson_0 rfl ?_
  refine g_iconst (v := nI 0) G dX9_addPerson_1 (by decide) ?_
  refine g_putI G fl_X9_91 pu_10_0 (h.1.kd) (by first | decide | omega) rfl dX9_addPerson_2 ?_
  have h0 := gRef_th (v := nI 0) h
  obtain ⟨r, q, -⟩ := id h0
  obtain ⟨i6, i8, i11, i17, i23, i2, i5⟩ := i.b
  refine g_iload_n G dX9_addPerson_5 rfl ?_
  refine g_iconst (v := nI 0) G dX9_addPerson_6 (by decide) ?_
  refine g_iconst (v := nI 3) G dX9_addPerson_7 (by decide) ?_
  refine g_callSp G (c_X9_isIn _ _ _ _ _) mt_X9_isIn ms_X9_isIn ml_X9_97 (by decide) (by omega) (by omega) rfl (Nat.le_of_ble_eq_true rfl) dX9_addPerson_8 ?_
  refine g_if_eq (tgt := 24) G dX9_addPerson_11 (by decide) (fun c_11 => (absurd c_11 (gB_ne0.mpr (decide_eq_true hv)))) (fun c_11 => ?_)
  refine g_iload_n G dX9_addPerson_14 rfl ?_
  refine g_iconst (v := nI 0) G dX9_addPerson_15 (by decide) ?_
  refine g_bipush (v := nI 9) G dX9_addPerson_16 (by decide) ?_
  refine g_callSp G (c_X9_isIn _ _ _ _ _) mt_X9_isIn ms_X9_isIn ml_X9_97 (by decide) (by omega) (by omega) rfl (Nat.le_of_ble_eq_true rfl) dX9_addPerson_18 ?_
  refine g_if_ne (tgt := 30) G dX9_addPerson_21 (by decide) (fun c_21 => ?_) (fun c_21 => (absurd c_21 (gB_ne0.mpr (decide_eq_true hw))))
  first | refine g_aload_n G dX9_addPerson_30 rfl ?_ | refine g_aload_nN G dX9_addPerson_30 rfl ?_ | refine g_aload_nQ G dX9_addPerson_30 rfl ?_
  refine g_getI G fl_X9_101 (r.kd) (by first | decide | omega) rfl (r.n 8 rfl) dX9_addPerson_31 ?_
  refine g_bipush (v := nI 12) G dX9_addPerson_34 (by decide) ?_
  refine g_icmp_ne (tgt := 45) G dX9_addPerson_36 (by decide) (fun c_36 => ?_) (fun c_36 => (absurd ((nI_eq (b := 12) (by omega) (by omega)).mp c_36) hn))
  first | refine g_aload_n G dX9_addPerson_45 rfl ?_ | refine g_aload_nN G dX9_addPerson_45 rfl ?_ | refine g_aload_nQ G dX9_addPerson_45 rfl ?_
  refine g_getR G fl_X9_23 (r.kd) (by first | decide | omega) rfl (r.Y 9 rfl) dX9_addPerson_46 ?_
  first | refine g_aload_n G dX9_addPerson_49 rfl ?_ | refine g_aload_nN G dX9_addPerson_49 rfl ?_ | refine g_aload_nQ G dX9_addPerson_49 rfl ?_
  refine g_getI G fl_X9_101 (r.kd) (by first | decide | omega) rfl (r.n 8 rfl) dX9_addPerson_50 ?_
  refine g_iload_n G dX9_addPerson_53 rfl ?_
  refine g_iast G (r.A 9 rfl) (by first | decide | omega) (r.lt 9 11 rfl (by omega)) (by omega) (rfl) dX9_addPerson_54 ?_
  have h1 := gRef_A 9 11 (j := mN M 8) (v) h0 rfl rfl (by omega)
  obtain ⟨r1, q1, -⟩ := id h1
  first | refine g_aload_n G dX9_addPerson_55 rfl ?_ | refine g_aload_nN G dX9_addPerson_55 rfl ?_ | refine g_aload_nQ G dX9_addPerson_55 rfl ?_
  refine g_getR G fl_X9_75 (r1.kd) (by first | decide | omega) rfl (r1.st) dX9_addPerson_56 ?_
  refine g_getRN G fl_X9_173 (q1.kd) (by first | decide | omega) rfl (q1.Y 1 rfl) dX9_addPerson_59 ?_
  first | refine g_aload_n G dX9_addPerson_62 rfl ?_ | refine g_aload_nN G dX9_addPerson_62 rfl ?_ | refine g_aload_nQ G dX9_addPerson_62 rfl ?_
  refine g_getI G fl_X9_101 (r1.kd) (by first | decide | omega) rfl ((show gX _ 11 8 y = nI (mN M 8) from r1.n 8 rfl)) dX9_addPerson_63 ?_
  refine g_iload_n G dX9_addPerson_66 rfl ?_
  refine g_iast G (q1.A 1 rfl) (by first | decide | omega) (q1.lt 1 11 rfl (by omega)) (by omega) (rfl) dX9_addPerson_67 ?_
  have h2 := gRef_S 1 11 (j := mN M 8) (s) h1 rfl (by omega)
  obtain ⟨r2, q2, -⟩ := id h2
  first | refine g_aload_n G dX9_addPerson_68 rfl ?_ | refine g_aload_nN G dX9_addPerson_68 rfl ?_ | refine g_aload_nQ G dX9_addPerson_68 rfl ?_
  refine g_dup G dX9_addPerson_69 rfl ?_
  refine g_getI G fl_X9_101 (r2.kd) (by first | decide | omega) rfl ((show gX _ 11 8 y = nI (mN M 8) from r2.n 8 rfl)) dX9_addPerson_70 ?_
  refine g_iconst (v := nI 1) G dX9_addPerson_73 (by decide) ?_
  refine g_iadd G dX9_addPerson_74 (by first | exact nI_add _ _ | rfl) ?_
  refine g_putI G fl_X9_101 pu_10_8 (r2.kd) (by first | decide | omega) rfl dX9_addPerson_75 ?_
  have h3 := gRef_N 8 (mN M 8 + 1) h2 (by decide)
  obtain ⟨r3, q3, -⟩ := id h3
  first | refine g_aload_n G dX9_addPerson_78 rfl ?_ | refine g_aload_nN G dX9_addPerson_78 rfl ?_ | refine g_aload_nQ G dX9_addPerson_78 rfl ?_
  refine g_getI G fl_X9_101 (r3.kd) (by first | decide | omega) rfl ((show gX _ 11 8 y = nI (mN M 8 + 1) from r3.n 8 rfl)) dX9_addPerson_79 ?_
  refine g_iconst (v := nI 1) G dX9_addPerson_82 (by decide) ?_
  refine g_isub G dX9_addPerson_83 (pk_sub (by omega)) ?_
  exact g_iret G F (⟨rfl, sX_p (by decide) (sX_k (by decide) (sX_k (by decide) (sX_s))), b, h3, (((gFr_th).X1 _ _ _ (fun k z => by unfold gCk at z; omega)).X1 _ _ _ (fun k z => by unfold gCk at z; omega)).X1 _ _ _ (fun k z => by unfold gCk at z; omega)⟩) (by omega) (by omega) dX9_addPerson_84

set_option maxHeartbeats 4000000 in
set_option maxRecDepth 100000 in
theorem c_X9_addPerson_no (d0 : Nat × Nat) (S : gS) (y : Nat) (b : Nat → Nat → Nat) (M : gM) (h : gRef S y b M) (i : gInv M) (v s : Int32) (hw : ¬ ((0 ≤ v ∧ v ≤ nI 3) ∧ gLv s)) : gCt d0 yX9_addPerson cX9_addPerson 3 (some .int) 10 1 12 [.ref y, .int v, .int s] S (gAn S y 1 M (some (.int (nI 0)))) gNo := by
  refine gCt_of (lo := [some (.ref y), some (.int v), some (.int s)]) (by decide +kernel) (Nat.le_of_ble_eq_true rfl) (rfl) ?_
  intro Γ hd G F hini
  first | refine g_aload_n G dX9_addPerson_0 rfl ?_ | refine g_aload_nN G dX9_addPerson_0 rfl ?_ | refine g_aload_nQ G dX9_addPerson_0 rfl ?_
  refine g_iconst (v := nI 0) G dX9_addPerson_1 (by decide) ?_
  refine g_putI G fl_X9_91 pu_10_0 (h.1.kd) (by first | decide | omega) rfl dX9_addPerson_2 ?_
  have h0 := gRef_th (v := nI 0) h
  obtain ⟨r, q, -⟩ := id h0
  obtain ⟨i6, i8, i11, i17, i23, i2, i5⟩ := i.b
  refine g_iload_n G dX9_addPerson_5 rfl ?_
  refine g_iconst (v := nI 0) G dX9_addPerson_6 (by decide) ?_
  refine g_iconst (v := nI 3) G dX9_addPerson_7 (by decide) ?_
  refine g_callSp G (c_X9_isIn _ _ _ _ _) mt_X9_isIn ms_X9_isIn ml_X9_97 (by decide) (by omega) (by omega) rfl (Nat.le_of_ble_eq_true rfl) dX9_addPerson_8 ?_
  refine g_if_eq (tgt := 24) G dX9_addPerson_11 (by decide) (fun c_11 => ?_) (fun c_11 => ?_)
  · first | refine g_aload_n G dX9_addPerson_24 rfl ?_ | refine g_aload_nN G dX9_addPerson_24 rfl ?_ | refine g_aload_nQ G dX9_addPerson_24 rfl ?_
    refine g_iconst (v := nI 1) G dX9_addPerson_25 (by decide) ?_
    refine g_callV (ci := 10) G (c_X9_no _ _ _ _ r.kd) mt_X9_no mi_X9_no ml_X9_113 (r.kd) (by first | decide | omega) rfl (by decide) (by omega) (by omega) rfl (Nat.le_of_ble_eq_true rfl) dX9_addPerson_26 (fun v_26 S_26 hp_26 => ?_)
    obtain ⟨rfl, rfl⟩ := hp_26
    simp only [Option.toList, List.cons_append, List.nil_append]
    exact g_iret G F (gAn_N 1 h) (by omega) (by omega) dX9_addPerson_29
  · refine g_iload_n G dX9_addPerson_14 rfl ?_
    refine g_iconst (v := nI 0) G dX9_addPerson_15 (by decide) ?_
    refine g_bipush (v := nI 9) G dX9_addPerson_16 (by decide) ?_
    refine g_callSp G (c_X9_isIn _ _ _ _ _) mt_X9_isIn ms_X9_isIn ml_X9_97 (by decide) (by omega) (by omega) rfl (Nat.le_of_ble_eq_true rfl) dX9_addPerson_18 ?_
    refine g_if_ne (tgt := 30) G dX9_addPerson_21 (by decide) (fun c_21 => (absurd ⟨gIn_y c_11, gIn_y c_21⟩ hw)) (fun c_21 => ?_)
    first | refine g_aload_n G dX9_addPerson_24 rfl ?_ | refine g_aload_nN G dX9_addPerson_24 rfl ?_ | refine g_aload_nQ G dX9_addPerson_24 rfl ?_
    refine g_iconst (v := nI 1) G dX9_addPerson_25 (by decide) ?_
    refine g_callV (ci := 10) G (c_X9_no _ _ _ _ r.kd) mt_X9_no mi_X9_no ml_X9_113 (r.kd) (by first | decide | omega) rfl (by decide) (by omega) (by omega) rfl (Nat.le_of_ble_eq_true rfl) dX9_addPerson_26 (fun v_26 S_26 hp_26 => ?_)
    obtain ⟨rfl, rfl⟩ := hp_26
    simp only [Option.toList, List.cons_append, List.nil_append]
    exact g_iret G F (gAn_N 1 h) (by omega) (by omega) dX9_addPerson_29

set_option maxHeartbeats 4000000 in
set_option maxRecDepth 100000 in
theorem c_X9_addPerson_no2 (d0 : Nat × Nat) (S : gS) (y : Nat) (b : Nat → Nat → Nat) (M : gM) (h : gRef S y b M) (i : gInv M) (v s : Int32) (hv : gWt 3 v) (hw : gWt 9 s) (hn : mN M 8 = 12) : gCt d0 yX9_addPerson cX9_addPerson 3 (some .int) 10 1 12 [.ref y, .int v, .int s] S (gAn S y 2 M (some (.int (nI 0)))) gNo := by
  refine gCt_of (lo := [some (.ref y), some (.int v), some (.int s)]) (by decide +kernel) (Nat.le_of_ble_eq_true rfl) (rfl) ?_
  intro Γ hd G F hini
  first | refine g_aload_n G dX9_addPerson_0 rfl ?_ | refine g_aload_nN G dX9_addPerson_0 rfl ?_ | refine g_aload_nQ G dX9_addPerson_0 rfl ?_
  refine g_iconst (v := nI 0) G dX9_addPerson_1 (by decide) ?_
  refine g_putI G fl_X9_91 pu_10_0 (h.1.kd) (by first | decide | omega) rfl dX9_addPerson_2 ?_
  have h0 := gRef_th (v := nI 0) h
  obtain ⟨r, q, -⟩ := id h0
  obtain ⟨i6, i8, i11, i17, i23, i2, i5⟩ := i.b
  refine g_iload_n G dX9_addPerson_5 rfl ?_
  refine g_iconst (v := nI 0) G dX9_addPerson_6 (by decide) ?_
  refine g_iconst (v := nI 3) G dX9_addPerson_7 (by decide) ?_
  refine g_callSp G (c_X9_isIn _ _ _ _ _) mt_X9_isIn ms_X9_isIn ml_X9_97 (by decide) (by omega) (by omega) rfl (Nat.le_of_ble_eq_true rfl) dX9_addPerson_8 ?_
  refine g_if_eq (tgt := 24) G dX9_addPerson_11 (by decide) (fun c_11 => (absurd c_11 (gB_ne0.mpr (decide_eq_true hv)))) (fun c_11 => ?_)
  refine g_iload_n G dX9_addPerson_14 rfl ?_
  refine g_iconst (v := nI 0) G dX9_addPerson_15 (by decide) ?_
  refine g_bipush (v := nI 9) G dX9_addPerson_16 (by decide) ?_
  refine g_callSp G (c_X9_isIn _ _ _ _ _) mt_X9_isIn ms_X9_isIn ml_X9_97 (by decide) (by omega) (by omega) rfl (Nat.le_of_ble_eq_true rfl) dX9_addPerson_18 ?_
  refine g_if_ne (tgt := 30) G dX9_addPerson_21 (by decide) (fun c_21 => ?_) (fun c_21 => (absurd c_21 (gB_ne0.mpr (decide_eq_true hw))))
  first | refine g_aload_n G dX9_addPerson_30 rfl ?_ | refine g_aload_nN G dX9_addPerson_30 rfl ?_ | refine g_aload_nQ G dX9_addPerson_30 rfl ?_
  refine g_getI G fl_X9_101 (r.kd) (by first | decide | omega) rfl (r.n 8 rfl) dX9_addPerson_31 ?_
  refine g_bipush (v := nI 12) G dX9_addPerson_34 (by decide) ?_
  refine g_icmp_ne (tgt := 45) G dX9_addPerson_36 (by decide) (fun c_36 => (absurd (by rw [hn]) c_36)) (fun c_36 => ?_)
  first | refine g_aload_n G dX9_addPerson_39 rfl ?_ | refine g_aload_nN G dX9_addPerson_39 rfl ?_ | refine g_aload_nQ G dX9_addPerson_39 rfl ?_
  refine g_iconst (v := nI 2) G dX9_addPerson_40 (by decide) ?_
  refine g_callV (ci := 10) G (c_X9_no _ _ _ _ r.kd) mt_X9_no mi_X9_no ml_X9_113 (r.kd) (by first | decide | omega) rfl (by decide) (by omega) (by omega) rfl (Nat.le_of_ble_eq_true rfl) dX9_addPerson_41 (fun v_41 S_41 hp_41 => ?_)
  obtain ⟨rfl, rfl⟩ := hp_41
  simp only [Option.toList, List.cons_append, List.nil_append]
  exact g_iret G F (gAn_N 2 h) (by omega) (by omega) dX9_addPerson_44

set_option maxHeartbeats 4000000 in
set_option maxRecDepth 100000 in
theorem c_X9_attach (d0 : Nat × Nat) (S : gS) (y : Nat) (b : Nat → Nat → Nat) (M : gM) (h : gRef S y b M) (i : gInv M) (p c : Nat) (hp : p < mN M 8) (hc : c < mN M 6) : gCt d0 yX9_attach cX9_attach 3 (some .boolean) 10 1 12 [.ref y, .int (nI p), .int (nI c)] S (gAn S y 0 (mAtt M p c) (some (.int (gB (gBit (mA (mAtt M p c) 10 p) c))))) gNo := by
  refine gCt_of (lo := [some (.ref y), some (.int (nI p)), some (.int (nI c))]) (by decide +kernel) (Nat.le_of_ble_eq_true rfl) (rfl) ?_
  intro Γ hd G F hini
  first | refine g_aload_n G dX9_attach_0 rfl ?_ | refine g_aload_nN G dX9_attach_0 rfl ?_ | refine g_aload_nQ G dX9_attach_0 rfl ?_
  refine g_iconst (v := nI 0) G dX9_attach_1 (by decide) ?_
  refine g_putI G fl_X9_91 pu_10_0 (h.1.kd) (by first | decide | omega) rfl dX9_attach_2 ?_
  have h0 := gRef_th (v := nI 0) h
  obtain ⟨r, q, -⟩ := id h0
  obtain ⟨i6, i8, i11, i17, i23, i2, i5⟩ := i.b
  first | refine g_aload_n G dX9_attach_5 rfl ?_ | refine g_aload_nN G dX9_attach_5 rfl ?_ | refine g_aload_nQ G dX9_attach_5 rfl ?_
  refine g_iload_n G dX9_attach_6 rfl ?_
  refine g_callVp (ci := 10) G (c_X9_isPerson _ _ _ _ _ r i _) mt_X9_isPerson mi_X9_isPerson ml_X9_176 (r.kd) (by first | decide | omega) rfl (by decide) (by omega) (by omega) rfl (Nat.le_of_ble_eq_true rfl) dX9_attach_7 ?_
  refine g_if_eq (tgt := 21) G dX9_attach_10 (by decide) (fun c_10 => (absurd c_10 (gIxB_ok hp (by omega)))) (fun c_10 => ?_)
  first | refine g_aload_n G dX9_attach_13 rfl ?_ | refine g_aload_nN G dX9_attach_13 rfl ?_ | refine g_aload_nQ G dX9_attach_13 rfl ?_
  refine g_iload_n G dX9_attach_14 rfl ?_
  refine g_callVp (ci := 10) G (c_X9_isCase _ _ _ _ _ r i _) mt_X9_isCase mi_X9_isCase ml_X9_147 (r.kd) (by first | decide | omega) rfl (by decide) (by omega) (by omega) rfl (Nat.le_of_ble_eq_true rfl) dX9_attach_15 ?_
  refine g_if_ne (tgt := 35) G dX9_attach_18 (by decide) (fun c_18 => ?_) (fun c_18 => (absurd c_18 (gIxB_ok hc (by omega))))
  first | refine g_aload_n G dX9_attach_35 rfl ?_ | refine g_aload_nN G dX9_attach_35 rfl ?_ | refine g_aload_nQ G dX9_attach_35 rfl ?_
  refine g_getR G fl_X9_26 (r.kd) (by first | decide | omega) rfl (r.Y 10 rfl) dX9_attach_36 ?_
  refine g_iload_n G dX9_attach_39 rfl ?_
  refine g_dup2 G dX9_attach_40 rfl rfl ?_
  refine g_iald G (r.A 10 rfl) (by first | decide | omega) (r.lt 10 11 rfl (by omega)) (by omega) (r.X 10 11 rfl rfl (by omega)) dX9_attach_41 ?_
  refine g_iconst (v := nI 1) G dX9_attach_42 (by decide) ?_
  refine g_iload_n G dX9_attach_43 rfl ?_
  refine g_ishl G dX9_attach_44 (rfl) ?_
  refine g_ixor G dX9_attach_45 (rfl) ?_
  refine g_iast G (r.A 10 rfl) (by first | decide | omega) (r.lt 10 11 rfl (by omega)) (by omega) (rfl) dX9_attach_46 ?_
  have h1 := gRef_A 10 11 (j := p) (mA M 10 p ^^^ (nI 1 <<< (nI c &&& 31))) h0 rfl rfl (by omega)
  obtain ⟨r1, q1, -⟩ := id h1
  first | refine g_aload_n G dX9_attach_47 rfl ?_ | refine g_aload_nN G dX9_attach_47 rfl ?_ | refine g_aload_nQ G dX9_attach_47 rfl ?_
  refine g_getR G fl_X9_26 (r1.kd) (by first | decide | omega) rfl (r1.Y 10 rfl) dX9_attach_48 ?_
  refine g_iload_n G dX9_attach_51 rfl ?_
  refine g_iald G (r1.A 10 rfl) (by first | decide | omega) (r1.lt 10 11 rfl (by omega)) (by omega) (r1.X 10 11 rfl rfl (by omega)) dX9_attach_52 ?_
  refine g_iload_n G dX9_attach_53 rfl ?_
  refine g_ishr G dX9_attach_54 (rfl) ?_
  refine g_iconst (v := nI 1) G dX9_attach_55 (by decide) ?_
  refine g_iand G dX9_attach_56 (rfl) ?_
  refine g_iconst (v := nI 1) G dX9_attach_57 (by decide) ?_
  refine g_icmp_ne (tgt := 65) G dX9_attach_58 (by decide) (fun c_58 => ?_) (fun c_58 => ?_)
  · have e9 : gBit (mA (mAtt M p c) 10 p) c = false := decide_eq_false c_58
    refine g_iconst (v := nI 0) G dX9_attach_65 (by decide) ?_
    exact g_zret G F (by first | exact Or.inl rfl | exact Or.inr rfl | assumption) (by rw [e9]; exact ⟨rfl, sX_k (by decide) (sX_s), b, h1, (gFr_th).X1 _ _ _ (fun k z => by unfold gCk at z; omega)⟩) (by omega) (by omega) dX9_attach_66
  · have e9 : gBit (mA (mAtt M p c) 10 p) c = true := decide_eq_true c_58
    refine g_iconst (v := nI 1) G dX9_attach_61 (by decide) ?_
    refine g_goto (tgt := 66) G dX9_attach_62 (by decide) ?_
    exact g_zret G F (by first | exact Or.inl rfl | exact Or.inr rfl | assumption) (by rw [e9]; exact ⟨rfl, sX_k (by decide) (sX_s), b, h1, (gFr_th).X1 _ _ _ (fun k z => by unfold gCk at z; omega)⟩) (by omega) (by omega) dX9_attach_66

set_option maxHeartbeats 4000000 in
set_option maxRecDepth 100000 in
theorem c_X9_attach_no (d0 : Nat × Nat) (S : gS) (y : Nat) (b : Nat → Nat → Nat) (M : gM) (h : gRef S y b M) (i : gInv M) (p c : Int32) (hno : ¬ (gIx (mN M 8) p ∧ gIx (mN M 6) c)) : gCt d0 yX9_attach cX9_attach 3 (some .boolean) 10 1 12 [.ref y, .int p, .int c] S (gAn S y 1 M (some (.int (nI 0)))) gNo := by
  refine gCt_of (lo := [some (.ref y), some (.int p), some (.int c)]) (by decide +kernel) (Nat.le_of_ble_eq_true rfl) (rfl) ?_
  intro Γ hd G F hini
  first | refine g_aload_n G dX9_attach_0 rfl ?_ | refine g_aload_nN G dX9_attach_0 rfl ?_ | refine g_aload_nQ G dX9_attach_0 rfl ?_
  refine g_iconst (v := nI 0) G dX9_attach_1 (by decide) ?_
  refine g_putI G fl_X9_91 pu_10_0 (h.1.kd) (by first | decide | omega) rfl dX9_attach_2 ?_
  have h0 := gRef_th (v := nI 0) h
  obtain ⟨r, q, -⟩ := id h0
  obtain ⟨i6, i8, i11, i17, i23, i2, i5⟩ := i.b
  first | refine g_aload_n G dX9_attach_5 rfl ?_ | refine g_aload_nN G dX9_attach_5 rfl ?_ | refine g_aload_nQ G dX9_attach_5 rfl ?_
  refine g_iload_n G dX9_attach_6 rfl ?_
  refine g_callVp (ci := 10) G (c_X9_isPerson _ _ _ _ _ r i _) mt_X9_isPerson mi_X9_isPerson ml_X9_176 (r.kd) (by first | decide | omega) rfl (by decide) (by omega) (by omega) rfl (Nat.le_of_ble_eq_true rfl) dX9_attach_7 ?_
  refine g_if_eq (tgt := 21) G dX9_attach_10 (by decide) (fun c_10 => ?_) (fun c_10 => ?_)
  · first | refine g_aload_n G dX9_attach_21 rfl ?_ | refine g_aload_nN G dX9_attach_21 rfl ?_ | refine g_aload_nQ G dX9_attach_21 rfl ?_
    refine g_iconst (v := nI 1) G dX9_attach_22 (by decide) ?_
    refine g_callV (ci := 10) G (c_X9_no _ _ _ _ r.kd) mt_X9_no mi_X9_no ml_X9_113 (r.kd) (by first | decide | omega) rfl (by decide) (by omega) (by omega) rfl (Nat.le_of_ble_eq_true rfl) dX9_attach_23 (fun v_23 S_23 hp_23 => ?_)
    obtain ⟨rfl, rfl⟩ := hp_23
    simp only [Option.toList, List.cons_append, List.nil_append]
    refine g_if_le (tgt := 33) G dX9_attach_26 (by decide) (fun c_26 => ?_) (fun c_26 => (absurd (by decide) c_26))
    refine g_iconst (v := nI 0) G dX9_attach_33 (by decide) ?_
    exact g_zret G F (Or.inl rfl) (gAn_N 1 h) (by omega) (by omega) dX9_attach_34
  · first | refine g_aload_n G dX9_attach_13 rfl ?_ | refine g_aload_nN G dX9_attach_13 rfl ?_ | refine g_aload_nQ G dX9_attach_13 rfl ?_
    refine g_iload_n G dX9_attach_14 rfl ?_
    refine g_callVp (ci := 10) G (c_X9_isCase _ _ _ _ _ r i _) mt_X9_isCase mi_X9_isCase ml_X9_147 (r.kd) (by first | decide | omega) rfl (by decide) (by omega) (by omega) rfl (Nat.le_of_ble_eq_true rfl) dX9_attach_15 ?_
    refine g_if_ne (tgt := 35) G dX9_attach_18 (by decide) (fun c_18 => (absurd ⟨gIxB_y c_10, gIxB_y c_18⟩ hno)) (fun c_18 => ?_)
    first | refine g_aload_n G dX9_attach_21 rfl ?_ | refine g_aload_nN G dX9_attach_21 rfl ?_ | refine g_aload_nQ G dX9_attach_21 rfl ?_
    refine g_iconst (v := nI 1) G dX9_attach_22 (by decide) ?_
    refine g_callV (ci := 10) G (c_X9_no _ _ _ _ r.kd) mt_X9_no mi_X9_no ml_X9_113 (r.kd) (by first | decide | omega) rfl (by decide) (by omega) (by omega) rfl (Nat.le_of_ble_eq_true rfl) dX9_attach_23 (fun v_23 S_23 hp_23 => ?_)
    obtain ⟨rfl, rfl⟩ := hp_23
    simp only [Option.toList, List.cons_append, List.nil_append]
    refine g_if_le (tgt := 33) G dX9_attach_26 (by decide) (fun c_26 => ?_) (fun c_26 => (absurd (by decide) c_26))
    refine g_iconst (v := nI 0) G dX9_attach_33 (by decide) ?_
    exact g_zret G F (Or.inl rfl) (gAn_N 1 h) (by omega) (by omega) dX9_attach_34

set_option maxHeartbeats 4000000 in
set_option maxRecDepth 100000 in
theorem c_X9_trim (d0 : Nat × Nat) (S : gS) (y : Nat) (b : Nat → Nat → Nat) (M : gM) (h : gRef S y b M) (i : gInv M) (n : Nat) (hn : n ≤ mN M 2) : gCt d0 yX9_trim cX9_trim 2 (some .int) 10 1 12 [.ref y, .int (nI n)] S (gAn S y 0 (uN M 2 n) (some (.int (nI n)))) gNo := by
  refine gCt_of (lo := [some (.ref y), some (.int (nI n))]) (by decide +kernel) (Nat.le_of_ble_eq_true rfl) (rfl) ?_
  intro Γ hd G F hini
  first | refine g_aload_n G dX9_trim_0 rfl ?_ | refine g_aload_nN G dX9_trim_0 rfl ?_ | refine g_aload_nQ G dX9_trim_0 rfl ?_
  refine g_iconst (v := nI 0) G dX9_trim_1 (by decide) ?_
  refine g_putI G fl_X9_91 pu_10_0 (h.1.kd) (by first | decide | omega) rfl dX9_trim_2 ?_
  have h0 := gRef_th (v := nI 0) h
  obtain ⟨r, q, -⟩ := id h0
  obtain ⟨i6, i8, i11, i17, i23, i2, i5⟩ := i.b
  refine g_iload_n G dX9_trim_5 rfl ?_
  refine g_iconst (v := nI 0) G dX9_trim_6 (by decide) ?_
  first | refine g_aload_n G dX9_trim_7 rfl ?_ | refine g_aload_nN G dX9_trim_7 rfl ?_ | refine g_aload_nQ G dX9_trim_7 rfl ?_
  refine g_getI G fl_X9_110 (r.kd) (by first | decide | omega) rfl (r.n 2 rfl) dX9_trim_8 ?_
  refine g_callSp G (c_X9_isIn _ _ _ _ _) mt_X9_isIn ms_X9_isIn ml_X9_97 (by decide) (by omega) (by omega) rfl (Nat.le_of_ble_eq_true rfl) dX9_trim_11 ?_
  refine g_if_ne (tgt := 23) G dX9_trim_14 (by decide) (fun c_14 => ?_) (fun c_14 => (absurd c_14 (gIn_ok hn (by omega))))
  first | refine g_aload_n G dX9_trim_23 rfl ?_ | refine g_aload_nN G dX9_trim_23 rfl ?_ | refine g_aload_nQ G dX9_trim_23 rfl ?_
  refine g_iload_n G dX9_trim_24 rfl ?_
  refine g_putI G fl_X9_110 pu_10_2 (r.kd) (by first | decide | omega) rfl dX9_trim_25 ?_
  have h1 := gRef_2 (n) h0 (hn)
  obtain ⟨r1, q1, -⟩ := id h1
  refine g_iload_n G dX9_trim_28 rfl ?_
  exact g_iret G F (⟨rfl, sX_p (by decide) (sX_s), b, h1, (gFr_th).X1 _ _ _ (fun k z => by unfold gCk at z; omega)⟩) (by omega) (by omega) dX9_trim_29

set_option maxHeartbeats 4000000 in
set_option maxRecDepth 100000 in
theorem c_X9_trim_no (d0 : Nat × Nat) (S : gS) (y : Nat) (b : Nat → Nat → Nat) (M : gM) (h : gRef S y b M) (i : gInv M) (n : Int32) (hno : ¬ (0 ≤ n ∧ n ≤ nI (mN M 2))) : gCt d0 yX9_trim cX9_trim 2 (some .int) 10 1 12 [.ref y, .int n] S (gAn S y 1 M (some (.int (nI 0)))) gNo := by
  refine gCt_of (lo := [some (.ref y), some (.int n)]) (by decide +kernel) (Nat.le_of_ble_eq_true rfl) (rfl) ?_
  intro Γ hd G F hini
  first | refine g_aload_n G dX9_trim_0 rfl ?_ | refine g_aload_nN G dX9_trim_0 rfl ?_ | refine g_aload_nQ G dX9_trim_0 rfl ?_
  refine g_iconst (v := nI 0) G dX9_trim_1 (by decide) ?_
  refine g_putI G fl_X9_91 pu_10_0 (h.1.kd) (by first | decide | omega) rfl dX9_trim_2 ?_
  have h0 := gRef_th (v := nI 0) h
  obtain ⟨r, q, -⟩ := id h0
  obtain ⟨i6, i8, i11, i17, i23, i2, i5⟩ := i.b
  refine g_iload_n G dX9_trim_5 rfl ?_
  refine g_iconst (v := nI 0) G dX9_trim_6 (by decide) ?_
  first | refine g_aload_n G dX9_trim_7 rfl ?_ | refine g_aload_nN G dX9_trim_7 rfl ?_ | refine g_aload_nQ G dX9_trim_7 rfl ?_
  refine g_getI G fl_X9_110 (r.kd) (by first | decide | omega) rfl (r.n 2 rfl) dX9_trim_8 ?_
  refine g_callSp G (c_X9_isIn _ _ _ _ _) mt_X9_isIn ms_X9_isIn ml_X9_97 (by decide) (by omega) (by omega) rfl (Nat.le_of_ble_eq_true rfl) dX9_trim_11 ?_
  refine g_if_ne (tgt := 23) G dX9_trim_14 (by decide) (fun c_14 => (absurd (gIn_y c_14) hno)) (fun c_14 => ?_)
  first | refine g_aload_n G dX9_trim_17 rfl ?_ | refine g_aload_nN G dX9_trim_17 rfl ?_ | refine g_aload_nQ G dX9_trim_17 rfl ?_
  refine g_iconst (v := nI 1) G dX9_trim_18 (by decide) ?_
  refine g_callV (ci := 10) G (c_X9_no _ _ _ _ r.kd) mt_X9_no mi_X9_no ml_X9_113 (r.kd) (by first | decide | omega) rfl (by decide) (by omega) (by omega) rfl (Nat.le_of_ble_eq_true rfl) dX9_trim_19 (fun v_19 S_19 hp_19 => ?_)
  obtain ⟨rfl, rfl⟩ := hp_19
  simp only [Option.toList, List.cons_append, List.nil_append]
  exact g_iret G F (gAn_N 1 h) (by omega) (by omega) dX9_trim_22

set_option maxHeartbeats 4000000 in
set_option maxRecDepth 100000 in
theorem c_X9_takeIn (d0 : Nat × Nat) (S : gS) (y : Nat) (b : Nat → Nat → Nat) (M : gM) (h : gRef S y b M) (i : gInv M) (c : Nat) (hc : c < mN M 6) (hn : ¬ mN M 17 = 20) : gCt d0 yX9_takeIn cX9_takeIn 2 (some .int) 10 1 12 [.ref y, .int (nI c)] S (gAn S y 0 (mTake M c) (some (.int (nI (mN M 17))))) gNo := by
  refine gCt_of (lo := [some (.ref y), some (.int (nI c))]) (by decide +kernel) (Nat.le_of_ble_eq_true rfl) (rfl) ?_
  intro Γ hd G F hini
  first | refine g_aload_n G dX9_takeIn_0 rfl ?_ | refine g_aload_nN G dX9_takeIn_0 rfl ?_ | refine g_aload_nQ G dX9_takeIn_0 rfl ?_
  refine g_iconst (v := nI 0) G dX9_takeIn_1 (by decide) ?_
  refine g_putI G fl_X9_91 pu_10_0 (h.1.kd) (by first | decide | omega) rfl dX9_takeIn_2 ?_
  have h0 := gRef_th (v := nI 0) h
  obtain ⟨r, q, -⟩ := id h0
  obtain ⟨i6, i8, i11, i17, i23, i2, i5⟩ := i.b
  first | refine g_aload_n G dX9_takeIn_5 rfl ?_ | refine g_aload_nN G dX9_takeIn_5 rfl ?_ | refine g_aload_nQ G dX9_takeIn_5 rfl ?_
  refine g_iload_n G dX9_takeIn_6 rfl ?_
  refine g_callVp (ci := 10) G (c_X9_isCase _ _ _ _ _ r i _) mt_X9_isCase mi_X9_isCase ml_X9_147 (r.kd) (by first | decide | omega) rfl (by decide) (by omega) (by omega) rfl (Nat.le_of_ble_eq_true rfl) dX9_takeIn_7 ?_
  refine g_if_ne (tgt := 19) G dX9_takeIn_10 (by decide) (fun c_10 => ?_) (fun c_10 => (absurd c_10 (gIxB_ok hc (by omega))))
  first | refine g_aload_n G dX9_takeIn_19 rfl ?_ | refine g_aload_nN G dX9_takeIn_19 rfl ?_ | refine g_aload_nQ G dX9_takeIn_19 rfl ?_
  refine g_getI G fl_X9_107 (r.kd) (by first | decide | omega) rfl (r.n 17 rfl) dX9_takeIn_20 ?_
  refine g_bipush (v := nI 20) G dX9_takeIn_23 (by decide) ?_
  refine g_icmp_ne (tgt := 34) G dX9_takeIn_25 (by decide) (fun c_25 => ?_) (fun c_25 => (absurd ((nI_eq (b := 20) (by omega) (by omega)).mp c_25) hn))
  first | refine g_aload_n G dX9_takeIn_34 rfl ?_ | refine g_aload_nN G dX9_takeIn_34 rfl ?_ | refine g_aload_nQ G dX9_takeIn_34 rfl ?_
  refine g_getR G fl_X9_46 (r.kd) (by first | decide | omega) rfl (r.Y 18 rfl) dX9_takeIn_35 ?_
  first | refine g_aload_n G dX9_takeIn_38 rfl ?_ | refine g_aload_nN G dX9_takeIn_38 rfl ?_ | refine g_aload_nQ G dX9_takeIn_38 rfl ?_
  refine g_getI G fl_X9_107 (r.kd) (by first | decide | omega) rfl (r.n 17 rfl) dX9_takeIn_39 ?_
  refine g_iload_n G dX9_takeIn_42 rfl ?_
  refine g_iast G (r.A 18 rfl) (by first | decide | omega) (r.lt 18 19 rfl (by omega)) (by omega) (rfl) dX9_takeIn_43 ?_
  have h1 := gRef_A 18 19 (j := mN M 17) (nI c) h0 rfl rfl (by omega)
  obtain ⟨r1, q1, -⟩ := id h1
  first | refine g_aload_n G dX9_takeIn_44 rfl ?_ | refine g_aload_nN G dX9_takeIn_44 rfl ?_ | refine g_aload_nQ G dX9_takeIn_44 rfl ?_
  refine g_getR G fl_X9_49 (r1.kd) (by first | decide | omega) rfl (r1.Y 19 rfl) dX9_takeIn_45 ?_
  first | refine g_aload_n G dX9_takeIn_48 rfl ?_ | refine g_aload_nN G dX9_takeIn_48 rfl ?_ | refine g_aload_nQ G dX9_takeIn_48 rfl ?_
  refine g_getI G fl_X9_107 (r1.kd) (by first | decide | omega) rfl ((show gX _ 11 17 y = nI (mN M 17) from r1.n 17 rfl)) dX9_takeIn_49 ?_
  refine g_iconst (v := (-1)) G dX9_takeIn_52 (by decide) ?_
  refine g_iast G (r1.A 19 rfl) (by first | decide | omega) (r1.lt 19 19 rfl (by omega)) (by omega) (rfl) dX9_takeIn_53 ?_
  have h2 := gRef_A 19 19 (j := mN M 17) (-1) h1 rfl rfl (by omega)
  obtain ⟨r2, q2, -⟩ := id h2
  first | refine g_aload_n G dX9_takeIn_54 rfl ?_ | refine g_aload_nN G dX9_takeIn_54 rfl ?_ | refine g_aload_nQ G dX9_takeIn_54 rfl ?_
  refine g_getR G fl_X9_52 (r2.kd) (by first | decide | omega) rfl (r2.Y 20 rfl) dX9_takeIn_55 ?_
  first | refine g_aload_n G dX9_takeIn_58 rfl ?_ | refine g_aload_nN G dX9_takeIn_58 rfl ?_ | refine g_aload_nQ G dX9_takeIn_58 rfl ?_
  refine g_getI G fl_X9_107 (r2.kd) (by first | decide | omega) rfl ((show gX _ 11 17 y = nI (mN M 17) from r2.n 17 rfl)) dX9_takeIn_59 ?_
  refine g_sipush (v := nI 1000) G dX9_takeIn_62 (by decide) ?_
  first | refine g_aload_n G dX9_takeIn_65 rfl ?_ | refine g_aload_nN G dX9_takeIn_65 rfl ?_ | refine g_aload_nQ G dX9_takeIn_65 rfl ?_
  refine g_getI G fl_X9_107 (r2.kd) (by first | decide | omega) rfl ((show gX _ 11 17 y = nI (mN M 17) from r2.n 17 rfl)) dX9_takeIn_66 ?_
  refine g_iadd G dX9_takeIn_69 (nI_add 1000 _) ?_
  refine g_iast G (r2.A 20 rfl) (by first | decide | omega) (r2.lt 20 19 rfl (by omega)) (by omega) (rfl) dX9_takeIn_70 ?_
  have h3 := gRef_A 20 19 (j := mN M 17) (nI (1000 + mN M 17)) h2 rfl rfl (by omega)
  obtain ⟨r3, q3, -⟩ := id h3
  first | refine g_aload_n G dX9_takeIn_71 rfl ?_ | refine g_aload_nN G dX9_takeIn_71 rfl ?_ | refine g_aload_nQ G dX9_takeIn_71 rfl ?_
  refine g_dup G dX9_takeIn_72 rfl ?_
  refine g_getI G fl_X9_107 (r3.kd) (by first | decide | omega) rfl ((show gX _ 11 17 y = nI (mN M 17) from r3.n 17 rfl)) dX9_takeIn_73 ?_
  refine g_iconst (v := nI 1) G dX9_takeIn_76 (by decide) ?_
  refine g_iadd G dX9_takeIn_77 (by first | exact nI_add _ _ | rfl) ?_
  refine g_putI G fl_X9_107 pu_10_17 (r3.kd) (by first | decide | omega) rfl dX9_takeIn_78 ?_
  have h4 := gRef_N 17 (mN M 17 + 1) h3 (by decide)
  obtain ⟨r4, q4, -⟩ := id h4
  first | refine g_aload_n G dX9_takeIn_81 rfl ?_ | refine g_aload_nN G dX9_takeIn_81 rfl ?_ | refine g_aload_nQ G dX9_takeIn_81 rfl ?_
  refine g_getI G fl_X9_107 (r4.kd) (by first | decide | omega) rfl ((show gX _ 11 17 y = nI (mN M 17 + 1) from r4.n 17 rfl)) dX9_takeIn_82 ?_
  refine g_iconst (v := nI 1) G dX9_takeIn_85 (by decide) ?_
  refine g_isub G dX9_takeIn_86 (pk_sub (by omega)) ?_
  exact g_iret G F (⟨rfl, sX_p (by decide) (sX_k (by decide) (sX_k (by decide) (sX_k (by decide) (sX_s)))), b, h4, ((((gFr_th).X1 _ _ _ (fun k z => by unfold gCk at z; omega)).X1 _ _ _ (fun k z => by unfold gCk at z; omega)).X1 _ _ _ (fun k z => by unfold gCk at z; omega)).X1 _ _ _ (fun k z => by unfold gCk at z; omega)⟩) (by omega) (by omega) dX9_takeIn_87

set_option maxHeartbeats 4000000 in
set_option maxRecDepth 100000 in
theorem c_X9_takeIn_no (d0 : Nat × Nat) (S : gS) (y : Nat) (b : Nat → Nat → Nat) (M : gM) (h : gRef S y b M) (i : gInv M) (c : Int32) (hno : ¬ gIx (mN M 6) c) : gCt d0 yX9_takeIn cX9_takeIn 2 (some .int) 10 1 12 [.ref y, .int c] S (gAn S y 1 M (some (.int (nI 0)))) gNo := by
  refine gCt_of (lo := [some (.ref y), some (.int c)]) (by decide +kernel) (Nat.le_of_ble_eq_true rfl) (rfl) ?_
  intro Γ hd G F hini
  first | refine g_aload_n G dX9_takeIn_0 rfl ?_ | refine g_aload_nN G dX9_takeIn_0 rfl ?_ | refine g_aload_nQ G dX9_takeIn_0 rfl ?_
  refine g_iconst (v := nI 0) G dX9_takeIn_1 (by decide) ?_
  refine g_putI G fl_X9_91 pu_10_0 (h.1.kd) (by first | decide | omega) rfl dX9_takeIn_2 ?_
  have h0 := gRef_th (v := nI 0) h
  obtain ⟨r, q, -⟩ := id h0
  obtain ⟨i6, i8, i11, i17, i23, i2, i5⟩ := i.b
  first | refine g_aload_n G dX9_takeIn_5 rfl ?_ | refine g_aload_nN G dX9_takeIn_5 rfl ?_ | refine g_aload_nQ G dX9_takeIn_5 rfl ?_
  refine g_iload_n G dX9_takeIn_6 rfl ?_
  refine g_callVp (ci := 10) G (c_X9_isCase _ _ _ _ _ r i _) mt_X9_isCase mi_X9_isCase ml_X9_147 (r.kd) (by first | decide | omega) rfl (by decide) (by omega) (by omega) rfl (Nat.le_of_ble_eq_true rfl) dX9_takeIn_7 ?_
  refine g_if_ne (tgt := 19) G dX9_takeIn_10 (by decide) (fun c_10 => (absurd (gIxB_y c_10) hno)) (fun c_10 => ?_)
  first | refine g_aload_n G dX9_takeIn_13 rfl ?_ | refine g_aload_nN G dX9_takeIn_13 rfl ?_ | refine g_aload_nQ G dX9_takeIn_13 rfl ?_
  refine g_iconst (v := nI 1) G dX9_takeIn_14 (by decide) ?_
  refine g_callV (ci := 10) G (c_X9_no _ _ _ _ r.kd) mt_X9_no mi_X9_no ml_X9_113 (r.kd) (by first | decide | omega) rfl (by decide) (by omega) (by omega) rfl (Nat.le_of_ble_eq_true rfl) dX9_takeIn_15 (fun v_15 S_15 hp_15 => ?_)
  obtain ⟨rfl, rfl⟩ := hp_15
  simp only [Option.toList, List.cons_append, List.nil_append]
  exact g_iret G F (gAn_N 1 h) (by omega) (by omega) dX9_takeIn_18

set_option maxHeartbeats 4000000 in
set_option maxRecDepth 100000 in
theorem c_X9_takeIn_no2 (d0 : Nat × Nat) (S : gS) (y : Nat) (b : Nat → Nat → Nat) (M : gM) (h : gRef S y b M) (i : gInv M) (c : Nat) (hc : c < mN M 6) (hn : mN M 17 = 20) : gCt d0 yX9_takeIn cX9_takeIn 2 (some .int) 10 1 12 [.ref y, .int (nI c)] S (gAn S y 2 M (some (.int (nI 0)))) gNo := by
  refine gCt_of (lo := [some (.ref y), some (.int (nI c))]) (by decide +kernel) (Nat.le_of_ble_eq_true rfl) (rfl) ?_
  intro Γ hd G F hini
  first | refine g_aload_n G dX9_takeIn_0 rfl ?_ | refine g_aload_nN G dX9_takeIn_0 rfl ?_ | refine g_aload_nQ G dX9_takeIn_0 rfl ?_
  refine g_iconst (v := nI 0) G dX9_takeIn_1 (by decide) ?_
  refine g_putI G fl_X9_91 pu_10_0 (h.1.kd) (by first | decide | omega) rfl dX9_takeIn_2 ?_
  have h0 := gRef_th (v := nI 0) h
  obtain ⟨r, q, -⟩ := id h0
  obtain ⟨i6, i8, i11, i17, i23, i2, i5⟩ := i.b
  first | refine g_aload_n G dX9_takeIn_5 rfl ?_ | refine g_aload_nN G dX9_takeIn_5 rfl ?_ | refine g_aload_nQ G dX9_takeIn_5 rfl ?_
  refine g_iload_n G dX9_takeIn_6 rfl ?_
  refine g_callVp (ci := 10) G (c_X9_isCase _ _ _ _ _ r i _) mt_X9_isCase mi_X9_isCase ml_X9_147 (r.kd) (by first | decide | omega) rfl (by decide) (by omega) (by omega) rfl (Nat.le_of_ble_eq_true rfl) dX9_takeIn_7 ?_
  refine g_if_ne (tgt := 19) G dX9_takeIn_10 (by decide) (fun c_10 => ?_) (fun c_10 => (absurd c_10 (gIxB_ok hc (by omega))))
  first | refine g_aload_n G dX9_takeIn_19 rfl ?_ | refine g_aload_nN G dX9_takeIn_19 rfl ?_ | refine g_aload_nQ G dX9_takeIn_19 rfl ?_
  refine g_getI G fl_X9_107 (r.kd) (by first | decide | omega) rfl (r.n 17 rfl) dX9_takeIn_20 ?_
  refine g_bipush (v := nI 20) G dX9_takeIn_23 (by decide) ?_
  refine g_icmp_ne (tgt := 34) G dX9_takeIn_25 (by decide) (fun c_25 => (absurd (by rw [hn]) c_25)) (fun c_25 => ?_)
  first | refine g_aload_n G dX9_takeIn_28 rfl ?_ | refine g_aload_nN G dX9_takeIn_28 rfl ?_ | refine g_aload_nQ G dX9_takeIn_28 rfl ?_
  refine g_iconst (v := nI 2) G dX9_takeIn_29 (by decide) ?_
  refine g_callV (ci := 10) G (c_X9_no _ _ _ _ r.kd) mt_X9_no mi_X9_no ml_X9_113 (r.kd) (by first | decide | omega) rfl (by decide) (by omega) (by omega) rfl (Nat.le_of_ble_eq_true rfl) dX9_takeIn_30 (fun v_30 S_30 hp_30 => ?_)
  obtain ⟨rfl, rfl⟩ := hp_30
  simp only [Option.toList, List.cons_append, List.nil_append]
  exact g_iret G F (gAn_N 2 h) (by omega) (by omega) dX9_takeIn_33

set_option maxHeartbeats 4000000 in
set_option maxRecDepth 100000 in
theorem c_X9_send (d0 : Nat × Nat) (S : gS) (y : Nat) (b : Nat → Nat → Nat) (M : gM) (h : gRef S y b M) (i : gInv M) (d p : Nat) (t : Int32) (hd2 : d < mN M 11) (hp : p < mN M 8) (hw : gWt 30 t) (hn : ¬ mN M 23 = 40) : gCt d0 yX9_send cX9_send 4 (some .int) 10 1 12 [.ref y, .int (nI d), .int (nI p), .int t] S (gAn S y 0 (mSend M d p (nI (mN M 40) + t)) (some (.int (nI (mN M 23))))) gNo := by
  refine gCt_of (lo := [some (.ref y), some (.int (nI d)), some (.int (nI p)), some (.int t)]) (by decide +kernel) (Nat.le_of_ble_eq_true rfl) (rfl) ?_
  intro Γ hd G F hini
  first | refine g_aload_n G dX9_send_0 rfl ?_ | refine g_aload_nN G dX9_send_0 rfl ?_ | refine g_aload_nQ G dX9_send_0 rfl ?_
  refine g_iconst (v := nI 0) G dX9_send_1 (by decide) ?_
  refine g_putI G fl_X9_91 pu_10_0 (h.1.kd) (by first | decide | omega) rfl dX9_send_2 ?_
  have h0 := gRef_th (v := nI 0) h
  obtain ⟨r, q, -⟩ := id h0
  obtain ⟨i6, i8, i11, i17, i23, i2, i5⟩ := i.b
  first | refine g_aload_n G dX9_send_5 rfl ?_ | refine g_aload_nN G dX9_send_5 rfl ?_ | refine g_aload_nQ G dX9_send_5 rfl ?_
  refine g_iload_n G dX9_send_6 rfl ?_
  refine g_iload_n G dX9_send_7 rfl ?_
  refine g_callVp (ci := 10) G (c_X9_isPair _ _ _ _ _ r i _ _) mt_X9_isPair mi_X9_isPair ml_X9_207 (r.kd) (by first | decide | omega) rfl (by decide) (by omega) (by omega) rfl (Nat.le_of_ble_eq_true rfl) dX9_send_8 ?_
  refine g_if_ne (tgt := 20) G dX9_send_11 (by decide) (fun c_11 => ?_) (fun c_11 => (absurd c_11 (gPair_ok hp hd2 (by omega) (by omega))))
  refine g_iload_n G dX9_send_20 rfl ?_
  refine g_iconst (v := nI 0) G dX9_send_21 (by decide) ?_
  refine g_bipush (v := nI 30) G dX9_send_22 (by decide) ?_
  refine g_callSp G (c_X9_isIn _ _ _ _ _) mt_X9_isIn ms_X9_isIn ml_X9_97 (by decide) (by omega) (by omega) rfl (Nat.le_of_ble_eq_true rfl) dX9_send_24 ?_
  refine g_if_ne (tgt := 36) G dX9_send_27 (by decide) (fun c_27 => ?_) (fun c_27 => (absurd c_27 (gB_ne0.mpr (decide_eq_true hw))))
  first | refine g_aload_n G dX9_send_36 rfl ?_ | refine g_aload_nN G dX9_send_36 rfl ?_ | refine g_aload_nQ G dX9_send_36 rfl ?_
  refine g_getI G fl_X9_182 (r.kd) (by first | decide | omega) rfl (r.n 23 rfl) dX9_send_37 ?_
  refine g_bipush (v := nI 40) G dX9_send_40 (by decide) ?_
  refine g_icmp_ne (tgt := 51) G dX9_send_42 (by decide) (fun c_42 => ?_) (fun c_42 => (absurd ((nI_eq (b := 40) (by omega) (by omega)).mp c_42) hn))
  first | refine g_aload_n G dX9_send_51 rfl ?_ | refine g_aload_nN G dX9_send_51 rfl ?_ | refine g_aload_nQ G dX9_send_51 rfl ?_
  refine g_getR G fl_X9_61 (r.kd) (by first | decide | omega) rfl (r.Y 24 rfl) dX9_send_52 ?_
  first | refine g_aload_n G dX9_send_55 rfl ?_ | refine g_aload_nN G dX9_send_55 rfl ?_ | refine g_aload_nQ G dX9_send_55 rfl ?_
  refine g_getI G fl_X9_182 (r.kd) (by first | decide | omega) rfl (r.n 23 rfl) dX9_send_56 ?_
  refine g_iload_n G dX9_send_59 rfl ?_
  refine g_iast G (r.A 24 rfl) (by first | decide | omega) (r.lt 24 39 rfl (by omega)) (by omega) (rfl) dX9_send_60 ?_
  have h1 := gRef_A 24 39 (j := mN M 23) (nI d) h0 rfl rfl (by omega)
  obtain ⟨r1, q1, -⟩ := id h1
  first | refine g_aload_n G dX9_send_61 rfl ?_ | refine g_aload_nN G dX9_send_61 rfl ?_ | refine g_aload_nQ G dX9_send_61 rfl ?_
  refine g_getR G fl_X9_64 (r1.kd) (by first | decide | omega) rfl (r1.Y 25 rfl) dX9_send_62 ?_
  first | refine g_aload_n G dX9_send_65 rfl ?_ | refine g_aload_nN G dX9_send_65 rfl ?_ | refine g_aload_nQ G dX9_send_65 rfl ?_
  refine g_getI G fl_X9_182 (r1.kd) (by first | decide | omega) rfl ((show gX _ 11 23 y = nI (mN M 23) from r1.n 23 rfl)) dX9_send_66 ?_
  refine g_iload_n G dX9_send_69 rfl ?_
  refine g_iast G (r1.A 25 rfl) (by first | decide | omega) (r1.lt 25 39 rfl (by omega)) (by omega) (rfl) dX9_send_70 ?_
  have h2 := gRef_A 25 39 (j := mN M 23) (nI p) h1 rfl rfl (by omega)
  obtain ⟨r2, q2, -⟩ := id h2
  first | refine g_aload_n G dX9_send_71 rfl ?_ | refine g_aload_nN G dX9_send_71 rfl ?_ | refine g_aload_nQ G dX9_send_71 rfl ?_
  refine g_getR G fl_X9_67 (r2.kd) (by first | decide | omega) rfl (r2.Y 26 rfl) dX9_send_72 ?_
  first | refine g_aload_n G dX9_send_75 rfl ?_ | refine g_aload_nN G dX9_send_75 rfl ?_ | refine g_aload_nQ G dX9_send_75 rfl ?_
  refine g_getI G fl_X9_182 (r2.kd) (by first | decide | omega) rfl ((show gX _ 11 23 y = nI (mN M 23) from r2.n 23 rfl)) dX9_send_76 ?_
  first | refine g_aload_n G dX9_send_79 rfl ?_ | refine g_aload_nN G dX9_send_79 rfl ?_ | refine g_aload_nQ G dX9_send_79 rfl ?_
  refine g_getR G fl_X9_75 (r2.kd) (by first | decide | omega) rfl (r2.st) dX9_send_80 ?_
  refine g_getIN G fl_X9_219 (q2.kd) (by first | decide | omega) rfl ((show gX _ (10 + 32 * 0) 0 _ = nI (mN M 40) from q2.d)) dX9_send_83 ?_
  refine g_iload_n G dX9_send_86 rfl ?_
  refine g_iadd G dX9_send_87 (rfl) ?_
  refine g_iast G (r2.A 26 rfl) (by first | decide | omega) (r2.lt 26 39 rfl (by omega)) (by omega) (rfl) dX9_send_88 ?_
  have h3 := gRef_A 26 39 (j := mN M 23) (nI (mN M 40) + t) h2 rfl rfl (by omega)
  obtain ⟨r3, q3, -⟩ := id h3
  first | refine g_aload_n G dX9_send_89 rfl ?_ | refine g_aload_nN G dX9_send_89 rfl ?_ | refine g_aload_nQ G dX9_send_89 rfl ?_
  refine g_getR G fl_X9_75 (r3.kd) (by first | decide | omega) rfl (r3.st) dX9_send_90 ?_
  refine g_getRN G fl_X9_244 (q3.kd) (by first | decide | omega) rfl (q3.Y 7 rfl) dX9_send_93 ?_
  first | refine g_aload_n G dX9_send_96 rfl ?_ | refine g_aload_nN G dX9_send_96 rfl ?_ | refine g_aload_nQ G dX9_send_96 rfl ?_
  refine g_getI G fl_X9_182 (r3.kd) (by first | decide | omega) rfl ((show gX _ 11 23 y = nI (mN M 23) from r3.n 23 rfl)) dX9_send_97 ?_
  refine g_iconst (v := (-1)) G dX9_send_100 (by decide) ?_
  refine g_iast G (q3.A 7 rfl) (by first | decide | omega) (q3.lt 7 39 rfl (by omega)) (by omega) (rfl) dX9_send_101 ?_
  have h4 := gRef_S 7 39 (j := mN M 23) (-1) h3 rfl (by omega)
  obtain ⟨r4, q4, -⟩ := id h4
  first | refine g_aload_n G dX9_send_102 rfl ?_ | refine g_aload_nN G dX9_send_102 rfl ?_ | refine g_aload_nQ G dX9_send_102 rfl ?_
  refine g_dup G dX9_send_103 rfl ?_
  refine g_getI G fl_X9_182 (r4.kd) (by first | decide | omega) rfl ((show gX _ 11 23 y = nI (mN M 23) from r4.n 23 rfl)) dX9_send_104 ?_
  refine g_iconst (v := nI 1) G dX9_send_107 (by decide) ?_
  refine g_iadd G dX9_send_108 (by first | exact nI_add _ _ | rfl) ?_
  refine g_putI G fl_X9_182 pu_10_23 (r4.kd) (by first | decide | omega) rfl dX9_send_109 ?_
  have h5 := gRef_N 23 (mN M 23 + 1) h4 (by decide)
  obtain ⟨r5, q5, -⟩ := id h5
  first | refine g_aload_n G dX9_send_112 rfl ?_ | refine g_aload_nN G dX9_send_112 rfl ?_ | refine g_aload_nQ G dX9_send_112 rfl ?_
  refine g_getI G fl_X9_182 (r5.kd) (by first | decide | omega) rfl ((show gX _ 11 23 y = nI (mN M 23 + 1) from r5.n 23 rfl)) dX9_send_113 ?_
  refine g_iconst (v := nI 1) G dX9_send_116 (by decide) ?_
  refine g_isub G dX9_send_117 (pk_sub (by omega)) ?_
  exact g_iret G F (⟨rfl, sX_p (by decide) (sX_k (by decide) (sX_k (by decide) (sX_k (by decide) (sX_k (by decide) (sX_s))))), b, h5, (((((gFr_th).X1 _ _ _ (fun k z => by unfold gCk at z; omega)).X1 _ _ _ (fun k z => by unfold gCk at z; omega)).X1 _ _ _ (fun k z => by unfold gCk at z; omega)).X1 _ _ _ (fun k z => by unfold gCk at z; omega)).X1 _ _ _ (fun k z => by unfold gCk at z; omega)⟩) (by omega) (by omega) dX9_send_118

set_option maxHeartbeats 4000000 in
set_option maxRecDepth 100000 in
theorem c_X9_send_no (d0 : Nat × Nat) (S : gS) (y : Nat) (b : Nat → Nat → Nat) (M : gM) (h : gRef S y b M) (i : gInv M) (d p t : Int32) (hno : ¬ (gIx (mN M 11) d ∧ gIx (mN M 8) p)) : gCt d0 yX9_send cX9_send 4 (some .int) 10 1 12 [.ref y, .int d, .int p, .int t] S (gAn S y 1 M (some (.int (nI 0)))) gNo := by
  refine gCt_of (lo := [some (.ref y), some (.int d), some (.int p), some (.int t)]) (by decide +kernel) (Nat.le_of_ble_eq_true rfl) (rfl) ?_
  intro Γ hd G F hini
  first | refine g_aload_n G dX9_send_0 rfl ?_ | refine g_aload_nN G dX9_send_0 rfl ?_ | refine g_aload_nQ G dX9_send_0 rfl ?_
  refine g_iconst (v := nI 0) G dX9_send_1 (by decide) ?_
  refine g_putI G fl_X9_91 pu_10_0 (h.1.kd) (by first | decide | omega) rfl dX9_send_2 ?_
  have h0 := gRef_th (v := nI 0) h
  obtain ⟨r, q, -⟩ := id h0
  obtain ⟨i6, i8, i11, i17, i23, i2, i5⟩ := i.b
  first | refine g_aload_n G dX9_send_5 rfl ?_ | refine g_aload_nN G dX9_send_5 rfl ?_ | refine g_aload_nQ G dX9_send_5 rfl ?_
  refine g_iload_n G dX9_send_6 rfl ?_
  refine g_iload_n G dX9_send_7 rfl ?_
  refine g_callVp (ci := 10) G (c_X9_isPair _ _ _ _ _ r i _ _) mt_X9_isPair mi_X9_isPair ml_X9_207 (r.kd) (by first | decide | omega) rfl (by decide) (by omega) (by omega) rfl (Nat.le_of_ble_eq_true rfl) dX9_send_8 ?_
  refine g_if_ne (tgt := 20) G dX9_send_11 (by decide) (fun c_11 => (absurd (gPair_y c_11).symm hno)) (fun c_11 => ?_)
  first | refine g_aload_n G dX9_send_14 rfl ?_ | refine g_aload_nN G dX9_send_14 rfl ?_ | refine g_aload_nQ G dX9_send_14 rfl ?_
  refine g_iconst (v := nI 1) G dX9_send_15 (by decide) ?_
  refine g_callV (ci := 10) G (c_X9_no _ _ _ _ r.kd) mt_X9_no mi_X9_no ml_X9_113 (r.kd) (by first | decide | omega) rfl (by decide) (by omega) (by omega) rfl (Nat.le_of_ble_eq_true rfl) dX9_send_16 (fun v_16 S_16 hp_16 => ?_)
  obtain ⟨rfl, rfl⟩ := hp_16
  simp only [Option.toList, List.cons_append, List.nil_append]
  exact g_iret G F (gAn_N 1 h) (by omega) (by omega) dX9_send_19

set_option maxHeartbeats 4000000 in
set_option maxRecDepth 100000 in
theorem c_X9_send_no2 (d0 : Nat × Nat) (S : gS) (y : Nat) (b : Nat → Nat → Nat) (M : gM) (h : gRef S y b M) (i : gInv M) (d p : Nat) (t : Int32) (hd2 : d < mN M 11) (hp : p < mN M 8) (hw : ¬ gWt 30 t) : gCt d0 yX9_send cX9_send 4 (some .int) 10 1 12 [.ref y, .int (nI d), .int (nI p), .int t] S (gAn S y 2 M (some (.int (nI 0)))) gNo := by
  refine gCt_of (lo := [some (.ref y), some (.int (nI d)), some (.int (nI p)), some (.int t)]) (by decide +kernel) (Nat.le_of_ble_eq_true rfl) (rfl) ?_
  intro Γ hd G F hini
  first | refine g_aload_n G dX9_send_0 rfl ?_ | refine g_aload_nN G dX9_send_0 rfl ?_ | refine g_aload_nQ G dX9_send_0 rfl ?_
  refine g_iconst (v := nI 0) G dX9_send_1 (by decide) ?_
  refine g_putI G fl_X9_91 pu_10_0 (h.1.kd) (by first | decide | omega) rfl dX9_send_2 ?_
  have h0 := gRef_th (v := nI 0) h
  obtain ⟨r, q, -⟩ := id h0
  obtain ⟨i6, i8, i11, i17, i23, i2, i5⟩ := i.b
  first | refine g_aload_n G dX9_send_5 rfl ?_ | refine g_aload_nN G dX9_send_5 rfl ?_ | refine g_aload_nQ G dX9_send_5 rfl ?_
  refine g_iload_n G dX9_send_6 rfl ?_
  refine g_iload_n G dX9_send_7 rfl ?_
  refine g_callVp (ci := 10) G (c_X9_isPair _ _ _ _ _ r i _ _) mt_X9_isPair mi_X9_isPair ml_X9_207 (r.kd) (by first | decide | omega) rfl (by decide) (by omega) (by omega) rfl (Nat.le_of_ble_eq_true rfl) dX9_send_8 ?_
  refine g_if_ne (tgt := 20) G dX9_send_11 (by decide) (fun c_11 => ?_) (fun c_11 => (absurd c_11 (gPair_ok hp hd2 (by omega) (by omega))))
  refine g_iload_n G dX9_send_20 rfl ?_
  refine g_iconst (v := nI 0) G dX9_send_21 (by decide) ?_
  refine g_bipush (v := nI 30) G dX9_send_22 (by decide) ?_
  refine g_callSp G (c_X9_isIn _ _ _ _ _) mt_X9_isIn ms_X9_isIn ml_X9_97 (by decide) (by omega) (by omega) rfl (Nat.le_of_ble_eq_true rfl) dX9_send_24 ?_
  refine g_if_ne (tgt := 36) G dX9_send_27 (by decide) (fun c_27 => (absurd (gIn_y c_27) hw)) (fun c_27 => ?_)
  first | refine g_aload_n G dX9_send_30 rfl ?_ | refine g_aload_nN G dX9_send_30 rfl ?_ | refine g_aload_nQ G dX9_send_30 rfl ?_
  refine g_iconst (v := nI 2) G dX9_send_31 (by decide) ?_
  refine g_callV (ci := 10) G (c_X9_no _ _ _ _ r.kd) mt_X9_no mi_X9_no ml_X9_113 (r.kd) (by first | decide | omega) rfl (by decide) (by omega) (by omega) rfl (Nat.le_of_ble_eq_true rfl) dX9_send_32 (fun v_32 S_32 hp_32 => ?_)
  obtain ⟨rfl, rfl⟩ := hp_32
  simp only [Option.toList, List.cons_append, List.nil_append]
  exact g_iret G F (gAn_N 2 h) (by omega) (by omega) dX9_send_35

set_option maxHeartbeats 4000000 in
set_option maxRecDepth 100000 in
theorem c_X9_send_no3 (d0 : Nat × Nat) (S : gS) (y : Nat) (b : Nat → Nat → Nat) (M : gM) (h : gRef S y b M) (i : gInv M) (d p : Nat) (t : Int32) (hd2 : d < mN M 11) (hp : p < mN M 8) (hw : gWt 30 t) (hn : mN M 23 = 40) : gCt d0 yX9_send cX9_send 4 (some .int) 10 1 12 [.ref y, .int (nI d), .int (nI p), .int t] S (gAn S y 3 M (some (.int (nI 0)))) gNo := by
  refine gCt_of (lo := [some (.ref y), some (.int (nI d)), some (.int (nI p)), some (.int t)]) (by decide +kernel) (Nat.le_of_ble_eq_true rfl) (rfl) ?_
  intro Γ hd G F hini
  first | refine g_aload_n G dX9_send_0 rfl ?_ | refine g_aload_nN G dX9_send_0 rfl ?_ | refine g_aload_nQ G dX9_send_0 rfl ?_
  refine g_iconst (v := nI 0) G dX9_send_1 (by decide) ?_
  refine g_putI G fl_X9_91 pu_10_0 (h.1.kd) (by first | decide | omega) rfl dX9_send_2 ?_
  have h0 := gRef_th (v := nI 0) h
  obtain ⟨r, q, -⟩ := id h0
  obtain ⟨i6, i8, i11, i17, i23, i2, i5⟩ := i.b
  first | refine g_aload_n G dX9_send_5 rfl ?_ | refine g_aload_nN G dX9_send_5 rfl ?_ | refine g_aload_nQ G dX9_send_5 rfl ?_
  refine g_iload_n G dX9_send_6 rfl ?_
  refine g_iload_n G dX9_send_7 rfl ?_
  refine g_callVp (ci := 10) G (c_X9_isPair _ _ _ _ _ r i _ _) mt_X9_isPair mi_X9_isPair ml_X9_207 (r.kd) (by first | decide | omega) rfl (by decide) (by omega) (by omega) rfl (Nat.le_of_ble_eq_true rfl) dX9_send_8 ?_
  refine g_if_ne (tgt := 20) G dX9_send_11 (by decide) (fun c_11 => ?_) (fun c_11 => (absurd c_11 (gPair_ok hp hd2 (by omega) (by omega))))
  refine g_iload_n G dX9_send_20 rfl ?_
  refine g_iconst (v := nI 0) G dX9_send_21 (by decide) ?_
  refine g_bipush (v := nI 30) G dX9_send_22 (by decide) ?_
  refine g_callSp G (c_X9_isIn _ _ _ _ _) mt_X9_isIn ms_X9_isIn ml_X9_97 (by decide) (by omega) (by omega) rfl (Nat.le_of_ble_eq_true rfl) dX9_send_24 ?_
  refine g_if_ne (tgt := 36) G dX9_send_27 (by decide) (fun c_27 => ?_) (fun c_27 => (absurd c_27 (gB_ne0.mpr (decide_eq_true hw))))
  first | refine g_aload_n G dX9_send_36 rfl ?_ | refine g_aload_nN G dX9_send_36 rfl ?_ | refine g_aload_nQ G dX9_send_36 rfl ?_
  refine g_getI G fl_X9_182 (r.kd) (by first | decide | omega) rfl (r.n 23 rfl) dX9_send_37 ?_
  refine g_bipush (v := nI 40) G dX9_send_40 (by decide) ?_
  refine g_icmp_ne (tgt := 51) G dX9_send_42 (by decide) (fun c_42 => (absurd (by rw [hn]) c_42)) (fun c_42 => ?_)
  first | refine g_aload_n G dX9_send_45 rfl ?_ | refine g_aload_nN G dX9_send_45 rfl ?_ | refine g_aload_nQ G dX9_send_45 rfl ?_
  refine g_iconst (v := nI 3) G dX9_send_46 (by decide) ?_
  refine g_callV (ci := 10) G (c_X9_no _ _ _ _ r.kd) mt_X9_no mi_X9_no ml_X9_113 (r.kd) (by first | decide | omega) rfl (by decide) (by omega) (by omega) rfl (Nat.le_of_ble_eq_true rfl) dX9_send_47 (fun v_47 S_47 hp_47 => ?_)
  obtain ⟨rfl, rfl⟩ := hp_47
  simp only [Option.toList, List.cons_append, List.nil_append]
  exact g_iret G F (gAn_N 3 h) (by omega) (by omega) dX9_send_50

set_option maxHeartbeats 4000000 in
set_option maxRecDepth 100000 in
theorem c_X9_lend (d0 : Nat × Nat) (S : gS) (y : Nat) (b : Nat → Nat → Nat) (M : gM) (h : gRef S y b M) (i : gInv M) (d p : Nat) (t : Int32) (hd2 : d < mN M 11) (hp : p < mN M 8) (hw : nI 1 ≤ t ∧ t ≤ nI 60) (ho : mA M 43 d = -1) (hz : gHid M p d = 0) : gCt d0 yX9_lend cX9_lend 4 (some .int) 10 1 12 [.ref y, .int (nI d), .int (nI p), .int t] S (gAn S y 0 (mLend M d p (nI (mN M 40) + t)) (some (.int (nI (mN M 40) + t)))) gNo := by
  refine gCt_of (lo := [some (.ref y), some (.int (nI d)), some (.int (nI p)), some (.int t)]) (by decide +kernel) (Nat.le_of_ble_eq_true rfl) (rfl) ?_
  intro Γ hd G F hini
  have hh := gct_le (gHidP M p d) (mN M (100 + d))
  have it := i.t hd2
  have hh2 : gHid M p d ≤ mN M (100 + d) := hh
  first | refine g_aload_n G dX9_lend_0 rfl ?_ | refine g_aload_nN G dX9_lend_0 rfl ?_ | refine g_aload_nQ G dX9_lend_0 rfl ?_
  refine g_iconst (v := nI 0) G dX9_lend_1 (by decide) ?_
  refine g_putI G fl_X9_91 pu_10_0 (h.1.kd) (by first | decide | omega) rfl dX9_lend_2 ?_
  have h0 := gRef_th (v := nI 0) h
  obtain ⟨r, q, -⟩ := id h0
  obtain ⟨i6, i8, i11, i17, i23, i2, i5⟩ := i.b
  first | refine g_aload_n G dX9_lend_5 rfl ?_ | refine g_aload_nN G dX9_lend_5 rfl ?_ | refine g_aload_nQ G dX9_lend_5 rfl ?_
  refine g_iload_n G dX9_lend_6 rfl ?_
  refine g_iload_n G dX9_lend_7 rfl ?_
  refine g_callVp (ci := 10) G (c_X9_isPair _ _ _ _ _ r i _ _) mt_X9_isPair mi_X9_isPair ml_X9_207 (r.kd) (by first | decide | omega) rfl (by decide) (by omega) (by omega) rfl (Nat.le_of_ble_eq_true rfl) dX9_lend_8 ?_
  refine g_if_ne (tgt := 20) G dX9_lend_11 (by decide) (fun c_11 => ?_) (fun c_11 => (absurd c_11 (gPair_ok hp hd2 (by omega) (by omega))))
  refine g_iload_n G dX9_lend_20 rfl ?_
  refine g_iconst (v := nI 1) G dX9_lend_21 (by decide) ?_
  refine g_bipush (v := nI 60) G dX9_lend_22 (by decide) ?_
  refine g_callSp G (c_X9_isIn _ _ _ _ _) mt_X9_isIn ms_X9_isIn ml_X9_97 (by decide) (by omega) (by omega) rfl (Nat.le_of_ble_eq_true rfl) dX9_lend_24 ?_
  refine g_if_ne (tgt := 36) G dX9_lend_27 (by decide) (fun c_27 => ?_) (fun c_27 => (absurd c_27 (gB_ne0.mpr (decide_eq_true hw))))
  first | refine g_aload_n G dX9_lend_36 rfl ?_ | refine g_aload_nN G dX9_lend_36 rfl ?_ | refine g_aload_nQ G dX9_lend_36 rfl ?_
  refine g_getR G fl_X9_75 (r.kd) (by first | decide | omega) rfl (r.st) dX9_lend_37 ?_
  refine g_getRN G fl_X9_158 (q.kd) (by first | decide | omega) rfl (q.Y 3 rfl) dX9_lend_40 ?_
  refine g_iload_n G dX9_lend_43 rfl ?_
  refine g_iald G (q.A 3 rfl) (by first | decide | omega) (q.lt 3 23 rfl (by omega)) (by omega) (q.X 3 23 rfl (by omega)) dX9_lend_44 ?_
  refine g_iconst (v := (-1)) G dX9_lend_45 (by decide) ?_
  refine g_icmp_ne (tgt := 58) G dX9_lend_46 (by decide) (fun c_46 => (absurd ho c_46)) (fun c_46 => ?_)
  first | refine g_aload_n G dX9_lend_49 rfl ?_ | refine g_aload_nN G dX9_lend_49 rfl ?_ | refine g_aload_nQ G dX9_lend_49 rfl ?_
  refine g_iload_n G dX9_lend_50 rfl ?_
  refine g_iload_n G dX9_lend_51 rfl ?_
  refine g_callVp (ci := 10) G (c_X9_hiddenOf _ _ _ _ _ r q i _ _ (by omega) (by omega)) mt_X9_hiddenOf mi_X9_hiddenOf ml_X9_216 (r.kd) (by first | decide | omega) rfl (by decide) (by omega) (by omega) rfl (Nat.le_of_ble_eq_true rfl) dX9_lend_52 ?_
  refine g_if_le (tgt := 64) G dX9_lend_55 (by decide) (fun c_55 => ?_) (fun c_55 => (absurd (by rw [hz]; decide) c_55))
  first | refine g_aload_n G dX9_lend_64 rfl ?_ | refine g_aload_nN G dX9_lend_64 rfl ?_ | refine g_aload_nQ G dX9_lend_64 rfl ?_
  refine g_getR G fl_X9_75 (r.kd) (by first | decide | omega) rfl (r.st) dX9_lend_65 ?_
  refine g_getRN G fl_X9_158 (q.kd) (by first | decide | omega) rfl (q.Y 3 rfl) dX9_lend_68 ?_
  refine g_iload_n G dX9_lend_71 rfl ?_
  refine g_iload_n G dX9_lend_72 rfl ?_
  refine g_iast G (q.A 3 rfl) (by first | decide | omega) (q.lt 3 23 rfl (by omega)) (by omega) (rfl) dX9_lend_73 ?_
  have h1 := gRef_S 3 23 (j := d) (nI p) h0 rfl (by omega)
  obtain ⟨r1, q1, -⟩ := id h1
  first | refine g_aload_n G dX9_lend_74 rfl ?_ | refine g_aload_nN G dX9_lend_74 rfl ?_ | refine g_aload_nQ G dX9_lend_74 rfl ?_
  refine g_getR G fl_X9_75 (r1.kd) (by first | decide | omega) rfl (r1.st) dX9_lend_75 ?_
  refine g_getRN G fl_X9_161 (q1.kd) (by first | decide | omega) rfl (q1.Y 4 rfl) dX9_lend_78 ?_
  refine g_iload_n G dX9_lend_81 rfl ?_
  first | refine g_aload_n G dX9_lend_82 rfl ?_ | refine g_aload_nN G dX9_lend_82 rfl ?_ | refine g_aload_nQ G dX9_lend_82 rfl ?_
  refine g_getR G fl_X9_75 (r1.kd) (by first | decide | omega) rfl (r1.st) dX9_lend_83 ?_
  refine g_getIN G fl_X9_219 (q1.kd) (by first | decide | omega) rfl ((show gX _ (10 + 32 * 0) 0 _ = nI (mN M 40) from q1.d)) dX9_lend_86 ?_
  refine g_iload_n G dX9_lend_89 rfl ?_
  refine g_iadd G dX9_lend_90 (rfl) ?_
  refine g_iast G (q1.A 4 rfl) (by first | decide | omega) (q1.lt 4 23 rfl (by omega)) (by omega) (rfl) dX9_lend_91 ?_
  have h2 := gRef_S 4 23 (j := d) (nI (mN M 40) + t) h1 rfl (by omega)
  obtain ⟨r2, q2, -⟩ := id h2
  first | refine g_aload_n G dX9_lend_92 rfl ?_ | refine g_aload_nN G dX9_lend_92 rfl ?_ | refine g_aload_nQ G dX9_lend_92 rfl ?_
  refine g_getR G fl_X9_75 (r2.kd) (by first | decide | omega) rfl (r2.st) dX9_lend_93 ?_
  refine g_getRN G fl_X9_161 (q2.kd) (by first | decide | omega) rfl (q2.Y 4 rfl) dX9_lend_96 ?_
  refine g_iload_n G dX9_lend_99 rfl ?_
  refine g_iald G (q2.A 4 rfl) (by first | decide | omega) (q2.lt 4 23 rfl (by omega)) (by omega) ((q2.X 4 23 rfl (by omega)).trans uA_s) dX9_lend_100 ?_
  exact g_iret G F (⟨rfl, sX_k (by decide) (sX_k (by decide) (sX_s)), b, h2, ((gFr_th).X1 _ _ _ (fun k z => by unfold gCk at z; omega)).X1 _ _ _ (fun k z => by unfold gCk at z; omega)⟩) (by omega) (by omega) dX9_lend_101

set_option maxHeartbeats 4000000 in
set_option maxRecDepth 100000 in
theorem c_X9_lend_no (d0 : Nat × Nat) (S : gS) (y : Nat) (b : Nat → Nat → Nat) (M : gM) (h : gRef S y b M) (i : gInv M) (d p t : Int32) (hno : ¬ (gIx (mN M 11) d ∧ gIx (mN M 8) p)) : gCt d0 yX9_lend cX9_lend 4 (some .int) 10 1 12 [.ref y, .int d, .int p, .int t] S (gAn S y 1 M (some (.int (nI 0)))) gNo := by
  refine gCt_of (lo := [some (.ref y), some (.int d), some (.int p), some (.int t)]) (by decide +kernel) (Nat.le_of_ble_eq_true rfl) (rfl) ?_
  intro Γ hd G F hini
  first | refine g_aload_n G dX9_lend_0 rfl ?_ | refine g_aload_nN G dX9_lend_0 rfl ?_ | refine g_aload_nQ G dX9_lend_0 rfl ?_
  refine g_iconst (v := nI 0) G dX9_lend_1 (by decide) ?_
  refine g_putI G fl_X9_91 pu_10_0 (h.1.kd) (by first | decide | omega) rfl dX9_lend_2 ?_
  have h0 := gRef_th (v := nI 0) h
  obtain ⟨r, q, -⟩ := id h0
  obtain ⟨i6, i8, i11, i17, i23, i2, i5⟩ := i.b
  first | refine g_aload_n G dX9_lend_5 rfl ?_ | refine g_aload_nN G dX9_lend_5 rfl ?_ | refine g_aload_nQ G dX9_lend_5 rfl ?_
  refine g_iload_n G dX9_lend_6 rfl ?_
  refine g_iload_n G dX9_lend_7 rfl ?_
  refine g_callVp (ci := 10) G (c_X9_isPair _ _ _ _ _ r i _ _) mt_X9_isPair mi_X9_isPair ml_X9_207 (r.kd) (by first | decide | omega) rfl (by decide) (by omega) (by omega) rfl (Nat.le_of_ble_eq_true rfl) dX9_lend_8 ?_
  refine g_if_ne (tgt := 20) G dX9_lend_11 (by decide) (fun c_11 => (absurd (gPair_y c_11).symm hno)) (fun c_11 => ?_)
  first | refine g_aload_n G dX9_lend_14 rfl ?_ | refine g_aload_nN G dX9_lend_14 rfl ?_ | refine g_aload_nQ G dX9_lend_14 rfl ?_
  refine g_iconst (v := nI 1) G dX9_lend_15 (by decide) ?_
  refine g_callV (ci := 10) G (c_X9_no _ _ _ _ r.kd) mt_X9_no mi_X9_no ml_X9_113 (r.kd) (by first | decide | omega) rfl (by decide) (by omega) (by omega) rfl (Nat.le_of_ble_eq_true rfl) dX9_lend_16 (fun v_16 S_16 hp_16 => ?_)
  obtain ⟨rfl, rfl⟩ := hp_16
  simp only [Option.toList, List.cons_append, List.nil_append]
  exact g_iret G F (gAn_N 1 h) (by omega) (by omega) dX9_lend_19

set_option maxHeartbeats 4000000 in
set_option maxRecDepth 100000 in
theorem c_X9_lend_no2 (d0 : Nat × Nat) (S : gS) (y : Nat) (b : Nat → Nat → Nat) (M : gM) (h : gRef S y b M) (i : gInv M) (d p : Nat) (t : Int32) (hd2 : d < mN M 11) (hp : p < mN M 8) (hw : ¬ (nI 1 ≤ t ∧ t ≤ nI 60)) : gCt d0 yX9_lend cX9_lend 4 (some .int) 10 1 12 [.ref y, .int (nI d), .int (nI p), .int t] S (gAn S y 2 M (some (.int (nI 0)))) gNo := by
  refine gCt_of (lo := [some (.ref y), some (.int (nI d)), some (.int (nI p)), some (.int t)]) (by decide +kernel) (Nat.le_of_ble_eq_true rfl) (rfl) ?_
  intro Γ hd G F hini
  first | refine g_aload_n G dX9_lend_0 rfl ?_ | refine g_aload_nN G dX9_lend_0 rfl ?_ | refine g_aload_nQ G dX9_lend_0 rfl ?_
  refine g_iconst (v := nI 0) G dX9_lend_1 (by decide) ?_
  refine g_putI G fl_X9_91 pu_10_0 (h.1.kd) (by first | decide | omega) rfl dX9_lend_2 ?_
  have h0 := gRef_th (v := nI 0) h
  obtain ⟨r, q, -⟩ := id h0
  obtain ⟨i6, i8, i11, i17, i23, i2, i5⟩ := i.b
  first | refine g_aload_n G dX9_lend_5 rfl ?_ | refine g_aload_nN G dX9_lend_5 rfl ?_ | refine g_aload_nQ G dX9_lend_5 rfl ?_
  refine g_iload_n G dX9_lend_6 rfl ?_
  refine g_iload_n G dX9_lend_7 rfl ?_
  refine g_callVp (ci := 10) G (c_X9_isPair _ _ _ _ _ r i _ _) mt_X9_isPair mi_X9_isPair ml_X9_207 (r.kd) (by first | decide | omega) rfl (by decide) (by omega) (by omega) rfl (Nat.le_of_ble_eq_true rfl) dX9_lend_8 ?_
  refine g_if_ne (tgt := 20) G dX9_lend_11 (by decide) (fun c_11 => ?_) (fun c_11 => (absurd c_11 (gPair_ok hp hd2 (by omega) (by omega))))
  refine g_iload_n G dX9_lend_20 rfl ?_
  refine g_iconst (v := nI 1) G dX9_lend_21 (by decide) ?_
  refine g_bipush (v := nI 60) G dX9_lend_22 (by decide) ?_
  refine g_callSp G (c_X9_isIn _ _ _ _ _) mt_X9_isIn ms_X9_isIn ml_X9_97 (by decide) (by omega) (by omega) rfl (Nat.le_of_ble_eq_true rfl) dX9_lend_24 ?_
  refine g_if_ne (tgt := 36) G dX9_lend_27 (by decide) (fun c_27 => (absurd (of_decide_eq_true (gB_ne0.mp c_27)) hw)) (fun c_27 => ?_)
  first | refine g_aload_n G dX9_lend_30 rfl ?_ | refine g_aload_nN G dX9_lend_30 rfl ?_ | refine g_aload_nQ G dX9_lend_30 rfl ?_
  refine g_iconst (v := nI 2) G dX9_lend_31 (by decide) ?_
  refine g_callV (ci := 10) G (c_X9_no _ _ _ _ r.kd) mt_X9_no mi_X9_no ml_X9_113 (r.kd) (by first | decide | omega) rfl (by decide) (by omega) (by omega) rfl (Nat.le_of_ble_eq_true rfl) dX9_lend_32 (fun v_32 S_32 hp_32 => ?_)
  obtain ⟨rfl, rfl⟩ := hp_32
  simp only [Option.toList, List.cons_append, List.nil_append]
  exact g_iret G F (gAn_N 2 h) (by omega) (by omega) dX9_lend_35

set_option maxHeartbeats 4000000 in
set_option maxRecDepth 100000 in
theorem c_X9_lend_no3 (d0 : Nat × Nat) (S : gS) (y : Nat) (b : Nat → Nat → Nat) (M : gM) (h : gRef S y b M) (i : gInv M) (d p : Nat) (t : Int32) (hd2 : d < mN M 11) (hp : p < mN M 8) (hw : nI 1 ≤ t ∧ t ≤ nI 60) (hno : ¬ (mA M 43 d = -1 ∧ gHid M p d = 0)) : gCt d0 yX9_lend cX9_lend 4 (some .int) 10 1 12 [.ref y, .int (nI d), .int (nI p), .int t] S (gAn S y 3 M (some (.int (nI 0)))) gNo := by
  refine gCt_of (lo := [some (.ref y), some (.int (nI d)), some (.int (nI p)), some (.int t)]) (by decide +kernel) (Nat.le_of_ble_eq_true rfl) (rfl) ?_
  intro Γ hd G F hini
  have hh := gct_le (gHidP M p d) (mN M (100 + d))
  have it := i.t hd2
  have hh2 : gHid M p d ≤ mN M (100 + d) := hh
  first | refine g_aload_n G dX9_lend_0 rfl ?_ | refine g_aload_nN G dX9_lend_0 rfl ?_ | refine g_aload_nQ G dX9_lend_0 rfl ?_
  refine g_iconst (v := nI 0) G dX9_lend_1 (by decide) ?_
  refine g_putI G fl_X9_91 pu_10_0 (h.1.kd) (by first | decide | omega) rfl dX9_lend_2 ?_
  have h0 := gRef_th (v := nI 0) h
  obtain ⟨r, q, -⟩ := id h0
  obtain ⟨i6, i8, i11, i17, i23, i2, i5⟩ := i.b
  first | refine g_aload_n G dX9_lend_5 rfl ?_ | refine g_aload_nN G dX9_lend_5 rfl ?_ | refine g_aload_nQ G dX9_lend_5 rfl ?_
  refine g_iload_n G dX9_lend_6 rfl ?_
  refine g_iload_n G dX9_lend_7 rfl ?_
  refine g_callVp (ci := 10) G (c_X9_isPair _ _ _ _ _ r i _ _) mt_X9_isPair mi_X9_isPair ml_X9_207 (r.kd) (by first | decide | omega) rfl (by decide) (by omega) (by omega) rfl (Nat.le_of_ble_eq_true rfl) dX9_lend_8 ?_
  refine g_if_ne (tgt := 20) G dX9_lend_11 (by decide) (fun c_11 => ?_) (fun c_11 => (absurd c_11 (gPair_ok hp hd2 (by omega) (by omega))))
  refine g_iload_n G dX9_lend_20 rfl ?_
  refine g_iconst (v := nI 1) G dX9_lend_21 (by decide) ?_
  refine g_bipush (v := nI 60) G dX9_lend_22 (by decide) ?_
  refine g_callSp G (c_X9_isIn _ _ _ _ _) mt_X9_isIn ms_X9_isIn ml_X9_97 (by decide) (by omega) (by omega) rfl (Nat.le_of_ble_eq_true rfl) dX9_lend_24 ?_
  refine g_if_ne (tgt := 36) G dX9_lend_27 (by decide) (fun c_27 => ?_) (fun c_27 => (absurd c_27 (gB_ne0.mpr (decide_eq_true hw))))
  first | refine g_aload_n G dX9_lend_36 rfl ?_ | refine g_aload_nN G dX9_lend_36 rfl ?_ | refine g_aload_nQ G dX9_lend_36 rfl ?_
  refine g_getR G fl_X9_75 (r.kd) (by first | decide | omega) rfl (r.st) dX9_lend_37 ?_
  refine g_getRN G fl_X9_158 (q.kd) (by first | decide | omega) rfl (q.Y 3 rfl) dX9_lend_40 ?_
  refine g_iload_n G dX9_lend_43 rfl ?_
  refine g_iald G (q.A 3 rfl) (by first | decide | omega) (q.lt 3 23 rfl (by omega)) (by omega) (q.X 3 23 rfl (by omega)) dX9_lend_44 ?_
  refine g_iconst (v := (-1)) G dX9_lend_45 (by decide) ?_
  refine g_icmp_ne (tgt := 58) G dX9_lend_46 (by decide) (fun c_46 => ?_) (fun c_46 => ?_)
  · first | refine g_aload_n G dX9_lend_58 rfl ?_ | refine g_aload_nN G dX9_lend_58 rfl ?_ | refine g_aload_nQ G dX9_lend_58 rfl ?_
    refine g_iconst (v := nI 3) G dX9_lend_59 (by decide) ?_
    refine g_callV (ci := 10) G (c_X9_no _ _ _ _ r.kd) mt_X9_no mi_X9_no ml_X9_113 (r.kd) (by first | decide | omega) rfl (by decide) (by omega) (by omega) rfl (Nat.le_of_ble_eq_true rfl) dX9_lend_60 (fun v_60 S_60 hp_60 => ?_)
    obtain ⟨rfl, rfl⟩ := hp_60
    simp only [Option.toList, List.cons_append, List.nil_append]
    exact g_iret G F (gAn_N 3 h) (by omega) (by omega) dX9_lend_63
  · have ho : mA M 43 d = -1 := c_46
    first | refine g_aload_n G dX9_lend_49 rfl ?_ | refine g_aload_nN G dX9_lend_49 rfl ?_ | refine g_aload_nQ G dX9_lend_49 rfl ?_
    refine g_iload_n G dX9_lend_50 rfl ?_
    refine g_iload_n G dX9_lend_51 rfl ?_
    refine g_callVp (ci := 10) G (c_X9_hiddenOf _ _ _ _ _ r q i _ _ (by omega) (by omega)) mt_X9_hiddenOf mi_X9_hiddenOf ml_X9_216 (r.kd) (by first | decide | omega) rfl (by decide) (by omega) (by omega) rfl (Nat.le_of_ble_eq_true rfl) dX9_lend_52 ?_
    refine g_if_le (tgt := 64) G dX9_lend_55 (by decide) (fun c_55 => (hno ⟨ho, by
        by_cases z : 0 < gHid M p d
        · exact absurd (nI_lt (a := 0) z (by omega)) (Int32.not_lt.mpr c_55)
        · omega⟩ |>.elim)) (fun c_55 => ?_)
    first | refine g_aload_n G dX9_lend_58 rfl ?_ | refine g_aload_nN G dX9_lend_58 rfl ?_ | refine g_aload_nQ G dX9_lend_58 rfl ?_
    refine g_iconst (v := nI 3) G dX9_lend_59 (by decide) ?_
    refine g_callV (ci := 10) G (c_X9_no _ _ _ _ r.kd) mt_X9_no mi_X9_no ml_X9_113 (r.kd) (by first | decide | omega) rfl (by decide) (by omega) (by omega) rfl (Nat.le_of_ble_eq_true rfl) dX9_lend_60 (fun v_60 S_60 hp_60 => ?_)
    obtain ⟨rfl, rfl⟩ := hp_60
    simp only [Option.toList, List.cons_append, List.nil_append]
    exact g_iret G F (gAn_N 3 h) (by omega) (by omega) dX9_lend_63

set_option maxHeartbeats 4000000 in
set_option maxRecDepth 100000 in
theorem c_X9_back (d0 : Nat × Nat) (S : gS) (y : Nat) (b : Nat → Nat → Nat) (M : gM) (h : gRef S y b M) (i : gInv M) (d : Nat) (hd2 : d < mN M 11) : gCt d0 yX9_back cX9_back 3 (some .int) 10 1 12 [.ref y, .int (nI d)] S (gAn S y 0 (mBack M d) (some (.int (mA M 43 d)))) gNo := by
  refine gCt_of (lo := [some (.ref y), some (.int (nI d)), none]) (by decide +kernel) (Nat.le_of_ble_eq_true rfl) (rfl) ?_
  intro Γ hd G F hini
  first | refine g_aload_n G dX9_back_0 rfl ?_ | refine g_aload_nN G dX9_back_0 rfl ?_ | refine g_aload_nQ G dX9_back_0 rfl ?_
  refine g_iconst (v := nI 0) G dX9_back_1 (by decide) ?_
  refine g_putI G fl_X9_91 pu_10_0 (h.1.kd) (by first | decide | omega) rfl dX9_back_2 ?_
  have h0 := gRef_th (v := nI 0) h
  obtain ⟨r, q, -⟩ := id h0
  obtain ⟨i6, i8, i11, i17, i23, i2, i5⟩ := i.b
  first | refine g_aload_n G dX9_back_5 rfl ?_ | refine g_aload_nN G dX9_back_5 rfl ?_ | refine g_aload_nQ G dX9_back_5 rfl ?_
  refine g_iload_n G dX9_back_6 rfl ?_
  refine g_callVp (ci := 10) G (c_X9_isDocument _ _ _ _ _ r i _) mt_X9_isDocument mi_X9_isDocument ml_X9_164 (r.kd) (by first | decide | omega) rfl (by decide) (by omega) (by omega) rfl (Nat.le_of_ble_eq_true rfl) dX9_back_7 ?_
  refine g_if_ne (tgt := 19) G dX9_back_10 (by decide) (fun c_10 => ?_) (fun c_10 => (absurd c_10 (gIxB_ok hd2 (by omega))))
  first | refine g_aload_n G dX9_back_19 rfl ?_ | refine g_aload_nN G dX9_back_19 rfl ?_ | refine g_aload_nQ G dX9_back_19 rfl ?_
  refine g_getR G fl_X9_75 (r.kd) (by first | decide | omega) rfl (r.st) dX9_back_20 ?_
  refine g_getRN G fl_X9_158 (q.kd) (by first | decide | omega) rfl (q.Y 3 rfl) dX9_back_23 ?_
  refine g_iload_n G dX9_back_26 rfl ?_
  refine g_iald G (q.A 3 rfl) (by first | decide | omega) (q.lt 3 23 rfl (by omega)) (by omega) (q.X 3 23 rfl (by omega)) dX9_back_27 ?_
  refine g_istore_n G dX9_back_28 (gSt_2 (by first | rfl | exact g_c1_rf)) ?_
  first | refine g_aload_n G dX9_back_29 rfl ?_ | refine g_aload_nN G dX9_back_29 rfl ?_ | refine g_aload_nQ G dX9_back_29 rfl ?_
  refine g_getR G fl_X9_75 (r.kd) (by first | decide | omega) rfl (r.st) dX9_back_30 ?_
  refine g_getRN G fl_X9_158 (q.kd) (by first | decide | omega) rfl (q.Y 3 rfl) dX9_back_33 ?_
  refine g_iload_n G dX9_back_36 rfl ?_
  refine g_iconst (v := (-1)) G dX9_back_37 (by decide) ?_
  refine g_iast G (q.A 3 rfl) (by first | decide | omega) (q.lt 3 23 rfl (by omega)) (by omega) (rfl) dX9_back_38 ?_
  have h1 := gRef_S 3 23 (j := d) (-1) h0 rfl (by omega)
  obtain ⟨r1, q1, -⟩ := id h1
  first | refine g_aload_n G dX9_back_39 rfl ?_ | refine g_aload_nN G dX9_back_39 rfl ?_ | refine g_aload_nQ G dX9_back_39 rfl ?_
  refine g_getR G fl_X9_75 (r1.kd) (by first | decide | omega) rfl (r1.st) dX9_back_40 ?_
  refine g_getRN G fl_X9_161 (q1.kd) (by first | decide | omega) rfl (q1.Y 4 rfl) dX9_back_43 ?_
  refine g_iload_n G dX9_back_46 rfl ?_
  refine g_iconst (v := (-1)) G dX9_back_47 (by decide) ?_
  refine g_iast G (q1.A 4 rfl) (by first | decide | omega) (q1.lt 4 23 rfl (by omega)) (by omega) (rfl) dX9_back_48 ?_
  have h2 := gRef_S 4 23 (j := d) (-1) h1 rfl (by omega)
  obtain ⟨r2, q2, -⟩ := id h2
  refine g_iload_n G dX9_back_49 rfl ?_
  exact g_iret G F (⟨rfl, sX_k (by decide) (sX_k (by decide) (sX_s)), b, h2, ((gFr_th).X1 _ _ _ (fun k z => by unfold gCk at z; omega)).X1 _ _ _ (fun k z => by unfold gCk at z; omega)⟩) (by omega) (by omega) dX9_back_50

set_option maxHeartbeats 4000000 in
set_option maxRecDepth 100000 in
theorem c_X9_back_no (d0 : Nat × Nat) (S : gS) (y : Nat) (b : Nat → Nat → Nat) (M : gM) (h : gRef S y b M) (i : gInv M) (d : Int32) (hno : ¬ gIx (mN M 11) d) : gCt d0 yX9_back cX9_back 3 (some .int) 10 1 12 [.ref y, .int d] S (gAn S y 1 M (some (.int (nI 0)))) gNo := by
  refine gCt_of (lo := [some (.ref y), some (.int d), none]) (by decide +kernel) (Nat.le_of_ble_eq_true rfl) (rfl) ?_
  intro Γ hd G F hini
  first | refine g_aload_n G dX9_back_0 rfl ?_ | refine g_aload_nN G dX9_back_0 rfl ?_ | refine g_aload_nQ G dX9_back_0 rfl ?_
  refine g_iconst (v := nI 0) G dX9_back_1 (by decide) ?_
  refine g_putI G fl_X9_91 pu_10_0 (h.1.kd) (by first | decide | omega) rfl dX9_back_2 ?_
  have h0 := gRef_th (v := nI 0) h
  obtain ⟨r, q, -⟩ := id h0
  obtain ⟨i6, i8, i11, i17, i23, i2, i5⟩ := i.b
  first | refine g_aload_n G dX9_back_5 rfl ?_ | refine g_aload_nN G dX9_back_5 rfl ?_ | refine g_aload_nQ G dX9_back_5 rfl ?_
  refine g_iload_n G dX9_back_6 rfl ?_
  refine g_callVp (ci := 10) G (c_X9_isDocument _ _ _ _ _ r i _) mt_X9_isDocument mi_X9_isDocument ml_X9_164 (r.kd) (by first | decide | omega) rfl (by decide) (by omega) (by omega) rfl (Nat.le_of_ble_eq_true rfl) dX9_back_7 ?_
  refine g_if_ne (tgt := 19) G dX9_back_10 (by decide) (fun c_10 => (absurd (gIxB_y c_10) hno)) (fun c_10 => ?_)
  first | refine g_aload_n G dX9_back_13 rfl ?_ | refine g_aload_nN G dX9_back_13 rfl ?_ | refine g_aload_nQ G dX9_back_13 rfl ?_
  refine g_iconst (v := nI 1) G dX9_back_14 (by decide) ?_
  refine g_callV (ci := 10) G (c_X9_no _ _ _ _ r.kd) mt_X9_no mi_X9_no ml_X9_113 (r.kd) (by first | decide | omega) rfl (by decide) (by omega) (by omega) rfl (Nat.le_of_ble_eq_true rfl) dX9_back_15 (fun v_15 S_15 hp_15 => ?_)
  obtain ⟨rfl, rfl⟩ := hp_15
  simp only [Option.toList, List.cons_append, List.nil_append]
  exact g_iret G F (gAn_N 1 h) (by omega) (by omega) dX9_back_18

set_option maxHeartbeats 4000000 in
set_option maxRecDepth 100000 in
theorem c_X9_lose (d0 : Nat × Nat) (S : gS) (y : Nat) (b : Nat → Nat → Nat) (M : gM) (h : gRef S y b M) (i : gInv M) (e : Nat) (he : e < mN M 17) (hl : ¬ mA M 19 e = -2) : gCt d0 yX9_lose cX9_lose 3 (some .int) 10 1 12 [.ref y, .int (nI e)] S (gAn S y 0 (uA M 19 e (-2)) (some (.int (mA M 19 e)))) gNo := by
  refine gCt_of (lo := [some (.ref y), some (.int (nI e)), none]) (by decide +kernel) (Nat.le_of_ble_eq_true rfl) (rfl) ?_
  intro Γ hd G F hini
  first | refine g_aload_n G dX9_lose_0 rfl ?_ | refine g_aload_nN G dX9_lose_0 rfl ?_ | refine g_aload_nQ G dX9_lose_0 rfl ?_
  refine g_iconst (v := nI 0) G dX9_lose_1 (by decide) ?_
  refine g_putI G fl_X9_91 pu_10_0 (h.1.kd) (by first | decide | omega) rfl dX9_lose_2 ?_
  have h0 := gRef_th (v := nI 0) h
  obtain ⟨r, q, -⟩ := id h0
  obtain ⟨i6, i8, i11, i17, i23, i2, i5⟩ := i.b
  first | refine g_aload_n G dX9_lose_5 rfl ?_ | refine g_aload_nN G dX9_lose_5 rfl ?_ | refine g_aload_nQ G dX9_lose_5 rfl ?_
  refine g_iload_n G dX9_lose_6 rfl ?_
  refine g_callVp (ci := 10) G (c_X9_isExhibit _ _ _ _ _ r i _) mt_X9_isExhibit mi_X9_isExhibit ml_X9_228 (r.kd) (by first | decide | omega) rfl (by decide) (by omega) (by omega) rfl (Nat.le_of_ble_eq_true rfl) dX9_lose_7 ?_
  refine g_if_ne (tgt := 19) G dX9_lose_10 (by decide) (fun c_10 => ?_) (fun c_10 => (absurd c_10 (gIxB_ok he (by omega))))
  first | refine g_aload_n G dX9_lose_19 rfl ?_ | refine g_aload_nN G dX9_lose_19 rfl ?_ | refine g_aload_nQ G dX9_lose_19 rfl ?_
  refine g_getR G fl_X9_49 (r.kd) (by first | decide | omega) rfl (r.Y 19 rfl) dX9_lose_20 ?_
  refine g_iload_n G dX9_lose_23 rfl ?_
  refine g_iald G (r.A 19 rfl) (by first | decide | omega) (r.lt 19 19 rfl (by omega)) (by omega) (r.X 19 19 rfl rfl (by omega)) dX9_lose_24 ?_
  refine g_istore_n G dX9_lose_25 (gSt_2 (by first | rfl | exact g_c1_rf)) ?_
  refine g_iload_n G dX9_lose_26 rfl ?_
  refine g_bipush (v := (-2)) G dX9_lose_27 (by decide) ?_
  refine g_icmp_ne (tgt := 38) G dX9_lose_29 (by decide) (fun c_29 => ?_) (fun c_29 => (absurd c_29 hl))
  first | refine g_aload_n G dX9_lose_38 rfl ?_ | refine g_aload_nN G dX9_lose_38 rfl ?_ | refine g_aload_nQ G dX9_lose_38 rfl ?_
  refine g_getR G fl_X9_49 (r.kd) (by first | decide | omega) rfl (r.Y 19 rfl) dX9_lose_39 ?_
  refine g_iload_n G dX9_lose_42 rfl ?_
  refine g_bipush (v := (-2)) G dX9_lose_43 (by decide) ?_
  refine g_iast G (r.A 19 rfl) (by first | decide | omega) (r.lt 19 19 rfl (by omega)) (by omega) (rfl) dX9_lose_45 ?_
  have h1 := gRef_A 19 19 (j := e) (-2) h0 rfl rfl (by omega)
  obtain ⟨r1, q1, -⟩ := id h1
  refine g_iload_n G dX9_lose_46 rfl ?_
  exact g_iret G F (⟨rfl, sX_k (by decide) (sX_s), b, h1, (gFr_th).X1 _ _ _ (fun k z => by unfold gCk at z; omega)⟩) (by omega) (by omega) dX9_lose_47

set_option maxHeartbeats 4000000 in
set_option maxRecDepth 100000 in
theorem c_X9_lose_no (d0 : Nat × Nat) (S : gS) (y : Nat) (b : Nat → Nat → Nat) (M : gM) (h : gRef S y b M) (i : gInv M) (e : Int32) (hno : ¬ gIx (mN M 17) e) : gCt d0 yX9_lose cX9_lose 3 (some .int) 10 1 12 [.ref y, .int e] S (gAn S y 1 M (some (.int (nI 0)))) gNo := by
  refine gCt_of (lo := [some (.ref y), some (.int e), none]) (by decide +kernel) (Nat.le_of_ble_eq_true rfl) (rfl) ?_
  intro Γ hd G F hini
  first | refine g_aload_n G dX9_lose_0 rfl ?_ | refine g_aload_nN G dX9_lose_0 rfl ?_ | refine g_aload_nQ G dX9_lose_0 rfl ?_
  refine g_iconst (v := nI 0) G dX9_lose_1 (by decide) ?_
  refine g_putI G fl_X9_91 pu_10_0 (h.1.kd) (by first | decide | omega) rfl dX9_lose_2 ?_
  have h0 := gRef_th (v := nI 0) h
  obtain ⟨r, q, -⟩ := id h0
  obtain ⟨i6, i8, i11, i17, i23, i2, i5⟩ := i.b
  first | refine g_aload_n G dX9_lose_5 rfl ?_ | refine g_aload_nN G dX9_lose_5 rfl ?_ | refine g_aload_nQ G dX9_lose_5 rfl ?_
  refine g_iload_n G dX9_lose_6 rfl ?_
  refine g_callVp (ci := 10) G (c_X9_isExhibit _ _ _ _ _ r i _) mt_X9_isExhibit mi_X9_isExhibit ml_X9_228 (r.kd) (by first | decide | omega) rfl (by decide) (by omega) (by omega) rfl (Nat.le_of_ble_eq_true rfl) dX9_lose_7 ?_
  refine g_if_ne (tgt := 19) G dX9_lose_10 (by decide) (fun c_10 => (absurd (gIxB_y c_10) hno)) (fun c_10 => ?_)
  first | refine g_aload_n G dX9_lose_13 rfl ?_ | refine g_aload_nN G dX9_lose_13 rfl ?_ | refine g_aload_nQ G dX9_lose_13 rfl ?_
  refine g_iconst (v := nI 1) G dX9_lose_14 (by decide) ?_
  refine g_callV (ci := 10) G (c_X9_no _ _ _ _ r.kd) mt_X9_no mi_X9_no ml_X9_113 (r.kd) (by first | decide | omega) rfl (by decide) (by omega) (by omega) rfl (Nat.le_of_ble_eq_true rfl) dX9_lose_15 (fun v_15 S_15 hp_15 => ?_)
  obtain ⟨rfl, rfl⟩ := hp_15
  simp only [Option.toList, List.cons_append, List.nil_append]
  exact g_iret G F (gAn_N 1 h) (by omega) (by omega) dX9_lose_18

set_option maxHeartbeats 4000000 in
set_option maxRecDepth 100000 in
theorem c_X9_lose_no2 (d0 : Nat × Nat) (S : gS) (y : Nat) (b : Nat → Nat → Nat) (M : gM) (h : gRef S y b M) (i : gInv M) (e : Nat) (he : e < mN M 17) (hl : mA M 19 e = -2) : gCt d0 yX9_lose cX9_lose 3 (some .int) 10 1 12 [.ref y, .int (nI e)] S (gAn S y 2 M (some (.int (nI 0)))) gNo := by
  refine gCt_of (lo := [some (.ref y), some (.int (nI e)), none]) (by decide +kernel) (Nat.le_of_ble_eq_true rfl) (rfl) ?_
  intro Γ hd G F hini
  first | refine g_aload_n G dX9_lose_0 rfl ?_ | refine g_aload_nN G dX9_lose_0 rfl ?_ | refine g_aload_nQ G dX9_lose_0 rfl ?_
  refine g_iconst (v := nI 0) G dX9_lose_1 (by decide) ?_
  refine g_putI G fl_X9_91 pu_10_0 (h.1.kd) (by first | decide | omega) rfl dX9_lose_2 ?_
  have h0 := gRef_th (v := nI 0) h
  obtain ⟨r, q, -⟩ := id h0
  obtain ⟨i6, i8, i11, i17, i23, i2, i5⟩ := i.b
  first | refine g_aload_n G dX9_lose_5 rfl ?_ | refine g_aload_nN G dX9_lose_5 rfl ?_ | refine g_aload_nQ G dX9_lose_5 rfl ?_
  refine g_iload_n G dX9_lose_6 rfl ?_
  refine g_callVp (ci := 10) G (c_X9_isExhibit _ _ _ _ _ r i _) mt_X9_isExhibit mi_X9_isExhibit ml_X9_228 (r.kd) (by first | decide | omega) rfl (by decide) (by omega) (by omega) rfl (Nat.le_of_ble_eq_true rfl) dX9_lose_7 ?_
  refine g_if_ne (tgt := 19) G dX9_lose_10 (by decide) (fun c_10 => ?_) (fun c_10 => (absurd c_10 (gIxB_ok he (by omega))))
  first | refine g_aload_n G dX9_lose_19 rfl ?_ | refine g_aload_nN G dX9_lose_19 rfl ?_ | refine g_aload_nQ G dX9_lose_19 rfl ?_
  refine g_getR G fl_X9_49 (r.kd) (by first | decide | omega) rfl (r.Y 19 rfl) dX9_lose_20 ?_
  refine g_iload_n G dX9_lose_23 rfl ?_
  refine g_iald G (r.A 19 rfl) (by first | decide | omega) (r.lt 19 19 rfl (by omega)) (by omega) (r.X 19 19 rfl rfl (by omega)) dX9_lose_24 ?_
  refine g_istore_n G dX9_lose_25 (gSt_2 (by first | rfl | exact g_c1_rf)) ?_
  refine g_iload_n G dX9_lose_26 rfl ?_
  refine g_bipush (v := (-2)) G dX9_lose_27 (by decide) ?_
  refine g_icmp_ne (tgt := 38) G dX9_lose_29 (by decide) (fun c_29 => (absurd hl c_29)) (fun c_29 => ?_)
  first | refine g_aload_n G dX9_lose_32 rfl ?_ | refine g_aload_nN G dX9_lose_32 rfl ?_ | refine g_aload_nQ G dX9_lose_32 rfl ?_
  refine g_iconst (v := nI 2) G dX9_lose_33 (by decide) ?_
  refine g_callV (ci := 10) G (c_X9_no _ _ _ _ r.kd) mt_X9_no mi_X9_no ml_X9_113 (r.kd) (by first | decide | omega) rfl (by decide) (by omega) (by omega) rfl (Nat.le_of_ble_eq_true rfl) dX9_lose_34 (fun v_34 S_34 hp_34 => ?_)
  obtain ⟨rfl, rfl⟩ := hp_34
  simp only [Option.toList, List.cons_append, List.nil_append]
  exact g_iret G F (gAn_N 2 h) (by omega) (by omega) dX9_lose_37
