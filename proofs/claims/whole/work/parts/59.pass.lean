/-! ===== the reference: pass, arrives ===== -/
theorem mCarry_a {M : gM} {k f : Nat} (h : f < 41) : mA (mCarry M k) f = mA M f := by
  unfold mCarry mLog
  split
  · exact funext fun j => (uA_f (by omega)).trans ((uA_f (by omega)).trans (uA_f (by omega)))
  · exact funext fun j => (uA_f (by omega)).trans (uA_f (by omega))
theorem mCarry_t {M : gM} {k : Nat} : mT (mCarry M k) = mT M := by
  unfold mCarry mLog
  split <;> rfl
theorem mCarN_a {M : gM} {f : Nat} (h : f < 41) : ∀ n, mA (mCarN M n).1 f = mA M f ∧ mT (mCarN M n).1 = mT M
  | 0 => ⟨rfl, rfl⟩
  | n + 1 => by
    have ih := mCarN_a (M := M) h n
    cases e : gNx (mCarN M n).1 (mN M 23) with
    | none => rw [mCarN_none e]; exact ih
    | some k => rw [mCarN_some e]; exact ⟨(mCarry_a h).trans ih.1, mCarry_t.trans ih.2⟩
theorem mRet_a {M : gM} {d f : Nat} (h : f < 41) : mA (mRet M d) f = mA M f ∧ mT (mRet M d) = mT M := by
  unfold mRet mBack mWarn
  split
  · split
    · exact ⟨funext fun j => (uA_f (by omega)).trans ((uA_f (by omega)).trans (uA_f (by omega))), rfl⟩
    · exact ⟨funext fun j => (uA_f (by omega)).trans ((uA_f (by omega)).trans ((uA_f (by omega)).trans (uA_f (by omega)))), rfl⟩
  · exact ⟨rfl, rfl⟩
theorem mRetN_a {M : gM} {f : Nat} (h : f < 41) : ∀ n, mA (mRetN M n) f = mA M f ∧ mT (mRetN M n) = mT M
  | 0 => ⟨rfl, rfl⟩
  | n + 1 => ⟨(mRet_a h).1.trans (mRetN_a h n).1, (mRet_a h).2.trans (mRetN_a h n).2⟩
theorem mDay_a {M : gM} {f : Nat} (h : f < 41) : mA (mDay M) f = mA M f ∧ mT (mDay M) = mT M := ⟨(mRetN_a h _).1.trans (mCarN_a h _).1, (mRetN_a h _).2.trans (mCarN_a h _).2⟩
theorem mDay_o {M : gM} {i : Nat} (h : i ≠ 40) : mN (mDay M) i = mN M i := by
  unfold mDay
  rw [mRetN_n, uN_o h, mCarN_n]
theorem mDay_40 {M : gM} : mN (mDay M) 40 = mN M 40 + 1 := by
  unfold mDay
  rw [mRetN_n]
  exact uN_s
theorem mDays_o {M : gM} {i : Nat} (h : i ≠ 40) : ∀ n, mN (mDays M n).1 i = mN M i
  | 0 => rfl
  | n + 1 => (mDay_o h).trans (mDays_o h n)
theorem mDays_a {M : gM} {f : Nat} (h : f < 41) : ∀ n, mA (mDays M n).1 f = mA M f ∧ mT (mDays M n).1 = mT M
  | 0 => ⟨rfl, rfl⟩
  | n + 1 => ⟨(mDay_a h).1.trans (mDays_a h n).1, (mDay_a h).2.trans (mDays_a h n).2⟩
theorem mDays_40 {M : gM} : ∀ n, mN (mDays M n).1 40 = mN M 40 + n
  | 0 => rfl
  | n + 1 => by
    show mN (mDay (mDays M n).1) 40 = _
    rw [mDay_40, mDays_40 n]
    omega
theorem gStt_d {S : gS} {y s ρ : Nat} {b : Nat → Nat → Nat} {M : gM} (n : Nat) (h : gStt S s ρ b y M) : gStt (sX S (10 + 32 * ρ) 0 s (nI n)) s ρ b y (uN M 40 n) := by
  obtain ⟨q1, q2, q3, q4⟩ := h
  exact ⟨q1, by rw [uN_s]; exact sX_s, q3, fun g hg => ⟨(q4 g hg).1, (q4 g hg).2.1, (q4 g hg).2.2.1, fun j hj => sX_k (by omega) ((q4 g hg).2.2.2 j hj)⟩⟩
theorem gStt_R {S : gS} {y s ρ g : Nat} {b : Nat → Nat → Nat} {M : gM} {f f2 : Nat → Int32} (h : gStt S s ρ b y M) (hg : gLs g ≠ 0) (e : ∀ j, j < gLs g → f j = f2 j) : gStt (sXr S (17 + 32 * (60 + 10 * ρ + g)) (b (1 + ρ) g) f) s ρ b y (uR M (40 + g) f2) := by
  obtain ⟨q1, q2, q3, q4⟩ := h
  have F := gFr_Xr S (17 + 32 * (60 + 10 * ρ + g)) (b (1 + ρ) g) f
  refine ⟨q1, F.X (K := fun k => k ≠ 17 + 32 * (60 + 10 * ρ + g)) (by omega) q2, q3, fun g' hg' => ⟨(q4 g' hg').1, (q4 g' hg').2.1, (q4 g' hg').2.2.1, fun j hj => ?_⟩⟩
  by_cases z : g' = g
  · subst z
    rw [uR_s]
    exact (congrFun (u2_same _ _ _ _) j).trans (e j hj)
  · rw [uR_f (by omega)]
    exact F.X (K := fun k => k ≠ 17 + 32 * (60 + 10 * ρ + g)) (by omega) ((q4 g' hg').2.2.2 j hj)

theorem gStt_cp {S : gS} {y s a g n : Nat} {b : Nat → Nat → Nat} {M Ma : gM} (q : gStt S s 0 b y M) (w : gStt S a 1 b y Ma) (e : gLs g = n + 1) : gStt (sXr S (17 + 32 * (60 + 10 * 1 + g)) (b (1 + 1) g) (va_cpy (gX S (17 + 32 * (60 + 10 * 0 + g)) (b (1 + 0) g)) (gX S (17 + 32 * (60 + 10 * 1 + g)) (b (1 + 1) g)) 0 0 (n + 1))) a 1 b y (uR Ma (40 + g) (mA M (40 + g))) ∧ gFr (gPk 1) S (sXr S (17 + 32 * (60 + 10 * 1 + g)) (b (1 + 1) g) (va_cpy (gX S (17 + 32 * (60 + 10 * 0 + g)) (b (1 + 0) g)) (gX S (17 + 32 * (60 + 10 * 1 + g)) (b (1 + 1) g)) 0 0 (n + 1))) := by
  have hl := gLs_lt (f := g) (by rw [e]; omega)
  refine ⟨gStt_R w (by rw [e]; omega) (fun j hj => ?_), (gFr_Xr _ _ _ _).mono (fun k z => by unfold gPk at z; omega)⟩
  rw [e] at hj
  unfold va_cpy
  rw [if_pos ⟨Nat.zero_le _, by omega⟩, Nat.zero_add, Nat.sub_zero]
  exact q.X g n e hj

set_option maxHeartbeats 4000000 in
set_option maxRecDepth 100000 in
theorem c_X8_copy (d0 : Nat × Nat) (S : gS) (s a0 a1 κ0 κ1 n : Nat) (h0 : gK S a0 = κ0) (h1 : gK S a1 = κ1) (t0 : κ0 % 32 = 17) (t1 : κ1 % 32 = 17) (l0 : gL S a0 = n) (l1 : gL S a1 = n) (hn : n ≤ 100) : gCt d0 yX8_copy cX8_copy 3 none 1 0 0 [.ref s, .ref a0, .ref a1] S (fun v' S' => v' = none ∧ S' = sXr S κ1 a1 (va_cpy (gX S κ0 a0) (gX S κ1 a1) 0 0 n)) gNo := by
  refine gCt_of (lo := [some (.ref s), some (.ref a0), some (.ref a1)]) (by decide +kernel) (Nat.le_of_ble_eq_true rfl) (rfl) ?_
  intro Γ hd G F hini
  first | refine g_aload_n G dX8_copy_0 rfl ?_ | refine g_aload_nN G dX8_copy_0 rfl ?_ | refine g_aload_nQ G dX8_copy_0 rfl ?_
  refine g_iconst (v := nI 0) G dX8_copy_1 (by decide) ?_
  first | refine g_aload_n G dX8_copy_2 rfl ?_ | refine g_aload_nN G dX8_copy_2 rfl ?_ | refine g_aload_nQ G dX8_copy_2 rfl ?_
  refine g_iconst (v := nI 0) G dX8_copy_3 (by decide) ?_
  first | refine g_aload_n G dX8_copy_4 rfl ?_ | refine g_aload_nN G dX8_copy_4 rfl ?_ | refine g_aload_nQ G dX8_copy_4 rfl ?_
  refine g_alen G (h0) (by first | decide | omega) (l0) dX8_copy_5 ?_
  refine g_acopyI (sp := 0) (dp := 0) (N := n) G kac_X8_37 h0 h1 (by omega) (by omega) (by omega) ⟨by omega, by omega, by omega⟩ (fun i hi => by rw [t0]; rfl) (by omega) (by decide) dX8_copy_6 ?_
  exact g_vret G F (⟨rfl, rfl⟩) (by omega) (by omega) dX8_copy_9

set_option maxHeartbeats 4000000 in
set_option maxRecDepth 100000 in
theorem c_X8_become (d0 : Nat × Nat) (S : gS) (y s a : Nat) (b : Nat → Nat → Nat) (M Ma : gM) (q : gStt S s 0 b y M) (w0 : gStt S a 1 b y Ma) : gCt d0 yX8_become cX8_become 2 none 2 0 0 [.ref a, .ref s] S (fun v' S' => v' = none ∧ gStt S' a 1 b y M ∧ gFr (gPk 1) S S') gNo := by
  refine gCt_of (lo := [some (.ref a), some (.ref s)]) (by decide +kernel) (Nat.le_of_ble_eq_true rfl) (rfl) ?_
  intro Γ hd G F hini
  first | refine g_aload_n G dX8_become_0 rfl ?_ | refine g_aload_nN G dX8_become_0 rfl ?_ | refine g_aload_nQ G dX8_become_0 rfl ?_
  first | refine g_aload_n G dX8_become_1 rfl ?_ | refine g_aload_nN G dX8_become_1 rfl ?_ | refine g_aload_nQ G dX8_become_1 rfl ?_
  refine g_getI G fl_X8_43 (q.kd) (by first | decide | omega) rfl (q.d) dX8_become_2 ?_
  refine g_putI G fl_X8_43 pu_9_0 (w0.kd) (by first | decide | omega) rfl dX8_become_5 ?_
  have w1 := gStt_d (mN M 40) w0
  have F1 : gFr (gPk 1) S (sX S (10 + 32 * 1) 0 a (nI (mN M 40))) := (gFr.rf S).X1 _ _ _ (fun k z => z.1)
  have q1 := gStt_mono q F1 (by unfold gPk; omega) (fun g h1 h2 => by unfold gPk; omega)
  first | refine g_aload_n G dX8_become_8 rfl ?_ | refine g_aload_nN G dX8_become_8 rfl ?_ | refine g_aload_nQ G dX8_become_8 rfl ?_
  first | refine g_aload_n G dX8_become_9 rfl ?_ | refine g_aload_nN G dX8_become_9 rfl ?_ | refine g_aload_nQ G dX8_become_9 rfl ?_
  refine g_getR G fl_X8_15 (q1.kd) (by first | decide | omega) rfl (q1.Y 1 rfl) dX8_become_10 ?_
  first | refine g_aload_n G dX8_become_13 rfl ?_ | refine g_aload_nN G dX8_become_13 rfl ?_ | refine g_aload_nQ G dX8_become_13 rfl ?_
  refine g_getR G fl_X8_15 (w1.kd) (by first | decide | omega) rfl (w1.Y 1 rfl) dX8_become_14 ?_
  refine g_callV (ci := 9) G (c_X8_copy _ _ a _ _ _ _ 12 (q1.A 1 rfl) (w1.A 1 rfl) (by decide) (by decide) (q1.L 1 11 rfl) (w1.L 1 11 rfl) (by decide)) mt_X8_copy mi_X8_copy ml_X8_47 (w1.kd) (by first | decide | omega) rfl (by decide) (by omega) (by omega) rfl (Nat.le_of_ble_eq_true rfl) dX8_become_17 (fun v_17 S_17 hp_17 => ?_)
  obtain ⟨rfl, rfl⟩ := hp_17
  simp only [Option.toList, List.nil_append]
  obtain ⟨w2, f1⟩ := gStt_cp (g := 1) (n := 11) q1 w1 rfl
  have F2 := F1.tr (K := gPk 1) f1 (fun k z => ⟨z, z⟩)
  have q2 := gStt_mono q1 f1 (by unfold gPk; omega) (fun g h1 h2 => by unfold gPk; omega)
  first | refine g_aload_n G dX8_become_20 rfl ?_ | refine g_aload_nN G dX8_become_20 rfl ?_ | refine g_aload_nQ G dX8_become_20 rfl ?_
  first | refine g_aload_n G dX8_become_21 rfl ?_ | refine g_aload_nN G dX8_become_21 rfl ?_ | refine g_aload_nQ G dX8_become_21 rfl ?_
  refine g_getR G fl_X8_19 (q2.kd) (by first | decide | omega) rfl (q2.Y 2 rfl) dX8_become_22 ?_
  first | refine g_aload_n G dX8_become_25 rfl ?_ | refine g_aload_nN G dX8_become_25 rfl ?_ | refine g_aload_nQ G dX8_become_25 rfl ?_
  refine g_getR G fl_X8_19 (w2.kd) (by first | decide | omega) rfl (w2.Y 2 rfl) dX8_become_26 ?_
  refine g_callV (ci := 9) G (c_X8_copy _ _ a _ _ _ _ 12 (q2.A 2 rfl) (w2.A 2 rfl) (by decide) (by decide) (q2.L 2 11 rfl) (w2.L 2 11 rfl) (by decide)) mt_X8_copy mi_X8_copy ml_X8_47 (w2.kd) (by first | decide | omega) rfl (by decide) (by omega) (by omega) rfl (Nat.le_of_ble_eq_true rfl) dX8_become_29 (fun v_29 S_29 hp_29 => ?_)
  obtain ⟨rfl, rfl⟩ := hp_29
  simp only [Option.toList, List.nil_append]
  obtain ⟨w3, f2⟩ := gStt_cp (g := 2) (n := 11) q2 w2 rfl
  have F3 := F2.tr (K := gPk 1) f2 (fun k z => ⟨z, z⟩)
  have q3 := gStt_mono q2 f2 (by unfold gPk; omega) (fun g h1 h2 => by unfold gPk; omega)
  first | refine g_aload_n G dX8_become_32 rfl ?_ | refine g_aload_nN G dX8_become_32 rfl ?_ | refine g_aload_nQ G dX8_become_32 rfl ?_
  first | refine g_aload_n G dX8_become_33 rfl ?_ | refine g_aload_nN G dX8_become_33 rfl ?_ | refine g_aload_nQ G dX8_become_33 rfl ?_
  refine g_getR G fl_X8_22 (q3.kd) (by first | decide | omega) rfl (q3.Y 3 rfl) dX8_become_34 ?_
  first | refine g_aload_n G dX8_become_37 rfl ?_ | refine g_aload_nN G dX8_become_37 rfl ?_ | refine g_aload_nQ G dX8_become_37 rfl ?_
  refine g_getR G fl_X8_22 (w3.kd) (by first | decide | omega) rfl (w3.Y 3 rfl) dX8_become_38 ?_
  refine g_callV (ci := 9) G (c_X8_copy _ _ a _ _ _ _ 24 (q3.A 3 rfl) (w3.A 3 rfl) (by decide) (by decide) (q3.L 3 23 rfl) (w3.L 3 23 rfl) (by decide)) mt_X8_copy mi_X8_copy ml_X8_47 (w3.kd) (by first | decide | omega) rfl (by decide) (by omega) (by omega) rfl (Nat.le_of_ble_eq_true rfl) dX8_become_41 (fun v_41 S_41 hp_41 => ?_)
  obtain ⟨rfl, rfl⟩ := hp_41
  simp only [Option.toList, List.nil_append]
  obtain ⟨w4, f3⟩ := gStt_cp (g := 3) (n := 23) q3 w3 rfl
  have F4 := F3.tr (K := gPk 1) f3 (fun k z => ⟨z, z⟩)
  have q4 := gStt_mono q3 f3 (by unfold gPk; omega) (fun g h1 h2 => by unfold gPk; omega)
  first | refine g_aload_n G dX8_become_44 rfl ?_ | refine g_aload_nN G dX8_become_44 rfl ?_ | refine g_aload_nQ G dX8_become_44 rfl ?_
  first | refine g_aload_n G dX8_become_45 rfl ?_ | refine g_aload_nN G dX8_become_45 rfl ?_ | refine g_aload_nQ G dX8_become_45 rfl ?_
  refine g_getR G fl_X8_25 (q4.kd) (by first | decide | omega) rfl (q4.Y 4 rfl) dX8_become_46 ?_
  first | refine g_aload_n G dX8_become_49 rfl ?_ | refine g_aload_nN G dX8_become_49 rfl ?_ | refine g_aload_nQ G dX8_become_49 rfl ?_
  refine g_getR G fl_X8_25 (w4.kd) (by first | decide | omega) rfl (w4.Y 4 rfl) dX8_become_50 ?_
  refine g_callV (ci := 9) G (c_X8_copy _ _ a _ _ _ _ 24 (q4.A 4 rfl) (w4.A 4 rfl) (by decide) (by decide) (q4.L 4 23 rfl) (w4.L 4 23 rfl) (by decide)) mt_X8_copy mi_X8_copy ml_X8_47 (w4.kd) (by first | decide | omega) rfl (by decide) (by omega) (by omega) rfl (Nat.le_of_ble_eq_true rfl) dX8_become_53 (fun v_53 S_53 hp_53 => ?_)
  obtain ⟨rfl, rfl⟩ := hp_53
  simp only [Option.toList, List.nil_append]
  obtain ⟨w5, f4⟩ := gStt_cp (g := 4) (n := 23) q4 w4 rfl
  have F5 := F4.tr (K := gPk 1) f4 (fun k z => ⟨z, z⟩)
  have q5 := gStt_mono q4 f4 (by unfold gPk; omega) (fun g h1 h2 => by unfold gPk; omega)
  first | refine g_aload_n G dX8_become_56 rfl ?_ | refine g_aload_nN G dX8_become_56 rfl ?_ | refine g_aload_nQ G dX8_become_56 rfl ?_
  first | refine g_aload_n G dX8_become_57 rfl ?_ | refine g_aload_nN G dX8_become_57 rfl ?_ | refine g_aload_nQ G dX8_become_57 rfl ?_
  refine g_getR G fl_X8_28 (q5.kd) (by first | decide | omega) rfl (q5.Y 5 rfl) dX8_become_58 ?_
  first | refine g_aload_n G dX8_become_61 rfl ?_ | refine g_aload_nN G dX8_become_61 rfl ?_ | refine g_aload_nQ G dX8_become_61 rfl ?_
  refine g_getR G fl_X8_28 (w5.kd) (by first | decide | omega) rfl (w5.Y 5 rfl) dX8_become_62 ?_
  refine g_callV (ci := 9) G (c_X8_copy _ _ a _ _ _ _ 24 (q5.A 5 rfl) (w5.A 5 rfl) (by decide) (by decide) (q5.L 5 23 rfl) (w5.L 5 23 rfl) (by decide)) mt_X8_copy mi_X8_copy ml_X8_47 (w5.kd) (by first | decide | omega) rfl (by decide) (by omega) (by omega) rfl (Nat.le_of_ble_eq_true rfl) dX8_become_65 (fun v_65 S_65 hp_65 => ?_)
  obtain ⟨rfl, rfl⟩ := hp_65
  simp only [Option.toList, List.nil_append]
  obtain ⟨w6, f5⟩ := gStt_cp (g := 5) (n := 23) q5 w5 rfl
  have F6 := F5.tr (K := gPk 1) f5 (fun k z => ⟨z, z⟩)
  have q6 := gStt_mono q5 f5 (by unfold gPk; omega) (fun g h1 h2 => by unfold gPk; omega)
  first | refine g_aload_n G dX8_become_68 rfl ?_ | refine g_aload_nN G dX8_become_68 rfl ?_ | refine g_aload_nQ G dX8_become_68 rfl ?_
  first | refine g_aload_n G dX8_become_69 rfl ?_ | refine g_aload_nN G dX8_become_69 rfl ?_ | refine g_aload_nQ G dX8_become_69 rfl ?_
  refine g_getR G fl_X8_31 (q6.kd) (by first | decide | omega) rfl (q6.Y 6 rfl) dX8_become_70 ?_
  first | refine g_aload_n G dX8_become_73 rfl ?_ | refine g_aload_nN G dX8_become_73 rfl ?_ | refine g_aload_nQ G dX8_become_73 rfl ?_
  refine g_getR G fl_X8_31 (w6.kd) (by first | decide | omega) rfl (w6.Y 6 rfl) dX8_become_74 ?_
  refine g_callV (ci := 9) G (c_X8_copy _ _ a _ _ _ _ 40 (q6.A 6 rfl) (w6.A 6 rfl) (by decide) (by decide) (q6.L 6 39 rfl) (w6.L 6 39 rfl) (by decide)) mt_X8_copy mi_X8_copy ml_X8_47 (w6.kd) (by first | decide | omega) rfl (by decide) (by omega) (by omega) rfl (Nat.le_of_ble_eq_true rfl) dX8_become_77 (fun v_77 S_77 hp_77 => ?_)
  obtain ⟨rfl, rfl⟩ := hp_77
  simp only [Option.toList, List.nil_append]
  obtain ⟨w7, f6⟩ := gStt_cp (g := 6) (n := 39) q6 w6 rfl
  have F7 := F6.tr (K := gPk 1) f6 (fun k z => ⟨z, z⟩)
  have q7 := gStt_mono q6 f6 (by unfold gPk; omega) (fun g h1 h2 => by unfold gPk; omega)
  first | refine g_aload_n G dX8_become_80 rfl ?_ | refine g_aload_nN G dX8_become_80 rfl ?_ | refine g_aload_nQ G dX8_become_80 rfl ?_
  first | refine g_aload_n G dX8_become_81 rfl ?_ | refine g_aload_nN G dX8_become_81 rfl ?_ | refine g_aload_nQ G dX8_become_81 rfl ?_
  refine g_getR G fl_X8_34 (q7.kd) (by first | decide | omega) rfl (q7.Y 7 rfl) dX8_become_82 ?_
  first | refine g_aload_n G dX8_become_85 rfl ?_ | refine g_aload_nN G dX8_become_85 rfl ?_ | refine g_aload_nQ G dX8_become_85 rfl ?_
  refine g_getR G fl_X8_34 (w7.kd) (by first | decide | omega) rfl (w7.Y 7 rfl) dX8_become_86 ?_
  refine g_callV (ci := 9) G (c_X8_copy _ _ a _ _ _ _ 40 (q7.A 7 rfl) (w7.A 7 rfl) (by decide) (by decide) (q7.L 7 39 rfl) (w7.L 7 39 rfl) (by decide)) mt_X8_copy mi_X8_copy ml_X8_47 (w7.kd) (by first | decide | omega) rfl (by decide) (by omega) (by omega) rfl (Nat.le_of_ble_eq_true rfl) dX8_become_89 (fun v_89 S_89 hp_89 => ?_)
  obtain ⟨rfl, rfl⟩ := hp_89
  simp only [Option.toList, List.nil_append]
  obtain ⟨w8, f7⟩ := gStt_cp (g := 7) (n := 39) q7 w7 rfl
  have F8 := F7.tr (K := gPk 1) f7 (fun k z => ⟨z, z⟩)
  have q8 := gStt_mono q7 f7 (by unfold gPk; omega) (fun g h1 h2 => by unfold gPk; omega)
  exact g_vret G F (⟨rfl, gStt_M w8 (show mN M 40 = _ from (show mN (uN Ma 40 (mN M 40)) 40 = mN M 40 from uN_s).symm) (fun g h1 h2 => by
      obtain rfl | rfl | rfl | rfl | rfl | rfl | rfl := (show g = 1 ∨ g = 2 ∨ g = 3 ∨ g = 4 ∨ g = 5 ∨ g = 6 ∨ g = 7 by omega) <;> rfl), F8⟩) (by omega) (by omega) dX8_become_92

set_option maxHeartbeats 4000000 in
set_option maxRecDepth 100000 in
theorem c_X9_pass (d0 : Nat × Nat) (S : gS) (y : Nat) (b : Nat → Nat → Nat) (M : gM) (h : gRef S y b M) (i : gInv M) (n : Nat) (hn1 : 1 ≤ n) (hn : n ≤ 100) : gCt d0 yX9_pass cX9_pass 4 (some .int) 10 1 12 [.ref y, .int (nI n)] S (gAn S y 0 ((mDays M n).1) (some (.int (nI (mDays M n).2)))) gNo := by
  refine gCt_of (lo := [some (.ref y), some (.int (nI n)), none, none]) (by decide +kernel) (Nat.le_of_ble_eq_true rfl) (rfl) ?_
  intro Γ hd G F hini
  first | refine g_aload_n G dX9_pass_0 rfl ?_ | refine g_aload_nN G dX9_pass_0 rfl ?_ | refine g_aload_nQ G dX9_pass_0 rfl ?_
  refine g_iconst (v := nI 0) G dX9_pass_1 (by decide) ?_
  refine g_putI G fl_X9_91 pu_10_0 (h.1.kd) (by first | decide | omega) rfl dX9_pass_2 ?_
  have h0 := gRef_th (v := nI 0) h
  obtain ⟨r, q, -⟩ := id h0
  obtain ⟨i6, i8, i11, i17, i23, i2, i5⟩ := i.b
  refine g_iload_n G dX9_pass_5 rfl ?_
  refine g_iconst (v := nI 1) G dX9_pass_6 (by decide) ?_
  refine g_bipush (v := nI 100) G dX9_pass_7 (by decide) ?_
  refine g_callSp G (c_X9_isIn _ _ _ _ _) mt_X9_isIn ms_X9_isIn ml_X9_97 (by decide) (by omega) (by omega) rfl (Nat.le_of_ble_eq_true rfl) dX9_pass_9 ?_
  refine g_if_ne (tgt := 21) G dX9_pass_12 (by decide) (fun c_12 => ?_) (fun c_12 => (absurd c_12 (gB_ne0.mpr (decide_eq_true ⟨(nI_leI (a := 1) (by omega) (by omega)).mpr hn1, (nI_leI (b := 100) (by omega) (by omega)).mpr hn⟩))))
  refine g_iconst (v := nI 0) G dX9_pass_21 (by decide) ?_
  refine g_istore_n G dX9_pass_22 (gSt_2 (by first | rfl | exact g_c1_rf)) ?_
  refine g_iconst (v := nI 0) G dX9_pass_23 (by decide) ?_
  refine g_istore_n G dX9_pass_24 (gSt_3 (by first | rfl | exact g_c1_rf)) ?_
  have loop25 : ∀ f2 t : Nat, ∀ St : gS, t ≤ n → n + 1 ≤ t + f2 → (gRef St y b (mDays M t).1 ∧ gX St 11 0 y = nI 0 ∧ gFr gCk S St) → gW Γ 25 [some (.ref y), some (.int (nI n)), some (.int (nI (mDays M (t)).2)), some (.int (nI (t)))] [] St 0 0 := by
    intro f2
    induction f2 with
    | zero => intro t St  q1 q2; omega
    | succ f2 ih2 =>
      intro t St  ht2 hf2  hv2
      obtain ⟨hR, hth, hF9⟩ := hv2
      obtain ⟨r, q, hMa⟩ := id hR
      refine g_iload_n G dX9_pass_25 rfl ?_
      refine g_iload_n G dX9_pass_26 rfl ?_
      refine g_icmp_ge (tgt := 46) G dX9_pass_27 (by decide) (fun c_27 => ?_) (fun c_27 => ?_)
      · have et : t = n := by have := (nI_leI (by omega) (by omega)).mp c_27; omega
        subst et
        refine g_iload_n G dX9_pass_46 rfl ?_
        exact g_iret G F (⟨rfl, hth, b, hR, hF9⟩) (by omega) (by omega) dX9_pass_47
      · have hlt2 : t < n := by have z : ¬ n ≤ t := fun z => c_27 ((nI_leI (by omega) (by omega)).mpr z); omega
        refine g_iload_n G dX9_pass_30 rfl ?_
        first | refine g_aload_n G dX9_pass_31 rfl ?_ | refine g_aload_nN G dX9_pass_31 rfl ?_ | refine g_aload_nQ G dX9_pass_31 rfl ?_
        refine g_getR G fl_X9_75 (r.kd) (by first | decide | omega) rfl (r.st) dX9_pass_32 ?_
        refine g_callV (ci := 9) G (c_X8_pass _ St y (b 0 27) 0 b (mDays M t).1 r q (gInv_days i t) (by omega)) mt_X8_pass mi_X8_pass ml_X9_250 (q.kd) (by first | decide | omega) rfl (by decide) (by omega) (by omega) rfl (Nat.le_of_ble_eq_true rfl) dX9_pass_35 (fun v_35 S_35 hp_35 => ?_)
        obtain ⟨rfl, hB, FB⟩ := hp_35
        simp only [Option.toList, List.cons_append, List.nil_append]
        have hR2 : gRef S_35 y b (mDays M (t + 1)).1 := ⟨hB.1, hB.2, hMa.elim fun Ma z => ⟨Ma, gStt_mono z FB (by unfold gPk; omega) (fun g h1 h2 => by unfold gPk; omega)⟩⟩
        have hth2 := FB.X (κ := 11) (p := 0) (a := y) (by unfold gPk; omega) hth
        have hF2 := hF9.tr (K := gCk) FB (fun k z => ⟨z, by unfold gCk at z; unfold gPk; omega⟩)
        refine g_iadd G dX9_pass_38 (nI_add _ _) ?_
        refine g_istore_n G dX9_pass_39 (gSt_2 (by first | rfl | exact g_c1_rf)) ?_
        refine g_iinc (v := _) G dX9_pass_40 rfl (by first | exact nI_1 _ | rfl) (gSt_3 (by first | rfl | exact g_c1_rf)) ?_
        refine g_goto (tgt := 25) G dX9_pass_43 (by decide) ?_
        exact ih2 (t + 1) _ (by omega) (by omega) ⟨hR2, hth2, hF2⟩
  exact loop25 (n + 1) 0 _ (by omega) (by omega) ⟨h0, sX_s, gFr_th⟩

set_option maxHeartbeats 4000000 in
set_option maxRecDepth 100000 in
theorem c_X9_pass_no (d0 : Nat × Nat) (S : gS) (y : Nat) (b : Nat → Nat → Nat) (M : gM) (h : gRef S y b M) (i : gInv M) (n : Int32) (hno : ¬ (nI 1 ≤ n ∧ n ≤ nI 100)) : gCt d0 yX9_pass cX9_pass 4 (some .int) 10 1 12 [.ref y, .int n] S (gAn S y 1 M (some (.int (nI 0)))) gNo := by
  refine gCt_of (lo := [some (.ref y), some (.int n), none, none]) (by decide +kernel) (Nat.le_of_ble_eq_true rfl) (rfl) ?_
  intro Γ hd G F hini
  first | refine g_aload_n G dX9_pass_0 rfl ?_ | refine g_aload_nN G dX9_pass_0 rfl ?_ | refine g_aload_nQ G dX9_pass_0 rfl ?_
  refine g_iconst (v := nI 0) G dX9_pass_1 (by decide) ?_
  refine g_putI G fl_X9_91 pu_10_0 (h.1.kd) (by first | decide | omega) rfl dX9_pass_2 ?_
  have h0 := gRef_th (v := nI 0) h
  obtain ⟨r, q, -⟩ := id h0
  obtain ⟨i6, i8, i11, i17, i23, i2, i5⟩ := i.b
  refine g_iload_n G dX9_pass_5 rfl ?_
  refine g_iconst (v := nI 1) G dX9_pass_6 (by decide) ?_
  refine g_bipush (v := nI 100) G dX9_pass_7 (by decide) ?_
  refine g_callSp G (c_X9_isIn _ _ _ _ _) mt_X9_isIn ms_X9_isIn ml_X9_97 (by decide) (by omega) (by omega) rfl (Nat.le_of_ble_eq_true rfl) dX9_pass_9 ?_
  refine g_if_ne (tgt := 21) G dX9_pass_12 (by decide) (fun c_12 => (absurd (of_decide_eq_true (gB_ne0.mp c_12)) hno)) (fun c_12 => ?_)
  first | refine g_aload_n G dX9_pass_15 rfl ?_ | refine g_aload_nN G dX9_pass_15 rfl ?_ | refine g_aload_nQ G dX9_pass_15 rfl ?_
  refine g_iconst (v := nI 1) G dX9_pass_16 (by decide) ?_
  refine g_callV (ci := 10) G (c_X9_no _ _ _ _ r.kd) mt_X9_no mi_X9_no ml_X9_113 (r.kd) (by first | decide | omega) rfl (by decide) (by omega) (by omega) rfl (Nat.le_of_ble_eq_true rfl) dX9_pass_17 (fun v_17 S_17 hp_17 => ?_)
  obtain ⟨rfl, rfl⟩ := hp_17
  simp only [Option.toList, List.cons_append, List.nil_append]
  exact g_iret G F (gAn_N 1 h) (by omega) (by omega) dX9_pass_20

theorem gRest_p {S S' : gS} {y : Nat} {b : Nat → Nat → Nat} {M : gM} (r : gRest S y b M) (F : gFr (gPk 1) S S') : gRest S' y b M := by
  obtain ⟨r1, r2, r3, r4, r5, r6, r7, r8, r9, r10, r11⟩ := r
  have k11 : gPk 1 11 := by unfold gPk; omega
  have kf : ∀ f, f ≤ 31 → gPk 1 (17 + 32 * (10 + f)) := fun f hf => by unfold gPk; omega
  refine ⟨F.K r1 (by decide), fun c h => F.X k11 (r2 c h), F.X k11 r3, fun f h => ⟨F.Y k11 (r4 f h).1, F.K (r4 f h).2.1 (by omega), ((F.1 _ (by rw [(r4 f h).2.1]; omega)).2).trans (r4 f h).2.2⟩, fun f h j hj => F.X (kf f (by have := gExa_lt h; omega)) (r5 f h j hj), fun e he => F.X (kf 21 (by omega)) (r6 e he), fun j hj => F.X (kf 1 (by omega)) (r7 j hj), fun j hj => F.X (kf 4 (by omega)) (r8 j hj), fun f h1 h2 => ?_, F.Y k11 r10, F.Y k11 r11⟩
  obtain ⟨t1, t2, t3, t4⟩ := r9 f h1 h2
  exact ⟨F.Y k11 t1, F.K t2 (by omega), ((F.1 _ (by rw [t2]; omega)).2).trans t3, fun d hd => ⟨F.Y (by unfold gPk; omega) (t4 d hd).1, gRow1_mono (t4 d hd).2 F (by unfold gPk; omega) (by omega)⟩⟩

set_option maxHeartbeats 4000000 in
set_option maxRecDepth 100000 in
theorem c_X9_arrives (d0 : Nat × Nat) (S : gS) (y : Nat) (b : Nat → Nat → Nat) (M : gM) (h : gRef S y b M) (i : gInv M) (l : Nat) (hl : l < mN M 23) : gCt d0 yX9_arrives cX9_arrives 3 (some .int) 10 1 12 [.ref y, .int (nI l)] S (fun v' S' => ∃ u, u ≤ 40 ∧ (∀ v, v < u → mA (mDays M v).1 46 l = 0) ∧ (¬ mA (mDays M u).1 46 l = 0 ∨ u = 40) ∧ gAn S y 0 M (some (.int (if mA (mDays M u).1 46 l = nI 1 then nI u else -1))) v' S') gNo := by
  refine gCt_of (lo := [some (.ref y), some (.int (nI l)), none]) (by decide +kernel) (Nat.le_of_ble_eq_true rfl) (rfl) ?_
  intro Γ hd G F hini
  first | refine g_aload_n G dX9_arrives_0 rfl ?_ | refine g_aload_nN G dX9_arrives_0 rfl ?_ | refine g_aload_nQ G dX9_arrives_0 rfl ?_
  refine g_iconst (v := nI 0) G dX9_arrives_1 (by decide) ?_
  refine g_putI G fl_X9_91 pu_10_0 (h.1.kd) (by first | decide | omega) rfl dX9_arrives_2 ?_
  have h0 := gRef_th (v := nI 0) h
  obtain ⟨r, q, -⟩ := id h0
  obtain ⟨i6, i8, i11, i17, i23, i2, i5⟩ := i.b
  refine g_iload_n G dX9_arrives_5 rfl ?_
  refine g_iconst (v := nI 0) G dX9_arrives_6 (by decide) ?_
  first | refine g_aload_n G dX9_arrives_7 rfl ?_ | refine g_aload_nN G dX9_arrives_7 rfl ?_ | refine g_aload_nQ G dX9_arrives_7 rfl ?_
  refine g_getI G fl_X9_182 (r.kd) (by first | decide | omega) rfl (r.n 23 rfl) dX9_arrives_8 ?_
  refine g_iconst (v := nI 1) G dX9_arrives_11 (by decide) ?_
  refine g_isub G dX9_arrives_12 (rfl) ?_
  refine g_callSp G (c_X9_isIn _ _ _ _ _) mt_X9_isIn ms_X9_isIn ml_X9_97 (by decide) (by omega) (by omega) rfl (Nat.le_of_ble_eq_true rfl) dX9_arrives_13 ?_
  rw [gIxB_dec0 (by omega)]
  refine g_if_ne (tgt := 25) G dX9_arrives_16 (by decide) (fun c_16 => ?_) (fun c_16 => (absurd c_16 (gIxB_ok hl (by omega))))
  first | refine g_aload_n G dX9_arrives_25 rfl ?_ | refine g_aload_nN G dX9_arrives_25 rfl ?_ | refine g_aload_nQ G dX9_arrives_25 rfl ?_
  refine g_getR G fl_X9_79 (r.kd) (by first | decide | omega) rfl (r.a) dX9_arrives_26 ?_
  first | refine g_aload_n G dX9_arrives_29 rfl ?_ | refine g_aload_nN G dX9_arrives_29 rfl ?_ | refine g_aload_nQ G dX9_arrives_29 rfl ?_
  refine g_getR G fl_X9_75 (r.kd) (by first | decide | omega) rfl (r.st) dX9_arrives_30 ?_
  obtain ⟨-, -, Ma0, wa⟩ := id h0
  refine g_callV (ci := 9) G (c_X8_become _ _ y (b 0 27) (b 0 28) b M Ma0 q wa) mt_X8_become mi_X8_become ml_X9_254 (wa.kd) (by first | decide | omega) rfl (by decide) (by omega) (by omega) rfl (Nat.le_of_ble_eq_true rfl) dX9_arrives_33 (fun v_33 S_33 hp_33 => ?_)
  obtain ⟨rfl, wA, FA⟩ := hp_33
  simp only [Option.toList, List.nil_append]
  have rA := gRest_p r FA
  have hsA := gStt_mono q FA (by unfold gPk; omega) (fun g h1 h2 => by unfold gPk; omega)
  have hthA := FA.X (κ := 11) (p := 0) (a := y) (v := nI 0) (by unfold gPk; omega) sX_s
  have hFA := gFr_th.tr (K := gCk) FA (fun k z => ⟨z, by unfold gCk at z; unfold gPk; omega⟩)
  refine g_iconst (v := nI 0) G dX9_arrives_36 (by decide) ?_
  refine g_istore_n G dX9_arrives_37 (gSt_2 (by first | rfl | exact g_c1_rf)) ?_
  have loop38 : ∀ f2 t : Nat, ∀ St : gS, t ≤ 40 → 40 + 1 ≤ t + f2 → (gRest St y b (mDays M t).1 ∧ gStt St (b 0 28) 1 b y (mDays M t).1 ∧ gStt St (b 0 27) 0 b y M ∧ gX St 11 0 y = nI 0 ∧ gFr gCk S St ∧ ∀ v, v < t → mA (mDays M v).1 46 l = 0) → gW Γ 38 [some (.ref y), some (.int (nI l)), some (.int (nI (t)))] [] St 0 0 := by
    intro f2
    induction f2 with
    | zero => intro t St  q1 q2; omega
    | succ f2 ih2 =>
      intro t St  ht2 hf2  hv2
      obtain ⟨r, w, hs, hth, hF9, hz⟩ := hv2
      have e23 : mN (mDays M t).1 23 = mN M 23 := mDays_o (by omega) t
      first | refine g_aload_n G dX9_arrives_38 rfl ?_ | refine g_aload_nN G dX9_arrives_38 rfl ?_ | refine g_aload_nQ G dX9_arrives_38 rfl ?_
      refine g_getR G fl_X9_79 (r.kd) (by first | decide | omega) rfl (r.a) dX9_arrives_39 ?_
      refine g_getRN G fl_X9_185 (w.kd) (by first | decide | omega) rfl (w.Y 6 rfl) dX9_arrives_42 ?_
      refine g_iload_n G dX9_arrives_45 rfl ?_
      refine g_iald G (w.A 6 rfl) (by first | decide | omega) (w.lt 6 39 rfl (by omega)) (by omega) (w.X 6 39 rfl (by omega)) dX9_arrives_46 ?_
      refine g_if_ne (tgt := 70) G dX9_arrives_47 (by decide) (fun c_47 => ?_) (fun c_47 => ?_)
      · have hx : ¬ mA (mDays M t).1 46 l = 0 ∨ t = 40 := Or.inl c_47
        first | refine g_aload_n G dX9_arrives_70 rfl ?_ | refine g_aload_nN G dX9_arrives_70 rfl ?_ | refine g_aload_nQ G dX9_arrives_70 rfl ?_
        refine g_getR G fl_X9_79 (r.kd) (by first | decide | omega) rfl (r.a) dX9_arrives_71 ?_
        refine g_getRN G fl_X9_185 (w.kd) (by first | decide | omega) rfl (w.Y 6 rfl) dX9_arrives_74 ?_
        refine g_iload_n G dX9_arrives_77 rfl ?_
        refine g_iald G (w.A 6 rfl) (by first | decide | omega) (w.lt 6 39 rfl (by omega)) (by omega) (w.X 6 39 rfl (by omega)) dX9_arrives_78 ?_
        refine g_iconst (v := nI 1) G dX9_arrives_79 (by decide) ?_
        refine g_icmp_ne (tgt := 87) G dX9_arrives_80 (by decide) (fun c_80 => ?_) (fun c_80 => ?_)
        · have e9 := c_80
          refine g_iconst (v := (-1)) G dX9_arrives_87 (by decide) ?_
          exact g_iret G F (by first | exact ⟨_, ht2, hz, hx, by rw [if_pos e9], hth, b, ⟨gRest_M r (fun i hi => (mDays_o hi _).symm) (fun f hf => (mDays_a (by omega) _).1.symm) ((mDays_a (f := 0) (by omega) _).2.symm), hs, _, w⟩, hF9⟩ | exact ⟨_, ht2, hz, hx, by rw [if_neg e9], hth, b, ⟨gRest_M r (fun i hi => (mDays_o hi _).symm) (fun f hf => (mDays_a (by omega) _).1.symm) ((mDays_a (f := 0) (by omega) _).2.symm), hs, _, w⟩, hF9⟩) (by omega) (by omega) dX9_arrives_88
        · have e9 := c_80
          refine g_iload_n G dX9_arrives_83 rfl ?_
          refine g_goto (tgt := 88) G dX9_arrives_84 (by decide) ?_
          exact g_iret G F (by first | exact ⟨_, ht2, hz, hx, by rw [if_pos e9], hth, b, ⟨gRest_M r (fun i hi => (mDays_o hi _).symm) (fun f hf => (mDays_a (by omega) _).1.symm) ((mDays_a (f := 0) (by omega) _).2.symm), hs, _, w⟩, hF9⟩ | exact ⟨_, ht2, hz, hx, by rw [if_neg e9], hth, b, ⟨gRest_M r (fun i hi => (mDays_o hi _).symm) (fun f hf => (mDays_a (by omega) _).1.symm) ((mDays_a (f := 0) (by omega) _).2.symm), hs, _, w⟩, hF9⟩) (by omega) (by omega) dX9_arrives_88
      · have hd0 : mA (mDays M t).1 46 l = 0 := c_47
        refine g_iload_n G dX9_arrives_50 rfl ?_
        refine g_bipush (v := nI 40) G dX9_arrives_51 (by decide) ?_
        refine g_icmp_ge (tgt := 70) G dX9_arrives_53 (by decide) (fun c_53 => ?_) (fun c_53 => ?_)
        · have et : t = 40 := by have := (nI_leI (by omega) (by omega)).mp c_53; omega
          subst et
          have hx : ¬ mA (mDays M 40).1 46 l = 0 ∨ (40 : Nat) = 40 := Or.inr rfl
          first | refine g_aload_n G dX9_arrives_70 rfl ?_ | refine g_aload_nN G dX9_arrives_70 rfl ?_ | refine g_aload_nQ G dX9_arrives_70 rfl ?_
          refine g_getR G fl_X9_79 (r.kd) (by first | decide | omega) rfl (r.a) dX9_arrives_71 ?_
          refine g_getRN G fl_X9_185 (w.kd) (by first | decide | omega) rfl (w.Y 6 rfl) dX9_arrives_74 ?_
          refine g_iload_n G dX9_arrives_77 rfl ?_
          refine g_iald G (w.A 6 rfl) (by first | decide | omega) (w.lt 6 39 rfl (by omega)) (by omega) (w.X 6 39 rfl (by omega)) dX9_arrives_78 ?_
          refine g_iconst (v := nI 1) G dX9_arrives_79 (by decide) ?_
          refine g_icmp_ne (tgt := 87) G dX9_arrives_80 (by decide) (fun c_80 => ?_) (fun c_80 => ?_)
          · have e9 := c_80
            refine g_iconst (v := (-1)) G dX9_arrives_87 (by decide) ?_
            exact g_iret G F (by first | exact ⟨_, ht2, hz, hx, by rw [if_pos e9], hth, b, ⟨gRest_M r (fun i hi => (mDays_o hi _).symm) (fun f hf => (mDays_a (by omega) _).1.symm) ((mDays_a (f := 0) (by omega) _).2.symm), hs, _, w⟩, hF9⟩ | exact ⟨_, ht2, hz, hx, by rw [if_neg e9], hth, b, ⟨gRest_M r (fun i hi => (mDays_o hi _).symm) (fun f hf => (mDays_a (by omega) _).1.symm) ((mDays_a (f := 0) (by omega) _).2.symm), hs, _, w⟩, hF9⟩) (by omega) (by omega) dX9_arrives_88
          · have e9 := c_80
            refine g_iload_n G dX9_arrives_83 rfl ?_
            refine g_goto (tgt := 88) G dX9_arrives_84 (by decide) ?_
            exact g_iret G F (by first | exact ⟨_, ht2, hz, hx, by rw [if_pos e9], hth, b, ⟨gRest_M r (fun i hi => (mDays_o hi _).symm) (fun f hf => (mDays_a (by omega) _).1.symm) ((mDays_a (f := 0) (by omega) _).2.symm), hs, _, w⟩, hF9⟩ | exact ⟨_, ht2, hz, hx, by rw [if_neg e9], hth, b, ⟨gRest_M r (fun i hi => (mDays_o hi _).symm) (fun f hf => (mDays_a (by omega) _).1.symm) ((mDays_a (f := 0) (by omega) _).2.symm), hs, _, w⟩, hF9⟩) (by omega) (by omega) dX9_arrives_88
        · have hlt2 : t < 40 := by have z : ¬ 40 ≤ t := fun z => c_53 ((nI_leI (by omega) (by omega)).mpr z); omega
          first | refine g_aload_n G dX9_arrives_56 rfl ?_ | refine g_aload_nN G dX9_arrives_56 rfl ?_ | refine g_aload_nQ G dX9_arrives_56 rfl ?_
          refine g_getR G fl_X9_79 (r.kd) (by first | decide | omega) rfl (r.a) dX9_arrives_57 ?_
          refine g_callV (ci := 9) G (c_X8_pass _ St y (b 0 28) 1 b (mDays M t).1 r w (gInv_days i t) (by omega)) mt_X8_pass mi_X8_pass ml_X9_250 (w.kd) (by first | decide | omega) rfl (by decide) (by omega) (by omega) rfl (Nat.le_of_ble_eq_true rfl) dX9_arrives_60 (fun v_60 S_60 hp_60 => ?_)
          obtain ⟨rfl, hB, FB⟩ := hp_60
          simp only [Option.toList, List.cons_append, List.nil_append]
          have hs2 := gStt_mono hs FB (by unfold gPk; omega) (fun g h1 h2 => by unfold gPk; omega)
          have hth2 := FB.X (κ := 11) (p := 0) (a := y) (by unfold gPk; omega) hth
          have hF2 := hF9.tr (K := gCk) FB (fun k z => ⟨z, by unfold gCk at z; unfold gPk; omega⟩)
          refine g_pop G dX9_arrives_63 rfl ?_
          refine g_iinc (v := _) G dX9_arrives_64 rfl (by first | exact nI_1 _ | rfl) (gSt_2 (by first | rfl | exact g_c1_rf)) ?_
          refine g_goto (tgt := 38) G dX9_arrives_67 (by decide) ?_
          exact ih2 (t + 1) _ (by omega) (by omega) ⟨hB.1, hB.2, hs2, hth2, hF2, fun v hv => (Nat.lt_or_ge v t).elim (hz v) (fun y9 => by rw [show v = t by omega]; exact hd0)⟩
  exact loop38 (40 + 1) 0 _ (by omega) (by omega) ⟨rA, wA, hsA, hthA, hFA, fun v hv => by omega⟩

set_option maxHeartbeats 4000000 in
set_option maxRecDepth 100000 in
theorem c_X9_arrives_no (d0 : Nat × Nat) (S : gS) (y : Nat) (b : Nat → Nat → Nat) (M : gM) (h : gRef S y b M) (i : gInv M) (l : Int32) (hno : ¬ gIx (mN M 23) l) : gCt d0 yX9_arrives cX9_arrives 3 (some .int) 10 1 12 [.ref y, .int l] S (gAn S y 1 M (some (.int (nI 0)))) gNo := by
  refine gCt_of (lo := [some (.ref y), some (.int l), none]) (by decide +kernel) (Nat.le_of_ble_eq_true rfl) (rfl) ?_
  intro Γ hd G F hini
  first | refine g_aload_n G dX9_arrives_0 rfl ?_ | refine g_aload_nN G dX9_arrives_0 rfl ?_ | refine g_aload_nQ G dX9_arrives_0 rfl ?_
  refine g_iconst (v := nI 0) G dX9_arrives_1 (by decide) ?_
  refine g_putI G fl_X9_91 pu_10_0 (h.1.kd) (by first | decide | omega) rfl dX9_arrives_2 ?_
  have h0 := gRef_th (v := nI 0) h
  obtain ⟨r, q, -⟩ := id h0
  obtain ⟨i6, i8, i11, i17, i23, i2, i5⟩ := i.b
  refine g_iload_n G dX9_arrives_5 rfl ?_
  refine g_iconst (v := nI 0) G dX9_arrives_6 (by decide) ?_
  first | refine g_aload_n G dX9_arrives_7 rfl ?_ | refine g_aload_nN G dX9_arrives_7 rfl ?_ | refine g_aload_nQ G dX9_arrives_7 rfl ?_
  refine g_getI G fl_X9_182 (r.kd) (by first | decide | omega) rfl (r.n 23 rfl) dX9_arrives_8 ?_
  refine g_iconst (v := nI 1) G dX9_arrives_11 (by decide) ?_
  refine g_isub G dX9_arrives_12 (rfl) ?_
  refine g_callSp G (c_X9_isIn _ _ _ _ _) mt_X9_isIn ms_X9_isIn ml_X9_97 (by decide) (by omega) (by omega) rfl (Nat.le_of_ble_eq_true rfl) dX9_arrives_13 ?_
  rw [gIxB_dec0 (by omega)]
  refine g_if_ne (tgt := 25) G dX9_arrives_16 (by decide) (fun c_16 => (absurd (gIxB_y c_16) hno)) (fun c_16 => ?_)
  first | refine g_aload_n G dX9_arrives_19 rfl ?_ | refine g_aload_nN G dX9_arrives_19 rfl ?_ | refine g_aload_nQ G dX9_arrives_19 rfl ?_
  refine g_iconst (v := nI 1) G dX9_arrives_20 (by decide) ?_
  refine g_callV (ci := 10) G (c_X9_no _ _ _ _ r.kd) mt_X9_no mi_X9_no ml_X9_113 (r.kd) (by first | decide | omega) rfl (by decide) (by omega) (by omega) rfl (Nat.le_of_ble_eq_true rfl) dX9_arrives_21 (fun v_21 S_21 hp_21 => ?_)
  obtain ⟨rfl, rfl⟩ := hp_21
  simp only [Option.toList, List.cons_append, List.nil_append]
  exact g_iret G F (gAn_N 1 h) (by omega) (by omega) dX9_arrives_24
