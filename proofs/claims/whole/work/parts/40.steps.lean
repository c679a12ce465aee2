/-! ===== the draft's steps ===== -/
theorem dEx1_n (D : gM) : mN (dEx1 D) 0 = mN D 0 := rfl
theorem dEx4_n (D : gM) : mN (dEx4 D) 0 = mN D 0 + 4 := rfl
theorem dEx5_n (D : gM) : mN (dEx5 D) 0 ≤ mN D 0 + 5 := by
  unfold dEx5
  split
  · rw [dEx4_n]; omega
  · show mN (dEx4 D) 0 + 1 ≤ _
    rw [dEx4_n]
    omega
theorem dEx5_p {D : gM} {j : Nat} (h : 0 < j) (h2 : j ≠ 2) : mN (dEx5 D) j = mN D j := by
  have e : ∀ D b m, mN (dPut D b m) j = mN D j := fun D b m => uN_o (by omega)
  have e4 : mN (dEx4 D) j = mN D j := by
    unfold dEx4 dEx1
    rw [e, e, e, e]
    exact uN_o h2
  unfold dEx5
  split
  · exact e4
  · rw [e]; exact e4
theorem dEnd_p {D : gM} {j : Nat} (h : 0 < j) (h2 : j ≠ 2) : mN (dEnd D) j = mN D j := by
  unfold dEnd
  split
  · exact (show mN (dPut (dEx5 D) _ _) j = mN (dEx5 D) j from uN_o (by omega)).trans (dEx5_p h h2)
  · unfold dFar
    split
    · exact uN_o h2
    · exact uN_o h2
theorem dEnd_2 (D : gM) : mN (dEnd D) 2 = 0 := by
  have e : ∀ D b m, mN (dPut D b m) 2 = mN D 2 := fun D b m => rfl
  unfold dEnd
  split
  · unfold dEx
    rw [e]
    unfold dEx5
    split <;> rfl
  · unfold dFar
    split <;> rfl
theorem dEnd_n (D : gM) : mN (dEnd D) 0 ≤ mN D 0 + (if mN D 4 < 10 then 5 else 6) := by
  unfold dEnd
  split
  · unfold dEx
    show mN (dEx5 D) 0 + 1 ≤ _
    unfold dEx5
    split
    · rw [dEx4_n]; omega
    · show mN (dEx4 D) 0 + 1 + 1 ≤ _
      rw [dEx4_n]
      omega
  · have e : mN (dFar D) 0 = mN D 0 := by
      unfold dFar
      split <;> rfl
    rw [e]
    omega

set_option maxHeartbeats 4000000 in
set_option maxRecDepth 100000 in
theorem c_X2_endNumber (d0 : Nat × Nat) (S : gS) (ad : Nat → Nat → Nat) (D : gM) (h : gDra S ad D) (h4 : mN D 2 = 4) (hn : mN D 0 + 5 ≤ 2500) (hn6 : ¬ mN D 4 < 10 → mN D 0 + 6 ≤ 2500) : gCt d0 yX2_endNumber cX2_endNumber 1 none 2 0 0 [.ref (ad 6 2)] S (fun v' S' => v' = none ∧ gDra S' ad (dEnd D) ∧ gFr dK S S') gNo := by
  refine gCt_of (lo := [some (.ref (ad 6 2))]) (by decide +kernel) (Nat.le_of_ble_eq_true rfl) (rfl) ?_
  intro Γ hd G F hini
  obtain ⟨⟨q1, q2, q3, q4, q5, q6, q7, q8⟩, ⟨i1, i2, i3, i4, i5, i6, i7, i8⟩, ⟨f1, f2, f3, f4, f5, f6⟩, g1, g2, rr, vv⟩ := id h
  obtain ⟨n10, n11⟩ := g2 h4
  obtain ⟨u4, u5⟩ := i7 h4
  have z4 : (4 : Nat) < 31 := by decide
  obtain ⟨hD0, hF0⟩ := gDra_s0 h
  first | refine g_aload_n G dX2_endNumber_0 rfl ?_ | refine g_aload_nN G dX2_endNumber_0 rfl ?_ | refine g_aload_nQ G dX2_endNumber_0 rfl ?_
  refine g_iconst (v := nI 0) G dX2_endNumber_1 (by decide) ?_
  refine g_putI G fl_X2_41 pu_3_8 (q1) (by first | decide | omega) rfl dX2_endNumber_2 ?_
  first | refine g_aload_n G dX2_endNumber_5 rfl ?_ | refine g_aload_nN G dX2_endNumber_5 rfl ?_ | refine g_aload_nQ G dX2_endNumber_5 rfl ?_
  refine g_getI G fl_X2_81 (q1) (by first | decide | omega) rfl (sX_p (by decide) n10) dX2_endNumber_6 ?_
  refine g_bipush (v := nI 20) G dX2_endNumber_9 (by decide) ?_
  refine g_icmp_ge (tgt := 28) G dX2_endNumber_11 (by decide) (fun c_11 => ?_) (fun c_11 => ?_)
  · have e8 : dOwn D = false := by
      unfold dOwn
      rw [decide_eq_false (fun z => absurd ((nI_leI (a := 20) (by omega) (by omega)).mp c_11) (by omega))]
      rfl
    have e9 : dEnd D = dFar D := if_neg (by rw [e8]; decide)
    first | refine g_aload_n G dX2_endNumber_28 rfl ?_ | refine g_aload_nN G dX2_endNumber_28 rfl ?_ | refine g_aload_nQ G dX2_endNumber_28 rfl ?_
    first | refine g_aload_n G dX2_endNumber_29 rfl ?_ | refine g_aload_nN G dX2_endNumber_29 rfl ?_ | refine g_aload_nQ G dX2_endNumber_29 rfl ?_
    refine g_getI G fl_X2_47 (q1) (by first | decide | omega) rfl (sX_p (by decide) f6) dX2_endNumber_30 ?_
    refine g_if_ge (tgt := 43) G dX2_endNumber_33 (by decide) (fun c_33 => ?_) (fun c_33 => ?_)
    · have e7 : dFar D = uN D 2 0 := if_neg (Int32.not_lt.mpr c_33)
      obtain ⟨hD1, hF1⟩ := gDra_far (v := mA D 4 1) hD0
      have e6 : uA (uN D 2 0) 4 1 (mA D 4 1) = dEnd D := by
        rw [e9, e7]
        refine Prod.ext rfl (Prod.ext (funext fun f => funext fun j => ?_) rfl)
        show (if f = 4 ∧ j = 1 then mA D 4 1 else mA D f j) = mA D f j
        split
        · next hc => rw [hc.1, hc.2]
        · rfl
      rw [e6] at hD1
      first | refine g_aload_n G dX2_endNumber_43 rfl ?_ | refine g_aload_nN G dX2_endNumber_43 rfl ?_ | refine g_aload_nQ G dX2_endNumber_43 rfl ?_
      refine g_getI G fl_X2_47 (q1) (by first | decide | omega) rfl (sX_p (by decide) f6) dX2_endNumber_44 ?_
      refine g_putI G fl_X2_47 pu_3_13 (q1) (by first | decide | omega) rfl dX2_endNumber_47 ?_
      exact g_vret G F (⟨rfl, hD1, hF0.tr hF1 (fun _ z => ⟨z, z⟩)⟩) (by omega) (by omega) dX2_endNumber_50
    · have e7 : dFar D = uA (uN D 2 0) 4 1 (nI (mN D 5)) := if_pos (Int32.not_le.mp c_33)
      obtain ⟨hD1, hF1⟩ := gDra_far (v := nI (mN D 5)) hD0
      have e6 : uA (uN D 2 0) 4 1 (nI (mN D 5)) = dEnd D := by rw [e9, e7]
      rw [e6] at hD1
      first | refine g_aload_n G dX2_endNumber_36 rfl ?_ | refine g_aload_nN G dX2_endNumber_36 rfl ?_ | refine g_aload_nQ G dX2_endNumber_36 rfl ?_
      refine g_getI G fl_X2_84 (q1) (by first | decide | omega) rfl (sX_p (by decide) n11) dX2_endNumber_37 ?_
      refine g_goto (tgt := 47) G dX2_endNumber_40 (by decide) ?_
      refine g_putI G fl_X2_47 pu_3_13 (q1) (by first | decide | omega) rfl dX2_endNumber_47 ?_
      exact g_vret G F (⟨rfl, hD1, hF0.tr hF1 (fun _ z => ⟨z, z⟩)⟩) (by omega) (by omega) dX2_endNumber_50
  · have hlt : mN D 4 < 20 := by
      have z : ¬ 20 ≤ mN D 4 := fun z => c_11 ((nI_leI (a := 20) (by omega) (by omega)).mpr z)
      omega
    first | refine g_aload_n G dX2_endNumber_14 rfl ?_ | refine g_aload_nN G dX2_endNumber_14 rfl ?_ | refine g_aload_nQ G dX2_endNumber_14 rfl ?_
    refine g_getI G fl_X2_59 (q1) (by first | decide | omega) rfl (sX_p (by decide) f5) dX2_endNumber_15 ?_
    first | refine g_aload_n G dX2_endNumber_18 rfl ?_ | refine g_aload_nN G dX2_endNumber_18 rfl ?_ | refine g_aload_nQ G dX2_endNumber_18 rfl ?_
    refine g_getI G fl_X2_81 (q1) (by first | decide | omega) rfl (sX_p (by decide) n10) dX2_endNumber_19 ?_
    refine g_ishr G dX2_endNumber_22 (rfl) ?_
    refine g_iconst (v := nI 1) G dX2_endNumber_23 (by decide) ?_
    refine g_iand G dX2_endNumber_24 (rfl) ?_
    refine g_if_ne (tgt := 51) G dX2_endNumber_25 (by decide) (fun c_25 => ?_) (fun c_25 => ?_)
    · have e8 : dOwn D = true := by
        unfold dOwn
        rw [decide_eq_true hlt, gBit_yes c_25]
        rfl
      have e9 : dEnd D = dEx D := if_pos e8
      first | refine g_aload_n G dX2_endNumber_51 rfl ?_ | refine g_aload_nN G dX2_endNumber_51 rfl ?_ | refine g_aload_nQ G dX2_endNumber_51 rfl ?_
      refine g_dup G dX2_endNumber_52 rfl ?_
      refine g_getI G fl_X2_53 (q1) (by first | decide | omega) rfl (sX_p (by decide) f2) dX2_endNumber_53 ?_
      refine g_iconst (v := nI 1) G dX2_endNumber_56 (by decide) ?_
      first | refine g_aload_n G dX2_endNumber_57 rfl ?_ | refine g_aload_nN G dX2_endNumber_57 rfl ?_ | refine g_aload_nQ G dX2_endNumber_57 rfl ?_
      refine g_getI G fl_X2_81 (q1) (by first | decide | omega) rfl (sX_p (by decide) n10) dX2_endNumber_58 ?_
      refine g_ishl G dX2_endNumber_61 (rfl) ?_
      refine g_ior G dX2_endNumber_62 (rfl) ?_
      refine g_putI G fl_X2_53 pu_3_4 (q1) (by first | decide | omega) rfl dX2_endNumber_63 ?_
      obtain ⟨hD1, hF1⟩ := gDra_exh (v := mA D 4 0 ||| (nI 1 <<< (nI (mN D 4) &&& 31))) hD0
      have n10a := sX_p (S := S) (κ := 4) (p := 8) (q := ad 6 2) (v := nI 0) (by decide) n10
      have m10 := sX_p (S := sX S 4 8 (ad 6 2) (nI 0)) (κ := 4) (p := 4) (q := ad 6 2) (v := mA D 4 0 ||| (nI 1 <<< (nI (mN D 4) &&& 31))) (by decide) n10a
      have hF2 := hF0.tr (K := dK) hF1 (fun _ z => ⟨z, z⟩)
      first | refine g_aload_n G dX2_endNumber_66 rfl ?_ | refine g_aload_nN G dX2_endNumber_66 rfl ?_ | refine g_aload_nQ G dX2_endNumber_66 rfl ?_
      refine g_bipush (v := nI 69) G dX2_endNumber_67 (by decide) ?_
      refine g_iconst (v := nI 0) G dX2_endNumber_69 (by decide) ?_
      refine g_callV (ci := 3) G (c_X2_put _ _ ad (dEx1 D) hD1 (by show mN D 0 + 0 < 2500; omega) (nI 69) (nI 0) (gWt_d (by omega) (by omega)) (gWt_d (by omega) (by omega))) mt_X2_put mi_X2_put ml_X2_90 (hD1.1.1) (by first | decide | omega) rfl (by decide) (by omega) (by omega) rfl (Nat.le_of_ble_eq_true rfl) dX2_endNumber_70 (fun v_70 S_70 hp_70 => ?_)
      obtain ⟨rfl, hD2, hFx0, hy0⟩ := hp_70
      simp only [Option.toList, List.nil_append]
      have m10a := hy0 _ _ (by decide) m10
      have hF3 := hF2.tr (K := dK) hFx0 (fun _ z => ⟨z, z⟩)
      first | refine g_aload_n G dX2_endNumber_73 rfl ?_ | refine g_aload_nN G dX2_endNumber_73 rfl ?_ | refine g_aload_nQ G dX2_endNumber_73 rfl ?_
      refine g_bipush (v := nI 120) G dX2_endNumber_74 (by decide) ?_
      refine g_iconst (v := nI 0) G dX2_endNumber_76 (by decide) ?_
      refine g_callV (ci := 3) G (c_X2_put _ _ ad (dPut (dEx1 D) (nI 69) (nI 0)) hD2 (by show mN D 0 + 1 < 2500; omega) (nI 120) (nI 0) (gWt_d (by omega) (by omega)) (gWt_d (by omega) (by omega))) mt_X2_put mi_X2_put ml_X2_90 (hD2.1.1) (by first | decide | omega) rfl (by decide) (by omega) (by omega) rfl (Nat.le_of_ble_eq_true rfl) dX2_endNumber_77 (fun v_77 S_77 hp_77 => ?_)
      obtain ⟨rfl, hD3, hFx1, hy1⟩ := hp_77
      simp only [Option.toList, List.nil_append]
      have m10b := hy1 _ _ (by decide) m10a
      have hF4 := hF3.tr (K := dK) hFx1 (fun _ z => ⟨z, z⟩)
      first | refine g_aload_n G dX2_endNumber_80 rfl ?_ | refine g_aload_nN G dX2_endNumber_80 rfl ?_ | refine g_aload_nQ G dX2_endNumber_80 rfl ?_
      refine g_bipush (v := nI 46) G dX2_endNumber_81 (by decide) ?_
      refine g_iconst (v := nI 0) G dX2_endNumber_83 (by decide) ?_
      refine g_callV (ci := 3) G (c_X2_put _ _ ad (dPut (dPut (dEx1 D) (nI 69) (nI 0)) (nI 120) (nI 0)) hD3 (by show mN D 0 + 2 < 2500; omega) (nI 46) (nI 0) (gWt_d (by omega) (by omega)) (gWt_d (by omega) (by omega))) mt_X2_put mi_X2_put ml_X2_90 (hD3.1.1) (by first | decide | omega) rfl (by decide) (by omega) (by omega) rfl (Nat.le_of_ble_eq_true rfl) dX2_endNumber_84 (fun v_84 S_84 hp_84 => ?_)
      obtain ⟨rfl, hD4, hFx2, hy2⟩ := hp_84
      simp only [Option.toList, List.nil_append]
      have m10c := hy2 _ _ (by decide) m10b
      have hF5 := hF4.tr (K := dK) hFx2 (fun _ z => ⟨z, z⟩)
      first | refine g_aload_n G dX2_endNumber_87 rfl ?_ | refine g_aload_nN G dX2_endNumber_87 rfl ?_ | refine g_aload_nQ G dX2_endNumber_87 rfl ?_
      refine g_bipush (v := nI 32) G dX2_endNumber_88 (by decide) ?_
      refine g_iconst (v := nI 0) G dX2_endNumber_90 (by decide) ?_
      refine g_callV (ci := 3) G (c_X2_put _ _ ad (dPut (dPut (dPut (dEx1 D) (nI 69) (nI 0)) (nI 120) (nI 0)) (nI 46) (nI 0)) hD4 (by show mN D 0 + 3 < 2500; omega) (nI 32) (nI 0) (gWt_d (by omega) (by omega)) (gWt_d (by omega) (by omega))) mt_X2_put mi_X2_put ml_X2_90 (hD4.1.1) (by first | decide | omega) rfl (by decide) (by omega) (by omega) rfl (Nat.le_of_ble_eq_true rfl) dX2_endNumber_91 (fun v_91 S_91 hp_91 => ?_)
      obtain ⟨rfl, hD5, hFx3, hy3⟩ := hp_91
      simp only [Option.toList, List.nil_append]
      have m10d := hy3 _ _ (by decide) m10c
      have hF6 := hF5.tr (K := dK) hFx3 (fun _ z => ⟨z, z⟩)
      first | refine g_aload_n G dX2_endNumber_94 rfl ?_ | refine g_aload_nN G dX2_endNumber_94 rfl ?_ | refine g_aload_nQ G dX2_endNumber_94 rfl ?_
      refine g_getI G fl_X2_81 (hD5.1.1) (by first | decide | omega) rfl (m10d) dX2_endNumber_95 ?_
      refine g_bipush (v := nI 10) G dX2_endNumber_98 (by decide) ?_
      refine g_icmp_lt (tgt := 118) G dX2_endNumber_100 (by decide) (fun c_100 => ?_) (fun c_100 => ?_)
      · have h10 : mN D 4 < 10 := (nI_ltI (b := 10) (by omega) (by omega)).mp c_100
        have e5 : dEx5 D = dEx4 D := if_pos h10
        have hD6 : gDra S_91 ad (dEx5 D) := by rw [e5]; exact hD5
        have m10e := m10d
        have hF7 := hF6
        have h55 : mN (dEx5 D) 0 < 2500 := by rw [e5, dEx4_n]; omega
        first | refine g_aload_n G dX2_endNumber_118 rfl ?_ | refine g_aload_nN G dX2_endNumber_118 rfl ?_ | refine g_aload_nQ G dX2_endNumber_118 rfl ?_
        refine g_bipush (v := nI 48) G dX2_endNumber_119 (by decide) ?_
        first | refine g_aload_n G dX2_endNumber_121 rfl ?_ | refine g_aload_nN G dX2_endNumber_121 rfl ?_ | refine g_aload_nQ G dX2_endNumber_121 rfl ?_
        refine g_getI G fl_X2_81 (hD6.1.1) (by first | decide | omega) rfl (m10e) dX2_endNumber_122 ?_
        refine g_bipush (v := nI 10) G dX2_endNumber_125 (by decide) ?_
        refine g_irem G dX2_endNumber_127 (by decide) (pk_rem (d := 10) (by omega) (by omega) (by omega)) ?_
        refine g_iadd G dX2_endNumber_128 (nI_add 48 _) ?_
        refine g_iconst (v := nI 0) G dX2_endNumber_129 (by decide) ?_
        refine g_callV (ci := 3) G (c_X2_put _ _ ad (dEx5 D) hD6 h55 (nI (48 + mN D 4 % 10)) (nI 0) (gWt_d (by omega) (by omega)) (gWt_d (by omega) (by omega))) mt_X2_put mi_X2_put ml_X2_90 (hD6.1.1) (by first | decide | omega) rfl (by decide) (by omega) (by omega) rfl (Nat.le_of_ble_eq_true rfl) dX2_endNumber_130 (fun v_130 S_130 hp_130 => ?_)
        obtain ⟨rfl, hD7a, hFx9, -⟩ := hp_130
        simp only [Option.toList, List.nil_append]
        exact g_vret G F (⟨rfl, by rw [e9]; exact hD7a, hF7.tr hFx9 (fun _ z => ⟨z, z⟩)⟩) (by omega) (by omega) dX2_endNumber_133
      · have h10 : ¬ mN D 4 < 10 := fun z => c_100 (nI_lt z (by omega))
        have e5 : dEx5 D = dPut (dEx4 D) (nI (48 + mN D 4 / 10)) (nI 0) := if_neg h10
        have hn66 := hn6 h10
        have h55 : mN (dEx5 D) 0 < 2500 := by
          rw [e5]
          show mN (dEx4 D) 0 + 1 < 2500
          rw [dEx4_n]
          omega
        first | refine g_aload_n G dX2_endNumber_103 rfl ?_ | refine g_aload_nN G dX2_endNumber_103 rfl ?_ | refine g_aload_nQ G dX2_endNumber_103 rfl ?_
        refine g_bipush (v := nI 48) G dX2_endNumber_104 (by decide) ?_
        first | refine g_aload_n G dX2_endNumber_106 rfl ?_ | refine g_aload_nN G dX2_endNumber_106 rfl ?_ | refine g_aload_nQ G dX2_endNumber_106 rfl ?_
        refine g_getI G fl_X2_81 (hD5.1.1) (by first | decide | omega) rfl (m10d) dX2_endNumber_107 ?_
        refine g_bipush (v := nI 10) G dX2_endNumber_110 (by decide) ?_
        refine g_idiv G dX2_endNumber_112 (by decide) (pk_div (d := 10) (by omega) (by omega) (by omega)) ?_
        refine g_iadd G dX2_endNumber_113 (nI_add 48 _) ?_
        refine g_iconst (v := nI 0) G dX2_endNumber_114 (by decide) ?_
        refine g_callV (ci := 3) G (c_X2_put _ _ ad (dEx4 D) hD5 (by show mN D 0 + 4 < 2500; omega) (nI (48 + mN D 4 / 10)) (nI 0) (gWt_d (by omega) (by omega)) (gWt_d (by omega) (by omega))) mt_X2_put mi_X2_put ml_X2_90 (hD5.1.1) (by first | decide | omega) rfl (by decide) (by omega) (by omega) rfl (Nat.le_of_ble_eq_true rfl) dX2_endNumber_115 (fun v_115 S_115 hp_115 => ?_)
        obtain ⟨rfl, hD6a, hFx, hy⟩ := hp_115
        simp only [Option.toList, List.nil_append]
        have hD6 : gDra S_115 ad (dEx5 D) := by rw [e5]; exact hD6a
        have m10e := hy _ _ (by decide) m10d
        have hF7 := hF6.tr (K := dK) hFx (fun _ z => ⟨z, z⟩)
        first | refine g_aload_n G dX2_endNumber_118 rfl ?_ | refine g_aload_nN G dX2_endNumber_118 rfl ?_ | refine g_aload_nQ G dX2_endNumber_118 rfl ?_
        refine g_bipush (v := nI 48) G dX2_endNumber_119 (by decide) ?_
        first | refine g_aload_n G dX2_endNumber_121 rfl ?_ | refine g_aload_nN G dX2_endNumber_121 rfl ?_ | refine g_aload_nQ G dX2_endNumber_121 rfl ?_
        refine g_getI G fl_X2_81 (hD6.1.1) (by first | decide | omega) rfl (m10e) dX2_endNumber_122 ?_
        refine g_bipush (v := nI 10) G dX2_endNumber_125 (by decide) ?_
        refine g_irem G dX2_endNumber_127 (by decide) (pk_rem (d := 10) (by omega) (by omega) (by omega)) ?_
        refine g_iadd G dX2_endNumber_128 (nI_add 48 _) ?_
        refine g_iconst (v := nI 0) G dX2_endNumber_129 (by decide) ?_
        refine g_callV (ci := 3) G (c_X2_put _ _ ad (dEx5 D) hD6 h55 (nI (48 + mN D 4 % 10)) (nI 0) (gWt_d (by omega) (by omega)) (gWt_d (by omega) (by omega))) mt_X2_put mi_X2_put ml_X2_90 (hD6.1.1) (by first | decide | omega) rfl (by decide) (by omega) (by omega) rfl (Nat.le_of_ble_eq_true rfl) dX2_endNumber_130 (fun v_130 S_130 hp_130 => ?_)
        obtain ⟨rfl, hD7a, hFx9, -⟩ := hp_130
        simp only [Option.toList, List.nil_append]
        exact g_vret G F (⟨rfl, by rw [e9]; exact hD7a, hF7.tr hFx9 (fun _ z => ⟨z, z⟩)⟩) (by omega) (by omega) dX2_endNumber_133
    · have e8 : dOwn D = false := by
        unfold dOwn
        rw [gBit_no c_25, Bool.and_false]
      have e9 : dEnd D = dFar D := if_neg (by rw [e8]; decide)
      first | refine g_aload_n G dX2_endNumber_28 rfl ?_ | refine g_aload_nN G dX2_endNumber_28 rfl ?_ | refine g_aload_nQ G dX2_endNumber_28 rfl ?_
      first | refine g_aload_n G dX2_endNumber_29 rfl ?_ | refine g_aload_nN G dX2_endNumber_29 rfl ?_ | refine g_aload_nQ G dX2_endNumber_29 rfl ?_
      refine g_getI G fl_X2_47 (q1) (by first | decide | omega) rfl (sX_p (by decide) f6) dX2_endNumber_30 ?_
      refine g_if_ge (tgt := 43) G dX2_endNumber_33 (by decide) (fun c_33 => ?_) (fun c_33 => ?_)
      · have e7 : dFar D = uN D 2 0 := if_neg (Int32.not_lt.mpr c_33)
        obtain ⟨hD1, hF1⟩ := gDra_far (v := mA D 4 1) hD0
        have e6 : uA (uN D 2 0) 4 1 (mA D 4 1) = dEnd D := by
          rw [e9, e7]
          refine Prod.ext rfl (Prod.ext (funext fun f => funext fun j => ?_) rfl)
          show (if f = 4 ∧ j = 1 then mA D 4 1 else mA D f j) = mA D f j
          split
          · next hc => rw [hc.1, hc.2]
          · rfl
        rw [e6] at hD1
        first | refine g_aload_n G dX2_endNumber_43 rfl ?_ | refine g_aload_nN G dX2_endNumber_43 rfl ?_ | refine g_aload_nQ G dX2_endNumber_43 rfl ?_
        refine g_getI G fl_X2_47 (q1) (by first | decide | omega) rfl (sX_p (by decide) f6) dX2_endNumber_44 ?_
        refine g_putI G fl_X2_47 pu_3_13 (q1) (by first | decide | omega) rfl dX2_endNumber_47 ?_
        exact g_vret G F (⟨rfl, hD1, hF0.tr hF1 (fun _ z => ⟨z, z⟩)⟩) (by omega) (by omega) dX2_endNumber_50
      · have e7 : dFar D = uA (uN D 2 0) 4 1 (nI (mN D 5)) := if_pos (Int32.not_le.mp c_33)
        obtain ⟨hD1, hF1⟩ := gDra_far (v := nI (mN D 5)) hD0
        have e6 : uA (uN D 2 0) 4 1 (nI (mN D 5)) = dEnd D := by rw [e9, e7]
        rw [e6] at hD1
        first | refine g_aload_n G dX2_endNumber_36 rfl ?_ | refine g_aload_nN G dX2_endNumber_36 rfl ?_ | refine g_aload_nQ G dX2_endNumber_36 rfl ?_
        refine g_getI G fl_X2_84 (q1) (by first | decide | omega) rfl (sX_p (by decide) n11) dX2_endNumber_37 ?_
        refine g_goto (tgt := 47) G dX2_endNumber_40 (by decide) ?_
        refine g_putI G fl_X2_47 pu_3_13 (q1) (by first | decide | omega) rfl dX2_endNumber_47 ?_
        exact g_vret G F (⟨rfl, hD1, hF0.tr hF1 (fun _ z => ⟨z, z⟩)⟩) (by omega) (by omega) dX2_endNumber_50

theorem gFr_d4 (S : gS) (p q : Nat) (v : Int32) : gFr dK S (sX S 4 p q v) := (gFr.rf S).X1 _ _ _ (fun _ z => z.1)
theorem gDrq_sX {S : gS} {ad : Nat → Nat → Nat} {κ p q : Nat} {v : Int32} (h : gDrq S ad) (hk : 113 ≠ κ) : gDrq (sX S κ p q v) ad := by
  obtain ⟨q1, q2, q3, q4, q5, q6, q7, q8⟩ := h
  exact ⟨q1, q2, q3, q4, q5, q6, q7, sX_k hk q8⟩

theorem gB_01 (b : Bool) : okZ (.int (gB b)) := by cases b <;> first | exact Or.inl rfl | exact Or.inr rfl

set_option maxHeartbeats 4000000 in
set_option maxRecDepth 100000 in
theorem c_X2_takeBodyByte (d0 : Nat × Nat) (S : gS) (ad : Nat → Nat → Nat) (D : gM) (h : gDra S ad D) (h2 : mN D 2 = 0) (hn : mN D 0 < 2500) (b : Int32) (i : Nat) (hi : i < 1000) : gCt d0 yX2_takeBodyByte cX2_takeBodyByte 3 (some .boolean) 3 0 0 [.ref (ad 6 2), .int b, .int (nI i)] S (gTk S ad (dBok D b) (dBody D b i)) gNo := by
  refine gCt_of (lo := [some (.ref (ad 6 2)), some (.int b), some (.int (nI i))]) (by decide +kernel) (Nat.le_of_ble_eq_true rfl) (rfl) ?_
  intro Γ hd G F hini
  obtain ⟨⟨q1, q2, q3, q4, q5, q6, q7, q8⟩, ⟨i1, i2, i3, i4, i5, i6, i7, i8⟩, ⟨f1, f2, f3, f4, f5, f6⟩, g1, g2, rr, vv⟩ := id h
  refine g_iload_n G dX2_takeBodyByte_0 rfl ?_
  by_cases e91 : b = nI 91
  · subst e91
    refine g_lookup (off := 51) (tgt := 52) G dX2_takeBodyByte_1 (by decide) (by first | rfl | decide) (by decide) ?_
    first | refine g_aload_n G dX2_takeBodyByte_52 rfl ?_ | refine g_aload_nN G dX2_takeBodyByte_52 rfl ?_ | refine g_aload_nQ G dX2_takeBodyByte_52 rfl ?_
    refine g_iconst (v := nI 1) G dX2_takeBodyByte_53 (by decide) ?_
    refine g_putI G fl_X2_41 pu_3_8 (q1) (by first | decide | omega) rfl dX2_takeBodyByte_54 ?_
    first | refine g_aload_n G dX2_takeBodyByte_57 rfl ?_ | refine g_aload_nN G dX2_takeBodyByte_57 rfl ?_ | refine g_aload_nQ G dX2_takeBodyByte_57 rfl ?_
    refine g_getI G fl_X2_56 (q1) (by first | decide | omega) rfl (sX_p (by decide) f3) dX2_takeBodyByte_58 ?_
    refine g_iconst (v := nI 5) G dX2_takeBodyByte_61 (by decide) ?_
    refine g_icmp_ge (tgt := 69) G dX2_takeBodyByte_62 (by decide) (fun c_62 => ?_) (fun c_62 => ?_)
    · have e9 : dBok D (nI 91) = false := decide_eq_false (fun z => absurd ((nI_leI (a := 5) (by omega) (by omega)).mp c_62) (by omega))
      refine g_iconst (v := nI 0) G dX2_takeBodyByte_69 (by decide) ?_
      exact g_zret G F (by first | exact Or.inl rfl | exact Or.inr rfl) (by first | exact ⟨hD.1, hF, by rw [e9]; rfl, fun _ => hD⟩ | exact ⟨gDrq_sX h.1 (by decide), gFr_d4 S _ _ _, by rw [e9]; rfl, fun z => by rw [e9] at z; cases z⟩) (by omega) (by omega) dX2_takeBodyByte_70
    · have hlt : mN D 1 < 5 := by
        have z : ¬ 5 ≤ mN D 1 := fun z => c_62 ((nI_leI (a := 5) (by omega) (by omega)).mpr z)
        omega
      have e9 : dBok D (nI 91) = true := decide_eq_true hlt
      obtain ⟨hD, hF⟩ := gDra_s1 h hlt
      refine g_iconst (v := nI 1) G dX2_takeBodyByte_65 (by decide) ?_
      refine g_goto (tgt := 70) G dX2_takeBodyByte_66 (by decide) ?_
      exact g_zret G F (by first | exact Or.inl rfl | exact Or.inr rfl) (by first | exact ⟨hD.1, hF, by rw [e9]; rfl, fun _ => hD⟩ | exact ⟨gDrq_sX h.1 (by decide), gFr_d4 S _ _ _, by rw [e9]; rfl, fun z => by rw [e9] at z; cases z⟩) (by omega) (by omega) dX2_takeBodyByte_70
  · by_cases e93 : b = nI 93
    · subst e93
      refine g_lookup (off := 70) (tgt := 71) G dX2_takeBodyByte_1 (by decide) (by first | rfl | decide) (by decide) ?_
      by_cases h0 : 0 < mN D 1
      · have e9 : dBok D (nI 93) = true := decide_eq_true h0
        obtain ⟨hD, hF⟩ := gDra_c h h2
        first | refine g_aload_n G dX2_takeBodyByte_71 rfl ?_ | refine g_aload_nN G dX2_takeBodyByte_71 rfl ?_ | refine g_aload_nQ G dX2_takeBodyByte_71 rfl ?_
        refine g_dup G dX2_takeBodyByte_72 rfl ?_
        refine g_getI G fl_X2_56 (q1) (by first | decide | omega) rfl (f3) dX2_takeBodyByte_73 ?_
        refine g_iconst (v := nI 1) G dX2_takeBodyByte_76 (by decide) ?_
        refine g_isub G dX2_takeBodyByte_77 (pk_sub (by omega)) ?_
        refine g_putI G fl_X2_56 pu_3_7 (q1) (by first | decide | omega) rfl dX2_takeBodyByte_78 ?_
        first | refine g_aload_n G dX2_takeBodyByte_81 rfl ?_ | refine g_aload_nN G dX2_takeBodyByte_81 rfl ?_ | refine g_aload_nQ G dX2_takeBodyByte_81 rfl ?_
        refine g_getI G fl_X2_56 (q1) (by first | decide | omega) rfl (sX_s) dX2_takeBodyByte_82 ?_
        refine g_if_lt (tgt := 92) G dX2_takeBodyByte_85 (by decide) (fun c_85 => (absurd c_85 (nI_pos (by omega)))) (fun c_85 => ?_)
        refine g_iconst (v := nI 1) G dX2_takeBodyByte_88 (by decide) ?_
        refine g_goto (tgt := 93) G dX2_takeBodyByte_89 (by decide) ?_
        exact g_zret G F (Or.inr rfl) (⟨hD.1, hF, by rw [e9]; rfl, fun _ => hD⟩) (by omega) (by omega) dX2_takeBodyByte_93
      · have e9 : dBok D (nI 93) = false := decide_eq_false h0
        first | refine g_aload_n G dX2_takeBodyByte_71 rfl ?_ | refine g_aload_nN G dX2_takeBodyByte_71 rfl ?_ | refine g_aload_nQ G dX2_takeBodyByte_71 rfl ?_
        refine g_dup G dX2_takeBodyByte_72 rfl ?_
        refine g_getI G fl_X2_56 (q1) (by first | decide | omega) rfl (f3) dX2_takeBodyByte_73 ?_
        refine g_iconst (v := nI 1) G dX2_takeBodyByte_76 (by decide) ?_
        refine g_isub G dX2_takeBodyByte_77 (show nI (mN D 1) - nI 1 = -1 by rw [show mN D 1 = 0 by omega]; rfl) ?_
        refine g_putI G fl_X2_56 pu_3_7 (q1) (by first | decide | omega) rfl dX2_takeBodyByte_78 ?_
        first | refine g_aload_n G dX2_takeBodyByte_81 rfl ?_ | refine g_aload_nN G dX2_takeBodyByte_81 rfl ?_ | refine g_aload_nQ G dX2_takeBodyByte_81 rfl ?_
        refine g_getI G fl_X2_56 (q1) (by first | decide | omega) rfl (sX_s) dX2_takeBodyByte_82 ?_
        refine g_if_lt (tgt := 92) G dX2_takeBodyByte_85 (by decide) (fun c_85 => ?_) (fun c_85 => (absurd (show (-1 : Int32) < 0 by decide) c_85))
        refine g_iconst (v := nI 0) G dX2_takeBodyByte_92 (by decide) ?_
        exact g_zret G F (Or.inl rfl) (⟨gDrq_sX h.1 (by decide), gFr_d4 S _ _ _, by rw [e9]; rfl, fun z => by rw [e9] at z; cases z⟩) (by omega) (by omega) dX2_takeBodyByte_93
    · by_cases e123 : b = nI 123
      · subst e123
        refine g_lookup (off := 93) (tgt := 94) G dX2_takeBodyByte_1 (by decide) (by first | rfl | decide) (by decide) ?_
        first | refine g_aload_n G dX2_takeBodyByte_94 rfl ?_ | refine g_aload_nN G dX2_takeBodyByte_94 rfl ?_ | refine g_aload_nQ G dX2_takeBodyByte_94 rfl ?_
        refine g_iconst (v := nI 3) G dX2_takeBodyByte_95 (by decide) ?_
        refine g_putI G fl_X2_41 pu_3_8 (q1) (by first | decide | omega) rfl dX2_takeBodyByte_96 ?_
        first | refine g_aload_n G dX2_takeBodyByte_99 rfl ?_ | refine g_aload_nN G dX2_takeBodyByte_99 rfl ?_ | refine g_aload_nQ G dX2_takeBodyByte_99 rfl ?_
        refine g_iconst (v := nI 0) G dX2_takeBodyByte_100 (by decide) ?_
        refine g_putI G fl_X2_62 pu_3_9 (q1) (by first | decide | omega) rfl dX2_takeBodyByte_101 ?_
        refine g_iconst (v := nI 1) G dX2_takeBodyByte_104 (by decide) ?_
        obtain ⟨hD, hF⟩ := gDra_s3 h
        exact g_zret G F (by first | exact Or.inl rfl | exact Or.inr rfl | assumption) (⟨hD.1, hF, rfl, fun _ => hD⟩) (by omega) (by omega) dX2_takeBodyByte_105
      · by_cases e125 : b = nI 125
        · subst e125
          refine g_lookup (off := 105) (tgt := 106) G dX2_takeBodyByte_1 (by decide) (by first | rfl | decide) (by decide) ?_
          refine g_iconst (v := nI 0) G dX2_takeBodyByte_106 (by decide) ?_
          exact g_zret G F (by first | exact Or.inl rfl | exact Or.inr rfl | assumption) (⟨h.1, gFr.rf S, rfl, fun z => by cases z⟩) (by omega) (by omega) dX2_takeBodyByte_107
        · by_cases e64 : b = nI 64
          · subst e64
            refine g_lookup (off := 107) (tgt := 108) G dX2_takeBodyByte_1 (by decide) (by first | rfl | decide) (by decide) ?_
            first | refine g_aload_n G dX2_takeBodyByte_108 rfl ?_ | refine g_aload_nN G dX2_takeBodyByte_108 rfl ?_ | refine g_aload_nQ G dX2_takeBodyByte_108 rfl ?_
            refine g_iconst (v := nI 4) G dX2_takeBodyByte_109 (by decide) ?_
            refine g_putI G fl_X2_41 pu_3_8 (q1) (by first | decide | omega) rfl dX2_takeBodyByte_110 ?_
            first | refine g_aload_n G dX2_takeBodyByte_113 rfl ?_ | refine g_aload_nN G dX2_takeBodyByte_113 rfl ?_ | refine g_aload_nQ G dX2_takeBodyByte_113 rfl ?_
            refine g_iconst (v := nI 0) G dX2_takeBodyByte_114 (by decide) ?_
            refine g_putI G fl_X2_62 pu_3_9 (q1) (by first | decide | omega) rfl dX2_takeBodyByte_115 ?_
            first | refine g_aload_n G dX2_takeBodyByte_118 rfl ?_ | refine g_aload_nN G dX2_takeBodyByte_118 rfl ?_ | refine g_aload_nQ G dX2_takeBodyByte_118 rfl ?_
            refine g_iconst (v := nI 0) G dX2_takeBodyByte_119 (by decide) ?_
            refine g_putI G fl_X2_81 pu_3_10 (q1) (by first | decide | omega) rfl dX2_takeBodyByte_120 ?_
            first | refine g_aload_n G dX2_takeBodyByte_123 rfl ?_ | refine g_aload_nN G dX2_takeBodyByte_123 rfl ?_ | refine g_aload_nQ G dX2_takeBodyByte_123 rfl ?_
            refine g_iload_n G dX2_takeBodyByte_124 rfl ?_
            refine g_putI G fl_X2_84 pu_3_11 (q1) (by first | decide | omega) rfl dX2_takeBodyByte_125 ?_
            refine g_iconst (v := nI 1) G dX2_takeBodyByte_128 (by decide) ?_
            obtain ⟨hD, hF⟩ := gDra_s4 h hi
            exact g_zret G F (by first | exact Or.inl rfl | exact Or.inr rfl | assumption) (⟨hD.1, hF, rfl, fun _ => hD⟩) (by omega) (by omega) dX2_takeBodyByte_129
          · have e1 : dBok D b = dPlk b := (if_neg e91).trans ((if_neg e93).trans ((if_neg e123).trans ((if_neg e125).trans (if_neg e64))))
            have e2 : dBody D b i = dPut D b (nI 0) := (if_neg e91).trans ((if_neg e93).trans ((if_neg e123).trans (if_neg e64)))
            rw [e1, e2] at F
            refine g_lookup (off := 129) (tgt := 130) G dX2_takeBodyByte_1 (by decide) ((lv_osw e64 (by decide)).trans ((lv_osw e91 (by decide)).trans ((lv_osw e93 (by decide)).trans ((lv_osw e123 (by decide)).trans ((lv_osw e125 (by decide)).trans rfl))))) (by decide) ?_
            first | refine g_aload_n G dX2_takeBodyByte_130 rfl ?_ | refine g_aload_nN G dX2_takeBodyByte_130 rfl ?_ | refine g_aload_nQ G dX2_takeBodyByte_130 rfl ?_
            refine g_iload_n G dX2_takeBodyByte_131 rfl ?_
            refine g_callV (ci := 3) G (c_X2_takePlain _ S ad D h hn b) mt_X2_takePlain mi_X2_takePlain ml_X2_87 (q1) (by first | decide | omega) rfl (by decide) (by omega) (by omega) rfl (Nat.le_of_ble_eq_true rfl) dX2_takeBodyByte_132 (fun v_132 S_132 hp_132 => ?_)
            obtain ⟨hQ, hF, rfl, hD⟩ := hp_132
            simp only [Option.toList, List.cons_append, List.nil_append]
            exact g_zret G F (gB_01 _) (⟨hQ, hF, rfl, hD⟩) (by omega) (by omega) dX2_takeBodyByte_135
