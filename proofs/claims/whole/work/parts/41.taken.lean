/-! ===== a tape is taken ===== -/

set_option maxHeartbeats 4000000 in
set_option maxRecDepth 100000 in
theorem c_X2_takeNameByte (d0 : Nat × Nat) (S : gS) (ad : Nat → Nat → Nat) (D : gM) (h : gDra S ad D) (h3 : mN D 2 = 3) (hn : mN D 0 < 2500) (b : Int32) : gCt d0 yX2_takeNameByte cX2_takeNameByte 2 (some .boolean) 2 0 0 [.ref (ad 6 2), .int b] S (gTk S ad (dNok D b) (dNam D b)) gNo := by
  refine gCt_of (lo := [some (.ref (ad 6 2)), some (.int b)]) (by decide +kernel) (Nat.le_of_ble_eq_true rfl) (rfl) ?_
  intro Γ hd G F hini
  obtain ⟨⟨q1, q2, q3, q4, q5, q6, q7, q8⟩, ⟨i1, i2, i3, i4, i5, i6, i7, i8⟩, ⟨f1, f2, f3, f4, f5, f6⟩, g1, g2, rr, vv⟩ := id h
  have hr := g1 (by omega)
  have hr12 := i6 (by omega)
  refine g_iload_n G dX2_takeNameByte_0 rfl ?_
  refine g_bipush (v := nI 125) G dX2_takeNameByte_1 (by decide) ?_
  refine g_icmp_ne (tgt := 24) G dX2_takeNameByte_3 (by decide) (fun c_3 => ?_) (fun c_3 => ?_)
  · have e8 : dNok D b = (decide (mN D 3 < 12) && dLet b) := if_neg c_3
    have e7 : dNam D b = uN (dPut D b (if 0 < mN D 3 then nI 1 else nI 0)) 3 (mN D 3 + 1) := if_neg c_3
    first | refine g_aload_n G dX2_takeNameByte_24 rfl ?_ | refine g_aload_nN G dX2_takeNameByte_24 rfl ?_ | refine g_aload_nQ G dX2_takeNameByte_24 rfl ?_
    refine g_getI G fl_X2_62 (q1) (by first | decide | omega) rfl (hr) dX2_takeNameByte_25 ?_
    refine g_bipush (v := nI 12) G dX2_takeNameByte_28 (by decide) ?_
    refine g_icmp_ge (tgt := 40) G dX2_takeNameByte_30 (by decide) (fun c_30 => ?_) (fun c_30 => ?_)
    · have e9 : dNok D b = false := by
        rw [e8, decide_eq_false (fun z => absurd ((nI_leI (a := 12) (by omega) (by omega)).mp c_30) (by omega))]
        rfl
      refine g_iconst (v := nI 0) G dX2_takeNameByte_40 (by decide) ?_
      exact g_zret G F (Or.inl rfl) (⟨h.1, gFr.rf S, by rw [e9]; rfl, fun z => by rw [e9] at z; cases z⟩) (by omega) (by omega) dX2_takeNameByte_41
    · have h12 : mN D 3 < 12 := by
        have z : ¬ 12 ≤ mN D 3 := fun z => c_30 ((nI_leI (a := 12) (by omega) (by omega)).mpr z)
        omega
      refine g_iload_n G dX2_takeNameByte_33 rfl ?_
      refine g_callSp G (c_X2_isLetter _ S b) mt_X2_isLetter ms_X2_isLetter ml_X2_100 (by decide) (by omega) (by omega) rfl (Nat.le_of_ble_eq_true rfl) dX2_takeNameByte_34 ?_
      refine g_if_ne (tgt := 42) G dX2_takeNameByte_37 (by decide) (fun c_37 => ?_) (fun c_37 => ?_)
      · have hl : dLet b = true := gB_ne0.mp c_37
        have e9 : dNok D b = true := by
          rw [e8, decide_eq_true h12, hl]
          rfl
        have hb : gWt 127 b := by
          have z := of_decide_eq_true hl
          rcases z with z | z
          · exact ⟨Int32.le_trans (by decide) z.1, Int32.le_trans z.2 (by decide)⟩
          · exact ⟨Int32.le_trans (by decide) z.1, Int32.le_trans z.2 (by decide)⟩
        first | refine g_aload_n G dX2_takeNameByte_42 rfl ?_ | refine g_aload_nN G dX2_takeNameByte_42 rfl ?_ | refine g_aload_nQ G dX2_takeNameByte_42 rfl ?_
        refine g_iload_n G dX2_takeNameByte_43 rfl ?_
        first | refine g_aload_n G dX2_takeNameByte_44 rfl ?_ | refine g_aload_nN G dX2_takeNameByte_44 rfl ?_ | refine g_aload_nQ G dX2_takeNameByte_44 rfl ?_
        refine g_getI G fl_X2_62 (q1) (by first | decide | omega) rfl (hr) dX2_takeNameByte_45 ?_
        refine g_if_le (tgt := 55) G dX2_takeNameByte_48 (by decide) (fun c_48 => ?_) (fun c_48 => ?_)
        · have e6 : (if 0 < mN D 3 then nI 1 else nI 0) = nI 0 := if_neg (fun z => absurd (nI_lt (a := 0) z (by omega)) (Int32.not_lt.mpr c_48))
          have hm : gWt 1 (nI 0) := gWt_d (by omega) (by omega)
          refine g_iconst (v := nI 0) G dX2_takeNameByte_55 (by decide) ?_
          refine g_callV (ci := 3) G (c_X2_put _ S ad D h hn b _ hb hm) mt_X2_put mi_X2_put ml_X2_90 (q1) (by first | decide | omega) rfl (by decide) (by omega) (by omega) rfl (Nat.le_of_ble_eq_true rfl) dX2_takeNameByte_56 (fun v_56 S_56 hp_56 => ?_)
          obtain ⟨rfl, hD0, hF0, hy⟩ := hp_56
          simp only [Option.toList, List.nil_append]
          obtain ⟨hD, hF⟩ := gDra_run hD0 (r := mN D 3 + 1) (by omega)
          rw [← e6, ← e7] at hD
          first | refine g_aload_n G dX2_takeNameByte_59 rfl ?_ | refine g_aload_nN G dX2_takeNameByte_59 rfl ?_ | refine g_aload_nQ G dX2_takeNameByte_59 rfl ?_
          refine g_dup G dX2_takeNameByte_60 rfl ?_
          refine g_getI G fl_X2_62 (hD0.1.1) (by first | decide | omega) rfl (hy _ _ (by decide) hr) dX2_takeNameByte_61 ?_
          refine g_iconst (v := nI 1) G dX2_takeNameByte_64 (by decide) ?_
          refine g_iadd G dX2_takeNameByte_65 (by first | exact nI_add _ _ | rfl) ?_
          refine g_putI G fl_X2_62 pu_3_9 (hD0.1.1) (by first | decide | omega) rfl dX2_takeNameByte_66 ?_
          refine g_iconst (v := nI 1) G dX2_takeNameByte_69 (by decide) ?_
          exact g_zret G F (Or.inr rfl) (⟨hD.1, hF0.tr hF (fun _ z => ⟨z, z⟩), by rw [e9]; rfl, fun _ => hD⟩) (by omega) (by omega) dX2_takeNameByte_70
        · have e6 : (if 0 < mN D 3 then nI 1 else nI 0) = nI 1 := if_pos (by
            by_cases z : 0 < mN D 3
            · exact z
            · exact absurd (show nI (mN D 3) ≤ nI 0 by rw [show mN D 3 = 0 by omega]; decide) c_48)
          have hm : gWt 1 (nI 1) := gWt_d (by omega) (by omega)
          refine g_iconst (v := nI 1) G dX2_takeNameByte_51 (by decide) ?_
          refine g_goto (tgt := 56) G dX2_takeNameByte_52 (by decide) ?_
          refine g_callV (ci := 3) G (c_X2_put _ S ad D h hn b _ hb hm) mt_X2_put mi_X2_put ml_X2_90 (q1) (by first | decide | omega) rfl (by decide) (by omega) (by omega) rfl (Nat.le_of_ble_eq_true rfl) dX2_takeNameByte_56 (fun v_56 S_56 hp_56 => ?_)
          obtain ⟨rfl, hD0, hF0, hy⟩ := hp_56
          simp only [Option.toList, List.nil_append]
          obtain ⟨hD, hF⟩ := gDra_run hD0 (r := mN D 3 + 1) (by omega)
          rw [← e6, ← e7] at hD
          first | refine g_aload_n G dX2_takeNameByte_59 rfl ?_ | refine g_aload_nN G dX2_takeNameByte_59 rfl ?_ | refine g_aload_nQ G dX2_takeNameByte_59 rfl ?_
          refine g_dup G dX2_takeNameByte_60 rfl ?_
          refine g_getI G fl_X2_62 (hD0.1.1) (by first | decide | omega) rfl (hy _ _ (by decide) hr) dX2_takeNameByte_61 ?_
          refine g_iconst (v := nI 1) G dX2_takeNameByte_64 (by decide) ?_
          refine g_iadd G dX2_takeNameByte_65 (by first | exact nI_add _ _ | rfl) ?_
          refine g_putI G fl_X2_62 pu_3_9 (hD0.1.1) (by first | decide | omega) rfl dX2_takeNameByte_66 ?_
          refine g_iconst (v := nI 1) G dX2_takeNameByte_69 (by decide) ?_
          exact g_zret G F (Or.inr rfl) (⟨hD.1, hF0.tr hF (fun _ z => ⟨z, z⟩), by rw [e9]; rfl, fun _ => hD⟩) (by omega) (by omega) dX2_takeNameByte_70
      · have e9 : dNok D b = false := by
          rw [e8, gB_eq0.mp c_37, Bool.and_false]
        refine g_iconst (v := nI 0) G dX2_takeNameByte_40 (by decide) ?_
        exact g_zret G F (Or.inl rfl) (⟨h.1, gFr.rf S, by rw [e9]; rfl, fun z => by rw [e9] at z; cases z⟩) (by omega) (by omega) dX2_takeNameByte_41
  · have e8 : dNok D b = decide (0 < mN D 3) := if_pos c_3
    have e7 : dNam D b = uN D 2 0 := if_pos c_3
    obtain ⟨hD, hF⟩ := gDra_s0 h
    rw [← e7] at hD
    first | refine g_aload_n G dX2_takeNameByte_6 rfl ?_ | refine g_aload_nN G dX2_takeNameByte_6 rfl ?_ | refine g_aload_nQ G dX2_takeNameByte_6 rfl ?_
    refine g_iconst (v := nI 0) G dX2_takeNameByte_7 (by decide) ?_
    refine g_putI G fl_X2_41 pu_3_8 (q1) (by first | decide | omega) rfl dX2_takeNameByte_8 ?_
    first | refine g_aload_n G dX2_takeNameByte_11 rfl ?_ | refine g_aload_nN G dX2_takeNameByte_11 rfl ?_ | refine g_aload_nQ G dX2_takeNameByte_11 rfl ?_
    refine g_getI G fl_X2_62 (q1) (by first | decide | omega) rfl (sX_p (by decide) hr) dX2_takeNameByte_12 ?_
    refine g_if_le (tgt := 22) G dX2_takeNameByte_15 (by decide) (fun c_15 => ?_) (fun c_15 => ?_)
    · have e9 : dNok D b = false := e8.trans (decide_eq_false (fun z => absurd (nI_lt z (by omega)) (Int32.not_lt.mpr c_15)))
      refine g_iconst (v := nI 0) G dX2_takeNameByte_22 (by decide) ?_
      exact g_zret G F (by first | exact Or.inl rfl | exact Or.inr rfl) (by first | exact ⟨hD.1, hF, by rw [e9]; rfl, fun _ => hD⟩) (by omega) (by omega) dX2_takeNameByte_23
    · have e9 : dNok D b = true := by
        rw [e8]
        refine decide_eq_true ?_
        by_cases z : 0 < mN D 3
        · exact z
        · exact absurd (show nI (mN D 3) ≤ nI 0 by rw [show mN D 3 = 0 by omega]; decide) c_15
      refine g_iconst (v := nI 1) G dX2_takeNameByte_18 (by decide) ?_
      refine g_goto (tgt := 23) G dX2_takeNameByte_19 (by decide) ?_
      exact g_zret G F (by first | exact Or.inl rfl | exact Or.inr rfl) (by first | exact ⟨hD.1, hF, by rw [e9]; rfl, fun _ => hD⟩) (by omega) (by omega) dX2_takeNameByte_23

set_option maxHeartbeats 4000000 in
set_option maxRecDepth 100000 in
theorem c_X2_takeNumberByte (d0 : Nat × Nat) (S : gS) (ad : Nat → Nat → Nat) (D : gM) (h : gDra S ad D) (h4 : mN D 2 = 4) (hr2 : mN D 3 ≤ 2) (hno : mN D 4 < 100) (hn7 : 0 < mN D 3 → mN D 0 + 7 ≤ 2500) (b : Int32) (i : Nat) (hi : i < 1000) : gCt d0 yX2_takeNumberByte cX2_takeNumberByte 3 (some .boolean) 4 0 0 [.ref (ad 6 2), .int b, .int (nI i)] S (gTk S ad (dUok D b) (dNum D b i)) gNo := by
  refine gCt_of (lo := [some (.ref (ad 6 2)), some (.int b), some (.int (nI i))]) (by decide +kernel) (Nat.le_of_ble_eq_true rfl) (rfl) ?_
  intro Γ hd G F hini
  obtain ⟨⟨q1, q2, q3, q4, q5, q6, q7, q8⟩, ⟨i1, i2, i3, i4, i5, i6, i7, i8⟩, ⟨f1, f2, f3, f4, f5, f6⟩, g1, g2, rr, vv⟩ := id h
  have hr := g1 (by omega)
  obtain ⟨n10, n11⟩ := g2 h4
  refine g_iload_n G dX2_takeNumberByte_0 rfl ?_
  refine g_bipush (v := nI 48) G dX2_takeNumberByte_1 (by decide) ?_
  refine g_icmp_lt (tgt := 12) G dX2_takeNumberByte_3 (by decide) (fun c_3 => ?_) (fun c_3 => ?_)
  · have e8 : dDig (nI 48) b = false := decide_eq_false (fun z => absurd z.1 (Int32.not_le.mpr c_3))
    have e7 : dUok D b = (decide (0 < mN D 3) && dBok D b) := if_neg (by rw [e8]; decide)
    have e6 : dNum D b i = dBody (dEnd D) b i := if_neg (by rw [e8]; decide)
    first | refine g_aload_n G dX2_takeNumberByte_12 rfl ?_ | refine g_aload_nN G dX2_takeNumberByte_12 rfl ?_ | refine g_aload_nQ G dX2_takeNumberByte_12 rfl ?_
    refine g_getI G fl_X2_62 (q1) (by first | decide | omega) rfl (hr) dX2_takeNumberByte_13 ?_
    refine g_if_ne (tgt := 21) G dX2_takeNumberByte_16 (by decide) (fun c_16 => ?_) (fun c_16 => ?_)
    · have hr0 : 0 < mN D 3 := by
        by_cases z : 0 < mN D 3
        · exact z
        · exact absurd (show nI (mN D 3) = 0 by rw [show mN D 3 = 0 by omega]; rfl) c_16
      have e5 : dUok D b = dBok D b := by rw [e7, decide_eq_true hr0, Bool.true_and]
      have hn := hn7 hr0
      have e4 : dBok (dEnd D) b = dBok D b := by unfold dBok; rw [dEnd_p (j := 1) (by omega) (by omega)]
      first | refine g_aload_n G dX2_takeNumberByte_21 rfl ?_ | refine g_aload_nN G dX2_takeNumberByte_21 rfl ?_ | refine g_aload_nQ G dX2_takeNumberByte_21 rfl ?_
      refine g_callV (ci := 3) G (c_X2_endNumber _ S ad D h h4 (by omega) (fun _ => by omega)) mt_X2_endNumber mi_X2_endNumber ml_X2_44 (q1) (by first | decide | omega) rfl (by decide) (by omega) (by omega) rfl (Nat.le_of_ble_eq_true rfl) dX2_takeNumberByte_22 (fun v_22 S_22 hp_22 => ?_)
      obtain ⟨rfl, hD0, hF0⟩ := hp_22
      simp only [Option.toList, List.nil_append]
      have hnn := dEnd_n D
      have hn6 : mN (dEnd D) 0 < 2500 := by split at hnn <;> omega
      first | refine g_aload_n G dX2_takeNumberByte_25 rfl ?_ | refine g_aload_nN G dX2_takeNumberByte_25 rfl ?_ | refine g_aload_nQ G dX2_takeNumberByte_25 rfl ?_
      refine g_iload_n G dX2_takeNumberByte_26 rfl ?_
      refine g_iload_n G dX2_takeNumberByte_27 rfl ?_
      refine g_callV (ci := 3) G (c_X2_takeBodyByte _ S_22 ad (dEnd D) hD0 (dEnd_2 D) hn6 b i hi) mt_X2_takeBodyByte mi_X2_takeBodyByte ml_X2_78 (hD0.1.1) (by first | decide | omega) rfl (by decide) (by omega) (by omega) rfl (Nat.le_of_ble_eq_true rfl) dX2_takeNumberByte_28 (fun v_28 S_28 hp_28 => ?_)
      obtain ⟨hQ, hF, rfl, hD⟩ := hp_28
      simp only [Option.toList, List.cons_append, List.nil_append]
      rw [e4] at hD
      exact g_zret G F (gB_01 _) (⟨hQ, hF0.tr hF (fun _ z => ⟨z, z⟩), by rw [e5, e4], fun z => by rw [e6]; exact hD (e5.symm.trans z)⟩) (by omega) (by omega) dX2_takeNumberByte_31
    · have e9 : dUok D b = false := by
        rw [e7, decide_eq_false (fun z => absurd (nI_lt (a := 0) z (by omega)) (by rw [c_16]; decide))]
        rfl
      refine g_iconst (v := nI 0) G dX2_takeNumberByte_19 (by decide) ?_
      exact g_zret G F (Or.inl rfl) (⟨h.1, gFr.rf S, by rw [e9]; rfl, fun z => by rw [e9] at z; cases z⟩) (by omega) (by omega) dX2_takeNumberByte_20
  · refine g_iload_n G dX2_takeNumberByte_6 rfl ?_
    refine g_bipush (v := nI 57) G dX2_takeNumberByte_7 (by decide) ?_
    refine g_icmp_le (tgt := 32) G dX2_takeNumberByte_9 (by decide) (fun c_9 => ?_) (fun c_9 => ?_)
    · have e8 : dDig (nI 48) b = true := decide_eq_true ⟨Int32.not_lt.mp c_3, c_9⟩
      have e7 : dUok D b = true := if_pos e8
      obtain ⟨j, hj, rfl⟩ := gWt_of (k := 57) ⟨Int32.le_trans (by decide) (Int32.not_lt.mp c_3), c_9⟩ (by omega)
      have hj2 : 48 ≤ j := (nI_leI (a := 48) (by omega) (by omega)).mp (Int32.not_lt.mp c_3)
      have ej : nI (mN D 4 * 10 + j) - nI 48 = nI (mN D 4 * 10 + j - 48) := pk_sub (by omega)
      have ec : (nI j).toNatClampNeg = j := nI_clamp (by omega)
      first | refine g_aload_n G dX2_takeNumberByte_32 rfl ?_ | refine g_aload_nN G dX2_takeNumberByte_32 rfl ?_ | refine g_aload_nQ G dX2_takeNumberByte_32 rfl ?_
      first | refine g_aload_n G dX2_takeNumberByte_33 rfl ?_ | refine g_aload_nN G dX2_takeNumberByte_33 rfl ?_ | refine g_aload_nQ G dX2_takeNumberByte_33 rfl ?_
      refine g_getI G fl_X2_81 (q1) (by first | decide | omega) rfl (n10) dX2_takeNumberByte_34 ?_
      refine g_bipush (v := nI 10) G dX2_takeNumberByte_37 (by decide) ?_
      refine g_imul G dX2_takeNumberByte_39 (pk_mul _ _) ?_
      refine g_iload_n G dX2_takeNumberByte_40 rfl ?_
      refine g_iadd G dX2_takeNumberByte_41 (nI_add _ _) ?_
      refine g_bipush (v := nI 48) G dX2_takeNumberByte_42 (by decide) ?_
      refine g_isub G dX2_takeNumberByte_44 (ej) ?_
      refine g_putI G fl_X2_81 pu_3_10 (q1) (by first | decide | omega) rfl dX2_takeNumberByte_45 ?_
      first | refine g_aload_n G dX2_takeNumberByte_48 rfl ?_ | refine g_aload_nN G dX2_takeNumberByte_48 rfl ?_ | refine g_aload_nQ G dX2_takeNumberByte_48 rfl ?_
      refine g_dup G dX2_takeNumberByte_49 rfl ?_
      refine g_getI G fl_X2_62 (q1) (by first | decide | omega) rfl (sX_p (by decide) hr) dX2_takeNumberByte_50 ?_
      refine g_iconst (v := nI 1) G dX2_takeNumberByte_53 (by decide) ?_
      refine g_iadd G dX2_takeNumberByte_54 (by first | exact nI_add _ _ | rfl) ?_
      refine g_putI G fl_X2_62 pu_3_9 (q1) (by first | decide | omega) rfl dX2_takeNumberByte_55 ?_
      obtain ⟨hD, hF⟩ := gDra_dgt h (r := mN D 3 + 1) (n := mN D 4 * 10 + j - 48) (by omega) (by omega)
      have ed : uN (uN D 4 (mN D 4 * 10 + j - 48)) 3 (mN D 3 + 1) = dDgt D (nI j) := by unfold dDgt; rw [ec]
      rw [ed] at hD
      first | refine g_aload_n G dX2_takeNumberByte_58 rfl ?_ | refine g_aload_nN G dX2_takeNumberByte_58 rfl ?_ | refine g_aload_nQ G dX2_takeNumberByte_58 rfl ?_
      refine g_getI G fl_X2_62 (q1) (by first | decide | omega) rfl (sX_s) dX2_takeNumberByte_59 ?_
      refine g_iconst (v := nI 3) G dX2_takeNumberByte_62 (by decide) ?_
      refine g_icmp_lt (tgt := 70) G dX2_takeNumberByte_63 (by decide) (fun c_63 => ?_) (fun c_63 => ?_)
      · have e3 : dNum D (nI j) i = dDgt D (nI j) := (if_pos e8).trans (if_pos ((nI_ltI (b := 3) (by omega) (by omega)).mp c_63))
        rw [← e3] at hD
        have hFz := hF
        refine g_iconst (v := nI 1) G dX2_takeNumberByte_70 (by decide) ?_
        exact g_zret G F (Or.inr rfl) (⟨hD.1, hFz, by rw [e7]; rfl, fun _ => hD⟩) (by omega) (by omega) dX2_takeNumberByte_71
      · have e3 : dNum D (nI j) i = dEnd (dDgt D (nI j)) := (if_pos e8).trans (if_neg (fun z => c_63 (nI_lt z (by omega))))
        have hn := hn7 (by
          have z : ¬ mN D 3 + 1 < 3 := fun z => c_63 (nI_lt z (by omega))
          omega)
        first | refine g_aload_n G dX2_takeNumberByte_66 rfl ?_ | refine g_aload_nN G dX2_takeNumberByte_66 rfl ?_ | refine g_aload_nQ G dX2_takeNumberByte_66 rfl ?_
        refine g_callV (ci := 3) G (c_X2_endNumber _ _ ad (dDgt D (nI j)) hD h4 (by show mN D 0 + 5 ≤ 2500; omega) (fun _ => by show mN D 0 + 6 ≤ 2500; omega)) mt_X2_endNumber mi_X2_endNumber ml_X2_44 (q1) (by first | decide | omega) rfl (by decide) (by omega) (by omega) rfl (Nat.le_of_ble_eq_true rfl) dX2_takeNumberByte_67 (fun v_67 S_67 hp_67 => ?_)
        obtain ⟨rfl, hD0, hF0⟩ := hp_67
        simp only [Option.toList, List.nil_append]
        rw [← e3] at hD0
        have hD := hD0
        have hFz := hF.tr (K := dK) hF0 (fun _ z => ⟨z, z⟩)
        refine g_iconst (v := nI 1) G dX2_takeNumberByte_70 (by decide) ?_
        exact g_zret G F (Or.inr rfl) (⟨hD.1, hFz, by rw [e7]; rfl, fun _ => hD⟩) (by omega) (by omega) dX2_takeNumberByte_71
    · have e8 : dDig (nI 48) b = false := decide_eq_false (fun z => c_9 z.2)
      have e7 : dUok D b = (decide (0 < mN D 3) && dBok D b) := if_neg (by rw [e8]; decide)
      have e6 : dNum D b i = dBody (dEnd D) b i := if_neg (by rw [e8]; decide)
      first | refine g_aload_n G dX2_takeNumberByte_12 rfl ?_ | refine g_aload_nN G dX2_takeNumberByte_12 rfl ?_ | refine g_aload_nQ G dX2_takeNumberByte_12 rfl ?_
      refine g_getI G fl_X2_62 (q1) (by first | decide | omega) rfl (hr) dX2_takeNumberByte_13 ?_
      refine g_if_ne (tgt := 21) G dX2_takeNumberByte_16 (by decide) (fun c_16 => ?_) (fun c_16 => ?_)
      · have hr0 : 0 < mN D 3 := by
          by_cases z : 0 < mN D 3
          · exact z
          · exact absurd (show nI (mN D 3) = 0 by rw [show mN D 3 = 0 by omega]; rfl) c_16
        have e5 : dUok D b = dBok D b := by rw [e7, decide_eq_true hr0, Bool.true_and]
        have hn := hn7 hr0
        have e4 : dBok (dEnd D) b = dBok D b := by unfold dBok; rw [dEnd_p (j := 1) (by omega) (by omega)]
        first | refine g_aload_n G dX2_takeNumberByte_21 rfl ?_ | refine g_aload_nN G dX2_takeNumberByte_21 rfl ?_ | refine g_aload_nQ G dX2_takeNumberByte_21 rfl ?_
        refine g_callV (ci := 3) G (c_X2_endNumber _ S ad D h h4 (by omega) (fun _ => by omega)) mt_X2_endNumber mi_X2_endNumber ml_X2_44 (q1) (by first | decide | omega) rfl (by decide) (by omega) (by omega) rfl (Nat.le_of_ble_eq_true rfl) dX2_takeNumberByte_22 (fun v_22 S_22 hp_22 => ?_)
        obtain ⟨rfl, hD0, hF0⟩ := hp_22
        simp only [Option.toList, List.nil_append]
        have hnn := dEnd_n D
        have hn6 : mN (dEnd D) 0 < 2500 := by split at hnn <;> omega
        first | refine g_aload_n G dX2_takeNumberByte_25 rfl ?_ | refine g_aload_nN G dX2_takeNumberByte_25 rfl ?_ | refine g_aload_nQ G dX2_takeNumberByte_25 rfl ?_
        refine g_iload_n G dX2_takeNumberByte_26 rfl ?_
        refine g_iload_n G dX2_takeNumberByte_27 rfl ?_
        refine g_callV (ci := 3) G (c_X2_takeBodyByte _ S_22 ad (dEnd D) hD0 (dEnd_2 D) hn6 b i hi) mt_X2_takeBodyByte mi_X2_takeBodyByte ml_X2_78 (hD0.1.1) (by first | decide | omega) rfl (by decide) (by omega) (by omega) rfl (Nat.le_of_ble_eq_true rfl) dX2_takeNumberByte_28 (fun v_28 S_28 hp_28 => ?_)
        obtain ⟨hQ, hF, rfl, hD⟩ := hp_28
        simp only [Option.toList, List.cons_append, List.nil_append]
        rw [e4] at hD
        exact g_zret G F (gB_01 _) (⟨hQ, hF0.tr hF (fun _ z => ⟨z, z⟩), by rw [e5, e4], fun z => by rw [e6]; exact hD (e5.symm.trans z)⟩) (by omega) (by omega) dX2_takeNumberByte_31
      · have e9 : dUok D b = false := by
          rw [e7, decide_eq_false (fun z => absurd (nI_lt (a := 0) z (by omega)) (by rw [c_16]; decide))]
          rfl
        refine g_iconst (v := nI 0) G dX2_takeNumberByte_19 (by decide) ?_
        exact g_zret G F (Or.inl rfl) (⟨h.1, gFr.rf S, by rw [e9]; rfl, fun z => by rw [e9] at z; cases z⟩) (by omega) (by omega) dX2_takeNumberByte_20

def dB (D : gM) (t : Nat) : Prop := (mN D 2 = 4 → mN D 3 ≤ 2 ∧ mN D 4 < 10 ^ mN D 3 ∧ 2 * mN D 0 + 5 * (1 + mN D 3) ≤ 5 * t) ∧ (mN D 2 ≠ 4 → 2 * mN D 0 ≤ 5 * t)
theorem dB_no {D : gM} {t : Nat} (h2 : mN D 2 ≠ 4) (h : 2 * mN D 0 ≤ 5 * t) : dB D t := ⟨fun z => absurd z h2, fun _ => h⟩
theorem dBody_B {D : gM} {t n : Nat} {b : Int32} (h2 : mN D 2 = 0) (hn : 2 * mN D 0 ≤ 5 * t) : dB (dBody D b n) (t + 1) := by
  unfold dBody
  split
  · exact dB_no (show (1 : Nat) ≠ 4 by decide) (by show 2 * mN D 0 ≤ _; omega)
  · split
    · exact dB_no (show mN D 2 ≠ 4 by omega) (by show 2 * mN D 0 ≤ _; omega)
    · split
      · exact dB_no (show (3 : Nat) ≠ 4 by decide) (by show 2 * mN D 0 ≤ _; omega)
      · split
        · exact ⟨fun _ => ⟨Nat.zero_le _, Nat.lt_succ_self 0, by show 2 * mN D 0 + 5 * (1 + 0) ≤ _; omega⟩, fun z => absurd rfl z⟩
        · exact dB_no (show mN D 2 ≠ 4 by omega) (by show 2 * (mN D 0 + 1) ≤ _; omega)
theorem dEnd_B {D : gM} {t : Nat} (h0 : 0 < mN D 3) (h4 : mN D 4 < 10 ^ mN D 3) (h : 2 * mN D 0 + 5 * (1 + mN D 3) ≤ 5 * t) : 2 * mN (dEnd D) 0 ≤ 5 * t := by
  have hn := dEnd_n D
  by_cases e : mN D 4 < 10
  · rw [if_pos e] at hn
    omega
  · rw [if_neg e] at hn
    have h1 : mN D 3 ≠ 1 := fun z => by rw [z] at h4; exact e h4
    omega
theorem dNx_B {D : gM} {t : Nat} {b : Int32} (hi : dI D) (h : dB D t) (hk : dOk D b = true) : dB (dNx D b t) (t + 1) := by
  obtain ⟨i1, i2, i3, i4, i5, i6, i7, i8⟩ := hi
  by_cases s1 : mN D 2 = 1
  · rw [show dNx D b t = dLev D b from if_pos s1]
    have := h.2 (by omega)
    exact dB_no (show (2 : Nat) ≠ 4 by decide) (by show 2 * mN D 0 ≤ _; omega)
  by_cases s2 : mN D 2 = 2
  · rw [show dNx D b t = uN D 2 0 from (if_neg s1).trans (if_pos s2)]
    have := h.2 (by omega)
    exact dB_no (show (0 : Nat) ≠ 4 by decide) (by show 2 * mN D 0 ≤ _; omega)
  by_cases s3 : mN D 2 = 3
  · rw [show dNx D b t = dNam D b from (if_neg s1).trans ((if_neg s2).trans (if_pos s3))]
    have := h.2 (by omega)
    unfold dNam
    split
    · exact dB_no (show (0 : Nat) ≠ 4 by decide) (by show 2 * mN D 0 ≤ _; omega)
    · exact dB_no (show mN D 2 ≠ 4 by omega) (by show 2 * (mN D 0 + 1) ≤ _; omega)
  by_cases s4 : mN D 2 = 4
  · rw [show dNx D b t = dNum D b t from (if_neg s1).trans ((if_neg s2).trans ((if_neg s3).trans (if_pos s4)))]
    rw [show dOk D b = dUok D b from (if_neg s1).trans ((if_neg s2).trans ((if_neg s3).trans (if_pos s4)))] at hk
    obtain ⟨r2, r4, rn⟩ := h.1 s4
    unfold dNum
    by_cases e8 : dDig (nI 48) b = true
    · rw [if_pos e8]
      have e9 := of_decide_eq_true e8
      obtain ⟨j, hj, rfl⟩ := gWt_of (k := 57) ⟨Int32.le_trans (by decide) e9.1, e9.2⟩ (by omega)
      have ec : (nI j).toNatClampNeg = j := nI_clamp (by omega)
      have hd4 : mN (dDgt D (nI j)) 4 = mN D 4 * 10 + j - 48 := by
        show mN D 4 * 10 + (nI j).toNatClampNeg - 48 = _
        rw [ec]
      have hp : mN D 4 * 10 + j - 48 < 10 ^ (mN D 3 + 1) := by
        rw [Nat.pow_succ]
        omega
      split
      · next hlt =>
        refine ⟨fun _ => ⟨by show mN D 3 + 1 ≤ 2; omega, ?_, by show 2 * mN D 0 + 5 * (1 + (mN D 3 + 1)) ≤ _; omega⟩, fun z => absurd s4 z⟩
        rw [hd4]
        exact hp
      · refine dB_no (by rw [dEnd_2]; decide) (dEnd_B (D := dDgt D (nI j)) (Nat.succ_pos _) ?_ ?_)
        · rw [hd4]
          exact hp
        · show 2 * mN D 0 + 5 * (1 + (mN D 3 + 1)) ≤ _
          omega
    · have e8' : dDig (nI 48) b = false := Bool.eq_false_iff.mpr e8
      rw [if_neg e8]
      rw [show dUok D b = (decide (0 < mN D 3) && dBok D b) from if_neg e8] at hk
      have hr0 : 0 < mN D 3 := of_decide_eq_true (Bool.and_eq_true_iff.mp hk).1
      exact dBody_B (dEnd_2 D) (dEnd_B hr0 r4 rn)
  · rw [show dNx D b t = dBody D b t from (if_neg s1).trans ((if_neg s2).trans ((if_neg s3).trans (if_neg s4)))]
    exact dBody_B (by omega) (h.2 s4)

set_option maxHeartbeats 4000000 in
set_option maxRecDepth 100000 in
theorem c_X2_takeByte (d0 : Nat × Nat) (S : gS) (ad : Nat → Nat → Nat) (D : gM) (h : gDra S ad D) (i : Nat) (hB : dB D i) (hi : i < 1000) (b : Int32) : gCt d0 yX2_takeByte cX2_takeByte 3 (some .boolean) 5 0 0 [.ref (ad 6 2), .int b, .int (nI i)] S (gTk S ad (dOk D b) (dNx D b i)) gNo := by
  refine gCt_of (lo := [some (.ref (ad 6 2)), some (.int b), some (.int (nI i))]) (by decide +kernel) (Nat.le_of_ble_eq_true rfl) (rfl) ?_
  intro Γ hd G F hini
  obtain ⟨⟨q1, q2, q3, q4, q5, q6, q7, q8⟩, ⟨i1, i2, i3, i4, i5, i6, i7, i8⟩, ⟨f1, f2, f3, f4, f5, f6⟩, g1, g2, rr, vv⟩ := id h
  obtain ⟨w, ew⟩ : ∃ w, w = mN D 2 := ⟨_, rfl⟩
  have f4w : gX S 4 8 (ad 6 2) = nI w := by rw [ew]; exact f4
  have hw : w ≤ 4 := by omega
  first | refine g_aload_n G dX2_takeByte_0 rfl ?_ | refine g_aload_nN G dX2_takeByte_0 rfl ?_ | refine g_aload_nQ G dX2_takeByte_0 rfl ?_
  refine g_getI G fl_X2_41 (q1) (by first | decide | omega) rfl (f4w) dX2_takeByte_1 ?_
  obtain rfl | rfl | rfl | rfl | rfl := (show w = 0 ∨ w = 1 ∨ w = 2 ∨ w = 3 ∨ w = 4 by omega)
  · have e1 : dOk D b = dBok D b := (if_neg (by omega)).trans ((if_neg (by omega)).trans ((if_neg (by omega)).trans (if_neg (by omega))))
    have e2 : dNx D b i = dBody D b i := (if_neg (by omega)).trans ((if_neg (by omega)).trans ((if_neg (by omega)).trans (if_neg (by omega))))
    have hnn := hB.2 (by omega)
    refine g_tableOut (tgt := 61) G dX2_takeByte_4 (by decide) (by decide) ?_
    first | refine g_aload_n G dX2_takeByte_61 rfl ?_ | refine g_aload_nN G dX2_takeByte_61 rfl ?_ | refine g_aload_nQ G dX2_takeByte_61 rfl ?_
    refine g_iload_n G dX2_takeByte_62 rfl ?_
    refine g_iload_n G dX2_takeByte_63 rfl ?_
    refine g_callV (ci := 3) G (c_X2_takeBodyByte _ S ad D h (by omega) (by omega) b i hi) mt_X2_takeBodyByte mi_X2_takeBodyByte ml_X2_78 (q1) (by first | decide | omega) rfl (by decide) (by omega) (by omega) rfl (Nat.le_of_ble_eq_true rfl) dX2_takeByte_64 (fun v_64 S_64 hp_64 => ?_)
    obtain ⟨hQ, hF, rfl, hD⟩ := hp_64
    simp only [Option.toList, List.cons_append, List.nil_append]
    exact g_zret G F (gB_01 _) (⟨hQ, hF, by rw [e1], fun z => by rw [e2]; exact hD (e1.symm.trans z)⟩) (by omega) (by omega) dX2_takeByte_67
  · have e1 : dOk D b = dDig (nI 49) b := if_pos (by omega)
    have e2 : dNx D b i = dLev D b := if_pos (by omega)
    refine g_tableIn (off := 32) (tgt := 36) G dX2_takeByte_4 (by decide) (by decide) (by decide) (by decide) ?_
    first | refine g_aload_n G dX2_takeByte_36 rfl ?_ | refine g_aload_nN G dX2_takeByte_36 rfl ?_ | refine g_aload_nQ G dX2_takeByte_36 rfl ?_
    refine g_iload_n G dX2_takeByte_37 rfl ?_
    refine g_callV (ci := 3) G (c_X2_takeLevel _ S ad D h (i5 (by omega)) b) mt_X2_takeLevel mi_X2_takeLevel ml_X2_65 (q1) (by first | decide | omega) rfl (by decide) (by omega) (by omega) rfl (Nat.le_of_ble_eq_true rfl) dX2_takeByte_38 (fun v_38 S_38 hp_38 => ?_)
    obtain ⟨hQ, hF, rfl, hD⟩ := hp_38
    simp only [Option.toList, List.cons_append, List.nil_append]
    exact g_zret G F (gB_01 _) (⟨hQ, hF, by rw [e1], fun z => by rw [e2]; exact hD (e1.symm.trans z)⟩) (by omega) (by omega) dX2_takeByte_41
  · have e1 : dOk D b = decide (b = nI 58) := (if_neg (by omega)).trans (if_pos (by omega))
    have e2 : dNx D b i = uN D 2 0 := (if_neg (by omega)).trans (if_pos (by omega))
    refine g_tableIn (off := 38) (tgt := 42) G dX2_takeByte_4 (by decide) (by decide) (by decide) (by decide) ?_
    first | refine g_aload_n G dX2_takeByte_42 rfl ?_ | refine g_aload_nN G dX2_takeByte_42 rfl ?_ | refine g_aload_nQ G dX2_takeByte_42 rfl ?_
    refine g_iload_n G dX2_takeByte_43 rfl ?_
    refine g_callV (ci := 3) G (c_X2_takeColon _ S ad D h b) mt_X2_takeColon mi_X2_takeColon ml_X2_69 (q1) (by first | decide | omega) rfl (by decide) (by omega) (by omega) rfl (Nat.le_of_ble_eq_true rfl) dX2_takeByte_44 (fun v_44 S_44 hp_44 => ?_)
    obtain ⟨hQ, hF, rfl, hD⟩ := hp_44
    simp only [Option.toList, List.cons_append, List.nil_append]
    exact g_zret G F (gB_01 _) (⟨hQ, hF, by rw [e1], fun z => by rw [e2]; exact hD (e1.symm.trans z)⟩) (by omega) (by omega) dX2_takeByte_47
  · have e1 : dOk D b = dNok D b := (if_neg (by omega)).trans ((if_neg (by omega)).trans (if_pos (by omega)))
    have e2 : dNx D b i = dNam D b := (if_neg (by omega)).trans ((if_neg (by omega)).trans (if_pos (by omega)))
    have hnn := hB.2 (by omega)
    refine g_tableIn (off := 44) (tgt := 48) G dX2_takeByte_4 (by decide) (by decide) (by decide) (by decide) ?_
    first | refine g_aload_n G dX2_takeByte_48 rfl ?_ | refine g_aload_nN G dX2_takeByte_48 rfl ?_ | refine g_aload_nQ G dX2_takeByte_48 rfl ?_
    refine g_iload_n G dX2_takeByte_49 rfl ?_
    refine g_callV (ci := 3) G (c_X2_takeNameByte _ S ad D h (by omega) (by omega) b) mt_X2_takeNameByte mi_X2_takeNameByte ml_X2_72 (q1) (by first | decide | omega) rfl (by decide) (by omega) (by omega) rfl (Nat.le_of_ble_eq_true rfl) dX2_takeByte_50 (fun v_50 S_50 hp_50 => ?_)
    obtain ⟨hQ, hF, rfl, hD⟩ := hp_50
    simp only [Option.toList, List.cons_append, List.nil_append]
    exact g_zret G F (gB_01 _) (⟨hQ, hF, by rw [e1], fun z => by rw [e2]; exact hD (e1.symm.trans z)⟩) (by omega) (by omega) dX2_takeByte_53
  · have e1 : dOk D b = dUok D b := (if_neg (by omega)).trans ((if_neg (by omega)).trans ((if_neg (by omega)).trans (if_pos (by omega))))
    have e2 : dNx D b i = dNum D b i := (if_neg (by omega)).trans ((if_neg (by omega)).trans ((if_neg (by omega)).trans (if_pos (by omega))))
    obtain ⟨b1, b2, b3⟩ := hB.1 (by omega)
    have b4 : mN D 4 < 100 := Nat.lt_of_lt_of_le b2 (Nat.pow_le_pow_right (n := 10) (by decide) b1)
    refine g_tableIn (off := 50) (tgt := 54) G dX2_takeByte_4 (by decide) (by decide) (by decide) (by decide) ?_
    first | refine g_aload_n G dX2_takeByte_54 rfl ?_ | refine g_aload_nN G dX2_takeByte_54 rfl ?_ | refine g_aload_nQ G dX2_takeByte_54 rfl ?_
    refine g_iload_n G dX2_takeByte_55 rfl ?_
    refine g_iload_n G dX2_takeByte_56 rfl ?_
    refine g_callV (ci := 3) G (c_X2_takeNumberByte _ S ad D h (by omega) b1 b4 (fun z => by omega) b i hi) mt_X2_takeNumberByte mi_X2_takeNumberByte ml_X2_75 (q1) (by first | decide | omega) rfl (by decide) (by omega) (by omega) rfl (Nat.le_of_ble_eq_true rfl) dX2_takeByte_57 (fun v_57 S_57 hp_57 => ?_)
    obtain ⟨hQ, hF, rfl, hD⟩ := hp_57
    simp only [Option.toList, List.cons_append, List.nil_append]
    exact g_zret G F (gB_01 _) (⟨hQ, hF, by rw [e1], fun z => by rw [e2]; exact hD (e1.symm.trans z)⟩) (by omega) (by omega) dX2_takeByte_60
