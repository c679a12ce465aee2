/-! ===== what is told ===== -/
def gBnd (M : gM) : Prop := mN M 6 ≤ 8 ∧ mN M 8 ≤ 12 ∧ mN M 11 ≤ 24 ∧ mN M 17 ≤ 20 ∧ mN M 23 ≤ 40
def gTellDoc (M : gM) (d w : Nat) : Int32 := match w with
  | 0 => mA M 12 d
  | 1 => nI (mN M (100 + d))
  | 2 => nI (gct (fun k => decide (0 < mT M 14 d k)) (mN M (100 + d)))
  | 3 => gmx (mT M 14 d) (mN M (100 + d))
  | 4 => gsm (mT M 15 d) (mN M (100 + d))
  | 5 => mA M 43 d
  | 6 => mA M 44 d
  | _ => mA M 45 d
def gTellCase (M : gM) (c w : Nat) : Int32 := match w with
  | 0 => mA M 7 c
  | 1 => nI (gct (fun k => decide (mA M 12 k = nI c)) (mN M 11))
  | 2 => nI (gct (fun k => decide (mA M 18 k = nI c)) (mN M 17))
  | 3 => nI (gct (fun k => decide (mA M 18 k = nI c) && gAdm M k) (mN M 17))
  | _ => nI (gct (fun k => decide (mA M 7 c ≤ gReachOf M k c)) (mN M 8))
def gTellPers (M : gM) (p w : Nat) : Int32 := match w with
  | 0 => mA M 9 p
  | 1 => mA M 41 p
  | 2 => mA M 10 p
  | 3 => gor (fun k => decide (mA M 7 k ≤ gReachOf M p k)) (mN M 6)
  | 4 => mA M 42 p
  | 5 => nI (gct (fun k => decide (mA M 43 k = nI p)) (mN M 11))
  | 6 => nI (gct (fun k => decide (mA M 19 k = nI p)) (mN M 17))
  | _ => nI (gct (fun k => decide (mA M 25 k = nI p ∧ mA M 46 k = nI 1)) (mN M 23))
def gTellExh (M : gM) (e w : Nat) : Int32 := match w with
  | 0 => mA M 18 e
  | 1 => mA M 19 e
  | 2 => mA M 20 e
  | 3 => nI (mN M (200 + e))
  | 4 => nI (gct (fun k => decide (mA M 22 (4 * (12 * e + k) + 3) = nI 1)) (mN M (200 + e)))
  | 5 => gB (gAdm M e)
  | _ => nI (gct (fun k => gBit (mA M 16 k) e) (mN M 11))
def gTellLink (M : gM) (e k w : Nat) : Int32 := mA M 22 (4 * (12 * e + k) + w)
def gTellLtr (M : gM) (k w : Nat) : Int32 := match w with
  | 0 => mA M 24 k
  | 1 => mA M 25 k
  | 2 => mA M 26 k
  | 3 => mA M 46 k
  | _ => mA M 47 k
def gTellCount (M : gM) (w : Nat) : Int32 := match w with
  | 0 => nI (mN M 40)
  | 1 => nI (mN M 6)
  | 2 => nI (mN M 8)
  | 3 => nI (mN M 11)
  | 4 => nI (mN M 17)
  | 5 => nI (mN M 23)
  | 6 => nI (gct (fun k => decide (mA M 46 k = nI 0)) (mN M 23))
  | 7 => nI (gct (fun k => decide (mA M 46 k = nI 1)) (mN M 23))
  | 8 => nI (mN M 2)
  | 9 => nI (mN M 5)
  | 10 => nI (gct (fun k => decide (mA M 19 k = -2)) (mN M 17))
  | _ => nI (gct (fun k => decide (¬ mA M 43 k = -1)) (mN M 11))

set_option maxHeartbeats 4000000 in
set_option maxRecDepth 100000 in
theorem c_X7_tellDocument (d0 : Nat × Nat) (S : gS) (x : Nat) (ad : Nat → Nat → Nat) (M : gM) (h : gMail d0 S x ad M) (d w : Nat) (hd2 : d < mN M 11) (hw : w ≤ 7) : gCt d0 yX7_tellDocument cX7_tellDocument 2 (some .int) 2 0 0 [.ref (ad 2 d), .int (nI w)] S (gRet (.int (gTellDoc M d w)) S) gNo := by
  refine gCt_of (lo := [some (.ref (ad 2 d)), some (.int (nI w))]) (by decide +kernel) (Nat.le_of_ble_eq_true rfl) rfl ?_
  intro Γ hd G F hini
  obtain ⟨⟨r1, ⟨ra, rb, rc, rd, re⟩, rt, rtl, rp, rpl, rdr, rep, rday⟩, ⟨l0, l1, l2, l3, l4⟩, ht, hcs, hps, hds, hes, hls⟩ := id h
  subst hd
  obtain ⟨k1, ⟨kc, kc1, kc2, kc3⟩, ⟨k2, k3, k4⟩, ⟨k5, k6, k7, k8, kpr⟩, kl, ⟨t1, t2, t3⟩, k9⟩ := hds d hd2
  have hc := hcs kc kc1
  refine g_iload_n G dX7_tellDocument_0 rfl ?_
  obtain rfl | rfl | rfl | rfl | rfl | rfl | rfl | rfl := (show w = 0 ∨ w = 1 ∨ w = 2 ∨ w = 3 ∨ w = 4 ∨ w = 5 ∨ w = 6 ∨ w = 7 by omega)
  · refine g_tableIn (off := 43) (tgt := 44) G dX7_tellDocument_1 (by decide) (by decide) (by decide) (by decide) ?_
    first | refine g_aload_n G dX7_tellDocument_44 rfl ?_ | refine g_aload_nN G dX7_tellDocument_44 rfl ?_ | refine g_aload_nQ G dX7_tellDocument_44 rfl ?_
    first | refine g_getR G fl_X7_181 (by assumption) (by first | decide | omega) rfl (by assumption) dX7_tellDocument_45 ?_ | refine g_getZ G fl_X7_181 (by assumption) (by first | decide | omega) rfl (by assumption) dX7_tellDocument_45 ?_ | refine g_getQ G fl_X7_181 (by assumption) (by first | decide | omega) rfl (by first | assumption | rfl) dX7_tellDocument_45 ?_
    refine g_getI G fl_X7_160 (hc.1) (by first | decide | omega) rfl (hc.2.1) dX7_tellDocument_48 ?_
    exact g_iret G F (gRi kc2.symm) (by omega) (by omega) dX7_tellDocument_51
  · refine g_tableIn (off := 51) (tgt := 52) G dX7_tellDocument_1 (by decide) (by decide) (by decide) (by decide) ?_
    first | refine g_aload_n G dX7_tellDocument_52 rfl ?_ | refine g_aload_nN G dX7_tellDocument_52 rfl ?_ | refine g_aload_nQ G dX7_tellDocument_52 rfl ?_
    first | refine g_getR G fl_X7_202 (by assumption) (by first | decide | omega) rfl (by assumption) dX7_tellDocument_53 ?_ | refine g_getZ G fl_X7_202 (by assumption) (by first | decide | omega) rfl (by assumption) dX7_tellDocument_53 ?_ | refine g_getQ G fl_X7_202 (by assumption) (by first | decide | omega) rfl (by first | assumption | rfl) dX7_tellDocument_53 ?_
    refine g_alen G (t1) (by first | decide | omega) (by first | assumption | rfl) dX7_tellDocument_56 ?_
    exact g_iret G F (gRi rfl) (by omega) (by omega) dX7_tellDocument_57
  · refine g_tableIn (off := 57) (tgt := 58) G dX7_tellDocument_1 (by decide) (by decide) (by decide) (by decide) ?_
    first | refine g_aload_n G dX7_tellDocument_58 rfl ?_ | refine g_aload_nN G dX7_tellDocument_58 rfl ?_ | refine g_aload_nQ G dX7_tellDocument_58 rfl ?_
    refine g_callVp (ci := 2) G (c_X1_countVeiled _ S ad M d (hds d hd2)) mt_X1_countVeiled mi_X1_countVeiled ml_X7_374 (by assumption) (by first | decide | omega) rfl (by decide) (by omega) (by omega) rfl (Nat.le_of_ble_eq_true rfl) dX7_tellDocument_59 ?_
    exact g_iret G F (gRi rfl) (by omega) (by omega) dX7_tellDocument_62
  · refine g_tableIn (off := 62) (tgt := 63) G dX7_tellDocument_1 (by decide) (by decide) (by decide) (by decide) ?_
    first | refine g_aload_n G dX7_tellDocument_63 rfl ?_ | refine g_aload_nN G dX7_tellDocument_63 rfl ?_ | refine g_aload_nQ G dX7_tellDocument_63 rfl ?_
    refine g_callVp (ci := 2) G (c_X1_greatestLevel _ S ad M d (hds d hd2)) mt_X1_greatestLevel mi_X1_greatestLevel ml_X7_467 (by assumption) (by first | decide | omega) rfl (by decide) (by omega) (by omega) rfl (Nat.le_of_ble_eq_true rfl) dX7_tellDocument_64 ?_
    exact g_iret G F (gRi rfl) (by omega) (by omega) dX7_tellDocument_67
  · refine g_tableIn (off := 67) (tgt := 68) G dX7_tellDocument_1 (by decide) (by decide) (by decide) (by decide) ?_
    first | refine g_aload_n G dX7_tellDocument_68 rfl ?_ | refine g_aload_nN G dX7_tellDocument_68 rfl ?_ | refine g_aload_nQ G dX7_tellDocument_68 rfl ?_
    refine g_callVp (ci := 2) G (c_X1_countMarked _ S ad M d (hds d hd2)) mt_X1_countMarked mi_X1_countMarked ml_X7_470 (by assumption) (by first | decide | omega) rfl (by decide) (by omega) (by omega) rfl (Nat.le_of_ble_eq_true rfl) dX7_tellDocument_69 ?_
    exact g_iret G F (gRi rfl) (by omega) (by omega) dX7_tellDocument_72
  · refine g_tableIn (off := 72) (tgt := 73) G dX7_tellDocument_1 (by decide) (by decide) (by decide) (by decide) ?_
    first | refine g_aload_n G dX7_tellDocument_73 rfl ?_ | refine g_aload_nN G dX7_tellDocument_73 rfl ?_ | refine g_aload_nQ G dX7_tellDocument_73 rfl ?_
    first | refine g_getR G fl_X7_223 (by assumption) (by first | decide | omega) rfl (by assumption) dX7_tellDocument_74 ?_ | refine g_getZ G fl_X7_223 (by assumption) (by first | decide | omega) rfl (by assumption) dX7_tellDocument_74 ?_ | refine g_getQ G fl_X7_223 (by assumption) (by first | decide | omega) rfl (by first | assumption | rfl) dX7_tellDocument_74 ?_
    refine g_callSp G (c_numberOf _ S x ad M h _ kpr) mt_X7_numberOf ms_X7_numberOf ml_X7_232 (by decide) (by omega) (by omega) rfl (Nat.le_of_ble_eq_true rfl) dX7_tellDocument_77 ?_
    exact g_iret G F (gRi rfl) (by omega) (by omega) dX7_tellDocument_80
  · refine g_tableIn (off := 80) (tgt := 81) G dX7_tellDocument_1 (by decide) (by decide) (by decide) (by decide) ?_
    first | refine g_aload_n G dX7_tellDocument_81 rfl ?_ | refine g_aload_nN G dX7_tellDocument_81 rfl ?_ | refine g_aload_nQ G dX7_tellDocument_81 rfl ?_
    refine g_getI G fl_X7_229 (by assumption) (by first | decide | omega) rfl (k7) dX7_tellDocument_82 ?_
    exact g_iret G F (gRi rfl) (by omega) (by omega) dX7_tellDocument_85
  · refine g_tableOut (tgt := 86) G dX7_tellDocument_1 (by decide) (by decide) ?_
    first | refine g_aload_n G dX7_tellDocument_86 rfl ?_ | refine g_aload_nN G dX7_tellDocument_86 rfl ?_ | refine g_aload_nQ G dX7_tellDocument_86 rfl ?_
    refine g_getI G fl_X7_473 (by assumption) (by first | decide | omega) rfl (k8) dX7_tellDocument_87 ?_
    exact g_iret G F (gRi rfl) (by omega) (by omega) dX7_tellDocument_90

set_option maxHeartbeats 4000000 in
set_option maxRecDepth 100000 in
theorem c_X7_tellCase (d0 : Nat × Nat) (S : gS) (x : Nat) (ad : Nat → Nat → Nat) (M : gM) (h : gMail d0 S x ad M) (hB : gBnd M) (c w : Nat) (hc : c < mN M 6) (hw : w ≤ 4) : gCt d0 yX7_tellCase cX7_tellCase 3 (some .int) 6 0 0 [.ref x, .ref (ad 0 c), .int (nI w)] S (gRet (.int (gTellCase M c w)) S) gNo := by
  refine gCt_of (lo := [some (.ref x), some (.ref (ad 0 c)), some (.int (nI w))]) (by decide +kernel) (Nat.le_of_ble_eq_true rfl) rfl ?_
  intro Γ hd G F hini
  obtain ⟨⟨r1, ⟨ra, rb, rc, rd, re⟩, rt, rtl, rp, rpl, rdr, rep, rday⟩, ⟨l0, l1, l2, l3, l4⟩, ht, hcs, hps, hds, hes, hls⟩ := id h
  subst hd
  obtain ⟨k1, k2, k3⟩ := id (hcs c hc)
  refine g_iload_n G dX7_tellCase_0 rfl ?_
  obtain rfl | rfl | rfl | rfl | rfl := (show w = 0 ∨ w = 1 ∨ w = 2 ∨ w = 3 ∨ w = 4 by omega)
  · refine g_tableIn (off := 31) (tgt := 32) G dX7_tellCase_1 (by decide) (by decide) (by decide) (by decide) ?_
    first | refine g_aload_n G dX7_tellCase_32 rfl ?_ | refine g_aload_nN G dX7_tellCase_32 rfl ?_ | refine g_aload_nQ G dX7_tellCase_32 rfl ?_
    refine g_getI G fl_X7_139 (by assumption) (by first | decide | omega) rfl (by first | assumption | rfl) dX7_tellCase_33 ?_
    exact g_iret G F (gRi rfl) (by omega) (by omega) dX7_tellCase_36
  · refine g_tableIn (off := 36) (tgt := 37) G dX7_tellCase_1 (by decide) (by decide) (by decide) (by decide) ?_
    first | refine g_aload_n G dX7_tellCase_37 rfl ?_ | refine g_aload_nN G dX7_tellCase_37 rfl ?_ | refine g_aload_nQ G dX7_tellCase_37 rfl ?_
    first | refine g_aload_n G dX7_tellCase_38 rfl ?_ | refine g_aload_nN G dX7_tellCase_38 rfl ?_ | refine g_aload_nQ G dX7_tellCase_38 rfl ?_
    refine g_callVp (ci := 8) G (c_X7_countDocumentsOf _ S x ad M h c hc) mt_X7_countDocumentsOf mi_X7_countDocumentsOf ml_X7_438 (by assumption) (by first | decide | omega) rfl (by decide) (by omega) (by omega) rfl (Nat.le_of_ble_eq_true rfl) dX7_tellCase_39 ?_
    exact g_iret G F (gRi rfl) (by omega) (by omega) dX7_tellCase_42
  · refine g_tableIn (off := 42) (tgt := 43) G dX7_tellCase_1 (by decide) (by decide) (by decide) (by decide) ?_
    first | refine g_aload_n G dX7_tellCase_43 rfl ?_ | refine g_aload_nN G dX7_tellCase_43 rfl ?_ | refine g_aload_nQ G dX7_tellCase_43 rfl ?_
    first | refine g_aload_n G dX7_tellCase_44 rfl ?_ | refine g_aload_nN G dX7_tellCase_44 rfl ?_ | refine g_aload_nQ G dX7_tellCase_44 rfl ?_
    refine g_callVp (ci := 8) G (c_X7_exhibitsOf _ S x ad M h c hc) mt_X7_exhibitsOf mi_X7_exhibitsOf ml_X7_86 (by assumption) (by first | decide | omega) rfl (by decide) (by omega) (by omega) rfl (Nat.le_of_ble_eq_true rfl) dX7_tellCase_45 ?_
    rw [gor_kN _ _ (by have := hB.2.2.2.1; omega)]
    refine g_callSp G (c_J6_bitCount_0f7a4 _ S _ (Nat.lt_of_lt_of_le (kN_lt _ _) (Nat.pow_le_pow_right (by omega) hB.2.2.2.1))) mt_J6_bitCount_0f7a4 ms_J6_bitCount_0f7a4 ml_X7_441 (by decide) (by omega) (by omega) rfl (Nat.le_of_ble_eq_true rfl) dX7_tellCase_48 ?_
    exact g_iret G F (gRi (congrArg nI (bcN_ct _ hB.2.2.2.1))) (by omega) (by omega) dX7_tellCase_51
  · refine g_tableIn (off := 51) (tgt := 52) G dX7_tellCase_1 (by decide) (by decide) (by decide) (by decide) ?_
    first | refine g_aload_n G dX7_tellCase_52 rfl ?_ | refine g_aload_nN G dX7_tellCase_52 rfl ?_ | refine g_aload_nQ G dX7_tellCase_52 rfl ?_
    first | refine g_aload_n G dX7_tellCase_53 rfl ?_ | refine g_aload_nN G dX7_tellCase_53 rfl ?_ | refine g_aload_nQ G dX7_tellCase_53 rfl ?_
    refine g_callVp (ci := 8) G (c_X7_countAdmitted _ S x ad M h c hc) mt_X7_countAdmitted mi_X7_countAdmitted ml_X7_446 (by assumption) (by first | decide | omega) rfl (by decide) (by omega) (by omega) rfl (Nat.le_of_ble_eq_true rfl) dX7_tellCase_54 ?_
    exact g_iret G F (gRi rfl) (by omega) (by omega) dX7_tellCase_57
  · refine g_tableOut (tgt := 58) G dX7_tellCase_1 (by decide) (by decide) ?_
    first | refine g_aload_n G dX7_tellCase_58 rfl ?_ | refine g_aload_nN G dX7_tellCase_58 rfl ?_ | refine g_aload_nQ G dX7_tellCase_58 rfl ?_
    first | refine g_aload_n G dX7_tellCase_59 rfl ?_ | refine g_aload_nN G dX7_tellCase_59 rfl ?_ | refine g_aload_nQ G dX7_tellCase_59 rfl ?_
    refine g_callVp (ci := 8) G (c_X7_countWhoSeeInto _ S x ad M h c hc) mt_X7_countWhoSeeInto mi_X7_countWhoSeeInto ml_X7_449 (by assumption) (by first | decide | omega) rfl (by decide) (by omega) (by omega) rfl (Nat.le_of_ble_eq_true rfl) dX7_tellCase_60 ?_
    exact g_iret G F (gRi rfl) (by omega) (by omega) dX7_tellCase_63

set_option maxHeartbeats 4000000 in
set_option maxRecDepth 100000 in
theorem c_X7_tellPerson (d0 : Nat × Nat) (S : gS) (x : Nat) (ad : Nat → Nat → Nat) (M : gM) (h : gMail d0 S x ad M) (p w : Nat) (hp : p < mN M 8) (hw : w ≤ 7) : gCt d0 yX7_tellPerson cX7_tellPerson 3 (some .int) 6 0 0 [.ref x, .ref (ad 1 p), .int (nI w)] S (gRet (.int (gTellPers M p w)) S) gNo := by
  refine gCt_of (lo := [some (.ref x), some (.ref (ad 1 p)), some (.int (nI w))]) (by decide +kernel) (Nat.le_of_ble_eq_true rfl) rfl ?_
  intro Γ hd G F hini
  obtain ⟨⟨r1, ⟨ra, rb, rc, rd, re⟩, rt, rtl, rp, rpl, rdr, rep, rday⟩, ⟨l0, l1, l2, l3, l4⟩, ht, hcs, hps, hds, hes, hls⟩ := id h
  subst hd
  obtain ⟨p1, p2, p3, p4, p5, p6⟩ := id (hps p hp)
  refine g_iload_n G dX7_tellPerson_0 rfl ?_
  obtain rfl | rfl | rfl | rfl | rfl | rfl | rfl | rfl := (show w = 0 ∨ w = 1 ∨ w = 2 ∨ w = 3 ∨ w = 4 ∨ w = 5 ∨ w = 6 ∨ w = 7 by omega)
  · refine g_tableIn (off := 43) (tgt := 44) G dX7_tellPerson_1 (by decide) (by decide) (by decide) (by decide) ?_
    first | refine g_aload_n G dX7_tellPerson_44 rfl ?_ | refine g_aload_nN G dX7_tellPerson_44 rfl ?_ | refine g_aload_nQ G dX7_tellPerson_44 rfl ?_
    refine g_getI G fl_X7_367 (by assumption) (by first | decide | omega) rfl (by first | assumption | rfl) dX7_tellPerson_45 ?_
    exact g_iret G F (gRi rfl) (by omega) (by omega) dX7_tellPerson_48
  · refine g_tableIn (off := 48) (tgt := 49) G dX7_tellPerson_1 (by decide) (by decide) (by decide) (by decide) ?_
    first | refine g_aload_n G dX7_tellPerson_49 rfl ?_ | refine g_aload_nN G dX7_tellPerson_49 rfl ?_ | refine g_aload_nQ G dX7_tellPerson_49 rfl ?_
    refine g_getI G fl_X7_423 (by assumption) (by first | decide | omega) rfl (by first | assumption | rfl) dX7_tellPerson_50 ?_
    exact g_iret G F (gRi rfl) (by omega) (by omega) dX7_tellPerson_53
  · refine g_tableIn (off := 53) (tgt := 54) G dX7_tellPerson_1 (by decide) (by decide) (by decide) (by decide) ?_
    first | refine g_aload_n G dX7_tellPerson_54 rfl ?_ | refine g_aload_nN G dX7_tellPerson_54 rfl ?_ | refine g_aload_nQ G dX7_tellPerson_54 rfl ?_
    refine g_getI G fl_X7_157 (by assumption) (by first | decide | omega) rfl (by first | assumption | rfl) dX7_tellPerson_55 ?_
    exact g_iret G F (gRi rfl) (by omega) (by omega) dX7_tellPerson_58
  · refine g_tableIn (off := 58) (tgt := 59) G dX7_tellPerson_1 (by decide) (by decide) (by decide) (by decide) ?_
    first | refine g_aload_n G dX7_tellPerson_59 rfl ?_ | refine g_aload_nN G dX7_tellPerson_59 rfl ?_ | refine g_aload_nQ G dX7_tellPerson_59 rfl ?_
    first | refine g_aload_n G dX7_tellPerson_60 rfl ?_ | refine g_aload_nN G dX7_tellPerson_60 rfl ?_ | refine g_aload_nQ G dX7_tellPerson_60 rfl ?_
    refine g_callVp (ci := 8) G (c_X7_casesSeenBy _ S x ad M h p hp) mt_X7_casesSeenBy mi_X7_casesSeenBy ml_X7_455 (by assumption) (by first | decide | omega) rfl (by decide) (by omega) (by omega) rfl (Nat.le_of_ble_eq_true rfl) dX7_tellPerson_61 ?_
    exact g_iret G F (gRi rfl) (by omega) (by omega) dX7_tellPerson_64
  · refine g_tableIn (off := 64) (tgt := 65) G dX7_tellPerson_1 (by decide) (by decide) (by decide) (by decide) ?_
    first | refine g_aload_n G dX7_tellPerson_65 rfl ?_ | refine g_aload_nN G dX7_tellPerson_65 rfl ?_ | refine g_aload_nQ G dX7_tellPerson_65 rfl ?_
    refine g_getI G fl_X7_420 (by assumption) (by first | decide | omega) rfl (by first | assumption | rfl) dX7_tellPerson_66 ?_
    exact g_iret G F (gRi rfl) (by omega) (by omega) dX7_tellPerson_69
  · refine g_tableIn (off := 69) (tgt := 70) G dX7_tellPerson_1 (by decide) (by decide) (by decide) (by decide) ?_
    first | refine g_aload_n G dX7_tellPerson_70 rfl ?_ | refine g_aload_nN G dX7_tellPerson_70 rfl ?_ | refine g_aload_nQ G dX7_tellPerson_70 rfl ?_
    first | refine g_aload_n G dX7_tellPerson_71 rfl ?_ | refine g_aload_nN G dX7_tellPerson_71 rfl ?_ | refine g_aload_nQ G dX7_tellPerson_71 rfl ?_
    refine g_callVp (ci := 8) G (c_X7_countOriginalsWith _ S x ad M h p hp) mt_X7_countOriginalsWith mi_X7_countOriginalsWith ml_X7_458 (by assumption) (by first | decide | omega) rfl (by decide) (by omega) (by omega) rfl (Nat.le_of_ble_eq_true rfl) dX7_tellPerson_72 ?_
    exact g_iret G F (gRi rfl) (by omega) (by omega) dX7_tellPerson_75
  · refine g_tableIn (off := 75) (tgt := 76) G dX7_tellPerson_1 (by decide) (by decide) (by decide) (by decide) ?_
    first | refine g_aload_n G dX7_tellPerson_76 rfl ?_ | refine g_aload_nN G dX7_tellPerson_76 rfl ?_ | refine g_aload_nQ G dX7_tellPerson_76 rfl ?_
    first | refine g_aload_n G dX7_tellPerson_77 rfl ?_ | refine g_aload_nN G dX7_tellPerson_77 rfl ?_ | refine g_aload_nQ G dX7_tellPerson_77 rfl ?_
    refine g_callVp (ci := 8) G (c_X7_countExhibitsWith _ S x ad M h p hp) mt_X7_countExhibitsWith mi_X7_countExhibitsWith ml_X7_461 (by assumption) (by first | decide | omega) rfl (by decide) (by omega) (by omega) rfl (Nat.le_of_ble_eq_true rfl) dX7_tellPerson_78 ?_
    exact g_iret G F (gRi rfl) (by omega) (by omega) dX7_tellPerson_81
  · refine g_tableOut (tgt := 82) G dX7_tellPerson_1 (by decide) (by decide) ?_
    first | refine g_aload_n G dX7_tellPerson_82 rfl ?_ | refine g_aload_nN G dX7_tellPerson_82 rfl ?_ | refine g_aload_nQ G dX7_tellPerson_82 rfl ?_
    first | refine g_aload_n G dX7_tellPerson_83 rfl ?_ | refine g_aload_nN G dX7_tellPerson_83 rfl ?_ | refine g_aload_nQ G dX7_tellPerson_83 rfl ?_
    refine g_callVp (ci := 8) G (c_X7_countDeliveredTo _ S x ad M h p hp) mt_X7_countDeliveredTo mi_X7_countDeliveredTo ml_X7_464 (by assumption) (by first | decide | omega) rfl (by decide) (by omega) (by omega) rfl (Nat.le_of_ble_eq_true rfl) dX7_tellPerson_84 ?_
    exact g_iret G F (gRi rfl) (by omega) (by omega) dX7_tellPerson_87

set_option maxHeartbeats 4000000 in
set_option maxRecDepth 100000 in
theorem c_X7_tellExhibit (d0 : Nat × Nat) (S : gS) (x : Nat) (ad : Nat → Nat → Nat) (M : gM) (h : gMail d0 S x ad M) (e w : Nat) (he : e < mN M 17) (hw : w ≤ 6) : gCt d0 yX7_tellExhibit cX7_tellExhibit 3 (some .int) 6 0 0 [.ref x, .ref (ad 3 e), .int (nI w)] S (gRet (.int (gTellExh M e w)) S) gNo := by
  refine gCt_of (lo := [some (.ref x), some (.ref (ad 3 e)), some (.int (nI w))]) (by decide +kernel) (Nat.le_of_ble_eq_true rfl) rfl ?_
  intro Γ hd G F hini
  obtain ⟨⟨r1, ⟨ra, rb, rc, rd, re⟩, rt, rtl, rp, rpl, rdr, rep, rday⟩, ⟨l0, l1, l2, l3, l4⟩, ht, hcs, hps, hds, hes, hls⟩ := id h
  subst hd
  obtain ⟨k1, k2, ⟨kc, kc1, kc2, kc3⟩, ⟨k4, k5, k6, k7, kw⟩, k8, k9, k10⟩ := hes e he
  have hc := hcs kc kc1
  refine g_iload_n G dX7_tellExhibit_0 rfl ?_
  obtain rfl | rfl | rfl | rfl | rfl | rfl | rfl := (show w = 0 ∨ w = 1 ∨ w = 2 ∨ w = 3 ∨ w = 4 ∨ w = 5 ∨ w = 6 by omega)
  · refine g_tableIn (off := 39) (tgt := 40) G dX7_tellExhibit_1 (by decide) (by decide) (by decide) (by decide) ?_
    first | refine g_aload_n G dX7_tellExhibit_40 rfl ?_ | refine g_aload_nN G dX7_tellExhibit_40 rfl ?_ | refine g_aload_nQ G dX7_tellExhibit_40 rfl ?_
    first | refine g_getR G fl_X7_263 (by assumption) (by first | decide | omega) rfl (by assumption) dX7_tellExhibit_41 ?_ | refine g_getZ G fl_X7_263 (by assumption) (by first | decide | omega) rfl (by assumption) dX7_tellExhibit_41 ?_ | refine g_getQ G fl_X7_263 (by assumption) (by first | decide | omega) rfl (by first | assumption | rfl) dX7_tellExhibit_41 ?_
    refine g_getI G fl_X7_160 (hc.1) (by first | decide | omega) rfl (hc.2.1) dX7_tellExhibit_44 ?_
    exact g_iret G F (gRi kc2.symm) (by omega) (by omega) dX7_tellExhibit_47
  · refine g_tableIn (off := 47) (tgt := 48) G dX7_tellExhibit_1 (by decide) (by decide) (by decide) (by decide) ?_
    first | refine g_aload_n G dX7_tellExhibit_48 rfl ?_ | refine g_aload_nN G dX7_tellExhibit_48 rfl ?_ | refine g_aload_nQ G dX7_tellExhibit_48 rfl ?_
    refine g_getI G fl_X7_252 (by assumption) (by first | decide | omega) rfl (by first | assumption | rfl) dX7_tellExhibit_49 ?_
    refine g_if_eq (tgt := 60) G dX7_tellExhibit_52 (by decide) (fun c_52 => ?_) (fun c_52 => ?_)
    · have e0 : ¬ mA M 19 e = -2 := of_decide_eq_false (gB_eq0.mp c_52)
      have kw2 : gPr M (mA M 19 e) := kw.elim Or.inl (fun z => z.elim (fun y => absurd y e0) Or.inr)
      first | refine g_aload_n G dX7_tellExhibit_60 rfl ?_ | refine g_aload_nN G dX7_tellExhibit_60 rfl ?_ | refine g_aload_nQ G dX7_tellExhibit_60 rfl ?_
      first | refine g_getR G fl_X7_256 (by assumption) (by first | decide | omega) rfl (by assumption) dX7_tellExhibit_61 ?_ | refine g_getZ G fl_X7_256 (by assumption) (by first | decide | omega) rfl (by assumption) dX7_tellExhibit_61 ?_ | refine g_getQ G fl_X7_256 (by assumption) (by first | decide | omega) rfl (by first | assumption | rfl) dX7_tellExhibit_61 ?_
      refine g_callSp G (c_numberOf _ S x ad M h _ kw2) mt_X7_numberOf ms_X7_numberOf ml_X7_232 (by decide) (by omega) (by omega) rfl (Nat.le_of_ble_eq_true rfl) dX7_tellExhibit_64 ?_
      exact g_iret G F (gRi (by first | rfl | exact e0.symm)) (by omega) (by omega) dX7_tellExhibit_67
    · have e0 : mA M 19 e = -2 := of_decide_eq_true (gB_ne0.mp c_52)
      refine g_bipush (v := (-2)) G dX7_tellExhibit_55 (by decide) ?_
      refine g_goto (tgt := 67) G dX7_tellExhibit_57 (by decide) ?_
      exact g_iret G F (gRi (by first | rfl | exact e0.symm)) (by omega) (by omega) dX7_tellExhibit_67
  · refine g_tableIn (off := 67) (tgt := 68) G dX7_tellExhibit_1 (by decide) (by decide) (by decide) (by decide) ?_
    first | refine g_aload_n G dX7_tellExhibit_68 rfl ?_ | refine g_aload_nN G dX7_tellExhibit_68 rfl ?_ | refine g_aload_nQ G dX7_tellExhibit_68 rfl ?_
    refine g_getI G fl_X7_285 (by assumption) (by first | decide | omega) rfl (by first | assumption | rfl) dX7_tellExhibit_69 ?_
    exact g_iret G F (gRi rfl) (by omega) (by omega) dX7_tellExhibit_72
  · refine g_tableIn (off := 72) (tgt := 73) G dX7_tellExhibit_1 (by decide) (by decide) (by decide) (by decide) ?_
    first | refine g_aload_n G dX7_tellExhibit_73 rfl ?_ | refine g_aload_nN G dX7_tellExhibit_73 rfl ?_ | refine g_aload_nQ G dX7_tellExhibit_73 rfl ?_
    first | refine g_getR G fl_X7_278 (by assumption) (by first | decide | omega) rfl (by assumption) dX7_tellExhibit_74 ?_ | refine g_getZ G fl_X7_278 (by assumption) (by first | decide | omega) rfl (by assumption) dX7_tellExhibit_74 ?_ | refine g_getQ G fl_X7_278 (by assumption) (by first | decide | omega) rfl (by first | assumption | rfl) dX7_tellExhibit_74 ?_
    refine g_callVp (ci := 0) G (c_Jx4a65c_size_8abf5 _ S (ad 10 e) (10 + e) (mN M (200 + e)) (ad (20 + e)) k9) mt_Jx4a65c_size_8abf5 mi_Jx4a65c_size_8abf5 ml_X7_80 (k9.1) (by first | decide | omega) rfl (by decide) (by omega) (by omega) rfl (Nat.le_of_ble_eq_true rfl) dX7_tellExhibit_77 ?_
    exact g_iret G F (gRi rfl) (by omega) (by omega) dX7_tellExhibit_80
  · refine g_tableIn (off := 80) (tgt := 81) G dX7_tellExhibit_1 (by decide) (by decide) (by decide) (by decide) ?_
    first | refine g_aload_n G dX7_tellExhibit_81 rfl ?_ | refine g_aload_nN G dX7_tellExhibit_81 rfl ?_ | refine g_aload_nQ G dX7_tellExhibit_81 rfl ?_
    refine g_callVp (ci := 4) G (c_X3_countGaps _ S x ad M h e he) mt_X3_countGaps mi_X3_countGaps ml_X7_476 (by assumption) (by first | decide | omega) rfl (by decide) (by omega) (by omega) rfl (Nat.le_of_ble_eq_true rfl) dX7_tellExhibit_82 ?_
    exact g_iret G F (gRi rfl) (by omega) (by omega) dX7_tellExhibit_85
  · refine g_tableIn (off := 85) (tgt := 86) G dX7_tellExhibit_1 (by decide) (by decide) (by decide) (by decide) ?_
    first | refine g_aload_n G dX7_tellExhibit_86 rfl ?_ | refine g_aload_nN G dX7_tellExhibit_86 rfl ?_ | refine g_aload_nQ G dX7_tellExhibit_86 rfl ?_
    refine g_callVp (ci := 4) G (c_X3_canBeAdmitted _ S x ad M h e he) mt_X3_canBeAdmitted mi_X3_canBeAdmitted ml_X7_452 (by assumption) (by first | decide | omega) rfl (by decide) (by omega) (by omega) rfl (Nat.le_of_ble_eq_true rfl) dX7_tellExhibit_87 ?_
    refine g_if_eq (tgt := 97) G dX7_tellExhibit_90 (by decide) (fun c_90 => ?_) (fun c_90 => ?_)
    · have e9 := gB_eq0.mp c_90
      refine g_iconst (v := nI 0) G dX7_tellExhibit_97 (by decide) ?_
      exact g_iret G F (gRi (by unfold gTellExh; rw [e9]; rfl)) (by omega) (by omega) dX7_tellExhibit_98
    · have e9 := gB_ne0.mp c_90
      refine g_iconst (v := nI 1) G dX7_tellExhibit_93 (by decide) ?_
      refine g_goto (tgt := 98) G dX7_tellExhibit_94 (by decide) ?_
      exact g_iret G F (gRi (by unfold gTellExh; rw [e9]; rfl)) (by omega) (by omega) dX7_tellExhibit_98
  · refine g_tableOut (tgt := 99) G dX7_tellExhibit_1 (by decide) (by decide) ?_
    first | refine g_aload_n G dX7_tellExhibit_99 rfl ?_ | refine g_aload_nN G dX7_tellExhibit_99 rfl ?_ | refine g_aload_nQ G dX7_tellExhibit_99 rfl ?_
    first | refine g_aload_n G dX7_tellExhibit_100 rfl ?_ | refine g_aload_nN G dX7_tellExhibit_100 rfl ?_ | refine g_aload_nQ G dX7_tellExhibit_100 rfl ?_
    refine g_callVp (ci := 8) G (c_X7_countDocumentsThatMark _ S x ad M h e he) mt_X7_countDocumentsThatMark mi_X7_countDocumentsThatMark ml_X7_479 (by assumption) (by first | decide | omega) rfl (by decide) (by omega) (by omega) rfl (Nat.le_of_ble_eq_true rfl) dX7_tellExhibit_101 ?_
    exact g_iret G F (gRi rfl) (by omega) (by omega) dX7_tellExhibit_104

set_option maxHeartbeats 4000000 in
set_option maxRecDepth 100000 in
theorem c_X7_tellLink (d0 : Nat × Nat) (S : gS) (x : Nat) (ad : Nat → Nat → Nat) (M : gM) (h : gMail d0 S x ad M) (e k w : Nat) (he : e < mN M 17) (hk : k < mN M (200 + e)) (hw : w ≤ 3) : gCt d0 yX7_tellLink cX7_tellLink 2 (some .int) 1 0 0 [.ref (ad (20 + e) k), .int (nI w)] S (gRet (.int (gTellLink M e k w)) S) gNo := by
  refine gCt_of (lo := [some (.ref (ad (20 + e) k)), some (.int (nI w))]) (by decide +kernel) (Nat.le_of_ble_eq_true rfl) rfl ?_
  intro Γ hd G F hini
  obtain ⟨⟨r1, ⟨ra, rb, rc, rd, re⟩, rt, rtl, rp, rpl, rdr, rep, rday⟩, ⟨l0, l1, l2, l3, l4⟩, ht, hcs, hps, hds, hes, hls⟩ := id h
  subst hd
  obtain ⟨n1, n2, n3, n4, n5, n6, n7⟩ := (hes e he).2.2.2.2.2.2 k hk
  refine g_iload_n G dX7_tellLink_0 rfl ?_
  obtain rfl | rfl | rfl | rfl := (show w = 0 ∨ w = 1 ∨ w = 2 ∨ w = 3 by omega)
  · refine g_tableIn (off := 27) (tgt := 28) G dX7_tellLink_1 (by decide) (by decide) (by decide) (by decide) ?_
    first | refine g_aload_n G dX7_tellLink_28 rfl ?_ | refine g_aload_nN G dX7_tellLink_28 rfl ?_ | refine g_aload_nQ G dX7_tellLink_28 rfl ?_
    refine g_getI G fl_X7_486 (by assumption) (by first | decide | omega) rfl (by first | assumption | rfl) dX7_tellLink_29 ?_
    exact g_iret G F (gRi rfl) (by omega) (by omega) dX7_tellLink_32
  · refine g_tableIn (off := 32) (tgt := 33) G dX7_tellLink_1 (by decide) (by decide) (by decide) (by decide) ?_
    first | refine g_aload_n G dX7_tellLink_33 rfl ?_ | refine g_aload_nN G dX7_tellLink_33 rfl ?_ | refine g_aload_nQ G dX7_tellLink_33 rfl ?_
    first | refine g_getR G fl_X7_487 (by assumption) (by first | decide | omega) rfl (by assumption) dX7_tellLink_34 ?_ | refine g_getZ G fl_X7_487 (by assumption) (by first | decide | omega) rfl (by assumption) dX7_tellLink_34 ?_ | refine g_getQ G fl_X7_487 (by assumption) (by first | decide | omega) rfl (by first | assumption | rfl) dX7_tellLink_34 ?_
    refine g_callSp G (c_numberOf _ S x ad M h _ n6) mt_X7_numberOf ms_X7_numberOf ml_X7_232 (by decide) (by omega) (by omega) rfl (Nat.le_of_ble_eq_true rfl) dX7_tellLink_37 ?_
    exact g_iret G F (gRi rfl) (by omega) (by omega) dX7_tellLink_40
  · refine g_tableIn (off := 40) (tgt := 41) G dX7_tellLink_1 (by decide) (by decide) (by decide) (by decide) ?_
    first | refine g_aload_n G dX7_tellLink_41 rfl ?_ | refine g_aload_nN G dX7_tellLink_41 rfl ?_ | refine g_aload_nQ G dX7_tellLink_41 rfl ?_
    first | refine g_getR G fl_X7_490 (by assumption) (by first | decide | omega) rfl (by assumption) dX7_tellLink_42 ?_ | refine g_getZ G fl_X7_490 (by assumption) (by first | decide | omega) rfl (by assumption) dX7_tellLink_42 ?_ | refine g_getQ G fl_X7_490 (by assumption) (by first | decide | omega) rfl (by first | assumption | rfl) dX7_tellLink_42 ?_
    refine g_callSp G (c_numberOf _ S x ad M h _ n7) mt_X7_numberOf ms_X7_numberOf ml_X7_232 (by decide) (by omega) (by omega) rfl (Nat.le_of_ble_eq_true rfl) dX7_tellLink_45 ?_
    exact g_iret G F (gRi rfl) (by omega) (by omega) dX7_tellLink_48
  · refine g_tableOut (tgt := 49) G dX7_tellLink_1 (by decide) (by decide) ?_
    first | refine g_aload_n G dX7_tellLink_49 rfl ?_ | refine g_aload_nN G dX7_tellLink_49 rfl ?_ | refine g_aload_nQ G dX7_tellLink_49 rfl ?_
    refine g_getI G fl_X7_493 (by assumption) (by first | decide | omega) rfl (by first | assumption | rfl) dX7_tellLink_50 ?_
    exact g_iret G F (gRi rfl) (by omega) (by omega) dX7_tellLink_53

set_option maxHeartbeats 4000000 in
set_option maxRecDepth 100000 in
theorem c_X7_tellLetter (d0 : Nat × Nat) (S : gS) (x : Nat) (ad : Nat → Nat → Nat) (M : gM) (h : gMail d0 S x ad M) (l w : Nat) (hl : l < mN M 23) (hw : w ≤ 4) : gCt d0 yX7_tellLetter cX7_tellLetter 2 (some .int) 0 0 0 [.ref (ad 4 l), .int (nI w)] S (gRet (.int (gTellLtr M l w)) S) gNo := by
  refine gCt_of (lo := [some (.ref (ad 4 l)), some (.int (nI w))]) (by decide +kernel) (Nat.le_of_ble_eq_true rfl) rfl ?_
  intro Γ hd G F hini
  obtain ⟨⟨r1, ⟨ra, rb, rc, rd, re⟩, rt, rtl, rp, rpl, rdr, rep, rday⟩, ⟨l0, l1, l2, l3, l4⟩, ht, hcs, hps, hds, hes, hls⟩ := id h
  subst hd
  obtain ⟨k1, ⟨kd, kd1, kd2, kd3⟩, k3, ⟨kp, kp1, kp2, kp3⟩, k5, k6, k7⟩ := hls l hl
  have hp := hps kp kp1
  refine g_iload_n G dX7_tellLetter_0 rfl ?_
  obtain rfl | rfl | rfl | rfl | rfl := (show w = 0 ∨ w = 1 ∨ w = 2 ∨ w = 3 ∨ w = 4 by omega)
  · refine g_tableIn (off := 31) (tgt := 32) G dX7_tellLetter_1 (by decide) (by decide) (by decide) (by decide) ?_
    first | refine g_aload_n G dX7_tellLetter_32 rfl ?_ | refine g_aload_nN G dX7_tellLetter_32 rfl ?_ | refine g_aload_nQ G dX7_tellLetter_32 rfl ?_
    refine g_getI G fl_X7_496 (by assumption) (by first | decide | omega) rfl (by first | assumption | rfl) dX7_tellLetter_33 ?_
    exact g_iret G F (gRi rfl) (by omega) (by omega) dX7_tellLetter_36
  · refine g_tableIn (off := 36) (tgt := 37) G dX7_tellLetter_1 (by decide) (by decide) (by decide) (by decide) ?_
    first | refine g_aload_n G dX7_tellLetter_37 rfl ?_ | refine g_aload_nN G dX7_tellLetter_37 rfl ?_ | refine g_aload_nQ G dX7_tellLetter_37 rfl ?_
    first | refine g_getR G fl_X7_351 (by assumption) (by first | decide | omega) rfl (by assumption) dX7_tellLetter_38 ?_ | refine g_getZ G fl_X7_351 (by assumption) (by first | decide | omega) rfl (by assumption) dX7_tellLetter_38 ?_ | refine g_getQ G fl_X7_351 (by assumption) (by first | decide | omega) rfl (by first | assumption | rfl) dX7_tellLetter_38 ?_
    refine g_getI G fl_X7_397 (hp.1) (by first | decide | omega) rfl (hp.2.1) dX7_tellLetter_41 ?_
    exact g_iret G F (gRi kp2.symm) (by omega) (by omega) dX7_tellLetter_44
  · refine g_tableIn (off := 44) (tgt := 45) G dX7_tellLetter_1 (by decide) (by decide) (by decide) (by decide) ?_
    first | refine g_aload_n G dX7_tellLetter_45 rfl ?_ | refine g_aload_nN G dX7_tellLetter_45 rfl ?_ | refine g_aload_nQ G dX7_tellLetter_45 rfl ?_
    refine g_getI G fl_X7_411 (by assumption) (by first | decide | omega) rfl (by first | assumption | rfl) dX7_tellLetter_46 ?_
    exact g_iret G F (gRi rfl) (by omega) (by omega) dX7_tellLetter_49
  · refine g_tableIn (off := 49) (tgt := 50) G dX7_tellLetter_1 (by decide) (by decide) (by decide) (by decide) ?_
    first | refine g_aload_n G dX7_tellLetter_50 rfl ?_ | refine g_aload_nN G dX7_tellLetter_50 rfl ?_ | refine g_aload_nQ G dX7_tellLetter_50 rfl ?_
    refine g_getI G fl_X7_337 (by assumption) (by first | decide | omega) rfl (by first | assumption | rfl) dX7_tellLetter_51 ?_
    exact g_iret G F (gRi rfl) (by omega) (by omega) dX7_tellLetter_54
  · refine g_tableOut (tgt := 55) G dX7_tellLetter_1 (by decide) (by decide) ?_
    first | refine g_aload_n G dX7_tellLetter_55 rfl ?_ | refine g_aload_nN G dX7_tellLetter_55 rfl ?_ | refine g_aload_nQ G dX7_tellLetter_55 rfl ?_
    refine g_getI G fl_X7_414 (by assumption) (by first | decide | omega) rfl (by first | assumption | rfl) dX7_tellLetter_56 ?_
    exact g_iret G F (gRi rfl) (by omega) (by omega) dX7_tellLetter_59

set_option maxHeartbeats 4000000 in
set_option maxRecDepth 100000 in
theorem c_X7_tellCount (d0 : Nat × Nat) (S : gS) (x : Nat) (ad : Nat → Nat → Nat) (M : gM) (h : gMail d0 S x ad M) (w : Nat) (hw : w ≤ 11) : gCt d0 yX7_tellCount cX7_tellCount 2 (some .int) 5 0 0 [.ref x, .int (nI w)] S (gRet (.int (gTellCount M w)) S) gNo := by
  refine gCt_of (lo := [some (.ref x), some (.int (nI w))]) (by decide +kernel) (Nat.le_of_ble_eq_true rfl) rfl ?_
  intro Γ hd G F hini
  obtain ⟨⟨r1, ⟨ra, rb, rc, rd, re⟩, rt, rtl, rp, rpl, rdr, rep, rday⟩, ⟨l0, l1, l2, l3, l4⟩, ht, hcs, hps, hds, hes, hls⟩ := id h
  subst hd
  refine g_iload_n G dX7_tellCount_0 rfl ?_
  obtain rfl | rfl | rfl | rfl | rfl | rfl | rfl | rfl | rfl | rfl | rfl | rfl := (show w = 0 ∨ w = 1 ∨ w = 2 ∨ w = 3 ∨ w = 4 ∨ w = 5 ∨ w = 6 ∨ w = 7 ∨ w = 8 ∨ w = 9 ∨ w = 10 ∨ w = 11 by omega)
  · refine g_tableIn (off := 59) (tgt := 60) G dX7_tellCount_1 (by decide) (by decide) (by decide) (by decide) ?_
    first | refine g_aload_n G dX7_tellCount_60 rfl ?_ | refine g_aload_nN G dX7_tellCount_60 rfl ?_ | refine g_aload_nQ G dX7_tellCount_60 rfl ?_
    refine g_getI G fl_X7_52 (by assumption) (by first | decide | omega) rfl (by first | assumption | rfl) dX7_tellCount_61 ?_
    exact g_iret G F (gRi rfl) (by omega) (by omega) dX7_tellCount_64
  · refine g_tableIn (off := 64) (tgt := 65) G dX7_tellCount_1 (by decide) (by decide) (by decide) (by decide) ?_
    first | refine g_aload_n G dX7_tellCount_65 rfl ?_ | refine g_aload_nN G dX7_tellCount_65 rfl ?_ | refine g_aload_nQ G dX7_tellCount_65 rfl ?_
    first | refine g_getR G fl_X7_12 (by assumption) (by first | decide | omega) rfl (by assumption) dX7_tellCount_66 ?_ | refine g_getZ G fl_X7_12 (by assumption) (by first | decide | omega) rfl (by assumption) dX7_tellCount_66 ?_ | refine g_getQ G fl_X7_12 (by assumption) (by first | decide | omega) rfl (by first | assumption | rfl) dX7_tellCount_66 ?_
    refine g_callVp (ci := 0) G (c_Jx4a65c_size_8abf5 _ S (ad 5 0) 1 (mN M 6) (ad 0) l0) mt_Jx4a65c_size_8abf5 mi_Jx4a65c_size_8abf5 ml_X7_80 (l0.1) (by first | decide | omega) rfl (by decide) (by omega) (by omega) rfl (Nat.le_of_ble_eq_true rfl) dX7_tellCount_69 ?_
    exact g_iret G F (gRi rfl) (by omega) (by omega) dX7_tellCount_72
  · refine g_tableIn (off := 72) (tgt := 73) G dX7_tellCount_1 (by decide) (by decide) (by decide) (by decide) ?_
    first | refine g_aload_n G dX7_tellCount_73 rfl ?_ | refine g_aload_nN G dX7_tellCount_73 rfl ?_ | refine g_aload_nQ G dX7_tellCount_73 rfl ?_
    first | refine g_getR G fl_X7_16 (by assumption) (by first | decide | omega) rfl (by assumption) dX7_tellCount_74 ?_ | refine g_getZ G fl_X7_16 (by assumption) (by first | decide | omega) rfl (by assumption) dX7_tellCount_74 ?_ | refine g_getQ G fl_X7_16 (by assumption) (by first | decide | omega) rfl (by first | assumption | rfl) dX7_tellCount_74 ?_
    refine g_callVp (ci := 0) G (c_Jx4a65c_size_8abf5 _ S (ad 5 1) 2 (mN M 8) (ad 1) l1) mt_Jx4a65c_size_8abf5 mi_Jx4a65c_size_8abf5 ml_X7_80 (l1.1) (by first | decide | omega) rfl (by decide) (by omega) (by omega) rfl (Nat.le_of_ble_eq_true rfl) dX7_tellCount_77 ?_
    exact g_iret G F (gRi rfl) (by omega) (by omega) dX7_tellCount_80
  · refine g_tableIn (off := 80) (tgt := 81) G dX7_tellCount_1 (by decide) (by decide) (by decide) (by decide) ?_
    first | refine g_aload_n G dX7_tellCount_81 rfl ?_ | refine g_aload_nN G dX7_tellCount_81 rfl ?_ | refine g_aload_nQ G dX7_tellCount_81 rfl ?_
    first | refine g_getR G fl_X7_19 (by assumption) (by first | decide | omega) rfl (by assumption) dX7_tellCount_82 ?_ | refine g_getZ G fl_X7_19 (by assumption) (by first | decide | omega) rfl (by assumption) dX7_tellCount_82 ?_ | refine g_getQ G fl_X7_19 (by assumption) (by first | decide | omega) rfl (by first | assumption | rfl) dX7_tellCount_82 ?_
    refine g_callVp (ci := 0) G (c_Jx4a65c_size_8abf5 _ S (ad 5 2) 3 (mN M 11) (ad 2) l2) mt_Jx4a65c_size_8abf5 mi_Jx4a65c_size_8abf5 ml_X7_80 (l2.1) (by first | decide | omega) rfl (by decide) (by omega) (by omega) rfl (Nat.le_of_ble_eq_true rfl) dX7_tellCount_85 ?_
    exact g_iret G F (gRi rfl) (by omega) (by omega) dX7_tellCount_88
  · refine g_tableIn (off := 88) (tgt := 89) G dX7_tellCount_1 (by decide) (by decide) (by decide) (by decide) ?_
    first | refine g_aload_n G dX7_tellCount_89 rfl ?_ | refine g_aload_nN G dX7_tellCount_89 rfl ?_ | refine g_aload_nQ G dX7_tellCount_89 rfl ?_
    first | refine g_getR G fl_X7_22 (by assumption) (by first | decide | omega) rfl (by assumption) dX7_tellCount_90 ?_ | refine g_getZ G fl_X7_22 (by assumption) (by first | decide | omega) rfl (by assumption) dX7_tellCount_90 ?_ | refine g_getQ G fl_X7_22 (by assumption) (by first | decide | omega) rfl (by first | assumption | rfl) dX7_tellCount_90 ?_
    refine g_callVp (ci := 0) G (c_Jx4a65c_size_8abf5 _ S (ad 5 3) 4 (mN M 17) (ad 3) l3) mt_Jx4a65c_size_8abf5 mi_Jx4a65c_size_8abf5 ml_X7_80 (l3.1) (by first | decide | omega) rfl (by decide) (by omega) (by omega) rfl (Nat.le_of_ble_eq_true rfl) dX7_tellCount_93 ?_
    exact g_iret G F (gRi rfl) (by omega) (by omega) dX7_tellCount_96
  · refine g_tableIn (off := 96) (tgt := 97) G dX7_tellCount_1 (by decide) (by decide) (by decide) (by decide) ?_
    first | refine g_aload_n G dX7_tellCount_97 rfl ?_ | refine g_aload_nN G dX7_tellCount_97 rfl ?_ | refine g_aload_nQ G dX7_tellCount_97 rfl ?_
    first | refine g_getR G fl_X7_25 (by assumption) (by first | decide | omega) rfl (by assumption) dX7_tellCount_98 ?_ | refine g_getZ G fl_X7_25 (by assumption) (by first | decide | omega) rfl (by assumption) dX7_tellCount_98 ?_ | refine g_getQ G fl_X7_25 (by assumption) (by first | decide | omega) rfl (by first | assumption | rfl) dX7_tellCount_98 ?_
    refine g_callVp (ci := 0) G (c_Jx4a65c_size_8abf5 _ S (ad 5 4) 5 (mN M 23) (ad 4) l4) mt_Jx4a65c_size_8abf5 mi_Jx4a65c_size_8abf5 ml_X7_80 (l4.1) (by first | decide | omega) rfl (by decide) (by omega) (by omega) rfl (Nat.le_of_ble_eq_true rfl) dX7_tellCount_101 ?_
    exact g_iret G F (gRi rfl) (by omega) (by omega) dX7_tellCount_104
  · refine g_tableIn (off := 104) (tgt := 105) G dX7_tellCount_1 (by decide) (by decide) (by decide) (by decide) ?_
    first | refine g_aload_n G dX7_tellCount_105 rfl ?_ | refine g_aload_nN G dX7_tellCount_105 rfl ?_ | refine g_aload_nQ G dX7_tellCount_105 rfl ?_
    refine g_iconst (v := nI 0) G dX7_tellCount_106 (by decide) ?_
    refine g_callVp (ci := 8) G (c_X7_countLetters _ S x ad M h (nI 0)) mt_X7_countLetters mi_X7_countLetters ml_X7_429 (by assumption) (by first | decide | omega) rfl (by decide) (by omega) (by omega) rfl (Nat.le_of_ble_eq_true rfl) dX7_tellCount_107 ?_
    exact g_iret G F (gRi rfl) (by omega) (by omega) dX7_tellCount_110
  · refine g_tableIn (off := 110) (tgt := 111) G dX7_tellCount_1 (by decide) (by decide) (by decide) (by decide) ?_
    first | refine g_aload_n G dX7_tellCount_111 rfl ?_ | refine g_aload_nN G dX7_tellCount_111 rfl ?_ | refine g_aload_nQ G dX7_tellCount_111 rfl ?_
    refine g_iconst (v := nI 1) G dX7_tellCount_112 (by decide) ?_
    refine g_callVp (ci := 8) G (c_X7_countLetters _ S x ad M h (nI 1)) mt_X7_countLetters mi_X7_countLetters ml_X7_429 (by assumption) (by first | decide | omega) rfl (by decide) (by omega) (by omega) rfl (Nat.le_of_ble_eq_true rfl) dX7_tellCount_113 ?_
    exact g_iret G F (gRi rfl) (by omega) (by omega) dX7_tellCount_116
  · refine g_tableIn (off := 116) (tgt := 117) G dX7_tellCount_1 (by decide) (by decide) (by decide) (by decide) ?_
    first | refine g_aload_n G dX7_tellCount_117 rfl ?_ | refine g_aload_nN G dX7_tellCount_117 rfl ?_ | refine g_aload_nQ G dX7_tellCount_117 rfl ?_
    refine g_getI G fl_X7_32 (by assumption) (by first | decide | omega) rfl (by first | assumption | rfl) dX7_tellCount_118 ?_
    exact g_iret G F (gRi rfl) (by omega) (by omega) dX7_tellCount_121
  · refine g_tableIn (off := 121) (tgt := 122) G dX7_tellCount_1 (by decide) (by decide) (by decide) (by decide) ?_
    first | refine g_aload_n G dX7_tellCount_122 rfl ?_ | refine g_aload_nN G dX7_tellCount_122 rfl ?_ | refine g_aload_nQ G dX7_tellCount_122 rfl ?_
    refine g_getI G fl_X7_39 (by assumption) (by first | decide | omega) rfl (by first | assumption | rfl) dX7_tellCount_123 ?_
    exact g_iret G F (gRi rfl) (by omega) (by omega) dX7_tellCount_126
  · refine g_tableIn (off := 126) (tgt := 127) G dX7_tellCount_1 (by decide) (by decide) (by decide) (by decide) ?_
    first | refine g_aload_n G dX7_tellCount_127 rfl ?_ | refine g_aload_nN G dX7_tellCount_127 rfl ?_ | refine g_aload_nQ G dX7_tellCount_127 rfl ?_
    refine g_callVp (ci := 8) G (c_X7_countLost _ S x ad M h) mt_X7_countLost mi_X7_countLost ml_X7_432 (by assumption) (by first | decide | omega) rfl (by decide) (by omega) (by omega) rfl (Nat.le_of_ble_eq_true rfl) dX7_tellCount_128 ?_
    exact g_iret G F (gRi rfl) (by omega) (by omega) dX7_tellCount_131
  · refine g_tableOut (tgt := 132) G dX7_tellCount_1 (by decide) (by decide) ?_
    first | refine g_aload_n G dX7_tellCount_132 rfl ?_ | refine g_aload_nN G dX7_tellCount_132 rfl ?_ | refine g_aload_nQ G dX7_tellCount_132 rfl ?_
    refine g_callVp (ci := 8) G (c_X7_countLent _ S x ad M h) mt_X7_countLent mi_X7_countLent ml_X7_435 (by assumption) (by first | decide | omega) rfl (by decide) (by omega) (by omega) rfl (Nat.le_of_ble_eq_true rfl) dX7_tellCount_133 ?_
    exact g_iret G F (gRi rfl) (by omega) (by omega) dX7_tellCount_136
