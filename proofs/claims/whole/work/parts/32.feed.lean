/-! ===== feed, read, veil, lend, back, least ===== -/
theorem gMail_put {d0 : Nat × Nat} {S : gS} {x : Nat} {ad : Nat → Nat → Nat} {M : gM} {b : Int32} (h : gMail d0 S x ad M) (hn : mN M 2 < 1000) : gMail d0 (sX (sX S 49 (ad 6 0) (mN M 2) b) 9 6 x (nI (mN M 2 + 1))) x ad (mPut M b) ∧ gFr gMk S (sX (sX S 49 (ad 6 0) (mN M 2) b) 9 6 x (nI (mN M 2 + 1))) := by
  have F : gFr (fun k => k ≠ 9 ∧ k ≠ 49 ∧ k ≠ 81) S (sX (sX S 49 (ad 6 0) (mN M 2) b) 9 6 x (nI (mN M 2 + 1))) := ((gFr_X S 49 _ _ _).mono (fun _ z => z.2.1)).X1 _ _ _ (fun _ z => z.1)
  refine ⟨?_, F.mono (fun k (z : gMk k) => by unfold gMk at z; first | omega | (dsimp only; omega))⟩
  obtain ⟨⟨r1, ⟨ra, rb, rc, rd, re⟩, rt, rtl, rp, rpl, rdr, rep, rday⟩, hl, ⟨y1, y2, y3, y4, y5, y6, y7, y8⟩, hcs, hps, hds, hes, hls⟩ := id h
  obtain ⟨l0, l1, l2, l3, l4⟩ := hl
  have hN := l1.2.2.1
  have mh : ∀ j, j ≠ 2 → mN (mPut M b) j = mN M j := fun j hj => uN_o hj
  refine ⟨⟨r1, ⟨ra, rb, rc, rd, re⟩, rt, sX_s, rp, sX_p (by decide) (sX_k (by decide) rpl), gDrf_mono rdr F rfl (by decide) (by decide), sX_p (by decide) (sX_k (by decide) rep), sX_p (by decide) (sX_k (by decide) rday)⟩, ⟨gLst_mono l0 F (by first | omega | (dsimp only; omega)) (by first | omega | (dsimp only; omega)) (fun _ _ => rfl), gLst_mono l1 F (by first | omega | (dsimp only; omega)) (by first | omega | (dsimp only; omega)) (fun _ _ => rfl), gLst_mono l2 F (by first | omega | (dsimp only; omega)) (by first | omega | (dsimp only; omega)) (fun _ _ => rfl), gLst_mono l3 F (by first | omega | (dsimp only; omega)) (by first | omega | (dsimp only; omega)) (fun _ _ => rfl), gLst_mono l4 F (by first | omega | (dsimp only; omega)) (by first | omega | (dsimp only; omega)) (fun _ _ => rfl)⟩, ⟨y1, y2, by show mN M 2 + 1 ≤ 1000; omega, fun i hi => ?_, y5, y6, y7, fun i hi => sX_k (by decide) (sX_k (by decide) (y8 i hi))⟩, fun i hi => gCase_mono (hcs i hi) F (by first | omega | (dsimp only; omega)), fun i hi => gPers_mono (hps i hi) F (by first | omega | (dsimp only; omega)), fun d hd => ?_, fun e he => ?_, fun k hk => gLtr_mono (hls k hk) F (by first | omega | (dsimp only; omega)) rfl (fun _ _ => rfl) (fun _ _ => rfl) (Nat.le_refl _) (Nat.le_refl _) rfl rfl rfl rfl rfl⟩
  · have hi : i < mN M 2 + 1 := hi
    refine sX_k (by decide) ?_
    by_cases e : i = mN M 2
    · rw [e]
      exact (u3_same _ _ _ _ _).trans uA_s.symm
    · exact (u3_q _ _ e).trans ((y4 i (by omega)).trans (uA_i (M := M) (f := 1) (v := b) e).symm)
  · exact gDoc_mono (hds d hd) F (by first | omega | (dsimp only; omega)) (by first | omega | (dsimp only; omega)) (by first | omega | (dsimp only; omega)) (by first | omega | (dsimp only; omega)) hN rfl rfl rfl rfl (fun _ _ => rfl) (fun _ _ => rfl) (Nat.le_refl _) (Nat.le_refl _) rfl rfl rfl rfl rfl (mh _ (by omega)) rfl rfl rfl
  · exact gExh_mono (hes e he) F (by first | omega | (dsimp only; omega)) (by first | omega | (dsimp only; omega)) (by first | omega | (dsimp only; omega)) (fun k hk => by first | omega | (dsimp only; omega)) hN rfl rfl (fun _ => rfl) (fun _ _ => rfl) (fun _ _ => rfl) (Nat.le_refl _) (Nat.le_refl _) rfl rfl rfl (mh _ (by omega)) (fun _ _ => rfl)

set_option maxHeartbeats 4000000 in
set_option maxRecDepth 100000 in
theorem c_X7_append (d0 : Nat × Nat) (S : gS) (x : Nat) (ad : Nat → Nat → Nat) (M : gM) (h : gMail d0 S x ad M) (hn : mN M 2 + 4 ≤ 1000) (v : Int32) : gCt d0 yX7_append cX7_append 3 none 1 0 0 [.ref x, .int v] S (fun v' S' => v' = none ∧ ∃ ad', gMail d0 S' x ad' (mApp M v) ∧ gFr gMk S S') gNo := by
  refine gCt_of (lo := [some (.ref x), some (.int v), none]) (by decide +kernel) (Nat.le_of_ble_eq_true rfl) (rfl) ?_
  intro Γ hd G F hini
  subst hd
  have h0 := h
  have F0 := gFr.rf (K := gMk) S
  refine g_bipush (v := nI 24) G dX7_append_0 (by decide) ?_
  refine g_istore_n G dX7_append_2 (gSt_2 (by first | rfl | exact g_c1_rf)) ?_
  obtain ⟨⟨r1, ⟨ra, rb, rc, rd, re⟩, rt, rtl, rp, rpl, rdr, rep, rday⟩, -, ⟨y1, y2, y3, y4, -⟩, -⟩ := id h0
  have e0 : mN M 2 = mN M 2 + 0 := rfl
  have n0 : mN M 2 < 1000 := by omega
  refine g_iload_n G dX7_append_3 rfl ?_
  refine g_if_lt (tgt := 58) G dX7_append_4 (by decide) (fun c_4 => (absurd c_4 (by decide))) (fun c_4 => ?_)
  first | refine g_aload_n G dX7_append_7 rfl ?_ | refine g_aload_nN G dX7_append_7 rfl ?_ | refine g_aload_nQ G dX7_append_7 rfl ?_
  refine g_getI G fl_X7_32 (by assumption) (by first | decide | omega) rfl (by first | assumption | rfl) dX7_append_8 ?_
  refine g_if_lt (tgt := 52) G dX7_append_11 (by decide) (fun c_11 => (absurd c_11 (nI_pos (by omega)))) (fun c_11 => ?_)
  first | refine g_aload_n G dX7_append_14 rfl ?_ | refine g_aload_nN G dX7_append_14 rfl ?_ | refine g_aload_nQ G dX7_append_14 rfl ?_
  refine g_getI G fl_X7_32 (by assumption) (by first | decide | omega) rfl (by first | assumption | rfl) dX7_append_15 ?_
  first | refine g_aload_n G dX7_append_18 rfl ?_ | refine g_aload_nN G dX7_append_18 rfl ?_ | refine g_aload_nQ G dX7_append_18 rfl ?_
  first | refine g_getR G fl_X7_28 (by assumption) (by first | decide | omega) rfl (by assumption) dX7_append_19 ?_ | refine g_getZ G fl_X7_28 (by assumption) (by first | decide | omega) rfl (by assumption) dX7_append_19 ?_ | refine g_getQ G fl_X7_28 (by assumption) (by first | decide | omega) rfl (by first | assumption | rfl) dX7_append_19 ?_
  refine g_alen G (y1) (by first | decide | omega) (by first | assumption | rfl) dX7_append_22 ?_
  refine g_icmp_ge (tgt := 52) G dX7_append_23 (by decide) (fun c_23 => (absurd c_23 (nI_ge (b := 1000) n0 (by omega)))) (fun c_23 => ?_)
  first | refine g_aload_n G dX7_append_26 rfl ?_ | refine g_aload_nN G dX7_append_26 rfl ?_ | refine g_aload_nQ G dX7_append_26 rfl ?_
  first | refine g_getR G fl_X7_28 (by assumption) (by first | decide | omega) rfl (by assumption) dX7_append_27 ?_ | refine g_getZ G fl_X7_28 (by assumption) (by first | decide | omega) rfl (by assumption) dX7_append_27 ?_ | refine g_getQ G fl_X7_28 (by assumption) (by first | decide | omega) rfl (by first | assumption | rfl) dX7_append_27 ?_
  first | refine g_aload_n G dX7_append_30 rfl ?_ | refine g_aload_nN G dX7_append_30 rfl ?_ | refine g_aload_nQ G dX7_append_30 rfl ?_
  refine g_getI G fl_X7_32 (by assumption) (by first | decide | omega) rfl (by first | assumption | rfl) dX7_append_31 ?_
  refine g_iload_n G dX7_append_34 rfl ?_
  refine g_iload_n G dX7_append_35 rfl ?_
  refine g_iushr G dX7_append_36 (rfl) ?_
  refine g_sipush (v := nI 255) G dX7_append_37 (by decide) ?_
  refine g_iand G dX7_append_40 (rfl) ?_
  refine g_iast G (y1) (by first | decide | omega) (Nat.lt_of_lt_of_eq n0 y2.symm) (by omega) (rfl) dX7_append_41 ?_
  first | refine g_aload_n G dX7_append_42 rfl ?_ | refine g_aload_nN G dX7_append_42 rfl ?_ | refine g_aload_nQ G dX7_append_42 rfl ?_
  refine g_dup G dX7_append_43 rfl ?_
  refine g_getI G fl_X7_32 (by assumption) (by first | decide | omega) rfl (sX_k (by decide) rtl) dX7_append_44 ?_
  refine g_iconst (v := nI 1) G dX7_append_47 (by decide) ?_
  refine g_iadd G dX7_append_48 (nI_1 _) ?_
  refine g_putI G fl_X7_32 pu_8_6 (by assumption) (by first | decide | omega) rfl dX7_append_49 ?_
  obtain ⟨h1, Fx⟩ := gMail_put (b := gByte v 24) h0 n0
  have F1 := F0.tr (K := gMk) Fx (fun _ z => ⟨z, z⟩)
  refine g_iinc (v := nI 16) G dX7_append_52 rfl (by decide) (gSt_2 (by first | rfl | exact g_c1_rf)) ?_
  refine g_goto (tgt := 3) G dX7_append_55 (by decide) ?_
  obtain ⟨⟨r1, ⟨ra, rb, rc, rd, re⟩, rt, rtl, rp, rpl, rdr, rep, rday⟩, -, ⟨y1, y2, y3, y4, -⟩, -⟩ := id h1
  have e1 : mN (mPut M (gByte v 24)) 2 = mN M 2 + 1 := rfl
  have n1 : mN (mPut M (gByte v 24)) 2 < 1000 := by omega
  refine g_iload_n G dX7_append_3 rfl ?_
  refine g_if_lt (tgt := 58) G dX7_append_4 (by decide) (fun c_4 => (absurd c_4 (by decide))) (fun c_4 => ?_)
  first | refine g_aload_n G dX7_append_7 rfl ?_ | refine g_aload_nN G dX7_append_7 rfl ?_ | refine g_aload_nQ G dX7_append_7 rfl ?_
  refine g_getI G fl_X7_32 (by assumption) (by first | decide | omega) rfl (by first | assumption | rfl) dX7_append_8 ?_
  refine g_if_lt (tgt := 52) G dX7_append_11 (by decide) (fun c_11 => (absurd c_11 (nI_pos (by omega)))) (fun c_11 => ?_)
  first | refine g_aload_n G dX7_append_14 rfl ?_ | refine g_aload_nN G dX7_append_14 rfl ?_ | refine g_aload_nQ G dX7_append_14 rfl ?_
  refine g_getI G fl_X7_32 (by assumption) (by first | decide | omega) rfl (by first | assumption | rfl) dX7_append_15 ?_
  first | refine g_aload_n G dX7_append_18 rfl ?_ | refine g_aload_nN G dX7_append_18 rfl ?_ | refine g_aload_nQ G dX7_append_18 rfl ?_
  first | refine g_getR G fl_X7_28 (by assumption) (by first | decide | omega) rfl (by assumption) dX7_append_19 ?_ | refine g_getZ G fl_X7_28 (by assumption) (by first | decide | omega) rfl (by assumption) dX7_append_19 ?_ | refine g_getQ G fl_X7_28 (by assumption) (by first | decide | omega) rfl (by first | assumption | rfl) dX7_append_19 ?_
  refine g_alen G (y1) (by first | decide | omega) (by first | assumption | rfl) dX7_append_22 ?_
  refine g_icmp_ge (tgt := 52) G dX7_append_23 (by decide) (fun c_23 => (absurd c_23 (nI_ge (b := 1000) n1 (by omega)))) (fun c_23 => ?_)
  first | refine g_aload_n G dX7_append_26 rfl ?_ | refine g_aload_nN G dX7_append_26 rfl ?_ | refine g_aload_nQ G dX7_append_26 rfl ?_
  first | refine g_getR G fl_X7_28 (by assumption) (by first | decide | omega) rfl (by assumption) dX7_append_27 ?_ | refine g_getZ G fl_X7_28 (by assumption) (by first | decide | omega) rfl (by assumption) dX7_append_27 ?_ | refine g_getQ G fl_X7_28 (by assumption) (by first | decide | omega) rfl (by first | assumption | rfl) dX7_append_27 ?_
  first | refine g_aload_n G dX7_append_30 rfl ?_ | refine g_aload_nN G dX7_append_30 rfl ?_ | refine g_aload_nQ G dX7_append_30 rfl ?_
  refine g_getI G fl_X7_32 (by assumption) (by first | decide | omega) rfl (by first | assumption | rfl) dX7_append_31 ?_
  refine g_iload_n G dX7_append_34 rfl ?_
  refine g_iload_n G dX7_append_35 rfl ?_
  refine g_iushr G dX7_append_36 (rfl) ?_
  refine g_sipush (v := nI 255) G dX7_append_37 (by decide) ?_
  refine g_iand G dX7_append_40 (rfl) ?_
  refine g_iast G (y1) (by first | decide | omega) (Nat.lt_of_lt_of_eq n1 y2.symm) (by omega) (rfl) dX7_append_41 ?_
  first | refine g_aload_n G dX7_append_42 rfl ?_ | refine g_aload_nN G dX7_append_42 rfl ?_ | refine g_aload_nQ G dX7_append_42 rfl ?_
  refine g_dup G dX7_append_43 rfl ?_
  refine g_getI G fl_X7_32 (by assumption) (by first | decide | omega) rfl (sX_k (by decide) rtl) dX7_append_44 ?_
  refine g_iconst (v := nI 1) G dX7_append_47 (by decide) ?_
  refine g_iadd G dX7_append_48 (nI_1 _) ?_
  refine g_putI G fl_X7_32 pu_8_6 (by assumption) (by first | decide | omega) rfl dX7_append_49 ?_
  obtain ⟨h2, Fx⟩ := gMail_put (b := gByte v 16) h1 n1
  have F2 := F1.tr (K := gMk) Fx (fun _ z => ⟨z, z⟩)
  refine g_iinc (v := nI 8) G dX7_append_52 rfl (by decide) (gSt_2 (by first | rfl | exact g_c1_rf)) ?_
  refine g_goto (tgt := 3) G dX7_append_55 (by decide) ?_
  obtain ⟨⟨r1, ⟨ra, rb, rc, rd, re⟩, rt, rtl, rp, rpl, rdr, rep, rday⟩, -, ⟨y1, y2, y3, y4, -⟩, -⟩ := id h2
  have e2 : mN (mPut (mPut M (gByte v 24)) (gByte v 16)) 2 = mN M 2 + 2 := rfl
  have n2 : mN (mPut (mPut M (gByte v 24)) (gByte v 16)) 2 < 1000 := by omega
  refine g_iload_n G dX7_append_3 rfl ?_
  refine g_if_lt (tgt := 58) G dX7_append_4 (by decide) (fun c_4 => (absurd c_4 (by decide))) (fun c_4 => ?_)
  first | refine g_aload_n G dX7_append_7 rfl ?_ | refine g_aload_nN G dX7_append_7 rfl ?_ | refine g_aload_nQ G dX7_append_7 rfl ?_
  refine g_getI G fl_X7_32 (by assumption) (by first | decide | omega) rfl (by first | assumption | rfl) dX7_append_8 ?_
  refine g_if_lt (tgt := 52) G dX7_append_11 (by decide) (fun c_11 => (absurd c_11 (nI_pos (by omega)))) (fun c_11 => ?_)
  first | refine g_aload_n G dX7_append_14 rfl ?_ | refine g_aload_nN G dX7_append_14 rfl ?_ | refine g_aload_nQ G dX7_append_14 rfl ?_
  refine g_getI G fl_X7_32 (by assumption) (by first | decide | omega) rfl (by first | assumption | rfl) dX7_append_15 ?_
  first | refine g_aload_n G dX7_append_18 rfl ?_ | refine g_aload_nN G dX7_append_18 rfl ?_ | refine g_aload_nQ G dX7_append_18 rfl ?_
  first | refine g_getR G fl_X7_28 (by assumption) (by first | decide | omega) rfl (by assumption) dX7_append_19 ?_ | refine g_getZ G fl_X7_28 (by assumption) (by first | decide | omega) rfl (by assumption) dX7_append_19 ?_ | refine g_getQ G fl_X7_28 (by assumption) (by first | decide | omega) rfl (by first | assumption | rfl) dX7_append_19 ?_
  refine g_alen G (y1) (by first | decide | omega) (by first | assumption | rfl) dX7_append_22 ?_
  refine g_icmp_ge (tgt := 52) G dX7_append_23 (by decide) (fun c_23 => (absurd c_23 (nI_ge (b := 1000) n2 (by omega)))) (fun c_23 => ?_)
  first | refine g_aload_n G dX7_append_26 rfl ?_ | refine g_aload_nN G dX7_append_26 rfl ?_ | refine g_aload_nQ G dX7_append_26 rfl ?_
  first | refine g_getR G fl_X7_28 (by assumption) (by first | decide | omega) rfl (by assumption) dX7_append_27 ?_ | refine g_getZ G fl_X7_28 (by assumption) (by first | decide | omega) rfl (by assumption) dX7_append_27 ?_ | refine g_getQ G fl_X7_28 (by assumption) (by first | decide | omega) rfl (by first | assumption | rfl) dX7_append_27 ?_
  first | refine g_aload_n G dX7_append_30 rfl ?_ | refine g_aload_nN G dX7_append_30 rfl ?_ | refine g_aload_nQ G dX7_append_30 rfl ?_
  refine g_getI G fl_X7_32 (by assumption) (by first | decide | omega) rfl (by first | assumption | rfl) dX7_append_31 ?_
  refine g_iload_n G dX7_append_34 rfl ?_
  refine g_iload_n G dX7_append_35 rfl ?_
  refine g_iushr G dX7_append_36 (rfl) ?_
  refine g_sipush (v := nI 255) G dX7_append_37 (by decide) ?_
  refine g_iand G dX7_append_40 (rfl) ?_
  refine g_iast G (y1) (by first | decide | omega) (Nat.lt_of_lt_of_eq n2 y2.symm) (by omega) (rfl) dX7_append_41 ?_
  first | refine g_aload_n G dX7_append_42 rfl ?_ | refine g_aload_nN G dX7_append_42 rfl ?_ | refine g_aload_nQ G dX7_append_42 rfl ?_
  refine g_dup G dX7_append_43 rfl ?_
  refine g_getI G fl_X7_32 (by assumption) (by first | decide | omega) rfl (sX_k (by decide) rtl) dX7_append_44 ?_
  refine g_iconst (v := nI 1) G dX7_append_47 (by decide) ?_
  refine g_iadd G dX7_append_48 (nI_1 _) ?_
  refine g_putI G fl_X7_32 pu_8_6 (by assumption) (by first | decide | omega) rfl dX7_append_49 ?_
  obtain ⟨h3, Fx⟩ := gMail_put (b := gByte v 8) h2 n2
  have F3 := F2.tr (K := gMk) Fx (fun _ z => ⟨z, z⟩)
  refine g_iinc (v := nI 0) G dX7_append_52 rfl (by decide) (gSt_2 (by first | rfl | exact g_c1_rf)) ?_
  refine g_goto (tgt := 3) G dX7_append_55 (by decide) ?_
  obtain ⟨⟨r1, ⟨ra, rb, rc, rd, re⟩, rt, rtl, rp, rpl, rdr, rep, rday⟩, -, ⟨y1, y2, y3, y4, -⟩, -⟩ := id h3
  have e3 : mN (mPut (mPut (mPut M (gByte v 24)) (gByte v 16)) (gByte v 8)) 2 = mN M 2 + 3 := rfl
  have n3 : mN (mPut (mPut (mPut M (gByte v 24)) (gByte v 16)) (gByte v 8)) 2 < 1000 := by omega
  refine g_iload_n G dX7_append_3 rfl ?_
  refine g_if_lt (tgt := 58) G dX7_append_4 (by decide) (fun c_4 => (absurd c_4 (by decide))) (fun c_4 => ?_)
  first | refine g_aload_n G dX7_append_7 rfl ?_ | refine g_aload_nN G dX7_append_7 rfl ?_ | refine g_aload_nQ G dX7_append_7 rfl ?_
  refine g_getI G fl_X7_32 (by assumption) (by first | decide | omega) rfl (by first | assumption | rfl) dX7_append_8 ?_
  refine g_if_lt (tgt := 52) G dX7_append_11 (by decide) (fun c_11 => (absurd c_11 (nI_pos (by omega)))) (fun c_11 => ?_)
  first | refine g_aload_n G dX7_append_14 rfl ?_ | refine g_aload_nN G dX7_append_14 rfl ?_ | refine g_aload_nQ G dX7_append_14 rfl ?_
  refine g_getI G fl_X7_32 (by assumption) (by first | decide | omega) rfl (by first | assumption | rfl) dX7_append_15 ?_
  first | refine g_aload_n G dX7_append_18 rfl ?_ | refine g_aload_nN G dX7_append_18 rfl ?_ | refine g_aload_nQ G dX7_append_18 rfl ?_
  first | refine g_getR G fl_X7_28 (by assumption) (by first | decide | omega) rfl (by assumption) dX7_append_19 ?_ | refine g_getZ G fl_X7_28 (by assumption) (by first | decide | omega) rfl (by assumption) dX7_append_19 ?_ | refine g_getQ G fl_X7_28 (by assumption) (by first | decide | omega) rfl (by first | assumption | rfl) dX7_append_19 ?_
  refine g_alen G (y1) (by first | decide | omega) (by first | assumption | rfl) dX7_append_22 ?_
  refine g_icmp_ge (tgt := 52) G dX7_append_23 (by decide) (fun c_23 => (absurd c_23 (nI_ge (b := 1000) n3 (by omega)))) (fun c_23 => ?_)
  first | refine g_aload_n G dX7_append_26 rfl ?_ | refine g_aload_nN G dX7_append_26 rfl ?_ | refine g_aload_nQ G dX7_append_26 rfl ?_
  first | refine g_getR G fl_X7_28 (by assumption) (by first | decide | omega) rfl (by assumption) dX7_append_27 ?_ | refine g_getZ G fl_X7_28 (by assumption) (by first | decide | omega) rfl (by assumption) dX7_append_27 ?_ | refine g_getQ G fl_X7_28 (by assumption) (by first | decide | omega) rfl (by first | assumption | rfl) dX7_append_27 ?_
  first | refine g_aload_n G dX7_append_30 rfl ?_ | refine g_aload_nN G dX7_append_30 rfl ?_ | refine g_aload_nQ G dX7_append_30 rfl ?_
  refine g_getI G fl_X7_32 (by assumption) (by first | decide | omega) rfl (by first | assumption | rfl) dX7_append_31 ?_
  refine g_iload_n G dX7_append_34 rfl ?_
  refine g_iload_n G dX7_append_35 rfl ?_
  refine g_iushr G dX7_append_36 (rfl) ?_
  refine g_sipush (v := nI 255) G dX7_append_37 (by decide) ?_
  refine g_iand G dX7_append_40 (rfl) ?_
  refine g_iast G (y1) (by first | decide | omega) (Nat.lt_of_lt_of_eq n3 y2.symm) (by omega) (rfl) dX7_append_41 ?_
  first | refine g_aload_n G dX7_append_42 rfl ?_ | refine g_aload_nN G dX7_append_42 rfl ?_ | refine g_aload_nQ G dX7_append_42 rfl ?_
  refine g_dup G dX7_append_43 rfl ?_
  refine g_getI G fl_X7_32 (by assumption) (by first | decide | omega) rfl (sX_k (by decide) rtl) dX7_append_44 ?_
  refine g_iconst (v := nI 1) G dX7_append_47 (by decide) ?_
  refine g_iadd G dX7_append_48 (nI_1 _) ?_
  refine g_putI G fl_X7_32 pu_8_6 (by assumption) (by first | decide | omega) rfl dX7_append_49 ?_
  obtain ⟨h4, Fx⟩ := gMail_put (b := gByte v 0) h3 n3
  have F4 := F3.tr (K := gMk) Fx (fun _ z => ⟨z, z⟩)
  refine g_iinc (v := -8) G dX7_append_52 rfl (by decide) (gSt_2 (by first | rfl | exact g_c1_rf)) ?_
  refine g_goto (tgt := 3) G dX7_append_55 (by decide) ?_
  refine g_iload_n G dX7_append_3 rfl ?_
  refine g_if_lt (tgt := 58) G dX7_append_4 (by decide) (fun c_4 => ?_) (fun c_4 => (absurd (by decide) c_4))
  exact g_vret G F (⟨rfl, ad, h4, F4⟩) (by omega) (by omega) dX7_append_58

set_option maxHeartbeats 4000000 in
set_option maxRecDepth 100000 in
theorem c_X7_feed (d0 : Nat × Nat) (S : gS) (x : Nat) (ad : Nat → Nat → Nat) (M : gM) (h : gMail d0 S x ad M) (a b c d e : Int32) : gCt d0 yX7_feed cX7_feed 6 (some .int) 10 1 6 [.ref x, .int a, .int b, .int c, .int d, .int e] S (fun v' S' => mN M 2 + 20 ≤ 1000 ∧ v' = some (.int (nI (mN M 2 + 20))) ∧ gTo d0 x S S' (mFeed M a b c d e)) (fun E S' => S' = S ∧ ((E = "java/lang/IllegalStateException" ∧ ¬ mN M 2 + 20 ≤ 1000))) := by
  refine gCt_of (lo := [some (.ref x), some (.int a), some (.int b), some (.int c), some (.int d), some (.int e)]) (by decide +kernel) (Nat.le_of_ble_eq_true rfl) (rfl) ?_
  intro Γ hd G F hini
  obtain ⟨⟨r1, ⟨ra, rb, rc, rd, re⟩, rt, rtl, rp, rpl, rdr, rep, rday⟩, ⟨l0, l1, l2, l3, l4⟩, ht, hcs, hps, hds, hes, hls⟩ := id h
  subst hd
  have ht3 := ht.2.2.1
  have k0 := r1
  first | refine g_aload_n G dX7_feed_0 rfl ?_ | refine g_aload_nN G dX7_feed_0 rfl ?_ | refine g_aload_nQ G dX7_feed_0 rfl ?_
  refine g_getI G fl_X7_32 (by assumption) (by first | decide | omega) rfl (by first | assumption | rfl) dX7_feed_1 ?_
  refine g_bipush (v := nI 20) G dX7_feed_4 (by decide) ?_
  refine g_iadd G dX7_feed_6 (nI_add (mN M 2) 20) ?_
  refine g_sipush (v := nI 1000) G dX7_feed_7 (by decide) ?_
  refine g_icmp_le (tgt := 23) G dX7_feed_10 (by decide) (fun c_10 => ?_) (fun c_10 => ?_)
  · have hn : mN M 2 + 20 ≤ 1000 := (nI_leI (b := 1000) (by omega) (by omega)).mp c_10
    first | refine g_aload_n G dX7_feed_23 rfl ?_ | refine g_aload_nN G dX7_feed_23 rfl ?_ | refine g_aload_nQ G dX7_feed_23 rfl ?_
    refine g_iload_n G dX7_feed_24 rfl ?_
    refine g_callV (ci := 8) G (c_X7_append _ S x ad M h (by omega) a) mt_X7_append mi_X7_append ml_X7_62 (k0) (by first | decide | omega) rfl (by decide) (by omega) (by omega) rfl (Nat.le_of_ble_eq_true rfl) dX7_feed_25 (fun v_25 S_25 hp_25 => ?_)
    obtain ⟨rfl, ad1, h1, Fy1⟩ := hp_25
    simp only [Option.toList, List.nil_append]
    have k1 := h1.1.1
    have G1 := Fy1
    first | refine g_aload_n G dX7_feed_28 rfl ?_ | refine g_aload_nN G dX7_feed_28 rfl ?_ | refine g_aload_nQ G dX7_feed_28 rfl ?_
    refine g_iload_n G dX7_feed_29 rfl ?_
    refine g_callV (ci := 8) G (c_X7_append _ S_25 x ad1 (mApp M a) h1 (by show mN M 2 + 4 + 4 ≤ 1000; omega) b) mt_X7_append mi_X7_append ml_X7_62 (k1) (by first | decide | omega) rfl (by decide) (by omega) (by omega) rfl (Nat.le_of_ble_eq_true rfl) dX7_feed_30 (fun v_30 S_30 hp_30 => ?_)
    obtain ⟨rfl, ad2, h2, Fy2⟩ := hp_30
    simp only [Option.toList, List.nil_append]
    have k2 := h2.1.1
    have G2 := G1.tr (K := gMk) Fy2 (fun _ z => ⟨z, z⟩)
    first | refine g_aload_n G dX7_feed_33 rfl ?_ | refine g_aload_nN G dX7_feed_33 rfl ?_ | refine g_aload_nQ G dX7_feed_33 rfl ?_
    refine g_iload_n G dX7_feed_34 rfl ?_
    refine g_callV (ci := 8) G (c_X7_append _ S_30 x ad2 (mApp (mApp M a) b) h2 (by show mN M 2 + 8 + 4 ≤ 1000; omega) c) mt_X7_append mi_X7_append ml_X7_62 (k2) (by first | decide | omega) rfl (by decide) (by omega) (by omega) rfl (Nat.le_of_ble_eq_true rfl) dX7_feed_35 (fun v_35 S_35 hp_35 => ?_)
    obtain ⟨rfl, ad3, h3, Fy3⟩ := hp_35
    simp only [Option.toList, List.nil_append]
    have k3 := h3.1.1
    have G3 := G2.tr (K := gMk) Fy3 (fun _ z => ⟨z, z⟩)
    first | refine g_aload_n G dX7_feed_38 rfl ?_ | refine g_aload_nN G dX7_feed_38 rfl ?_ | refine g_aload_nQ G dX7_feed_38 rfl ?_
    refine g_iload G dX7_feed_39 rfl ?_
    refine g_callV (ci := 8) G (c_X7_append _ S_35 x ad3 (mApp (mApp (mApp M a) b) c) h3 (by show mN M 2 + 12 + 4 ≤ 1000; omega) d) mt_X7_append mi_X7_append ml_X7_62 (k3) (by first | decide | omega) rfl (by decide) (by omega) (by omega) rfl (Nat.le_of_ble_eq_true rfl) dX7_feed_41 (fun v_41 S_41 hp_41 => ?_)
    obtain ⟨rfl, ad4, h4, Fy4⟩ := hp_41
    simp only [Option.toList, List.nil_append]
    have k4 := h4.1.1
    have G4 := G3.tr (K := gMk) Fy4 (fun _ z => ⟨z, z⟩)
    first | refine g_aload_n G dX7_feed_44 rfl ?_ | refine g_aload_nN G dX7_feed_44 rfl ?_ | refine g_aload_nQ G dX7_feed_44 rfl ?_
    refine g_iload G dX7_feed_45 rfl ?_
    refine g_callV (ci := 8) G (c_X7_append _ S_41 x ad4 (mApp (mApp (mApp (mApp M a) b) c) d) h4 (by show mN M 2 + 16 + 4 ≤ 1000; omega) e) mt_X7_append mi_X7_append ml_X7_62 (k4) (by first | decide | omega) rfl (by decide) (by omega) (by omega) rfl (Nat.le_of_ble_eq_true rfl) dX7_feed_47 (fun v_47 S_47 hp_47 => ?_)
    obtain ⟨rfl, ad5, h5, Fy5⟩ := hp_47
    simp only [Option.toList, List.nil_append]
    have k5 := h5.1.1
    have G5 := G4.tr (K := gMk) Fy5 (fun _ z => ⟨z, z⟩)
    first | refine g_aload_n G dX7_feed_50 rfl ?_ | refine g_aload_nN G dX7_feed_50 rfl ?_ | refine g_aload_nQ G dX7_feed_50 rfl ?_
    refine g_getI G fl_X7_32 (k5) (by first | decide | omega) rfl (h5.1.2.2.2.1) dX7_feed_51 ?_
    exact g_iret G F (⟨hn, rfl, ad5, h5, G5⟩) (by omega) (by omega) dX7_feed_54
  · have hn : ¬ mN M 2 + 20 ≤ 1000 := fun z => c_10 ((nI_leI (b := 1000) (by omega) (by omega)).mpr z)
    exact g_throw (names := nm_ISE) G F tf_ISE cl_X7_55 ti_ISE st_X7_57 ta_ISE dX7_feed_13 (by exact dX7_feed_16) (by exact dX7_feed_17) (by exact dX7_feed_19) (by exact dX7_feed_22) (by decide) (Nat.le_of_ble_eq_true rfl) (by omega) (by omega) (⟨rfl, rfl, hn⟩)

theorem gMail_paper {d0 : Nat × Nat} {S S3 : gS} {x : Nat} {ad : Nat → Nat → Nat} {M : gM} {d : Nat} {r : Int32} (h : gMail d0 S x ad M) (hd : d < mN M 11) (F : gFr (fun k => k ≠ 9 ∧ k ≠ 49 ∧ k ≠ 81) S S3) (hr : gK S3 x = 9 ∧ (gX S3 9 6 x = nI (mN M 2) ∧ gX S3 9 10 x = mA M 3 0 ∧ gX S3 9 11 x = nI (mN M 40)) ∧ gX S3 9 8 x = nI (mN M (100 + d)) ∧ True) (hy : ∀ k, gY S3 9 k x = gY S 9 k x) (hx49 : gX S3 49 = gX S 49) (hp : ∀ k, k < mN M (100 + d) → gX S3 81 (ad 6 1) k = gSeenAt (mT M 13 d k) (mT M 14 d k) (mT M 15 d k) r) : gMail d0 S3 x ad (mPaper M d r) ∧ gFr (fun k => k ≠ 9 ∧ k ≠ 49 ∧ k ≠ 81) S S3 := by
  refine ⟨?_, F⟩
  obtain ⟨⟨r1, ⟨ra, rb, rc, rd, re⟩, rt, rtl, rp, rpl, rdr, rep, rday⟩, hl, ⟨y1, y2, y3, y4, y5, y6, y7, y8⟩, hcs, hps, hds, hes, hls⟩ := id h
  obtain ⟨l0, l1, l2, l3, l4⟩ := hl
  have hN := l1.2.2.1
  have hlen := (hds d hd).2.2.2.2.1
  have mh : ∀ j, j ≠ 5 → mN (mPaper M d r) j = mN M j := fun j hj => uN_o hj
  have m4 : ∀ f, f ≠ 4 → mA (mPaper M d r) f = mA M f := fun f hf => uR_f hf
  refine ⟨⟨hr.1, ⟨(hy 0).trans ra, (hy 1).trans rb, (hy 2).trans rc, (hy 3).trans rd, (hy 4).trans re⟩, (hy 5).trans rt, hr.2.1.1, (hy 7).trans rp, hr.2.2.1, gDrf_mono rdr F (hy 9) (by decide) (by decide), hr.2.1.2.1.trans (congrFun (m4 3 (by omega)) 0).symm, hr.2.1.2.2⟩, ⟨gLst_mono l0 F (by first | omega | (dsimp only; omega)) (by first | omega | (dsimp only; omega)) (fun _ _ => rfl), gLst_mono l1 F (by first | omega | (dsimp only; omega)) (by first | omega | (dsimp only; omega)) (fun _ _ => rfl), gLst_mono l2 F (by first | omega | (dsimp only; omega)) (by first | omega | (dsimp only; omega)) (fun _ _ => rfl), gLst_mono l3 F (by first | omega | (dsimp only; omega)) (by first | omega | (dsimp only; omega)) (fun _ _ => rfl), gLst_mono l4 F (by first | omega | (dsimp only; omega)) (by first | omega | (dsimp only; omega)) (fun _ _ => rfl)⟩, ⟨F.K y1 (by decide), ((F.1 _ (by rw [y1]; decide)).2).trans y2, y3, fun i hi => ?_, F.K y5 (by decide), ((F.1 _ (by rw [y5]; decide)).2).trans y6, hlen, fun i hi => ?_⟩, fun i hi => ?_, fun i hi => ?_, fun d' hd' => ?_, fun e he => ?_, fun k hk => ?_⟩
  · rw [hx49, m4 1 (by omega)]
    exact y4 i hi
  · rw [show mA (mPaper M d r) 4 = _ from uR_s]
    exact hp i hi
  · rw [m4 7 (by omega)]; exact gCase_mono (hcs i hi) F (by first | omega | (dsimp only; omega))
  · rw [m4 9 (by omega), m4 41 (by omega), m4 10 (by omega), m4 42 (by omega)]; exact gPers_mono (hps i hi) F (by first | omega | (dsimp only; omega))
  · exact gDoc_mono (hds d' hd') F (by first | omega | (dsimp only; omega)) (by first | omega | (dsimp only; omega)) (by first | omega | (dsimp only; omega)) (by first | omega | (dsimp only; omega)) hN rfl rfl rfl rfl (fun _ _ => rfl) (fun _ _ => rfl) (Nat.le_refl _) (Nat.le_refl _) (congrFun (m4 12 (by omega)) _) (congrFun (m4 16 (by omega)) _) (congrFun (m4 43 (by omega)) _) (congrFun (m4 44 (by omega)) _) (congrFun (m4 45 (by omega)) _) (mh _ (by omega)) rfl rfl rfl
  · exact gExh_mono (hes e he) F (by first | omega | (dsimp only; omega)) (by first | omega | (dsimp only; omega)) (by first | omega | (dsimp only; omega)) (fun k hk => by first | omega | (dsimp only; omega)) hN rfl rfl (fun _ => rfl) (fun _ _ => rfl) (fun _ _ => rfl) (Nat.le_refl _) (Nat.le_refl _) (congrFun (m4 18 (by omega)) _) (congrFun (m4 19 (by omega)) _) (congrFun (m4 20 (by omega)) _) (mh _ (by omega)) (fun _ _ => congrFun (m4 22 (by omega)) _)
  · exact gLtr_mono (hls k hk) F (by first | omega | (dsimp only; omega)) rfl (fun _ _ => rfl) (fun _ _ => rfl) (Nat.le_refl _) (Nat.le_refl _) (congrFun (m4 24 (by omega)) _) (congrFun (m4 25 (by omega)) _) (congrFun (m4 26 (by omega)) _) (congrFun (m4 46 (by omega)) _) (congrFun (m4 47 (by omega)) _)

set_option maxHeartbeats 4000000 in
set_option maxRecDepth 100000 in
theorem c_X7_writePaper (d0 : Nat × Nat) (S : gS) (x : Nat) (ad : Nat → Nat → Nat) (M : gM) (h : gMail d0 S x ad M) (d : Nat) (hd2 : d < mN M 11) (r : Int32) : gCt d0 yX7_writePaper cX7_writePaper 4 none 1 0 0 [.ref x, .ref (ad 2 d), .int r] S (fun v' S' => v' = none ∧ gMail d0 S' x ad (mPaper M d r) ∧ gFr (fun k => k ≠ 9 ∧ k ≠ 49 ∧ k ≠ 81) S S') gNo := by
  refine gCt_of (lo := [some (.ref x), some (.ref (ad 2 d)), some (.int r), none]) (by decide +kernel) (Nat.le_of_ble_eq_true rfl) (rfl) ?_
  intro Γ hd G F hini
  obtain ⟨⟨r1, ⟨ra, rb, rc, rd, re⟩, rt, rtl, rp, rpl, rdr, rep, rday⟩, ⟨l0, l1, l2, l3, l4⟩, ht, hcs, hps, hds, hes, hls⟩ := id h
  subst hd
  obtain ⟨y1, y2, y3, y4, y5, y6, y7, y8⟩ := id ht
  have hd := hd2
  obtain ⟨k1, ⟨kc, kc1, kc2, kc3⟩, ⟨k2, k3, k4⟩, ⟨k5, k6, k7, k8, kpr⟩, kl, ⟨t1, t2, t3⟩, ⟨v1, v2, v3⟩, ⟨w1, w2, w3⟩⟩ := hds d hd
  have hNc := l0.2.2.1
  obtain rfl : kc = mC M d := by rw [mC, kc2, nI_clamp (by omega)]
  have em : (if nI 2500 < nI (mN M (100 + d)) then nI 2500 else nI (mN M (100 + d))) = nI (mN M (100 + d)) := if_neg (nI_nlt (by omega) (by omega))
  first | refine g_aload_n G dX7_writePaper_0 rfl ?_ | refine g_aload_nN G dX7_writePaper_0 rfl ?_ | refine g_aload_nQ G dX7_writePaper_0 rfl ?_
  first | refine g_aload_n G dX7_writePaper_1 rfl ?_ | refine g_aload_nN G dX7_writePaper_1 rfl ?_ | refine g_aload_nQ G dX7_writePaper_1 rfl ?_
  first | refine g_getR G fl_X7_202 (by assumption) (by first | decide | omega) rfl (by assumption) dX7_writePaper_2 ?_ | refine g_getZ G fl_X7_202 (by assumption) (by first | decide | omega) rfl (by assumption) dX7_writePaper_2 ?_ | refine g_getQ G fl_X7_202 (by assumption) (by first | decide | omega) rfl (by first | assumption | rfl) dX7_writePaper_2 ?_
  refine g_alen G (t1) (by first | decide | omega) (by first | assumption | rfl) dX7_writePaper_5 ?_
  first | refine g_aload_n G dX7_writePaper_6 rfl ?_ | refine g_aload_nN G dX7_writePaper_6 rfl ?_ | refine g_aload_nQ G dX7_writePaper_6 rfl ?_
  first | refine g_getR G fl_X7_36 (by assumption) (by first | decide | omega) rfl (by assumption) dX7_writePaper_7 ?_ | refine g_getZ G fl_X7_36 (by assumption) (by first | decide | omega) rfl (by assumption) dX7_writePaper_7 ?_ | refine g_getQ G fl_X7_36 (by assumption) (by first | decide | omega) rfl (by first | assumption | rfl) dX7_writePaper_7 ?_
  refine g_alen G (y5) (by first | decide | omega) (by first | assumption | rfl) dX7_writePaper_10 ?_
  refine g_mmin G ml_X7_398 (by decide) (by omega) (by omega) (Nat.le_of_ble_eq_true rfl) (em) dX7_writePaper_11 ?_
  refine g_putI G fl_X7_39 pu_8_8 (by assumption) (by first | decide | omega) rfl dX7_writePaper_14 ?_
  refine g_iconst (v := nI 0) G dX7_writePaper_17 (by decide) ?_
  refine g_istore_n G dX7_writePaper_18 (gSt_3 (by first | rfl | exact g_c1_rf)) ?_
  have F0 := gFr_X S 9 8 x (nI (mN M (100 + d)))
  have inner19 : ∀ f2 t : Nat, ∀ St : gS, t ≤ (mN M (100 + d)) → (mN M (100 + d)) + 1 ≤ t + f2 → (gFr (fun k => k ≠ 81) (sX S 9 8 x (nI (mN M (100 + d)))) St ∧ ∀ k, k < t → gX St 81 (ad 6 1) k = gSeenAt (mT M 13 d k) (mT M 14 d k) (mT M 15 d k) r) → gW Γ 19 [some (.ref x), some (.ref (ad 2 d)), some (.int r), some (.int (nI (t)))] [] St 0 0 := by
    intro f2
    induction f2 with
    | zero => intro t St q1 q2; omega
    | succ f2 ih2 =>
      intro t St ht2 hf2  hv2
      obtain ⟨Fs, hv3⟩ := hv2
      have x1 : gK St x = 9 := Fs.K r1 (by decide)
      have x2 : gX St 9 8 x = nI (mN M (100 + d)) := Fs.X (by first | omega | (dsimp only; omega)) sX_s
      have x3 : gX St 9 6 x = nI (mN M 2) ∧ gX St 9 10 x = mA M 3 0 ∧ gX St 9 11 x = nI (mN M 40) := ⟨Fs.X (by first | omega | (dsimp only; omega)) (sX_p (by decide) rtl), Fs.X (by first | omega | (dsimp only; omega)) (sX_p (by decide) rep), Fs.X (by first | omega | (dsimp only; omega)) (sX_p (by decide) rday)⟩
      have x4 := True.intro
      refine g_iload_n G dX7_writePaper_19 rfl ?_
      first | refine g_aload_n G dX7_writePaper_20 rfl ?_ | refine g_aload_nN G dX7_writePaper_20 rfl ?_ | refine g_aload_nQ G dX7_writePaper_20 rfl ?_
      refine g_getI G fl_X7_39 (x1) (by first | decide | omega) rfl (x2) dX7_writePaper_21 ?_
      refine g_icmp_ge (tgt := 45) G dX7_writePaper_24 (by decide) (fun c_24 => ?_) (fun c_24 => ?_)
      · have et : t = (mN M (100 + d)) := by have := (nI_leI (by omega) (by omega)).mp c_24; omega
        subst et
        have hT := gMail_paper h hd (F0.tr (K := fun k => k ≠ 9 ∧ k ≠ 49 ∧ k ≠ 81) Fs (fun _ z => ⟨z.1, z.2.2⟩)) ⟨x1, x3, x2, x4⟩ (fun k => (congrFun (congrFun (Fs.2 9 (by decide)).2.1 k) x)) ((Fs.2 49 (by decide)).1.trans (F0.2 49 (by decide)).1) hv3
        exact g_vret G F (⟨rfl, hT⟩) (by omega) (by omega) dX7_writePaper_45
      · have hlt2 : t < (mN M (100 + d)) := by have z : ¬ (mN M (100 + d)) ≤ t := fun z => c_24 ((nI_leI (by omega) (by omega)).mpr z); omega
        first | refine g_aload_n G dX7_writePaper_27 rfl ?_ | refine g_aload_nN G dX7_writePaper_27 rfl ?_ | refine g_aload_nQ G dX7_writePaper_27 rfl ?_
        refine g_getR G fl_X7_36 (x1) (by first | decide | omega) rfl (Fs.Y (by first | omega | (dsimp only; omega)) rp) dX7_writePaper_28 ?_
        refine g_iload_n G dX7_writePaper_31 rfl ?_
        first | refine g_aload_n G dX7_writePaper_32 rfl ?_ | refine g_aload_nN G dX7_writePaper_32 rfl ?_ | refine g_aload_nQ G dX7_writePaper_32 rfl ?_
        refine g_iload_n G dX7_writePaper_33 rfl ?_
        refine g_iload_n G dX7_writePaper_34 rfl ?_
        refine g_callVp (ci := 2) G (c_X1_seenAt _ St ad M d (gDoc_mono (hds d hd) (F0.tr (K := fun k => k ≠ 9 ∧ k ≠ 49 ∧ k ≠ 81) Fs (fun _ z => ⟨z.1, z.2.2⟩)) (by first | omega | (dsimp only; omega)) (by first | omega | (dsimp only; omega)) (by first | omega | (dsimp only; omega)) (by first | omega | (dsimp only; omega)) l1.2.2.1 rfl rfl rfl rfl (fun _ _ => rfl) (fun _ _ => rfl) (Nat.le_refl _) (Nat.le_refl _) rfl rfl rfl rfl rfl rfl rfl rfl rfl) t hlt2 r) mt_X1_seenAt mi_X1_seenAt ml_X7_206 (Fs.K k1 (by omega)) (by first | decide | omega) rfl (by decide) (by omega) (by omega) rfl (Nat.le_of_ble_eq_true rfl) dX7_writePaper_35 ?_
        refine g_iast G (Fs.K y5 (by decide)) (by first | decide | omega) (by rw [(Fs.1 (ad 6 1) (show gK S (ad 6 1) ≠ 0 by rw [y5]; decide)).2]; show t < gL S (ad 6 1); omega) (by omega) (rfl) dX7_writePaper_38 ?_
        refine g_iinc (v := _) G dX7_writePaper_39 rfl (by first | exact nI_1 _ | rfl) (gSt_3 (by first | rfl | exact g_c1_rf)) ?_
        refine g_goto (tgt := 19) G dX7_writePaper_42 (by decide) ?_
        exact ih2 (t + 1) _ (by omega) (by omega) ⟨Fs.X1 _ _ _ (fun _ z => z), fun k hk => by
          by_cases e : k = t
          · rw [e]; exact sX_s
          · exact sX_q e (hv3 k (by omega))⟩
  exact inner19 ((mN M (100 + d)) + 1) 0 _ (by omega) (by omega) ⟨gFr.rf _, fun k hk => by omega⟩

/-- a document's log -/
theorem gDoc_log {S : gS} {ad : Nat → Nat → Nat} {M : gM} {d p : Nat} (h : gDoc S ad M d) : gDoc (sX S (3 + 32 * d) 7 (ad 2 d) (mA M 45 d ||| (nI 1 <<< (nI p &&& 31)))) ad (mLog M d p) d := by
  obtain ⟨k1, kc, k2, ⟨k5, k6, k7, k8, kpr⟩, kl, t, v, w⟩ := h
  refine ⟨k1, kc, k2, ⟨sX_p (by decide) k5, k6, sX_p (by decide) k7, sX_s.trans uA_s.symm, kpr⟩, kl, ?_, ?_, ?_⟩
  · exact gRow1_mono t (gFr_X _ _ _ _ _) (by first | omega | (dsimp only; omega)) (by omega)
  · exact gRow1_mono v (gFr_X _ _ _ _ _) (by first | omega | (dsimp only; omega)) (by omega)
  · exact gRow1_mono w (gFr_X _ _ _ _ _) (by first | omega | (dsimp only; omega)) (by omega)
theorem gMail_log {d0 : Nat × Nat} {S : gS} {x : Nat} {ad : Nat → Nat → Nat} {M : gM} {d p : Nat} (h : gMail d0 S x ad M) (hd : d < mN M 11) : gTo d0 x S (sX S (3 + 32 * d) 7 (ad 2 d) (mA M 45 d ||| (nI 1 <<< (nI p &&& 31)))) (mLog M d p) :=
  gMail_doc (S3 := sX S (3 + 32 * d) 7 (ad 2 d) (mA M 45 d ||| (nI 1 <<< (nI p &&& 31)))) (M := M) (d := d) (M9 := mLog M d p) rfl (fun f j z => by unfold mLog; rcases z with z | z; exact uA_f (by omega); exact uA_i z) (fun _ _ _ => rfl) (gDoc_log (h.2.2.2.2.2.1 d hd)) h ((gFr_X _ _ _ _ _).mono (fun _ z => z.1))

set_option maxHeartbeats 4000000 in
set_option maxRecDepth 100000 in
theorem c_X7_read (d0 : Nat × Nat) (S : gS) (x : Nat) (ad : Nat → Nat → Nat) (M : gM) (h : gMail d0 S x ad M) (i j : Int32) : gCt d0 yX7_read cX7_read 6 (some .int) 10 1 6 [.ref x, .int i, .int j] S (fun v' S' => ∃ p d, p < mN M 8 ∧ i = nI p ∧ d < mN M 11 ∧ j = nI d ∧ ((gIntoOf M p (mC M d) = -1 ∧ v' = some (.int (-1)) ∧ S' = S) ∨ (¬ gIntoOf M p (mC M d) = -1 ∧ v' = some (.int (nI (mN M (100 + d)))) ∧ gTo d0 x S S' (mLog (mPaper M d (gIntoOf M p (mC M d))) d p)))) (fun E S' => S' = S ∧ ((E = "java/lang/IndexOutOfBoundsException" ∧ ¬ (gIx (mN M 8) i ∧ gIx (mN M 11) j)))) := by
  refine gCt_of (lo := [some (.ref x), some (.int i), some (.int j), none, none, none]) (by decide +kernel) (Nat.le_of_ble_eq_true rfl) (rfl) ?_
  intro Γ hd G F hini
  obtain ⟨⟨r1, ⟨ra, rb, rc, rd, re⟩, rt, rtl, rp, rpl, rdr, rep, rday⟩, ⟨l0, l1, l2, l3, l4⟩, ht, hcs, hps, hds, hes, hls⟩ := id h
  subst hd
  by_cases h_p : gIx (mN M 8) i
  · obtain ⟨p, hp, rfl⟩ := gIx_of h_p (by have := l1.2.2.1; omega)
    by_cases h_d : gIx (mN M 11) j
    · obtain ⟨d, hd, rfl⟩ := gIx_of h_d (by have := l2.2.2.1; omega)
      obtain ⟨k1, ⟨kc, kc1, kc2, kc3⟩, ⟨k2, k3, k4⟩, ⟨k5, k6, k7, k8, kpr⟩, kl, ⟨t1, t2, t3⟩, ⟨v1, v2, v3⟩, ⟨w1, w2, w3⟩⟩ := hds d hd
      have hNc := l0.2.2.1
      obtain rfl : kc = mC M d := by rw [mC, kc2, nI_clamp (by omega)]
      obtain ⟨p1, p2, p3, p4, p5, p6⟩ := id (hps p hp)
      first | refine g_aload_n G dX7_read_0 rfl ?_ | refine g_aload_nN G dX7_read_0 rfl ?_ | refine g_aload_nQ G dX7_read_0 rfl ?_
      refine g_iload_n G dX7_read_1 rfl ?_
      refine g_callVp (ci := 8) G (c_personAt _ S x ad M h p hp) mt_X7_personAt mi_X7_personAt ml_X7_151 (by assumption) (by first | decide | omega) rfl (by decide) (by omega) (by omega) rfl (Nat.le_of_ble_eq_true rfl) dX7_read_2 ?_
      first | refine g_astore_n G dX7_read_5 (gSt_3 (by first | rfl | exact g_c1_rf)) ?_ | refine g_astore_nN G dX7_read_5 (gSt_3 (by first | rfl | exact g_c1_rf)) ?_ | refine g_astore_nQ G dX7_read_5 (gSt_3 (by first | rfl | exact g_c1_rf)) ?_
      first | refine g_aload_n G dX7_read_6 rfl ?_ | refine g_aload_nN G dX7_read_6 rfl ?_ | refine g_aload_nQ G dX7_read_6 rfl ?_
      refine g_iload_n G dX7_read_7 rfl ?_
      refine g_callVp (ci := 8) G (c_documentAt _ S x ad M h d hd) mt_X7_documentAt mi_X7_documentAt ml_X7_104 (by assumption) (by first | decide | omega) rfl (by decide) (by omega) (by omega) rfl (Nat.le_of_ble_eq_true rfl) dX7_read_8 ?_
      first | refine g_astore G dX7_read_11 (gSt_4 (by first | rfl | exact g_c1_rf)) ?_ | refine g_astoreN G dX7_read_11 (gSt_4 (by first | rfl | exact g_c1_rf)) ?_ | refine g_astoreQ G dX7_read_11 (gSt_4 (by first | rfl | exact g_c1_rf)) ?_
      first | refine g_aload_n G dX7_read_13 rfl ?_ | refine g_aload_nN G dX7_read_13 rfl ?_ | refine g_aload_nQ G dX7_read_13 rfl ?_
      refine g_ifnull G dX7_read_14 ?_
      first | refine g_aload G dX7_read_17 rfl ?_ | refine g_aloadN G dX7_read_17 rfl ?_ | refine g_aloadQ G dX7_read_17 rfl ?_
      refine g_ifnonnull (tgt := 32) G dX7_read_19 (by decide) ?_
      first | refine g_aload_n G dX7_read_32 rfl ?_ | refine g_aload_nN G dX7_read_32 rfl ?_ | refine g_aload_nQ G dX7_read_32 rfl ?_
      first | refine g_aload G dX7_read_33 rfl ?_ | refine g_aloadN G dX7_read_33 rfl ?_ | refine g_aloadQ G dX7_read_33 rfl ?_
      first | refine g_getR G fl_X7_181 (by assumption) (by first | decide | omega) rfl (by assumption) dX7_read_35 ?_ | refine g_getZ G fl_X7_181 (by assumption) (by first | decide | omega) rfl (by assumption) dX7_read_35 ?_ | refine g_getQ G fl_X7_181 (by assumption) (by first | decide | omega) rfl (by first | assumption | rfl) dX7_read_35 ?_
      refine g_callVp (ci := 7) G (c_X6_reachInto _ S (ad 1 p) p (ad 0 (mC M d)) (mC M d) _ _ _ _ _ (hps p hp) (hcs (mC M d) kc1)) mt_X6_reachInto mi_X6_reachInto ml_X7_185 (by assumption) (by first | decide | omega) rfl (by decide) (by omega) (by omega) rfl (Nat.le_of_ble_eq_true rfl) dX7_read_38 ?_
      refine g_istore G dX7_read_41 (gSt_5 (by first | rfl | exact g_c1_rf)) ?_
      refine g_iload G dX7_read_43 rfl ?_
      refine g_iconst (v := (-1)) G dX7_read_45 (by decide) ?_
      refine g_icmp_ne (tgt := 51) G dX7_read_46 (by decide) (fun c_46 => ?_) (fun c_46 => ?_)
      · have z1 : ¬ gIntoOf M p (mC M d) = -1 := c_46
        first | refine g_aload_n G dX7_read_51 rfl ?_ | refine g_aload_nN G dX7_read_51 rfl ?_ | refine g_aload_nQ G dX7_read_51 rfl ?_
        first | refine g_aload G dX7_read_52 rfl ?_ | refine g_aloadN G dX7_read_52 rfl ?_ | refine g_aloadQ G dX7_read_52 rfl ?_
        refine g_iload G dX7_read_54 rfl ?_
        refine g_callV (ci := 8) G (c_X7_writePaper _ S x ad M h d hd _) mt_X7_writePaper mi_X7_writePaper ml_X7_188 (by assumption) (by first | decide | omega) rfl (by decide) (by omega) (by omega) rfl (Nat.le_of_ble_eq_true rfl) dX7_read_56 (fun v_56 S_56 hp_56 => ?_)
        obtain ⟨rfl, h1, F1⟩ := hp_56
        simp only [Option.toList, List.nil_append]
        have a1 := h1.2.2.2.2.1 p hp
        have a2 := h1.2.2.2.2.2.1 d hd
        have a3 := (gMail_log (p := p) h1 hd)
        have b1 := h1.1
        first | refine g_aload G dX7_read_59 rfl ?_ | refine g_aloadN G dX7_read_59 rfl ?_ | refine g_aloadQ G dX7_read_59 rfl ?_
        first | refine g_aload_n G dX7_read_61 rfl ?_ | refine g_aload_nN G dX7_read_61 rfl ?_ | refine g_aload_nQ G dX7_read_61 rfl ?_
        refine g_callV (ci := 2) G (c_X1_writeLog _ S_56 ad (mPaper M d (gIntoOf M p (mC M d))) d a2 p _ _ _ _ a1) mt_X1_writeLog mi_X1_writeLog ml_X7_192 (a2.1) (by first | decide | omega) rfl (by decide) (by omega) (by omega) rfl (Nat.le_of_ble_eq_true rfl) dX7_read_62 (fun v_62 S_62 hp_62 => ?_)
        obtain ⟨rfl, rfl⟩ := hp_62
        simp only [Option.toList, List.nil_append]
        obtain ⟨ad2, h2, F2⟩ := a3
        first | refine g_aload_n G dX7_read_65 rfl ?_ | refine g_aload_nN G dX7_read_65 rfl ?_ | refine g_aload_nQ G dX7_read_65 rfl ?_
        refine g_getI G fl_X7_39 (h2.1.1) (by first | decide | omega) rfl (h2.1.2.2.2.2.2.1) dX7_read_66 ?_
        exact g_iret G F (⟨p, d, hp, rfl, hd, rfl, Or.inr ⟨z1, rfl, ad2, h2, (F1.mono (fun k (z : gMk k) => by unfold gMk at z; first | omega | (dsimp only; omega))).tr F2 (fun _ z => ⟨z, z⟩)⟩⟩) (by omega) (by omega) dX7_read_69
      · have z1 : gIntoOf M p (mC M d) = -1 := c_46
        refine g_iconst (v := (-1)) G dX7_read_49 (by decide) ?_
        exact g_iret G F (⟨p, d, hp, rfl, hd, rfl, Or.inl ⟨z1, rfl, rfl⟩⟩) (by omega) (by omega) dX7_read_50
    · have hno : ¬ (gIx (mN M 8) (nI p) ∧ gIx (mN M 11) j) := fun z => h_d (z.2)
      first | refine g_aload_n G dX7_read_0 rfl ?_ | refine g_aload_nN G dX7_read_0 rfl ?_ | refine g_aload_nQ G dX7_read_0 rfl ?_
      refine g_iload_n G dX7_read_1 rfl ?_
      refine g_callVp (ci := 8) G (c_personAt _ S x ad M h p hp) mt_X7_personAt mi_X7_personAt ml_X7_151 (by assumption) (by first | decide | omega) rfl (by decide) (by omega) (by omega) rfl (Nat.le_of_ble_eq_true rfl) dX7_read_2 ?_
      first | refine g_astore_n G dX7_read_5 (gSt_3 (by first | rfl | exact g_c1_rf)) ?_ | refine g_astore_nN G dX7_read_5 (gSt_3 (by first | rfl | exact g_c1_rf)) ?_ | refine g_astore_nQ G dX7_read_5 (gSt_3 (by first | rfl | exact g_c1_rf)) ?_
      first | refine g_aload_n G dX7_read_6 rfl ?_ | refine g_aload_nN G dX7_read_6 rfl ?_ | refine g_aload_nQ G dX7_read_6 rfl ?_
      refine g_iload_n G dX7_read_7 rfl ?_
      refine g_callVp (ci := 8) G (c_documentAt_no _ S x ad M h j (gIx_no h_d)) mt_X7_documentAt mi_X7_documentAt ml_X7_104 (by assumption) (by first | decide | omega) rfl (by decide) (by omega) (by omega) rfl (Nat.le_of_ble_eq_true rfl) dX7_read_8 ?_
      first | refine g_astore G dX7_read_11 (gSt_4 (by first | rfl | exact g_c1_rf)) ?_ | refine g_astoreN G dX7_read_11 (gSt_4 (by first | rfl | exact g_c1_rf)) ?_ | refine g_astoreQ G dX7_read_11 (gSt_4 (by first | rfl | exact g_c1_rf)) ?_
      first | refine g_aload_n G dX7_read_13 rfl ?_ | refine g_aload_nN G dX7_read_13 rfl ?_ | refine g_aload_nQ G dX7_read_13 rfl ?_
      refine g_ifnull G dX7_read_14 ?_
      first | refine g_aload G dX7_read_17 rfl ?_ | refine g_aloadN G dX7_read_17 rfl ?_ | refine g_aloadQ G dX7_read_17 rfl ?_
      refine g_ifnonnullN G dX7_read_19 ?_
      exact g_throw (names := nm_IOE) G F tf_IOE cl_X7_75 ti_IOE st_X7_179 ta_IOE dX7_read_22 (by exact dX7_read_25) (by exact dX7_read_26) (by exact dX7_read_28) (by exact dX7_read_31) (by decide) (Nat.le_of_ble_eq_true rfl) (by omega) (by omega) (⟨rfl, rfl, hno⟩)
  · have hno : ¬ (gIx (mN M 8) i ∧ gIx (mN M 11) j) := fun z => h_p (z.1)
    by_cases h_d : gIx (mN M 11) j
    · obtain ⟨d, hd, rfl⟩ := gIx_of h_d (by have := l2.2.2.1; omega)
      first | refine g_aload_n G dX7_read_0 rfl ?_ | refine g_aload_nN G dX7_read_0 rfl ?_ | refine g_aload_nQ G dX7_read_0 rfl ?_
      refine g_iload_n G dX7_read_1 rfl ?_
      refine g_callVp (ci := 8) G (c_personAt_no _ S x ad M h i (gIx_no h_p)) mt_X7_personAt mi_X7_personAt ml_X7_151 (by assumption) (by first | decide | omega) rfl (by decide) (by omega) (by omega) rfl (Nat.le_of_ble_eq_true rfl) dX7_read_2 ?_
      first | refine g_astore_n G dX7_read_5 (gSt_3 (by first | rfl | exact g_c1_rf)) ?_ | refine g_astore_nN G dX7_read_5 (gSt_3 (by first | rfl | exact g_c1_rf)) ?_ | refine g_astore_nQ G dX7_read_5 (gSt_3 (by first | rfl | exact g_c1_rf)) ?_
      first | refine g_aload_n G dX7_read_6 rfl ?_ | refine g_aload_nN G dX7_read_6 rfl ?_ | refine g_aload_nQ G dX7_read_6 rfl ?_
      refine g_iload_n G dX7_read_7 rfl ?_
      refine g_callVp (ci := 8) G (c_documentAt _ S x ad M h d hd) mt_X7_documentAt mi_X7_documentAt ml_X7_104 (by assumption) (by first | decide | omega) rfl (by decide) (by omega) (by omega) rfl (Nat.le_of_ble_eq_true rfl) dX7_read_8 ?_
      first | refine g_astore G dX7_read_11 (gSt_4 (by first | rfl | exact g_c1_rf)) ?_ | refine g_astoreN G dX7_read_11 (gSt_4 (by first | rfl | exact g_c1_rf)) ?_ | refine g_astoreQ G dX7_read_11 (gSt_4 (by first | rfl | exact g_c1_rf)) ?_
      first | refine g_aload_n G dX7_read_13 rfl ?_ | refine g_aload_nN G dX7_read_13 rfl ?_ | refine g_aload_nQ G dX7_read_13 rfl ?_
      refine g_ifnullN (tgt := 22) G dX7_read_14 (by decide) ?_
      exact g_throw (names := nm_IOE) G F tf_IOE cl_X7_75 ti_IOE st_X7_179 ta_IOE dX7_read_22 (by exact dX7_read_25) (by exact dX7_read_26) (by exact dX7_read_28) (by exact dX7_read_31) (by decide) (Nat.le_of_ble_eq_true rfl) (by omega) (by omega) (⟨rfl, rfl, hno⟩)
    · first | refine g_aload_n G dX7_read_0 rfl ?_ | refine g_aload_nN G dX7_read_0 rfl ?_ | refine g_aload_nQ G dX7_read_0 rfl ?_
      refine g_iload_n G dX7_read_1 rfl ?_
      refine g_callVp (ci := 8) G (c_personAt_no _ S x ad M h i (gIx_no h_p)) mt_X7_personAt mi_X7_personAt ml_X7_151 (by assumption) (by first | decide | omega) rfl (by decide) (by omega) (by omega) rfl (Nat.le_of_ble_eq_true rfl) dX7_read_2 ?_
      first | refine g_astore_n G dX7_read_5 (gSt_3 (by first | rfl | exact g_c1_rf)) ?_ | refine g_astore_nN G dX7_read_5 (gSt_3 (by first | rfl | exact g_c1_rf)) ?_ | refine g_astore_nQ G dX7_read_5 (gSt_3 (by first | rfl | exact g_c1_rf)) ?_
      first | refine g_aload_n G dX7_read_6 rfl ?_ | refine g_aload_nN G dX7_read_6 rfl ?_ | refine g_aload_nQ G dX7_read_6 rfl ?_
      refine g_iload_n G dX7_read_7 rfl ?_
      refine g_callVp (ci := 8) G (c_documentAt_no _ S x ad M h j (gIx_no h_d)) mt_X7_documentAt mi_X7_documentAt ml_X7_104 (by assumption) (by first | decide | omega) rfl (by decide) (by omega) (by omega) rfl (Nat.le_of_ble_eq_true rfl) dX7_read_8 ?_
      first | refine g_astore G dX7_read_11 (gSt_4 (by first | rfl | exact g_c1_rf)) ?_ | refine g_astoreN G dX7_read_11 (gSt_4 (by first | rfl | exact g_c1_rf)) ?_ | refine g_astoreQ G dX7_read_11 (gSt_4 (by first | rfl | exact g_c1_rf)) ?_
      first | refine g_aload_n G dX7_read_13 rfl ?_ | refine g_aload_nN G dX7_read_13 rfl ?_ | refine g_aload_nQ G dX7_read_13 rfl ?_
      refine g_ifnullN (tgt := 22) G dX7_read_14 (by decide) ?_
      exact g_throw (names := nm_IOE) G F tf_IOE cl_X7_75 ti_IOE st_X7_179 ta_IOE dX7_read_22 (by exact dX7_read_25) (by exact dX7_read_26) (by exact dX7_read_28) (by exact dX7_read_31) (by decide) (Nat.le_of_ble_eq_true rfl) (by omega) (by omega) (⟨rfl, rfl, hno⟩)
