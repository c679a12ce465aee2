/-! ===== the reference: its faces that only ask ===== -/
theorem gIxB_ok {n j : Nat} (h : j < n) (hn : n < 2 ^ 31) : ¬ gB (gIxB n (nI j)) = 0 := gB_ne0.mpr (decide_eq_true (gIx_nI h hn))
theorem gIxB_dec0 {n : Nat} {c : Int32} (hn : n ≤ 60000) : decide (nI 0 ≤ c ∧ c ≤ nI n - nI 1) = gIxB n c := gIxB_dec hn
theorem gPair_ok {n m j k : Nat} (h1 : j < n) (h2 : k < m) (hn : n < 2 ^ 31) (hm : m < 2 ^ 31) : ¬ gB (gIxB n (nI j) && gIxB m (nI k)) = 0 := gB_ne0.mpr (by rw [gB_ne0.mp (gIxB_ok h1 hn), gB_ne0.mp (gIxB_ok h2 hm)]; rfl)
theorem gPair_y {n m : Nat} {j k : Int32} (h : ¬ gB (gIxB n j && gIxB m k) = 0) : gIx n j ∧ gIx m k := (Bool.and_eq_true_iff.mp (gB_ne0.mp h)).imp (fun z => of_decide_eq_true (p := ¬ j < 0 ∧ ¬ nI n ≤ j) z) (fun z => of_decide_eq_true (p := ¬ k < 0 ∧ ¬ nI m ≤ k) z)
theorem gPair_n {n m : Nat} {j k : Int32} (h : gB (gIxB n j && gIxB m k) = 0) : ¬ (gIx n j ∧ gIx m k) := fun z => by
  rw [show gIxB n j = true from decide_eq_true z.1, show gIxB m k = true from decide_eq_true z.2] at h
  exact absurd h (by decide)
theorem gIn_ok {k m : Nat} (h : k ≤ m) (hm : m < 2 ^ 31) : ¬ gB (decide (nI 0 ≤ nI k ∧ nI k ≤ nI m)) = 0 := gB_ne0.mpr (decide_eq_true (gWt_d h hm))
theorem gIn_y {k : Nat} {v : Int32} (h : ¬ gB (decide (nI 0 ≤ v ∧ v ≤ nI k)) = 0) : gWt k v := of_decide_eq_true (gB_ne0.mp h)
theorem gIn_n {k : Nat} {v : Int32} (h : gB (decide (nI 0 ≤ v ∧ v ≤ nI k)) = 0) : ¬ gWt k v := of_decide_eq_false (gB_eq0.mp h)
section GAN
variable {S S' : gS} {y : Nat} {b : Nat → Nat → Nat} {M : gM} {v : Option Value}
theorem gAn_0 (h : gRef S y b M) : gAn S y 0 M v v (sX S 11 0 y (nI 0)) := ⟨rfl, sX_s, b, gRef_th h, gFr_th⟩
theorem gAn_N (t : Nat) (h : gRef S y b M) : gAn S y t M v v (sX (sX S 11 0 y (nI 0)) 11 0 y (nI t)) := ⟨rfl, sX_s, b, gRef_th (gRef_th h), gFr_th.tr gFr_th (fun _ z => ⟨z, z⟩)⟩
theorem gAn_T (h : gRef S y b M) (F : gFr (fun k => k ≠ 17 + 32 * 90) (sX S 11 0 y (nI 0)) S') : gAn S y 0 M v v S' :=
  ⟨rfl, F.X (by decide) sX_s, b, gRef_mono (gRef_th h) F (fun κ z e => gRk_9 (e ▸ z)), gFr_th.tr F (fun k z => ⟨z, by unfold gCk at z; omega⟩)⟩
end GAN

set_option maxHeartbeats 4000000 in
set_option maxRecDepth 100000 in
theorem c_X9_errorAt (d0 : Nat × Nat) (S : gS) (y : Nat) (b : Nat → Nat → Nat) (M : gM) (h : gRef S y b M) (i : gInv M)  : gCt d0 yX9_errorAt cX9_errorAt 1 (some .int) 10 1 12 [.ref y] S (gAn S y 0 M (some (.int (mA M 3 0)))) gNo := by
  refine gCt_of (lo := [some (.ref y)]) (by decide +kernel) (Nat.le_of_ble_eq_true rfl) (rfl) ?_
  intro Γ hd G F hini
  first | refine g_aload_n G dX9_errorAt_0 rfl ?_ | refine g_aload_nN G dX9_errorAt_0 rfl ?_ | refine g_aload_nQ G dX9_errorAt_0 rfl ?_
  refine g_iconst (v := nI 0) G dX9_errorAt_1 (by decide) ?_
  refine g_putI G fl_X9_91 pu_10_0 (h.1.kd) (by first | decide | omega) rfl dX9_errorAt_2 ?_
  have h0 := gRef_th (v := nI 0) h
  obtain ⟨r, q, -⟩ := id h0
  obtain ⟨i6, i8, i11, i17, i23, i2, i5⟩ := i.b
  first | refine g_aload_n G dX9_errorAt_5 rfl ?_ | refine g_aload_nN G dX9_errorAt_5 rfl ?_ | refine g_aload_nQ G dX9_errorAt_5 rfl ?_
  refine g_getI G fl_X9_13 (r.kd) (by first | decide | omega) rfl (r.w) dX9_errorAt_6 ?_
  exact g_iret G F (gAn_0 h) (by omega) (by omega) dX9_errorAt_9

set_option maxHeartbeats 4000000 in
set_option maxRecDepth 100000 in
theorem c_X9_document (d0 : Nat × Nat) (S : gS) (y : Nat) (b : Nat → Nat → Nat) (M : gM) (h : gRef S y b M) (i : gInv M) (j k : Nat) (hj : j < mN M 11) (hk : k ≤ 7) : gCt d0 yX9_document cX9_document 3 (some .int) 10 1 12 [.ref y, .int (nI j), .int (nI k)] S (gAn S y 0 M (some (.int (gTellDoc M j k)))) gNo := by
  refine gCt_of (lo := [some (.ref y), some (.int (nI j)), some (.int (nI k))]) (by decide +kernel) (Nat.le_of_ble_eq_true rfl) (rfl) ?_
  intro Γ hd G F hini
  first | refine g_aload_n G dX9_document_0 rfl ?_ | refine g_aload_nN G dX9_document_0 rfl ?_ | refine g_aload_nQ G dX9_document_0 rfl ?_
  refine g_iconst (v := nI 0) G dX9_document_1 (by decide) ?_
  refine g_putI G fl_X9_91 pu_10_0 (h.1.kd) (by first | decide | omega) rfl dX9_document_2 ?_
  have h0 := gRef_th (v := nI 0) h
  obtain ⟨r, q, -⟩ := id h0
  obtain ⟨i6, i8, i11, i17, i23, i2, i5⟩ := i.b
  first | refine g_aload_n G dX9_document_5 rfl ?_ | refine g_aload_nN G dX9_document_5 rfl ?_ | refine g_aload_nQ G dX9_document_5 rfl ?_
  refine g_iload_n G dX9_document_6 rfl ?_
  refine g_callVp (ci := 10) G (c_X9_isDocument _ _ _ _ _ r i _) mt_X9_isDocument mi_X9_isDocument ml_X9_164 (r.kd) (by first | decide | omega) rfl (by decide) (by omega) (by omega) rfl (Nat.le_of_ble_eq_true rfl) dX9_document_7 ?_
  refine g_if_eq (tgt := 32) G dX9_document_10 (by decide) (fun c_10 => (absurd c_10 (gIxB_ok hj (by omega)))) (fun c_10 => ?_)
  refine g_iload_n G dX9_document_13 rfl ?_
  refine g_iconst (v := nI 0) G dX9_document_14 (by decide) ?_
  refine g_bipush (v := nI 7) G dX9_document_15 (by decide) ?_
  refine g_callSp G (c_X9_isIn _ _ _ _ _) mt_X9_isIn ms_X9_isIn ml_X9_97 (by decide) (by omega) (by omega) rfl (Nat.le_of_ble_eq_true rfl) dX9_document_17 ?_
  refine g_if_eq (tgt := 32) G dX9_document_20 (by decide) (fun c_20 => (absurd c_20 (gIn_ok hk (by omega)))) (fun c_20 => ?_)
  first | refine g_aload_n G dX9_document_23 rfl ?_ | refine g_aload_nN G dX9_document_23 rfl ?_ | refine g_aload_nQ G dX9_document_23 rfl ?_
  refine g_iload_n G dX9_document_24 rfl ?_
  refine g_iload_n G dX9_document_25 rfl ?_
  refine g_callV (ci := 10) G (c_X9_documentTold _ _ _ _ _ r q i _ _ (by omega) (by omega)) mt_X9_documentTold mi_X9_documentTold ml_X9_170 (r.kd) (by first | decide | omega) rfl (by decide) (by omega) (by omega) rfl (Nat.le_of_ble_eq_true rfl) dX9_document_26 (fun v_26 S_26 hp_26 => ?_)
  obtain ⟨rfl, hF⟩ := hp_26
  simp only [Option.toList, List.cons_append, List.nil_append]
  refine g_goto (tgt := 37) G dX9_document_29 (by decide) ?_
  exact g_iret G F (by exact gAn_T h hF) (by omega) (by omega) dX9_document_37

set_option maxHeartbeats 4000000 in
set_option maxRecDepth 100000 in
theorem c_X9_document_no (d0 : Nat × Nat) (S : gS) (y : Nat) (b : Nat → Nat → Nat) (M : gM) (h : gRef S y b M) (i : gInv M) (j k : Int32) (hno : ¬ (gIx (mN M 11) j ∧ gWt 7 k)) : gCt d0 yX9_document cX9_document 3 (some .int) 10 1 12 [.ref y, .int j, .int k] S (gAn S y 1 M (some (.int (nI 0)))) gNo := by
  refine gCt_of (lo := [some (.ref y), some (.int j), some (.int k)]) (by decide +kernel) (Nat.le_of_ble_eq_true rfl) (rfl) ?_
  intro Γ hd G F hini
  first | refine g_aload_n G dX9_document_0 rfl ?_ | refine g_aload_nN G dX9_document_0 rfl ?_ | refine g_aload_nQ G dX9_document_0 rfl ?_
  refine g_iconst (v := nI 0) G dX9_document_1 (by decide) ?_
  refine g_putI G fl_X9_91 pu_10_0 (h.1.kd) (by first | decide | omega) rfl dX9_document_2 ?_
  have h0 := gRef_th (v := nI 0) h
  obtain ⟨r, q, -⟩ := id h0
  obtain ⟨i6, i8, i11, i17, i23, i2, i5⟩ := i.b
  first | refine g_aload_n G dX9_document_5 rfl ?_ | refine g_aload_nN G dX9_document_5 rfl ?_ | refine g_aload_nQ G dX9_document_5 rfl ?_
  refine g_iload_n G dX9_document_6 rfl ?_
  refine g_callVp (ci := 10) G (c_X9_isDocument _ _ _ _ _ r i _) mt_X9_isDocument mi_X9_isDocument ml_X9_164 (r.kd) (by first | decide | omega) rfl (by decide) (by omega) (by omega) rfl (Nat.le_of_ble_eq_true rfl) dX9_document_7 ?_
  refine g_if_eq (tgt := 32) G dX9_document_10 (by decide) (fun c_10 => ?_) (fun c_10 => ?_)
  · first | refine g_aload_n G dX9_document_32 rfl ?_ | refine g_aload_nN G dX9_document_32 rfl ?_ | refine g_aload_nQ G dX9_document_32 rfl ?_
    refine g_iconst (v := nI 1) G dX9_document_33 (by decide) ?_
    refine g_callV (ci := 10) G (c_X9_no _ _ _ _ r.kd) mt_X9_no mi_X9_no ml_X9_113 (r.kd) (by first | decide | omega) rfl (by decide) (by omega) (by omega) rfl (Nat.le_of_ble_eq_true rfl) dX9_document_34 (fun v_34 S_34 hp_34 => ?_)
    obtain ⟨rfl, rfl⟩ := hp_34
    simp only [Option.toList, List.cons_append, List.nil_append]
    exact g_iret G F (gAn_N 1 h) (by omega) (by omega) dX9_document_37
  · refine g_iload_n G dX9_document_13 rfl ?_
    refine g_iconst (v := nI 0) G dX9_document_14 (by decide) ?_
    refine g_bipush (v := nI 7) G dX9_document_15 (by decide) ?_
    refine g_callSp G (c_X9_isIn _ _ _ _ _) mt_X9_isIn ms_X9_isIn ml_X9_97 (by decide) (by omega) (by omega) rfl (Nat.le_of_ble_eq_true rfl) dX9_document_17 ?_
    refine g_if_eq (tgt := 32) G dX9_document_20 (by decide) (fun c_20 => ?_) (fun c_20 => (absurd ⟨gIxB_y c_10, gIn_y c_20⟩ hno))
    first | refine g_aload_n G dX9_document_32 rfl ?_ | refine g_aload_nN G dX9_document_32 rfl ?_ | refine g_aload_nQ G dX9_document_32 rfl ?_
    refine g_iconst (v := nI 1) G dX9_document_33 (by decide) ?_
    refine g_callV (ci := 10) G (c_X9_no _ _ _ _ r.kd) mt_X9_no mi_X9_no ml_X9_113 (r.kd) (by first | decide | omega) rfl (by decide) (by omega) (by omega) rfl (Nat.le_of_ble_eq_true rfl) dX9_document_34 (fun v_34 S_34 hp_34 => ?_)
    obtain ⟨rfl, rfl⟩ := hp_34
    simp only [Option.toList, List.cons_append, List.nil_append]
    exact g_iret G F (gAn_N 1 h) (by omega) (by omega) dX9_document_37

set_option maxHeartbeats 4000000 in
set_option maxRecDepth 100000 in
theorem c_X9_person (d0 : Nat × Nat) (S : gS) (y : Nat) (b : Nat → Nat → Nat) (M : gM) (h : gRef S y b M) (i : gInv M) (j k : Nat) (hj : j < mN M 8) (hk : k ≤ 7) : gCt d0 yX9_person cX9_person 3 (some .int) 10 1 12 [.ref y, .int (nI j), .int (nI k)] S (gAn S y 0 M (some (.int (gTellPers M j k)))) gNo := by
  refine gCt_of (lo := [some (.ref y), some (.int (nI j)), some (.int (nI k))]) (by decide +kernel) (Nat.le_of_ble_eq_true rfl) (rfl) ?_
  intro Γ hd G F hini
  first | refine g_aload_n G dX9_person_0 rfl ?_ | refine g_aload_nN G dX9_person_0 rfl ?_ | refine g_aload_nQ G dX9_person_0 rfl ?_
  refine g_iconst (v := nI 0) G dX9_person_1 (by decide) ?_
  refine g_putI G fl_X9_91 pu_10_0 (h.1.kd) (by first | decide | omega) rfl dX9_person_2 ?_
  have h0 := gRef_th (v := nI 0) h
  obtain ⟨r, q, -⟩ := id h0
  obtain ⟨i6, i8, i11, i17, i23, i2, i5⟩ := i.b
  first | refine g_aload_n G dX9_person_5 rfl ?_ | refine g_aload_nN G dX9_person_5 rfl ?_ | refine g_aload_nQ G dX9_person_5 rfl ?_
  refine g_iload_n G dX9_person_6 rfl ?_
  refine g_callVp (ci := 10) G (c_X9_isPerson _ _ _ _ _ r i _) mt_X9_isPerson mi_X9_isPerson ml_X9_176 (r.kd) (by first | decide | omega) rfl (by decide) (by omega) (by omega) rfl (Nat.le_of_ble_eq_true rfl) dX9_person_7 ?_
  refine g_if_eq (tgt := 32) G dX9_person_10 (by decide) (fun c_10 => (absurd c_10 (gIxB_ok hj (by omega)))) (fun c_10 => ?_)
  refine g_iload_n G dX9_person_13 rfl ?_
  refine g_iconst (v := nI 0) G dX9_person_14 (by decide) ?_
  refine g_bipush (v := nI 7) G dX9_person_15 (by decide) ?_
  refine g_callSp G (c_X9_isIn _ _ _ _ _) mt_X9_isIn ms_X9_isIn ml_X9_97 (by decide) (by omega) (by omega) rfl (Nat.le_of_ble_eq_true rfl) dX9_person_17 ?_
  refine g_if_eq (tgt := 32) G dX9_person_20 (by decide) (fun c_20 => (absurd c_20 (gIn_ok hk (by omega)))) (fun c_20 => ?_)
  first | refine g_aload_n G dX9_person_23 rfl ?_ | refine g_aload_nN G dX9_person_23 rfl ?_ | refine g_aload_nQ G dX9_person_23 rfl ?_
  refine g_iload_n G dX9_person_24 rfl ?_
  refine g_iload_n G dX9_person_25 rfl ?_
  refine g_callV (ci := 10) G (c_X9_personTold _ _ _ _ _ r q i _ _ (by omega) (by omega)) mt_X9_personTold mi_X9_personTold ml_X9_191 (r.kd) (by first | decide | omega) rfl (by decide) (by omega) (by omega) rfl (Nat.le_of_ble_eq_true rfl) dX9_person_26 (fun v_26 S_26 hp_26 => ?_)
  obtain ⟨rfl, hF⟩ := hp_26
  simp only [Option.toList, List.cons_append, List.nil_append]
  refine g_goto (tgt := 37) G dX9_person_29 (by decide) ?_
  exact g_iret G F (by exact gAn_T h hF) (by omega) (by omega) dX9_person_37

set_option maxHeartbeats 4000000 in
set_option maxRecDepth 100000 in
theorem c_X9_person_no (d0 : Nat × Nat) (S : gS) (y : Nat) (b : Nat → Nat → Nat) (M : gM) (h : gRef S y b M) (i : gInv M) (j k : Int32) (hno : ¬ (gIx (mN M 8) j ∧ gWt 7 k)) : gCt d0 yX9_person cX9_person 3 (some .int) 10 1 12 [.ref y, .int j, .int k] S (gAn S y 1 M (some (.int (nI 0)))) gNo := by
  refine gCt_of (lo := [some (.ref y), some (.int j), some (.int k)]) (by decide +kernel) (Nat.le_of_ble_eq_true rfl) (rfl) ?_
  intro Γ hd G F hini
  first | refine g_aload_n G dX9_person_0 rfl ?_ | refine g_aload_nN G dX9_person_0 rfl ?_ | refine g_aload_nQ G dX9_person_0 rfl ?_
  refine g_iconst (v := nI 0) G dX9_person_1 (by decide) ?_
  refine g_putI G fl_X9_91 pu_10_0 (h.1.kd) (by first | decide | omega) rfl dX9_person_2 ?_
  have h0 := gRef_th (v := nI 0) h
  obtain ⟨r, q, -⟩ := id h0
  obtain ⟨i6, i8, i11, i17, i23, i2, i5⟩ := i.b
  first | refine g_aload_n G dX9_person_5 rfl ?_ | refine g_aload_nN G dX9_person_5 rfl ?_ | refine g_aload_nQ G dX9_person_5 rfl ?_
  refine g_iload_n G dX9_person_6 rfl ?_
  refine g_callVp (ci := 10) G (c_X9_isPerson _ _ _ _ _ r i _) mt_X9_isPerson mi_X9_isPerson ml_X9_176 (r.kd) (by first | decide | omega) rfl (by decide) (by omega) (by omega) rfl (Nat.le_of_ble_eq_true rfl) dX9_person_7 ?_
  refine g_if_eq (tgt := 32) G dX9_person_10 (by decide) (fun c_10 => ?_) (fun c_10 => ?_)
  · first | refine g_aload_n G dX9_person_32 rfl ?_ | refine g_aload_nN G dX9_person_32 rfl ?_ | refine g_aload_nQ G dX9_person_32 rfl ?_
    refine g_iconst (v := nI 1) G dX9_person_33 (by decide) ?_
    refine g_callV (ci := 10) G (c_X9_no _ _ _ _ r.kd) mt_X9_no mi_X9_no ml_X9_113 (r.kd) (by first | decide | omega) rfl (by decide) (by omega) (by omega) rfl (Nat.le_of_ble_eq_true rfl) dX9_person_34 (fun v_34 S_34 hp_34 => ?_)
    obtain ⟨rfl, rfl⟩ := hp_34
    simp only [Option.toList, List.cons_append, List.nil_append]
    exact g_iret G F (gAn_N 1 h) (by omega) (by omega) dX9_person_37
  · refine g_iload_n G dX9_person_13 rfl ?_
    refine g_iconst (v := nI 0) G dX9_person_14 (by decide) ?_
    refine g_bipush (v := nI 7) G dX9_person_15 (by decide) ?_
    refine g_callSp G (c_X9_isIn _ _ _ _ _) mt_X9_isIn ms_X9_isIn ml_X9_97 (by decide) (by omega) (by omega) rfl (Nat.le_of_ble_eq_true rfl) dX9_person_17 ?_
    refine g_if_eq (tgt := 32) G dX9_person_20 (by decide) (fun c_20 => ?_) (fun c_20 => (absurd ⟨gIxB_y c_10, gIn_y c_20⟩ hno))
    first | refine g_aload_n G dX9_person_32 rfl ?_ | refine g_aload_nN G dX9_person_32 rfl ?_ | refine g_aload_nQ G dX9_person_32 rfl ?_
    refine g_iconst (v := nI 1) G dX9_person_33 (by decide) ?_
    refine g_callV (ci := 10) G (c_X9_no _ _ _ _ r.kd) mt_X9_no mi_X9_no ml_X9_113 (r.kd) (by first | decide | omega) rfl (by decide) (by omega) (by omega) rfl (Nat.le_of_ble_eq_true rfl) dX9_person_34 (fun v_34 S_34 hp_34 => ?_)
    obtain ⟨rfl, rfl⟩ := hp_34
    simp only [Option.toList, List.cons_append, List.nil_append]
    exact g_iret G F (gAn_N 1 h) (by omega) (by omega) dX9_person_37

set_option maxHeartbeats 4000000 in
set_option maxRecDepth 100000 in
theorem c_X9_caseOf (d0 : Nat × Nat) (S : gS) (y : Nat) (b : Nat → Nat → Nat) (M : gM) (h : gRef S y b M) (i : gInv M) (j k : Nat) (hj : j < mN M 6) (hk : k ≤ 4) : gCt d0 yX9_caseOf cX9_caseOf 3 (some .int) 10 1 12 [.ref y, .int (nI j), .int (nI k)] S (gAn S y 0 M (some (.int (gTellCase M j k)))) gNo := by
  refine gCt_of (lo := [some (.ref y), some (.int (nI j)), some (.int (nI k))]) (by decide +kernel) (Nat.le_of_ble_eq_true rfl) (rfl) ?_
  intro Γ hd G F hini
  first | refine g_aload_n G dX9_caseOf_0 rfl ?_ | refine g_aload_nN G dX9_caseOf_0 rfl ?_ | refine g_aload_nQ G dX9_caseOf_0 rfl ?_
  refine g_iconst (v := nI 0) G dX9_caseOf_1 (by decide) ?_
  refine g_putI G fl_X9_91 pu_10_0 (h.1.kd) (by first | decide | omega) rfl dX9_caseOf_2 ?_
  have h0 := gRef_th (v := nI 0) h
  obtain ⟨r, q, -⟩ := id h0
  obtain ⟨i6, i8, i11, i17, i23, i2, i5⟩ := i.b
  first | refine g_aload_n G dX9_caseOf_5 rfl ?_ | refine g_aload_nN G dX9_caseOf_5 rfl ?_ | refine g_aload_nQ G dX9_caseOf_5 rfl ?_
  refine g_iload_n G dX9_caseOf_6 rfl ?_
  refine g_callVp (ci := 10) G (c_X9_isCase _ _ _ _ _ r i _) mt_X9_isCase mi_X9_isCase ml_X9_147 (r.kd) (by first | decide | omega) rfl (by decide) (by omega) (by omega) rfl (Nat.le_of_ble_eq_true rfl) dX9_caseOf_7 ?_
  refine g_if_eq (tgt := 31) G dX9_caseOf_10 (by decide) (fun c_10 => (absurd c_10 (gIxB_ok hj (by omega)))) (fun c_10 => ?_)
  refine g_iload_n G dX9_caseOf_13 rfl ?_
  refine g_iconst (v := nI 0) G dX9_caseOf_14 (by decide) ?_
  refine g_iconst (v := nI 4) G dX9_caseOf_15 (by decide) ?_
  refine g_callSp G (c_X9_isIn _ _ _ _ _) mt_X9_isIn ms_X9_isIn ml_X9_97 (by decide) (by omega) (by omega) rfl (Nat.le_of_ble_eq_true rfl) dX9_caseOf_16 ?_
  refine g_if_eq (tgt := 31) G dX9_caseOf_19 (by decide) (fun c_19 => (absurd c_19 (gIn_ok hk (by omega)))) (fun c_19 => ?_)
  first | refine g_aload_n G dX9_caseOf_22 rfl ?_ | refine g_aload_nN G dX9_caseOf_22 rfl ?_ | refine g_aload_nQ G dX9_caseOf_22 rfl ?_
  refine g_iload_n G dX9_caseOf_23 rfl ?_
  refine g_iload_n G dX9_caseOf_24 rfl ?_
  refine g_callV (ci := 10) G (c_X9_caseTold _ _ _ _ _ r q i _ _ (by omega) (by omega)) mt_X9_caseTold mi_X9_caseTold ml_X9_197 (r.kd) (by first | decide | omega) rfl (by decide) (by omega) (by omega) rfl (Nat.le_of_ble_eq_true rfl) dX9_caseOf_25 (fun v_25 S_25 hp_25 => ?_)
  obtain ⟨rfl, hF⟩ := hp_25
  simp only [Option.toList, List.cons_append, List.nil_append]
  refine g_goto (tgt := 36) G dX9_caseOf_28 (by decide) ?_
  exact g_iret G F (by exact gAn_T h hF) (by omega) (by omega) dX9_caseOf_36

set_option maxHeartbeats 4000000 in
set_option maxRecDepth 100000 in
theorem c_X9_caseOf_no (d0 : Nat × Nat) (S : gS) (y : Nat) (b : Nat → Nat → Nat) (M : gM) (h : gRef S y b M) (i : gInv M) (j k : Int32) (hno : ¬ (gIx (mN M 6) j ∧ gWt 4 k)) : gCt d0 yX9_caseOf cX9_caseOf 3 (some .int) 10 1 12 [.ref y, .int j, .int k] S (gAn S y 1 M (some (.int (nI 0)))) gNo := by
  refine gCt_of (lo := [some (.ref y), some (.int j), some (.int k)]) (by decide +kernel) (Nat.le_of_ble_eq_true rfl) (rfl) ?_
  intro Γ hd G F hini
  first | refine g_aload_n G dX9_caseOf_0 rfl ?_ | refine g_aload_nN G dX9_caseOf_0 rfl ?_ | refine g_aload_nQ G dX9_caseOf_0 rfl ?_
  refine g_iconst (v := nI 0) G dX9_caseOf_1 (by decide) ?_
  refine g_putI G fl_X9_91 pu_10_0 (h.1.kd) (by first | decide | omega) rfl dX9_caseOf_2 ?_
  have h0 := gRef_th (v := nI 0) h
  obtain ⟨r, q, -⟩ := id h0
  obtain ⟨i6, i8, i11, i17, i23, i2, i5⟩ := i.b
  first | refine g_aload_n G dX9_caseOf_5 rfl ?_ | refine g_aload_nN G dX9_caseOf_5 rfl ?_ | refine g_aload_nQ G dX9_caseOf_5 rfl ?_
  refine g_iload_n G dX9_caseOf_6 rfl ?_
  refine g_callVp (ci := 10) G (c_X9_isCase _ _ _ _ _ r i _) mt_X9_isCase mi_X9_isCase ml_X9_147 (r.kd) (by first | decide | omega) rfl (by decide) (by omega) (by omega) rfl (Nat.le_of_ble_eq_true rfl) dX9_caseOf_7 ?_
  refine g_if_eq (tgt := 31) G dX9_caseOf_10 (by decide) (fun c_10 => ?_) (fun c_10 => ?_)
  · first | refine g_aload_n G dX9_caseOf_31 rfl ?_ | refine g_aload_nN G dX9_caseOf_31 rfl ?_ | refine g_aload_nQ G dX9_caseOf_31 rfl ?_
    refine g_iconst (v := nI 1) G dX9_caseOf_32 (by decide) ?_
    refine g_callV (ci := 10) G (c_X9_no _ _ _ _ r.kd) mt_X9_no mi_X9_no ml_X9_113 (r.kd) (by first | decide | omega) rfl (by decide) (by omega) (by omega) rfl (Nat.le_of_ble_eq_true rfl) dX9_caseOf_33 (fun v_33 S_33 hp_33 => ?_)
    obtain ⟨rfl, rfl⟩ := hp_33
    simp only [Option.toList, List.cons_append, List.nil_append]
    exact g_iret G F (gAn_N 1 h) (by omega) (by omega) dX9_caseOf_36
  · refine g_iload_n G dX9_caseOf_13 rfl ?_
    refine g_iconst (v := nI 0) G dX9_caseOf_14 (by decide) ?_
    refine g_iconst (v := nI 4) G dX9_caseOf_15 (by decide) ?_
    refine g_callSp G (c_X9_isIn _ _ _ _ _) mt_X9_isIn ms_X9_isIn ml_X9_97 (by decide) (by omega) (by omega) rfl (Nat.le_of_ble_eq_true rfl) dX9_caseOf_16 ?_
    refine g_if_eq (tgt := 31) G dX9_caseOf_19 (by decide) (fun c_19 => ?_) (fun c_19 => (absurd ⟨gIxB_y c_10, gIn_y c_19⟩ hno))
    first | refine g_aload_n G dX9_caseOf_31 rfl ?_ | refine g_aload_nN G dX9_caseOf_31 rfl ?_ | refine g_aload_nQ G dX9_caseOf_31 rfl ?_
    refine g_iconst (v := nI 1) G dX9_caseOf_32 (by decide) ?_
    refine g_callV (ci := 10) G (c_X9_no _ _ _ _ r.kd) mt_X9_no mi_X9_no ml_X9_113 (r.kd) (by first | decide | omega) rfl (by decide) (by omega) (by omega) rfl (Nat.le_of_ble_eq_true rfl) dX9_caseOf_33 (fun v_33 S_33 hp_33 => ?_)
    obtain ⟨rfl, rfl⟩ := hp_33
    simp only [Option.toList, List.cons_append, List.nil_append]
    exact g_iret G F (gAn_N 1 h) (by omega) (by omega) dX9_caseOf_36

set_option maxHeartbeats 4000000 in
set_option maxRecDepth 100000 in
theorem c_X9_exhibit (d0 : Nat × Nat) (S : gS) (y : Nat) (b : Nat → Nat → Nat) (M : gM) (h : gRef S y b M) (i : gInv M) (j k : Nat) (hj : j < mN M 17) (hk : k ≤ 6) : gCt d0 yX9_exhibit cX9_exhibit 3 (some .int) 10 1 12 [.ref y, .int (nI j), .int (nI k)] S (gAn S y 0 M (some (.int (gTellExh M j k)))) gNo := by
  refine gCt_of (lo := [some (.ref y), some (.int (nI j)), some (.int (nI k))]) (by decide +kernel) (Nat.le_of_ble_eq_true rfl) (rfl) ?_
  intro Γ hd G F hini
  first | refine g_aload_n G dX9_exhibit_0 rfl ?_ | refine g_aload_nN G dX9_exhibit_0 rfl ?_ | refine g_aload_nQ G dX9_exhibit_0 rfl ?_
  refine g_iconst (v := nI 0) G dX9_exhibit_1 (by decide) ?_
  refine g_putI G fl_X9_91 pu_10_0 (h.1.kd) (by first | decide | omega) rfl dX9_exhibit_2 ?_
  have h0 := gRef_th (v := nI 0) h
  obtain ⟨r, q, -⟩ := id h0
  obtain ⟨i6, i8, i11, i17, i23, i2, i5⟩ := i.b
  first | refine g_aload_n G dX9_exhibit_5 rfl ?_ | refine g_aload_nN G dX9_exhibit_5 rfl ?_ | refine g_aload_nQ G dX9_exhibit_5 rfl ?_
  refine g_iload_n G dX9_exhibit_6 rfl ?_
  refine g_callVp (ci := 10) G (c_X9_isExhibit _ _ _ _ _ r i _) mt_X9_isExhibit mi_X9_isExhibit ml_X9_228 (r.kd) (by first | decide | omega) rfl (by decide) (by omega) (by omega) rfl (Nat.le_of_ble_eq_true rfl) dX9_exhibit_7 ?_
  refine g_if_eq (tgt := 32) G dX9_exhibit_10 (by decide) (fun c_10 => (absurd c_10 (gIxB_ok hj (by omega)))) (fun c_10 => ?_)
  refine g_iload_n G dX9_exhibit_13 rfl ?_
  refine g_iconst (v := nI 0) G dX9_exhibit_14 (by decide) ?_
  refine g_bipush (v := nI 6) G dX9_exhibit_15 (by decide) ?_
  refine g_callSp G (c_X9_isIn _ _ _ _ _) mt_X9_isIn ms_X9_isIn ml_X9_97 (by decide) (by omega) (by omega) rfl (Nat.le_of_ble_eq_true rfl) dX9_exhibit_17 ?_
  refine g_if_eq (tgt := 32) G dX9_exhibit_20 (by decide) (fun c_20 => (absurd c_20 (gIn_ok hk (by omega)))) (fun c_20 => ?_)
  first | refine g_aload_n G dX9_exhibit_23 rfl ?_ | refine g_aload_nN G dX9_exhibit_23 rfl ?_ | refine g_aload_nQ G dX9_exhibit_23 rfl ?_
  refine g_iload_n G dX9_exhibit_24 rfl ?_
  refine g_iload_n G dX9_exhibit_25 rfl ?_
  refine g_callV (ci := 10) G (c_X9_exhibitTold _ _ _ _ _ r q i _ _ (by omega) (by omega)) mt_X9_exhibitTold mi_X9_exhibitTold ml_X9_241 (r.kd) (by first | decide | omega) rfl (by decide) (by omega) (by omega) rfl (Nat.le_of_ble_eq_true rfl) dX9_exhibit_26 (fun v_26 S_26 hp_26 => ?_)
  obtain ⟨rfl, hF⟩ := hp_26
  simp only [Option.toList, List.cons_append, List.nil_append]
  refine g_goto (tgt := 37) G dX9_exhibit_29 (by decide) ?_
  exact g_iret G F (by exact gAn_T h hF) (by omega) (by omega) dX9_exhibit_37

set_option maxHeartbeats 4000000 in
set_option maxRecDepth 100000 in
theorem c_X9_exhibit_no (d0 : Nat × Nat) (S : gS) (y : Nat) (b : Nat → Nat → Nat) (M : gM) (h : gRef S y b M) (i : gInv M) (j k : Int32) (hno : ¬ (gIx (mN M 17) j ∧ gWt 6 k)) : gCt d0 yX9_exhibit cX9_exhibit 3 (some .int) 10 1 12 [.ref y, .int j, .int k] S (gAn S y 1 M (some (.int (nI 0)))) gNo := by
  refine gCt_of (lo := [some (.ref y), some (.int j), some (.int k)]) (by decide +kernel) (Nat.le_of_ble_eq_true rfl) (rfl) ?_
  intro Γ hd G F hini
  first | refine g_aload_n G dX9_exhibit_0 rfl ?_ | refine g_aload_nN G dX9_exhibit_0 rfl ?_ | refine g_aload_nQ G dX9_exhibit_0 rfl ?_
  refine g_iconst (v := nI 0) G dX9_exhibit_1 (by decide) ?_
  refine g_putI G fl_X9_91 pu_10_0 (h.1.kd) (by first | decide | omega) rfl dX9_exhibit_2 ?_
  have h0 := gRef_th (v := nI 0) h
  obtain ⟨r, q, -⟩ := id h0
  obtain ⟨i6, i8, i11, i17, i23, i2, i5⟩ := i.b
  first | refine g_aload_n G dX9_exhibit_5 rfl ?_ | refine g_aload_nN G dX9_exhibit_5 rfl ?_ | refine g_aload_nQ G dX9_exhibit_5 rfl ?_
  refine g_iload_n G dX9_exhibit_6 rfl ?_
  refine g_callVp (ci := 10) G (c_X9_isExhibit _ _ _ _ _ r i _) mt_X9_isExhibit mi_X9_isExhibit ml_X9_228 (r.kd) (by first | decide | omega) rfl (by decide) (by omega) (by omega) rfl (Nat.le_of_ble_eq_true rfl) dX9_exhibit_7 ?_
  refine g_if_eq (tgt := 32) G dX9_exhibit_10 (by decide) (fun c_10 => ?_) (fun c_10 => ?_)
  · first | refine g_aload_n G dX9_exhibit_32 rfl ?_ | refine g_aload_nN G dX9_exhibit_32 rfl ?_ | refine g_aload_nQ G dX9_exhibit_32 rfl ?_
    refine g_iconst (v := nI 1) G dX9_exhibit_33 (by decide) ?_
    refine g_callV (ci := 10) G (c_X9_no _ _ _ _ r.kd) mt_X9_no mi_X9_no ml_X9_113 (r.kd) (by first | decide | omega) rfl (by decide) (by omega) (by omega) rfl (Nat.le_of_ble_eq_true rfl) dX9_exhibit_34 (fun v_34 S_34 hp_34 => ?_)
    obtain ⟨rfl, rfl⟩ := hp_34
    simp only [Option.toList, List.cons_append, List.nil_append]
    exact g_iret G F (gAn_N 1 h) (by omega) (by omega) dX9_exhibit_37
  · refine g_iload_n G dX9_exhibit_13 rfl ?_
    refine g_iconst (v := nI 0) G dX9_exhibit_14 (by decide) ?_
    refine g_bipush (v := nI 6) G dX9_exhibit_15 (by decide) ?_
    refine g_callSp G (c_X9_isIn _ _ _ _ _) mt_X9_isIn ms_X9_isIn ml_X9_97 (by decide) (by omega) (by omega) rfl (Nat.le_of_ble_eq_true rfl) dX9_exhibit_17 ?_
    refine g_if_eq (tgt := 32) G dX9_exhibit_20 (by decide) (fun c_20 => ?_) (fun c_20 => (absurd ⟨gIxB_y c_10, gIn_y c_20⟩ hno))
    first | refine g_aload_n G dX9_exhibit_32 rfl ?_ | refine g_aload_nN G dX9_exhibit_32 rfl ?_ | refine g_aload_nQ G dX9_exhibit_32 rfl ?_
    refine g_iconst (v := nI 1) G dX9_exhibit_33 (by decide) ?_
    refine g_callV (ci := 10) G (c_X9_no _ _ _ _ r.kd) mt_X9_no mi_X9_no ml_X9_113 (r.kd) (by first | decide | omega) rfl (by decide) (by omega) (by omega) rfl (Nat.le_of_ble_eq_true rfl) dX9_exhibit_34 (fun v_34 S_34 hp_34 => ?_)
    obtain ⟨rfl, rfl⟩ := hp_34
    simp only [Option.toList, List.cons_append, List.nil_append]
    exact g_iret G F (gAn_N 1 h) (by omega) (by omega) dX9_exhibit_37

set_option maxHeartbeats 4000000 in
set_option maxRecDepth 100000 in
theorem c_X9_letter (d0 : Nat × Nat) (S : gS) (y : Nat) (b : Nat → Nat → Nat) (M : gM) (h : gRef S y b M) (i : gInv M) (j k : Nat) (hj : j < mN M 23) (hk : k ≤ 4) : gCt d0 yX9_letter cX9_letter 3 (some .int) 10 1 12 [.ref y, .int (nI j), .int (nI k)] S (gAn S y 0 M (some (.int (gTellLtr M j k)))) gNo := by
  refine gCt_of (lo := [some (.ref y), some (.int (nI j)), some (.int (nI k))]) (by decide +kernel) (Nat.le_of_ble_eq_true rfl) (rfl) ?_
  intro Γ hd G F hini
  first | refine g_aload_n G dX9_letter_0 rfl ?_ | refine g_aload_nN G dX9_letter_0 rfl ?_ | refine g_aload_nQ G dX9_letter_0 rfl ?_
  refine g_iconst (v := nI 0) G dX9_letter_1 (by decide) ?_
  refine g_putI G fl_X9_91 pu_10_0 (h.1.kd) (by first | decide | omega) rfl dX9_letter_2 ?_
  have h0 := gRef_th (v := nI 0) h
  obtain ⟨r, q, -⟩ := id h0
  obtain ⟨i6, i8, i11, i17, i23, i2, i5⟩ := i.b
  refine g_iload_n G dX9_letter_5 rfl ?_
  refine g_iconst (v := nI 0) G dX9_letter_6 (by decide) ?_
  first | refine g_aload_n G dX9_letter_7 rfl ?_ | refine g_aload_nN G dX9_letter_7 rfl ?_ | refine g_aload_nQ G dX9_letter_7 rfl ?_
  refine g_getI G fl_X9_182 (r.kd) (by first | decide | omega) rfl (r.n 23 rfl) dX9_letter_8 ?_
  refine g_iconst (v := nI 1) G dX9_letter_11 (by decide) ?_
  refine g_isub G dX9_letter_12 (rfl) ?_
  refine g_callSp G (c_X9_isIn _ _ _ _ _) mt_X9_isIn ms_X9_isIn ml_X9_97 (by decide) (by omega) (by omega) rfl (Nat.le_of_ble_eq_true rfl) dX9_letter_13 ?_
  rw [gIxB_dec0 (by omega)]
  refine g_if_eq (tgt := 37) G dX9_letter_16 (by decide) (fun c_16 => (absurd c_16 (gIxB_ok hj (by omega)))) (fun c_16 => ?_)
  refine g_iload_n G dX9_letter_19 rfl ?_
  refine g_iconst (v := nI 0) G dX9_letter_20 (by decide) ?_
  refine g_iconst (v := nI 4) G dX9_letter_21 (by decide) ?_
  refine g_callSp G (c_X9_isIn _ _ _ _ _) mt_X9_isIn ms_X9_isIn ml_X9_97 (by decide) (by omega) (by omega) rfl (Nat.le_of_ble_eq_true rfl) dX9_letter_22 ?_
  refine g_if_eq (tgt := 37) G dX9_letter_25 (by decide) (fun c_25 => (absurd c_25 (gIn_ok hk (by omega)))) (fun c_25 => ?_)
  first | refine g_aload_n G dX9_letter_28 rfl ?_ | refine g_aload_nN G dX9_letter_28 rfl ?_ | refine g_aload_nQ G dX9_letter_28 rfl ?_
  refine g_iload_n G dX9_letter_29 rfl ?_
  refine g_iload_n G dX9_letter_30 rfl ?_
  refine g_callV (ci := 10) G (c_X9_letterTold _ _ _ _ _ r q i _ _ (by omega) (by omega)) mt_X9_letterTold mi_X9_letterTold ml_X9_247 (r.kd) (by first | decide | omega) rfl (by decide) (by omega) (by omega) rfl (Nat.le_of_ble_eq_true rfl) dX9_letter_31 (fun v_31 S_31 hp_31 => ?_)
  obtain ⟨rfl, hF⟩ := hp_31
  simp only [Option.toList, List.cons_append, List.nil_append]
  refine g_goto (tgt := 42) G dX9_letter_34 (by decide) ?_
  exact g_iret G F (by exact gAn_T h hF) (by omega) (by omega) dX9_letter_42

set_option maxHeartbeats 4000000 in
set_option maxRecDepth 100000 in
theorem c_X9_letter_no (d0 : Nat × Nat) (S : gS) (y : Nat) (b : Nat → Nat → Nat) (M : gM) (h : gRef S y b M) (i : gInv M) (j k : Int32) (hno : ¬ (gIx (mN M 23) j ∧ gWt 4 k)) : gCt d0 yX9_letter cX9_letter 3 (some .int) 10 1 12 [.ref y, .int j, .int k] S (gAn S y 1 M (some (.int (nI 0)))) gNo := by
  refine gCt_of (lo := [some (.ref y), some (.int j), some (.int k)]) (by decide +kernel) (Nat.le_of_ble_eq_true rfl) (rfl) ?_
  intro Γ hd G F hini
  first | refine g_aload_n G dX9_letter_0 rfl ?_ | refine g_aload_nN G dX9_letter_0 rfl ?_ | refine g_aload_nQ G dX9_letter_0 rfl ?_
  refine g_iconst (v := nI 0) G dX9_letter_1 (by decide) ?_
  refine g_putI G fl_X9_91 pu_10_0 (h.1.kd) (by first | decide | omega) rfl dX9_letter_2 ?_
  have h0 := gRef_th (v := nI 0) h
  obtain ⟨r, q, -⟩ := id h0
  obtain ⟨i6, i8, i11, i17, i23, i2, i5⟩ := i.b
  refine g_iload_n G dX9_letter_5 rfl ?_
  refine g_iconst (v := nI 0) G dX9_letter_6 (by decide) ?_
  first | refine g_aload_n G dX9_letter_7 rfl ?_ | refine g_aload_nN G dX9_letter_7 rfl ?_ | refine g_aload_nQ G dX9_letter_7 rfl ?_
  refine g_getI G fl_X9_182 (r.kd) (by first | decide | omega) rfl (r.n 23 rfl) dX9_letter_8 ?_
  refine g_iconst (v := nI 1) G dX9_letter_11 (by decide) ?_
  refine g_isub G dX9_letter_12 (rfl) ?_
  refine g_callSp G (c_X9_isIn _ _ _ _ _) mt_X9_isIn ms_X9_isIn ml_X9_97 (by decide) (by omega) (by omega) rfl (Nat.le_of_ble_eq_true rfl) dX9_letter_13 ?_
  rw [gIxB_dec0 (by omega)]
  refine g_if_eq (tgt := 37) G dX9_letter_16 (by decide) (fun c_16 => ?_) (fun c_16 => ?_)
  · first | refine g_aload_n G dX9_letter_37 rfl ?_ | refine g_aload_nN G dX9_letter_37 rfl ?_ | refine g_aload_nQ G dX9_letter_37 rfl ?_
    refine g_iconst (v := nI 1) G dX9_letter_38 (by decide) ?_
    refine g_callV (ci := 10) G (c_X9_no _ _ _ _ r.kd) mt_X9_no mi_X9_no ml_X9_113 (r.kd) (by first | decide | omega) rfl (by decide) (by omega) (by omega) rfl (Nat.le_of_ble_eq_true rfl) dX9_letter_39 (fun v_39 S_39 hp_39 => ?_)
    obtain ⟨rfl, rfl⟩ := hp_39
    simp only [Option.toList, List.cons_append, List.nil_append]
    exact g_iret G F (gAn_N 1 h) (by omega) (by omega) dX9_letter_42
  · refine g_iload_n G dX9_letter_19 rfl ?_
    refine g_iconst (v := nI 0) G dX9_letter_20 (by decide) ?_
    refine g_iconst (v := nI 4) G dX9_letter_21 (by decide) ?_
    refine g_callSp G (c_X9_isIn _ _ _ _ _) mt_X9_isIn ms_X9_isIn ml_X9_97 (by decide) (by omega) (by omega) rfl (Nat.le_of_ble_eq_true rfl) dX9_letter_22 ?_
    refine g_if_eq (tgt := 37) G dX9_letter_25 (by decide) (fun c_25 => ?_) (fun c_25 => (absurd ⟨gIxB_y c_16, gIn_y c_25⟩ hno))
    first | refine g_aload_n G dX9_letter_37 rfl ?_ | refine g_aload_nN G dX9_letter_37 rfl ?_ | refine g_aload_nQ G dX9_letter_37 rfl ?_
    refine g_iconst (v := nI 1) G dX9_letter_38 (by decide) ?_
    refine g_callV (ci := 10) G (c_X9_no _ _ _ _ r.kd) mt_X9_no mi_X9_no ml_X9_113 (r.kd) (by first | decide | omega) rfl (by decide) (by omega) (by omega) rfl (Nat.le_of_ble_eq_true rfl) dX9_letter_39 (fun v_39 S_39 hp_39 => ?_)
    obtain ⟨rfl, rfl⟩ := hp_39
    simp only [Option.toList, List.cons_append, List.nil_append]
    exact g_iret G F (gAn_N 1 h) (by omega) (by omega) dX9_letter_42

set_option maxHeartbeats 4000000 in
set_option maxRecDepth 100000 in
theorem c_X9_count (d0 : Nat × Nat) (S : gS) (y : Nat) (b : Nat → Nat → Nat) (M : gM) (h : gRef S y b M) (i : gInv M) (k : Nat) (hk : k ≤ 11) : gCt d0 yX9_count cX9_count 2 (some .int) 10 1 12 [.ref y, .int (nI k)] S (gAn S y 0 M (some (.int (gTellCount M k)))) gNo := by
  refine gCt_of (lo := [some (.ref y), some (.int (nI k))]) (by decide +kernel) (Nat.le_of_ble_eq_true rfl) (rfl) ?_
  intro Γ hd G F hini
  first | refine g_aload_n G dX9_count_0 rfl ?_ | refine g_aload_nN G dX9_count_0 rfl ?_ | refine g_aload_nQ G dX9_count_0 rfl ?_
  refine g_iconst (v := nI 0) G dX9_count_1 (by decide) ?_
  refine g_putI G fl_X9_91 pu_10_0 (h.1.kd) (by first | decide | omega) rfl dX9_count_2 ?_
  have h0 := gRef_th (v := nI 0) h
  obtain ⟨r, q, -⟩ := id h0
  obtain ⟨i6, i8, i11, i17, i23, i2, i5⟩ := i.b
  refine g_iload_n G dX9_count_5 rfl ?_
  refine g_iconst (v := nI 0) G dX9_count_6 (by decide) ?_
  refine g_bipush (v := nI 11) G dX9_count_7 (by decide) ?_
  refine g_callSp G (c_X9_isIn _ _ _ _ _) mt_X9_isIn ms_X9_isIn ml_X9_97 (by decide) (by omega) (by omega) rfl (Nat.le_of_ble_eq_true rfl) dX9_count_9 ?_
  refine g_if_eq (tgt := 23) G dX9_count_12 (by decide) (fun c_12 => (absurd c_12 (gIn_ok hk (by omega)))) (fun c_12 => ?_)
  first | refine g_aload_n G dX9_count_15 rfl ?_ | refine g_aload_nN G dX9_count_15 rfl ?_ | refine g_aload_nQ G dX9_count_15 rfl ?_
  refine g_iload_n G dX9_count_16 rfl ?_
  refine g_callV (ci := 10) G (c_X9_counted _ _ _ _ _ r q i _ (by omega)) mt_X9_counted mi_X9_counted ml_X9_258 (r.kd) (by first | decide | omega) rfl (by decide) (by omega) (by omega) rfl (Nat.le_of_ble_eq_true rfl) dX9_count_17 (fun v_17 S_17 hp_17 => ?_)
  obtain ⟨rfl, hF⟩ := hp_17
  simp only [Option.toList, List.cons_append, List.nil_append]
  refine g_goto (tgt := 28) G dX9_count_20 (by decide) ?_
  exact g_iret G F (by exact gAn_T h hF) (by omega) (by omega) dX9_count_28

set_option maxHeartbeats 4000000 in
set_option maxRecDepth 100000 in
theorem c_X9_count_no (d0 : Nat × Nat) (S : gS) (y : Nat) (b : Nat → Nat → Nat) (M : gM) (h : gRef S y b M) (i : gInv M) (k : Int32) (hno : ¬ gWt 11 k) : gCt d0 yX9_count cX9_count 2 (some .int) 10 1 12 [.ref y, .int k] S (gAn S y 1 M (some (.int (nI 0)))) gNo := by
  refine gCt_of (lo := [some (.ref y), some (.int k)]) (by decide +kernel) (Nat.le_of_ble_eq_true rfl) (rfl) ?_
  intro Γ hd G F hini
  first | refine g_aload_n G dX9_count_0 rfl ?_ | refine g_aload_nN G dX9_count_0 rfl ?_ | refine g_aload_nQ G dX9_count_0 rfl ?_
  refine g_iconst (v := nI 0) G dX9_count_1 (by decide) ?_
  refine g_putI G fl_X9_91 pu_10_0 (h.1.kd) (by first | decide | omega) rfl dX9_count_2 ?_
  have h0 := gRef_th (v := nI 0) h
  obtain ⟨r, q, -⟩ := id h0
  obtain ⟨i6, i8, i11, i17, i23, i2, i5⟩ := i.b
  refine g_iload_n G dX9_count_5 rfl ?_
  refine g_iconst (v := nI 0) G dX9_count_6 (by decide) ?_
  refine g_bipush (v := nI 11) G dX9_count_7 (by decide) ?_
  refine g_callSp G (c_X9_isIn _ _ _ _ _) mt_X9_isIn ms_X9_isIn ml_X9_97 (by decide) (by omega) (by omega) rfl (Nat.le_of_ble_eq_true rfl) dX9_count_9 ?_
  refine g_if_eq (tgt := 23) G dX9_count_12 (by decide) (fun c_12 => ?_) (fun c_12 => (absurd (gIn_y c_12) hno))
  first | refine g_aload_n G dX9_count_23 rfl ?_ | refine g_aload_nN G dX9_count_23 rfl ?_ | refine g_aload_nQ G dX9_count_23 rfl ?_
  refine g_iconst (v := nI 1) G dX9_count_24 (by decide) ?_
  refine g_callV (ci := 10) G (c_X9_no _ _ _ _ r.kd) mt_X9_no mi_X9_no ml_X9_113 (r.kd) (by first | decide | omega) rfl (by decide) (by omega) (by omega) rfl (Nat.le_of_ble_eq_true rfl) dX9_count_25 (fun v_25 S_25 hp_25 => ?_)
  obtain ⟨rfl, rfl⟩ := hp_25
  simp only [Option.toList, List.cons_append, List.nil_append]
  exact g_iret G F (gAn_N 1 h) (by omega) (by omega) dX9_count_28

set_option maxHeartbeats 4000000 in
set_option maxRecDepth 100000 in
theorem c_X9_link (d0 : Nat × Nat) (S : gS) (y : Nat) (b : Nat → Nat → Nat) (M : gM) (h : gRef S y b M) (i : gInv M) (e z k : Nat) (he : e < mN M 17) (hz : z < mN M (200 + e)) (hk : k ≤ 3) : gCt d0 yX9_link cX9_link 4 (some .int) 10 1 12 [.ref y, .int (nI e), .int (nI z), .int (nI k)] S (gAn S y 0 M (some (.int (gTellLink M e z k)))) gNo := by
  refine gCt_of (lo := [some (.ref y), some (.int (nI e)), some (.int (nI z)), some (.int (nI k))]) (by decide +kernel) (Nat.le_of_ble_eq_true rfl) (rfl) ?_
  intro Γ hd G F hini
  first | refine g_aload_n G dX9_link_0 rfl ?_ | refine g_aload_nN G dX9_link_0 rfl ?_ | refine g_aload_nQ G dX9_link_0 rfl ?_
  refine g_iconst (v := nI 0) G dX9_link_1 (by decide) ?_
  refine g_putI G fl_X9_91 pu_10_0 (h.1.kd) (by first | decide | omega) rfl dX9_link_2 ?_
  have h0 := gRef_th (v := nI 0) h
  obtain ⟨r, q, -⟩ := id h0
  obtain ⟨i6, i8, i11, i17, i23, i2, i5⟩ := i.b
  first | refine g_aload_n G dX9_link_5 rfl ?_ | refine g_aload_nN G dX9_link_5 rfl ?_ | refine g_aload_nQ G dX9_link_5 rfl ?_
  refine g_iload_n G dX9_link_6 rfl ?_
  refine g_callVp (ci := 10) G (c_X9_isExhibit _ _ _ _ _ r i _) mt_X9_isExhibit mi_X9_isExhibit ml_X9_228 (r.kd) (by first | decide | omega) rfl (by decide) (by omega) (by omega) rfl (Nat.le_of_ble_eq_true rfl) dX9_link_7 ?_
  refine g_if_eq (tgt := 48) G dX9_link_10 (by decide) (fun c_10 => (absurd c_10 (gIxB_ok he (by omega)))) (fun c_10 => ?_)
  refine g_iload_n G dX9_link_13 rfl ?_
  refine g_iconst (v := nI 0) G dX9_link_14 (by decide) ?_
  first | refine g_aload_n G dX9_link_15 rfl ?_ | refine g_aload_nN G dX9_link_15 rfl ?_ | refine g_aload_nQ G dX9_link_15 rfl ?_
  refine g_getR G fl_X9_55 (r.kd) (by first | decide | omega) rfl (r.Y 21 rfl) dX9_link_16 ?_
  refine g_iload_n G dX9_link_19 rfl ?_
  refine g_iald G (r.A 21 rfl) (by first | decide | omega) (r.lt 21 19 rfl (by omega)) (by omega) (r.k (by omega)) dX9_link_20 ?_
  refine g_iconst (v := nI 1) G dX9_link_21 (by decide) ?_
  refine g_isub G dX9_link_22 (rfl) ?_
  refine g_callSp G (c_X9_isIn _ _ _ _ _) mt_X9_isIn ms_X9_isIn ml_X9_97 (by decide) (by omega) (by omega) rfl (Nat.le_of_ble_eq_true rfl) dX9_link_23 ?_
  rw [gIxB_dec0 (by have := i.e e; omega)]
  refine g_if_eq (tgt := 48) G dX9_link_26 (by decide) (fun c_26 => (absurd c_26 (gIxB_ok hz (by have := i.e e; omega)))) (fun c_26 => ?_)
  refine g_iload_n G dX9_link_29 rfl ?_
  refine g_iconst (v := nI 0) G dX9_link_30 (by decide) ?_
  refine g_iconst (v := nI 3) G dX9_link_31 (by decide) ?_
  refine g_callSp G (c_X9_isIn _ _ _ _ _) mt_X9_isIn ms_X9_isIn ml_X9_97 (by decide) (by omega) (by omega) rfl (Nat.le_of_ble_eq_true rfl) dX9_link_32 ?_
  refine g_if_eq (tgt := 48) G dX9_link_35 (by decide) (fun c_35 => (absurd c_35 (gIn_ok hk (by omega)))) (fun c_35 => ?_)
  first | refine g_aload_n G dX9_link_38 rfl ?_ | refine g_aload_nN G dX9_link_38 rfl ?_ | refine g_aload_nQ G dX9_link_38 rfl ?_
  refine g_iload_n G dX9_link_39 rfl ?_
  refine g_iload_n G dX9_link_40 rfl ?_
  refine g_iload_n G dX9_link_41 rfl ?_
  refine g_callVp (ci := 10) G (c_X9_linkTold _ _ _ _ _ r _ _ _ (by omega) (by have := i.e e; omega) (by omega)) mt_X9_linkTold mi_X9_linkTold ml_X9_235 (r.kd) (by first | decide | omega) rfl (by decide) (by omega) (by omega) rfl (Nat.le_of_ble_eq_true rfl) dX9_link_42 ?_
  refine g_goto (tgt := 53) G dX9_link_45 (by decide) ?_
  exact g_iret G F (gAn_0 h) (by omega) (by omega) dX9_link_53

set_option maxHeartbeats 4000000 in
set_option maxRecDepth 100000 in
theorem c_X9_link_no (d0 : Nat × Nat) (S : gS) (y : Nat) (b : Nat → Nat → Nat) (M : gM) (h : gRef S y b M) (i : gInv M) (j l k : Int32) (hno : ¬ (gIx (mN M 17) j ∧ (∀ e, e < mN M 17 → j = nI e → gIx (mN M (200 + e)) l) ∧ gWt 3 k)) : gCt d0 yX9_link cX9_link 4 (some .int) 10 1 12 [.ref y, .int j, .int l, .int k] S (gAn S y 1 M (some (.int (nI 0)))) gNo := by
  refine gCt_of (lo := [some (.ref y), some (.int j), some (.int l), some (.int k)]) (by decide +kernel) (Nat.le_of_ble_eq_true rfl) (rfl) ?_
  intro Γ hd G F hini
  first | refine g_aload_n G dX9_link_0 rfl ?_ | refine g_aload_nN G dX9_link_0 rfl ?_ | refine g_aload_nQ G dX9_link_0 rfl ?_
  refine g_iconst (v := nI 0) G dX9_link_1 (by decide) ?_
  refine g_putI G fl_X9_91 pu_10_0 (h.1.kd) (by first | decide | omega) rfl dX9_link_2 ?_
  have h0 := gRef_th (v := nI 0) h
  obtain ⟨r, q, -⟩ := id h0
  obtain ⟨i6, i8, i11, i17, i23, i2, i5⟩ := i.b
  first | refine g_aload_n G dX9_link_5 rfl ?_ | refine g_aload_nN G dX9_link_5 rfl ?_ | refine g_aload_nQ G dX9_link_5 rfl ?_
  refine g_iload_n G dX9_link_6 rfl ?_
  refine g_callVp (ci := 10) G (c_X9_isExhibit _ _ _ _ _ r i _) mt_X9_isExhibit mi_X9_isExhibit ml_X9_228 (r.kd) (by first | decide | omega) rfl (by decide) (by omega) (by omega) rfl (Nat.le_of_ble_eq_true rfl) dX9_link_7 ?_
  refine g_if_eq (tgt := 48) G dX9_link_10 (by decide) (fun c_10 => ?_) (fun c_10 => ?_)
  · first | refine g_aload_n G dX9_link_48 rfl ?_ | refine g_aload_nN G dX9_link_48 rfl ?_ | refine g_aload_nQ G dX9_link_48 rfl ?_
    refine g_iconst (v := nI 1) G dX9_link_49 (by decide) ?_
    refine g_callV (ci := 10) G (c_X9_no _ _ _ _ r.kd) mt_X9_no mi_X9_no ml_X9_113 (r.kd) (by first | decide | omega) rfl (by decide) (by omega) (by omega) rfl (Nat.le_of_ble_eq_true rfl) dX9_link_50 (fun v_50 S_50 hp_50 => ?_)
    obtain ⟨rfl, rfl⟩ := hp_50
    simp only [Option.toList, List.cons_append, List.nil_append]
    exact g_iret G F (gAn_N 1 h) (by omega) (by omega) dX9_link_53
  · obtain ⟨e, he, rfl⟩ := gIx_of (gIxB_y c_10) (by omega)
    have ie := i.e e
    refine g_iload_n G dX9_link_13 rfl ?_
    refine g_iconst (v := nI 0) G dX9_link_14 (by decide) ?_
    first | refine g_aload_n G dX9_link_15 rfl ?_ | refine g_aload_nN G dX9_link_15 rfl ?_ | refine g_aload_nQ G dX9_link_15 rfl ?_
    refine g_getR G fl_X9_55 (r.kd) (by first | decide | omega) rfl (r.Y 21 rfl) dX9_link_16 ?_
    refine g_iload_n G dX9_link_19 rfl ?_
    refine g_iald G (r.A 21 rfl) (by first | decide | omega) (r.lt 21 19 rfl (by omega)) (by omega) (r.k (by omega)) dX9_link_20 ?_
    refine g_iconst (v := nI 1) G dX9_link_21 (by decide) ?_
    refine g_isub G dX9_link_22 (rfl) ?_
    refine g_callSp G (c_X9_isIn _ _ _ _ _) mt_X9_isIn ms_X9_isIn ml_X9_97 (by decide) (by omega) (by omega) rfl (Nat.le_of_ble_eq_true rfl) dX9_link_23 ?_
    rw [gIxB_dec0 (by omega)]
    refine g_if_eq (tgt := 48) G dX9_link_26 (by decide) (fun c_26 => ?_) (fun c_26 => ?_)
    · first | refine g_aload_n G dX9_link_48 rfl ?_ | refine g_aload_nN G dX9_link_48 rfl ?_ | refine g_aload_nQ G dX9_link_48 rfl ?_
      refine g_iconst (v := nI 1) G dX9_link_49 (by decide) ?_
      refine g_callV (ci := 10) G (c_X9_no _ _ _ _ r.kd) mt_X9_no mi_X9_no ml_X9_113 (r.kd) (by first | decide | omega) rfl (by decide) (by omega) (by omega) rfl (Nat.le_of_ble_eq_true rfl) dX9_link_50 (fun v_50 S_50 hp_50 => ?_)
      obtain ⟨rfl, rfl⟩ := hp_50
      simp only [Option.toList, List.cons_append, List.nil_append]
      exact g_iret G F (gAn_N 1 h) (by omega) (by omega) dX9_link_53
    · refine g_iload_n G dX9_link_29 rfl ?_
      refine g_iconst (v := nI 0) G dX9_link_30 (by decide) ?_
      refine g_iconst (v := nI 3) G dX9_link_31 (by decide) ?_
      refine g_callSp G (c_X9_isIn _ _ _ _ _) mt_X9_isIn ms_X9_isIn ml_X9_97 (by decide) (by omega) (by omega) rfl (Nat.le_of_ble_eq_true rfl) dX9_link_32 ?_
      refine g_if_eq (tgt := 48) G dX9_link_35 (by decide) (fun c_35 => ?_) (fun c_35 => (absurd ⟨gIxB_y c_10, fun e9 he9 z9 => by rw [← (nI_eq (by omega) (by omega)).mp z9]; exact gIxB_y c_26, gIn_y c_35⟩ hno))
      first | refine g_aload_n G dX9_link_48 rfl ?_ | refine g_aload_nN G dX9_link_48 rfl ?_ | refine g_aload_nQ G dX9_link_48 rfl ?_
      refine g_iconst (v := nI 1) G dX9_link_49 (by decide) ?_
      refine g_callV (ci := 10) G (c_X9_no _ _ _ _ r.kd) mt_X9_no mi_X9_no ml_X9_113 (r.kd) (by first | decide | omega) rfl (by decide) (by omega) (by omega) rfl (Nat.le_of_ble_eq_true rfl) dX9_link_50 (fun v_50 S_50 hp_50 => ?_)
      obtain ⟨rfl, rfl⟩ := hp_50
      simp only [Option.toList, List.cons_append, List.nil_append]
      exact g_iret G F (gAn_N 1 h) (by omega) (by omega) dX9_link_53

theorem gIsF_n {p : Nat → Bool} {n : Nat} (h : ∀ k, k < n → p k = false) : gIsF p n (-1) := Or.inl ⟨rfl, h⟩
theorem gIsF_y {p : Nat → Bool} {n k : Nat} (h1 : k < n) (h2 : p k = true) (h : ∀ j, j < k → p j = false) : gIsF p n (nI k) := Or.inr ⟨k, h1, rfl, h2, h⟩
theorem gFl_s {p : Nat → Bool} {t : Nat} (h : ∀ k, k < t → p k = false) (e : p t = false) : ∀ k, k < t + 1 → p k = false := fun k hk => (Nat.lt_or_ge k t).elim (h k) (fun z => by rw [show k = t by omega]; exact e)

set_option maxHeartbeats 4000000 in
set_option maxRecDepth 100000 in
theorem c_X9_byteAt (d0 : Nat × Nat) (S : gS) (y : Nat) (b : Nat → Nat → Nat) (M : gM) (h : gRef S y b M) (i : gInv M) (k : Nat) (hk : k < mN M 5) : gCt d0 yX9_byteAt cX9_byteAt 2 (some .int) 10 1 12 [.ref y, .int (nI k)] S (gAn S y 0 M (some (.int (mA M 4 k)))) gNo := by
  refine gCt_of (lo := [some (.ref y), some (.int (nI k))]) (by decide +kernel) (Nat.le_of_ble_eq_true rfl) (rfl) ?_
  intro Γ hd G F hini
  first | refine g_aload_n G dX9_byteAt_0 rfl ?_ | refine g_aload_nN G dX9_byteAt_0 rfl ?_ | refine g_aload_nQ G dX9_byteAt_0 rfl ?_
  refine g_iconst (v := nI 0) G dX9_byteAt_1 (by decide) ?_
  refine g_putI G fl_X9_91 pu_10_0 (h.1.kd) (by first | decide | omega) rfl dX9_byteAt_2 ?_
  have h0 := gRef_th (v := nI 0) h
  obtain ⟨r, q, -⟩ := id h0
  obtain ⟨i6, i8, i11, i17, i23, i2, i5⟩ := i.b
  refine g_iload_n G dX9_byteAt_5 rfl ?_
  refine g_iconst (v := nI 0) G dX9_byteAt_6 (by decide) ?_
  first | refine g_aload_n G dX9_byteAt_7 rfl ?_ | refine g_aload_nN G dX9_byteAt_7 rfl ?_ | refine g_aload_nQ G dX9_byteAt_7 rfl ?_
  refine g_getI G fl_X9_210 (r.kd) (by first | decide | omega) rfl (r.n 5 rfl) dX9_byteAt_8 ?_
  refine g_iconst (v := nI 1) G dX9_byteAt_11 (by decide) ?_
  refine g_isub G dX9_byteAt_12 (rfl) ?_
  refine g_callSp G (c_X9_isIn _ _ _ _ _) mt_X9_isIn ms_X9_isIn ml_X9_97 (by decide) (by omega) (by omega) rfl (Nat.le_of_ble_eq_true rfl) dX9_byteAt_13 ?_
  rw [gIxB_dec0 (by omega)]
  refine g_if_eq (tgt := 28) G dX9_byteAt_16 (by decide) (fun c_16 => (absurd c_16 (gIxB_ok hk (by omega)))) (fun c_16 => ?_)
  first | refine g_aload_n G dX9_byteAt_19 rfl ?_ | refine g_aload_nN G dX9_byteAt_19 rfl ?_ | refine g_aload_nQ G dX9_byteAt_19 rfl ?_
  refine g_getR G fl_X9_17 (r.kd) (by first | decide | omega) rfl (r.Y 4 rfl) dX9_byteAt_20 ?_
  refine g_iload_n G dX9_byteAt_23 rfl ?_
  refine g_iald G (r.A 4 rfl) (by first | decide | omega) (r.lt 4 2499 rfl (by omega)) (by omega) (r.p (by omega)) dX9_byteAt_24 ?_
  refine g_goto (tgt := 33) G dX9_byteAt_25 (by decide) ?_
  exact g_iret G F (gAn_0 h) (by omega) (by omega) dX9_byteAt_33

set_option maxHeartbeats 4000000 in
set_option maxRecDepth 100000 in
theorem c_X9_byteAt_no (d0 : Nat × Nat) (S : gS) (y : Nat) (b : Nat → Nat → Nat) (M : gM) (h : gRef S y b M) (i : gInv M) (k : Int32) (hno : ¬ gIx (mN M 5) k) : gCt d0 yX9_byteAt cX9_byteAt 2 (some .int) 10 1 12 [.ref y, .int k] S (gAn S y 1 M (some (.int (nI 0)))) gNo := by
  refine gCt_of (lo := [some (.ref y), some (.int k)]) (by decide +kernel) (Nat.le_of_ble_eq_true rfl) (rfl) ?_
  intro Γ hd G F hini
  first | refine g_aload_n G dX9_byteAt_0 rfl ?_ | refine g_aload_nN G dX9_byteAt_0 rfl ?_ | refine g_aload_nQ G dX9_byteAt_0 rfl ?_
  refine g_iconst (v := nI 0) G dX9_byteAt_1 (by decide) ?_
  refine g_putI G fl_X9_91 pu_10_0 (h.1.kd) (by first | decide | omega) rfl dX9_byteAt_2 ?_
  have h0 := gRef_th (v := nI 0) h
  obtain ⟨r, q, -⟩ := id h0
  obtain ⟨i6, i8, i11, i17, i23, i2, i5⟩ := i.b
  refine g_iload_n G dX9_byteAt_5 rfl ?_
  refine g_iconst (v := nI 0) G dX9_byteAt_6 (by decide) ?_
  first | refine g_aload_n G dX9_byteAt_7 rfl ?_ | refine g_aload_nN G dX9_byteAt_7 rfl ?_ | refine g_aload_nQ G dX9_byteAt_7 rfl ?_
  refine g_getI G fl_X9_210 (r.kd) (by first | decide | omega) rfl (r.n 5 rfl) dX9_byteAt_8 ?_
  refine g_iconst (v := nI 1) G dX9_byteAt_11 (by decide) ?_
  refine g_isub G dX9_byteAt_12 (rfl) ?_
  refine g_callSp G (c_X9_isIn _ _ _ _ _) mt_X9_isIn ms_X9_isIn ml_X9_97 (by decide) (by omega) (by omega) rfl (Nat.le_of_ble_eq_true rfl) dX9_byteAt_13 ?_
  rw [gIxB_dec0 (by omega)]
  refine g_if_eq (tgt := 28) G dX9_byteAt_16 (by decide) (fun c_16 => ?_) (fun c_16 => (absurd (gIxB_y c_16) hno))
  first | refine g_aload_n G dX9_byteAt_28 rfl ?_ | refine g_aload_nN G dX9_byteAt_28 rfl ?_ | refine g_aload_nQ G dX9_byteAt_28 rfl ?_
  refine g_iconst (v := nI 1) G dX9_byteAt_29 (by decide) ?_
  refine g_callV (ci := 10) G (c_X9_no _ _ _ _ r.kd) mt_X9_no mi_X9_no ml_X9_113 (r.kd) (by first | decide | omega) rfl (by decide) (by omega) (by omega) rfl (Nat.le_of_ble_eq_true rfl) dX9_byteAt_30 (fun v_30 S_30 hp_30 => ?_)
  obtain ⟨rfl, rfl⟩ := hp_30
  simp only [Option.toList, List.cons_append, List.nil_append]
  exact g_iret G F (gAn_N 1 h) (by omega) (by omega) dX9_byteAt_33

set_option maxHeartbeats 4000000 in
set_option maxRecDepth 100000 in
theorem c_X9_hidden (d0 : Nat × Nat) (S : gS) (y : Nat) (b : Nat → Nat → Nat) (M : gM) (h : gRef S y b M) (i : gInv M) (p d : Nat) (hp : p < mN M 8) (hd2 : d < mN M 11) : gCt d0 yX9_hidden cX9_hidden 3 (some .int) 10 1 12 [.ref y, .int (nI p), .int (nI d)] S (gAn S y 0 M (some (.int (nI (gHid M p d))))) gNo := by
  refine gCt_of (lo := [some (.ref y), some (.int (nI p)), some (.int (nI d))]) (by decide +kernel) (Nat.le_of_ble_eq_true rfl) (rfl) ?_
  intro Γ hd G F hini
  first | refine g_aload_n G dX9_hidden_0 rfl ?_ | refine g_aload_nN G dX9_hidden_0 rfl ?_ | refine g_aload_nQ G dX9_hidden_0 rfl ?_
  refine g_iconst (v := nI 0) G dX9_hidden_1 (by decide) ?_
  refine g_putI G fl_X9_91 pu_10_0 (h.1.kd) (by first | decide | omega) rfl dX9_hidden_2 ?_
  have h0 := gRef_th (v := nI 0) h
  obtain ⟨r, q, -⟩ := id h0
  obtain ⟨i6, i8, i11, i17, i23, i2, i5⟩ := i.b
  first | refine g_aload_n G dX9_hidden_5 rfl ?_ | refine g_aload_nN G dX9_hidden_5 rfl ?_ | refine g_aload_nQ G dX9_hidden_5 rfl ?_
  refine g_iload_n G dX9_hidden_6 rfl ?_
  refine g_iload_n G dX9_hidden_7 rfl ?_
  refine g_callVp (ci := 10) G (c_X9_isPair _ _ _ _ _ r i _ _) mt_X9_isPair mi_X9_isPair ml_X9_207 (r.kd) (by first | decide | omega) rfl (by decide) (by omega) (by omega) rfl (Nat.le_of_ble_eq_true rfl) dX9_hidden_8 ?_
  refine g_if_eq (tgt := 23) G dX9_hidden_11 (by decide) (fun c_11 => (absurd c_11 (gPair_ok hp hd2 (by omega) (by omega)))) (fun c_11 => ?_)
  first | refine g_aload_n G dX9_hidden_14 rfl ?_ | refine g_aload_nN G dX9_hidden_14 rfl ?_ | refine g_aload_nQ G dX9_hidden_14 rfl ?_
  refine g_iload_n G dX9_hidden_15 rfl ?_
  refine g_iload_n G dX9_hidden_16 rfl ?_
  refine g_callVp (ci := 10) G (c_X9_hiddenOf _ _ _ _ _ r q i _ _ (by omega) (by omega)) mt_X9_hiddenOf mi_X9_hiddenOf ml_X9_216 (r.kd) (by first | decide | omega) rfl (by decide) (by omega) (by omega) rfl (Nat.le_of_ble_eq_true rfl) dX9_hidden_17 ?_
  refine g_goto (tgt := 28) G dX9_hidden_20 (by decide) ?_
  exact g_iret G F (gAn_0 h) (by omega) (by omega) dX9_hidden_28

set_option maxHeartbeats 4000000 in
set_option maxRecDepth 100000 in
theorem c_X9_hidden_no (d0 : Nat × Nat) (S : gS) (y : Nat) (b : Nat → Nat → Nat) (M : gM) (h : gRef S y b M) (i : gInv M) (p d : Int32) (hno : ¬ (gIx (mN M 8) p ∧ gIx (mN M 11) d)) : gCt d0 yX9_hidden cX9_hidden 3 (some .int) 10 1 12 [.ref y, .int p, .int d] S (gAn S y 1 M (some (.int (nI 0)))) gNo := by
  refine gCt_of (lo := [some (.ref y), some (.int p), some (.int d)]) (by decide +kernel) (Nat.le_of_ble_eq_true rfl) (rfl) ?_
  intro Γ hd G F hini
  first | refine g_aload_n G dX9_hidden_0 rfl ?_ | refine g_aload_nN G dX9_hidden_0 rfl ?_ | refine g_aload_nQ G dX9_hidden_0 rfl ?_
  refine g_iconst (v := nI 0) G dX9_hidden_1 (by decide) ?_
  refine g_putI G fl_X9_91 pu_10_0 (h.1.kd) (by first | decide | omega) rfl dX9_hidden_2 ?_
  have h0 := gRef_th (v := nI 0) h
  obtain ⟨r, q, -⟩ := id h0
  obtain ⟨i6, i8, i11, i17, i23, i2, i5⟩ := i.b
  first | refine g_aload_n G dX9_hidden_5 rfl ?_ | refine g_aload_nN G dX9_hidden_5 rfl ?_ | refine g_aload_nQ G dX9_hidden_5 rfl ?_
  refine g_iload_n G dX9_hidden_6 rfl ?_
  refine g_iload_n G dX9_hidden_7 rfl ?_
  refine g_callVp (ci := 10) G (c_X9_isPair _ _ _ _ _ r i _ _) mt_X9_isPair mi_X9_isPair ml_X9_207 (r.kd) (by first | decide | omega) rfl (by decide) (by omega) (by omega) rfl (Nat.le_of_ble_eq_true rfl) dX9_hidden_8 ?_
  refine g_if_eq (tgt := 23) G dX9_hidden_11 (by decide) (fun c_11 => ?_) (fun c_11 => (absurd (gPair_y c_11) hno))
  first | refine g_aload_n G dX9_hidden_23 rfl ?_ | refine g_aload_nN G dX9_hidden_23 rfl ?_ | refine g_aload_nQ G dX9_hidden_23 rfl ?_
  refine g_iconst (v := nI 1) G dX9_hidden_24 (by decide) ?_
  refine g_callV (ci := 10) G (c_X9_no _ _ _ _ r.kd) mt_X9_no mi_X9_no ml_X9_113 (r.kd) (by first | decide | omega) rfl (by decide) (by omega) (by omega) rfl (Nat.le_of_ble_eq_true rfl) dX9_hidden_25 (fun v_25 S_25 hp_25 => ?_)
  obtain ⟨rfl, rfl⟩ := hp_25
  simp only [Option.toList, List.cons_append, List.nil_append]
  exact g_iret G F (gAn_N 1 h) (by omega) (by omega) dX9_hidden_28

set_option maxHeartbeats 4000000 in
set_option maxRecDepth 100000 in
theorem c_X9_differs (d0 : Nat × Nat) (S : gS) (y : Nat) (b : Nat → Nat → Nat) (M : gM) (h : gRef S y b M) (i : gInv M) (p e d : Nat) (hp : p < mN M 8) (he : e < mN M 8) (hd2 : d < mN M 11) : gCt d0 yX9_differs cX9_differs 5 (some .int) 10 1 12 [.ref y, .int (nI p), .int (nI e), .int (nI d)] S (fun v' S' => ∃ v, gIsF (gDifP M p e d) (mN M (100 + d)) v ∧ gAn S y 0 M (some (.int v)) v' S') gNo := by
  refine gCt_of (lo := [some (.ref y), some (.int (nI p)), some (.int (nI e)), some (.int (nI d)), none]) (by decide +kernel) (Nat.le_of_ble_eq_true rfl) (rfl) ?_
  intro Γ hd G F hini
  first | refine g_aload_n G dX9_differs_0 rfl ?_ | refine g_aload_nN G dX9_differs_0 rfl ?_ | refine g_aload_nQ G dX9_differs_0 rfl ?_
  refine g_iconst (v := nI 0) G dX9_differs_1 (by decide) ?_
  refine g_putI G fl_X9_91 pu_10_0 (h.1.kd) (by first | decide | omega) rfl dX9_differs_2 ?_
  have h0 := gRef_th (v := nI 0) h
  obtain ⟨r, q, -⟩ := id h0
  obtain ⟨i6, i8, i11, i17, i23, i2, i5⟩ := i.b
  first | refine g_aload_n G dX9_differs_5 rfl ?_ | refine g_aload_nN G dX9_differs_5 rfl ?_ | refine g_aload_nQ G dX9_differs_5 rfl ?_
  refine g_iload_n G dX9_differs_6 rfl ?_
  refine g_iload_n G dX9_differs_7 rfl ?_
  refine g_callVp (ci := 10) G (c_X9_isPair _ _ _ _ _ r i _ _) mt_X9_isPair mi_X9_isPair ml_X9_207 (r.kd) (by first | decide | omega) rfl (by decide) (by omega) (by omega) rfl (Nat.le_of_ble_eq_true rfl) dX9_differs_8 ?_
  refine g_if_eq (tgt := 22) G dX9_differs_11 (by decide) (fun c_11 => (absurd c_11 (gPair_ok hp hd2 (by omega) (by omega)))) (fun c_11 => ?_)
  first | refine g_aload_n G dX9_differs_14 rfl ?_ | refine g_aload_nN G dX9_differs_14 rfl ?_ | refine g_aload_nQ G dX9_differs_14 rfl ?_
  refine g_iload_n G dX9_differs_15 rfl ?_
  refine g_callVp (ci := 10) G (c_X9_isPerson _ _ _ _ _ r i _) mt_X9_isPerson mi_X9_isPerson ml_X9_176 (r.kd) (by first | decide | omega) rfl (by decide) (by omega) (by omega) rfl (Nat.le_of_ble_eq_true rfl) dX9_differs_16 ?_
  refine g_if_ne (tgt := 28) G dX9_differs_19 (by decide) (fun c_19 => ?_) (fun c_19 => (absurd c_19 (gIxB_ok he (by omega))))
  refine g_iconst (v := nI 0) G dX9_differs_28 (by decide) ?_
  refine g_istore G dX9_differs_29 (gSt_4 (by first | rfl | exact g_c1_rf)) ?_
  have it := i.t hd2
  have loop31 : ∀ f2 t : Nat, t ≤ (mN M (100 + d)) → (mN M (100 + d)) + 1 ≤ t + f2 → (∀ k, k < t → gDifP M p e d k = false) → gW Γ 31 [some (.ref y), some (.int (nI p)), some (.int (nI e)), some (.int (nI d)), some (.int (nI (t)))] [] (sX S 11 0 y (nI 0)) 0 0 := by
    intro f2
    induction f2 with
    | zero => intro t  q1 q2; omega
    | succ f2 ih2 =>
      intro t  ht2 hf2  hv2
      refine g_iload G dX9_differs_31 rfl ?_
      first | refine g_aload_n G dX9_differs_33 rfl ?_ | refine g_aload_nN G dX9_differs_33 rfl ?_ | refine g_aload_nQ G dX9_differs_33 rfl ?_
      refine g_getR G fl_X9_33 (r.kd) (by first | decide | omega) rfl (r.RY 13 (by decide)) dX9_differs_34 ?_
      refine g_iload_n G dX9_differs_37 rfl ?_
      refine g_aald G (r.RA 13 (by decide)) (by first | decide | omega) (by rw [r.RL 13 (by decide)]; omega) (by omega) (r.RR 13 (by decide) (by omega)) dX9_differs_38 ?_
      refine g_alen G (r.TK 13 (by decide) (by omega)) (by first | decide | omega) (r.TL 13 (by decide) (by omega)) dX9_differs_39 ?_
      refine g_icmp_ge (tgt := 71) G dX9_differs_40 (by decide) (fun c_40 => ?_) (fun c_40 => ?_)
      · have et : t = (mN M (100 + d)) := by have := (nI_leI (by omega) (by omega)).mp c_40; omega
        subst et
        refine g_iconst (v := (-1)) G dX9_differs_71 (by decide) ?_
        exact g_iret G F (⟨_, gIsF_n hv2, gAn_0 h⟩) (by omega) (by omega) dX9_differs_72
      · have hlt2 : t < (mN M (100 + d)) := by have z : ¬ (mN M (100 + d)) ≤ t := fun z => c_40 ((nI_leI (by omega) (by omega)).mpr z); omega
        first | refine g_aload_n G dX9_differs_43 rfl ?_ | refine g_aload_nN G dX9_differs_43 rfl ?_ | refine g_aload_nQ G dX9_differs_43 rfl ?_
        refine g_iload_n G dX9_differs_44 rfl ?_
        refine g_iload_n G dX9_differs_45 rfl ?_
        refine g_iload G dX9_differs_46 rfl ?_
        refine g_callVp (ci := 10) G (c_X9_seenBy _ _ _ _ _ r q i _ _ (by omega) (by omega) _ (by omega)) mt_X9_seenBy mi_X9_seenBy ml_X9_213 (r.kd) (by first | decide | omega) rfl (by decide) (by omega) (by omega) rfl (Nat.le_of_ble_eq_true rfl) dX9_differs_48 ?_
        first | refine g_aload_n G dX9_differs_51 rfl ?_ | refine g_aload_nN G dX9_differs_51 rfl ?_ | refine g_aload_nQ G dX9_differs_51 rfl ?_
        refine g_iload_n G dX9_differs_52 rfl ?_
        refine g_iload_n G dX9_differs_53 rfl ?_
        refine g_iload G dX9_differs_54 rfl ?_
        refine g_callVp (ci := 10) G (c_X9_seenBy _ _ _ _ _ r q i _ _ (by omega) (by omega) _ (by omega)) mt_X9_seenBy mi_X9_seenBy ml_X9_213 (r.kd) (by first | decide | omega) rfl (by decide) (by omega) (by omega) rfl (Nat.le_of_ble_eq_true rfl) dX9_differs_56 ?_
        refine g_icmp_eq (tgt := 65) G dX9_differs_59 (by decide) (fun c_59 => ?_) (fun c_59 => ?_)
        · have e9 : gDifP M p e d t = false := decide_eq_false (fun z => z c_59)
          refine g_iinc (v := _) G dX9_differs_65 rfl (by first | exact nI_1 _ | rfl) (gSt_4 (by first | rfl | exact g_c1_rf)) ?_
          refine g_goto (tgt := 31) G dX9_differs_68 (by decide) ?_
          exact ih2 (t + 1) (by omega) (by omega) (gFl_s hv2 e9)
        · have e9 : gDifP M p e d t = true := decide_eq_true c_59
          refine g_iload G dX9_differs_62 rfl ?_
          exact g_iret G F (⟨_, gIsF_y hlt2 e9 hv2, gAn_0 h⟩) (by omega) (by omega) dX9_differs_64
  exact loop31 ((mN M (100 + d)) + 1) 0 (by omega) (by omega) (fun k hk => by omega)

set_option maxHeartbeats 4000000 in
set_option maxRecDepth 100000 in
theorem c_X9_differs_no (d0 : Nat × Nat) (S : gS) (y : Nat) (b : Nat → Nat → Nat) (M : gM) (h : gRef S y b M) (i : gInv M) (p e d : Int32) (hno : ¬ (gIx (mN M 8) p ∧ gIx (mN M 8) e ∧ gIx (mN M 11) d)) : gCt d0 yX9_differs cX9_differs 5 (some .int) 10 1 12 [.ref y, .int p, .int e, .int d] S (gAn S y 1 M (some (.int (nI 0)))) gNo := by
  refine gCt_of (lo := [some (.ref y), some (.int p), some (.int e), some (.int d), none]) (by decide +kernel) (Nat.le_of_ble_eq_true rfl) (rfl) ?_
  intro Γ hd G F hini
  first | refine g_aload_n G dX9_differs_0 rfl ?_ | refine g_aload_nN G dX9_differs_0 rfl ?_ | refine g_aload_nQ G dX9_differs_0 rfl ?_
  refine g_iconst (v := nI 0) G dX9_differs_1 (by decide) ?_
  refine g_putI G fl_X9_91 pu_10_0 (h.1.kd) (by first | decide | omega) rfl dX9_differs_2 ?_
  have h0 := gRef_th (v := nI 0) h
  obtain ⟨r, q, -⟩ := id h0
  obtain ⟨i6, i8, i11, i17, i23, i2, i5⟩ := i.b
  first | refine g_aload_n G dX9_differs_5 rfl ?_ | refine g_aload_nN G dX9_differs_5 rfl ?_ | refine g_aload_nQ G dX9_differs_5 rfl ?_
  refine g_iload_n G dX9_differs_6 rfl ?_
  refine g_iload_n G dX9_differs_7 rfl ?_
  refine g_callVp (ci := 10) G (c_X9_isPair _ _ _ _ _ r i _ _) mt_X9_isPair mi_X9_isPair ml_X9_207 (r.kd) (by first | decide | omega) rfl (by decide) (by omega) (by omega) rfl (Nat.le_of_ble_eq_true rfl) dX9_differs_8 ?_
  refine g_if_eq (tgt := 22) G dX9_differs_11 (by decide) (fun c_11 => ?_) (fun c_11 => ?_)
  · first | refine g_aload_n G dX9_differs_22 rfl ?_ | refine g_aload_nN G dX9_differs_22 rfl ?_ | refine g_aload_nQ G dX9_differs_22 rfl ?_
    refine g_iconst (v := nI 1) G dX9_differs_23 (by decide) ?_
    refine g_callV (ci := 10) G (c_X9_no _ _ _ _ r.kd) mt_X9_no mi_X9_no ml_X9_113 (r.kd) (by first | decide | omega) rfl (by decide) (by omega) (by omega) rfl (Nat.le_of_ble_eq_true rfl) dX9_differs_24 (fun v_24 S_24 hp_24 => ?_)
    obtain ⟨rfl, rfl⟩ := hp_24
    simp only [Option.toList, List.cons_append, List.nil_append]
    exact g_iret G F (gAn_N 1 h) (by omega) (by omega) dX9_differs_27
  · first | refine g_aload_n G dX9_differs_14 rfl ?_ | refine g_aload_nN G dX9_differs_14 rfl ?_ | refine g_aload_nQ G dX9_differs_14 rfl ?_
    refine g_iload_n G dX9_differs_15 rfl ?_
    refine g_callVp (ci := 10) G (c_X9_isPerson _ _ _ _ _ r i _) mt_X9_isPerson mi_X9_isPerson ml_X9_176 (r.kd) (by first | decide | omega) rfl (by decide) (by omega) (by omega) rfl (Nat.le_of_ble_eq_true rfl) dX9_differs_16 ?_
    refine g_if_ne (tgt := 28) G dX9_differs_19 (by decide) (fun c_19 => (absurd ⟨(gPair_y c_11).1, gIxB_y c_19, (gPair_y c_11).2⟩ hno)) (fun c_19 => ?_)
    first | refine g_aload_n G dX9_differs_22 rfl ?_ | refine g_aload_nN G dX9_differs_22 rfl ?_ | refine g_aload_nQ G dX9_differs_22 rfl ?_
    refine g_iconst (v := nI 1) G dX9_differs_23 (by decide) ?_
    refine g_callV (ci := 10) G (c_X9_no _ _ _ _ r.kd) mt_X9_no mi_X9_no ml_X9_113 (r.kd) (by first | decide | omega) rfl (by decide) (by omega) (by omega) rfl (Nat.le_of_ble_eq_true rfl) dX9_differs_24 (fun v_24 S_24 hp_24 => ?_)
    obtain ⟨rfl, rfl⟩ := hp_24
    simp only [Option.toList, List.cons_append, List.nil_append]
    exact g_iret G F (gAn_N 1 h) (by omega) (by omega) dX9_differs_27

set_option maxHeartbeats 4000000 in
set_option maxRecDepth 100000 in
theorem c_X9_find (d0 : Nat × Nat) (S : gS) (y : Nat) (b : Nat → Nat → Nat) (M : gM) (h : gRef S y b M) (i : gInv M) (p d : Nat) (hp : p < mN M 8) (hd2 : d < mN M 11) : gCt d0 yX9_find cX9_find 5 (some .int) 10 1 12 [.ref y, .int (nI p), .int (nI d)] S (fun v' S' => ∃ v, (((mN M 2 = 0 ∨ gIntoOf M p (mC M d) = -1) ∧ v = -1) ∨ (¬ mN M 2 = 0 ∧ ¬ gIntoOf M p (mC M d) = -1 ∧ gIsF (gFndP M d (gIntoOf M p (mC M d))) (mN M (100 + d) + 1 - mN M 2) v)) ∧ gAn S y 0 M (some (.int v)) v' S') gNo := by
  refine gCt_of (lo := [some (.ref y), some (.int (nI p)), some (.int (nI d)), none, none]) (by decide +kernel) (Nat.le_of_ble_eq_true rfl) (rfl) ?_
  intro Γ hd G F hini
  have i6 := i.b.1
  obtain ⟨kc, kc1, kc2⟩ := i.c hd2
  have ec : mC M d = kc := by rw [mC, kc2, nI_clamp (by omega)]
  have hs := i.2.2.2.1.1 kc kc1
  have it := i.t hd2
  first | refine g_aload_n G dX9_find_0 rfl ?_ | refine g_aload_nN G dX9_find_0 rfl ?_ | refine g_aload_nQ G dX9_find_0 rfl ?_
  refine g_iconst (v := nI 0) G dX9_find_1 (by decide) ?_
  refine g_putI G fl_X9_91 pu_10_0 (h.1.kd) (by first | decide | omega) rfl dX9_find_2 ?_
  have h0 := gRef_th (v := nI 0) h
  obtain ⟨r, q, -⟩ := id h0
  obtain ⟨i6, i8, i11, i17, i23, i2, i5⟩ := i.b
  first | refine g_aload_n G dX9_find_5 rfl ?_ | refine g_aload_nN G dX9_find_5 rfl ?_ | refine g_aload_nQ G dX9_find_5 rfl ?_
  refine g_iload_n G dX9_find_6 rfl ?_
  refine g_iload_n G dX9_find_7 rfl ?_
  refine g_callVp (ci := 10) G (c_X9_isPair _ _ _ _ _ r i _ _) mt_X9_isPair mi_X9_isPair ml_X9_207 (r.kd) (by first | decide | omega) rfl (by decide) (by omega) (by omega) rfl (Nat.le_of_ble_eq_true rfl) dX9_find_8 ?_
  refine g_if_ne (tgt := 20) G dX9_find_11 (by decide) (fun c_11 => ?_) (fun c_11 => (absurd c_11 (gPair_ok hp hd2 (by omega) (by omega))))
  first | refine g_aload_n G dX9_find_20 rfl ?_ | refine g_aload_nN G dX9_find_20 rfl ?_ | refine g_aload_nQ G dX9_find_20 rfl ?_
  refine g_getI G fl_X9_110 (r.kd) (by first | decide | omega) rfl (r.n 2 rfl) dX9_find_21 ?_
  refine g_if_eq (tgt := 44) G dX9_find_24 (by decide) (fun c_24 => ?_) (fun c_24 => ?_)
  · have hn0 : mN M 2 = 0 := (nI_eq (b := 0) (by omega) (by omega)).mp c_24
    refine g_iconst (v := (-1)) G dX9_find_44 (by decide) ?_
    exact g_iret G F (by first | exact ⟨_, Or.inl ⟨Or.inl hn0, rfl⟩, gAn_0 h⟩ | exact ⟨_, Or.inl ⟨Or.inr hn1, rfl⟩, gAn_0 h⟩) (by omega) (by omega) dX9_find_45
  · have hn0 : ¬ mN M 2 = 0 := fun z => c_24 (by rw [z]; rfl)
    first | refine g_aload_n G dX9_find_27 rfl ?_ | refine g_aload_nN G dX9_find_27 rfl ?_ | refine g_aload_nQ G dX9_find_27 rfl ?_
    refine g_getR G fl_X9_75 (r.kd) (by first | decide | omega) rfl (r.st) dX9_find_28 ?_
    refine g_iload_n G dX9_find_31 rfl ?_
    first | refine g_aload_n G dX9_find_32 rfl ?_ | refine g_aload_nN G dX9_find_32 rfl ?_ | refine g_aload_nQ G dX9_find_32 rfl ?_
    refine g_getR G fl_X9_29 (r.kd) (by first | decide | omega) rfl (r.Y 12 rfl) dX9_find_33 ?_
    refine g_iload_n G dX9_find_36 rfl ?_
    refine g_iald G (r.A 12 rfl) (by first | decide | omega) (r.lt 12 23 rfl (by omega)) (by omega) ((r.X 12 23 rfl rfl (by omega)).trans kc2) dX9_find_37 ?_
    refine g_callVp (ci := 9) G (c_X8_isIn _ _ _ _ _ _ _ r q i _ _ (by omega) (by omega)) mt_X8_isIn mi_X8_isIn ml_X9_179 (q.kd) (by first | decide | omega) rfl (by decide) (by omega) (by omega) rfl (Nat.le_of_ble_eq_true rfl) dX9_find_38 ?_
    refine g_if_ne (tgt := 46) G dX9_find_41 (by decide) (fun c_41 => ?_) (fun c_41 => ?_)
    · have hn1 : ¬ gIntoOf M p (mC M d) = -1 := by
        rw [ec]
        obtain ⟨u1, u2⟩ := gInto_y hs (of_decide_eq_true (gB_ne0.mp c_41))
        rw [u1]
        exact u2
      refine g_iconst (v := nI 0) G dX9_find_46 (by decide) ?_
      refine g_istore_n G dX9_find_47 (gSt_3 (by first | rfl | exact g_c1_rf)) ?_
      have loop48 : ∀ f2 t : Nat, t ≤ (mN M (100 + d) + 1 - mN M 2) → (mN M (100 + d) + 1 - mN M 2) + 1 ≤ t + f2 → ∀ w4 : Option Value, (∀ k, k < t → gFndP M d (gIntoOf M p (mC M d)) k = false) → gW Γ 48 [some (.ref y), some (.int (nI p)), some (.int (nI d)), some (.int (nI (t))), w4] [] (sX S 11 0 y (nI 0)) 0 0 := by
        intro f2
        induction f2 with
        | zero => intro t  q1 q2; omega
        | succ f2 ih2 =>
          intro t  ht2 hf2 w4 hv2
          refine g_iload_n G dX9_find_48 rfl ?_
          first | refine g_aload_n G dX9_find_49 rfl ?_ | refine g_aload_nN G dX9_find_49 rfl ?_ | refine g_aload_nQ G dX9_find_49 rfl ?_
          refine g_getI G fl_X9_110 (r.kd) (by first | decide | omega) rfl (r.n 2 rfl) dX9_find_50 ?_
          refine g_iadd G dX9_find_53 (by first | exact nI_add _ _ | rfl) ?_
          first | refine g_aload_n G dX9_find_54 rfl ?_ | refine g_aload_nN G dX9_find_54 rfl ?_ | refine g_aload_nQ G dX9_find_54 rfl ?_
          refine g_getR G fl_X9_33 (r.kd) (by first | decide | omega) rfl (r.RY 13 (by decide)) dX9_find_55 ?_
          refine g_iload_n G dX9_find_58 rfl ?_
          refine g_aald G (r.RA 13 (by decide)) (by first | decide | omega) (by rw [r.RL 13 (by decide)]; omega) (by omega) (r.RR 13 (by decide) (by omega)) dX9_find_59 ?_
          refine g_alen G (r.TK 13 (by decide) (by omega)) (by first | decide | omega) (r.TL 13 (by decide) (by omega)) dX9_find_60 ?_
          refine g_icmp_gt (tgt := 119) G dX9_find_61 (by decide) (fun c_61 => ?_) (fun c_61 => ?_)
          · have et : t = (mN M (100 + d) + 1 - mN M 2) := by have := (nI_ltI (by omega) (by omega)).mp c_61; omega
            subst et
            refine g_iconst (v := (-1)) G dX9_find_119 (by decide) ?_
            exact g_iret G F (⟨_, Or.inr ⟨hn0, hn1, gIsF_n hv2⟩, gAn_0 h⟩) (by omega) (by omega) dX9_find_120
          · have hlt2 : t < (mN M (100 + d) + 1 - mN M 2) := by have z : ¬ mN M (100 + d) < t + mN M 2 := fun z => c_61 (nI_lt z (by omega)); omega
            refine g_iconst (v := nI 0) G dX9_find_64 (by decide) ?_
            refine g_istore G dX9_find_65 (gSt_4 (by first | rfl | exact g_c1_rf)) ?_
            have hv2b := hv2
            have hlt2a := hlt2
            have loop67 : ∀ f2 u : Nat, u ≤ (mN M 2) → (mN M 2) + 1 ≤ u + f2 → (∀ k, k < u → gSeenAt (mT M 13 d (t + k)) (mT M 14 d (t + k)) (mT M 15 d (t + k)) (gIntoOf M p (mC M d)) = mA M 1 k) → gW Γ 67 [some (.ref y), some (.int (nI p)), some (.int (nI d)), some (.int (nI t)), some (.int (nI (u)))] [] (sX S 11 0 y (nI 0)) 0 0 := by
              intro f2
              induction f2 with
              | zero => intro u  q1 q2; omega
              | succ f2 ih3 =>
                intro u  ht2 hf2  hv2
                refine g_iload G dX9_find_67 rfl ?_
                first | refine g_aload_n G dX9_find_69 rfl ?_ | refine g_aload_nN G dX9_find_69 rfl ?_ | refine g_aload_nQ G dX9_find_69 rfl ?_
                refine g_getI G fl_X9_110 (r.kd) (by first | decide | omega) rfl (r.n 2 rfl) dX9_find_70 ?_
                refine g_icmp_ge (tgt := 102) G dX9_find_73 (by decide) (fun c_73 => ?_) (fun c_73 => ?_)
                · have et : u = (mN M 2) := by have := (nI_leI (by omega) (by omega)).mp c_73; omega
                  subst et
                  have hv2a := hv2
                  have e9 : gFndP M d (gIntoOf M p (mC M d)) t = true := decide_eq_true hv2a
                  refine g_iload G dX9_find_102 rfl ?_
                  first | refine g_aload_n G dX9_find_104 rfl ?_ | refine g_aload_nN G dX9_find_104 rfl ?_ | refine g_aload_nQ G dX9_find_104 rfl ?_
                  refine g_getI G fl_X9_110 (r.kd) (by first | decide | omega) rfl (r.n 2 rfl) dX9_find_105 ?_
                  refine g_icmp_ne (tgt := 113) G dX9_find_108 (by decide) (fun c_108 => (absurd rfl c_108)) (fun c_108 => ?_)
                  refine g_iload_n G dX9_find_111 rfl ?_
                  exact g_iret G F (⟨_, Or.inr ⟨hn0, hn1, gIsF_y hlt2a e9 hv2b⟩, gAn_0 h⟩) (by omega) (by omega) dX9_find_112
                · have hlt2 : u < (mN M 2) := by have z : ¬ (mN M 2) ≤ u := fun z => c_73 ((nI_leI (by omega) (by omega)).mpr z); omega
                  first | refine g_aload_n G dX9_find_76 rfl ?_ | refine g_aload_nN G dX9_find_76 rfl ?_ | refine g_aload_nQ G dX9_find_76 rfl ?_
                  refine g_iload_n G dX9_find_77 rfl ?_
                  refine g_iload_n G dX9_find_78 rfl ?_
                  refine g_iload_n G dX9_find_79 rfl ?_
                  refine g_iload G dX9_find_80 rfl ?_
                  refine g_iadd G dX9_find_82 (by first | exact nI_add _ _ | rfl) ?_
                  refine g_callVp (ci := 10) G (c_X9_seenBy _ _ _ _ _ r q i _ _ (by omega) (by omega) _ (by omega)) mt_X9_seenBy mi_X9_seenBy ml_X9_213 (r.kd) (by first | decide | omega) rfl (by decide) (by omega) (by omega) rfl (Nat.le_of_ble_eq_true rfl) dX9_find_83 ?_
                  first | refine g_aload_n G dX9_find_86 rfl ?_ | refine g_aload_nN G dX9_find_86 rfl ?_ | refine g_aload_nQ G dX9_find_86 rfl ?_
                  refine g_getR G fl_X9_9 (r.kd) (by first | decide | omega) rfl (r.Y 1 rfl) dX9_find_87 ?_
                  refine g_iload G dX9_find_90 rfl ?_
                  refine g_iald G (r.A 1 rfl) (by first | decide | omega) (r.lt 1 999 rfl (by omega)) (by omega) (r.t (by omega)) dX9_find_92 ?_
                  refine g_icmp_ne (tgt := 102) G dX9_find_93 (by decide) (fun c_93 => ?_) (fun c_93 => ?_)
                  · have e9 : gFndP M d (gIntoOf M p (mC M d)) t = false := decide_eq_false (fun z => c_93 (z u hlt2))
                    refine g_iload G dX9_find_102 rfl ?_
                    first | refine g_aload_n G dX9_find_104 rfl ?_ | refine g_aload_nN G dX9_find_104 rfl ?_ | refine g_aload_nQ G dX9_find_104 rfl ?_
                    refine g_getI G fl_X9_110 (r.kd) (by first | decide | omega) rfl (r.n 2 rfl) dX9_find_105 ?_
                    refine g_icmp_ne (tgt := 113) G dX9_find_108 (by decide) (fun c_108 => ?_) (fun c_108 => (absurd ((nI_eq (by omega) (by omega)).mp c_108) (by omega)))
                    refine g_iinc (v := _) G dX9_find_113 rfl (by first | exact nI_1 _ | rfl) (gSt_3 (by first | rfl | exact g_c1_rf)) ?_
                    refine g_goto (tgt := 48) G dX9_find_116 (by decide) ?_
                    exact ih2 (t + 1) (by omega) (by omega) _ (gFl_s hv2b e9)
                  · refine g_iinc (v := _) G dX9_find_96 rfl (by first | exact nI_1 _ | rfl) (gSt_4 (by first | rfl | exact g_c1_rf)) ?_
                    refine g_goto (tgt := 67) G dX9_find_99 (by decide) ?_
                    exact ih3 (u + 1) (by omega) (by omega) (fun k hk => (Nat.lt_or_ge k u).elim (hv2 k) (fun z => by rw [show k = u by omega]; exact c_93))
            exact loop67 ((mN M 2) + 1) 0 (by omega) (by omega) (fun k hk => by omega)
      exact loop48 ((mN M (100 + d) + 1 - mN M 2) + 1) 0 (by omega) (by omega) _ (fun k hk => by omega)
    · have hn1 : gIntoOf M p (mC M d) = -1 := by rw [ec]; exact gInto_n (of_decide_eq_false (gB_eq0.mp c_41))
      refine g_iconst (v := (-1)) G dX9_find_44 (by decide) ?_
      exact g_iret G F (by first | exact ⟨_, Or.inl ⟨Or.inl hn0, rfl⟩, gAn_0 h⟩ | exact ⟨_, Or.inl ⟨Or.inr hn1, rfl⟩, gAn_0 h⟩) (by omega) (by omega) dX9_find_45

set_option maxHeartbeats 4000000 in
set_option maxRecDepth 100000 in
theorem c_X9_find_no (d0 : Nat × Nat) (S : gS) (y : Nat) (b : Nat → Nat → Nat) (M : gM) (h : gRef S y b M) (i : gInv M) (p d : Int32) (hno : ¬ (gIx (mN M 8) p ∧ gIx (mN M 11) d)) : gCt d0 yX9_find cX9_find 5 (some .int) 10 1 12 [.ref y, .int p, .int d] S (gAn S y 1 M (some (.int (nI 0)))) gNo := by
  refine gCt_of (lo := [some (.ref y), some (.int p), some (.int d), none, none]) (by decide +kernel) (Nat.le_of_ble_eq_true rfl) (rfl) ?_
  intro Γ hd G F hini
  first | refine g_aload_n G dX9_find_0 rfl ?_ | refine g_aload_nN G dX9_find_0 rfl ?_ | refine g_aload_nQ G dX9_find_0 rfl ?_
  refine g_iconst (v := nI 0) G dX9_find_1 (by decide) ?_
  refine g_putI G fl_X9_91 pu_10_0 (h.1.kd) (by first | decide | omega) rfl dX9_find_2 ?_
  have h0 := gRef_th (v := nI 0) h
  obtain ⟨r, q, -⟩ := id h0
  obtain ⟨i6, i8, i11, i17, i23, i2, i5⟩ := i.b
  first | refine g_aload_n G dX9_find_5 rfl ?_ | refine g_aload_nN G dX9_find_5 rfl ?_ | refine g_aload_nQ G dX9_find_5 rfl ?_
  refine g_iload_n G dX9_find_6 rfl ?_
  refine g_iload_n G dX9_find_7 rfl ?_
  refine g_callVp (ci := 10) G (c_X9_isPair _ _ _ _ _ r i _ _) mt_X9_isPair mi_X9_isPair ml_X9_207 (r.kd) (by first | decide | omega) rfl (by decide) (by omega) (by omega) rfl (Nat.le_of_ble_eq_true rfl) dX9_find_8 ?_
  refine g_if_ne (tgt := 20) G dX9_find_11 (by decide) (fun c_11 => (absurd (gPair_y c_11) hno)) (fun c_11 => ?_)
  first | refine g_aload_n G dX9_find_14 rfl ?_ | refine g_aload_nN G dX9_find_14 rfl ?_ | refine g_aload_nQ G dX9_find_14 rfl ?_
  refine g_iconst (v := nI 1) G dX9_find_15 (by decide) ?_
  refine g_callV (ci := 10) G (c_X9_no _ _ _ _ r.kd) mt_X9_no mi_X9_no ml_X9_113 (r.kd) (by first | decide | omega) rfl (by decide) (by omega) (by omega) rfl (Nat.le_of_ble_eq_true rfl) dX9_find_16 (fun v_16 S_16 hp_16 => ?_)
  obtain ⟨rfl, rfl⟩ := hp_16
  simp only [Option.toList, List.cons_append, List.nil_append]
  exact g_iret G F (gAn_N 1 h) (by omega) (by omega) dX9_find_19
