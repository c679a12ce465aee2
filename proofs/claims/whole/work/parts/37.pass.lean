/-! ===== pass ===== -/
theorem mCarry_46 {M : gM} {k : Nat} : mA (mCarry M k) 46 k = if gSee M k then nI 1 else nI 2 := by
  unfold mCarry
  split
  · exact (uA_f (by omega)).trans uA_s
  · exact uA_s
theorem gMailA_warn {d0 : Nat × Nat} {S : gS} {x : Nat} {ad : Nat → Nat → Nat} {M : gM} {p : Nat} (h : gMail d0 S x ad M) (hp : p < mN M 8) {S3 : gS} (e : S3 = if mA M 42 p + nI 1 < nI 3 then sX S (8 + 32 * p) 4 (ad 1 p) (mA M 42 p + nI 1) else sX (sX (sX S (8 + 32 * p) 4 (ad 1 p) (mA M 42 p + nI 1)) (8 + 32 * p) 4 (ad 1 p) (nI 0)) (8 + 32 * p) 2 (ad 1 p) (if nI 0 < mA M 41 p - nI 1 then mA M 41 p - nI 1 else nI 0)) : gMail d0 S3 x ad (mWarn M p) ∧ gFr gMk S S3 := by
  obtain ⟨p1, p2, p3, p4, p5, p6⟩ := id (h.2.2.2.2.1 p hp)
  by_cases c : mA M 42 p + nI 1 < nI 3
  · rw [if_pos c] at e
    subst e
    have e9 : mWarn M p = uA M 42 p (mA M 42 p + nI 1) := if_pos c
    rw [e9]
    exact gMailA_pers (S3 := sX S (8 + 32 * p) 4 (ad 1 p) (mA M 42 p + nI 1)) (M := M) (p0 := p) (M9 := uA M 42 p (mA M 42 p + nI 1)) rfl (fun f j z => by rcases z with z | z; exact uA_f (by omega); exact uA_i z) rfl
      ⟨p1, sX_p (by decide) p2, sX_p (by decide) p3, sX_p (by decide) (p4.trans (uA_f (by omega)).symm), sX_p (by decide) p5, sX_s.trans uA_s.symm⟩ h (gFr_X _ _ _ _ _)
  · rw [if_neg c] at e
    subst e
    have e9 : mWarn M p = uA (uA M 42 p (nI 0)) 41 p (if nI 0 < mA M 41 p - nI 1 then mA M 41 p - nI 1 else nI 0) := if_neg c
    rw [e9]
    exact gMailA_pers (S3 := sX (sX (sX S (8 + 32 * p) 4 (ad 1 p) (mA M 42 p + nI 1)) (8 + 32 * p) 4 (ad 1 p) (nI 0)) (8 + 32 * p) 2 (ad 1 p) (if nI 0 < mA M 41 p - nI 1 then mA M 41 p - nI 1 else nI 0)) (M := M) (p0 := p) (M9 := uA (uA M 42 p (nI 0)) 41 p (if nI 0 < mA M 41 p - nI 1 then mA M 41 p - nI 1 else nI 0)) rfl (fun f j z => by rcases z with z | z; exact (uA_f (by omega)).trans (uA_f (by omega)); exact (uA_i z).trans (uA_i z)) rfl
      ⟨p1, sX_p (by decide) (sX_p (by decide) (sX_p (by decide) p2)), sX_p (by decide) (sX_p (by decide) (sX_p (by decide) p3)), sX_s.trans uA_s.symm, sX_p (by decide) (sX_p (by decide) (sX_p (by decide) p5)), sX_p (by decide) (sX_s.trans ((uA_f (by omega)).trans uA_s).symm)⟩ h ((((gFr.rf S).X1 _ _ _ (fun _ z => z)).X1 _ _ _ (fun _ z => z)).X1 _ _ _ (fun _ z => z))

set_option maxHeartbeats 4000000 in
set_option maxRecDepth 100000 in
theorem c_X7_carryOutLetters (d0 : Nat × Nat) (S : gS) (x : Nat) (ad : Nat → Nat → Nat) (M : gM) (h : gMail d0 S x ad M) : gCt d0 yX7_carryOutLetters cX7_carryOutLetters 5 (some .int) 4 0 0 [.ref x] S (fun v' S' => v' = some (.int (nI (mCarN M (3 * gClk M)).2)) ∧ gMail d0 S' x ad (mCarN M (3 * gClk M)).1 ∧ gFr gMk S S') gNo := by
  refine gCt_of (lo := [some (.ref x), none, none, none, none]) (by decide +kernel) (Nat.le_of_ble_eq_true rfl) (rfl) ?_
  intro Γ hd G F hini
  obtain ⟨⟨r1, ⟨ra, rb, rc, rd, re⟩, rt, rtl, rp, rpl, rdr, rep, rday⟩, ⟨l0, l1, l2, l3, l4⟩, ht, hcs, hps, hds, hes, hls⟩ := id h
  subst hd
  have hN8 := l1.2.2.1
  have hc3 := gct_le (fun k => decide (mA M 9 k = 0)) (mN M 8)
  have hc4 : gClk M ≤ 60 := by unfold gClk; omega
  refine g_iconst (v := nI 0) G dX7_carryOutLetters_0 (by decide) ?_
  refine g_istore_n G dX7_carryOutLetters_1 (gSt_1 (by first | rfl | exact g_c1_rf)) ?_
  first | refine g_aload_n G dX7_carryOutLetters_2 rfl ?_ | refine g_aload_nN G dX7_carryOutLetters_2 rfl ?_ | refine g_aload_nQ G dX7_carryOutLetters_2 rfl ?_
  refine g_callVp (ci := 8) G (c_X7_lettersOfADay _ S x ad M h) mt_X7_lettersOfADay mi_X7_lettersOfADay ml_X7_340 (by assumption) (by first | decide | omega) rfl (by decide) (by omega) (by omega) rfl (Nat.le_of_ble_eq_true rfl) dX7_carryOutLetters_3 ?_
  refine g_istore_n G dX7_carryOutLetters_6 (gSt_2 (by first | rfl | exact g_c1_rf)) ?_
  refine g_iconst (v := nI 0) G dX7_carryOutLetters_7 (by decide) ?_
  refine g_istore_n G dX7_carryOutLetters_8 (gSt_3 (by first | rfl | exact g_c1_rf)) ?_
  have inner9 : ∀ f2 t : Nat, ∀ St : gS, t ≤ (3 * gClk M) → (3 * gClk M) + 1 ≤ t + f2 → ∀ w4 : Option Value, (gMail (gD Γ) St x ad (mCarN M t).1 ∧ gFr gMk S St) → gW Γ 9 [some (.ref x), some (.int (nI (mCarN M (t)).2)), some (.int (nI (3 * gClk M))), some (.int (nI (t))), w4] [] St 0 0 := by
    intro f2
    induction f2 with
    | zero => intro t St q1 q2; omega
    | succ f2 ih2 =>
      intro t St ht2 hf2 w4 hv2
      obtain ⟨hm, Fs⟩ := hv2
      have en := mCarN_n M t
      refine g_iload_n G dX7_carryOutLetters_9 rfl ?_
      refine g_iload_n G dX7_carryOutLetters_10 rfl ?_
      refine g_icmp_ge (tgt := 51) G dX7_carryOutLetters_11 (by decide) (fun c_11 => ?_) (fun c_11 => ?_)
      · have et : t = (3 * gClk M) := by have := (nI_leI (by omega) (by omega)).mp c_11; omega
        subst et
        refine g_iload_n G dX7_carryOutLetters_51 rfl ?_
        exact g_iret G F (⟨rfl, hm, Fs⟩) (by omega) (by omega) dX7_carryOutLetters_52
      · have hlt2 : t < (3 * gClk M) := by have z : ¬ (3 * gClk M) ≤ t := fun z => c_11 ((nI_leI (by omega) (by omega)).mpr z); omega
        first | refine g_aload_n G dX7_carryOutLetters_14 rfl ?_ | refine g_aload_nN G dX7_carryOutLetters_14 rfl ?_ | refine g_aload_nQ G dX7_carryOutLetters_14 rfl ?_
        refine g_callVp (ci := 8) G (c_X7_nextLetter _ St x ad (mCarN M t).1 hm) mt_X7_nextLetter mi_X7_nextLetter ml_X7_403 (hm.1.1) (by first | decide | omega) rfl (by decide) (by omega) (by omega) rfl (Nat.le_of_ble_eq_true rfl) dX7_carryOutLetters_15 ?_
        first | refine g_astore G dX7_carryOutLetters_18 (gSt_4 (by first | rfl | exact g_c1_rf)) ?_ | refine g_astoreN G dX7_carryOutLetters_18 (gSt_4 (by first | rfl | exact g_c1_rf)) ?_ | refine g_astoreQ G dX7_carryOutLetters_18 (gSt_4 (by first | rfl | exact g_c1_rf)) ?_
        first | refine g_aload G dX7_carryOutLetters_20 rfl ?_ | refine g_aloadN G dX7_carryOutLetters_20 rfl ?_ | refine g_aloadQ G dX7_carryOutLetters_20 rfl ?_
        refine g_ifnonnullQ (tgt := 27) G dX7_carryOutLetters_22 (by decide) (fun c_22 => ?_) (fun q_22 c_22 => ?_)
        · have hn : gNx (mCarN M t).1 (mN M 23) = none := by
            cases e : gNx (mCarN M t).1 (mN M 23) with
            | none => rfl
            | some k => rw [en] at c_22; rw [e] at c_22; cases c_22
          have e9 := mCarN_stop hn (3 * gClk M - t)
          rw [show t + (3 * gClk M - t) = 3 * gClk M by omega] at e9
          refine g_iload_n G dX7_carryOutLetters_25 rfl ?_
          exact g_iret G F (⟨by rw [e9], by rw [e9]; exact hm, Fs⟩) (by omega) (by omega) dX7_carryOutLetters_26
        · obtain ⟨k, hn, rfl⟩ : ∃ k, gNx (mCarN M t).1 (mN M 23) = some k ∧ ad 4 k = q_22 := by
            cases e : gNx (mCarN M t).1 (mN M 23) with
            | none => rw [en] at c_22; rw [e] at c_22; cases c_22
            | some k => rw [en] at c_22; rw [e] at c_22; exact ⟨k, rfl, Option.some.inj c_22⟩
          have hk : k < mN M 23 := gNx_lt hn
          rw [c_22]
          show gW Γ 27 [_, _, _, _, some (.ref (ad 4 k))] [] St 0 0
          first | refine g_aload_n G dX7_carryOutLetters_27 rfl ?_ | refine g_aload_nN G dX7_carryOutLetters_27 rfl ?_ | refine g_aload_nQ G dX7_carryOutLetters_27 rfl ?_
          first | refine g_aload G dX7_carryOutLetters_28 rfl ?_ | refine g_aloadN G dX7_carryOutLetters_28 rfl ?_ | refine g_aloadQ G dX7_carryOutLetters_28 rfl ?_
          refine g_callV (ci := 8) G (c_X7_carryOut _ St x ad (mCarN M t).1 hm k (by rw [en]; exact hk)) mt_X7_carryOut mi_X7_carryOut ml_X7_407 (hm.1.1) (by first | decide | omega) rfl (by decide) (by omega) (by omega) rfl (Nat.le_of_ble_eq_true rfl) dX7_carryOutLetters_30 (fun v_30 S_30 hp_30 => ?_)
          obtain ⟨rfl, hm2, F2⟩ := hp_30
          simp only [Option.toList, List.nil_append]
          have hkk := hm2.2.2.2.2.2.2.2 k (by rw [mCarry_n, en]; exact hk)
          have h46 := hkk.2.2.2.2.2.1.trans mCarry_46
          have hm3 : gMail (gD Γ) S_30 x ad (mCarN M (t + 1)).1 := by rw [mCarN_some hn]; exact hm2
          have F3 := Fs.tr (K := gMk) F2 (fun _ z => ⟨z, z⟩)
          have hle := mCarN_le M t
          first | refine g_aload G dX7_carryOutLetters_33 rfl ?_ | refine g_aloadN G dX7_carryOutLetters_33 rfl ?_ | refine g_aloadQ G dX7_carryOutLetters_33 rfl ?_
          refine g_getI G fl_X7_337 (hkk.1) (by first | decide | omega) rfl (h46) dX7_carryOutLetters_35 ?_
          refine g_iconst (v := nI 1) G dX7_carryOutLetters_38 (by decide) ?_
          refine g_icmp_ne (tgt := 45) G dX7_carryOutLetters_39 (by decide) (fun c_39 => ?_) (fun c_39 => ?_)
          · have e8 : gSee (mCarN M t).1 k = false := by
              cases e : gSee (mCarN M t).1 k with
              | false => rfl
              | true => rw [e] at c_39; exact absurd rfl c_39
            have e9 : (mCarN M (t + 1)).2 = (mCarN M t).2 := by rw [mCarN_some hn, e8]; rfl
            refine g_iinc (v := _) G dX7_carryOutLetters_45 rfl (by first | exact nI_1 _ | rfl) (gSt_3 (by first | rfl | exact g_c1_rf)) ?_
            refine g_goto (tgt := 9) G dX7_carryOutLetters_48 (by decide) ?_
            have h9 := ih2 (t + 1) S_30 (by omega) (by omega) (some (.ref (ad 4 k))) ⟨hm3, F3⟩
            rw [e9] at h9
            exact h9
          · have e8 : gSee (mCarN M t).1 k = true := by
              cases e : gSee (mCarN M t).1 k with
              | true => rfl
              | false => rw [e] at c_39; exact absurd c_39 (by decide)
            have e9 : (mCarN M (t + 1)).2 = (mCarN M t).2 + 1 := by rw [mCarN_some hn, e8]; rfl
            refine g_iinc (v := _) G dX7_carryOutLetters_42 rfl (by first | exact nI_1 _ | rfl) (gSt_1 (by first | rfl | exact g_c1_rf)) ?_
            refine g_iinc (v := _) G dX7_carryOutLetters_45 rfl (by first | exact nI_1 _ | rfl) (gSt_3 (by first | rfl | exact g_c1_rf)) ?_
            refine g_goto (tgt := 9) G dX7_carryOutLetters_48 (by decide) ?_
            have h9 := ih2 (t + 1) S_30 (by omega) (by omega) (some (.ref (ad 4 k))) ⟨hm3, F3⟩
            rw [e9] at h9
            exact h9
  exact inner9 ((3 * gClk M) + 1) 0 _ (by omega) (by omega) _ ⟨h, gFr.rf S⟩

set_option maxHeartbeats 4000000 in
set_option maxRecDepth 100000 in
theorem c_X7_callBackOriginals (d0 : Nat × Nat) (S : gS) (x : Nat) (ad : Nat → Nat → Nat) (M : gM) (h : gMail d0 S x ad M) : gCt d0 yX7_callBackOriginals cX7_callBackOriginals 3 none 4 0 0 [.ref x] S (fun v' S' => v' = none ∧ gMail d0 S' x ad (mRetN M (mN M 11)) ∧ gFr gMk S S') gNo := by
  refine gCt_of (lo := [some (.ref x), none, none]) (by decide +kernel) (Nat.le_of_ble_eq_true rfl) (rfl) ?_
  intro Γ hd G F hini
  obtain ⟨⟨r1, ⟨ra, rb, rc, rd, re⟩, rt, rtl, rp, rpl, rdr, rep, rday⟩, ⟨l0, l1, l2, l3, l4⟩, ht, hcs, hps, hds, hes, hls⟩ := id h
  subst hd
  have hNd := l2.2.2.1
  have hNp := l1.2.2.1
  refine g_iconst (v := nI 0) G dX7_callBackOriginals_0 (by decide) ?_
  refine g_istore_n G dX7_callBackOriginals_1 (gSt_1 (by first | rfl | exact g_c1_rf)) ?_
  have inner2 : ∀ f2 t : Nat, ∀ St : gS, t ≤ (mN M 11) → (mN M 11) + 1 ≤ t + f2 → ∀ w4 : Option Value, (gMail (gD Γ) St x ad (mRetN M t) ∧ gFr gMk S St) → gW Γ 2 [some (.ref x), some (.int (nI (t))), w4] [] St 0 0 := by
    intro f2
    induction f2 with
    | zero => intro t St q1 q2; omega
    | succ f2 ih2 =>
      intro t St ht2 hf2 w4 hv2
      obtain ⟨hm, Fs⟩ := hv2
      have en := mRetN_n M t
      have L2 : gLst (gD Γ) St (ad 5 2) 3 (mN M 11) (ad 2) := by
        have z := hm.2.1.2.2.1
        rw [en] at z
        exact z
      have hday : gX St 9 11 x = nI (mN M 40) := by
        have z := hm.1.2.2.2.2.2.2.2.2
        rw [en] at z
        exact z
      refine g_iload_n G dX7_callBackOriginals_2 rfl ?_
      first | refine g_aload_n G dX7_callBackOriginals_3 rfl ?_ | refine g_aload_nN G dX7_callBackOriginals_3 rfl ?_ | refine g_aload_nQ G dX7_callBackOriginals_3 rfl ?_
      refine g_getR G fl_X7_19 (hm.1.1) (by first | decide | omega) rfl (hm.1.2.1.2.2.1) dX7_callBackOriginals_4 ?_
      refine g_callVp (ci := 0) G (c_Jx4a65c_size_8abf5 _ St (ad 5 2) 3 (mN M 11) (ad 2) L2) mt_Jx4a65c_size_8abf5 mi_Jx4a65c_size_8abf5 ml_X7_80 (L2.1) (by first | decide | omega) rfl (by decide) (by omega) (by omega) rfl (Nat.le_of_ble_eq_true rfl) dX7_callBackOriginals_7 ?_
      refine g_icmp_ge (tgt := 60) G dX7_callBackOriginals_10 (by decide) (fun c_10 => ?_) (fun c_10 => ?_)
      · have et : t = (mN M 11) := by have := (nI_leI (by omega) (by omega)).mp c_10; omega
        subst et
        exact g_vret G F (⟨rfl, hm, Fs⟩) (by omega) (by omega) dX7_callBackOriginals_60
      · have hlt2 : t < (mN M 11) := by have z : ¬ (mN M 11) ≤ t := fun z => c_10 ((nI_leI (by omega) (by omega)).mpr z); omega
        obtain ⟨k1, ⟨kc, kc1, kc2, kc3⟩, ⟨k2, k3, k4⟩, ⟨k5, k6, k7, k8, kpr⟩, k9⟩ := hm.2.2.2.2.2.1 t (by rw [en]; exact hlt2)
        first | refine g_aload_n G dX7_callBackOriginals_13 rfl ?_ | refine g_aload_nN G dX7_callBackOriginals_13 rfl ?_ | refine g_aload_nQ G dX7_callBackOriginals_13 rfl ?_
        refine g_getR G fl_X7_19 (hm.1.1) (by first | decide | omega) rfl (hm.1.2.1.2.2.1) dX7_callBackOriginals_14 ?_
        refine g_iload_n G dX7_callBackOriginals_17 rfl ?_
        refine g_callVp (ci := 0) G (c_Jx4a65c_get_915e3 _ St (ad 5 2) 3 (mN M 11) t (ad 2) L2 hlt2) mt_Jx4a65c_get_915e3 mi_Jx4a65c_get_915e3 ml_X7_300 (L2.1) (by first | decide | omega) rfl (by decide) (by omega) (by omega) rfl (Nat.le_of_ble_eq_true rfl) dX7_callBackOriginals_18 ?_
        refine g_cast (ci := 2) G (k1) (by first | decide | omega) rfl cl_X7_95 dX7_callBackOriginals_21 ?_
        first | refine g_astore_n G dX7_callBackOriginals_24 (gSt_2 (by first | rfl | exact g_c1_rf)) ?_ | refine g_astore_nN G dX7_callBackOriginals_24 (gSt_2 (by first | rfl | exact g_c1_rf)) ?_ | refine g_astore_nQ G dX7_callBackOriginals_24 (gSt_2 (by first | rfl | exact g_c1_rf)) ?_
        first | refine g_aload_n G dX7_callBackOriginals_25 rfl ?_ | refine g_aload_nN G dX7_callBackOriginals_25 rfl ?_ | refine g_aload_nQ G dX7_callBackOriginals_25 rfl ?_
        refine g_getQ G fl_X7_223 (k1) (by first | decide | omega) rfl (k6) dX7_callBackOriginals_26 ?_
        refine g_ifnullQ (tgt := 54) G dX7_callBackOriginals_29 (by decide) (fun c_29 => ?_) (fun q_29 c_29 => ?_)
        · have e43 : mA (mRetN M t) 43 t = -1 := (gRf_none (by rw [en]; exact hNp) kpr).mp c_29
          have e9 : mRetN M (t + 1) = mRetN M t := if_neg (fun z => z.1 e43)
          have h3 : gMail (gD Γ) St x ad (mRetN M (t + 1)) := by rw [e9]; exact hm
          have F3 := Fs
          refine g_iinc (v := _) G dX7_callBackOriginals_54 rfl (by first | exact nI_1 _ | rfl) (gSt_1 (by first | rfl | exact g_c1_rf)) ?_
          refine g_goto (tgt := 2) G dX7_callBackOriginals_57 (by decide) ?_
          exact ih2 (t + 1) _ (by omega) (by omega) _ ⟨h3, F3⟩
        · have e43 : ¬ mA (mRetN M t) 43 t = -1 := fun z => by rw [(gRf_none (by rw [en]; exact hNp) kpr).mpr z] at c_29; cases c_29
          first | refine g_aload_n G dX7_callBackOriginals_32 rfl ?_ | refine g_aload_nN G dX7_callBackOriginals_32 rfl ?_ | refine g_aload_nQ G dX7_callBackOriginals_32 rfl ?_
          refine g_getI G fl_X7_229 (k1) (by first | decide | omega) rfl (k7) dX7_callBackOriginals_33 ?_
          first | refine g_aload_n G dX7_callBackOriginals_36 rfl ?_ | refine g_aload_nN G dX7_callBackOriginals_36 rfl ?_ | refine g_aload_nQ G dX7_callBackOriginals_36 rfl ?_
          refine g_getI G fl_X7_52 (hm.1.1) (by first | decide | omega) rfl (hday) dX7_callBackOriginals_37 ?_
          refine g_icmp_ge (tgt := 54) G dX7_callBackOriginals_40 (by decide) (fun c_40 => ?_) (fun c_40 => ?_)
          · have e44 : ¬ mA (mRetN M t) 44 t < nI (mN M 40) := Int32.not_lt.mpr c_40
            have e9 : mRetN M (t + 1) = mRetN M t := if_neg (fun z => e44 (by rw [← en]; exact z.2))
            have h3 : gMail (gD Γ) St x ad (mRetN M (t + 1)) := by rw [e9]; exact hm
            have F3 := Fs
            refine g_iinc (v := _) G dX7_callBackOriginals_54 rfl (by first | exact nI_1 _ | rfl) (gSt_1 (by first | rfl | exact g_c1_rf)) ?_
            refine g_goto (tgt := 2) G dX7_callBackOriginals_57 (by decide) ?_
            exact ih2 (t + 1) _ (by omega) (by omega) _ ⟨h3, F3⟩
          · have e44 : mA (mRetN M t) 44 t < nI (mN M 40) := Int32.not_le.mp c_40
            obtain ⟨p, hp, ep⟩ : ∃ p, p < mN M 8 ∧ mA (mRetN M t) 43 t = nI p := by
              obtain z | ⟨p, z1, z2⟩ := kpr
              · exact absurd z e43
              · exact ⟨p, by rw [← en]; exact z1, z2⟩
            have e9 : mRetN M (t + 1) = mBack (mWarn (mRetN M t) p) t := (if_pos ⟨e43, by rw [en]; exact e44⟩).trans (by rw [ep, nI_clamp (by omega)])
            have k6p : gY St (3 + 32 * t) 5 (ad 2 t) = some (ad 1 p) := by rw [k6, ep]; exact gRf_p (by omega)
            have hps2 := hm.2.2.2.2.1 p (by rw [en]; exact hp)
            first | refine g_aload_n G dX7_callBackOriginals_43 rfl ?_ | refine g_aload_nN G dX7_callBackOriginals_43 rfl ?_ | refine g_aload_nQ G dX7_callBackOriginals_43 rfl ?_
            refine g_getR G fl_X7_223 (k1) (by first | decide | omega) rfl (k6p) dX7_callBackOriginals_44 ?_
            refine g_callV (ci := 7) G (c_X6_warn _ St (ad 1 p) p _ _ _ _ hps2) mt_X6_warn mi_X6_warn ml_X7_417 (hps2.1) (by first | decide | omega) rfl (by decide) (by omega) (by omega) rfl (Nat.le_of_ble_eq_true rfl) dX7_callBackOriginals_47 (fun v_47 S_47 hp_47 => ?_)
            obtain ⟨rfl, hS⟩ := hp_47
            simp only [Option.toList, List.nil_append]
            obtain ⟨hm2, F2⟩ := gMailA_warn hm (by rw [en]; exact hp) hS
            have en2 : mN (mWarn (mRetN M t) p) = mN M := (mWarn_n _ _).trans en
            have hd2 := hm2.2.2.2.2.2.1 t (by rw [en2]; exact hlt2)
            first | refine g_aload_n G dX7_callBackOriginals_50 rfl ?_ | refine g_aload_nN G dX7_callBackOriginals_50 rfl ?_ | refine g_aload_nQ G dX7_callBackOriginals_50 rfl ?_
            refine g_callV (ci := 2) G (c_X1_bringBack _ S_47 (ad 2 t) t hd2.1) mt_X1_bringBack mi_X1_bringBack ml_X7_236 (hd2.1) (by first | decide | omega) rfl (by decide) (by omega) (by omega) rfl (Nat.le_of_ble_eq_true rfl) dX7_callBackOriginals_51 (fun v_51 S_51 hp_51 => ?_)
            obtain ⟨rfl, hS3⟩ := hp_51
            simp only [Option.toList, List.nil_append]
            obtain ⟨hm4, F4⟩ := gMailA_lend (v := -1) (t := -1) hm2 (by rw [en2]; exact hlt2) gRf_1 (Or.inl rfl)
            rw [← hS3] at hm4 F4
            have h3 : gMail (gD Γ) S_51 x ad (mRetN M (t + 1)) := by rw [e9]; exact hm4
            have F3 := (Fs.tr (K := gMk) F2 (fun _ z => ⟨z, z⟩)).tr (K := gMk) F4 (fun _ z => ⟨z, z⟩)
            refine g_iinc (v := _) G dX7_callBackOriginals_54 rfl (by first | exact nI_1 _ | rfl) (gSt_1 (by first | rfl | exact g_c1_rf)) ?_
            refine g_goto (tgt := 2) G dX7_callBackOriginals_57 (by decide) ?_
            exact ih2 (t + 1) _ (by omega) (by omega) _ ⟨h3, F3⟩
  exact inner2 ((mN M 11) + 1) 0 _ (by omega) (by omega) _ ⟨h, gFr.rf S⟩

theorem gMail_day {d0 : Nat × Nat} {S : gS} {x : Nat} {ad : Nat → Nat → Nat} {M : gM} {n : Nat} (h : gMail d0 S x ad M) : gTo d0 x S (sX S 9 11 x (nI n)) (uN M 40 n) := by
  obtain ⟨⟨r1, ⟨ra, rb, rc, rd, re⟩, rt, rtl, rp, rpl, rdr, rep, rday⟩, hl, ⟨y1, y2, y3, y4, y5, y6, y7, y8⟩, hcs, hps, hds, hes, hls⟩ := id h
  exact gMail_root (S := S) (S3 := sX S 9 11 x (nI n)) (M := M) (M9 := uN M 40 n) rfl rfl rfl rfl rfl (fun j hj => uN_o (by omega)) (fun _ _ _ _ => rfl) rfl ⟨r1, ⟨ra, rb, rc, rd, re⟩, rt, sX_p (by decide) rtl, rp, sX_p (by decide) rpl, gDrf_mono rdr (gFr_X _ _ _ _ _) rfl (by decide) (by decide), sX_p (by decide) rep, sX_s⟩ ⟨y1, y2, y3, fun i hi => sX_k (S := S) (by decide) (y4 i hi), y5, y6, y7, fun i hi => sX_k (S := S) (by decide) (y8 i hi)⟩ h ((gFr_X _ _ _ _ _).mono (fun _ z => z.1))
theorem mDay_8 (M : gM) : mN (mDay M) 8 = mN M 8 := by
  unfold mDay
  rw [mRetN_n]
  show mN (mCarN M (3 * gClk M)).1 8 = mN M 8
  rw [mCarN_n]
theorem mDays_8 (M : gM) : ∀ n, mN (mDays M n).1 8 = mN M 8
  | 0 => rfl
  | n + 1 => (mDay_8 _).trans (mDays_8 M n)
theorem mDays_s (M : gM) (n : Nat) : mDays M (n + 1) = (mDay (mDays M n).1, (mDays M n).2 + (mCarN (mDays M n).1 (3 * gClk (mDays M n).1)).2) := rfl

set_option maxHeartbeats 4000000 in
set_option maxRecDepth 100000 in
theorem c_X7_pass (d0 : Nat × Nat) (S : gS) (x : Nat) (ad : Nat → Nat → Nat) (M : gM) (h : gMail d0 S x ad M) (i : Int32) : gCt d0 yX7_pass cX7_pass 4 (some .int) 10 1 6 [.ref x, .int i] S (fun v' S' => ∃ n, 1 ≤ n ∧ n ≤ 100 ∧ i = nI n ∧ v' = some (.int (nI (mDays M n).2)) ∧ gTo d0 x S S' (mDays M n).1) (fun E S' => S' = S ∧ ((E = "java/lang/IllegalArgumentException" ∧ ¬ (nI 1 ≤ i ∧ i ≤ nI 100)))) := by
  refine gCt_of (lo := [some (.ref x), some (.int i), none, none]) (by decide +kernel) (Nat.le_of_ble_eq_true rfl) (rfl) ?_
  intro Γ hd G F hini
  obtain ⟨⟨r1, ⟨ra, rb, rc, rd, re⟩, rt, rtl, rp, rpl, rdr, rep, rday⟩, ⟨l0, l1, l2, l3, l4⟩, ht, hcs, hps, hds, hes, hls⟩ := id h
  subst hd
  refine g_iload_n G dX7_pass_0 rfl ?_
  refine g_iconst (v := nI 1) G dX7_pass_1 (by decide) ?_
  refine g_icmp_lt (tgt := 11) G dX7_pass_2 (by decide) (fun c_2 => ?_) (fun c_2 => ?_)
  · have hno : ¬ (nI 1 ≤ i ∧ i ≤ nI 100) := fun z => absurd z.1 (Int32.not_le.mpr c_2)
    exact g_throwW (names := nm_IAE) G F tf_IAE cl_X7_66 ti_IAE st_X7_327 ta_IAE dX7_pass_11 (by exact dX7_pass_14) (by exact dX7_pass_15) (by exact dX7_pass_18) (by exact dX7_pass_21) (by decide) (Nat.le_of_ble_eq_true rfl) (by omega) (by omega) (⟨rfl, rfl, hno⟩)
  · refine g_iload_n G dX7_pass_5 rfl ?_
    refine g_bipush (v := nI 100) G dX7_pass_6 (by decide) ?_
    refine g_icmp_le (tgt := 22) G dX7_pass_8 (by decide) (fun c_8 => ?_) (fun c_8 => ?_)
    · obtain ⟨n, hn, rfl⟩ := gWt_of (k := 100) ⟨Int32.le_trans (by decide) (Int32.not_lt.mp c_2), c_8⟩ (by omega)
      have hn1 : 1 ≤ n := (nI_leI (a := 1) (by omega) (by omega)).mp (Int32.not_lt.mp c_2)
      refine g_iconst (v := nI 0) G dX7_pass_22 (by decide) ?_
      refine g_istore_n G dX7_pass_23 (gSt_2 (by first | rfl | exact g_c1_rf)) ?_
      refine g_iconst (v := nI 0) G dX7_pass_24 (by decide) ?_
      refine g_istore_n G dX7_pass_25 (gSt_3 (by first | rfl | exact g_c1_rf)) ?_
      have inner26 : ∀ f2 t : Nat, ∀ St : gS, t ≤ n → n + 1 ≤ t + f2 → ((∃ ad2, gMail (gD Γ) St x ad2 (mDays M t).1) ∧ gFr gMk S St) → gW Γ 26 [some (.ref x), some (.int (nI n)), some (.int (nI (mDays M (t)).2)), some (.int (nI (t)))] [] St 0 0 := by
        intro f2
        induction f2 with
        | zero => intro t St q1 q2; omega
        | succ f2 ih2 =>
          intro t St ht2 hf2  hv2
          obtain ⟨⟨ad2, hm⟩, Fs⟩ := hv2
          refine g_iload_n G dX7_pass_26 rfl ?_
          refine g_iload_n G dX7_pass_27 rfl ?_
          refine g_icmp_ge (tgt := 58) G dX7_pass_28 (by decide) (fun c_28 => ?_) (fun c_28 => ?_)
          · have et : t = n := by have := (nI_leI (by omega) (by omega)).mp c_28; omega
            subst et
            refine g_iload_n G dX7_pass_58 rfl ?_
            exact g_iret G F (⟨t, hn1, hn, rfl, rfl, ad2, hm, Fs⟩) (by omega) (by omega) dX7_pass_59
          · have hlt2 : t < n := by have z : ¬ n ≤ t := fun z => c_28 ((nI_leI (by omega) (by omega)).mpr z); omega
            refine g_iload_n G dX7_pass_31 rfl ?_
            first | refine g_aload_n G dX7_pass_32 rfl ?_ | refine g_aload_nN G dX7_pass_32 rfl ?_ | refine g_aload_nQ G dX7_pass_32 rfl ?_
            refine g_callV (ci := 8) G (c_X7_carryOutLetters _ St x ad2 (mDays M t).1 hm) mt_X7_carryOutLetters mi_X7_carryOutLetters ml_X7_329 (hm.1.1) (by first | decide | omega) rfl (by decide) (by omega) (by omega) rfl (Nat.le_of_ble_eq_true rfl) dX7_pass_33 (fun v_33 S_33 hp_33 => ?_)
            obtain ⟨rfl, hm2, F2⟩ := hp_33
            simp only [Option.toList, List.cons_append, List.nil_append]
            have eday : gX S_33 9 11 x = nI (mN (mDays M t).1 40) := by
              have z := hm2.1.2.2.2.2.2.2.2.2
              rw [mCarN_n] at z
              exact z
            refine g_iadd G dX7_pass_36 (by first | exact nI_add _ _ | rfl) ?_
            refine g_istore_n G dX7_pass_37 (gSt_2 (by first | rfl | exact g_c1_rf)) ?_
            first | refine g_aload_n G dX7_pass_38 rfl ?_ | refine g_aload_nN G dX7_pass_38 rfl ?_ | refine g_aload_nQ G dX7_pass_38 rfl ?_
            refine g_dup G dX7_pass_39 rfl ?_
            refine g_getI G fl_X7_52 (hm2.1.1) (by first | decide | omega) rfl (eday) dX7_pass_40 ?_
            refine g_iconst (v := nI 1) G dX7_pass_43 (by decide) ?_
            refine g_iadd G dX7_pass_44 (by first | exact nI_add _ _ | rfl) ?_
            refine g_putI G fl_X7_52 pu_8_11 (hm2.1.1) (by first | decide | omega) rfl dX7_pass_45 ?_
            obtain ⟨ad3, hm4, F4⟩ := gMail_day (n := mN (mDays M t).1 40 + 1) hm2
            first | refine g_aload_n G dX7_pass_48 rfl ?_ | refine g_aload_nN G dX7_pass_48 rfl ?_ | refine g_aload_nQ G dX7_pass_48 rfl ?_
            refine g_callV (ci := 8) G (c_X7_callBackOriginals _ _ x ad3 _ hm4) mt_X7_callBackOriginals mi_X7_callBackOriginals ml_X7_332 (hm4.1.1) (by first | decide | omega) rfl (by decide) (by omega) (by omega) rfl (Nat.le_of_ble_eq_true rfl) dX7_pass_49 (fun v_49 S_49 hp_49 => ?_)
            obtain ⟨rfl, hm5, F5⟩ := hp_49
            simp only [Option.toList, List.nil_append]
            have e5 : mRetN (uN (mCarN (mDays M t).1 (3 * gClk (mDays M t).1)).1 40 (mN (mDays M t).1 40 + 1)) (mN (uN (mCarN (mDays M t).1 (3 * gClk (mDays M t).1)).1 40 (mN (mDays M t).1 40 + 1)) 11) = mDay (mDays M t).1 := by
              unfold mDay
              rw [show mN (uN (mCarN (mDays M t).1 (3 * gClk (mDays M t).1)).1 40 (mN (mDays M t).1 40 + 1)) 11 = mN (mDays M t).1 11 from (congrFun (mCarN_n _ _) 11)]
            rw [e5] at hm5
            refine g_iinc (v := _) G dX7_pass_52 rfl (by first | exact nI_1 _ | rfl) (gSt_3 (by first | rfl | exact g_c1_rf)) ?_
            refine g_goto (tgt := 26) G dX7_pass_55 (by decide) ?_
            exact ih2 (t + 1) _ (by omega) (by omega) ⟨⟨ad3, hm5⟩, ((Fs.tr (K := gMk) F2 (fun _ z => ⟨z, z⟩)).tr (K := gMk) F4 (fun _ z => ⟨z, z⟩)).tr (K := gMk) F5 (fun _ z => ⟨z, z⟩)⟩
      exact inner26 (n + 1) 0 _ (by omega) (by omega) ⟨⟨ad, h⟩, gFr.rf S⟩
    · have hno : ¬ (nI 1 ≤ i ∧ i ≤ nI 100) := fun z => c_8 z.2
      exact g_throwW (names := nm_IAE) G F tf_IAE cl_X7_66 ti_IAE st_X7_327 ta_IAE dX7_pass_11 (by exact dX7_pass_14) (by exact dX7_pass_15) (by exact dX7_pass_18) (by exact dX7_pass_21) (by decide) (Nat.le_of_ble_eq_true rfl) (by omega) (by omega) (⟨rfl, rfl, hno⟩)
