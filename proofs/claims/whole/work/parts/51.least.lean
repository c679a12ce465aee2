/-! ===== the reference: least, sees, plain, digest ===== -/
theorem gHidR_mono {M : gM} {d k r r' : Nat} (hr : r ≤ r') (h9 : r' < 2 ^ 31) (h : gHidR M d (nI r) k = false) : gHidR M d (nI r') k = false := by
  by_cases e : r = r'
  · rw [← e]; exact h
  have n0 : ∀ j : Nat, j < 2 ^ 31 → ¬ nI j = -1 := fun j hj z => absurd (show nI j < 0 by rw [z]; decide) (nI_pos hj)
  have h1 := Classical.not_not.mp (of_decide_eq_false (show decide _ = false from h))
  refine decide_eq_false (fun z => z ?_)
  unfold gSeenAt at h1 ⊢
  rw [if_neg (n0 r (by omega))] at h1
  rw [if_neg (n0 r' h9)]
  unfold gSeen at h1 ⊢
  by_cases c1 : mT M 13 d k = nI 10
  · rw [if_pos c1]; exact c1.symm
  · rw [if_neg c1] at h1 ⊢
    by_cases c2 : nI r' < mT M 14 d k
    · rw [if_pos c2]
      rw [if_pos (Int32.lt_of_le_of_lt ((nI_leI (show r < 2 ^ 31 by omega) h9).mpr hr) c2)] at h1
      exact h1
    · rw [if_neg c2, if_neg (fun z => absurd ((nI_eq (b := 0) h9 (by omega)).mp z.1) (by omega))]
theorem gHidR_9 {M : gM} {d k : Nat} (h : mT M 14 d k ≤ nI 9) : gHidR M d (nI 9) k = false := by
  refine decide_eq_false (fun z => z ?_)
  unfold gSeenAt
  rw [if_neg (by decide)]
  unfold gSeen
  by_cases c1 : mT M 13 d k = nI 10
  · rw [if_pos c1]; exact c1.symm
  · rw [if_neg c1, if_neg (Int32.not_lt.mpr h), if_neg (fun z => absurd z.1 (by decide))]
theorem gcn_zero {p : Nat → Bool} {a n : Nat} : gcn p a n = 0 ↔ ∀ k, a ≤ k → k < a + n → p k = false := by
  unfold gcn
  rw [gct_zero]
  exact ⟨fun h k h1 h2 => by have := h (k - a) (by omega); rwa [show a + (k - a) = k by omega] at this, fun h k hk => h (a + k) (by omega) (by omega)⟩
theorem gLeast_one {M : gM} {d a e r r' : Nat} (h : gLeast M d a e r) (h' : gLeast M d a e r') : r = r' := by
  have key : ∀ {r r' : Nat}, gLeast M d a e r → gLeast M d a e r' → ¬ r < r' := by
    rintro r r' ⟨s, e1, s1, s2, s3, s4⟩ ⟨s', e1', s1', s2', s3', s4'⟩ hlt
    have hss : s' = s := (nI_eq (by omega) (by omega)).mp (e1'.symm.trans e1)
    exact s4' r (by omega) hlt (s3.resolve_left (by omega))
  have k1 := key h h'
  have k2 := key h' h
  omega
theorem gInv.s {M : gM} (i : gInv M) {c : Nat} (h : c < mN M 6) : gWt 9 (mA M 7 c) := i.2.2.2.1.1 c h
theorem gInv.ps {M : gM} (i : gInv M) {p : Nat} (h : p < mN M 8) : gWt 3 (mA M 9 p) ∧ gWt 9 (mA M 41 p) ∧ gWt 2 (mA M 42 p) := i.2.2.2.1.2.1 p h
theorem gInv.tx {M : gM} (i : gInv M) {d j : Nat} (h : d < mN M 11) (hj : j < mN M (100 + d)) : gWt 127 (mT M 13 d j) ∧ gWt 9 (mT M 14 d j) ∧ gWt 1 (mT M 15 d j) := i.2.2.2.1.2.2.1 d j h hj

set_option maxHeartbeats 4000000 in
set_option maxRecDepth 100000 in
theorem c_X9_least (d0 : Nat × Nat) (S : gS) (y : Nat) (b : Nat → Nat → Nat) (M : gM) (h : gRef S y b M) (i : gInv M) (d a e : Nat) (hd2 : d < mN M 11) (ha : a ≤ e) (he : e ≤ mN M (100 + d)) : gCt d0 yX9_least cX9_least 6 (some .int) 10 1 12 [.ref y, .int (nI d), .int (nI a), .int (nI e)] S (fun v' S' => ∃ u, gLeast M d a e u ∧ gAn S y 0 M (some (.int (nI u))) v' S') gNo := by
  refine gCt_of (lo := [some (.ref y), some (.int (nI d)), some (.int (nI a)), some (.int (nI e)), none, none]) (by decide +kernel) (Nat.le_of_ble_eq_true rfl) (rfl) ?_
  intro Γ hd G F hini
  have i6 := i.b.1
  obtain ⟨kc, kc1, kc2⟩ := i.c hd2
  have ec : mC M d = kc := by rw [mC, kc2, nI_clamp (by omega)]
  have hs := i.2.2.2.1.1 kc kc1
  have it := i.t hd2
  obtain ⟨s, hs9, es0⟩ := gWt_of hs (by omega)
  have es : mA M 7 (mC M d) = nI s := by rw [ec]; exact es0
  skip
  first | refine g_aload_n G dX9_least_0 rfl ?_ | refine g_aload_nN G dX9_least_0 rfl ?_ | refine g_aload_nQ G dX9_least_0 rfl ?_
  refine g_iconst (v := nI 0) G dX9_least_1 (by decide) ?_
  refine g_putI G fl_X9_91 pu_10_0 (h.1.kd) (by first | decide | omega) rfl dX9_least_2 ?_
  have h0 := gRef_th (v := nI 0) h
  obtain ⟨r, q, -⟩ := id h0
  obtain ⟨i6, i8, i11, i17, i23, i2, i5⟩ := i.b
  first | refine g_aload_n G dX9_least_5 rfl ?_ | refine g_aload_nN G dX9_least_5 rfl ?_ | refine g_aload_nQ G dX9_least_5 rfl ?_
  refine g_iload_n G dX9_least_6 rfl ?_
  refine g_callVp (ci := 10) G (c_X9_isDocument _ _ _ _ _ r i _) mt_X9_isDocument mi_X9_isDocument ml_X9_164 (r.kd) (by first | decide | omega) rfl (by decide) (by omega) (by omega) rfl (Nat.le_of_ble_eq_true rfl) dX9_least_7 ?_
  refine g_if_ne (tgt := 19) G dX9_least_10 (by decide) (fun c_10 => ?_) (fun c_10 => (absurd c_10 (gIxB_ok hd2 (by omega))))
  refine g_iload_n G dX9_least_19 rfl ?_
  refine g_iconst (v := nI 0) G dX9_least_20 (by decide) ?_
  refine g_iload_n G dX9_least_21 rfl ?_
  refine g_callSp G (c_X9_isIn _ _ _ _ _) mt_X9_isIn ms_X9_isIn ml_X9_97 (by decide) (by omega) (by omega) rfl (Nat.le_of_ble_eq_true rfl) dX9_least_22 ?_
  refine g_if_eq (tgt := 39) G dX9_least_25 (by decide) (fun c_25 => (absurd c_25 (gIn_ok ha (by omega)))) (fun c_25 => ?_)
  refine g_iload_n G dX9_least_28 rfl ?_
  first | refine g_aload_n G dX9_least_29 rfl ?_ | refine g_aload_nN G dX9_least_29 rfl ?_ | refine g_aload_nQ G dX9_least_29 rfl ?_
  refine g_getR G fl_X9_33 (r.kd) (by first | decide | omega) rfl (r.RY 13 (by decide)) dX9_least_30 ?_
  refine g_iload_n G dX9_least_33 rfl ?_
  refine g_aald G (r.RA 13 (by decide)) (by first | decide | omega) (by rw [r.RL 13 (by decide)]; omega) (by omega) (r.RR 13 (by decide) (by omega)) dX9_least_34 ?_
  refine g_alen G (r.TK 13 (by decide) (by omega)) (by first | decide | omega) (r.TL 13 (by decide) (by omega)) dX9_least_35 ?_
  refine g_icmp_le (tgt := 45) G dX9_least_36 (by decide) (fun c_36 => ?_) (fun c_36 => (absurd ((nI_leI (by omega) (by omega)).mpr he) c_36))
  first | refine g_aload_n G dX9_least_45 rfl ?_ | refine g_aload_nN G dX9_least_45 rfl ?_ | refine g_aload_nQ G dX9_least_45 rfl ?_
  refine g_getR G fl_X9_20 (r.kd) (by first | decide | omega) rfl (r.Y 7 rfl) dX9_least_46 ?_
  first | refine g_aload_n G dX9_least_49 rfl ?_ | refine g_aload_nN G dX9_least_49 rfl ?_ | refine g_aload_nQ G dX9_least_49 rfl ?_
  refine g_getR G fl_X9_29 (r.kd) (by first | decide | omega) rfl (r.Y 12 rfl) dX9_least_50 ?_
  refine g_iload_n G dX9_least_53 rfl ?_
  refine g_iald G (r.A 12 rfl) (by first | decide | omega) (r.lt 12 23 rfl (by omega)) (by omega) ((r.X 12 23 rfl rfl (by omega)).trans kc2) dX9_least_54 ?_
  refine g_iald G (r.A 7 rfl) (by first | decide | omega) (r.lt 7 7 rfl (by omega)) (by omega) ((r.X 7 7 rfl rfl (by omega)).trans es0) dX9_least_55 ?_
  refine g_istore G dX9_least_56 (gSt_4 (by first | rfl | exact g_c1_rf)) ?_
  refine g_iload_n G dX9_least_58 rfl ?_
  refine g_istore G dX9_least_59 (gSt_5 (by first | rfl | exact g_c1_rf)) ?_
  have loop61 : ∀ f2 t : Nat, ∀ (u : Nat), t ≤ e → e + 1 ≤ t + f2 → (s ≤ u ∧ u ≤ 9 ∧ (∀ k, a ≤ k → k < t → gHidR M d (nI u) k = false) ∧ (∀ z, s ≤ z → z < u → ∃ k, a ≤ k ∧ k ≤ t ∧ k < e ∧ gHidR M d (nI z) k = true) ∧ a ≤ t) → gW Γ 61 [some (.ref y), some (.int (nI d)), some (.int (nI a)), some (.int (nI e)), some (.int (nI u)), some (.int (nI (t)))] [] (sX S 11 0 y (nI 0)) 0 0 := by
    intro f2
    induction f2 with
    | zero => intro t u q1 q2; omega
    | succ f2 ih2 =>
      intro t u ht2 hf2  hv2
      refine g_iload G dX9_least_61 rfl ?_
      refine g_iload_n G dX9_least_63 rfl ?_
      refine g_icmp_ge (tgt := 100) G dX9_least_64 (by decide) (fun c_64 => ?_) (fun c_64 => ?_)
      · have et : t = e := by have := (nI_leI (by omega) (by omega)).mp c_64; omega
        subst et
        refine g_iload G dX9_least_100 rfl ?_
        exact g_iret G F (⟨u, ⟨s, es, hv2.1, hv2.2.1, Or.inr (gcn_zero.mpr (fun k h1 h2 => hv2.2.2.1 k h1 (by omega))), fun z h1 h2 w => (hv2.2.2.2.1 z h1 h2).elim (fun k y9 => by rw [gcn_zero.mp w k y9.1 (by omega)] at y9; exact absurd y9.2.2.2 (by decide))⟩, gAn_0 h⟩) (by omega) (by omega) dX9_least_102
      · have hlt2 : t < e := by have z : ¬ e ≤ t := fun z => c_64 ((nI_leI (by omega) (by omega)).mpr z); omega
        have hlt2a := hlt2
        have hlv := (i.tx hd2 (show t < mN M (100 + d) by omega)).2.1.2
        have hat : a ≤ t := hv2.2.2.2.2
        have loop67 : ∀ f2 u : Nat, u ≤ 9 → 9 + 1 ≤ u + f2 → (s ≤ u ∧ (∀ k, a ≤ k → k < t → gHidR M d (nI u) k = false) ∧ ∀ z, s ≤ z → z < u → ∃ k, a ≤ k ∧ k ≤ t ∧ k < e ∧ gHidR M d (nI z) k = true) → gW Γ 67 [some (.ref y), some (.int (nI d)), some (.int (nI a)), some (.int (nI e)), some (.int (nI (u))), some (.int (nI t))] [] (sX S 11 0 y (nI 0)) 0 0 := by
          intro f2
          induction f2 with
          | zero => intro u  q1 q2; omega
          | succ f2 ih3 =>
            intro u  ht2 hf2  hv2
            first | refine g_aload_n G dX9_least_67 rfl ?_ | refine g_aload_nN G dX9_least_67 rfl ?_ | refine g_aload_nQ G dX9_least_67 rfl ?_
            refine g_iload_n G dX9_least_68 rfl ?_
            refine g_iload G dX9_least_69 rfl ?_
            refine g_iload G dX9_least_71 rfl ?_
            refine g_callVp (ci := 10) G (c_X9_seen _ _ _ _ _ r i _ _ _ (by omega) (by omega)) mt_X9_seen mi_X9_seen ml_X9_203 (r.kd) (by first | decide | omega) rfl (by decide) (by omega) (by omega) rfl (Nat.le_of_ble_eq_true rfl) dX9_least_73 ?_
            first | refine g_aload_n G dX9_least_76 rfl ?_ | refine g_aload_nN G dX9_least_76 rfl ?_ | refine g_aload_nQ G dX9_least_76 rfl ?_
            refine g_getR G fl_X9_33 (r.kd) (by first | decide | omega) rfl (r.RY 13 (by decide)) dX9_least_77 ?_
            refine g_iload_n G dX9_least_80 rfl ?_
            refine g_aald G (r.RA 13 (by decide)) (by first | decide | omega) (by rw [r.RL 13 (by decide)]; omega) (by omega) (r.RR 13 (by decide) (by omega)) dX9_least_81 ?_
            refine g_iload G dX9_least_82 rfl ?_
            refine g_iald G (r.TK 13 (by decide) (by omega)) (by first | decide | omega) (r.tlt 13 (by decide) (by omega) (by omega)) (by omega) (r.TX 13 (by decide) (by omega) (by omega)) dX9_least_84 ?_
            refine g_icmp_eq (tgt := 94) G dX9_least_85 (by decide) (fun c_85 => ?_) (fun c_85 => ?_)
            · have n0 : ¬ nI u = -1 := fun z => absurd (show nI u < 0 by rw [z]; decide) (nI_pos (by omega))
              have e9 : gHidR M d (nI u) t = false := decide_eq_false (fun z => z ((if_neg n0).trans c_85))
              refine g_iinc (v := _) G dX9_least_94 rfl (by first | exact nI_1 _ | rfl) (gSt_5 (by first | rfl | exact g_c1_rf)) ?_
              refine g_goto (tgt := 61) G dX9_least_97 (by decide) ?_
              exact ih2 (t + 1) u (by omega) (by omega) ⟨hv2.1, ht2, fun k h1 h2 => (Nat.lt_or_ge k t).elim (hv2.2.1 k h1) (fun z => by rw [show k = t by omega]; exact e9), fun z h1 h2 => (hv2.2.2 z h1 h2).elim fun k w => ⟨k, w.1, by omega, w.2.2⟩, by omega⟩
            · have n0 : ¬ nI u = -1 := fun z => absurd (show nI u < 0 by rw [z]; decide) (nI_pos (by omega))
              have e9 : gHidR M d (nI u) t = true := decide_eq_true (fun z => c_85 ((if_neg n0).symm.trans z))
              have hlt2 : u < 9 := by
                have z : ¬ u = 9 := fun z => by
                  have y9 := gHidR_9 (M := M) (d := d) (k := t) hlv
                  rw [z, y9] at e9
                  cases e9
                omega
              refine g_iinc (v := _) G dX9_least_88 rfl (by first | exact nI_1 _ | rfl) (gSt_4 (by first | rfl | exact g_c1_rf)) ?_
              refine g_goto (tgt := 67) G dX9_least_91 (by decide) ?_
              exact ih3 (u + 1) (by omega) (by omega) ⟨by omega, fun k h1 h2 => gHidR_mono (by omega) (by omega) (hv2.2.1 k h1 h2), fun z h1 h2 => (Nat.lt_or_ge z u).elim (hv2.2.2 z h1) (fun w => ⟨t, hat, by omega, by omega, by rw [show z = u by omega]; exact e9⟩)⟩
        exact loop67 (9 + 1) u (by omega) (by omega) ⟨hv2.1, hv2.2.2.1, hv2.2.2.2.1⟩
  exact loop61 (e + 1) a s (by omega) (by omega) ⟨Nat.le_refl s, hs9, fun k h1 h2 => by omega, fun z h1 h2 => by omega, Nat.le_refl a⟩

set_option maxHeartbeats 4000000 in
set_option maxRecDepth 100000 in
theorem c_X9_least_no (d0 : Nat × Nat) (S : gS) (y : Nat) (b : Nat → Nat → Nat) (M : gM) (h : gRef S y b M) (i : gInv M) (d f g : Int32) (hno : ¬ gIx (mN M 11) d) : gCt d0 yX9_least cX9_least 6 (some .int) 10 1 12 [.ref y, .int d, .int f, .int g] S (gAn S y 1 M (some (.int (nI 0)))) gNo := by
  refine gCt_of (lo := [some (.ref y), some (.int d), some (.int f), some (.int g), none, none]) (by decide +kernel) (Nat.le_of_ble_eq_true rfl) (rfl) ?_
  intro Γ hd G F hini
  first | refine g_aload_n G dX9_least_0 rfl ?_ | refine g_aload_nN G dX9_least_0 rfl ?_ | refine g_aload_nQ G dX9_least_0 rfl ?_
  refine g_iconst (v := nI 0) G dX9_least_1 (by decide) ?_
  refine g_putI G fl_X9_91 pu_10_0 (h.1.kd) (by first | decide | omega) rfl dX9_least_2 ?_
  have h0 := gRef_th (v := nI 0) h
  obtain ⟨r, q, -⟩ := id h0
  obtain ⟨i6, i8, i11, i17, i23, i2, i5⟩ := i.b
  first | refine g_aload_n G dX9_least_5 rfl ?_ | refine g_aload_nN G dX9_least_5 rfl ?_ | refine g_aload_nQ G dX9_least_5 rfl ?_
  refine g_iload_n G dX9_least_6 rfl ?_
  refine g_callVp (ci := 10) G (c_X9_isDocument _ _ _ _ _ r i _) mt_X9_isDocument mi_X9_isDocument ml_X9_164 (r.kd) (by first | decide | omega) rfl (by decide) (by omega) (by omega) rfl (Nat.le_of_ble_eq_true rfl) dX9_least_7 ?_
  refine g_if_ne (tgt := 19) G dX9_least_10 (by decide) (fun c_10 => (absurd (gIxB_y c_10) hno)) (fun c_10 => ?_)
  first | refine g_aload_n G dX9_least_13 rfl ?_ | refine g_aload_nN G dX9_least_13 rfl ?_ | refine g_aload_nQ G dX9_least_13 rfl ?_
  refine g_iconst (v := nI 1) G dX9_least_14 (by decide) ?_
  refine g_callV (ci := 10) G (c_X9_no _ _ _ _ r.kd) mt_X9_no mi_X9_no ml_X9_113 (r.kd) (by first | decide | omega) rfl (by decide) (by omega) (by omega) rfl (Nat.le_of_ble_eq_true rfl) dX9_least_15 (fun v_15 S_15 hp_15 => ?_)
  obtain ⟨rfl, rfl⟩ := hp_15
  simp only [Option.toList, List.cons_append, List.nil_append]
  exact g_iret G F (gAn_N 1 h) (by omega) (by omega) dX9_least_18

set_option maxHeartbeats 4000000 in
set_option maxRecDepth 100000 in
theorem c_X9_least_no2 (d0 : Nat × Nat) (S : gS) (y : Nat) (b : Nat → Nat → Nat) (M : gM) (h : gRef S y b M) (i : gInv M) (d : Nat) (f g : Int32) (hd2 : d < mN M 11) (hno : ¬ (0 ≤ f ∧ f ≤ g ∧ g ≤ nI (mN M (100 + d)))) : gCt d0 yX9_least cX9_least 6 (some .int) 10 1 12 [.ref y, .int (nI d), .int f, .int g] S (gAn S y 2 M (some (.int (nI 0)))) gNo := by
  refine gCt_of (lo := [some (.ref y), some (.int (nI d)), some (.int f), some (.int g), none, none]) (by decide +kernel) (Nat.le_of_ble_eq_true rfl) (rfl) ?_
  intro Γ hd G F hini
  have it := i.t hd2
  first | refine g_aload_n G dX9_least_0 rfl ?_ | refine g_aload_nN G dX9_least_0 rfl ?_ | refine g_aload_nQ G dX9_least_0 rfl ?_
  refine g_iconst (v := nI 0) G dX9_least_1 (by decide) ?_
  refine g_putI G fl_X9_91 pu_10_0 (h.1.kd) (by first | decide | omega) rfl dX9_least_2 ?_
  have h0 := gRef_th (v := nI 0) h
  obtain ⟨r, q, -⟩ := id h0
  obtain ⟨i6, i8, i11, i17, i23, i2, i5⟩ := i.b
  first | refine g_aload_n G dX9_least_5 rfl ?_ | refine g_aload_nN G dX9_least_5 rfl ?_ | refine g_aload_nQ G dX9_least_5 rfl ?_
  refine g_iload_n G dX9_least_6 rfl ?_
  refine g_callVp (ci := 10) G (c_X9_isDocument _ _ _ _ _ r i _) mt_X9_isDocument mi_X9_isDocument ml_X9_164 (r.kd) (by first | decide | omega) rfl (by decide) (by omega) (by omega) rfl (Nat.le_of_ble_eq_true rfl) dX9_least_7 ?_
  refine g_if_ne (tgt := 19) G dX9_least_10 (by decide) (fun c_10 => ?_) (fun c_10 => (absurd c_10 (gIxB_ok hd2 (by omega))))
  refine g_iload_n G dX9_least_19 rfl ?_
  refine g_iconst (v := nI 0) G dX9_least_20 (by decide) ?_
  refine g_iload_n G dX9_least_21 rfl ?_
  refine g_callSp G (c_X9_isIn _ _ _ _ _) mt_X9_isIn ms_X9_isIn ml_X9_97 (by decide) (by omega) (by omega) rfl (Nat.le_of_ble_eq_true rfl) dX9_least_22 ?_
  refine g_if_eq (tgt := 39) G dX9_least_25 (by decide) (fun c_25 => ?_) (fun c_25 => ?_)
  · first | refine g_aload_n G dX9_least_39 rfl ?_ | refine g_aload_nN G dX9_least_39 rfl ?_ | refine g_aload_nQ G dX9_least_39 rfl ?_
    refine g_iconst (v := nI 2) G dX9_least_40 (by decide) ?_
    refine g_callV (ci := 10) G (c_X9_no _ _ _ _ r.kd) mt_X9_no mi_X9_no ml_X9_113 (r.kd) (by first | decide | omega) rfl (by decide) (by omega) (by omega) rfl (Nat.le_of_ble_eq_true rfl) dX9_least_41 (fun v_41 S_41 hp_41 => ?_)
    obtain ⟨rfl, rfl⟩ := hp_41
    simp only [Option.toList, List.cons_append, List.nil_append]
    exact g_iret G F (gAn_N 2 h) (by omega) (by omega) dX9_least_44
  · have z1 := of_decide_eq_true (gB_ne0.mp c_25)
    refine g_iload_n G dX9_least_28 rfl ?_
    first | refine g_aload_n G dX9_least_29 rfl ?_ | refine g_aload_nN G dX9_least_29 rfl ?_ | refine g_aload_nQ G dX9_least_29 rfl ?_
    refine g_getR G fl_X9_33 (r.kd) (by first | decide | omega) rfl (r.RY 13 (by decide)) dX9_least_30 ?_
    refine g_iload_n G dX9_least_33 rfl ?_
    refine g_aald G (r.RA 13 (by decide)) (by first | decide | omega) (by rw [r.RL 13 (by decide)]; omega) (by omega) (r.RR 13 (by decide) (by omega)) dX9_least_34 ?_
    refine g_alen G (r.TK 13 (by decide) (by omega)) (by first | decide | omega) (r.TL 13 (by decide) (by omega)) dX9_least_35 ?_
    refine g_icmp_le (tgt := 45) G dX9_least_36 (by decide) (fun c_36 => (absurd ⟨z1.1, z1.2, c_36⟩ hno)) (fun c_36 => ?_)
    first | refine g_aload_n G dX9_least_39 rfl ?_ | refine g_aload_nN G dX9_least_39 rfl ?_ | refine g_aload_nQ G dX9_least_39 rfl ?_
    refine g_iconst (v := nI 2) G dX9_least_40 (by decide) ?_
    refine g_callV (ci := 10) G (c_X9_no _ _ _ _ r.kd) mt_X9_no mi_X9_no ml_X9_113 (r.kd) (by first | decide | omega) rfl (by decide) (by omega) (by omega) rfl (Nat.le_of_ble_eq_true rfl) dX9_least_41 (fun v_41 S_41 hp_41 => ?_)
    obtain ⟨rfl, rfl⟩ := hp_41
    simp only [Option.toList, List.cons_append, List.nil_append]
    exact g_iret G F (gAn_N 2 h) (by omega) (by omega) dX9_least_44

set_option maxHeartbeats 4000000 in
set_option maxRecDepth 100000 in
theorem c_X9_sees (d0 : Nat × Nat) (S : gS) (y : Nat) (b : Nat → Nat → Nat) (M : gM) (h : gRef S y b M) (i : gInv M) (c : Nat) (hc : c < mN M 6) : gCt d0 yX9_sees cX9_sees 7 (some .int) 10 1 12 [.ref y, .int (nI c)] S (gAn S y 0 M (some (.int ((gSees M c (mN M 8)).1)))) gNo := by
  refine gCt_of (lo := [some (.ref y), some (.int (nI c)), none, none, none, none, none]) (by decide +kernel) (Nat.le_of_ble_eq_true rfl) (rfl) ?_
  intro Γ hd G F hini
  first | refine g_aload_n G dX9_sees_0 rfl ?_ | refine g_aload_nN G dX9_sees_0 rfl ?_ | refine g_aload_nQ G dX9_sees_0 rfl ?_
  refine g_iconst (v := nI 0) G dX9_sees_1 (by decide) ?_
  refine g_putI G fl_X9_91 pu_10_0 (h.1.kd) (by first | decide | omega) rfl dX9_sees_2 ?_
  have h0 := gRef_th (v := nI 0) h
  obtain ⟨r, q, -⟩ := id h0
  obtain ⟨i6, i8, i11, i17, i23, i2, i5⟩ := i.b
  first | refine g_aload_n G dX9_sees_5 rfl ?_ | refine g_aload_nN G dX9_sees_5 rfl ?_ | refine g_aload_nQ G dX9_sees_5 rfl ?_
  refine g_iload_n G dX9_sees_6 rfl ?_
  refine g_callVp (ci := 10) G (c_X9_isCase _ _ _ _ _ r i _) mt_X9_isCase mi_X9_isCase ml_X9_147 (r.kd) (by first | decide | omega) rfl (by decide) (by omega) (by omega) rfl (Nat.le_of_ble_eq_true rfl) dX9_sees_7 ?_
  refine g_if_ne (tgt := 19) G dX9_sees_10 (by decide) (fun c_10 => ?_) (fun c_10 => (absurd c_10 (gIxB_ok hc (by omega))))
  refine g_iconst (v := nI 0) G dX9_sees_19 (by decide) ?_
  refine g_istore_n G dX9_sees_20 (gSt_2 (by first | rfl | exact g_c1_rf)) ?_
  refine g_iconst (v := (-1)) G dX9_sees_21 (by decide) ?_
  refine g_istore_n G dX9_sees_22 (gSt_3 (by first | rfl | exact g_c1_rf)) ?_
  refine g_iconst (v := nI 0) G dX9_sees_23 (by decide) ?_
  refine g_istore G dX9_sees_24 (gSt_4 (by first | rfl | exact g_c1_rf)) ?_
  have loop26 : ∀ f2 t : Nat, t ≤ (mN M 8) → (mN M 8) + 1 ≤ t + f2 → ∀ w5 w6 : Option Value, gW Γ 26 [some (.ref y), some (.int (nI c)), some (.int (nI (gSees M c (t)).2)), some (.int (gSees M c (t)).1), some (.int (nI (t))), w5, w6] [] (sX S 11 0 y (nI 0)) 0 0 := by
    intro f2
    induction f2 with
    | zero => intro t  q1 q2; omega
    | succ f2 ih2 =>
      intro t  ht2 hf2 w5 w6
      refine g_iload G dX9_sees_26 rfl ?_
      first | refine g_aload_n G dX9_sees_28 rfl ?_ | refine g_aload_nN G dX9_sees_28 rfl ?_ | refine g_aload_nQ G dX9_sees_28 rfl ?_
      refine g_getI G fl_X9_101 (r.kd) (by first | decide | omega) rfl (r.n 8 rfl) dX9_sees_29 ?_
      refine g_icmp_ge (tgt := 138) G dX9_sees_32 (by decide) (fun c_32 => ?_) (fun c_32 => ?_)
      · have et : t = (mN M 8) := by have := (nI_leI (by omega) (by omega)).mp c_32; omega
        subst et
        refine g_iload_n G dX9_sees_138 rfl ?_
        exact g_iret G F (gAn_0 h) (by omega) (by omega) dX9_sees_139
      · have hlt2 : t < (mN M 8) := by have z : ¬ (mN M 8) ≤ t := fun z => c_32 ((nI_leI (by omega) (by omega)).mpr z); omega
        first | refine g_aload_n G dX9_sees_35 rfl ?_ | refine g_aload_nN G dX9_sees_35 rfl ?_ | refine g_aload_nQ G dX9_sees_35 rfl ?_
        refine g_getR G fl_X9_23 (r.kd) (by first | decide | omega) rfl (r.Y 9 rfl) dX9_sees_36 ?_
        refine g_iload G dX9_sees_39 rfl ?_
        refine g_iald G (r.A 9 rfl) (by first | decide | omega) (r.lt 9 11 rfl (by omega)) (by omega) (r.X 9 11 rfl rfl (by omega)) dX9_sees_41 ?_
        refine g_if_eq (tgt := 132) G dX9_sees_42 (by decide) (fun c_42 => ?_) (fun c_42 => ?_)
        · have e9 : gSees M c (t + 1) = gSees M c t := by
            show (if (gSees M c t).2 < gSeesN M c t then (nI t, gSeesN M c t) else gSees M c t) = _
            rw [show gSeesN M c t = 0 from if_neg (fun z => z.elim (fun w => by rw [w] at c_42; exact absurd c_42 (by decide)) (fun w => by rw [w] at c_42; exact absurd c_42 (by decide)))]
            exact if_neg (Nat.not_lt_zero _)
          refine g_iinc (v := _) G dX9_sees_132 rfl (by first | exact nI_1 _ | rfl) (gSt_4 (by first | rfl | exact g_c1_rf)) ?_
          refine g_goto (tgt := 26) G dX9_sees_135 (by decide) ?_
          have h9 := fun w5 w6 => ih2 (t + 1) (by omega) (by omega) w5 w6
          rw [e9] at h9
          exact h9 _ _
        · first | refine g_aload_n G dX9_sees_45 rfl ?_ | refine g_aload_nN G dX9_sees_45 rfl ?_ | refine g_aload_nQ G dX9_sees_45 rfl ?_
          refine g_getR G fl_X9_23 (r.kd) (by first | decide | omega) rfl (r.Y 9 rfl) dX9_sees_46 ?_
          refine g_iload G dX9_sees_49 rfl ?_
          refine g_iald G (r.A 9 rfl) (by first | decide | omega) (r.lt 9 11 rfl (by omega)) (by omega) (r.X 9 11 rfl rfl (by omega)) dX9_sees_51 ?_
          refine g_iconst (v := nI 1) G dX9_sees_52 (by decide) ?_
          refine g_icmp_ne (tgt := 59) G dX9_sees_53 (by decide) (fun c_53 => ?_) (fun c_53 => ?_)
          · have hlt2a := hlt2
            have er : mA M 9 t = nI 2 ∨ mA M 9 t = nI 3 := by
              obtain ⟨z, hz, ez⟩ := gWt_of (i.ps hlt2).1 (by omega)
              rw [ez] at c_42 c_53 ⊢
              have n0 : z ≠ 0 := fun w => c_42 (by rw [w]; rfl)
              have n1 : z ≠ 1 := fun w => c_53 (by rw [w])
              rcases (show z = 2 ∨ z = 3 by omega) with w | w
              · exact Or.inl (by rw [w])
              · exact Or.inr (by rw [w])
            have es : gSeesN M c t = gBytes M t c (mN M 11) := if_pos er
            have hbl := gBytes_le (M := M) (p := t) (c := c) (n := mN M 11) (fun d hd => i.t hd)
            have hsl := gSees_le (M := M) (c := c) (fun d hd => i.t hd) t
            have loop65 : ∀ f2 u : Nat, u ≤ (mN M 11) → (mN M 11) + 1 ≤ u + f2 → gW Γ 65 [some (.ref y), some (.int (nI c)), some (.int (nI (gSees M c t).2)), some (.int (gSees M c t).1), some (.int (nI t)), some (.int (nI (gBytes M t c (u)))), some (.int (nI (u)))] [] (sX S 11 0 y (nI 0)) 0 0 := by
              intro f2
              induction f2 with
              | zero => intro u  q1 q2; omega
              | succ f2 ih3 =>
                intro u  ht2 hf2 
                refine g_iload G dX9_sees_65 rfl ?_
                first | refine g_aload_n G dX9_sees_67 rfl ?_ | refine g_aload_nN G dX9_sees_67 rfl ?_ | refine g_aload_nQ G dX9_sees_67 rfl ?_
                refine g_getI G fl_X9_104 (r.kd) (by first | decide | omega) rfl (r.n 11 rfl) dX9_sees_68 ?_
                refine g_icmp_ge (tgt := 117) G dX9_sees_71 (by decide) (fun c_71 => ?_) (fun c_71 => ?_)
                · have et : u = (mN M 11) := by have := (nI_leI (by omega) (by omega)).mp c_71; omega
                  subst et
                  refine g_iload G dX9_sees_117 rfl ?_
                  refine g_iload_n G dX9_sees_119 rfl ?_
                  refine g_icmp_gt (tgt := 126) G dX9_sees_120 (by decide) (fun c_120 => ?_) (fun c_120 => ?_)
                  · have hlt3 : (gSees M c t).2 < gBytes M t c (mN M 11) := (nI_ltI (by omega) (by omega)).mp c_120
                    have e9 : gSees M c (t + 1) = (nI t, gBytes M t c (mN M 11)) := by
                      show (if (gSees M c t).2 < gSeesN M c t then (nI t, gSeesN M c t) else gSees M c t) = _
                      rw [es, if_pos hlt3]
                    refine g_iload G dX9_sees_126 rfl ?_
                    refine g_istore_n G dX9_sees_128 (gSt_2 (by first | rfl | exact g_c1_rf)) ?_
                    refine g_iload G dX9_sees_129 rfl ?_
                    refine g_istore_n G dX9_sees_131 (gSt_3 (by first | rfl | exact g_c1_rf)) ?_
                    refine g_iinc (v := _) G dX9_sees_132 rfl (by first | exact nI_1 _ | rfl) (gSt_4 (by first | rfl | exact g_c1_rf)) ?_
                    refine g_goto (tgt := 26) G dX9_sees_135 (by decide) ?_
                    have h9 := fun w5 w6 => ih2 (t + 1) (by omega) (by omega) w5 w6
                    rw [e9] at h9
                    exact h9 _ _
                  · have hlt3 : ¬ (gSees M c t).2 < gBytes M t c (mN M 11) := fun z => c_120 (nI_lt z (by omega))
                    have e9 : gSees M c (t + 1) = gSees M c t := by
                      show (if (gSees M c t).2 < gSeesN M c t then (nI t, gSeesN M c t) else gSees M c t) = _
                      rw [es, if_neg hlt3]
                    refine g_goto (tgt := 132) G dX9_sees_123 (by decide) ?_
                    refine g_iinc (v := _) G dX9_sees_132 rfl (by first | exact nI_1 _ | rfl) (gSt_4 (by first | rfl | exact g_c1_rf)) ?_
                    refine g_goto (tgt := 26) G dX9_sees_135 (by decide) ?_
                    have h9 := fun w5 w6 => ih2 (t + 1) (by omega) (by omega) w5 w6
                    rw [e9] at h9
                    exact h9 _ _
                · have hlt2 : u < (mN M 11) := by have z : ¬ (mN M 11) ≤ u := fun z => c_71 ((nI_leI (by omega) (by omega)).mpr z); omega
                  refine g_iload G dX9_sees_74 rfl ?_
                  first | refine g_aload_n G dX9_sees_76 rfl ?_ | refine g_aload_nN G dX9_sees_76 rfl ?_ | refine g_aload_nQ G dX9_sees_76 rfl ?_
                  refine g_getR G fl_X9_29 (r.kd) (by first | decide | omega) rfl (r.Y 12 rfl) dX9_sees_77 ?_
                  refine g_iload G dX9_sees_80 rfl ?_
                  refine g_iald G (r.A 12 rfl) (by first | decide | omega) (r.lt 12 23 rfl (by omega)) (by omega) (r.X 12 23 rfl rfl (by omega)) dX9_sees_82 ?_
                  refine g_iload_n G dX9_sees_83 rfl ?_
                  refine g_icmp_ne (tgt := 107) G dX9_sees_84 (by decide) (fun c_84 => ?_) (fun c_84 => ?_)
                  · have e9 := gBytes_no (p := t) (c := c) (n := u) c_84
                    refine g_iconst (v := nI 0) G dX9_sees_107 (by decide) ?_
                    refine g_iadd G dX9_sees_108 (by first | exact nI_add _ _ | rfl) ?_
                    refine g_istore G dX9_sees_109 (gSt_5 (by first | rfl | exact g_c1_rf)) ?_
                    refine g_iinc (v := _) G dX9_sees_111 rfl (by first | exact nI_1 _ | rfl) (gSt_6 (by first | rfl | exact g_c1_rf)) ?_
                    refine g_goto (tgt := 65) G dX9_sees_114 (by decide) ?_
                    have h9 := ih3 (u + 1) (by omega) (by omega)
                    rw [e9] at h9
                    exact h9
                  · have e9 := gBytes_yes (p := t) (c := c) (n := u) c_84
                    have it := i.t hlt2
                    have hh : gHid M t u ≤ mN M (100 + u) := gct_le _ _
                    first | refine g_aload_n G dX9_sees_87 rfl ?_ | refine g_aload_nN G dX9_sees_87 rfl ?_ | refine g_aload_nQ G dX9_sees_87 rfl ?_
                    refine g_getR G fl_X9_33 (r.kd) (by first | decide | omega) rfl (r.RY 13 (by decide)) dX9_sees_88 ?_
                    refine g_iload G dX9_sees_91 rfl ?_
                    refine g_aald G (r.RA 13 (by decide)) (by first | decide | omega) (by rw [r.RL 13 (by decide)]; omega) (by omega) (r.RR 13 (by decide) (by omega)) dX9_sees_93 ?_
                    refine g_alen G (r.TK 13 (by decide) (by omega)) (by first | decide | omega) (r.TL 13 (by decide) (by omega)) dX9_sees_94 ?_
                    first | refine g_aload_n G dX9_sees_95 rfl ?_ | refine g_aload_nN G dX9_sees_95 rfl ?_ | refine g_aload_nQ G dX9_sees_95 rfl ?_
                    refine g_iload G dX9_sees_96 rfl ?_
                    refine g_iload G dX9_sees_98 rfl ?_
                    refine g_callVp (ci := 10) G (c_X9_hiddenOf _ _ _ _ _ r q i _ _ (by omega) (by omega)) mt_X9_hiddenOf mi_X9_hiddenOf ml_X9_216 (r.kd) (by first | decide | omega) rfl (by decide) (by omega) (by omega) rfl (Nat.le_of_ble_eq_true rfl) dX9_sees_100 ?_
                    refine g_isub G dX9_sees_103 (pk_sub hh) ?_
                    refine g_goto (tgt := 108) G dX9_sees_104 (by decide) ?_
                    refine g_iadd G dX9_sees_108 (by first | exact nI_add _ _ | rfl) ?_
                    refine g_istore G dX9_sees_109 (gSt_5 (by first | rfl | exact g_c1_rf)) ?_
                    refine g_iinc (v := _) G dX9_sees_111 rfl (by first | exact nI_1 _ | rfl) (gSt_6 (by first | rfl | exact g_c1_rf)) ?_
                    refine g_goto (tgt := 65) G dX9_sees_114 (by decide) ?_
                    have h9 := ih3 (u + 1) (by omega) (by omega)
                    rw [e9] at h9
                    exact h9
            refine g_iconst (v := nI 0) G dX9_sees_59 (by decide) ?_
            refine g_istore G dX9_sees_60 (gSt_5 (by first | rfl | exact g_c1_rf)) ?_
            refine g_iconst (v := nI 0) G dX9_sees_62 (by decide) ?_
            refine g_istore G dX9_sees_63 (gSt_6 (by first | rfl | exact g_c1_rf)) ?_
            exact loop65 (mN M 11 + 1) 0 (by omega) (by omega)
          · have e9 : gSees M c (t + 1) = gSees M c t := by
              show (if (gSees M c t).2 < gSeesN M c t then (nI t, gSeesN M c t) else gSees M c t) = _
              rw [show gSeesN M c t = 0 from if_neg (fun z => z.elim (fun w => by rw [w] at c_53; exact absurd c_53 (by decide)) (fun w => by rw [w] at c_53; exact absurd c_53 (by decide)))]
              exact if_neg (Nat.not_lt_zero _)
            refine g_goto (tgt := 132) G dX9_sees_56 (by decide) ?_
            refine g_iinc (v := _) G dX9_sees_132 rfl (by first | exact nI_1 _ | rfl) (gSt_4 (by first | rfl | exact g_c1_rf)) ?_
            refine g_goto (tgt := 26) G dX9_sees_135 (by decide) ?_
            have h9 := fun w5 w6 => ih2 (t + 1) (by omega) (by omega) w5 w6
            rw [e9] at h9
            exact h9 _ _
  exact loop26 ((mN M 8) + 1) 0 (by omega) (by omega) _ _

set_option maxHeartbeats 4000000 in
set_option maxRecDepth 100000 in
theorem c_X9_sees_no (d0 : Nat × Nat) (S : gS) (y : Nat) (b : Nat → Nat → Nat) (M : gM) (h : gRef S y b M) (i : gInv M) (c : Int32) (hno : ¬ gIx (mN M 6) c) : gCt d0 yX9_sees cX9_sees 7 (some .int) 10 1 12 [.ref y, .int c] S (gAn S y 1 M (some (.int (nI 0)))) gNo := by
  refine gCt_of (lo := [some (.ref y), some (.int c), none, none, none, none, none]) (by decide +kernel) (Nat.le_of_ble_eq_true rfl) (rfl) ?_
  intro Γ hd G F hini
  first | refine g_aload_n G dX9_sees_0 rfl ?_ | refine g_aload_nN G dX9_sees_0 rfl ?_ | refine g_aload_nQ G dX9_sees_0 rfl ?_
  refine g_iconst (v := nI 0) G dX9_sees_1 (by decide) ?_
  refine g_putI G fl_X9_91 pu_10_0 (h.1.kd) (by first | decide | omega) rfl dX9_sees_2 ?_
  have h0 := gRef_th (v := nI 0) h
  obtain ⟨r, q, -⟩ := id h0
  obtain ⟨i6, i8, i11, i17, i23, i2, i5⟩ := i.b
  first | refine g_aload_n G dX9_sees_5 rfl ?_ | refine g_aload_nN G dX9_sees_5 rfl ?_ | refine g_aload_nQ G dX9_sees_5 rfl ?_
  refine g_iload_n G dX9_sees_6 rfl ?_
  refine g_callVp (ci := 10) G (c_X9_isCase _ _ _ _ _ r i _) mt_X9_isCase mi_X9_isCase ml_X9_147 (r.kd) (by first | decide | omega) rfl (by decide) (by omega) (by omega) rfl (Nat.le_of_ble_eq_true rfl) dX9_sees_7 ?_
  refine g_if_ne (tgt := 19) G dX9_sees_10 (by decide) (fun c_10 => (absurd (gIxB_y c_10) hno)) (fun c_10 => ?_)
  first | refine g_aload_n G dX9_sees_13 rfl ?_ | refine g_aload_nN G dX9_sees_13 rfl ?_ | refine g_aload_nQ G dX9_sees_13 rfl ?_
  refine g_iconst (v := nI 1) G dX9_sees_14 (by decide) ?_
  refine g_callV (ci := 10) G (c_X9_no _ _ _ _ r.kd) mt_X9_no mi_X9_no ml_X9_113 (r.kd) (by first | decide | omega) rfl (by decide) (by omega) (by omega) rfl (Nat.le_of_ble_eq_true rfl) dX9_sees_15 (fun v_15 S_15 hp_15 => ?_)
  obtain ⟨rfl, rfl⟩ := hp_15
  simp only [Option.toList, List.cons_append, List.nil_append]
  exact g_iret G F (gAn_N 1 h) (by omega) (by omega) dX9_sees_18

def gOpn (M : gM) : Nat → Nat
  | 0 => 0
  | n + 1 => gOpn M n + gct (fun k => decide (mT M 14 n k = nI 0)) (mN M (100 + n))
theorem gct_compl {p q : Nat → Bool} : ∀ {n : Nat}, (∀ k, k < n → q k = !p k) → gct p n + gct q n = n
  | 0, _ => rfl
  | n + 1, h => by
    have ih := gct_compl (p := p) (q := q) (n := n) (fun k hk => h k (by omega))
    cases e : p n with
    | true => rw [gct_yes e, gct_no (by rw [h n (by omega), e]; rfl)]; omega
    | false => rw [gct_no e, gct_yes (by rw [h n (by omega), e]; rfl)]; omega
theorem gOpn_all {M : gM} (i : gInv M) : ∀ n, n ≤ mN M 11 → gOpn M n = gAll M n - gVei M n
  | 0, _ => rfl
  | n + 1, h => by
    have ih := gOpn_all i n (by omega)
    have hv := gVei_le M n
    have hc : gct (fun k => decide (mT M 14 n k = nI 0)) (mN M (100 + n)) + gct (fun k => decide (0 < mT M 14 n k)) (mN M (100 + n)) = mN M (100 + n) := gct_compl (fun k hk => by
      obtain ⟨z, hz, ez⟩ := gWt_of (i.tx (show n < mN M 11 by omega) hk).2.1 (by omega)
      show decide (0 < mT M 14 n k) = !decide (mT M 14 n k = nI 0)
      rw [ez]
      by_cases w : z = 0
      · rw [w]; decide
      · rw [decide_eq_true (show (0 : Int32) < nI z from nI_lt (a := 0) (by omega) (by omega)), decide_eq_false (fun y => w ((nI_eq (b := 0) (by omega) (by omega)).mp y))]; rfl)
    unfold gOpn gAll gVei
    omega

set_option maxHeartbeats 4000000 in
set_option maxRecDepth 100000 in
theorem c_X9_plain (d0 : Nat × Nat) (S : gS) (y : Nat) (b : Nat → Nat → Nat) (M : gM) (h : gRef S y b M) (i : gInv M)  : gCt d0 yX9_plain cX9_plain 5 (some .double) 10 1 12 [.ref y] S (gAn S y 0 M (some (.double (gPlain M)))) gNo := by
  refine gCt_of (lo := [some (.ref y), none, none, none, none]) (by decide +kernel) (Nat.le_of_ble_eq_true rfl) (rfl) ?_
  intro Γ hd G F hini
  first | refine g_aload_n G dX9_plain_0 rfl ?_ | refine g_aload_nN G dX9_plain_0 rfl ?_ | refine g_aload_nQ G dX9_plain_0 rfl ?_
  refine g_iconst (v := nI 0) G dX9_plain_1 (by decide) ?_
  refine g_putI G fl_X9_91 pu_10_0 (h.1.kd) (by first | decide | omega) rfl dX9_plain_2 ?_
  have h0 := gRef_th (v := nI 0) h
  obtain ⟨r, q, -⟩ := id h0
  obtain ⟨i6, i8, i11, i17, i23, i2, i5⟩ := i.b
  refine g_iconst (v := nI 0) G dX9_plain_5 (by decide) ?_
  refine g_istore_n G dX9_plain_6 (gSt_1 (by first | rfl | exact g_c1_rf)) ?_
  refine g_iconst (v := nI 0) G dX9_plain_7 (by decide) ?_
  refine g_istore_n G dX9_plain_8 (gSt_2 (by first | rfl | exact g_c1_rf)) ?_
  refine g_iconst (v := nI 0) G dX9_plain_9 (by decide) ?_
  refine g_istore_n G dX9_plain_10 (gSt_3 (by first | rfl | exact g_c1_rf)) ?_
  have hL := gAll_le (M := M) (n := mN M 11) (fun d hd => i.t hd)
  have hV := gVei_le M (mN M 11)
  have hO := gOpn_all i (mN M 11) (Nat.le_refl _)
  have loop11 : ∀ f2 t : Nat, t ≤ (mN M 11) → (mN M 11) + 1 ≤ t + f2 → ∀ w4 : Option Value, gW Γ 11 [some (.ref y), some (.int (nI (gOpn M (t)))), some (.int (nI (gAll M (t)))), some (.int (nI (t))), w4] [] (sX S 11 0 y (nI 0)) 0 0 := by
    intro f2
    induction f2 with
    | zero => intro t  q1 q2; omega
    | succ f2 ih2 =>
      intro t  ht2 hf2 w4
      refine g_iload_n G dX9_plain_11 rfl ?_
      first | refine g_aload_n G dX9_plain_12 rfl ?_ | refine g_aload_nN G dX9_plain_12 rfl ?_ | refine g_aload_nQ G dX9_plain_12 rfl ?_
      refine g_getI G fl_X9_104 (r.kd) (by first | decide | omega) rfl (r.n 11 rfl) dX9_plain_13 ?_
      refine g_icmp_ge (tgt := 76) G dX9_plain_16 (by decide) (fun c_16 => ?_) (fun c_16 => ?_)
      · have et : t = (mN M 11) := by have := (nI_leI (by omega) (by omega)).mp c_16; omega
        subst et
        refine g_iload_n G dX9_plain_76 rfl ?_
        refine g_if_ne (tgt := 84) G dX9_plain_77 (by decide) (fun c_77 => ?_) (fun c_77 => ?_)
        · have z0 : ¬ gAll M (mN M 11) = 0 := fun z => c_77 (by rw [z]; rfl)
          refine g_iload_n G dX9_plain_84 rfl ?_
          refine g_i2d G dX9_plain_85 ?_
          refine g_iload_n G dX9_plain_86 rfl ?_
          refine g_i2d G dX9_plain_87 ?_
          refine g_ddiv G dX9_plain_88 (vf_plain (by omega) (by omega) (by omega)) ?_
          exact g_dret G F (by
            unfold gPlain
            first | (rw [if_pos z0]; exact gAn_0 h) | (rw [if_neg z0, ← hO]; exact gAn_0 h)) (by omega) (by omega) dX9_plain_89
        · have z0 : gAll M (mN M 11) = 0 := (nI_eq (b := 0) (by omega) (by omega)).mp c_77
          refine g_dconst1 G dX9_plain_80 ?_
          refine g_goto (tgt := 89) G dX9_plain_81 (by decide) ?_
          exact g_dret G F (by
            unfold gPlain
            first | (rw [if_pos z0]; exact gAn_0 h) | (rw [if_neg z0, ← hO]; exact gAn_0 h)) (by omega) (by omega) dX9_plain_89
      · have hlt2 : t < (mN M 11) := by have z : ¬ (mN M 11) ≤ t := fun z => c_16 ((nI_leI (by omega) (by omega)).mpr z); omega
        refine g_iload_n G dX9_plain_19 rfl ?_
        first | refine g_aload_n G dX9_plain_20 rfl ?_ | refine g_aload_nN G dX9_plain_20 rfl ?_ | refine g_aload_nQ G dX9_plain_20 rfl ?_
        refine g_getR G fl_X9_33 (r.kd) (by first | decide | omega) rfl (r.RY 13 (by decide)) dX9_plain_21 ?_
        refine g_iload_n G dX9_plain_24 rfl ?_
        refine g_aald G (r.RA 13 (by decide)) (by first | decide | omega) (by rw [r.RL 13 (by decide)]; omega) (by omega) (r.RR 13 (by decide) (by omega)) dX9_plain_25 ?_
        refine g_alen G (r.TK 13 (by decide) (by omega)) (by first | decide | omega) (r.TL 13 (by decide) (by omega)) dX9_plain_26 ?_
        refine g_iadd G dX9_plain_27 (by first | exact nI_add _ _ | rfl) ?_
        refine g_istore_n G dX9_plain_28 (gSt_2 (by first | rfl | exact g_c1_rf)) ?_
        refine g_iconst (v := nI 0) G dX9_plain_29 (by decide) ?_
        refine g_istore G dX9_plain_30 (gSt_4 (by first | rfl | exact g_c1_rf)) ?_
        have hlt2a := hlt2
        have it := i.t hlt2
        have loop32 : ∀ f2 u : Nat, u ≤ (mN M (100 + t)) → (mN M (100 + t)) + 1 ≤ u + f2 → gW Γ 32 [some (.ref y), some (.int (nI (gOpn M t + gct (fun k => decide (mT M 14 t k = nI 0)) (u)))), some (.int (nI (gAll M (t + 1)))), some (.int (nI t)), some (.int (nI (u)))] [] (sX S 11 0 y (nI 0)) 0 0 := by
          intro f2
          induction f2 with
          | zero => intro u  q1 q2; omega
          | succ f2 ih3 =>
            intro u  ht2 hf2 
            refine g_iload G dX9_plain_32 rfl ?_
            first | refine g_aload_n G dX9_plain_34 rfl ?_ | refine g_aload_nN G dX9_plain_34 rfl ?_ | refine g_aload_nQ G dX9_plain_34 rfl ?_
            refine g_getR G fl_X9_33 (r.kd) (by first | decide | omega) rfl (r.RY 13 (by decide)) dX9_plain_35 ?_
            refine g_iload_n G dX9_plain_38 rfl ?_
            refine g_aald G (r.RA 13 (by decide)) (by first | decide | omega) (by rw [r.RL 13 (by decide)]; omega) (by omega) (r.RR 13 (by decide) (by omega)) dX9_plain_39 ?_
            refine g_alen G (r.TK 13 (by decide) (by omega)) (by first | decide | omega) (r.TL 13 (by decide) (by omega)) dX9_plain_40 ?_
            refine g_icmp_ge (tgt := 70) G dX9_plain_41 (by decide) (fun c_41 => ?_) (fun c_41 => ?_)
            · have et : u = (mN M (100 + t)) := by have := (nI_leI (by omega) (by omega)).mp c_41; omega
              subst et
              refine g_iinc (v := _) G dX9_plain_70 rfl (by first | exact nI_1 _ | rfl) (gSt_3 (by first | rfl | exact g_c1_rf)) ?_
              refine g_goto (tgt := 11) G dX9_plain_73 (by decide) ?_
              exact ih2 (t + 1) (by omega) (by omega) _
            · have hlt2 : u < (mN M (100 + t)) := by have z : ¬ (mN M (100 + t)) ≤ u := fun z => c_41 ((nI_leI (by omega) (by omega)).mpr z); omega
              refine g_iload_n G dX9_plain_44 rfl ?_
              first | refine g_aload_n G dX9_plain_45 rfl ?_ | refine g_aload_nN G dX9_plain_45 rfl ?_ | refine g_aload_nQ G dX9_plain_45 rfl ?_
              refine g_getR G fl_X9_37 (r.kd) (by first | decide | omega) rfl (r.RY 14 (by decide)) dX9_plain_46 ?_
              refine g_iload_n G dX9_plain_49 rfl ?_
              refine g_aald G (r.RA 14 (by decide)) (by first | decide | omega) (by rw [r.RL 14 (by decide)]; omega) (by omega) (r.RR 14 (by decide) (by omega)) dX9_plain_50 ?_
              refine g_iload G dX9_plain_51 rfl ?_
              refine g_iald G (r.TK 14 (by decide) (by omega)) (by first | decide | omega) (r.tlt 14 (by decide) (by omega) (by omega)) (by omega) (r.TX 14 (by decide) (by omega) (by omega)) dX9_plain_53 ?_
              refine g_if_ne (tgt := 61) G dX9_plain_54 (by decide) (fun c_54 => ?_) (fun c_54 => ?_)
              · have e9 := gct_no (p := (fun k => decide (mT M 14 t k = nI 0))) (n := u) (decide_eq_false c_54)
                refine g_iconst (v := nI 0) G dX9_plain_61 (by decide) ?_
                refine g_iadd G dX9_plain_62 (by first | exact nI_add _ _ | rfl) ?_
                refine g_istore_n G dX9_plain_63 (gSt_1 (by first | rfl | exact g_c1_rf)) ?_
                refine g_iinc (v := _) G dX9_plain_64 rfl (by first | exact nI_1 _ | rfl) (gSt_4 (by first | rfl | exact g_c1_rf)) ?_
                refine g_goto (tgt := 32) G dX9_plain_67 (by decide) ?_
                have h9 := ih3 (u + 1) (by omega) (by omega)
                rw [e9] at h9
                exact h9
              · have e9 := gct_yes (p := (fun k => decide (mT M 14 t k = nI 0))) (n := u) (decide_eq_true c_54)
                refine g_iconst (v := nI 1) G dX9_plain_57 (by decide) ?_
                refine g_goto (tgt := 62) G dX9_plain_58 (by decide) ?_
                refine g_iadd G dX9_plain_62 (by first | exact nI_add _ _ | rfl) ?_
                refine g_istore_n G dX9_plain_63 (gSt_1 (by first | rfl | exact g_c1_rf)) ?_
                refine g_iinc (v := _) G dX9_plain_64 rfl (by first | exact nI_1 _ | rfl) (gSt_4 (by first | rfl | exact g_c1_rf)) ?_
                refine g_goto (tgt := 32) G dX9_plain_67 (by decide) ?_
                have h9 := ih3 (u + 1) (by omega) (by omega)
                rw [e9] at h9
                exact h9
        exact loop32 ((mN M (100 + t)) + 1) 0 (by omega) (by omega)
  exact loop11 ((mN M 11) + 1) 0 (by omega) (by omega) _
