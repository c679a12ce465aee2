/-! ===== the reference: links, what is seen, the next letter ===== -/
def gOkk (M : gM) (e k : Nat) : Bool := decide (mA M 22 (4 * (12 * e + k) + 2) = -1 ∨ (¬ gRole M (mA M 22 (4 * (12 * e + k) + 2)) = nI 3 ∧ (¬ mA M 22 (4 * (12 * e + k) + 3) = nI 2 ∨ gRole M (mA M 22 (4 * (12 * e + k) + 2)) = nI 1)))
abbrev gGap (M : gM) (e : Nat) : Nat := gct (fun k => decide (mA M 22 (4 * (12 * e + k) + 3) = nI 1)) (mN M (200 + e))
def gGd (M : gM) (e : Nat) : Nat → Bool
  | 0 => decide (gGap M e = 0 ∧ ¬ mA M 19 e = -2 ∧ (mA M 19 e = -1 ∨ gRole M (mA M 19 e) = nI 1 ∨ gRole M (mA M 19 e) = 0))
  | n + 1 => gGd M e n && gOkk M e n
theorem gGd_no {M : gM} {e t : Nat} (h : gGd M e t = false) : ∀ j, gGd M e (t + j) = false
  | 0 => h
  | j + 1 => by
    show (gGd M e (t + j) && _) = false
    rw [gGd_no h j]
    rfl
theorem gGd_all {M : gM} {e : Nat} : ∀ n, gGd M e n = true ↔ gGd M e 0 = true ∧ ∀ k, k < n → gOkk M e k = true
  | 0 => ⟨fun z => ⟨z, fun k hk => absurd hk (Nat.not_lt_zero k)⟩, fun z => z.1⟩
  | n + 1 => by
    show (gGd M e n && gOkk M e n) = true ↔ _
    rw [Bool.and_eq_true, gGd_all n]
    constructor
    · rintro ⟨⟨a, c⟩, d⟩
      exact ⟨a, fun k hk => (Nat.lt_or_ge k n).elim (c k) (fun z => by rw [show k = n by omega]; exact d)⟩
    · rintro ⟨a, c⟩
      exact ⟨⟨a, fun k hk => c k (by omega)⟩, c n (by omega)⟩
theorem gct_zero {p : Nat → Bool} : ∀ {n : Nat}, gct p n = 0 ↔ ∀ k, k < n → p k = false
  | 0 => ⟨fun _ k hk => absurd hk (Nat.not_lt_zero k), fun _ => rfl⟩
  | n + 1 => by
    constructor
    · intro h k hk
      cases e : p n with
      | true => rw [gct_yes e] at h; omega
      | false =>
        rw [gct_no e] at h
        exact (Nat.lt_or_ge k n).elim (gct_zero.mp h k) (fun z => by rw [show k = n by omega]; exact e)
    · intro h
      rw [gct_no (h n (by omega))]
      exact gct_zero.mpr (fun k hk => h k (by omega))
theorem gGd_adm {M : gM} {e : Nat} : gGd M e (mN M (200 + e)) = gAdm M e := by
  rw [Bool.eq_iff_iff, gGd_all]
  constructor
  · rintro ⟨h1, h2⟩
    obtain ⟨g1, g2, g3⟩ := of_decide_eq_true (show decide _ = true from h1)
    have g4 := gct_zero.mp g1
    refine decide_eq_true ⟨g2, g3, fun k hk => decide_eq_false ?_⟩
    have g5 : ¬ mA M 22 (4 * (12 * e + k) + 3) = nI 1 := of_decide_eq_false (g4 k hk)
    have g6 := of_decide_eq_true (show decide _ = true from h2 k hk)
    rintro (z | ⟨z1, z2⟩)
    · exact g5 z
    · rcases g6 with y | ⟨y1, y2⟩
      · exact z1 y
      · rcases z2 with w | ⟨w1, w2⟩
        · exact y1 w
        · exact y2.elim (fun u => u w1) w2
  · intro h
    obtain ⟨g2, g3, g4⟩ := of_decide_eq_true (show decide _ = true from h)
    refine ⟨decide_eq_true ⟨gct_zero.mpr (fun k hk => decide_eq_false (fun z => ?_)), g2, g3⟩, fun k hk => decide_eq_true ?_⟩
    · exact (of_decide_eq_false (show decide _ = false from g4 k hk)) (Or.inl z)
    · have g6 := of_decide_eq_false (show decide _ = false from g4 k hk)
      by_cases z : mA M 22 (4 * (12 * e + k) + 2) = -1
      · exact Or.inl z
      · refine Or.inr ⟨fun w => g6 (Or.inr ⟨z, Or.inl w⟩), ?_⟩
        by_cases u : mA M 22 (4 * (12 * e + k) + 3) = nI 2
        · refine Or.inr (Classical.byContradiction fun w => g6 (Or.inr ⟨z, Or.inr ⟨u, w⟩⟩))
        · exact Or.inl u
theorem gPr_p {M : gM} {v : Int32} (h : gPr M v) (h1 : ¬ v = -1) : ∃ p, p < mN M 8 ∧ v = nI p := h.resolve_left h1
theorem gWho_p {M : gM} {v : Int32} (h : gWho M v) (h1 : ¬ v = -1) (h2 : ¬ v = -2) : ∃ p, p < mN M 8 ∧ v = nI p := (h.resolve_left h1).resolve_left h2
theorem gRole_p {M : gM} {p : Nat} (h : p < 2 ^ 31) : gRole M (nI p) = mA M 9 p := by
  unfold gRole
  rw [nI_clamp h]

set_option maxHeartbeats 4000000 in
set_option maxRecDepth 100000 in
theorem c_X9_linkTold (d0 : Nat × Nat) (S : gS) (y : Nat) (b : Nat → Nat → Nat) (M : gM) (r : gRest S y b M) (e k w : Nat) (he : e < 20) (hk : k < 12) (hw : w ≤ 3) : gCt d0 yX9_linkTold cX9_linkTold 4 (some .int) 0 0 0 [.ref y, .int (nI e), .int (nI k), .int (nI w)] S (gRet (.int (gTellLink M e k w)) S) gNo := by
  refine gCt_of (lo := [some (.ref y), some (.int (nI e)), some (.int (nI k)), some (.int (nI w))]) (by decide +kernel) (Nat.le_of_ble_eq_true rfl) (rfl) ?_
  intro Γ hd G F hini
  first | refine g_aload_n G dX9_linkTold_0 rfl ?_ | refine g_aload_nN G dX9_linkTold_0 rfl ?_ | refine g_aload_nQ G dX9_linkTold_0 rfl ?_
  refine g_getR G fl_X9_58 (r.kd) (by first | decide | omega) rfl (r.Y 22 rfl) dX9_linkTold_1 ?_
  refine g_iconst (v := nI 4) G dX9_linkTold_4 (by decide) ?_
  refine g_bipush (v := nI 12) G dX9_linkTold_5 (by decide) ?_
  refine g_iload_n G dX9_linkTold_7 rfl ?_
  refine g_imul G dX9_linkTold_8 (by first | exact pk_mul _ _ | rfl) ?_
  refine g_iload_n G dX9_linkTold_9 rfl ?_
  refine g_iadd G dX9_linkTold_10 (by first | exact nI_add _ _ | rfl) ?_
  refine g_imul G dX9_linkTold_11 (by first | exact pk_mul _ _ | rfl) ?_
  refine g_iload_n G dX9_linkTold_12 rfl ?_
  refine g_iadd G dX9_linkTold_13 (by first | exact nI_add _ _ | rfl) ?_
  refine g_iald G (r.A 22 rfl) (by first | decide | omega) (r.lt 22 959 rfl (by omega)) (by omega) (r.X 22 959 rfl rfl (by omega)) dX9_linkTold_14 ?_
  exact g_iret G F (⟨rfl, rfl⟩) (by omega) (by omega) dX9_linkTold_15

set_option maxHeartbeats 4000000 in
set_option maxRecDepth 100000 in
theorem c_X9_gaps (d0 : Nat × Nat) (S : gS) (y : Nat) (b : Nat → Nat → Nat) (M : gM) (r : gRest S y b M) (i : gInv M) (e : Nat) (he : e < mN M 17) : gCt d0 yX9_gaps cX9_gaps 4 (some .int) 1 0 0 [.ref y, .int (nI e)] S (gRet (.int (nI (gGap M e))) S) gNo := by
  refine gCt_of (lo := [some (.ref y), some (.int (nI e)), none, none]) (by decide +kernel) (Nat.le_of_ble_eq_true rfl) (rfl) ?_
  intro Γ hd G F hini
  obtain ⟨i6, i8, i11, i17, i23, i2, i5⟩ := i.b
  have ie := i.e e
  refine g_iconst (v := nI 0) G dX9_gaps_0 (by decide) ?_
  refine g_istore_n G dX9_gaps_1 (gSt_2 (by first | rfl | exact g_c1_rf)) ?_
  refine g_iconst (v := nI 0) G dX9_gaps_2 (by decide) ?_
  refine g_istore_n G dX9_gaps_3 (gSt_3 (by first | rfl | exact g_c1_rf)) ?_
  have loop4 : ∀ f2 t : Nat, t ≤ (mN M (200 + e)) → (mN M (200 + e)) + 1 ≤ t + f2 → gW Γ 4 [some (.ref y), some (.int (nI e)), some (.int (nI (gct (fun k => decide (mA M 22 (4 * (12 * e + k) + 3) = nI 1)) (t)))), some (.int (nI (t)))] [] S 0 0 := by
    intro f2
    induction f2 with
    | zero => intro t  q1 q2; omega
    | succ f2 ih2 =>
      intro t  ht2 hf2 
      refine g_iload_n G dX9_gaps_4 rfl ?_
      first | refine g_aload_n G dX9_gaps_5 rfl ?_ | refine g_aload_nN G dX9_gaps_5 rfl ?_ | refine g_aload_nQ G dX9_gaps_5 rfl ?_
      refine g_getR G fl_X9_55 (r.kd) (by first | decide | omega) rfl (r.Y 21 rfl) dX9_gaps_6 ?_
      refine g_iload_n G dX9_gaps_9 rfl ?_
      refine g_iald G (r.A 21 rfl) (by first | decide | omega) (r.lt 21 19 rfl (by omega)) (by omega) (r.k (by omega)) dX9_gaps_10 ?_
      refine g_icmp_ge (tgt := 39) G dX9_gaps_11 (by decide) (fun c_11 => ?_) (fun c_11 => ?_)
      · have et : t = (mN M (200 + e)) := by have := (nI_leI (by omega) (by omega)).mp c_11; omega
        subst et
        refine g_iload_n G dX9_gaps_39 rfl ?_
        exact g_iret G F (⟨rfl, rfl⟩) (by omega) (by omega) dX9_gaps_40
      · have hlt2 : t < (mN M (200 + e)) := by have z : ¬ (mN M (200 + e)) ≤ t := fun z => c_11 ((nI_leI (by omega) (by omega)).mpr z); omega
        refine g_iload_n G dX9_gaps_14 rfl ?_
        first | refine g_aload_n G dX9_gaps_15 rfl ?_ | refine g_aload_nN G dX9_gaps_15 rfl ?_ | refine g_aload_nQ G dX9_gaps_15 rfl ?_
        refine g_iload_n G dX9_gaps_16 rfl ?_
        refine g_iload_n G dX9_gaps_17 rfl ?_
        refine g_iconst (v := nI 3) G dX9_gaps_18 (by decide) ?_
        refine g_callVp (ci := 10) G (c_X9_linkTold _ _ _ _ _ r _ _ _ (by omega) (by omega) (by omega)) mt_X9_linkTold mi_X9_linkTold ml_X9_235 (r.kd) (by first | decide | omega) rfl (by decide) (by omega) (by omega) rfl (Nat.le_of_ble_eq_true rfl) dX9_gaps_19 ?_
        refine g_iconst (v := nI 1) G dX9_gaps_22 (by decide) ?_
        refine g_icmp_ne (tgt := 30) G dX9_gaps_23 (by decide) (fun c_23 => ?_) (fun c_23 => ?_)
        · have e9 := gct_no (p := (fun k => decide (mA M 22 (4 * (12 * e + k) + 3) = nI 1))) (n := t) (decide_eq_false c_23)
          refine g_iconst (v := nI 0) G dX9_gaps_30 (by decide) ?_
          refine g_iadd G dX9_gaps_31 (by first | exact nI_add _ _ | rfl) ?_
          refine g_istore_n G dX9_gaps_32 (gSt_2 (by first | rfl | exact g_c1_rf)) ?_
          refine g_iinc (v := _) G dX9_gaps_33 rfl (by first | exact nI_1 _ | rfl) (gSt_3 (by first | rfl | exact g_c1_rf)) ?_
          refine g_goto (tgt := 4) G dX9_gaps_36 (by decide) ?_
          have h9 := ih2 (t + 1) (by omega) (by omega)
          rw [e9] at h9
          exact h9
        · have e9 := gct_yes (p := (fun k => decide (mA M 22 (4 * (12 * e + k) + 3) = nI 1))) (n := t) (decide_eq_true c_23)
          refine g_iconst (v := nI 1) G dX9_gaps_26 (by decide) ?_
          refine g_goto (tgt := 31) G dX9_gaps_27 (by decide) ?_
          refine g_iadd G dX9_gaps_31 (by first | exact nI_add _ _ | rfl) ?_
          refine g_istore_n G dX9_gaps_32 (gSt_2 (by first | rfl | exact g_c1_rf)) ?_
          refine g_iinc (v := _) G dX9_gaps_33 rfl (by first | exact nI_1 _ | rfl) (gSt_3 (by first | rfl | exact g_c1_rf)) ?_
          refine g_goto (tgt := 4) G dX9_gaps_36 (by decide) ?_
          have h9 := ih2 (t + 1) (by omega) (by omega)
          rw [e9] at h9
          exact h9
  exact loop4 ((mN M (200 + e)) + 1) 0 (by omega) (by omega)

set_option maxHeartbeats 4000000 in
set_option maxRecDepth 100000 in
theorem c_X9_isGood (d0 : Nat × Nat) (S : gS) (y : Nat) (b : Nat → Nat → Nat) (M : gM) (r : gRest S y b M) (i : gInv M) (e : Nat) (he : e < mN M 17) : gCt d0 yX9_isGood cX9_isGood 6 (some .boolean) 2 0 0 [.ref y, .int (nI e)] S (gRet (.int (gB (gAdm M e))) S) gNo := by
  refine gCt_of (lo := [some (.ref y), some (.int (nI e)), none, none, none, none]) (by decide +kernel) (Nat.le_of_ble_eq_true rfl) (rfl) ?_
  intro Γ hd G F hini
  obtain ⟨i6, i8, i11, i17, i23, i2, i5⟩ := i.b
  have ie := i.e e
  have hw := i.w he
  have hik := fun k hk => i.k (k := k) he hk
  have loop54 : ∀ f2 t : Nat, ∀ (v2 : Int32), t ≤ (mN M (200 + e)) → (mN M (200 + e)) + 1 ≤ t + f2 → ∀ w5 : Option Value, gW Γ 54 [some (.ref y), some (.int (nI e)), some (.int v2), some (.int (gB (gGd M e (t)))), some (.int (nI (t))), w5] [] S 0 0 := by
    intro f2
    induction f2 with
    | zero => intro t v2 q1 q2; omega
    | succ f2 ih2 =>
      intro t v2 ht2 hf2 w5
      refine g_iload G dX9_isGood_54 rfl ?_
      first | refine g_aload_n G dX9_isGood_56 rfl ?_ | refine g_aload_nN G dX9_isGood_56 rfl ?_ | refine g_aload_nQ G dX9_isGood_56 rfl ?_
      refine g_getR G fl_X9_55 (r.kd) (by first | decide | omega) rfl (r.Y 21 rfl) dX9_isGood_57 ?_
      refine g_iload_n G dX9_isGood_60 rfl ?_
      refine g_iald G (r.A 21 rfl) (by first | decide | omega) (r.lt 21 19 rfl (by omega)) (by omega) (r.k (by omega)) dX9_isGood_61 ?_
      refine g_icmp_ge (tgt := 131) G dX9_isGood_62 (by decide) (fun c_62 => ?_) (fun c_62 => ?_)
      · have et : t = (mN M (200 + e)) := by have := (nI_leI (by omega) (by omega)).mp c_62; omega
        subst et
        refine g_iload_n G dX9_isGood_131 rfl ?_
        exact g_zret G F (gB_01 _) (by first | exact ⟨by rw [gGd_adm], rfl⟩ | exact ⟨by rw [e7, ← e6], rfl⟩) (by omega) (by omega) dX9_isGood_132
      · have hlt2 : t < (mN M (200 + e)) := by have z : ¬ (mN M (200 + e)) ≤ t := fun z => c_62 ((nI_leI (by omega) (by omega)).mpr z); omega
        refine g_iload_n G dX9_isGood_65 rfl ?_
        refine g_if_eq (tgt := 131) G dX9_isGood_66 (by decide) (fun c_66 => ?_) (fun c_66 => ?_)
        · have e7 : gGd M e t = false := gB_eq0.mp c_66
          have e6 := gGd_no e7 (mN M (200 + e) - t)
          rw [show t + (mN M (200 + e) - t) = mN M (200 + e) by omega, gGd_adm] at e6
          refine g_iload_n G dX9_isGood_131 rfl ?_
          exact g_zret G F (gB_01 _) (by first | exact ⟨by rw [gGd_adm], rfl⟩ | exact ⟨by rw [e7, ← e6], rfl⟩) (by omega) (by omega) dX9_isGood_132
        · have e7 : gGd M e t = true := gB_ne0.mp c_66
          first | refine g_aload_n G dX9_isGood_69 rfl ?_ | refine g_aload_nN G dX9_isGood_69 rfl ?_ | refine g_aload_nQ G dX9_isGood_69 rfl ?_
          refine g_iload_n G dX9_isGood_70 rfl ?_
          refine g_iload G dX9_isGood_71 rfl ?_
          refine g_iconst (v := nI 2) G dX9_isGood_73 (by decide) ?_
          refine g_callVp (ci := 10) G (c_X9_linkTold _ _ _ _ _ r _ _ _ (by omega) (by omega) (by omega)) mt_X9_linkTold mi_X9_linkTold ml_X9_235 (r.kd) (by first | decide | omega) rfl (by decide) (by omega) (by omega) rfl (Nat.le_of_ble_eq_true rfl) dX9_isGood_74 ?_
          show gW Γ 77 _ [.int (mA M 22 (4 * (12 * e + t) + 2))] S 0 0
          refine g_istore G dX9_isGood_77 (gSt_5 (by first | rfl | exact g_c1_rf)) ?_
          refine g_iload G dX9_isGood_79 rfl ?_
          refine g_iconst (v := (-1)) G dX9_isGood_81 (by decide) ?_
          refine g_icmp_eq (tgt := 119) G dX9_isGood_82 (by decide) (fun c_82 => ?_) (fun c_82 => ?_)
          · have e8 : gOkk M e t = true := decide_eq_true (Or.inl c_82)
            refine g_iconst (v := nI 1) G dX9_isGood_119 (by decide) ?_
            refine g_goto (tgt := 124) G dX9_isGood_120 (by decide) ?_
            refine g_istore_n G dX9_isGood_124 (gSt_3 (by first | rfl | exact g_c1_rf)) ?_
            refine g_iinc (v := _) G dX9_isGood_125 rfl (by first | exact nI_1 _ | rfl) (gSt_4 (by first | rfl | exact g_c1_rf)) ?_
            refine g_goto (tgt := 54) G dX9_isGood_128 (by decide) ?_
            have e9 : gGd M e (t + 1) = gOkk M e t := by show (gGd M e t && _) = _; rw [e7, Bool.true_and]
            have h9 := fun w5 => ih2 (t + 1) v2 (by omega) (by omega) w5
            rw [e9, e8] at h9
            exact h9 _
          · obtain ⟨p, hp, ep⟩ := gPr_p (hik t hlt2).2 c_82
            have er : gRole M (mA M 22 (4 * (12 * e + t) + 2)) = mA M 9 p := by rw [ep]; exact gRole_p (by omega)
            rw [ep]
            first | refine g_aload_n G dX9_isGood_85 rfl ?_ | refine g_aload_nN G dX9_isGood_85 rfl ?_ | refine g_aload_nQ G dX9_isGood_85 rfl ?_
            refine g_getR G fl_X9_23 (r.kd) (by first | decide | omega) rfl (r.Y 9 rfl) dX9_isGood_86 ?_
            refine g_iload G dX9_isGood_89 rfl ?_
            refine g_iald G (r.A 9 rfl) (by first | decide | omega) (r.lt 9 11 rfl (by omega)) (by omega) (r.X 9 11 rfl rfl (by omega)) dX9_isGood_91 ?_
            refine g_iconst (v := nI 3) G dX9_isGood_92 (by decide) ?_
            refine g_icmp_eq (tgt := 123) G dX9_isGood_93 (by decide) (fun c_93 => ?_) (fun c_93 => ?_)
            · have e8 : gOkk M e t = false := decide_eq_false (fun z => z.elim c_82 (fun y => y.1 (er.trans c_93)))
              refine g_iconst (v := nI 0) G dX9_isGood_123 (by decide) ?_
              refine g_istore_n G dX9_isGood_124 (gSt_3 (by first | rfl | exact g_c1_rf)) ?_
              refine g_iinc (v := _) G dX9_isGood_125 rfl (by first | exact nI_1 _ | rfl) (gSt_4 (by first | rfl | exact g_c1_rf)) ?_
              refine g_goto (tgt := 54) G dX9_isGood_128 (by decide) ?_
              have e9 : gGd M e (t + 1) = gOkk M e t := by show (gGd M e t && _) = _; rw [e7, Bool.true_and]
              have h9 := fun w5 => ih2 (t + 1) v2 (by omega) (by omega) w5
              rw [e9, e8] at h9
              exact h9 _
            · have e3 : ¬ mA M 9 p = nI 3 := c_93
              first | refine g_aload_n G dX9_isGood_96 rfl ?_ | refine g_aload_nN G dX9_isGood_96 rfl ?_ | refine g_aload_nQ G dX9_isGood_96 rfl ?_
              refine g_iload_n G dX9_isGood_97 rfl ?_
              refine g_iload G dX9_isGood_98 rfl ?_
              refine g_iconst (v := nI 3) G dX9_isGood_100 (by decide) ?_
              refine g_callVp (ci := 10) G (c_X9_linkTold _ _ _ _ _ r _ _ _ (by omega) (by omega) (by omega)) mt_X9_linkTold mi_X9_linkTold ml_X9_235 (r.kd) (by first | decide | omega) rfl (by decide) (by omega) (by omega) rfl (Nat.le_of_ble_eq_true rfl) dX9_isGood_101 ?_
              show gW Γ 104 _ [.int (mA M 22 (4 * (12 * e + t) + 3))] S 0 0
              refine g_iconst (v := nI 2) G dX9_isGood_104 (by decide) ?_
              refine g_icmp_ne (tgt := 119) G dX9_isGood_105 (by decide) (fun c_105 => ?_) (fun c_105 => ?_)
              · have e8 : gOkk M e t = true := decide_eq_true (Or.inr ⟨fun z => e3 (er.symm.trans z), Or.inl c_105⟩)
                refine g_iconst (v := nI 1) G dX9_isGood_119 (by decide) ?_
                refine g_goto (tgt := 124) G dX9_isGood_120 (by decide) ?_
                refine g_istore_n G dX9_isGood_124 (gSt_3 (by first | rfl | exact g_c1_rf)) ?_
                refine g_iinc (v := _) G dX9_isGood_125 rfl (by first | exact nI_1 _ | rfl) (gSt_4 (by first | rfl | exact g_c1_rf)) ?_
                refine g_goto (tgt := 54) G dX9_isGood_128 (by decide) ?_
                have e9 : gGd M e (t + 1) = gOkk M e t := by show (gGd M e t && _) = _; rw [e7, Bool.true_and]
                have h9 := fun w5 => ih2 (t + 1) v2 (by omega) (by omega) w5
                rw [e9, e8] at h9
                exact h9 _
              · have e2 : mA M 22 (4 * (12 * e + t) + 3) = nI 2 := c_105
                first | refine g_aload_n G dX9_isGood_108 rfl ?_ | refine g_aload_nN G dX9_isGood_108 rfl ?_ | refine g_aload_nQ G dX9_isGood_108 rfl ?_
                refine g_getR G fl_X9_23 (r.kd) (by first | decide | omega) rfl (r.Y 9 rfl) dX9_isGood_109 ?_
                refine g_iload G dX9_isGood_112 rfl ?_
                refine g_iald G (r.A 9 rfl) (by first | decide | omega) (r.lt 9 11 rfl (by omega)) (by omega) (r.X 9 11 rfl rfl (by omega)) dX9_isGood_114 ?_
                refine g_iconst (v := nI 1) G dX9_isGood_115 (by decide) ?_
                refine g_icmp_ne (tgt := 123) G dX9_isGood_116 (by decide) (fun c_116 => ?_) (fun c_116 => ?_)
                · have e8 : gOkk M e t = false := decide_eq_false (fun z => z.elim c_82 (fun y => y.2.elim (fun u => u e2) (fun u => c_116 (er.symm.trans u))))
                  refine g_iconst (v := nI 0) G dX9_isGood_123 (by decide) ?_
                  refine g_istore_n G dX9_isGood_124 (gSt_3 (by first | rfl | exact g_c1_rf)) ?_
                  refine g_iinc (v := _) G dX9_isGood_125 rfl (by first | exact nI_1 _ | rfl) (gSt_4 (by first | rfl | exact g_c1_rf)) ?_
                  refine g_goto (tgt := 54) G dX9_isGood_128 (by decide) ?_
                  have e9 : gGd M e (t + 1) = gOkk M e t := by show (gGd M e t && _) = _; rw [e7, Bool.true_and]
                  have h9 := fun w5 => ih2 (t + 1) v2 (by omega) (by omega) w5
                  rw [e9, e8] at h9
                  exact h9 _
                · have e8 : gOkk M e t = true := decide_eq_true (Or.inr ⟨fun z => e3 (er.symm.trans z), Or.inr (er.trans c_116)⟩)
                  refine g_iconst (v := nI 1) G dX9_isGood_119 (by decide) ?_
                  refine g_goto (tgt := 124) G dX9_isGood_120 (by decide) ?_
                  refine g_istore_n G dX9_isGood_124 (gSt_3 (by first | rfl | exact g_c1_rf)) ?_
                  refine g_iinc (v := _) G dX9_isGood_125 rfl (by first | exact nI_1 _ | rfl) (gSt_4 (by first | rfl | exact g_c1_rf)) ?_
                  refine g_goto (tgt := 54) G dX9_isGood_128 (by decide) ?_
                  have e9 : gGd M e (t + 1) = gOkk M e t := by show (gGd M e t && _) = _; rw [e7, Bool.true_and]
                  have h9 := fun w5 => ih2 (t + 1) v2 (by omega) (by omega) w5
                  rw [e9, e8] at h9
                  exact h9 _
  first | refine g_aload_n G dX9_isGood_0 rfl ?_ | refine g_aload_nN G dX9_isGood_0 rfl ?_ | refine g_aload_nQ G dX9_isGood_0 rfl ?_
  refine g_getR G fl_X9_49 (r.kd) (by first | decide | omega) rfl (r.Y 19 rfl) dX9_isGood_1 ?_
  refine g_iload_n G dX9_isGood_4 rfl ?_
  refine g_iald G (r.A 19 rfl) (by first | decide | omega) (r.lt 19 19 rfl (by omega)) (by omega) (r.X 19 19 rfl rfl (by omega)) dX9_isGood_5 ?_
  refine g_istore_n G dX9_isGood_6 (gSt_2 (by first | rfl | exact g_c1_rf)) ?_
  first | refine g_aload_n G dX9_isGood_7 rfl ?_ | refine g_aload_nN G dX9_isGood_7 rfl ?_ | refine g_aload_nQ G dX9_isGood_7 rfl ?_
  refine g_iload_n G dX9_isGood_8 rfl ?_
  refine g_callVp (ci := 10) G (c_X9_gaps _ _ _ _ _ r i _ (by omega)) mt_X9_gaps mi_X9_gaps ml_X9_238 (r.kd) (by first | decide | omega) rfl (by decide) (by omega) (by omega) rfl (Nat.le_of_ble_eq_true rfl) dX9_isGood_9 ?_
  refine g_if_ne (tgt := 49) G dX9_isGood_12 (by decide) (fun c_12 => ?_) (fun c_12 => ?_)
  · have e9 : gGd M e 0 = false := decide_eq_false (fun z => c_12 (by rw [z.1]; rfl))
    refine g_iconst (v := nI 0) G dX9_isGood_49 (by decide) ?_
    refine g_istore_n G dX9_isGood_50 (gSt_3 (by first | rfl | exact g_c1_rf)) ?_
    refine g_iconst (v := nI 0) G dX9_isGood_51 (by decide) ?_
    refine g_istore G dX9_isGood_52 (gSt_4 (by first | rfl | exact g_c1_rf)) ?_
    have h9 := fun v2 => loop54 (mN M (200 + e) + 1) 0 v2 (by omega) (by omega) none
    rw [e9] at h9
    exact h9 _
  · have hcl : gGap M e ≤ mN M (200 + e) := gct_le (fun k => decide (mA M 22 (4 * (12 * e + k) + 3) = nI 1)) _
    have g1 : gGap M e = 0 := (nI_eq (b := 0) (by omega) (by omega)).mp c_12
    refine g_iload_n G dX9_isGood_15 rfl ?_
    refine g_bipush (v := (-2)) G dX9_isGood_16 (by decide) ?_
    refine g_icmp_eq (tgt := 49) G dX9_isGood_18 (by decide) (fun c_18 => ?_) (fun c_18 => ?_)
    · have e9 : gGd M e 0 = false := decide_eq_false (fun z => z.2.1 c_18)
      refine g_iconst (v := nI 0) G dX9_isGood_49 (by decide) ?_
      refine g_istore_n G dX9_isGood_50 (gSt_3 (by first | rfl | exact g_c1_rf)) ?_
      refine g_iconst (v := nI 0) G dX9_isGood_51 (by decide) ?_
      refine g_istore G dX9_isGood_52 (gSt_4 (by first | rfl | exact g_c1_rf)) ?_
      have h9 := fun v2 => loop54 (mN M (200 + e) + 1) 0 v2 (by omega) (by omega) none
      rw [e9] at h9
      exact h9 _
    · have g2 : ¬ mA M 19 e = -2 := c_18
      refine g_iload_n G dX9_isGood_21 rfl ?_
      refine g_iconst (v := (-1)) G dX9_isGood_22 (by decide) ?_
      refine g_icmp_eq (tgt := 45) G dX9_isGood_23 (by decide) (fun c_23 => ?_) (fun c_23 => ?_)
      · have e9 : gGd M e 0 = true := decide_eq_true ⟨g1, g2, Or.inl c_23⟩
        refine g_iconst (v := nI 1) G dX9_isGood_45 (by decide) ?_
        refine g_goto (tgt := 50) G dX9_isGood_46 (by decide) ?_
        refine g_istore_n G dX9_isGood_50 (gSt_3 (by first | rfl | exact g_c1_rf)) ?_
        refine g_iconst (v := nI 0) G dX9_isGood_51 (by decide) ?_
        refine g_istore G dX9_isGood_52 (gSt_4 (by first | rfl | exact g_c1_rf)) ?_
        have h9 := fun v2 => loop54 (mN M (200 + e) + 1) 0 v2 (by omega) (by omega) none
        rw [e9] at h9
        exact h9 _
      · obtain ⟨p, hp, ep⟩ := gWho_p hw c_23 g2
        have er : gRole M (mA M 19 e) = mA M 9 p := by rw [ep]; exact gRole_p (by omega)
        rw [ep]
        first | refine g_aload_n G dX9_isGood_26 rfl ?_ | refine g_aload_nN G dX9_isGood_26 rfl ?_ | refine g_aload_nQ G dX9_isGood_26 rfl ?_
        refine g_getR G fl_X9_23 (r.kd) (by first | decide | omega) rfl (r.Y 9 rfl) dX9_isGood_27 ?_
        refine g_iload_n G dX9_isGood_30 rfl ?_
        refine g_iald G (r.A 9 rfl) (by first | decide | omega) (r.lt 9 11 rfl (by omega)) (by omega) (r.X 9 11 rfl rfl (by omega)) dX9_isGood_31 ?_
        refine g_iconst (v := nI 1) G dX9_isGood_32 (by decide) ?_
        refine g_icmp_eq (tgt := 45) G dX9_isGood_33 (by decide) (fun c_33 => ?_) (fun c_33 => ?_)
        · have e9 : gGd M e 0 = true := decide_eq_true ⟨g1, g2, Or.inr (Or.inl (er.trans c_33))⟩
          refine g_iconst (v := nI 1) G dX9_isGood_45 (by decide) ?_
          refine g_goto (tgt := 50) G dX9_isGood_46 (by decide) ?_
          refine g_istore_n G dX9_isGood_50 (gSt_3 (by first | rfl | exact g_c1_rf)) ?_
          refine g_iconst (v := nI 0) G dX9_isGood_51 (by decide) ?_
          refine g_istore G dX9_isGood_52 (gSt_4 (by first | rfl | exact g_c1_rf)) ?_
          have h9 := fun v2 => loop54 (mN M (200 + e) + 1) 0 v2 (by omega) (by omega) none
          rw [e9] at h9
          exact h9 _
        · have g3 : ¬ mA M 9 p = nI 1 := c_33
          first | refine g_aload_n G dX9_isGood_36 rfl ?_ | refine g_aload_nN G dX9_isGood_36 rfl ?_ | refine g_aload_nQ G dX9_isGood_36 rfl ?_
          refine g_getR G fl_X9_23 (r.kd) (by first | decide | omega) rfl (r.Y 9 rfl) dX9_isGood_37 ?_
          refine g_iload_n G dX9_isGood_40 rfl ?_
          refine g_iald G (r.A 9 rfl) (by first | decide | omega) (r.lt 9 11 rfl (by omega)) (by omega) (r.X 9 11 rfl rfl (by omega)) dX9_isGood_41 ?_
          refine g_if_ne (tgt := 49) G dX9_isGood_42 (by decide) (fun c_42 => ?_) (fun c_42 => ?_)
          · have e9 : gGd M e 0 = false := decide_eq_false (fun z => z.2.2.elim c_23 (fun y => y.elim (fun u => g3 (er.symm.trans u)) (fun u => c_42 (er.symm.trans u))))
            refine g_iconst (v := nI 0) G dX9_isGood_49 (by decide) ?_
            refine g_istore_n G dX9_isGood_50 (gSt_3 (by first | rfl | exact g_c1_rf)) ?_
            refine g_iconst (v := nI 0) G dX9_isGood_51 (by decide) ?_
            refine g_istore G dX9_isGood_52 (gSt_4 (by first | rfl | exact g_c1_rf)) ?_
            have h9 := fun v2 => loop54 (mN M (200 + e) + 1) 0 v2 (by omega) (by omega) none
            rw [e9] at h9
            exact h9 _
          · have e9 : gGd M e 0 = true := decide_eq_true ⟨g1, g2, Or.inr (Or.inr (er.trans c_42))⟩
            refine g_iconst (v := nI 1) G dX9_isGood_45 (by decide) ?_
            refine g_goto (tgt := 50) G dX9_isGood_46 (by decide) ?_
            refine g_istore_n G dX9_isGood_50 (gSt_3 (by first | rfl | exact g_c1_rf)) ?_
            refine g_iconst (v := nI 0) G dX9_isGood_51 (by decide) ?_
            refine g_istore G dX9_isGood_52 (gSt_4 (by first | rfl | exact g_c1_rf)) ?_
            have h9 := fun v2 => loop54 (mN M (200 + e) + 1) 0 v2 (by omega) (by omega) none
            rw [e9] at h9
            exact h9 _

set_option maxHeartbeats 4000000 in
set_option maxRecDepth 100000 in
theorem c_X9_seen (d0 : Nat × Nat) (S : gS) (y : Nat) (b : Nat → Nat → Nat) (M : gM) (r : gRest S y b M) (i : gInv M) (d k : Nat) (v : Int32) (hd2 : d < mN M 11) (hk : k < mN M (100 + d)) : gCt d0 yX9_seen cX9_seen 5 (some .int) 0 0 0 [.ref y, .int (nI d), .int (nI k), .int v] S (gRet (.int (gSeen (mT M 13 d k) (mT M 14 d k) (mT M 15 d k) v)) S) gNo := by
  refine gCt_of (lo := [some (.ref y), some (.int (nI d)), some (.int (nI k)), some (.int v), none]) (by decide +kernel) (Nat.le_of_ble_eq_true rfl) (rfl) ?_
  intro Γ hd G F hini
  obtain ⟨i6, i8, i11, i17, i23, i2, i5⟩ := i.b
  have it := i.t hd2
  first | refine g_aload_n G dX9_seen_0 rfl ?_ | refine g_aload_nN G dX9_seen_0 rfl ?_ | refine g_aload_nQ G dX9_seen_0 rfl ?_
  refine g_getR G fl_X9_33 (r.kd) (by first | decide | omega) rfl (r.RY 13 (by decide)) dX9_seen_1 ?_
  refine g_iload_n G dX9_seen_4 rfl ?_
  refine g_aald G (r.RA 13 (by decide)) (by first | decide | omega) (by rw [r.RL 13 (by decide)]; omega) (by omega) (r.RR 13 (by decide) (by omega)) dX9_seen_5 ?_
  refine g_iload_n G dX9_seen_6 rfl ?_
  refine g_iald G (r.TK 13 (by decide) (by omega)) (by first | decide | omega) (r.tlt 13 (by decide) (by omega) (by omega)) (by omega) (r.TX 13 (by decide) (by omega) (by omega)) dX9_seen_7 ?_
  refine g_istore G dX9_seen_8 (gSt_4 (by first | rfl | exact g_c1_rf)) ?_
  refine g_iload G dX9_seen_10 rfl ?_
  refine g_bipush (v := nI 10) G dX9_seen_12 (by decide) ?_
  refine g_icmp_ne (tgt := 20) G dX9_seen_14 (by decide) (fun c_14 => ?_) (fun c_14 => ?_)
  · have n1 : ¬ mT M 13 d k = nI 10 := c_14
    first | refine g_aload_n G dX9_seen_20 rfl ?_ | refine g_aload_nN G dX9_seen_20 rfl ?_ | refine g_aload_nQ G dX9_seen_20 rfl ?_
    refine g_getR G fl_X9_37 (r.kd) (by first | decide | omega) rfl (r.RY 14 (by decide)) dX9_seen_21 ?_
    refine g_iload_n G dX9_seen_24 rfl ?_
    refine g_aald G (r.RA 14 (by decide)) (by first | decide | omega) (by rw [r.RL 14 (by decide)]; omega) (by omega) (r.RR 14 (by decide) (by omega)) dX9_seen_25 ?_
    refine g_iload_n G dX9_seen_26 rfl ?_
    refine g_iald G (r.TK 14 (by decide) (by omega)) (by first | decide | omega) (r.tlt 14 (by decide) (by omega) (by omega)) (by omega) (r.TX 14 (by decide) (by omega) (by omega)) dX9_seen_27 ?_
    refine g_iload_n G dX9_seen_28 rfl ?_
    refine g_icmp_le (tgt := 35) G dX9_seen_29 (by decide) (fun c_29 => ?_) (fun c_29 => ?_)
    · have n2 : ¬ v < mT M 14 d k := Int32.not_lt.mpr c_29
      first | refine g_aload_n G dX9_seen_35 rfl ?_ | refine g_aload_nN G dX9_seen_35 rfl ?_ | refine g_aload_nQ G dX9_seen_35 rfl ?_
      refine g_getR G fl_X9_40 (r.kd) (by first | decide | omega) rfl (r.RY 15 (by decide)) dX9_seen_36 ?_
      refine g_iload_n G dX9_seen_39 rfl ?_
      refine g_aald G (r.RA 15 (by decide)) (by first | decide | omega) (by rw [r.RL 15 (by decide)]; omega) (by omega) (r.RR 15 (by decide) (by omega)) dX9_seen_40 ?_
      refine g_iload_n G dX9_seen_41 rfl ?_
      refine g_iald G (r.TK 15 (by decide) (by omega)) (by first | decide | omega) (r.tlt 15 (by decide) (by omega) (by omega)) (by omega) (r.TX 15 (by decide) (by omega) (by omega)) dX9_seen_42 ?_
      refine g_iconst (v := nI 1) G dX9_seen_43 (by decide) ?_
      refine g_icmp_ne (tgt := 56) G dX9_seen_44 (by decide) (fun c_44 => ?_) (fun c_44 => ?_)
      · have e9 : gSeen (mT M 13 d k) (mT M 14 d k) (mT M 15 d k) v = mT M 13 d k := (if_neg n1).trans ((if_neg n2).trans (if_neg (fun z => c_44 z.2)))
        refine g_iload G dX9_seen_56 rfl ?_
        exact g_iret G F (⟨by rw [e9], rfl⟩) (by omega) (by omega) dX9_seen_58
      · have n3 : mT M 15 d k = nI 1 := c_44
        refine g_iload_n G dX9_seen_47 rfl ?_
        refine g_if_ne (tgt := 56) G dX9_seen_48 (by decide) (fun c_48 => ?_) (fun c_48 => ?_)
        · have e9 : gSeen (mT M 13 d k) (mT M 14 d k) (mT M 15 d k) v = mT M 13 d k := (if_neg n1).trans ((if_neg n2).trans (if_neg (fun z => c_48 z.1)))
          refine g_iload G dX9_seen_56 rfl ?_
          exact g_iret G F (⟨by rw [e9], rfl⟩) (by omega) (by omega) dX9_seen_58
        · have e9 : gSeen (mT M 13 d k) (mT M 14 d k) (mT M 15 d k) v = nI 42 := (if_neg n1).trans ((if_neg n2).trans (if_pos ⟨c_48, n3⟩))
          refine g_bipush (v := nI 42) G dX9_seen_51 (by decide) ?_
          refine g_goto (tgt := 58) G dX9_seen_53 (by decide) ?_
          exact g_iret G F (⟨by rw [e9], rfl⟩) (by omega) (by omega) dX9_seen_58
    · have e9 : gSeen (mT M 13 d k) (mT M 14 d k) (mT M 15 d k) v = nI 35 := (if_neg n1).trans (if_pos (Int32.not_le.mp c_29))
      refine g_bipush (v := nI 35) G dX9_seen_32 (by decide) ?_
      exact g_iret G F (⟨by rw [e9], rfl⟩) (by omega) (by omega) dX9_seen_34
  · have e9 : gSeen (mT M 13 d k) (mT M 14 d k) (mT M 15 d k) v = mT M 13 d k := (if_pos c_14).trans c_14.symm
    refine g_iload G dX9_seen_17 rfl ?_
    exact g_iret G F (⟨by rw [e9], rfl⟩) (by omega) (by omega) dX9_seen_19

theorem gInto_y {M : gM} {p c : Nat} (hs : gWt 9 (mA M 7 c)) (h : mA M 7 c ≤ gReachOf M p c) : gIntoOf M p c = gReachOf M p c ∧ ¬ gReachOf M p c = -1 := ⟨if_pos h, fun z => by rw [z] at h; exact absurd (Int32.le_trans hs.1 h) (by decide)⟩
theorem gInto_n {M : gM} {p c : Nat} (h : ¬ mA M 7 c ≤ gReachOf M p c) : gIntoOf M p c = -1 := if_neg h

set_option maxHeartbeats 4000000 in
set_option maxRecDepth 100000 in
theorem c_X9_seenBy (d0 : Nat × Nat) (S : gS) (y : Nat) (b : Nat → Nat → Nat) (M : gM) (r : gRest S y b M) (q : gStt S (b 0 27) 0 b y M) (i : gInv M) (p d : Nat) (hp : p < mN M 8) (hd2 : d < mN M 11) (k : Nat) (hk : k < mN M (100 + d)) : gCt d0 yX9_seenBy cX9_seenBy 4 (some .int) 3 0 0 [.ref y, .int (nI p), .int (nI d), .int (nI k)] S (gRet (.int (gSeenAt (mT M 13 d k) (mT M 14 d k) (mT M 15 d k) (gIntoOf M p (mC M d)))) S) gNo := by
  refine gCt_of (lo := [some (.ref y), some (.int (nI p)), some (.int (nI d)), some (.int (nI k))]) (by decide +kernel) (Nat.le_of_ble_eq_true rfl) (rfl) ?_
  intro Γ hd G F hini
  obtain ⟨i6, i8, i11, i17, i23, i2, i5⟩ := i.b
  have it := i.t hd2
  have i6 := i.b.1
  obtain ⟨kc, kc1, kc2⟩ := i.c hd2
  have ec : mC M d = kc := by rw [mC, kc2, nI_clamp (by omega)]
  have hs := i.2.2.2.1.1 kc kc1
  first | refine g_aload_n G dX9_seenBy_0 rfl ?_ | refine g_aload_nN G dX9_seenBy_0 rfl ?_ | refine g_aload_nQ G dX9_seenBy_0 rfl ?_
  refine g_getR G fl_X9_75 (r.kd) (by first | decide | omega) rfl (r.st) dX9_seenBy_1 ?_
  refine g_iload_n G dX9_seenBy_4 rfl ?_
  first | refine g_aload_n G dX9_seenBy_5 rfl ?_ | refine g_aload_nN G dX9_seenBy_5 rfl ?_ | refine g_aload_nQ G dX9_seenBy_5 rfl ?_
  refine g_getR G fl_X9_29 (r.kd) (by first | decide | omega) rfl (r.Y 12 rfl) dX9_seenBy_6 ?_
  refine g_iload_n G dX9_seenBy_9 rfl ?_
  refine g_iald G (r.A 12 rfl) (by first | decide | omega) (r.lt 12 23 rfl (by omega)) (by omega) ((r.X 12 23 rfl rfl (by omega)).trans kc2) dX9_seenBy_10 ?_
  refine g_callVp (ci := 9) G (c_X8_isIn _ _ _ _ _ _ _ r q i _ _ (by omega) (by omega)) mt_X8_isIn mi_X8_isIn ml_X9_179 (q.kd) (by first | decide | omega) rfl (by decide) (by omega) (by omega) rfl (Nat.le_of_ble_eq_true rfl) dX9_seenBy_11 ?_
  refine g_if_eq (tgt := 40) G dX9_seenBy_14 (by decide) (fun c_14 => ?_) (fun c_14 => ?_)
  · have e9 : gSeenAt (mT M 13 d k) (mT M 14 d k) (mT M 15 d k) (gIntoOf M p (mC M d)) = nI 0 := by rw [ec, gInto_n (of_decide_eq_false (gB_eq0.mp c_14))]; rfl
    refine g_iconst (v := nI 0) G dX9_seenBy_40 (by decide) ?_
    exact g_iret G F (⟨by rw [e9], rfl⟩) (by omega) (by omega) dX9_seenBy_41
  · obtain ⟨u1, u2⟩ := gInto_y hs (of_decide_eq_true (gB_ne0.mp c_14))
    have e9 : gSeenAt (mT M 13 d k) (mT M 14 d k) (mT M 15 d k) (gIntoOf M p (mC M d)) = gSeen (mT M 13 d k) (mT M 14 d k) (mT M 15 d k) (gReachOf M p kc) := by rw [ec, u1]; exact if_neg u2
    first | refine g_aload_n G dX9_seenBy_17 rfl ?_ | refine g_aload_nN G dX9_seenBy_17 rfl ?_ | refine g_aload_nQ G dX9_seenBy_17 rfl ?_
    refine g_iload_n G dX9_seenBy_18 rfl ?_
    refine g_iload_n G dX9_seenBy_19 rfl ?_
    first | refine g_aload_n G dX9_seenBy_20 rfl ?_ | refine g_aload_nN G dX9_seenBy_20 rfl ?_ | refine g_aload_nQ G dX9_seenBy_20 rfl ?_
    refine g_getR G fl_X9_75 (r.kd) (by first | decide | omega) rfl (r.st) dX9_seenBy_21 ?_
    refine g_iload_n G dX9_seenBy_24 rfl ?_
    first | refine g_aload_n G dX9_seenBy_25 rfl ?_ | refine g_aload_nN G dX9_seenBy_25 rfl ?_ | refine g_aload_nQ G dX9_seenBy_25 rfl ?_
    refine g_getR G fl_X9_29 (r.kd) (by first | decide | omega) rfl (r.Y 12 rfl) dX9_seenBy_26 ?_
    refine g_iload_n G dX9_seenBy_29 rfl ?_
    refine g_iald G (r.A 12 rfl) (by first | decide | omega) (r.lt 12 23 rfl (by omega)) (by omega) ((r.X 12 23 rfl rfl (by omega)).trans kc2) dX9_seenBy_30 ?_
    refine g_callVp (ci := 9) G (c_X8_reach _ _ _ _ _ _ _ r q i _ _ (by omega) (by omega)) mt_X8_reach mi_X8_reach ml_X9_200 (q.kd) (by first | decide | omega) rfl (by decide) (by omega) (by omega) rfl (Nat.le_of_ble_eq_true rfl) dX9_seenBy_31 ?_
    refine g_callVp (ci := 10) G (c_X9_seen _ _ _ _ _ r i _ _ _ (by omega) (by omega)) mt_X9_seen mi_X9_seen ml_X9_203 (r.kd) (by first | decide | omega) rfl (by decide) (by omega) (by omega) rfl (Nat.le_of_ble_eq_true rfl) dX9_seenBy_34 ?_
    refine g_goto (tgt := 41) G dX9_seenBy_37 (by decide) ?_
    exact g_iret G F (⟨by rw [e9], rfl⟩) (by omega) (by omega) dX9_seenBy_41

set_option maxHeartbeats 4000000 in
set_option maxRecDepth 100000 in
theorem c_X9_hiddenOf (d0 : Nat × Nat) (S : gS) (y : Nat) (b : Nat → Nat → Nat) (M : gM) (r : gRest S y b M) (q : gStt S (b 0 27) 0 b y M) (i : gInv M) (p d : Nat) (hp : p < mN M 8) (hd2 : d < mN M 11) : gCt d0 yX9_hiddenOf cX9_hiddenOf 5 (some .int) 4 0 0 [.ref y, .int (nI p), .int (nI d)] S (gRet (.int (nI (gHid M p d))) S) gNo := by
  refine gCt_of (lo := [some (.ref y), some (.int (nI p)), some (.int (nI d)), none, none]) (by decide +kernel) (Nat.le_of_ble_eq_true rfl) (rfl) ?_
  intro Γ hd G F hini
  obtain ⟨i6, i8, i11, i17, i23, i2, i5⟩ := i.b
  have it := i.t hd2
  refine g_iconst (v := nI 0) G dX9_hiddenOf_0 (by decide) ?_
  refine g_istore_n G dX9_hiddenOf_1 (gSt_3 (by first | rfl | exact g_c1_rf)) ?_
  refine g_iconst (v := nI 0) G dX9_hiddenOf_2 (by decide) ?_
  refine g_istore G dX9_hiddenOf_3 (gSt_4 (by first | rfl | exact g_c1_rf)) ?_
  have loop5 : ∀ f2 t : Nat, t ≤ (mN M (100 + d)) → (mN M (100 + d)) + 1 ≤ t + f2 → gW Γ 5 [some (.ref y), some (.int (nI p)), some (.int (nI d)), some (.int (nI (gct (gHidP M p d) (t)))), some (.int (nI (t)))] [] S 0 0 := by
    intro f2
    induction f2 with
    | zero => intro t  q1 q2; omega
    | succ f2 ih2 =>
      intro t  ht2 hf2 
      refine g_iload G dX9_hiddenOf_5 rfl ?_
      first | refine g_aload_n G dX9_hiddenOf_7 rfl ?_ | refine g_aload_nN G dX9_hiddenOf_7 rfl ?_ | refine g_aload_nQ G dX9_hiddenOf_7 rfl ?_
      refine g_getR G fl_X9_33 (r.kd) (by first | decide | omega) rfl (r.RY 13 (by decide)) dX9_hiddenOf_8 ?_
      refine g_iload_n G dX9_hiddenOf_11 rfl ?_
      refine g_aald G (r.RA 13 (by decide)) (by first | decide | omega) (by rw [r.RL 13 (by decide)]; omega) (by omega) (r.RR 13 (by decide) (by omega)) dX9_hiddenOf_12 ?_
      refine g_alen G (r.TK 13 (by decide) (by omega)) (by first | decide | omega) (r.TL 13 (by decide) (by omega)) dX9_hiddenOf_13 ?_
      refine g_icmp_ge (tgt := 51) G dX9_hiddenOf_14 (by decide) (fun c_14 => ?_) (fun c_14 => ?_)
      · have et : t = (mN M (100 + d)) := by have := (nI_leI (by omega) (by omega)).mp c_14; omega
        subst et
        refine g_iload_n G dX9_hiddenOf_51 rfl ?_
        exact g_iret G F (⟨rfl, rfl⟩) (by omega) (by omega) dX9_hiddenOf_52
      · have hlt2 : t < (mN M (100 + d)) := by have z : ¬ (mN M (100 + d)) ≤ t := fun z => c_14 ((nI_leI (by omega) (by omega)).mpr z); omega
        refine g_iload_n G dX9_hiddenOf_17 rfl ?_
        first | refine g_aload_n G dX9_hiddenOf_18 rfl ?_ | refine g_aload_nN G dX9_hiddenOf_18 rfl ?_ | refine g_aload_nQ G dX9_hiddenOf_18 rfl ?_
        refine g_iload_n G dX9_hiddenOf_19 rfl ?_
        refine g_iload_n G dX9_hiddenOf_20 rfl ?_
        refine g_iload G dX9_hiddenOf_21 rfl ?_
        refine g_callVp (ci := 10) G (c_X9_seenBy _ _ _ _ _ r q i _ _ (by omega) (by omega) _ (by omega)) mt_X9_seenBy mi_X9_seenBy ml_X9_213 (r.kd) (by first | decide | omega) rfl (by decide) (by omega) (by omega) rfl (Nat.le_of_ble_eq_true rfl) dX9_hiddenOf_23 ?_
        first | refine g_aload_n G dX9_hiddenOf_26 rfl ?_ | refine g_aload_nN G dX9_hiddenOf_26 rfl ?_ | refine g_aload_nQ G dX9_hiddenOf_26 rfl ?_
        refine g_getR G fl_X9_33 (r.kd) (by first | decide | omega) rfl (r.RY 13 (by decide)) dX9_hiddenOf_27 ?_
        refine g_iload_n G dX9_hiddenOf_30 rfl ?_
        refine g_aald G (r.RA 13 (by decide)) (by first | decide | omega) (by rw [r.RL 13 (by decide)]; omega) (by omega) (r.RR 13 (by decide) (by omega)) dX9_hiddenOf_31 ?_
        refine g_iload G dX9_hiddenOf_32 rfl ?_
        refine g_iald G (r.TK 13 (by decide) (by omega)) (by first | decide | omega) (r.tlt 13 (by decide) (by omega) (by omega)) (by omega) (r.TX 13 (by decide) (by omega) (by omega)) dX9_hiddenOf_34 ?_
        refine g_icmp_ne (tgt := 42) G dX9_hiddenOf_35 (by decide) (fun c_35 => ?_) (fun c_35 => ?_)
        · have e9 := gct_yes (p := gHidP M p d) (n := t) (decide_eq_true c_35)
          refine g_iconst (v := nI 1) G dX9_hiddenOf_42 (by decide) ?_
          refine g_iadd G dX9_hiddenOf_43 (by first | exact nI_add _ _ | rfl) ?_
          refine g_istore_n G dX9_hiddenOf_44 (gSt_3 (by first | rfl | exact g_c1_rf)) ?_
          refine g_iinc (v := _) G dX9_hiddenOf_45 rfl (by first | exact nI_1 _ | rfl) (gSt_4 (by first | rfl | exact g_c1_rf)) ?_
          refine g_goto (tgt := 5) G dX9_hiddenOf_48 (by decide) ?_
          have h9 := ih2 (t + 1) (by omega) (by omega)
          rw [e9] at h9
          exact h9
        · have e9 := gct_no (p := gHidP M p d) (n := t) (decide_eq_false (fun z => z c_35))
          refine g_iconst (v := nI 0) G dX9_hiddenOf_38 (by decide) ?_
          refine g_goto (tgt := 43) G dX9_hiddenOf_39 (by decide) ?_
          refine g_iadd G dX9_hiddenOf_43 (by first | exact nI_add _ _ | rfl) ?_
          refine g_istore_n G dX9_hiddenOf_44 (gSt_3 (by first | rfl | exact g_c1_rf)) ?_
          refine g_iinc (v := _) G dX9_hiddenOf_45 rfl (by first | exact nI_1 _ | rfl) (gSt_4 (by first | rfl | exact g_c1_rf)) ?_
          refine g_goto (tgt := 5) G dX9_hiddenOf_48 (by decide) ?_
          have h9 := ih2 (t + 1) (by omega) (by omega)
          rw [e9] at h9
          exact h9
  exact loop5 ((mN M (100 + d)) + 1) 0 (by omega) (by omega)

def gNxV : Option Nat → Int32
  | none => -1
  | some k => nI k

set_option maxHeartbeats 4000000 in
set_option maxRecDepth 100000 in
theorem c_X8_next (d0 : Nat × Nat) (S : gS) (y s ρ : Nat) (b : Nat → Nat → Nat) (M : gM) (r : gRest S y b M) (q : gStt S s ρ b y M) (i : gInv M) : gCt d0 yX8_next cX8_next 3 (some .int) 1 0 0 [.ref s] S (gRet (.int (gNxV (gNx M (mN M 23)))) S) gNo := by
  refine gCt_of (lo := [some (.ref s), none, none]) (by decide +kernel) (Nat.le_of_ble_eq_true rfl) (rfl) ?_
  intro Γ hd G F hini
  obtain ⟨i6, i8, i11, i17, i23, i2, i5⟩ := i.b
  refine g_iconst (v := (-1)) G dX8_next_0 (by decide) ?_
  refine g_istore_n G dX8_next_1 (gSt_1 (by first | rfl | exact g_c1_rf)) ?_
  refine g_iconst (v := nI 0) G dX8_next_2 (by decide) ?_
  refine g_istore_n G dX8_next_3 (gSt_2 (by first | rfl | exact g_c1_rf)) ?_
  have loop4 : ∀ f2 t : Nat, t ≤ (mN M 23) → (mN M 23) + 1 ≤ t + f2 → gW Γ 4 [some (.ref s), some (.int (gNxV (gNx M (t)))), some (.int (nI (t)))] [] S 0 0 := by
    intro f2
    induction f2 with
    | zero => intro t  q1 q2; omega
    | succ f2 ih2 =>
      intro t  ht2 hf2 
      refine g_iload_n G dX8_next_4 rfl ?_
      first | refine g_aload_n G dX8_next_5 rfl ?_ | refine g_aload_nN G dX8_next_5 rfl ?_ | refine g_aload_nQ G dX8_next_5 rfl ?_
      refine g_getR G fl_X8_3 (q.kd) (by first | decide | omega) rfl (q.md) dX8_next_6 ?_
      refine g_getIN G fl_X8_69 (r.kd) (by first | decide | omega) rfl (r.n 23 rfl) dX8_next_9 ?_
      refine g_icmp_ge (tgt := 58) G dX8_next_12 (by decide) (fun c_12 => ?_) (fun c_12 => ?_)
      · have et : t = (mN M 23) := by have := (nI_leI (by omega) (by omega)).mp c_12; omega
        subst et
        refine g_iload_n G dX8_next_58 rfl ?_
        exact g_iret G F (⟨rfl, rfl⟩) (by omega) (by omega) dX8_next_59
      · have hlt2 : t < (mN M 23) := by have z : ¬ (mN M 23) ≤ t := fun z => c_12 ((nI_leI (by omega) (by omega)).mpr z); omega
        first | refine g_aload_n G dX8_next_15 rfl ?_ | refine g_aload_nN G dX8_next_15 rfl ?_ | refine g_aload_nQ G dX8_next_15 rfl ?_
        refine g_getR G fl_X8_31 (q.kd) (by first | decide | omega) rfl (q.Y 6 rfl) dX8_next_16 ?_
        refine g_iload_n G dX8_next_19 rfl ?_
        refine g_iald G (q.A 6 rfl) (by first | decide | omega) (q.lt 6 39 rfl (by omega)) (by omega) (q.X 6 39 rfl (by omega)) dX8_next_20 ?_
        refine g_if_ne (tgt := 52) G dX8_next_21 (by decide) (fun c_21 => ?_) (fun c_21 => ?_)
        · have e9 : gNx M (t + 1) = gNx M t := gNx_no (fun z => c_21 z.1)
          refine g_iinc (v := _) G dX8_next_52 rfl (by first | exact nI_1 _ | rfl) (gSt_2 (by first | rfl | exact g_c1_rf)) ?_
          refine g_goto (tgt := 4) G dX8_next_55 (by decide) ?_
          have h9 := ih2 (t + 1) (by omega) (by omega)
          rw [e9] at h9
          exact h9
        · have d0 : mA M 46 t = 0 := c_21
          cases en : gNx M t with
          | none =>
            have e9 : gNx M (t + 1) = some t := gNx_yes ⟨d0, fun b hb => by rw [en] at hb; cases hb⟩
            refine g_iload_n G dX8_next_24 rfl ?_
            refine g_iconst (v := (-1)) G dX8_next_25 (by decide) ?_
            refine g_icmp_eq (tgt := 50) G dX8_next_26 (by decide) (fun c_26 => ?_) (fun c_26 => (absurd rfl c_26))
            refine g_iload_n G dX8_next_50 rfl ?_
            refine g_istore_n G dX8_next_51 (gSt_1 (by first | rfl | exact g_c1_rf)) ?_
            refine g_iinc (v := _) G dX8_next_52 rfl (by first | exact nI_1 _ | rfl) (gSt_2 (by first | rfl | exact g_c1_rf)) ?_
            refine g_goto (tgt := 4) G dX8_next_55 (by decide) ?_
            have h9 := ih2 (t + 1) (by omega) (by omega)
            rw [e9] at h9
            exact h9
          | some kb =>
            have hkb := gNx_lt en
            refine g_iload_n G dX8_next_24 rfl ?_
            refine g_iconst (v := (-1)) G dX8_next_25 (by decide) ?_
            refine g_icmp_eq (tgt := 50) G dX8_next_26 (by decide) (fun c_26 => (absurd (show nI kb < 0 by rw [show nI kb = -1 from c_26]; decide) (nI_pos (by omega)))) (fun c_26 => ?_)
            first | refine g_aload_n G dX8_next_29 rfl ?_ | refine g_aload_nN G dX8_next_29 rfl ?_ | refine g_aload_nQ G dX8_next_29 rfl ?_
            refine g_getR G fl_X8_3 (q.kd) (by first | decide | omega) rfl (q.md) dX8_next_30 ?_
            refine g_getRN G fl_X8_72 (r.kd) (by first | decide | omega) rfl (r.Y 26 rfl) dX8_next_33 ?_
            refine g_iload_n G dX8_next_36 rfl ?_
            refine g_iald G (r.A 26 rfl) (by first | decide | omega) (r.lt 26 39 rfl (by omega)) (by omega) (r.X 26 39 rfl rfl (by omega)) dX8_next_37 ?_
            first | refine g_aload_n G dX8_next_38 rfl ?_ | refine g_aload_nN G dX8_next_38 rfl ?_ | refine g_aload_nQ G dX8_next_38 rfl ?_
            refine g_getR G fl_X8_3 (q.kd) (by first | decide | omega) rfl (q.md) dX8_next_39 ?_
            refine g_getRN G fl_X8_72 (r.kd) (by first | decide | omega) rfl (r.Y 26 rfl) dX8_next_42 ?_
            refine g_iload_n G dX8_next_45 rfl ?_
            refine g_iald G (r.A 26 rfl) (by first | decide | omega) (r.lt 26 39 rfl (by omega)) (by omega) (r.X 26 39 rfl rfl (by omega)) dX8_next_46 ?_
            refine g_icmp_ge (tgt := 52) G dX8_next_47 (by decide) (fun c_47 => ?_) (fun c_47 => ?_)
            · have e9 : gNx M (t + 1) = some kb := (gNx_no (fun z => absurd (z.2 kb en) (Int32.not_lt.mpr c_47))).trans en
              refine g_iinc (v := _) G dX8_next_52 rfl (by first | exact nI_1 _ | rfl) (gSt_2 (by first | rfl | exact g_c1_rf)) ?_
              refine g_goto (tgt := 4) G dX8_next_55 (by decide) ?_
              have h9 := ih2 (t + 1) (by omega) (by omega)
              rw [e9] at h9
              exact h9
            · have e9 : gNx M (t + 1) = some t := gNx_yes ⟨d0, fun b hb => by rw [en] at hb; cases hb; exact Int32.not_le.mp c_47⟩
              refine g_iload_n G dX8_next_50 rfl ?_
              refine g_istore_n G dX8_next_51 (gSt_1 (by first | rfl | exact g_c1_rf)) ?_
              refine g_iinc (v := _) G dX8_next_52 rfl (by first | exact nI_1 _ | rfl) (gSt_2 (by first | rfl | exact g_c1_rf)) ?_
              refine g_goto (tgt := 4) G dX8_next_55 (by decide) ?_
              have h9 := ih2 (t + 1) (by omega) (by omega)
              rw [e9] at h9
              exact h9
  exact loop4 ((mN M 23) + 1) 0 (by omega) (by omega)
