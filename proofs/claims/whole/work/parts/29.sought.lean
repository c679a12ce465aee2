/-! ===== compared, sought, seen most, arrives ===== -/
def gDifP (M : gM) (p q d : Nat) : Nat → Bool := fun k => decide (¬ gSeenAt (mT M 13 d k) (mT M 14 d k) (mT M 15 d k) (gIntoOf M p (mC M d)) = gSeenAt (mT M 13 d k) (mT M 14 d k) (mT M 15 d k) (gIntoOf M q (mC M d)))
def gFndP (M : gM) (d : Nat) (r : Int32) : Nat → Bool := fun s => decide (∀ k, k < mN M 2 → gSeenAt (mT M 13 d (s + k)) (mT M 14 d (s + k)) (mT M 15 d (s + k)) r = mA M 1 k)
def gHidR (M : gM) (d : Nat) (r : Int32) : Nat → Bool := fun k => decide (¬ gSeenAt (mT M 13 d k) (mT M 14 d k) (mT M 15 d k) r = mT M 13 d k)
def gClk (M : gM) : Nat := gct (fun k => decide (mA M 9 k = 0)) (mN M 8)
def gClr (M : gM) (p : Nat) (t : Int32) : Int32 := if nI 0 < mA M 41 p - (mA M 42 p + nI (gct (gLateP M p (nI (mN M 40) + t)) (mN M 11))) / nI 3 then mA M 41 p - (mA M 42 p + nI (gct (gLateP M p (nI (mN M 40) + t)) (mN M 11))) / nI 3 else nI 0
def gDays (M : gM) (l : Nat) : Nat := gct (gAheadP M l) (mN M 23) / (3 * gClk M)
def gLp (M : gM) (l : Nat) : Nat := (mA M 25 l).toNatClampNeg
def gLd (M : gM) (l : Nat) : Nat := (mA M 24 l).toNatClampNeg
def gArr (M : gM) (l : Nat) : Int32 := if mA M 46 l = nI 1 then nI 0 else if mA M 46 l = nI 2 ∨ gClk M = 0 then -1 else if mA M 7 (mC M (gLd M l)) ≤ gReach (mA M 9 (gLp M l)) (gClr M (gLp M l) (nI (gDays M l))) (gBit (mA M 10 (gLp M l)) (mC M (gLd M l))) then nI (gDays M l + 1) else -1
theorem gBytes_le {M : gM} {p c : Nat} : ∀ {n : Nat}, (∀ d, d < n → mN M (100 + d) ≤ 2500) → gBytes M p c n ≤ 2500 * n
  | 0, _ => Nat.le_refl 0
  | n + 1, h => by
    have ih := gBytes_le (M := M) (p := p) (c := c) (n := n) (fun d hd => h d (by omega))
    have := h n (by omega)
    unfold gBytes
    split <;> omega
theorem gSees_le {M : gM} {c : Nat} (h : ∀ d, d < mN M 11 → mN M (100 + d) ≤ 2500) : ∀ n, (gSees M c n).2 ≤ 2500 * mN M 11
  | 0 => Nat.zero_le _
  | n + 1 => by
    have ih := gSees_le (c := c) h n
    unfold gSees
    split
    · show gSeesN M c n ≤ _
      unfold gSeesN
      split
      · exact gBytes_le h
      · exact Nat.zero_le _
    · exact ih

set_option maxHeartbeats 4000000 in
set_option maxRecDepth 100000 in
theorem c_X7_differs (d0 : Nat × Nat) (S : gS) (x : Nat) (ad : Nat → Nat → Nat) (M : gM) (h : gMail d0 S x ad M) (a b j : Int32) : gCt d0 yX7_differs cX7_differs 10 (some .int) 10 1 6 [.ref x, .int a, .int b, .int j] S (fun v' S' => ∃ p q d, p < mN M 8 ∧ a = nI p ∧ q < mN M 8 ∧ b = nI q ∧ d < mN M 11 ∧ j = nI d ∧ (∃ v, v' = some (.int v) ∧ gIsF (gDifP M p q d) (mN M (100 + d)) v) ∧ S' = S) (fun E S' => S' = S ∧ (E = "java/lang/IndexOutOfBoundsException" ∧ ¬ (gIx (mN M 8) a ∧ gIx (mN M 8) b ∧ gIx (mN M 11) j))) := by
  refine gCt_of (lo := [some (.ref x), some (.int a), some (.int b), some (.int j), none, none, none, none, none, none]) (by decide +kernel) (Nat.le_of_ble_eq_true rfl) (rfl) ?_
  intro Γ hd G F hini
  obtain ⟨⟨r1, ⟨ra, rb, rc, rd, re⟩, rt, rtl, rp, rpl, rdr, rep, rday⟩, ⟨l0, l1, l2, l3, l4⟩, ht, hcs, hps, hds, hes, hls⟩ := id h
  subst hd
  by_cases h_p : gIx (mN M 8) a
  · obtain ⟨p, hp, rfl⟩ := gIx_of h_p (by have := l1.2.2.1; omega)
    by_cases h_q : gIx (mN M 8) b
    · obtain ⟨q, hq, rfl⟩ := gIx_of h_q (by have := l1.2.2.1; omega)
      by_cases h_d : gIx (mN M 11) j
      · obtain ⟨d, hd, rfl⟩ := gIx_of h_d (by have := l2.2.2.1; omega)
        obtain ⟨k1, ⟨kc, kc1, kc2, kc3⟩, ⟨k2, k3, k4⟩, ⟨k5, k6, k7, k8, kpr⟩, kl, ⟨t1, t2, t3⟩, ⟨v1, v2, v3⟩, ⟨w1, w2, w3⟩⟩ := hds d hd
        have hNc := l0.2.2.1
        obtain rfl : kc = mC M d := by rw [mC, kc2, nI_clamp (by omega)]
        obtain ⟨p1, p2, p3, p4, p5, p6⟩ := id (hps p hp)
        obtain ⟨q1, q2, q3, q4, q5, q6⟩ := id (hps q hq)
        first | refine g_aload_n G dX7_differs_0 rfl ?_ | refine g_aload_nN G dX7_differs_0 rfl ?_ | refine g_aload_nQ G dX7_differs_0 rfl ?_
        refine g_iload_n G dX7_differs_1 rfl ?_
        refine g_callVp (ci := 8) G (c_personAt _ S x ad M h p hp) mt_X7_personAt mi_X7_personAt ml_X7_151 (by assumption) (by first | decide | omega) rfl (by decide) (by omega) (by omega) rfl (Nat.le_of_ble_eq_true rfl) dX7_differs_2 ?_
        first | refine g_astore G dX7_differs_5 (gSt_4 (by first | rfl | exact g_c1_rf)) ?_ | refine g_astoreN G dX7_differs_5 (gSt_4 (by first | rfl | exact g_c1_rf)) ?_ | refine g_astoreQ G dX7_differs_5 (gSt_4 (by first | rfl | exact g_c1_rf)) ?_
        first | refine g_aload_n G dX7_differs_7 rfl ?_ | refine g_aload_nN G dX7_differs_7 rfl ?_ | refine g_aload_nQ G dX7_differs_7 rfl ?_
        refine g_iload_n G dX7_differs_8 rfl ?_
        refine g_callVp (ci := 8) G (c_personAt _ S x ad M h q hq) mt_X7_personAt mi_X7_personAt ml_X7_151 (by assumption) (by first | decide | omega) rfl (by decide) (by omega) (by omega) rfl (Nat.le_of_ble_eq_true rfl) dX7_differs_9 ?_
        first | refine g_astore G dX7_differs_12 (gSt_5 (by first | rfl | exact g_c1_rf)) ?_ | refine g_astoreN G dX7_differs_12 (gSt_5 (by first | rfl | exact g_c1_rf)) ?_ | refine g_astoreQ G dX7_differs_12 (gSt_5 (by first | rfl | exact g_c1_rf)) ?_
        first | refine g_aload_n G dX7_differs_14 rfl ?_ | refine g_aload_nN G dX7_differs_14 rfl ?_ | refine g_aload_nQ G dX7_differs_14 rfl ?_
        refine g_iload_n G dX7_differs_15 rfl ?_
        refine g_callVp (ci := 8) G (c_documentAt _ S x ad M h d hd) mt_X7_documentAt mi_X7_documentAt ml_X7_104 (by assumption) (by first | decide | omega) rfl (by decide) (by omega) (by omega) rfl (Nat.le_of_ble_eq_true rfl) dX7_differs_16 ?_
        first | refine g_astore G dX7_differs_19 (gSt_6 (by first | rfl | exact g_c1_rf)) ?_ | refine g_astoreN G dX7_differs_19 (gSt_6 (by first | rfl | exact g_c1_rf)) ?_ | refine g_astoreQ G dX7_differs_19 (gSt_6 (by first | rfl | exact g_c1_rf)) ?_
        first | refine g_aload G dX7_differs_21 rfl ?_ | refine g_aloadN G dX7_differs_21 rfl ?_ | refine g_aloadQ G dX7_differs_21 rfl ?_
        refine g_ifnull G dX7_differs_23 ?_
        first | refine g_aload G dX7_differs_26 rfl ?_ | refine g_aloadN G dX7_differs_26 rfl ?_ | refine g_aloadQ G dX7_differs_26 rfl ?_
        refine g_ifnull G dX7_differs_28 ?_
        first | refine g_aload G dX7_differs_31 rfl ?_ | refine g_aloadN G dX7_differs_31 rfl ?_ | refine g_aloadQ G dX7_differs_31 rfl ?_
        refine g_ifnonnull (tgt := 46) G dX7_differs_33 (by decide) ?_
        first | refine g_aload G dX7_differs_46 rfl ?_ | refine g_aloadN G dX7_differs_46 rfl ?_ | refine g_aloadQ G dX7_differs_46 rfl ?_
        first | refine g_aload G dX7_differs_48 rfl ?_ | refine g_aloadN G dX7_differs_48 rfl ?_ | refine g_aloadQ G dX7_differs_48 rfl ?_
        first | refine g_getR G fl_X7_181 (by assumption) (by first | decide | omega) rfl (by assumption) dX7_differs_50 ?_ | refine g_getZ G fl_X7_181 (by assumption) (by first | decide | omega) rfl (by assumption) dX7_differs_50 ?_ | refine g_getQ G fl_X7_181 (by assumption) (by first | decide | omega) rfl (by first | assumption | rfl) dX7_differs_50 ?_
        refine g_callVp (ci := 7) G (c_X6_reachInto _ S (ad 1 p) p (ad 0 (mC M d)) (mC M d) _ _ _ _ _ (hps p hp) (hcs (mC M d) kc1)) mt_X6_reachInto mi_X6_reachInto ml_X7_185 (by assumption) (by first | decide | omega) rfl (by decide) (by omega) (by omega) rfl (Nat.le_of_ble_eq_true rfl) dX7_differs_53 ?_
        refine g_istore G dX7_differs_56 (gSt_7 (by first | rfl | exact g_c1_rf)) ?_
        first | refine g_aload G dX7_differs_58 rfl ?_ | refine g_aloadN G dX7_differs_58 rfl ?_ | refine g_aloadQ G dX7_differs_58 rfl ?_
        first | refine g_aload G dX7_differs_60 rfl ?_ | refine g_aloadN G dX7_differs_60 rfl ?_ | refine g_aloadQ G dX7_differs_60 rfl ?_
        first | refine g_getR G fl_X7_181 (by assumption) (by first | decide | omega) rfl (by assumption) dX7_differs_62 ?_ | refine g_getZ G fl_X7_181 (by assumption) (by first | decide | omega) rfl (by assumption) dX7_differs_62 ?_ | refine g_getQ G fl_X7_181 (by assumption) (by first | decide | omega) rfl (by first | assumption | rfl) dX7_differs_62 ?_
        refine g_callVp (ci := 7) G (c_X6_reachInto _ S (ad 1 q) q (ad 0 (mC M d)) (mC M d) _ _ _ _ _ (hps q hq) (hcs (mC M d) kc1)) mt_X6_reachInto mi_X6_reachInto ml_X7_185 (by assumption) (by first | decide | omega) rfl (by decide) (by omega) (by omega) rfl (Nat.le_of_ble_eq_true rfl) dX7_differs_65 ?_
        refine g_istore G dX7_differs_68 (gSt_8 (by first | rfl | exact g_c1_rf)) ?_
        refine g_iconst (v := nI 0) G dX7_differs_70 (by decide) ?_
        refine g_istore G dX7_differs_71 (gSt_9 (by first | rfl | exact g_c1_rf)) ?_
        have inner73 : ∀ f2 t : Nat, t ≤ (mN M (100 + d)) → (mN M (100 + d)) + 1 ≤ t + f2 → (∀ k, k < t → gDifP M p q d k = false) → gW Γ 73 [some (.ref x), some (.int (nI p)), some (.int (nI q)), some (.int (nI d)), some (.ref (ad 1 p)), some (.ref (ad 1 q)), some (.ref (ad 2 d)), some (.int (gIntoOf M p (mC M d))), some (.int (gIntoOf M q (mC M d))), some (.int (nI (t)))] [] S 0 0 := by
          intro f2
          induction f2 with
          | zero => intro t q1 q2; omega
          | succ f2 ih2 =>
            intro t ht2 hf2  hv2
            refine g_iload G dX7_differs_73 rfl ?_
            first | refine g_aload G dX7_differs_75 rfl ?_ | refine g_aloadN G dX7_differs_75 rfl ?_ | refine g_aloadQ G dX7_differs_75 rfl ?_
            first | refine g_getR G fl_X7_202 (by assumption) (by first | decide | omega) rfl (by assumption) dX7_differs_77 ?_ | refine g_getZ G fl_X7_202 (by assumption) (by first | decide | omega) rfl (by assumption) dX7_differs_77 ?_ | refine g_getQ G fl_X7_202 (by assumption) (by first | decide | omega) rfl (by first | assumption | rfl) dX7_differs_77 ?_
            refine g_alen G (t1) (by first | decide | omega) (by first | assumption | rfl) dX7_differs_80 ?_
            refine g_icmp_ge (tgt := 114) G dX7_differs_81 (by decide) (fun c_81 => ?_) (fun c_81 => ?_)
            · have et : t = (mN M (100 + d)) := by have := (nI_leI (by omega) (by omega)).mp c_81; omega
              subst et
              refine g_iconst (v := (-1)) G dX7_differs_114 (by decide) ?_
              exact g_iret G F (⟨p, q, d, hp, rfl, hq, rfl, hd, rfl, ⟨_, rfl, Or.inl ⟨rfl, hv2⟩⟩, rfl⟩) (by omega) (by omega) dX7_differs_115
            · have hlt2 : t < (mN M (100 + d)) := by have z : ¬ (mN M (100 + d)) ≤ t := fun z => c_81 ((nI_leI (by omega) (by omega)).mpr z); omega
              first | refine g_aload G dX7_differs_84 rfl ?_ | refine g_aloadN G dX7_differs_84 rfl ?_ | refine g_aloadQ G dX7_differs_84 rfl ?_
              refine g_iload G dX7_differs_86 rfl ?_
              refine g_iload G dX7_differs_88 rfl ?_
              refine g_callVp (ci := 2) G (c_X1_seenAt _ S ad M d (hds d hd) t hlt2 _) mt_X1_seenAt mi_X1_seenAt ml_X7_206 (by assumption) (by first | decide | omega) rfl (by decide) (by omega) (by omega) rfl (Nat.le_of_ble_eq_true rfl) dX7_differs_90 ?_
              first | refine g_aload G dX7_differs_93 rfl ?_ | refine g_aloadN G dX7_differs_93 rfl ?_ | refine g_aloadQ G dX7_differs_93 rfl ?_
              refine g_iload G dX7_differs_95 rfl ?_
              refine g_iload G dX7_differs_97 rfl ?_
              refine g_callVp (ci := 2) G (c_X1_seenAt _ S ad M d (hds d hd) t hlt2 _) mt_X1_seenAt mi_X1_seenAt ml_X7_206 (by assumption) (by first | decide | omega) rfl (by decide) (by omega) (by omega) rfl (Nat.le_of_ble_eq_true rfl) dX7_differs_99 ?_
              refine g_icmp_eq (tgt := 108) G dX7_differs_102 (by decide) (fun c_102 => ?_) (fun c_102 => ?_)
              · have e9 : gDifP M p q d t = false := decide_eq_false (fun z => z c_102)
                refine g_iinc (v := _) G dX7_differs_108 rfl (by first | exact nI_1 _ | rfl) (gSt_9 (by first | rfl | exact g_c1_rf)) ?_
                refine g_goto (tgt := 73) G dX7_differs_111 (by decide) ?_
                exact ih2 (t + 1) (by omega) (by omega) (fun k hk => (Nat.lt_or_ge k t).elim (hv2 k) (fun z => by rw [show k = t by omega]; exact e9))
              · have e8 : gDifP M p q d t = true := decide_eq_true c_102
                refine g_iload G dX7_differs_105 rfl ?_
                exact g_iret G F (⟨p, q, d, hp, rfl, hq, rfl, hd, rfl, ⟨_, rfl, Or.inr ⟨t, hlt2, rfl, e8, hv2⟩⟩, rfl⟩) (by omega) (by omega) dX7_differs_107
        exact inner73 ((mN M (100 + d)) + 1) 0 (by omega) (by omega) (fun k hk => by omega)
      · have hno : ¬ (gIx (mN M 8) (nI p) ∧ gIx (mN M 8) (nI q) ∧ gIx (mN M 11) j) := fun z => h_d (z.2.2)
        first | refine g_aload_n G dX7_differs_0 rfl ?_ | refine g_aload_nN G dX7_differs_0 rfl ?_ | refine g_aload_nQ G dX7_differs_0 rfl ?_
        refine g_iload_n G dX7_differs_1 rfl ?_
        refine g_callVp (ci := 8) G (c_personAt _ S x ad M h p hp) mt_X7_personAt mi_X7_personAt ml_X7_151 (by assumption) (by first | decide | omega) rfl (by decide) (by omega) (by omega) rfl (Nat.le_of_ble_eq_true rfl) dX7_differs_2 ?_
        first | refine g_astore G dX7_differs_5 (gSt_4 (by first | rfl | exact g_c1_rf)) ?_ | refine g_astoreN G dX7_differs_5 (gSt_4 (by first | rfl | exact g_c1_rf)) ?_ | refine g_astoreQ G dX7_differs_5 (gSt_4 (by first | rfl | exact g_c1_rf)) ?_
        first | refine g_aload_n G dX7_differs_7 rfl ?_ | refine g_aload_nN G dX7_differs_7 rfl ?_ | refine g_aload_nQ G dX7_differs_7 rfl ?_
        refine g_iload_n G dX7_differs_8 rfl ?_
        refine g_callVp (ci := 8) G (c_personAt _ S x ad M h q hq) mt_X7_personAt mi_X7_personAt ml_X7_151 (by assumption) (by first | decide | omega) rfl (by decide) (by omega) (by omega) rfl (Nat.le_of_ble_eq_true rfl) dX7_differs_9 ?_
        first | refine g_astore G dX7_differs_12 (gSt_5 (by first | rfl | exact g_c1_rf)) ?_ | refine g_astoreN G dX7_differs_12 (gSt_5 (by first | rfl | exact g_c1_rf)) ?_ | refine g_astoreQ G dX7_differs_12 (gSt_5 (by first | rfl | exact g_c1_rf)) ?_
        first | refine g_aload_n G dX7_differs_14 rfl ?_ | refine g_aload_nN G dX7_differs_14 rfl ?_ | refine g_aload_nQ G dX7_differs_14 rfl ?_
        refine g_iload_n G dX7_differs_15 rfl ?_
        refine g_callVp (ci := 8) G (c_documentAt_no _ S x ad M h j (gIx_no h_d)) mt_X7_documentAt mi_X7_documentAt ml_X7_104 (by assumption) (by first | decide | omega) rfl (by decide) (by omega) (by omega) rfl (Nat.le_of_ble_eq_true rfl) dX7_differs_16 ?_
        first | refine g_astore G dX7_differs_19 (gSt_6 (by first | rfl | exact g_c1_rf)) ?_ | refine g_astoreN G dX7_differs_19 (gSt_6 (by first | rfl | exact g_c1_rf)) ?_ | refine g_astoreQ G dX7_differs_19 (gSt_6 (by first | rfl | exact g_c1_rf)) ?_
        first | refine g_aload G dX7_differs_21 rfl ?_ | refine g_aloadN G dX7_differs_21 rfl ?_ | refine g_aloadQ G dX7_differs_21 rfl ?_
        refine g_ifnull G dX7_differs_23 ?_
        first | refine g_aload G dX7_differs_26 rfl ?_ | refine g_aloadN G dX7_differs_26 rfl ?_ | refine g_aloadQ G dX7_differs_26 rfl ?_
        refine g_ifnull G dX7_differs_28 ?_
        first | refine g_aload G dX7_differs_31 rfl ?_ | refine g_aloadN G dX7_differs_31 rfl ?_ | refine g_aloadQ G dX7_differs_31 rfl ?_
        refine g_ifnonnullN G dX7_differs_33 ?_
        exact g_throw (names := nm_IOE) G F tf_IOE cl_X7_75 ti_IOE st_X7_179 ta_IOE dX7_differs_36 (by exact dX7_differs_39) (by exact dX7_differs_40) (by exact dX7_differs_42) (by exact dX7_differs_45) (by decide) (Nat.le_of_ble_eq_true rfl) (by omega) (by omega) (⟨rfl, rfl, hno⟩)
    · have hno : ¬ (gIx (mN M 8) (nI p) ∧ gIx (mN M 8) b ∧ gIx (mN M 11) j) := fun z => h_q (z.2.1)
      by_cases h_d : gIx (mN M 11) j
      · obtain ⟨d, hd, rfl⟩ := gIx_of h_d (by have := l2.2.2.1; omega)
        first | refine g_aload_n G dX7_differs_0 rfl ?_ | refine g_aload_nN G dX7_differs_0 rfl ?_ | refine g_aload_nQ G dX7_differs_0 rfl ?_
        refine g_iload_n G dX7_differs_1 rfl ?_
        refine g_callVp (ci := 8) G (c_personAt _ S x ad M h p hp) mt_X7_personAt mi_X7_personAt ml_X7_151 (by assumption) (by first | decide | omega) rfl (by decide) (by omega) (by omega) rfl (Nat.le_of_ble_eq_true rfl) dX7_differs_2 ?_
        first | refine g_astore G dX7_differs_5 (gSt_4 (by first | rfl | exact g_c1_rf)) ?_ | refine g_astoreN G dX7_differs_5 (gSt_4 (by first | rfl | exact g_c1_rf)) ?_ | refine g_astoreQ G dX7_differs_5 (gSt_4 (by first | rfl | exact g_c1_rf)) ?_
        first | refine g_aload_n G dX7_differs_7 rfl ?_ | refine g_aload_nN G dX7_differs_7 rfl ?_ | refine g_aload_nQ G dX7_differs_7 rfl ?_
        refine g_iload_n G dX7_differs_8 rfl ?_
        refine g_callVp (ci := 8) G (c_personAt_no _ S x ad M h b (gIx_no h_q)) mt_X7_personAt mi_X7_personAt ml_X7_151 (by assumption) (by first | decide | omega) rfl (by decide) (by omega) (by omega) rfl (Nat.le_of_ble_eq_true rfl) dX7_differs_9 ?_
        first | refine g_astore G dX7_differs_12 (gSt_5 (by first | rfl | exact g_c1_rf)) ?_ | refine g_astoreN G dX7_differs_12 (gSt_5 (by first | rfl | exact g_c1_rf)) ?_ | refine g_astoreQ G dX7_differs_12 (gSt_5 (by first | rfl | exact g_c1_rf)) ?_
        first | refine g_aload_n G dX7_differs_14 rfl ?_ | refine g_aload_nN G dX7_differs_14 rfl ?_ | refine g_aload_nQ G dX7_differs_14 rfl ?_
        refine g_iload_n G dX7_differs_15 rfl ?_
        refine g_callVp (ci := 8) G (c_documentAt _ S x ad M h d hd) mt_X7_documentAt mi_X7_documentAt ml_X7_104 (by assumption) (by first | decide | omega) rfl (by decide) (by omega) (by omega) rfl (Nat.le_of_ble_eq_true rfl) dX7_differs_16 ?_
        first | refine g_astore G dX7_differs_19 (gSt_6 (by first | rfl | exact g_c1_rf)) ?_ | refine g_astoreN G dX7_differs_19 (gSt_6 (by first | rfl | exact g_c1_rf)) ?_ | refine g_astoreQ G dX7_differs_19 (gSt_6 (by first | rfl | exact g_c1_rf)) ?_
        first | refine g_aload G dX7_differs_21 rfl ?_ | refine g_aloadN G dX7_differs_21 rfl ?_ | refine g_aloadQ G dX7_differs_21 rfl ?_
        refine g_ifnull G dX7_differs_23 ?_
        first | refine g_aload G dX7_differs_26 rfl ?_ | refine g_aloadN G dX7_differs_26 rfl ?_ | refine g_aloadQ G dX7_differs_26 rfl ?_
        refine g_ifnullN (tgt := 36) G dX7_differs_28 (by decide) ?_
        exact g_throw (names := nm_IOE) G F tf_IOE cl_X7_75 ti_IOE st_X7_179 ta_IOE dX7_differs_36 (by exact dX7_differs_39) (by exact dX7_differs_40) (by exact dX7_differs_42) (by exact dX7_differs_45) (by decide) (Nat.le_of_ble_eq_true rfl) (by omega) (by omega) (⟨rfl, rfl, hno⟩)
      · first | refine g_aload_n G dX7_differs_0 rfl ?_ | refine g_aload_nN G dX7_differs_0 rfl ?_ | refine g_aload_nQ G dX7_differs_0 rfl ?_
        refine g_iload_n G dX7_differs_1 rfl ?_
        refine g_callVp (ci := 8) G (c_personAt _ S x ad M h p hp) mt_X7_personAt mi_X7_personAt ml_X7_151 (by assumption) (by first | decide | omega) rfl (by decide) (by omega) (by omega) rfl (Nat.le_of_ble_eq_true rfl) dX7_differs_2 ?_
        first | refine g_astore G dX7_differs_5 (gSt_4 (by first | rfl | exact g_c1_rf)) ?_ | refine g_astoreN G dX7_differs_5 (gSt_4 (by first | rfl | exact g_c1_rf)) ?_ | refine g_astoreQ G dX7_differs_5 (gSt_4 (by first | rfl | exact g_c1_rf)) ?_
        first | refine g_aload_n G dX7_differs_7 rfl ?_ | refine g_aload_nN G dX7_differs_7 rfl ?_ | refine g_aload_nQ G dX7_differs_7 rfl ?_
        refine g_iload_n G dX7_differs_8 rfl ?_
        refine g_callVp (ci := 8) G (c_personAt_no _ S x ad M h b (gIx_no h_q)) mt_X7_personAt mi_X7_personAt ml_X7_151 (by assumption) (by first | decide | omega) rfl (by decide) (by omega) (by omega) rfl (Nat.le_of_ble_eq_true rfl) dX7_differs_9 ?_
        first | refine g_astore G dX7_differs_12 (gSt_5 (by first | rfl | exact g_c1_rf)) ?_ | refine g_astoreN G dX7_differs_12 (gSt_5 (by first | rfl | exact g_c1_rf)) ?_ | refine g_astoreQ G dX7_differs_12 (gSt_5 (by first | rfl | exact g_c1_rf)) ?_
        first | refine g_aload_n G dX7_differs_14 rfl ?_ | refine g_aload_nN G dX7_differs_14 rfl ?_ | refine g_aload_nQ G dX7_differs_14 rfl ?_
        refine g_iload_n G dX7_differs_15 rfl ?_
        refine g_callVp (ci := 8) G (c_documentAt_no _ S x ad M h j (gIx_no h_d)) mt_X7_documentAt mi_X7_documentAt ml_X7_104 (by assumption) (by first | decide | omega) rfl (by decide) (by omega) (by omega) rfl (Nat.le_of_ble_eq_true rfl) dX7_differs_16 ?_
        first | refine g_astore G dX7_differs_19 (gSt_6 (by first | rfl | exact g_c1_rf)) ?_ | refine g_astoreN G dX7_differs_19 (gSt_6 (by first | rfl | exact g_c1_rf)) ?_ | refine g_astoreQ G dX7_differs_19 (gSt_6 (by first | rfl | exact g_c1_rf)) ?_
        first | refine g_aload G dX7_differs_21 rfl ?_ | refine g_aloadN G dX7_differs_21 rfl ?_ | refine g_aloadQ G dX7_differs_21 rfl ?_
        refine g_ifnull G dX7_differs_23 ?_
        first | refine g_aload G dX7_differs_26 rfl ?_ | refine g_aloadN G dX7_differs_26 rfl ?_ | refine g_aloadQ G dX7_differs_26 rfl ?_
        refine g_ifnullN (tgt := 36) G dX7_differs_28 (by decide) ?_
        exact g_throw (names := nm_IOE) G F tf_IOE cl_X7_75 ti_IOE st_X7_179 ta_IOE dX7_differs_36 (by exact dX7_differs_39) (by exact dX7_differs_40) (by exact dX7_differs_42) (by exact dX7_differs_45) (by decide) (Nat.le_of_ble_eq_true rfl) (by omega) (by omega) (⟨rfl, rfl, hno⟩)
  · have hno : ¬ (gIx (mN M 8) a ∧ gIx (mN M 8) b ∧ gIx (mN M 11) j) := fun z => h_p (z.1)
    by_cases h_q : gIx (mN M 8) b
    · obtain ⟨q, hq, rfl⟩ := gIx_of h_q (by have := l1.2.2.1; omega)
      by_cases h_d : gIx (mN M 11) j
      · obtain ⟨d, hd, rfl⟩ := gIx_of h_d (by have := l2.2.2.1; omega)
        first | refine g_aload_n G dX7_differs_0 rfl ?_ | refine g_aload_nN G dX7_differs_0 rfl ?_ | refine g_aload_nQ G dX7_differs_0 rfl ?_
        refine g_iload_n G dX7_differs_1 rfl ?_
        refine g_callVp (ci := 8) G (c_personAt_no _ S x ad M h a (gIx_no h_p)) mt_X7_personAt mi_X7_personAt ml_X7_151 (by assumption) (by first | decide | omega) rfl (by decide) (by omega) (by omega) rfl (Nat.le_of_ble_eq_true rfl) dX7_differs_2 ?_
        first | refine g_astore G dX7_differs_5 (gSt_4 (by first | rfl | exact g_c1_rf)) ?_ | refine g_astoreN G dX7_differs_5 (gSt_4 (by first | rfl | exact g_c1_rf)) ?_ | refine g_astoreQ G dX7_differs_5 (gSt_4 (by first | rfl | exact g_c1_rf)) ?_
        first | refine g_aload_n G dX7_differs_7 rfl ?_ | refine g_aload_nN G dX7_differs_7 rfl ?_ | refine g_aload_nQ G dX7_differs_7 rfl ?_
        refine g_iload_n G dX7_differs_8 rfl ?_
        refine g_callVp (ci := 8) G (c_personAt _ S x ad M h q hq) mt_X7_personAt mi_X7_personAt ml_X7_151 (by assumption) (by first | decide | omega) rfl (by decide) (by omega) (by omega) rfl (Nat.le_of_ble_eq_true rfl) dX7_differs_9 ?_
        first | refine g_astore G dX7_differs_12 (gSt_5 (by first | rfl | exact g_c1_rf)) ?_ | refine g_astoreN G dX7_differs_12 (gSt_5 (by first | rfl | exact g_c1_rf)) ?_ | refine g_astoreQ G dX7_differs_12 (gSt_5 (by first | rfl | exact g_c1_rf)) ?_
        first | refine g_aload_n G dX7_differs_14 rfl ?_ | refine g_aload_nN G dX7_differs_14 rfl ?_ | refine g_aload_nQ G dX7_differs_14 rfl ?_
        refine g_iload_n G dX7_differs_15 rfl ?_
        refine g_callVp (ci := 8) G (c_documentAt _ S x ad M h d hd) mt_X7_documentAt mi_X7_documentAt ml_X7_104 (by assumption) (by first | decide | omega) rfl (by decide) (by omega) (by omega) rfl (Nat.le_of_ble_eq_true rfl) dX7_differs_16 ?_
        first | refine g_astore G dX7_differs_19 (gSt_6 (by first | rfl | exact g_c1_rf)) ?_ | refine g_astoreN G dX7_differs_19 (gSt_6 (by first | rfl | exact g_c1_rf)) ?_ | refine g_astoreQ G dX7_differs_19 (gSt_6 (by first | rfl | exact g_c1_rf)) ?_
        first | refine g_aload G dX7_differs_21 rfl ?_ | refine g_aloadN G dX7_differs_21 rfl ?_ | refine g_aloadQ G dX7_differs_21 rfl ?_
        refine g_ifnullN (tgt := 36) G dX7_differs_23 (by decide) ?_
        exact g_throw (names := nm_IOE) G F tf_IOE cl_X7_75 ti_IOE st_X7_179 ta_IOE dX7_differs_36 (by exact dX7_differs_39) (by exact dX7_differs_40) (by exact dX7_differs_42) (by exact dX7_differs_45) (by decide) (Nat.le_of_ble_eq_true rfl) (by omega) (by omega) (⟨rfl, rfl, hno⟩)
      · first | refine g_aload_n G dX7_differs_0 rfl ?_ | refine g_aload_nN G dX7_differs_0 rfl ?_ | refine g_aload_nQ G dX7_differs_0 rfl ?_
        refine g_iload_n G dX7_differs_1 rfl ?_
        refine g_callVp (ci := 8) G (c_personAt_no _ S x ad M h a (gIx_no h_p)) mt_X7_personAt mi_X7_personAt ml_X7_151 (by assumption) (by first | decide | omega) rfl (by decide) (by omega) (by omega) rfl (Nat.le_of_ble_eq_true rfl) dX7_differs_2 ?_
        first | refine g_astore G dX7_differs_5 (gSt_4 (by first | rfl | exact g_c1_rf)) ?_ | refine g_astoreN G dX7_differs_5 (gSt_4 (by first | rfl | exact g_c1_rf)) ?_ | refine g_astoreQ G dX7_differs_5 (gSt_4 (by first | rfl | exact g_c1_rf)) ?_
        first | refine g_aload_n G dX7_differs_7 rfl ?_ | refine g_aload_nN G dX7_differs_7 rfl ?_ | refine g_aload_nQ G dX7_differs_7 rfl ?_
        refine g_iload_n G dX7_differs_8 rfl ?_
        refine g_callVp (ci := 8) G (c_personAt _ S x ad M h q hq) mt_X7_personAt mi_X7_personAt ml_X7_151 (by assumption) (by first | decide | omega) rfl (by decide) (by omega) (by omega) rfl (Nat.le_of_ble_eq_true rfl) dX7_differs_9 ?_
        first | refine g_astore G dX7_differs_12 (gSt_5 (by first | rfl | exact g_c1_rf)) ?_ | refine g_astoreN G dX7_differs_12 (gSt_5 (by first | rfl | exact g_c1_rf)) ?_ | refine g_astoreQ G dX7_differs_12 (gSt_5 (by first | rfl | exact g_c1_rf)) ?_
        first | refine g_aload_n G dX7_differs_14 rfl ?_ | refine g_aload_nN G dX7_differs_14 rfl ?_ | refine g_aload_nQ G dX7_differs_14 rfl ?_
        refine g_iload_n G dX7_differs_15 rfl ?_
        refine g_callVp (ci := 8) G (c_documentAt_no _ S x ad M h j (gIx_no h_d)) mt_X7_documentAt mi_X7_documentAt ml_X7_104 (by assumption) (by first | decide | omega) rfl (by decide) (by omega) (by omega) rfl (Nat.le_of_ble_eq_true rfl) dX7_differs_16 ?_
        first | refine g_astore G dX7_differs_19 (gSt_6 (by first | rfl | exact g_c1_rf)) ?_ | refine g_astoreN G dX7_differs_19 (gSt_6 (by first | rfl | exact g_c1_rf)) ?_ | refine g_astoreQ G dX7_differs_19 (gSt_6 (by first | rfl | exact g_c1_rf)) ?_
        first | refine g_aload G dX7_differs_21 rfl ?_ | refine g_aloadN G dX7_differs_21 rfl ?_ | refine g_aloadQ G dX7_differs_21 rfl ?_
        refine g_ifnullN (tgt := 36) G dX7_differs_23 (by decide) ?_
        exact g_throw (names := nm_IOE) G F tf_IOE cl_X7_75 ti_IOE st_X7_179 ta_IOE dX7_differs_36 (by exact dX7_differs_39) (by exact dX7_differs_40) (by exact dX7_differs_42) (by exact dX7_differs_45) (by decide) (Nat.le_of_ble_eq_true rfl) (by omega) (by omega) (⟨rfl, rfl, hno⟩)
    · by_cases h_d : gIx (mN M 11) j
      · obtain ⟨d, hd, rfl⟩ := gIx_of h_d (by have := l2.2.2.1; omega)
        first | refine g_aload_n G dX7_differs_0 rfl ?_ | refine g_aload_nN G dX7_differs_0 rfl ?_ | refine g_aload_nQ G dX7_differs_0 rfl ?_
        refine g_iload_n G dX7_differs_1 rfl ?_
        refine g_callVp (ci := 8) G (c_personAt_no _ S x ad M h a (gIx_no h_p)) mt_X7_personAt mi_X7_personAt ml_X7_151 (by assumption) (by first | decide | omega) rfl (by decide) (by omega) (by omega) rfl (Nat.le_of_ble_eq_true rfl) dX7_differs_2 ?_
        first | refine g_astore G dX7_differs_5 (gSt_4 (by first | rfl | exact g_c1_rf)) ?_ | refine g_astoreN G dX7_differs_5 (gSt_4 (by first | rfl | exact g_c1_rf)) ?_ | refine g_astoreQ G dX7_differs_5 (gSt_4 (by first | rfl | exact g_c1_rf)) ?_
        first | refine g_aload_n G dX7_differs_7 rfl ?_ | refine g_aload_nN G dX7_differs_7 rfl ?_ | refine g_aload_nQ G dX7_differs_7 rfl ?_
        refine g_iload_n G dX7_differs_8 rfl ?_
        refine g_callVp (ci := 8) G (c_personAt_no _ S x ad M h b (gIx_no h_q)) mt_X7_personAt mi_X7_personAt ml_X7_151 (by assumption) (by first | decide | omega) rfl (by decide) (by omega) (by omega) rfl (Nat.le_of_ble_eq_true rfl) dX7_differs_9 ?_
        first | refine g_astore G dX7_differs_12 (gSt_5 (by first | rfl | exact g_c1_rf)) ?_ | refine g_astoreN G dX7_differs_12 (gSt_5 (by first | rfl | exact g_c1_rf)) ?_ | refine g_astoreQ G dX7_differs_12 (gSt_5 (by first | rfl | exact g_c1_rf)) ?_
        first | refine g_aload_n G dX7_differs_14 rfl ?_ | refine g_aload_nN G dX7_differs_14 rfl ?_ | refine g_aload_nQ G dX7_differs_14 rfl ?_
        refine g_iload_n G dX7_differs_15 rfl ?_
        refine g_callVp (ci := 8) G (c_documentAt _ S x ad M h d hd) mt_X7_documentAt mi_X7_documentAt ml_X7_104 (by assumption) (by first | decide | omega) rfl (by decide) (by omega) (by omega) rfl (Nat.le_of_ble_eq_true rfl) dX7_differs_16 ?_
        first | refine g_astore G dX7_differs_19 (gSt_6 (by first | rfl | exact g_c1_rf)) ?_ | refine g_astoreN G dX7_differs_19 (gSt_6 (by first | rfl | exact g_c1_rf)) ?_ | refine g_astoreQ G dX7_differs_19 (gSt_6 (by first | rfl | exact g_c1_rf)) ?_
        first | refine g_aload G dX7_differs_21 rfl ?_ | refine g_aloadN G dX7_differs_21 rfl ?_ | refine g_aloadQ G dX7_differs_21 rfl ?_
        refine g_ifnullN (tgt := 36) G dX7_differs_23 (by decide) ?_
        exact g_throw (names := nm_IOE) G F tf_IOE cl_X7_75 ti_IOE st_X7_179 ta_IOE dX7_differs_36 (by exact dX7_differs_39) (by exact dX7_differs_40) (by exact dX7_differs_42) (by exact dX7_differs_45) (by decide) (Nat.le_of_ble_eq_true rfl) (by omega) (by omega) (⟨rfl, rfl, hno⟩)
      · first | refine g_aload_n G dX7_differs_0 rfl ?_ | refine g_aload_nN G dX7_differs_0 rfl ?_ | refine g_aload_nQ G dX7_differs_0 rfl ?_
        refine g_iload_n G dX7_differs_1 rfl ?_
        refine g_callVp (ci := 8) G (c_personAt_no _ S x ad M h a (gIx_no h_p)) mt_X7_personAt mi_X7_personAt ml_X7_151 (by assumption) (by first | decide | omega) rfl (by decide) (by omega) (by omega) rfl (Nat.le_of_ble_eq_true rfl) dX7_differs_2 ?_
        first | refine g_astore G dX7_differs_5 (gSt_4 (by first | rfl | exact g_c1_rf)) ?_ | refine g_astoreN G dX7_differs_5 (gSt_4 (by first | rfl | exact g_c1_rf)) ?_ | refine g_astoreQ G dX7_differs_5 (gSt_4 (by first | rfl | exact g_c1_rf)) ?_
        first | refine g_aload_n G dX7_differs_7 rfl ?_ | refine g_aload_nN G dX7_differs_7 rfl ?_ | refine g_aload_nQ G dX7_differs_7 rfl ?_
        refine g_iload_n G dX7_differs_8 rfl ?_
        refine g_callVp (ci := 8) G (c_personAt_no _ S x ad M h b (gIx_no h_q)) mt_X7_personAt mi_X7_personAt ml_X7_151 (by assumption) (by first | decide | omega) rfl (by decide) (by omega) (by omega) rfl (Nat.le_of_ble_eq_true rfl) dX7_differs_9 ?_
        first | refine g_astore G dX7_differs_12 (gSt_5 (by first | rfl | exact g_c1_rf)) ?_ | refine g_astoreN G dX7_differs_12 (gSt_5 (by first | rfl | exact g_c1_rf)) ?_ | refine g_astoreQ G dX7_differs_12 (gSt_5 (by first | rfl | exact g_c1_rf)) ?_
        first | refine g_aload_n G dX7_differs_14 rfl ?_ | refine g_aload_nN G dX7_differs_14 rfl ?_ | refine g_aload_nQ G dX7_differs_14 rfl ?_
        refine g_iload_n G dX7_differs_15 rfl ?_
        refine g_callVp (ci := 8) G (c_documentAt_no _ S x ad M h j (gIx_no h_d)) mt_X7_documentAt mi_X7_documentAt ml_X7_104 (by assumption) (by first | decide | omega) rfl (by decide) (by omega) (by omega) rfl (Nat.le_of_ble_eq_true rfl) dX7_differs_16 ?_
        first | refine g_astore G dX7_differs_19 (gSt_6 (by first | rfl | exact g_c1_rf)) ?_ | refine g_astoreN G dX7_differs_19 (gSt_6 (by first | rfl | exact g_c1_rf)) ?_ | refine g_astoreQ G dX7_differs_19 (gSt_6 (by first | rfl | exact g_c1_rf)) ?_
        first | refine g_aload G dX7_differs_21 rfl ?_ | refine g_aloadN G dX7_differs_21 rfl ?_ | refine g_aloadQ G dX7_differs_21 rfl ?_
        refine g_ifnullN (tgt := 36) G dX7_differs_23 (by decide) ?_
        exact g_throw (names := nm_IOE) G F tf_IOE cl_X7_75 ti_IOE st_X7_179 ta_IOE dX7_differs_36 (by exact dX7_differs_39) (by exact dX7_differs_40) (by exact dX7_differs_42) (by exact dX7_differs_45) (by decide) (Nat.le_of_ble_eq_true rfl) (by omega) (by omega) (⟨rfl, rfl, hno⟩)

set_option maxHeartbeats 4000000 in
set_option maxRecDepth 100000 in
theorem c_X7_isTapeSeen (d0 : Nat × Nat) (S : gS) (x : Nat) (ad : Nat → Nat → Nat) (M : gM) (h : gMail d0 S x ad M) (d s : Nat) (hd2 : d < mN M 11) (hs : s + mN M 2 ≤ mN M (100 + d)) (r : Int32) : gCt d0 yX7_isTapeSeen cX7_isTapeSeen 5 (some .boolean) 2 0 0 [.ref x, .ref (ad 2 d), .int (nI s), .int r] S (fun v' S' => v' = some (.int (gB (gFndP M d r s))) ∧ S' = S) gNo := by
  refine gCt_of (lo := [some (.ref x), some (.ref (ad 2 d)), some (.int (nI s)), some (.int r), none]) (by decide +kernel) (Nat.le_of_ble_eq_true rfl) (rfl) ?_
  intro Γ hd G F hini
  obtain ⟨⟨r1, ⟨ra, rb, rc, rd, re⟩, rt, rtl, rp, rpl, rdr, rep, rday⟩, ⟨l0, l1, l2, l3, l4⟩, ht, hcs, hps, hds, hes, hls⟩ := id h
  subst hd
  obtain ⟨y1, y2, y3, y4, y5⟩ := ht
  have hd := hd2
  obtain ⟨k1, ⟨kc, kc1, kc2, kc3⟩, ⟨k2, k3, k4⟩, ⟨k5, k6, k7, k8, kpr⟩, kl, ⟨t1, t2, t3⟩, ⟨v1, v2, v3⟩, ⟨w1, w2, w3⟩⟩ := hds d hd
  have hNc := l0.2.2.1
  obtain rfl : kc = mC M d := by rw [mC, kc2, nI_clamp (by omega)]
  refine g_iconst (v := nI 0) G dX7_isTapeSeen_0 (by decide) ?_
  refine g_istore G dX7_isTapeSeen_1 (gSt_4 (by first | rfl | exact g_c1_rf)) ?_
  have inner3 : ∀ f2 t : Nat, t ≤ (mN M 2) → (mN M 2) + 1 ≤ t + f2 → (∀ k, k < t → gSeenAt (mT M 13 d (s + k)) (mT M 14 d (s + k)) (mT M 15 d (s + k)) r = mA M 1 k) → gW Γ 3 [some (.ref x), some (.ref (ad 2 d)), some (.int (nI s)), some (.int r), some (.int (nI (t)))] [] S 0 0 := by
    intro f2
    induction f2 with
    | zero => intro t q1 q2; omega
    | succ f2 ih2 =>
      intro t ht2 hf2  hv2
      refine g_iload G dX7_isTapeSeen_3 rfl ?_
      first | refine g_aload_n G dX7_isTapeSeen_5 rfl ?_ | refine g_aload_nN G dX7_isTapeSeen_5 rfl ?_ | refine g_aload_nQ G dX7_isTapeSeen_5 rfl ?_
      refine g_getI G fl_X7_32 (by assumption) (by first | decide | omega) rfl (by first | assumption | rfl) dX7_isTapeSeen_6 ?_
      refine g_icmp_ge (tgt := 49) G dX7_isTapeSeen_9 (by decide) (fun c_9 => ?_) (fun c_9 => ?_)
      · have et : t = (mN M 2) := by have := (nI_leI (by omega) (by omega)).mp c_9; omega
        subst et
        refine g_iconst (v := nI 1) G dX7_isTapeSeen_49 (by decide) ?_
        exact g_zret G F (by first | exact Or.inl rfl | exact Or.inr rfl | assumption) (⟨by rw [show gFndP M d r s = true from decide_eq_true hv2]; rfl, rfl⟩) (by omega) (by omega) dX7_isTapeSeen_50
      · have hlt2 : t < (mN M 2) := by have z : ¬ (mN M 2) ≤ t := fun z => c_9 ((nI_leI (by omega) (by omega)).mpr z); omega
        refine g_iload G dX7_isTapeSeen_12 rfl ?_
        first | refine g_aload_n G dX7_isTapeSeen_14 rfl ?_ | refine g_aload_nN G dX7_isTapeSeen_14 rfl ?_ | refine g_aload_nQ G dX7_isTapeSeen_14 rfl ?_
        first | refine g_getR G fl_X7_28 (by assumption) (by first | decide | omega) rfl (by assumption) dX7_isTapeSeen_15 ?_ | refine g_getZ G fl_X7_28 (by assumption) (by first | decide | omega) rfl (by assumption) dX7_isTapeSeen_15 ?_ | refine g_getQ G fl_X7_28 (by assumption) (by first | decide | omega) rfl (by first | assumption | rfl) dX7_isTapeSeen_15 ?_
        refine g_alen G (y1) (by first | decide | omega) (by first | assumption | rfl) dX7_isTapeSeen_18 ?_
        refine g_icmp_ge (tgt := 49) G dX7_isTapeSeen_19 (by decide) (fun c_19 => (absurd c_19 (nI_ge (a := t) (b := 1000) (by omega) (by omega)))) (fun c_19 => ?_)
        first | refine g_aload_n G dX7_isTapeSeen_22 rfl ?_ | refine g_aload_nN G dX7_isTapeSeen_22 rfl ?_ | refine g_aload_nQ G dX7_isTapeSeen_22 rfl ?_
        refine g_iload_n G dX7_isTapeSeen_23 rfl ?_
        refine g_iload G dX7_isTapeSeen_24 rfl ?_
        refine g_iadd G dX7_isTapeSeen_26 (nI_add _ _) ?_
        refine g_iload_n G dX7_isTapeSeen_27 rfl ?_
        refine g_callVp (ci := 2) G (c_X1_seenAt _ S ad M d (hds d hd) (s + t) (by omega) r) mt_X1_seenAt mi_X1_seenAt ml_X7_206 (by assumption) (by first | decide | omega) rfl (by decide) (by omega) (by omega) rfl (Nat.le_of_ble_eq_true rfl) dX7_isTapeSeen_28 ?_
        first | refine g_aload_n G dX7_isTapeSeen_31 rfl ?_ | refine g_aload_nN G dX7_isTapeSeen_31 rfl ?_ | refine g_aload_nQ G dX7_isTapeSeen_31 rfl ?_
        first | refine g_getR G fl_X7_28 (by assumption) (by first | decide | omega) rfl (by assumption) dX7_isTapeSeen_32 ?_ | refine g_getZ G fl_X7_28 (by assumption) (by first | decide | omega) rfl (by assumption) dX7_isTapeSeen_32 ?_ | refine g_getQ G fl_X7_28 (by assumption) (by first | decide | omega) rfl (by first | assumption | rfl) dX7_isTapeSeen_32 ?_
        refine g_iload G dX7_isTapeSeen_35 rfl ?_
        refine g_iald G (y1) (by first | decide | omega) (by omega) (by omega) (y4 t hlt2) dX7_isTapeSeen_37 ?_
        refine g_icmp_eq (tgt := 43) G dX7_isTapeSeen_38 (by decide) (fun c_38 => ?_) (fun c_38 => ?_)
        · have e9 := c_38
          refine g_iinc (v := _) G dX7_isTapeSeen_43 rfl (by first | exact nI_1 _ | rfl) (gSt_4 (by first | rfl | exact g_c1_rf)) ?_
          refine g_goto (tgt := 3) G dX7_isTapeSeen_46 (by decide) ?_
          exact ih2 (t + 1) (by omega) (by omega) (fun k hk => (Nat.lt_or_ge k t).elim (hv2 k) (fun z => by rw [show k = t by omega]; exact e9))
        · have e8 : gFndP M d r s = false := decide_eq_false (fun z => c_38 (z t hlt2))
          refine g_iconst (v := nI 0) G dX7_isTapeSeen_41 (by decide) ?_
          exact g_zret G F (by first | exact Or.inl rfl | exact Or.inr rfl | assumption) (⟨by rw [e8]; rfl, rfl⟩) (by omega) (by omega) dX7_isTapeSeen_42
  exact inner3 ((mN M 2) + 1) 0 (by omega) (by omega) (fun k hk => by omega)

set_option maxHeartbeats 4000000 in
set_option maxRecDepth 100000 in
theorem c_X7_find (d0 : Nat × Nat) (S : gS) (x : Nat) (ad : Nat → Nat → Nat) (M : gM) (h : gMail d0 S x ad M) (a j : Int32) : gCt d0 yX7_find cX7_find 7 (some .int) 10 1 6 [.ref x, .int a, .int j] S (fun v' S' => ∃ p d, p < mN M 8 ∧ a = nI p ∧ d < mN M 11 ∧ j = nI d ∧ (∃ v, v' = some (.int v) ∧ (((mN M 2 = 0 ∨ gIntoOf M p (mC M d) = -1) ∧ v = -1) ∨ (¬ mN M 2 = 0 ∧ ¬ gIntoOf M p (mC M d) = -1 ∧ gIsF (gFndP M d (gIntoOf M p (mC M d))) (mN M (100 + d) + 1 - mN M 2) v))) ∧ S' = S) (fun E S' => S' = S ∧ (E = "java/lang/IndexOutOfBoundsException" ∧ ¬ (gIx (mN M 8) a ∧ gIx (mN M 11) j))) := by
  refine gCt_of (lo := [some (.ref x), some (.int a), some (.int j), none, none, none, none]) (by decide +kernel) (Nat.le_of_ble_eq_true rfl) (rfl) ?_
  intro Γ hd G F hini
  obtain ⟨⟨r1, ⟨ra, rb, rc, rd, re⟩, rt, rtl, rp, rpl, rdr, rep, rday⟩, ⟨l0, l1, l2, l3, l4⟩, ht, hcs, hps, hds, hes, hls⟩ := id h
  subst hd
  by_cases h_p : gIx (mN M 8) a
  · obtain ⟨p, hp, rfl⟩ := gIx_of h_p (by have := l1.2.2.1; omega)
    by_cases h_d : gIx (mN M 11) j
    · obtain ⟨d, hd, rfl⟩ := gIx_of h_d (by have := l2.2.2.1; omega)
      obtain ⟨k1, ⟨kc, kc1, kc2, kc3⟩, ⟨k2, k3, k4⟩, ⟨k5, k6, k7, k8, kpr⟩, kl, ⟨t1, t2, t3⟩, ⟨v1, v2, v3⟩, ⟨w1, w2, w3⟩⟩ := hds d hd
      have hNc := l0.2.2.1
      obtain rfl : kc = mC M d := by rw [mC, kc2, nI_clamp (by omega)]
      obtain ⟨p1, p2, p3, p4, p5, p6⟩ := id (hps p hp)
      have ht3 := ht.2.2.1
      first | refine g_aload_n G dX7_find_0 rfl ?_ | refine g_aload_nN G dX7_find_0 rfl ?_ | refine g_aload_nQ G dX7_find_0 rfl ?_
      refine g_iload_n G dX7_find_1 rfl ?_
      refine g_callVp (ci := 8) G (c_personAt _ S x ad M h p hp) mt_X7_personAt mi_X7_personAt ml_X7_151 (by assumption) (by first | decide | omega) rfl (by decide) (by omega) (by omega) rfl (Nat.le_of_ble_eq_true rfl) dX7_find_2 ?_
      first | refine g_astore_n G dX7_find_5 (gSt_3 (by first | rfl | exact g_c1_rf)) ?_ | refine g_astore_nN G dX7_find_5 (gSt_3 (by first | rfl | exact g_c1_rf)) ?_ | refine g_astore_nQ G dX7_find_5 (gSt_3 (by first | rfl | exact g_c1_rf)) ?_
      first | refine g_aload_n G dX7_find_6 rfl ?_ | refine g_aload_nN G dX7_find_6 rfl ?_ | refine g_aload_nQ G dX7_find_6 rfl ?_
      refine g_iload_n G dX7_find_7 rfl ?_
      refine g_callVp (ci := 8) G (c_documentAt _ S x ad M h d hd) mt_X7_documentAt mi_X7_documentAt ml_X7_104 (by assumption) (by first | decide | omega) rfl (by decide) (by omega) (by omega) rfl (Nat.le_of_ble_eq_true rfl) dX7_find_8 ?_
      first | refine g_astore G dX7_find_11 (gSt_4 (by first | rfl | exact g_c1_rf)) ?_ | refine g_astoreN G dX7_find_11 (gSt_4 (by first | rfl | exact g_c1_rf)) ?_ | refine g_astoreQ G dX7_find_11 (gSt_4 (by first | rfl | exact g_c1_rf)) ?_
      first | refine g_aload_n G dX7_find_13 rfl ?_ | refine g_aload_nN G dX7_find_13 rfl ?_ | refine g_aload_nQ G dX7_find_13 rfl ?_
      refine g_ifnull G dX7_find_14 ?_
      first | refine g_aload G dX7_find_17 rfl ?_ | refine g_aloadN G dX7_find_17 rfl ?_ | refine g_aloadQ G dX7_find_17 rfl ?_
      refine g_ifnonnull (tgt := 32) G dX7_find_19 (by decide) ?_
      first | refine g_aload_n G dX7_find_32 rfl ?_ | refine g_aload_nN G dX7_find_32 rfl ?_ | refine g_aload_nQ G dX7_find_32 rfl ?_
      first | refine g_aload G dX7_find_33 rfl ?_ | refine g_aloadN G dX7_find_33 rfl ?_ | refine g_aloadQ G dX7_find_33 rfl ?_
      first | refine g_getR G fl_X7_181 (by assumption) (by first | decide | omega) rfl (by assumption) dX7_find_35 ?_ | refine g_getZ G fl_X7_181 (by assumption) (by first | decide | omega) rfl (by assumption) dX7_find_35 ?_ | refine g_getQ G fl_X7_181 (by assumption) (by first | decide | omega) rfl (by first | assumption | rfl) dX7_find_35 ?_
      refine g_callVp (ci := 7) G (c_X6_reachInto _ S (ad 1 p) p (ad 0 (mC M d)) (mC M d) _ _ _ _ _ (hps p hp) (hcs (mC M d) kc1)) mt_X6_reachInto mi_X6_reachInto ml_X7_185 (by assumption) (by first | decide | omega) rfl (by decide) (by omega) (by omega) rfl (Nat.le_of_ble_eq_true rfl) dX7_find_38 ?_
      refine g_istore G dX7_find_41 (gSt_5 (by first | rfl | exact g_c1_rf)) ?_
      first | refine g_aload_n G dX7_find_43 rfl ?_ | refine g_aload_nN G dX7_find_43 rfl ?_ | refine g_aload_nQ G dX7_find_43 rfl ?_
      refine g_getI G fl_X7_32 (by assumption) (by first | decide | omega) rfl (by first | assumption | rfl) dX7_find_44 ?_
      refine g_if_eq (tgt := 56) G dX7_find_47 (by decide) (fun c_47 => ?_) (fun c_47 => ?_)
      · have z0 : mN M 2 = 0 := (nI_eq (by omega) (by omega)).mp c_47
        refine g_iconst (v := (-1)) G dX7_find_56 (by decide) ?_
        exact g_iret G F (⟨p, d, hp, rfl, hd, rfl, ⟨_, rfl, Or.inl ⟨by first | exact Or.inl z0 | exact Or.inr z2, rfl⟩⟩, rfl⟩) (by omega) (by omega) dX7_find_57
      · have z0 : ¬ mN M 2 = 0 := fun z => c_47 (by rw [z]; rfl)
        refine g_iload G dX7_find_50 rfl ?_
        refine g_iconst (v := (-1)) G dX7_find_52 (by decide) ?_
        refine g_icmp_ne (tgt := 58) G dX7_find_53 (by decide) (fun c_53 => ?_) (fun c_53 => ?_)
        · have z1 : ¬ gIntoOf M p (mC M d) = -1 := c_53
          refine g_iconst (v := nI 0) G dX7_find_58 (by decide) ?_
          refine g_istore G dX7_find_59 (gSt_6 (by first | rfl | exact g_c1_rf)) ?_
          have inner61 : ∀ f2 t : Nat, t ≤ (mN M (100 + d) + 1 - mN M 2) → (mN M (100 + d) + 1 - mN M 2) + 1 ≤ t + f2 → (∀ k, k < t → gFndP M d (gIntoOf M p (mC M d)) k = false) → gW Γ 61 [some (.ref x), some (.int (nI p)), some (.int (nI d)), some (.ref (ad 1 p)), some (.ref (ad 2 d)), some (.int (gIntoOf M p (mC M d))), some (.int (nI (t)))] [] S 0 0 := by
            intro f2
            induction f2 with
            | zero => intro t q1 q2; omega
            | succ f2 ih2 =>
              intro t ht2 hf2  hv2
              refine g_iload G dX7_find_61 rfl ?_
              first | refine g_aload_n G dX7_find_63 rfl ?_ | refine g_aload_nN G dX7_find_63 rfl ?_ | refine g_aload_nQ G dX7_find_63 rfl ?_
              refine g_getI G fl_X7_32 (by assumption) (by first | decide | omega) rfl (by first | assumption | rfl) dX7_find_64 ?_
              refine g_iadd G dX7_find_67 (nI_add _ _) ?_
              first | refine g_aload G dX7_find_68 rfl ?_ | refine g_aloadN G dX7_find_68 rfl ?_ | refine g_aloadQ G dX7_find_68 rfl ?_
              first | refine g_getR G fl_X7_202 (by assumption) (by first | decide | omega) rfl (by assumption) dX7_find_70 ?_ | refine g_getZ G fl_X7_202 (by assumption) (by first | decide | omega) rfl (by assumption) dX7_find_70 ?_ | refine g_getQ G fl_X7_202 (by assumption) (by first | decide | omega) rfl (by first | assumption | rfl) dX7_find_70 ?_
              refine g_alen G (t1) (by first | decide | omega) (by first | assumption | rfl) dX7_find_73 ?_
              refine g_icmp_gt (tgt := 99) G dX7_find_74 (by decide) (fun c_74 => ?_) (fun c_74 => ?_)
              · have et : t = (mN M (100 + d) + 1 - mN M 2) := by have := (nI_ltI (by omega) (by omega)).mp c_74; omega
                subst et
                refine g_iconst (v := (-1)) G dX7_find_99 (by decide) ?_
                exact g_iret G F (⟨p, d, hp, rfl, hd, rfl, ⟨_, rfl, Or.inr ⟨z0, z1, Or.inl ⟨rfl, hv2⟩⟩⟩, rfl⟩) (by omega) (by omega) dX7_find_100
              · have hlt2 : t + mN M 2 ≤ mN M (100 + d) := by have z : ¬ mN M (100 + d) < t + mN M 2 := fun z => c_74 (nI_lt z (by omega)); omega
                first | refine g_aload_n G dX7_find_77 rfl ?_ | refine g_aload_nN G dX7_find_77 rfl ?_ | refine g_aload_nQ G dX7_find_77 rfl ?_
                first | refine g_aload G dX7_find_78 rfl ?_ | refine g_aloadN G dX7_find_78 rfl ?_ | refine g_aloadQ G dX7_find_78 rfl ?_
                refine g_iload G dX7_find_80 rfl ?_
                refine g_iload G dX7_find_82 rfl ?_
                refine g_callVp (ci := 8) G (c_X7_isTapeSeen _ S x ad M h d t hd (by omega) _) mt_X7_isTapeSeen mi_X7_isTapeSeen ml_X7_210 (by assumption) (by first | decide | omega) rfl (by decide) (by omega) (by omega) rfl (Nat.le_of_ble_eq_true rfl) dX7_find_84 ?_
                refine g_if_eq (tgt := 93) G dX7_find_87 (by decide) (fun c_87 => ?_) (fun c_87 => ?_)
                · have e9 := gB_eq0.mp c_87
                  refine g_iinc (v := _) G dX7_find_93 rfl (by first | exact nI_1 _ | rfl) (gSt_6 (by first | rfl | exact g_c1_rf)) ?_
                  refine g_goto (tgt := 61) G dX7_find_96 (by decide) ?_
                  exact ih2 (t + 1) (by omega) (by omega) (fun k hk => (Nat.lt_or_ge k t).elim (hv2 k) (fun z => by rw [show k = t by omega]; exact e9))
                · have e8 := gB_ne0.mp c_87
                  refine g_iload G dX7_find_90 rfl ?_
                  exact g_iret G F (⟨p, d, hp, rfl, hd, rfl, ⟨_, rfl, Or.inr ⟨z0, z1, Or.inr ⟨t, by omega, rfl, e8, hv2⟩⟩⟩, rfl⟩) (by omega) (by omega) dX7_find_92
          exact inner61 ((mN M (100 + d) + 1 - mN M 2) + 1) 0 (by omega) (by omega) (fun k hk => by omega)
        · have z2 : gIntoOf M p (mC M d) = -1 := c_53
          refine g_iconst (v := (-1)) G dX7_find_56 (by decide) ?_
          exact g_iret G F (⟨p, d, hp, rfl, hd, rfl, ⟨_, rfl, Or.inl ⟨by first | exact Or.inl z0 | exact Or.inr z2, rfl⟩⟩, rfl⟩) (by omega) (by omega) dX7_find_57
    · have hno : ¬ (gIx (mN M 8) (nI p) ∧ gIx (mN M 11) j) := fun z => h_d (z.2)
      first | refine g_aload_n G dX7_find_0 rfl ?_ | refine g_aload_nN G dX7_find_0 rfl ?_ | refine g_aload_nQ G dX7_find_0 rfl ?_
      refine g_iload_n G dX7_find_1 rfl ?_
      refine g_callVp (ci := 8) G (c_personAt _ S x ad M h p hp) mt_X7_personAt mi_X7_personAt ml_X7_151 (by assumption) (by first | decide | omega) rfl (by decide) (by omega) (by omega) rfl (Nat.le_of_ble_eq_true rfl) dX7_find_2 ?_
      first | refine g_astore_n G dX7_find_5 (gSt_3 (by first | rfl | exact g_c1_rf)) ?_ | refine g_astore_nN G dX7_find_5 (gSt_3 (by first | rfl | exact g_c1_rf)) ?_ | refine g_astore_nQ G dX7_find_5 (gSt_3 (by first | rfl | exact g_c1_rf)) ?_
      first | refine g_aload_n G dX7_find_6 rfl ?_ | refine g_aload_nN G dX7_find_6 rfl ?_ | refine g_aload_nQ G dX7_find_6 rfl ?_
      refine g_iload_n G dX7_find_7 rfl ?_
      refine g_callVp (ci := 8) G (c_documentAt_no _ S x ad M h j (gIx_no h_d)) mt_X7_documentAt mi_X7_documentAt ml_X7_104 (by assumption) (by first | decide | omega) rfl (by decide) (by omega) (by omega) rfl (Nat.le_of_ble_eq_true rfl) dX7_find_8 ?_
      first | refine g_astore G dX7_find_11 (gSt_4 (by first | rfl | exact g_c1_rf)) ?_ | refine g_astoreN G dX7_find_11 (gSt_4 (by first | rfl | exact g_c1_rf)) ?_ | refine g_astoreQ G dX7_find_11 (gSt_4 (by first | rfl | exact g_c1_rf)) ?_
      first | refine g_aload_n G dX7_find_13 rfl ?_ | refine g_aload_nN G dX7_find_13 rfl ?_ | refine g_aload_nQ G dX7_find_13 rfl ?_
      refine g_ifnull G dX7_find_14 ?_
      first | refine g_aload G dX7_find_17 rfl ?_ | refine g_aloadN G dX7_find_17 rfl ?_ | refine g_aloadQ G dX7_find_17 rfl ?_
      refine g_ifnonnullN G dX7_find_19 ?_
      exact g_throw (names := nm_IOE) G F tf_IOE cl_X7_75 ti_IOE st_X7_179 ta_IOE dX7_find_22 (by exact dX7_find_25) (by exact dX7_find_26) (by exact dX7_find_28) (by exact dX7_find_31) (by decide) (Nat.le_of_ble_eq_true rfl) (by omega) (by omega) (⟨rfl, rfl, hno⟩)
  · have hno : ¬ (gIx (mN M 8) a ∧ gIx (mN M 11) j) := fun z => h_p (z.1)
    by_cases h_d : gIx (mN M 11) j
    · obtain ⟨d, hd, rfl⟩ := gIx_of h_d (by have := l2.2.2.1; omega)
      first | refine g_aload_n G dX7_find_0 rfl ?_ | refine g_aload_nN G dX7_find_0 rfl ?_ | refine g_aload_nQ G dX7_find_0 rfl ?_
      refine g_iload_n G dX7_find_1 rfl ?_
      refine g_callVp (ci := 8) G (c_personAt_no _ S x ad M h a (gIx_no h_p)) mt_X7_personAt mi_X7_personAt ml_X7_151 (by assumption) (by first | decide | omega) rfl (by decide) (by omega) (by omega) rfl (Nat.le_of_ble_eq_true rfl) dX7_find_2 ?_
      first | refine g_astore_n G dX7_find_5 (gSt_3 (by first | rfl | exact g_c1_rf)) ?_ | refine g_astore_nN G dX7_find_5 (gSt_3 (by first | rfl | exact g_c1_rf)) ?_ | refine g_astore_nQ G dX7_find_5 (gSt_3 (by first | rfl | exact g_c1_rf)) ?_
      first | refine g_aload_n G dX7_find_6 rfl ?_ | refine g_aload_nN G dX7_find_6 rfl ?_ | refine g_aload_nQ G dX7_find_6 rfl ?_
      refine g_iload_n G dX7_find_7 rfl ?_
      refine g_callVp (ci := 8) G (c_documentAt _ S x ad M h d hd) mt_X7_documentAt mi_X7_documentAt ml_X7_104 (by assumption) (by first | decide | omega) rfl (by decide) (by omega) (by omega) rfl (Nat.le_of_ble_eq_true rfl) dX7_find_8 ?_
      first | refine g_astore G dX7_find_11 (gSt_4 (by first | rfl | exact g_c1_rf)) ?_ | refine g_astoreN G dX7_find_11 (gSt_4 (by first | rfl | exact g_c1_rf)) ?_ | refine g_astoreQ G dX7_find_11 (gSt_4 (by first | rfl | exact g_c1_rf)) ?_
      first | refine g_aload_n G dX7_find_13 rfl ?_ | refine g_aload_nN G dX7_find_13 rfl ?_ | refine g_aload_nQ G dX7_find_13 rfl ?_
      refine g_ifnullN (tgt := 22) G dX7_find_14 (by decide) ?_
      exact g_throw (names := nm_IOE) G F tf_IOE cl_X7_75 ti_IOE st_X7_179 ta_IOE dX7_find_22 (by exact dX7_find_25) (by exact dX7_find_26) (by exact dX7_find_28) (by exact dX7_find_31) (by decide) (Nat.le_of_ble_eq_true rfl) (by omega) (by omega) (⟨rfl, rfl, hno⟩)
    · first | refine g_aload_n G dX7_find_0 rfl ?_ | refine g_aload_nN G dX7_find_0 rfl ?_ | refine g_aload_nQ G dX7_find_0 rfl ?_
      refine g_iload_n G dX7_find_1 rfl ?_
      refine g_callVp (ci := 8) G (c_personAt_no _ S x ad M h a (gIx_no h_p)) mt_X7_personAt mi_X7_personAt ml_X7_151 (by assumption) (by first | decide | omega) rfl (by decide) (by omega) (by omega) rfl (Nat.le_of_ble_eq_true rfl) dX7_find_2 ?_
      first | refine g_astore_n G dX7_find_5 (gSt_3 (by first | rfl | exact g_c1_rf)) ?_ | refine g_astore_nN G dX7_find_5 (gSt_3 (by first | rfl | exact g_c1_rf)) ?_ | refine g_astore_nQ G dX7_find_5 (gSt_3 (by first | rfl | exact g_c1_rf)) ?_
      first | refine g_aload_n G dX7_find_6 rfl ?_ | refine g_aload_nN G dX7_find_6 rfl ?_ | refine g_aload_nQ G dX7_find_6 rfl ?_
      refine g_iload_n G dX7_find_7 rfl ?_
      refine g_callVp (ci := 8) G (c_documentAt_no _ S x ad M h j (gIx_no h_d)) mt_X7_documentAt mi_X7_documentAt ml_X7_104 (by assumption) (by first | decide | omega) rfl (by decide) (by omega) (by omega) rfl (Nat.le_of_ble_eq_true rfl) dX7_find_8 ?_
      first | refine g_astore G dX7_find_11 (gSt_4 (by first | rfl | exact g_c1_rf)) ?_ | refine g_astoreN G dX7_find_11 (gSt_4 (by first | rfl | exact g_c1_rf)) ?_ | refine g_astoreQ G dX7_find_11 (gSt_4 (by first | rfl | exact g_c1_rf)) ?_
      first | refine g_aload_n G dX7_find_13 rfl ?_ | refine g_aload_nN G dX7_find_13 rfl ?_ | refine g_aload_nQ G dX7_find_13 rfl ?_
      refine g_ifnullN (tgt := 22) G dX7_find_14 (by decide) ?_
      exact g_throw (names := nm_IOE) G F tf_IOE cl_X7_75 ti_IOE st_X7_179 ta_IOE dX7_find_22 (by exact dX7_find_25) (by exact dX7_find_26) (by exact dX7_find_28) (by exact dX7_find_31) (by decide) (Nat.le_of_ble_eq_true rfl) (by omega) (by omega) (⟨rfl, rfl, hno⟩)

set_option maxHeartbeats 4000000 in
set_option maxRecDepth 100000 in
theorem c_X7_sees (d0 : Nat × Nat) (S : gS) (x : Nat) (ad : Nat → Nat → Nat) (M : gM) (h : gMail d0 S x ad M) (i : Int32) : gCt d0 yX7_sees cX7_sees 8 (some .int) 10 1 6 [.ref x, .int i] S (fun v' S' => ∃ c, c < mN M 6 ∧ i = nI c ∧ v' = some (.int (gSees M c (mN M 8)).1) ∧ S' = S) (fun E S' => S' = S ∧ (E = "java/lang/IndexOutOfBoundsException" ∧ ¬ gIx (mN M 6) i)) := by
  refine gCt_of (lo := [some (.ref x), some (.int i), none, none, none, none, none, none]) (by decide +kernel) (Nat.le_of_ble_eq_true rfl) (rfl) ?_
  intro Γ hd G F hini
  obtain ⟨⟨r1, ⟨ra, rb, rc, rd, re⟩, rt, rtl, rp, rpl, rdr, rep, rday⟩, ⟨l0, l1, l2, l3, l4⟩, ht, hcs, hps, hds, hes, hls⟩ := id h
  subst hd
  by_cases h_c : gIx (mN M 6) i
  · obtain ⟨c, hc, rfl⟩ := gIx_of h_c (by have := l0.2.2.1; omega)
    first | refine g_aload_n G dX7_sees_0 rfl ?_ | refine g_aload_nN G dX7_sees_0 rfl ?_ | refine g_aload_nQ G dX7_sees_0 rfl ?_
    refine g_iload_n G dX7_sees_1 rfl ?_
    refine g_callVp (ci := 8) G (c_caseAt _ S x ad M h c hc) mt_X7_caseAt mi_X7_caseAt ml_X7_71 (by assumption) (by first | decide | omega) rfl (by decide) (by omega) (by omega) rfl (Nat.le_of_ble_eq_true rfl) dX7_sees_2 ?_
    first | refine g_astore_n G dX7_sees_5 (gSt_2 (by first | rfl | exact g_c1_rf)) ?_ | refine g_astore_nN G dX7_sees_5 (gSt_2 (by first | rfl | exact g_c1_rf)) ?_ | refine g_astore_nQ G dX7_sees_5 (gSt_2 (by first | rfl | exact g_c1_rf)) ?_
    first | refine g_aload_n G dX7_sees_6 rfl ?_ | refine g_aload_nN G dX7_sees_6 rfl ?_ | refine g_aload_nQ G dX7_sees_6 rfl ?_
    refine g_ifnonnull (tgt := 20) G dX7_sees_7 (by decide) ?_
    refine g_iconst (v := (-1)) G dX7_sees_20 (by decide) ?_
    refine g_istore_n G dX7_sees_21 (gSt_3 (by first | rfl | exact g_c1_rf)) ?_
    refine g_iconst (v := nI 0) G dX7_sees_22 (by decide) ?_
    refine g_istore G dX7_sees_23 (gSt_4 (by first | rfl | exact g_c1_rf)) ?_
    refine g_iconst (v := nI 0) G dX7_sees_25 (by decide) ?_
    refine g_istore G dX7_sees_26 (gSt_5 (by first | rfl | exact g_c1_rf)) ?_
    have hNd := l2.2.2.1
    have hL : ∀ d, d < mN M 11 → mN M (100 + d) ≤ 2500 := fun d hd => (hds d hd).2.2.2.2.1
    have inner28 : ∀ f2 t : Nat, t ≤ (mN M 8) → (mN M 8) + 1 ≤ t + f2 → ∀ w6 w7 : Option Value, gW Γ 28 [some (.ref x), some (.int (nI c)), some (.ref (ad 0 c)), some (.int (gSees M c (t)).1), some (.int (nI (gSees M c (t)).2)), some (.int (nI (t))), w6, w7] [] S 0 0 := by
      intro f2
      induction f2 with
      | zero => intro t q1 q2; omega
      | succ f2 ih2 =>
        intro t ht2 hf2 w6 w7
        have hN1 := l1.2.2.1
        refine g_iload G dX7_sees_28 rfl ?_
        first | refine g_aload_n G dX7_sees_30 rfl ?_ | refine g_aload_nN G dX7_sees_30 rfl ?_ | refine g_aload_nQ G dX7_sees_30 rfl ?_
        first | refine g_getR G fl_X7_16 (by assumption) (by first | decide | omega) rfl (by assumption) dX7_sees_31 ?_ | refine g_getZ G fl_X7_16 (by assumption) (by first | decide | omega) rfl (by assumption) dX7_sees_31 ?_ | refine g_getQ G fl_X7_16 (by assumption) (by first | decide | omega) rfl (by first | assumption | rfl) dX7_sees_31 ?_
        refine g_callVp (ci := 0) G (c_Jx4a65c_size_8abf5 _ S (ad 5 1) 2 (mN M 8) (ad 1) l1) mt_Jx4a65c_size_8abf5 mi_Jx4a65c_size_8abf5 ml_X7_80 (l1.1) (by first | decide | omega) rfl (by decide) (by omega) (by omega) rfl (Nat.le_of_ble_eq_true rfl) dX7_sees_34 ?_
        refine g_icmp_ge (tgt := 105) G dX7_sees_37 (by decide) (fun c_37 => ?_) (fun c_37 => ?_)
        · have et : t = (mN M 8) := by have := (nI_leI (by omega) (by omega)).mp c_37; omega
          subst et
          refine g_iload_n G dX7_sees_105 rfl ?_
          exact g_iret G F (⟨c, hc, rfl, rfl, rfl⟩) (by omega) (by omega) dX7_sees_106
        · have hlt2 : t < (mN M 8) := by have z : ¬ (mN M 8) ≤ t := fun z => c_37 ((nI_leI (by omega) (by omega)).mpr z); omega
          obtain ⟨k1, k2, k3, k4, k5, k6⟩ := id (hps t hlt2)
          have b1 := gSees_le (c := c) hL t
          have b2 := gBytes_le (p := t) (c := c) hL
          first | refine g_aload_n G dX7_sees_40 rfl ?_ | refine g_aload_nN G dX7_sees_40 rfl ?_ | refine g_aload_nQ G dX7_sees_40 rfl ?_
          first | refine g_getR G fl_X7_16 (by assumption) (by first | decide | omega) rfl (by assumption) dX7_sees_41 ?_ | refine g_getZ G fl_X7_16 (by assumption) (by first | decide | omega) rfl (by assumption) dX7_sees_41 ?_ | refine g_getQ G fl_X7_16 (by assumption) (by first | decide | omega) rfl (by first | assumption | rfl) dX7_sees_41 ?_
          refine g_iload G dX7_sees_44 rfl ?_
          refine g_callVp (ci := 0) G (c_Jx4a65c_get_915e3 _ S (ad 5 1) 2 (mN M 8) t (ad 1) l1 hlt2) mt_Jx4a65c_get_915e3 mi_Jx4a65c_get_915e3 ml_X7_300 (l1.1) (by first | decide | omega) rfl (by decide) (by omega) (by omega) rfl (Nat.le_of_ble_eq_true rfl) dX7_sees_46 ?_
          refine g_cast (ci := 7) G (by assumption) (by first | decide | omega) rfl cl_X7_146 dX7_sees_49 ?_
          first | refine g_astore G dX7_sees_52 (gSt_6 (by first | rfl | exact g_c1_rf)) ?_ | refine g_astoreN G dX7_sees_52 (gSt_6 (by first | rfl | exact g_c1_rf)) ?_ | refine g_astoreQ G dX7_sees_52 (gSt_6 (by first | rfl | exact g_c1_rf)) ?_
          first | refine g_aload G dX7_sees_54 rfl ?_ | refine g_aloadN G dX7_sees_54 rfl ?_ | refine g_aloadQ G dX7_sees_54 rfl ?_
          refine g_getI G fl_X7_367 (by assumption) (by first | decide | omega) rfl (by first | assumption | rfl) dX7_sees_56 ?_
          refine g_iconst (v := nI 2) G dX7_sees_59 (by decide) ?_
          refine g_icmp_eq (tgt := 72) G dX7_sees_60 (by decide) (fun c_60 => ?_) (fun c_60 => ?_)
          · have e8 : gSeesN M c t = gBytes M t c (mN M 11) := if_pos (Or.inl c_60)
            first | refine g_aload_n G dX7_sees_72 rfl ?_ | refine g_aload_nN G dX7_sees_72 rfl ?_ | refine g_aload_nQ G dX7_sees_72 rfl ?_
            first | refine g_aload G dX7_sees_73 rfl ?_ | refine g_aloadN G dX7_sees_73 rfl ?_ | refine g_aloadQ G dX7_sees_73 rfl ?_
            first | refine g_aload_n G dX7_sees_75 rfl ?_ | refine g_aload_nN G dX7_sees_75 rfl ?_ | refine g_aload_nQ G dX7_sees_75 rfl ?_
            refine g_callVp (ci := 8) G (c_X7_bytesSeenBy _ S x ad M h t c hlt2 hc) mt_X7_bytesSeenBy mi_X7_bytesSeenBy ml_X7_370 (by assumption) (by first | decide | omega) rfl (by decide) (by omega) (by omega) rfl (Nat.le_of_ble_eq_true rfl) dX7_sees_76 ?_
            refine g_goto (tgt := 83) G dX7_sees_79 (by decide) ?_
            refine g_istore G dX7_sees_83 (gSt_7 (by first | rfl | exact g_c1_rf)) ?_
            refine g_iload G dX7_sees_85 rfl ?_
            refine g_iload G dX7_sees_87 rfl ?_
            refine g_icmp_le (tgt := 99) G dX7_sees_89 (by decide) (fun c_89 => ?_) (fun c_89 => ?_)
            · have e9 : gSees M c (t + 1) = gSees M c t := if_neg (by rw [e8]; have := (nI_leI (by omega) (by omega)).mp c_89; omega)
              refine g_iinc (v := _) G dX7_sees_99 rfl (by first | exact nI_1 _ | rfl) (gSt_5 (by first | rfl | exact g_c1_rf)) ?_
              refine g_goto (tgt := 28) G dX7_sees_102 (by decide) ?_
              have h9 := ih2 (t + 1) (by omega) (by omega)
              rw [e9] at h9
              exact h9 _ _
            · have e9 : gSees M c (t + 1) = (nI t, gSeesN M c t) := if_pos (by rw [e8]; have z : ¬ (_ ≤ _) := fun z => c_89 ((nI_leI (by omega) (by omega)).mpr z); omega)
              rw [e8] at e9
              refine g_iload G dX7_sees_92 rfl ?_
              refine g_istore G dX7_sees_94 (gSt_4 (by first | rfl | exact g_c1_rf)) ?_
              refine g_iload G dX7_sees_96 rfl ?_
              refine g_istore_n G dX7_sees_98 (gSt_3 (by first | rfl | exact g_c1_rf)) ?_
              refine g_iinc (v := _) G dX7_sees_99 rfl (by first | exact nI_1 _ | rfl) (gSt_5 (by first | rfl | exact g_c1_rf)) ?_
              refine g_goto (tgt := 28) G dX7_sees_102 (by decide) ?_
              have h9 := ih2 (t + 1) (by omega) (by omega)
              rw [e9] at h9
              exact h9 _ _
          · first | refine g_aload G dX7_sees_63 rfl ?_ | refine g_aloadN G dX7_sees_63 rfl ?_ | refine g_aloadQ G dX7_sees_63 rfl ?_
            refine g_getI G fl_X7_367 (by assumption) (by first | decide | omega) rfl (by first | assumption | rfl) dX7_sees_65 ?_
            refine g_iconst (v := nI 3) G dX7_sees_68 (by decide) ?_
            refine g_icmp_ne (tgt := 82) G dX7_sees_69 (by decide) (fun c_69 => ?_) (fun c_69 => ?_)
            · have e8 : gSeesN M c t = 0 := if_neg (fun z => z.elim c_60 c_69)
              refine g_iconst (v := nI 0) G dX7_sees_82 (by decide) ?_
              refine g_istore G dX7_sees_83 (gSt_7 (by first | rfl | exact g_c1_rf)) ?_
              refine g_iload G dX7_sees_85 rfl ?_
              refine g_iload G dX7_sees_87 rfl ?_
              refine g_icmp_le (tgt := 99) G dX7_sees_89 (by decide) (fun c_89 => ?_) (fun c_89 => ?_)
              · have e9 : gSees M c (t + 1) = gSees M c t := if_neg (by rw [e8]; have := (nI_leI (by omega) (by omega)).mp c_89; omega)
                refine g_iinc (v := _) G dX7_sees_99 rfl (by first | exact nI_1 _ | rfl) (gSt_5 (by first | rfl | exact g_c1_rf)) ?_
                refine g_goto (tgt := 28) G dX7_sees_102 (by decide) ?_
                have h9 := ih2 (t + 1) (by omega) (by omega)
                rw [e9] at h9
                exact h9 _ _
              · have e9 : gSees M c (t + 1) = (nI t, gSeesN M c t) := if_pos (by rw [e8]; have z : ¬ (_ ≤ _) := fun z => c_89 ((nI_leI (by omega) (by omega)).mpr z); omega)
                rw [e8] at e9
                refine g_iload G dX7_sees_92 rfl ?_
                refine g_istore G dX7_sees_94 (gSt_4 (by first | rfl | exact g_c1_rf)) ?_
                refine g_iload G dX7_sees_96 rfl ?_
                refine g_istore_n G dX7_sees_98 (gSt_3 (by first | rfl | exact g_c1_rf)) ?_
                refine g_iinc (v := _) G dX7_sees_99 rfl (by first | exact nI_1 _ | rfl) (gSt_5 (by first | rfl | exact g_c1_rf)) ?_
                refine g_goto (tgt := 28) G dX7_sees_102 (by decide) ?_
                have h9 := ih2 (t + 1) (by omega) (by omega)
                rw [e9] at h9
                exact h9 _ _
            · have e8 : gSeesN M c t = gBytes M t c (mN M 11) := if_pos (Or.inr c_69)
              first | refine g_aload_n G dX7_sees_72 rfl ?_ | refine g_aload_nN G dX7_sees_72 rfl ?_ | refine g_aload_nQ G dX7_sees_72 rfl ?_
              first | refine g_aload G dX7_sees_73 rfl ?_ | refine g_aloadN G dX7_sees_73 rfl ?_ | refine g_aloadQ G dX7_sees_73 rfl ?_
              first | refine g_aload_n G dX7_sees_75 rfl ?_ | refine g_aload_nN G dX7_sees_75 rfl ?_ | refine g_aload_nQ G dX7_sees_75 rfl ?_
              refine g_callVp (ci := 8) G (c_X7_bytesSeenBy _ S x ad M h t c hlt2 hc) mt_X7_bytesSeenBy mi_X7_bytesSeenBy ml_X7_370 (by assumption) (by first | decide | omega) rfl (by decide) (by omega) (by omega) rfl (Nat.le_of_ble_eq_true rfl) dX7_sees_76 ?_
              refine g_goto (tgt := 83) G dX7_sees_79 (by decide) ?_
              refine g_istore G dX7_sees_83 (gSt_7 (by first | rfl | exact g_c1_rf)) ?_
              refine g_iload G dX7_sees_85 rfl ?_
              refine g_iload G dX7_sees_87 rfl ?_
              refine g_icmp_le (tgt := 99) G dX7_sees_89 (by decide) (fun c_89 => ?_) (fun c_89 => ?_)
              · have e9 : gSees M c (t + 1) = gSees M c t := if_neg (by rw [e8]; have := (nI_leI (by omega) (by omega)).mp c_89; omega)
                refine g_iinc (v := _) G dX7_sees_99 rfl (by first | exact nI_1 _ | rfl) (gSt_5 (by first | rfl | exact g_c1_rf)) ?_
                refine g_goto (tgt := 28) G dX7_sees_102 (by decide) ?_
                have h9 := ih2 (t + 1) (by omega) (by omega)
                rw [e9] at h9
                exact h9 _ _
              · have e9 : gSees M c (t + 1) = (nI t, gSeesN M c t) := if_pos (by rw [e8]; have z : ¬ (_ ≤ _) := fun z => c_89 ((nI_leI (by omega) (by omega)).mpr z); omega)
                rw [e8] at e9
                refine g_iload G dX7_sees_92 rfl ?_
                refine g_istore G dX7_sees_94 (gSt_4 (by first | rfl | exact g_c1_rf)) ?_
                refine g_iload G dX7_sees_96 rfl ?_
                refine g_istore_n G dX7_sees_98 (gSt_3 (by first | rfl | exact g_c1_rf)) ?_
                refine g_iinc (v := _) G dX7_sees_99 rfl (by first | exact nI_1 _ | rfl) (gSt_5 (by first | rfl | exact g_c1_rf)) ?_
                refine g_goto (tgt := 28) G dX7_sees_102 (by decide) ?_
                have h9 := ih2 (t + 1) (by omega) (by omega)
                rw [e9] at h9
                exact h9 _ _
    exact inner28 ((mN M 8) + 1) 0 (by omega) (by omega) _ _
  · first | refine g_aload_n G dX7_sees_0 rfl ?_ | refine g_aload_nN G dX7_sees_0 rfl ?_ | refine g_aload_nQ G dX7_sees_0 rfl ?_
    refine g_iload_n G dX7_sees_1 rfl ?_
    refine g_callVp (ci := 8) G (c_caseAt_no _ S x ad M h i (gIx_no h_c)) mt_X7_caseAt mi_X7_caseAt ml_X7_71 (by assumption) (by first | decide | omega) rfl (by decide) (by omega) (by omega) rfl (Nat.le_of_ble_eq_true rfl) dX7_sees_2 ?_
    first | refine g_astore_n G dX7_sees_5 (gSt_2 (by first | rfl | exact g_c1_rf)) ?_ | refine g_astore_nN G dX7_sees_5 (gSt_2 (by first | rfl | exact g_c1_rf)) ?_ | refine g_astore_nQ G dX7_sees_5 (gSt_2 (by first | rfl | exact g_c1_rf)) ?_
    first | refine g_aload_n G dX7_sees_6 rfl ?_ | refine g_aload_nN G dX7_sees_6 rfl ?_ | refine g_aload_nQ G dX7_sees_6 rfl ?_
    refine g_ifnonnullN G dX7_sees_7 ?_
    exact g_throw (names := nm_IOE) G F tf_IOE cl_X7_75 ti_IOE st_X7_77 ta_IOE dX7_sees_10 (by exact dX7_sees_13) (by exact dX7_sees_14) (by exact dX7_sees_16) (by exact dX7_sees_19) (by decide) (Nat.le_of_ble_eq_true rfl) (by omega) (by omega) (⟨rfl, rfl, h_c⟩)

set_option maxHeartbeats 4000000 in
set_option maxRecDepth 100000 in
theorem c_X7_arrives (d0 : Nat × Nat) (S : gS) (x : Nat) (ad : Nat → Nat → Nat) (M : gM) (h : gMail d0 S x ad M) (hB : gBnd M) (i : Int32) : gCt d0 yX7_arrives cX7_arrives 6 (some .int) 10 1 6 [.ref x, .int i] S (fun v' S' => ∃ l, l < mN M 23 ∧ i = nI l ∧ v' = some (.int (gArr M l)) ∧ S' = S) (fun E S' => S' = S ∧ (E = "java/lang/IndexOutOfBoundsException" ∧ ¬ gIx (mN M 23) i)) := by
  refine gCt_of (lo := [some (.ref x), some (.int i), none, none, none, none]) (by decide +kernel) (Nat.le_of_ble_eq_true rfl) (rfl) ?_
  intro Γ hd G F hini
  obtain ⟨⟨r1, ⟨ra, rb, rc, rd, re⟩, rt, rtl, rp, rpl, rdr, rep, rday⟩, ⟨l0, l1, l2, l3, l4⟩, ht, hcs, hps, hds, hes, hls⟩ := id h
  subst hd
  by_cases h_l : gIx (mN M 23) i
  · obtain ⟨l, hl, rfl⟩ := gIx_of h_l (by have := l4.2.2.1; omega)
    obtain ⟨k1, ⟨kd, kd1, kd2, kd3⟩, k3, ⟨kp, kp1, kp2, kp3⟩, k5, k6, k7⟩ := hls l hl
    obtain ⟨y1, ⟨kc, kc1, kc2, kc3⟩, y3⟩ := hds kd kd1
    obtain ⟨p1, p2, p3, p4, p5, p6⟩ := id (hps kp kp1)
    obtain ⟨c1, c2, c3⟩ := id (hcs kc kc1)
    have hNc := l0.2.2.1
    have hNd := l2.2.2.1
    have hNp := l1.2.2.1
    have hNl := l4.2.2.1
    have ed : gLd M l = kd := by rw [gLd, kd2, nI_clamp (by omega)]
    have ep : gLp M l = kp := by rw [gLp, kp2, nI_clamp (by omega)]
    have ec : mC M kd = kc := by rw [mC, kc2, nI_clamp (by omega)]
    have ga := gct_le (gAheadP M l) (mN M 23)
    have gk := gct_le (fun k => decide (mA M 9 k = 0)) (mN M 8)
    first | refine g_aload_n G dX7_arrives_0 rfl ?_ | refine g_aload_nN G dX7_arrives_0 rfl ?_ | refine g_aload_nQ G dX7_arrives_0 rfl ?_
    refine g_iload_n G dX7_arrives_1 rfl ?_
    refine g_callVp (ci := 8) G (c_letterAt _ S x ad M h l hl) mt_X7_letterAt mi_X7_letterAt ml_X7_317 (by assumption) (by first | decide | omega) rfl (by decide) (by omega) (by omega) rfl (Nat.le_of_ble_eq_true rfl) dX7_arrives_2 ?_
    first | refine g_astore_n G dX7_arrives_5 (gSt_2 (by first | rfl | exact g_c1_rf)) ?_ | refine g_astore_nN G dX7_arrives_5 (gSt_2 (by first | rfl | exact g_c1_rf)) ?_ | refine g_astore_nQ G dX7_arrives_5 (gSt_2 (by first | rfl | exact g_c1_rf)) ?_
    first | refine g_aload_n G dX7_arrives_6 rfl ?_ | refine g_aload_nN G dX7_arrives_6 rfl ?_ | refine g_aload_nQ G dX7_arrives_6 rfl ?_
    refine g_ifnonnull (tgt := 21) G dX7_arrives_7 (by decide) ?_
    first | refine g_aload_n G dX7_arrives_21 rfl ?_ | refine g_aload_nN G dX7_arrives_21 rfl ?_ | refine g_aload_nQ G dX7_arrives_21 rfl ?_
    refine g_getI G fl_X7_337 (by assumption) (by first | decide | omega) rfl (by first | assumption | rfl) dX7_arrives_22 ?_
    refine g_iconst (v := nI 1) G dX7_arrives_25 (by decide) ?_
    refine g_icmp_ne (tgt := 31) G dX7_arrives_26 (by decide) (fun c_26 => ?_) (fun c_26 => ?_)
    · first | refine g_aload_n G dX7_arrives_31 rfl ?_ | refine g_aload_nN G dX7_arrives_31 rfl ?_ | refine g_aload_nQ G dX7_arrives_31 rfl ?_
      refine g_callVp (ci := 8) G (c_X7_lettersOfADay _ S x ad M h) mt_X7_lettersOfADay mi_X7_lettersOfADay ml_X7_340 (by assumption) (by first | decide | omega) rfl (by decide) (by omega) (by omega) rfl (Nat.le_of_ble_eq_true rfl) dX7_arrives_32 ?_
      refine g_istore_n G dX7_arrives_35 (gSt_3 (by first | rfl | exact g_c1_rf)) ?_
      first | refine g_aload_n G dX7_arrives_36 rfl ?_ | refine g_aload_nN G dX7_arrives_36 rfl ?_ | refine g_aload_nQ G dX7_arrives_36 rfl ?_
      refine g_getI G fl_X7_337 (by assumption) (by first | decide | omega) rfl (by first | assumption | rfl) dX7_arrives_37 ?_
      refine g_iconst (v := nI 2) G dX7_arrives_40 (by decide) ?_
      refine g_icmp_eq (tgt := 48) G dX7_arrives_41 (by decide) (fun c_41 => ?_) (fun c_41 => ?_)
      · have e9 : mA M 46 l = nI 2 ∨ gClk M = 0 := Or.inl c_41
        refine g_iconst (v := (-1)) G dX7_arrives_48 (by decide) ?_
        exact g_iret G F (⟨l, hl, rfl, congrArg (fun z => some (Value.int z)) (by unfold gArr; rw [if_neg c_26, if_pos e9]), rfl⟩) (by omega) (by omega) dX7_arrives_49
      · refine g_iload_n G dX7_arrives_44 rfl ?_
        refine g_if_gt (tgt := 50) G dX7_arrives_45 (by decide) (fun c_45 => ?_) (fun c_45 => ?_)
        · have z0 : ¬ gClk M = 0 := by
            intro z
            unfold gClk at z
            rw [z] at c_45
            exact absurd c_45 (by decide)
          have e9 : ¬ (mA M 46 l = nI 2 ∨ gClk M = 0) := fun z => z.elim c_41 z0
          first | refine g_aload_n G dX7_arrives_50 rfl ?_ | refine g_aload_nN G dX7_arrives_50 rfl ?_ | refine g_aload_nQ G dX7_arrives_50 rfl ?_
          refine g_iload_n G dX7_arrives_51 rfl ?_
          first | refine g_aload_n G dX7_arrives_52 rfl ?_ | refine g_aload_nN G dX7_arrives_52 rfl ?_ | refine g_aload_nQ G dX7_arrives_52 rfl ?_
          refine g_callVp (ci := 8) G (c_X7_lettersAhead _ S x ad M h l hl) mt_X7_lettersAhead mi_X7_lettersAhead ml_X7_343 (by assumption) (by first | decide | omega) rfl (by decide) (by omega) (by omega) rfl (Nat.le_of_ble_eq_true rfl) dX7_arrives_53 ?_
          refine g_iload_n G dX7_arrives_56 rfl ?_
          refine g_idiv G dX7_arrives_57 ((fun z => absurd ((nI_eq (a := 3 * gClk M) (b := 0) (by unfold gClk; omega) (by omega)).mp z) (by omega))) (pk_div (a := gct (gAheadP M l) (mN M 23)) (d := 3 * gClk M) (by omega) (by omega) (by unfold gClk; omega)) ?_
          refine g_iconst (v := nI 1) G dX7_arrives_58 (by decide) ?_
          refine g_iadd G dX7_arrives_59 (nI_add (gDays M l) 1) ?_
          refine g_istore G dX7_arrives_60 (gSt_4 (by first | rfl | exact g_c1_rf)) ?_
          first | refine g_aload_n G dX7_arrives_62 rfl ?_ | refine g_aload_nN G dX7_arrives_62 rfl ?_ | refine g_aload_nQ G dX7_arrives_62 rfl ?_
          first | refine g_getR G fl_X7_347 (by assumption) (by first | decide | omega) rfl (by assumption) dX7_arrives_63 ?_ | refine g_getZ G fl_X7_347 (by assumption) (by first | decide | omega) rfl (by assumption) dX7_arrives_63 ?_ | refine g_getQ G fl_X7_347 (by assumption) (by first | decide | omega) rfl (by first | assumption | rfl) dX7_arrives_63 ?_
          first | refine g_getR G fl_X7_181 (by assumption) (by first | decide | omega) rfl (by assumption) dX7_arrives_66 ?_ | refine g_getZ G fl_X7_181 (by assumption) (by first | decide | omega) rfl (by assumption) dX7_arrives_66 ?_ | refine g_getQ G fl_X7_181 (by assumption) (by first | decide | omega) rfl (by first | assumption | rfl) dX7_arrives_66 ?_
          first | refine g_astore G dX7_arrives_69 (gSt_5 (by first | rfl | exact g_c1_rf)) ?_ | refine g_astoreN G dX7_arrives_69 (gSt_5 (by first | rfl | exact g_c1_rf)) ?_ | refine g_astoreQ G dX7_arrives_69 (gSt_5 (by first | rfl | exact g_c1_rf)) ?_
          first | refine g_aload G dX7_arrives_71 rfl ?_ | refine g_aloadN G dX7_arrives_71 rfl ?_ | refine g_aloadQ G dX7_arrives_71 rfl ?_
          refine g_getI G fl_X7_139 (by assumption) (by first | decide | omega) rfl (by first | assumption | rfl) dX7_arrives_73 ?_
          first | refine g_aload_n G dX7_arrives_76 rfl ?_ | refine g_aload_nN G dX7_arrives_76 rfl ?_ | refine g_aload_nQ G dX7_arrives_76 rfl ?_
          first | refine g_getR G fl_X7_351 (by assumption) (by first | decide | omega) rfl (by assumption) dX7_arrives_77 ?_ | refine g_getZ G fl_X7_351 (by assumption) (by first | decide | omega) rfl (by assumption) dX7_arrives_77 ?_ | refine g_getQ G fl_X7_351 (by assumption) (by first | decide | omega) rfl (by first | assumption | rfl) dX7_arrives_77 ?_
          first | refine g_aload_n G dX7_arrives_80 rfl ?_ | refine g_aload_nN G dX7_arrives_80 rfl ?_ | refine g_aload_nQ G dX7_arrives_80 rfl ?_
          first | refine g_aload_n G dX7_arrives_81 rfl ?_ | refine g_aload_nN G dX7_arrives_81 rfl ?_ | refine g_aload_nQ G dX7_arrives_81 rfl ?_
          first | refine g_getR G fl_X7_351 (by assumption) (by first | decide | omega) rfl (by assumption) dX7_arrives_82 ?_ | refine g_getZ G fl_X7_351 (by assumption) (by first | decide | omega) rfl (by assumption) dX7_arrives_82 ?_ | refine g_getQ G fl_X7_351 (by assumption) (by first | decide | omega) rfl (by first | assumption | rfl) dX7_arrives_82 ?_
          refine g_iload G dX7_arrives_85 rfl ?_
          refine g_iconst (v := nI 1) G dX7_arrives_87 (by decide) ?_
          refine g_isub G dX7_arrives_88 (pk_sub (a := gDays M l + 1) (b := 1) (by omega)) ?_
          refine g_callVp (ci := 8) G (c_X7_clearanceBehind _ S x ad M h kp kp1 _) mt_X7_clearanceBehind mi_X7_clearanceBehind ml_X7_354 (by assumption) (by first | decide | omega) rfl (by decide) (by omega) (by omega) rfl (Nat.le_of_ble_eq_true rfl) dX7_arrives_89 ?_
          first | refine g_aload G dX7_arrives_92 rfl ?_ | refine g_aloadN G dX7_arrives_92 rfl ?_ | refine g_aloadQ G dX7_arrives_92 rfl ?_
          refine g_callVp (ci := 7) G (c_X6_reachWith _ S _ (ad 1 kp) kp (ad 0 kc) kc _ _ _ _ _ (hps kp kp1) (hcs kc kc1)) mt_X6_reachWith mi_X6_reachWith ml_X7_357 (by assumption) (by first | decide | omega) rfl (by decide) (by omega) (by omega) rfl (Nat.le_of_ble_eq_true rfl) dX7_arrives_94 ?_
          refine g_icmp_gt (tgt := 105) G dX7_arrives_97 (by decide) (fun c_97 => ?_) (fun c_97 => ?_)
          · have e7 : gArr M l = -1 := by
              unfold gArr
              rw [if_neg c_26, if_neg e9, ed, ep, ec]
              exact if_neg (Int32.not_le.mpr c_97)
            refine g_iconst (v := (-1)) G dX7_arrives_105 (by decide) ?_
            exact g_iret G F (⟨l, hl, rfl, congrArg (fun z => some (Value.int z)) (by exact e7.symm), rfl⟩) (by omega) (by omega) dX7_arrives_106
          · have e7 : gArr M l = nI (gDays M l + 1) := by
              unfold gArr
              rw [if_neg c_26, if_neg e9, ed, ep, ec]
              exact if_pos (Int32.not_lt.mp c_97)
            refine g_iload G dX7_arrives_100 rfl ?_
            refine g_goto (tgt := 106) G dX7_arrives_102 (by decide) ?_
            exact g_iret G F (⟨l, hl, rfl, congrArg (fun z => some (Value.int z)) (by exact e7.symm), rfl⟩) (by omega) (by omega) dX7_arrives_106
        · have e9 : mA M 46 l = nI 2 ∨ gClk M = 0 := Or.inr (Classical.byContradiction (fun z => c_45 (by
            show nI 0 < nI (3 * gClk M)
            exact nI_lt (by omega) (by unfold gClk; omega))))
          refine g_iconst (v := (-1)) G dX7_arrives_48 (by decide) ?_
          exact g_iret G F (⟨l, hl, rfl, congrArg (fun z => some (Value.int z)) (by unfold gArr; rw [if_neg c_26, if_pos e9]), rfl⟩) (by omega) (by omega) dX7_arrives_49
    · refine g_iconst (v := nI 0) G dX7_arrives_29 (by decide) ?_
      exact g_iret G F (⟨l, hl, rfl, congrArg (fun z => some (Value.int z)) (by unfold gArr; rw [if_pos c_26]), rfl⟩) (by omega) (by omega) dX7_arrives_30
  · first | refine g_aload_n G dX7_arrives_0 rfl ?_ | refine g_aload_nN G dX7_arrives_0 rfl ?_ | refine g_aload_nQ G dX7_arrives_0 rfl ?_
    refine g_iload_n G dX7_arrives_1 rfl ?_
    refine g_callVp (ci := 8) G (c_letterAt_no _ S x ad M h i (gIx_no h_l)) mt_X7_letterAt mi_X7_letterAt ml_X7_317 (by assumption) (by first | decide | omega) rfl (by decide) (by omega) (by omega) rfl (Nat.le_of_ble_eq_true rfl) dX7_arrives_2 ?_
    first | refine g_astore_n G dX7_arrives_5 (gSt_2 (by first | rfl | exact g_c1_rf)) ?_ | refine g_astore_nN G dX7_arrives_5 (gSt_2 (by first | rfl | exact g_c1_rf)) ?_ | refine g_astore_nQ G dX7_arrives_5 (gSt_2 (by first | rfl | exact g_c1_rf)) ?_
    first | refine g_aload_n G dX7_arrives_6 rfl ?_ | refine g_aload_nN G dX7_arrives_6 rfl ?_ | refine g_aload_nQ G dX7_arrives_6 rfl ?_
    refine g_ifnonnullN G dX7_arrives_7 ?_
    exact g_throwW (names := nm_IOE) G F tf_IOE cl_X7_75 ti_IOE st_X7_335 ta_IOE dX7_arrives_10 (by exact dX7_arrives_13) (by exact dX7_arrives_14) (by exact dX7_arrives_17) (by exact dX7_arrives_20) (by decide) (Nat.le_of_ble_eq_true rfl) (by omega) (by omega) (⟨rfl, rfl, h_l⟩)
