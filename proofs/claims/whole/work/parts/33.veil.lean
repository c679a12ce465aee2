/-! ===== veil, lend, back, least ===== -/
def gLeast (M : gM) (d a b r : Nat) : Prop := ∃ s, mA M 7 (mC M d) = nI s ∧ s ≤ r ∧ r ≤ 9 ∧ (r = 9 ∨ gcn (gHidR M d (nI r)) a (b - a) = 0) ∧ ∀ r', s ≤ r' → r' < r → ¬ gcn (gHidR M d (nI r')) a (b - a) = 0
def gVdif (M : gM) (d : Nat) (w : Int32) : Nat → Bool := fun k => decide (¬ mT M 14 d k = w)
theorem gDoc_lend {S : gS} {ad : Nat → Nat → Nat} {M : gM} {d : Nat} {v t : Int32} {o : Option Nat} (h : gDoc S ad M d) (ho : gRf ad v = o) (hv : gPr M v) : gDoc (sX (sY S (3 + 32 * d) 5 (ad 2 d) o) (3 + 32 * d) 6 (ad 2 d) t) ad (uA (uA M 43 d v) 44 d t) d := by
  obtain ⟨k1, ⟨c, c1, c2, c3⟩, ⟨q1, q2, q3⟩, ⟨k5, k6, k7, k8, kpr⟩, kl, tt, vv, ww⟩ := h
  have F : gFr (fun k => k ≠ 3 + 32 * d) S (sX (sY S (3 + 32 * d) 5 (ad 2 d) o) (3 + 32 * d) 6 (ad 2 d) t) := ((gFr.rf S).Y1 _ _ _ (fun _ z => z)).X1 _ _ _ (fun _ z => z)
  have e43 : mA (uA (uA M 43 d v) 44 d t) 43 d = v := (uA_f (by omega)).trans uA_s
  have e44 : mA (uA (uA M 43 d v) 44 d t) 44 d = t := uA_s
  refine ⟨k1, ⟨c, c1, c2, ?_⟩, ⟨?_, ?_, ?_⟩, ⟨sX_p (by decide) k5, ?_, ?_, sX_p (by decide) k8, ?_⟩, kl, gRow1_mono tt F (by first | omega | (dsimp only; omega)) (by omega), gRow1_mono vv F (by first | omega | (dsimp only; omega)) (by omega), gRow1_mono ww F (by first | omega | (dsimp only; omega)) (by omega)⟩
  · exact (u3_p _ _ (by decide)).trans c3
  · exact (u3_p _ _ (by decide)).trans q1
  · exact (u3_p _ _ (by decide)).trans q2
  · exact (u3_p _ _ (by decide)).trans q3
  · rw [e43, ho]; exact u3_same _ _ _ _ _
  · rw [e44]; exact u3_same _ _ _ _ _
  · rw [e43]; exact hv
theorem gMail_lend {d0 : Nat × Nat} {S : gS} {x : Nat} {ad : Nat → Nat → Nat} {M : gM} {d : Nat} {v t : Int32} {o : Option Nat} (h : gMail d0 S x ad M) (hd : d < mN M 11) (ho : gRf ad v = o) (hv : gPr M v) : gTo d0 x S (sX (sY S (3 + 32 * d) 5 (ad 2 d) o) (3 + 32 * d) 6 (ad 2 d) t) (uA (uA M 43 d v) 44 d t) :=
  gMail_doc (S3 := sX (sY S (3 + 32 * d) 5 (ad 2 d) o) (3 + 32 * d) 6 (ad 2 d) t) (M := M) (d := d) (M9 := uA (uA M 43 d v) 44 d t) rfl (fun f j z => by rcases z with z | z; exact (uA_f (by omega)).trans (uA_f (by omega)); exact (uA_i z).trans (uA_i z)) (fun _ _ _ => rfl) (gDoc_lend (h.2.2.2.2.2.1 d hd) ho hv) h (((gFr.rf S).Y1 _ _ _ (fun _ z => z.1)).X1 _ _ _ (fun _ z => z.1))
theorem gDoc_veil {S S3 : gS} {ad : Nat → Nat → Nat} {M : gM} {d a b : Nat} {w : Int32} (h : gDoc S ad M d) (F : gFr (fun k => k ≠ 16 + 32 * (101 + 3 * d)) S S3) (hx : ∀ k, k < mN M (100 + d) → gX S3 (16 + 32 * (101 + 3 * d)) (ad 8 d) k = if a ≤ k ∧ k < b then w else mT M 14 d k) : gDoc S3 ad (mVeil M d a b w) d := by
  obtain ⟨k1, ⟨c, c1, c2, c3⟩, ⟨q1, q2, q3⟩, ⟨k5, k6, k7, k8, kpr⟩, kl, t, v, w9⟩ := h
  refine ⟨F.K k1 (by omega), ⟨c, c1, c2, F.Y (by first | omega | (dsimp only; omega)) c3⟩, ⟨F.Y (by first | omega | (dsimp only; omega)) q1, F.Y (by first | omega | (dsimp only; omega)) q2, F.Y (by first | omega | (dsimp only; omega)) q3⟩, ⟨F.X (by first | omega | (dsimp only; omega)) k5, F.Y (by first | omega | (dsimp only; omega)) k6, F.X (by first | omega | (dsimp only; omega)) k7, F.X (by first | omega | (dsimp only; omega)) k8, kpr⟩, kl, gRow1_mono t F (by first | omega | (dsimp only; omega)) (by omega), ⟨F.K v.1 (by omega), ((F.1 _ (by rw [v.1]; omega)).2).trans v.2.1, fun j hj => ?_⟩, gRow1_mono w9 F (by first | omega | (dsimp only; omega)) (by omega)⟩
  rw [show mT (mVeil M d a b w) 14 d = _ from uT_s]
  exact hx j hj

set_option maxHeartbeats 4000000 in
set_option maxRecDepth 100000 in
theorem c_X1_setLevels (d0 : Nat × Nat) (S : gS) (ad : Nat → Nat → Nat) (M : gM) (d : Nat) (h : gDoc S ad M d) (a b w : Nat) (hab : a ≤ b) (hb : b ≤ mN M (100 + d)) (hw : w ≤ 9) : gCt d0 yX1_setLevels cX1_setLevels 6 (some .int) 1 0 0 [.ref (ad 2 d), .int (nI a), .int (nI b), .int (nI w)] S (fun v' S' => v' = some (.int (nI (gcn (gVdif M d (nI w)) a (b - a)))) ∧ gDoc S' ad (mVeil M d a b (nI w)) d ∧ gFr (fun k => k ≠ 16 + 32 * (101 + 3 * d)) S S') gNo := by
  refine gCt_of (lo := [some (.ref (ad 2 d)), some (.int (nI a)), some (.int (nI b)), some (.int (nI w)), none, none]) (by decide +kernel) (Nat.le_of_ble_eq_true rfl) (rfl) ?_
  intro Γ hd G F hini
  obtain ⟨k1, ⟨kc, kc1, kc2, kc3⟩, ⟨k2, k3, k4⟩, ⟨k5, k6, k7, k8, kpr⟩, kl, ⟨t1, t2, t3⟩, ⟨v1, v2, v3⟩, ⟨w1, w2, w3⟩⟩ := id h
  have em : (if nI 0 < nI a then nI a else nI 0) = nI a := by
    by_cases z : 0 < a
    · rw [if_pos (nI_lt z (by omega))]
    · rw [if_neg (nI_nlt (by omega) (by omega)), show a = 0 by omega]
  have hw8 : (nI w).toInt8.toInt32 = nI w := by
    have hk : ∀ z : Fin 10, (nI z.val).toInt8.toInt32 = nI z.val := by decide +kernel
    exact hk ⟨w, by omega⟩
  have hvb : vp_nar .byte (nI w) = nI w := by
    have z := pk_vb (nI w)
    rw [hw8] at z
    exact z
  refine g_iconst (v := nI 0) G dX1_setLevels_0 (by decide) ?_
  refine g_istore G dX1_setLevels_1 (gSt_4 (by first | rfl | exact g_c1_rf)) ?_
  refine g_iconst (v := nI 0) G dX1_setLevels_3 (by decide) ?_
  refine g_iload_n G dX1_setLevels_4 rfl ?_
  refine g_mmax G ml_X1_58 (by decide) (by omega) (by omega) (Nat.le_of_ble_eq_true rfl) (em) dX1_setLevels_5 ?_
  refine g_istore G dX1_setLevels_8 (gSt_5 (by first | rfl | exact g_c1_rf)) ?_
  have loop : ∀ (f j : Nat) (St : gS), a ≤ j → j ≤ b → b + 1 ≤ j + f → gFr (fun k => k ≠ 16 + 32 * (101 + 3 * d)) S St → (∀ k, k < mN M (100 + d) → gX St (16 + 32 * (101 + 3 * d)) (ad 8 d) k = if a ≤ k ∧ k < j then nI w else mT M 14 d k) → gW Γ 10 [some (.ref (ad 2 d)), some (.int (nI a)), some (.int (nI b)), some (.int (nI w)), some (.int (nI (gcn (gVdif M d (nI w)) a (j - a)))), some (.int (nI j))] [] St 0 0 := by
    intro f
    induction f with
    | zero => intro j St h1 h2 h3; omega
    | succ f ih =>
      intro j St h1 h2 h3 FS hx
      refine g_iload G dX1_setLevels_10 rfl ?_
      refine g_iload_n G dX1_setLevels_12 rfl ?_
      refine g_icmp_ge (tgt := 55) G dX1_setLevels_13 (by decide) (fun c_13 => ?_) (fun c_13 => ?_)
      · have ej : j = b := by have := (nI_leI (by omega) (by omega)).mp c_13; omega
        subst ej
        refine g_iload G dX1_setLevels_55 rfl ?_
        exact g_iret G F (⟨rfl, gDoc_veil h FS hx, FS⟩) (by omega) (by omega) dX1_setLevels_57
      · have hlt : j < b := by have z : ¬ b ≤ j := fun z => c_13 ((nI_leI (by omega) (by omega)).mpr z); omega
        have hold : gX St (16 + 32 * (101 + 3 * d)) (ad 8 d) j = mT M 14 d j := (hx j (by omega)).trans (if_neg (fun z => by omega))
        refine g_iload G dX1_setLevels_16 rfl ?_
        first | refine g_aload_n G dX1_setLevels_18 rfl ?_ | refine g_aload_nN G dX1_setLevels_18 rfl ?_ | refine g_aload_nQ G dX1_setLevels_18 rfl ?_
        refine g_getR G fl_X1_43 (FS.K k1 (by omega)) (by first | decide | omega) rfl (FS.Y (by first | omega | (dsimp only; omega)) k3) dX1_setLevels_19 ?_
        refine g_alen G (FS.K v1 (by omega)) (by first | decide | omega) (((FS.1 _ (by rw [v1]; omega)).2).trans v2) dX1_setLevels_22 ?_
        refine g_icmp_ge (tgt := 55) G dX1_setLevels_23 (by decide) (fun c_23 => (absurd c_23 (nI_ge (b := mN M (100 + d)) (show j < mN M (100 + d) by omega) (by omega)))) (fun c_23 => ?_)
        first | refine g_aload_n G dX1_setLevels_26 rfl ?_ | refine g_aload_nN G dX1_setLevels_26 rfl ?_ | refine g_aload_nQ G dX1_setLevels_26 rfl ?_
        refine g_getR G fl_X1_43 (FS.K k1 (by omega)) (by first | decide | omega) rfl (FS.Y (by first | omega | (dsimp only; omega)) k3) dX1_setLevels_27 ?_
        refine g_iload G dX1_setLevels_30 rfl ?_
        refine g_bald G (FS.K v1 (by omega)) (by first | decide | omega) (by rw [(FS.1 (ad 8 d) (show gK S (ad 8 d) ≠ 0 by rw [v1]; omega)).2]; omega) (by omega) (hold) dX1_setLevels_32 ?_
        refine g_iload_n G dX1_setLevels_33 rfl ?_
        refine g_icmp_eq (tgt := 49) G dX1_setLevels_34 (by decide) (fun c_34 => ?_) (fun c_34 => ?_)
        · have es : j + 1 - a = (j - a) + 1 := by omega
          have ea : a + (j - a) = j := by omega
          have e9 : gcn (gVdif M d (nI w)) a (j + 1 - a) = gcn (gVdif M d (nI w)) a (j - a) := by rw [es]; exact gct_no (by simp only [ea]; exact decide_eq_false (fun z => z c_34))
          have F2 := FS
          have hx2 : ∀ k, k < mN M (100 + d) → gX St (16 + 32 * (101 + 3 * d)) (ad 8 d) k = if a ≤ k ∧ k < j + 1 then nI w else mT M 14 d k := fun k hk => by
            by_cases e : k = j
            · subst e; rw [if_pos ⟨h1, by omega⟩, hold]; exact c_34
            · rw [hx k hk]
              by_cases z : a ≤ k ∧ k < j
              · rw [if_pos z, if_pos ⟨z.1, by omega⟩]
              · rw [if_neg z, if_neg (fun y => z ⟨y.1, by omega⟩)]
          refine g_iinc (v := _) G dX1_setLevels_49 rfl (by first | exact nI_1 _ | rfl) (gSt_5 (by first | rfl | exact g_c1_rf)) ?_
          refine g_goto (tgt := 10) G dX1_setLevels_52 (by decide) ?_
          have h9 := ih (j + 1) _ (by omega) (by omega) (by omega) F2 hx2
          rw [e9] at h9
          exact h9
        · have es : j + 1 - a = (j - a) + 1 := by omega
          have ea : a + (j - a) = j := by omega
          have e9 : gcn (gVdif M d (nI w)) a (j + 1 - a) = gcn (gVdif M d (nI w)) a (j - a) + 1 := by rw [es]; exact gct_yes (by simp only [ea]; exact decide_eq_true c_34)
          have F2 : gFr (fun k => k ≠ 16 + 32 * (101 + 3 * d)) S (sX St (16 + 32 * (101 + 3 * d)) (ad 8 d) j (nI w)) := FS.X1 _ _ _ (fun _ z => z)
          have hx2 : ∀ k, k < mN M (100 + d) → gX (sX St (16 + 32 * (101 + 3 * d)) (ad 8 d) j (nI w)) (16 + 32 * (101 + 3 * d)) (ad 8 d) k = if a ≤ k ∧ k < j + 1 then nI w else mT M 14 d k := fun k hk => by
            by_cases e : k = j
            · subst e; rw [if_pos ⟨h1, by omega⟩]; exact sX_s
            · refine sX_q e ?_
              rw [hx k hk]
              by_cases z : a ≤ k ∧ k < j
              · rw [if_pos z, if_pos ⟨z.1, by omega⟩]
              · rw [if_neg z, if_neg (fun y => z ⟨y.1, by omega⟩)]
          first | refine g_aload_n G dX1_setLevels_37 rfl ?_ | refine g_aload_nN G dX1_setLevels_37 rfl ?_ | refine g_aload_nQ G dX1_setLevels_37 rfl ?_
          refine g_getR G fl_X1_43 (FS.K k1 (by omega)) (by first | decide | omega) rfl (FS.Y (by first | omega | (dsimp only; omega)) k3) dX1_setLevels_38 ?_
          refine g_iload G dX1_setLevels_41 rfl ?_
          refine g_iload_n G dX1_setLevels_43 rfl ?_
          refine g_i2b G dX1_setLevels_44 (hw8) ?_
          refine g_bast G (FS.K v1 (by omega)) (by first | decide | omega) (by rw [(FS.1 (ad 8 d) (show gK S (ad 8 d) ≠ 0 by rw [v1]; omega)).2]; omega) (by omega) (hvb) dX1_setLevels_45 ?_
          refine g_iinc (v := _) G dX1_setLevels_46 rfl (by first | exact nI_1 _ | rfl) (gSt_4 (by first | rfl | exact g_c1_rf)) ?_
          refine g_iinc (v := _) G dX1_setLevels_49 rfl (by first | exact nI_1 _ | rfl) (gSt_5 (by first | rfl | exact g_c1_rf)) ?_
          refine g_goto (tgt := 10) G dX1_setLevels_52 (by decide) ?_
          have h9 := ih (j + 1) _ (by omega) (by omega) (by omega) F2 hx2
          rw [e9] at h9
          exact h9
  have h9 := loop (b + 1) a S (Nat.le_refl a) hab (by omega) (gFr.rf S) (fun k hk => by rw [if_neg (fun z => by omega)]; exact v3 k hk)
  rw [Nat.sub_self] at h9
  exact h9

set_option maxHeartbeats 4000000 in
set_option maxRecDepth 100000 in
theorem c_X7_veil (d0 : Nat × Nat) (S : gS) (x : Nat) (ad : Nat → Nat → Nat) (M : gM) (h : gMail d0 S x ad M) (i f g s : Int32) : gCt d0 yX7_veil cX7_veil 6 (some .int) 10 1 6 [.ref x, .int i, .int f, .int g, .int s] S (fun v' S' => ∃ d a b w, d < mN M 11 ∧ i = nI d ∧ a ≤ b ∧ b ≤ mN M (100 + d) ∧ f = nI a ∧ g = nI b ∧ w ≤ 9 ∧ s = nI w ∧ v' = some (.int (nI (gcn (gVdif M d (nI w)) a (b - a)))) ∧ gTo d0 x S S' (mVeil M d a b (nI w))) (fun E S' => S' = S ∧ ((E = "java/lang/IndexOutOfBoundsException" ∧ ¬ gIx (mN M 11) i) ∨ (E = "java/lang/IllegalArgumentException" ∧ ∃ d, d < mN M 11 ∧ i = nI d ∧ ¬ ((0 ≤ f ∧ f ≤ g ∧ g ≤ nI (mN M (100 + d))) ∧ gLv s)))) := by
  refine gCt_of (lo := [some (.ref x), some (.int i), some (.int f), some (.int g), some (.int s), none]) (by decide +kernel) (Nat.le_of_ble_eq_true rfl) (rfl) ?_
  intro Γ hd G F hini
  obtain ⟨⟨r1, ⟨ra, rb, rc, rd, re⟩, rt, rtl, rp, rpl, rdr, rep, rday⟩, ⟨l0, l1, l2, l3, l4⟩, ht, hcs, hps, hds, hes, hls⟩ := id h
  subst hd
  by_cases h_d : gIx (mN M 11) i
  · obtain ⟨d, hd, rfl⟩ := gIx_of h_d (by have := l2.2.2.1; omega)
    obtain ⟨k1, ⟨kc, kc1, kc2, kc3⟩, ⟨k2, k3, k4⟩, ⟨k5, k6, k7, k8, kpr⟩, kl, ⟨t1, t2, t3⟩, ⟨v1, v2, v3⟩, ⟨w1, w2, w3⟩⟩ := hds d hd
    have hNc := l0.2.2.1
    obtain rfl : kc = mC M d := by rw [mC, kc2, nI_clamp (by omega)]
    first | refine g_aload_n G dX7_veil_0 rfl ?_ | refine g_aload_nN G dX7_veil_0 rfl ?_ | refine g_aload_nQ G dX7_veil_0 rfl ?_
    refine g_iload_n G dX7_veil_1 rfl ?_
    refine g_callVp (ci := 8) G (c_documentAt _ S x ad M h d hd) mt_X7_documentAt mi_X7_documentAt ml_X7_104 (by assumption) (by first | decide | omega) rfl (by decide) (by omega) (by omega) rfl (Nat.le_of_ble_eq_true rfl) dX7_veil_2 ?_
    first | refine g_astore G dX7_veil_5 (gSt_5 (by first | rfl | exact g_c1_rf)) ?_ | refine g_astoreN G dX7_veil_5 (gSt_5 (by first | rfl | exact g_c1_rf)) ?_ | refine g_astoreQ G dX7_veil_5 (gSt_5 (by first | rfl | exact g_c1_rf)) ?_
    first | refine g_aload G dX7_veil_7 rfl ?_ | refine g_aloadN G dX7_veil_7 rfl ?_ | refine g_aloadQ G dX7_veil_7 rfl ?_
    refine g_ifnonnull (tgt := 22) G dX7_veil_9 (by decide) ?_
    first | refine g_aload G dX7_veil_22 rfl ?_ | refine g_aloadN G dX7_veil_22 rfl ?_ | refine g_aloadQ G dX7_veil_22 rfl ?_
    refine g_iload_n G dX7_veil_24 rfl ?_
    refine g_iload_n G dX7_veil_25 rfl ?_
    refine g_callVp (ci := 2) G (c_X1_hasRange _ S ad M d (hds d hd) f g) mt_X1_hasRange mi_X1_hasRange ml_X7_110 (by assumption) (by first | decide | omega) rfl (by decide) (by omega) (by omega) rfl (Nat.le_of_ble_eq_true rfl) dX7_veil_26 ?_
    refine g_if_eq (tgt := 40) G dX7_veil_29 (by decide) (fun c_29 => ?_) (fun c_29 => ?_)
    · have hr : ¬ (0 ≤ f ∧ f ≤ g ∧ g ≤ nI (mN M (100 + d))) := of_decide_eq_false (gB_eq0.mp c_29)
      have hno : ¬ ((0 ≤ f ∧ f ≤ g ∧ g ≤ nI (mN M (100 + d))) ∧ gLv s) := fun z => hr z.1
      exact g_throw (names := nm_IAE) G F tf_IAE cl_X7_66 ti_IAE st_X7_118 ta_IAE dX7_veil_40 (by exact dX7_veil_43) (by exact dX7_veil_44) (by exact dX7_veil_46) (by exact dX7_veil_49) (by decide) (Nat.le_of_ble_eq_true rfl) (by omega) (by omega) (⟨rfl, Or.inr ⟨rfl, d, hd, rfl, hno⟩⟩)
    · have hr : 0 ≤ f ∧ f ≤ g ∧ g ≤ nI (mN M (100 + d)) := of_decide_eq_true (gB_ne0.mp c_29)
      refine g_iload G dX7_veil_32 rfl ?_
      refine g_callSp G (c_X7_isLevel _ S s) mt_X7_isLevel ms_X7_isLevel ml_X7_114 (by decide) (by omega) (by omega) rfl (Nat.le_of_ble_eq_true rfl) dX7_veil_34 ?_
      refine g_if_ne (tgt := 50) G dX7_veil_37 (by decide) (fun c_37 => ?_) (fun c_37 => ?_)
      · have hs : gLv s := of_decide_eq_true (gB_ne0.mp c_37)
        obtain ⟨b, hb, rfl⟩ := gWt_of (k := mN M (100 + d)) ⟨Int32.le_trans hr.1 hr.2.1, hr.2.2⟩ (by omega)
        obtain ⟨a, ha, rfl⟩ := gWt_of (k := b) ⟨hr.1, hr.2.1⟩ (by omega)
        obtain ⟨w, hw, rfl⟩ := gWt_of (k := 9) hs (by omega)
        first | refine g_aload G dX7_veil_50 rfl ?_ | refine g_aloadN G dX7_veil_50 rfl ?_ | refine g_aloadQ G dX7_veil_50 rfl ?_
        refine g_iload_n G dX7_veil_52 rfl ?_
        refine g_iload_n G dX7_veil_53 rfl ?_
        refine g_iload G dX7_veil_54 rfl ?_
        refine g_callV (ci := 2) G (c_X1_setLevels _ S ad M d (hds d hd) a b w ha hb hw) mt_X1_setLevels mi_X1_setLevels ml_X7_120 (by assumption) (by first | decide | omega) rfl (by decide) (by omega) (by omega) rfl (Nat.le_of_ble_eq_true rfl) dX7_veil_56 (fun v_56 S_56 hp_56 => ?_)
        obtain ⟨rfl, hD, FV⟩ := hp_56
        simp only [Option.toList, List.cons_append, List.nil_append]
        exact g_iret G F (⟨d, a, b, w, hd, rfl, ha, hb, rfl, rfl, hw, rfl, rfl, gMail_doc (M := M) (M9 := mVeil M d a b (nI w)) rfl (fun _ _ _ => rfl) (fun f j z => uT_i z) hD h (FV.mono (fun _ z => z.2))⟩) (by omega) (by omega) dX7_veil_59
      · have hs : ¬ gLv s := of_decide_eq_false (gB_eq0.mp c_37)
        have hno : ¬ ((0 ≤ f ∧ f ≤ g ∧ g ≤ nI (mN M (100 + d))) ∧ gLv s) := fun z => hs z.2
        exact g_throw (names := nm_IAE) G F tf_IAE cl_X7_66 ti_IAE st_X7_118 ta_IAE dX7_veil_40 (by exact dX7_veil_43) (by exact dX7_veil_44) (by exact dX7_veil_46) (by exact dX7_veil_49) (by decide) (Nat.le_of_ble_eq_true rfl) (by omega) (by omega) (⟨rfl, Or.inr ⟨rfl, d, hd, rfl, hno⟩⟩)
  · have hno : ¬ (gIx (mN M 11) i) := fun z => h_d (z)
    first | refine g_aload_n G dX7_veil_0 rfl ?_ | refine g_aload_nN G dX7_veil_0 rfl ?_ | refine g_aload_nQ G dX7_veil_0 rfl ?_
    refine g_iload_n G dX7_veil_1 rfl ?_
    refine g_callVp (ci := 8) G (c_documentAt_no _ S x ad M h i (gIx_no h_d)) mt_X7_documentAt mi_X7_documentAt ml_X7_104 (by assumption) (by first | decide | omega) rfl (by decide) (by omega) (by omega) rfl (Nat.le_of_ble_eq_true rfl) dX7_veil_2 ?_
    first | refine g_astore G dX7_veil_5 (gSt_5 (by first | rfl | exact g_c1_rf)) ?_ | refine g_astoreN G dX7_veil_5 (gSt_5 (by first | rfl | exact g_c1_rf)) ?_ | refine g_astoreQ G dX7_veil_5 (gSt_5 (by first | rfl | exact g_c1_rf)) ?_
    first | refine g_aload G dX7_veil_7 rfl ?_ | refine g_aloadN G dX7_veil_7 rfl ?_ | refine g_aloadQ G dX7_veil_7 rfl ?_
    refine g_ifnonnullN G dX7_veil_9 ?_
    exact g_throw (names := nm_IOE) G F tf_IOE cl_X7_75 ti_IOE st_X7_108 ta_IOE dX7_veil_12 (by exact dX7_veil_15) (by exact dX7_veil_16) (by exact dX7_veil_18) (by exact dX7_veil_21) (by decide) (Nat.le_of_ble_eq_true rfl) (by omega) (by omega) (⟨rfl, Or.inl ⟨rfl, hno⟩⟩)

set_option maxHeartbeats 4000000 in
set_option maxRecDepth 100000 in
theorem c_X7_lend (d0 : Nat × Nat) (S : gS) (x : Nat) (ad : Nat → Nat → Nat) (M : gM) (h : gMail d0 S x ad M) (i j t : Int32) : gCt d0 yX7_lend cX7_lend 6 (some .int) 10 1 6 [.ref x, .int i, .int j, .int t] S (fun v' S' => ∃ d p, d < mN M 11 ∧ i = nI d ∧ p < mN M 8 ∧ j = nI p ∧ (nI 1 ≤ t ∧ t ≤ nI 60) ∧ (mA M 43 d = -1 ∧ gHid M p d = 0) ∧ v' = some (.int (nI (mN M 40) + t)) ∧ gTo d0 x S S' (mLend M d p (nI (mN M 40) + t))) (fun E S' => S' = S ∧ ((E = "java/lang/IndexOutOfBoundsException" ∧ ¬ (gIx (mN M 11) i ∧ gIx (mN M 8) j)) ∨ (E = "java/lang/IllegalArgumentException" ∧ (gIx (mN M 11) i ∧ gIx (mN M 8) j) ∧ ¬ (nI 1 ≤ t ∧ t ≤ nI 60)) ∨ (E = "java/lang/IllegalStateException" ∧ ∃ d p, d < mN M 11 ∧ i = nI d ∧ p < mN M 8 ∧ j = nI p ∧ (nI 1 ≤ t ∧ t ≤ nI 60) ∧ ¬ (mA M 43 d = -1 ∧ gHid M p d = 0)))) := by
  refine gCt_of (lo := [some (.ref x), some (.int i), some (.int j), some (.int t), none, none]) (by decide +kernel) (Nat.le_of_ble_eq_true rfl) (rfl) ?_
  intro Γ hd G F hini
  obtain ⟨⟨r1, ⟨ra, rb, rc, rd, re⟩, rt, rtl, rp, rpl, rdr, rep, rday⟩, ⟨l0, l1, l2, l3, l4⟩, ht, hcs, hps, hds, hes, hls⟩ := id h
  subst hd
  by_cases h_d : gIx (mN M 11) i
  · obtain ⟨d, hd, rfl⟩ := gIx_of h_d (by have := l2.2.2.1; omega)
    by_cases h_p : gIx (mN M 8) j
    · obtain ⟨p, hp, rfl⟩ := gIx_of h_p (by have := l1.2.2.1; omega)
      obtain ⟨k1, ⟨kc, kc1, kc2, kc3⟩, ⟨k2, k3, k4⟩, ⟨k5, k6, k7, k8, kpr⟩, kl, ⟨t1, t2, t3⟩, ⟨v1, v2, v3⟩, ⟨w1, w2, w3⟩⟩ := hds d hd
      have hNc := l0.2.2.1
      obtain rfl : kc = mC M d := by rw [mC, kc2, nI_clamp (by omega)]
      obtain ⟨p1, p2, p3, p4, p5, p6⟩ := id (hps p hp)
      first | refine g_aload_n G dX7_lend_0 rfl ?_ | refine g_aload_nN G dX7_lend_0 rfl ?_ | refine g_aload_nQ G dX7_lend_0 rfl ?_
      refine g_iload_n G dX7_lend_1 rfl ?_
      refine g_callVp (ci := 8) G (c_documentAt _ S x ad M h d hd) mt_X7_documentAt mi_X7_documentAt ml_X7_104 (by assumption) (by first | decide | omega) rfl (by decide) (by omega) (by omega) rfl (Nat.le_of_ble_eq_true rfl) dX7_lend_2 ?_
      first | refine g_astore G dX7_lend_5 (gSt_4 (by first | rfl | exact g_c1_rf)) ?_ | refine g_astoreN G dX7_lend_5 (gSt_4 (by first | rfl | exact g_c1_rf)) ?_ | refine g_astoreQ G dX7_lend_5 (gSt_4 (by first | rfl | exact g_c1_rf)) ?_
      first | refine g_aload_n G dX7_lend_7 rfl ?_ | refine g_aload_nN G dX7_lend_7 rfl ?_ | refine g_aload_nQ G dX7_lend_7 rfl ?_
      refine g_iload_n G dX7_lend_8 rfl ?_
      refine g_callVp (ci := 8) G (c_personAt _ S x ad M h p hp) mt_X7_personAt mi_X7_personAt ml_X7_151 (by assumption) (by first | decide | omega) rfl (by decide) (by omega) (by omega) rfl (Nat.le_of_ble_eq_true rfl) dX7_lend_9 ?_
      first | refine g_astore G dX7_lend_12 (gSt_5 (by first | rfl | exact g_c1_rf)) ?_ | refine g_astoreN G dX7_lend_12 (gSt_5 (by first | rfl | exact g_c1_rf)) ?_ | refine g_astoreQ G dX7_lend_12 (gSt_5 (by first | rfl | exact g_c1_rf)) ?_
      first | refine g_aload G dX7_lend_14 rfl ?_ | refine g_aloadN G dX7_lend_14 rfl ?_ | refine g_aloadQ G dX7_lend_14 rfl ?_
      refine g_ifnull G dX7_lend_16 ?_
      first | refine g_aload G dX7_lend_19 rfl ?_ | refine g_aloadN G dX7_lend_19 rfl ?_ | refine g_aloadQ G dX7_lend_19 rfl ?_
      refine g_ifnonnull (tgt := 34) G dX7_lend_21 (by decide) ?_
      refine g_iload_n G dX7_lend_34 rfl ?_
      refine g_iconst (v := nI 1) G dX7_lend_35 (by decide) ?_
      refine g_icmp_lt (tgt := 45) G dX7_lend_36 (by decide) (fun c_36 => ?_) (fun c_36 => ?_)
      · have hno : ¬ (nI 1 ≤ t ∧ t ≤ nI 60) := fun z => absurd z.1 (Int32.not_le.mpr c_36)
        exact g_throw (names := nm_IAE) G F tf_IAE cl_X7_66 ti_IAE st_X7_221 ta_IAE dX7_lend_45 (by exact dX7_lend_48) (by exact dX7_lend_49) (by exact dX7_lend_51) (by exact dX7_lend_54) (by decide) (Nat.le_of_ble_eq_true rfl) (by omega) (by omega) (⟨rfl, Or.inr (Or.inl ⟨rfl, ⟨h_d, h_p⟩, hno⟩)⟩)
      · have e1 : nI 1 ≤ t := Int32.not_lt.mp c_36
        refine g_iload_n G dX7_lend_39 rfl ?_
        refine g_bipush (v := nI 60) G dX7_lend_40 (by decide) ?_
        refine g_icmp_le (tgt := 55) G dX7_lend_42 (by decide) (fun c_42 => ?_) (fun c_42 => ?_)
        · have e2 : t ≤ nI 60 := c_42
          first | refine g_aload G dX7_lend_55 rfl ?_ | refine g_aloadN G dX7_lend_55 rfl ?_ | refine g_aloadQ G dX7_lend_55 rfl ?_
          first | refine g_getR G fl_X7_223 (by assumption) (by first | decide | omega) rfl (by assumption) dX7_lend_57 ?_ | refine g_getZ G fl_X7_223 (by assumption) (by first | decide | omega) rfl (by assumption) dX7_lend_57 ?_ | refine g_getQ G fl_X7_223 (by assumption) (by first | decide | omega) rfl (by first | assumption | rfl) dX7_lend_57 ?_
          refine g_ifnonnullQ (tgt := 73) G dX7_lend_60 (by decide) (fun c_60 => ?_) (fun q_60 c_60 => ?_)
          · have e3 : mA M 43 d = -1 := (gRf_none l1.2.2.1 kpr).mp c_60
            first | refine g_aload G dX7_lend_63 rfl ?_ | refine g_aloadN G dX7_lend_63 rfl ?_ | refine g_aloadQ G dX7_lend_63 rfl ?_
            first | refine g_aload G dX7_lend_65 rfl ?_ | refine g_aloadN G dX7_lend_65 rfl ?_ | refine g_aloadQ G dX7_lend_65 rfl ?_
            refine g_callSp G (c_X7_hiddenBytes _ S x ad M h p d hp hd) mt_X7_hiddenBytes ms_X7_hiddenBytes ml_X7_198 (by decide) (by omega) (by omega) rfl (Nat.le_of_ble_eq_true rfl) dX7_lend_67 ?_
            refine g_if_eq (tgt := 83) G dX7_lend_70 (by decide) (fun c_70 => ?_) (fun c_70 => ?_)
            · have e4 : gHid M p d = 0 := (nI_eq (b := 0) (by have := gct_le (gHidP M p d) (mN M (100 + d)); unfold gHid; omega) (by omega)).mp c_70
              first | refine g_aload G dX7_lend_83 rfl ?_ | refine g_aloadN G dX7_lend_83 rfl ?_ | refine g_aloadQ G dX7_lend_83 rfl ?_
              first | refine g_aload G dX7_lend_85 rfl ?_ | refine g_aloadN G dX7_lend_85 rfl ?_ | refine g_aloadQ G dX7_lend_85 rfl ?_
              refine g_putQ (v := some (ad 1 p)) G fl_X7_223 pu_2_5 (by assumption) (by first | decide | omega) rfl dX7_lend_87 ?_
              first | refine g_aload G dX7_lend_90 rfl ?_ | refine g_aloadN G dX7_lend_90 rfl ?_ | refine g_aloadQ G dX7_lend_90 rfl ?_
              first | refine g_aload_n G dX7_lend_92 rfl ?_ | refine g_aload_nN G dX7_lend_92 rfl ?_ | refine g_aload_nQ G dX7_lend_92 rfl ?_
              refine g_getI G fl_X7_52 (by assumption) (by first | decide | omega) rfl (by first | assumption | rfl) dX7_lend_93 ?_
              refine g_iload_n G dX7_lend_96 rfl ?_
              refine g_iadd G dX7_lend_97 (by first | exact nI_add _ _ | rfl) ?_
              refine g_putI G fl_X7_229 pu_2_6 (by assumption) (by first | decide | omega) rfl dX7_lend_98 ?_
              first | refine g_aload G dX7_lend_101 rfl ?_ | refine g_aloadN G dX7_lend_101 rfl ?_ | refine g_aloadQ G dX7_lend_101 rfl ?_
              refine g_getI G fl_X7_229 (by assumption) (by first | decide | omega) rfl (sX_s) dX7_lend_103 ?_
              exact g_iret G F (⟨d, p, hd, rfl, hp, rfl, ⟨e1, e2⟩, ⟨e3, e4⟩, rfl, gMail_lend h hd (gRf_p (by have := l1.2.2.1; omega)) (Or.inr ⟨p, hp, rfl⟩)⟩) (by omega) (by omega) dX7_lend_106
            · have hno : ¬ (mA M 43 d = -1 ∧ gHid M p d = 0) := fun z => c_70 (by rw [z.2]; rfl)
              exact g_throw (names := nm_ISE) G F tf_ISE cl_X7_55 ti_ISE st_X7_227 ta_ISE dX7_lend_73 (by exact dX7_lend_76) (by exact dX7_lend_77) (by exact dX7_lend_79) (by exact dX7_lend_82) (by decide) (Nat.le_of_ble_eq_true rfl) (by omega) (by omega) (⟨rfl, Or.inr (Or.inr ⟨rfl, d, p, hd, rfl, hp, rfl, ⟨e1, e2⟩, hno⟩)⟩)
          · have hno : ¬ (mA M 43 d = -1 ∧ gHid M p d = 0) := fun z => by rw [(gRf_none l1.2.2.1 kpr).mpr z.1] at c_60; cases c_60
            exact g_throw (names := nm_ISE) G F tf_ISE cl_X7_55 ti_ISE st_X7_227 ta_ISE dX7_lend_73 (by exact dX7_lend_76) (by exact dX7_lend_77) (by exact dX7_lend_79) (by exact dX7_lend_82) (by decide) (Nat.le_of_ble_eq_true rfl) (by omega) (by omega) (⟨rfl, Or.inr (Or.inr ⟨rfl, d, p, hd, rfl, hp, rfl, ⟨e1, e2⟩, hno⟩)⟩)
        · have hno : ¬ (nI 1 ≤ t ∧ t ≤ nI 60) := fun z => c_42 z.2
          exact g_throw (names := nm_IAE) G F tf_IAE cl_X7_66 ti_IAE st_X7_221 ta_IAE dX7_lend_45 (by exact dX7_lend_48) (by exact dX7_lend_49) (by exact dX7_lend_51) (by exact dX7_lend_54) (by decide) (Nat.le_of_ble_eq_true rfl) (by omega) (by omega) (⟨rfl, Or.inr (Or.inl ⟨rfl, ⟨h_d, h_p⟩, hno⟩)⟩)
    · have hno : ¬ (gIx (mN M 11) (nI d) ∧ gIx (mN M 8) j) := fun z => h_p (z.2)
      first | refine g_aload_n G dX7_lend_0 rfl ?_ | refine g_aload_nN G dX7_lend_0 rfl ?_ | refine g_aload_nQ G dX7_lend_0 rfl ?_
      refine g_iload_n G dX7_lend_1 rfl ?_
      refine g_callVp (ci := 8) G (c_documentAt _ S x ad M h d hd) mt_X7_documentAt mi_X7_documentAt ml_X7_104 (by assumption) (by first | decide | omega) rfl (by decide) (by omega) (by omega) rfl (Nat.le_of_ble_eq_true rfl) dX7_lend_2 ?_
      first | refine g_astore G dX7_lend_5 (gSt_4 (by first | rfl | exact g_c1_rf)) ?_ | refine g_astoreN G dX7_lend_5 (gSt_4 (by first | rfl | exact g_c1_rf)) ?_ | refine g_astoreQ G dX7_lend_5 (gSt_4 (by first | rfl | exact g_c1_rf)) ?_
      first | refine g_aload_n G dX7_lend_7 rfl ?_ | refine g_aload_nN G dX7_lend_7 rfl ?_ | refine g_aload_nQ G dX7_lend_7 rfl ?_
      refine g_iload_n G dX7_lend_8 rfl ?_
      refine g_callVp (ci := 8) G (c_personAt_no _ S x ad M h j (gIx_no h_p)) mt_X7_personAt mi_X7_personAt ml_X7_151 (by assumption) (by first | decide | omega) rfl (by decide) (by omega) (by omega) rfl (Nat.le_of_ble_eq_true rfl) dX7_lend_9 ?_
      first | refine g_astore G dX7_lend_12 (gSt_5 (by first | rfl | exact g_c1_rf)) ?_ | refine g_astoreN G dX7_lend_12 (gSt_5 (by first | rfl | exact g_c1_rf)) ?_ | refine g_astoreQ G dX7_lend_12 (gSt_5 (by first | rfl | exact g_c1_rf)) ?_
      first | refine g_aload G dX7_lend_14 rfl ?_ | refine g_aloadN G dX7_lend_14 rfl ?_ | refine g_aloadQ G dX7_lend_14 rfl ?_
      refine g_ifnull G dX7_lend_16 ?_
      first | refine g_aload G dX7_lend_19 rfl ?_ | refine g_aloadN G dX7_lend_19 rfl ?_ | refine g_aloadQ G dX7_lend_19 rfl ?_
      refine g_ifnonnullN G dX7_lend_21 ?_
      exact g_throw (names := nm_IOE) G F tf_IOE cl_X7_75 ti_IOE st_X7_219 ta_IOE dX7_lend_24 (by exact dX7_lend_27) (by exact dX7_lend_28) (by exact dX7_lend_30) (by exact dX7_lend_33) (by decide) (Nat.le_of_ble_eq_true rfl) (by omega) (by omega) (⟨rfl, Or.inl ⟨rfl, hno⟩⟩)
  · have hno : ¬ (gIx (mN M 11) i ∧ gIx (mN M 8) j) := fun z => h_d (z.1)
    by_cases h_p : gIx (mN M 8) j
    · obtain ⟨p, hp, rfl⟩ := gIx_of h_p (by have := l1.2.2.1; omega)
      first | refine g_aload_n G dX7_lend_0 rfl ?_ | refine g_aload_nN G dX7_lend_0 rfl ?_ | refine g_aload_nQ G dX7_lend_0 rfl ?_
      refine g_iload_n G dX7_lend_1 rfl ?_
      refine g_callVp (ci := 8) G (c_documentAt_no _ S x ad M h i (gIx_no h_d)) mt_X7_documentAt mi_X7_documentAt ml_X7_104 (by assumption) (by first | decide | omega) rfl (by decide) (by omega) (by omega) rfl (Nat.le_of_ble_eq_true rfl) dX7_lend_2 ?_
      first | refine g_astore G dX7_lend_5 (gSt_4 (by first | rfl | exact g_c1_rf)) ?_ | refine g_astoreN G dX7_lend_5 (gSt_4 (by first | rfl | exact g_c1_rf)) ?_ | refine g_astoreQ G dX7_lend_5 (gSt_4 (by first | rfl | exact g_c1_rf)) ?_
      first | refine g_aload_n G dX7_lend_7 rfl ?_ | refine g_aload_nN G dX7_lend_7 rfl ?_ | refine g_aload_nQ G dX7_lend_7 rfl ?_
      refine g_iload_n G dX7_lend_8 rfl ?_
      refine g_callVp (ci := 8) G (c_personAt _ S x ad M h p hp) mt_X7_personAt mi_X7_personAt ml_X7_151 (by assumption) (by first | decide | omega) rfl (by decide) (by omega) (by omega) rfl (Nat.le_of_ble_eq_true rfl) dX7_lend_9 ?_
      first | refine g_astore G dX7_lend_12 (gSt_5 (by first | rfl | exact g_c1_rf)) ?_ | refine g_astoreN G dX7_lend_12 (gSt_5 (by first | rfl | exact g_c1_rf)) ?_ | refine g_astoreQ G dX7_lend_12 (gSt_5 (by first | rfl | exact g_c1_rf)) ?_
      first | refine g_aload G dX7_lend_14 rfl ?_ | refine g_aloadN G dX7_lend_14 rfl ?_ | refine g_aloadQ G dX7_lend_14 rfl ?_
      refine g_ifnullN (tgt := 24) G dX7_lend_16 (by decide) ?_
      exact g_throw (names := nm_IOE) G F tf_IOE cl_X7_75 ti_IOE st_X7_219 ta_IOE dX7_lend_24 (by exact dX7_lend_27) (by exact dX7_lend_28) (by exact dX7_lend_30) (by exact dX7_lend_33) (by decide) (Nat.le_of_ble_eq_true rfl) (by omega) (by omega) (⟨rfl, Or.inl ⟨rfl, hno⟩⟩)
    · first | refine g_aload_n G dX7_lend_0 rfl ?_ | refine g_aload_nN G dX7_lend_0 rfl ?_ | refine g_aload_nQ G dX7_lend_0 rfl ?_
      refine g_iload_n G dX7_lend_1 rfl ?_
      refine g_callVp (ci := 8) G (c_documentAt_no _ S x ad M h i (gIx_no h_d)) mt_X7_documentAt mi_X7_documentAt ml_X7_104 (by assumption) (by first | decide | omega) rfl (by decide) (by omega) (by omega) rfl (Nat.le_of_ble_eq_true rfl) dX7_lend_2 ?_
      first | refine g_astore G dX7_lend_5 (gSt_4 (by first | rfl | exact g_c1_rf)) ?_ | refine g_astoreN G dX7_lend_5 (gSt_4 (by first | rfl | exact g_c1_rf)) ?_ | refine g_astoreQ G dX7_lend_5 (gSt_4 (by first | rfl | exact g_c1_rf)) ?_
      first | refine g_aload_n G dX7_lend_7 rfl ?_ | refine g_aload_nN G dX7_lend_7 rfl ?_ | refine g_aload_nQ G dX7_lend_7 rfl ?_
      refine g_iload_n G dX7_lend_8 rfl ?_
      refine g_callVp (ci := 8) G (c_personAt_no _ S x ad M h j (gIx_no h_p)) mt_X7_personAt mi_X7_personAt ml_X7_151 (by assumption) (by first | decide | omega) rfl (by decide) (by omega) (by omega) rfl (Nat.le_of_ble_eq_true rfl) dX7_lend_9 ?_
      first | refine g_astore G dX7_lend_12 (gSt_5 (by first | rfl | exact g_c1_rf)) ?_ | refine g_astoreN G dX7_lend_12 (gSt_5 (by first | rfl | exact g_c1_rf)) ?_ | refine g_astoreQ G dX7_lend_12 (gSt_5 (by first | rfl | exact g_c1_rf)) ?_
      first | refine g_aload G dX7_lend_14 rfl ?_ | refine g_aloadN G dX7_lend_14 rfl ?_ | refine g_aloadQ G dX7_lend_14 rfl ?_
      refine g_ifnullN (tgt := 24) G dX7_lend_16 (by decide) ?_
      exact g_throw (names := nm_IOE) G F tf_IOE cl_X7_75 ti_IOE st_X7_219 ta_IOE dX7_lend_24 (by exact dX7_lend_27) (by exact dX7_lend_28) (by exact dX7_lend_30) (by exact dX7_lend_33) (by decide) (Nat.le_of_ble_eq_true rfl) (by omega) (by omega) (⟨rfl, Or.inl ⟨rfl, hno⟩⟩)

set_option maxHeartbeats 4000000 in
set_option maxRecDepth 100000 in
theorem c_X7_back (d0 : Nat × Nat) (S : gS) (x : Nat) (ad : Nat → Nat → Nat) (M : gM) (h : gMail d0 S x ad M) (i : Int32) : gCt d0 yX7_back cX7_back 4 (some .int) 10 1 6 [.ref x, .int i] S (fun v' S' => ∃ d, d < mN M 11 ∧ i = nI d ∧ v' = some (.int (mA M 43 d)) ∧ gTo d0 x S S' (mBack M d)) (fun E S' => S' = S ∧ ((E = "java/lang/IndexOutOfBoundsException" ∧ ¬ gIx (mN M 11) i))) := by
  refine gCt_of (lo := [some (.ref x), some (.int i), none, none]) (by decide +kernel) (Nat.le_of_ble_eq_true rfl) (rfl) ?_
  intro Γ hd G F hini
  obtain ⟨⟨r1, ⟨ra, rb, rc, rd, re⟩, rt, rtl, rp, rpl, rdr, rep, rday⟩, ⟨l0, l1, l2, l3, l4⟩, ht, hcs, hps, hds, hes, hls⟩ := id h
  subst hd
  by_cases h_d : gIx (mN M 11) i
  · obtain ⟨d, hd, rfl⟩ := gIx_of h_d (by have := l2.2.2.1; omega)
    obtain ⟨k1, ⟨kc, kc1, kc2, kc3⟩, ⟨k2, k3, k4⟩, ⟨k5, k6, k7, k8, kpr⟩, kl, ⟨t1, t2, t3⟩, ⟨v1, v2, v3⟩, ⟨w1, w2, w3⟩⟩ := hds d hd
    have hNc := l0.2.2.1
    obtain rfl : kc = mC M d := by rw [mC, kc2, nI_clamp (by omega)]
    first | refine g_aload_n G dX7_back_0 rfl ?_ | refine g_aload_nN G dX7_back_0 rfl ?_ | refine g_aload_nQ G dX7_back_0 rfl ?_
    refine g_iload_n G dX7_back_1 rfl ?_
    refine g_callVp (ci := 8) G (c_documentAt _ S x ad M h d hd) mt_X7_documentAt mi_X7_documentAt ml_X7_104 (by assumption) (by first | decide | omega) rfl (by decide) (by omega) (by omega) rfl (Nat.le_of_ble_eq_true rfl) dX7_back_2 ?_
    first | refine g_astore_n G dX7_back_5 (gSt_2 (by first | rfl | exact g_c1_rf)) ?_ | refine g_astore_nN G dX7_back_5 (gSt_2 (by first | rfl | exact g_c1_rf)) ?_ | refine g_astore_nQ G dX7_back_5 (gSt_2 (by first | rfl | exact g_c1_rf)) ?_
    first | refine g_aload_n G dX7_back_6 rfl ?_ | refine g_aload_nN G dX7_back_6 rfl ?_ | refine g_aload_nQ G dX7_back_6 rfl ?_
    refine g_ifnonnull (tgt := 20) G dX7_back_7 (by decide) ?_
    first | refine g_aload_n G dX7_back_20 rfl ?_ | refine g_aload_nN G dX7_back_20 rfl ?_ | refine g_aload_nQ G dX7_back_20 rfl ?_
    first | refine g_getR G fl_X7_223 (by assumption) (by first | decide | omega) rfl (by assumption) dX7_back_21 ?_ | refine g_getZ G fl_X7_223 (by assumption) (by first | decide | omega) rfl (by assumption) dX7_back_21 ?_ | refine g_getQ G fl_X7_223 (by assumption) (by first | decide | omega) rfl (by first | assumption | rfl) dX7_back_21 ?_
    refine g_callSp G (c_numberOf _ S x ad M h _ kpr) mt_X7_numberOf ms_X7_numberOf ml_X7_232 (by decide) (by omega) (by omega) rfl (Nat.le_of_ble_eq_true rfl) dX7_back_24 ?_
    refine g_istore_n G dX7_back_27 (gSt_3 (by first | rfl | exact g_c1_rf)) ?_
    first | refine g_aload_n G dX7_back_28 rfl ?_ | refine g_aload_nN G dX7_back_28 rfl ?_ | refine g_aload_nQ G dX7_back_28 rfl ?_
    refine g_callV (ci := 2) G (c_X1_bringBack _ S (ad 2 d) d k1) mt_X1_bringBack mi_X1_bringBack ml_X7_236 (by assumption) (by first | decide | omega) rfl (by decide) (by omega) (by omega) rfl (Nat.le_of_ble_eq_true rfl) dX7_back_29 (fun v_29 S_29 hp_29 => ?_)
    obtain ⟨rfl, rfl⟩ := hp_29
    simp only [Option.toList, List.nil_append]
    refine g_iload_n G dX7_back_32 rfl ?_
    exact g_iret G F (⟨d, hd, rfl, rfl, gMail_lend h hd gRf_1 (Or.inl rfl)⟩) (by omega) (by omega) dX7_back_33
  · have hno : ¬ (gIx (mN M 11) i) := fun z => h_d (z)
    first | refine g_aload_n G dX7_back_0 rfl ?_ | refine g_aload_nN G dX7_back_0 rfl ?_ | refine g_aload_nQ G dX7_back_0 rfl ?_
    refine g_iload_n G dX7_back_1 rfl ?_
    refine g_callVp (ci := 8) G (c_documentAt_no _ S x ad M h i (gIx_no h_d)) mt_X7_documentAt mi_X7_documentAt ml_X7_104 (by assumption) (by first | decide | omega) rfl (by decide) (by omega) (by omega) rfl (Nat.le_of_ble_eq_true rfl) dX7_back_2 ?_
    first | refine g_astore_n G dX7_back_5 (gSt_2 (by first | rfl | exact g_c1_rf)) ?_ | refine g_astore_nN G dX7_back_5 (gSt_2 (by first | rfl | exact g_c1_rf)) ?_ | refine g_astore_nQ G dX7_back_5 (gSt_2 (by first | rfl | exact g_c1_rf)) ?_
    first | refine g_aload_n G dX7_back_6 rfl ?_ | refine g_aload_nN G dX7_back_6 rfl ?_ | refine g_aload_nQ G dX7_back_6 rfl ?_
    refine g_ifnonnullN G dX7_back_7 ?_
    exact g_throw (names := nm_IOE) G F tf_IOE cl_X7_75 ti_IOE st_X7_108 ta_IOE dX7_back_10 (by exact dX7_back_13) (by exact dX7_back_14) (by exact dX7_back_16) (by exact dX7_back_19) (by decide) (Nat.le_of_ble_eq_true rfl) (by omega) (by omega) (⟨rfl, rfl, hno⟩)

set_option maxHeartbeats 4000000 in
set_option maxRecDepth 100000 in
theorem c_X7_least (d0 : Nat × Nat) (S : gS) (x : Nat) (ad : Nat → Nat → Nat) (M : gM) (h : gMail d0 S x ad M) (hS : ∀ c, c < mN M 6 → gWt 9 (mA M 7 c)) (i f g : Int32) : gCt d0 yX7_least cX7_least 6 (some .int) 10 1 6 [.ref x, .int i, .int f, .int g] S (fun v' S' => ∃ d a b r, d < mN M 11 ∧ i = nI d ∧ a ≤ b ∧ b ≤ mN M (100 + d) ∧ f = nI a ∧ g = nI b ∧ v' = some (.int (nI r)) ∧ gLeast M d a b r ∧ S' = S) (fun E S' => S' = S ∧ ((E = "java/lang/IndexOutOfBoundsException" ∧ ¬ gIx (mN M 11) i) ∨ (E = "java/lang/IllegalArgumentException" ∧ ∃ d, d < mN M 11 ∧ i = nI d ∧ ¬ (0 ≤ f ∧ f ≤ g ∧ g ≤ nI (mN M (100 + d)))))) := by
  refine gCt_of (lo := [some (.ref x), some (.int i), some (.int f), some (.int g), none, none]) (by decide +kernel) (Nat.le_of_ble_eq_true rfl) (rfl) ?_
  intro Γ hd G F hini
  obtain ⟨⟨r1, ⟨ra, rb, rc, rd, re⟩, rt, rtl, rp, rpl, rdr, rep, rday⟩, ⟨l0, l1, l2, l3, l4⟩, ht, hcs, hps, hds, hes, hls⟩ := id h
  subst hd
  by_cases h_d : gIx (mN M 11) i
  · obtain ⟨d, hd, rfl⟩ := gIx_of h_d (by have := l2.2.2.1; omega)
    obtain ⟨k1, ⟨kc, kc1, kc2, kc3⟩, ⟨k2, k3, k4⟩, ⟨k5, k6, k7, k8, kpr⟩, kl, ⟨t1, t2, t3⟩, ⟨v1, v2, v3⟩, ⟨w1, w2, w3⟩⟩ := hds d hd
    have hNc := l0.2.2.1
    obtain rfl : kc = mC M d := by rw [mC, kc2, nI_clamp (by omega)]
    first | refine g_aload_n G dX7_least_0 rfl ?_ | refine g_aload_nN G dX7_least_0 rfl ?_ | refine g_aload_nQ G dX7_least_0 rfl ?_
    refine g_iload_n G dX7_least_1 rfl ?_
    refine g_callVp (ci := 8) G (c_documentAt _ S x ad M h d hd) mt_X7_documentAt mi_X7_documentAt ml_X7_104 (by assumption) (by first | decide | omega) rfl (by decide) (by omega) (by omega) rfl (Nat.le_of_ble_eq_true rfl) dX7_least_2 ?_
    first | refine g_astore G dX7_least_5 (gSt_4 (by first | rfl | exact g_c1_rf)) ?_ | refine g_astoreN G dX7_least_5 (gSt_4 (by first | rfl | exact g_c1_rf)) ?_ | refine g_astoreQ G dX7_least_5 (gSt_4 (by first | rfl | exact g_c1_rf)) ?_
    first | refine g_aload G dX7_least_7 rfl ?_ | refine g_aloadN G dX7_least_7 rfl ?_ | refine g_aloadQ G dX7_least_7 rfl ?_
    refine g_ifnonnull (tgt := 22) G dX7_least_9 (by decide) ?_
    first | refine g_aload G dX7_least_22 rfl ?_ | refine g_aloadN G dX7_least_22 rfl ?_ | refine g_aloadQ G dX7_least_22 rfl ?_
    refine g_iload_n G dX7_least_24 rfl ?_
    refine g_iload_n G dX7_least_25 rfl ?_
    refine g_callVp (ci := 2) G (c_X1_hasRange _ S ad M d (hds d hd) f g) mt_X1_hasRange mi_X1_hasRange ml_X7_110 (by assumption) (by first | decide | omega) rfl (by decide) (by omega) (by omega) rfl (Nat.le_of_ble_eq_true rfl) dX7_least_26 ?_
    refine g_if_ne (tgt := 42) G dX7_least_29 (by decide) (fun c_29 => ?_) (fun c_29 => ?_)
    · have hr : 0 ≤ f ∧ f ≤ g ∧ g ≤ nI (mN M (100 + d)) := of_decide_eq_true (gB_ne0.mp c_29)
      obtain ⟨b, hb, rfl⟩ := gWt_of (k := mN M (100 + d)) ⟨Int32.le_trans hr.1 hr.2.1, hr.2.2⟩ (by omega)
      obtain ⟨a, ha, rfl⟩ := gWt_of (k := b) ⟨hr.1, hr.2.1⟩ (by omega)
      obtain ⟨s, hs, es⟩ := gWt_of (k := 9) (hS _ kc1) (by omega)
      obtain ⟨g1, g2, g3⟩ := id (hcs (mC M d) kc1)
      rw [es] at g3
      first | refine g_aload G dX7_least_42 rfl ?_ | refine g_aloadN G dX7_least_42 rfl ?_ | refine g_aloadQ G dX7_least_42 rfl ?_
      first | refine g_getR G fl_X7_181 (by assumption) (by first | decide | omega) rfl (by assumption) dX7_least_44 ?_ | refine g_getZ G fl_X7_181 (by assumption) (by first | decide | omega) rfl (by assumption) dX7_least_44 ?_ | refine g_getQ G fl_X7_181 (by assumption) (by first | decide | omega) rfl (by first | assumption | rfl) dX7_least_44 ?_
      refine g_getI G fl_X7_139 (by assumption) (by first | decide | omega) rfl (by first | assumption | rfl) dX7_least_47 ?_
      refine g_istore G dX7_least_50 (gSt_5 (by first | rfl | exact g_c1_rf)) ?_
      have inner52 : ∀ f2 t : Nat, t ≤ 9 → 9 + 1 ≤ t + f2 → (s ≤ t ∧ ∀ k, s ≤ k → k < t → ¬ gcn (gHidR M d (nI k)) a (b - a) = 0) → gW Γ 52 [some (.ref x), some (.int (nI d)), some (.int (nI a)), some (.int (nI b)), some (.ref (ad 2 d)), some (.int (nI (t)))] [] S 0 0 := by
        intro f2
        induction f2 with
        | zero => intro t q1 q2; omega
        | succ f2 ih2 =>
          intro t ht2 hf2  hv2
          refine g_iload G dX7_least_52 rfl ?_
          refine g_bipush (v := nI 9) G dX7_least_54 (by decide) ?_
          refine g_icmp_ge (tgt := 80) G dX7_least_56 (by decide) (fun c_56 => ?_) (fun c_56 => ?_)
          · have et : t = 9 := by have := (nI_leI (by omega) (by omega)).mp c_56; omega
            subst et
            refine g_bipush (v := nI 9) G dX7_least_80 (by decide) ?_
            exact g_iret G F (⟨d, a, b, 9, hd, rfl, ha, hb, rfl, rfl, rfl, ⟨s, es, hs, Nat.le_refl 9, Or.inl rfl, hv2.2⟩, rfl⟩) (by omega) (by omega) dX7_least_82
          · have hlt2 : t < 9 := by have z : ¬ 9 ≤ t := fun z => c_56 ((nI_leI (by omega) (by omega)).mpr z); omega
            first | refine g_aload G dX7_least_59 rfl ?_ | refine g_aloadN G dX7_least_59 rfl ?_ | refine g_aloadQ G dX7_least_59 rfl ?_
            refine g_iload_n G dX7_least_61 rfl ?_
            refine g_iload_n G dX7_least_62 rfl ?_
            refine g_iload G dX7_least_63 rfl ?_
            refine g_callVp (ci := 2) G (c_X1_countHidden _ S ad M d (hds d hd) a b ha hb (nI t)) mt_X1_countHidden mi_X1_countHidden ml_X7_216 (by assumption) (by first | decide | omega) rfl (by decide) (by omega) (by omega) rfl (Nat.le_of_ble_eq_true rfl) dX7_least_65 ?_
            refine g_if_ne (tgt := 74) G dX7_least_68 (by decide) (fun c_68 => ?_) (fun c_68 => ?_)
            · have e9 : ¬ gcn (gHidR M d (nI t)) a (b - a) = 0 := fun z => c_68 (show nI (gcn (gHidR M d (nI t)) a (b - a)) = 0 by rw [z]; rfl)
              refine g_iinc (v := _) G dX7_least_74 rfl (by first | exact nI_1 _ | rfl) (gSt_5 (by first | rfl | exact g_c1_rf)) ?_
              refine g_goto (tgt := 52) G dX7_least_77 (by decide) ?_
              exact ih2 (t + 1) (by omega) (by omega) ⟨by omega, fun k hk1 hk2 => (Nat.lt_or_ge k t).elim (hv2.2 k hk1) (fun z => by rw [show k = t by omega]; exact e9)⟩
            · have e9 : gcn (gHidR M d (nI t)) a (b - a) = 0 := (nI_eq (b := 0) (by have := gct_le (fun k => gHidR M d (nI t) (a + k)) (b - a); unfold gcn; omega) (by omega)).mp c_68
              refine g_iload G dX7_least_71 rfl ?_
              exact g_iret G F (⟨d, a, b, t, hd, rfl, ha, hb, rfl, rfl, rfl, ⟨s, es, hv2.1, by omega, Or.inr e9, hv2.2⟩, rfl⟩) (by omega) (by omega) dX7_least_73
      exact inner52 (9 + 1) s (by omega) (by omega) ⟨Nat.le_refl s, fun k hk1 hk2 => by omega⟩
    · have hr : ¬ (0 ≤ f ∧ f ≤ g ∧ g ≤ nI (mN M (100 + d))) := of_decide_eq_false (gB_eq0.mp c_29)
      exact g_throw (names := nm_IAE) G F tf_IAE cl_X7_66 ti_IAE st_X7_214 ta_IAE dX7_least_32 (by exact dX7_least_35) (by exact dX7_least_36) (by exact dX7_least_38) (by exact dX7_least_41) (by decide) (Nat.le_of_ble_eq_true rfl) (by omega) (by omega) (⟨rfl, Or.inr ⟨rfl, d, hd, rfl, hr⟩⟩)
  · have hno : ¬ (gIx (mN M 11) i) := fun z => h_d (z)
    first | refine g_aload_n G dX7_least_0 rfl ?_ | refine g_aload_nN G dX7_least_0 rfl ?_ | refine g_aload_nQ G dX7_least_0 rfl ?_
    refine g_iload_n G dX7_least_1 rfl ?_
    refine g_callVp (ci := 8) G (c_documentAt_no _ S x ad M h i (gIx_no h_d)) mt_X7_documentAt mi_X7_documentAt ml_X7_104 (by assumption) (by first | decide | omega) rfl (by decide) (by omega) (by omega) rfl (Nat.le_of_ble_eq_true rfl) dX7_least_2 ?_
    first | refine g_astore G dX7_least_5 (gSt_4 (by first | rfl | exact g_c1_rf)) ?_ | refine g_astoreN G dX7_least_5 (gSt_4 (by first | rfl | exact g_c1_rf)) ?_ | refine g_astoreQ G dX7_least_5 (gSt_4 (by first | rfl | exact g_c1_rf)) ?_
    first | refine g_aload G dX7_least_7 rfl ?_ | refine g_aloadN G dX7_least_7 rfl ?_ | refine g_aloadQ G dX7_least_7 rfl ?_
    refine g_ifnonnullN G dX7_least_9 ?_
    exact g_throw (names := nm_IOE) G F tf_IOE cl_X7_75 ti_IOE st_X7_108 ta_IOE dX7_least_12 (by exact dX7_least_15) (by exact dX7_least_16) (by exact dX7_least_18) (by exact dX7_least_21) (by decide) (Nat.le_of_ble_eq_true rfl) (by omega) (by omega) (⟨rfl, Or.inl ⟨rfl, hno⟩⟩)
