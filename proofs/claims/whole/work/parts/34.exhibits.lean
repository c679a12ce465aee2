/-! ===== exhibits and letters ===== -/
def mE (M : gM) (e : Nat) : Nat := (mA M 18 e).toNatClampNeg
def mLink (M : gM) (e : Nat) (day fr t w : Int32) : gM := uA (uN (uR M 22 (fun j => if j = 4 * (12 * e + mN M (200 + e)) then day else if j = 4 * (12 * e + mN M (200 + e)) + 1 then fr else if j = 4 * (12 * e + mN M (200 + e)) + 2 then t else if j = 4 * (12 * e + mN M (200 + e)) + 3 then w else mA M 22 j)) (200 + e) (mN M (200 + e) + 1)) 19 e t
def mTake (M : gM) (c : Nat) : gM := uN (uA (uA (uA M 18 (mN M 17) (nI c)) 19 (mN M 17) (-1)) 20 (mN M 17) (nI (1000 + mN M 17))) 17 (mN M 17 + 1)
def mSend (M : gM) (d p : Nat) (due : Int32) : gM := uN (uA (uA (uA (uA M 24 (mN M 23) (nI d)) 25 (mN M 23) (nI p)) 26 (mN M 23) due) 47 (mN M 23) (-1)) 23 (mN M 23 + 1)
def gHandOk (M : gM) (e : Nat) (t : Int32) : Prop := ¬ mA M 19 e = -2 ∧ ¬ mA M 19 e = t ∧ mN M (200 + e) < 12 ∧ ∀ p, p < mN M 8 → t = nI p → mA M 7 (mE M e) ≤ gReachOf M p (mE M e)
theorem gMail_exh {d0 : Nat × Nat} {S S3 : gS} {x : Nat} {ad adn : Nat → Nat → Nat} {M M9 : gM} {e : Nat} (ha : ∀ g j, g ≠ 20 + e → adn g j = ad g j) (mn : ∀ j, j ≠ 200 + e → mN M9 j = mN M j) (ma : ∀ f j, f ≠ 22 → ((f ≠ 19 ∧ f ≠ 20) ∨ j ≠ e) → mA M9 f j = mA M f j) (m22 : ∀ j, j < 48 * e ∨ 48 * e + 48 ≤ j → mA M9 22 j = mA M 22 j) (mt : mT M9 = mT M) (hq : e < mN M 17 → gExh d0 S3 adn M9 e) (h : gMail d0 S x ad M) (he : e ≤ 60) (F : gFr (fun k => k ≠ 5 + 32 * e ∧ k ≠ 1 + 32 * (10 + e) ∧ k ≠ 19 + 32 * (10 + e) ∧ (k % 32 = 7 → k / 32 < 12 * e ∨ 12 * e + 12 ≤ k / 32)) S S3) : gTo d0 x S S3 M9 := by
  obtain ⟨hr, ⟨l0, l1, l2, l3, l4⟩, ht, hcs, hps, hds, hes, hls⟩ := id h
  have hN := l1.2.2.1
  have hN3 := l3.2.2.1
  have mf : ∀ f, f ≠ 22 → f ≠ 19 → f ≠ 20 → mA M9 f = mA M f := fun f a b c => funext fun j => ma f j a (Or.inl ⟨b, c⟩)
  have a0 : ∀ g, g < 20 → adn g = ad g := fun g hg => funext fun j => ha g j (by omega)
  have n6 := mn 6 (by omega)
  have n8 := mn 8 (by omega)
  have n11 := mn 11 (by omega)
  have n17 := mn 17 (by omega)
  have n23 := mn 23 (by omega)
  refine ⟨adn, ⟨gRoot_mono hr F (by first | omega | (dsimp only; omega)) (a0 5 (by omega)) (a0 6 (by omega)) (mn 2 (by omega)) (mn 5 (by omega)) (ma 3 0 (by omega) (Or.inl (by omega))) (mn 40 (by omega)), ⟨?_, ?_, ?_, ?_, ?_⟩, gTape_mono ht F (by first | omega | (dsimp only; omega)) (by first | omega | (dsimp only; omega)) (a0 6 (by omega)) (mn 2 (by omega)) (mn 5 (by omega)) (mf 1 (by omega) (by omega) (by omega)) (mf 4 (by omega) (by omega) (by omega)), ?_, ?_, ?_, ?_, ?_⟩, F.mono (fun k (z : gMk k) => by unfold gMk at z; first | omega | (dsimp only; omega))⟩
  · rw [n6, a0 5 (by omega), a0 0 (by omega)]; exact gLst_mono l0 F (by first | omega | (dsimp only; omega)) (by first | omega | (dsimp only; omega)) (fun _ _ => rfl)
  · rw [n8, a0 5 (by omega), a0 1 (by omega)]; exact gLst_mono l1 F (by first | omega | (dsimp only; omega)) (by first | omega | (dsimp only; omega)) (fun _ _ => rfl)
  · rw [n11, a0 5 (by omega), a0 2 (by omega)]; exact gLst_mono l2 F (by first | omega | (dsimp only; omega)) (by first | omega | (dsimp only; omega)) (fun _ _ => rfl)
  · rw [n17, a0 5 (by omega), a0 3 (by omega)]; exact gLst_mono l3 F (by first | omega | (dsimp only; omega)) (by first | omega | (dsimp only; omega)) (fun _ _ => rfl)
  · rw [n23, a0 5 (by omega), a0 4 (by omega)]; exact gLst_mono l4 F (by first | omega | (dsimp only; omega)) (by first | omega | (dsimp only; omega)) (fun _ _ => rfl)
  · rw [n6, a0 0 (by omega), mf 7 (by omega) (by omega) (by omega)]; exact fun i hi => gCase_mono (hcs i hi) F (by first | omega | (dsimp only; omega))
  · rw [n8, a0 1 (by omega), mf 9 (by omega) (by omega) (by omega), mf 41 (by omega) (by omega) (by omega), mf 10 (by omega) (by omega) (by omega), mf 42 (by omega) (by omega) (by omega)]; exact fun i hi => gPers_mono (hps i hi) F (by first | omega | (dsimp only; omega))
  · rw [n11]; exact fun d hd => gDoc_mono (hds d hd) F (by first | omega | (dsimp only; omega)) (by first | omega | (dsimp only; omega)) (by first | omega | (dsimp only; omega)) (by first | omega | (dsimp only; omega)) hN (congrFun (a0 2 (by omega)) d) (congrFun (a0 7 (by omega)) d) (congrFun (a0 8 (by omega)) d) (congrFun (a0 9 (by omega)) d) (fun c _ => congrFun (a0 0 (by omega)) c) (fun c _ => congrFun (a0 1 (by omega)) c) (Nat.le_of_eq n6.symm) (Nat.le_of_eq n8.symm) (ma 12 d (by omega) (Or.inl (by omega))) (ma 16 d (by omega) (Or.inl (by omega))) (ma 43 d (by omega) (Or.inl (by omega))) (ma 44 d (by omega) (Or.inl (by omega))) (ma 45 d (by omega) (Or.inl (by omega))) (mn _ (by have := l2.2.2.1; omega)) (congrFun (congrFun mt 13) d) (congrFun (congrFun mt 14) d) (congrFun (congrFun mt 15) d)
  · rw [n17]
    intro e' he'
    by_cases z : e' = e
    · subst z; exact hq he'
    · exact gExh_mono (hes e' he') F (by first | omega | (dsimp only; omega)) (by first | omega | (dsimp only; omega)) (by first | omega | (dsimp only; omega)) (fun k hk => by first | omega | (dsimp only; omega)) hN (congrFun (a0 3 (by omega)) e') (congrFun (a0 10 (by omega)) e') (fun k => ha _ k (by omega)) (fun c _ => congrFun (a0 0 (by omega)) c) (fun c _ => congrFun (a0 1 (by omega)) c) (Nat.le_of_eq n6.symm) (Nat.le_of_eq n8.symm) (ma 18 e' (by omega) (Or.inr z)) (ma 19 e' (by omega) (Or.inr z)) (ma 20 e' (by omega) (Or.inr z)) (mn _ (by omega)) (fun w hw => m22 _ (by omega))
  · rw [n23]; exact fun k hk => gLtr_mono (hls k hk) F (by first | omega | (dsimp only; omega)) (congrFun (a0 4 (by omega)) k) (fun c _ => congrFun (a0 2 (by omega)) c) (fun c _ => congrFun (a0 1 (by omega)) c) (Nat.le_of_eq n11.symm) (Nat.le_of_eq n8.symm) (ma 24 k (by omega) (Or.inl (by omega))) (ma 25 k (by omega) (Or.inl (by omega))) (ma 26 k (by omega) (Or.inl (by omega))) (ma 46 k (by omega) (Or.inl (by omega))) (ma 47 k (by omega) (Or.inl (by omega)))
theorem gExh_link {d0 : Nat × Nat} {S S3 : gS} {ad : Nat → Nat → Nat} {M M9 : gM} {e q : Nat} {K : Nat → Prop} {t day fr w num : Int32} (h : gExh d0 S ad M e) (hN : mN M 8 ≤ 60) (hk : mN M (200 + e) < 12) (F : gFr K S S3) (hK : ∀ i, i < mN M (200 + e) → K (7 + 32 * (12 * e + i)))
    (y0 : gX S3 (5 + 32 * e) 0 (ad 3 e) = nI e) (y1 : gY S3 (5 + 32 * e) 1 (ad 3 e) = gY S (5 + 32 * e) 1 (ad 3 e)) (y2 : gY S3 (5 + 32 * e) 2 (ad 3 e) = gRf ad t) (y3 : gX S3 (5 + 32 * e) 3 (ad 3 e) = gB (decide (t = -2))) (y4 : gX S3 (5 + 32 * e) 4 (ad 3 e) = num) (y5 : gY S3 (5 + 32 * e) 5 (ad 3 e) = some (ad 10 e))
    (hl : gLst d0 S3 (ad 10 e) (10 + e) (mN M (200 + e) + 1) (fun i => if i = mN M (200 + e) then q else ad (20 + e) i)) (z0 : gK S3 q = 7 + 32 * (12 * e + mN M (200 + e))) (z1 : gX S3 (7 + 32 * (12 * e + mN M (200 + e))) 0 q = day) (z2 : gY S3 (7 + 32 * (12 * e + mN M (200 + e))) 1 q = gRf ad fr) (z3 : gY S3 (7 + 32 * (12 * e + mN M (200 + e))) 2 q = gRf ad t) (z4 : gX S3 (7 + 32 * (12 * e + mN M (200 + e))) 3 q = w)
    (pf : gPr M fr) (pt : gPr M t) (n8 : mN M9 8 = mN M 8) (n6 : mN M9 6 = mN M 6) (nk : mN M9 (200 + e) = mN M (200 + e) + 1) (m18 : mA M9 18 e = mA M 18 e) (m19 : mA M9 19 e = t) (m20 : mA M9 20 e = num) (m22 : mA M9 22 = fun j => if j = 4 * (12 * e + mN M (200 + e)) then day else if j = 4 * (12 * e + mN M (200 + e)) + 1 then fr else if j = 4 * (12 * e + mN M (200 + e)) + 2 then t else if j = 4 * (12 * e + mN M (200 + e)) + 3 then w else mA M 22 j) : gExh d0 S3 (uad ad (20 + e) (mN M (200 + e)) q) M9 e := by
  obtain ⟨h1, h2, ⟨c, hc1, hc2, hc3⟩, ⟨p1, p2, p3, p4, p5⟩, pl, w1, w2⟩ := h
  have ha : ∀ g j, g < 20 → uad ad (20 + e) (mN M (200 + e)) q g j = ad g j := fun g j hg => uad_f (by omega)
  have hrf : ∀ v, gRf (uad ad (20 + e) (mN M (200 + e)) q) v = gRf ad v := fun v => by
    unfold gRf
    rw [ha 1 _ (by omega)]
  have hpr : ∀ v, gPr M v → gPr M9 v := fun v hv => by unfold gPr; rw [n8]; exact hv
  unfold gExh
  rw [ha 3 e (by omega), ha 10 e (by omega), m18, m19, m20, nk, hrf, n6]
  refine ⟨F.K h1 (by omega), y0, ⟨c, hc1, hc2, by rw [ha 0 c (by omega), y1]; exact hc3⟩, ⟨y2, y3, y4, y5, (hpr _ pt).imp id Or.inr⟩, by omega, ?_, fun k hk9 => ?_⟩
  · rw [uad_row]; exact hl
  · unfold gLnk
    rw [m22, hrf, hrf]
    by_cases z : k = mN M (200 + e)
    · subst z
      rw [uad_s]
      simp only [if_true, if_neg (show ¬ 4 * (12 * e + mN M (200 + e)) + 1 = 4 * (12 * e + mN M (200 + e)) by omega), if_neg (show ¬ 4 * (12 * e + mN M (200 + e)) + 2 = 4 * (12 * e + mN M (200 + e)) by omega), if_neg (show ¬ 4 * (12 * e + mN M (200 + e)) + 2 = 4 * (12 * e + mN M (200 + e)) + 1 by omega), if_neg (show ¬ 4 * (12 * e + mN M (200 + e)) + 3 = 4 * (12 * e + mN M (200 + e)) by omega), if_neg (show ¬ 4 * (12 * e + mN M (200 + e)) + 3 = 4 * (12 * e + mN M (200 + e)) + 1 by omega), if_neg (show ¬ 4 * (12 * e + mN M (200 + e)) + 3 = 4 * (12 * e + mN M (200 + e)) + 2 by omega)]
      exact ⟨z0, z1, z2, z3, z4, hpr _ pf, hpr _ pt⟩
    · rw [uad_i z]
      have z9 : ∀ i, i < 4 → (if 4 * (12 * e + k) + i = 4 * (12 * e + mN M (200 + e)) then day else if 4 * (12 * e + k) + i = 4 * (12 * e + mN M (200 + e)) + 1 then fr else if 4 * (12 * e + k) + i = 4 * (12 * e + mN M (200 + e)) + 2 then t else if 4 * (12 * e + k) + i = 4 * (12 * e + mN M (200 + e)) + 3 then w else mA M 22 (4 * (12 * e + k) + i)) = mA M 22 (4 * (12 * e + k) + i) := fun i hi => by
        rw [if_neg (by omega), if_neg (by omega), if_neg (by omega), if_neg (by omega)]
      have z90 := z9 0 (by omega)
      rw [Nat.add_zero] at z90
      dsimp only
      rw [z90, z9 1 (by omega), z9 2 (by omega), z9 3 (by omega)]
      obtain ⟨n1, n2, n3, n4, n5, n6, n7⟩ := w2 k (by omega)
      have kk := hK k (by omega)
      exact ⟨F.K n1 (by omega), F.X kk n2, F.Y kk n3, F.Y kk n4, F.X kk n5, hpr _ n6, hpr _ n7⟩

theorem gExh_lose {d0 : Nat × Nat} {S : gS} {ad : Nat → Nat → Nat} {M : gM} {e : Nat} (h : gExh d0 S ad M e) : gExh d0 (sY (sX S (5 + 32 * e) 3 (ad 3 e) (nI 1)) (5 + 32 * e) 2 (ad 3 e) none) ad (uA M 19 e (-2)) e := by
  obtain ⟨h1, h2, ⟨c, hc1, hc2, hc3⟩, ⟨p1, p2, p3, p4, p5⟩, pl, w1, w2⟩ := h
  have F : gFr (fun k => k ≠ 5 + 32 * e) S (sY (sX S (5 + 32 * e) 3 (ad 3 e) (nI 1)) (5 + 32 * e) 2 (ad 3 e) none) := ((gFr.rf S).X1 _ _ _ (fun _ z => z)).Y1 _ _ _ (fun _ z => z)
  have e19 : mA (uA M 19 e (-2)) 19 e = -2 := uA_s
  refine ⟨h1, sX_p (by decide) h2, ⟨c, hc1, hc2, (u3_p _ _ (by decide)).trans hc3⟩, ⟨?_, ?_, sX_p (by decide) p3, (u3_p _ _ (by decide)).trans p4, ?_⟩, pl, gLst_mono w1 F (by first | omega | (dsimp only; omega)) (by first | omega | (dsimp only; omega)) (fun _ _ => rfl), fun k hk => ?_⟩
  · rw [e19, gRf_2]; exact u3_same _ _ _ _ _
  · rw [e19]; exact sX_s
  · rw [e19]; exact Or.inr (Or.inl rfl)
  · obtain ⟨n1, n2, n3, n4, n5, n6, n7⟩ := w2 k hk
    exact ⟨n1, F.X (by first | omega | (dsimp only; omega)) n2, F.Y (by first | omega | (dsimp only; omega)) n3, F.Y (by first | omega | (dsimp only; omega)) n4, F.X (by first | omega | (dsimp only; omega)) n5, n6, n7⟩

set_option maxHeartbeats 4000000 in
set_option maxRecDepth 100000 in
theorem c_X3_addLink (d0 : Nat × Nat) (S : gS) (E e A L N : Nat) (el : Nat → Nat) (h1 : gK S E = 5 + 32 * e) (h5 : gY S (5 + 32 * e) 5 E = some A) (hl : gLst d0 S A (10 + e) N el) (hN : N ≤ 59) (hL : gK S L % 32 = 7) (hels : ∀ i, i < N → gK S (el i) % 32 = 7) : gCt d0 yX3_addLink cX3_addLink 2 none 7 1 100 [.ref E, .ref L] S (fun v' S' => v' = none ∧ gLst d0 S' A (10 + e) (N + 1) (fun i => if i = N then L else el i) ∧ gFrL S S' (10 + e)) gNo := by
  refine gCt_of (lo := [some (.ref E), some (.ref L)]) (by decide +kernel) (Nat.le_of_ble_eq_true rfl) (rfl) ?_
  intro Γ hd G F hini
  subst hd
  first | refine g_aload_n G dX3_addLink_0 rfl ?_ | refine g_aload_nN G dX3_addLink_0 rfl ?_ | refine g_aload_nQ G dX3_addLink_0 rfl ?_
  first | refine g_getR G fl_X3_22 (by assumption) (by first | decide | omega) rfl (by assumption) dX3_addLink_1 ?_ | refine g_getZ G fl_X3_22 (by assumption) (by first | decide | omega) rfl (by assumption) dX3_addLink_1 ?_ | refine g_getQ G fl_X3_22 (by assumption) (by first | decide | omega) rfl (by first | assumption | rfl) dX3_addLink_1 ?_
  first | refine g_aload_n G dX3_addLink_4 rfl ?_ | refine g_aload_nN G dX3_addLink_4 rfl ?_ | refine g_aload_nQ G dX3_addLink_4 rfl ?_
  refine g_callV (ci := 0) G (c_add _ S A (10 + e) L N el hl hN 6 RX5 hL hels (by decide) rfl kco_6) mt_Jx4a65c_add_9ea2d mi_Jx4a65c_add_9ea2d ml_X3_41 (hl.1) (by first | decide | omega) rfl (by decide) (by omega) (by omega) rfl (Nat.le_of_ble_eq_true rfl) dX3_addLink_5 (fun v_5 S_5 hp_5 => ?_)
  obtain ⟨rfl, h2, FL⟩ := hp_5
  simp only [Option.toList, List.cons_append, List.nil_append]
  refine g_pop G dX3_addLink_8 rfl ?_
  exact g_vret G F (⟨rfl, h2, FL⟩) (by omega) (by omega) dX3_addLink_9

set_option maxHeartbeats 4000000 in
set_option maxRecDepth 100000 in
theorem c_X7_lose (d0 : Nat × Nat) (S : gS) (x : Nat) (ad : Nat → Nat → Nat) (M : gM) (h : gMail d0 S x ad M) (i : Int32) : gCt d0 yX7_lose cX7_lose 4 (some .int) 10 1 6 [.ref x, .int i] S (fun v' S' => ∃ e, e < mN M 17 ∧ i = nI e ∧ ¬ mA M 19 e = -2 ∧ v' = some (.int (mA M 19 e)) ∧ gTo d0 x S S' (uA M 19 e (-2))) (fun E S' => S' = S ∧ ((E = "java/lang/IndexOutOfBoundsException" ∧ ¬ gIx (mN M 17) i) ∨ (E = "java/lang/IllegalStateException" ∧ ∃ e, e < mN M 17 ∧ i = nI e ∧ mA M 19 e = -2))) := by
  refine gCt_of (lo := [some (.ref x), some (.int i), none, none]) (by decide +kernel) (Nat.le_of_ble_eq_true rfl) (rfl) ?_
  intro Γ hd G F hini
  obtain ⟨⟨r1, ⟨ra, rb, rc, rd, re⟩, rt, rtl, rp, rpl, rdr, rep, rday⟩, ⟨l0, l1, l2, l3, l4⟩, ht, hcs, hps, hds, hes, hls⟩ := id h
  subst hd
  by_cases h_e : gIx (mN M 17) i
  · obtain ⟨e, he, rfl⟩ := gIx_of h_e (by have := l3.2.2.1; omega)
    obtain ⟨k1, k2, ⟨kc, kc1, kc2, kc3⟩, ⟨k4, k5, k6, k7, kw⟩, k8, k9, k10⟩ := hes e he
    have hN1 := l1.2.2.1
    have hN3 := l3.2.2.1
    first | refine g_aload_n G dX7_lose_0 rfl ?_ | refine g_aload_nN G dX7_lose_0 rfl ?_ | refine g_aload_nQ G dX7_lose_0 rfl ?_
    refine g_iload_n G dX7_lose_1 rfl ?_
    refine g_callVp (ci := 8) G (c_exhibitAt _ S x ad M h e he) mt_X7_exhibitAt mi_X7_exhibitAt ml_X7_246 (by assumption) (by first | decide | omega) rfl (by decide) (by omega) (by omega) rfl (Nat.le_of_ble_eq_true rfl) dX7_lose_2 ?_
    first | refine g_astore_n G dX7_lose_5 (gSt_2 (by first | rfl | exact g_c1_rf)) ?_ | refine g_astore_nN G dX7_lose_5 (gSt_2 (by first | rfl | exact g_c1_rf)) ?_ | refine g_astore_nQ G dX7_lose_5 (gSt_2 (by first | rfl | exact g_c1_rf)) ?_
    first | refine g_aload_n G dX7_lose_6 rfl ?_ | refine g_aload_nN G dX7_lose_6 rfl ?_ | refine g_aload_nQ G dX7_lose_6 rfl ?_
    refine g_ifnonnull (tgt := 21) G dX7_lose_7 (by decide) ?_
    first | refine g_aload_n G dX7_lose_21 rfl ?_ | refine g_aload_nN G dX7_lose_21 rfl ?_ | refine g_aload_nQ G dX7_lose_21 rfl ?_
    refine g_getI G fl_X7_252 (by assumption) (by first | decide | omega) rfl (by first | assumption | rfl) dX7_lose_22 ?_
    refine g_if_eq (tgt := 39) G dX7_lose_25 (by decide) (fun c_25 => ?_) (fun c_25 => ?_)
    · have e0 : ¬ mA M 19 e = -2 := of_decide_eq_false (gB_eq0.mp c_25)
      have kw2 : gPr M (mA M 19 e) := kw.elim Or.inl (fun z => z.elim (fun y => absurd y e0) Or.inr)
      first | refine g_aload_n G dX7_lose_39 rfl ?_ | refine g_aload_nN G dX7_lose_39 rfl ?_ | refine g_aload_nQ G dX7_lose_39 rfl ?_
      first | refine g_getR G fl_X7_256 (by assumption) (by first | decide | omega) rfl (by assumption) dX7_lose_40 ?_ | refine g_getZ G fl_X7_256 (by assumption) (by first | decide | omega) rfl (by assumption) dX7_lose_40 ?_ | refine g_getQ G fl_X7_256 (by assumption) (by first | decide | omega) rfl (by first | assumption | rfl) dX7_lose_40 ?_
      refine g_callSp G (c_numberOf _ S x ad M h _ kw2) mt_X7_numberOf ms_X7_numberOf ml_X7_232 (by decide) (by omega) (by omega) rfl (Nat.le_of_ble_eq_true rfl) dX7_lose_43 ?_
      refine g_istore_n G dX7_lose_46 (gSt_3 (by first | rfl | exact g_c1_rf)) ?_
      first | refine g_aload_n G dX7_lose_47 rfl ?_ | refine g_aload_nN G dX7_lose_47 rfl ?_ | refine g_aload_nQ G dX7_lose_47 rfl ?_
      refine g_iconst (v := nI 1) G dX7_lose_48 (by decide) ?_
      refine g_putB G fl_X7_252 pu_4_3 (by first | exact Or.inl rfl | exact Or.inr rfl | assumption) (by assumption) (by first | decide | omega) rfl dX7_lose_49 ?_
      first | refine g_aload_n G dX7_lose_52 rfl ?_ | refine g_aload_nN G dX7_lose_52 rfl ?_ | refine g_aload_nQ G dX7_lose_52 rfl ?_
      refine g_null G dX7_lose_53 ?_
      refine g_putQ (v := none) G fl_X7_256 pu_4_2 k1 (by omega) rfl dX7_lose_54 ?_
      refine g_iload_n G dX7_lose_57 rfl ?_
      exact g_iret G F (⟨e, he, rfl, e0, rfl, gMail_exh (S := S) (S3 := sY (sX S (5 + 32 * e) 3 (ad 3 e) (nI 1)) (5 + 32 * e) 2 (ad 3 e) none) (M := M) (M9 := uA M 19 e (-2)) (adn := ad) (e := e) (fun _ _ _ => rfl) (fun _ _ => rfl) (fun f j z1 z2 => by rcases z2 with z | z; exact uA_f (by omega); exact uA_i z) (fun j _ => uA_f (by omega)) rfl (fun _ => gExh_lose (hes e he)) h (by omega) (((gFr.rf S).X1 _ _ _ (fun _ z => z.1)).Y1 _ _ _ (fun _ z => z.1))⟩) (by omega) (by omega) dX7_lose_58
    · have e0 : mA M 19 e = -2 := of_decide_eq_true (gB_ne0.mp c_25)
      exact g_throwW (names := nm_ISE) G F tf_ISE cl_X7_55 ti_ISE st_X7_288 ta_ISE dX7_lose_28 (by exact dX7_lose_31) (by exact dX7_lose_32) (by exact dX7_lose_35) (by exact dX7_lose_38) (by decide) (Nat.le_of_ble_eq_true rfl) (by omega) (by omega) (⟨rfl, Or.inr ⟨rfl, e, he, rfl, e0⟩⟩)
  · have hno : ¬ (gIx (mN M 17) i) := fun z => h_e (z)
    first | refine g_aload_n G dX7_lose_0 rfl ?_ | refine g_aload_nN G dX7_lose_0 rfl ?_ | refine g_aload_nQ G dX7_lose_0 rfl ?_
    refine g_iload_n G dX7_lose_1 rfl ?_
    refine g_callVp (ci := 8) G (c_exhibitAt_no _ S x ad M h i (gIx_no h_e)) mt_X7_exhibitAt mi_X7_exhibitAt ml_X7_246 (by assumption) (by first | decide | omega) rfl (by decide) (by omega) (by omega) rfl (Nat.le_of_ble_eq_true rfl) dX7_lose_2 ?_
    first | refine g_astore_n G dX7_lose_5 (gSt_2 (by first | rfl | exact g_c1_rf)) ?_ | refine g_astore_nN G dX7_lose_5 (gSt_2 (by first | rfl | exact g_c1_rf)) ?_ | refine g_astore_nQ G dX7_lose_5 (gSt_2 (by first | rfl | exact g_c1_rf)) ?_
    first | refine g_aload_n G dX7_lose_6 rfl ?_ | refine g_aload_nN G dX7_lose_6 rfl ?_ | refine g_aload_nQ G dX7_lose_6 rfl ?_
    refine g_ifnonnullN G dX7_lose_7 ?_
    exact g_throwW (names := nm_IOE) G F tf_IOE cl_X7_75 ti_IOE st_X7_281 ta_IOE dX7_lose_10 (by exact dX7_lose_13) (by exact dX7_lose_14) (by exact dX7_lose_17) (by exact dX7_lose_20) (by decide) (Nat.le_of_ble_eq_true rfl) (by omega) (by omega) (⟨rfl, Or.inl ⟨rfl, hno⟩⟩)

set_option maxHeartbeats 4000000 in
set_option maxRecDepth 100000 in
theorem c_X7_hand (d0 : Nat × Nat) (S : gS) (x : Nat) (ad : Nat → Nat → Nat) (M : gM) (h : gMail d0 S x ad M) (i t : Int32) : gCt d0 yX7_hand cX7_hand 5 (some .int) 10 2 120 [.ref x, .int i, .int t] S (fun v' S' => ∃ e, e < mN M 17 ∧ i = nI e ∧ gPr M t ∧ gHandOk M e t ∧ v' = some (.int (nI (mN M (200 + e) + 1))) ∧ gTo d0 x S S' (mLink M e (nI (mN M 40)) (mA M 19 e) t (nI 0))) (fun E S' => S' = S ∧ ((E = "java/lang/IndexOutOfBoundsException" ∧ ¬ (gIx (mN M 17) i ∧ gPr M t)) ∨ (E = "java/lang/IllegalStateException" ∧ ∃ e, e < mN M 17 ∧ i = nI e ∧ gPr M t ∧ ¬ gHandOk M e t))) := by
  refine gCt_of (lo := [some (.ref x), some (.int i), some (.int t), none, none]) (by decide +kernel) (Nat.le_of_ble_eq_true rfl) (rfl) ?_
  intro Γ hd G F hini
  obtain ⟨⟨r1, ⟨ra, rb, rc, rd, re⟩, rt, rtl, rp, rpl, rdr, rep, rday⟩, ⟨l0, l1, l2, l3, l4⟩, ht, hcs, hps, hds, hes, hls⟩ := id h
  subst hd
  by_cases h_e : gIx (mN M 17) i
  · obtain ⟨e, he, rfl⟩ := gIx_of h_e (by have := l3.2.2.1; omega)
    obtain ⟨k1, k2, ⟨kc, kc1, kc2, kc3⟩, ⟨k4, k5, k6, k7, kw⟩, k8, k9, k10⟩ := hes e he
    have hN1 := l1.2.2.1
    have hN3 := l3.2.2.1
    have hNc := l0.2.2.1
    obtain ⟨g1, g2, g3⟩ := id (hcs kc kc1)
    have ee : mE M e = kc := by rw [mE, kc2, nI_clamp (by omega)]
    by_cases h_p : gIx (mN M 8) t
    · obtain ⟨p, hp, rfl⟩ := gIx_of h_p (by omega)
      obtain ⟨p1, p2, p3, p4, p5, p6⟩ := id (hps p hp)
      first | refine g_aload_n G dX7_hand_0 rfl ?_ | refine g_aload_nN G dX7_hand_0 rfl ?_ | refine g_aload_nQ G dX7_hand_0 rfl ?_
      refine g_iload_n G dX7_hand_1 rfl ?_
      refine g_callVp (ci := 8) G (c_exhibitAt _ S x ad M h e he) mt_X7_exhibitAt mi_X7_exhibitAt ml_X7_246 (by assumption) (by first | decide | omega) rfl (by decide) (by omega) (by omega) rfl (Nat.le_of_ble_eq_true rfl) dX7_hand_2 ?_
      first | refine g_astore_n G dX7_hand_5 (gSt_3 (by first | rfl | exact g_c1_rf)) ?_ | refine g_astore_nN G dX7_hand_5 (gSt_3 (by first | rfl | exact g_c1_rf)) ?_ | refine g_astore_nQ G dX7_hand_5 (gSt_3 (by first | rfl | exact g_c1_rf)) ?_
      first | refine g_aload_n G dX7_hand_6 rfl ?_ | refine g_aload_nN G dX7_hand_6 rfl ?_ | refine g_aload_nQ G dX7_hand_6 rfl ?_
      refine g_iload_n G dX7_hand_7 rfl ?_
      refine g_callVp (ci := 8) G (c_personAt _ S x ad M h p hp) mt_X7_personAt mi_X7_personAt ml_X7_151 (by assumption) (by first | decide | omega) rfl (by decide) (by omega) (by omega) rfl (Nat.le_of_ble_eq_true rfl) dX7_hand_8 ?_
      first | refine g_astore G dX7_hand_11 (gSt_4 (by first | rfl | exact g_c1_rf)) ?_ | refine g_astoreN G dX7_hand_11 (gSt_4 (by first | rfl | exact g_c1_rf)) ?_ | refine g_astoreQ G dX7_hand_11 (gSt_4 (by first | rfl | exact g_c1_rf)) ?_
      first | refine g_aload_n G dX7_hand_13 rfl ?_ | refine g_aload_nN G dX7_hand_13 rfl ?_ | refine g_aload_nQ G dX7_hand_13 rfl ?_
      refine g_ifnull G dX7_hand_14 ?_
      first | refine g_aload G dX7_hand_17 rfl ?_ | refine g_aloadN G dX7_hand_17 rfl ?_ | refine g_aloadQ G dX7_hand_17 rfl ?_
      refine g_ifnonnull (tgt := 37) G dX7_hand_19 (by decide) ?_
      first | refine g_aload_n G dX7_hand_37 rfl ?_ | refine g_aload_nN G dX7_hand_37 rfl ?_ | refine g_aload_nQ G dX7_hand_37 rfl ?_
      refine g_getI G fl_X7_252 (by assumption) (by first | decide | omega) rfl (by first | assumption | rfl) dX7_hand_38 ?_
      refine g_if_ne (tgt := 60) G dX7_hand_41 (by decide) (fun c_41 => ?_) (fun c_41 => ?_)
      · have e0 : mA M 19 e = -2 := of_decide_eq_true (gB_ne0.mp c_41)
        have hno : ¬ gHandOk M e (nI p) := fun z => z.1 e0
        exact g_throwW (names := nm_ISE) G F tf_ISE cl_X7_55 ti_ISE st_X7_261 ta_ISE dX7_hand_60 (by exact dX7_hand_63) (by exact dX7_hand_64) (by exact dX7_hand_67) (by exact dX7_hand_70) (by decide) (Nat.le_of_ble_eq_true rfl) (by omega) (by omega) (⟨rfl, Or.inr ⟨rfl, e, he, rfl, (Or.inr ⟨p, hp, rfl⟩), hno⟩⟩)
      · have e0 : ¬ mA M 19 e = -2 := of_decide_eq_false (gB_eq0.mp c_41)
        have kw2 : gPr M (mA M 19 e) := kw.elim Or.inl (fun z => z.elim (fun y => absurd y e0) Or.inr)
        first | refine g_aload_n G dX7_hand_44 rfl ?_ | refine g_aload_nN G dX7_hand_44 rfl ?_ | refine g_aload_nQ G dX7_hand_44 rfl ?_
        first | refine g_getR G fl_X7_256 (by assumption) (by first | decide | omega) rfl (by assumption) dX7_hand_45 ?_ | refine g_getZ G fl_X7_256 (by assumption) (by first | decide | omega) rfl (by assumption) dX7_hand_45 ?_ | refine g_getQ G fl_X7_256 (by assumption) (by first | decide | omega) rfl (by first | assumption | rfl) dX7_hand_45 ?_
        first | refine g_aload G dX7_hand_48 rfl ?_ | refine g_aloadN G dX7_hand_48 rfl ?_ | refine g_aloadQ G dX7_hand_48 rfl ?_
        refine g_acmp_eq (rx := gRf ad (mA M 19 e)) (ry := some (ad 1 p)) (tgt := 60) G dX7_hand_50 (by decide) (fun c_50 => ?_) (fun c_50 => ?_)
        · have hno : ¬ gHandOk M e (nI p) := fun z => z.2.1 ((gRf_some h (gWho_or kw) hp).mp c_50)
          exact g_throwW (names := nm_ISE) G F tf_ISE cl_X7_55 ti_ISE st_X7_261 ta_ISE dX7_hand_60 (by exact dX7_hand_63) (by exact dX7_hand_64) (by exact dX7_hand_67) (by exact dX7_hand_70) (by decide) (Nat.le_of_ble_eq_true rfl) (by omega) (by omega) (⟨rfl, Or.inr ⟨rfl, e, he, rfl, (Or.inr ⟨p, hp, rfl⟩), hno⟩⟩)
        · have e1 : ¬ mA M 19 e = (nI p) := fun z => c_50 ((gRf_some h (gWho_or kw) hp).mpr z)
          first | refine g_aload_n G dX7_hand_53 rfl ?_ | refine g_aload_nN G dX7_hand_53 rfl ?_ | refine g_aload_nQ G dX7_hand_53 rfl ?_
          refine g_callVp (ci := 4) G (c_X3_hasFullChain _ S x ad M h e he) mt_X3_hasFullChain mi_X3_hasFullChain ml_X7_257 (by assumption) (by first | decide | omega) rfl (by decide) (by omega) (by omega) rfl (Nat.le_of_ble_eq_true rfl) dX7_hand_54 ?_
          refine g_if_eq (tgt := 71) G dX7_hand_57 (by decide) (fun c_57 => ?_) (fun c_57 => ?_)
          · have hk : mN M (200 + e) < 12 := by have := of_decide_eq_false (gB_eq0.mp c_57); omega
            first | refine g_aload G dX7_hand_71 rfl ?_ | refine g_aloadN G dX7_hand_71 rfl ?_ | refine g_aloadQ G dX7_hand_71 rfl ?_
            refine g_ifnull G dX7_hand_73 ?_
            first | refine g_aload G dX7_hand_76 rfl ?_ | refine g_aloadN G dX7_hand_76 rfl ?_ | refine g_aloadQ G dX7_hand_76 rfl ?_
            first | refine g_aload_n G dX7_hand_78 rfl ?_ | refine g_aload_nN G dX7_hand_78 rfl ?_ | refine g_aload_nQ G dX7_hand_78 rfl ?_
            first | refine g_getR G fl_X7_263 (by assumption) (by first | decide | omega) rfl (by assumption) dX7_hand_79 ?_ | refine g_getZ G fl_X7_263 (by assumption) (by first | decide | omega) rfl (by assumption) dX7_hand_79 ?_ | refine g_getQ G fl_X7_263 (by assumption) (by first | decide | omega) rfl (by first | assumption | rfl) dX7_hand_79 ?_
            refine g_callVp (ci := 7) G (c_X6_canSeeInto _ S (ad 1 p) p (ad 0 kc) kc _ _ _ _ _ (hps p hp) (hcs kc kc1)) mt_X6_canSeeInto mi_X6_canSeeInto ml_X7_264 (by assumption) (by first | decide | omega) rfl (by decide) (by omega) (by omega) rfl (Nat.le_of_ble_eq_true rfl) dX7_hand_82 ?_
            refine g_if_ne (tgt := 99) G dX7_hand_85 (by decide) (fun c_85 => ?_) (fun c_85 => ?_)
            · have e2 : mA M 7 (mE M e) ≤ gReachOf M p (mE M e) := by rw [ee]; exact of_decide_eq_true (gB_ne0.mp c_85)
              first | refine g_aload_n G dX7_hand_99 rfl ?_ | refine g_aload_nN G dX7_hand_99 rfl ?_ | refine g_aload_nQ G dX7_hand_99 rfl ?_
              refine g_new (N := 4) (κ := (7 + 32 * (12 * e + mN M (200 + e)))) G nw_X7_269 (by first | decide | omega) rfl (by omega) (by omega) dX7_hand_100 (fun q_100 hq_100 => ?_)
              have F1 := gFr_N (S := S) (7 + 32 * (12 * e + mN M (200 + e))) hq_100
              refine g_dup G dX7_hand_103 rfl ?_
              first | refine g_aload_n G dX7_hand_104 rfl ?_ | refine g_aload_nN G dX7_hand_104 rfl ?_ | refine g_aload_nQ G dX7_hand_104 rfl ?_
              refine g_getI G fl_X7_52 (F1.K r1 (by decide)) (by first | decide | omega) rfl (F1.X (by first | omega | (dsimp only; omega)) rday) dX7_hand_105 ?_
              first | refine g_aload_n G dX7_hand_108 rfl ?_ | refine g_aload_nN G dX7_hand_108 rfl ?_ | refine g_aload_nQ G dX7_hand_108 rfl ?_
              refine g_getQ G fl_X7_256 (F1.K k1 (by omega)) (by first | decide | omega) rfl (F1.Y (by first | omega | (dsimp only; omega)) k4) dX7_hand_109 ?_
              first | refine g_aload G dX7_hand_112 rfl ?_ | refine g_aloadN G dX7_hand_112 rfl ?_ | refine g_aloadQ G dX7_hand_112 rfl ?_
              refine g_iconst (v := nI 0) G dX7_hand_114 (by decide) ?_
              refine g_callI G (c_X5_init _ _ q_100 e (mN M (200 + e)) (nI (mN M 40)) (nI 0) (gRf ad (mA M 19 e)) (some (ad 1 p)) (gK_N _ _ _)) mt_X5_init mi_X5_init ml_X7_271 (by decide) (by omega) (by omega) rfl (Nat.le_of_ble_eq_true rfl) dX7_hand_115 (fun v_115 S_115 hp_115 => ?_)
              obtain ⟨rfl, ⟨z0, z1, z2, z3, z4⟩, F2⟩ := hp_115
              simp only [Option.toList, List.nil_append]
              have F3 := F1.tr (K := fun k => k ≠ (7 + 32 * (12 * e + mN M (200 + e)))) F2 (fun k z => ⟨z, z⟩)
              refine g_callV (ci := 4) G (c_X3_addLink _ _ (ad 3 e) e (ad 10 e) q_100 (mN M (200 + e)) (ad (20 + e)) (F3.K k1 (by omega)) (F3.Y (by first | omega | (dsimp only; omega)) k7) (gLst_mono k9 F3 (by first | omega | (dsimp only; omega)) (by first | omega | (dsimp only; omega)) (fun _ _ => rfl)) (by omega) (by rw [z0]; omega) (fun i hi => by rw [F3.K (k10 i hi).1 (by omega)]; omega)) mt_X3_addLink mi_X3_addLink ml_X7_274 (F3.K k1 (by omega)) (by first | decide | omega) rfl (by decide) (by omega) (by omega) rfl (Nat.le_of_ble_eq_true rfl) dX7_hand_118 (fun v_118 S_118 hp_118 => ?_)
              obtain ⟨rfl, hl, FL⟩ := hp_118
              simp only [Option.toList, List.nil_append]
              have F5 := gFr_L FL
              have F4 := F3.tr (K := (fun k => k ≠ (7 + 32 * (12 * e + mN M (200 + e))) ∧ k ≠ 1 + 32 * (10 + e) ∧ k ≠ 19 + 32 * (10 + e))) F5 (fun k z => ⟨z.1, z.2⟩)
              have k1b := F4.K k1 (by omega)
              have r1b := F4.K r1 (by decide)
              first | refine g_aload_n G dX7_hand_121 rfl ?_ | refine g_aload_nN G dX7_hand_121 rfl ?_ | refine g_aload_nQ G dX7_hand_121 rfl ?_
              first | refine g_aload G dX7_hand_122 rfl ?_ | refine g_aloadN G dX7_hand_122 rfl ?_ | refine g_aloadQ G dX7_hand_122 rfl ?_
              refine g_putQ (v := some (ad 1 p)) G fl_X7_256 pu_4_2 k1b (by omega) rfl dX7_hand_124 ?_
              replace z3 : gY S_115 (7 + 32 * (12 * e + mN M (200 + e))) 2 q_100 = gRf ad (nI p) := z3.trans (gRf_p (by omega)).symm
              have F6 : gFr (fun k => k ≠ 5 + 32 * e) S_118 (sY S_118 (5 + 32 * e) 2 (ad 3 e) (some (ad 1 p))) := (gFr.rf S_118).Y1 _ _ _ (fun _ z => z)
              have hlb := gLst_mono hl F6 (by first | omega | (dsimp only; omega)) (by first | omega | (dsimp only; omega)) (fun _ _ => rfl)
              have F7 := F4.tr (K := (fun k => k ≠ (7 + 32 * (12 * e + mN M (200 + e))) ∧ k ≠ 1 + 32 * (10 + e) ∧ k ≠ 19 + 32 * (10 + e) ∧ k ≠ 5 + 32 * e)) F6 (fun k z => ⟨⟨z.1, z.2.1, z.2.2.1⟩, z.2.2.2⟩)
              have F56 := F5.tr (K := fun k => k = (7 + 32 * (12 * e + mN M (200 + e)))) F6 (fun k (z : k = _) => ⟨by subst z; first | omega | (dsimp only; omega), by subst z; first | omega | (dsimp only; omega)⟩)
              have hE := gExh_link (S3 := sY S_118 (5 + 32 * e) 2 (ad 3 e) (some (ad 1 p))) (M9 := mLink M e (nI (mN M 40)) (mA M 19 e) (nI p) (nI 0)) (q := q_100) (t := (nI p)) (day := nI (mN M 40)) (fr := mA M 19 e) (w := nI 0) (num := mA M 20 e) (hes e he) hN1 hk F7 (fun i hi => by first | omega | (dsimp only; omega)) (F4.X (by first | omega | (dsimp only; omega)) k2) ((u3_p _ _ (by decide)).trans (F4.Y (by first | omega | (dsimp only; omega)) rfl)) ((u3_same _ _ _ _ _).trans (gRf_p (by omega)).symm) ((F4.X (by first | omega | (dsimp only; omega)) k5).trans (by rw [decide_eq_false e0, decide_eq_false (fun z => absurd (by rw [z]; decide) (nI_pos (n := p) (by omega)))])) (F4.X (by first | omega | (dsimp only; omega)) k6) ((u3_p _ _ (by decide)).trans (F4.Y (by first | omega | (dsimp only; omega)) k7)) hlb (F56.K z0 (by omega)) (F56.X rfl z1) (F56.Y rfl z2) (F56.Y rfl z3) (F56.X rfl z4) kw2 (Or.inr ⟨p, hp, rfl⟩) (uN_o (M := uR M 22 _) (by omega)) (uN_o (M := uR M 22 _) (by omega)) uN_s rfl uA_s rfl ((funext fun j => uA_f (by omega)).trans (uR_s (M := M)))
              first | refine g_aload_n G dX7_hand_127 rfl ?_ | refine g_aload_nN G dX7_hand_127 rfl ?_ | refine g_aload_nQ G dX7_hand_127 rfl ?_
              refine g_getR G fl_X7_278 (k1b) (by first | decide | omega) rfl ((u3_p _ _ (by decide)).trans (F4.Y (by first | omega | (dsimp only; omega)) k7)) dX7_hand_128 ?_
              refine g_callVp (ci := 0) G (c_Jx4a65c_size_8abf5 _ _ (ad 10 e) (10 + e) (mN M (200 + e) + 1) _ hlb) mt_Jx4a65c_size_8abf5 mi_Jx4a65c_size_8abf5 ml_X7_80 (hlb.1) (by first | decide | omega) rfl (by decide) (by omega) (by omega) rfl (Nat.le_of_ble_eq_true rfl) dX7_hand_131 ?_
              exact g_iret G F (⟨e, he, rfl, (Or.inr ⟨p, hp, rfl⟩), ⟨e0, e1, hk, fun p2 hp2 z => by rw [← (nI_eq (by omega) (by omega)).mp z]; exact e2⟩, rfl, gMail_exh (M := M) (M9 := mLink M e (nI (mN M 40)) (mA M 19 e) (nI p) (nI 0)) (e := e) (fun g j z => uad_f z) (fun j z => uN_o (M := uR M 22 _) z) (fun f j z1 z2 => by rcases z2 with z | z; exact (uA_f (by omega)).trans (congrFun (uR_f z1) j); exact (uA_i z).trans (congrFun (uR_f z1) j)) (fun j hj => (uA_f (M := uN (uR M 22 _) (200 + e) _) (f := 19) (by omega)).trans ((congrFun (uR_s (M := M)) j).trans (by rw [if_neg (by omega), if_neg (by omega), if_neg (by omega), if_neg (by omega)]))) rfl (fun _ => hE) h (by omega) (F7.mono (fun k z => ⟨by omega, z.2.1, z.2.2.1, z.1⟩))⟩) (by omega) (by omega) dX7_hand_134
            · have hno : ¬ gHandOk M e (nI p) := fun z => by have := z.2.2.2 p hp rfl; rw [ee] at this; exact of_decide_eq_false (gB_eq0.mp c_85) this
              exact g_throwW (names := nm_ISE) G F tf_ISE cl_X7_55 ti_ISE st_X7_267 ta_ISE dX7_hand_88 (by exact dX7_hand_91) (by exact dX7_hand_92) (by exact dX7_hand_95) (by exact dX7_hand_98) (by decide) (Nat.le_of_ble_eq_true rfl) (by omega) (by omega) (⟨rfl, Or.inr ⟨rfl, e, he, rfl, (Or.inr ⟨p, hp, rfl⟩), hno⟩⟩)
          · have hno : ¬ gHandOk M e (nI p) := fun z => by have := of_decide_eq_true (gB_ne0.mp c_57); have := z.2.2.1; omega
            exact g_throwW (names := nm_ISE) G F tf_ISE cl_X7_55 ti_ISE st_X7_261 ta_ISE dX7_hand_60 (by exact dX7_hand_63) (by exact dX7_hand_64) (by exact dX7_hand_67) (by exact dX7_hand_70) (by decide) (Nat.le_of_ble_eq_true rfl) (by omega) (by omega) (⟨rfl, Or.inr ⟨rfl, e, he, rfl, (Or.inr ⟨p, hp, rfl⟩), hno⟩⟩)
    · by_cases h_r : t = -1
      · subst h_r
        first | refine g_aload_n G dX7_hand_0 rfl ?_ | refine g_aload_nN G dX7_hand_0 rfl ?_ | refine g_aload_nQ G dX7_hand_0 rfl ?_
        refine g_iload_n G dX7_hand_1 rfl ?_
        refine g_callVp (ci := 8) G (c_exhibitAt _ S x ad M h e he) mt_X7_exhibitAt mi_X7_exhibitAt ml_X7_246 (by assumption) (by first | decide | omega) rfl (by decide) (by omega) (by omega) rfl (Nat.le_of_ble_eq_true rfl) dX7_hand_2 ?_
        first | refine g_astore_n G dX7_hand_5 (gSt_3 (by first | rfl | exact g_c1_rf)) ?_ | refine g_astore_nN G dX7_hand_5 (gSt_3 (by first | rfl | exact g_c1_rf)) ?_ | refine g_astore_nQ G dX7_hand_5 (gSt_3 (by first | rfl | exact g_c1_rf)) ?_
        first | refine g_aload_n G dX7_hand_6 rfl ?_ | refine g_aload_nN G dX7_hand_6 rfl ?_ | refine g_aload_nQ G dX7_hand_6 rfl ?_
        refine g_iload_n G dX7_hand_7 rfl ?_
        refine g_callVp (ci := 8) G (c_personAt_no _ S x ad M h (-1) (gIx_no h_p)) mt_X7_personAt mi_X7_personAt ml_X7_151 (by assumption) (by first | decide | omega) rfl (by decide) (by omega) (by omega) rfl (Nat.le_of_ble_eq_true rfl) dX7_hand_8 ?_
        first | refine g_astore G dX7_hand_11 (gSt_4 (by first | rfl | exact g_c1_rf)) ?_ | refine g_astoreN G dX7_hand_11 (gSt_4 (by first | rfl | exact g_c1_rf)) ?_ | refine g_astoreQ G dX7_hand_11 (gSt_4 (by first | rfl | exact g_c1_rf)) ?_
        first | refine g_aload_n G dX7_hand_13 rfl ?_ | refine g_aload_nN G dX7_hand_13 rfl ?_ | refine g_aload_nQ G dX7_hand_13 rfl ?_
        refine g_ifnull G dX7_hand_14 ?_
        first | refine g_aload G dX7_hand_17 rfl ?_ | refine g_aloadN G dX7_hand_17 rfl ?_ | refine g_aloadQ G dX7_hand_17 rfl ?_
        refine g_ifnonnullN G dX7_hand_19 ?_
        refine g_iload_n G dX7_hand_22 rfl ?_
        refine g_iconst (v := (-1)) G dX7_hand_23 (by decide) ?_
        refine g_icmp_eq (tgt := 37) G dX7_hand_24 (by decide) (fun c_24 => ?_) (fun c_24 => (absurd rfl c_24))
        first | refine g_aload_n G dX7_hand_37 rfl ?_ | refine g_aload_nN G dX7_hand_37 rfl ?_ | refine g_aload_nQ G dX7_hand_37 rfl ?_
        refine g_getI G fl_X7_252 (by assumption) (by first | decide | omega) rfl (by first | assumption | rfl) dX7_hand_38 ?_
        refine g_if_ne (tgt := 60) G dX7_hand_41 (by decide) (fun c_41 => ?_) (fun c_41 => ?_)
        · have e0 : mA M 19 e = -2 := of_decide_eq_true (gB_ne0.mp c_41)
          have hno : ¬ gHandOk M e (-1) := fun z => z.1 e0
          exact g_throwW (names := nm_ISE) G F tf_ISE cl_X7_55 ti_ISE st_X7_261 ta_ISE dX7_hand_60 (by exact dX7_hand_63) (by exact dX7_hand_64) (by exact dX7_hand_67) (by exact dX7_hand_70) (by decide) (Nat.le_of_ble_eq_true rfl) (by omega) (by omega) (⟨rfl, Or.inr ⟨rfl, e, he, rfl, (Or.inl rfl), hno⟩⟩)
        · have e0 : ¬ mA M 19 e = -2 := of_decide_eq_false (gB_eq0.mp c_41)
          have kw2 : gPr M (mA M 19 e) := kw.elim Or.inl (fun z => z.elim (fun y => absurd y e0) Or.inr)
          first | refine g_aload_n G dX7_hand_44 rfl ?_ | refine g_aload_nN G dX7_hand_44 rfl ?_ | refine g_aload_nQ G dX7_hand_44 rfl ?_
          first | refine g_getR G fl_X7_256 (by assumption) (by first | decide | omega) rfl (by assumption) dX7_hand_45 ?_ | refine g_getZ G fl_X7_256 (by assumption) (by first | decide | omega) rfl (by assumption) dX7_hand_45 ?_ | refine g_getQ G fl_X7_256 (by assumption) (by first | decide | omega) rfl (by first | assumption | rfl) dX7_hand_45 ?_
          first | refine g_aload G dX7_hand_48 rfl ?_ | refine g_aloadN G dX7_hand_48 rfl ?_ | refine g_aloadQ G dX7_hand_48 rfl ?_
          refine g_acmp_eq (rx := gRf ad (mA M 19 e)) (ry := none) (tgt := 60) G dX7_hand_50 (by decide) (fun c_50 => ?_) (fun c_50 => ?_)
          · have hno : ¬ gHandOk M e (-1) := fun z => z.2.1 ((gRf_none hN1 kw2).mp c_50)
            exact g_throwW (names := nm_ISE) G F tf_ISE cl_X7_55 ti_ISE st_X7_261 ta_ISE dX7_hand_60 (by exact dX7_hand_63) (by exact dX7_hand_64) (by exact dX7_hand_67) (by exact dX7_hand_70) (by decide) (Nat.le_of_ble_eq_true rfl) (by omega) (by omega) (⟨rfl, Or.inr ⟨rfl, e, he, rfl, (Or.inl rfl), hno⟩⟩)
          · have e1 : ¬ mA M 19 e = (-1) := fun z => c_50 ((gRf_none hN1 kw2).mpr z)
            first | refine g_aload_n G dX7_hand_53 rfl ?_ | refine g_aload_nN G dX7_hand_53 rfl ?_ | refine g_aload_nQ G dX7_hand_53 rfl ?_
            refine g_callVp (ci := 4) G (c_X3_hasFullChain _ S x ad M h e he) mt_X3_hasFullChain mi_X3_hasFullChain ml_X7_257 (by assumption) (by first | decide | omega) rfl (by decide) (by omega) (by omega) rfl (Nat.le_of_ble_eq_true rfl) dX7_hand_54 ?_
            refine g_if_eq (tgt := 71) G dX7_hand_57 (by decide) (fun c_57 => ?_) (fun c_57 => ?_)
            · have hk : mN M (200 + e) < 12 := by have := of_decide_eq_false (gB_eq0.mp c_57); omega
              first | refine g_aload G dX7_hand_71 rfl ?_ | refine g_aloadN G dX7_hand_71 rfl ?_ | refine g_aloadQ G dX7_hand_71 rfl ?_
              refine g_ifnullN (tgt := 99) G dX7_hand_73 (by decide) ?_
              first | refine g_aload_n G dX7_hand_99 rfl ?_ | refine g_aload_nN G dX7_hand_99 rfl ?_ | refine g_aload_nQ G dX7_hand_99 rfl ?_
              refine g_new (N := 4) (κ := (7 + 32 * (12 * e + mN M (200 + e)))) G nw_X7_269 (by first | decide | omega) rfl (by omega) (by omega) dX7_hand_100 (fun q_100 hq_100 => ?_)
              have F1 := gFr_N (S := S) (7 + 32 * (12 * e + mN M (200 + e))) hq_100
              refine g_dup G dX7_hand_103 rfl ?_
              first | refine g_aload_n G dX7_hand_104 rfl ?_ | refine g_aload_nN G dX7_hand_104 rfl ?_ | refine g_aload_nQ G dX7_hand_104 rfl ?_
              refine g_getI G fl_X7_52 (F1.K r1 (by decide)) (by first | decide | omega) rfl (F1.X (by first | omega | (dsimp only; omega)) rday) dX7_hand_105 ?_
              first | refine g_aload_n G dX7_hand_108 rfl ?_ | refine g_aload_nN G dX7_hand_108 rfl ?_ | refine g_aload_nQ G dX7_hand_108 rfl ?_
              refine g_getQ G fl_X7_256 (F1.K k1 (by omega)) (by first | decide | omega) rfl (F1.Y (by first | omega | (dsimp only; omega)) k4) dX7_hand_109 ?_
              first | refine g_aload G dX7_hand_112 rfl ?_ | refine g_aloadN G dX7_hand_112 rfl ?_ | refine g_aloadQ G dX7_hand_112 rfl ?_
              refine g_iconst (v := nI 0) G dX7_hand_114 (by decide) ?_
              refine g_callI G (c_X5_init _ _ q_100 e (mN M (200 + e)) (nI (mN M 40)) (nI 0) (gRf ad (mA M 19 e)) (none) (gK_N _ _ _)) mt_X5_init mi_X5_init ml_X7_271 (by decide) (by omega) (by omega) rfl (Nat.le_of_ble_eq_true rfl) dX7_hand_115 (fun v_115 S_115 hp_115 => ?_)
              obtain ⟨rfl, ⟨z0, z1, z2, z3, z4⟩, F2⟩ := hp_115
              simp only [Option.toList, List.nil_append]
              have F3 := F1.tr (K := fun k => k ≠ (7 + 32 * (12 * e + mN M (200 + e)))) F2 (fun k z => ⟨z, z⟩)
              refine g_callV (ci := 4) G (c_X3_addLink _ _ (ad 3 e) e (ad 10 e) q_100 (mN M (200 + e)) (ad (20 + e)) (F3.K k1 (by omega)) (F3.Y (by first | omega | (dsimp only; omega)) k7) (gLst_mono k9 F3 (by first | omega | (dsimp only; omega)) (by first | omega | (dsimp only; omega)) (fun _ _ => rfl)) (by omega) (by rw [z0]; omega) (fun i hi => by rw [F3.K (k10 i hi).1 (by omega)]; omega)) mt_X3_addLink mi_X3_addLink ml_X7_274 (F3.K k1 (by omega)) (by first | decide | omega) rfl (by decide) (by omega) (by omega) rfl (Nat.le_of_ble_eq_true rfl) dX7_hand_118 (fun v_118 S_118 hp_118 => ?_)
              obtain ⟨rfl, hl, FL⟩ := hp_118
              simp only [Option.toList, List.nil_append]
              have F5 := gFr_L FL
              have F4 := F3.tr (K := (fun k => k ≠ (7 + 32 * (12 * e + mN M (200 + e))) ∧ k ≠ 1 + 32 * (10 + e) ∧ k ≠ 19 + 32 * (10 + e))) F5 (fun k z => ⟨z.1, z.2⟩)
              have k1b := F4.K k1 (by omega)
              have r1b := F4.K r1 (by decide)
              first | refine g_aload_n G dX7_hand_121 rfl ?_ | refine g_aload_nN G dX7_hand_121 rfl ?_ | refine g_aload_nQ G dX7_hand_121 rfl ?_
              first | refine g_aload G dX7_hand_122 rfl ?_ | refine g_aloadN G dX7_hand_122 rfl ?_ | refine g_aloadQ G dX7_hand_122 rfl ?_
              refine g_putQ (v := none) G fl_X7_256 pu_4_2 k1b (by omega) rfl dX7_hand_124 ?_
              replace z3 : gY S_115 (7 + 32 * (12 * e + mN M (200 + e))) 2 q_100 = gRf ad (-1) := z3.trans gRf_1.symm
              have F6 : gFr (fun k => k ≠ 5 + 32 * e) S_118 (sY S_118 (5 + 32 * e) 2 (ad 3 e) (none)) := (gFr.rf S_118).Y1 _ _ _ (fun _ z => z)
              have hlb := gLst_mono hl F6 (by first | omega | (dsimp only; omega)) (by first | omega | (dsimp only; omega)) (fun _ _ => rfl)
              have F7 := F4.tr (K := (fun k => k ≠ (7 + 32 * (12 * e + mN M (200 + e))) ∧ k ≠ 1 + 32 * (10 + e) ∧ k ≠ 19 + 32 * (10 + e) ∧ k ≠ 5 + 32 * e)) F6 (fun k z => ⟨⟨z.1, z.2.1, z.2.2.1⟩, z.2.2.2⟩)
              have F56 := F5.tr (K := fun k => k = (7 + 32 * (12 * e + mN M (200 + e)))) F6 (fun k (z : k = _) => ⟨by subst z; first | omega | (dsimp only; omega), by subst z; first | omega | (dsimp only; omega)⟩)
              have hE := gExh_link (S3 := sY S_118 (5 + 32 * e) 2 (ad 3 e) (none)) (M9 := mLink M e (nI (mN M 40)) (mA M 19 e) (-1) (nI 0)) (q := q_100) (t := (-1)) (day := nI (mN M 40)) (fr := mA M 19 e) (w := nI 0) (num := mA M 20 e) (hes e he) hN1 hk F7 (fun i hi => by first | omega | (dsimp only; omega)) (F4.X (by first | omega | (dsimp only; omega)) k2) ((u3_p _ _ (by decide)).trans (F4.Y (by first | omega | (dsimp only; omega)) rfl)) ((u3_same _ _ _ _ _).trans gRf_1.symm) ((F4.X (by first | omega | (dsimp only; omega)) k5).trans (by rw [decide_eq_false e0, decide_eq_false (by decide)])) (F4.X (by first | omega | (dsimp only; omega)) k6) ((u3_p _ _ (by decide)).trans (F4.Y (by first | omega | (dsimp only; omega)) k7)) hlb (F56.K z0 (by omega)) (F56.X rfl z1) (F56.Y rfl z2) (F56.Y rfl z3) (F56.X rfl z4) kw2 (Or.inl rfl) (uN_o (M := uR M 22 _) (by omega)) (uN_o (M := uR M 22 _) (by omega)) uN_s rfl uA_s rfl ((funext fun j => uA_f (by omega)).trans (uR_s (M := M)))
              first | refine g_aload_n G dX7_hand_127 rfl ?_ | refine g_aload_nN G dX7_hand_127 rfl ?_ | refine g_aload_nQ G dX7_hand_127 rfl ?_
              refine g_getR G fl_X7_278 (k1b) (by first | decide | omega) rfl ((u3_p _ _ (by decide)).trans (F4.Y (by first | omega | (dsimp only; omega)) k7)) dX7_hand_128 ?_
              refine g_callVp (ci := 0) G (c_Jx4a65c_size_8abf5 _ _ (ad 10 e) (10 + e) (mN M (200 + e) + 1) _ hlb) mt_Jx4a65c_size_8abf5 mi_Jx4a65c_size_8abf5 ml_X7_80 (hlb.1) (by first | decide | omega) rfl (by decide) (by omega) (by omega) rfl (Nat.le_of_ble_eq_true rfl) dX7_hand_131 ?_
              exact g_iret G F (⟨e, he, rfl, (Or.inl rfl), ⟨e0, e1, hk, fun p2 hp2 z => by exact absurd (by rw [← z]; decide) (nI_pos (n := p2) (by omega))⟩, rfl, gMail_exh (M := M) (M9 := mLink M e (nI (mN M 40)) (mA M 19 e) (-1) (nI 0)) (e := e) (fun g j z => uad_f z) (fun j z => uN_o (M := uR M 22 _) z) (fun f j z1 z2 => by rcases z2 with z | z; exact (uA_f (by omega)).trans (congrFun (uR_f z1) j); exact (uA_i z).trans (congrFun (uR_f z1) j)) (fun j hj => (uA_f (M := uN (uR M 22 _) (200 + e) _) (f := 19) (by omega)).trans ((congrFun (uR_s (M := M)) j).trans (by rw [if_neg (by omega), if_neg (by omega), if_neg (by omega), if_neg (by omega)]))) rfl (fun _ => hE) h (by omega) (F7.mono (fun k z => ⟨by omega, z.2.1, z.2.2.1, z.1⟩))⟩) (by omega) (by omega) dX7_hand_134
            · have hno : ¬ gHandOk M e (-1) := fun z => by have := of_decide_eq_true (gB_ne0.mp c_57); have := z.2.2.1; omega
              exact g_throwW (names := nm_ISE) G F tf_ISE cl_X7_55 ti_ISE st_X7_261 ta_ISE dX7_hand_60 (by exact dX7_hand_63) (by exact dX7_hand_64) (by exact dX7_hand_67) (by exact dX7_hand_70) (by decide) (Nat.le_of_ble_eq_true rfl) (by omega) (by omega) (⟨rfl, Or.inr ⟨rfl, e, he, rfl, (Or.inl rfl), hno⟩⟩)
      · have hno : ¬ (gIx (mN M 17) (nI e) ∧ gPr M t) := fun z => z.2.elim h_r (fun ⟨p, hp, y⟩ => h_p (by rw [y]; exact gIx_nI hp (by omega)))
        first | refine g_aload_n G dX7_hand_0 rfl ?_ | refine g_aload_nN G dX7_hand_0 rfl ?_ | refine g_aload_nQ G dX7_hand_0 rfl ?_
        refine g_iload_n G dX7_hand_1 rfl ?_
        refine g_callVp (ci := 8) G (c_exhibitAt _ S x ad M h e he) mt_X7_exhibitAt mi_X7_exhibitAt ml_X7_246 (by assumption) (by first | decide | omega) rfl (by decide) (by omega) (by omega) rfl (Nat.le_of_ble_eq_true rfl) dX7_hand_2 ?_
        first | refine g_astore_n G dX7_hand_5 (gSt_3 (by first | rfl | exact g_c1_rf)) ?_ | refine g_astore_nN G dX7_hand_5 (gSt_3 (by first | rfl | exact g_c1_rf)) ?_ | refine g_astore_nQ G dX7_hand_5 (gSt_3 (by first | rfl | exact g_c1_rf)) ?_
        first | refine g_aload_n G dX7_hand_6 rfl ?_ | refine g_aload_nN G dX7_hand_6 rfl ?_ | refine g_aload_nQ G dX7_hand_6 rfl ?_
        refine g_iload_n G dX7_hand_7 rfl ?_
        refine g_callVp (ci := 8) G (c_personAt_no _ S x ad M h t (gIx_no h_p)) mt_X7_personAt mi_X7_personAt ml_X7_151 (by assumption) (by first | decide | omega) rfl (by decide) (by omega) (by omega) rfl (Nat.le_of_ble_eq_true rfl) dX7_hand_8 ?_
        first | refine g_astore G dX7_hand_11 (gSt_4 (by first | rfl | exact g_c1_rf)) ?_ | refine g_astoreN G dX7_hand_11 (gSt_4 (by first | rfl | exact g_c1_rf)) ?_ | refine g_astoreQ G dX7_hand_11 (gSt_4 (by first | rfl | exact g_c1_rf)) ?_
        first | refine g_aload_n G dX7_hand_13 rfl ?_ | refine g_aload_nN G dX7_hand_13 rfl ?_ | refine g_aload_nQ G dX7_hand_13 rfl ?_
        refine g_ifnull G dX7_hand_14 ?_
        first | refine g_aload G dX7_hand_17 rfl ?_ | refine g_aloadN G dX7_hand_17 rfl ?_ | refine g_aloadQ G dX7_hand_17 rfl ?_
        refine g_ifnonnullN G dX7_hand_19 ?_
        refine g_iload_n G dX7_hand_22 rfl ?_
        refine g_iconst (v := (-1)) G dX7_hand_23 (by decide) ?_
        refine g_icmp_eq (tgt := 37) G dX7_hand_24 (by decide) (fun c_24 => (absurd c_24 h_r)) (fun c_24 => ?_)
        exact g_throw (names := nm_IOE) G F tf_IOE cl_X7_75 ti_IOE st_X7_250 ta_IOE dX7_hand_27 (by exact dX7_hand_30) (by exact dX7_hand_31) (by exact dX7_hand_33) (by exact dX7_hand_36) (by decide) (Nat.le_of_ble_eq_true rfl) (by omega) (by omega) (⟨rfl, Or.inl ⟨rfl, hno⟩⟩)
  · have hno : ¬ (gIx (mN M 17) i ∧ gPr M t) := fun z => h_e z.1
    by_cases h_p : gIx (mN M 8) t
    · obtain ⟨p, hp, rfl⟩ := gIx_of h_p (by have := l1.2.2.1; omega)
      first | refine g_aload_n G dX7_hand_0 rfl ?_ | refine g_aload_nN G dX7_hand_0 rfl ?_ | refine g_aload_nQ G dX7_hand_0 rfl ?_
      refine g_iload_n G dX7_hand_1 rfl ?_
      refine g_callVp (ci := 8) G (c_exhibitAt_no _ S x ad M h i (gIx_no h_e)) mt_X7_exhibitAt mi_X7_exhibitAt ml_X7_246 (by assumption) (by first | decide | omega) rfl (by decide) (by omega) (by omega) rfl (Nat.le_of_ble_eq_true rfl) dX7_hand_2 ?_
      first | refine g_astore_n G dX7_hand_5 (gSt_3 (by first | rfl | exact g_c1_rf)) ?_ | refine g_astore_nN G dX7_hand_5 (gSt_3 (by first | rfl | exact g_c1_rf)) ?_ | refine g_astore_nQ G dX7_hand_5 (gSt_3 (by first | rfl | exact g_c1_rf)) ?_
      first | refine g_aload_n G dX7_hand_6 rfl ?_ | refine g_aload_nN G dX7_hand_6 rfl ?_ | refine g_aload_nQ G dX7_hand_6 rfl ?_
      refine g_iload_n G dX7_hand_7 rfl ?_
      refine g_callVp (ci := 8) G (c_personAt _ S x ad M h p hp) mt_X7_personAt mi_X7_personAt ml_X7_151 (by assumption) (by first | decide | omega) rfl (by decide) (by omega) (by omega) rfl (Nat.le_of_ble_eq_true rfl) dX7_hand_8 ?_
      first | refine g_astore G dX7_hand_11 (gSt_4 (by first | rfl | exact g_c1_rf)) ?_ | refine g_astoreN G dX7_hand_11 (gSt_4 (by first | rfl | exact g_c1_rf)) ?_ | refine g_astoreQ G dX7_hand_11 (gSt_4 (by first | rfl | exact g_c1_rf)) ?_
      first | refine g_aload_n G dX7_hand_13 rfl ?_ | refine g_aload_nN G dX7_hand_13 rfl ?_ | refine g_aload_nQ G dX7_hand_13 rfl ?_
      refine g_ifnullN (tgt := 27) G dX7_hand_14 (by decide) ?_
      exact g_throw (names := nm_IOE) G F tf_IOE cl_X7_75 ti_IOE st_X7_250 ta_IOE dX7_hand_27 (by exact dX7_hand_30) (by exact dX7_hand_31) (by exact dX7_hand_33) (by exact dX7_hand_36) (by decide) (Nat.le_of_ble_eq_true rfl) (by omega) (by omega) (⟨rfl, Or.inl ⟨rfl, hno⟩⟩)
    · first | refine g_aload_n G dX7_hand_0 rfl ?_ | refine g_aload_nN G dX7_hand_0 rfl ?_ | refine g_aload_nQ G dX7_hand_0 rfl ?_
      refine g_iload_n G dX7_hand_1 rfl ?_
      refine g_callVp (ci := 8) G (c_exhibitAt_no _ S x ad M h i (gIx_no h_e)) mt_X7_exhibitAt mi_X7_exhibitAt ml_X7_246 (by assumption) (by first | decide | omega) rfl (by decide) (by omega) (by omega) rfl (Nat.le_of_ble_eq_true rfl) dX7_hand_2 ?_
      first | refine g_astore_n G dX7_hand_5 (gSt_3 (by first | rfl | exact g_c1_rf)) ?_ | refine g_astore_nN G dX7_hand_5 (gSt_3 (by first | rfl | exact g_c1_rf)) ?_ | refine g_astore_nQ G dX7_hand_5 (gSt_3 (by first | rfl | exact g_c1_rf)) ?_
      first | refine g_aload_n G dX7_hand_6 rfl ?_ | refine g_aload_nN G dX7_hand_6 rfl ?_ | refine g_aload_nQ G dX7_hand_6 rfl ?_
      refine g_iload_n G dX7_hand_7 rfl ?_
      refine g_callVp (ci := 8) G (c_personAt_no _ S x ad M h t (gIx_no h_p)) mt_X7_personAt mi_X7_personAt ml_X7_151 (by assumption) (by first | decide | omega) rfl (by decide) (by omega) (by omega) rfl (Nat.le_of_ble_eq_true rfl) dX7_hand_8 ?_
      first | refine g_astore G dX7_hand_11 (gSt_4 (by first | rfl | exact g_c1_rf)) ?_ | refine g_astoreN G dX7_hand_11 (gSt_4 (by first | rfl | exact g_c1_rf)) ?_ | refine g_astoreQ G dX7_hand_11 (gSt_4 (by first | rfl | exact g_c1_rf)) ?_
      first | refine g_aload_n G dX7_hand_13 rfl ?_ | refine g_aload_nN G dX7_hand_13 rfl ?_ | refine g_aload_nQ G dX7_hand_13 rfl ?_
      refine g_ifnullN (tgt := 27) G dX7_hand_14 (by decide) ?_
      exact g_throw (names := nm_IOE) G F tf_IOE cl_X7_75 ti_IOE st_X7_250 ta_IOE dX7_hand_27 (by exact dX7_hand_30) (by exact dX7_hand_31) (by exact dX7_hand_33) (by exact dX7_hand_36) (by decide) (Nat.le_of_ble_eq_true rfl) (by omega) (by omega) (⟨rfl, Or.inl ⟨rfl, hno⟩⟩)
