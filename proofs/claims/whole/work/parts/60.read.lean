/-! ===== the reference: a tape is read ===== -/
def wrS (S : gS) (y : Nat) (b : Nat → Nat → Nat) (W : Nat) (one own mk : Int32) : gS := sX (sX (sX (sX S (17 + 32 * (10 + 29)) (b 0 29) W one) (17 + 32 * (10 + 30)) (b 0 30) W own) (17 + 32 * (10 + 31)) (b 0 31) W mk) 11 32 y (nI (W + 1))
def gQk (k : Nat) : Prop := k ≠ 11 ∧ k ≠ 17 + 32 * (10 + 29) ∧ k ≠ 17 + 32 * (10 + 30) ∧ k ≠ 17 + 32 * (10 + 31)
theorem gRef_lt {S : gS} {y : Nat} {b : Nat → Nat → Nat} {M : gM} {f j : Nat} {v : Int32} (h : gRef S y b M) (hf : 29 ≤ f ∧ f ≤ 31) : gRef (sX S (17 + 32 * (10 + f)) (b 0 f) j v) y b M := by
  obtain ⟨⟨r1, r2, r3, r4, r5, r6, r7, r8, r9, r10, r11⟩, hs, Ma, ha⟩ := h
  refine ⟨⟨r1, fun c h => sX_k (by omega) (r2 c h), sX_k (by omega) r3, r4, fun g hg i hi => sX_k (by have := gExa_lt hg; omega) (r5 g hg i hi), fun e he => sX_k (by omega) (r6 e he), fun i hi => sX_k (by omega) (r7 i hi), fun i hi => sX_k (by omega) (r8 i hi), fun g h1 h2 => ?_, r10, r11⟩, gStt_k hs (by omega) (fun g _ _ => by omega), Ma, gStt_k ha (by omega) (fun g _ _ => by omega)⟩
  obtain ⟨t1, t2, t3, t4⟩ := r9 g h1 h2
  exact ⟨t1, t2, t3, fun d hd => ⟨(t4 d hd).1, (t4 d hd).2.1, (t4 d hd).2.2.1, fun i hi => sX_k (by omega) ((t4 d hd).2.2.2 i hi)⟩⟩
theorem gRef_32 {S : gS} {y : Nat} {b : Nat → Nat → Nat} {M : gM} {p : Nat} {v : Int32} (h : gRef S y b M) (hp : 32 ≤ p) : gRef (sX S 11 p y v) y b M := gRef_11 h (fun c z => Or.inr ⟨by have := gCnt_lt z; omega, rfl⟩) (Or.inr ⟨by omega, rfl⟩) (fun _ _ => rfl) (fun _ _ => rfl) (Nat.le_refl _) (Nat.le_refl _) (Nat.le_refl _) rfl
theorem wrS_ref {S : gS} {y : Nat} {b : Nat → Nat → Nat} {M : gM} {W : Nat} {one own mk : Int32} (h : gRef S y b M) : gRef (wrS S y b W one own mk) y b M := gRef_32 (gRef_lt (f := 31) (gRef_lt (f := 30) (gRef_lt (f := 29) h (by decide)) (by decide)) (by decide)) (by decide)
theorem wrS_fr {S : gS} {y : Nat} {b : Nat → Nat → Nat} {W : Nat} {one own mk : Int32} : gFr gQk S (wrS S y b W one own mk) := ((((gFr.rf S).X1 _ _ _ (fun _ z => z.2.1)).X1 _ _ _ (fun _ z => z.2.2.1)).X1 _ _ _ (fun _ z => z.2.2.2)).X1 _ _ _ (fun _ z => z.1)
theorem wrS_32 {S : gS} {y : Nat} {b : Nat → Nat → Nat} {W : Nat} {one own mk : Int32} : gX (wrS S y b W one own mk) 11 32 y = nI (W + 1) := sX_s
theorem wrS_p {S : gS} {y : Nat} {b : Nat → Nat → Nat} {W p : Nat} {one own mk w : Int32} (hp : p ≠ 32) (h : gX S 11 p y = w) : gX (wrS S y b W one own mk) 11 p y = w := sX_p hp (sX_k (by decide) (sX_k (by decide) (sX_k (by decide) h)))
def gPs (S : gS) (y : Nat) (b : Nat → Nat → Nat) (M D : gM) (W : Nat) : Prop := gRef S y b M ∧ gX S 11 32 y = nI W ∧ gX S 11 33 y = mA D 4 1 ∧ gX S 11 34 y = mA D 4 0 ∧ (mA D 4 1 < 0 → W = mN D 0 ∧ ∀ j, j < W → gX S (17 + 32 * (10 + 29)) (b 0 29) j = mA D 0 j ∧ gX S (17 + 32 * (10 + 30)) (b 0 30) j = mA D 1 j ∧ gX S (17 + 32 * (10 + 31)) (b 0 31) j = mA D 2 j)
theorem gPs_put {S : gS} {y : Nat} {b : Nat → Nat → Nat} {M D : gM} {W : Nat} {one own mk : Int32} (h : gPs S y b M D W) (ho : own = mA D 3 (mN D 1)) : gPs (wrS S y b W one own mk) y b M (dPut D one mk) (W + 1) := by
  obtain ⟨h1, h2, h3, h4, h5⟩ := h
  refine ⟨wrS_ref h1, wrS_32, by rw [dPut_o D _ _ (Or.inr (by omega))]; exact wrS_p (by decide) h3, by rw [dPut_o D _ _ (Or.inr (by omega))]; exact wrS_p (by decide) h4, fun hf => ?_⟩
  rw [dPut_o D _ _ (Or.inr (by omega))] at hf
  obtain ⟨e1, e2⟩ := h5 hf
  refine ⟨by show W + 1 = mN D 0 + 1; rw [e1], fun j hj => ?_⟩
  by_cases z : j = W
  · subst z
    rw [dPut_a, dPut_a, dPut_a, if_pos e1, if_pos e1, if_pos e1]
    refine ⟨sX_k (by decide) (sX_k (by decide) (sX_k (by decide) sX_s)), sX_k (by decide) (sX_k (by decide) (sX_s.trans ho)), sX_k (by decide) sX_s⟩
  · obtain ⟨a1, a2, a3⟩ := e2 j (by omega)
    rw [dPut_o D _ _ (Or.inl (by omega)), dPut_o D _ _ (Or.inl (by omega)), dPut_o D _ _ (Or.inl (by omega))]
    exact ⟨sX_k (by decide) (sX_k (by decide) (sX_k (by decide) (sX_q z a1))), sX_k (by decide) (sX_k (by decide) (sX_q z (sX_k (by decide) a2))), sX_k (by decide) (sX_q z (sX_k (by decide) (sX_k (by decide) a3)))⟩
theorem gPs_cong {S : gS} {y : Nat} {b : Nat → Nat → Nat} {M D D2 : gM} {W : Nat} (h : gPs S y b M D W) (e4 : mA D2 4 1 = mA D 4 1 ∧ mA D2 4 0 = mA D 4 0) (en : mN D2 0 = mN D 0) (e0 : ∀ f j, f < 3 → mA D2 f j = mA D f j) : gPs S y b M D2 W := by
  obtain ⟨h1, h2, h3, h4, h5⟩ := h
  refine ⟨h1, h2, by rw [e4.1]; exact h3, by rw [e4.2]; exact h4, fun hf => ?_⟩
  rw [e4.1] at hf
  rw [en]
  exact ⟨(h5 hf).1, fun j hj => by rw [e0 0 j (by omega), e0 1 j (by omega), e0 2 j (by omega)]; exact (h5 hf).2 j hj⟩
def gAr (S : gS) (q : Nat) (D : gM) : Prop := gK S q = 17 + 32 * 90 ∧ gL S q = 6 ∧ ∀ j, j ≤ mN D 1 → gX S (17 + 32 * 90) q j = mA D 3 j
theorem gAr_fr {S S' : gS} {q : Nat} {D : gM} (h : gAr S q D) (F : gFr gQk S S') : gAr S' q D := ⟨F.K h.1 (by decide), ((F.1 q (by rw [h.1]; decide)).2).trans h.2.1, fun j hj => F.X (by unfold gQk; omega) (h.2.2 j hj)⟩
/-- the machine has taken t bytes and D is what it makes of them, a number that nothing follows being ended -/
def gSet (f : Nat → Int32) (own : Int32) (n t : Nat) (D : gM) : Prop := mN D 1 ≤ 5 ∧ ∃ D0, dRes f own t = .inr D0 ∧ D = dFin D0 ∧ (mN D0 2 = 0 ∨ (mN D0 2 = 4 ∧ 0 < mN D0 3 ∧ (t < n → dDig (nI 48) (f t) = false)))
theorem gSet_0 {f : Nat → Int32} {own : Int32} {n : Nat} : gSet f own n 0 (dStart own) := ⟨Nat.zero_le _, dStart own, rfl, (if_neg (show ¬ (0 : Nat) = 4 by decide)).symm, Or.inl rfl⟩
theorem gSet_st {f : Nat → Int32} {own : Int32} {n t : Nat} {D : gM} (h : gSet f own n t D) : mN D 2 = 0 := by
  obtain ⟨-, D0, -, e, z⟩ := h
  rw [e]
  unfold dFin
  split
  · exact dEnd_2 D0
  · exact z.elim id (fun y => absurd y.1 (by assumption))
theorem gSet_step {f : Nat → Int32} {own : Int32} {n t : Nat} {D : gM} (h : gSet f own n t D) (ht : t < n) : dRes f own (t + 1) = if dBok D (f t) then .inr (dBody D (f t) t) else .inl t := by
  obtain ⟨-, D0, hr, e, z⟩ := h
  rw [dRes_s hr]
  rcases z with z | ⟨z1, z2, z3⟩
  · have e1 : D = D0 := by rw [e]; exact if_neg (by omega)
    rw [e1]
    rw [show dOk D0 (f t) = dBok D0 (f t) from (if_neg (by omega)).trans ((if_neg (by omega)).trans ((if_neg (by omega)).trans (if_neg (by omega))))]
    rw [show dNx D0 (f t) t = dBody D0 (f t) t from (if_neg (by omega)).trans ((if_neg (by omega)).trans ((if_neg (by omega)).trans (if_neg (by omega))))]
  · have e1 : D = dEnd D0 := by rw [e]; exact if_pos z1
    have z4 := z3 ht
    have e2 : dBok D (f t) = dBok D0 (f t) := by rw [e1]; unfold dBok; rw [dEnd_p (j := 1) (by omega) (by omega)]
    rw [e2, e1]
    rw [show dOk D0 (f t) = dUok D0 (f t) from (if_neg (by omega)).trans ((if_neg (by omega)).trans ((if_neg (by omega)).trans (if_pos z1)))]
    rw [show dNx D0 (f t) t = dNum D0 (f t) t from (if_neg (by omega)).trans ((if_neg (by omega)).trans ((if_neg (by omega)).trans (if_pos z1)))]
    rw [show dUok D0 (f t) = (decide (0 < mN D0 3) && dBok D0 (f t)) from if_neg (by rw [z4]; decide), decide_eq_true z2, Bool.true_and]
    rw [show dNum D0 (f t) t = dBody (dEnd D0) (f t) t from if_neg (by rw [z4]; decide)]
/-- the reading ends with an error at p -/
def gBad (f : Nat → Int32) (own : Int32) (n p : Nat) : Prop := (dOut f own n).1 = nI 1 ∧ (dOut f own n).2.1 = nI p
theorem gBad_of {f : Nat → Int32} {own : Int32} {n p : Nat} {X : gM} (hr : dRes f own p = .inr X) (hp : p ≤ n) (h1 : p < n → dOk X (f p) = false) (h2 : p = n → dWhole X = false) : gBad f own n p := by
  by_cases z : p < n
  · have hs := dRes_s hr
    rw [h1 z] at hs
    have hl := dRes_l (i := p) hs (n - (p + 1))
    rw [show p + 1 + (n - (p + 1)) = n by omega] at hl
    unfold gBad
    rw [dOut_l hl]
    exact ⟨rfl, rfl⟩
  · have e : p = n := by omega
    subst e
    unfold gBad
    rw [dOut_r hr, h2 rfl]
    exact ⟨rfl, rfl⟩
theorem gSet_bad {f : Nat → Int32} {own : Int32} {n t : Nat} {D : gM} (h : gSet f own n t D) (ht : t < n) (hb : dBok D (f t) = false) : gBad f own n t := by
  have hs := gSet_step h ht
  rw [hb] at hs
  have hl := dRes_l (i := t) hs (n - (t + 1))
  rw [show t + 1 + (n - (t + 1)) = n by omega] at hl
  unfold gBad
  rw [dOut_l hl]
  exact ⟨rfl, rfl⟩
theorem gSet_of {f : Nat → Int32} {own : Int32} {n t : Nat} {D : gM} (hr : dRes f own t = .inr D) (h2 : mN D 2 = 0) (h1 : mN D 1 ≤ 5) : gSet f own n t D := ⟨h1, D, hr, (if_neg (by omega)).symm, Or.inl h2⟩
theorem gSet_num {f : Nat → Int32} {own : Int32} {n t : Nat} {X : gM} (hr : dRes f own t = .inr X) (h4 : mN X 2 = 4) (h3 : 0 < mN X 3) (hd : t < n → dDig (nI 48) (f t) = false) (h1 : mN X 1 ≤ 5) : gSet f own n t (dEnd X) := ⟨by rw [dEnd_p (by omega) (by omega)]; exact h1, X, hr, (if_pos h4).symm, Or.inr ⟨h4, h3, hd⟩⟩
theorem gSet_end {f : Nat → Int32} {own : Int32} {n : Nat} {D : gM} (h : gSet f own n n D) (h0 : mN D 1 = 0) : dOut f own n = (if mA D 4 1 < 0 then nI 0 else nI 2, mA D 4 1, D) := by
  obtain ⟨-, D0, hr, e, z⟩ := h
  have hw : dWhole D0 = true := by
    refine decide_eq_true ⟨?_, z.imp id (fun y => ⟨y.1, y.2.1⟩)⟩
    rw [e] at h0
    unfold dFin at h0
    split at h0
    · rwa [dEnd_p (by omega) (by omega)] at h0
    · exact h0
  rw [dOut_r hr, hw, e]
  rfl
theorem gSet_open {f : Nat → Int32} {own : Int32} {n : Nat} {D : gM} (h : gSet f own n n D) (h0 : ¬ mN D 1 = 0) : gBad f own n n := by
  obtain ⟨-, D0, hr, e, z⟩ := h
  refine gBad_of hr (Nat.le_refl n) (fun z => absurd z (Nat.lt_irrefl n)) (fun _ => decide_eq_false (fun w => h0 ?_))
  rw [e]
  unfold dFin
  split
  · rw [dEnd_p (by omega) (by omega)]; exact w.1
  · exact w.1
def gAt (M : gM) (k : Nat) : Int32 := if k < mN M 2 then mA M 1 k else -1
theorem gAt_y {M : gM} {k : Nat} (h : k < mN M 2) : gAt M k = mA M 1 k := if_pos h
theorem gAt_lt {M : gM} {k : Nat} (h : ¬ gAt M k = -1) : k < mN M 2 := Classical.byContradiction fun z => h (if_neg z)

set_option maxHeartbeats 4000000 in
set_option maxRecDepth 100000 in
theorem c_X9_at (d0 : Nat × Nat) (S : gS) (y : Nat) (b : Nat → Nat → Nat) (M : gM) (r : gRest S y b M) (i : gInv M) (k : Nat) (hk : k < 100000) : gCt d0 yX9_at cX9_at 2 (some .int) 0 0 0 [.ref y, .int (nI k)] S (gRet (.int (gAt M k)) S) gNo := by
  refine gCt_of (lo := [some (.ref y), some (.int (nI k))]) (by decide +kernel) (Nat.le_of_ble_eq_true rfl) (rfl) ?_
  intro Γ hd G F hini
  obtain ⟨i6, i8, i11, i17, i23, i2, i5⟩ := i.b
  refine g_iload_n G dX9_at_0 rfl ?_
  first | refine g_aload_n G dX9_at_1 rfl ?_ | refine g_aload_nN G dX9_at_1 rfl ?_ | refine g_aload_nQ G dX9_at_1 rfl ?_
  refine g_getI G fl_X9_110 (r.kd) (by first | decide | omega) rfl (r.n 2 rfl) dX9_at_2 ?_
  refine g_icmp_ge (tgt := 17) G dX9_at_5 (by decide) (fun c_5 => ?_) (fun c_5 => ?_)
  · have e9 : gAt M k = -1 := if_neg (by have := (nI_leI (by omega) (by omega)).mp c_5; omega)
    refine g_iconst (v := (-1)) G dX9_at_17 (by decide) ?_
    exact g_iret G F (⟨by rw [e9], rfl⟩) (by omega) (by omega) dX9_at_18
  · have hk2 : k < mN M 2 := by
      have z : ¬ mN M 2 ≤ k := fun z => c_5 ((nI_leI (by omega) (by omega)).mpr z)
      omega
    have e9 : gAt M k = mA M 1 k := if_pos hk2
    first | refine g_aload_n G dX9_at_8 rfl ?_ | refine g_aload_nN G dX9_at_8 rfl ?_ | refine g_aload_nQ G dX9_at_8 rfl ?_
    refine g_getR G fl_X9_9 (r.kd) (by first | decide | omega) rfl (r.Y 1 rfl) dX9_at_9 ?_
    refine g_iload_n G dX9_at_12 rfl ?_
    refine g_iald G (r.A 1 rfl) (by first | decide | omega) (r.lt 1 999 rfl (by omega)) (by omega) (r.t (by omega)) dX9_at_13 ?_
    refine g_goto (tgt := 18) G dX9_at_14 (by decide) ?_
    exact g_iret G F (⟨by rw [e9], rfl⟩) (by omega) (by omega) dX9_at_18

set_option maxHeartbeats 4000000 in
set_option maxRecDepth 100000 in
theorem c_X9_isLetter (d0 : Nat × Nat) (S : gS) (v : Int32) : gCt d0 yX9_isLetter cX9_isLetter 1 (some .boolean) 1 0 0 [.int v] S (gRet (.int (gB (dLet v))) S) gNo := by
  refine gCt_of (lo := [some (.int v)]) (by decide +kernel) (Nat.le_of_ble_eq_true rfl) (rfl) ?_
  intro Γ hd G F hini
  refine g_iload_n G dX9_isLetter_0 rfl ?_
  refine g_bipush (v := nI 65) G dX9_isLetter_1 (by decide) ?_
  refine g_bipush (v := nI 90) G dX9_isLetter_3 (by decide) ?_
  refine g_callSp G (c_X9_isIn _ _ _ _ _) mt_X9_isIn ms_X9_isIn ml_X9_97 (by decide) (by omega) (by omega) rfl (Nat.le_of_ble_eq_true rfl) dX9_isLetter_5 ?_
  refine g_if_ne (tgt := 22) G dX9_isLetter_8 (by decide) (fun c_8 => ?_) (fun c_8 => ?_)
  · have e9 : dLet v = true := decide_eq_true (Or.inl (of_decide_eq_true (gB_ne0.mp c_8)))
    refine g_iconst (v := nI 1) G dX9_isLetter_22 (by decide) ?_
    refine g_goto (tgt := 27) G dX9_isLetter_23 (by decide) ?_
    exact g_zret G F (by first | exact Or.inl rfl | exact Or.inr rfl | assumption) (⟨by rw [e9]; rfl, rfl⟩) (by omega) (by omega) dX9_isLetter_27
  · have n1 := of_decide_eq_false (gB_eq0.mp c_8)
    refine g_iload_n G dX9_isLetter_11 rfl ?_
    refine g_bipush (v := nI 97) G dX9_isLetter_12 (by decide) ?_
    refine g_bipush (v := nI 122) G dX9_isLetter_14 (by decide) ?_
    refine g_callSp G (c_X9_isIn _ _ _ _ _) mt_X9_isIn ms_X9_isIn ml_X9_97 (by decide) (by omega) (by omega) rfl (Nat.le_of_ble_eq_true rfl) dX9_isLetter_16 ?_
    refine g_if_eq (tgt := 26) G dX9_isLetter_19 (by decide) (fun c_19 => ?_) (fun c_19 => ?_)
    · have e9 : dLet v = false := decide_eq_false (fun z => z.elim n1 (of_decide_eq_false (gB_eq0.mp c_19)))
      refine g_iconst (v := nI 0) G dX9_isLetter_26 (by decide) ?_
      exact g_zret G F (by first | exact Or.inl rfl | exact Or.inr rfl | assumption) (⟨by rw [e9]; rfl, rfl⟩) (by omega) (by omega) dX9_isLetter_27
    · have e9 : dLet v = true := decide_eq_true (Or.inr (of_decide_eq_true (gB_ne0.mp c_19)))
      refine g_iconst (v := nI 1) G dX9_isLetter_22 (by decide) ?_
      refine g_goto (tgt := 27) G dX9_isLetter_23 (by decide) ?_
      exact g_zret G F (by first | exact Or.inl rfl | exact Or.inr rfl | assumption) (⟨by rw [e9]; rfl, rfl⟩) (by omega) (by omega) dX9_isLetter_27

set_option maxHeartbeats 4000000 in
set_option maxRecDepth 100000 in
theorem c_X9_write (d0 : Nat × Nat) (S : gS) (y : Nat) (b : Nat → Nat → Nat) (M : gM) (h : gRef S y b M) (W : Nat) (hW : gX S 11 32 y = nI W) (hw : W < 2500) (one own mk : Int32) : gCt d0 yX9_write cX9_write 4 none 0 0 0 [.ref y, .int one, .int own, .int mk] S (fun v' S' => v' = none ∧ S' = wrS S y b W one own mk) gNo := by
  refine gCt_of (lo := [some (.ref y), some (.int one), some (.int own), some (.int mk)]) (by decide +kernel) (Nat.le_of_ble_eq_true rfl) (rfl) ?_
  intro Γ hd G F hini
  have r := h.1
  first | refine g_aload_n G dX9_write_0 rfl ?_ | refine g_aload_nN G dX9_write_0 rfl ?_ | refine g_aload_nQ G dX9_write_0 rfl ?_
  refine g_getR G fl_X9_82 (r.kd) (by first | decide | omega) rfl (r.Y 29 rfl) dX9_write_1 ?_
  first | refine g_aload_n G dX9_write_4 rfl ?_ | refine g_aload_nN G dX9_write_4 rfl ?_ | refine g_aload_nQ G dX9_write_4 rfl ?_
  refine g_getI G fl_X9_117 (r.kd) (by first | decide | omega) rfl (hW) dX9_write_5 ?_
  refine g_iload_n G dX9_write_8 rfl ?_
  refine g_iast G (r.A 29 rfl) (by first | decide | omega) (r.lt 29 2499 rfl (by omega)) (by omega) (rfl) dX9_write_9 ?_
  first | refine g_aload_n G dX9_write_10 rfl ?_ | refine g_aload_nN G dX9_write_10 rfl ?_ | refine g_aload_nQ G dX9_write_10 rfl ?_
  refine g_getR G fl_X9_85 (r.kd) (by first | decide | omega) rfl (r.Y 30 rfl) dX9_write_11 ?_
  first | refine g_aload_n G dX9_write_14 rfl ?_ | refine g_aload_nN G dX9_write_14 rfl ?_ | refine g_aload_nQ G dX9_write_14 rfl ?_
  refine g_getI G fl_X9_117 (r.kd) (by first | decide | omega) rfl (sX_k (by decide) hW) dX9_write_15 ?_
  refine g_iload_n G dX9_write_18 rfl ?_
  refine g_iast G (r.A 30 rfl) (by first | decide | omega) (r.lt 30 2499 rfl (by omega)) (by omega) (rfl) dX9_write_19 ?_
  first | refine g_aload_n G dX9_write_20 rfl ?_ | refine g_aload_nN G dX9_write_20 rfl ?_ | refine g_aload_nQ G dX9_write_20 rfl ?_
  refine g_getR G fl_X9_88 (r.kd) (by first | decide | omega) rfl (r.Y 31 rfl) dX9_write_21 ?_
  first | refine g_aload_n G dX9_write_24 rfl ?_ | refine g_aload_nN G dX9_write_24 rfl ?_ | refine g_aload_nQ G dX9_write_24 rfl ?_
  refine g_getI G fl_X9_117 (r.kd) (by first | decide | omega) rfl (sX_k (by decide) (sX_k (by decide) hW)) dX9_write_25 ?_
  refine g_iload_n G dX9_write_28 rfl ?_
  refine g_iast G (r.A 31 rfl) (by first | decide | omega) (r.lt 31 2499 rfl (by omega)) (by omega) (rfl) dX9_write_29 ?_
  first | refine g_aload_n G dX9_write_30 rfl ?_ | refine g_aload_nN G dX9_write_30 rfl ?_ | refine g_aload_nQ G dX9_write_30 rfl ?_
  refine g_dup G dX9_write_31 rfl ?_
  refine g_getI G fl_X9_117 (r.kd) (by first | decide | omega) rfl (sX_k (by decide) (sX_k (by decide) (sX_k (by decide) hW))) dX9_write_32 ?_
  refine g_iconst (v := nI 1) G dX9_write_35 (by decide) ?_
  refine g_iadd G dX9_write_36 (by first | exact nI_add _ _ | rfl) ?_
  refine g_putI G fl_X9_117 pu_10_32 (r.kd) (by first | decide | omega) rfl dX9_write_37 ?_
  exact g_vret G F (⟨rfl, rfl⟩) (by omega) (by omega) dX9_write_40
