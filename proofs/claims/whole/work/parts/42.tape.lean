/-! ===== take ===== -/
def dStart (own : Int32) : gM := (fun _ => 0, fun f j => if f = 4 ∧ j = 1 then -1 else if f = 4 ∧ j = 2 then own else nI 0, fun _ _ _ => nI 0)
def dRes (f : Nat → Int32) (own : Int32) : Nat → Nat ⊕ gM
  | 0 => .inr (dStart own)
  | k + 1 => match dRes f own k with
    | .inl i => .inl i
    | .inr D => if dOk D (f k) then .inr (dNx D (f k) k) else .inl k
theorem dRes_s {f : Nat → Int32} {own : Int32} {k : Nat} {D : gM} (h : dRes f own k = .inr D) : dRes f own (k + 1) = if dOk D (f k) then .inr (dNx D (f k) k) else .inl k := by
  rw [dRes, h]
theorem dRes_l {f : Nat → Int32} {own : Int32} {k i : Nat} (h : dRes f own k = .inl i) : ∀ j, dRes f own (k + j) = .inl i
  | 0 => h
  | j + 1 => by
    have ih := dRes_l h j
    rw [show k + (j + 1) = k + j + 1 by omega, dRes, ih]
def dFin (D : gM) : gM := if mN D 2 = 4 then dEnd D else D
def dOut (f : Nat → Int32) (own : Int32) (n : Nat) : Int32 × Int32 × gM := match dRes f own n with
  | .inl i => (nI 1, nI i, dStart own)
  | .inr D => if dWhole D then (if mA (dFin D) 4 1 < 0 then nI 0 else nI 2, mA (dFin D) 4 1, dFin D) else (nI 1, nI n, D)
theorem dOut_l {f : Nat → Int32} {own : Int32} {n i : Nat} (h : dRes f own n = .inl i) : dOut f own n = (nI 1, nI i, dStart own) := by
  rw [dOut, h]
theorem dOut_r {f : Nat → Int32} {own : Int32} {n : Nat} {D : gM} (h : dRes f own n = .inr D) : dOut f own n = if dWhole D then (if mA (dFin D) 4 1 < 0 then nI 0 else nI 2, mA (dFin D) 4 1, dFin D) else (nI 1, nI n, D) := by
  rw [dOut, h]
theorem dStart_B (own : Int32) : dB (dStart own) 0 := dB_no (show (0 : Nat) ≠ 4 by decide) (show 2 * 0 ≤ 5 * 0 by decide)

theorem gDra_e {S : gS} {ad : Nat → Nat → Nat} {D : gM} (h : gDra S ad D) {v : Int32} : gDra (sX S 4 5 (ad 6 2) (v)) ad D ∧ gFr dK S (sX S 4 5 (ad 6 2) (v)) := by
  obtain ⟨⟨q1, q2, q3, q4, q5, q6, q7, q8⟩, ⟨i1, i2, i3, i4, i5, i6, i7, i8⟩, ⟨f1, f2, f3, f4, f5, f6⟩, g1, g2, rr, vv⟩ := id h
  exact ⟨⟨⟨q1, q2, q3, q4, q5, q6, q7, (sX_k (by decide) q8)⟩, ⟨i1, i2, i3, i4, i5, i6, i7, i8⟩, ⟨(sX_p (by decide) f1), (sX_p (by decide) f2), (sX_p (by decide) f3), (sX_p (by decide) f4), (sX_p (by decide) f5), (sX_p (by decide) f6)⟩, fun z => (sX_p (by decide) (g1 z)), fun z => ⟨(sX_p (by decide) (g2 z).1), (sX_p (by decide) (g2 z).2)⟩, fun i hi => ⟨(sX_k (by decide) (rr i hi).1), (sX_k (by decide) (rr i hi).2.1), (sX_k (by decide) (rr i hi).2.2)⟩, fun i hi => (sX_k (by decide) (vv i hi))⟩, (gFr.rf S).X1 _ _ _ (fun _ z => z.1)⟩

set_option maxHeartbeats 4000000 in
set_option maxRecDepth 100000 in
theorem c_X2_start (d0 : Nat × Nat) (S : gS) (ad : Nat → Nat → Nat) (h : gDrq S ad) (own : Int32) : gCt d0 yX2_start cX2_start 2 none 1 0 0 [.ref (ad 6 2), .int own] S (fun v' S' => v' = none ∧ gDra S' ad (dStart own) ∧ gFr dK S S') gNo := by
  refine gCt_of (lo := [some (.ref (ad 6 2)), some (.int own)]) (by decide +kernel) (Nat.le_of_ble_eq_true rfl) (rfl) ?_
  intro Γ hd G F hini
  obtain ⟨q1, q2, q3, q4, q5, q6, q7, q8⟩ := id h
  first | refine g_aload_n G dX2_start_0 rfl ?_ | refine g_aload_nN G dX2_start_0 rfl ?_ | refine g_aload_nQ G dX2_start_0 rfl ?_
  refine g_iconst (v := nI 0) G dX2_start_1 (by decide) ?_
  refine g_putI G fl_X2_50 pu_3_3 (q1) (by first | decide | omega) rfl dX2_start_2 ?_
  first | refine g_aload_n G dX2_start_5 rfl ?_ | refine g_aload_nN G dX2_start_5 rfl ?_ | refine g_aload_nQ G dX2_start_5 rfl ?_
  refine g_iconst (v := nI 0) G dX2_start_6 (by decide) ?_
  refine g_putI G fl_X2_53 pu_3_4 (q1) (by first | decide | omega) rfl dX2_start_7 ?_
  first | refine g_aload_n G dX2_start_10 rfl ?_ | refine g_aload_nN G dX2_start_10 rfl ?_ | refine g_aload_nQ G dX2_start_10 rfl ?_
  refine g_iconst (v := nI 0) G dX2_start_11 (by decide) ?_
  refine g_putI G fl_X2_56 pu_3_7 (q1) (by first | decide | omega) rfl dX2_start_12 ?_
  first | refine g_aload_n G dX2_start_15 rfl ?_ | refine g_aload_nN G dX2_start_15 rfl ?_ | refine g_aload_nQ G dX2_start_15 rfl ?_
  refine g_iconst (v := nI 0) G dX2_start_16 (by decide) ?_
  refine g_putI G fl_X2_41 pu_3_8 (q1) (by first | decide | omega) rfl dX2_start_17 ?_
  first | refine g_aload_n G dX2_start_20 rfl ?_ | refine g_aload_nN G dX2_start_20 rfl ?_ | refine g_aload_nQ G dX2_start_20 rfl ?_
  refine g_iload_n G dX2_start_21 rfl ?_
  refine g_putI G fl_X2_59 pu_3_12 (q1) (by first | decide | omega) rfl dX2_start_22 ?_
  first | refine g_aload_n G dX2_start_25 rfl ?_ | refine g_aload_nN G dX2_start_25 rfl ?_ | refine g_aload_nQ G dX2_start_25 rfl ?_
  refine g_iconst (v := (-1)) G dX2_start_26 (by decide) ?_
  refine g_putI G fl_X2_47 pu_3_13 (q1) (by first | decide | omega) rfl dX2_start_27 ?_
  exact g_vret G F (⟨rfl, ⟨⟨q1, q2, q3, q4, q5, q6, q7, (sX_k (by decide) (sX_k (by decide) (sX_k (by decide) (sX_k (by decide) (sX_k (by decide) (sX_k (by decide) q8))))))⟩, ⟨Nat.zero_le _, Nat.zero_le _, fun i _ => gWt_d (n := 0) (by omega) (by omega), Nat.zero_le _, fun (z : (0 : Nat) = 1) => absurd z (by decide), fun (z : 3 ≤ (0 : Nat)) => absurd z (by decide), fun (z : (0 : Nat) = 4) => absurd z (by decide), fun i hi => absurd hi (Nat.not_lt_zero i)⟩, ⟨(sX_p (by decide) (sX_p (by decide) (sX_p (by decide) (sX_p (by decide) (sX_p (by decide) sX_s))))), (sX_p (by decide) (sX_p (by decide) (sX_p (by decide) (sX_p (by decide) sX_s)))), (sX_p (by decide) (sX_p (by decide) (sX_p (by decide) sX_s))), (sX_p (by decide) (sX_p (by decide) sX_s)), (sX_p (by decide) sX_s), sX_s⟩, fun (z : 3 ≤ (0 : Nat)) => absurd z (by decide), fun (z : (0 : Nat) = 4) => absurd z (by decide), fun i hi => absurd hi (Nat.not_lt_zero i), fun i (hi : i ≤ 0) => by rw [Nat.le_zero.mp hi]; exact (sX_k (by decide) (sX_k (by decide) (sX_k (by decide) (sX_k (by decide) (sX_k (by decide) (sX_k (by decide) q8))))))⟩, (((((gFr_d4 S _ _ _).X1 _ _ _ (fun _ z => z.1)).X1 _ _ _ (fun _ z => z.1)).X1 _ _ _ (fun _ z => z.1)).X1 _ _ _ (fun _ z => z.1)).X1 _ _ _ (fun _ z => z.1)⟩) (by omega) (by omega) dX2_start_30

set_option maxHeartbeats 4000000 in
set_option maxRecDepth 100000 in
theorem c_X2_isWhole (d0 : Nat × Nat) (S : gS) (ad : Nat → Nat → Nat) (D : gM) (h : gDra S ad D) : gCt d0 yX2_isWhole cX2_isWhole 1 (some .boolean) 1 0 0 [.ref (ad 6 2)] S (gRet (.int (gB (dWhole D))) S) gNo := by
  refine gCt_of (lo := [some (.ref (ad 6 2))]) (by decide +kernel) (Nat.le_of_ble_eq_true rfl) (rfl) ?_
  intro Γ hd G F hini
  obtain ⟨⟨q1, q2, q3, q4, q5, q6, q7, q8⟩, ⟨i1, i2, i3, i4, i5, i6, i7, i8⟩, ⟨f1, f2, f3, f4, f5, f6⟩, g1, g2, rr, vv⟩ := id h
  first | refine g_aload_n G dX2_isWhole_0 rfl ?_ | refine g_aload_nN G dX2_isWhole_0 rfl ?_ | refine g_aload_nQ G dX2_isWhole_0 rfl ?_
  refine g_getI G fl_X2_56 (q1) (by first | decide | omega) rfl (f3) dX2_isWhole_1 ?_
  refine g_if_ne (tgt := 33) G dX2_isWhole_4 (by decide) (fun c_4 => ?_) (fun c_4 => ?_)
  · have e9 : dWhole D = false := decide_eq_false (fun z => c_4 (by rw [z.1]; rfl))
    refine g_iconst (v := nI 0) G dX2_isWhole_33 (by decide) ?_
    exact g_zret G F (by first | exact Or.inl rfl | exact Or.inr rfl | assumption) (⟨by rw [e9]; rfl, rfl⟩) (by omega) (by omega) dX2_isWhole_34
  · have h1 : mN D 1 = 0 := (nI_eq (b := 0) (by omega) (by omega)).mp c_4
    first | refine g_aload_n G dX2_isWhole_7 rfl ?_ | refine g_aload_nN G dX2_isWhole_7 rfl ?_ | refine g_aload_nQ G dX2_isWhole_7 rfl ?_
    refine g_getI G fl_X2_41 (q1) (by first | decide | omega) rfl (f4) dX2_isWhole_8 ?_
    refine g_if_eq (tgt := 29) G dX2_isWhole_11 (by decide) (fun c_11 => ?_) (fun c_11 => ?_)
    · have h2 : mN D 2 = 0 := (nI_eq (b := 0) (by omega) (by omega)).mp c_11
      have e9 : dWhole D = true := decide_eq_true (⟨h1, Or.inl h2⟩)
      refine g_iconst (v := nI 1) G dX2_isWhole_29 (by decide) ?_
      refine g_goto (tgt := 34) G dX2_isWhole_30 (by decide) ?_
      exact g_zret G F (by first | exact Or.inl rfl | exact Or.inr rfl | assumption) (⟨by rw [e9]; rfl, rfl⟩) (by omega) (by omega) dX2_isWhole_34
    · have h2 : ¬ mN D 2 = 0 := fun z => c_11 (by rw [z]; rfl)
      first | refine g_aload_n G dX2_isWhole_14 rfl ?_ | refine g_aload_nN G dX2_isWhole_14 rfl ?_ | refine g_aload_nQ G dX2_isWhole_14 rfl ?_
      refine g_getI G fl_X2_41 (q1) (by first | decide | omega) rfl (f4) dX2_isWhole_15 ?_
      refine g_iconst (v := nI 4) G dX2_isWhole_18 (by decide) ?_
      refine g_icmp_ne (tgt := 33) G dX2_isWhole_19 (by decide) (fun c_19 => ?_) (fun c_19 => ?_)
      · have e9 : dWhole D = false := decide_eq_false (fun z => z.2.elim h2 (fun y => c_19 (by rw [y.1])))
        refine g_iconst (v := nI 0) G dX2_isWhole_33 (by decide) ?_
        exact g_zret G F (by first | exact Or.inl rfl | exact Or.inr rfl | assumption) (⟨by rw [e9]; rfl, rfl⟩) (by omega) (by omega) dX2_isWhole_34
      · have h4 : mN D 2 = 4 := (nI_eq (b := 4) (by omega) (by omega)).mp c_19
        have h3 := g1 (by omega)
        have h12 := i6 (by omega)
        first | refine g_aload_n G dX2_isWhole_22 rfl ?_ | refine g_aload_nN G dX2_isWhole_22 rfl ?_ | refine g_aload_nQ G dX2_isWhole_22 rfl ?_
        refine g_getI G fl_X2_62 (q1) (by first | decide | omega) rfl (h3) dX2_isWhole_23 ?_
        refine g_if_le (tgt := 33) G dX2_isWhole_26 (by decide) (fun c_26 => ?_) (fun c_26 => ?_)
        · have e9 : dWhole D = false := decide_eq_false (fun z => z.2.elim h2 (fun y => absurd (nI_lt (a := 0) y.2 (by omega)) (Int32.not_lt.mpr c_26)))
          refine g_iconst (v := nI 0) G dX2_isWhole_33 (by decide) ?_
          exact g_zret G F (by first | exact Or.inl rfl | exact Or.inr rfl | assumption) (⟨by rw [e9]; rfl, rfl⟩) (by omega) (by omega) dX2_isWhole_34
        · have e9 : dWhole D = true := decide_eq_true (⟨h1, Or.inr ⟨h4, by
            by_cases z : 0 < mN D 3
            · exact z
            · exact absurd (show nI (mN D 3) ≤ nI 0 by rw [show mN D 3 = 0 by omega]; decide) c_26⟩⟩)
          refine g_iconst (v := nI 1) G dX2_isWhole_29 (by decide) ?_
          refine g_goto (tgt := 34) G dX2_isWhole_30 (by decide) ?_
          exact g_zret G F (by first | exact Or.inl rfl | exact Or.inr rfl | assumption) (⟨by rw [e9]; rfl, rfl⟩) (by omega) (by omega) dX2_isWhole_34

set_option maxHeartbeats 4000000 in
set_option maxRecDepth 100000 in
theorem c_X2_take (d0 : Nat × Nat) (S : gS) (ad : Nat → Nat → Nat) (h : gDrq S ad) (t9 : Nat) (hk : gK S t9 = 49) (hl : gL S t9 = 1000) (n : Nat) (hn : n ≤ 1000) (f : Nat → Int32) (hf : ∀ i, i < n → gX S 49 t9 i = f i) (own : Int32) : gCt d0 yX2_take cX2_take 5 (some .int) 6 0 0 [.ref (ad 6 2), .ref t9, .int (nI n), .int own] S (fun v' S' => gDrq S' ad ∧ gFr dK S S' ∧ v' = some (.int (dOut f own n).1) ∧ gX S' 4 5 (ad 6 2) = (dOut f own n).2.1 ∧ ((dOut f own n).1 = nI 0 → gDra S' ad (dOut f own n).2.2)) gNo := by
  refine gCt_of (lo := [some (.ref (ad 6 2)), some (.ref t9), some (.int (nI n)), some (.int own), none]) (by decide +kernel) (Nat.le_of_ble_eq_true rfl) (rfl) ?_
  intro Γ hd G F hini
  subst hd
  first | refine g_aload_n G dX2_take_0 rfl ?_ | refine g_aload_nN G dX2_take_0 rfl ?_ | refine g_aload_nQ G dX2_take_0 rfl ?_
  refine g_iload_n G dX2_take_1 rfl ?_
  refine g_callV (ci := 3) G (c_X2_start _ S ad h own) mt_X2_start mi_X2_start ml_X2_25 (h.1) (by first | decide | omega) rfl (by decide) (by omega) (by omega) rfl (Nat.le_of_ble_eq_true rfl) dX2_take_2 (fun v_2 S_2 hp_2 => ?_)
  obtain ⟨rfl, hD0, hF0⟩ := hp_2
  simp only [Option.toList, List.nil_append]
  refine g_iconst (v := nI 0) G dX2_take_5 (by decide) ?_
  refine g_istore G dX2_take_6 (gSt_4 (by first | rfl | exact g_c1_rf)) ?_
  have inner8 : ∀ f2 t : Nat, ∀ St : gS, t ≤ n → n + 1 ≤ t + f2 → ((∃ D, dRes f own t = .inr D ∧ gDra St ad D ∧ dB D t) ∧ gFr dK S St) → gW Γ 8 [some (.ref (ad 6 2)), some (.ref t9), some (.int (nI n)), some (.int own), some (.int (nI (t)))] [] St 0 0 := by
    intro f2
    induction f2 with
    | zero => intro t St q1 q2; omega
    | succ f2 ih2 =>
      intro t St ht2 hf2  hv2
      obtain ⟨⟨D, hR, hD, hB⟩, Fs⟩ := hv2
      refine g_iload G dX2_take_8 rfl ?_
      refine g_iload_n G dX2_take_10 rfl ?_
      refine g_icmp_ge (tgt := 48) G dX2_take_11 (by decide) (fun c_11 => ?_) (fun c_11 => ?_)
      · have et : t = n := by have := (nI_leI (by omega) (by omega)).mp c_11; omega
        subst et
        first | refine g_aload_n G dX2_take_48 rfl ?_ | refine g_aload_nN G dX2_take_48 rfl ?_ | refine g_aload_nQ G dX2_take_48 rfl ?_
        refine g_callVp (ci := 3) G (c_X2_isWhole _ St ad D hD) mt_X2_isWhole mi_X2_isWhole ml_X2_37 (hD.1.1) (by first | decide | omega) rfl (by decide) (by omega) (by omega) rfl (Nat.le_of_ble_eq_true rfl) dX2_take_49 ?_
        refine g_if_ne (tgt := 62) G dX2_take_52 (by decide) (fun c_52 => ?_) (fun c_52 => ?_)
        · have e9 : dWhole D = true := gB_ne0.mp c_52
          have e8 := (dOut_r hR).trans (if_pos e9)
          obtain ⟨w1, w2⟩ := of_decide_eq_true e9
          first | refine g_aload_n G dX2_take_62 rfl ?_ | refine g_aload_nN G dX2_take_62 rfl ?_ | refine g_aload_nQ G dX2_take_62 rfl ?_
          refine g_getI G fl_X2_41 (hD.1.1) (by first | decide | omega) rfl (hD.2.2.1.2.2.2.1) dX2_take_63 ?_
          refine g_iconst (v := nI 4) G dX2_take_66 (by decide) ?_
          refine g_icmp_ne (tgt := 74) G dX2_take_67 (by decide) (fun c_67 => ?_) (fun c_67 => ?_)
          · have h4 : ¬ mN D 2 = 4 := fun z => c_67 (by rw [z])
            have e7 : dFin D = D := if_neg h4
            have hZ : gDra St ad (dFin D) := by rw [e7]; exact hD
            have hFZ := Fs
            first | refine g_aload_n G dX2_take_74 rfl ?_ | refine g_aload_nN G dX2_take_74 rfl ?_ | refine g_aload_nQ G dX2_take_74 rfl ?_
            first | refine g_aload_n G dX2_take_75 rfl ?_ | refine g_aload_nN G dX2_take_75 rfl ?_ | refine g_aload_nQ G dX2_take_75 rfl ?_
            refine g_getI G fl_X2_47 (hZ.1.1) (by first | decide | omega) rfl (hZ.2.2.1.2.2.2.2.2) dX2_take_76 ?_
            refine g_putI G fl_X2_33 pu_3_5 (hZ.1.1) (by first | decide | omega) rfl dX2_take_79 ?_
            obtain ⟨hY, hFY⟩ := gDra_e (v := mA (dFin D) 4 1) hZ
            have hFW := hFZ.tr (K := dK) hFY (fun _ z => ⟨z, z⟩)
            first | refine g_aload_n G dX2_take_82 rfl ?_ | refine g_aload_nN G dX2_take_82 rfl ?_ | refine g_aload_nQ G dX2_take_82 rfl ?_
            refine g_getI G fl_X2_47 (hY.1.1) (by first | decide | omega) rfl (hY.2.2.1.2.2.2.2.2) dX2_take_83 ?_
            refine g_if_lt (tgt := 93) G dX2_take_86 (by decide) (fun c_86 => ?_) (fun c_86 => ?_)
            · have e6 : (if mA (dFin D) 4 1 < 0 then nI 0 else nI 2) = nI 0 := if_pos c_86
              rw [e6] at e8
              refine g_iconst (v := nI 0) G dX2_take_93 (by decide) ?_
              exact g_iret G F (⟨hY.1, hFW, by rw [e8], by rw [e8]; exact sX_s, fun z => by rw [e8]; exact hY⟩) (by omega) (by omega) dX2_take_94
            · have e6 : (if mA (dFin D) 4 1 < 0 then nI 0 else nI 2) = nI 2 := if_neg c_86
              rw [e6] at e8
              refine g_iconst (v := nI 2) G dX2_take_89 (by decide) ?_
              refine g_goto (tgt := 94) G dX2_take_90 (by decide) ?_
              exact g_iret G F (⟨hY.1, hFW, by rw [e8], by rw [e8]; exact sX_s, fun z => by rw [e8]; exact hY⟩) (by omega) (by omega) dX2_take_94
          · have h4 : mN D 2 = 4 := (nI_eq (b := 4) (by have := hD.2.1.2.2.2.1; omega) (by omega)).mp c_67
            have e7 : dFin D = dEnd D := if_pos h4
            obtain ⟨b1, b2, b3⟩ := hB.1 h4
            have hr0 : 0 < mN D 3 := w2.elim (fun z => by omega) (fun z => z.2)
            first | refine g_aload_n G dX2_take_70 rfl ?_ | refine g_aload_nN G dX2_take_70 rfl ?_ | refine g_aload_nQ G dX2_take_70 rfl ?_
            refine g_callV (ci := 3) G (c_X2_endNumber _ St ad D hD h4 (by omega) (fun z => by
              have h1 : mN D 3 ≠ 1 := fun y => by rw [y] at b2; exact z b2
              omega)) mt_X2_endNumber mi_X2_endNumber ml_X2_44 (hD.1.1) (by first | decide | omega) rfl (by decide) (by omega) (by omega) rfl (Nat.le_of_ble_eq_true rfl) dX2_take_71 (fun v_71 S_71 hp_71 => ?_)
            obtain ⟨rfl, hDe, hFe⟩ := hp_71
            simp only [Option.toList, List.nil_append]
            have hZ : gDra S_71 ad (dFin D) := by rw [e7]; exact hDe
            have hFZ := Fs.tr (K := dK) hFe (fun _ z => ⟨z, z⟩)
            first | refine g_aload_n G dX2_take_74 rfl ?_ | refine g_aload_nN G dX2_take_74 rfl ?_ | refine g_aload_nQ G dX2_take_74 rfl ?_
            first | refine g_aload_n G dX2_take_75 rfl ?_ | refine g_aload_nN G dX2_take_75 rfl ?_ | refine g_aload_nQ G dX2_take_75 rfl ?_
            refine g_getI G fl_X2_47 (hZ.1.1) (by first | decide | omega) rfl (hZ.2.2.1.2.2.2.2.2) dX2_take_76 ?_
            refine g_putI G fl_X2_33 pu_3_5 (hZ.1.1) (by first | decide | omega) rfl dX2_take_79 ?_
            obtain ⟨hY, hFY⟩ := gDra_e (v := mA (dFin D) 4 1) hZ
            have hFW := hFZ.tr (K := dK) hFY (fun _ z => ⟨z, z⟩)
            first | refine g_aload_n G dX2_take_82 rfl ?_ | refine g_aload_nN G dX2_take_82 rfl ?_ | refine g_aload_nQ G dX2_take_82 rfl ?_
            refine g_getI G fl_X2_47 (hY.1.1) (by first | decide | omega) rfl (hY.2.2.1.2.2.2.2.2) dX2_take_83 ?_
            refine g_if_lt (tgt := 93) G dX2_take_86 (by decide) (fun c_86 => ?_) (fun c_86 => ?_)
            · have e6 : (if mA (dFin D) 4 1 < 0 then nI 0 else nI 2) = nI 0 := if_pos c_86
              rw [e6] at e8
              refine g_iconst (v := nI 0) G dX2_take_93 (by decide) ?_
              exact g_iret G F (⟨hY.1, hFW, by rw [e8], by rw [e8]; exact sX_s, fun z => by rw [e8]; exact hY⟩) (by omega) (by omega) dX2_take_94
            · have e6 : (if mA (dFin D) 4 1 < 0 then nI 0 else nI 2) = nI 2 := if_neg c_86
              rw [e6] at e8
              refine g_iconst (v := nI 2) G dX2_take_89 (by decide) ?_
              refine g_goto (tgt := 94) G dX2_take_90 (by decide) ?_
              exact g_iret G F (⟨hY.1, hFW, by rw [e8], by rw [e8]; exact sX_s, fun z => by rw [e8]; exact hY⟩) (by omega) (by omega) dX2_take_94
        · have e9 : ¬ dWhole D = true := fun z => by rw [z] at c_52; exact absurd c_52 (by decide)
          have e8 := (dOut_r hR).trans (if_neg e9)
          first | refine g_aload_n G dX2_take_55 rfl ?_ | refine g_aload_nN G dX2_take_55 rfl ?_ | refine g_aload_nQ G dX2_take_55 rfl ?_
          refine g_iload_n G dX2_take_56 rfl ?_
          refine g_putI G fl_X2_33 pu_3_5 (hD.1.1) (by first | decide | omega) rfl dX2_take_57 ?_
          refine g_iconst (v := nI 1) G dX2_take_60 (by decide) ?_
          exact g_iret G F (⟨gDrq_sX hD.1 (by decide), Fs.tr (K := dK) (gFr_d4 _ _ _ _) (fun _ z => ⟨z, z⟩), by rw [e8], by rw [e8]; exact sX_s, fun z => by rw [e8] at z; exact absurd (show nI 1 = nI 0 from z) (by decide)⟩) (by omega) (by omega) dX2_take_61
      · have hlt2 : t < n := by have z : ¬ n ≤ t := fun z => c_11 ((nI_leI (by omega) (by omega)).mpr z); omega
        refine g_iload G dX2_take_14 rfl ?_
        first | refine g_aload_n G dX2_take_16 rfl ?_ | refine g_aload_nN G dX2_take_16 rfl ?_ | refine g_aload_nQ G dX2_take_16 rfl ?_
        refine g_alen G (Fs.K hk (by decide)) (by first | decide | omega) (((Fs.1 t9 (by rw [hk]; decide)).2).trans hl) dX2_take_17 ?_
        refine g_icmp_ge (tgt := 48) G dX2_take_18 (by decide) (fun c_18 => (absurd c_18 (nI_ge (b := 1000) (show t < 1000 by omega) (by omega)))) (fun c_18 => ?_)
        first | refine g_aload_n G dX2_take_21 rfl ?_ | refine g_aload_nN G dX2_take_21 rfl ?_ | refine g_aload_nQ G dX2_take_21 rfl ?_
        first | refine g_aload_n G dX2_take_22 rfl ?_ | refine g_aload_nN G dX2_take_22 rfl ?_ | refine g_aload_nQ G dX2_take_22 rfl ?_
        refine g_iload G dX2_take_23 rfl ?_
        refine g_iald G (Fs.K hk (by decide)) (by first | decide | omega) (by rw [((Fs.1 t9 (by rw [hk]; decide)).2), hl]; omega) (by omega) (Fs.X (by unfold dK; omega) (hf t hlt2)) dX2_take_25 ?_
        refine g_iload G dX2_take_26 rfl ?_
        refine g_callV (ci := 3) G (c_X2_takeByte _ St ad D hD t hB (by omega) (f t)) mt_X2_takeByte mi_X2_takeByte ml_X2_29 (hD.1.1) (by first | decide | omega) rfl (by decide) (by omega) (by omega) rfl (Nat.le_of_ble_eq_true rfl) dX2_take_28 (fun v_28 S_28 hp_28 => ?_)
        obtain ⟨hQ, hF, rfl, hN⟩ := hp_28
        simp only [Option.toList, List.cons_append, List.nil_append]
        have hFF := Fs.tr (K := dK) hF (fun _ z => ⟨z, z⟩)
        have hst := dRes_s hR
        refine g_if_ne (tgt := 42) G dX2_take_31 (by decide) (fun c_31 => ?_) (fun c_31 => ?_)
        · have e9 : dOk D (f t) = true := gB_ne0.mp c_31
          rw [if_pos e9] at hst
          refine g_iinc (v := _) G dX2_take_42 rfl (by first | exact nI_1 _ | rfl) (gSt_4 (by first | rfl | exact g_c1_rf)) ?_
          refine g_goto (tgt := 8) G dX2_take_45 (by decide) ?_
          exact ih2 (t + 1) _ (by omega) (by omega) ⟨⟨_, hst, hN e9, dNx_B hD.2.1 hB e9⟩, hFF⟩
        · have e9 : ¬ dOk D (f t) = true := fun z => by rw [z] at c_31; exact absurd c_31 (by decide)
          rw [if_neg e9] at hst
          have hend := dRes_l hst (n - (t + 1))
          rw [show t + 1 + (n - (t + 1)) = n by omega] at hend
          have e8 := dOut_l hend
          first | refine g_aload_n G dX2_take_34 rfl ?_ | refine g_aload_nN G dX2_take_34 rfl ?_ | refine g_aload_nQ G dX2_take_34 rfl ?_
          refine g_iload G dX2_take_35 rfl ?_
          refine g_putI G fl_X2_33 pu_3_5 (hQ.1) (by first | decide | omega) rfl dX2_take_37 ?_
          refine g_iconst (v := nI 1) G dX2_take_40 (by decide) ?_
          exact g_iret G F (⟨gDrq_sX hQ (by decide), hFF.tr (K := dK) (gFr_d4 _ _ _ _) (fun _ z => ⟨z, z⟩), by rw [e8], by rw [e8]; exact sX_s, fun z => by rw [e8] at z; exact absurd (show nI 1 = nI 0 from z) (by decide)⟩) (by omega) (by omega) dX2_take_41
  exact inner8 (n + 1) 0 _ (by omega) (by omega) ⟨⟨_, rfl, hD0, dStart_B own⟩, hF0⟩
