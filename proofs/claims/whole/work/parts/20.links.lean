/-! ===== links, exhibits, who sees; masks ===== -/
abbrev mC (M : gM) (d : Nat) : Nat := (mA M 12 d).toNatClampNeg
def gRole (M : gM) (v : Int32) : Int32 := mA M 9 v.toNatClampNeg
def gReachOf (M : gM) (p c : Nat) : Int32 := gReach (mA M 9 p) (mA M 41 p) (gBit (mA M 10 p) c)
def gIntoOf (M : gM) (p c : Nat) : Int32 := gInto (mA M 7 c) (gReachOf M p c)
def gTaint (M : gM) (e k : Nat) : Bool := decide (mA M 22 (4 * (12 * e + k) + 3) = nI 1 ∨ (¬ mA M 22 (4 * (12 * e + k) + 2) = -1 ∧ (gRole M (mA M 22 (4 * (12 * e + k) + 2)) = nI 3 ∨ (mA M 22 (4 * (12 * e + k) + 3) = nI 2 ∧ ¬ gRole M (mA M 22 (4 * (12 * e + k) + 2)) = nI 1))))
def gAdm (M : gM) (e : Nat) : Bool := decide (¬ mA M 19 e = -2 ∧ (mA M 19 e = -1 ∨ gRole M (mA M 19 e) = nI 1 ∨ gRole M (mA M 19 e) = 0) ∧ ∀ k, k < mN M (200 + e) → gTaint M e k = false)
def gor (p : Nat → Bool) : Nat → Int32
  | 0 => nI 0
  | n + 1 => if p n then gor p n ||| (nI 1 <<< (nI n &&& 31)) else gor p n
theorem gor_yes {p : Nat → Bool} {n : Nat} (h : p n = true) : gor p (n + 1) = gor p n ||| (nI 1 <<< (nI n &&& 31)) := if_pos h
theorem gor_no {p : Nat → Bool} {n : Nat} (h : p n = false) : gor p (n + 1) = gor p n := if_neg (by rw [h]; decide)
theorem gPers_inj {d0 : Nat × Nat} {S : gS} {x : Nat} {ad : Nat → Nat → Nat} {M : gM} (h : gMail d0 S x ad M) {p p' : Nat} (hp : p < mN M 8) (hp' : p' < mN M 8) : some (ad 1 p) = some (ad 1 p') ↔ nI p = nI p' := by
  obtain ⟨-, ⟨-, l1, -⟩, -, -, hps, -⟩ := h
  have hN := l1.2.2.1
  refine ⟨fun z => ?_, fun z => ?_⟩
  · have z := Option.some.inj z
    have k1 := (hps p hp).1
    have k2 := (hps p' hp').1
    rw [z, k2] at k1
    rw [show p = p' by omega]
  · rw [(nI_eq (by omega) (by omega)).mp z]

set_option maxHeartbeats 4000000 in
set_option maxRecDepth 100000 in
theorem c_numberOf_no (d0 : Nat × Nat) (S : gS) : gCt d0 yX7_numberOf cX7_numberOf 1 (some .int) 0 0 0 [.null] S (gRet (.int (-1)) S) gNo := by
  refine gCt_of (lo := [some (.null)]) (by decide +kernel) (Nat.le_of_ble_eq_true rfl) rfl ?_
  intro Γ hd G F hini
  first | refine g_aload_n G dX7_numberOf_0 rfl ?_ | refine g_aload_nN G dX7_numberOf_0 rfl ?_ | refine g_aload_nQ G dX7_numberOf_0 rfl ?_
  refine g_ifnonnullN G dX7_numberOf_1 ?_
  refine g_iconst (v := (-1)) G dX7_numberOf_4 (by decide) ?_
  refine g_goto (tgt := 12) G dX7_numberOf_5 (by decide) ?_
  exact g_iret G F (gRi rfl) (by omega) (by omega) dX7_numberOf_12

set_option maxHeartbeats 4000000 in
set_option maxRecDepth 100000 in
theorem c_numberOf_p (d0 : Nat × Nat) (S : gS) (p i : Nat) (role cl att wrn : Int32) (hp : gPers S p i role cl att wrn) : gCt d0 yX7_numberOf cX7_numberOf 1 (some .int) 0 0 0 [.ref p] S (gRet (.int (nI i)) S) gNo := by
  refine gCt_of (lo := [some (.ref p)]) (by decide +kernel) (Nat.le_of_ble_eq_true rfl) rfl ?_
  intro Γ hd G F hini
  obtain ⟨p1, p2, p3, p4, p5, p6⟩ := id hp
  first | refine g_aload_n G dX7_numberOf_0 rfl ?_ | refine g_aload_nN G dX7_numberOf_0 rfl ?_ | refine g_aload_nQ G dX7_numberOf_0 rfl ?_
  refine g_ifnonnull (tgt := 8) G dX7_numberOf_1 (by decide) ?_
  first | refine g_aload_n G dX7_numberOf_8 rfl ?_ | refine g_aload_nN G dX7_numberOf_8 rfl ?_ | refine g_aload_nQ G dX7_numberOf_8 rfl ?_
  refine g_getI G fl_X7_397 (by assumption) (by first | decide | omega) rfl (by first | assumption | rfl) dX7_numberOf_9 ?_
  exact g_iret G F (gRi rfl) (by omega) (by omega) dX7_numberOf_12

theorem c_numberOf (d0 : Nat × Nat) (S : gS) (x : Nat) (ad : Nat → Nat → Nat) (M : gM) (h : gMail d0 S x ad M) (v : Int32) (hv : gPr M v) : gCt d0 yX7_numberOf cX7_numberOf 1 (some .int) 0 0 0 [va_rf (gRf ad v)] S (gRet (.int v) S) gNo := by
  have hN := h.2.1.2.1.2.2.1
  have hps := h.2.2.2.2.1
  rcases hv with rfl | ⟨p, hp, rfl⟩
  · rw [gRf_1]
    exact c_numberOf_no d0 S
  · rw [gRf_p (by omega)]
    exact c_numberOf_p d0 S _ _ _ _ _ _ (hps p hp)

set_option maxHeartbeats 4000000 in
set_option maxRecDepth 100000 in
theorem c_X5_taints (d0 : Nat × Nat) (S : gS) (x : Nat) (ad : Nat → Nat → Nat) (M : gM) (h : gMail d0 S x ad M) (e : Nat) (he : e < mN M 17) (k : Nat) (hk : k < mN M (200 + e)) : gCt d0 yX5_taints cX5_taints 1 (some .boolean) 0 0 0 [.ref (ad (20 + e) k)] S (gRet (.int (gB (gTaint M e k))) S) gNo := by
  refine gCt_of (lo := [some (.ref (ad (20 + e) k))]) (by decide +kernel) (Nat.le_of_ble_eq_true rfl) rfl ?_
  intro Γ hd G F hini
  obtain ⟨⟨r1, ⟨ra, rb, rc, rd, re⟩, rt, rtl, rp, rpl, rdr, rep, rday⟩, ⟨l0, l1, l2, l3, l4⟩, ht, hcs, hps, hds, hes, hls⟩ := id h
  subst hd
  obtain ⟨n1, n2, n3, n4, n5, n6, n7⟩ := (hes e he).2.2.2.2.2.2 k hk
  have hN1 := l1.2.2.1
  first | refine g_aload_n G dX5_taints_0 rfl ?_ | refine g_aload_nN G dX5_taints_0 rfl ?_ | refine g_aload_nQ G dX5_taints_0 rfl ?_
  refine g_getI G fl_X5_22 (by assumption) (by first | decide | omega) rfl (by first | assumption | rfl) dX5_taints_1 ?_
  refine g_iconst (v := nI 1) G dX5_taints_4 (by decide) ?_
  refine g_icmp_ne (tgt := 10) G dX5_taints_5 (by decide) (fun c_5 => ?_) (fun c_5 => ?_)
  · first | refine g_aload_n G dX5_taints_10 rfl ?_ | refine g_aload_nN G dX5_taints_10 rfl ?_ | refine g_aload_nQ G dX5_taints_10 rfl ?_
    first | refine g_getR G fl_X5_19 (by assumption) (by first | decide | omega) rfl (by assumption) dX5_taints_11 ?_ | refine g_getZ G fl_X5_19 (by assumption) (by first | decide | omega) rfl (by assumption) dX5_taints_11 ?_ | refine g_getQ G fl_X5_19 (by assumption) (by first | decide | omega) rfl (by first | assumption | rfl) dX5_taints_11 ?_
    refine g_ifnonnullQ (tgt := 19) G dX5_taints_14 (by decide) (fun c_14 => ?_) (fun q_14 c_14 => ?_)
    · have e9 : gTaint M e k = false := decide_eq_false (fun z => z.elim c_5 (fun y => y.1 ((gRf_none hN1 n7).mp c_14)))
      refine g_iconst (v := nI 0) G dX5_taints_17 (by decide) ?_
      exact g_zret G F (by first | exact Or.inl rfl | exact Or.inr rfl | assumption) (gRi (by rw [e9]; rfl)) (by omega) (by omega) dX5_taints_18
    · obtain ⟨p, hp, ep⟩ : ∃ p, p < mN M 8 ∧ mA M 22 (4 * (12 * e + k) + 2) = nI p := by
        rcases n7 with z | z
        · rw [z, gRf_1] at c_14; cases c_14
        · exact z
      have n4 : gY S (7 + 32 * (12 * e + k)) 2 (ad (20 + e) k) = some (ad 1 p) := by rw [n4, ep, gRf_p (by omega)]
      obtain ⟨p1, p2, p3, p4, p5, p6⟩ := id (hps p hp)
      have er : gRole M (mA M 22 (4 * (12 * e + k) + 2)) = mA M 9 p := by unfold gRole; rw [ep, nI_clamp (by omega)]
      have nto : ¬ mA M 22 (4 * (12 * e + k) + 2) = -1 := by rw [ep]; exact fun z => absurd (by rw [z]; decide) (nI_pos (n := p) (by omega))
      first | refine g_aload_n G dX5_taints_19 rfl ?_ | refine g_aload_nN G dX5_taints_19 rfl ?_ | refine g_aload_nQ G dX5_taints_19 rfl ?_
      first | refine g_getR G fl_X5_19 (by assumption) (by first | decide | omega) rfl (by assumption) dX5_taints_20 ?_ | refine g_getZ G fl_X5_19 (by assumption) (by first | decide | omega) rfl (by assumption) dX5_taints_20 ?_ | refine g_getQ G fl_X5_19 (by assumption) (by first | decide | omega) rfl (by first | assumption | rfl) dX5_taints_20 ?_
      refine g_getI G fl_X5_25 (by assumption) (by first | decide | omega) rfl (by first | assumption | rfl) dX5_taints_23 ?_
      refine g_iconst (v := nI 3) G dX5_taints_26 (by decide) ?_
      refine g_icmp_eq (tgt := 49) G dX5_taints_27 (by decide) (fun c_27 => ?_) (fun c_27 => ?_)
      · have e9 : gTaint M e k = true := decide_eq_true (Or.inr ⟨nto, Or.inl (er.trans c_27)⟩)
        refine g_iconst (v := nI 1) G dX5_taints_49 (by decide) ?_
        refine g_goto (tgt := 54) G dX5_taints_50 (by decide) ?_
        exact g_zret G F (by first | exact Or.inl rfl | exact Or.inr rfl | assumption) (gRi (by rw [e9]; rfl)) (by omega) (by omega) dX5_taints_54
      · first | refine g_aload_n G dX5_taints_30 rfl ?_ | refine g_aload_nN G dX5_taints_30 rfl ?_ | refine g_aload_nQ G dX5_taints_30 rfl ?_
        refine g_getI G fl_X5_22 (by assumption) (by first | decide | omega) rfl (by first | assumption | rfl) dX5_taints_31 ?_
        refine g_iconst (v := nI 2) G dX5_taints_34 (by decide) ?_
        refine g_icmp_ne (tgt := 53) G dX5_taints_35 (by decide) (fun c_35 => ?_) (fun c_35 => ?_)
        · have e9 : gTaint M e k = false := decide_eq_false (fun z => z.elim c_5 (fun y => y.2.elim (fun u => c_27 (er.symm.trans u)) (fun u => c_35 u.1)))
          refine g_iconst (v := nI 0) G dX5_taints_53 (by decide) ?_
          exact g_zret G F (by first | exact Or.inl rfl | exact Or.inr rfl | assumption) (gRi (by rw [e9]; rfl)) (by omega) (by omega) dX5_taints_54
        · first | refine g_aload_n G dX5_taints_38 rfl ?_ | refine g_aload_nN G dX5_taints_38 rfl ?_ | refine g_aload_nQ G dX5_taints_38 rfl ?_
          first | refine g_getR G fl_X5_19 (by assumption) (by first | decide | omega) rfl (by assumption) dX5_taints_39 ?_ | refine g_getZ G fl_X5_19 (by assumption) (by first | decide | omega) rfl (by assumption) dX5_taints_39 ?_ | refine g_getQ G fl_X5_19 (by assumption) (by first | decide | omega) rfl (by first | assumption | rfl) dX5_taints_39 ?_
          refine g_getI G fl_X5_25 (by assumption) (by first | decide | omega) rfl (by first | assumption | rfl) dX5_taints_42 ?_
          refine g_iconst (v := nI 1) G dX5_taints_45 (by decide) ?_
          refine g_icmp_eq (tgt := 53) G dX5_taints_46 (by decide) (fun c_46 => ?_) (fun c_46 => ?_)
          · have e9 : gTaint M e k = false := decide_eq_false (fun z => z.elim c_5 (fun y => y.2.elim (fun u => c_27 (er.symm.trans u)) (fun u => u.2 (er.trans c_46))))
            refine g_iconst (v := nI 0) G dX5_taints_53 (by decide) ?_
            exact g_zret G F (by first | exact Or.inl rfl | exact Or.inr rfl | assumption) (gRi (by rw [e9]; rfl)) (by omega) (by omega) dX5_taints_54
          · have e9 : gTaint M e k = true := decide_eq_true (Or.inr ⟨nto, Or.inr ⟨c_35, fun u => c_46 (er.symm.trans u)⟩⟩)
            refine g_iconst (v := nI 1) G dX5_taints_49 (by decide) ?_
            refine g_goto (tgt := 54) G dX5_taints_50 (by decide) ?_
            exact g_zret G F (by first | exact Or.inl rfl | exact Or.inr rfl | assumption) (gRi (by rw [e9]; rfl)) (by omega) (by omega) dX5_taints_54
  · have e9 : gTaint M e k = true := decide_eq_true (Or.inl c_5)
    refine g_iconst (v := nI 1) G dX5_taints_8 (by decide) ?_
    exact g_zret G F (by first | exact Or.inl rfl | exact Or.inr rfl | assumption) (gRi (by rw [e9]; rfl)) (by omega) (by omega) dX5_taints_9

set_option maxHeartbeats 4000000 in
set_option maxRecDepth 100000 in
theorem c_X3_countGaps (d0 : Nat × Nat) (S : gS) (x : Nat) (ad : Nat → Nat → Nat) (M : gM) (h : gMail d0 S x ad M) (e : Nat) (he : e < mN M 17) : gCt d0 yX3_countGaps cX3_countGaps 3 (some .int) 3 0 0 [.ref (ad 3 e)] S (gRet (.int (nI (gct (fun k => decide (mA M 22 (4 * (12 * e + k) + 3) = nI 1)) (mN M (200 + e))))) S) gNo := by
  refine gCt_of (lo := [some (.ref (ad 3 e)), none, none]) (by decide +kernel) (Nat.le_of_ble_eq_true rfl) rfl ?_
  intro Γ hd G F hini
  obtain ⟨⟨r1, ⟨ra, rb, rc, rd, re⟩, rt, rtl, rp, rpl, rdr, rep, rday⟩, ⟨l0, l1, l2, l3, l4⟩, ht, hcs, hps, hds, hes, hls⟩ := id h
  subst hd
  obtain ⟨k1, k2, ⟨kc, kc1, kc2, kc3⟩, ⟨k4, k5, k6, k7, kw⟩, k8, k9, k10⟩ := hes e he
  refine g_iconst (v := nI 0) G dX3_countGaps_0 (by decide) ?_
  refine g_istore_n G dX3_countGaps_1 (gSt_1 rfl) ?_
  refine g_iconst (v := nI 0) G dX3_countGaps_2 (by decide) ?_
  refine g_istore_n G dX3_countGaps_3 (gSt_2 rfl) ?_
  have loop : ∀ f j : Nat, j ≤ mN M (200 + e) → mN M (200 + e) + 1 ≤ j + f → gW Γ 4 [some (.ref (ad 3 e)), some (.int (nI (gct (fun k => decide (mA M 22 (4 * (12 * e + k) + 3) = nI 1)) (j)))), some (.int (nI (j)))] [] S 0 0 := by
    intro f
    induction f with
    | zero => intro j h1 h2; omega
    | succ f ih =>
      intro j hj hf
      refine g_iload_n G dX3_countGaps_4 rfl ?_
      first | refine g_aload_n G dX3_countGaps_5 rfl ?_ | refine g_aload_nN G dX3_countGaps_5 rfl ?_ | refine g_aload_nQ G dX3_countGaps_5 rfl ?_
      first | refine g_getR G fl_X3_22 (by assumption) (by first | decide | omega) rfl (by assumption) dX3_countGaps_6 ?_ | refine g_getZ G fl_X3_22 (by assumption) (by first | decide | omega) rfl (by assumption) dX3_countGaps_6 ?_ | refine g_getQ G fl_X3_22 (by assumption) (by first | decide | omega) rfl (by first | assumption | rfl) dX3_countGaps_6 ?_
      refine g_callVp (ci := 0) G (c_Jx4a65c_size_8abf5 _ S (ad 10 e) (10 + e) (mN M (200 + e)) (ad (20 + e)) k9) mt_Jx4a65c_size_8abf5 mi_Jx4a65c_size_8abf5 ml_X3_37 (k9.1) (by first | decide | omega) rfl (by decide) (by omega) (by omega) rfl (Nat.le_of_ble_eq_true rfl) dX3_countGaps_9 ?_
      refine g_icmp_ge (tgt := 42) G dX3_countGaps_12 (by decide) (fun c_12 => ?_) (fun c_12 => ?_)
      · have ej : j = mN M (200 + e) := by have := (nI_leI (by omega) (by omega)).mp c_12; omega
        subst ej
        refine g_iload_n G dX3_countGaps_42 rfl ?_
        exact g_iret G F (gRi rfl) (by omega) (by omega) dX3_countGaps_43
      · have hlt : j < mN M (200 + e) := by have z : ¬ mN M (200 + e) ≤ j := fun z => c_12 ((nI_leI (by omega) (by omega)).mpr z); omega
        obtain ⟨n1, n2, n3, n4, n5, n6, n7⟩ := k10 j hlt
        first | refine g_aload_n G dX3_countGaps_15 rfl ?_ | refine g_aload_nN G dX3_countGaps_15 rfl ?_ | refine g_aload_nQ G dX3_countGaps_15 rfl ?_
        first | refine g_getR G fl_X3_22 (by assumption) (by first | decide | omega) rfl (by assumption) dX3_countGaps_16 ?_ | refine g_getZ G fl_X3_22 (by assumption) (by first | decide | omega) rfl (by assumption) dX3_countGaps_16 ?_ | refine g_getQ G fl_X3_22 (by assumption) (by first | decide | omega) rfl (by first | assumption | rfl) dX3_countGaps_16 ?_
        refine g_iload_n G dX3_countGaps_19 rfl ?_
        refine g_callVp (ci := 0) G (c_Jx4a65c_get_915e3 _ S (ad 10 e) (10 + e) (mN M (200 + e)) j (ad (20 + e)) k9 hlt) mt_Jx4a65c_get_915e3 mi_Jx4a65c_get_915e3 ml_X3_45 (k9.1) (by first | decide | omega) rfl (by decide) (by omega) (by omega) rfl (Nat.le_of_ble_eq_true rfl) dX3_countGaps_20 ?_
        refine g_cast (ci := 6) G (by assumption) (by first | decide | omega) rfl cl_X3_49 dX3_countGaps_23 ?_
        refine g_getI G fl_X3_51 (by assumption) (by first | decide | omega) rfl (by first | assumption | rfl) dX3_countGaps_26 ?_
        refine g_iconst (v := nI 1) G dX3_countGaps_29 (by decide) ?_
        refine g_icmp_ne (tgt := 36) G dX3_countGaps_30 (by decide) (fun c_30 => ?_) (fun c_30 => ?_)
        · have e9 := gct_no (p := fun k => decide (mA M 22 (4 * (12 * e + k) + 3) = nI 1)) (n := j) (decide_eq_false c_30)
          refine g_iinc (v := _) G dX3_countGaps_36 rfl (by first | exact nI_1 _ | rfl) (gSt_2 rfl) ?_
          refine g_goto (tgt := 4) G dX3_countGaps_39 (by decide) ?_
          have h9 := ih (j + 1) (by omega) (by omega)
          rw [e9] at h9
          exact h9
        · have e9 := gct_yes (p := fun k => decide (mA M 22 (4 * (12 * e + k) + 3) = nI 1)) (n := j) (decide_eq_true c_30)
          refine g_iinc (v := _) G dX3_countGaps_33 rfl (by first | exact nI_1 _ | rfl) (gSt_1 rfl) ?_
          refine g_iinc (v := _) G dX3_countGaps_36 rfl (by first | exact nI_1 _ | rfl) (gSt_2 rfl) ?_
          refine g_goto (tgt := 4) G dX3_countGaps_39 (by decide) ?_
          have h9 := ih (j + 1) (by omega) (by omega)
          rw [e9] at h9
          exact h9
  exact loop (mN M (200 + e) + 1) 0 (by omega) (by omega)

set_option maxHeartbeats 4000000 in
set_option maxRecDepth 100000 in
theorem c_X3_canBeAdmitted (d0 : Nat × Nat) (S : gS) (x : Nat) (ad : Nat → Nat → Nat) (M : gM) (h : gMail d0 S x ad M) (e : Nat) (he : e < mN M 17) : gCt d0 yX3_canBeAdmitted cX3_canBeAdmitted 2 (some .boolean) 3 0 0 [.ref (ad 3 e)] S (gRet (.int (gB (gAdm M e))) S) gNo := by
  refine gCt_of (lo := [some (.ref (ad 3 e)), none]) (by decide +kernel) (Nat.le_of_ble_eq_true rfl) rfl ?_
  intro Γ hd G F hini
  obtain ⟨⟨r1, ⟨ra, rb, rc, rd, re⟩, rt, rtl, rp, rpl, rdr, rep, rday⟩, ⟨l0, l1, l2, l3, l4⟩, ht, hcs, hps, hds, hes, hls⟩ := id h
  subst hd
  obtain ⟨k1, k2, ⟨kc, kc1, kc2, kc3⟩, ⟨k4, k5, k6, k7, kw⟩, k8, k9, k10⟩ := hes e he
  have hN1 := l1.2.2.1
  have loop : ¬ mA M 19 e = -2 → (mA M 19 e = -1 ∨ gRole M (mA M 19 e) = nI 1 ∨ gRole M (mA M 19 e) = 0) → ∀ f j : Nat, j ≤ mN M (200 + e) → mN M (200 + e) + 1 ≤ j + f → (∀ k, k < j → gTaint M e k = false) → gW Γ 39 [some (.ref (ad 3 e)), some (.int (nI j))] [] S 0 0 := by
    intro h2 ok2 f
    induction f with
    | zero => intro j h1 h2; omega
    | succ f ih =>
      intro j hj hf hv
      refine g_iload_n G dX3_canBeAdmitted_39 rfl ?_
      first | refine g_aload_n G dX3_canBeAdmitted_40 rfl ?_ | refine g_aload_nN G dX3_canBeAdmitted_40 rfl ?_ | refine g_aload_nQ G dX3_canBeAdmitted_40 rfl ?_
      first | refine g_getR G fl_X3_22 (by assumption) (by first | decide | omega) rfl (by assumption) dX3_canBeAdmitted_41 ?_ | refine g_getZ G fl_X3_22 (by assumption) (by first | decide | omega) rfl (by assumption) dX3_canBeAdmitted_41 ?_ | refine g_getQ G fl_X3_22 (by assumption) (by first | decide | omega) rfl (by first | assumption | rfl) dX3_canBeAdmitted_41 ?_
      refine g_callVp (ci := 0) G (c_Jx4a65c_size_8abf5 _ S (ad 10 e) (10 + e) (mN M (200 + e)) (ad (20 + e)) k9) mt_Jx4a65c_size_8abf5 mi_Jx4a65c_size_8abf5 ml_X3_37 (k9.1) (by first | decide | omega) rfl (by decide) (by omega) (by omega) rfl (Nat.le_of_ble_eq_true rfl) dX3_canBeAdmitted_44 ?_
      refine g_icmp_ge (tgt := 75) G dX3_canBeAdmitted_47 (by decide) (fun c_47 => ?_) (fun c_47 => ?_)
      · have ej : j = mN M (200 + e) := by have := (nI_leI (by omega) (by omega)).mp c_47; omega
        subst ej
        have e9 : gAdm M e = true := decide_eq_true ⟨h2, ok2, hv⟩
        refine g_iconst (v := nI 1) G dX3_canBeAdmitted_75 (by decide) ?_
        exact g_zret G F (by first | exact Or.inl rfl | exact Or.inr rfl | assumption) (gRi (by rw [e9]; rfl)) (by omega) (by omega) dX3_canBeAdmitted_76
      · have hlt : j < mN M (200 + e) := by have z : ¬ mN M (200 + e) ≤ j := fun z => c_47 ((nI_leI (by omega) (by omega)).mpr z); omega
        obtain ⟨n1, n2, n3, n4, n5, n6, n7⟩ := k10 j hlt
        first | refine g_aload_n G dX3_canBeAdmitted_50 rfl ?_ | refine g_aload_nN G dX3_canBeAdmitted_50 rfl ?_ | refine g_aload_nQ G dX3_canBeAdmitted_50 rfl ?_
        first | refine g_getR G fl_X3_22 (by assumption) (by first | decide | omega) rfl (by assumption) dX3_canBeAdmitted_51 ?_ | refine g_getZ G fl_X3_22 (by assumption) (by first | decide | omega) rfl (by assumption) dX3_canBeAdmitted_51 ?_ | refine g_getQ G fl_X3_22 (by assumption) (by first | decide | omega) rfl (by first | assumption | rfl) dX3_canBeAdmitted_51 ?_
        refine g_iload_n G dX3_canBeAdmitted_54 rfl ?_
        refine g_callVp (ci := 0) G (c_Jx4a65c_get_915e3 _ S (ad 10 e) (10 + e) (mN M (200 + e)) j (ad (20 + e)) k9 hlt) mt_Jx4a65c_get_915e3 mi_Jx4a65c_get_915e3 ml_X3_45 (k9.1) (by first | decide | omega) rfl (by decide) (by omega) (by omega) rfl (Nat.le_of_ble_eq_true rfl) dX3_canBeAdmitted_55 ?_
        refine g_cast (ci := 6) G (by assumption) (by first | decide | omega) rfl cl_X3_49 dX3_canBeAdmitted_58 ?_
        refine g_callVp (ci := 6) G (c_X5_taints _ S x ad M h e he j hlt) mt_X5_taints mi_X5_taints ml_X3_59 (by assumption) (by first | decide | omega) rfl (by decide) (by omega) (by omega) rfl (Nat.le_of_ble_eq_true rfl) dX3_canBeAdmitted_61 ?_
        refine g_if_eq (tgt := 69) G dX3_canBeAdmitted_64 (by decide) (fun c_64 => ?_) (fun c_64 => ?_)
        · have t9 := gB_eq0.mp c_64
          refine g_iinc (v := _) G dX3_canBeAdmitted_69 rfl (by first | exact nI_1 _ | rfl) (gSt_1 rfl) ?_
          refine g_goto (tgt := 39) G dX3_canBeAdmitted_72 (by decide) ?_
          exact ih (j + 1) (by omega) (by omega) (fun k hk => (Nat.lt_or_ge k j).elim (hv k) (fun z => by rw [show k = j by omega]; exact t9))
        · have e9 : gAdm M e = false := decide_eq_false (fun z => by have := z.2.2 j hlt; rw [gB_ne0.mp c_64] at this; cases this)
          refine g_iconst (v := nI 0) G dX3_canBeAdmitted_67 (by decide) ?_
          exact g_zret G F (by first | exact Or.inl rfl | exact Or.inr rfl | assumption) (gRi (by rw [e9]; rfl)) (by omega) (by omega) dX3_canBeAdmitted_68
  first | refine g_aload_n G dX3_canBeAdmitted_0 rfl ?_ | refine g_aload_nN G dX3_canBeAdmitted_0 rfl ?_ | refine g_aload_nQ G dX3_canBeAdmitted_0 rfl ?_
  refine g_getI G fl_X3_15 (by assumption) (by first | decide | omega) rfl (by first | assumption | rfl) dX3_canBeAdmitted_1 ?_
  refine g_if_ne (tgt := 35) G dX3_canBeAdmitted_4 (by decide) (fun c_4 => ?_) (fun c_4 => ?_)
  · have e9 : gAdm M e = false := decide_eq_false (fun z => z.1 (of_decide_eq_true (gB_ne0.mp c_4)))
    refine g_iconst (v := nI 0) G dX3_canBeAdmitted_35 (by decide) ?_
    exact g_zret G F (by first | exact Or.inl rfl | exact Or.inr rfl | assumption) (gRi (by rw [e9]; rfl)) (by omega) (by omega) dX3_canBeAdmitted_36
  · have h2 : ¬ mA M 19 e = -2 := of_decide_eq_false (gB_eq0.mp c_4)
    have kw2 : gPr M (mA M 19 e) := kw.elim Or.inl (fun z => z.elim (fun y => absurd y h2) Or.inr)
    first | refine g_aload_n G dX3_canBeAdmitted_7 rfl ?_ | refine g_aload_nN G dX3_canBeAdmitted_7 rfl ?_ | refine g_aload_nQ G dX3_canBeAdmitted_7 rfl ?_
    first | refine g_getR G fl_X3_9 (by assumption) (by first | decide | omega) rfl (by assumption) dX3_canBeAdmitted_8 ?_ | refine g_getZ G fl_X3_9 (by assumption) (by first | decide | omega) rfl (by assumption) dX3_canBeAdmitted_8 ?_ | refine g_getQ G fl_X3_9 (by assumption) (by first | decide | omega) rfl (by first | assumption | rfl) dX3_canBeAdmitted_8 ?_
    refine g_ifnullQ (tgt := 37) G dX3_canBeAdmitted_11 (by decide) (fun c_11 => ?_) (fun q_11 c_11 => ?_)
    · have ok2 : mA M 19 e = -1 ∨ gRole M (mA M 19 e) = nI 1 ∨ gRole M (mA M 19 e) = 0 := Or.inl ((gRf_none hN1 kw2).mp c_11)
      refine g_iconst (v := nI 0) G dX3_canBeAdmitted_37 (by decide) ?_
      refine g_istore_n G dX3_canBeAdmitted_38 (gSt_1 rfl) ?_
      exact loop h2 ok2 (mN M (200 + e) + 1) 0 (by omega) (by omega) (fun k hk => by omega)
    · obtain ⟨p, hp, ep⟩ : ∃ p, p < mN M 8 ∧ mA M 19 e = nI p := by
        rcases kw2 with z | z
        · rw [z, gRf_1] at c_11; cases c_11
        · exact z
      have k4 : gY S (5 + 32 * e) 2 (ad 3 e) = some (ad 1 p) := by rw [k4, ep, gRf_p (by omega)]
      obtain ⟨p1, p2, p3, p4, p5, p6⟩ := id (hps p hp)
      have er : gRole M (mA M 19 e) = mA M 9 p := by unfold gRole; rw [ep, nI_clamp (by omega)]
      have nto : ¬ mA M 19 e = -1 := by rw [ep]; exact fun z => absurd (by rw [z]; decide) (nI_pos (n := p) (by omega))
      first | refine g_aload_n G dX3_canBeAdmitted_14 rfl ?_ | refine g_aload_nN G dX3_canBeAdmitted_14 rfl ?_ | refine g_aload_nQ G dX3_canBeAdmitted_14 rfl ?_
      first | refine g_getR G fl_X3_9 (by assumption) (by first | decide | omega) rfl (by assumption) dX3_canBeAdmitted_15 ?_ | refine g_getZ G fl_X3_9 (by assumption) (by first | decide | omega) rfl (by assumption) dX3_canBeAdmitted_15 ?_ | refine g_getQ G fl_X3_9 (by assumption) (by first | decide | omega) rfl (by first | assumption | rfl) dX3_canBeAdmitted_15 ?_
      refine g_getI G fl_X3_54 (by assumption) (by first | decide | omega) rfl (by first | assumption | rfl) dX3_canBeAdmitted_18 ?_
      refine g_iconst (v := nI 1) G dX3_canBeAdmitted_21 (by decide) ?_
      refine g_icmp_eq (tgt := 37) G dX3_canBeAdmitted_22 (by decide) (fun c_22 => ?_) (fun c_22 => ?_)
      · have ok2 : mA M 19 e = -1 ∨ gRole M (mA M 19 e) = nI 1 ∨ gRole M (mA M 19 e) = 0 := Or.inr (Or.inl (er.trans c_22))
        refine g_iconst (v := nI 0) G dX3_canBeAdmitted_37 (by decide) ?_
        refine g_istore_n G dX3_canBeAdmitted_38 (gSt_1 rfl) ?_
        exact loop h2 ok2 (mN M (200 + e) + 1) 0 (by omega) (by omega) (fun k hk => by omega)
      · first | refine g_aload_n G dX3_canBeAdmitted_25 rfl ?_ | refine g_aload_nN G dX3_canBeAdmitted_25 rfl ?_ | refine g_aload_nQ G dX3_canBeAdmitted_25 rfl ?_
        first | refine g_getR G fl_X3_9 (by assumption) (by first | decide | omega) rfl (by assumption) dX3_canBeAdmitted_26 ?_ | refine g_getZ G fl_X3_9 (by assumption) (by first | decide | omega) rfl (by assumption) dX3_canBeAdmitted_26 ?_ | refine g_getQ G fl_X3_9 (by assumption) (by first | decide | omega) rfl (by first | assumption | rfl) dX3_canBeAdmitted_26 ?_
        refine g_getI G fl_X3_54 (by assumption) (by first | decide | omega) rfl (by first | assumption | rfl) dX3_canBeAdmitted_29 ?_
        refine g_if_eq (tgt := 37) G dX3_canBeAdmitted_32 (by decide) (fun c_32 => ?_) (fun c_32 => ?_)
        · have ok2 : mA M 19 e = -1 ∨ gRole M (mA M 19 e) = nI 1 ∨ gRole M (mA M 19 e) = 0 := Or.inr (Or.inr (er.trans c_32))
          refine g_iconst (v := nI 0) G dX3_canBeAdmitted_37 (by decide) ?_
          refine g_istore_n G dX3_canBeAdmitted_38 (gSt_1 rfl) ?_
          exact loop h2 ok2 (mN M (200 + e) + 1) 0 (by omega) (by omega) (fun k hk => by omega)
        · have e9 : gAdm M e = false := decide_eq_false (fun z => z.2.1.elim nto (fun y => y.elim (fun u => c_22 (er.symm.trans u)) (fun u => c_32 (er.symm.trans u))))
          refine g_iconst (v := nI 0) G dX3_canBeAdmitted_35 (by decide) ?_
          exact g_zret G F (by first | exact Or.inl rfl | exact Or.inr rfl | assumption) (gRi (by rw [e9]; rfl)) (by omega) (by omega) dX3_canBeAdmitted_36

set_option maxHeartbeats 4000000 in
set_option maxRecDepth 100000 in
theorem c_X3_hasFullChain (d0 : Nat × Nat) (S : gS) (x : Nat) (ad : Nat → Nat → Nat) (M : gM) (h : gMail d0 S x ad M) (e : Nat) (he : e < mN M 17) : gCt d0 yX3_hasFullChain cX3_hasFullChain 1 (some .boolean) 1 0 0 [.ref (ad 3 e)] S (gRet (.int (gB (decide (12 ≤ mN M (200 + e))))) S) gNo := by
  refine gCt_of (lo := [some (.ref (ad 3 e))]) (by decide +kernel) (Nat.le_of_ble_eq_true rfl) rfl ?_
  intro Γ hd G F hini
  obtain ⟨⟨r1, ⟨ra, rb, rc, rd, re⟩, rt, rtl, rp, rpl, rdr, rep, rday⟩, ⟨l0, l1, l2, l3, l4⟩, ht, hcs, hps, hds, hes, hls⟩ := id h
  subst hd
  obtain ⟨k1, k2, ⟨kc, kc1, kc2, kc3⟩, ⟨k4, k5, k6, k7, kw⟩, k8, k9, k10⟩ := hes e he
  first | refine g_aload_n G dX3_hasFullChain_0 rfl ?_ | refine g_aload_nN G dX3_hasFullChain_0 rfl ?_ | refine g_aload_nQ G dX3_hasFullChain_0 rfl ?_
  first | refine g_getR G fl_X3_22 (by assumption) (by first | decide | omega) rfl (by assumption) dX3_hasFullChain_1 ?_ | refine g_getZ G fl_X3_22 (by assumption) (by first | decide | omega) rfl (by assumption) dX3_hasFullChain_1 ?_ | refine g_getQ G fl_X3_22 (by assumption) (by first | decide | omega) rfl (by first | assumption | rfl) dX3_hasFullChain_1 ?_
  refine g_callVp (ci := 0) G (c_Jx4a65c_size_8abf5 _ S (ad 10 e) (10 + e) (mN M (200 + e)) (ad (20 + e)) k9) mt_Jx4a65c_size_8abf5 mi_Jx4a65c_size_8abf5 ml_X3_37 (k9.1) (by first | decide | omega) rfl (by decide) (by omega) (by omega) rfl (Nat.le_of_ble_eq_true rfl) dX3_hasFullChain_4 ?_
  refine g_bipush (v := nI 12) G dX3_hasFullChain_7 (by decide) ?_
  refine g_icmp_lt (tgt := 16) G dX3_hasFullChain_9 (by decide) (fun c_9 => ?_) (fun c_9 => ?_)
  · have e9 : decide (12 ≤ mN M (200 + e)) = false := decide_eq_false (fun z => nI_nlt (a := mN M (200 + e)) (b := 12) z (by omega) c_9)
    refine g_iconst (v := nI 0) G dX3_hasFullChain_16 (by decide) ?_
    exact g_zret G F (by first | exact Or.inl rfl | exact Or.inr rfl | assumption) (gRi (by rw [e9]; rfl)) (by omega) (by omega) dX3_hasFullChain_17
  · have e9 : decide (12 ≤ mN M (200 + e)) = true := decide_eq_true (by have z : ¬ mN M (200 + e) < 12 := fun z => c_9 (nI_lt z (by omega)); omega)
    refine g_iconst (v := nI 1) G dX3_hasFullChain_12 (by decide) ?_
    refine g_goto (tgt := 17) G dX3_hasFullChain_13 (by decide) ?_
    exact g_zret G F (by first | exact Or.inl rfl | exact Or.inr rfl | assumption) (gRi (by rw [e9]; rfl)) (by omega) (by omega) dX3_hasFullChain_17

set_option maxHeartbeats 4000000 in
set_option maxRecDepth 100000 in
theorem c_X7_exhibitsOf (d0 : Nat × Nat) (S : gS) (x : Nat) (ad : Nat → Nat → Nat) (M : gM) (h : gMail d0 S x ad M) (c : Nat) (hc : c < mN M 6) : gCt d0 yX7_exhibitsOf cX7_exhibitsOf 4 (some .int) 3 0 0 [.ref x, .ref (ad 0 c)] S (gRet (.int (gor (fun k => decide (mA M 18 k = nI c)) (mN M 17))) S) gNo := by
  refine gCt_of (lo := [some (.ref x), some (.ref (ad 0 c)), none, none]) (by decide +kernel) (Nat.le_of_ble_eq_true rfl) rfl ?_
  intro Γ hd G F hini
  obtain ⟨⟨r1, ⟨ra, rb, rc, rd, re⟩, rt, rtl, rp, rpl, rdr, rep, rday⟩, ⟨l0, l1, l2, l3, l4⟩, ht, hcs, hps, hds, hes, hls⟩ := id h
  subst hd
  refine g_iconst (v := nI 0) G dX7_exhibitsOf_0 (by decide) ?_
  refine g_istore_n G dX7_exhibitsOf_1 (gSt_2 rfl) ?_
  refine g_iconst (v := nI 0) G dX7_exhibitsOf_2 (by decide) ?_
  refine g_istore_n G dX7_exhibitsOf_3 (gSt_3 rfl) ?_
  have hN := l3.2.2.1
  have loop : ∀ f j : Nat, j ≤ mN M 17 → mN M 17 + 1 ≤ j + f → gW Γ 4 [some (.ref x), some (.ref (ad 0 c)), some (.int (gor (fun k => decide (mA M 18 k = nI c)) (j))), some (.int (nI j))] [] S 0 0 := by
    intro f
    induction f with
    | zero => intro j h1 h2; omega
    | succ f ih =>
      intro j hj hf
      refine g_iload_n G dX7_exhibitsOf_4 rfl ?_
      first | refine g_aload_n G dX7_exhibitsOf_5 rfl ?_ | refine g_aload_nN G dX7_exhibitsOf_5 rfl ?_ | refine g_aload_nQ G dX7_exhibitsOf_5 rfl ?_
      first | refine g_getR G fl_X7_22 (by assumption) (by first | decide | omega) rfl (by assumption) dX7_exhibitsOf_6 ?_ | refine g_getZ G fl_X7_22 (by assumption) (by first | decide | omega) rfl (by assumption) dX7_exhibitsOf_6 ?_ | refine g_getQ G fl_X7_22 (by assumption) (by first | decide | omega) rfl (by first | assumption | rfl) dX7_exhibitsOf_6 ?_
      refine g_callVp (ci := 0) G (c_Jx4a65c_size_8abf5 _ S (ad 5 3) 4 (mN M 17) (ad 3) l3) mt_Jx4a65c_size_8abf5 mi_Jx4a65c_size_8abf5 ml_X7_80 (l3.1) (by first | decide | omega) rfl (by decide) (by omega) (by omega) rfl (Nat.le_of_ble_eq_true rfl) dX7_exhibitsOf_9 ?_
      refine g_icmp_ge (tgt := 45) G dX7_exhibitsOf_12 (by decide) (fun c_12 => ?_) (fun c_12 => ?_)
      · have ej : j = mN M 17 := by have := (nI_leI (by omega) (by omega)).mp c_12; omega
        subst ej
        refine g_iload_n G dX7_exhibitsOf_45 rfl ?_
        exact g_iret G F (gRi rfl) (by omega) (by omega) dX7_exhibitsOf_46
      · have hlt : j < mN M 17 := by have z : ¬ mN M 17 ≤ j := fun z => c_12 ((nI_leI (by omega) (by omega)).mpr z); omega
        obtain ⟨k1, k2, ⟨kc, kc1, kc2, kc3⟩, ⟨k4, k5, k6, k7, kw⟩, k8⟩ := hes j hlt
        first | refine g_aload_n G dX7_exhibitsOf_15 rfl ?_ | refine g_aload_nN G dX7_exhibitsOf_15 rfl ?_ | refine g_aload_nQ G dX7_exhibitsOf_15 rfl ?_
        first | refine g_getR G fl_X7_22 (by assumption) (by first | decide | omega) rfl (by assumption) dX7_exhibitsOf_16 ?_ | refine g_getZ G fl_X7_22 (by assumption) (by first | decide | omega) rfl (by assumption) dX7_exhibitsOf_16 ?_ | refine g_getQ G fl_X7_22 (by assumption) (by first | decide | omega) rfl (by first | assumption | rfl) dX7_exhibitsOf_16 ?_
        refine g_iload_n G dX7_exhibitsOf_19 rfl ?_
        refine g_callVp (ci := 0) G (c_Jx4a65c_get_915e3 _ S (ad 5 3) 4 (mN M 17) j (ad 3) l3 hlt) mt_Jx4a65c_get_915e3 mi_Jx4a65c_get_915e3 ml_X7_300 (l3.1) (by first | decide | omega) rfl (by decide) (by omega) (by omega) rfl (Nat.le_of_ble_eq_true rfl) dX7_exhibitsOf_20 ?_
        refine g_cast (ci := 4) G (by assumption) (by first | decide | omega) rfl cl_X7_241 dX7_exhibitsOf_23 ?_
        first | refine g_getR G fl_X7_263 (by assumption) (by first | decide | omega) rfl (by assumption) dX7_exhibitsOf_26 ?_ | refine g_getZ G fl_X7_263 (by assumption) (by first | decide | omega) rfl (by assumption) dX7_exhibitsOf_26 ?_ | refine g_getQ G fl_X7_263 (by assumption) (by first | decide | omega) rfl (by first | assumption | rfl) dX7_exhibitsOf_26 ?_
        first | refine g_aload_n G dX7_exhibitsOf_29 rfl ?_ | refine g_aload_nN G dX7_exhibitsOf_29 rfl ?_ | refine g_aload_nQ G dX7_exhibitsOf_29 rfl ?_
        refine g_acmp_ne (rx := some _) (ry := some _) (tgt := 39) G dX7_exhibitsOf_30 (by decide) (fun c_30 => ?_) (fun c_30 => ?_)
        · have e9 := gor_no (p := fun k => decide (mA M 18 k = nI c)) (n := j) (decide_eq_false (fun z => c_30 ((gCase_inj h kc1 hc).mpr (kc2.symm.trans z))))
          refine g_iinc (v := _) G dX7_exhibitsOf_39 rfl (by first | exact nI_1 _ | rfl) (gSt_3 rfl) ?_
          refine g_goto (tgt := 4) G dX7_exhibitsOf_42 (by decide) ?_
          have h9 := ih (j + 1) (by omega) (by omega)
          rw [e9] at h9
          exact h9
        · have e9 := gor_yes (p := fun k => decide (mA M 18 k = nI c)) (n := j) (decide_eq_true (kc2.trans ((gCase_inj h kc1 hc).mp c_30)))
          refine g_iload_n G dX7_exhibitsOf_33 rfl ?_
          refine g_iconst (v := nI 1) G dX7_exhibitsOf_34 (by decide) ?_
          refine g_iload_n G dX7_exhibitsOf_35 rfl ?_
          refine g_ishl G dX7_exhibitsOf_36 (rfl) ?_
          refine g_ior G dX7_exhibitsOf_37 (rfl) ?_
          refine g_istore_n G dX7_exhibitsOf_38 (gSt_2 rfl) ?_
          refine g_iinc (v := _) G dX7_exhibitsOf_39 rfl (by first | exact nI_1 _ | rfl) (gSt_3 rfl) ?_
          refine g_goto (tgt := 4) G dX7_exhibitsOf_42 (by decide) ?_
          have h9 := ih (j + 1) (by omega) (by omega)
          rw [e9] at h9
          exact h9
  exact loop (mN M 17 + 1) 0 (by omega) (by omega)

set_option maxHeartbeats 4000000 in
set_option maxRecDepth 100000 in
theorem c_X7_casesSeenBy (d0 : Nat × Nat) (S : gS) (x : Nat) (ad : Nat → Nat → Nat) (M : gM) (h : gMail d0 S x ad M) (p : Nat) (hp : p < mN M 8) : gCt d0 yX7_casesSeenBy cX7_casesSeenBy 4 (some .int) 3 0 0 [.ref x, .ref (ad 1 p)] S (gRet (.int (gor (fun k => decide (mA M 7 k ≤ gReachOf M p k)) (mN M 6))) S) gNo := by
  refine gCt_of (lo := [some (.ref x), some (.ref (ad 1 p)), none, none]) (by decide +kernel) (Nat.le_of_ble_eq_true rfl) rfl ?_
  intro Γ hd G F hini
  obtain ⟨⟨r1, ⟨ra, rb, rc, rd, re⟩, rt, rtl, rp, rpl, rdr, rep, rday⟩, ⟨l0, l1, l2, l3, l4⟩, ht, hcs, hps, hds, hes, hls⟩ := id h
  subst hd
  refine g_iconst (v := nI 0) G dX7_casesSeenBy_0 (by decide) ?_
  refine g_istore_n G dX7_casesSeenBy_1 (gSt_2 rfl) ?_
  refine g_iconst (v := nI 0) G dX7_casesSeenBy_2 (by decide) ?_
  refine g_istore_n G dX7_casesSeenBy_3 (gSt_3 rfl) ?_
  have hN := l0.2.2.1
  have loop : ∀ f j : Nat, j ≤ mN M 6 → mN M 6 + 1 ≤ j + f → gW Γ 4 [some (.ref x), some (.ref (ad 1 p)), some (.int (gor (fun k => decide (mA M 7 k ≤ gReachOf M p k)) (j))), some (.int (nI j))] [] S 0 0 := by
    intro f
    induction f with
    | zero => intro j h1 h2; omega
    | succ f ih =>
      intro j hj hf
      refine g_iload_n G dX7_casesSeenBy_4 rfl ?_
      first | refine g_aload_n G dX7_casesSeenBy_5 rfl ?_ | refine g_aload_nN G dX7_casesSeenBy_5 rfl ?_ | refine g_aload_nQ G dX7_casesSeenBy_5 rfl ?_
      first | refine g_getR G fl_X7_12 (by assumption) (by first | decide | omega) rfl (by assumption) dX7_casesSeenBy_6 ?_ | refine g_getZ G fl_X7_12 (by assumption) (by first | decide | omega) rfl (by assumption) dX7_casesSeenBy_6 ?_ | refine g_getQ G fl_X7_12 (by assumption) (by first | decide | omega) rfl (by first | assumption | rfl) dX7_casesSeenBy_6 ?_
      refine g_callVp (ci := 0) G (c_Jx4a65c_size_8abf5 _ S (ad 5 0) 1 (mN M 6) (ad 0) l0) mt_Jx4a65c_size_8abf5 mi_Jx4a65c_size_8abf5 ml_X7_80 (l0.1) (by first | decide | omega) rfl (by decide) (by omega) (by omega) rfl (Nat.le_of_ble_eq_true rfl) dX7_casesSeenBy_9 ?_
      refine g_icmp_ge (tgt := 45) G dX7_casesSeenBy_12 (by decide) (fun c_12 => ?_) (fun c_12 => ?_)
      · have ej : j = mN M 6 := by have := (nI_leI (by omega) (by omega)).mp c_12; omega
        subst ej
        refine g_iload_n G dX7_casesSeenBy_45 rfl ?_
        exact g_iret G F (gRi rfl) (by omega) (by omega) dX7_casesSeenBy_46
      · have hlt : j < mN M 6 := by have z : ¬ mN M 6 ≤ j := fun z => c_12 ((nI_leI (by omega) (by omega)).mpr z); omega
        obtain ⟨k1, k2, k3⟩ := id (hcs j hlt)
        obtain ⟨p1, p2, p3, p4, p5, p6⟩ := id (hps p hp)
        first | refine g_aload_n G dX7_casesSeenBy_15 rfl ?_ | refine g_aload_nN G dX7_casesSeenBy_15 rfl ?_ | refine g_aload_nQ G dX7_casesSeenBy_15 rfl ?_
        first | refine g_aload_n G dX7_casesSeenBy_16 rfl ?_ | refine g_aload_nN G dX7_casesSeenBy_16 rfl ?_ | refine g_aload_nQ G dX7_casesSeenBy_16 rfl ?_
        first | refine g_getR G fl_X7_12 (by assumption) (by first | decide | omega) rfl (by assumption) dX7_casesSeenBy_17 ?_ | refine g_getZ G fl_X7_12 (by assumption) (by first | decide | omega) rfl (by assumption) dX7_casesSeenBy_17 ?_ | refine g_getQ G fl_X7_12 (by assumption) (by first | decide | omega) rfl (by first | assumption | rfl) dX7_casesSeenBy_17 ?_
        refine g_iload_n G dX7_casesSeenBy_20 rfl ?_
        refine g_callVp (ci := 0) G (c_Jx4a65c_get_915e3 _ S (ad 5 0) 1 (mN M 6) j (ad 0) l0 hlt) mt_Jx4a65c_get_915e3 mi_Jx4a65c_get_915e3 ml_X7_300 (l0.1) (by first | decide | omega) rfl (by decide) (by omega) (by omega) rfl (Nat.le_of_ble_eq_true rfl) dX7_casesSeenBy_21 ?_
        refine g_cast (ci := 1) G (by assumption) (by first | decide | omega) rfl cl_X7_134 dX7_casesSeenBy_24 ?_
        refine g_callVp (ci := 7) G (c_X6_canSeeInto _ S (ad 1 p) p (ad 0 j) j _ _ _ _ _ (hps p hp) (hcs j hlt)) mt_X6_canSeeInto mi_X6_canSeeInto ml_X7_264 (by assumption) (by first | decide | omega) rfl (by decide) (by omega) (by omega) rfl (Nat.le_of_ble_eq_true rfl) dX7_casesSeenBy_27 ?_
        refine g_if_eq (tgt := 39) G dX7_casesSeenBy_30 (by decide) (fun c_30 => ?_) (fun c_30 => ?_)
        · have e9 := gor_no (p := fun k => decide (mA M 7 k ≤ gReachOf M p k)) (n := j) (gB_eq0.mp c_30)
          refine g_iinc (v := _) G dX7_casesSeenBy_39 rfl (by first | exact nI_1 _ | rfl) (gSt_3 rfl) ?_
          refine g_goto (tgt := 4) G dX7_casesSeenBy_42 (by decide) ?_
          have h9 := ih (j + 1) (by omega) (by omega)
          rw [e9] at h9
          exact h9
        · have e9 := gor_yes (p := fun k => decide (mA M 7 k ≤ gReachOf M p k)) (n := j) (gB_ne0.mp c_30)
          refine g_iload_n G dX7_casesSeenBy_33 rfl ?_
          refine g_iconst (v := nI 1) G dX7_casesSeenBy_34 (by decide) ?_
          refine g_iload_n G dX7_casesSeenBy_35 rfl ?_
          refine g_ishl G dX7_casesSeenBy_36 (rfl) ?_
          refine g_ior G dX7_casesSeenBy_37 (rfl) ?_
          refine g_istore_n G dX7_casesSeenBy_38 (gSt_2 rfl) ?_
          refine g_iinc (v := _) G dX7_casesSeenBy_39 rfl (by first | exact nI_1 _ | rfl) (gSt_3 rfl) ?_
          refine g_goto (tgt := 4) G dX7_casesSeenBy_42 (by decide) ?_
          have h9 := ih (j + 1) (by omega) (by omega)
          rw [e9] at h9
          exact h9
  exact loop (mN M 6 + 1) 0 (by omega) (by omega)

set_option maxHeartbeats 4000000 in
set_option maxRecDepth 100000 in
theorem c_X7_countWhoSeeInto (d0 : Nat × Nat) (S : gS) (x : Nat) (ad : Nat → Nat → Nat) (M : gM) (h : gMail d0 S x ad M) (c : Nat) (hc : c < mN M 6) : gCt d0 yX7_countWhoSeeInto cX7_countWhoSeeInto 4 (some .int) 3 0 0 [.ref x, .ref (ad 0 c)] S (gRet (.int (nI (gct (fun k => decide (mA M 7 c ≤ gReachOf M k c)) (mN M 8)))) S) gNo := by
  refine gCt_of (lo := [some (.ref x), some (.ref (ad 0 c)), none, none]) (by decide +kernel) (Nat.le_of_ble_eq_true rfl) rfl ?_
  intro Γ hd G F hini
  obtain ⟨⟨r1, ⟨ra, rb, rc, rd, re⟩, rt, rtl, rp, rpl, rdr, rep, rday⟩, ⟨l0, l1, l2, l3, l4⟩, ht, hcs, hps, hds, hes, hls⟩ := id h
  subst hd
  refine g_iconst (v := nI 0) G dX7_countWhoSeeInto_0 (by decide) ?_
  refine g_istore_n G dX7_countWhoSeeInto_1 (gSt_2 rfl) ?_
  refine g_iconst (v := nI 0) G dX7_countWhoSeeInto_2 (by decide) ?_
  refine g_istore_n G dX7_countWhoSeeInto_3 (gSt_3 rfl) ?_
  have hN := l1.2.2.1
  have loop : ∀ f j : Nat, j ≤ mN M 8 → mN M 8 + 1 ≤ j + f → gW Γ 4 [some (.ref x), some (.ref (ad 0 c)), some (.int (nI (gct (fun k => decide (mA M 7 c ≤ gReachOf M k c)) (j)))), some (.int (nI j))] [] S 0 0 := by
    intro f
    induction f with
    | zero => intro j h1 h2; omega
    | succ f ih =>
      intro j hj hf
      refine g_iload_n G dX7_countWhoSeeInto_4 rfl ?_
      first | refine g_aload_n G dX7_countWhoSeeInto_5 rfl ?_ | refine g_aload_nN G dX7_countWhoSeeInto_5 rfl ?_ | refine g_aload_nQ G dX7_countWhoSeeInto_5 rfl ?_
      first | refine g_getR G fl_X7_16 (by assumption) (by first | decide | omega) rfl (by assumption) dX7_countWhoSeeInto_6 ?_ | refine g_getZ G fl_X7_16 (by assumption) (by first | decide | omega) rfl (by assumption) dX7_countWhoSeeInto_6 ?_ | refine g_getQ G fl_X7_16 (by assumption) (by first | decide | omega) rfl (by first | assumption | rfl) dX7_countWhoSeeInto_6 ?_
      refine g_callVp (ci := 0) G (c_Jx4a65c_size_8abf5 _ S (ad 5 1) 2 (mN M 8) (ad 1) l1) mt_Jx4a65c_size_8abf5 mi_Jx4a65c_size_8abf5 ml_X7_80 (l1.1) (by first | decide | omega) rfl (by decide) (by omega) (by omega) rfl (Nat.le_of_ble_eq_true rfl) dX7_countWhoSeeInto_9 ?_
      refine g_icmp_ge (tgt := 42) G dX7_countWhoSeeInto_12 (by decide) (fun c_12 => ?_) (fun c_12 => ?_)
      · have ej : j = mN M 8 := by have := (nI_leI (by omega) (by omega)).mp c_12; omega
        subst ej
        refine g_iload_n G dX7_countWhoSeeInto_42 rfl ?_
        exact g_iret G F (gRi rfl) (by omega) (by omega) dX7_countWhoSeeInto_43
      · have hlt : j < mN M 8 := by have z : ¬ mN M 8 ≤ j := fun z => c_12 ((nI_leI (by omega) (by omega)).mpr z); omega
        obtain ⟨p1, p2, p3, p4, p5, p6⟩ := id (hps j hlt)
        first | refine g_aload_n G dX7_countWhoSeeInto_15 rfl ?_ | refine g_aload_nN G dX7_countWhoSeeInto_15 rfl ?_ | refine g_aload_nQ G dX7_countWhoSeeInto_15 rfl ?_
        first | refine g_getR G fl_X7_16 (by assumption) (by first | decide | omega) rfl (by assumption) dX7_countWhoSeeInto_16 ?_ | refine g_getZ G fl_X7_16 (by assumption) (by first | decide | omega) rfl (by assumption) dX7_countWhoSeeInto_16 ?_ | refine g_getQ G fl_X7_16 (by assumption) (by first | decide | omega) rfl (by first | assumption | rfl) dX7_countWhoSeeInto_16 ?_
        refine g_iload_n G dX7_countWhoSeeInto_19 rfl ?_
        refine g_callVp (ci := 0) G (c_Jx4a65c_get_915e3 _ S (ad 5 1) 2 (mN M 8) j (ad 1) l1 hlt) mt_Jx4a65c_get_915e3 mi_Jx4a65c_get_915e3 ml_X7_300 (l1.1) (by first | decide | omega) rfl (by decide) (by omega) (by omega) rfl (Nat.le_of_ble_eq_true rfl) dX7_countWhoSeeInto_20 ?_
        refine g_cast (ci := 7) G (by assumption) (by first | decide | omega) rfl cl_X7_146 dX7_countWhoSeeInto_23 ?_
        first | refine g_aload_n G dX7_countWhoSeeInto_26 rfl ?_ | refine g_aload_nN G dX7_countWhoSeeInto_26 rfl ?_ | refine g_aload_nQ G dX7_countWhoSeeInto_26 rfl ?_
        refine g_callVp (ci := 7) G (c_X6_canSeeInto _ S (ad 1 j) j (ad 0 c) c _ _ _ _ _ (hps j hlt) (hcs c hc)) mt_X6_canSeeInto mi_X6_canSeeInto ml_X7_264 (by assumption) (by first | decide | omega) rfl (by decide) (by omega) (by omega) rfl (Nat.le_of_ble_eq_true rfl) dX7_countWhoSeeInto_27 ?_
        refine g_if_eq (tgt := 36) G dX7_countWhoSeeInto_30 (by decide) (fun c_30 => ?_) (fun c_30 => ?_)
        · have e9 := gct_no (p := fun k => decide (mA M 7 c ≤ gReachOf M k c)) (n := j) (gB_eq0.mp c_30)
          refine g_iinc (v := _) G dX7_countWhoSeeInto_36 rfl (by first | exact nI_1 _ | rfl) (gSt_3 rfl) ?_
          refine g_goto (tgt := 4) G dX7_countWhoSeeInto_39 (by decide) ?_
          have h9 := ih (j + 1) (by omega) (by omega)
          rw [e9] at h9
          exact h9
        · have e9 := gct_yes (p := fun k => decide (mA M 7 c ≤ gReachOf M k c)) (n := j) (gB_ne0.mp c_30)
          refine g_iinc (v := _) G dX7_countWhoSeeInto_33 rfl (by first | exact nI_1 _ | rfl) (gSt_2 rfl) ?_
          refine g_iinc (v := _) G dX7_countWhoSeeInto_36 rfl (by first | exact nI_1 _ | rfl) (gSt_3 rfl) ?_
          refine g_goto (tgt := 4) G dX7_countWhoSeeInto_39 (by decide) ?_
          have h9 := ih (j + 1) (by omega) (by omega)
          rw [e9] at h9
          exact h9
  exact loop (mN M 8 + 1) 0 (by omega) (by omega)

set_option maxHeartbeats 4000000 in
set_option maxRecDepth 100000 in
theorem c_X7_countDocumentsThatMark (d0 : Nat × Nat) (S : gS) (x : Nat) (ad : Nat → Nat → Nat) (M : gM) (h : gMail d0 S x ad M) (e : Nat) (he : e < mN M 17) : gCt d0 yX7_countDocumentsThatMark cX7_countDocumentsThatMark 4 (some .int) 3 0 0 [.ref x, .ref (ad 3 e)] S (gRet (.int (nI (gct (fun k => gBit (mA M 16 k) e) (mN M 11)))) S) gNo := by
  refine gCt_of (lo := [some (.ref x), some (.ref (ad 3 e)), none, none]) (by decide +kernel) (Nat.le_of_ble_eq_true rfl) rfl ?_
  intro Γ hd G F hini
  obtain ⟨⟨r1, ⟨ra, rb, rc, rd, re⟩, rt, rtl, rp, rpl, rdr, rep, rday⟩, ⟨l0, l1, l2, l3, l4⟩, ht, hcs, hps, hds, hes, hls⟩ := id h
  subst hd
  refine g_iconst (v := nI 0) G dX7_countDocumentsThatMark_0 (by decide) ?_
  refine g_istore_n G dX7_countDocumentsThatMark_1 (gSt_2 rfl) ?_
  refine g_iconst (v := nI 0) G dX7_countDocumentsThatMark_2 (by decide) ?_
  refine g_istore_n G dX7_countDocumentsThatMark_3 (gSt_3 rfl) ?_
  have hN := l2.2.2.1
  have loop : ∀ f j : Nat, j ≤ mN M 11 → mN M 11 + 1 ≤ j + f → gW Γ 4 [some (.ref x), some (.ref (ad 3 e)), some (.int (nI (gct (fun k => gBit (mA M 16 k) e) (j)))), some (.int (nI j))] [] S 0 0 := by
    intro f
    induction f with
    | zero => intro j h1 h2; omega
    | succ f ih =>
      intro j hj hf
      refine g_iload_n G dX7_countDocumentsThatMark_4 rfl ?_
      first | refine g_aload_n G dX7_countDocumentsThatMark_5 rfl ?_ | refine g_aload_nN G dX7_countDocumentsThatMark_5 rfl ?_ | refine g_aload_nQ G dX7_countDocumentsThatMark_5 rfl ?_
      first | refine g_getR G fl_X7_19 (by assumption) (by first | decide | omega) rfl (by assumption) dX7_countDocumentsThatMark_6 ?_ | refine g_getZ G fl_X7_19 (by assumption) (by first | decide | omega) rfl (by assumption) dX7_countDocumentsThatMark_6 ?_ | refine g_getQ G fl_X7_19 (by assumption) (by first | decide | omega) rfl (by first | assumption | rfl) dX7_countDocumentsThatMark_6 ?_
      refine g_callVp (ci := 0) G (c_Jx4a65c_size_8abf5 _ S (ad 5 2) 3 (mN M 11) (ad 2) l2) mt_Jx4a65c_size_8abf5 mi_Jx4a65c_size_8abf5 ml_X7_80 (l2.1) (by first | decide | omega) rfl (by decide) (by omega) (by omega) rfl (Nat.le_of_ble_eq_true rfl) dX7_countDocumentsThatMark_9 ?_
      refine g_icmp_ge (tgt := 49) G dX7_countDocumentsThatMark_12 (by decide) (fun c_12 => ?_) (fun c_12 => ?_)
      · have ej : j = mN M 11 := by have := (nI_leI (by omega) (by omega)).mp c_12; omega
        subst ej
        refine g_iload_n G dX7_countDocumentsThatMark_49 rfl ?_
        exact g_iret G F (gRi rfl) (by omega) (by omega) dX7_countDocumentsThatMark_50
      · have hlt : j < mN M 11 := by have z : ¬ mN M 11 ≤ j := fun z => c_12 ((nI_leI (by omega) (by omega)).mpr z); omega
        obtain ⟨k1, ⟨kc, kc1, kc2, kc3⟩, ⟨k2, k3, k4⟩, ⟨k5, k6, k7, k8, kpr⟩, k9⟩ := hds j hlt
        have ek1 := (hes e he).1
        have ek2 := (hes e he).2.1
        first | refine g_aload_n G dX7_countDocumentsThatMark_15 rfl ?_ | refine g_aload_nN G dX7_countDocumentsThatMark_15 rfl ?_ | refine g_aload_nQ G dX7_countDocumentsThatMark_15 rfl ?_
        first | refine g_getR G fl_X7_19 (by assumption) (by first | decide | omega) rfl (by assumption) dX7_countDocumentsThatMark_16 ?_ | refine g_getZ G fl_X7_19 (by assumption) (by first | decide | omega) rfl (by assumption) dX7_countDocumentsThatMark_16 ?_ | refine g_getQ G fl_X7_19 (by assumption) (by first | decide | omega) rfl (by first | assumption | rfl) dX7_countDocumentsThatMark_16 ?_
        refine g_iload_n G dX7_countDocumentsThatMark_19 rfl ?_
        refine g_callVp (ci := 0) G (c_Jx4a65c_get_915e3 _ S (ad 5 2) 3 (mN M 11) j (ad 2) l2 hlt) mt_Jx4a65c_get_915e3 mi_Jx4a65c_get_915e3 ml_X7_300 (l2.1) (by first | decide | omega) rfl (by decide) (by omega) (by omega) rfl (Nat.le_of_ble_eq_true rfl) dX7_countDocumentsThatMark_20 ?_
        refine g_cast (ci := 2) G (by assumption) (by first | decide | omega) rfl cl_X7_95 dX7_countDocumentsThatMark_23 ?_
        refine g_getI G fl_X7_483 (by assumption) (by first | decide | omega) rfl (by first | assumption | rfl) dX7_countDocumentsThatMark_26 ?_
        first | refine g_aload_n G dX7_countDocumentsThatMark_29 rfl ?_ | refine g_aload_nN G dX7_countDocumentsThatMark_29 rfl ?_ | refine g_aload_nQ G dX7_countDocumentsThatMark_29 rfl ?_
        refine g_getI G fl_X7_485 (by assumption) (by first | decide | omega) rfl (by first | assumption | rfl) dX7_countDocumentsThatMark_30 ?_
        refine g_ishr G dX7_countDocumentsThatMark_33 (rfl) ?_
        refine g_iconst (v := nI 1) G dX7_countDocumentsThatMark_34 (by decide) ?_
        refine g_iand G dX7_countDocumentsThatMark_35 (rfl) ?_
        refine g_iconst (v := nI 1) G dX7_countDocumentsThatMark_36 (by decide) ?_
        refine g_icmp_ne (tgt := 43) G dX7_countDocumentsThatMark_37 (by decide) (fun c_37 => ?_) (fun c_37 => ?_)
        · have e9 := gct_no (p := fun k => gBit (mA M 16 k) e) (n := j) (decide_eq_false c_37)
          refine g_iinc (v := _) G dX7_countDocumentsThatMark_43 rfl (by first | exact nI_1 _ | rfl) (gSt_3 rfl) ?_
          refine g_goto (tgt := 4) G dX7_countDocumentsThatMark_46 (by decide) ?_
          have h9 := ih (j + 1) (by omega) (by omega)
          rw [e9] at h9
          exact h9
        · have e9 := gct_yes (p := fun k => gBit (mA M 16 k) e) (n := j) (decide_eq_true c_37)
          refine g_iinc (v := _) G dX7_countDocumentsThatMark_40 rfl (by first | exact nI_1 _ | rfl) (gSt_2 rfl) ?_
          refine g_iinc (v := _) G dX7_countDocumentsThatMark_43 rfl (by first | exact nI_1 _ | rfl) (gSt_3 rfl) ?_
          refine g_goto (tgt := 4) G dX7_countDocumentsThatMark_46 (by decide) ?_
          have h9 := ih (j + 1) (by omega) (by omega)
          rw [e9] at h9
          exact h9
  exact loop (mN M 11 + 1) 0 (by omega) (by omega)
