/-! ===== bytes hidden and seen, letters ahead, what is told ===== -/
theorem g_c1_rf {o : Option Nat} : g_c1 (some (va_rf o)) = true := by cases o <;> rfl
def gHidP (M : gM) (p d : Nat) : Nat → Bool := fun k => decide (¬ gSeenAt (mT M 13 d k) (mT M 14 d k) (mT M 15 d k) (gIntoOf M p (mC M d)) = mT M 13 d k)
def gHid (M : gM) (p d : Nat) : Nat := gct (gHidP M p d) (mN M (100 + d))
def gBytes (M : gM) (p c : Nat) : Nat → Nat
  | 0 => 0
  | n + 1 => if mA M 12 n = nI c then gBytes M p c n + (mN M (100 + n) - gHid M p n) else gBytes M p c n
theorem gBytes_yes {M : gM} {p c n : Nat} (h : mA M 12 n = nI c) : gBytes M p c (n + 1) = gBytes M p c n + (mN M (100 + n) - gHid M p n) := if_pos h
theorem gBytes_no {M : gM} {p c n : Nat} (h : ¬ mA M 12 n = nI c) : gBytes M p c (n + 1) = gBytes M p c n := if_neg h
def gSeesN (M : gM) (c p : Nat) : Nat := if mA M 9 p = nI 2 ∨ mA M 9 p = nI 3 then gBytes M p c (mN M 11) else 0
def gSees (M : gM) (c : Nat) : Nat → Int32 × Nat
  | 0 => (-1, 0)
  | n + 1 => if (gSees M c n).2 < gSeesN M c n then (nI n, gSeesN M c n) else gSees M c n
theorem gcn_0 (p : Nat → Bool) (n : Nat) : gcn p 0 n = gct p n := gct_cong (fun k _ => by rw [Nat.zero_add])
def gAheadP (M : gM) (l : Nat) : Nat → Bool := fun k => decide (mA M 46 k = 0 ∧ (mA M 26 k < mA M 26 l ∨ (mA M 26 k = mA M 26 l ∧ k < l)))
def gLateP (M : gM) (p : Nat) (t : Int32) : Nat → Bool := fun k => decide (mA M 43 k = nI p ∧ mA M 44 k < t)
def gNx (M : gM) : Nat → Option Nat
  | 0 => none
  | n + 1 => if mA M 46 n = 0 ∧ (∀ b, gNx M n = some b → mA M 26 n < mA M 26 b) then some n else gNx M n
theorem gNx_yes {M : gM} {n : Nat} (h : mA M 46 n = 0 ∧ (∀ b, gNx M n = some b → mA M 26 n < mA M 26 b)) : gNx M (n + 1) = some n := if_pos h
theorem gNx_no {M : gM} {n : Nat} (h : ¬ (mA M 46 n = 0 ∧ (∀ b, gNx M n = some b → mA M 26 n < mA M 26 b))) : gNx M (n + 1) = gNx M n := if_neg h
theorem gNx_lt {M : gM} : ∀ {n b : Nat}, gNx M n = some b → b < n
  | 0, b, h => by cases h
  | n + 1, b, h => by
    unfold gNx at h
    split at h
    · cases h; omega
    · have := gNx_lt h; omega

set_option maxHeartbeats 4000000 in
set_option maxRecDepth 100000 in
theorem c_X7_hiddenBytes (d0 : Nat × Nat) (S : gS) (x : Nat) (ad : Nat → Nat → Nat) (M : gM) (h : gMail d0 S x ad M) (p d : Nat) (hp : p < mN M 8) (hdd : d < mN M 11) : gCt d0 yX7_hiddenBytes cX7_hiddenBytes 2 (some .int) 4 0 0 [.ref (ad 1 p), .ref (ad 2 d)] S (gRet (.int (nI (gHid M p d))) S) gNo := by
  refine gCt_of (lo := [some (.ref (ad 1 p)), some (.ref (ad 2 d))]) (by decide +kernel) (Nat.le_of_ble_eq_true rfl) rfl ?_
  intro Γ hd G F hini
  obtain ⟨⟨r1, ⟨ra, rb, rc, rd, re⟩, rt, rtl, rp, rpl, rdr, rep, rday⟩, ⟨l0, l1, l2, l3, l4⟩, ht, hcs, hps, hds, hes, hls⟩ := id h
  subst hd
  obtain ⟨k1, ⟨kc, kc1, kc2, kc3⟩, ⟨k2, k3, k4⟩, ⟨k5, k6, k7, k8, kpr⟩, kl, ⟨t1, t2, t3⟩, k9⟩ := hds d hdd
  obtain ⟨p1, p2, p3, p4, p5, p6⟩ := id (hps p hp)
  have hNc := l0.2.2.1
  have ec : mC M d = kc := by rw [mC, kc2, nI_clamp (by omega)]
  first | refine g_aload_n G dX7_hiddenBytes_0 rfl ?_ | refine g_aload_nN G dX7_hiddenBytes_0 rfl ?_ | refine g_aload_nQ G dX7_hiddenBytes_0 rfl ?_
  refine g_iconst (v := nI 0) G dX7_hiddenBytes_1 (by decide) ?_
  first | refine g_aload_n G dX7_hiddenBytes_2 rfl ?_ | refine g_aload_nN G dX7_hiddenBytes_2 rfl ?_ | refine g_aload_nQ G dX7_hiddenBytes_2 rfl ?_
  first | refine g_getR G fl_X7_202 (by assumption) (by first | decide | omega) rfl (by assumption) dX7_hiddenBytes_3 ?_ | refine g_getZ G fl_X7_202 (by assumption) (by first | decide | omega) rfl (by assumption) dX7_hiddenBytes_3 ?_ | refine g_getQ G fl_X7_202 (by assumption) (by first | decide | omega) rfl (by first | assumption | rfl) dX7_hiddenBytes_3 ?_
  refine g_alen G (t1) (by first | decide | omega) (by first | assumption | rfl) dX7_hiddenBytes_6 ?_
  first | refine g_aload_n G dX7_hiddenBytes_7 rfl ?_ | refine g_aload_nN G dX7_hiddenBytes_7 rfl ?_ | refine g_aload_nQ G dX7_hiddenBytes_7 rfl ?_
  first | refine g_aload_n G dX7_hiddenBytes_8 rfl ?_ | refine g_aload_nN G dX7_hiddenBytes_8 rfl ?_ | refine g_aload_nQ G dX7_hiddenBytes_8 rfl ?_
  first | refine g_getR G fl_X7_181 (by assumption) (by first | decide | omega) rfl (by assumption) dX7_hiddenBytes_9 ?_ | refine g_getZ G fl_X7_181 (by assumption) (by first | decide | omega) rfl (by assumption) dX7_hiddenBytes_9 ?_ | refine g_getQ G fl_X7_181 (by assumption) (by first | decide | omega) rfl (by first | assumption | rfl) dX7_hiddenBytes_9 ?_
  refine g_callVp (ci := 7) G (c_X6_reachInto _ S (ad 1 p) p (ad 0 kc) kc _ _ _ _ _ (hps p hp) (hcs kc kc1)) mt_X6_reachInto mi_X6_reachInto ml_X7_185 (by assumption) (by first | decide | omega) rfl (by decide) (by omega) (by omega) rfl (Nat.le_of_ble_eq_true rfl) dX7_hiddenBytes_12 ?_
  refine g_callVp (ci := 2) G (c_X1_countHidden _ S ad M d (hds d hdd) 0 (mN M (100 + d)) (Nat.zero_le _) (Nat.le_refl _) _) mt_X1_countHidden mi_X1_countHidden ml_X7_216 (by assumption) (by first | decide | omega) rfl (by decide) (by omega) (by omega) rfl (Nat.le_of_ble_eq_true rfl) dX7_hiddenBytes_15 ?_
  exact g_iret G F (gRi (by rw [gcn_0, Nat.sub_zero]; unfold gHid gHidP gIntoOf gReachOf; rw [ec])) (by omega) (by omega) dX7_hiddenBytes_18

set_option maxHeartbeats 4000000 in
set_option maxRecDepth 100000 in
theorem c_X7_bytesSeenBy (d0 : Nat × Nat) (S : gS) (x : Nat) (ad : Nat → Nat → Nat) (M : gM) (h : gMail d0 S x ad M) (p c : Nat) (hp : p < mN M 8) (hc : c < mN M 6) : gCt d0 yX7_bytesSeenBy cX7_bytesSeenBy 6 (some .int) 5 0 0 [.ref x, .ref (ad 1 p), .ref (ad 0 c)] S (gRet (.int (nI (gBytes M p c (mN M 11)))) S) gNo := by
  refine gCt_of (lo := [some (.ref x), some (.ref (ad 1 p)), some (.ref (ad 0 c)), none, none, none]) (by decide +kernel) (Nat.le_of_ble_eq_true rfl) rfl ?_
  intro Γ hd G F hini
  obtain ⟨⟨r1, ⟨ra, rb, rc, rd, re⟩, rt, rtl, rp, rpl, rdr, rep, rday⟩, ⟨l0, l1, l2, l3, l4⟩, ht, hcs, hps, hds, hes, hls⟩ := id h
  subst hd
  refine g_iconst (v := nI 0) G dX7_bytesSeenBy_0 (by decide) ?_
  refine g_istore_n G dX7_bytesSeenBy_1 (gSt_3 (by first | rfl | exact g_c1_rf)) ?_
  refine g_iconst (v := nI 0) G dX7_bytesSeenBy_2 (by decide) ?_
  refine g_istore G dX7_bytesSeenBy_3 (gSt_4 (by first | rfl | exact g_c1_rf)) ?_
  have hN := l2.2.2.1
  have loop : ∀ f j : Nat, j ≤ mN M 11 → mN M 11 + 1 ≤ j + f → ∀ w : Option Value, gW Γ 5 [some (.ref x), some (.ref (ad 1 p)), some (.ref (ad 0 c)), some (.int (nI (gBytes M p c (j)))), some (.int (nI j)), w] [] S 0 0 := by
    intro f
    induction f with
    | zero => intro j h1 h2; omega
    | succ f ih =>
      intro j hj hf w
      refine g_iload G dX7_bytesSeenBy_5 rfl ?_
      first | refine g_aload_n G dX7_bytesSeenBy_7 rfl ?_ | refine g_aload_nN G dX7_bytesSeenBy_7 rfl ?_ | refine g_aload_nQ G dX7_bytesSeenBy_7 rfl ?_
      first | refine g_getR G fl_X7_19 (by assumption) (by first | decide | omega) rfl (by assumption) dX7_bytesSeenBy_8 ?_ | refine g_getZ G fl_X7_19 (by assumption) (by first | decide | omega) rfl (by assumption) dX7_bytesSeenBy_8 ?_ | refine g_getQ G fl_X7_19 (by assumption) (by first | decide | omega) rfl (by first | assumption | rfl) dX7_bytesSeenBy_8 ?_
      refine g_callVp (ci := 0) G (c_Jx4a65c_size_8abf5 _ S (ad 5 2) 3 (mN M 11) (ad 2) l2) mt_Jx4a65c_size_8abf5 mi_Jx4a65c_size_8abf5 ml_X7_80 (l2.1) (by first | decide | omega) rfl (by decide) (by omega) (by omega) rfl (Nat.le_of_ble_eq_true rfl) dX7_bytesSeenBy_11 ?_
      refine g_icmp_ge (tgt := 62) G dX7_bytesSeenBy_14 (by decide) (fun c_14 => ?_) (fun c_14 => ?_)
      · have ej : j = mN M 11 := by have := (nI_leI (by omega) (by omega)).mp c_14; omega
        subst ej
        refine g_iload_n G dX7_bytesSeenBy_62 rfl ?_
        exact g_iret G F (gRi rfl) (by omega) (by omega) dX7_bytesSeenBy_63
      · have hlt : j < mN M 11 := by have z : ¬ mN M 11 ≤ j := fun z => c_14 ((nI_leI (by omega) (by omega)).mpr z); omega
        obtain ⟨k1, ⟨kc, kc1, kc2, kc3⟩, ⟨k2, k3, k4⟩, ⟨k5, k6, k7, k8, kpr⟩, kl, ⟨t1, t2, t3⟩, k9⟩ := hds j hlt
        obtain ⟨p1, p2, p3, p4, p5, p6⟩ := id (hps p hp)
        first | refine g_aload_n G dX7_bytesSeenBy_17 rfl ?_ | refine g_aload_nN G dX7_bytesSeenBy_17 rfl ?_ | refine g_aload_nQ G dX7_bytesSeenBy_17 rfl ?_
        first | refine g_getR G fl_X7_19 (by assumption) (by first | decide | omega) rfl (by assumption) dX7_bytesSeenBy_18 ?_ | refine g_getZ G fl_X7_19 (by assumption) (by first | decide | omega) rfl (by assumption) dX7_bytesSeenBy_18 ?_ | refine g_getQ G fl_X7_19 (by assumption) (by first | decide | omega) rfl (by first | assumption | rfl) dX7_bytesSeenBy_18 ?_
        refine g_iload G dX7_bytesSeenBy_21 rfl ?_
        refine g_callVp (ci := 0) G (c_Jx4a65c_get_915e3 _ S (ad 5 2) 3 (mN M 11) j (ad 2) l2 hlt) mt_Jx4a65c_get_915e3 mi_Jx4a65c_get_915e3 ml_X7_300 (l2.1) (by first | decide | omega) rfl (by decide) (by omega) (by omega) rfl (Nat.le_of_ble_eq_true rfl) dX7_bytesSeenBy_23 ?_
        refine g_cast (ci := 2) G (by assumption) (by first | decide | omega) rfl cl_X7_95 dX7_bytesSeenBy_26 ?_
        first | refine g_astore G dX7_bytesSeenBy_29 (gSt_5 (by first | rfl | exact g_c1_rf)) ?_ | refine g_astoreN G dX7_bytesSeenBy_29 (gSt_5 (by first | rfl | exact g_c1_rf)) ?_ | refine g_astoreQ G dX7_bytesSeenBy_29 (gSt_5 (by first | rfl | exact g_c1_rf)) ?_
        first | refine g_aload G dX7_bytesSeenBy_31 rfl ?_ | refine g_aloadN G dX7_bytesSeenBy_31 rfl ?_ | refine g_aloadQ G dX7_bytesSeenBy_31 rfl ?_
        first | refine g_getR G fl_X7_181 (by assumption) (by first | decide | omega) rfl (by assumption) dX7_bytesSeenBy_33 ?_ | refine g_getZ G fl_X7_181 (by assumption) (by first | decide | omega) rfl (by assumption) dX7_bytesSeenBy_33 ?_ | refine g_getQ G fl_X7_181 (by assumption) (by first | decide | omega) rfl (by first | assumption | rfl) dX7_bytesSeenBy_33 ?_
        first | refine g_aload_n G dX7_bytesSeenBy_36 rfl ?_ | refine g_aload_nN G dX7_bytesSeenBy_36 rfl ?_ | refine g_aload_nQ G dX7_bytesSeenBy_36 rfl ?_
        refine g_acmp_ne (rx := some _) (ry := some _) (tgt := 56) G dX7_bytesSeenBy_37 (by decide) (fun c_37 => ?_) (fun c_37 => ?_)
        · have e9 := gBytes_no (M := M) (p := p) (c := c) (n := j) (fun z => c_37 ((gCase_inj h kc1 hc).mpr (kc2.symm.trans z)))
          refine g_iinc (v := _) G dX7_bytesSeenBy_56 rfl (by first | exact nI_1 _ | rfl) (gSt_4 (by first | rfl | exact g_c1_rf)) ?_
          refine g_goto (tgt := 5) G dX7_bytesSeenBy_59 (by decide) ?_
          have h9 := ih (j + 1) (by omega) (by omega)
          rw [e9] at h9
          exact h9 _
        · have e9 := gBytes_yes (M := M) (p := p) (c := c) (n := j) (kc2.trans ((gCase_inj h kc1 hc).mp c_37))
          refine g_iload_n G dX7_bytesSeenBy_40 rfl ?_
          first | refine g_aload G dX7_bytesSeenBy_41 rfl ?_ | refine g_aloadN G dX7_bytesSeenBy_41 rfl ?_ | refine g_aloadQ G dX7_bytesSeenBy_41 rfl ?_
          first | refine g_getR G fl_X7_202 (by assumption) (by first | decide | omega) rfl (by assumption) dX7_bytesSeenBy_43 ?_ | refine g_getZ G fl_X7_202 (by assumption) (by first | decide | omega) rfl (by assumption) dX7_bytesSeenBy_43 ?_ | refine g_getQ G fl_X7_202 (by assumption) (by first | decide | omega) rfl (by first | assumption | rfl) dX7_bytesSeenBy_43 ?_
          refine g_alen G (t1) (by first | decide | omega) (by first | assumption | rfl) dX7_bytesSeenBy_46 ?_
          first | refine g_aload_n G dX7_bytesSeenBy_47 rfl ?_ | refine g_aload_nN G dX7_bytesSeenBy_47 rfl ?_ | refine g_aload_nQ G dX7_bytesSeenBy_47 rfl ?_
          first | refine g_aload G dX7_bytesSeenBy_48 rfl ?_ | refine g_aloadN G dX7_bytesSeenBy_48 rfl ?_ | refine g_aloadQ G dX7_bytesSeenBy_48 rfl ?_
          refine g_callSp G (c_X7_hiddenBytes _ S x ad M h p j hp hlt) mt_X7_hiddenBytes ms_X7_hiddenBytes ml_X7_198 (by decide) (by omega) (by omega) rfl (Nat.le_of_ble_eq_true rfl) dX7_bytesSeenBy_50 ?_
          refine g_isub G dX7_bytesSeenBy_53 ((pk_sub (gct_le _ _))) ?_
          refine g_iadd G dX7_bytesSeenBy_54 (by first | exact nI_add _ _ | rfl) ?_
          refine g_istore_n G dX7_bytesSeenBy_55 (gSt_3 (by first | rfl | exact g_c1_rf)) ?_
          refine g_iinc (v := _) G dX7_bytesSeenBy_56 rfl (by first | exact nI_1 _ | rfl) (gSt_4 (by first | rfl | exact g_c1_rf)) ?_
          refine g_goto (tgt := 5) G dX7_bytesSeenBy_59 (by decide) ?_
          have h9 := ih (j + 1) (by omega) (by omega)
          rw [e9] at h9
          exact h9 _
  exact loop (mN M 11 + 1) 0 (by omega) (by omega) _

set_option maxHeartbeats 4000000 in
set_option maxRecDepth 100000 in
theorem c_X7_countAdmitted (d0 : Nat × Nat) (S : gS) (x : Nat) (ad : Nat → Nat → Nat) (M : gM) (h : gMail d0 S x ad M) (c : Nat) (hc : c < mN M 6) : gCt d0 yX7_countAdmitted cX7_countAdmitted 5 (some .int) 5 0 0 [.ref x, .ref (ad 0 c)] S (gRet (.int (nI (gct (fun k => decide (mA M 18 k = nI c) && gAdm M k) (mN M 17)))) S) gNo := by
  refine gCt_of (lo := [some (.ref x), some (.ref (ad 0 c)), none, none, none]) (by decide +kernel) (Nat.le_of_ble_eq_true rfl) rfl ?_
  intro Γ hd G F hini
  obtain ⟨⟨r1, ⟨ra, rb, rc, rd, re⟩, rt, rtl, rp, rpl, rdr, rep, rday⟩, ⟨l0, l1, l2, l3, l4⟩, ht, hcs, hps, hds, hes, hls⟩ := id h
  subst hd
  refine g_iconst (v := nI 0) G dX7_countAdmitted_0 (by decide) ?_
  refine g_istore_n G dX7_countAdmitted_1 (gSt_2 (by first | rfl | exact g_c1_rf)) ?_
  refine g_iconst (v := nI 0) G dX7_countAdmitted_2 (by decide) ?_
  refine g_istore_n G dX7_countAdmitted_3 (gSt_3 (by first | rfl | exact g_c1_rf)) ?_
  have hN := l3.2.2.1
  have loop : ∀ f j : Nat, j ≤ mN M 17 → mN M 17 + 1 ≤ j + f → ∀ w : Option Value, gW Γ 4 [some (.ref x), some (.ref (ad 0 c)), some (.int (nI (gct (fun k => decide (mA M 18 k = nI c) && gAdm M k) (j)))), some (.int (nI j)), w] [] S 0 0 := by
    intro f
    induction f with
    | zero => intro j h1 h2; omega
    | succ f ih =>
      intro j hj hf w
      refine g_iload_n G dX7_countAdmitted_4 rfl ?_
      first | refine g_aload_n G dX7_countAdmitted_5 rfl ?_ | refine g_aload_nN G dX7_countAdmitted_5 rfl ?_ | refine g_aload_nQ G dX7_countAdmitted_5 rfl ?_
      first | refine g_getR G fl_X7_22 (by assumption) (by first | decide | omega) rfl (by assumption) dX7_countAdmitted_6 ?_ | refine g_getZ G fl_X7_22 (by assumption) (by first | decide | omega) rfl (by assumption) dX7_countAdmitted_6 ?_ | refine g_getQ G fl_X7_22 (by assumption) (by first | decide | omega) rfl (by first | assumption | rfl) dX7_countAdmitted_6 ?_
      refine g_callVp (ci := 0) G (c_Jx4a65c_size_8abf5 _ S (ad 5 3) 4 (mN M 17) (ad 3) l3) mt_Jx4a65c_size_8abf5 mi_Jx4a65c_size_8abf5 ml_X7_80 (l3.1) (by first | decide | omega) rfl (by decide) (by omega) (by omega) rfl (Nat.le_of_ble_eq_true rfl) dX7_countAdmitted_9 ?_
      refine g_icmp_ge (tgt := 54) G dX7_countAdmitted_12 (by decide) (fun c_12 => ?_) (fun c_12 => ?_)
      · have ej : j = mN M 17 := by have := (nI_leI (by omega) (by omega)).mp c_12; omega
        subst ej
        refine g_iload_n G dX7_countAdmitted_54 rfl ?_
        exact g_iret G F (gRi rfl) (by omega) (by omega) dX7_countAdmitted_55
      · have hlt : j < mN M 17 := by have z : ¬ mN M 17 ≤ j := fun z => c_12 ((nI_leI (by omega) (by omega)).mpr z); omega
        obtain ⟨k1, k2, ⟨kc, kc1, kc2, kc3⟩, ⟨k4, k5, k6, k7, kw⟩, k8⟩ := hes j hlt
        first | refine g_aload_n G dX7_countAdmitted_15 rfl ?_ | refine g_aload_nN G dX7_countAdmitted_15 rfl ?_ | refine g_aload_nQ G dX7_countAdmitted_15 rfl ?_
        first | refine g_getR G fl_X7_22 (by assumption) (by first | decide | omega) rfl (by assumption) dX7_countAdmitted_16 ?_ | refine g_getZ G fl_X7_22 (by assumption) (by first | decide | omega) rfl (by assumption) dX7_countAdmitted_16 ?_ | refine g_getQ G fl_X7_22 (by assumption) (by first | decide | omega) rfl (by first | assumption | rfl) dX7_countAdmitted_16 ?_
        refine g_iload_n G dX7_countAdmitted_19 rfl ?_
        refine g_callVp (ci := 0) G (c_Jx4a65c_get_915e3 _ S (ad 5 3) 4 (mN M 17) j (ad 3) l3 hlt) mt_Jx4a65c_get_915e3 mi_Jx4a65c_get_915e3 ml_X7_300 (l3.1) (by first | decide | omega) rfl (by decide) (by omega) (by omega) rfl (Nat.le_of_ble_eq_true rfl) dX7_countAdmitted_20 ?_
        refine g_cast (ci := 4) G (by assumption) (by first | decide | omega) rfl cl_X7_241 dX7_countAdmitted_23 ?_
        first | refine g_astore G dX7_countAdmitted_26 (gSt_4 (by first | rfl | exact g_c1_rf)) ?_ | refine g_astoreN G dX7_countAdmitted_26 (gSt_4 (by first | rfl | exact g_c1_rf)) ?_ | refine g_astoreQ G dX7_countAdmitted_26 (gSt_4 (by first | rfl | exact g_c1_rf)) ?_
        first | refine g_aload G dX7_countAdmitted_28 rfl ?_ | refine g_aloadN G dX7_countAdmitted_28 rfl ?_ | refine g_aloadQ G dX7_countAdmitted_28 rfl ?_
        first | refine g_getR G fl_X7_263 (by assumption) (by first | decide | omega) rfl (by assumption) dX7_countAdmitted_30 ?_ | refine g_getZ G fl_X7_263 (by assumption) (by first | decide | omega) rfl (by assumption) dX7_countAdmitted_30 ?_ | refine g_getQ G fl_X7_263 (by assumption) (by first | decide | omega) rfl (by first | assumption | rfl) dX7_countAdmitted_30 ?_
        first | refine g_aload_n G dX7_countAdmitted_33 rfl ?_ | refine g_aload_nN G dX7_countAdmitted_33 rfl ?_ | refine g_aload_nQ G dX7_countAdmitted_33 rfl ?_
        refine g_acmp_ne (rx := some _) (ry := some _) (tgt := 48) G dX7_countAdmitted_34 (by decide) (fun c_34 => ?_) (fun c_34 => ?_)
        · have e9 := gct_no (p := fun k => decide (mA M 18 k = nI c) && gAdm M k) (n := j) (by simp only [decide_eq_false (fun z => c_34 ((gCase_inj h kc1 hc).mpr (kc2.symm.trans z))), Bool.false_and])
          refine g_iinc (v := _) G dX7_countAdmitted_48 rfl (by first | exact nI_1 _ | rfl) (gSt_3 (by first | rfl | exact g_c1_rf)) ?_
          refine g_goto (tgt := 4) G dX7_countAdmitted_51 (by decide) ?_
          have h9 := ih (j + 1) (by omega) (by omega)
          rw [e9] at h9
          exact h9 _
        · have e8 : decide (mA M 18 j = nI c) = true := decide_eq_true (kc2.trans ((gCase_inj h kc1 hc).mp c_34))
          first | refine g_aload G dX7_countAdmitted_37 rfl ?_ | refine g_aloadN G dX7_countAdmitted_37 rfl ?_ | refine g_aloadQ G dX7_countAdmitted_37 rfl ?_
          refine g_callVp (ci := 4) G (c_X3_canBeAdmitted _ S x ad M h j hlt) mt_X3_canBeAdmitted mi_X3_canBeAdmitted ml_X7_452 (by assumption) (by first | decide | omega) rfl (by decide) (by omega) (by omega) rfl (Nat.le_of_ble_eq_true rfl) dX7_countAdmitted_39 ?_
          refine g_if_eq (tgt := 48) G dX7_countAdmitted_42 (by decide) (fun c_42 => ?_) (fun c_42 => ?_)
          · have e9 := gct_no (p := fun k => decide (mA M 18 k = nI c) && gAdm M k) (n := j) (by simp only [e8, gB_eq0.mp c_42, Bool.and_false])
            refine g_iinc (v := _) G dX7_countAdmitted_48 rfl (by first | exact nI_1 _ | rfl) (gSt_3 (by first | rfl | exact g_c1_rf)) ?_
            refine g_goto (tgt := 4) G dX7_countAdmitted_51 (by decide) ?_
            have h9 := ih (j + 1) (by omega) (by omega)
            rw [e9] at h9
            exact h9 _
          · have e9 := gct_yes (p := fun k => decide (mA M 18 k = nI c) && gAdm M k) (n := j) (by simp only [e8, gB_ne0.mp c_42, Bool.and_true])
            refine g_iinc (v := _) G dX7_countAdmitted_45 rfl (by first | exact nI_1 _ | rfl) (gSt_2 (by first | rfl | exact g_c1_rf)) ?_
            refine g_iinc (v := _) G dX7_countAdmitted_48 rfl (by first | exact nI_1 _ | rfl) (gSt_3 (by first | rfl | exact g_c1_rf)) ?_
            refine g_goto (tgt := 4) G dX7_countAdmitted_51 (by decide) ?_
            have h9 := ih (j + 1) (by omega) (by omega)
            rw [e9] at h9
            exact h9 _
  exact loop (mN M 17 + 1) 0 (by omega) (by omega) _

set_option maxHeartbeats 4000000 in
set_option maxRecDepth 100000 in
theorem c_X7_countDeliveredTo (d0 : Nat × Nat) (S : gS) (x : Nat) (ad : Nat → Nat → Nat) (M : gM) (h : gMail d0 S x ad M) (p : Nat) (hp : p < mN M 8) : gCt d0 yX7_countDeliveredTo cX7_countDeliveredTo 5 (some .int) 3 0 0 [.ref x, .ref (ad 1 p)] S (gRet (.int (nI (gct (fun k => decide (mA M 25 k = nI p ∧ mA M 46 k = nI 1)) (mN M 23)))) S) gNo := by
  refine gCt_of (lo := [some (.ref x), some (.ref (ad 1 p)), none, none, none]) (by decide +kernel) (Nat.le_of_ble_eq_true rfl) rfl ?_
  intro Γ hd G F hini
  obtain ⟨⟨r1, ⟨ra, rb, rc, rd, re⟩, rt, rtl, rp, rpl, rdr, rep, rday⟩, ⟨l0, l1, l2, l3, l4⟩, ht, hcs, hps, hds, hes, hls⟩ := id h
  subst hd
  refine g_iconst (v := nI 0) G dX7_countDeliveredTo_0 (by decide) ?_
  refine g_istore_n G dX7_countDeliveredTo_1 (gSt_2 (by first | rfl | exact g_c1_rf)) ?_
  refine g_iconst (v := nI 0) G dX7_countDeliveredTo_2 (by decide) ?_
  refine g_istore_n G dX7_countDeliveredTo_3 (gSt_3 (by first | rfl | exact g_c1_rf)) ?_
  have hN := l4.2.2.1
  have loop : ∀ f j : Nat, j ≤ mN M 23 → mN M 23 + 1 ≤ j + f → ∀ w : Option Value, gW Γ 4 [some (.ref x), some (.ref (ad 1 p)), some (.int (nI (gct (fun k => decide (mA M 25 k = nI p ∧ mA M 46 k = nI 1)) (j)))), some (.int (nI j)), w] [] S 0 0 := by
    intro f
    induction f with
    | zero => intro j h1 h2; omega
    | succ f ih =>
      intro j hj hf w
      refine g_iload_n G dX7_countDeliveredTo_4 rfl ?_
      first | refine g_aload_n G dX7_countDeliveredTo_5 rfl ?_ | refine g_aload_nN G dX7_countDeliveredTo_5 rfl ?_ | refine g_aload_nQ G dX7_countDeliveredTo_5 rfl ?_
      first | refine g_getR G fl_X7_25 (by assumption) (by first | decide | omega) rfl (by assumption) dX7_countDeliveredTo_6 ?_ | refine g_getZ G fl_X7_25 (by assumption) (by first | decide | omega) rfl (by assumption) dX7_countDeliveredTo_6 ?_ | refine g_getQ G fl_X7_25 (by assumption) (by first | decide | omega) rfl (by first | assumption | rfl) dX7_countDeliveredTo_6 ?_
      refine g_callVp (ci := 0) G (c_Jx4a65c_size_8abf5 _ S (ad 5 4) 5 (mN M 23) (ad 4) l4) mt_Jx4a65c_size_8abf5 mi_Jx4a65c_size_8abf5 ml_X7_80 (l4.1) (by first | decide | omega) rfl (by decide) (by omega) (by omega) rfl (Nat.le_of_ble_eq_true rfl) dX7_countDeliveredTo_9 ?_
      refine g_icmp_ge (tgt := 55) G dX7_countDeliveredTo_12 (by decide) (fun c_12 => ?_) (fun c_12 => ?_)
      · have ej : j = mN M 23 := by have := (nI_leI (by omega) (by omega)).mp c_12; omega
        subst ej
        refine g_iload_n G dX7_countDeliveredTo_55 rfl ?_
        exact g_iret G F (gRi rfl) (by omega) (by omega) dX7_countDeliveredTo_56
      · have hlt : j < mN M 23 := by have z : ¬ mN M 23 ≤ j := fun z => c_12 ((nI_leI (by omega) (by omega)).mpr z); omega
        obtain ⟨k1, ⟨kd, kd1, kd2, kd3⟩, k3, ⟨kp, kp1, kp2, kp3⟩, k5, k6, k7⟩ := hls j hlt
        first | refine g_aload_n G dX7_countDeliveredTo_15 rfl ?_ | refine g_aload_nN G dX7_countDeliveredTo_15 rfl ?_ | refine g_aload_nQ G dX7_countDeliveredTo_15 rfl ?_
        first | refine g_getR G fl_X7_25 (by assumption) (by first | decide | omega) rfl (by assumption) dX7_countDeliveredTo_16 ?_ | refine g_getZ G fl_X7_25 (by assumption) (by first | decide | omega) rfl (by assumption) dX7_countDeliveredTo_16 ?_ | refine g_getQ G fl_X7_25 (by assumption) (by first | decide | omega) rfl (by first | assumption | rfl) dX7_countDeliveredTo_16 ?_
        refine g_iload_n G dX7_countDeliveredTo_19 rfl ?_
        refine g_callVp (ci := 0) G (c_Jx4a65c_get_915e3 _ S (ad 5 4) 5 (mN M 23) j (ad 4) l4 hlt) mt_Jx4a65c_get_915e3 mi_Jx4a65c_get_915e3 ml_X7_300 (l4.1) (by first | decide | omega) rfl (by decide) (by omega) (by omega) rfl (Nat.le_of_ble_eq_true rfl) dX7_countDeliveredTo_20 ?_
        refine g_cast (ci := 5) G (by assumption) (by first | decide | omega) rfl cl_X7_312 dX7_countDeliveredTo_23 ?_
        first | refine g_astore G dX7_countDeliveredTo_26 (gSt_4 (by first | rfl | exact g_c1_rf)) ?_ | refine g_astoreN G dX7_countDeliveredTo_26 (gSt_4 (by first | rfl | exact g_c1_rf)) ?_ | refine g_astoreQ G dX7_countDeliveredTo_26 (gSt_4 (by first | rfl | exact g_c1_rf)) ?_
        first | refine g_aload G dX7_countDeliveredTo_28 rfl ?_ | refine g_aloadN G dX7_countDeliveredTo_28 rfl ?_ | refine g_aloadQ G dX7_countDeliveredTo_28 rfl ?_
        first | refine g_getR G fl_X7_351 (by assumption) (by first | decide | omega) rfl (by assumption) dX7_countDeliveredTo_30 ?_ | refine g_getZ G fl_X7_351 (by assumption) (by first | decide | omega) rfl (by assumption) dX7_countDeliveredTo_30 ?_ | refine g_getQ G fl_X7_351 (by assumption) (by first | decide | omega) rfl (by first | assumption | rfl) dX7_countDeliveredTo_30 ?_
        first | refine g_aload_n G dX7_countDeliveredTo_33 rfl ?_ | refine g_aload_nN G dX7_countDeliveredTo_33 rfl ?_ | refine g_aload_nQ G dX7_countDeliveredTo_33 rfl ?_
        refine g_acmp_ne (rx := some _) (ry := some _) (tgt := 49) G dX7_countDeliveredTo_34 (by decide) (fun c_34 => ?_) (fun c_34 => ?_)
        · have e9 := gct_no (p := fun k => decide (mA M 25 k = nI p ∧ mA M 46 k = nI 1)) (n := j) (decide_eq_false (fun z => c_34 ((gPers_inj h kp1 hp).mpr (kp2.symm.trans z.1))))
          refine g_iinc (v := _) G dX7_countDeliveredTo_49 rfl (by first | exact nI_1 _ | rfl) (gSt_3 (by first | rfl | exact g_c1_rf)) ?_
          refine g_goto (tgt := 4) G dX7_countDeliveredTo_52 (by decide) ?_
          have h9 := ih (j + 1) (by omega) (by omega)
          rw [e9] at h9
          exact h9 _
        · first | refine g_aload G dX7_countDeliveredTo_37 rfl ?_ | refine g_aloadN G dX7_countDeliveredTo_37 rfl ?_ | refine g_aloadQ G dX7_countDeliveredTo_37 rfl ?_
          refine g_getI G fl_X7_337 (by assumption) (by first | decide | omega) rfl (by first | assumption | rfl) dX7_countDeliveredTo_39 ?_
          refine g_iconst (v := nI 1) G dX7_countDeliveredTo_42 (by decide) ?_
          refine g_icmp_ne (tgt := 49) G dX7_countDeliveredTo_43 (by decide) (fun c_43 => ?_) (fun c_43 => ?_)
          · have e9 := gct_no (p := fun k => decide (mA M 25 k = nI p ∧ mA M 46 k = nI 1)) (n := j) (decide_eq_false (fun z => c_43 z.2))
            refine g_iinc (v := _) G dX7_countDeliveredTo_49 rfl (by first | exact nI_1 _ | rfl) (gSt_3 (by first | rfl | exact g_c1_rf)) ?_
            refine g_goto (tgt := 4) G dX7_countDeliveredTo_52 (by decide) ?_
            have h9 := ih (j + 1) (by omega) (by omega)
            rw [e9] at h9
            exact h9 _
          · have e9 := gct_yes (p := fun k => decide (mA M 25 k = nI p ∧ mA M 46 k = nI 1)) (n := j) (decide_eq_true ⟨kp2.trans ((gPers_inj h kp1 hp).mp c_34), c_43⟩)
            refine g_iinc (v := _) G dX7_countDeliveredTo_46 rfl (by first | exact nI_1 _ | rfl) (gSt_2 (by first | rfl | exact g_c1_rf)) ?_
            refine g_iinc (v := _) G dX7_countDeliveredTo_49 rfl (by first | exact nI_1 _ | rfl) (gSt_3 (by first | rfl | exact g_c1_rf)) ?_
            refine g_goto (tgt := 4) G dX7_countDeliveredTo_52 (by decide) ?_
            have h9 := ih (j + 1) (by omega) (by omega)
            rw [e9] at h9
            exact h9 _
  exact loop (mN M 23 + 1) 0 (by omega) (by omega) _

set_option maxHeartbeats 4000000 in
set_option maxRecDepth 100000 in
theorem c_X7_lettersAhead (d0 : Nat × Nat) (S : gS) (x : Nat) (ad : Nat → Nat → Nat) (M : gM) (h : gMail d0 S x ad M) (l : Nat) (hl : l < mN M 23) : gCt d0 yX7_lettersAhead cX7_lettersAhead 6 (some .int) 3 0 0 [.ref x, .int (nI l), .ref (ad 4 l)] S (gRet (.int (nI (gct (gAheadP M l) (mN M 23)))) S) gNo := by
  refine gCt_of (lo := [some (.ref x), some (.int (nI l)), some (.ref (ad 4 l)), none, none, none]) (by decide +kernel) (Nat.le_of_ble_eq_true rfl) rfl ?_
  intro Γ hd G F hini
  obtain ⟨⟨r1, ⟨ra, rb, rc, rd, re⟩, rt, rtl, rp, rpl, rdr, rep, rday⟩, ⟨l0, l1, l2, l3, l4⟩, ht, hcs, hps, hds, hes, hls⟩ := id h
  subst hd
  refine g_iconst (v := nI 0) G dX7_lettersAhead_0 (by decide) ?_
  refine g_istore_n G dX7_lettersAhead_1 (gSt_3 (by first | rfl | exact g_c1_rf)) ?_
  refine g_iconst (v := nI 0) G dX7_lettersAhead_2 (by decide) ?_
  refine g_istore G dX7_lettersAhead_3 (gSt_4 (by first | rfl | exact g_c1_rf)) ?_
  have hN := l4.2.2.1
  have loop : ∀ f j : Nat, j ≤ mN M 23 → mN M 23 + 1 ≤ j + f → ∀ w : Option Value, gW Γ 5 [some (.ref x), some (.int (nI l)), some (.ref (ad 4 l)), some (.int (nI (gct (gAheadP M l) (j)))), some (.int (nI j)), w] [] S 0 0 := by
    intro f
    induction f with
    | zero => intro j h1 h2; omega
    | succ f ih =>
      intro j hj hf w
      refine g_iload G dX7_lettersAhead_5 rfl ?_
      first | refine g_aload_n G dX7_lettersAhead_7 rfl ?_ | refine g_aload_nN G dX7_lettersAhead_7 rfl ?_ | refine g_aload_nQ G dX7_lettersAhead_7 rfl ?_
      first | refine g_getR G fl_X7_25 (by assumption) (by first | decide | omega) rfl (by assumption) dX7_lettersAhead_8 ?_ | refine g_getZ G fl_X7_25 (by assumption) (by first | decide | omega) rfl (by assumption) dX7_lettersAhead_8 ?_ | refine g_getQ G fl_X7_25 (by assumption) (by first | decide | omega) rfl (by first | assumption | rfl) dX7_lettersAhead_8 ?_
      refine g_callVp (ci := 0) G (c_Jx4a65c_size_8abf5 _ S (ad 5 4) 5 (mN M 23) (ad 4) l4) mt_Jx4a65c_size_8abf5 mi_Jx4a65c_size_8abf5 ml_X7_80 (l4.1) (by first | decide | omega) rfl (by decide) (by omega) (by omega) rfl (Nat.le_of_ble_eq_true rfl) dX7_lettersAhead_11 ?_
      refine g_icmp_ge (tgt := 78) G dX7_lettersAhead_14 (by decide) (fun c_14 => ?_) (fun c_14 => ?_)
      · have ej : j = mN M 23 := by have := (nI_leI (by omega) (by omega)).mp c_14; omega
        subst ej
        refine g_iload_n G dX7_lettersAhead_78 rfl ?_
        exact g_iret G F (gRi rfl) (by omega) (by omega) dX7_lettersAhead_79
      · have hlt : j < mN M 23 := by have z : ¬ mN M 23 ≤ j := fun z => c_14 ((nI_leI (by omega) (by omega)).mpr z); omega
        obtain ⟨k1, ⟨kd, kd1, kd2, kd3⟩, k3, ⟨kp, kp1, kp2, kp3⟩, k5, k6, k7⟩ := hls j hlt
        obtain ⟨q1, -, -, -, q5, -⟩ := hls l hl
        first | refine g_aload_n G dX7_lettersAhead_17 rfl ?_ | refine g_aload_nN G dX7_lettersAhead_17 rfl ?_ | refine g_aload_nQ G dX7_lettersAhead_17 rfl ?_
        first | refine g_getR G fl_X7_25 (by assumption) (by first | decide | omega) rfl (by assumption) dX7_lettersAhead_18 ?_ | refine g_getZ G fl_X7_25 (by assumption) (by first | decide | omega) rfl (by assumption) dX7_lettersAhead_18 ?_ | refine g_getQ G fl_X7_25 (by assumption) (by first | decide | omega) rfl (by first | assumption | rfl) dX7_lettersAhead_18 ?_
        refine g_iload G dX7_lettersAhead_21 rfl ?_
        refine g_callVp (ci := 0) G (c_Jx4a65c_get_915e3 _ S (ad 5 4) 5 (mN M 23) j (ad 4) l4 hlt) mt_Jx4a65c_get_915e3 mi_Jx4a65c_get_915e3 ml_X7_300 (l4.1) (by first | decide | omega) rfl (by decide) (by omega) (by omega) rfl (Nat.le_of_ble_eq_true rfl) dX7_lettersAhead_23 ?_
        refine g_cast (ci := 5) G (by assumption) (by first | decide | omega) rfl cl_X7_312 dX7_lettersAhead_26 ?_
        first | refine g_astore G dX7_lettersAhead_29 (gSt_5 (by first | rfl | exact g_c1_rf)) ?_ | refine g_astoreN G dX7_lettersAhead_29 (gSt_5 (by first | rfl | exact g_c1_rf)) ?_ | refine g_astoreQ G dX7_lettersAhead_29 (gSt_5 (by first | rfl | exact g_c1_rf)) ?_
        first | refine g_aload G dX7_lettersAhead_31 rfl ?_ | refine g_aloadN G dX7_lettersAhead_31 rfl ?_ | refine g_aloadQ G dX7_lettersAhead_31 rfl ?_
        refine g_getI G fl_X7_337 (by assumption) (by first | decide | omega) rfl (by first | assumption | rfl) dX7_lettersAhead_33 ?_
        refine g_if_ne (tgt := 72) G dX7_lettersAhead_36 (by decide) (fun c_36 => ?_) (fun c_36 => ?_)
        · have e9 := gct_no (p := gAheadP M l) (n := j) (decide_eq_false (fun z => c_36 z.1))
          refine g_iinc (v := _) G dX7_lettersAhead_72 rfl (by first | exact nI_1 _ | rfl) (gSt_4 (by first | rfl | exact g_c1_rf)) ?_
          refine g_goto (tgt := 5) G dX7_lettersAhead_75 (by decide) ?_
          have h9 := ih (j + 1) (by omega) (by omega)
          rw [e9] at h9
          exact h9 _
        · first | refine g_aload G dX7_lettersAhead_39 rfl ?_ | refine g_aloadN G dX7_lettersAhead_39 rfl ?_ | refine g_aloadQ G dX7_lettersAhead_39 rfl ?_
          refine g_getI G fl_X7_411 (by assumption) (by first | decide | omega) rfl (by first | assumption | rfl) dX7_lettersAhead_41 ?_
          first | refine g_aload_n G dX7_lettersAhead_44 rfl ?_ | refine g_aload_nN G dX7_lettersAhead_44 rfl ?_ | refine g_aload_nQ G dX7_lettersAhead_44 rfl ?_
          refine g_getI G fl_X7_411 (by assumption) (by first | decide | omega) rfl (by first | assumption | rfl) dX7_lettersAhead_45 ?_
          refine g_icmp_lt (tgt := 69) G dX7_lettersAhead_48 (by decide) (fun c_48 => ?_) (fun c_48 => ?_)
          · have e9 := gct_yes (p := gAheadP M l) (n := j) (decide_eq_true ⟨c_36, Or.inl c_48⟩)
            refine g_iinc (v := _) G dX7_lettersAhead_69 rfl (by first | exact nI_1 _ | rfl) (gSt_3 (by first | rfl | exact g_c1_rf)) ?_
            refine g_iinc (v := _) G dX7_lettersAhead_72 rfl (by first | exact nI_1 _ | rfl) (gSt_4 (by first | rfl | exact g_c1_rf)) ?_
            refine g_goto (tgt := 5) G dX7_lettersAhead_75 (by decide) ?_
            have h9 := ih (j + 1) (by omega) (by omega)
            rw [e9] at h9
            exact h9 _
          · first | refine g_aload G dX7_lettersAhead_51 rfl ?_ | refine g_aloadN G dX7_lettersAhead_51 rfl ?_ | refine g_aloadQ G dX7_lettersAhead_51 rfl ?_
            refine g_getI G fl_X7_411 (by assumption) (by first | decide | omega) rfl (by first | assumption | rfl) dX7_lettersAhead_53 ?_
            first | refine g_aload_n G dX7_lettersAhead_56 rfl ?_ | refine g_aload_nN G dX7_lettersAhead_56 rfl ?_ | refine g_aload_nQ G dX7_lettersAhead_56 rfl ?_
            refine g_getI G fl_X7_411 (by assumption) (by first | decide | omega) rfl (by first | assumption | rfl) dX7_lettersAhead_57 ?_
            refine g_icmp_ne (tgt := 72) G dX7_lettersAhead_60 (by decide) (fun c_60 => ?_) (fun c_60 => ?_)
            · have e9 := gct_no (p := gAheadP M l) (n := j) (decide_eq_false (fun z => z.2.elim c_48 (fun y => c_60 y.1)))
              refine g_iinc (v := _) G dX7_lettersAhead_72 rfl (by first | exact nI_1 _ | rfl) (gSt_4 (by first | rfl | exact g_c1_rf)) ?_
              refine g_goto (tgt := 5) G dX7_lettersAhead_75 (by decide) ?_
              have h9 := ih (j + 1) (by omega) (by omega)
              rw [e9] at h9
              exact h9 _
            · refine g_iload G dX7_lettersAhead_63 rfl ?_
              refine g_iload_n G dX7_lettersAhead_65 rfl ?_
              refine g_icmp_ge (tgt := 72) G dX7_lettersAhead_66 (by decide) (fun c_66 => ?_) (fun c_66 => ?_)
              · have e9 := gct_no (p := gAheadP M l) (n := j) (decide_eq_false (fun z => z.2.elim c_48 (fun y => absurd (nI_lt y.2 (by omega)) (Int32.not_lt.mpr c_66))))
                refine g_iinc (v := _) G dX7_lettersAhead_72 rfl (by first | exact nI_1 _ | rfl) (gSt_4 (by first | rfl | exact g_c1_rf)) ?_
                refine g_goto (tgt := 5) G dX7_lettersAhead_75 (by decide) ?_
                have h9 := ih (j + 1) (by omega) (by omega)
                rw [e9] at h9
                exact h9 _
              · have e9 := gct_yes (p := gAheadP M l) (n := j) (decide_eq_true ⟨c_36, Or.inr ⟨c_60, by have z : ¬ l ≤ j := fun z => c_66 ((nI_leI (by omega) (by omega)).mpr z); omega⟩⟩)
                refine g_iinc (v := _) G dX7_lettersAhead_69 rfl (by first | exact nI_1 _ | rfl) (gSt_3 (by first | rfl | exact g_c1_rf)) ?_
                refine g_iinc (v := _) G dX7_lettersAhead_72 rfl (by first | exact nI_1 _ | rfl) (gSt_4 (by first | rfl | exact g_c1_rf)) ?_
                refine g_goto (tgt := 5) G dX7_lettersAhead_75 (by decide) ?_
                have h9 := ih (j + 1) (by omega) (by omega)
                rw [e9] at h9
                exact h9 _
  exact loop (mN M 23 + 1) 0 (by omega) (by omega) _

set_option maxHeartbeats 4000000 in
set_option maxRecDepth 100000 in
theorem c_X7_clearanceBehind (d0 : Nat × Nat) (S : gS) (x : Nat) (ad : Nat → Nat → Nat) (M : gM) (h : gMail d0 S x ad M) (p : Nat) (hp : p < mN M 8) (t : Int32) : gCt d0 yX7_clearanceBehind cX7_clearanceBehind 6 (some .int) 3 0 0 [.ref x, .ref (ad 1 p), .int t] S (gRet (.int (if nI 0 < mA M 41 p - (mA M 42 p + nI (gct (gLateP M p (nI (mN M 40) + t)) (mN M 11))) / nI 3 then mA M 41 p - (mA M 42 p + nI (gct (gLateP M p (nI (mN M 40) + t)) (mN M 11))) / nI 3 else nI 0)) S) gNo := by
  refine gCt_of (lo := [some (.ref x), some (.ref (ad 1 p)), some (.int t), none, none, none]) (by decide +kernel) (Nat.le_of_ble_eq_true rfl) rfl ?_
  intro Γ hd G F hini
  obtain ⟨⟨r1, ⟨ra, rb, rc, rd, re⟩, rt, rtl, rp, rpl, rdr, rep, rday⟩, ⟨l0, l1, l2, l3, l4⟩, ht, hcs, hps, hds, hes, hls⟩ := id h
  subst hd
  obtain ⟨p1, p2, p3, p4, p5, p6⟩ := id (hps p hp)
  first | refine g_aload_n G dX7_clearanceBehind_0 rfl ?_ | refine g_aload_nN G dX7_clearanceBehind_0 rfl ?_ | refine g_aload_nQ G dX7_clearanceBehind_0 rfl ?_
  refine g_getI G fl_X7_420 (by assumption) (by first | decide | omega) rfl (by first | assumption | rfl) dX7_clearanceBehind_1 ?_
  refine g_istore_n G dX7_clearanceBehind_4 (gSt_3 (by first | rfl | exact g_c1_rf)) ?_
  refine g_iconst (v := nI 0) G dX7_clearanceBehind_5 (by decide) ?_
  refine g_istore G dX7_clearanceBehind_6 (gSt_4 (by first | rfl | exact g_c1_rf)) ?_
  have hN := l2.2.2.1
  have loop : ∀ f j : Nat, j ≤ mN M 11 → mN M 11 + 1 ≤ j + f → ∀ w : Option Value, gW Γ 8 [some (.ref x), some (.ref (ad 1 p)), some (.int t), some (.int (mA M 42 p + nI (gct (gLateP M p (nI (mN M 40) + t)) (j)))), some (.int (nI j)), w] [] S 0 0 := by
    intro f
    induction f with
    | zero => intro j h1 h2; omega
    | succ f ih =>
      intro j hj hf w
      refine g_iload G dX7_clearanceBehind_8 rfl ?_
      first | refine g_aload_n G dX7_clearanceBehind_10 rfl ?_ | refine g_aload_nN G dX7_clearanceBehind_10 rfl ?_ | refine g_aload_nQ G dX7_clearanceBehind_10 rfl ?_
      first | refine g_getR G fl_X7_19 (by assumption) (by first | decide | omega) rfl (by assumption) dX7_clearanceBehind_11 ?_ | refine g_getZ G fl_X7_19 (by assumption) (by first | decide | omega) rfl (by assumption) dX7_clearanceBehind_11 ?_ | refine g_getQ G fl_X7_19 (by assumption) (by first | decide | omega) rfl (by first | assumption | rfl) dX7_clearanceBehind_11 ?_
      refine g_callVp (ci := 0) G (c_Jx4a65c_size_8abf5 _ S (ad 5 2) 3 (mN M 11) (ad 2) l2) mt_Jx4a65c_size_8abf5 mi_Jx4a65c_size_8abf5 ml_X7_80 (l2.1) (by first | decide | omega) rfl (by decide) (by omega) (by omega) rfl (Nat.le_of_ble_eq_true rfl) dX7_clearanceBehind_14 ?_
      refine g_icmp_ge (tgt := 66) G dX7_clearanceBehind_17 (by decide) (fun c_17 => ?_) (fun c_17 => ?_)
      · have ej : j = mN M 11 := by have := (nI_leI (by omega) (by omega)).mp c_17; omega
        subst ej
        refine g_iconst (v := nI 0) G dX7_clearanceBehind_66 (by decide) ?_
        first | refine g_aload_n G dX7_clearanceBehind_67 rfl ?_ | refine g_aload_nN G dX7_clearanceBehind_67 rfl ?_ | refine g_aload_nQ G dX7_clearanceBehind_67 rfl ?_
        refine g_getI G fl_X7_423 (by assumption) (by first | decide | omega) rfl (by first | assumption | rfl) dX7_clearanceBehind_68 ?_
        refine g_iload_n G dX7_clearanceBehind_71 rfl ?_
        refine g_iconst (v := nI 3) G dX7_clearanceBehind_72 (by decide) ?_
        refine g_idiv G dX7_clearanceBehind_73 (by decide) (rfl) ?_
        refine g_isub G dX7_clearanceBehind_74 (rfl) ?_
        refine g_mmax G ml_X7_426 (by decide) (by omega) (by omega) (Nat.le_of_ble_eq_true rfl) (rfl) dX7_clearanceBehind_75 ?_
        exact g_iret G F (gRi rfl) (by omega) (by omega) dX7_clearanceBehind_78
      · have hlt : j < mN M 11 := by have z : ¬ mN M 11 ≤ j := fun z => c_17 ((nI_leI (by omega) (by omega)).mpr z); omega
        obtain ⟨k1, ⟨kc, kc1, kc2, kc3⟩, ⟨k2, k3, k4⟩, ⟨k5, k6, k7, k8, kpr⟩, k9⟩ := hds j hlt
        first | refine g_aload_n G dX7_clearanceBehind_20 rfl ?_ | refine g_aload_nN G dX7_clearanceBehind_20 rfl ?_ | refine g_aload_nQ G dX7_clearanceBehind_20 rfl ?_
        first | refine g_getR G fl_X7_19 (by assumption) (by first | decide | omega) rfl (by assumption) dX7_clearanceBehind_21 ?_ | refine g_getZ G fl_X7_19 (by assumption) (by first | decide | omega) rfl (by assumption) dX7_clearanceBehind_21 ?_ | refine g_getQ G fl_X7_19 (by assumption) (by first | decide | omega) rfl (by first | assumption | rfl) dX7_clearanceBehind_21 ?_
        refine g_iload G dX7_clearanceBehind_24 rfl ?_
        refine g_callVp (ci := 0) G (c_Jx4a65c_get_915e3 _ S (ad 5 2) 3 (mN M 11) j (ad 2) l2 hlt) mt_Jx4a65c_get_915e3 mi_Jx4a65c_get_915e3 ml_X7_300 (l2.1) (by first | decide | omega) rfl (by decide) (by omega) (by omega) rfl (Nat.le_of_ble_eq_true rfl) dX7_clearanceBehind_26 ?_
        refine g_cast (ci := 2) G (by assumption) (by first | decide | omega) rfl cl_X7_95 dX7_clearanceBehind_29 ?_
        first | refine g_astore G dX7_clearanceBehind_32 (gSt_5 (by first | rfl | exact g_c1_rf)) ?_ | refine g_astoreN G dX7_clearanceBehind_32 (gSt_5 (by first | rfl | exact g_c1_rf)) ?_ | refine g_astoreQ G dX7_clearanceBehind_32 (gSt_5 (by first | rfl | exact g_c1_rf)) ?_
        first | refine g_aload G dX7_clearanceBehind_34 rfl ?_ | refine g_aloadN G dX7_clearanceBehind_34 rfl ?_ | refine g_aloadQ G dX7_clearanceBehind_34 rfl ?_
        first | refine g_getR G fl_X7_223 (by assumption) (by first | decide | omega) rfl (by assumption) dX7_clearanceBehind_36 ?_ | refine g_getZ G fl_X7_223 (by assumption) (by first | decide | omega) rfl (by assumption) dX7_clearanceBehind_36 ?_ | refine g_getQ G fl_X7_223 (by assumption) (by first | decide | omega) rfl (by first | assumption | rfl) dX7_clearanceBehind_36 ?_
        first | refine g_aload_n G dX7_clearanceBehind_39 rfl ?_ | refine g_aload_nN G dX7_clearanceBehind_39 rfl ?_ | refine g_aload_nQ G dX7_clearanceBehind_39 rfl ?_
        refine g_acmp_ne (rx := gRf ad (mA M 43 j)) (ry := some (ad 1 p)) (tgt := 60) G dX7_clearanceBehind_40 (by decide) (fun c_40 => ?_) (fun c_40 => ?_)
        · have e9 := gct_no (p := gLateP M p (nI (mN M 40) + t)) (n := j) (decide_eq_false (fun z => c_40 ((gRf_some h (Or.inr kpr) hp).mpr z.1)))
          refine g_iinc (v := _) G dX7_clearanceBehind_60 rfl (by first | exact nI_1 _ | rfl) (gSt_4 (by first | rfl | exact g_c1_rf)) ?_
          refine g_goto (tgt := 8) G dX7_clearanceBehind_63 (by decide) ?_
          have h9 := ih (j + 1) (by omega) (by omega)
          rw [e9] at h9
          exact h9 _
        · first | refine g_aload G dX7_clearanceBehind_43 rfl ?_ | refine g_aloadN G dX7_clearanceBehind_43 rfl ?_ | refine g_aloadQ G dX7_clearanceBehind_43 rfl ?_
          refine g_getI G fl_X7_229 (by assumption) (by first | decide | omega) rfl (by first | assumption | rfl) dX7_clearanceBehind_45 ?_
          first | refine g_aload_n G dX7_clearanceBehind_48 rfl ?_ | refine g_aload_nN G dX7_clearanceBehind_48 rfl ?_ | refine g_aload_nQ G dX7_clearanceBehind_48 rfl ?_
          refine g_getI G fl_X7_52 (by assumption) (by first | decide | omega) rfl (by first | assumption | rfl) dX7_clearanceBehind_49 ?_
          refine g_iload_n G dX7_clearanceBehind_52 rfl ?_
          refine g_iadd G dX7_clearanceBehind_53 (by first | exact nI_add _ _ | rfl) ?_
          refine g_icmp_ge (tgt := 60) G dX7_clearanceBehind_54 (by decide) (fun c_54 => ?_) (fun c_54 => ?_)
          · have e9 := gct_no (p := gLateP M p (nI (mN M 40) + t)) (n := j) (decide_eq_false (fun z => absurd z.2 (Int32.not_lt.mpr c_54)))
            refine g_iinc (v := _) G dX7_clearanceBehind_60 rfl (by first | exact nI_1 _ | rfl) (gSt_4 (by first | rfl | exact g_c1_rf)) ?_
            refine g_goto (tgt := 8) G dX7_clearanceBehind_63 (by decide) ?_
            have h9 := ih (j + 1) (by omega) (by omega)
            rw [e9] at h9
            exact h9 _
          · have e9 := gct_yes (p := gLateP M p (nI (mN M 40) + t)) (n := j) (decide_eq_true ⟨(gRf_some h (Or.inr kpr) hp).mp c_40, Int32.not_le.mp c_54⟩)
            refine g_iinc (v := mA M 42 p + nI (gct (gLateP M p (nI (mN M 40) + t)) j + 1)) G dX7_clearanceBehind_57 rfl (by rw [Int32.add_assoc]; exact congrArg _ (nI_1 _)) (gSt_3 (by first | rfl | exact g_c1_rf)) ?_
            refine g_iinc (v := _) G dX7_clearanceBehind_60 rfl (by first | exact nI_1 _ | rfl) (gSt_4 (by first | rfl | exact g_c1_rf)) ?_
            refine g_goto (tgt := 8) G dX7_clearanceBehind_63 (by decide) ?_
            have h9 := ih (j + 1) (by omega) (by omega)
            rw [e9] at h9
            exact h9 _
  have h9 := loop (mN M 11 + 1) 0 (by omega) (by omega) none
  rw [show mA M 42 p + nI (gct (gLateP M p (nI (mN M 40) + t)) 0) = mA M 42 p from Int32.add_zero _] at h9
  exact h9

set_option maxHeartbeats 4000000 in
set_option maxRecDepth 100000 in
theorem c_X7_nextLetter (d0 : Nat × Nat) (S : gS) (x : Nat) (ad : Nat → Nat → Nat) (M : gM) (h : gMail d0 S x ad M) : gCt d0 yX7_nextLetter cX7_nextLetter 4 (some (.object "CourtMail$Letter")) 3 0 0 [.ref x] S (fun v' S' => v' = some (va_rf ((gNx M (mN M 23)).map (ad 4))) ∧ S' = S) gNo := by
  refine gCt_of (lo := [some (.ref x), none, none, none]) (by decide +kernel) (Nat.le_of_ble_eq_true rfl) rfl ?_
  intro Γ hd G F hini
  obtain ⟨⟨r1, ⟨ra, rb, rc, rd, re⟩, rt, rtl, rp, rpl, rdr, rep, rday⟩, ⟨l0, l1, l2, l3, l4⟩, ht, hcs, hps, hds, hes, hls⟩ := id h
  subst hd
  refine g_null G dX7_nextLetter_0 ?_
  first | refine g_astore_n G dX7_nextLetter_1 (gSt_1 (by first | rfl | exact g_c1_rf)) ?_ | refine g_astore_nN G dX7_nextLetter_1 (gSt_1 (by first | rfl | exact g_c1_rf)) ?_ | refine g_astore_nQ G dX7_nextLetter_1 (gSt_1 (by first | rfl | exact g_c1_rf)) ?_
  refine g_iconst (v := nI 0) G dX7_nextLetter_2 (by decide) ?_
  refine g_istore_n G dX7_nextLetter_3 (gSt_2 (by first | rfl | exact g_c1_rf)) ?_
  have hN := l4.2.2.1
  have loop : ∀ f j : Nat, j ≤ mN M 23 → mN M 23 + 1 ≤ j + f → ∀ w : Option Value, gW Γ 4 [some (.ref x), some (va_rf ((gNx M (j)).map (ad 4))), some (.int (nI j)), w] [] S 0 0 := by
    intro f
    induction f with
    | zero => intro j h1 h2; omega
    | succ f ih =>
      intro j hj hf w
      refine g_iload_n G dX7_nextLetter_4 rfl ?_
      first | refine g_aload_n G dX7_nextLetter_5 rfl ?_ | refine g_aload_nN G dX7_nextLetter_5 rfl ?_ | refine g_aload_nQ G dX7_nextLetter_5 rfl ?_
      first | refine g_getR G fl_X7_25 (by assumption) (by first | decide | omega) rfl (by assumption) dX7_nextLetter_6 ?_ | refine g_getZ G fl_X7_25 (by assumption) (by first | decide | omega) rfl (by assumption) dX7_nextLetter_6 ?_ | refine g_getQ G fl_X7_25 (by assumption) (by first | decide | omega) rfl (by first | assumption | rfl) dX7_nextLetter_6 ?_
      refine g_callVp (ci := 0) G (c_Jx4a65c_size_8abf5 _ S (ad 5 4) 5 (mN M 23) (ad 4) l4) mt_Jx4a65c_size_8abf5 mi_Jx4a65c_size_8abf5 ml_X7_80 (l4.1) (by first | decide | omega) rfl (by decide) (by omega) (by omega) rfl (Nat.le_of_ble_eq_true rfl) dX7_nextLetter_9 ?_
      refine g_icmp_ge (tgt := 57) G dX7_nextLetter_12 (by decide) (fun c_12 => ?_) (fun c_12 => ?_)
      · have ej : j = mN M 23 := by have := (nI_leI (by omega) (by omega)).mp c_12; omega
        subst ej
        first | refine g_aload_n G dX7_nextLetter_57 rfl ?_ | refine g_aload_nN G dX7_nextLetter_57 rfl ?_ | refine g_aload_nQ G dX7_nextLetter_57 rfl ?_
        first | exact g_aret (o := some _) G F (by first | exact Or.inl ⟨_, rfl⟩ | exact Or.inr ⟨_, rfl⟩) (⟨rfl, rfl⟩) (by omega) (by omega) dX7_nextLetter_58 | exact g_aret (o := none) G F (by first | exact Or.inl ⟨_, rfl⟩ | exact Or.inr ⟨_, rfl⟩) (⟨rfl, rfl⟩) (by omega) (by omega) dX7_nextLetter_58 | exact g_aret (o := _) G F (by first | exact Or.inl ⟨_, rfl⟩ | exact Or.inr ⟨_, rfl⟩) (⟨rfl, rfl⟩) (by omega) (by omega) dX7_nextLetter_58
      · have hlt : j < mN M 23 := by have z : ¬ mN M 23 ≤ j := fun z => c_12 ((nI_leI (by omega) (by omega)).mpr z); omega
        obtain ⟨k1, -, -, -, k5, k6, k7⟩ := hls j hlt
        first | refine g_aload_n G dX7_nextLetter_15 rfl ?_ | refine g_aload_nN G dX7_nextLetter_15 rfl ?_ | refine g_aload_nQ G dX7_nextLetter_15 rfl ?_
        first | refine g_getR G fl_X7_25 (by assumption) (by first | decide | omega) rfl (by assumption) dX7_nextLetter_16 ?_ | refine g_getZ G fl_X7_25 (by assumption) (by first | decide | omega) rfl (by assumption) dX7_nextLetter_16 ?_ | refine g_getQ G fl_X7_25 (by assumption) (by first | decide | omega) rfl (by first | assumption | rfl) dX7_nextLetter_16 ?_
        refine g_iload_n G dX7_nextLetter_19 rfl ?_
        refine g_callVp (ci := 0) G (c_Jx4a65c_get_915e3 _ S (ad 5 4) 5 (mN M 23) j (ad 4) l4 hlt) mt_Jx4a65c_get_915e3 mi_Jx4a65c_get_915e3 ml_X7_300 (l4.1) (by first | decide | omega) rfl (by decide) (by omega) (by omega) rfl (Nat.le_of_ble_eq_true rfl) dX7_nextLetter_20 ?_
        refine g_cast (ci := 5) G (by assumption) (by first | decide | omega) rfl cl_X7_312 dX7_nextLetter_23 ?_
        first | refine g_astore_n G dX7_nextLetter_26 (gSt_3 (by first | rfl | exact g_c1_rf)) ?_ | refine g_astore_nN G dX7_nextLetter_26 (gSt_3 (by first | rfl | exact g_c1_rf)) ?_ | refine g_astore_nQ G dX7_nextLetter_26 (gSt_3 (by first | rfl | exact g_c1_rf)) ?_
        first | refine g_aload_n G dX7_nextLetter_27 rfl ?_ | refine g_aload_nN G dX7_nextLetter_27 rfl ?_ | refine g_aload_nQ G dX7_nextLetter_27 rfl ?_
        refine g_getI G fl_X7_337 (by assumption) (by first | decide | omega) rfl (by first | assumption | rfl) dX7_nextLetter_28 ?_
        refine g_if_ne (tgt := 51) G dX7_nextLetter_31 (by decide) (fun c_31 => ?_) (fun c_31 => ?_)
        · have e9 := gNx_no (M := M) (n := j) (fun z => c_31 z.1)
          refine g_iinc (v := _) G dX7_nextLetter_51 rfl (by first | exact nI_1 _ | rfl) (gSt_2 (by first | rfl | exact g_c1_rf)) ?_
          refine g_goto (tgt := 4) G dX7_nextLetter_54 (by decide) ?_
          have h9 := ih (j + 1) (by omega) (by omega)
          rw [e9] at h9
          exact h9 _
        · first | refine g_aload_n G dX7_nextLetter_34 rfl ?_ | refine g_aload_nN G dX7_nextLetter_34 rfl ?_ | refine g_aload_nQ G dX7_nextLetter_34 rfl ?_
          refine g_ifnullQ (tgt := 49) G dX7_nextLetter_35 (by decide) (fun c_35 => ?_) (fun q_35 c_35 => ?_)
          · have e0 : gNx M j = none := by cases z : gNx M j with
                                          | none => rfl
                                          | some b => rw [z] at c_35; cases c_35
            have e9 := gNx_yes (M := M) (n := j) ⟨c_31, fun b z => by rw [e0] at z; cases z⟩
            first | refine g_aload_n G dX7_nextLetter_49 rfl ?_ | refine g_aload_nN G dX7_nextLetter_49 rfl ?_ | refine g_aload_nQ G dX7_nextLetter_49 rfl ?_
            first | refine g_astore_n G dX7_nextLetter_50 (gSt_1 (by first | rfl | exact g_c1_rf)) ?_ | refine g_astore_nN G dX7_nextLetter_50 (gSt_1 (by first | rfl | exact g_c1_rf)) ?_ | refine g_astore_nQ G dX7_nextLetter_50 (gSt_1 (by first | rfl | exact g_c1_rf)) ?_
            refine g_iinc (v := _) G dX7_nextLetter_51 rfl (by first | exact nI_1 _ | rfl) (gSt_2 (by first | rfl | exact g_c1_rf)) ?_
            refine g_goto (tgt := 4) G dX7_nextLetter_54 (by decide) ?_
            have h9 := ih (j + 1) (by omega) (by omega)
            rw [e9] at h9
            exact h9 _
          · obtain ⟨b, eb⟩ : ∃ b, gNx M j = some b := by cases z : gNx M j with
                                                         | none => rw [z] at c_35; cases c_35
                                                         | some b => exact ⟨b, rfl⟩
            have hb := gNx_lt eb
            obtain ⟨y1, -, -, -, y5, y6, y7⟩ := hls b (by omega)
            first | refine g_aload_n G dX7_nextLetter_38 rfl ?_ | refine g_aload_nN G dX7_nextLetter_38 rfl ?_ | refine g_aload_nQ G dX7_nextLetter_38 rfl ?_
            refine g_getI G fl_X7_411 (by assumption) (by first | decide | omega) rfl (by first | assumption | rfl) dX7_nextLetter_39 ?_
            rw [eb]
            refine g_aload_n G dX7_nextLetter_42 rfl ?_
            refine g_getI G fl_X7_411 (by assumption) (by first | decide | omega) rfl (by first | assumption | rfl) dX7_nextLetter_43 ?_
            refine g_icmp_ge (tgt := 51) G dX7_nextLetter_46 (by decide) (fun c_46 => ?_) (fun c_46 => ?_)
            · have e9 := gNx_no (M := M) (n := j) (fun z => absurd (z.2 b eb) (Int32.not_lt.mpr c_46))
              rw [eb] at e9
              refine g_iinc (v := _) G dX7_nextLetter_51 rfl (by first | exact nI_1 _ | rfl) (gSt_2 (by first | rfl | exact g_c1_rf)) ?_
              refine g_goto (tgt := 4) G dX7_nextLetter_54 (by decide) ?_
              have h9 := ih (j + 1) (by omega) (by omega)
              rw [e9] at h9
              exact h9 _
            · have e9 := gNx_yes (M := M) (n := j) ⟨c_31, fun b2 z => by rw [eb] at z; cases z; exact Int32.not_le.mp c_46⟩
              first | refine g_aload_n G dX7_nextLetter_49 rfl ?_ | refine g_aload_nN G dX7_nextLetter_49 rfl ?_ | refine g_aload_nQ G dX7_nextLetter_49 rfl ?_
              first | refine g_astore_n G dX7_nextLetter_50 (gSt_1 (by first | rfl | exact g_c1_rf)) ?_ | refine g_astore_nN G dX7_nextLetter_50 (gSt_1 (by first | rfl | exact g_c1_rf)) ?_ | refine g_astore_nQ G dX7_nextLetter_50 (gSt_1 (by first | rfl | exact g_c1_rf)) ?_
              refine g_iinc (v := _) G dX7_nextLetter_51 rfl (by first | exact nI_1 _ | rfl) (gSt_2 (by first | rfl | exact g_c1_rf)) ?_
              refine g_goto (tgt := 4) G dX7_nextLetter_54 (by decide) ?_
              have h9 := ih (j + 1) (by omega) (by omega)
              rw [e9] at h9
              exact h9 _
  exact loop (mN M 23 + 1) 0 (by omega) (by omega) _
