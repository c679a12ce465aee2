/-! ===== what is counted ===== -/
section GNULL
variable {Γ : gC} {own : String} {cc : ByteArray} {n mc ms pc : Nat} {lo : List (Option Value)} {st : List Value} {S : gS} {k sl : Nat}
theorem g_ifnullQ (G : gOK Γ own cc n mc ms) {o : Option Nat} {off : Int} {tgt : Nat} (d : decode cc pc = .ok (.ifnull off, 3)) (ht : (pc : Int) + off = (tgt : Int)) (kt : o = none → gW Γ tgt lo st S k sl) (kf : ∀ a, o = some a → gW Γ (pc + 3) lo st S k sl) : gW Γ pc lo (va_rf o :: st) S k sl := by
  cases o with
  | none => exact g_ifnullN G d ht (kt rfl)
  | some a => exact g_ifnull G d (kf a rfl)
theorem g_ifnonnullQ (G : gOK Γ own cc n mc ms) {o : Option Nat} {off : Int} {tgt : Nat} (d : decode cc pc = .ok (.ifnonnull off, 3)) (ht : (pc : Int) + off = (tgt : Int)) (kt : o = none → gW Γ (pc + 3) lo st S k sl) (kf : ∀ a, o = some a → gW Γ tgt lo st S k sl) : gW Γ pc lo (va_rf o :: st) S k sl := by
  cases o with
  | none => exact g_ifnonnullN G d (kt rfl)
  | some a => exact g_ifnonnull G d ht (kf a rfl)
end GNULL
theorem gRf_none {M : gM} {ad : Nat → Nat → Nat} {v : Int32} (hN : mN M 8 ≤ 60) (h : gPr M v) : gRf ad v = none ↔ v = -1 := by
  rcases h with rfl | ⟨p, hp, rfl⟩
  · exact ⟨fun _ => rfl, fun _ => gRf_1⟩
  · rw [gRf_p (by omega)]
    refine ⟨fun z => (by cases z), fun z => ?_⟩
    exact absurd (by rw [z]; decide) (nI_pos (n := p) (by omega))
theorem gRf_some {d0 : Nat × Nat} {S : gS} {x : Nat} {ad : Nat → Nat → Nat} {M : gM} (h : gMail d0 S x ad M) {v : Int32} (hv : v < 0 ∨ gPr M v) {p : Nat} (hp : p < mN M 8) : gRf ad v = some (ad 1 p) ↔ v = nI p := by
  obtain ⟨-, ⟨-, l1, -⟩, -, -, hps, -⟩ := h
  have hN := l1.2.2.1
  by_cases h0 : v < 0
  · have e1 : gRf ad v = none := if_pos h0
    rw [e1]
    exact ⟨fun z => (by cases z), fun z => absurd h0 (by rw [z]; exact nI_pos (by omega))⟩
  · rcases hv.resolve_left h0 with rfl | ⟨p', hp', rfl⟩
    · exact absurd (by decide) h0
    · rw [gRf_p (by omega)]
      refine ⟨fun z => ?_, fun z => ?_⟩
      · have z := Option.some.inj z
        have k1 := (hps p' hp').1
        have k2 := (hps p hp).1
        rw [z, k2] at k1
        rw [show p' = p by omega]
      · rw [(nI_eq (by omega) (by omega)).mp z]
theorem gWho_or {M : gM} {v : Int32} (h : gWho M v) : v < 0 ∨ gPr M v := by
  rcases h with rfl | rfl | h
  · exact Or.inl (by decide)
  · exact Or.inl (by decide)
  · exact Or.inr (Or.inr h)
theorem gCase_inj {d0 : Nat × Nat} {S : gS} {x : Nat} {ad : Nat → Nat → Nat} {M : gM} (h : gMail d0 S x ad M) {c c' : Nat} (hc : c < mN M 6) (hc' : c' < mN M 6) : some (ad 0 c) = some (ad 0 c') ↔ nI c = nI c' := by
  obtain ⟨-, ⟨l0, -⟩, -, hcs, -⟩ := h
  have hN := l0.2.2.1
  refine ⟨fun z => ?_, fun z => ?_⟩
  · have z := Option.some.inj z
    have k1 := (hcs c hc).1
    have k2 := (hcs c' hc').1
    rw [z, k2] at k1
    rw [show c = c' by omega]
  · rw [(nI_eq (by omega) (by omega)).mp z]

set_option maxHeartbeats 4000000 in
set_option maxRecDepth 100000 in
theorem c_X7_countLetters (d0 : Nat × Nat) (S : gS) (x : Nat) (ad : Nat → Nat → Nat) (M : gM) (h : gMail d0 S x ad M) (w : Int32) : gCt d0 yX7_countLetters cX7_countLetters 4 (some .int) 3 0 0 [.ref x, .int w] S (gRet (.int (nI (gct (fun k => decide (mA M 46 k = w)) (mN M 23)))) S) gNo := by
  refine gCt_of (lo := [some (.ref x), some (.int w), none, none]) (by decide +kernel) (Nat.le_of_ble_eq_true rfl) rfl ?_
  intro Γ hd G F hini
  obtain ⟨⟨r1, ⟨ra, rb, rc, rd, re⟩, rt, rtl, rp, rpl, rdr, rep, rday⟩, ⟨l0, l1, l2, l3, l4⟩, ht, hcs, hps, hds, hes, hls⟩ := id h
  subst hd
  refine g_iconst (v := nI 0) G dX7_countLetters_0 (by decide) ?_
  refine g_istore_n G dX7_countLetters_1 (gSt_2 rfl) ?_
  refine g_iconst (v := nI 0) G dX7_countLetters_2 (by decide) ?_
  refine g_istore_n G dX7_countLetters_3 (gSt_3 rfl) ?_
  have hN := l4.2.2.1
  have loop : ∀ f j : Nat, j ≤ mN M 23 → mN M 23 + 1 ≤ j + f → gW Γ 4 [some (.ref x), some (.int w), some (.int (nI (gct (fun k => decide (mA M 46 k = w)) j))), some (.int (nI j))] [] S 0 0 := by
    intro f
    induction f with
    | zero => intro j h1 h2; omega
    | succ f ih =>
      intro j hj hf
      refine g_iload_n G dX7_countLetters_4 rfl ?_
      first | refine g_aload_n G dX7_countLetters_5 rfl ?_ | refine g_aload_nN G dX7_countLetters_5 rfl ?_ | refine g_aload_nQ G dX7_countLetters_5 rfl ?_
      first | refine g_getR G fl_X7_25 (by assumption) (by first | decide | omega) rfl (by assumption) dX7_countLetters_6 ?_ | refine g_getZ G fl_X7_25 (by assumption) (by first | decide | omega) rfl (by assumption) dX7_countLetters_6 ?_ | refine g_getQ G fl_X7_25 (by assumption) (by first | decide | omega) rfl (by first | assumption | rfl) dX7_countLetters_6 ?_
      refine g_callVp (ci := 0) G (c_Jx4a65c_size_8abf5 _ S (ad 5 4) 5 (mN M 23) (ad 4) l4) mt_Jx4a65c_size_8abf5 mi_Jx4a65c_size_8abf5 ml_X7_80 (l4.1) (by first | decide | omega) rfl (by decide) (by omega) (by omega) rfl (Nat.le_of_ble_eq_true rfl) dX7_countLetters_9 ?_
      refine g_icmp_ge (tgt := 42) G dX7_countLetters_12 (by decide) (fun c_12 => ?_) (fun c_12 => ?_)
      · have ej : j = mN M 23 := by have := (nI_leI (by omega) (by omega)).mp c_12; omega
        subst ej
        refine g_iload_n G dX7_countLetters_42 rfl ?_
        exact g_iret G F (gRi rfl) (by omega) (by omega) dX7_countLetters_43
      · have hlt : j < mN M 23 := by have z : ¬ mN M 23 ≤ j := fun z => c_12 ((nI_leI (by omega) (by omega)).mpr z); omega
        obtain ⟨k1, ⟨kd, kd1, kd2, kd3⟩, k3, ⟨kp, kp1, kp2, kp3⟩, k5, k6, k7⟩ := hls j hlt
        first | refine g_aload_n G dX7_countLetters_15 rfl ?_ | refine g_aload_nN G dX7_countLetters_15 rfl ?_ | refine g_aload_nQ G dX7_countLetters_15 rfl ?_
        first | refine g_getR G fl_X7_25 (by assumption) (by first | decide | omega) rfl (by assumption) dX7_countLetters_16 ?_ | refine g_getZ G fl_X7_25 (by assumption) (by first | decide | omega) rfl (by assumption) dX7_countLetters_16 ?_ | refine g_getQ G fl_X7_25 (by assumption) (by first | decide | omega) rfl (by first | assumption | rfl) dX7_countLetters_16 ?_
        refine g_iload_n G dX7_countLetters_19 rfl ?_
        refine g_callVp (ci := 0) G (c_Jx4a65c_get_915e3 _ S (ad 5 4) 5 (mN M 23) j (ad 4) l4 hlt) mt_Jx4a65c_get_915e3 mi_Jx4a65c_get_915e3 ml_X7_300 (l4.1) (by first | decide | omega) rfl (by decide) (by omega) (by omega) rfl (Nat.le_of_ble_eq_true rfl) dX7_countLetters_20 ?_
        refine g_cast (ci := 5) G (by assumption) (by first | decide | omega) rfl cl_X7_312 dX7_countLetters_23 ?_
        refine g_getI G fl_X7_337 (by assumption) (by first | decide | omega) rfl (by first | assumption | rfl) dX7_countLetters_26 ?_
        refine g_iload_n G dX7_countLetters_29 rfl ?_
        refine g_icmp_ne (tgt := 36) G dX7_countLetters_30 (by decide) (fun c_30 => ?_) (fun c_30 => ?_)
        · have e9 := gct_no (p := fun k => decide (mA M 46 k = w)) (n := j) (decide_eq_false c_30)
          refine g_iinc (v := _) G dX7_countLetters_36 rfl (by first | exact nI_1 _ | rfl) (gSt_3 rfl) ?_
          refine g_goto (tgt := 4) G dX7_countLetters_39 (by decide) ?_
          have h9 := ih (j + 1) (by omega) (by omega)
          rw [e9] at h9
          exact h9
        · have e9 := gct_yes (p := fun k => decide (mA M 46 k = w)) (n := j) (decide_eq_true c_30)
          refine g_iinc (v := _) G dX7_countLetters_33 rfl (by first | exact nI_1 _ | rfl) (gSt_2 rfl) ?_
          refine g_iinc (v := _) G dX7_countLetters_36 rfl (by first | exact nI_1 _ | rfl) (gSt_3 rfl) ?_
          refine g_goto (tgt := 4) G dX7_countLetters_39 (by decide) ?_
          have h9 := ih (j + 1) (by omega) (by omega)
          rw [e9] at h9
          exact h9
  exact loop (mN M 23 + 1) 0 (by omega) (by omega)

set_option maxHeartbeats 4000000 in
set_option maxRecDepth 100000 in
theorem c_X7_countDocumentsOf (d0 : Nat × Nat) (S : gS) (x : Nat) (ad : Nat → Nat → Nat) (M : gM) (h : gMail d0 S x ad M) (c : Nat) (hc : c < mN M 6) : gCt d0 yX7_countDocumentsOf cX7_countDocumentsOf 4 (some .int) 3 0 0 [.ref x, .ref (ad 0 c)] S (gRet (.int (nI (gct (fun k => decide (mA M 12 k = nI c)) (mN M 11)))) S) gNo := by
  refine gCt_of (lo := [some (.ref x), some (.ref (ad 0 c)), none, none]) (by decide +kernel) (Nat.le_of_ble_eq_true rfl) rfl ?_
  intro Γ hd G F hini
  obtain ⟨⟨r1, ⟨ra, rb, rc, rd, re⟩, rt, rtl, rp, rpl, rdr, rep, rday⟩, ⟨l0, l1, l2, l3, l4⟩, ht, hcs, hps, hds, hes, hls⟩ := id h
  subst hd
  refine g_iconst (v := nI 0) G dX7_countDocumentsOf_0 (by decide) ?_
  refine g_istore_n G dX7_countDocumentsOf_1 (gSt_2 rfl) ?_
  refine g_iconst (v := nI 0) G dX7_countDocumentsOf_2 (by decide) ?_
  refine g_istore_n G dX7_countDocumentsOf_3 (gSt_3 rfl) ?_
  have hN := l2.2.2.1
  have loop : ∀ f j : Nat, j ≤ mN M 11 → mN M 11 + 1 ≤ j + f → gW Γ 4 [some (.ref x), some (.ref (ad 0 c)), some (.int (nI (gct (fun k => decide (mA M 12 k = nI c)) j))), some (.int (nI j))] [] S 0 0 := by
    intro f
    induction f with
    | zero => intro j h1 h2; omega
    | succ f ih =>
      intro j hj hf
      refine g_iload_n G dX7_countDocumentsOf_4 rfl ?_
      first | refine g_aload_n G dX7_countDocumentsOf_5 rfl ?_ | refine g_aload_nN G dX7_countDocumentsOf_5 rfl ?_ | refine g_aload_nQ G dX7_countDocumentsOf_5 rfl ?_
      first | refine g_getR G fl_X7_19 (by assumption) (by first | decide | omega) rfl (by assumption) dX7_countDocumentsOf_6 ?_ | refine g_getZ G fl_X7_19 (by assumption) (by first | decide | omega) rfl (by assumption) dX7_countDocumentsOf_6 ?_ | refine g_getQ G fl_X7_19 (by assumption) (by first | decide | omega) rfl (by first | assumption | rfl) dX7_countDocumentsOf_6 ?_
      refine g_callVp (ci := 0) G (c_Jx4a65c_size_8abf5 _ S (ad 5 2) 3 (mN M 11) (ad 2) l2) mt_Jx4a65c_size_8abf5 mi_Jx4a65c_size_8abf5 ml_X7_80 (l2.1) (by first | decide | omega) rfl (by decide) (by omega) (by omega) rfl (Nat.le_of_ble_eq_true rfl) dX7_countDocumentsOf_9 ?_
      refine g_icmp_ge (tgt := 42) G dX7_countDocumentsOf_12 (by decide) (fun c_12 => ?_) (fun c_12 => ?_)
      · have ej : j = mN M 11 := by have := (nI_leI (by omega) (by omega)).mp c_12; omega
        subst ej
        refine g_iload_n G dX7_countDocumentsOf_42 rfl ?_
        exact g_iret G F (gRi rfl) (by omega) (by omega) dX7_countDocumentsOf_43
      · have hlt : j < mN M 11 := by have z : ¬ mN M 11 ≤ j := fun z => c_12 ((nI_leI (by omega) (by omega)).mpr z); omega
        obtain ⟨k1, ⟨kc, kc1, kc2, kc3⟩, ⟨k2, k3, k4⟩, ⟨k5, k6, k7, k8, kpr⟩, k9⟩ := hds j hlt
        first | refine g_aload_n G dX7_countDocumentsOf_15 rfl ?_ | refine g_aload_nN G dX7_countDocumentsOf_15 rfl ?_ | refine g_aload_nQ G dX7_countDocumentsOf_15 rfl ?_
        first | refine g_getR G fl_X7_19 (by assumption) (by first | decide | omega) rfl (by assumption) dX7_countDocumentsOf_16 ?_ | refine g_getZ G fl_X7_19 (by assumption) (by first | decide | omega) rfl (by assumption) dX7_countDocumentsOf_16 ?_ | refine g_getQ G fl_X7_19 (by assumption) (by first | decide | omega) rfl (by first | assumption | rfl) dX7_countDocumentsOf_16 ?_
        refine g_iload_n G dX7_countDocumentsOf_19 rfl ?_
        refine g_callVp (ci := 0) G (c_Jx4a65c_get_915e3 _ S (ad 5 2) 3 (mN M 11) j (ad 2) l2 hlt) mt_Jx4a65c_get_915e3 mi_Jx4a65c_get_915e3 ml_X7_300 (l2.1) (by first | decide | omega) rfl (by decide) (by omega) (by omega) rfl (Nat.le_of_ble_eq_true rfl) dX7_countDocumentsOf_20 ?_
        refine g_cast (ci := 2) G (by assumption) (by first | decide | omega) rfl cl_X7_95 dX7_countDocumentsOf_23 ?_
        first | refine g_getR G fl_X7_181 (by assumption) (by first | decide | omega) rfl (by assumption) dX7_countDocumentsOf_26 ?_ | refine g_getZ G fl_X7_181 (by assumption) (by first | decide | omega) rfl (by assumption) dX7_countDocumentsOf_26 ?_ | refine g_getQ G fl_X7_181 (by assumption) (by first | decide | omega) rfl (by first | assumption | rfl) dX7_countDocumentsOf_26 ?_
        first | refine g_aload_n G dX7_countDocumentsOf_29 rfl ?_ | refine g_aload_nN G dX7_countDocumentsOf_29 rfl ?_ | refine g_aload_nQ G dX7_countDocumentsOf_29 rfl ?_
        refine g_acmp_ne (rx := some _) (ry := some _) (tgt := 36) G dX7_countDocumentsOf_30 (by decide) (fun c_30 => ?_) (fun c_30 => ?_)
        · have e9 := gct_no (p := fun k => decide (mA M 12 k = nI c)) (n := j) (decide_eq_false (fun z => c_30 ((gCase_inj h kc1 hc).mpr (kc2.symm.trans z))))
          refine g_iinc (v := _) G dX7_countDocumentsOf_36 rfl (by first | exact nI_1 _ | rfl) (gSt_3 rfl) ?_
          refine g_goto (tgt := 4) G dX7_countDocumentsOf_39 (by decide) ?_
          have h9 := ih (j + 1) (by omega) (by omega)
          rw [e9] at h9
          exact h9
        · have e9 := gct_yes (p := fun k => decide (mA M 12 k = nI c)) (n := j) (decide_eq_true (kc2.trans ((gCase_inj h kc1 hc).mp c_30)))
          refine g_iinc (v := _) G dX7_countDocumentsOf_33 rfl (by first | exact nI_1 _ | rfl) (gSt_2 rfl) ?_
          refine g_iinc (v := _) G dX7_countDocumentsOf_36 rfl (by first | exact nI_1 _ | rfl) (gSt_3 rfl) ?_
          refine g_goto (tgt := 4) G dX7_countDocumentsOf_39 (by decide) ?_
          have h9 := ih (j + 1) (by omega) (by omega)
          rw [e9] at h9
          exact h9
  exact loop (mN M 11 + 1) 0 (by omega) (by omega)

set_option maxHeartbeats 4000000 in
set_option maxRecDepth 100000 in
theorem c_X7_countOriginalsWith (d0 : Nat × Nat) (S : gS) (x : Nat) (ad : Nat → Nat → Nat) (M : gM) (h : gMail d0 S x ad M) (p : Nat) (hp : p < mN M 8) : gCt d0 yX7_countOriginalsWith cX7_countOriginalsWith 4 (some .int) 3 0 0 [.ref x, .ref (ad 1 p)] S (gRet (.int (nI (gct (fun k => decide (mA M 43 k = nI p)) (mN M 11)))) S) gNo := by
  refine gCt_of (lo := [some (.ref x), some (.ref (ad 1 p)), none, none]) (by decide +kernel) (Nat.le_of_ble_eq_true rfl) rfl ?_
  intro Γ hd G F hini
  obtain ⟨⟨r1, ⟨ra, rb, rc, rd, re⟩, rt, rtl, rp, rpl, rdr, rep, rday⟩, ⟨l0, l1, l2, l3, l4⟩, ht, hcs, hps, hds, hes, hls⟩ := id h
  subst hd
  refine g_iconst (v := nI 0) G dX7_countOriginalsWith_0 (by decide) ?_
  refine g_istore_n G dX7_countOriginalsWith_1 (gSt_2 rfl) ?_
  refine g_iconst (v := nI 0) G dX7_countOriginalsWith_2 (by decide) ?_
  refine g_istore_n G dX7_countOriginalsWith_3 (gSt_3 rfl) ?_
  have hN := l2.2.2.1
  have loop : ∀ f j : Nat, j ≤ mN M 11 → mN M 11 + 1 ≤ j + f → gW Γ 4 [some (.ref x), some (.ref (ad 1 p)), some (.int (nI (gct (fun k => decide (mA M 43 k = nI p)) j))), some (.int (nI j))] [] S 0 0 := by
    intro f
    induction f with
    | zero => intro j h1 h2; omega
    | succ f ih =>
      intro j hj hf
      refine g_iload_n G dX7_countOriginalsWith_4 rfl ?_
      first | refine g_aload_n G dX7_countOriginalsWith_5 rfl ?_ | refine g_aload_nN G dX7_countOriginalsWith_5 rfl ?_ | refine g_aload_nQ G dX7_countOriginalsWith_5 rfl ?_
      first | refine g_getR G fl_X7_19 (by assumption) (by first | decide | omega) rfl (by assumption) dX7_countOriginalsWith_6 ?_ | refine g_getZ G fl_X7_19 (by assumption) (by first | decide | omega) rfl (by assumption) dX7_countOriginalsWith_6 ?_ | refine g_getQ G fl_X7_19 (by assumption) (by first | decide | omega) rfl (by first | assumption | rfl) dX7_countOriginalsWith_6 ?_
      refine g_callVp (ci := 0) G (c_Jx4a65c_size_8abf5 _ S (ad 5 2) 3 (mN M 11) (ad 2) l2) mt_Jx4a65c_size_8abf5 mi_Jx4a65c_size_8abf5 ml_X7_80 (l2.1) (by first | decide | omega) rfl (by decide) (by omega) (by omega) rfl (Nat.le_of_ble_eq_true rfl) dX7_countOriginalsWith_9 ?_
      refine g_icmp_ge (tgt := 42) G dX7_countOriginalsWith_12 (by decide) (fun c_12 => ?_) (fun c_12 => ?_)
      · have ej : j = mN M 11 := by have := (nI_leI (by omega) (by omega)).mp c_12; omega
        subst ej
        refine g_iload_n G dX7_countOriginalsWith_42 rfl ?_
        exact g_iret G F (gRi rfl) (by omega) (by omega) dX7_countOriginalsWith_43
      · have hlt : j < mN M 11 := by have z : ¬ mN M 11 ≤ j := fun z => c_12 ((nI_leI (by omega) (by omega)).mpr z); omega
        obtain ⟨k1, ⟨kc, kc1, kc2, kc3⟩, ⟨k2, k3, k4⟩, ⟨k5, k6, k7, k8, kpr⟩, k9⟩ := hds j hlt
        first | refine g_aload_n G dX7_countOriginalsWith_15 rfl ?_ | refine g_aload_nN G dX7_countOriginalsWith_15 rfl ?_ | refine g_aload_nQ G dX7_countOriginalsWith_15 rfl ?_
        first | refine g_getR G fl_X7_19 (by assumption) (by first | decide | omega) rfl (by assumption) dX7_countOriginalsWith_16 ?_ | refine g_getZ G fl_X7_19 (by assumption) (by first | decide | omega) rfl (by assumption) dX7_countOriginalsWith_16 ?_ | refine g_getQ G fl_X7_19 (by assumption) (by first | decide | omega) rfl (by first | assumption | rfl) dX7_countOriginalsWith_16 ?_
        refine g_iload_n G dX7_countOriginalsWith_19 rfl ?_
        refine g_callVp (ci := 0) G (c_Jx4a65c_get_915e3 _ S (ad 5 2) 3 (mN M 11) j (ad 2) l2 hlt) mt_Jx4a65c_get_915e3 mi_Jx4a65c_get_915e3 ml_X7_300 (l2.1) (by first | decide | omega) rfl (by decide) (by omega) (by omega) rfl (Nat.le_of_ble_eq_true rfl) dX7_countOriginalsWith_20 ?_
        refine g_cast (ci := 2) G (by assumption) (by first | decide | omega) rfl cl_X7_95 dX7_countOriginalsWith_23 ?_
        first | refine g_getR G fl_X7_223 (by assumption) (by first | decide | omega) rfl (by assumption) dX7_countOriginalsWith_26 ?_ | refine g_getZ G fl_X7_223 (by assumption) (by first | decide | omega) rfl (by assumption) dX7_countOriginalsWith_26 ?_ | refine g_getQ G fl_X7_223 (by assumption) (by first | decide | omega) rfl (by first | assumption | rfl) dX7_countOriginalsWith_26 ?_
        first | refine g_aload_n G dX7_countOriginalsWith_29 rfl ?_ | refine g_aload_nN G dX7_countOriginalsWith_29 rfl ?_ | refine g_aload_nQ G dX7_countOriginalsWith_29 rfl ?_
        refine g_acmp_ne (rx := gRf ad (mA M 43 j)) (ry := some (ad 1 p)) (tgt := 36) G dX7_countOriginalsWith_30 (by decide) (fun c_30 => ?_) (fun c_30 => ?_)
        · have e9 := gct_no (p := fun k => decide (mA M 43 k = nI p)) (n := j) (decide_eq_false (fun z => c_30 ((gRf_some h (Or.inr kpr) hp).mpr z)))
          refine g_iinc (v := _) G dX7_countOriginalsWith_36 rfl (by first | exact nI_1 _ | rfl) (gSt_3 rfl) ?_
          refine g_goto (tgt := 4) G dX7_countOriginalsWith_39 (by decide) ?_
          have h9 := ih (j + 1) (by omega) (by omega)
          rw [e9] at h9
          exact h9
        · have e9 := gct_yes (p := fun k => decide (mA M 43 k = nI p)) (n := j) (decide_eq_true ((gRf_some h (Or.inr kpr) hp).mp c_30))
          refine g_iinc (v := _) G dX7_countOriginalsWith_33 rfl (by first | exact nI_1 _ | rfl) (gSt_2 rfl) ?_
          refine g_iinc (v := _) G dX7_countOriginalsWith_36 rfl (by first | exact nI_1 _ | rfl) (gSt_3 rfl) ?_
          refine g_goto (tgt := 4) G dX7_countOriginalsWith_39 (by decide) ?_
          have h9 := ih (j + 1) (by omega) (by omega)
          rw [e9] at h9
          exact h9
  exact loop (mN M 11 + 1) 0 (by omega) (by omega)

set_option maxHeartbeats 4000000 in
set_option maxRecDepth 100000 in
theorem c_X7_countExhibitsWith (d0 : Nat × Nat) (S : gS) (x : Nat) (ad : Nat → Nat → Nat) (M : gM) (h : gMail d0 S x ad M) (p : Nat) (hp : p < mN M 8) : gCt d0 yX7_countExhibitsWith cX7_countExhibitsWith 4 (some .int) 3 0 0 [.ref x, .ref (ad 1 p)] S (gRet (.int (nI (gct (fun k => decide (mA M 19 k = nI p)) (mN M 17)))) S) gNo := by
  refine gCt_of (lo := [some (.ref x), some (.ref (ad 1 p)), none, none]) (by decide +kernel) (Nat.le_of_ble_eq_true rfl) rfl ?_
  intro Γ hd G F hini
  obtain ⟨⟨r1, ⟨ra, rb, rc, rd, re⟩, rt, rtl, rp, rpl, rdr, rep, rday⟩, ⟨l0, l1, l2, l3, l4⟩, ht, hcs, hps, hds, hes, hls⟩ := id h
  subst hd
  refine g_iconst (v := nI 0) G dX7_countExhibitsWith_0 (by decide) ?_
  refine g_istore_n G dX7_countExhibitsWith_1 (gSt_2 rfl) ?_
  refine g_iconst (v := nI 0) G dX7_countExhibitsWith_2 (by decide) ?_
  refine g_istore_n G dX7_countExhibitsWith_3 (gSt_3 rfl) ?_
  have hN := l3.2.2.1
  have loop : ∀ f j : Nat, j ≤ mN M 17 → mN M 17 + 1 ≤ j + f → gW Γ 4 [some (.ref x), some (.ref (ad 1 p)), some (.int (nI (gct (fun k => decide (mA M 19 k = nI p)) j))), some (.int (nI j))] [] S 0 0 := by
    intro f
    induction f with
    | zero => intro j h1 h2; omega
    | succ f ih =>
      intro j hj hf
      refine g_iload_n G dX7_countExhibitsWith_4 rfl ?_
      first | refine g_aload_n G dX7_countExhibitsWith_5 rfl ?_ | refine g_aload_nN G dX7_countExhibitsWith_5 rfl ?_ | refine g_aload_nQ G dX7_countExhibitsWith_5 rfl ?_
      first | refine g_getR G fl_X7_22 (by assumption) (by first | decide | omega) rfl (by assumption) dX7_countExhibitsWith_6 ?_ | refine g_getZ G fl_X7_22 (by assumption) (by first | decide | omega) rfl (by assumption) dX7_countExhibitsWith_6 ?_ | refine g_getQ G fl_X7_22 (by assumption) (by first | decide | omega) rfl (by first | assumption | rfl) dX7_countExhibitsWith_6 ?_
      refine g_callVp (ci := 0) G (c_Jx4a65c_size_8abf5 _ S (ad 5 3) 4 (mN M 17) (ad 3) l3) mt_Jx4a65c_size_8abf5 mi_Jx4a65c_size_8abf5 ml_X7_80 (l3.1) (by first | decide | omega) rfl (by decide) (by omega) (by omega) rfl (Nat.le_of_ble_eq_true rfl) dX7_countExhibitsWith_9 ?_
      refine g_icmp_ge (tgt := 42) G dX7_countExhibitsWith_12 (by decide) (fun c_12 => ?_) (fun c_12 => ?_)
      · have ej : j = mN M 17 := by have := (nI_leI (by omega) (by omega)).mp c_12; omega
        subst ej
        refine g_iload_n G dX7_countExhibitsWith_42 rfl ?_
        exact g_iret G F (gRi rfl) (by omega) (by omega) dX7_countExhibitsWith_43
      · have hlt : j < mN M 17 := by have z : ¬ mN M 17 ≤ j := fun z => c_12 ((nI_leI (by omega) (by omega)).mpr z); omega
        obtain ⟨k1, k2, ⟨kc, kc1, kc2, kc3⟩, ⟨k4, k5, k6, k7, kw⟩, k8⟩ := hes j hlt
        first | refine g_aload_n G dX7_countExhibitsWith_15 rfl ?_ | refine g_aload_nN G dX7_countExhibitsWith_15 rfl ?_ | refine g_aload_nQ G dX7_countExhibitsWith_15 rfl ?_
        first | refine g_getR G fl_X7_22 (by assumption) (by first | decide | omega) rfl (by assumption) dX7_countExhibitsWith_16 ?_ | refine g_getZ G fl_X7_22 (by assumption) (by first | decide | omega) rfl (by assumption) dX7_countExhibitsWith_16 ?_ | refine g_getQ G fl_X7_22 (by assumption) (by first | decide | omega) rfl (by first | assumption | rfl) dX7_countExhibitsWith_16 ?_
        refine g_iload_n G dX7_countExhibitsWith_19 rfl ?_
        refine g_callVp (ci := 0) G (c_Jx4a65c_get_915e3 _ S (ad 5 3) 4 (mN M 17) j (ad 3) l3 hlt) mt_Jx4a65c_get_915e3 mi_Jx4a65c_get_915e3 ml_X7_300 (l3.1) (by first | decide | omega) rfl (by decide) (by omega) (by omega) rfl (Nat.le_of_ble_eq_true rfl) dX7_countExhibitsWith_20 ?_
        refine g_cast (ci := 4) G (by assumption) (by first | decide | omega) rfl cl_X7_241 dX7_countExhibitsWith_23 ?_
        first | refine g_getR G fl_X7_256 (by assumption) (by first | decide | omega) rfl (by assumption) dX7_countExhibitsWith_26 ?_ | refine g_getZ G fl_X7_256 (by assumption) (by first | decide | omega) rfl (by assumption) dX7_countExhibitsWith_26 ?_ | refine g_getQ G fl_X7_256 (by assumption) (by first | decide | omega) rfl (by first | assumption | rfl) dX7_countExhibitsWith_26 ?_
        first | refine g_aload_n G dX7_countExhibitsWith_29 rfl ?_ | refine g_aload_nN G dX7_countExhibitsWith_29 rfl ?_ | refine g_aload_nQ G dX7_countExhibitsWith_29 rfl ?_
        refine g_acmp_ne (rx := gRf ad (mA M 19 j)) (ry := some (ad 1 p)) (tgt := 36) G dX7_countExhibitsWith_30 (by decide) (fun c_30 => ?_) (fun c_30 => ?_)
        · have e9 := gct_no (p := fun k => decide (mA M 19 k = nI p)) (n := j) (decide_eq_false (fun z => c_30 ((gRf_some h (gWho_or kw) hp).mpr z)))
          refine g_iinc (v := _) G dX7_countExhibitsWith_36 rfl (by first | exact nI_1 _ | rfl) (gSt_3 rfl) ?_
          refine g_goto (tgt := 4) G dX7_countExhibitsWith_39 (by decide) ?_
          have h9 := ih (j + 1) (by omega) (by omega)
          rw [e9] at h9
          exact h9
        · have e9 := gct_yes (p := fun k => decide (mA M 19 k = nI p)) (n := j) (decide_eq_true ((gRf_some h (gWho_or kw) hp).mp c_30))
          refine g_iinc (v := _) G dX7_countExhibitsWith_33 rfl (by first | exact nI_1 _ | rfl) (gSt_2 rfl) ?_
          refine g_iinc (v := _) G dX7_countExhibitsWith_36 rfl (by first | exact nI_1 _ | rfl) (gSt_3 rfl) ?_
          refine g_goto (tgt := 4) G dX7_countExhibitsWith_39 (by decide) ?_
          have h9 := ih (j + 1) (by omega) (by omega)
          rw [e9] at h9
          exact h9
  exact loop (mN M 17 + 1) 0 (by omega) (by omega)

set_option maxHeartbeats 4000000 in
set_option maxRecDepth 100000 in
theorem c_X7_countLost (d0 : Nat × Nat) (S : gS) (x : Nat) (ad : Nat → Nat → Nat) (M : gM) (h : gMail d0 S x ad M) : gCt d0 yX7_countLost cX7_countLost 3 (some .int) 3 0 0 [.ref x] S (gRet (.int (nI (gct (fun k => decide (mA M 19 k = -2)) (mN M 17)))) S) gNo := by
  refine gCt_of (lo := [some (.ref x), none, none]) (by decide +kernel) (Nat.le_of_ble_eq_true rfl) rfl ?_
  intro Γ hd G F hini
  obtain ⟨⟨r1, ⟨ra, rb, rc, rd, re⟩, rt, rtl, rp, rpl, rdr, rep, rday⟩, ⟨l0, l1, l2, l3, l4⟩, ht, hcs, hps, hds, hes, hls⟩ := id h
  subst hd
  refine g_iconst (v := nI 0) G dX7_countLost_0 (by decide) ?_
  refine g_istore_n G dX7_countLost_1 (gSt_1 rfl) ?_
  refine g_iconst (v := nI 0) G dX7_countLost_2 (by decide) ?_
  refine g_istore_n G dX7_countLost_3 (gSt_2 rfl) ?_
  have hN := l3.2.2.1
  have loop : ∀ f j : Nat, j ≤ mN M 17 → mN M 17 + 1 ≤ j + f → gW Γ 4 [some (.ref x), some (.int (nI (gct (fun k => decide (mA M 19 k = -2)) j))), some (.int (nI j))] [] S 0 0 := by
    intro f
    induction f with
    | zero => intro j h1 h2; omega
    | succ f ih =>
      intro j hj hf
      refine g_iload_n G dX7_countLost_4 rfl ?_
      first | refine g_aload_n G dX7_countLost_5 rfl ?_ | refine g_aload_nN G dX7_countLost_5 rfl ?_ | refine g_aload_nQ G dX7_countLost_5 rfl ?_
      first | refine g_getR G fl_X7_22 (by assumption) (by first | decide | omega) rfl (by assumption) dX7_countLost_6 ?_ | refine g_getZ G fl_X7_22 (by assumption) (by first | decide | omega) rfl (by assumption) dX7_countLost_6 ?_ | refine g_getQ G fl_X7_22 (by assumption) (by first | decide | omega) rfl (by first | assumption | rfl) dX7_countLost_6 ?_
      refine g_callVp (ci := 0) G (c_Jx4a65c_size_8abf5 _ S (ad 5 3) 4 (mN M 17) (ad 3) l3) mt_Jx4a65c_size_8abf5 mi_Jx4a65c_size_8abf5 ml_X7_80 (l3.1) (by first | decide | omega) rfl (by decide) (by omega) (by omega) rfl (Nat.le_of_ble_eq_true rfl) dX7_countLost_9 ?_
      refine g_icmp_ge (tgt := 41) G dX7_countLost_12 (by decide) (fun c_12 => ?_) (fun c_12 => ?_)
      · have ej : j = mN M 17 := by have := (nI_leI (by omega) (by omega)).mp c_12; omega
        subst ej
        refine g_iload_n G dX7_countLost_41 rfl ?_
        exact g_iret G F (gRi rfl) (by omega) (by omega) dX7_countLost_42
      · have hlt : j < mN M 17 := by have z : ¬ mN M 17 ≤ j := fun z => c_12 ((nI_leI (by omega) (by omega)).mpr z); omega
        obtain ⟨k1, k2, ⟨kc, kc1, kc2, kc3⟩, ⟨k4, k5, k6, k7, kw⟩, k8⟩ := hes j hlt
        first | refine g_aload_n G dX7_countLost_15 rfl ?_ | refine g_aload_nN G dX7_countLost_15 rfl ?_ | refine g_aload_nQ G dX7_countLost_15 rfl ?_
        first | refine g_getR G fl_X7_22 (by assumption) (by first | decide | omega) rfl (by assumption) dX7_countLost_16 ?_ | refine g_getZ G fl_X7_22 (by assumption) (by first | decide | omega) rfl (by assumption) dX7_countLost_16 ?_ | refine g_getQ G fl_X7_22 (by assumption) (by first | decide | omega) rfl (by first | assumption | rfl) dX7_countLost_16 ?_
        refine g_iload_n G dX7_countLost_19 rfl ?_
        refine g_callVp (ci := 0) G (c_Jx4a65c_get_915e3 _ S (ad 5 3) 4 (mN M 17) j (ad 3) l3 hlt) mt_Jx4a65c_get_915e3 mi_Jx4a65c_get_915e3 ml_X7_300 (l3.1) (by first | decide | omega) rfl (by decide) (by omega) (by omega) rfl (Nat.le_of_ble_eq_true rfl) dX7_countLost_20 ?_
        refine g_cast (ci := 4) G (by assumption) (by first | decide | omega) rfl cl_X7_241 dX7_countLost_23 ?_
        refine g_getI G fl_X7_252 (by assumption) (by first | decide | omega) rfl (by first | assumption | rfl) dX7_countLost_26 ?_
        refine g_if_eq (tgt := 35) G dX7_countLost_29 (by decide) (fun c_29 => ?_) (fun c_29 => ?_)
        · have e9 := gct_no (p := fun k => decide (mA M 19 k = -2)) (n := j) (gB_eq0.mp c_29)
          refine g_iinc (v := _) G dX7_countLost_35 rfl (by first | exact nI_1 _ | rfl) (gSt_2 rfl) ?_
          refine g_goto (tgt := 4) G dX7_countLost_38 (by decide) ?_
          have h9 := ih (j + 1) (by omega) (by omega)
          rw [e9] at h9
          exact h9
        · have e9 := gct_yes (p := fun k => decide (mA M 19 k = -2)) (n := j) (gB_ne0.mp c_29)
          refine g_iinc (v := _) G dX7_countLost_32 rfl (by first | exact nI_1 _ | rfl) (gSt_1 rfl) ?_
          refine g_iinc (v := _) G dX7_countLost_35 rfl (by first | exact nI_1 _ | rfl) (gSt_2 rfl) ?_
          refine g_goto (tgt := 4) G dX7_countLost_38 (by decide) ?_
          have h9 := ih (j + 1) (by omega) (by omega)
          rw [e9] at h9
          exact h9
  exact loop (mN M 17 + 1) 0 (by omega) (by omega)

set_option maxHeartbeats 4000000 in
set_option maxRecDepth 100000 in
theorem c_X7_countLent (d0 : Nat × Nat) (S : gS) (x : Nat) (ad : Nat → Nat → Nat) (M : gM) (h : gMail d0 S x ad M) : gCt d0 yX7_countLent cX7_countLent 3 (some .int) 3 0 0 [.ref x] S (gRet (.int (nI (gct (fun k => decide (¬ mA M 43 k = -1)) (mN M 11)))) S) gNo := by
  refine gCt_of (lo := [some (.ref x), none, none]) (by decide +kernel) (Nat.le_of_ble_eq_true rfl) rfl ?_
  intro Γ hd G F hini
  obtain ⟨⟨r1, ⟨ra, rb, rc, rd, re⟩, rt, rtl, rp, rpl, rdr, rep, rday⟩, ⟨l0, l1, l2, l3, l4⟩, ht, hcs, hps, hds, hes, hls⟩ := id h
  subst hd
  refine g_iconst (v := nI 0) G dX7_countLent_0 (by decide) ?_
  refine g_istore_n G dX7_countLent_1 (gSt_1 rfl) ?_
  refine g_iconst (v := nI 0) G dX7_countLent_2 (by decide) ?_
  refine g_istore_n G dX7_countLent_3 (gSt_2 rfl) ?_
  have hN := l2.2.2.1
  have loop : ∀ f j : Nat, j ≤ mN M 11 → mN M 11 + 1 ≤ j + f → gW Γ 4 [some (.ref x), some (.int (nI (gct (fun k => decide (¬ mA M 43 k = -1)) j))), some (.int (nI j))] [] S 0 0 := by
    intro f
    induction f with
    | zero => intro j h1 h2; omega
    | succ f ih =>
      intro j hj hf
      refine g_iload_n G dX7_countLent_4 rfl ?_
      first | refine g_aload_n G dX7_countLent_5 rfl ?_ | refine g_aload_nN G dX7_countLent_5 rfl ?_ | refine g_aload_nQ G dX7_countLent_5 rfl ?_
      first | refine g_getR G fl_X7_19 (by assumption) (by first | decide | omega) rfl (by assumption) dX7_countLent_6 ?_ | refine g_getZ G fl_X7_19 (by assumption) (by first | decide | omega) rfl (by assumption) dX7_countLent_6 ?_ | refine g_getQ G fl_X7_19 (by assumption) (by first | decide | omega) rfl (by first | assumption | rfl) dX7_countLent_6 ?_
      refine g_callVp (ci := 0) G (c_Jx4a65c_size_8abf5 _ S (ad 5 2) 3 (mN M 11) (ad 2) l2) mt_Jx4a65c_size_8abf5 mi_Jx4a65c_size_8abf5 ml_X7_80 (l2.1) (by first | decide | omega) rfl (by decide) (by omega) (by omega) rfl (Nat.le_of_ble_eq_true rfl) dX7_countLent_9 ?_
      refine g_icmp_ge (tgt := 41) G dX7_countLent_12 (by decide) (fun c_12 => ?_) (fun c_12 => ?_)
      · have ej : j = mN M 11 := by have := (nI_leI (by omega) (by omega)).mp c_12; omega
        subst ej
        refine g_iload_n G dX7_countLent_41 rfl ?_
        exact g_iret G F (gRi rfl) (by omega) (by omega) dX7_countLent_42
      · have hlt : j < mN M 11 := by have z : ¬ mN M 11 ≤ j := fun z => c_12 ((nI_leI (by omega) (by omega)).mpr z); omega
        obtain ⟨k1, ⟨kc, kc1, kc2, kc3⟩, ⟨k2, k3, k4⟩, ⟨k5, k6, k7, k8, kpr⟩, k9⟩ := hds j hlt
        first | refine g_aload_n G dX7_countLent_15 rfl ?_ | refine g_aload_nN G dX7_countLent_15 rfl ?_ | refine g_aload_nQ G dX7_countLent_15 rfl ?_
        first | refine g_getR G fl_X7_19 (by assumption) (by first | decide | omega) rfl (by assumption) dX7_countLent_16 ?_ | refine g_getZ G fl_X7_19 (by assumption) (by first | decide | omega) rfl (by assumption) dX7_countLent_16 ?_ | refine g_getQ G fl_X7_19 (by assumption) (by first | decide | omega) rfl (by first | assumption | rfl) dX7_countLent_16 ?_
        refine g_iload_n G dX7_countLent_19 rfl ?_
        refine g_callVp (ci := 0) G (c_Jx4a65c_get_915e3 _ S (ad 5 2) 3 (mN M 11) j (ad 2) l2 hlt) mt_Jx4a65c_get_915e3 mi_Jx4a65c_get_915e3 ml_X7_300 (l2.1) (by first | decide | omega) rfl (by decide) (by omega) (by omega) rfl (Nat.le_of_ble_eq_true rfl) dX7_countLent_20 ?_
        refine g_cast (ci := 2) G (by assumption) (by first | decide | omega) rfl cl_X7_95 dX7_countLent_23 ?_
        first | refine g_getR G fl_X7_223 (by assumption) (by first | decide | omega) rfl (by assumption) dX7_countLent_26 ?_ | refine g_getZ G fl_X7_223 (by assumption) (by first | decide | omega) rfl (by assumption) dX7_countLent_26 ?_ | refine g_getQ G fl_X7_223 (by assumption) (by first | decide | omega) rfl (by first | assumption | rfl) dX7_countLent_26 ?_
        refine g_ifnullQ (tgt := 35) G dX7_countLent_29 (by decide) (fun c_29 => ?_) (fun q_29 c_29 => ?_)
        · have e9 := gct_no (p := fun k => decide (¬ mA M 43 k = -1)) (n := j) (decide_eq_false (fun z => z ((gRf_none l1.2.2.1 kpr).mp c_29)))
          refine g_iinc (v := _) G dX7_countLent_35 rfl (by first | exact nI_1 _ | rfl) (gSt_2 rfl) ?_
          refine g_goto (tgt := 4) G dX7_countLent_38 (by decide) ?_
          have h9 := ih (j + 1) (by omega) (by omega)
          rw [e9] at h9
          exact h9
        · have e9 := gct_yes (p := fun k => decide (¬ mA M 43 k = -1)) (n := j) (decide_eq_true (fun z => by rw [(gRf_none l1.2.2.1 kpr).mpr z] at c_29; cases c_29))
          refine g_iinc (v := _) G dX7_countLent_32 rfl (by first | exact nI_1 _ | rfl) (gSt_1 rfl) ?_
          refine g_iinc (v := _) G dX7_countLent_35 rfl (by first | exact nI_1 _ | rfl) (gSt_2 rfl) ?_
          refine g_goto (tgt := 4) G dX7_countLent_38 (by decide) ?_
          have h9 := ih (j + 1) (by omega) (by omega)
          rw [e9] at h9
          exact h9
  exact loop (mN M 11 + 1) 0 (by omega) (by omega)

set_option maxHeartbeats 4000000 in
set_option maxRecDepth 100000 in
theorem c_X7_lettersOfADay (d0 : Nat × Nat) (S : gS) (x : Nat) (ad : Nat → Nat → Nat) (M : gM) (h : gMail d0 S x ad M) : gCt d0 yX7_lettersOfADay cX7_lettersOfADay 3 (some .int) 3 0 0 [.ref x] S (gRet (.int (nI (3 * gct (fun k => decide (mA M 9 k = 0)) (mN M 8)))) S) gNo := by
  refine gCt_of (lo := [some (.ref x), none, none]) (by decide +kernel) (Nat.le_of_ble_eq_true rfl) rfl ?_
  intro Γ hd G F hini
  obtain ⟨⟨r1, ⟨ra, rb, rc, rd, re⟩, rt, rtl, rp, rpl, rdr, rep, rday⟩, ⟨l0, l1, l2, l3, l4⟩, ht, hcs, hps, hds, hes, hls⟩ := id h
  subst hd
  refine g_iconst (v := nI 0) G dX7_lettersOfADay_0 (by decide) ?_
  refine g_istore_n G dX7_lettersOfADay_1 (gSt_1 rfl) ?_
  refine g_iconst (v := nI 0) G dX7_lettersOfADay_2 (by decide) ?_
  refine g_istore_n G dX7_lettersOfADay_3 (gSt_2 rfl) ?_
  have hN := l1.2.2.1
  have loop : ∀ f j : Nat, j ≤ mN M 8 → mN M 8 + 1 ≤ j + f → gW Γ 4 [some (.ref x), some (.int (nI (gct (fun k => decide (mA M 9 k = 0)) j))), some (.int (nI j))] [] S 0 0 := by
    intro f
    induction f with
    | zero => intro j h1 h2; omega
    | succ f ih =>
      intro j hj hf
      refine g_iload_n G dX7_lettersOfADay_4 rfl ?_
      first | refine g_aload_n G dX7_lettersOfADay_5 rfl ?_ | refine g_aload_nN G dX7_lettersOfADay_5 rfl ?_ | refine g_aload_nQ G dX7_lettersOfADay_5 rfl ?_
      first | refine g_getR G fl_X7_16 (by assumption) (by first | decide | omega) rfl (by assumption) dX7_lettersOfADay_6 ?_ | refine g_getZ G fl_X7_16 (by assumption) (by first | decide | omega) rfl (by assumption) dX7_lettersOfADay_6 ?_ | refine g_getQ G fl_X7_16 (by assumption) (by first | decide | omega) rfl (by first | assumption | rfl) dX7_lettersOfADay_6 ?_
      refine g_callVp (ci := 0) G (c_Jx4a65c_size_8abf5 _ S (ad 5 1) 2 (mN M 8) (ad 1) l1) mt_Jx4a65c_size_8abf5 mi_Jx4a65c_size_8abf5 ml_X7_80 (l1.1) (by first | decide | omega) rfl (by decide) (by omega) (by omega) rfl (Nat.le_of_ble_eq_true rfl) dX7_lettersOfADay_9 ?_
      refine g_icmp_ge (tgt := 41) G dX7_lettersOfADay_12 (by decide) (fun c_12 => ?_) (fun c_12 => ?_)
      · have ej : j = mN M 8 := by have := (nI_leI (by omega) (by omega)).mp c_12; omega
        subst ej
        refine g_iconst (v := nI 3) G dX7_lettersOfADay_41 (by decide) ?_
        refine g_iload_n G dX7_lettersOfADay_42 rfl ?_
        refine g_imul G dX7_lettersOfADay_43 (by first | exact pk_mul _ _ | rfl) ?_
        exact g_iret G F (gRi rfl) (by omega) (by omega) dX7_lettersOfADay_44
      · have hlt : j < mN M 8 := by have z : ¬ mN M 8 ≤ j := fun z => c_12 ((nI_leI (by omega) (by omega)).mpr z); omega
        obtain ⟨k1, k2, k3, k4, k5, k6⟩ := id (hps j hlt)
        first | refine g_aload_n G dX7_lettersOfADay_15 rfl ?_ | refine g_aload_nN G dX7_lettersOfADay_15 rfl ?_ | refine g_aload_nQ G dX7_lettersOfADay_15 rfl ?_
        first | refine g_getR G fl_X7_16 (by assumption) (by first | decide | omega) rfl (by assumption) dX7_lettersOfADay_16 ?_ | refine g_getZ G fl_X7_16 (by assumption) (by first | decide | omega) rfl (by assumption) dX7_lettersOfADay_16 ?_ | refine g_getQ G fl_X7_16 (by assumption) (by first | decide | omega) rfl (by first | assumption | rfl) dX7_lettersOfADay_16 ?_
        refine g_iload_n G dX7_lettersOfADay_19 rfl ?_
        refine g_callVp (ci := 0) G (c_Jx4a65c_get_915e3 _ S (ad 5 1) 2 (mN M 8) j (ad 1) l1 hlt) mt_Jx4a65c_get_915e3 mi_Jx4a65c_get_915e3 ml_X7_300 (l1.1) (by first | decide | omega) rfl (by decide) (by omega) (by omega) rfl (Nat.le_of_ble_eq_true rfl) dX7_lettersOfADay_20 ?_
        refine g_cast (ci := 7) G (by assumption) (by first | decide | omega) rfl cl_X7_146 dX7_lettersOfADay_23 ?_
        refine g_getI G fl_X7_367 (by assumption) (by first | decide | omega) rfl (by first | assumption | rfl) dX7_lettersOfADay_26 ?_
        refine g_if_ne (tgt := 35) G dX7_lettersOfADay_29 (by decide) (fun c_29 => ?_) (fun c_29 => ?_)
        · have e9 := gct_no (p := fun k => decide (mA M 9 k = 0)) (n := j) (decide_eq_false c_29)
          refine g_iinc (v := _) G dX7_lettersOfADay_35 rfl (by first | exact nI_1 _ | rfl) (gSt_2 rfl) ?_
          refine g_goto (tgt := 4) G dX7_lettersOfADay_38 (by decide) ?_
          have h9 := ih (j + 1) (by omega) (by omega)
          rw [e9] at h9
          exact h9
        · have e9 := gct_yes (p := fun k => decide (mA M 9 k = 0)) (n := j) (decide_eq_true c_29)
          refine g_iinc (v := _) G dX7_lettersOfADay_32 rfl (by first | exact nI_1 _ | rfl) (gSt_1 rfl) ?_
          refine g_iinc (v := _) G dX7_lettersOfADay_35 rfl (by first | exact nI_1 _ | rfl) (gSt_2 rfl) ?_
          refine g_goto (tgt := 4) G dX7_lettersOfADay_38 (by decide) ?_
          have h9 := ih (j + 1) (by omega) (by omega)
          rw [e9] at h9
          exact h9
  exact loop (mN M 8 + 1) 0 (by omega) (by omega)
