/-! ===== documents, links, exhibits, people: their own methods ===== -/
def gSeen (b lv mk r : Int32) : Int32 := if b = nI 10 then nI 10 else if r < lv then nI 35 else if r = 0 ∧ mk = nI 1 then nI 42 else b
def gSeenAt (b lv mk r : Int32) : Int32 := if r = -1 then nI 0 else gSeen b lv mk r
def gmx (f : Nat → Int32) : Nat → Int32
  | 0 => nI 0
  | n + 1 => if gmx f n < f n then f n else gmx f n
def gsm (f : Nat → Int32) : Nat → Int32
  | 0 => nI 0
  | n + 1 => gsm f n + f n

set_option maxHeartbeats 4000000 in
set_option maxRecDepth 100000 in
theorem c_X1_hasRange (d0 : Nat × Nat) (S : gS) (ad : Nat → Nat → Nat) (M : gM) (d : Nat) (h : gDoc S ad M d) (a b : Int32) : gCt d0 yX1_hasRange cX1_hasRange 3 (some .boolean) 0 0 0 [.ref (ad 2 d), .int a, .int b] S (gRet (.int (gB (decide (0 ≤ a ∧ a ≤ b ∧ b ≤ nI (mN M (100 + d)))))) S) gNo := by
  refine gCt_of (lo := [some (.ref (ad 2 d)), some (.int a), some (.int b)]) (by decide +kernel) (Nat.le_of_ble_eq_true rfl) rfl ?_
  intro Γ hd G F hini
  obtain ⟨k1, ⟨kc, kc1, kc2, kc3⟩, ⟨k2, k3, k4⟩, ⟨k5, k6, k7, k8, kpr⟩, kl, ⟨t1, t2, t3⟩, ⟨v1, v2, v3⟩, ⟨w1, w2, w3⟩⟩ := id h
  refine g_iload_n G dX1_hasRange_0 rfl ?_
  refine g_if_lt (tgt := 22) G dX1_hasRange_1 (by decide) (fun c_1 => ?_) (fun c_1 => ?_)
  · have e9 : ¬ (0 ≤ a ∧ a ≤ b ∧ b ≤ nI (mN M (100 + d))) := fun z => absurd z.1 (Int32.not_le.mpr c_1)
    refine g_iconst (v := nI 0) G dX1_hasRange_22 (by decide) ?_
    exact g_zret G F (by first | exact Or.inl rfl | exact Or.inr rfl | assumption) (gRi (by first | rw [decide_eq_true e9]; rfl | rw [decide_eq_false e9]; rfl)) (by omega) (by omega) dX1_hasRange_23
  · have e1 := Int32.not_lt.mp c_1
    refine g_iload_n G dX1_hasRange_4 rfl ?_
    refine g_iload_n G dX1_hasRange_5 rfl ?_
    refine g_icmp_gt (tgt := 22) G dX1_hasRange_6 (by decide) (fun c_6 => ?_) (fun c_6 => ?_)
    · have e9 : ¬ (0 ≤ a ∧ a ≤ b ∧ b ≤ nI (mN M (100 + d))) := fun z => absurd z.2.1 (Int32.not_le.mpr c_6)
      refine g_iconst (v := nI 0) G dX1_hasRange_22 (by decide) ?_
      exact g_zret G F (by first | exact Or.inl rfl | exact Or.inr rfl | assumption) (gRi (by first | rw [decide_eq_true e9]; rfl | rw [decide_eq_false e9]; rfl)) (by omega) (by omega) dX1_hasRange_23
    · have e2 := Int32.not_lt.mp c_6
      refine g_iload_n G dX1_hasRange_9 rfl ?_
      first | refine g_aload_n G dX1_hasRange_10 rfl ?_ | refine g_aload_nN G dX1_hasRange_10 rfl ?_ | refine g_aload_nQ G dX1_hasRange_10 rfl ?_
      first | refine g_getR G fl_X1_39 (by assumption) (by first | decide | omega) rfl (by assumption) dX1_hasRange_11 ?_ | refine g_getZ G fl_X1_39 (by assumption) (by first | decide | omega) rfl (by assumption) dX1_hasRange_11 ?_ | refine g_getQ G fl_X1_39 (by assumption) (by first | decide | omega) rfl (by first | assumption | rfl) dX1_hasRange_11 ?_
      refine g_alen G (by assumption) (by first | decide | omega) (by first | assumption | rfl) dX1_hasRange_14 ?_
      refine g_icmp_gt (tgt := 22) G dX1_hasRange_15 (by decide) (fun c_15 => ?_) (fun c_15 => ?_)
      · have e9 : ¬ (0 ≤ a ∧ a ≤ b ∧ b ≤ nI (mN M (100 + d))) := fun z => absurd z.2.2 (Int32.not_le.mpr c_15)
        refine g_iconst (v := nI 0) G dX1_hasRange_22 (by decide) ?_
        exact g_zret G F (by first | exact Or.inl rfl | exact Or.inr rfl | assumption) (gRi (by first | rw [decide_eq_true e9]; rfl | rw [decide_eq_false e9]; rfl)) (by omega) (by omega) dX1_hasRange_23
      · have e9 : 0 ≤ a ∧ a ≤ b ∧ b ≤ nI (mN M (100 + d)) := ⟨e1, e2, Int32.not_lt.mp c_15⟩
        refine g_iconst (v := nI 1) G dX1_hasRange_18 (by decide) ?_
        refine g_goto (tgt := 23) G dX1_hasRange_19 (by decide) ?_
        exact g_zret G F (by first | exact Or.inl rfl | exact Or.inr rfl | assumption) (gRi (by first | rw [decide_eq_true e9]; rfl | rw [decide_eq_false e9]; rfl)) (by omega) (by omega) dX1_hasRange_23

set_option maxHeartbeats 4000000 in
set_option maxRecDepth 100000 in
theorem c_X1_seenAt (d0 : Nat × Nat) (S : gS) (ad : Nat → Nat → Nat) (M : gM) (d : Nat) (h : gDoc S ad M d) (j : Nat) (hj : j < mN M (100 + d)) (r : Int32) : gCt d0 yX1_seenAt cX1_seenAt 3 (some .int) 0 0 0 [.ref (ad 2 d), .int (nI j), .int r] S (gRet (.int (gSeenAt (mT M 13 d j) (mT M 14 d j) (mT M 15 d j) r)) S) gNo := by
  refine gCt_of (lo := [some (.ref (ad 2 d)), some (.int (nI j)), some (.int r)]) (by decide +kernel) (Nat.le_of_ble_eq_true rfl) rfl ?_
  intro Γ hd G F hini
  obtain ⟨k1, ⟨kc, kc1, kc2, kc3⟩, ⟨k2, k3, k4⟩, ⟨k5, k6, k7, k8, kpr⟩, kl, ⟨t1, t2, t3⟩, ⟨v1, v2, v3⟩, ⟨w1, w2, w3⟩⟩ := id h
  have x1 := t3 j hj
  have x2 := v3 j hj
  have x3 := w3 j hj
  refine g_iload_n G dX1_seenAt_0 rfl ?_
  refine g_iconst (v := (-1)) G dX1_seenAt_1 (by decide) ?_
  refine g_icmp_eq (tgt := 36) G dX1_seenAt_2 (by decide) (fun c_2 => ?_) (fun c_2 => ?_)
  · have e0 : r = -1 := c_2
    refine g_iconst (v := nI 0) G dX1_seenAt_36 (by decide) ?_
    exact g_iret G F (gRi (by rw [gSeenAt, if_pos e0])) (by omega) (by omega) dX1_seenAt_37
  · have e0 : ¬ r = -1 := c_2
    refine g_iload_n G dX1_seenAt_5 rfl ?_
    refine g_if_lt (tgt := 36) G dX1_seenAt_6 (by decide) (fun c_6 => (absurd c_6 (nI_pos (by omega)))) (fun c_6 => ?_)
    refine g_iload_n G dX1_seenAt_9 rfl ?_
    first | refine g_aload_n G dX1_seenAt_10 rfl ?_ | refine g_aload_nN G dX1_seenAt_10 rfl ?_ | refine g_aload_nQ G dX1_seenAt_10 rfl ?_
    first | refine g_getR G fl_X1_39 (by assumption) (by first | decide | omega) rfl (by assumption) dX1_seenAt_11 ?_ | refine g_getZ G fl_X1_39 (by assumption) (by first | decide | omega) rfl (by assumption) dX1_seenAt_11 ?_ | refine g_getQ G fl_X1_39 (by assumption) (by first | decide | omega) rfl (by first | assumption | rfl) dX1_seenAt_11 ?_
    refine g_alen G (by assumption) (by first | decide | omega) (by first | assumption | rfl) dX1_seenAt_14 ?_
    refine g_icmp_ge (tgt := 36) G dX1_seenAt_15 (by decide) (fun c_15 => (absurd c_15 (nI_ge hj (by omega)))) (fun c_15 => ?_)
    refine g_iload_n G dX1_seenAt_18 rfl ?_
    first | refine g_aload_n G dX1_seenAt_19 rfl ?_ | refine g_aload_nN G dX1_seenAt_19 rfl ?_ | refine g_aload_nQ G dX1_seenAt_19 rfl ?_
    first | refine g_getR G fl_X1_43 (by assumption) (by first | decide | omega) rfl (by assumption) dX1_seenAt_20 ?_ | refine g_getZ G fl_X1_43 (by assumption) (by first | decide | omega) rfl (by assumption) dX1_seenAt_20 ?_ | refine g_getQ G fl_X1_43 (by assumption) (by first | decide | omega) rfl (by first | assumption | rfl) dX1_seenAt_20 ?_
    refine g_alen G (by assumption) (by first | decide | omega) (by first | assumption | rfl) dX1_seenAt_23 ?_
    refine g_icmp_ge (tgt := 36) G dX1_seenAt_24 (by decide) (fun c_24 => (absurd c_24 (nI_ge hj (by omega)))) (fun c_24 => ?_)
    refine g_iload_n G dX1_seenAt_27 rfl ?_
    first | refine g_aload_n G dX1_seenAt_28 rfl ?_ | refine g_aload_nN G dX1_seenAt_28 rfl ?_ | refine g_aload_nQ G dX1_seenAt_28 rfl ?_
    first | refine g_getR G fl_X1_47 (by assumption) (by first | decide | omega) rfl (by assumption) dX1_seenAt_29 ?_ | refine g_getZ G fl_X1_47 (by assumption) (by first | decide | omega) rfl (by assumption) dX1_seenAt_29 ?_ | refine g_getQ G fl_X1_47 (by assumption) (by first | decide | omega) rfl (by first | assumption | rfl) dX1_seenAt_29 ?_
    refine g_alen G (by assumption) (by first | decide | omega) (by first | assumption | rfl) dX1_seenAt_32 ?_
    refine g_icmp_lt (tgt := 38) G dX1_seenAt_33 (by decide) (fun c_33 => ?_) (fun c_33 => (absurd (nI_lt hj (by omega)) c_33))
    first | refine g_aload_n G dX1_seenAt_38 rfl ?_ | refine g_aload_nN G dX1_seenAt_38 rfl ?_ | refine g_aload_nQ G dX1_seenAt_38 rfl ?_
    first | refine g_getR G fl_X1_39 (by assumption) (by first | decide | omega) rfl (by assumption) dX1_seenAt_39 ?_ | refine g_getZ G fl_X1_39 (by assumption) (by first | decide | omega) rfl (by assumption) dX1_seenAt_39 ?_ | refine g_getQ G fl_X1_39 (by assumption) (by first | decide | omega) rfl (by first | assumption | rfl) dX1_seenAt_39 ?_
    refine g_iload_n G dX1_seenAt_42 rfl ?_
    refine g_bald G (by assumption) (by first | decide | omega) (by omega) (by omega) (by first | assumption | rfl) dX1_seenAt_43 ?_
    refine g_bipush (v := nI 10) G dX1_seenAt_44 (by decide) ?_
    refine g_icmp_ne (tgt := 52) G dX1_seenAt_46 (by decide) (fun c_46 => ?_) (fun c_46 => ?_)
    · first | refine g_aload_n G dX1_seenAt_52 rfl ?_ | refine g_aload_nN G dX1_seenAt_52 rfl ?_ | refine g_aload_nQ G dX1_seenAt_52 rfl ?_
      first | refine g_getR G fl_X1_43 (by assumption) (by first | decide | omega) rfl (by assumption) dX1_seenAt_53 ?_ | refine g_getZ G fl_X1_43 (by assumption) (by first | decide | omega) rfl (by assumption) dX1_seenAt_53 ?_ | refine g_getQ G fl_X1_43 (by assumption) (by first | decide | omega) rfl (by first | assumption | rfl) dX1_seenAt_53 ?_
      refine g_iload_n G dX1_seenAt_56 rfl ?_
      refine g_bald G (by assumption) (by first | decide | omega) (by omega) (by omega) (by first | assumption | rfl) dX1_seenAt_57 ?_
      refine g_iload_n G dX1_seenAt_58 rfl ?_
      refine g_icmp_le (tgt := 65) G dX1_seenAt_59 (by decide) (fun c_59 => ?_) (fun c_59 => ?_)
      · refine g_iload_n G dX1_seenAt_65 rfl ?_
        refine g_if_ne (tgt := 84) G dX1_seenAt_66 (by decide) (fun c_66 => ?_) (fun c_66 => ?_)
        · first | refine g_aload_n G dX1_seenAt_84 rfl ?_ | refine g_aload_nN G dX1_seenAt_84 rfl ?_ | refine g_aload_nQ G dX1_seenAt_84 rfl ?_
          first | refine g_getR G fl_X1_39 (by assumption) (by first | decide | omega) rfl (by assumption) dX1_seenAt_85 ?_ | refine g_getZ G fl_X1_39 (by assumption) (by first | decide | omega) rfl (by assumption) dX1_seenAt_85 ?_ | refine g_getQ G fl_X1_39 (by assumption) (by first | decide | omega) rfl (by first | assumption | rfl) dX1_seenAt_85 ?_
          refine g_iload_n G dX1_seenAt_88 rfl ?_
          refine g_bald G (by assumption) (by first | decide | omega) (by omega) (by omega) (by first | assumption | rfl) dX1_seenAt_89 ?_
          exact g_iret G F (gRi (by rw [gSeenAt, if_neg e0, gSeen, if_neg c_46, if_neg (Int32.not_lt.mpr c_59)]; first | exact (if_pos ⟨c_66, c_76⟩).symm | exact (if_neg (fun z => c_66 z.1)).symm | exact (if_neg (fun z => c_76 z.2)).symm)) (by omega) (by omega) dX1_seenAt_90
        · first | refine g_aload_n G dX1_seenAt_69 rfl ?_ | refine g_aload_nN G dX1_seenAt_69 rfl ?_ | refine g_aload_nQ G dX1_seenAt_69 rfl ?_
          first | refine g_getR G fl_X1_47 (by assumption) (by first | decide | omega) rfl (by assumption) dX1_seenAt_70 ?_ | refine g_getZ G fl_X1_47 (by assumption) (by first | decide | omega) rfl (by assumption) dX1_seenAt_70 ?_ | refine g_getQ G fl_X1_47 (by assumption) (by first | decide | omega) rfl (by first | assumption | rfl) dX1_seenAt_70 ?_
          refine g_iload_n G dX1_seenAt_73 rfl ?_
          refine g_bald G (by assumption) (by first | decide | omega) (by omega) (by omega) (by first | assumption | rfl) dX1_seenAt_74 ?_
          refine g_iconst (v := nI 1) G dX1_seenAt_75 (by decide) ?_
          refine g_icmp_ne (tgt := 84) G dX1_seenAt_76 (by decide) (fun c_76 => ?_) (fun c_76 => ?_)
          · first | refine g_aload_n G dX1_seenAt_84 rfl ?_ | refine g_aload_nN G dX1_seenAt_84 rfl ?_ | refine g_aload_nQ G dX1_seenAt_84 rfl ?_
            first | refine g_getR G fl_X1_39 (by assumption) (by first | decide | omega) rfl (by assumption) dX1_seenAt_85 ?_ | refine g_getZ G fl_X1_39 (by assumption) (by first | decide | omega) rfl (by assumption) dX1_seenAt_85 ?_ | refine g_getQ G fl_X1_39 (by assumption) (by first | decide | omega) rfl (by first | assumption | rfl) dX1_seenAt_85 ?_
            refine g_iload_n G dX1_seenAt_88 rfl ?_
            refine g_bald G (by assumption) (by first | decide | omega) (by omega) (by omega) (by first | assumption | rfl) dX1_seenAt_89 ?_
            exact g_iret G F (gRi (by rw [gSeenAt, if_neg e0, gSeen, if_neg c_46, if_neg (Int32.not_lt.mpr c_59)]; first | exact (if_pos ⟨c_66, c_76⟩).symm | exact (if_neg (fun z => c_66 z.1)).symm | exact (if_neg (fun z => c_76 z.2)).symm)) (by omega) (by omega) dX1_seenAt_90
          · refine g_bipush (v := nI 42) G dX1_seenAt_79 (by decide) ?_
            refine g_goto (tgt := 90) G dX1_seenAt_81 (by decide) ?_
            exact g_iret G F (gRi (by rw [gSeenAt, if_neg e0, gSeen, if_neg c_46, if_neg (Int32.not_lt.mpr c_59)]; first | exact (if_pos ⟨c_66, c_76⟩).symm | exact (if_neg (fun z => c_66 z.1)).symm | exact (if_neg (fun z => c_76 z.2)).symm)) (by omega) (by omega) dX1_seenAt_90
      · refine g_bipush (v := nI 35) G dX1_seenAt_62 (by decide) ?_
        exact g_iret G F (gRi (by rw [gSeenAt, if_neg e0, gSeen, if_neg c_46, if_pos (Int32.not_le.mp c_59)])) (by omega) (by omega) dX1_seenAt_64
    · refine g_bipush (v := nI 10) G dX1_seenAt_49 (by decide) ?_
      exact g_iret G F (gRi (by rw [gSeenAt, if_neg e0, gSeen, if_pos c_46])) (by omega) (by omega) dX1_seenAt_51

set_option maxHeartbeats 4000000 in
set_option maxRecDepth 100000 in
theorem c_X1_countVeiled (d0 : Nat × Nat) (S : gS) (ad : Nat → Nat → Nat) (M : gM) (d : Nat) (h : gDoc S ad M d) : gCt d0 yX1_countVeiled cX1_countVeiled 3 (some .int) 0 0 0 [.ref (ad 2 d)] S (gRet (.int (nI (gct (fun k => decide (0 < mT M 14 d k)) (mN M (100 + d))))) S) gNo := by
  refine gCt_of (lo := [some (.ref (ad 2 d)), none, none]) (by decide +kernel) (Nat.le_of_ble_eq_true rfl) rfl ?_
  intro Γ hd G F hini
  obtain ⟨k1, ⟨kc, kc1, kc2, kc3⟩, ⟨k2, k3, k4⟩, ⟨k5, k6, k7, k8, kpr⟩, kl, ⟨t1, t2, t3⟩, ⟨v1, v2, v3⟩, ⟨w1, w2, w3⟩⟩ := id h
  refine g_iconst (v := nI 0) G dX1_countVeiled_0 (by decide) ?_
  refine g_istore_n G dX1_countVeiled_1 (gSt_1 rfl) ?_
  refine g_iconst (v := nI 0) G dX1_countVeiled_2 (by decide) ?_
  refine g_istore_n G dX1_countVeiled_3 (gSt_2 rfl) ?_
  have loop : ∀ f j : Nat, j ≤ mN M (100 + d) → mN M (100 + d) + 1 ≤ j + f → gW Γ 4 [some (.ref (ad 2 d)), some (.int (nI (gct (fun k => decide (0 < mT M 14 d k)) (j)))), some (.int (nI (j)))] [] S 0 0 := by
    intro f
    induction f with
    | zero => intro j h1 h2; omega
    | succ f ih =>
      intro j hj hf
      refine g_iload_n G dX1_countVeiled_4 rfl ?_
      first | refine g_aload_n G dX1_countVeiled_5 rfl ?_ | refine g_aload_nN G dX1_countVeiled_5 rfl ?_ | refine g_aload_nQ G dX1_countVeiled_5 rfl ?_
      first | refine g_getR G fl_X1_43 (by assumption) (by first | decide | omega) rfl (by assumption) dX1_countVeiled_6 ?_ | refine g_getZ G fl_X1_43 (by assumption) (by first | decide | omega) rfl (by assumption) dX1_countVeiled_6 ?_ | refine g_getQ G fl_X1_43 (by assumption) (by first | decide | omega) rfl (by first | assumption | rfl) dX1_countVeiled_6 ?_
      refine g_alen G (by assumption) (by first | decide | omega) (by first | assumption | rfl) dX1_countVeiled_9 ?_
      refine g_icmp_ge (tgt := 31) G dX1_countVeiled_10 (by decide) (fun c_10 => ?_) (fun c_10 => ?_)
      · have ej : j = mN M (100 + d) := by have := (nI_leI (by omega) (by omega)).mp c_10; omega
        subst ej
        refine g_iload_n G dX1_countVeiled_31 rfl ?_
        exact g_iret G F (gRi rfl) (by omega) (by omega) dX1_countVeiled_32
      · have hlt : j < mN M (100 + d) := by have z : ¬ mN M (100 + d) ≤ j := fun z => c_10 ((nI_leI (by omega) (by omega)).mpr z); omega
        first | refine g_aload_n G dX1_countVeiled_13 rfl ?_ | refine g_aload_nN G dX1_countVeiled_13 rfl ?_ | refine g_aload_nQ G dX1_countVeiled_13 rfl ?_
        first | refine g_getR G fl_X1_43 (by assumption) (by first | decide | omega) rfl (by assumption) dX1_countVeiled_14 ?_ | refine g_getZ G fl_X1_43 (by assumption) (by first | decide | omega) rfl (by assumption) dX1_countVeiled_14 ?_ | refine g_getQ G fl_X1_43 (by assumption) (by first | decide | omega) rfl (by first | assumption | rfl) dX1_countVeiled_14 ?_
        refine g_iload_n G dX1_countVeiled_17 rfl ?_
        refine g_bald G (by assumption) (by first | decide | omega) (by omega) (by omega) (v3 j hlt) dX1_countVeiled_18 ?_
        refine g_if_le (tgt := 25) G dX1_countVeiled_19 (by decide) (fun c_19 => ?_) (fun c_19 => ?_)
        · have e9 := gct_no (p := fun k => decide (0 < mT M 14 d k)) (n := j) (decide_eq_false (Int32.not_lt.mpr c_19))
          refine g_iinc (v := _) G dX1_countVeiled_25 rfl (by first | exact nI_1 _ | rfl) (gSt_2 rfl) ?_
          refine g_goto (tgt := 4) G dX1_countVeiled_28 (by decide) ?_
          have h9 := ih (j + 1) (by omega) (by omega)
          rw [e9] at h9
          exact h9
        · have e9 := gct_yes (p := fun k => decide (0 < mT M 14 d k)) (n := j) (decide_eq_true (Int32.not_le.mp c_19))
          refine g_iinc (v := _) G dX1_countVeiled_22 rfl (by first | exact nI_1 _ | rfl) (gSt_1 rfl) ?_
          refine g_iinc (v := _) G dX1_countVeiled_25 rfl (by first | exact nI_1 _ | rfl) (gSt_2 rfl) ?_
          refine g_goto (tgt := 4) G dX1_countVeiled_28 (by decide) ?_
          have h9 := ih (j + 1) (by omega) (by omega)
          rw [e9] at h9
          exact h9
  exact loop (mN M (100 + d) + 1) 0 (by omega) (by omega)

set_option maxHeartbeats 4000000 in
set_option maxRecDepth 100000 in
theorem c_X1_greatestLevel (d0 : Nat × Nat) (S : gS) (ad : Nat → Nat → Nat) (M : gM) (d : Nat) (h : gDoc S ad M d) : gCt d0 yX1_greatestLevel cX1_greatestLevel 3 (some .int) 1 0 0 [.ref (ad 2 d)] S (gRet (.int (gmx (mT M 14 d) (mN M (100 + d)))) S) gNo := by
  refine gCt_of (lo := [some (.ref (ad 2 d)), none, none]) (by decide +kernel) (Nat.le_of_ble_eq_true rfl) rfl ?_
  intro Γ hd G F hini
  obtain ⟨k1, ⟨kc, kc1, kc2, kc3⟩, ⟨k2, k3, k4⟩, ⟨k5, k6, k7, k8, kpr⟩, kl, ⟨t1, t2, t3⟩, ⟨v1, v2, v3⟩, ⟨w1, w2, w3⟩⟩ := id h
  refine g_iconst (v := nI 0) G dX1_greatestLevel_0 (by decide) ?_
  refine g_istore_n G dX1_greatestLevel_1 (gSt_1 rfl) ?_
  refine g_iconst (v := nI 0) G dX1_greatestLevel_2 (by decide) ?_
  refine g_istore_n G dX1_greatestLevel_3 (gSt_2 rfl) ?_
  have loop : ∀ f j : Nat, j ≤ mN M (100 + d) → mN M (100 + d) + 1 ≤ j + f → gW Γ 4 [some (.ref (ad 2 d)), some (.int (gmx (mT M 14 d) (j))), some (.int (nI (j)))] [] S 0 0 := by
    intro f
    induction f with
    | zero => intro j h1 h2; omega
    | succ f ih =>
      intro j hj hf
      refine g_iload_n G dX1_greatestLevel_4 rfl ?_
      first | refine g_aload_n G dX1_greatestLevel_5 rfl ?_ | refine g_aload_nN G dX1_greatestLevel_5 rfl ?_ | refine g_aload_nQ G dX1_greatestLevel_5 rfl ?_
      first | refine g_getR G fl_X1_43 (by assumption) (by first | decide | omega) rfl (by assumption) dX1_greatestLevel_6 ?_ | refine g_getZ G fl_X1_43 (by assumption) (by first | decide | omega) rfl (by assumption) dX1_greatestLevel_6 ?_ | refine g_getQ G fl_X1_43 (by assumption) (by first | decide | omega) rfl (by first | assumption | rfl) dX1_greatestLevel_6 ?_
      refine g_alen G (by assumption) (by first | decide | omega) (by first | assumption | rfl) dX1_greatestLevel_9 ?_
      refine g_icmp_ge (tgt := 30) G dX1_greatestLevel_10 (by decide) (fun c_10 => ?_) (fun c_10 => ?_)
      · have ej : j = mN M (100 + d) := by have := (nI_leI (by omega) (by omega)).mp c_10; omega
        subst ej
        refine g_iload_n G dX1_greatestLevel_30 rfl ?_
        exact g_iret G F (gRi rfl) (by omega) (by omega) dX1_greatestLevel_31
      · have hlt : j < mN M (100 + d) := by have z : ¬ mN M (100 + d) ≤ j := fun z => c_10 ((nI_leI (by omega) (by omega)).mpr z); omega
        refine g_iload_n G dX1_greatestLevel_13 rfl ?_
        first | refine g_aload_n G dX1_greatestLevel_14 rfl ?_ | refine g_aload_nN G dX1_greatestLevel_14 rfl ?_ | refine g_aload_nQ G dX1_greatestLevel_14 rfl ?_
        first | refine g_getR G fl_X1_43 (by assumption) (by first | decide | omega) rfl (by assumption) dX1_greatestLevel_15 ?_ | refine g_getZ G fl_X1_43 (by assumption) (by first | decide | omega) rfl (by assumption) dX1_greatestLevel_15 ?_ | refine g_getQ G fl_X1_43 (by assumption) (by first | decide | omega) rfl (by first | assumption | rfl) dX1_greatestLevel_15 ?_
        refine g_iload_n G dX1_greatestLevel_18 rfl ?_
        refine g_bald G (by assumption) (by first | decide | omega) (by omega) (by omega) (v3 j hlt) dX1_greatestLevel_19 ?_
        refine g_mmax G ml_X1_58 (by decide) (by omega) (by omega) (Nat.le_of_ble_eq_true rfl) (rfl) dX1_greatestLevel_20 ?_
        refine g_istore_n G dX1_greatestLevel_23 (gSt_1 rfl) ?_
        refine g_iinc (v := _) G dX1_greatestLevel_24 rfl (by first | exact nI_1 _ | rfl) (gSt_2 rfl) ?_
        refine g_goto (tgt := 4) G dX1_greatestLevel_27 (by decide) ?_
        exact ih (j + 1) (by omega) (by omega)
  exact loop (mN M (100 + d) + 1) 0 (by omega) (by omega)

set_option maxHeartbeats 4000000 in
set_option maxRecDepth 100000 in
theorem c_X1_countMarked (d0 : Nat × Nat) (S : gS) (ad : Nat → Nat → Nat) (M : gM) (d : Nat) (h : gDoc S ad M d) : gCt d0 yX1_countMarked cX1_countMarked 3 (some .int) 0 0 0 [.ref (ad 2 d)] S (gRet (.int (gsm (mT M 15 d) (mN M (100 + d)))) S) gNo := by
  refine gCt_of (lo := [some (.ref (ad 2 d)), none, none]) (by decide +kernel) (Nat.le_of_ble_eq_true rfl) rfl ?_
  intro Γ hd G F hini
  obtain ⟨k1, ⟨kc, kc1, kc2, kc3⟩, ⟨k2, k3, k4⟩, ⟨k5, k6, k7, k8, kpr⟩, kl, ⟨t1, t2, t3⟩, ⟨v1, v2, v3⟩, ⟨w1, w2, w3⟩⟩ := id h
  refine g_iconst (v := nI 0) G dX1_countMarked_0 (by decide) ?_
  refine g_istore_n G dX1_countMarked_1 (gSt_1 rfl) ?_
  refine g_iconst (v := nI 0) G dX1_countMarked_2 (by decide) ?_
  refine g_istore_n G dX1_countMarked_3 (gSt_2 rfl) ?_
  have loop : ∀ f j : Nat, j ≤ mN M (100 + d) → mN M (100 + d) + 1 ≤ j + f → gW Γ 4 [some (.ref (ad 2 d)), some (.int (gsm (mT M 15 d) (j))), some (.int (nI (j)))] [] S 0 0 := by
    intro f
    induction f with
    | zero => intro j h1 h2; omega
    | succ f ih =>
      intro j hj hf
      refine g_iload_n G dX1_countMarked_4 rfl ?_
      first | refine g_aload_n G dX1_countMarked_5 rfl ?_ | refine g_aload_nN G dX1_countMarked_5 rfl ?_ | refine g_aload_nQ G dX1_countMarked_5 rfl ?_
      first | refine g_getR G fl_X1_47 (by assumption) (by first | decide | omega) rfl (by assumption) dX1_countMarked_6 ?_ | refine g_getZ G fl_X1_47 (by assumption) (by first | decide | omega) rfl (by assumption) dX1_countMarked_6 ?_ | refine g_getQ G fl_X1_47 (by assumption) (by first | decide | omega) rfl (by first | assumption | rfl) dX1_countMarked_6 ?_
      refine g_alen G (by assumption) (by first | decide | omega) (by first | assumption | rfl) dX1_countMarked_9 ?_
      refine g_icmp_ge (tgt := 28) G dX1_countMarked_10 (by decide) (fun c_10 => ?_) (fun c_10 => ?_)
      · have ej : j = mN M (100 + d) := by have := (nI_leI (by omega) (by omega)).mp c_10; omega
        subst ej
        refine g_iload_n G dX1_countMarked_28 rfl ?_
        exact g_iret G F (gRi rfl) (by omega) (by omega) dX1_countMarked_29
      · have hlt : j < mN M (100 + d) := by have z : ¬ mN M (100 + d) ≤ j := fun z => c_10 ((nI_leI (by omega) (by omega)).mpr z); omega
        refine g_iload_n G dX1_countMarked_13 rfl ?_
        first | refine g_aload_n G dX1_countMarked_14 rfl ?_ | refine g_aload_nN G dX1_countMarked_14 rfl ?_ | refine g_aload_nQ G dX1_countMarked_14 rfl ?_
        first | refine g_getR G fl_X1_47 (by assumption) (by first | decide | omega) rfl (by assumption) dX1_countMarked_15 ?_ | refine g_getZ G fl_X1_47 (by assumption) (by first | decide | omega) rfl (by assumption) dX1_countMarked_15 ?_ | refine g_getQ G fl_X1_47 (by assumption) (by first | decide | omega) rfl (by first | assumption | rfl) dX1_countMarked_15 ?_
        refine g_iload_n G dX1_countMarked_18 rfl ?_
        refine g_bald G (by assumption) (by first | decide | omega) (by omega) (by omega) (w3 j hlt) dX1_countMarked_19 ?_
        refine g_iadd G dX1_countMarked_20 (rfl) ?_
        refine g_istore_n G dX1_countMarked_21 (gSt_1 rfl) ?_
        refine g_iinc (v := _) G dX1_countMarked_22 rfl (by first | exact nI_1 _ | rfl) (gSt_2 rfl) ?_
        refine g_goto (tgt := 4) G dX1_countMarked_25 (by decide) ?_
        exact ih (j + 1) (by omega) (by omega)
  exact loop (mN M (100 + d) + 1) 0 (by omega) (by omega)

/-- how many k from a on, n of them -/
def gcn (p : Nat → Bool) (a n : Nat) : Nat := gct (fun k => p (a + k)) n

set_option maxHeartbeats 4000000 in
set_option maxRecDepth 100000 in
theorem c_X1_countHidden (d0 : Nat × Nat) (S : gS) (ad : Nat → Nat → Nat) (M : gM) (d : Nat) (h : gDoc S ad M d) (a b : Nat) (hab : a ≤ b) (hb : b ≤ mN M (100 + d)) (r : Int32) : gCt d0 yX1_countHidden cX1_countHidden 6 (some .int) 1 0 0 [.ref (ad 2 d), .int (nI a), .int (nI b), .int r] S (gRet (.int (nI (gcn (fun k => decide (¬ gSeenAt (mT M 13 d k) (mT M 14 d k) (mT M 15 d k) r = mT M 13 d k)) a (b - a)))) S) gNo := by
  refine gCt_of (lo := [some (.ref (ad 2 d)), some (.int (nI a)), some (.int (nI b)), some (.int r), none, none]) (by decide +kernel) (Nat.le_of_ble_eq_true rfl) rfl ?_
  intro Γ hd G F hini
  obtain ⟨k1, ⟨kc, kc1, kc2, kc3⟩, ⟨k2, k3, k4⟩, ⟨k5, k6, k7, k8, kpr⟩, kl, ⟨t1, t2, t3⟩, ⟨v1, v2, v3⟩, ⟨w1, w2, w3⟩⟩ := id h
  have em : (if nI 0 < nI a then nI a else nI 0) = nI a := by
    by_cases z : 0 < a
    · rw [if_pos (nI_lt z (by omega))]
    · rw [if_neg (nI_nlt (by omega) (by omega)), show a = 0 by omega]
  refine g_iconst (v := nI 0) G dX1_countHidden_0 (by decide) ?_
  refine g_istore G dX1_countHidden_1 (gSt_4 rfl) ?_
  refine g_iconst (v := nI 0) G dX1_countHidden_3 (by decide) ?_
  refine g_iload_n G dX1_countHidden_4 rfl ?_
  refine g_mmax G ml_X1_58 (by decide) (by omega) (by omega) (Nat.le_of_ble_eq_true rfl) (em) dX1_countHidden_5 ?_
  refine g_istore G dX1_countHidden_8 (gSt_5 rfl) ?_
  have loop : ∀ f j : Nat, a ≤ j → j ≤ b → b + 1 ≤ j + f → gW Γ 10 [some (.ref (ad 2 d)), some (.int (nI a)), some (.int (nI b)), some (.int r), some (.int (nI (gcn (fun k => decide (¬ gSeenAt (mT M 13 d k) (mT M 14 d k) (mT M 15 d k) r = mT M 13 d k)) a (j - a)))), some (.int (nI j))] [] S 0 0 := by
    intro f
    induction f with
    | zero => intro j h1 h2 h3; omega
    | succ f ih =>
      intro j h1 h2 h3
      refine g_iload G dX1_countHidden_10 rfl ?_
      refine g_iload_n G dX1_countHidden_12 rfl ?_
      refine g_icmp_ge (tgt := 52) G dX1_countHidden_13 (by decide) (fun c_13 => ?_) (fun c_13 => ?_)
      · have ej : j = b := by have := (nI_leI (by omega) (by omega)).mp c_13; omega
        subst ej
        refine g_iload G dX1_countHidden_52 rfl ?_
        exact g_iret G F (gRi rfl) (by omega) (by omega) dX1_countHidden_54
      · have hlt : j < b := by have z : ¬ b ≤ j := fun z => c_13 ((nI_leI (by omega) (by omega)).mpr z); omega
        refine g_iload G dX1_countHidden_16 rfl ?_
        first | refine g_aload_n G dX1_countHidden_18 rfl ?_ | refine g_aload_nN G dX1_countHidden_18 rfl ?_ | refine g_aload_nQ G dX1_countHidden_18 rfl ?_
        first | refine g_getR G fl_X1_39 (by assumption) (by first | decide | omega) rfl (by assumption) dX1_countHidden_19 ?_ | refine g_getZ G fl_X1_39 (by assumption) (by first | decide | omega) rfl (by assumption) dX1_countHidden_19 ?_ | refine g_getQ G fl_X1_39 (by assumption) (by first | decide | omega) rfl (by first | assumption | rfl) dX1_countHidden_19 ?_
        refine g_alen G (by assumption) (by first | decide | omega) (by first | assumption | rfl) dX1_countHidden_22 ?_
        refine g_icmp_ge (tgt := 52) G dX1_countHidden_23 (by decide) (fun c_23 => (absurd c_23 (nI_ge (show j < mN M (100 + d) by omega) (by omega)))) (fun c_23 => ?_)
        first | refine g_aload_n G dX1_countHidden_26 rfl ?_ | refine g_aload_nN G dX1_countHidden_26 rfl ?_ | refine g_aload_nQ G dX1_countHidden_26 rfl ?_
        refine g_iload G dX1_countHidden_27 rfl ?_
        refine g_iload_n G dX1_countHidden_29 rfl ?_
        refine g_callVp (ci := 2) G (c_X1_seenAt _ S ad M d h j (by omega) r) mt_X1_seenAt mi_X1_seenAt ml_X1_66 (by assumption) (by first | decide | omega) rfl (by decide) (by omega) (by omega) rfl (Nat.le_of_ble_eq_true rfl) dX1_countHidden_30 ?_
        first | refine g_aload_n G dX1_countHidden_33 rfl ?_ | refine g_aload_nN G dX1_countHidden_33 rfl ?_ | refine g_aload_nQ G dX1_countHidden_33 rfl ?_
        first | refine g_getR G fl_X1_39 (by assumption) (by first | decide | omega) rfl (by assumption) dX1_countHidden_34 ?_ | refine g_getZ G fl_X1_39 (by assumption) (by first | decide | omega) rfl (by assumption) dX1_countHidden_34 ?_ | refine g_getQ G fl_X1_39 (by assumption) (by first | decide | omega) rfl (by first | assumption | rfl) dX1_countHidden_34 ?_
        refine g_iload G dX1_countHidden_37 rfl ?_
        refine g_bald G (by assumption) (by first | decide | omega) (by omega) (by omega) (t3 j (by omega)) dX1_countHidden_39 ?_
        refine g_icmp_eq (tgt := 46) G dX1_countHidden_40 (by decide) (fun c_40 => ?_) (fun c_40 => ?_)
        · have es : j + 1 - a = (j - a) + 1 := by omega
          have ea : a + (j - a) = j := by omega
          have e9 : gcn (fun k => decide (¬ gSeenAt (mT M 13 d k) (mT M 14 d k) (mT M 15 d k) r = mT M 13 d k)) a (j + 1 - a) = gcn (fun k => decide (¬ gSeenAt (mT M 13 d k) (mT M 14 d k) (mT M 15 d k) r = mT M 13 d k)) a (j - a) := by rw [es]; exact gct_no (by simp only [ea]; exact decide_eq_false (fun z => z c_40))
          refine g_iinc (v := _) G dX1_countHidden_46 rfl (by first | exact nI_1 _ | rfl) (gSt_5 rfl) ?_
          refine g_goto (tgt := 10) G dX1_countHidden_49 (by decide) ?_
          have h9 := ih (j + 1) (by omega) (by omega) (by omega)
          rw [e9] at h9
          exact h9
        · have es : j + 1 - a = (j - a) + 1 := by omega
          have ea : a + (j - a) = j := by omega
          have e9 : gcn (fun k => decide (¬ gSeenAt (mT M 13 d k) (mT M 14 d k) (mT M 15 d k) r = mT M 13 d k)) a (j + 1 - a) = gcn (fun k => decide (¬ gSeenAt (mT M 13 d k) (mT M 14 d k) (mT M 15 d k) r = mT M 13 d k)) a (j - a) + 1 := by rw [es]; exact gct_yes (by simp only [ea]; exact decide_eq_true c_40)
          refine g_iinc (v := _) G dX1_countHidden_43 rfl (by first | exact nI_1 _ | rfl) (gSt_4 rfl) ?_
          refine g_iinc (v := _) G dX1_countHidden_46 rfl (by first | exact nI_1 _ | rfl) (gSt_5 rfl) ?_
          refine g_goto (tgt := 10) G dX1_countHidden_49 (by decide) ?_
          have h9 := ih (j + 1) (by omega) (by omega) (by omega)
          rw [e9] at h9
          exact h9
  have h9 := loop (b + 1) a (Nat.le_refl a) hab (by omega)
  rw [Nat.sub_self] at h9
  exact h9

set_option maxHeartbeats 4000000 in
set_option maxRecDepth 100000 in
theorem c_X1_writeLog (d0 : Nat × Nat) (S : gS) (ad : Nat → Nat → Nat) (M : gM) (d : Nat) (h : gDoc S ad M d) (p : Nat) (role cl att wrn : Int32) (hp : gPers S (ad 1 p) p role cl att wrn) : gCt d0 yX1_writeLog cX1_writeLog 2 none 0 0 0 [.ref (ad 2 d), .ref (ad 1 p)] S (fun v' S' => v' = none ∧ S' = sX S (3 + 32 * d) 7 (ad 2 d) (mA M 45 d ||| (nI 1 <<< (nI p &&& 31)))) gNo := by
  refine gCt_of (lo := [some (.ref (ad 2 d)), some (.ref (ad 1 p))]) (by decide +kernel) (Nat.le_of_ble_eq_true rfl) rfl ?_
  intro Γ hd G F hini
  obtain ⟨k1, ⟨kc, kc1, kc2, kc3⟩, ⟨k2, k3, k4⟩, ⟨k5, k6, k7, k8, kpr⟩, kl, ⟨t1, t2, t3⟩, ⟨v1, v2, v3⟩, ⟨w1, w2, w3⟩⟩ := id h
  obtain ⟨p1, p2, p3, p4, p5, p6⟩ := id hp
  first | refine g_aload_n G dX1_writeLog_0 rfl ?_ | refine g_aload_nN G dX1_writeLog_0 rfl ?_ | refine g_aload_nQ G dX1_writeLog_0 rfl ?_
  refine g_dup G dX1_writeLog_1 rfl ?_
  refine g_getI G fl_X1_19 (by assumption) (by first | decide | omega) rfl (by first | assumption | rfl) dX1_writeLog_2 ?_
  refine g_iconst (v := nI 1) G dX1_writeLog_5 (by decide) ?_
  first | refine g_aload_n G dX1_writeLog_6 rfl ?_ | refine g_aload_nN G dX1_writeLog_6 rfl ?_ | refine g_aload_nQ G dX1_writeLog_6 rfl ?_
  refine g_getI G fl_X1_69 (by assumption) (by first | decide | omega) rfl (by first | assumption | rfl) dX1_writeLog_7 ?_
  refine g_ishl G dX1_writeLog_10 (rfl) ?_
  refine g_ior G dX1_writeLog_11 (rfl) ?_
  refine g_putI G fl_X1_19 pu_2_7 (by assumption) (by first | decide | omega) rfl dX1_writeLog_12 ?_
  exact g_vret G F (by exact ⟨rfl, rfl⟩) (by omega) (by omega) dX1_writeLog_15

set_option maxHeartbeats 4000000 in
set_option maxRecDepth 100000 in
theorem c_X1_bringBack (d0 : Nat × Nat) (S : gS) (D d : Nat) (k1 : gK S D = 3 + 32 * d) : gCt d0 yX1_bringBack cX1_bringBack 1 none 0 0 0 [.ref D] S (fun v' S' => v' = none ∧ S' = sX (sY S (3 + 32 * d) 5 D none) (3 + 32 * d) 6 D (-1)) gNo := by
  refine gCt_of (lo := [some (.ref D)]) (by decide +kernel) (Nat.le_of_ble_eq_true rfl) rfl ?_
  intro Γ hd G F hini
  first | refine g_aload_n G dX1_bringBack_0 rfl ?_ | refine g_aload_nN G dX1_bringBack_0 rfl ?_ | refine g_aload_nQ G dX1_bringBack_0 rfl ?_
  refine g_null G dX1_bringBack_1 ?_
  refine g_putQ (v := none) G fl_X1_9 pu_2_5 k1 (by omega) rfl dX1_bringBack_2 ?_
  first | refine g_aload_n G dX1_bringBack_5 rfl ?_ | refine g_aload_nN G dX1_bringBack_5 rfl ?_ | refine g_aload_nQ G dX1_bringBack_5 rfl ?_
  refine g_iconst (v := (-1)) G dX1_bringBack_6 (by decide) ?_
  refine g_putI G fl_X1_15 pu_2_6 (k1) (by first | decide | omega) rfl dX1_bringBack_7 ?_
  exact g_vret G F (by exact ⟨rfl, rfl⟩) (by omega) (by omega) dX1_bringBack_10

set_option maxHeartbeats 4000000 in
set_option maxRecDepth 100000 in
theorem c_X6_warn (d0 : Nat × Nat) (S : gS) (p i : Nat) (role cl att wrn : Int32) (hp : gPers S p i role cl att wrn) : gCt d0 yX6_warn cX6_warn 1 none 1 0 0 [.ref p] S (fun v' S' => v' = none ∧ S' = if wrn + nI 1 < nI 3 then sX S (8 + 32 * i) 4 p (wrn + nI 1) else sX (sX (sX S (8 + 32 * i) 4 p (wrn + nI 1)) (8 + 32 * i) 4 p (nI 0)) (8 + 32 * i) 2 p (if nI 0 < cl - nI 1 then cl - nI 1 else nI 0)) gNo := by
  refine gCt_of (lo := [some (.ref p)]) (by decide +kernel) (Nat.le_of_ble_eq_true rfl) rfl ?_
  intro Γ hd G F hini
  obtain ⟨p1, p2, p3, p4, p5, p6⟩ := id hp
  first | refine g_aload_n G dX6_warn_0 rfl ?_ | refine g_aload_nN G dX6_warn_0 rfl ?_ | refine g_aload_nQ G dX6_warn_0 rfl ?_
  refine g_dup G dX6_warn_1 rfl ?_
  refine g_getI G fl_X6_15 (by assumption) (by first | decide | omega) rfl (by first | assumption | rfl) dX6_warn_2 ?_
  refine g_iconst (v := nI 1) G dX6_warn_5 (by decide) ?_
  refine g_iadd G dX6_warn_6 (rfl) ?_
  refine g_putI G fl_X6_15 pu_7_4 (p1) (by first | decide | omega) rfl dX6_warn_7 ?_
  first | refine g_aload_n G dX6_warn_10 rfl ?_ | refine g_aload_nN G dX6_warn_10 rfl ?_ | refine g_aload_nQ G dX6_warn_10 rfl ?_
  refine g_getI G fl_X6_15 (p1) (by first | decide | omega) rfl (u3_same _ _ _ _ _) dX6_warn_11 ?_
  refine g_iconst (v := nI 3) G dX6_warn_14 (by decide) ?_
  refine g_icmp_lt (tgt := 37) G dX6_warn_15 (by decide) (fun c_15 => ?_) (fun c_15 => ?_)
  · exact g_vret G F (⟨rfl, by first | rw [if_pos c_15] | rw [if_neg c_15]⟩) (by omega) (by omega) dX6_warn_37
  · first | refine g_aload_n G dX6_warn_18 rfl ?_ | refine g_aload_nN G dX6_warn_18 rfl ?_ | refine g_aload_nQ G dX6_warn_18 rfl ?_
    refine g_iconst (v := nI 0) G dX6_warn_19 (by decide) ?_
    refine g_putI G fl_X6_15 pu_7_4 (p1) (by first | decide | omega) rfl dX6_warn_20 ?_
    first | refine g_aload_n G dX6_warn_23 rfl ?_ | refine g_aload_nN G dX6_warn_23 rfl ?_ | refine g_aload_nQ G dX6_warn_23 rfl ?_
    refine g_iconst (v := nI 0) G dX6_warn_24 (by decide) ?_
    first | refine g_aload_n G dX6_warn_25 rfl ?_ | refine g_aload_nN G dX6_warn_25 rfl ?_ | refine g_aload_nQ G dX6_warn_25 rfl ?_
    refine g_getI G fl_X6_24 (p1) (by first | decide | omega) rfl ((u3_p _ _ (by omega)).trans ((u3_p _ _ (by omega)).trans p4)) dX6_warn_26 ?_
    refine g_iconst (v := nI 1) G dX6_warn_29 (by decide) ?_
    refine g_isub G dX6_warn_30 (rfl) ?_
    refine g_mmax G ml_X6_50 (by decide) (by omega) (by omega) (Nat.le_of_ble_eq_true rfl) (rfl) dX6_warn_31 ?_
    refine g_putI G fl_X6_24 pu_7_2 (p1) (by first | decide | omega) rfl dX6_warn_34 ?_
    exact g_vret G F (⟨rfl, by first | rw [if_pos c_15] | rw [if_neg c_15]⟩) (by omega) (by omega) dX6_warn_37
