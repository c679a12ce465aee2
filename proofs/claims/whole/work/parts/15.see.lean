/-! ===== leaves of the class: who sees what; each object has a kind of its own (its number in it) ===== -/
def gB (b : Bool) : Int32 := if b then nI 1 else nI 0
theorem gB_ok (b : Bool) : okZ (.int (gB b)) := by cases b <;> first | exact Or.inl rfl | exact Or.inr rfl
def gBit (x : Int32) (j : Nat) : Bool := decide ((x >>> (nI j &&& 31)) &&& nI 1 = nI 1)
def gReach (role cl : Int32) (at_ : Bool) : Int32 := if role = nI 1 then nI 9 else (if (if at_ then cl + nI 2 else cl) < nI 9 then (if at_ then cl + nI 2 else cl) else nI 9)
def gInto (sea r : Int32) : Int32 := if sea ≤ r then r else -1
theorem gB_ne0 {b : Bool} : ¬ gB b = 0 ↔ b = true := by cases b <;> decide
theorem gB_eq0 {b : Bool} : gB b = 0 ↔ b = false := by cases b <;> decide
def gCase (S : gS) (c j : Nat) (sea : Int32) : Prop := gK S c = 2 + 32 * j ∧ gX S (2 + 32 * j) 0 c = nI j ∧ gX S (2 + 32 * j) 1 c = sea
def gPers (S : gS) (p i : Nat) (role cl att wrn : Int32) : Prop := gK S p = 8 + 32 * i ∧ gX S (8 + 32 * i) 0 p = nI i ∧ gX S (8 + 32 * i) 1 p = role ∧ gX S (8 + 32 * i) 2 p = cl ∧ gX S (8 + 32 * i) 3 p = att ∧ gX S (8 + 32 * i) 4 p = wrn

set_option maxHeartbeats 4000000 in
set_option maxRecDepth 100000 in
theorem c_X6_isAttachedTo (d0 : Nat × Nat) (S : gS) (p i c j : Nat) (role cl att wrn sea : Int32) (hp : gPers S p i role cl att wrn) (hc : gCase S c j sea) : gCt d0 yX6_isAttachedTo cX6_isAttachedTo 2 (some .boolean) 0 0 0 [.ref p, .ref c] S (gRet (.int (gB (gBit att j))) S) gNo := by
  refine gCt_of (lo := [some (.ref p), some (.ref c)]) (by decide +kernel) (Nat.le_of_ble_eq_true rfl) rfl ?_
  intro Γ hd G F hini
  obtain ⟨p1, p2, p3, p4, p5, p6⟩ := id hp
  obtain ⟨c1, c2, c3⟩ := id hc
  first | refine g_aload_n G dX6_isAttachedTo_0 rfl ?_ | refine g_aload_nN G dX6_isAttachedTo_0 rfl ?_ | refine g_aload_nQ G dX6_isAttachedTo_0 rfl ?_
  refine g_getI G fl_X6_9 (by assumption) (by first | decide | omega) rfl (by first | assumption | rfl) dX6_isAttachedTo_1 ?_
  first | refine g_aload_n G dX6_isAttachedTo_4 rfl ?_ | refine g_aload_nN G dX6_isAttachedTo_4 rfl ?_ | refine g_aload_nQ G dX6_isAttachedTo_4 rfl ?_
  refine g_getI G fl_X6_27 (by assumption) (by first | decide | omega) rfl (by first | assumption | rfl) dX6_isAttachedTo_5 ?_
  refine g_ishr G dX6_isAttachedTo_8 (rfl) ?_
  refine g_iconst (v := nI 1) G dX6_isAttachedTo_9 (by decide) ?_
  refine g_iand G dX6_isAttachedTo_10 (rfl) ?_
  refine g_iconst (v := nI 1) G dX6_isAttachedTo_11 (by decide) ?_
  refine g_icmp_ne (tgt := 19) G dX6_isAttachedTo_12 (by decide) (fun c_12 => ?_) (fun c_12 => ?_)
  · have e9 : gBit att j = false := decide_eq_false c_12
    refine g_iconst (v := nI 0) G dX6_isAttachedTo_19 (by decide) ?_
    exact g_zret G F (by first | exact Or.inl rfl | exact Or.inr rfl | assumption) (gRi (by rw [e9]; rfl)) (by omega) (by omega) dX6_isAttachedTo_20
  · have e9 : gBit att j = true := decide_eq_true c_12
    refine g_iconst (v := nI 1) G dX6_isAttachedTo_15 (by decide) ?_
    refine g_goto (tgt := 20) G dX6_isAttachedTo_16 (by decide) ?_
    exact g_zret G F (by first | exact Or.inl rfl | exact Or.inr rfl | assumption) (gRi (by rw [e9]; rfl)) (by omega) (by omega) dX6_isAttachedTo_20

set_option maxHeartbeats 4000000 in
set_option maxRecDepth 100000 in
theorem c_X6_reachWith (d0 : Nat × Nat) (S : gS) (w : Int32) (p i c j : Nat) (role cl att wrn sea : Int32) (hp : gPers S p i role cl att wrn) (hc : gCase S c j sea) : gCt d0 yX6_reachWith cX6_reachWith 3 (some .int) 1 0 0 [.ref p, .int w, .ref c] S (gRet (.int (gReach role w (gBit att j))) S) gNo := by
  refine gCt_of (lo := [some (.ref p), some (.int w), some (.ref c)]) (by decide +kernel) (Nat.le_of_ble_eq_true rfl) rfl ?_
  intro Γ hd G F hini
  obtain ⟨p1, p2, p3, p4, p5, p6⟩ := id hp
  obtain ⟨c1, c2, c3⟩ := id hc
  first | refine g_aload_n G dX6_reachWith_0 rfl ?_ | refine g_aload_nN G dX6_reachWith_0 rfl ?_ | refine g_aload_nQ G dX6_reachWith_0 rfl ?_
  refine g_getI G fl_X6_21 (by assumption) (by first | decide | omega) rfl (by first | assumption | rfl) dX6_reachWith_1 ?_
  refine g_iconst (v := nI 1) G dX6_reachWith_4 (by decide) ?_
  refine g_icmp_ne (tgt := 11) G dX6_reachWith_5 (by decide) (fun c_5 => ?_) (fun c_5 => ?_)
  · refine g_bipush (v := nI 9) G dX6_reachWith_11 (by decide) ?_
    first | refine g_aload_n G dX6_reachWith_13 rfl ?_ | refine g_aload_nN G dX6_reachWith_13 rfl ?_ | refine g_aload_nQ G dX6_reachWith_13 rfl ?_
    first | refine g_aload_n G dX6_reachWith_14 rfl ?_ | refine g_aload_nN G dX6_reachWith_14 rfl ?_ | refine g_aload_nQ G dX6_reachWith_14 rfl ?_
    refine g_callVp (ci := 7) G (c_X6_isAttachedTo _ S p i c j role cl att wrn sea hp hc) mt_X6_isAttachedTo mi_X6_isAttachedTo ml_X6_38 (by assumption) (by first | decide | omega) rfl (by decide) (by omega) (by omega) rfl (Nat.le_of_ble_eq_true rfl) dX6_reachWith_15 ?_
    refine g_if_eq (tgt := 27) G dX6_reachWith_18 (by decide) (fun c_18 => ?_) (fun c_18 => ?_)
    · have e2 := gB_eq0.mp c_18
      refine g_iload_n G dX6_reachWith_27 rfl ?_
      refine g_mmin G ml_X6_41 (by decide) (by omega) (by omega) (Nat.le_of_ble_eq_true rfl) (rfl) dX6_reachWith_28 ?_
      exact g_iret G F (gRi (by rw [gReach, if_neg c_5, e2]; rfl)) (by omega) (by omega) dX6_reachWith_31
    · have e2 := gB_ne0.mp c_18
      refine g_iload_n G dX6_reachWith_21 rfl ?_
      refine g_iconst (v := nI 2) G dX6_reachWith_22 (by decide) ?_
      refine g_iadd G dX6_reachWith_23 (rfl) ?_
      refine g_goto (tgt := 28) G dX6_reachWith_24 (by decide) ?_
      refine g_mmin G ml_X6_41 (by decide) (by omega) (by omega) (Nat.le_of_ble_eq_true rfl) (rfl) dX6_reachWith_28 ?_
      exact g_iret G F (gRi (by rw [gReach, if_neg c_5, e2]; rfl)) (by omega) (by omega) dX6_reachWith_31
  · refine g_bipush (v := nI 9) G dX6_reachWith_8 (by decide) ?_
    exact g_iret G F (gRi (by rw [gReach, if_pos c_5])) (by omega) (by omega) dX6_reachWith_10

set_option maxHeartbeats 4000000 in
set_option maxRecDepth 100000 in
theorem c_X6_canSeeInto (d0 : Nat × Nat) (S : gS) (p i c j : Nat) (role cl att wrn sea : Int32) (hp : gPers S p i role cl att wrn) (hc : gCase S c j sea) : gCt d0 yX6_canSeeInto cX6_canSeeInto 2 (some .boolean) 2 0 0 [.ref p, .ref c] S (gRet (.int (gB (decide (sea ≤ gReach role cl (gBit att j))))) S) gNo := by
  refine gCt_of (lo := [some (.ref p), some (.ref c)]) (by decide +kernel) (Nat.le_of_ble_eq_true rfl) rfl ?_
  intro Γ hd G F hini
  obtain ⟨p1, p2, p3, p4, p5, p6⟩ := id hp
  obtain ⟨c1, c2, c3⟩ := id hc
  first | refine g_aload_n G dX6_canSeeInto_0 rfl ?_ | refine g_aload_nN G dX6_canSeeInto_0 rfl ?_ | refine g_aload_nQ G dX6_canSeeInto_0 rfl ?_
  refine g_getI G fl_X6_47 (by assumption) (by first | decide | omega) rfl (by first | assumption | rfl) dX6_canSeeInto_1 ?_
  first | refine g_aload_n G dX6_canSeeInto_4 rfl ?_ | refine g_aload_nN G dX6_canSeeInto_4 rfl ?_ | refine g_aload_nQ G dX6_canSeeInto_4 rfl ?_
  first | refine g_aload_n G dX6_canSeeInto_5 rfl ?_ | refine g_aload_nN G dX6_canSeeInto_5 rfl ?_ | refine g_aload_nQ G dX6_canSeeInto_5 rfl ?_
  refine g_getI G fl_X6_24 (by assumption) (by first | decide | omega) rfl (by first | assumption | rfl) dX6_canSeeInto_6 ?_
  first | refine g_aload_n G dX6_canSeeInto_9 rfl ?_ | refine g_aload_nN G dX6_canSeeInto_9 rfl ?_ | refine g_aload_nQ G dX6_canSeeInto_9 rfl ?_
  refine g_callVp (ci := 7) G (c_X6_reachWith _ S cl p i c j role cl att wrn sea hp hc) mt_X6_reachWith mi_X6_reachWith ml_X6_34 (by assumption) (by first | decide | omega) rfl (by decide) (by omega) (by omega) rfl (Nat.le_of_ble_eq_true rfl) dX6_canSeeInto_10 ?_
  refine g_icmp_gt (tgt := 20) G dX6_canSeeInto_13 (by decide) (fun c_13 => ?_) (fun c_13 => ?_)
  · have e9 := decide_eq_false (Int32.not_le.mpr c_13)
    refine g_iconst (v := nI 0) G dX6_canSeeInto_20 (by decide) ?_
    exact g_zret G F (by first | exact Or.inl rfl | exact Or.inr rfl | assumption) (gRi (by rw [e9]; rfl)) (by omega) (by omega) dX6_canSeeInto_21
  · have e9 := decide_eq_true (Int32.not_lt.mp c_13)
    refine g_iconst (v := nI 1) G dX6_canSeeInto_16 (by decide) ?_
    refine g_goto (tgt := 21) G dX6_canSeeInto_17 (by decide) ?_
    exact g_zret G F (by first | exact Or.inl rfl | exact Or.inr rfl | assumption) (gRi (by rw [e9]; rfl)) (by omega) (by omega) dX6_canSeeInto_21

set_option maxHeartbeats 4000000 in
set_option maxRecDepth 100000 in
theorem c_X6_reachInto (d0 : Nat × Nat) (S : gS) (p i c j : Nat) (role cl att wrn sea : Int32) (hp : gPers S p i role cl att wrn) (hc : gCase S c j sea) : gCt d0 yX6_reachInto cX6_reachInto 2 (some .int) 3 0 0 [.ref p, .ref c] S (gRet (.int (gInto sea (gReach role cl (gBit att j)))) S) gNo := by
  refine gCt_of (lo := [some (.ref p), some (.ref c)]) (by decide +kernel) (Nat.le_of_ble_eq_true rfl) rfl ?_
  intro Γ hd G F hini
  obtain ⟨p1, p2, p3, p4, p5, p6⟩ := id hp
  obtain ⟨c1, c2, c3⟩ := id hc
  first | refine g_aload_n G dX6_reachInto_0 rfl ?_ | refine g_aload_nN G dX6_reachInto_0 rfl ?_ | refine g_aload_nQ G dX6_reachInto_0 rfl ?_
  first | refine g_aload_n G dX6_reachInto_1 rfl ?_ | refine g_aload_nN G dX6_reachInto_1 rfl ?_ | refine g_aload_nQ G dX6_reachInto_1 rfl ?_
  refine g_callVp (ci := 7) G (c_X6_canSeeInto _ S p i c j role cl att wrn sea hp hc) mt_X6_canSeeInto mi_X6_canSeeInto ml_X6_30 (by assumption) (by first | decide | omega) rfl (by decide) (by omega) (by omega) rfl (Nat.le_of_ble_eq_true rfl) dX6_reachInto_2 ?_
  refine g_if_eq (tgt := 20) G dX6_reachInto_5 (by decide) (fun c_5 => ?_) (fun c_5 => ?_)
  · have e9 := of_decide_eq_false (gB_eq0.mp c_5)
    refine g_iconst (v := (-1)) G dX6_reachInto_20 (by decide) ?_
    exact g_iret G F (gRi (by first | rw [gInto, if_pos e9] | rw [gInto, if_neg e9])) (by omega) (by omega) dX6_reachInto_21
  · have e9 := of_decide_eq_true (gB_ne0.mp c_5)
    first | refine g_aload_n G dX6_reachInto_8 rfl ?_ | refine g_aload_nN G dX6_reachInto_8 rfl ?_ | refine g_aload_nQ G dX6_reachInto_8 rfl ?_
    first | refine g_aload_n G dX6_reachInto_9 rfl ?_ | refine g_aload_nN G dX6_reachInto_9 rfl ?_ | refine g_aload_nQ G dX6_reachInto_9 rfl ?_
    refine g_getI G fl_X6_24 (by assumption) (by first | decide | omega) rfl (by first | assumption | rfl) dX6_reachInto_10 ?_
    first | refine g_aload_n G dX6_reachInto_13 rfl ?_ | refine g_aload_nN G dX6_reachInto_13 rfl ?_ | refine g_aload_nQ G dX6_reachInto_13 rfl ?_
    refine g_callVp (ci := 7) G (c_X6_reachWith _ S cl p i c j role cl att wrn sea hp hc) mt_X6_reachWith mi_X6_reachWith ml_X6_34 (by assumption) (by first | decide | omega) rfl (by decide) (by omega) (by omega) rfl (Nat.le_of_ble_eq_true rfl) dX6_reachInto_14 ?_
    refine g_goto (tgt := 21) G dX6_reachInto_17 (by decide) ?_
    exact g_iret G F (gRi (by first | rw [gInto, if_pos e9] | rw [gInto, if_neg e9])) (by omega) (by omega) dX6_reachInto_21

set_option maxHeartbeats 4000000 in
set_option maxRecDepth 100000 in
theorem c_X7_isLevel (d0 : Nat × Nat) (S : gS) (x : Int32) : gCt d0 yX7_isLevel cX7_isLevel 1 (some .boolean) 0 0 0 [.int x] S (gRet (.int (gB (decide (0 ≤ x ∧ x ≤ nI 9)))) S) gNo := by
  refine gCt_of (lo := [some (.int x)]) (by decide +kernel) (Nat.le_of_ble_eq_true rfl) rfl ?_
  intro Γ hd G F hini
  refine g_iload_n G dX7_isLevel_0 rfl ?_
  refine g_if_lt (tgt := 14) G dX7_isLevel_1 (by decide) (fun c_1 => ?_) (fun c_1 => ?_)
  · have e9 : ¬ (0 ≤ x ∧ x ≤ nI 9) := fun h => absurd c_1 (Int32.not_lt.mpr h.1)
    refine g_iconst (v := nI 0) G dX7_isLevel_14 (by decide) ?_
    exact g_zret G F (by first | exact Or.inl rfl | exact Or.inr rfl | assumption) (gRi (by first | rw [decide_eq_true e9]; rfl | rw [decide_eq_false e9]; rfl)) (by omega) (by omega) dX7_isLevel_15
  · have e1 := Int32.not_lt.mp c_1
    refine g_iload_n G dX7_isLevel_4 rfl ?_
    refine g_bipush (v := nI 9) G dX7_isLevel_5 (by decide) ?_
    refine g_icmp_gt (tgt := 14) G dX7_isLevel_7 (by decide) (fun c_7 => ?_) (fun c_7 => ?_)
    · have e9 : ¬ (0 ≤ x ∧ x ≤ nI 9) := fun h => absurd h.2 (Int32.not_le.mpr c_7)
      refine g_iconst (v := nI 0) G dX7_isLevel_14 (by decide) ?_
      exact g_zret G F (by first | exact Or.inl rfl | exact Or.inr rfl | assumption) (gRi (by first | rw [decide_eq_true e9]; rfl | rw [decide_eq_false e9]; rfl)) (by omega) (by omega) dX7_isLevel_15
    · have e9 : 0 ≤ x ∧ x ≤ nI 9 := ⟨e1, Int32.not_lt.mp c_7⟩
      refine g_iconst (v := nI 1) G dX7_isLevel_10 (by decide) ?_
      refine g_goto (tgt := 15) G dX7_isLevel_11 (by decide) ?_
      exact g_zret G F (by first | exact Or.inl rfl | exact Or.inr rfl | assumption) (gRi (by first | rw [decide_eq_true e9]; rfl | rw [decide_eq_false e9]; rfl)) (by omega) (by omega) dX7_isLevel_15
