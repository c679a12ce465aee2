/-! ===== the reference: small askers ===== -/
theorem gRest.tlt {S : gS} {y : Nat} {b : Nat → Nat → Nat} {M : gM} (r : gRest S y b M) (f : Nat) (h : 13 ≤ f ∧ f ≤ 15) {d j : Nat} (hd : d < mN M 11) (hj : j < mN M (100 + d)) : j < gL S (b f d) := by rw [r.TL f h hd]; exact hj
theorem gIx_dec {n : Nat} {c : Int32} (hn : n ≤ 60000) : (0 ≤ c ∧ c ≤ nI n - nI 1) ↔ (¬ c < 0 ∧ ¬ nI n ≤ c) := by
  by_cases z : n = 0
  · subst z
    simp only [Int32.le_iff_toInt_le, Int32.lt_iff_toInt_lt, show (nI 0 - nI 1).toInt = -1 by decide, show (nI 0).toInt = 0 by decide, show (0 : Int32).toInt = 0 by decide]
    omega
  · rw [pk_sub (by omega)]
    simp only [Int32.le_iff_toInt_le, Int32.lt_iff_toInt_lt, nI_toInt (show n < 2 ^ 31 by omega), nI_toInt (show n - 1 < 2 ^ 31 by omega), show (0 : Int32).toInt = 0 by decide]
    omega
abbrev gIxB (n : Nat) (c : Int32) : Bool := decide (¬ c < 0 ∧ ¬ nI n ≤ c)
theorem gIxB_dec {n : Nat} {c : Int32} (hn : n ≤ 60000) : decide (0 ≤ c ∧ c ≤ nI n - nI 1) = gIxB n c := decide_eq_decide.mpr (gIx_dec hn)
theorem gIxB_y {n : Nat} {c : Int32} (h : gB (gIxB n c) ≠ 0) : gIx n c := of_decide_eq_true (p := ¬ c < 0 ∧ ¬ nI n ≤ c) (gB_ne0.mp h)
theorem gIxB_n {n : Nat} {c : Int32} (h : gB (gIxB n c) = 0) : ¬ gIx n c := of_decide_eq_false (p := ¬ c < 0 ∧ ¬ nI n ≤ c) (gB_eq0.mp h)

set_option maxHeartbeats 4000000 in
set_option maxRecDepth 100000 in
theorem c_X9_thrown (d0 : Nat × Nat) (S : gS) (y : Nat) (w : Int32) (h : gK S y = 11) (hw : gX S 11 0 y = w) : gCt d0 yX9_thrown cX9_thrown 1 (some .int) 0 0 0 [.ref y] S (gRet (.int w) S) gNo := by
  refine gCt_of (lo := [some (.ref y)]) (by decide +kernel) (Nat.le_of_ble_eq_true rfl) (rfl) ?_
  intro Γ hd G F hini
  first | refine g_aload_n G dX9_thrown_0 rfl ?_ | refine g_aload_nN G dX9_thrown_0 rfl ?_ | refine g_aload_nQ G dX9_thrown_0 rfl ?_
  refine g_getI G fl_X9_91 (h) (by first | decide | omega) rfl (hw) dX9_thrown_1 ?_
  exact g_iret G F (⟨rfl, rfl⟩) (by omega) (by omega) dX9_thrown_4

set_option maxHeartbeats 4000000 in
set_option maxRecDepth 100000 in
theorem c_X9_no (d0 : Nat × Nat) (S : gS) (y : Nat) (w : Int32) (h : gK S y = 11) : gCt d0 yX9_no cX9_no 2 (some .int) 0 0 0 [.ref y, .int w] S (fun v' S' => v' = some (.int (nI 0)) ∧ S' = sX S 11 0 y w) gNo := by
  refine gCt_of (lo := [some (.ref y), some (.int w)]) (by decide +kernel) (Nat.le_of_ble_eq_true rfl) (rfl) ?_
  intro Γ hd G F hini
  first | refine g_aload_n G dX9_no_0 rfl ?_ | refine g_aload_nN G dX9_no_0 rfl ?_ | refine g_aload_nQ G dX9_no_0 rfl ?_
  refine g_iload_n G dX9_no_1 rfl ?_
  refine g_putI G fl_X9_91 pu_10_0 (h) (by first | decide | omega) rfl dX9_no_2 ?_
  refine g_iconst (v := nI 0) G dX9_no_5 (by decide) ?_
  exact g_iret G F (⟨rfl, rfl⟩) (by omega) (by omega) dX9_no_6

set_option maxHeartbeats 4000000 in
set_option maxRecDepth 100000 in
theorem c_X9_isIn (d0 : Nat × Nat) (S : gS) (v l u : Int32) : gCt d0 yX9_isIn cX9_isIn 3 (some .boolean) 0 0 0 [.int v, .int l, .int u] S (gRet (.int (gB (decide (l ≤ v ∧ v ≤ u)))) S) gNo := by
  refine gCt_of (lo := [some (.int v), some (.int l), some (.int u)]) (by decide +kernel) (Nat.le_of_ble_eq_true rfl) (rfl) ?_
  intro Γ hd G F hini
  refine g_iload_n G dX9_isIn_0 rfl ?_
  refine g_iload_n G dX9_isIn_1 rfl ?_
  refine g_icmp_lt (tgt := 14) G dX9_isIn_2 (by decide) (fun c_2 => ?_) (fun c_2 => ?_)
  · have e9 : decide (l ≤ v ∧ v ≤ u) = false := decide_eq_false (fun z => absurd z.1 (Int32.not_le.mpr c_2))
    refine g_iconst (v := nI 0) G dX9_isIn_14 (by decide) ?_
    exact g_zret G F (by first | exact Or.inl rfl | exact Or.inr rfl | assumption) (⟨by rw [e9]; rfl, rfl⟩) (by omega) (by omega) dX9_isIn_15
  · refine g_iload_n G dX9_isIn_5 rfl ?_
    refine g_iload_n G dX9_isIn_6 rfl ?_
    refine g_icmp_gt (tgt := 14) G dX9_isIn_7 (by decide) (fun c_7 => ?_) (fun c_7 => ?_)
    · have e9 : decide (l ≤ v ∧ v ≤ u) = false := decide_eq_false (fun z => absurd z.2 (Int32.not_le.mpr c_7))
      refine g_iconst (v := nI 0) G dX9_isIn_14 (by decide) ?_
      exact g_zret G F (by first | exact Or.inl rfl | exact Or.inr rfl | assumption) (⟨by rw [e9]; rfl, rfl⟩) (by omega) (by omega) dX9_isIn_15
    · have e9 : decide (l ≤ v ∧ v ≤ u) = true := decide_eq_true ⟨Int32.not_lt.mp c_2, Int32.not_lt.mp c_7⟩
      refine g_iconst (v := nI 1) G dX9_isIn_10 (by decide) ?_
      refine g_goto (tgt := 15) G dX9_isIn_11 (by decide) ?_
      exact g_zret G F (by first | exact Or.inl rfl | exact Or.inr rfl | assumption) (⟨by rw [e9]; rfl, rfl⟩) (by omega) (by omega) dX9_isIn_15

set_option maxHeartbeats 4000000 in
set_option maxRecDepth 100000 in
theorem c_X9_isCase (d0 : Nat × Nat) (S : gS) (y : Nat) (b : Nat → Nat → Nat) (M : gM) (r : gRest S y b M) (i : gInv M) (c : Int32) : gCt d0 yX9_isCase cX9_isCase 2 (some .boolean) 1 0 0 [.ref y, .int c] S (gRet (.int (gB (gIxB (mN M 6) c))) S) gNo := by
  refine gCt_of (lo := [some (.ref y), some (.int c)]) (by decide +kernel) (Nat.le_of_ble_eq_true rfl) (rfl) ?_
  intro Γ hd G F hini
  obtain ⟨i6, i8, i11, i17, i23, i2, i5⟩ := i.b
  refine g_iload_n G dX9_isCase_0 rfl ?_
  refine g_iconst (v := nI 0) G dX9_isCase_1 (by decide) ?_
  first | refine g_aload_n G dX9_isCase_2 rfl ?_ | refine g_aload_nN G dX9_isCase_2 rfl ?_ | refine g_aload_nQ G dX9_isCase_2 rfl ?_
  refine g_getI G fl_X9_94 (r.kd) (by first | decide | omega) rfl (r.n 6 rfl) dX9_isCase_3 ?_
  refine g_iconst (v := nI 1) G dX9_isCase_6 (by decide) ?_
  refine g_isub G dX9_isCase_7 (rfl) ?_
  refine g_callSp G (c_X9_isIn _ _ _ _ _) mt_X9_isIn ms_X9_isIn ml_X9_97 (by decide) (by omega) (by omega) rfl (Nat.le_of_ble_eq_true rfl) dX9_isCase_8 ?_
  exact g_zret G F (gB_01 _) (⟨by rw [← gIxB_dec (by omega)]; rfl, rfl⟩) (by omega) (by omega) dX9_isCase_11

set_option maxHeartbeats 4000000 in
set_option maxRecDepth 100000 in
theorem c_X9_isPerson (d0 : Nat × Nat) (S : gS) (y : Nat) (b : Nat → Nat → Nat) (M : gM) (r : gRest S y b M) (i : gInv M) (c : Int32) : gCt d0 yX9_isPerson cX9_isPerson 2 (some .boolean) 1 0 0 [.ref y, .int c] S (gRet (.int (gB (gIxB (mN M 8) c))) S) gNo := by
  refine gCt_of (lo := [some (.ref y), some (.int c)]) (by decide +kernel) (Nat.le_of_ble_eq_true rfl) (rfl) ?_
  intro Γ hd G F hini
  obtain ⟨i6, i8, i11, i17, i23, i2, i5⟩ := i.b
  refine g_iload_n G dX9_isPerson_0 rfl ?_
  refine g_iconst (v := nI 0) G dX9_isPerson_1 (by decide) ?_
  first | refine g_aload_n G dX9_isPerson_2 rfl ?_ | refine g_aload_nN G dX9_isPerson_2 rfl ?_ | refine g_aload_nQ G dX9_isPerson_2 rfl ?_
  refine g_getI G fl_X9_101 (r.kd) (by first | decide | omega) rfl (r.n 8 rfl) dX9_isPerson_3 ?_
  refine g_iconst (v := nI 1) G dX9_isPerson_6 (by decide) ?_
  refine g_isub G dX9_isPerson_7 (rfl) ?_
  refine g_callSp G (c_X9_isIn _ _ _ _ _) mt_X9_isIn ms_X9_isIn ml_X9_97 (by decide) (by omega) (by omega) rfl (Nat.le_of_ble_eq_true rfl) dX9_isPerson_8 ?_
  exact g_zret G F (gB_01 _) (⟨by rw [← gIxB_dec (by omega)]; rfl, rfl⟩) (by omega) (by omega) dX9_isPerson_11

set_option maxHeartbeats 4000000 in
set_option maxRecDepth 100000 in
theorem c_X9_isDocument (d0 : Nat × Nat) (S : gS) (y : Nat) (b : Nat → Nat → Nat) (M : gM) (r : gRest S y b M) (i : gInv M) (c : Int32) : gCt d0 yX9_isDocument cX9_isDocument 2 (some .boolean) 1 0 0 [.ref y, .int c] S (gRet (.int (gB (gIxB (mN M 11) c))) S) gNo := by
  refine gCt_of (lo := [some (.ref y), some (.int c)]) (by decide +kernel) (Nat.le_of_ble_eq_true rfl) (rfl) ?_
  intro Γ hd G F hini
  obtain ⟨i6, i8, i11, i17, i23, i2, i5⟩ := i.b
  refine g_iload_n G dX9_isDocument_0 rfl ?_
  refine g_iconst (v := nI 0) G dX9_isDocument_1 (by decide) ?_
  first | refine g_aload_n G dX9_isDocument_2 rfl ?_ | refine g_aload_nN G dX9_isDocument_2 rfl ?_ | refine g_aload_nQ G dX9_isDocument_2 rfl ?_
  refine g_getI G fl_X9_104 (r.kd) (by first | decide | omega) rfl (r.n 11 rfl) dX9_isDocument_3 ?_
  refine g_iconst (v := nI 1) G dX9_isDocument_6 (by decide) ?_
  refine g_isub G dX9_isDocument_7 (rfl) ?_
  refine g_callSp G (c_X9_isIn _ _ _ _ _) mt_X9_isIn ms_X9_isIn ml_X9_97 (by decide) (by omega) (by omega) rfl (Nat.le_of_ble_eq_true rfl) dX9_isDocument_8 ?_
  exact g_zret G F (gB_01 _) (⟨by rw [← gIxB_dec (by omega)]; rfl, rfl⟩) (by omega) (by omega) dX9_isDocument_11

set_option maxHeartbeats 4000000 in
set_option maxRecDepth 100000 in
theorem c_X9_isExhibit (d0 : Nat × Nat) (S : gS) (y : Nat) (b : Nat → Nat → Nat) (M : gM) (r : gRest S y b M) (i : gInv M) (c : Int32) : gCt d0 yX9_isExhibit cX9_isExhibit 2 (some .boolean) 1 0 0 [.ref y, .int c] S (gRet (.int (gB (gIxB (mN M 17) c))) S) gNo := by
  refine gCt_of (lo := [some (.ref y), some (.int c)]) (by decide +kernel) (Nat.le_of_ble_eq_true rfl) (rfl) ?_
  intro Γ hd G F hini
  obtain ⟨i6, i8, i11, i17, i23, i2, i5⟩ := i.b
  refine g_iload_n G dX9_isExhibit_0 rfl ?_
  refine g_iconst (v := nI 0) G dX9_isExhibit_1 (by decide) ?_
  first | refine g_aload_n G dX9_isExhibit_2 rfl ?_ | refine g_aload_nN G dX9_isExhibit_2 rfl ?_ | refine g_aload_nQ G dX9_isExhibit_2 rfl ?_
  refine g_getI G fl_X9_107 (r.kd) (by first | decide | omega) rfl (r.n 17 rfl) dX9_isExhibit_3 ?_
  refine g_iconst (v := nI 1) G dX9_isExhibit_6 (by decide) ?_
  refine g_isub G dX9_isExhibit_7 (rfl) ?_
  refine g_callSp G (c_X9_isIn _ _ _ _ _) mt_X9_isIn ms_X9_isIn ml_X9_97 (by decide) (by omega) (by omega) rfl (Nat.le_of_ble_eq_true rfl) dX9_isExhibit_8 ?_
  exact g_zret G F (gB_01 _) (⟨by rw [← gIxB_dec (by omega)]; rfl, rfl⟩) (by omega) (by omega) dX9_isExhibit_11

set_option maxHeartbeats 4000000 in
set_option maxRecDepth 100000 in
theorem c_X9_isPair (d0 : Nat × Nat) (S : gS) (y : Nat) (b : Nat → Nat → Nat) (M : gM) (r : gRest S y b M) (i : gInv M) (p d : Int32) : gCt d0 yX9_isPair cX9_isPair 3 (some .boolean) 2 0 0 [.ref y, .int p, .int d] S (gRet (.int (gB (gIxB (mN M 8) p && gIxB (mN M 11) d))) S) gNo := by
  refine gCt_of (lo := [some (.ref y), some (.int p), some (.int d)]) (by decide +kernel) (Nat.le_of_ble_eq_true rfl) (rfl) ?_
  intro Γ hd G F hini
  first | refine g_aload_n G dX9_isPair_0 rfl ?_ | refine g_aload_nN G dX9_isPair_0 rfl ?_ | refine g_aload_nQ G dX9_isPair_0 rfl ?_
  refine g_iload_n G dX9_isPair_1 rfl ?_
  refine g_callVp (ci := 10) G (c_X9_isPerson _ _ _ _ _ r i _) mt_X9_isPerson mi_X9_isPerson ml_X9_176 (r.kd) (by first | decide | omega) rfl (by decide) (by omega) (by omega) rfl (Nat.le_of_ble_eq_true rfl) dX9_isPair_2 ?_
  refine g_if_eq (tgt := 20) G dX9_isPair_5 (by decide) (fun c_5 => ?_) (fun c_5 => ?_)
  · have e9 : (gIxB (mN M 8) p && gIxB (mN M 11) d) = false := by rw [gB_eq0.mp c_5]; rfl
    refine g_iconst (v := nI 0) G dX9_isPair_20 (by decide) ?_
    exact g_zret G F (by first | exact Or.inl rfl | exact Or.inr rfl | assumption) (⟨by rw [e9]; rfl, rfl⟩) (by omega) (by omega) dX9_isPair_21
  · have e8 : gIxB (mN M 8) p = true := gB_ne0.mp c_5
    first | refine g_aload_n G dX9_isPair_8 rfl ?_ | refine g_aload_nN G dX9_isPair_8 rfl ?_ | refine g_aload_nQ G dX9_isPair_8 rfl ?_
    refine g_iload_n G dX9_isPair_9 rfl ?_
    refine g_callVp (ci := 10) G (c_X9_isDocument _ _ _ _ _ r i _) mt_X9_isDocument mi_X9_isDocument ml_X9_164 (r.kd) (by first | decide | omega) rfl (by decide) (by omega) (by omega) rfl (Nat.le_of_ble_eq_true rfl) dX9_isPair_10 ?_
    refine g_if_eq (tgt := 20) G dX9_isPair_13 (by decide) (fun c_13 => ?_) (fun c_13 => ?_)
    · have e9 : (gIxB (mN M 8) p && gIxB (mN M 11) d) = false := by rw [gB_eq0.mp c_13, Bool.and_false]
      refine g_iconst (v := nI 0) G dX9_isPair_20 (by decide) ?_
      exact g_zret G F (by first | exact Or.inl rfl | exact Or.inr rfl | assumption) (⟨by rw [e9]; rfl, rfl⟩) (by omega) (by omega) dX9_isPair_21
    · have e9 : (gIxB (mN M 8) p && gIxB (mN M 11) d) = true := by rw [e8, gB_ne0.mp c_13]; rfl
      refine g_iconst (v := nI 1) G dX9_isPair_16 (by decide) ?_
      refine g_goto (tgt := 21) G dX9_isPair_17 (by decide) ?_
      exact g_zret G F (by first | exact Or.inl rfl | exact Or.inr rfl | assumption) (⟨by rw [e9]; rfl, rfl⟩) (by omega) (by omega) dX9_isPair_21

set_option maxHeartbeats 4000000 in
set_option maxRecDepth 100000 in
theorem c_X8_reach (d0 : Nat × Nat) (S : gS) (y s ρ : Nat) (b : Nat → Nat → Nat) (M : gM) (r : gRest S y b M) (q : gStt S s ρ b y M) (i : gInv M) (p c : Nat) (hp : p < mN M 8) (hc : c < mN M 6) : gCt d0 yX8_reach cX8_reach 3 (some .int) 1 0 0 [.ref s, .int (nI p), .int (nI c)] S (gRet (.int (gReachOf M p c)) S) gNo := by
  refine gCt_of (lo := [some (.ref s), some (.int (nI p)), some (.int (nI c))]) (by decide +kernel) (Nat.le_of_ble_eq_true rfl) (rfl) ?_
  intro Γ hd G F hini
  obtain ⟨i6, i8, i11, i17, i23, i2, i5⟩ := i.b
  first | refine g_aload_n G dX8_reach_0 rfl ?_ | refine g_aload_nN G dX8_reach_0 rfl ?_ | refine g_aload_nQ G dX8_reach_0 rfl ?_
  refine g_getR G fl_X8_3 (q.kd) (by first | decide | omega) rfl (q.md) dX8_reach_1 ?_
  refine g_getRN G fl_X8_51 (r.kd) (by first | decide | omega) rfl (r.Y 9 rfl) dX8_reach_4 ?_
  refine g_iload_n G dX8_reach_7 rfl ?_
  refine g_iald G (r.A 9 rfl) (by first | decide | omega) (r.lt 9 11 rfl (by omega)) (by omega) (r.X 9 11 rfl rfl (by omega)) dX8_reach_8 ?_
  refine g_iconst (v := nI 1) G dX8_reach_9 (by decide) ?_
  refine g_icmp_ne (tgt := 16) G dX8_reach_10 (by decide) (fun c_10 => ?_) (fun c_10 => ?_)
  · have e1 : ¬ mA M 9 p = nI 1 := c_10
    refine g_bipush (v := nI 9) G dX8_reach_16 (by decide) ?_
    first | refine g_aload_n G dX8_reach_18 rfl ?_ | refine g_aload_nN G dX8_reach_18 rfl ?_ | refine g_aload_nQ G dX8_reach_18 rfl ?_
    refine g_getR G fl_X8_15 (q.kd) (by first | decide | omega) rfl (q.Y 1 rfl) dX8_reach_19 ?_
    refine g_iload_n G dX8_reach_22 rfl ?_
    refine g_iald G (q.A 1 rfl) (by first | decide | omega) (q.lt 1 11 rfl (by omega)) (by omega) (q.X 1 11 rfl (by omega)) dX8_reach_23 ?_
    first | refine g_aload_n G dX8_reach_24 rfl ?_ | refine g_aload_nN G dX8_reach_24 rfl ?_ | refine g_aload_nQ G dX8_reach_24 rfl ?_
    refine g_getR G fl_X8_3 (q.kd) (by first | decide | omega) rfl (q.md) dX8_reach_25 ?_
    refine g_getRN G fl_X8_54 (r.kd) (by first | decide | omega) rfl (r.Y 10 rfl) dX8_reach_28 ?_
    refine g_iload_n G dX8_reach_31 rfl ?_
    refine g_iald G (r.A 10 rfl) (by first | decide | omega) (r.lt 10 11 rfl (by omega)) (by omega) (r.X 10 11 rfl rfl (by omega)) dX8_reach_32 ?_
    refine g_iload_n G dX8_reach_33 rfl ?_
    refine g_ishr G dX8_reach_34 (rfl) ?_
    refine g_iconst (v := nI 1) G dX8_reach_35 (by decide) ?_
    refine g_iand G dX8_reach_36 (rfl) ?_
    refine g_iconst (v := nI 1) G dX8_reach_37 (by decide) ?_
    refine g_icmp_ne (tgt := 45) G dX8_reach_38 (by decide) (fun c_38 => ?_) (fun c_38 => ?_)
    · have e2 : gBit (mA M 10 p) c = false := decide_eq_false c_38
      refine g_iconst (v := nI 0) G dX8_reach_45 (by decide) ?_
      refine g_iadd G dX8_reach_46 (rfl) ?_
      refine g_mmin G ml_X8_57 (by decide) (by omega) (by omega) (Nat.le_of_ble_eq_true rfl) (rfl) dX8_reach_47 ?_
      exact g_iret G F (⟨by rw [show gReachOf M p c = _ from if_neg e1, e2]; first | rfl | (rw [show ∀ v : Int32, v + nI 0 = v from fun v => Int32.add_zero v]; rfl), rfl⟩) (by omega) (by omega) dX8_reach_50
    · have e2 : gBit (mA M 10 p) c = true := decide_eq_true c_38
      refine g_iconst (v := nI 2) G dX8_reach_41 (by decide) ?_
      refine g_goto (tgt := 46) G dX8_reach_42 (by decide) ?_
      refine g_iadd G dX8_reach_46 (rfl) ?_
      refine g_mmin G ml_X8_57 (by decide) (by omega) (by omega) (Nat.le_of_ble_eq_true rfl) (rfl) dX8_reach_47 ?_
      exact g_iret G F (⟨by rw [show gReachOf M p c = _ from if_neg e1, e2]; first | rfl | (rw [show ∀ v : Int32, v + nI 0 = v from fun v => Int32.add_zero v]; rfl), rfl⟩) (by omega) (by omega) dX8_reach_50
  · have e1 : mA M 9 p = nI 1 := c_10
    refine g_bipush (v := nI 9) G dX8_reach_13 (by decide) ?_
    exact g_iret G F (⟨by rw [show gReachOf M p c = nI 9 from if_pos e1], rfl⟩) (by omega) (by omega) dX8_reach_15

set_option maxHeartbeats 4000000 in
set_option maxRecDepth 100000 in
theorem c_X8_isIn (d0 : Nat × Nat) (S : gS) (y s ρ : Nat) (b : Nat → Nat → Nat) (M : gM) (r : gRest S y b M) (q : gStt S s ρ b y M) (i : gInv M) (p c : Nat) (hp : p < mN M 8) (hc : c < mN M 6) : gCt d0 yX8_isIn cX8_isIn 3 (some .boolean) 2 0 0 [.ref s, .int (nI p), .int (nI c)] S (gRet (.int (gB (decide (mA M 7 c ≤ gReachOf M p c)))) S) gNo := by
  refine gCt_of (lo := [some (.ref s), some (.int (nI p)), some (.int (nI c))]) (by decide +kernel) (Nat.le_of_ble_eq_true rfl) (rfl) ?_
  intro Γ hd G F hini
  obtain ⟨i6, i8, i11, i17, i23, i2, i5⟩ := i.b
  first | refine g_aload_n G dX8_isIn_0 rfl ?_ | refine g_aload_nN G dX8_isIn_0 rfl ?_ | refine g_aload_nQ G dX8_isIn_0 rfl ?_
  refine g_getR G fl_X8_3 (q.kd) (by first | decide | omega) rfl (q.md) dX8_isIn_1 ?_
  refine g_getRN G fl_X8_63 (r.kd) (by first | decide | omega) rfl (r.Y 7 rfl) dX8_isIn_4 ?_
  refine g_iload_n G dX8_isIn_7 rfl ?_
  refine g_iald G (r.A 7 rfl) (by first | decide | omega) (r.lt 7 7 rfl (by omega)) (by omega) (r.X 7 7 rfl rfl (by omega)) dX8_isIn_8 ?_
  first | refine g_aload_n G dX8_isIn_9 rfl ?_ | refine g_aload_nN G dX8_isIn_9 rfl ?_ | refine g_aload_nQ G dX8_isIn_9 rfl ?_
  refine g_iload_n G dX8_isIn_10 rfl ?_
  refine g_iload_n G dX8_isIn_11 rfl ?_
  refine g_callVp (ci := 9) G (c_X8_reach _ _ _ _ _ _ _ r q i _ _ (by omega) (by omega)) mt_X8_reach mi_X8_reach ml_X8_66 (q.kd) (by first | decide | omega) rfl (by decide) (by omega) (by omega) rfl (Nat.le_of_ble_eq_true rfl) dX8_isIn_12 ?_
  refine g_icmp_gt (tgt := 22) G dX8_isIn_15 (by decide) (fun c_15 => ?_) (fun c_15 => ?_)
  · have e9 : decide (mA M 7 c ≤ gReachOf M p c) = false := decide_eq_false (Int32.not_le.mpr c_15)
    refine g_iconst (v := nI 0) G dX8_isIn_22 (by decide) ?_
    exact g_zret G F (by first | exact Or.inl rfl | exact Or.inr rfl | assumption) (⟨by rw [e9]; rfl, rfl⟩) (by omega) (by omega) dX8_isIn_23
  · have e9 : decide (mA M 7 c ≤ gReachOf M p c) = true := decide_eq_true (Int32.not_lt.mp c_15)
    refine g_iconst (v := nI 1) G dX8_isIn_18 (by decide) ?_
    refine g_goto (tgt := 23) G dX8_isIn_19 (by decide) ?_
    exact g_zret G F (by first | exact Or.inl rfl | exact Or.inr rfl | assumption) (⟨by rw [e9]; rfl, rfl⟩) (by omega) (by omega) dX8_isIn_23

set_option maxHeartbeats 4000000 in
set_option maxRecDepth 100000 in
theorem c_X9_clerks (d0 : Nat × Nat) (S : gS) (y : Nat) (b : Nat → Nat → Nat) (M : gM) (r : gRest S y b M) (i : gInv M) : gCt d0 yX9_clerks cX9_clerks 3 (some .int) 0 0 0 [.ref y] S (gRet (.int (nI (gClk M))) S) gNo := by
  refine gCt_of (lo := [some (.ref y), none, none]) (by decide +kernel) (Nat.le_of_ble_eq_true rfl) (rfl) ?_
  intro Γ hd G F hini
  obtain ⟨i6, i8, i11, i17, i23, i2, i5⟩ := i.b
  refine g_iconst (v := nI 0) G dX9_clerks_0 (by decide) ?_
  refine g_istore_n G dX9_clerks_1 (gSt_1 (by first | rfl | exact g_c1_rf)) ?_
  refine g_iconst (v := nI 0) G dX9_clerks_2 (by decide) ?_
  refine g_istore_n G dX9_clerks_3 (gSt_2 (by first | rfl | exact g_c1_rf)) ?_
  have loop4 : ∀ f2 t : Nat, t ≤ (mN M 8) → (mN M 8) + 1 ≤ t + f2 → gW Γ 4 [some (.ref y), some (.int (nI (gct (fun k => decide (mA M 9 k = 0)) (t)))), some (.int (nI (t)))] [] S 0 0 := by
    intro f2
    induction f2 with
    | zero => intro t  q1 q2; omega
    | succ f2 ih2 =>
      intro t  ht2 hf2 
      refine g_iload_n G dX9_clerks_4 rfl ?_
      first | refine g_aload_n G dX9_clerks_5 rfl ?_ | refine g_aload_nN G dX9_clerks_5 rfl ?_ | refine g_aload_nQ G dX9_clerks_5 rfl ?_
      refine g_getI G fl_X9_101 (r.kd) (by first | decide | omega) rfl (r.n 8 rfl) dX9_clerks_6 ?_
      refine g_icmp_ge (tgt := 35) G dX9_clerks_9 (by decide) (fun c_9 => ?_) (fun c_9 => ?_)
      · have et : t = (mN M 8) := by have := (nI_leI (by omega) (by omega)).mp c_9; omega
        subst et
        refine g_iload_n G dX9_clerks_35 rfl ?_
        exact g_iret G F (⟨rfl, rfl⟩) (by omega) (by omega) dX9_clerks_36
      · have hlt2 : t < (mN M 8) := by have z : ¬ (mN M 8) ≤ t := fun z => c_9 ((nI_leI (by omega) (by omega)).mpr z); omega
        refine g_iload_n G dX9_clerks_12 rfl ?_
        first | refine g_aload_n G dX9_clerks_13 rfl ?_ | refine g_aload_nN G dX9_clerks_13 rfl ?_ | refine g_aload_nQ G dX9_clerks_13 rfl ?_
        refine g_getR G fl_X9_23 (r.kd) (by first | decide | omega) rfl (r.Y 9 rfl) dX9_clerks_14 ?_
        refine g_iload_n G dX9_clerks_17 rfl ?_
        refine g_iald G (r.A 9 rfl) (by first | decide | omega) (r.lt 9 11 rfl (by omega)) (by omega) (r.X 9 11 rfl rfl (by omega)) dX9_clerks_18 ?_
        refine g_if_ne (tgt := 26) G dX9_clerks_19 (by decide) (fun c_19 => ?_) (fun c_19 => ?_)
        · have e9 := gct_no (p := fun k => decide (mA M 9 k = 0)) (n := t) (decide_eq_false c_19)
          refine g_iconst (v := nI 0) G dX9_clerks_26 (by decide) ?_
          refine g_iadd G dX9_clerks_27 (by first | exact nI_add _ _ | rfl) ?_
          refine g_istore_n G dX9_clerks_28 (gSt_1 (by first | rfl | exact g_c1_rf)) ?_
          refine g_iinc (v := _) G dX9_clerks_29 rfl (by first | exact nI_1 _ | rfl) (gSt_2 (by first | rfl | exact g_c1_rf)) ?_
          refine g_goto (tgt := 4) G dX9_clerks_32 (by decide) ?_
          have h9 := ih2 (t + 1) (by omega) (by omega)
          rw [e9] at h9
          exact h9
        · have e9 := gct_yes (p := fun k => decide (mA M 9 k = 0)) (n := t) (decide_eq_true c_19)
          refine g_iconst (v := nI 1) G dX9_clerks_22 (by decide) ?_
          refine g_goto (tgt := 27) G dX9_clerks_23 (by decide) ?_
          refine g_iadd G dX9_clerks_27 (by first | exact nI_add _ _ | rfl) ?_
          refine g_istore_n G dX9_clerks_28 (gSt_1 (by first | rfl | exact g_c1_rf)) ?_
          refine g_iinc (v := _) G dX9_clerks_29 rfl (by first | exact nI_1 _ | rfl) (gSt_2 (by first | rfl | exact g_c1_rf)) ?_
          refine g_goto (tgt := 4) G dX9_clerks_32 (by decide) ?_
          have h9 := ih2 (t + 1) (by omega) (by omega)
          rw [e9] at h9
          exact h9
  exact loop4 ((mN M 8) + 1) 0 (by omega) (by omega)
