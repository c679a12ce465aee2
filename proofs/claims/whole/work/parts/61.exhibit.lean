/-! ===== the reference: the parse ===== -/
def dEx9 (D : gM) : gM := dPut (dPut (dPut (dPut D (nI 69) (nI 0)) (nI 120) (nI 0)) (nI 46) (nI 0)) (nI 32) (nI 0)
def dExT (D : gM) (o : Nat) : gM := dPut (if o < 10 then dEx9 D else dPut (dEx9 D) (nI (48 + o / 10)) (nI 0)) (nI (48 + o % 10)) (nI 0)
theorem dEx_T {X : gM} : dEx X = dExT (dEx1 X) (mN X 4) := rfl
def gCo (o : Nat) : Nat := if o < 10 then 5 else if o < 100 then 6 else 7
/-- what a write of text leaves as it is -/
def gWr (S S' : gS) (y : Nat) (b : Nat → Nat → Nat) (M : gM) (W W' : Nat) : Prop := gRef S' y b M ∧ gX S' 11 32 y = nI W' ∧ (∀ p, p ≠ 32 → gX S' 11 p y = gX S 11 p y) ∧ gFr gQk S S'
theorem gWr_s {S S1 : gS} {y : Nat} {b : Nat → Nat → Nat} {M : gM} {W W1 : Nat} {one own mk : Int32} (h : gWr S S1 y b M W W1) : gWr S (wrS S1 y b W1 one own mk) y b M W (W1 + 1) := ⟨wrS_ref h.1, wrS_32, fun p hp => wrS_p hp (h.2.2.1 p hp), h.2.2.2.tr wrS_fr (fun _ z => ⟨z, z⟩)⟩

set_option maxHeartbeats 4000000 in
set_option maxRecDepth 100000 in
theorem c_X9_writeExhibit_b (d0 : Nat × Nat) (S : gS) (y : Nat) (b : Nat → Nat → Nat) (M : gM) (h : gRef S y b M) (W : Nat) (hW : gX S 11 32 y = nI W) (o : Nat) (ho : o < 1000) (ar : Int32) (hc : W + gCo o ≤ 2500) : gCt d0 yX9_writeExhibit cX9_writeExhibit 3 none 1 0 0 [.ref y, .int (nI o), .int ar] S (fun v' S' => v' = none ∧ gWr S S' y b M W (W + gCo o)) gNo := by
  refine gCt_of (lo := [some (.ref y), some (.int (nI o)), some (.int ar)]) (by decide +kernel) (Nat.le_of_ble_eq_true rfl) (rfl) ?_
  intro Γ hd G F hini
  have r := h.1
  have g0 : gWr S S y b M W W := ⟨h, hW, fun _ _ => rfl, gFr.rf S⟩
  unfold gCo at hc
  have hc5 : W + 5 ≤ 2500 := by split at hc <;> first | omega | (split at hc <;> omega)
  first | refine g_aload_n G dX9_writeExhibit_0 rfl ?_ | refine g_aload_nN G dX9_writeExhibit_0 rfl ?_ | refine g_aload_nQ G dX9_writeExhibit_0 rfl ?_
  refine g_bipush (v := nI 69) G dX9_writeExhibit_1 (by decide) ?_
  refine g_iload_n G dX9_writeExhibit_3 rfl ?_
  refine g_iconst (v := nI 0) G dX9_writeExhibit_4 (by decide) ?_
  refine g_callV (ci := 10) G (c_X9_write _ _ y b M g0.1 (W) g0.2.1 (by omega) _ _ _) mt_X9_write mi_X9_write ml_X9_139 (g0.1.1.kd) (by first | decide | omega) rfl (by decide) (by omega) (by omega) rfl (Nat.le_of_ble_eq_true rfl) dX9_writeExhibit_5 (fun v_5 S_5 hp_5 => ?_)
  obtain ⟨rfl, rfl⟩ := hp_5
  simp only [Option.toList, List.nil_append]
  have g1 := gWr_s (one := nI 69) (own := ar) (mk := nI 0) g0
  first | refine g_aload_n G dX9_writeExhibit_8 rfl ?_ | refine g_aload_nN G dX9_writeExhibit_8 rfl ?_ | refine g_aload_nQ G dX9_writeExhibit_8 rfl ?_
  refine g_bipush (v := nI 120) G dX9_writeExhibit_9 (by decide) ?_
  refine g_iload_n G dX9_writeExhibit_11 rfl ?_
  refine g_iconst (v := nI 0) G dX9_writeExhibit_12 (by decide) ?_
  refine g_callV (ci := 10) G (c_X9_write _ _ y b M g1.1 (W + 1) g1.2.1 (by omega) _ _ _) mt_X9_write mi_X9_write ml_X9_139 (g1.1.1.kd) (by first | decide | omega) rfl (by decide) (by omega) (by omega) rfl (Nat.le_of_ble_eq_true rfl) dX9_writeExhibit_13 (fun v_13 S_13 hp_13 => ?_)
  obtain ⟨rfl, rfl⟩ := hp_13
  simp only [Option.toList, List.nil_append]
  have g2 := gWr_s (one := nI 120) (own := ar) (mk := nI 0) g1
  first | refine g_aload_n G dX9_writeExhibit_16 rfl ?_ | refine g_aload_nN G dX9_writeExhibit_16 rfl ?_ | refine g_aload_nQ G dX9_writeExhibit_16 rfl ?_
  refine g_bipush (v := nI 46) G dX9_writeExhibit_17 (by decide) ?_
  refine g_iload_n G dX9_writeExhibit_19 rfl ?_
  refine g_iconst (v := nI 0) G dX9_writeExhibit_20 (by decide) ?_
  refine g_callV (ci := 10) G (c_X9_write _ _ y b M g2.1 (W + 1 + 1) g2.2.1 (by omega) _ _ _) mt_X9_write mi_X9_write ml_X9_139 (g2.1.1.kd) (by first | decide | omega) rfl (by decide) (by omega) (by omega) rfl (Nat.le_of_ble_eq_true rfl) dX9_writeExhibit_21 (fun v_21 S_21 hp_21 => ?_)
  obtain ⟨rfl, rfl⟩ := hp_21
  simp only [Option.toList, List.nil_append]
  have g3 := gWr_s (one := nI 46) (own := ar) (mk := nI 0) g2
  first | refine g_aload_n G dX9_writeExhibit_24 rfl ?_ | refine g_aload_nN G dX9_writeExhibit_24 rfl ?_ | refine g_aload_nQ G dX9_writeExhibit_24 rfl ?_
  refine g_bipush (v := nI 32) G dX9_writeExhibit_25 (by decide) ?_
  refine g_iload_n G dX9_writeExhibit_27 rfl ?_
  refine g_iconst (v := nI 0) G dX9_writeExhibit_28 (by decide) ?_
  refine g_callV (ci := 10) G (c_X9_write _ _ y b M g3.1 (W + 1 + 1 + 1) g3.2.1 (by omega) _ _ _) mt_X9_write mi_X9_write ml_X9_139 (g3.1.1.kd) (by first | decide | omega) rfl (by decide) (by omega) (by omega) rfl (Nat.le_of_ble_eq_true rfl) dX9_writeExhibit_29 (fun v_29 S_29 hp_29 => ?_)
  obtain ⟨rfl, rfl⟩ := hp_29
  simp only [Option.toList, List.nil_append]
  have g4 := gWr_s (one := nI 32) (own := ar) (mk := nI 0) g3
  refine g_iload_n G dX9_writeExhibit_32 rfl ?_
  refine g_bipush (v := nI 99) G dX9_writeExhibit_33 (by decide) ?_
  refine g_icmp_le (tgt := 51) G dX9_writeExhibit_35 (by decide) (fun c_35 => ?_) (fun c_35 => ?_)
  · have q1 : o < 100 := by have := (nI_leI (b := 99) (by omega) (by omega)).mp c_35; omega
    have g5 := g4
    have eW : True := trivial
    refine g_iload_n G dX9_writeExhibit_51 rfl ?_
    refine g_bipush (v := nI 9) G dX9_writeExhibit_52 (by decide) ?_
    refine g_icmp_le (tgt := 73) G dX9_writeExhibit_54 (by decide) (fun c_54 => ?_) (fun c_54 => ?_)
    · have q2 : o < 10 := by have := (nI_leI (b := 9) (by omega) (by omega)).mp c_54; omega
      rw [if_pos q2] at hc
      have g6 := g5
      first | refine g_aload_n G dX9_writeExhibit_73 rfl ?_ | refine g_aload_nN G dX9_writeExhibit_73 rfl ?_ | refine g_aload_nQ G dX9_writeExhibit_73 rfl ?_
      refine g_bipush (v := nI 48) G dX9_writeExhibit_74 (by decide) ?_
      refine g_iload_n G dX9_writeExhibit_76 rfl ?_
      refine g_bipush (v := nI 10) G dX9_writeExhibit_77 (by decide) ?_
      refine g_irem G dX9_writeExhibit_79 (by decide) (pk_rem (d := 10) (by omega) (by omega) (by omega)) ?_
      refine g_iadd G dX9_writeExhibit_80 (nI_add 48 _) ?_
      refine g_iload_n G dX9_writeExhibit_81 rfl ?_
      refine g_iconst (v := nI 0) G dX9_writeExhibit_82 (by decide) ?_
      refine g_callV (ci := 10) G (c_X9_write _ _ y b M g6.1 (W + 1 + 1 + 1 + 1) g6.2.1 (by omega) _ _ _) mt_X9_write mi_X9_write ml_X9_139 (g6.1.1.kd) (by first | decide | omega) rfl (by decide) (by omega) (by omega) rfl (Nat.le_of_ble_eq_true rfl) dX9_writeExhibit_83 (fun v_83 S_83 hp_83 => ?_)
      obtain ⟨rfl, rfl⟩ := hp_83
      simp only [Option.toList, List.nil_append]
      have g7 := gWr_s (one := nI (48 + o % 10)) (own := ar) (mk := nI 0) g6
      exact g_vret G F (by rw [show gCo o = 5 from if_pos q2]; exact ⟨rfl, g7⟩) (by omega) (by omega) dX9_writeExhibit_86
    · have q2 : ¬ o < 10 := fun z => c_54 ((nI_leI (b := 9) (by omega) (by omega)).mpr (by omega))
      rw [if_neg q2, if_pos q1] at hc
      first | refine g_aload_n G dX9_writeExhibit_57 rfl ?_ | refine g_aload_nN G dX9_writeExhibit_57 rfl ?_ | refine g_aload_nQ G dX9_writeExhibit_57 rfl ?_
      refine g_bipush (v := nI 48) G dX9_writeExhibit_58 (by decide) ?_
      refine g_iload_n G dX9_writeExhibit_60 rfl ?_
      refine g_bipush (v := nI 10) G dX9_writeExhibit_61 (by decide) ?_
      refine g_idiv G dX9_writeExhibit_63 (by decide) (pk_div (d := 10) (by omega) (by omega) (by omega)) ?_
      refine g_bipush (v := nI 10) G dX9_writeExhibit_64 (by decide) ?_
      refine g_irem G dX9_writeExhibit_66 (by decide) (pk_rem (d := 10) (by omega) (by omega) (by omega)) ?_
      refine g_iadd G dX9_writeExhibit_67 (nI_add 48 _) ?_
      refine g_iload_n G dX9_writeExhibit_68 rfl ?_
      refine g_iconst (v := nI 0) G dX9_writeExhibit_69 (by decide) ?_
      refine g_callV (ci := 10) G (c_X9_write _ _ y b M g5.1 (W + 1 + 1 + 1 + 1) g5.2.1 (by omega) _ _ _) mt_X9_write mi_X9_write ml_X9_139 (g5.1.1.kd) (by first | decide | omega) rfl (by decide) (by omega) (by omega) rfl (Nat.le_of_ble_eq_true rfl) dX9_writeExhibit_70 (fun v_70 S_70 hp_70 => ?_)
      obtain ⟨rfl, rfl⟩ := hp_70
      simp only [Option.toList, List.nil_append]
      have g6 := gWr_s (one := nI (48 + o / 10 % 10)) (own := ar) (mk := nI 0) g5
      first | refine g_aload_n G dX9_writeExhibit_73 rfl ?_ | refine g_aload_nN G dX9_writeExhibit_73 rfl ?_ | refine g_aload_nQ G dX9_writeExhibit_73 rfl ?_
      refine g_bipush (v := nI 48) G dX9_writeExhibit_74 (by decide) ?_
      refine g_iload_n G dX9_writeExhibit_76 rfl ?_
      refine g_bipush (v := nI 10) G dX9_writeExhibit_77 (by decide) ?_
      refine g_irem G dX9_writeExhibit_79 (by decide) (pk_rem (d := 10) (by omega) (by omega) (by omega)) ?_
      refine g_iadd G dX9_writeExhibit_80 (nI_add 48 _) ?_
      refine g_iload_n G dX9_writeExhibit_81 rfl ?_
      refine g_iconst (v := nI 0) G dX9_writeExhibit_82 (by decide) ?_
      refine g_callV (ci := 10) G (c_X9_write _ _ y b M g6.1 (W + 1 + 1 + 1 + 1 + 1) g6.2.1 (by omega) _ _ _) mt_X9_write mi_X9_write ml_X9_139 (g6.1.1.kd) (by first | decide | omega) rfl (by decide) (by omega) (by omega) rfl (Nat.le_of_ble_eq_true rfl) dX9_writeExhibit_83 (fun v_83 S_83 hp_83 => ?_)
      obtain ⟨rfl, rfl⟩ := hp_83
      simp only [Option.toList, List.nil_append]
      have g7 := gWr_s (one := nI (48 + o % 10)) (own := ar) (mk := nI 0) g6
      exact g_vret G F (by rw [show gCo o = 6 from (if_neg q2).trans (if_pos q1)]; exact ⟨rfl, g7⟩) (by omega) (by omega) dX9_writeExhibit_86
  · have q1 : ¬ o < 100 := fun z => c_35 ((nI_leI (b := 99) (by omega) (by omega)).mpr (by omega))
    rw [if_neg (show ¬ o < 10 by omega), if_neg q1] at hc
    first | refine g_aload_n G dX9_writeExhibit_38 rfl ?_ | refine g_aload_nN G dX9_writeExhibit_38 rfl ?_ | refine g_aload_nQ G dX9_writeExhibit_38 rfl ?_
    refine g_bipush (v := nI 48) G dX9_writeExhibit_39 (by decide) ?_
    refine g_iload_n G dX9_writeExhibit_41 rfl ?_
    refine g_bipush (v := nI 100) G dX9_writeExhibit_42 (by decide) ?_
    refine g_idiv G dX9_writeExhibit_44 (by decide) (pk_div (d := 100) (by omega) (by omega) (by omega)) ?_
    refine g_iadd G dX9_writeExhibit_45 (nI_add 48 _) ?_
    refine g_iload_n G dX9_writeExhibit_46 rfl ?_
    refine g_iconst (v := nI 0) G dX9_writeExhibit_47 (by decide) ?_
    refine g_callV (ci := 10) G (c_X9_write _ _ y b M g4.1 (W + 1 + 1 + 1 + 1) g4.2.1 (by omega) _ _ _) mt_X9_write mi_X9_write ml_X9_139 (g4.1.1.kd) (by first | decide | omega) rfl (by decide) (by omega) (by omega) rfl (Nat.le_of_ble_eq_true rfl) dX9_writeExhibit_48 (fun v_48 S_48 hp_48 => ?_)
    obtain ⟨rfl, rfl⟩ := hp_48
    simp only [Option.toList, List.nil_append]
    have g5 := gWr_s (one := nI (48 + o / 100)) (own := ar) (mk := nI 0) g4
    refine g_iload_n G dX9_writeExhibit_51 rfl ?_
    refine g_bipush (v := nI 9) G dX9_writeExhibit_52 (by decide) ?_
    refine g_icmp_le (tgt := 73) G dX9_writeExhibit_54 (by decide) (fun c_54 => (absurd ((nI_leI (b := 9) (by omega) (by omega)).mp c_54) (by omega))) (fun c_54 => ?_)
    first | refine g_aload_n G dX9_writeExhibit_57 rfl ?_ | refine g_aload_nN G dX9_writeExhibit_57 rfl ?_ | refine g_aload_nQ G dX9_writeExhibit_57 rfl ?_
    refine g_bipush (v := nI 48) G dX9_writeExhibit_58 (by decide) ?_
    refine g_iload_n G dX9_writeExhibit_60 rfl ?_
    refine g_bipush (v := nI 10) G dX9_writeExhibit_61 (by decide) ?_
    refine g_idiv G dX9_writeExhibit_63 (by decide) (pk_div (d := 10) (by omega) (by omega) (by omega)) ?_
    refine g_bipush (v := nI 10) G dX9_writeExhibit_64 (by decide) ?_
    refine g_irem G dX9_writeExhibit_66 (by decide) (pk_rem (d := 10) (by omega) (by omega) (by omega)) ?_
    refine g_iadd G dX9_writeExhibit_67 (nI_add 48 _) ?_
    refine g_iload_n G dX9_writeExhibit_68 rfl ?_
    refine g_iconst (v := nI 0) G dX9_writeExhibit_69 (by decide) ?_
    refine g_callV (ci := 10) G (c_X9_write _ _ y b M g5.1 (W + 1 + 1 + 1 + 1 + 1) g5.2.1 (by omega) _ _ _) mt_X9_write mi_X9_write ml_X9_139 (g5.1.1.kd) (by first | decide | omega) rfl (by decide) (by omega) (by omega) rfl (Nat.le_of_ble_eq_true rfl) dX9_writeExhibit_70 (fun v_70 S_70 hp_70 => ?_)
    obtain ⟨rfl, rfl⟩ := hp_70
    simp only [Option.toList, List.nil_append]
    have g6 := gWr_s (one := nI (48 + o / 10 % 10)) (own := ar) (mk := nI 0) g5
    first | refine g_aload_n G dX9_writeExhibit_73 rfl ?_ | refine g_aload_nN G dX9_writeExhibit_73 rfl ?_ | refine g_aload_nQ G dX9_writeExhibit_73 rfl ?_
    refine g_bipush (v := nI 48) G dX9_writeExhibit_74 (by decide) ?_
    refine g_iload_n G dX9_writeExhibit_76 rfl ?_
    refine g_bipush (v := nI 10) G dX9_writeExhibit_77 (by decide) ?_
    refine g_irem G dX9_writeExhibit_79 (by decide) (pk_rem (d := 10) (by omega) (by omega) (by omega)) ?_
    refine g_iadd G dX9_writeExhibit_80 (nI_add 48 _) ?_
    refine g_iload_n G dX9_writeExhibit_81 rfl ?_
    refine g_iconst (v := nI 0) G dX9_writeExhibit_82 (by decide) ?_
    refine g_callV (ci := 10) G (c_X9_write _ _ y b M g6.1 (W + 1 + 1 + 1 + 1 + 1 + 1) g6.2.1 (by omega) _ _ _) mt_X9_write mi_X9_write ml_X9_139 (g6.1.1.kd) (by first | decide | omega) rfl (by decide) (by omega) (by omega) rfl (Nat.le_of_ble_eq_true rfl) dX9_writeExhibit_83 (fun v_83 S_83 hp_83 => ?_)
    obtain ⟨rfl, rfl⟩ := hp_83
    simp only [Option.toList, List.nil_append]
    have g7 := gWr_s (one := nI (48 + o % 10)) (own := ar) (mk := nI 0) g6
    exact g_vret G F (by rw [show gCo o = 7 from (if_neg (by omega)).trans (if_neg q1)]; exact ⟨rfl, g7⟩) (by omega) (by omega) dX9_writeExhibit_86

set_option maxHeartbeats 4000000 in
set_option maxRecDepth 100000 in
theorem c_X9_writeExhibit_a (d0 : Nat × Nat) (S : gS) (y : Nat) (b : Nat → Nat → Nat) (M D : gM) (W : Nat) (h : gPs S y b M D W) (o : Nat) (ho : o < 20) (hc : W + gCo o ≤ 2500) : gCt d0 yX9_writeExhibit cX9_writeExhibit 3 none 1 0 0 [.ref y, .int (nI o), .int (mA D 3 (mN D 1))] S (fun v' S' => v' = none ∧ gPs S' y b M (dExT D o) (W + gCo o) ∧ gWr S S' y b M W (W + gCo o)) gNo := by
  refine gCt_of (lo := [some (.ref y), some (.int (nI o)), some (.int (mA D 3 (mN D 1)))]) (by decide +kernel) (Nat.le_of_ble_eq_true rfl) (rfl) ?_
  intro Γ hd G F hini
  have r := h.1.1
  have g0 : gWr S S y b M W W := ⟨h.1, h.2.1, fun _ _ => rfl, gFr.rf S⟩
  have p0 := h
  have hc5 : W + 5 ≤ 2500 := by unfold gCo at hc; split at hc <;> first | omega | (split at hc <;> omega)
  first | refine g_aload_n G dX9_writeExhibit_0 rfl ?_ | refine g_aload_nN G dX9_writeExhibit_0 rfl ?_ | refine g_aload_nQ G dX9_writeExhibit_0 rfl ?_
  refine g_bipush (v := nI 69) G dX9_writeExhibit_1 (by decide) ?_
  refine g_iload_n G dX9_writeExhibit_3 rfl ?_
  refine g_iconst (v := nI 0) G dX9_writeExhibit_4 (by decide) ?_
  refine g_callV (ci := 10) G (c_X9_write _ _ y b M g0.1 (W) g0.2.1 (by omega) _ _ _) mt_X9_write mi_X9_write ml_X9_139 (g0.1.1.kd) (by first | decide | omega) rfl (by decide) (by omega) (by omega) rfl (Nat.le_of_ble_eq_true rfl) dX9_writeExhibit_5 (fun v_5 S_5 hp_5 => ?_)
  obtain ⟨rfl, rfl⟩ := hp_5
  simp only [Option.toList, List.nil_append]
  have g1 := gWr_s (one := nI 69) (own := mA D 3 (mN D 1)) (mk := nI 0) g0
  have p1 := gPs_put (one := nI 69) (own := mA D 3 (mN D 1)) (mk := nI 0) p0 (rfl)
  first | refine g_aload_n G dX9_writeExhibit_8 rfl ?_ | refine g_aload_nN G dX9_writeExhibit_8 rfl ?_ | refine g_aload_nQ G dX9_writeExhibit_8 rfl ?_
  refine g_bipush (v := nI 120) G dX9_writeExhibit_9 (by decide) ?_
  refine g_iload_n G dX9_writeExhibit_11 rfl ?_
  refine g_iconst (v := nI 0) G dX9_writeExhibit_12 (by decide) ?_
  refine g_callV (ci := 10) G (c_X9_write _ _ y b M g1.1 (W + 1) g1.2.1 (by omega) _ _ _) mt_X9_write mi_X9_write ml_X9_139 (g1.1.1.kd) (by first | decide | omega) rfl (by decide) (by omega) (by omega) rfl (Nat.le_of_ble_eq_true rfl) dX9_writeExhibit_13 (fun v_13 S_13 hp_13 => ?_)
  obtain ⟨rfl, rfl⟩ := hp_13
  simp only [Option.toList, List.nil_append]
  have g2 := gWr_s (one := nI 120) (own := mA D 3 (mN D 1)) (mk := nI 0) g1
  have p2 := gPs_put (one := nI 120) (own := mA D 3 (mN D 1)) (mk := nI 0) p1 (((dPut_o _ _ _ (Or.inr (by omega)))).symm)
  first | refine g_aload_n G dX9_writeExhibit_16 rfl ?_ | refine g_aload_nN G dX9_writeExhibit_16 rfl ?_ | refine g_aload_nQ G dX9_writeExhibit_16 rfl ?_
  refine g_bipush (v := nI 46) G dX9_writeExhibit_17 (by decide) ?_
  refine g_iload_n G dX9_writeExhibit_19 rfl ?_
  refine g_iconst (v := nI 0) G dX9_writeExhibit_20 (by decide) ?_
  refine g_callV (ci := 10) G (c_X9_write _ _ y b M g2.1 (W + 1 + 1) g2.2.1 (by omega) _ _ _) mt_X9_write mi_X9_write ml_X9_139 (g2.1.1.kd) (by first | decide | omega) rfl (by decide) (by omega) (by omega) rfl (Nat.le_of_ble_eq_true rfl) dX9_writeExhibit_21 (fun v_21 S_21 hp_21 => ?_)
  obtain ⟨rfl, rfl⟩ := hp_21
  simp only [Option.toList, List.nil_append]
  have g3 := gWr_s (one := nI 46) (own := mA D 3 (mN D 1)) (mk := nI 0) g2
  have p3 := gPs_put (one := nI 46) (own := mA D 3 (mN D 1)) (mk := nI 0) p2 (((dPut_o _ _ _ (Or.inr (by omega))).trans ((dPut_o _ _ _ (Or.inr (by omega))))).symm)
  first | refine g_aload_n G dX9_writeExhibit_24 rfl ?_ | refine g_aload_nN G dX9_writeExhibit_24 rfl ?_ | refine g_aload_nQ G dX9_writeExhibit_24 rfl ?_
  refine g_bipush (v := nI 32) G dX9_writeExhibit_25 (by decide) ?_
  refine g_iload_n G dX9_writeExhibit_27 rfl ?_
  refine g_iconst (v := nI 0) G dX9_writeExhibit_28 (by decide) ?_
  refine g_callV (ci := 10) G (c_X9_write _ _ y b M g3.1 (W + 1 + 1 + 1) g3.2.1 (by omega) _ _ _) mt_X9_write mi_X9_write ml_X9_139 (g3.1.1.kd) (by first | decide | omega) rfl (by decide) (by omega) (by omega) rfl (Nat.le_of_ble_eq_true rfl) dX9_writeExhibit_29 (fun v_29 S_29 hp_29 => ?_)
  obtain ⟨rfl, rfl⟩ := hp_29
  simp only [Option.toList, List.nil_append]
  have g4 := gWr_s (one := nI 32) (own := mA D 3 (mN D 1)) (mk := nI 0) g3
  have p4 := gPs_put (one := nI 32) (own := mA D 3 (mN D 1)) (mk := nI 0) p3 (((dPut_o _ _ _ (Or.inr (by omega))).trans ((dPut_o _ _ _ (Or.inr (by omega))).trans ((dPut_o _ _ _ (Or.inr (by omega)))))).symm)
  refine g_iload_n G dX9_writeExhibit_32 rfl ?_
  refine g_bipush (v := nI 99) G dX9_writeExhibit_33 (by decide) ?_
  refine g_icmp_le (tgt := 51) G dX9_writeExhibit_35 (by decide) (fun c_35 => ?_) (fun c_35 => (absurd ((nI_leI (b := 99) (by omega) (by omega)).mpr (by omega)) c_35))
  refine g_iload_n G dX9_writeExhibit_51 rfl ?_
  refine g_bipush (v := nI 9) G dX9_writeExhibit_52 (by decide) ?_
  refine g_icmp_le (tgt := 73) G dX9_writeExhibit_54 (by decide) (fun c_54 => ?_) (fun c_54 => ?_)
  · have q2 : o < 10 := by have := (nI_leI (b := 9) (by omega) (by omega)).mp c_54; omega
    have eC : gCo o = 5 := if_pos q2
    have eT : dExT D o = dPut (dEx9 D) (nI (48 + o % 10)) (nI 0) := by unfold dExT; rw [if_pos q2]
    first | refine g_aload_n G dX9_writeExhibit_73 rfl ?_ | refine g_aload_nN G dX9_writeExhibit_73 rfl ?_ | refine g_aload_nQ G dX9_writeExhibit_73 rfl ?_
    refine g_bipush (v := nI 48) G dX9_writeExhibit_74 (by decide) ?_
    refine g_iload_n G dX9_writeExhibit_76 rfl ?_
    refine g_bipush (v := nI 10) G dX9_writeExhibit_77 (by decide) ?_
    refine g_irem G dX9_writeExhibit_79 (by decide) (pk_rem (d := 10) (by omega) (by omega) (by omega)) ?_
    refine g_iadd G dX9_writeExhibit_80 (nI_add 48 _) ?_
    refine g_iload_n G dX9_writeExhibit_81 rfl ?_
    refine g_iconst (v := nI 0) G dX9_writeExhibit_82 (by decide) ?_
    refine g_callV (ci := 10) G (c_X9_write _ _ y b M g4.1 (W + 1 + 1 + 1 + 1) g4.2.1 (by omega) _ _ _) mt_X9_write mi_X9_write ml_X9_139 (g4.1.1.kd) (by first | decide | omega) rfl (by decide) (by omega) (by omega) rfl (Nat.le_of_ble_eq_true rfl) dX9_writeExhibit_83 (fun v_83 S_83 hp_83 => ?_)
    obtain ⟨rfl, rfl⟩ := hp_83
    simp only [Option.toList, List.nil_append]
    have g9 := gWr_s (one := nI (48 + o % 10)) (own := mA D 3 (mN D 1)) (mk := nI 0) g4
    have p9 := gPs_put (one := nI (48 + o % 10)) (own := mA D 3 (mN D 1)) (mk := nI 0) p4 (((dPut_o _ _ _ (Or.inr (by omega))).trans ((dPut_o _ _ _ (Or.inr (by omega))).trans ((dPut_o _ _ _ (Or.inr (by omega))).trans ((dPut_o _ _ _ (Or.inr (by omega))))))).symm)
    exact g_vret G F (by rw [eT, eC]; exact ⟨rfl, p9, g9⟩) (by omega) (by omega) dX9_writeExhibit_86
  · have q2 : ¬ o < 10 := fun z => c_54 ((nI_leI (b := 9) (by omega) (by omega)).mpr (by omega))
    have eC : gCo o = 6 := (if_neg q2).trans (if_pos (by omega))
    have eT : dExT D o = dPut (dPut (dEx9 D) (nI (48 + o / 10)) (nI 0)) (nI (48 + o % 10)) (nI 0) := by unfold dExT; rw [if_neg q2]
    first | refine g_aload_n G dX9_writeExhibit_57 rfl ?_ | refine g_aload_nN G dX9_writeExhibit_57 rfl ?_ | refine g_aload_nQ G dX9_writeExhibit_57 rfl ?_
    refine g_bipush (v := nI 48) G dX9_writeExhibit_58 (by decide) ?_
    refine g_iload_n G dX9_writeExhibit_60 rfl ?_
    refine g_bipush (v := nI 10) G dX9_writeExhibit_61 (by decide) ?_
    refine g_idiv G dX9_writeExhibit_63 (by decide) (pk_div (d := 10) (by omega) (by omega) (by omega)) ?_
    refine g_bipush (v := nI 10) G dX9_writeExhibit_64 (by decide) ?_
    refine g_irem G dX9_writeExhibit_66 (by decide) ((pk_rem (d := 10) (by omega) (by omega) (by omega)).trans (congrArg nI (show o / 10 % 10 = o / 10 by omega))) ?_
    refine g_iadd G dX9_writeExhibit_67 (nI_add 48 _) ?_
    refine g_iload_n G dX9_writeExhibit_68 rfl ?_
    refine g_iconst (v := nI 0) G dX9_writeExhibit_69 (by decide) ?_
    refine g_callV (ci := 10) G (c_X9_write _ _ y b M g4.1 (W + 1 + 1 + 1 + 1) g4.2.1 (by omega) _ _ _) mt_X9_write mi_X9_write ml_X9_139 (g4.1.1.kd) (by first | decide | omega) rfl (by decide) (by omega) (by omega) rfl (Nat.le_of_ble_eq_true rfl) dX9_writeExhibit_70 (fun v_70 S_70 hp_70 => ?_)
    obtain ⟨rfl, rfl⟩ := hp_70
    simp only [Option.toList, List.nil_append]
    have g5 := gWr_s (one := nI (48 + o / 10)) (own := mA D 3 (mN D 1)) (mk := nI 0) g4
    have p5 := gPs_put (one := nI (48 + o / 10)) (own := mA D 3 (mN D 1)) (mk := nI 0) p4 (((dPut_o _ _ _ (Or.inr (by omega))).trans ((dPut_o _ _ _ (Or.inr (by omega))).trans ((dPut_o _ _ _ (Or.inr (by omega))).trans ((dPut_o _ _ _ (Or.inr (by omega))))))).symm)
    first | refine g_aload_n G dX9_writeExhibit_73 rfl ?_ | refine g_aload_nN G dX9_writeExhibit_73 rfl ?_ | refine g_aload_nQ G dX9_writeExhibit_73 rfl ?_
    refine g_bipush (v := nI 48) G dX9_writeExhibit_74 (by decide) ?_
    refine g_iload_n G dX9_writeExhibit_76 rfl ?_
    refine g_bipush (v := nI 10) G dX9_writeExhibit_77 (by decide) ?_
    refine g_irem G dX9_writeExhibit_79 (by decide) (pk_rem (d := 10) (by omega) (by omega) (by omega)) ?_
    refine g_iadd G dX9_writeExhibit_80 (nI_add 48 _) ?_
    refine g_iload_n G dX9_writeExhibit_81 rfl ?_
    refine g_iconst (v := nI 0) G dX9_writeExhibit_82 (by decide) ?_
    refine g_callV (ci := 10) G (c_X9_write _ _ y b M g5.1 (W + 1 + 1 + 1 + 1 + 1) g5.2.1 (by omega) _ _ _) mt_X9_write mi_X9_write ml_X9_139 (g5.1.1.kd) (by first | decide | omega) rfl (by decide) (by omega) (by omega) rfl (Nat.le_of_ble_eq_true rfl) dX9_writeExhibit_83 (fun v_83 S_83 hp_83 => ?_)
    obtain ⟨rfl, rfl⟩ := hp_83
    simp only [Option.toList, List.nil_append]
    have g9 := gWr_s (one := nI (48 + o % 10)) (own := mA D 3 (mN D 1)) (mk := nI 0) g5
    have p9 := gPs_put (one := nI (48 + o % 10)) (own := mA D 3 (mN D 1)) (mk := nI 0) p5 (((dPut_o _ _ _ (Or.inr (by omega))).trans ((dPut_o _ _ _ (Or.inr (by omega))).trans ((dPut_o _ _ _ (Or.inr (by omega))).trans ((dPut_o _ _ _ (Or.inr (by omega))).trans ((dPut_o _ _ _ (Or.inr (by omega)))))))).symm)
    exact g_vret G F (by rw [eT, eC]; exact ⟨rfl, p9, g9⟩) (by omega) (by omega) dX9_writeExhibit_86
