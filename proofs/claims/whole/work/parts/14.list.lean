/-! ===== ArrayList over the store ===== -/
abbrev gRet (v : Value) (S : gS) : Option Value → gS → Prop := fun v' S' => v' = some v ∧ S' = S
theorem gRi {x y : Int32} {S : gS} (h : x = y) : gRet (.int y) S (some (.int x)) S := ⟨by rw [h], rfl⟩
theorem gRr {x y : Nat} {S : gS} (h : x = y) : gRet (.ref y) S (some (.ref x)) S := ⟨by rw [h], rfl⟩
theorem gK_sM {S : gS} {a κ κa q N : Nat} (h : gK S a = κa) (hq : gK S q = 0) (h0 : κa ≠ 0) : gK (sM S κ q N) a = κa := (va_up_ne _ _ (fun z => h0 (by rw [← h, z]; exact hq))).trans h
theorem gK_sN {S : gS} {a κ κa q : Nat} (h : gK S a = κa) (hq : gK S q = 0) (h0 : κa ≠ 0) : gK (sN S κ q) a = κa := (va_up_ne _ _ (fun z => h0 (by rw [← h, z]; exact hq))).trans h
theorem gK_M (S : gS) (κ q N : Nat) : gK (sM S κ q N) q = κ := va_up_self _ _ _
theorem gK_N (S : gS) (κ q : Nat) : gK (sN S κ q) q = κ := va_up_self _ _ _
theorem gL_sM {S : gS} {a κ q N : Nat} (h : gK S a ≠ 0) (hq : gK S q = 0) : gL (sM S κ q N) a = gL S a := va_up_ne _ _ (fun z => h (by rw [z]; exact hq))
/-- a list at a, of N elements el, its fields and its row under the name r -/
def gLst (d0 : Nat × Nat) (S : gS) (a r N : Nat) (el : Nat → Nat) : Prop := gK S a = 1 + 32 * r ∧ gX S (1 + 32 * r) 2 a = nI N ∧ N ≤ 60 ∧ ∃ ed, gY S (1 + 32 * r) 1 a = some ed ∧ ((N = 0 ∧ ed = d0.1) ∨ (gK S ed = 19 + 32 * r ∧ N ≤ gL S ed ∧ 10 ≤ gL S ed ∧ gL S ed ≤ 100 ∧ ∀ i, i < N → gY S (19 + 32 * r) ed i = some (el i)))

set_option maxHeartbeats 4000000 in
set_option maxRecDepth 100000 in
theorem c_J3_checkIndex_8e157 (d0 : Nat × Nat) (S : gS) (i N : Nat) (h : i < N) (hN : N < 2 ^ 31) : gCt d0 yJ3_checkIndex_8e157 cJ3_checkIndex_8e157 3 (some .int) 0 0 0 [.int (nI i), .int (nI N), .null] S (gRet (.int (nI i)) S) gNo := by
  refine gCt_of (lo := [some (.int (nI i)), some (.int (nI N)), some (.null)]) (by decide +kernel) (Nat.le_of_ble_eq_true rfl) rfl ?_
  intro Γ hd G F hini
  refine g_iload_n G dJ3_checkIndex_8e157_0 rfl ?_
  refine g_if_lt (tgt := 9) G dJ3_checkIndex_8e157_1 (by decide) (fun c_1 => (absurd c_1 (nI_pos (by omega)))) (fun c_1 => ?_)
  refine g_iload_n G dJ3_checkIndex_8e157_4 rfl ?_
  refine g_iload_n G dJ3_checkIndex_8e157_5 rfl ?_
  refine g_icmp_lt (tgt := 16) G dJ3_checkIndex_8e157_6 (by decide) (fun c_6 => ?_) (fun c_6 => (absurd (nI_lt h hN) c_6))
  refine g_iload_n G dJ3_checkIndex_8e157_16 rfl ?_
  exact g_iret G F (gRi rfl) (by omega) (by omega) dJ3_checkIndex_8e157_17

set_option maxHeartbeats 4000000 in
set_option maxRecDepth 100000 in
theorem c_J15_checkIndex_7cf53 (d0 : Nat × Nat) (S : gS) (i N : Nat) (h : i < N) (hN : N < 2 ^ 31) : gCt d0 yJ15_checkIndex_7cf53 cJ15_checkIndex_7cf53 2 (some .int) 1 0 0 [.int (nI i), .int (nI N)] S (gRet (.int (nI i)) S) gNo := by
  refine gCt_of (lo := [some (.int (nI i)), some (.int (nI N))]) (by decide +kernel) (Nat.le_of_ble_eq_true rfl) rfl ?_
  intro Γ hd G F hini
  refine g_iload_n G dJ15_checkIndex_7cf53_0 rfl ?_
  refine g_iload_n G dJ15_checkIndex_7cf53_1 rfl ?_
  refine g_null G dJ15_checkIndex_7cf53_2 ?_
  refine g_callSp G (c_J3_checkIndex_8e157 _ S i N h hN) mt_J3_checkIndex_8e157 ms_J3_checkIndex_8e157 ml_J15_105 (by decide) (by omega) (by omega) rfl (Nat.le_of_ble_eq_true rfl) dJ15_checkIndex_7cf53_3 ?_
  exact g_iret G F (gRi rfl) (by omega) (by omega) dJ15_checkIndex_7cf53_6

set_option maxHeartbeats 4000000 in
set_option maxRecDepth 100000 in
theorem c_Jx4a65c_size_8abf5 (d0 : Nat × Nat) (S : gS) (a r N : Nat) (el : Nat → Nat) (h : gLst d0 S a r N el) : gCt d0 yJx4a65c_size_8abf5 cJx4a65c_size_8abf5 1 (some .int) 0 0 0 [.ref a] S (gRet (.int (nI N)) S) gNo := by
  refine gCt_of (lo := [some (.ref a)]) (by decide +kernel) (Nat.le_of_ble_eq_true rfl) rfl ?_
  intro Γ hd G F hini
  obtain ⟨h1, h2, h3, ed, h4, h5⟩ := h
  first | refine g_aload_n G dJx4a65c_size_8abf5_0 rfl ?_ | refine g_aload_nN G dJx4a65c_size_8abf5_0 rfl ?_ | refine g_aload_nQ G dJx4a65c_size_8abf5_0 rfl ?_
  refine g_getI G fl_Jx4a65c_48 (by assumption) (by first | decide | omega) rfl (by first | assumption | rfl) dJx4a65c_size_8abf5_1 ?_
  exact g_iret G F (gRi rfl) (by omega) (by omega) dJx4a65c_size_8abf5_4

set_option maxHeartbeats 4000000 in
set_option maxRecDepth 100000 in
theorem c_Jx4a65c_elementData_915e3 (d0 : Nat × Nat) (S : gS) (a r ed i v : Nat) (h1 : gK S a = 1 + 32 * r) (h4 : gY S (1 + 32 * r) 1 a = some ed) (h5 : gK S ed = 19 + 32 * r) (hi : i < gL S ed) (h31 : i < 2 ^ 31) (hv : gY S (19 + 32 * r) ed i = some v) : gCt d0 yJx4a65c_elementData_915e3 cJx4a65c_elementData_915e3 2 (some (.object "java/lang/Object")) 0 0 0 [.ref a, .int (nI i)] S (gRet (.ref v) S) gNo := by
  refine gCt_of (lo := [some (.ref a), some (.int (nI i))]) (by decide +kernel) (Nat.le_of_ble_eq_true rfl) rfl ?_
  intro Γ hd G F hini
  first | refine g_aload_n G dJx4a65c_elementData_915e3_0 rfl ?_ | refine g_aload_nN G dJx4a65c_elementData_915e3_0 rfl ?_ | refine g_aload_nQ G dJx4a65c_elementData_915e3_0 rfl ?_
  first | refine g_getR G fl_Jx4a65c_9 (by assumption) (by first | decide | omega) rfl (by assumption) dJx4a65c_elementData_915e3_1 ?_ | refine g_getZ G fl_Jx4a65c_9 (by assumption) (by first | decide | omega) rfl (by assumption) dJx4a65c_elementData_915e3_1 ?_ | refine g_getQ G fl_Jx4a65c_9 (by assumption) (by first | decide | omega) rfl (by first | assumption | rfl) dJx4a65c_elementData_915e3_1 ?_
  refine g_iload_n G dJx4a65c_elementData_915e3_4 rfl ?_
  refine g_aald G (by assumption) (by first | decide | omega) (by omega) (by omega) (hv) dJx4a65c_elementData_915e3_5 ?_
  first | exact g_aret (o := some _) G F (by first | exact Or.inl ⟨_, rfl⟩ | exact Or.inr ⟨_, rfl⟩) (gRr rfl) (by omega) (by omega) dJx4a65c_elementData_915e3_6 | exact g_aret (o := none) G F (by first | exact Or.inl ⟨_, rfl⟩ | exact Or.inr ⟨_, rfl⟩) (gRr rfl) (by omega) (by omega) dJx4a65c_elementData_915e3_6 | exact g_aret (o := _) G F (by first | exact Or.inl ⟨_, rfl⟩ | exact Or.inr ⟨_, rfl⟩) (gRr rfl) (by omega) (by omega) dJx4a65c_elementData_915e3_6

set_option maxHeartbeats 4000000 in
set_option maxRecDepth 100000 in
theorem c_Jx4a65c_get_915e3 (d0 : Nat × Nat) (S : gS) (a r N i : Nat) (el : Nat → Nat) (h : gLst d0 S a r N el) (hi : i < N) : gCt d0 yJx4a65c_get_915e3 cJx4a65c_get_915e3 2 (some (.object "java/lang/Object")) 2 0 0 [.ref a, .int (nI i)] S (gRet (.ref (el i)) S) gNo := by
  refine gCt_of (lo := [some (.ref a), some (.int (nI i))]) (by decide +kernel) (Nat.le_of_ble_eq_true rfl) rfl ?_
  intro Γ hd G F hini
  obtain ⟨h1, h2, h3, ed, h4, h5⟩ := h
  rcases h5 with ⟨h5, -⟩ | ⟨h5, h6, h7, h8, h9⟩
  · omega
  refine g_iload_n G dJx4a65c_get_915e3_0 rfl ?_
  first | refine g_aload_n G dJx4a65c_get_915e3_1 rfl ?_ | refine g_aload_nN G dJx4a65c_get_915e3_1 rfl ?_ | refine g_aload_nQ G dJx4a65c_get_915e3_1 rfl ?_
  refine g_getI G fl_Jx4a65c_48 (by assumption) (by first | decide | omega) rfl (by first | assumption | rfl) dJx4a65c_get_915e3_2 ?_
  refine g_callSp G (c_J15_checkIndex_7cf53 _ S i N hi (by omega)) mt_J15_checkIndex_7cf53 ms_J15_checkIndex_7cf53 ml_Jx4a65c_118 (by decide) (by omega) (by omega) rfl (Nat.le_of_ble_eq_true rfl) dJx4a65c_get_915e3_5 ?_
  refine g_pop G dJx4a65c_get_915e3_8 rfl ?_
  first | refine g_aload_n G dJx4a65c_get_915e3_9 rfl ?_ | refine g_aload_nN G dJx4a65c_get_915e3_9 rfl ?_ | refine g_aload_nQ G dJx4a65c_get_915e3_9 rfl ?_
  refine g_iload_n G dJx4a65c_get_915e3_10 rfl ?_
  refine g_callVp (ci := 0) G (c_Jx4a65c_elementData_915e3 _ S a r ed i (el i) h1 h4 h5 (by omega) (by omega) (h9 i hi)) mt_Jx4a65c_elementData_915e3 mi_Jx4a65c_elementData_915e3 ml_Jx4a65c_123 (by assumption) (by first | decide | omega) rfl (by decide) (by omega) (by omega) rfl (Nat.le_of_ble_eq_true rfl) dJx4a65c_get_915e3_11 ?_
  first | exact g_aret (o := some _) G F (by first | exact Or.inl ⟨_, rfl⟩ | exact Or.inr ⟨_, rfl⟩) (gRr rfl) (by omega) (by omega) dJx4a65c_get_915e3_14 | exact g_aret (o := none) G F (by first | exact Or.inl ⟨_, rfl⟩ | exact Or.inr ⟨_, rfl⟩) (gRr rfl) (by omega) (by omega) dJx4a65c_get_915e3_14 | exact g_aret (o := _) G F (by first | exact Or.inl ⟨_, rfl⟩ | exact Or.inr ⟨_, rfl⟩) (gRr rfl) (by omega) (by omega) dJx4a65c_get_915e3_14

set_option maxHeartbeats 4000000 in
set_option maxRecDepth 100000 in
theorem c_J8_newLength_cabcc (d0 : Nat × Nat) (S : gS) (c : Nat) (hc : c ≤ 100) (h1 : 2 ≤ c) : gCt d0 yJ8_newLength_cabcc cJ8_newLength_cabcc 4 (some .int) 1 0 0 [.int (nI c), .int (nI 1), .int (nI (c / 2))] S (gRet (.int (nI (c + c / 2))) S) gNo := by
  refine gCt_of (lo := [some (.int (nI c)), some (.int (nI 1)), some (.int (nI (c / 2))), none]) (by decide +kernel) (Nat.le_of_ble_eq_true rfl) rfl ?_
  intro Γ hd G F hini
  have e1 : (if nI 1 < nI (c / 2) then nI (c / 2) else nI 1) = nI (c / 2) := by
    by_cases z : 1 < c / 2
    · rw [if_pos (nI_lt z (by omega))]
    · rw [if_neg (nI_nlt (by omega) (by omega)), show c / 2 = 1 by omega]
  refine g_iload_n G dJ8_newLength_cabcc_0 rfl ?_
  refine g_iload_n G dJ8_newLength_cabcc_1 rfl ?_
  refine g_iload_n G dJ8_newLength_cabcc_2 rfl ?_
  refine g_mmax G ml_J8_194 (by decide) (by omega) (by omega) (Nat.le_of_ble_eq_true rfl) (e1) dJ8_newLength_cabcc_3 ?_
  refine g_iadd G dJ8_newLength_cabcc_6 (by first | exact nI_add _ _ | rfl) ?_
  refine g_istore_n G dJ8_newLength_cabcc_7 (gSt_3 rfl) ?_
  refine g_iconst (v := nI 0) G dJ8_newLength_cabcc_8 (by decide) ?_
  refine g_iload_n G dJ8_newLength_cabcc_9 rfl ?_
  refine g_icmp_ge (tgt := 21) G dJ8_newLength_cabcc_10 (by decide) (fun c_10 => (absurd c_10 (nI_nle (by omega) (by omega)))) (fun c_10 => ?_)
  refine g_iload_n G dJ8_newLength_cabcc_13 rfl ?_
  refine g_ldc G k_J8_200 dJ8_newLength_cabcc_14 ?_
  refine g_icmp_gt (tgt := 21) G dJ8_newLength_cabcc_16 (by decide) (fun c_16 => (absurd c_16 (nI_nlt (b := c + c / 2) (a := 2147483639) (by omega) (by omega)))) (fun c_16 => ?_)
  refine g_iload_n G dJ8_newLength_cabcc_19 rfl ?_
  exact g_iret G F (gRi rfl) (by omega) (by omega) dJ8_newLength_cabcc_20

set_option maxHeartbeats 4000000 in
set_option maxRecDepth 100000 in
theorem c_J7_copyOf_6403c (d0 : Nat × Nat) (S : gS) (r ed N N2 ci : Nat) (C : String) (h5 : gK S ed = 19 + 32 * r) (hN : gL S ed = N) (hN2 : N ≤ N2 ∧ N2 ≤ 200) (hel : ∀ i, i < N → ∀ y, gY S (19 + 32 * r) ed i = some y → gK S y % 32 = ci + 1) (hvt : ci < 15) (hC : vwCl[ci]?.map (fun q => q.1) = some C) (hca : Cond.castable C "java/lang/Object" ∈ tables_1) : gCt d0 yJ7_copyOf_6403c cJ7_copyOf_6403c 4 (some (.array (.object "java/lang/Object"))) 1 1 N2 [.ref ed, .int (nI N2), .ref d0.2] S (fun v' S' => ∃ q, gK S q = 0 ∧ v' = some (.ref q) ∧ S' = sYr (sM S (19 + 32 * r) q N2) (19 + 32 * r) q (va_cpy (gY S (19 + 32 * r) ed) (fun _ => none) 0 0 N)) gNo := by
  refine gCt_of (lo := [some (.ref ed), some (.int (nI N2)), some (.ref d0.2), none]) (by decide +kernel) (Nat.le_of_ble_eq_true rfl) rfl ?_
  intro Γ hd G F hini
  subst hd
  have em : (if nI N2 < nI N then nI N2 else nI N) = nI N := if_neg (nI_nlt (by omega) (by omega))
  first | refine g_aload_n G dJ7_copyOf_6403c_0 rfl ?_ | refine g_aload_nN G dJ7_copyOf_6403c_0 rfl ?_ | refine g_aload_nQ G dJ7_copyOf_6403c_0 rfl ?_
  refine g_ldcM G cl_J7_110 dJ7_copyOf_6403c_1 ?_
  refine g_acmp_ne (rx := some _) (ry := some _) (tgt := 13) G dJ7_copyOf_6403c_3 (by decide) (fun c_3 => (absurd rfl c_3)) (fun c_3 => ?_)
  refine g_iload_n G dJ7_copyOf_6403c_6 rfl ?_
  refine g_new_obj (κ := 19 + 32 * r) G cl_J7_2 (by omega) rfl (by omega) (by omega) (by omega) dJ7_copyOf_6403c_7 (fun q hq => ?_)
  have k0 : gK (sM S (19 + 32 * r) q N2) ed = 19 + 32 * r := gK_sM h5 hq (by omega)
  have k1 : gL (sM S (19 + 32 * r) q N2) ed = N := (gL_sM (by omega) hq).trans hN
  have n0 : ed ≠ q := fun z => by rw [z, hq] at h5; omega
  have k2 : gY (sM S (19 + 32 * r) q N2) (19 + 32 * r) ed = gY S (19 + 32 * r) ed := funext fun j => if_neg (fun z => n0 z.2)
  refine g_goto (tgt := 24) G dJ7_copyOf_6403c_10 (by decide) ?_
  first | refine g_astore_n G dJ7_copyOf_6403c_24 (gSt_3 rfl) ?_ | refine g_astore_nN G dJ7_copyOf_6403c_24 (gSt_3 rfl) ?_ | refine g_astore_nQ G dJ7_copyOf_6403c_24 (gSt_3 rfl) ?_
  first | refine g_aload_n G dJ7_copyOf_6403c_25 rfl ?_ | refine g_aload_nN G dJ7_copyOf_6403c_25 rfl ?_ | refine g_aload_nQ G dJ7_copyOf_6403c_25 rfl ?_
  refine g_iconst (v := nI 0) G dJ7_copyOf_6403c_26 (by decide) ?_
  first | refine g_aload_n G dJ7_copyOf_6403c_27 rfl ?_ | refine g_aload_nN G dJ7_copyOf_6403c_27 rfl ?_ | refine g_aload_nQ G dJ7_copyOf_6403c_27 rfl ?_
  refine g_iconst (v := nI 0) G dJ7_copyOf_6403c_28 (by decide) ?_
  first | refine g_aload_n G dJ7_copyOf_6403c_29 rfl ?_ | refine g_aload_nN G dJ7_copyOf_6403c_29 rfl ?_ | refine g_aload_nQ G dJ7_copyOf_6403c_29 rfl ?_
  refine g_alen G (by assumption) (by first | decide | omega) (by first | assumption | rfl) dJ7_copyOf_6403c_30 ?_
  refine g_iload_n G dJ7_copyOf_6403c_31 rfl ?_
  refine g_mmin G ml_J7_304 (by decide) (by omega) (by omega) (Nat.le_of_ble_eq_true rfl) (em) dJ7_copyOf_6403c_32 ?_
  refine g_acopyQ (ci := ci) (C := C) (sp := 0) (dp := 0) (N := N) G kac_J7_150 k0 (gK_M _ _ _ _) (by omega) (by omega) (by rw [gM_l]; omega) (by omega) (fun i hi y hy => ?_) hvt hC hca (by decide) (Nat.le_of_ble_eq_true rfl) dJ7_copyOf_6403c_35 ?_
  · rw [k2, Nat.zero_add] at hy
    have h9 := hel i hi y hy
    rw [gK_sM rfl hq (by omega)]
    exact h9
  first | refine g_aload_n G dJ7_copyOf_6403c_38 rfl ?_ | refine g_aload_nN G dJ7_copyOf_6403c_38 rfl ?_ | refine g_aload_nQ G dJ7_copyOf_6403c_38 rfl ?_
  exact g_aret (o := some q) G F (by first | exact Or.inl ⟨_, rfl⟩ | exact Or.inr ⟨_, rfl⟩) (⟨q, hq, rfl, by rw [k2, gM_y]⟩) (by omega) (by omega) dJ7_copyOf_6403c_39

set_option maxHeartbeats 4000000 in
set_option maxRecDepth 100000 in
theorem c_J7_copyOf_1904c (d0 : Nat × Nat) (S : gS) (r ed N N2 ci : Nat) (C : String) (h5 : gK S ed = 19 + 32 * r) (hN : gL S ed = N) (hN2 : N ≤ N2 ∧ N2 ≤ 200) (hel : ∀ i, i < N → ∀ y, gY S (19 + 32 * r) ed i = some y → gK S y % 32 = ci + 1) (hvt : ci < 15) (hC : vwCl[ci]?.map (fun q => q.1) = some C) (hca : Cond.castable C "java/lang/Object" ∈ tables_1) : gCt d0 yJ7_copyOf_1904c cJ7_copyOf_1904c 2 (some (.array (.object "java/lang/Object"))) 2 1 N2 [.ref ed, .int (nI N2)] S (fun v' S' => ∃ q, gK S q = 0 ∧ v' = some (.ref q) ∧ S' = sYr (sM S (19 + 32 * r) q N2) (19 + 32 * r) q (va_cpy (gY S (19 + 32 * r) ed) (fun _ => none) 0 0 N)) gNo := by
  refine gCt_of (lo := [some (.ref ed), some (.int (nI N2))]) (by decide +kernel) (Nat.le_of_ble_eq_true rfl) rfl ?_
  intro Γ hd G F hini
  subst hd
  first | refine g_aload_n G dJ7_copyOf_1904c_0 rfl ?_ | refine g_aload_nN G dJ7_copyOf_1904c_0 rfl ?_ | refine g_aload_nQ G dJ7_copyOf_1904c_0 rfl ?_
  refine g_iload_n G dJ7_copyOf_1904c_1 rfl ?_
  first | refine g_aload_n G dJ7_copyOf_1904c_2 rfl ?_ | refine g_aload_nN G dJ7_copyOf_1904c_2 rfl ?_ | refine g_aload_nQ G dJ7_copyOf_1904c_2 rfl ?_
  refine g_getC G kgc_l h5 (by omega) (by decide) (Nat.le_of_ble_eq_true rfl) dJ7_copyOf_1904c_3 ?_
  refine g_callS G (c_J7_copyOf_6403c _ S r ed N N2 ci C h5 hN hN2 hel hvt hC hca) mt_J7_copyOf_6403c ms_J7_copyOf_6403c ml_J7_300 (by decide) (by omega) (by omega) rfl (Nat.le_of_ble_eq_true rfl) dJ7_copyOf_1904c_6 (fun v_6 S_6 hp_6 => ?_)
  obtain ⟨q, hq, rfl, rfl⟩ := hp_6
  simp only [Option.toList, List.cons_append, List.nil_append]
  exact g_aret (o := some q) G F (by first | exact Or.inl ⟨_, rfl⟩ | exact Or.inr ⟨_, rfl⟩) (⟨q, hq, rfl, rfl⟩) (by omega) (by omega) dJ7_copyOf_1904c_9
