/-! ===== ArrayList.add ===== -/
/-- what a list's own work leaves: all that isn't under its name r -/
def gFrL (S S' : gS) (r : Nat) : Prop := (∀ b, gK S b ≠ 0 → gK S' b = gK S b ∧ gL S' b = gL S b) ∧ (∀ κ, κ ≠ 1 + 32 * r → κ ≠ 19 + 32 * r → gX S' κ = gX S κ ∧ gY S' κ = gY S κ ∧ gZ S' κ = gZ S κ)
theorem u3_kf {α : Type} (f : Nat → Nat → Nat → α) {κ p q a : Nat} (v : α) (h : a ≠ κ) : u3 f κ p q v a = f a := funext fun b => funext fun c => u3_k f v h
theorem u2_kf {α : Type} (f : Nat → Nat → Nat → α) {κ p a : Nat} (v : Nat → α) (h : a ≠ κ) : u2 f κ p v a = f a := funext fun b => funext fun c => u2_k f v h
theorem gM_xk (S : gS) {κ q N a : Nat} (h : a ≠ κ) : gX (sM S κ q N) a = gX S a := funext fun b => funext fun c => if_neg fun z => h z.1
theorem gM_yk (S : gS) {κ q N a : Nat} (h : a ≠ κ) : gY (sM S κ q N) a = gY S a := funext fun b => funext fun c => if_neg fun z => h z.1
theorem gM_zk (S : gS) {κ q N a : Nat} (h : a ≠ κ) : gZ (sM S κ q N) a = gZ S a := funext fun b => funext fun c => if_neg fun z => h z.1
def gGrown (S : gS) (a r N cap : Nat) (f : Nat → Option Nat) (q : Nat) : gS := sY (sYr (sM S (19 + 32 * r) q cap) (19 + 32 * r) q f) (1 + 32 * r) 1 a (some q)

set_option maxHeartbeats 4000000 in
set_option maxRecDepth 100000 in
theorem c_grow1_A (d0 : Nat × Nat) (S : gS) (a r : Nat) (h1 : gK S a = 1 + 32 * r) (h4 : gY S (1 + 32 * r) 1 a = some d0.1) : gCt d0 yJx4a65c_grow_92f84 cJx4a65c_grow_92f84 4 (some (.array (.object "java/lang/Object"))) 1 1 10 [.ref a, .int (nI 1)] S (fun v' S' => ∃ q, gK S q = 0 ∧ v' = some (.ref q) ∧ S' = sY (sM S (19 + 32 * r) q 10) (1 + 32 * r) 1 a (some q)) gNo := by
  refine gCt_of (lo := [some (.ref a), some (.int (nI 1)), none, none]) (by decide +kernel) (Nat.le_of_ble_eq_true rfl) rfl ?_
  intro Γ hd G F hini
  subst hd
  first | refine g_aload_n G dJx4a65c_grow_92f84_0 rfl ?_ | refine g_aload_nN G dJx4a65c_grow_92f84_0 rfl ?_ | refine g_aload_nQ G dJx4a65c_grow_92f84_0 rfl ?_
  first | refine g_getR G fl_Jx4a65c_9 (by assumption) (by first | decide | omega) rfl (by assumption) dJx4a65c_grow_92f84_1 ?_ | refine g_getZ G fl_Jx4a65c_9 (by assumption) (by first | decide | omega) rfl (by assumption) dJx4a65c_grow_92f84_1 ?_ | refine g_getQ G fl_Jx4a65c_9 (by assumption) (by first | decide | omega) rfl (by first | assumption | rfl) dJx4a65c_grow_92f84_1 ?_
  refine g_alenD G dJx4a65c_grow_92f84_4 ?_
  refine g_istore_n G dJx4a65c_grow_92f84_5 (gSt_2 rfl) ?_
  refine g_iload_n G dJx4a65c_grow_92f84_6 rfl ?_
  refine g_if_gt (tgt := 20) G dJx4a65c_grow_92f84_7 (by decide) (fun c_7 => (absurd c_7 (by decide))) (fun c_7 => ?_)
  first | refine g_aload_n G dJx4a65c_grow_92f84_10 rfl ?_ | refine g_aload_nN G dJx4a65c_grow_92f84_10 rfl ?_ | refine g_aload_nQ G dJx4a65c_grow_92f84_10 rfl ?_
  first | refine g_getR G fl_Jx4a65c_9 (by assumption) (by first | decide | omega) rfl (by assumption) dJx4a65c_grow_92f84_11 ?_ | refine g_getZ G fl_Jx4a65c_9 (by assumption) (by first | decide | omega) rfl (by assumption) dJx4a65c_grow_92f84_11 ?_ | refine g_getQ G fl_Jx4a65c_9 (by assumption) (by first | decide | omega) rfl (by first | assumption | rfl) dJx4a65c_grow_92f84_11 ?_
  refine g_getsD G kD_39 dJx4a65c_grow_92f84_14 ?_
  refine g_acmp_eq (rx := some _) (ry := some _) (tgt := 45) G dJx4a65c_grow_92f84_17 (by decide) (fun c_17 => ?_) (fun c_17 => (absurd rfl c_17))
  first | refine g_aload_n G dJx4a65c_grow_92f84_45 rfl ?_ | refine g_aload_nN G dJx4a65c_grow_92f84_45 rfl ?_ | refine g_aload_nQ G dJx4a65c_grow_92f84_45 rfl ?_
  refine g_bipush (v := nI 10) G dJx4a65c_grow_92f84_46 (by decide) ?_
  refine g_iload_n G dJx4a65c_grow_92f84_48 rfl ?_
  refine g_mmax G ml_Jx4a65c_79 (by decide) (by omega) (by omega) (Nat.le_of_ble_eq_true rfl) ((by decide : (if nI 10 < nI 1 then nI 1 else nI 10) = nI 10)) dJx4a65c_grow_92f84_49 ?_
  refine g_new_obj (κ := 19 + 32 * r) G cl_Jx4a65c_7 (by omega) rfl (by omega) (by omega) (by omega) dJx4a65c_grow_92f84_52 (fun q hq => ?_)
  refine g_dup_x1 G dJx4a65c_grow_92f84_55 rfl rfl ?_
  refine g_putQ (v := some q) G fl_Jx4a65c_9 pu_0_1 (gK_sM h1 hq (by omega)) (by omega) rfl dJx4a65c_grow_92f84_56 ?_
  exact g_aret (o := some q) G F (by first | exact Or.inl ⟨_, rfl⟩ | exact Or.inr ⟨_, rfl⟩) (⟨q, hq, rfl, rfl⟩) (by omega) (by omega) dJx4a65c_grow_92f84_59

set_option maxHeartbeats 4000000 in
set_option maxRecDepth 100000 in
theorem c_grow0_A (d0 : Nat × Nat) (S : gS) (a r : Nat) (h1 : gK S a = 1 + 32 * r) (h4 : gY S (1 + 32 * r) 1 a = some d0.1) (h2 : gX S (1 + 32 * r) 2 a = nI 0) : gCt d0 yJx4a65c_grow_d5877 cJx4a65c_grow_d5877 1 (some (.array (.object "java/lang/Object"))) 2 1 10 [.ref a] S (fun v' S' => ∃ q, gK S q = 0 ∧ v' = some (.ref q) ∧ S' = sY (sM S (19 + 32 * r) q 10) (1 + 32 * r) 1 a (some q)) gNo := by
  refine gCt_of (lo := [some (.ref a)]) (by decide +kernel) (Nat.le_of_ble_eq_true rfl) rfl ?_
  intro Γ hd G F hini
  subst hd
  first | refine g_aload_n G dJx4a65c_grow_d5877_0 rfl ?_ | refine g_aload_nN G dJx4a65c_grow_d5877_0 rfl ?_ | refine g_aload_nQ G dJx4a65c_grow_d5877_0 rfl ?_
  first | refine g_aload_n G dJx4a65c_grow_d5877_1 rfl ?_ | refine g_aload_nN G dJx4a65c_grow_d5877_1 rfl ?_ | refine g_aload_nQ G dJx4a65c_grow_d5877_1 rfl ?_
  refine g_getI G fl_Jx4a65c_48 (by assumption) (by first | decide | omega) rfl (by first | assumption | rfl) dJx4a65c_grow_d5877_2 ?_
  refine g_iconst (v := nI 1) G dJx4a65c_grow_d5877_5 (by decide) ?_
  refine g_iadd G dJx4a65c_grow_d5877_6 ((rfl : nI 0 + nI 1 = nI 1)) ?_
  refine g_callV (ci := 0) G (c_grow1_A _ S a r h1 h4) mt_Jx4a65c_grow_92f84 mi_Jx4a65c_grow_92f84 ml_Jx4a65c_69 (by assumption) (by first | decide | omega) rfl (by decide) (by omega) (by omega) rfl (Nat.le_of_ble_eq_true rfl) dJx4a65c_grow_d5877_7 (fun v_7 S_7 hp_7 => ?_)
  obtain ⟨q, hq, rfl, rfl⟩ := hp_7
  simp only [Option.toList, List.cons_append, List.nil_append]
  exact g_aret (o := some q) G F (by first | exact Or.inl ⟨_, rfl⟩ | exact Or.inr ⟨_, rfl⟩) (⟨q, hq, rfl, rfl⟩) (by omega) (by omega) dJx4a65c_grow_d5877_10

set_option maxHeartbeats 4000000 in
set_option maxRecDepth 100000 in
theorem c_grow1_B (d0 : Nat × Nat) (S : gS) (a r ed N ci : Nat) (C : String) (h1 : gK S a = 1 + 32 * r) (h4 : gY S (1 + 32 * r) 1 a = some ed) (h5 : gK S ed = 19 + 32 * r) (hN : gL S ed = N) (hN2 : 10 ≤ N ∧ N ≤ 60) (hel : ∀ i, i < N → ∀ y, gY S (19 + 32 * r) ed i = some y → gK S y % 32 = ci + 1) (hvt : ci < 15) (hC : vwCl[ci]?.map (fun q => q.1) = some C) (hca : Cond.castable C "java/lang/Object" ∈ tables_1) : gCt d0 yJx4a65c_grow_92f84 cJx4a65c_grow_92f84 4 (some (.array (.object "java/lang/Object"))) 3 1 (N + N / 2) [.ref a, .int (nI (N + 1))] S (fun v' S' => ∃ q, gK S q = 0 ∧ v' = some (.ref q) ∧ S' = gGrown S a r N (N + N / 2) (va_cpy (gY S (19 + 32 * r) ed) (fun _ => none) 0 0 N) q) gNo := by
  refine gCt_of (lo := [some (.ref a), some (.int (nI (N + 1))), none, none]) (by decide +kernel) (Nat.le_of_ble_eq_true rfl) rfl ?_
  intro Γ hd G F hini
  subst hd
  first | refine g_aload_n G dJx4a65c_grow_92f84_0 rfl ?_ | refine g_aload_nN G dJx4a65c_grow_92f84_0 rfl ?_ | refine g_aload_nQ G dJx4a65c_grow_92f84_0 rfl ?_
  first | refine g_getR G fl_Jx4a65c_9 (by assumption) (by first | decide | omega) rfl (by assumption) dJx4a65c_grow_92f84_1 ?_ | refine g_getZ G fl_Jx4a65c_9 (by assumption) (by first | decide | omega) rfl (by assumption) dJx4a65c_grow_92f84_1 ?_ | refine g_getQ G fl_Jx4a65c_9 (by assumption) (by first | decide | omega) rfl (by first | assumption | rfl) dJx4a65c_grow_92f84_1 ?_
  refine g_alen G (by assumption) (by first | decide | omega) (by first | assumption | rfl) dJx4a65c_grow_92f84_4 ?_
  refine g_istore_n G dJx4a65c_grow_92f84_5 (gSt_2 rfl) ?_
  refine g_iload_n G dJx4a65c_grow_92f84_6 rfl ?_
  refine g_if_gt (tgt := 20) G dJx4a65c_grow_92f84_7 (by decide) (fun c_7 => ?_) (fun c_7 => (absurd (by rw [← nI_0]; exact nI_lt (by omega) (by omega)) c_7))
  refine g_iload_n G dJx4a65c_grow_92f84_20 rfl ?_
  refine g_iload_n G dJx4a65c_grow_92f84_21 rfl ?_
  refine g_iload_n G dJx4a65c_grow_92f84_22 rfl ?_
  refine g_isub G dJx4a65c_grow_92f84_23 ((show nI (N + 1) - nI N = nI 1 from by rw [pk_sub (by omega), Nat.add_sub_cancel_left])) ?_
  refine g_iload_n G dJx4a65c_grow_92f84_24 rfl ?_
  refine g_iconst (v := nI 1) G dJx4a65c_grow_92f84_25 (by decide) ?_
  refine g_ishr G dJx4a65c_grow_92f84_26 ((show nI N >>> (nI 1 &&& 31) = nI (N / 2) from by have k := pk_shrN (n := N) (by omega) (nI 1 &&& 31) 1 (by decide); rw [Nat.pow_one] at k; exact k)) ?_
  refine g_callSp G (c_J8_newLength_cabcc _ S N (by omega) (by omega)) mt_J8_newLength_cabcc ms_J8_newLength_cabcc ml_Jx4a65c_73 (by decide) (by omega) (by omega) rfl (Nat.le_of_ble_eq_true rfl) dJx4a65c_grow_92f84_27 ?_
  refine g_istore_n G dJx4a65c_grow_92f84_30 (gSt_3 rfl) ?_
  first | refine g_aload_n G dJx4a65c_grow_92f84_31 rfl ?_ | refine g_aload_nN G dJx4a65c_grow_92f84_31 rfl ?_ | refine g_aload_nQ G dJx4a65c_grow_92f84_31 rfl ?_
  first | refine g_aload_n G dJx4a65c_grow_92f84_32 rfl ?_ | refine g_aload_nN G dJx4a65c_grow_92f84_32 rfl ?_ | refine g_aload_nQ G dJx4a65c_grow_92f84_32 rfl ?_
  first | refine g_getR G fl_Jx4a65c_9 (by assumption) (by first | decide | omega) rfl (by assumption) dJx4a65c_grow_92f84_33 ?_ | refine g_getZ G fl_Jx4a65c_9 (by assumption) (by first | decide | omega) rfl (by assumption) dJx4a65c_grow_92f84_33 ?_ | refine g_getQ G fl_Jx4a65c_9 (by assumption) (by first | decide | omega) rfl (by first | assumption | rfl) dJx4a65c_grow_92f84_33 ?_
  refine g_iload_n G dJx4a65c_grow_92f84_36 rfl ?_
  refine g_callS G (c_J7_copyOf_1904c _ S r ed N (N + N / 2) ci C h5 hN (by omega) hel hvt hC hca) mt_J7_copyOf_1904c ms_J7_copyOf_1904c ml_Jx4a65c_66 (by decide) (by omega) (by omega) rfl (Nat.le_of_ble_eq_true rfl) dJx4a65c_grow_92f84_37 (fun v_37 S_37 hp_37 => ?_)
  obtain ⟨q, hq, rfl, rfl⟩ := hp_37
  simp only [Option.toList, List.cons_append, List.nil_append]
  refine g_dup_x1 G dJx4a65c_grow_92f84_40 rfl rfl ?_
  refine g_putQ (v := some q) G fl_Jx4a65c_9 pu_0_1 (gK_sM (N := N + N / 2) h1 hq (by omega)) (by omega) rfl dJx4a65c_grow_92f84_41 ?_
  exact g_aret (o := some q) G F (by first | exact Or.inl ⟨_, rfl⟩ | exact Or.inr ⟨_, rfl⟩) (⟨q, hq, rfl, rfl⟩) (by omega) (by omega) dJx4a65c_grow_92f84_44

set_option maxHeartbeats 4000000 in
set_option maxRecDepth 100000 in
theorem c_grow0_B (d0 : Nat × Nat) (S : gS) (a r ed N ci : Nat) (C : String) (h1 : gK S a = 1 + 32 * r) (h4 : gY S (1 + 32 * r) 1 a = some ed) (h5 : gK S ed = 19 + 32 * r) (hN : gL S ed = N) (hN2 : 10 ≤ N ∧ N ≤ 60) (hel : ∀ i, i < N → ∀ y, gY S (19 + 32 * r) ed i = some y → gK S y % 32 = ci + 1) (hvt : ci < 15) (hC : vwCl[ci]?.map (fun q => q.1) = some C) (hca : Cond.castable C "java/lang/Object" ∈ tables_1) (h2 : gX S (1 + 32 * r) 2 a = nI N) : gCt d0 yJx4a65c_grow_d5877 cJx4a65c_grow_d5877 1 (some (.array (.object "java/lang/Object"))) 4 1 (N + N / 2) [.ref a] S (fun v' S' => ∃ q, gK S q = 0 ∧ v' = some (.ref q) ∧ S' = gGrown S a r N (N + N / 2) (va_cpy (gY S (19 + 32 * r) ed) (fun _ => none) 0 0 N) q) gNo := by
  refine gCt_of (lo := [some (.ref a)]) (by decide +kernel) (Nat.le_of_ble_eq_true rfl) rfl ?_
  intro Γ hd G F hini
  subst hd
  first | refine g_aload_n G dJx4a65c_grow_d5877_0 rfl ?_ | refine g_aload_nN G dJx4a65c_grow_d5877_0 rfl ?_ | refine g_aload_nQ G dJx4a65c_grow_d5877_0 rfl ?_
  first | refine g_aload_n G dJx4a65c_grow_d5877_1 rfl ?_ | refine g_aload_nN G dJx4a65c_grow_d5877_1 rfl ?_ | refine g_aload_nQ G dJx4a65c_grow_d5877_1 rfl ?_
  refine g_getI G fl_Jx4a65c_48 (by assumption) (by first | decide | omega) rfl (by first | assumption | rfl) dJx4a65c_grow_d5877_2 ?_
  refine g_iconst (v := nI 1) G dJx4a65c_grow_d5877_5 (by decide) ?_
  refine g_iadd G dJx4a65c_grow_d5877_6 (by first | exact nI_add _ _ | rfl) ?_
  refine g_callV (ci := 0) G (c_grow1_B _ S a r ed N ci C h1 h4 h5 hN hN2 hel hvt hC hca) mt_Jx4a65c_grow_92f84 mi_Jx4a65c_grow_92f84 ml_Jx4a65c_69 (by assumption) (by first | decide | omega) rfl (by decide) (by omega) (by omega) rfl (Nat.le_of_ble_eq_true rfl) dJx4a65c_grow_d5877_7 (fun v_7 S_7 hp_7 => ?_)
  obtain ⟨q, hq, rfl, rfl⟩ := hp_7
  simp only [Option.toList, List.cons_append, List.nil_append]
  exact g_aret (o := some q) G F (by first | exact Or.inl ⟨_, rfl⟩ | exact Or.inr ⟨_, rfl⟩) (⟨q, hq, rfl, rfl⟩) (by omega) (by omega) dJx4a65c_grow_d5877_10


theorem gAdd_A {d0 : Nat × Nat} {S : gS} {a r e q : Nat} {el : Nat → Nat} (h1 : gK S a = 1 + 32 * r) (hq : gK S q = 0) :
    gLst d0 (sX (sY (sY (sM S (19 + 32 * r) q 10) (1 + 32 * r) 1 a (some q)) (19 + 32 * r) q 0 (some e)) (1 + 32 * r) 2 a (nI (0 + 1))) a r (0 + 1) (fun i => if i = 0 then e else el i) ∧ gFrL S (sX (sY (sY (sM S (19 + 32 * r) q 10) (1 + 32 * r) 1 a (some q)) (19 + 32 * r) q 0 (some e)) (1 + 32 * r) 2 a (nI (0 + 1))) r := by
  have hL : gL (sM S (19 + 32 * r) q 10) q = 10 := gM_l _ _ _ _
  refine ⟨⟨gK_sM (N := 10) h1 hq (by omega), u3_same _ _ _ _ _, by omega, q, (u3_k _ _ (by omega)).trans (u3_same _ _ _ _ _), Or.inr ⟨gK_M S (19 + 32 * r) q 10, by show 0 + 1 ≤ gL (sM S (19 + 32 * r) q 10) q; omega, by show 10 ≤ gL (sM S (19 + 32 * r) q 10) q; omega, by show gL (sM S (19 + 32 * r) q 10) q ≤ 100; omega, fun i hi => ?_⟩⟩, fun b hb => ⟨va_up_ne _ _ (fun z => hb (z ▸ hq)), va_up_ne _ _ (fun z => hb (z ▸ hq))⟩, fun κ k1 k2 => ⟨(u3_kf _ _ k1).trans (gM_xk (N := 10) S k2), (u3_kf _ _ k2).trans ((u3_kf _ _ k1).trans (gM_yk (N := 10) S k2)), gM_zk (N := 10) S k2⟩⟩
  have : i = 0 := by omega
  subst this
  simp only [if_true]
  exact u3_same _ _ _ _ _
theorem gAdd_B {d0 : Nat × Nat} {S : gS} {a r e ed N : Nat} {el : Nat → Nat} (h1 : gK S a = 1 + 32 * r) (h3 : N ≤ 59) (h4 : gY S (1 + 32 * r) 1 a = some ed) (h5 : gK S ed = 19 + 32 * r) (h6 : N < gL S ed) (h7 : 10 ≤ gL S ed) (h8 : gL S ed ≤ 100) (h9 : ∀ i, i < N → gY S (19 + 32 * r) ed i = some (el i)) :
    gLst d0 (sX (sY S (19 + 32 * r) ed N (some e)) (1 + 32 * r) 2 a (nI (N + 1))) a r (N + 1) (fun i => if i = N then e else el i) ∧ gFrL S (sX (sY S (19 + 32 * r) ed N (some e)) (1 + 32 * r) 2 a (nI (N + 1))) r := by
  refine ⟨⟨h1, u3_same _ _ _ _ _, by omega, ed, (u3_k _ _ (by omega)).trans h4, Or.inr ⟨h5, h6, h7, h8, fun i hi => ?_⟩⟩, fun b hb => ⟨rfl, rfl⟩, fun κ k1 k2 => ⟨u3_kf _ _ k1, u3_kf _ _ k2, rfl⟩⟩
  by_cases hiN : i = N
  · subst hiN
    simp only [if_true]
    exact u3_same _ _ _ _ _
  · simp only [if_neg hiN]
    exact (u3_q _ _ hiN).trans (h9 i (by omega))
theorem gAdd_C {d0 : Nat × Nat} {S : gS} {a r e ed q N : Nat} {el : Nat → Nat} (h1 : gK S a = 1 + 32 * r) (h3 : 10 ≤ N ∧ N ≤ 59) (hq : gK S q = 0) (h9 : ∀ i, i < N → gY S (19 + 32 * r) ed i = some (el i)) :
    gLst d0 (sX (sY (gGrown S a r N (N + N / 2) (va_cpy (gY S (19 + 32 * r) ed) (fun _ => none) 0 0 N) q) (19 + 32 * r) q N (some e)) (1 + 32 * r) 2 a (nI (N + 1))) a r (N + 1) (fun i => if i = N then e else el i) ∧ gFrL S (sX (sY (gGrown S a r N (N + N / 2) (va_cpy (gY S (19 + 32 * r) ed) (fun _ => none) 0 0 N) q) (19 + 32 * r) q N (some e)) (1 + 32 * r) 2 a (nI (N + 1))) r := by
  have hL : gL (sM S (19 + 32 * r) q (N + N / 2)) q = N + N / 2 := gM_l _ _ _ _
  refine ⟨⟨gK_sM (N := N + N / 2) h1 hq (by omega), u3_same _ _ _ _ _, by omega, q, (u3_k _ _ (by omega)).trans (u3_same _ _ _ _ _), Or.inr ⟨gK_M S (19 + 32 * r) q (N + N / 2), by show N + 1 ≤ gL (sM S (19 + 32 * r) q (N + N / 2)) q; omega, by show 10 ≤ gL (sM S (19 + 32 * r) q (N + N / 2)) q; omega, by show gL (sM S (19 + 32 * r) q (N + N / 2)) q ≤ 100; omega, fun i hi => ?_⟩⟩, fun b hb => ⟨va_up_ne _ _ (fun z => hb (z ▸ hq)), va_up_ne _ _ (fun z => hb (z ▸ hq))⟩, fun κ k1 k2 => ⟨(u3_kf _ _ k1).trans (gM_xk (N := N + N / 2) S k2), (u3_kf _ _ k2).trans ((u3_kf _ _ k1).trans ((u2_kf _ _ k2).trans (gM_yk (N := N + N / 2) S k2))), gM_zk (N := N + N / 2) S k2⟩⟩
  by_cases hiN : i = N
  · subst hiN
    simp only [if_true]
    exact u3_same _ _ _ _ _
  · simp only [if_neg hiN]
    refine (u3_q _ _ hiN).trans ((u3_k _ _ (by omega)).trans ?_)
    show u2 (gY (sM S (19 + 32 * r) q (N + N / 2))) (19 + 32 * r) q (va_cpy (gY S (19 + 32 * r) ed) (fun _ => none) 0 0 N) (19 + 32 * r) q i = _
    rw [u2_same, pk_cpy_in (by omega) (by omega), Nat.zero_add, Nat.sub_zero]
    exact h9 i (by omega)
theorem gLst_mod {d0 : Nat × Nat} {S : gS} {a r N : Nat} {el : Nat → Nat} {v : Int32} (h : gLst d0 S a r N el) : gLst d0 (sX S (1 + 32 * r) 0 a v) a r N el ∧ gFrL S (sX S (1 + 32 * r) 0 a v) r := by
  obtain ⟨h1, h2, h3, ed, h4, h5⟩ := h
  exact ⟨⟨h1, (u3_p _ _ (by omega)).trans h2, h3, ed, h4, h5⟩, fun b hb => ⟨rfl, rfl⟩, fun κ k1 k2 => ⟨u3_kf _ _ k1, rfl, rfl⟩⟩
theorem gFrL.trans {S S1 S2 : gS} {r : Nat} (h : gFrL S S1 r) (h2 : gFrL S1 S2 r) : gFrL S S2 r :=
  ⟨fun b hb => by
    have e1 := h.1 b hb
    have e2 := h2.1 b (by rw [e1.1]; exact hb)
    exact ⟨e2.1.trans e1.1, e2.2.trans e1.2⟩, fun κ k1 k2 => ⟨(h2.2 κ k1 k2).1.trans (h.2 κ k1 k2).1, (h2.2 κ k1 k2).2.1.trans (h.2 κ k1 k2).2.1, (h2.2 κ k1 k2).2.2.trans (h.2 κ k1 k2).2.2⟩⟩

set_option maxHeartbeats 4000000 in
set_option maxRecDepth 100000 in
theorem c_add3 (d0 : Nat × Nat) (S : gS) (a r e ed N : Nat) (el : Nat → Nat) (h1 : gK S a = 1 + 32 * r) (h2 : gX S (1 + 32 * r) 2 a = nI N) (h3 : N ≤ 59) (h4 : gY S (1 + 32 * r) 1 a = some ed) (h5 : (N = 0 ∧ ed = d0.1) ∨ (gK S ed = 19 + 32 * r ∧ N ≤ gL S ed ∧ 10 ≤ gL S ed ∧ gL S ed ≤ 100 ∧ ∀ i, i < N → gY S (19 + 32 * r) ed i = some (el i))) (ci : Nat) (C : String) (he : gK S e % 32 = ci + 1) (hels : ∀ i, i < N → gK S (el i) % 32 = ci + 1) (hvt : ci < 15) (hC : vwCl[ci]?.map (fun q => q.1) = some C) (hca : Cond.castable C "java/lang/Object" ∈ tables_1) : gCt d0 yJx4a65c_add_72be8 cJx4a65c_add_72be8 4 none 5 1 100 [.ref a, .ref e, .ref ed, .int (nI N)] S (fun v' S' => v' = none ∧ gLst d0 S' a r (N + 1) (fun i => if i = N then e else el i) ∧ gFrL S S' r) gNo := by
  refine gCt_of (lo := [some (.ref a), some (.ref e), some (.ref ed), some (.int (nI N))]) (by decide +kernel) (Nat.le_of_ble_eq_true rfl) rfl ?_
  intro Γ hd G F hini
  subst hd
  rcases h5 with ⟨rfl, rfl⟩ | ⟨h5, h6, h7, h8, h9⟩
  · refine g_iload_n G dJx4a65c_add_72be8_0 rfl ?_
    first | refine g_aload_n G dJx4a65c_add_72be8_1 rfl ?_ | refine g_aload_nN G dJx4a65c_add_72be8_1 rfl ?_ | refine g_aload_nQ G dJx4a65c_add_72be8_1 rfl ?_
    refine g_alenD G dJx4a65c_add_72be8_2 ?_
    refine g_icmp_ne (tgt := 11) G dJx4a65c_add_72be8_3 (by decide) (fun c_3 => (absurd rfl c_3)) (fun c_3 => ?_)
    first | refine g_aload_n G dJx4a65c_add_72be8_6 rfl ?_ | refine g_aload_nN G dJx4a65c_add_72be8_6 rfl ?_ | refine g_aload_nQ G dJx4a65c_add_72be8_6 rfl ?_
    refine g_callV (ci := 0) G (c_grow0_A _ S a r h1 h4 h2) mt_Jx4a65c_grow_d5877 mi_Jx4a65c_grow_d5877 ml_Jx4a65c_129 (by assumption) (by first | decide | omega) rfl (by decide) (by omega) (by omega) rfl (Nat.le_of_ble_eq_true rfl) dJx4a65c_add_72be8_7 (fun v_7 S_7 hp_7 => ?_)
    obtain ⟨q, hq, rfl, rfl⟩ := hp_7
    simp only [Option.toList, List.cons_append, List.nil_append]
    have hLq : gL (sM S (19 + 32 * r) q 10) q = 10 := gM_l _ _ _ _
    first | refine g_astore_n G dJx4a65c_add_72be8_10 (gSt_2 rfl) ?_ | refine g_astore_nN G dJx4a65c_add_72be8_10 (gSt_2 rfl) ?_ | refine g_astore_nQ G dJx4a65c_add_72be8_10 (gSt_2 rfl) ?_
    first | refine g_aload_n G dJx4a65c_add_72be8_11 rfl ?_ | refine g_aload_nN G dJx4a65c_add_72be8_11 rfl ?_ | refine g_aload_nQ G dJx4a65c_add_72be8_11 rfl ?_
    refine g_iload_n G dJx4a65c_add_72be8_12 rfl ?_
    first | refine g_aload_n G dJx4a65c_add_72be8_13 rfl ?_ | refine g_aload_nN G dJx4a65c_add_72be8_13 rfl ?_ | refine g_aload_nQ G dJx4a65c_add_72be8_13 rfl ?_
    refine g_aastO (ci := ci) (C := C) G (gK_M S (19 + 32 * r) q 10) (by omega) (gK_sM (N := 10) rfl hq (by omega)) ⟨he, hvt⟩ hC hca (by show 0 < gL (sM S (19 + 32 * r) q 10) q; omega) (by omega) dJx4a65c_add_72be8_14 ?_
    first | refine g_aload_n G dJx4a65c_add_72be8_15 rfl ?_ | refine g_aload_nN G dJx4a65c_add_72be8_15 rfl ?_ | refine g_aload_nQ G dJx4a65c_add_72be8_15 rfl ?_
    refine g_iload_n G dJx4a65c_add_72be8_16 rfl ?_
    refine g_iconst (v := nI 1) G dJx4a65c_add_72be8_17 (by decide) ?_
    refine g_iadd G dJx4a65c_add_72be8_18 (by first | exact nI_add _ _ | rfl) ?_
    refine g_putI G fl_Jx4a65c_48 pu_0_2 (gK_sM (N := 10) h1 hq (by omega)) (by first | decide | omega) rfl dJx4a65c_add_72be8_19 ?_
    exact g_vret G F (⟨rfl, gAdd_A h1 hq⟩) (by omega) (by omega) dJx4a65c_add_72be8_22
  · have hgl : gL S ed = gL S ed := rfl
    refine g_iload_n G dJx4a65c_add_72be8_0 rfl ?_
    first | refine g_aload_n G dJx4a65c_add_72be8_1 rfl ?_ | refine g_aload_nN G dJx4a65c_add_72be8_1 rfl ?_ | refine g_aload_nQ G dJx4a65c_add_72be8_1 rfl ?_
    refine g_alen G (by assumption) (by first | decide | omega) (by first | assumption | rfl) dJx4a65c_add_72be8_2 ?_
    refine g_icmp_ne (tgt := 11) G dJx4a65c_add_72be8_3 (by decide) (fun c_3 => ?_) (fun c_3 => ?_)
    · have n3 : N ≠ gL S ed := fun z => c_3 (by rw [← z])
      first | refine g_aload_n G dJx4a65c_add_72be8_11 rfl ?_ | refine g_aload_nN G dJx4a65c_add_72be8_11 rfl ?_ | refine g_aload_nQ G dJx4a65c_add_72be8_11 rfl ?_
      refine g_iload_n G dJx4a65c_add_72be8_12 rfl ?_
      first | refine g_aload_n G dJx4a65c_add_72be8_13 rfl ?_ | refine g_aload_nN G dJx4a65c_add_72be8_13 rfl ?_ | refine g_aload_nQ G dJx4a65c_add_72be8_13 rfl ?_
      refine g_aastO (ci := ci) (C := C) G h5 (by omega) rfl ⟨he, hvt⟩ hC hca (by omega) (by omega) dJx4a65c_add_72be8_14 ?_
      first | refine g_aload_n G dJx4a65c_add_72be8_15 rfl ?_ | refine g_aload_nN G dJx4a65c_add_72be8_15 rfl ?_ | refine g_aload_nQ G dJx4a65c_add_72be8_15 rfl ?_
      refine g_iload_n G dJx4a65c_add_72be8_16 rfl ?_
      refine g_iconst (v := nI 1) G dJx4a65c_add_72be8_17 (by decide) ?_
      refine g_iadd G dJx4a65c_add_72be8_18 (by first | exact nI_add _ _ | rfl) ?_
      refine g_putI G fl_Jx4a65c_48 pu_0_2 (by assumption) (by first | decide | omega) rfl dJx4a65c_add_72be8_19 ?_
      exact g_vret G F (⟨rfl, gAdd_B h1 h3 h4 h5 (by omega) h7 h8 h9⟩) (by omega) (by omega) dJx4a65c_add_72be8_22
    · have n3 : N = gL S ed := (nI_eq (by omega) (by omega)).mp c_3
      first | refine g_aload_n G dJx4a65c_add_72be8_6 rfl ?_ | refine g_aload_nN G dJx4a65c_add_72be8_6 rfl ?_ | refine g_aload_nQ G dJx4a65c_add_72be8_6 rfl ?_
      refine g_callV (ci := 0) G (c_grow0_B _ S a r ed N ci C h1 h4 h5 n3.symm (by omega) (fun i hi y hy => by rw [h9 i hi] at hy; cases hy; exact hels i hi) hvt hC hca h2) mt_Jx4a65c_grow_d5877 mi_Jx4a65c_grow_d5877 ml_Jx4a65c_129 (by assumption) (by first | decide | omega) rfl (by decide) (by omega) (by omega) rfl (Nat.le_of_ble_eq_true rfl) dJx4a65c_add_72be8_7 (fun v_7 S_7 hp_7 => ?_)
      obtain ⟨q, hq, rfl, rfl⟩ := hp_7
      simp only [Option.toList, List.cons_append, List.nil_append]
      have hLq : gL (sM S (19 + 32 * r) q (N + N / 2)) q = N + N / 2 := gM_l _ _ _ _
      first | refine g_astore_n G dJx4a65c_add_72be8_10 (gSt_2 rfl) ?_ | refine g_astore_nN G dJx4a65c_add_72be8_10 (gSt_2 rfl) ?_ | refine g_astore_nQ G dJx4a65c_add_72be8_10 (gSt_2 rfl) ?_
      first | refine g_aload_n G dJx4a65c_add_72be8_11 rfl ?_ | refine g_aload_nN G dJx4a65c_add_72be8_11 rfl ?_ | refine g_aload_nQ G dJx4a65c_add_72be8_11 rfl ?_
      refine g_iload_n G dJx4a65c_add_72be8_12 rfl ?_
      first | refine g_aload_n G dJx4a65c_add_72be8_13 rfl ?_ | refine g_aload_nN G dJx4a65c_add_72be8_13 rfl ?_ | refine g_aload_nQ G dJx4a65c_add_72be8_13 rfl ?_
      refine g_aastO (ci := ci) (C := C) G (gK_M S (19 + 32 * r) q (N + N / 2)) (by omega) (gK_sM (N := N + N / 2) rfl hq (by omega)) ⟨he, hvt⟩ hC hca (by show N < gL (sM S (19 + 32 * r) q (N + N / 2)) q; omega) (by omega) dJx4a65c_add_72be8_14 ?_
      first | refine g_aload_n G dJx4a65c_add_72be8_15 rfl ?_ | refine g_aload_nN G dJx4a65c_add_72be8_15 rfl ?_ | refine g_aload_nQ G dJx4a65c_add_72be8_15 rfl ?_
      refine g_iload_n G dJx4a65c_add_72be8_16 rfl ?_
      refine g_iconst (v := nI 1) G dJx4a65c_add_72be8_17 (by decide) ?_
      refine g_iadd G dJx4a65c_add_72be8_18 (by first | exact nI_add _ _ | rfl) ?_
      refine g_putI G fl_Jx4a65c_48 pu_0_2 (gK_sM (N := N + N / 2) h1 hq (by omega)) (by first | decide | omega) rfl dJx4a65c_add_72be8_19 ?_
      exact g_vret G F (⟨rfl, gAdd_C h1 (by omega) hq h9⟩) (by omega) (by omega) dJx4a65c_add_72be8_22

set_option maxHeartbeats 4000000 in
set_option maxRecDepth 100000 in
theorem c_add (d0 : Nat × Nat) (S : gS) (a r e N : Nat) (el : Nat → Nat) (h : gLst d0 S a r N el) (h3 : N ≤ 59) (ci : Nat) (C : String) (he : gK S e % 32 = ci + 1) (hels : ∀ i, i < N → gK S (el i) % 32 = ci + 1) (hvt : ci < 15) (hC : vwCl[ci]?.map (fun q => q.1) = some C) (hca : Cond.castable C "java/lang/Object" ∈ tables_1) : gCt d0 yJx4a65c_add_9ea2d cJx4a65c_add_9ea2d 2 (some .boolean) 6 1 100 [.ref a, .ref e] S (fun v' S' => v' = some (.int (nI 1)) ∧ gLst d0 S' a r (N + 1) (fun i => if i = N then e else el i) ∧ gFrL S S' r) gNo := by
  refine gCt_of (lo := [some (.ref a), some (.ref e)]) (by decide +kernel) (Nat.le_of_ble_eq_true rfl) rfl ?_
  intro Γ hd G F hini
  have h9 := gLst_mod (v := gX S (1 + 32 * r) 0 a + nI 1) h
  obtain ⟨h1, h2, h30, ed, h4, h5⟩ := id h9.1
  obtain ⟨z1, -⟩ := id h
  first | refine g_aload_n G dJx4a65c_add_9ea2d_0 rfl ?_ | refine g_aload_nN G dJx4a65c_add_9ea2d_0 rfl ?_ | refine g_aload_nQ G dJx4a65c_add_9ea2d_0 rfl ?_
  refine g_dup G dJx4a65c_add_9ea2d_1 rfl ?_
  refine g_getI G fl_Jx4a65c_63 (z1) (by first | decide | omega) rfl (by first | assumption | rfl) dJx4a65c_add_9ea2d_2 ?_
  refine g_iconst (v := nI 1) G dJx4a65c_add_9ea2d_5 (by decide) ?_
  refine g_iadd G dJx4a65c_add_9ea2d_6 (rfl) ?_
  refine g_putI G fl_Jx4a65c_63 pu_0_0 (z1) (by first | decide | omega) rfl dJx4a65c_add_9ea2d_7 ?_
  first | refine g_aload_n G dJx4a65c_add_9ea2d_10 rfl ?_ | refine g_aload_nN G dJx4a65c_add_9ea2d_10 rfl ?_ | refine g_aload_nQ G dJx4a65c_add_9ea2d_10 rfl ?_
  first | refine g_aload_n G dJx4a65c_add_9ea2d_11 rfl ?_ | refine g_aload_nN G dJx4a65c_add_9ea2d_11 rfl ?_ | refine g_aload_nQ G dJx4a65c_add_9ea2d_11 rfl ?_
  first | refine g_aload_n G dJx4a65c_add_9ea2d_12 rfl ?_ | refine g_aload_nN G dJx4a65c_add_9ea2d_12 rfl ?_ | refine g_aload_nQ G dJx4a65c_add_9ea2d_12 rfl ?_
  first | refine g_getR G fl_Jx4a65c_9 (by assumption) (by first | decide | omega) rfl (by assumption) dJx4a65c_add_9ea2d_13 ?_ | refine g_getZ G fl_Jx4a65c_9 (by assumption) (by first | decide | omega) rfl (by assumption) dJx4a65c_add_9ea2d_13 ?_ | refine g_getQ G fl_Jx4a65c_9 (by assumption) (by first | decide | omega) rfl (by first | assumption | rfl) dJx4a65c_add_9ea2d_13 ?_
  first | refine g_aload_n G dJx4a65c_add_9ea2d_16 rfl ?_ | refine g_aload_nN G dJx4a65c_add_9ea2d_16 rfl ?_ | refine g_aload_nQ G dJx4a65c_add_9ea2d_16 rfl ?_
  refine g_getI G fl_Jx4a65c_48 (by assumption) (by first | decide | omega) rfl (by first | assumption | rfl) dJx4a65c_add_9ea2d_17 ?_
  refine g_callV (ci := 0) G (c_add3 _ _ a r e ed N el h1 h2 h3 h4 (by rw [hd]; exact h5) ci C he hels hvt hC hca) mt_Jx4a65c_add_72be8 mi_Jx4a65c_add_72be8 ml_Jx4a65c_131 (by assumption) (by first | decide | omega) rfl (by decide) (by omega) (by omega) rfl (Nat.le_of_ble_eq_true rfl) dJx4a65c_add_9ea2d_20 (fun v_20 S_20 hp_20 => ?_)
  obtain ⟨rfl, h7, h8⟩ := hp_20
  simp only [Option.toList, List.nil_append]
  refine g_iconst (v := nI 1) G dJx4a65c_add_9ea2d_23 (by decide) ?_
  exact g_zret G F (by first | exact Or.inl rfl | exact Or.inr rfl | assumption) (⟨rfl, hd ▸ h7, h9.2.trans h8⟩) (by omega) (by omega) dJx4a65c_add_9ea2d_24
