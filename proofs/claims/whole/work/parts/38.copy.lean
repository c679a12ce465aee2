/-! ===== a switch with single numbers, a row's copy ===== -/
section GLK
variable {Γ : gC} {own : String} {cc : ByteArray} {n mc ms pc : Nat} {lo lo' : List (Option Value)} {st rest : List Value} {S : gS} {k sl : Nat}
theorem g_lookup (G : gOK Γ own cc n mc ms) {dflt : Int} {ps : Array (Int × Int)} {len : Nat} {x : Int32} {off : Int} {tgt : Nat} (d : decode cc pc = .ok (.lookupswitch dflt ps, len)) (hp : (ps.toList.zip (ps.toList.drop 1)).all (fun (a, next) => a.1 < next.1) = true) (ho : Op.lookupswitch.offset ps.toList dflt x.toInt = off) (ht : (pc : Int) + off = (tgt : Int)) (kk : gW Γ tgt lo st S k sl) : gW Γ pc lo (.int x :: st) S k sl := by
  obtain ⟨p, l, e1, R, s, m, args, below, meth, c, Q, A, D, cT, d0⟩ := Γ
  obtain ⟨hx, hb, hown, hts, hK, hA, hV, hRf, hRl, hRc, hRs⟩ := G
  intro H locs ls hR hS hL
  exact lv_lookup hx hb d hp ho ht (kk H locs ls hR hS hL)
theorem g_clone (G : gOK Γ own cc n mc ms) {index a κ κ' : Nat} {nm : String} (hκ : gK S a = κ) (ht : κ % 32 = 16 ∧ κ' % 32 = 16 ∧ nm = "[B" ∨ κ % 32 = 17 ∧ κ' % 32 = 17 ∧ nm = "[I") (ml : Cond.methodLink own index ⟨nm, "clone", "()Ljava/lang/Object;"⟩ ∈ gWords) (hm : Cond.sameMethod nm "java/lang/Object" "clone" "()Ljava/lang/Object;" ∈ gWords) (hs : Cond.selects nm ⟨nm, "clone", "()Ljava/lang/Object;"⟩ ⟨"java/lang/Object", "clone", "()Ljava/lang/Object;"⟩ ∈ gWords) (hc : Cond.castable nm "java/lang/Cloneable" ∈ tables_1)
    (hfit : ∀ i, i < gL S a → fits (gTy (κ % 32)) (.int (gX S κ a i)) = true) (hn : 1 ≤ n) (hcat : (st.map fun v => v.category).sum ≤ 8) (hk : k + 1 ≤ mc) (hsl : sl + gL S a ≤ ms) (d : decode cc pc = .ok (.invokevirtual index, 3))
    (kk : ∀ q : Nat, gK S q = 0 → gW Γ (pc + 3) lo (.ref q :: st) (sXr (sM S κ' q (gL S a)) κ' q (gX S κ a)) (k + 1) (sl + gL S a)) : gW Γ pc lo (.ref a :: st) S k sl := by
  obtain ⟨p, l, e1, R, s, m, args, below, meth, c, Q, A, D, cT, d0⟩ := Γ
  obtain ⟨hx, hb, hown, hts, hK, hA, hV, hRf, hRl, hRc, hRs⟩ := G
  intro H locs ls hR hS hL
  obtain ⟨ws, hP, hD, hw⟩ := hR
  have h0 : gK S a ≠ 0 := by rw [hκ]; omega
  obtain ⟨q0, he⟩ := hw.2 a h0
  rw [gEnt_i hκ (by omega)] at he
  have hgo : ∀ (q : Nat) (e : va_E), e = .inl (cT (κ % 32), (gL S a, .inl (gX S κ a))) → va_D A (ws ++ [(q, e)]) → κ % 32 = κ' % 32 → κ' % 32 = 16 ∨ κ' % 32 = 17 → gK S q = 0 ∧ gWs cT (sXr (sM S κ' q (gL S a)) κ' q (gX S κ a)) (ws ++ [(q, e)]) := by
    intro q e he9 hD1 e17 e18
    have hq := hw.fresh hD1
    refine ⟨hq, ?_⟩
    have h9 := hw.new (T := sXr (sM S κ' q (gL S a)) κ' q (gX S κ a)) hq (by omega : κ' ≠ 0) rfl (fun b hb hb2 => (gEnt_aXr (by omega) b hb (fun z => hb2 ((va_up_ne _ _ hb).symm.trans z))).trans (gEnt_nM (by omega) b hb hb2))
    rw [gEnt_i (S := sXr (sM S κ' q (gL S a)) κ' q (gX S κ a)) (va_up_self _ _ _) (by omega), show gX (sXr (sM S κ' q (gL S a)) κ' q (gX S κ a)) κ' q = gX S κ a from u2_same _ _ _ _, show gL (sXr (sM S κ' q (gL S a)) κ' q (gX S κ a)) q = gL S a from va_up_self _ _ _, ← e17, ← he9] at h9
    exact h9
  rcases ht with ⟨ht, ht', rfl⟩ | ⟨ht, ht', rfl⟩
  · rw [ht] at he hfit hgo
    refine va_clone hx hb hL.1.symm hown (hts _ ml) (hts _ hm) (hts _ kcl_n) (hts _ kcl_i) (hts _ hs) (hV.2.2.1 _ hc rfl) hK hP hD hS hA q0 0 (ty := .byte) he rfl (va_nm_byte (hK.2 0 (cT 16, .byte) rfl).2) (fun i v hv => va_fit (fun j hj => hfit j hj) i v hv) (by rw [hRf.1]; exact hn) (by rw [hRl]; omega) (by rw [hRc]; exact hk) (by rw [hRs]; exact hsl) d (fun q H1 hK1 hP1 hD1 hS1 => ?_)
    obtain ⟨z1, z2⟩ := hgo q _ rfl hD1 ht'.symm (Or.inl ht')
    exact kk q z1 H1 locs ls ⟨_, hP1, hD1, z2⟩ hS1 hL
  · rw [ht] at he hfit hgo
    refine va_clone hx hb hL.1.symm hown (hts _ ml) (hts _ hm) (hts _ kcl_n) (hts _ kcl_i) (hts _ hs) (hV.2.2.1 _ hc rfl) hK hP hD hS hA q0 1 (ty := .int) he rfl (va_nm_int (hK.2 1 (cT 17, .int) rfl).2) (fun i v hv => va_fit (fun j hj => hfit j hj) i v hv) (by rw [hRf.1]; exact hn) (by rw [hRl]; omega) (by rw [hRc]; exact hk) (by rw [hRs]; exact hsl) d (fun q H1 hK1 hP1 hD1 hS1 => ?_)
    obtain ⟨z1, z2⟩ := hgo q _ rfl hD1 ht'.symm (Or.inr ht')
    exact kk q z1 H1 locs ls ⟨_, hP1, hD1, z2⟩ hS1 hL
end GLK
theorem gFr_C {S : gS} {q : Nat} (κ n : Nat) (v : Nat → Int32) (hq : gK S q = 0) : gFr (fun k => k ≠ κ) S (sXr (sM S κ q n) κ q v) := (gFr_M κ n hq).tr (gFr_Xr _ _ _ _) (fun k z => ⟨z, z⟩)

set_option maxHeartbeats 4000000 in
set_option maxRecDepth 100000 in
theorem c_J7_copyOf_9075b (d0 : Nat × Nat) (S : gS) (a κ κ9 N L : Nat) (hκ : gK S a = κ) (ht : κ % 32 = 16) (ht9 : κ9 % 32 = 16) (hne : κ ≠ κ9) (hL : gL S a = L) (hL2 : L ≤ 2500) (hNL : N ≤ L) (hfit : ∀ i, i < N → fits (gTy 16) (.int (gX S κ a i)) = true) : gCt d0 yJ7_copyOf_9075b cJ7_copyOf_9075b 3 (some (.array .byte)) 2 1 2500 [.ref a, .int (nI N)] S (fun v' S' => ∃ q, gK S q = 0 ∧ v' = some (.ref q) ∧ gRow1 S' q κ9 N (gX S κ a) ∧ gFr (fun k => k ≠ κ9) S S') gNo := by
  refine gCt_of (lo := [some (.ref a), some (.int (nI N)), none]) (by decide +kernel) (Nat.le_of_ble_eq_true rfl) (rfl) ?_
  intro Γ hd G F hini
  subst hd
  refine g_iload_n G dJ7_copyOf_9075b_0 rfl ?_
  first | refine g_aload_n G dJ7_copyOf_9075b_1 rfl ?_ | refine g_aload_nN G dJ7_copyOf_9075b_1 rfl ?_ | refine g_aload_nQ G dJ7_copyOf_9075b_1 rfl ?_
  refine g_alen G (hκ) (by first | decide | omega) (hL) dJ7_copyOf_9075b_2 ?_
  refine g_icmp_ne (tgt := 14) G dJ7_copyOf_9075b_3 (by decide) (fun c_3 => ?_) (fun c_3 => ?_)
  · have hN2 : N < L := by
      have z : ¬ N = L := fun z => c_3 (by rw [z])
      omega
    have em : (if nI N < nI L then nI N else nI L) = nI N := if_pos (nI_lt hN2 (by omega))
    refine g_iload_n G dJ7_copyOf_9075b_14 rfl ?_
    refine g_new_byte (κ := κ9) G ac_byte (by first | decide | omega) (rfl) (by omega) (by omega) (by omega) dJ7_copyOf_9075b_15 (fun q_15 hq_15 => ?_)
    have F1 := gFr_M (S := S) κ9 N hq_15
    have ka1 : gK (sM S κ9 q_15 N) a = κ := F1.K hκ (by omega)
    have la1 : gL (sM S κ9 q_15 N) a = L := ((F1.1 a (by rw [hκ]; omega)).2).trans hL
    have kq : gK (sM S κ9 q_15 N) q_15 = κ9 := va_up_self _ _ _
    have lq : gL (sM S κ9 q_15 N) q_15 = N := va_up_self _ _ _
    have xa : gX (sM S κ9 q_15 N) κ = gX S κ := (F1.2 κ hne).1
    first | refine g_astore_n G dJ7_copyOf_9075b_17 (gSt_2 (by first | rfl | exact g_c1_rf)) ?_ | refine g_astore_nN G dJ7_copyOf_9075b_17 (gSt_2 (by first | rfl | exact g_c1_rf)) ?_ | refine g_astore_nQ G dJ7_copyOf_9075b_17 (gSt_2 (by first | rfl | exact g_c1_rf)) ?_
    first | refine g_aload_n G dJ7_copyOf_9075b_18 rfl ?_ | refine g_aload_nN G dJ7_copyOf_9075b_18 rfl ?_ | refine g_aload_nQ G dJ7_copyOf_9075b_18 rfl ?_
    refine g_iconst (v := nI 0) G dJ7_copyOf_9075b_19 (by decide) ?_
    first | refine g_aload_n G dJ7_copyOf_9075b_20 rfl ?_ | refine g_aload_nN G dJ7_copyOf_9075b_20 rfl ?_ | refine g_aload_nQ G dJ7_copyOf_9075b_20 rfl ?_
    refine g_iconst (v := nI 0) G dJ7_copyOf_9075b_21 (by decide) ?_
    first | refine g_aload_n G dJ7_copyOf_9075b_22 rfl ?_ | refine g_aload_nN G dJ7_copyOf_9075b_22 rfl ?_ | refine g_aload_nQ G dJ7_copyOf_9075b_22 rfl ?_
    refine g_alen G (ka1) (by first | decide | omega) (la1) dJ7_copyOf_9075b_23 ?_
    refine g_iload_n G dJ7_copyOf_9075b_24 rfl ?_
    refine g_mmin G ml_J7_304 (by decide) (by omega) (by omega) (Nat.le_of_ble_eq_true rfl) (em) dJ7_copyOf_9075b_25 ?_
    refine g_acopyI (sp := 0) (dp := 0) (N := N) G kac_J7_150 ka1 kq ⟨by rw [ht, ht9], by omega⟩ (by rw [la1]; omega) (by rw [lq]; omega) ⟨by omega, by omega, by omega⟩ (fun i hi => by rw [ht, xa, Nat.zero_add]; exact hfit i hi) (by omega) (by decide) dJ7_copyOf_9075b_28 ?_
    first | refine g_aload_n G dJ7_copyOf_9075b_31 rfl ?_ | refine g_aload_nN G dJ7_copyOf_9075b_31 rfl ?_ | refine g_aload_nQ G dJ7_copyOf_9075b_31 rfl ?_
    exact g_aret (o := some _) G F (by first | exact Or.inl ⟨_, rfl⟩ | exact Or.inr ⟨_, rfl⟩) (⟨q_15, hq_15, rfl, ⟨kq, lq, fun j hj => by
        show gX (sXr _ κ9 q_15 _) κ9 q_15 j = _
        rw [show gX (sXr (sM S κ9 q_15 N) κ9 q_15 (va_cpy (gX (sM S κ9 q_15 N) κ a) (gX (sM S κ9 q_15 N) κ9 q_15) 0 0 N)) κ9 q_15 = va_cpy (gX (sM S κ9 q_15 N) κ a) (gX (sM S κ9 q_15 N) κ9 q_15) 0 0 N from u2_same _ _ _ _]
        unfold va_cpy
        rw [if_pos ⟨Nat.zero_le _, by omega⟩, xa, Nat.zero_add, Nat.sub_zero]⟩, F1.tr (gFr_Xr _ _ _ _) (fun k z => ⟨z, z⟩)⟩) (by omega) (by omega) dJ7_copyOf_9075b_32
  · have hN2 : N = L := (nI_eq (by omega) (by omega)).mp c_3
    subst hN2
    first | refine g_aload_n G dJ7_copyOf_9075b_6 rfl ?_ | refine g_aload_nN G dJ7_copyOf_9075b_6 rfl ?_ | refine g_aload_nQ G dJ7_copyOf_9075b_6 rfl ?_
    refine g_clone (κ' := κ9) G hκ (Or.inl ⟨ht, ht9, rfl⟩) kcl_B_l kcl_B_m kcl_B_s kcl_B_c (fun i hi => by rw [ht]; exact hfit i (by rw [← hL]; exact hi)) (by omega) (by decide) (by omega) (by omega) dJ7_copyOf_9075b_7 (fun q_7 hq_7 => ?_)
    have Fc := gFr_C κ9 (gL S a) (gX S κ a) hq_7
    have kq : gK (sXr (sM S κ9 q_7 (gL S a)) κ9 q_7 (gX S κ a)) q_7 = κ9 := va_up_self _ _ _
    refine g_castB G kq (Or.inl ⟨ht9, rfl⟩) cl_J7_311 dJ7_copyOf_9075b_10 ?_
    exact g_aret (o := some _) G F (by first | exact Or.inl ⟨_, rfl⟩ | exact Or.inr ⟨_, rfl⟩) (⟨q_7, hq_7, rfl, ⟨kq, (va_up_self _ _ _).trans hL, fun j hj => congrFun (u2_same _ _ _ _) j⟩, Fc⟩) (by omega) (by omega) dJ7_copyOf_9075b_13

set_option maxHeartbeats 4000000 in
set_option maxRecDepth 100000 in
theorem c_J7_copyOf_59c91 (d0 : Nat × Nat) (S : gS) (a κ κ9 N L : Nat) (hκ : gK S a = κ) (ht : κ % 32 = 17) (ht9 : κ9 % 32 = 17) (hne : κ ≠ κ9) (hL : gL S a = L) (hL2 : L ≤ 2500) (hNL : N ≤ L) (hfit : ∀ i, i < N → fits (gTy 17) (.int (gX S κ a i)) = true) : gCt d0 yJ7_copyOf_59c91 cJ7_copyOf_59c91 3 (some (.array .int)) 2 1 2500 [.ref a, .int (nI N)] S (fun v' S' => ∃ q, gK S q = 0 ∧ v' = some (.ref q) ∧ gRow1 S' q κ9 N (gX S κ a) ∧ gFr (fun k => k ≠ κ9) S S') gNo := by
  refine gCt_of (lo := [some (.ref a), some (.int (nI N)), none]) (by decide +kernel) (Nat.le_of_ble_eq_true rfl) (rfl) ?_
  intro Γ hd G F hini
  subst hd
  refine g_iload_n G dJ7_copyOf_59c91_0 rfl ?_
  first | refine g_aload_n G dJ7_copyOf_59c91_1 rfl ?_ | refine g_aload_nN G dJ7_copyOf_59c91_1 rfl ?_ | refine g_aload_nQ G dJ7_copyOf_59c91_1 rfl ?_
  refine g_alen G (hκ) (by first | decide | omega) (hL) dJ7_copyOf_59c91_2 ?_
  refine g_icmp_ne (tgt := 14) G dJ7_copyOf_59c91_3 (by decide) (fun c_3 => ?_) (fun c_3 => ?_)
  · have hN2 : N < L := by
      have z : ¬ N = L := fun z => c_3 (by rw [z])
      omega
    have em : (if nI N < nI L then nI N else nI L) = nI N := if_pos (nI_lt hN2 (by omega))
    refine g_iload_n G dJ7_copyOf_59c91_14 rfl ?_
    refine g_new_int (κ := κ9) G ac_int (by first | decide | omega) (rfl) (by omega) (by omega) (by omega) dJ7_copyOf_59c91_15 (fun q_15 hq_15 => ?_)
    have F1 := gFr_M (S := S) κ9 N hq_15
    have ka1 : gK (sM S κ9 q_15 N) a = κ := F1.K hκ (by omega)
    have la1 : gL (sM S κ9 q_15 N) a = L := ((F1.1 a (by rw [hκ]; omega)).2).trans hL
    have kq : gK (sM S κ9 q_15 N) q_15 = κ9 := va_up_self _ _ _
    have lq : gL (sM S κ9 q_15 N) q_15 = N := va_up_self _ _ _
    have xa : gX (sM S κ9 q_15 N) κ = gX S κ := (F1.2 κ hne).1
    first | refine g_astore_n G dJ7_copyOf_59c91_17 (gSt_2 (by first | rfl | exact g_c1_rf)) ?_ | refine g_astore_nN G dJ7_copyOf_59c91_17 (gSt_2 (by first | rfl | exact g_c1_rf)) ?_ | refine g_astore_nQ G dJ7_copyOf_59c91_17 (gSt_2 (by first | rfl | exact g_c1_rf)) ?_
    first | refine g_aload_n G dJ7_copyOf_59c91_18 rfl ?_ | refine g_aload_nN G dJ7_copyOf_59c91_18 rfl ?_ | refine g_aload_nQ G dJ7_copyOf_59c91_18 rfl ?_
    refine g_iconst (v := nI 0) G dJ7_copyOf_59c91_19 (by decide) ?_
    first | refine g_aload_n G dJ7_copyOf_59c91_20 rfl ?_ | refine g_aload_nN G dJ7_copyOf_59c91_20 rfl ?_ | refine g_aload_nQ G dJ7_copyOf_59c91_20 rfl ?_
    refine g_iconst (v := nI 0) G dJ7_copyOf_59c91_21 (by decide) ?_
    first | refine g_aload_n G dJ7_copyOf_59c91_22 rfl ?_ | refine g_aload_nN G dJ7_copyOf_59c91_22 rfl ?_ | refine g_aload_nQ G dJ7_copyOf_59c91_22 rfl ?_
    refine g_alen G (ka1) (by first | decide | omega) (la1) dJ7_copyOf_59c91_23 ?_
    refine g_iload_n G dJ7_copyOf_59c91_24 rfl ?_
    refine g_mmin G ml_J7_304 (by decide) (by omega) (by omega) (Nat.le_of_ble_eq_true rfl) (em) dJ7_copyOf_59c91_25 ?_
    refine g_acopyI (sp := 0) (dp := 0) (N := N) G kac_J7_150 ka1 kq ⟨by rw [ht, ht9], by omega⟩ (by rw [la1]; omega) (by rw [lq]; omega) ⟨by omega, by omega, by omega⟩ (fun i hi => by rw [ht, xa, Nat.zero_add]; exact hfit i hi) (by omega) (by decide) dJ7_copyOf_59c91_28 ?_
    first | refine g_aload_n G dJ7_copyOf_59c91_31 rfl ?_ | refine g_aload_nN G dJ7_copyOf_59c91_31 rfl ?_ | refine g_aload_nQ G dJ7_copyOf_59c91_31 rfl ?_
    exact g_aret (o := some _) G F (by first | exact Or.inl ⟨_, rfl⟩ | exact Or.inr ⟨_, rfl⟩) (⟨q_15, hq_15, rfl, ⟨kq, lq, fun j hj => by
        show gX (sXr _ κ9 q_15 _) κ9 q_15 j = _
        rw [show gX (sXr (sM S κ9 q_15 N) κ9 q_15 (va_cpy (gX (sM S κ9 q_15 N) κ a) (gX (sM S κ9 q_15 N) κ9 q_15) 0 0 N)) κ9 q_15 = va_cpy (gX (sM S κ9 q_15 N) κ a) (gX (sM S κ9 q_15 N) κ9 q_15) 0 0 N from u2_same _ _ _ _]
        unfold va_cpy
        rw [if_pos ⟨Nat.zero_le _, by omega⟩, xa, Nat.zero_add, Nat.sub_zero]⟩, F1.tr (gFr_Xr _ _ _ _) (fun k z => ⟨z, z⟩)⟩) (by omega) (by omega) dJ7_copyOf_59c91_32
  · have hN2 : N = L := (nI_eq (by omega) (by omega)).mp c_3
    subst hN2
    first | refine g_aload_n G dJ7_copyOf_59c91_6 rfl ?_ | refine g_aload_nN G dJ7_copyOf_59c91_6 rfl ?_ | refine g_aload_nQ G dJ7_copyOf_59c91_6 rfl ?_
    refine g_clone (κ' := κ9) G hκ (Or.inr ⟨ht, ht9, rfl⟩) kcl_I_l kcl_I_m kcl_I_s kcl_I_c (fun i hi => by rw [ht]; exact hfit i (by rw [← hL]; exact hi)) (by omega) (by decide) (by omega) (by omega) dJ7_copyOf_59c91_7 (fun q_7 hq_7 => ?_)
    have Fc := gFr_C κ9 (gL S a) (gX S κ a) hq_7
    have kq : gK (sXr (sM S κ9 q_7 (gL S a)) κ9 q_7 (gX S κ a)) q_7 = κ9 := va_up_self _ _ _
    refine g_castB G kq (Or.inr ⟨ht9, rfl⟩) cl_J7_317 dJ7_copyOf_59c91_10 ?_
    exact g_aret (o := some _) G F (by first | exact Or.inl ⟨_, rfl⟩ | exact Or.inr ⟨_, rfl⟩) (⟨q_7, hq_7, rfl, ⟨kq, (va_up_self _ _ _).trans hL, fun j hj => congrFun (u2_same _ _ _ _) j⟩, Fc⟩) (by omega) (by omega) dJ7_copyOf_59c91_13
