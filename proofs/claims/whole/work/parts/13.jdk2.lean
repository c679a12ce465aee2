/-! ===== getClass, clone, arraycopy ===== -/
theorem kgc_l : Cond.methodLink RJ7 86 ⟨"java/lang/Object", "getClass", "()Ljava/lang/Class;"⟩ ∈ gWords := g_t 606 (by decide +kernel) (by decide +kernel)
theorem kgc_i : Cond.instanceMethod ⟨"java/lang/Object", "getClass", "()Ljava/lang/Class;"⟩ ∈ gWords := g_t 607 (by decide +kernel) (by decide +kernel)
theorem kgc_n : Cond.native ⟨"java/lang/Object", "getClass", "()Ljava/lang/Class;"⟩ ∈ gWords := g_t 623 (by decide +kernel) (by decide +kernel)
theorem kgc_s : Cond.selects "[Ljava/lang/Object;" ⟨"java/lang/Object", "getClass", "()Ljava/lang/Class;"⟩ ⟨"java/lang/Object", "getClass", "()Ljava/lang/Class;"⟩ ∈ gWords := g_t 1578 (by decide +kernel) (by decide +kernel)
theorem kgc_d : Cond.declares ⟨"java/lang/Object", "getClass", "()Ljava/lang/Class;"⟩ ∈ tables_1 := g_u 1579 (by decide +kernel)
theorem kac_s : Cond.static arraycopyName ∈ gWords := g_t 545 (by decide +kernel) (by decide +kernel)
theorem kac_n : Cond.native arraycopyName ∈ gWords := g_t 546 (by decide +kernel) (by decide +kernel)
theorem kac_i : Cond.initialized "java/lang/System" ∈ gWords := g_t 19 (by decide +kernel) (by decide +kernel)
theorem kac_J7_150 : Cond.methodLink RJ7 150 arraycopyName ∈ gWords := g_t 544 (by decide +kernel) (by decide +kernel)
theorem kac_X9_222 : Cond.methodLink RX9 222 arraycopyName ∈ gWords := g_t 1469 (by decide +kernel) (by decide +kernel)
theorem kac_X8_37 : Cond.methodLink RX8 37 arraycopyName ∈ gWords := g_t 1536 (by decide +kernel) (by decide +kernel)
theorem kcl_n : Cond.native ⟨"java/lang/Object", "clone", "()Ljava/lang/Object;"⟩ ∈ gWords := g_t 538 (by decide +kernel) (by decide +kernel)
theorem kcl_i : Cond.instanceMethod ⟨"java/lang/Object", "clone", "()Ljava/lang/Object;"⟩ ∈ gWords := g_t 539 (by decide +kernel) (by decide +kernel)
theorem kcl_B_l : Cond.methodLink RJ7 310 ⟨"[B", "clone", "()Ljava/lang/Object;"⟩ ∈ gWords := g_t 536 (by decide +kernel) (by decide +kernel)
theorem kcl_B_m : Cond.sameMethod "[B" "java/lang/Object" "clone" "()Ljava/lang/Object;" ∈ gWords := g_t 537 (by decide +kernel) (by decide +kernel)
theorem kcl_B_s : Cond.selects "[B" ⟨"[B", "clone", "()Ljava/lang/Object;"⟩ ⟨"java/lang/Object", "clone", "()Ljava/lang/Object;"⟩ ∈ gWords := g_t 540 (by decide +kernel) (by decide +kernel)
theorem kcl_B_c : Cond.castable "[B" "java/lang/Cloneable" ∈ tables_1 := g_u 541 (by decide +kernel)
theorem kcl_I_l : Cond.methodLink RJ7 316 ⟨"[I", "clone", "()Ljava/lang/Object;"⟩ ∈ gWords := g_t 1322 (by decide +kernel) (by decide +kernel)
theorem kcl_I_m : Cond.sameMethod "[I" "java/lang/Object" "clone" "()Ljava/lang/Object;" ∈ gWords := g_t 1323 (by decide +kernel) (by decide +kernel)
theorem kcl_I_s : Cond.selects "[I" ⟨"[I", "clone", "()Ljava/lang/Object;"⟩ ⟨"java/lang/Object", "clone", "()Ljava/lang/Object;"⟩ ∈ gWords := g_t 1324 (by decide +kernel) (by decide +kernel)
theorem kcl_I_c : Cond.castable "[I" "java/lang/Cloneable" ∈ tables_1 := g_u 1325 (by decide +kernel)
theorem kco_0 : Cond.castable "java/util/ArrayList" "java/lang/Object" ∈ tables_1 := g_u 1562 (by decide +kernel)
theorem kco_1 : Cond.castable "CourtMail$Case" "java/lang/Object" ∈ tables_1 := g_u 1570 (by decide +kernel)
theorem kco_2 : Cond.castable "CourtMail$Document" "java/lang/Object" ∈ tables_1 := g_u 1569 (by decide +kernel)
theorem kco_3 : Cond.castable "CourtMail$Draft" "java/lang/Object" ∈ tables_1 := g_u 1563 (by decide +kernel)
theorem kco_4 : Cond.castable "CourtMail$Exhibit" "java/lang/Object" ∈ tables_1 := g_u 1572 (by decide +kernel)
theorem kco_5 : Cond.castable "CourtMail$Letter" "java/lang/Object" ∈ tables_1 := g_u 1574 (by decide +kernel)
theorem kco_6 : Cond.castable "CourtMail$Link" "java/lang/Object" ∈ tables_1 := g_u 1573 (by decide +kernel)
theorem kco_7 : Cond.castable "CourtMail$Person" "java/lang/Object" ∈ tables_1 := g_u 1571 (by decide +kernel)
theorem fl_Jxc12de_7 : gFld RJxc12de 7 0 0 := ⟨RJx4a65c, TJx4a65c, 3, "java/util/AbstractList", rfl, by decide, gin_0, g_t 51 (by decide +kernel) (by decide +kernel), Or.inl rfl⟩
theorem kD_39 : Cond.fieldLink "java/util/ArrayList" 39 "java/util/ArrayList" "DEFAULTCAPACITY_EMPTY_ELEMENTDATA" "[Ljava/lang/Object;" ∈ gWords := g_t 47 (by decide +kernel) (by decide +kernel)
section GJ2
variable {Γ : gC} {own : String} {cc : ByteArray} {n mc ms pc : Nat} {lo lo' : List (Option Value)} {st rest : List Value} {S : gS} {k sl : Nat}
theorem g_getC (G : gOK Γ own cc n mc ms) {index a κ : Nat} (ml : Cond.methodLink own index ⟨"java/lang/Object", "getClass", "()Ljava/lang/Class;"⟩ ∈ gWords) (hκ : gK S a = κ) (ht : κ % 32 = 19) (hn : 1 ≤ n) (hcat : (st.map fun v => v.category).sum ≤ 8) (d : decode cc pc = .ok (.invokevirtual index, 3)) (kk : gW Γ (pc + 3) lo (.ref (gD Γ).2 :: st) S k sl) : gW Γ pc lo (.ref a :: st) S k sl := by
  obtain ⟨p, l, e1, R, s, m, args, below, meth, c, Q, A, D, cT, d0⟩ := Γ
  obtain ⟨hx, hb, hown, hts, hK, hA, hV, hRf, hRl, hRc, hRs⟩ := G
  intro H locs ls hR hS hL
  obtain ⟨ws, hP, hD, hw⟩ := hR
  have h0 : gK S a ≠ 0 := by rw [hκ]; omega
  obtain ⟨q0, he⟩ := hw.2 a h0
  rw [gEnt_q hκ (by omega), ht] at he
  obtain ⟨-, -, -, -, -, hname⟩ := (hK.2 3 (cT 19, .object "java/lang/Object") rfl).2
  refine va_getC (C := "[Ljava/lang/Object;") hx hb hL.1.symm hown (hts _ ml) (va_Nw.use rfl (hV.2.2.1 _ kgc_d rfl)) (hts _ kgc_s) (hts _ kgc_i) (hts _ kgc_n) hV.2.2.2.2.2.2.1 ⟨_, hP q0 _ he, rfl, hname⟩ (by rw [hRf.1]; exact hn) (by rw [hRl]; omega) d ?_
  exact kk H locs ls ⟨ws, hP, hD, hw⟩ hS hL
theorem g_ldcM (G : gOK Γ own cc n mc ms) {index : Nat} (hcl : Cond.classLink own index "[Ljava/lang/Object;" ∈ gWords) (d : decode cc pc = .ok (.ldc index, 2)) (kk : gW Γ (pc + 2) lo (.ref (gD Γ).2 :: st) S k sl) : gW Γ pc lo st S k sl := by
  obtain ⟨p, l, e1, R, s, m, args, below, meth, c, Q, A, D, cT, d0⟩ := Γ
  obtain ⟨hx, hb, hown, hts, hK, hA, hV, hRf, hRl, hRc, hRs⟩ := G
  intro H locs ls hR hS hL
  obtain ⟨ws, hP, hD, hw⟩ := hR
  exact va_ldcM hx hb hown (hts _ hcl) hV.2.2.2.2.2.2.1 d (kk H locs ls ⟨ws, hP, hD, hw⟩ hS hL)
theorem g_castB (G : gOK Γ own cc n mc ms) {index a κ : Nat} {nm : String} (hκ : gK S a = κ) (ht : κ % 32 = 16 ∧ nm = "[B" ∨ κ % 32 = 17 ∧ nm = "[I") (hcl : Cond.classLink own index nm ∈ gWords) (d : decode cc pc = .ok (.checkcast index, 3)) (kk : gW Γ (pc + 3) lo (.ref a :: st) S k sl) : gW Γ pc lo (.ref a :: st) S k sl := by
  obtain ⟨p, l, e1, R, s, m, args, below, meth, c, Q, A, D, cT, d0⟩ := Γ
  obtain ⟨hx, hb, hown, hts, hK, hA, hV, hRf, hRl, hRc, hRs⟩ := G
  intro H locs ls hR hS hL
  obtain ⟨ws, hP, hD, hw⟩ := hR
  have h0 : gK S a ≠ 0 := by rw [hκ]; omega
  obtain ⟨q0, he⟩ := hw.2 a h0
  rw [gEnt_i hκ (by omega)] at he
  rcases ht with ⟨ht, rfl⟩ | ⟨ht, rfl⟩
  · rw [ht] at he
    exact va_castA hx hb hown (hts _ hcl) hP q0 he (hK.2 0 (cT 16, .byte) rfl).2 d (kk H locs ls ⟨ws, hP, hD, hw⟩ hS hL)
  · rw [ht] at he
    exact va_castA hx hb hown (hts _ hcl) hP q0 he (hK.2 1 (cT 17, .int) rfl).2 d (kk H locs ls ⟨ws, hP, hD, hw⟩ hS hL)
/-- arraycopy of ints or bytes -/
theorem g_acopyI (G : gOK Γ own cc n mc ms) {index a0 a1 κ0 κ1 sp dp N : Nat} (ml : Cond.methodLink own index arraycopyName ∈ gWords) (h0 : gK S a0 = κ0) (h1 : gK S a1 = κ1) (ht : κ0 % 32 = κ1 % 32 ∧ (κ0 % 32 = 16 ∨ κ0 % 32 = 17)) (hs : sp + N ≤ gL S a0) (hd : dp + N ≤ gL S a1) (h31 : sp < 2 ^ 31 ∧ dp < 2 ^ 31 ∧ N < 2 ^ 31)
    (hfit : ∀ i, i < N → fits (gTy (κ0 % 32)) (.int (gX S κ0 a0 (sp + i))) = true) (hn : 1 ≤ n) (hcat : (st.map fun v => v.category).sum ≤ 8) (d : decode cc pc = .ok (.invokestatic index, 3)) (kk : gW Γ (pc + 3) lo st (sXr S κ1 a1 (va_cpy (gX S κ0 a0) (gX S κ1 a1) sp dp N)) k sl) : gW Γ pc lo (.int (nI N) :: .int (nI dp) :: .ref a1 :: .int (nI sp) :: .ref a0 :: st) S k sl := by
  obtain ⟨p, l, e1, R, s, m, args, below, meth, c, Q, A, D, cT, d0⟩ := Γ
  obtain ⟨hx, hb, hown, hts, hK, hA, hV, hRf, hRl, hRc, hRs⟩ := G
  intro H locs ls hR hS hL
  obtain ⟨ws, hP, hD, hw⟩ := hR
  have z0 : gK S a0 ≠ 0 := by rw [h0]; omega
  have z1 : gK S a1 ≠ 0 := by rw [h1]; omega
  obtain ⟨q0, he0⟩ := hw.2 a0 z0
  obtain ⟨q1, he1⟩ := hw.2 a1 z1
  rw [gEnt_i h0 (by omega)] at he0
  rw [gEnt_i h1 (by omega), ← ht.1] at he1
  obtain ⟨b1, b2, b3⟩ := h31
  have c1 := nI_clamp b1
  have c2 := nI_clamp b2
  have c3 := nI_clamp b3
  refine va_copyi hx hb hL.1.symm hown (hts _ ml) (hts _ kac_n) (hts _ kac_s) (hts _ kac_i) hK hP hD hS q0 q1 (κ0 % 32 - 16) (κ0 % 32 - 16) he0 he1 (gT_i (by omega) (by omega)) (gT_i (by omega) (by omega)) (by rcases ht.2 with h | h <;> rw [h] <;> rfl) (nI_pos b1) (nI_pos b2) (nI_pos b3) (by rw [c1, c3]; exact hs) (by rw [c2, c3]; exact hd) (fun i hi => by rw [c3] at hi; rw [c1]; exact hfit i hi) (by rw [hRf.1]; exact hn) (by rw [hRl]; show _ + (7 + 11) ≤ _; omega) d (fun H1 locs1 hP1 hD1 hS1 => kk H1 locs1 ls ⟨_, hP1, hD1, ?_⟩ hS1 hL)
  have h9 := hw.put (T := sXr S κ1 a1 (va_cpy (gX S κ0 a0) (gX S κ1 a1) sp dp N)) hD he1 rfl (gEnt_aXr (by omega))
  rw [gEnt_i (S := sXr S κ1 a1 _) h1 (by omega), ← ht.1] at h9
  rw [c1, c2, c3]
  rw [show gX (sXr S κ1 a1 (va_cpy (gX S κ0 a0) (gX S κ1 a1) sp dp N)) κ1 a1 = va_cpy (gX S κ0 a0) (gX S κ1 a1) sp dp N from u2_same _ _ _ _] at h9
  exact h9
/-- arraycopy of Objects -/
theorem g_acopyQ (G : gOK Γ own cc n mc ms) {index a0 a1 κ0 κ1 sp dp N ci : Nat} {C : String} (ml : Cond.methodLink own index arraycopyName ∈ gWords) (h0 : gK S a0 = κ0) (h1 : gK S a1 = κ1) (ht : κ0 % 32 = 19 ∧ κ1 % 32 = 19) (hs : sp + N ≤ gL S a0) (hd : dp + N ≤ gL S a1) (h31 : sp < 2 ^ 31 ∧ dp < 2 ^ 31 ∧ N < 2 ^ 31)
    (hel : ∀ i, i < N → ∀ y, gY S κ0 a0 (sp + i) = some y → gK S y % 32 = ci + 1) (hvt : ci < 15) (hc : vwCl[ci]?.map (fun q => q.1) = some C) (hca : Cond.castable C "java/lang/Object" ∈ tables_1) (hn : 1 ≤ n) (hcat : (st.map fun v => v.category).sum ≤ 8) (d : decode cc pc = .ok (.invokestatic index, 3)) (kk : gW Γ (pc + 3) lo st (sYr S κ1 a1 (va_cpy (gY S κ0 a0) (gY S κ1 a1) sp dp N)) k sl) : gW Γ pc lo (.int (nI N) :: .int (nI dp) :: .ref a1 :: .int (nI sp) :: .ref a0 :: st) S k sl := by
  obtain ⟨p, l, e1, R, s, m, args, below, meth, c, Q, A, D, cT, d0⟩ := Γ
  obtain ⟨hx, hb, hown, hts, hK, hA, hV, hRf, hRl, hRc, hRs⟩ := G
  intro H locs ls hR hS hL
  obtain ⟨ws, hP, hD, hw⟩ := hR
  have z0 : gK S a0 ≠ 0 := by rw [h0]; omega
  have z1 : gK S a1 ≠ 0 := by rw [h1]; omega
  obtain ⟨q0, he0⟩ := hw.2 a0 z0
  obtain ⟨q1, he1⟩ := hw.2 a1 z1
  rw [gEnt_q h0 (by omega), ht.1] at he0
  rw [gEnt_q h1 (by omega), ht.2] at he1
  obtain ⟨b1, b2, b3⟩ := h31
  have c1 := nI_clamp b1
  have c2 := nI_clamp b2
  have c3 := nI_clamp b3
  obtain ⟨r, hr, hr2⟩ := Option.map_eq_some_iff.mp hc
  refine va_copyM hx hb hL.1.symm hown (hts _ ml) (hts _ kac_n) (hts _ kac_s) (hts _ kac_i) hK hP hD hS q0 q1 3 3 he0 he1 (gT_i (t := 19) (by omega) (by omega)) (gT_i (t := 19) (by omega) (by omega)) (nI_pos b1) (nI_pos b2) (nI_pos b3) (by rw [c1, c3]; exact hs) (by rw [c2, c3]; exact hd) (fun i hi y hy => ?_) (by rw [hRf.1]; exact hn) (by rw [hRl]; show _ + (7 + 11) ≤ _; omega) d (fun H1 locs1 hP1 hD1 hS1 => kk H1 locs1 ls ⟨_, hP1, hD1, ?_⟩ hS1 hL)
  · rw [c3] at hi
    rw [c1] at hy
    have hy9 := hel i hi y hy
    obtain ⟨q2, he2⟩ := hw.2 y (by omega)
    rw [gEnt_o rfl (by omega), show gK S y % 32 - 1 = ci by omega] at he2
    refine va_rAny hK hP he2 hr (fun comp c0 hcm hc0 => ?_)
    rw [hr2] at hc0
    obtain ⟨c3, c4, hc3, hc4, hasg⟩ := Cond.castable_spec (hV.2.2.1 _ hca rfl)
    cases Option.some.inj (hc3.symm.trans hc0)
    cases Option.some.inj (hc4.symm.trans hcm)
    exact hasg
  · have h9 := hw.put (T := sYr S κ1 a1 (va_cpy (gY S κ0 a0) (gY S κ1 a1) sp dp N)) hD he1 rfl (gEnt_aYr (by omega))
    rw [gEnt_q (S := sYr S κ1 a1 _) h1 (by omega), ht.2] at h9
    rw [c1, c2, c3]
    rw [show gY (sYr S κ1 a1 (va_cpy (gY S κ0 a0) (gY S κ1 a1) sp dp N)) κ1 a1 = va_cpy (gY S κ0 a0) (gY S κ1 a1) sp dp N from u2_same _ _ _ _] at h9
    exact h9
end GJ2
