/-! ===== the law: the rest of the blocks, its loop, its start ===== -/
set_option maxHeartbeats 4000000 in
set_option maxRecDepth 100000 in
theorem bk_errorAt {Γ : gC} {b L x y o : Nat} (G : gOK Γ RL cL_law 12 601024 7293034) : gBlk Γ b L x y o 412 := by
  intro S ad bb M j k sl w5 w6 w7 w8 h hr i hd h40 ho hj hL hk hs kk
  refine g_aload_n G dL_law_412 rfl ?_
  refine g_callV (ci := 8) G (c_X7_errorAt _ S x ad M h) mt_X7_errorAt mi_X7_errorAt ml_L_138 h.1.1 (by decide) rfl (by omega) (by omega) (by omega) rfl (Nat.le_of_ble_eq_true rfl) dL_law_413 (fun v1 S1 hp1 => ?_)
  obtain ⟨rfl, rfl⟩ := hp1
  simp only [Option.toList, List.cons_append, List.nil_append]
  refine g_aload_n G dL_law_416 rfl ?_
  refine g_callV (ci := 10) G (c_X9_errorAt _ _ y bb M hr i) mt_X9_errorAt mi_X9_errorAt ml_L_141 hr.1.kd (by decide) rfl (by omega) (by omega) (by omega) rfl (Nat.le_of_ble_eq_true rfl) dL_law_417 (fun v4 S4 hp4 => ?_)
  obtain ⟨rfl, t4, b4, hr4, F4⟩ := hp4
  simp only [Option.toList, List.cons_append, List.nil_append]
  refine g_icmp_eq (tgt := 2423) G dL_law_420 (by decide) (fun _ => ?_) (fun z => absurd rfl z)
  exact gW.wid (by omega) (by omega) (kk S4 ad b4 M _ _ _ _ (gMail_ref h F4) hr4 (gOk_rf i hd) (ho.fr F4))

set_option maxHeartbeats 4000000 in
set_option maxRecDepth 100000 in
theorem bk_digest {Γ : gC} {b L x y o : Nat} (G : gOK Γ RL cL_law 12 601024 7293034) : gBlk Γ b L x y o 2409 := by
  intro S ad bb M j k sl w5 w6 w7 w8 h hr i hd h40 ho hj hL hk hs kk
  refine g_aload_n G dL_law_2409 rfl ?_
  refine g_callV (ci := 8) G (c_X7_digest _ S x ad M h i.1) mt_X7_digest mi_X7_digest ml_L_237 h.1.1 (by decide) rfl (by omega) (by omega) (by omega) rfl (Nat.le_of_ble_eq_true rfl) dL_law_2410 (fun v1 S1 hp1 => ?_)
  obtain ⟨rfl, rfl⟩ := hp1
  simp only [Option.toList, List.cons_append, List.nil_append]
  refine g_aload_n G dL_law_2413 rfl ?_
  refine g_callV (ci := 10) G (c_X9_digest _ _ y bb M hr i) mt_X9_digest mi_X9_digest ml_L_241 hr.1.kd (by decide) rfl (by omega) (by omega) (by omega) rfl (Nat.le_of_ble_eq_true rfl) dL_law_2414 (fun v4 S4 hp4 => ?_)
  obtain ⟨rfl, t4, b4, hr4, F4⟩ := hp4
  simp only [Option.toList, List.cons_append, List.nil_append]
  refine g_lcmp G dL_law_2417 ?_
  refine g_if_eq (tgt := 2423) G dL_law_2418 (by decide) (fun _ => ?_) (fun z => absurd (lg_cmp_s _) z)
  exact gW.wid (by omega) (by omega) (kk S4 ad b4 M _ _ _ _ (gMail_ref h F4) hr4 (gOk_rf i hd) (ho.fr F4))

set_option maxHeartbeats 4000000 in
set_option maxRecDepth 100000 in
theorem bk_plain {Γ : gC} {b L x y o : Nat} (G : gOK Γ RL cL_law 12 601024 7293034) : gBlk Γ b L x y o 2368 := by
  intro S ad bb M j k sl w5 w6 w7 w8 h hr i hd h40 ho hj hL hk hs kk
  refine g_aload_n G dL_law_2368 rfl ?_
  refine g_callV (ci := 8) G (c_X7_plain _ S x ad M h i.1) mt_X7_plain mi_X7_plain ml_L_232 h.1.1 (by decide) rfl (by omega) (by omega) (by omega) rfl (Nat.le_of_ble_eq_true rfl) dL_law_2369 (fun v1 S1 hp1 => ?_)
  obtain ⟨rfl, rfl⟩ := hp1
  simp only [Option.toList, List.cons_append, List.nil_append]
  refine g_dstore G dL_law_2372 (gSt2_5 (by first | rfl | exact g_c1_rf)) ?_
  refine g_aload_n G dL_law_2374 rfl ?_
  refine g_callV (ci := 10) G (c_X9_plain _ _ y bb M hr i) mt_X9_plain mi_X9_plain ml_L_236 hr.1.kd (by decide) rfl (by omega) (by omega) (by omega) rfl (Nat.le_of_ble_eq_true rfl) dL_law_2375 (fun v4 S4 hp4 => ?_)
  obtain ⟨rfl, t4, b4, hr4, F4⟩ := hp4
  simp only [Option.toList, List.cons_append, List.nil_append]
  refine g_dstore G dL_law_2378 (gSt2_7 (by first | rfl | exact g_c1_rf)) ?_
  have fin : ∀ w5 w6 w7 w8 : Option Value, gW Γ 2423 [some (.ref b), some (.ref x), some (.ref y), some (.ref o), some (.int (nI (6 * j))), w5, w6, w7, w8] [] S4 (k + 1 + 1) (sl + 6 + 12) := fun w5 w6 w7 w8 => gW.wid (by omega) (by omega) (kk S4 ad b4 M w5 w6 w7 w8 (gMail_ref h F4) hr4 (gOk_rf i hd) (ho.fr F4))
  refine g_dload G dL_law_2380 rfl ?_
  refine g_dload G dL_law_2382 rfl ?_
  refine g_dcmp G dL_law_2384 ?_
  refine g_if_eq (tgt := 2406) G dL_law_2385 (by decide) (fun c_1 => ?_) (fun c_1 => ?_)
  · refine g_goto (tgt := 2423) G dL_law_2406 (by decide) ?_
    exact fin _ _ _ _
  · refine g_dload G dL_law_2388 rfl ?_
    refine g_dload G dL_law_2390 rfl ?_
    refine g_dcmp G dL_law_2392 ?_
    refine g_if_eq (tgt := 2404) G dL_law_2393 (by decide) (fun c_2 => absurd c_2 c_1) (fun c_2 => ?_)
    refine g_dload G dL_law_2396 rfl ?_
    refine g_dload G dL_law_2398 rfl ?_
    refine g_dcmp G dL_law_2400 ?_
    refine g_if_ne (tgt := 2406) G dL_law_2401 (by decide) (fun c_3 => ?_) (fun c_3 => absurd c_3 c_1)
    refine g_goto (tgt := 2423) G dL_law_2406 (by decide) ?_
    exact fin _ _ _ _
theorem bk_none {Γ : gC} {b L x y o : Nat} : gBlk Γ b L x y o 2423 := by
  intro S ad bb M j k sl w5 w6 w7 w8 h hr i hd h40 ho hj hL hk hs kk
  exact gW.wid (by omega) (by omega) (kk S ad bb M _ _ _ _ h hr (gOk_rf i hd) ho)
theorem gTop : ∀ L j : Nat, L ≤ 3072 → 6 * j ≤ L → (nI L - nI 6 < nI (6 * j) ↔ L < 6 * j + 6) := by
  intro L j hL hj
  by_cases h6 : 6 ≤ L
  · rw [pk_sub h6, Int32.lt_iff_toInt_lt, nI_toInt (by omega), nI_toInt (by omega)]
    omega
  · obtain rfl : j = 0 := by omega
    rcases (show L = 0 ∨ L = 1 ∨ L = 2 ∨ L = 3 ∨ L = 4 ∨ L = 5 by omega) with rfl | rfl | rfl | rfl | rfl | rfl <;> decide
set_option maxHeartbeats 4000000 in
set_option maxRecDepth 100000 in
theorem law_op {Γ : gC} {b L x y o : Nat} {xs : Nat → Int32} (G : gOK Γ RL cL_law 12 601024 7293034) (X : gScr Γ b L xs) : gBlk Γ b L x y o 33 := by
  intro S ad bb M j k sl w5 w6 w7 w8 h hr i hd h40 ho hj hL hk hs kk
  refine g_aload_n G dL_law_33 rfl ?_
  refine g_iload G dL_law_34 rfl ?_
  refine g_sld G X (j := 6 * j) (by omega) (by omega) dL_law_36 ?_
  refine g_bipush (v := nI 63) G dL_law_37 (by decide) ?_
  obtain ⟨n, hn, en⟩ := pk_andE (xs (6 * j)) (m := nI 63) 6 (by decide)
  refine g_iand G dL_law_39 en ?_
  obtain rfl | rfl | rfl | rfl | rfl | rfl | rfl | rfl | rfl | rfl | rfl | rfl | rfl | rfl | rfl | rfl | rfl | rfl | rfl | rfl | rfl | rfl | rfl | rfl | rfl | rfl | rfl | rfl | rfl | rfl | rfl | rfl | rfl | rfl | rfl | hn35 := (show n = 0 ∨ n = 1 ∨ n = 2 ∨ n = 3 ∨ n = 4 ∨ n = 5 ∨ n = 6 ∨ n = 7 ∨ n = 8 ∨ n = 9 ∨ n = 10 ∨ n = 11 ∨ n = 12 ∨ n = 13 ∨ n = 14 ∨ n = 15 ∨ n = 16 ∨ n = 17 ∨ n = 18 ∨ n = 19 ∨ n = 20 ∨ n = 21 ∨ n = 22 ∨ n = 23 ∨ n = 24 ∨ n = 25 ∨ n = 26 ∨ n = 27 ∨ n = 28 ∨ n = 29 ∨ n = 30 ∨ n = 31 ∨ n = 32 ∨ n = 33 ∨ n = 34 ∨ 35 ≤ n by omega)
  · refine g_tableIn (off := 156) (tgt := 196) G dL_law_40 (by decide) (by decide) (by decide) (by decide) ?_
    exact bk_feed G X S ad bb M j k sl w5 w6 w7 w8 h hr i hd h40 ho hj hL hk hs kk
  · refine g_tableIn (off := 260) (tgt := 300) G dL_law_40 (by decide) (by decide) (by decide) (by decide) ?_
    exact bk_trim G X S ad bb M j k sl w5 w6 w7 w8 h hr i hd h40 ho hj hL hk hs kk
  · refine g_tableIn (off := 316) (tgt := 356) G dL_law_40 (by decide) (by decide) (by decide) (by decide) ?_
    exact bk_file G X S ad bb M j k sl w5 w6 w7 w8 h hr i hd h40 ho hj hL hk hs kk
  · refine g_tableIn (off := 372) (tgt := 412) G dL_law_40 (by decide) (by decide) (by decide) (by decide) ?_
    exact bk_errorAt G S ad bb M j k sl w5 w6 w7 w8 h hr i hd h40 ho hj hL hk hs kk
  · refine g_tableIn (off := 385) (tgt := 425) G dL_law_40 (by decide) (by decide) (by decide) (by decide) ?_
    exact bk_veil G X S ad bb M j k sl w5 w6 w7 w8 h hr i hd h40 ho hj hL hk hs kk
  · refine g_tableIn (off := 477) (tgt := 517) G dL_law_40 (by decide) (by decide) (by decide) (by decide) ?_
    exact bk_document G X S ad bb M j k sl w5 w6 w7 w8 h hr i hd h40 ho hj hL hk hs kk
  · refine g_tableIn (off := 545) (tgt := 585) G dL_law_40 (by decide) (by decide) (by decide) (by decide) ?_
    exact bk_open G X S ad bb M j k sl w5 w6 w7 w8 h hr i hd h40 ho hj hL hk hs kk
  · refine g_tableIn (off := 601) (tgt := 641) G dL_law_40 (by decide) (by decide) (by decide) (by decide) ?_
    exact bk_seal G X S ad bb M j k sl w5 w6 w7 w8 h hr i hd h40 ho hj hL hk hs kk
  · refine g_tableIn (off := 669) (tgt := 709) G dL_law_40 (by decide) (by decide) (by decide) (by decide) ?_
    exact bk_addPerson G X S ad bb M j k sl w5 w6 w7 w8 h hr i hd h40 ho hj hL hk hs kk
  · refine g_tableIn (off := 737) (tgt := 777) G dL_law_40 (by decide) (by decide) (by decide) (by decide) ?_
    exact bk_attach G X S ad bb M j k sl w5 w6 w7 w8 h hr i hd h40 ho hj hL hk hs kk
  · refine g_tableIn (off := 812) (tgt := 852) G dL_law_40 (by decide) (by decide) (by decide) (by decide) ?_
    exact bk_person G X S ad bb M j k sl w5 w6 w7 w8 h hr i hd h40 ho hj hL hk hs kk
  · refine g_tableIn (off := 880) (tgt := 920) G dL_law_40 (by decide) (by decide) (by decide) (by decide) ?_
    exact bk_caseOf G X S ad bb M j k sl w5 w6 w7 w8 h hr i hd h40 ho hj hL hk hs kk
  · refine g_tableIn (off := 948) (tgt := 988) G dL_law_40 (by decide) (by decide) (by decide) (by decide) ?_
    exact bk_read G X S ad bb M j k sl w5 w6 w7 w8 h hr i hd h40 ho hj hL hk hs kk
  · refine g_tableIn (off := 1016) (tgt := 1056) G dL_law_40 (by decide) (by decide) (by decide) (by decide) ?_
    exact bk_byteAt G X S ad bb M j k sl w5 w6 w7 w8 h hr i hd h40 ho hj hL hk hs kk
  · refine g_tableIn (off := 1072) (tgt := 1112) G dL_law_40 (by decide) (by decide) (by decide) (by decide) ?_
    exact bk_hidden G X S ad bb M j k sl w5 w6 w7 w8 h hr i hd h40 ho hj hL hk hs kk
  · refine g_tableIn (off := 1140) (tgt := 1180) G dL_law_40 (by decide) (by decide) (by decide) (by decide) ?_
    exact bk_differs G X S ad bb M j k sl w5 w6 w7 w8 h hr i hd h40 ho hj hL hk hs kk
  · refine g_tableIn (off := 1220) (tgt := 1260) G dL_law_40 (by decide) (by decide) (by decide) (by decide) ?_
    exact bk_find G X S ad bb M j k sl w5 w6 w7 w8 h hr i hd h40 ho hj hL hk hs kk
  · refine g_tableIn (off := 1288) (tgt := 1328) G dL_law_40 (by decide) (by decide) (by decide) (by decide) ?_
    exact bk_least G X S ad bb M j k sl w5 w6 w7 w8 h hr i hd h40 ho hj hL hk hs kk
  · refine g_tableIn (off := 1368) (tgt := 1408) G dL_law_40 (by decide) (by decide) (by decide) (by decide) ?_
    exact bk_lend G X S ad bb M j k sl w5 w6 w7 w8 h hr i hd h40 ho hj hL hk hs kk
  · refine g_tableIn (off := 1448) (tgt := 1488) G dL_law_40 (by decide) (by decide) (by decide) (by decide) ?_
    exact bk_back G X S ad bb M j k sl w5 w6 w7 w8 h hr i hd h40 ho hj hL hk hs kk
  · refine g_tableIn (off := 1504) (tgt := 1544) G dL_law_40 (by decide) (by decide) (by decide) (by decide) ?_
    exact bk_takeIn G X S ad bb M j k sl w5 w6 w7 w8 h hr i hd h40 ho hj hL hk hs kk
  · refine g_tableIn (off := 1560) (tgt := 1600) G dL_law_40 (by decide) (by decide) (by decide) (by decide) ?_
    exact bk_hand G X S ad bb M j k sl w5 w6 w7 w8 h hr i hd h40 ho hj hL hk hs kk
  · refine g_tableIn (off := 1628) (tgt := 1668) G dL_law_40 (by decide) (by decide) (by decide) (by decide) ?_
    exact bk_unseal G X S ad bb M j k sl w5 w6 w7 w8 h hr i hd h40 ho hj hL hk hs kk
  · refine g_tableIn (off := 1684) (tgt := 1724) G dL_law_40 (by decide) (by decide) (by decide) (by decide) ?_
    exact bk_lose G X S ad bb M j k sl w5 w6 w7 w8 h hr i hd h40 ho hj hL hk hs kk
  · refine g_tableIn (off := 1740) (tgt := 1780) G dL_law_40 (by decide) (by decide) (by decide) (by decide) ?_
    exact bk_found G X S ad bb M j k sl w5 w6 w7 w8 h hr i hd h40 ho hj hL hk hs kk
  · refine g_tableIn (off := 1808) (tgt := 1848) G dL_law_40 (by decide) (by decide) (by decide) (by decide) ?_
    exact bk_exhibit G X S ad bb M j k sl w5 w6 w7 w8 h hr i hd h40 ho hj hL hk hs kk
  · refine g_tableIn (off := 1876) (tgt := 1916) G dL_law_40 (by decide) (by decide) (by decide) (by decide) ?_
    exact bk_link G X S ad bb M j k sl w5 w6 w7 w8 h hr i hd h40 ho hj hL hk hs kk
  · refine g_tableIn (off := 1956) (tgt := 1996) G dL_law_40 (by decide) (by decide) (by decide) (by decide) ?_
    exact bk_send G X S ad bb M j k sl w5 w6 w7 w8 h hr i hd h40 ho hj hL hk hs kk
  · refine g_tableIn (off := 2036) (tgt := 2076) G dL_law_40 (by decide) (by decide) (by decide) (by decide) ?_
    exact bk_letter G X S ad bb M j k sl w5 w6 w7 w8 h hr i hd h40 ho hj hL hk hs kk
  · refine g_tableIn (off := 2104) (tgt := 2144) G dL_law_40 (by decide) (by decide) (by decide) (by decide) ?_
    exact bk_pass G X S ad bb M j k sl w5 w6 w7 w8 h hr i hd h40 ho hj hL hk hs kk
  · refine g_tableIn (off := 2160) (tgt := 2200) G dL_law_40 (by decide) (by decide) (by decide) (by decide) ?_
    exact bk_arrives G X S ad bb M j k sl w5 w6 w7 w8 h hr i hd h40 ho hj hL hk hs kk
  · refine g_tableIn (off := 2216) (tgt := 2256) G dL_law_40 (by decide) (by decide) (by decide) (by decide) ?_
    exact bk_count G X S ad bb M j k sl w5 w6 w7 w8 h hr i hd h40 ho hj hL hk hs kk
  · refine g_tableIn (off := 2272) (tgt := 2312) G dL_law_40 (by decide) (by decide) (by decide) (by decide) ?_
    exact bk_sees G X S ad bb M j k sl w5 w6 w7 w8 h hr i hd h40 ho hj hL hk hs kk
  · refine g_tableIn (off := 2328) (tgt := 2368) G dL_law_40 (by decide) (by decide) (by decide) (by decide) ?_
    exact bk_plain G S ad bb M j k sl w5 w6 w7 w8 h hr i hd h40 ho hj hL hk hs kk
  · refine g_tableIn (off := 2369) (tgt := 2409) G dL_law_40 (by decide) (by decide) (by decide) (by decide) ?_
    exact bk_digest G S ad bb M j k sl w5 w6 w7 w8 h hr i hd h40 ho hj hL hk hs kk
  · refine g_tableOut (tgt := 2423) G dL_law_40 (Or.inr (by rw [nI_toInt (by omega)]; omega)) (by decide) ?_
    exact bk_none S ad bb M j k sl w5 w6 w7 w8 h hr i hd h40 ho hj hL hk hs kk
set_option maxHeartbeats 4000000 in
set_option maxRecDepth 100000 in
theorem law_loop {Γ : gC} {b L x y o : Nat} {xs : Nat → Int32} (G : gOK Γ RL cL_law 12 601024 7293034) (X : gScr Γ b L xs) (hL : L ≤ 3072) (hend : ∀ (S : gS) (lo : List (Option Value)) (k sl : Nat), k ≤ 601024 → sl ≤ 7293034 → gW Γ 2429 lo [] S k sl) : ∀ (f j : Nat) (S : gS) (ad bb : Nat → Nat → Nat) (M : gM) (w5 w6 w7 w8 : Option Value), 6 * j ≤ L → L + 1 ≤ 6 * j + f → gMail (gD Γ) S x ad M → gRef S y bb M → gInv M → gDue M → mN M 40 ≤ 100 * j → gOut S o → gW Γ 23 [some (.ref b), some (.ref x), some (.ref y), some (.ref o), some (.int (nI (6 * j))), w5, w6, w7, w8] [] S (100 + 720 * j + 7 * mN M 11) (40000 + 7700 * j + 8000 * mN M 11) := by
  intro f
  induction f with
  | zero => intro j S ad bb M w5 w6 w7 w8 h1 h2; omega
  | succ f ih =>
    intro j S ad bb M w5 w6 w7 w8 hj hf h hr i hd h40 ho
    have hb := i.b
    refine g_iload G dL_law_23 rfl ?_
    refine g_aload_n G dL_law_25 rfl ?_
    refine g_slen G X dL_law_26 ?_
    refine g_bipush (v := nI 6) G dL_law_27 (by decide) ?_
    refine g_isub G dL_law_29 rfl ?_
    refine g_icmp_gt (tgt := 2429) G dL_law_30 (by decide) (fun c_30 => ?_) (fun c_30 => ?_)
    · exact hend _ _ _ _ (by omega) (by omega)
    · have hlt : 6 * j + 6 ≤ L := by have := fun z => c_30 ((gTop L j hL hj).mpr z); exact Nat.not_lt.mp this
      refine law_op G X S ad bb M j _ _ w5 w6 w7 w8 h hr i hd (by omega) ho hlt hL (by omega) (by omega) ?_
      intro S' ad' b' M' w5' w6' w7' w8' h' hr' ok ho'
      obtain ⟨ok1, ok2, ok3, ok4⟩ := ok
      refine g_iinc (v := nI (6 * (j + 1))) G dL_law_2423 rfl (nI_add (6 * j) 6) (gSt_4 (by first | rfl | exact g_c1_rf)) ?_
      refine g_goto (tgt := 23) G dL_law_2426 (by decide) ?_
      exact gW.wid (by omega) (by omega) (ih (j + 1) S' ad' b' M' w5' w6' w7' w8' (by omega) (by omega) h' hr' ok1 ok2 (by omega) ho')
set_option maxHeartbeats 4000000 in
set_option maxRecDepth 100000 in
theorem law_all {Γ : gC} {b L : Nat} {xs : Nat → Int32} (G : gOK Γ RL cL_law 12 601024 7293034) (X : gScr Γ b L xs) (hL : L ≤ 3072) (hend : ∀ (S : gS) (lo : List (Option Value)) (k sl : Nat), k ≤ 601024 → sl ≤ 7293034 → gW Γ 2429 lo [] S k sl) : gW Γ 0 [some (.ref b), none, none, none, none, none, none, none, none] [] gS0 0 0 := by
  refine g_new (N := 12) (κ := 9) G nw_L_8 (by first | decide | omega) rfl (by omega) (by omega) dL_law_0 (fun x hx => ?_)
  refine g_dup G dL_law_3 rfl ?_
  refine g_callI G (c_X7_init _ _ x (gK_N _ _ _)) mt_X7_init mi_X7_init ml_L_117 (by decide) (by omega) (by omega) rfl (Nat.le_of_ble_eq_true rfl) dL_law_4 (fun v S1 hp => ?_)
  obtain ⟨rfl, ad, hm, F1⟩ := hp
  simp only [Option.toList, List.nil_append]
  refine g_astore_n G dL_law_7 (gSt_1 (by first | rfl | exact g_c1_rf)) ?_
  refine g_new (N := 35) (κ := 11) G nw_L_118 (by first | decide | omega) rfl (by omega) (by omega) dL_law_8 (fun y hy => ?_)
  have hm2 := gMail_11 hm (gFr_N 11 hy)
  refine g_dup G dL_law_11 rfl ?_
  refine g_callI G (c_X9_init _ _ y (gK_N _ _ _) (fun p => by simp [gX, sN]; exact nI_0.symm)) mt_X9_init mi_X9_init ml_L_120 (by decide) (by omega) (by omega) rfl (Nat.le_of_ble_eq_true rfl) dL_law_12 (fun v S2 hp => ?_)
  obtain ⟨rfl, ⟨bb, hr⟩, F2⟩ := hp
  have hm3 := gMail_ref hm2 F2
  simp only [Option.toList, List.nil_append]
  refine g_astore_n G dL_law_15 (gSt_2 (by first | rfl | exact g_c1_rf)) ?_
  refine g_iconst (v := nI 1) G dL_law_16 (by decide) ?_
  refine g_new_long (κ := 18) G ac_long (by decide) rfl (by omega) (by omega) (by omega) dL_law_17 (fun o ho => ?_)
  refine g_astore_n G dL_law_19 (gSt_3 (by first | rfl | exact g_c1_rf)) ?_
  refine g_iconst (v := nI 0) G dL_law_20 (by decide) ?_
  refine g_istore G dL_law_21 (gSt_4 (by first | rfl | exact g_c1_rf)) ?_
  have hm4 := gMail_18 hm3 (gFr_M 18 1 ho)
  have i0 := gInv_0 hm4
  exact gW.wid (by show _ ≤ 100 + 720 * 0 + 7 * 0; omega) (by show _ ≤ 40000 + 7700 * 0 + 8000 * 0; omega) (law_loop G X hL hend (L + 1) 0 _ ad bb M0 _ _ _ _ (by omega) (by omega) hm4 (gRef_18 hr (gFr_M 18 1 ho)) i0.1 i0.2 (Nat.zero_le _) ⟨gK_M _ _ _ _, va_up_self _ _ _⟩)
