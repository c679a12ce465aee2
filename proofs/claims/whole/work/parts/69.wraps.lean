/-! ===== the law: a call that is caught ===== -/
theorem gHn_1 {own E : String} {a b h t pc : Nat} {rest : List (Nat × Nat × Nat × Nat)} (hc : covers ⟨a, b, h, t⟩ pc = true) (h0 : t ≠ 0) (hl : Cond.classLink own t E ∈ gWords) (hk : Cond.castable E E ∈ tables_1) : gHn own ((a, b, h, t) :: rest) pc E h := ⟨[], ⟨a, b, h, t⟩, tableOf rest, rfl, fun z hz => absurd hz List.not_mem_nil, hc, h0, hl, hk, rfl⟩
theorem gHn_s {own E nm : String} {a b h t pc h' : Nat} {rest : List (Nat × Nat × Nat × Nat)} (hn : gHn own rest pc E h') (h0 : t ≠ 0) (hl : Cond.classLink own t nm ∈ gWords) (hN : (E, nm) ∈ gNcl) : gHn own ((a, b, h, t) :: rest) pc E h' := by
  obtain ⟨pre, x, suf, g1, g2, g3⟩ := hn
  refine ⟨⟨a, b, h, t⟩ :: pre, x, suf, congrArg (List.cons _) g1, fun z hz => ?_, g3⟩
  rcases List.mem_cons.mp hz with rfl | hz
  · exact Or.inr ⟨h0, nm, hl, hN⟩
  · exact g2 z hz
set_option maxHeartbeats 4000000 in
theorem c_L_feed {d0 : Nat × Nat} {S : gS} {x o : Nat} {a1 a2 a3 a4 a5 : Int32} {Post : Option Value → gS → Prop} {PX : String → gS → Prop} {mc ms : Nat} (hx : gK S x = 9) (ct : gCt d0 yX7_feed cX7_feed 6 (some .int) 10 mc ms [.ref x, .int a1, .int a2, .int a3, .int a4, .int a5] S Post PX) (hp : ∀ v S1, Post v S1 → (∃ q, v = some (.int q)) ∧ gOut S1 o) (hq : ∀ E S1, PX E S1 → E = "java/lang/IllegalStateException") : gCtw d0 yL_feed cL_feed 8 (some .int) [(0, 16, 19, 13)] 11 mc ms [.ref x, .int a1, .int a2, .int a3, .int a4, .int a5, .ref o] S (gLw S o Post PX [("java/lang/IllegalStateException", nI 1)]) gNo := by
  refine gCtw_of (lo := [some (.ref x), some (.int a1), some (.int a2), some (.int a3), some (.int a4), some (.int a5), some (.ref o), none]) (by decide +kernel) (Nat.le_of_ble_eq_true rfl) rfl ?_
  intro Γ hd G F
  subst hd
  first | refine g_aload G dL_feed_0 rfl ?_ | refine g_aloadN G dL_feed_0 rfl ?_ | refine g_aloadQ G dL_feed_0 rfl ?_
  refine g_iconst (v := nI 0) G dL_feed_2 (by decide) ?_
  first | refine g_aload_n G dL_feed_3 rfl ?_ | refine g_aload_nN G dL_feed_3 rfl ?_ | refine g_aload_nQ G dL_feed_3 rfl ?_
  refine g_iload_n G dL_feed_4 rfl ?_
  refine g_iload_n G dL_feed_5 rfl ?_
  refine g_iload_n G dL_feed_6 rfl ?_
  refine g_iload G dL_feed_7 rfl ?_
  refine g_iload G dL_feed_9 rfl ?_
  refine g_tryV (ci := 8) G F ct mt_X7_feed mi_X7_feed ml_L_7 hx (by decide) rfl (Nat.le_of_ble_eq_true rfl) (by omega) (by omega) rfl (Nat.le_of_ble_eq_true rfl) dL_feed_11 (fun v S1 h1 => ?_) (fun E S1 h1 => ?_)
  · obtain ⟨⟨q, rfl⟩, ho⟩ := hp v S1 h1
    simp only [Option.toList, List.cons_append, List.nil_append]
    refine g_i2l G dL_feed_14 (rfl) ?_
    refine g_last G ho.1 (by decide) (by rw [ho.2]; omega) (by omega) dL_feed_15 ?_
    refine g_goto (tgt := 23) G dL_feed_16 (by decide) ?_
    refine g_iconst (v := nI 0) G dL_feed_23 (by decide) ?_
    exact g_iretW G F (Or.inl ⟨q, S1, h1, rfl, rfl⟩) (by omega) (by omega) dL_feed_24
  · obtain rfl := hq E S1 h1
    refine ⟨19, gHn_1 (by decide) (by decide) cl_L_13 kce_ISE, fun q => ?_⟩
    first | refine g_astore G dL_feed_19 (gSt_7 (by first | rfl | exact g_c1_rf)) ?_ | refine g_astoreN G dL_feed_19 (gSt_7 (by first | rfl | exact g_c1_rf)) ?_ | refine g_astoreQ G dL_feed_19 (gSt_7 (by first | rfl | exact g_c1_rf)) ?_
    refine g_iconst (v := nI 1) G dL_feed_21 (by decide) ?_
    exact g_iretW G F (Or.inr ⟨_, _, h1, by simp, rfl⟩) (by omega) (by omega) dL_feed_22
set_option maxHeartbeats 4000000 in
theorem c_L_trim {d0 : Nat × Nat} {S : gS} {x o : Nat} {a1 : Int32} {Post : Option Value → gS → Prop} {PX : String → gS → Prop} {mc ms : Nat} (hx : gK S x = 9) (ct : gCt d0 yX7_trim cX7_trim 2 (some .int) 10 mc ms [.ref x, .int a1] S Post PX) (hp : ∀ v S1, Post v S1 → (∃ q, v = some (.int q)) ∧ gOut S1 o) (hq : ∀ E S1, PX E S1 → E = "java/lang/IllegalArgumentException") : gCtw d0 yL_trim cL_trim 4 (some .int) [(0, 9, 12, 19)] 11 mc ms [.ref x, .int a1, .ref o] S (gLw S o Post PX [("java/lang/IllegalArgumentException", nI 1)]) gNo := by
  refine gCtw_of (lo := [some (.ref x), some (.int a1), some (.ref o), none]) (by decide +kernel) (Nat.le_of_ble_eq_true rfl) rfl ?_
  intro Γ hd G F
  subst hd
  first | refine g_aload_n G dL_trim_0 rfl ?_ | refine g_aload_nN G dL_trim_0 rfl ?_ | refine g_aload_nQ G dL_trim_0 rfl ?_
  refine g_iconst (v := nI 0) G dL_trim_1 (by decide) ?_
  first | refine g_aload_n G dL_trim_2 rfl ?_ | refine g_aload_nN G dL_trim_2 rfl ?_ | refine g_aload_nQ G dL_trim_2 rfl ?_
  refine g_iload_n G dL_trim_3 rfl ?_
  refine g_tryV (ci := 8) G F ct mt_X7_trim mi_X7_trim ml_L_15 hx (by decide) rfl (Nat.le_of_ble_eq_true rfl) (by omega) (by omega) rfl (Nat.le_of_ble_eq_true rfl) dL_trim_4 (fun v S1 h1 => ?_) (fun E S1 h1 => ?_)
  · obtain ⟨⟨q, rfl⟩, ho⟩ := hp v S1 h1
    simp only [Option.toList, List.cons_append, List.nil_append]
    refine g_i2l G dL_trim_7 (rfl) ?_
    refine g_last G ho.1 (by decide) (by rw [ho.2]; omega) (by omega) dL_trim_8 ?_
    refine g_goto (tgt := 15) G dL_trim_9 (by decide) ?_
    refine g_iconst (v := nI 0) G dL_trim_15 (by decide) ?_
    exact g_iretW G F (Or.inl ⟨q, S1, h1, rfl, rfl⟩) (by omega) (by omega) dL_trim_16
  · obtain rfl := hq E S1 h1
    refine ⟨12, gHn_1 (by decide) (by decide) cl_L_19 kce_IAE, fun q => ?_⟩
    first | refine g_astore_n G dL_trim_12 (gSt_3 (by first | rfl | exact g_c1_rf)) ?_ | refine g_astore_nN G dL_trim_12 (gSt_3 (by first | rfl | exact g_c1_rf)) ?_ | refine g_astore_nQ G dL_trim_12 (gSt_3 (by first | rfl | exact g_c1_rf)) ?_
    refine g_iconst (v := nI 1) G dL_trim_13 (by decide) ?_
    exact g_iretW G F (Or.inr ⟨_, _, h1, by simp, rfl⟩) (by omega) (by omega) dL_trim_14
set_option maxHeartbeats 4000000 in
theorem c_L_file {d0 : Nat × Nat} {S : gS} {x o : Nat} {a1 : Int32} {Post : Option Value → gS → Prop} {PX : String → gS → Prop} {mc ms : Nat} (hx : gK S x = 9) (ct : gCt d0 yX7_file cX7_file 4 (some .int) 10 mc ms [.ref x, .int a1] S Post PX) (hp : ∀ v S1, Post v S1 → (∃ q, v = some (.int q)) ∧ gOut S1 o) (hq : ∀ E S1, PX E S1 → E = "java/lang/IndexOutOfBoundsException" ∨ E = "java/lang/IllegalStateException") : gCtw d0 yL_file cL_file 4 (some .int) [(0, 9, 12, 24), (0, 9, 15, 13)] 11 mc ms [.ref x, .int a1, .ref o] S (gLw S o Post PX [("java/lang/IndexOutOfBoundsException", nI 1), ("java/lang/IllegalStateException", nI 2)]) gNo := by
  refine gCtw_of (lo := [some (.ref x), some (.int a1), some (.ref o), none]) (by decide +kernel) (Nat.le_of_ble_eq_true rfl) rfl ?_
  intro Γ hd G F
  subst hd
  first | refine g_aload_n G dL_file_0 rfl ?_ | refine g_aload_nN G dL_file_0 rfl ?_ | refine g_aload_nQ G dL_file_0 rfl ?_
  refine g_iconst (v := nI 0) G dL_file_1 (by decide) ?_
  first | refine g_aload_n G dL_file_2 rfl ?_ | refine g_aload_nN G dL_file_2 rfl ?_ | refine g_aload_nQ G dL_file_2 rfl ?_
  refine g_iload_n G dL_file_3 rfl ?_
  refine g_tryV (ci := 8) G F ct mt_X7_file mi_X7_file ml_L_21 hx (by decide) rfl (Nat.le_of_ble_eq_true rfl) (by omega) (by omega) rfl (Nat.le_of_ble_eq_true rfl) dL_file_4 (fun v S1 h1 => ?_) (fun E S1 h1 => ?_)
  · obtain ⟨⟨q, rfl⟩, ho⟩ := hp v S1 h1
    simp only [Option.toList, List.cons_append, List.nil_append]
    refine g_i2l G dL_file_7 (rfl) ?_
    refine g_last G ho.1 (by decide) (by rw [ho.2]; omega) (by omega) dL_file_8 ?_
    refine g_goto (tgt := 18) G dL_file_9 (by decide) ?_
    refine g_iconst (v := nI 0) G dL_file_18 (by decide) ?_
    exact g_iretW G F (Or.inl ⟨q, S1, h1, rfl, rfl⟩) (by omega) (by omega) dL_file_19
  · rcases hq E S1 h1 with rfl | rfl
    · refine ⟨12, gHn_1 (by decide) (by decide) cl_L_24 kce_IOE, fun q => ?_⟩
      first | refine g_astore_n G dL_file_12 (gSt_3 (by first | rfl | exact g_c1_rf)) ?_ | refine g_astore_nN G dL_file_12 (gSt_3 (by first | rfl | exact g_c1_rf)) ?_ | refine g_astore_nQ G dL_file_12 (gSt_3 (by first | rfl | exact g_c1_rf)) ?_
      refine g_iconst (v := nI 1) G dL_file_13 (by decide) ?_
      exact g_iretW G F (Or.inr ⟨_, _, h1, by simp, rfl⟩) (by omega) (by omega) dL_file_14
    · refine ⟨15, gHn_s (gHn_1 (by decide) (by decide) cl_L_13 kce_ISE) (by decide) cl_L_24 (by decide), fun q => ?_⟩
      first | refine g_astore_n G dL_file_15 (gSt_3 (by first | rfl | exact g_c1_rf)) ?_ | refine g_astore_nN G dL_file_15 (gSt_3 (by first | rfl | exact g_c1_rf)) ?_ | refine g_astore_nQ G dL_file_15 (gSt_3 (by first | rfl | exact g_c1_rf)) ?_
      refine g_iconst (v := nI 2) G dL_file_16 (by decide) ?_
      exact g_iretW G F (Or.inr ⟨_, _, h1, by simp, rfl⟩) (by omega) (by omega) dL_file_17
set_option maxHeartbeats 4000000 in
theorem c_L_veil {d0 : Nat × Nat} {S : gS} {x o : Nat} {a1 a2 a3 a4 : Int32} {Post : Option Value → gS → Prop} {PX : String → gS → Prop} {mc ms : Nat} (hx : gK S x = 9) (ct : gCt d0 yX7_veil cX7_veil 6 (some .int) 10 mc ms [.ref x, .int a1, .int a2, .int a3, .int a4] S Post PX) (hp : ∀ v S1, Post v S1 → (∃ q, v = some (.int q)) ∧ gOut S1 o) (hq : ∀ E S1, PX E S1 → E = "java/lang/IndexOutOfBoundsException" ∨ E = "java/lang/IllegalArgumentException") : gCtw d0 yL_veil cL_veil 7 (some .int) [(0, 14, 17, 24), (0, 14, 21, 19)] 11 mc ms [.ref x, .int a1, .int a2, .int a3, .int a4, .ref o] S (gLw S o Post PX [("java/lang/IndexOutOfBoundsException", nI 1), ("java/lang/IllegalArgumentException", nI 2)]) gNo := by
  refine gCtw_of (lo := [some (.ref x), some (.int a1), some (.int a2), some (.int a3), some (.int a4), some (.ref o), none]) (by decide +kernel) (Nat.le_of_ble_eq_true rfl) rfl ?_
  intro Γ hd G F
  subst hd
  first | refine g_aload G dL_veil_0 rfl ?_ | refine g_aloadN G dL_veil_0 rfl ?_ | refine g_aloadQ G dL_veil_0 rfl ?_
  refine g_iconst (v := nI 0) G dL_veil_2 (by decide) ?_
  first | refine g_aload_n G dL_veil_3 rfl ?_ | refine g_aload_nN G dL_veil_3 rfl ?_ | refine g_aload_nQ G dL_veil_3 rfl ?_
  refine g_iload_n G dL_veil_4 rfl ?_
  refine g_iload_n G dL_veil_5 rfl ?_
  refine g_iload_n G dL_veil_6 rfl ?_
  refine g_iload G dL_veil_7 rfl ?_
  refine g_tryV (ci := 8) G F ct mt_X7_veil mi_X7_veil ml_L_26 hx (by decide) rfl (Nat.le_of_ble_eq_true rfl) (by omega) (by omega) rfl (Nat.le_of_ble_eq_true rfl) dL_veil_9 (fun v S1 h1 => ?_) (fun E S1 h1 => ?_)
  · obtain ⟨⟨q, rfl⟩, ho⟩ := hp v S1 h1
    simp only [Option.toList, List.cons_append, List.nil_append]
    refine g_i2l G dL_veil_12 (rfl) ?_
    refine g_last G ho.1 (by decide) (by rw [ho.2]; omega) (by omega) dL_veil_13 ?_
    refine g_goto (tgt := 25) G dL_veil_14 (by decide) ?_
    refine g_iconst (v := nI 0) G dL_veil_25 (by decide) ?_
    exact g_iretW G F (Or.inl ⟨q, S1, h1, rfl, rfl⟩) (by omega) (by omega) dL_veil_26
  · rcases hq E S1 h1 with rfl | rfl
    · refine ⟨17, gHn_1 (by decide) (by decide) cl_L_24 kce_IOE, fun q => ?_⟩
      first | refine g_astore G dL_veil_17 (gSt_6 (by first | rfl | exact g_c1_rf)) ?_ | refine g_astoreN G dL_veil_17 (gSt_6 (by first | rfl | exact g_c1_rf)) ?_ | refine g_astoreQ G dL_veil_17 (gSt_6 (by first | rfl | exact g_c1_rf)) ?_
      refine g_iconst (v := nI 1) G dL_veil_19 (by decide) ?_
      exact g_iretW G F (Or.inr ⟨_, _, h1, by simp, rfl⟩) (by omega) (by omega) dL_veil_20
    · refine ⟨21, gHn_s (gHn_1 (by decide) (by decide) cl_L_19 kce_IAE) (by decide) cl_L_24 (by decide), fun q => ?_⟩
      first | refine g_astore G dL_veil_21 (gSt_6 (by first | rfl | exact g_c1_rf)) ?_ | refine g_astoreN G dL_veil_21 (gSt_6 (by first | rfl | exact g_c1_rf)) ?_ | refine g_astoreQ G dL_veil_21 (gSt_6 (by first | rfl | exact g_c1_rf)) ?_
      refine g_iconst (v := nI 2) G dL_veil_23 (by decide) ?_
      exact g_iretW G F (Or.inr ⟨_, _, h1, by simp, rfl⟩) (by omega) (by omega) dL_veil_24
set_option maxHeartbeats 4000000 in
theorem c_L_document {d0 : Nat × Nat} {S : gS} {x o : Nat} {a1 a2 : Int32} {Post : Option Value → gS → Prop} {PX : String → gS → Prop} {mc ms : Nat} (hx : gK S x = 9) (ct : gCt d0 yX7_document cX7_document 4 (some .int) 10 mc ms [.ref x, .int a1, .int a2] S Post PX) (hp : ∀ v S1, Post v S1 → (∃ q, v = some (.int q)) ∧ gOut S1 o) (hq : ∀ E S1, PX E S1 → E = "java/lang/IndexOutOfBoundsException") : gCtw d0 yL_document cL_document 5 (some .int) [(0, 10, 13, 24)] 11 mc ms [.ref x, .int a1, .int a2, .ref o] S (gLw S o Post PX [("java/lang/IndexOutOfBoundsException", nI 1)]) gNo := by
  refine gCtw_of (lo := [some (.ref x), some (.int a1), some (.int a2), some (.ref o), none]) (by decide +kernel) (Nat.le_of_ble_eq_true rfl) rfl ?_
  intro Γ hd G F
  subst hd
  first | refine g_aload_n G dL_document_0 rfl ?_ | refine g_aload_nN G dL_document_0 rfl ?_ | refine g_aload_nQ G dL_document_0 rfl ?_
  refine g_iconst (v := nI 0) G dL_document_1 (by decide) ?_
  first | refine g_aload_n G dL_document_2 rfl ?_ | refine g_aload_nN G dL_document_2 rfl ?_ | refine g_aload_nQ G dL_document_2 rfl ?_
  refine g_iload_n G dL_document_3 rfl ?_
  refine g_iload_n G dL_document_4 rfl ?_
  refine g_tryV (ci := 8) G F ct mt_X7_document mi_X7_document ml_L_30 hx (by decide) rfl (Nat.le_of_ble_eq_true rfl) (by omega) (by omega) rfl (Nat.le_of_ble_eq_true rfl) dL_document_5 (fun v S1 h1 => ?_) (fun E S1 h1 => ?_)
  · obtain ⟨⟨q, rfl⟩, ho⟩ := hp v S1 h1
    simp only [Option.toList, List.cons_append, List.nil_append]
    refine g_i2l G dL_document_8 (rfl) ?_
    refine g_last G ho.1 (by decide) (by rw [ho.2]; omega) (by omega) dL_document_9 ?_
    refine g_goto (tgt := 17) G dL_document_10 (by decide) ?_
    refine g_iconst (v := nI 0) G dL_document_17 (by decide) ?_
    exact g_iretW G F (Or.inl ⟨q, S1, h1, rfl, rfl⟩) (by omega) (by omega) dL_document_18
  · obtain rfl := hq E S1 h1
    refine ⟨13, gHn_1 (by decide) (by decide) cl_L_24 kce_IOE, fun q => ?_⟩
    first | refine g_astore G dL_document_13 (gSt_4 (by first | rfl | exact g_c1_rf)) ?_ | refine g_astoreN G dL_document_13 (gSt_4 (by first | rfl | exact g_c1_rf)) ?_ | refine g_astoreQ G dL_document_13 (gSt_4 (by first | rfl | exact g_c1_rf)) ?_
    refine g_iconst (v := nI 1) G dL_document_15 (by decide) ?_
    exact g_iretW G F (Or.inr ⟨_, _, h1, by simp, rfl⟩) (by omega) (by omega) dL_document_16
set_option maxHeartbeats 4000000 in
theorem c_L_open {d0 : Nat × Nat} {S : gS} {x o : Nat} {a1 : Int32} {Post : Option Value → gS → Prop} {PX : String → gS → Prop} {mc ms : Nat} (hx : gK S x = 9) (ct : gCt d0 yX7_open cX7_open 2 (some .int) 10 mc ms [.ref x, .int a1] S Post PX) (hp : ∀ v S1, Post v S1 → (∃ q, v = some (.int q)) ∧ gOut S1 o) (hq : ∀ E S1, PX E S1 → E = "java/lang/IllegalArgumentException" ∨ E = "java/lang/IllegalStateException") : gCtw d0 yL_open cL_open 4 (some .int) [(0, 9, 12, 19), (0, 9, 15, 13)] 11 mc ms [.ref x, .int a1, .ref o] S (gLw S o Post PX [("java/lang/IllegalArgumentException", nI 1), ("java/lang/IllegalStateException", nI 2)]) gNo := by
  refine gCtw_of (lo := [some (.ref x), some (.int a1), some (.ref o), none]) (by decide +kernel) (Nat.le_of_ble_eq_true rfl) rfl ?_
  intro Γ hd G F
  subst hd
  first | refine g_aload_n G dL_open_0 rfl ?_ | refine g_aload_nN G dL_open_0 rfl ?_ | refine g_aload_nQ G dL_open_0 rfl ?_
  refine g_iconst (v := nI 0) G dL_open_1 (by decide) ?_
  first | refine g_aload_n G dL_open_2 rfl ?_ | refine g_aload_nN G dL_open_2 rfl ?_ | refine g_aload_nQ G dL_open_2 rfl ?_
  refine g_iload_n G dL_open_3 rfl ?_
  refine g_tryV (ci := 8) G F ct mt_X7_open mi_X7_open ml_L_34 hx (by decide) rfl (Nat.le_of_ble_eq_true rfl) (by omega) (by omega) rfl (Nat.le_of_ble_eq_true rfl) dL_open_4 (fun v S1 h1 => ?_) (fun E S1 h1 => ?_)
  · obtain ⟨⟨q, rfl⟩, ho⟩ := hp v S1 h1
    simp only [Option.toList, List.cons_append, List.nil_append]
    refine g_i2l G dL_open_7 (rfl) ?_
    refine g_last G ho.1 (by decide) (by rw [ho.2]; omega) (by omega) dL_open_8 ?_
    refine g_goto (tgt := 18) G dL_open_9 (by decide) ?_
    refine g_iconst (v := nI 0) G dL_open_18 (by decide) ?_
    exact g_iretW G F (Or.inl ⟨q, S1, h1, rfl, rfl⟩) (by omega) (by omega) dL_open_19
  · rcases hq E S1 h1 with rfl | rfl
    · refine ⟨12, gHn_1 (by decide) (by decide) cl_L_19 kce_IAE, fun q => ?_⟩
      first | refine g_astore_n G dL_open_12 (gSt_3 (by first | rfl | exact g_c1_rf)) ?_ | refine g_astore_nN G dL_open_12 (gSt_3 (by first | rfl | exact g_c1_rf)) ?_ | refine g_astore_nQ G dL_open_12 (gSt_3 (by first | rfl | exact g_c1_rf)) ?_
      refine g_iconst (v := nI 1) G dL_open_13 (by decide) ?_
      exact g_iretW G F (Or.inr ⟨_, _, h1, by simp, rfl⟩) (by omega) (by omega) dL_open_14
    · refine ⟨15, gHn_s (gHn_1 (by decide) (by decide) cl_L_13 kce_ISE) (by decide) cl_L_19 (by decide), fun q => ?_⟩
      first | refine g_astore_n G dL_open_15 (gSt_3 (by first | rfl | exact g_c1_rf)) ?_ | refine g_astore_nN G dL_open_15 (gSt_3 (by first | rfl | exact g_c1_rf)) ?_ | refine g_astore_nQ G dL_open_15 (gSt_3 (by first | rfl | exact g_c1_rf)) ?_
      refine g_iconst (v := nI 2) G dL_open_16 (by decide) ?_
      exact g_iretW G F (Or.inr ⟨_, _, h1, by simp, rfl⟩) (by omega) (by omega) dL_open_17
set_option maxHeartbeats 4000000 in
theorem c_L_seal {d0 : Nat × Nat} {S : gS} {x o : Nat} {a1 a2 : Int32} {Post : Option Value → gS → Prop} {PX : String → gS → Prop} {mc ms : Nat} (hx : gK S x = 9) (ct : gCt d0 yX7_seal cX7_seal 5 (some .int) 10 mc ms [.ref x, .int a1, .int a2] S Post PX) (hp : ∀ v S1, Post v S1 → (∃ q, v = some (.int q)) ∧ gOut S1 o) (hq : ∀ E S1, PX E S1 → E = "java/lang/IndexOutOfBoundsException" ∨ E = "java/lang/IllegalArgumentException") : gCtw d0 yL_seal cL_seal 5 (some .int) [(0, 10, 13, 24), (0, 10, 17, 19)] 11 mc ms [.ref x, .int a1, .int a2, .ref o] S (gLw S o Post PX [("java/lang/IndexOutOfBoundsException", nI 1), ("java/lang/IllegalArgumentException", nI 2)]) gNo := by
  refine gCtw_of (lo := [some (.ref x), some (.int a1), some (.int a2), some (.ref o), none]) (by decide +kernel) (Nat.le_of_ble_eq_true rfl) rfl ?_
  intro Γ hd G F
  subst hd
  first | refine g_aload_n G dL_seal_0 rfl ?_ | refine g_aload_nN G dL_seal_0 rfl ?_ | refine g_aload_nQ G dL_seal_0 rfl ?_
  refine g_iconst (v := nI 0) G dL_seal_1 (by decide) ?_
  first | refine g_aload_n G dL_seal_2 rfl ?_ | refine g_aload_nN G dL_seal_2 rfl ?_ | refine g_aload_nQ G dL_seal_2 rfl ?_
  refine g_iload_n G dL_seal_3 rfl ?_
  refine g_iload_n G dL_seal_4 rfl ?_
  refine g_tryV (ci := 8) G F ct mt_X7_seal mi_X7_seal ml_L_37 hx (by decide) rfl (Nat.le_of_ble_eq_true rfl) (by omega) (by omega) rfl (Nat.le_of_ble_eq_true rfl) dL_seal_5 (fun v S1 h1 => ?_) (fun E S1 h1 => ?_)
  · obtain ⟨⟨q, rfl⟩, ho⟩ := hp v S1 h1
    simp only [Option.toList, List.cons_append, List.nil_append]
    refine g_i2l G dL_seal_8 (rfl) ?_
    refine g_last G ho.1 (by decide) (by rw [ho.2]; omega) (by omega) dL_seal_9 ?_
    refine g_goto (tgt := 21) G dL_seal_10 (by decide) ?_
    refine g_iconst (v := nI 0) G dL_seal_21 (by decide) ?_
    exact g_iretW G F (Or.inl ⟨q, S1, h1, rfl, rfl⟩) (by omega) (by omega) dL_seal_22
  · rcases hq E S1 h1 with rfl | rfl
    · refine ⟨13, gHn_1 (by decide) (by decide) cl_L_24 kce_IOE, fun q => ?_⟩
      first | refine g_astore G dL_seal_13 (gSt_4 (by first | rfl | exact g_c1_rf)) ?_ | refine g_astoreN G dL_seal_13 (gSt_4 (by first | rfl | exact g_c1_rf)) ?_ | refine g_astoreQ G dL_seal_13 (gSt_4 (by first | rfl | exact g_c1_rf)) ?_
      refine g_iconst (v := nI 1) G dL_seal_15 (by decide) ?_
      exact g_iretW G F (Or.inr ⟨_, _, h1, by simp, rfl⟩) (by omega) (by omega) dL_seal_16
    · refine ⟨17, gHn_s (gHn_1 (by decide) (by decide) cl_L_19 kce_IAE) (by decide) cl_L_24 (by decide), fun q => ?_⟩
      first | refine g_astore G dL_seal_17 (gSt_4 (by first | rfl | exact g_c1_rf)) ?_ | refine g_astoreN G dL_seal_17 (gSt_4 (by first | rfl | exact g_c1_rf)) ?_ | refine g_astoreQ G dL_seal_17 (gSt_4 (by first | rfl | exact g_c1_rf)) ?_
      refine g_iconst (v := nI 2) G dL_seal_19 (by decide) ?_
      exact g_iretW G F (Or.inr ⟨_, _, h1, by simp, rfl⟩) (by omega) (by omega) dL_seal_20
set_option maxHeartbeats 4000000 in
theorem c_L_addPerson {d0 : Nat × Nat} {S : gS} {x o : Nat} {a1 a2 : Int32} {Post : Option Value → gS → Prop} {PX : String → gS → Prop} {mc ms : Nat} (hx : gK S x = 9) (ct : gCt d0 yX7_addPerson cX7_addPerson 3 (some .int) 10 mc ms [.ref x, .int a1, .int a2] S Post PX) (hp : ∀ v S1, Post v S1 → (∃ q, v = some (.int q)) ∧ gOut S1 o) (hq : ∀ E S1, PX E S1 → E = "java/lang/IllegalArgumentException" ∨ E = "java/lang/IllegalStateException") : gCtw d0 yL_addPerson cL_addPerson 5 (some .int) [(0, 10, 13, 19), (0, 10, 17, 13)] 11 mc ms [.ref x, .int a1, .int a2, .ref o] S (gLw S o Post PX [("java/lang/IllegalArgumentException", nI 1), ("java/lang/IllegalStateException", nI 2)]) gNo := by
  refine gCtw_of (lo := [some (.ref x), some (.int a1), some (.int a2), some (.ref o), none]) (by decide +kernel) (Nat.le_of_ble_eq_true rfl) rfl ?_
  intro Γ hd G F
  subst hd
  first | refine g_aload_n G dL_addPerson_0 rfl ?_ | refine g_aload_nN G dL_addPerson_0 rfl ?_ | refine g_aload_nQ G dL_addPerson_0 rfl ?_
  refine g_iconst (v := nI 0) G dL_addPerson_1 (by decide) ?_
  first | refine g_aload_n G dL_addPerson_2 rfl ?_ | refine g_aload_nN G dL_addPerson_2 rfl ?_ | refine g_aload_nQ G dL_addPerson_2 rfl ?_
  refine g_iload_n G dL_addPerson_3 rfl ?_
  refine g_iload_n G dL_addPerson_4 rfl ?_
  refine g_tryV (ci := 8) G F ct mt_X7_addPerson mi_X7_addPerson ml_L_40 hx (by decide) rfl (Nat.le_of_ble_eq_true rfl) (by omega) (by omega) rfl (Nat.le_of_ble_eq_true rfl) dL_addPerson_5 (fun v S1 h1 => ?_) (fun E S1 h1 => ?_)
  · obtain ⟨⟨q, rfl⟩, ho⟩ := hp v S1 h1
    simp only [Option.toList, List.cons_append, List.nil_append]
    refine g_i2l G dL_addPerson_8 (rfl) ?_
    refine g_last G ho.1 (by decide) (by rw [ho.2]; omega) (by omega) dL_addPerson_9 ?_
    refine g_goto (tgt := 21) G dL_addPerson_10 (by decide) ?_
    refine g_iconst (v := nI 0) G dL_addPerson_21 (by decide) ?_
    exact g_iretW G F (Or.inl ⟨q, S1, h1, rfl, rfl⟩) (by omega) (by omega) dL_addPerson_22
  · rcases hq E S1 h1 with rfl | rfl
    · refine ⟨13, gHn_1 (by decide) (by decide) cl_L_19 kce_IAE, fun q => ?_⟩
      first | refine g_astore G dL_addPerson_13 (gSt_4 (by first | rfl | exact g_c1_rf)) ?_ | refine g_astoreN G dL_addPerson_13 (gSt_4 (by first | rfl | exact g_c1_rf)) ?_ | refine g_astoreQ G dL_addPerson_13 (gSt_4 (by first | rfl | exact g_c1_rf)) ?_
      refine g_iconst (v := nI 1) G dL_addPerson_15 (by decide) ?_
      exact g_iretW G F (Or.inr ⟨_, _, h1, by simp, rfl⟩) (by omega) (by omega) dL_addPerson_16
    · refine ⟨17, gHn_s (gHn_1 (by decide) (by decide) cl_L_13 kce_ISE) (by decide) cl_L_19 (by decide), fun q => ?_⟩
      first | refine g_astore G dL_addPerson_17 (gSt_4 (by first | rfl | exact g_c1_rf)) ?_ | refine g_astoreN G dL_addPerson_17 (gSt_4 (by first | rfl | exact g_c1_rf)) ?_ | refine g_astoreQ G dL_addPerson_17 (gSt_4 (by first | rfl | exact g_c1_rf)) ?_
      refine g_iconst (v := nI 2) G dL_addPerson_19 (by decide) ?_
      exact g_iretW G F (Or.inr ⟨_, _, h1, by simp, rfl⟩) (by omega) (by omega) dL_addPerson_20
set_option maxHeartbeats 4000000 in
theorem c_L_attach {d0 : Nat × Nat} {S : gS} {x o : Nat} {a1 a2 : Int32} {Post : Option Value → gS → Prop} {PX : String → gS → Prop} {mc ms : Nat} (hx : gK S x = 9) (ct : gCt d0 yX7_attach cX7_attach 5 (some .boolean) 10 mc ms [.ref x, .int a1, .int a2] S Post PX) (hp : ∀ v S1, Post v S1 → (∃ q, v = some (.int q) ∧ (q = nI 0 ∨ q = nI 1)) ∧ gOut S1 o) (hq : ∀ E S1, PX E S1 → E = "java/lang/IndexOutOfBoundsException") : gCtw d0 yL_attach cL_attach 5 (some .int) [(0, 17, 20, 24)] 11 mc ms [.ref x, .int a1, .int a2, .ref o] S (gLw S o Post PX [("java/lang/IndexOutOfBoundsException", nI 1)]) gNo := by
  refine gCtw_of (lo := [some (.ref x), some (.int a1), some (.int a2), some (.ref o), none]) (by decide +kernel) (Nat.le_of_ble_eq_true rfl) rfl ?_
  intro Γ hd G F
  subst hd
  first | refine g_aload_n G dL_attach_0 rfl ?_ | refine g_aload_nN G dL_attach_0 rfl ?_ | refine g_aload_nQ G dL_attach_0 rfl ?_
  refine g_iconst (v := nI 0) G dL_attach_1 (by decide) ?_
  first | refine g_aload_n G dL_attach_2 rfl ?_ | refine g_aload_nN G dL_attach_2 rfl ?_ | refine g_aload_nQ G dL_attach_2 rfl ?_
  refine g_iload_n G dL_attach_3 rfl ?_
  refine g_iload_n G dL_attach_4 rfl ?_
  refine g_tryV (ci := 8) G F ct mt_X7_attach mi_X7_attach ml_L_43 hx (by decide) rfl (Nat.le_of_ble_eq_true rfl) (by omega) (by omega) rfl (Nat.le_of_ble_eq_true rfl) dL_attach_5 (fun v S1 h1 => ?_) (fun E S1 h1 => ?_)
  · obtain ⟨⟨q, rfl, hq9⟩, ho⟩ := hp v S1 h1
    simp only [Option.toList, List.cons_append, List.nil_append]
    refine g_if_eq (tgt := 15) G dL_attach_8 (by decide) (fun c_8 => ?_) (fun c_8 => ?_)
    · obtain rfl : q = nI 0 := by rcases hq9 with rfl | rfl; exact rfl; exact absurd c_8 (by decide)
      refine g_lconst (v := lN 0) G dL_attach_15 (by decide) ?_
      refine g_last G ho.1 (by decide) (by rw [ho.2]; omega) (by omega) dL_attach_16 ?_
      refine g_goto (tgt := 24) G dL_attach_17 (by decide) ?_
      refine g_iconst (v := nI 0) G dL_attach_24 (by decide) ?_
      exact g_iretW G F (Or.inl ⟨_, S1, h1, rfl, rfl⟩) (by omega) (by omega) dL_attach_25
    · obtain rfl : q = nI 1 := by rcases hq9 with rfl | rfl; exact absurd rfl c_8; exact rfl
      refine g_lconst (v := lN 1) G dL_attach_11 (by decide) ?_
      refine g_goto (tgt := 16) G dL_attach_12 (by decide) ?_
      refine g_last G ho.1 (by decide) (by rw [ho.2]; omega) (by omega) dL_attach_16 ?_
      refine g_goto (tgt := 24) G dL_attach_17 (by decide) ?_
      refine g_iconst (v := nI 0) G dL_attach_24 (by decide) ?_
      exact g_iretW G F (Or.inl ⟨_, S1, h1, rfl, rfl⟩) (by omega) (by omega) dL_attach_25
  · obtain rfl := hq E S1 h1
    refine ⟨20, gHn_1 (by decide) (by decide) cl_L_24 kce_IOE, fun q => ?_⟩
    first | refine g_astore G dL_attach_20 (gSt_4 (by first | rfl | exact g_c1_rf)) ?_ | refine g_astoreN G dL_attach_20 (gSt_4 (by first | rfl | exact g_c1_rf)) ?_ | refine g_astoreQ G dL_attach_20 (gSt_4 (by first | rfl | exact g_c1_rf)) ?_
    refine g_iconst (v := nI 1) G dL_attach_22 (by decide) ?_
    exact g_iretW G F (Or.inr ⟨_, _, h1, by simp, rfl⟩) (by omega) (by omega) dL_attach_23
set_option maxHeartbeats 4000000 in
theorem c_L_person {d0 : Nat × Nat} {S : gS} {x o : Nat} {a1 a2 : Int32} {Post : Option Value → gS → Prop} {PX : String → gS → Prop} {mc ms : Nat} (hx : gK S x = 9) (ct : gCt d0 yX7_person cX7_person 4 (some .int) 10 mc ms [.ref x, .int a1, .int a2] S Post PX) (hp : ∀ v S1, Post v S1 → (∃ q, v = some (.int q)) ∧ gOut S1 o) (hq : ∀ E S1, PX E S1 → E = "java/lang/IndexOutOfBoundsException") : gCtw d0 yL_person cL_person 5 (some .int) [(0, 10, 13, 24)] 11 mc ms [.ref x, .int a1, .int a2, .ref o] S (gLw S o Post PX [("java/lang/IndexOutOfBoundsException", nI 1)]) gNo := by
  refine gCtw_of (lo := [some (.ref x), some (.int a1), some (.int a2), some (.ref o), none]) (by decide +kernel) (Nat.le_of_ble_eq_true rfl) rfl ?_
  intro Γ hd G F
  subst hd
  first | refine g_aload_n G dL_person_0 rfl ?_ | refine g_aload_nN G dL_person_0 rfl ?_ | refine g_aload_nQ G dL_person_0 rfl ?_
  refine g_iconst (v := nI 0) G dL_person_1 (by decide) ?_
  first | refine g_aload_n G dL_person_2 rfl ?_ | refine g_aload_nN G dL_person_2 rfl ?_ | refine g_aload_nQ G dL_person_2 rfl ?_
  refine g_iload_n G dL_person_3 rfl ?_
  refine g_iload_n G dL_person_4 rfl ?_
  refine g_tryV (ci := 8) G F ct mt_X7_person mi_X7_person ml_L_47 hx (by decide) rfl (Nat.le_of_ble_eq_true rfl) (by omega) (by omega) rfl (Nat.le_of_ble_eq_true rfl) dL_person_5 (fun v S1 h1 => ?_) (fun E S1 h1 => ?_)
  · obtain ⟨⟨q, rfl⟩, ho⟩ := hp v S1 h1
    simp only [Option.toList, List.cons_append, List.nil_append]
    refine g_i2l G dL_person_8 (rfl) ?_
    refine g_last G ho.1 (by decide) (by rw [ho.2]; omega) (by omega) dL_person_9 ?_
    refine g_goto (tgt := 17) G dL_person_10 (by decide) ?_
    refine g_iconst (v := nI 0) G dL_person_17 (by decide) ?_
    exact g_iretW G F (Or.inl ⟨q, S1, h1, rfl, rfl⟩) (by omega) (by omega) dL_person_18
  · obtain rfl := hq E S1 h1
    refine ⟨13, gHn_1 (by decide) (by decide) cl_L_24 kce_IOE, fun q => ?_⟩
    first | refine g_astore G dL_person_13 (gSt_4 (by first | rfl | exact g_c1_rf)) ?_ | refine g_astoreN G dL_person_13 (gSt_4 (by first | rfl | exact g_c1_rf)) ?_ | refine g_astoreQ G dL_person_13 (gSt_4 (by first | rfl | exact g_c1_rf)) ?_
    refine g_iconst (v := nI 1) G dL_person_15 (by decide) ?_
    exact g_iretW G F (Or.inr ⟨_, _, h1, by simp, rfl⟩) (by omega) (by omega) dL_person_16
set_option maxHeartbeats 4000000 in
theorem c_L_caseOf {d0 : Nat × Nat} {S : gS} {x o : Nat} {a1 a2 : Int32} {Post : Option Value → gS → Prop} {PX : String → gS → Prop} {mc ms : Nat} (hx : gK S x = 9) (ct : gCt d0 yX7_caseOf cX7_caseOf 4 (some .int) 10 mc ms [.ref x, .int a1, .int a2] S Post PX) (hp : ∀ v S1, Post v S1 → (∃ q, v = some (.int q)) ∧ gOut S1 o) (hq : ∀ E S1, PX E S1 → E = "java/lang/IndexOutOfBoundsException") : gCtw d0 yL_caseOf cL_caseOf 5 (some .int) [(0, 10, 13, 24)] 11 mc ms [.ref x, .int a1, .int a2, .ref o] S (gLw S o Post PX [("java/lang/IndexOutOfBoundsException", nI 1)]) gNo := by
  refine gCtw_of (lo := [some (.ref x), some (.int a1), some (.int a2), some (.ref o), none]) (by decide +kernel) (Nat.le_of_ble_eq_true rfl) rfl ?_
  intro Γ hd G F
  subst hd
  first | refine g_aload_n G dL_caseOf_0 rfl ?_ | refine g_aload_nN G dL_caseOf_0 rfl ?_ | refine g_aload_nQ G dL_caseOf_0 rfl ?_
  refine g_iconst (v := nI 0) G dL_caseOf_1 (by decide) ?_
  first | refine g_aload_n G dL_caseOf_2 rfl ?_ | refine g_aload_nN G dL_caseOf_2 rfl ?_ | refine g_aload_nQ G dL_caseOf_2 rfl ?_
  refine g_iload_n G dL_caseOf_3 rfl ?_
  refine g_iload_n G dL_caseOf_4 rfl ?_
  refine g_tryV (ci := 8) G F ct mt_X7_caseOf mi_X7_caseOf ml_L_50 hx (by decide) rfl (Nat.le_of_ble_eq_true rfl) (by omega) (by omega) rfl (Nat.le_of_ble_eq_true rfl) dL_caseOf_5 (fun v S1 h1 => ?_) (fun E S1 h1 => ?_)
  · obtain ⟨⟨q, rfl⟩, ho⟩ := hp v S1 h1
    simp only [Option.toList, List.cons_append, List.nil_append]
    refine g_i2l G dL_caseOf_8 (rfl) ?_
    refine g_last G ho.1 (by decide) (by rw [ho.2]; omega) (by omega) dL_caseOf_9 ?_
    refine g_goto (tgt := 17) G dL_caseOf_10 (by decide) ?_
    refine g_iconst (v := nI 0) G dL_caseOf_17 (by decide) ?_
    exact g_iretW G F (Or.inl ⟨q, S1, h1, rfl, rfl⟩) (by omega) (by omega) dL_caseOf_18
  · obtain rfl := hq E S1 h1
    refine ⟨13, gHn_1 (by decide) (by decide) cl_L_24 kce_IOE, fun q => ?_⟩
    first | refine g_astore G dL_caseOf_13 (gSt_4 (by first | rfl | exact g_c1_rf)) ?_ | refine g_astoreN G dL_caseOf_13 (gSt_4 (by first | rfl | exact g_c1_rf)) ?_ | refine g_astoreQ G dL_caseOf_13 (gSt_4 (by first | rfl | exact g_c1_rf)) ?_
    refine g_iconst (v := nI 1) G dL_caseOf_15 (by decide) ?_
    exact g_iretW G F (Or.inr ⟨_, _, h1, by simp, rfl⟩) (by omega) (by omega) dL_caseOf_16
set_option maxHeartbeats 4000000 in
theorem c_L_read {d0 : Nat × Nat} {S : gS} {x o : Nat} {a1 a2 : Int32} {Post : Option Value → gS → Prop} {PX : String → gS → Prop} {mc ms : Nat} (hx : gK S x = 9) (ct : gCt d0 yX7_read cX7_read 6 (some .int) 10 mc ms [.ref x, .int a1, .int a2] S Post PX) (hp : ∀ v S1, Post v S1 → (∃ q, v = some (.int q)) ∧ gOut S1 o) (hq : ∀ E S1, PX E S1 → E = "java/lang/IndexOutOfBoundsException") : gCtw d0 yL_read cL_read 5 (some .int) [(0, 10, 13, 24)] 11 mc ms [.ref x, .int a1, .int a2, .ref o] S (gLw S o Post PX [("java/lang/IndexOutOfBoundsException", nI 1)]) gNo := by
  refine gCtw_of (lo := [some (.ref x), some (.int a1), some (.int a2), some (.ref o), none]) (by decide +kernel) (Nat.le_of_ble_eq_true rfl) rfl ?_
  intro Γ hd G F
  subst hd
  first | refine g_aload_n G dL_read_0 rfl ?_ | refine g_aload_nN G dL_read_0 rfl ?_ | refine g_aload_nQ G dL_read_0 rfl ?_
  refine g_iconst (v := nI 0) G dL_read_1 (by decide) ?_
  first | refine g_aload_n G dL_read_2 rfl ?_ | refine g_aload_nN G dL_read_2 rfl ?_ | refine g_aload_nQ G dL_read_2 rfl ?_
  refine g_iload_n G dL_read_3 rfl ?_
  refine g_iload_n G dL_read_4 rfl ?_
  refine g_tryV (ci := 8) G F ct mt_X7_read mi_X7_read ml_L_53 hx (by decide) rfl (Nat.le_of_ble_eq_true rfl) (by omega) (by omega) rfl (Nat.le_of_ble_eq_true rfl) dL_read_5 (fun v S1 h1 => ?_) (fun E S1 h1 => ?_)
  · obtain ⟨⟨q, rfl⟩, ho⟩ := hp v S1 h1
    simp only [Option.toList, List.cons_append, List.nil_append]
    refine g_i2l G dL_read_8 (rfl) ?_
    refine g_last G ho.1 (by decide) (by rw [ho.2]; omega) (by omega) dL_read_9 ?_
    refine g_goto (tgt := 17) G dL_read_10 (by decide) ?_
    refine g_iconst (v := nI 0) G dL_read_17 (by decide) ?_
    exact g_iretW G F (Or.inl ⟨q, S1, h1, rfl, rfl⟩) (by omega) (by omega) dL_read_18
  · obtain rfl := hq E S1 h1
    refine ⟨13, gHn_1 (by decide) (by decide) cl_L_24 kce_IOE, fun q => ?_⟩
    first | refine g_astore G dL_read_13 (gSt_4 (by first | rfl | exact g_c1_rf)) ?_ | refine g_astoreN G dL_read_13 (gSt_4 (by first | rfl | exact g_c1_rf)) ?_ | refine g_astoreQ G dL_read_13 (gSt_4 (by first | rfl | exact g_c1_rf)) ?_
    refine g_iconst (v := nI 1) G dL_read_15 (by decide) ?_
    exact g_iretW G F (Or.inr ⟨_, _, h1, by simp, rfl⟩) (by omega) (by omega) dL_read_16
set_option maxHeartbeats 4000000 in
theorem c_L_byteAt {d0 : Nat × Nat} {S : gS} {x o : Nat} {a1 : Int32} {Post : Option Value → gS → Prop} {PX : String → gS → Prop} {mc ms : Nat} (hx : gK S x = 9) (ct : gCt d0 yX7_byteAt cX7_byteAt 2 (some .int) 10 mc ms [.ref x, .int a1] S Post PX) (hp : ∀ v S1, Post v S1 → (∃ q, v = some (.int q)) ∧ gOut S1 o) (hq : ∀ E S1, PX E S1 → E = "java/lang/IndexOutOfBoundsException") : gCtw d0 yL_byteAt cL_byteAt 4 (some .int) [(0, 9, 12, 24)] 11 mc ms [.ref x, .int a1, .ref o] S (gLw S o Post PX [("java/lang/IndexOutOfBoundsException", nI 1)]) gNo := by
  refine gCtw_of (lo := [some (.ref x), some (.int a1), some (.ref o), none]) (by decide +kernel) (Nat.le_of_ble_eq_true rfl) rfl ?_
  intro Γ hd G F
  subst hd
  first | refine g_aload_n G dL_byteAt_0 rfl ?_ | refine g_aload_nN G dL_byteAt_0 rfl ?_ | refine g_aload_nQ G dL_byteAt_0 rfl ?_
  refine g_iconst (v := nI 0) G dL_byteAt_1 (by decide) ?_
  first | refine g_aload_n G dL_byteAt_2 rfl ?_ | refine g_aload_nN G dL_byteAt_2 rfl ?_ | refine g_aload_nQ G dL_byteAt_2 rfl ?_
  refine g_iload_n G dL_byteAt_3 rfl ?_
  refine g_tryV (ci := 8) G F ct mt_X7_byteAt mi_X7_byteAt ml_L_56 hx (by decide) rfl (Nat.le_of_ble_eq_true rfl) (by omega) (by omega) rfl (Nat.le_of_ble_eq_true rfl) dL_byteAt_4 (fun v S1 h1 => ?_) (fun E S1 h1 => ?_)
  · obtain ⟨⟨q, rfl⟩, ho⟩ := hp v S1 h1
    simp only [Option.toList, List.cons_append, List.nil_append]
    refine g_i2l G dL_byteAt_7 (rfl) ?_
    refine g_last G ho.1 (by decide) (by rw [ho.2]; omega) (by omega) dL_byteAt_8 ?_
    refine g_goto (tgt := 15) G dL_byteAt_9 (by decide) ?_
    refine g_iconst (v := nI 0) G dL_byteAt_15 (by decide) ?_
    exact g_iretW G F (Or.inl ⟨q, S1, h1, rfl, rfl⟩) (by omega) (by omega) dL_byteAt_16
  · obtain rfl := hq E S1 h1
    refine ⟨12, gHn_1 (by decide) (by decide) cl_L_24 kce_IOE, fun q => ?_⟩
    first | refine g_astore_n G dL_byteAt_12 (gSt_3 (by first | rfl | exact g_c1_rf)) ?_ | refine g_astore_nN G dL_byteAt_12 (gSt_3 (by first | rfl | exact g_c1_rf)) ?_ | refine g_astore_nQ G dL_byteAt_12 (gSt_3 (by first | rfl | exact g_c1_rf)) ?_
    refine g_iconst (v := nI 1) G dL_byteAt_13 (by decide) ?_
    exact g_iretW G F (Or.inr ⟨_, _, h1, by simp, rfl⟩) (by omega) (by omega) dL_byteAt_14
set_option maxHeartbeats 4000000 in
theorem c_L_hidden {d0 : Nat × Nat} {S : gS} {x o : Nat} {a1 a2 : Int32} {Post : Option Value → gS → Prop} {PX : String → gS → Prop} {mc ms : Nat} (hx : gK S x = 9) (ct : gCt d0 yX7_hidden cX7_hidden 5 (some .int) 10 mc ms [.ref x, .int a1, .int a2] S Post PX) (hp : ∀ v S1, Post v S1 → (∃ q, v = some (.int q)) ∧ gOut S1 o) (hq : ∀ E S1, PX E S1 → E = "java/lang/IndexOutOfBoundsException") : gCtw d0 yL_hidden cL_hidden 5 (some .int) [(0, 10, 13, 24)] 11 mc ms [.ref x, .int a1, .int a2, .ref o] S (gLw S o Post PX [("java/lang/IndexOutOfBoundsException", nI 1)]) gNo := by
  refine gCtw_of (lo := [some (.ref x), some (.int a1), some (.int a2), some (.ref o), none]) (by decide +kernel) (Nat.le_of_ble_eq_true rfl) rfl ?_
  intro Γ hd G F
  subst hd
  first | refine g_aload_n G dL_hidden_0 rfl ?_ | refine g_aload_nN G dL_hidden_0 rfl ?_ | refine g_aload_nQ G dL_hidden_0 rfl ?_
  refine g_iconst (v := nI 0) G dL_hidden_1 (by decide) ?_
  first | refine g_aload_n G dL_hidden_2 rfl ?_ | refine g_aload_nN G dL_hidden_2 rfl ?_ | refine g_aload_nQ G dL_hidden_2 rfl ?_
  refine g_iload_n G dL_hidden_3 rfl ?_
  refine g_iload_n G dL_hidden_4 rfl ?_
  refine g_tryV (ci := 8) G F ct mt_X7_hidden mi_X7_hidden ml_L_59 hx (by decide) rfl (Nat.le_of_ble_eq_true rfl) (by omega) (by omega) rfl (Nat.le_of_ble_eq_true rfl) dL_hidden_5 (fun v S1 h1 => ?_) (fun E S1 h1 => ?_)
  · obtain ⟨⟨q, rfl⟩, ho⟩ := hp v S1 h1
    simp only [Option.toList, List.cons_append, List.nil_append]
    refine g_i2l G dL_hidden_8 (rfl) ?_
    refine g_last G ho.1 (by decide) (by rw [ho.2]; omega) (by omega) dL_hidden_9 ?_
    refine g_goto (tgt := 17) G dL_hidden_10 (by decide) ?_
    refine g_iconst (v := nI 0) G dL_hidden_17 (by decide) ?_
    exact g_iretW G F (Or.inl ⟨q, S1, h1, rfl, rfl⟩) (by omega) (by omega) dL_hidden_18
  · obtain rfl := hq E S1 h1
    refine ⟨13, gHn_1 (by decide) (by decide) cl_L_24 kce_IOE, fun q => ?_⟩
    first | refine g_astore G dL_hidden_13 (gSt_4 (by first | rfl | exact g_c1_rf)) ?_ | refine g_astoreN G dL_hidden_13 (gSt_4 (by first | rfl | exact g_c1_rf)) ?_ | refine g_astoreQ G dL_hidden_13 (gSt_4 (by first | rfl | exact g_c1_rf)) ?_
    refine g_iconst (v := nI 1) G dL_hidden_15 (by decide) ?_
    exact g_iretW G F (Or.inr ⟨_, _, h1, by simp, rfl⟩) (by omega) (by omega) dL_hidden_16
set_option maxHeartbeats 4000000 in
theorem c_L_differs {d0 : Nat × Nat} {S : gS} {x o : Nat} {a1 a2 a3 : Int32} {Post : Option Value → gS → Prop} {PX : String → gS → Prop} {mc ms : Nat} (hx : gK S x = 9) (ct : gCt d0 yX7_differs cX7_differs 10 (some .int) 10 mc ms [.ref x, .int a1, .int a2, .int a3] S Post PX) (hp : ∀ v S1, Post v S1 → (∃ q, v = some (.int q)) ∧ gOut S1 o) (hq : ∀ E S1, PX E S1 → E = "java/lang/IndexOutOfBoundsException") : gCtw d0 yL_differs cL_differs 6 (some .int) [(0, 12, 15, 24)] 11 mc ms [.ref x, .int a1, .int a2, .int a3, .ref o] S (gLw S o Post PX [("java/lang/IndexOutOfBoundsException", nI 1)]) gNo := by
  refine gCtw_of (lo := [some (.ref x), some (.int a1), some (.int a2), some (.int a3), some (.ref o), none]) (by decide +kernel) (Nat.le_of_ble_eq_true rfl) rfl ?_
  intro Γ hd G F
  subst hd
  first | refine g_aload G dL_differs_0 rfl ?_ | refine g_aloadN G dL_differs_0 rfl ?_ | refine g_aloadQ G dL_differs_0 rfl ?_
  refine g_iconst (v := nI 0) G dL_differs_2 (by decide) ?_
  first | refine g_aload_n G dL_differs_3 rfl ?_ | refine g_aload_nN G dL_differs_3 rfl ?_ | refine g_aload_nQ G dL_differs_3 rfl ?_
  refine g_iload_n G dL_differs_4 rfl ?_
  refine g_iload_n G dL_differs_5 rfl ?_
  refine g_iload_n G dL_differs_6 rfl ?_
  refine g_tryV (ci := 8) G F ct mt_X7_differs mi_X7_differs ml_L_62 hx (by decide) rfl (Nat.le_of_ble_eq_true rfl) (by omega) (by omega) rfl (Nat.le_of_ble_eq_true rfl) dL_differs_7 (fun v S1 h1 => ?_) (fun E S1 h1 => ?_)
  · obtain ⟨⟨q, rfl⟩, ho⟩ := hp v S1 h1
    simp only [Option.toList, List.cons_append, List.nil_append]
    refine g_i2l G dL_differs_10 (rfl) ?_
    refine g_last G ho.1 (by decide) (by rw [ho.2]; omega) (by omega) dL_differs_11 ?_
    refine g_goto (tgt := 19) G dL_differs_12 (by decide) ?_
    refine g_iconst (v := nI 0) G dL_differs_19 (by decide) ?_
    exact g_iretW G F (Or.inl ⟨q, S1, h1, rfl, rfl⟩) (by omega) (by omega) dL_differs_20
  · obtain rfl := hq E S1 h1
    refine ⟨15, gHn_1 (by decide) (by decide) cl_L_24 kce_IOE, fun q => ?_⟩
    first | refine g_astore G dL_differs_15 (gSt_5 (by first | rfl | exact g_c1_rf)) ?_ | refine g_astoreN G dL_differs_15 (gSt_5 (by first | rfl | exact g_c1_rf)) ?_ | refine g_astoreQ G dL_differs_15 (gSt_5 (by first | rfl | exact g_c1_rf)) ?_
    refine g_iconst (v := nI 1) G dL_differs_17 (by decide) ?_
    exact g_iretW G F (Or.inr ⟨_, _, h1, by simp, rfl⟩) (by omega) (by omega) dL_differs_18
set_option maxHeartbeats 4000000 in
theorem c_L_find {d0 : Nat × Nat} {S : gS} {x o : Nat} {a1 a2 : Int32} {Post : Option Value → gS → Prop} {PX : String → gS → Prop} {mc ms : Nat} (hx : gK S x = 9) (ct : gCt d0 yX7_find cX7_find 7 (some .int) 10 mc ms [.ref x, .int a1, .int a2] S Post PX) (hp : ∀ v S1, Post v S1 → (∃ q, v = some (.int q)) ∧ gOut S1 o) (hq : ∀ E S1, PX E S1 → E = "java/lang/IndexOutOfBoundsException") : gCtw d0 yL_find cL_find 5 (some .int) [(0, 10, 13, 24)] 11 mc ms [.ref x, .int a1, .int a2, .ref o] S (gLw S o Post PX [("java/lang/IndexOutOfBoundsException", nI 1)]) gNo := by
  refine gCtw_of (lo := [some (.ref x), some (.int a1), some (.int a2), some (.ref o), none]) (by decide +kernel) (Nat.le_of_ble_eq_true rfl) rfl ?_
  intro Γ hd G F
  subst hd
  first | refine g_aload_n G dL_find_0 rfl ?_ | refine g_aload_nN G dL_find_0 rfl ?_ | refine g_aload_nQ G dL_find_0 rfl ?_
  refine g_iconst (v := nI 0) G dL_find_1 (by decide) ?_
  first | refine g_aload_n G dL_find_2 rfl ?_ | refine g_aload_nN G dL_find_2 rfl ?_ | refine g_aload_nQ G dL_find_2 rfl ?_
  refine g_iload_n G dL_find_3 rfl ?_
  refine g_iload_n G dL_find_4 rfl ?_
  refine g_tryV (ci := 8) G F ct mt_X7_find mi_X7_find ml_L_66 hx (by decide) rfl (Nat.le_of_ble_eq_true rfl) (by omega) (by omega) rfl (Nat.le_of_ble_eq_true rfl) dL_find_5 (fun v S1 h1 => ?_) (fun E S1 h1 => ?_)
  · obtain ⟨⟨q, rfl⟩, ho⟩ := hp v S1 h1
    simp only [Option.toList, List.cons_append, List.nil_append]
    refine g_i2l G dL_find_8 (rfl) ?_
    refine g_last G ho.1 (by decide) (by rw [ho.2]; omega) (by omega) dL_find_9 ?_
    refine g_goto (tgt := 17) G dL_find_10 (by decide) ?_
    refine g_iconst (v := nI 0) G dL_find_17 (by decide) ?_
    exact g_iretW G F (Or.inl ⟨q, S1, h1, rfl, rfl⟩) (by omega) (by omega) dL_find_18
  · obtain rfl := hq E S1 h1
    refine ⟨13, gHn_1 (by decide) (by decide) cl_L_24 kce_IOE, fun q => ?_⟩
    first | refine g_astore G dL_find_13 (gSt_4 (by first | rfl | exact g_c1_rf)) ?_ | refine g_astoreN G dL_find_13 (gSt_4 (by first | rfl | exact g_c1_rf)) ?_ | refine g_astoreQ G dL_find_13 (gSt_4 (by first | rfl | exact g_c1_rf)) ?_
    refine g_iconst (v := nI 1) G dL_find_15 (by decide) ?_
    exact g_iretW G F (Or.inr ⟨_, _, h1, by simp, rfl⟩) (by omega) (by omega) dL_find_16
set_option maxHeartbeats 4000000 in
theorem c_L_least {d0 : Nat × Nat} {S : gS} {x o : Nat} {a1 a2 a3 : Int32} {Post : Option Value → gS → Prop} {PX : String → gS → Prop} {mc ms : Nat} (hx : gK S x = 9) (ct : gCt d0 yX7_least cX7_least 6 (some .int) 10 mc ms [.ref x, .int a1, .int a2, .int a3] S Post PX) (hp : ∀ v S1, Post v S1 → (∃ q, v = some (.int q)) ∧ gOut S1 o) (hq : ∀ E S1, PX E S1 → E = "java/lang/IndexOutOfBoundsException" ∨ E = "java/lang/IllegalArgumentException") : gCtw d0 yL_least cL_least 6 (some .int) [(0, 12, 15, 24), (0, 12, 19, 19)] 11 mc ms [.ref x, .int a1, .int a2, .int a3, .ref o] S (gLw S o Post PX [("java/lang/IndexOutOfBoundsException", nI 1), ("java/lang/IllegalArgumentException", nI 2)]) gNo := by
  refine gCtw_of (lo := [some (.ref x), some (.int a1), some (.int a2), some (.int a3), some (.ref o), none]) (by decide +kernel) (Nat.le_of_ble_eq_true rfl) rfl ?_
  intro Γ hd G F
  subst hd
  first | refine g_aload G dL_least_0 rfl ?_ | refine g_aloadN G dL_least_0 rfl ?_ | refine g_aloadQ G dL_least_0 rfl ?_
  refine g_iconst (v := nI 0) G dL_least_2 (by decide) ?_
  first | refine g_aload_n G dL_least_3 rfl ?_ | refine g_aload_nN G dL_least_3 rfl ?_ | refine g_aload_nQ G dL_least_3 rfl ?_
  refine g_iload_n G dL_least_4 rfl ?_
  refine g_iload_n G dL_least_5 rfl ?_
  refine g_iload_n G dL_least_6 rfl ?_
  refine g_tryV (ci := 8) G F ct mt_X7_least mi_X7_least ml_L_69 hx (by decide) rfl (Nat.le_of_ble_eq_true rfl) (by omega) (by omega) rfl (Nat.le_of_ble_eq_true rfl) dL_least_7 (fun v S1 h1 => ?_) (fun E S1 h1 => ?_)
  · obtain ⟨⟨q, rfl⟩, ho⟩ := hp v S1 h1
    simp only [Option.toList, List.cons_append, List.nil_append]
    refine g_i2l G dL_least_10 (rfl) ?_
    refine g_last G ho.1 (by decide) (by rw [ho.2]; omega) (by omega) dL_least_11 ?_
    refine g_goto (tgt := 23) G dL_least_12 (by decide) ?_
    refine g_iconst (v := nI 0) G dL_least_23 (by decide) ?_
    exact g_iretW G F (Or.inl ⟨q, S1, h1, rfl, rfl⟩) (by omega) (by omega) dL_least_24
  · rcases hq E S1 h1 with rfl | rfl
    · refine ⟨15, gHn_1 (by decide) (by decide) cl_L_24 kce_IOE, fun q => ?_⟩
      first | refine g_astore G dL_least_15 (gSt_5 (by first | rfl | exact g_c1_rf)) ?_ | refine g_astoreN G dL_least_15 (gSt_5 (by first | rfl | exact g_c1_rf)) ?_ | refine g_astoreQ G dL_least_15 (gSt_5 (by first | rfl | exact g_c1_rf)) ?_
      refine g_iconst (v := nI 1) G dL_least_17 (by decide) ?_
      exact g_iretW G F (Or.inr ⟨_, _, h1, by simp, rfl⟩) (by omega) (by omega) dL_least_18
    · refine ⟨19, gHn_s (gHn_1 (by decide) (by decide) cl_L_19 kce_IAE) (by decide) cl_L_24 (by decide), fun q => ?_⟩
      first | refine g_astore G dL_least_19 (gSt_5 (by first | rfl | exact g_c1_rf)) ?_ | refine g_astoreN G dL_least_19 (gSt_5 (by first | rfl | exact g_c1_rf)) ?_ | refine g_astoreQ G dL_least_19 (gSt_5 (by first | rfl | exact g_c1_rf)) ?_
      refine g_iconst (v := nI 2) G dL_least_21 (by decide) ?_
      exact g_iretW G F (Or.inr ⟨_, _, h1, by simp, rfl⟩) (by omega) (by omega) dL_least_22
set_option maxHeartbeats 4000000 in
theorem c_L_lend {d0 : Nat × Nat} {S : gS} {x o : Nat} {a1 a2 a3 : Int32} {Post : Option Value → gS → Prop} {PX : String → gS → Prop} {mc ms : Nat} (hx : gK S x = 9) (ct : gCt d0 yX7_lend cX7_lend 6 (some .int) 10 mc ms [.ref x, .int a1, .int a2, .int a3] S Post PX) (hp : ∀ v S1, Post v S1 → (∃ q, v = some (.int q)) ∧ gOut S1 o) (hq : ∀ E S1, PX E S1 → E = "java/lang/IndexOutOfBoundsException" ∨ E = "java/lang/IllegalArgumentException" ∨ E = "java/lang/IllegalStateException") : gCtw d0 yL_lend cL_lend 6 (some .int) [(0, 12, 15, 24), (0, 12, 19, 19), (0, 12, 23, 13)] 11 mc ms [.ref x, .int a1, .int a2, .int a3, .ref o] S (gLw S o Post PX [("java/lang/IndexOutOfBoundsException", nI 1), ("java/lang/IllegalArgumentException", nI 2), ("java/lang/IllegalStateException", nI 3)]) gNo := by
  refine gCtw_of (lo := [some (.ref x), some (.int a1), some (.int a2), some (.int a3), some (.ref o), none]) (by decide +kernel) (Nat.le_of_ble_eq_true rfl) rfl ?_
  intro Γ hd G F
  subst hd
  first | refine g_aload G dL_lend_0 rfl ?_ | refine g_aloadN G dL_lend_0 rfl ?_ | refine g_aloadQ G dL_lend_0 rfl ?_
  refine g_iconst (v := nI 0) G dL_lend_2 (by decide) ?_
  first | refine g_aload_n G dL_lend_3 rfl ?_ | refine g_aload_nN G dL_lend_3 rfl ?_ | refine g_aload_nQ G dL_lend_3 rfl ?_
  refine g_iload_n G dL_lend_4 rfl ?_
  refine g_iload_n G dL_lend_5 rfl ?_
  refine g_iload_n G dL_lend_6 rfl ?_
  refine g_tryV (ci := 8) G F ct mt_X7_lend mi_X7_lend ml_L_72 hx (by decide) rfl (Nat.le_of_ble_eq_true rfl) (by omega) (by omega) rfl (Nat.le_of_ble_eq_true rfl) dL_lend_7 (fun v S1 h1 => ?_) (fun E S1 h1 => ?_)
  · obtain ⟨⟨q, rfl⟩, ho⟩ := hp v S1 h1
    simp only [Option.toList, List.cons_append, List.nil_append]
    refine g_i2l G dL_lend_10 (rfl) ?_
    refine g_last G ho.1 (by decide) (by rw [ho.2]; omega) (by omega) dL_lend_11 ?_
    refine g_goto (tgt := 27) G dL_lend_12 (by decide) ?_
    refine g_iconst (v := nI 0) G dL_lend_27 (by decide) ?_
    exact g_iretW G F (Or.inl ⟨q, S1, h1, rfl, rfl⟩) (by omega) (by omega) dL_lend_28
  · rcases hq E S1 h1 with rfl | rfl | rfl
    · refine ⟨15, gHn_1 (by decide) (by decide) cl_L_24 kce_IOE, fun q => ?_⟩
      first | refine g_astore G dL_lend_15 (gSt_5 (by first | rfl | exact g_c1_rf)) ?_ | refine g_astoreN G dL_lend_15 (gSt_5 (by first | rfl | exact g_c1_rf)) ?_ | refine g_astoreQ G dL_lend_15 (gSt_5 (by first | rfl | exact g_c1_rf)) ?_
      refine g_iconst (v := nI 1) G dL_lend_17 (by decide) ?_
      exact g_iretW G F (Or.inr ⟨_, _, h1, by simp, rfl⟩) (by omega) (by omega) dL_lend_18
    · refine ⟨19, gHn_s (gHn_1 (by decide) (by decide) cl_L_19 kce_IAE) (by decide) cl_L_24 (by decide), fun q => ?_⟩
      first | refine g_astore G dL_lend_19 (gSt_5 (by first | rfl | exact g_c1_rf)) ?_ | refine g_astoreN G dL_lend_19 (gSt_5 (by first | rfl | exact g_c1_rf)) ?_ | refine g_astoreQ G dL_lend_19 (gSt_5 (by first | rfl | exact g_c1_rf)) ?_
      refine g_iconst (v := nI 2) G dL_lend_21 (by decide) ?_
      exact g_iretW G F (Or.inr ⟨_, _, h1, by simp, rfl⟩) (by omega) (by omega) dL_lend_22
    · refine ⟨23, gHn_s (gHn_s (gHn_1 (by decide) (by decide) cl_L_13 kce_ISE) (by decide) cl_L_19 (by decide)) (by decide) cl_L_24 (by decide), fun q => ?_⟩
      first | refine g_astore G dL_lend_23 (gSt_5 (by first | rfl | exact g_c1_rf)) ?_ | refine g_astoreN G dL_lend_23 (gSt_5 (by first | rfl | exact g_c1_rf)) ?_ | refine g_astoreQ G dL_lend_23 (gSt_5 (by first | rfl | exact g_c1_rf)) ?_
      refine g_iconst (v := nI 3) G dL_lend_25 (by decide) ?_
      exact g_iretW G F (Or.inr ⟨_, _, h1, by simp, rfl⟩) (by omega) (by omega) dL_lend_26
set_option maxHeartbeats 4000000 in
theorem c_L_back {d0 : Nat × Nat} {S : gS} {x o : Nat} {a1 : Int32} {Post : Option Value → gS → Prop} {PX : String → gS → Prop} {mc ms : Nat} (hx : gK S x = 9) (ct : gCt d0 yX7_back cX7_back 4 (some .int) 10 mc ms [.ref x, .int a1] S Post PX) (hp : ∀ v S1, Post v S1 → (∃ q, v = some (.int q)) ∧ gOut S1 o) (hq : ∀ E S1, PX E S1 → E = "java/lang/IndexOutOfBoundsException") : gCtw d0 yL_back cL_back 4 (some .int) [(0, 9, 12, 24)] 11 mc ms [.ref x, .int a1, .ref o] S (gLw S o Post PX [("java/lang/IndexOutOfBoundsException", nI 1)]) gNo := by
  refine gCtw_of (lo := [some (.ref x), some (.int a1), some (.ref o), none]) (by decide +kernel) (Nat.le_of_ble_eq_true rfl) rfl ?_
  intro Γ hd G F
  subst hd
  first | refine g_aload_n G dL_back_0 rfl ?_ | refine g_aload_nN G dL_back_0 rfl ?_ | refine g_aload_nQ G dL_back_0 rfl ?_
  refine g_iconst (v := nI 0) G dL_back_1 (by decide) ?_
  first | refine g_aload_n G dL_back_2 rfl ?_ | refine g_aload_nN G dL_back_2 rfl ?_ | refine g_aload_nQ G dL_back_2 rfl ?_
  refine g_iload_n G dL_back_3 rfl ?_
  refine g_tryV (ci := 8) G F ct mt_X7_back mi_X7_back ml_L_75 hx (by decide) rfl (Nat.le_of_ble_eq_true rfl) (by omega) (by omega) rfl (Nat.le_of_ble_eq_true rfl) dL_back_4 (fun v S1 h1 => ?_) (fun E S1 h1 => ?_)
  · obtain ⟨⟨q, rfl⟩, ho⟩ := hp v S1 h1
    simp only [Option.toList, List.cons_append, List.nil_append]
    refine g_i2l G dL_back_7 (rfl) ?_
    refine g_last G ho.1 (by decide) (by rw [ho.2]; omega) (by omega) dL_back_8 ?_
    refine g_goto (tgt := 15) G dL_back_9 (by decide) ?_
    refine g_iconst (v := nI 0) G dL_back_15 (by decide) ?_
    exact g_iretW G F (Or.inl ⟨q, S1, h1, rfl, rfl⟩) (by omega) (by omega) dL_back_16
  · obtain rfl := hq E S1 h1
    refine ⟨12, gHn_1 (by decide) (by decide) cl_L_24 kce_IOE, fun q => ?_⟩
    first | refine g_astore_n G dL_back_12 (gSt_3 (by first | rfl | exact g_c1_rf)) ?_ | refine g_astore_nN G dL_back_12 (gSt_3 (by first | rfl | exact g_c1_rf)) ?_ | refine g_astore_nQ G dL_back_12 (gSt_3 (by first | rfl | exact g_c1_rf)) ?_
    refine g_iconst (v := nI 1) G dL_back_13 (by decide) ?_
    exact g_iretW G F (Or.inr ⟨_, _, h1, by simp, rfl⟩) (by omega) (by omega) dL_back_14
set_option maxHeartbeats 4000000 in
theorem c_L_takeIn {d0 : Nat × Nat} {S : gS} {x o : Nat} {a1 : Int32} {Post : Option Value → gS → Prop} {PX : String → gS → Prop} {mc ms : Nat} (hx : gK S x = 9) (ct : gCt d0 yX7_takeIn cX7_takeIn 3 (some .int) 10 mc ms [.ref x, .int a1] S Post PX) (hp : ∀ v S1, Post v S1 → (∃ q, v = some (.int q)) ∧ gOut S1 o) (hq : ∀ E S1, PX E S1 → E = "java/lang/IndexOutOfBoundsException" ∨ E = "java/lang/IllegalStateException") : gCtw d0 yL_takeIn cL_takeIn 4 (some .int) [(0, 9, 12, 24), (0, 9, 15, 13)] 11 mc ms [.ref x, .int a1, .ref o] S (gLw S o Post PX [("java/lang/IndexOutOfBoundsException", nI 1), ("java/lang/IllegalStateException", nI 2)]) gNo := by
  refine gCtw_of (lo := [some (.ref x), some (.int a1), some (.ref o), none]) (by decide +kernel) (Nat.le_of_ble_eq_true rfl) rfl ?_
  intro Γ hd G F
  subst hd
  first | refine g_aload_n G dL_takeIn_0 rfl ?_ | refine g_aload_nN G dL_takeIn_0 rfl ?_ | refine g_aload_nQ G dL_takeIn_0 rfl ?_
  refine g_iconst (v := nI 0) G dL_takeIn_1 (by decide) ?_
  first | refine g_aload_n G dL_takeIn_2 rfl ?_ | refine g_aload_nN G dL_takeIn_2 rfl ?_ | refine g_aload_nQ G dL_takeIn_2 rfl ?_
  refine g_iload_n G dL_takeIn_3 rfl ?_
  refine g_tryV (ci := 8) G F ct mt_X7_takeIn mi_X7_takeIn ml_L_78 hx (by decide) rfl (Nat.le_of_ble_eq_true rfl) (by omega) (by omega) rfl (Nat.le_of_ble_eq_true rfl) dL_takeIn_4 (fun v S1 h1 => ?_) (fun E S1 h1 => ?_)
  · obtain ⟨⟨q, rfl⟩, ho⟩ := hp v S1 h1
    simp only [Option.toList, List.cons_append, List.nil_append]
    refine g_i2l G dL_takeIn_7 (rfl) ?_
    refine g_last G ho.1 (by decide) (by rw [ho.2]; omega) (by omega) dL_takeIn_8 ?_
    refine g_goto (tgt := 18) G dL_takeIn_9 (by decide) ?_
    refine g_iconst (v := nI 0) G dL_takeIn_18 (by decide) ?_
    exact g_iretW G F (Or.inl ⟨q, S1, h1, rfl, rfl⟩) (by omega) (by omega) dL_takeIn_19
  · rcases hq E S1 h1 with rfl | rfl
    · refine ⟨12, gHn_1 (by decide) (by decide) cl_L_24 kce_IOE, fun q => ?_⟩
      first | refine g_astore_n G dL_takeIn_12 (gSt_3 (by first | rfl | exact g_c1_rf)) ?_ | refine g_astore_nN G dL_takeIn_12 (gSt_3 (by first | rfl | exact g_c1_rf)) ?_ | refine g_astore_nQ G dL_takeIn_12 (gSt_3 (by first | rfl | exact g_c1_rf)) ?_
      refine g_iconst (v := nI 1) G dL_takeIn_13 (by decide) ?_
      exact g_iretW G F (Or.inr ⟨_, _, h1, by simp, rfl⟩) (by omega) (by omega) dL_takeIn_14
    · refine ⟨15, gHn_s (gHn_1 (by decide) (by decide) cl_L_13 kce_ISE) (by decide) cl_L_24 (by decide), fun q => ?_⟩
      first | refine g_astore_n G dL_takeIn_15 (gSt_3 (by first | rfl | exact g_c1_rf)) ?_ | refine g_astore_nN G dL_takeIn_15 (gSt_3 (by first | rfl | exact g_c1_rf)) ?_ | refine g_astore_nQ G dL_takeIn_15 (gSt_3 (by first | rfl | exact g_c1_rf)) ?_
      refine g_iconst (v := nI 2) G dL_takeIn_16 (by decide) ?_
      exact g_iretW G F (Or.inr ⟨_, _, h1, by simp, rfl⟩) (by omega) (by omega) dL_takeIn_17
set_option maxHeartbeats 4000000 in
theorem c_L_hand {d0 : Nat × Nat} {S : gS} {x o : Nat} {a1 a2 : Int32} {Post : Option Value → gS → Prop} {PX : String → gS → Prop} {mc ms : Nat} (hx : gK S x = 9) (ct : gCt d0 yX7_hand cX7_hand 5 (some .int) 10 mc ms [.ref x, .int a1, .int a2] S Post PX) (hp : ∀ v S1, Post v S1 → (∃ q, v = some (.int q)) ∧ gOut S1 o) (hq : ∀ E S1, PX E S1 → E = "java/lang/IndexOutOfBoundsException" ∨ E = "java/lang/IllegalStateException") : gCtw d0 yL_hand cL_hand 5 (some .int) [(0, 10, 13, 24), (0, 10, 17, 13)] 11 mc ms [.ref x, .int a1, .int a2, .ref o] S (gLw S o Post PX [("java/lang/IndexOutOfBoundsException", nI 1), ("java/lang/IllegalStateException", nI 2)]) gNo := by
  refine gCtw_of (lo := [some (.ref x), some (.int a1), some (.int a2), some (.ref o), none]) (by decide +kernel) (Nat.le_of_ble_eq_true rfl) rfl ?_
  intro Γ hd G F
  subst hd
  first | refine g_aload_n G dL_hand_0 rfl ?_ | refine g_aload_nN G dL_hand_0 rfl ?_ | refine g_aload_nQ G dL_hand_0 rfl ?_
  refine g_iconst (v := nI 0) G dL_hand_1 (by decide) ?_
  first | refine g_aload_n G dL_hand_2 rfl ?_ | refine g_aload_nN G dL_hand_2 rfl ?_ | refine g_aload_nQ G dL_hand_2 rfl ?_
  refine g_iload_n G dL_hand_3 rfl ?_
  refine g_iload_n G dL_hand_4 rfl ?_
  refine g_tryV (ci := 8) G F ct mt_X7_hand mi_X7_hand ml_L_81 hx (by decide) rfl (Nat.le_of_ble_eq_true rfl) (by omega) (by omega) rfl (Nat.le_of_ble_eq_true rfl) dL_hand_5 (fun v S1 h1 => ?_) (fun E S1 h1 => ?_)
  · obtain ⟨⟨q, rfl⟩, ho⟩ := hp v S1 h1
    simp only [Option.toList, List.cons_append, List.nil_append]
    refine g_i2l G dL_hand_8 (rfl) ?_
    refine g_last G ho.1 (by decide) (by rw [ho.2]; omega) (by omega) dL_hand_9 ?_
    refine g_goto (tgt := 21) G dL_hand_10 (by decide) ?_
    refine g_iconst (v := nI 0) G dL_hand_21 (by decide) ?_
    exact g_iretW G F (Or.inl ⟨q, S1, h1, rfl, rfl⟩) (by omega) (by omega) dL_hand_22
  · rcases hq E S1 h1 with rfl | rfl
    · refine ⟨13, gHn_1 (by decide) (by decide) cl_L_24 kce_IOE, fun q => ?_⟩
      first | refine g_astore G dL_hand_13 (gSt_4 (by first | rfl | exact g_c1_rf)) ?_ | refine g_astoreN G dL_hand_13 (gSt_4 (by first | rfl | exact g_c1_rf)) ?_ | refine g_astoreQ G dL_hand_13 (gSt_4 (by first | rfl | exact g_c1_rf)) ?_
      refine g_iconst (v := nI 1) G dL_hand_15 (by decide) ?_
      exact g_iretW G F (Or.inr ⟨_, _, h1, by simp, rfl⟩) (by omega) (by omega) dL_hand_16
    · refine ⟨17, gHn_s (gHn_1 (by decide) (by decide) cl_L_13 kce_ISE) (by decide) cl_L_24 (by decide), fun q => ?_⟩
      first | refine g_astore G dL_hand_17 (gSt_4 (by first | rfl | exact g_c1_rf)) ?_ | refine g_astoreN G dL_hand_17 (gSt_4 (by first | rfl | exact g_c1_rf)) ?_ | refine g_astoreQ G dL_hand_17 (gSt_4 (by first | rfl | exact g_c1_rf)) ?_
      refine g_iconst (v := nI 2) G dL_hand_19 (by decide) ?_
      exact g_iretW G F (Or.inr ⟨_, _, h1, by simp, rfl⟩) (by omega) (by omega) dL_hand_20
set_option maxHeartbeats 4000000 in
theorem c_L_unseal {d0 : Nat × Nat} {S : gS} {x o : Nat} {a1 : Int32} {Post : Option Value → gS → Prop} {PX : String → gS → Prop} {mc ms : Nat} (hx : gK S x = 9) (ct : gCt d0 yX7_unseal cX7_unseal 3 (some .int) 10 mc ms [.ref x, .int a1] S Post PX) (hp : ∀ v S1, Post v S1 → (∃ q, v = some (.int q)) ∧ gOut S1 o) (hq : ∀ E S1, PX E S1 → E = "java/lang/IndexOutOfBoundsException" ∨ E = "java/lang/IllegalStateException") : gCtw d0 yL_unseal cL_unseal 4 (some .int) [(0, 9, 12, 24), (0, 9, 15, 13)] 11 mc ms [.ref x, .int a1, .ref o] S (gLw S o Post PX [("java/lang/IndexOutOfBoundsException", nI 1), ("java/lang/IllegalStateException", nI 2)]) gNo := by
  refine gCtw_of (lo := [some (.ref x), some (.int a1), some (.ref o), none]) (by decide +kernel) (Nat.le_of_ble_eq_true rfl) rfl ?_
  intro Γ hd G F
  subst hd
  first | refine g_aload_n G dL_unseal_0 rfl ?_ | refine g_aload_nN G dL_unseal_0 rfl ?_ | refine g_aload_nQ G dL_unseal_0 rfl ?_
  refine g_iconst (v := nI 0) G dL_unseal_1 (by decide) ?_
  first | refine g_aload_n G dL_unseal_2 rfl ?_ | refine g_aload_nN G dL_unseal_2 rfl ?_ | refine g_aload_nQ G dL_unseal_2 rfl ?_
  refine g_iload_n G dL_unseal_3 rfl ?_
  refine g_tryV (ci := 8) G F ct mt_X7_unseal mi_X7_unseal ml_L_84 hx (by decide) rfl (Nat.le_of_ble_eq_true rfl) (by omega) (by omega) rfl (Nat.le_of_ble_eq_true rfl) dL_unseal_4 (fun v S1 h1 => ?_) (fun E S1 h1 => ?_)
  · obtain ⟨⟨q, rfl⟩, ho⟩ := hp v S1 h1
    simp only [Option.toList, List.cons_append, List.nil_append]
    refine g_i2l G dL_unseal_7 (rfl) ?_
    refine g_last G ho.1 (by decide) (by rw [ho.2]; omega) (by omega) dL_unseal_8 ?_
    refine g_goto (tgt := 18) G dL_unseal_9 (by decide) ?_
    refine g_iconst (v := nI 0) G dL_unseal_18 (by decide) ?_
    exact g_iretW G F (Or.inl ⟨q, S1, h1, rfl, rfl⟩) (by omega) (by omega) dL_unseal_19
  · rcases hq E S1 h1 with rfl | rfl
    · refine ⟨12, gHn_1 (by decide) (by decide) cl_L_24 kce_IOE, fun q => ?_⟩
      first | refine g_astore_n G dL_unseal_12 (gSt_3 (by first | rfl | exact g_c1_rf)) ?_ | refine g_astore_nN G dL_unseal_12 (gSt_3 (by first | rfl | exact g_c1_rf)) ?_ | refine g_astore_nQ G dL_unseal_12 (gSt_3 (by first | rfl | exact g_c1_rf)) ?_
      refine g_iconst (v := nI 1) G dL_unseal_13 (by decide) ?_
      exact g_iretW G F (Or.inr ⟨_, _, h1, by simp, rfl⟩) (by omega) (by omega) dL_unseal_14
    · refine ⟨15, gHn_s (gHn_1 (by decide) (by decide) cl_L_13 kce_ISE) (by decide) cl_L_24 (by decide), fun q => ?_⟩
      first | refine g_astore_n G dL_unseal_15 (gSt_3 (by first | rfl | exact g_c1_rf)) ?_ | refine g_astore_nN G dL_unseal_15 (gSt_3 (by first | rfl | exact g_c1_rf)) ?_ | refine g_astore_nQ G dL_unseal_15 (gSt_3 (by first | rfl | exact g_c1_rf)) ?_
      refine g_iconst (v := nI 2) G dL_unseal_16 (by decide) ?_
      exact g_iretW G F (Or.inr ⟨_, _, h1, by simp, rfl⟩) (by omega) (by omega) dL_unseal_17
set_option maxHeartbeats 4000000 in
theorem c_L_lose {d0 : Nat × Nat} {S : gS} {x o : Nat} {a1 : Int32} {Post : Option Value → gS → Prop} {PX : String → gS → Prop} {mc ms : Nat} (hx : gK S x = 9) (ct : gCt d0 yX7_lose cX7_lose 4 (some .int) 10 mc ms [.ref x, .int a1] S Post PX) (hp : ∀ v S1, Post v S1 → (∃ q, v = some (.int q)) ∧ gOut S1 o) (hq : ∀ E S1, PX E S1 → E = "java/lang/IndexOutOfBoundsException" ∨ E = "java/lang/IllegalStateException") : gCtw d0 yL_lose cL_lose 4 (some .int) [(0, 9, 12, 24), (0, 9, 15, 13)] 11 mc ms [.ref x, .int a1, .ref o] S (gLw S o Post PX [("java/lang/IndexOutOfBoundsException", nI 1), ("java/lang/IllegalStateException", nI 2)]) gNo := by
  refine gCtw_of (lo := [some (.ref x), some (.int a1), some (.ref o), none]) (by decide +kernel) (Nat.le_of_ble_eq_true rfl) rfl ?_
  intro Γ hd G F
  subst hd
  first | refine g_aload_n G dL_lose_0 rfl ?_ | refine g_aload_nN G dL_lose_0 rfl ?_ | refine g_aload_nQ G dL_lose_0 rfl ?_
  refine g_iconst (v := nI 0) G dL_lose_1 (by decide) ?_
  first | refine g_aload_n G dL_lose_2 rfl ?_ | refine g_aload_nN G dL_lose_2 rfl ?_ | refine g_aload_nQ G dL_lose_2 rfl ?_
  refine g_iload_n G dL_lose_3 rfl ?_
  refine g_tryV (ci := 8) G F ct mt_X7_lose mi_X7_lose ml_L_87 hx (by decide) rfl (Nat.le_of_ble_eq_true rfl) (by omega) (by omega) rfl (Nat.le_of_ble_eq_true rfl) dL_lose_4 (fun v S1 h1 => ?_) (fun E S1 h1 => ?_)
  · obtain ⟨⟨q, rfl⟩, ho⟩ := hp v S1 h1
    simp only [Option.toList, List.cons_append, List.nil_append]
    refine g_i2l G dL_lose_7 (rfl) ?_
    refine g_last G ho.1 (by decide) (by rw [ho.2]; omega) (by omega) dL_lose_8 ?_
    refine g_goto (tgt := 18) G dL_lose_9 (by decide) ?_
    refine g_iconst (v := nI 0) G dL_lose_18 (by decide) ?_
    exact g_iretW G F (Or.inl ⟨q, S1, h1, rfl, rfl⟩) (by omega) (by omega) dL_lose_19
  · rcases hq E S1 h1 with rfl | rfl
    · refine ⟨12, gHn_1 (by decide) (by decide) cl_L_24 kce_IOE, fun q => ?_⟩
      first | refine g_astore_n G dL_lose_12 (gSt_3 (by first | rfl | exact g_c1_rf)) ?_ | refine g_astore_nN G dL_lose_12 (gSt_3 (by first | rfl | exact g_c1_rf)) ?_ | refine g_astore_nQ G dL_lose_12 (gSt_3 (by first | rfl | exact g_c1_rf)) ?_
      refine g_iconst (v := nI 1) G dL_lose_13 (by decide) ?_
      exact g_iretW G F (Or.inr ⟨_, _, h1, by simp, rfl⟩) (by omega) (by omega) dL_lose_14
    · refine ⟨15, gHn_s (gHn_1 (by decide) (by decide) cl_L_13 kce_ISE) (by decide) cl_L_24 (by decide), fun q => ?_⟩
      first | refine g_astore_n G dL_lose_15 (gSt_3 (by first | rfl | exact g_c1_rf)) ?_ | refine g_astore_nN G dL_lose_15 (gSt_3 (by first | rfl | exact g_c1_rf)) ?_ | refine g_astore_nQ G dL_lose_15 (gSt_3 (by first | rfl | exact g_c1_rf)) ?_
      refine g_iconst (v := nI 2) G dL_lose_16 (by decide) ?_
      exact g_iretW G F (Or.inr ⟨_, _, h1, by simp, rfl⟩) (by omega) (by omega) dL_lose_17
set_option maxHeartbeats 4000000 in
theorem c_L_found {d0 : Nat × Nat} {S : gS} {x o : Nat} {a1 a2 : Int32} {Post : Option Value → gS → Prop} {PX : String → gS → Prop} {mc ms : Nat} (hx : gK S x = 9) (ct : gCt d0 yX7_found cX7_found 5 (some .int) 10 mc ms [.ref x, .int a1, .int a2] S Post PX) (hp : ∀ v S1, Post v S1 → (∃ q, v = some (.int q)) ∧ gOut S1 o) (hq : ∀ E S1, PX E S1 → E = "java/lang/IndexOutOfBoundsException" ∨ E = "java/lang/IllegalStateException") : gCtw d0 yL_found cL_found 5 (some .int) [(0, 10, 13, 24), (0, 10, 17, 13)] 11 mc ms [.ref x, .int a1, .int a2, .ref o] S (gLw S o Post PX [("java/lang/IndexOutOfBoundsException", nI 1), ("java/lang/IllegalStateException", nI 2)]) gNo := by
  refine gCtw_of (lo := [some (.ref x), some (.int a1), some (.int a2), some (.ref o), none]) (by decide +kernel) (Nat.le_of_ble_eq_true rfl) rfl ?_
  intro Γ hd G F
  subst hd
  first | refine g_aload_n G dL_found_0 rfl ?_ | refine g_aload_nN G dL_found_0 rfl ?_ | refine g_aload_nQ G dL_found_0 rfl ?_
  refine g_iconst (v := nI 0) G dL_found_1 (by decide) ?_
  first | refine g_aload_n G dL_found_2 rfl ?_ | refine g_aload_nN G dL_found_2 rfl ?_ | refine g_aload_nQ G dL_found_2 rfl ?_
  refine g_iload_n G dL_found_3 rfl ?_
  refine g_iload_n G dL_found_4 rfl ?_
  refine g_tryV (ci := 8) G F ct mt_X7_found mi_X7_found ml_L_90 hx (by decide) rfl (Nat.le_of_ble_eq_true rfl) (by omega) (by omega) rfl (Nat.le_of_ble_eq_true rfl) dL_found_5 (fun v S1 h1 => ?_) (fun E S1 h1 => ?_)
  · obtain ⟨⟨q, rfl⟩, ho⟩ := hp v S1 h1
    simp only [Option.toList, List.cons_append, List.nil_append]
    refine g_i2l G dL_found_8 (rfl) ?_
    refine g_last G ho.1 (by decide) (by rw [ho.2]; omega) (by omega) dL_found_9 ?_
    refine g_goto (tgt := 21) G dL_found_10 (by decide) ?_
    refine g_iconst (v := nI 0) G dL_found_21 (by decide) ?_
    exact g_iretW G F (Or.inl ⟨q, S1, h1, rfl, rfl⟩) (by omega) (by omega) dL_found_22
  · rcases hq E S1 h1 with rfl | rfl
    · refine ⟨13, gHn_1 (by decide) (by decide) cl_L_24 kce_IOE, fun q => ?_⟩
      first | refine g_astore G dL_found_13 (gSt_4 (by first | rfl | exact g_c1_rf)) ?_ | refine g_astoreN G dL_found_13 (gSt_4 (by first | rfl | exact g_c1_rf)) ?_ | refine g_astoreQ G dL_found_13 (gSt_4 (by first | rfl | exact g_c1_rf)) ?_
      refine g_iconst (v := nI 1) G dL_found_15 (by decide) ?_
      exact g_iretW G F (Or.inr ⟨_, _, h1, by simp, rfl⟩) (by omega) (by omega) dL_found_16
    · refine ⟨17, gHn_s (gHn_1 (by decide) (by decide) cl_L_13 kce_ISE) (by decide) cl_L_24 (by decide), fun q => ?_⟩
      first | refine g_astore G dL_found_17 (gSt_4 (by first | rfl | exact g_c1_rf)) ?_ | refine g_astoreN G dL_found_17 (gSt_4 (by first | rfl | exact g_c1_rf)) ?_ | refine g_astoreQ G dL_found_17 (gSt_4 (by first | rfl | exact g_c1_rf)) ?_
      refine g_iconst (v := nI 2) G dL_found_19 (by decide) ?_
      exact g_iretW G F (Or.inr ⟨_, _, h1, by simp, rfl⟩) (by omega) (by omega) dL_found_20
set_option maxHeartbeats 4000000 in
theorem c_L_exhibit {d0 : Nat × Nat} {S : gS} {x o : Nat} {a1 a2 : Int32} {Post : Option Value → gS → Prop} {PX : String → gS → Prop} {mc ms : Nat} (hx : gK S x = 9) (ct : gCt d0 yX7_exhibit cX7_exhibit 4 (some .int) 10 mc ms [.ref x, .int a1, .int a2] S Post PX) (hp : ∀ v S1, Post v S1 → (∃ q, v = some (.int q)) ∧ gOut S1 o) (hq : ∀ E S1, PX E S1 → E = "java/lang/IndexOutOfBoundsException") : gCtw d0 yL_exhibit cL_exhibit 5 (some .int) [(0, 10, 13, 24)] 11 mc ms [.ref x, .int a1, .int a2, .ref o] S (gLw S o Post PX [("java/lang/IndexOutOfBoundsException", nI 1)]) gNo := by
  refine gCtw_of (lo := [some (.ref x), some (.int a1), some (.int a2), some (.ref o), none]) (by decide +kernel) (Nat.le_of_ble_eq_true rfl) rfl ?_
  intro Γ hd G F
  subst hd
  first | refine g_aload_n G dL_exhibit_0 rfl ?_ | refine g_aload_nN G dL_exhibit_0 rfl ?_ | refine g_aload_nQ G dL_exhibit_0 rfl ?_
  refine g_iconst (v := nI 0) G dL_exhibit_1 (by decide) ?_
  first | refine g_aload_n G dL_exhibit_2 rfl ?_ | refine g_aload_nN G dL_exhibit_2 rfl ?_ | refine g_aload_nQ G dL_exhibit_2 rfl ?_
  refine g_iload_n G dL_exhibit_3 rfl ?_
  refine g_iload_n G dL_exhibit_4 rfl ?_
  refine g_tryV (ci := 8) G F ct mt_X7_exhibit mi_X7_exhibit ml_L_93 hx (by decide) rfl (Nat.le_of_ble_eq_true rfl) (by omega) (by omega) rfl (Nat.le_of_ble_eq_true rfl) dL_exhibit_5 (fun v S1 h1 => ?_) (fun E S1 h1 => ?_)
  · obtain ⟨⟨q, rfl⟩, ho⟩ := hp v S1 h1
    simp only [Option.toList, List.cons_append, List.nil_append]
    refine g_i2l G dL_exhibit_8 (rfl) ?_
    refine g_last G ho.1 (by decide) (by rw [ho.2]; omega) (by omega) dL_exhibit_9 ?_
    refine g_goto (tgt := 17) G dL_exhibit_10 (by decide) ?_
    refine g_iconst (v := nI 0) G dL_exhibit_17 (by decide) ?_
    exact g_iretW G F (Or.inl ⟨q, S1, h1, rfl, rfl⟩) (by omega) (by omega) dL_exhibit_18
  · obtain rfl := hq E S1 h1
    refine ⟨13, gHn_1 (by decide) (by decide) cl_L_24 kce_IOE, fun q => ?_⟩
    first | refine g_astore G dL_exhibit_13 (gSt_4 (by first | rfl | exact g_c1_rf)) ?_ | refine g_astoreN G dL_exhibit_13 (gSt_4 (by first | rfl | exact g_c1_rf)) ?_ | refine g_astoreQ G dL_exhibit_13 (gSt_4 (by first | rfl | exact g_c1_rf)) ?_
    refine g_iconst (v := nI 1) G dL_exhibit_15 (by decide) ?_
    exact g_iretW G F (Or.inr ⟨_, _, h1, by simp, rfl⟩) (by omega) (by omega) dL_exhibit_16
set_option maxHeartbeats 4000000 in
theorem c_L_link {d0 : Nat × Nat} {S : gS} {x o : Nat} {a1 a2 a3 : Int32} {Post : Option Value → gS → Prop} {PX : String → gS → Prop} {mc ms : Nat} (hx : gK S x = 9) (ct : gCt d0 yX7_link cX7_link 5 (some .int) 10 mc ms [.ref x, .int a1, .int a2, .int a3] S Post PX) (hp : ∀ v S1, Post v S1 → (∃ q, v = some (.int q)) ∧ gOut S1 o) (hq : ∀ E S1, PX E S1 → E = "java/lang/IndexOutOfBoundsException") : gCtw d0 yL_link cL_link 6 (some .int) [(0, 12, 15, 24)] 11 mc ms [.ref x, .int a1, .int a2, .int a3, .ref o] S (gLw S o Post PX [("java/lang/IndexOutOfBoundsException", nI 1)]) gNo := by
  refine gCtw_of (lo := [some (.ref x), some (.int a1), some (.int a2), some (.int a3), some (.ref o), none]) (by decide +kernel) (Nat.le_of_ble_eq_true rfl) rfl ?_
  intro Γ hd G F
  subst hd
  first | refine g_aload G dL_link_0 rfl ?_ | refine g_aloadN G dL_link_0 rfl ?_ | refine g_aloadQ G dL_link_0 rfl ?_
  refine g_iconst (v := nI 0) G dL_link_2 (by decide) ?_
  first | refine g_aload_n G dL_link_3 rfl ?_ | refine g_aload_nN G dL_link_3 rfl ?_ | refine g_aload_nQ G dL_link_3 rfl ?_
  refine g_iload_n G dL_link_4 rfl ?_
  refine g_iload_n G dL_link_5 rfl ?_
  refine g_iload_n G dL_link_6 rfl ?_
  refine g_tryV (ci := 8) G F ct mt_X7_link mi_X7_link ml_L_96 hx (by decide) rfl (Nat.le_of_ble_eq_true rfl) (by omega) (by omega) rfl (Nat.le_of_ble_eq_true rfl) dL_link_7 (fun v S1 h1 => ?_) (fun E S1 h1 => ?_)
  · obtain ⟨⟨q, rfl⟩, ho⟩ := hp v S1 h1
    simp only [Option.toList, List.cons_append, List.nil_append]
    refine g_i2l G dL_link_10 (rfl) ?_
    refine g_last G ho.1 (by decide) (by rw [ho.2]; omega) (by omega) dL_link_11 ?_
    refine g_goto (tgt := 19) G dL_link_12 (by decide) ?_
    refine g_iconst (v := nI 0) G dL_link_19 (by decide) ?_
    exact g_iretW G F (Or.inl ⟨q, S1, h1, rfl, rfl⟩) (by omega) (by omega) dL_link_20
  · obtain rfl := hq E S1 h1
    refine ⟨15, gHn_1 (by decide) (by decide) cl_L_24 kce_IOE, fun q => ?_⟩
    first | refine g_astore G dL_link_15 (gSt_5 (by first | rfl | exact g_c1_rf)) ?_ | refine g_astoreN G dL_link_15 (gSt_5 (by first | rfl | exact g_c1_rf)) ?_ | refine g_astoreQ G dL_link_15 (gSt_5 (by first | rfl | exact g_c1_rf)) ?_
    refine g_iconst (v := nI 1) G dL_link_17 (by decide) ?_
    exact g_iretW G F (Or.inr ⟨_, _, h1, by simp, rfl⟩) (by omega) (by omega) dL_link_18
set_option maxHeartbeats 4000000 in
theorem c_L_send {d0 : Nat × Nat} {S : gS} {x o : Nat} {a1 a2 a3 : Int32} {Post : Option Value → gS → Prop} {PX : String → gS → Prop} {mc ms : Nat} (hx : gK S x = 9) (ct : gCt d0 yX7_send cX7_send 6 (some .int) 10 mc ms [.ref x, .int a1, .int a2, .int a3] S Post PX) (hp : ∀ v S1, Post v S1 → (∃ q, v = some (.int q)) ∧ gOut S1 o) (hq : ∀ E S1, PX E S1 → E = "java/lang/IndexOutOfBoundsException" ∨ E = "java/lang/IllegalArgumentException" ∨ E = "java/lang/IllegalStateException") : gCtw d0 yL_send cL_send 6 (some .int) [(0, 12, 15, 24), (0, 12, 19, 19), (0, 12, 23, 13)] 11 mc ms [.ref x, .int a1, .int a2, .int a3, .ref o] S (gLw S o Post PX [("java/lang/IndexOutOfBoundsException", nI 1), ("java/lang/IllegalArgumentException", nI 2), ("java/lang/IllegalStateException", nI 3)]) gNo := by
  refine gCtw_of (lo := [some (.ref x), some (.int a1), some (.int a2), some (.int a3), some (.ref o), none]) (by decide +kernel) (Nat.le_of_ble_eq_true rfl) rfl ?_
  intro Γ hd G F
  subst hd
  first | refine g_aload G dL_send_0 rfl ?_ | refine g_aloadN G dL_send_0 rfl ?_ | refine g_aloadQ G dL_send_0 rfl ?_
  refine g_iconst (v := nI 0) G dL_send_2 (by decide) ?_
  first | refine g_aload_n G dL_send_3 rfl ?_ | refine g_aload_nN G dL_send_3 rfl ?_ | refine g_aload_nQ G dL_send_3 rfl ?_
  refine g_iload_n G dL_send_4 rfl ?_
  refine g_iload_n G dL_send_5 rfl ?_
  refine g_iload_n G dL_send_6 rfl ?_
  refine g_tryV (ci := 8) G F ct mt_X7_send mi_X7_send ml_L_99 hx (by decide) rfl (Nat.le_of_ble_eq_true rfl) (by omega) (by omega) rfl (Nat.le_of_ble_eq_true rfl) dL_send_7 (fun v S1 h1 => ?_) (fun E S1 h1 => ?_)
  · obtain ⟨⟨q, rfl⟩, ho⟩ := hp v S1 h1
    simp only [Option.toList, List.cons_append, List.nil_append]
    refine g_i2l G dL_send_10 (rfl) ?_
    refine g_last G ho.1 (by decide) (by rw [ho.2]; omega) (by omega) dL_send_11 ?_
    refine g_goto (tgt := 27) G dL_send_12 (by decide) ?_
    refine g_iconst (v := nI 0) G dL_send_27 (by decide) ?_
    exact g_iretW G F (Or.inl ⟨q, S1, h1, rfl, rfl⟩) (by omega) (by omega) dL_send_28
  · rcases hq E S1 h1 with rfl | rfl | rfl
    · refine ⟨15, gHn_1 (by decide) (by decide) cl_L_24 kce_IOE, fun q => ?_⟩
      first | refine g_astore G dL_send_15 (gSt_5 (by first | rfl | exact g_c1_rf)) ?_ | refine g_astoreN G dL_send_15 (gSt_5 (by first | rfl | exact g_c1_rf)) ?_ | refine g_astoreQ G dL_send_15 (gSt_5 (by first | rfl | exact g_c1_rf)) ?_
      refine g_iconst (v := nI 1) G dL_send_17 (by decide) ?_
      exact g_iretW G F (Or.inr ⟨_, _, h1, by simp, rfl⟩) (by omega) (by omega) dL_send_18
    · refine ⟨19, gHn_s (gHn_1 (by decide) (by decide) cl_L_19 kce_IAE) (by decide) cl_L_24 (by decide), fun q => ?_⟩
      first | refine g_astore G dL_send_19 (gSt_5 (by first | rfl | exact g_c1_rf)) ?_ | refine g_astoreN G dL_send_19 (gSt_5 (by first | rfl | exact g_c1_rf)) ?_ | refine g_astoreQ G dL_send_19 (gSt_5 (by first | rfl | exact g_c1_rf)) ?_
      refine g_iconst (v := nI 2) G dL_send_21 (by decide) ?_
      exact g_iretW G F (Or.inr ⟨_, _, h1, by simp, rfl⟩) (by omega) (by omega) dL_send_22
    · refine ⟨23, gHn_s (gHn_s (gHn_1 (by decide) (by decide) cl_L_13 kce_ISE) (by decide) cl_L_19 (by decide)) (by decide) cl_L_24 (by decide), fun q => ?_⟩
      first | refine g_astore G dL_send_23 (gSt_5 (by first | rfl | exact g_c1_rf)) ?_ | refine g_astoreN G dL_send_23 (gSt_5 (by first | rfl | exact g_c1_rf)) ?_ | refine g_astoreQ G dL_send_23 (gSt_5 (by first | rfl | exact g_c1_rf)) ?_
      refine g_iconst (v := nI 3) G dL_send_25 (by decide) ?_
      exact g_iretW G F (Or.inr ⟨_, _, h1, by simp, rfl⟩) (by omega) (by omega) dL_send_26
set_option maxHeartbeats 4000000 in
theorem c_L_letter {d0 : Nat × Nat} {S : gS} {x o : Nat} {a1 a2 : Int32} {Post : Option Value → gS → Prop} {PX : String → gS → Prop} {mc ms : Nat} (hx : gK S x = 9) (ct : gCt d0 yX7_letter cX7_letter 4 (some .int) 10 mc ms [.ref x, .int a1, .int a2] S Post PX) (hp : ∀ v S1, Post v S1 → (∃ q, v = some (.int q)) ∧ gOut S1 o) (hq : ∀ E S1, PX E S1 → E = "java/lang/IndexOutOfBoundsException") : gCtw d0 yL_letter cL_letter 5 (some .int) [(0, 10, 13, 24)] 11 mc ms [.ref x, .int a1, .int a2, .ref o] S (gLw S o Post PX [("java/lang/IndexOutOfBoundsException", nI 1)]) gNo := by
  refine gCtw_of (lo := [some (.ref x), some (.int a1), some (.int a2), some (.ref o), none]) (by decide +kernel) (Nat.le_of_ble_eq_true rfl) rfl ?_
  intro Γ hd G F
  subst hd
  first | refine g_aload_n G dL_letter_0 rfl ?_ | refine g_aload_nN G dL_letter_0 rfl ?_ | refine g_aload_nQ G dL_letter_0 rfl ?_
  refine g_iconst (v := nI 0) G dL_letter_1 (by decide) ?_
  first | refine g_aload_n G dL_letter_2 rfl ?_ | refine g_aload_nN G dL_letter_2 rfl ?_ | refine g_aload_nQ G dL_letter_2 rfl ?_
  refine g_iload_n G dL_letter_3 rfl ?_
  refine g_iload_n G dL_letter_4 rfl ?_
  refine g_tryV (ci := 8) G F ct mt_X7_letter mi_X7_letter ml_L_102 hx (by decide) rfl (Nat.le_of_ble_eq_true rfl) (by omega) (by omega) rfl (Nat.le_of_ble_eq_true rfl) dL_letter_5 (fun v S1 h1 => ?_) (fun E S1 h1 => ?_)
  · obtain ⟨⟨q, rfl⟩, ho⟩ := hp v S1 h1
    simp only [Option.toList, List.cons_append, List.nil_append]
    refine g_i2l G dL_letter_8 (rfl) ?_
    refine g_last G ho.1 (by decide) (by rw [ho.2]; omega) (by omega) dL_letter_9 ?_
    refine g_goto (tgt := 17) G dL_letter_10 (by decide) ?_
    refine g_iconst (v := nI 0) G dL_letter_17 (by decide) ?_
    exact g_iretW G F (Or.inl ⟨q, S1, h1, rfl, rfl⟩) (by omega) (by omega) dL_letter_18
  · obtain rfl := hq E S1 h1
    refine ⟨13, gHn_1 (by decide) (by decide) cl_L_24 kce_IOE, fun q => ?_⟩
    first | refine g_astore G dL_letter_13 (gSt_4 (by first | rfl | exact g_c1_rf)) ?_ | refine g_astoreN G dL_letter_13 (gSt_4 (by first | rfl | exact g_c1_rf)) ?_ | refine g_astoreQ G dL_letter_13 (gSt_4 (by first | rfl | exact g_c1_rf)) ?_
    refine g_iconst (v := nI 1) G dL_letter_15 (by decide) ?_
    exact g_iretW G F (Or.inr ⟨_, _, h1, by simp, rfl⟩) (by omega) (by omega) dL_letter_16
set_option maxHeartbeats 4000000 in
theorem c_L_pass {d0 : Nat × Nat} {S : gS} {x o : Nat} {a1 : Int32} {Post : Option Value → gS → Prop} {PX : String → gS → Prop} {mc ms : Nat} (hx : gK S x = 9) (ct : gCt d0 yX7_pass cX7_pass 4 (some .int) 10 mc ms [.ref x, .int a1] S Post PX) (hp : ∀ v S1, Post v S1 → (∃ q, v = some (.int q)) ∧ gOut S1 o) (hq : ∀ E S1, PX E S1 → E = "java/lang/IllegalArgumentException") : gCtw d0 yL_pass cL_pass 4 (some .int) [(0, 9, 12, 19)] 11 mc ms [.ref x, .int a1, .ref o] S (gLw S o Post PX [("java/lang/IllegalArgumentException", nI 1)]) gNo := by
  refine gCtw_of (lo := [some (.ref x), some (.int a1), some (.ref o), none]) (by decide +kernel) (Nat.le_of_ble_eq_true rfl) rfl ?_
  intro Γ hd G F
  subst hd
  first | refine g_aload_n G dL_pass_0 rfl ?_ | refine g_aload_nN G dL_pass_0 rfl ?_ | refine g_aload_nQ G dL_pass_0 rfl ?_
  refine g_iconst (v := nI 0) G dL_pass_1 (by decide) ?_
  first | refine g_aload_n G dL_pass_2 rfl ?_ | refine g_aload_nN G dL_pass_2 rfl ?_ | refine g_aload_nQ G dL_pass_2 rfl ?_
  refine g_iload_n G dL_pass_3 rfl ?_
  refine g_tryV (ci := 8) G F ct mt_X7_pass mi_X7_pass ml_L_105 hx (by decide) rfl (Nat.le_of_ble_eq_true rfl) (by omega) (by omega) rfl (Nat.le_of_ble_eq_true rfl) dL_pass_4 (fun v S1 h1 => ?_) (fun E S1 h1 => ?_)
  · obtain ⟨⟨q, rfl⟩, ho⟩ := hp v S1 h1
    simp only [Option.toList, List.cons_append, List.nil_append]
    refine g_i2l G dL_pass_7 (rfl) ?_
    refine g_last G ho.1 (by decide) (by rw [ho.2]; omega) (by omega) dL_pass_8 ?_
    refine g_goto (tgt := 15) G dL_pass_9 (by decide) ?_
    refine g_iconst (v := nI 0) G dL_pass_15 (by decide) ?_
    exact g_iretW G F (Or.inl ⟨q, S1, h1, rfl, rfl⟩) (by omega) (by omega) dL_pass_16
  · obtain rfl := hq E S1 h1
    refine ⟨12, gHn_1 (by decide) (by decide) cl_L_19 kce_IAE, fun q => ?_⟩
    first | refine g_astore_n G dL_pass_12 (gSt_3 (by first | rfl | exact g_c1_rf)) ?_ | refine g_astore_nN G dL_pass_12 (gSt_3 (by first | rfl | exact g_c1_rf)) ?_ | refine g_astore_nQ G dL_pass_12 (gSt_3 (by first | rfl | exact g_c1_rf)) ?_
    refine g_iconst (v := nI 1) G dL_pass_13 (by decide) ?_
    exact g_iretW G F (Or.inr ⟨_, _, h1, by simp, rfl⟩) (by omega) (by omega) dL_pass_14
set_option maxHeartbeats 4000000 in
theorem c_L_arrives {d0 : Nat × Nat} {S : gS} {x o : Nat} {a1 : Int32} {Post : Option Value → gS → Prop} {PX : String → gS → Prop} {mc ms : Nat} (hx : gK S x = 9) (ct : gCt d0 yX7_arrives cX7_arrives 6 (some .int) 10 mc ms [.ref x, .int a1] S Post PX) (hp : ∀ v S1, Post v S1 → (∃ q, v = some (.int q)) ∧ gOut S1 o) (hq : ∀ E S1, PX E S1 → E = "java/lang/IndexOutOfBoundsException") : gCtw d0 yL_arrives cL_arrives 4 (some .int) [(0, 9, 12, 24)] 11 mc ms [.ref x, .int a1, .ref o] S (gLw S o Post PX [("java/lang/IndexOutOfBoundsException", nI 1)]) gNo := by
  refine gCtw_of (lo := [some (.ref x), some (.int a1), some (.ref o), none]) (by decide +kernel) (Nat.le_of_ble_eq_true rfl) rfl ?_
  intro Γ hd G F
  subst hd
  first | refine g_aload_n G dL_arrives_0 rfl ?_ | refine g_aload_nN G dL_arrives_0 rfl ?_ | refine g_aload_nQ G dL_arrives_0 rfl ?_
  refine g_iconst (v := nI 0) G dL_arrives_1 (by decide) ?_
  first | refine g_aload_n G dL_arrives_2 rfl ?_ | refine g_aload_nN G dL_arrives_2 rfl ?_ | refine g_aload_nQ G dL_arrives_2 rfl ?_
  refine g_iload_n G dL_arrives_3 rfl ?_
  refine g_tryV (ci := 8) G F ct mt_X7_arrives mi_X7_arrives ml_L_108 hx (by decide) rfl (Nat.le_of_ble_eq_true rfl) (by omega) (by omega) rfl (Nat.le_of_ble_eq_true rfl) dL_arrives_4 (fun v S1 h1 => ?_) (fun E S1 h1 => ?_)
  · obtain ⟨⟨q, rfl⟩, ho⟩ := hp v S1 h1
    simp only [Option.toList, List.cons_append, List.nil_append]
    refine g_i2l G dL_arrives_7 (rfl) ?_
    refine g_last G ho.1 (by decide) (by rw [ho.2]; omega) (by omega) dL_arrives_8 ?_
    refine g_goto (tgt := 15) G dL_arrives_9 (by decide) ?_
    refine g_iconst (v := nI 0) G dL_arrives_15 (by decide) ?_
    exact g_iretW G F (Or.inl ⟨q, S1, h1, rfl, rfl⟩) (by omega) (by omega) dL_arrives_16
  · obtain rfl := hq E S1 h1
    refine ⟨12, gHn_1 (by decide) (by decide) cl_L_24 kce_IOE, fun q => ?_⟩
    first | refine g_astore_n G dL_arrives_12 (gSt_3 (by first | rfl | exact g_c1_rf)) ?_ | refine g_astore_nN G dL_arrives_12 (gSt_3 (by first | rfl | exact g_c1_rf)) ?_ | refine g_astore_nQ G dL_arrives_12 (gSt_3 (by first | rfl | exact g_c1_rf)) ?_
    refine g_iconst (v := nI 1) G dL_arrives_13 (by decide) ?_
    exact g_iretW G F (Or.inr ⟨_, _, h1, by simp, rfl⟩) (by omega) (by omega) dL_arrives_14
set_option maxHeartbeats 4000000 in
theorem c_L_count {d0 : Nat × Nat} {S : gS} {x o : Nat} {a1 : Int32} {Post : Option Value → gS → Prop} {PX : String → gS → Prop} {mc ms : Nat} (hx : gK S x = 9) (ct : gCt d0 yX7_count cX7_count 2 (some .int) 10 mc ms [.ref x, .int a1] S Post PX) (hp : ∀ v S1, Post v S1 → (∃ q, v = some (.int q)) ∧ gOut S1 o) (hq : ∀ E S1, PX E S1 → E = "java/lang/IndexOutOfBoundsException") : gCtw d0 yL_count cL_count 4 (some .int) [(0, 9, 12, 24)] 11 mc ms [.ref x, .int a1, .ref o] S (gLw S o Post PX [("java/lang/IndexOutOfBoundsException", nI 1)]) gNo := by
  refine gCtw_of (lo := [some (.ref x), some (.int a1), some (.ref o), none]) (by decide +kernel) (Nat.le_of_ble_eq_true rfl) rfl ?_
  intro Γ hd G F
  subst hd
  first | refine g_aload_n G dL_count_0 rfl ?_ | refine g_aload_nN G dL_count_0 rfl ?_ | refine g_aload_nQ G dL_count_0 rfl ?_
  refine g_iconst (v := nI 0) G dL_count_1 (by decide) ?_
  first | refine g_aload_n G dL_count_2 rfl ?_ | refine g_aload_nN G dL_count_2 rfl ?_ | refine g_aload_nQ G dL_count_2 rfl ?_
  refine g_iload_n G dL_count_3 rfl ?_
  refine g_tryV (ci := 8) G F ct mt_X7_count mi_X7_count ml_L_111 hx (by decide) rfl (Nat.le_of_ble_eq_true rfl) (by omega) (by omega) rfl (Nat.le_of_ble_eq_true rfl) dL_count_4 (fun v S1 h1 => ?_) (fun E S1 h1 => ?_)
  · obtain ⟨⟨q, rfl⟩, ho⟩ := hp v S1 h1
    simp only [Option.toList, List.cons_append, List.nil_append]
    refine g_i2l G dL_count_7 (rfl) ?_
    refine g_last G ho.1 (by decide) (by rw [ho.2]; omega) (by omega) dL_count_8 ?_
    refine g_goto (tgt := 15) G dL_count_9 (by decide) ?_
    refine g_iconst (v := nI 0) G dL_count_15 (by decide) ?_
    exact g_iretW G F (Or.inl ⟨q, S1, h1, rfl, rfl⟩) (by omega) (by omega) dL_count_16
  · obtain rfl := hq E S1 h1
    refine ⟨12, gHn_1 (by decide) (by decide) cl_L_24 kce_IOE, fun q => ?_⟩
    first | refine g_astore_n G dL_count_12 (gSt_3 (by first | rfl | exact g_c1_rf)) ?_ | refine g_astore_nN G dL_count_12 (gSt_3 (by first | rfl | exact g_c1_rf)) ?_ | refine g_astore_nQ G dL_count_12 (gSt_3 (by first | rfl | exact g_c1_rf)) ?_
    refine g_iconst (v := nI 1) G dL_count_13 (by decide) ?_
    exact g_iretW G F (Or.inr ⟨_, _, h1, by simp, rfl⟩) (by omega) (by omega) dL_count_14
set_option maxHeartbeats 4000000 in
theorem c_L_sees {d0 : Nat × Nat} {S : gS} {x o : Nat} {a1 : Int32} {Post : Option Value → gS → Prop} {PX : String → gS → Prop} {mc ms : Nat} (hx : gK S x = 9) (ct : gCt d0 yX7_sees cX7_sees 8 (some .int) 10 mc ms [.ref x, .int a1] S Post PX) (hp : ∀ v S1, Post v S1 → (∃ q, v = some (.int q)) ∧ gOut S1 o) (hq : ∀ E S1, PX E S1 → E = "java/lang/IndexOutOfBoundsException") : gCtw d0 yL_sees cL_sees 4 (some .int) [(0, 9, 12, 24)] 11 mc ms [.ref x, .int a1, .ref o] S (gLw S o Post PX [("java/lang/IndexOutOfBoundsException", nI 1)]) gNo := by
  refine gCtw_of (lo := [some (.ref x), some (.int a1), some (.ref o), none]) (by decide +kernel) (Nat.le_of_ble_eq_true rfl) rfl ?_
  intro Γ hd G F
  subst hd
  first | refine g_aload_n G dL_sees_0 rfl ?_ | refine g_aload_nN G dL_sees_0 rfl ?_ | refine g_aload_nQ G dL_sees_0 rfl ?_
  refine g_iconst (v := nI 0) G dL_sees_1 (by decide) ?_
  first | refine g_aload_n G dL_sees_2 rfl ?_ | refine g_aload_nN G dL_sees_2 rfl ?_ | refine g_aload_nQ G dL_sees_2 rfl ?_
  refine g_iload_n G dL_sees_3 rfl ?_
  refine g_tryV (ci := 8) G F ct mt_X7_sees mi_X7_sees ml_L_114 hx (by decide) rfl (Nat.le_of_ble_eq_true rfl) (by omega) (by omega) rfl (Nat.le_of_ble_eq_true rfl) dL_sees_4 (fun v S1 h1 => ?_) (fun E S1 h1 => ?_)
  · obtain ⟨⟨q, rfl⟩, ho⟩ := hp v S1 h1
    simp only [Option.toList, List.cons_append, List.nil_append]
    refine g_i2l G dL_sees_7 (rfl) ?_
    refine g_last G ho.1 (by decide) (by rw [ho.2]; omega) (by omega) dL_sees_8 ?_
    refine g_goto (tgt := 15) G dL_sees_9 (by decide) ?_
    refine g_iconst (v := nI 0) G dL_sees_15 (by decide) ?_
    exact g_iretW G F (Or.inl ⟨q, S1, h1, rfl, rfl⟩) (by omega) (by omega) dL_sees_16
  · obtain rfl := hq E S1 h1
    refine ⟨12, gHn_1 (by decide) (by decide) cl_L_24 kce_IOE, fun q => ?_⟩
    first | refine g_astore_n G dL_sees_12 (gSt_3 (by first | rfl | exact g_c1_rf)) ?_ | refine g_astore_nN G dL_sees_12 (gSt_3 (by first | rfl | exact g_c1_rf)) ?_ | refine g_astore_nQ G dL_sees_12 (gSt_3 (by first | rfl | exact g_c1_rf)) ?_
    refine g_iconst (v := nI 1) G dL_sees_13 (by decide) ?_
    exact g_iretW G F (Or.inr ⟨_, _, h1, by simp, rfl⟩) (by omega) (by omega) dL_sees_14
