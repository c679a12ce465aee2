/-! ===== the law: blocks ===== -/
set_option maxHeartbeats 4000000 in
set_option maxRecDepth 100000 in
theorem bk_attach {Γ : gC} {b L x y o : Nat} {xs : Nat → Int32} (G : gOK Γ RL cL_law 12 601024 7293034) (X : gScr Γ b L xs) : gBlk Γ b L x y o 777 := by
  intro S ad bb M j k sl w5 w6 w7 w8 h hr i hd h40 ho hj hL hk hs kk
  have hb := i.b
  first | refine g_aload_n G dL_law_777 rfl ?_ | refine g_aload_nN G dL_law_777 rfl ?_ | refine g_aload_nQ G dL_law_777 rfl ?_
  first | refine g_aload_n G dL_law_778 rfl ?_ | refine g_aload_nN G dL_law_778 rfl ?_ | refine g_aload_nQ G dL_law_778 rfl ?_
  refine g_iload G dL_law_779 rfl ?_
  refine g_iconst (v := nI 1) G dL_law_781 (by decide) ?_
  refine g_iadd G dL_law_782 (nI_add _ _) ?_
  refine g_sld G X (j := 6 * j + 1) (by omega) (by omega) dL_law_783 ?_
  first | refine g_aload_n G dL_law_784 rfl ?_ | refine g_aload_nN G dL_law_784 rfl ?_ | refine g_aload_nQ G dL_law_784 rfl ?_
  refine g_iload G dL_law_785 rfl ?_
  refine g_iconst (v := nI 2) G dL_law_787 (by decide) ?_
  refine g_iadd G dL_law_788 (nI_add _ _) ?_
  refine g_sld G X (j := 6 * j + 2) (by omega) (by omega) dL_law_789 ?_
  first | refine g_aload_n G dL_law_790 rfl ?_ | refine g_aload_nN G dL_law_790 rfl ?_ | refine g_aload_nQ G dL_law_790 rfl ?_
  refine g_callSW G (c_L_attach h.1.1 (c_X7_attach _ S x ad M h (xs (6 * j + 1)) (xs (6 * j + 2))) (fun v S1 z => by obtain ⟨p9, c9, -, -, -, -, rfl, ⟨ad9, -, F⟩⟩ := z; exact ⟨⟨_, rfl, gBn_01 _⟩, ho.fr F⟩) (fun E S1 z => by obtain ⟨-, -, c, t, hc, -⟩ := (ag_attach (y := y) h i hd h40 (xs (6 * j + 1)) (xs (6 * j + 2))).2 E S1 z; simp only [List.mem_cons, Prod.mk.injEq, List.not_mem_nil, or_false] at hc; exact hc.1)) mw_L_attach ms_L_attach ml_L_159 (by omega) (by omega) (by omega) rfl (Nat.le_of_ble_eq_true rfl) dL_law_791 (fun v S1 hp => ?_)
  rcases hp with ⟨q, S2, hP, rfl, rfl⟩ | ⟨E, c9, hX, hc, rfl⟩
  · obtain ⟨q9, M9, e9, ⟨ad9, hm, F⟩, ⟨ok, hwt⟩, hR⟩ := (ag_attach (y := y) h i hd h40 (xs (6 * j + 1)) (xs (6 * j + 2))).1 _ _ hP
    obtain rfl : q = q9 := by cases e9; rfl
    have hq01 : q = nI 0 ∨ q = nI 1 := by obtain ⟨p9, c9, -, -, -, -, e8, -⟩ := hP; cases e8; exact gBn_01 _
    have hr3 := gRef_18 (gRef_cls hr F) (gFr_18 (o := o) (v := q.toInt64))
    have hm3 := gMail_18 hm (gFr_18 (o := o) (v := q.toInt64))
    have ho3 := (ho.fr F).fr (gFr_18 (o := o) (v := q.toInt64))
    obtain ⟨m1, m2, hm1, hm2, ct⟩ := hR _ _ hr3
    simp only [Option.toList, List.cons_append, List.nil_append]
    refine g_istore G dL_law_794 (gSt_5 (by first | rfl | exact g_c1_rf)) ?_
    first | refine g_aload_n G dL_law_796 rfl ?_ | refine g_aload_nN G dL_law_796 rfl ?_ | refine g_aload_nQ G dL_law_796 rfl ?_
    first | refine g_aload_n G dL_law_797 rfl ?_ | refine g_aload_nN G dL_law_797 rfl ?_ | refine g_aload_nQ G dL_law_797 rfl ?_
    refine g_iload G dL_law_798 rfl ?_
    refine g_iconst (v := nI 1) G dL_law_800 (by decide) ?_
    refine g_iadd G dL_law_801 (nI_add _ _) ?_
    refine g_sld G X (j := 6 * j + 1) (by omega) (by omega) dL_law_802 ?_
    first | refine g_aload_n G dL_law_803 rfl ?_ | refine g_aload_nN G dL_law_803 rfl ?_ | refine g_aload_nQ G dL_law_803 rfl ?_
    refine g_iload G dL_law_804 rfl ?_
    refine g_iconst (v := nI 2) G dL_law_806 (by decide) ?_
    refine g_iadd G dL_law_807 (nI_add _ _) ?_
    refine g_sld G X (j := 6 * j + 2) (by omega) (by omega) dL_law_808 ?_
    refine g_callV (ci := 10) G ct mt_X9_attach mi_X9_attach ml_L_161 hr3.1.kd (by decide) rfl (by omega) (by omega) (by omega) rfl (Nat.le_of_ble_eq_true rfl) dL_law_809 (fun v4 S4 hp4 => ?_)
    obtain ⟨rfl, t4, b4, hr4, F4⟩ := hp4
    simp only [Option.toList, List.cons_append, List.nil_append]
    refine g_istore G dL_law_812 (gSt_6 (by first | rfl | exact g_c1_rf)) ?_
    first | refine g_aload_n G dL_law_814 rfl ?_ | refine g_aload_nN G dL_law_814 rfl ?_ | refine g_aload_nQ G dL_law_814 rfl ?_
    refine g_callVp (ci := 10) G (c_X9_thrown _ S4 y (nI 0) hr4.1.kd t4) mt_X9_thrown mi_X9_thrown ml_L_127 hr4.1.kd (by decide) rfl (by omega) (by omega) (by omega) rfl (Nat.le_of_ble_eq_true rfl) dL_law_815 ?_
    refine g_iload G dL_law_818 rfl ?_
    refine g_icmp_eq (tgt := 825) G dL_law_820 (by decide) (fun _ => ?_) (fun z => absurd rfl z)
    refine g_iload G dL_law_825 rfl ?_
    refine g_if_ne (tgt := 849) G dL_law_827 (by decide) (fun z => absurd nI_0 z) (fun _ => ?_)
    have ho4 := ho3.fr F4
    first | refine g_aload_n G dL_law_830 rfl ?_ | refine g_aload_nN G dL_law_830 rfl ?_ | refine g_aload_nQ G dL_law_830 rfl ?_
    refine g_iconst (v := nI 0) G dL_law_831 (by decide) ?_
    refine g_lald G ho4.1 (by decide) (by rw [ho4.2]; omega) (by omega) (gOut_Z F4) dL_law_832 ?_
    refine g_iload G dL_law_833 rfl ?_
    refine g_if_eq (tgt := 842) G dL_law_835 (by decide) (fun c_835 => ?_) (fun c_835 => ?_)
    · obtain rfl : q = nI 0 := by rcases hq01 with rfl | rfl; exact rfl; exact absurd c_835 (by decide)
      refine g_lconst (v := lN 0) G dL_law_842 (by decide) ?_
      refine g_lcmp G dL_law_843 ?_
      refine g_if_eq (tgt := 849) G dL_law_844 (by decide) (fun _ => ?_) (fun z => absurd (lg_cmp_s _) z)
      refine g_goto (tgt := 2423) G dL_law_849 (by decide) ?_
      exact gW.wid (by omega) (by omega) (kk S4 ad9 b4 M9 _ _ _ _ (gMail_ref hm3 F4) hr4 ok ho4)
    · obtain rfl : q = nI 1 := by rcases hq01 with rfl | rfl; exact absurd rfl c_835; exact rfl
      refine g_lconst (v := lN 1) G dL_law_838 (by decide) ?_
      refine g_goto (tgt := 843) G dL_law_839 (by decide) ?_
      refine g_lcmp G dL_law_843 ?_
      refine g_if_eq (tgt := 849) G dL_law_844 (by decide) (fun _ => ?_) (fun z => absurd (lg_cmp_s _) z)
      refine g_goto (tgt := 2423) G dL_law_849 (by decide) ?_
      exact gW.wid (by omega) (by omega) (kk S4 ad9 b4 M9 _ _ _ _ (gMail_ref hm3 F4) hr4 ok ho4)
  · obtain ⟨rfl, w0, c8, t, hc8, rfl, ht1, ht3, hR⟩ := (ag_attach (y := y) h i hd h40 (xs (6 * j + 1)) (xs (6 * j + 2))).2 _ _ hX
    obtain rfl : c9 = nI t := gKey_one (by decide) hc hc8
    obtain ⟨v8, m1, m2, hm1, hm2, ct⟩ := hR _ _ hr
    simp only [Option.toList, List.cons_append, List.nil_append]
    refine g_istore G dL_law_794 (gSt_5 (by first | rfl | exact g_c1_rf)) ?_
    first | refine g_aload_n G dL_law_796 rfl ?_ | refine g_aload_nN G dL_law_796 rfl ?_ | refine g_aload_nQ G dL_law_796 rfl ?_
    first | refine g_aload_n G dL_law_797 rfl ?_ | refine g_aload_nN G dL_law_797 rfl ?_ | refine g_aload_nQ G dL_law_797 rfl ?_
    refine g_iload G dL_law_798 rfl ?_
    refine g_iconst (v := nI 1) G dL_law_800 (by decide) ?_
    refine g_iadd G dL_law_801 (nI_add _ _) ?_
    refine g_sld G X (j := 6 * j + 1) (by omega) (by omega) dL_law_802 ?_
    first | refine g_aload_n G dL_law_803 rfl ?_ | refine g_aload_nN G dL_law_803 rfl ?_ | refine g_aload_nQ G dL_law_803 rfl ?_
    refine g_iload G dL_law_804 rfl ?_
    refine g_iconst (v := nI 2) G dL_law_806 (by decide) ?_
    refine g_iadd G dL_law_807 (nI_add _ _) ?_
    refine g_sld G X (j := 6 * j + 2) (by omega) (by omega) dL_law_808 ?_
    refine g_callV (ci := 10) G ct mt_X9_attach mi_X9_attach ml_L_161 hr.1.kd (by decide) rfl (by omega) (by omega) (by omega) rfl (Nat.le_of_ble_eq_true rfl) dL_law_809 (fun v4 S4 hp4 => ?_)
    obtain ⟨rfl, t4, b4, hr4, F4⟩ := hp4
    simp only [Option.toList, List.cons_append, List.nil_append]
    refine g_istore G dL_law_812 (gSt_6 (by first | rfl | exact g_c1_rf)) ?_
    first | refine g_aload_n G dL_law_814 rfl ?_ | refine g_aload_nN G dL_law_814 rfl ?_ | refine g_aload_nQ G dL_law_814 rfl ?_
    refine g_callVp (ci := 10) G (c_X9_thrown _ S4 y (nI t) hr4.1.kd t4) mt_X9_thrown mi_X9_thrown ml_L_127 hr4.1.kd (by decide) rfl (by omega) (by omega) (by omega) rfl (Nat.le_of_ble_eq_true rfl) dL_law_815 ?_
    refine g_iload G dL_law_818 rfl ?_
    refine g_icmp_eq (tgt := 825) G dL_law_820 (by decide) (fun _ => ?_) (fun z => absurd rfl z)
    refine g_iload G dL_law_825 rfl ?_
    refine g_if_ne (tgt := 849) G dL_law_827 (by decide) (fun _ => ?_) (fun z => absurd z (nI_ne0 (by omega) (by omega)))
    refine g_goto (tgt := 2423) G dL_law_849 (by decide) ?_
    exact gW.wid (by omega) (by omega) (kk S4 ad b4 M _ _ _ _ (gMail_ref h F4) hr4 (gOk_rf i hd) (ho.fr F4))
set_option maxHeartbeats 4000000 in
set_option maxRecDepth 100000 in
theorem bk_person {Γ : gC} {b L x y o : Nat} {xs : Nat → Int32} (G : gOK Γ RL cL_law 12 601024 7293034) (X : gScr Γ b L xs) : gBlk Γ b L x y o 852 := by
  intro S ad bb M j k sl w5 w6 w7 w8 h hr i hd h40 ho hj hL hk hs kk
  have hb := i.b
  first | refine g_aload_n G dL_law_852 rfl ?_ | refine g_aload_nN G dL_law_852 rfl ?_ | refine g_aload_nQ G dL_law_852 rfl ?_
  first | refine g_aload_n G dL_law_853 rfl ?_ | refine g_aload_nN G dL_law_853 rfl ?_ | refine g_aload_nQ G dL_law_853 rfl ?_
  refine g_iload G dL_law_854 rfl ?_
  refine g_iconst (v := nI 1) G dL_law_856 (by decide) ?_
  refine g_iadd G dL_law_857 (nI_add _ _) ?_
  refine g_sld G X (j := 6 * j + 1) (by omega) (by omega) dL_law_858 ?_
  first | refine g_aload_n G dL_law_859 rfl ?_ | refine g_aload_nN G dL_law_859 rfl ?_ | refine g_aload_nQ G dL_law_859 rfl ?_
  refine g_iload G dL_law_860 rfl ?_
  refine g_iconst (v := nI 2) G dL_law_862 (by decide) ?_
  refine g_iadd G dL_law_863 (nI_add _ _) ?_
  refine g_sld G X (j := 6 * j + 2) (by omega) (by omega) dL_law_864 ?_
  first | refine g_aload_n G dL_law_865 rfl ?_ | refine g_aload_nN G dL_law_865 rfl ?_ | refine g_aload_nQ G dL_law_865 rfl ?_
  refine g_callSW G (c_L_person h.1.1 (c_X7_person _ S x ad M h (xs (6 * j + 1)) (xs (6 * j + 2))) (fun v S1 z => by obtain ⟨q, M9, rfl, ⟨ad9, -, F⟩, -⟩ := (ag_person (y := y) h i hd h40 (xs (6 * j + 1)) (xs (6 * j + 2))).1 v S1 z; exact ⟨⟨q, rfl⟩, ho.fr F⟩) (fun E S1 z => by obtain ⟨-, -, c, t, hc, -⟩ := (ag_person (y := y) h i hd h40 (xs (6 * j + 1)) (xs (6 * j + 2))).2 E S1 z; simp only [List.mem_cons, Prod.mk.injEq, List.not_mem_nil, or_false] at hc; exact hc.1)) mw_L_person ms_L_person ml_L_162 (by omega) (by omega) (by omega) rfl (Nat.le_of_ble_eq_true rfl) dL_law_866 (fun v S1 hp => ?_)
  rcases hp with ⟨q, S2, hP, rfl, rfl⟩ | ⟨E, c9, hX, hc, rfl⟩
  · obtain ⟨q9, M9, e9, ⟨ad9, hm, F⟩, ⟨ok, hwt⟩, hR⟩ := (ag_person (y := y) h i hd h40 (xs (6 * j + 1)) (xs (6 * j + 2))).1 _ _ hP
    obtain rfl : q = q9 := by cases e9; rfl
    have hr3 := gRef_18 (gRef_cls hr F) (gFr_18 (o := o) (v := q.toInt64))
    have hm3 := gMail_18 hm (gFr_18 (o := o) (v := q.toInt64))
    have ho3 := (ho.fr F).fr (gFr_18 (o := o) (v := q.toInt64))
    obtain ⟨m1, m2, hm1, hm2, ct⟩ := hR _ _ hr3
    simp only [Option.toList, List.cons_append, List.nil_append]
    refine g_istore G dL_law_869 (gSt_5 (by first | rfl | exact g_c1_rf)) ?_
    first | refine g_aload_n G dL_law_871 rfl ?_ | refine g_aload_nN G dL_law_871 rfl ?_ | refine g_aload_nQ G dL_law_871 rfl ?_
    first | refine g_aload_n G dL_law_872 rfl ?_ | refine g_aload_nN G dL_law_872 rfl ?_ | refine g_aload_nQ G dL_law_872 rfl ?_
    refine g_iload G dL_law_873 rfl ?_
    refine g_iconst (v := nI 1) G dL_law_875 (by decide) ?_
    refine g_iadd G dL_law_876 (nI_add _ _) ?_
    refine g_sld G X (j := 6 * j + 1) (by omega) (by omega) dL_law_877 ?_
    first | refine g_aload_n G dL_law_878 rfl ?_ | refine g_aload_nN G dL_law_878 rfl ?_ | refine g_aload_nQ G dL_law_878 rfl ?_
    refine g_iload G dL_law_879 rfl ?_
    refine g_iconst (v := nI 2) G dL_law_881 (by decide) ?_
    refine g_iadd G dL_law_882 (nI_add _ _) ?_
    refine g_sld G X (j := 6 * j + 2) (by omega) (by omega) dL_law_883 ?_
    refine g_callV (ci := 10) G ct mt_X9_person mi_X9_person ml_L_164 hr3.1.kd (by decide) rfl (by omega) (by omega) (by omega) rfl (Nat.le_of_ble_eq_true rfl) dL_law_884 (fun v4 S4 hp4 => ?_)
    obtain ⟨rfl, t4, b4, hr4, F4⟩ := hp4
    simp only [Option.toList, List.cons_append, List.nil_append]
    refine g_istore G dL_law_887 (gSt_6 (by first | rfl | exact g_c1_rf)) ?_
    first | refine g_aload_n G dL_law_889 rfl ?_ | refine g_aload_nN G dL_law_889 rfl ?_ | refine g_aload_nQ G dL_law_889 rfl ?_
    refine g_callVp (ci := 10) G (c_X9_thrown _ S4 y (nI 0) hr4.1.kd t4) mt_X9_thrown mi_X9_thrown ml_L_127 hr4.1.kd (by decide) rfl (by omega) (by omega) (by omega) rfl (Nat.le_of_ble_eq_true rfl) dL_law_890 ?_
    refine g_iload G dL_law_893 rfl ?_
    refine g_icmp_eq (tgt := 900) G dL_law_895 (by decide) (fun _ => ?_) (fun z => absurd rfl z)
    refine g_iload G dL_law_900 rfl ?_
    refine g_if_ne (tgt := 917) G dL_law_902 (by decide) (fun z => absurd nI_0 z) (fun _ => ?_)
    have ho4 := ho3.fr F4
    first | refine g_aload_n G dL_law_905 rfl ?_ | refine g_aload_nN G dL_law_905 rfl ?_ | refine g_aload_nQ G dL_law_905 rfl ?_
    refine g_iconst (v := nI 0) G dL_law_906 (by decide) ?_
    refine g_lald G ho4.1 (by decide) (by rw [ho4.2]; omega) (by omega) (gOut_Z F4) dL_law_907 ?_
    refine g_iload G dL_law_908 rfl ?_
    refine g_i2l G dL_law_910 (rfl) ?_
    refine g_lcmp G dL_law_911 ?_
    refine g_if_eq (tgt := 917) G dL_law_912 (by decide) (fun _ => ?_) (fun z => absurd (lg_cmp_s _) z)
    refine g_goto (tgt := 2423) G dL_law_917 (by decide) ?_
    exact gW.wid (by omega) (by omega) (kk S4 ad9 b4 M9 _ _ _ _ (gMail_ref hm3 F4) hr4 ok ho4)
  · obtain ⟨rfl, w0, c8, t, hc8, rfl, ht1, ht3, hR⟩ := (ag_person (y := y) h i hd h40 (xs (6 * j + 1)) (xs (6 * j + 2))).2 _ _ hX
    obtain rfl : c9 = nI t := gKey_one (by decide) hc hc8
    obtain ⟨v8, m1, m2, hm1, hm2, ct⟩ := hR _ _ hr
    simp only [Option.toList, List.cons_append, List.nil_append]
    refine g_istore G dL_law_869 (gSt_5 (by first | rfl | exact g_c1_rf)) ?_
    first | refine g_aload_n G dL_law_871 rfl ?_ | refine g_aload_nN G dL_law_871 rfl ?_ | refine g_aload_nQ G dL_law_871 rfl ?_
    first | refine g_aload_n G dL_law_872 rfl ?_ | refine g_aload_nN G dL_law_872 rfl ?_ | refine g_aload_nQ G dL_law_872 rfl ?_
    refine g_iload G dL_law_873 rfl ?_
    refine g_iconst (v := nI 1) G dL_law_875 (by decide) ?_
    refine g_iadd G dL_law_876 (nI_add _ _) ?_
    refine g_sld G X (j := 6 * j + 1) (by omega) (by omega) dL_law_877 ?_
    first | refine g_aload_n G dL_law_878 rfl ?_ | refine g_aload_nN G dL_law_878 rfl ?_ | refine g_aload_nQ G dL_law_878 rfl ?_
    refine g_iload G dL_law_879 rfl ?_
    refine g_iconst (v := nI 2) G dL_law_881 (by decide) ?_
    refine g_iadd G dL_law_882 (nI_add _ _) ?_
    refine g_sld G X (j := 6 * j + 2) (by omega) (by omega) dL_law_883 ?_
    refine g_callV (ci := 10) G ct mt_X9_person mi_X9_person ml_L_164 hr.1.kd (by decide) rfl (by omega) (by omega) (by omega) rfl (Nat.le_of_ble_eq_true rfl) dL_law_884 (fun v4 S4 hp4 => ?_)
    obtain ⟨rfl, t4, b4, hr4, F4⟩ := hp4
    simp only [Option.toList, List.cons_append, List.nil_append]
    refine g_istore G dL_law_887 (gSt_6 (by first | rfl | exact g_c1_rf)) ?_
    first | refine g_aload_n G dL_law_889 rfl ?_ | refine g_aload_nN G dL_law_889 rfl ?_ | refine g_aload_nQ G dL_law_889 rfl ?_
    refine g_callVp (ci := 10) G (c_X9_thrown _ S4 y (nI t) hr4.1.kd t4) mt_X9_thrown mi_X9_thrown ml_L_127 hr4.1.kd (by decide) rfl (by omega) (by omega) (by omega) rfl (Nat.le_of_ble_eq_true rfl) dL_law_890 ?_
    refine g_iload G dL_law_893 rfl ?_
    refine g_icmp_eq (tgt := 900) G dL_law_895 (by decide) (fun _ => ?_) (fun z => absurd rfl z)
    refine g_iload G dL_law_900 rfl ?_
    refine g_if_ne (tgt := 917) G dL_law_902 (by decide) (fun _ => ?_) (fun z => absurd z (nI_ne0 (by omega) (by omega)))
    refine g_goto (tgt := 2423) G dL_law_917 (by decide) ?_
    exact gW.wid (by omega) (by omega) (kk S4 ad b4 M _ _ _ _ (gMail_ref h F4) hr4 (gOk_rf i hd) (ho.fr F4))
set_option maxHeartbeats 4000000 in
set_option maxRecDepth 100000 in
theorem bk_caseOf {Γ : gC} {b L x y o : Nat} {xs : Nat → Int32} (G : gOK Γ RL cL_law 12 601024 7293034) (X : gScr Γ b L xs) : gBlk Γ b L x y o 920 := by
  intro S ad bb M j k sl w5 w6 w7 w8 h hr i hd h40 ho hj hL hk hs kk
  have hb := i.b
  first | refine g_aload_n G dL_law_920 rfl ?_ | refine g_aload_nN G dL_law_920 rfl ?_ | refine g_aload_nQ G dL_law_920 rfl ?_
  first | refine g_aload_n G dL_law_921 rfl ?_ | refine g_aload_nN G dL_law_921 rfl ?_ | refine g_aload_nQ G dL_law_921 rfl ?_
  refine g_iload G dL_law_922 rfl ?_
  refine g_iconst (v := nI 1) G dL_law_924 (by decide) ?_
  refine g_iadd G dL_law_925 (nI_add _ _) ?_
  refine g_sld G X (j := 6 * j + 1) (by omega) (by omega) dL_law_926 ?_
  first | refine g_aload_n G dL_law_927 rfl ?_ | refine g_aload_nN G dL_law_927 rfl ?_ | refine g_aload_nQ G dL_law_927 rfl ?_
  refine g_iload G dL_law_928 rfl ?_
  refine g_iconst (v := nI 2) G dL_law_930 (by decide) ?_
  refine g_iadd G dL_law_931 (nI_add _ _) ?_
  refine g_sld G X (j := 6 * j + 2) (by omega) (by omega) dL_law_932 ?_
  first | refine g_aload_n G dL_law_933 rfl ?_ | refine g_aload_nN G dL_law_933 rfl ?_ | refine g_aload_nQ G dL_law_933 rfl ?_
  refine g_callSW G (c_L_caseOf h.1.1 (c_X7_caseOf _ S x ad M h i.1 (xs (6 * j + 1)) (xs (6 * j + 2))) (fun v S1 z => by obtain ⟨q, M9, rfl, ⟨ad9, -, F⟩, -⟩ := (ag_caseOf (y := y) h i hd h40 (xs (6 * j + 1)) (xs (6 * j + 2))).1 v S1 z; exact ⟨⟨q, rfl⟩, ho.fr F⟩) (fun E S1 z => by obtain ⟨-, -, c, t, hc, -⟩ := (ag_caseOf (y := y) h i hd h40 (xs (6 * j + 1)) (xs (6 * j + 2))).2 E S1 z; simp only [List.mem_cons, Prod.mk.injEq, List.not_mem_nil, or_false] at hc; exact hc.1)) mw_L_caseOf ms_L_caseOf ml_L_165 (by omega) (by omega) (by omega) rfl (Nat.le_of_ble_eq_true rfl) dL_law_934 (fun v S1 hp => ?_)
  rcases hp with ⟨q, S2, hP, rfl, rfl⟩ | ⟨E, c9, hX, hc, rfl⟩
  · obtain ⟨q9, M9, e9, ⟨ad9, hm, F⟩, ⟨ok, hwt⟩, hR⟩ := (ag_caseOf (y := y) h i hd h40 (xs (6 * j + 1)) (xs (6 * j + 2))).1 _ _ hP
    obtain rfl : q = q9 := by cases e9; rfl
    have hr3 := gRef_18 (gRef_cls hr F) (gFr_18 (o := o) (v := q.toInt64))
    have hm3 := gMail_18 hm (gFr_18 (o := o) (v := q.toInt64))
    have ho3 := (ho.fr F).fr (gFr_18 (o := o) (v := q.toInt64))
    obtain ⟨m1, m2, hm1, hm2, ct⟩ := hR _ _ hr3
    simp only [Option.toList, List.cons_append, List.nil_append]
    refine g_istore G dL_law_937 (gSt_5 (by first | rfl | exact g_c1_rf)) ?_
    first | refine g_aload_n G dL_law_939 rfl ?_ | refine g_aload_nN G dL_law_939 rfl ?_ | refine g_aload_nQ G dL_law_939 rfl ?_
    first | refine g_aload_n G dL_law_940 rfl ?_ | refine g_aload_nN G dL_law_940 rfl ?_ | refine g_aload_nQ G dL_law_940 rfl ?_
    refine g_iload G dL_law_941 rfl ?_
    refine g_iconst (v := nI 1) G dL_law_943 (by decide) ?_
    refine g_iadd G dL_law_944 (nI_add _ _) ?_
    refine g_sld G X (j := 6 * j + 1) (by omega) (by omega) dL_law_945 ?_
    first | refine g_aload_n G dL_law_946 rfl ?_ | refine g_aload_nN G dL_law_946 rfl ?_ | refine g_aload_nQ G dL_law_946 rfl ?_
    refine g_iload G dL_law_947 rfl ?_
    refine g_iconst (v := nI 2) G dL_law_949 (by decide) ?_
    refine g_iadd G dL_law_950 (nI_add _ _) ?_
    refine g_sld G X (j := 6 * j + 2) (by omega) (by omega) dL_law_951 ?_
    refine g_callV (ci := 10) G ct mt_X9_caseOf mi_X9_caseOf ml_L_167 hr3.1.kd (by decide) rfl (by omega) (by omega) (by omega) rfl (Nat.le_of_ble_eq_true rfl) dL_law_952 (fun v4 S4 hp4 => ?_)
    obtain ⟨rfl, t4, b4, hr4, F4⟩ := hp4
    simp only [Option.toList, List.cons_append, List.nil_append]
    refine g_istore G dL_law_955 (gSt_6 (by first | rfl | exact g_c1_rf)) ?_
    first | refine g_aload_n G dL_law_957 rfl ?_ | refine g_aload_nN G dL_law_957 rfl ?_ | refine g_aload_nQ G dL_law_957 rfl ?_
    refine g_callVp (ci := 10) G (c_X9_thrown _ S4 y (nI 0) hr4.1.kd t4) mt_X9_thrown mi_X9_thrown ml_L_127 hr4.1.kd (by decide) rfl (by omega) (by omega) (by omega) rfl (Nat.le_of_ble_eq_true rfl) dL_law_958 ?_
    refine g_iload G dL_law_961 rfl ?_
    refine g_icmp_eq (tgt := 968) G dL_law_963 (by decide) (fun _ => ?_) (fun z => absurd rfl z)
    refine g_iload G dL_law_968 rfl ?_
    refine g_if_ne (tgt := 985) G dL_law_970 (by decide) (fun z => absurd nI_0 z) (fun _ => ?_)
    have ho4 := ho3.fr F4
    first | refine g_aload_n G dL_law_973 rfl ?_ | refine g_aload_nN G dL_law_973 rfl ?_ | refine g_aload_nQ G dL_law_973 rfl ?_
    refine g_iconst (v := nI 0) G dL_law_974 (by decide) ?_
    refine g_lald G ho4.1 (by decide) (by rw [ho4.2]; omega) (by omega) (gOut_Z F4) dL_law_975 ?_
    refine g_iload G dL_law_976 rfl ?_
    refine g_i2l G dL_law_978 (rfl) ?_
    refine g_lcmp G dL_law_979 ?_
    refine g_if_eq (tgt := 985) G dL_law_980 (by decide) (fun _ => ?_) (fun z => absurd (lg_cmp_s _) z)
    refine g_goto (tgt := 2423) G dL_law_985 (by decide) ?_
    exact gW.wid (by omega) (by omega) (kk S4 ad9 b4 M9 _ _ _ _ (gMail_ref hm3 F4) hr4 ok ho4)
  · obtain ⟨rfl, w0, c8, t, hc8, rfl, ht1, ht3, hR⟩ := (ag_caseOf (y := y) h i hd h40 (xs (6 * j + 1)) (xs (6 * j + 2))).2 _ _ hX
    obtain rfl : c9 = nI t := gKey_one (by decide) hc hc8
    obtain ⟨v8, m1, m2, hm1, hm2, ct⟩ := hR _ _ hr
    simp only [Option.toList, List.cons_append, List.nil_append]
    refine g_istore G dL_law_937 (gSt_5 (by first | rfl | exact g_c1_rf)) ?_
    first | refine g_aload_n G dL_law_939 rfl ?_ | refine g_aload_nN G dL_law_939 rfl ?_ | refine g_aload_nQ G dL_law_939 rfl ?_
    first | refine g_aload_n G dL_law_940 rfl ?_ | refine g_aload_nN G dL_law_940 rfl ?_ | refine g_aload_nQ G dL_law_940 rfl ?_
    refine g_iload G dL_law_941 rfl ?_
    refine g_iconst (v := nI 1) G dL_law_943 (by decide) ?_
    refine g_iadd G dL_law_944 (nI_add _ _) ?_
    refine g_sld G X (j := 6 * j + 1) (by omega) (by omega) dL_law_945 ?_
    first | refine g_aload_n G dL_law_946 rfl ?_ | refine g_aload_nN G dL_law_946 rfl ?_ | refine g_aload_nQ G dL_law_946 rfl ?_
    refine g_iload G dL_law_947 rfl ?_
    refine g_iconst (v := nI 2) G dL_law_949 (by decide) ?_
    refine g_iadd G dL_law_950 (nI_add _ _) ?_
    refine g_sld G X (j := 6 * j + 2) (by omega) (by omega) dL_law_951 ?_
    refine g_callV (ci := 10) G ct mt_X9_caseOf mi_X9_caseOf ml_L_167 hr.1.kd (by decide) rfl (by omega) (by omega) (by omega) rfl (Nat.le_of_ble_eq_true rfl) dL_law_952 (fun v4 S4 hp4 => ?_)
    obtain ⟨rfl, t4, b4, hr4, F4⟩ := hp4
    simp only [Option.toList, List.cons_append, List.nil_append]
    refine g_istore G dL_law_955 (gSt_6 (by first | rfl | exact g_c1_rf)) ?_
    first | refine g_aload_n G dL_law_957 rfl ?_ | refine g_aload_nN G dL_law_957 rfl ?_ | refine g_aload_nQ G dL_law_957 rfl ?_
    refine g_callVp (ci := 10) G (c_X9_thrown _ S4 y (nI t) hr4.1.kd t4) mt_X9_thrown mi_X9_thrown ml_L_127 hr4.1.kd (by decide) rfl (by omega) (by omega) (by omega) rfl (Nat.le_of_ble_eq_true rfl) dL_law_958 ?_
    refine g_iload G dL_law_961 rfl ?_
    refine g_icmp_eq (tgt := 968) G dL_law_963 (by decide) (fun _ => ?_) (fun z => absurd rfl z)
    refine g_iload G dL_law_968 rfl ?_
    refine g_if_ne (tgt := 985) G dL_law_970 (by decide) (fun _ => ?_) (fun z => absurd z (nI_ne0 (by omega) (by omega)))
    refine g_goto (tgt := 2423) G dL_law_985 (by decide) ?_
    exact gW.wid (by omega) (by omega) (kk S4 ad b4 M _ _ _ _ (gMail_ref h F4) hr4 (gOk_rf i hd) (ho.fr F4))
set_option maxHeartbeats 4000000 in
set_option maxRecDepth 100000 in
theorem bk_read {Γ : gC} {b L x y o : Nat} {xs : Nat → Int32} (G : gOK Γ RL cL_law 12 601024 7293034) (X : gScr Γ b L xs) : gBlk Γ b L x y o 988 := by
  intro S ad bb M j k sl w5 w6 w7 w8 h hr i hd h40 ho hj hL hk hs kk
  have hb := i.b
  first | refine g_aload_n G dL_law_988 rfl ?_ | refine g_aload_nN G dL_law_988 rfl ?_ | refine g_aload_nQ G dL_law_988 rfl ?_
  first | refine g_aload_n G dL_law_989 rfl ?_ | refine g_aload_nN G dL_law_989 rfl ?_ | refine g_aload_nQ G dL_law_989 rfl ?_
  refine g_iload G dL_law_990 rfl ?_
  refine g_iconst (v := nI 1) G dL_law_992 (by decide) ?_
  refine g_iadd G dL_law_993 (nI_add _ _) ?_
  refine g_sld G X (j := 6 * j + 1) (by omega) (by omega) dL_law_994 ?_
  first | refine g_aload_n G dL_law_995 rfl ?_ | refine g_aload_nN G dL_law_995 rfl ?_ | refine g_aload_nQ G dL_law_995 rfl ?_
  refine g_iload G dL_law_996 rfl ?_
  refine g_iconst (v := nI 2) G dL_law_998 (by decide) ?_
  refine g_iadd G dL_law_999 (nI_add _ _) ?_
  refine g_sld G X (j := 6 * j + 2) (by omega) (by omega) dL_law_1000 ?_
  first | refine g_aload_n G dL_law_1001 rfl ?_ | refine g_aload_nN G dL_law_1001 rfl ?_ | refine g_aload_nQ G dL_law_1001 rfl ?_
  refine g_callSW G (c_L_read h.1.1 (c_X7_read _ S x ad M h (xs (6 * j + 1)) (xs (6 * j + 2))) (fun v S1 z => by obtain ⟨q, M9, rfl, ⟨ad9, -, F⟩, -⟩ := (ag_read (y := y) h i hd h40 (xs (6 * j + 1)) (xs (6 * j + 2))).1 v S1 z; exact ⟨⟨q, rfl⟩, ho.fr F⟩) (fun E S1 z => by obtain ⟨-, -, c, t, hc, -⟩ := (ag_read (y := y) h i hd h40 (xs (6 * j + 1)) (xs (6 * j + 2))).2 E S1 z; simp only [List.mem_cons, Prod.mk.injEq, List.not_mem_nil, or_false] at hc; exact hc.1)) mw_L_read ms_L_read ml_L_168 (by omega) (by omega) (by omega) rfl (Nat.le_of_ble_eq_true rfl) dL_law_1002 (fun v S1 hp => ?_)
  rcases hp with ⟨q, S2, hP, rfl, rfl⟩ | ⟨E, c9, hX, hc, rfl⟩
  · obtain ⟨q9, M9, e9, ⟨ad9, hm, F⟩, ⟨ok, hwt⟩, hR⟩ := (ag_read (y := y) h i hd h40 (xs (6 * j + 1)) (xs (6 * j + 2))).1 _ _ hP
    obtain rfl : q = q9 := by cases e9; rfl
    have hr3 := gRef_18 (gRef_cls hr F) (gFr_18 (o := o) (v := q.toInt64))
    have hm3 := gMail_18 hm (gFr_18 (o := o) (v := q.toInt64))
    have ho3 := (ho.fr F).fr (gFr_18 (o := o) (v := q.toInt64))
    obtain ⟨m1, m2, hm1, hm2, ct⟩ := hR _ _ hr3
    simp only [Option.toList, List.cons_append, List.nil_append]
    refine g_istore G dL_law_1005 (gSt_5 (by first | rfl | exact g_c1_rf)) ?_
    first | refine g_aload_n G dL_law_1007 rfl ?_ | refine g_aload_nN G dL_law_1007 rfl ?_ | refine g_aload_nQ G dL_law_1007 rfl ?_
    first | refine g_aload_n G dL_law_1008 rfl ?_ | refine g_aload_nN G dL_law_1008 rfl ?_ | refine g_aload_nQ G dL_law_1008 rfl ?_
    refine g_iload G dL_law_1009 rfl ?_
    refine g_iconst (v := nI 1) G dL_law_1011 (by decide) ?_
    refine g_iadd G dL_law_1012 (nI_add _ _) ?_
    refine g_sld G X (j := 6 * j + 1) (by omega) (by omega) dL_law_1013 ?_
    first | refine g_aload_n G dL_law_1014 rfl ?_ | refine g_aload_nN G dL_law_1014 rfl ?_ | refine g_aload_nQ G dL_law_1014 rfl ?_
    refine g_iload G dL_law_1015 rfl ?_
    refine g_iconst (v := nI 2) G dL_law_1017 (by decide) ?_
    refine g_iadd G dL_law_1018 (nI_add _ _) ?_
    refine g_sld G X (j := 6 * j + 2) (by omega) (by omega) dL_law_1019 ?_
    refine g_callV (ci := 10) G ct mt_X9_read mi_X9_read ml_L_170 hr3.1.kd (by decide) rfl (by omega) (by omega) (by omega) rfl (Nat.le_of_ble_eq_true rfl) dL_law_1020 (fun v4 S4 hp4 => ?_)
    obtain ⟨rfl, t4, b4, hr4, F4⟩ := hp4
    simp only [Option.toList, List.cons_append, List.nil_append]
    refine g_istore G dL_law_1023 (gSt_6 (by first | rfl | exact g_c1_rf)) ?_
    first | refine g_aload_n G dL_law_1025 rfl ?_ | refine g_aload_nN G dL_law_1025 rfl ?_ | refine g_aload_nQ G dL_law_1025 rfl ?_
    refine g_callVp (ci := 10) G (c_X9_thrown _ S4 y (nI 0) hr4.1.kd t4) mt_X9_thrown mi_X9_thrown ml_L_127 hr4.1.kd (by decide) rfl (by omega) (by omega) (by omega) rfl (Nat.le_of_ble_eq_true rfl) dL_law_1026 ?_
    refine g_iload G dL_law_1029 rfl ?_
    refine g_icmp_eq (tgt := 1036) G dL_law_1031 (by decide) (fun _ => ?_) (fun z => absurd rfl z)
    refine g_iload G dL_law_1036 rfl ?_
    refine g_if_ne (tgt := 1053) G dL_law_1038 (by decide) (fun z => absurd nI_0 z) (fun _ => ?_)
    have ho4 := ho3.fr F4
    first | refine g_aload_n G dL_law_1041 rfl ?_ | refine g_aload_nN G dL_law_1041 rfl ?_ | refine g_aload_nQ G dL_law_1041 rfl ?_
    refine g_iconst (v := nI 0) G dL_law_1042 (by decide) ?_
    refine g_lald G ho4.1 (by decide) (by rw [ho4.2]; omega) (by omega) (gOut_Z F4) dL_law_1043 ?_
    refine g_iload G dL_law_1044 rfl ?_
    refine g_i2l G dL_law_1046 (rfl) ?_
    refine g_lcmp G dL_law_1047 ?_
    refine g_if_eq (tgt := 1053) G dL_law_1048 (by decide) (fun _ => ?_) (fun z => absurd (lg_cmp_s _) z)
    refine g_goto (tgt := 2423) G dL_law_1053 (by decide) ?_
    exact gW.wid (by omega) (by omega) (kk S4 ad9 b4 M9 _ _ _ _ (gMail_ref hm3 F4) hr4 ok ho4)
  · obtain ⟨rfl, w0, c8, t, hc8, rfl, ht1, ht3, hR⟩ := (ag_read (y := y) h i hd h40 (xs (6 * j + 1)) (xs (6 * j + 2))).2 _ _ hX
    obtain rfl : c9 = nI t := gKey_one (by decide) hc hc8
    obtain ⟨v8, m1, m2, hm1, hm2, ct⟩ := hR _ _ hr
    simp only [Option.toList, List.cons_append, List.nil_append]
    refine g_istore G dL_law_1005 (gSt_5 (by first | rfl | exact g_c1_rf)) ?_
    first | refine g_aload_n G dL_law_1007 rfl ?_ | refine g_aload_nN G dL_law_1007 rfl ?_ | refine g_aload_nQ G dL_law_1007 rfl ?_
    first | refine g_aload_n G dL_law_1008 rfl ?_ | refine g_aload_nN G dL_law_1008 rfl ?_ | refine g_aload_nQ G dL_law_1008 rfl ?_
    refine g_iload G dL_law_1009 rfl ?_
    refine g_iconst (v := nI 1) G dL_law_1011 (by decide) ?_
    refine g_iadd G dL_law_1012 (nI_add _ _) ?_
    refine g_sld G X (j := 6 * j + 1) (by omega) (by omega) dL_law_1013 ?_
    first | refine g_aload_n G dL_law_1014 rfl ?_ | refine g_aload_nN G dL_law_1014 rfl ?_ | refine g_aload_nQ G dL_law_1014 rfl ?_
    refine g_iload G dL_law_1015 rfl ?_
    refine g_iconst (v := nI 2) G dL_law_1017 (by decide) ?_
    refine g_iadd G dL_law_1018 (nI_add _ _) ?_
    refine g_sld G X (j := 6 * j + 2) (by omega) (by omega) dL_law_1019 ?_
    refine g_callV (ci := 10) G ct mt_X9_read mi_X9_read ml_L_170 hr.1.kd (by decide) rfl (by omega) (by omega) (by omega) rfl (Nat.le_of_ble_eq_true rfl) dL_law_1020 (fun v4 S4 hp4 => ?_)
    obtain ⟨rfl, t4, b4, hr4, F4⟩ := hp4
    simp only [Option.toList, List.cons_append, List.nil_append]
    refine g_istore G dL_law_1023 (gSt_6 (by first | rfl | exact g_c1_rf)) ?_
    first | refine g_aload_n G dL_law_1025 rfl ?_ | refine g_aload_nN G dL_law_1025 rfl ?_ | refine g_aload_nQ G dL_law_1025 rfl ?_
    refine g_callVp (ci := 10) G (c_X9_thrown _ S4 y (nI t) hr4.1.kd t4) mt_X9_thrown mi_X9_thrown ml_L_127 hr4.1.kd (by decide) rfl (by omega) (by omega) (by omega) rfl (Nat.le_of_ble_eq_true rfl) dL_law_1026 ?_
    refine g_iload G dL_law_1029 rfl ?_
    refine g_icmp_eq (tgt := 1036) G dL_law_1031 (by decide) (fun _ => ?_) (fun z => absurd rfl z)
    refine g_iload G dL_law_1036 rfl ?_
    refine g_if_ne (tgt := 1053) G dL_law_1038 (by decide) (fun _ => ?_) (fun z => absurd z (nI_ne0 (by omega) (by omega)))
    refine g_goto (tgt := 2423) G dL_law_1053 (by decide) ?_
    exact gW.wid (by omega) (by omega) (kk S4 ad b4 M _ _ _ _ (gMail_ref h F4) hr4 (gOk_rf i hd) (ho.fr F4))
set_option maxHeartbeats 4000000 in
set_option maxRecDepth 100000 in
theorem bk_byteAt {Γ : gC} {b L x y o : Nat} {xs : Nat → Int32} (G : gOK Γ RL cL_law 12 601024 7293034) (X : gScr Γ b L xs) : gBlk Γ b L x y o 1056 := by
  intro S ad bb M j k sl w5 w6 w7 w8 h hr i hd h40 ho hj hL hk hs kk
  have hb := i.b
  first | refine g_aload_n G dL_law_1056 rfl ?_ | refine g_aload_nN G dL_law_1056 rfl ?_ | refine g_aload_nQ G dL_law_1056 rfl ?_
  first | refine g_aload_n G dL_law_1057 rfl ?_ | refine g_aload_nN G dL_law_1057 rfl ?_ | refine g_aload_nQ G dL_law_1057 rfl ?_
  refine g_iload G dL_law_1058 rfl ?_
  refine g_iconst (v := nI 1) G dL_law_1060 (by decide) ?_
  refine g_iadd G dL_law_1061 (nI_add _ _) ?_
  refine g_sld G X (j := 6 * j + 1) (by omega) (by omega) dL_law_1062 ?_
  first | refine g_aload_n G dL_law_1063 rfl ?_ | refine g_aload_nN G dL_law_1063 rfl ?_ | refine g_aload_nQ G dL_law_1063 rfl ?_
  refine g_callSW G (c_L_byteAt h.1.1 (c_X7_byteAt _ S x ad M h (xs (6 * j + 1))) (fun v S1 z => by obtain ⟨q, M9, rfl, ⟨ad9, -, F⟩, -⟩ := (ag_byteAt (y := y) h i hd h40 (xs (6 * j + 1))).1 v S1 z; exact ⟨⟨q, rfl⟩, ho.fr F⟩) (fun E S1 z => by obtain ⟨-, -, c, t, hc, -⟩ := (ag_byteAt (y := y) h i hd h40 (xs (6 * j + 1))).2 E S1 z; simp only [List.mem_cons, Prod.mk.injEq, List.not_mem_nil, or_false] at hc; exact hc.1)) mw_L_byteAt ms_L_byteAt ml_L_171 (by omega) (by omega) (by omega) rfl (Nat.le_of_ble_eq_true rfl) dL_law_1064 (fun v S1 hp => ?_)
  rcases hp with ⟨q, S2, hP, rfl, rfl⟩ | ⟨E, c9, hX, hc, rfl⟩
  · obtain ⟨q9, M9, e9, ⟨ad9, hm, F⟩, ⟨ok, hwt⟩, hR⟩ := (ag_byteAt (y := y) h i hd h40 (xs (6 * j + 1))).1 _ _ hP
    obtain rfl : q = q9 := by cases e9; rfl
    have hr3 := gRef_18 (gRef_cls hr F) (gFr_18 (o := o) (v := q.toInt64))
    have hm3 := gMail_18 hm (gFr_18 (o := o) (v := q.toInt64))
    have ho3 := (ho.fr F).fr (gFr_18 (o := o) (v := q.toInt64))
    obtain ⟨m1, m2, hm1, hm2, ct⟩ := hR _ _ hr3
    simp only [Option.toList, List.cons_append, List.nil_append]
    refine g_istore G dL_law_1067 (gSt_5 (by first | rfl | exact g_c1_rf)) ?_
    first | refine g_aload_n G dL_law_1069 rfl ?_ | refine g_aload_nN G dL_law_1069 rfl ?_ | refine g_aload_nQ G dL_law_1069 rfl ?_
    first | refine g_aload_n G dL_law_1070 rfl ?_ | refine g_aload_nN G dL_law_1070 rfl ?_ | refine g_aload_nQ G dL_law_1070 rfl ?_
    refine g_iload G dL_law_1071 rfl ?_
    refine g_iconst (v := nI 1) G dL_law_1073 (by decide) ?_
    refine g_iadd G dL_law_1074 (nI_add _ _) ?_
    refine g_sld G X (j := 6 * j + 1) (by omega) (by omega) dL_law_1075 ?_
    refine g_callV (ci := 10) G ct mt_X9_byteAt mi_X9_byteAt ml_L_173 hr3.1.kd (by decide) rfl (by omega) (by omega) (by omega) rfl (Nat.le_of_ble_eq_true rfl) dL_law_1076 (fun v4 S4 hp4 => ?_)
    obtain ⟨rfl, t4, b4, hr4, F4⟩ := hp4
    simp only [Option.toList, List.cons_append, List.nil_append]
    refine g_istore G dL_law_1079 (gSt_6 (by first | rfl | exact g_c1_rf)) ?_
    first | refine g_aload_n G dL_law_1081 rfl ?_ | refine g_aload_nN G dL_law_1081 rfl ?_ | refine g_aload_nQ G dL_law_1081 rfl ?_
    refine g_callVp (ci := 10) G (c_X9_thrown _ S4 y (nI 0) hr4.1.kd t4) mt_X9_thrown mi_X9_thrown ml_L_127 hr4.1.kd (by decide) rfl (by omega) (by omega) (by omega) rfl (Nat.le_of_ble_eq_true rfl) dL_law_1082 ?_
    refine g_iload G dL_law_1085 rfl ?_
    refine g_icmp_eq (tgt := 1092) G dL_law_1087 (by decide) (fun _ => ?_) (fun z => absurd rfl z)
    refine g_iload G dL_law_1092 rfl ?_
    refine g_if_ne (tgt := 1109) G dL_law_1094 (by decide) (fun z => absurd nI_0 z) (fun _ => ?_)
    have ho4 := ho3.fr F4
    first | refine g_aload_n G dL_law_1097 rfl ?_ | refine g_aload_nN G dL_law_1097 rfl ?_ | refine g_aload_nQ G dL_law_1097 rfl ?_
    refine g_iconst (v := nI 0) G dL_law_1098 (by decide) ?_
    refine g_lald G ho4.1 (by decide) (by rw [ho4.2]; omega) (by omega) (gOut_Z F4) dL_law_1099 ?_
    refine g_iload G dL_law_1100 rfl ?_
    refine g_i2l G dL_law_1102 (rfl) ?_
    refine g_lcmp G dL_law_1103 ?_
    refine g_if_eq (tgt := 1109) G dL_law_1104 (by decide) (fun _ => ?_) (fun z => absurd (lg_cmp_s _) z)
    refine g_goto (tgt := 2423) G dL_law_1109 (by decide) ?_
    exact gW.wid (by omega) (by omega) (kk S4 ad9 b4 M9 _ _ _ _ (gMail_ref hm3 F4) hr4 ok ho4)
  · obtain ⟨rfl, w0, c8, t, hc8, rfl, ht1, ht3, hR⟩ := (ag_byteAt (y := y) h i hd h40 (xs (6 * j + 1))).2 _ _ hX
    obtain rfl : c9 = nI t := gKey_one (by decide) hc hc8
    obtain ⟨v8, m1, m2, hm1, hm2, ct⟩ := hR _ _ hr
    simp only [Option.toList, List.cons_append, List.nil_append]
    refine g_istore G dL_law_1067 (gSt_5 (by first | rfl | exact g_c1_rf)) ?_
    first | refine g_aload_n G dL_law_1069 rfl ?_ | refine g_aload_nN G dL_law_1069 rfl ?_ | refine g_aload_nQ G dL_law_1069 rfl ?_
    first | refine g_aload_n G dL_law_1070 rfl ?_ | refine g_aload_nN G dL_law_1070 rfl ?_ | refine g_aload_nQ G dL_law_1070 rfl ?_
    refine g_iload G dL_law_1071 rfl ?_
    refine g_iconst (v := nI 1) G dL_law_1073 (by decide) ?_
    refine g_iadd G dL_law_1074 (nI_add _ _) ?_
    refine g_sld G X (j := 6 * j + 1) (by omega) (by omega) dL_law_1075 ?_
    refine g_callV (ci := 10) G ct mt_X9_byteAt mi_X9_byteAt ml_L_173 hr.1.kd (by decide) rfl (by omega) (by omega) (by omega) rfl (Nat.le_of_ble_eq_true rfl) dL_law_1076 (fun v4 S4 hp4 => ?_)
    obtain ⟨rfl, t4, b4, hr4, F4⟩ := hp4
    simp only [Option.toList, List.cons_append, List.nil_append]
    refine g_istore G dL_law_1079 (gSt_6 (by first | rfl | exact g_c1_rf)) ?_
    first | refine g_aload_n G dL_law_1081 rfl ?_ | refine g_aload_nN G dL_law_1081 rfl ?_ | refine g_aload_nQ G dL_law_1081 rfl ?_
    refine g_callVp (ci := 10) G (c_X9_thrown _ S4 y (nI t) hr4.1.kd t4) mt_X9_thrown mi_X9_thrown ml_L_127 hr4.1.kd (by decide) rfl (by omega) (by omega) (by omega) rfl (Nat.le_of_ble_eq_true rfl) dL_law_1082 ?_
    refine g_iload G dL_law_1085 rfl ?_
    refine g_icmp_eq (tgt := 1092) G dL_law_1087 (by decide) (fun _ => ?_) (fun z => absurd rfl z)
    refine g_iload G dL_law_1092 rfl ?_
    refine g_if_ne (tgt := 1109) G dL_law_1094 (by decide) (fun _ => ?_) (fun z => absurd z (nI_ne0 (by omega) (by omega)))
    refine g_goto (tgt := 2423) G dL_law_1109 (by decide) ?_
    exact gW.wid (by omega) (by omega) (kk S4 ad b4 M _ _ _ _ (gMail_ref h F4) hr4 (gOk_rf i hd) (ho.fr F4))
set_option maxHeartbeats 4000000 in
set_option maxRecDepth 100000 in
theorem bk_hidden {Γ : gC} {b L x y o : Nat} {xs : Nat → Int32} (G : gOK Γ RL cL_law 12 601024 7293034) (X : gScr Γ b L xs) : gBlk Γ b L x y o 1112 := by
  intro S ad bb M j k sl w5 w6 w7 w8 h hr i hd h40 ho hj hL hk hs kk
  have hb := i.b
  first | refine g_aload_n G dL_law_1112 rfl ?_ | refine g_aload_nN G dL_law_1112 rfl ?_ | refine g_aload_nQ G dL_law_1112 rfl ?_
  first | refine g_aload_n G dL_law_1113 rfl ?_ | refine g_aload_nN G dL_law_1113 rfl ?_ | refine g_aload_nQ G dL_law_1113 rfl ?_
  refine g_iload G dL_law_1114 rfl ?_
  refine g_iconst (v := nI 1) G dL_law_1116 (by decide) ?_
  refine g_iadd G dL_law_1117 (nI_add _ _) ?_
  refine g_sld G X (j := 6 * j + 1) (by omega) (by omega) dL_law_1118 ?_
  first | refine g_aload_n G dL_law_1119 rfl ?_ | refine g_aload_nN G dL_law_1119 rfl ?_ | refine g_aload_nQ G dL_law_1119 rfl ?_
  refine g_iload G dL_law_1120 rfl ?_
  refine g_iconst (v := nI 2) G dL_law_1122 (by decide) ?_
  refine g_iadd G dL_law_1123 (nI_add _ _) ?_
  refine g_sld G X (j := 6 * j + 2) (by omega) (by omega) dL_law_1124 ?_
  first | refine g_aload_n G dL_law_1125 rfl ?_ | refine g_aload_nN G dL_law_1125 rfl ?_ | refine g_aload_nQ G dL_law_1125 rfl ?_
  refine g_callSW G (c_L_hidden h.1.1 (c_X7_hidden _ S x ad M h (xs (6 * j + 1)) (xs (6 * j + 2))) (fun v S1 z => by obtain ⟨q, M9, rfl, ⟨ad9, -, F⟩, -⟩ := (ag_hidden (y := y) h i hd h40 (xs (6 * j + 1)) (xs (6 * j + 2))).1 v S1 z; exact ⟨⟨q, rfl⟩, ho.fr F⟩) (fun E S1 z => by obtain ⟨-, -, c, t, hc, -⟩ := (ag_hidden (y := y) h i hd h40 (xs (6 * j + 1)) (xs (6 * j + 2))).2 E S1 z; simp only [List.mem_cons, Prod.mk.injEq, List.not_mem_nil, or_false] at hc; exact hc.1)) mw_L_hidden ms_L_hidden ml_L_174 (by omega) (by omega) (by omega) rfl (Nat.le_of_ble_eq_true rfl) dL_law_1126 (fun v S1 hp => ?_)
  rcases hp with ⟨q, S2, hP, rfl, rfl⟩ | ⟨E, c9, hX, hc, rfl⟩
  · obtain ⟨q9, M9, e9, ⟨ad9, hm, F⟩, ⟨ok, hwt⟩, hR⟩ := (ag_hidden (y := y) h i hd h40 (xs (6 * j + 1)) (xs (6 * j + 2))).1 _ _ hP
    obtain rfl : q = q9 := by cases e9; rfl
    have hr3 := gRef_18 (gRef_cls hr F) (gFr_18 (o := o) (v := q.toInt64))
    have hm3 := gMail_18 hm (gFr_18 (o := o) (v := q.toInt64))
    have ho3 := (ho.fr F).fr (gFr_18 (o := o) (v := q.toInt64))
    obtain ⟨m1, m2, hm1, hm2, ct⟩ := hR _ _ hr3
    simp only [Option.toList, List.cons_append, List.nil_append]
    refine g_istore G dL_law_1129 (gSt_5 (by first | rfl | exact g_c1_rf)) ?_
    first | refine g_aload_n G dL_law_1131 rfl ?_ | refine g_aload_nN G dL_law_1131 rfl ?_ | refine g_aload_nQ G dL_law_1131 rfl ?_
    first | refine g_aload_n G dL_law_1132 rfl ?_ | refine g_aload_nN G dL_law_1132 rfl ?_ | refine g_aload_nQ G dL_law_1132 rfl ?_
    refine g_iload G dL_law_1133 rfl ?_
    refine g_iconst (v := nI 1) G dL_law_1135 (by decide) ?_
    refine g_iadd G dL_law_1136 (nI_add _ _) ?_
    refine g_sld G X (j := 6 * j + 1) (by omega) (by omega) dL_law_1137 ?_
    first | refine g_aload_n G dL_law_1138 rfl ?_ | refine g_aload_nN G dL_law_1138 rfl ?_ | refine g_aload_nQ G dL_law_1138 rfl ?_
    refine g_iload G dL_law_1139 rfl ?_
    refine g_iconst (v := nI 2) G dL_law_1141 (by decide) ?_
    refine g_iadd G dL_law_1142 (nI_add _ _) ?_
    refine g_sld G X (j := 6 * j + 2) (by omega) (by omega) dL_law_1143 ?_
    refine g_callV (ci := 10) G ct mt_X9_hidden mi_X9_hidden ml_L_176 hr3.1.kd (by decide) rfl (by omega) (by omega) (by omega) rfl (Nat.le_of_ble_eq_true rfl) dL_law_1144 (fun v4 S4 hp4 => ?_)
    obtain ⟨rfl, t4, b4, hr4, F4⟩ := hp4
    simp only [Option.toList, List.cons_append, List.nil_append]
    refine g_istore G dL_law_1147 (gSt_6 (by first | rfl | exact g_c1_rf)) ?_
    first | refine g_aload_n G dL_law_1149 rfl ?_ | refine g_aload_nN G dL_law_1149 rfl ?_ | refine g_aload_nQ G dL_law_1149 rfl ?_
    refine g_callVp (ci := 10) G (c_X9_thrown _ S4 y (nI 0) hr4.1.kd t4) mt_X9_thrown mi_X9_thrown ml_L_127 hr4.1.kd (by decide) rfl (by omega) (by omega) (by omega) rfl (Nat.le_of_ble_eq_true rfl) dL_law_1150 ?_
    refine g_iload G dL_law_1153 rfl ?_
    refine g_icmp_eq (tgt := 1160) G dL_law_1155 (by decide) (fun _ => ?_) (fun z => absurd rfl z)
    refine g_iload G dL_law_1160 rfl ?_
    refine g_if_ne (tgt := 1177) G dL_law_1162 (by decide) (fun z => absurd nI_0 z) (fun _ => ?_)
    have ho4 := ho3.fr F4
    first | refine g_aload_n G dL_law_1165 rfl ?_ | refine g_aload_nN G dL_law_1165 rfl ?_ | refine g_aload_nQ G dL_law_1165 rfl ?_
    refine g_iconst (v := nI 0) G dL_law_1166 (by decide) ?_
    refine g_lald G ho4.1 (by decide) (by rw [ho4.2]; omega) (by omega) (gOut_Z F4) dL_law_1167 ?_
    refine g_iload G dL_law_1168 rfl ?_
    refine g_i2l G dL_law_1170 (rfl) ?_
    refine g_lcmp G dL_law_1171 ?_
    refine g_if_eq (tgt := 1177) G dL_law_1172 (by decide) (fun _ => ?_) (fun z => absurd (lg_cmp_s _) z)
    refine g_goto (tgt := 2423) G dL_law_1177 (by decide) ?_
    exact gW.wid (by omega) (by omega) (kk S4 ad9 b4 M9 _ _ _ _ (gMail_ref hm3 F4) hr4 ok ho4)
  · obtain ⟨rfl, w0, c8, t, hc8, rfl, ht1, ht3, hR⟩ := (ag_hidden (y := y) h i hd h40 (xs (6 * j + 1)) (xs (6 * j + 2))).2 _ _ hX
    obtain rfl : c9 = nI t := gKey_one (by decide) hc hc8
    obtain ⟨v8, m1, m2, hm1, hm2, ct⟩ := hR _ _ hr
    simp only [Option.toList, List.cons_append, List.nil_append]
    refine g_istore G dL_law_1129 (gSt_5 (by first | rfl | exact g_c1_rf)) ?_
    first | refine g_aload_n G dL_law_1131 rfl ?_ | refine g_aload_nN G dL_law_1131 rfl ?_ | refine g_aload_nQ G dL_law_1131 rfl ?_
    first | refine g_aload_n G dL_law_1132 rfl ?_ | refine g_aload_nN G dL_law_1132 rfl ?_ | refine g_aload_nQ G dL_law_1132 rfl ?_
    refine g_iload G dL_law_1133 rfl ?_
    refine g_iconst (v := nI 1) G dL_law_1135 (by decide) ?_
    refine g_iadd G dL_law_1136 (nI_add _ _) ?_
    refine g_sld G X (j := 6 * j + 1) (by omega) (by omega) dL_law_1137 ?_
    first | refine g_aload_n G dL_law_1138 rfl ?_ | refine g_aload_nN G dL_law_1138 rfl ?_ | refine g_aload_nQ G dL_law_1138 rfl ?_
    refine g_iload G dL_law_1139 rfl ?_
    refine g_iconst (v := nI 2) G dL_law_1141 (by decide) ?_
    refine g_iadd G dL_law_1142 (nI_add _ _) ?_
    refine g_sld G X (j := 6 * j + 2) (by omega) (by omega) dL_law_1143 ?_
    refine g_callV (ci := 10) G ct mt_X9_hidden mi_X9_hidden ml_L_176 hr.1.kd (by decide) rfl (by omega) (by omega) (by omega) rfl (Nat.le_of_ble_eq_true rfl) dL_law_1144 (fun v4 S4 hp4 => ?_)
    obtain ⟨rfl, t4, b4, hr4, F4⟩ := hp4
    simp only [Option.toList, List.cons_append, List.nil_append]
    refine g_istore G dL_law_1147 (gSt_6 (by first | rfl | exact g_c1_rf)) ?_
    first | refine g_aload_n G dL_law_1149 rfl ?_ | refine g_aload_nN G dL_law_1149 rfl ?_ | refine g_aload_nQ G dL_law_1149 rfl ?_
    refine g_callVp (ci := 10) G (c_X9_thrown _ S4 y (nI t) hr4.1.kd t4) mt_X9_thrown mi_X9_thrown ml_L_127 hr4.1.kd (by decide) rfl (by omega) (by omega) (by omega) rfl (Nat.le_of_ble_eq_true rfl) dL_law_1150 ?_
    refine g_iload G dL_law_1153 rfl ?_
    refine g_icmp_eq (tgt := 1160) G dL_law_1155 (by decide) (fun _ => ?_) (fun z => absurd rfl z)
    refine g_iload G dL_law_1160 rfl ?_
    refine g_if_ne (tgt := 1177) G dL_law_1162 (by decide) (fun _ => ?_) (fun z => absurd z (nI_ne0 (by omega) (by omega)))
    refine g_goto (tgt := 2423) G dL_law_1177 (by decide) ?_
    exact gW.wid (by omega) (by omega) (kk S4 ad b4 M _ _ _ _ (gMail_ref h F4) hr4 (gOk_rf i hd) (ho.fr F4))
set_option maxHeartbeats 4000000 in
set_option maxRecDepth 100000 in
theorem bk_differs {Γ : gC} {b L x y o : Nat} {xs : Nat → Int32} (G : gOK Γ RL cL_law 12 601024 7293034) (X : gScr Γ b L xs) : gBlk Γ b L x y o 1180 := by
  intro S ad bb M j k sl w5 w6 w7 w8 h hr i hd h40 ho hj hL hk hs kk
  have hb := i.b
  first | refine g_aload_n G dL_law_1180 rfl ?_ | refine g_aload_nN G dL_law_1180 rfl ?_ | refine g_aload_nQ G dL_law_1180 rfl ?_
  first | refine g_aload_n G dL_law_1181 rfl ?_ | refine g_aload_nN G dL_law_1181 rfl ?_ | refine g_aload_nQ G dL_law_1181 rfl ?_
  refine g_iload G dL_law_1182 rfl ?_
  refine g_iconst (v := nI 1) G dL_law_1184 (by decide) ?_
  refine g_iadd G dL_law_1185 (nI_add _ _) ?_
  refine g_sld G X (j := 6 * j + 1) (by omega) (by omega) dL_law_1186 ?_
  first | refine g_aload_n G dL_law_1187 rfl ?_ | refine g_aload_nN G dL_law_1187 rfl ?_ | refine g_aload_nQ G dL_law_1187 rfl ?_
  refine g_iload G dL_law_1188 rfl ?_
  refine g_iconst (v := nI 2) G dL_law_1190 (by decide) ?_
  refine g_iadd G dL_law_1191 (nI_add _ _) ?_
  refine g_sld G X (j := 6 * j + 2) (by omega) (by omega) dL_law_1192 ?_
  first | refine g_aload_n G dL_law_1193 rfl ?_ | refine g_aload_nN G dL_law_1193 rfl ?_ | refine g_aload_nQ G dL_law_1193 rfl ?_
  refine g_iload G dL_law_1194 rfl ?_
  refine g_iconst (v := nI 3) G dL_law_1196 (by decide) ?_
  refine g_iadd G dL_law_1197 (nI_add _ _) ?_
  refine g_sld G X (j := 6 * j + 3) (by omega) (by omega) dL_law_1198 ?_
  first | refine g_aload_n G dL_law_1199 rfl ?_ | refine g_aload_nN G dL_law_1199 rfl ?_ | refine g_aload_nQ G dL_law_1199 rfl ?_
  refine g_callSW G (c_L_differs h.1.1 (c_X7_differs _ S x ad M h (xs (6 * j + 1)) (xs (6 * j + 2)) (xs (6 * j + 3))) (fun v S1 z => by obtain ⟨q, M9, rfl, ⟨ad9, -, F⟩, -⟩ := (ag_differs (y := y) h i hd h40 (xs (6 * j + 1)) (xs (6 * j + 2)) (xs (6 * j + 3))).1 v S1 z; exact ⟨⟨q, rfl⟩, ho.fr F⟩) (fun E S1 z => by obtain ⟨-, -, c, t, hc, -⟩ := (ag_differs (y := y) h i hd h40 (xs (6 * j + 1)) (xs (6 * j + 2)) (xs (6 * j + 3))).2 E S1 z; simp only [List.mem_cons, Prod.mk.injEq, List.not_mem_nil, or_false] at hc; exact hc.1)) mw_L_differs ms_L_differs ml_L_177 (by omega) (by omega) (by omega) rfl (Nat.le_of_ble_eq_true rfl) dL_law_1200 (fun v S1 hp => ?_)
  rcases hp with ⟨q, S2, hP, rfl, rfl⟩ | ⟨E, c9, hX, hc, rfl⟩
  · obtain ⟨q9, M9, e9, ⟨ad9, hm, F⟩, ⟨ok, hwt⟩, hR⟩ := (ag_differs (y := y) h i hd h40 (xs (6 * j + 1)) (xs (6 * j + 2)) (xs (6 * j + 3))).1 _ _ hP
    obtain rfl : q = q9 := by cases e9; rfl
    have hr3 := gRef_18 (gRef_cls hr F) (gFr_18 (o := o) (v := q.toInt64))
    have hm3 := gMail_18 hm (gFr_18 (o := o) (v := q.toInt64))
    have ho3 := (ho.fr F).fr (gFr_18 (o := o) (v := q.toInt64))
    obtain ⟨m1, m2, hm1, hm2, ct⟩ := hR _ _ hr3
    simp only [Option.toList, List.cons_append, List.nil_append]
    refine g_istore G dL_law_1203 (gSt_5 (by first | rfl | exact g_c1_rf)) ?_
    first | refine g_aload_n G dL_law_1205 rfl ?_ | refine g_aload_nN G dL_law_1205 rfl ?_ | refine g_aload_nQ G dL_law_1205 rfl ?_
    first | refine g_aload_n G dL_law_1206 rfl ?_ | refine g_aload_nN G dL_law_1206 rfl ?_ | refine g_aload_nQ G dL_law_1206 rfl ?_
    refine g_iload G dL_law_1207 rfl ?_
    refine g_iconst (v := nI 1) G dL_law_1209 (by decide) ?_
    refine g_iadd G dL_law_1210 (nI_add _ _) ?_
    refine g_sld G X (j := 6 * j + 1) (by omega) (by omega) dL_law_1211 ?_
    first | refine g_aload_n G dL_law_1212 rfl ?_ | refine g_aload_nN G dL_law_1212 rfl ?_ | refine g_aload_nQ G dL_law_1212 rfl ?_
    refine g_iload G dL_law_1213 rfl ?_
    refine g_iconst (v := nI 2) G dL_law_1215 (by decide) ?_
    refine g_iadd G dL_law_1216 (nI_add _ _) ?_
    refine g_sld G X (j := 6 * j + 2) (by omega) (by omega) dL_law_1217 ?_
    first | refine g_aload_n G dL_law_1218 rfl ?_ | refine g_aload_nN G dL_law_1218 rfl ?_ | refine g_aload_nQ G dL_law_1218 rfl ?_
    refine g_iload G dL_law_1219 rfl ?_
    refine g_iconst (v := nI 3) G dL_law_1221 (by decide) ?_
    refine g_iadd G dL_law_1222 (nI_add _ _) ?_
    refine g_sld G X (j := 6 * j + 3) (by omega) (by omega) dL_law_1223 ?_
    refine g_callV (ci := 10) G ct mt_X9_differs mi_X9_differs ml_L_180 hr3.1.kd (by decide) rfl (by omega) (by omega) (by omega) rfl (Nat.le_of_ble_eq_true rfl) dL_law_1224 (fun v4 S4 hp4 => ?_)
    obtain ⟨rfl, t4, b4, hr4, F4⟩ := hp4
    simp only [Option.toList, List.cons_append, List.nil_append]
    refine g_istore G dL_law_1227 (gSt_6 (by first | rfl | exact g_c1_rf)) ?_
    first | refine g_aload_n G dL_law_1229 rfl ?_ | refine g_aload_nN G dL_law_1229 rfl ?_ | refine g_aload_nQ G dL_law_1229 rfl ?_
    refine g_callVp (ci := 10) G (c_X9_thrown _ S4 y (nI 0) hr4.1.kd t4) mt_X9_thrown mi_X9_thrown ml_L_127 hr4.1.kd (by decide) rfl (by omega) (by omega) (by omega) rfl (Nat.le_of_ble_eq_true rfl) dL_law_1230 ?_
    refine g_iload G dL_law_1233 rfl ?_
    refine g_icmp_eq (tgt := 1240) G dL_law_1235 (by decide) (fun _ => ?_) (fun z => absurd rfl z)
    refine g_iload G dL_law_1240 rfl ?_
    refine g_if_ne (tgt := 1257) G dL_law_1242 (by decide) (fun z => absurd nI_0 z) (fun _ => ?_)
    have ho4 := ho3.fr F4
    first | refine g_aload_n G dL_law_1245 rfl ?_ | refine g_aload_nN G dL_law_1245 rfl ?_ | refine g_aload_nQ G dL_law_1245 rfl ?_
    refine g_iconst (v := nI 0) G dL_law_1246 (by decide) ?_
    refine g_lald G ho4.1 (by decide) (by rw [ho4.2]; omega) (by omega) (gOut_Z F4) dL_law_1247 ?_
    refine g_iload G dL_law_1248 rfl ?_
    refine g_i2l G dL_law_1250 (rfl) ?_
    refine g_lcmp G dL_law_1251 ?_
    refine g_if_eq (tgt := 1257) G dL_law_1252 (by decide) (fun _ => ?_) (fun z => absurd (lg_cmp_s _) z)
    refine g_goto (tgt := 2423) G dL_law_1257 (by decide) ?_
    exact gW.wid (by omega) (by omega) (kk S4 ad9 b4 M9 _ _ _ _ (gMail_ref hm3 F4) hr4 ok ho4)
  · obtain ⟨rfl, w0, c8, t, hc8, rfl, ht1, ht3, hR⟩ := (ag_differs (y := y) h i hd h40 (xs (6 * j + 1)) (xs (6 * j + 2)) (xs (6 * j + 3))).2 _ _ hX
    obtain rfl : c9 = nI t := gKey_one (by decide) hc hc8
    obtain ⟨v8, m1, m2, hm1, hm2, ct⟩ := hR _ _ hr
    simp only [Option.toList, List.cons_append, List.nil_append]
    refine g_istore G dL_law_1203 (gSt_5 (by first | rfl | exact g_c1_rf)) ?_
    first | refine g_aload_n G dL_law_1205 rfl ?_ | refine g_aload_nN G dL_law_1205 rfl ?_ | refine g_aload_nQ G dL_law_1205 rfl ?_
    first | refine g_aload_n G dL_law_1206 rfl ?_ | refine g_aload_nN G dL_law_1206 rfl ?_ | refine g_aload_nQ G dL_law_1206 rfl ?_
    refine g_iload G dL_law_1207 rfl ?_
    refine g_iconst (v := nI 1) G dL_law_1209 (by decide) ?_
    refine g_iadd G dL_law_1210 (nI_add _ _) ?_
    refine g_sld G X (j := 6 * j + 1) (by omega) (by omega) dL_law_1211 ?_
    first | refine g_aload_n G dL_law_1212 rfl ?_ | refine g_aload_nN G dL_law_1212 rfl ?_ | refine g_aload_nQ G dL_law_1212 rfl ?_
    refine g_iload G dL_law_1213 rfl ?_
    refine g_iconst (v := nI 2) G dL_law_1215 (by decide) ?_
    refine g_iadd G dL_law_1216 (nI_add _ _) ?_
    refine g_sld G X (j := 6 * j + 2) (by omega) (by omega) dL_law_1217 ?_
    first | refine g_aload_n G dL_law_1218 rfl ?_ | refine g_aload_nN G dL_law_1218 rfl ?_ | refine g_aload_nQ G dL_law_1218 rfl ?_
    refine g_iload G dL_law_1219 rfl ?_
    refine g_iconst (v := nI 3) G dL_law_1221 (by decide) ?_
    refine g_iadd G dL_law_1222 (nI_add _ _) ?_
    refine g_sld G X (j := 6 * j + 3) (by omega) (by omega) dL_law_1223 ?_
    refine g_callV (ci := 10) G ct mt_X9_differs mi_X9_differs ml_L_180 hr.1.kd (by decide) rfl (by omega) (by omega) (by omega) rfl (Nat.le_of_ble_eq_true rfl) dL_law_1224 (fun v4 S4 hp4 => ?_)
    obtain ⟨rfl, t4, b4, hr4, F4⟩ := hp4
    simp only [Option.toList, List.cons_append, List.nil_append]
    refine g_istore G dL_law_1227 (gSt_6 (by first | rfl | exact g_c1_rf)) ?_
    first | refine g_aload_n G dL_law_1229 rfl ?_ | refine g_aload_nN G dL_law_1229 rfl ?_ | refine g_aload_nQ G dL_law_1229 rfl ?_
    refine g_callVp (ci := 10) G (c_X9_thrown _ S4 y (nI t) hr4.1.kd t4) mt_X9_thrown mi_X9_thrown ml_L_127 hr4.1.kd (by decide) rfl (by omega) (by omega) (by omega) rfl (Nat.le_of_ble_eq_true rfl) dL_law_1230 ?_
    refine g_iload G dL_law_1233 rfl ?_
    refine g_icmp_eq (tgt := 1240) G dL_law_1235 (by decide) (fun _ => ?_) (fun z => absurd rfl z)
    refine g_iload G dL_law_1240 rfl ?_
    refine g_if_ne (tgt := 1257) G dL_law_1242 (by decide) (fun _ => ?_) (fun z => absurd z (nI_ne0 (by omega) (by omega)))
    refine g_goto (tgt := 2423) G dL_law_1257 (by decide) ?_
    exact gW.wid (by omega) (by omega) (kk S4 ad b4 M _ _ _ _ (gMail_ref h F4) hr4 (gOk_rf i hd) (ho.fr F4))
set_option maxHeartbeats 4000000 in
set_option maxRecDepth 100000 in
theorem bk_find {Γ : gC} {b L x y o : Nat} {xs : Nat → Int32} (G : gOK Γ RL cL_law 12 601024 7293034) (X : gScr Γ b L xs) : gBlk Γ b L x y o 1260 := by
  intro S ad bb M j k sl w5 w6 w7 w8 h hr i hd h40 ho hj hL hk hs kk
  have hb := i.b
  first | refine g_aload_n G dL_law_1260 rfl ?_ | refine g_aload_nN G dL_law_1260 rfl ?_ | refine g_aload_nQ G dL_law_1260 rfl ?_
  first | refine g_aload_n G dL_law_1261 rfl ?_ | refine g_aload_nN G dL_law_1261 rfl ?_ | refine g_aload_nQ G dL_law_1261 rfl ?_
  refine g_iload G dL_law_1262 rfl ?_
  refine g_iconst (v := nI 1) G dL_law_1264 (by decide) ?_
  refine g_iadd G dL_law_1265 (nI_add _ _) ?_
  refine g_sld G X (j := 6 * j + 1) (by omega) (by omega) dL_law_1266 ?_
  first | refine g_aload_n G dL_law_1267 rfl ?_ | refine g_aload_nN G dL_law_1267 rfl ?_ | refine g_aload_nQ G dL_law_1267 rfl ?_
  refine g_iload G dL_law_1268 rfl ?_
  refine g_iconst (v := nI 2) G dL_law_1270 (by decide) ?_
  refine g_iadd G dL_law_1271 (nI_add _ _) ?_
  refine g_sld G X (j := 6 * j + 2) (by omega) (by omega) dL_law_1272 ?_
  first | refine g_aload_n G dL_law_1273 rfl ?_ | refine g_aload_nN G dL_law_1273 rfl ?_ | refine g_aload_nQ G dL_law_1273 rfl ?_
  refine g_callSW G (c_L_find h.1.1 (c_X7_find _ S x ad M h (xs (6 * j + 1)) (xs (6 * j + 2))) (fun v S1 z => by obtain ⟨q, M9, rfl, ⟨ad9, -, F⟩, -⟩ := (ag_find (y := y) h i hd h40 (xs (6 * j + 1)) (xs (6 * j + 2))).1 v S1 z; exact ⟨⟨q, rfl⟩, ho.fr F⟩) (fun E S1 z => by obtain ⟨-, -, c, t, hc, -⟩ := (ag_find (y := y) h i hd h40 (xs (6 * j + 1)) (xs (6 * j + 2))).2 E S1 z; simp only [List.mem_cons, Prod.mk.injEq, List.not_mem_nil, or_false] at hc; exact hc.1)) mw_L_find ms_L_find ml_L_181 (by omega) (by omega) (by omega) rfl (Nat.le_of_ble_eq_true rfl) dL_law_1274 (fun v S1 hp => ?_)
  rcases hp with ⟨q, S2, hP, rfl, rfl⟩ | ⟨E, c9, hX, hc, rfl⟩
  · obtain ⟨q9, M9, e9, ⟨ad9, hm, F⟩, ⟨ok, hwt⟩, hR⟩ := (ag_find (y := y) h i hd h40 (xs (6 * j + 1)) (xs (6 * j + 2))).1 _ _ hP
    obtain rfl : q = q9 := by cases e9; rfl
    have hr3 := gRef_18 (gRef_cls hr F) (gFr_18 (o := o) (v := q.toInt64))
    have hm3 := gMail_18 hm (gFr_18 (o := o) (v := q.toInt64))
    have ho3 := (ho.fr F).fr (gFr_18 (o := o) (v := q.toInt64))
    obtain ⟨m1, m2, hm1, hm2, ct⟩ := hR _ _ hr3
    simp only [Option.toList, List.cons_append, List.nil_append]
    refine g_istore G dL_law_1277 (gSt_5 (by first | rfl | exact g_c1_rf)) ?_
    first | refine g_aload_n G dL_law_1279 rfl ?_ | refine g_aload_nN G dL_law_1279 rfl ?_ | refine g_aload_nQ G dL_law_1279 rfl ?_
    first | refine g_aload_n G dL_law_1280 rfl ?_ | refine g_aload_nN G dL_law_1280 rfl ?_ | refine g_aload_nQ G dL_law_1280 rfl ?_
    refine g_iload G dL_law_1281 rfl ?_
    refine g_iconst (v := nI 1) G dL_law_1283 (by decide) ?_
    refine g_iadd G dL_law_1284 (nI_add _ _) ?_
    refine g_sld G X (j := 6 * j + 1) (by omega) (by omega) dL_law_1285 ?_
    first | refine g_aload_n G dL_law_1286 rfl ?_ | refine g_aload_nN G dL_law_1286 rfl ?_ | refine g_aload_nQ G dL_law_1286 rfl ?_
    refine g_iload G dL_law_1287 rfl ?_
    refine g_iconst (v := nI 2) G dL_law_1289 (by decide) ?_
    refine g_iadd G dL_law_1290 (nI_add _ _) ?_
    refine g_sld G X (j := 6 * j + 2) (by omega) (by omega) dL_law_1291 ?_
    refine g_callV (ci := 10) G ct mt_X9_find mi_X9_find ml_L_183 hr3.1.kd (by decide) rfl (by omega) (by omega) (by omega) rfl (Nat.le_of_ble_eq_true rfl) dL_law_1292 (fun v4 S4 hp4 => ?_)
    obtain ⟨rfl, t4, b4, hr4, F4⟩ := hp4
    simp only [Option.toList, List.cons_append, List.nil_append]
    refine g_istore G dL_law_1295 (gSt_6 (by first | rfl | exact g_c1_rf)) ?_
    first | refine g_aload_n G dL_law_1297 rfl ?_ | refine g_aload_nN G dL_law_1297 rfl ?_ | refine g_aload_nQ G dL_law_1297 rfl ?_
    refine g_callVp (ci := 10) G (c_X9_thrown _ S4 y (nI 0) hr4.1.kd t4) mt_X9_thrown mi_X9_thrown ml_L_127 hr4.1.kd (by decide) rfl (by omega) (by omega) (by omega) rfl (Nat.le_of_ble_eq_true rfl) dL_law_1298 ?_
    refine g_iload G dL_law_1301 rfl ?_
    refine g_icmp_eq (tgt := 1308) G dL_law_1303 (by decide) (fun _ => ?_) (fun z => absurd rfl z)
    refine g_iload G dL_law_1308 rfl ?_
    refine g_if_ne (tgt := 1325) G dL_law_1310 (by decide) (fun z => absurd nI_0 z) (fun _ => ?_)
    have ho4 := ho3.fr F4
    first | refine g_aload_n G dL_law_1313 rfl ?_ | refine g_aload_nN G dL_law_1313 rfl ?_ | refine g_aload_nQ G dL_law_1313 rfl ?_
    refine g_iconst (v := nI 0) G dL_law_1314 (by decide) ?_
    refine g_lald G ho4.1 (by decide) (by rw [ho4.2]; omega) (by omega) (gOut_Z F4) dL_law_1315 ?_
    refine g_iload G dL_law_1316 rfl ?_
    refine g_i2l G dL_law_1318 (rfl) ?_
    refine g_lcmp G dL_law_1319 ?_
    refine g_if_eq (tgt := 1325) G dL_law_1320 (by decide) (fun _ => ?_) (fun z => absurd (lg_cmp_s _) z)
    refine g_goto (tgt := 2423) G dL_law_1325 (by decide) ?_
    exact gW.wid (by omega) (by omega) (kk S4 ad9 b4 M9 _ _ _ _ (gMail_ref hm3 F4) hr4 ok ho4)
  · obtain ⟨rfl, w0, c8, t, hc8, rfl, ht1, ht3, hR⟩ := (ag_find (y := y) h i hd h40 (xs (6 * j + 1)) (xs (6 * j + 2))).2 _ _ hX
    obtain rfl : c9 = nI t := gKey_one (by decide) hc hc8
    obtain ⟨v8, m1, m2, hm1, hm2, ct⟩ := hR _ _ hr
    simp only [Option.toList, List.cons_append, List.nil_append]
    refine g_istore G dL_law_1277 (gSt_5 (by first | rfl | exact g_c1_rf)) ?_
    first | refine g_aload_n G dL_law_1279 rfl ?_ | refine g_aload_nN G dL_law_1279 rfl ?_ | refine g_aload_nQ G dL_law_1279 rfl ?_
    first | refine g_aload_n G dL_law_1280 rfl ?_ | refine g_aload_nN G dL_law_1280 rfl ?_ | refine g_aload_nQ G dL_law_1280 rfl ?_
    refine g_iload G dL_law_1281 rfl ?_
    refine g_iconst (v := nI 1) G dL_law_1283 (by decide) ?_
    refine g_iadd G dL_law_1284 (nI_add _ _) ?_
    refine g_sld G X (j := 6 * j + 1) (by omega) (by omega) dL_law_1285 ?_
    first | refine g_aload_n G dL_law_1286 rfl ?_ | refine g_aload_nN G dL_law_1286 rfl ?_ | refine g_aload_nQ G dL_law_1286 rfl ?_
    refine g_iload G dL_law_1287 rfl ?_
    refine g_iconst (v := nI 2) G dL_law_1289 (by decide) ?_
    refine g_iadd G dL_law_1290 (nI_add _ _) ?_
    refine g_sld G X (j := 6 * j + 2) (by omega) (by omega) dL_law_1291 ?_
    refine g_callV (ci := 10) G ct mt_X9_find mi_X9_find ml_L_183 hr.1.kd (by decide) rfl (by omega) (by omega) (by omega) rfl (Nat.le_of_ble_eq_true rfl) dL_law_1292 (fun v4 S4 hp4 => ?_)
    obtain ⟨rfl, t4, b4, hr4, F4⟩ := hp4
    simp only [Option.toList, List.cons_append, List.nil_append]
    refine g_istore G dL_law_1295 (gSt_6 (by first | rfl | exact g_c1_rf)) ?_
    first | refine g_aload_n G dL_law_1297 rfl ?_ | refine g_aload_nN G dL_law_1297 rfl ?_ | refine g_aload_nQ G dL_law_1297 rfl ?_
    refine g_callVp (ci := 10) G (c_X9_thrown _ S4 y (nI t) hr4.1.kd t4) mt_X9_thrown mi_X9_thrown ml_L_127 hr4.1.kd (by decide) rfl (by omega) (by omega) (by omega) rfl (Nat.le_of_ble_eq_true rfl) dL_law_1298 ?_
    refine g_iload G dL_law_1301 rfl ?_
    refine g_icmp_eq (tgt := 1308) G dL_law_1303 (by decide) (fun _ => ?_) (fun z => absurd rfl z)
    refine g_iload G dL_law_1308 rfl ?_
    refine g_if_ne (tgt := 1325) G dL_law_1310 (by decide) (fun _ => ?_) (fun z => absurd z (nI_ne0 (by omega) (by omega)))
    refine g_goto (tgt := 2423) G dL_law_1325 (by decide) ?_
    exact gW.wid (by omega) (by omega) (kk S4 ad b4 M _ _ _ _ (gMail_ref h F4) hr4 (gOk_rf i hd) (ho.fr F4))
