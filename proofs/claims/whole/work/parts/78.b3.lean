/-! ===== the law: blocks ===== -/
set_option maxHeartbeats 4000000 in
set_option maxRecDepth 100000 in
theorem bk_exhibit {Γ : gC} {b L x y o : Nat} {xs : Nat → Int32} (G : gOK Γ RL cL_law 12 601024 7293034) (X : gScr Γ b L xs) : gBlk Γ b L x y o 1848 := by
  intro S ad bb M j k sl w5 w6 w7 w8 h hr i hd h40 ho hj hL hk hs kk
  have hb := i.b
  first | refine g_aload_n G dL_law_1848 rfl ?_ | refine g_aload_nN G dL_law_1848 rfl ?_ | refine g_aload_nQ G dL_law_1848 rfl ?_
  first | refine g_aload_n G dL_law_1849 rfl ?_ | refine g_aload_nN G dL_law_1849 rfl ?_ | refine g_aload_nQ G dL_law_1849 rfl ?_
  refine g_iload G dL_law_1850 rfl ?_
  refine g_iconst (v := nI 1) G dL_law_1852 (by decide) ?_
  refine g_iadd G dL_law_1853 (nI_add _ _) ?_
  refine g_sld G X (j := 6 * j + 1) (by omega) (by omega) dL_law_1854 ?_
  first | refine g_aload_n G dL_law_1855 rfl ?_ | refine g_aload_nN G dL_law_1855 rfl ?_ | refine g_aload_nQ G dL_law_1855 rfl ?_
  refine g_iload G dL_law_1856 rfl ?_
  refine g_iconst (v := nI 2) G dL_law_1858 (by decide) ?_
  refine g_iadd G dL_law_1859 (nI_add _ _) ?_
  refine g_sld G X (j := 6 * j + 2) (by omega) (by omega) dL_law_1860 ?_
  first | refine g_aload_n G dL_law_1861 rfl ?_ | refine g_aload_nN G dL_law_1861 rfl ?_ | refine g_aload_nQ G dL_law_1861 rfl ?_
  refine g_callSW G (c_L_exhibit h.1.1 (c_X7_exhibit _ S x ad M h (xs (6 * j + 1)) (xs (6 * j + 2))) (fun v S1 z => by obtain ⟨q, M9, rfl, ⟨ad9, -, F⟩, -⟩ := (ag_exhibit (y := y) h i hd h40 (xs (6 * j + 1)) (xs (6 * j + 2))).1 v S1 z; exact ⟨⟨q, rfl⟩, ho.fr F⟩) (fun E S1 z => by obtain ⟨-, -, c, t, hc, -⟩ := (ag_exhibit (y := y) h i hd h40 (xs (6 * j + 1)) (xs (6 * j + 2))).2 E S1 z; simp only [List.mem_cons, Prod.mk.injEq, List.not_mem_nil, or_false] at hc; exact hc.1)) mw_L_exhibit ms_L_exhibit ml_L_208 (by omega) (by omega) (by omega) rfl (Nat.le_of_ble_eq_true rfl) dL_law_1862 (fun v S1 hp => ?_)
  rcases hp with ⟨q, S2, hP, rfl, rfl⟩ | ⟨E, c9, hX, hc, rfl⟩
  · obtain ⟨q9, M9, e9, ⟨ad9, hm, F⟩, ⟨ok, hwt⟩, hR⟩ := (ag_exhibit (y := y) h i hd h40 (xs (6 * j + 1)) (xs (6 * j + 2))).1 _ _ hP
    obtain rfl : q = q9 := by cases e9; rfl
    have hr3 := gRef_18 (gRef_cls hr F) (gFr_18 (o := o) (v := q.toInt64))
    have hm3 := gMail_18 hm (gFr_18 (o := o) (v := q.toInt64))
    have ho3 := (ho.fr F).fr (gFr_18 (o := o) (v := q.toInt64))
    obtain ⟨m1, m2, hm1, hm2, ct⟩ := hR _ _ hr3
    simp only [Option.toList, List.cons_append, List.nil_append]
    refine g_istore G dL_law_1865 (gSt_5 (by first | rfl | exact g_c1_rf)) ?_
    first | refine g_aload_n G dL_law_1867 rfl ?_ | refine g_aload_nN G dL_law_1867 rfl ?_ | refine g_aload_nQ G dL_law_1867 rfl ?_
    first | refine g_aload_n G dL_law_1868 rfl ?_ | refine g_aload_nN G dL_law_1868 rfl ?_ | refine g_aload_nQ G dL_law_1868 rfl ?_
    refine g_iload G dL_law_1869 rfl ?_
    refine g_iconst (v := nI 1) G dL_law_1871 (by decide) ?_
    refine g_iadd G dL_law_1872 (nI_add _ _) ?_
    refine g_sld G X (j := 6 * j + 1) (by omega) (by omega) dL_law_1873 ?_
    first | refine g_aload_n G dL_law_1874 rfl ?_ | refine g_aload_nN G dL_law_1874 rfl ?_ | refine g_aload_nQ G dL_law_1874 rfl ?_
    refine g_iload G dL_law_1875 rfl ?_
    refine g_iconst (v := nI 2) G dL_law_1877 (by decide) ?_
    refine g_iadd G dL_law_1878 (nI_add _ _) ?_
    refine g_sld G X (j := 6 * j + 2) (by omega) (by omega) dL_law_1879 ?_
    refine g_callV (ci := 10) G ct mt_X9_exhibit mi_X9_exhibit ml_L_210 hr3.1.kd (by decide) rfl (by omega) (by omega) (by omega) rfl (Nat.le_of_ble_eq_true rfl) dL_law_1880 (fun v4 S4 hp4 => ?_)
    obtain ⟨rfl, t4, b4, hr4, F4⟩ := hp4
    simp only [Option.toList, List.cons_append, List.nil_append]
    refine g_istore G dL_law_1883 (gSt_6 (by first | rfl | exact g_c1_rf)) ?_
    first | refine g_aload_n G dL_law_1885 rfl ?_ | refine g_aload_nN G dL_law_1885 rfl ?_ | refine g_aload_nQ G dL_law_1885 rfl ?_
    refine g_callVp (ci := 10) G (c_X9_thrown _ S4 y (nI 0) hr4.1.kd t4) mt_X9_thrown mi_X9_thrown ml_L_127 hr4.1.kd (by decide) rfl (by omega) (by omega) (by omega) rfl (Nat.le_of_ble_eq_true rfl) dL_law_1886 ?_
    refine g_iload G dL_law_1889 rfl ?_
    refine g_icmp_eq (tgt := 1896) G dL_law_1891 (by decide) (fun _ => ?_) (fun z => absurd rfl z)
    refine g_iload G dL_law_1896 rfl ?_
    refine g_if_ne (tgt := 1913) G dL_law_1898 (by decide) (fun z => absurd nI_0 z) (fun _ => ?_)
    have ho4 := ho3.fr F4
    first | refine g_aload_n G dL_law_1901 rfl ?_ | refine g_aload_nN G dL_law_1901 rfl ?_ | refine g_aload_nQ G dL_law_1901 rfl ?_
    refine g_iconst (v := nI 0) G dL_law_1902 (by decide) ?_
    refine g_lald G ho4.1 (by decide) (by rw [ho4.2]; omega) (by omega) (gOut_Z F4) dL_law_1903 ?_
    refine g_iload G dL_law_1904 rfl ?_
    refine g_i2l G dL_law_1906 (rfl) ?_
    refine g_lcmp G dL_law_1907 ?_
    refine g_if_eq (tgt := 1913) G dL_law_1908 (by decide) (fun _ => ?_) (fun z => absurd (lg_cmp_s _) z)
    refine g_goto (tgt := 2423) G dL_law_1913 (by decide) ?_
    exact gW.wid (by omega) (by omega) (kk S4 ad9 b4 M9 _ _ _ _ (gMail_ref hm3 F4) hr4 ok ho4)
  · obtain ⟨rfl, w0, c8, t, hc8, rfl, ht1, ht3, hR⟩ := (ag_exhibit (y := y) h i hd h40 (xs (6 * j + 1)) (xs (6 * j + 2))).2 _ _ hX
    obtain rfl : c9 = nI t := gKey_one (by decide) hc hc8
    obtain ⟨v8, m1, m2, hm1, hm2, ct⟩ := hR _ _ hr
    simp only [Option.toList, List.cons_append, List.nil_append]
    refine g_istore G dL_law_1865 (gSt_5 (by first | rfl | exact g_c1_rf)) ?_
    first | refine g_aload_n G dL_law_1867 rfl ?_ | refine g_aload_nN G dL_law_1867 rfl ?_ | refine g_aload_nQ G dL_law_1867 rfl ?_
    first | refine g_aload_n G dL_law_1868 rfl ?_ | refine g_aload_nN G dL_law_1868 rfl ?_ | refine g_aload_nQ G dL_law_1868 rfl ?_
    refine g_iload G dL_law_1869 rfl ?_
    refine g_iconst (v := nI 1) G dL_law_1871 (by decide) ?_
    refine g_iadd G dL_law_1872 (nI_add _ _) ?_
    refine g_sld G X (j := 6 * j + 1) (by omega) (by omega) dL_law_1873 ?_
    first | refine g_aload_n G dL_law_1874 rfl ?_ | refine g_aload_nN G dL_law_1874 rfl ?_ | refine g_aload_nQ G dL_law_1874 rfl ?_
    refine g_iload G dL_law_1875 rfl ?_
    refine g_iconst (v := nI 2) G dL_law_1877 (by decide) ?_
    refine g_iadd G dL_law_1878 (nI_add _ _) ?_
    refine g_sld G X (j := 6 * j + 2) (by omega) (by omega) dL_law_1879 ?_
    refine g_callV (ci := 10) G ct mt_X9_exhibit mi_X9_exhibit ml_L_210 hr.1.kd (by decide) rfl (by omega) (by omega) (by omega) rfl (Nat.le_of_ble_eq_true rfl) dL_law_1880 (fun v4 S4 hp4 => ?_)
    obtain ⟨rfl, t4, b4, hr4, F4⟩ := hp4
    simp only [Option.toList, List.cons_append, List.nil_append]
    refine g_istore G dL_law_1883 (gSt_6 (by first | rfl | exact g_c1_rf)) ?_
    first | refine g_aload_n G dL_law_1885 rfl ?_ | refine g_aload_nN G dL_law_1885 rfl ?_ | refine g_aload_nQ G dL_law_1885 rfl ?_
    refine g_callVp (ci := 10) G (c_X9_thrown _ S4 y (nI t) hr4.1.kd t4) mt_X9_thrown mi_X9_thrown ml_L_127 hr4.1.kd (by decide) rfl (by omega) (by omega) (by omega) rfl (Nat.le_of_ble_eq_true rfl) dL_law_1886 ?_
    refine g_iload G dL_law_1889 rfl ?_
    refine g_icmp_eq (tgt := 1896) G dL_law_1891 (by decide) (fun _ => ?_) (fun z => absurd rfl z)
    refine g_iload G dL_law_1896 rfl ?_
    refine g_if_ne (tgt := 1913) G dL_law_1898 (by decide) (fun _ => ?_) (fun z => absurd z (nI_ne0 (by omega) (by omega)))
    refine g_goto (tgt := 2423) G dL_law_1913 (by decide) ?_
    exact gW.wid (by omega) (by omega) (kk S4 ad b4 M _ _ _ _ (gMail_ref h F4) hr4 (gOk_rf i hd) (ho.fr F4))
set_option maxHeartbeats 4000000 in
set_option maxRecDepth 100000 in
theorem bk_link {Γ : gC} {b L x y o : Nat} {xs : Nat → Int32} (G : gOK Γ RL cL_law 12 601024 7293034) (X : gScr Γ b L xs) : gBlk Γ b L x y o 1916 := by
  intro S ad bb M j k sl w5 w6 w7 w8 h hr i hd h40 ho hj hL hk hs kk
  have hb := i.b
  first | refine g_aload_n G dL_law_1916 rfl ?_ | refine g_aload_nN G dL_law_1916 rfl ?_ | refine g_aload_nQ G dL_law_1916 rfl ?_
  first | refine g_aload_n G dL_law_1917 rfl ?_ | refine g_aload_nN G dL_law_1917 rfl ?_ | refine g_aload_nQ G dL_law_1917 rfl ?_
  refine g_iload G dL_law_1918 rfl ?_
  refine g_iconst (v := nI 1) G dL_law_1920 (by decide) ?_
  refine g_iadd G dL_law_1921 (nI_add _ _) ?_
  refine g_sld G X (j := 6 * j + 1) (by omega) (by omega) dL_law_1922 ?_
  first | refine g_aload_n G dL_law_1923 rfl ?_ | refine g_aload_nN G dL_law_1923 rfl ?_ | refine g_aload_nQ G dL_law_1923 rfl ?_
  refine g_iload G dL_law_1924 rfl ?_
  refine g_iconst (v := nI 2) G dL_law_1926 (by decide) ?_
  refine g_iadd G dL_law_1927 (nI_add _ _) ?_
  refine g_sld G X (j := 6 * j + 2) (by omega) (by omega) dL_law_1928 ?_
  first | refine g_aload_n G dL_law_1929 rfl ?_ | refine g_aload_nN G dL_law_1929 rfl ?_ | refine g_aload_nQ G dL_law_1929 rfl ?_
  refine g_iload G dL_law_1930 rfl ?_
  refine g_iconst (v := nI 3) G dL_law_1932 (by decide) ?_
  refine g_iadd G dL_law_1933 (nI_add _ _) ?_
  refine g_sld G X (j := 6 * j + 3) (by omega) (by omega) dL_law_1934 ?_
  first | refine g_aload_n G dL_law_1935 rfl ?_ | refine g_aload_nN G dL_law_1935 rfl ?_ | refine g_aload_nQ G dL_law_1935 rfl ?_
  refine g_callSW G (c_L_link h.1.1 (c_X7_link _ S x ad M h (xs (6 * j + 1)) (xs (6 * j + 2)) (xs (6 * j + 3))) (fun v S1 z => by obtain ⟨q, M9, rfl, ⟨ad9, -, F⟩, -⟩ := (ag_link (y := y) h i hd h40 (xs (6 * j + 1)) (xs (6 * j + 2)) (xs (6 * j + 3))).1 v S1 z; exact ⟨⟨q, rfl⟩, ho.fr F⟩) (fun E S1 z => by obtain ⟨-, -, c, t, hc, -⟩ := (ag_link (y := y) h i hd h40 (xs (6 * j + 1)) (xs (6 * j + 2)) (xs (6 * j + 3))).2 E S1 z; simp only [List.mem_cons, Prod.mk.injEq, List.not_mem_nil, or_false] at hc; exact hc.1)) mw_L_link ms_L_link ml_L_211 (by omega) (by omega) (by omega) rfl (Nat.le_of_ble_eq_true rfl) dL_law_1936 (fun v S1 hp => ?_)
  rcases hp with ⟨q, S2, hP, rfl, rfl⟩ | ⟨E, c9, hX, hc, rfl⟩
  · obtain ⟨q9, M9, e9, ⟨ad9, hm, F⟩, ⟨ok, hwt⟩, hR⟩ := (ag_link (y := y) h i hd h40 (xs (6 * j + 1)) (xs (6 * j + 2)) (xs (6 * j + 3))).1 _ _ hP
    obtain rfl : q = q9 := by cases e9; rfl
    have hr3 := gRef_18 (gRef_cls hr F) (gFr_18 (o := o) (v := q.toInt64))
    have hm3 := gMail_18 hm (gFr_18 (o := o) (v := q.toInt64))
    have ho3 := (ho.fr F).fr (gFr_18 (o := o) (v := q.toInt64))
    obtain ⟨m1, m2, hm1, hm2, ct⟩ := hR _ _ hr3
    simp only [Option.toList, List.cons_append, List.nil_append]
    refine g_istore G dL_law_1939 (gSt_5 (by first | rfl | exact g_c1_rf)) ?_
    first | refine g_aload_n G dL_law_1941 rfl ?_ | refine g_aload_nN G dL_law_1941 rfl ?_ | refine g_aload_nQ G dL_law_1941 rfl ?_
    first | refine g_aload_n G dL_law_1942 rfl ?_ | refine g_aload_nN G dL_law_1942 rfl ?_ | refine g_aload_nQ G dL_law_1942 rfl ?_
    refine g_iload G dL_law_1943 rfl ?_
    refine g_iconst (v := nI 1) G dL_law_1945 (by decide) ?_
    refine g_iadd G dL_law_1946 (nI_add _ _) ?_
    refine g_sld G X (j := 6 * j + 1) (by omega) (by omega) dL_law_1947 ?_
    first | refine g_aload_n G dL_law_1948 rfl ?_ | refine g_aload_nN G dL_law_1948 rfl ?_ | refine g_aload_nQ G dL_law_1948 rfl ?_
    refine g_iload G dL_law_1949 rfl ?_
    refine g_iconst (v := nI 2) G dL_law_1951 (by decide) ?_
    refine g_iadd G dL_law_1952 (nI_add _ _) ?_
    refine g_sld G X (j := 6 * j + 2) (by omega) (by omega) dL_law_1953 ?_
    first | refine g_aload_n G dL_law_1954 rfl ?_ | refine g_aload_nN G dL_law_1954 rfl ?_ | refine g_aload_nQ G dL_law_1954 rfl ?_
    refine g_iload G dL_law_1955 rfl ?_
    refine g_iconst (v := nI 3) G dL_law_1957 (by decide) ?_
    refine g_iadd G dL_law_1958 (nI_add _ _) ?_
    refine g_sld G X (j := 6 * j + 3) (by omega) (by omega) dL_law_1959 ?_
    refine g_callV (ci := 10) G ct mt_X9_link mi_X9_link ml_L_213 hr3.1.kd (by decide) rfl (by omega) (by omega) (by omega) rfl (Nat.le_of_ble_eq_true rfl) dL_law_1960 (fun v4 S4 hp4 => ?_)
    obtain ⟨rfl, t4, b4, hr4, F4⟩ := hp4
    simp only [Option.toList, List.cons_append, List.nil_append]
    refine g_istore G dL_law_1963 (gSt_6 (by first | rfl | exact g_c1_rf)) ?_
    first | refine g_aload_n G dL_law_1965 rfl ?_ | refine g_aload_nN G dL_law_1965 rfl ?_ | refine g_aload_nQ G dL_law_1965 rfl ?_
    refine g_callVp (ci := 10) G (c_X9_thrown _ S4 y (nI 0) hr4.1.kd t4) mt_X9_thrown mi_X9_thrown ml_L_127 hr4.1.kd (by decide) rfl (by omega) (by omega) (by omega) rfl (Nat.le_of_ble_eq_true rfl) dL_law_1966 ?_
    refine g_iload G dL_law_1969 rfl ?_
    refine g_icmp_eq (tgt := 1976) G dL_law_1971 (by decide) (fun _ => ?_) (fun z => absurd rfl z)
    refine g_iload G dL_law_1976 rfl ?_
    refine g_if_ne (tgt := 1993) G dL_law_1978 (by decide) (fun z => absurd nI_0 z) (fun _ => ?_)
    have ho4 := ho3.fr F4
    first | refine g_aload_n G dL_law_1981 rfl ?_ | refine g_aload_nN G dL_law_1981 rfl ?_ | refine g_aload_nQ G dL_law_1981 rfl ?_
    refine g_iconst (v := nI 0) G dL_law_1982 (by decide) ?_
    refine g_lald G ho4.1 (by decide) (by rw [ho4.2]; omega) (by omega) (gOut_Z F4) dL_law_1983 ?_
    refine g_iload G dL_law_1984 rfl ?_
    refine g_i2l G dL_law_1986 (rfl) ?_
    refine g_lcmp G dL_law_1987 ?_
    refine g_if_eq (tgt := 1993) G dL_law_1988 (by decide) (fun _ => ?_) (fun z => absurd (lg_cmp_s _) z)
    refine g_goto (tgt := 2423) G dL_law_1993 (by decide) ?_
    exact gW.wid (by omega) (by omega) (kk S4 ad9 b4 M9 _ _ _ _ (gMail_ref hm3 F4) hr4 ok ho4)
  · obtain ⟨rfl, w0, c8, t, hc8, rfl, ht1, ht3, hR⟩ := (ag_link (y := y) h i hd h40 (xs (6 * j + 1)) (xs (6 * j + 2)) (xs (6 * j + 3))).2 _ _ hX
    obtain rfl : c9 = nI t := gKey_one (by decide) hc hc8
    obtain ⟨v8, m1, m2, hm1, hm2, ct⟩ := hR _ _ hr
    simp only [Option.toList, List.cons_append, List.nil_append]
    refine g_istore G dL_law_1939 (gSt_5 (by first | rfl | exact g_c1_rf)) ?_
    first | refine g_aload_n G dL_law_1941 rfl ?_ | refine g_aload_nN G dL_law_1941 rfl ?_ | refine g_aload_nQ G dL_law_1941 rfl ?_
    first | refine g_aload_n G dL_law_1942 rfl ?_ | refine g_aload_nN G dL_law_1942 rfl ?_ | refine g_aload_nQ G dL_law_1942 rfl ?_
    refine g_iload G dL_law_1943 rfl ?_
    refine g_iconst (v := nI 1) G dL_law_1945 (by decide) ?_
    refine g_iadd G dL_law_1946 (nI_add _ _) ?_
    refine g_sld G X (j := 6 * j + 1) (by omega) (by omega) dL_law_1947 ?_
    first | refine g_aload_n G dL_law_1948 rfl ?_ | refine g_aload_nN G dL_law_1948 rfl ?_ | refine g_aload_nQ G dL_law_1948 rfl ?_
    refine g_iload G dL_law_1949 rfl ?_
    refine g_iconst (v := nI 2) G dL_law_1951 (by decide) ?_
    refine g_iadd G dL_law_1952 (nI_add _ _) ?_
    refine g_sld G X (j := 6 * j + 2) (by omega) (by omega) dL_law_1953 ?_
    first | refine g_aload_n G dL_law_1954 rfl ?_ | refine g_aload_nN G dL_law_1954 rfl ?_ | refine g_aload_nQ G dL_law_1954 rfl ?_
    refine g_iload G dL_law_1955 rfl ?_
    refine g_iconst (v := nI 3) G dL_law_1957 (by decide) ?_
    refine g_iadd G dL_law_1958 (nI_add _ _) ?_
    refine g_sld G X (j := 6 * j + 3) (by omega) (by omega) dL_law_1959 ?_
    refine g_callV (ci := 10) G ct mt_X9_link mi_X9_link ml_L_213 hr.1.kd (by decide) rfl (by omega) (by omega) (by omega) rfl (Nat.le_of_ble_eq_true rfl) dL_law_1960 (fun v4 S4 hp4 => ?_)
    obtain ⟨rfl, t4, b4, hr4, F4⟩ := hp4
    simp only [Option.toList, List.cons_append, List.nil_append]
    refine g_istore G dL_law_1963 (gSt_6 (by first | rfl | exact g_c1_rf)) ?_
    first | refine g_aload_n G dL_law_1965 rfl ?_ | refine g_aload_nN G dL_law_1965 rfl ?_ | refine g_aload_nQ G dL_law_1965 rfl ?_
    refine g_callVp (ci := 10) G (c_X9_thrown _ S4 y (nI t) hr4.1.kd t4) mt_X9_thrown mi_X9_thrown ml_L_127 hr4.1.kd (by decide) rfl (by omega) (by omega) (by omega) rfl (Nat.le_of_ble_eq_true rfl) dL_law_1966 ?_
    refine g_iload G dL_law_1969 rfl ?_
    refine g_icmp_eq (tgt := 1976) G dL_law_1971 (by decide) (fun _ => ?_) (fun z => absurd rfl z)
    refine g_iload G dL_law_1976 rfl ?_
    refine g_if_ne (tgt := 1993) G dL_law_1978 (by decide) (fun _ => ?_) (fun z => absurd z (nI_ne0 (by omega) (by omega)))
    refine g_goto (tgt := 2423) G dL_law_1993 (by decide) ?_
    exact gW.wid (by omega) (by omega) (kk S4 ad b4 M _ _ _ _ (gMail_ref h F4) hr4 (gOk_rf i hd) (ho.fr F4))
set_option maxHeartbeats 4000000 in
set_option maxRecDepth 100000 in
theorem bk_send {Γ : gC} {b L x y o : Nat} {xs : Nat → Int32} (G : gOK Γ RL cL_law 12 601024 7293034) (X : gScr Γ b L xs) : gBlk Γ b L x y o 1996 := by
  intro S ad bb M j k sl w5 w6 w7 w8 h hr i hd h40 ho hj hL hk hs kk
  have hb := i.b
  first | refine g_aload_n G dL_law_1996 rfl ?_ | refine g_aload_nN G dL_law_1996 rfl ?_ | refine g_aload_nQ G dL_law_1996 rfl ?_
  first | refine g_aload_n G dL_law_1997 rfl ?_ | refine g_aload_nN G dL_law_1997 rfl ?_ | refine g_aload_nQ G dL_law_1997 rfl ?_
  refine g_iload G dL_law_1998 rfl ?_
  refine g_iconst (v := nI 1) G dL_law_2000 (by decide) ?_
  refine g_iadd G dL_law_2001 (nI_add _ _) ?_
  refine g_sld G X (j := 6 * j + 1) (by omega) (by omega) dL_law_2002 ?_
  first | refine g_aload_n G dL_law_2003 rfl ?_ | refine g_aload_nN G dL_law_2003 rfl ?_ | refine g_aload_nQ G dL_law_2003 rfl ?_
  refine g_iload G dL_law_2004 rfl ?_
  refine g_iconst (v := nI 2) G dL_law_2006 (by decide) ?_
  refine g_iadd G dL_law_2007 (nI_add _ _) ?_
  refine g_sld G X (j := 6 * j + 2) (by omega) (by omega) dL_law_2008 ?_
  first | refine g_aload_n G dL_law_2009 rfl ?_ | refine g_aload_nN G dL_law_2009 rfl ?_ | refine g_aload_nQ G dL_law_2009 rfl ?_
  refine g_iload G dL_law_2010 rfl ?_
  refine g_iconst (v := nI 3) G dL_law_2012 (by decide) ?_
  refine g_iadd G dL_law_2013 (nI_add _ _) ?_
  refine g_sld G X (j := 6 * j + 3) (by omega) (by omega) dL_law_2014 ?_
  first | refine g_aload_n G dL_law_2015 rfl ?_ | refine g_aload_nN G dL_law_2015 rfl ?_ | refine g_aload_nQ G dL_law_2015 rfl ?_
  refine g_callSW G (c_L_send h.1.1 (c_X7_send _ S x ad M h i.1 i.2.2.2.2 (xs (6 * j + 1)) (xs (6 * j + 2)) (xs (6 * j + 3))) (fun v S1 z => by obtain ⟨q, M9, rfl, ⟨ad9, -, F⟩, -⟩ := (ag_send (y := y) h i hd h40 (xs (6 * j + 1)) (xs (6 * j + 2)) (xs (6 * j + 3))).1 v S1 z; exact ⟨⟨q, rfl⟩, ho.fr F⟩) (fun E S1 z => by obtain ⟨-, -, c, t, hc, -⟩ := (ag_send (y := y) h i hd h40 (xs (6 * j + 1)) (xs (6 * j + 2)) (xs (6 * j + 3))).2 E S1 z; simp only [List.mem_cons, Prod.mk.injEq, List.not_mem_nil, or_false] at hc; exact hc.imp And.left (Or.imp And.left And.left))) mw_L_send ms_L_send ml_L_214 (by omega) (by omega) (by omega) rfl (Nat.le_of_ble_eq_true rfl) dL_law_2016 (fun v S1 hp => ?_)
  rcases hp with ⟨q, S2, hP, rfl, rfl⟩ | ⟨E, c9, hX, hc, rfl⟩
  · obtain ⟨q9, M9, e9, ⟨ad9, hm, F⟩, ⟨ok, hwt⟩, hR⟩ := (ag_send (y := y) h i hd h40 (xs (6 * j + 1)) (xs (6 * j + 2)) (xs (6 * j + 3))).1 _ _ hP
    obtain rfl : q = q9 := by cases e9; rfl
    have hr3 := gRef_18 (gRef_cls hr F) (gFr_18 (o := o) (v := q.toInt64))
    have hm3 := gMail_18 hm (gFr_18 (o := o) (v := q.toInt64))
    have ho3 := (ho.fr F).fr (gFr_18 (o := o) (v := q.toInt64))
    obtain ⟨m1, m2, hm1, hm2, ct⟩ := hR _ _ hr3
    simp only [Option.toList, List.cons_append, List.nil_append]
    refine g_istore G dL_law_2019 (gSt_5 (by first | rfl | exact g_c1_rf)) ?_
    first | refine g_aload_n G dL_law_2021 rfl ?_ | refine g_aload_nN G dL_law_2021 rfl ?_ | refine g_aload_nQ G dL_law_2021 rfl ?_
    first | refine g_aload_n G dL_law_2022 rfl ?_ | refine g_aload_nN G dL_law_2022 rfl ?_ | refine g_aload_nQ G dL_law_2022 rfl ?_
    refine g_iload G dL_law_2023 rfl ?_
    refine g_iconst (v := nI 1) G dL_law_2025 (by decide) ?_
    refine g_iadd G dL_law_2026 (nI_add _ _) ?_
    refine g_sld G X (j := 6 * j + 1) (by omega) (by omega) dL_law_2027 ?_
    first | refine g_aload_n G dL_law_2028 rfl ?_ | refine g_aload_nN G dL_law_2028 rfl ?_ | refine g_aload_nQ G dL_law_2028 rfl ?_
    refine g_iload G dL_law_2029 rfl ?_
    refine g_iconst (v := nI 2) G dL_law_2031 (by decide) ?_
    refine g_iadd G dL_law_2032 (nI_add _ _) ?_
    refine g_sld G X (j := 6 * j + 2) (by omega) (by omega) dL_law_2033 ?_
    first | refine g_aload_n G dL_law_2034 rfl ?_ | refine g_aload_nN G dL_law_2034 rfl ?_ | refine g_aload_nQ G dL_law_2034 rfl ?_
    refine g_iload G dL_law_2035 rfl ?_
    refine g_iconst (v := nI 3) G dL_law_2037 (by decide) ?_
    refine g_iadd G dL_law_2038 (nI_add _ _) ?_
    refine g_sld G X (j := 6 * j + 3) (by omega) (by omega) dL_law_2039 ?_
    refine g_callV (ci := 10) G ct mt_X9_send mi_X9_send ml_L_216 hr3.1.kd (by decide) rfl (by omega) (by omega) (by omega) rfl (Nat.le_of_ble_eq_true rfl) dL_law_2040 (fun v4 S4 hp4 => ?_)
    obtain ⟨rfl, t4, b4, hr4, F4⟩ := hp4
    simp only [Option.toList, List.cons_append, List.nil_append]
    refine g_istore G dL_law_2043 (gSt_6 (by first | rfl | exact g_c1_rf)) ?_
    first | refine g_aload_n G dL_law_2045 rfl ?_ | refine g_aload_nN G dL_law_2045 rfl ?_ | refine g_aload_nQ G dL_law_2045 rfl ?_
    refine g_callVp (ci := 10) G (c_X9_thrown _ S4 y (nI 0) hr4.1.kd t4) mt_X9_thrown mi_X9_thrown ml_L_127 hr4.1.kd (by decide) rfl (by omega) (by omega) (by omega) rfl (Nat.le_of_ble_eq_true rfl) dL_law_2046 ?_
    refine g_iload G dL_law_2049 rfl ?_
    refine g_icmp_eq (tgt := 2056) G dL_law_2051 (by decide) (fun _ => ?_) (fun z => absurd rfl z)
    refine g_iload G dL_law_2056 rfl ?_
    refine g_if_ne (tgt := 2073) G dL_law_2058 (by decide) (fun z => absurd nI_0 z) (fun _ => ?_)
    have ho4 := ho3.fr F4
    first | refine g_aload_n G dL_law_2061 rfl ?_ | refine g_aload_nN G dL_law_2061 rfl ?_ | refine g_aload_nQ G dL_law_2061 rfl ?_
    refine g_iconst (v := nI 0) G dL_law_2062 (by decide) ?_
    refine g_lald G ho4.1 (by decide) (by rw [ho4.2]; omega) (by omega) (gOut_Z F4) dL_law_2063 ?_
    refine g_iload G dL_law_2064 rfl ?_
    refine g_i2l G dL_law_2066 (rfl) ?_
    refine g_lcmp G dL_law_2067 ?_
    refine g_if_eq (tgt := 2073) G dL_law_2068 (by decide) (fun _ => ?_) (fun z => absurd (lg_cmp_s _) z)
    refine g_goto (tgt := 2423) G dL_law_2073 (by decide) ?_
    exact gW.wid (by omega) (by omega) (kk S4 ad9 b4 M9 _ _ _ _ (gMail_ref hm3 F4) hr4 ok ho4)
  · obtain ⟨rfl, w0, c8, t, hc8, rfl, ht1, ht3, hR⟩ := (ag_send (y := y) h i hd h40 (xs (6 * j + 1)) (xs (6 * j + 2)) (xs (6 * j + 3))).2 _ _ hX
    obtain rfl : c9 = nI t := gKey_one (by decide) hc hc8
    obtain ⟨v8, m1, m2, hm1, hm2, ct⟩ := hR _ _ hr
    simp only [Option.toList, List.cons_append, List.nil_append]
    refine g_istore G dL_law_2019 (gSt_5 (by first | rfl | exact g_c1_rf)) ?_
    first | refine g_aload_n G dL_law_2021 rfl ?_ | refine g_aload_nN G dL_law_2021 rfl ?_ | refine g_aload_nQ G dL_law_2021 rfl ?_
    first | refine g_aload_n G dL_law_2022 rfl ?_ | refine g_aload_nN G dL_law_2022 rfl ?_ | refine g_aload_nQ G dL_law_2022 rfl ?_
    refine g_iload G dL_law_2023 rfl ?_
    refine g_iconst (v := nI 1) G dL_law_2025 (by decide) ?_
    refine g_iadd G dL_law_2026 (nI_add _ _) ?_
    refine g_sld G X (j := 6 * j + 1) (by omega) (by omega) dL_law_2027 ?_
    first | refine g_aload_n G dL_law_2028 rfl ?_ | refine g_aload_nN G dL_law_2028 rfl ?_ | refine g_aload_nQ G dL_law_2028 rfl ?_
    refine g_iload G dL_law_2029 rfl ?_
    refine g_iconst (v := nI 2) G dL_law_2031 (by decide) ?_
    refine g_iadd G dL_law_2032 (nI_add _ _) ?_
    refine g_sld G X (j := 6 * j + 2) (by omega) (by omega) dL_law_2033 ?_
    first | refine g_aload_n G dL_law_2034 rfl ?_ | refine g_aload_nN G dL_law_2034 rfl ?_ | refine g_aload_nQ G dL_law_2034 rfl ?_
    refine g_iload G dL_law_2035 rfl ?_
    refine g_iconst (v := nI 3) G dL_law_2037 (by decide) ?_
    refine g_iadd G dL_law_2038 (nI_add _ _) ?_
    refine g_sld G X (j := 6 * j + 3) (by omega) (by omega) dL_law_2039 ?_
    refine g_callV (ci := 10) G ct mt_X9_send mi_X9_send ml_L_216 hr.1.kd (by decide) rfl (by omega) (by omega) (by omega) rfl (Nat.le_of_ble_eq_true rfl) dL_law_2040 (fun v4 S4 hp4 => ?_)
    obtain ⟨rfl, t4, b4, hr4, F4⟩ := hp4
    simp only [Option.toList, List.cons_append, List.nil_append]
    refine g_istore G dL_law_2043 (gSt_6 (by first | rfl | exact g_c1_rf)) ?_
    first | refine g_aload_n G dL_law_2045 rfl ?_ | refine g_aload_nN G dL_law_2045 rfl ?_ | refine g_aload_nQ G dL_law_2045 rfl ?_
    refine g_callVp (ci := 10) G (c_X9_thrown _ S4 y (nI t) hr4.1.kd t4) mt_X9_thrown mi_X9_thrown ml_L_127 hr4.1.kd (by decide) rfl (by omega) (by omega) (by omega) rfl (Nat.le_of_ble_eq_true rfl) dL_law_2046 ?_
    refine g_iload G dL_law_2049 rfl ?_
    refine g_icmp_eq (tgt := 2056) G dL_law_2051 (by decide) (fun _ => ?_) (fun z => absurd rfl z)
    refine g_iload G dL_law_2056 rfl ?_
    refine g_if_ne (tgt := 2073) G dL_law_2058 (by decide) (fun _ => ?_) (fun z => absurd z (nI_ne0 (by omega) (by omega)))
    refine g_goto (tgt := 2423) G dL_law_2073 (by decide) ?_
    exact gW.wid (by omega) (by omega) (kk S4 ad b4 M _ _ _ _ (gMail_ref h F4) hr4 (gOk_rf i hd) (ho.fr F4))
set_option maxHeartbeats 4000000 in
set_option maxRecDepth 100000 in
theorem bk_letter {Γ : gC} {b L x y o : Nat} {xs : Nat → Int32} (G : gOK Γ RL cL_law 12 601024 7293034) (X : gScr Γ b L xs) : gBlk Γ b L x y o 2076 := by
  intro S ad bb M j k sl w5 w6 w7 w8 h hr i hd h40 ho hj hL hk hs kk
  have hb := i.b
  first | refine g_aload_n G dL_law_2076 rfl ?_ | refine g_aload_nN G dL_law_2076 rfl ?_ | refine g_aload_nQ G dL_law_2076 rfl ?_
  first | refine g_aload_n G dL_law_2077 rfl ?_ | refine g_aload_nN G dL_law_2077 rfl ?_ | refine g_aload_nQ G dL_law_2077 rfl ?_
  refine g_iload G dL_law_2078 rfl ?_
  refine g_iconst (v := nI 1) G dL_law_2080 (by decide) ?_
  refine g_iadd G dL_law_2081 (nI_add _ _) ?_
  refine g_sld G X (j := 6 * j + 1) (by omega) (by omega) dL_law_2082 ?_
  first | refine g_aload_n G dL_law_2083 rfl ?_ | refine g_aload_nN G dL_law_2083 rfl ?_ | refine g_aload_nQ G dL_law_2083 rfl ?_
  refine g_iload G dL_law_2084 rfl ?_
  refine g_iconst (v := nI 2) G dL_law_2086 (by decide) ?_
  refine g_iadd G dL_law_2087 (nI_add _ _) ?_
  refine g_sld G X (j := 6 * j + 2) (by omega) (by omega) dL_law_2088 ?_
  first | refine g_aload_n G dL_law_2089 rfl ?_ | refine g_aload_nN G dL_law_2089 rfl ?_ | refine g_aload_nQ G dL_law_2089 rfl ?_
  refine g_callSW G (c_L_letter h.1.1 (c_X7_letter _ S x ad M h (xs (6 * j + 1)) (xs (6 * j + 2))) (fun v S1 z => by obtain ⟨q, M9, rfl, ⟨ad9, -, F⟩, -⟩ := (ag_letter (y := y) h i hd h40 (xs (6 * j + 1)) (xs (6 * j + 2))).1 v S1 z; exact ⟨⟨q, rfl⟩, ho.fr F⟩) (fun E S1 z => by obtain ⟨-, -, c, t, hc, -⟩ := (ag_letter (y := y) h i hd h40 (xs (6 * j + 1)) (xs (6 * j + 2))).2 E S1 z; simp only [List.mem_cons, Prod.mk.injEq, List.not_mem_nil, or_false] at hc; exact hc.1)) mw_L_letter ms_L_letter ml_L_217 (by omega) (by omega) (by omega) rfl (Nat.le_of_ble_eq_true rfl) dL_law_2090 (fun v S1 hp => ?_)
  rcases hp with ⟨q, S2, hP, rfl, rfl⟩ | ⟨E, c9, hX, hc, rfl⟩
  · obtain ⟨q9, M9, e9, ⟨ad9, hm, F⟩, ⟨ok, hwt⟩, hR⟩ := (ag_letter (y := y) h i hd h40 (xs (6 * j + 1)) (xs (6 * j + 2))).1 _ _ hP
    obtain rfl : q = q9 := by cases e9; rfl
    have hr3 := gRef_18 (gRef_cls hr F) (gFr_18 (o := o) (v := q.toInt64))
    have hm3 := gMail_18 hm (gFr_18 (o := o) (v := q.toInt64))
    have ho3 := (ho.fr F).fr (gFr_18 (o := o) (v := q.toInt64))
    obtain ⟨m1, m2, hm1, hm2, ct⟩ := hR _ _ hr3
    simp only [Option.toList, List.cons_append, List.nil_append]
    refine g_istore G dL_law_2093 (gSt_5 (by first | rfl | exact g_c1_rf)) ?_
    first | refine g_aload_n G dL_law_2095 rfl ?_ | refine g_aload_nN G dL_law_2095 rfl ?_ | refine g_aload_nQ G dL_law_2095 rfl ?_
    first | refine g_aload_n G dL_law_2096 rfl ?_ | refine g_aload_nN G dL_law_2096 rfl ?_ | refine g_aload_nQ G dL_law_2096 rfl ?_
    refine g_iload G dL_law_2097 rfl ?_
    refine g_iconst (v := nI 1) G dL_law_2099 (by decide) ?_
    refine g_iadd G dL_law_2100 (nI_add _ _) ?_
    refine g_sld G X (j := 6 * j + 1) (by omega) (by omega) dL_law_2101 ?_
    first | refine g_aload_n G dL_law_2102 rfl ?_ | refine g_aload_nN G dL_law_2102 rfl ?_ | refine g_aload_nQ G dL_law_2102 rfl ?_
    refine g_iload G dL_law_2103 rfl ?_
    refine g_iconst (v := nI 2) G dL_law_2105 (by decide) ?_
    refine g_iadd G dL_law_2106 (nI_add _ _) ?_
    refine g_sld G X (j := 6 * j + 2) (by omega) (by omega) dL_law_2107 ?_
    refine g_callV (ci := 10) G ct mt_X9_letter mi_X9_letter ml_L_219 hr3.1.kd (by decide) rfl (by omega) (by omega) (by omega) rfl (Nat.le_of_ble_eq_true rfl) dL_law_2108 (fun v4 S4 hp4 => ?_)
    obtain ⟨rfl, t4, b4, hr4, F4⟩ := hp4
    simp only [Option.toList, List.cons_append, List.nil_append]
    refine g_istore G dL_law_2111 (gSt_6 (by first | rfl | exact g_c1_rf)) ?_
    first | refine g_aload_n G dL_law_2113 rfl ?_ | refine g_aload_nN G dL_law_2113 rfl ?_ | refine g_aload_nQ G dL_law_2113 rfl ?_
    refine g_callVp (ci := 10) G (c_X9_thrown _ S4 y (nI 0) hr4.1.kd t4) mt_X9_thrown mi_X9_thrown ml_L_127 hr4.1.kd (by decide) rfl (by omega) (by omega) (by omega) rfl (Nat.le_of_ble_eq_true rfl) dL_law_2114 ?_
    refine g_iload G dL_law_2117 rfl ?_
    refine g_icmp_eq (tgt := 2124) G dL_law_2119 (by decide) (fun _ => ?_) (fun z => absurd rfl z)
    refine g_iload G dL_law_2124 rfl ?_
    refine g_if_ne (tgt := 2141) G dL_law_2126 (by decide) (fun z => absurd nI_0 z) (fun _ => ?_)
    have ho4 := ho3.fr F4
    first | refine g_aload_n G dL_law_2129 rfl ?_ | refine g_aload_nN G dL_law_2129 rfl ?_ | refine g_aload_nQ G dL_law_2129 rfl ?_
    refine g_iconst (v := nI 0) G dL_law_2130 (by decide) ?_
    refine g_lald G ho4.1 (by decide) (by rw [ho4.2]; omega) (by omega) (gOut_Z F4) dL_law_2131 ?_
    refine g_iload G dL_law_2132 rfl ?_
    refine g_i2l G dL_law_2134 (rfl) ?_
    refine g_lcmp G dL_law_2135 ?_
    refine g_if_eq (tgt := 2141) G dL_law_2136 (by decide) (fun _ => ?_) (fun z => absurd (lg_cmp_s _) z)
    refine g_goto (tgt := 2423) G dL_law_2141 (by decide) ?_
    exact gW.wid (by omega) (by omega) (kk S4 ad9 b4 M9 _ _ _ _ (gMail_ref hm3 F4) hr4 ok ho4)
  · obtain ⟨rfl, w0, c8, t, hc8, rfl, ht1, ht3, hR⟩ := (ag_letter (y := y) h i hd h40 (xs (6 * j + 1)) (xs (6 * j + 2))).2 _ _ hX
    obtain rfl : c9 = nI t := gKey_one (by decide) hc hc8
    obtain ⟨v8, m1, m2, hm1, hm2, ct⟩ := hR _ _ hr
    simp only [Option.toList, List.cons_append, List.nil_append]
    refine g_istore G dL_law_2093 (gSt_5 (by first | rfl | exact g_c1_rf)) ?_
    first | refine g_aload_n G dL_law_2095 rfl ?_ | refine g_aload_nN G dL_law_2095 rfl ?_ | refine g_aload_nQ G dL_law_2095 rfl ?_
    first | refine g_aload_n G dL_law_2096 rfl ?_ | refine g_aload_nN G dL_law_2096 rfl ?_ | refine g_aload_nQ G dL_law_2096 rfl ?_
    refine g_iload G dL_law_2097 rfl ?_
    refine g_iconst (v := nI 1) G dL_law_2099 (by decide) ?_
    refine g_iadd G dL_law_2100 (nI_add _ _) ?_
    refine g_sld G X (j := 6 * j + 1) (by omega) (by omega) dL_law_2101 ?_
    first | refine g_aload_n G dL_law_2102 rfl ?_ | refine g_aload_nN G dL_law_2102 rfl ?_ | refine g_aload_nQ G dL_law_2102 rfl ?_
    refine g_iload G dL_law_2103 rfl ?_
    refine g_iconst (v := nI 2) G dL_law_2105 (by decide) ?_
    refine g_iadd G dL_law_2106 (nI_add _ _) ?_
    refine g_sld G X (j := 6 * j + 2) (by omega) (by omega) dL_law_2107 ?_
    refine g_callV (ci := 10) G ct mt_X9_letter mi_X9_letter ml_L_219 hr.1.kd (by decide) rfl (by omega) (by omega) (by omega) rfl (Nat.le_of_ble_eq_true rfl) dL_law_2108 (fun v4 S4 hp4 => ?_)
    obtain ⟨rfl, t4, b4, hr4, F4⟩ := hp4
    simp only [Option.toList, List.cons_append, List.nil_append]
    refine g_istore G dL_law_2111 (gSt_6 (by first | rfl | exact g_c1_rf)) ?_
    first | refine g_aload_n G dL_law_2113 rfl ?_ | refine g_aload_nN G dL_law_2113 rfl ?_ | refine g_aload_nQ G dL_law_2113 rfl ?_
    refine g_callVp (ci := 10) G (c_X9_thrown _ S4 y (nI t) hr4.1.kd t4) mt_X9_thrown mi_X9_thrown ml_L_127 hr4.1.kd (by decide) rfl (by omega) (by omega) (by omega) rfl (Nat.le_of_ble_eq_true rfl) dL_law_2114 ?_
    refine g_iload G dL_law_2117 rfl ?_
    refine g_icmp_eq (tgt := 2124) G dL_law_2119 (by decide) (fun _ => ?_) (fun z => absurd rfl z)
    refine g_iload G dL_law_2124 rfl ?_
    refine g_if_ne (tgt := 2141) G dL_law_2126 (by decide) (fun _ => ?_) (fun z => absurd z (nI_ne0 (by omega) (by omega)))
    refine g_goto (tgt := 2423) G dL_law_2141 (by decide) ?_
    exact gW.wid (by omega) (by omega) (kk S4 ad b4 M _ _ _ _ (gMail_ref h F4) hr4 (gOk_rf i hd) (ho.fr F4))
set_option maxHeartbeats 4000000 in
set_option maxRecDepth 100000 in
theorem bk_pass {Γ : gC} {b L x y o : Nat} {xs : Nat → Int32} (G : gOK Γ RL cL_law 12 601024 7293034) (X : gScr Γ b L xs) : gBlk Γ b L x y o 2144 := by
  intro S ad bb M j k sl w5 w6 w7 w8 h hr i hd h40 ho hj hL hk hs kk
  have hb := i.b
  first | refine g_aload_n G dL_law_2144 rfl ?_ | refine g_aload_nN G dL_law_2144 rfl ?_ | refine g_aload_nQ G dL_law_2144 rfl ?_
  first | refine g_aload_n G dL_law_2145 rfl ?_ | refine g_aload_nN G dL_law_2145 rfl ?_ | refine g_aload_nQ G dL_law_2145 rfl ?_
  refine g_iload G dL_law_2146 rfl ?_
  refine g_iconst (v := nI 1) G dL_law_2148 (by decide) ?_
  refine g_iadd G dL_law_2149 (nI_add _ _) ?_
  refine g_sld G X (j := 6 * j + 1) (by omega) (by omega) dL_law_2150 ?_
  first | refine g_aload_n G dL_law_2151 rfl ?_ | refine g_aload_nN G dL_law_2151 rfl ?_ | refine g_aload_nQ G dL_law_2151 rfl ?_
  refine g_callSW G (c_L_pass h.1.1 (c_X7_pass _ S x ad M h (xs (6 * j + 1))) (fun v S1 z => by obtain ⟨q, M9, rfl, ⟨ad9, -, F⟩, -⟩ := (ag_pass (y := y) h i hd h40 (xs (6 * j + 1))).1 v S1 z; exact ⟨⟨q, rfl⟩, ho.fr F⟩) (fun E S1 z => by obtain ⟨-, -, c, t, hc, -⟩ := (ag_pass (y := y) h i hd h40 (xs (6 * j + 1))).2 E S1 z; simp only [List.mem_cons, Prod.mk.injEq, List.not_mem_nil, or_false] at hc; exact hc.1)) mw_L_pass ms_L_pass ml_L_220 (by omega) (by omega) (by omega) rfl (Nat.le_of_ble_eq_true rfl) dL_law_2152 (fun v S1 hp => ?_)
  rcases hp with ⟨q, S2, hP, rfl, rfl⟩ | ⟨E, c9, hX, hc, rfl⟩
  · obtain ⟨q9, M9, e9, ⟨ad9, hm, F⟩, ⟨ok, hwt⟩, hR⟩ := (ag_pass (y := y) h i hd h40 (xs (6 * j + 1))).1 _ _ hP
    obtain rfl : q = q9 := by cases e9; rfl
    have hr3 := gRef_18 (gRef_cls hr F) (gFr_18 (o := o) (v := q.toInt64))
    have hm3 := gMail_18 hm (gFr_18 (o := o) (v := q.toInt64))
    have ho3 := (ho.fr F).fr (gFr_18 (o := o) (v := q.toInt64))
    obtain ⟨m1, m2, hm1, hm2, ct⟩ := hR _ _ hr3
    simp only [Option.toList, List.cons_append, List.nil_append]
    refine g_istore G dL_law_2155 (gSt_5 (by first | rfl | exact g_c1_rf)) ?_
    first | refine g_aload_n G dL_law_2157 rfl ?_ | refine g_aload_nN G dL_law_2157 rfl ?_ | refine g_aload_nQ G dL_law_2157 rfl ?_
    first | refine g_aload_n G dL_law_2158 rfl ?_ | refine g_aload_nN G dL_law_2158 rfl ?_ | refine g_aload_nQ G dL_law_2158 rfl ?_
    refine g_iload G dL_law_2159 rfl ?_
    refine g_iconst (v := nI 1) G dL_law_2161 (by decide) ?_
    refine g_iadd G dL_law_2162 (nI_add _ _) ?_
    refine g_sld G X (j := 6 * j + 1) (by omega) (by omega) dL_law_2163 ?_
    refine g_callV (ci := 10) G ct mt_X9_pass mi_X9_pass ml_L_222 hr3.1.kd (by decide) rfl (by omega) (by omega) (by omega) rfl (Nat.le_of_ble_eq_true rfl) dL_law_2164 (fun v4 S4 hp4 => ?_)
    obtain ⟨rfl, t4, b4, hr4, F4⟩ := hp4
    simp only [Option.toList, List.cons_append, List.nil_append]
    refine g_istore G dL_law_2167 (gSt_6 (by first | rfl | exact g_c1_rf)) ?_
    first | refine g_aload_n G dL_law_2169 rfl ?_ | refine g_aload_nN G dL_law_2169 rfl ?_ | refine g_aload_nQ G dL_law_2169 rfl ?_
    refine g_callVp (ci := 10) G (c_X9_thrown _ S4 y (nI 0) hr4.1.kd t4) mt_X9_thrown mi_X9_thrown ml_L_127 hr4.1.kd (by decide) rfl (by omega) (by omega) (by omega) rfl (Nat.le_of_ble_eq_true rfl) dL_law_2170 ?_
    refine g_iload G dL_law_2173 rfl ?_
    refine g_icmp_eq (tgt := 2180) G dL_law_2175 (by decide) (fun _ => ?_) (fun z => absurd rfl z)
    refine g_iload G dL_law_2180 rfl ?_
    refine g_if_ne (tgt := 2197) G dL_law_2182 (by decide) (fun z => absurd nI_0 z) (fun _ => ?_)
    have ho4 := ho3.fr F4
    first | refine g_aload_n G dL_law_2185 rfl ?_ | refine g_aload_nN G dL_law_2185 rfl ?_ | refine g_aload_nQ G dL_law_2185 rfl ?_
    refine g_iconst (v := nI 0) G dL_law_2186 (by decide) ?_
    refine g_lald G ho4.1 (by decide) (by rw [ho4.2]; omega) (by omega) (gOut_Z F4) dL_law_2187 ?_
    refine g_iload G dL_law_2188 rfl ?_
    refine g_i2l G dL_law_2190 (rfl) ?_
    refine g_lcmp G dL_law_2191 ?_
    refine g_if_eq (tgt := 2197) G dL_law_2192 (by decide) (fun _ => ?_) (fun z => absurd (lg_cmp_s _) z)
    refine g_goto (tgt := 2423) G dL_law_2197 (by decide) ?_
    exact gW.wid (by omega) (by omega) (kk S4 ad9 b4 M9 _ _ _ _ (gMail_ref hm3 F4) hr4 ok ho4)
  · obtain ⟨rfl, w0, c8, t, hc8, rfl, ht1, ht3, hR⟩ := (ag_pass (y := y) h i hd h40 (xs (6 * j + 1))).2 _ _ hX
    obtain rfl : c9 = nI t := gKey_one (by decide) hc hc8
    obtain ⟨v8, m1, m2, hm1, hm2, ct⟩ := hR _ _ hr
    simp only [Option.toList, List.cons_append, List.nil_append]
    refine g_istore G dL_law_2155 (gSt_5 (by first | rfl | exact g_c1_rf)) ?_
    first | refine g_aload_n G dL_law_2157 rfl ?_ | refine g_aload_nN G dL_law_2157 rfl ?_ | refine g_aload_nQ G dL_law_2157 rfl ?_
    first | refine g_aload_n G dL_law_2158 rfl ?_ | refine g_aload_nN G dL_law_2158 rfl ?_ | refine g_aload_nQ G dL_law_2158 rfl ?_
    refine g_iload G dL_law_2159 rfl ?_
    refine g_iconst (v := nI 1) G dL_law_2161 (by decide) ?_
    refine g_iadd G dL_law_2162 (nI_add _ _) ?_
    refine g_sld G X (j := 6 * j + 1) (by omega) (by omega) dL_law_2163 ?_
    refine g_callV (ci := 10) G ct mt_X9_pass mi_X9_pass ml_L_222 hr.1.kd (by decide) rfl (by omega) (by omega) (by omega) rfl (Nat.le_of_ble_eq_true rfl) dL_law_2164 (fun v4 S4 hp4 => ?_)
    obtain ⟨rfl, t4, b4, hr4, F4⟩ := hp4
    simp only [Option.toList, List.cons_append, List.nil_append]
    refine g_istore G dL_law_2167 (gSt_6 (by first | rfl | exact g_c1_rf)) ?_
    first | refine g_aload_n G dL_law_2169 rfl ?_ | refine g_aload_nN G dL_law_2169 rfl ?_ | refine g_aload_nQ G dL_law_2169 rfl ?_
    refine g_callVp (ci := 10) G (c_X9_thrown _ S4 y (nI t) hr4.1.kd t4) mt_X9_thrown mi_X9_thrown ml_L_127 hr4.1.kd (by decide) rfl (by omega) (by omega) (by omega) rfl (Nat.le_of_ble_eq_true rfl) dL_law_2170 ?_
    refine g_iload G dL_law_2173 rfl ?_
    refine g_icmp_eq (tgt := 2180) G dL_law_2175 (by decide) (fun _ => ?_) (fun z => absurd rfl z)
    refine g_iload G dL_law_2180 rfl ?_
    refine g_if_ne (tgt := 2197) G dL_law_2182 (by decide) (fun _ => ?_) (fun z => absurd z (nI_ne0 (by omega) (by omega)))
    refine g_goto (tgt := 2423) G dL_law_2197 (by decide) ?_
    exact gW.wid (by omega) (by omega) (kk S4 ad b4 M _ _ _ _ (gMail_ref h F4) hr4 (gOk_rf i hd) (ho.fr F4))
set_option maxHeartbeats 4000000 in
set_option maxRecDepth 100000 in
theorem bk_arrives {Γ : gC} {b L x y o : Nat} {xs : Nat → Int32} (G : gOK Γ RL cL_law 12 601024 7293034) (X : gScr Γ b L xs) : gBlk Γ b L x y o 2200 := by
  intro S ad bb M j k sl w5 w6 w7 w8 h hr i hd h40 ho hj hL hk hs kk
  have hb := i.b
  first | refine g_aload_n G dL_law_2200 rfl ?_ | refine g_aload_nN G dL_law_2200 rfl ?_ | refine g_aload_nQ G dL_law_2200 rfl ?_
  first | refine g_aload_n G dL_law_2201 rfl ?_ | refine g_aload_nN G dL_law_2201 rfl ?_ | refine g_aload_nQ G dL_law_2201 rfl ?_
  refine g_iload G dL_law_2202 rfl ?_
  refine g_iconst (v := nI 1) G dL_law_2204 (by decide) ?_
  refine g_iadd G dL_law_2205 (nI_add _ _) ?_
  refine g_sld G X (j := 6 * j + 1) (by omega) (by omega) dL_law_2206 ?_
  first | refine g_aload_n G dL_law_2207 rfl ?_ | refine g_aload_nN G dL_law_2207 rfl ?_ | refine g_aload_nQ G dL_law_2207 rfl ?_
  refine g_callSW G (c_L_arrives h.1.1 (c_X7_arrives _ S x ad M h i.1 (xs (6 * j + 1))) (fun v S1 z => by obtain ⟨q, M9, rfl, ⟨ad9, -, F⟩, -⟩ := (ag_arrives (y := y) h i hd h40 (xs (6 * j + 1))).1 v S1 z; exact ⟨⟨q, rfl⟩, ho.fr F⟩) (fun E S1 z => by obtain ⟨-, -, c, t, hc, -⟩ := (ag_arrives (y := y) h i hd h40 (xs (6 * j + 1))).2 E S1 z; simp only [List.mem_cons, Prod.mk.injEq, List.not_mem_nil, or_false] at hc; exact hc.1)) mw_L_arrives ms_L_arrives ml_L_223 (by omega) (by omega) (by omega) rfl (Nat.le_of_ble_eq_true rfl) dL_law_2208 (fun v S1 hp => ?_)
  rcases hp with ⟨q, S2, hP, rfl, rfl⟩ | ⟨E, c9, hX, hc, rfl⟩
  · obtain ⟨q9, M9, e9, ⟨ad9, hm, F⟩, ⟨ok, hwt⟩, hR⟩ := (ag_arrives (y := y) h i hd h40 (xs (6 * j + 1))).1 _ _ hP
    obtain rfl : q = q9 := by cases e9; rfl
    have hr3 := gRef_18 (gRef_cls hr F) (gFr_18 (o := o) (v := q.toInt64))
    have hm3 := gMail_18 hm (gFr_18 (o := o) (v := q.toInt64))
    have ho3 := (ho.fr F).fr (gFr_18 (o := o) (v := q.toInt64))
    obtain ⟨m1, m2, hm1, hm2, ct⟩ := hR _ _ hr3
    simp only [Option.toList, List.cons_append, List.nil_append]
    refine g_istore G dL_law_2211 (gSt_5 (by first | rfl | exact g_c1_rf)) ?_
    first | refine g_aload_n G dL_law_2213 rfl ?_ | refine g_aload_nN G dL_law_2213 rfl ?_ | refine g_aload_nQ G dL_law_2213 rfl ?_
    first | refine g_aload_n G dL_law_2214 rfl ?_ | refine g_aload_nN G dL_law_2214 rfl ?_ | refine g_aload_nQ G dL_law_2214 rfl ?_
    refine g_iload G dL_law_2215 rfl ?_
    refine g_iconst (v := nI 1) G dL_law_2217 (by decide) ?_
    refine g_iadd G dL_law_2218 (nI_add _ _) ?_
    refine g_sld G X (j := 6 * j + 1) (by omega) (by omega) dL_law_2219 ?_
    refine g_callV (ci := 10) G ct mt_X9_arrives mi_X9_arrives ml_L_225 hr3.1.kd (by decide) rfl (by omega) (by omega) (by omega) rfl (Nat.le_of_ble_eq_true rfl) dL_law_2220 (fun v4 S4 hp4 => ?_)
    obtain ⟨rfl, t4, b4, hr4, F4⟩ := hp4
    simp only [Option.toList, List.cons_append, List.nil_append]
    refine g_istore G dL_law_2223 (gSt_6 (by first | rfl | exact g_c1_rf)) ?_
    first | refine g_aload_n G dL_law_2225 rfl ?_ | refine g_aload_nN G dL_law_2225 rfl ?_ | refine g_aload_nQ G dL_law_2225 rfl ?_
    refine g_callVp (ci := 10) G (c_X9_thrown _ S4 y (nI 0) hr4.1.kd t4) mt_X9_thrown mi_X9_thrown ml_L_127 hr4.1.kd (by decide) rfl (by omega) (by omega) (by omega) rfl (Nat.le_of_ble_eq_true rfl) dL_law_2226 ?_
    refine g_iload G dL_law_2229 rfl ?_
    refine g_icmp_eq (tgt := 2236) G dL_law_2231 (by decide) (fun _ => ?_) (fun z => absurd rfl z)
    refine g_iload G dL_law_2236 rfl ?_
    refine g_if_ne (tgt := 2253) G dL_law_2238 (by decide) (fun z => absurd nI_0 z) (fun _ => ?_)
    have ho4 := ho3.fr F4
    first | refine g_aload_n G dL_law_2241 rfl ?_ | refine g_aload_nN G dL_law_2241 rfl ?_ | refine g_aload_nQ G dL_law_2241 rfl ?_
    refine g_iconst (v := nI 0) G dL_law_2242 (by decide) ?_
    refine g_lald G ho4.1 (by decide) (by rw [ho4.2]; omega) (by omega) (gOut_Z F4) dL_law_2243 ?_
    refine g_iload G dL_law_2244 rfl ?_
    refine g_i2l G dL_law_2246 (rfl) ?_
    refine g_lcmp G dL_law_2247 ?_
    refine g_if_eq (tgt := 2253) G dL_law_2248 (by decide) (fun _ => ?_) (fun z => absurd (lg_cmp_s _) z)
    refine g_goto (tgt := 2423) G dL_law_2253 (by decide) ?_
    exact gW.wid (by omega) (by omega) (kk S4 ad9 b4 M9 _ _ _ _ (gMail_ref hm3 F4) hr4 ok ho4)
  · obtain ⟨rfl, w0, c8, t, hc8, rfl, ht1, ht3, hR⟩ := (ag_arrives (y := y) h i hd h40 (xs (6 * j + 1))).2 _ _ hX
    obtain rfl : c9 = nI t := gKey_one (by decide) hc hc8
    obtain ⟨v8, m1, m2, hm1, hm2, ct⟩ := hR _ _ hr
    simp only [Option.toList, List.cons_append, List.nil_append]
    refine g_istore G dL_law_2211 (gSt_5 (by first | rfl | exact g_c1_rf)) ?_
    first | refine g_aload_n G dL_law_2213 rfl ?_ | refine g_aload_nN G dL_law_2213 rfl ?_ | refine g_aload_nQ G dL_law_2213 rfl ?_
    first | refine g_aload_n G dL_law_2214 rfl ?_ | refine g_aload_nN G dL_law_2214 rfl ?_ | refine g_aload_nQ G dL_law_2214 rfl ?_
    refine g_iload G dL_law_2215 rfl ?_
    refine g_iconst (v := nI 1) G dL_law_2217 (by decide) ?_
    refine g_iadd G dL_law_2218 (nI_add _ _) ?_
    refine g_sld G X (j := 6 * j + 1) (by omega) (by omega) dL_law_2219 ?_
    refine g_callV (ci := 10) G ct mt_X9_arrives mi_X9_arrives ml_L_225 hr.1.kd (by decide) rfl (by omega) (by omega) (by omega) rfl (Nat.le_of_ble_eq_true rfl) dL_law_2220 (fun v4 S4 hp4 => ?_)
    obtain ⟨rfl, t4, b4, hr4, F4⟩ := hp4
    simp only [Option.toList, List.cons_append, List.nil_append]
    refine g_istore G dL_law_2223 (gSt_6 (by first | rfl | exact g_c1_rf)) ?_
    first | refine g_aload_n G dL_law_2225 rfl ?_ | refine g_aload_nN G dL_law_2225 rfl ?_ | refine g_aload_nQ G dL_law_2225 rfl ?_
    refine g_callVp (ci := 10) G (c_X9_thrown _ S4 y (nI t) hr4.1.kd t4) mt_X9_thrown mi_X9_thrown ml_L_127 hr4.1.kd (by decide) rfl (by omega) (by omega) (by omega) rfl (Nat.le_of_ble_eq_true rfl) dL_law_2226 ?_
    refine g_iload G dL_law_2229 rfl ?_
    refine g_icmp_eq (tgt := 2236) G dL_law_2231 (by decide) (fun _ => ?_) (fun z => absurd rfl z)
    refine g_iload G dL_law_2236 rfl ?_
    refine g_if_ne (tgt := 2253) G dL_law_2238 (by decide) (fun _ => ?_) (fun z => absurd z (nI_ne0 (by omega) (by omega)))
    refine g_goto (tgt := 2423) G dL_law_2253 (by decide) ?_
    exact gW.wid (by omega) (by omega) (kk S4 ad b4 M _ _ _ _ (gMail_ref h F4) hr4 (gOk_rf i hd) (ho.fr F4))
set_option maxHeartbeats 4000000 in
set_option maxRecDepth 100000 in
theorem bk_count {Γ : gC} {b L x y o : Nat} {xs : Nat → Int32} (G : gOK Γ RL cL_law 12 601024 7293034) (X : gScr Γ b L xs) : gBlk Γ b L x y o 2256 := by
  intro S ad bb M j k sl w5 w6 w7 w8 h hr i hd h40 ho hj hL hk hs kk
  have hb := i.b
  first | refine g_aload_n G dL_law_2256 rfl ?_ | refine g_aload_nN G dL_law_2256 rfl ?_ | refine g_aload_nQ G dL_law_2256 rfl ?_
  first | refine g_aload_n G dL_law_2257 rfl ?_ | refine g_aload_nN G dL_law_2257 rfl ?_ | refine g_aload_nQ G dL_law_2257 rfl ?_
  refine g_iload G dL_law_2258 rfl ?_
  refine g_iconst (v := nI 1) G dL_law_2260 (by decide) ?_
  refine g_iadd G dL_law_2261 (nI_add _ _) ?_
  refine g_sld G X (j := 6 * j + 1) (by omega) (by omega) dL_law_2262 ?_
  first | refine g_aload_n G dL_law_2263 rfl ?_ | refine g_aload_nN G dL_law_2263 rfl ?_ | refine g_aload_nQ G dL_law_2263 rfl ?_
  refine g_callSW G (c_L_count h.1.1 (c_X7_count _ S x ad M h (xs (6 * j + 1))) (fun v S1 z => by obtain ⟨q, M9, rfl, ⟨ad9, -, F⟩, -⟩ := (ag_count (y := y) h i hd h40 (xs (6 * j + 1))).1 v S1 z; exact ⟨⟨q, rfl⟩, ho.fr F⟩) (fun E S1 z => by obtain ⟨-, -, c, t, hc, -⟩ := (ag_count (y := y) h i hd h40 (xs (6 * j + 1))).2 E S1 z; simp only [List.mem_cons, Prod.mk.injEq, List.not_mem_nil, or_false] at hc; exact hc.1)) mw_L_count ms_L_count ml_L_226 (by omega) (by omega) (by omega) rfl (Nat.le_of_ble_eq_true rfl) dL_law_2264 (fun v S1 hp => ?_)
  rcases hp with ⟨q, S2, hP, rfl, rfl⟩ | ⟨E, c9, hX, hc, rfl⟩
  · obtain ⟨q9, M9, e9, ⟨ad9, hm, F⟩, ⟨ok, hwt⟩, hR⟩ := (ag_count (y := y) h i hd h40 (xs (6 * j + 1))).1 _ _ hP
    obtain rfl : q = q9 := by cases e9; rfl
    have hr3 := gRef_18 (gRef_cls hr F) (gFr_18 (o := o) (v := q.toInt64))
    have hm3 := gMail_18 hm (gFr_18 (o := o) (v := q.toInt64))
    have ho3 := (ho.fr F).fr (gFr_18 (o := o) (v := q.toInt64))
    obtain ⟨m1, m2, hm1, hm2, ct⟩ := hR _ _ hr3
    simp only [Option.toList, List.cons_append, List.nil_append]
    refine g_istore G dL_law_2267 (gSt_5 (by first | rfl | exact g_c1_rf)) ?_
    first | refine g_aload_n G dL_law_2269 rfl ?_ | refine g_aload_nN G dL_law_2269 rfl ?_ | refine g_aload_nQ G dL_law_2269 rfl ?_
    first | refine g_aload_n G dL_law_2270 rfl ?_ | refine g_aload_nN G dL_law_2270 rfl ?_ | refine g_aload_nQ G dL_law_2270 rfl ?_
    refine g_iload G dL_law_2271 rfl ?_
    refine g_iconst (v := nI 1) G dL_law_2273 (by decide) ?_
    refine g_iadd G dL_law_2274 (nI_add _ _) ?_
    refine g_sld G X (j := 6 * j + 1) (by omega) (by omega) dL_law_2275 ?_
    refine g_callV (ci := 10) G ct mt_X9_count mi_X9_count ml_L_228 hr3.1.kd (by decide) rfl (by omega) (by omega) (by omega) rfl (Nat.le_of_ble_eq_true rfl) dL_law_2276 (fun v4 S4 hp4 => ?_)
    obtain ⟨rfl, t4, b4, hr4, F4⟩ := hp4
    simp only [Option.toList, List.cons_append, List.nil_append]
    refine g_istore G dL_law_2279 (gSt_6 (by first | rfl | exact g_c1_rf)) ?_
    first | refine g_aload_n G dL_law_2281 rfl ?_ | refine g_aload_nN G dL_law_2281 rfl ?_ | refine g_aload_nQ G dL_law_2281 rfl ?_
    refine g_callVp (ci := 10) G (c_X9_thrown _ S4 y (nI 0) hr4.1.kd t4) mt_X9_thrown mi_X9_thrown ml_L_127 hr4.1.kd (by decide) rfl (by omega) (by omega) (by omega) rfl (Nat.le_of_ble_eq_true rfl) dL_law_2282 ?_
    refine g_iload G dL_law_2285 rfl ?_
    refine g_icmp_eq (tgt := 2292) G dL_law_2287 (by decide) (fun _ => ?_) (fun z => absurd rfl z)
    refine g_iload G dL_law_2292 rfl ?_
    refine g_if_ne (tgt := 2309) G dL_law_2294 (by decide) (fun z => absurd nI_0 z) (fun _ => ?_)
    have ho4 := ho3.fr F4
    first | refine g_aload_n G dL_law_2297 rfl ?_ | refine g_aload_nN G dL_law_2297 rfl ?_ | refine g_aload_nQ G dL_law_2297 rfl ?_
    refine g_iconst (v := nI 0) G dL_law_2298 (by decide) ?_
    refine g_lald G ho4.1 (by decide) (by rw [ho4.2]; omega) (by omega) (gOut_Z F4) dL_law_2299 ?_
    refine g_iload G dL_law_2300 rfl ?_
    refine g_i2l G dL_law_2302 (rfl) ?_
    refine g_lcmp G dL_law_2303 ?_
    refine g_if_eq (tgt := 2309) G dL_law_2304 (by decide) (fun _ => ?_) (fun z => absurd (lg_cmp_s _) z)
    refine g_goto (tgt := 2423) G dL_law_2309 (by decide) ?_
    exact gW.wid (by omega) (by omega) (kk S4 ad9 b4 M9 _ _ _ _ (gMail_ref hm3 F4) hr4 ok ho4)
  · obtain ⟨rfl, w0, c8, t, hc8, rfl, ht1, ht3, hR⟩ := (ag_count (y := y) h i hd h40 (xs (6 * j + 1))).2 _ _ hX
    obtain rfl : c9 = nI t := gKey_one (by decide) hc hc8
    obtain ⟨v8, m1, m2, hm1, hm2, ct⟩ := hR _ _ hr
    simp only [Option.toList, List.cons_append, List.nil_append]
    refine g_istore G dL_law_2267 (gSt_5 (by first | rfl | exact g_c1_rf)) ?_
    first | refine g_aload_n G dL_law_2269 rfl ?_ | refine g_aload_nN G dL_law_2269 rfl ?_ | refine g_aload_nQ G dL_law_2269 rfl ?_
    first | refine g_aload_n G dL_law_2270 rfl ?_ | refine g_aload_nN G dL_law_2270 rfl ?_ | refine g_aload_nQ G dL_law_2270 rfl ?_
    refine g_iload G dL_law_2271 rfl ?_
    refine g_iconst (v := nI 1) G dL_law_2273 (by decide) ?_
    refine g_iadd G dL_law_2274 (nI_add _ _) ?_
    refine g_sld G X (j := 6 * j + 1) (by omega) (by omega) dL_law_2275 ?_
    refine g_callV (ci := 10) G ct mt_X9_count mi_X9_count ml_L_228 hr.1.kd (by decide) rfl (by omega) (by omega) (by omega) rfl (Nat.le_of_ble_eq_true rfl) dL_law_2276 (fun v4 S4 hp4 => ?_)
    obtain ⟨rfl, t4, b4, hr4, F4⟩ := hp4
    simp only [Option.toList, List.cons_append, List.nil_append]
    refine g_istore G dL_law_2279 (gSt_6 (by first | rfl | exact g_c1_rf)) ?_
    first | refine g_aload_n G dL_law_2281 rfl ?_ | refine g_aload_nN G dL_law_2281 rfl ?_ | refine g_aload_nQ G dL_law_2281 rfl ?_
    refine g_callVp (ci := 10) G (c_X9_thrown _ S4 y (nI t) hr4.1.kd t4) mt_X9_thrown mi_X9_thrown ml_L_127 hr4.1.kd (by decide) rfl (by omega) (by omega) (by omega) rfl (Nat.le_of_ble_eq_true rfl) dL_law_2282 ?_
    refine g_iload G dL_law_2285 rfl ?_
    refine g_icmp_eq (tgt := 2292) G dL_law_2287 (by decide) (fun _ => ?_) (fun z => absurd rfl z)
    refine g_iload G dL_law_2292 rfl ?_
    refine g_if_ne (tgt := 2309) G dL_law_2294 (by decide) (fun _ => ?_) (fun z => absurd z (nI_ne0 (by omega) (by omega)))
    refine g_goto (tgt := 2423) G dL_law_2309 (by decide) ?_
    exact gW.wid (by omega) (by omega) (kk S4 ad b4 M _ _ _ _ (gMail_ref h F4) hr4 (gOk_rf i hd) (ho.fr F4))
set_option maxHeartbeats 4000000 in
set_option maxRecDepth 100000 in
theorem bk_sees {Γ : gC} {b L x y o : Nat} {xs : Nat → Int32} (G : gOK Γ RL cL_law 12 601024 7293034) (X : gScr Γ b L xs) : gBlk Γ b L x y o 2312 := by
  intro S ad bb M j k sl w5 w6 w7 w8 h hr i hd h40 ho hj hL hk hs kk
  have hb := i.b
  first | refine g_aload_n G dL_law_2312 rfl ?_ | refine g_aload_nN G dL_law_2312 rfl ?_ | refine g_aload_nQ G dL_law_2312 rfl ?_
  first | refine g_aload_n G dL_law_2313 rfl ?_ | refine g_aload_nN G dL_law_2313 rfl ?_ | refine g_aload_nQ G dL_law_2313 rfl ?_
  refine g_iload G dL_law_2314 rfl ?_
  refine g_iconst (v := nI 1) G dL_law_2316 (by decide) ?_
  refine g_iadd G dL_law_2317 (nI_add _ _) ?_
  refine g_sld G X (j := 6 * j + 1) (by omega) (by omega) dL_law_2318 ?_
  first | refine g_aload_n G dL_law_2319 rfl ?_ | refine g_aload_nN G dL_law_2319 rfl ?_ | refine g_aload_nQ G dL_law_2319 rfl ?_
  refine g_callSW G (c_L_sees h.1.1 (c_X7_sees _ S x ad M h (xs (6 * j + 1))) (fun v S1 z => by obtain ⟨q, M9, rfl, ⟨ad9, -, F⟩, -⟩ := (ag_sees (y := y) h i hd h40 (xs (6 * j + 1))).1 v S1 z; exact ⟨⟨q, rfl⟩, ho.fr F⟩) (fun E S1 z => by obtain ⟨-, -, c, t, hc, -⟩ := (ag_sees (y := y) h i hd h40 (xs (6 * j + 1))).2 E S1 z; simp only [List.mem_cons, Prod.mk.injEq, List.not_mem_nil, or_false] at hc; exact hc.1)) mw_L_sees ms_L_sees ml_L_229 (by omega) (by omega) (by omega) rfl (Nat.le_of_ble_eq_true rfl) dL_law_2320 (fun v S1 hp => ?_)
  rcases hp with ⟨q, S2, hP, rfl, rfl⟩ | ⟨E, c9, hX, hc, rfl⟩
  · obtain ⟨q9, M9, e9, ⟨ad9, hm, F⟩, ⟨ok, hwt⟩, hR⟩ := (ag_sees (y := y) h i hd h40 (xs (6 * j + 1))).1 _ _ hP
    obtain rfl : q = q9 := by cases e9; rfl
    have hr3 := gRef_18 (gRef_cls hr F) (gFr_18 (o := o) (v := q.toInt64))
    have hm3 := gMail_18 hm (gFr_18 (o := o) (v := q.toInt64))
    have ho3 := (ho.fr F).fr (gFr_18 (o := o) (v := q.toInt64))
    obtain ⟨m1, m2, hm1, hm2, ct⟩ := hR _ _ hr3
    simp only [Option.toList, List.cons_append, List.nil_append]
    refine g_istore G dL_law_2323 (gSt_5 (by first | rfl | exact g_c1_rf)) ?_
    first | refine g_aload_n G dL_law_2325 rfl ?_ | refine g_aload_nN G dL_law_2325 rfl ?_ | refine g_aload_nQ G dL_law_2325 rfl ?_
    first | refine g_aload_n G dL_law_2326 rfl ?_ | refine g_aload_nN G dL_law_2326 rfl ?_ | refine g_aload_nQ G dL_law_2326 rfl ?_
    refine g_iload G dL_law_2327 rfl ?_
    refine g_iconst (v := nI 1) G dL_law_2329 (by decide) ?_
    refine g_iadd G dL_law_2330 (nI_add _ _) ?_
    refine g_sld G X (j := 6 * j + 1) (by omega) (by omega) dL_law_2331 ?_
    refine g_callV (ci := 10) G ct mt_X9_sees mi_X9_sees ml_L_231 hr3.1.kd (by decide) rfl (by omega) (by omega) (by omega) rfl (Nat.le_of_ble_eq_true rfl) dL_law_2332 (fun v4 S4 hp4 => ?_)
    obtain ⟨rfl, t4, b4, hr4, F4⟩ := hp4
    simp only [Option.toList, List.cons_append, List.nil_append]
    refine g_istore G dL_law_2335 (gSt_6 (by first | rfl | exact g_c1_rf)) ?_
    first | refine g_aload_n G dL_law_2337 rfl ?_ | refine g_aload_nN G dL_law_2337 rfl ?_ | refine g_aload_nQ G dL_law_2337 rfl ?_
    refine g_callVp (ci := 10) G (c_X9_thrown _ S4 y (nI 0) hr4.1.kd t4) mt_X9_thrown mi_X9_thrown ml_L_127 hr4.1.kd (by decide) rfl (by omega) (by omega) (by omega) rfl (Nat.le_of_ble_eq_true rfl) dL_law_2338 ?_
    refine g_iload G dL_law_2341 rfl ?_
    refine g_icmp_eq (tgt := 2348) G dL_law_2343 (by decide) (fun _ => ?_) (fun z => absurd rfl z)
    refine g_iload G dL_law_2348 rfl ?_
    refine g_if_ne (tgt := 2365) G dL_law_2350 (by decide) (fun z => absurd nI_0 z) (fun _ => ?_)
    have ho4 := ho3.fr F4
    first | refine g_aload_n G dL_law_2353 rfl ?_ | refine g_aload_nN G dL_law_2353 rfl ?_ | refine g_aload_nQ G dL_law_2353 rfl ?_
    refine g_iconst (v := nI 0) G dL_law_2354 (by decide) ?_
    refine g_lald G ho4.1 (by decide) (by rw [ho4.2]; omega) (by omega) (gOut_Z F4) dL_law_2355 ?_
    refine g_iload G dL_law_2356 rfl ?_
    refine g_i2l G dL_law_2358 (rfl) ?_
    refine g_lcmp G dL_law_2359 ?_
    refine g_if_eq (tgt := 2365) G dL_law_2360 (by decide) (fun _ => ?_) (fun z => absurd (lg_cmp_s _) z)
    refine g_goto (tgt := 2423) G dL_law_2365 (by decide) ?_
    exact gW.wid (by omega) (by omega) (kk S4 ad9 b4 M9 _ _ _ _ (gMail_ref hm3 F4) hr4 ok ho4)
  · obtain ⟨rfl, w0, c8, t, hc8, rfl, ht1, ht3, hR⟩ := (ag_sees (y := y) h i hd h40 (xs (6 * j + 1))).2 _ _ hX
    obtain rfl : c9 = nI t := gKey_one (by decide) hc hc8
    obtain ⟨v8, m1, m2, hm1, hm2, ct⟩ := hR _ _ hr
    simp only [Option.toList, List.cons_append, List.nil_append]
    refine g_istore G dL_law_2323 (gSt_5 (by first | rfl | exact g_c1_rf)) ?_
    first | refine g_aload_n G dL_law_2325 rfl ?_ | refine g_aload_nN G dL_law_2325 rfl ?_ | refine g_aload_nQ G dL_law_2325 rfl ?_
    first | refine g_aload_n G dL_law_2326 rfl ?_ | refine g_aload_nN G dL_law_2326 rfl ?_ | refine g_aload_nQ G dL_law_2326 rfl ?_
    refine g_iload G dL_law_2327 rfl ?_
    refine g_iconst (v := nI 1) G dL_law_2329 (by decide) ?_
    refine g_iadd G dL_law_2330 (nI_add _ _) ?_
    refine g_sld G X (j := 6 * j + 1) (by omega) (by omega) dL_law_2331 ?_
    refine g_callV (ci := 10) G ct mt_X9_sees mi_X9_sees ml_L_231 hr.1.kd (by decide) rfl (by omega) (by omega) (by omega) rfl (Nat.le_of_ble_eq_true rfl) dL_law_2332 (fun v4 S4 hp4 => ?_)
    obtain ⟨rfl, t4, b4, hr4, F4⟩ := hp4
    simp only [Option.toList, List.cons_append, List.nil_append]
    refine g_istore G dL_law_2335 (gSt_6 (by first | rfl | exact g_c1_rf)) ?_
    first | refine g_aload_n G dL_law_2337 rfl ?_ | refine g_aload_nN G dL_law_2337 rfl ?_ | refine g_aload_nQ G dL_law_2337 rfl ?_
    refine g_callVp (ci := 10) G (c_X9_thrown _ S4 y (nI t) hr4.1.kd t4) mt_X9_thrown mi_X9_thrown ml_L_127 hr4.1.kd (by decide) rfl (by omega) (by omega) (by omega) rfl (Nat.le_of_ble_eq_true rfl) dL_law_2338 ?_
    refine g_iload G dL_law_2341 rfl ?_
    refine g_icmp_eq (tgt := 2348) G dL_law_2343 (by decide) (fun _ => ?_) (fun z => absurd rfl z)
    refine g_iload G dL_law_2348 rfl ?_
    refine g_if_ne (tgt := 2365) G dL_law_2350 (by decide) (fun _ => ?_) (fun z => absurd z (nI_ne0 (by omega) (by omega)))
    refine g_goto (tgt := 2423) G dL_law_2365 (by decide) ?_
    exact gW.wid (by omega) (by omega) (kk S4 ad b4 M _ _ _ _ (gMail_ref h F4) hr4 (gOk_rf i hd) (ho.fr F4))
