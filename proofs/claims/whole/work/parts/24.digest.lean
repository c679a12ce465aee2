/-! ===== the checksum ===== -/
def gDg (f : Nat → Int32) (d : Int64) : Nat → Int64
  | 0 => d
  | n + 1 => gDg f d n * 31 + (f n).toInt64
def gDg2 (f g : Nat → Int32) (d : Int64) : Nat → Int64
  | 0 => d
  | n + 1 => (gDg2 f g d n * 31 + (f n).toInt64) * 31 + (g n).toInt64
def gDgC (M : gM) (d : Int64) : Nat → Int64
  | 0 => d
  | n + 1 => gDg (gTellCase M n) (gDgC M d n) 5
def gDgP (M : gM) (d : Int64) : Nat → Int64
  | 0 => d
  | n + 1 => gDg (gTellPers M n) (gDgP M d n) 8
def gDgD (M : gM) (d : Int64) : Nat → Int64
  | 0 => d
  | n + 1 => gDg2 (mT M 13 n) (mT M 14 n) (gDg (gTellDoc M n) (gDgD M d n) 8) (mN M (100 + n))
def gDgK (M : gM) (e : Nat) (d : Int64) : Nat → Int64
  | 0 => d
  | n + 1 => gDg (gTellLink M e n) (gDgK M e d n) 4
def gDgE (M : gM) (d : Int64) : Nat → Int64
  | 0 => d
  | n + 1 => gDgK M n (gDg (gTellExh M n) (gDgE M d n) 7) (mN M (200 + n))
def gDgL (M : gM) (d : Int64) : Nat → Int64
  | 0 => d
  | n + 1 => gDg (gTellLtr M n) (gDgL M d n) 5
def gDigest (M : gM) : Int64 := gDg (mA M 4) (gDgL M (gDgE M (gDgD M (gDgP M (gDgC M (gDg (gTellCount M) 653 12) (mN M 6)) (mN M 8)) (mN M 11)) (mN M 17)) (mN M 23)) (mN M 5)
theorem gRl {x y : Int64} {S : gS} (h : x = y) : gRet (.long y) S (some (.long x)) S := ⟨by rw [h], rfl⟩

set_option maxHeartbeats 4000000 in
set_option maxRecDepth 100000 in
theorem c_X7_digestCases (d0 : Nat × Nat) (S : gS) (x : Nat) (ad : Nat → Nat → Nat) (M : gM) (h : gMail d0 S x ad M) (hB : gBnd M) (d : Int64) : gCt d0 yX7_digestCases cX7_digestCases 7 (some .long) 7 0 0 [.ref x, .long d] S (gRet (.long (gDgC M d (mN M 6))) S) gNo := by
  refine gCt_of (lo := [some (.ref x), some (.long d), none, none, none, none, none]) (by decide +kernel) (Nat.le_of_ble_eq_true rfl) rfl ?_
  intro Γ hd G F hini
  obtain ⟨⟨r1, ⟨ra, rb, rc, rd, re⟩, rt, rtl, rp, rpl, rdr, rep, rday⟩, ⟨l0, l1, l2, l3, l4⟩, ht, hcs, hps, hds, hes, hls⟩ := id h
  subst hd
  refine g_lload_n G dX7_digestCases_0 rfl ?_
  refine g_lstore_n G dX7_digestCases_1 (gSt2_3 (by first | rfl | exact g_c1_rf)) ?_
  refine g_iconst (v := nI 0) G dX7_digestCases_2 (by decide) ?_
  refine g_istore G dX7_digestCases_3 (gSt_5 (by first | rfl | exact g_c1_rf)) ?_
  have hN := l0.2.2.1
  have loop : ∀ f j : Nat, j ≤ mN M 6 → mN M 6 + 1 ≤ j + f → ∀ w : Option Value, gW Γ 5 [some (.ref x), some (.long d), none, some (.long (gDgC M d (j))), none, some (.int (nI (j))), w] [] S 0 0 := by
    intro f
    induction f with
    | zero => intro j h1 h2; omega
    | succ f ih =>
      intro j hj hf w
      refine g_iload G dX7_digestCases_5 rfl ?_
      first | refine g_aload_n G dX7_digestCases_7 rfl ?_ | refine g_aload_nN G dX7_digestCases_7 rfl ?_ | refine g_aload_nQ G dX7_digestCases_7 rfl ?_
      first | refine g_getR G fl_X7_12 (by assumption) (by first | decide | omega) rfl (by assumption) dX7_digestCases_8 ?_ | refine g_getZ G fl_X7_12 (by assumption) (by first | decide | omega) rfl (by assumption) dX7_digestCases_8 ?_ | refine g_getQ G fl_X7_12 (by assumption) (by first | decide | omega) rfl (by first | assumption | rfl) dX7_digestCases_8 ?_
      refine g_callVp (ci := 0) G (c_Jx4a65c_size_8abf5 _ S (ad 5 0) 1 (mN M 6) (ad 0) l0) mt_Jx4a65c_size_8abf5 mi_Jx4a65c_size_8abf5 ml_X7_80 (l0.1) (by first | decide | omega) rfl (by decide) (by omega) (by omega) rfl (Nat.le_of_ble_eq_true rfl) dX7_digestCases_11 ?_
      refine g_icmp_ge (tgt := 64) G dX7_digestCases_14 (by decide) (fun c_14 => ?_) (fun c_14 => ?_)
      · have ej : j = mN M 6 := by have := (nI_leI (by omega) (by omega)).mp c_14; omega
        subst ej
        refine g_lload_n G dX7_digestCases_64 rfl ?_
        exact g_lret G F (gRl rfl) (by omega) (by omega) dX7_digestCases_65
      · have hlt : j < mN M 6 := by have z : ¬ mN M 6 ≤ j := fun z => c_14 ((nI_leI (by omega) (by omega)).mpr z); omega
        refine g_iconst (v := nI 0) G dX7_digestCases_17 (by decide) ?_
        refine g_istore G dX7_digestCases_18 (gSt_6 (by first | rfl | exact g_c1_rf)) ?_
        have inner20 : ∀ f2 t : Nat, t ≤ 5 → 5 + 1 ≤ t + f2 → gW Γ 20 [some (.ref x), some (.long d), none, some (.long (gDg (gTellCase M j) (gDgC M d j) (t))), none, some (.int (nI j)), some (.int (nI (t)))] [] S 0 0 := by
          intro f2
          induction f2 with
          | zero => intro t q1 q2; omega
          | succ f2 ih2 =>
            intro t ht2 hf2 
            refine g_iload G dX7_digestCases_20 rfl ?_
            refine g_iconst (v := nI 4) G dX7_digestCases_22 (by decide) ?_
            refine g_icmp_gt (tgt := 58) G dX7_digestCases_23 (by decide) (fun c_23 => ?_) (fun c_23 => ?_)
            · have et : t = 5 := by have := (nI_ltI (by omega) (by omega)).mp c_23; omega
              subst et
              refine g_iinc (v := _) G dX7_digestCases_58 rfl (by first | exact nI_1 _ | rfl) (gSt_5 (by first | rfl | exact g_c1_rf)) ?_
              refine g_goto (tgt := 5) G dX7_digestCases_61 (by decide) ?_
              exact ih (j + 1) (by omega) (by omega) _
            · have hlt2 : t < 5 := by have z : ¬ 4 < t := fun z => c_23 (nI_lt z (by omega)); omega
              refine g_lload_n G dX7_digestCases_26 rfl ?_
              refine g_ldc2 G k_X7_379 dX7_digestCases_27 ?_
              refine g_lmul G dX7_digestCases_30 (rfl) ?_
              first | refine g_aload_n G dX7_digestCases_31 rfl ?_ | refine g_aload_nN G dX7_digestCases_31 rfl ?_ | refine g_aload_nQ G dX7_digestCases_31 rfl ?_
              first | refine g_aload_n G dX7_digestCases_32 rfl ?_ | refine g_aload_nN G dX7_digestCases_32 rfl ?_ | refine g_aload_nQ G dX7_digestCases_32 rfl ?_
              first | refine g_getR G fl_X7_12 (by assumption) (by first | decide | omega) rfl (by assumption) dX7_digestCases_33 ?_ | refine g_getZ G fl_X7_12 (by assumption) (by first | decide | omega) rfl (by assumption) dX7_digestCases_33 ?_ | refine g_getQ G fl_X7_12 (by assumption) (by first | decide | omega) rfl (by first | assumption | rfl) dX7_digestCases_33 ?_
              refine g_iload G dX7_digestCases_36 rfl ?_
              refine g_callVp (ci := 0) G (c_Jx4a65c_get_915e3 _ S (ad 5 0) 1 (mN M 6) j (ad 0) l0 hlt) mt_Jx4a65c_get_915e3 mi_Jx4a65c_get_915e3 ml_X7_300 (l0.1) (by first | decide | omega) rfl (by decide) (by omega) (by omega) rfl (Nat.le_of_ble_eq_true rfl) dX7_digestCases_38 ?_
              refine g_cast (ci := 1) G ((hcs j hlt).1) (by first | decide | omega) rfl cl_X7_134 dX7_digestCases_41 ?_
              refine g_iload G dX7_digestCases_44 rfl ?_
              refine g_callVp (ci := 8) G (c_X7_tellCase _ S x ad M h hB j t hlt (by omega)) mt_X7_tellCase mi_X7_tellCase ml_X7_175 (by assumption) (by first | decide | omega) rfl (by decide) (by omega) (by omega) rfl (Nat.le_of_ble_eq_true rfl) dX7_digestCases_46 ?_
              refine g_i2l G dX7_digestCases_49 (rfl) ?_
              refine g_ladd G dX7_digestCases_50 (rfl) ?_
              refine g_lstore_n G dX7_digestCases_51 (gSt2_3 (by first | rfl | exact g_c1_rf)) ?_
              refine g_iinc (v := _) G dX7_digestCases_52 rfl (by first | exact nI_1 _ | rfl) (gSt_6 (by first | rfl | exact g_c1_rf)) ?_
              refine g_goto (tgt := 20) G dX7_digestCases_55 (by decide) ?_
              exact ih2 (t + 1) (by omega) (by omega)
        exact inner20 (5 + 1) 0 (by omega) (by omega)
  exact loop (mN M 6 + 1) 0 (by omega) (by omega) _

set_option maxHeartbeats 4000000 in
set_option maxRecDepth 100000 in
theorem c_X7_digestPeople (d0 : Nat × Nat) (S : gS) (x : Nat) (ad : Nat → Nat → Nat) (M : gM) (h : gMail d0 S x ad M) (d : Int64) : gCt d0 yX7_digestPeople cX7_digestPeople 7 (some .long) 7 0 0 [.ref x, .long d] S (gRet (.long (gDgP M d (mN M 8))) S) gNo := by
  refine gCt_of (lo := [some (.ref x), some (.long d), none, none, none, none, none]) (by decide +kernel) (Nat.le_of_ble_eq_true rfl) rfl ?_
  intro Γ hd G F hini
  obtain ⟨⟨r1, ⟨ra, rb, rc, rd, re⟩, rt, rtl, rp, rpl, rdr, rep, rday⟩, ⟨l0, l1, l2, l3, l4⟩, ht, hcs, hps, hds, hes, hls⟩ := id h
  subst hd
  refine g_lload_n G dX7_digestPeople_0 rfl ?_
  refine g_lstore_n G dX7_digestPeople_1 (gSt2_3 (by first | rfl | exact g_c1_rf)) ?_
  refine g_iconst (v := nI 0) G dX7_digestPeople_2 (by decide) ?_
  refine g_istore G dX7_digestPeople_3 (gSt_5 (by first | rfl | exact g_c1_rf)) ?_
  have hN := l1.2.2.1
  have loop : ∀ f j : Nat, j ≤ mN M 8 → mN M 8 + 1 ≤ j + f → ∀ w : Option Value, gW Γ 5 [some (.ref x), some (.long d), none, some (.long (gDgP M d (j))), none, some (.int (nI (j))), w] [] S 0 0 := by
    intro f
    induction f with
    | zero => intro j h1 h2; omega
    | succ f ih =>
      intro j hj hf w
      refine g_iload G dX7_digestPeople_5 rfl ?_
      first | refine g_aload_n G dX7_digestPeople_7 rfl ?_ | refine g_aload_nN G dX7_digestPeople_7 rfl ?_ | refine g_aload_nQ G dX7_digestPeople_7 rfl ?_
      first | refine g_getR G fl_X7_16 (by assumption) (by first | decide | omega) rfl (by assumption) dX7_digestPeople_8 ?_ | refine g_getZ G fl_X7_16 (by assumption) (by first | decide | omega) rfl (by assumption) dX7_digestPeople_8 ?_ | refine g_getQ G fl_X7_16 (by assumption) (by first | decide | omega) rfl (by first | assumption | rfl) dX7_digestPeople_8 ?_
      refine g_callVp (ci := 0) G (c_Jx4a65c_size_8abf5 _ S (ad 5 1) 2 (mN M 8) (ad 1) l1) mt_Jx4a65c_size_8abf5 mi_Jx4a65c_size_8abf5 ml_X7_80 (l1.1) (by first | decide | omega) rfl (by decide) (by omega) (by omega) rfl (Nat.le_of_ble_eq_true rfl) dX7_digestPeople_11 ?_
      refine g_icmp_ge (tgt := 65) G dX7_digestPeople_14 (by decide) (fun c_14 => ?_) (fun c_14 => ?_)
      · have ej : j = mN M 8 := by have := (nI_leI (by omega) (by omega)).mp c_14; omega
        subst ej
        refine g_lload_n G dX7_digestPeople_65 rfl ?_
        exact g_lret G F (gRl rfl) (by omega) (by omega) dX7_digestPeople_66
      · have hlt : j < mN M 8 := by have z : ¬ mN M 8 ≤ j := fun z => c_14 ((nI_leI (by omega) (by omega)).mpr z); omega
        refine g_iconst (v := nI 0) G dX7_digestPeople_17 (by decide) ?_
        refine g_istore G dX7_digestPeople_18 (gSt_6 (by first | rfl | exact g_c1_rf)) ?_
        have inner20 : ∀ f2 t : Nat, t ≤ 8 → 8 + 1 ≤ t + f2 → gW Γ 20 [some (.ref x), some (.long d), none, some (.long (gDg (gTellPers M j) (gDgP M d j) (t))), none, some (.int (nI j)), some (.int (nI (t)))] [] S 0 0 := by
          intro f2
          induction f2 with
          | zero => intro t q1 q2; omega
          | succ f2 ih2 =>
            intro t ht2 hf2 
            refine g_iload G dX7_digestPeople_20 rfl ?_
            refine g_bipush (v := nI 7) G dX7_digestPeople_22 (by decide) ?_
            refine g_icmp_gt (tgt := 59) G dX7_digestPeople_24 (by decide) (fun c_24 => ?_) (fun c_24 => ?_)
            · have et : t = 8 := by have := (nI_ltI (by omega) (by omega)).mp c_24; omega
              subst et
              refine g_iinc (v := _) G dX7_digestPeople_59 rfl (by first | exact nI_1 _ | rfl) (gSt_5 (by first | rfl | exact g_c1_rf)) ?_
              refine g_goto (tgt := 5) G dX7_digestPeople_62 (by decide) ?_
              exact ih (j + 1) (by omega) (by omega) _
            · have hlt2 : t < 8 := by have z : ¬ 7 < t := fun z => c_24 (nI_lt z (by omega)); omega
              refine g_lload_n G dX7_digestPeople_27 rfl ?_
              refine g_ldc2 G k_X7_379 dX7_digestPeople_28 ?_
              refine g_lmul G dX7_digestPeople_31 (rfl) ?_
              first | refine g_aload_n G dX7_digestPeople_32 rfl ?_ | refine g_aload_nN G dX7_digestPeople_32 rfl ?_ | refine g_aload_nQ G dX7_digestPeople_32 rfl ?_
              first | refine g_aload_n G dX7_digestPeople_33 rfl ?_ | refine g_aload_nN G dX7_digestPeople_33 rfl ?_ | refine g_aload_nQ G dX7_digestPeople_33 rfl ?_
              first | refine g_getR G fl_X7_16 (by assumption) (by first | decide | omega) rfl (by assumption) dX7_digestPeople_34 ?_ | refine g_getZ G fl_X7_16 (by assumption) (by first | decide | omega) rfl (by assumption) dX7_digestPeople_34 ?_ | refine g_getQ G fl_X7_16 (by assumption) (by first | decide | omega) rfl (by first | assumption | rfl) dX7_digestPeople_34 ?_
              refine g_iload G dX7_digestPeople_37 rfl ?_
              refine g_callVp (ci := 0) G (c_Jx4a65c_get_915e3 _ S (ad 5 1) 2 (mN M 8) j (ad 1) l1 hlt) mt_Jx4a65c_get_915e3 mi_Jx4a65c_get_915e3 ml_X7_300 (l1.1) (by first | decide | omega) rfl (by decide) (by omega) (by omega) rfl (Nat.le_of_ble_eq_true rfl) dX7_digestPeople_39 ?_
              refine g_cast (ci := 7) G ((hps j hlt).1) (by first | decide | omega) rfl cl_X7_146 dX7_digestPeople_42 ?_
              refine g_iload G dX7_digestPeople_45 rfl ?_
              refine g_callVp (ci := 8) G (c_X7_tellPerson _ S x ad M h j t hlt (by omega)) mt_X7_tellPerson mi_X7_tellPerson ml_X7_169 (by assumption) (by first | decide | omega) rfl (by decide) (by omega) (by omega) rfl (Nat.le_of_ble_eq_true rfl) dX7_digestPeople_47 ?_
              refine g_i2l G dX7_digestPeople_50 (rfl) ?_
              refine g_ladd G dX7_digestPeople_51 (rfl) ?_
              refine g_lstore_n G dX7_digestPeople_52 (gSt2_3 (by first | rfl | exact g_c1_rf)) ?_
              refine g_iinc (v := _) G dX7_digestPeople_53 rfl (by first | exact nI_1 _ | rfl) (gSt_6 (by first | rfl | exact g_c1_rf)) ?_
              refine g_goto (tgt := 20) G dX7_digestPeople_56 (by decide) ?_
              exact ih2 (t + 1) (by omega) (by omega)
        exact inner20 (8 + 1) 0 (by omega) (by omega)
  exact loop (mN M 8 + 1) 0 (by omega) (by omega) _

set_option maxHeartbeats 4000000 in
set_option maxRecDepth 100000 in
theorem c_X7_digestLetters (d0 : Nat × Nat) (S : gS) (x : Nat) (ad : Nat → Nat → Nat) (M : gM) (h : gMail d0 S x ad M) (d : Int64) : gCt d0 yX7_digestLetters cX7_digestLetters 7 (some .long) 3 0 0 [.ref x, .long d] S (gRet (.long (gDgL M d (mN M 23))) S) gNo := by
  refine gCt_of (lo := [some (.ref x), some (.long d), none, none, none, none, none]) (by decide +kernel) (Nat.le_of_ble_eq_true rfl) rfl ?_
  intro Γ hd G F hini
  obtain ⟨⟨r1, ⟨ra, rb, rc, rd, re⟩, rt, rtl, rp, rpl, rdr, rep, rday⟩, ⟨l0, l1, l2, l3, l4⟩, ht, hcs, hps, hds, hes, hls⟩ := id h
  subst hd
  refine g_lload_n G dX7_digestLetters_0 rfl ?_
  refine g_lstore_n G dX7_digestLetters_1 (gSt2_3 (by first | rfl | exact g_c1_rf)) ?_
  refine g_iconst (v := nI 0) G dX7_digestLetters_2 (by decide) ?_
  refine g_istore G dX7_digestLetters_3 (gSt_5 (by first | rfl | exact g_c1_rf)) ?_
  have hN := l4.2.2.1
  have loop : ∀ f j : Nat, j ≤ mN M 23 → mN M 23 + 1 ≤ j + f → ∀ w : Option Value, gW Γ 5 [some (.ref x), some (.long d), none, some (.long (gDgL M d (j))), none, some (.int (nI (j))), w] [] S 0 0 := by
    intro f
    induction f with
    | zero => intro j h1 h2; omega
    | succ f ih =>
      intro j hj hf w
      refine g_iload G dX7_digestLetters_5 rfl ?_
      first | refine g_aload_n G dX7_digestLetters_7 rfl ?_ | refine g_aload_nN G dX7_digestLetters_7 rfl ?_ | refine g_aload_nQ G dX7_digestLetters_7 rfl ?_
      first | refine g_getR G fl_X7_25 (by assumption) (by first | decide | omega) rfl (by assumption) dX7_digestLetters_8 ?_ | refine g_getZ G fl_X7_25 (by assumption) (by first | decide | omega) rfl (by assumption) dX7_digestLetters_8 ?_ | refine g_getQ G fl_X7_25 (by assumption) (by first | decide | omega) rfl (by first | assumption | rfl) dX7_digestLetters_8 ?_
      refine g_callVp (ci := 0) G (c_Jx4a65c_size_8abf5 _ S (ad 5 4) 5 (mN M 23) (ad 4) l4) mt_Jx4a65c_size_8abf5 mi_Jx4a65c_size_8abf5 ml_X7_80 (l4.1) (by first | decide | omega) rfl (by decide) (by omega) (by omega) rfl (Nat.le_of_ble_eq_true rfl) dX7_digestLetters_11 ?_
      refine g_icmp_ge (tgt := 63) G dX7_digestLetters_14 (by decide) (fun c_14 => ?_) (fun c_14 => ?_)
      · have ej : j = mN M 23 := by have := (nI_leI (by omega) (by omega)).mp c_14; omega
        subst ej
        refine g_lload_n G dX7_digestLetters_63 rfl ?_
        exact g_lret G F (gRl rfl) (by omega) (by omega) dX7_digestLetters_64
      · have hlt : j < mN M 23 := by have z : ¬ mN M 23 ≤ j := fun z => c_14 ((nI_leI (by omega) (by omega)).mpr z); omega
        refine g_iconst (v := nI 0) G dX7_digestLetters_17 (by decide) ?_
        refine g_istore G dX7_digestLetters_18 (gSt_6 (by first | rfl | exact g_c1_rf)) ?_
        have inner20 : ∀ f2 t : Nat, t ≤ 5 → 5 + 1 ≤ t + f2 → gW Γ 20 [some (.ref x), some (.long d), none, some (.long (gDg (gTellLtr M j) (gDgL M d j) (t))), none, some (.int (nI j)), some (.int (nI (t)))] [] S 0 0 := by
          intro f2
          induction f2 with
          | zero => intro t q1 q2; omega
          | succ f2 ih2 =>
            intro t ht2 hf2 
            refine g_iload G dX7_digestLetters_20 rfl ?_
            refine g_iconst (v := nI 4) G dX7_digestLetters_22 (by decide) ?_
            refine g_icmp_gt (tgt := 57) G dX7_digestLetters_23 (by decide) (fun c_23 => ?_) (fun c_23 => ?_)
            · have et : t = 5 := by have := (nI_ltI (by omega) (by omega)).mp c_23; omega
              subst et
              refine g_iinc (v := _) G dX7_digestLetters_57 rfl (by first | exact nI_1 _ | rfl) (gSt_5 (by first | rfl | exact g_c1_rf)) ?_
              refine g_goto (tgt := 5) G dX7_digestLetters_60 (by decide) ?_
              exact ih (j + 1) (by omega) (by omega) _
            · have hlt2 : t < 5 := by have z : ¬ 4 < t := fun z => c_23 (nI_lt z (by omega)); omega
              refine g_lload_n G dX7_digestLetters_26 rfl ?_
              refine g_ldc2 G k_X7_379 dX7_digestLetters_27 ?_
              refine g_lmul G dX7_digestLetters_30 (rfl) ?_
              first | refine g_aload_n G dX7_digestLetters_31 rfl ?_ | refine g_aload_nN G dX7_digestLetters_31 rfl ?_ | refine g_aload_nQ G dX7_digestLetters_31 rfl ?_
              first | refine g_getR G fl_X7_25 (by assumption) (by first | decide | omega) rfl (by assumption) dX7_digestLetters_32 ?_ | refine g_getZ G fl_X7_25 (by assumption) (by first | decide | omega) rfl (by assumption) dX7_digestLetters_32 ?_ | refine g_getQ G fl_X7_25 (by assumption) (by first | decide | omega) rfl (by first | assumption | rfl) dX7_digestLetters_32 ?_
              refine g_iload G dX7_digestLetters_35 rfl ?_
              refine g_callVp (ci := 0) G (c_Jx4a65c_get_915e3 _ S (ad 5 4) 5 (mN M 23) j (ad 4) l4 hlt) mt_Jx4a65c_get_915e3 mi_Jx4a65c_get_915e3 ml_X7_300 (l4.1) (by first | decide | omega) rfl (by decide) (by omega) (by omega) rfl (Nat.le_of_ble_eq_true rfl) dX7_digestLetters_37 ?_
              refine g_cast (ci := 5) G ((hls j hlt).1) (by first | decide | omega) rfl cl_X7_312 dX7_digestLetters_40 ?_
              refine g_iload G dX7_digestLetters_43 rfl ?_
              refine g_callSp G (c_X7_tellLetter _ S x ad M h j t hlt (by omega)) mt_X7_tellLetter ms_X7_tellLetter ml_X7_323 (by decide) (by omega) (by omega) rfl (Nat.le_of_ble_eq_true rfl) dX7_digestLetters_45 ?_
              refine g_i2l G dX7_digestLetters_48 (rfl) ?_
              refine g_ladd G dX7_digestLetters_49 (rfl) ?_
              refine g_lstore_n G dX7_digestLetters_50 (gSt2_3 (by first | rfl | exact g_c1_rf)) ?_
              refine g_iinc (v := _) G dX7_digestLetters_51 rfl (by first | exact nI_1 _ | rfl) (gSt_6 (by first | rfl | exact g_c1_rf)) ?_
              refine g_goto (tgt := 20) G dX7_digestLetters_54 (by decide) ?_
              exact ih2 (t + 1) (by omega) (by omega)
        exact inner20 (5 + 1) 0 (by omega) (by omega)
  exact loop (mN M 23 + 1) 0 (by omega) (by omega) _

set_option maxHeartbeats 4000000 in
set_option maxRecDepth 100000 in
theorem c_X7_digestDocuments (d0 : Nat × Nat) (S : gS) (x : Nat) (ad : Nat → Nat → Nat) (M : gM) (h : gMail d0 S x ad M) (d : Int64) : gCt d0 yX7_digestDocuments cX7_digestDocuments 8 (some .long) 4 0 0 [.ref x, .long d] S (gRet (.long (gDgD M d (mN M 11))) S) gNo := by
  refine gCt_of (lo := [some (.ref x), some (.long d), none, none, none, none, none, none]) (by decide +kernel) (Nat.le_of_ble_eq_true rfl) rfl ?_
  intro Γ hd G F hini
  obtain ⟨⟨r1, ⟨ra, rb, rc, rd, re⟩, rt, rtl, rp, rpl, rdr, rep, rday⟩, ⟨l0, l1, l2, l3, l4⟩, ht, hcs, hps, hds, hes, hls⟩ := id h
  subst hd
  refine g_lload_n G dX7_digestDocuments_0 rfl ?_
  refine g_lstore_n G dX7_digestDocuments_1 (gSt2_3 (by first | rfl | exact g_c1_rf)) ?_
  refine g_iconst (v := nI 0) G dX7_digestDocuments_2 (by decide) ?_
  refine g_istore G dX7_digestDocuments_3 (gSt_5 (by first | rfl | exact g_c1_rf)) ?_
  have hN := l2.2.2.1
  have loop : ∀ f j : Nat, j ≤ mN M 11 → mN M 11 + 1 ≤ j + f → ∀ w w2 : Option Value, gW Γ 5 [some (.ref x), some (.long d), none, some (.long (gDgD M d j)), none, some (.int (nI j)), w, w2] [] S 0 0 := by
    intro f
    induction f with
    | zero => intro j h1 h2; omega
    | succ f ih =>
      intro j hj hf w w2
      refine g_iload G dX7_digestDocuments_5 rfl ?_
      first | refine g_aload_n G dX7_digestDocuments_7 rfl ?_ | refine g_aload_nN G dX7_digestDocuments_7 rfl ?_ | refine g_aload_nQ G dX7_digestDocuments_7 rfl ?_
      first | refine g_getR G fl_X7_19 (by assumption) (by first | decide | omega) rfl (by assumption) dX7_digestDocuments_8 ?_ | refine g_getZ G fl_X7_19 (by assumption) (by first | decide | omega) rfl (by assumption) dX7_digestDocuments_8 ?_ | refine g_getQ G fl_X7_19 (by assumption) (by first | decide | omega) rfl (by first | assumption | rfl) dX7_digestDocuments_8 ?_
      refine g_callVp (ci := 0) G (c_Jx4a65c_size_8abf5 _ S (ad 5 2) 3 (mN M 11) (ad 2) l2) mt_Jx4a65c_size_8abf5 mi_Jx4a65c_size_8abf5 ml_X7_80 (l2.1) (by first | decide | omega) rfl (by decide) (by omega) (by omega) rfl (Nat.le_of_ble_eq_true rfl) dX7_digestDocuments_11 ?_
      refine g_icmp_ge (tgt := 131) G dX7_digestDocuments_14 (by decide) (fun c_14 => ?_) (fun c_14 => ?_)
      · have ej : j = mN M 11 := by have := (nI_leI (by omega) (by omega)).mp c_14; omega
        subst ej
        refine g_lload_n G dX7_digestDocuments_131 rfl ?_
        exact g_lret G F (gRl rfl) (by omega) (by omega) dX7_digestDocuments_132
      · have hlt : j < mN M 11 := by have z : ¬ mN M 11 ≤ j := fun z => c_14 ((nI_leI (by omega) (by omega)).mpr z); omega
        obtain ⟨k1, ⟨kc, kc1, kc2, kc3⟩, ⟨k2, k3, k4⟩, ⟨k5, k6, k7, k8, kpr⟩, kl, ⟨t1, t2, t3⟩, ⟨v1, v2, v3⟩, k9⟩ := hds j hlt
        first | refine g_aload_n G dX7_digestDocuments_17 rfl ?_ | refine g_aload_nN G dX7_digestDocuments_17 rfl ?_ | refine g_aload_nQ G dX7_digestDocuments_17 rfl ?_
        first | refine g_getR G fl_X7_19 (by assumption) (by first | decide | omega) rfl (by assumption) dX7_digestDocuments_18 ?_ | refine g_getZ G fl_X7_19 (by assumption) (by first | decide | omega) rfl (by assumption) dX7_digestDocuments_18 ?_ | refine g_getQ G fl_X7_19 (by assumption) (by first | decide | omega) rfl (by first | assumption | rfl) dX7_digestDocuments_18 ?_
        refine g_iload G dX7_digestDocuments_21 rfl ?_
        refine g_callVp (ci := 0) G (c_Jx4a65c_get_915e3 _ S (ad 5 2) 3 (mN M 11) j (ad 2) l2 hlt) mt_Jx4a65c_get_915e3 mi_Jx4a65c_get_915e3 ml_X7_300 (l2.1) (by first | decide | omega) rfl (by decide) (by omega) (by omega) rfl (Nat.le_of_ble_eq_true rfl) dX7_digestDocuments_23 ?_
        refine g_cast (ci := 2) G (by assumption) (by first | decide | omega) rfl cl_X7_95 dX7_digestDocuments_26 ?_
        first | refine g_astore G dX7_digestDocuments_29 (gSt_6 (by first | rfl | exact g_c1_rf)) ?_ | refine g_astoreN G dX7_digestDocuments_29 (gSt_6 (by first | rfl | exact g_c1_rf)) ?_ | refine g_astoreQ G dX7_digestDocuments_29 (gSt_6 (by first | rfl | exact g_c1_rf)) ?_
        refine g_iconst (v := nI 0) G dX7_digestDocuments_31 (by decide) ?_
        refine g_istore G dX7_digestDocuments_32 (gSt_7 (by first | rfl | exact g_c1_rf)) ?_
        have inner34 : ∀ f2 t : Nat, t ≤ 8 → 8 + 1 ≤ t + f2 → gW Γ 34 [some (.ref x), some (.long d), none, some (.long (gDg (gTellDoc M j) (gDgD M d j) (t))), none, some (.int (nI j)), some (.ref (ad 2 j)), some (.int (nI (t)))] [] S 0 0 := by
          intro f2
          induction f2 with
          | zero => intro t q1 q2; omega
          | succ f2 ih2 =>
            intro t ht2 hf2 
            refine g_iload G dX7_digestDocuments_34 rfl ?_
            refine g_bipush (v := nI 7) G dX7_digestDocuments_36 (by decide) ?_
            refine g_icmp_gt (tgt := 62) G dX7_digestDocuments_38 (by decide) (fun c_38 => ?_) (fun c_38 => ?_)
            · have et : t = 8 := by have := (nI_ltI (by omega) (by omega)).mp c_38; omega
              subst et
              refine g_iconst (v := nI 0) G dX7_digestDocuments_62 (by decide) ?_
              refine g_istore G dX7_digestDocuments_63 (gSt_7 (by first | rfl | exact g_c1_rf)) ?_
              have inner65 : ∀ f2 u : Nat, u ≤ (mN M (100 + j)) → (mN M (100 + j)) + 1 ≤ u + f2 → gW Γ 65 [some (.ref x), some (.long d), none, some (.long (gDg2 (mT M 13 j) (mT M 14 j) (gDg (gTellDoc M j) (gDgD M d j) 8) (u))), none, some (.int (nI j)), some (.ref (ad 2 j)), some (.int (nI (u)))] [] S 0 0 := by
                intro f2
                induction f2 with
                | zero => intro u q1 q2; omega
                | succ f2 ih2 =>
                  intro u ht2 hf2 
                  refine g_iload G dX7_digestDocuments_65 rfl ?_
                  first | refine g_aload G dX7_digestDocuments_67 rfl ?_ | refine g_aloadN G dX7_digestDocuments_67 rfl ?_ | refine g_aloadQ G dX7_digestDocuments_67 rfl ?_
                  first | refine g_getR G fl_X7_202 (by assumption) (by first | decide | omega) rfl (by assumption) dX7_digestDocuments_69 ?_ | refine g_getZ G fl_X7_202 (by assumption) (by first | decide | omega) rfl (by assumption) dX7_digestDocuments_69 ?_ | refine g_getQ G fl_X7_202 (by assumption) (by first | decide | omega) rfl (by first | assumption | rfl) dX7_digestDocuments_69 ?_
                  refine g_alen G (t1) (by first | decide | omega) (by first | assumption | rfl) dX7_digestDocuments_72 ?_
                  refine g_icmp_ge (tgt := 125) G dX7_digestDocuments_73 (by decide) (fun c_73 => ?_) (fun c_73 => ?_)
                  · have et : u = (mN M (100 + j)) := by have := (nI_leI (by omega) (by omega)).mp c_73; omega
                    subst et
                    refine g_iinc (v := _) G dX7_digestDocuments_125 rfl (by first | exact nI_1 _ | rfl) (gSt_5 (by first | rfl | exact g_c1_rf)) ?_
                    refine g_goto (tgt := 5) G dX7_digestDocuments_128 (by decide) ?_
                    exact ih (j + 1) (by omega) (by omega) _ _
                  · have hlt2 : u < (mN M (100 + j)) := by have z : ¬ (mN M (100 + j)) ≤ u := fun z => c_73 ((nI_leI (by omega) (by omega)).mpr z); omega
                    refine g_iload G dX7_digestDocuments_76 rfl ?_
                    first | refine g_aload G dX7_digestDocuments_78 rfl ?_ | refine g_aloadN G dX7_digestDocuments_78 rfl ?_ | refine g_aloadQ G dX7_digestDocuments_78 rfl ?_
                    first | refine g_getR G fl_X7_499 (by assumption) (by first | decide | omega) rfl (by assumption) dX7_digestDocuments_80 ?_ | refine g_getZ G fl_X7_499 (by assumption) (by first | decide | omega) rfl (by assumption) dX7_digestDocuments_80 ?_ | refine g_getQ G fl_X7_499 (by assumption) (by first | decide | omega) rfl (by first | assumption | rfl) dX7_digestDocuments_80 ?_
                    refine g_alen G (v1) (by first | decide | omega) (by first | assumption | rfl) dX7_digestDocuments_83 ?_
                    refine g_icmp_ge (tgt := 125) G dX7_digestDocuments_84 (by decide) (fun c_84 => (absurd c_84 (nI_ge (a := u) (b := mN M (100 + j)) hlt2 (by omega)))) (fun c_84 => ?_)
                    refine g_lload_n G dX7_digestDocuments_87 rfl ?_
                    refine g_ldc2 G k_X7_379 dX7_digestDocuments_88 ?_
                    refine g_lmul G dX7_digestDocuments_91 (rfl) ?_
                    first | refine g_aload G dX7_digestDocuments_92 rfl ?_ | refine g_aloadN G dX7_digestDocuments_92 rfl ?_ | refine g_aloadQ G dX7_digestDocuments_92 rfl ?_
                    first | refine g_getR G fl_X7_202 (by assumption) (by first | decide | omega) rfl (by assumption) dX7_digestDocuments_94 ?_ | refine g_getZ G fl_X7_202 (by assumption) (by first | decide | omega) rfl (by assumption) dX7_digestDocuments_94 ?_ | refine g_getQ G fl_X7_202 (by assumption) (by first | decide | omega) rfl (by first | assumption | rfl) dX7_digestDocuments_94 ?_
                    refine g_iload G dX7_digestDocuments_97 rfl ?_
                    refine g_bald G (t1) (by first | decide | omega) (by omega) (by omega) (t3 u hlt2) dX7_digestDocuments_99 ?_
                    refine g_i2l G dX7_digestDocuments_100 (rfl) ?_
                    refine g_ladd G dX7_digestDocuments_101 (rfl) ?_
                    refine g_lstore_n G dX7_digestDocuments_102 (gSt2_3 (by first | rfl | exact g_c1_rf)) ?_
                    refine g_lload_n G dX7_digestDocuments_103 rfl ?_
                    refine g_ldc2 G k_X7_379 dX7_digestDocuments_104 ?_
                    refine g_lmul G dX7_digestDocuments_107 (rfl) ?_
                    first | refine g_aload G dX7_digestDocuments_108 rfl ?_ | refine g_aloadN G dX7_digestDocuments_108 rfl ?_ | refine g_aloadQ G dX7_digestDocuments_108 rfl ?_
                    first | refine g_getR G fl_X7_499 (by assumption) (by first | decide | omega) rfl (by assumption) dX7_digestDocuments_110 ?_ | refine g_getZ G fl_X7_499 (by assumption) (by first | decide | omega) rfl (by assumption) dX7_digestDocuments_110 ?_ | refine g_getQ G fl_X7_499 (by assumption) (by first | decide | omega) rfl (by first | assumption | rfl) dX7_digestDocuments_110 ?_
                    refine g_iload G dX7_digestDocuments_113 rfl ?_
                    refine g_bald G (v1) (by first | decide | omega) (by omega) (by omega) (v3 u hlt2) dX7_digestDocuments_115 ?_
                    refine g_i2l G dX7_digestDocuments_116 (rfl) ?_
                    refine g_ladd G dX7_digestDocuments_117 (rfl) ?_
                    refine g_lstore_n G dX7_digestDocuments_118 (gSt2_3 (by first | rfl | exact g_c1_rf)) ?_
                    refine g_iinc (v := _) G dX7_digestDocuments_119 rfl (by first | exact nI_1 _ | rfl) (gSt_7 (by first | rfl | exact g_c1_rf)) ?_
                    refine g_goto (tgt := 65) G dX7_digestDocuments_122 (by decide) ?_
                    exact ih2 (u + 1) (by omega) (by omega)
              exact inner65 ((mN M (100 + j)) + 1) 0 (by omega) (by omega)
            · have hlt2 : t < 8 := by have z : ¬ 7 < t := fun z => c_38 (nI_lt z (by omega)); omega
              refine g_lload_n G dX7_digestDocuments_41 rfl ?_
              refine g_ldc2 G k_X7_379 dX7_digestDocuments_42 ?_
              refine g_lmul G dX7_digestDocuments_45 (rfl) ?_
              first | refine g_aload G dX7_digestDocuments_46 rfl ?_ | refine g_aloadN G dX7_digestDocuments_46 rfl ?_ | refine g_aloadQ G dX7_digestDocuments_46 rfl ?_
              refine g_iload G dX7_digestDocuments_48 rfl ?_
              refine g_callSp G (c_X7_tellDocument _ S x ad M h j t hlt (by omega)) mt_X7_tellDocument ms_X7_tellDocument ml_X7_126 (by decide) (by omega) (by omega) rfl (Nat.le_of_ble_eq_true rfl) dX7_digestDocuments_50 ?_
              refine g_i2l G dX7_digestDocuments_53 (rfl) ?_
              refine g_ladd G dX7_digestDocuments_54 (rfl) ?_
              refine g_lstore_n G dX7_digestDocuments_55 (gSt2_3 (by first | rfl | exact g_c1_rf)) ?_
              refine g_iinc (v := _) G dX7_digestDocuments_56 rfl (by first | exact nI_1 _ | rfl) (gSt_7 (by first | rfl | exact g_c1_rf)) ?_
              refine g_goto (tgt := 34) G dX7_digestDocuments_59 (by decide) ?_
              exact ih2 (t + 1) (by omega) (by omega)
        exact inner34 (8 + 1) 0 (by omega) (by omega)
  exact loop (mN M 11 + 1) 0 (by omega) (by omega) _ _

set_option maxHeartbeats 4000000 in
set_option maxRecDepth 100000 in
theorem c_X7_digestExhibits (d0 : Nat × Nat) (S : gS) (x : Nat) (ad : Nat → Nat → Nat) (M : gM) (h : gMail d0 S x ad M) (d : Int64) : gCt d0 yX7_digestExhibits cX7_digestExhibits 9 (some .long) 7 0 0 [.ref x, .long d] S (gRet (.long (gDgE M d (mN M 17))) S) gNo := by
  refine gCt_of (lo := [some (.ref x), some (.long d), none, none, none, none, none, none, none]) (by decide +kernel) (Nat.le_of_ble_eq_true rfl) rfl ?_
  intro Γ hd G F hini
  obtain ⟨⟨r1, ⟨ra, rb, rc, rd, re⟩, rt, rtl, rp, rpl, rdr, rep, rday⟩, ⟨l0, l1, l2, l3, l4⟩, ht, hcs, hps, hds, hes, hls⟩ := id h
  subst hd
  refine g_lload_n G dX7_digestExhibits_0 rfl ?_
  refine g_lstore_n G dX7_digestExhibits_1 (gSt2_3 (by first | rfl | exact g_c1_rf)) ?_
  refine g_iconst (v := nI 0) G dX7_digestExhibits_2 (by decide) ?_
  refine g_istore G dX7_digestExhibits_3 (gSt_5 (by first | rfl | exact g_c1_rf)) ?_
  have hN := l3.2.2.1
  have loop : ∀ f j : Nat, j ≤ mN M 17 → mN M 17 + 1 ≤ j + f → ∀ w w2 w3 : Option Value, gW Γ 5 [some (.ref x), some (.long d), none, some (.long (gDgE M d j)), none, some (.int (nI j)), w, w2, w3] [] S 0 0 := by
    intro f
    induction f with
    | zero => intro j h1 h2; omega
    | succ f ih =>
      intro j hj hf w w2 w3
      refine g_iload G dX7_digestExhibits_5 rfl ?_
      first | refine g_aload_n G dX7_digestExhibits_7 rfl ?_ | refine g_aload_nN G dX7_digestExhibits_7 rfl ?_ | refine g_aload_nQ G dX7_digestExhibits_7 rfl ?_
      first | refine g_getR G fl_X7_22 (by assumption) (by first | decide | omega) rfl (by assumption) dX7_digestExhibits_8 ?_ | refine g_getZ G fl_X7_22 (by assumption) (by first | decide | omega) rfl (by assumption) dX7_digestExhibits_8 ?_ | refine g_getQ G fl_X7_22 (by assumption) (by first | decide | omega) rfl (by first | assumption | rfl) dX7_digestExhibits_8 ?_
      refine g_callVp (ci := 0) G (c_Jx4a65c_size_8abf5 _ S (ad 5 3) 4 (mN M 17) (ad 3) l3) mt_Jx4a65c_size_8abf5 mi_Jx4a65c_size_8abf5 ml_X7_80 (l3.1) (by first | decide | omega) rfl (by decide) (by omega) (by omega) rfl (Nat.le_of_ble_eq_true rfl) dX7_digestExhibits_11 ?_
      refine g_icmp_ge (tgt := 132) G dX7_digestExhibits_14 (by decide) (fun c_14 => ?_) (fun c_14 => ?_)
      · have ej : j = mN M 17 := by have := (nI_leI (by omega) (by omega)).mp c_14; omega
        subst ej
        refine g_lload_n G dX7_digestExhibits_132 rfl ?_
        exact g_lret G F (gRl rfl) (by omega) (by omega) dX7_digestExhibits_133
      · have hlt : j < mN M 17 := by have z : ¬ mN M 17 ≤ j := fun z => c_14 ((nI_leI (by omega) (by omega)).mpr z); omega
        obtain ⟨k1, k2, ⟨kc, kc1, kc2, kc3⟩, ⟨k4, k5, k6, k7, kw⟩, k8, k9, k10⟩ := hes j hlt
        first | refine g_aload_n G dX7_digestExhibits_17 rfl ?_ | refine g_aload_nN G dX7_digestExhibits_17 rfl ?_ | refine g_aload_nQ G dX7_digestExhibits_17 rfl ?_
        first | refine g_getR G fl_X7_22 (by assumption) (by first | decide | omega) rfl (by assumption) dX7_digestExhibits_18 ?_ | refine g_getZ G fl_X7_22 (by assumption) (by first | decide | omega) rfl (by assumption) dX7_digestExhibits_18 ?_ | refine g_getQ G fl_X7_22 (by assumption) (by first | decide | omega) rfl (by first | assumption | rfl) dX7_digestExhibits_18 ?_
        refine g_iload G dX7_digestExhibits_21 rfl ?_
        refine g_callVp (ci := 0) G (c_Jx4a65c_get_915e3 _ S (ad 5 3) 4 (mN M 17) j (ad 3) l3 hlt) mt_Jx4a65c_get_915e3 mi_Jx4a65c_get_915e3 ml_X7_300 (l3.1) (by first | decide | omega) rfl (by decide) (by omega) (by omega) rfl (Nat.le_of_ble_eq_true rfl) dX7_digestExhibits_23 ?_
        refine g_cast (ci := 4) G (by assumption) (by first | decide | omega) rfl cl_X7_241 dX7_digestExhibits_26 ?_
        first | refine g_astore G dX7_digestExhibits_29 (gSt_6 (by first | rfl | exact g_c1_rf)) ?_ | refine g_astoreN G dX7_digestExhibits_29 (gSt_6 (by first | rfl | exact g_c1_rf)) ?_ | refine g_astoreQ G dX7_digestExhibits_29 (gSt_6 (by first | rfl | exact g_c1_rf)) ?_
        refine g_iconst (v := nI 0) G dX7_digestExhibits_31 (by decide) ?_
        refine g_istore G dX7_digestExhibits_32 (gSt_7 (by first | rfl | exact g_c1_rf)) ?_
        have inner34 : ∀ f2 t : Nat, t ≤ 7 → 7 + 1 ≤ t + f2 → gW Γ 34 [some (.ref x), some (.long d), none, some (.long (gDg (gTellExh M j) (gDgE M d j) (t))), none, some (.int (nI j)), some (.ref (ad 3 j)), some (.int (nI (t))), w3] [] S 0 0 := by
          intro f2
          induction f2 with
          | zero => intro t q1 q2; omega
          | succ f2 ih2 =>
            intro t ht2 hf2 
            refine g_iload G dX7_digestExhibits_34 rfl ?_
            refine g_bipush (v := nI 6) G dX7_digestExhibits_36 (by decide) ?_
            refine g_icmp_gt (tgt := 63) G dX7_digestExhibits_38 (by decide) (fun c_38 => ?_) (fun c_38 => ?_)
            · have et : t = 7 := by have := (nI_ltI (by omega) (by omega)).mp c_38; omega
              subst et
              refine g_iconst (v := nI 0) G dX7_digestExhibits_63 (by decide) ?_
              refine g_istore G dX7_digestExhibits_64 (gSt_7 (by first | rfl | exact g_c1_rf)) ?_
              have inner66 : ∀ f2 u : Nat, u ≤ (mN M (200 + j)) → (mN M (200 + j)) + 1 ≤ u + f2 → ∀ w9 : Option Value, gW Γ 66 [some (.ref x), some (.long d), none, some (.long (gDgK M j (gDg (gTellExh M j) (gDgE M d j) 7) (u))), none, some (.int (nI j)), some (.ref (ad 3 j)), some (.int (nI (u))), w9] [] S 0 0 := by
                intro f2
                induction f2 with
                | zero => intro u q1 q2; omega
                | succ f2 ih2 =>
                  intro u ht2 hf2 w9
                  refine g_iload G dX7_digestExhibits_66 rfl ?_
                  first | refine g_aload G dX7_digestExhibits_68 rfl ?_ | refine g_aloadN G dX7_digestExhibits_68 rfl ?_ | refine g_aloadQ G dX7_digestExhibits_68 rfl ?_
                  first | refine g_getR G fl_X7_278 (by assumption) (by first | decide | omega) rfl (by assumption) dX7_digestExhibits_70 ?_ | refine g_getZ G fl_X7_278 (by assumption) (by first | decide | omega) rfl (by assumption) dX7_digestExhibits_70 ?_ | refine g_getQ G fl_X7_278 (by assumption) (by first | decide | omega) rfl (by first | assumption | rfl) dX7_digestExhibits_70 ?_
                  refine g_callVp (ci := 0) G (c_Jx4a65c_size_8abf5 _ S (ad 10 j) (10 + j) (mN M (200 + j)) (ad (20 + j)) k9) mt_Jx4a65c_size_8abf5 mi_Jx4a65c_size_8abf5 ml_X7_80 (k9.1) (by first | decide | omega) rfl (by decide) (by omega) (by omega) rfl (Nat.le_of_ble_eq_true rfl) dX7_digestExhibits_73 ?_
                  refine g_icmp_ge (tgt := 126) G dX7_digestExhibits_76 (by decide) (fun c_76 => ?_) (fun c_76 => ?_)
                  · have et : u = (mN M (200 + j)) := by have := (nI_leI (by omega) (by omega)).mp c_76; omega
                    subst et
                    refine g_iinc (v := _) G dX7_digestExhibits_126 rfl (by first | exact nI_1 _ | rfl) (gSt_5 (by first | rfl | exact g_c1_rf)) ?_
                    refine g_goto (tgt := 5) G dX7_digestExhibits_129 (by decide) ?_
                    exact ih (j + 1) (by omega) (by omega) _ _ _
                  · have hlt2 : u < (mN M (200 + j)) := by have z : ¬ (mN M (200 + j)) ≤ u := fun z => c_76 ((nI_leI (by omega) (by omega)).mpr z); omega
                    have ih3 := ih2
                    have hlu := hlt2
                    refine g_iconst (v := nI 0) G dX7_digestExhibits_79 (by decide) ?_
                    refine g_istore G dX7_digestExhibits_80 (gSt_8 (by first | rfl | exact g_c1_rf)) ?_
                    have inner82 : ∀ f2 y : Nat, y ≤ 4 → 4 + 1 ≤ y + f2 → gW Γ 82 [some (.ref x), some (.long d), none, some (.long (gDg (gTellLink M j u) (gDgK M j (gDg (gTellExh M j) (gDgE M d j) 7) u) (y))), none, some (.int (nI j)), some (.ref (ad 3 j)), some (.int (nI u)), some (.int (nI (y)))] [] S 0 0 := by
                      intro f2
                      induction f2 with
                      | zero => intro y q1 q2; omega
                      | succ f2 ih2 =>
                        intro y ht2 hf2 
                        refine g_iload G dX7_digestExhibits_82 rfl ?_
                        refine g_iconst (v := nI 3) G dX7_digestExhibits_84 (by decide) ?_
                        refine g_icmp_gt (tgt := 120) G dX7_digestExhibits_85 (by decide) (fun c_85 => ?_) (fun c_85 => ?_)
                        · have et : y = 4 := by have := (nI_ltI (by omega) (by omega)).mp c_85; omega
                          subst et
                          refine g_iinc (v := _) G dX7_digestExhibits_120 rfl (by first | exact nI_1 _ | rfl) (gSt_7 (by first | rfl | exact g_c1_rf)) ?_
                          refine g_goto (tgt := 66) G dX7_digestExhibits_123 (by decide) ?_
                          exact ih3 (u + 1) (by omega) (by omega) _
                        · have hlt2 : y < 4 := by have z : ¬ 3 < y := fun z => c_85 (nI_lt z (by omega)); omega
                          refine g_lload_n G dX7_digestExhibits_88 rfl ?_
                          refine g_ldc2 G k_X7_379 dX7_digestExhibits_89 ?_
                          refine g_lmul G dX7_digestExhibits_92 (rfl) ?_
                          first | refine g_aload G dX7_digestExhibits_93 rfl ?_ | refine g_aloadN G dX7_digestExhibits_93 rfl ?_ | refine g_aloadQ G dX7_digestExhibits_93 rfl ?_
                          first | refine g_getR G fl_X7_278 (by assumption) (by first | decide | omega) rfl (by assumption) dX7_digestExhibits_95 ?_ | refine g_getZ G fl_X7_278 (by assumption) (by first | decide | omega) rfl (by assumption) dX7_digestExhibits_95 ?_ | refine g_getQ G fl_X7_278 (by assumption) (by first | decide | omega) rfl (by first | assumption | rfl) dX7_digestExhibits_95 ?_
                          refine g_iload G dX7_digestExhibits_98 rfl ?_
                          refine g_callVp (ci := 0) G (c_Jx4a65c_get_915e3 _ S (ad 10 j) (10 + j) (mN M (200 + j)) u (ad (20 + j)) k9 hlu) mt_Jx4a65c_get_915e3 mi_Jx4a65c_get_915e3 ml_X7_300 (k9.1) (by first | decide | omega) rfl (by decide) (by omega) (by omega) rfl (Nat.le_of_ble_eq_true rfl) dX7_digestExhibits_100 ?_
                          refine g_cast (ci := 6) G ((k10 u hlu).1) (by first | decide | omega) rfl cl_X7_269 dX7_digestExhibits_103 ?_
                          refine g_iload G dX7_digestExhibits_106 rfl ?_
                          refine g_callSp G (c_X7_tellLink _ S x ad M h j u y hlt hlu (by omega)) mt_X7_tellLink ms_X7_tellLink ml_X7_304 (by decide) (by omega) (by omega) rfl (Nat.le_of_ble_eq_true rfl) dX7_digestExhibits_108 ?_
                          refine g_i2l G dX7_digestExhibits_111 (rfl) ?_
                          refine g_ladd G dX7_digestExhibits_112 (rfl) ?_
                          refine g_lstore_n G dX7_digestExhibits_113 (gSt2_3 (by first | rfl | exact g_c1_rf)) ?_
                          refine g_iinc (v := _) G dX7_digestExhibits_114 rfl (by first | exact nI_1 _ | rfl) (gSt_8 (by first | rfl | exact g_c1_rf)) ?_
                          refine g_goto (tgt := 82) G dX7_digestExhibits_117 (by decide) ?_
                          exact ih2 (y + 1) (by omega) (by omega)
                    exact inner82 (4 + 1) 0 (by omega) (by omega)
              exact inner66 ((mN M (200 + j)) + 1) 0 (by omega) (by omega) _
            · have hlt2 : t < 7 := by have z : ¬ 6 < t := fun z => c_38 (nI_lt z (by omega)); omega
              refine g_lload_n G dX7_digestExhibits_41 rfl ?_
              refine g_ldc2 G k_X7_379 dX7_digestExhibits_42 ?_
              refine g_lmul G dX7_digestExhibits_45 (rfl) ?_
              first | refine g_aload_n G dX7_digestExhibits_46 rfl ?_ | refine g_aload_nN G dX7_digestExhibits_46 rfl ?_ | refine g_aload_nQ G dX7_digestExhibits_46 rfl ?_
              first | refine g_aload G dX7_digestExhibits_47 rfl ?_ | refine g_aloadN G dX7_digestExhibits_47 rfl ?_ | refine g_aloadQ G dX7_digestExhibits_47 rfl ?_
              refine g_iload G dX7_digestExhibits_49 rfl ?_
              refine g_callVp (ci := 8) G (c_X7_tellExhibit _ S x ad M h j t hlt (by omega)) mt_X7_tellExhibit mi_X7_tellExhibit ml_X7_294 (by assumption) (by first | decide | omega) rfl (by decide) (by omega) (by omega) rfl (Nat.le_of_ble_eq_true rfl) dX7_digestExhibits_51 ?_
              refine g_i2l G dX7_digestExhibits_54 (rfl) ?_
              refine g_ladd G dX7_digestExhibits_55 (rfl) ?_
              refine g_lstore_n G dX7_digestExhibits_56 (gSt2_3 (by first | rfl | exact g_c1_rf)) ?_
              refine g_iinc (v := _) G dX7_digestExhibits_57 rfl (by first | exact nI_1 _ | rfl) (gSt_7 (by first | rfl | exact g_c1_rf)) ?_
              refine g_goto (tgt := 34) G dX7_digestExhibits_60 (by decide) ?_
              exact ih2 (t + 1) (by omega) (by omega)
        exact inner34 (7 + 1) 0 (by omega) (by omega)
  exact loop (mN M 17 + 1) 0 (by omega) (by omega) _ _ _

set_option maxHeartbeats 4000000 in
set_option maxRecDepth 100000 in
theorem c_X7_digest (d0 : Nat × Nat) (S : gS) (x : Nat) (ad : Nat → Nat → Nat) (M : gM) (h : gMail d0 S x ad M) (hB : gBnd M) : gCt d0 yX7_digest cX7_digest 4 (some .long) 8 0 0 [.ref x] S (gRet (.long (gDigest M)) S) gNo := by
  refine gCt_of (lo := [some (.ref x), none, none, none]) (by decide +kernel) (Nat.le_of_ble_eq_true rfl) rfl ?_
  intro Γ hd G F hini
  obtain ⟨⟨r1, ⟨ra, rb, rc, rd, re⟩, rt, rtl, rp, rpl, rdr, rep, rday⟩, ⟨l0, l1, l2, l3, l4⟩, ht, hcs, hps, hds, hes, hls⟩ := id h
  subst hd
  obtain ⟨t1, t2, t3, t4, t5, t6, t7, t8⟩ := ht
  refine g_ldc2 G k_X7_377 dX7_digest_0 ?_
  refine g_lstore_n G dX7_digest_3 (gSt2_1 (by first | rfl | exact g_c1_rf)) ?_
  refine g_iconst (v := nI 0) G dX7_digest_4 (by decide) ?_
  refine g_istore_n G dX7_digest_5 (gSt_3 (by first | rfl | exact g_c1_rf)) ?_
  have inner6 : ∀ f2 t : Nat, t ≤ 12 → 12 + 1 ≤ t + f2 → gW Γ 6 [some (.ref x), some (.long (gDg (gTellCount M) 653 (t))), none, some (.int (nI (t)))] [] S 0 0 := by
    intro f2
    induction f2 with
    | zero => intro t q1 q2; omega
    | succ f2 ih2 =>
      intro t ht2 hf2 
      refine g_iload_n G dX7_digest_6 rfl ?_
      refine g_bipush (v := nI 11) G dX7_digest_7 (by decide) ?_
      refine g_icmp_gt (tgt := 31) G dX7_digest_9 (by decide) (fun c_9 => ?_) (fun c_9 => ?_)
      · have et : t = 12 := by have := (nI_ltI (by omega) (by omega)).mp c_9; omega
        subst et
        first | refine g_aload_n G dX7_digest_31 rfl ?_ | refine g_aload_nN G dX7_digest_31 rfl ?_ | refine g_aload_nQ G dX7_digest_31 rfl ?_
        refine g_lload_n G dX7_digest_32 rfl ?_
        refine g_callVp (ci := 8) G (c_X7_digestCases _ S x ad M h hB _) mt_X7_digestCases mi_X7_digestCases ml_X7_381 (by assumption) (by first | decide | omega) rfl (by decide) (by omega) (by omega) rfl (Nat.le_of_ble_eq_true rfl) dX7_digest_33 ?_
        refine g_lstore_n G dX7_digest_36 (gSt2_1 (by first | rfl | exact g_c1_rf)) ?_
        first | refine g_aload_n G dX7_digest_37 rfl ?_ | refine g_aload_nN G dX7_digest_37 rfl ?_ | refine g_aload_nQ G dX7_digest_37 rfl ?_
        refine g_lload_n G dX7_digest_38 rfl ?_
        refine g_callVp (ci := 8) G (c_X7_digestPeople _ S x ad M h _) mt_X7_digestPeople mi_X7_digestPeople ml_X7_385 (by assumption) (by first | decide | omega) rfl (by decide) (by omega) (by omega) rfl (Nat.le_of_ble_eq_true rfl) dX7_digest_39 ?_
        refine g_lstore_n G dX7_digest_42 (gSt2_1 (by first | rfl | exact g_c1_rf)) ?_
        first | refine g_aload_n G dX7_digest_43 rfl ?_ | refine g_aload_nN G dX7_digest_43 rfl ?_ | refine g_aload_nQ G dX7_digest_43 rfl ?_
        refine g_lload_n G dX7_digest_44 rfl ?_
        refine g_callVp (ci := 8) G (c_X7_digestDocuments _ S x ad M h _) mt_X7_digestDocuments mi_X7_digestDocuments ml_X7_388 (by assumption) (by first | decide | omega) rfl (by decide) (by omega) (by omega) rfl (Nat.le_of_ble_eq_true rfl) dX7_digest_45 ?_
        refine g_lstore_n G dX7_digest_48 (gSt2_1 (by first | rfl | exact g_c1_rf)) ?_
        first | refine g_aload_n G dX7_digest_49 rfl ?_ | refine g_aload_nN G dX7_digest_49 rfl ?_ | refine g_aload_nQ G dX7_digest_49 rfl ?_
        refine g_lload_n G dX7_digest_50 rfl ?_
        refine g_callVp (ci := 8) G (c_X7_digestExhibits _ S x ad M h _) mt_X7_digestExhibits mi_X7_digestExhibits ml_X7_391 (by assumption) (by first | decide | omega) rfl (by decide) (by omega) (by omega) rfl (Nat.le_of_ble_eq_true rfl) dX7_digest_51 ?_
        refine g_lstore_n G dX7_digest_54 (gSt2_1 (by first | rfl | exact g_c1_rf)) ?_
        first | refine g_aload_n G dX7_digest_55 rfl ?_ | refine g_aload_nN G dX7_digest_55 rfl ?_ | refine g_aload_nQ G dX7_digest_55 rfl ?_
        refine g_lload_n G dX7_digest_56 rfl ?_
        refine g_callVp (ci := 8) G (c_X7_digestLetters _ S x ad M h _) mt_X7_digestLetters mi_X7_digestLetters ml_X7_394 (by assumption) (by first | decide | omega) rfl (by decide) (by omega) (by omega) rfl (Nat.le_of_ble_eq_true rfl) dX7_digest_57 ?_
        refine g_lstore_n G dX7_digest_60 (gSt2_1 (by first | rfl | exact g_c1_rf)) ?_
        refine g_iconst (v := nI 0) G dX7_digest_61 (by decide) ?_
        refine g_istore_n G dX7_digest_62 (gSt_3 (by first | rfl | exact g_c1_rf)) ?_
        have inner63 : ∀ f2 u : Nat, u ≤ (mN M 5) → (mN M 5) + 1 ≤ u + f2 → gW Γ 63 [some (.ref x), some (.long (gDg (mA M 4) (gDgL M (gDgE M (gDgD M (gDgP M (gDgC M (gDg (gTellCount M) 653 12) (mN M 6)) (mN M 8)) (mN M 11)) (mN M 17)) (mN M 23)) (u))), none, some (.int (nI (u)))] [] S 0 0 := by
          intro f2
          induction f2 with
          | zero => intro u q1 q2; omega
          | succ f2 ih2 =>
            intro u ht2 hf2 
            refine g_iload_n G dX7_digest_63 rfl ?_
            first | refine g_aload_n G dX7_digest_64 rfl ?_ | refine g_aload_nN G dX7_digest_64 rfl ?_ | refine g_aload_nQ G dX7_digest_64 rfl ?_
            refine g_getI G fl_X7_39 (by assumption) (by first | decide | omega) rfl (by first | assumption | rfl) dX7_digest_65 ?_
            refine g_icmp_ge (tgt := 100) G dX7_digest_68 (by decide) (fun c_68 => ?_) (fun c_68 => ?_)
            · have et : u = (mN M 5) := by have := (nI_leI (by omega) (by omega)).mp c_68; omega
              subst et
              refine g_lload_n G dX7_digest_100 rfl ?_
              exact g_lret G F (gRl rfl) (by omega) (by omega) dX7_digest_101
            · have hlt2 : u < (mN M 5) := by have z : ¬ (mN M 5) ≤ u := fun z => c_68 ((nI_leI (by omega) (by omega)).mpr z); omega
              refine g_iload_n G dX7_digest_71 rfl ?_
              first | refine g_aload_n G dX7_digest_72 rfl ?_ | refine g_aload_nN G dX7_digest_72 rfl ?_ | refine g_aload_nQ G dX7_digest_72 rfl ?_
              first | refine g_getR G fl_X7_36 (by assumption) (by first | decide | omega) rfl (by assumption) dX7_digest_73 ?_ | refine g_getZ G fl_X7_36 (by assumption) (by first | decide | omega) rfl (by assumption) dX7_digest_73 ?_ | refine g_getQ G fl_X7_36 (by assumption) (by first | decide | omega) rfl (by first | assumption | rfl) dX7_digest_73 ?_
              refine g_alen G (t5) (by first | decide | omega) (by first | assumption | rfl) dX7_digest_76 ?_
              refine g_icmp_ge (tgt := 100) G dX7_digest_77 (by decide) (fun c_77 => (absurd c_77 (nI_ge (a := u) (b := 2500) (by omega) (by omega)))) (fun c_77 => ?_)
              refine g_lload_n G dX7_digest_80 rfl ?_
              refine g_ldc2 G k_X7_379 dX7_digest_81 ?_
              refine g_lmul G dX7_digest_84 (rfl) ?_
              first | refine g_aload_n G dX7_digest_85 rfl ?_ | refine g_aload_nN G dX7_digest_85 rfl ?_ | refine g_aload_nQ G dX7_digest_85 rfl ?_
              first | refine g_getR G fl_X7_36 (by assumption) (by first | decide | omega) rfl (by assumption) dX7_digest_86 ?_ | refine g_getZ G fl_X7_36 (by assumption) (by first | decide | omega) rfl (by assumption) dX7_digest_86 ?_ | refine g_getQ G fl_X7_36 (by assumption) (by first | decide | omega) rfl (by first | assumption | rfl) dX7_digest_86 ?_
              refine g_iload_n G dX7_digest_89 rfl ?_
              refine g_iald G (t5) (by first | decide | omega) (by omega) (by omega) (t8 u hlt2) dX7_digest_90 ?_
              refine g_i2l G dX7_digest_91 (rfl) ?_
              refine g_ladd G dX7_digest_92 (rfl) ?_
              refine g_lstore_n G dX7_digest_93 (gSt2_1 (by first | rfl | exact g_c1_rf)) ?_
              refine g_iinc (v := _) G dX7_digest_94 rfl (by first | exact nI_1 _ | rfl) (gSt_3 (by first | rfl | exact g_c1_rf)) ?_
              refine g_goto (tgt := 63) G dX7_digest_97 (by decide) ?_
              exact ih2 (u + 1) (by omega) (by omega)
        exact inner63 ((mN M 5) + 1) 0 (by omega) (by omega)
      · have hlt2 : t < 12 := by have z : ¬ 11 < t := fun z => c_9 (nI_lt z (by omega)); omega
        refine g_lload_n G dX7_digest_12 rfl ?_
        refine g_ldc2 G k_X7_379 dX7_digest_13 ?_
        refine g_lmul G dX7_digest_16 (rfl) ?_
        first | refine g_aload_n G dX7_digest_17 rfl ?_ | refine g_aload_nN G dX7_digest_17 rfl ?_ | refine g_aload_nQ G dX7_digest_17 rfl ?_
        refine g_iload_n G dX7_digest_18 rfl ?_
        refine g_callVp (ci := 8) G (c_X7_tellCount _ S x ad M h t (by omega)) mt_X7_tellCount mi_X7_tellCount ml_X7_363 (by assumption) (by first | decide | omega) rfl (by decide) (by omega) (by omega) rfl (Nat.le_of_ble_eq_true rfl) dX7_digest_19 ?_
        refine g_i2l G dX7_digest_22 (rfl) ?_
        refine g_ladd G dX7_digest_23 (rfl) ?_
        refine g_lstore_n G dX7_digest_24 (gSt2_1 (by first | rfl | exact g_c1_rf)) ?_
        refine g_iinc (v := _) G dX7_digest_25 rfl (by first | exact nI_1 _ | rfl) (gSt_3 (by first | rfl | exact g_c1_rf)) ?_
        refine g_goto (tgt := 6) G dX7_digest_28 (by decide) ?_
        exact ih2 (t + 1) (by omega) (by omega)
  exact inner6 (12 + 1) 0 (by omega) (by omega)
