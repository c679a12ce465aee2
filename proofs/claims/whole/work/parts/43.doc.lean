/-! ===== file ===== -/
theorem gMax0 {n : Nat} (hn : n < 2 ^ 31) : (if nI 0 < nI n then nI n else nI 0) = nI n := by
  by_cases z : 0 < n
  · rw [if_pos (nI_lt z (by omega))]
  · rw [if_neg (nI_nlt (by omega) (by omega)), show n = 0 by omega]

set_option maxHeartbeats 4000000 in
set_option maxRecDepth 100000 in
theorem c_X1_firstOf (d0 : Nat × Nat) (S : gS) (a κ κ9 N : Nat) (hκ : gK S a = κ) (ht : κ % 32 = 16) (ht9 : κ9 % 32 = 16) (hne : κ ≠ κ9) (hL : gL S a = 2500) (hNL : N ≤ 2500) (hfit : ∀ i, i < N → fits .byte (.int (gX S κ a i)) = true) : gCt d0 yX1_firstOf cX1_firstOf 2 (some (.array .byte)) 3 1 2500 [.ref a, .int (nI N)] S (fun v' S' => ∃ q, gK S q = 0 ∧ v' = some (.ref q) ∧ gRow1 S' q κ9 N (gX S κ a) ∧ gFr (fun k => k ≠ κ9) S S') gNo := by
  refine gCt_of (lo := [some (.ref a), some (.int (nI N))]) (by decide +kernel) (Nat.le_of_ble_eq_true rfl) (rfl) ?_
  intro Γ hd G F hini
  first | refine g_aload_n G dX1_firstOf_0 rfl ?_ | refine g_aload_nN G dX1_firstOf_0 rfl ?_ | refine g_aload_nQ G dX1_firstOf_0 rfl ?_
  refine g_iconst (v := nI 0) G dX1_firstOf_1 (by decide) ?_
  refine g_iload_n G dX1_firstOf_2 rfl ?_
  first | refine g_aload_n G dX1_firstOf_3 rfl ?_ | refine g_aload_nN G dX1_firstOf_3 rfl ?_ | refine g_aload_nQ G dX1_firstOf_3 rfl ?_
  refine g_alen G (hκ) (by first | decide | omega) (hL) dX1_firstOf_4 ?_
  refine g_mmin G ml_X1_52 (by decide) (by omega) (by omega) (Nat.le_of_ble_eq_true rfl) (if_neg (nI_nlt (by omega) (by omega))) dX1_firstOf_5 ?_
  refine g_mmax G ml_X1_58 (by decide) (by omega) (by omega) (Nat.le_of_ble_eq_true rfl) (gMax0 (by omega)) dX1_firstOf_8 ?_
  refine g_callS G (c_J7_copyOf_9075b _ S a κ κ9 N 2500 hκ ht ht9 hne hL (by omega) hNL hfit) mt_J7_copyOf_9075b ms_J7_copyOf_9075b ml_X1_61 (by decide) (by omega) (by omega) rfl (Nat.le_of_ble_eq_true rfl) dX1_firstOf_11 (fun v_11 S_11 hp_11 => ?_)
  obtain ⟨q, hq, rfl, hrow, hF⟩ := hp_11
  simp only [Option.toList, List.cons_append, List.nil_append]
  exact g_aret (o := some _) G F (by first | exact Or.inl ⟨_, rfl⟩ | exact Or.inr ⟨_, rfl⟩) (⟨q, hq, rfl, hrow, hF⟩) (by omega) (by omega) dX1_firstOf_14

/-- a new document -/
def gDnw (S : gS) (q d C t l w : Nat) (D : gM) : Prop := gK S q = 3 + 32 * d ∧ gY S (3 + 32 * d) 0 q = some C ∧ (gY S (3 + 32 * d) 1 q = some t ∧ gY S (3 + 32 * d) 2 q = some l ∧ gY S (3 + 32 * d) 3 q = some w) ∧ (gX S (3 + 32 * d) 4 q = mA D 4 0 ∧ gY S (3 + 32 * d) 5 q = none ∧ gX S (3 + 32 * d) 6 q = -1 ∧ gX S (3 + 32 * d) 7 q = nI 0) ∧ gRow1 S t (16 + 32 * (100 + 3 * d)) (mN D 0) (mA D 0) ∧ gRow1 S l (16 + 32 * (101 + 3 * d)) (mN D 0) (mA D 1) ∧ gRow1 S w (16 + 32 * (102 + 3 * d)) (mN D 0) (mA D 2)
theorem gRow1_to {S : gS} {a κ n : Nat} {f g : Nat → Int32} (h : gRow1 S a κ n f) (e : ∀ j, j < n → f j = g j) : gRow1 S a κ n g := ⟨h.1, h.2.1, fun j hj => (h.2.2 j hj).trans (e j hj)⟩
theorem sY_p {S : gS} {κ p q p' a : Nat} {v w : Option Nat} (h : p' ≠ p) (e : gY S κ p' a = w) : gY (sY S κ p q v) κ p' a = w := (u3_p _ _ h).trans e
theorem sY_s {S : gS} {κ p q : Nat} {v : Option Nat} : gY (sY S κ p q v) κ p q = v := u3_same _ _ _ _ _
theorem gDra_mono {S S' : gS} {ad : Nat → Nat → Nat} {D : gM} {K : Nat → Prop} (h : gDra S ad D) (F : gFr K S S') (k4 : K 4) (k48 : K 48) (k80 : K 80) (k112 : K 112) (k113 : K 113) : gDra S' ad D := by
  obtain ⟨q, i, ⟨f1, f2, f3, f4, f5, f6⟩, g1, g2, rr, vv⟩ := h
  exact ⟨gDrq_mono q F k4 k113, i, ⟨F.X k4 f1, F.X k4 f2, F.X k4 f3, F.X k4 f4, F.X k4 f5, F.X k4 f6⟩, fun z => F.X k4 (g1 z), fun z => ⟨F.X k4 (g2 z).1, F.X k4 (g2 z).2⟩, fun i hi => ⟨F.X k48 (rr i hi).1, F.X k80 (rr i hi).2.1, F.X k112 (rr i hi).2.2⟩, fun i hi => F.X k113 (vv i hi)⟩

set_option maxHeartbeats 4000000 in
set_option maxRecDepth 100000 in
theorem c_X1_init (d0 : Nat × Nat) (S : gS) (ad : Nat → Nat → Nat) (D : gM) (h : gDra S ad D) (q d C : Nat) (h1 : gK S q = 3 + 32 * d) : gCt d0 yX1_init cX1_init 3 none 4 3 7500 [.ref q, .ref C, .ref (ad 6 2)] S (fun v' S' => v' = none ∧ ∃ t l w, gDnw S' q d C t l w D ∧ gFr (fun z => z ≠ 3 + 32 * d ∧ z ≠ 16 + 32 * (100 + 3 * d) ∧ z ≠ 16 + 32 * (101 + 3 * d) ∧ z ≠ 16 + 32 * (102 + 3 * d)) S S') gNo := by
  refine gCt_of (lo := [some (.ref q), some (.ref C), some (.ref (ad 6 2))]) (by decide +kernel) (Nat.le_of_ble_eq_true rfl) (rfl) ?_
  intro Γ hd G F hini
  subst hd
  obtain ⟨⟨q1, q2, q3, q4, q5, q6, q7, q8⟩, ⟨i1, i2, i3, i4, i5, i6, i7, i8⟩, ⟨f1, f2, f3, f4, f5, f6⟩, g1, g2, rr, vv⟩ := id h
  first | refine g_aload_n G dX1_init_0 rfl ?_ | refine g_aload_nN G dX1_init_0 rfl ?_ | refine g_aload_nQ G dX1_init_0 rfl ?_
  refine g_objInit G ml_X1_3 oi_1 oi_2 (by decide) (Nat.le_of_ble_eq_true rfl) dX1_init_1 ?_
  first | refine g_aload_n G dX1_init_4 rfl ?_ | refine g_aload_nN G dX1_init_4 rfl ?_ | refine g_aload_nQ G dX1_init_4 rfl ?_
  refine g_null G dX1_init_5 ?_
  refine g_putQ (v := none) G fl_X1_9 pu_2_5 h1 (by omega) rfl dX1_init_6 ?_
  first | refine g_aload_n G dX1_init_9 rfl ?_ | refine g_aload_nN G dX1_init_9 rfl ?_ | refine g_aload_nQ G dX1_init_9 rfl ?_
  refine g_iconst (v := (-1)) G dX1_init_10 (by decide) ?_
  refine g_putI G fl_X1_15 pu_2_6 (h1) (by first | decide | omega) rfl dX1_init_11 ?_
  first | refine g_aload_n G dX1_init_14 rfl ?_ | refine g_aload_nN G dX1_init_14 rfl ?_ | refine g_aload_nQ G dX1_init_14 rfl ?_
  refine g_iconst (v := nI 0) G dX1_init_15 (by decide) ?_
  refine g_putI G fl_X1_19 pu_2_7 (h1) (by first | decide | omega) rfl dX1_init_16 ?_
  have F0 := (((gFr.rf S).Y1 5 q none (fun k (z : (fun z => z ≠ 3 + 32 * d ∧ z ≠ 16 + 32 * (100 + 3 * d) ∧ z ≠ 16 + 32 * (101 + 3 * d) ∧ z ≠ 16 + 32 * (102 + 3 * d)) k) => z.1)).X1 6 q (-1) (fun k z => z.1)).X1 7 q (nI 0) (fun k z => z.1)
  first | refine g_aload_n G dX1_init_19 rfl ?_ | refine g_aload_nN G dX1_init_19 rfl ?_ | refine g_aload_nQ G dX1_init_19 rfl ?_
  first | refine g_aload_n G dX1_init_20 rfl ?_ | refine g_aload_nN G dX1_init_20 rfl ?_ | refine g_aload_nQ G dX1_init_20 rfl ?_
  refine g_putQF (v := some C) G fl_X1_22 pu_2_0 (hini.mpr rfl) (h1) (by first | decide | omega) rfl dX1_init_21 ?_
  have F1 := F0.Y1 0 q (some C) (fun k z => z.1)
  have D1 := gDra_mono h F1 (by first | omega | (dsimp only; omega)) (by first | omega | (dsimp only; omega)) (by first | omega | (dsimp only; omega)) (by first | omega | (dsimp only; omega)) (by first | omega | (dsimp only; omega))
  have w1 : gK _ q = 3 + 32 * d := F1.K h1 (by omega)
  first | refine g_aload_n G dX1_init_24 rfl ?_ | refine g_aload_nN G dX1_init_24 rfl ?_ | refine g_aload_nQ G dX1_init_24 rfl ?_
  first | refine g_aload_n G dX1_init_25 rfl ?_ | refine g_aload_nN G dX1_init_25 rfl ?_ | refine g_aload_nQ G dX1_init_25 rfl ?_
  refine g_getR G fl_X1_26 (D1.1.1) (by first | decide | omega) rfl (D1.1.2.1.1) dX1_init_26 ?_
  first | refine g_aload_n G dX1_init_29 rfl ?_ | refine g_aload_nN G dX1_init_29 rfl ?_ | refine g_aload_nQ G dX1_init_29 rfl ?_
  refine g_getI G fl_X1_32 (D1.1.1) (by first | decide | omega) rfl (D1.2.2.1.1) dX1_init_30 ?_
  refine g_callS G (c_X1_firstOf _ _ (ad 6 3) 48 (16 + 32 * (100 + 3 * d)) (mN D 0) D1.1.2.2.1.1 (by decide) (by omega) (by omega) D1.1.2.2.1.2 i2 (fun i hi => by rw [(D1.2.2.2.2.2.1 i hi).1]; exact (gW8 (i8 i hi).1 (by omega)).2.2)) mt_X1_firstOf ms_X1_firstOf ml_X1_35 (by decide) (by omega) (by omega) rfl (Nat.le_of_ble_eq_true rfl) dX1_init_33 (fun v_33 S_33 hp_33 => ?_)
  obtain ⟨t, hq_t, rfl, hrow_t, hF_t⟩ := hp_33
  simp only [Option.toList, List.cons_append, List.nil_append]
  have F1a := F1.tr (K := (fun z => z ≠ 3 + 32 * d ∧ z ≠ 16 + 32 * (100 + 3 * d) ∧ z ≠ 16 + 32 * (101 + 3 * d) ∧ z ≠ 16 + 32 * (102 + 3 * d))) hF_t (fun k z => ⟨z, z.2.1⟩)
  have w1a : gK _ q = 3 + 32 * d := F1a.K h1 (by omega)
  refine g_putQF (v := some t) G fl_X1_39 pu_2_1 (hini.mpr rfl) (w1a) (by first | decide | omega) rfl dX1_init_36 ?_
  have F2 := F1a.Y1 1 q (some t) (fun k z => z.1)
  have D2 := gDra_mono h F2 (by first | omega | (dsimp only; omega)) (by first | omega | (dsimp only; omega)) (by first | omega | (dsimp only; omega)) (by first | omega | (dsimp only; omega)) (by first | omega | (dsimp only; omega))
  first | refine g_aload_n G dX1_init_39 rfl ?_ | refine g_aload_nN G dX1_init_39 rfl ?_ | refine g_aload_nQ G dX1_init_39 rfl ?_
  first | refine g_aload_n G dX1_init_40 rfl ?_ | refine g_aload_nN G dX1_init_40 rfl ?_ | refine g_aload_nQ G dX1_init_40 rfl ?_
  refine g_getR G fl_X1_40 (D2.1.1) (by first | decide | omega) rfl (D2.1.2.1.2.1) dX1_init_41 ?_
  first | refine g_aload_n G dX1_init_44 rfl ?_ | refine g_aload_nN G dX1_init_44 rfl ?_ | refine g_aload_nQ G dX1_init_44 rfl ?_
  refine g_getI G fl_X1_32 (D2.1.1) (by first | decide | omega) rfl (D2.2.2.1.1) dX1_init_45 ?_
  refine g_callS G (c_X1_firstOf _ _ (ad 6 4) 80 (16 + 32 * (101 + 3 * d)) (mN D 0) D2.1.2.2.2.1.1 (by decide) (by omega) (by omega) D2.1.2.2.2.1.2 i2 (fun i hi => by rw [(D2.2.2.2.2.2.1 i hi).2.1]; exact (gW8 (i8 i hi).2.1 (by omega)).2.2)) mt_X1_firstOf ms_X1_firstOf ml_X1_35 (by decide) (by omega) (by omega) rfl (Nat.le_of_ble_eq_true rfl) dX1_init_48 (fun v_48 S_48 hp_48 => ?_)
  obtain ⟨l, hq_l, rfl, hrow_l, hF_l⟩ := hp_48
  simp only [Option.toList, List.cons_append, List.nil_append]
  have F2a := F2.tr (K := (fun z => z ≠ 3 + 32 * d ∧ z ≠ 16 + 32 * (100 + 3 * d) ∧ z ≠ 16 + 32 * (101 + 3 * d) ∧ z ≠ 16 + 32 * (102 + 3 * d))) hF_l (fun k z => ⟨z, z.2.2.1⟩)
  have w2a : gK _ q = 3 + 32 * d := F2a.K h1 (by omega)
  refine g_putQF (v := some l) G fl_X1_43 pu_2_2 (hini.mpr rfl) (w2a) (by first | decide | omega) rfl dX1_init_51 ?_
  have F3 := F2a.Y1 2 q (some l) (fun k z => z.1)
  have D3 := gDra_mono h F3 (by first | omega | (dsimp only; omega)) (by first | omega | (dsimp only; omega)) (by first | omega | (dsimp only; omega)) (by first | omega | (dsimp only; omega)) (by first | omega | (dsimp only; omega))
  first | refine g_aload_n G dX1_init_54 rfl ?_ | refine g_aload_nN G dX1_init_54 rfl ?_ | refine g_aload_nQ G dX1_init_54 rfl ?_
  first | refine g_aload_n G dX1_init_55 rfl ?_ | refine g_aload_nN G dX1_init_55 rfl ?_ | refine g_aload_nQ G dX1_init_55 rfl ?_
  refine g_getR G fl_X1_44 (D3.1.1) (by first | decide | omega) rfl (D3.1.2.1.2.2.1) dX1_init_56 ?_
  first | refine g_aload_n G dX1_init_59 rfl ?_ | refine g_aload_nN G dX1_init_59 rfl ?_ | refine g_aload_nQ G dX1_init_59 rfl ?_
  refine g_getI G fl_X1_32 (D3.1.1) (by first | decide | omega) rfl (D3.2.2.1.1) dX1_init_60 ?_
  refine g_callS G (c_X1_firstOf _ _ (ad 6 5) 112 (16 + 32 * (102 + 3 * d)) (mN D 0) D3.1.2.2.2.2.1.1 (by decide) (by omega) (by omega) D3.1.2.2.2.2.1.2 i2 (fun i hi => by rw [(D3.2.2.2.2.2.1 i hi).2.2]; exact (gW8 (i8 i hi).2.2 (by omega)).2.2)) mt_X1_firstOf ms_X1_firstOf ml_X1_35 (by decide) (by omega) (by omega) rfl (Nat.le_of_ble_eq_true rfl) dX1_init_63 (fun v_63 S_63 hp_63 => ?_)
  obtain ⟨w, hq_w, rfl, hrow_w, hF_w⟩ := hp_63
  simp only [Option.toList, List.cons_append, List.nil_append]
  have F3a := F3.tr (K := (fun z => z ≠ 3 + 32 * d ∧ z ≠ 16 + 32 * (100 + 3 * d) ∧ z ≠ 16 + 32 * (101 + 3 * d) ∧ z ≠ 16 + 32 * (102 + 3 * d))) hF_w (fun k z => ⟨z, z.2.2.2⟩)
  have w3a : gK _ q = 3 + 32 * d := F3a.K h1 (by omega)
  refine g_putQF (v := some w) G fl_X1_47 pu_2_3 (hini.mpr rfl) (w3a) (by first | decide | omega) rfl dX1_init_66 ?_
  have F4 := F3a.Y1 3 q (some w) (fun k z => z.1)
  have D4 := gDra_mono h F4 (by first | omega | (dsimp only; omega)) (by first | omega | (dsimp only; omega)) (by first | omega | (dsimp only; omega)) (by first | omega | (dsimp only; omega)) (by first | omega | (dsimp only; omega))
  first | refine g_aload_n G dX1_init_69 rfl ?_ | refine g_aload_nN G dX1_init_69 rfl ?_ | refine g_aload_nQ G dX1_init_69 rfl ?_
  first | refine g_aload_n G dX1_init_70 rfl ?_ | refine g_aload_nN G dX1_init_70 rfl ?_ | refine g_aload_nQ G dX1_init_70 rfl ?_
  refine g_getI G fl_X1_48 (D4.1.1) (by first | decide | omega) rfl (D4.2.2.1.2.1) dX1_init_71 ?_
  refine g_putIF G fl_X1_51 pu_2_4 (hini.mpr rfl) (F4.K h1 (by omega)) (by first | decide | omega) rfl dX1_init_74 ?_
  exact g_vret G F (⟨rfl, t, l, w, ⟨F4.K h1 (by omega), (sY_p (by decide) (hF_w.Y (by first | omega | (dsimp only; omega)) (sY_p (by decide) (hF_l.Y (by first | omega | (dsimp only; omega)) (sY_p (by decide) (hF_t.Y (by first | omega | (dsimp only; omega)) sY_s)))))), ⟨(sY_p (by decide) (hF_w.Y (by first | omega | (dsimp only; omega)) (sY_p (by decide) (hF_l.Y (by first | omega | (dsimp only; omega)) sY_s)))), (sY_p (by decide) (hF_w.Y (by first | omega | (dsimp only; omega)) sY_s)), sY_s⟩, ⟨sX_s, (sY_p (by decide) (hF_w.Y (by first | omega | (dsimp only; omega)) (sY_p (by decide) (hF_l.Y (by first | omega | (dsimp only; omega)) (sY_p (by decide) (hF_t.Y (by first | omega | (dsimp only; omega)) (sY_p (by decide) sY_s))))))), (sX_p (by decide) (hF_w.X (by first | omega | (dsimp only; omega)) (hF_l.X (by first | omega | (dsimp only; omega)) (hF_t.X (by first | omega | (dsimp only; omega)) (sX_p (by decide) sX_s))))), (sX_p (by decide) (hF_w.X (by first | omega | (dsimp only; omega)) (hF_l.X (by first | omega | (dsimp only; omega)) (hF_t.X (by first | omega | (dsimp only; omega)) sX_s))))⟩, gRow1_mono (gRow1_to hrow_t (fun j hj => (D1.2.2.2.2.2.1 j hj).1)) (((((((gFr.rf _).Y1 1 q (some t) (fun k (z : k = 16 + 32 * (100 + 3 * d)) => by rw [z]; omega)).tr hF_l (fun k z => ⟨z, by rw [z]; omega⟩)).Y1 2 q (some l) (fun k z => by rw [z]; omega)).tr hF_w (fun k z => ⟨z, by rw [z]; omega⟩)).Y1 3 q (some w) (fun k z => by rw [z]; omega)).X1 4 q _ (fun k z => by rw [z]; omega)) rfl (by omega), gRow1_mono (gRow1_to hrow_l (fun j hj => (D2.2.2.2.2.2.1 j hj).2.1)) (((((gFr.rf _).Y1 2 q (some l) (fun k (z : k = 16 + 32 * (101 + 3 * d)) => by rw [z]; omega)).tr hF_w (fun k z => ⟨z, by rw [z]; omega⟩)).Y1 3 q (some w) (fun k z => by rw [z]; omega)).X1 4 q _ (fun k z => by rw [z]; omega)) rfl (by omega), gRow1_mono (gRow1_to hrow_w (fun j hj => (D3.2.2.2.2.2.1 j hj).2.2)) (((gFr.rf _).Y1 3 q (some w) (fun k (z : k = 16 + 32 * (102 + 3 * d)) => by rw [z]; omega)).X1 4 q _ (fun k z => by rw [z]; omega)) rfl (by omega)⟩, F4.X1 4 q _ (fun k z => z.1)⟩) (by omega) (by omega) dX1_init_77
