/-! ===== the reference: file, walked ===== -/
section GFILE
variable {S S' : gS} {y n : Nat} {b : Nat → Nat → Nat} {M : gM} {K : Nat → Prop}
theorem gRef_Y {f d : Nat} {v : Option Nat} (h : gRef S y b M) (hf : 13 ≤ f ∧ f ≤ 15) (hd : mN M 11 ≤ d) : gRef (sY S (20 + 32 * f) (b 0 f) d v) y b M := by
  obtain ⟨⟨r1, r2, r3, r4, r5, r6, r7, r8, r9, r10, r11⟩, hs, Ma, ha⟩ := h
  have F := gFr_Y S (20 + 32 * f) (b 0 f) d v
  have k11 : ∀ {p : Nat} {w : Option Nat}, gY S 11 p y = w → gY (sY S (20 + 32 * f) (b 0 f) d v) 11 p y = w := fun e => F.Y (K := fun k => k ≠ 20 + 32 * f) (by omega) e
  refine ⟨⟨r1, r2, r3, fun g hg => ⟨k11 (r4 g hg).1, (r4 g hg).2⟩, r5, r6, r7, r8, fun g h1 h2 => ?_, k11 r10, k11 r11⟩, gStt_mono hs F (by omega) (fun g _ _ => by omega), Ma, gStt_mono ha F (by omega) (fun g _ _ => by omega)⟩
  obtain ⟨t1, t2, t3, t4⟩ := r9 g h1 h2
  refine ⟨k11 t1, t2, t3, fun d' hd' => ⟨?_, (t4 d' hd').2⟩⟩
  by_cases z : g = f
  · subst z
    exact (u3_q _ _ (show d' ≠ d by omega)).trans (t4 d' hd').1
  · exact F.Y (K := fun k => k ≠ 20 + 32 * f) (by omega) (t4 d' hd').1
theorem gRef_new (h : gRef S y b M) (F : gFr K S S') (hn : mN M 11 = n) (hK : ∀ κ, gRk κ → ¬ (κ % 32 = 17 ∧ 100 + 3 * n ≤ κ / 32) → K κ) : gRef S' y b M := by
  obtain ⟨⟨r1, r2, r3, r4, r5, r6, r7, r8, r9, r10, r11⟩, hs, Ma, ha⟩ := h
  have k11 : K 11 := hK 11 (Or.inl rfl) (by omega)
  have kf : ∀ f, f ≤ 31 → K (17 + 32 * (10 + f)) := fun f hf => hK _ (Or.inr (Or.inr (Or.inr (by omega)))) (by omega)
  refine ⟨⟨F.K r1 (by decide), fun c h => F.X k11 (r2 c h), F.X k11 r3, fun f h => ⟨F.Y k11 (r4 f h).1, F.K (r4 f h).2.1 (by omega), ((F.1 _ (by rw [(r4 f h).2.1]; omega)).2).trans (r4 f h).2.2⟩, fun f h j hj => F.X (kf f (by have := gExa_lt h; omega)) (r5 f h j hj), fun e he => F.X (kf 21 (by omega)) (r6 e he), fun j hj => F.X (kf 1 (by omega)) (r7 j hj), fun j hj => F.X (kf 4 (by omega)) (r8 j hj), fun f h1 h2 => ?_, F.Y k11 r10, F.Y k11 r11⟩, gStt_mono hs F (hK _ (Or.inr (Or.inl (by omega))) (by omega)) (fun g h1 h2 => hK _ (Or.inr (Or.inr (Or.inr (by omega)))) (by omega)), Ma, gStt_mono ha F (hK _ (Or.inr (Or.inl (by omega))) (by omega)) (fun g h1 h2 => hK _ (Or.inr (Or.inr (Or.inr (by omega)))) (by omega))⟩
  obtain ⟨t1, t2, t3, t4⟩ := r9 f h1 h2
  exact ⟨F.Y k11 t1, F.K t2 (by omega), ((F.1 _ (by rw [t2]; omega)).2).trans t3, fun d hd => ⟨F.Y (hK _ (Or.inr (Or.inr (Or.inl (by omega)))) (by omega)) (t4 d hd).1, gRow1_mono (t4 d hd).2 F (hK _ (Or.inr (Or.inr (Or.inr (by omega)))) (by omega)) (by omega)⟩⟩
theorem gRef_doc {M' : gM} {L : Nat} {qf : Nat → Nat} (h : gRef S y b M) (m11 : mN M 11 = n) (e11 : mN M' 11 = n + 1) (eL : mN M' (100 + n) = L) (hn : n < 24) (eo : ∀ i, i ≠ 11 → i ≠ 100 + n → mN M' i = mN M i) (ea : mA M' = mA M) (et : ∀ f d, d ≠ n → mT M' f d = mT M f d) (new : ∀ f, 13 ≤ f → f ≤ 15 → gY S (20 + 32 * f) (b 0 f) n = some (qf f) ∧ gRow1 S (qf f) (17 + 32 * (100 + 3 * n + (f - 13))) L (mT M' f n)) : gRef (sX S 11 11 y (nI (n + 1))) y (fun k i => if 13 ≤ k ∧ k ≤ 15 ∧ i = n then qf k else b k i) M' := by
  obtain ⟨⟨r1, r2, r3, r4, r5, r6, r7, r8, r9, r10, r11⟩, hs, Ma, ha⟩ := h
  have hb : ∀ k i, k < 13 → (fun k i => if 13 ≤ k ∧ k ≤ 15 ∧ i = n then qf k else b k i) k i = b k i := fun k i hk => if_neg (by omega)
  have hst : ∀ {s ρ : Nat} {Mz : gM}, ρ ≤ 1 → gStt S s ρ b y Mz → gStt (sX S 11 11 y (nI (n + 1))) s ρ (fun k i => if 13 ≤ k ∧ k ≤ 15 ∧ i = n then qf k else b k i) y Mz := fun hρ w => by
    obtain ⟨q1, q2, q3, q4⟩ := gStt_k (κ := 11) (p := 11) (q := y) (v := nI (n + 1)) w (by omega) (fun g _ _ => by omega)
    exact ⟨q1, q2, q3, fun g hg => by rw [hb _ _ (by omega)]; exact q4 g hg⟩
  refine ⟨⟨r1, fun c h => ?_, by rw [ea]; exact sX_p (by decide) r3, fun f hf => ?_, fun f hf j hj => ?_, fun e he => ?_, fun j hj => ?_, fun j hj => ?_, fun f h1 h2 => ?_, ?_, ?_⟩, ?_, Ma, ?_⟩
  · by_cases z : c = 11
    · rw [z, e11]; exact sX_s
    · rw [eo c z (by have := gCnt_lt h; omega)]; exact sX_p z (r2 c h)
  · rw [hb _ _ (by omega)]; exact r4 f hf
  · rw [hb _ _ (by omega), ea]; exact sX_k (by omega) (r5 f hf j hj)
  · rw [hb _ _ (by omega), eo _ (by omega) (by omega)]; exact sX_k (by omega) (r6 e he)
  · rw [hb _ _ (by omega), ea]; rw [eo 2 (by omega) (by omega)] at hj; exact sX_k (by omega) (r7 j hj)
  · rw [hb _ _ (by omega), ea]; rw [eo 5 (by omega) (by omega)] at hj; exact sX_k (by omega) (r8 j hj)
  · obtain ⟨t1, t2, t3, t4⟩ := r9 f h1 h2
    rw [hb _ _ (by omega)]
    refine ⟨t1, t2, t3, fun d hd => ?_⟩
    by_cases z : d = n
    · subst z
      obtain ⟨u1, u2⟩ := new f h1 h2
      show gY S (20 + 32 * f) (b 0 f) d = some (if 13 ≤ f ∧ f ≤ 15 ∧ d = d then qf f else b f d) ∧ gRow1 _ (if 13 ≤ f ∧ f ≤ 15 ∧ d = d then qf f else b f d) _ _ _
      rw [if_pos ⟨h1, h2, rfl⟩, eL]
      exact ⟨u1, u2.1, u2.2.1, fun j hj => sX_k (by omega) (u2.2.2 j hj)⟩
    · show gY S (20 + 32 * f) (b 0 f) d = some (if 13 ≤ f ∧ f ≤ 15 ∧ d = n then qf f else b f d) ∧ gRow1 _ (if 13 ≤ f ∧ f ≤ 15 ∧ d = n then qf f else b f d) _ _ _
      rw [if_neg (fun w => z w.2.2), eo _ (by omega) (by omega), et f d z]
      obtain ⟨u1, u2⟩ := t4 d (by rw [e11] at hd; omega)
      exact ⟨u1, u2.1, u2.2.1, fun j hj => sX_k (by omega) (u2.2.2 j hj)⟩
  · rw [hb _ _ (by omega)]; exact r10
  · rw [hb _ _ (by omega)]; exact r11
  · rw [hb _ _ (by omega)]
    exact gStt_M (hst (by omega) hs) (eo 40 (by omega) (by omega)) (fun g _ _ => by rw [ea])
  · rw [hb _ _ (by omega)]
    exact hst (by omega) ha
end GFILE

set_option maxHeartbeats 4000000 in
set_option maxRecDepth 100000 in
theorem c_X9_file_bad (d0 : Nat × Nat) (S : gS) (y : Nat) (b : Nat → Nat → Nat) (M : gM) (h : gRef S y b M) (i : gInv M) (c : Nat) (hc : c < mN M 6) (hn : ¬ mN M 11 = 24) (hok : ¬ (fOut M c).1 = nI 0) : gCt d0 yX9_file cX9_file 3 (some .int) 10 1 12 [.ref y, .int (nI c)] S (gAn S y 0 (mF0 M (fOut M c).2.1) (some (.int (-(fOut M c).1)))) gNo := by
  refine gCt_of (lo := [some (.ref y), some (.int (nI c)), none]) (by decide +kernel) (Nat.le_of_ble_eq_true rfl) (rfl) ?_
  intro Γ hd G F hini
  first | refine g_aload_n G dX9_file_0 rfl ?_ | refine g_aload_nN G dX9_file_0 rfl ?_ | refine g_aload_nQ G dX9_file_0 rfl ?_
  refine g_iconst (v := nI 0) G dX9_file_1 (by decide) ?_
  refine g_putI G fl_X9_91 pu_10_0 (h.1.kd) (by first | decide | omega) rfl dX9_file_2 ?_
  have h0 := gRef_th (v := nI 0) h
  obtain ⟨r, q, -⟩ := id h0
  obtain ⟨i6, i8, i11, i17, i23, i2, i5⟩ := i.b
  first | refine g_aload_n G dX9_file_5 rfl ?_ | refine g_aload_nN G dX9_file_5 rfl ?_ | refine g_aload_nQ G dX9_file_5 rfl ?_
  refine g_iload_n G dX9_file_6 rfl ?_
  refine g_callVp (ci := 10) G (c_X9_isCase _ _ _ _ _ r i _) mt_X9_isCase mi_X9_isCase ml_X9_147 (r.kd) (by first | decide | omega) rfl (by decide) (by omega) (by omega) rfl (Nat.le_of_ble_eq_true rfl) dX9_file_7 ?_
  refine g_if_ne (tgt := 19) G dX9_file_10 (by decide) (fun c_10 => ?_) (fun c_10 => (absurd c_10 (gIxB_ok hc (by omega))))
  first | refine g_aload_n G dX9_file_19 rfl ?_ | refine g_aload_nN G dX9_file_19 rfl ?_ | refine g_aload_nQ G dX9_file_19 rfl ?_
  refine g_getI G fl_X9_104 (r.kd) (by first | decide | omega) rfl (r.n 11 rfl) dX9_file_20 ?_
  refine g_bipush (v := nI 24) G dX9_file_23 (by decide) ?_
  refine g_icmp_ne (tgt := 34) G dX9_file_25 (by decide) (fun c_25 => ?_) (fun c_25 => (absurd ((nI_eq (b := 24) (by omega) (by omega)).mp c_25) hn))
  first | refine g_aload_n G dX9_file_34 rfl ?_ | refine g_aload_nN G dX9_file_34 rfl ?_ | refine g_aload_nQ G dX9_file_34 rfl ?_
  first | refine g_aload_n G dX9_file_35 rfl ?_ | refine g_aload_nN G dX9_file_35 rfl ?_ | refine g_aload_nQ G dX9_file_35 rfl ?_
  refine g_iload_n G dX9_file_36 rfl ?_
  refine g_callV (ci := 10) G (c_X9_parse _ _ y b M h0 i c hc) mt_X9_parse mi_X9_parse ml_X9_150 (r.kd) (by first | decide | omega) rfl (by decide) (by omega) (by omega) rfl (Nat.le_of_ble_eq_true rfl) dX9_file_37 (fun v_37 S_37 hp_37 => ?_)
  obtain ⟨hR, hO9, hcase⟩ := hp_37
  have hth := (hO9.1 0 (by decide)).trans sX_s
  have hF9 := gFr_th.tr (K := gCk) hO9.2 (fun k z => ⟨z, by unfold gCk at z; unfold gQ9 gQk; omega⟩)
  rcases hcase with ⟨p, rfl, hp, hB⟩ | ⟨D, W, rfl, hP, hW, hf, hOut⟩
  · simp only [Option.toList, List.cons_append, List.nil_append]
    refine g_putI G fl_X9_13 pu_10_3 (hR.1.kd) (by first | decide | omega) rfl dX9_file_40 ?_
    have h1 := gRef_w (nI p) hR
    obtain ⟨r1, q1, -⟩ := id h1
    first | refine g_aload_n G dX9_file_43 rfl ?_ | refine g_aload_nN G dX9_file_43 rfl ?_ | refine g_aload_nQ G dX9_file_43 rfl ?_
    refine g_getI G fl_X9_13 (r1.kd) (by first | decide | omega) rfl (r1.w.trans uA_s) dX9_file_44 ?_
    refine g_iconst (v := (-1)) G dX9_file_47 (by decide) ?_
    refine g_icmp_eq (tgt := 55) G dX9_file_48 (by decide) (fun c_48 => (absurd (show nI p < 0 by rw [show nI p = -1 from c_48]; decide) (nI_pos (by omega)))) (fun c_48 => ?_)
    refine g_iconst (v := nI 1) G dX9_file_51 (by decide) ?_
    refine g_goto (tgt := 56) G dX9_file_52 (by decide) ?_
    refine g_istore_n G dX9_file_56 (gSt_2 (by first | rfl | exact g_c1_rf)) ?_
    refine g_iload_n G dX9_file_57 rfl ?_
    refine g_if_ne (tgt := 69) G dX9_file_58 (by decide) (fun c_58 => ?_) (fun c_58 => (absurd c_58 (by decide)))
    first | refine g_aload_n G dX9_file_69 rfl ?_ | refine g_aload_nN G dX9_file_69 rfl ?_ | refine g_aload_nQ G dX9_file_69 rfl ?_
    refine g_iconst (v := nI 0) G dX9_file_70 (by decide) ?_
    refine g_putI G fl_X9_110 pu_10_2 (r1.kd) (by first | decide | omega) rfl dX9_file_71 ?_
    have h2 := gRef_2 0 h1 (Nat.zero_le _)
    obtain ⟨r2, q2, -⟩ := id h2
    first | refine g_aload_n G dX9_file_74 rfl ?_ | refine g_aload_nN G dX9_file_74 rfl ?_ | refine g_aload_nQ G dX9_file_74 rfl ?_
    refine g_getI G fl_X9_13 (r2.kd) (by first | decide | omega) rfl ((show gX _ 11 3 y = nI p from r2.w.trans uA_s)) dX9_file_75 ?_
    refine g_iconst (v := (-1)) G dX9_file_78 (by decide) ?_
    refine g_icmp_eq (tgt := 93) G dX9_file_79 (by decide) (fun c_79 => (absurd (show nI p < 0 by rw [show nI p = -1 from c_79]; decide) (nI_pos (by omega)))) (fun c_79 => ?_)
    refine g_iload_n G dX9_file_82 rfl ?_
    refine g_if_eq (tgt := 90) G dX9_file_83 (by decide) (fun c_83 => (absurd c_83 (by decide))) (fun c_83 => ?_)
    refine g_iconst (v := (-1)) G dX9_file_86 (by decide) ?_
    refine g_goto (tgt := 92) G dX9_file_87 (by decide) ?_
    exact g_iret G F (by
        rw [show (fOut M c).1 = nI 1 from hB.1, show (fOut M c).2.1 = nI p from hB.2]
        exact ⟨rfl, sX_p (by decide) (sX_p (by decide) hth), b, h2, (hF9.X1 _ _ _ (fun k z => by unfold gCk at z; omega)).X1 _ _ _ (fun k z => by unfold gCk at z; omega)⟩) (by omega) (by omega) dX9_file_92
  · simp only [Option.toList, List.cons_append, List.nil_append]
    refine g_putI G fl_X9_13 pu_10_3 (hR.1.kd) (by first | decide | omega) rfl dX9_file_40 ?_
    have h1 := gRef_w (-1) hR
    obtain ⟨r1, q1, -⟩ := id h1
    first | refine g_aload_n G dX9_file_43 rfl ?_ | refine g_aload_nN G dX9_file_43 rfl ?_ | refine g_aload_nQ G dX9_file_43 rfl ?_
    refine g_getI G fl_X9_13 (r1.kd) (by first | decide | omega) rfl (r1.w.trans uA_s) dX9_file_44 ?_
    refine g_iconst (v := (-1)) G dX9_file_47 (by decide) ?_
    refine g_icmp_eq (tgt := 55) G dX9_file_48 (by decide) (fun c_48 => ?_) (fun c_48 => (absurd rfl c_48))
    refine g_iconst (v := nI 0) G dX9_file_55 (by decide) ?_
    refine g_istore_n G dX9_file_56 (gSt_2 (by first | rfl | exact g_c1_rf)) ?_
    refine g_iload_n G dX9_file_57 rfl ?_
    refine g_if_ne (tgt := 69) G dX9_file_58 (by decide) (fun c_58 => (absurd rfl c_58)) (fun c_58 => ?_)
    first | refine g_aload_n G dX9_file_61 rfl ?_ | refine g_aload_nN G dX9_file_61 rfl ?_ | refine g_aload_nQ G dX9_file_61 rfl ?_
    first | refine g_aload_n G dX9_file_62 rfl ?_ | refine g_aload_nN G dX9_file_62 rfl ?_ | refine g_aload_nQ G dX9_file_62 rfl ?_
    refine g_getI G fl_X9_120 (r1.kd) (by first | decide | omega) rfl (sX_p (by decide) hP.2.2.1) dX9_file_63 ?_
    refine g_putI G fl_X9_13 pu_10_3 (r1.kd) (by first | decide | omega) rfl dX9_file_66 ?_
    have h1b := gRef_w (mA D 4 1) h1
    rw [uA_same] at h1b
    obtain ⟨r1b, q1b, -⟩ := id h1b
    first | refine g_aload_n G dX9_file_69 rfl ?_ | refine g_aload_nN G dX9_file_69 rfl ?_ | refine g_aload_nQ G dX9_file_69 rfl ?_
    refine g_iconst (v := nI 0) G dX9_file_70 (by decide) ?_
    refine g_putI G fl_X9_110 pu_10_2 (r1b.kd) (by first | decide | omega) rfl dX9_file_71 ?_
    have h2 := gRef_2 0 h1b (Nat.zero_le _)
    obtain ⟨r2, q2, -⟩ := id h2
    first | refine g_aload_n G dX9_file_74 rfl ?_ | refine g_aload_nN G dX9_file_74 rfl ?_ | refine g_aload_nQ G dX9_file_74 rfl ?_
    refine g_getI G fl_X9_13 (r2.kd) (by first | decide | omega) rfl ((show gX _ 11 3 y = mA D 4 1 from r2.w.trans uA_s)) dX9_file_75 ?_
    refine g_iconst (v := (-1)) G dX9_file_78 (by decide) ?_
    refine g_icmp_eq (tgt := 93) G dX9_file_79 (by decide) (fun c_79 => (absurd (show (fOut M c).1 = nI 0 from (congrArg Prod.fst hOut).trans (if_pos (by rw [show mA D 4 1 = -1 from c_79]; decide))) hok)) (fun c_79 => ?_)
    refine g_iload_n G dX9_file_82 rfl ?_
    refine g_if_eq (tgt := 90) G dX9_file_83 (by decide) (fun c_83 => ?_) (fun c_83 => (absurd rfl c_83))
    refine g_bipush (v := (-2)) G dX9_file_90 (by decide) ?_
    exact g_iret G F (by
        have nf : ¬ mA D 4 1 < 0 := hf.resolve_left c_79
        rw [show (fOut M c).1 = nI 2 from (congrArg Prod.fst hOut).trans (if_neg nf), show (fOut M c).2.1 = mA D 4 1 from congrArg (fun z => z.2.1) hOut]
        exact ⟨rfl, sX_p (by decide) (sX_p (by decide) (sX_p (by decide) hth)), b, h2, ((hF9.X1 _ _ _ (fun k z => by unfold gCk at z; omega)).X1 _ _ _ (fun k z => by unfold gCk at z; omega)).X1 _ _ _ (fun k z => by unfold gCk at z; omega)⟩) (by omega) (by omega) dX9_file_92

set_option maxHeartbeats 4000000 in
set_option maxRecDepth 100000 in
theorem c_X9_file_no (d0 : Nat × Nat) (S : gS) (y : Nat) (b : Nat → Nat → Nat) (M : gM) (h : gRef S y b M) (i : gInv M) (c : Int32) (hno : ¬ gIx (mN M 6) c) : gCt d0 yX9_file cX9_file 3 (some .int) 10 1 12 [.ref y, .int c] S (gAn S y 1 M (some (.int (nI 0)))) gNo := by
  refine gCt_of (lo := [some (.ref y), some (.int c), none]) (by decide +kernel) (Nat.le_of_ble_eq_true rfl) (rfl) ?_
  intro Γ hd G F hini
  first | refine g_aload_n G dX9_file_0 rfl ?_ | refine g_aload_nN G dX9_file_0 rfl ?_ | refine g_aload_nQ G dX9_file_0 rfl ?_
  refine g_iconst (v := nI 0) G dX9_file_1 (by decide) ?_
  refine g_putI G fl_X9_91 pu_10_0 (h.1.kd) (by first | decide | omega) rfl dX9_file_2 ?_
  have h0 := gRef_th (v := nI 0) h
  obtain ⟨r, q, -⟩ := id h0
  obtain ⟨i6, i8, i11, i17, i23, i2, i5⟩ := i.b
  first | refine g_aload_n G dX9_file_5 rfl ?_ | refine g_aload_nN G dX9_file_5 rfl ?_ | refine g_aload_nQ G dX9_file_5 rfl ?_
  refine g_iload_n G dX9_file_6 rfl ?_
  refine g_callVp (ci := 10) G (c_X9_isCase _ _ _ _ _ r i _) mt_X9_isCase mi_X9_isCase ml_X9_147 (r.kd) (by first | decide | omega) rfl (by decide) (by omega) (by omega) rfl (Nat.le_of_ble_eq_true rfl) dX9_file_7 ?_
  refine g_if_ne (tgt := 19) G dX9_file_10 (by decide) (fun c_10 => (absurd (gIxB_y c_10) hno)) (fun c_10 => ?_)
  first | refine g_aload_n G dX9_file_13 rfl ?_ | refine g_aload_nN G dX9_file_13 rfl ?_ | refine g_aload_nQ G dX9_file_13 rfl ?_
  refine g_iconst (v := nI 1) G dX9_file_14 (by decide) ?_
  refine g_callV (ci := 10) G (c_X9_no _ _ _ _ r.kd) mt_X9_no mi_X9_no ml_X9_113 (r.kd) (by first | decide | omega) rfl (by decide) (by omega) (by omega) rfl (Nat.le_of_ble_eq_true rfl) dX9_file_15 (fun v_15 S_15 hp_15 => ?_)
  obtain ⟨rfl, rfl⟩ := hp_15
  simp only [Option.toList, List.cons_append, List.nil_append]
  exact g_iret G F (gAn_N 1 h) (by omega) (by omega) dX9_file_18

set_option maxHeartbeats 4000000 in
set_option maxRecDepth 100000 in
theorem c_X9_file_no2 (d0 : Nat × Nat) (S : gS) (y : Nat) (b : Nat → Nat → Nat) (M : gM) (h : gRef S y b M) (i : gInv M) (c : Nat) (hc : c < mN M 6) (hn : mN M 11 = 24) : gCt d0 yX9_file cX9_file 3 (some .int) 10 1 12 [.ref y, .int (nI c)] S (gAn S y 2 M (some (.int (nI 0)))) gNo := by
  refine gCt_of (lo := [some (.ref y), some (.int (nI c)), none]) (by decide +kernel) (Nat.le_of_ble_eq_true rfl) (rfl) ?_
  intro Γ hd G F hini
  first | refine g_aload_n G dX9_file_0 rfl ?_ | refine g_aload_nN G dX9_file_0 rfl ?_ | refine g_aload_nQ G dX9_file_0 rfl ?_
  refine g_iconst (v := nI 0) G dX9_file_1 (by decide) ?_
  refine g_putI G fl_X9_91 pu_10_0 (h.1.kd) (by first | decide | omega) rfl dX9_file_2 ?_
  have h0 := gRef_th (v := nI 0) h
  obtain ⟨r, q, -⟩ := id h0
  obtain ⟨i6, i8, i11, i17, i23, i2, i5⟩ := i.b
  first | refine g_aload_n G dX9_file_5 rfl ?_ | refine g_aload_nN G dX9_file_5 rfl ?_ | refine g_aload_nQ G dX9_file_5 rfl ?_
  refine g_iload_n G dX9_file_6 rfl ?_
  refine g_callVp (ci := 10) G (c_X9_isCase _ _ _ _ _ r i _) mt_X9_isCase mi_X9_isCase ml_X9_147 (r.kd) (by first | decide | omega) rfl (by decide) (by omega) (by omega) rfl (Nat.le_of_ble_eq_true rfl) dX9_file_7 ?_
  refine g_if_ne (tgt := 19) G dX9_file_10 (by decide) (fun c_10 => ?_) (fun c_10 => (absurd c_10 (gIxB_ok hc (by omega))))
  first | refine g_aload_n G dX9_file_19 rfl ?_ | refine g_aload_nN G dX9_file_19 rfl ?_ | refine g_aload_nQ G dX9_file_19 rfl ?_
  refine g_getI G fl_X9_104 (r.kd) (by first | decide | omega) rfl (r.n 11 rfl) dX9_file_20 ?_
  refine g_bipush (v := nI 24) G dX9_file_23 (by decide) ?_
  refine g_icmp_ne (tgt := 34) G dX9_file_25 (by decide) (fun c_25 => (absurd (by rw [hn]) c_25)) (fun c_25 => ?_)
  first | refine g_aload_n G dX9_file_28 rfl ?_ | refine g_aload_nN G dX9_file_28 rfl ?_ | refine g_aload_nQ G dX9_file_28 rfl ?_
  refine g_iconst (v := nI 2) G dX9_file_29 (by decide) ?_
  refine g_callV (ci := 10) G (c_X9_no _ _ _ _ r.kd) mt_X9_no mi_X9_no ml_X9_113 (r.kd) (by first | decide | omega) rfl (by decide) (by omega) (by omega) rfl (Nat.le_of_ble_eq_true rfl) dX9_file_30 (fun v_30 S_30 hp_30 => ?_)
  obtain ⟨rfl, rfl⟩ := hp_30
  simp only [Option.toList, List.cons_append, List.nil_append]
  exact g_iret G F (gAn_N 2 h) (by omega) (by omega) dX9_file_33

set_option maxHeartbeats 4000000 in
set_option maxRecDepth 100000 in
theorem c_X9_file (d0 : Nat × Nat) (S : gS) (y : Nat) (b : Nat → Nat → Nat) (M : gM) (h : gRef S y b M) (i : gInv M) (c : Nat) (hc : c < mN M 6) (hn : ¬ mN M 11 = 24) (hok : (fOut M c).1 = nI 0) : gCt d0 yX9_file cX9_file 3 (some .int) 10 4 7512 [.ref y, .int (nI c)] S (gAn S y 0 (mFile M c) (some (.int (nI (mN M 11))))) gNo := by
  refine gCt_of (lo := [some (.ref y), some (.int (nI c)), none]) (by decide +kernel) (Nat.le_of_ble_eq_true rfl) (rfl) ?_
  intro Γ hd G F hini
  first | refine g_aload_n G dX9_file_0 rfl ?_ | refine g_aload_nN G dX9_file_0 rfl ?_ | refine g_aload_nQ G dX9_file_0 rfl ?_
  refine g_iconst (v := nI 0) G dX9_file_1 (by decide) ?_
  refine g_putI G fl_X9_91 pu_10_0 (h.1.kd) (by first | decide | omega) rfl dX9_file_2 ?_
  have h0 := gRef_th (v := nI 0) h
  obtain ⟨r, q, -⟩ := id h0
  obtain ⟨i6, i8, i11, i17, i23, i2, i5⟩ := i.b
  first | refine g_aload_n G dX9_file_5 rfl ?_ | refine g_aload_nN G dX9_file_5 rfl ?_ | refine g_aload_nQ G dX9_file_5 rfl ?_
  refine g_iload_n G dX9_file_6 rfl ?_
  refine g_callVp (ci := 10) G (c_X9_isCase _ _ _ _ _ r i _) mt_X9_isCase mi_X9_isCase ml_X9_147 (r.kd) (by first | decide | omega) rfl (by decide) (by omega) (by omega) rfl (Nat.le_of_ble_eq_true rfl) dX9_file_7 ?_
  refine g_if_ne (tgt := 19) G dX9_file_10 (by decide) (fun c_10 => ?_) (fun c_10 => (absurd c_10 (gIxB_ok hc (by omega))))
  first | refine g_aload_n G dX9_file_19 rfl ?_ | refine g_aload_nN G dX9_file_19 rfl ?_ | refine g_aload_nQ G dX9_file_19 rfl ?_
  refine g_getI G fl_X9_104 (r.kd) (by first | decide | omega) rfl (r.n 11 rfl) dX9_file_20 ?_
  refine g_bipush (v := nI 24) G dX9_file_23 (by decide) ?_
  refine g_icmp_ne (tgt := 34) G dX9_file_25 (by decide) (fun c_25 => ?_) (fun c_25 => (absurd ((nI_eq (b := 24) (by omega) (by omega)).mp c_25) hn))
  first | refine g_aload_n G dX9_file_34 rfl ?_ | refine g_aload_nN G dX9_file_34 rfl ?_ | refine g_aload_nQ G dX9_file_34 rfl ?_
  first | refine g_aload_n G dX9_file_35 rfl ?_ | refine g_aload_nN G dX9_file_35 rfl ?_ | refine g_aload_nQ G dX9_file_35 rfl ?_
  refine g_iload_n G dX9_file_36 rfl ?_
  refine g_callV (ci := 10) G (c_X9_parse _ _ y b M h0 i c hc) mt_X9_parse mi_X9_parse ml_X9_150 (r.kd) (by first | decide | omega) rfl (by decide) (by omega) (by omega) rfl (Nat.le_of_ble_eq_true rfl) dX9_file_37 (fun v_37 S_37 hp_37 => ?_)
  obtain ⟨hR, hO9, hcase⟩ := hp_37
  have hth := (hO9.1 0 (by decide)).trans sX_s
  have hF9 := gFr_th.tr (K := gCk) hO9.2 (fun k z => ⟨z, by unfold gCk at z; unfold gQ9 gQk; omega⟩)
  rcases hcase with ⟨p, rfl, hp, hB⟩ | ⟨D, W, rfl, hP, hW, hf, hOut⟩
  · exact absurd (hB.1.symm.trans hok) (by decide)
  · simp only [Option.toList, List.cons_append, List.nil_append]
    refine g_putI G fl_X9_13 pu_10_3 (hR.1.kd) (by first | decide | omega) rfl dX9_file_40 ?_
    have h1 := gRef_w (-1) hR
    obtain ⟨r1, q1, -⟩ := id h1
    first | refine g_aload_n G dX9_file_43 rfl ?_ | refine g_aload_nN G dX9_file_43 rfl ?_ | refine g_aload_nQ G dX9_file_43 rfl ?_
    refine g_getI G fl_X9_13 (r1.kd) (by first | decide | omega) rfl (r1.w.trans uA_s) dX9_file_44 ?_
    refine g_iconst (v := (-1)) G dX9_file_47 (by decide) ?_
    refine g_icmp_eq (tgt := 55) G dX9_file_48 (by decide) (fun c_48 => ?_) (fun c_48 => (absurd rfl c_48))
    refine g_iconst (v := nI 0) G dX9_file_55 (by decide) ?_
    refine g_istore_n G dX9_file_56 (gSt_2 (by first | rfl | exact g_c1_rf)) ?_
    refine g_iload_n G dX9_file_57 rfl ?_
    refine g_if_ne (tgt := 69) G dX9_file_58 (by decide) (fun c_58 => (absurd rfl c_58)) (fun c_58 => ?_)
    first | refine g_aload_n G dX9_file_61 rfl ?_ | refine g_aload_nN G dX9_file_61 rfl ?_ | refine g_aload_nQ G dX9_file_61 rfl ?_
    first | refine g_aload_n G dX9_file_62 rfl ?_ | refine g_aload_nN G dX9_file_62 rfl ?_ | refine g_aload_nQ G dX9_file_62 rfl ?_
    refine g_getI G fl_X9_120 (r1.kd) (by first | decide | omega) rfl (sX_p (by decide) hP.2.2.1) dX9_file_63 ?_
    refine g_putI G fl_X9_13 pu_10_3 (r1.kd) (by first | decide | omega) rfl dX9_file_66 ?_
    have h1b := gRef_w (mA D 4 1) h1
    rw [uA_same] at h1b
    obtain ⟨r1b, q1b, -⟩ := id h1b
    first | refine g_aload_n G dX9_file_69 rfl ?_ | refine g_aload_nN G dX9_file_69 rfl ?_ | refine g_aload_nQ G dX9_file_69 rfl ?_
    refine g_iconst (v := nI 0) G dX9_file_70 (by decide) ?_
    refine g_putI G fl_X9_110 pu_10_2 (r1b.kd) (by first | decide | omega) rfl dX9_file_71 ?_
    have h2 := gRef_2 0 h1b (Nat.zero_le _)
    obtain ⟨r2, q2, -⟩ := id h2
    first | refine g_aload_n G dX9_file_74 rfl ?_ | refine g_aload_nN G dX9_file_74 rfl ?_ | refine g_aload_nQ G dX9_file_74 rfl ?_
    refine g_getI G fl_X9_13 (r2.kd) (by first | decide | omega) rfl ((show gX _ 11 3 y = mA D 4 1 from r2.w.trans uA_s)) dX9_file_75 ?_
    refine g_iconst (v := (-1)) G dX9_file_78 (by decide) ?_
    refine g_icmp_eq (tgt := 93) G dX9_file_79 (by decide) (fun c_79 => ?_) (fun c_79 => (absurd ((congrArg Prod.fst hOut).symm.trans hok) (by
        show ¬ (if mA D 4 1 < 0 then nI 0 else nI 2) = nI 0
        rw [if_neg (hf.resolve_left c_79)]
        decide)))
    have e1 : mA D 4 1 = -1 := c_79
    obtain ⟨p1, p2, p3, p4, p5⟩ := hP
    obtain ⟨eW, hrow⟩ := p5 (by rw [e1]; decide)
    have hth2 := sX_p (S := sX (sX S_37 11 3 y (-1)) 11 3 y (mA D 4 1)) (κ := 11) (p := 2) (q := y) (v := nI 0) (p' := 0) (a := y) (by decide) (sX_p (by decide) (sX_p (by decide) hth))
    have hF2 := ((hF9.X1 (κ := 11) 3 y (-1) (fun k z => by unfold gCk at z; omega)).X1 (κ := 11) 3 y (mA D 4 1) (fun k z => by unfold gCk at z; omega)).X1 (κ := 11) 2 y (nI 0) (fun k z => by unfold gCk at z; omega)
    have w32_0 := sX_p (S := sX (sX S_37 11 3 y (-1)) 11 3 y (mA D 4 1)) (κ := 11) (p := 2) (q := y) (v := nI 0) (by decide) (sX_p (S := sX S_37 11 3 y (-1)) (κ := 11) (p := 3) (q := y) (v := mA D 4 1) (by decide) (sX_p (S := S_37) (κ := 11) (p := 3) (q := y) (v := -1) (by decide) p2))
    have w34_0 := sX_p (S := sX (sX S_37 11 3 y (-1)) 11 3 y (mA D 4 1)) (κ := 11) (p := 2) (q := y) (v := nI 0) (by decide) (sX_p (S := sX S_37 11 3 y (-1)) (κ := 11) (p := 3) (q := y) (v := mA D 4 1) (by decide) (sX_p (S := S_37) (κ := 11) (p := 3) (q := y) (v := -1) (by decide) p4))
    have w0_0 := hth2
    have F37 : gFr (fun k => k ≠ 11) S_37 (sX (sX (sX S_37 11 3 y (-1)) 11 3 y (mA D 4 1)) 11 2 y (nI 0)) := (((gFr.rf S_37).X1 _ _ _ (fun _ z => z)).X1 _ _ _ (fun _ z => z)).X1 _ _ _ (fun _ z => z)
    first | refine g_aload_n G dX9_file_93 rfl ?_ | refine g_aload_nN G dX9_file_93 rfl ?_ | refine g_aload_nQ G dX9_file_93 rfl ?_
    refine g_getR G fl_X9_33 (r2.kd) (by first | decide | omega) rfl (r2.RY 13 (by decide)) dX9_file_94 ?_
    first | refine g_aload_n G dX9_file_97 rfl ?_ | refine g_aload_nN G dX9_file_97 rfl ?_ | refine g_aload_nQ G dX9_file_97 rfl ?_
    refine g_getI G fl_X9_104 (r2.kd) (by first | decide | omega) rfl ((show gX _ 11 11 y = nI (mN M 11) from r2.n 11 rfl)) dX9_file_98 ?_
    first | refine g_aload_n G dX9_file_101 rfl ?_ | refine g_aload_nN G dX9_file_101 rfl ?_ | refine g_aload_nQ G dX9_file_101 rfl ?_
    refine g_getR G fl_X9_82 (r2.kd) (by first | decide | omega) rfl (r2.Y 29 rfl) dX9_file_102 ?_
    first | refine g_aload_n G dX9_file_105 rfl ?_ | refine g_aload_nN G dX9_file_105 rfl ?_ | refine g_aload_nQ G dX9_file_105 rfl ?_
    refine g_getI G fl_X9_117 (r2.kd) (by first | decide | omega) rfl (w32_0) dX9_file_106 ?_
    refine g_callS G (c_J7_copyOf_59c91 _ _ (b 0 29) (17 + 32 * (10 + 29)) (17 + 32 * (100 + 3 * mN M 11 + (13 - 13))) W 2500 (r2.A 29 rfl) (by decide) (by omega) (by omega) (r2.L 29 2499 rfl) (Nat.le_refl _) hW (fun i hi => rfl)) mt_J7_copyOf_59c91 ms_J7_copyOf_59c91 ml_X9_153 (by decide) (by omega) (by omega) rfl (Nat.le_of_ble_eq_true rfl) dX9_file_109 (fun v_109 S_109 hp_109 => ?_)
    obtain ⟨qn0, hqn0, rfl, row0, FC0⟩ := hp_109
    simp only [Option.toList, List.cons_append, List.nil_append]
    have g0 := gRef_new h2 FC0 (show mN M 11 = mN M 11 from rfl) (fun κ z1 z2 => by omega)
    have TX0 : ∀ j, j < W → gX _ (17 + 32 * (10 + 29)) (b 0 29) j = mA D 0 j := fun j hj => ((F37).X (by first | omega | (dsimp only; omega)) (hrow j hj).1)
    refine g_aastI G (g0.1.RA 13 (by decide)) (by decide) row0.1 (by omega) (by rw [g0.1.RL 13 (by decide)]; omega) (by omega) dX9_file_112 ?_
    have h3 := gRef_Y (f := 13) (d := mN M 11) (v := some qn0) g0 (by decide) (Nat.le_refl _)
    obtain ⟨r3, q3, -⟩ := id h3
    have yy0 : gY (sY S_109 (20 + 32 * 13) (b 0 13) (mN M 11) (some qn0)) (20 + 32 * 13) (b 0 13) (mN M 11) = some qn0 := u3_same _ _ _ _ _
    have FD0 := gFr_Y S_109 (20 + 32 * 13) (b 0 13) (mN M 11) (some qn0)
    have w32_1 := FD0.X (κ := 11) (p := 32) (a := y) (by omega) (FC0.X (κ := 11) (p := 32) (a := y) (by omega) w32_0)
    have w34_1 := FD0.X (κ := 11) (p := 34) (a := y) (by omega) (FC0.X (κ := 11) (p := 34) (a := y) (by omega) w34_0)
    have w0_1 := FD0.X (κ := 11) (p := 0) (a := y) (by omega) (FC0.X (κ := 11) (p := 0) (a := y) (by omega) w0_0)
    have hF3 := (hF2.tr (K := gCk) FC0 (fun k z => ⟨z, by unfold gCk at z; omega⟩)).tr (K := gCk) FD0 (fun k z => ⟨z, by unfold gCk at z; omega⟩)
    first | refine g_aload_n G dX9_file_113 rfl ?_ | refine g_aload_nN G dX9_file_113 rfl ?_ | refine g_aload_nQ G dX9_file_113 rfl ?_
    refine g_getR G fl_X9_37 (r3.kd) (by first | decide | omega) rfl (r3.RY 14 (by decide)) dX9_file_114 ?_
    first | refine g_aload_n G dX9_file_117 rfl ?_ | refine g_aload_nN G dX9_file_117 rfl ?_ | refine g_aload_nQ G dX9_file_117 rfl ?_
    refine g_getI G fl_X9_104 (r3.kd) (by first | decide | omega) rfl ((show gX _ 11 11 y = nI (mN M 11) from r3.n 11 rfl)) dX9_file_118 ?_
    first | refine g_aload_n G dX9_file_121 rfl ?_ | refine g_aload_nN G dX9_file_121 rfl ?_ | refine g_aload_nQ G dX9_file_121 rfl ?_
    refine g_getR G fl_X9_85 (r3.kd) (by first | decide | omega) rfl (r3.Y 30 rfl) dX9_file_122 ?_
    first | refine g_aload_n G dX9_file_125 rfl ?_ | refine g_aload_nN G dX9_file_125 rfl ?_ | refine g_aload_nQ G dX9_file_125 rfl ?_
    refine g_getI G fl_X9_117 (r3.kd) (by first | decide | omega) rfl (w32_1) dX9_file_126 ?_
    refine g_callS G (c_J7_copyOf_59c91 _ _ (b 0 30) (17 + 32 * (10 + 30)) (17 + 32 * (100 + 3 * mN M 11 + (14 - 13))) W 2500 (r3.A 30 rfl) (by decide) (by omega) (by omega) (r3.L 30 2499 rfl) (Nat.le_refl _) hW (fun i hi => rfl)) mt_J7_copyOf_59c91 ms_J7_copyOf_59c91 ml_X9_153 (by decide) (by omega) (by omega) rfl (Nat.le_of_ble_eq_true rfl) dX9_file_129 (fun v_129 S_129 hp_129 => ?_)
    obtain ⟨qn1, hqn1, rfl, row1, FC1⟩ := hp_129
    simp only [Option.toList, List.cons_append, List.nil_append]
    have g1 := gRef_new h3 FC1 (show mN M 11 = mN M 11 from rfl) (fun κ z1 z2 => by omega)
    have TX1 : ∀ j, j < W → gX _ (17 + 32 * (10 + 30)) (b 0 30) j = mA D 1 j := fun j hj => ((FD0).X (by first | omega | (dsimp only; omega)) ((FC0).X (by first | omega | (dsimp only; omega)) ((F37).X (by first | omega | (dsimp only; omega)) (hrow j hj).2.1)))
    refine g_aastI G (g1.1.RA 14 (by decide)) (by decide) row1.1 (by omega) (by rw [g1.1.RL 14 (by decide)]; omega) (by omega) dX9_file_132 ?_
    have h4 := gRef_Y (f := 14) (d := mN M 11) (v := some qn1) g1 (by decide) (Nat.le_refl _)
    obtain ⟨r4, q4, -⟩ := id h4
    have yy1 : gY (sY S_129 (20 + 32 * 14) (b 0 14) (mN M 11) (some qn1)) (20 + 32 * 14) (b 0 14) (mN M 11) = some qn1 := u3_same _ _ _ _ _
    have FD1 := gFr_Y S_129 (20 + 32 * 14) (b 0 14) (mN M 11) (some qn1)
    have w32_2 := FD1.X (κ := 11) (p := 32) (a := y) (by omega) (FC1.X (κ := 11) (p := 32) (a := y) (by omega) w32_1)
    have w34_2 := FD1.X (κ := 11) (p := 34) (a := y) (by omega) (FC1.X (κ := 11) (p := 34) (a := y) (by omega) w34_1)
    have w0_2 := FD1.X (κ := 11) (p := 0) (a := y) (by omega) (FC1.X (κ := 11) (p := 0) (a := y) (by omega) w0_1)
    have hF4 := (hF3.tr (K := gCk) FC1 (fun k z => ⟨z, by unfold gCk at z; omega⟩)).tr (K := gCk) FD1 (fun k z => ⟨z, by unfold gCk at z; omega⟩)
    first | refine g_aload_n G dX9_file_133 rfl ?_ | refine g_aload_nN G dX9_file_133 rfl ?_ | refine g_aload_nQ G dX9_file_133 rfl ?_
    refine g_getR G fl_X9_40 (r4.kd) (by first | decide | omega) rfl (r4.RY 15 (by decide)) dX9_file_134 ?_
    first | refine g_aload_n G dX9_file_137 rfl ?_ | refine g_aload_nN G dX9_file_137 rfl ?_ | refine g_aload_nQ G dX9_file_137 rfl ?_
    refine g_getI G fl_X9_104 (r4.kd) (by first | decide | omega) rfl ((show gX _ 11 11 y = nI (mN M 11) from r4.n 11 rfl)) dX9_file_138 ?_
    first | refine g_aload_n G dX9_file_141 rfl ?_ | refine g_aload_nN G dX9_file_141 rfl ?_ | refine g_aload_nQ G dX9_file_141 rfl ?_
    refine g_getR G fl_X9_88 (r4.kd) (by first | decide | omega) rfl (r4.Y 31 rfl) dX9_file_142 ?_
    first | refine g_aload_n G dX9_file_145 rfl ?_ | refine g_aload_nN G dX9_file_145 rfl ?_ | refine g_aload_nQ G dX9_file_145 rfl ?_
    refine g_getI G fl_X9_117 (r4.kd) (by first | decide | omega) rfl (w32_2) dX9_file_146 ?_
    refine g_callS G (c_J7_copyOf_59c91 _ _ (b 0 31) (17 + 32 * (10 + 31)) (17 + 32 * (100 + 3 * mN M 11 + (15 - 13))) W 2500 (r4.A 31 rfl) (by decide) (by omega) (by omega) (r4.L 31 2499 rfl) (Nat.le_refl _) hW (fun i hi => rfl)) mt_J7_copyOf_59c91 ms_J7_copyOf_59c91 ml_X9_153 (by decide) (by omega) (by omega) rfl (Nat.le_of_ble_eq_true rfl) dX9_file_149 (fun v_149 S_149 hp_149 => ?_)
    obtain ⟨qn2, hqn2, rfl, row2, FC2⟩ := hp_149
    simp only [Option.toList, List.cons_append, List.nil_append]
    have g2 := gRef_new h4 FC2 (show mN M 11 = mN M 11 from rfl) (fun κ z1 z2 => by omega)
    have TX2 : ∀ j, j < W → gX _ (17 + 32 * (10 + 31)) (b 0 31) j = mA D 2 j := fun j hj => ((FD1).X (by first | omega | (dsimp only; omega)) ((FC1).X (by first | omega | (dsimp only; omega)) ((FD0).X (by first | omega | (dsimp only; omega)) ((FC0).X (by first | omega | (dsimp only; omega)) ((F37).X (by first | omega | (dsimp only; omega)) (hrow j hj).2.2)))))
    refine g_aastI G (g2.1.RA 15 (by decide)) (by decide) row2.1 (by omega) (by rw [g2.1.RL 15 (by decide)]; omega) (by omega) dX9_file_152 ?_
    have h5 := gRef_Y (f := 15) (d := mN M 11) (v := some qn2) g2 (by decide) (Nat.le_refl _)
    obtain ⟨r5, q5, -⟩ := id h5
    have yy2 : gY (sY S_149 (20 + 32 * 15) (b 0 15) (mN M 11) (some qn2)) (20 + 32 * 15) (b 0 15) (mN M 11) = some qn2 := u3_same _ _ _ _ _
    have FD2 := gFr_Y S_149 (20 + 32 * 15) (b 0 15) (mN M 11) (some qn2)
    have w32_3 := FD2.X (κ := 11) (p := 32) (a := y) (by omega) (FC2.X (κ := 11) (p := 32) (a := y) (by omega) w32_2)
    have w34_3 := FD2.X (κ := 11) (p := 34) (a := y) (by omega) (FC2.X (κ := 11) (p := 34) (a := y) (by omega) w34_2)
    have w0_3 := FD2.X (κ := 11) (p := 0) (a := y) (by omega) (FC2.X (κ := 11) (p := 0) (a := y) (by omega) w0_2)
    have hF5 := (hF4.tr (K := gCk) FC2 (fun k z => ⟨z, by unfold gCk at z; omega⟩)).tr (K := gCk) FD2 (fun k z => ⟨z, by unfold gCk at z; omega⟩)
    first | refine g_aload_n G dX9_file_153 rfl ?_ | refine g_aload_nN G dX9_file_153 rfl ?_ | refine g_aload_nQ G dX9_file_153 rfl ?_
    refine g_getR G fl_X9_43 (r5.kd) (by first | decide | omega) rfl (r5.Y 16 rfl) dX9_file_154 ?_
    first | refine g_aload_n G dX9_file_157 rfl ?_ | refine g_aload_nN G dX9_file_157 rfl ?_ | refine g_aload_nQ G dX9_file_157 rfl ?_
    refine g_getI G fl_X9_104 (r5.kd) (by first | decide | omega) rfl ((show gX _ 11 11 y = nI (mN M 11) from r5.n 11 rfl)) dX9_file_158 ?_
    first | refine g_aload_n G dX9_file_161 rfl ?_ | refine g_aload_nN G dX9_file_161 rfl ?_ | refine g_aload_nQ G dX9_file_161 rfl ?_
    refine g_getI G fl_X9_123 (r5.kd) (by first | decide | omega) rfl (w34_3) dX9_file_162 ?_
    refine g_iast G (r5.A 16 rfl) (by first | decide | omega) (r5.lt 16 23 rfl (by omega)) (by omega) (rfl) dX9_file_165 ?_
    have h6 := gRef_A 16 23 (j := mN M 11) (mA D 4 0) h5 rfl rfl (by omega)
    obtain ⟨r6, q6, -⟩ := id h6
    first | refine g_aload_n G dX9_file_166 rfl ?_ | refine g_aload_nN G dX9_file_166 rfl ?_ | refine g_aload_nQ G dX9_file_166 rfl ?_
    refine g_getR G fl_X9_29 (r6.kd) (by first | decide | omega) rfl (r6.Y 12 rfl) dX9_file_167 ?_
    first | refine g_aload_n G dX9_file_170 rfl ?_ | refine g_aload_nN G dX9_file_170 rfl ?_ | refine g_aload_nQ G dX9_file_170 rfl ?_
    refine g_getI G fl_X9_104 (r6.kd) (by first | decide | omega) rfl ((show gX _ 11 11 y = nI (mN M 11) from r6.n 11 rfl)) dX9_file_171 ?_
    refine g_iload_n G dX9_file_174 rfl ?_
    refine g_iast G (r6.A 12 rfl) (by first | decide | omega) (r6.lt 12 23 rfl (by omega)) (by omega) (rfl) dX9_file_175 ?_
    have h7 := gRef_A 12 23 (j := mN M 11) (nI c) h6 rfl rfl (by omega)
    obtain ⟨r7, q7, -⟩ := id h7
    first | refine g_aload_n G dX9_file_176 rfl ?_ | refine g_aload_nN G dX9_file_176 rfl ?_ | refine g_aload_nQ G dX9_file_176 rfl ?_
    refine g_getR G fl_X9_75 (r7.kd) (by first | decide | omega) rfl (r7.st) dX9_file_177 ?_
    refine g_getRN G fl_X9_158 (q7.kd) (by first | decide | omega) rfl (q7.Y 3 rfl) dX9_file_180 ?_
    first | refine g_aload_n G dX9_file_183 rfl ?_ | refine g_aload_nN G dX9_file_183 rfl ?_ | refine g_aload_nQ G dX9_file_183 rfl ?_
    refine g_getI G fl_X9_104 (r7.kd) (by first | decide | omega) rfl ((show gX _ 11 11 y = nI (mN M 11) from r7.n 11 rfl)) dX9_file_184 ?_
    refine g_iconst (v := (-1)) G dX9_file_187 (by decide) ?_
    refine g_iast G (q7.A 3 rfl) (by first | decide | omega) (q7.lt 3 23 rfl (by omega)) (by omega) (rfl) dX9_file_188 ?_
    have h8 := gRef_S 3 23 (j := mN M 11) (-1) h7 rfl (by omega)
    obtain ⟨r8, q8, -⟩ := id h8
    first | refine g_aload_n G dX9_file_189 rfl ?_ | refine g_aload_nN G dX9_file_189 rfl ?_ | refine g_aload_nQ G dX9_file_189 rfl ?_
    refine g_getR G fl_X9_75 (r8.kd) (by first | decide | omega) rfl (r8.st) dX9_file_190 ?_
    refine g_getRN G fl_X9_161 (q8.kd) (by first | decide | omega) rfl (q8.Y 4 rfl) dX9_file_193 ?_
    first | refine g_aload_n G dX9_file_196 rfl ?_ | refine g_aload_nN G dX9_file_196 rfl ?_ | refine g_aload_nQ G dX9_file_196 rfl ?_
    refine g_getI G fl_X9_104 (r8.kd) (by first | decide | omega) rfl ((show gX _ 11 11 y = nI (mN M 11) from r8.n 11 rfl)) dX9_file_197 ?_
    refine g_iconst (v := (-1)) G dX9_file_200 (by decide) ?_
    refine g_iast G (q8.A 4 rfl) (by first | decide | omega) (q8.lt 4 23 rfl (by omega)) (by omega) (rfl) dX9_file_201 ?_
    have h9 := gRef_S 4 23 (j := mN M 11) (-1) h8 rfl (by omega)
    obtain ⟨r9, q9, -⟩ := id h9
    first | refine g_aload_n G dX9_file_202 rfl ?_ | refine g_aload_nN G dX9_file_202 rfl ?_ | refine g_aload_nQ G dX9_file_202 rfl ?_
    refine g_dup G dX9_file_203 rfl ?_
    refine g_getI G fl_X9_104 (r9.kd) (by first | decide | omega) rfl ((show gX _ 11 11 y = nI (mN M 11) from r9.n 11 rfl)) dX9_file_204 ?_
    refine g_iconst (v := nI 1) G dX9_file_207 (by decide) ?_
    refine g_iadd G dX9_file_208 (by first | exact nI_add _ _ | rfl) ?_
    refine g_putI G fl_X9_104 pu_10_11 (r9.kd) (by first | decide | omega) rfl dX9_file_209 ?_
    have hnew : ∀ f, 13 ≤ f → f ≤ 15 → gY (sX (sX (sX (sX (sY S_149 (20 + 32 * 15) (b 0 15) (mN M 11) (some qn2)) (17 + 32 * (10 + 16)) (b 0 16) (mN M 11) (mA D 4 0)) (17 + 32 * (10 + 12)) (b 0 12) (mN M 11) (nI c)) (17 + 32 * (60 + 10 * 0 + 3)) (b (1 + 0) 3) (mN M 11) (-1)) (17 + 32 * (60 + 10 * 0 + 4)) (b (1 + 0) 4) (mN M 11) (-1)) (20 + 32 * f) (b 0 f) (mN M 11) = some ((fun f => if f = 13 then qn0 else if f = 14 then qn1 else qn2) f) ∧ gRow1 (sX (sX (sX (sX (sY S_149 (20 + 32 * 15) (b 0 15) (mN M 11) (some qn2)) (17 + 32 * (10 + 16)) (b 0 16) (mN M 11) (mA D 4 0)) (17 + 32 * (10 + 12)) (b 0 12) (mN M 11) (nI c)) (17 + 32 * (60 + 10 * 0 + 3)) (b (1 + 0) 3) (mN M 11) (-1)) (17 + 32 * (60 + 10 * 0 + 4)) (b (1 + 0) 4) (mN M 11) (-1)) ((fun f => if f = 13 then qn0 else if f = 14 then qn1 else qn2) f) (17 + 32 * (100 + 3 * mN M 11 + (f - 13))) W (mT (mFile M c) f (mN M 11)) := fun f f1 f2 => by
      have eD : (fOut M c).2.2 = D := congrArg (fun z => z.2.2) hOut
      obtain rfl | rfl | rfl := (show f = 13 ∨ f = 14 ∨ f = 15 by omega)
      · rw [show mT (mFile M c) 13 (mN M 11) = mA D 0 by rw [← eD]; exact (show mT (uT M 13 (mN M 11) (mA (fOut M c).2.2 0)) 13 (mN M 11) = _ from uT_s)]
        exact ⟨((gFr_X _ (17 + 32 * (60 + 10 * 0 + 4)) _ _ _).Y (by first | omega | (dsimp only; omega)) ((gFr_X _ (17 + 32 * (60 + 10 * 0 + 3)) _ _ _).Y (by first | omega | (dsimp only; omega)) ((gFr_X _ (17 + 32 * (10 + 12)) _ _ _).Y (by first | omega | (dsimp only; omega)) ((gFr_X _ (17 + 32 * (10 + 16)) _ _ _).Y (by first | omega | (dsimp only; omega)) ((FD2).Y (by first | omega | (dsimp only; omega)) ((FC2).Y (by first | omega | (dsimp only; omega)) ((FD1).Y (by first | omega | (dsimp only; omega)) ((FC1).Y (by first | omega | (dsimp only; omega)) yy0)))))))), (gRow1_mono (gRow1_mono (gRow1_mono (gRow1_mono (gRow1_mono (gRow1_mono (gRow1_mono (gRow1_mono (gRow1_mono (gRow1_to row0 (fun j hj => TX0 j hj)) (FD0) (by first | omega | (dsimp only; omega)) (by omega)) (FC1) (by first | omega | (dsimp only; omega)) (by omega)) (FD1) (by first | omega | (dsimp only; omega)) (by omega)) (FC2) (by first | omega | (dsimp only; omega)) (by omega)) (FD2) (by first | omega | (dsimp only; omega)) (by omega)) (gFr_X _ (17 + 32 * (10 + 16)) _ _ _) (by first | omega | (dsimp only; omega)) (by omega)) (gFr_X _ (17 + 32 * (10 + 12)) _ _ _) (by first | omega | (dsimp only; omega)) (by omega)) (gFr_X _ (17 + 32 * (60 + 10 * 0 + 3)) _ _ _) (by first | omega | (dsimp only; omega)) (by omega)) (gFr_X _ (17 + 32 * (60 + 10 * 0 + 4)) _ _ _) (by first | omega | (dsimp only; omega)) (by omega))⟩
      · rw [show mT (mFile M c) 14 (mN M 11) = mA D 1 by rw [← eD]; exact (show mT (uT M 14 (mN M 11) (mA (fOut M c).2.2 1)) 14 (mN M 11) = _ from uT_s)]
        exact ⟨((gFr_X _ (17 + 32 * (60 + 10 * 0 + 4)) _ _ _).Y (by first | omega | (dsimp only; omega)) ((gFr_X _ (17 + 32 * (60 + 10 * 0 + 3)) _ _ _).Y (by first | omega | (dsimp only; omega)) ((gFr_X _ (17 + 32 * (10 + 12)) _ _ _).Y (by first | omega | (dsimp only; omega)) ((gFr_X _ (17 + 32 * (10 + 16)) _ _ _).Y (by first | omega | (dsimp only; omega)) ((FD2).Y (by first | omega | (dsimp only; omega)) ((FC2).Y (by first | omega | (dsimp only; omega)) yy1)))))), (gRow1_mono (gRow1_mono (gRow1_mono (gRow1_mono (gRow1_mono (gRow1_mono (gRow1_mono (gRow1_to row1 (fun j hj => TX1 j hj)) (FD1) (by first | omega | (dsimp only; omega)) (by omega)) (FC2) (by first | omega | (dsimp only; omega)) (by omega)) (FD2) (by first | omega | (dsimp only; omega)) (by omega)) (gFr_X _ (17 + 32 * (10 + 16)) _ _ _) (by first | omega | (dsimp only; omega)) (by omega)) (gFr_X _ (17 + 32 * (10 + 12)) _ _ _) (by first | omega | (dsimp only; omega)) (by omega)) (gFr_X _ (17 + 32 * (60 + 10 * 0 + 3)) _ _ _) (by first | omega | (dsimp only; omega)) (by omega)) (gFr_X _ (17 + 32 * (60 + 10 * 0 + 4)) _ _ _) (by first | omega | (dsimp only; omega)) (by omega))⟩
      · rw [show mT (mFile M c) 15 (mN M 11) = mA D 2 by rw [← eD]; exact (show mT (uT M 15 (mN M 11) (mA (fOut M c).2.2 2)) 15 (mN M 11) = _ from uT_s)]
        exact ⟨((gFr_X _ (17 + 32 * (60 + 10 * 0 + 4)) _ _ _).Y (by first | omega | (dsimp only; omega)) ((gFr_X _ (17 + 32 * (60 + 10 * 0 + 3)) _ _ _).Y (by first | omega | (dsimp only; omega)) ((gFr_X _ (17 + 32 * (10 + 12)) _ _ _).Y (by first | omega | (dsimp only; omega)) ((gFr_X _ (17 + 32 * (10 + 16)) _ _ _).Y (by first | omega | (dsimp only; omega)) yy2)))), (gRow1_mono (gRow1_mono (gRow1_mono (gRow1_mono (gRow1_mono (gRow1_to row2 (fun j hj => TX2 j hj)) (FD2) (by first | omega | (dsimp only; omega)) (by omega)) (gFr_X _ (17 + 32 * (10 + 16)) _ _ _) (by first | omega | (dsimp only; omega)) (by omega)) (gFr_X _ (17 + 32 * (10 + 12)) _ _ _) (by first | omega | (dsimp only; omega)) (by omega)) (gFr_X _ (17 + 32 * (60 + 10 * 0 + 3)) _ _ _) (by first | omega | (dsimp only; omega)) (by omega)) (gFr_X _ (17 + 32 * (60 + 10 * 0 + 4)) _ _ _) (by first | omega | (dsimp only; omega)) (by omega))⟩
    have eD : (fOut M c).2.2 = D := congrArg (fun z => z.2.2) hOut
    have eP : (fOut M c).2.1 = mA D 4 1 := congrArg (fun z => z.2.1) hOut
    have h10 := gRef_doc (M' := mFile M c) (n := mN M 11) (L := W) (qf := fun f => if f = 13 then qn0 else if f = 14 then qn1 else qn2) h9 rfl rfl (by rw [eW, ← eD]; exact (uN_o (by omega)).trans uN_s) (by omega) (fun i i1 i2 => (uN_o i1).trans (uN_o i2)) (by
      have z : mA (mFile M c) = mA (uA (uA (uA (uA (mF0 M (fOut M c).2.1) 12 (mN M 11) (nI c)) 16 (mN M 11) (mA (fOut M c).2.2 4 0)) 43 (mN M 11) (-1)) 44 (mN M 11) (-1)) := rfl
      rw [z, eD, eP, uA_comm (f := 12) (g := 16) (by omega)]
      rfl) (fun f d z => (uT_i z).trans ((uT_i z).trans (uT_i z))) hnew
    obtain ⟨r10, q10, -⟩ := id h10
    first | refine g_aload_n G dX9_file_212 rfl ?_ | refine g_aload_nN G dX9_file_212 rfl ?_ | refine g_aload_nQ G dX9_file_212 rfl ?_
    refine g_getI G fl_X9_104 (r10.kd) (by first | decide | omega) rfl ((show gX _ 11 11 y = nI (mN M 11 + 1) from r10.n 11 rfl)) dX9_file_213 ?_
    refine g_iconst (v := nI 1) G dX9_file_216 (by decide) ?_
    refine g_isub G dX9_file_217 (pk_sub (by omega)) ?_
    exact g_iret G F (⟨rfl, sX_p (by decide) (sX_k (by decide) (sX_k (by decide) (sX_k (by decide) (sX_k (by decide) w0_3)))), _, h10, (((((hF5).X1 _ _ _ (fun k z => by unfold gCk at z; omega)).X1 _ _ _ (fun k z => by unfold gCk at z; omega)).X1 _ _ _ (fun k z => by unfold gCk at z; omega)).X1 _ _ _ (fun k z => by unfold gCk at z; omega)).X1 _ _ _ (fun k z => by unfold gCk at z; omega)⟩) (by omega) (by omega) dX9_file_218
