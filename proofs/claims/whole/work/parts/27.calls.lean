/-! ===== the class's own kinds, and the reference's; what each call does to the abstract state ===== -/
def gMk (κ : Nat) : Prop := κ % 32 = 10 ∨ κ % 32 = 11 ∨ κ % 32 = 18 ∨ κ % 32 = 20 ∨ (κ % 32 = 17 ∧ 10 ≤ κ / 32)
def gCk (κ : Nat) : Prop := κ % 32 ≤ 9 ∨ κ % 32 = 16 ∨ κ % 32 = 19 ∨ (κ % 32 = 17 ∧ κ / 32 < 10) ∨ κ % 32 = 18
abbrev gLv (s : Int32) : Prop := 0 ≤ s ∧ s ≤ nI 9
/-- a document number, a person's ..: or none of them -/
def gIx (n : Nat) (i : Int32) : Prop := ¬ i < 0 ∧ ¬ nI n ≤ i
theorem gIx_of {n : Nat} {i : Int32} (h : gIx n i) (hn : n < 2 ^ 31) : ∃ j : Nat, j < n ∧ i = nI j := (pk_ix i hn).elim (fun z => absurd z h.1) (fun z => z.elim (fun y => absurd y h.2) id)
theorem gIx_nI {n j : Nat} (h : j < n) (hn : n < 2 ^ 31) : gIx n (nI j) := ⟨nI_pos (by omega), nI_ge h hn⟩
theorem gIx_no {n : Nat} {i : Int32} (h : ¬ gIx n i) : i < 0 ∨ nI n ≤ i := Classical.byContradiction (fun z => h ⟨fun y => z (Or.inl y), fun y => z (Or.inr y)⟩)
def mOpen (M : gM) (s : Int32) : gM := uN (uA M 7 (mN M 6) s) 6 (mN M 6 + 1)
def mAddP (M : gM) (r c : Int32) : gM := uN (uA (uA M 9 (mN M 8) r) 41 (mN M 8) c) 8 (mN M 8 + 1)
/-- rows that hold nothing yet -/
def gZero (M : gM) : Prop := (∀ p, mN M 8 ≤ p → mA M 10 p = nI 0 ∧ mA M 42 p = nI 0) ∧ (∀ d, mN M 11 ≤ d → mA M 45 d = nI 0) ∧ (∀ k, mN M 23 ≤ k → mA M 46 k = nI 0) ∧ ∀ e, mN M 17 ≤ e → mN M (200 + e) = 0
/-- what a call leaves: a new state of the class, all of the reference's kinds as they were -/
def gTo (d0 : Nat × Nat) (x : Nat) (S S' : gS) (M' : gM) : Prop := ∃ ad', gMail d0 S' x ad' M' ∧ gFr gMk S S'

theorem gMail_open {d0 : Nat × Nat} {S S3 : gS} {x : Nat} {ad : Nat → Nat → Nat} {M : gM} {s : Int32} {q : Nat} (hq : gCase S3 q (mN M 6) s) (hl : gLst d0 S3 (ad 5 0) 1 (mN M 6 + 1) (fun i => if i = mN M 6 then q else ad 0 i)) (h : gMail d0 S x ad M) (F : gFr (fun k => k ≠ 2 + 32 * mN M 6 ∧ k ≠ 33 ∧ k ≠ 51) S S3) : gTo d0 x S S3 (mOpen M s) := by
  obtain ⟨hr, ⟨l0, l1, l2, l3, l4⟩, ht, hcs, hps, hds, hes, hls⟩ := id h
  have hN := l1.2.2.1
  refine ⟨(uad ad 0 (mN M 6) q), ⟨?_, ⟨?_, ?_, ?_, ?_, ?_⟩, ?_, ?_, ?_, ?_, ?_, ?_⟩, F.mono (fun k (z : gMk k) => by unfold gMk at z; first | omega | (dsimp only; omega))⟩
  · exact gRoot_mono hr F (by first | omega | (dsimp only; omega)) rfl rfl rfl rfl rfl rfl
  · show gLst d0 S3 (ad 5 0) 1 (mN M 6 + 1) (uad ad 0 (mN M 6) q 0)
    rw [uad_row]
    exact hl
  · exact gLst_mono l1 F (by first | omega | (dsimp only; omega)) (by first | omega | (dsimp only; omega)) (fun _ _ => rfl)
  · exact gLst_mono l2 F (by first | omega | (dsimp only; omega)) (by first | omega | (dsimp only; omega)) (fun _ _ => rfl)
  · exact gLst_mono l3 F (by first | omega | (dsimp only; omega)) (by first | omega | (dsimp only; omega)) (fun _ _ => rfl)
  · exact gLst_mono l4 F (by first | omega | (dsimp only; omega)) (by first | omega | (dsimp only; omega)) (fun _ _ => rfl)
  · exact gTape_mono ht F (by first | omega | (dsimp only; omega)) (by first | omega | (dsimp only; omega)) rfl rfl rfl rfl rfl
  · intro i hi
    have hi : i < mN M 6 + 1 := hi
    by_cases e : i = mN M 6
    · subst e
      rw [uad_s, show mA (mOpen M s) 7 (mN M 6) = s from uA_s]
      exact hq
    · rw [uad_i e, show mA (mOpen M s) 7 i = mA M 7 i from uA_i e]
      exact gCase_mono (hcs i (by omega)) F (by first | omega | (dsimp only; omega))
  · exact fun i hi => gPers_mono (hps i hi) F (by first | omega | (dsimp only; omega))
  · exact fun d hd => gDoc_mono (hds d hd) F (by first | omega | (dsimp only; omega)) (by first | omega | (dsimp only; omega)) (by first | omega | (dsimp only; omega)) (by first | omega | (dsimp only; omega)) hN rfl rfl rfl rfl (fun c _ => uad_i (by omega)) (fun _ _ => rfl) (Nat.le_succ _) (Nat.le_refl _) rfl rfl rfl rfl rfl (uN_o (by omega)) rfl rfl rfl
  · exact fun e he => gExh_mono (hes e he) F (by first | omega | (dsimp only; omega)) (by first | omega | (dsimp only; omega)) (by first | omega | (dsimp only; omega)) (fun k hk => by first | omega | (dsimp only; omega)) hN rfl rfl (fun _ => uad_f (by omega)) (fun c _ => uad_i (by omega)) (fun _ _ => rfl) (Nat.le_succ _) (Nat.le_refl _) rfl rfl rfl (uN_o (by omega)) (fun _ _ => rfl)
  · exact fun k hk => gLtr_mono (hls k hk) F (by first | omega | (dsimp only; omega)) rfl (fun _ _ => rfl) (fun _ _ => rfl) (Nat.le_refl _) (Nat.le_refl _) rfl rfl rfl rfl rfl

theorem gMail_addP {d0 : Nat × Nat} {S S3 : gS} {x : Nat} {ad : Nat → Nat → Nat} {M : gM} {r c : Int32} {q : Nat} (hz : gZero M) (hq : gPers S3 q (mN M 8) r c (nI 0) (nI 0)) (hl : gLst d0 S3 (ad 5 1) 2 (mN M 8 + 1) (fun i => if i = mN M 8 then q else ad 1 i)) (h : gMail d0 S x ad M) (F : gFr (fun k => k ≠ 8 + 32 * mN M 8 ∧ k ≠ 65 ∧ k ≠ 83) S S3) : gTo d0 x S S3 (mAddP M r c) := by
  obtain ⟨hr, ⟨l0, l1, l2, l3, l4⟩, ht, hcs, hps, hds, hes, hls⟩ := id h
  have hN := l1.2.2.1
  refine ⟨(uad ad 1 (mN M 8) q), ⟨?_, ⟨?_, ?_, ?_, ?_, ?_⟩, ?_, ?_, ?_, ?_, ?_, ?_⟩, F.mono (fun k (z : gMk k) => by unfold gMk at z; first | omega | (dsimp only; omega))⟩
  · exact gRoot_mono hr F (by first | omega | (dsimp only; omega)) rfl rfl rfl rfl rfl rfl
  · exact gLst_mono l0 F (by first | omega | (dsimp only; omega)) (by first | omega | (dsimp only; omega)) (fun _ _ => rfl)
  · show gLst d0 S3 (ad 5 1) 2 (mN M 8 + 1) (uad ad 1 (mN M 8) q 1)
    rw [uad_row]
    exact hl
  · exact gLst_mono l2 F (by first | omega | (dsimp only; omega)) (by first | omega | (dsimp only; omega)) (fun _ _ => rfl)
  · exact gLst_mono l3 F (by first | omega | (dsimp only; omega)) (by first | omega | (dsimp only; omega)) (fun _ _ => rfl)
  · exact gLst_mono l4 F (by first | omega | (dsimp only; omega)) (by first | omega | (dsimp only; omega)) (fun _ _ => rfl)
  · exact gTape_mono ht F (by first | omega | (dsimp only; omega)) (by first | omega | (dsimp only; omega)) rfl rfl rfl rfl rfl
  · exact fun i hi => gCase_mono (hcs i hi) F (by first | omega | (dsimp only; omega))
  · intro i hi
    have hi : i < mN M 8 + 1 := hi
    by_cases e : i = mN M 8
    · subst e
      rw [uad_s, show mA (mAddP M r c) 9 (mN M 8) = r from (uA_f (by omega)).trans uA_s, show mA (mAddP M r c) 41 (mN M 8) = c from uA_s, show mA (mAddP M r c) 10 (mN M 8) = nI 0 from (hz.1 _ (Nat.le_refl _)).1, show mA (mAddP M r c) 42 (mN M 8) = nI 0 from (hz.1 _ (Nat.le_refl _)).2]
      exact hq
    · rw [uad_i e, show mA (mAddP M r c) 9 i = mA M 9 i from (uA_f (by omega)).trans (uA_i e), show mA (mAddP M r c) 41 i = mA M 41 i from uA_i e]
      exact gPers_mono (hps i (by omega)) F (by first | omega | (dsimp only; omega))
  · exact fun d hd => gDoc_mono (hds d hd) F (by first | omega | (dsimp only; omega)) (by first | omega | (dsimp only; omega)) (by first | omega | (dsimp only; omega)) (by first | omega | (dsimp only; omega)) hN rfl rfl rfl rfl (fun _ _ => rfl) (fun p _ => uad_i (by omega)) (Nat.le_refl _) (Nat.le_succ _) rfl rfl rfl rfl rfl (uN_o (by omega)) rfl rfl rfl
  · exact fun e he => gExh_mono (hes e he) F (by first | omega | (dsimp only; omega)) (by first | omega | (dsimp only; omega)) (by first | omega | (dsimp only; omega)) (fun k hk => by first | omega | (dsimp only; omega)) hN rfl rfl (fun _ => uad_f (by omega)) (fun _ _ => rfl) (fun p _ => uad_i (by omega)) (Nat.le_refl _) (Nat.le_succ _) rfl rfl rfl (uN_o (by omega)) (fun _ _ => rfl)
  · exact fun k hk => gLtr_mono (hls k hk) F (by first | omega | (dsimp only; omega)) rfl (fun _ _ => rfl) (fun p _ => uad_i (by omega)) (Nat.le_refl _) (Nat.le_succ _) rfl rfl rfl rfl rfl

set_option maxHeartbeats 4000000 in
set_option maxRecDepth 100000 in
theorem c_X7_open (d0 : Nat × Nat) (S : gS) (x : Nat) (ad : Nat → Nat → Nat) (M : gM) (h : gMail d0 S x ad M) (hB : gBnd M) (s : Int32) : gCt d0 yX7_open cX7_open 2 (some .int) 10 4 150 [.ref x, .int s] S (fun v' S' => (gLv s ∧ ¬ mN M 6 = 8) ∧ v' = some (.int (nI (mN M 6))) ∧ gTo d0 x S S' (mOpen M s)) (fun E S' => S' = S ∧ ((E = "java/lang/IllegalArgumentException" ∧ ¬ gLv s) ∨ (E = "java/lang/IllegalStateException" ∧ gLv s ∧ mN M 6 = 8))) := by
  refine gCt_of (lo := [some (.ref x), some (.int s)]) (by decide +kernel) (Nat.le_of_ble_eq_true rfl) (rfl) ?_
  intro Γ hd G F hini
  obtain ⟨⟨r1, ⟨ra, rb, rc, rd, re⟩, rt, rtl, rp, rpl, rdr, rep, rday⟩, ⟨l0, l1, l2, l3, l4⟩, ht, hcs, hps, hds, hes, hls⟩ := id h
  subst hd
  have hb6 := hB.1
  refine g_iload_n G dX7_open_0 rfl ?_
  refine g_callSp G (c_X7_isLevel _ S s) mt_X7_isLevel ms_X7_isLevel ml_X7_114 (by decide) (by omega) (by omega) rfl (Nat.le_of_ble_eq_true rfl) dX7_open_1 ?_
  refine g_if_ne (tgt := 17) G dX7_open_4 (by decide) (fun c_4 => ?_) (fun c_4 => ?_)
  · have hs : gLv s := of_decide_eq_true (gB_ne0.mp c_4)
    first | refine g_aload_n G dX7_open_17 rfl ?_ | refine g_aload_nN G dX7_open_17 rfl ?_ | refine g_aload_nQ G dX7_open_17 rfl ?_
    first | refine g_getR G fl_X7_12 (by assumption) (by first | decide | omega) rfl (by assumption) dX7_open_18 ?_ | refine g_getZ G fl_X7_12 (by assumption) (by first | decide | omega) rfl (by assumption) dX7_open_18 ?_ | refine g_getQ G fl_X7_12 (by assumption) (by first | decide | omega) rfl (by first | assumption | rfl) dX7_open_18 ?_
    refine g_callVp (ci := 0) G (c_Jx4a65c_size_8abf5 _ S (ad 5 0) 1 (mN M 6) (ad 0) l0) mt_Jx4a65c_size_8abf5 mi_Jx4a65c_size_8abf5 ml_X7_80 (l0.1) (by first | decide | omega) rfl (by decide) (by omega) (by omega) rfl (Nat.le_of_ble_eq_true rfl) dX7_open_21 ?_
    refine g_bipush (v := nI 8) G dX7_open_24 (by decide) ?_
    refine g_icmp_lt (tgt := 39) G dX7_open_26 (by decide) (fun c_26 => ?_) (fun c_26 => ?_)
    · have h6 : mN M 6 < 8 := (nI_ltI (a := mN M 6) (b := 8) (by omega) (by omega)).mp c_26
      first | refine g_aload_n G dX7_open_39 rfl ?_ | refine g_aload_nN G dX7_open_39 rfl ?_ | refine g_aload_nQ G dX7_open_39 rfl ?_
      first | refine g_getR G fl_X7_12 (by assumption) (by first | decide | omega) rfl (by assumption) dX7_open_40 ?_ | refine g_getZ G fl_X7_12 (by assumption) (by first | decide | omega) rfl (by assumption) dX7_open_40 ?_ | refine g_getQ G fl_X7_12 (by assumption) (by first | decide | omega) rfl (by first | assumption | rfl) dX7_open_40 ?_
      refine g_new (N := 2) (κ := 2 + 32 * mN M 6) G nw_X7_134 (by first | decide | omega) rfl (by omega) (by omega) dX7_open_43 (fun q_43 hq_43 => ?_)
      have F1 := gFr_N (S := S) (2 + 32 * mN M 6) hq_43
      have la := gLst_mono l0 F1 (by first | omega | (dsimp only; omega)) (by first | omega | (dsimp only; omega)) (fun _ _ => rfl)
      have r1a := F1.K r1 (by decide)
      have raa := F1.Y (κ := 9) (by first | omega | (dsimp only; omega)) ra
      refine g_dup G dX7_open_46 rfl ?_
      first | refine g_aload_n G dX7_open_47 rfl ?_ | refine g_aload_nN G dX7_open_47 rfl ?_ | refine g_aload_nQ G dX7_open_47 rfl ?_
      refine g_getR G fl_X7_12 (r1a) (by first | decide | omega) rfl (raa) dX7_open_48 ?_
      refine g_callVp (ci := 0) G (c_Jx4a65c_size_8abf5 _ _ (ad 5 0) 1 (mN M 6) (ad 0) la) mt_Jx4a65c_size_8abf5 mi_Jx4a65c_size_8abf5 ml_X7_80 (la.1) (by first | decide | omega) rfl (by decide) (by omega) (by omega) rfl (Nat.le_of_ble_eq_true rfl) dX7_open_51 ?_
      refine g_iload_n G dX7_open_54 rfl ?_
      refine g_callI G (c_X0_init _ _ q_43 (mN M 6) s (gK_N _ _ _)) mt_X0_init mi_X0_init ml_X7_136 (by decide) (by omega) (by omega) rfl (Nat.le_of_ble_eq_true rfl) dX7_open_55 (fun v_55 S_55 hp_55 => ?_)
      obtain ⟨rfl, hc, F2⟩ := hp_55
      simp only [Option.toList, List.nil_append]
      have F3 := F1.tr (K := fun k => k ≠ 2 + 32 * mN M 6) F2 (fun k z => ⟨z, z⟩)
      have lb := gLst_mono l0 F3 (by first | omega | (dsimp only; omega)) (by first | omega | (dsimp only; omega)) (fun _ _ => rfl)
      refine g_callV (ci := 0) G (c_add _ _ (ad 5 0) 1 q_43 (mN M 6) (ad 0) lb (by omega) 1 RX0 (by rw [hc.1]; omega) (fun i hi => by rw [(gCase_mono (hcs i hi) F3 (by first | omega | (dsimp only; omega))).1]; omega) (by decide) rfl kco_1) mt_Jx4a65c_add_9ea2d mi_Jx4a65c_add_9ea2d ml_X7_100 (lb.1) (by first | decide | omega) rfl (by decide) (by omega) (by omega) rfl (Nat.le_of_ble_eq_true rfl) dX7_open_58 (fun v_58 S_58 hp_58 => ?_)
      obtain ⟨rfl, hl, FL⟩ := hp_58
      simp only [Option.toList, List.cons_append, List.nil_append]
      have F5 := gFr_L FL
      have F4 := F3.tr (K := fun k => k ≠ 2 + 32 * mN M 6 ∧ k ≠ 33 ∧ k ≠ 51) F5 (fun k z => ⟨z.1, z.2⟩)
      have hT := gMail_open (gCase_mono hc F5 (by first | omega | (dsimp only; omega))) hl h F4
      have r1b := F4.K r1 (by decide)
      have rab := F4.Y (κ := 9) (by first | omega | (dsimp only; omega)) ra
      refine g_pop G dX7_open_61 rfl ?_
      first | refine g_aload_n G dX7_open_62 rfl ?_ | refine g_aload_nN G dX7_open_62 rfl ?_ | refine g_aload_nQ G dX7_open_62 rfl ?_
      refine g_getR G fl_X7_12 (r1b) (by first | decide | omega) rfl (rab) dX7_open_63 ?_
      refine g_callVp (ci := 0) G (c_Jx4a65c_size_8abf5 _ _ (ad 5 0) 1 (mN M 6 + 1) _ hl) mt_Jx4a65c_size_8abf5 mi_Jx4a65c_size_8abf5 ml_X7_80 (hl.1) (by first | decide | omega) rfl (by decide) (by omega) (by omega) rfl (Nat.le_of_ble_eq_true rfl) dX7_open_66 ?_
      refine g_iconst (v := nI 1) G dX7_open_69 (by decide) ?_
      refine g_isub G dX7_open_70 (pk_sub (by omega)) ?_
      exact g_iret G F (⟨⟨hs, by omega⟩, rfl, hT⟩) (by omega) (by omega) dX7_open_71
    · have h6 : mN M 6 = 8 := by have := (nI_leI (a := 8) (b := mN M 6) (by omega) (by omega)).mp (Int32.not_lt.mp c_26); omega
      exact g_throw (names := nm_ISE) G F tf_ISE cl_X7_55 ti_ISE st_X7_132 ta_ISE dX7_open_29 (by exact dX7_open_32) (by exact dX7_open_33) (by exact dX7_open_35) (by exact dX7_open_38) (by decide) (Nat.le_of_ble_eq_true rfl) (by omega) (by omega) (⟨rfl, Or.inr ⟨rfl, hs, h6⟩⟩)
  · have hs : ¬ gLv s := of_decide_eq_false (gB_eq0.mp c_4)
    exact g_throw (names := nm_IAE) G F tf_IAE cl_X7_66 ti_IAE st_X7_130 ta_IAE dX7_open_7 (by exact dX7_open_10) (by exact dX7_open_11) (by exact dX7_open_13) (by exact dX7_open_16) (by decide) (Nat.le_of_ble_eq_true rfl) (by omega) (by omega) (⟨rfl, Or.inl ⟨rfl, hs⟩⟩)

set_option maxHeartbeats 4000000 in
set_option maxRecDepth 100000 in
theorem c_X7_addPerson (d0 : Nat × Nat) (S : gS) (x : Nat) (ad : Nat → Nat → Nat) (M : gM) (h : gMail d0 S x ad M) (hB : gBnd M) (hz : gZero M) (r s : Int32) : gCt d0 yX7_addPerson cX7_addPerson 3 (some .int) 10 4 150 [.ref x, .int r, .int s] S (fun v' S' => ((0 ≤ r ∧ r ≤ nI 3) ∧ gLv s ∧ ¬ mN M 8 = 12) ∧ v' = some (.int (nI (mN M 8))) ∧ gTo d0 x S S' (mAddP M r s)) (fun E S' => S' = S ∧ ((E = "java/lang/IllegalArgumentException" ∧ ¬ ((0 ≤ r ∧ r ≤ nI 3) ∧ gLv s)) ∨ (E = "java/lang/IllegalStateException" ∧ ((0 ≤ r ∧ r ≤ nI 3) ∧ gLv s) ∧ mN M 8 = 12))) := by
  refine gCt_of (lo := [some (.ref x), some (.int r), some (.int s)]) (by decide +kernel) (Nat.le_of_ble_eq_true rfl) (rfl) ?_
  intro Γ hd G F hini
  obtain ⟨⟨r1, ⟨ra, rb, rc, rd, re⟩, rt, rtl, rp, rpl, rdr, rep, rday⟩, ⟨l0, l1, l2, l3, l4⟩, ht, hcs, hps, hds, hes, hls⟩ := id h
  subst hd
  have hb6 := hB.2.1
  refine g_iload_n G dX7_addPerson_0 rfl ?_
  refine g_if_lt (tgt := 16) G dX7_addPerson_1 (by decide) (fun c_1 => ?_) (fun c_1 => ?_)
  · have hx : ¬ ((0 ≤ r ∧ r ≤ nI 3) ∧ gLv s) := fun z => absurd z.1.1 (Int32.not_le.mpr c_1)
    exact g_throw (names := nm_IAE) G F tf_IAE cl_X7_66 ti_IAE st_X7_142 ta_IAE dX7_addPerson_16 (by exact dX7_addPerson_19) (by exact dX7_addPerson_20) (by exact dX7_addPerson_22) (by exact dX7_addPerson_25) (by decide) (Nat.le_of_ble_eq_true rfl) (by omega) (by omega) (⟨rfl, Or.inl ⟨rfl, hx⟩⟩)
  · have e1 : 0 ≤ r := Int32.not_lt.mp c_1
    refine g_iload_n G dX7_addPerson_4 rfl ?_
    refine g_iconst (v := nI 3) G dX7_addPerson_5 (by decide) ?_
    refine g_icmp_gt (tgt := 16) G dX7_addPerson_6 (by decide) (fun c_6 => ?_) (fun c_6 => ?_)
    · have hx : ¬ ((0 ≤ r ∧ r ≤ nI 3) ∧ gLv s) := fun z => absurd z.1.2 (Int32.not_le.mpr c_6)
      exact g_throw (names := nm_IAE) G F tf_IAE cl_X7_66 ti_IAE st_X7_142 ta_IAE dX7_addPerson_16 (by exact dX7_addPerson_19) (by exact dX7_addPerson_20) (by exact dX7_addPerson_22) (by exact dX7_addPerson_25) (by decide) (Nat.le_of_ble_eq_true rfl) (by omega) (by omega) (⟨rfl, Or.inl ⟨rfl, hx⟩⟩)
    · have e2 : r ≤ nI 3 := Int32.not_lt.mp c_6
      refine g_iload_n G dX7_addPerson_9 rfl ?_
      refine g_callSp G (c_X7_isLevel _ S s) mt_X7_isLevel ms_X7_isLevel ml_X7_114 (by decide) (by omega) (by omega) rfl (Nat.le_of_ble_eq_true rfl) dX7_addPerson_10 ?_
      refine g_if_ne (tgt := 26) G dX7_addPerson_13 (by decide) (fun c_13 => ?_) (fun c_13 => ?_)
      · have hs : gLv s := of_decide_eq_true (gB_ne0.mp c_13)
        first | refine g_aload_n G dX7_addPerson_26 rfl ?_ | refine g_aload_nN G dX7_addPerson_26 rfl ?_ | refine g_aload_nQ G dX7_addPerson_26 rfl ?_
        first | refine g_getR G fl_X7_16 (by assumption) (by first | decide | omega) rfl (by assumption) dX7_addPerson_27 ?_ | refine g_getZ G fl_X7_16 (by assumption) (by first | decide | omega) rfl (by assumption) dX7_addPerson_27 ?_ | refine g_getQ G fl_X7_16 (by assumption) (by first | decide | omega) rfl (by first | assumption | rfl) dX7_addPerson_27 ?_
        refine g_callVp (ci := 0) G (c_Jx4a65c_size_8abf5 _ S (ad 5 1) 2 (mN M 8) (ad 1) l1) mt_Jx4a65c_size_8abf5 mi_Jx4a65c_size_8abf5 ml_X7_80 (l1.1) (by first | decide | omega) rfl (by decide) (by omega) (by omega) rfl (Nat.le_of_ble_eq_true rfl) dX7_addPerson_30 ?_
        refine g_bipush (v := nI 12) G dX7_addPerson_33 (by decide) ?_
        refine g_icmp_lt (tgt := 48) G dX7_addPerson_35 (by decide) (fun c_35 => ?_) (fun c_35 => ?_)
        · have h6 : mN M 8 < 12 := (nI_ltI (a := mN M 8) (b := 12) (by omega) (by omega)).mp c_35
          first | refine g_aload_n G dX7_addPerson_48 rfl ?_ | refine g_aload_nN G dX7_addPerson_48 rfl ?_ | refine g_aload_nQ G dX7_addPerson_48 rfl ?_
          first | refine g_getR G fl_X7_16 (by assumption) (by first | decide | omega) rfl (by assumption) dX7_addPerson_49 ?_ | refine g_getZ G fl_X7_16 (by assumption) (by first | decide | omega) rfl (by assumption) dX7_addPerson_49 ?_ | refine g_getQ G fl_X7_16 (by assumption) (by first | decide | omega) rfl (by first | assumption | rfl) dX7_addPerson_49 ?_
          refine g_new (N := 5) (κ := 8 + 32 * mN M 8) G nw_X7_146 (by first | decide | omega) rfl (by omega) (by omega) dX7_addPerson_52 (fun q_52 hq_52 => ?_)
          have F1 := gFr_N (S := S) (8 + 32 * mN M 8) hq_52
          have la := gLst_mono l1 F1 (by first | omega | (dsimp only; omega)) (by first | omega | (dsimp only; omega)) (fun _ _ => rfl)
          have r1a := F1.K r1 (by decide)
          have raa := F1.Y (κ := 9) (by first | omega | (dsimp only; omega)) rb
          refine g_dup G dX7_addPerson_55 rfl ?_
          first | refine g_aload_n G dX7_addPerson_56 rfl ?_ | refine g_aload_nN G dX7_addPerson_56 rfl ?_ | refine g_aload_nQ G dX7_addPerson_56 rfl ?_
          refine g_getR G fl_X7_16 (r1a) (by first | decide | omega) rfl (raa) dX7_addPerson_57 ?_
          refine g_callVp (ci := 0) G (c_Jx4a65c_size_8abf5 _ _ (ad 5 1) 2 (mN M 8) (ad 1) la) mt_Jx4a65c_size_8abf5 mi_Jx4a65c_size_8abf5 ml_X7_80 (la.1) (by first | decide | omega) rfl (by decide) (by omega) (by omega) rfl (Nat.le_of_ble_eq_true rfl) dX7_addPerson_60 ?_
          refine g_iload_n G dX7_addPerson_63 rfl ?_
          refine g_iload_n G dX7_addPerson_64 rfl ?_
          refine g_callI G (c_X6_init _ _ q_52 (mN M 8) r s (gK_N _ _ _)) mt_X6_init mi_X6_init ml_X7_148 (by decide) (by omega) (by omega) rfl (Nat.le_of_ble_eq_true rfl) dX7_addPerson_65 (fun v_65 S_65 hp_65 => ?_)
          obtain ⟨rfl, hc, F2⟩ := hp_65
          simp only [Option.toList, List.nil_append]
          have F3 := F1.tr (K := fun k => k ≠ 8 + 32 * mN M 8) F2 (fun k z => ⟨z, z⟩)
          have lb := gLst_mono l1 F3 (by first | omega | (dsimp only; omega)) (by first | omega | (dsimp only; omega)) (fun _ _ => rfl)
          refine g_callV (ci := 0) G (c_add _ _ (ad 5 1) 2 q_52 (mN M 8) (ad 1) lb (by omega) 7 RX6 (by rw [hc.1]; omega) (fun i hi => by rw [(gPers_mono (hps i hi) F3 (by first | omega | (dsimp only; omega))).1]; omega) (by decide) rfl kco_7) mt_Jx4a65c_add_9ea2d mi_Jx4a65c_add_9ea2d ml_X7_100 (lb.1) (by first | decide | omega) rfl (by decide) (by omega) (by omega) rfl (Nat.le_of_ble_eq_true rfl) dX7_addPerson_68 (fun v_68 S_68 hp_68 => ?_)
          obtain ⟨rfl, hl, FL⟩ := hp_68
          simp only [Option.toList, List.cons_append, List.nil_append]
          have F5 := gFr_L FL
          have F4 := F3.tr (K := fun k => k ≠ 8 + 32 * mN M 8 ∧ k ≠ 65 ∧ k ≠ 83) F5 (fun k z => ⟨z.1, z.2⟩)
          have hT := gMail_addP hz (gPers_mono hc F5 (by first | omega | (dsimp only; omega))) hl h F4
          have r1b := F4.K r1 (by decide)
          have rab := F4.Y (κ := 9) (by first | omega | (dsimp only; omega)) rb
          refine g_pop G dX7_addPerson_71 rfl ?_
          first | refine g_aload_n G dX7_addPerson_72 rfl ?_ | refine g_aload_nN G dX7_addPerson_72 rfl ?_ | refine g_aload_nQ G dX7_addPerson_72 rfl ?_
          refine g_getR G fl_X7_16 (r1b) (by first | decide | omega) rfl (rab) dX7_addPerson_73 ?_
          refine g_callVp (ci := 0) G (c_Jx4a65c_size_8abf5 _ _ (ad 5 1) 2 (mN M 8 + 1) _ hl) mt_Jx4a65c_size_8abf5 mi_Jx4a65c_size_8abf5 ml_X7_80 (hl.1) (by first | decide | omega) rfl (by decide) (by omega) (by omega) rfl (Nat.le_of_ble_eq_true rfl) dX7_addPerson_76 ?_
          refine g_iconst (v := nI 1) G dX7_addPerson_79 (by decide) ?_
          refine g_isub G dX7_addPerson_80 (pk_sub (by omega)) ?_
          exact g_iret G F (⟨⟨⟨e1, e2⟩, hs, by omega⟩, rfl, hT⟩) (by omega) (by omega) dX7_addPerson_81
        · have h6 : mN M 8 = 12 := by have := (nI_leI (a := 12) (b := mN M 8) (by omega) (by omega)).mp (Int32.not_lt.mp c_35); omega
          exact g_throw (names := nm_ISE) G F tf_ISE cl_X7_55 ti_ISE st_X7_144 ta_ISE dX7_addPerson_38 (by exact dX7_addPerson_41) (by exact dX7_addPerson_42) (by exact dX7_addPerson_44) (by exact dX7_addPerson_47) (by decide) (Nat.le_of_ble_eq_true rfl) (by omega) (by omega) (⟨rfl, Or.inr ⟨rfl, ⟨⟨e1, e2⟩, hs⟩, h6⟩⟩)
      · have hs : ¬ gLv s := of_decide_eq_false (gB_eq0.mp c_13)
        have hx : ¬ ((0 ≤ r ∧ r ≤ nI 3) ∧ gLv s) := fun z => hs z.2
        exact g_throw (names := nm_IAE) G F tf_IAE cl_X7_66 ti_IAE st_X7_142 ta_IAE dX7_addPerson_16 (by exact dX7_addPerson_19) (by exact dX7_addPerson_20) (by exact dX7_addPerson_22) (by exact dX7_addPerson_25) (by decide) (Nat.le_of_ble_eq_true rfl) (by omega) (by omega) (⟨rfl, Or.inl ⟨rfl, hx⟩⟩)
