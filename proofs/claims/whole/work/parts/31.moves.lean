/-! ===== calls that change one thing ===== -/
def mAtt (M : gM) (p c : Nat) : gM := uA M 10 p (mA M 10 p ^^^ (nI 1 <<< (nI c &&& 31)))
def mPut (M : gM) (v : Int32) : gM := uN (uA M 1 (mN M 2) v) 2 (mN M 2 + 1)
def gByte (v : Int32) (s : Nat) : Int32 := (v.toUInt32 >>> ((nI s).toUInt32 &&& Int32.toUInt32 31)).toInt32 &&& nI 255
def mApp (M : gM) (v : Int32) : gM := mPut (mPut (mPut (mPut M (gByte v 24)) (gByte v 16)) (gByte v 8)) (gByte v 0)
def mFeed (M : gM) (a b c d e : Int32) : gM := mApp (mApp (mApp (mApp (mApp M a) b) c) d) e
def mPaper (M : gM) (d : Nat) (r : Int32) : gM := uN (uR M 4 (fun k => gSeenAt (mT M 13 d k) (mT M 14 d k) (mT M 15 d k) r)) 5 (mN M (100 + d))
def mLog (M : gM) (d p : Nat) : gM := uA M 45 d (mA M 45 d ||| (nI 1 <<< (nI p &&& 31)))
def mLend (M : gM) (d p : Nat) (t : Int32) : gM := uA (uA M 43 d (nI p)) 44 d t
def mBack (M : gM) (d : Nat) : gM := uA (uA M 43 d (-1)) 44 d (-1)
theorem sX_p {S : gS} {κ p q p' a : Nat} {v w : Int32} (h : p' ≠ p) (e : gX S κ p' a = w) : gX (sX S κ p q v) κ p' a = w := (u3_p _ _ h).trans e
theorem sX_k {S : gS} {κ p q κ' b a : Nat} {v w : Int32} (h : κ' ≠ κ) (e : gX S κ' b a = w) : gX (sX S κ p q v) κ' b a = w := (u3_k _ _ h).trans e
theorem sX_s {S : gS} {κ p q : Nat} {v : Int32} : gX (sX S κ p q v) κ p q = v := u3_same _ _ _ _ _
theorem sX_q {S : gS} {κ p q b a : Nat} {v w : Int32} (h : a ≠ q) (e : gX S κ b a = w) : gX (sX S κ p q v) κ b a = w := (u3_q _ _ h).trans e
def mVeil (M : gM) (d a b : Nat) (w : Int32) : gM := uT M 14 d (fun k => if a ≤ k ∧ k < b then w else mT M 14 d k)

theorem gMail_seal {d0 : Nat × Nat} {S S3 : gS} {x : Nat} {ad : Nat → Nat → Nat} {M : gM} {c : Nat} {s : Int32} (hq : gCase S3 (ad 0 c) c s) (h : gMail d0 S x ad M) (F : gFr (fun k => k ≠ 2 + 32 * c) S S3) : gTo d0 x S S3 (uA M 7 c s) := by
  obtain ⟨hr, ⟨l0, l1, l2, l3, l4⟩, ht, hcs, hps, hds, hes, hls⟩ := id h
  have hN := l1.2.2.1
  refine ⟨ad, ⟨?_, ⟨?_, ?_, ?_, ?_, ?_⟩, ?_, ?_, ?_, ?_, ?_, ?_⟩, F.mono (fun k (z : gMk k) => by unfold gMk at z; first | omega | (dsimp only; omega))⟩
  · exact gRoot_mono hr F (by first | omega | (dsimp only; omega)) rfl rfl rfl rfl rfl rfl
  · exact gLst_mono l0 F (by first | omega | (dsimp only; omega)) (by first | omega | (dsimp only; omega)) (fun _ _ => rfl)
  · exact gLst_mono l1 F (by first | omega | (dsimp only; omega)) (by first | omega | (dsimp only; omega)) (fun _ _ => rfl)
  · exact gLst_mono l2 F (by first | omega | (dsimp only; omega)) (by first | omega | (dsimp only; omega)) (fun _ _ => rfl)
  · exact gLst_mono l3 F (by first | omega | (dsimp only; omega)) (by first | omega | (dsimp only; omega)) (fun _ _ => rfl)
  · exact gLst_mono l4 F (by first | omega | (dsimp only; omega)) (by first | omega | (dsimp only; omega)) (fun _ _ => rfl)
  · exact gTape_mono ht F (by first | omega | (dsimp only; omega)) (by first | omega | (dsimp only; omega)) rfl rfl rfl rfl rfl
  · intro i hi
    by_cases e : i = c
    · subst e
      rw [show mA (uA M 7 i s) 7 i = s from uA_s]
      exact hq
    · rw [show mA (uA M 7 c s) 7 i = mA M 7 i from uA_i e]
      exact gCase_mono (hcs i hi) F (by first | omega | (dsimp only; omega))
  · exact fun i hi => gPers_mono (hps i hi) F (by first | omega | (dsimp only; omega))
  · exact fun d hd => gDoc_mono (hds d hd) F (by first | omega | (dsimp only; omega)) (by first | omega | (dsimp only; omega)) (by first | omega | (dsimp only; omega)) (by first | omega | (dsimp only; omega)) hN rfl rfl rfl rfl (fun _ _ => rfl) (fun _ _ => rfl) (Nat.le_refl _) (Nat.le_refl _) rfl rfl rfl rfl rfl rfl rfl rfl rfl
  · exact fun e he => gExh_mono (hes e he) F (by first | omega | (dsimp only; omega)) (by first | omega | (dsimp only; omega)) (by first | omega | (dsimp only; omega)) (fun k hk => by first | omega | (dsimp only; omega)) hN rfl rfl (fun _ => rfl) (fun _ _ => rfl) (fun _ _ => rfl) (Nat.le_refl _) (Nat.le_refl _) rfl rfl rfl rfl (fun _ _ => rfl)
  · exact fun k hk => gLtr_mono (hls k hk) F (by first | omega | (dsimp only; omega)) rfl (fun _ _ => rfl) (fun _ _ => rfl) (Nat.le_refl _) (Nat.le_refl _) rfl rfl rfl rfl rfl

theorem gMail_att {d0 : Nat × Nat} {S S3 : gS} {x : Nat} {ad : Nat → Nat → Nat} {M : gM} {p c : Nat} (hq : gPers S3 (ad 1 p) p (mA M 9 p) (mA M 41 p) (mA M 10 p ^^^ (nI 1 <<< (nI c &&& 31))) (mA M 42 p)) (h : gMail d0 S x ad M) (F : gFr (fun k => k ≠ 8 + 32 * p) S S3) : gTo d0 x S S3 (mAtt M p c) := by
  obtain ⟨hr, ⟨l0, l1, l2, l3, l4⟩, ht, hcs, hps, hds, hes, hls⟩ := id h
  have hN := l1.2.2.1
  refine ⟨ad, ⟨?_, ⟨?_, ?_, ?_, ?_, ?_⟩, ?_, ?_, ?_, ?_, ?_, ?_⟩, F.mono (fun k (z : gMk k) => by unfold gMk at z; first | omega | (dsimp only; omega))⟩
  · exact gRoot_mono hr F (by first | omega | (dsimp only; omega)) rfl rfl rfl rfl rfl rfl
  · exact gLst_mono l0 F (by first | omega | (dsimp only; omega)) (by first | omega | (dsimp only; omega)) (fun _ _ => rfl)
  · exact gLst_mono l1 F (by first | omega | (dsimp only; omega)) (by first | omega | (dsimp only; omega)) (fun _ _ => rfl)
  · exact gLst_mono l2 F (by first | omega | (dsimp only; omega)) (by first | omega | (dsimp only; omega)) (fun _ _ => rfl)
  · exact gLst_mono l3 F (by first | omega | (dsimp only; omega)) (by first | omega | (dsimp only; omega)) (fun _ _ => rfl)
  · exact gLst_mono l4 F (by first | omega | (dsimp only; omega)) (by first | omega | (dsimp only; omega)) (fun _ _ => rfl)
  · exact gTape_mono ht F (by first | omega | (dsimp only; omega)) (by first | omega | (dsimp only; omega)) rfl rfl rfl rfl rfl
  · exact fun i hi => gCase_mono (hcs i hi) F (by first | omega | (dsimp only; omega))
  · intro i hi
    by_cases e : i = p
    · subst e
      rw [show mA (mAtt M i c) 10 i = _ from uA_s]
      exact hq
    · rw [show mA (mAtt M p c) 10 i = mA M 10 i from uA_i e]
      exact gPers_mono (hps i hi) F (by first | omega | (dsimp only; omega))
  · exact fun d hd => gDoc_mono (hds d hd) F (by first | omega | (dsimp only; omega)) (by first | omega | (dsimp only; omega)) (by first | omega | (dsimp only; omega)) (by first | omega | (dsimp only; omega)) hN rfl rfl rfl rfl (fun _ _ => rfl) (fun _ _ => rfl) (Nat.le_refl _) (Nat.le_refl _) rfl rfl rfl rfl rfl rfl rfl rfl rfl
  · exact fun e he => gExh_mono (hes e he) F (by first | omega | (dsimp only; omega)) (by first | omega | (dsimp only; omega)) (by first | omega | (dsimp only; omega)) (fun k hk => by first | omega | (dsimp only; omega)) hN rfl rfl (fun _ => rfl) (fun _ _ => rfl) (fun _ _ => rfl) (Nat.le_refl _) (Nat.le_refl _) rfl rfl rfl rfl (fun _ _ => rfl)
  · exact fun k hk => gLtr_mono (hls k hk) F (by first | omega | (dsimp only; omega)) rfl (fun _ _ => rfl) (fun _ _ => rfl) (Nat.le_refl _) (Nat.le_refl _) rfl rfl rfl rfl rfl

theorem gMail_root {d0 : Nat × Nat} {S S3 : gS} {x : Nat} {ad : Nat → Nat → Nat} {M : gM} {M9 : gM} (m6 : mN M9 6 = mN M 6) (m8 : mN M9 8 = mN M 8) (m11 : mN M9 11 = mN M 11) (m17 : mN M9 17 = mN M 17) (m23 : mN M9 23 = mN M 23) (mh : ∀ j, 100 ≤ j → mN M9 j = mN M j) (ma : ∀ f, f ≠ 1 → f ≠ 3 → f ≠ 4 → mA M9 f = mA M f) (mt : mT M9 = mT M) (hq : gRoot S3 x ad M9) (hq2 : gTape S3 ad M9) (h : gMail d0 S x ad M) (F : gFr (fun k => k ≠ 9 ∧ k ≠ 49 ∧ k ≠ 81) S S3) : gTo d0 x S S3 M9 := by
  obtain ⟨hr, ⟨l0, l1, l2, l3, l4⟩, ht, hcs, hps, hds, hes, hls⟩ := id h
  have hN := l1.2.2.1
  refine ⟨ad, ⟨?_, ⟨?_, ?_, ?_, ?_, ?_⟩, ?_, ?_, ?_, ?_, ?_, ?_⟩, F.mono (fun k (z : gMk k) => by unfold gMk at z; first | omega | (dsimp only; omega))⟩
  · exact hq
  · rw [m6]; exact gLst_mono l0 F (by first | omega | (dsimp only; omega)) (by first | omega | (dsimp only; omega)) (fun _ _ => rfl)
  · rw [m8]; exact gLst_mono l1 F (by first | omega | (dsimp only; omega)) (by first | omega | (dsimp only; omega)) (fun _ _ => rfl)
  · rw [m11]; exact gLst_mono l2 F (by first | omega | (dsimp only; omega)) (by first | omega | (dsimp only; omega)) (fun _ _ => rfl)
  · rw [m17]; exact gLst_mono l3 F (by first | omega | (dsimp only; omega)) (by first | omega | (dsimp only; omega)) (fun _ _ => rfl)
  · rw [m23]; exact gLst_mono l4 F (by first | omega | (dsimp only; omega)) (by first | omega | (dsimp only; omega)) (fun _ _ => rfl)
  · exact hq2
  · rw [m6, ma 7 (by omega) (by omega) (by omega)]; exact fun i hi => gCase_mono (hcs i hi) F (by first | omega | (dsimp only; omega))
  · rw [m8, ma 9 (by omega) (by omega) (by omega), ma 41 (by omega) (by omega) (by omega), ma 10 (by omega) (by omega) (by omega), ma 42 (by omega) (by omega) (by omega)]; exact fun i hi => gPers_mono (hps i hi) F (by first | omega | (dsimp only; omega))
  · rw [m11]; exact fun d hd => gDoc_mono (hds d hd) F (by first | omega | (dsimp only; omega)) (by first | omega | (dsimp only; omega)) (by first | omega | (dsimp only; omega)) (by first | omega | (dsimp only; omega)) hN rfl rfl rfl rfl (fun _ _ => rfl) (fun _ _ => rfl) (Nat.le_of_eq m6.symm) (Nat.le_of_eq m8.symm) (congrFun (ma 12 (by omega) (by omega) (by omega)) d) (congrFun (ma 16 (by omega) (by omega) (by omega)) d) (congrFun (ma 43 (by omega) (by omega) (by omega)) d) (congrFun (ma 44 (by omega) (by omega) (by omega)) d) (congrFun (ma 45 (by omega) (by omega) (by omega)) d) (mh _ (by omega)) (congrFun (congrFun mt 13) d) (congrFun (congrFun mt 14) d) (congrFun (congrFun mt 15) d)
  · rw [m17]; exact fun e he => gExh_mono (hes e he) F (by first | omega | (dsimp only; omega)) (by first | omega | (dsimp only; omega)) (by first | omega | (dsimp only; omega)) (fun k hk => by first | omega | (dsimp only; omega)) hN rfl rfl (fun _ => rfl) (fun _ _ => rfl) (fun _ _ => rfl) (Nat.le_of_eq m6.symm) (Nat.le_of_eq m8.symm) (congrFun (ma 18 (by omega) (by omega) (by omega)) e) (congrFun (ma 19 (by omega) (by omega) (by omega)) e) (congrFun (ma 20 (by omega) (by omega) (by omega)) e) (mh _ (by omega)) (fun _ _ => congrFun (ma 22 (by omega) (by omega) (by omega)) _)
  · rw [m23]; exact fun k hk => gLtr_mono (hls k hk) F (by first | omega | (dsimp only; omega)) rfl (fun _ _ => rfl) (fun _ _ => rfl) (Nat.le_of_eq m11.symm) (Nat.le_of_eq m8.symm) (congrFun (ma 24 (by omega) (by omega) (by omega)) k) (congrFun (ma 25 (by omega) (by omega) (by omega)) k) (congrFun (ma 26 (by omega) (by omega) (by omega)) k) (congrFun (ma 46 (by omega) (by omega) (by omega)) k) (congrFun (ma 47 (by omega) (by omega) (by omega)) k)

theorem gMail_doc {d0 : Nat × Nat} {S S3 : gS} {x : Nat} {ad : Nat → Nat → Nat} {M : gM} {d : Nat} {M9 : gM} (mn : mN M9 = mN M) (ma : ∀ f j, (f ≠ 43 ∧ f ≠ 44 ∧ f ≠ 45) ∨ j ≠ d → mA M9 f j = mA M f j) (mt : ∀ f j, j ≠ d → mT M9 f j = mT M f j) (hq : gDoc S3 ad M9 d) (h : gMail d0 S x ad M) (F : gFr (fun k => k ≠ 3 + 32 * d ∧ k ≠ 16 + 32 * (101 + 3 * d)) S S3) : gTo d0 x S S3 M9 := by
  obtain ⟨hr, ⟨l0, l1, l2, l3, l4⟩, ht, hcs, hps, hds, hes, hls⟩ := id h
  have hN := l1.2.2.1
  refine ⟨ad, ⟨?_, ⟨?_, ?_, ?_, ?_, ?_⟩, ?_, ?_, ?_, ?_, ?_, ?_⟩, F.mono (fun k (z : gMk k) => by unfold gMk at z; first | omega | (dsimp only; omega))⟩
  · exact gRoot_mono hr F (by first | omega | (dsimp only; omega)) rfl rfl (congrFun mn 2) (congrFun mn 5) (ma 3 0 (Or.inl (by omega))) (congrFun mn 40)
  · rw [mn]; exact gLst_mono l0 F (by first | omega | (dsimp only; omega)) (by first | omega | (dsimp only; omega)) (fun _ _ => rfl)
  · rw [mn]; exact gLst_mono l1 F (by first | omega | (dsimp only; omega)) (by first | omega | (dsimp only; omega)) (fun _ _ => rfl)
  · rw [mn]; exact gLst_mono l2 F (by first | omega | (dsimp only; omega)) (by first | omega | (dsimp only; omega)) (fun _ _ => rfl)
  · rw [mn]; exact gLst_mono l3 F (by first | omega | (dsimp only; omega)) (by first | omega | (dsimp only; omega)) (fun _ _ => rfl)
  · rw [mn]; exact gLst_mono l4 F (by first | omega | (dsimp only; omega)) (by first | omega | (dsimp only; omega)) (fun _ _ => rfl)
  · exact gTape_mono ht F (by first | omega | (dsimp only; omega)) (by first | omega | (dsimp only; omega)) rfl (congrFun mn 2) (congrFun mn 5) (funext fun j => ma 1 j (Or.inl (by omega))) (funext fun j => ma 4 j (Or.inl (by omega)))
  · rw [mn, show mA M9 7 = mA M 7 from funext fun j => ma 7 j (Or.inl (by omega))]; exact fun i hi => gCase_mono (hcs i hi) F (by first | omega | (dsimp only; omega))
  · rw [mn, show mA M9 9 = mA M 9 from funext fun j => ma 9 j (Or.inl (by omega)), show mA M9 41 = mA M 41 from funext fun j => ma 41 j (Or.inl (by omega)), show mA M9 10 = mA M 10 from funext fun j => ma 10 j (Or.inl (by omega)), show mA M9 42 = mA M 42 from funext fun j => ma 42 j (Or.inl (by omega))]; exact fun i hi => gPers_mono (hps i hi) F (by first | omega | (dsimp only; omega))
  · intro i hi
    by_cases e : i = d
    · subst e; exact hq
    · exact gDoc_mono (hds i (by rw [mn] at hi; exact hi)) F (by first | omega | (dsimp only; omega)) (by first | omega | (dsimp only; omega)) (by first | omega | (dsimp only; omega)) (by first | omega | (dsimp only; omega)) hN rfl rfl rfl rfl (fun _ _ => rfl) (fun _ _ => rfl) (Nat.le_of_eq (congrFun mn 6).symm) (Nat.le_of_eq (congrFun mn 8).symm) (ma 12 i (Or.inr e)) (ma 16 i (Or.inr e)) (ma 43 i (Or.inr e)) (ma 44 i (Or.inr e)) (ma 45 i (Or.inr e)) (congrFun mn _) (mt 13 i e) (mt 14 i e) (mt 15 i e)
  · rw [mn]; exact fun e he => gExh_mono (hes e he) F (by first | omega | (dsimp only; omega)) (by first | omega | (dsimp only; omega)) (by first | omega | (dsimp only; omega)) (fun k hk => by first | omega | (dsimp only; omega)) hN rfl rfl (fun _ => rfl) (fun _ _ => rfl) (fun _ _ => rfl) (Nat.le_of_eq (congrFun mn 6).symm) (Nat.le_of_eq (congrFun mn 8).symm) (ma 18 e (Or.inl (by omega))) (ma 19 e (Or.inl (by omega))) (ma 20 e (Or.inl (by omega))) (congrFun mn _) (fun _ _ => ma 22 _ (Or.inl (by omega)))
  · rw [mn]; exact fun k hk => gLtr_mono (hls k hk) F (by first | omega | (dsimp only; omega)) rfl (fun _ _ => rfl) (fun _ _ => rfl) (Nat.le_of_eq (congrFun mn 11).symm) (Nat.le_of_eq (congrFun mn 8).symm) (ma 24 k (Or.inl (by omega))) (ma 25 k (Or.inl (by omega))) (ma 26 k (Or.inl (by omega))) (ma 46 k (Or.inl (by omega))) (ma 47 k (Or.inl (by omega)))

set_option maxHeartbeats 4000000 in
set_option maxRecDepth 100000 in
theorem c_X7_seal (d0 : Nat × Nat) (S : gS) (x : Nat) (ad : Nat → Nat → Nat) (M : gM) (h : gMail d0 S x ad M) (i s : Int32) : gCt d0 yX7_seal cX7_seal 5 (some .int) 10 1 6 [.ref x, .int i, .int s] S (fun v' S' => ∃ c, c < mN M 6 ∧ i = nI c ∧ gLv s ∧ v' = some (.int (mA M 7 c)) ∧ gTo d0 x S S' (uA M 7 c s)) (fun E S' => S' = S ∧ ((E = "java/lang/IndexOutOfBoundsException" ∧ ¬ gIx (mN M 6) i) ∨ (E = "java/lang/IllegalArgumentException" ∧ gIx (mN M 6) i ∧ ¬ gLv s))) := by
  refine gCt_of (lo := [some (.ref x), some (.int i), some (.int s), none, none]) (by decide +kernel) (Nat.le_of_ble_eq_true rfl) (rfl) ?_
  intro Γ hd G F hini
  obtain ⟨⟨r1, ⟨ra, rb, rc, rd, re⟩, rt, rtl, rp, rpl, rdr, rep, rday⟩, ⟨l0, l1, l2, l3, l4⟩, ht, hcs, hps, hds, hes, hls⟩ := id h
  subst hd
  by_cases h_c : gIx (mN M 6) i
  · obtain ⟨c, hc, rfl⟩ := gIx_of h_c (by have := l0.2.2.1; omega)
    obtain ⟨g1, g2, g3⟩ := id (hcs c hc)
    first | refine g_aload_n G dX7_seal_0 rfl ?_ | refine g_aload_nN G dX7_seal_0 rfl ?_ | refine g_aload_nQ G dX7_seal_0 rfl ?_
    refine g_iload_n G dX7_seal_1 rfl ?_
    refine g_callVp (ci := 8) G (c_caseAt _ S x ad M h c hc) mt_X7_caseAt mi_X7_caseAt ml_X7_71 (by assumption) (by first | decide | omega) rfl (by decide) (by omega) (by omega) rfl (Nat.le_of_ble_eq_true rfl) dX7_seal_2 ?_
    first | refine g_astore_n G dX7_seal_5 (gSt_3 (by first | rfl | exact g_c1_rf)) ?_ | refine g_astore_nN G dX7_seal_5 (gSt_3 (by first | rfl | exact g_c1_rf)) ?_ | refine g_astore_nQ G dX7_seal_5 (gSt_3 (by first | rfl | exact g_c1_rf)) ?_
    first | refine g_aload_n G dX7_seal_6 rfl ?_ | refine g_aload_nN G dX7_seal_6 rfl ?_ | refine g_aload_nQ G dX7_seal_6 rfl ?_
    refine g_ifnonnull (tgt := 20) G dX7_seal_7 (by decide) ?_
    refine g_iload_n G dX7_seal_20 rfl ?_
    refine g_callSp G (c_X7_isLevel _ S s) mt_X7_isLevel ms_X7_isLevel ml_X7_114 (by decide) (by omega) (by omega) rfl (Nat.le_of_ble_eq_true rfl) dX7_seal_21 ?_
    refine g_if_ne (tgt := 37) G dX7_seal_24 (by decide) (fun c_24 => ?_) (fun c_24 => ?_)
    · have hs : gLv s := of_decide_eq_true (gB_ne0.mp c_24)
      first | refine g_aload_n G dX7_seal_37 rfl ?_ | refine g_aload_nN G dX7_seal_37 rfl ?_ | refine g_aload_nQ G dX7_seal_37 rfl ?_
      refine g_getI G fl_X7_139 (by assumption) (by first | decide | omega) rfl (by first | assumption | rfl) dX7_seal_38 ?_
      refine g_istore G dX7_seal_41 (gSt_4 (by first | rfl | exact g_c1_rf)) ?_
      first | refine g_aload_n G dX7_seal_43 rfl ?_ | refine g_aload_nN G dX7_seal_43 rfl ?_ | refine g_aload_nQ G dX7_seal_43 rfl ?_
      refine g_iload_n G dX7_seal_44 rfl ?_
      refine g_putI G fl_X7_139 pu_1_1 (by assumption) (by first | decide | omega) rfl dX7_seal_45 ?_
      refine g_iload G dX7_seal_48 rfl ?_
      exact g_iret G F (⟨c, hc, rfl, hs, rfl, gMail_seal (S3 := sX S (2 + 32 * c) 1 (ad 0 c) s) ⟨g1, (u3_p _ _ (by decide)).trans g2, u3_same _ _ _ _ _⟩ h (gFr_X _ _ _ _ _)⟩) (by omega) (by omega) dX7_seal_50
    · have hs : ¬ gLv s := of_decide_eq_false (gB_eq0.mp c_24)
      exact g_throw (names := nm_IAE) G F tf_IAE cl_X7_66 ti_IAE st_X7_130 ta_IAE dX7_seal_27 (by exact dX7_seal_30) (by exact dX7_seal_31) (by exact dX7_seal_33) (by exact dX7_seal_36) (by decide) (Nat.le_of_ble_eq_true rfl) (by omega) (by omega) (⟨rfl, Or.inr ⟨rfl, h_c, hs⟩⟩)
  · have hno : ¬ (gIx (mN M 6) i) := fun z => h_c (z)
    first | refine g_aload_n G dX7_seal_0 rfl ?_ | refine g_aload_nN G dX7_seal_0 rfl ?_ | refine g_aload_nQ G dX7_seal_0 rfl ?_
    refine g_iload_n G dX7_seal_1 rfl ?_
    refine g_callVp (ci := 8) G (c_caseAt_no _ S x ad M h i (gIx_no h_c)) mt_X7_caseAt mi_X7_caseAt ml_X7_71 (by assumption) (by first | decide | omega) rfl (by decide) (by omega) (by omega) rfl (Nat.le_of_ble_eq_true rfl) dX7_seal_2 ?_
    first | refine g_astore_n G dX7_seal_5 (gSt_3 (by first | rfl | exact g_c1_rf)) ?_ | refine g_astore_nN G dX7_seal_5 (gSt_3 (by first | rfl | exact g_c1_rf)) ?_ | refine g_astore_nQ G dX7_seal_5 (gSt_3 (by first | rfl | exact g_c1_rf)) ?_
    first | refine g_aload_n G dX7_seal_6 rfl ?_ | refine g_aload_nN G dX7_seal_6 rfl ?_ | refine g_aload_nQ G dX7_seal_6 rfl ?_
    refine g_ifnonnullN G dX7_seal_7 ?_
    exact g_throw (names := nm_IOE) G F tf_IOE cl_X7_75 ti_IOE st_X7_77 ta_IOE dX7_seal_10 (by exact dX7_seal_13) (by exact dX7_seal_14) (by exact dX7_seal_16) (by exact dX7_seal_19) (by decide) (Nat.le_of_ble_eq_true rfl) (by omega) (by omega) (⟨rfl, Or.inl ⟨rfl, hno⟩⟩)

set_option maxHeartbeats 4000000 in
set_option maxRecDepth 100000 in
theorem c_X7_attach (d0 : Nat × Nat) (S : gS) (x : Nat) (ad : Nat → Nat → Nat) (M : gM) (h : gMail d0 S x ad M) (i j : Int32) : gCt d0 yX7_attach cX7_attach 5 (some .boolean) 10 1 6 [.ref x, .int i, .int j] S (fun v' S' => ∃ p c, p < mN M 8 ∧ i = nI p ∧ c < mN M 6 ∧ j = nI c ∧ v' = some (.int (gB (gBit (mA (mAtt M p c) 10 p) c))) ∧ gTo d0 x S S' (mAtt M p c)) (fun E S' => S' = S ∧ ((E = "java/lang/IndexOutOfBoundsException" ∧ ¬ (gIx (mN M 8) i ∧ gIx (mN M 6) j)))) := by
  refine gCt_of (lo := [some (.ref x), some (.int i), some (.int j), none, none]) (by decide +kernel) (Nat.le_of_ble_eq_true rfl) (rfl) ?_
  intro Γ hd G F hini
  obtain ⟨⟨r1, ⟨ra, rb, rc, rd, re⟩, rt, rtl, rp, rpl, rdr, rep, rday⟩, ⟨l0, l1, l2, l3, l4⟩, ht, hcs, hps, hds, hes, hls⟩ := id h
  subst hd
  by_cases h_p : gIx (mN M 8) i
  · obtain ⟨p, hp, rfl⟩ := gIx_of h_p (by have := l1.2.2.1; omega)
    by_cases h_c : gIx (mN M 6) j
    · obtain ⟨c, hc, rfl⟩ := gIx_of h_c (by have := l0.2.2.1; omega)
      obtain ⟨g1, g2, g3⟩ := id (hcs c hc)
      obtain ⟨p1, p2, p3, p4, p5, p6⟩ := id (hps p hp)
      first | refine g_aload_n G dX7_attach_0 rfl ?_ | refine g_aload_nN G dX7_attach_0 rfl ?_ | refine g_aload_nQ G dX7_attach_0 rfl ?_
      refine g_iload_n G dX7_attach_1 rfl ?_
      refine g_callVp (ci := 8) G (c_personAt _ S x ad M h p hp) mt_X7_personAt mi_X7_personAt ml_X7_151 (by assumption) (by first | decide | omega) rfl (by decide) (by omega) (by omega) rfl (Nat.le_of_ble_eq_true rfl) dX7_attach_2 ?_
      first | refine g_astore_n G dX7_attach_5 (gSt_3 (by first | rfl | exact g_c1_rf)) ?_ | refine g_astore_nN G dX7_attach_5 (gSt_3 (by first | rfl | exact g_c1_rf)) ?_ | refine g_astore_nQ G dX7_attach_5 (gSt_3 (by first | rfl | exact g_c1_rf)) ?_
      first | refine g_aload_n G dX7_attach_6 rfl ?_ | refine g_aload_nN G dX7_attach_6 rfl ?_ | refine g_aload_nQ G dX7_attach_6 rfl ?_
      refine g_iload_n G dX7_attach_7 rfl ?_
      refine g_callVp (ci := 8) G (c_caseAt _ S x ad M h c hc) mt_X7_caseAt mi_X7_caseAt ml_X7_71 (by assumption) (by first | decide | omega) rfl (by decide) (by omega) (by omega) rfl (Nat.le_of_ble_eq_true rfl) dX7_attach_8 ?_
      first | refine g_astore G dX7_attach_11 (gSt_4 (by first | rfl | exact g_c1_rf)) ?_ | refine g_astoreN G dX7_attach_11 (gSt_4 (by first | rfl | exact g_c1_rf)) ?_ | refine g_astoreQ G dX7_attach_11 (gSt_4 (by first | rfl | exact g_c1_rf)) ?_
      first | refine g_aload_n G dX7_attach_13 rfl ?_ | refine g_aload_nN G dX7_attach_13 rfl ?_ | refine g_aload_nQ G dX7_attach_13 rfl ?_
      refine g_ifnull G dX7_attach_14 ?_
      first | refine g_aload G dX7_attach_17 rfl ?_ | refine g_aloadN G dX7_attach_17 rfl ?_ | refine g_aloadQ G dX7_attach_17 rfl ?_
      refine g_ifnonnull (tgt := 32) G dX7_attach_19 (by decide) ?_
      first | refine g_aload_n G dX7_attach_32 rfl ?_ | refine g_aload_nN G dX7_attach_32 rfl ?_ | refine g_aload_nQ G dX7_attach_32 rfl ?_
      refine g_dup G dX7_attach_33 rfl ?_
      refine g_getI G fl_X7_157 (by assumption) (by first | decide | omega) rfl (by first | assumption | rfl) dX7_attach_34 ?_
      refine g_iconst (v := nI 1) G dX7_attach_37 (by decide) ?_
      first | refine g_aload G dX7_attach_38 rfl ?_ | refine g_aloadN G dX7_attach_38 rfl ?_ | refine g_aloadQ G dX7_attach_38 rfl ?_
      refine g_getI G fl_X7_160 (by assumption) (by first | decide | omega) rfl (by first | assumption | rfl) dX7_attach_40 ?_
      refine g_ishl G dX7_attach_43 (rfl) ?_
      refine g_ixor G dX7_attach_44 (rfl) ?_
      refine g_putI G fl_X7_157 pu_7_3 (by assumption) (by first | decide | omega) rfl dX7_attach_45 ?_
      have hq : gPers (sX S (8 + 32 * p) 3 (ad 1 p) (mA M 10 p ^^^ (nI 1 <<< (nI c &&& 31)))) (ad 1 p) p (mA M 9 p) (mA M 41 p) (mA M 10 p ^^^ (nI 1 <<< (nI c &&& 31))) (mA M 42 p) := ⟨p1, (u3_p _ _ (by decide)).trans p2, (u3_p _ _ (by decide)).trans p3, (u3_p _ _ (by decide)).trans p4, u3_same _ _ _ _ _, (u3_p _ _ (by decide)).trans p6⟩
      have hT := gMail_att hq h (gFr_X _ _ _ _ _)
      have hc2 := gCase_mono (hcs c hc) (gFr_X S (8 + 32 * p) 3 (ad 1 p) (mA M 10 p ^^^ (nI 1 <<< (nI c &&& 31)))) (by first | omega | (dsimp only; omega))
      first | refine g_aload_n G dX7_attach_48 rfl ?_ | refine g_aload_nN G dX7_attach_48 rfl ?_ | refine g_aload_nQ G dX7_attach_48 rfl ?_
      first | refine g_aload G dX7_attach_49 rfl ?_ | refine g_aloadN G dX7_attach_49 rfl ?_ | refine g_aloadQ G dX7_attach_49 rfl ?_
      refine g_callVp (ci := 7) G (c_X6_isAttachedTo _ _ (ad 1 p) p (ad 0 c) c _ _ _ _ _ hq hc2) mt_X6_isAttachedTo mi_X6_isAttachedTo ml_X7_163 (by assumption) (by first | decide | omega) rfl (by decide) (by omega) (by omega) rfl (Nat.le_of_ble_eq_true rfl) dX7_attach_51 ?_
      exact g_zret G F (gB_ok _) (⟨p, c, hp, rfl, hc, rfl, by rw [show mA (mAtt M p c) 10 p = _ from uA_s], hT⟩) (by omega) (by omega) dX7_attach_54
    · have hno : ¬ (gIx (mN M 8) (nI p) ∧ gIx (mN M 6) j) := fun z => h_c (z.2)
      first | refine g_aload_n G dX7_attach_0 rfl ?_ | refine g_aload_nN G dX7_attach_0 rfl ?_ | refine g_aload_nQ G dX7_attach_0 rfl ?_
      refine g_iload_n G dX7_attach_1 rfl ?_
      refine g_callVp (ci := 8) G (c_personAt _ S x ad M h p hp) mt_X7_personAt mi_X7_personAt ml_X7_151 (by assumption) (by first | decide | omega) rfl (by decide) (by omega) (by omega) rfl (Nat.le_of_ble_eq_true rfl) dX7_attach_2 ?_
      first | refine g_astore_n G dX7_attach_5 (gSt_3 (by first | rfl | exact g_c1_rf)) ?_ | refine g_astore_nN G dX7_attach_5 (gSt_3 (by first | rfl | exact g_c1_rf)) ?_ | refine g_astore_nQ G dX7_attach_5 (gSt_3 (by first | rfl | exact g_c1_rf)) ?_
      first | refine g_aload_n G dX7_attach_6 rfl ?_ | refine g_aload_nN G dX7_attach_6 rfl ?_ | refine g_aload_nQ G dX7_attach_6 rfl ?_
      refine g_iload_n G dX7_attach_7 rfl ?_
      refine g_callVp (ci := 8) G (c_caseAt_no _ S x ad M h j (gIx_no h_c)) mt_X7_caseAt mi_X7_caseAt ml_X7_71 (by assumption) (by first | decide | omega) rfl (by decide) (by omega) (by omega) rfl (Nat.le_of_ble_eq_true rfl) dX7_attach_8 ?_
      first | refine g_astore G dX7_attach_11 (gSt_4 (by first | rfl | exact g_c1_rf)) ?_ | refine g_astoreN G dX7_attach_11 (gSt_4 (by first | rfl | exact g_c1_rf)) ?_ | refine g_astoreQ G dX7_attach_11 (gSt_4 (by first | rfl | exact g_c1_rf)) ?_
      first | refine g_aload_n G dX7_attach_13 rfl ?_ | refine g_aload_nN G dX7_attach_13 rfl ?_ | refine g_aload_nQ G dX7_attach_13 rfl ?_
      refine g_ifnull G dX7_attach_14 ?_
      first | refine g_aload G dX7_attach_17 rfl ?_ | refine g_aloadN G dX7_attach_17 rfl ?_ | refine g_aloadQ G dX7_attach_17 rfl ?_
      refine g_ifnonnullN G dX7_attach_19 ?_
      exact g_throw (names := nm_IOE) G F tf_IOE cl_X7_75 ti_IOE st_X7_155 ta_IOE dX7_attach_22 (by exact dX7_attach_25) (by exact dX7_attach_26) (by exact dX7_attach_28) (by exact dX7_attach_31) (by decide) (Nat.le_of_ble_eq_true rfl) (by omega) (by omega) (⟨rfl, rfl, hno⟩)
  · have hno : ¬ (gIx (mN M 8) i ∧ gIx (mN M 6) j) := fun z => h_p (z.1)
    by_cases h_c : gIx (mN M 6) j
    · obtain ⟨c, hc, rfl⟩ := gIx_of h_c (by have := l0.2.2.1; omega)
      first | refine g_aload_n G dX7_attach_0 rfl ?_ | refine g_aload_nN G dX7_attach_0 rfl ?_ | refine g_aload_nQ G dX7_attach_0 rfl ?_
      refine g_iload_n G dX7_attach_1 rfl ?_
      refine g_callVp (ci := 8) G (c_personAt_no _ S x ad M h i (gIx_no h_p)) mt_X7_personAt mi_X7_personAt ml_X7_151 (by assumption) (by first | decide | omega) rfl (by decide) (by omega) (by omega) rfl (Nat.le_of_ble_eq_true rfl) dX7_attach_2 ?_
      first | refine g_astore_n G dX7_attach_5 (gSt_3 (by first | rfl | exact g_c1_rf)) ?_ | refine g_astore_nN G dX7_attach_5 (gSt_3 (by first | rfl | exact g_c1_rf)) ?_ | refine g_astore_nQ G dX7_attach_5 (gSt_3 (by first | rfl | exact g_c1_rf)) ?_
      first | refine g_aload_n G dX7_attach_6 rfl ?_ | refine g_aload_nN G dX7_attach_6 rfl ?_ | refine g_aload_nQ G dX7_attach_6 rfl ?_
      refine g_iload_n G dX7_attach_7 rfl ?_
      refine g_callVp (ci := 8) G (c_caseAt _ S x ad M h c hc) mt_X7_caseAt mi_X7_caseAt ml_X7_71 (by assumption) (by first | decide | omega) rfl (by decide) (by omega) (by omega) rfl (Nat.le_of_ble_eq_true rfl) dX7_attach_8 ?_
      first | refine g_astore G dX7_attach_11 (gSt_4 (by first | rfl | exact g_c1_rf)) ?_ | refine g_astoreN G dX7_attach_11 (gSt_4 (by first | rfl | exact g_c1_rf)) ?_ | refine g_astoreQ G dX7_attach_11 (gSt_4 (by first | rfl | exact g_c1_rf)) ?_
      first | refine g_aload_n G dX7_attach_13 rfl ?_ | refine g_aload_nN G dX7_attach_13 rfl ?_ | refine g_aload_nQ G dX7_attach_13 rfl ?_
      refine g_ifnullN (tgt := 22) G dX7_attach_14 (by decide) ?_
      exact g_throw (names := nm_IOE) G F tf_IOE cl_X7_75 ti_IOE st_X7_155 ta_IOE dX7_attach_22 (by exact dX7_attach_25) (by exact dX7_attach_26) (by exact dX7_attach_28) (by exact dX7_attach_31) (by decide) (Nat.le_of_ble_eq_true rfl) (by omega) (by omega) (⟨rfl, rfl, hno⟩)
    · first | refine g_aload_n G dX7_attach_0 rfl ?_ | refine g_aload_nN G dX7_attach_0 rfl ?_ | refine g_aload_nQ G dX7_attach_0 rfl ?_
      refine g_iload_n G dX7_attach_1 rfl ?_
      refine g_callVp (ci := 8) G (c_personAt_no _ S x ad M h i (gIx_no h_p)) mt_X7_personAt mi_X7_personAt ml_X7_151 (by assumption) (by first | decide | omega) rfl (by decide) (by omega) (by omega) rfl (Nat.le_of_ble_eq_true rfl) dX7_attach_2 ?_
      first | refine g_astore_n G dX7_attach_5 (gSt_3 (by first | rfl | exact g_c1_rf)) ?_ | refine g_astore_nN G dX7_attach_5 (gSt_3 (by first | rfl | exact g_c1_rf)) ?_ | refine g_astore_nQ G dX7_attach_5 (gSt_3 (by first | rfl | exact g_c1_rf)) ?_
      first | refine g_aload_n G dX7_attach_6 rfl ?_ | refine g_aload_nN G dX7_attach_6 rfl ?_ | refine g_aload_nQ G dX7_attach_6 rfl ?_
      refine g_iload_n G dX7_attach_7 rfl ?_
      refine g_callVp (ci := 8) G (c_caseAt_no _ S x ad M h j (gIx_no h_c)) mt_X7_caseAt mi_X7_caseAt ml_X7_71 (by assumption) (by first | decide | omega) rfl (by decide) (by omega) (by omega) rfl (Nat.le_of_ble_eq_true rfl) dX7_attach_8 ?_
      first | refine g_astore G dX7_attach_11 (gSt_4 (by first | rfl | exact g_c1_rf)) ?_ | refine g_astoreN G dX7_attach_11 (gSt_4 (by first | rfl | exact g_c1_rf)) ?_ | refine g_astoreQ G dX7_attach_11 (gSt_4 (by first | rfl | exact g_c1_rf)) ?_
      first | refine g_aload_n G dX7_attach_13 rfl ?_ | refine g_aload_nN G dX7_attach_13 rfl ?_ | refine g_aload_nQ G dX7_attach_13 rfl ?_
      refine g_ifnullN (tgt := 22) G dX7_attach_14 (by decide) ?_
      exact g_throw (names := nm_IOE) G F tf_IOE cl_X7_75 ti_IOE st_X7_155 ta_IOE dX7_attach_22 (by exact dX7_attach_25) (by exact dX7_attach_26) (by exact dX7_attach_28) (by exact dX7_attach_31) (by decide) (Nat.le_of_ble_eq_true rfl) (by omega) (by omega) (⟨rfl, rfl, hno⟩)

set_option maxHeartbeats 4000000 in
set_option maxRecDepth 100000 in
theorem c_X7_trim (d0 : Nat × Nat) (S : gS) (x : Nat) (ad : Nat → Nat → Nat) (M : gM) (h : gMail d0 S x ad M) (i : Int32) : gCt d0 yX7_trim cX7_trim 2 (some .int) 10 1 6 [.ref x, .int i] S (fun v' S' => ∃ n, n ≤ mN M 2 ∧ i = nI n ∧ v' = some (.int (nI n)) ∧ gTo d0 x S S' (uN M 2 n)) (fun E S' => S' = S ∧ ((E = "java/lang/IllegalArgumentException" ∧ ¬ (0 ≤ i ∧ i ≤ nI (mN M 2))))) := by
  refine gCt_of (lo := [some (.ref x), some (.int i)]) (by decide +kernel) (Nat.le_of_ble_eq_true rfl) (rfl) ?_
  intro Γ hd G F hini
  obtain ⟨⟨r1, ⟨ra, rb, rc, rd, re⟩, rt, rtl, rp, rpl, rdr, rep, rday⟩, ⟨l0, l1, l2, l3, l4⟩, ht, hcs, hps, hds, hes, hls⟩ := id h
  subst hd
  obtain ⟨y1, y2, y3, y4, y5, y6, y7, y8⟩ := id ht
  refine g_iload_n G dX7_trim_0 rfl ?_
  refine g_if_lt (tgt := 12) G dX7_trim_1 (by decide) (fun c_1 => ?_) (fun c_1 => ?_)
  · have hno : ¬ (0 ≤ i ∧ i ≤ nI (mN M 2)) := fun z => absurd z.1 (Int32.not_le.mpr c_1)
    exact g_throw (names := nm_IAE) G F tf_IAE cl_X7_66 ti_IAE st_X7_68 ta_IAE dX7_trim_12 (by exact dX7_trim_15) (by exact dX7_trim_16) (by exact dX7_trim_18) (by exact dX7_trim_21) (by decide) (Nat.le_of_ble_eq_true rfl) (by omega) (by omega) (⟨rfl, rfl, hno⟩)
  · refine g_iload_n G dX7_trim_4 rfl ?_
    first | refine g_aload_n G dX7_trim_5 rfl ?_ | refine g_aload_nN G dX7_trim_5 rfl ?_ | refine g_aload_nQ G dX7_trim_5 rfl ?_
    refine g_getI G fl_X7_32 (by assumption) (by first | decide | omega) rfl (by first | assumption | rfl) dX7_trim_6 ?_
    refine g_icmp_le (tgt := 22) G dX7_trim_9 (by decide) (fun c_9 => ?_) (fun c_9 => ?_)
    · obtain ⟨n, hn, rfl⟩ := gWt_of (k := mN M 2) ⟨Int32.not_lt.mp c_1, c_9⟩ (by omega)
      first | refine g_aload_n G dX7_trim_22 rfl ?_ | refine g_aload_nN G dX7_trim_22 rfl ?_ | refine g_aload_nQ G dX7_trim_22 rfl ?_
      refine g_iload_n G dX7_trim_23 rfl ?_
      refine g_putI G fl_X7_32 pu_8_6 (by assumption) (by first | decide | omega) rfl dX7_trim_24 ?_
      refine g_iload_n G dX7_trim_27 rfl ?_
      exact g_iret G F (⟨n, hn, rfl, rfl, gMail_root (S := S) (S3 := sX S 9 6 x (nI n)) (M := M) (M9 := uN M 2 n) rfl rfl rfl rfl rfl (fun j hj => uN_o (by omega)) (fun _ _ _ _ => rfl) rfl ⟨r1, ⟨ra, rb, rc, rd, re⟩, rt, u3_same _ _ _ _ _, rp, (sX_p (S := S) (by decide) rpl), gDrf_mono rdr (gFr_X _ _ _ _ _) rfl (by decide) (by decide), (sX_p (S := S) (by decide) rep), (sX_p (S := S) (by decide) rday)⟩ ⟨y1, y2, by show n ≤ 1000; omega, fun i (hi : i < n) => sX_k (S := S) (by decide) (y4 i (by omega)), y5, y6, y7, fun i hi => sX_k (S := S) (by decide) (y8 i hi)⟩ h ((gFr_X _ _ _ _ _).mono (fun _ z => z.1))⟩) (by omega) (by omega) dX7_trim_28
    · have hno : ¬ (0 ≤ i ∧ i ≤ nI (mN M 2)) := fun z => c_9 z.2
      exact g_throw (names := nm_IAE) G F tf_IAE cl_X7_66 ti_IAE st_X7_68 ta_IAE dX7_trim_12 (by exact dX7_trim_15) (by exact dX7_trim_16) (by exact dX7_trim_18) (by exact dX7_trim_21) (by decide) (Nat.le_of_ble_eq_true rfl) (by omega) (by omega) (⟨rfl, rfl, hno⟩)
