/-! ===== what every call keeps ===== -/
/-- what the class's heap doesn't say of M already -/
def gKp (M : gM) : Prop := gBnd M ∧ (∀ c, c < mN M 6 → gWt 9 (mA M 7 c)) ∧ (∀ p, p < mN M 8 → gWt 3 (mA M 9 p) ∧ gWt 9 (mA M 41 p) ∧ gWt 2 (mA M 42 p)) ∧ (∀ d j, d < mN M 11 → j < mN M (100 + d) → gWt 127 (mT M 13 d j) ∧ gWt 9 (mT M 14 d j) ∧ gWt 1 (mT M 15 d j)) ∧ (∀ k, k < mN M 23 → gWt 2 (mA M 46 k)) ∧ gZero M
theorem gInv_mail {d0 : Nat × Nat} {S : gS} {x : Nat} {ad : Nat → Nat → Nat} {M : gM} (h : gMail d0 S x ad M) (k : gKp M) : gInv M := by
  obtain ⟨hr, hl, ht, hcs, hps, hds, hes, hls⟩ := h
  obtain ⟨k1, k2, k3, k4, k5, k6⟩ := k
  refine ⟨k1, ⟨ht.2.2.1, ht.2.2.2.2.2.2.1, fun d hd => (hds d hd).2.2.2.2.1, fun e => ?_⟩, ⟨fun d hd => ?_, fun e he => ?_, fun e he => ?_, fun e j he hj => ?_, fun j hj => ?_, fun d hd => ?_⟩, ⟨k2, k3, k4, k5, trivial⟩, k6⟩
  · by_cases he : e < mN M 17
    · exact (hes e he).2.2.2.2.1
    · rw [k6.2.2.2 e (by omega)]; omega
  · obtain ⟨c, h1, h2, -⟩ := (hds d hd).2.1
    exact ⟨c, h1, h2⟩
  · obtain ⟨c, h1, h2, -⟩ := (hes e he).2.2.1
    exact ⟨c, h1, h2⟩
  · exact (hes e he).2.2.2.1.2.2.2.2
  · have h := (hes e he).2.2.2.2.2.2 j hj
    exact ⟨h.2.2.2.2.2.1, h.2.2.2.2.2.2⟩
  · obtain ⟨d, h1, h2, -⟩ := (hls j hj).2.1
    obtain ⟨p, h3, h4, -⟩ := (hls j hj).2.2.2.1
    exact ⟨⟨d, h1, h2⟩, p, h3, h4⟩
  · exact (hds d hd).2.2.2.1.2.2.2.2
theorem gKp_A {M M' : gM} (i : gInv M) (hn : ∀ j, j ≠ 2 → j ≠ 5 → mN M' j = mN M j) (ha : ∀ f, f = 7 ∨ f = 9 ∨ f = 41 ∨ f = 42 ∨ f = 46 → mA M' f = mA M f) (ht : mT M' = mT M) (h10 : ∀ p, mN M 8 ≤ p → mA M' 10 p = mA M 10 p) (h45 : ∀ d, mN M 11 ≤ d → mA M' 45 d = mA M 45 d) : gKp M' := by
  obtain ⟨b, -, -, ⟨k2, k3, k4, k5, -⟩, z1, z2, z3, z4⟩ := i
  refine ⟨?_, ?_, ?_, ?_, ?_, ?_, ?_, ?_, ?_⟩
  · unfold gBnd
    rw [hn 6 (by omega) (by omega), hn 8 (by omega) (by omega), hn 11 (by omega) (by omega), hn 17 (by omega) (by omega), hn 23 (by omega) (by omega)]
    exact b
  · rw [hn 6 (by omega) (by omega), ha 7 (by omega)]; exact k2
  · rw [hn 8 (by omega) (by omega), ha 9 (by omega), ha 41 (by omega), ha 42 (by omega)]; exact k3
  · rw [ht, hn 11 (by omega) (by omega)]
    intro d j hd hj
    rw [hn _ (by omega) (by omega)] at hj
    exact k4 d j hd hj
  · rw [hn 23 (by omega) (by omega), ha 46 (by omega)]; exact k5
  · rw [hn 8 (by omega) (by omega), ha 42 (by omega)]
    intro p hp
    rw [h10 p hp]
    exact z1 p hp
  · rw [hn 11 (by omega) (by omega)]
    intro d hd
    rw [h45 d hd]
    exact z2 d hd
  · rw [hn 23 (by omega) (by omega), ha 46 (by omega)]; exact z3
  · rw [hn 17 (by omega) (by omega)]
    intro e he
    rw [hn _ (by omega) (by omega)]
    exact z4 e he
theorem gDue_A {M M' : gM} (h : gDue M) (h1 : mN M' 11 = mN M 11) (h2 : mN M' 40 = mN M 40) (h3 : mA M' 43 = mA M 43) (h4 : mA M' 44 = mA M 44) : gDue M' := by
  unfold gDue
  rw [h1, h2, h3, h4]
  exact h
/-- what a call leaves of M -/
def gOkM (M M' : gM) : Prop := gInv M' ∧ gDue M' ∧ mN M' 40 ≤ mN M 40 + 100 ∧ mN M 11 ≤ mN M' 11
theorem uR_fn {M : gM} {f g : Nat} {v : Nat → Int32} (h : g ≠ f) : mA (uR M f v) g = mA M g := funext fun j => if_neg h
section KEEP
variable {d0 : Nat × Nat} {S : gS} {x : Nat} {ad : Nat → Nat → Nat} {M : gM}
theorem gOk_rf (i : gInv M) (hd : gDue M) : gOkM M M := ⟨i, hd, by omega, Nat.le_refl _⟩
theorem mPut_nj {v : Int32} {j : Nat} (h : j ≠ 2) : mN (mPut M v) j = mN M j := uN_o h
theorem mPut_af {v : Int32} {f : Nat} (h : f ≠ 1) : mA (mPut M v) f = mA M f := funext fun j => uA_f h
theorem mApp_nj {v : Int32} {j : Nat} (h : j ≠ 2) : mN (mApp M v) j = mN M j := (mPut_nj h).trans ((mPut_nj h).trans ((mPut_nj h).trans (mPut_nj h)))
theorem mApp_af {v : Int32} {f : Nat} (h : f ≠ 1) : mA (mApp M v) f = mA M f := (mPut_af h).trans ((mPut_af h).trans ((mPut_af h).trans (mPut_af h)))
theorem mFeed_nj {a b c d e : Int32} {j : Nat} (h : j ≠ 2) : mN (mFeed M a b c d e) j = mN M j := (mApp_nj h).trans ((mApp_nj h).trans ((mApp_nj h).trans ((mApp_nj h).trans (mApp_nj h))))
theorem mFeed_af {a b c d e : Int32} {f : Nat} (h : f ≠ 1) : mA (mFeed M a b c d e) f = mA M f := (mApp_af h).trans ((mApp_af h).trans ((mApp_af h).trans ((mApp_af h).trans (mApp_af h))))
theorem gOk_feed {a b c d e : Int32} (h : gMail d0 S x ad (mFeed M a b c d e)) (i : gInv M) (hd : gDue M) : gOkM M (mFeed M a b c d e) :=
  ⟨gInv_mail h (gKp_A i (fun j h1 _ => mFeed_nj h1) (fun f hf => mFeed_af (by omega)) rfl (fun p _ => congrFun (mFeed_af (by omega)) p) (fun p _ => congrFun (mFeed_af (by omega)) p)), gDue_A hd (mFeed_nj (by omega)) (mFeed_nj (by omega)) (mFeed_af (by omega)) (mFeed_af (by omega)), by rw [mFeed_nj (by omega)]; omega, by rw [mFeed_nj (by omega)]; exact Nat.le_refl _⟩
theorem gOk_trim {n : Nat} (h : gMail d0 S x ad (uN M 2 n)) (i : gInv M) (hd : gDue M) : gOkM M (uN M 2 n) :=
  ⟨gInv_mail h (gKp_A i (fun j h1 _ => uN_o h1) (fun _ _ => rfl) rfl (fun _ _ => rfl) (fun _ _ => rfl)), gDue_A hd (uN_o (by omega)) (uN_o (by omega)) rfl rfl, by rw [uN_o (by omega)]; omega, by rw [uN_o (by omega)]; exact Nat.le_refl _⟩
theorem gOk_file0 {w : Int32} (h : gMail d0 S x ad (mF0 M w)) (i : gInv M) (hd : gDue M) : gOkM M (mF0 M w) := by
  have en : ∀ j, j ≠ 2 → mN (mF0 M w) j = mN M j := fun j hj => uN_o hj
  have ea : ∀ f, f ≠ 3 → mA (mF0 M w) f = mA M f := fun f hf => funext fun j => uA_f hf
  exact ⟨gInv_mail h (gKp_A i (fun j h1 _ => en j h1) (fun f hf => ea f (by omega)) rfl (fun p _ => congrFun (ea 10 (by omega)) p) (fun p _ => congrFun (ea 45 (by omega)) p)), gDue_A hd (en 11 (by omega)) (en 40 (by omega)) (ea 43 (by omega)) (ea 44 (by omega)), by rw [en 40 (by omega)]; omega, by rw [en 11 (by omega)]; exact Nat.le_refl _⟩
theorem gOk_seal {c : Nat} {s : Int32} (h : gMail d0 S x ad (uA M 7 c s)) (i : gInv M) (hd : gDue M) (hs : gLv s) : gOkM M (uA M 7 c s) := by
  refine ⟨gInv_mail h ⟨i.1, fun c' hc => ?_, i.2.2.2.1.2.1, i.2.2.2.1.2.2.1, i.2.2.2.1.2.2.2.1, i.2.2.2.2⟩, hd, by show mN M 40 ≤ _; omega, Nat.le_refl _⟩
  by_cases z : c' = c
  · rw [z, uA_s]; exact hs
  · rw [uA_i z]; exact i.s hc
theorem gOk_open {s : Int32} (h : gMail d0 S x ad (mOpen M s)) (i : gInv M) (hd : gDue M) (hs : gLv s) (h8 : ¬ mN M 6 = 8) : gOkM M (mOpen M s) := by
  have hb := i.b
  refine ⟨gInv_mail h ⟨?_, fun c' hc => ?_, i.2.2.2.1.2.1, ?_, i.2.2.2.1.2.2.2.1, ⟨i.2.2.2.2.1, i.2.2.2.2.2.1, i.2.2.2.2.2.2.1, fun e he => ?_⟩⟩, hd, ?_, ?_⟩
  · exact ⟨by show mN M 6 + 1 ≤ 8; omega, i.1.2⟩
  · have hc : c' < mN M 6 + 1 := hc
    show gWt 9 (mA (uA M 7 (mN M 6) s) 7 c')
    by_cases z : c' = mN M 6
    · rw [z, uA_s]; exact hs
    · rw [uA_i z]; exact i.s (by omega)
  · intro d j hd1 hj
    rw [show mN (mOpen M s) (100 + d) = mN M (100 + d) from uN_o (by omega)] at hj
    exact i.tx hd1 hj
  · exact (uN_o (by omega)).trans (i.2.2.2.2.2.2.2 e he)
  · show mN M 40 ≤ _; omega
  · show mN M 11 ≤ mN M 11; omega
theorem gOk_addP {r s : Int32} (h : gMail d0 S x ad (mAddP M r s)) (i : gInv M) (hd : gDue M) (hr : 0 ≤ r ∧ r ≤ nI 3) (hs : gLv s) (h8 : ¬ mN M 8 = 12) : gOkM M (mAddP M r s) := by
  have hb := i.b
  refine ⟨gInv_mail h ⟨?_, i.2.2.2.1.1, fun p hp => ?_, ?_, i.2.2.2.1.2.2.2.1, ⟨fun p hp => ?_, i.2.2.2.2.2.1, i.2.2.2.2.2.2.1, fun e he => ?_⟩⟩, hd, ?_, ?_⟩
  · exact ⟨i.1.1, by show mN M 8 + 1 ≤ 12; omega, i.1.2.2⟩
  · have hp : p < mN M 8 + 1 := hp
    show gWt 3 (mA (uA (uA M 9 (mN M 8) r) 41 (mN M 8) s) 9 p) ∧ gWt 9 (mA (uA (uA M 9 (mN M 8) r) 41 (mN M 8) s) 41 p) ∧ gWt 2 (mA (uA (uA M 9 (mN M 8) r) 41 (mN M 8) s) 42 p)
    rw [show mA (uA (uA M 9 (mN M 8) r) 41 (mN M 8) s) 42 p = mA M 42 p from (uA_f (by omega)).trans (uA_f (by omega)), uA_f (g := 9) (f := 41) (by omega)]
    by_cases z : p = mN M 8
    · rw [z, uA_s, uA_s, (i.2.2.2.2.1 (mN M 8) (Nat.le_refl _)).2]
      exact ⟨hr, hs, gWt_d (n := 0) (by omega) (by omega)⟩
    · rw [uA_i z, uA_i z, uA_f (by omega)]; exact i.ps (by omega)
  · intro d j hd1 hj
    rw [show mN (mAddP M r s) (100 + d) = mN M (100 + d) from uN_o (by omega)] at hj
    exact i.tx hd1 hj
  · have hp : mN M 8 + 1 ≤ p := hp
    exact i.2.2.2.2.1 p (by omega)
  · exact (uN_o (by omega)).trans (i.2.2.2.2.2.2.2 e he)
  · show mN M 40 ≤ _; omega
  · show mN M 11 ≤ mN M 11; omega
theorem gOk_att {p c : Nat} (h : gMail d0 S x ad (mAtt M p c)) (i : gInv M) (hd : gDue M) (hp : p < mN M 8) : gOkM M (mAtt M p c) :=
  ⟨gInv_mail h (gKp_A i (fun _ _ _ => rfl) (fun f hf => funext fun j => uA_f (by omega)) rfl (fun q hq => uA_i (by omega)) (fun _ _ => uA_f (by omega))), gDue_A hd rfl rfl (funext fun j => uA_f (by omega)) (funext fun j => uA_f (by omega)), by show mN M 40 ≤ _; omega, Nat.le_refl _⟩
theorem gOk_read {d p : Nat} {r : Int32} (h : gMail d0 S x ad (mLog (mPaper M d r) d p)) (i : gInv M) (hd : gDue M) (hp : d < mN M 11) : gOkM M (mLog (mPaper M d r) d p) := by
  have e : ∀ f, f ≠ 4 → f ≠ 45 → mA (mLog (mPaper M d r) d p) f = mA M f := fun f h1 h2 => funext fun j => (uA_f h2).trans (congrFun (uR_fn h1) j)
  have en : ∀ j, j ≠ 5 → mN (mLog (mPaper M d r) d p) j = mN M j := fun j hj => uN_o hj
  refine ⟨gInv_mail h (gKp_A i (fun j _ h2 => en j h2) (fun f hf => e f (by omega) (by omega)) rfl (fun q _ => congrFun (e 10 (by omega) (by omega)) q) (fun q hq => ?_)), gDue_A hd (en 11 (by omega)) (en 40 (by omega)) (e 43 (by omega) (by omega)) (e 44 (by omega) (by omega)), by rw [en 40 (by omega)]; omega, by rw [en 11 (by omega)]; exact Nat.le_refl _⟩
  exact (uA_i (by omega)).trans (congrFun (uR_fn (by omega)) q)
theorem gOk_veil {d a b w : Nat} (h : gMail d0 S x ad (mVeil M d a b (nI w))) (i : gInv M) (hd : gDue M) (hw : w ≤ 9) : gOkM M (mVeil M d a b (nI w)) := by
  refine ⟨gInv_mail h ⟨i.1, i.2.2.2.1.1, i.2.2.2.1.2.1, fun d' j hd1 hj => ?_, i.2.2.2.1.2.2.2.1, i.2.2.2.2⟩, hd, by show mN M 40 ≤ _; omega, Nat.le_refl _⟩
  have q := i.tx (d := d') (j := j) hd1 hj
  refine ⟨q.1, ?_, q.2.2⟩
  show gWt 9 ((if 14 = 14 ∧ d' = d then (fun k => if a ≤ k ∧ k < b then nI w else mT M 14 d k) else mT M 14 d') j)
  split
  · next z =>
    dsimp only
    rw [← z.2]
    split
    · exact gWt_d hw (by omega)
    · exact q.2.1
  · exact q.2.1
theorem gOk_lend {d p t : Nat} (i : gInv M) (hd : gDue M) (hdd : d < mN M 11) (hp : p < mN M 8) (h40 : mN M 40 ≤ 1000000) (ht : t ≤ 60) : gOkM M (mLend M d p (nI (mN M 40) + nI t)) := by
  refine ⟨gInv_lent i (Or.inr ⟨p, hp, rfl⟩), fun d' hd' h1 => ?_, by show mN M 40 ≤ _; omega, Nat.le_refl _⟩
  have hd' : d' < mN M 11 := hd'
  show ¬ mA (uA (uA M 43 d (nI p)) 44 d (nI (mN M 40) + nI t)) 44 d' < nI (mN M 40)
  by_cases z : d' = d
  · rw [z, uA_s, nI_add]
    exact nI_nlt (by omega) (by omega)
  · rw [uA_i z, uA_f (by omega)]
    have h1 : ¬ mA (uA (uA M 43 d (nI p)) 44 d (nI (mN M 40) + nI t)) 43 d' = -1 := h1
    rw [uA_f (by omega), uA_i z] at h1
    exact hd d' hd' h1
theorem gOk_back {d : Nat} (i : gInv M) (hd : gDue M) : gOkM M (mBack M d) := by
  refine ⟨gInv_lent i (Or.inl rfl), fun d' hd' h1 => ?_, by show mN M 40 ≤ _; omega, Nat.le_refl _⟩
  have h1 : ¬ mA (uA (uA M 43 d (-1)) 44 d (-1)) 43 d' = -1 := h1
  show ¬ mA (uA (uA M 43 d (-1)) 44 d (-1)) 44 d' < nI (mN M 40)
  rw [uA_f (by omega)] at h1
  by_cases z : d' = d
  · rw [z, uA_s] at h1; exact absurd rfl h1
  · rw [uA_i z] at h1
    rw [uA_i z, uA_f (by omega)]
    exact hd d' hd' h1
theorem gOk_take {c : Nat} (h : gMail d0 S x ad (mTake M c)) (i : gInv M) (hd : gDue M) (h8 : ¬ mN M 17 = 20) : gOkM M (mTake M c) := by
  have hb := i.b
  refine ⟨gInv_mail h ⟨?_, i.2.2.2.1.1, i.2.2.2.1.2.1, ?_, i.2.2.2.1.2.2.2.1, ⟨i.2.2.2.2.1, i.2.2.2.2.2.1, i.2.2.2.2.2.2.1, fun e he => ?_⟩⟩, hd, ?_, ?_⟩
  · exact ⟨i.1.1, i.1.2.1, i.1.2.2.1, by show mN M 17 + 1 ≤ 20; omega, i.1.2.2.2.2⟩
  · intro d j hd1 hj
    rw [show mN (mTake M c) (100 + d) = mN M (100 + d) from uN_o (by omega)] at hj
    exact i.tx hd1 hj
  · have he : mN M 17 + 1 ≤ e := he
    exact (uN_o (by omega)).trans (i.2.2.2.2.2.2.2 e (by omega))
  · show mN M 40 ≤ _; omega
  · show mN M 11 ≤ mN M 11; omega
theorem gOk_link0 {M' : gM} {e : Nat} (h : gMail d0 S x ad M') (i : gInv M) (hd : gDue M) (he : e < mN M 17) (hn : ∀ j, j ≠ 200 + e → mN M' j = mN M j) (ha : ∀ f, f ≠ 19 → f ≠ 20 → f ≠ 22 → mA M' f = mA M f) (ht : mT M' = mT M) : gOkM M M' := by
  have hb := i.b
  refine ⟨gInv_mail h ?_, gDue_A hd (hn 11 (by omega)) (hn 40 (by omega)) (ha 43 (by omega) (by omega) (by omega)) (ha 44 (by omega) (by omega) (by omega)), by rw [hn 40 (by omega)]; omega, by rw [hn 11 (by omega)]; exact Nat.le_refl _⟩
  refine ⟨?_, ?_, ?_, ?_, ?_, ?_, ?_, ?_, ?_⟩
  · unfold gBnd
    rw [hn 6 (by omega), hn 8 (by omega), hn 11 (by omega), hn 17 (by omega), hn 23 (by omega)]
    exact i.1
  · rw [hn 6 (by omega), ha 7 (by omega) (by omega) (by omega)]; exact i.2.2.2.1.1
  · rw [hn 8 (by omega), ha 9 (by omega) (by omega) (by omega), ha 41 (by omega) (by omega) (by omega), ha 42 (by omega) (by omega) (by omega)]; exact i.2.2.2.1.2.1
  · rw [ht, hn 11 (by omega)]
    intro d j hd1 hj
    have := i.b
    rw [hn _ (by omega)] at hj
    exact i.tx hd1 hj
  · rw [hn 23 (by omega), ha 46 (by omega) (by omega) (by omega)]; exact i.2.2.2.1.2.2.2.1
  · rw [hn 8 (by omega), ha 42 (by omega) (by omega) (by omega), ha 10 (by omega) (by omega) (by omega)]; exact i.2.2.2.2.1
  · rw [hn 11 (by omega), ha 45 (by omega) (by omega) (by omega)]; exact i.2.2.2.2.2.1
  · rw [hn 23 (by omega), ha 46 (by omega) (by omega) (by omega)]; exact i.2.2.2.2.2.2.1
  · rw [hn 17 (by omega)]
    intro e' he'
    rw [hn _ (by omega)]
    exact i.2.2.2.2.2.2.2 e' he'
theorem mLink_af {e f : Nat} {a b c w : Int32} (h1 : f ≠ 19) (h3 : f ≠ 22) : mA (mLink M e a b c w) f = mA M f := funext fun j => (uA_f h1).trans (congrFun (uR_fn h3) j)
theorem gOk_link {e : Nat} {a b c w : Int32} (h : gMail d0 S x ad (mLink M e a b c w)) (i : gInv M) (hd : gDue M) (he : e < mN M 17) : gOkM M (mLink M e a b c w) := gOk_link0 h i hd he (fun j hj => uN_o hj) (fun f h1 _ h3 => mLink_af h1 h3) rfl
theorem gOk_unseal {e : Nat} (h : gMail d0 S x ad (mUnseal M e)) (i : gInv M) (hd : gDue M) (he : e < mN M 17) : gOkM M (mUnseal M e) := gOk_link0 h i hd he (fun j hj => uN_o hj) (fun f h1 h2 h3 => (funext fun j => uA_f h2).trans (mLink_af h1 h3)) rfl
theorem gOk_lose {e : Nat} {v : Int32} (h : gMail d0 S x ad (uA M 19 e v)) (i : gInv M) (hd : gDue M) (he : e < mN M 17) : gOkM M (uA M 19 e v) := gOk_link0 h i hd he (fun j hj => rfl) (fun f h1 h2 h3 => funext fun j => uA_f h1) rfl
theorem gOk_send {d p : Nat} {t : Int32} (h : gMail d0 S x ad (mSend M d p t)) (i : gInv M) (hd : gDue M) (h8 : ¬ mN M 23 = 40) : gOkM M (mSend M d p t) := by
  have hb := i.b
  have e : ∀ f, f ≠ 24 → f ≠ 25 → f ≠ 26 → f ≠ 47 → mA (mSend M d p t) f = mA M f := fun f h1 h2 h3 h4 => funext fun j => (uA_f h4).trans ((uA_f h3).trans ((uA_f h2).trans (uA_f h1)))
  refine ⟨gInv_mail h ⟨?_, i.2.2.2.1.1, i.2.2.2.1.2.1, ?_, fun k hk => ?_, ⟨i.2.2.2.2.1, i.2.2.2.2.2.1, fun k hk => ?_, fun e he => ?_⟩⟩, hd, ?_, ?_⟩
  · exact ⟨i.1.1, i.1.2.1, i.1.2.2.1, i.1.2.2.2.1, by show mN M 23 + 1 ≤ 40; omega⟩
  · intro d j hd1 hj
    rw [show mN (mSend M _ p t) (100 + d) = mN M (100 + d) from uN_o (by omega)] at hj
    exact i.tx hd1 hj
  · have hk : k < mN M 23 + 1 := hk
    rw [e 46 (by omega) (by omega) (by omega) (by omega)]
    by_cases z : k = mN M 23
    · rw [z, i.2.2.2.2.2.2.1 _ (Nat.le_refl _)]; exact gWt_d (n := 0) (by omega) (by omega)
    · exact i.2.2.2.1.2.2.2.1 k (by omega)
  · have hk : mN M 23 + 1 ≤ k := hk
    rw [e 46 (by omega) (by omega) (by omega) (by omega)]
    exact i.2.2.2.2.2.2.1 k (by omega)
  · exact (uN_o (by omega)).trans (i.2.2.2.2.2.2.2 e he)
  · show mN M 40 ≤ _; omega
  · show mN M 11 ≤ mN M 11; omega
theorem gOk_days {n : Nat} (i : gInv M) (hd : gDue M) (h40 : mN M 40 ≤ 1000000) (hn : n ≤ 100) : gOkM M (mDays M n).1 := by
  refine ⟨gInv_days i n, fun d hd' h1 => ?_, by rw [mDays_40]; omega, by rw [mDays_o (by omega)]; exact Nat.le_refl _⟩
  rw [mDays_o (by omega)] at hd'
  rw [mDays_40]
  rcases (gEf_days i hd n (by omega)).1 d hd' with ⟨w1, w2, w3⟩ | ⟨w1, w2, w3⟩
  · rw [w2] at h1
    rw [w3]
    exact fun z => absurd (decide_eq_true (p := ¬ mA M 43 d = -1 ∧ mA M 44 d < nI (mN M 40 + n)) ⟨h1, z⟩) (by unfold gOv at w1; rw [w1]; decide)
  · exact absurd w2 h1
/-- the draft's rows -/
def dT (D : gM) : Prop := (∀ i, i ≤ mN D 1 → gWt 9 (mA D 3 i)) ∧ ∀ i, i < mN D 0 → gWt 127 (mA D 0 i) ∧ gWt 9 (mA D 1 i) ∧ gWt 1 (mA D 2 i)
theorem dT_put {D : gM} {b m : Int32} (h : dT D) (hb : gWt 127 b) (hm : gWt 1 m) : dT (dPut D b m) := by
  refine ⟨fun i hi => h.1 i hi, fun i hi => ?_⟩
  have hi : i < mN D 0 + 1 := hi
  show gWt 127 (mA (uA (uA (uA D 0 (mN D 0) b) 1 (mN D 0) (mA D 3 (mN D 1))) 2 (mN D 0) m) 0 i) ∧ gWt 9 (mA (uA (uA (uA D 0 (mN D 0) b) 1 (mN D 0) (mA D 3 (mN D 1))) 2 (mN D 0) m) 1 i) ∧ gWt 1 (mA (uA (uA (uA D 0 (mN D 0) b) 1 (mN D 0) (mA D 3 (mN D 1))) 2 (mN D 0) m) 2 i)
  rw [uA_f (f := 2) (g := 0) (by omega), uA_f (f := 1) (g := 0) (by omega), uA_f (f := 2) (g := 1) (by omega)]
  by_cases z : i = mN D 0
  · subst z
    rw [uA_s, uA_s, uA_s]
    exact ⟨hb, h.1 _ (Nat.le_refl _), hm⟩
  · rw [show mA (uA D 0 (mN D 0) b) 0 i = mA D 0 i from uA_i z, show mA (uA (uA D 0 (mN D 0) b) 1 (mN D 0) (mA D 3 (mN D 1))) 1 i = mA D 1 i from (uA_i z).trans (uA_f (by omega)), show mA (uA (uA (uA D 0 (mN D 0) b) 1 (mN D 0) (mA D 3 (mN D 1))) 2 (mN D 0) m) 2 i = mA D 2 i from (uA_i z).trans ((uA_f (by omega)).trans (uA_f (by omega)))]
    exact h.2 i (by omega)
theorem dT_N {D : gM} {k v : Nat} (h : dT D) (h0 : k ≠ 0) (h1 : k ≠ 1) : dT (uN D k v) := by
  refine ⟨fun i hi => ?_, fun i hi => ?_⟩
  · rw [uN_o (fun z => h1 z.symm)] at hi; exact h.1 i hi
  · rw [uN_o (fun z => h0 z.symm)] at hi; exact h.2 i hi
theorem dT_4 {D : gM} {k : Nat} {v : Int32} (h : dT D) : dT (uA D 4 k v) := h
theorem dT_q {n : Nat} (h : n ≤ 127) : gWt 127 (nI n) := gWt_d h (by omega)
theorem dT_0 : gWt 1 (nI 0) := gWt_d (n := 0) (by omega) (by omega)
theorem dT_end {D : gM} (h : dT D) : dT (dEnd D) := by
  unfold dEnd
  split
  · next ho =>
    have h4 : mN D 4 < 20 := by
      unfold dOwn at ho
      simp only [Bool.and_eq_true, decide_eq_true_eq] at ho
      exact ho.1
    unfold dEx
    refine dT_put ?_ (dT_q (by omega)) dT_0
    unfold dEx5
    have h5 : dT (dEx4 D) := dT_put (dT_put (dT_put (dT_put (dT_4 (dT_N h (by omega) (by omega))) (dT_q (by omega)) dT_0) (dT_q (by omega)) dT_0) (dT_q (by omega)) dT_0) (dT_q (by omega)) dT_0
    split
    · exact h5
    · exact dT_put h5 (dT_q (by omega)) dT_0
  · unfold dFar
    split
    · exact dT_4 (dT_N h (by omega) (by omega))
    · exact dT_N h (by omega) (by omega)
theorem dT_plk {b : Int32} (h : dPlk b = true) : gWt 127 b := by
  rcases of_decide_eq_true h with rfl | ⟨h1, h2⟩
  · exact dT_q (by omega)
  · have e1 : (nI 32).toInt = 32 := by decide
    have e2 : (nI 126).toInt = 126 := by decide
    have e3 : (nI 127).toInt = 127 := by decide
    have e4 : (0 : Int32).toInt = 0 := by decide
    rw [Int32.le_iff_toInt_le] at h1 h2
    exact ⟨by rw [Int32.le_iff_toInt_le]; omega, by rw [Int32.le_iff_toInt_le]; omega⟩
theorem dT_let {b : Int32} (h : dLet b = true) : gWt 127 b := by
  have e1 : (nI 65).toInt = 65 := by decide
  have e2 : (nI 90).toInt = 90 := by decide
  have e3 : (nI 97).toInt = 97 := by decide
  have e5 : (nI 122).toInt = 122 := by decide
  have e6 : (nI 127).toInt = 127 := by decide
  have e4 : (0 : Int32).toInt = 0 := by decide
  rcases of_decide_eq_true h with ⟨h1, h2⟩ | ⟨h1, h2⟩ <;>
  · rw [Int32.le_iff_toInt_le] at h1 h2
    exact ⟨by rw [Int32.le_iff_toInt_le]; omega, by rw [Int32.le_iff_toInt_le]; omega⟩
theorem dT_body {D : gM} {b : Int32} {n : Nat} (h : dT D) (hk : dBok D b = true) : dT (dBody D b n) := by
  unfold dBok at hk
  unfold dBody
  by_cases c1 : b = nI 91
  · rw [if_pos c1]; exact dT_N h (by omega) (by omega)
  · rw [if_neg c1] at hk ⊢
    by_cases c2 : b = nI 93
    · rw [if_pos c2]
      exact ⟨fun i hi => h.1 i (by have hi : i ≤ mN D 1 - 1 := hi; omega), fun i hi => h.2 i hi⟩
    · rw [if_neg c2] at hk ⊢
      by_cases c3 : b = nI 123
      · rw [if_pos c3]; exact dT_N (dT_N h (by omega) (by omega)) (by omega) (by omega)
      · rw [if_neg c3] at hk ⊢
        by_cases c4 : b = nI 125
        · rw [if_pos c4] at hk; exact absurd hk (by decide)
        · rw [if_neg c4] at hk
          by_cases c5 : b = nI 64
          · rw [if_pos c5]; exact dT_N (dT_N (dT_N (dT_N h (by omega) (by omega)) (by omega) (by omega)) (by omega) (by omega)) (by omega) (by omega)
          · rw [if_neg c5] at hk ⊢
            exact dT_put h (dT_plk hk) dT_0
theorem dT_nx {D : gM} {b : Int32} {n : Nat} (h : dT D) (hk : dOk D b = true) : dT (dNx D b n) := by
  unfold dOk at hk
  unfold dNx
  by_cases c1 : mN D 2 = 1
  · rw [if_pos c1] at hk ⊢
    unfold dLev
    refine dT_N (k := 2) ?_ (by omega) (by omega)
    have hb := of_decide_eq_true hk
    have hl := h.1 (mN D 1) (Nat.le_refl _)
    refine ⟨fun i hi => ?_, fun i hi => h.2 i hi⟩
    have hi : i ≤ mN D 1 + 1 := hi
    show gWt 9 (mA (uA D 3 (mN D 1 + 1) _) 3 i)
    by_cases z : i = mN D 1 + 1
    · rw [z, uA_s]
      split
      · have h48 : gWt 57 b := by
          have e1 : (nI 49).toInt = 49 := by decide
          have e2 : (nI 57).toInt = 57 := by decide
          have e4 : (0 : Int32).toInt = 0 := by decide
          have h1 := hb.1
          have h2 := hb.2
          rw [Int32.le_iff_toInt_le] at h1 h2
          exact ⟨by rw [Int32.le_iff_toInt_le]; omega, by rw [Int32.le_iff_toInt_le]; omega⟩
        obtain ⟨q, hq, rfl⟩ := gWt_of h48 (by omega)
        have h49 : 49 ≤ q := (nI_leI (by omega) (by omega)).mp hb.1
        rw [pk_sub (show 48 ≤ q by omega)]
        exact gWt_d (by omega) (by omega)
      · exact hl
    · rw [uA_i z]; exact h.1 i (by omega)
  · rw [if_neg c1] at hk ⊢
    by_cases c2 : mN D 2 = 2
    · rw [if_pos c2]; exact dT_N h (by omega) (by omega)
    · rw [if_neg c2] at hk ⊢
      by_cases c3 : mN D 2 = 3
      · rw [if_pos c3] at hk ⊢
        unfold dNam
        unfold dNok at hk
        by_cases c4 : b = nI 125
        · rw [if_pos c4]; exact dT_N h (by omega) (by omega)
        · rw [if_neg c4] at hk ⊢
          simp only [Bool.and_eq_true] at hk
          refine dT_N (dT_put h (dT_let hk.2) ?_) (by omega) (by omega)
          split
          · exact gWt_d (n := 1) (by omega) (by omega)
          · exact dT_0
      · rw [if_neg c3] at hk ⊢
        by_cases c4 : mN D 2 = 4
        · rw [if_pos c4] at hk ⊢
          unfold dNum
          unfold dUok at hk
          by_cases c5 : dDig (nI 48) b = true
          · rw [if_pos c5]
            have hg : dT (dDgt D b) := dT_N (dT_N h (by omega) (by omega)) (by omega) (by omega)
            split
            · exact hg
            · exact dT_end hg
          · rw [if_neg c5] at hk ⊢
            simp only [Bool.and_eq_true] at hk
            refine dT_body (dT_end h) ?_
            have e : ∀ X : gM, mN X 1 = mN D 1 → dBok X b = dBok D b := fun X hX => by unfold dBok; rw [hX]
            rw [e]
            · exact hk.2
            · unfold dEnd
              split
              · unfold dEx dEx5; split <;> rfl
              · unfold dFar; split <;> rfl
        · rw [if_neg c4] at hk ⊢
          exact dT_body h hk
theorem dT_res {f : Nat → Int32} {own : Int32} : ∀ n D, dRes f own n = .inr D → dT D
  | 0, D, h => by
    cases h
    exact ⟨fun i _ => gWt_d (n := 0) (by omega) (by omega), fun i hi => absurd hi (Nat.not_lt_zero i)⟩
  | n + 1, D, h => by
    cases e : dRes f own n with
    | inl i => rw [dRes, e] at h; cases h
    | inr D0 =>
      rw [dRes, e] at h
      dsimp only at h
      have h0 := dT_res n D0 e
      split at h
      · next hk => cases h; exact dT_nx h0 hk
      · cases h
theorem dT_out {f : Nat → Int32} {own : Int32} {n : Nat} (h : (dOut f own n).1 = nI 0) : dT (dOut f own n).2.2 := by
  cases e : dRes f own n with
  | inl i => rw [dOut_l e] at h; exact absurd (show nI 1 = nI 0 from h) (by decide)
  | inr D =>
    rw [dOut_r e] at h ⊢
    have h0 := dT_res n D e
    split at h
    · next hw =>
      rw [if_pos hw]
      show dT (dFin D)
      unfold dFin
      split
      · exact dT_end h0
      · exact h0
    · exact absurd (show nI 1 = nI 0 from h) (by decide)
theorem uT3 {X : gM} {n : Nat} {A B C : Nat → Int32} : mT (uT (uT (uT X 13 n A) 14 n B) 15 n C) 13 n = A ∧ mT (uT (uT (uT X 13 n A) 14 n B) 15 n C) 14 n = B ∧ mT (uT (uT (uT X 13 n A) 14 n B) 15 n C) 15 n = C := by
  refine ⟨?_, ?_, ?_⟩
  · show (if 13 = 15 ∧ n = n then C else if 13 = 14 ∧ n = n then B else if 13 = 13 ∧ n = n then A else mT X 13 n) = A
    rw [if_neg (by omega), if_neg (by omega), if_pos ⟨rfl, rfl⟩]
  · show (if 14 = 15 ∧ n = n then C else if 14 = 14 ∧ n = n then B else if 14 = 13 ∧ n = n then A else mT X 14 n) = B
    rw [if_neg (by omega), if_pos ⟨rfl, rfl⟩]
  · show (if 15 = 15 ∧ n = n then C else if 15 = 14 ∧ n = n then B else if 15 = 13 ∧ n = n then A else mT X 15 n) = C
    rw [if_pos ⟨rfl, rfl⟩]
theorem gOk_file {c : Nat} (h : gMail d0 S x ad (mFile M c)) (i : gInv M) (hd : gDue M) (h24 : ¬ mN M 11 = 24) (h0 : (fOut M c).1 = nI 0) : gOkM M (mFile M c) ∧ mN (mFile M c) 11 = mN M 11 + 1 := by
  have hb := i.b
  have hT : dT (fOut M c).2.2 := dT_out h0
  have en : ∀ j, j ≠ 2 → j ≠ 11 → j ≠ 100 + mN M 11 → mN (mFile M c) j = mN M j := fun j h1 h2 h3 => (uN_o h2).trans ((uN_o h3).trans (uN_o h1))
  have ea : ∀ f j, f ≠ 3 → (f ≠ 12 ∧ f ≠ 16 ∧ f ≠ 43 ∧ f ≠ 44) ∨ j ≠ mN M 11 → mA (mFile M c) f j = mA M f j := by
    intro f j h3 hj
    have e3 : mA (mF0 M (fOut M c).2.1) f j = mA M f j := uA_f h3
    rcases hj with hj | hj
    · exact (uA_f hj.2.2.2).trans ((uA_f hj.2.2.1).trans ((uA_f hj.2.1).trans ((uA_f hj.1).trans e3)))
    · exact (uA_i hj).trans ((uA_i hj).trans ((uA_i hj).trans ((uA_i hj).trans e3)))
  have e43 : mA (mFile M c) 43 (mN M 11) = -1 := by
    show (if 43 = 44 ∧ mN M 11 = mN M 11 then (-1 : Int32) else if 43 = 43 ∧ mN M 11 = mN M 11 then (-1 : Int32) else _) = -1
    rw [if_neg (by omega), if_pos ⟨rfl, rfl⟩]
  have ef : ∀ f, f ≠ 3 → f ≠ 12 → f ≠ 16 → f ≠ 43 → f ≠ 44 → mA (mFile M c) f = mA M f := fun f a1 a2 a3 a4 a5 => funext fun j => ea f j a1 (Or.inl ⟨a2, a3, a4, a5⟩)
  have e11 : mN (mFile M c) 11 = mN M 11 + 1 := uN_s
  have eL : mN (mFile M c) (100 + mN M 11) = mN (fOut M c).2.2 0 := (uN_o (by omega)).trans uN_s
  have et : ∀ g d, d ≠ mN M 11 → mT (mFile M c) g d = mT M g d := fun g d hdd => by
    show (if g = 15 ∧ d = mN M 11 then _ else if g = 14 ∧ d = mN M 11 then _ else if g = 13 ∧ d = mN M 11 then _ else mT M g d) = _
    rw [if_neg (fun z => hdd z.2), if_neg (fun z => hdd z.2), if_neg (fun z => hdd z.2)]
  have t13 : mT (mFile M c) 13 (mN M 11) = mA (fOut M c).2.2 0 := by
    show mT (uT (uT (uT (uA (uA (uA (uA (mF0 M (fOut M c).2.1) 12 (mN M 11) (nI c)) 16 (mN M 11) (mA (fOut M c).2.2 4 0)) 43 (mN M 11) (-1)) 44 (mN M 11) (-1)) 13 (mN M 11) (mA (fOut M c).2.2 0)) 14 (mN M 11) (mA (fOut M c).2.2 1)) 15 (mN M 11) (mA (fOut M c).2.2 2)) 13 (mN M 11) = _
    exact uT3.1
  have t14 : mT (mFile M c) 14 (mN M 11) = mA (fOut M c).2.2 1 := by
    show mT (uT (uT (uT (uA (uA (uA (uA (mF0 M (fOut M c).2.1) 12 (mN M 11) (nI c)) 16 (mN M 11) (mA (fOut M c).2.2 4 0)) 43 (mN M 11) (-1)) 44 (mN M 11) (-1)) 13 (mN M 11) (mA (fOut M c).2.2 0)) 14 (mN M 11) (mA (fOut M c).2.2 1)) 15 (mN M 11) (mA (fOut M c).2.2 2)) 14 (mN M 11) = _
    exact uT3.2.1
  have t15 : mT (mFile M c) 15 (mN M 11) = mA (fOut M c).2.2 2 := by
    show mT (uT (uT (uT (uA (uA (uA (uA (mF0 M (fOut M c).2.1) 12 (mN M 11) (nI c)) 16 (mN M 11) (mA (fOut M c).2.2 4 0)) 43 (mN M 11) (-1)) 44 (mN M 11) (-1)) 13 (mN M 11) (mA (fOut M c).2.2 0)) 14 (mN M 11) (mA (fOut M c).2.2 1)) 15 (mN M 11) (mA (fOut M c).2.2 2)) 15 (mN M 11) = _
    exact uT3.2.2
  refine ⟨⟨gInv_mail h ⟨?_, ?_, ?_, fun d j hdd hj => ?_, ?_, ⟨?_, fun d hdd => ?_, ?_, fun e he => ?_⟩⟩, fun d hdd h1 => ?_, ?_, ?_⟩, e11⟩
  · unfold gBnd
    rw [en 6 (by omega) (by omega) (by omega), en 8 (by omega) (by omega) (by omega), en 17 (by omega) (by omega) (by omega), en 23 (by omega) (by omega) (by omega), e11]
    exact ⟨i.1.1, i.1.2.1, by omega, i.1.2.2.2.1, i.1.2.2.2.2⟩
  · rw [en 6 (by omega) (by omega) (by omega), ef 7 (by omega) (by omega) (by omega) (by omega) (by omega)]; exact i.2.2.2.1.1
  · rw [en 8 (by omega) (by omega) (by omega), ef 9 (by omega) (by omega) (by omega) (by omega) (by omega), ef 41 (by omega) (by omega) (by omega) (by omega) (by omega), ef 42 (by omega) (by omega) (by omega) (by omega) (by omega)]; exact i.2.2.2.1.2.1
  · rw [e11] at hdd
    by_cases z : d = mN M 11
    · subst z
      rw [eL] at hj
      rw [t13, t14, t15]
      exact hT.2 j hj
    · rw [en _ (by omega) (by omega) (by omega)] at hj
      rw [et 13 d z, et 14 d z, et 15 d z]
      exact i.tx (by omega) hj
  · rw [en 23 (by omega) (by omega) (by omega), ef 46 (by omega) (by omega) (by omega) (by omega) (by omega)]; exact i.2.2.2.1.2.2.2.1
  · rw [en 8 (by omega) (by omega) (by omega), ef 10 (by omega) (by omega) (by omega) (by omega) (by omega), ef 42 (by omega) (by omega) (by omega) (by omega) (by omega)]; exact i.2.2.2.2.1
  · rw [e11] at hdd
    rw [ef 45 (by omega) (by omega) (by omega) (by omega) (by omega)]; exact i.2.2.2.2.2.1 d (by omega)
  · rw [en 23 (by omega) (by omega) (by omega), ef 46 (by omega) (by omega) (by omega) (by omega) (by omega)]; exact i.2.2.2.2.2.2.1
  · rw [en 17 (by omega) (by omega) (by omega)] at he
    rw [en _ (by omega) (by omega) (by omega)]; exact i.2.2.2.2.2.2.2 e he
  · rw [e11] at hdd
    rw [en 40 (by omega) (by omega) (by omega)]
    by_cases z : d = mN M 11
    · subst z; exact absurd e43 h1
    · rw [ea 43 d (by omega) (Or.inr z)] at h1
      rw [ea 44 d (by omega) (Or.inr z)]
      exact hd d (by omega) h1
  · rw [en 40 (by omega) (by omega) (by omega)]; omega
  · rw [e11]; omega
end KEEP
theorem gInv_0 {d0 : Nat × Nat} {S : gS} {x : Nat} {ad : Nat → Nat → Nat} (h : gMail d0 S x ad M0) : gInv M0 ∧ gDue M0 := by
  refine ⟨gInv_mail h ⟨⟨Nat.zero_le _, Nat.zero_le _, Nat.zero_le _, Nat.zero_le _, Nat.zero_le _⟩, fun c hc => absurd hc (Nat.not_lt_zero c), fun c hc => absurd hc (Nat.not_lt_zero c), fun d j hd => absurd hd (Nat.not_lt_zero d), fun c hc => absurd hc (Nat.not_lt_zero c), ⟨fun _ _ => ⟨rfl, rfl⟩, fun _ _ => rfl, fun _ _ => rfl, fun _ _ => rfl⟩⟩, fun d hd => absurd hd (Nat.not_lt_zero d)⟩
