/-! ===== when a letter arrives: the days lived through, and the count ===== -/
def gBf (M : gM) (k j : Nat) : Prop := mA M 26 k < mA M 26 j ∨ (mA M 26 k = mA M 26 j ∧ k < j)
theorem gBf_i {M : gM} {k j : Nat} : gBf M k j ↔ ((mA M 26 k).toInt < (mA M 26 j).toInt ∨ ((mA M 26 k).toInt = (mA M 26 j).toInt ∧ k < j)) := by
  unfold gBf
  rw [Int32.lt_iff_toInt_lt, Int32.toInt_inj]
theorem gBf_tot {M : gM} {k j : Nat} (h : k ≠ j) : gBf M k j ∨ gBf M j k := by
  rw [gBf_i, gBf_i]; omega
theorem gBf_tr {M : gM} {a b c : Nat} (h : gBf M a b) (h2 : gBf M b c) : gBf M a c := by
  rw [gBf_i] at h h2 ⊢; omega
theorem gBf_as {M : gM} {a b : Nat} (h : gBf M a b) : ¬ gBf M b a := by
  intro h2
  rw [gBf_i] at h h2; omega
theorem gNx_spec {N : gM} : ∀ n, (gNx N n = none → ∀ j, j < n → ¬ mA N 46 j = 0) ∧ (∀ k, gNx N n = some k → k < n ∧ mA N 46 k = 0 ∧ ∀ j, j < n → mA N 46 j = 0 → j ≠ k → gBf N k j)
  | 0 => ⟨fun _ j hj => absurd hj (Nat.not_lt_zero j), fun k h => by cases h⟩
  | n + 1 => by
    obtain ⟨h1, h2⟩ := gNx_spec (N := N) n
    by_cases e : mA N 46 n = 0 ∧ (∀ b, gNx N n = some b → mA N 26 n < mA N 26 b)
    · rw [gNx_yes e]
      refine ⟨fun z => absurd z (by simp), fun k hk => ?_⟩
      obtain rfl : n = k := by cases hk; rfl
      refine ⟨Nat.lt_succ_self n, e.1, fun j hj h0 hne => ?_⟩
      have hj2 : j < n := by omega
      cases en : gNx N n with
      | none => exact absurd h0 (h1 en j hj2)
      | some b =>
        have hb := h2 b en
        by_cases ejb : j = b
        · subst ejb; exact Or.inl (e.2 _ en)
        · exact gBf_tr (Or.inl (e.2 _ en)) (hb.2.2 j hj2 h0 ejb)
    · rw [gNx_no e]
      refine ⟨fun z j hj => ?_, fun k hk => ?_⟩
      · by_cases ej : j = n
        · subst ej
          exact fun h0 => e ⟨h0, fun b hb => by rw [z] at hb; cases hb⟩
        · exact h1 z j (by omega)
      · obtain ⟨g1, g2, g3⟩ := h2 k hk
        refine ⟨by omega, g2, fun j hj h0 hne => ?_⟩
        by_cases ej : j = n
        · subst ej
          have hn : ¬ mA N 26 j < mA N 26 k := fun z => e ⟨h0, fun b hb => by rw [hk] at hb; cases hb; exact z⟩
          rw [gBf_i]
          rw [Int32.lt_iff_toInt_lt] at hn
          omega
        · exact g3 j (by omega) h0 hne
theorem gct_mono {p q : Nat → Bool} : ∀ {n : Nat}, (∀ k, k < n → p k = true → q k = true) → gct p n ≤ gct q n
  | 0, _ => Nat.le_refl 0
  | n + 1, h => by
    have ih := gct_mono (p := p) (q := q) (n := n) (fun k hk => h k (by omega))
    cases e : p n with
    | true => rw [gct_yes e, gct_yes (h n (by omega) e)]; omega
    | false =>
      rw [gct_no e]
      cases e2 : q n with
      | true => rw [gct_yes e2]; omega
      | false => rw [gct_no e2]; exact ih
theorem gct_flip {p q : Nat → Bool} {x : Nat} : ∀ {n : Nat}, x < n → p x = false → q x = true → (∀ k, k < n → k ≠ x → q k = p k) → gct q n = gct p n + 1
  | 0, h, _, _, _ => absurd h (Nat.not_lt_zero x)
  | n + 1, h, h1, h2, h3 => by
    by_cases e : x = n
    · subst e
      rw [gct_yes h2, gct_no h1, gct_cong (fun k hk => h3 k (by omega) (by omega))]
    · have ih := gct_flip (p := p) (q := q) (n := n) (x := x) (by omega) h1 h2 (fun k hk => h3 k (by omega))
      have e3 := h3 n (by omega) (fun z => e z.symm)
      cases e4 : p n with
      | true => rw [gct_yes e4, gct_yes (e3.trans e4), ih]
      | false => rw [gct_no e4, gct_no (e3.trans e4), ih]
/-- what has been carried since M: c letters, the first ones -/
def gDl (M N : gM) : Nat → Bool := fun k => decide (mA M 46 k = 0 ∧ ¬ mA N 46 k = 0)
def gCr (M N : gM) (c : Nat) : Prop := mA N 26 = mA M 26 ∧ mN N 23 = mN M 23 ∧ (∀ k, k < mN M 23 → ¬ mA M 46 k = 0 → mA N 46 k = mA M 46 k) ∧ (∀ k j, k < mN M 23 → j < mN M 23 → mA M 46 k = 0 → ¬ mA N 46 k = 0 → mA M 46 j = 0 → gBf M j k → ¬ mA N 46 j = 0) ∧ c = gct (gDl M N) (mN M 23)
theorem gCr_rf {M : gM} : gCr M M 0 := by
  refine ⟨rfl, rfl, fun _ _ _ => rfl, fun k j _ _ h1 h2 => absurd h1 h2, ?_⟩
  refine (gct_zero.mpr fun k _ => decide_eq_false fun z => z.2 z.1).symm
theorem gCr_same {M N N' : gM} {c : Nat} (h : gCr M N c) (h1 : mA N' 26 = mA N 26) (h2 : mN N' 23 = mN N 23) (h3 : mA N' 46 = mA N 46) : gCr M N' c := by
  obtain ⟨a1, a2, a3, a4, a5⟩ := h
  refine ⟨h1.trans a1, h2.trans a2, fun k hk h0 => by rw [h3]; exact a3 k hk h0, fun k j hk hj => by rw [h3]; exact a4 k j hk hj, a5.trans (congrArg (fun f => gct f (mN M 23)) (funext fun k => ?_))⟩
  unfold gDl
  rw [h3]
theorem mCar46 {N : gM} {k : Nat} : mA (mCarry N k) 46 k = (if gSee N k then nI 1 else nI 2) ∧ ∀ j, j ≠ k → mA (mCarry N k) 46 j = mA N 46 j := by
  unfold mCarry mLog
  split
  · exact ⟨(uA_f (by omega)).trans uA_s, fun j hj => (uA_f (by omega)).trans ((uA_i hj).trans (uA_f (by omega)))⟩
  · exact ⟨uA_s, fun j hj => (uA_i hj).trans (uA_f (by omega))⟩
theorem gCr_carry {M N : gM} {c k : Nat} (h : gCr M N c) (hk : gNx N (mN M 23) = some k) : gCr M (mCarry N k) (c + 1) := by
  obtain ⟨a1, a2, a3, a4, a5⟩ := h
  obtain ⟨g1, g2, g3⟩ := (gNx_spec (N := N) (mN M 23)).2 k hk
  obtain ⟨b1, b2⟩ := mCar46 (N := N) (k := k)
  have b3 : ¬ mA (mCarry N k) 46 k = 0 := by rw [b1]; split <;> decide
  have hM : mA M 46 k = 0 := Classical.byContradiction fun z => z ((a3 k g1 z).symm.trans g2)
  refine ⟨(mCarry_a (by omega)).trans a1, (congrFun (mCarry_n N k) 23).trans a2, fun j hj h0 => ?_, fun j i hj hi h1 h2 h3 h4 => ?_, ?_⟩
  · rw [b2 j (fun z => h0 (z ▸ hM))]; exact a3 j hj h0
  · by_cases ei : i = k
    · subst ei; exact b3
    · rw [b2 i ei]
      by_cases ej : j = k
      · subst ej
        intro h5
        have h6 := g3 i hi h5 ei
        have h7 : gBf M j i := by
          rw [gBf_i] at h6 ⊢
          rw [a1] at h6
          exact h6
        exact gBf_as h7 h4
      · rw [b2 j ej] at h2
        exact a4 j i hj hi h1 h2 h3 h4
  · rw [a5]
    refine (gct_flip (x := k) g1 (decide_eq_false fun z => z.2 g2) (decide_eq_true ⟨hM, b3⟩) (fun j hj hne => ?_)).symm
    unfold gDl
    rw [b2 j hne]
theorem gCr_N {M N : gM} {c : Nat} (h : gCr M N c) : ∀ n, ∃ c', gCr M (mCarN N n).1 c' ∧ c' ≤ c + n ∧ (c' = c + n ∨ gNx (mCarN N n).1 (mN M 23) = none)
  | 0 => ⟨c, h, Nat.le_refl _, Or.inl rfl⟩
  | n + 1 => by
    obtain ⟨c1, h1, h2, h3⟩ := gCr_N h n
    have e23 : mN N 23 = mN M 23 := h.2.1
    cases e : gNx (mCarN N n).1 (mN N 23) with
    | none => rw [mCarN_none e]; exact ⟨c1, h1, by omega, Or.inr (by rw [← e23]; exact e)⟩
    | some k =>
      rw [mCarN_some e]
      refine ⟨c1 + 1, gCr_carry h1 (by rw [← e23]; exact e), by omega, Or.inl ?_⟩
      rcases h3 with h3 | h3
      · omega
      · rw [← e23, e] at h3; cases h3
theorem mCarN_stay {N : gM} (h : gNx N (mN N 23) = none) : ∀ n, (mCarN N n).1 = N
  | 0 => rfl
  | n + 1 => by
    have ih := mCarN_stay h n
    rw [mCarN_none (by rw [ih]; exact h), ih]
theorem mRet_l {M : gM} {d f : Nat} (h : f ≠ 41 ∧ f ≠ 42 ∧ f ≠ 43 ∧ f ≠ 44) : mA (mRet M d) f = mA M f := by
  unfold mRet mBack mWarn
  split
  · split
    · exact funext fun j => (uA_f (by omega)).trans ((uA_f (by omega)).trans (uA_f (by omega)))
    · exact funext fun j => (uA_f (by omega)).trans ((uA_f (by omega)).trans ((uA_f (by omega)).trans (uA_f (by omega))))
  · rfl
theorem mRetN_l {M : gM} {f : Nat} (h : f ≠ 41 ∧ f ≠ 42 ∧ f ≠ 43 ∧ f ≠ 44) : ∀ n, mA (mRetN M n) f = mA M f
  | 0 => rfl
  | n + 1 => (mRet_l h).trans (mRetN_l h n)
theorem mCarry_b {M : gM} {k f : Nat} (h : f < 45) : mA (mCarry M k) f = mA M f := by
  unfold mCarry mLog
  split
  · exact funext fun j => (uA_f (by omega)).trans ((uA_f (by omega)).trans (uA_f (by omega)))
  · exact funext fun j => (uA_f (by omega)).trans (uA_f (by omega))
theorem mCarN_b {M : gM} {f : Nat} (h : f < 45) : ∀ n, mA (mCarN M n).1 f = mA M f
  | 0 => rfl
  | n + 1 => by
    have ih := mCarN_b (M := M) h n
    cases e : gNx (mCarN M n).1 (mN M 23) with
    | none => rw [mCarN_none e]; exact ih
    | some k => rw [mCarN_some e]; exact (mCarry_b h).trans ih
theorem gClk_days {M : gM} (n : Nat) : gClk (mDays M n).1 = gClk M := by
  unfold gClk
  rw [(mDays_a (by omega) n).1, mDays_o (by omega) n]
theorem mDay_46 {M : gM} {k : Nat} : mA (mDay M) 46 k = mA (mCarN M (3 * gClk M)).1 46 k := congrFun (mRetN_l (M := uN (mCarN M (3 * gClk M)).1 40 (mN M 40 + 1)) (f := 46) (by omega) (mN M 11)) k
theorem gCr_days {M : gM} : ∀ v, ∃ c, gCr M (mDays M v).1 c ∧ c ≤ v * (3 * gClk M) ∧ (c = v * (3 * gClk M) ∨ gNx (mDays M v).1 (mN M 23) = none)
  | 0 => ⟨0, gCr_rf, Nat.zero_le _, Or.inl (Nat.zero_mul _).symm⟩
  | v + 1 => by
    obtain ⟨c, h1, h2, h3⟩ := gCr_days (M := M) v
    obtain ⟨c', g1, g2, g3⟩ := gCr_N h1 (3 * gClk M)
    have e23 : mN (mDays M v).1 23 = mN M 23 := h1.2.1
    have hd : ∀ f, f < 45 → f ≠ 41 → f ≠ 42 → f ≠ 43 → f ≠ 44 → mA (mDays M (v + 1)).1 f = mA (mCarN (mDays M v).1 (3 * gClk M)).1 f := fun f _ q1 q2 q3 q4 => by
      rw [mDays_s]
      show mA (mDay (mDays M v).1) f = _
      unfold mDay
      rw [mRetN_l ⟨q1, q2, q3, q4⟩, gClk_days]
      rfl
    have hd46 : mA (mDays M (v + 1)).1 46 = mA (mCarN (mDays M v).1 (3 * gClk M)).1 46 := by
      rw [mDays_s]
      show mA (mDay (mDays M v).1) 46 = _
      refine (funext fun k => mDay_46).trans ?_
      rw [gClk_days]
    have g4 : gCr M (mDays M (v + 1)).1 c' := gCr_same g1 (hd 26 (by omega) (by omega) (by omega) (by omega) (by omega)) (by rw [mDays_o (by omega), mCarN_n, mDays_o (by omega)]) hd46
    rw [Nat.succ_mul]
    refine ⟨c', g4, by omega, ?_⟩
    have hnone : ∀ N N' : gM, mA N' 46 = mA N 46 → gNx N (mN M 23) = none → gNx N' (mN M 23) = none := by
      intro N N' q z
      cases e : gNx N' (mN M 23) with
      | none => rfl
      | some k =>
        obtain ⟨w1, w2, -⟩ := (gNx_spec (N := N') (mN M 23)).2 k e
        rw [q] at w2
        exact absurd w2 ((gNx_spec (N := N) (mN M 23)).1 z k w1)
    rcases g3 with g3 | g3
    · rcases h3 with h3 | h3
      · exact Or.inl (by omega)
      · refine Or.inr (hnone _ _ ?_ h3)
        rw [hd46, mCarN_stay (by rw [e23]; exact h3)]
    · exact Or.inr (hnone _ _ hd46 g3)
/-- a letter's place among those not carried -/
def gRk1 (M : gM) (l : Nat) : Nat := gct (gAheadP M l) (mN M 23)
theorem gAh_n {M : gM} {l : Nat} (hl : l < mN M 23) : gRk1 M l + 1 ≤ mN M 23 := by
  have h := gct_flip (p := gAheadP M l) (q := fun k => decide (k = l) || gAheadP M l k) (x := l) hl (decide_eq_false fun z => z.2.elim (fun w => Int32.lt_irrefl w) (fun w => Nat.lt_irrefl _ w.2)) (by simp) (fun k _ hne => by simp [hne])
  have := gct_le (fun k => decide (k = l) || gAheadP M l k) (mN M 23)
  unfold gRk1
  omega
theorem gDl_0 {M N : gM} {c l : Nat} (h : gCr M N c) (hl : l < mN M 23) (h0 : mA M 46 l = 0) (h1 : mA N 46 l = 0) : c ≤ gRk1 M l := by
  obtain ⟨a1, a2, a3, a4, a5⟩ := h
  rw [a5]
  refine gct_mono fun k hk hp => ?_
  obtain ⟨p1, p2⟩ := of_decide_eq_true hp
  have hne : k ≠ l := fun z => p2 (z ▸ h1)
  refine decide_eq_true ⟨p1, ?_⟩
  rcases gBf_tot (M := M) hne with z | z
  · exact z
  · exact absurd h1 (a4 k l hk hl p1 p2 h0 z)
theorem gDl_1 {M N : gM} {c l : Nat} (h : gCr M N c) (hl : l < mN M 23) (h0 : mA M 46 l = 0) (h1 : ¬ mA N 46 l = 0) : gRk1 M l + 1 ≤ c := by
  obtain ⟨a1, a2, a3, a4, a5⟩ := h
  rw [a5]
  have h9 := gct_flip (p := gAheadP M l) (q := fun k => decide (k = l) || gAheadP M l k) (x := l) hl (decide_eq_false fun z => z.2.elim (fun w => Int32.lt_irrefl w) (fun w => Nat.lt_irrefl _ w.2)) (by simp) (fun k _ hne => by simp [hne])
  unfold gRk1
  rw [← h9]
  refine gct_mono fun k hk hp => ?_
  refine decide_eq_true ?_
  by_cases e : k = l
  · subst e; exact ⟨h0, h1⟩
  · have hp2 : gAheadP M l k = true := by simpa [e] using hp
    obtain ⟨p1, p2⟩ := of_decide_eq_true hp2
    exact ⟨p1, a4 l k hl hk h0 h1 p1 p2⟩
theorem gNx_all {M N : gM} {n : Nat} (h : gNx N n = none) {l : Nat} (hl : l < n) : ¬ mA N 46 l = 0 := (gNx_spec n).1 h l hl
/-- when it's carried -/
theorem gCar_when {M : gM} {l : Nat} (hl : l < mN M 23) (h0 : mA M 46 l = 0) (v : Nat) : mA (mDays M v).1 46 l = 0 ↔ v * (3 * gClk M) ≤ gRk1 M l := by
  obtain ⟨c, h1, h2, h3⟩ := gCr_days (M := M) v
  constructor
  · intro h
    rcases h3 with h3 | h3
    · rw [← h3]; exact gDl_0 h1 hl h0 h
    · exact absurd h (gNx_all (M := M) h3 hl)
  · intro h
    refine Classical.byContradiction fun z => ?_
    have := gDl_1 h1 hl h0 z
    omega
theorem gSee_eq {M N : gM} {l : Nat} (h : ∀ f, f < 45 → mA N f = mA M f) : gSee N l = gSee M l := by
  unfold gSee gReachOf gLd gLp mC
  rw [h 7 (by omega), h 12 (by omega), h 24 (by omega), h 9 (by omega), h 25 (by omega), h 41 (by omega), h 10 (by omega)]
theorem gCar_how {M : gM} {l : Nat} (h0 : mA M 46 l = 0) : ∀ n, mA (mCarN M n).1 46 l = 0 ∨ mA (mCarN M n).1 46 l = (if gSee M l then nI 1 else nI 2)
  | 0 => Or.inl h0
  | n + 1 => by
    have ih := gCar_how h0 n
    cases e : gNx (mCarN M n).1 (mN M 23) with
    | none => rw [mCarN_none e]; exact ih
    | some k =>
      rw [mCarN_some e]
      show mA (mCarry _ k) 46 l = 0 ∨ mA (mCarry _ k) 46 l = _
      by_cases ek : l = k
      · subst ek
        rw [mCar46.1, gSee_eq (fun f hf => mCarN_b hf n)]
        exact Or.inr rfl
      · rw [mCar46.2 l ek]; exact ih
