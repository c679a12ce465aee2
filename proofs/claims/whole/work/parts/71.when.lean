/-! ===== when a letter arrives: who is late, and the answer ===== -/
/-- no loan is overdue -/
def gDue (M : gM) : Prop := ∀ d, d < mN M 11 → ¬ mA M 43 d = -1 → ¬ mA M 44 d < nI (mN M 40)
def gLt1 (M : gM) (p : Nat) (r : Nat → Bool) : Nat := gct (fun d => r d && decide (mA M 43 d = nI p)) (mN M 11)
/-- after the loans of r have come back -/
def gEf (M N : gM) (r : Nat → Bool) : Prop := (∀ d, d < mN M 11 → (r d = false ∧ mA N 43 d = mA M 43 d ∧ mA N 44 d = mA M 44 d) ∨ (r d = true ∧ mA N 43 d = -1 ∧ ¬ mA M 43 d = -1)) ∧ ∀ p a b, p < mN M 8 → a ≤ 2 → b ≤ 9 → mA M 42 p = nI a → mA M 41 p = nI b → mA N 42 p = nI ((a + gLt1 M p r) % 3) ∧ mA N 41 p = nI (b - (a + gLt1 M p r) / 3)
theorem gLess1 : ∀ b : Nat, b ≤ 9 → (if nI 0 < nI b - nI 1 then nI b - nI 1 else nI 0) = nI (b - 1) := by
  intro b hb
  match b, hb with
  | 0, _ => decide
  | 1, _ => decide
  | 2, _ => decide
  | 3, _ => decide
  | 4, _ => decide
  | 5, _ => decide
  | 6, _ => decide
  | 7, _ => decide
  | 8, _ => decide
  | 9, _ => decide
  | b + 10, h => omega
theorem gWarn_at {N : gM} {p a b : Nat} (ha : a ≤ 2) (hb : b ≤ 9) (h1 : mA N 42 p = nI a) (h2 : mA N 41 p = nI b) : mA (mWarn N p) 42 p = nI ((a + 1) % 3) ∧ mA (mWarn N p) 41 p = nI (b - (a + 1) / 3) ∧ (∀ q, q ≠ p → mA (mWarn N p) 42 q = mA N 42 q ∧ mA (mWarn N p) 41 q = mA N 41 q) ∧ ∀ f, f ≠ 41 → f ≠ 42 → mA (mWarn N p) f = mA N f := by
  unfold mWarn
  rw [h1, h2, nI_add]
  have hlt : nI (a + 1) < nI 3 ↔ a + 1 < 3 := by
    rw [Int32.lt_iff_toInt_lt, nI_toInt (by omega), nI_toInt (by omega)]
    omega
  split
  · next h =>
    have h3 := hlt.mp h
    refine ⟨?_, ?_, fun q hq => ⟨uA_i hq, uA_f (by omega)⟩, fun f q1 q2 => funext fun j => uA_f q2⟩
    · rw [uA_s, Nat.mod_eq_of_lt h3]
    · rw [uA_f (by omega), h2, Nat.div_eq_of_lt h3]; rfl
  · next h =>
    have h3 : a = 2 := by have h4 : ¬ a + 1 < 3 := fun z => h (hlt.mpr z); omega
    subst h3
    refine ⟨?_, ?_, fun q hq => ⟨(uA_f (by omega)).trans (uA_i hq), (uA_i hq).trans (uA_f (by omega))⟩, fun f q1 q2 => funext fun j => (uA_f q1).trans (uA_f q2)⟩
    · rw [uA_f (by omega), uA_s]
    · rw [uA_s]; exact gLess1 b hb
theorem gLt1_up {M : gM} {p x : Nat} {r r' : Nat → Bool} (hx : x < mN M 11) (h1 : r x = false) (h2 : r' x = true) (h3 : ∀ d, d < mN M 11 → d ≠ x → r' d = r d) : gLt1 M p r' = gLt1 M p r + (if mA M 43 x = nI p then 1 else 0) := by
  unfold gLt1
  split
  · next h =>
    refine gct_flip (x := x) hx (by simp [h1]) (by simp [h2, h]) (fun d hd hne => by show (r' d && _) = (r d && _); rw [h3 d hd hne])
  · next h =>
    refine gct_cong (fun d hd => ?_)
    show (r' d && _) = (r d && _)
    by_cases e : d = x
    · subst e; simp [h]
    · rw [h3 d hd e]
theorem gEf_cong {M N : gM} {r r' : Nat → Bool} (h : gEf M N r) (e : ∀ d, d < mN M 11 → r' d = r d) : gEf M N r' := by
  have hL : ∀ p, gLt1 M p r' = gLt1 M p r := fun p => gct_cong (fun d hd => by show (r' d && _) = (r d && _); rw [e d hd])
  refine ⟨fun d hd => by rw [e d hd]; exact h.1 d hd, fun p a b h1 h2 h3 h4 h5 => ?_⟩
  rw [hL]
  exact h.2 p a b h1 h2 h3 h4 h5
theorem gEf_same {M N N' : gM} {r : Nat → Bool} (h : gEf M N r) (e : ∀ f, f = 41 ∨ f = 42 ∨ f = 43 ∨ f = 44 → mA N' f = mA N f) : gEf M N' r := by
  refine ⟨fun d hd => by rw [e 43 (by omega), e 44 (by omega)]; exact h.1 d hd, fun p a b h1 h2 h3 h4 h5 => ?_⟩
  rw [e 42 (by omega), e 41 (by omega)]
  exact h.2 p a b h1 h2 h3 h4 h5
/-- one loan comes back -/
theorem gEf_ret {M N : gM} {r : Nat → Bool} {d : Nat} (i : gInv M) (h : gEf M N r) (hd : d < mN M 11) (hc : ¬ mA N 43 d = -1 ∧ mA N 44 d < nI (mN N 40)) : gEf M (mRet N d) (fun x => if x = d then true else r x) := by
  obtain ⟨q1, q2⟩ := h
  rcases q1 d hd with ⟨w1, w2, w3⟩ | ⟨w1, w2, w3⟩
  · have hM : ¬ mA M 43 d = -1 := by rw [← w2]; exact hc.1
    obtain ⟨p, hp, ep⟩ := (i.p hd).resolve_left hM
    have ec : (mA N 43 d).toNatClampNeg = p := by rw [w2, ep, nI_clamp (by have := i.b; omega)]
    have e9 : mRet N d = mBack (mWarn N p) d := by
      unfold mRet
      rw [if_pos hc, ec]
    rw [e9]
    obtain ⟨-, g41, g42⟩ := i.ps hp
    obtain ⟨b0, hb0, eb0⟩ := gWt_of g41 (by omega)
    obtain ⟨a0, ha0, ea0⟩ := gWt_of g42 (by omega)
    obtain ⟨z1, z2⟩ := q2 p a0 b0 hp ha0 hb0 ea0 eb0
    obtain ⟨y1, y2, y3, y4⟩ := gWarn_at (N := N) (by have := Nat.mod_lt (a0 + gLt1 M p r) (show 0 < 3 by omega); omega) (by omega) z1 z2
    have up : ∀ p', gLt1 M p' (fun x => if x = d then true else r x) = gLt1 M p' r + (if mA M 43 d = nI p' then 1 else 0) := fun p' => gLt1_up hd w1 (if_pos rfl) (fun x _ hne => if_neg hne)
    refine ⟨fun x hx => ?_, fun p' a b h1 h2 h3 h4 h5 => ?_⟩
    · by_cases ex : x = d
      · subst ex
        exact Or.inr ⟨if_pos rfl, (uA_f (by omega)).trans uA_s, hM⟩
      · rw [show mA (mBack (mWarn N p) d) 43 x = mA N 43 x from (uA_f (by omega)).trans ((uA_i ex).trans (congrFun (y4 43 (by omega) (by omega)) x)), show mA (mBack (mWarn N p) d) 44 x = mA N 44 x from (uA_i ex).trans ((uA_f (by omega)).trans (congrFun (y4 44 (by omega) (by omega)) x))]
        show ((if x = d then true else r x) = false ∧ _) ∨ ((if x = d then true else r x) = true ∧ _)
        rw [if_neg ex]
        exact q1 x hx
    · rw [show mA (mBack (mWarn N p) d) 42 p' = mA (mWarn N p) 42 p' from (uA_f (by omega)).trans (uA_f (by omega)), show mA (mBack (mWarn N p) d) 41 p' = mA (mWarn N p) 41 p' from (uA_f (by omega)).trans (uA_f (by omega)), up p']
      by_cases ep' : p' = p
      · subst ep'
        have hN8 := i.b.2.1
        have e1 : a0 = a := (nI_eq (by omega) (by omega)).mp (ea0.symm.trans h4)
        have e2 : b0 = b := (nI_eq (by omega) (by omega)).mp (eb0.symm.trans h5)
        subst e1; subst e2
        rw [if_pos ep, y1, y2]
        refine ⟨congrArg nI ?_, congrArg nI ?_⟩
        · omega
        · omega
      · have hne : ¬ mA M 43 d = nI p' := fun z => ep' (by have := i.b; exact ((nI_eq (by omega) (by omega)).mp (ep.symm.trans z)).symm)
        rw [if_neg hne, (y3 p' ep').1, (y3 p' ep').2]
        exact q2 p' a b h1 h2 h3 h4 h5
  · exact absurd w2 hc.1
/-- the overdue ones at day t -/
def gOv (M : gM) (t : Nat) : Nat → Bool := fun d => decide (¬ mA M 43 d = -1 ∧ mA M 44 d < nI t)
theorem gEf_N {M N : gM} {t : Nat} (i : gInv M) (ht : t + 1 < 2 ^ 31) (h : gEf M N (gOv M t)) (hn : mN N 40 = t + 1) : ∀ n, n ≤ mN M 11 → gEf M (mRetN N n) (fun d => if d < n then gOv M (t + 1) d else gOv M t d)
  | 0, _ => gEf_cong h (fun d _ => if_neg (Nat.not_lt_zero d))
  | n + 1, hle => by
    have ih := gEf_N i ht h hn n (by omega)
    have h40 : mN (mRetN N n) 40 = t + 1 := (congrFun (mRetN_n N n) 40).trans hn
    show gEf M (mRet (mRetN N n) n) _
    have hlt9 : nI t ≤ nI (t + 1) := (nI_leI (by omega) (by omega)).mpr (by omega)
    have mono : gOv M t n = true → gOv M (t + 1) n = true := fun z => by
      obtain ⟨z1, z2⟩ := of_decide_eq_true z
      refine decide_eq_true ⟨z1, ?_⟩
      rw [Int32.lt_iff_toInt_lt] at z2 ⊢
      rw [Int32.le_iff_toInt_le] at hlt9
      omega
    have hr : ¬ n < n := Nat.lt_irrefl n
    by_cases c : ¬ mA (mRetN N n) 43 n = -1 ∧ mA (mRetN N n) 44 n < nI (mN (mRetN N n) 40)
    · refine gEf_cong (gEf_ret i ih (by omega) c) (fun d hd => ?_)
      by_cases e : d = n
      · subst e
        rw [if_pos (by omega), if_pos rfl]
        rcases ih.1 d (by omega) with ⟨w1, w2, w3⟩ | ⟨w1, w2, w3⟩
        · rw [h40] at c
          exact decide_eq_true ⟨by rw [← w2]; exact c.1, by rw [← w3]; exact c.2⟩
        · exact absurd w2 c.1
      · rw [if_neg e]
        by_cases e2 : d < n
        · rw [if_pos e2, if_pos (by omega)]
        · rw [if_neg e2, if_neg (by omega)]
    · have e9 : mRet (mRetN N n) n = mRetN N n := if_neg c
      rw [e9]
      refine gEf_cong ih (fun d hd => ?_)
      by_cases e : d = n
      · subst e
        rw [if_pos (by omega), if_neg hr]
        rcases ih.1 d (by omega) with ⟨w1, w2, w3⟩ | ⟨w1, w2, w3⟩
        · have w1 : gOv M t d = false := (if_neg hr).symm.trans w1
          rw [w1]
          refine decide_eq_false fun z => c ⟨by rw [w2]; exact z.1, by rw [w3, h40]; exact z.2⟩
        · have w1 : gOv M t d = true := (if_neg hr).symm.trans w1
          rw [w1]
          exact mono w1
      · by_cases e2 : d < n
        · rw [if_pos e2, if_pos (by omega)]
        · rw [if_neg e2, if_neg (by omega)]
theorem gEf_days {M : gM} (i : gInv M) (hd : gDue M) : ∀ v, mN M 40 + v + 1 < 2 ^ 31 → gEf M (mDays M v).1 (gOv M (mN M 40 + v))
  | 0, _ => by
    have h0 : ∀ d, d < mN M 11 → gOv M (mN M 40 + 0) d = false := fun d hdd => decide_eq_false fun z => hd d hdd z.1 z.2
    refine ⟨fun d hdd => Or.inl ⟨h0 d hdd, rfl, rfl⟩, fun p a b h1 h2 h3 h4 h5 => ?_⟩
    have e : gLt1 M p (gOv M (mN M 40 + 0)) = 0 := gct_zero.mpr (fun d hdd => by show (gOv M (mN M 40 + 0) d && _) = false; rw [h0 d hdd]; rfl)
    rw [e]
    refine ⟨h4.trans (congrArg nI ?_), h5.trans (congrArg nI ?_)⟩ <;> omega
  | v + 1, hv => by
    have ih := gEf_days i hd v (by omega)
    rw [mDays_s]
    show gEf M (mDay (mDays M v).1) _
    unfold mDay
    have h1 : gEf M (uN (mCarN (mDays M v).1 (3 * gClk (mDays M v).1)).1 40 (mN (mDays M v).1 40 + 1)) (gOv M (mN M 40 + v)) := gEf_same ih (fun f hf => mCarN_b (by omega) _)
    have h2 := gEf_N i (by omega) h1 (by rw [uN_s, mDays_40]) (mN M 11) (Nat.le_refl _)
    rw [mDays_o (i := 11) (by omega)]
    exact gEf_cong h2 (fun d hdd => (if_pos hdd).symm)
theorem gDiv3 : ∀ x : Nat, x ≤ 40 → nI x / nI 3 = nI (x / 3) := by
  intro x hx
  have h : ∀ y : Fin 41, nI y.1 / nI 3 = nI (y.1 / 3) := by decide +kernel
  exact h ⟨x, by omega⟩
theorem gLessN : ∀ b q : Nat, b ≤ 9 → q ≤ 13 → (if nI 0 < nI b - nI q then nI b - nI q else nI 0) = nI (b - q) := by
  intro b q hb hq
  have h : ∀ (x : Fin 10) (y : Fin 14), (if nI 0 < nI x.1 - nI y.1 then nI x.1 - nI y.1 else nI 0) = nI (x.1 - y.1) := by decide +kernel
  exact h ⟨b, by omega⟩ ⟨q, by omega⟩
theorem gClr_days {M : gM} (i : gInv M) (hd : gDue M) {p v : Nat} (hp : p < mN M 8) (hv : mN M 40 + v + 1 < 2 ^ 31) : mA (mDays M v).1 41 p = gClr M p (nI v) := by
  obtain ⟨-, g41, g42⟩ := i.ps hp
  obtain ⟨b, hb, eb⟩ := gWt_of g41 (by omega)
  obtain ⟨a, ha, ea⟩ := gWt_of g42 (by omega)
  have h := ((gEf_days i hd v hv).2 p a b hp ha hb ea eb).2
  have eL : gLt1 M p (gOv M (mN M 40 + v)) = gct (gLateP M p (nI (mN M 40) + nI v)) (mN M 11) := by
    rw [nI_add]
    refine gct_cong (fun d _ => ?_)
    show (decide (¬ mA M 43 d = -1 ∧ mA M 44 d < nI (mN M 40 + v)) && decide (mA M 43 d = nI p)) = decide (mA M 43 d = nI p ∧ mA M 44 d < nI (mN M 40 + v))
    by_cases e : mA M 43 d = nI p
    · have hne : ¬ nI p = -1 := by
        have := i.b
        intro z
        have hz := congrArg Int32.toInt z
        rw [nI_toInt (by omega)] at hz
        have : (-1 : Int32).toInt = -1 := by decide
        omega
      simp [e, hne]
    · simp [e]
  have hL := gct_le (gLateP M p (nI (mN M 40) + nI v)) (mN M 11)
  have hB := i.b
  rw [eL] at h
  rw [h]
  unfold gClr
  rw [eb, ea, nI_add a, gDiv3 _ (by omega), gLessN b _ hb (by omega)]
/-- the days lived through give the count's answer -/
theorem gArr_of {M : gM} (i : gInv M) (hd : gDue M) (h40 : mN M 40 ≤ 1000000) {l u : Nat} (hl : l < mN M 23) (hu : u ≤ 40) (h1 : ∀ v, v < u → mA (mDays M v).1 46 l = 0) (h2 : ¬ mA (mDays M u).1 46 l = 0 ∨ u = 40) : (if mA (mDays M u).1 46 l = nI 1 then nI u else -1) = gArr M l := by
  have hB := i.b
  obtain ⟨s, hs, es⟩ := gWt_of (i.2.2.2.1.2.2.2.1 l hl) (by omega)
  by_cases h0 : mA M 46 l = 0
  · have hw := gCar_when (M := M) hl h0
    have hn1 : ¬ mA M 46 l = nI 1 := by rw [h0]; decide
    have hn2 : ¬ mA M 46 l = nI 2 := by rw [h0]; decide
    have hr := gAh_n (M := M) hl
    rw [show gArr M l = _ from if_neg hn1]
    by_cases hc : gClk M = 0
    · rw [if_pos (c := mA M 46 l = nI 2 ∨ gClk M = 0) (Or.inr hc)]
      have hz : mA (mDays M u).1 46 l = 0 := (hw u).mpr (by rw [hc]; omega)
      rw [hz, if_neg (by decide)]
    · rw [if_neg (c := mA M 46 l = nI 2 ∨ gClk M = 0) (fun z => z.elim hn2 hc)]
      have e3 : u = gDays M l + 1 := by
        have hk : 0 < 3 * gClk M := by omega
        have hle : ∀ v, v * (3 * gClk M) ≤ gRk1 M l ↔ v ≤ gDays M l := fun v => (Nat.le_div_iff_mul_le hk).symm
        have hd40 : gDays M l < 40 := by
          have : gDays M l ≤ gRk1 M l := Nat.div_le_self _ _
          omega
        have a1 : ¬ gDays M l + 1 < u := fun z => by
          have := (hle _).mp ((hw _).mp (h1 _ z))
          omega
        have a2 : gDays M l < u := by
          rcases h2 with h2 | h2
          · exact Nat.not_le.mp fun z => h2 ((hw u).mpr ((hle u).mpr z))
          · omega
        omega
      subst e3
      have hp0 : mA (mDays M (gDays M l)).1 46 l = 0 := h1 _ (by omega)
      have hnz : ¬ mA (mDays M (gDays M l + 1)).1 46 l = 0 := by
        rcases h2 with h2 | h2
        · exact h2
        · intro z
          have hk : 0 < 3 * gClk M := by omega
          have := (Nat.le_div_iff_mul_le hk).mpr ((hw _).mp z)
          have : gDays M l = gRk1 M l / (3 * gClk M) := rfl
          omega
      have hday : mA (mDays M (gDays M l + 1)).1 46 l = mA (mCarN (mDays M (gDays M l)).1 (3 * gClk M)).1 46 l := by
        rw [mDays_s]
        show mA (mDay _) 46 l = _
        rw [mDay_46, gClk_days]
      have hhow := (gCar_how hp0 (3 * gClk M)).resolve_left (by rw [← hday]; exact hnz)
      rw [hday, hhow]
      obtain ⟨⟨d9, hd9, ed9⟩, ⟨p, hp, ep⟩⟩ := i.l hl
      have elp : gLp M l = p := by unfold gLp; rw [ep, nI_clamp (by omega)]
      have esee : gSee (mDays M (gDays M l)).1 l = decide (mA M 7 (mC M (gLd M l)) ≤ gReach (mA M 9 (gLp M l)) (gClr M (gLp M l) (nI (gDays M l))) (gBit (mA M 10 (gLp M l)) (mC M (gLd M l)))) := by
        have hcl := gClr_days i hd (p := gLp M l) (v := gDays M l) (by rw [elp]; exact hp) (by have : gDays M l ≤ gRk1 M l := Nat.div_le_self _ _; omega)
        have q : ∀ f, f < 41 → mA (mDays M (gDays M l)).1 f = mA M f := fun f hf => (mDays_a hf _).1
        rw [← hcl]
        unfold gSee gReachOf gLd gLp mC
        rw [q 7 (by omega), q 12 (by omega), q 24 (by omega), q 9 (by omega), q 25 (by omega), q 10 (by omega)]
      rw [esee]
      by_cases c9 : mA M 7 (mC M (gLd M l)) ≤ gReach (mA M 9 (gLp M l)) (gClr M (gLp M l) (nI (gDays M l))) (gBit (mA M 10 (gLp M l)) (mC M (gLd M l)))
      · rw [if_pos c9, decide_eq_true c9, if_pos rfl, if_pos rfl]
      · rw [if_neg c9, decide_eq_false c9, if_neg Bool.false_ne_true, if_neg (by decide)]
  · have e0 : u = 0 := by
      refine Classical.byContradiction fun z => h0 (h1 0 (by omega))
    subst e0
    show (if mA M 46 l = nI 1 then nI 0 else -1) = gArr M l
    unfold gArr
    by_cases hn1 : mA M 46 l = nI 1
    · rw [if_pos hn1, if_pos hn1]
    · have hn2 : mA M 46 l = nI 2 := by
        rcases (show s = 0 ∨ s = 1 ∨ s = 2 by omega) with rfl | rfl | rfl
        · exact absurd es h0
        · exact absurd es hn1
        · exact es
      rw [if_neg hn1, if_neg hn1, if_pos (Or.inl hn2)]
