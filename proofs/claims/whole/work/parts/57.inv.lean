/-! ===== the reference: a day ===== -/
theorem uA_comm {M : gM} {f g i j : Nat} {v w : Int32} (h : f ≠ g) : uA (uA M f i v) g j w = uA (uA M g j w) f i v := by
  refine Prod.ext rfl (Prod.ext (funext fun a => funext fun c => ?_) rfl)
  show (if a = g ∧ c = j then w else if a = f ∧ c = i then v else mA M a c) = (if a = f ∧ c = i then v else if a = g ∧ c = j then w else mA M a c)
  by_cases z1 : a = g ∧ c = j
  · rw [if_pos z1, if_neg (fun z => h (z.1.symm.trans z1.1)), if_pos z1]
  · rw [if_neg z1, if_neg z1]
theorem uA_same {M : gM} {f i : Nat} {v w : Int32} : uA (uA M f i v) f i w = uA M f i w := by
  refine Prod.ext rfl (Prod.ext (funext fun a => funext fun c => ?_) rfl)
  show (if a = f ∧ c = i then w else if a = f ∧ c = i then v else mA M a c) = (if a = f ∧ c = i then w else mA M a c)
  by_cases z1 : a = f ∧ c = i
  · rw [if_pos z1, if_pos z1]
  · rw [if_neg z1, if_neg z1, if_neg z1]
theorem gInv_st {M M' : gM} (i : gInv M) (hn : ∀ j, j ≠ 40 → mN M' j = mN M j) (ht : mT M' = mT M) (ha : ∀ f, f < 41 ∨ 47 < f → mA M' f = mA M f) (h41 : ∀ p, p < mN M 8 → gWt 9 (mA M' 41 p) ∧ gWt 2 (mA M' 42 p)) (h43 : ∀ d, d < mN M 11 → gPr M (mA M' 43 d)) (h46 : ∀ k, k < mN M 23 → gWt 2 (mA M' 46 k)) (z42 : ∀ p, mN M 8 ≤ p → mA M' 42 p = nI 0) (z45 : ∀ d, mN M 11 ≤ d → mA M' 45 d = nI 0) (z46 : ∀ k, mN M 23 ≤ k → mA M' 46 k = nI 0) : gInv M' := by
  obtain ⟨⟨b1, b2, b3, b4, b5⟩, ⟨c1, c2, c3, c4⟩, ⟨d1, d2, d3, d4, d5, d6⟩, ⟨e1, e2, e3, e4, e5⟩, z1, z2, z3, z4⟩ := i
  have n6 := hn 6 (by omega)
  have n8 := hn 8 (by omega)
  have n11 := hn 11 (by omega)
  have n17 := hn 17 (by omega)
  have n23 := hn 23 (by omega)
  have hP : ∀ v, gPr M' v ↔ gPr M v := fun v => by unfold gPr; rw [n8]
  have hW : ∀ v, gWho M' v ↔ gWho M v := fun v => by unfold gWho; rw [n8]
  refine ⟨⟨by rw [n6]; exact b1, by rw [n8]; exact b2, by rw [n11]; exact b3, by rw [n17]; exact b4, by rw [n23]; exact b5⟩, ⟨by rw [hn 2 (by omega)]; exact c1, by rw [hn 5 (by omega)]; exact c2, fun d hd => by rw [hn _ (by omega)]; exact c3 d (by rw [← n11]; exact hd), fun e => by rw [hn _ (by omega)]; exact c4 e⟩, ⟨by rw [ha 12 (by omega), n6, n11]; exact d1, by rw [ha 18 (by omega), n6, n17]; exact d2, by rw [ha 19 (by omega), n17]; exact fun e he => (hW _).mpr (d3 e he), fun e k he hk => ?_, by rw [ha 24 (by omega), ha 25 (by omega), n8, n11, n23]; exact d5, fun d hd => (hP _).mpr (h43 d (by rw [← n11]; exact hd))⟩, ⟨by rw [ha 7 (by omega), n6]; exact e1, fun p hp => ?_, fun d j hd hj => ?_, by rw [n23]; exact h46, trivial⟩, fun p hp => ?_, by rw [n11]; exact z45, by rw [n23]; exact z46, fun e he => by rw [hn _ (by omega)]; exact z4 e (by rw [← n17]; exact he)⟩
  · rw [hn _ (by omega)] at hk
    rw [ha 22 (by omega)]
    exact ⟨(hP _).mpr (d4 e k (by rw [← n17]; exact he) hk).1, (hP _).mpr (d4 e k (by rw [← n17]; exact he) hk).2⟩
  · rw [n8] at hp
    rw [ha 9 (by omega)]
    exact ⟨(e2 p hp).1, h41 p hp⟩
  · rw [n11] at hd
    rw [hn _ (by omega)] at hj
    rw [ht]
    exact e3 d j hd hj
  · rw [n8] at hp
    rw [ha 10 (by omega)]
    exact ⟨(z1 p hp).1, z42 p hp⟩
theorem gLd_lt {M : gM} (i : gInv M) {k : Nat} (h : k < mN M 23) : gLd M k < mN M 11 := by
  obtain ⟨⟨d, hd, e⟩, -⟩ := i.l h
  rw [gLd, e, nI_clamp (by have := i.b; omega)]
  exact hd
theorem gInv_log {M : gM} (i : gInv M) {d p : Nat} (h : d < mN M 11) : gInv (mLog M d p) := by
  refine gInv_st i (fun _ _ => rfl) rfl (fun f hf => funext fun j => uA_f (by omega)) (fun p hp => ?_) (fun d' hd => ?_) (fun k hk => ?_) (fun p hp => ?_) (fun d' hd => ?_) (fun k hk => ?_)
  · rw [show mA (mLog M d _) 41 p = mA M 41 p from uA_f (by omega), show mA (mLog M d _) 42 p = mA M 42 p from uA_f (by omega)]
    exact (i.ps hp).2
  · rw [show mA (mLog M d _) 43 d' = mA M 43 d' from uA_f (by omega)]; exact i.p hd
  · rw [show mA (mLog M d _) 46 k = mA M 46 k from uA_f (by omega)]; exact i.2.2.2.1.2.2.2.1 k hk
  · rw [show mA (mLog M d _) 42 p = mA M 42 p from uA_f (by omega)]; exact (i.2.2.2.2.1 p hp).2
  · rw [show mA (mLog M d _) 45 d' = mA M 45 d' from uA_i (by omega)]; exact i.2.2.2.2.2.1 d' hd
  · rw [show mA (mLog M d _) 46 k = mA M 46 k from uA_f (by omega)]; exact i.2.2.2.2.2.2.1 k hk
theorem gInv_don {M : gM} (i : gInv M) {k : Nat} {v w : Int32} (h : k < mN M 23) (hw : gWt 2 w) : gInv (uA (uA M 47 k v) 46 k w) := by
  have e : ∀ f j, f ≠ 46 → f ≠ 47 → mA (uA (uA M 47 k v) 46 k w) f j = mA M f j := fun f j h1 h2 => (uA_f h1).trans (uA_f h2)
  refine gInv_st i (fun _ _ => rfl) rfl (fun f hf => funext fun j => e f j (by omega) (by omega)) (fun p hp => ?_) (fun d' hd => ?_) (fun k' hk => ?_) (fun p hp => ?_) (fun d' hd => ?_) (fun k' hk => ?_)
  · rw [e 41 p (by omega) (by omega), e 42 p (by omega) (by omega)]; exact (i.ps hp).2
  · rw [e 43 d' (by omega) (by omega)]; exact i.p hd
  · by_cases z : k' = k
    · rw [z, show mA (uA (uA M 47 k v) 46 k w) 46 k = w from uA_s]; exact hw
    · rw [show mA (uA (uA M 47 k v) 46 k w) 46 k' = mA M 46 k' from (uA_i z).trans (uA_i z)]; exact i.2.2.2.1.2.2.2.1 k' hk
  · rw [e 42 p (by omega) (by omega)]; exact (i.2.2.2.2.1 p hp).2
  · rw [e 45 d' (by omega) (by omega)]; exact i.2.2.2.2.2.1 d' hd
  · rw [show mA (uA (uA M 47 k v) 46 k w) 46 k' = mA M 46 k' from (uA_i (by omega)).trans (uA_i (by omega))]; exact i.2.2.2.2.2.2.1 k' hk
theorem gInv_carry {M : gM} (i : gInv M) {k : Nat} (h : k < mN M 23) : gInv (mCarry M k) := by
  unfold mCarry
  split
  · exact gInv_log (gInv_don i h (gWt_d (n := 1) (by omega) (by omega))) (gLd_lt i h)
  · exact gInv_don i h (gWt_d (n := 2) (by omega) (by omega))
theorem gInv_carN {M : gM} (i : gInv M) : ∀ n, gInv (mCarN M n).1
  | 0 => i
  | n + 1 => by
    have ih := gInv_carN i n
    cases e : gNx (mCarN M n).1 (mN M 23) with
    | none => rw [mCarN_none e]; exact ih
    | some k => rw [mCarN_some e]; exact gInv_carry ih (by rw [mCarN_n]; exact gNx_lt e)
theorem gInv_day {M : gM} (i : gInv M) {n : Nat} : gInv (uN M 40 n) :=
  gInv_st i (fun j hj => uN_o hj) rfl (fun _ _ => rfl) (fun p hp => (i.ps hp).2) (fun d hd => i.p hd) (fun k hk => i.2.2.2.1.2.2.2.1 k hk) (fun p hp => (i.2.2.2.2.1 p hp).2) (fun d hd => i.2.2.2.2.2.1 d hd) (fun k hk => i.2.2.2.2.2.2.1 k hk)
theorem gInv_warn {M : gM} (i : gInv M) {p : Nat} (h : p < mN M 8) : gInv (mWarn M p) := by
  obtain ⟨-, h41, h42⟩ := i.ps h
  obtain ⟨c, hc, ec⟩ := gWt_of h41 (by omega)
  obtain ⟨w, hw, ew⟩ := gWt_of h42 (by omega)
  unfold mWarn
  split
  · next hlt =>
    have e : ∀ f j, f ≠ 42 → mA (uA M 42 p (mA M 42 p + nI 1)) f j = mA M f j := fun f j h1 => uA_f h1
    rw [ew, nI_add] at hlt
    have hlt2 := (nI_ltI (by omega) (by omega)).mp hlt
    refine gInv_st i (fun _ _ => rfl) rfl (fun f hf => funext fun j => e f j (by omega)) (fun p' hp => ⟨?_, ?_⟩) (fun d' hd => ?_) (fun k' hk => ?_) (fun p' hp => ?_) (fun d' hd => ?_) (fun k' hk => ?_)
    · rw [e 41 p' (by omega)]; exact (i.ps hp).2.1
    · by_cases z : p' = p
      · rw [z, uA_s, ew, nI_add]; exact gWt_d (by omega) (by omega)
      · rw [uA_i z]; exact (i.ps hp).2.2
    · rw [e 43 d' (by omega)]; exact i.p hd
    · rw [e 46 k' (by omega)]; exact i.2.2.2.1.2.2.2.1 k' hk
    · rw [uA_i (by omega)]; exact (i.2.2.2.2.1 p' hp).2
    · rw [e 45 d' (by omega)]; exact i.2.2.2.2.2.1 d' hd
    · rw [e 46 k' (by omega)]; exact i.2.2.2.2.2.2.1 k' hk
  · have e : ∀ v f j, f ≠ 42 → f ≠ 41 → mA (uA (uA M 42 p (nI 0)) 41 p v) f j = mA M f j := fun v f j h1 h2 => (uA_f h2).trans (uA_f h1)
    refine gInv_st i (fun _ _ => rfl) rfl (fun f hf => funext fun j => e _ f j (by omega) (by omega)) (fun p' hp => ⟨?_, ?_⟩) (fun d' hd => ?_) (fun k' hk => ?_) (fun p' hp => ?_) (fun d' hd => ?_) (fun k' hk => ?_)
    · by_cases z : p' = p
      · rw [z, uA_s, ec]
        split
        · next hlt =>
          have c1 : 1 ≤ c := by
            by_cases z0 : c = 0
            · rw [z0] at hlt; exact absurd hlt (by decide)
            · omega
          rw [pk_sub c1]
          exact gWt_d (by omega) (by omega)
        · exact gWt_d (by omega) (by omega)
      · rw [uA_i z, uA_f (by omega)]; exact (i.ps hp).2.1
    · rw [uA_f (by omega)]
      by_cases z : p' = p
      · rw [z, uA_s]; exact gWt_d (by omega) (by omega)
      · rw [uA_i z]; exact (i.ps hp).2.2
    · rw [e _ 43 d' (by omega) (by omega)]; exact i.p hd
    · rw [e _ 46 k' (by omega) (by omega)]; exact i.2.2.2.1.2.2.2.1 k' hk
    · rw [uA_f (by omega), uA_i (by omega)]; exact (i.2.2.2.2.1 p' hp).2
    · rw [e _ 45 d' (by omega) (by omega)]; exact i.2.2.2.2.2.1 d' hd
    · rw [e _ 46 k' (by omega) (by omega)]; exact i.2.2.2.2.2.2.1 k' hk
theorem gInv_lent {M : gM} (i : gInv M) {d : Nat} {v t : Int32} (h : gPr M v) : gInv (uA (uA M 43 d v) 44 d t) := by
  have e : ∀ f j, f ≠ 43 → f ≠ 44 → mA (uA (uA M 43 d v) 44 d t) f j = mA M f j := fun f j h1 h2 => (uA_f h2).trans (uA_f h1)
  refine gInv_st i (fun _ _ => rfl) rfl (fun f hf => funext fun j => e f j (by omega) (by omega)) (fun p hp => ?_) (fun d' hd => ?_) (fun k' hk => ?_) (fun p hp => ?_) (fun d' hd => ?_) (fun k' hk => ?_)
  · rw [e 41 p (by omega) (by omega), e 42 p (by omega) (by omega)]; exact (i.ps hp).2
  · rw [uA_f (by omega)]
    by_cases z : d' = d
    · rw [z, uA_s]; exact h
    · rw [uA_i z]; exact i.p hd
  · rw [e 46 k' (by omega) (by omega)]; exact i.2.2.2.1.2.2.2.1 k' hk
  · rw [e 42 p (by omega) (by omega)]; exact (i.2.2.2.2.1 p hp).2
  · rw [e 45 d' (by omega) (by omega)]; exact i.2.2.2.2.2.1 d' hd
  · rw [e 46 k' (by omega) (by omega)]; exact i.2.2.2.2.2.2.1 k' hk
theorem gInv_ret {M : gM} (i : gInv M) {d : Nat} (h : d < mN M 11) : gInv (mRet M d) := by
  unfold mRet
  split
  · next hc =>
    obtain ⟨p, hp, e⟩ := (i.p h).resolve_left hc.1
    rw [e, nI_clamp (by have := i.b; omega)]
    exact gInv_lent (gInv_warn i hp) (Or.inl rfl)
  · exact i
theorem gInv_retN {M : gM} (i : gInv M) : ∀ n, n ≤ mN M 11 → gInv (mRetN M n)
  | 0, _ => i
  | n + 1, h => gInv_ret (gInv_retN i n (by omega)) (by rw [mRetN_n]; omega)
theorem gInv_mDay {M : gM} (i : gInv M) : gInv (mDay M) := gInv_retN (gInv_day (gInv_carN i _)) _ (by show mN M 11 ≤ mN (mCarN M (3 * gClk M)).1 11; rw [mCarN_n]; exact Nat.le_refl _)
theorem gInv_days {M : gM} (i : gInv M) : ∀ n, gInv (mDays M n).1
  | 0 => i
  | n + 1 => gInv_mDay (gInv_days i n)
