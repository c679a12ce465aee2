/-! ===== days ===== -/

theorem gMailA_pers {d0 : Nat × Nat} {S S3 : gS} {x : Nat} {ad : Nat → Nat → Nat} {M : gM} {p0 : Nat} {M9 : gM} (mn : mN M9 = mN M) (ma : ∀ f j, (f ≠ 41 ∧ f ≠ 42) ∨ j ≠ p0 → mA M9 f j = mA M f j) (mt : mT M9 = mT M) (hq : gPers S3 (ad 1 p0) p0 (mA M9 9 p0) (mA M9 41 p0) (mA M9 10 p0) (mA M9 42 p0)) (h : gMail d0 S x ad M) (F : gFr (fun k => k ≠ 8 + 32 * p0) S S3) : gMail d0 S3 x ad M9 ∧ gFr gMk S S3 := by
  obtain ⟨hr, ⟨l0, l1, l2, l3, l4⟩, ht, hcs, hps, hds, hes, hls⟩ := id h
  have hN := l1.2.2.1
  refine ⟨⟨?_, ⟨?_, ?_, ?_, ?_, ?_⟩, ?_, ?_, ?_, ?_, ?_, ?_⟩, F.mono (fun k (z : gMk k) => by unfold gMk at z; first | omega | (dsimp only; omega))⟩
  · exact gRoot_mono hr F (by first | omega | (dsimp only; omega)) rfl rfl (congrFun mn 2) (congrFun mn 5) (ma 3 0 (Or.inl (by omega))) (congrFun mn 40)
  · rw [mn]; exact gLst_mono l0 F (by first | omega | (dsimp only; omega)) (by first | omega | (dsimp only; omega)) (fun _ _ => rfl)
  · rw [mn]; exact gLst_mono l1 F (by first | omega | (dsimp only; omega)) (by first | omega | (dsimp only; omega)) (fun _ _ => rfl)
  · rw [mn]; exact gLst_mono l2 F (by first | omega | (dsimp only; omega)) (by first | omega | (dsimp only; omega)) (fun _ _ => rfl)
  · rw [mn]; exact gLst_mono l3 F (by first | omega | (dsimp only; omega)) (by first | omega | (dsimp only; omega)) (fun _ _ => rfl)
  · rw [mn]; exact gLst_mono l4 F (by first | omega | (dsimp only; omega)) (by first | omega | (dsimp only; omega)) (fun _ _ => rfl)
  · exact gTape_mono ht F (by first | omega | (dsimp only; omega)) (by first | omega | (dsimp only; omega)) rfl (congrFun mn 2) (congrFun mn 5) (funext fun j => ma 1 j (Or.inl (by omega))) (funext fun j => ma 4 j (Or.inl (by omega)))
  · rw [mn, show mA M9 7 = mA M 7 from funext fun j => ma 7 j (Or.inl (by omega))]; exact fun i hi => gCase_mono (hcs i hi) F (by first | omega | (dsimp only; omega))
  · intro i hi
    by_cases e : i = p0
    · subst e; exact hq
    · rw [ma 9 i (Or.inl (by omega)), ma 41 i (Or.inr e), ma 10 i (Or.inl (by omega)), ma 42 i (Or.inr e)]
      exact gPers_mono (hps i (by rw [mn] at hi; exact hi)) F (by first | omega | (dsimp only; omega))
  · rw [mn]; exact fun d hd => gDoc_mono (hds d hd) F (by first | omega | (dsimp only; omega)) (by first | omega | (dsimp only; omega)) (by first | omega | (dsimp only; omega)) (by first | omega | (dsimp only; omega)) hN rfl rfl rfl rfl (fun _ _ => rfl) (fun _ _ => rfl) (Nat.le_of_eq (congrFun mn 6).symm) (Nat.le_of_eq (congrFun mn 8).symm) (ma 12 d (Or.inl (by omega))) (ma 16 d (Or.inl (by omega))) (ma 43 d (Or.inl (by omega))) (ma 44 d (Or.inl (by omega))) (ma 45 d (Or.inl (by omega))) (congrFun mn _) (congrFun (congrFun mt 13) d) (congrFun (congrFun mt 14) d) (congrFun (congrFun mt 15) d)
  · rw [mn]; exact fun e he => gExh_mono (hes e he) F (by first | omega | (dsimp only; omega)) (by first | omega | (dsimp only; omega)) (by first | omega | (dsimp only; omega)) (fun k hk => by first | omega | (dsimp only; omega)) hN rfl rfl (fun _ => rfl) (fun _ _ => rfl) (fun _ _ => rfl) (Nat.le_of_eq (congrFun mn 6).symm) (Nat.le_of_eq (congrFun mn 8).symm) (ma 18 e (Or.inl (by omega))) (ma 19 e (Or.inl (by omega))) (ma 20 e (Or.inl (by omega))) (congrFun mn _) (fun _ _ => ma 22 _ (Or.inl (by omega)))
  · rw [mn]; exact fun k hk => gLtr_mono (hls k hk) F (by first | omega | (dsimp only; omega)) rfl (fun _ _ => rfl) (fun _ _ => rfl) (Nat.le_of_eq (congrFun mn 11).symm) (Nat.le_of_eq (congrFun mn 8).symm) (ma 24 k (Or.inl (by omega))) (ma 25 k (Or.inl (by omega))) (ma 26 k (Or.inl (by omega))) (ma 46 k (Or.inl (by omega))) (ma 47 k (Or.inl (by omega)))

theorem gMailA_doc {d0 : Nat × Nat} {S S3 : gS} {x : Nat} {ad : Nat → Nat → Nat} {M : gM} {d9 : Nat} {M9 : gM} (mn : mN M9 = mN M) (ma : ∀ f j, (f ≠ 43 ∧ f ≠ 44 ∧ f ≠ 45) ∨ j ≠ d9 → mA M9 f j = mA M f j) (mt : mT M9 = mT M) (hq : gDoc S3 ad M9 d9) (h : gMail d0 S x ad M) (F : gFr (fun k => k ≠ 3 + 32 * d9) S S3) : gMail d0 S3 x ad M9 ∧ gFr gMk S S3 := by
  obtain ⟨hr, ⟨l0, l1, l2, l3, l4⟩, ht, hcs, hps, hds, hes, hls⟩ := id h
  have hN := l1.2.2.1
  refine ⟨⟨?_, ⟨?_, ?_, ?_, ?_, ?_⟩, ?_, ?_, ?_, ?_, ?_, ?_⟩, F.mono (fun k (z : gMk k) => by unfold gMk at z; first | omega | (dsimp only; omega))⟩
  · exact gRoot_mono hr F (by first | omega | (dsimp only; omega)) rfl rfl (congrFun mn 2) (congrFun mn 5) (ma 3 0 (Or.inl (by omega))) (congrFun mn 40)
  · rw [mn]; exact gLst_mono l0 F (by first | omega | (dsimp only; omega)) (by first | omega | (dsimp only; omega)) (fun _ _ => rfl)
  · rw [mn]; exact gLst_mono l1 F (by first | omega | (dsimp only; omega)) (by first | omega | (dsimp only; omega)) (fun _ _ => rfl)
  · rw [mn]; exact gLst_mono l2 F (by first | omega | (dsimp only; omega)) (by first | omega | (dsimp only; omega)) (fun _ _ => rfl)
  · rw [mn]; exact gLst_mono l3 F (by first | omega | (dsimp only; omega)) (by first | omega | (dsimp only; omega)) (fun _ _ => rfl)
  · rw [mn]; exact gLst_mono l4 F (by first | omega | (dsimp only; omega)) (by first | omega | (dsimp only; omega)) (fun _ _ => rfl)
  · exact gTape_mono ht F (by first | omega | (dsimp only; omega)) (by first | omega | (dsimp only; omega)) rfl (congrFun mn 2) (congrFun mn 5) (funext fun j => ma 1 j (Or.inl (by omega))) (funext fun j => ma 4 j (Or.inl (by omega)))
  · rw [mn, show mA M9 7 = mA M 7 from funext fun j => ma 7 j (Or.inl (by omega))]; exact fun i hi => gCase_mono (hcs i hi) F (by first | omega | (dsimp only; omega))
  · rw [mn, show mA M9 9 = mA M 9 from funext fun j => ma 9 j (Or.inl (by omega)), show mA M9 41 = mA M 41 from funext fun j => ma 41 j (Or.inl (by omega)), show mA M9 10 = mA M 10 from funext fun j => ma 10 j (Or.inl (by omega)), show mA M9 42 = mA M 42 from funext fun j => ma 42 j (Or.inl (by omega))]; exact fun i hi => gPers_mono (hps i hi) F (by first | omega | (dsimp only; omega))
  · intro i hi
    by_cases e : i = d9
    · subst e; exact hq
    · exact gDoc_mono (hds i (by rw [mn] at hi; exact hi)) F (by first | omega | (dsimp only; omega)) (by first | omega | (dsimp only; omega)) (by first | omega | (dsimp only; omega)) (by first | omega | (dsimp only; omega)) hN rfl rfl rfl rfl (fun _ _ => rfl) (fun _ _ => rfl) (Nat.le_of_eq (congrFun mn 6).symm) (Nat.le_of_eq (congrFun mn 8).symm) (ma 12 i (Or.inl (by omega))) (ma 16 i (Or.inl (by omega))) (ma 43 i (Or.inr e)) (ma 44 i (Or.inr e)) (ma 45 i (Or.inr e)) (congrFun mn _) (congrFun (congrFun mt 13) i) (congrFun (congrFun mt 14) i) (congrFun (congrFun mt 15) i)
  · rw [mn]; exact fun e he => gExh_mono (hes e he) F (by first | omega | (dsimp only; omega)) (by first | omega | (dsimp only; omega)) (by first | omega | (dsimp only; omega)) (fun k hk => by first | omega | (dsimp only; omega)) hN rfl rfl (fun _ => rfl) (fun _ _ => rfl) (fun _ _ => rfl) (Nat.le_of_eq (congrFun mn 6).symm) (Nat.le_of_eq (congrFun mn 8).symm) (ma 18 e (Or.inl (by omega))) (ma 19 e (Or.inl (by omega))) (ma 20 e (Or.inl (by omega))) (congrFun mn _) (fun _ _ => ma 22 _ (Or.inl (by omega)))
  · rw [mn]; exact fun k hk => gLtr_mono (hls k hk) F (by first | omega | (dsimp only; omega)) rfl (fun _ _ => rfl) (fun _ _ => rfl) (Nat.le_of_eq (congrFun mn 11).symm) (Nat.le_of_eq (congrFun mn 8).symm) (ma 24 k (Or.inl (by omega))) (ma 25 k (Or.inl (by omega))) (ma 26 k (Or.inl (by omega))) (ma 46 k (Or.inl (by omega))) (ma 47 k (Or.inl (by omega)))

theorem gMailA_ltr {d0 : Nat × Nat} {S S3 : gS} {x : Nat} {ad : Nat → Nat → Nat} {M : gM} {k0 : Nat} {M9 : gM} (mn : mN M9 = mN M) (ma : ∀ f j, (f ≠ 46 ∧ f ≠ 47) ∨ j ≠ k0 → mA M9 f j = mA M f j) (mt : mT M9 = mT M) (hq : gLtr S3 ad M9 k0) (h : gMail d0 S x ad M) (F : gFr (fun k => k ≠ 6 + 32 * k0) S S3) : gMail d0 S3 x ad M9 ∧ gFr gMk S S3 := by
  obtain ⟨hr, ⟨l0, l1, l2, l3, l4⟩, ht, hcs, hps, hds, hes, hls⟩ := id h
  have hN := l1.2.2.1
  refine ⟨⟨?_, ⟨?_, ?_, ?_, ?_, ?_⟩, ?_, ?_, ?_, ?_, ?_, ?_⟩, F.mono (fun k (z : gMk k) => by unfold gMk at z; first | omega | (dsimp only; omega))⟩
  · exact gRoot_mono hr F (by first | omega | (dsimp only; omega)) rfl rfl (congrFun mn 2) (congrFun mn 5) (ma 3 0 (Or.inl (by omega))) (congrFun mn 40)
  · rw [mn]; exact gLst_mono l0 F (by first | omega | (dsimp only; omega)) (by first | omega | (dsimp only; omega)) (fun _ _ => rfl)
  · rw [mn]; exact gLst_mono l1 F (by first | omega | (dsimp only; omega)) (by first | omega | (dsimp only; omega)) (fun _ _ => rfl)
  · rw [mn]; exact gLst_mono l2 F (by first | omega | (dsimp only; omega)) (by first | omega | (dsimp only; omega)) (fun _ _ => rfl)
  · rw [mn]; exact gLst_mono l3 F (by first | omega | (dsimp only; omega)) (by first | omega | (dsimp only; omega)) (fun _ _ => rfl)
  · rw [mn]; exact gLst_mono l4 F (by first | omega | (dsimp only; omega)) (by first | omega | (dsimp only; omega)) (fun _ _ => rfl)
  · exact gTape_mono ht F (by first | omega | (dsimp only; omega)) (by first | omega | (dsimp only; omega)) rfl (congrFun mn 2) (congrFun mn 5) (funext fun j => ma 1 j (Or.inl (by omega))) (funext fun j => ma 4 j (Or.inl (by omega)))
  · rw [mn, show mA M9 7 = mA M 7 from funext fun j => ma 7 j (Or.inl (by omega))]; exact fun i hi => gCase_mono (hcs i hi) F (by first | omega | (dsimp only; omega))
  · rw [mn, show mA M9 9 = mA M 9 from funext fun j => ma 9 j (Or.inl (by omega)), show mA M9 41 = mA M 41 from funext fun j => ma 41 j (Or.inl (by omega)), show mA M9 10 = mA M 10 from funext fun j => ma 10 j (Or.inl (by omega)), show mA M9 42 = mA M 42 from funext fun j => ma 42 j (Or.inl (by omega))]; exact fun i hi => gPers_mono (hps i hi) F (by first | omega | (dsimp only; omega))
  · rw [mn]; exact fun d hd => gDoc_mono (hds d hd) F (by first | omega | (dsimp only; omega)) (by first | omega | (dsimp only; omega)) (by first | omega | (dsimp only; omega)) (by first | omega | (dsimp only; omega)) hN rfl rfl rfl rfl (fun _ _ => rfl) (fun _ _ => rfl) (Nat.le_of_eq (congrFun mn 6).symm) (Nat.le_of_eq (congrFun mn 8).symm) (ma 12 d (Or.inl (by omega))) (ma 16 d (Or.inl (by omega))) (ma 43 d (Or.inl (by omega))) (ma 44 d (Or.inl (by omega))) (ma 45 d (Or.inl (by omega))) (congrFun mn _) (congrFun (congrFun mt 13) d) (congrFun (congrFun mt 14) d) (congrFun (congrFun mt 15) d)
  · rw [mn]; exact fun e he => gExh_mono (hes e he) F (by first | omega | (dsimp only; omega)) (by first | omega | (dsimp only; omega)) (by first | omega | (dsimp only; omega)) (fun k hk => by first | omega | (dsimp only; omega)) hN rfl rfl (fun _ => rfl) (fun _ _ => rfl) (fun _ _ => rfl) (Nat.le_of_eq (congrFun mn 6).symm) (Nat.le_of_eq (congrFun mn 8).symm) (ma 18 e (Or.inl (by omega))) (ma 19 e (Or.inl (by omega))) (ma 20 e (Or.inl (by omega))) (congrFun mn _) (fun _ _ => ma 22 _ (Or.inl (by omega)))
  · intro i hi
    by_cases e : i = k0
    · subst e; exact hq
    · exact gLtr_mono (hls i (by rw [mn] at hi; exact hi)) F (by first | omega | (dsimp only; omega)) rfl (fun _ _ => rfl) (fun _ _ => rfl) (Nat.le_of_eq (congrFun mn 11).symm) (Nat.le_of_eq (congrFun mn 8).symm) (ma 24 i (Or.inl (by omega))) (ma 25 i (Or.inl (by omega))) (ma 26 i (Or.inl (by omega))) (ma 46 i (Or.inr e)) (ma 47 i (Or.inr e))

def gSee (M : gM) (k : Nat) : Bool := decide (mA M 7 (mC M (gLd M k)) ≤ gReachOf M (gLp M k) (mC M (gLd M k)))
def mCarry (M : gM) (k : Nat) : gM := if gSee M k then mLog (uA (uA M 47 k (nI (mN M 40))) 46 k (nI 1)) (gLd M k) (gLp M k) else uA (uA M 47 k (nI (mN M 40))) 46 k (nI 2)
def mCarN (M : gM) : Nat → gM × Nat
  | 0 => (M, 0)
  | n + 1 => match gNx (mCarN M n).1 (mN M 23) with
    | none => mCarN M n
    | some k => (mCarry (mCarN M n).1 k, (mCarN M n).2 + (if gSee (mCarN M n).1 k then 1 else 0))
theorem mCarry_n (M : gM) (k : Nat) : mN (mCarry M k) = mN M := by
  unfold mCarry
  split <;> rfl
theorem mCarN_n (M : gM) : ∀ n, mN (mCarN M n).1 = mN M
  | 0 => rfl
  | n + 1 => by
    have ih := mCarN_n M n
    unfold mCarN
    split
    · exact ih
    · exact (mCarry_n _ _).trans ih
theorem mCarN_none {M : gM} {n : Nat} (h : gNx (mCarN M n).1 (mN M 23) = none) : mCarN M (n + 1) = mCarN M n := by
  rw [mCarN, h]
theorem mCarN_some {M : gM} {n k : Nat} (h : gNx (mCarN M n).1 (mN M 23) = some k) : mCarN M (n + 1) = (mCarry (mCarN M n).1 k, (mCarN M n).2 + (if gSee (mCarN M n).1 k then 1 else 0)) := by
  rw [mCarN, h]
theorem mCarN_stop {M : gM} {n : Nat} (h : gNx (mCarN M n).1 (mN M 23) = none) : ∀ j, mCarN M (n + j) = mCarN M n
  | 0 => rfl
  | j + 1 => by
    have ih := mCarN_stop h j
    rw [show n + (j + 1) = n + j + 1 by omega, mCarN_none (by rw [ih]; exact h), ih]
theorem mCarN_le (M : gM) : ∀ n, (mCarN M n).2 ≤ n
  | 0 => Nat.le_refl 0
  | n + 1 => by
    have ih := mCarN_le M n
    cases h : gNx (mCarN M n).1 (mN M 23) with
    | none => rw [mCarN_none h]; omega
    | some k =>
      rw [mCarN_some h]
      show (mCarN M n).2 + _ ≤ n + 1
      split <;> omega
def mWarn (M : gM) (p : Nat) : gM := if mA M 42 p + nI 1 < nI 3 then uA M 42 p (mA M 42 p + nI 1) else uA (uA M 42 p (nI 0)) 41 p (if nI 0 < mA M 41 p - nI 1 then mA M 41 p - nI 1 else nI 0)
def mRet (M : gM) (d : Nat) : gM := if ¬ mA M 43 d = -1 ∧ mA M 44 d < nI (mN M 40) then mBack (mWarn M (mA M 43 d).toNatClampNeg) d else M
def mRetN (M : gM) : Nat → gM
  | 0 => M
  | n + 1 => mRet (mRetN M n) n
theorem mWarn_n (M : gM) (p : Nat) : mN (mWarn M p) = mN M := by
  unfold mWarn
  split <;> rfl
theorem mRet_n (M : gM) (d : Nat) : mN (mRet M d) = mN M := by
  unfold mRet
  split
  · exact mWarn_n M _
  · rfl
theorem mRetN_n (M : gM) : ∀ n, mN (mRetN M n) = mN M
  | 0 => rfl
  | n + 1 => (mRet_n _ _).trans (mRetN_n M n)
def mDay (M : gM) : gM := mRetN (uN (mCarN M (3 * gClk M)).1 40 (mN M 40 + 1)) (mN M 11)
def mDays (M : gM) : Nat → gM × Nat
  | 0 => (M, 0)
  | n + 1 => (mDay (mDays M n).1, (mDays M n).2 + (mCarN (mDays M n).1 (3 * gClk (mDays M n).1)).2)
theorem gLtr_two {S : gS} {ad : Nat → Nat → Nat} {M : gM} {k : Nat} {u w : Int32} (h : gLtr S ad M k) : gLtr (sX (sX S (6 + 32 * k) 5 (ad 4 k) u) (6 + 32 * k) 4 (ad 4 k) w) ad (uA (uA M 47 k u) 46 k w) k := by
  obtain ⟨h1, ⟨d, d1, d2, d3⟩, h3, ⟨p, p1, p2, p3⟩, h5, h6, h7⟩ := h
  have e47 : mA (uA (uA M 47 k u) 46 k w) 47 k = u := (uA_f (by omega)).trans uA_s
  have e46 : mA (uA (uA M 47 k u) 46 k w) 46 k = w := uA_s
  exact ⟨h1, ⟨d, d1, d2, d3⟩, sX_p (by decide) (sX_p (by decide) h3), ⟨p, p1, p2, p3⟩, sX_p (by decide) (sX_p (by decide) h5), by rw [e46]; exact sX_s, by rw [e47]; exact sX_p (by decide) sX_s⟩
theorem gMailA_two {d0 : Nat × Nat} {S : gS} {x : Nat} {ad : Nat → Nat → Nat} {M : gM} {k : Nat} {u w : Int32} (h : gMail d0 S x ad M) (hk : k < mN M 23) : gMail d0 (sX (sX S (6 + 32 * k) 5 (ad 4 k) u) (6 + 32 * k) 4 (ad 4 k) w) x ad (uA (uA M 47 k u) 46 k w) ∧ gFr gMk S (sX (sX S (6 + 32 * k) 5 (ad 4 k) u) (6 + 32 * k) 4 (ad 4 k) w) :=
  gMailA_ltr (M := M) (k0 := k) (M9 := uA (uA M 47 k u) 46 k w) rfl (fun f j z => by rcases z with z | z; exact (uA_f (by omega)).trans (uA_f (by omega)); exact (uA_i z).trans (uA_i z)) rfl (gLtr_two (h.2.2.2.2.2.2.2 k hk)) h (((gFr.rf S).X1 _ _ _ (fun _ z => z)).X1 _ _ _ (fun _ z => z))
theorem gMailA_log {d0 : Nat × Nat} {S : gS} {x : Nat} {ad : Nat → Nat → Nat} {M : gM} {d p : Nat} (h : gMail d0 S x ad M) (hd : d < mN M 11) : gMail d0 (sX S (3 + 32 * d) 7 (ad 2 d) (mA M 45 d ||| (nI 1 <<< (nI p &&& 31)))) x ad (mLog M d p) ∧ gFr gMk S (sX S (3 + 32 * d) 7 (ad 2 d) (mA M 45 d ||| (nI 1 <<< (nI p &&& 31)))) :=
  gMailA_doc (M := M) (d9 := d) (M9 := mLog M d p) rfl (fun f j z => by unfold mLog; rcases z with z | z; exact uA_f (by omega); exact uA_i z) rfl (gDoc_log (h.2.2.2.2.2.1 d hd)) h (gFr_X _ _ _ _ _)
theorem gMailA_lend {d0 : Nat × Nat} {S : gS} {x : Nat} {ad : Nat → Nat → Nat} {M : gM} {d : Nat} {v t : Int32} {o : Option Nat} (h : gMail d0 S x ad M) (hd : d < mN M 11) (ho : gRf ad v = o) (hv : gPr M v) : gMail d0 (sX (sY S (3 + 32 * d) 5 (ad 2 d) o) (3 + 32 * d) 6 (ad 2 d) t) x ad (uA (uA M 43 d v) 44 d t) ∧ gFr gMk S (sX (sY S (3 + 32 * d) 5 (ad 2 d) o) (3 + 32 * d) 6 (ad 2 d) t) :=
  gMailA_doc (M := M) (d9 := d) (M9 := uA (uA M 43 d v) 44 d t) rfl (fun f j z => by rcases z with z | z; exact (uA_f (by omega)).trans (uA_f (by omega)); exact (uA_i z).trans (uA_i z)) rfl (gDoc_lend (h.2.2.2.2.2.1 d hd) ho hv) h (((gFr.rf S).Y1 _ _ _ (fun _ z => z)).X1 _ _ _ (fun _ z => z))

set_option maxHeartbeats 4000000 in
set_option maxRecDepth 100000 in
theorem c_X7_carryOut (d0 : Nat × Nat) (S : gS) (x : Nat) (ad : Nat → Nat → Nat) (M : gM) (h : gMail d0 S x ad M) (k : Nat) (hk : k < mN M 23) : gCt d0 yX7_carryOut cX7_carryOut 2 none 3 0 0 [.ref x, .ref (ad 4 k)] S (fun v' S' => v' = none ∧ gMail d0 S' x ad (mCarry M k) ∧ gFr gMk S S') gNo := by
  refine gCt_of (lo := [some (.ref x), some (.ref (ad 4 k))]) (by decide +kernel) (Nat.le_of_ble_eq_true rfl) (rfl) ?_
  intro Γ hd G F hini
  obtain ⟨⟨r1, ⟨ra, rb, rc, rd, re⟩, rt, rtl, rp, rpl, rdr, rep, rday⟩, ⟨l0, l1, l2, l3, l4⟩, ht, hcs, hps, hds, hes, hls⟩ := id h
  subst hd
  obtain ⟨k1, ⟨kd, kd1, kd2, kd3⟩, k3, ⟨kp, kp1, kp2, kp3⟩, k5, k6, k7⟩ := hls k hk
  obtain ⟨y1, ⟨kc, kc1, kc2, kc3⟩, y3⟩ := hds kd kd1
  obtain ⟨p1, p2, p3, p4, p5, p6⟩ := id (hps kp kp1)
  obtain ⟨c1, c2, c3⟩ := id (hcs kc kc1)
  have hNc := l0.2.2.1
  have hNd := l2.2.2.1
  have hNp := l1.2.2.1
  have ed : gLd M k = kd := by rw [gLd, kd2, nI_clamp (by omega)]
  have ep : gLp M k = kp := by rw [gLp, kp2, nI_clamp (by omega)]
  have ec : mC M kd = kc := by rw [mC, kc2, nI_clamp (by omega)]
  have F1 := gFr_X S (6 + 32 * k) 5 (ad 4 k) (nI (mN M 40))
  first | refine g_aload_n G dX7_carryOut_0 rfl ?_ | refine g_aload_nN G dX7_carryOut_0 rfl ?_ | refine g_aload_nQ G dX7_carryOut_0 rfl ?_
  first | refine g_aload_n G dX7_carryOut_1 rfl ?_ | refine g_aload_nN G dX7_carryOut_1 rfl ?_ | refine g_aload_nQ G dX7_carryOut_1 rfl ?_
  refine g_getI G fl_X7_52 (by assumption) (by first | decide | omega) rfl (by first | assumption | rfl) dX7_carryOut_2 ?_
  refine g_putI G fl_X7_414 pu_5_5 (by assumption) (by first | decide | omega) rfl dX7_carryOut_5 ?_
  first | refine g_aload_n G dX7_carryOut_8 rfl ?_ | refine g_aload_nN G dX7_carryOut_8 rfl ?_ | refine g_aload_nQ G dX7_carryOut_8 rfl ?_
  first | refine g_getR G fl_X7_351 (by assumption) (by first | decide | omega) rfl (by assumption) dX7_carryOut_9 ?_ | refine g_getZ G fl_X7_351 (by assumption) (by first | decide | omega) rfl (by assumption) dX7_carryOut_9 ?_ | refine g_getQ G fl_X7_351 (by assumption) (by first | decide | omega) rfl (by first | assumption | rfl) dX7_carryOut_9 ?_
  first | refine g_aload_n G dX7_carryOut_12 rfl ?_ | refine g_aload_nN G dX7_carryOut_12 rfl ?_ | refine g_aload_nQ G dX7_carryOut_12 rfl ?_
  first | refine g_getR G fl_X7_347 (by assumption) (by first | decide | omega) rfl (by assumption) dX7_carryOut_13 ?_ | refine g_getZ G fl_X7_347 (by assumption) (by first | decide | omega) rfl (by assumption) dX7_carryOut_13 ?_ | refine g_getQ G fl_X7_347 (by assumption) (by first | decide | omega) rfl (by first | assumption | rfl) dX7_carryOut_13 ?_
  first | refine g_getR G fl_X7_181 (by assumption) (by first | decide | omega) rfl (by assumption) dX7_carryOut_16 ?_ | refine g_getZ G fl_X7_181 (by assumption) (by first | decide | omega) rfl (by assumption) dX7_carryOut_16 ?_ | refine g_getQ G fl_X7_181 (by assumption) (by first | decide | omega) rfl (by first | assumption | rfl) dX7_carryOut_16 ?_
  refine g_callVp (ci := 7) G (c_X6_canSeeInto _ _ (ad 1 kp) kp (ad 0 kc) kc _ _ _ _ _ (gPers_mono (hps kp kp1) F1 (by first | omega | (dsimp only; omega))) (gCase_mono (hcs kc kc1) F1 (by first | omega | (dsimp only; omega)))) mt_X6_canSeeInto mi_X6_canSeeInto ml_X7_264 (by assumption) (by first | decide | omega) rfl (by decide) (by omega) (by omega) rfl (Nat.le_of_ble_eq_true rfl) dX7_carryOut_19 ?_
  refine g_if_eq (tgt := 44) G dX7_carryOut_22 (by decide) (fun c_22 => ?_) (fun c_22 => ?_)
  · have e9 : gSee M k = false := by unfold gSee; rw [ed, ep, ec]; exact gB_eq0.mp c_22
    first | refine g_aload_n G dX7_carryOut_44 rfl ?_ | refine g_aload_nN G dX7_carryOut_44 rfl ?_ | refine g_aload_nQ G dX7_carryOut_44 rfl ?_
    refine g_iconst (v := nI 2) G dX7_carryOut_45 (by decide) ?_
    refine g_putI G fl_X7_337 pu_5_4 (by assumption) (by first | decide | omega) rfl dX7_carryOut_46 ?_
    obtain ⟨h2, F2⟩ := gMailA_two (u := nI (mN M 40)) (w := nI 2) h hk
    have hm : gMail (gD Γ) (sX (sX S (6 + 32 * k) 5 (ad 4 k) (nI (mN M 40))) (6 + 32 * k) 4 (ad 4 k) (nI 2)) x ad (mCarry M k) := by
      unfold mCarry
      rw [if_neg (by rw [e9]; decide)]
      exact h2
    have hf := F2
    exact g_vret G F (⟨rfl, hm, hf⟩) (by omega) (by omega) dX7_carryOut_49
  · have e9 : gSee M k = true := by unfold gSee; rw [ed, ep, ec]; exact gB_ne0.mp c_22
    first | refine g_aload_n G dX7_carryOut_25 rfl ?_ | refine g_aload_nN G dX7_carryOut_25 rfl ?_ | refine g_aload_nQ G dX7_carryOut_25 rfl ?_
    refine g_iconst (v := nI 1) G dX7_carryOut_26 (by decide) ?_
    refine g_putI G fl_X7_337 pu_5_4 (by assumption) (by first | decide | omega) rfl dX7_carryOut_27 ?_
    obtain ⟨h2, F2⟩ := gMailA_two (u := nI (mN M 40)) (w := nI 1) h hk
    have a1 := h2.2.2.2.2.1 kp kp1
    have a2 := h2.2.2.2.2.2.1 kd kd1
    obtain ⟨h3, F3⟩ := gMailA_log (p := kp) h2 kd1
    have k2x := (h2.2.2.2.2.2.2.2 k hk)
    obtain ⟨q1, ⟨qd, qd1, qd2, qd3⟩, q3, ⟨qp, qp1, qp2, qp3⟩, q5, q6, q7⟩ := k2x
    have hqd : gY (sX (sX S (6 + 32 * k) 5 (ad 4 k) (nI (mN M 40))) (6 + 32 * k) 4 (ad 4 k) (nI 1)) (6 + 32 * k) 0 (ad 4 k) = some (ad 2 kd) := kd3
    have hqp : gY (sX (sX S (6 + 32 * k) 5 (ad 4 k) (nI (mN M 40))) (6 + 32 * k) 4 (ad 4 k) (nI 1)) (6 + 32 * k) 2 (ad 4 k) = some (ad 1 kp) := kp3
    first | refine g_aload_n G dX7_carryOut_30 rfl ?_ | refine g_aload_nN G dX7_carryOut_30 rfl ?_ | refine g_aload_nQ G dX7_carryOut_30 rfl ?_
    refine g_getR G fl_X7_347 (k1) (by first | decide | omega) rfl (hqd) dX7_carryOut_31 ?_
    first | refine g_aload_n G dX7_carryOut_34 rfl ?_ | refine g_aload_nN G dX7_carryOut_34 rfl ?_ | refine g_aload_nQ G dX7_carryOut_34 rfl ?_
    refine g_getR G fl_X7_351 (k1) (by first | decide | omega) rfl (hqp) dX7_carryOut_35 ?_
    refine g_callV (ci := 2) G (c_X1_writeLog _ _ ad (uA (uA M 47 k (nI (mN M 40))) 46 k (nI 1)) kd a2 kp _ _ _ _ a1) mt_X1_writeLog mi_X1_writeLog ml_X7_192 (a2.1) (by first | decide | omega) rfl (by decide) (by omega) (by omega) rfl (Nat.le_of_ble_eq_true rfl) dX7_carryOut_38 (fun v_38 S_38 hp_38 => ?_)
    obtain ⟨rfl, rfl⟩ := hp_38
    simp only [Option.toList, List.nil_append]
    have hm : gMail (gD Γ) (sX (sX (sX S (6 + 32 * k) 5 (ad 4 k) (nI (mN M 40))) (6 + 32 * k) 4 (ad 4 k) (nI 1)) (3 + 32 * kd) 7 (ad 2 kd) (mA (uA (uA M 47 k (nI (mN M 40))) 46 k (nI 1)) 45 kd ||| (nI 1 <<< (nI kp &&& 31)))) x ad (mCarry M k) := by
      unfold mCarry
      rw [if_pos e9, ed, ep]
      exact h3
    have hf := F2.tr (K := gMk) F3 (fun _ z => ⟨z, z⟩)
    refine g_goto (tgt := 49) G dX7_carryOut_41 (by decide) ?_
    exact g_vret G F (⟨rfl, hm, hf⟩) (by omega) (by omega) dX7_carryOut_49
