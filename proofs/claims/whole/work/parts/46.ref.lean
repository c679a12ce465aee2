/-! ===== the reference's heap; b: addresses (0 f: field f's row, 0 27 and 0 28: the two States; 1 g, 2 g: their rows; 13 14 15 d: a text's rows) ===== -/
def gLen : Nat → Nat
  | 1 => 1000
  | 4 => 2500
  | 7 => 8
  | 9 => 12
  | 10 => 12
  | 12 => 24
  | 16 => 24
  | 18 => 20
  | 19 => 20
  | 20 => 20
  | 21 => 20
  | 22 => 960
  | 24 => 40
  | 25 => 40
  | 26 => 40
  | 29 => 2500
  | 30 => 2500
  | 31 => 2500
  | _ => 0
def gExa : Nat → Bool
  | 7 => true
  | 9 => true
  | 10 => true
  | 12 => true
  | 16 => true
  | 18 => true
  | 19 => true
  | 20 => true
  | 22 => true
  | 24 => true
  | 25 => true
  | 26 => true
  | _ => false
def gCnt : Nat → Bool
  | 2 => true
  | 5 => true
  | 6 => true
  | 8 => true
  | 11 => true
  | 17 => true
  | 23 => true
  | _ => false
def gLs : Nat → Nat
  | 1 => 12
  | 2 => 12
  | 3 => 24
  | 4 => 24
  | 5 => 24
  | 6 => 40
  | 7 => 40
  | _ => 0
theorem gExa_lt {f : Nat} (h : gExa f = true) : 7 ≤ f ∧ f ≤ 26 ∧ f ≠ 21 ∧ gLen f ≠ 0 := by
  unfold gExa at h
  split at h <;> first | (exact ⟨by decide, by decide, by decide, by decide⟩) | cases h
theorem gLen_lt {f : Nat} (h : gLen f ≠ 0) : 1 ≤ f ∧ f ≤ 31 := by
  unfold gLen at h
  split at h <;> first | (exact ⟨by decide, by decide⟩) | exact absurd rfl h
theorem gCnt_lt {f : Nat} (h : gCnt f = true) : 2 ≤ f ∧ f ≤ 23 ∧ f ≠ 3 ∧ f ≠ 4 := by
  unfold gCnt at h
  split at h <;> first | (exact ⟨by decide, by decide, by decide, by decide⟩) | cases h
theorem gLs_lt {f : Nat} (h : gLs f ≠ 0) : 1 ≤ f ∧ f ≤ 7 := by
  unfold gLs at h
  split at h <;> first | (exact ⟨by decide, by decide⟩) | exact absurd rfl h
def gRest (S : gS) (y : Nat) (b : Nat → Nat → Nat) (M : gM) : Prop := gK S y = 11 ∧ (∀ c, gCnt c = true → gX S 11 c y = nI (mN M c)) ∧ gX S 11 3 y = mA M 3 0 ∧ (∀ f, gLen f ≠ 0 → gY S 11 f y = some (b 0 f) ∧ gK S (b 0 f) = 17 + 32 * (10 + f) ∧ gL S (b 0 f) = gLen f) ∧ (∀ f, gExa f = true → ∀ j, j < gLen f → gX S (17 + 32 * (10 + f)) (b 0 f) j = mA M f j) ∧ (∀ e, e < 20 → gX S (17 + 32 * (10 + 21)) (b 0 21) e = nI (mN M (200 + e))) ∧ (∀ j, j < mN M 2 → gX S (17 + 32 * (10 + 1)) (b 0 1) j = mA M 1 j) ∧ (∀ j, j < mN M 5 → gX S (17 + 32 * (10 + 4)) (b 0 4) j = mA M 4 j) ∧ (∀ f, 13 ≤ f → f ≤ 15 → gY S 11 f y = some (b 0 f) ∧ gK S (b 0 f) = 20 + 32 * f ∧ gL S (b 0 f) = 24 ∧ ∀ d, d < mN M 11 → gY S (20 + 32 * f) (b 0 f) d = some (b f d) ∧ gRow1 S (b f d) (17 + 32 * (100 + 3 * d + (f - 13))) (mN M (100 + d)) (mT M f d)) ∧ gY S 11 27 y = some (b 0 27) ∧ gY S 11 28 y = some (b 0 28)
def gStt (S : gS) (s ρ : Nat) (b : Nat → Nat → Nat) (y : Nat) (M : gM) : Prop := gK S s = 10 + 32 * ρ ∧ gX S (10 + 32 * ρ) 0 s = nI (mN M 40) ∧ gY S (10 + 32 * ρ) 8 s = some y ∧ ∀ g, gLs g ≠ 0 → gY S (10 + 32 * ρ) g s = some (b (1 + ρ) g) ∧ gRow1 S (b (1 + ρ) g) (17 + 32 * (60 + 10 * ρ + g)) (gLs g) (mA M (40 + g))
def gRef (S : gS) (y : Nat) (b : Nat → Nat → Nat) (M : gM) : Prop := gRest S y b M ∧ gStt S (b 0 27) 0 b y M ∧ ∃ Ma, gStt S (b 0 28) 1 b y Ma
/-- the reference's kinds -/
def gRk (κ : Nat) : Prop := κ = 11 ∨ κ % 32 = 10 ∨ κ % 32 = 20 ∨ (κ % 32 = 17 ∧ 10 ≤ κ / 32 ∧ κ / 32 ≠ 90)
section GREF
variable {S S' : gS} {y s ρ : Nat} {b : Nat → Nat → Nat} {M M' : gM} {K : Nat → Prop}
theorem gRest.kd (r : gRest S y b M) : gK S y = 11 := r.1
theorem gRest.n (r : gRest S y b M) (c : Nat) (h : gCnt c = true) : gX S 11 c y = nI (mN M c) := r.2.1 c h
theorem gRest.w (r : gRest S y b M) : gX S 11 3 y = mA M 3 0 := r.2.2.1
theorem gRest.Y (r : gRest S y b M) (f : Nat) {n : Nat} (e : gLen f = n + 1) : gY S 11 f y = some (b 0 f) := (r.2.2.2.1 f (by rw [e]; omega)).1
theorem gRest.A (r : gRest S y b M) (f : Nat) {n : Nat} (e : gLen f = n + 1) : gK S (b 0 f) = 17 + 32 * (10 + f) := (r.2.2.2.1 f (by rw [e]; omega)).2.1
theorem gRest.L (r : gRest S y b M) (f n : Nat) (e : gLen f = n + 1) : gL S (b 0 f) = n + 1 := (r.2.2.2.1 f (by rw [e]; omega)).2.2.trans e
theorem gRest.lt (r : gRest S y b M) (f n : Nat) {j : Nat} (e : gLen f = n + 1) (h : j < n + 1) : j < gL S (b 0 f) := by rw [r.L f n e]; exact h
theorem gRest.X (r : gRest S y b M) (f n : Nat) {j : Nat} (h1 : gExa f = true) (e : gLen f = n + 1) (h : j < n + 1) : gX S (17 + 32 * (10 + f)) (b 0 f) j = mA M f j := r.2.2.2.2.1 f h1 j (by rw [e]; exact h)
theorem gRest.k (r : gRest S y b M) {e : Nat} (h : e < 20) : gX S (17 + 32 * (10 + 21)) (b 0 21) e = nI (mN M (200 + e)) := r.2.2.2.2.2.1 e h
theorem gRest.t (r : gRest S y b M) {j : Nat} (h : j < mN M 2) : gX S (17 + 32 * (10 + 1)) (b 0 1) j = mA M 1 j := r.2.2.2.2.2.2.1 j h
theorem gRest.p (r : gRest S y b M) {j : Nat} (h : j < mN M 5) : gX S (17 + 32 * (10 + 4)) (b 0 4) j = mA M 4 j := r.2.2.2.2.2.2.2.1 j h
theorem gRest.RY (r : gRest S y b M) (f : Nat) (h : 13 ≤ f ∧ f ≤ 15) : gY S 11 f y = some (b 0 f) := (r.2.2.2.2.2.2.2.2.1 f h.1 h.2).1
theorem gRest.RA (r : gRest S y b M) (f : Nat) (h : 13 ≤ f ∧ f ≤ 15) : gK S (b 0 f) = 20 + 32 * f := (r.2.2.2.2.2.2.2.2.1 f h.1 h.2).2.1
theorem gRest.RL (r : gRest S y b M) (f : Nat) (h : 13 ≤ f ∧ f ≤ 15) : gL S (b 0 f) = 24 := (r.2.2.2.2.2.2.2.2.1 f h.1 h.2).2.2.1
theorem gRest.RR (r : gRest S y b M) (f : Nat) (h : 13 ≤ f ∧ f ≤ 15) {d : Nat} (hd : d < mN M 11) : gY S (20 + 32 * f) (b 0 f) d = some (b f d) := ((r.2.2.2.2.2.2.2.2.1 f h.1 h.2).2.2.2 d hd).1
theorem gRest.TK (r : gRest S y b M) (f : Nat) (h : 13 ≤ f ∧ f ≤ 15) {d : Nat} (hd : d < mN M 11) : gK S (b f d) = 17 + 32 * (100 + 3 * d + (f - 13)) := ((r.2.2.2.2.2.2.2.2.1 f h.1 h.2).2.2.2 d hd).2.1
theorem gRest.TL (r : gRest S y b M) (f : Nat) (h : 13 ≤ f ∧ f ≤ 15) {d : Nat} (hd : d < mN M 11) : gL S (b f d) = mN M (100 + d) := ((r.2.2.2.2.2.2.2.2.1 f h.1 h.2).2.2.2 d hd).2.2.1
theorem gRest.TX (r : gRest S y b M) (f : Nat) (h : 13 ≤ f ∧ f ≤ 15) {d j : Nat} (hd : d < mN M 11) (hj : j < mN M (100 + d)) : gX S (17 + 32 * (100 + 3 * d + (f - 13))) (b f d) j = mT M f d j := ((r.2.2.2.2.2.2.2.2.1 f h.1 h.2).2.2.2 d hd).2.2.2 j hj
theorem gRest.st (r : gRest S y b M) : gY S 11 27 y = some (b 0 27) := r.2.2.2.2.2.2.2.2.2.1
theorem gRest.a (r : gRest S y b M) : gY S 11 28 y = some (b 0 28) := r.2.2.2.2.2.2.2.2.2.2
theorem gStt.kd (q : gStt S s ρ b y M) : gK S s = 10 + 32 * ρ := q.1
theorem gStt.d (q : gStt S s ρ b y M) : gX S (10 + 32 * ρ) 0 s = nI (mN M 40) := q.2.1
theorem gStt.md (q : gStt S s ρ b y M) : gY S (10 + 32 * ρ) 8 s = some y := q.2.2.1
theorem gStt.Y (q : gStt S s ρ b y M) (g : Nat) {n : Nat} (e : gLs g = n + 1) : gY S (10 + 32 * ρ) g s = some (b (1 + ρ) g) := (q.2.2.2 g (by rw [e]; omega)).1
theorem gStt.A (q : gStt S s ρ b y M) (g : Nat) {n : Nat} (e : gLs g = n + 1) : gK S (b (1 + ρ) g) = 17 + 32 * (60 + 10 * ρ + g) := (q.2.2.2 g (by rw [e]; omega)).2.1
theorem gStt.L (q : gStt S s ρ b y M) (g n : Nat) (e : gLs g = n + 1) : gL S (b (1 + ρ) g) = n + 1 := (q.2.2.2 g (by rw [e]; omega)).2.2.1.trans e
theorem gStt.lt (q : gStt S s ρ b y M) (g n : Nat) {j : Nat} (e : gLs g = n + 1) (h : j < n + 1) : j < gL S (b (1 + ρ) g) := by rw [q.L g n e]; exact h
theorem gStt.X (q : gStt S s ρ b y M) (g n : Nat) {j : Nat} (e : gLs g = n + 1) (h : j < n + 1) : gX S (17 + 32 * (60 + 10 * ρ + g)) (b (1 + ρ) g) j = mA M (40 + g) j := (q.2.2.2 g (by rw [e]; omega)).2.2.2 j (by rw [e]; exact h)
theorem gRest_mono (r : gRest S y b M) (F : gFr K S S') (hK : ∀ κ, gRk κ → K κ) : gRest S' y b M := by
  obtain ⟨r1, r2, r3, r4, r5, r6, r7, r8, r9, r10, r11⟩ := r
  have k11 : K 11 := hK 11 (Or.inl rfl)
  have kf : ∀ f, f ≤ 31 → K (17 + 32 * (10 + f)) := fun f hf => hK _ (Or.inr (Or.inr (Or.inr (by omega))))
  refine ⟨F.K r1 (by decide), fun c h => F.X k11 (r2 c h), F.X k11 r3, fun f h => ⟨F.Y k11 (r4 f h).1, F.K (r4 f h).2.1 (by omega), ((F.1 _ (by rw [(r4 f h).2.1]; omega)).2).trans (r4 f h).2.2⟩, fun f h j hj => F.X (kf f (by have := gExa_lt h; omega)) (r5 f h j hj), fun e he => F.X (kf 21 (by omega)) (r6 e he), fun j hj => F.X (kf 1 (by omega)) (r7 j hj), fun j hj => F.X (kf 4 (by omega)) (r8 j hj), fun f h1 h2 => ?_, F.Y k11 r10, F.Y k11 r11⟩
  obtain ⟨t1, t2, t3, t4⟩ := r9 f h1 h2
  exact ⟨F.Y k11 t1, F.K t2 (by omega), ((F.1 _ (by rw [t2]; omega)).2).trans t3, fun d hd => ⟨F.Y (hK _ (Or.inr (Or.inr (Or.inl (by omega))))) (t4 d hd).1, gRow1_mono (t4 d hd).2 F (hK _ (Or.inr (Or.inr (Or.inr (by omega))))) (by omega)⟩⟩
theorem gStt_mono (q : gStt S s ρ b y M) (F : gFr K S S') (h1 : K (10 + 32 * ρ)) (h2 : ∀ g, 1 ≤ g → g ≤ 7 → K (17 + 32 * (60 + 10 * ρ + g))) : gStt S' s ρ b y M :=
  ⟨F.K q.1 (by omega), F.X h1 q.2.1, F.Y h1 q.2.2.1, fun g hg => ⟨F.Y h1 (q.2.2.2 g hg).1, gRow1_mono (q.2.2.2 g hg).2 F (h2 g (gLs_lt hg).1 (gLs_lt hg).2) (by omega)⟩⟩
theorem gRef_mono (h : gRef S y b M) (F : gFr K S S') (hK : ∀ κ, gRk κ → K κ) : gRef S' y b M :=
  ⟨gRest_mono h.1 F hK, gStt_mono h.2.1 F (hK _ (Or.inr (Or.inl (by omega)))) (fun g h1 h2 => hK _ (Or.inr (Or.inr (Or.inr (by omega))))), h.2.2.elim fun Ma z => ⟨Ma, gStt_mono z F (hK _ (Or.inr (Or.inl (by omega)))) (fun g h1 h2 => hK _ (Or.inr (Or.inr (Or.inr (by omega)))))⟩⟩
theorem gRest_M (r : gRest S y b M) (hn : ∀ i, i ≠ 40 → mN M' i = mN M i) (ha : ∀ f, f ≤ 26 → mA M' f = mA M f) (ht : mT M' = mT M) : gRest S y b M' := by
  obtain ⟨r1, r2, r3, r4, r5, r6, r7, r8, r9, r10, r11⟩ := r
  refine ⟨r1, fun c h => by rw [hn c (by have := gCnt_lt h; omega)]; exact r2 c h, by rw [ha 3 (by omega)]; exact r3, r4, fun f h j hj => by rw [ha f (gExa_lt h).2.1]; exact r5 f h j hj, fun e he => by rw [hn _ (by omega)]; exact r6 e he, by rw [hn 2 (by omega), ha 1 (by omega)]; exact r7, by rw [hn 5 (by omega), ha 4 (by omega)]; exact r8, fun f h1 h2 => ?_, r10, r11⟩
  obtain ⟨t1, t2, t3, t4⟩ := r9 f h1 h2
  exact ⟨t1, t2, t3, fun d hd => by rw [hn 11 (by omega)] at hd; rw [hn (100 + d) (by omega), ht]; exact t4 d hd⟩
theorem gStt_M (q : gStt S s ρ b y M) (hn : mN M' 40 = mN M 40) (ha : ∀ g, 1 ≤ g → g ≤ 7 → mA M' (40 + g) = mA M (40 + g)) : gStt S s ρ b y M' :=
  ⟨q.1, by rw [hn]; exact q.2.1, q.2.2.1, fun g hg => by rw [ha g (gLs_lt hg).1 (gLs_lt hg).2]; exact q.2.2.2 g hg⟩
end GREF
section GREFU
variable {S : gS} {y s ρ : Nat} {b : Nat → Nat → Nat} {M : gM}
/-- a scalar of the model that no part speaks of, or one that is set as M's is -/
theorem gRest_11 {M' : gM} {p : Nat} {v : Int32} (r : gRest S y b M) (hc : ∀ c, gCnt c = true → (c = p ∧ v = nI (mN M' c)) ∨ (c ≠ p ∧ mN M' c = mN M c)) (h3 : (p = 3 ∧ v = mA M' 3 0) ∨ (p ≠ 3 ∧ mA M' 3 0 = mA M 3 0)) (ha : ∀ f, f ≠ 3 → mA M' f = mA M f) (hk : ∀ i, 100 ≤ i → mN M' i = mN M i) (h2 : mN M' 2 ≤ mN M 2) (h5 : mN M' 5 ≤ mN M 5) (h11 : mN M' 11 ≤ mN M 11) (ht : mT M' = mT M) : gRest (sX S 11 p y v) y b M' := by
  obtain ⟨r1, r2, r3, r4, r5, r6, r7, r8, r9, r10, r11⟩ := r
  refine ⟨r1, fun c h => ?_, ?_, r4, fun f h j hj => by rw [ha f (by have := gExa_lt h; omega)]; exact sX_k (by omega) (r5 f h j hj), fun e he => by rw [hk _ (by omega)]; exact sX_k (by omega) (r6 e he), fun j hj => by rw [ha 1 (by omega)]; exact sX_k (by omega) (r7 j (by omega)), fun j hj => by rw [ha 4 (by omega)]; exact sX_k (by omega) (r8 j (by omega)), fun f h1 h2 => ?_, r10, r11⟩
  · rcases hc c h with ⟨z1, z2⟩ | ⟨z1, z2⟩
    · rw [z1, z2, z1]; exact sX_s
    · rw [z2]; exact sX_p z1 (r2 c h)
  · rcases h3 with ⟨z1, z2⟩ | ⟨z1, z2⟩
    · rw [z1, z2]; exact sX_s
    · rw [z2]; exact sX_p (Ne.symm z1) r3
  · obtain ⟨t1, t2, t3, t4⟩ := r9 f h1 h2
    refine ⟨t1, t2, t3, fun d hd => ?_⟩
    obtain ⟨u1, u2, u3, u4⟩ := t4 d (by omega)
    rw [hk _ (by omega), ht]
    exact ⟨u1, u2, u3, fun j hj => sX_k (by omega) (u4 j hj)⟩
theorem gStt_k {κ p q : Nat} {v : Int32} (h : gStt S s ρ b y M) (h1 : 10 + 32 * ρ ≠ κ) (h2 : ∀ g, 1 ≤ g → g ≤ 7 → 17 + 32 * (60 + 10 * ρ + g) ≠ κ) : gStt (sX S κ p q v) s ρ b y M := gStt_mono h (gFr_X S κ p q v) h1 h2
theorem gRef_11 {M' : gM} {p : Nat} {v : Int32} (h : gRef S y b M) (hc : ∀ c, gCnt c = true → (c = p ∧ v = nI (mN M' c)) ∨ (c ≠ p ∧ mN M' c = mN M c)) (h3 : (p = 3 ∧ v = mA M' 3 0) ∨ (p ≠ 3 ∧ mA M' 3 0 = mA M 3 0)) (ha : ∀ f, f ≠ 3 → mA M' f = mA M f) (hk : ∀ i, 40 ≤ i → mN M' i = mN M i) (h2 : mN M' 2 ≤ mN M 2) (h5 : mN M' 5 ≤ mN M 5) (h11 : mN M' 11 ≤ mN M 11) (ht : mT M' = mT M) : gRef (sX S 11 p y v) y b M' :=
  ⟨gRest_11 h.1 hc h3 ha (fun i hi => hk i (by omega)) h2 h5 h11 ht, gStt_k (gStt_M h.2.1 (hk 40 (by omega)) (fun g _ _ => ha _ (by omega))) (by omega) (fun g _ _ => by omega), h.2.2.elim fun Ma z => ⟨Ma, gStt_k z (by omega) (fun g _ _ => by omega)⟩⟩
theorem gRef_th {v : Int32} (h : gRef S y b M) : gRef (sX S 11 0 y v) y b M := gRef_11 h (fun c z => Or.inr ⟨by have := gCnt_lt z; omega, rfl⟩) (Or.inr ⟨by decide, rfl⟩) (fun _ _ => rfl) (fun _ _ => rfl) (Nat.le_refl _) (Nat.le_refl _) (Nat.le_refl _) rfl
theorem gRef_N (p n : Nat) (h : gRef S y b M) (hp : p = 6 ∨ p = 8 ∨ p = 17 ∨ p = 23) : gRef (sX S 11 p y (nI n)) y b (uN M p n) :=
  gRef_11 h (fun c z => (Nat.decEq c p).casesOn (fun z => Or.inr ⟨z, uN_o z⟩) (fun z => Or.inl ⟨z, by rw [z]; exact congrArg nI uN_s.symm⟩)) (Or.inr ⟨by omega, rfl⟩) (fun _ _ => rfl) (fun i hi => uN_o (by omega)) (Nat.le_of_eq (uN_o (by omega))) (Nat.le_of_eq (uN_o (by omega))) (Nat.le_of_eq (uN_o (by omega))) rfl
theorem gRef_w (v : Int32) (h : gRef S y b M) : gRef (sX S 11 3 y v) y b (uA M 3 0 v) :=
  gRef_11 h (fun c z => Or.inr ⟨by have := gCnt_lt z; omega, rfl⟩) (Or.inl ⟨rfl, uA_s.symm⟩) (fun f hf => funext fun j => uA_f hf) (fun _ _ => rfl) (Nat.le_refl _) (Nat.le_refl _) (Nat.le_refl _) rfl
/-- a cell of a row of the model -/
theorem gRef_A (f n : Nat) {j : Nat} (v : Int32) (h : gRef S y b M) (hf : gExa f = true) (e : gLen f = n + 1) (hj : j < n + 1) : gRef (sX S (17 + 32 * (10 + f)) (b 0 f) j v) y b (uA M f j v) := by
  obtain ⟨⟨r1, r2, r3, r4, r5, r6, r7, r8, r9, r10, r11⟩, hs, Ma, ha⟩ := h
  have hl := gExa_lt hf
  refine ⟨⟨r1, fun c h => sX_k (by omega) (r2 c h), by rw [uA_f (by omega)]; exact sX_k (by omega) r3, r4, fun g hg i hi => ?_, fun e he => sX_k (by omega) (r6 e he), fun i hi => by rw [uA_f (by omega)]; exact sX_k (by omega) (r7 i hi), fun i hi => by rw [uA_f (by omega)]; exact sX_k (by omega) (r8 i hi), fun g h1 h2 => ?_, r10, r11⟩, gStt_k (gStt_M hs rfl (fun g h1 h2 => funext fun i => uA_f (by omega))) (by omega) (fun g _ _ => by omega), Ma, gStt_k ha (by omega) (fun g _ _ => by omega)⟩
  · by_cases eg : g = f
    · subst eg
      by_cases ei : i = j
      · rw [ei, uA_s]; exact sX_s
      · rw [uA_i ei]; exact sX_q ei (r5 g hg i hi)
    · rw [uA_f eg]; exact sX_k (by omega) (r5 g hg i hi)
  · obtain ⟨t1, t2, t3, t4⟩ := r9 g h1 h2
    exact ⟨t1, t2, t3, fun d hd => ⟨(t4 d hd).1, (t4 d hd).2.1, (t4 d hd).2.2.1, fun i hi => sX_k (by omega) ((t4 d hd).2.2.2 i hi)⟩⟩
/-- a cell of a row of the State -/
theorem gStt_S (g n : Nat) {j : Nat} (v : Int32) (q : gStt S s ρ b y M) (e : gLs g = n + 1) (hj : j < n + 1) : gStt (sX S (17 + 32 * (60 + 10 * ρ + g)) (b (1 + ρ) g) j v) s ρ b y (uA M (40 + g) j v) := by
  obtain ⟨q1, q2, q3, q4⟩ := q
  refine ⟨q1, sX_k (by omega) q2, q3, fun g' hg => ⟨(q4 g' hg).1, (q4 g' hg).2.1, (q4 g' hg).2.2.1, fun i hi => ?_⟩⟩
  by_cases eg : g' = g
  · subst eg
    by_cases ei : i = j
    · rw [ei, uA_s]; exact sX_s
    · rw [uA_i ei]; exact sX_q ei ((q4 g' hg).2.2.2 i hi)
  · rw [uA_f (by omega)]; exact sX_k (by omega) ((q4 g' hg).2.2.2 i hi)
theorem gRest_k {κ p q : Nat} {v : Int32} (r : gRest S y b M) (h : ¬ gRk κ ∨ (κ % 32 = 10) ∨ (κ % 32 = 17 ∧ 60 ≤ κ / 32 ∧ κ / 32 < 100)) : gRest (sX S κ p q v) y b M := by
  obtain ⟨r1, r2, r3, r4, r5, r6, r7, r8, r9, r10, r11⟩ := r
  have k11 : 11 ≠ κ := fun z => by unfold gRk at h; omega
  have kf : ∀ f, f ≤ 31 → 17 + 32 * (10 + f) ≠ κ := fun f hf z => by unfold gRk at h; omega
  refine ⟨r1, fun c h => sX_k k11 (r2 c h), sX_k k11 r3, r4, fun f h j hj => sX_k (kf f (by have := gExa_lt h; omega)) (r5 f h j hj), fun e he => sX_k (kf 21 (by omega)) (r6 e he), fun j hj => sX_k (kf 1 (by omega)) (r7 j hj), fun j hj => sX_k (kf 4 (by omega)) (r8 j hj), fun f h1 h2 => ?_, r10, r11⟩
  obtain ⟨t1, t2, t3, t4⟩ := r9 f h1 h2
  exact ⟨t1, t2, t3, fun d hd => ⟨(t4 d hd).1, (t4 d hd).2.1, (t4 d hd).2.2.1, fun j hj => sX_k (fun z => by unfold gRk at h; omega) ((t4 d hd).2.2.2 j hj)⟩⟩
theorem gRef_S (g n : Nat) {j : Nat} (v : Int32) (h : gRef S y b M) (e : gLs g = n + 1) (hj : j < n + 1) : gRef (sX S (17 + 32 * (60 + 10 * 0 + g)) (b (1 + 0) g) j v) y b (uA M (40 + g) j v) := by
  have hl := gLs_lt (f := g) (by rw [e]; omega)
  exact ⟨gRest_M (gRest_k h.1 (Or.inr (Or.inr (by omega)))) (fun _ _ => rfl) (fun f hf => funext fun i => uA_f (by omega)) rfl, gStt_S g n v h.2.1 e hj, h.2.2.elim fun Ma z => ⟨Ma, gStt_k z (by omega) (fun g' h1 h2 => by omega)⟩⟩
end GREFU
/-- what every M that a run reaches keeps -/
def gInv (M : gM) : Prop := gBnd M ∧ (mN M 2 ≤ 1000 ∧ mN M 5 ≤ 2500 ∧ (∀ d, d < mN M 11 → mN M (100 + d) ≤ 2500) ∧ ∀ e, mN M (200 + e) ≤ 12) ∧ ((∀ d, d < mN M 11 → ∃ c, c < mN M 6 ∧ mA M 12 d = nI c) ∧ (∀ e, e < mN M 17 → ∃ c, c < mN M 6 ∧ mA M 18 e = nI c) ∧ (∀ e, e < mN M 17 → gWho M (mA M 19 e)) ∧ (∀ e k, e < mN M 17 → k < mN M (200 + e) → gPr M (mA M 22 (4 * (12 * e + k) + 1)) ∧ gPr M (mA M 22 (4 * (12 * e + k) + 2))) ∧ (∀ k, k < mN M 23 → (∃ d, d < mN M 11 ∧ mA M 24 k = nI d) ∧ ∃ p, p < mN M 8 ∧ mA M 25 k = nI p) ∧ ∀ d, d < mN M 11 → gPr M (mA M 43 d)) ∧
  ((∀ c, c < mN M 6 → gWt 9 (mA M 7 c)) ∧ (∀ p, p < mN M 8 → gWt 3 (mA M 9 p) ∧ gWt 9 (mA M 41 p) ∧ gWt 2 (mA M 42 p)) ∧ (∀ d j, d < mN M 11 → j < mN M (100 + d) → gWt 127 (mT M 13 d j) ∧ gWt 9 (mT M 14 d j) ∧ gWt 1 (mT M 15 d j)) ∧ (∀ k, k < mN M 23 → gWt 2 (mA M 46 k)) ∧ True) ∧ gZero M
theorem gInv.c {M : gM} (i : gInv M) {d : Nat} (h : d < mN M 11) : ∃ c, c < mN M 6 ∧ mA M 12 d = nI c := i.2.2.1.1 d h
theorem gInv.x {M : gM} (i : gInv M) {e : Nat} (h : e < mN M 17) : ∃ c, c < mN M 6 ∧ mA M 18 e = nI c := i.2.2.1.2.1 e h
theorem gInv.w {M : gM} (i : gInv M) {e : Nat} (h : e < mN M 17) : gWho M (mA M 19 e) := i.2.2.1.2.2.1 e h
theorem gInv.k {M : gM} (i : gInv M) {e k : Nat} (h : e < mN M 17) (hk : k < mN M (200 + e)) : gPr M (mA M 22 (4 * (12 * e + k) + 1)) ∧ gPr M (mA M 22 (4 * (12 * e + k) + 2)) := i.2.2.1.2.2.2.1 e k h hk
theorem gInv.l {M : gM} (i : gInv M) {k : Nat} (h : k < mN M 23) : (∃ d, d < mN M 11 ∧ mA M 24 k = nI d) ∧ ∃ p, p < mN M 8 ∧ mA M 25 k = nI p := i.2.2.1.2.2.2.2.1 k h
theorem gInv.p {M : gM} (i : gInv M) {d : Nat} (h : d < mN M 11) : gPr M (mA M 43 d) := i.2.2.1.2.2.2.2.2 d h
theorem gInv.b {M : gM} (i : gInv M) : mN M 6 ≤ 8 ∧ mN M 8 ≤ 12 ∧ mN M 11 ≤ 24 ∧ mN M 17 ≤ 20 ∧ mN M 23 ≤ 40 ∧ mN M 2 ≤ 1000 ∧ mN M 5 ≤ 2500 := ⟨i.1.1, i.1.2.1, i.1.2.2.1, i.1.2.2.2.1, i.1.2.2.2.2, i.2.1.1, i.2.1.2.1⟩
theorem gInv.t {M : gM} (i : gInv M) {d : Nat} (h : d < mN M 11) : mN M (100 + d) ≤ 2500 := i.2.1.2.2.1 d h
theorem gInv.e {M : gM} (i : gInv M) (e : Nat) : mN M (200 + e) ≤ 12 := i.2.1.2.2.2 e
/-- a public method of the reference -/
def gAn (S : gS) (y : Nat) (t : Nat) (M : gM) (v : Option Value) (v' : Option Value) (S' : gS) : Prop := v' = v ∧ gX S' 11 0 y = nI t ∧ ∃ b', gRef S' y b' M ∧ gFr gCk S S'
theorem gFr_th {S : gS} {y : Nat} {v : Int32} : gFr gCk S (sX S 11 0 y v) := (gFr_X _ _ _ _ _).mono (fun k z => by unfold gCk at z; omega)
