/-! ===== the reference: parse ===== -/
def gQ9 (k : Nat) : Prop := gQk k ∧ k ≠ 17 + 32 * 90
def gW9 (S St : gS) (y : Nat) : Prop := (∀ p, p < 32 → gX St 11 p y = gX S 11 p y) ∧ gFr gQ9 S St
theorem gW9_wr {S St : gS} {y : Nat} {b : Nat → Nat → Nat} {W : Nat} {one own mk : Int32} (h : gW9 S St y) : gW9 S (wrS St y b W one own mk) y := ⟨fun p hp => wrS_p (by omega) (h.1 p hp), h.2.tr wrS_fr (fun _ z => ⟨z, z.1⟩)⟩
theorem gW9_t {S St : gS} {y a j : Nat} {v : Int32} (h : gW9 S St y) : gW9 S (sX St (17 + 32 * 90) a j v) y := ⟨fun p hp => sX_k (by decide) (h.1 p hp), h.2.X1 _ _ _ (fun _ z => z.2)⟩
theorem gW9_11 {S St : gS} {y p : Nat} {v : Int32} (h : gW9 S St y) (hp : 32 ≤ p) : gW9 S (sX St 11 p y v) y := ⟨fun p' hp' => sX_p (by omega) (h.1 p' hp'), h.2.X1 _ _ _ (fun _ z => z.1.1)⟩
theorem gW9_w {S St S2 : gS} {y : Nat} {b : Nat → Nat → Nat} {M : gM} {W W' : Nat} (h : gW9 S St y) (h2 : gWr St S2 y b M W W') : gW9 S S2 y := ⟨fun p hp => (h2.2.2.1 p (by omega)).trans (h.1 p hp), h.2.tr h2.2.2.2 (fun _ z => ⟨z, z.1⟩)⟩
theorem gPs_t {S : gS} {y a j : Nat} {b : Nat → Nat → Nat} {M D : gM} {W : Nat} {v : Int32} (h : gPs S y b M D W) : gPs (sX S (17 + 32 * 90) a j v) y b M D W := by
  obtain ⟨h1, h2, h3, h4, h5⟩ := h
  exact ⟨gRef_mono h1 (gFr_X _ _ _ _ _) (fun κ z e => gRk_9 (e ▸ z)), sX_k (by decide) h2, sX_k (by decide) h3, sX_k (by decide) h4, fun hf => ⟨(h5 hf).1, fun j hj => ⟨sX_k (by decide) ((h5 hf).2 j hj).1, sX_k (by decide) ((h5 hf).2 j hj).2.1, sX_k (by decide) ((h5 hf).2 j hj).2.2⟩⟩⟩
theorem gAr_lev {S : gS} {q : Nat} {D : gM} {v : Int32} (h : gAr S q D) : gAr (sX S (17 + 32 * 90) q (mN D 1 + 1) (if mA D 3 (mN D 1) < v - nI 48 then v - nI 48 else mA D 3 (mN D 1))) q (uN (dLev (uN D 2 1) v) 2 0) := by
  refine ⟨h.1, h.2.1, fun j hj => ?_⟩
  have hj : j ≤ mN D 1 + 1 := hj
  by_cases z : j = mN D 1 + 1
  · rw [z]
    exact sX_s.trans (show mA (uA D 3 (mN D 1 + 1) (if mA D 3 (mN D 1) < v - nI 48 then v - nI 48 else mA D 3 (mN D 1))) 3 (mN D 1 + 1) = _ from uA_s).symm
  · exact sX_q z ((h.2.2 j (by omega)).trans (show mA (uA D 3 (mN D 1 + 1) (if mA D 3 (mN D 1) < v - nI 48 then v - nI 48 else mA D 3 (mN D 1))) 3 j = mA D 3 j from uA_i z).symm)
theorem gAr_put {S S' : gS} {q : Nat} {D : gM} {v m : Int32} (h : gAr S q D) (F : gFr gQk S S') : gAr S' q (dPut D v m) := ⟨(gAr_fr h F).1, (gAr_fr h F).2.1, fun j hj => ((gAr_fr h F).2.2 j hj).trans (dPut_o D v m (Or.inr (by omega))).symm⟩
theorem dPut_3 {D : gM} {v m : Int32} {f j : Nat} (h : 2 < f) : mA (dPut D v m) f j = mA D f j := dPut_o D v m (Or.inr h)
theorem dExT_3 {D : gM} {o f j : Nat} (h : 2 < f) : mA (dExT D o) f j = mA D f j := by
  have e9 : mA (dEx9 D) f j = mA D f j := (dPut_3 h).trans ((dPut_3 h).trans ((dPut_3 h).trans (dPut_3 h)))
  unfold dExT
  refine (dPut_3 h).trans ?_
  split
  · exact e9
  · exact (dPut_3 h).trans e9
theorem dEnd_3 {X : gM} {j : Nat} : mA (dEnd X) 3 j = mA X 3 j := by
  unfold dEnd
  split
  · rw [dEx_T, dExT_3 (by omega)]
    exact uA_f (by omega)
  · unfold dFar
    split
    · exact uA_f (by omega)
    · rfl
theorem dEnd_o {X : gM} : mA (dEnd X) 4 2 = mA X 4 2 := by
  unfold dEnd
  split
  · rw [dEx_T, dExT_3 (by omega)]
    exact uA_i (by omega)
  · unfold dFar
    split
    · exact uA_i (by omega)
    · rfl
def dEq (A B : gM) : Prop := mN A 0 = mN B 0 ∧ mN A 1 = mN B 1 ∧ ∀ f j, f < 4 → mA A f j = mA B f j
theorem dEq_put {A B : gM} {v m : Int32} (h : dEq A B) : dEq (dPut A v m) (dPut B v m) := by
  refine ⟨by show mN A 0 + 1 = mN B 0 + 1; rw [h.1], h.2.1, fun f j hf => ?_⟩
  rw [dPut_a, dPut_a, h.1, h.2.1, h.2.2 3 _ (by omega), h.2.2 f j hf]
theorem dEq_T {A B : gM} {o : Nat} (h : dEq A B) : dEq (dExT A o) (dExT B o) := by
  have h9 : dEq (dEx9 A) (dEx9 B) := dEq_put (dEq_put (dEq_put (dEq_put h)))
  unfold dExT
  split
  · exact dEq_put h9
  · exact dEq_put (dEq_put h9)
theorem gNok_no {Du : gM} {u : Nat} {v : Int32} (h3 : mN Du 3 = u) (hx : u = 12 ∨ dLet v = false) (hy : u = 0 ∨ ¬ v = nI 125) : dNok Du v = false := by
  unfold dNok
  by_cases z : v = nI 125
  · rw [if_pos z]
    exact decide_eq_false (by rcases hy with y | y; omega; exact absurd z y)
  · rw [if_neg z]
    rcases hx with y | y
    · rw [decide_eq_false (show ¬ mN Du 3 < 12 by omega)]; rfl
    · rw [y, Bool.and_false]
def gPI (S St : gS) (y : Nat) (b : Nat → Nat → Nat) (M : gM) (c q t : Nat) (D : gM) (W : Nat) : Prop := gSet (mA M 1) (gOwn M c) (mN M 2) t D ∧ gPs St y b M D W ∧ gAr St q D ∧ 2 * W ≤ 5 * t ∧ (mA D 4 2 = gOwn M c ∧ (mA D 4 1 = -1 ∨ ¬ mA D 4 1 < 0)) ∧ gW9 S St y

theorem kN_bit (P : Nat → Bool) (j : Nat) : ∀ n, kN P n / 2 ^ j % 2 = if j < n ∧ P j = true then 1 else 0
  | 0 => by
    rw [if_neg (fun z => absurd z.1 (Nat.not_lt_zero j))]
    show 0 / 2 ^ j % 2 = 0
    rw [Nat.zero_div]
  | n + 1 => by
    have ih := kN_bit P j n
    have hl := kN_lt P n
    have hp : 0 < 2 ^ j := Nat.two_pow_pos j
    cases e : P n with
    | false =>
      have e1 : kN P (n + 1) = kN P n := if_neg (by rw [e]; decide)
      rw [e1, ih]
      by_cases z : j = n
      · rw [if_neg (fun y => by omega), if_neg (fun y => by rw [z, e] at y; exact absurd y.2 (by decide))]
      · by_cases w : j < n ∧ P j = true
        · rw [if_pos w, if_pos ⟨by omega, w.2⟩]
        · rw [if_neg w, if_neg (fun y => w ⟨by omega, y.2⟩)]
    | true =>
      have e1 : kN P (n + 1) = kN P n + 2 ^ n := if_pos e
      rw [e1]
      rcases Nat.lt_trichotomy j n with z | z | z
      · have h2 : 2 ^ n = 2 ^ j * 2 ^ (n - j) := by rw [← Nat.pow_add, show j + (n - j) = n by omega]
        have h3 : 2 ^ (n - j) = 2 * 2 ^ (n - j - 1) := by rw [← Nat.pow_succ', show (n - j - 1).succ = n - j by omega]
        rw [h2, Nat.add_mul_div_left _ _ hp, h3, Nat.add_mul_mod_self_left, ih]
        by_cases w : j < n ∧ P j = true
        · rw [if_pos w, if_pos ⟨by omega, w.2⟩]
        · rw [if_neg w, if_neg (fun y => w ⟨z, y.2⟩)]
      · subst z
        rw [if_pos ⟨by omega, e⟩, Nat.add_div_right _ hp, Nat.div_eq_of_lt hl]
      · have h4 : 2 ^ (n + 1) ≤ 2 ^ j := Nat.pow_le_pow_right (by decide) (by omega)
        rw [if_neg (fun y => by omega), Nat.div_eq_of_lt (by rw [Nat.pow_succ] at h4; omega)]
theorem gOwn_bit {M : gM} {c o : Nat} (hN : mN M 17 ≤ 20) (ho : o < 20) : gBit (gOwn M c) o = decide (o < mN M 17 ∧ mA M 18 o = nI c) := by
  have hk : gOwn M c = nI (kN (fun k => decide (mA M 18 k = nI c)) (mN M 17)) := gor_kN _ _ (by omega)
  have hl := kN_lt (fun k => decide (mA M 18 k = nI c)) (mN M 17)
  have h20 : 2 ^ mN M 17 ≤ 2 ^ 20 := Nat.pow_le_pow_right (by decide) hN
  have e0 : (nI o &&& 31 : Int32) = nI o := by
    have := pk_andN (n := o) (by omega) (m := 31) 5 (by decide)
    rw [this, Nat.mod_eq_of_lt (by omega)]
  have hs : ((nI o).toBitVec.smod 32).toNat = o := by
    have hk : ∀ m : Fin 31, ((nI m.val).toBitVec.smod 32).toNat = m.val := by decide +kernel
    exact hk ⟨o, by omega⟩
  unfold gBit
  rw [hk, e0, pk_shrN (by omega) (nI o) o hs, nI_andN, Nat.and_one_is_mod, kN_bit]
  by_cases w : o < mN M 17 ∧ mA M 18 o = nI c
  · rw [if_pos ⟨w.1, decide_eq_true w.2⟩, decide_eq_true w, decide_eq_true rfl]
  · rw [if_neg (fun y => w ⟨y.1, of_decide_eq_true y.2⟩), decide_eq_false w, decide_eq_false (by decide)]
