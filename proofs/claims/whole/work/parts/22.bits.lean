/-! ===== Integer.bitCount ===== -/
section GLDCW
variable {Γ : gC} {own : String} {cc : ByteArray} {n mc ms pc : Nat} {lo : List (Option Value)} {st : List Value} {S : gS} {k sl : Nat}
theorem g_ldcw (G : gOK Γ own cc n mc ms) {index : Nat} {v : Int32} (hw : Cond.constant own index v ∈ gWords) (d : decode cc pc = .ok (.ldc_w index, 3)) (kk : gW Γ (pc + 3) lo (.int v :: st) S k sl) : gW Γ pc lo (st) S k sl := by
  obtain ⟨p, l, e1, R, s, m, args, below, meth, c, Q, A, D, cT, d0⟩ := Γ
  obtain ⟨hx, hb, hown, hts, hK, hA, hV, hRf, hRl, hRc, hRs⟩ := G
  intro H locs ls hR hS hL
  exact lv_ldcw hx hb hown (hts _ hw) d (kk H locs ls hR hS hL)
theorem g_dconst1 (G : gOK Γ own cc n mc ms) (d : decode cc pc = .ok (.dconst 1, 1)) (kk : gW Γ (pc + 1) lo (.double FP.dconst1 :: st) S k sl) : gW Γ pc lo (st) S k sl := by
  obtain ⟨p, l, e1, R, s, m, args, below, meth, c, Q, A, D, cT, d0⟩ := Γ
  obtain ⟨hx, hb, hown, hts, hK, hA, hV, hRf, hRl, hRc, hRs⟩ := G
  intro H locs ls hR hS hL
  exact lv_dconst1 hx hb d (kk H locs ls hR hS hL)
end GLDCW
theorem nI_andN (a b : Nat) : nI a &&& nI b = nI (a &&& b) := by
  apply Int32.toBitVec_inj.1
  show BitVec.ofNat 32 a &&& BitVec.ofNat 32 b = BitVec.ofNat 32 (a &&& b)
  apply BitVec.eq_of_getLsbD_eq
  intro i hi
  simp [hi]
theorem nI_orN (a b : Nat) : nI a ||| nI b = nI (a ||| b) := by
  apply Int32.toBitVec_inj.1
  show BitVec.ofNat 32 a ||| BitVec.ofNat 32 b = BitVec.ofNat 32 (a ||| b)
  apply BitVec.eq_of_getLsbD_eq
  intro i hi
  simp [hi]
def bcA (k : Nat) : Nat := k - ((k / 2 ^ 1) &&& 1431655765)
def bcB (k : Nat) : Nat := (bcA k &&& 858993459) + ((bcA k / 2 ^ 2) &&& 858993459)
def bcC (k : Nat) : Nat := (bcB k + bcB k / 2 ^ 4) &&& 252645135
def bcD (k : Nat) : Nat := bcC k + bcC k / 2 ^ 8
def bcN (k : Nat) : Nat := (bcD k + bcD k / 2 ^ 16) &&& 63
def kN (P : Nat → Bool) : Nat → Nat
  | 0 => 0
  | n + 1 => if P n then kN P n + 2 ^ n else kN P n
theorem kN_lt (P : Nat → Bool) : ∀ n, kN P n < 2 ^ n
  | 0 => by show 0 < 2 ^ 0; decide
  | n + 1 => by
    have := kN_lt P n
    rw [Nat.pow_succ]
    unfold kN
    split <;> omega
theorem nSp (x M : Nat) : x &&& M = ((x % 16) &&& (M % 16)) + 16 * ((x / 16) &&& (M / 16)) := by
  have h1 := Nat.and_mod_two_pow (a := x) (b := M) (n := 4)
  have h2 := Nat.and_div_two_pow (a := x) (b := M) (n := 4)
  have h3 := Nat.div_add_mod (x &&& M) (2 ^ 4)
  rw [h1, h2] at h3
  show x &&& M = ((x % 2 ^ 4) &&& (M % 2 ^ 4)) + 2 ^ 4 * ((x / 2 ^ 4) &&& (M / 2 ^ 4))
  omega
def ppA (n : Nat) : Nat := n - ((n / 2) &&& 5)
def pp (n : Nat) : Nat := (ppA n &&& 3) + ((ppA n / 4) &&& 3)
def bbA (m1 k : Nat) : Nat := k - ((k / 2) &&& m1)
def bbB (m1 m2 k : Nat) : Nat := (bbA m1 k &&& m2) + ((bbA m1 k / 4) &&& m2)
theorem bbA_s {m1 n r : Nat} (hn : n < 16) : bbA (5 + 16 * m1) (n + 16 * r) = ppA n + 16 * bbA m1 r := by
  unfold bbA ppA
  have e := nSp ((n + 16 * r) / 2) (5 + 16 * m1)
  have e1 : (n + 16 * r) / 2 % 16 = n / 2 + 8 * (r % 2) := by omega
  have e2 : (n + 16 * r) / 2 / 16 = r / 2 := by omega
  have e3 : (5 + 16 * m1) % 16 = 5 := by omega
  have e4 : (5 + 16 * m1) / 16 = m1 := by omega
  have e5 : (n / 2 + 8 * (r % 2)) &&& 5 = (n / 2) &&& 5 := by
    have hk : ∀ a : Fin 16, ∀ u : Fin 2, (a.val / 2 + 8 * u.val) &&& 5 = (a.val / 2) &&& 5 := by decide +kernel
    exact hk ⟨n, hn⟩ ⟨r % 2, by omega⟩
  rw [e1, e2, e3, e4, e5] at e
  have l1 : ((n / 2) &&& 5) ≤ n / 2 := Nat.and_le_left
  have l2 : ((r / 2) &&& m1) ≤ r / 2 := Nat.and_le_left
  rw [e]
  omega
theorem bbB_s {m1 m2 n r : Nat} (hn : n < 16) : bbB (5 + 16 * m1) (3 + 16 * m2) (n + 16 * r) = pp n + 16 * bbB m1 m2 r := by
  unfold bbB pp
  rw [bbA_s hn]
  have ha : ppA n < 16 := Nat.lt_of_le_of_lt (Nat.sub_le _ _) hn
  generalize ppA n = a at ha
  generalize bbA m1 r = b
  have e := nSp (a + 16 * b) (3 + 16 * m2)
  have f := nSp ((a + 16 * b) / 4) (3 + 16 * m2)
  have e1 : (a + 16 * b) % 16 = a := by omega
  have e2 : (a + 16 * b) / 16 = b := by omega
  have e3 : (3 + 16 * m2) % 16 = 3 := by omega
  have e4 : (3 + 16 * m2) / 16 = m2 := by omega
  have f1 : (a + 16 * b) / 4 % 16 = a / 4 + 4 * (b % 4) := by omega
  have f2 : (a + 16 * b) / 4 / 16 = b / 4 := by omega
  have f5 : (a / 4 + 4 * (b % 4)) &&& 3 = (a / 4) &&& 3 := by
    have hk : ∀ a : Fin 16, ∀ u : Fin 4, (a.val / 4 + 4 * u.val) &&& 3 = (a.val / 4) &&& 3 := by decide +kernel
    exact hk ⟨a, ha⟩ ⟨b % 4, by omega⟩
  rw [e1, e2, e3, e4] at e
  rw [f1, f2, e3, e4, f5] at f
  rw [e, f]
  omega
theorem bcB_n {k : Nat} (hk : k < 2 ^ 20) : bcB k = pp (k % 16) + 16 * pp (k / 16 % 16) + 256 * pp (k / 256 % 16) + 4096 * pp (k / 4096 % 16) + 65536 * pp (k / 65536) := by
  have e0 : bcB k = bbB (5 + 16 * (5 + 16 * (5 + 16 * (5 + 16 * (5 + 16 * 1365))))) (3 + 16 * (3 + 16 * (3 + 16 * (3 + 16 * (3 + 16 * 819))))) k := rfl
  have e5 := bbB_s (m1 := 1365) (m2 := 819) (n := k / 65536) (r := 0) (by omega)
  have e6 : bbB 1365 819 0 = 0 := by decide
  rw [show k / 65536 + 16 * 0 = k / 65536 by omega, e6] at e5
  have e4 := bbB_s (m1 := 5 + 16 * 1365) (m2 := 3 + 16 * 819) (n := k / 4096 % 16) (r := k / 65536) (by omega)
  rw [show k / 4096 % 16 + 16 * (k / 65536) = k / 4096 by omega, e5] at e4
  have e3 := bbB_s (m1 := 5 + 16 * (5 + 16 * 1365)) (m2 := 3 + 16 * (3 + 16 * 819)) (n := k / 256 % 16) (r := k / 4096) (by omega)
  rw [show k / 256 % 16 + 16 * (k / 4096) = k / 256 by omega, e4] at e3
  have e2 := bbB_s (m1 := 5 + 16 * (5 + 16 * (5 + 16 * 1365))) (m2 := 3 + 16 * (3 + 16 * (3 + 16 * 819))) (n := k / 16 % 16) (r := k / 256) (by omega)
  rw [show k / 16 % 16 + 16 * (k / 256) = k / 16 by omega, e3] at e2
  have e1 := bbB_s (m1 := 5 + 16 * (5 + 16 * (5 + 16 * (5 + 16 * 1365)))) (m2 := 3 + 16 * (3 + 16 * (3 + 16 * (3 + 16 * 819)))) (n := k % 16) (r := k / 16) (by omega)
  rw [show k % 16 + 16 * (k / 16) = k by omega, e2] at e1
  rw [e0, e1]
  omega
theorem pp_le {n : Nat} (h : n < 16) : pp n ≤ 4 := by
  have hk : ∀ a : Fin 16, pp a.val ≤ 4 := by decide +kernel
  exact hk ⟨n, h⟩
theorem bcN_pp {k : Nat} (hk : k < 2 ^ 20) : bcN k = pp (k % 16) + pp (k / 16 % 16) + pp (k / 256 % 16) + pp (k / 4096 % 16) + pp (k / 65536) := by
  have hB := bcB_n hk
  have p0 := pp_le (n := k % 16) (by omega)
  have p1 := pp_le (n := k / 16 % 16) (by omega)
  have p2 := pp_le (n := k / 256 % 16) (by omega)
  have p3 := pp_le (n := k / 4096 % 16) (by omega)
  have p4 := pp_le (n := k / 65536) (by omega)
  unfold bcN bcD bcC
  generalize bcB k = B at hB
  generalize pp (k % 16) = a at hB p0
  generalize pp (k / 16 % 16) = b at hB p1
  generalize pp (k / 256 % 16) = c at hB p2
  generalize pp (k / 4096 % 16) = d at hB p3
  generalize pp (k / 65536) = e at hB p4
  have hm : ∀ x, x &&& 15 = x % 16 := fun x => Nat.and_two_pow_sub_one_eq_mod x 4
  have h63 : ∀ x, x &&& 63 = x % 64 := fun x => Nat.and_two_pow_sub_one_eq_mod x 6
  obtain ⟨X, hX⟩ : ∃ X, X = B + B / 2 ^ 4 := ⟨_, rfl⟩
  have hX2 : X = (a + b) + 16 * (b + c) + 256 * (c + d) + 4096 * (d + e) + 65536 * e := by omega
  have c0 : X &&& 252645135 = X % 16 + 16 * ((X / 16) &&& 15790320) := by rw [nSp X 252645135, show 252645135 % 16 = 15 from rfl, show 252645135 / 16 = 15790320 from rfl, hm, Nat.mod_mod]
  have c1 : (X / 16) &&& 15790320 = 16 * ((X / 256) &&& 986895) := by
    rw [nSp (X / 16) 15790320, show 15790320 % 16 = 0 from rfl, Nat.and_zero, Nat.zero_add, show X / 16 / 16 = X / 256 by omega]
  have c2 : (X / 256) &&& 986895 = X / 256 % 16 + 16 * ((X / 4096) &&& 61680) := by rw [nSp (X / 256) 986895, show 986895 % 16 = 15 from rfl, show 986895 / 16 = 61680 from rfl, hm, Nat.mod_mod, show X / 256 / 16 = X / 4096 by omega]
  have c3 : (X / 4096) &&& 61680 = 16 * ((X / 65536) &&& 3855) := by
    rw [nSp (X / 4096) 61680, show 61680 % 16 = 0 from rfl, Nat.and_zero, Nat.zero_add, show X / 4096 / 16 = X / 65536 by omega]
  have c4 : (X / 65536) &&& 3855 = X / 65536 % 16 := by
    rw [nSp (X / 65536) 3855, show 3855 % 16 = 15 from rfl, hm, Nat.mod_mod, show X / 65536 / 16 = 0 by omega, Nat.zero_and, Nat.mul_zero, Nat.add_zero]
  have g1 : X % 16 = a + b := by omega
  have q2 : X / 256 = (c + d) + 16 * (d + e) + 256 * e := by clear c0 c1 c2 c3 c4; omega
  have q3 : X / 65536 = e := by clear c0 c1 c2 c3 c4; omega
  have g2 : X / 256 % 16 = c + d := by rw [q2]; clear c0 c1 c2 c3 c4; omega
  have g3 : X / 65536 % 16 = e := by rw [q3]; clear c0 c1 c2 c3 c4; omega
  rw [← hX, c0, c1, c2, c3, c4, h63, g1, g2, g3]
  clear c0 c1 c2 c3 c4 g1 g2 g3 hX hX2 hB hm h63 q2 q3
  obtain ⟨C, hC⟩ : ∃ C, C = a + b + 16 * (16 * (c + d + 16 * (16 * e))) := ⟨_, rfl⟩
  rw [← hC]
  have h1 : C / 2 ^ 8 = (c + d) + 256 * e := by omega
  rw [h1]
  have h2 : (C + ((c + d) + 256 * e)) / 2 ^ 16 = e := by omega
  rw [h2, hC]
  omega
theorem bcN_bit {x j : Nat} (hj : j < 20) (hx : x < 2 ^ j) : bcN (x + 2 ^ j) = bcN x + 1 := by
  have h0 : 2 ^ j * 2 ≤ 2 ^ 20 := by rw [← Nat.pow_succ]; exact Nat.pow_le_pow_right (by omega) (by omega)
  have hp : ∀ (s y : Nat), s < 4 → y < 2 ^ s → pp (y + 2 ^ s) = pp y + 1 := by
    have hk : ∀ s : Fin 4, ∀ y : Fin 16, y.val < 2 ^ s.val → pp (y.val + 2 ^ s.val) = pp y.val + 1 := by decide +kernel
    intro s y h1 h2
    have h3 : 2 ^ s ≤ 2 ^ 3 := Nat.pow_le_pow_right (by omega) (by omega)
    exact hk ⟨s, h1⟩ ⟨y, by omega⟩ h2
  rw [bcN_pp (k := x + 2 ^ j) (by omega), bcN_pp (k := x) (by omega)]
  clear h0
  obtain rfl | rfl | rfl | rfl | rfl | rfl | rfl | rfl | rfl | rfl | rfl | rfl | rfl | rfl | rfl | rfl | rfl | rfl | rfl | rfl := (show j = 0 ∨ j = 1 ∨ j = 2 ∨ j = 3 ∨ j = 4 ∨ j = 5 ∨ j = 6 ∨ j = 7 ∨ j = 8 ∨ j = 9 ∨ j = 10 ∨ j = 11 ∨ j = 12 ∨ j = 13 ∨ j = 14 ∨ j = 15 ∨ j = 16 ∨ j = 17 ∨ j = 18 ∨ j = 19 by omega)
  · rw [show (x + 2 ^ 0) % 16 = x % 16 + 2 ^ 0 by omega, show (x + 2 ^ 0) / 16 % 16 = x / 16 % 16 by omega, show (x + 2 ^ 0) / 256 % 16 = x / 256 % 16 by omega, show (x + 2 ^ 0) / 4096 % 16 = x / 4096 % 16 by omega, show (x + 2 ^ 0) / 65536 = x / 65536 by omega, hp 0 (x % 16) (by omega) (by omega)]
    omega
  · rw [show (x + 2 ^ 1) % 16 = x % 16 + 2 ^ 1 by omega, show (x + 2 ^ 1) / 16 % 16 = x / 16 % 16 by omega, show (x + 2 ^ 1) / 256 % 16 = x / 256 % 16 by omega, show (x + 2 ^ 1) / 4096 % 16 = x / 4096 % 16 by omega, show (x + 2 ^ 1) / 65536 = x / 65536 by omega, hp 1 (x % 16) (by omega) (by omega)]
    omega
  · rw [show (x + 2 ^ 2) % 16 = x % 16 + 2 ^ 2 by omega, show (x + 2 ^ 2) / 16 % 16 = x / 16 % 16 by omega, show (x + 2 ^ 2) / 256 % 16 = x / 256 % 16 by omega, show (x + 2 ^ 2) / 4096 % 16 = x / 4096 % 16 by omega, show (x + 2 ^ 2) / 65536 = x / 65536 by omega, hp 2 (x % 16) (by omega) (by omega)]
    omega
  · rw [show (x + 2 ^ 3) % 16 = x % 16 + 2 ^ 3 by omega, show (x + 2 ^ 3) / 16 % 16 = x / 16 % 16 by omega, show (x + 2 ^ 3) / 256 % 16 = x / 256 % 16 by omega, show (x + 2 ^ 3) / 4096 % 16 = x / 4096 % 16 by omega, show (x + 2 ^ 3) / 65536 = x / 65536 by omega, hp 3 (x % 16) (by omega) (by omega)]
    omega
  · rw [show (x + 2 ^ 4) % 16 = x % 16 by omega, show (x + 2 ^ 4) / 16 % 16 = x / 16 % 16 + 2 ^ 0 by omega, show (x + 2 ^ 4) / 256 % 16 = x / 256 % 16 by omega, show (x + 2 ^ 4) / 4096 % 16 = x / 4096 % 16 by omega, show (x + 2 ^ 4) / 65536 = x / 65536 by omega, hp 0 (x / 16 % 16) (by omega) (by omega)]
    omega
  · rw [show (x + 2 ^ 5) % 16 = x % 16 by omega, show (x + 2 ^ 5) / 16 % 16 = x / 16 % 16 + 2 ^ 1 by omega, show (x + 2 ^ 5) / 256 % 16 = x / 256 % 16 by omega, show (x + 2 ^ 5) / 4096 % 16 = x / 4096 % 16 by omega, show (x + 2 ^ 5) / 65536 = x / 65536 by omega, hp 1 (x / 16 % 16) (by omega) (by omega)]
    omega
  · rw [show (x + 2 ^ 6) % 16 = x % 16 by omega, show (x + 2 ^ 6) / 16 % 16 = x / 16 % 16 + 2 ^ 2 by omega, show (x + 2 ^ 6) / 256 % 16 = x / 256 % 16 by omega, show (x + 2 ^ 6) / 4096 % 16 = x / 4096 % 16 by omega, show (x + 2 ^ 6) / 65536 = x / 65536 by omega, hp 2 (x / 16 % 16) (by omega) (by omega)]
    omega
  · rw [show (x + 2 ^ 7) % 16 = x % 16 by omega, show (x + 2 ^ 7) / 16 % 16 = x / 16 % 16 + 2 ^ 3 by omega, show (x + 2 ^ 7) / 256 % 16 = x / 256 % 16 by omega, show (x + 2 ^ 7) / 4096 % 16 = x / 4096 % 16 by omega, show (x + 2 ^ 7) / 65536 = x / 65536 by omega, hp 3 (x / 16 % 16) (by omega) (by omega)]
    omega
  · rw [show (x + 2 ^ 8) % 16 = x % 16 by omega, show (x + 2 ^ 8) / 16 % 16 = x / 16 % 16 by omega, show (x + 2 ^ 8) / 256 % 16 = x / 256 % 16 + 2 ^ 0 by omega, show (x + 2 ^ 8) / 4096 % 16 = x / 4096 % 16 by omega, show (x + 2 ^ 8) / 65536 = x / 65536 by omega, hp 0 (x / 256 % 16) (by omega) (by omega)]
    omega
  · rw [show (x + 2 ^ 9) % 16 = x % 16 by omega, show (x + 2 ^ 9) / 16 % 16 = x / 16 % 16 by omega, show (x + 2 ^ 9) / 256 % 16 = x / 256 % 16 + 2 ^ 1 by omega, show (x + 2 ^ 9) / 4096 % 16 = x / 4096 % 16 by omega, show (x + 2 ^ 9) / 65536 = x / 65536 by omega, hp 1 (x / 256 % 16) (by omega) (by omega)]
    omega
  · rw [show (x + 2 ^ 10) % 16 = x % 16 by omega, show (x + 2 ^ 10) / 16 % 16 = x / 16 % 16 by omega, show (x + 2 ^ 10) / 256 % 16 = x / 256 % 16 + 2 ^ 2 by omega, show (x + 2 ^ 10) / 4096 % 16 = x / 4096 % 16 by omega, show (x + 2 ^ 10) / 65536 = x / 65536 by omega, hp 2 (x / 256 % 16) (by omega) (by omega)]
    omega
  · rw [show (x + 2 ^ 11) % 16 = x % 16 by omega, show (x + 2 ^ 11) / 16 % 16 = x / 16 % 16 by omega, show (x + 2 ^ 11) / 256 % 16 = x / 256 % 16 + 2 ^ 3 by omega, show (x + 2 ^ 11) / 4096 % 16 = x / 4096 % 16 by omega, show (x + 2 ^ 11) / 65536 = x / 65536 by omega, hp 3 (x / 256 % 16) (by omega) (by omega)]
    omega
  · rw [show (x + 2 ^ 12) % 16 = x % 16 by omega, show (x + 2 ^ 12) / 16 % 16 = x / 16 % 16 by omega, show (x + 2 ^ 12) / 256 % 16 = x / 256 % 16 by omega, show (x + 2 ^ 12) / 4096 % 16 = x / 4096 % 16 + 2 ^ 0 by omega, show (x + 2 ^ 12) / 65536 = x / 65536 by omega, hp 0 (x / 4096 % 16) (by omega) (by omega)]
    omega
  · rw [show (x + 2 ^ 13) % 16 = x % 16 by omega, show (x + 2 ^ 13) / 16 % 16 = x / 16 % 16 by omega, show (x + 2 ^ 13) / 256 % 16 = x / 256 % 16 by omega, show (x + 2 ^ 13) / 4096 % 16 = x / 4096 % 16 + 2 ^ 1 by omega, show (x + 2 ^ 13) / 65536 = x / 65536 by omega, hp 1 (x / 4096 % 16) (by omega) (by omega)]
    omega
  · rw [show (x + 2 ^ 14) % 16 = x % 16 by omega, show (x + 2 ^ 14) / 16 % 16 = x / 16 % 16 by omega, show (x + 2 ^ 14) / 256 % 16 = x / 256 % 16 by omega, show (x + 2 ^ 14) / 4096 % 16 = x / 4096 % 16 + 2 ^ 2 by omega, show (x + 2 ^ 14) / 65536 = x / 65536 by omega, hp 2 (x / 4096 % 16) (by omega) (by omega)]
    omega
  · rw [show (x + 2 ^ 15) % 16 = x % 16 by omega, show (x + 2 ^ 15) / 16 % 16 = x / 16 % 16 by omega, show (x + 2 ^ 15) / 256 % 16 = x / 256 % 16 by omega, show (x + 2 ^ 15) / 4096 % 16 = x / 4096 % 16 + 2 ^ 3 by omega, show (x + 2 ^ 15) / 65536 = x / 65536 by omega, hp 3 (x / 4096 % 16) (by omega) (by omega)]
    omega
  · rw [show (x + 2 ^ 16) % 16 = x % 16 by omega, show (x + 2 ^ 16) / 16 % 16 = x / 16 % 16 by omega, show (x + 2 ^ 16) / 256 % 16 = x / 256 % 16 by omega, show (x + 2 ^ 16) / 4096 % 16 = x / 4096 % 16 by omega, show (x + 2 ^ 16) / 65536 = x / 65536 + 2 ^ 0 by omega, hp 0 (x / 65536) (by omega) (by omega)]
    omega
  · rw [show (x + 2 ^ 17) % 16 = x % 16 by omega, show (x + 2 ^ 17) / 16 % 16 = x / 16 % 16 by omega, show (x + 2 ^ 17) / 256 % 16 = x / 256 % 16 by omega, show (x + 2 ^ 17) / 4096 % 16 = x / 4096 % 16 by omega, show (x + 2 ^ 17) / 65536 = x / 65536 + 2 ^ 1 by omega, hp 1 (x / 65536) (by omega) (by omega)]
    omega
  · rw [show (x + 2 ^ 18) % 16 = x % 16 by omega, show (x + 2 ^ 18) / 16 % 16 = x / 16 % 16 by omega, show (x + 2 ^ 18) / 256 % 16 = x / 256 % 16 by omega, show (x + 2 ^ 18) / 4096 % 16 = x / 4096 % 16 by omega, show (x + 2 ^ 18) / 65536 = x / 65536 + 2 ^ 2 by omega, hp 2 (x / 65536) (by omega) (by omega)]
    omega
  · rw [show (x + 2 ^ 19) % 16 = x % 16 by omega, show (x + 2 ^ 19) / 16 % 16 = x / 16 % 16 by omega, show (x + 2 ^ 19) / 256 % 16 = x / 256 % 16 by omega, show (x + 2 ^ 19) / 4096 % 16 = x / 4096 % 16 by omega, show (x + 2 ^ 19) / 65536 = x / 65536 + 2 ^ 3 by omega, hp 3 (x / 65536) (by omega) (by omega)]
    omega
theorem bcN_ct (P : Nat → Bool) : ∀ {n : Nat}, n ≤ 20 → bcN (kN P n) = gct P n
  | 0, _ => by show bcN 0 = 0; decide
  | n + 1, h => by
    have ih := bcN_ct P (n := n) (by omega)
    unfold kN gct
    split
    · rw [bcN_bit (by omega) (kN_lt P n), ih]
    · exact ih
theorem gor_kN (P : Nat → Bool) : ∀ n, n ≤ 30 → gor P n = nI (kN P n)
  | 0, _ => rfl
  | n + 1, h => by
    have ih := gor_kN P n (by omega)
    have e1 : nI 1 <<< (nI n &&& 31) = nI (2 ^ n) := by
      have e0 : (nI n &&& 31 : Int32) = nI n := by
        have := pk_andN (n := n) (by omega) (m := 31) 5 (by decide)
        rw [this, Nat.mod_eq_of_lt (by omega)]
      rw [e0]
      have h2 : 2 ^ n ≤ 2 ^ 30 := Nat.pow_le_pow_right (by omega) (by omega)
      have hs : ((nI n).toBitVec.smod 32).toNat = n := by
        have hk : ∀ m : Fin 31, ((nI m.val).toBitVec.smod 32).toNat = m.val := by decide +kernel
        exact hk ⟨n, by omega⟩
      have := pk_shlN (n := 1) (nI n) n hs (by omega)
      rw [this, Nat.one_mul]
    unfold gor kN
    split
    · rw [ih, e1, nI_orN]
      have h3 := kN_lt P n
      have h4 := Nat.two_pow_add_eq_or_of_lt h3 1
      rw [Nat.mul_one] at h4
      rw [Nat.or_comm, ← h4, Nat.add_comm]
    · exact ih

set_option maxHeartbeats 4000000 in
set_option maxRecDepth 100000 in
theorem c_J6_bitCount_0f7a4 (d0 : Nat × Nat) (S : gS) (k : Nat) (hk : k < 2 ^ 20) : gCt d0 yJ6_bitCount_0f7a4 cJ6_bitCount_0f7a4 1 (some .int) 0 0 0 [.int (nI k)] S (gRet (.int (nI (bcN k))) S) gNo := by
  refine gCt_of (lo := [some (.int (nI k))]) (by decide +kernel) (Nat.le_of_ble_eq_true rfl) rfl ?_
  intro Γ hd G F hini
  have hA : bcA k < 2 ^ 20 := Nat.lt_of_le_of_lt (Nat.sub_le _ _) hk
  have hB : bcB k < 2 ^ 22 := by
    unfold bcB
    have b1 : (bcA k &&& 858993459) ≤ bcA k := Nat.and_le_left
    have b2 : ((bcA k / 2 ^ 2) &&& 858993459) ≤ bcA k / 2 ^ 2 := Nat.and_le_left
    omega
  have hC : bcC k < 2 ^ 24 := by
    unfold bcC
    have b1 : ((bcB k + bcB k / 2 ^ 4) &&& 252645135) ≤ bcB k + bcB k / 2 ^ 4 := Nat.and_le_left
    omega
  have hD : bcD k < 2 ^ 25 := by
    unfold bcD
    omega
  refine g_iload_n G dJ6_bitCount_0f7a4_0 rfl ?_
  refine g_iload_n G dJ6_bitCount_0f7a4_1 rfl ?_
  refine g_iconst (v := nI 1) G dJ6_bitCount_0f7a4_2 (by decide) ?_
  refine g_iushr G dJ6_bitCount_0f7a4_3 (pk_ushrN (by omega) (nI 1) 1 (by decide)) ?_
  refine g_ldcw G k_J6_265 dJ6_bitCount_0f7a4_4 ?_
  refine g_iand G dJ6_bitCount_0f7a4_7 (nI_andN _ 1431655765) ?_
  refine g_isub G dJ6_bitCount_0f7a4_8 (pk_sub (Nat.le_trans Nat.and_le_left (Nat.div_le_self _ _))) ?_
  refine g_istore_n G dJ6_bitCount_0f7a4_9 (gSt_0) ?_
  refine g_iload_n G dJ6_bitCount_0f7a4_10 rfl ?_
  refine g_ldcw G k_J6_266 dJ6_bitCount_0f7a4_11 ?_
  refine g_iand G dJ6_bitCount_0f7a4_14 (nI_andN (bcA k) 858993459) ?_
  refine g_iload_n G dJ6_bitCount_0f7a4_15 rfl ?_
  refine g_iconst (v := nI 2) G dJ6_bitCount_0f7a4_16 (by decide) ?_
  refine g_iushr G dJ6_bitCount_0f7a4_17 (pk_ushrN (n := bcA k) (by omega) (nI 2) 2 (by decide)) ?_
  refine g_ldcw G k_J6_266 dJ6_bitCount_0f7a4_18 ?_
  refine g_iand G dJ6_bitCount_0f7a4_21 (nI_andN _ 858993459) ?_
  refine g_iadd G dJ6_bitCount_0f7a4_22 (nI_add _ _) ?_
  refine g_istore_n G dJ6_bitCount_0f7a4_23 (gSt_0) ?_
  refine g_iload_n G dJ6_bitCount_0f7a4_24 rfl ?_
  refine g_iload_n G dJ6_bitCount_0f7a4_25 rfl ?_
  refine g_iconst (v := nI 4) G dJ6_bitCount_0f7a4_26 (by decide) ?_
  refine g_iushr G dJ6_bitCount_0f7a4_27 (pk_ushrN (n := bcB k) (by omega) (nI 4) 4 (by decide)) ?_
  refine g_iadd G dJ6_bitCount_0f7a4_28 (nI_add (bcB k) _) ?_
  refine g_ldcw G k_J6_267 dJ6_bitCount_0f7a4_29 ?_
  refine g_iand G dJ6_bitCount_0f7a4_32 (nI_andN _ 252645135) ?_
  refine g_istore_n G dJ6_bitCount_0f7a4_33 (gSt_0) ?_
  refine g_iload_n G dJ6_bitCount_0f7a4_34 rfl ?_
  refine g_iload_n G dJ6_bitCount_0f7a4_35 rfl ?_
  refine g_bipush (v := nI 8) G dJ6_bitCount_0f7a4_36 (by decide) ?_
  refine g_iushr G dJ6_bitCount_0f7a4_38 (pk_ushrN (n := bcC k) (by omega) (nI 8) 8 (by decide)) ?_
  refine g_iadd G dJ6_bitCount_0f7a4_39 (nI_add (bcC k) _) ?_
  refine g_istore_n G dJ6_bitCount_0f7a4_40 (gSt_0) ?_
  refine g_iload_n G dJ6_bitCount_0f7a4_41 rfl ?_
  refine g_iload_n G dJ6_bitCount_0f7a4_42 rfl ?_
  refine g_bipush (v := nI 16) G dJ6_bitCount_0f7a4_43 (by decide) ?_
  refine g_iushr G dJ6_bitCount_0f7a4_45 (pk_ushrN (n := bcD k) (by omega) (nI 16) 16 (by decide)) ?_
  refine g_iadd G dJ6_bitCount_0f7a4_46 (nI_add (bcD k) _) ?_
  refine g_istore_n G dJ6_bitCount_0f7a4_47 (gSt_0) ?_
  refine g_iload_n G dJ6_bitCount_0f7a4_48 rfl ?_
  refine g_bipush (v := nI 63) G dJ6_bitCount_0f7a4_49 (by decide) ?_
  refine g_iand G dJ6_bitCount_0f7a4_51 (nI_andN _ 63) ?_
  exact g_iret G F (gRi rfl) (by omega) (by omega) dJ6_bitCount_0f7a4_52
