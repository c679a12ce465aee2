/-! ===== the draft: D.1: 0 length, 1 depth, 2 state, 3 run, 4 number, 5 its place; D.2.1: 0 text, 1 levels, 2 marks, 3 veils, 4: 0 exhibits, 1 foreign, 2 own ===== -/
def dPut (D : gM) (b m : Int32) : gM := uN (uA (uA (uA D 0 (mN D 0) b) 1 (mN D 0) (mA D 3 (mN D 1))) 2 (mN D 0) m) 0 (mN D 0 + 1)
def dOwn (D : gM) : Bool := decide (mN D 4 < 20) && gBit (mA D 4 2) (mN D 4)
def dFar (D : gM) : gM := if mA D 4 1 < 0 then uA (uN D 2 0) 4 1 (nI (mN D 5)) else uN D 2 0
def dEx1 (D : gM) : gM := uA (uN D 2 0) 4 0 (mA D 4 0 ||| (nI 1 <<< (nI (mN D 4) &&& 31)))
def dEx4 (D : gM) : gM := dPut (dPut (dPut (dPut (dEx1 D) (nI 69) (nI 0)) (nI 120) (nI 0)) (nI 46) (nI 0)) (nI 32) (nI 0)
def dEx5 (D : gM) : gM := if mN D 4 < 10 then dEx4 D else dPut (dEx4 D) (nI (48 + mN D 4 / 10)) (nI 0)
def dEx (D : gM) : gM := dPut (dEx5 D) (nI (48 + mN D 4 % 10)) (nI 0)
def dEnd (D : gM) : gM := if dOwn D then dEx D else dFar D
def dPlk (b : Int32) : Bool := decide (b = nI 10 ∨ (nI 32 ≤ b ∧ b ≤ nI 126))
def dDig (lo b : Int32) : Bool := decide (lo ≤ b ∧ b ≤ nI 57)
def dLet (b : Int32) : Bool := decide ((nI 65 ≤ b ∧ b ≤ nI 90) ∨ (nI 97 ≤ b ∧ b ≤ nI 122))
def dBok (D : gM) (b : Int32) : Bool := if b = nI 91 then decide (mN D 1 < 5) else if b = nI 93 then decide (0 < mN D 1) else if b = nI 123 then true else if b = nI 125 then false else if b = nI 64 then true else dPlk b
def dBody (D : gM) (b : Int32) (i : Nat) : gM := if b = nI 91 then uN D 2 1 else if b = nI 93 then uN D 1 (mN D 1 - 1) else if b = nI 123 then uN (uN D 2 3) 3 0 else if b = nI 64 then uN (uN (uN (uN D 2 4) 3 0) 4 0) 5 i else dPut D b (nI 0)
def dLev (D : gM) (b : Int32) : gM := uN (uN (uA D 3 (mN D 1 + 1) (if mA D 3 (mN D 1) < b - nI 48 then b - nI 48 else mA D 3 (mN D 1))) 1 (mN D 1 + 1)) 2 2
def dNok (D : gM) (b : Int32) : Bool := if b = nI 125 then decide (0 < mN D 3) else decide (mN D 3 < 12) && dLet b
def dNam (D : gM) (b : Int32) : gM := if b = nI 125 then uN D 2 0 else uN (dPut D b (if 0 < mN D 3 then nI 1 else nI 0)) 3 (mN D 3 + 1)
def dDgt (D : gM) (b : Int32) : gM := uN (uN D 4 (mN D 4 * 10 + b.toNatClampNeg - 48)) 3 (mN D 3 + 1)
def dUok (D : gM) (b : Int32) : Bool := if dDig (nI 48) b then true else decide (0 < mN D 3) && dBok D b
def dNum (D : gM) (b : Int32) (i : Nat) : gM := if dDig (nI 48) b then (if mN D 3 + 1 < 3 then dDgt D b else dEnd (dDgt D b)) else dBody (dEnd D) b i
def dOk (D : gM) (b : Int32) : Bool := if mN D 2 = 1 then dDig (nI 49) b else if mN D 2 = 2 then decide (b = nI 58) else if mN D 2 = 3 then dNok D b else if mN D 2 = 4 then dUok D b else dBok D b
def dNx (D : gM) (b : Int32) (i : Nat) : gM := if mN D 2 = 1 then dLev D b else if mN D 2 = 2 then uN D 2 0 else if mN D 2 = 3 then dNam D b else if mN D 2 = 4 then dNum D b i else dBody D b i
def dWhole (D : gM) : Bool := decide (mN D 1 = 0 ∧ (mN D 2 = 0 ∨ (mN D 2 = 4 ∧ 0 < mN D 3)))
def dI (D : gM) : Prop := mN D 1 ≤ 5 ∧ mN D 0 ≤ 2500 ∧ (∀ i, i ≤ mN D 1 → gWt 9 (mA D 3 i)) ∧ mN D 2 ≤ 4 ∧ (mN D 2 = 1 → mN D 1 ≤ 4) ∧ (3 ≤ mN D 2 → mN D 3 ≤ 12) ∧ (mN D 2 = 4 → mN D 4 < 1000 ∧ mN D 5 < 1000) ∧ ∀ i, i < mN D 0 → gWt 127 (mA D 0 i) ∧ gWt 9 (mA D 1 i) ∧ gWt 1 (mA D 2 i)
def gDra (S : gS) (ad : Nat → Nat → Nat) (D : gM) : Prop := gDrq S ad ∧ dI D ∧ (gX S 4 3 (ad 6 2) = nI (mN D 0) ∧ gX S 4 4 (ad 6 2) = mA D 4 0 ∧ gX S 4 7 (ad 6 2) = nI (mN D 1) ∧ gX S 4 8 (ad 6 2) = nI (mN D 2) ∧ gX S 4 12 (ad 6 2) = mA D 4 2 ∧ gX S 4 13 (ad 6 2) = mA D 4 1) ∧ (3 ≤ mN D 2 → gX S 4 9 (ad 6 2) = nI (mN D 3)) ∧ (mN D 2 = 4 → gX S 4 10 (ad 6 2) = nI (mN D 4) ∧ gX S 4 11 (ad 6 2) = nI (mN D 5)) ∧ (∀ i, i < mN D 0 → gX S 48 (ad 6 3) i = mA D 0 i ∧ gX S 80 (ad 6 4) i = mA D 1 i ∧ gX S 112 (ad 6 5) i = mA D 2 i) ∧ ∀ i, i ≤ mN D 1 → gX S 113 (ad 6 6) i = mA D 3 i
def dK (k : Nat) : Prop := k ≠ 4 ∧ k ≠ 48 ∧ k ≠ 80 ∧ k ≠ 112 ∧ k ≠ 113
def gTk (S : gS) (ad : Nat → Nat → Nat) (ok : Bool) (D : gM) (v : Option Value) (S' : gS) : Prop := gDrq S' ad ∧ gFr dK S S' ∧ v = some (.int (gB ok)) ∧ (ok = true → gDra S' ad D)
theorem gW8 {k : Nat} {v : Int32} (h : gWt k v) (hk : k ≤ 127) : v.toInt8.toInt32 = v ∧ vp_nar .byte v = v ∧ fits .byte (.int v) = true := by
  obtain ⟨j, hj, rfl⟩ := gWt_of h (by omega)
  have hk : ∀ z : Fin 128, (nI z.val).toInt8.toInt32 = nI z.val := by decide +kernel
  have h1 := hk ⟨j, by omega⟩
  have h1 : (nI j).toInt8.toInt32 = nI j := h1
  have h2 := pk_vb (nI j)
  have h3 := pk_fb (nI j)
  rw [h1] at h2 h3
  exact ⟨h1, h2, h3⟩
theorem gAnd1 (x : Int32) : x &&& nI 1 = nI 0 ∨ x &&& nI 1 = nI 1 := by
  have h : (x &&& nI 1).toBitVec.toNat = x.toBitVec.toNat % 2 := by
    rw [Int32.toBitVec_and, BitVec.toNat_and]
    exact Nat.and_one_is_mod _
  rcases Nat.mod_two_eq_zero_or_one x.toBitVec.toNat with z | z
  · exact Or.inl (Int32.toBitVec_inj.mp (BitVec.eq_of_toNat_eq (by rw [h, z]; rfl)))
  · exact Or.inr (Int32.toBitVec_inj.mp (BitVec.eq_of_toNat_eq (by rw [h, z]; rfl)))
theorem gBit_no {x : Int32} {j : Nat} (h : (x >>> (nI j &&& 31)) &&& nI 1 = 0) : gBit x j = false := decide_eq_false (fun z => by rw [h] at z; exact absurd z (by decide))
theorem gBit_yes {x : Int32} {j : Nat} (h : ¬ (x >>> (nI j &&& 31)) &&& nI 1 = 0) : gBit x j = true := decide_eq_true ((gAnd1 _).resolve_left h)
theorem dPut_a (D : gM) (b m : Int32) (f i : Nat) : mA (dPut D b m) f i = if i = mN D 0 then (if f = 2 then m else if f = 1 then mA D 3 (mN D 1) else if f = 0 then b else mA D f i) else mA D f i := by
  show (if f = 2 ∧ i = mN D 0 then m else if f = 1 ∧ i = mN D 0 then mA D 3 (mN D 1) else if f = 0 ∧ i = mN D 0 then b else mA D f i) = _
  by_cases e : i = mN D 0
  · rw [if_pos e]
    by_cases e2 : f = 2
    · rw [if_pos ⟨e2, e⟩, if_pos e2]
    · rw [if_neg (fun z => e2 z.1), if_neg e2]
      by_cases e1 : f = 1
      · rw [if_pos ⟨e1, e⟩, if_pos e1]
      · rw [if_neg (fun z => e1 z.1), if_neg e1]
        by_cases e0 : f = 0
        · rw [if_pos ⟨e0, e⟩, if_pos e0]
        · rw [if_neg (fun z => e0 z.1), if_neg e0]
  · rw [if_neg e, if_neg (fun z => e z.2), if_neg (fun z => e z.2), if_neg (fun z => e z.2)]
theorem dPut_o (D : gM) (b m : Int32) {f i : Nat} (h : i ≠ mN D 0 ∨ 2 < f) : mA (dPut D b m) f i = mA D f i := by
  rw [dPut_a]
  by_cases e : i = mN D 0
  · have hf : 2 < f := h.resolve_left (fun z => z e)
    rw [if_pos e, if_neg (by omega), if_neg (by omega), if_neg (by omega)]
  · rw [if_neg e]
theorem gWt_d {k n : Nat} (h : n ≤ k) (hk : k < 2 ^ 31) : gWt k (nI n) := ⟨Int32.not_lt.mp (nI_pos (by omega)), (nI_leI (by omega) hk).mpr h⟩

theorem gDra_s0 {S : gS} {ad : Nat → Nat → Nat} {D : gM} (h : gDra S ad D)  : gDra (sX S 4 8 (ad 6 2) (nI 0)) ad (uN D 2 0) ∧ gFr dK S (sX S 4 8 (ad 6 2) (nI 0)) := by
  obtain ⟨⟨q1, q2, q3, q4, q5, q6, q7, q8⟩, ⟨i1, i2, i3, i4, i5, i6, i7, i8⟩, ⟨f1, f2, f3, f4, f5, f6⟩, g1, g2, rr, vv⟩ := id h
  exact ⟨⟨⟨q1, q2, q3, q4, q5, q6, q7, (sX_k (by decide) q8)⟩, ⟨i1, i2, i3, Nat.zero_le _, fun (z : (0 : Nat) = 1) => absurd z (by decide), fun (z : 3 ≤ (0 : Nat)) => absurd z (by decide), fun (z : (0 : Nat) = 4) => absurd z (by decide), i8⟩, ⟨(sX_p (by decide) f1), (sX_p (by decide) f2), (sX_p (by decide) f3), sX_s, (sX_p (by decide) f5), (sX_p (by decide) f6)⟩, fun (z : 3 ≤ (0 : Nat)) => absurd z (by decide), fun (z : (0 : Nat) = 4) => absurd z (by decide), fun i hi => ⟨(sX_k (by decide) (rr i hi).1), (sX_k (by decide) (rr i hi).2.1), (sX_k (by decide) (rr i hi).2.2)⟩, fun i hi => (sX_k (by decide) (vv i hi))⟩, (gFr.rf S).X1 _ _ _ (fun _ z => z.1)⟩

theorem gDra_s1 {S : gS} {ad : Nat → Nat → Nat} {D : gM} (h : gDra S ad D) (hd : mN D 1 < 5) : gDra (sX S 4 8 (ad 6 2) (nI 1)) ad (uN D 2 1) ∧ gFr dK S (sX S 4 8 (ad 6 2) (nI 1)) := by
  obtain ⟨⟨q1, q2, q3, q4, q5, q6, q7, q8⟩, ⟨i1, i2, i3, i4, i5, i6, i7, i8⟩, ⟨f1, f2, f3, f4, f5, f6⟩, g1, g2, rr, vv⟩ := id h
  exact ⟨⟨⟨q1, q2, q3, q4, q5, q6, q7, (sX_k (by decide) q8)⟩, ⟨i1, i2, i3, Nat.le_of_ble_eq_true rfl, fun _ => Nat.le_of_lt_succ hd, fun (z : 3 ≤ (1 : Nat)) => absurd z (by decide), fun (z : (1 : Nat) = 4) => absurd z (by decide), i8⟩, ⟨(sX_p (by decide) f1), (sX_p (by decide) f2), (sX_p (by decide) f3), sX_s, (sX_p (by decide) f5), (sX_p (by decide) f6)⟩, fun (z : 3 ≤ (1 : Nat)) => absurd z (by decide), fun (z : (1 : Nat) = 4) => absurd z (by decide), fun i hi => ⟨(sX_k (by decide) (rr i hi).1), (sX_k (by decide) (rr i hi).2.1), (sX_k (by decide) (rr i hi).2.2)⟩, fun i hi => (sX_k (by decide) (vv i hi))⟩, (gFr.rf S).X1 _ _ _ (fun _ z => z.1)⟩

theorem gDra_c {S : gS} {ad : Nat → Nat → Nat} {D : gM} (h : gDra S ad D) (h2 : mN D 2 = 0) : gDra (sX S 4 7 (ad 6 2) (nI (mN D 1 - 1))) ad (uN D 1 (mN D 1 - 1)) ∧ gFr dK S (sX S 4 7 (ad 6 2) (nI (mN D 1 - 1))) := by
  obtain ⟨⟨q1, q2, q3, q4, q5, q6, q7, q8⟩, ⟨i1, i2, i3, i4, i5, i6, i7, i8⟩, ⟨f1, f2, f3, f4, f5, f6⟩, g1, g2, rr, vv⟩ := id h
  exact ⟨⟨⟨q1, q2, q3, q4, q5, q6, q7, (sX_k (by decide) q8)⟩, ⟨Nat.le_trans (Nat.sub_le _ _) i1, i2, fun i (hi : i ≤ mN D 1 - 1) => i3 i (by omega), i4, fun z => absurd (h2.symm.trans z) (by decide), i6, i7, i8⟩, ⟨(sX_p (by decide) f1), (sX_p (by decide) f2), sX_s, (sX_p (by decide) f4), (sX_p (by decide) f5), (sX_p (by decide) f6)⟩, fun z => (sX_p (by decide) (g1 z)), fun z => ⟨(sX_p (by decide) (g2 z).1), (sX_p (by decide) (g2 z).2)⟩, fun i hi => ⟨(sX_k (by decide) (rr i hi).1), (sX_k (by decide) (rr i hi).2.1), (sX_k (by decide) (rr i hi).2.2)⟩, fun i hi => (sX_k (by decide) (vv i (Nat.le_trans hi (Nat.sub_le _ _))))⟩, (gFr.rf S).X1 _ _ _ (fun _ z => z.1)⟩

theorem gDra_s3 {S : gS} {ad : Nat → Nat → Nat} {D : gM} (h : gDra S ad D)  : gDra (sX (sX S 4 8 (ad 6 2) (nI 3)) 4 9 (ad 6 2) (nI 0)) ad (uN (uN D 2 3) 3 0) ∧ gFr dK S (sX (sX S 4 8 (ad 6 2) (nI 3)) 4 9 (ad 6 2) (nI 0)) := by
  obtain ⟨⟨q1, q2, q3, q4, q5, q6, q7, q8⟩, ⟨i1, i2, i3, i4, i5, i6, i7, i8⟩, ⟨f1, f2, f3, f4, f5, f6⟩, g1, g2, rr, vv⟩ := id h
  exact ⟨⟨⟨q1, q2, q3, q4, q5, q6, q7, (sX_k (by decide) (sX_k (by decide) q8))⟩, ⟨i1, i2, i3, Nat.le_of_ble_eq_true rfl, fun (z : (3 : Nat) = 1) => absurd z (by decide), fun _ => Nat.zero_le _, fun (z : (3 : Nat) = 4) => absurd z (by decide), i8⟩, ⟨(sX_p (by decide) (sX_p (by decide) f1)), (sX_p (by decide) (sX_p (by decide) f2)), (sX_p (by decide) (sX_p (by decide) f3)), (sX_p (by decide) sX_s), (sX_p (by decide) (sX_p (by decide) f5)), (sX_p (by decide) (sX_p (by decide) f6))⟩, fun _ => sX_s, fun (z : (3 : Nat) = 4) => absurd z (by decide), fun i hi => ⟨(sX_k (by decide) (sX_k (by decide) (rr i hi).1)), (sX_k (by decide) (sX_k (by decide) (rr i hi).2.1)), (sX_k (by decide) (sX_k (by decide) (rr i hi).2.2))⟩, fun i hi => (sX_k (by decide) (sX_k (by decide) (vv i hi)))⟩, ((gFr.rf S).X1 _ _ _ (fun _ z => z.1)).X1 _ _ _ (fun _ z => z.1)⟩

theorem gDra_s4 {S : gS} {ad : Nat → Nat → Nat} {D : gM} (h : gDra S ad D) {p : Nat} (hp : p < 1000) : gDra (sX (sX (sX (sX S 4 8 (ad 6 2) (nI 4)) 4 9 (ad 6 2) (nI 0)) 4 10 (ad 6 2) (nI 0)) 4 11 (ad 6 2) (nI p)) ad (uN (uN (uN (uN D 2 4) 3 0) 4 0) 5 p) ∧ gFr dK S (sX (sX (sX (sX S 4 8 (ad 6 2) (nI 4)) 4 9 (ad 6 2) (nI 0)) 4 10 (ad 6 2) (nI 0)) 4 11 (ad 6 2) (nI p)) := by
  obtain ⟨⟨q1, q2, q3, q4, q5, q6, q7, q8⟩, ⟨i1, i2, i3, i4, i5, i6, i7, i8⟩, ⟨f1, f2, f3, f4, f5, f6⟩, g1, g2, rr, vv⟩ := id h
  exact ⟨⟨⟨q1, q2, q3, q4, q5, q6, q7, (sX_k (by decide) (sX_k (by decide) (sX_k (by decide) (sX_k (by decide) q8))))⟩, ⟨i1, i2, i3, Nat.le_of_ble_eq_true rfl, fun (z : (4 : Nat) = 1) => absurd z (by decide), fun _ => Nat.zero_le _, fun _ => ⟨Nat.le_of_ble_eq_true rfl, hp⟩, i8⟩, ⟨(sX_p (by decide) (sX_p (by decide) (sX_p (by decide) (sX_p (by decide) f1)))), (sX_p (by decide) (sX_p (by decide) (sX_p (by decide) (sX_p (by decide) f2)))), (sX_p (by decide) (sX_p (by decide) (sX_p (by decide) (sX_p (by decide) f3)))), (sX_p (by decide) (sX_p (by decide) (sX_p (by decide) sX_s))), (sX_p (by decide) (sX_p (by decide) (sX_p (by decide) (sX_p (by decide) f5)))), (sX_p (by decide) (sX_p (by decide) (sX_p (by decide) (sX_p (by decide) f6))))⟩, fun _ => sX_p (by decide) (sX_p (by decide) sX_s), fun _ => ⟨sX_p (by decide) sX_s, sX_s⟩, fun i hi => ⟨(sX_k (by decide) (sX_k (by decide) (sX_k (by decide) (sX_k (by decide) (rr i hi).1)))), (sX_k (by decide) (sX_k (by decide) (sX_k (by decide) (sX_k (by decide) (rr i hi).2.1)))), (sX_k (by decide) (sX_k (by decide) (sX_k (by decide) (sX_k (by decide) (rr i hi).2.2))))⟩, fun i hi => (sX_k (by decide) (sX_k (by decide) (sX_k (by decide) (sX_k (by decide) (vv i hi)))))⟩, ((((gFr.rf S).X1 _ _ _ (fun _ z => z.1)).X1 _ _ _ (fun _ z => z.1)).X1 _ _ _ (fun _ z => z.1)).X1 _ _ _ (fun _ z => z.1)⟩

theorem gDra_run {S : gS} {ad : Nat → Nat → Nat} {D : gM} (h : gDra S ad D) {r : Nat} (hr : r ≤ 12) : gDra (sX S 4 9 (ad 6 2) (nI r)) ad (uN D 3 r) ∧ gFr dK S (sX S 4 9 (ad 6 2) (nI r)) := by
  obtain ⟨⟨q1, q2, q3, q4, q5, q6, q7, q8⟩, ⟨i1, i2, i3, i4, i5, i6, i7, i8⟩, ⟨f1, f2, f3, f4, f5, f6⟩, g1, g2, rr, vv⟩ := id h
  exact ⟨⟨⟨q1, q2, q3, q4, q5, q6, q7, (sX_k (by decide) q8)⟩, ⟨i1, i2, i3, i4, i5, fun _ => hr, i7, i8⟩, ⟨(sX_p (by decide) f1), (sX_p (by decide) f2), (sX_p (by decide) f3), (sX_p (by decide) f4), (sX_p (by decide) f5), (sX_p (by decide) f6)⟩, fun _ => sX_s, fun z => ⟨(sX_p (by decide) (g2 z).1), (sX_p (by decide) (g2 z).2)⟩, fun i hi => ⟨(sX_k (by decide) (rr i hi).1), (sX_k (by decide) (rr i hi).2.1), (sX_k (by decide) (rr i hi).2.2)⟩, fun i hi => (sX_k (by decide) (vv i hi))⟩, (gFr.rf S).X1 _ _ _ (fun _ z => z.1)⟩

theorem gDra_dgt {S : gS} {ad : Nat → Nat → Nat} {D : gM} (h : gDra S ad D) {r n : Nat} (hr : r ≤ 12) (hn : n < 1000) : gDra (sX (sX S 4 10 (ad 6 2) (nI n)) 4 9 (ad 6 2) (nI r)) ad (uN (uN D 4 n) 3 r) ∧ gFr dK S (sX (sX S 4 10 (ad 6 2) (nI n)) 4 9 (ad 6 2) (nI r)) := by
  obtain ⟨⟨q1, q2, q3, q4, q5, q6, q7, q8⟩, ⟨i1, i2, i3, i4, i5, i6, i7, i8⟩, ⟨f1, f2, f3, f4, f5, f6⟩, g1, g2, rr, vv⟩ := id h
  exact ⟨⟨⟨q1, q2, q3, q4, q5, q6, q7, (sX_k (by decide) (sX_k (by decide) q8))⟩, ⟨i1, i2, i3, i4, i5, fun _ => hr, fun z => ⟨hn, (i7 z).2⟩, i8⟩, ⟨(sX_p (by decide) (sX_p (by decide) f1)), (sX_p (by decide) (sX_p (by decide) f2)), (sX_p (by decide) (sX_p (by decide) f3)), (sX_p (by decide) (sX_p (by decide) f4)), (sX_p (by decide) (sX_p (by decide) f5)), (sX_p (by decide) (sX_p (by decide) f6))⟩, fun _ => sX_s, fun z => ⟨sX_p (by decide) sX_s, sX_p (by decide) (sX_p (by decide) (g2 z).2)⟩, fun i hi => ⟨(sX_k (by decide) (sX_k (by decide) (rr i hi).1)), (sX_k (by decide) (sX_k (by decide) (rr i hi).2.1)), (sX_k (by decide) (sX_k (by decide) (rr i hi).2.2))⟩, fun i hi => (sX_k (by decide) (sX_k (by decide) (vv i hi)))⟩, ((gFr.rf S).X1 _ _ _ (fun _ z => z.1)).X1 _ _ _ (fun _ z => z.1)⟩

theorem gDra_exh {S : gS} {ad : Nat → Nat → Nat} {D : gM} (h : gDra S ad D) {v : Int32} : gDra (sX S 4 4 (ad 6 2) (v)) ad (uA D 4 0 v) ∧ gFr dK S (sX S 4 4 (ad 6 2) (v)) := by
  obtain ⟨⟨q1, q2, q3, q4, q5, q6, q7, q8⟩, ⟨i1, i2, i3, i4, i5, i6, i7, i8⟩, ⟨f1, f2, f3, f4, f5, f6⟩, g1, g2, rr, vv⟩ := id h
  exact ⟨⟨⟨q1, q2, q3, q4, q5, q6, q7, (sX_k (by decide) q8)⟩, ⟨i1, i2, i3, i4, i5, i6, i7, i8⟩, ⟨(sX_p (by decide) f1), sX_s, (sX_p (by decide) f3), (sX_p (by decide) f4), (sX_p (by decide) f5), (sX_p (by decide) f6)⟩, fun z => (sX_p (by decide) (g1 z)), fun z => ⟨(sX_p (by decide) (g2 z).1), (sX_p (by decide) (g2 z).2)⟩, fun i hi => ⟨(sX_k (by decide) (rr i hi).1), (sX_k (by decide) (rr i hi).2.1), (sX_k (by decide) (rr i hi).2.2)⟩, fun i hi => (sX_k (by decide) (vv i hi))⟩, (gFr.rf S).X1 _ _ _ (fun _ z => z.1)⟩

theorem gDra_far {S : gS} {ad : Nat → Nat → Nat} {D : gM} (h : gDra S ad D) {v : Int32} : gDra (sX S 4 13 (ad 6 2) (v)) ad (uA D 4 1 v) ∧ gFr dK S (sX S 4 13 (ad 6 2) (v)) := by
  obtain ⟨⟨q1, q2, q3, q4, q5, q6, q7, q8⟩, ⟨i1, i2, i3, i4, i5, i6, i7, i8⟩, ⟨f1, f2, f3, f4, f5, f6⟩, g1, g2, rr, vv⟩ := id h
  exact ⟨⟨⟨q1, q2, q3, q4, q5, q6, q7, (sX_k (by decide) q8)⟩, ⟨i1, i2, i3, i4, i5, i6, i7, i8⟩, ⟨(sX_p (by decide) f1), (sX_p (by decide) f2), (sX_p (by decide) f3), (sX_p (by decide) f4), (sX_p (by decide) f5), sX_s⟩, fun z => (sX_p (by decide) (g1 z)), fun z => ⟨(sX_p (by decide) (g2 z).1), (sX_p (by decide) (g2 z).2)⟩, fun i hi => ⟨(sX_k (by decide) (rr i hi).1), (sX_k (by decide) (rr i hi).2.1), (sX_k (by decide) (rr i hi).2.2)⟩, fun i hi => (sX_k (by decide) (vv i hi))⟩, (gFr.rf S).X1 _ _ _ (fun _ z => z.1)⟩

theorem gDra_put {S : gS} {ad : Nat → Nat → Nat} {D : gM} {b m : Int32} (h : gDra S ad D) (hn : mN D 0 < 2500) (hb : gWt 127 b) (hm : gWt 1 m) : gDra (sX (sX (sX (sX S 48 (ad 6 3) (mN D 0) b) 80 (ad 6 4) (mN D 0) (mA D 3 (mN D 1))) 112 (ad 6 5) (mN D 0) m) 4 3 (ad 6 2) (nI (mN D 0 + 1))) ad (dPut D b m) ∧ gFr dK S (sX (sX (sX (sX S 48 (ad 6 3) (mN D 0) b) 80 (ad 6 4) (mN D 0) (mA D 3 (mN D 1))) 112 (ad 6 5) (mN D 0) m) 4 3 (ad 6 2) (nI (mN D 0 + 1))) := by
  obtain ⟨⟨q1, q2, q3, q4, q5, q6, q7, q8⟩, ⟨i1, i2, i3, i4, i5, i6, i7, i8⟩, ⟨f1, f2, f3, f4, f5, f6⟩, g1, g2, rr, vv⟩ := id h
  have kk : ∀ {κ' a i : Nat} {w : Int32}, κ' ≠ 48 → κ' ≠ 80 → κ' ≠ 112 → κ' ≠ 4 → gX S κ' a i = w → gX (sX (sX (sX (sX S 48 (ad 6 3) (mN D 0) b) 80 (ad 6 4) (mN D 0) (mA D 3 (mN D 1))) 112 (ad 6 5) (mN D 0) m) 4 3 (ad 6 2) (nI (mN D 0 + 1))) κ' a i = w := fun z1 z2 z3 z4 e => sX_k z4 (sX_k z3 (sX_k z2 (sX_k z1 e)))
  have k4 : ∀ {p : Nat} {w : Int32}, p ≠ 3 → gX S 4 p (ad 6 2) = w → gX (sX (sX (sX (sX S 48 (ad 6 3) (mN D 0) b) 80 (ad 6 4) (mN D 0) (mA D 3 (mN D 1))) 112 (ad 6 5) (mN D 0) m) 4 3 (ad 6 2) (nI (mN D 0 + 1))) 4 p (ad 6 2) = w := fun z e => sX_p z (sX_k (by decide) (sX_k (by decide) (sX_k (by decide) e)))
  have e3 : ∀ i, mA (dPut D b m) 3 i = mA D 3 i := fun i => dPut_o D b m (Or.inr (by omega))
  have e4 : ∀ i, mA (dPut D b m) 4 i = mA D 4 i := fun i => dPut_o D b m (Or.inr (by omega))
  have lo : ∀ f i, i < mN D 0 → mA (dPut D b m) f i = mA D f i := fun f i hi => dPut_o D b m (Or.inl (by omega))
  have at0 : mA (dPut D b m) 0 (mN D 0) = b := by rw [dPut_a, if_pos rfl]; rfl
  have at1 : mA (dPut D b m) 1 (mN D 0) = mA D 3 (mN D 1) := by rw [dPut_a, if_pos rfl]; rfl
  have at2 : mA (dPut D b m) 2 (mN D 0) = m := by rw [dPut_a, if_pos rfl]; rfl
  refine ⟨⟨⟨q1, q2, q3, q4, q5, q6, q7, kk (by decide) (by decide) (by decide) (by decide) q8⟩, ⟨i1, hn, fun i hi => by rw [e3]; exact i3 i hi, i4, i5, i6, i7, fun i (hi : i < mN D 0 + 1) => ?_⟩, ⟨sX_s, by rw [e4]; exact k4 (by decide) f2, k4 (by decide) f3, k4 (by decide) f4, by rw [e4]; exact k4 (by decide) f5, by rw [e4]; exact k4 (by decide) f6⟩, fun z => k4 (by decide) (g1 z), fun z => ⟨k4 (by decide) (g2 z).1, k4 (by decide) (g2 z).2⟩, fun i (hi : i < mN D 0 + 1) => ?_, fun i hi => by rw [e3]; exact kk (by decide) (by decide) (by decide) (by decide) (vv i hi)⟩, ((((gFr.rf S).X1 _ _ _ (fun _ z => z.2.1)).X1 _ _ _ (fun _ z => z.2.2.1)).X1 _ _ _ (fun _ z => z.2.2.2.1)).X1 _ _ _ (fun _ z => z.1)⟩
  · by_cases e : i = mN D 0
    · subst e
      rw [at0, at1, at2]
      exact ⟨hb, i3 _ (Nat.le_refl _), hm⟩
    · rw [lo 0 i (by omega), lo 1 i (by omega), lo 2 i (by omega)]
      exact i8 i (by omega)
  · by_cases e : i = mN D 0
    · subst e
      rw [at0, at1, at2]
      exact ⟨sX_k (by decide) (sX_k (by decide) (sX_k (by decide) sX_s)), sX_k (by decide) (sX_k (by decide) sX_s), sX_k (by decide) sX_s⟩
    · rw [lo 0 i (by omega), lo 1 i (by omega), lo 2 i (by omega)]
      obtain ⟨r0, r1, r2⟩ := rr i (by omega)
      exact ⟨sX_k (by decide) (sX_k (by decide) (sX_k (by decide) (sX_q e r0))), sX_k (by decide) (sX_k (by decide) (sX_q e (sX_k (by decide) r1))), sX_k (by decide) (sX_q e (sX_k (by decide) (sX_k (by decide) r2)))⟩
theorem gDra_lev {S : gS} {ad : Nat → Nat → Nat} {D : gM} {b : Int32} (h : gDra S ad D) (hd : mN D 1 ≤ 4) (hb : dDig (nI 49) b = true) : gDra (sX (sX (sX S 113 (ad 6 6) (mN D 1 + 1) (if mA D 3 (mN D 1) < b - nI 48 then b - nI 48 else mA D 3 (mN D 1))) 4 7 (ad 6 2) (nI (mN D 1 + 1))) 4 8 (ad 6 2) (nI 2)) ad (dLev D b) ∧ gFr dK S (sX (sX (sX S 113 (ad 6 6) (mN D 1 + 1) (if mA D 3 (mN D 1) < b - nI 48 then b - nI 48 else mA D 3 (mN D 1))) 4 7 (ad 6 2) (nI (mN D 1 + 1))) 4 8 (ad 6 2) (nI 2)) := by
  obtain ⟨⟨q1, q2, q3, q4, q5, q6, q7, q8⟩, ⟨i1, i2, i3, i4, i5, i6, i7, i8⟩, ⟨f1, f2, f3, f4, f5, f6⟩, g1, g2, rr, vv⟩ := id h
  have hb2 := of_decide_eq_true hb
  obtain ⟨j, hj, rfl⟩ := gWt_of (k := 57) ⟨Int32.le_trans (by decide) hb2.1, hb2.2⟩ (by omega)
  have hj2 : 49 ≤ j := (nI_leI (by omega) (by omega)).mp hb2.1
  have ej : nI j - nI 48 = nI (j - 48) := pk_sub (by omega)
  have hw : gWt 9 (if mA D 3 (mN D 1) < nI j - nI 48 then nI j - nI 48 else mA D 3 (mN D 1)) := by
    split
    · rw [ej]; exact gWt_d (by omega) (by omega)
    · exact i3 _ (Nat.le_refl _)
  have e3 : mA (dLev D (nI j)) 3 (mN D 1 + 1) = (if mA D 3 (mN D 1) < nI j - nI 48 then nI j - nI 48 else mA D 3 (mN D 1)) := uA_s
  have eo : ∀ f i, f ≠ 3 ∨ i ≠ mN D 1 + 1 → mA (dLev D (nI j)) f i = mA D f i := fun f i z => z.elim (fun y => uA_f y) (fun y => uA_i y)
  have hv : ∀ i, i ≤ mN D 1 + 1 → gWt 9 (mA (dLev D (nI j)) 3 i) := fun i hi => by
    by_cases e : i = mN D 1 + 1
    · rw [e, e3]; exact hw
    · rw [eo 3 i (Or.inr e)]; exact i3 i (by omega)
  refine ⟨⟨⟨q1, q2, q3, q4, q5, q6, q7, sX_k (by decide) (sX_k (by decide) (sX_q (by omega) q8))⟩, ⟨by show mN D 1 + 1 ≤ 5; omega, i2, hv, Nat.le_of_ble_eq_true rfl, fun (z : (2 : Nat) = 1) => absurd z (by decide), fun (z : 3 ≤ (2 : Nat)) => absurd z (by decide), fun (z : (2 : Nat) = 4) => absurd z (by decide), fun i hi => ?_⟩, ⟨sX_p (by decide) (sX_p (by decide) (sX_k (by decide) f1)), ?_, sX_p (by decide) sX_s, sX_s, ?_, ?_⟩, fun (z : 3 ≤ (2 : Nat)) => absurd z (by decide), fun (z : (2 : Nat) = 4) => absurd z (by decide), fun i hi => ?_, fun i (hi : i ≤ mN D 1 + 1) => ?_⟩, (((gFr.rf S).X1 _ _ _ (fun _ z => z.2.2.2.2)).X1 _ _ _ (fun _ z => z.1)).X1 _ _ _ (fun _ z => z.1)⟩
  · rw [eo 0 i (Or.inl (by omega)), eo 1 i (Or.inl (by omega)), eo 2 i (Or.inl (by omega))]; exact i8 i hi
  · rw [eo 4 0 (Or.inl (by omega))]; exact sX_p (by decide) (sX_p (by decide) (sX_k (by decide) f2))
  · rw [eo 4 2 (Or.inl (by omega))]; exact sX_p (by decide) (sX_p (by decide) (sX_k (by decide) f5))
  · rw [eo 4 1 (Or.inl (by omega))]; exact sX_p (by decide) (sX_p (by decide) (sX_k (by decide) f6))
  · rw [eo 0 i (Or.inl (by omega)), eo 1 i (Or.inl (by omega)), eo 2 i (Or.inl (by omega))]
    obtain ⟨r0, r1, r2⟩ := rr i hi
    exact ⟨sX_k (by decide) (sX_k (by decide) (sX_k (by decide) r0)), sX_k (by decide) (sX_k (by decide) (sX_k (by decide) r1)), sX_k (by decide) (sX_k (by decide) (sX_k (by decide) r2))⟩
  · refine sX_k (by decide) (sX_k (by decide) ?_)
    by_cases e : i = mN D 1 + 1
    · rw [e, e3]; exact sX_s
    · rw [eo 3 i (Or.inr e)]; exact sX_q e (vv i (by omega))

set_option maxHeartbeats 4000000 in
set_option maxRecDepth 100000 in
theorem c_X2_put (d0 : Nat × Nat) (S : gS) (ad : Nat → Nat → Nat) (D : gM) (h : gDra S ad D) (hn : mN D 0 < 2500) (b w : Int32) (hb : gWt 127 b) (hm : gWt 1 w) : gCt d0 yX2_put cX2_put 3 none 1 0 0 [.ref (ad 6 2), .int b, .int w] S (fun v' S' => v' = none ∧ gDra S' ad (dPut D b w) ∧ gFr dK S S' ∧ ∀ p y, p ≠ 3 → gX S 4 p (ad 6 2) = y → gX S' 4 p (ad 6 2) = y) gNo := by
  refine gCt_of (lo := [some (.ref (ad 6 2)), some (.int b), some (.int w)]) (by decide +kernel) (Nat.le_of_ble_eq_true rfl) (rfl) ?_
  intro Γ hd G F hini
  obtain ⟨⟨q1, q2, q3, q4, q5, q6, q7, q8⟩, ⟨i1, i2, i3, i4, i5, i6, i7, i8⟩, ⟨f1, f2, f3, f4, f5, f6⟩, g1, g2, rr, vv⟩ := id h
  obtain ⟨b1, b2, -⟩ := gW8 hb (by omega)
  obtain ⟨m1, m2, -⟩ := gW8 hm (by omega)
  obtain ⟨l1, l2, -⟩ := gW8 (i3 _ (Nat.le_refl _)) (by omega)
  have hp := gDra_put h hn hb hm
  have vd := vv _ (Nat.le_refl _)
  first | refine g_aload_n G dX2_put_0 rfl ?_ | refine g_aload_nN G dX2_put_0 rfl ?_ | refine g_aload_nQ G dX2_put_0 rfl ?_
  refine g_getI G fl_X2_50 (q1) (by first | decide | omega) rfl (f1) dX2_put_1 ?_
  refine g_if_lt (tgt := 38) G dX2_put_4 (by decide) (fun c_4 => (absurd c_4 (nI_pos (by omega)))) (fun c_4 => ?_)
  first | refine g_aload_n G dX2_put_7 rfl ?_ | refine g_aload_nN G dX2_put_7 rfl ?_ | refine g_aload_nQ G dX2_put_7 rfl ?_
  refine g_getI G fl_X2_50 (q1) (by first | decide | omega) rfl (f1) dX2_put_8 ?_
  first | refine g_aload_n G dX2_put_11 rfl ?_ | refine g_aload_nN G dX2_put_11 rfl ?_ | refine g_aload_nQ G dX2_put_11 rfl ?_
  refine g_getR G fl_X2_9 (q1) (by first | decide | omega) rfl (q2.1) dX2_put_12 ?_
  refine g_alen G (q3.1) (by first | decide | omega) (q3.2) dX2_put_15 ?_
  refine g_icmp_ge (tgt := 38) G dX2_put_16 (by decide) (fun c_16 => (absurd c_16 (nI_ge (b := 2500) hn (by omega)))) (fun c_16 => ?_)
  first | refine g_aload_n G dX2_put_19 rfl ?_ | refine g_aload_nN G dX2_put_19 rfl ?_ | refine g_aload_nQ G dX2_put_19 rfl ?_
  refine g_getI G fl_X2_56 (q1) (by first | decide | omega) rfl (f3) dX2_put_20 ?_
  refine g_if_lt (tgt := 38) G dX2_put_23 (by decide) (fun c_23 => (absurd c_23 (nI_pos (by omega)))) (fun c_23 => ?_)
  first | refine g_aload_n G dX2_put_26 rfl ?_ | refine g_aload_nN G dX2_put_26 rfl ?_ | refine g_aload_nQ G dX2_put_26 rfl ?_
  refine g_getI G fl_X2_56 (q1) (by first | decide | omega) rfl (f3) dX2_put_27 ?_
  first | refine g_aload_n G dX2_put_30 rfl ?_ | refine g_aload_nN G dX2_put_30 rfl ?_ | refine g_aload_nQ G dX2_put_30 rfl ?_
  refine g_getR G fl_X2_21 (q1) (by first | decide | omega) rfl (q2.2.2.2) dX2_put_31 ?_
  refine g_alen G (q6) (by first | decide | omega) (q7) dX2_put_34 ?_
  refine g_icmp_lt (tgt := 39) G dX2_put_35 (by decide) (fun c_35 => ?_) (fun c_35 => (absurd (nI_lt (a := mN D 1) (b := 6) (by omega) (by omega)) c_35))
  first | refine g_aload_n G dX2_put_39 rfl ?_ | refine g_aload_nN G dX2_put_39 rfl ?_ | refine g_aload_nQ G dX2_put_39 rfl ?_
  refine g_getR G fl_X2_9 (q1) (by first | decide | omega) rfl (q2.1) dX2_put_40 ?_
  first | refine g_aload_n G dX2_put_43 rfl ?_ | refine g_aload_nN G dX2_put_43 rfl ?_ | refine g_aload_nQ G dX2_put_43 rfl ?_
  refine g_getI G fl_X2_50 (q1) (by first | decide | omega) rfl (f1) dX2_put_44 ?_
  refine g_iload_n G dX2_put_47 rfl ?_
  refine g_i2b G dX2_put_48 (b1) ?_
  refine g_bast G (q3.1) (by first | decide | omega) (by rw [q3.2]; exact hn) (by omega) (b2) dX2_put_49 ?_
  first | refine g_aload_n G dX2_put_50 rfl ?_ | refine g_aload_nN G dX2_put_50 rfl ?_ | refine g_aload_nQ G dX2_put_50 rfl ?_
  refine g_getR G fl_X2_15 (q1) (by first | decide | omega) rfl (q2.2.1) dX2_put_51 ?_
  first | refine g_aload_n G dX2_put_54 rfl ?_ | refine g_aload_nN G dX2_put_54 rfl ?_ | refine g_aload_nQ G dX2_put_54 rfl ?_
  refine g_getI G fl_X2_50 (q1) (by first | decide | omega) rfl (sX_k (by decide) f1) dX2_put_55 ?_
  first | refine g_aload_n G dX2_put_58 rfl ?_ | refine g_aload_nN G dX2_put_58 rfl ?_ | refine g_aload_nQ G dX2_put_58 rfl ?_
  refine g_getR G fl_X2_21 (q1) (by first | decide | omega) rfl (q2.2.2.2) dX2_put_59 ?_
  first | refine g_aload_n G dX2_put_62 rfl ?_ | refine g_aload_nN G dX2_put_62 rfl ?_ | refine g_aload_nQ G dX2_put_62 rfl ?_
  refine g_getI G fl_X2_56 (q1) (by first | decide | omega) rfl (sX_k (by decide) f3) dX2_put_63 ?_
  refine g_iald G (q6) (by first | decide | omega) (by show mN D 1 < gL S (ad 6 6); rw [q7]; omega) (by omega) (sX_k (by decide) vd) dX2_put_66 ?_
  refine g_i2b G dX2_put_67 (l1) ?_
  refine g_bast G (q4.1) (by first | decide | omega) (by show mN D 0 < gL S (ad 6 4); rw [q4.2]; exact hn) (by omega) (l2) dX2_put_68 ?_
  first | refine g_aload_n G dX2_put_69 rfl ?_ | refine g_aload_nN G dX2_put_69 rfl ?_ | refine g_aload_nQ G dX2_put_69 rfl ?_
  refine g_getR G fl_X2_18 (q1) (by first | decide | omega) rfl (q2.2.2.1) dX2_put_70 ?_
  first | refine g_aload_n G dX2_put_73 rfl ?_ | refine g_aload_nN G dX2_put_73 rfl ?_ | refine g_aload_nQ G dX2_put_73 rfl ?_
  refine g_getI G fl_X2_50 (q1) (by first | decide | omega) rfl (sX_k (by decide) (sX_k (by decide) f1)) dX2_put_74 ?_
  refine g_iload_n G dX2_put_77 rfl ?_
  refine g_i2b G dX2_put_78 (m1) ?_
  refine g_bast G (q5.1) (by first | decide | omega) (by show mN D 0 < gL S (ad 6 5); rw [q5.2]; exact hn) (by omega) (m2) dX2_put_79 ?_
  first | refine g_aload_n G dX2_put_80 rfl ?_ | refine g_aload_nN G dX2_put_80 rfl ?_ | refine g_aload_nQ G dX2_put_80 rfl ?_
  refine g_dup G dX2_put_81 rfl ?_
  refine g_getI G fl_X2_50 (q1) (by first | decide | omega) rfl (sX_k (by decide) (sX_k (by decide) (sX_k (by decide) f1))) dX2_put_82 ?_
  refine g_iconst (v := nI 1) G dX2_put_85 (by decide) ?_
  refine g_iadd G dX2_put_86 (by first | exact nI_add _ _ | rfl) ?_
  refine g_putI G fl_X2_50 pu_3_3 (q1) (by first | decide | omega) rfl dX2_put_87 ?_
  exact g_vret G F (⟨rfl, hp.1, hp.2, fun p y z e => sX_p z (sX_k (by decide) (sX_k (by decide) (sX_k (by decide) e)))⟩) (by omega) (by omega) dX2_put_90

set_option maxHeartbeats 4000000 in
set_option maxRecDepth 100000 in
theorem c_X2_isLetter (d0 : Nat × Nat) (S : gS) (b : Int32) : gCt d0 yX2_isLetter cX2_isLetter 1 (some .boolean) 1 0 0 [.int b] S (gRet (.int (gB (dLet b))) S) gNo := by
  refine gCt_of (lo := [some (.int b)]) (by decide +kernel) (Nat.le_of_ble_eq_true rfl) (rfl) ?_
  intro Γ hd G F hini
  refine g_iload_n G dX2_isLetter_0 rfl ?_
  refine g_bipush (v := nI 65) G dX2_isLetter_1 (by decide) ?_
  refine g_icmp_lt (tgt := 12) G dX2_isLetter_3 (by decide) (fun c_3 => ?_) (fun c_3 => ?_)
  · have n1 : ¬ (nI 65 ≤ b ∧ b ≤ nI 90) := fun z => absurd z.1 (Int32.not_le.mpr c_3)
    refine g_iload_n G dX2_isLetter_12 rfl ?_
    refine g_bipush (v := nI 97) G dX2_isLetter_13 (by decide) ?_
    refine g_icmp_lt (tgt := 28) G dX2_isLetter_15 (by decide) (fun c_15 => ?_) (fun c_15 => ?_)
    · have e9 : dLet b = false := decide_eq_false (fun z => z.elim n1 (fun y => absurd y.1 (Int32.not_le.mpr c_15)))
      refine g_iconst (v := nI 0) G dX2_isLetter_28 (by decide) ?_
      exact g_zret G F (by first | exact Or.inl rfl | exact Or.inr rfl | assumption) (⟨by rw [e9]; rfl, rfl⟩) (by omega) (by omega) dX2_isLetter_29
    · refine g_iload_n G dX2_isLetter_18 rfl ?_
      refine g_bipush (v := nI 122) G dX2_isLetter_19 (by decide) ?_
      refine g_icmp_gt (tgt := 28) G dX2_isLetter_21 (by decide) (fun c_21 => ?_) (fun c_21 => ?_)
      · have e9 : dLet b = false := decide_eq_false (fun z => z.elim n1 (fun y => absurd y.2 (Int32.not_le.mpr c_21)))
        refine g_iconst (v := nI 0) G dX2_isLetter_28 (by decide) ?_
        exact g_zret G F (by first | exact Or.inl rfl | exact Or.inr rfl | assumption) (⟨by rw [e9]; rfl, rfl⟩) (by omega) (by omega) dX2_isLetter_29
      · have e9 : dLet b = true := decide_eq_true (Or.inr ⟨Int32.not_lt.mp c_15, Int32.not_lt.mp c_21⟩)
        refine g_iconst (v := nI 1) G dX2_isLetter_24 (by decide) ?_
        refine g_goto (tgt := 29) G dX2_isLetter_25 (by decide) ?_
        exact g_zret G F (by first | exact Or.inl rfl | exact Or.inr rfl | assumption) (⟨by rw [e9]; rfl, rfl⟩) (by omega) (by omega) dX2_isLetter_29
  · refine g_iload_n G dX2_isLetter_6 rfl ?_
    refine g_bipush (v := nI 90) G dX2_isLetter_7 (by decide) ?_
    refine g_icmp_le (tgt := 24) G dX2_isLetter_9 (by decide) (fun c_9 => ?_) (fun c_9 => ?_)
    · have e9 : dLet b = true := decide_eq_true (Or.inl ⟨Int32.not_lt.mp c_3, c_9⟩)
      refine g_iconst (v := nI 1) G dX2_isLetter_24 (by decide) ?_
      refine g_goto (tgt := 29) G dX2_isLetter_25 (by decide) ?_
      exact g_zret G F (by first | exact Or.inl rfl | exact Or.inr rfl | assumption) (⟨by rw [e9]; rfl, rfl⟩) (by omega) (by omega) dX2_isLetter_29
    · have n1 : ¬ (nI 65 ≤ b ∧ b ≤ nI 90) := fun z => c_9 z.2
      refine g_iload_n G dX2_isLetter_12 rfl ?_
      refine g_bipush (v := nI 97) G dX2_isLetter_13 (by decide) ?_
      refine g_icmp_lt (tgt := 28) G dX2_isLetter_15 (by decide) (fun c_15 => ?_) (fun c_15 => ?_)
      · have e9 : dLet b = false := decide_eq_false (fun z => z.elim n1 (fun y => absurd y.1 (Int32.not_le.mpr c_15)))
        refine g_iconst (v := nI 0) G dX2_isLetter_28 (by decide) ?_
        exact g_zret G F (by first | exact Or.inl rfl | exact Or.inr rfl | assumption) (⟨by rw [e9]; rfl, rfl⟩) (by omega) (by omega) dX2_isLetter_29
      · refine g_iload_n G dX2_isLetter_18 rfl ?_
        refine g_bipush (v := nI 122) G dX2_isLetter_19 (by decide) ?_
        refine g_icmp_gt (tgt := 28) G dX2_isLetter_21 (by decide) (fun c_21 => ?_) (fun c_21 => ?_)
        · have e9 : dLet b = false := decide_eq_false (fun z => z.elim n1 (fun y => absurd y.2 (Int32.not_le.mpr c_21)))
          refine g_iconst (v := nI 0) G dX2_isLetter_28 (by decide) ?_
          exact g_zret G F (by first | exact Or.inl rfl | exact Or.inr rfl | assumption) (⟨by rw [e9]; rfl, rfl⟩) (by omega) (by omega) dX2_isLetter_29
        · have e9 : dLet b = true := decide_eq_true (Or.inr ⟨Int32.not_lt.mp c_15, Int32.not_lt.mp c_21⟩)
          refine g_iconst (v := nI 1) G dX2_isLetter_24 (by decide) ?_
          refine g_goto (tgt := 29) G dX2_isLetter_25 (by decide) ?_
          exact g_zret G F (by first | exact Or.inl rfl | exact Or.inr rfl | assumption) (⟨by rw [e9]; rfl, rfl⟩) (by omega) (by omega) dX2_isLetter_29

set_option maxHeartbeats 4000000 in
set_option maxRecDepth 100000 in
theorem c_X2_takePlain (d0 : Nat × Nat) (S : gS) (ad : Nat → Nat → Nat) (D : gM) (h : gDra S ad D) (hn : mN D 0 < 2500) (b : Int32) : gCt d0 yX2_takePlain cX2_takePlain 2 (some .boolean) 2 0 0 [.ref (ad 6 2), .int b] S (gTk S ad (dPlk b) (dPut D b (nI 0))) gNo := by
  refine gCt_of (lo := [some (.ref (ad 6 2)), some (.int b)]) (by decide +kernel) (Nat.le_of_ble_eq_true rfl) (rfl) ?_
  intro Γ hd G F hini
  have q1 := h.1.1
  refine g_iload_n G dX2_takePlain_0 rfl ?_
  refine g_bipush (v := nI 10) G dX2_takePlain_1 (by decide) ?_
  refine g_icmp_eq (tgt := 20) G dX2_takePlain_3 (by decide) (fun c_3 => ?_) (fun c_3 => ?_)
  · have e9 : dPlk b = true := decide_eq_true (Or.inl c_3)
    have hb : gWt 127 b := by rw [c_3]; exact gWt_d (by omega) (by omega)
    first | refine g_aload_n G dX2_takePlain_20 rfl ?_ | refine g_aload_nN G dX2_takePlain_20 rfl ?_ | refine g_aload_nQ G dX2_takePlain_20 rfl ?_
    refine g_iload_n G dX2_takePlain_21 rfl ?_
    refine g_iconst (v := nI 0) G dX2_takePlain_22 (by decide) ?_
    refine g_callV (ci := 3) G (c_X2_put _ S ad D h hn b (nI 0) hb (gWt_d (by omega) (by omega))) mt_X2_put mi_X2_put ml_X2_90 (q1) (by first | decide | omega) rfl (by decide) (by omega) (by omega) rfl (Nat.le_of_ble_eq_true rfl) dX2_takePlain_23 (fun v_23 S_23 hp_23 => ?_)
    obtain ⟨rfl, hD, hF, -⟩ := hp_23
    simp only [Option.toList, List.nil_append]
    refine g_iconst (v := nI 1) G dX2_takePlain_26 (by decide) ?_
    exact g_zret G F (by first | exact Or.inl rfl | exact Or.inr rfl | assumption) (⟨hD.1, hF, by rw [e9]; rfl, fun _ => hD⟩) (by omega) (by omega) dX2_takePlain_27
  · refine g_iload_n G dX2_takePlain_6 rfl ?_
    refine g_bipush (v := nI 32) G dX2_takePlain_7 (by decide) ?_
    refine g_icmp_lt (tgt := 18) G dX2_takePlain_9 (by decide) (fun c_9 => ?_) (fun c_9 => ?_)
    · have e9 : dPlk b = false := decide_eq_false (fun z => z.elim c_3 (fun y => absurd y.1 (Int32.not_le.mpr c_9)))
      refine g_iconst (v := nI 0) G dX2_takePlain_18 (by decide) ?_
      exact g_zret G F (by first | exact Or.inl rfl | exact Or.inr rfl | assumption) (⟨h.1, gFr.rf S, by rw [e9]; rfl, fun z => by rw [e9] at z; cases z⟩) (by omega) (by omega) dX2_takePlain_19
    · refine g_iload_n G dX2_takePlain_12 rfl ?_
      refine g_bipush (v := nI 126) G dX2_takePlain_13 (by decide) ?_
      refine g_icmp_le (tgt := 20) G dX2_takePlain_15 (by decide) (fun c_15 => ?_) (fun c_15 => ?_)
      · have e9 : dPlk b = true := decide_eq_true (Or.inr ⟨Int32.not_lt.mp c_9, c_15⟩)
        have hb : gWt 127 b := ⟨Int32.le_trans (by decide) (Int32.not_lt.mp c_9), Int32.le_trans c_15 (by decide)⟩
        first | refine g_aload_n G dX2_takePlain_20 rfl ?_ | refine g_aload_nN G dX2_takePlain_20 rfl ?_ | refine g_aload_nQ G dX2_takePlain_20 rfl ?_
        refine g_iload_n G dX2_takePlain_21 rfl ?_
        refine g_iconst (v := nI 0) G dX2_takePlain_22 (by decide) ?_
        refine g_callV (ci := 3) G (c_X2_put _ S ad D h hn b (nI 0) hb (gWt_d (by omega) (by omega))) mt_X2_put mi_X2_put ml_X2_90 (q1) (by first | decide | omega) rfl (by decide) (by omega) (by omega) rfl (Nat.le_of_ble_eq_true rfl) dX2_takePlain_23 (fun v_23 S_23 hp_23 => ?_)
        obtain ⟨rfl, hD, hF, -⟩ := hp_23
        simp only [Option.toList, List.nil_append]
        refine g_iconst (v := nI 1) G dX2_takePlain_26 (by decide) ?_
        exact g_zret G F (by first | exact Or.inl rfl | exact Or.inr rfl | assumption) (⟨hD.1, hF, by rw [e9]; rfl, fun _ => hD⟩) (by omega) (by omega) dX2_takePlain_27
      · have e9 : dPlk b = false := decide_eq_false (fun z => z.elim c_3 (fun y => c_15 y.2))
        refine g_iconst (v := nI 0) G dX2_takePlain_18 (by decide) ?_
        exact g_zret G F (by first | exact Or.inl rfl | exact Or.inr rfl | assumption) (⟨h.1, gFr.rf S, by rw [e9]; rfl, fun z => by rw [e9] at z; cases z⟩) (by omega) (by omega) dX2_takePlain_19

set_option maxHeartbeats 4000000 in
set_option maxRecDepth 100000 in
theorem c_X2_takeColon (d0 : Nat × Nat) (S : gS) (ad : Nat → Nat → Nat) (D : gM) (h : gDra S ad D) (b : Int32) : gCt d0 yX2_takeColon cX2_takeColon 2 (some .boolean) 1 0 0 [.ref (ad 6 2), .int b] S (gTk S ad (decide (b = nI 58)) (uN D 2 0)) gNo := by
  refine gCt_of (lo := [some (.ref (ad 6 2)), some (.int b)]) (by decide +kernel) (Nat.le_of_ble_eq_true rfl) (rfl) ?_
  intro Γ hd G F hini
  have q1 := h.1.1
  obtain ⟨hD, hF⟩ := gDra_s0 h
  first | refine g_aload_n G dX2_takeColon_0 rfl ?_ | refine g_aload_nN G dX2_takeColon_0 rfl ?_ | refine g_aload_nQ G dX2_takeColon_0 rfl ?_
  refine g_iconst (v := nI 0) G dX2_takeColon_1 (by decide) ?_
  refine g_putI G fl_X2_41 pu_3_8 (q1) (by first | decide | omega) rfl dX2_takeColon_2 ?_
  refine g_iload_n G dX2_takeColon_5 rfl ?_
  refine g_bipush (v := nI 58) G dX2_takeColon_6 (by decide) ?_
  refine g_icmp_ne (tgt := 15) G dX2_takeColon_8 (by decide) (fun c_8 => ?_) (fun c_8 => ?_)
  · have e9 : decide (b = nI 58) = false := decide_eq_false c_8
    refine g_iconst (v := nI 0) G dX2_takeColon_15 (by decide) ?_
    exact g_zret G F (by first | exact Or.inl rfl | exact Or.inr rfl | assumption) (⟨hD.1, hF, by rw [e9]; rfl, fun _ => hD⟩) (by omega) (by omega) dX2_takeColon_16
  · have e9 : decide (b = nI 58) = true := decide_eq_true c_8
    refine g_iconst (v := nI 1) G dX2_takeColon_11 (by decide) ?_
    refine g_goto (tgt := 16) G dX2_takeColon_12 (by decide) ?_
    exact g_zret G F (by first | exact Or.inl rfl | exact Or.inr rfl | assumption) (⟨hD.1, hF, by rw [e9]; rfl, fun _ => hD⟩) (by omega) (by omega) dX2_takeColon_16

set_option maxHeartbeats 4000000 in
set_option maxRecDepth 100000 in
theorem c_X2_takeLevel (d0 : Nat × Nat) (S : gS) (ad : Nat → Nat → Nat) (D : gM) (h : gDra S ad D) (hd4 : mN D 1 ≤ 4) (b : Int32) : gCt d0 yX2_takeLevel cX2_takeLevel 2 (some .boolean) 2 0 0 [.ref (ad 6 2), .int b] S (gTk S ad (dDig (nI 49) b) (dLev D b)) gNo := by
  refine gCt_of (lo := [some (.ref (ad 6 2)), some (.int b)]) (by decide +kernel) (Nat.le_of_ble_eq_true rfl) (rfl) ?_
  intro Γ hd G F hini
  obtain ⟨⟨q1, q2, q3, q4, q5, q6, q7, q8⟩, ⟨i1, i2, i3, i4, i5, i6, i7, i8⟩, ⟨f1, f2, f3, f4, f5, f6⟩, g1, g2, rr, vv⟩ := id h
  have vd := vv _ (Nat.le_refl _)
  refine g_iload_n G dX2_takeLevel_0 rfl ?_
  refine g_bipush (v := nI 49) G dX2_takeLevel_1 (by decide) ?_
  refine g_icmp_lt (tgt := 33) G dX2_takeLevel_3 (by decide) (fun c_3 => ?_) (fun c_3 => ?_)
  · have e9 : dDig (nI 49) b = false := decide_eq_false (fun z => absurd z.1 (Int32.not_le.mpr c_3))
    refine g_iconst (v := nI 0) G dX2_takeLevel_33 (by decide) ?_
    exact g_zret G F (by first | exact Or.inl rfl | exact Or.inr rfl | assumption) (⟨h.1, gFr.rf S, by rw [e9]; rfl, fun z => by rw [e9] at z; cases z⟩) (by omega) (by omega) dX2_takeLevel_34
  · refine g_iload_n G dX2_takeLevel_6 rfl ?_
    refine g_bipush (v := nI 57) G dX2_takeLevel_7 (by decide) ?_
    refine g_icmp_gt (tgt := 33) G dX2_takeLevel_9 (by decide) (fun c_9 => ?_) (fun c_9 => ?_)
    · have e9 : dDig (nI 49) b = false := decide_eq_false (fun z => absurd z.2 (Int32.not_le.mpr c_9))
      refine g_iconst (v := nI 0) G dX2_takeLevel_33 (by decide) ?_
      exact g_zret G F (by first | exact Or.inl rfl | exact Or.inr rfl | assumption) (⟨h.1, gFr.rf S, by rw [e9]; rfl, fun z => by rw [e9] at z; cases z⟩) (by omega) (by omega) dX2_takeLevel_34
    · have e9 : dDig (nI 49) b = true := decide_eq_true ⟨Int32.not_lt.mp c_3, Int32.not_lt.mp c_9⟩
      obtain ⟨hD, hF⟩ := gDra_lev h hd4 e9
      first | refine g_aload_n G dX2_takeLevel_12 rfl ?_ | refine g_aload_nN G dX2_takeLevel_12 rfl ?_ | refine g_aload_nQ G dX2_takeLevel_12 rfl ?_
      refine g_getI G fl_X2_56 (q1) (by first | decide | omega) rfl (f3) dX2_takeLevel_13 ?_
      refine g_if_lt (tgt := 33) G dX2_takeLevel_16 (by decide) (fun c_16 => (absurd c_16 (nI_pos (by omega)))) (fun c_16 => ?_)
      first | refine g_aload_n G dX2_takeLevel_19 rfl ?_ | refine g_aload_nN G dX2_takeLevel_19 rfl ?_ | refine g_aload_nQ G dX2_takeLevel_19 rfl ?_
      refine g_getI G fl_X2_56 (q1) (by first | decide | omega) rfl (f3) dX2_takeLevel_20 ?_
      refine g_iconst (v := nI 1) G dX2_takeLevel_23 (by decide) ?_
      refine g_iadd G dX2_takeLevel_24 (by first | exact nI_add _ _ | rfl) ?_
      first | refine g_aload_n G dX2_takeLevel_25 rfl ?_ | refine g_aload_nN G dX2_takeLevel_25 rfl ?_ | refine g_aload_nQ G dX2_takeLevel_25 rfl ?_
      refine g_getR G fl_X2_21 (q1) (by first | decide | omega) rfl (q2.2.2.2) dX2_takeLevel_26 ?_
      refine g_alen G (q6) (by first | decide | omega) (q7) dX2_takeLevel_29 ?_
      refine g_icmp_lt (tgt := 35) G dX2_takeLevel_30 (by decide) (fun c_30 => ?_) (fun c_30 => (absurd (nI_lt (a := mN D 1 + 1) (b := 6) (by omega) (by omega)) c_30))
      first | refine g_aload_n G dX2_takeLevel_35 rfl ?_ | refine g_aload_nN G dX2_takeLevel_35 rfl ?_ | refine g_aload_nQ G dX2_takeLevel_35 rfl ?_
      refine g_getR G fl_X2_21 (q1) (by first | decide | omega) rfl (q2.2.2.2) dX2_takeLevel_36 ?_
      first | refine g_aload_n G dX2_takeLevel_39 rfl ?_ | refine g_aload_nN G dX2_takeLevel_39 rfl ?_ | refine g_aload_nQ G dX2_takeLevel_39 rfl ?_
      refine g_getI G fl_X2_56 (q1) (by first | decide | omega) rfl (f3) dX2_takeLevel_40 ?_
      refine g_iconst (v := nI 1) G dX2_takeLevel_43 (by decide) ?_
      refine g_iadd G dX2_takeLevel_44 (by first | exact nI_add _ _ | rfl) ?_
      first | refine g_aload_n G dX2_takeLevel_45 rfl ?_ | refine g_aload_nN G dX2_takeLevel_45 rfl ?_ | refine g_aload_nQ G dX2_takeLevel_45 rfl ?_
      refine g_getR G fl_X2_21 (q1) (by first | decide | omega) rfl (q2.2.2.2) dX2_takeLevel_46 ?_
      first | refine g_aload_n G dX2_takeLevel_49 rfl ?_ | refine g_aload_nN G dX2_takeLevel_49 rfl ?_ | refine g_aload_nQ G dX2_takeLevel_49 rfl ?_
      refine g_getI G fl_X2_56 (q1) (by first | decide | omega) rfl (f3) dX2_takeLevel_50 ?_
      refine g_iald G (q6) (by first | decide | omega) (by rw [q7]; omega) (by omega) (vd) dX2_takeLevel_53 ?_
      refine g_iload_n G dX2_takeLevel_54 rfl ?_
      refine g_bipush (v := nI 48) G dX2_takeLevel_55 (by decide) ?_
      refine g_isub G dX2_takeLevel_57 (rfl) ?_
      refine g_mmax G ml_X2_94 (by decide) (by omega) (by omega) (Nat.le_of_ble_eq_true rfl) (rfl) dX2_takeLevel_58 ?_
      refine g_iast G (q6) (by first | decide | omega) (by rw [q7]; omega) (by omega) (rfl) dX2_takeLevel_61 ?_
      first | refine g_aload_n G dX2_takeLevel_62 rfl ?_ | refine g_aload_nN G dX2_takeLevel_62 rfl ?_ | refine g_aload_nQ G dX2_takeLevel_62 rfl ?_
      refine g_dup G dX2_takeLevel_63 rfl ?_
      refine g_getI G fl_X2_56 (q1) (by first | decide | omega) rfl (sX_k (by decide) f3) dX2_takeLevel_64 ?_
      refine g_iconst (v := nI 1) G dX2_takeLevel_67 (by decide) ?_
      refine g_iadd G dX2_takeLevel_68 (by first | exact nI_add _ _ | rfl) ?_
      refine g_putI G fl_X2_56 pu_3_7 (q1) (by first | decide | omega) rfl dX2_takeLevel_69 ?_
      first | refine g_aload_n G dX2_takeLevel_72 rfl ?_ | refine g_aload_nN G dX2_takeLevel_72 rfl ?_ | refine g_aload_nQ G dX2_takeLevel_72 rfl ?_
      refine g_iconst (v := nI 2) G dX2_takeLevel_73 (by decide) ?_
      refine g_putI G fl_X2_41 pu_3_8 (q1) (by first | decide | omega) rfl dX2_takeLevel_74 ?_
      refine g_iconst (v := nI 1) G dX2_takeLevel_77 (by decide) ?_
      exact g_zret G F (by first | exact Or.inl rfl | exact Or.inr rfl | assumption) (⟨hD.1, hF, by rw [e9]; rfl, fun _ => hD⟩) (by omega) (by omega) dX2_takeLevel_78
