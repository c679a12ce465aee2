/-! ===== THE STATE: what the reference's rows hold (M), and how the class's objects hold it; ad: the addresses ===== -/
/-- M.1: counts (2 tape, 5 paper, 6 cases, 8 people, 11 documents, 17 exhibits, 23 letters, 40 the day, 100 + d a text's length, 200 + e a chain's links); M.2.1: rows by the reference's field (41.. its State's); M.2.2: text 13, level 14, mark 15 of a document -/
abbrev gM : Type := (Nat → Nat) × (Nat → Nat → Int32) × (Nat → Nat → Nat → Int32)
abbrev mN (M : gM) : Nat → Nat := M.1
abbrev mA (M : gM) : Nat → Nat → Int32 := M.2.1
abbrev mT (M : gM) : Nat → Nat → Nat → Int32 := M.2.2
def gRf (ad : Nat → Nat → Nat) (v : Int32) : Option Nat := if v < 0 then none else some (ad 1 v.toNatClampNeg)
def gPr (M : gM) (v : Int32) : Prop := v = -1 ∨ ∃ p, p < mN M 8 ∧ v = nI p
def gWho (M : gM) (v : Int32) : Prop := v = -1 ∨ v = -2 ∨ ∃ p, p < mN M 8 ∧ v = nI p
theorem gRf_p {ad : Nat → Nat → Nat} {p : Nat} (h : p < 2 ^ 31) : gRf ad (nI p) = some (ad 1 p) := by
  unfold gRf
  rw [if_neg (nI_pos h), nI_clamp h]
theorem gRf_1 {ad : Nat → Nat → Nat} : gRf ad (-1) = none := if_pos (by decide)
theorem gRf_2 {ad : Nat → Nat → Nat} : gRf ad (-2) = none := if_pos (by decide)
def gRow1 (S : gS) (a κ n : Nat) (f : Nat → Int32) : Prop := gK S a = κ ∧ gL S a = n ∧ ∀ j, j < n → gX S κ a j = f j
def gDoc (S : gS) (ad : Nat → Nat → Nat) (M : gM) (d : Nat) : Prop := gK S (ad 2 d) = 3 + 32 * d ∧ (∃ c, c < mN M 6 ∧ mA M 12 d = nI c ∧ gY S (3 + 32 * d) 0 (ad 2 d) = some (ad 0 c)) ∧
  (gY S (3 + 32 * d) 1 (ad 2 d) = some (ad 7 d) ∧ gY S (3 + 32 * d) 2 (ad 2 d) = some (ad 8 d) ∧ gY S (3 + 32 * d) 3 (ad 2 d) = some (ad 9 d)) ∧
  (gX S (3 + 32 * d) 4 (ad 2 d) = mA M 16 d ∧ gY S (3 + 32 * d) 5 (ad 2 d) = gRf ad (mA M 43 d) ∧ gX S (3 + 32 * d) 6 (ad 2 d) = mA M 44 d ∧ gX S (3 + 32 * d) 7 (ad 2 d) = mA M 45 d ∧ gPr M (mA M 43 d)) ∧
  (mN M (100 + d) ≤ 2500 ∧ gRow1 S (ad 7 d) (16 + 32 * (100 + 3 * d)) (mN M (100 + d)) (mT M 13 d) ∧ gRow1 S (ad 8 d) (16 + 32 * (101 + 3 * d)) (mN M (100 + d)) (mT M 14 d) ∧ gRow1 S (ad 9 d) (16 + 32 * (102 + 3 * d)) (mN M (100 + d)) (mT M 15 d))
def gLnk (S : gS) (ad : Nat → Nat → Nat) (M : gM) (e k : Nat) : Prop := gK S (ad (20 + e) k) = 7 + 32 * (12 * e + k) ∧ gX S (7 + 32 * (12 * e + k)) 0 (ad (20 + e) k) = mA M 22 (4 * (12 * e + k)) ∧ gY S (7 + 32 * (12 * e + k)) 1 (ad (20 + e) k) = gRf ad (mA M 22 (4 * (12 * e + k) + 1)) ∧ gY S (7 + 32 * (12 * e + k)) 2 (ad (20 + e) k) = gRf ad (mA M 22 (4 * (12 * e + k) + 2)) ∧ gX S (7 + 32 * (12 * e + k)) 3 (ad (20 + e) k) = mA M 22 (4 * (12 * e + k) + 3) ∧ gPr M (mA M 22 (4 * (12 * e + k) + 1)) ∧ gPr M (mA M 22 (4 * (12 * e + k) + 2))
def gExh (d0 : Nat × Nat) (S : gS) (ad : Nat → Nat → Nat) (M : gM) (e : Nat) : Prop := gK S (ad 3 e) = 5 + 32 * e ∧ gX S (5 + 32 * e) 0 (ad 3 e) = nI e ∧ (∃ c, c < mN M 6 ∧ mA M 18 e = nI c ∧ gY S (5 + 32 * e) 1 (ad 3 e) = some (ad 0 c)) ∧
  (gY S (5 + 32 * e) 2 (ad 3 e) = gRf ad (mA M 19 e) ∧ gX S (5 + 32 * e) 3 (ad 3 e) = gB (decide (mA M 19 e = -2)) ∧ gX S (5 + 32 * e) 4 (ad 3 e) = mA M 20 e ∧ gY S (5 + 32 * e) 5 (ad 3 e) = some (ad 10 e) ∧ gWho M (mA M 19 e)) ∧
  mN M (200 + e) ≤ 12 ∧ gLst d0 S (ad 10 e) (10 + e) (mN M (200 + e)) (ad (20 + e)) ∧ ∀ k, k < mN M (200 + e) → gLnk S ad M e k
def gLtr (S : gS) (ad : Nat → Nat → Nat) (M : gM) (k : Nat) : Prop := gK S (ad 4 k) = 6 + 32 * k ∧ (∃ d, d < mN M 11 ∧ mA M 24 k = nI d ∧ gY S (6 + 32 * k) 0 (ad 4 k) = some (ad 2 d)) ∧ gX S (6 + 32 * k) 1 (ad 4 k) = mA M 24 k ∧ (∃ p, p < mN M 8 ∧ mA M 25 k = nI p ∧ gY S (6 + 32 * k) 2 (ad 4 k) = some (ad 1 p)) ∧ gX S (6 + 32 * k) 3 (ad 4 k) = mA M 26 k ∧ gX S (6 + 32 * k) 4 (ad 4 k) = mA M 46 k ∧ gX S (6 + 32 * k) 5 (ad 4 k) = mA M 47 k
/-- the draft and its rows: what never changes -/
def gDrq (S : gS) (ad : Nat → Nat → Nat) : Prop := gK S (ad 6 2) = 4 ∧ (gY S 4 0 (ad 6 2) = some (ad 6 3) ∧ gY S 4 1 (ad 6 2) = some (ad 6 4) ∧ gY S 4 2 (ad 6 2) = some (ad 6 5) ∧ gY S 4 6 (ad 6 2) = some (ad 6 6)) ∧ (gK S (ad 6 3) = 48 ∧ gL S (ad 6 3) = 2500) ∧ (gK S (ad 6 4) = 80 ∧ gL S (ad 6 4) = 2500) ∧ (gK S (ad 6 5) = 112 ∧ gL S (ad 6 5) = 2500) ∧ gK S (ad 6 6) = 113 ∧ gL S (ad 6 6) = 6 ∧ gX S 113 (ad 6 6) 0 = nI 0
def gDrf (S : gS) (x : Nat) (ad : Nat → Nat → Nat) : Prop := gY S 9 9 x = some (ad 6 2) ∧ gDrq S ad
def gRoot (S : gS) (x : Nat) (ad : Nat → Nat → Nat) (M : gM) : Prop := gK S x = 9 ∧ (gY S 9 0 x = some (ad 5 0) ∧ gY S 9 1 x = some (ad 5 1) ∧ gY S 9 2 x = some (ad 5 2) ∧ gY S 9 3 x = some (ad 5 3) ∧ gY S 9 4 x = some (ad 5 4)) ∧ (gY S 9 5 x = some (ad 6 0) ∧ gX S 9 6 x = nI (mN M 2) ∧ gY S 9 7 x = some (ad 6 1) ∧ gX S 9 8 x = nI (mN M 5) ∧ gDrf S x ad ∧ gX S 9 10 x = mA M 3 0 ∧ gX S 9 11 x = nI (mN M 40))
def gLists (d0 : Nat × Nat) (S : gS) (ad : Nat → Nat → Nat) (M : gM) : Prop := gLst d0 S (ad 5 0) 1 (mN M 6) (ad 0) ∧ gLst d0 S (ad 5 1) 2 (mN M 8) (ad 1) ∧ gLst d0 S (ad 5 2) 3 (mN M 11) (ad 2) ∧ gLst d0 S (ad 5 3) 4 (mN M 17) (ad 3) ∧ gLst d0 S (ad 5 4) 5 (mN M 23) (ad 4)
def gTape (S : gS) (ad : Nat → Nat → Nat) (M : gM) : Prop := gK S (ad 6 0) = 49 ∧ gL S (ad 6 0) = 1000 ∧ mN M 2 ≤ 1000 ∧ (∀ i, i < mN M 2 → gX S 49 (ad 6 0) i = mA M 1 i) ∧ gK S (ad 6 1) = 81 ∧ gL S (ad 6 1) = 2500 ∧ mN M 5 ≤ 2500 ∧ ∀ i, i < mN M 5 → gX S 81 (ad 6 1) i = mA M 4 i
/-- the class's part -/
def gMail (d0 : Nat × Nat) (S : gS) (x : Nat) (ad : Nat → Nat → Nat) (M : gM) : Prop := gRoot S x ad M ∧ gLists d0 S ad M ∧ gTape S ad M ∧ (∀ i, i < mN M 6 → gCase S (ad 0 i) i (mA M 7 i)) ∧ (∀ i, i < mN M 8 → gPers S (ad 1 i) i (mA M 9 i) (mA M 41 i) (mA M 10 i) (mA M 42 i)) ∧ (∀ d, d < mN M 11 → gDoc S ad M d) ∧ (∀ e, e < mN M 17 → gExh d0 S ad M e) ∧ ∀ k, k < mN M 23 → gLtr S ad M k
def gct (p : Nat → Bool) : Nat → Nat
  | 0 => 0
  | n + 1 => if p n then gct p n + 1 else gct p n
theorem gct_yes {p : Nat → Bool} {n : Nat} (h : p n = true) : gct p (n + 1) = gct p n + 1 := if_pos h
theorem gct_no {p : Nat → Bool} {n : Nat} (h : p n = false) : gct p (n + 1) = gct p n := if_neg (by rw [h]; decide)
theorem gct_le (p : Nat → Bool) : ∀ n, gct p n ≤ n
  | 0 => Nat.le_refl 0
  | n + 1 => by
    have := gct_le p n
    unfold gct
    split <;> omega
theorem gct_cong {p q : Nat → Bool} : ∀ {n : Nat}, (∀ k, k < n → p k = q k) → gct p n = gct q n
  | 0, _ => rfl
  | n + 1, h => by
    unfold gct
    rw [h n (by omega), gct_cong (fun k hk => h k (by omega))]

set_option maxHeartbeats 4000000 in
set_option maxRecDepth 100000 in
theorem c_caseAt (d0 : Nat × Nat) (S : gS) (x : Nat) (ad : Nat → Nat → Nat) (M : gM) (h : gMail d0 S x ad M) (j : Nat) (hj : j < mN M 6) : gCt d0 yX7_caseAt cX7_caseAt 2 (some (.object "CourtMail$Case")) 3 0 0 [.ref x, .int (nI j)] S (gRet (.ref (ad 0 j)) S) gNo := by
  refine gCt_of (lo := [some (.ref x), some (.int (nI j))]) (by decide +kernel) (Nat.le_of_ble_eq_true rfl) rfl ?_
  intro Γ hd G F hini
  obtain ⟨⟨r1, ⟨ra, rb, rc, rd, re⟩, rt, rtl, rp, rpl, rdr, rep, rday⟩, ⟨l0, l1, l2, l3, l4⟩, ht, hcs, hps, hds, hes, hls⟩ := id h
  have hN := l0.2.2.1
  have hk := (hcs j hj).1
  subst hd
  refine g_iload_n G dX7_caseAt_0 rfl ?_
  refine g_if_lt (tgt := 15) G dX7_caseAt_1 (by decide) (fun c_1 => (absurd c_1 (nI_pos (by omega)))) (fun c_1 => ?_)
  refine g_iload_n G dX7_caseAt_4 rfl ?_
  first | refine g_aload_n G dX7_caseAt_5 rfl ?_ | refine g_aload_nN G dX7_caseAt_5 rfl ?_ | refine g_aload_nQ G dX7_caseAt_5 rfl ?_
  first | refine g_getR G fl_X7_12 (by assumption) (by first | decide | omega) rfl (by assumption) dX7_caseAt_6 ?_ | refine g_getZ G fl_X7_12 (by assumption) (by first | decide | omega) rfl (by assumption) dX7_caseAt_6 ?_ | refine g_getQ G fl_X7_12 (by assumption) (by first | decide | omega) rfl (by first | assumption | rfl) dX7_caseAt_6 ?_
  refine g_callVp (ci := 0) G (c_Jx4a65c_size_8abf5 _ S (ad 5 0) 1 (mN M 6) (ad 0) l0) mt_Jx4a65c_size_8abf5 mi_Jx4a65c_size_8abf5 ml_X7_80 (l0.1) (by first | decide | omega) rfl (by decide) (by omega) (by omega) rfl (Nat.le_of_ble_eq_true rfl) dX7_caseAt_9 ?_
  refine g_icmp_lt (tgt := 19) G dX7_caseAt_12 (by decide) (fun c_12 => ?_) (fun c_12 => (absurd (nI_lt hj (by omega)) c_12))
  first | refine g_aload_n G dX7_caseAt_19 rfl ?_ | refine g_aload_nN G dX7_caseAt_19 rfl ?_ | refine g_aload_nQ G dX7_caseAt_19 rfl ?_
  first | refine g_getR G fl_X7_12 (by assumption) (by first | decide | omega) rfl (by assumption) dX7_caseAt_20 ?_ | refine g_getZ G fl_X7_12 (by assumption) (by first | decide | omega) rfl (by assumption) dX7_caseAt_20 ?_ | refine g_getQ G fl_X7_12 (by assumption) (by first | decide | omega) rfl (by first | assumption | rfl) dX7_caseAt_20 ?_
  refine g_iload_n G dX7_caseAt_23 rfl ?_
  refine g_callVp (ci := 0) G (c_Jx4a65c_get_915e3 _ S (ad 5 0) 1 (mN M 6) j (ad 0) l0 hj) mt_Jx4a65c_get_915e3 mi_Jx4a65c_get_915e3 ml_X7_300 (l0.1) (by first | decide | omega) rfl (by decide) (by omega) (by omega) rfl (Nat.le_of_ble_eq_true rfl) dX7_caseAt_24 ?_
  refine g_cast (ci := 1) G (hk) (by first | decide | omega) rfl cl_X7_134 dX7_caseAt_27 ?_
  first | exact g_aret (o := some _) G F (by first | exact Or.inl ⟨_, rfl⟩ | exact Or.inr ⟨_, rfl⟩) (gRr rfl) (by omega) (by omega) dX7_caseAt_30 | exact g_aret (o := none) G F (by first | exact Or.inl ⟨_, rfl⟩ | exact Or.inr ⟨_, rfl⟩) (gRr rfl) (by omega) (by omega) dX7_caseAt_30 | exact g_aret (o := _) G F (by first | exact Or.inl ⟨_, rfl⟩ | exact Or.inr ⟨_, rfl⟩) (gRr rfl) (by omega) (by omega) dX7_caseAt_30

set_option maxHeartbeats 4000000 in
set_option maxRecDepth 100000 in
theorem c_caseAt_no (d0 : Nat × Nat) (S : gS) (x : Nat) (ad : Nat → Nat → Nat) (M : gM) (h : gMail d0 S x ad M) (i : Int32) (hi : i < 0 ∨ nI (mN M 6) ≤ i) : gCt d0 yX7_caseAt cX7_caseAt 2 (some (.object "CourtMail$Case")) 3 0 0 [.ref x, .int i] S (gRet .null S) gNo := by
  refine gCt_of (lo := [some (.ref x), some (.int i)]) (by decide +kernel) (Nat.le_of_ble_eq_true rfl) rfl ?_
  intro Γ hd G F hini
  obtain ⟨⟨r1, ⟨ra, rb, rc, rd, re⟩, rt, rtl, rp, rpl, rdr, rep, rday⟩, ⟨l0, l1, l2, l3, l4⟩, ht, hcs, hps, hds, hes, hls⟩ := id h
  subst hd
  refine g_iload_n G dX7_caseAt_0 rfl ?_
  refine g_if_lt (tgt := 15) G dX7_caseAt_1 (by decide) (fun c_1 => ?_) (fun c_1 => ?_)
  · refine g_null G dX7_caseAt_15 ?_
    refine g_goto (tgt := 30) G dX7_caseAt_16 (by decide) ?_
    first | exact g_aret (o := some _) G F (by first | exact Or.inl ⟨_, rfl⟩ | exact Or.inr ⟨_, rfl⟩) (⟨rfl, rfl⟩) (by omega) (by omega) dX7_caseAt_30 | exact g_aret (o := none) G F (by first | exact Or.inl ⟨_, rfl⟩ | exact Or.inr ⟨_, rfl⟩) (⟨rfl, rfl⟩) (by omega) (by omega) dX7_caseAt_30 | exact g_aret (o := _) G F (by first | exact Or.inl ⟨_, rfl⟩ | exact Or.inr ⟨_, rfl⟩) (⟨rfl, rfl⟩) (by omega) (by omega) dX7_caseAt_30
  · refine g_iload_n G dX7_caseAt_4 rfl ?_
    first | refine g_aload_n G dX7_caseAt_5 rfl ?_ | refine g_aload_nN G dX7_caseAt_5 rfl ?_ | refine g_aload_nQ G dX7_caseAt_5 rfl ?_
    first | refine g_getR G fl_X7_12 (by assumption) (by first | decide | omega) rfl (by assumption) dX7_caseAt_6 ?_ | refine g_getZ G fl_X7_12 (by assumption) (by first | decide | omega) rfl (by assumption) dX7_caseAt_6 ?_ | refine g_getQ G fl_X7_12 (by assumption) (by first | decide | omega) rfl (by first | assumption | rfl) dX7_caseAt_6 ?_
    refine g_callVp (ci := 0) G (c_Jx4a65c_size_8abf5 _ S (ad 5 0) 1 (mN M 6) (ad 0) l0) mt_Jx4a65c_size_8abf5 mi_Jx4a65c_size_8abf5 ml_X7_80 (l0.1) (by first | decide | omega) rfl (by decide) (by omega) (by omega) rfl (Nat.le_of_ble_eq_true rfl) dX7_caseAt_9 ?_
    refine g_icmp_lt (tgt := 19) G dX7_caseAt_12 (by decide) (fun c_12 => (absurd c_12 (Int32.not_lt.mpr (hi.resolve_left c_1)))) (fun c_12 => ?_)
    refine g_null G dX7_caseAt_15 ?_
    refine g_goto (tgt := 30) G dX7_caseAt_16 (by decide) ?_
    first | exact g_aret (o := some _) G F (by first | exact Or.inl ⟨_, rfl⟩ | exact Or.inr ⟨_, rfl⟩) (⟨rfl, rfl⟩) (by omega) (by omega) dX7_caseAt_30 | exact g_aret (o := none) G F (by first | exact Or.inl ⟨_, rfl⟩ | exact Or.inr ⟨_, rfl⟩) (⟨rfl, rfl⟩) (by omega) (by omega) dX7_caseAt_30 | exact g_aret (o := _) G F (by first | exact Or.inl ⟨_, rfl⟩ | exact Or.inr ⟨_, rfl⟩) (⟨rfl, rfl⟩) (by omega) (by omega) dX7_caseAt_30

set_option maxHeartbeats 4000000 in
set_option maxRecDepth 100000 in
theorem c_personAt (d0 : Nat × Nat) (S : gS) (x : Nat) (ad : Nat → Nat → Nat) (M : gM) (h : gMail d0 S x ad M) (j : Nat) (hj : j < mN M 8) : gCt d0 yX7_personAt cX7_personAt 2 (some (.object "CourtMail$Person")) 3 0 0 [.ref x, .int (nI j)] S (gRet (.ref (ad 1 j)) S) gNo := by
  refine gCt_of (lo := [some (.ref x), some (.int (nI j))]) (by decide +kernel) (Nat.le_of_ble_eq_true rfl) rfl ?_
  intro Γ hd G F hini
  obtain ⟨⟨r1, ⟨ra, rb, rc, rd, re⟩, rt, rtl, rp, rpl, rdr, rep, rday⟩, ⟨l0, l1, l2, l3, l4⟩, ht, hcs, hps, hds, hes, hls⟩ := id h
  have hN := l1.2.2.1
  have hk := (hps j hj).1
  subst hd
  refine g_iload_n G dX7_personAt_0 rfl ?_
  refine g_if_lt (tgt := 15) G dX7_personAt_1 (by decide) (fun c_1 => (absurd c_1 (nI_pos (by omega)))) (fun c_1 => ?_)
  refine g_iload_n G dX7_personAt_4 rfl ?_
  first | refine g_aload_n G dX7_personAt_5 rfl ?_ | refine g_aload_nN G dX7_personAt_5 rfl ?_ | refine g_aload_nQ G dX7_personAt_5 rfl ?_
  first | refine g_getR G fl_X7_16 (by assumption) (by first | decide | omega) rfl (by assumption) dX7_personAt_6 ?_ | refine g_getZ G fl_X7_16 (by assumption) (by first | decide | omega) rfl (by assumption) dX7_personAt_6 ?_ | refine g_getQ G fl_X7_16 (by assumption) (by first | decide | omega) rfl (by first | assumption | rfl) dX7_personAt_6 ?_
  refine g_callVp (ci := 0) G (c_Jx4a65c_size_8abf5 _ S (ad 5 1) 2 (mN M 8) (ad 1) l1) mt_Jx4a65c_size_8abf5 mi_Jx4a65c_size_8abf5 ml_X7_80 (l1.1) (by first | decide | omega) rfl (by decide) (by omega) (by omega) rfl (Nat.le_of_ble_eq_true rfl) dX7_personAt_9 ?_
  refine g_icmp_lt (tgt := 19) G dX7_personAt_12 (by decide) (fun c_12 => ?_) (fun c_12 => (absurd (nI_lt hj (by omega)) c_12))
  first | refine g_aload_n G dX7_personAt_19 rfl ?_ | refine g_aload_nN G dX7_personAt_19 rfl ?_ | refine g_aload_nQ G dX7_personAt_19 rfl ?_
  first | refine g_getR G fl_X7_16 (by assumption) (by first | decide | omega) rfl (by assumption) dX7_personAt_20 ?_ | refine g_getZ G fl_X7_16 (by assumption) (by first | decide | omega) rfl (by assumption) dX7_personAt_20 ?_ | refine g_getQ G fl_X7_16 (by assumption) (by first | decide | omega) rfl (by first | assumption | rfl) dX7_personAt_20 ?_
  refine g_iload_n G dX7_personAt_23 rfl ?_
  refine g_callVp (ci := 0) G (c_Jx4a65c_get_915e3 _ S (ad 5 1) 2 (mN M 8) j (ad 1) l1 hj) mt_Jx4a65c_get_915e3 mi_Jx4a65c_get_915e3 ml_X7_300 (l1.1) (by first | decide | omega) rfl (by decide) (by omega) (by omega) rfl (Nat.le_of_ble_eq_true rfl) dX7_personAt_24 ?_
  refine g_cast (ci := 7) G (hk) (by first | decide | omega) rfl cl_X7_146 dX7_personAt_27 ?_
  first | exact g_aret (o := some _) G F (by first | exact Or.inl ⟨_, rfl⟩ | exact Or.inr ⟨_, rfl⟩) (gRr rfl) (by omega) (by omega) dX7_personAt_30 | exact g_aret (o := none) G F (by first | exact Or.inl ⟨_, rfl⟩ | exact Or.inr ⟨_, rfl⟩) (gRr rfl) (by omega) (by omega) dX7_personAt_30 | exact g_aret (o := _) G F (by first | exact Or.inl ⟨_, rfl⟩ | exact Or.inr ⟨_, rfl⟩) (gRr rfl) (by omega) (by omega) dX7_personAt_30

set_option maxHeartbeats 4000000 in
set_option maxRecDepth 100000 in
theorem c_personAt_no (d0 : Nat × Nat) (S : gS) (x : Nat) (ad : Nat → Nat → Nat) (M : gM) (h : gMail d0 S x ad M) (i : Int32) (hi : i < 0 ∨ nI (mN M 8) ≤ i) : gCt d0 yX7_personAt cX7_personAt 2 (some (.object "CourtMail$Person")) 3 0 0 [.ref x, .int i] S (gRet .null S) gNo := by
  refine gCt_of (lo := [some (.ref x), some (.int i)]) (by decide +kernel) (Nat.le_of_ble_eq_true rfl) rfl ?_
  intro Γ hd G F hini
  obtain ⟨⟨r1, ⟨ra, rb, rc, rd, re⟩, rt, rtl, rp, rpl, rdr, rep, rday⟩, ⟨l0, l1, l2, l3, l4⟩, ht, hcs, hps, hds, hes, hls⟩ := id h
  subst hd
  refine g_iload_n G dX7_personAt_0 rfl ?_
  refine g_if_lt (tgt := 15) G dX7_personAt_1 (by decide) (fun c_1 => ?_) (fun c_1 => ?_)
  · refine g_null G dX7_personAt_15 ?_
    refine g_goto (tgt := 30) G dX7_personAt_16 (by decide) ?_
    first | exact g_aret (o := some _) G F (by first | exact Or.inl ⟨_, rfl⟩ | exact Or.inr ⟨_, rfl⟩) (⟨rfl, rfl⟩) (by omega) (by omega) dX7_personAt_30 | exact g_aret (o := none) G F (by first | exact Or.inl ⟨_, rfl⟩ | exact Or.inr ⟨_, rfl⟩) (⟨rfl, rfl⟩) (by omega) (by omega) dX7_personAt_30 | exact g_aret (o := _) G F (by first | exact Or.inl ⟨_, rfl⟩ | exact Or.inr ⟨_, rfl⟩) (⟨rfl, rfl⟩) (by omega) (by omega) dX7_personAt_30
  · refine g_iload_n G dX7_personAt_4 rfl ?_
    first | refine g_aload_n G dX7_personAt_5 rfl ?_ | refine g_aload_nN G dX7_personAt_5 rfl ?_ | refine g_aload_nQ G dX7_personAt_5 rfl ?_
    first | refine g_getR G fl_X7_16 (by assumption) (by first | decide | omega) rfl (by assumption) dX7_personAt_6 ?_ | refine g_getZ G fl_X7_16 (by assumption) (by first | decide | omega) rfl (by assumption) dX7_personAt_6 ?_ | refine g_getQ G fl_X7_16 (by assumption) (by first | decide | omega) rfl (by first | assumption | rfl) dX7_personAt_6 ?_
    refine g_callVp (ci := 0) G (c_Jx4a65c_size_8abf5 _ S (ad 5 1) 2 (mN M 8) (ad 1) l1) mt_Jx4a65c_size_8abf5 mi_Jx4a65c_size_8abf5 ml_X7_80 (l1.1) (by first | decide | omega) rfl (by decide) (by omega) (by omega) rfl (Nat.le_of_ble_eq_true rfl) dX7_personAt_9 ?_
    refine g_icmp_lt (tgt := 19) G dX7_personAt_12 (by decide) (fun c_12 => (absurd c_12 (Int32.not_lt.mpr (hi.resolve_left c_1)))) (fun c_12 => ?_)
    refine g_null G dX7_personAt_15 ?_
    refine g_goto (tgt := 30) G dX7_personAt_16 (by decide) ?_
    first | exact g_aret (o := some _) G F (by first | exact Or.inl ⟨_, rfl⟩ | exact Or.inr ⟨_, rfl⟩) (⟨rfl, rfl⟩) (by omega) (by omega) dX7_personAt_30 | exact g_aret (o := none) G F (by first | exact Or.inl ⟨_, rfl⟩ | exact Or.inr ⟨_, rfl⟩) (⟨rfl, rfl⟩) (by omega) (by omega) dX7_personAt_30 | exact g_aret (o := _) G F (by first | exact Or.inl ⟨_, rfl⟩ | exact Or.inr ⟨_, rfl⟩) (⟨rfl, rfl⟩) (by omega) (by omega) dX7_personAt_30

set_option maxHeartbeats 4000000 in
set_option maxRecDepth 100000 in
theorem c_documentAt (d0 : Nat × Nat) (S : gS) (x : Nat) (ad : Nat → Nat → Nat) (M : gM) (h : gMail d0 S x ad M) (j : Nat) (hj : j < mN M 11) : gCt d0 yX7_documentAt cX7_documentAt 2 (some (.object "CourtMail$Document")) 3 0 0 [.ref x, .int (nI j)] S (gRet (.ref (ad 2 j)) S) gNo := by
  refine gCt_of (lo := [some (.ref x), some (.int (nI j))]) (by decide +kernel) (Nat.le_of_ble_eq_true rfl) rfl ?_
  intro Γ hd G F hini
  obtain ⟨⟨r1, ⟨ra, rb, rc, rd, re⟩, rt, rtl, rp, rpl, rdr, rep, rday⟩, ⟨l0, l1, l2, l3, l4⟩, ht, hcs, hps, hds, hes, hls⟩ := id h
  have hN := l2.2.2.1
  have hk := (hds j hj).1
  subst hd
  refine g_iload_n G dX7_documentAt_0 rfl ?_
  refine g_if_lt (tgt := 15) G dX7_documentAt_1 (by decide) (fun c_1 => (absurd c_1 (nI_pos (by omega)))) (fun c_1 => ?_)
  refine g_iload_n G dX7_documentAt_4 rfl ?_
  first | refine g_aload_n G dX7_documentAt_5 rfl ?_ | refine g_aload_nN G dX7_documentAt_5 rfl ?_ | refine g_aload_nQ G dX7_documentAt_5 rfl ?_
  first | refine g_getR G fl_X7_19 (by assumption) (by first | decide | omega) rfl (by assumption) dX7_documentAt_6 ?_ | refine g_getZ G fl_X7_19 (by assumption) (by first | decide | omega) rfl (by assumption) dX7_documentAt_6 ?_ | refine g_getQ G fl_X7_19 (by assumption) (by first | decide | omega) rfl (by first | assumption | rfl) dX7_documentAt_6 ?_
  refine g_callVp (ci := 0) G (c_Jx4a65c_size_8abf5 _ S (ad 5 2) 3 (mN M 11) (ad 2) l2) mt_Jx4a65c_size_8abf5 mi_Jx4a65c_size_8abf5 ml_X7_80 (l2.1) (by first | decide | omega) rfl (by decide) (by omega) (by omega) rfl (Nat.le_of_ble_eq_true rfl) dX7_documentAt_9 ?_
  refine g_icmp_lt (tgt := 19) G dX7_documentAt_12 (by decide) (fun c_12 => ?_) (fun c_12 => (absurd (nI_lt hj (by omega)) c_12))
  first | refine g_aload_n G dX7_documentAt_19 rfl ?_ | refine g_aload_nN G dX7_documentAt_19 rfl ?_ | refine g_aload_nQ G dX7_documentAt_19 rfl ?_
  first | refine g_getR G fl_X7_19 (by assumption) (by first | decide | omega) rfl (by assumption) dX7_documentAt_20 ?_ | refine g_getZ G fl_X7_19 (by assumption) (by first | decide | omega) rfl (by assumption) dX7_documentAt_20 ?_ | refine g_getQ G fl_X7_19 (by assumption) (by first | decide | omega) rfl (by first | assumption | rfl) dX7_documentAt_20 ?_
  refine g_iload_n G dX7_documentAt_23 rfl ?_
  refine g_callVp (ci := 0) G (c_Jx4a65c_get_915e3 _ S (ad 5 2) 3 (mN M 11) j (ad 2) l2 hj) mt_Jx4a65c_get_915e3 mi_Jx4a65c_get_915e3 ml_X7_300 (l2.1) (by first | decide | omega) rfl (by decide) (by omega) (by omega) rfl (Nat.le_of_ble_eq_true rfl) dX7_documentAt_24 ?_
  refine g_cast (ci := 2) G (hk) (by first | decide | omega) rfl cl_X7_95 dX7_documentAt_27 ?_
  first | exact g_aret (o := some _) G F (by first | exact Or.inl ⟨_, rfl⟩ | exact Or.inr ⟨_, rfl⟩) (gRr rfl) (by omega) (by omega) dX7_documentAt_30 | exact g_aret (o := none) G F (by first | exact Or.inl ⟨_, rfl⟩ | exact Or.inr ⟨_, rfl⟩) (gRr rfl) (by omega) (by omega) dX7_documentAt_30 | exact g_aret (o := _) G F (by first | exact Or.inl ⟨_, rfl⟩ | exact Or.inr ⟨_, rfl⟩) (gRr rfl) (by omega) (by omega) dX7_documentAt_30

set_option maxHeartbeats 4000000 in
set_option maxRecDepth 100000 in
theorem c_documentAt_no (d0 : Nat × Nat) (S : gS) (x : Nat) (ad : Nat → Nat → Nat) (M : gM) (h : gMail d0 S x ad M) (i : Int32) (hi : i < 0 ∨ nI (mN M 11) ≤ i) : gCt d0 yX7_documentAt cX7_documentAt 2 (some (.object "CourtMail$Document")) 3 0 0 [.ref x, .int i] S (gRet .null S) gNo := by
  refine gCt_of (lo := [some (.ref x), some (.int i)]) (by decide +kernel) (Nat.le_of_ble_eq_true rfl) rfl ?_
  intro Γ hd G F hini
  obtain ⟨⟨r1, ⟨ra, rb, rc, rd, re⟩, rt, rtl, rp, rpl, rdr, rep, rday⟩, ⟨l0, l1, l2, l3, l4⟩, ht, hcs, hps, hds, hes, hls⟩ := id h
  subst hd
  refine g_iload_n G dX7_documentAt_0 rfl ?_
  refine g_if_lt (tgt := 15) G dX7_documentAt_1 (by decide) (fun c_1 => ?_) (fun c_1 => ?_)
  · refine g_null G dX7_documentAt_15 ?_
    refine g_goto (tgt := 30) G dX7_documentAt_16 (by decide) ?_
    first | exact g_aret (o := some _) G F (by first | exact Or.inl ⟨_, rfl⟩ | exact Or.inr ⟨_, rfl⟩) (⟨rfl, rfl⟩) (by omega) (by omega) dX7_documentAt_30 | exact g_aret (o := none) G F (by first | exact Or.inl ⟨_, rfl⟩ | exact Or.inr ⟨_, rfl⟩) (⟨rfl, rfl⟩) (by omega) (by omega) dX7_documentAt_30 | exact g_aret (o := _) G F (by first | exact Or.inl ⟨_, rfl⟩ | exact Or.inr ⟨_, rfl⟩) (⟨rfl, rfl⟩) (by omega) (by omega) dX7_documentAt_30
  · refine g_iload_n G dX7_documentAt_4 rfl ?_
    first | refine g_aload_n G dX7_documentAt_5 rfl ?_ | refine g_aload_nN G dX7_documentAt_5 rfl ?_ | refine g_aload_nQ G dX7_documentAt_5 rfl ?_
    first | refine g_getR G fl_X7_19 (by assumption) (by first | decide | omega) rfl (by assumption) dX7_documentAt_6 ?_ | refine g_getZ G fl_X7_19 (by assumption) (by first | decide | omega) rfl (by assumption) dX7_documentAt_6 ?_ | refine g_getQ G fl_X7_19 (by assumption) (by first | decide | omega) rfl (by first | assumption | rfl) dX7_documentAt_6 ?_
    refine g_callVp (ci := 0) G (c_Jx4a65c_size_8abf5 _ S (ad 5 2) 3 (mN M 11) (ad 2) l2) mt_Jx4a65c_size_8abf5 mi_Jx4a65c_size_8abf5 ml_X7_80 (l2.1) (by first | decide | omega) rfl (by decide) (by omega) (by omega) rfl (Nat.le_of_ble_eq_true rfl) dX7_documentAt_9 ?_
    refine g_icmp_lt (tgt := 19) G dX7_documentAt_12 (by decide) (fun c_12 => (absurd c_12 (Int32.not_lt.mpr (hi.resolve_left c_1)))) (fun c_12 => ?_)
    refine g_null G dX7_documentAt_15 ?_
    refine g_goto (tgt := 30) G dX7_documentAt_16 (by decide) ?_
    first | exact g_aret (o := some _) G F (by first | exact Or.inl ⟨_, rfl⟩ | exact Or.inr ⟨_, rfl⟩) (⟨rfl, rfl⟩) (by omega) (by omega) dX7_documentAt_30 | exact g_aret (o := none) G F (by first | exact Or.inl ⟨_, rfl⟩ | exact Or.inr ⟨_, rfl⟩) (⟨rfl, rfl⟩) (by omega) (by omega) dX7_documentAt_30 | exact g_aret (o := _) G F (by first | exact Or.inl ⟨_, rfl⟩ | exact Or.inr ⟨_, rfl⟩) (⟨rfl, rfl⟩) (by omega) (by omega) dX7_documentAt_30

set_option maxHeartbeats 4000000 in
set_option maxRecDepth 100000 in
theorem c_exhibitAt (d0 : Nat × Nat) (S : gS) (x : Nat) (ad : Nat → Nat → Nat) (M : gM) (h : gMail d0 S x ad M) (j : Nat) (hj : j < mN M 17) : gCt d0 yX7_exhibitAt cX7_exhibitAt 2 (some (.object "CourtMail$Exhibit")) 3 0 0 [.ref x, .int (nI j)] S (gRet (.ref (ad 3 j)) S) gNo := by
  refine gCt_of (lo := [some (.ref x), some (.int (nI j))]) (by decide +kernel) (Nat.le_of_ble_eq_true rfl) rfl ?_
  intro Γ hd G F hini
  obtain ⟨⟨r1, ⟨ra, rb, rc, rd, re⟩, rt, rtl, rp, rpl, rdr, rep, rday⟩, ⟨l0, l1, l2, l3, l4⟩, ht, hcs, hps, hds, hes, hls⟩ := id h
  have hN := l3.2.2.1
  have hk := (hes j hj).1
  subst hd
  refine g_iload_n G dX7_exhibitAt_0 rfl ?_
  refine g_if_lt (tgt := 15) G dX7_exhibitAt_1 (by decide) (fun c_1 => (absurd c_1 (nI_pos (by omega)))) (fun c_1 => ?_)
  refine g_iload_n G dX7_exhibitAt_4 rfl ?_
  first | refine g_aload_n G dX7_exhibitAt_5 rfl ?_ | refine g_aload_nN G dX7_exhibitAt_5 rfl ?_ | refine g_aload_nQ G dX7_exhibitAt_5 rfl ?_
  first | refine g_getR G fl_X7_22 (by assumption) (by first | decide | omega) rfl (by assumption) dX7_exhibitAt_6 ?_ | refine g_getZ G fl_X7_22 (by assumption) (by first | decide | omega) rfl (by assumption) dX7_exhibitAt_6 ?_ | refine g_getQ G fl_X7_22 (by assumption) (by first | decide | omega) rfl (by first | assumption | rfl) dX7_exhibitAt_6 ?_
  refine g_callVp (ci := 0) G (c_Jx4a65c_size_8abf5 _ S (ad 5 3) 4 (mN M 17) (ad 3) l3) mt_Jx4a65c_size_8abf5 mi_Jx4a65c_size_8abf5 ml_X7_80 (l3.1) (by first | decide | omega) rfl (by decide) (by omega) (by omega) rfl (Nat.le_of_ble_eq_true rfl) dX7_exhibitAt_9 ?_
  refine g_icmp_lt (tgt := 19) G dX7_exhibitAt_12 (by decide) (fun c_12 => ?_) (fun c_12 => (absurd (nI_lt hj (by omega)) c_12))
  first | refine g_aload_n G dX7_exhibitAt_19 rfl ?_ | refine g_aload_nN G dX7_exhibitAt_19 rfl ?_ | refine g_aload_nQ G dX7_exhibitAt_19 rfl ?_
  first | refine g_getR G fl_X7_22 (by assumption) (by first | decide | omega) rfl (by assumption) dX7_exhibitAt_20 ?_ | refine g_getZ G fl_X7_22 (by assumption) (by first | decide | omega) rfl (by assumption) dX7_exhibitAt_20 ?_ | refine g_getQ G fl_X7_22 (by assumption) (by first | decide | omega) rfl (by first | assumption | rfl) dX7_exhibitAt_20 ?_
  refine g_iload_n G dX7_exhibitAt_23 rfl ?_
  refine g_callVp (ci := 0) G (c_Jx4a65c_get_915e3 _ S (ad 5 3) 4 (mN M 17) j (ad 3) l3 hj) mt_Jx4a65c_get_915e3 mi_Jx4a65c_get_915e3 ml_X7_300 (l3.1) (by first | decide | omega) rfl (by decide) (by omega) (by omega) rfl (Nat.le_of_ble_eq_true rfl) dX7_exhibitAt_24 ?_
  refine g_cast (ci := 4) G (hk) (by first | decide | omega) rfl cl_X7_241 dX7_exhibitAt_27 ?_
  first | exact g_aret (o := some _) G F (by first | exact Or.inl ⟨_, rfl⟩ | exact Or.inr ⟨_, rfl⟩) (gRr rfl) (by omega) (by omega) dX7_exhibitAt_30 | exact g_aret (o := none) G F (by first | exact Or.inl ⟨_, rfl⟩ | exact Or.inr ⟨_, rfl⟩) (gRr rfl) (by omega) (by omega) dX7_exhibitAt_30 | exact g_aret (o := _) G F (by first | exact Or.inl ⟨_, rfl⟩ | exact Or.inr ⟨_, rfl⟩) (gRr rfl) (by omega) (by omega) dX7_exhibitAt_30

set_option maxHeartbeats 4000000 in
set_option maxRecDepth 100000 in
theorem c_exhibitAt_no (d0 : Nat × Nat) (S : gS) (x : Nat) (ad : Nat → Nat → Nat) (M : gM) (h : gMail d0 S x ad M) (i : Int32) (hi : i < 0 ∨ nI (mN M 17) ≤ i) : gCt d0 yX7_exhibitAt cX7_exhibitAt 2 (some (.object "CourtMail$Exhibit")) 3 0 0 [.ref x, .int i] S (gRet .null S) gNo := by
  refine gCt_of (lo := [some (.ref x), some (.int i)]) (by decide +kernel) (Nat.le_of_ble_eq_true rfl) rfl ?_
  intro Γ hd G F hini
  obtain ⟨⟨r1, ⟨ra, rb, rc, rd, re⟩, rt, rtl, rp, rpl, rdr, rep, rday⟩, ⟨l0, l1, l2, l3, l4⟩, ht, hcs, hps, hds, hes, hls⟩ := id h
  subst hd
  refine g_iload_n G dX7_exhibitAt_0 rfl ?_
  refine g_if_lt (tgt := 15) G dX7_exhibitAt_1 (by decide) (fun c_1 => ?_) (fun c_1 => ?_)
  · refine g_null G dX7_exhibitAt_15 ?_
    refine g_goto (tgt := 30) G dX7_exhibitAt_16 (by decide) ?_
    first | exact g_aret (o := some _) G F (by first | exact Or.inl ⟨_, rfl⟩ | exact Or.inr ⟨_, rfl⟩) (⟨rfl, rfl⟩) (by omega) (by omega) dX7_exhibitAt_30 | exact g_aret (o := none) G F (by first | exact Or.inl ⟨_, rfl⟩ | exact Or.inr ⟨_, rfl⟩) (⟨rfl, rfl⟩) (by omega) (by omega) dX7_exhibitAt_30 | exact g_aret (o := _) G F (by first | exact Or.inl ⟨_, rfl⟩ | exact Or.inr ⟨_, rfl⟩) (⟨rfl, rfl⟩) (by omega) (by omega) dX7_exhibitAt_30
  · refine g_iload_n G dX7_exhibitAt_4 rfl ?_
    first | refine g_aload_n G dX7_exhibitAt_5 rfl ?_ | refine g_aload_nN G dX7_exhibitAt_5 rfl ?_ | refine g_aload_nQ G dX7_exhibitAt_5 rfl ?_
    first | refine g_getR G fl_X7_22 (by assumption) (by first | decide | omega) rfl (by assumption) dX7_exhibitAt_6 ?_ | refine g_getZ G fl_X7_22 (by assumption) (by first | decide | omega) rfl (by assumption) dX7_exhibitAt_6 ?_ | refine g_getQ G fl_X7_22 (by assumption) (by first | decide | omega) rfl (by first | assumption | rfl) dX7_exhibitAt_6 ?_
    refine g_callVp (ci := 0) G (c_Jx4a65c_size_8abf5 _ S (ad 5 3) 4 (mN M 17) (ad 3) l3) mt_Jx4a65c_size_8abf5 mi_Jx4a65c_size_8abf5 ml_X7_80 (l3.1) (by first | decide | omega) rfl (by decide) (by omega) (by omega) rfl (Nat.le_of_ble_eq_true rfl) dX7_exhibitAt_9 ?_
    refine g_icmp_lt (tgt := 19) G dX7_exhibitAt_12 (by decide) (fun c_12 => (absurd c_12 (Int32.not_lt.mpr (hi.resolve_left c_1)))) (fun c_12 => ?_)
    refine g_null G dX7_exhibitAt_15 ?_
    refine g_goto (tgt := 30) G dX7_exhibitAt_16 (by decide) ?_
    first | exact g_aret (o := some _) G F (by first | exact Or.inl ⟨_, rfl⟩ | exact Or.inr ⟨_, rfl⟩) (⟨rfl, rfl⟩) (by omega) (by omega) dX7_exhibitAt_30 | exact g_aret (o := none) G F (by first | exact Or.inl ⟨_, rfl⟩ | exact Or.inr ⟨_, rfl⟩) (⟨rfl, rfl⟩) (by omega) (by omega) dX7_exhibitAt_30 | exact g_aret (o := _) G F (by first | exact Or.inl ⟨_, rfl⟩ | exact Or.inr ⟨_, rfl⟩) (⟨rfl, rfl⟩) (by omega) (by omega) dX7_exhibitAt_30

set_option maxHeartbeats 4000000 in
set_option maxRecDepth 100000 in
theorem c_letterAt (d0 : Nat × Nat) (S : gS) (x : Nat) (ad : Nat → Nat → Nat) (M : gM) (h : gMail d0 S x ad M) (j : Nat) (hj : j < mN M 23) : gCt d0 yX7_letterAt cX7_letterAt 2 (some (.object "CourtMail$Letter")) 3 0 0 [.ref x, .int (nI j)] S (gRet (.ref (ad 4 j)) S) gNo := by
  refine gCt_of (lo := [some (.ref x), some (.int (nI j))]) (by decide +kernel) (Nat.le_of_ble_eq_true rfl) rfl ?_
  intro Γ hd G F hini
  obtain ⟨⟨r1, ⟨ra, rb, rc, rd, re⟩, rt, rtl, rp, rpl, rdr, rep, rday⟩, ⟨l0, l1, l2, l3, l4⟩, ht, hcs, hps, hds, hes, hls⟩ := id h
  have hN := l4.2.2.1
  have hk := (hls j hj).1
  subst hd
  refine g_iload_n G dX7_letterAt_0 rfl ?_
  refine g_if_lt (tgt := 15) G dX7_letterAt_1 (by decide) (fun c_1 => (absurd c_1 (nI_pos (by omega)))) (fun c_1 => ?_)
  refine g_iload_n G dX7_letterAt_4 rfl ?_
  first | refine g_aload_n G dX7_letterAt_5 rfl ?_ | refine g_aload_nN G dX7_letterAt_5 rfl ?_ | refine g_aload_nQ G dX7_letterAt_5 rfl ?_
  first | refine g_getR G fl_X7_25 (by assumption) (by first | decide | omega) rfl (by assumption) dX7_letterAt_6 ?_ | refine g_getZ G fl_X7_25 (by assumption) (by first | decide | omega) rfl (by assumption) dX7_letterAt_6 ?_ | refine g_getQ G fl_X7_25 (by assumption) (by first | decide | omega) rfl (by first | assumption | rfl) dX7_letterAt_6 ?_
  refine g_callVp (ci := 0) G (c_Jx4a65c_size_8abf5 _ S (ad 5 4) 5 (mN M 23) (ad 4) l4) mt_Jx4a65c_size_8abf5 mi_Jx4a65c_size_8abf5 ml_X7_80 (l4.1) (by first | decide | omega) rfl (by decide) (by omega) (by omega) rfl (Nat.le_of_ble_eq_true rfl) dX7_letterAt_9 ?_
  refine g_icmp_lt (tgt := 19) G dX7_letterAt_12 (by decide) (fun c_12 => ?_) (fun c_12 => (absurd (nI_lt hj (by omega)) c_12))
  first | refine g_aload_n G dX7_letterAt_19 rfl ?_ | refine g_aload_nN G dX7_letterAt_19 rfl ?_ | refine g_aload_nQ G dX7_letterAt_19 rfl ?_
  first | refine g_getR G fl_X7_25 (by assumption) (by first | decide | omega) rfl (by assumption) dX7_letterAt_20 ?_ | refine g_getZ G fl_X7_25 (by assumption) (by first | decide | omega) rfl (by assumption) dX7_letterAt_20 ?_ | refine g_getQ G fl_X7_25 (by assumption) (by first | decide | omega) rfl (by first | assumption | rfl) dX7_letterAt_20 ?_
  refine g_iload_n G dX7_letterAt_23 rfl ?_
  refine g_callVp (ci := 0) G (c_Jx4a65c_get_915e3 _ S (ad 5 4) 5 (mN M 23) j (ad 4) l4 hj) mt_Jx4a65c_get_915e3 mi_Jx4a65c_get_915e3 ml_X7_300 (l4.1) (by first | decide | omega) rfl (by decide) (by omega) (by omega) rfl (Nat.le_of_ble_eq_true rfl) dX7_letterAt_24 ?_
  refine g_cast (ci := 5) G (hk) (by first | decide | omega) rfl cl_X7_312 dX7_letterAt_27 ?_
  first | exact g_aret (o := some _) G F (by first | exact Or.inl ⟨_, rfl⟩ | exact Or.inr ⟨_, rfl⟩) (gRr rfl) (by omega) (by omega) dX7_letterAt_30 | exact g_aret (o := none) G F (by first | exact Or.inl ⟨_, rfl⟩ | exact Or.inr ⟨_, rfl⟩) (gRr rfl) (by omega) (by omega) dX7_letterAt_30 | exact g_aret (o := _) G F (by first | exact Or.inl ⟨_, rfl⟩ | exact Or.inr ⟨_, rfl⟩) (gRr rfl) (by omega) (by omega) dX7_letterAt_30

set_option maxHeartbeats 4000000 in
set_option maxRecDepth 100000 in
theorem c_letterAt_no (d0 : Nat × Nat) (S : gS) (x : Nat) (ad : Nat → Nat → Nat) (M : gM) (h : gMail d0 S x ad M) (i : Int32) (hi : i < 0 ∨ nI (mN M 23) ≤ i) : gCt d0 yX7_letterAt cX7_letterAt 2 (some (.object "CourtMail$Letter")) 3 0 0 [.ref x, .int i] S (gRet .null S) gNo := by
  refine gCt_of (lo := [some (.ref x), some (.int i)]) (by decide +kernel) (Nat.le_of_ble_eq_true rfl) rfl ?_
  intro Γ hd G F hini
  obtain ⟨⟨r1, ⟨ra, rb, rc, rd, re⟩, rt, rtl, rp, rpl, rdr, rep, rday⟩, ⟨l0, l1, l2, l3, l4⟩, ht, hcs, hps, hds, hes, hls⟩ := id h
  subst hd
  refine g_iload_n G dX7_letterAt_0 rfl ?_
  refine g_if_lt (tgt := 15) G dX7_letterAt_1 (by decide) (fun c_1 => ?_) (fun c_1 => ?_)
  · refine g_null G dX7_letterAt_15 ?_
    refine g_goto (tgt := 30) G dX7_letterAt_16 (by decide) ?_
    first | exact g_aret (o := some _) G F (by first | exact Or.inl ⟨_, rfl⟩ | exact Or.inr ⟨_, rfl⟩) (⟨rfl, rfl⟩) (by omega) (by omega) dX7_letterAt_30 | exact g_aret (o := none) G F (by first | exact Or.inl ⟨_, rfl⟩ | exact Or.inr ⟨_, rfl⟩) (⟨rfl, rfl⟩) (by omega) (by omega) dX7_letterAt_30 | exact g_aret (o := _) G F (by first | exact Or.inl ⟨_, rfl⟩ | exact Or.inr ⟨_, rfl⟩) (⟨rfl, rfl⟩) (by omega) (by omega) dX7_letterAt_30
  · refine g_iload_n G dX7_letterAt_4 rfl ?_
    first | refine g_aload_n G dX7_letterAt_5 rfl ?_ | refine g_aload_nN G dX7_letterAt_5 rfl ?_ | refine g_aload_nQ G dX7_letterAt_5 rfl ?_
    first | refine g_getR G fl_X7_25 (by assumption) (by first | decide | omega) rfl (by assumption) dX7_letterAt_6 ?_ | refine g_getZ G fl_X7_25 (by assumption) (by first | decide | omega) rfl (by assumption) dX7_letterAt_6 ?_ | refine g_getQ G fl_X7_25 (by assumption) (by first | decide | omega) rfl (by first | assumption | rfl) dX7_letterAt_6 ?_
    refine g_callVp (ci := 0) G (c_Jx4a65c_size_8abf5 _ S (ad 5 4) 5 (mN M 23) (ad 4) l4) mt_Jx4a65c_size_8abf5 mi_Jx4a65c_size_8abf5 ml_X7_80 (l4.1) (by first | decide | omega) rfl (by decide) (by omega) (by omega) rfl (Nat.le_of_ble_eq_true rfl) dX7_letterAt_9 ?_
    refine g_icmp_lt (tgt := 19) G dX7_letterAt_12 (by decide) (fun c_12 => (absurd c_12 (Int32.not_lt.mpr (hi.resolve_left c_1)))) (fun c_12 => ?_)
    refine g_null G dX7_letterAt_15 ?_
    refine g_goto (tgt := 30) G dX7_letterAt_16 (by decide) ?_
    first | exact g_aret (o := some _) G F (by first | exact Or.inl ⟨_, rfl⟩ | exact Or.inr ⟨_, rfl⟩) (⟨rfl, rfl⟩) (by omega) (by omega) dX7_letterAt_30 | exact g_aret (o := none) G F (by first | exact Or.inl ⟨_, rfl⟩ | exact Or.inr ⟨_, rfl⟩) (⟨rfl, rfl⟩) (by omega) (by omega) dX7_letterAt_30 | exact g_aret (o := _) G F (by first | exact Or.inl ⟨_, rfl⟩ | exact Or.inr ⟨_, rfl⟩) (⟨rfl, rfl⟩) (by omega) (by omega) dX7_letterAt_30
