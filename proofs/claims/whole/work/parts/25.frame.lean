/-! ===== frames: what a method leaves ===== -/
def gFr (K : Nat → Prop) (S S' : gS) : Prop := (∀ b, gK S b ≠ 0 → gK S' b = gK S b ∧ gL S' b = gL S b) ∧ ∀ κ, K κ → gX S' κ = gX S κ ∧ gY S' κ = gY S κ ∧ gZ S' κ = gZ S κ
theorem gFr.rf {K : Nat → Prop} (S : gS) : gFr K S S := ⟨fun _ _ => ⟨rfl, rfl⟩, fun _ _ => ⟨rfl, rfl, rfl⟩⟩
theorem gFr.tr {K1 K2 K : Nat → Prop} {S S1 S2 : gS} (h : gFr K1 S S1) (h2 : gFr K2 S1 S2) (h3 : ∀ κ, K κ → K1 κ ∧ K2 κ) : gFr K S S2 :=
  ⟨fun b hb => ⟨(h2.1 b (by rw [(h.1 b hb).1]; exact hb)).1.trans (h.1 b hb).1, (h2.1 b (by rw [(h.1 b hb).1]; exact hb)).2.trans (h.1 b hb).2⟩,
   fun κ hκ => ⟨(h2.2 κ (h3 κ hκ).2).1.trans (h.2 κ (h3 κ hκ).1).1, (h2.2 κ (h3 κ hκ).2).2.1.trans (h.2 κ (h3 κ hκ).1).2.1, (h2.2 κ (h3 κ hκ).2).2.2.trans (h.2 κ (h3 κ hκ).1).2.2⟩⟩
theorem gFr.mono {K1 K : Nat → Prop} {S S1 : gS} (h : gFr K1 S S1) (h3 : ∀ κ, K κ → K1 κ) : gFr K S S1 := ⟨h.1, fun κ hκ => h.2 κ (h3 κ hκ)⟩
theorem gFr_X (S : gS) (κ p q : Nat) (v : Int32) : gFr (fun k => k ≠ κ) S (sX S κ p q v) := ⟨fun _ _ => ⟨rfl, rfl⟩, fun k hk => ⟨u3_kf _ _ hk, rfl, rfl⟩⟩
theorem gFr_Y (S : gS) (κ p q : Nat) (v : Option Nat) : gFr (fun k => k ≠ κ) S (sY S κ p q v) := ⟨fun _ _ => ⟨rfl, rfl⟩, fun k hk => ⟨rfl, u3_kf _ _ hk, rfl⟩⟩
theorem gFr_Xr (S : gS) (κ p : Nat) (v : Nat → Int32) : gFr (fun k => k ≠ κ) S (sXr S κ p v) := ⟨fun _ _ => ⟨rfl, rfl⟩, fun k hk => ⟨u2_kf _ _ hk, rfl, rfl⟩⟩
theorem gN_xk (S : gS) {κ q a : Nat} (h : a ≠ κ) : gX (sN S κ q) a = gX S a := funext fun b => funext fun c => if_neg fun z => h z.1
theorem gN_yk (S : gS) {κ q a : Nat} (h : a ≠ κ) : gY (sN S κ q) a = gY S a := funext fun b => funext fun c => if_neg fun z => h z.1
theorem gFr_N {S : gS} {q : Nat} (κ : Nat) (hq : gK S q = 0) : gFr (fun k => k ≠ κ) S (sN S κ q) := ⟨fun b hb => ⟨va_up_ne _ _ (fun z => hb (z ▸ hq)), rfl⟩, fun k hk => ⟨gN_xk S hk, gN_yk S hk, rfl⟩⟩
theorem gFr_M {S : gS} {q : Nat} (κ n : Nat) (hq : gK S q = 0) : gFr (fun k => k ≠ κ) S (sM S κ q n) := ⟨fun b hb => ⟨va_up_ne _ _ (fun z => hb (z ▸ hq)), va_up_ne _ _ (fun z => hb (z ▸ hq))⟩, fun k hk => ⟨gM_xk S hk, gM_yk S hk, gM_zk S hk⟩⟩
theorem gFr_L {S S' : gS} {r : Nat} (h : gFrL S S' r) : gFr (fun k => k ≠ 1 + 32 * r ∧ k ≠ 19 + 32 * r) S S' := ⟨h.1, fun k hk => h.2 k hk.1 hk.2⟩
theorem gFr.K {K : Nat → Prop} {S S' : gS} (F : gFr K S S') {a κ : Nat} (h : gK S a = κ) (h0 : κ ≠ 0) : gK S' a = κ := (F.1 a (by rw [h]; exact h0)).1.trans h
theorem gFr.X {K : Nat → Prop} {S S' : gS} (F : gFr K S S') {κ p a : Nat} {v : Int32} (k : K κ) (h : gX S κ p a = v) : gX S' κ p a = v := (congrFun (congrFun (F.2 κ k).1 p) a).trans h
theorem gFr.Y {K : Nat → Prop} {S S' : gS} (F : gFr K S S') {κ p a : Nat} {v : Option Nat} (k : K κ) (h : gY S κ p a = v) : gY S' κ p a = v := (congrFun (congrFun (F.2 κ k).2.1 p) a).trans h
/-! updates of the abstract state -/
def uN (M : gM) (k v : Nat) : gM := (fun i => if i = k then v else M.1 i, M.2.1, M.2.2)
def uA (M : gM) (f i : Nat) (v : Int32) : gM := (M.1, fun g j => if g = f ∧ j = i then v else M.2.1 g j, M.2.2)
def uT (M : gM) (f i : Nat) (v : Nat → Int32) : gM := (M.1, M.2.1, fun g j => if g = f ∧ j = i then v else M.2.2 g j)
def uR (M : gM) (f : Nat) (v : Nat → Int32) : gM := (M.1, fun g j => if g = f then v j else M.2.1 g j, M.2.2)
def uad (ad : Nat → Nat → Nat) (k i a : Nat) : Nat → Nat → Nat := fun g j => if g = k ∧ j = i then a else ad g j
theorem uN_s {M : gM} {k v : Nat} : mN (uN M k v) k = v := if_pos rfl
theorem uN_o {M : gM} {k v i : Nat} (h : i ≠ k) : mN (uN M k v) i = mN M i := if_neg h
theorem uA_s {M : gM} {f i : Nat} {v : Int32} : mA (uA M f i v) f i = v := if_pos ⟨rfl, rfl⟩
theorem uA_f {M : gM} {f i g j : Nat} {v : Int32} (h : g ≠ f) : mA (uA M f i v) g j = mA M g j := if_neg fun z => h z.1
theorem uA_i {M : gM} {f i g j : Nat} {v : Int32} (h : j ≠ i) : mA (uA M f i v) g j = mA M g j := if_neg fun z => h z.2
theorem uT_s {M : gM} {f i : Nat} {v : Nat → Int32} : mT (uT M f i v) f i = v := if_pos ⟨rfl, rfl⟩
theorem uT_f {M : gM} {f i g j : Nat} {v : Nat → Int32} (h : g ≠ f) : mT (uT M f i v) g j = mT M g j := if_neg fun z => h z.1
theorem uT_i {M : gM} {f i g j : Nat} {v : Nat → Int32} (h : j ≠ i) : mT (uT M f i v) g j = mT M g j := if_neg fun z => h z.2
theorem uR_s {M : gM} {f : Nat} {v : Nat → Int32} : mA (uR M f v) f = v := funext fun _ => if_pos rfl
theorem uR_f {M : gM} {f g : Nat} {v : Nat → Int32} (h : g ≠ f) : mA (uR M f v) g = mA M g := funext fun _ => if_neg h
theorem uad_s {ad : Nat → Nat → Nat} {k i a : Nat} : uad ad k i a k i = a := if_pos ⟨rfl, rfl⟩
theorem uad_f {ad : Nat → Nat → Nat} {k i a g j : Nat} (h : g ≠ k) : uad ad k i a g j = ad g j := if_neg fun z => h z.1
theorem uad_i {ad : Nat → Nat → Nat} {k i a g j : Nat} (h : j ≠ i) : uad ad k i a g j = ad g j := if_neg fun z => h z.2
theorem uad_row {ad : Nat → Nat → Nat} {k i a : Nat} : uad ad k i a k = fun j => if j = i then a else ad k j := funext fun j => by
  by_cases h : j = i
  · rw [if_pos h, h]; exact uad_s
  · rw [if_neg h]; exact uad_i h
/-! the parts of the class's state, carried over -/
section GMONO
variable {d0 : Nat × Nat} {S S' : gS} {x : Nat} {ad ad' : Nat → Nat → Nat} {M M' : gM} {K : Nat → Prop}
theorem gDrq_mono (h : gDrq S ad) (F : gFr K S S') (k4 : K 4) (k113 : K 113) : gDrq S' ad := by
  obtain ⟨h2, ⟨a1, a2, a3, a4⟩, ⟨b1, b2⟩, ⟨c1, c2⟩, ⟨e1, e2⟩, f1, f2, f3⟩ := h
  exact ⟨F.K h2 (by decide), ⟨F.Y k4 a1, F.Y k4 a2, F.Y k4 a3, F.Y k4 a4⟩, ⟨F.K b1 (by decide), (F.1 _ (by rw [b1]; decide)).2.trans b2⟩, ⟨F.K c1 (by decide), (F.1 _ (by rw [c1]; decide)).2.trans c2⟩, ⟨F.K e1 (by decide), (F.1 _ (by rw [e1]; decide)).2.trans e2⟩, F.K f1 (by decide), (F.1 _ (by rw [f1]; decide)).2.trans f2, F.X k113 f3⟩
theorem gDrf_mono (h : gDrf S x ad) (F : gFr K S S') (h9 : gY S' 9 9 x = gY S 9 9 x) (k4 : K 4) (k113 : K 113) : gDrf S' x ad := ⟨h9.trans h.1, gDrq_mono h.2 F k4 k113⟩
theorem gRoot_mono (h : gRoot S x ad M) (F : gFr K S S') (k : K 9) (a5 : ad' 5 = ad 5) (a6 : ad' 6 = ad 6) (m2 : mN M' 2 = mN M 2) (m5 : mN M' 5 = mN M 5) (m3 : mA M' 3 0 = mA M 3 0) (m40 : mN M' 40 = mN M 40) (k4 : K 4 := by first | omega | (dsimp only; omega)) (k113 : K 113 := by first | omega | (dsimp only; omega)) : gRoot S' x ad' M' := by
  obtain ⟨h1, ⟨q0, q1, q2, q3, q4⟩, p5, p6, p7, p8, p9, p10, p11⟩ := h
  refine ⟨F.K h1 (by decide), ⟨?_, ?_, ?_, ?_, ?_⟩, ?_, ?_, ?_, ?_, ?_, ?_, ?_⟩
  case refine_10 =>
    have z := gDrf_mono p9 F (congrFun (congrFun (F.2 9 k).2.1 9) x) k4 k113
    unfold gDrf gDrq at z ⊢
    rw [a6]
    exact z
  all_goals simp only [a5, a6, m2, m5, m3, m40]
  all_goals first | exact F.Y k (by assumption) | exact F.X k (by assumption)
theorem gLst_mono {a r N : Nat} {el el' : Nat → Nat} (h : gLst d0 S a r N el) (F : gFr K S S') (k1 : K (1 + 32 * r)) (k2 : K (19 + 32 * r)) (he : ∀ i, i < N → el' i = el i) : gLst d0 S' a r N el' := by
  obtain ⟨h1, h2, h3, ed, h4, h5⟩ := h
  refine ⟨F.K h1 (by omega), F.X k1 h2, h3, ed, F.Y k1 h4, h5.imp id (fun ⟨p1, p2, p3, p4, p5⟩ => ?_)⟩
  have e := (F.1 ed (by rw [p1]; omega)).2
  exact ⟨F.K p1 (by omega), by rw [e]; exact p2, by rw [e]; exact p3, by rw [e]; exact p4, fun i hi => by rw [he i hi]; exact F.Y k2 (p5 i hi)⟩
theorem gTape_mono (h : gTape S ad M) (F : gFr K S S') (k1 : K 49) (k2 : K 81) (a6 : ad' 6 = ad 6) (m2 : mN M' 2 = mN M 2) (m5 : mN M' 5 = mN M 5) (m1 : mA M' 1 = mA M 1) (m4 : mA M' 4 = mA M 4) : gTape S' ad' M' := by
  obtain ⟨h1, h2, h3, h4, h5, h6, h7, h8⟩ := h
  unfold gTape
  rw [a6, m2, m5, m1, m4]
  exact ⟨F.K h1 (by decide), (F.1 _ (by rw [h1]; decide)).2.trans h2, h3, fun i hi => F.X k1 (h4 i hi), F.K h5 (by decide), (F.1 _ (by rw [h5]; decide)).2.trans h6, h7, fun i hi => F.X k2 (h8 i hi)⟩
theorem gCase_mono {c j : Nat} {sea : Int32} (h : gCase S c j sea) (F : gFr K S S') (k : K (2 + 32 * j)) : gCase S' c j sea := ⟨F.K h.1 (by omega), F.X k h.2.1, F.X k h.2.2⟩
theorem gPers_mono {p i : Nat} {role cl att wrn : Int32} (h : gPers S p i role cl att wrn) (F : gFr K S S') (k : K (8 + 32 * i)) : gPers S' p i role cl att wrn := ⟨F.K h.1 (by omega), F.X k h.2.1, F.X k h.2.2.1, F.X k h.2.2.2.1, F.X k h.2.2.2.2.1, F.X k h.2.2.2.2.2⟩
theorem gRow1_mono {a κ n : Nat} {f : Nat → Int32} (h : gRow1 S a κ n f) (F : gFr K S S') (k : K κ) (h0 : κ ≠ 0) : gRow1 S' a κ n f := ⟨F.K h.1 h0, (F.1 a (by rw [h.1]; exact h0)).2.trans h.2.1, fun j hj => F.X k (h.2.2 j hj)⟩
theorem gPr_mono {v : Int32} (h : gPr M v) (hp : mN M 8 ≤ mN M' 8) : gPr M' v := h.imp id (fun ⟨p, h1, h2⟩ => ⟨p, Nat.lt_of_lt_of_le h1 hp, h2⟩)
theorem gWho_mono {v : Int32} (h : gWho M v) (hp : mN M 8 ≤ mN M' 8) : gWho M' v := h.imp id (fun h => h.imp id (fun ⟨p, h1, h2⟩ => ⟨p, Nat.lt_of_lt_of_le h1 hp, h2⟩))
theorem gRf_ad {v : Int32} (h : gWho M v) (hN : mN M 8 ≤ 60) (hp : ∀ p, p < mN M 8 → ad' 1 p = ad 1 p) : gRf ad' v = gRf ad v := by
  rcases h with rfl | rfl | ⟨p, h1, rfl⟩
  · rw [gRf_1, gRf_1]
  · rw [gRf_2, gRf_2]
  · rw [gRf_p (by omega), gRf_p (by omega), hp p h1]
theorem gPr_who {v : Int32} (h : gPr M v) : gWho M v := h.imp id Or.inr
theorem gDoc_mono {d : Nat} (h : gDoc S ad M d) (F : gFr K S S') (k0 : K (3 + 32 * d)) (k1 : K (16 + 32 * (100 + 3 * d))) (k2 : K (16 + 32 * (101 + 3 * d))) (k3 : K (16 + 32 * (102 + 3 * d))) (hN : mN M 8 ≤ 60)
    (a2 : ad' 2 d = ad 2 d) (a7 : ad' 7 d = ad 7 d) (a8 : ad' 8 d = ad 8 d) (a9 : ad' 9 d = ad 9 d) (hc : ∀ c, c < mN M 6 → ad' 0 c = ad 0 c) (hp : ∀ p, p < mN M 8 → ad' 1 p = ad 1 p) (nc : mN M 6 ≤ mN M' 6) (np : mN M 8 ≤ mN M' 8)
    (m12 : mA M' 12 d = mA M 12 d) (m16 : mA M' 16 d = mA M 16 d) (m43 : mA M' 43 d = mA M 43 d) (m44 : mA M' 44 d = mA M 44 d) (m45 : mA M' 45 d = mA M 45 d) (ml : mN M' (100 + d) = mN M (100 + d)) (t13 : mT M' 13 d = mT M 13 d) (t14 : mT M' 14 d = mT M 14 d) (t15 : mT M' 15 d = mT M 15 d) : gDoc S' ad' M' d := by
  obtain ⟨h1, ⟨c, hc1, hc2, hc3⟩, ⟨r1, r2, r3⟩, ⟨p1, p2, p3, p4, p5⟩, pl, w1, w2, w3⟩ := h
  unfold gDoc
  rw [a2, a7, a8, a9, m12, m16, m43, m44, m45, ml, t13, t14, t15, gRf_ad (ad' := ad') (gPr_who p5) hN hp]
  exact ⟨F.K h1 (by omega), ⟨c, by omega, hc2, by rw [hc c hc1]; exact F.Y k0 hc3⟩, ⟨F.Y k0 r1, F.Y k0 r2, F.Y k0 r3⟩, ⟨F.X k0 p1, F.Y k0 p2, F.X k0 p3, F.X k0 p4, gPr_mono p5 np⟩, pl, gRow1_mono w1 F k1 (by omega), gRow1_mono w2 F k2 (by omega), gRow1_mono w3 F k3 (by omega)⟩
theorem gLnk_mono {e k : Nat} (h : gLnk S ad M e k) (F : gFr K S S') (k0 : K (7 + 32 * (12 * e + k))) (hN : mN M 8 ≤ 60) (a2 : ad' (20 + e) k = ad (20 + e) k) (hp : ∀ p, p < mN M 8 → ad' 1 p = ad 1 p) (np : mN M 8 ≤ mN M' 8) (m22 : ∀ w, w < 4 → mA M' 22 (4 * (12 * e + k) + w) = mA M 22 (4 * (12 * e + k) + w)) : gLnk S' ad' M' e k := by
  obtain ⟨n1, n2, n3, n4, n5, n6, n7⟩ := h
  unfold gLnk
  have z0 := m22 0 (by omega)
  rw [Nat.add_zero] at z0
  rw [a2, z0, m22 1 (by omega), m22 2 (by omega), m22 3 (by omega), gRf_ad (ad' := ad') (gPr_who n6) hN hp, gRf_ad (ad' := ad') (gPr_who n7) hN hp]
  exact ⟨F.K n1 (by omega), F.X k0 n2, F.Y k0 n3, F.Y k0 n4, F.X k0 n5, gPr_mono n6 np, gPr_mono n7 np⟩
theorem gExh_mono {e : Nat} (h : gExh d0 S ad M e) (F : gFr K S S') (k0 : K (5 + 32 * e)) (k1 : K (1 + 32 * (10 + e))) (k2 : K (19 + 32 * (10 + e))) (k3 : ∀ k, k < 12 → K (7 + 32 * (12 * e + k))) (hN : mN M 8 ≤ 60) (a3 : ad' 3 e = ad 3 e) (a10 : ad' 10 e = ad 10 e) (a20 : ∀ k, ad' (20 + e) k = ad (20 + e) k) (hc : ∀ c, c < mN M 6 → ad' 0 c = ad 0 c) (hp : ∀ p, p < mN M 8 → ad' 1 p = ad 1 p) (nc : mN M 6 ≤ mN M' 6) (np : mN M 8 ≤ mN M' 8)
    (m18 : mA M' 18 e = mA M 18 e) (m19 : mA M' 19 e = mA M 19 e) (m20 : mA M' 20 e = mA M 20 e) (ml : mN M' (200 + e) = mN M (200 + e)) (m22 : ∀ w, w < 48 → mA M' 22 (48 * e + w) = mA M 22 (48 * e + w)) : gExh d0 S' ad' M' e := by
  obtain ⟨h1, h2, ⟨c, hc1, hc2, hc3⟩, ⟨p1, p2, p3, p4, p5⟩, pl, w1, w2⟩ := h
  unfold gExh
  rw [a3, a10, m18, m19, m20, ml, gRf_ad (ad' := ad') p5 hN hp]
  refine ⟨F.K h1 (by omega), F.X k0 h2, ⟨c, by omega, hc2, by rw [hc c hc1]; exact F.Y k0 hc3⟩, ⟨F.Y k0 p1, F.X k0 p2, F.X k0 p3, F.Y k0 p4, gWho_mono p5 np⟩, pl, gLst_mono w1 F k1 k2 (fun i _ => a20 i), fun k hk => ?_⟩
  refine gLnk_mono (w2 k hk) F (k3 k (by omega)) hN (a20 k) hp np (fun w hw => ?_)
  have := m22 (4 * k + w) (by omega)
  rw [show 48 * e + (4 * k + w) = 4 * (12 * e + k) + w by omega] at this
  exact this
theorem gLtr_mono {k : Nat} (h : gLtr S ad M k) (F : gFr K S S') (k0 : K (6 + 32 * k)) (a4 : ad' 4 k = ad 4 k) (hd : ∀ d, d < mN M 11 → ad' 2 d = ad 2 d) (hp : ∀ p, p < mN M 8 → ad' 1 p = ad 1 p) (nd : mN M 11 ≤ mN M' 11) (np : mN M 8 ≤ mN M' 8)
    (m24 : mA M' 24 k = mA M 24 k) (m25 : mA M' 25 k = mA M 25 k) (m26 : mA M' 26 k = mA M 26 k) (m46 : mA M' 46 k = mA M 46 k) (m47 : mA M' 47 k = mA M 47 k) : gLtr S' ad' M' k := by
  obtain ⟨h1, ⟨d, d1, d2, d3⟩, h3, ⟨p, p1, p2, p3⟩, h5, h6, h7⟩ := h
  unfold gLtr
  rw [a4, m24, m25, m26, m46, m47]
  exact ⟨F.K h1 (by omega), ⟨d, by omega, d2, by rw [hd d d1]; exact F.Y k0 d3⟩, F.X k0 h3, ⟨p, by omega, p2, by rw [hp p p1]; exact F.Y k0 p3⟩, F.X k0 h5, F.X k0 h6, F.X k0 h7⟩
end GMONO
