/-! ===== the class's answer is the reference's ===== -/
theorem gCt_mono {d0 : Nat × Nat} {y : MethodName} {cc : ByteArray} {maxL : Nat} {ret : Option FieldType} {n mc ms : Nat} {args : List Value} {S : gS} {Post Post' : Option Value → gS → Prop} {PX : String → gS → Prop} (h : gCt d0 y cc maxL ret n mc ms args S Post PX) (hp : ∀ v S', Post v S' → Post' v S') : gCt d0 y cc maxL ret n mc ms args S Post' PX := by
  intro l hl D cT sz p e ha hc hk s m as below hf happ hP hK
  obtain ⟨k, o, h1, h2, h3, hq⟩ := h l hl D cT sz p e ha hc hk s m as below hf happ hP hK
  refine ⟨k, o, h1, h2, h3, ?_⟩
  rcases hq with ⟨⟨⟨v, S', z1, z2, z3⟩, z4⟩, z5⟩ | hq
  · exact Or.inl ⟨⟨⟨v, S', z1, hp v S' z2, z3⟩, z4⟩, z5⟩
  · exact Or.inr hq
/-- at most so much room is no more than more room -/
def gAg (d0 : Nat × Nat) (S : gS) (x y : Nat) (M : gM) (Post : Option Value → gS → Prop) (PX : String → gS → Prop) (cs : List (String × Int32)) (wt : Nat) (R : gS → Nat → gM → Int32 → Prop) : Prop :=
  (∀ v S1, Post v S1 → ∃ q M', v = some (.int q) ∧ gTo d0 x S S1 M' ∧ (gOkM M M' ∧ mN M 11 + wt ≤ mN M' 11) ∧ ∀ S2 b, gRef S2 y b M → R S2 0 M' q) ∧ ∀ E S1, PX E S1 → S1 = S ∧ wt = 0 ∧ ∃ c t, (E, c) ∈ cs ∧ c = nI t ∧ 1 ≤ t ∧ t ≤ 3 ∧ ∀ S2 b, gRef S2 y b M → ∃ v, R S2 t M v
theorem gTo_rf {d0 : Nat × Nat} {S : gS} {x : Nat} {ad : Nat → Nat → Nat} {M : gM} (h : gMail d0 S x ad M) : gTo d0 x S S M := ⟨ad, h, gFr.rf S⟩
theorem gLe01 {t : Int32} (h : nI 1 ≤ t) : 0 ≤ t := by
  have e1 : (nI 1).toInt = 1 := by decide
  have e4 : (0 : Int32).toInt = 0 := by decide
  rw [Int32.le_iff_toInt_le] at h ⊢
  omega
theorem gFind_one {M : gM} {p d : Nat} {v w : Int32} (h : ((mN M 2 = 0 ∨ gIntoOf M p (mC M d) = -1) ∧ v = -1) ∨ (¬ mN M 2 = 0 ∧ ¬ gIntoOf M p (mC M d) = -1 ∧ gIsF (gFndP M d (gIntoOf M p (mC M d))) (mN M (100 + d) + 1 - mN M 2) v)) (h2 : ((mN M 2 = 0 ∨ gIntoOf M p (mC M d) = -1) ∧ w = -1) ∨ (¬ mN M 2 = 0 ∧ ¬ gIntoOf M p (mC M d) = -1 ∧ gIsF (gFndP M d (gIntoOf M p (mC M d))) (mN M (100 + d) + 1 - mN M 2) w)) : v = w := by
  rcases h with ⟨a1, a2⟩ | ⟨a1, a2, a3⟩
  · rcases h2 with ⟨b1, b2⟩ | ⟨b1, b2, b3⟩
    · exact a2.trans b2.symm
    · exact absurd a1 (fun z => z.elim b1 b2)
  · rcases h2 with ⟨b1, b2⟩ | ⟨b1, b2, b3⟩
    · exact absurd b1 (fun z => z.elim a1 a2)
    · exact gIsF_one a3 b3
theorem gIx_y9 {n c : Nat} (h : c < n) (hn : n < 2 ^ 31) : gIx n (nI c) := ⟨nI_pos (by omega), nI_ge h hn⟩
theorem gIx_le {n m : Nat} {j : Int32} (hm : n ≤ m) (hs : m < 2 ^ 31) (h : gIx n j) : ∃ k, k < n ∧ j = nI k := gIx_of h (by omega)
theorem ag_feed {d0 : Nat × Nat} {S : gS} {x y : Nat} {ad : Nat → Nat → Nat} {M : gM} (h : gMail d0 S x ad M) (i : gInv M) (hd : gDue M) (h40 : mN M 40 ≤ 1000000) (a b c d e : Int32) : gAg d0 S x y M (fun v' S' => mN M 2 + 20 ≤ 1000 ∧ v' = some (.int (nI (mN M 2 + 20))) ∧ gTo d0 x S S' (mFeed M a b c d e)) (fun E S' => S' = S ∧ ((E = "java/lang/IllegalStateException" ∧ ¬ mN M 2 + 20 ≤ 1000))) [("java/lang/IllegalStateException", nI 1)] 0 (fun S2 t8 M9 v8 => ∃ m1 m2, m1 ≤ 4 ∧ m2 ≤ 7512 ∧ gCt d0 yX9_feed cX9_feed 8 (some .int) 10 m1 m2 [.ref y, .int a, .int b, .int c, .int d, .int e] S2 (gAn S2 y t8 M9 (some (.int v8))) gNo) := by
  have hb := i.b
  refine ⟨fun v S1 hp => ?_, fun E S1 hq => ?_⟩
  · obtain ⟨hn, rfl, T⟩ := hp
    obtain ⟨ad9, hm, F9⟩ := id T
    have ok := gOk_feed hm i hd
    exact ⟨_, _, rfl, T, ⟨ok, ok.2.2.2⟩, fun S2 bb hr => ⟨_, _, by omega, by omega, c_X9_feed _ S2 y bb M hr i a b c d e hn⟩⟩
  · obtain ⟨rfl, hq⟩ := hq
    obtain ⟨rfl, hno⟩ := hq
    exact ⟨rfl, rfl, _, 1, by simp, rfl, by omega, by omega, fun S2 bb hr => ⟨_, _, _, by omega, by omega, c_X9_feed_no _ S2 y bb M hr i a b c d e hno⟩⟩
theorem ag_trim {d0 : Nat × Nat} {S : gS} {x y : Nat} {ad : Nat → Nat → Nat} {M : gM} (h : gMail d0 S x ad M) (i : gInv M) (hd : gDue M) (h40 : mN M 40 ≤ 1000000) (i : Int32) : gAg d0 S x y M (fun v' S' => ∃ n, n ≤ mN M 2 ∧ i = nI n ∧ v' = some (.int (nI n)) ∧ gTo d0 x S S' (uN M 2 n)) (fun E S' => S' = S ∧ ((E = "java/lang/IllegalArgumentException" ∧ ¬ (0 ≤ i ∧ i ≤ nI (mN M 2))))) [("java/lang/IllegalArgumentException", nI 1)] 0 (fun S2 t8 M9 v8 => ∃ m1 m2, m1 ≤ 4 ∧ m2 ≤ 7512 ∧ gCt d0 yX9_trim cX9_trim 2 (some .int) 10 m1 m2 [.ref y, .int i] S2 (gAn S2 y t8 M9 (some (.int v8))) gNo) := by
  revert i
  intro a
  have hb := i.b
  refine ⟨fun v S1 hp => ?_, fun E S1 hq => ?_⟩
  · obtain ⟨n, hn, rfl, rfl, T⟩ := hp
    obtain ⟨ad9, hm, F9⟩ := id T
    have ok := gOk_trim hm i hd
    exact ⟨_, _, rfl, T, ⟨ok, ok.2.2.2⟩, fun S2 bb hr => ⟨_, _, by omega, by omega, c_X9_trim _ S2 y bb M hr i n hn⟩⟩
  · obtain ⟨rfl, hq⟩ := hq
    obtain ⟨rfl, hno⟩ := hq
    exact ⟨rfl, rfl, _, 1, by simp, rfl, by omega, by omega, fun S2 bb hr => ⟨_, _, _, by omega, by omega, c_X9_trim_no _ S2 y bb M hr i a hno⟩⟩
theorem ag_veil {d0 : Nat × Nat} {S : gS} {x y : Nat} {ad : Nat → Nat → Nat} {M : gM} (h : gMail d0 S x ad M) (i : gInv M) (hd : gDue M) (h40 : mN M 40 ≤ 1000000) (i f g s : Int32) : gAg d0 S x y M (fun v' S' => ∃ d a b w, d < mN M 11 ∧ i = nI d ∧ a ≤ b ∧ b ≤ mN M (100 + d) ∧ f = nI a ∧ g = nI b ∧ w ≤ 9 ∧ s = nI w ∧ v' = some (.int (nI (gcn (gVdif M d (nI w)) a (b - a)))) ∧ gTo d0 x S S' (mVeil M d a b (nI w))) (fun E S' => S' = S ∧ ((E = "java/lang/IndexOutOfBoundsException" ∧ ¬ gIx (mN M 11) i) ∨ (E = "java/lang/IllegalArgumentException" ∧ ∃ d, d < mN M 11 ∧ i = nI d ∧ ¬ ((0 ≤ f ∧ f ≤ g ∧ g ≤ nI (mN M (100 + d))) ∧ gLv s)))) [("java/lang/IndexOutOfBoundsException", nI 1), ("java/lang/IllegalArgumentException", nI 2)] 0 (fun S2 t8 M9 v8 => ∃ m1 m2, m1 ≤ 4 ∧ m2 ≤ 7512 ∧ gCt d0 yX9_veil cX9_veil 7 (some .int) 10 m1 m2 [.ref y, .int i, .int f, .int g, .int s] S2 (gAn S2 y t8 M9 (some (.int v8))) gNo) := by
  revert i f g s
  intro a b c d
  have hb := i.b
  refine ⟨fun v S1 hp => ?_, fun E S1 hq => ?_⟩
  · obtain ⟨k, p, q, w, h1, rfl, h2, h3, rfl, rfl, h4, rfl, rfl, T⟩ := hp
    obtain ⟨ad9, hm, F9⟩ := id T
    have ok := gOk_veil hm i hd h4
    exact ⟨_, _, rfl, T, ⟨ok, ok.2.2.2⟩, fun S2 bb hr => ⟨_, _, by omega, by omega, c_X9_veil _ S2 y bb M hr i k p q w h1 h2 h3 h4⟩⟩
  · obtain ⟨rfl, hq⟩ := hq
    rcases hq with ⟨rfl, hno⟩ | ⟨rfl, ⟨k, hk, rfl, hno⟩⟩
    · exact ⟨rfl, rfl, _, 1, by simp, rfl, by omega, by omega, fun S2 bb hr => ⟨_, _, _, by omega, by omega, c_X9_veil_no _ S2 y bb M hr i a b c d hno⟩⟩
    · exact ⟨rfl, rfl, _, 2, by simp, rfl, by omega, by omega, fun S2 bb hr => ⟨_, _, _, by omega, by omega, c_X9_veil_no2 _ S2 y bb M hr i k b c d hk hno⟩⟩
theorem ag_document {d0 : Nat × Nat} {S : gS} {x y : Nat} {ad : Nat → Nat → Nat} {M : gM} (h : gMail d0 S x ad M) (i : gInv M) (hd : gDue M) (h40 : mN M 40 ≤ 1000000) (i w : Int32) : gAg d0 S x y M (fun v' S' => ∃ j k, j < mN M 11 ∧ i = nI j ∧ k ≤ 7 ∧ w = nI k ∧ v' = some (.int (gTellDoc M j k)) ∧ S' = S) (fun E S' => S' = S ∧ (E = "java/lang/IndexOutOfBoundsException" ∧ ¬ (gIx (mN M 11) i ∧ gWt 7 w))) [("java/lang/IndexOutOfBoundsException", nI 1)] 0 (fun S2 t8 M9 v8 => ∃ m1 m2, m1 ≤ 4 ∧ m2 ≤ 7512 ∧ gCt d0 yX9_document cX9_document 3 (some .int) 10 m1 m2 [.ref y, .int i, .int w] S2 (gAn S2 y t8 M9 (some (.int v8))) gNo) := by
  revert i w
  intro a b
  have hb := i.b
  refine ⟨fun v S1 hp => ?_, fun E S1 hq => ?_⟩
  · obtain ⟨j, k, h1, rfl, h2, rfl, rfl, rfl⟩ := hp
    exact ⟨_, M, rfl, gTo_rf h, ⟨gOk_rf i hd, Nat.le_refl _⟩, fun S2 bb hr => ⟨_, _, by omega, by omega, c_X9_document _ S2 y bb M hr i j k h1 h2⟩⟩
  · obtain ⟨rfl, hq⟩ := hq
    obtain ⟨rfl, hno⟩ := hq
    exact ⟨rfl, rfl, _, 1, by simp, rfl, by omega, by omega, fun S2 bb hr => ⟨_, _, _, by omega, by omega, c_X9_document_no _ S2 y bb M hr i a b hno⟩⟩
theorem ag_open {d0 : Nat × Nat} {S : gS} {x y : Nat} {ad : Nat → Nat → Nat} {M : gM} (h : gMail d0 S x ad M) (i : gInv M) (hd : gDue M) (h40 : mN M 40 ≤ 1000000) (s : Int32) : gAg d0 S x y M (fun v' S' => (gLv s ∧ ¬ mN M 6 = 8) ∧ v' = some (.int (nI (mN M 6))) ∧ gTo d0 x S S' (mOpen M s)) (fun E S' => S' = S ∧ ((E = "java/lang/IllegalArgumentException" ∧ ¬ gLv s) ∨ (E = "java/lang/IllegalStateException" ∧ gLv s ∧ mN M 6 = 8))) [("java/lang/IllegalArgumentException", nI 1), ("java/lang/IllegalStateException", nI 2)] 0 (fun S2 t8 M9 v8 => ∃ m1 m2, m1 ≤ 4 ∧ m2 ≤ 7512 ∧ gCt d0 yX9_open cX9_open 2 (some .int) 10 m1 m2 [.ref y, .int s] S2 (gAn S2 y t8 M9 (some (.int v8))) gNo) := by
  revert s
  intro a
  have hb := i.b
  refine ⟨fun v S1 hp => ?_, fun E S1 hq => ?_⟩
  · obtain ⟨⟨h1, h2⟩, rfl, T⟩ := hp
    obtain ⟨ad9, hm, F9⟩ := id T
    have ok := gOk_open hm i hd h1 h2
    exact ⟨_, _, rfl, T, ⟨ok, ok.2.2.2⟩, fun S2 bb hr => ⟨_, _, by omega, by omega, c_X9_open _ S2 y bb M hr i a h1 h2⟩⟩
  · obtain ⟨rfl, hq⟩ := hq
    rcases hq with ⟨rfl, hno⟩ | ⟨rfl, ⟨h1, h2⟩⟩
    · exact ⟨rfl, rfl, _, 1, by simp, rfl, by omega, by omega, fun S2 bb hr => ⟨_, _, _, by omega, by omega, c_X9_open_no _ S2 y bb M hr i a hno⟩⟩
    · exact ⟨rfl, rfl, _, 2, by simp, rfl, by omega, by omega, fun S2 bb hr => ⟨_, _, _, by omega, by omega, c_X9_open_no2 _ S2 y bb M hr i a h1 h2⟩⟩
theorem ag_seal {d0 : Nat × Nat} {S : gS} {x y : Nat} {ad : Nat → Nat → Nat} {M : gM} (h : gMail d0 S x ad M) (i : gInv M) (hd : gDue M) (h40 : mN M 40 ≤ 1000000) (i s : Int32) : gAg d0 S x y M (fun v' S' => ∃ c, c < mN M 6 ∧ i = nI c ∧ gLv s ∧ v' = some (.int (mA M 7 c)) ∧ gTo d0 x S S' (uA M 7 c s)) (fun E S' => S' = S ∧ ((E = "java/lang/IndexOutOfBoundsException" ∧ ¬ gIx (mN M 6) i) ∨ (E = "java/lang/IllegalArgumentException" ∧ gIx (mN M 6) i ∧ ¬ gLv s))) [("java/lang/IndexOutOfBoundsException", nI 1), ("java/lang/IllegalArgumentException", nI 2)] 0 (fun S2 t8 M9 v8 => ∃ m1 m2, m1 ≤ 4 ∧ m2 ≤ 7512 ∧ gCt d0 yX9_seal cX9_seal 4 (some .int) 10 m1 m2 [.ref y, .int i, .int s] S2 (gAn S2 y t8 M9 (some (.int v8))) gNo) := by
  revert i s
  intro a b
  have hb := i.b
  refine ⟨fun v S1 hp => ?_, fun E S1 hq => ?_⟩
  · obtain ⟨c, h1, rfl, h2, rfl, T⟩ := hp
    obtain ⟨ad9, hm, F9⟩ := id T
    have ok := gOk_seal hm i hd h2
    exact ⟨_, _, rfl, T, ⟨ok, ok.2.2.2⟩, fun S2 bb hr => ⟨_, _, by omega, by omega, c_X9_seal _ S2 y bb M hr i c b h1 h2⟩⟩
  · obtain ⟨rfl, hq⟩ := hq
    rcases hq with ⟨rfl, hno⟩ | ⟨rfl, ⟨h0, hno⟩⟩
    · exact ⟨rfl, rfl, _, 1, by simp, rfl, by omega, by omega, fun S2 bb hr => ⟨_, _, _, by omega, by omega, c_X9_seal_no _ S2 y bb M hr i a b hno⟩⟩
    · obtain ⟨c, hc, rfl⟩ := gIx_of h0 (by omega)
      exact ⟨rfl, rfl, _, 2, by simp, rfl, by omega, by omega, fun S2 bb hr => ⟨_, _, _, by omega, by omega, c_X9_seal_no2 _ S2 y bb M hr i c b hc hno⟩⟩
theorem ag_addPerson {d0 : Nat × Nat} {S : gS} {x y : Nat} {ad : Nat → Nat → Nat} {M : gM} (h : gMail d0 S x ad M) (i : gInv M) (hd : gDue M) (h40 : mN M 40 ≤ 1000000) (r s : Int32) : gAg d0 S x y M (fun v' S' => ((0 ≤ r ∧ r ≤ nI 3) ∧ gLv s ∧ ¬ mN M 8 = 12) ∧ v' = some (.int (nI (mN M 8))) ∧ gTo d0 x S S' (mAddP M r s)) (fun E S' => S' = S ∧ ((E = "java/lang/IllegalArgumentException" ∧ ¬ ((0 ≤ r ∧ r ≤ nI 3) ∧ gLv s)) ∨ (E = "java/lang/IllegalStateException" ∧ ((0 ≤ r ∧ r ≤ nI 3) ∧ gLv s) ∧ mN M 8 = 12))) [("java/lang/IllegalArgumentException", nI 1), ("java/lang/IllegalStateException", nI 2)] 0 (fun S2 t8 M9 v8 => ∃ m1 m2, m1 ≤ 4 ∧ m2 ≤ 7512 ∧ gCt d0 yX9_addPerson cX9_addPerson 3 (some .int) 10 m1 m2 [.ref y, .int r, .int s] S2 (gAn S2 y t8 M9 (some (.int v8))) gNo) := by
  revert r s
  intro a b
  have hb := i.b
  refine ⟨fun v S1 hp => ?_, fun E S1 hq => ?_⟩
  · obtain ⟨⟨h1, h2, h3⟩, rfl, T⟩ := hp
    obtain ⟨ad9, hm, F9⟩ := id T
    have ok := gOk_addP hm i hd h1 h2 h3
    exact ⟨_, _, rfl, T, ⟨ok, ok.2.2.2⟩, fun S2 bb hr => ⟨_, _, by omega, by omega, c_X9_addPerson _ S2 y bb M hr i a b h1 h2 h3⟩⟩
  · obtain ⟨rfl, hq⟩ := hq
    rcases hq with ⟨rfl, hno⟩ | ⟨rfl, ⟨⟨h1, h2⟩, h3⟩⟩
    · exact ⟨rfl, rfl, _, 1, by simp, rfl, by omega, by omega, fun S2 bb hr => ⟨_, _, _, by omega, by omega, c_X9_addPerson_no _ S2 y bb M hr i a b hno⟩⟩
    · exact ⟨rfl, rfl, _, 2, by simp, rfl, by omega, by omega, fun S2 bb hr => ⟨_, _, _, by omega, by omega, c_X9_addPerson_no2 _ S2 y bb M hr i a b h1 h2 h3⟩⟩
theorem ag_attach {d0 : Nat × Nat} {S : gS} {x y : Nat} {ad : Nat → Nat → Nat} {M : gM} (h : gMail d0 S x ad M) (i : gInv M) (hd : gDue M) (h40 : mN M 40 ≤ 1000000) (i j : Int32) : gAg d0 S x y M (fun v' S' => ∃ p c, p < mN M 8 ∧ i = nI p ∧ c < mN M 6 ∧ j = nI c ∧ v' = some (.int (gB (gBit (mA (mAtt M p c) 10 p) c))) ∧ gTo d0 x S S' (mAtt M p c)) (fun E S' => S' = S ∧ ((E = "java/lang/IndexOutOfBoundsException" ∧ ¬ (gIx (mN M 8) i ∧ gIx (mN M 6) j)))) [("java/lang/IndexOutOfBoundsException", nI 1)] 0 (fun S2 t8 M9 v8 => ∃ m1 m2, m1 ≤ 4 ∧ m2 ≤ 7512 ∧ gCt d0 yX9_attach cX9_attach 3 (some .boolean) 10 m1 m2 [.ref y, .int i, .int j] S2 (gAn S2 y t8 M9 (some (.int v8))) gNo) := by
  revert i j
  intro a b
  have hb := i.b
  refine ⟨fun v S1 hp => ?_, fun E S1 hq => ?_⟩
  · obtain ⟨p, c, h1, rfl, h2, rfl, rfl, T⟩ := hp
    obtain ⟨ad9, hm, F9⟩ := id T
    have ok := gOk_att hm i hd h1
    exact ⟨_, _, rfl, T, ⟨ok, ok.2.2.2⟩, fun S2 bb hr => ⟨_, _, by omega, by omega, c_X9_attach _ S2 y bb M hr i p c h1 h2⟩⟩
  · obtain ⟨rfl, hq⟩ := hq
    obtain ⟨rfl, hno⟩ := hq
    exact ⟨rfl, rfl, _, 1, by simp, rfl, by omega, by omega, fun S2 bb hr => ⟨_, _, _, by omega, by omega, c_X9_attach_no _ S2 y bb M hr i a b hno⟩⟩
theorem ag_person {d0 : Nat × Nat} {S : gS} {x y : Nat} {ad : Nat → Nat → Nat} {M : gM} (h : gMail d0 S x ad M) (i : gInv M) (hd : gDue M) (h40 : mN M 40 ≤ 1000000) (i w : Int32) : gAg d0 S x y M (fun v' S' => ∃ j k, j < mN M 8 ∧ i = nI j ∧ k ≤ 7 ∧ w = nI k ∧ v' = some (.int (gTellPers M j k)) ∧ S' = S) (fun E S' => S' = S ∧ (E = "java/lang/IndexOutOfBoundsException" ∧ ¬ (gIx (mN M 8) i ∧ gWt 7 w))) [("java/lang/IndexOutOfBoundsException", nI 1)] 0 (fun S2 t8 M9 v8 => ∃ m1 m2, m1 ≤ 4 ∧ m2 ≤ 7512 ∧ gCt d0 yX9_person cX9_person 3 (some .int) 10 m1 m2 [.ref y, .int i, .int w] S2 (gAn S2 y t8 M9 (some (.int v8))) gNo) := by
  revert i w
  intro a b
  have hb := i.b
  refine ⟨fun v S1 hp => ?_, fun E S1 hq => ?_⟩
  · obtain ⟨j, k, h1, rfl, h2, rfl, rfl, rfl⟩ := hp
    exact ⟨_, M, rfl, gTo_rf h, ⟨gOk_rf i hd, Nat.le_refl _⟩, fun S2 bb hr => ⟨_, _, by omega, by omega, c_X9_person _ S2 y bb M hr i j k h1 h2⟩⟩
  · obtain ⟨rfl, hq⟩ := hq
    obtain ⟨rfl, hno⟩ := hq
    exact ⟨rfl, rfl, _, 1, by simp, rfl, by omega, by omega, fun S2 bb hr => ⟨_, _, _, by omega, by omega, c_X9_person_no _ S2 y bb M hr i a b hno⟩⟩
theorem ag_caseOf {d0 : Nat × Nat} {S : gS} {x y : Nat} {ad : Nat → Nat → Nat} {M : gM} (h : gMail d0 S x ad M) (i : gInv M) (hd : gDue M) (h40 : mN M 40 ≤ 1000000) (i w : Int32) : gAg d0 S x y M (fun v' S' => ∃ j k, j < mN M 6 ∧ i = nI j ∧ k ≤ 4 ∧ w = nI k ∧ v' = some (.int (gTellCase M j k)) ∧ S' = S) (fun E S' => S' = S ∧ (E = "java/lang/IndexOutOfBoundsException" ∧ ¬ (gIx (mN M 6) i ∧ gWt 4 w))) [("java/lang/IndexOutOfBoundsException", nI 1)] 0 (fun S2 t8 M9 v8 => ∃ m1 m2, m1 ≤ 4 ∧ m2 ≤ 7512 ∧ gCt d0 yX9_caseOf cX9_caseOf 3 (some .int) 10 m1 m2 [.ref y, .int i, .int w] S2 (gAn S2 y t8 M9 (some (.int v8))) gNo) := by
  revert i w
  intro a b
  have hb := i.b
  refine ⟨fun v S1 hp => ?_, fun E S1 hq => ?_⟩
  · obtain ⟨j, k, h1, rfl, h2, rfl, rfl, rfl⟩ := hp
    exact ⟨_, M, rfl, gTo_rf h, ⟨gOk_rf i hd, Nat.le_refl _⟩, fun S2 bb hr => ⟨_, _, by omega, by omega, c_X9_caseOf _ S2 y bb M hr i j k h1 h2⟩⟩
  · obtain ⟨rfl, hq⟩ := hq
    obtain ⟨rfl, hno⟩ := hq
    exact ⟨rfl, rfl, _, 1, by simp, rfl, by omega, by omega, fun S2 bb hr => ⟨_, _, _, by omega, by omega, c_X9_caseOf_no _ S2 y bb M hr i a b hno⟩⟩
theorem ag_byteAt {d0 : Nat × Nat} {S : gS} {x y : Nat} {ad : Nat → Nat → Nat} {M : gM} (h : gMail d0 S x ad M) (i : gInv M) (hd : gDue M) (h40 : mN M 40 ≤ 1000000) (i : Int32) : gAg d0 S x y M (fun v' S' => ∃ k, k < mN M 5 ∧ i = nI k ∧ v' = some (.int (mA M 4 k)) ∧ S' = S) (fun E S' => S' = S ∧ (E = "java/lang/IndexOutOfBoundsException" ∧ ¬ gIx (mN M 5) i)) [("java/lang/IndexOutOfBoundsException", nI 1)] 0 (fun S2 t8 M9 v8 => ∃ m1 m2, m1 ≤ 4 ∧ m2 ≤ 7512 ∧ gCt d0 yX9_byteAt cX9_byteAt 2 (some .int) 10 m1 m2 [.ref y, .int i] S2 (gAn S2 y t8 M9 (some (.int v8))) gNo) := by
  revert i
  intro a
  have hb := i.b
  refine ⟨fun v S1 hp => ?_, fun E S1 hq => ?_⟩
  · obtain ⟨k, h1, rfl, rfl, rfl⟩ := hp
    exact ⟨_, M, rfl, gTo_rf h, ⟨gOk_rf i hd, Nat.le_refl _⟩, fun S2 bb hr => ⟨_, _, by omega, by omega, c_X9_byteAt _ S2 y bb M hr i k h1⟩⟩
  · obtain ⟨rfl, hq⟩ := hq
    obtain ⟨rfl, hno⟩ := hq
    exact ⟨rfl, rfl, _, 1, by simp, rfl, by omega, by omega, fun S2 bb hr => ⟨_, _, _, by omega, by omega, c_X9_byteAt_no _ S2 y bb M hr i a hno⟩⟩
theorem ag_hidden {d0 : Nat × Nat} {S : gS} {x y : Nat} {ad : Nat → Nat → Nat} {M : gM} (h : gMail d0 S x ad M) (i : gInv M) (hd : gDue M) (h40 : mN M 40 ≤ 1000000) (i j : Int32) : gAg d0 S x y M (fun v' S' => ∃ p d, p < mN M 8 ∧ i = nI p ∧ d < mN M 11 ∧ j = nI d ∧ v' = some (.int (nI (gHid M p d))) ∧ S' = S) (fun E S' => S' = S ∧ (E = "java/lang/IndexOutOfBoundsException" ∧ ¬ (gIx (mN M 8) i ∧ gIx (mN M 11) j))) [("java/lang/IndexOutOfBoundsException", nI 1)] 0 (fun S2 t8 M9 v8 => ∃ m1 m2, m1 ≤ 4 ∧ m2 ≤ 7512 ∧ gCt d0 yX9_hidden cX9_hidden 3 (some .int) 10 m1 m2 [.ref y, .int i, .int j] S2 (gAn S2 y t8 M9 (some (.int v8))) gNo) := by
  revert i j
  intro a b
  have hb := i.b
  refine ⟨fun v S1 hp => ?_, fun E S1 hq => ?_⟩
  · obtain ⟨p, d, h1, rfl, h2, rfl, rfl, rfl⟩ := hp
    exact ⟨_, M, rfl, gTo_rf h, ⟨gOk_rf i hd, Nat.le_refl _⟩, fun S2 bb hr => ⟨_, _, by omega, by omega, c_X9_hidden _ S2 y bb M hr i p d h1 h2⟩⟩
  · obtain ⟨rfl, hq⟩ := hq
    obtain ⟨rfl, hno⟩ := hq
    exact ⟨rfl, rfl, _, 1, by simp, rfl, by omega, by omega, fun S2 bb hr => ⟨_, _, _, by omega, by omega, c_X9_hidden_no _ S2 y bb M hr i a b hno⟩⟩
theorem ag_differs {d0 : Nat × Nat} {S : gS} {x y : Nat} {ad : Nat → Nat → Nat} {M : gM} (h : gMail d0 S x ad M) (i : gInv M) (hd : gDue M) (h40 : mN M 40 ≤ 1000000) (a b j : Int32) : gAg d0 S x y M (fun v' S' => ∃ p q d, p < mN M 8 ∧ a = nI p ∧ q < mN M 8 ∧ b = nI q ∧ d < mN M 11 ∧ j = nI d ∧ (∃ v, v' = some (.int v) ∧ gIsF (gDifP M p q d) (mN M (100 + d)) v) ∧ S' = S) (fun E S' => S' = S ∧ (E = "java/lang/IndexOutOfBoundsException" ∧ ¬ (gIx (mN M 8) a ∧ gIx (mN M 8) b ∧ gIx (mN M 11) j))) [("java/lang/IndexOutOfBoundsException", nI 1)] 0 (fun S2 t8 M9 v8 => ∃ m1 m2, m1 ≤ 4 ∧ m2 ≤ 7512 ∧ gCt d0 yX9_differs cX9_differs 5 (some .int) 10 m1 m2 [.ref y, .int a, .int b, .int j] S2 (gAn S2 y t8 M9 (some (.int v8))) gNo) := by
  revert a b j
  intro a b c
  have hb := i.b
  refine ⟨fun v S1 hp => ?_, fun E S1 hq => ?_⟩
  · obtain ⟨p, q, d, h1, rfl, h2, rfl, h3, rfl, ⟨v, rfl, h4⟩, rfl⟩ := hp
    exact ⟨_, M, rfl, gTo_rf h, ⟨gOk_rf i hd, Nat.le_refl _⟩, fun S2 bb hr => ⟨_, _, by omega, by omega, gCt_mono (c_X9_differs _ S2 y bb M hr i p q d h1 h2 h3) (fun v9 S9 z => by obtain ⟨v8, z1, z2⟩ := z; rw [gIsF_one h4 z1]; exact z2)⟩⟩
  · obtain ⟨rfl, hq⟩ := hq
    obtain ⟨rfl, hno⟩ := hq
    exact ⟨rfl, rfl, _, 1, by simp, rfl, by omega, by omega, fun S2 bb hr => ⟨_, _, _, by omega, by omega, c_X9_differs_no _ S2 y bb M hr i a b c hno⟩⟩
theorem ag_find {d0 : Nat × Nat} {S : gS} {x y : Nat} {ad : Nat → Nat → Nat} {M : gM} (h : gMail d0 S x ad M) (i : gInv M) (hd : gDue M) (h40 : mN M 40 ≤ 1000000) (a j : Int32) : gAg d0 S x y M (fun v' S' => ∃ p d, p < mN M 8 ∧ a = nI p ∧ d < mN M 11 ∧ j = nI d ∧ (∃ v, v' = some (.int v) ∧ (((mN M 2 = 0 ∨ gIntoOf M p (mC M d) = -1) ∧ v = -1) ∨ (¬ mN M 2 = 0 ∧ ¬ gIntoOf M p (mC M d) = -1 ∧ gIsF (gFndP M d (gIntoOf M p (mC M d))) (mN M (100 + d) + 1 - mN M 2) v))) ∧ S' = S) (fun E S' => S' = S ∧ (E = "java/lang/IndexOutOfBoundsException" ∧ ¬ (gIx (mN M 8) a ∧ gIx (mN M 11) j))) [("java/lang/IndexOutOfBoundsException", nI 1)] 0 (fun S2 t8 M9 v8 => ∃ m1 m2, m1 ≤ 4 ∧ m2 ≤ 7512 ∧ gCt d0 yX9_find cX9_find 5 (some .int) 10 m1 m2 [.ref y, .int a, .int j] S2 (gAn S2 y t8 M9 (some (.int v8))) gNo) := by
  revert a j
  intro a b
  have hb := i.b
  refine ⟨fun v S1 hp => ?_, fun E S1 hq => ?_⟩
  · obtain ⟨p, d, h1, rfl, h2, rfl, ⟨v, rfl, h4⟩, rfl⟩ := hp
    exact ⟨_, M, rfl, gTo_rf h, ⟨gOk_rf i hd, Nat.le_refl _⟩, fun S2 bb hr => ⟨_, _, by omega, by omega, gCt_mono (c_X9_find _ S2 y bb M hr i p d h1 h2) (fun v9 S9 z => by obtain ⟨v8, z1, z2⟩ := z; rw [gFind_one h4 z1]; exact z2)⟩⟩
  · obtain ⟨rfl, hq⟩ := hq
    obtain ⟨rfl, hno⟩ := hq
    exact ⟨rfl, rfl, _, 1, by simp, rfl, by omega, by omega, fun S2 bb hr => ⟨_, _, _, by omega, by omega, c_X9_find_no _ S2 y bb M hr i a b hno⟩⟩
theorem ag_least {d0 : Nat × Nat} {S : gS} {x y : Nat} {ad : Nat → Nat → Nat} {M : gM} (h : gMail d0 S x ad M) (i : gInv M) (hd : gDue M) (h40 : mN M 40 ≤ 1000000) (i f g : Int32) : gAg d0 S x y M (fun v' S' => ∃ d a b r, d < mN M 11 ∧ i = nI d ∧ a ≤ b ∧ b ≤ mN M (100 + d) ∧ f = nI a ∧ g = nI b ∧ v' = some (.int (nI r)) ∧ gLeast M d a b r ∧ S' = S) (fun E S' => S' = S ∧ ((E = "java/lang/IndexOutOfBoundsException" ∧ ¬ gIx (mN M 11) i) ∨ (E = "java/lang/IllegalArgumentException" ∧ ∃ d, d < mN M 11 ∧ i = nI d ∧ ¬ (0 ≤ f ∧ f ≤ g ∧ g ≤ nI (mN M (100 + d)))))) [("java/lang/IndexOutOfBoundsException", nI 1), ("java/lang/IllegalArgumentException", nI 2)] 0 (fun S2 t8 M9 v8 => ∃ m1 m2, m1 ≤ 4 ∧ m2 ≤ 7512 ∧ gCt d0 yX9_least cX9_least 6 (some .int) 10 m1 m2 [.ref y, .int i, .int f, .int g] S2 (gAn S2 y t8 M9 (some (.int v8))) gNo) := by
  revert i f g
  intro a b c
  have hb := i.b
  refine ⟨fun v S1 hp => ?_, fun E S1 hq => ?_⟩
  · obtain ⟨d, p, q, r, h1, rfl, h2, h3, rfl, rfl, rfl, h4, rfl⟩ := hp
    exact ⟨_, M, rfl, gTo_rf h, ⟨gOk_rf i hd, Nat.le_refl _⟩, fun S2 bb hr => ⟨_, _, by omega, by omega, gCt_mono (c_X9_least _ S2 y bb M hr i d p q h1 h2 h3) (fun v9 S9 z => by obtain ⟨v8, z1, z2⟩ := z; rw [gLeast_one h4 z1]; exact z2)⟩⟩
  · obtain ⟨rfl, hq⟩ := hq
    rcases hq with ⟨rfl, hno⟩ | ⟨rfl, ⟨d, h1, rfl, hno⟩⟩
    · exact ⟨rfl, rfl, _, 1, by simp, rfl, by omega, by omega, fun S2 bb hr => ⟨_, _, _, by omega, by omega, c_X9_least_no _ S2 y bb M hr i a b c hno⟩⟩
    · exact ⟨rfl, rfl, _, 2, by simp, rfl, by omega, by omega, fun S2 bb hr => ⟨_, _, _, by omega, by omega, c_X9_least_no2 _ S2 y bb M hr i d b c h1 hno⟩⟩
theorem ag_lend {d0 : Nat × Nat} {S : gS} {x y : Nat} {ad : Nat → Nat → Nat} {M : gM} (h : gMail d0 S x ad M) (i : gInv M) (hd : gDue M) (h40 : mN M 40 ≤ 1000000) (i j t : Int32) : gAg d0 S x y M (fun v' S' => ∃ d p, d < mN M 11 ∧ i = nI d ∧ p < mN M 8 ∧ j = nI p ∧ (nI 1 ≤ t ∧ t ≤ nI 60) ∧ (mA M 43 d = -1 ∧ gHid M p d = 0) ∧ v' = some (.int (nI (mN M 40) + t)) ∧ gTo d0 x S S' (mLend M d p (nI (mN M 40) + t))) (fun E S' => S' = S ∧ ((E = "java/lang/IndexOutOfBoundsException" ∧ ¬ (gIx (mN M 11) i ∧ gIx (mN M 8) j)) ∨ (E = "java/lang/IllegalArgumentException" ∧ (gIx (mN M 11) i ∧ gIx (mN M 8) j) ∧ ¬ (nI 1 ≤ t ∧ t ≤ nI 60)) ∨ (E = "java/lang/IllegalStateException" ∧ ∃ d p, d < mN M 11 ∧ i = nI d ∧ p < mN M 8 ∧ j = nI p ∧ (nI 1 ≤ t ∧ t ≤ nI 60) ∧ ¬ (mA M 43 d = -1 ∧ gHid M p d = 0)))) [("java/lang/IndexOutOfBoundsException", nI 1), ("java/lang/IllegalArgumentException", nI 2), ("java/lang/IllegalStateException", nI 3)] 0 (fun S2 t8 M9 v8 => ∃ m1 m2, m1 ≤ 4 ∧ m2 ≤ 7512 ∧ gCt d0 yX9_lend cX9_lend 4 (some .int) 10 m1 m2 [.ref y, .int i, .int j, .int t] S2 (gAn S2 y t8 M9 (some (.int v8))) gNo) := by
  revert i j t
  intro a b c
  have hb := i.b
  refine ⟨fun v S1 hp => ?_, fun E S1 hq => ?_⟩
  · obtain ⟨d, p, h1, rfl, h2, rfl, h3, ⟨h4, h5⟩, rfl, T⟩ := hp
    obtain ⟨ad9, hm, F9⟩ := id T
    have ok : gOkM M (mLend M d p (nI (mN M 40) + c)) := (by obtain ⟨t9, ht9, rfl⟩ := gWt_of (k := 60) (w := c) ⟨gLe01 h3.1, h3.2⟩ (by omega); exact gOk_lend i hd h1 h2 h40 ht9)
    exact ⟨_, _, rfl, T, ⟨ok, ok.2.2.2⟩, fun S2 bb hr => ⟨_, _, by omega, by omega, c_X9_lend _ S2 y bb M hr i d p c h1 h2 h3 h4 h5⟩⟩
  · obtain ⟨rfl, hq⟩ := hq
    rcases hq with ⟨rfl, hno⟩ | ⟨rfl, ⟨⟨h0, h9⟩, hno⟩⟩ | ⟨rfl, ⟨d, p, h1, rfl, h2, rfl, h3, hno⟩⟩
    · exact ⟨rfl, rfl, _, 1, by simp, rfl, by omega, by omega, fun S2 bb hr => ⟨_, _, _, by omega, by omega, c_X9_lend_no _ S2 y bb M hr i a b c hno⟩⟩
    · obtain ⟨d, hd9, rfl⟩ := gIx_of h0 (by omega)
      obtain ⟨p, hp9, rfl⟩ := gIx_of h9 (by omega)
      exact ⟨rfl, rfl, _, 2, by simp, rfl, by omega, by omega, fun S2 bb hr => ⟨_, _, _, by omega, by omega, c_X9_lend_no2 _ S2 y bb M hr i d p c hd9 hp9 hno⟩⟩
    · exact ⟨rfl, rfl, _, 3, by simp, rfl, by omega, by omega, fun S2 bb hr => ⟨_, _, _, by omega, by omega, c_X9_lend_no3 _ S2 y bb M hr i d p c h1 h2 h3 hno⟩⟩
theorem ag_back {d0 : Nat × Nat} {S : gS} {x y : Nat} {ad : Nat → Nat → Nat} {M : gM} (h : gMail d0 S x ad M) (i : gInv M) (hd : gDue M) (h40 : mN M 40 ≤ 1000000) (i : Int32) : gAg d0 S x y M (fun v' S' => ∃ d, d < mN M 11 ∧ i = nI d ∧ v' = some (.int (mA M 43 d)) ∧ gTo d0 x S S' (mBack M d)) (fun E S' => S' = S ∧ ((E = "java/lang/IndexOutOfBoundsException" ∧ ¬ gIx (mN M 11) i))) [("java/lang/IndexOutOfBoundsException", nI 1)] 0 (fun S2 t8 M9 v8 => ∃ m1 m2, m1 ≤ 4 ∧ m2 ≤ 7512 ∧ gCt d0 yX9_back cX9_back 3 (some .int) 10 m1 m2 [.ref y, .int i] S2 (gAn S2 y t8 M9 (some (.int v8))) gNo) := by
  revert i
  intro a
  have hb := i.b
  refine ⟨fun v S1 hp => ?_, fun E S1 hq => ?_⟩
  · obtain ⟨d, h1, rfl, rfl, T⟩ := hp
    obtain ⟨ad9, hm, F9⟩ := id T
    have ok := gOk_back (d := d) i hd
    exact ⟨_, _, rfl, T, ⟨ok, ok.2.2.2⟩, fun S2 bb hr => ⟨_, _, by omega, by omega, c_X9_back _ S2 y bb M hr i d h1⟩⟩
  · obtain ⟨rfl, hq⟩ := hq
    obtain ⟨rfl, hno⟩ := hq
    exact ⟨rfl, rfl, _, 1, by simp, rfl, by omega, by omega, fun S2 bb hr => ⟨_, _, _, by omega, by omega, c_X9_back_no _ S2 y bb M hr i a hno⟩⟩
theorem ag_takeIn {d0 : Nat × Nat} {S : gS} {x y : Nat} {ad : Nat → Nat → Nat} {M : gM} (h : gMail d0 S x ad M) (i : gInv M) (hd : gDue M) (h40 : mN M 40 ≤ 1000000) (i : Int32) : gAg d0 S x y M (fun v' S' => ∃ c, c < mN M 6 ∧ i = nI c ∧ ¬ mN M 17 = 20 ∧ v' = some (.int (nI (mN M 17))) ∧ gTo d0 x S S' (mTake M c)) (fun E S' => S' = S ∧ ((E = "java/lang/IndexOutOfBoundsException" ∧ ¬ gIx (mN M 6) i) ∨ (E = "java/lang/IllegalStateException" ∧ gIx (mN M 6) i ∧ mN M 17 = 20))) [("java/lang/IndexOutOfBoundsException", nI 1), ("java/lang/IllegalStateException", nI 2)] 0 (fun S2 t8 M9 v8 => ∃ m1 m2, m1 ≤ 4 ∧ m2 ≤ 7512 ∧ gCt d0 yX9_takeIn cX9_takeIn 2 (some .int) 10 m1 m2 [.ref y, .int i] S2 (gAn S2 y t8 M9 (some (.int v8))) gNo) := by
  revert i
  intro a
  have hb := i.b
  refine ⟨fun v S1 hp => ?_, fun E S1 hq => ?_⟩
  · obtain ⟨c, h1, rfl, h2, rfl, T⟩ := hp
    obtain ⟨ad9, hm, F9⟩ := id T
    have ok := gOk_take hm i hd h2
    exact ⟨_, _, rfl, T, ⟨ok, ok.2.2.2⟩, fun S2 bb hr => ⟨_, _, by omega, by omega, c_X9_takeIn _ S2 y bb M hr i c h1 h2⟩⟩
  · obtain ⟨rfl, hq⟩ := hq
    rcases hq with ⟨rfl, hno⟩ | ⟨rfl, ⟨h0, hn⟩⟩
    · exact ⟨rfl, rfl, _, 1, by simp, rfl, by omega, by omega, fun S2 bb hr => ⟨_, _, _, by omega, by omega, c_X9_takeIn_no _ S2 y bb M hr i a hno⟩⟩
    · obtain ⟨c, hc, rfl⟩ := gIx_of h0 (by omega)
      exact ⟨rfl, rfl, _, 2, by simp, rfl, by omega, by omega, fun S2 bb hr => ⟨_, _, _, by omega, by omega, c_X9_takeIn_no2 _ S2 y bb M hr i c hc hn⟩⟩
theorem ag_hand {d0 : Nat × Nat} {S : gS} {x y : Nat} {ad : Nat → Nat → Nat} {M : gM} (h : gMail d0 S x ad M) (i : gInv M) (hd : gDue M) (h40 : mN M 40 ≤ 1000000) (i t : Int32) : gAg d0 S x y M (fun v' S' => ∃ e, e < mN M 17 ∧ i = nI e ∧ gPr M t ∧ gHandOk M e t ∧ v' = some (.int (nI (mN M (200 + e) + 1))) ∧ gTo d0 x S S' (mLink M e (nI (mN M 40)) (mA M 19 e) t (nI 0))) (fun E S' => S' = S ∧ ((E = "java/lang/IndexOutOfBoundsException" ∧ ¬ (gIx (mN M 17) i ∧ gPr M t)) ∨ (E = "java/lang/IllegalStateException" ∧ ∃ e, e < mN M 17 ∧ i = nI e ∧ gPr M t ∧ ¬ gHandOk M e t))) [("java/lang/IndexOutOfBoundsException", nI 1), ("java/lang/IllegalStateException", nI 2)] 0 (fun S2 t8 M9 v8 => ∃ m1 m2, m1 ≤ 4 ∧ m2 ≤ 7512 ∧ gCt d0 yX9_hand cX9_hand 3 (some .int) 10 m1 m2 [.ref y, .int i, .int t] S2 (gAn S2 y t8 M9 (some (.int v8))) gNo) := by
  revert i t
  intro a b
  have hb := i.b
  refine ⟨fun v S1 hp => ?_, fun E S1 hq => ?_⟩
  · obtain ⟨e, h1, rfl, h2, h3, rfl, T⟩ := hp
    obtain ⟨ad9, hm, F9⟩ := id T
    have ok := gOk_link hm i hd h1
    exact ⟨_, _, rfl, T, ⟨ok, ok.2.2.2⟩, fun S2 bb hr => ⟨_, _, by omega, by omega, c_X9_hand _ S2 y bb M hr i e b h1 h2 h3⟩⟩
  · obtain ⟨rfl, hq⟩ := hq
    rcases hq with ⟨rfl, hno⟩ | ⟨rfl, ⟨e, h1, rfl, h2, hno⟩⟩
    · exact ⟨rfl, rfl, _, 1, by simp, rfl, by omega, by omega, fun S2 bb hr => ⟨_, _, _, by omega, by omega, c_X9_hand_no _ S2 y bb M hr i a b hno⟩⟩
    · exact ⟨rfl, rfl, _, 2, by simp, rfl, by omega, by omega, fun S2 bb hr => ⟨_, _, _, by omega, by omega, c_X9_hand_no2 _ S2 y bb M hr i e b h1 h2 hno⟩⟩
theorem ag_unseal {d0 : Nat × Nat} {S : gS} {x y : Nat} {ad : Nat → Nat → Nat} {M : gM} (h : gMail d0 S x ad M) (i : gInv M) (hd : gDue M) (h40 : mN M 40 ≤ 1000000) (i : Int32) : gAg d0 S x y M (fun v' S' => ∃ e, e < mN M 17 ∧ i = nI e ∧ (¬ mA M 19 e < 0 ∧ mN M (200 + e) < 12) ∧ v' = some (.int (gNum M e)) ∧ gTo d0 x S S' (mUnseal M e)) (fun E S' => S' = S ∧ ((E = "java/lang/IndexOutOfBoundsException" ∧ ¬ gIx (mN M 17) i) ∨ (E = "java/lang/IllegalStateException" ∧ ∃ e, e < mN M 17 ∧ i = nI e ∧ ¬ (¬ mA M 19 e < 0 ∧ mN M (200 + e) < 12)))) [("java/lang/IndexOutOfBoundsException", nI 1), ("java/lang/IllegalStateException", nI 2)] 0 (fun S2 t8 M9 v8 => ∃ m1 m2, m1 ≤ 4 ∧ m2 ≤ 7512 ∧ gCt d0 yX9_unseal cX9_unseal 2 (some .int) 10 m1 m2 [.ref y, .int i] S2 (gAn S2 y t8 M9 (some (.int v8))) gNo) := by
  revert i
  intro a
  have hb := i.b
  refine ⟨fun v S1 hp => ?_, fun E S1 hq => ?_⟩
  · obtain ⟨e, h1, rfl, ⟨h2, h3⟩, rfl, T⟩ := hp
    obtain ⟨ad9, hm, F9⟩ := id T
    have ok := gOk_unseal hm i hd h1
    exact ⟨_, _, rfl, T, ⟨ok, ok.2.2.2⟩, fun S2 bb hr => ⟨_, _, by omega, by omega, c_X9_unseal _ S2 y bb M hr i e h1 h2 h3⟩⟩
  · obtain ⟨rfl, hq⟩ := hq
    rcases hq with ⟨rfl, hno⟩ | ⟨rfl, ⟨e, h1, rfl, hno⟩⟩
    · exact ⟨rfl, rfl, _, 1, by simp, rfl, by omega, by omega, fun S2 bb hr => ⟨_, _, _, by omega, by omega, c_X9_unseal_no _ S2 y bb M hr i a hno⟩⟩
    · exact ⟨rfl, rfl, _, 2, by simp, rfl, by omega, by omega, fun S2 bb hr => ⟨_, _, _, by omega, by omega, c_X9_unseal_no2 _ S2 y bb M hr i e h1 hno⟩⟩
theorem ag_lose {d0 : Nat × Nat} {S : gS} {x y : Nat} {ad : Nat → Nat → Nat} {M : gM} (h : gMail d0 S x ad M) (i : gInv M) (hd : gDue M) (h40 : mN M 40 ≤ 1000000) (i : Int32) : gAg d0 S x y M (fun v' S' => ∃ e, e < mN M 17 ∧ i = nI e ∧ ¬ mA M 19 e = -2 ∧ v' = some (.int (mA M 19 e)) ∧ gTo d0 x S S' (uA M 19 e (-2))) (fun E S' => S' = S ∧ ((E = "java/lang/IndexOutOfBoundsException" ∧ ¬ gIx (mN M 17) i) ∨ (E = "java/lang/IllegalStateException" ∧ ∃ e, e < mN M 17 ∧ i = nI e ∧ mA M 19 e = -2))) [("java/lang/IndexOutOfBoundsException", nI 1), ("java/lang/IllegalStateException", nI 2)] 0 (fun S2 t8 M9 v8 => ∃ m1 m2, m1 ≤ 4 ∧ m2 ≤ 7512 ∧ gCt d0 yX9_lose cX9_lose 3 (some .int) 10 m1 m2 [.ref y, .int i] S2 (gAn S2 y t8 M9 (some (.int v8))) gNo) := by
  revert i
  intro a
  have hb := i.b
  refine ⟨fun v S1 hp => ?_, fun E S1 hq => ?_⟩
  · obtain ⟨e, h1, rfl, h2, rfl, T⟩ := hp
    obtain ⟨ad9, hm, F9⟩ := id T
    have ok := gOk_lose hm i hd h1
    exact ⟨_, _, rfl, T, ⟨ok, ok.2.2.2⟩, fun S2 bb hr => ⟨_, _, by omega, by omega, c_X9_lose _ S2 y bb M hr i e h1 h2⟩⟩
  · obtain ⟨rfl, hq⟩ := hq
    rcases hq with ⟨rfl, hno⟩ | ⟨rfl, ⟨e, h1, rfl, hno⟩⟩
    · exact ⟨rfl, rfl, _, 1, by simp, rfl, by omega, by omega, fun S2 bb hr => ⟨_, _, _, by omega, by omega, c_X9_lose_no _ S2 y bb M hr i a hno⟩⟩
    · exact ⟨rfl, rfl, _, 2, by simp, rfl, by omega, by omega, fun S2 bb hr => ⟨_, _, _, by omega, by omega, c_X9_lose_no2 _ S2 y bb M hr i e h1 hno⟩⟩
theorem ag_found {d0 : Nat × Nat} {S : gS} {x y : Nat} {ad : Nat → Nat → Nat} {M : gM} (h : gMail d0 S x ad M) (i : gInv M) (hd : gDue M) (h40 : mN M 40 ≤ 1000000) (i t : Int32) : gAg d0 S x y M (fun v' S' => ∃ e, e < mN M 17 ∧ i = nI e ∧ gPr M t ∧ (mA M 19 e = -2 ∧ mN M (200 + e) < 12) ∧ v' = some (.int (nI (mN M (200 + e) + 1))) ∧ gTo d0 x S S' (mLink M e (nI (mN M 40)) (-1) t (nI 1))) (fun E S' => S' = S ∧ ((E = "java/lang/IndexOutOfBoundsException" ∧ ¬ (gIx (mN M 17) i ∧ gPr M t)) ∨ (E = "java/lang/IllegalStateException" ∧ ∃ e, e < mN M 17 ∧ i = nI e ∧ gPr M t ∧ ¬ (mA M 19 e = -2 ∧ mN M (200 + e) < 12)))) [("java/lang/IndexOutOfBoundsException", nI 1), ("java/lang/IllegalStateException", nI 2)] 0 (fun S2 t8 M9 v8 => ∃ m1 m2, m1 ≤ 4 ∧ m2 ≤ 7512 ∧ gCt d0 yX9_found cX9_found 3 (some .int) 10 m1 m2 [.ref y, .int i, .int t] S2 (gAn S2 y t8 M9 (some (.int v8))) gNo) := by
  revert i t
  intro a b
  have hb := i.b
  refine ⟨fun v S1 hp => ?_, fun E S1 hq => ?_⟩
  · obtain ⟨e, h1, rfl, h2, ⟨h3, h4⟩, rfl, T⟩ := hp
    obtain ⟨ad9, hm, F9⟩ := id T
    have ok := gOk_link hm i hd h1
    exact ⟨_, _, rfl, T, ⟨ok, ok.2.2.2⟩, fun S2 bb hr => ⟨_, _, by omega, by omega, c_X9_found _ S2 y bb M hr i e b h1 h2 h3 h4⟩⟩
  · obtain ⟨rfl, hq⟩ := hq
    rcases hq with ⟨rfl, hno⟩ | ⟨rfl, ⟨e, h1, rfl, h2, hno⟩⟩
    · exact ⟨rfl, rfl, _, 1, by simp, rfl, by omega, by omega, fun S2 bb hr => ⟨_, _, _, by omega, by omega, c_X9_found_no _ S2 y bb M hr i a b hno⟩⟩
    · exact ⟨rfl, rfl, _, 2, by simp, rfl, by omega, by omega, fun S2 bb hr => ⟨_, _, _, by omega, by omega, c_X9_found_no2 _ S2 y bb M hr i e b h1 h2 hno⟩⟩
theorem ag_exhibit {d0 : Nat × Nat} {S : gS} {x y : Nat} {ad : Nat → Nat → Nat} {M : gM} (h : gMail d0 S x ad M) (i : gInv M) (hd : gDue M) (h40 : mN M 40 ≤ 1000000) (i w : Int32) : gAg d0 S x y M (fun v' S' => ∃ j k, j < mN M 17 ∧ i = nI j ∧ k ≤ 6 ∧ w = nI k ∧ v' = some (.int (gTellExh M j k)) ∧ S' = S) (fun E S' => S' = S ∧ (E = "java/lang/IndexOutOfBoundsException" ∧ ¬ (gIx (mN M 17) i ∧ gWt 6 w))) [("java/lang/IndexOutOfBoundsException", nI 1)] 0 (fun S2 t8 M9 v8 => ∃ m1 m2, m1 ≤ 4 ∧ m2 ≤ 7512 ∧ gCt d0 yX9_exhibit cX9_exhibit 3 (some .int) 10 m1 m2 [.ref y, .int i, .int w] S2 (gAn S2 y t8 M9 (some (.int v8))) gNo) := by
  revert i w
  intro a b
  have hb := i.b
  refine ⟨fun v S1 hp => ?_, fun E S1 hq => ?_⟩
  · obtain ⟨j, k, h1, rfl, h2, rfl, rfl, rfl⟩ := hp
    exact ⟨_, M, rfl, gTo_rf h, ⟨gOk_rf i hd, Nat.le_refl _⟩, fun S2 bb hr => ⟨_, _, by omega, by omega, c_X9_exhibit _ S2 y bb M hr i j k h1 h2⟩⟩
  · obtain ⟨rfl, hq⟩ := hq
    obtain ⟨rfl, hno⟩ := hq
    exact ⟨rfl, rfl, _, 1, by simp, rfl, by omega, by omega, fun S2 bb hr => ⟨_, _, _, by omega, by omega, c_X9_exhibit_no _ S2 y bb M hr i a b hno⟩⟩
theorem ag_link {d0 : Nat × Nat} {S : gS} {x y : Nat} {ad : Nat → Nat → Nat} {M : gM} (h : gMail d0 S x ad M) (i : gInv M) (hd : gDue M) (h40 : mN M 40 ≤ 1000000) (i l w : Int32) : gAg d0 S x y M (fun v' S' => ∃ e y k, e < mN M 17 ∧ i = nI e ∧ y < mN M (200 + e) ∧ l = nI y ∧ k ≤ 3 ∧ w = nI k ∧ v' = some (.int (gTellLink M e y k)) ∧ S' = S) (fun E S' => S' = S ∧ (E = "java/lang/IndexOutOfBoundsException" ∧ ¬ (gIx (mN M 17) i ∧ (∀ e, e < mN M 17 → i = nI e → gIx (mN M (200 + e)) l) ∧ gWt 3 w))) [("java/lang/IndexOutOfBoundsException", nI 1)] 0 (fun S2 t8 M9 v8 => ∃ m1 m2, m1 ≤ 4 ∧ m2 ≤ 7512 ∧ gCt d0 yX9_link cX9_link 4 (some .int) 10 m1 m2 [.ref y, .int i, .int l, .int w] S2 (gAn S2 y t8 M9 (some (.int v8))) gNo) := by
  revert i l w
  intro a b c
  have hb := i.b
  refine ⟨fun v S1 hp => ?_, fun E S1 hq => ?_⟩
  · obtain ⟨e, z, k, h1, rfl, h2, rfl, h3, rfl, rfl, rfl⟩ := hp
    exact ⟨_, M, rfl, gTo_rf h, ⟨gOk_rf i hd, Nat.le_refl _⟩, fun S2 bb hr => ⟨_, _, by omega, by omega, c_X9_link _ S2 y bb M hr i e z k h1 h2 h3⟩⟩
  · obtain ⟨rfl, hq⟩ := hq
    obtain ⟨rfl, hno⟩ := hq
    exact ⟨rfl, rfl, _, 1, by simp, rfl, by omega, by omega, fun S2 bb hr => ⟨_, _, _, by omega, by omega, c_X9_link_no _ S2 y bb M hr i a b c hno⟩⟩
theorem ag_send {d0 : Nat × Nat} {S : gS} {x y : Nat} {ad : Nat → Nat → Nat} {M : gM} (h : gMail d0 S x ad M) (i : gInv M) (hd : gDue M) (h40 : mN M 40 ≤ 1000000) (i j t : Int32) : gAg d0 S x y M (fun v' S' => ∃ d p, d < mN M 11 ∧ i = nI d ∧ p < mN M 8 ∧ j = nI p ∧ gWt 30 t ∧ ¬ mN M 23 = 40 ∧ v' = some (.int (nI (mN M 23))) ∧ gTo d0 x S S' (mSend M d p (nI (mN M 40) + t))) (fun E S' => S' = S ∧ ((E = "java/lang/IndexOutOfBoundsException" ∧ ¬ (gIx (mN M 11) i ∧ gIx (mN M 8) j)) ∨ (E = "java/lang/IllegalArgumentException" ∧ (gIx (mN M 11) i ∧ gIx (mN M 8) j) ∧ ¬ gWt 30 t) ∨ (E = "java/lang/IllegalStateException" ∧ (gIx (mN M 11) i ∧ gIx (mN M 8) j) ∧ gWt 30 t ∧ mN M 23 = 40))) [("java/lang/IndexOutOfBoundsException", nI 1), ("java/lang/IllegalArgumentException", nI 2), ("java/lang/IllegalStateException", nI 3)] 0 (fun S2 t8 M9 v8 => ∃ m1 m2, m1 ≤ 4 ∧ m2 ≤ 7512 ∧ gCt d0 yX9_send cX9_send 4 (some .int) 10 m1 m2 [.ref y, .int i, .int j, .int t] S2 (gAn S2 y t8 M9 (some (.int v8))) gNo) := by
  revert i j t
  intro a b c
  have hb := i.b
  refine ⟨fun v S1 hp => ?_, fun E S1 hq => ?_⟩
  · obtain ⟨d, p, h1, rfl, h2, rfl, h3, h4, rfl, T⟩ := hp
    obtain ⟨ad9, hm, F9⟩ := id T
    have ok := gOk_send hm i hd h4
    exact ⟨_, _, rfl, T, ⟨ok, ok.2.2.2⟩, fun S2 bb hr => ⟨_, _, by omega, by omega, c_X9_send _ S2 y bb M hr i d p c h1 h2 h3 h4⟩⟩
  · obtain ⟨rfl, hq⟩ := hq
    rcases hq with ⟨rfl, hno⟩ | ⟨rfl, ⟨⟨h0, h9⟩, hno⟩⟩ | ⟨rfl, ⟨⟨h0, h9⟩, h3, hno⟩⟩
    · exact ⟨rfl, rfl, _, 1, by simp, rfl, by omega, by omega, fun S2 bb hr => ⟨_, _, _, by omega, by omega, c_X9_send_no _ S2 y bb M hr i a b c hno⟩⟩
    · obtain ⟨d, hd9, rfl⟩ := gIx_of h0 (by omega)
      obtain ⟨p, hp9, rfl⟩ := gIx_of h9 (by omega)
      exact ⟨rfl, rfl, _, 2, by simp, rfl, by omega, by omega, fun S2 bb hr => ⟨_, _, _, by omega, by omega, c_X9_send_no2 _ S2 y bb M hr i d p c hd9 hp9 hno⟩⟩
    · obtain ⟨d, hd9, rfl⟩ := gIx_of h0 (by omega)
      obtain ⟨p, hp9, rfl⟩ := gIx_of h9 (by omega)
      exact ⟨rfl, rfl, _, 3, by simp, rfl, by omega, by omega, fun S2 bb hr => ⟨_, _, _, by omega, by omega, c_X9_send_no3 _ S2 y bb M hr i d p c hd9 hp9 h3 hno⟩⟩
theorem ag_letter {d0 : Nat × Nat} {S : gS} {x y : Nat} {ad : Nat → Nat → Nat} {M : gM} (h : gMail d0 S x ad M) (i : gInv M) (hd : gDue M) (h40 : mN M 40 ≤ 1000000) (i w : Int32) : gAg d0 S x y M (fun v' S' => ∃ j k, j < mN M 23 ∧ i = nI j ∧ k ≤ 4 ∧ w = nI k ∧ v' = some (.int (gTellLtr M j k)) ∧ S' = S) (fun E S' => S' = S ∧ (E = "java/lang/IndexOutOfBoundsException" ∧ ¬ (gIx (mN M 23) i ∧ gWt 4 w))) [("java/lang/IndexOutOfBoundsException", nI 1)] 0 (fun S2 t8 M9 v8 => ∃ m1 m2, m1 ≤ 4 ∧ m2 ≤ 7512 ∧ gCt d0 yX9_letter cX9_letter 3 (some .int) 10 m1 m2 [.ref y, .int i, .int w] S2 (gAn S2 y t8 M9 (some (.int v8))) gNo) := by
  revert i w
  intro a b
  have hb := i.b
  refine ⟨fun v S1 hp => ?_, fun E S1 hq => ?_⟩
  · obtain ⟨j, k, h1, rfl, h2, rfl, rfl, rfl⟩ := hp
    exact ⟨_, M, rfl, gTo_rf h, ⟨gOk_rf i hd, Nat.le_refl _⟩, fun S2 bb hr => ⟨_, _, by omega, by omega, c_X9_letter _ S2 y bb M hr i j k h1 h2⟩⟩
  · obtain ⟨rfl, hq⟩ := hq
    obtain ⟨rfl, hno⟩ := hq
    exact ⟨rfl, rfl, _, 1, by simp, rfl, by omega, by omega, fun S2 bb hr => ⟨_, _, _, by omega, by omega, c_X9_letter_no _ S2 y bb M hr i a b hno⟩⟩
theorem ag_pass {d0 : Nat × Nat} {S : gS} {x y : Nat} {ad : Nat → Nat → Nat} {M : gM} (h : gMail d0 S x ad M) (i : gInv M) (hd : gDue M) (h40 : mN M 40 ≤ 1000000) (i : Int32) : gAg d0 S x y M (fun v' S' => ∃ n, 1 ≤ n ∧ n ≤ 100 ∧ i = nI n ∧ v' = some (.int (nI (mDays M n).2)) ∧ gTo d0 x S S' (mDays M n).1) (fun E S' => S' = S ∧ ((E = "java/lang/IllegalArgumentException" ∧ ¬ (nI 1 ≤ i ∧ i ≤ nI 100)))) [("java/lang/IllegalArgumentException", nI 1)] 0 (fun S2 t8 M9 v8 => ∃ m1 m2, m1 ≤ 4 ∧ m2 ≤ 7512 ∧ gCt d0 yX9_pass cX9_pass 4 (some .int) 10 m1 m2 [.ref y, .int i] S2 (gAn S2 y t8 M9 (some (.int v8))) gNo) := by
  revert i
  intro a
  have hb := i.b
  refine ⟨fun v S1 hp => ?_, fun E S1 hq => ?_⟩
  · obtain ⟨n, h1, h2, rfl, rfl, T⟩ := hp
    obtain ⟨ad9, hm, F9⟩ := id T
    have ok := gOk_days i hd h40 h2
    exact ⟨_, _, rfl, T, ⟨ok, ok.2.2.2⟩, fun S2 bb hr => ⟨_, _, by omega, by omega, c_X9_pass _ S2 y bb M hr i n h1 h2⟩⟩
  · obtain ⟨rfl, hq⟩ := hq
    obtain ⟨rfl, hno⟩ := hq
    exact ⟨rfl, rfl, _, 1, by simp, rfl, by omega, by omega, fun S2 bb hr => ⟨_, _, _, by omega, by omega, c_X9_pass_no _ S2 y bb M hr i a hno⟩⟩
theorem ag_arrives {d0 : Nat × Nat} {S : gS} {x y : Nat} {ad : Nat → Nat → Nat} {M : gM} (h : gMail d0 S x ad M) (i : gInv M) (hd : gDue M) (h40 : mN M 40 ≤ 1000000) (i : Int32) : gAg d0 S x y M (fun v' S' => ∃ l, l < mN M 23 ∧ i = nI l ∧ v' = some (.int (gArr M l)) ∧ S' = S) (fun E S' => S' = S ∧ (E = "java/lang/IndexOutOfBoundsException" ∧ ¬ gIx (mN M 23) i)) [("java/lang/IndexOutOfBoundsException", nI 1)] 0 (fun S2 t8 M9 v8 => ∃ m1 m2, m1 ≤ 4 ∧ m2 ≤ 7512 ∧ gCt d0 yX9_arrives cX9_arrives 3 (some .int) 10 m1 m2 [.ref y, .int i] S2 (gAn S2 y t8 M9 (some (.int v8))) gNo) := by
  revert i
  intro a
  have hb := i.b
  refine ⟨fun v S1 hp => ?_, fun E S1 hq => ?_⟩
  · obtain ⟨l, h1, rfl, rfl, rfl⟩ := hp
    exact ⟨_, M, rfl, gTo_rf h, ⟨gOk_rf i hd, Nat.le_refl _⟩, fun S2 bb hr => ⟨_, _, by omega, by omega, gCt_mono (c_X9_arrives _ S2 y bb M hr i l h1) (fun v9 S9 z => by obtain ⟨u, z1, z2, z3, z4⟩ := z; rw [← gArr_of i hd h40 h1 z1 z2 z3]; exact z4)⟩⟩
  · obtain ⟨rfl, hq⟩ := hq
    obtain ⟨rfl, hno⟩ := hq
    exact ⟨rfl, rfl, _, 1, by simp, rfl, by omega, by omega, fun S2 bb hr => ⟨_, _, _, by omega, by omega, c_X9_arrives_no _ S2 y bb M hr i a hno⟩⟩
theorem ag_count {d0 : Nat × Nat} {S : gS} {x y : Nat} {ad : Nat → Nat → Nat} {M : gM} (h : gMail d0 S x ad M) (i : gInv M) (hd : gDue M) (h40 : mN M 40 ≤ 1000000) (w : Int32) : gAg d0 S x y M (fun v' S' => ∃ k, k ≤ 11 ∧ w = nI k ∧ v' = some (.int (gTellCount M k)) ∧ S' = S) (fun E S' => S' = S ∧ (E = "java/lang/IndexOutOfBoundsException" ∧ ¬ gWt 11 w)) [("java/lang/IndexOutOfBoundsException", nI 1)] 0 (fun S2 t8 M9 v8 => ∃ m1 m2, m1 ≤ 4 ∧ m2 ≤ 7512 ∧ gCt d0 yX9_count cX9_count 2 (some .int) 10 m1 m2 [.ref y, .int w] S2 (gAn S2 y t8 M9 (some (.int v8))) gNo) := by
  revert w
  intro a
  have hb := i.b
  refine ⟨fun v S1 hp => ?_, fun E S1 hq => ?_⟩
  · obtain ⟨k, h1, rfl, rfl, rfl⟩ := hp
    exact ⟨_, M, rfl, gTo_rf h, ⟨gOk_rf i hd, Nat.le_refl _⟩, fun S2 bb hr => ⟨_, _, by omega, by omega, c_X9_count _ S2 y bb M hr i k h1⟩⟩
  · obtain ⟨rfl, hq⟩ := hq
    obtain ⟨rfl, hno⟩ := hq
    exact ⟨rfl, rfl, _, 1, by simp, rfl, by omega, by omega, fun S2 bb hr => ⟨_, _, _, by omega, by omega, c_X9_count_no _ S2 y bb M hr i a hno⟩⟩
theorem ag_sees {d0 : Nat × Nat} {S : gS} {x y : Nat} {ad : Nat → Nat → Nat} {M : gM} (h : gMail d0 S x ad M) (i : gInv M) (hd : gDue M) (h40 : mN M 40 ≤ 1000000) (i : Int32) : gAg d0 S x y M (fun v' S' => ∃ c, c < mN M 6 ∧ i = nI c ∧ v' = some (.int (gSees M c (mN M 8)).1) ∧ S' = S) (fun E S' => S' = S ∧ (E = "java/lang/IndexOutOfBoundsException" ∧ ¬ gIx (mN M 6) i)) [("java/lang/IndexOutOfBoundsException", nI 1)] 0 (fun S2 t8 M9 v8 => ∃ m1 m2, m1 ≤ 4 ∧ m2 ≤ 7512 ∧ gCt d0 yX9_sees cX9_sees 7 (some .int) 10 m1 m2 [.ref y, .int i] S2 (gAn S2 y t8 M9 (some (.int v8))) gNo) := by
  revert i
  intro a
  have hb := i.b
  refine ⟨fun v S1 hp => ?_, fun E S1 hq => ?_⟩
  · obtain ⟨c, h1, rfl, rfl, rfl⟩ := hp
    exact ⟨_, M, rfl, gTo_rf h, ⟨gOk_rf i hd, Nat.le_refl _⟩, fun S2 bb hr => ⟨_, _, by omega, by omega, c_X9_sees _ S2 y bb M hr i c h1⟩⟩
  · obtain ⟨rfl, hq⟩ := hq
    obtain ⟨rfl, hno⟩ := hq
    exact ⟨rfl, rfl, _, 1, by simp, rfl, by omega, by omega, fun S2 bb hr => ⟨_, _, _, by omega, by omega, c_X9_sees_no _ S2 y bb M hr i a hno⟩⟩
theorem ag_read {d0 : Nat × Nat} {S : gS} {x y : Nat} {ad : Nat → Nat → Nat} {M : gM} (h : gMail d0 S x ad M) (i : gInv M) (hd : gDue M) (h40 : mN M 40 ≤ 1000000) (i j : Int32) : gAg d0 S x y M (fun v' S' => ∃ p d, p < mN M 8 ∧ i = nI p ∧ d < mN M 11 ∧ j = nI d ∧ ((gIntoOf M p (mC M d) = -1 ∧ v' = some (.int (-1)) ∧ S' = S) ∨ (¬ gIntoOf M p (mC M d) = -1 ∧ v' = some (.int (nI (mN M (100 + d)))) ∧ gTo d0 x S S' (mLog (mPaper M d (gIntoOf M p (mC M d))) d p)))) (fun E S' => S' = S ∧ ((E = "java/lang/IndexOutOfBoundsException" ∧ ¬ (gIx (mN M 8) i ∧ gIx (mN M 11) j)))) [("java/lang/IndexOutOfBoundsException", nI 1)] 0 (fun S2 t8 M9 v8 => ∃ m1 m2, m1 ≤ 4 ∧ m2 ≤ 7512 ∧ gCt d0 yX9_read cX9_read 4 (some .int) 10 m1 m2 [.ref y, .int i, .int j] S2 (gAn S2 y t8 M9 (some (.int v8))) gNo) := by
  revert i j
  intro a b
  have hb := i.b
  refine ⟨fun v S1 hp => ?_, fun E S1 hq => ?_⟩
  · obtain ⟨p, d, h1, rfl, h2, rfl, ⟨h3, rfl, rfl⟩ | ⟨h3, rfl, T⟩⟩ := hp
    · exact ⟨_, M, rfl, gTo_rf h, ⟨gOk_rf i hd, Nat.le_refl _⟩, fun S2 bb hr => ⟨_, _, by omega, by omega, c_X9_read_b _ S2 y bb M hr i p d h1 h2 h3⟩⟩
    · obtain ⟨ad9, hm, F9⟩ := id T
      have ok := gOk_read hm i hd h2
      exact ⟨_, _, rfl, T, ⟨ok, ok.2.2.2⟩, fun S2 bb hr => ⟨_, _, by omega, by omega, c_X9_read _ S2 y bb M hr i p d h1 h2 h3⟩⟩
  · obtain ⟨rfl, hq⟩ := hq
    obtain ⟨rfl, hno⟩ := hq
    exact ⟨rfl, rfl, _, 1, by simp, rfl, by omega, by omega, fun S2 bb hr => ⟨_, _, _, by omega, by omega, c_X9_read_no _ S2 y bb M hr i a b hno⟩⟩
/-- a document comes to be -/
noncomputable def gWf (M : gM) (a : Int32) : Nat := @ite Nat (∃ c, c < mN M 6 ∧ a = nI c ∧ ¬ mN M 11 = 24 ∧ (fOut M c).1 = nI 0) (Classical.propDecidable _) 1 0
theorem gWf_1 {M : gM} {a : Int32} {c : Nat} (h1 : c < mN M 6) (h2 : a = nI c) (h3 : ¬ mN M 11 = 24) (h4 : (fOut M c).1 = nI 0) : gWf M a = 1 := if_pos ⟨c, h1, h2, h3, h4⟩
theorem gWf_0 {M : gM} {a : Int32} (h : ∀ c, c < mN M 6 → a = nI c → ¬ mN M 11 = 24 → ¬ (fOut M c).1 = nI 0) : gWf M a = 0 := if_neg (fun ⟨c, h1, h2, h3, h4⟩ => h c h1 h2 h3 h4)
theorem ag_file {d0 : Nat × Nat} {S : gS} {x y : Nat} {ad : Nat → Nat → Nat} {M : gM} (h : gMail d0 S x ad M) (i : gInv M) (hd : gDue M) (h40 : mN M 40 ≤ 1000000) (i : Int32) : gAg d0 S x y M (fun v' S' => ∃ c, c < mN M 6 ∧ i = nI c ∧ ¬ mN M 11 = 24 ∧ ((¬ (fOut M c).1 = nI 0 ∧ v' = some (.int (-(fOut M c).1)) ∧ gTo d0 x S S' (mF0 M (fOut M c).2.1)) ∨ ((fOut M c).1 = nI 0 ∧ v' = some (.int (nI (mN M 11))) ∧ gTo d0 x S S' (mFile M c)))) (fun E S' => S' = S ∧ ((E = "java/lang/IndexOutOfBoundsException" ∧ ¬ gIx (mN M 6) i) ∨ (E = "java/lang/IllegalStateException" ∧ gIx (mN M 6) i ∧ mN M 11 = 24))) [("java/lang/IndexOutOfBoundsException", nI 1), ("java/lang/IllegalStateException", nI 2)] (gWf M i) (fun S2 t8 M9 v8 => ∃ m1 m2, m1 ≤ 4 ∧ m2 ≤ 7512 ∧ gCt d0 yX9_file cX9_file 3 (some .int) 10 m1 m2 [.ref y, .int i] S2 (gAn S2 y t8 M9 (some (.int v8))) gNo) := by
  revert i
  intro a
  have hb := i.b
  refine ⟨fun v S1 hp => ?_, fun E S1 hq => ?_⟩
  · obtain ⟨c, h1, rfl, h2, ⟨h3, rfl, T⟩ | ⟨h3, rfl, T⟩⟩ := hp
    · obtain ⟨ad9, hm, F9⟩ := id T
      have ok := gOk_file0 hm i hd
      have e0 : gWf M (nI c) = 0 := gWf_0 (fun c' g1 g2 g3 g4 => h3 (by
        have : c' = c := (nI_eq (by omega) (by omega)).mp g2.symm
        rw [← this]; exact g4))
      exact ⟨_, _, rfl, T, ⟨ok, by rw [e0]; exact ok.2.2.2⟩, fun S2 bb hr => ⟨_, _, by omega, by omega, c_X9_file_bad _ S2 y bb M hr i c h1 h2 h3⟩⟩
    · obtain ⟨ad9, hm, F9⟩ := id T
      have ok := gOk_file hm i hd h2 h3
      exact ⟨_, _, rfl, T, ⟨ok.1, by rw [gWf_1 h1 rfl h2 h3, ok.2]; omega⟩, fun S2 bb hr => ⟨_, _, by omega, by omega, c_X9_file _ S2 y bb M hr i c h1 h2 h3⟩⟩
  · obtain ⟨rfl, hq⟩ := hq
    rcases hq with ⟨rfl, hno⟩ | ⟨rfl, h0, hn⟩
    · exact ⟨rfl, gWf_0 (fun c g1 g2 _ _ => hno (g2 ▸ gIx_nI g1 (by omega))), _, 1, by simp, rfl, by omega, by omega, fun S2 bb hr => ⟨_, _, _, by omega, by omega, c_X9_file_no _ S2 y bb M hr i a hno⟩⟩
    · obtain ⟨c, hc, rfl⟩ := gIx_of h0 (by omega)
      exact ⟨rfl, gWf_0 (fun c g1 g2 g3 _ => absurd hn g3), _, 2, by simp, rfl, by omega, by omega, fun S2 bb hr => ⟨_, _, _, by omega, by omega, c_X9_file_no2 _ S2 y bb M hr i c hc hn⟩⟩
