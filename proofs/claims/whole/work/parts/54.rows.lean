/-! ===== the reference: chains, veils, the paper, the tape ===== -/
section GR5
variable {S : gS} {y : Nat} {b : Nat → Nat → Nat} {M : gM}
theorem gRef_ch {f g : Nat → Int32} (h : gRef S y b M) (e : ∀ j, j < 960 → g j = f j) : gRef (sXr S (17 + 32 * (10 + 22)) (b 0 22) g) y b (uR M 22 f) := by
  obtain ⟨⟨r1, r2, r3, r4, r5, r6, r7, r8, r9, r10, r11⟩, hs, Ma, ha⟩ := h
  have F := gFr_Xr S (17 + 32 * (10 + 22)) (b 0 22) g
  have hk : ∀ {κ p a : Nat} {w : Int32}, κ ≠ 17 + 32 * (10 + 22) → gX S κ p a = w → gX (sXr S (17 + 32 * (10 + 22)) (b 0 22) g) κ p a = w := fun z e => F.X (K := fun k => k ≠ 17 + 32 * (10 + 22)) z e
  refine ⟨⟨r1, fun c h => hk (by omega) (r2 c h), hk (by omega) (by rw [uR_f (by omega)]; exact r3), r4, fun f9 hf j hj => ?_, fun e he => hk (by omega) (r6 e he), fun j hj => by rw [uR_f (by omega)]; exact hk (by omega) (r7 j hj), fun j hj => by rw [uR_f (by omega)]; exact hk (by omega) (r8 j hj), fun f9 h1 h2 => ?_, r10, r11⟩, gStt_mono (gStt_M hs rfl (fun g _ _ => uR_f (by omega))) F (by omega) (fun g _ _ => by omega), Ma, gStt_mono ha F (by omega) (fun g _ _ => by omega)⟩
  · by_cases ef : f9 = 22
    · subst ef
      rw [uR_s]
      exact (congrFun (u2_same _ _ _ _) j).trans (e j hj)
    · rw [uR_f ef]
      exact hk (by omega) (r5 f9 hf j hj)
  · obtain ⟨t1, t2, t3, t4⟩ := r9 f9 h1 h2
    exact ⟨t1, t2, t3, fun d hd => ⟨(t4 d hd).1, (t4 d hd).2.1, (t4 d hd).2.2.1, fun j hj => hk (by omega) ((t4 d hd).2.2.2 j hj)⟩⟩
theorem gRef_l {e : Nat} (n : Nat) (h : gRef S y b M) (he : e < 20) (hb : mN M 11 ≤ 100) : gRef (sX S (17 + 32 * (10 + 21)) (b 0 21) e (nI n)) y b (uN M (200 + e) n) := by
  obtain ⟨⟨r1, r2, r3, r4, r5, r6, r7, r8, r9, r10, r11⟩, hs, Ma, ha⟩ := h
  refine ⟨⟨r1, fun c h => by rw [uN_o (by have := gCnt_lt h; omega)]; exact sX_k (by omega) (r2 c h), sX_k (by omega) r3, r4, fun f hf j hj => sX_k (by have := gExa_lt hf; omega) (r5 f hf j hj), fun e' he' => ?_, by rw [uN_o (by omega)]; exact fun j hj => sX_k (by omega) (r7 j hj), by rw [uN_o (by omega)]; exact fun j hj => sX_k (by omega) (r8 j hj), fun f h1 h2 => ?_, r10, r11⟩, gStt_k (gStt_M hs (uN_o (by omega)) (fun _ _ _ => rfl)) (by omega) (fun g _ _ => by omega), Ma, gStt_k ha (by omega) (fun g _ _ => by omega)⟩
  · by_cases ee : e' = e
    · rw [ee, uN_s]; exact sX_s
    · rw [uN_o (by omega)]; exact sX_q ee (r6 e' he')
  · obtain ⟨t1, t2, t3, t4⟩ := r9 f h1 h2
    refine ⟨t1, t2, t3, fun d hd => ?_⟩
    rw [uN_o (by omega)] at hd
    obtain ⟨u1, u2, u3, u4⟩ := t4 d hd
    rw [uN_o (show 100 + d ≠ 200 + e by omega)]
    exact ⟨u1, u2, u3, fun j hj => sX_k (by omega) (u4 j hj)⟩
/-- a text's level row -/
theorem gRef_T {d u : Nat} {f : Nat → Int32} {w : Int32} (h : gRef S y b (uT M 14 d f)) (hd : d < mN M 11) : gRef (sX S (17 + 32 * (100 + 3 * d + (14 - 13))) (b 14 d) u w) y b (uT M 14 d (fun k => if k = u then w else f k)) := by
  obtain ⟨⟨r1, r2, r3, r4, r5, r6, r7, r8, r9, r10, r11⟩, hs, Ma, ha⟩ := h
  refine ⟨⟨r1, fun c h => sX_k (by omega) (r2 c h), sX_k (by omega) r3, r4, fun f9 hf j hj => sX_k (by have := gExa_lt hf; omega) (r5 f9 hf j hj), fun e he => sX_k (by omega) (r6 e he), fun j hj => sX_k (by omega) (r7 j hj), fun j hj => sX_k (by omega) (r8 j hj), fun f9 h1 h2 => ?_, r10, r11⟩, gStt_k (gStt_M (M' := uT M 14 d (fun k => if k = u then w else f k)) hs rfl (fun _ _ _ => rfl)) (by omega) (fun g _ _ => by omega), Ma, gStt_k ha (by omega) (fun g _ _ => by omega)⟩
  obtain ⟨t1, t2, t3, t4⟩ := r9 f9 h1 h2
  refine ⟨t1, t2, t3, fun d' hd' => ?_⟩
  obtain ⟨u1, u2, u3, u4⟩ := t4 d' hd'
  refine ⟨u1, u2, u3, fun j hj => ?_⟩
  by_cases e9 : f9 = 14 ∧ d' = d
  · obtain ⟨rfl, rfl⟩ := e9
    have u5 := u4 j hj
    rw [uT_s] at u5 ⊢
    by_cases ej : j = u
    · rw [if_pos ej, ej]; exact sX_s
    · rw [if_neg ej]; exact sX_q ej u5
  · have e8 : ∀ g : Nat → Int32, mT (uT M 14 d g) f9 d' = mT M f9 d' := fun g => if_neg e9
    have u5 := u4 j hj
    rw [e8] at u5 ⊢
    exact sX_k (by omega) u5
theorem gRef_Tc {d : Nat} {f : Nat → Int32} (h : gRef S y b M) (e : ∀ k, f k = mT M 14 d k) : gRef S y b (uT M 14 d f) := by
  have e9 : uT M 14 d f = M := by
    refine Prod.ext rfl (Prod.ext rfl (funext fun g => funext fun j => ?_))
    show (if g = 14 ∧ j = d then f else mT M g j) = mT M g j
    split
    · next hc => rw [hc.1, hc.2]; exact funext e
    · rfl
  rw [e9]
  exact h
/-- the paper -/
theorem gRef_5 {L : Nat} (h : gRef S y b M) : gRef (sX S 11 5 y (nI L)) y b (uN (uR M 4 (gX S (17 + 32 * (10 + 4)) (b 0 4))) 5 L) := by
  obtain ⟨⟨r1, r2, r3, r4, r5, r6, r7, r8, r9, r10, r11⟩, hs, Ma, ha⟩ := h
  refine ⟨⟨r1, fun c h => ?_, by show _ = mA (uR M 4 _) 3 0; rw [uR_f (by omega)]; exact sX_p (by decide) r3, r4, fun f hf j hj => by show _ = mA (uR M 4 _) f j; rw [uR_f (by have := gExa_lt hf; omega)]; exact sX_k (by omega) (r5 f hf j hj), fun e he => by rw [uN_o (by omega)]; exact sX_k (by omega) (r6 e he), fun j hj => by show _ = mA (uR M 4 _) 1 j; rw [uR_f (by omega)]; exact sX_k (by omega) (r7 j hj), fun j hj => by show _ = mA (uR M 4 _) 4 j; rw [uR_s]; exact sX_k (by omega) rfl, fun f h1 h2 => ?_, r10, r11⟩, gStt_k (gStt_M hs (uN_o (by omega)) (fun g h1 h2 => uR_f (by omega))) (by omega) (fun g _ _ => by omega), Ma, gStt_k ha (by omega) (fun g _ _ => by omega)⟩
  · by_cases ec : c = 5
    · rw [ec, uN_s]; exact sX_s
    · rw [uN_o ec]; exact sX_p ec (r2 c h)
  · obtain ⟨t1, t2, t3, t4⟩ := r9 f h1 h2
    refine ⟨t1, t2, t3, fun d hd => ?_⟩
    obtain ⟨u1, u2, u3, u4⟩ := t4 d hd
    rw [uN_o (by omega)]
    exact ⟨u1, u2, u3, fun j hj => sX_k (by omega) (u4 j hj)⟩
theorem gRef_p {f : Nat → Int32} {L j : Nat} (v : Int32) (h : gRef S y b (uN (uR M 4 f) 5 L)) : gRef (sX S (17 + 32 * (10 + 4)) (b 0 4) j v) y b (uN (uR M 4 (fun k => if k = j then v else f k)) 5 L) := by
  obtain ⟨⟨r1, r2, r3, r4, r5, r6, r7, r8, r9, r10, r11⟩, hs, Ma, ha⟩ := h
  have ea : ∀ (g : Nat → Int32) (i : Nat), i ≠ 4 → mA (uN (uR M 4 g) 5 L) i = mA M i := fun g i hi => uR_f hi
  have e4 : ∀ g : Nat → Int32, mA (uN (uR M 4 g) 5 L) 4 = g := fun g => uR_s
  rw [ea f 3 (by omega)] at r3
  rw [ea f 1 (by omega)] at r7
  rw [e4] at r8
  refine ⟨⟨r1, fun c h => sX_k (by omega) (r2 c h), by rw [ea _ 3 (by omega)]; exact sX_k (by omega) r3, r4, fun g hg i hi => ?_, fun e he => sX_k (by omega) (r6 e he), fun i hi => by rw [ea _ 1 (by omega)]; exact sX_k (by omega) (r7 i hi), fun i hi => ?_, fun g h1 h2 => ?_, r10, r11⟩, gStt_k (gStt_M hs rfl (fun g h1 h2 => (ea _ _ (by omega)).trans (ea _ _ (by omega)).symm)) (by omega) (fun g _ _ => by omega), Ma, gStt_k ha (by omega) (fun g _ _ => by omega)⟩
  · have := gExa_lt hg
    have z := r5 g hg i hi
    rw [ea _ g (by omega)] at z ⊢
    exact sX_k (by omega) z
  · rw [e4]
    by_cases e : i = j
    · rw [if_pos e, e]; exact sX_s
    · rw [if_neg e]; exact sX_q e (r8 i hi)
  · obtain ⟨t1, t2, t3, t4⟩ := r9 g h1 h2
    exact ⟨t1, t2, t3, fun d hd => ⟨(t4 d hd).1, (t4 d hd).2.1, (t4 d hd).2.2.1, fun i hi => sX_k (by omega) ((t4 d hd).2.2.2 i hi)⟩⟩
theorem gRef_pc {f g : Nat → Int32} {L : Nat} (h : gRef S y b (uN (uR M 4 f) 5 L)) (e : ∀ k, k < L → f k = g k) : gRef S y b (uN (uR M 4 g) 5 L) := by
  obtain ⟨⟨r1, r2, r3, r4, r5, r6, r7, r8, r9, r10, r11⟩, hs, ha⟩ := h
  have ea : ∀ (g : Nat → Int32) (i : Nat), i ≠ 4 → mA (uN (uR M 4 g) 5 L) i = mA M i := fun g i hi => uR_f hi
  have e4 : ∀ g : Nat → Int32, mA (uN (uR M 4 g) 5 L) 4 = g := fun g => uR_s
  rw [ea f 3 (by omega)] at r3
  rw [ea f 1 (by omega)] at r7
  rw [e4] at r8
  refine ⟨⟨r1, r2, by rw [ea _ 3 (by omega)]; exact r3, r4, fun g9 hg i hi => ?_, r6, by rw [ea _ 1 (by omega)]; exact r7, fun i hi => ?_, r9, r10, r11⟩, gStt_M hs rfl (fun g h1 h2 => (ea _ _ (by omega)).trans (ea _ _ (by omega)).symm), ha⟩
  · have := gExa_lt hg
    have z := r5 g9 hg i hi
    rw [ea _ g9 (by omega)] at z ⊢
    exact z
  · rw [e4]
    exact (r8 i hi).trans (e i (by have z : mN (uN (uR M 4 g) 5 L) 5 = L := uN_s; omega))
theorem gInv_paper {f : Nat → Int32} {L : Nat} (i : gInv M) (hL : L ≤ 2500) : gInv (uN (uR M 4 f) 5 L) := by
  have n : ∀ j, j ≠ 5 → mN (uN (uR M 4 f) 5 L) j = mN M j := fun j hj => uN_o hj
  have n5 : mN (uN (uR M 4 f) 5 L) 5 = L := uN_s
  have a : ∀ g, g ≠ 4 → mA (uN (uR M 4 f) 5 L) g = mA M g := fun g hg => uR_f hg
  obtain ⟨⟨b1, b2, b3, b4, b5⟩, ⟨c1, c2, c3, c4⟩, ⟨d1, d2, d3, d4, d5, d6⟩, ⟨e1, e2, e3, e4, e5⟩, z1, z2, z3, z4⟩ := i
  have hP : ∀ v, gPr (uN (uR M 4 f) 5 L) v = gPr M v := fun v => rfl
  have hW : ∀ v, gWho (uN (uR M 4 f) 5 L) v = gWho M v := fun v => rfl
  refine ⟨⟨b1, b2, b3, b4, b5⟩, ⟨c1, by rw [n5]; exact hL, fun d hd => by rw [n _ (by omega)]; exact c3 d hd, fun e => by rw [n _ (by omega)]; exact c4 e⟩, ⟨by rw [a 12 (by omega)]; exact d1, by rw [a 18 (by omega)]; exact d2, by rw [a 19 (by omega)]; exact d3, fun e k he hk => by rw [a 22 (by omega)]; rw [n _ (by omega)] at hk; exact d4 e k he hk, by rw [a 24 (by omega), a 25 (by omega)]; exact d5, by rw [a 43 (by omega)]; exact d6⟩, ⟨by rw [a 7 (by omega)]; exact e1, by rw [a 9 (by omega), a 41 (by omega), a 42 (by omega)]; exact e2, fun d j hd hj => by rw [n _ (by omega)] at hj; exact e3 d j hd hj, by rw [a 46 (by omega)]; exact e4, e5⟩, by rw [a 10 (by omega), a 42 (by omega)]; exact z1, by rw [a 45 (by omega)]; exact z2, by rw [a 46 (by omega)]; exact z3, fun e he => by rw [n _ (by omega)]; exact z4 e he⟩
/-- the tape -/
theorem gRef_t {j : Nat} (v : Int32) (h : gRef S y b M) (hj : mN M 2 ≤ j) : gRef (sX S (17 + 32 * (10 + 1)) (b 0 1) j v) y b M := by
  obtain ⟨⟨r1, r2, r3, r4, r5, r6, r7, r8, r9, r10, r11⟩, hs, Ma, ha⟩ := h
  refine ⟨⟨r1, fun c h => sX_k (by omega) (r2 c h), sX_k (by omega) r3, r4, fun g hg i hi => sX_k (by have := gExa_lt hg; omega) (r5 g hg i hi), fun e he => sX_k (by omega) (r6 e he), fun i hi => sX_q (by omega) (r7 i hi), fun i hi => sX_k (by omega) (r8 i hi), fun g h1 h2 => ?_, r10, r11⟩, gStt_k hs (by omega) (fun g _ _ => by omega), Ma, gStt_k ha (by omega) (fun g _ _ => by omega)⟩
  obtain ⟨t1, t2, t3, t4⟩ := r9 g h1 h2
  exact ⟨t1, t2, t3, fun d hd => ⟨(t4 d hd).1, (t4 d hd).2.1, (t4 d hd).2.2.1, fun i hi => sX_k (by omega) ((t4 d hd).2.2.2 i hi)⟩⟩
theorem gRef_feed {M' : gM} {n : Nat} (h : gRef S y b M) (hn : mN M' 2 = n) (ho : ∀ i, i ≠ 2 → mN M' i = mN M i) (ha : ∀ f, f ≠ 1 → mA M' f = mA M f) (ht : mT M' = mT M) (hx : ∀ j, j < n → gX S (17 + 32 * (10 + 1)) (b 0 1) j = mA M' 1 j) : gRef (sX S 11 2 y (nI n)) y b M' := by
  obtain ⟨⟨r1, r2, r3, r4, r5, r6, r7, r8, r9, r10, r11⟩, hs, Ma, hm⟩ := h
  refine ⟨⟨r1, fun c h => ?_, by rw [ha 3 (by omega)]; exact sX_p (by decide) r3, r4, fun f hf j hj => by rw [ha f (by have := gExa_lt hf; omega)]; exact sX_k (by omega) (r5 f hf j hj), fun e he => by rw [ho _ (by omega)]; exact sX_k (by omega) (r6 e he), fun j hj => sX_k (by omega) (hx j (by omega)), fun j hj => by rw [ha 4 (by omega)]; rw [ho 5 (by omega)] at hj; exact sX_k (by omega) (r8 j hj), fun f h1 h2 => ?_, r10, r11⟩, gStt_k (gStt_M hs (ho 40 (by omega)) (fun g h1 h2 => ha _ (by omega))) (by omega) (fun g _ _ => by omega), Ma, gStt_k hm (by omega) (fun g _ _ => by omega)⟩
  · by_cases ec : c = 2
    · rw [ec, hn]; exact sX_s
    · rw [ho c ec]; exact sX_p ec (r2 c h)
  · obtain ⟨t1, t2, t3, t4⟩ := r9 f h1 h2
    refine ⟨t1, t2, t3, fun d hd => ?_⟩
    rw [ho 11 (by omega)] at hd
    obtain ⟨u1, u2, u3, u4⟩ := t4 d hd
    rw [ho _ (by omega), ht]
    exact ⟨u1, u2, u3, fun j hj => sX_k (by omega) (u4 j hj)⟩
end GR5
theorem mPut_lo {M : gM} {v : Int32} {j : Nat} (h : j < mN M 2) : mA (mPut M v) 1 j = mA M 1 j := uA_i (by omega)
theorem mPut_at {M : gM} {v : Int32} : mA (mPut M v) 1 (mN M 2) = v := uA_s
theorem mApp_n {M : gM} {v : Int32} : mN (mApp M v) 2 = mN M 2 + 4 := rfl
theorem mApp_lo {M : gM} {v : Int32} {j : Nat} (h : j < mN M 2) : mA (mApp M v) 1 j = mA M 1 j := by
  have e1 : mN (mPut M (gByte v 24)) 2 = mN M 2 + 1 := rfl
  have e2 : mN (mPut (mPut M (gByte v 24)) (gByte v 16)) 2 = mN M 2 + 2 := rfl
  have e3 : mN (mPut (mPut (mPut M (gByte v 24)) (gByte v 16)) (gByte v 8)) 2 = mN M 2 + 3 := rfl
  exact (mPut_lo (by omega)).trans ((mPut_lo (by omega)).trans ((mPut_lo (by omega)).trans (mPut_lo h)))
theorem mApp_at {M : gM} {v : Int32} {k : Nat} (h : k < 4) : mA (mApp M v) 1 (mN M 2 + k) = gByte v (24 - 8 * k) := by
  have e1 : mN (mPut M (gByte v 24)) 2 = mN M 2 + 1 := rfl
  have e2 : mN (mPut (mPut M (gByte v 24)) (gByte v 16)) 2 = mN M 2 + 2 := rfl
  have e3 : mN (mPut (mPut (mPut M (gByte v 24)) (gByte v 16)) (gByte v 8)) 2 = mN M 2 + 3 := rfl
  obtain rfl | rfl | rfl | rfl := (show k = 0 ∨ k = 1 ∨ k = 2 ∨ k = 3 by omega)
  · exact (mPut_lo (by omega)).trans ((mPut_lo (by omega)).trans ((mPut_lo (by omega)).trans mPut_at))
  · exact (mPut_lo (by omega)).trans ((mPut_lo (by omega)).trans mPut_at)
  · exact (mPut_lo (by omega)).trans mPut_at
  · exact mPut_at
def gFive (a b c d e : Int32) (k : Nat) : Int32 := match k with
  | 0 => a
  | 1 => b
  | 2 => c
  | 3 => d
  | _ => e
theorem mFeed_lo {M : gM} {a b c d e : Int32} {j : Nat} (h : j < mN M 2) : mA (mFeed M a b c d e) 1 j = mA M 1 j := by
  have e1 : mN (mApp M a) 2 = mN M 2 + 4 := rfl
  have e2 : mN (mApp (mApp M a) b) 2 = mN M 2 + 8 := rfl
  have e3 : mN (mApp (mApp (mApp M a) b) c) 2 = mN M 2 + 12 := rfl
  have e4 : mN (mApp (mApp (mApp (mApp M a) b) c) d) 2 = mN M 2 + 16 := rfl
  exact (mApp_lo (by omega)).trans ((mApp_lo (by omega)).trans ((mApp_lo (by omega)).trans ((mApp_lo (by omega)).trans (mApp_lo h))))
theorem mFeed_at {M : gM} {a b c d e : Int32} {k : Nat} (h : k < 20) : mA (mFeed M a b c d e) 1 (mN M 2 + k) = gByte (gFive a b c d e (k / 4)) (24 - 8 * (k % 4)) := by
  have e1 : mN (mApp M a) 2 = mN M 2 + 4 := rfl
  have e2 : mN (mApp (mApp M a) b) 2 = mN M 2 + 8 := rfl
  have e3 : mN (mApp (mApp (mApp M a) b) c) 2 = mN M 2 + 12 := rfl
  have e4 : mN (mApp (mApp (mApp (mApp M a) b) c) d) 2 = mN M 2 + 16 := rfl
  have hr : k % 4 < 4 := Nat.mod_lt _ (by decide)
  obtain z | z | z | z | z := (show k / 4 = 0 ∨ k / 4 = 1 ∨ k / 4 = 2 ∨ k / 4 = 3 ∨ k / 4 = 4 by omega) <;> rw [z]
  · rw [show mN M 2 + k = mN M 2 + k % 4 by omega]
    exact (mApp_lo (by omega)).trans ((mApp_lo (by omega)).trans ((mApp_lo (by omega)).trans ((mApp_lo (by omega)).trans (mApp_at hr))))
  · rw [show mN M 2 + k = mN (mApp M a) 2 + k % 4 by omega]
    exact (mApp_lo (by omega)).trans ((mApp_lo (by omega)).trans ((mApp_lo (by omega)).trans (mApp_at hr)))
  · rw [show mN M 2 + k = mN (mApp (mApp M a) b) 2 + k % 4 by omega]
    exact (mApp_lo (by omega)).trans ((mApp_lo (by omega)).trans (mApp_at hr))
  · rw [show mN M 2 + k = mN (mApp (mApp (mApp M a) b) c) 2 + k % 4 by omega]
    exact (mApp_lo (by omega)).trans (mApp_at hr)
  · rw [show mN M 2 + k = mN (mApp (mApp (mApp (mApp M a) b) c) d) 2 + k % 4 by omega]
    exact mApp_at hr
