/-! ===== file ===== -/
def gOwn (M : gM) (c : Nat) : Int32 := gor (fun k => decide (mA M 18 k = nI c)) (mN M 17)
def fOut (M : gM) (c : Nat) : Int32 × Int32 × gM := dOut (mA M 1) (gOwn M c) (mN M 2)
def mF0 (M : gM) (w : Int32) : gM := uA (uN M 2 0) 3 0 w
def mDoc (M : gM) (c : Nat) (D : gM) : gM := uN (uN (uT (uT (uT (uA (uA (uA (uA M 12 (mN M 11) (nI c)) 16 (mN M 11) (mA D 4 0)) 43 (mN M 11) (-1)) 44 (mN M 11) (-1)) 13 (mN M 11) (mA D 0)) 14 (mN M 11) (mA D 1)) 15 (mN M 11) (mA D 2)) (100 + mN M 11) (mN D 0)) 11 (mN M 11 + 1)
def mFile (M : gM) (c : Nat) : gM := mDoc (mF0 M (fOut M c).2.1) c (fOut M c).2.2
def gAd9 (ad : Nat → Nat → Nat) (n q t l w : Nat) : Nat → Nat → Nat := uad (uad (uad (uad ad 2 n q) 7 n t) 8 n l) 9 n w

theorem gMailA_dK {d0 : Nat × Nat} {S S3 : gS} {x : Nat} {ad : Nat → Nat → Nat} {M : gM} (hq : gDrq S3 ad) (h : gMail d0 S x ad M) (F : gFr (fun k => k ≠ 4 ∧ k ≠ 48 ∧ k ≠ 80 ∧ k ≠ 112 ∧ k ≠ 113) S S3) : gMail d0 S3 x ad M ∧ gFr gMk S S3 := by
  obtain ⟨hr, ⟨l0, l1, l2, l3, l4⟩, ht, hcs, hps, hds, hes, hls⟩ := id h
  have hN := l1.2.2.1
  refine ⟨⟨?_, ⟨?_, ?_, ?_, ?_, ?_⟩, ?_, ?_, ?_, ?_, ?_, ?_⟩, F.mono (fun k (z : gMk k) => by unfold gMk at z; first | omega | (dsimp only; omega))⟩
  · obtain ⟨r1, ⟨ra, rb, rc, rd, re⟩, rt, rtl, rp, rpl, rdr, rep, rday⟩ := id hr
    exact ⟨F.K r1 (by decide), ⟨F.Y (by decide) ra, F.Y (by decide) rb, F.Y (by decide) rc, F.Y (by decide) rd, F.Y (by decide) re⟩, F.Y (by decide) rt, F.X (by decide) rtl, F.Y (by decide) rp, F.X (by decide) rpl, ⟨F.Y (by decide) rdr.1, hq⟩, F.X (by decide) rep, F.X (by decide) rday⟩
  · exact gLst_mono l0 F (by first | omega | (dsimp only; omega)) (by first | omega | (dsimp only; omega)) (fun _ _ => rfl)
  · exact gLst_mono l1 F (by first | omega | (dsimp only; omega)) (by first | omega | (dsimp only; omega)) (fun _ _ => rfl)
  · exact gLst_mono l2 F (by first | omega | (dsimp only; omega)) (by first | omega | (dsimp only; omega)) (fun _ _ => rfl)
  · exact gLst_mono l3 F (by first | omega | (dsimp only; omega)) (by first | omega | (dsimp only; omega)) (fun _ _ => rfl)
  · exact gLst_mono l4 F (by first | omega | (dsimp only; omega)) (by first | omega | (dsimp only; omega)) (fun _ _ => rfl)
  · exact gTape_mono ht F (by first | omega | (dsimp only; omega)) (by first | omega | (dsimp only; omega)) rfl rfl rfl rfl rfl
  · exact fun i hi => gCase_mono (hcs i hi) F (by first | omega | (dsimp only; omega))
  · exact fun i hi => gPers_mono (hps i hi) F (by first | omega | (dsimp only; omega))
  · exact fun d hd => gDoc_mono (hds d hd) F (by first | omega | (dsimp only; omega)) (by first | omega | (dsimp only; omega)) (by first | omega | (dsimp only; omega)) (by first | omega | (dsimp only; omega)) hN rfl rfl rfl rfl (fun _ _ => rfl) (fun _ _ => rfl) (Nat.le_refl _) (Nat.le_refl _) rfl rfl rfl rfl rfl rfl rfl rfl rfl
  · exact fun e he => gExh_mono (hes e he) F (by first | omega | (dsimp only; omega)) (by first | omega | (dsimp only; omega)) (by first | omega | (dsimp only; omega)) (fun k hk => by first | omega | (dsimp only; omega)) hN rfl rfl (fun _ => rfl) (fun _ _ => rfl) (fun _ _ => rfl) (Nat.le_refl _) (Nat.le_refl _) rfl rfl rfl rfl (fun _ _ => rfl)
  · exact fun k hk => gLtr_mono (hls k hk) F (by first | omega | (dsimp only; omega)) rfl (fun _ _ => rfl) (fun _ _ => rfl) (Nat.le_refl _) (Nat.le_refl _) rfl rfl rfl rfl rfl

theorem gMailA_root {d0 : Nat × Nat} {S S3 : gS} {x : Nat} {ad : Nat → Nat → Nat} {M : gM} {M9 : gM} (m6 : mN M9 6 = mN M 6) (m8 : mN M9 8 = mN M 8) (m11 : mN M9 11 = mN M 11) (m17 : mN M9 17 = mN M 17) (m23 : mN M9 23 = mN M 23) (mh : ∀ j, 100 ≤ j → mN M9 j = mN M j) (ma : ∀ f, f ≠ 1 → f ≠ 3 → f ≠ 4 → mA M9 f = mA M f) (mt : mT M9 = mT M) (hq : gRoot S3 x ad M9) (hq2 : gTape S3 ad M9) (h : gMail d0 S x ad M) (F : gFr (fun k => k ≠ 9 ∧ k ≠ 49 ∧ k ≠ 81) S S3) : gMail d0 S3 x ad M9 ∧ gFr gMk S S3 := by
  obtain ⟨hr, ⟨l0, l1, l2, l3, l4⟩, ht, hcs, hps, hds, hes, hls⟩ := id h
  have hN := l1.2.2.1
  refine ⟨⟨?_, ⟨?_, ?_, ?_, ?_, ?_⟩, ?_, ?_, ?_, ?_, ?_, ?_⟩, F.mono (fun k (z : gMk k) => by unfold gMk at z; first | omega | (dsimp only; omega))⟩
  · exact hq
  · rw [m6]; exact gLst_mono l0 F (by first | omega | (dsimp only; omega)) (by first | omega | (dsimp only; omega)) (fun _ _ => rfl)
  · rw [m8]; exact gLst_mono l1 F (by first | omega | (dsimp only; omega)) (by first | omega | (dsimp only; omega)) (fun _ _ => rfl)
  · rw [m11]; exact gLst_mono l2 F (by first | omega | (dsimp only; omega)) (by first | omega | (dsimp only; omega)) (fun _ _ => rfl)
  · rw [m17]; exact gLst_mono l3 F (by first | omega | (dsimp only; omega)) (by first | omega | (dsimp only; omega)) (fun _ _ => rfl)
  · rw [m23]; exact gLst_mono l4 F (by first | omega | (dsimp only; omega)) (by first | omega | (dsimp only; omega)) (fun _ _ => rfl)
  · exact hq2
  · rw [m6, ma 7 (by omega) (by omega) (by omega)]; exact fun i hi => gCase_mono (hcs i hi) F (by first | omega | (dsimp only; omega))
  · rw [m8, ma 9 (by omega) (by omega) (by omega), ma 41 (by omega) (by omega) (by omega), ma 10 (by omega) (by omega) (by omega), ma 42 (by omega) (by omega) (by omega)]; exact fun i hi => gPers_mono (hps i hi) F (by first | omega | (dsimp only; omega))
  · rw [m11]; exact fun d hd => gDoc_mono (hds d hd) F (by first | omega | (dsimp only; omega)) (by first | omega | (dsimp only; omega)) (by first | omega | (dsimp only; omega)) (by first | omega | (dsimp only; omega)) hN rfl rfl rfl rfl (fun _ _ => rfl) (fun _ _ => rfl) (Nat.le_of_eq m6.symm) (Nat.le_of_eq m8.symm) (congrFun (ma 12 (by omega) (by omega) (by omega)) d) (congrFun (ma 16 (by omega) (by omega) (by omega)) d) (congrFun (ma 43 (by omega) (by omega) (by omega)) d) (congrFun (ma 44 (by omega) (by omega) (by omega)) d) (congrFun (ma 45 (by omega) (by omega) (by omega)) d) (mh _ (by omega)) (congrFun (congrFun mt 13) d) (congrFun (congrFun mt 14) d) (congrFun (congrFun mt 15) d)
  · rw [m17]; exact fun e he => gExh_mono (hes e he) F (by first | omega | (dsimp only; omega)) (by first | omega | (dsimp only; omega)) (by first | omega | (dsimp only; omega)) (fun k hk => by first | omega | (dsimp only; omega)) hN rfl rfl (fun _ => rfl) (fun _ _ => rfl) (fun _ _ => rfl) (Nat.le_of_eq m6.symm) (Nat.le_of_eq m8.symm) (congrFun (ma 18 (by omega) (by omega) (by omega)) e) (congrFun (ma 19 (by omega) (by omega) (by omega)) e) (congrFun (ma 20 (by omega) (by omega) (by omega)) e) (mh _ (by omega)) (fun _ _ => congrFun (ma 22 (by omega) (by omega) (by omega)) _)
  · rw [m23]; exact fun k hk => gLtr_mono (hls k hk) F (by first | omega | (dsimp only; omega)) rfl (fun _ _ => rfl) (fun _ _ => rfl) (Nat.le_of_eq m11.symm) (Nat.le_of_eq m8.symm) (congrFun (ma 24 (by omega) (by omega) (by omega)) k) (congrFun (ma 25 (by omega) (by omega) (by omega)) k) (congrFun (ma 26 (by omega) (by omega) (by omega)) k) (congrFun (ma 46 (by omega) (by omega) (by omega)) k) (congrFun (ma 47 (by omega) (by omega) (by omega)) k)

theorem gDoc_new {S : gS} {ad : Nat → Nat → Nat} {M D : gM} {c q t l w : Nat} (hc : c < mN M 6) (hz : mA M 45 (mN M 11) = nI 0) (hlen : mN D 0 ≤ 2500) (h : gDnw S q (mN M 11) (ad 0 c) t l w D) : gDoc S (gAd9 ad (mN M 11) q t l w) (mDoc M c D) (mN M 11) := by
  obtain ⟨h1, h2, ⟨h3, h4, h5⟩, ⟨h6, h7, h8, h9⟩, r1, r2, r3⟩ := h
  have a2 : gAd9 ad (mN M 11) q t l w 2 (mN M 11) = q := show uad ad 2 (mN M 11) q 2 (mN M 11) = q from uad_s
  have a7 : gAd9 ad (mN M 11) q t l w 7 (mN M 11) = t := show uad ad 7 (mN M 11) t 7 (mN M 11) = t from uad_s
  have a8 : gAd9 ad (mN M 11) q t l w 8 (mN M 11) = l := show uad ad 8 (mN M 11) l 8 (mN M 11) = l from uad_s
  have a9 : gAd9 ad (mN M 11) q t l w 9 (mN M 11) = w := show uad ad 9 (mN M 11) w 9 (mN M 11) = w from uad_s
  have e12 : mA (mDoc M c D) 12 (mN M 11) = nI c := show mA (uA M 12 (mN M 11) (nI c)) 12 (mN M 11) = nI c from uA_s
  have e16 : mA (mDoc M c D) 16 (mN M 11) = mA D 4 0 := show mA (uA M 16 (mN M 11) (mA D 4 0)) 16 (mN M 11) = _ from uA_s
  have e43 : mA (mDoc M c D) 43 (mN M 11) = -1 := show mA (uA M 43 (mN M 11) (-1)) 43 (mN M 11) = _ from uA_s
  have e44 : mA (mDoc M c D) 44 (mN M 11) = -1 := show mA (uA M 44 (mN M 11) (-1)) 44 (mN M 11) = _ from uA_s
  have e45 : mA (mDoc M c D) 45 (mN M 11) = nI 0 := hz
  have e13 : mT (mDoc M c D) 13 (mN M 11) = mA D 0 := show mT (uT M 13 (mN M 11) (mA D 0)) 13 (mN M 11) = _ from uT_s
  have e14 : mT (mDoc M c D) 14 (mN M 11) = mA D 1 := show mT (uT M 14 (mN M 11) (mA D 1)) 14 (mN M 11) = _ from uT_s
  have e15 : mT (mDoc M c D) 15 (mN M 11) = mA D 2 := show mT (uT M 15 (mN M 11) (mA D 2)) 15 (mN M 11) = _ from uT_s
  have el : mN (mDoc M c D) (100 + mN M 11) = mN D 0 := (uN_o (by omega)).trans uN_s
  have e6 : mN (mDoc M c D) 6 = mN M 6 := (uN_o (by omega)).trans (uN_o (by omega))
  unfold gDoc
  rw [a2, a7, a8, a9, e12, e16, e43, e44, e45, e13, e14, e15, el, e6, gRf_1]
  exact ⟨h1, ⟨c, hc, rfl, h2⟩, ⟨h3, h4, h5⟩, ⟨h6, h7, h8, h9, Or.inl rfl⟩, hlen, r1, r2, r3⟩
theorem gMail_file {d0 : Nat × Nat} {S S3 : gS} {x : Nat} {ad : Nat → Nat → Nat} {M D : gM} {c q t l w : Nat} (hb : mN M 11 < 24) (hc : c < mN M 6) (hz : mA M 45 (mN M 11) = nI 0) (hlen : mN D 0 ≤ 2500) (hq : gDnw S3 q (mN M 11) (ad 0 c) t l w D) (hl : gLst d0 S3 (ad 5 2) 3 (mN M 11 + 1) (fun i => if i = mN M 11 then q else ad 2 i)) (h : gMail d0 S x ad M) (F : gFr (fun k => k ≠ 3 + 32 * mN M 11 ∧ k ≠ 16 + 32 * (100 + 3 * mN M 11) ∧ k ≠ 16 + 32 * (101 + 3 * mN M 11) ∧ k ≠ 16 + 32 * (102 + 3 * mN M 11) ∧ k ≠ 97 ∧ k ≠ 115) S S3) : gTo d0 x S S3 (mDoc M c D) := by
  have hD := gDoc_new hc hz hlen hq
  obtain ⟨hr, ⟨l0, l1, l2, l3, l4⟩, ht, hcs, hps, hds, hes, hls⟩ := id h
  have hN := l1.2.2.1
  have nn : ∀ j, j < 100 → j ≠ 11 → mN (mDoc M c D) j = mN M j := fun j h1 h2 => (uN_o h2).trans (uN_o (by omega))
  have n9 : ∀ j, 100 ≤ j → j ≠ 100 + mN M 11 → mN (mDoc M c D) j = mN M j := fun j h1 h2 => (uN_o (by omega)).trans (uN_o h2)
  have ma : ∀ f j, (f ≠ 12 ∧ f ≠ 16 ∧ f ≠ 43 ∧ f ≠ 44) ∨ j ≠ mN M 11 → mA (mDoc M c D) f j = mA M f j := fun f j z => by
    show mA (uA (uA (uA (uA M 12 (mN M 11) (nI c)) 16 (mN M 11) (mA D 4 0)) 43 (mN M 11) (-1)) 44 (mN M 11) (-1)) f j = _
    rcases z with z | z
    · exact (uA_f (by omega)).trans ((uA_f (by omega)).trans ((uA_f (by omega)).trans (uA_f (by omega))))
    · exact (uA_i z).trans ((uA_i z).trans ((uA_i z).trans (uA_i z)))
  have mr : ∀ f, (f ≠ 12 ∧ f ≠ 16 ∧ f ≠ 43 ∧ f ≠ 44) → mA (mDoc M c D) f = mA M f := fun f z => funext fun j => ma f j (Or.inl z)
  have mt : ∀ f j, j ≠ mN M 11 → mT (mDoc M c D) f j = mT M f j := fun f j z => (uT_i z).trans ((uT_i z).trans (uT_i z))
  have m11 : mN (mDoc M c D) 11 = mN M 11 + 1 := rfl
  refine ⟨gAd9 ad (mN M 11) q t l w, ⟨gRoot_mono hr F (by first | omega | (dsimp only; omega)) rfl rfl (nn 2 (by omega) (by omega)) (nn 5 (by omega) (by omega)) (ma 3 0 (Or.inl (by omega))) (nn 40 (by omega) (by omega)), ⟨?_, ?_, ?_, ?_, ?_⟩, gTape_mono ht F (by first | omega | (dsimp only; omega)) (by first | omega | (dsimp only; omega)) rfl (nn 2 (by omega) (by omega)) (nn 5 (by omega) (by omega)) (mr 1 (by omega)) (mr 4 (by omega)), ?_, ?_, ?_, ?_, ?_⟩, F.mono (fun k (z : gMk k) => by unfold gMk at z; first | omega | (dsimp only; omega))⟩
  · rw [nn 6 (by omega) (by omega)]; exact gLst_mono l0 F (by first | omega | (dsimp only; omega)) (by first | omega | (dsimp only; omega)) (fun _ _ => rfl)
  · rw [nn 8 (by omega) (by omega)]; exact gLst_mono l1 F (by first | omega | (dsimp only; omega)) (by first | omega | (dsimp only; omega)) (fun _ _ => rfl)
  · show gLst d0 S3 (ad 5 2) 3 (mN M 11 + 1) (uad ad 2 (mN M 11) q 2)
    rw [uad_row]
    exact hl
  · rw [nn 17 (by omega) (by omega)]; exact gLst_mono l3 F (by first | omega | (dsimp only; omega)) (by first | omega | (dsimp only; omega)) (fun _ _ => rfl)
  · rw [nn 23 (by omega) (by omega)]; exact gLst_mono l4 F (by first | omega | (dsimp only; omega)) (by first | omega | (dsimp only; omega)) (fun _ _ => rfl)
  · rw [nn 6 (by omega) (by omega), mr 7 (by omega)]; exact fun i hi => gCase_mono (hcs i hi) F (by first | omega | (dsimp only; omega))
  · rw [nn 8 (by omega) (by omega), mr 9 (by omega), mr 41 (by omega), mr 10 (by omega), mr 42 (by omega)]; exact fun i hi => gPers_mono (hps i hi) F (by first | omega | (dsimp only; omega))
  · intro i hi
    rw [m11] at hi
    by_cases e : i = mN M 11
    · rw [e]; exact hD
    · exact gDoc_mono (hds i (by omega)) F (by first | omega | (dsimp only; omega)) (by first | omega | (dsimp only; omega)) (by first | omega | (dsimp only; omega)) (by first | omega | (dsimp only; omega)) hN (show uad ad 2 (mN M 11) q 2 i = ad 2 i from uad_i e) (show uad ad 7 (mN M 11) t 7 i = ad 7 i from uad_i e) (show uad ad 8 (mN M 11) l 8 i = ad 8 i from uad_i e) (show uad ad 9 (mN M 11) w 9 i = ad 9 i from uad_i e) (fun _ _ => rfl) (fun _ _ => rfl) (Nat.le_of_eq (nn 6 (by omega) (by omega)).symm) (Nat.le_of_eq (nn 8 (by omega) (by omega)).symm) (ma 12 i (Or.inr e)) (ma 16 i (Or.inr e)) (ma 43 i (Or.inr e)) (ma 44 i (Or.inr e)) (ma 45 i (Or.inr e)) (n9 _ (by omega) (by omega)) (mt 13 i e) (mt 14 i e) (mt 15 i e)
  · rw [nn 17 (by omega) (by omega)]
    exact fun e he => gExh_mono (hes e he) F (by first | omega | (dsimp only; omega)) (by first | omega | (dsimp only; omega)) (by first | omega | (dsimp only; omega)) (fun k hk => (by first | omega | (dsimp only; omega))) hN rfl rfl (fun k => show uad (uad (uad (uad ad 2 (mN M 11) q) 7 (mN M 11) t) 8 (mN M 11) l) 9 (mN M 11) w (20 + e) k = _ from (uad_f (by omega)).trans ((uad_f (by omega)).trans ((uad_f (by omega)).trans (uad_f (by omega))))) (fun _ _ => rfl) (fun _ _ => rfl) (Nat.le_of_eq (nn 6 (by omega) (by omega)).symm) (Nat.le_of_eq (nn 8 (by omega) (by omega)).symm) (ma 18 e (Or.inl (by omega))) (ma 19 e (Or.inl (by omega))) (ma 20 e (Or.inl (by omega))) (n9 _ (by omega) (by omega)) (fun _ _ => ma 22 _ (Or.inl (by omega)))
  · rw [nn 23 (by omega) (by omega)]
    exact fun k hk => gLtr_mono (hls k hk) F (by first | omega | (dsimp only; omega)) rfl (fun d hd => show uad ad 2 (mN M 11) q 2 d = ad 2 d from uad_i (by omega)) (fun _ _ => rfl) (by rw [m11]; omega) (Nat.le_of_eq (nn 8 (by omega) (by omega)).symm) (ma 24 k (Or.inl (by omega))) (ma 25 k (Or.inl (by omega))) (ma 26 k (Or.inl (by omega))) (ma 46 k (Or.inl (by omega))) (ma 47 k (Or.inl (by omega)))

set_option maxHeartbeats 4000000 in
set_option maxRecDepth 100000 in
theorem c_X7_file (d0 : Nat × Nat) (S : gS) (x : Nat) (ad : Nat → Nat → Nat) (M : gM) (h : gMail d0 S x ad M) (hB : gBnd M) (i : Int32) (hz : gZero M) (wt : Nat) (hw : ∀ c, c < mN M 6 → i = nI c → ¬ mN M 11 = 24 → (fOut M c).1 = nI 0 → wt = 1) : gCt d0 yX7_file cX7_file 4 (some .int) 10 (1 + 7 * wt) (6 + 8000 * wt) [.ref x, .int i] S (fun v' S' => ∃ c, c < mN M 6 ∧ i = nI c ∧ ¬ mN M 11 = 24 ∧ ((¬ (fOut M c).1 = nI 0 ∧ v' = some (.int (-(fOut M c).1)) ∧ gTo d0 x S S' (mF0 M (fOut M c).2.1)) ∨ ((fOut M c).1 = nI 0 ∧ v' = some (.int (nI (mN M 11))) ∧ gTo d0 x S S' (mFile M c)))) (fun E S' => S' = S ∧ ((E = "java/lang/IndexOutOfBoundsException" ∧ ¬ gIx (mN M 6) i) ∨ (E = "java/lang/IllegalStateException" ∧ gIx (mN M 6) i ∧ mN M 11 = 24))) := by
  refine gCt_of (lo := [some (.ref x), some (.int i), none, none]) (by decide +kernel) (Nat.le_of_ble_eq_true rfl) (rfl) ?_
  intro Γ hd G F hini
  obtain ⟨⟨r1, ⟨ra, rb, rc, rd, re⟩, rt, rtl, rp, rpl, rdr, rep, rday⟩, ⟨l0, l1, l2, l3, l4⟩, ht, hcs, hps, hds, hes, hls⟩ := id h
  subst hd
  have hb6 := hB.2.2.1
  obtain ⟨y1, y2, y3, y4, y5, y6, y7, y8⟩ := id ht
  by_cases h_c : gIx (mN M 6) i
  · obtain ⟨c, hc, rfl⟩ := gIx_of h_c (by have := l0.2.2.1; omega)
    first | refine g_aload_n G dX7_file_0 rfl ?_ | refine g_aload_nN G dX7_file_0 rfl ?_ | refine g_aload_nQ G dX7_file_0 rfl ?_
    refine g_iload_n G dX7_file_1 rfl ?_
    refine g_callVp (ci := 8) G (c_caseAt _ S x ad M h c hc) mt_X7_caseAt mi_X7_caseAt ml_X7_71 (by assumption) (by first | decide | omega) rfl (by decide) (by omega) (by omega) rfl (Nat.le_of_ble_eq_true rfl) dX7_file_2 ?_
    first | refine g_astore_n G dX7_file_5 (gSt_2 (by first | rfl | exact g_c1_rf)) ?_ | refine g_astore_nN G dX7_file_5 (gSt_2 (by first | rfl | exact g_c1_rf)) ?_ | refine g_astore_nQ G dX7_file_5 (gSt_2 (by first | rfl | exact g_c1_rf)) ?_
    first | refine g_aload_n G dX7_file_6 rfl ?_ | refine g_aload_nN G dX7_file_6 rfl ?_ | refine g_aload_nQ G dX7_file_6 rfl ?_
    refine g_ifnonnull (tgt := 20) G dX7_file_7 (by decide) ?_
    first | refine g_aload_n G dX7_file_20 rfl ?_ | refine g_aload_nN G dX7_file_20 rfl ?_ | refine g_aload_nQ G dX7_file_20 rfl ?_
    first | refine g_getR G fl_X7_19 (by assumption) (by first | decide | omega) rfl (by assumption) dX7_file_21 ?_ | refine g_getZ G fl_X7_19 (by assumption) (by first | decide | omega) rfl (by assumption) dX7_file_21 ?_ | refine g_getQ G fl_X7_19 (by assumption) (by first | decide | omega) rfl (by first | assumption | rfl) dX7_file_21 ?_
    refine g_callVp (ci := 0) G (c_Jx4a65c_size_8abf5 _ S (ad 5 2) 3 (mN M 11) (ad 2) l2) mt_Jx4a65c_size_8abf5 mi_Jx4a65c_size_8abf5 ml_X7_80 (l2.1) (by first | decide | omega) rfl (by decide) (by omega) (by omega) rfl (Nat.le_of_ble_eq_true rfl) dX7_file_24 ?_
    refine g_bipush (v := nI 24) G dX7_file_27 (by decide) ?_
    refine g_icmp_lt (tgt := 42) G dX7_file_29 (by decide) (fun c_29 => ?_) (fun c_29 => ?_)
    · have h6 : mN M 11 < 24 := (nI_ltI (a := mN M 11) (b := 24) (by omega) (by omega)).mp c_29
      first | refine g_aload_n G dX7_file_42 rfl ?_ | refine g_aload_nN G dX7_file_42 rfl ?_ | refine g_aload_nQ G dX7_file_42 rfl ?_
      refine g_getR G fl_X7_45 (r1) (by first | decide | omega) rfl (rdr.1) dX7_file_43 ?_
      first | refine g_aload_n G dX7_file_46 rfl ?_ | refine g_aload_nN G dX7_file_46 rfl ?_ | refine g_aload_nQ G dX7_file_46 rfl ?_
      first | refine g_getR G fl_X7_28 (by assumption) (by first | decide | omega) rfl (by assumption) dX7_file_47 ?_ | refine g_getZ G fl_X7_28 (by assumption) (by first | decide | omega) rfl (by assumption) dX7_file_47 ?_ | refine g_getQ G fl_X7_28 (by assumption) (by first | decide | omega) rfl (by first | assumption | rfl) dX7_file_47 ?_
      first | refine g_aload_n G dX7_file_50 rfl ?_ | refine g_aload_nN G dX7_file_50 rfl ?_ | refine g_aload_nQ G dX7_file_50 rfl ?_
      refine g_getI G fl_X7_32 (by assumption) (by first | decide | omega) rfl (by first | assumption | rfl) dX7_file_51 ?_
      first | refine g_aload_n G dX7_file_54 rfl ?_ | refine g_aload_nN G dX7_file_54 rfl ?_ | refine g_aload_nQ G dX7_file_54 rfl ?_
      first | refine g_aload_n G dX7_file_55 rfl ?_ | refine g_aload_nN G dX7_file_55 rfl ?_ | refine g_aload_nQ G dX7_file_55 rfl ?_
      refine g_callVp (ci := 8) G (c_X7_exhibitsOf _ S x ad M h c hc) mt_X7_exhibitsOf mi_X7_exhibitsOf ml_X7_86 (by assumption) (by first | decide | omega) rfl (by decide) (by omega) (by omega) rfl (Nat.le_of_ble_eq_true rfl) dX7_file_56 ?_
      refine g_callV (ci := 3) G (c_X2_take _ S ad rdr.2 (ad 6 0) y1 y2 (mN M 2) y3 (mA M 1) y4 (gOwn M c)) mt_X2_take mi_X2_take ml_X7_90 (rdr.2.1) (by first | decide | omega) rfl (by decide) (by omega) (by omega) rfl (Nat.le_of_ble_eq_true rfl) dX7_file_59 (fun v_59 S_59 hp_59 => ?_)
      obtain ⟨hQ, hF, rfl, hE, hD⟩ := hp_59
      simp only [Option.toList, List.cons_append, List.nil_append]
      change gX S_59 4 5 (ad 6 2) = (fOut M c).2.1 at hE
      change (fOut M c).1 = nI 0 → gDra S_59 ad (fOut M c).2.2 at hD
      show gW Γ 62 _ [.int (fOut M c).1] S_59 0 0
      obtain ⟨h1, G1⟩ := gMailA_dK hQ h hF
      obtain ⟨⟨s1, ⟨sa, sb, sc, sd, se⟩, st, stl, sp, spl, sdr, sep, sday⟩, sl, ⟨z1, z2, z3, z4, z5, z6, z7, z8⟩, -⟩ := id h1
      have F9 : gFr (fun k => k ≠ 9) S_59 (sX (sX S_59 9 6 x (nI 0)) 9 10 x (fOut M c).2.1) := (gFr_X _ _ _ _ _).X1 _ _ _ (fun _ z => z)
      obtain ⟨h2, G2⟩ := gMailA_root (S3 := sX (sX S_59 9 6 x (nI 0)) 9 10 x (fOut M c).2.1) (M := M) (M9 := mF0 M (fOut M c).2.1) rfl rfl rfl rfl rfl (fun j hj => uN_o (by omega)) (fun f f1 f3 f4 => funext fun j => uA_f f3) rfl ⟨s1, ⟨sa, sb, sc, sd, se⟩, st, sX_p (by decide) sX_s, sp, sX_p (by decide) (sX_p (by decide) spl), gDrf_mono sdr F9 rfl (by decide) (by decide), sX_s.trans uA_s.symm, sX_p (by decide) (sX_p (by decide) sday)⟩ ⟨z1, z2, Nat.zero_le _, fun i (hi : i < 0) => absurd hi (Nat.not_lt_zero i), z5, z6, z7, fun i hi => sX_k (by decide) (sX_k (by decide) ((z8 i hi).trans (uA_f (by omega)).symm))⟩ h1 (F9.mono (fun _ z => z.1))
      have G3 := G1.tr (K := gMk) G2 (fun _ z => ⟨z, z⟩)
      refine g_istore_n G dX7_file_62 (gSt_3 (by first | rfl | exact g_c1_rf)) ?_
      first | refine g_aload_n G dX7_file_63 rfl ?_ | refine g_aload_nN G dX7_file_63 rfl ?_ | refine g_aload_nQ G dX7_file_63 rfl ?_
      refine g_iconst (v := nI 0) G dX7_file_64 (by decide) ?_
      refine g_putI G fl_X7_32 pu_8_6 (s1) (by first | decide | omega) rfl dX7_file_65 ?_
      first | refine g_aload_n G dX7_file_68 rfl ?_ | refine g_aload_nN G dX7_file_68 rfl ?_ | refine g_aload_nQ G dX7_file_68 rfl ?_
      first | refine g_aload_n G dX7_file_69 rfl ?_ | refine g_aload_nN G dX7_file_69 rfl ?_ | refine g_aload_nQ G dX7_file_69 rfl ?_
      refine g_getR G fl_X7_45 (s1) (by first | decide | omega) rfl (sdr.1) dX7_file_70 ?_
      refine g_getI G fl_X7_94 (sdr.2.1) (by first | decide | omega) rfl (sX_k (by decide) hE) dX7_file_73 ?_
      refine g_putI G fl_X7_49 pu_8_10 (s1) (by first | decide | omega) rfl dX7_file_76 ?_
      refine g_iload_n G dX7_file_79 rfl ?_
      refine g_if_eq (tgt := 86) G dX7_file_80 (by decide) (fun c_80 => ?_) (fun c_80 => ?_)
      · have hok : (fOut M c).1 = nI 0 := c_80
        have ew := hw c hc rfl (by omega) hok
        subst ew
        obtain ⟨hr2, ⟨-, -, m2, -, -⟩, -, -, -, hds2, -⟩ := id h2
        first | refine g_aload_n G dX7_file_86 rfl ?_ | refine g_aload_nN G dX7_file_86 rfl ?_ | refine g_aload_nQ G dX7_file_86 rfl ?_
        refine g_getR G fl_X7_19 (hr2.1) (by first | decide | omega) rfl (hr2.2.1.2.2.1) dX7_file_87 ?_
        refine g_new (N := 8) (κ := 3 + 32 * mN M 11) G nw_X7_95 (by first | decide | omega) rfl (by omega) (by omega) dX7_file_90 (fun q_90 hq_90 => ?_)
        have F1 := gFr_N (S := sX (sX S_59 9 6 x (nI 0)) 9 10 x (fOut M c).2.1) (3 + 32 * mN M 11) hq_90
        have r1a := F1.K hr2.1 (by decide)
        have d1 := gDra_mono (hD hok) (F9.tr (K := fun k => k ≠ 9 ∧ k ≠ 3 + 32 * mN M 11) F1 (fun _ z => z)) (by omega) (by omega) (by omega) (by omega) (by omega)
        refine g_dup G dX7_file_93 rfl ?_
        first | refine g_aload_n G dX7_file_94 rfl ?_ | refine g_aload_nN G dX7_file_94 rfl ?_ | refine g_aload_nQ G dX7_file_94 rfl ?_
        first | refine g_aload_n G dX7_file_95 rfl ?_ | refine g_aload_nN G dX7_file_95 rfl ?_ | refine g_aload_nQ G dX7_file_95 rfl ?_
        refine g_getR G fl_X7_45 (r1a) (by first | decide | omega) rfl (F1.Y (κ := 9) (by first | omega | (dsimp only; omega)) hr2.2.2.2.2.2.2.1.1) dX7_file_96 ?_
        refine g_callI G (c_X1_init _ _ ad (fOut M c).2.2 d1 q_90 (mN M 11) (ad 0 c) (gK_N _ _ _)) mt_X1_init mi_X1_init ml_X7_97 (by decide) (by omega) (by omega) rfl (Nat.le_of_ble_eq_true rfl) dX7_file_99 (fun v_99 S_99 hp_99 => ?_)
        obtain ⟨rfl, t, l, w, hc9, F2⟩ := hp_99
        simp only [Option.toList, List.nil_append]
        have F3 := F1.tr (K := fun k => k ≠ 3 + 32 * mN M 11 ∧ k ≠ 16 + 32 * (100 + 3 * mN M 11) ∧ k ≠ 16 + 32 * (101 + 3 * mN M 11) ∧ k ≠ 16 + 32 * (102 + 3 * mN M 11)) F2 (fun k z => ⟨z.1, z⟩)
        have lb := gLst_mono m2 F3 (by first | omega | (dsimp only; omega)) (by first | omega | (dsimp only; omega)) (fun _ _ => rfl)
        refine g_callV (ci := 0) G (c_add _ _ (ad 5 2) 3 q_90 (mN M 11) (ad 2) lb (by omega) 2 RX1 (by rw [hc9.1]; omega) (fun i hi => by rw [F3.K (hds2 i hi).1 (by omega)]; omega) (by decide) rfl kco_2) mt_Jx4a65c_add_9ea2d mi_Jx4a65c_add_9ea2d ml_X7_100 (lb.1) (by first | decide | omega) rfl (by decide) (by omega) (by omega) rfl (Nat.le_of_ble_eq_true rfl) dX7_file_102 (fun v_102 S_102 hp_102 => ?_)
        obtain ⟨rfl, hl, FL⟩ := hp_102
        simp only [Option.toList, List.cons_append, List.nil_append]
        have F5 := gFr_L FL
        have F4 := F3.tr (K := (fun k => k ≠ 3 + 32 * mN M 11 ∧ k ≠ 16 + 32 * (100 + 3 * mN M 11) ∧ k ≠ 16 + 32 * (101 + 3 * mN M 11) ∧ k ≠ 16 + 32 * (102 + 3 * mN M 11) ∧ k ≠ 97 ∧ k ≠ 115)) F5 (fun k z => ⟨⟨z.1, z.2.1, z.2.2.1, z.2.2.2.1⟩, z.2.2.2.2.1, z.2.2.2.2.2⟩)
        obtain ⟨u1, u2, ⟨u3a, u4, u5⟩, ⟨u6, u7, u8, u9⟩, v1, v2, v3⟩ := hc9
        have hlen := (hD hok).2.1.2.1
        have hT := gMail_file (M := mF0 M (fOut M c).2.1) (D := (fOut M c).2.2) h6 hc (hz.2.1 _ (Nat.le_refl _)) hlen ⟨F5.K u1 (by omega), F5.Y (by first | omega | (dsimp only; omega)) u2, ⟨F5.Y (by first | omega | (dsimp only; omega)) u3a, F5.Y (by first | omega | (dsimp only; omega)) u4, F5.Y (by first | omega | (dsimp only; omega)) u5⟩, ⟨F5.X (by first | omega | (dsimp only; omega)) u6, F5.Y (by first | omega | (dsimp only; omega)) u7, F5.X (by first | omega | (dsimp only; omega)) u8, F5.X (by first | omega | (dsimp only; omega)) u9⟩, gRow1_mono v1 F5 (by first | omega | (dsimp only; omega)) (by omega), gRow1_mono v2 F5 (by first | omega | (dsimp only; omega)) (by omega), gRow1_mono v3 F5 (by first | omega | (dsimp only; omega)) (by omega)⟩ hl h2 F4
        have r1b := F4.K hr2.1 (by decide)
        refine g_pop G dX7_file_105 rfl ?_
        first | refine g_aload_n G dX7_file_106 rfl ?_ | refine g_aload_nN G dX7_file_106 rfl ?_ | refine g_aload_nQ G dX7_file_106 rfl ?_
        refine g_getR G fl_X7_19 (r1b) (by first | decide | omega) rfl (F4.Y (κ := 9) (by first | omega | (dsimp only; omega)) hr2.2.1.2.2.1) dX7_file_107 ?_
        refine g_callVp (ci := 0) G (c_Jx4a65c_size_8abf5 _ _ (ad 5 2) 3 (mN M 11 + 1) _ hl) mt_Jx4a65c_size_8abf5 mi_Jx4a65c_size_8abf5 ml_X7_80 (hl.1) (by first | decide | omega) rfl (by decide) (by omega) (by omega) rfl (Nat.le_of_ble_eq_true rfl) dX7_file_110 ?_
        refine g_iconst (v := nI 1) G dX7_file_113 (by decide) ?_
        refine g_isub G dX7_file_114 (pk_sub (by omega)) ?_
        exact g_iret G F (⟨c, hc, rfl, by omega, Or.inr ⟨hok, rfl, hT.elim fun ad2 z => ⟨ad2, z.1, G3.tr (K := gMk) z.2 (fun _ y => ⟨y, y⟩)⟩⟩⟩) (by omega) (by omega) dX7_file_115
      · have hok : ¬ (fOut M c).1 = nI 0 := c_80
        refine g_iload_n G dX7_file_83 rfl ?_
        refine g_ineg G dX7_file_84 (rfl) ?_
        exact g_iret G F (⟨c, hc, rfl, by omega, Or.inl ⟨hok, rfl, ad, h2, G3⟩⟩) (by omega) (by omega) dX7_file_85
    · have h6 : mN M 11 = 24 := by have := (nI_leI (a := 24) (b := mN M 11) (by omega) (by omega)).mp (Int32.not_lt.mp c_29); omega
      exact g_throw (names := nm_ISE) G F tf_ISE cl_X7_55 ti_ISE st_X7_84 ta_ISE dX7_file_32 (by exact dX7_file_35) (by exact dX7_file_36) (by exact dX7_file_38) (by exact dX7_file_41) (by decide) (Nat.le_of_ble_eq_true rfl) (by omega) (by omega) (⟨rfl, Or.inr ⟨rfl, h_c, h6⟩⟩)
  · have hno : ¬ (gIx (mN M 6) i) := fun z => h_c (z)
    first | refine g_aload_n G dX7_file_0 rfl ?_ | refine g_aload_nN G dX7_file_0 rfl ?_ | refine g_aload_nQ G dX7_file_0 rfl ?_
    refine g_iload_n G dX7_file_1 rfl ?_
    refine g_callVp (ci := 8) G (c_caseAt_no _ S x ad M h i (gIx_no h_c)) mt_X7_caseAt mi_X7_caseAt ml_X7_71 (by assumption) (by first | decide | omega) rfl (by decide) (by omega) (by omega) rfl (Nat.le_of_ble_eq_true rfl) dX7_file_2 ?_
    first | refine g_astore_n G dX7_file_5 (gSt_2 (by first | rfl | exact g_c1_rf)) ?_ | refine g_astore_nN G dX7_file_5 (gSt_2 (by first | rfl | exact g_c1_rf)) ?_ | refine g_astore_nQ G dX7_file_5 (gSt_2 (by first | rfl | exact g_c1_rf)) ?_
    first | refine g_aload_n G dX7_file_6 rfl ?_ | refine g_aload_nN G dX7_file_6 rfl ?_ | refine g_aload_nQ G dX7_file_6 rfl ?_
    refine g_ifnonnullN G dX7_file_7 ?_
    exact g_throw (names := nm_IOE) G F tf_IOE cl_X7_75 ti_IOE st_X7_77 ta_IOE dX7_file_10 (by exact dX7_file_13) (by exact dX7_file_14) (by exact dX7_file_16) (by exact dX7_file_19) (by decide) (Nat.le_of_ble_eq_true rfl) (by omega) (by omega) (⟨rfl, Or.inl ⟨rfl, hno⟩⟩)
