/-! ===== the law: one call of the script ===== -/
def gCk0 (κ : Nat) : Prop := κ % 32 ≤ 9 ∨ κ % 32 = 16 ∨ κ % 32 = 19 ∨ (κ % 32 = 17 ∧ κ / 32 < 10)
theorem gMail_K {K : Nat → Prop} {d0 : Nat × Nat} {S S3 : gS} {x : Nat} {ad : Nat → Nat → Nat} {M : gM} (h : gMail d0 S x ad M) (F : gFr K S S3) (hK : ∀ κ, gCk0 κ → K κ) : gMail d0 S3 x ad M := by
  obtain ⟨hr, ⟨l0, l1, l2, l3, l4⟩, ht, hcs, hps, hds, hes, hls⟩ := id h
  have hN := l1.2.2.1
  refine ⟨?_, ⟨?_, ?_, ?_, ?_, ?_⟩, ?_, ?_, ?_, ?_, ?_, ?_⟩
  · exact gRoot_mono hr F (hK _ (by unfold gCk0; omega)) rfl rfl rfl rfl rfl rfl (k4 := hK _ (by unfold gCk0; omega)) (k113 := hK _ (by unfold gCk0; omega))
  · exact gLst_mono l0 F (hK _ (by unfold gCk0; omega)) (hK _ (by unfold gCk0; omega)) (fun _ _ => rfl)
  · exact gLst_mono l1 F (hK _ (by unfold gCk0; omega)) (hK _ (by unfold gCk0; omega)) (fun _ _ => rfl)
  · exact gLst_mono l2 F (hK _ (by unfold gCk0; omega)) (hK _ (by unfold gCk0; omega)) (fun _ _ => rfl)
  · exact gLst_mono l3 F (hK _ (by unfold gCk0; omega)) (hK _ (by unfold gCk0; omega)) (fun _ _ => rfl)
  · exact gLst_mono l4 F (hK _ (by unfold gCk0; omega)) (hK _ (by unfold gCk0; omega)) (fun _ _ => rfl)
  · exact gTape_mono ht F (hK _ (by unfold gCk0; omega)) (hK _ (by unfold gCk0; omega)) rfl rfl rfl rfl rfl
  · exact fun i hi => gCase_mono (hcs i hi) F (hK _ (by unfold gCk0; omega))
  · exact fun i hi => gPers_mono (hps i hi) F (hK _ (by unfold gCk0; omega))
  · exact fun d hd => gDoc_mono (hds d hd) F (hK _ (by unfold gCk0; omega)) (hK _ (by unfold gCk0; omega)) (hK _ (by unfold gCk0; omega)) (hK _ (by unfold gCk0; omega)) hN rfl rfl rfl rfl (fun _ _ => rfl) (fun _ _ => rfl) (Nat.le_refl _) (Nat.le_refl _) rfl rfl rfl rfl rfl rfl rfl rfl rfl
  · exact fun e he => gExh_mono (hes e he) F (hK _ (by unfold gCk0; omega)) (hK _ (by unfold gCk0; omega)) (hK _ (by unfold gCk0; omega)) (fun k hk => hK _ (by unfold gCk0; omega)) hN rfl rfl (fun _ => rfl) (fun _ _ => rfl) (fun _ _ => rfl) (Nat.le_refl _) (Nat.le_refl _) rfl rfl rfl rfl (fun _ _ => rfl)
  · exact fun k hk => gLtr_mono (hls k hk) F (hK _ (by unfold gCk0; omega)) rfl (fun _ _ => rfl) (fun _ _ => rfl) (Nat.le_refl _) (Nat.le_refl _) rfl rfl rfl rfl rfl
theorem gMail_18 {d0 : Nat × Nat} {S S3 : gS} {x : Nat} {ad : Nat → Nat → Nat} {M : gM} (h : gMail d0 S x ad M) (F : gFr (fun k => k ≠ 18) S S3) : gMail d0 S3 x ad M := gMail_K h F (fun κ z => by unfold gCk0 at z; show κ ≠ 18; omega)
theorem gMail_11 {d0 : Nat × Nat} {S S3 : gS} {x : Nat} {ad : Nat → Nat → Nat} {M : gM} (h : gMail d0 S x ad M) (F : gFr (fun k => k ≠ 11) S S3) : gMail d0 S3 x ad M := gMail_K h F (fun κ z => by unfold gCk0 at z; show κ ≠ 11; omega)
theorem gRef_18 {S S3 : gS} {y : Nat} {b : Nat → Nat → Nat} {M : gM} (h : gRef S y b M) (F : gFr (fun k => k ≠ 18) S S3) : gRef S3 y b M := gRef_mono h F (fun κ hκ => by unfold gRk at hκ; show κ ≠ 18; omega)
theorem gFr_18 {S : gS} {o : Nat} {v : Int64} : gFr (fun k => k ≠ 18) S (sZ S 18 o 0 v) := gFr_Z (fun _ z => z)
theorem gOut_Z {S S4 : gS} {o : Nat} {v : Int64} (F : gFr gCk (sZ S 18 o 0 v) S4) : gZ S4 18 o 0 = v := (congrFun (congrFun (F.2 18 (by unfold gCk; omega)).2.2 o) 0).trans (u3_same _ _ _ _ _)
theorem lg_cmp_s (x : Int64) : lg_cmp x x = 0 := by
  unfold lg_cmp
  rw [if_neg (by simp), if_pos rfl]
theorem gKey_one {cs : List (String × Int32)} {E : String} {c c' : Int32} (hn : (cs.map Prod.fst).Nodup) (h : (E, c) ∈ cs) (h2 : (E, c') ∈ cs) : c = c' := by
  induction cs with
  | nil => cases h
  | cons q cs ih =>
    rw [List.map_cons, List.nodup_cons] at hn
    rcases List.mem_cons.mp h with e | g
    · rcases List.mem_cons.mp h2 with e2 | g2
      · cases e; cases e2; rfl
      · exact absurd (List.mem_map.mpr ⟨(E, c'), g2, (show E = q.1 from congrArg Prod.fst e)⟩) hn.1
    · rcases List.mem_cons.mp h2 with e2 | g2
      · exact absurd (List.mem_map.mpr ⟨(E, c), g, (show E = q.1 from congrArg Prod.fst e2)⟩) hn.1
      · exact ih hn.2 g g2
/-- the law's loop, behind one call -/
def gNextOp (Γ : gC) (b x y o j : Nat) (M : gM) (k sl : Nat) : Prop := ∀ (S' : gS) (ad' b' : Nat → Nat → Nat) (M' : gM) (w5 w6 w7 w8 : Option Value), gMail (gD Γ) S' x ad' M' → gRef S' y b' M' → gOkM M M' → gOut S' o → gW Γ 2423 [some (.ref b), some (.ref x), some (.ref y), some (.ref o), some (.int (nI (6 * j))), w5, w6, w7, w8] [] S' (k + 720 + 7 * (mN M' 11 - mN M 11)) (sl + 7700 + 8000 * (mN M' 11 - mN M 11))
def gBlk (Γ : gC) (b L x y o pc : Nat) : Prop := ∀ (S : gS) (ad bb : Nat → Nat → Nat) (M : gM) (j k sl : Nat) (w5 w6 w7 w8 : Option Value), gMail (gD Γ) S x ad M → gRef S y bb M → gInv M → gDue M → mN M 40 ≤ 1000000 → gOut S o → 6 * j + 6 ≤ L → L ≤ 3072 → k + 727 ≤ 601024 → sl + 15700 ≤ 7293034 → gNextOp Γ b x y o j M k sl → gW Γ pc [some (.ref b), some (.ref x), some (.ref y), some (.ref o), some (.int (nI (6 * j))), w5, w6, w7, w8] [] S k sl
