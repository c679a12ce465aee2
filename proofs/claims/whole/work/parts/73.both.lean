/-! ===== the class's heap over the reference's calls, and back ===== -/
theorem gMail_ref {d0 : Nat × Nat} {S S3 : gS} {x : Nat} {ad : Nat → Nat → Nat} {M : gM} (h : gMail d0 S x ad M) (F : gFr gCk S S3) : gMail d0 S3 x ad M := by
  obtain ⟨hr, ⟨l0, l1, l2, l3, l4⟩, ht, hcs, hps, hds, hes, hls⟩ := id h
  have hN := l1.2.2.1
  refine ⟨?_, ⟨?_, ?_, ?_, ?_, ?_⟩, ?_, ?_, ?_, ?_, ?_, ?_⟩
  · exact gRoot_mono hr F (by unfold gCk; omega) rfl rfl rfl rfl rfl rfl (k4 := by unfold gCk; omega) (k113 := by unfold gCk; omega)
  · exact gLst_mono l0 F (by unfold gCk; omega) (by unfold gCk; omega) (fun _ _ => rfl)
  · exact gLst_mono l1 F (by unfold gCk; omega) (by unfold gCk; omega) (fun _ _ => rfl)
  · exact gLst_mono l2 F (by unfold gCk; omega) (by unfold gCk; omega) (fun _ _ => rfl)
  · exact gLst_mono l3 F (by unfold gCk; omega) (by unfold gCk; omega) (fun _ _ => rfl)
  · exact gLst_mono l4 F (by unfold gCk; omega) (by unfold gCk; omega) (fun _ _ => rfl)
  · exact gTape_mono ht F (by unfold gCk; omega) (by unfold gCk; omega) rfl rfl rfl rfl rfl
  · exact fun i hi => gCase_mono (hcs i hi) F (by unfold gCk; omega)
  · exact fun i hi => gPers_mono (hps i hi) F (by unfold gCk; omega)
  · exact fun d hd => gDoc_mono (hds d hd) F (by unfold gCk; omega) (by unfold gCk; omega) (by unfold gCk; omega) (by unfold gCk; omega) hN rfl rfl rfl rfl (fun _ _ => rfl) (fun _ _ => rfl) (Nat.le_refl _) (Nat.le_refl _) rfl rfl rfl rfl rfl rfl rfl rfl rfl
  · exact fun e he => gExh_mono (hes e he) F (by unfold gCk; omega) (by unfold gCk; omega) (by unfold gCk; omega) (fun k hk => by unfold gCk; omega) hN rfl rfl (fun _ => rfl) (fun _ _ => rfl) (fun _ _ => rfl) (Nat.le_refl _) (Nat.le_refl _) rfl rfl rfl rfl (fun _ _ => rfl)
  · exact fun k hk => gLtr_mono (hls k hk) F (by unfold gCk; omega) rfl (fun _ _ => rfl) (fun _ _ => rfl) (Nat.le_refl _) (Nat.le_refl _) rfl rfl rfl rfl rfl
theorem gRef_cls {S S3 : gS} {y : Nat} {b : Nat → Nat → Nat} {M : gM} (h : gRef S y b M) (F : gFr gMk S S3) : gRef S3 y b M := gRef_mono h F (fun κ hκ => by unfold gRk at hκ; unfold gMk; omega)
