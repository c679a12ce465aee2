/-! ===== the reference: file ===== -/
section GAI
variable {Γ : gC} {own : String} {cc : ByteArray} {n mc ms pc : Nat} {lo : List (Option Value)} {st : List Value} {S : gS} {k sl : Nat}
/-- a row of ints goes into a row of rows -/
theorem g_aastI (G : gOK Γ own cc n mc ms) {a κ i v κv : Nat} (hκ : gK S a = κ) (ht : κ % 32 = 20) (hv : gK S v = κv) (hvt : κv % 32 = 17) (hi : i < gL S a) (hi31 : i < 2 ^ 31) (d : decode cc pc = .ok (.aastore, 1))
    (kk : gW Γ (pc + 1) lo st (sY S κ a i (some v)) k sl) : gW Γ pc lo (.ref v :: .int (nI i) :: .ref a :: st) S k sl := by
  obtain ⟨p, l, e1, R, s, m, args, below, meth, c, Q, A, D, cT, d0⟩ := Γ
  obtain ⟨hx, hb, hown, hts, hK, hA, hV, hRf, hRl, hRc, hRs⟩ := G
  intro H locs ls hR hS hL
  obtain ⟨ws, hP, hD, hw⟩ := hR
  have h0 : gK S a ≠ 0 := by rw [hκ]; omega
  obtain ⟨q0, he⟩ := hw.2 a h0
  rw [gEnt_q hκ (by omega), ht] at he
  have h1 : gK S v ≠ 0 := by rw [hv]; omega
  obtain ⟨q1, he1⟩ := hw.2 v h1
  rw [gEnt_i hv (by omega), hvt] at he1
  obtain ⟨kA, k1, k2⟩ := hV.2.2.2.2.2.1
  obtain ⟨-, kS, hkS, compS, hkindS⟩ := (hK.2 1 (cT 17, .int) rfl).1 0 (fun _ => .null)
  have hc9 : (nI i).toNatClampNeg = i := nI_clamp hi31
  refine W.aast hx hb (hP q0 _ he) (fun q h => by cases h) (fun h => by cases h) k1 k2 rfl hkS ⟨nI_pos hi31, by show _ < (arrV _ _ _).slots.size; rw [arrV_size, hc9]; exact hi⟩ (hP q1 _ he1) (fun q h => by cases h) hkS (va_asg _ _) rfl rfl d (fun H1 e z oq => ?_)
  refine kk H1 _ ls ⟨ws.set q0 (a, .inl (cT 20, gL S a, .inr (.inr (.inr (.inr (va_up (gY S κ a) i (some v))))))), hP.set hD he ?_ oq, hD.set he, ?_⟩ (hS.put z oq (hD.2 q0 _ he)) hL
  · show H1[a]? = some (vp_cell _ _)
    rw [e, hc9]
    rw [vp_cell_q, vp_cell_q, arrV_store]
    congr 2
    funext q
    by_cases hq : q = i
    · subst hq
      simp [updV, va_up, va_rf]
    · simp [updV, va_up, hq]
  · have h9 := hw.put (T := sY S κ a i (some v)) hD he rfl (gEnt_aY (by omega))
    rw [gEnt_q (S := sY S κ a i (some v)) hκ (by omega), ht] at h9
    rw [show gY (sY S κ a i (some v)) κ a = va_up (gY S κ a) i (some v) from u3_row _ _ _ _ _] at h9
    exact h9
end GAI
