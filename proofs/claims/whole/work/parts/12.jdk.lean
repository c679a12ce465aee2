/-! ===== rows of single JDK members ===== -/
theorem km_init : Cond.initialized "java/lang/Math" ∈ gWords := (mt_J9_min_7cf53).2.1
theorem kmin_s : Cond.static Lib.Math.min.name ∈ gWords := ms_J9_min_7cf53
theorem kmax_s : Cond.static Lib.Math.max.name ∈ gWords := ms_J9_max_7cf53
theorem kmin_c : Cond.code Lib.Math.min.name Lib.Math.min.code 2 (some .int) ∈ gWords := g_t 267 (by decide +kernel) (by decide +kernel)
theorem kmax_c : Cond.code Lib.Math.max.name Lib.Math.max.code 2 (some .int) ∈ gWords := g_t 305 (by decide +kernel) (by decide +kernel)
section GJDK
variable {Γ : gC} {own : String} {cc : ByteArray} {n mc ms pc : Nat} {lo lo' : List (Option Value)} {st rest : List Value} {S : gS} {k sl : Nat}
theorem g_mmin (G : gOK Γ own cc n mc ms) {index : Nat} {x y z : Int32} (ml : Cond.methodLink own index Lib.Math.min.name ∈ gWords) (hn : 1 ≤ n) (hk : k ≤ mc) (hsl : sl ≤ ms) (hcat : (st.map fun v => v.category).sum ≤ 8) (hz : (if y < x then y else x) = z) (d : decode cc pc = .ok (.invokestatic index, 3))
    (kk : gW Γ (pc + 3) lo (.int z :: st) S k sl) : gW Γ pc lo (.int y :: .int x :: st) S k sl := by
  obtain ⟨p, l, e1, R, s, m, args, below, meth, c, Q, A, D, cT, d0⟩ := Γ
  obtain ⟨hx, hb, hown, hts, hK, hA, hV, hRf, hRl, hRc, hRs⟩ := G
  intro H locs ls hR hS hL
  subst hz
  exact va_mmin hx hb hL.1.symm hown (hts _ ml) (hts _ kmin_s) (hts _ km_init) (hts _ kmin_c) (by rw [hRf.1]; exact hn) (by rw [hRl]; omega) (by rw [hRc]; exact hk) (by rw [hRs]; exact hsl) d (kk H locs ls hR hS hL)
theorem g_mmax (G : gOK Γ own cc n mc ms) {index : Nat} {x y z : Int32} (ml : Cond.methodLink own index Lib.Math.max.name ∈ gWords) (hn : 1 ≤ n) (hk : k ≤ mc) (hsl : sl ≤ ms) (hcat : (st.map fun v => v.category).sum ≤ 8) (hz : (if x < y then y else x) = z) (d : decode cc pc = .ok (.invokestatic index, 3))
    (kk : gW Γ (pc + 3) lo (.int z :: st) S k sl) : gW Γ pc lo (.int y :: .int x :: st) S k sl := by
  obtain ⟨p, l, e1, R, s, m, args, below, meth, c, Q, A, D, cT, d0⟩ := Γ
  obtain ⟨hx, hb, hown, hts, hK, hA, hV, hRf, hRl, hRc, hRs⟩ := G
  intro H locs ls hR hS hL
  subst hz
  exact va_mmax hx hb hL.1.symm hown (hts _ ml) (hts _ kmax_s) (hts _ km_init) (hts _ kmax_c) (by rw [hRf.1]; exact hn) (by rw [hRl]; omega) (by rw [hRc]; exact hk) (by rw [hRs]; exact hsl) d (kk H locs ls hR hS hL)
theorem g_cast (G : gOK Γ own cc n mc ms) {index ci κ a : Nat} {nm : String} (hκ : gK S a = κ) (ht : κ % 32 = ci + 1 ∧ ci < 15) (hc : vwCl[ci]?.map (fun q => q.1) = some nm) (hcl : Cond.classLink own index nm ∈ gWords) (d : decode cc pc = .ok (.checkcast index, 3)) (kk : gW Γ (pc + 3) lo (.ref a :: st) S k sl) : gW Γ pc lo (.ref a :: st) S k sl := by
  obtain ⟨p, l, e1, R, s, m, args, below, meth, c, Q, A, D, cT, d0⟩ := Γ
  obtain ⟨hx, hb, hown, hts, hK, hA, hV, hRf, hRl, hRc, hRs⟩ := G
  intro H locs ls hR hS hL
  obtain ⟨ws, hP, hD, hw⟩ := hR
  have h0 : gK S a ≠ 0 := by rw [hκ]; omega
  obtain ⟨q0, he⟩ := hw.2 a h0
  rw [gEnt_o hκ (by omega), show κ % 32 - 1 = ci by omega] at he
  obtain ⟨r, hr, hr2⟩ := Option.map_eq_some_iff.mp hc
  have hv : ∃ cell : Cell, H[a]? = some cell ∧ cell.vm.isStatics = false ∧ s.vm.findClass nm = some cell.cls := by rw [← hr2]; exact va_recv hK hP hr he
  have hat : ClassAt s nm (D.1 ci) := by rw [← hr2]; exact (hK.1 ci r hr).2
  exact va_castS hx hb hown (hts _ hcl) hat hv d (kk H locs ls ⟨ws, hP, hD, hw⟩ hS hL)
/-- the static empty array -/
theorem g_getsD (G : gOK Γ "java/util/ArrayList" cc n mc ms) {index : Nat} (hl : Cond.fieldLink "java/util/ArrayList" index "java/util/ArrayList" "DEFAULTCAPACITY_EMPTY_ELEMENTDATA" "[Ljava/lang/Object;" ∈ gWords) (d : decode cc pc = .ok (.getstatic index, 3)) (kk : gW Γ (pc + 3) lo (.ref (gD Γ).1 :: st) S k sl) : gW Γ pc lo st S k sl := by
  obtain ⟨p, l, e1, R, s, m, args, below, meth, c, Q, A, D, cT, d0⟩ := Γ
  obtain ⟨hx, hb, hown, hts, hK, hA, hV, hRf, hRl, hRc, hRs⟩ := G
  intro H locs ls hR hS hL
  exact va_gets hx hb hV.1.2.2.1 hS hown (hts _ hl) (fun _ h => h) d (kk H locs ls hR hS hL)
theorem g_alenD (G : gOK Γ own cc n mc ms) (d : decode cc pc = .ok (.arraylength, 1)) (kk : gW Γ (pc + 1) lo (.int (nI 0) :: st) S k sl) : gW Γ pc lo (.ref (gD Γ).1 :: st) S k sl := by
  obtain ⟨p, l, e1, R, s, m, args, below, meth, c, Q, A, D, cT, d0⟩ := Γ
  obtain ⟨hx, hb, hown, hts, hK, hA, hV, hRf, hRl, hRc, hRs⟩ := G
  intro H locs ls hR hS hL
  exact va_tlen hx hb hV.1.2.2.2 hS rfl d (kk H locs ls hR hS hL)
/-- an owned address isn't the static array's -/
theorem gD_ne (G : gOK Γ own cc n mc ms) {q : Nat} (kk : q ≠ (gD Γ).1 → gW Γ pc lo st S k sl) (hq : gK S q ≠ 0) : gW Γ pc lo st S k sl := by
  obtain ⟨p, l, e1, R, s, m, args, below, meth, c, Q, A, D, cT, d0⟩ := Γ
  obtain ⟨hx, hb, hown, hts, hK, hA, hV, hRf, hRl, hRc, hRs⟩ := G
  intro H locs ls hR hS hL
  refine kk ?_ H locs ls hR hS hL
  obtain ⟨ws, hP, hD, hw⟩ := hR
  obtain ⟨q0, he⟩ := hw.2 q hq
  have hAq : A q := hD.2 q0 _ he
  obtain ⟨cell, -, -, -, -, -, -, hn⟩ := hV.1.2.2.2
  intro h
  exact hn (h ▸ hAq)
/-- an object of a class of ours goes into a row of Objects -/
theorem g_aastO (G : gOK Γ own cc n mc ms) {a κ i v κv ci : Nat} {C : String} (hκ : gK S a = κ) (ht : κ % 32 = 19) (hv : gK S v = κv) (hvt : κv % 32 = ci + 1 ∧ ci < 15) (hc : vwCl[ci]?.map (fun q => q.1) = some C) (hca : Cond.castable C "java/lang/Object" ∈ tables_1) (hi : i < gL S a) (hi31 : i < 2 ^ 31) (d : decode cc pc = .ok (.aastore, 1))
    (kk : gW Γ (pc + 1) lo st (sY S κ a i (some v)) k sl) : gW Γ pc lo (.ref v :: .int (nI i) :: .ref a :: st) S k sl := by
  obtain ⟨p, l, e1, R, s, m, args, below, meth, c, Q, A, D, cT, d0⟩ := Γ
  obtain ⟨hx, hb, hown, hts, hK, hA, hV, hRf, hRl, hRc, hRs⟩ := G
  intro H locs ls hR hS hL
  obtain ⟨ws, hP, hD, hw⟩ := hR
  have h0 : gK S a ≠ 0 := by rw [hκ]; omega
  obtain ⟨q0, he⟩ := hw.2 a h0
  rw [gEnt_q hκ (by omega), ht] at he
  have h1 : gK S v ≠ 0 := by rw [hv]; omega
  obtain ⟨q1, he1⟩ := hw.2 v h1
  rw [gEnt_o hv (by omega), show κv % 32 - 1 = ci by omega] at he1
  obtain ⟨r, hr, hr2⟩ := Option.map_eq_some_iff.mp hc
  refine va_astqO hx hb hK hP hD hS q0 3 q1 ci he (gT_i (t := 19) (by omega) (by omega)) (by rw [hr2]; exact hV.2.2.1 _ hca rfl) he1 hr (i := nI i) (nI_in2 hi hi31) d (fun H1 locs1 hP1 hD1 hS1 => kk H1 locs1 ls ⟨_, hP1, hD1, ?_⟩ hS1 hL)
  have h9 := hw.put (T := sY S κ a i (some v)) hD he rfl (gEnt_aY (by omega))
  rw [gEnt_q (S := sY S κ a i (some v)) hκ (by omega), ht] at h9
  rw [nI_clamp hi31]
  rw [show gY (sY S κ a i (some v)) κ a = va_up (gY S κ a) i (some v) from u3_row _ _ _ _ _] at h9
  exact h9
end GJDK
