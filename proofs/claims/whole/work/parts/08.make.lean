/-! ===== rows that make objects and arrays ===== -/
section GMAKE
variable {Γ : gC} {own : String} {cc : ByteArray} {n mc ms pc : Nat} {lo lo' : List (Option Value)} {st : List Value} {S : gS} {k sl : Nat}
theorem gRow_new (S : gS) (κ a : Nat) (l : List Bool) : gRow (sN S κ a) κ a 0 l = l.map (fun b => if b then Value.null else .int 0) := by
  apply List.ext_getElem?
  intro i
  rw [gRow_at, List.getElem?_map]
  congr 1
  funext b
  show (if b then va_rf (if κ = κ ∧ a = a then none else _) else Value.int (if κ = κ ∧ a = a then 0 else _)) = _
  rw [if_pos (⟨rfl, rfl⟩ : κ = κ ∧ a = a), if_pos (⟨rfl, rfl⟩ : κ = κ ∧ a = a)]
  cases b <;> rfl
theorem g_new (G : gOK Γ own cc n mc ms) {index ci κ N : Nat} (nw : gNew own index ci) (ht : κ % 32 = ci + 1 ∧ ci < 15) (hN : (gFl ci).length = N) (hk : k + 1 ≤ mc) (hsl : sl + N ≤ ms) (d : decode cc pc = .ok (.new index, 3))
    (kk : ∀ q : Nat, gK S q = 0 → gW Γ (pc + 3) lo (.ref q :: st) (sN S κ q) (k + 1) (sl + N)) : gW Γ pc lo st S k sl := by
  obtain ⟨p, l, e1, R, s, m, args, below, meth, c, Q, A, D, cT, d0⟩ := Γ
  obtain ⟨hx, hb, hown, hts, hK, hA, hV, hRf, hRl, hRc, hRs⟩ := G
  intro H locs ls hR hS hL
  obtain ⟨ws, hP, hD, hw⟩ := hR
  obtain ⟨C, T, N', ty0, hc, hN', hin, hty, h1, h2, h3, hdf⟩ := nw
  have hNN : N' = N := hN'.trans hN
  subst hNN
  refine va_new hx hb hts hin ty0 hty hown (hts _ h1) (hts _ h2) (hts _ h3) hK hP hD hS hA hc (fs := (gFl ci).map (fun b => if b then Value.null else .int 0)) hdf (by rw [hRc]; exact hk) (by rw [hRs]; exact hsl) d (fun q H1 hP1 hD1 hS1 => ?_)
  have hq := hw.fresh hD1
  refine kk q hq H1 locs ls ⟨_, hP1, hD1, ?_⟩ hS1 hL
  have h9 := hw.new (T := sN S κ q) hq (by omega : κ ≠ 0) rfl (gEnt_nN (by omega))
  rw [gEnt_o (S := sN S κ q) (va_up_self _ _ _) (by omega), gRow_new, show κ % 32 - 1 = ci by omega] at h9
  exact h9
theorem gM_x (S : gS) (κ a N : Nat) : gX (sM S κ a N) κ a = fun _ => 0 := funext fun _ => if_pos ⟨rfl, rfl⟩
theorem gM_y (S : gS) (κ a N : Nat) : gY (sM S κ a N) κ a = fun _ => none := funext fun _ => if_pos ⟨rfl, rfl⟩
theorem gM_z (S : gS) (κ a N : Nat) : gZ (sM S κ a N) κ a = fun _ => 0 := funext fun _ => if_pos ⟨rfl, rfl⟩
theorem gM_l (S : gS) (κ a N : Nat) : gL (sM S κ a N) a = N := va_up_self _ _ _
theorem gCls {D : va_G} {cT : Nat → ClassId} {s : State} {t : Nat} {cA : ClassId} (hK : va_K D vwCl (gT cT) s) (h : 16 ≤ t) (h2 : t ≤ 20) (hn : t ≠ 19) (hf : s.vm.findClass ("[" ++ (gTy t).toString) = some cA) : cA = cT t := by
  have h9 := (hK.2 _ _ (gT_i (cT := cT) h h2)).2
  have : t = 16 ∨ t = 17 ∨ t = 18 ∨ t = 20 := by omega
  rcases this with rfl | rfl | rfl | rfl <;> exact Option.some.inj (hf.symm.trans h9)
theorem g_new_int (G : gOK Γ own cc n mc ms) {κ N : Nat} {x : Int32} (ha : Cond.arrayClass .int ∈ gWords) (ht : κ % 32 = 17) (hx9 : x = nI N) (hN : N ≤ 60000) (hk : k + 1 ≤ mc) (hsl : sl + N ≤ ms) (d : decode cc pc = .ok (.newarray .int, 2))
    (kk : ∀ q : Nat, gK S q = 0 → gW Γ (pc + 2) lo (.ref q :: st) (sM S κ q N) (k + 1) (sl + N)) : gW Γ pc lo (.int x :: st) S k sl := by
  obtain ⟨p, l, e1, R, s, m, args, below, meth, c, Q, A, D, cT, d0⟩ := Γ
  obtain ⟨hx, hb, hown, hts, hK, hA, hV, hRf, hRl, hRc, hRs⟩ := G
  intro H locs ls hR hS hL
  obtain ⟨ws, hP, hD, hw⟩ := hR
  subst hx9
  refine va_newa (atype := .int) (ty := .int) (a0 := (N, .inl (fun _ => 0))) (N' := N) hx hb (hts _ ha) rfl hK hP hD hS hA (fun cA => rfl) (nI_pos (by omega)) (nI_clamp (by omega)) (by show N * _ ≤ _; simp only [componentBytes]; omega) (by rw [hRc]; exact hk) (by rw [hRs]; exact hsl) d (fun q cA H1 hK1 hP1 hD1 hS1 => ?_)
  have hcA : cA = cT 17 := gCls (t := 17) hK (by omega) (by omega) (by omega) (hK1.2 5 (cA, .int) rfl).2
  subst hcA
  have hq := hw.fresh hD1
  refine kk q hq H1 locs ls ⟨_, hP1, hD1, ?_⟩ hS1 hL
  have h9 := hw.new (T := sM S κ q N) hq (by omega : κ ≠ 0) rfl (gEnt_nM (by omega))
  rw [gEnt_i (S := sM S κ q N) (va_up_self _ _ _) (by omega), gM_x, gM_l] at h9
  first | exact h9 | (rw [ht] at h9; exact h9)
theorem g_new_byte (G : gOK Γ own cc n mc ms) {κ N : Nat} {x : Int32} (ha : Cond.arrayClass .byte ∈ gWords) (ht : κ % 32 = 16) (hx9 : x = nI N) (hN : N ≤ 60000) (hk : k + 1 ≤ mc) (hsl : sl + N ≤ ms) (d : decode cc pc = .ok (.newarray .byte, 2))
    (kk : ∀ q : Nat, gK S q = 0 → gW Γ (pc + 2) lo (.ref q :: st) (sM S κ q N) (k + 1) (sl + N)) : gW Γ pc lo (.int x :: st) S k sl := by
  obtain ⟨p, l, e1, R, s, m, args, below, meth, c, Q, A, D, cT, d0⟩ := Γ
  obtain ⟨hx, hb, hown, hts, hK, hA, hV, hRf, hRl, hRc, hRs⟩ := G
  intro H locs ls hR hS hL
  obtain ⟨ws, hP, hD, hw⟩ := hR
  subst hx9
  refine va_newa (atype := .byte) (ty := .byte) (a0 := (N, .inl (fun _ => 0))) (N' := N) hx hb (hts _ ha) rfl hK hP hD hS hA (fun cA => rfl) (nI_pos (by omega)) (nI_clamp (by omega)) (by show N * _ ≤ _; simp only [componentBytes]; omega) (by rw [hRc]; exact hk) (by rw [hRs]; exact hsl) d (fun q cA H1 hK1 hP1 hD1 hS1 => ?_)
  have hcA : cA = cT 16 := gCls (t := 16) hK (by omega) (by omega) (by omega) (hK1.2 5 (cA, .byte) rfl).2
  subst hcA
  have hq := hw.fresh hD1
  refine kk q hq H1 locs ls ⟨_, hP1, hD1, ?_⟩ hS1 hL
  have h9 := hw.new (T := sM S κ q N) hq (by omega : κ ≠ 0) rfl (gEnt_nM (by omega))
  rw [gEnt_i (S := sM S κ q N) (va_up_self _ _ _) (by omega), gM_x, gM_l] at h9
  first | exact h9 | (rw [ht] at h9; exact h9)
theorem g_new_long (G : gOK Γ own cc n mc ms) {κ N : Nat} {x : Int32} (ha : Cond.arrayClass .long ∈ gWords) (ht : κ % 32 = 18) (hx9 : x = nI N) (hN : N ≤ 60000) (hk : k + 1 ≤ mc) (hsl : sl + N ≤ ms) (d : decode cc pc = .ok (.newarray .long, 2))
    (kk : ∀ q : Nat, gK S q = 0 → gW Γ (pc + 2) lo (.ref q :: st) (sM S κ q N) (k + 1) (sl + N)) : gW Γ pc lo (.int x :: st) S k sl := by
  obtain ⟨p, l, e1, R, s, m, args, below, meth, c, Q, A, D, cT, d0⟩ := Γ
  obtain ⟨hx, hb, hown, hts, hK, hA, hV, hRf, hRl, hRc, hRs⟩ := G
  intro H locs ls hR hS hL
  obtain ⟨ws, hP, hD, hw⟩ := hR
  subst hx9
  refine va_newa (atype := .long) (ty := .long) (a0 := (N, .inr (.inl (fun _ => 0)))) (N' := N) hx hb (hts _ ha) rfl hK hP hD hS hA (fun cA => rfl) (nI_pos (by omega)) (nI_clamp (by omega)) (by show N * _ ≤ _; simp only [componentBytes]; omega) (by rw [hRc]; exact hk) (by rw [hRs]; exact hsl) d (fun q cA H1 hK1 hP1 hD1 hS1 => ?_)
  have hcA : cA = cT 18 := gCls (t := 18) hK (by omega) (by omega) (by omega) (hK1.2 5 (cA, .long) rfl).2
  subst hcA
  have hq := hw.fresh hD1
  refine kk q hq H1 locs ls ⟨_, hP1, hD1, ?_⟩ hS1 hL
  have h9 := hw.new (T := sM S κ q N) hq (by omega : κ ≠ 0) rfl (gEnt_nM (by omega))
  rw [gEnt_l (S := sM S κ q N) (va_up_self _ _ _) (by omega), gM_z, gM_l] at h9
  first | exact h9 | (rw [ht] at h9; exact h9)
theorem g_new_obj (G : gOK Γ own cc n mc ms) {index κ N : Nat} {x : Int32} (hc : Cond.classLink own index "java/lang/Object" ∈ gWords) (ht : κ % 32 = 19) (hx9 : x = nI N) (hN : N ≤ 60000) (hk : k + 1 ≤ mc) (hsl : sl + N ≤ ms) (d : decode cc pc = .ok (.anewarray index, 3))
    (kk : ∀ q : Nat, gK S q = 0 → gW Γ (pc + 3) lo (.ref q :: st) (sM S κ q N) (k + 1) (sl + N)) : gW Γ pc lo (.int x :: st) S k sl := by
  obtain ⟨p, l, e1, R, s, m, args, below, meth, c, Q, A, D, cT, d0⟩ := Γ
  obtain ⟨hx, hb, hown, hts, hK, hA, hV, hRf, hRl, hRc, hRs⟩ := G
  intro H locs ls hR hS hL
  obtain ⟨ws, hP, hD, hw⟩ := hR
  subst hx9
  refine va_newq (N' := N) hx hb hown (hts _ hc) hV.2.2.2.1 hK hP hD hS hA (nI_pos (by omega)) (nI_clamp (by omega)) (by omega) (by rw [hRc]; exact hk) (by rw [hRs]; exact hsl) d (fun q cA H1 hK1 hP1 hD1 hS1 => ?_)
  have hcA : cA = cT 19 := by
    obtain ⟨-, -, -, -, -, h1⟩ := (hK1.2 5 (cA, .object "java/lang/Object") rfl).2
    obtain ⟨-, -, -, -, -, h2⟩ := (hK.2 3 (cT 19, .object "java/lang/Object") rfl).2
    exact Option.some.inj (h1.symm.trans h2)
  subst hcA
  have hq := hw.fresh hD1
  refine kk q hq H1 locs ls ⟨_, hP1, hD1, ?_⟩ hS1 hL
  have h9 := hw.new (T := sM S κ q N) hq (by omega : κ ≠ 0) rfl (gEnt_nM (by omega))
  rw [gEnt_q (S := sM S κ q N) (va_up_self _ _ _) (by omega), gM_y, gM_l, ht] at h9
  exact h9
theorem g_new_ii (G : gOK Γ own cc n mc ms) {index κ N : Nat} {x : Int32} (hc : Cond.classLink own index "[I" ∈ gWords) (ht : κ % 32 = 20) (hx9 : x = nI N) (hN : N ≤ 60000) (hk : k + 1 ≤ mc) (hsl : sl + N ≤ ms) (d : decode cc pc = .ok (.anewarray index, 3))
    (kk : ∀ q : Nat, gK S q = 0 → gW Γ (pc + 3) lo (.ref q :: st) (sM S κ q N) (k + 1) (sl + N)) : gW Γ pc lo (.int x :: st) S k sl := by
  obtain ⟨p, l, e1, R, s, m, args, below, meth, c, Q, A, D, cT, d0⟩ := Γ
  obtain ⟨hx, hb, hown, hts, hK, hA, hV, hRf, hRl, hRc, hRs⟩ := G
  intro H locs ls hR hS hL
  obtain ⟨ws, hP, hD, hw⟩ := hR
  subst hx9
  have hc9 : (nI N).toNatClampNeg = N := nI_clamp (by omega)
  refine W.anewA (t := .int) hx hb hown (hts _ hc) (over_moved (Vm.Alike.refl s.vm) hV.2.2.2.2.1) rfl d rfl (nI_pos (by omega)) (by rw [hc9]; omega) (by rw [hRc]; exact hk) (by rw [hRs, hc9]; exact hsl) (fun cA kA comp f1 f2 f3 f4 => ?_)
  rw [hc9]
  have hcA : cA = cT 20 := gCls (t := 20) hK (by omega) (by omega) (by omega) f1
  subst hcA
  generalize hH1 : H.push ({ cls := cT 20, slots := Array.replicate N .null, vm := .none } : Cell) = H1
  have z1 : H1.size = H.size + 1 := by rw [← hH1, Array.size_push]
  have e1 : H1[H.size]? = some (arrV (cT 20) N (fun _ => .null)) := by rw [← hH1, Array.getElem?_push_size, ← arrV_new]
  have o1 : ∀ q : Nat, q < H.size → H1[q]? = H[q]? := fun q hq => by rw [← hH1, Array.getElem?_push, if_neg (Nat.ne_of_lt hq)]
  have hk9 : ∀ (k : Nat) (x : Nat × va_E), ws[k]? = some x → H1[x.1]? = H[x.1]? := fun k x hx => o1 x.1 ((hP k x hx).lt)
  have hD1 : va_D A (ws ++ [(H.size, .inl (cT 20, N, .inr (.inr (.inr (.inr (fun _ => none))))))]) := hD.push hP rfl (hA _ hS.1)
  have hq := hw.fresh hD1
  refine kk H.size hq H1 locs ls ⟨_, (hP.kept hk9).app (fun k x hx => ?_), hD1, ?_⟩ ⟨Nat.le_trans hS.1 (by omega), fun x h1 h2 => (o1 x (Nat.lt_of_lt_of_le h1 hS.1)).trans (hS.2.1 x h1 h2), hS.2.2⟩ hL
  · have hz : k < 1 := (List.getElem?_eq_some_iff.mp hx).1
    rw [show k = 0 by omega] at hx
    cases hx
    show H1[H.size]? = some (vp_cell _ _)
    rw [vp_cell_q]
    exact e1
  · have h9 := hw.new (T := sM S κ H.size N) hq (by omega : κ ≠ 0) rfl (gEnt_nM (by omega))
    rw [gEnt_q (S := sM S κ H.size N) (va_up_self _ _ _) (by omega), gM_y, gM_l, ht] at h9
    exact h9
end GMAKE
