/-! ===== rows that read and write the store ===== -/
theorem gRow_setI {S : gS} {κ f a : Nat} {v : Int32} : ∀ (l : List Bool), l[f]? = some false → gRow (sX S κ f a v) κ a 0 l = (gRow S κ a 0 l).set f (.int v) := by
  intro l hl
  have hlen : f < l.length := (List.getElem?_eq_some_iff.mp hl).1
  apply List.ext_getElem?
  intro i
  rw [gRow_at]
  by_cases hi : i = f
  · subst hi
    rw [List.getElem?_set_self (by rw [gRow_len]; exact hlen), hl]
    simp only [Option.map_some, Nat.zero_add]
    show some (Value.int (u3 S.2.2.1 κ i a v κ i a)) = _
    rw [u3_same]
  · rw [List.getElem?_set_ne (fun z => hi z.symm), gRow_at]
    simp only [Nat.zero_add]
    show Option.map (fun b => if b = true then va_rf (gY S κ i a) else Value.int (u3 S.2.2.1 κ f a v κ i a)) l[i]? = _
    rw [u3_p _ _ hi]
theorem gRow_setQ {S : gS} {κ f a : Nat} {v : Option Nat} : ∀ (l : List Bool), l[f]? = some true → gRow (sY S κ f a v) κ a 0 l = (gRow S κ a 0 l).set f (va_rf v) := by
  intro l hl
  have hlen : f < l.length := (List.getElem?_eq_some_iff.mp hl).1
  apply List.ext_getElem?
  intro i
  rw [gRow_at]
  by_cases hi : i = f
  · subst hi
    rw [List.getElem?_set_self (by rw [gRow_len]; exact hlen), hl]
    simp only [Option.map_some, Nat.zero_add]
    show some (va_rf (u3 S.2.2.2.1 κ i a v κ i a)) = _
    rw [u3_same]
  · rw [List.getElem?_set_ne (fun z => hi z.symm), gRow_at]
    simp only [Nat.zero_add]
    show Option.map (fun b => if b = true then va_rf (u3 S.2.2.2.1 κ f a v κ i a) else Value.int (gX S κ i a)) l[i]? = _
    rw [u3_p _ _ hi]
theorem gEnt_oX {cT : Nat → ClassId} {S : gS} {κ f a : Nat} {v : Int32} (hκ : κ % 32 < 16) : ∀ b, b ≠ a → gK S b ≠ 0 → gEnt cT (sX S κ f a v) b = gEnt cT S b := fun b hb _ =>
  gEnt_eq rfl (fun _ => rfl) (fun j _ => u3_q _ _ hb) (fun _ _ => rfl) (fun h => funext fun j => u3_k _ _ (fun z => by rw [z] at h; omega)) (fun _ => rfl) (fun _ => rfl)
theorem gEnt_oY {cT : Nat → ClassId} {S : gS} {κ f a : Nat} {v : Option Nat} (hκ : κ % 32 < 16) : ∀ b, b ≠ a → gK S b ≠ 0 → gEnt cT (sY S κ f a v) b = gEnt cT S b := fun b hb _ =>
  gEnt_eq rfl (fun _ => rfl) (fun _ _ => rfl) (fun j _ => u3_q _ _ hb) (fun _ => rfl) (fun h => funext fun j => u3_k _ _ (fun z => by rw [z] at h; omega)) (fun _ => rfl)
theorem gEnt_aX {cT : Nat → ClassId} {S : gS} {κ i a : Nat} {v : Int32} (hκ : 16 ≤ κ % 32) : ∀ b, b ≠ a → gK S b ≠ 0 → gEnt cT (sX S κ a i v) b = gEnt cT S b := fun b hb _ =>
  gEnt_eq rfl (fun _ => rfl) (fun j h => u3_k _ _ (fun z => by rw [z] at h; omega)) (fun _ _ => rfl) (fun _ => funext fun j => u3_p _ _ hb) (fun _ => rfl) (fun _ => rfl)
theorem gEnt_aY {cT : Nat → ClassId} {S : gS} {κ i a : Nat} {v : Option Nat} (hκ : 16 ≤ κ % 32) : ∀ b, b ≠ a → gK S b ≠ 0 → gEnt cT (sY S κ a i v) b = gEnt cT S b := fun b hb _ =>
  gEnt_eq rfl (fun _ => rfl) (fun _ _ => rfl) (fun j h => u3_k _ _ (fun z => by rw [z] at h; omega)) (fun _ => rfl) (fun _ => funext fun j => u3_p _ _ hb) (fun _ => rfl)
theorem gEnt_aZ {cT : Nat → ClassId} {S : gS} {κ i a : Nat} {v : Int64} : ∀ b, b ≠ a → gK S b ≠ 0 → gEnt cT (sZ S κ a i v) b = gEnt cT S b := fun b hb _ =>
  gEnt_eq rfl (fun _ => rfl) (fun _ _ => rfl) (fun _ _ => rfl) (fun _ => rfl) (fun _ => rfl) (fun _ => funext fun j => u3_p _ _ hb)
theorem gEnt_aXr {cT : Nat → ClassId} {S : gS} {κ a : Nat} {v : Nat → Int32} (hκ : 16 ≤ κ % 32) : ∀ b, b ≠ a → gK S b ≠ 0 → gEnt cT (sXr S κ a v) b = gEnt cT S b := fun b hb _ =>
  gEnt_eq rfl (fun _ => rfl) (fun j h => u2_k _ _ (fun z => by rw [z] at h; omega)) (fun _ _ => rfl) (fun _ => funext fun j => u2_p _ _ hb) (fun _ => rfl) (fun _ => rfl)
theorem gEnt_aYr {cT : Nat → ClassId} {S : gS} {κ a : Nat} {v : Nat → Option Nat} (hκ : 16 ≤ κ % 32) : ∀ b, b ≠ a → gK S b ≠ 0 → gEnt cT (sYr S κ a v) b = gEnt cT S b := fun b hb _ =>
  gEnt_eq rfl (fun _ => rfl) (fun _ _ => rfl) (fun j h => u2_k _ _ (fun z => by rw [z] at h; omega)) (fun _ => rfl) (fun _ => funext fun j => u2_p _ _ hb) (fun _ => rfl)
theorem gEnt_nN {cT : Nat → ClassId} {S : gS} {κ a : Nat} (hκ : κ % 32 < 16) : ∀ b, b ≠ a → gK S b ≠ 0 → gEnt cT (sN S κ a) b = gEnt cT S b := fun b hb _ =>
  gEnt_eq (va_up_ne _ _ hb) (fun _ => rfl) (fun j _ => if_neg (fun z => hb z.2)) (fun j _ => if_neg (fun z => hb z.2)) (fun h => funext fun j => if_neg (fun z => by rw [z.1] at h; omega)) (fun h => funext fun j => if_neg (fun z => by rw [z.1] at h; omega)) (fun _ => rfl)
theorem gEnt_nM {cT : Nat → ClassId} {S : gS} {κ a N : Nat} (hκ : 16 ≤ κ % 32) : ∀ b, b ≠ a → gK S b ≠ 0 → gEnt cT (sM S κ a N) b = gEnt cT S b := fun b hb _ =>
  gEnt_eq (va_up_ne _ _ hb) (fun _ => va_up_ne _ _ hb) (fun j h => if_neg (fun z => by rw [z.1] at h; omega)) (fun j h => if_neg (fun z => by rw [z.1] at h; omega)) (fun _ => funext fun j => if_neg (fun z => hb z.2)) (fun _ => funext fun j => if_neg (fun z => hb z.2)) (fun _ => funext fun j => if_neg (fun z => hb z.2))
def gInit (Γ : gC) : Prop := match Γ with
  | (_, _, _, _, _, _, _, _, meth, _, _, _, _, _, _) => meth.name = "<init>"
theorem nI_in2 {c N : Nat} (h : c < N) (hc : c < 2 ^ 31) : vp_in (nI c) N := fun z => z.elim (nI_pos hc) (fun q => by rw [nI_clamp hc] at q; omega)
section GHEAP
variable {Γ : gC} {own : String} {cc : ByteArray} {n mc ms pc : Nat} {lo lo' : List (Option Value)} {st : List Value} {S : gS} {k sl : Nat}
theorem gSame {s : State} {args : Array Value} (hts : ∀ w ∈ gWords, w.before args s = true) {ref : String} {q : String × String × String × Bool} (h : ref = q.1 ∨ Cond.sameField ref q.1 q.2.1 q.2.2.1 ∈ gWords) : ∀ x, s.fieldFound? q.1 q.2.1 q.2.2.1 = some x → s.fieldFound? ref q.2.1 q.2.2.1 = some x := by
  intro x hx
  rcases h with h | h
  · rw [h]; exact hx
  · exact u_same (hts _ h) x hx
theorem g_getf (G : gOK Γ own cc n mc ms) {index ci f a κ : Nat} {v : Value} (fl : gFld own index ci f) (hκ : gK S a = κ) (ht : κ % 32 = ci + 1 ∧ ci < 15) (hv : (gFl ci)[f]?.map (fun b => if b then va_rf (gY S κ f a) else .int (gX S κ f a)) = some v) (d : decode cc pc = .ok (.getfield index, 3)) (kk : gW Γ (pc + 3) lo (v :: st) S k sl) : gW Γ pc lo (.ref a :: st) S k sl := by
  obtain ⟨p, l, e1, R, s, m, args, below, meth, c, Q, A, D, cT, d0⟩ := Γ
  obtain ⟨hx, hb, hown, hts, hK, hA, hV, hRf, hRl, hRc, hRs⟩ := G
  intro H locs ls hR hS hL
  obtain ⟨ws, hP, hD, hw⟩ := hR
  have h0 : gK S a ≠ 0 := by rw [hκ]; omega
  obtain ⟨q0, he⟩ := hw.2 a h0
  rw [gEnt_o hκ (by omega), show κ % 32 - 1 = ci by omega] at he
  obtain ⟨C, T, N, ref, hc, hf, hin, hlink, hsame⟩ := fl
  exact va_get hx hb hts hin hown hK hP q0 he hc f hf (hts _ hlink) (gSame hts hsame) (by rw [gRow_at]; simpa using hv) d (kk H locs ls ⟨ws, hP, hD, hw⟩ hS hL)
theorem g_getI (G : gOK Γ own cc n mc ms) {index ci f a κ : Nat} {v : Int32} (fl : gFld own index ci f) (hκ : gK S a = κ) (ht : κ % 32 = ci + 1 ∧ ci < 15) (hb9 : (gFl ci)[f]? = some false) (hv : gX S κ f a = v) (d : decode cc pc = .ok (.getfield index, 3)) (kk : gW Γ (pc + 3) lo (.int v :: st) S k sl) : gW Γ pc lo (.ref a :: st) S k sl :=
  g_getf G fl hκ ht (by rw [hb9, ← hv]; rfl) d kk
theorem g_getQ (G : gOK Γ own cc n mc ms) {index ci f a κ : Nat} {v : Option Nat} (fl : gFld own index ci f) (hκ : gK S a = κ) (ht : κ % 32 = ci + 1 ∧ ci < 15) (hb9 : (gFl ci)[f]? = some true) (hv : gY S κ f a = v) (d : decode cc pc = .ok (.getfield index, 3)) (kk : gW Γ (pc + 3) lo (va_rf v :: st) S k sl) : gW Γ pc lo (.ref a :: st) S k sl :=
  g_getf G fl hκ ht (by rw [hb9, ← hv]; rfl) d kk
theorem g_getR (G : gOK Γ own cc n mc ms) {index ci f a κ : Nat} {v : Nat} (fl : gFld own index ci f) (hκ : gK S a = κ) (ht : κ % 32 = ci + 1 ∧ ci < 15) (hb9 : (gFl ci)[f]? = some true) (hv : gY S κ f a = some v) (d : decode cc pc = .ok (.getfield index, 3)) (kk : gW Γ (pc + 3) lo (.ref v :: st) S k sl) : gW Γ pc lo (.ref a :: st) S k sl :=
  g_getf G fl hκ ht (by rw [hb9, Option.map_some, if_pos rfl, hv]; rfl) d kk
theorem g_getZ (G : gOK Γ own cc n mc ms) {index ci f a κ : Nat}  (fl : gFld own index ci f) (hκ : gK S a = κ) (ht : κ % 32 = ci + 1 ∧ ci < 15) (hb9 : (gFl ci)[f]? = some true) (hv : gY S κ f a = none) (d : decode cc pc = .ok (.getfield index, 3)) (kk : gW Γ (pc + 3) lo (.null :: st) S k sl) : gW Γ pc lo (.ref a :: st) S k sl :=
  g_getf G fl hκ ht (by rw [hb9, Option.map_some, if_pos rfl, hv]; rfl) d kk
theorem g_getfN (G : gOK Γ own cc n mc ms) {index ci f a κ : Nat} {host : String} {v : Value} (fl : gFldN own index ci f host) (hκ : gK S a = κ) (ht : κ % 32 = ci + 1 ∧ ci < 15) (hv : (gFl ci)[f]?.map (fun b => if b then va_rf (gY S κ f a) else .int (gX S κ f a)) = some v) (d : decode cc pc = .ok (.getfield index, 3)) (kk : gW Γ (pc + 3) lo (v :: st) S k sl) : gW Γ pc lo (.ref a :: st) S k sl := by
  obtain ⟨p, l, e1, R, s, m, args, below, meth, c, Q, A, D, cT, d0⟩ := Γ
  obtain ⟨hx, hb, hown, hts, hK, hA, hV, hRf, hRl, hRc, hRs⟩ := G
  intro H locs ls hR hS hL
  obtain ⟨ws, hP, hD, hw⟩ := hR
  have h0 : gK S a ≠ 0 := by rw [hκ]; omega
  obtain ⟨q0, he⟩ := hw.2 a h0
  rw [gEnt_o hκ (by omega), show κ % 32 - 1 = ci by omega] at he
  obtain ⟨C, T, N, hc, hf, hin, hlink⟩ := fl
  exact va_getN hx hb hts hin hown hK hP q0 he hc f hf (va_Nw.use rfl (hV.2.2.1 _ hlink rfl)) (fun _ h9 => h9) (by rw [gRow_at]; simpa using hv) d (kk H locs ls ⟨ws, hP, hD, hw⟩ hS hL)
theorem g_getIN (G : gOK Γ own cc n mc ms) {index ci f a κ : Nat} {host : String} {v : Int32} (fl : gFldN own index ci f host) (hκ : gK S a = κ) (ht : κ % 32 = ci + 1 ∧ ci < 15) (hb9 : (gFl ci)[f]? = some false) (hv : gX S κ f a = v) (d : decode cc pc = .ok (.getfield index, 3)) (kk : gW Γ (pc + 3) lo (.int v :: st) S k sl) : gW Γ pc lo (.ref a :: st) S k sl :=
  g_getfN G fl hκ ht (by rw [hb9, ← hv]; rfl) d kk
theorem g_getQN (G : gOK Γ own cc n mc ms) {index ci f a κ : Nat} {host : String} {v : Option Nat} (fl : gFldN own index ci f host) (hκ : gK S a = κ) (ht : κ % 32 = ci + 1 ∧ ci < 15) (hb9 : (gFl ci)[f]? = some true) (hv : gY S κ f a = v) (d : decode cc pc = .ok (.getfield index, 3)) (kk : gW Γ (pc + 3) lo (va_rf v :: st) S k sl) : gW Γ pc lo (.ref a :: st) S k sl :=
  g_getfN G fl hκ ht (by rw [hb9, ← hv]; rfl) d kk
theorem g_getRN (G : gOK Γ own cc n mc ms) {index ci f a κ : Nat} {host : String} {v : Nat} (fl : gFldN own index ci f host) (hκ : gK S a = κ) (ht : κ % 32 = ci + 1 ∧ ci < 15) (hb9 : (gFl ci)[f]? = some true) (hv : gY S κ f a = some v) (d : decode cc pc = .ok (.getfield index, 3)) (kk : gW Γ (pc + 3) lo (.ref v :: st) S k sl) : gW Γ pc lo (.ref a :: st) S k sl :=
  g_getfN G fl hκ ht (by rw [hb9, Option.map_some, if_pos rfl, hv]; rfl) d kk
theorem g_getZN (G : gOK Γ own cc n mc ms) {index ci f a κ : Nat} {host : String}  (fl : gFldN own index ci f host) (hκ : gK S a = κ) (ht : κ % 32 = ci + 1 ∧ ci < 15) (hb9 : (gFl ci)[f]? = some true) (hv : gY S κ f a = none) (d : decode cc pc = .ok (.getfield index, 3)) (kk : gW Γ (pc + 3) lo (.null :: st) S k sl) : gW Γ pc lo (.ref a :: st) S k sl :=
  g_getfN G fl hκ ht (by rw [hb9, Option.map_some, if_pos rfl, hv]; rfl) d kk
theorem g_putI (G : gOK Γ own cc n mc ms) {index ci f a κ : Nat} {v : Int32} {decl : String} (fl : gFld own index ci f) (pu : gPut ci f false decl okI) (hκ : gK S a = κ) (ht : κ % 32 = ci + 1 ∧ ci < 15) (hb9 : (gFl ci)[f]? = some false) (d : decode cc pc = .ok (.putfield index, 3)) (kk : gW Γ (pc + 3) lo st (sX S κ f a v) k sl) : gW Γ pc lo (.int v :: .ref a :: st) S k sl := by
  obtain ⟨p, l, e1, R, s, m, args, below, meth, c, Q, A, D, cT, d0⟩ := Γ
  obtain ⟨hx, hb, hown, hts, hK, hA, hV, hRf, hRl, hRc, hRs⟩ := G
  intro H locs ls hR hS hL
  obtain ⟨ws, hP, hD, hw⟩ := hR
  have h0 : gK S a ≠ 0 := by rw [hκ]; omega
  obtain ⟨q0, he⟩ := hw.2 a h0
  rw [gEnt_o hκ (by omega), show κ % 32 - 1 = ci by omega] at he
  obtain ⟨C, T, N, ref, hc, hf, hin, hlink, hsame⟩ := fl
  obtain ⟨C', T', N', ty0, hc', hN, hty, hnm, hfin, hdecl, hok⟩ := pu
  cases (Option.some.inj (hc'.symm.trans hc))
  obtain ⟨n1, n2⟩ := hok _ ⟨v, rfl⟩
  refine va_put hx hb hts hin ty0 hty hnm hown hK hP hD hS q0 he hc f hf (hts _ hlink) (gSame hts hsame) hfin (hty f hf) n1 n2 (by rw [gRow_len, ← hN]; exact hf) d (fun H1 locs1 hP1 hD1 hS1 => kk H1 locs1 ls ⟨_, hP1, hD1, ?_⟩ hS1 hL)
  have h9 := hw.put (T := sX S κ f a v) hD he rfl (gEnt_oX (by omega))
  rw [gEnt_o (S := sX S κ f a v) hκ (by omega), show κ % 32 - 1 = ci by omega, gRow_setI _ hb9] at h9
  exact h9
theorem g_putQ (G : gOK Γ own cc n mc ms) {index ci f a κ : Nat} {v : Option Nat} {decl : String} (fl : gFld own index ci f) (pu : gPut ci f false decl okQ) (hκ : gK S a = κ) (ht : κ % 32 = ci + 1 ∧ ci < 15) (hb9 : (gFl ci)[f]? = some true) (d : decode cc pc = .ok (.putfield index, 3)) (kk : gW Γ (pc + 3) lo st (sY S κ f a v) k sl) : gW Γ pc lo (va_rf v :: .ref a :: st) S k sl := by
  obtain ⟨p, l, e1, R, s, m, args, below, meth, c, Q, A, D, cT, d0⟩ := Γ
  obtain ⟨hx, hb, hown, hts, hK, hA, hV, hRf, hRl, hRc, hRs⟩ := G
  intro H locs ls hR hS hL
  obtain ⟨ws, hP, hD, hw⟩ := hR
  have h0 : gK S a ≠ 0 := by rw [hκ]; omega
  obtain ⟨q0, he⟩ := hw.2 a h0
  rw [gEnt_o hκ (by omega), show κ % 32 - 1 = ci by omega] at he
  obtain ⟨C, T, N, ref, hc, hf, hin, hlink, hsame⟩ := fl
  obtain ⟨C', T', N', ty0, hc', hN, hty, hnm, hfin, hdecl, hok⟩ := pu
  cases (Option.some.inj (hc'.symm.trans hc))
  obtain ⟨n1, n2⟩ := hok _ ⟨v, rfl⟩
  refine va_put hx hb hts hin ty0 hty hnm hown hK hP hD hS q0 he hc f hf (hts _ hlink) (gSame hts hsame) hfin (hty f hf) n1 n2 (by rw [gRow_len, ← hN]; exact hf) d (fun H1 locs1 hP1 hD1 hS1 => kk H1 locs1 ls ⟨_, hP1, hD1, ?_⟩ hS1 hL)
  have h9 := hw.put (T := sY S κ f a v) hD he rfl (gEnt_oY (by omega))
  rw [gEnt_o (S := sY S κ f a v) hκ (by omega), show κ % 32 - 1 = ci by omega, gRow_setQ _ hb9] at h9
  exact h9
theorem g_putB (G : gOK Γ own cc n mc ms) {index ci f a κ : Nat} {v : Int32} {decl : String} (fl : gFld own index ci f) (pu : gPut ci f false decl okZ) (hz : okZ (.int v)) (hκ : gK S a = κ) (ht : κ % 32 = ci + 1 ∧ ci < 15) (hb9 : (gFl ci)[f]? = some false) (d : decode cc pc = .ok (.putfield index, 3)) (kk : gW Γ (pc + 3) lo st (sX S κ f a v) k sl) : gW Γ pc lo (.int v :: .ref a :: st) S k sl := by
  obtain ⟨p, l, e1, R, s, m, args, below, meth, c, Q, A, D, cT, d0⟩ := Γ
  obtain ⟨hx, hb, hown, hts, hK, hA, hV, hRf, hRl, hRc, hRs⟩ := G
  intro H locs ls hR hS hL
  obtain ⟨ws, hP, hD, hw⟩ := hR
  have h0 : gK S a ≠ 0 := by rw [hκ]; omega
  obtain ⟨q0, he⟩ := hw.2 a h0
  rw [gEnt_o hκ (by omega), show κ % 32 - 1 = ci by omega] at he
  obtain ⟨C, T, N, ref, hc, hf, hin, hlink, hsame⟩ := fl
  obtain ⟨C', T', N', ty0, hc', hN, hty, hnm, hfin, hdecl, hok⟩ := pu
  cases (Option.some.inj (hc'.symm.trans hc))
  obtain ⟨n1, n2⟩ := hok _ hz
  refine va_put hx hb hts hin ty0 hty hnm hown hK hP hD hS q0 he hc f hf (hts _ hlink) (gSame hts hsame) hfin (hty f hf) n1 n2 (by rw [gRow_len, ← hN]; exact hf) d (fun H1 locs1 hP1 hD1 hS1 => kk H1 locs1 ls ⟨_, hP1, hD1, ?_⟩ hS1 hL)
  have h9 := hw.put (T := sX S κ f a v) hD he rfl (gEnt_oX (by omega))
  rw [gEnt_o (S := sX S κ f a v) hκ (by omega), show κ % 32 - 1 = ci by omega, gRow_setI _ hb9] at h9
  exact h9
theorem g_putIN (G : gOK Γ own cc n mc ms) {index ci f a κ : Nat} {v : Int32} {decl : String} {host : String} (fl : gFldN own index ci f host) (pu : gPut ci f false decl okI) (hκ : gK S a = κ) (ht : κ % 32 = ci + 1 ∧ ci < 15) (hb9 : (gFl ci)[f]? = some false) (d : decode cc pc = .ok (.putfield index, 3)) (kk : gW Γ (pc + 3) lo st (sX S κ f a v) k sl) : gW Γ pc lo (.int v :: .ref a :: st) S k sl := by
  obtain ⟨p, l, e1, R, s, m, args, below, meth, c, Q, A, D, cT, d0⟩ := Γ
  obtain ⟨hx, hb, hown, hts, hK, hA, hV, hRf, hRl, hRc, hRs⟩ := G
  intro H locs ls hR hS hL
  obtain ⟨ws, hP, hD, hw⟩ := hR
  have h0 : gK S a ≠ 0 := by rw [hκ]; omega
  obtain ⟨q0, he⟩ := hw.2 a h0
  rw [gEnt_o hκ (by omega), show κ % 32 - 1 = ci by omega] at he
  obtain ⟨C, T, N, hc, hf, hin, hlink⟩ := fl
  obtain ⟨C', T', N', ty0, hc', hN, hty, hnm, hfin, hdecl, hok⟩ := pu
  cases (Option.some.inj (hc'.symm.trans hc))
  obtain ⟨n1, n2⟩ := hok _ ⟨v, rfl⟩
  refine va_putN hx hb hts hin ty0 hty hnm hown hK hP hD hS q0 he hc f hf (va_Nw.use rfl (hV.2.2.1 _ hlink rfl)) (fun _ h9 => h9) hfin (hty f hf) n1 n2 (by rw [gRow_len, ← hN]; exact hf) d (fun H1 locs1 hP1 hD1 hS1 => kk H1 locs1 ls ⟨_, hP1, hD1, ?_⟩ hS1 hL)
  have h9 := hw.put (T := sX S κ f a v) hD he rfl (gEnt_oX (by omega))
  rw [gEnt_o (S := sX S κ f a v) hκ (by omega), show κ % 32 - 1 = ci by omega, gRow_setI _ hb9] at h9
  exact h9
theorem g_putQN (G : gOK Γ own cc n mc ms) {index ci f a κ : Nat} {v : Option Nat} {decl : String} {host : String} (fl : gFldN own index ci f host) (pu : gPut ci f false decl okQ) (hκ : gK S a = κ) (ht : κ % 32 = ci + 1 ∧ ci < 15) (hb9 : (gFl ci)[f]? = some true) (d : decode cc pc = .ok (.putfield index, 3)) (kk : gW Γ (pc + 3) lo st (sY S κ f a v) k sl) : gW Γ pc lo (va_rf v :: .ref a :: st) S k sl := by
  obtain ⟨p, l, e1, R, s, m, args, below, meth, c, Q, A, D, cT, d0⟩ := Γ
  obtain ⟨hx, hb, hown, hts, hK, hA, hV, hRf, hRl, hRc, hRs⟩ := G
  intro H locs ls hR hS hL
  obtain ⟨ws, hP, hD, hw⟩ := hR
  have h0 : gK S a ≠ 0 := by rw [hκ]; omega
  obtain ⟨q0, he⟩ := hw.2 a h0
  rw [gEnt_o hκ (by omega), show κ % 32 - 1 = ci by omega] at he
  obtain ⟨C, T, N, hc, hf, hin, hlink⟩ := fl
  obtain ⟨C', T', N', ty0, hc', hN, hty, hnm, hfin, hdecl, hok⟩ := pu
  cases (Option.some.inj (hc'.symm.trans hc))
  obtain ⟨n1, n2⟩ := hok _ ⟨v, rfl⟩
  refine va_putN hx hb hts hin ty0 hty hnm hown hK hP hD hS q0 he hc f hf (va_Nw.use rfl (hV.2.2.1 _ hlink rfl)) (fun _ h9 => h9) hfin (hty f hf) n1 n2 (by rw [gRow_len, ← hN]; exact hf) d (fun H1 locs1 hP1 hD1 hS1 => kk H1 locs1 ls ⟨_, hP1, hD1, ?_⟩ hS1 hL)
  have h9 := hw.put (T := sY S κ f a v) hD he rfl (gEnt_oY (by omega))
  rw [gEnt_o (S := sY S κ f a v) hκ (by omega), show κ % 32 - 1 = ci by omega, gRow_setQ _ hb9] at h9
  exact h9
theorem g_putBN (G : gOK Γ own cc n mc ms) {index ci f a κ : Nat} {v : Int32} {decl : String} {host : String} (fl : gFldN own index ci f host) (pu : gPut ci f false decl okZ) (hz : okZ (.int v)) (hκ : gK S a = κ) (ht : κ % 32 = ci + 1 ∧ ci < 15) (hb9 : (gFl ci)[f]? = some false) (d : decode cc pc = .ok (.putfield index, 3)) (kk : gW Γ (pc + 3) lo st (sX S κ f a v) k sl) : gW Γ pc lo (.int v :: .ref a :: st) S k sl := by
  obtain ⟨p, l, e1, R, s, m, args, below, meth, c, Q, A, D, cT, d0⟩ := Γ
  obtain ⟨hx, hb, hown, hts, hK, hA, hV, hRf, hRl, hRc, hRs⟩ := G
  intro H locs ls hR hS hL
  obtain ⟨ws, hP, hD, hw⟩ := hR
  have h0 : gK S a ≠ 0 := by rw [hκ]; omega
  obtain ⟨q0, he⟩ := hw.2 a h0
  rw [gEnt_o hκ (by omega), show κ % 32 - 1 = ci by omega] at he
  obtain ⟨C, T, N, hc, hf, hin, hlink⟩ := fl
  obtain ⟨C', T', N', ty0, hc', hN, hty, hnm, hfin, hdecl, hok⟩ := pu
  cases (Option.some.inj (hc'.symm.trans hc))
  obtain ⟨n1, n2⟩ := hok _ hz
  refine va_putN hx hb hts hin ty0 hty hnm hown hK hP hD hS q0 he hc f hf (va_Nw.use rfl (hV.2.2.1 _ hlink rfl)) (fun _ h9 => h9) hfin (hty f hf) n1 n2 (by rw [gRow_len, ← hN]; exact hf) d (fun H1 locs1 hP1 hD1 hS1 => kk H1 locs1 ls ⟨_, hP1, hD1, ?_⟩ hS1 hL)
  have h9 := hw.put (T := sX S κ f a v) hD he rfl (gEnt_oX (by omega))
  rw [gEnt_o (S := sX S κ f a v) hκ (by omega), show κ % 32 - 1 = ci by omega, gRow_setI _ hb9] at h9
  exact h9
theorem g_putIF (G : gOK Γ own cc n mc ms) {index ci f a κ : Nat} {v : Int32} (fl : gFld own index ci f) (pu : gPut ci f true own okI) (hinit : gInit Γ) (hκ : gK S a = κ) (ht : κ % 32 = ci + 1 ∧ ci < 15) (hb9 : (gFl ci)[f]? = some false) (d : decode cc pc = .ok (.putfield index, 3)) (kk : gW Γ (pc + 3) lo st (sX S κ f a v) k sl) : gW Γ pc lo (.int v :: .ref a :: st) S k sl := by
  obtain ⟨p, l, e1, R, s, m, args, below, meth, c, Q, A, D, cT, d0⟩ := Γ
  obtain ⟨hx, hb, hown, hts, hK, hA, hV, hRf, hRl, hRc, hRs⟩ := G
  intro H locs ls hR hS hL
  obtain ⟨ws, hP, hD, hw⟩ := hR
  have h0 : gK S a ≠ 0 := by rw [hκ]; omega
  obtain ⟨q0, he⟩ := hw.2 a h0
  rw [gEnt_o hκ (by omega), show κ % 32 - 1 = ci by omega] at he
  obtain ⟨C, T, N, ref, hc, hf, hin, hlink, hsame⟩ := fl
  obtain ⟨C', T', N', ty0, hc', hN, hty, hnm, hfin, hdecl, hok⟩ := pu
  cases (Option.some.inj (hc'.symm.trans hc))
  obtain ⟨n1, n2⟩ := hok _ ⟨v, rfl⟩
  refine va_putF hx hb hts hin ty0 hty hnm hown hK hP hD hS q0 he hc f hf (hts _ hlink) (gSame hts hsame) hfin hinit hdecl (hty f hf) n1 n2 (by rw [gRow_len, ← hN]; exact hf) d (fun H1 locs1 hP1 hD1 hS1 => kk H1 locs1 ls ⟨_, hP1, hD1, ?_⟩ hS1 hL)
  have h9 := hw.put (T := sX S κ f a v) hD he rfl (gEnt_oX (by omega))
  rw [gEnt_o (S := sX S κ f a v) hκ (by omega), show κ % 32 - 1 = ci by omega, gRow_setI _ hb9] at h9
  exact h9
theorem g_putQF (G : gOK Γ own cc n mc ms) {index ci f a κ : Nat} {v : Option Nat} (fl : gFld own index ci f) (pu : gPut ci f true own okQ) (hinit : gInit Γ) (hκ : gK S a = κ) (ht : κ % 32 = ci + 1 ∧ ci < 15) (hb9 : (gFl ci)[f]? = some true) (d : decode cc pc = .ok (.putfield index, 3)) (kk : gW Γ (pc + 3) lo st (sY S κ f a v) k sl) : gW Γ pc lo (va_rf v :: .ref a :: st) S k sl := by
  obtain ⟨p, l, e1, R, s, m, args, below, meth, c, Q, A, D, cT, d0⟩ := Γ
  obtain ⟨hx, hb, hown, hts, hK, hA, hV, hRf, hRl, hRc, hRs⟩ := G
  intro H locs ls hR hS hL
  obtain ⟨ws, hP, hD, hw⟩ := hR
  have h0 : gK S a ≠ 0 := by rw [hκ]; omega
  obtain ⟨q0, he⟩ := hw.2 a h0
  rw [gEnt_o hκ (by omega), show κ % 32 - 1 = ci by omega] at he
  obtain ⟨C, T, N, ref, hc, hf, hin, hlink, hsame⟩ := fl
  obtain ⟨C', T', N', ty0, hc', hN, hty, hnm, hfin, hdecl, hok⟩ := pu
  cases (Option.some.inj (hc'.symm.trans hc))
  obtain ⟨n1, n2⟩ := hok _ ⟨v, rfl⟩
  refine va_putF hx hb hts hin ty0 hty hnm hown hK hP hD hS q0 he hc f hf (hts _ hlink) (gSame hts hsame) hfin hinit hdecl (hty f hf) n1 n2 (by rw [gRow_len, ← hN]; exact hf) d (fun H1 locs1 hP1 hD1 hS1 => kk H1 locs1 ls ⟨_, hP1, hD1, ?_⟩ hS1 hL)
  have h9 := hw.put (T := sY S κ f a v) hD he rfl (gEnt_oY (by omega))
  rw [gEnt_o (S := sY S κ f a v) hκ (by omega), show κ % 32 - 1 = ci by omega, gRow_setQ _ hb9] at h9
  exact h9
theorem g_putBF (G : gOK Γ own cc n mc ms) {index ci f a κ : Nat} {v : Int32} (fl : gFld own index ci f) (pu : gPut ci f true own okZ) (hz : okZ (.int v)) (hinit : gInit Γ) (hκ : gK S a = κ) (ht : κ % 32 = ci + 1 ∧ ci < 15) (hb9 : (gFl ci)[f]? = some false) (d : decode cc pc = .ok (.putfield index, 3)) (kk : gW Γ (pc + 3) lo st (sX S κ f a v) k sl) : gW Γ pc lo (.int v :: .ref a :: st) S k sl := by
  obtain ⟨p, l, e1, R, s, m, args, below, meth, c, Q, A, D, cT, d0⟩ := Γ
  obtain ⟨hx, hb, hown, hts, hK, hA, hV, hRf, hRl, hRc, hRs⟩ := G
  intro H locs ls hR hS hL
  obtain ⟨ws, hP, hD, hw⟩ := hR
  have h0 : gK S a ≠ 0 := by rw [hκ]; omega
  obtain ⟨q0, he⟩ := hw.2 a h0
  rw [gEnt_o hκ (by omega), show κ % 32 - 1 = ci by omega] at he
  obtain ⟨C, T, N, ref, hc, hf, hin, hlink, hsame⟩ := fl
  obtain ⟨C', T', N', ty0, hc', hN, hty, hnm, hfin, hdecl, hok⟩ := pu
  cases (Option.some.inj (hc'.symm.trans hc))
  obtain ⟨n1, n2⟩ := hok _ hz
  refine va_putF hx hb hts hin ty0 hty hnm hown hK hP hD hS q0 he hc f hf (hts _ hlink) (gSame hts hsame) hfin hinit hdecl (hty f hf) n1 n2 (by rw [gRow_len, ← hN]; exact hf) d (fun H1 locs1 hP1 hD1 hS1 => kk H1 locs1 ls ⟨_, hP1, hD1, ?_⟩ hS1 hL)
  have h9 := hw.put (T := sX S κ f a v) hD he rfl (gEnt_oX (by omega))
  rw [gEnt_o (S := sX S κ f a v) hκ (by omega), show κ % 32 - 1 = ci by omega, gRow_setI _ hb9] at h9
  exact h9
theorem gT_i {cT : Nat → ClassId} {t : Nat} (h : 16 ≤ t) (h2 : t ≤ 20) : (gT cT)[t - 16]? = some (cT t, gTy t) := by
  have : t = 16 ∨ t = 17 ∨ t = 18 ∨ t = 19 ∨ t = 20 := by omega
  rcases this with rfl | rfl | rfl | rfl | rfl <;> rfl
theorem g_alen (G : gOK Γ own cc n mc ms) {a κ N : Nat} (hκ : gK S a = κ) (ht : 16 ≤ κ % 32 ∧ κ % 32 ≤ 20) (hN : gL S a = N) (d : decode cc pc = .ok (.arraylength, 1)) (kk : gW Γ (pc + 1) lo (.int (nI N) :: st) S k sl) : gW Γ pc lo (.ref a :: st) S k sl := by
  obtain ⟨p, l, e1, R, s, m, args, below, meth, c, Q, A, D, cT, d0⟩ := Γ
  obtain ⟨hx, hb, hown, hts, hK, hA, hV, hRf, hRl, hRc, hRs⟩ := G
  intro H locs ls hR hS hL
  obtain ⟨ws, hP, hD, hw⟩ := hR
  have h0 : gK S a ≠ 0 := by rw [hκ]; omega
  obtain ⟨q0, he⟩ := hw.2 a h0
  subst hN
  by_cases h1 : κ % 32 < 18
  · rw [gEnt_i hκ (by omega)] at he
    exact va_alen hx hb hK hP q0 (κ % 32 - 16) he (gT_i ht.1 ht.2) rfl d (kk H locs ls ⟨ws, hP, hD, hw⟩ hS hL)
  · by_cases h2 : κ % 32 = 18
    · rw [gEnt_l hκ h2] at he
      exact va_alen hx hb hK hP q0 2 he (gT_i (t := 18) (by omega) (by omega)) rfl d (kk H locs ls ⟨ws, hP, hD, hw⟩ hS hL)
    · rw [gEnt_q hκ (by omega)] at he
      exact va_alen hx hb hK hP q0 (κ % 32 - 16) he (gT_i ht.1 ht.2) rfl d (kk H locs ls ⟨ws, hP, hD, hw⟩ hS hL)
theorem g_iald (G : gOK Γ own cc n mc ms) {a κ i : Nat} {v : Int32} (hκ : gK S a = κ) (ht : κ % 32 = 17) (hi : i < gL S a) (hi31 : i < 2 ^ 31) (hv : gX S κ a i = v) (d : decode cc pc = .ok (.iaload, 1)) (kk : gW Γ (pc + 1) lo (.int v :: st) S k sl) : gW Γ pc lo (.int (nI i) :: .ref a :: st) S k sl := by
  obtain ⟨p, l, e1, R, s, m, args, below, meth, c, Q, A, D, cT, d0⟩ := Γ
  obtain ⟨hx, hb, hown, hts, hK, hA, hV, hRf, hRl, hRc, hRs⟩ := G
  intro H locs ls hR hS hL
  obtain ⟨ws, hP, hD, hw⟩ := hR
  have h0 : gK S a ≠ 0 := by rw [hκ]; omega
  obtain ⟨q0, he⟩ := hw.2 a h0
  rw [gEnt_i hκ (by omega), ht] at he
  refine va_iald hx hb hK hP q0 1 he (gT_i (t := 17) (by omega) (by omega)) (i := nI i) (nI_in2 hi hi31) d ?_
  rw [nI_clamp hi31, hv]
  exact kk H locs ls ⟨ws, hP, hD, hw⟩ hS hL
theorem g_bald (G : gOK Γ own cc n mc ms) {a κ i : Nat} {v : Int32} (hκ : gK S a = κ) (ht : κ % 32 = 16) (hi : i < gL S a) (hi31 : i < 2 ^ 31) (hv : gX S κ a i = v) (d : decode cc pc = .ok (.baload, 1)) (kk : gW Γ (pc + 1) lo (.int v :: st) S k sl) : gW Γ pc lo (.int (nI i) :: .ref a :: st) S k sl := by
  obtain ⟨p, l, e1, R, s, m, args, below, meth, c, Q, A, D, cT, d0⟩ := Γ
  obtain ⟨hx, hb, hown, hts, hK, hA, hV, hRf, hRl, hRc, hRs⟩ := G
  intro H locs ls hR hS hL
  obtain ⟨ws, hP, hD, hw⟩ := hR
  have h0 : gK S a ≠ 0 := by rw [hκ]; omega
  obtain ⟨q0, he⟩ := hw.2 a h0
  rw [gEnt_i hκ (by omega), ht] at he
  refine va_bald hx hb hK hP q0 0 he (gT_i (t := 16) (by omega) (by omega)) (i := nI i) (nI_in2 hi hi31) d ?_
  rw [nI_clamp hi31, hv]
  exact kk H locs ls ⟨ws, hP, hD, hw⟩ hS hL
theorem g_lald (G : gOK Γ own cc n mc ms) {a κ i : Nat} {v : Int64} (hκ : gK S a = κ) (ht : κ % 32 = 18) (hi : i < gL S a) (hi31 : i < 2 ^ 31) (hv : gZ S κ a i = v) (d : decode cc pc = .ok (.laload, 1)) (kk : gW Γ (pc + 1) lo (.long v :: st) S k sl) : gW Γ pc lo (.int (nI i) :: .ref a :: st) S k sl := by
  obtain ⟨p, l, e1, R, s, m, args, below, meth, c, Q, A, D, cT, d0⟩ := Γ
  obtain ⟨hx, hb, hown, hts, hK, hA, hV, hRf, hRl, hRc, hRs⟩ := G
  intro H locs ls hR hS hL
  obtain ⟨ws, hP, hD, hw⟩ := hR
  have h0 : gK S a ≠ 0 := by rw [hκ]; omega
  obtain ⟨q0, he⟩ := hw.2 a h0
  rw [gEnt_l hκ ht] at he
  refine va_lald hx hb hK hP q0 2 he (gT_i (t := 18) (by omega) (by omega)) (i := nI i) (nI_in2 hi hi31) d ?_
  rw [nI_clamp hi31, hv]
  exact kk H locs ls ⟨ws, hP, hD, hw⟩ hS hL
theorem g_aald (G : gOK Γ own cc n mc ms) {a κ i : Nat} {v : Option Nat} (hκ : gK S a = κ) (ht : κ % 32 = 19 ∨ κ % 32 = 20) (hi : i < gL S a) (hi31 : i < 2 ^ 31) (hv : gY S κ a i = v) (d : decode cc pc = .ok (.aaload, 1)) (kk : gW Γ (pc + 1) lo (va_rf v :: st) S k sl) : gW Γ pc lo (.int (nI i) :: .ref a :: st) S k sl := by
  obtain ⟨p, l, e1, R, s, m, args, below, meth, c, Q, A, D, cT, d0⟩ := Γ
  obtain ⟨hx, hb, hown, hts, hK, hA, hV, hRf, hRl, hRc, hRs⟩ := G
  intro H locs ls hR hS hL
  obtain ⟨ws, hP, hD, hw⟩ := hR
  have h0 : gK S a ≠ 0 := by rw [hκ]; omega
  obtain ⟨q0, he⟩ := hw.2 a h0
  rw [gEnt_q hκ (by omega)] at he
  have hT := hK.2 _ _ (gT_i (cT := cT) (t := κ % 32) (by omega) (by omega))
  have hr : (gTy (κ % 32)).isReference = true := by rcases ht with h | h <;> rw [h] <;> rfl
  have hc : (nI i).toNatClampNeg = i := nI_clamp hi31
  refine W.aald (v := va_rf v) (ty := gTy (κ % 32)) hx hb (hP q0 _ he) (hT.1 _ _) hr (fun q => by cases q) (by show ¬ (nI i < 0 ∨ (arrV _ _ _).slots.size ≤ _); rw [arrV_size]; exact nI_in2 hi hi31) (by show (arrV _ _ _).slots[_]? = _; rw [hc, arrV_read _ _ hi]; show some (va_rf (gY S κ a i)) = _; rw [hv]) rfl rfl d ?_
  exact kk H locs ls ⟨ws, hP, hD, hw⟩ hS hL
theorem g_iast (G : gOK Γ own cc n mc ms) {a κ i : Nat} {x z : Int32} (hκ : gK S a = κ) (ht : κ % 32 = 17) (hi : i < gL S a) (hi31 : i < 2 ^ 31) (hz : x = z) (d : decode cc pc = .ok (.iastore, 1)) (kk : gW Γ (pc + 1) lo st (sX S κ a i z) k sl) : gW Γ pc lo (.int x :: .int (nI i) :: .ref a :: st) S k sl := by
  obtain ⟨p, l, e1, R, s, m, args, below, meth, c, Q, A, D, cT, d0⟩ := Γ
  obtain ⟨hx, hb, hown, hts, hK, hA, hV, hRf, hRl, hRc, hRs⟩ := G
  intro H locs ls hR hS hL
  obtain ⟨ws, hP, hD, hw⟩ := hR
  have h0 : gK S a ≠ 0 := by rw [hκ]; omega
  obtain ⟨q0, he⟩ := hw.2 a h0
  rw [gEnt_i hκ (by omega), ht] at he
  refine va_iast hx hb hK hP hD hS q0 1 he (gT_i (t := 17) (by omega) (by omega)) (i := nI i) (nI_in2 hi hi31) d (fun H1 locs1 hP1 hD1 hS1 => kk H1 locs1 ls ⟨_, hP1, hD1, ?_⟩ hS1 hL)
  have h9 := hw.put (T := sX S κ a i z) hD he rfl (gEnt_aX (by omega))
  rw [gEnt_i (S := sX S κ a i z) hκ (by omega), ht] at h9
  rw [nI_clamp hi31, hz]
  rw [show gX (sX S κ a i z) κ a = upd (gX S κ a) i z from u3_row _ _ _ _ _] at h9
  exact h9
theorem g_bast (G : gOK Γ own cc n mc ms) {a κ i : Nat} {x z : Int32} (hκ : gK S a = κ) (ht : κ % 32 = 16) (hi : i < gL S a) (hi31 : i < 2 ^ 31) (hz : vp_nar .byte x = z) (d : decode cc pc = .ok (.bastore, 1)) (kk : gW Γ (pc + 1) lo st (sX S κ a i z) k sl) : gW Γ pc lo (.int x :: .int (nI i) :: .ref a :: st) S k sl := by
  obtain ⟨p, l, e1, R, s, m, args, below, meth, c, Q, A, D, cT, d0⟩ := Γ
  obtain ⟨hx, hb, hown, hts, hK, hA, hV, hRf, hRl, hRc, hRs⟩ := G
  intro H locs ls hR hS hL
  obtain ⟨ws, hP, hD, hw⟩ := hR
  have h0 : gK S a ≠ 0 := by rw [hκ]; omega
  obtain ⟨q0, he⟩ := hw.2 a h0
  rw [gEnt_i hκ (by omega), ht] at he
  refine va_bast hx hb hK hP hD hS q0 0 he (gT_i (t := 16) (by omega) (by omega)) (i := nI i) (nI_in2 hi hi31) d (fun H1 locs1 hP1 hD1 hS1 => kk H1 locs1 ls ⟨_, hP1, hD1, ?_⟩ hS1 hL)
  have h9 := hw.put (T := sX S κ a i z) hD he rfl (gEnt_aX (by omega))
  rw [gEnt_i (S := sX S κ a i z) hκ (by omega), ht] at h9
  rw [nI_clamp hi31, hz]
  rw [show gX (sX S κ a i z) κ a = upd (gX S κ a) i z from u3_row _ _ _ _ _] at h9
  exact h9
theorem g_last (G : gOK Γ own cc n mc ms) {a κ i : Nat} {x : Int64} (hκ : gK S a = κ) (ht : κ % 32 = 18) (hi : i < gL S a) (hi31 : i < 2 ^ 31) (d : decode cc pc = .ok (.lastore, 1)) (kk : gW Γ (pc + 1) lo st (sZ S κ a i x) k sl) : gW Γ pc lo (.long x :: .int (nI i) :: .ref a :: st) S k sl := by
  obtain ⟨p, l, e1, R, s, m, args, below, meth, c, Q, A, D, cT, d0⟩ := Γ
  obtain ⟨hx, hb, hown, hts, hK, hA, hV, hRf, hRl, hRc, hRs⟩ := G
  intro H locs ls hR hS hL
  obtain ⟨ws, hP, hD, hw⟩ := hR
  have h0 : gK S a ≠ 0 := by rw [hκ]; omega
  obtain ⟨q0, he⟩ := hw.2 a h0
  rw [gEnt_l hκ ht] at he
  refine va_last hx hb hK hP hD hS q0 2 he (gT_i (t := 18) (by omega) (by omega)) (i := nI i) (nI_in2 hi hi31) d (fun H1 locs1 hP1 hD1 hS1 => kk H1 locs1 ls ⟨_, hP1, hD1, ?_⟩ hS1 hL)
  have h9 := hw.put (T := sZ S κ a i x) hD he rfl gEnt_aZ
  rw [gEnt_l (S := sZ S κ a i x) hκ ht] at h9
  rw [nI_clamp hi31]
  rw [show gZ (sZ S κ a i x) κ a = vp_updL (gZ S κ a) i x from u3_row _ _ _ _ _] at h9
  exact h9
end GHEAP
