/-! ===== contracts over the store ===== -/
def gRm (n mc ms : Nat) : Room := { frames := n, cells := mc, slots := ms, locals := 36 * n + 16 }
def gA (S : gS) (sz : Nat) : Nat → Prop := fun q => gK S q ≠ 0 ∨ sz ≤ q
def gIn (d0 : Nat × Nat) (D : va_G) (cT : Nat → ClassId) (S : gS) (U : State) : Prop := va_K D vwCl (gT cT) U ∧ (∃ ws, va_P D vwCl ws U.heap ∧ va_D (fun _ => True) ws ∧ gWs cT S ws) ∧ gV d0 cT (gA S U.heap.size) U U.heap
def gQ (D : va_G) (cT : Nat → ClassId) (A : Nat → Prop) (Post : Option Value → gS → Prop) : Array Value → State → Outcome → State → Prop := fun _ st oc t => (∃ (v : Option Value) (S' : gS), oc = .returned v ∧ Post v S' ∧ gR D cT A S' t.heap) ∧ va_F A st t
def gXC (D : va_G) (cT : Nat → ClassId) (A : Nat → Prop) (PX : String → gS → Prop) : String → State → State → Prop := fun E st t => (∃ S' : gS, PX E S' ∧ gR D cT A S' t.heap) ∧ va_F A st t
def gNo : String → gS → Prop := fun _ _ => False
/-- THE CONTRACT: from every heap that the store S pictures, y returns with Post, or throws with PX; at most mc cells of ms slots are new -/
def gCt (d0 : Nat × Nat) (y : MethodName) (cc : ByteArray) (maxL : Nat) (ret : Option FieldType) (n mc ms : Nat) (args : List Value) (S : gS) (Post : Option Value → gS → Prop) (PX : String → gS → Prop) : Prop :=
  ∀ (l : Launch), l.stackTraces = false → ∀ (D : va_G) (cT : Nat → ClassId) (sz : Nat), vx_Met l y (Cond.code y cc maxL ret :: gWords) (gRm n mc ms) (va_Pc args (fun U => U.heap.size = sz ∧ gIn d0 D cT S U)) (gQ D cT (gA S sz) Post) (gXC D cT (gA S sz) PX) mc ms (gA S sz)
/-- what a body may use at its end -/
def gFin (Γ : gC) (ret : Option FieldType) (mc ms : Nat) (Post : Option Value → gS → Prop) (PX : String → gS → Prop) : Prop :=
  match Γ with
  | (_, _, _, _, s, _, args, below, meth, c, Q, A, D, cT, _) => meth.sig.returnType = ret ∧ meth.locks = false ∧ (∀ x ∈ c.exceptionTable.toList, False) ∧ Q = vx_MQ below (gQ D cT A Post) (gXC D cT A PX) args s mc ms A
def gSv : Slot → Option Value
  | .val v => some v
  | _ => none
def gLo (args : List Value) (maxL : Nat) : List (Option Value) := (lg_sl args ++ List.replicate (maxL - (lg_sl args).length) Slot.unset).map gSv
theorem gLo_H {args : List Value} {maxL : Nat} (h : (lg_sl args).length ≤ maxL) : gH (lg_sl args ++ List.replicate (maxL - (lg_sl args).length) Slot.unset).toArray maxL (gLo args maxL) := by
  obtain ⟨h1, h2, -⟩ := lv_entry args h
  refine ⟨h1, h2, ?_, fun i v hi => ?_⟩
  · unfold gLo
    rw [List.length_map, List.length_append, List.length_replicate]
    omega
  · unfold gLo at hi
    rw [List.getElem?_map] at hi
    rw [List.getElem?_toArray]
    cases hx : (lg_sl args ++ List.replicate (maxL - (lg_sl args).length) Slot.unset)[i]? with
    | none => rw [hx] at hi; cases hi
    | some x =>
      rw [hx, Option.map_some] at hi
      have hi' := Option.some.inj hi
      cases x with
      | val w => cases hi'; rfl
      | _ => cases hi'
/-- the static empty array's address -/
abbrev gD (Γ : gC) : Nat × Nat := Γ.2.2.2.2.2.2.2.2.2.2.2.2.2.2
theorem gCt_of {d0 : Nat × Nat} {y : MethodName} {cc : ByteArray} {maxL : Nat} {ret : Option FieldType} {n mc ms : Nat} {args : List Value} {S : gS} {Post : Option Value → gS → Prop} {PX : String → gS → Prop} {lo : List (Option Value)} (hy : plainName y.cls = true) (hlen : (lg_sl args).length ≤ maxL) (hlo : gLo args maxL = lo)
    (body : ∀ Γ : gC, gD Γ = d0 → gOK Γ y.cls cc n mc ms → gFin Γ ret mc ms Post PX → (gInit Γ ↔ y.name = "<init>") → gW Γ 0 lo [] S 0 0) : gCt d0 y cc maxL ret n mc ms args S Post PX := by
  intro l hl D cT sz
  refine vx_ofW hy rfl ?_
  intro p e s m args' below meth c s₁ B hml hex hv
  obtain ⟨rfl, hsz, hK, ⟨ws, hP, hD, hw⟩, hV⟩ := hv
  have hts := atoms_spec (ws := Cond.code y cc maxL ret :: gWords) B.pre
  have hown : s.vm.findClass y.cls = some m.cls := findClass_of_methodNamed B.named
  have hnm : meth.name = y.name := (name_of_methodNamed B.named B.method).1
  subst hlo
  have key := body (p, l, e, (headSpec (Cond.code y cc maxL ret :: gWords) (gRm n mc ms)).room, s, m, args.toArray, below, meth, c, vx_MQ below (gQ D cT (gA S sz) Post) (gXC D cT (gA S sz) PX) args.toArray s mc ms (gA S sz), gA S sz, D, cT, d0) rfl
    ⟨B.exec, B.bytes, hown, fun w h => hts w (List.mem_cons_of_mem _ h), hK, fun q h => Or.inr (hsz ▸ h), hsz ▸ hV, ⟨rfl, hl⟩, rfl, rfl, rfl⟩ ⟨B.returns, B.notSynchronized, hex, rfl⟩ (by show meth.name = "<init>" ↔ _; rw [hnm])
  rw [lg_entry_eq]
  refine key s.heap [] _ ⟨ws, hP, ⟨hD.1, fun k q hk => Or.inl (hw.1 k q hk).1⟩, hw⟩ va_S.rf ?_
  rw [hml]
  exact gLo_H hlen
theorem gMetOf {l : Launch} {y : MethodName} {ws : List Cond} {rm : Room} {Pc : Array Value → State → Prop} {Qc : Array Value → State → Outcome → State → Prop} {XC : String → State → State → Prop} {mc ms : Nat} {free : Addr → Prop} (h : vx_Met l y ws rm Pc Qc XC mc ms free) (hx : ∀ E st t, ¬ XC E st t) : Met l y ws rm Pc Qc mc ms free := by
  intro p e ha hc hk s m args below hf happ hP hK
  obtain ⟨k, o, h1, h2, h3, hq⟩ := h p e ha hc hk s m args below hf happ hP hK
  refine ⟨k, o, h1, h2, h3, ?_⟩
  rcases hq with hq | ⟨q, -, E, ce, L, hx9, -⟩
  · exact hq
  · exact absurd hx9 (hx _ _ _)
theorem gGood {L : List Cond} (h : ∀ w ∈ L, w ∈ gWords) : GoodIn gWords L := fun w hw => ⟨h w hw, good_of_word (List.mem_filter.mp (h w hw)).2⟩
section GCALL
variable {Γ : gC} {own : String} {cc : ByteArray} {n mc ms pc : Nat} {lo lo' : List (Option Value)} {st : List Value} {S : gS} {k sl : Nat}
variable {p : Program} {l : Launch} {e : Env} {R : Room} {s : State} {m : MethodId} {args : Array Value} {below : List Frame} {meth : Method} {c : Code} {H : Heap} {locs : List Loc} {Q : State → Prop} {A : Nat → Prop} {D : va_G} {cT : Nat → ClassId} {d0 : Nat × Nat}
theorem gFree {ws : va_W} (hD : va_D A ws) (hw : gWs cT S ws) (hS : va_S A s.heap H locs) (hA : ∀ q, s.heap.size ≤ q → A q) : ∀ q, gA S H.size q → A q := by
  intro q hq
  rcases hq with hq | hq
  · obtain ⟨k, hk⟩ := hw.2 q hq
    exact hD.2 k _ hk
  · exact hA q (Nat.le_trans hS.1 hq)
theorem gPcOf {As : List Value} {ws : va_W} (hK : va_K D vwCl (gT cT) s) (hP : va_P D vwCl ws H) (hD : va_D A ws) (hw : gWs cT S ws) (hS : va_S A s.heap H locs) (hA : ∀ q, s.heap.size ≤ q → A q) (hV : gV d0 cT A s s.heap) :
    ∀ U : State, U.heap = H → s.WarmedH U.vm → va_Pc As (fun U => U.heap.size = H.size ∧ gIn d0 D cT S U) As.toArray U := by
  intro U hU hW
  refine ⟨rfl, by rw [hU], hK.moved hW.alike, ⟨ws, by rw [hU]; exact hP, hD.weaken (fun _ _ _ _ => trivial), hw⟩, ?_⟩
  rw [hU]
  exact (((hV.kept hS.2.1).narrow (gFree hD hw hS hA))).moved hW
theorem gBlind {As : List Value} {sz : Nat} : FrameBlind (va_Pc As (fun U => U.heap.size = sz ∧ gIn d0 D cT S U)) := by
  intro a U g mk q
  obtain ⟨h1, h2, h3, h4, h5⟩ := q
  exact ⟨h1, h2, va_K.moved (u := U) (U := U.calling g mk a) (Vm.Alike.refl U.vm) h3, h4, gV.moved (s := U) (U := U.calling g mk a) (State.WarmedH.refl U) h5⟩
theorem gNext {ws : va_W} {mc' ms' : Nat} {ls : Array Slot} {st0 rest : List Value} {a : Array Value} {Post : Option Value → gS → Prop} (hD : va_D A ws) (hw : gWs cT S ws) (hS : va_S A s.heap H locs) (hA : ∀ q, s.heap.size ≤ q → A q)
    (hr : va_Run p l e R s m args below meth c H locs k sl mc' ms' (F0 m pc ls st0) rest (gQ D cT (gA S H.size) Post a) (gA S H.size))
    (kk : ∀ (v : Option Value) (S' : gS) (H1 : Heap) (locs1 : List Loc), Post v S' → gR D cT A S' H1 → va_S A s.heap H1 locs1 → W p l e R s m args below meth c H1 locs1 (k + mc') (sl + ms') Q (F0 m (pc + 3) ls (v.toList ++ rest))) : W p l e R s m args below meth c H locs k sl Q (F0 m pc ls st0) := by
  have hF := gFree hD hw hS hA
  intro T hT X
  obtain ⟨v, st₀, t, T', L, h0, X', hL, e1, e2, ⟨⟨v', S', hv, hpost, ws', hP', hD', hw'⟩, hF'⟩, st⟩ := hr T hT X
  cases hv
  obtain ⟨k1, k2, k3⟩ := vx_keep h0 e1 hS (fun q _ h => hF q h) hF hL hF'
  obtain ⟨t2, a1, b1⟩ := kk v S' T'.heap (locs ++ L) hpost ⟨ws', by rw [e1]; exact hP', hD'.weaken (fun _ q _ h => hF _ h), hw'⟩ k3 T' rfl X'
  exact ⟨t2, st t2 a1, b1⟩
end GCALL
