/-! ===== the law: methods with handlers, the script ===== -/
def gFinW (Γ : gC) (hh : List (Nat × Nat × Nat × Nat)) (ret : Option FieldType) (mc ms : Nat) (Post : Option Value → gS → Prop) (PX : String → gS → Prop) : Prop :=
  match Γ with
  | (_, _, _, _, s, _, args, below, meth, c, Q, A, D, cT, _) => meth.sig.returnType = ret ∧ meth.locks = false ∧ c.exceptionTable.toList = tableOf hh ∧ Q = vx_MQ below (gQ D cT A Post) (gXC D cT A PX) args s mc ms A
/-- a contract of a method with handlers -/
def gCtw (d0 : Nat × Nat) (y : MethodName) (cc : ByteArray) (maxL : Nat) (ret : Option FieldType) (hh : List (Nat × Nat × Nat × Nat)) (n mc ms : Nat) (args : List Value) (S : gS) (Post : Option Value → gS → Prop) (PX : String → gS → Prop) : Prop :=
  ∀ (l : Launch), l.stackTraces = false → ∀ (D : va_G) (cT : Nat → ClassId) (sz : Nat), vx_Met l y (Cond.codeWith y cc maxL ret hh :: gWords) (gRm n mc ms) (va_Pc args (fun U => U.heap.size = sz ∧ gIn d0 D cT S U)) (gQ D cT (gA S sz) Post) (gXC D cT (gA S sz) PX) mc ms (gA S sz)
def gMethW (y : MethodName) (bytes : ByteArray) (maxL : Nat) (ret : Option FieldType) (hh : List (Nat × Nat × Nat × Nat)) (na : Nat) : Prop := Cond.codeWith y bytes maxL ret hh ∈ gWords ∧ Cond.initialized y.cls ∈ gWords ∧ (y.cls ≠ "java/lang/invoke/MethodHandle" ∧ y.cls ≠ "java/lang/invoke/VarHandle" ∧ (parseMethodDescriptor y.desc).map (fun d => d.parameters.length) = some na) ∧ maxL ≤ 17
theorem gCtw_of {d0 : Nat × Nat} {y : MethodName} {cc : ByteArray} {maxL : Nat} {ret : Option FieldType} {hh : List (Nat × Nat × Nat × Nat)} {n mc ms : Nat} {args : List Value} {S : gS} {Post : Option Value → gS → Prop} {PX : String → gS → Prop} {lo : List (Option Value)} (hy : plainName y.cls = true) (hlen : (lg_sl args).length ≤ maxL) (hlo : gLo args maxL = lo)
    (body : ∀ Γ : gC, gD Γ = d0 → gOK Γ y.cls cc n mc ms → gFinW Γ hh ret mc ms Post PX → gW Γ 0 lo [] S 0 0) : gCtw d0 y cc maxL ret hh n mc ms args S Post PX := by
  intro l hl D cT sz
  refine vx_ofWH hy rfl ?_
  intro p e s m args' below meth c s₁ B hml hv
  obtain ⟨rfl, hsz, hK, ⟨ws, hP, hD, hw⟩, hV⟩ := hv
  have hts := atoms_spec (ws := Cond.codeWith y cc maxL ret hh :: gWords) B.pre
  have hown : s.vm.findClass y.cls = some m.cls := findClass_of_methodNamed B.named
  have htab := vx_table (x := y) B (hts _ List.mem_cons_self)
  subst hlo
  have key := body (p, l, e, (headSpec (Cond.codeWith y cc maxL ret hh :: gWords) (gRm n mc ms)).room, s, m, args.toArray, below, meth, c, vx_MQ below (gQ D cT (gA S sz) Post) (gXC D cT (gA S sz) PX) args.toArray s mc ms (gA S sz), gA S sz, D, cT, d0) rfl
    ⟨B.exec, B.bytes, hown, fun w h => hts w (List.mem_cons_of_mem _ h), hK, fun q h => Or.inr (hsz ▸ h), hsz ▸ hV, ⟨rfl, hl⟩, rfl, rfl, rfl⟩ ⟨B.returns, B.notSynchronized, htab, rfl⟩
  rw [lg_entry_eq]
  refine key s.heap [] _ ⟨ws, hP, ⟨hD.1, fun k q hk => Or.inl (hw.1 k q hk).1⟩, hw⟩ va_S.rf ?_
  rw [hml]
  exact gLo_H hlen
def gHn (own : String) (hh : List (Nat × Nat × Nat × Nat)) (pc : Nat) (E : String) (h : Nat) : Prop := ∃ pre x suf, tableOf hh = pre ++ x :: suf ∧ (∀ z ∈ pre, covers z pc = false ∨ (z.catchType ≠ 0 ∧ ∃ nm : String, Cond.classLink own z.catchType nm ∈ gWords ∧ (E, nm) ∈ gNcl)) ∧ covers x pc = true ∧ x.catchType ≠ 0 ∧ Cond.classLink own x.catchType E ∈ gWords ∧ Cond.castable E E ∈ tables_1 ∧ x.handlerPc = h
section GTRY
variable {Γ : gC} {own : String} {cc : ByteArray} {n mc ms pc : Nat} {lo lo' : List (Option Value)} {st rest : List Value} {S : gS} {k sl : Nat}
variable {y : MethodName} {bytes : ByteArray} {maxL n' mc' ms' index κ ci b : Nat} {ret ret0 : Option FieldType} {As : List Value} {Post P0 : Option Value → gS → Prop} {PX X0 : String → gS → Prop} {hh : List (Nat × Nat × Nat × Nat)} {mc0 ms0 : Nat}
variable {p : Program} {l : Launch} {e : Env} {R : Room} {s : State} {m : MethodId} {args : Array Value} {below : List Frame} {meth : Method} {c : Code} {H : Heap} {locs : List Loc} {Q : State → Prop} {A : Nat → Prop} {D : va_G} {cT : Nat → ClassId} {d0 : Nat × Nat}
theorem gNextX {ws : va_W} {mc' ms' : Nat} {ls : Array Slot} {st0 rest : List Value} {a : Array Value} (hD : va_D A ws) (hw : gWs cT S ws) (hS : va_S A s.heap H locs) (hA : ∀ q, s.heap.size ≤ q → A q)
    (hr : vx_Run p l e R s m args below meth c H locs k sl mc' ms' (F0 m pc ls st0) rest (gQ D cT (gA S H.size) Post a) (gXC D cT (gA S H.size) PX) (gA S H.size))
    (kk : ∀ (v : Option Value) (S' : gS) (H1 : Heap) (locs1 : List Loc), Post v S' → gR D cT A S' H1 → va_S A s.heap H1 locs1 → W p l e R s m args below meth c H1 locs1 (k + mc') (sl + ms') Q (F0 m (pc + 3) ls (v.toList ++ rest)))
    (kx : ∀ (E : String) (q : Addr) (S' : gS) (H1 : Heap) (locs1 : List Loc) (ce : Cell), PX E S' → H1[q]? = some ce → ce.vm = .none → s.vm.findClass E = some ce.cls → gR D cT A S' H1 → va_S A s.heap H1 locs1 → vx_W p l e R s m args below meth c H1 locs1 (k + mc') (sl + ms') Q (F0 m pc ls rest) q) : W p l e R s m args below meth c H locs k sl Q (F0 m pc ls st0) := by
  have hF := gFree hD hw hS hA
  intro T hT X
  rcases hr T hT X with ⟨v, st₀, t, T', L, h0, X', hL, e1, e2, ⟨⟨v', S', hv, hpost, ws', hP', hD', hw'⟩, hF'⟩, st⟩ | ⟨q, st₀, t, T', L, E, ce, h0, X', hL, e1, e2, ⟨⟨S', hpx, ws', hP', hD', hw'⟩, hF'⟩, hce, hcv, hcl, st⟩
  · cases hv
    obtain ⟨k1, k2, k3⟩ := vx_keep h0 e1 hS (fun q _ h => hF q h) hF hL hF'
    obtain ⟨t2, a1, b1⟩ := kk v S' T'.heap (locs ++ L) hpost ⟨ws', by rw [e1]; exact hP', hD'.weaken (fun _ q _ h => hF _ h), hw'⟩ k3 T' rfl X'
    exact ⟨t2, st t2 a1, b1⟩
  · obtain ⟨k1, k2, k3⟩ := vx_keep h0 e1 hS (fun q _ h => hF q h) hF hL hF'
    obtain ⟨t2, a1, b1⟩ := kx E q S' T'.heap (locs ++ L) ce hpx (by rw [e1]; exact hce) hcv hcl ⟨ws', by rw [e1]; exact hP', hD'.weaken (fun _ q _ h => hF _ h), hw'⟩ k3 T' rfl X'
    exact ⟨t2, Steps.trans st a1, b1⟩
/-- a call whose exceptions the caller's handlers catch -/
theorem g_tryV (G : gOK Γ own cc n mc ms) (F : gFinW Γ hh ret0 mc0 ms0 P0 X0) (ct : gCt (gD Γ) y bytes maxL ret n' mc' ms' (.ref b :: As) S Post PX) (mt : gMeth y bytes maxL ret As.length) (mi : gInst y) (hl : Cond.methodLink own index y ∈ gWords) (hκ : gK S b = κ) (ht : κ % 32 = ci + 1 ∧ ci < 15) (hc : vwCl[ci]?.map (fun q => q.1) = some y.cls) (hn : n' + 1 ≤ n) (hk : k + mc' ≤ mc) (hsl : sl + ms' ≤ ms) (hst : st = As.reverse ++ .ref b :: rest) (hcat : (rest.map fun v => v.category).sum ≤ 8) (d : decode cc pc = .ok (.invokevirtual index, 3)) (kk : ∀ v S', Post v S' → gW Γ (pc + 3) lo (v.toList ++ rest) S' (k + mc') (sl + ms'))
    (kx : ∀ E S', PX E S' → ∃ h, gHn own hh pc E h ∧ ∀ q, gW Γ h lo [.ref q] S' (k + mc') (sl + ms')) : gW Γ pc lo st S k sl := by
  obtain ⟨p, l, e1, R, s, m, args, below, meth, c, Q, A, D, cT, d0⟩ := Γ
  obtain ⟨hx, hb, hown, hts, hK, hA, hV, hRf, hRl, hRc, hRs⟩ := G
  obtain ⟨f1, f2, f3, f4⟩ := F
  intro H locs ls hR hS hL
  obtain ⟨ws, hP, hD, hw⟩ := hR
  have h0 : gK S b ≠ 0 := by rw [hκ]; omega
  obtain ⟨q0, he⟩ := hw.2 b h0
  rw [gEnt_o hκ (by omega), show κ % 32 - 1 = ci by omega] at he
  obtain ⟨r, hr, hr2⟩ := Option.map_eq_some_iff.mp hc
  have hv : ∃ cell : Cell, H[b]? = some cell ∧ cell.vm.isStatics = false ∧ s.vm.findClass y.cls = some cell.cls := by rw [← hr2]; exact va_recv hK hP hr he
  have hM := ct l hRf.2 D cT H.size
  have hG : GoodIn gWords (wsV own index y.cls y (Cond.code y bytes maxL ret :: gWords)) := gGood (fun w h => by
    simp only [wsV, List.cons_append, List.nil_append, List.mem_cons] at h
    rcases h with rfl | rfl | rfl | rfl | rfl | h
    · exact hl
    · exact mi.1
    · exact mi.2
    · exact mt.2.1
    · exact mt.1
    · exact h)
  have cw := cwV (R := R) (args := args) (s := s) (rm := gRm n' mc' ms') As.length hts hG rfl rfl rfl ⟨rfl, mt.2.2.1⟩ ⟨by rw [hRf.1]; exact hn, by rw [hRl]; have := mt.2.2.2; show 8 + (maxL + 11) + (36 * n' + 16) ≤ 36 * n + 16; omega⟩
  refine gNextX hD hw hS hA (vx_runV (As := As) (rest := rest) ⟨hx, hb, rfl, hown, hts⟩ hM cw ⟨gBlind, hv, gPcOf hK hP hD hw hS hA hV⟩ rfl rfl hL.1 hst (lv_room hcat) d ⟨by rw [hRc]; exact hk, by rw [hRs]; exact hsl⟩) (fun v S' H1 locs1 hp hR1 hS1 => kk v S' hp H1 locs1 ls hR1 hS1 hL) ?_
  intro E q S' H1 locs1 ce hpx hce hcv hcl hR1 hS1
  obtain ⟨h, ⟨pre, x, suf, g1, g2, g3, g4, g5, g6, rfl⟩, g8⟩ := kx E S' hpx
  refine vx_catch hown pre x suf (f3.trans g1) ?_ g3 g4 (hts _ g5) (hV.2.2.1 _ g6 rfl) hce hcv hcl (g8 q H1 locs1 ls hR1 hS1 hL)
  intro z hz
  rcases g2 z hz with h9 | ⟨h8, nm, h9, h10⟩
  · exact Or.inl h9
  · exact Or.inr ⟨h8, nm, hts _ h9, hV.2.2.2.2.2.2.2 _ h10⟩
theorem g_callSW (G : gOK Γ own cc n mc ms) (ct : gCtw (gD Γ) y bytes maxL ret hh n' mc' ms' As S Post gNo) (mt : gMethW y bytes maxL ret hh As.length) (mi : gStat y) (hl : Cond.methodLink own index y ∈ gWords) (hn : n' + 1 ≤ n) (hk : k + mc' ≤ mc) (hsl : sl + ms' ≤ ms) (hst : st = As.reverse ++ rest) (hcat : (rest.map fun v => v.category).sum ≤ 8) (d : decode cc pc = .ok (.invokestatic index, 3)) (kk : ∀ v S', Post v S' → gW Γ (pc + 3) lo (v.toList ++ rest) S' (k + mc') (sl + ms')) : gW Γ pc lo st S k sl := by
  obtain ⟨p, l, e1, R, s, m, args, below, meth, c, Q, A, D, cT, d0⟩ := Γ
  obtain ⟨hx, hb, hown, hts, hK, hA, hV, hRf, hRl, hRc, hRs⟩ := G
  intro H locs ls hR hS hL
  obtain ⟨ws, hP, hD, hw⟩ := hR
  have hM := gMetOf (ct l hRf.2 D cT H.size) gNo_absurd
  have hG : GoodIn gWords (va_wsS own index y (Cond.codeWith y bytes maxL ret hh :: gWords)) := gGood (fun w h => by
    simp only [va_wsS, List.cons_append, List.nil_append, List.mem_cons] at h
    rcases h with rfl | rfl | rfl | rfl | h
    · exact hl
    · exact mi
    · exact mt.2.1
    · exact mt.1
    · exact h)
  have cw := vx_cwSW (R := R) (args := args) (s := s) (rm := gRm n' mc' ms') As.length hts hG rfl rfl rfl mt.2.2.1 ⟨by rw [hRf.1]; exact hn, by rw [hRl]; have := mt.2.2.2; show 8 + (maxL + 11) + (36 * n' + 16) ≤ 36 * n + 16; omega⟩
  exact gNext hD hw hS hA (vx_runSW (As := As) (rest := rest) ⟨hx, hb, rfl, hown, hts⟩ hM cw ⟨gBlind, gPcOf hK hP hD hw hS hA hV⟩ rfl rfl hL.1 hst (lv_room hcat) d ⟨by rw [hRc]; exact hk, by rw [hRs]; exact hsl⟩) (fun v S' H1 locs1 hp hR1 hS1 => kk v S' hp H1 locs1 ls hR1 hS1 hL)
theorem g_iretW (G : gOK Γ own cc n mc ms) (F : gFinW Γ hh (some .int) mc ms Post PX) {v : Int32} (hp : Post (some (.int v)) S) (hk : k ≤ mc) (hsl : sl ≤ ms) (d : decode cc pc = .ok (.ireturn, 1)) : gW Γ pc lo [.int v] S k sl := by
  obtain ⟨p, l, e1, R, s, m, args, below, meth, c, Q, A, D, cT, d0⟩ := Γ
  obtain ⟨hx, hb, hown, hts, hK, hA, hV, hRf, hRl, hRc, hRs⟩ := G
  obtain ⟨f1, f2, f3, rfl⟩ := F
  intro H locs ls hR hS hL
  exact W.widen hk hsl (vx_ret (W.iret hx hb f1 (fun t ht hW => ⟨⟨_, S, rfl, hp, by rw [ht]; exact hR⟩, hS.F ht⟩) hS.2.2 d f2))
/-- the law's own frame: the script of L ints xs at b, outside of what a run may touch -/
def gScr (Γ : gC) (b L : Nat) (xs : Nat → Int32) : Prop :=
  match Γ with
  | (_, _, _, _, s, _, _, _, _, _, _, A, _, _, _) => va_X b L xs s s.heap ∧ b < s.heap.size ∧ ¬ A b
theorem g_sld {L j : Nat} {xs : Nat → Int32} (G : gOK Γ own cc n mc ms) (hX : gScr Γ b L xs) (hj : j < L) (h31 : j < 2 ^ 31) (d : decode cc pc = .ok (.iaload, 1)) (kk : gW Γ (pc + 1) lo (.int (xs j) :: st) S k sl) : gW Γ pc lo (.int (nI j) :: .ref b :: st) S k sl := by
  obtain ⟨p, l, e1, R, s, m, args, below, meth, c, Q, A, D, cT, d0⟩ := Γ
  obtain ⟨hx, hb, hown, hts, hK, hA, hV, hRf, hRl, hRc, hRs⟩ := G
  intro H locs ls hR hS hL
  have h := kk H locs ls hR hS hL
  refine va_sld hx hb hX.1 hX.2.1 hX.2.2 hS (nI_in2 hj h31) d ?_
  rw [nI_clamp h31]
  exact h
theorem g_slen {L : Nat} {xs : Nat → Int32} (G : gOK Γ own cc n mc ms) (hX : gScr Γ b L xs) (d : decode cc pc = .ok (.arraylength, 1)) (kk : gW Γ (pc + 1) lo (.int (nI L) :: st) S k sl) : gW Γ pc lo (.ref b :: st) S k sl := by
  obtain ⟨p, l, e1, R, s, m, args, below, meth, c, Q, A, D, cT, d0⟩ := Γ
  obtain ⟨hx, hb, hown, hts, hK, hA, hV, hRf, hRl, hRc, hRs⟩ := G
  intro H locs ls hR hS hL
  exact va_slen hx hb hX.1 hX.2.1 hX.2.2 hS d (kk H locs ls hR hS hL)
end GTRY
/-- the answer's row -/
def gOut (S : gS) (o : Nat) : Prop := gK S o = 18 ∧ gL S o = 1
theorem gOut.fr {S S' : gS} {o : Nat} {K : Nat → Prop} (h : gOut S o) (F : gFr K S S') : gOut S' o := ⟨F.K h.1 (by decide), ((F.1 o (by rw [h.1]; decide)).2).trans h.2⟩
theorem gFr_Z {K : Nat → Prop} {S : gS} {κ p q : Nat} {v : Int64} (h : ∀ k, K k → k ≠ κ) : gFr K S (sZ S κ p q v) := ⟨fun _ _ => ⟨rfl, rfl⟩, fun k hk => ⟨rfl, rfl, u3_kf _ _ (h k hk)⟩⟩
/-- what a caught call leaves: the answer in the row and 0, or the throw's number -/
def gLw (S : gS) (o : Nat) (Post : Option Value → gS → Prop) (PX : String → gS → Prop) (cs : List (String × Int32)) : Option Value → gS → Prop := fun v' S' => (∃ q S1, Post (some (.int q)) S1 ∧ v' = some (.int (nI 0)) ∧ S' = sZ S1 18 o 0 q.toInt64) ∨ ∃ E c, PX E S' ∧ (E, c) ∈ cs ∧ v' = some (.int c)
theorem kce_ISE : Cond.castable "java/lang/IllegalStateException" "java/lang/IllegalStateException" ∈ tables_1 := g_u2 110 rfl
theorem kce_IAE : Cond.castable "java/lang/IllegalArgumentException" "java/lang/IllegalArgumentException" ∈ tables_1 := g_u2 189 rfl
theorem kce_IOE : Cond.castable "java/lang/IndexOutOfBoundsException" "java/lang/IndexOutOfBoundsException" ∈ tables_1 := g_u2 217 rfl

theorem in_L : Cond.initialized "CourtMailLaw" ∈ gWords := g_t1 0 rfl rfl
set_option maxRecDepth 4000 in
theorem mw_L_feed : gMethW yL_feed cL_feed 8 (some .int) [(0, 16, 19, 13)] 7 := ⟨g_t2 102 rfl rfl, in_L, ⟨by decide +kernel, by decide +kernel, by decide +kernel⟩, by decide⟩
set_option maxRecDepth 4000 in
theorem mw_L_trim : gMethW yL_trim cL_trim 4 (some .int) [(0, 9, 12, 19)] 3 := ⟨g_t2 181 rfl rfl, in_L, ⟨by decide +kernel, by decide +kernel, by decide +kernel⟩, by decide⟩
set_option maxRecDepth 4000 in
theorem mw_L_file : gMethW yL_file cL_file 4 (some .int) [(0, 9, 12, 24), (0, 9, 15, 13)] 3 := ⟨g_t2 205 rfl rfl, in_L, ⟨by decide +kernel, by decide +kernel, by decide +kernel⟩, by decide⟩
set_option maxRecDepth 4000 in
theorem mw_L_veil : gMethW yL_veil cL_veil 7 (some .int) [(0, 14, 17, 24), (0, 14, 21, 19)] 6 := ⟨g_t3 154 rfl rfl, in_L, ⟨by decide +kernel, by decide +kernel, by decide +kernel⟩, by decide⟩
set_option maxRecDepth 4000 in
theorem mw_L_document : gMethW yL_document cL_document 5 (some .int) [(0, 10, 13, 24)] 4 := ⟨g_t3 178 rfl rfl, in_L, ⟨by decide +kernel, by decide +kernel, by decide +kernel⟩, by decide⟩
set_option maxRecDepth 4000 in
theorem mw_L_open : gMethW yL_open cL_open 4 (some .int) [(0, 9, 12, 19), (0, 9, 15, 13)] 3 := ⟨g_t3 186 rfl rfl, in_L, ⟨by decide +kernel, by decide +kernel, by decide +kernel⟩, by decide⟩
set_option maxRecDepth 4000 in
theorem mw_L_seal : gMethW yL_seal cL_seal 5 (some .int) [(0, 10, 13, 24), (0, 10, 17, 19)] 4 := ⟨g_t3 211 rfl rfl, in_L, ⟨by decide +kernel, by decide +kernel, by decide +kernel⟩, by decide⟩
set_option maxRecDepth 4000 in
theorem mw_L_addPerson : gMethW yL_addPerson cL_addPerson 5 (some .int) [(0, 10, 13, 19), (0, 10, 17, 13)] 4 := ⟨g_t3 218 rfl rfl, in_L, ⟨by decide +kernel, by decide +kernel, by decide +kernel⟩, by decide⟩
set_option maxRecDepth 4000 in
theorem mw_L_attach : gMethW yL_attach cL_attach 5 (some .int) [(0, 17, 20, 24)] 4 := ⟨g_t4 16 rfl rfl, in_L, ⟨by decide +kernel, by decide +kernel, by decide +kernel⟩, by decide⟩
set_option maxRecDepth 4000 in
theorem mw_L_person : gMethW yL_person cL_person 5 (some .int) [(0, 10, 13, 24)] 4 := ⟨g_t4 29 rfl rfl, in_L, ⟨by decide +kernel, by decide +kernel, by decide +kernel⟩, by decide⟩
set_option maxRecDepth 4000 in
theorem mw_L_caseOf : gMethW yL_caseOf cL_caseOf 5 (some .int) [(0, 10, 13, 24)] 4 := ⟨g_t4 37 rfl rfl, in_L, ⟨by decide +kernel, by decide +kernel, by decide +kernel⟩, by decide⟩
set_option maxRecDepth 4000 in
theorem mw_L_read : gMethW yL_read cL_read 5 (some .int) [(0, 10, 13, 24)] 4 := ⟨g_t4 45 rfl rfl, in_L, ⟨by decide +kernel, by decide +kernel, by decide +kernel⟩, by decide⟩
set_option maxRecDepth 4000 in
theorem mw_L_byteAt : gMethW yL_byteAt cL_byteAt 4 (some .int) [(0, 9, 12, 24)] 3 := ⟨g_t4 71 rfl rfl, in_L, ⟨by decide +kernel, by decide +kernel, by decide +kernel⟩, by decide⟩
set_option maxRecDepth 4000 in
theorem mw_L_hidden : gMethW yL_hidden cL_hidden 5 (some .int) [(0, 10, 13, 24)] 4 := ⟨g_t4 79 rfl rfl, in_L, ⟨by decide +kernel, by decide +kernel, by decide +kernel⟩, by decide⟩
set_option maxRecDepth 4000 in
theorem mw_L_differs : gMethW yL_differs cL_differs 6 (some .int) [(0, 12, 15, 24)] 5 := ⟨g_t4 94 rfl rfl, in_L, ⟨by decide +kernel, by decide +kernel, by decide +kernel⟩, by decide⟩
set_option maxRecDepth 4000 in
theorem mw_L_find : gMethW yL_find cL_find 5 (some .int) [(0, 10, 13, 24)] 4 := ⟨g_t4 101 rfl rfl, in_L, ⟨by decide +kernel, by decide +kernel, by decide +kernel⟩, by decide⟩
set_option maxRecDepth 4000 in
theorem mw_L_least : gMethW yL_least cL_least 6 (some .int) [(0, 12, 15, 24), (0, 12, 19, 19)] 5 := ⟨g_t4 112 rfl rfl, in_L, ⟨by decide +kernel, by decide +kernel, by decide +kernel⟩, by decide⟩
set_option maxRecDepth 4000 in
theorem mw_L_lend : gMethW yL_lend cL_lend 6 (some .int) [(0, 12, 15, 24), (0, 12, 19, 19), (0, 12, 23, 13)] 5 := ⟨g_t4 120 rfl rfl, in_L, ⟨by decide +kernel, by decide +kernel, by decide +kernel⟩, by decide⟩
set_option maxRecDepth 4000 in
theorem mw_L_back : gMethW yL_back cL_back 4 (some .int) [(0, 9, 12, 24)] 3 := ⟨g_t4 130 rfl rfl, in_L, ⟨by decide +kernel, by decide +kernel, by decide +kernel⟩, by decide⟩
set_option maxRecDepth 4000 in
theorem mw_L_takeIn : gMethW yL_takeIn cL_takeIn 4 (some .int) [(0, 9, 12, 24), (0, 9, 15, 13)] 3 := ⟨g_t4 141 rfl rfl, in_L, ⟨by decide +kernel, by decide +kernel, by decide +kernel⟩, by decide⟩
set_option maxRecDepth 4000 in
theorem mw_L_hand : gMethW yL_hand cL_hand 5 (some .int) [(0, 10, 13, 24), (0, 10, 17, 13)] 4 := ⟨g_t4 181 rfl rfl, in_L, ⟨by decide +kernel, by decide +kernel, by decide +kernel⟩, by decide⟩
set_option maxRecDepth 4000 in
theorem mw_L_unseal : gMethW yL_unseal cL_unseal 4 (some .int) [(0, 9, 12, 24), (0, 9, 15, 13)] 3 := ⟨g_t4 227 rfl rfl, in_L, ⟨by decide +kernel, by decide +kernel, by decide +kernel⟩, by decide⟩
set_option maxRecDepth 4000 in
theorem mw_L_lose : gMethW yL_lose cL_lose 4 (some .int) [(0, 9, 12, 24), (0, 9, 15, 13)] 3 := ⟨g_t4 236 rfl rfl, in_L, ⟨by decide +kernel, by decide +kernel, by decide +kernel⟩, by decide⟩
set_option maxRecDepth 4000 in
theorem mw_L_found : gMethW yL_found cL_found 5 (some .int) [(0, 10, 13, 24), (0, 10, 17, 13)] 4 := ⟨g_t5 4 rfl rfl, in_L, ⟨by decide +kernel, by decide +kernel, by decide +kernel⟩, by decide⟩
set_option maxRecDepth 4000 in
theorem mw_L_exhibit : gMethW yL_exhibit cL_exhibit 5 (some .int) [(0, 10, 13, 24)] 4 := ⟨g_t5 12 rfl rfl, in_L, ⟨by decide +kernel, by decide +kernel, by decide +kernel⟩, by decide⟩
set_option maxRecDepth 4000 in
theorem mw_L_link : gMethW yL_link cL_link 6 (some .int) [(0, 12, 15, 24)] 5 := ⟨g_t5 20 rfl rfl, in_L, ⟨by decide +kernel, by decide +kernel, by decide +kernel⟩, by decide⟩
set_option maxRecDepth 4000 in
theorem mw_L_send : gMethW yL_send cL_send 6 (some .int) [(0, 12, 15, 24), (0, 12, 19, 19), (0, 12, 23, 13)] 5 := ⟨g_t5 28 rfl rfl, in_L, ⟨by decide +kernel, by decide +kernel, by decide +kernel⟩, by decide⟩
set_option maxRecDepth 4000 in
theorem mw_L_letter : gMethW yL_letter cL_letter 5 (some .int) [(0, 10, 13, 24)] 4 := ⟨g_t5 67 rfl rfl, in_L, ⟨by decide +kernel, by decide +kernel, by decide +kernel⟩, by decide⟩
set_option maxRecDepth 4000 in
theorem mw_L_pass : gMethW yL_pass cL_pass 4 (some .int) [(0, 9, 12, 19)] 3 := ⟨g_t5 79 rfl rfl, in_L, ⟨by decide +kernel, by decide +kernel, by decide +kernel⟩, by decide⟩
set_option maxRecDepth 4000 in
theorem mw_L_arrives : gMethW yL_arrives cL_arrives 4 (some .int) [(0, 9, 12, 24)] 3 := ⟨g_t5 112 rfl rfl, in_L, ⟨by decide +kernel, by decide +kernel, by decide +kernel⟩, by decide⟩
set_option maxRecDepth 4000 in
theorem mw_L_count : gMethW yL_count cL_count 4 (some .int) [(0, 9, 12, 24)] 3 := ⟨g_t5 130 rfl rfl, in_L, ⟨by decide +kernel, by decide +kernel, by decide +kernel⟩, by decide⟩
set_option maxRecDepth 4000 in
theorem mw_L_sees : gMethW yL_sees cL_sees 4 (some .int) [(0, 9, 12, 24)] 3 := ⟨g_t5 138 rfl rfl, in_L, ⟨by decide +kernel, by decide +kernel, by decide +kernel⟩, by decide⟩
