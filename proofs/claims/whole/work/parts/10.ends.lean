/-! ===== rows that call and that end ===== -/
theorem gNo_absurd {D : va_G} {cT : Nat → ClassId} {A : Nat → Prop} : ∀ E st t, ¬ gXC D cT A gNo E st t := fun _ _ _ h => by
  obtain ⟨⟨_, h, _⟩, _⟩ := h
  exact h
section GCALLS
variable {Γ : gC} {own : String} {cc : ByteArray} {n mc ms pc : Nat} {lo lo' : List (Option Value)} {st rest : List Value} {S : gS} {k sl : Nat}
variable {y : MethodName} {bytes : ByteArray} {maxL n' mc' ms' index κ ci b : Nat} {ret : Option FieldType} {As : List Value} {Post : Option Value → gS → Prop} {PX : String → gS → Prop}
theorem g_callV (G : gOK Γ own cc n mc ms) (ct : gCt (gD Γ) y bytes maxL ret n' mc' ms' (.ref b :: As) S Post gNo) (mt : gMeth y bytes maxL ret As.length) (mi : gInst y) (hl : Cond.methodLink own index y ∈ gWords) (hκ : gK S b = κ) (ht : κ % 32 = ci + 1 ∧ ci < 15) (hc : vwCl[ci]?.map (fun q => q.1) = some y.cls) (hn : n' + 1 ≤ n) (hk : k + mc' ≤ mc) (hsl : sl + ms' ≤ ms) (hst : st = As.reverse ++ .ref b :: rest) (hcat : (rest.map fun v => v.category).sum ≤ 8) (d : decode cc pc = .ok (.invokevirtual index, 3)) (kk : ∀ v S', Post v S' → gW Γ (pc + 3) lo (v.toList ++ rest) S' (k + mc') (sl + ms')) : gW Γ pc lo st S k sl := by
  obtain ⟨p, l, e1, R, s, m, args, below, meth, c, Q, A, D, cT, d0⟩ := Γ
  obtain ⟨hx, hb, hown, hts, hK, hA, hV, hRf, hRl, hRc, hRs⟩ := G
  intro H locs ls hR hS hL
  obtain ⟨ws, hP, hD, hw⟩ := hR
  have h0 : gK S b ≠ 0 := by rw [hκ]; omega
  obtain ⟨q0, he⟩ := hw.2 b h0
  rw [gEnt_o hκ (by omega), show κ % 32 - 1 = ci by omega] at he
  obtain ⟨r, hr, hr2⟩ := Option.map_eq_some_iff.mp hc
  have hv : ∃ cell : Cell, H[b]? = some cell ∧ cell.vm.isStatics = false ∧ s.vm.findClass y.cls = some cell.cls := by rw [← hr2]; exact va_recv hK hP hr he
  have hM := gMetOf (ct l hRf.2 D cT H.size) gNo_absurd
  have hG : GoodIn gWords (wsV own index y.cls y (Cond.code y bytes maxL ret :: gWords)) := gGood (fun w h => by
    simp only [wsV, List.cons_append, List.nil_append, List.mem_cons] at h
    rcases h with rfl | rfl | rfl | rfl | rfl | h
    · exact hl
    · exact mi.1
    · exact mi.2
    · exact mt.2.1
    · exact mt.1
    · exact h)
  have cw := cwV (R := R) (args := args) (s := s) (rm := gRm n' mc' ms') As.length hts hG rfl rfl rfl ⟨rfl, mt.2.2.1⟩ ⟨by rw [hRf.1]; exact hn, by rw [hRl]; have := mt.2.2.2; show 8 + (maxL + 11) + (36 * n' + 16) ≤ 36 * n + 16; omega⟩
  exact gNext hD hw hS hA (va_runV (As := As) (rest := rest) ⟨hx, hb, rfl, hown, hts⟩ hM cw ⟨gBlind, hv, gPcOf hK hP hD hw hS hA hV⟩ rfl rfl hL.1 hst (lv_room hcat) d ⟨by rw [hRc]; exact hk, by rw [hRs]; exact hsl⟩) (fun v S' H1 locs1 hp hR1 hS1 => kk v S' hp H1 locs1 ls hR1 hS1 hL)
theorem g_callS (G : gOK Γ own cc n mc ms) (ct : gCt (gD Γ) y bytes maxL ret n' mc' ms' As S Post gNo) (mt : gMeth y bytes maxL ret As.length) (mi : gStat y) (hl : Cond.methodLink own index y ∈ gWords) (hn : n' + 1 ≤ n) (hk : k + mc' ≤ mc) (hsl : sl + ms' ≤ ms) (hst : st = As.reverse ++ rest) (hcat : (rest.map fun v => v.category).sum ≤ 8) (d : decode cc pc = .ok (.invokestatic index, 3)) (kk : ∀ v S', Post v S' → gW Γ (pc + 3) lo (v.toList ++ rest) S' (k + mc') (sl + ms')) : gW Γ pc lo st S k sl := by
  obtain ⟨p, l, e1, R, s, m, args, below, meth, c, Q, A, D, cT, d0⟩ := Γ
  obtain ⟨hx, hb, hown, hts, hK, hA, hV, hRf, hRl, hRc, hRs⟩ := G
  intro H locs ls hR hS hL
  obtain ⟨ws, hP, hD, hw⟩ := hR
  have hM := gMetOf (ct l hRf.2 D cT H.size) gNo_absurd
  have hG : GoodIn gWords (va_wsS own index y (Cond.code y bytes maxL ret :: gWords)) := gGood (fun w h => by
    simp only [va_wsS, List.cons_append, List.nil_append, List.mem_cons] at h
    rcases h with rfl | rfl | rfl | rfl | h
    · exact hl
    · exact mi
    · exact mt.2.1
    · exact mt.1
    · exact h)
  have cw := va_cwS (R := R) (args := args) (s := s) (rm := gRm n' mc' ms') As.length hts hG rfl rfl rfl mt.2.2.1 ⟨by rw [hRf.1]; exact hn, by rw [hRl]; have := mt.2.2.2; show 8 + (maxL + 11) + (36 * n' + 16) ≤ 36 * n + 16; omega⟩
  exact gNext hD hw hS hA (va_runS (As := As) (rest := rest) ⟨hx, hb, rfl, hown, hts⟩ hM cw ⟨gBlind, gPcOf hK hP hD hw hS hA hV⟩ rfl rfl hL.1 hst (lv_room hcat) d ⟨by rw [hRc]; exact hk, by rw [hRs]; exact hsl⟩) (fun v S' H1 locs1 hp hR1 hS1 => kk v S' hp H1 locs1 ls hR1 hS1 hL)
theorem g_callI (G : gOK Γ own cc n mc ms) (ct : gCt (gD Γ) y bytes maxL none n' mc' ms' (.ref b :: As) S Post gNo) (mt : gMeth y bytes maxL none As.length) (mi : gCtor y) (hl : Cond.methodLink own index y ∈ gWords) (hn : n' + 1 ≤ n) (hk : k + mc' ≤ mc) (hsl : sl + ms' ≤ ms) (hst : st = As.reverse ++ .ref b :: rest) (hcat : (rest.map fun v => v.category).sum ≤ 8) (d : decode cc pc = .ok (.invokespecial index, 3)) (kk : ∀ v S', Post v S' → gW Γ (pc + 3) lo (v.toList ++ rest) S' (k + mc') (sl + ms')) : gW Γ pc lo st S k sl := by
  obtain ⟨p, l, e1, R, s, m, args, below, meth, c, Q, A, D, cT, d0⟩ := Γ
  obtain ⟨hx, hb, hown, hts, hK, hA, hV, hRf, hRl, hRc, hRs⟩ := G
  intro H locs ls hR hS hL
  obtain ⟨ws, hP, hD, hw⟩ := hR
  have hM := gMetOf (ct l hRf.2 D cT H.size) gNo_absurd
  have hG : GoodIn gWords (Cond.code y bytes maxL none :: gWords) := gGood (fun w h => (List.mem_cons.mp h).elim (fun e => by rw [e]; exact mt.1) id)
  have cw := cwI (R := R) (args := args) (s := s) (rm := gRm n' mc' ms') As.length hts hG rfl rfl rfl (hts _ mt.2.1) (hts _ hl) (hts _ mi.1) mi.2 mt.2.2.1 ⟨by rw [hRf.1]; exact hn, by rw [hRl]; have := mt.2.2.2; show 8 + (maxL + 11) + (36 * n' + 16) ≤ 36 * n + 16; omega⟩
  exact gNext hD hw hS hA (va_runI (As := As) (rest := rest) ⟨hx, hb, rfl, hown, hts⟩ hM cw ⟨gBlind, gPcOf hK hP hD hw hS hA hV⟩ rfl rfl hL.1 hst (lv_room hcat) d ⟨by rw [hRc]; exact hk, by rw [hRs]; exact hsl⟩) (fun v S' H1 locs1 hp hR1 hS1 => kk v S' hp H1 locs1 ls hR1 hS1 hL)
theorem g_callVN (G : gOK Γ own cc n mc ms) {host : String} (ct : gCt (gD Γ) y bytes maxL ret n' mc' ms' (.ref b :: As) S Post gNo) (mt : gMeth y bytes maxL ret As.length) (mi : gInst y) (hl : Cond.methodLinkNest own index y host ∈ tables_1) (hκ : gK S b = κ) (ht : κ % 32 = ci + 1 ∧ ci < 15) (hc : vwCl[ci]?.map (fun q => q.1) = some y.cls) (hn : n' + 1 ≤ n) (hk : k + mc' ≤ mc) (hsl : sl + ms' ≤ ms) (hst : st = As.reverse ++ .ref b :: rest) (hcat : (rest.map fun v => v.category).sum ≤ 8) (d : decode cc pc = .ok (.invokevirtual index, 3)) (kk : ∀ v S', Post v S' → gW Γ (pc + 3) lo (v.toList ++ rest) S' (k + mc') (sl + ms')) : gW Γ pc lo st S k sl := by
  obtain ⟨p, l, e1, R, s, m, args, below, meth, c, Q, A, D, cT, d0⟩ := Γ
  obtain ⟨hx, hb, hown, hts, hK, hA, hV, hRf, hRl, hRc, hRs⟩ := G
  intro H locs ls hR hS hL
  obtain ⟨ws, hP, hD, hw⟩ := hR
  have h0 : gK S b ≠ 0 := by rw [hκ]; omega
  obtain ⟨q0, he⟩ := hw.2 b h0
  rw [gEnt_o hκ (by omega), show κ % 32 - 1 = ci by omega] at he
  obtain ⟨r, hr, hr2⟩ := Option.map_eq_some_iff.mp hc
  have hv : ∃ cell : Cell, H[b]? = some cell ∧ cell.vm.isStatics = false ∧ s.vm.findClass y.cls = some cell.cls := by rw [← hr2]; exact va_recv hK hP hr he
  have hM := gMetOf (ct l hRf.2 D cT H.size) gNo_absurd
  have hG : GoodIn gWords (Cond.code y bytes maxL ret :: gWords) := gGood (fun w h => (List.mem_cons.mp h).elim (fun e => by rw [e]; exact mt.1) id)
  have cw := va_cnB (R := R) (args := args) (s := s) (rm := gRm n' mc' ms') As.length hts hG rfl rfl rfl (hV.2.2.1 _ hl rfl) (hts _ mt.2.1) mt.2.2.1 ⟨by rw [hRf.1]; exact hn, by rw [hRl]; have := mt.2.2.2; show 8 + (maxL + 11) + (36 * n' + 16) ≤ 36 * n + 16; omega⟩
  exact gNext hD hw hS hA (va_runVN (As := As) (rest := rest) ⟨hx, hb, rfl, hown, hts⟩ hM ⟨cw, hts _ mi.1, hts _ mi.2⟩ ⟨gBlind, hv, gPcOf hK hP hD hw hS hA hV⟩ rfl rfl hL.1 hst (lv_room hcat) d ⟨by rw [hRc]; exact hk, by rw [hRs]; exact hsl⟩) (fun v S' H1 locs1 hp hR1 hS1 => kk v S' hp H1 locs1 ls hR1 hS1 hL)
theorem g_callIN (G : gOK Γ own cc n mc ms) {host : String} (ct : gCt (gD Γ) y bytes maxL none n' mc' ms' (.ref b :: As) S Post gNo) (mt : gMeth y bytes maxL none As.length) (mi : gCtor y) (hl : Cond.methodLinkNest own index y host ∈ tables_1) (hn : n' + 1 ≤ n) (hk : k + mc' ≤ mc) (hsl : sl + ms' ≤ ms) (hst : st = As.reverse ++ .ref b :: rest) (hcat : (rest.map fun v => v.category).sum ≤ 8) (d : decode cc pc = .ok (.invokespecial index, 3)) (kk : ∀ v S', Post v S' → gW Γ (pc + 3) lo (v.toList ++ rest) S' (k + mc') (sl + ms')) : gW Γ pc lo st S k sl := by
  obtain ⟨p, l, e1, R, s, m, args, below, meth, c, Q, A, D, cT, d0⟩ := Γ
  obtain ⟨hx, hb, hown, hts, hK, hA, hV, hRf, hRl, hRc, hRs⟩ := G
  intro H locs ls hR hS hL
  obtain ⟨ws, hP, hD, hw⟩ := hR
  have hM := gMetOf (ct l hRf.2 D cT H.size) gNo_absurd
  have hG : GoodIn gWords (Cond.code y bytes maxL none :: gWords) := gGood (fun w h => (List.mem_cons.mp h).elim (fun e => by rw [e]; exact mt.1) id)
  have cw := va_cnB (R := R) (args := args) (s := s) (rm := gRm n' mc' ms') As.length hts hG rfl rfl rfl (hV.2.2.1 _ hl rfl) (hts _ mt.2.1) mt.2.2.1 ⟨by rw [hRf.1]; exact hn, by rw [hRl]; have := mt.2.2.2; show 8 + (maxL + 11) + (36 * n' + 16) ≤ 36 * n + 16; omega⟩
  exact gNext hD hw hS hA (va_runIN (As := As) (rest := rest) ⟨hx, hb, rfl, hown, hts⟩ hM ⟨cw, mi.2, hts _ mi.1⟩ ⟨gBlind, gPcOf hK hP hD hw hS hA hV⟩ rfl rfl hL.1 hst (lv_room hcat) d ⟨by rw [hRc]; exact hk, by rw [hRs]; exact hsl⟩) (fun v S' H1 locs1 hp hR1 hS1 => kk v S' hp H1 locs1 ls hR1 hS1 hL)
theorem g_callVp (G : gOK Γ own cc n mc ms) {v : Value} (ct : gCt (gD Γ) y bytes maxL ret n' 0 0 (.ref b :: As) S (fun v' S' => v' = some v ∧ S' = S) gNo) (mt : gMeth y bytes maxL ret As.length) (mi : gInst y) (hl : Cond.methodLink own index y ∈ gWords) (hκ : gK S b = κ) (ht : κ % 32 = ci + 1 ∧ ci < 15) (hc : vwCl[ci]?.map (fun q => q.1) = some y.cls) (hn : n' + 1 ≤ n) (hk : k ≤ mc) (hsl : sl ≤ ms) (hst : st = As.reverse ++ .ref b :: rest) (hcat : (rest.map fun v => v.category).sum ≤ 8) (d : decode cc pc = .ok (.invokevirtual index, 3)) (kk : gW Γ (pc + 3) lo (v :: rest) S k sl) : gW Γ pc lo st S k sl :=
  g_callV G ct mt mi hl hκ ht hc hn hk hsl hst hcat d (fun v' S' h => by obtain ⟨rfl, rfl⟩ := h; exact kk)
theorem g_callVNp (G : gOK Γ own cc n mc ms) {host : String} {v : Value} (ct : gCt (gD Γ) y bytes maxL ret n' 0 0 (.ref b :: As) S (fun v' S' => v' = some v ∧ S' = S) gNo) (mt : gMeth y bytes maxL ret As.length) (mi : gInst y) (hl : Cond.methodLinkNest own index y host ∈ tables_1) (hκ : gK S b = κ) (ht : κ % 32 = ci + 1 ∧ ci < 15) (hc : vwCl[ci]?.map (fun q => q.1) = some y.cls) (hn : n' + 1 ≤ n) (hk : k ≤ mc) (hsl : sl ≤ ms) (hst : st = As.reverse ++ .ref b :: rest) (hcat : (rest.map fun v => v.category).sum ≤ 8) (d : decode cc pc = .ok (.invokevirtual index, 3)) (kk : gW Γ (pc + 3) lo (v :: rest) S k sl) : gW Γ pc lo st S k sl :=
  g_callVN G ct mt mi hl hκ ht hc hn hk hsl hst hcat d (fun v' S' h => by obtain ⟨rfl, rfl⟩ := h; exact kk)
theorem g_callSp (G : gOK Γ own cc n mc ms) {v : Value} (ct : gCt (gD Γ) y bytes maxL ret n' 0 0 As S (fun v' S' => v' = some v ∧ S' = S) gNo) (mt : gMeth y bytes maxL ret As.length) (mi : gStat y) (hl : Cond.methodLink own index y ∈ gWords) (hn : n' + 1 ≤ n) (hk : k ≤ mc) (hsl : sl ≤ ms) (hst : st = As.reverse ++ rest) (hcat : (rest.map fun v => v.category).sum ≤ 8) (d : decode cc pc = .ok (.invokestatic index, 3)) (kk : gW Γ (pc + 3) lo (v :: rest) S k sl) : gW Γ pc lo st S k sl :=
  g_callS G ct mt mi hl hn hk hsl hst hcat d (fun v' S' h => by obtain ⟨rfl, rfl⟩ := h; exact kk)
theorem g_objInit (G : gOK Γ own cc n mc ms) (h1 : Cond.methodLink own index objectInit ∈ gWords) (h2 : Cond.instanceMethod objectInit ∈ gWords) (h3 : Cond.code objectInit ⟨#[0xb1]⟩ 1 none ∈ gWords) (hn : 1 ≤ n) (hst : (rest.map fun v => v.category).sum ≤ 8) (d : decode cc pc = .ok (.invokespecial index, 3)) (kk : gW Γ (pc + 3) lo rest S k sl) : gW Γ pc lo (.ref b :: rest) S k sl := by
  obtain ⟨p, l, e1, R, s, m, args, below, meth, c, Q, A, D, cT, d0⟩ := Γ
  obtain ⟨hx, hb, hown, hts, hK, hA, hV, hRf, hRl, hRc, hRs⟩ := G
  intro H locs ls hR hS hL
  obtain ⟨ws, hP, hD, hw⟩ := hR
  refine W.objInit hx hb hown (hts _ h1) (hts _ h2) (hts _ h3) rfl hL.1 rfl d (by rw [hRf.1]; exact hn) (by rw [hRl]; show _ ≤ 36 * n + 16; simp only [JFrame.monitorRoom]; omega) ?_
  exact kk H locs ls ⟨ws, hP, hD, hw⟩ hS hL
theorem g_iret (G : gOK Γ own cc n mc ms) (F : gFin Γ (some .int) mc ms Post PX) {v : Int32} (hp : Post (some (.int v)) S) (hk : k ≤ mc) (hsl : sl ≤ ms) (d : decode cc pc = .ok (.ireturn, 1)) : gW Γ pc lo [.int v] S k sl := by
  obtain ⟨p, l, e1, R, s, m, args, below, meth, c, Q, A, D, cT, d0⟩ := Γ
  obtain ⟨hx, hb, hown, hts, hK, hA, hV, hRf, hRl, hRc, hRs⟩ := G
  obtain ⟨f1, f2, f3, rfl⟩ := F
  intro H locs ls hR hS hL
  exact W.widen hk hsl (vx_ret (W.iret hx hb f1 (fun t ht hW => ⟨⟨_, S, rfl, hp, by rw [ht]; exact hR⟩, hS.F ht⟩) hS.2.2 d f2))
theorem g_zret (G : gOK Γ own cc n mc ms) (F : gFin Γ (some .boolean) mc ms Post PX) {v : Int32} (hz : okZ (.int v)) (hp : Post (some (.int v)) S) (hk : k ≤ mc) (hsl : sl ≤ ms) (d : decode cc pc = .ok (.ireturn, 1)) : gW Γ pc lo [.int v] S k sl := by
  obtain ⟨p, l, e1, R, s, m, args, below, meth, c, Q, A, D, cT, d0⟩ := Γ
  obtain ⟨hx, hb, hown, hts, hK, hA, hV, hRf, hRl, hRc, hRs⟩ := G
  obtain ⟨f1, f2, f3, rfl⟩ := F
  intro H locs ls hR hS hL
  exact W.widen hk hsl (vx_ret (W.zret (ty := .boolean) hx hb f1 (by rcases hz with hz | hz <;> cases hz <;> decide) (fun t ht hW => ⟨⟨_, S, rfl, hp, by rw [ht]; exact hR⟩, hS.F ht⟩) hS.2.2 d f2))
theorem g_lret (G : gOK Γ own cc n mc ms) (F : gFin Γ (some .long) mc ms Post PX) {v : Int64} (hp : Post (some (.long v)) S) (hk : k ≤ mc) (hsl : sl ≤ ms) (d : decode cc pc = .ok (.lreturn, 1)) : gW Γ pc lo [.long v] S k sl := by
  obtain ⟨p, l, e1, R, s, m, args, below, meth, c, Q, A, D, cT, d0⟩ := Γ
  obtain ⟨hx, hb, hown, hts, hK, hA, hV, hRf, hRl, hRc, hRs⟩ := G
  obtain ⟨f1, f2, f3, rfl⟩ := F
  intro H locs ls hR hS hL
  exact W.widen hk hsl (vx_ret (W.lret hx hb f1 (fun t ht hW => ⟨⟨_, S, rfl, hp, by rw [ht]; exact hR⟩, hS.F ht⟩) hS.2.2 d f2))
theorem g_dret (G : gOK Γ own cc n mc ms) (F : gFin Γ (some .double) mc ms Post PX) {v : UInt64} (hp : Post (some (.double v)) S) (hk : k ≤ mc) (hsl : sl ≤ ms) (d : decode cc pc = .ok (.dreturn, 1)) : gW Γ pc lo [.double v] S k sl := by
  obtain ⟨p, l, e1, R, s, m, args, below, meth, c, Q, A, D, cT, d0⟩ := Γ
  obtain ⟨hx, hb, hown, hts, hK, hA, hV, hRf, hRl, hRc, hRs⟩ := G
  obtain ⟨f1, f2, f3, rfl⟩ := F
  intro H locs ls hR hS hL
  exact W.widen hk hsl (vx_ret (W.dret hx hb f1 (fun t ht hW => ⟨⟨_, S, rfl, hp, by rw [ht]; exact hR⟩, hS.F ht⟩) hS.2.2 d f2))
theorem g_vret (G : gOK Γ own cc n mc ms) (F : gFin Γ none mc ms Post PX) (hp : Post none S) (hk : k ≤ mc) (hsl : sl ≤ ms) (d : decode cc pc = .ok (.return_, 1)) : gW Γ pc lo [] S k sl := by
  obtain ⟨p, l, e1, R, s, m, args, below, meth, c, Q, A, D, cT, d0⟩ := Γ
  obtain ⟨hx, hb, hown, hts, hK, hA, hV, hRf, hRl, hRc, hRs⟩ := G
  obtain ⟨f1, f2, f3, rfl⟩ := F
  intro H locs ls hR hS hL
  exact W.widen hk hsl (vx_ret (W.vret hx hb f1 (fun t ht hW => ⟨⟨_, S, rfl, hp, by rw [ht]; exact hR⟩, hS.F ht⟩) hS.2.2 d f2))
theorem g_aret (G : gOK Γ own cc n mc ms) {rt : FieldType} (F : gFin Γ (some rt) mc ms Post PX) {o : Option Nat} (hrt : (∃ n, rt = .object n) ∨ ∃ t, rt = .array t) (hp : Post (some (va_rf o)) S) (hk : k ≤ mc) (hsl : sl ≤ ms) (d : decode cc pc = .ok (.areturn, 1)) : gW Γ pc lo [va_rf o] S k sl := by
  obtain ⟨p, l, e1, R, s, m, args, below, meth, c, Q, A, D, cT, d0⟩ := Γ
  obtain ⟨hx, hb, hown, hts, hK, hA, hV, hRf, hRl, hRc, hRs⟩ := G
  obtain ⟨f1, f2, f3, rfl⟩ := F
  intro H locs ls hR hS hL
  exact W.widen hk hsl (vx_ret (W.aret hx hb f1 hrt (by cases o with | none => exact Or.inl rfl | some a => exact Or.inr ⟨a, rfl⟩) (fun t ht hW => ⟨⟨_, S, rfl, hp, by rw [ht]; exact hR⟩, hS.F ht⟩) hS.2.2 d f2))
theorem g_throw (G : gOK Γ own cc n mc ms) (F : gFin Γ ret mc ms Post PX) {cls text : String} {names : List String} {ik is ic : Nat} (hcls : Bundle.fit cls = true ∧ ∀ n ∈ names, Bundle.fit n = true) (hk9 : Cond.classLink own ik cls ∈ gWords) (hini : Cond.initialized cls ∈ gWords) (hstr : Cond.stringRef own is text ∈ tables_1)
    (hat : ∀ w ∈ vx_atS own ic cls names, w ∈ gWords ∨ (w ∈ tables_1 ∧ gNW w = true)) (d0 : decode cc pc = .ok (.new ik, 3)) (d3 : decode cc (pc + 3) = .ok (.dup, 1)) (d4 : decode cc (pc + 4) = .ok (.ldc is, 2)) (d6 : decode cc (pc + 6) = .ok (.invokespecial ic, 3)) (d9 : decode cc (pc + 9) = .ok (.athrow, 1))
    (hn : names.length + 3 < n ∧ names.length ≤ 6) (hcat : (st.map fun v => v.category).sum ≤ 8) (hk : k + 1 ≤ mc) (hsl : sl + 6 ≤ ms) (hp : PX cls S) : gW Γ pc lo st S k sl := by
  obtain ⟨p, l, e1, R, s, m, args, below, meth, c, Q, A, D, cT, d09⟩ := Γ
  obtain ⟨hx, hb, hown, hts, hK, hA, hV, hRf, hRl, hRc, hRs⟩ := G
  obtain ⟨f1, f2, f3, rfl⟩ := F
  intro H locs ls hR hS hL
  obtain ⟨sa, hsa⟩ := hV.2.1 _ _ _ hstr
  have hor : ∀ w : Cond, gNW w = true → w.onTables = true := fun w h => by cases w <;> first | rfl | cases h
  refine vx_throwS hx hb hRf.2 hown hcls.1 hcls.2 (hts _ hk9) (hts _ hini) hsa (fun w h => ?_) (fun w h => ?_) hV.1.1 hV.1.2.1 hS hL.1 d0 d3 d4 d6 d9 (fun x h => (f3 x h).elim) (by rw [hRf.1]; exact hn.1) (by rw [hRl]; have := hn.1; have := hn.2; omega) (by rw [hRc]; exact hk) (by rw [hRs]; exact hsl) f2 ?_ hS.2.2 hk hsl
  · rcases hat w h with h | ⟨h, h2⟩
    · exact hts _ h
    · exact va_Nw.use (hor w h2) (hV.2.2.1 _ h h2)
  · have hg : ∀ w, w ∈ gWords → vx_ot w = true := fun w h => by
      unfold vx_ot
      rw [(List.mem_filter.mp h).2, Bool.or_true]
    rcases List.mem_cons.mp h with rfl | h
    · exact hg _ hk9
    · rcases List.mem_cons.mp h with rfl | h
      · exact hg _ hini
      · rcases hat w h with h | ⟨h, h2⟩
        · exact hg _ h
        · unfold vx_ot
          rw [hor w h2, Bool.true_or]
  · intro t hvm hz hq
    obtain ⟨ws, hP, hD, hw⟩ := hR
    have hk9 : ∀ (k : Nat) (x : Nat × va_E), ws[k]? = some x → t.heap[x.1]? = H[x.1]? := fun k x hx => hq x.1 ((hP k x hx).lt)
    exact ⟨⟨S, hp, ws, hP.kept hk9, hD, hw⟩, Nat.le_trans hS.1 hz, fun q h1 h2 => (hq q (Nat.lt_of_lt_of_le h1 hS.1)).trans (hS.2.1 q h1 h2)⟩
end GCALLS
