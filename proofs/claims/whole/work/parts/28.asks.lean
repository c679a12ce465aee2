/-! ===== what is asked of the class ===== -/
section GCALLS
variable {Γ : gC} {own : String} {cc : ByteArray} {n mc ms pc : Nat} {lo lo' : List (Option Value)} {st rest : List Value} {S : gS} {k sl : Nat}
variable {ret : Option FieldType} {Post : Option Value → gS → Prop} {PX : String → gS → Prop}
theorem g_throwW (G : gOK Γ own cc n mc ms) (F : gFin Γ ret mc ms Post PX) {cls text : String} {names : List String} {ik is ic : Nat} (hcls : Bundle.fit cls = true ∧ ∀ n ∈ names, Bundle.fit n = true) (hk9 : Cond.classLink own ik cls ∈ gWords) (hini : Cond.initialized cls ∈ gWords) (hstr : Cond.stringRef own is text ∈ tables_1)
    (hat : ∀ w ∈ vx_atS own ic cls names, w ∈ gWords ∨ (w ∈ tables_1 ∧ gNW w = true)) (d0 : decode cc pc = .ok (.new ik, 3)) (d3 : decode cc (pc + 3) = .ok (.dup, 1)) (d4 : decode cc (pc + 4) = .ok (.ldc_w is, 3)) (d7 : decode cc (pc + 7) = .ok (.invokespecial ic, 3)) (d10 : decode cc (pc + 10) = .ok (.athrow, 1))
    (hn : names.length + 3 < n ∧ names.length ≤ 6) (hcat : (st.map fun v => v.category).sum ≤ 8) (hk : k + 1 ≤ mc) (hsl : sl + 6 ≤ ms) (hp : PX cls S) : gW Γ pc lo st S k sl := by
  obtain ⟨p, l, e1, R, s, m, args, below, meth, c, Q, A, D, cT, d09⟩ := Γ
  obtain ⟨hx, hb, hown, hts, hK, hA, hV, hRf, hRl, hRc, hRs⟩ := G
  obtain ⟨f1, f2, f3, rfl⟩ := F
  intro H locs ls hR hS hL
  obtain ⟨sa, hsa⟩ := hV.2.1 _ _ _ hstr
  have hor : ∀ w : Cond, gNW w = true → w.onTables = true := fun w h => by cases w <;> first | rfl | cases h
  refine vx_throwSW hx hb hRf.2 hown hcls.1 hcls.2 (hts _ hk9) (hts _ hini) hsa (fun w h => ?_) (fun w h => ?_) hV.1.1 hV.1.2.1 hS hL.1 d0 d3 d4 d7 d10 (fun x h => (f3 x h).elim) (by rw [hRf.1]; exact hn.1) (by rw [hRl]; have := hn.1; have := hn.2; omega) (by rw [hRc]; exact hk) (by rw [hRs]; exact hsl) f2 ?_ hS.2.2 hk hsl
  · rcases hat w h with h | ⟨h, h2⟩
    · exact hts _ h
    · exact va_Nw.use (hor w h2) (hV.2.2.1 _ h h2)
  · have hg : ∀ w, w ∈ gWords → vx_ot w = true := fun w h => by
      unfold vx_ot
      rw [(List.mem_filter.mp h).2, Bool.or_true]
    rcases List.mem_cons.mp h with rfl | h
    · exact hg _ hk9
    · rcases List.mem_cons.mp h with rfl | h
      · exact hg _ hini
      · rcases hat w h with h | ⟨h, h2⟩
        · exact hg _ h
        · unfold vx_ot
          rw [hor w h2, Bool.true_or]
  · intro t hvm hz hq
    obtain ⟨ws, hP, hD, hw⟩ := hR
    have hk9 : ∀ (k : Nat) (x : Nat × va_E), ws[k]? = some x → t.heap[x.1]? = H[x.1]? := fun k x hx => hq x.1 ((hP k x hx).lt)
    exact ⟨⟨S, hp, ws, hP.kept hk9, hD, hw⟩, Nat.le_trans hS.1 hz, fun q h1 h2 => (hq q (Nat.lt_of_lt_of_le h1 hS.1)).trans (hS.2.1 q h1 h2)⟩
end GCALLS
abbrev gWt (k : Nat) (w : Int32) : Prop := 0 ≤ w ∧ w ≤ nI k
theorem gWt_of {k : Nat} {w : Int32} (h : gWt k w) (hk : k < 2 ^ 31) : ∃ j : Nat, j ≤ k ∧ w = nI j := nI_of2 (M := nI k) (n := k) (nI_toInt hk) (Int32.not_lt.mpr h.1) h.2
/-- v: the first number under n for which p holds; -1 for none -/
def gIsF (p : Nat → Bool) (n : Nat) (v : Int32) : Prop := (v = -1 ∧ ∀ k, k < n → p k = false) ∨ ∃ k, k < n ∧ v = nI k ∧ p k = true ∧ ∀ j, j < k → p j = false
theorem gIsF_one {p : Nat → Bool} {n : Nat} {v w : Int32} (h : gIsF p n v) (h2 : gIsF p n w) : v = w := by
  rcases h with ⟨rfl, h1⟩ | ⟨k, k1, rfl, k2, k3⟩
  · rcases h2 with ⟨rfl, -⟩ | ⟨j, j1, rfl, j2, j3⟩
    · rfl
    · rw [h1 j j1] at j2; cases j2
  · rcases h2 with ⟨rfl, h1⟩ | ⟨j, j1, rfl, j2, j3⟩
    · rw [h1 k k1] at k2; cases k2
    · rcases Nat.lt_trichotomy k j with z | z | z
      · rw [j3 k z] at k2; cases k2
      · rw [z]
      · rw [k3 j z] at j2; cases j2

set_option maxHeartbeats 4000000 in
set_option maxRecDepth 100000 in
theorem c_X7_document (d0 : Nat × Nat) (S : gS) (x : Nat) (ad : Nat → Nat → Nat) (M : gM) (h : gMail d0 S x ad M) (i w : Int32) : gCt d0 yX7_document cX7_document 4 (some .int) 10 1 6 [.ref x, .int i, .int w] S (fun v' S' => ∃ j k, j < mN M 11 ∧ i = nI j ∧ k ≤ 7 ∧ w = nI k ∧ v' = some (.int (gTellDoc M j k)) ∧ S' = S) (fun E S' => S' = S ∧ (E = "java/lang/IndexOutOfBoundsException" ∧ ¬ (gIx (mN M 11) i ∧ gWt 7 w))) := by
  refine gCt_of (lo := [some (.ref x), some (.int i), some (.int w), none]) (by decide +kernel) (Nat.le_of_ble_eq_true rfl) (rfl) ?_
  intro Γ hd G F hini
  obtain ⟨⟨r1, ⟨ra, rb, rc, rd, re⟩, rt, rtl, rp, rpl, rdr, rep, rday⟩, ⟨l0, l1, l2, l3, l4⟩, ht, hcs, hps, hds, hes, hls⟩ := id h
  subst hd
  by_cases h_j : gIx (mN M 11) i
  · obtain ⟨j, hj, rfl⟩ := gIx_of h_j (by have := l2.2.2.1; omega)
    first | refine g_aload_n G dX7_document_0 rfl ?_ | refine g_aload_nN G dX7_document_0 rfl ?_ | refine g_aload_nQ G dX7_document_0 rfl ?_
    refine g_iload_n G dX7_document_1 rfl ?_
    refine g_callVp (ci := 8) G (c_documentAt _ S x ad M h j hj) mt_X7_documentAt mi_X7_documentAt ml_X7_104 (by assumption) (by first | decide | omega) rfl (by decide) (by omega) (by omega) rfl (Nat.le_of_ble_eq_true rfl) dX7_document_2 ?_
    first | refine g_astore_n G dX7_document_5 (gSt_3 (by first | rfl | exact g_c1_rf)) ?_ | refine g_astore_nN G dX7_document_5 (gSt_3 (by first | rfl | exact g_c1_rf)) ?_ | refine g_astore_nQ G dX7_document_5 (gSt_3 (by first | rfl | exact g_c1_rf)) ?_
    first | refine g_aload_n G dX7_document_6 rfl ?_ | refine g_aload_nN G dX7_document_6 rfl ?_ | refine g_aload_nQ G dX7_document_6 rfl ?_
    refine g_ifnull G dX7_document_7 ?_
    refine g_iload_n G dX7_document_10 rfl ?_
    refine g_if_lt (tgt := 20) G dX7_document_11 (by decide) (fun c_11 => ?_) (fun c_11 => ?_)
    · have hno : ¬ (gIx (mN M 11) (nI j) ∧ gWt 7 w) := fun z => absurd (z.2).1 (Int32.not_le.mpr c_11)
      exact g_throw (names := nm_IOE) G F tf_IOE cl_X7_75 ti_IOE st_X7_124 ta_IOE dX7_document_20 (by exact dX7_document_23) (by exact dX7_document_24) (by exact dX7_document_26) (by exact dX7_document_29) (by decide) (Nat.le_of_ble_eq_true rfl) (by omega) (by omega) (⟨rfl, rfl, hno⟩)
    · refine g_iload_n G dX7_document_14 rfl ?_
      refine g_bipush (v := nI 7) G dX7_document_15 (by decide) ?_
      refine g_icmp_le (tgt := 30) G dX7_document_17 (by decide) (fun c_17 => ?_) (fun c_17 => ?_)
      · obtain ⟨k, hk, rfl⟩ := gWt_of (k := 7) ⟨Int32.not_lt.mp c_11, c_17⟩ (by decide)
        first | refine g_aload_n G dX7_document_30 rfl ?_ | refine g_aload_nN G dX7_document_30 rfl ?_ | refine g_aload_nQ G dX7_document_30 rfl ?_
        refine g_iload_n G dX7_document_31 rfl ?_
        refine g_callSp G (c_X7_tellDocument _ S x ad M h j k hj hk) mt_X7_tellDocument ms_X7_tellDocument ml_X7_126 (by decide) (by omega) (by omega) rfl (Nat.le_of_ble_eq_true rfl) dX7_document_32 ?_
        exact g_iret G F (⟨j, k, hj, rfl, hk, rfl, rfl, rfl⟩) (by omega) (by omega) dX7_document_35
      · have hno : ¬ (gIx (mN M 11) (nI j) ∧ gWt 7 w) := fun z => c_17 (z.2).2
        exact g_throw (names := nm_IOE) G F tf_IOE cl_X7_75 ti_IOE st_X7_124 ta_IOE dX7_document_20 (by exact dX7_document_23) (by exact dX7_document_24) (by exact dX7_document_26) (by exact dX7_document_29) (by decide) (Nat.le_of_ble_eq_true rfl) (by omega) (by omega) (⟨rfl, rfl, hno⟩)
  · have hno : ¬ (gIx (mN M 11) i ∧ gWt 7 w) := fun z => h_j (z.1)
    first | refine g_aload_n G dX7_document_0 rfl ?_ | refine g_aload_nN G dX7_document_0 rfl ?_ | refine g_aload_nQ G dX7_document_0 rfl ?_
    refine g_iload_n G dX7_document_1 rfl ?_
    refine g_callVp (ci := 8) G (c_documentAt_no _ S x ad M h i (gIx_no h_j)) mt_X7_documentAt mi_X7_documentAt ml_X7_104 (by assumption) (by first | decide | omega) rfl (by decide) (by omega) (by omega) rfl (Nat.le_of_ble_eq_true rfl) dX7_document_2 ?_
    first | refine g_astore_n G dX7_document_5 (gSt_3 (by first | rfl | exact g_c1_rf)) ?_ | refine g_astore_nN G dX7_document_5 (gSt_3 (by first | rfl | exact g_c1_rf)) ?_ | refine g_astore_nQ G dX7_document_5 (gSt_3 (by first | rfl | exact g_c1_rf)) ?_
    first | refine g_aload_n G dX7_document_6 rfl ?_ | refine g_aload_nN G dX7_document_6 rfl ?_ | refine g_aload_nQ G dX7_document_6 rfl ?_
    refine g_ifnullN (tgt := 20) G dX7_document_7 (by decide) ?_
    exact g_throw (names := nm_IOE) G F tf_IOE cl_X7_75 ti_IOE st_X7_124 ta_IOE dX7_document_20 (by exact dX7_document_23) (by exact dX7_document_24) (by exact dX7_document_26) (by exact dX7_document_29) (by decide) (Nat.le_of_ble_eq_true rfl) (by omega) (by omega) (⟨rfl, rfl, hno⟩)

set_option maxHeartbeats 4000000 in
set_option maxRecDepth 100000 in
theorem c_X7_person (d0 : Nat × Nat) (S : gS) (x : Nat) (ad : Nat → Nat → Nat) (M : gM) (h : gMail d0 S x ad M) (i w : Int32) : gCt d0 yX7_person cX7_person 4 (some .int) 10 1 6 [.ref x, .int i, .int w] S (fun v' S' => ∃ j k, j < mN M 8 ∧ i = nI j ∧ k ≤ 7 ∧ w = nI k ∧ v' = some (.int (gTellPers M j k)) ∧ S' = S) (fun E S' => S' = S ∧ (E = "java/lang/IndexOutOfBoundsException" ∧ ¬ (gIx (mN M 8) i ∧ gWt 7 w))) := by
  refine gCt_of (lo := [some (.ref x), some (.int i), some (.int w), none]) (by decide +kernel) (Nat.le_of_ble_eq_true rfl) (rfl) ?_
  intro Γ hd G F hini
  obtain ⟨⟨r1, ⟨ra, rb, rc, rd, re⟩, rt, rtl, rp, rpl, rdr, rep, rday⟩, ⟨l0, l1, l2, l3, l4⟩, ht, hcs, hps, hds, hes, hls⟩ := id h
  subst hd
  by_cases h_j : gIx (mN M 8) i
  · obtain ⟨j, hj, rfl⟩ := gIx_of h_j (by have := l1.2.2.1; omega)
    first | refine g_aload_n G dX7_person_0 rfl ?_ | refine g_aload_nN G dX7_person_0 rfl ?_ | refine g_aload_nQ G dX7_person_0 rfl ?_
    refine g_iload_n G dX7_person_1 rfl ?_
    refine g_callVp (ci := 8) G (c_personAt _ S x ad M h j hj) mt_X7_personAt mi_X7_personAt ml_X7_151 (by assumption) (by first | decide | omega) rfl (by decide) (by omega) (by omega) rfl (Nat.le_of_ble_eq_true rfl) dX7_person_2 ?_
    first | refine g_astore_n G dX7_person_5 (gSt_3 (by first | rfl | exact g_c1_rf)) ?_ | refine g_astore_nN G dX7_person_5 (gSt_3 (by first | rfl | exact g_c1_rf)) ?_ | refine g_astore_nQ G dX7_person_5 (gSt_3 (by first | rfl | exact g_c1_rf)) ?_
    first | refine g_aload_n G dX7_person_6 rfl ?_ | refine g_aload_nN G dX7_person_6 rfl ?_ | refine g_aload_nQ G dX7_person_6 rfl ?_
    refine g_ifnull G dX7_person_7 ?_
    refine g_iload_n G dX7_person_10 rfl ?_
    refine g_if_lt (tgt := 20) G dX7_person_11 (by decide) (fun c_11 => ?_) (fun c_11 => ?_)
    · have hno : ¬ (gIx (mN M 8) (nI j) ∧ gWt 7 w) := fun z => absurd (z.2).1 (Int32.not_le.mpr c_11)
      exact g_throw (names := nm_IOE) G F tf_IOE cl_X7_75 ti_IOE st_X7_167 ta_IOE dX7_person_20 (by exact dX7_person_23) (by exact dX7_person_24) (by exact dX7_person_26) (by exact dX7_person_29) (by decide) (Nat.le_of_ble_eq_true rfl) (by omega) (by omega) (⟨rfl, rfl, hno⟩)
    · refine g_iload_n G dX7_person_14 rfl ?_
      refine g_bipush (v := nI 7) G dX7_person_15 (by decide) ?_
      refine g_icmp_le (tgt := 30) G dX7_person_17 (by decide) (fun c_17 => ?_) (fun c_17 => ?_)
      · obtain ⟨k, hk, rfl⟩ := gWt_of (k := 7) ⟨Int32.not_lt.mp c_11, c_17⟩ (by decide)
        first | refine g_aload_n G dX7_person_30 rfl ?_ | refine g_aload_nN G dX7_person_30 rfl ?_ | refine g_aload_nQ G dX7_person_30 rfl ?_
        first | refine g_aload_n G dX7_person_31 rfl ?_ | refine g_aload_nN G dX7_person_31 rfl ?_ | refine g_aload_nQ G dX7_person_31 rfl ?_
        refine g_iload_n G dX7_person_32 rfl ?_
        refine g_callVp (ci := 8) G (c_X7_tellPerson _ S x ad M h j k hj hk) mt_X7_tellPerson mi_X7_tellPerson ml_X7_169 (by assumption) (by first | decide | omega) rfl (by decide) (by omega) (by omega) rfl (Nat.le_of_ble_eq_true rfl) dX7_person_33 ?_
        exact g_iret G F (⟨j, k, hj, rfl, hk, rfl, rfl, rfl⟩) (by omega) (by omega) dX7_person_36
      · have hno : ¬ (gIx (mN M 8) (nI j) ∧ gWt 7 w) := fun z => c_17 (z.2).2
        exact g_throw (names := nm_IOE) G F tf_IOE cl_X7_75 ti_IOE st_X7_167 ta_IOE dX7_person_20 (by exact dX7_person_23) (by exact dX7_person_24) (by exact dX7_person_26) (by exact dX7_person_29) (by decide) (Nat.le_of_ble_eq_true rfl) (by omega) (by omega) (⟨rfl, rfl, hno⟩)
  · have hno : ¬ (gIx (mN M 8) i ∧ gWt 7 w) := fun z => h_j (z.1)
    first | refine g_aload_n G dX7_person_0 rfl ?_ | refine g_aload_nN G dX7_person_0 rfl ?_ | refine g_aload_nQ G dX7_person_0 rfl ?_
    refine g_iload_n G dX7_person_1 rfl ?_
    refine g_callVp (ci := 8) G (c_personAt_no _ S x ad M h i (gIx_no h_j)) mt_X7_personAt mi_X7_personAt ml_X7_151 (by assumption) (by first | decide | omega) rfl (by decide) (by omega) (by omega) rfl (Nat.le_of_ble_eq_true rfl) dX7_person_2 ?_
    first | refine g_astore_n G dX7_person_5 (gSt_3 (by first | rfl | exact g_c1_rf)) ?_ | refine g_astore_nN G dX7_person_5 (gSt_3 (by first | rfl | exact g_c1_rf)) ?_ | refine g_astore_nQ G dX7_person_5 (gSt_3 (by first | rfl | exact g_c1_rf)) ?_
    first | refine g_aload_n G dX7_person_6 rfl ?_ | refine g_aload_nN G dX7_person_6 rfl ?_ | refine g_aload_nQ G dX7_person_6 rfl ?_
    refine g_ifnullN (tgt := 20) G dX7_person_7 (by decide) ?_
    exact g_throw (names := nm_IOE) G F tf_IOE cl_X7_75 ti_IOE st_X7_167 ta_IOE dX7_person_20 (by exact dX7_person_23) (by exact dX7_person_24) (by exact dX7_person_26) (by exact dX7_person_29) (by decide) (Nat.le_of_ble_eq_true rfl) (by omega) (by omega) (⟨rfl, rfl, hno⟩)

set_option maxHeartbeats 4000000 in
set_option maxRecDepth 100000 in
theorem c_X7_caseOf (d0 : Nat × Nat) (S : gS) (x : Nat) (ad : Nat → Nat → Nat) (M : gM) (h : gMail d0 S x ad M) (hB : gBnd M) (i w : Int32) : gCt d0 yX7_caseOf cX7_caseOf 4 (some .int) 10 1 6 [.ref x, .int i, .int w] S (fun v' S' => ∃ j k, j < mN M 6 ∧ i = nI j ∧ k ≤ 4 ∧ w = nI k ∧ v' = some (.int (gTellCase M j k)) ∧ S' = S) (fun E S' => S' = S ∧ (E = "java/lang/IndexOutOfBoundsException" ∧ ¬ (gIx (mN M 6) i ∧ gWt 4 w))) := by
  refine gCt_of (lo := [some (.ref x), some (.int i), some (.int w), none]) (by decide +kernel) (Nat.le_of_ble_eq_true rfl) (rfl) ?_
  intro Γ hd G F hini
  obtain ⟨⟨r1, ⟨ra, rb, rc, rd, re⟩, rt, rtl, rp, rpl, rdr, rep, rday⟩, ⟨l0, l1, l2, l3, l4⟩, ht, hcs, hps, hds, hes, hls⟩ := id h
  subst hd
  by_cases h_j : gIx (mN M 6) i
  · obtain ⟨j, hj, rfl⟩ := gIx_of h_j (by have := l0.2.2.1; omega)
    first | refine g_aload_n G dX7_caseOf_0 rfl ?_ | refine g_aload_nN G dX7_caseOf_0 rfl ?_ | refine g_aload_nQ G dX7_caseOf_0 rfl ?_
    refine g_iload_n G dX7_caseOf_1 rfl ?_
    refine g_callVp (ci := 8) G (c_caseAt _ S x ad M h j hj) mt_X7_caseAt mi_X7_caseAt ml_X7_71 (by assumption) (by first | decide | omega) rfl (by decide) (by omega) (by omega) rfl (Nat.le_of_ble_eq_true rfl) dX7_caseOf_2 ?_
    first | refine g_astore_n G dX7_caseOf_5 (gSt_3 (by first | rfl | exact g_c1_rf)) ?_ | refine g_astore_nN G dX7_caseOf_5 (gSt_3 (by first | rfl | exact g_c1_rf)) ?_ | refine g_astore_nQ G dX7_caseOf_5 (gSt_3 (by first | rfl | exact g_c1_rf)) ?_
    first | refine g_aload_n G dX7_caseOf_6 rfl ?_ | refine g_aload_nN G dX7_caseOf_6 rfl ?_ | refine g_aload_nQ G dX7_caseOf_6 rfl ?_
    refine g_ifnull G dX7_caseOf_7 ?_
    refine g_iload_n G dX7_caseOf_10 rfl ?_
    refine g_if_lt (tgt := 19) G dX7_caseOf_11 (by decide) (fun c_11 => ?_) (fun c_11 => ?_)
    · have hno : ¬ (gIx (mN M 6) (nI j) ∧ gWt 4 w) := fun z => absurd (z.2).1 (Int32.not_le.mpr c_11)
      exact g_throw (names := nm_IOE) G F tf_IOE cl_X7_75 ti_IOE st_X7_173 ta_IOE dX7_caseOf_19 (by exact dX7_caseOf_22) (by exact dX7_caseOf_23) (by exact dX7_caseOf_25) (by exact dX7_caseOf_28) (by decide) (Nat.le_of_ble_eq_true rfl) (by omega) (by omega) (⟨rfl, rfl, hno⟩)
    · refine g_iload_n G dX7_caseOf_14 rfl ?_
      refine g_iconst (v := nI 4) G dX7_caseOf_15 (by decide) ?_
      refine g_icmp_le (tgt := 29) G dX7_caseOf_16 (by decide) (fun c_16 => ?_) (fun c_16 => ?_)
      · obtain ⟨k, hk, rfl⟩ := gWt_of (k := 4) ⟨Int32.not_lt.mp c_11, c_16⟩ (by decide)
        first | refine g_aload_n G dX7_caseOf_29 rfl ?_ | refine g_aload_nN G dX7_caseOf_29 rfl ?_ | refine g_aload_nQ G dX7_caseOf_29 rfl ?_
        first | refine g_aload_n G dX7_caseOf_30 rfl ?_ | refine g_aload_nN G dX7_caseOf_30 rfl ?_ | refine g_aload_nQ G dX7_caseOf_30 rfl ?_
        refine g_iload_n G dX7_caseOf_31 rfl ?_
        refine g_callVp (ci := 8) G (c_X7_tellCase _ S x ad M h hB j k hj hk) mt_X7_tellCase mi_X7_tellCase ml_X7_175 (by assumption) (by first | decide | omega) rfl (by decide) (by omega) (by omega) rfl (Nat.le_of_ble_eq_true rfl) dX7_caseOf_32 ?_
        exact g_iret G F (⟨j, k, hj, rfl, hk, rfl, rfl, rfl⟩) (by omega) (by omega) dX7_caseOf_35
      · have hno : ¬ (gIx (mN M 6) (nI j) ∧ gWt 4 w) := fun z => c_16 (z.2).2
        exact g_throw (names := nm_IOE) G F tf_IOE cl_X7_75 ti_IOE st_X7_173 ta_IOE dX7_caseOf_19 (by exact dX7_caseOf_22) (by exact dX7_caseOf_23) (by exact dX7_caseOf_25) (by exact dX7_caseOf_28) (by decide) (Nat.le_of_ble_eq_true rfl) (by omega) (by omega) (⟨rfl, rfl, hno⟩)
  · have hno : ¬ (gIx (mN M 6) i ∧ gWt 4 w) := fun z => h_j (z.1)
    first | refine g_aload_n G dX7_caseOf_0 rfl ?_ | refine g_aload_nN G dX7_caseOf_0 rfl ?_ | refine g_aload_nQ G dX7_caseOf_0 rfl ?_
    refine g_iload_n G dX7_caseOf_1 rfl ?_
    refine g_callVp (ci := 8) G (c_caseAt_no _ S x ad M h i (gIx_no h_j)) mt_X7_caseAt mi_X7_caseAt ml_X7_71 (by assumption) (by first | decide | omega) rfl (by decide) (by omega) (by omega) rfl (Nat.le_of_ble_eq_true rfl) dX7_caseOf_2 ?_
    first | refine g_astore_n G dX7_caseOf_5 (gSt_3 (by first | rfl | exact g_c1_rf)) ?_ | refine g_astore_nN G dX7_caseOf_5 (gSt_3 (by first | rfl | exact g_c1_rf)) ?_ | refine g_astore_nQ G dX7_caseOf_5 (gSt_3 (by first | rfl | exact g_c1_rf)) ?_
    first | refine g_aload_n G dX7_caseOf_6 rfl ?_ | refine g_aload_nN G dX7_caseOf_6 rfl ?_ | refine g_aload_nQ G dX7_caseOf_6 rfl ?_
    refine g_ifnullN (tgt := 19) G dX7_caseOf_7 (by decide) ?_
    exact g_throw (names := nm_IOE) G F tf_IOE cl_X7_75 ti_IOE st_X7_173 ta_IOE dX7_caseOf_19 (by exact dX7_caseOf_22) (by exact dX7_caseOf_23) (by exact dX7_caseOf_25) (by exact dX7_caseOf_28) (by decide) (Nat.le_of_ble_eq_true rfl) (by omega) (by omega) (⟨rfl, rfl, hno⟩)

set_option maxHeartbeats 4000000 in
set_option maxRecDepth 100000 in
theorem c_X7_exhibit (d0 : Nat × Nat) (S : gS) (x : Nat) (ad : Nat → Nat → Nat) (M : gM) (h : gMail d0 S x ad M) (i w : Int32) : gCt d0 yX7_exhibit cX7_exhibit 4 (some .int) 10 1 6 [.ref x, .int i, .int w] S (fun v' S' => ∃ j k, j < mN M 17 ∧ i = nI j ∧ k ≤ 6 ∧ w = nI k ∧ v' = some (.int (gTellExh M j k)) ∧ S' = S) (fun E S' => S' = S ∧ (E = "java/lang/IndexOutOfBoundsException" ∧ ¬ (gIx (mN M 17) i ∧ gWt 6 w))) := by
  refine gCt_of (lo := [some (.ref x), some (.int i), some (.int w), none]) (by decide +kernel) (Nat.le_of_ble_eq_true rfl) (rfl) ?_
  intro Γ hd G F hini
  obtain ⟨⟨r1, ⟨ra, rb, rc, rd, re⟩, rt, rtl, rp, rpl, rdr, rep, rday⟩, ⟨l0, l1, l2, l3, l4⟩, ht, hcs, hps, hds, hes, hls⟩ := id h
  subst hd
  by_cases h_j : gIx (mN M 17) i
  · obtain ⟨j, hj, rfl⟩ := gIx_of h_j (by have := l3.2.2.1; omega)
    first | refine g_aload_n G dX7_exhibit_0 rfl ?_ | refine g_aload_nN G dX7_exhibit_0 rfl ?_ | refine g_aload_nQ G dX7_exhibit_0 rfl ?_
    refine g_iload_n G dX7_exhibit_1 rfl ?_
    refine g_callVp (ci := 8) G (c_exhibitAt _ S x ad M h j hj) mt_X7_exhibitAt mi_X7_exhibitAt ml_X7_246 (by assumption) (by first | decide | omega) rfl (by decide) (by omega) (by omega) rfl (Nat.le_of_ble_eq_true rfl) dX7_exhibit_2 ?_
    first | refine g_astore_n G dX7_exhibit_5 (gSt_3 (by first | rfl | exact g_c1_rf)) ?_ | refine g_astore_nN G dX7_exhibit_5 (gSt_3 (by first | rfl | exact g_c1_rf)) ?_ | refine g_astore_nQ G dX7_exhibit_5 (gSt_3 (by first | rfl | exact g_c1_rf)) ?_
    first | refine g_aload_n G dX7_exhibit_6 rfl ?_ | refine g_aload_nN G dX7_exhibit_6 rfl ?_ | refine g_aload_nQ G dX7_exhibit_6 rfl ?_
    refine g_ifnull G dX7_exhibit_7 ?_
    refine g_iload_n G dX7_exhibit_10 rfl ?_
    refine g_if_lt (tgt := 20) G dX7_exhibit_11 (by decide) (fun c_11 => ?_) (fun c_11 => ?_)
    · have hno : ¬ (gIx (mN M 17) (nI j) ∧ gWt 6 w) := fun z => absurd (z.2).1 (Int32.not_le.mpr c_11)
      exact g_throwW (names := nm_IOE) G F tf_IOE cl_X7_75 ti_IOE st_X7_292 ta_IOE dX7_exhibit_20 (by exact dX7_exhibit_23) (by exact dX7_exhibit_24) (by exact dX7_exhibit_27) (by exact dX7_exhibit_30) (by decide) (Nat.le_of_ble_eq_true rfl) (by omega) (by omega) (⟨rfl, rfl, hno⟩)
    · refine g_iload_n G dX7_exhibit_14 rfl ?_
      refine g_bipush (v := nI 6) G dX7_exhibit_15 (by decide) ?_
      refine g_icmp_le (tgt := 31) G dX7_exhibit_17 (by decide) (fun c_17 => ?_) (fun c_17 => ?_)
      · obtain ⟨k, hk, rfl⟩ := gWt_of (k := 6) ⟨Int32.not_lt.mp c_11, c_17⟩ (by decide)
        first | refine g_aload_n G dX7_exhibit_31 rfl ?_ | refine g_aload_nN G dX7_exhibit_31 rfl ?_ | refine g_aload_nQ G dX7_exhibit_31 rfl ?_
        first | refine g_aload_n G dX7_exhibit_32 rfl ?_ | refine g_aload_nN G dX7_exhibit_32 rfl ?_ | refine g_aload_nQ G dX7_exhibit_32 rfl ?_
        refine g_iload_n G dX7_exhibit_33 rfl ?_
        refine g_callVp (ci := 8) G (c_X7_tellExhibit _ S x ad M h j k hj hk) mt_X7_tellExhibit mi_X7_tellExhibit ml_X7_294 (by assumption) (by first | decide | omega) rfl (by decide) (by omega) (by omega) rfl (Nat.le_of_ble_eq_true rfl) dX7_exhibit_34 ?_
        exact g_iret G F (⟨j, k, hj, rfl, hk, rfl, rfl, rfl⟩) (by omega) (by omega) dX7_exhibit_37
      · have hno : ¬ (gIx (mN M 17) (nI j) ∧ gWt 6 w) := fun z => c_17 (z.2).2
        exact g_throwW (names := nm_IOE) G F tf_IOE cl_X7_75 ti_IOE st_X7_292 ta_IOE dX7_exhibit_20 (by exact dX7_exhibit_23) (by exact dX7_exhibit_24) (by exact dX7_exhibit_27) (by exact dX7_exhibit_30) (by decide) (Nat.le_of_ble_eq_true rfl) (by omega) (by omega) (⟨rfl, rfl, hno⟩)
  · have hno : ¬ (gIx (mN M 17) i ∧ gWt 6 w) := fun z => h_j (z.1)
    first | refine g_aload_n G dX7_exhibit_0 rfl ?_ | refine g_aload_nN G dX7_exhibit_0 rfl ?_ | refine g_aload_nQ G dX7_exhibit_0 rfl ?_
    refine g_iload_n G dX7_exhibit_1 rfl ?_
    refine g_callVp (ci := 8) G (c_exhibitAt_no _ S x ad M h i (gIx_no h_j)) mt_X7_exhibitAt mi_X7_exhibitAt ml_X7_246 (by assumption) (by first | decide | omega) rfl (by decide) (by omega) (by omega) rfl (Nat.le_of_ble_eq_true rfl) dX7_exhibit_2 ?_
    first | refine g_astore_n G dX7_exhibit_5 (gSt_3 (by first | rfl | exact g_c1_rf)) ?_ | refine g_astore_nN G dX7_exhibit_5 (gSt_3 (by first | rfl | exact g_c1_rf)) ?_ | refine g_astore_nQ G dX7_exhibit_5 (gSt_3 (by first | rfl | exact g_c1_rf)) ?_
    first | refine g_aload_n G dX7_exhibit_6 rfl ?_ | refine g_aload_nN G dX7_exhibit_6 rfl ?_ | refine g_aload_nQ G dX7_exhibit_6 rfl ?_
    refine g_ifnullN (tgt := 20) G dX7_exhibit_7 (by decide) ?_
    exact g_throwW (names := nm_IOE) G F tf_IOE cl_X7_75 ti_IOE st_X7_292 ta_IOE dX7_exhibit_20 (by exact dX7_exhibit_23) (by exact dX7_exhibit_24) (by exact dX7_exhibit_27) (by exact dX7_exhibit_30) (by decide) (Nat.le_of_ble_eq_true rfl) (by omega) (by omega) (⟨rfl, rfl, hno⟩)

set_option maxHeartbeats 4000000 in
set_option maxRecDepth 100000 in
theorem c_X7_letter (d0 : Nat × Nat) (S : gS) (x : Nat) (ad : Nat → Nat → Nat) (M : gM) (h : gMail d0 S x ad M) (i w : Int32) : gCt d0 yX7_letter cX7_letter 4 (some .int) 10 1 6 [.ref x, .int i, .int w] S (fun v' S' => ∃ j k, j < mN M 23 ∧ i = nI j ∧ k ≤ 4 ∧ w = nI k ∧ v' = some (.int (gTellLtr M j k)) ∧ S' = S) (fun E S' => S' = S ∧ (E = "java/lang/IndexOutOfBoundsException" ∧ ¬ (gIx (mN M 23) i ∧ gWt 4 w))) := by
  refine gCt_of (lo := [some (.ref x), some (.int i), some (.int w), none]) (by decide +kernel) (Nat.le_of_ble_eq_true rfl) (rfl) ?_
  intro Γ hd G F hini
  obtain ⟨⟨r1, ⟨ra, rb, rc, rd, re⟩, rt, rtl, rp, rpl, rdr, rep, rday⟩, ⟨l0, l1, l2, l3, l4⟩, ht, hcs, hps, hds, hes, hls⟩ := id h
  subst hd
  by_cases h_j : gIx (mN M 23) i
  · obtain ⟨j, hj, rfl⟩ := gIx_of h_j (by have := l4.2.2.1; omega)
    first | refine g_aload_n G dX7_letter_0 rfl ?_ | refine g_aload_nN G dX7_letter_0 rfl ?_ | refine g_aload_nQ G dX7_letter_0 rfl ?_
    refine g_iload_n G dX7_letter_1 rfl ?_
    refine g_callVp (ci := 8) G (c_letterAt _ S x ad M h j hj) mt_X7_letterAt mi_X7_letterAt ml_X7_317 (by assumption) (by first | decide | omega) rfl (by decide) (by omega) (by omega) rfl (Nat.le_of_ble_eq_true rfl) dX7_letter_2 ?_
    first | refine g_astore_n G dX7_letter_5 (gSt_3 (by first | rfl | exact g_c1_rf)) ?_ | refine g_astore_nN G dX7_letter_5 (gSt_3 (by first | rfl | exact g_c1_rf)) ?_ | refine g_astore_nQ G dX7_letter_5 (gSt_3 (by first | rfl | exact g_c1_rf)) ?_
    first | refine g_aload_n G dX7_letter_6 rfl ?_ | refine g_aload_nN G dX7_letter_6 rfl ?_ | refine g_aload_nQ G dX7_letter_6 rfl ?_
    refine g_ifnull G dX7_letter_7 ?_
    refine g_iload_n G dX7_letter_10 rfl ?_
    refine g_if_lt (tgt := 19) G dX7_letter_11 (by decide) (fun c_11 => ?_) (fun c_11 => ?_)
    · have hno : ¬ (gIx (mN M 23) (nI j) ∧ gWt 4 w) := fun z => absurd (z.2).1 (Int32.not_le.mpr c_11)
      exact g_throwW (names := nm_IOE) G F tf_IOE cl_X7_75 ti_IOE st_X7_321 ta_IOE dX7_letter_19 (by exact dX7_letter_22) (by exact dX7_letter_23) (by exact dX7_letter_26) (by exact dX7_letter_29) (by decide) (Nat.le_of_ble_eq_true rfl) (by omega) (by omega) (⟨rfl, rfl, hno⟩)
    · refine g_iload_n G dX7_letter_14 rfl ?_
      refine g_iconst (v := nI 4) G dX7_letter_15 (by decide) ?_
      refine g_icmp_le (tgt := 30) G dX7_letter_16 (by decide) (fun c_16 => ?_) (fun c_16 => ?_)
      · obtain ⟨k, hk, rfl⟩ := gWt_of (k := 4) ⟨Int32.not_lt.mp c_11, c_16⟩ (by decide)
        first | refine g_aload_n G dX7_letter_30 rfl ?_ | refine g_aload_nN G dX7_letter_30 rfl ?_ | refine g_aload_nQ G dX7_letter_30 rfl ?_
        refine g_iload_n G dX7_letter_31 rfl ?_
        refine g_callSp G (c_X7_tellLetter _ S x ad M h j k hj hk) mt_X7_tellLetter ms_X7_tellLetter ml_X7_323 (by decide) (by omega) (by omega) rfl (Nat.le_of_ble_eq_true rfl) dX7_letter_32 ?_
        exact g_iret G F (⟨j, k, hj, rfl, hk, rfl, rfl, rfl⟩) (by omega) (by omega) dX7_letter_35
      · have hno : ¬ (gIx (mN M 23) (nI j) ∧ gWt 4 w) := fun z => c_16 (z.2).2
        exact g_throwW (names := nm_IOE) G F tf_IOE cl_X7_75 ti_IOE st_X7_321 ta_IOE dX7_letter_19 (by exact dX7_letter_22) (by exact dX7_letter_23) (by exact dX7_letter_26) (by exact dX7_letter_29) (by decide) (Nat.le_of_ble_eq_true rfl) (by omega) (by omega) (⟨rfl, rfl, hno⟩)
  · have hno : ¬ (gIx (mN M 23) i ∧ gWt 4 w) := fun z => h_j (z.1)
    first | refine g_aload_n G dX7_letter_0 rfl ?_ | refine g_aload_nN G dX7_letter_0 rfl ?_ | refine g_aload_nQ G dX7_letter_0 rfl ?_
    refine g_iload_n G dX7_letter_1 rfl ?_
    refine g_callVp (ci := 8) G (c_letterAt_no _ S x ad M h i (gIx_no h_j)) mt_X7_letterAt mi_X7_letterAt ml_X7_317 (by assumption) (by first | decide | omega) rfl (by decide) (by omega) (by omega) rfl (Nat.le_of_ble_eq_true rfl) dX7_letter_2 ?_
    first | refine g_astore_n G dX7_letter_5 (gSt_3 (by first | rfl | exact g_c1_rf)) ?_ | refine g_astore_nN G dX7_letter_5 (gSt_3 (by first | rfl | exact g_c1_rf)) ?_ | refine g_astore_nQ G dX7_letter_5 (gSt_3 (by first | rfl | exact g_c1_rf)) ?_
    first | refine g_aload_n G dX7_letter_6 rfl ?_ | refine g_aload_nN G dX7_letter_6 rfl ?_ | refine g_aload_nQ G dX7_letter_6 rfl ?_
    refine g_ifnullN (tgt := 19) G dX7_letter_7 (by decide) ?_
    exact g_throwW (names := nm_IOE) G F tf_IOE cl_X7_75 ti_IOE st_X7_321 ta_IOE dX7_letter_19 (by exact dX7_letter_22) (by exact dX7_letter_23) (by exact dX7_letter_26) (by exact dX7_letter_29) (by decide) (Nat.le_of_ble_eq_true rfl) (by omega) (by omega) (⟨rfl, rfl, hno⟩)

set_option maxHeartbeats 4000000 in
set_option maxRecDepth 100000 in
theorem c_X7_count (d0 : Nat × Nat) (S : gS) (x : Nat) (ad : Nat → Nat → Nat) (M : gM) (h : gMail d0 S x ad M) (w : Int32) : gCt d0 yX7_count cX7_count 2 (some .int) 10 1 6 [.ref x, .int w] S (fun v' S' => ∃ k, k ≤ 11 ∧ w = nI k ∧ v' = some (.int (gTellCount M k)) ∧ S' = S) (fun E S' => S' = S ∧ (E = "java/lang/IndexOutOfBoundsException" ∧ ¬ gWt 11 w)) := by
  refine gCt_of (lo := [some (.ref x), some (.int w)]) (by decide +kernel) (Nat.le_of_ble_eq_true rfl) (rfl) ?_
  intro Γ hd G F hini
  obtain ⟨⟨r1, ⟨ra, rb, rc, rd, re⟩, rt, rtl, rp, rpl, rdr, rep, rday⟩, ⟨l0, l1, l2, l3, l4⟩, ht, hcs, hps, hds, hes, hls⟩ := id h
  subst hd
  refine g_iload_n G dX7_count_0 rfl ?_
  refine g_if_lt (tgt := 10) G dX7_count_1 (by decide) (fun c_1 => ?_) (fun c_1 => ?_)
  · have hno : ¬ gWt 11 w := fun z => absurd z.1 (Int32.not_le.mpr c_1)
    exact g_throwW (names := nm_IOE) G F tf_IOE cl_X7_75 ti_IOE st_X7_361 ta_IOE dX7_count_10 (by exact dX7_count_13) (by exact dX7_count_14) (by exact dX7_count_17) (by exact dX7_count_20) (by decide) (Nat.le_of_ble_eq_true rfl) (by omega) (by omega) (⟨rfl, rfl, hno⟩)
  · refine g_iload_n G dX7_count_4 rfl ?_
    refine g_bipush (v := nI 11) G dX7_count_5 (by decide) ?_
    refine g_icmp_le (tgt := 21) G dX7_count_7 (by decide) (fun c_7 => ?_) (fun c_7 => ?_)
    · obtain ⟨k, hk, rfl⟩ := gWt_of (k := 11) ⟨Int32.not_lt.mp c_1, c_7⟩ (by decide)
      first | refine g_aload_n G dX7_count_21 rfl ?_ | refine g_aload_nN G dX7_count_21 rfl ?_ | refine g_aload_nQ G dX7_count_21 rfl ?_
      refine g_iload_n G dX7_count_22 rfl ?_
      refine g_callVp (ci := 8) G (c_X7_tellCount _ S x ad M h k hk) mt_X7_tellCount mi_X7_tellCount ml_X7_363 (by assumption) (by first | decide | omega) rfl (by decide) (by omega) (by omega) rfl (Nat.le_of_ble_eq_true rfl) dX7_count_23 ?_
      exact g_iret G F (⟨k, hk, rfl, rfl, rfl⟩) (by omega) (by omega) dX7_count_26
    · have hno : ¬ gWt 11 w := fun z => c_7 z.2
      exact g_throwW (names := nm_IOE) G F tf_IOE cl_X7_75 ti_IOE st_X7_361 ta_IOE dX7_count_10 (by exact dX7_count_13) (by exact dX7_count_14) (by exact dX7_count_17) (by exact dX7_count_20) (by decide) (Nat.le_of_ble_eq_true rfl) (by omega) (by omega) (⟨rfl, rfl, hno⟩)

set_option maxHeartbeats 4000000 in
set_option maxRecDepth 100000 in
theorem c_X7_link (d0 : Nat × Nat) (S : gS) (x : Nat) (ad : Nat → Nat → Nat) (M : gM) (h : gMail d0 S x ad M) (i l w : Int32) : gCt d0 yX7_link cX7_link 5 (some .int) 10 1 6 [.ref x, .int i, .int l, .int w] S (fun v' S' => ∃ e y k, e < mN M 17 ∧ i = nI e ∧ y < mN M (200 + e) ∧ l = nI y ∧ k ≤ 3 ∧ w = nI k ∧ v' = some (.int (gTellLink M e y k)) ∧ S' = S) (fun E S' => S' = S ∧ (E = "java/lang/IndexOutOfBoundsException" ∧ ¬ (gIx (mN M 17) i ∧ (∀ e, e < mN M 17 → i = nI e → gIx (mN M (200 + e)) l) ∧ gWt 3 w))) := by
  refine gCt_of (lo := [some (.ref x), some (.int i), some (.int l), some (.int w), none]) (by decide +kernel) (Nat.le_of_ble_eq_true rfl) (rfl) ?_
  intro Γ hd G F hini
  obtain ⟨⟨r1, ⟨ra, rb, rc, rd, re⟩, rt, rtl, rp, rpl, rdr, rep, rday⟩, ⟨l0, l1, l2, l3, l4⟩, ht, hcs, hps, hds, hes, hls⟩ := id h
  subst hd
  by_cases h_e : gIx (mN M 17) i
  · obtain ⟨e, he, rfl⟩ := gIx_of h_e (by have := l3.2.2.1; omega)
    obtain ⟨k1, k2, ⟨kc, kc1, kc2, kc3⟩, ⟨k4, k5, k6, k7, kw⟩, k8, k9, k10⟩ := hes e he
    first | refine g_aload_n G dX7_link_0 rfl ?_ | refine g_aload_nN G dX7_link_0 rfl ?_ | refine g_aload_nQ G dX7_link_0 rfl ?_
    refine g_iload_n G dX7_link_1 rfl ?_
    refine g_callVp (ci := 8) G (c_exhibitAt _ S x ad M h e he) mt_X7_exhibitAt mi_X7_exhibitAt ml_X7_246 (by assumption) (by first | decide | omega) rfl (by decide) (by omega) (by omega) rfl (Nat.le_of_ble_eq_true rfl) dX7_link_2 ?_
    first | refine g_astore G dX7_link_5 (gSt_4 (by first | rfl | exact g_c1_rf)) ?_ | refine g_astoreN G dX7_link_5 (gSt_4 (by first | rfl | exact g_c1_rf)) ?_ | refine g_astoreQ G dX7_link_5 (gSt_4 (by first | rfl | exact g_c1_rf)) ?_
    first | refine g_aload G dX7_link_7 rfl ?_ | refine g_aloadN G dX7_link_7 rfl ?_ | refine g_aloadQ G dX7_link_7 rfl ?_
    refine g_ifnull G dX7_link_9 ?_
    refine g_iload_n G dX7_link_12 rfl ?_
    refine g_if_lt (tgt := 37) G dX7_link_13 (by decide) (fun c_13 => ?_) (fun c_13 => ?_)
    · have hno : ¬ (gIx (mN M 17) (nI e) ∧ (∀ e', e' < mN M 17 → nI e = nI e' → gIx (mN M (200 + e')) l) ∧ gWt 3 w) := fun z => (z.2.1 e he rfl).1 c_13
      exact g_throwW (names := nm_IOE) G F tf_IOE cl_X7_75 ti_IOE st_X7_298 ta_IOE dX7_link_37 (by exact dX7_link_40) (by exact dX7_link_41) (by exact dX7_link_44) (by exact dX7_link_47) (by decide) (Nat.le_of_ble_eq_true rfl) (by omega) (by omega) (⟨rfl, rfl, hno⟩)
    · refine g_iload_n G dX7_link_16 rfl ?_
      first | refine g_aload G dX7_link_17 rfl ?_ | refine g_aloadN G dX7_link_17 rfl ?_ | refine g_aloadQ G dX7_link_17 rfl ?_
      first | refine g_getR G fl_X7_278 (by assumption) (by first | decide | omega) rfl (by assumption) dX7_link_19 ?_ | refine g_getZ G fl_X7_278 (by assumption) (by first | decide | omega) rfl (by assumption) dX7_link_19 ?_ | refine g_getQ G fl_X7_278 (by assumption) (by first | decide | omega) rfl (by first | assumption | rfl) dX7_link_19 ?_
      refine g_callVp (ci := 0) G (c_Jx4a65c_size_8abf5 _ S (ad 10 e) (10 + e) (mN M (200 + e)) (ad (20 + e)) k9) mt_Jx4a65c_size_8abf5 mi_Jx4a65c_size_8abf5 ml_X7_80 (k9.1) (by first | decide | omega) rfl (by decide) (by omega) (by omega) rfl (Nat.le_of_ble_eq_true rfl) dX7_link_22 ?_
      refine g_icmp_ge (tgt := 37) G dX7_link_25 (by decide) (fun c_25 => ?_) (fun c_25 => ?_)
      · have hno : ¬ (gIx (mN M 17) (nI e) ∧ (∀ e', e' < mN M 17 → nI e = nI e' → gIx (mN M (200 + e')) l) ∧ gWt 3 w) := fun z => (z.2.1 e he rfl).2 c_25
        exact g_throwW (names := nm_IOE) G F tf_IOE cl_X7_75 ti_IOE st_X7_298 ta_IOE dX7_link_37 (by exact dX7_link_40) (by exact dX7_link_41) (by exact dX7_link_44) (by exact dX7_link_47) (by decide) (Nat.le_of_ble_eq_true rfl) (by omega) (by omega) (⟨rfl, rfl, hno⟩)
      · obtain ⟨y, hy, rfl⟩ := gIx_of (n := mN M (200 + e)) (i := l) ⟨c_13, c_25⟩ (by omega)
        refine g_iload_n G dX7_link_28 rfl ?_
        refine g_if_lt (tgt := 37) G dX7_link_29 (by decide) (fun c_29 => ?_) (fun c_29 => ?_)
        · have hno : ¬ (gIx (mN M 17) (nI e) ∧ (∀ e', e' < mN M 17 → nI e = nI e' → gIx (mN M (200 + e')) (nI y)) ∧ gWt 3 w) := fun z => absurd z.2.2.1 (Int32.not_le.mpr c_29)
          exact g_throwW (names := nm_IOE) G F tf_IOE cl_X7_75 ti_IOE st_X7_298 ta_IOE dX7_link_37 (by exact dX7_link_40) (by exact dX7_link_41) (by exact dX7_link_44) (by exact dX7_link_47) (by decide) (Nat.le_of_ble_eq_true rfl) (by omega) (by omega) (⟨rfl, rfl, hno⟩)
        · refine g_iload_n G dX7_link_32 rfl ?_
          refine g_iconst (v := nI 3) G dX7_link_33 (by decide) ?_
          refine g_icmp_le (tgt := 48) G dX7_link_34 (by decide) (fun c_34 => ?_) (fun c_34 => ?_)
          · obtain ⟨k, hk, rfl⟩ := gWt_of (k := 3) ⟨Int32.not_lt.mp c_29, c_34⟩ (by decide)
            first | refine g_aload G dX7_link_48 rfl ?_ | refine g_aloadN G dX7_link_48 rfl ?_ | refine g_aloadQ G dX7_link_48 rfl ?_
            first | refine g_getR G fl_X7_278 (by assumption) (by first | decide | omega) rfl (by assumption) dX7_link_50 ?_ | refine g_getZ G fl_X7_278 (by assumption) (by first | decide | omega) rfl (by assumption) dX7_link_50 ?_ | refine g_getQ G fl_X7_278 (by assumption) (by first | decide | omega) rfl (by first | assumption | rfl) dX7_link_50 ?_
            refine g_iload_n G dX7_link_53 rfl ?_
            refine g_callVp (ci := 0) G (c_Jx4a65c_get_915e3 _ S (ad 10 e) (10 + e) (mN M (200 + e)) y (ad (20 + e)) k9 hy) mt_Jx4a65c_get_915e3 mi_Jx4a65c_get_915e3 ml_X7_300 (k9.1) (by first | decide | omega) rfl (by decide) (by omega) (by omega) rfl (Nat.le_of_ble_eq_true rfl) dX7_link_54 ?_
            refine g_cast (ci := 6) G ((k10 y hy).1) (by first | decide | omega) rfl cl_X7_269 dX7_link_57 ?_
            refine g_iload_n G dX7_link_60 rfl ?_
            refine g_callSp G (c_X7_tellLink _ S x ad M h e y k he hy hk) mt_X7_tellLink ms_X7_tellLink ml_X7_304 (by decide) (by omega) (by omega) rfl (Nat.le_of_ble_eq_true rfl) dX7_link_61 ?_
            exact g_iret G F (⟨e, y, k, he, rfl, hy, rfl, hk, rfl, rfl, rfl⟩) (by omega) (by omega) dX7_link_64
          · have hno : ¬ (gIx (mN M 17) (nI e) ∧ (∀ e', e' < mN M 17 → nI e = nI e' → gIx (mN M (200 + e')) (nI y)) ∧ gWt 3 w) := fun z => c_34 z.2.2.2
            exact g_throwW (names := nm_IOE) G F tf_IOE cl_X7_75 ti_IOE st_X7_298 ta_IOE dX7_link_37 (by exact dX7_link_40) (by exact dX7_link_41) (by exact dX7_link_44) (by exact dX7_link_47) (by decide) (Nat.le_of_ble_eq_true rfl) (by omega) (by omega) (⟨rfl, rfl, hno⟩)
  · have hno : ¬ (gIx (mN M 17) i ∧ (∀ e, e < mN M 17 → i = nI e → gIx (mN M (200 + e)) l) ∧ gWt 3 w) := fun z => h_e z.1
    first | refine g_aload_n G dX7_link_0 rfl ?_ | refine g_aload_nN G dX7_link_0 rfl ?_ | refine g_aload_nQ G dX7_link_0 rfl ?_
    refine g_iload_n G dX7_link_1 rfl ?_
    refine g_callVp (ci := 8) G (c_exhibitAt_no _ S x ad M h i (gIx_no h_e)) mt_X7_exhibitAt mi_X7_exhibitAt ml_X7_246 (by assumption) (by first | decide | omega) rfl (by decide) (by omega) (by omega) rfl (Nat.le_of_ble_eq_true rfl) dX7_link_2 ?_
    first | refine g_astore G dX7_link_5 (gSt_4 (by first | rfl | exact g_c1_rf)) ?_ | refine g_astoreN G dX7_link_5 (gSt_4 (by first | rfl | exact g_c1_rf)) ?_ | refine g_astoreQ G dX7_link_5 (gSt_4 (by first | rfl | exact g_c1_rf)) ?_
    first | refine g_aload G dX7_link_7 rfl ?_ | refine g_aloadN G dX7_link_7 rfl ?_ | refine g_aloadQ G dX7_link_7 rfl ?_
    refine g_ifnullN (tgt := 37) G dX7_link_9 (by decide) ?_
    exact g_throwW (names := nm_IOE) G F tf_IOE cl_X7_75 ti_IOE st_X7_298 ta_IOE dX7_link_37 (by exact dX7_link_40) (by exact dX7_link_41) (by exact dX7_link_44) (by exact dX7_link_47) (by decide) (Nat.le_of_ble_eq_true rfl) (by omega) (by omega) (⟨rfl, rfl, hno⟩)

set_option maxHeartbeats 4000000 in
set_option maxRecDepth 100000 in
theorem c_X7_hidden (d0 : Nat × Nat) (S : gS) (x : Nat) (ad : Nat → Nat → Nat) (M : gM) (h : gMail d0 S x ad M) (i j : Int32) : gCt d0 yX7_hidden cX7_hidden 5 (some .int) 10 1 6 [.ref x, .int i, .int j] S (fun v' S' => ∃ p d, p < mN M 8 ∧ i = nI p ∧ d < mN M 11 ∧ j = nI d ∧ v' = some (.int (nI (gHid M p d))) ∧ S' = S) (fun E S' => S' = S ∧ (E = "java/lang/IndexOutOfBoundsException" ∧ ¬ (gIx (mN M 8) i ∧ gIx (mN M 11) j))) := by
  refine gCt_of (lo := [some (.ref x), some (.int i), some (.int j), none, none]) (by decide +kernel) (Nat.le_of_ble_eq_true rfl) (rfl) ?_
  intro Γ hd G F hini
  obtain ⟨⟨r1, ⟨ra, rb, rc, rd, re⟩, rt, rtl, rp, rpl, rdr, rep, rday⟩, ⟨l0, l1, l2, l3, l4⟩, ht, hcs, hps, hds, hes, hls⟩ := id h
  subst hd
  by_cases h_p : gIx (mN M 8) i
  · obtain ⟨p, hp, rfl⟩ := gIx_of h_p (by have := l1.2.2.1; omega)
    by_cases h_d : gIx (mN M 11) j
    · obtain ⟨d, hd, rfl⟩ := gIx_of h_d (by have := l2.2.2.1; omega)
      first | refine g_aload_n G dX7_hidden_0 rfl ?_ | refine g_aload_nN G dX7_hidden_0 rfl ?_ | refine g_aload_nQ G dX7_hidden_0 rfl ?_
      refine g_iload_n G dX7_hidden_1 rfl ?_
      refine g_callVp (ci := 8) G (c_personAt _ S x ad M h p hp) mt_X7_personAt mi_X7_personAt ml_X7_151 (by assumption) (by first | decide | omega) rfl (by decide) (by omega) (by omega) rfl (Nat.le_of_ble_eq_true rfl) dX7_hidden_2 ?_
      first | refine g_astore_n G dX7_hidden_5 (gSt_3 (by first | rfl | exact g_c1_rf)) ?_ | refine g_astore_nN G dX7_hidden_5 (gSt_3 (by first | rfl | exact g_c1_rf)) ?_ | refine g_astore_nQ G dX7_hidden_5 (gSt_3 (by first | rfl | exact g_c1_rf)) ?_
      first | refine g_aload_n G dX7_hidden_6 rfl ?_ | refine g_aload_nN G dX7_hidden_6 rfl ?_ | refine g_aload_nQ G dX7_hidden_6 rfl ?_
      refine g_iload_n G dX7_hidden_7 rfl ?_
      refine g_callVp (ci := 8) G (c_documentAt _ S x ad M h d hd) mt_X7_documentAt mi_X7_documentAt ml_X7_104 (by assumption) (by first | decide | omega) rfl (by decide) (by omega) (by omega) rfl (Nat.le_of_ble_eq_true rfl) dX7_hidden_8 ?_
      first | refine g_astore G dX7_hidden_11 (gSt_4 (by first | rfl | exact g_c1_rf)) ?_ | refine g_astoreN G dX7_hidden_11 (gSt_4 (by first | rfl | exact g_c1_rf)) ?_ | refine g_astoreQ G dX7_hidden_11 (gSt_4 (by first | rfl | exact g_c1_rf)) ?_
      first | refine g_aload_n G dX7_hidden_13 rfl ?_ | refine g_aload_nN G dX7_hidden_13 rfl ?_ | refine g_aload_nQ G dX7_hidden_13 rfl ?_
      refine g_ifnull G dX7_hidden_14 ?_
      first | refine g_aload G dX7_hidden_17 rfl ?_ | refine g_aloadN G dX7_hidden_17 rfl ?_ | refine g_aloadQ G dX7_hidden_17 rfl ?_
      refine g_ifnonnull (tgt := 32) G dX7_hidden_19 (by decide) ?_
      first | refine g_aload_n G dX7_hidden_32 rfl ?_ | refine g_aload_nN G dX7_hidden_32 rfl ?_ | refine g_aload_nQ G dX7_hidden_32 rfl ?_
      first | refine g_aload G dX7_hidden_33 rfl ?_ | refine g_aloadN G dX7_hidden_33 rfl ?_ | refine g_aloadQ G dX7_hidden_33 rfl ?_
      refine g_callSp G (c_X7_hiddenBytes _ S x ad M h p d hp hd) mt_X7_hiddenBytes ms_X7_hiddenBytes ml_X7_198 (by decide) (by omega) (by omega) rfl (Nat.le_of_ble_eq_true rfl) dX7_hidden_35 ?_
      exact g_iret G F (⟨p, d, hp, rfl, hd, rfl, rfl, rfl⟩) (by omega) (by omega) dX7_hidden_38
    · have hno : ¬ (gIx (mN M 8) (nI p) ∧ gIx (mN M 11) j) := fun z => h_d (z.2)
      first | refine g_aload_n G dX7_hidden_0 rfl ?_ | refine g_aload_nN G dX7_hidden_0 rfl ?_ | refine g_aload_nQ G dX7_hidden_0 rfl ?_
      refine g_iload_n G dX7_hidden_1 rfl ?_
      refine g_callVp (ci := 8) G (c_personAt _ S x ad M h p hp) mt_X7_personAt mi_X7_personAt ml_X7_151 (by assumption) (by first | decide | omega) rfl (by decide) (by omega) (by omega) rfl (Nat.le_of_ble_eq_true rfl) dX7_hidden_2 ?_
      first | refine g_astore_n G dX7_hidden_5 (gSt_3 (by first | rfl | exact g_c1_rf)) ?_ | refine g_astore_nN G dX7_hidden_5 (gSt_3 (by first | rfl | exact g_c1_rf)) ?_ | refine g_astore_nQ G dX7_hidden_5 (gSt_3 (by first | rfl | exact g_c1_rf)) ?_
      first | refine g_aload_n G dX7_hidden_6 rfl ?_ | refine g_aload_nN G dX7_hidden_6 rfl ?_ | refine g_aload_nQ G dX7_hidden_6 rfl ?_
      refine g_iload_n G dX7_hidden_7 rfl ?_
      refine g_callVp (ci := 8) G (c_documentAt_no _ S x ad M h j (gIx_no h_d)) mt_X7_documentAt mi_X7_documentAt ml_X7_104 (by assumption) (by first | decide | omega) rfl (by decide) (by omega) (by omega) rfl (Nat.le_of_ble_eq_true rfl) dX7_hidden_8 ?_
      first | refine g_astore G dX7_hidden_11 (gSt_4 (by first | rfl | exact g_c1_rf)) ?_ | refine g_astoreN G dX7_hidden_11 (gSt_4 (by first | rfl | exact g_c1_rf)) ?_ | refine g_astoreQ G dX7_hidden_11 (gSt_4 (by first | rfl | exact g_c1_rf)) ?_
      first | refine g_aload_n G dX7_hidden_13 rfl ?_ | refine g_aload_nN G dX7_hidden_13 rfl ?_ | refine g_aload_nQ G dX7_hidden_13 rfl ?_
      refine g_ifnull G dX7_hidden_14 ?_
      first | refine g_aload G dX7_hidden_17 rfl ?_ | refine g_aloadN G dX7_hidden_17 rfl ?_ | refine g_aloadQ G dX7_hidden_17 rfl ?_
      refine g_ifnonnullN G dX7_hidden_19 ?_
      exact g_throw (names := nm_IOE) G F tf_IOE cl_X7_75 ti_IOE st_X7_179 ta_IOE dX7_hidden_22 (by exact dX7_hidden_25) (by exact dX7_hidden_26) (by exact dX7_hidden_28) (by exact dX7_hidden_31) (by decide) (Nat.le_of_ble_eq_true rfl) (by omega) (by omega) (⟨rfl, rfl, hno⟩)
  · have hno : ¬ (gIx (mN M 8) i ∧ gIx (mN M 11) j) := fun z => h_p (z.1)
    by_cases h_d : gIx (mN M 11) j
    · obtain ⟨d, hd, rfl⟩ := gIx_of h_d (by have := l2.2.2.1; omega)
      first | refine g_aload_n G dX7_hidden_0 rfl ?_ | refine g_aload_nN G dX7_hidden_0 rfl ?_ | refine g_aload_nQ G dX7_hidden_0 rfl ?_
      refine g_iload_n G dX7_hidden_1 rfl ?_
      refine g_callVp (ci := 8) G (c_personAt_no _ S x ad M h i (gIx_no h_p)) mt_X7_personAt mi_X7_personAt ml_X7_151 (by assumption) (by first | decide | omega) rfl (by decide) (by omega) (by omega) rfl (Nat.le_of_ble_eq_true rfl) dX7_hidden_2 ?_
      first | refine g_astore_n G dX7_hidden_5 (gSt_3 (by first | rfl | exact g_c1_rf)) ?_ | refine g_astore_nN G dX7_hidden_5 (gSt_3 (by first | rfl | exact g_c1_rf)) ?_ | refine g_astore_nQ G dX7_hidden_5 (gSt_3 (by first | rfl | exact g_c1_rf)) ?_
      first | refine g_aload_n G dX7_hidden_6 rfl ?_ | refine g_aload_nN G dX7_hidden_6 rfl ?_ | refine g_aload_nQ G dX7_hidden_6 rfl ?_
      refine g_iload_n G dX7_hidden_7 rfl ?_
      refine g_callVp (ci := 8) G (c_documentAt _ S x ad M h d hd) mt_X7_documentAt mi_X7_documentAt ml_X7_104 (by assumption) (by first | decide | omega) rfl (by decide) (by omega) (by omega) rfl (Nat.le_of_ble_eq_true rfl) dX7_hidden_8 ?_
      first | refine g_astore G dX7_hidden_11 (gSt_4 (by first | rfl | exact g_c1_rf)) ?_ | refine g_astoreN G dX7_hidden_11 (gSt_4 (by first | rfl | exact g_c1_rf)) ?_ | refine g_astoreQ G dX7_hidden_11 (gSt_4 (by first | rfl | exact g_c1_rf)) ?_
      first | refine g_aload_n G dX7_hidden_13 rfl ?_ | refine g_aload_nN G dX7_hidden_13 rfl ?_ | refine g_aload_nQ G dX7_hidden_13 rfl ?_
      refine g_ifnullN (tgt := 22) G dX7_hidden_14 (by decide) ?_
      exact g_throw (names := nm_IOE) G F tf_IOE cl_X7_75 ti_IOE st_X7_179 ta_IOE dX7_hidden_22 (by exact dX7_hidden_25) (by exact dX7_hidden_26) (by exact dX7_hidden_28) (by exact dX7_hidden_31) (by decide) (Nat.le_of_ble_eq_true rfl) (by omega) (by omega) (⟨rfl, rfl, hno⟩)
    · first | refine g_aload_n G dX7_hidden_0 rfl ?_ | refine g_aload_nN G dX7_hidden_0 rfl ?_ | refine g_aload_nQ G dX7_hidden_0 rfl ?_
      refine g_iload_n G dX7_hidden_1 rfl ?_
      refine g_callVp (ci := 8) G (c_personAt_no _ S x ad M h i (gIx_no h_p)) mt_X7_personAt mi_X7_personAt ml_X7_151 (by assumption) (by first | decide | omega) rfl (by decide) (by omega) (by omega) rfl (Nat.le_of_ble_eq_true rfl) dX7_hidden_2 ?_
      first | refine g_astore_n G dX7_hidden_5 (gSt_3 (by first | rfl | exact g_c1_rf)) ?_ | refine g_astore_nN G dX7_hidden_5 (gSt_3 (by first | rfl | exact g_c1_rf)) ?_ | refine g_astore_nQ G dX7_hidden_5 (gSt_3 (by first | rfl | exact g_c1_rf)) ?_
      first | refine g_aload_n G dX7_hidden_6 rfl ?_ | refine g_aload_nN G dX7_hidden_6 rfl ?_ | refine g_aload_nQ G dX7_hidden_6 rfl ?_
      refine g_iload_n G dX7_hidden_7 rfl ?_
      refine g_callVp (ci := 8) G (c_documentAt_no _ S x ad M h j (gIx_no h_d)) mt_X7_documentAt mi_X7_documentAt ml_X7_104 (by assumption) (by first | decide | omega) rfl (by decide) (by omega) (by omega) rfl (Nat.le_of_ble_eq_true rfl) dX7_hidden_8 ?_
      first | refine g_astore G dX7_hidden_11 (gSt_4 (by first | rfl | exact g_c1_rf)) ?_ | refine g_astoreN G dX7_hidden_11 (gSt_4 (by first | rfl | exact g_c1_rf)) ?_ | refine g_astoreQ G dX7_hidden_11 (gSt_4 (by first | rfl | exact g_c1_rf)) ?_
      first | refine g_aload_n G dX7_hidden_13 rfl ?_ | refine g_aload_nN G dX7_hidden_13 rfl ?_ | refine g_aload_nQ G dX7_hidden_13 rfl ?_
      refine g_ifnullN (tgt := 22) G dX7_hidden_14 (by decide) ?_
      exact g_throw (names := nm_IOE) G F tf_IOE cl_X7_75 ti_IOE st_X7_179 ta_IOE dX7_hidden_22 (by exact dX7_hidden_25) (by exact dX7_hidden_26) (by exact dX7_hidden_28) (by exact dX7_hidden_31) (by decide) (Nat.le_of_ble_eq_true rfl) (by omega) (by omega) (⟨rfl, rfl, hno⟩)

set_option maxHeartbeats 4000000 in
set_option maxRecDepth 100000 in
theorem c_X7_errorAt (d0 : Nat × Nat) (S : gS) (x : Nat) (ad : Nat → Nat → Nat) (M : gM) (h : gMail d0 S x ad M) : gCt d0 yX7_errorAt cX7_errorAt 1 (some .int) 10 1 6 [.ref x] S (gRet (.int (mA M 3 0)) S) gNo := by
  refine gCt_of (lo := [some (.ref x)]) (by decide +kernel) (Nat.le_of_ble_eq_true rfl) (rfl) ?_
  intro Γ hd G F hini
  obtain ⟨⟨r1, ⟨ra, rb, rc, rd, re⟩, rt, rtl, rp, rpl, rdr, rep, rday⟩, ⟨l0, l1, l2, l3, l4⟩, ht, hcs, hps, hds, hes, hls⟩ := id h
  subst hd
  first | refine g_aload_n G dX7_errorAt_0 rfl ?_ | refine g_aload_nN G dX7_errorAt_0 rfl ?_ | refine g_aload_nQ G dX7_errorAt_0 rfl ?_
  refine g_getI G fl_X7_49 (by assumption) (by first | decide | omega) rfl (by first | assumption | rfl) dX7_errorAt_1 ?_
  exact g_iret G F (gRi rfl) (by omega) (by omega) dX7_errorAt_4

set_option maxHeartbeats 4000000 in
set_option maxRecDepth 100000 in
theorem c_X7_byteAt (d0 : Nat × Nat) (S : gS) (x : Nat) (ad : Nat → Nat → Nat) (M : gM) (h : gMail d0 S x ad M) (i : Int32) : gCt d0 yX7_byteAt cX7_byteAt 2 (some .int) 10 1 6 [.ref x, .int i] S (fun v' S' => ∃ k, k < mN M 5 ∧ i = nI k ∧ v' = some (.int (mA M 4 k)) ∧ S' = S) (fun E S' => S' = S ∧ (E = "java/lang/IndexOutOfBoundsException" ∧ ¬ gIx (mN M 5) i)) := by
  refine gCt_of (lo := [some (.ref x), some (.int i)]) (by decide +kernel) (Nat.le_of_ble_eq_true rfl) (rfl) ?_
  intro Γ hd G F hini
  obtain ⟨⟨r1, ⟨ra, rb, rc, rd, re⟩, rt, rtl, rp, rpl, rdr, rep, rday⟩, ⟨l0, l1, l2, l3, l4⟩, ht, hcs, hps, hds, hes, hls⟩ := id h
  subst hd
  obtain ⟨t1, t2, t3, t4, t5, t6, t7, t8⟩ := ht
  refine g_iload_n G dX7_byteAt_0 rfl ?_
  refine g_if_lt (tgt := 21) G dX7_byteAt_1 (by decide) (fun c_1 => ?_) (fun c_1 => ?_)
  · have hno : ¬ gIx (mN M 5) i := fun z => z.1 c_1
    exact g_throw (names := nm_IOE) G F tf_IOE cl_X7_75 ti_IOE st_X7_196 ta_IOE dX7_byteAt_21 (by exact dX7_byteAt_24) (by exact dX7_byteAt_25) (by exact dX7_byteAt_27) (by exact dX7_byteAt_30) (by decide) (Nat.le_of_ble_eq_true rfl) (by omega) (by omega) (⟨rfl, rfl, hno⟩)
  · refine g_iload_n G dX7_byteAt_4 rfl ?_
    first | refine g_aload_n G dX7_byteAt_5 rfl ?_ | refine g_aload_nN G dX7_byteAt_5 rfl ?_ | refine g_aload_nQ G dX7_byteAt_5 rfl ?_
    refine g_getI G fl_X7_39 (by assumption) (by first | decide | omega) rfl (by first | assumption | rfl) dX7_byteAt_6 ?_
    refine g_icmp_ge (tgt := 21) G dX7_byteAt_9 (by decide) (fun c_9 => ?_) (fun c_9 => ?_)
    · have hno : ¬ gIx (mN M 5) i := fun z => z.2 c_9
      exact g_throw (names := nm_IOE) G F tf_IOE cl_X7_75 ti_IOE st_X7_196 ta_IOE dX7_byteAt_21 (by exact dX7_byteAt_24) (by exact dX7_byteAt_25) (by exact dX7_byteAt_27) (by exact dX7_byteAt_30) (by decide) (Nat.le_of_ble_eq_true rfl) (by omega) (by omega) (⟨rfl, rfl, hno⟩)
    · obtain ⟨k, hk, rfl⟩ := gIx_of (n := mN M 5) (i := i) ⟨c_1, c_9⟩ (by omega)
      refine g_iload_n G dX7_byteAt_12 rfl ?_
      first | refine g_aload_n G dX7_byteAt_13 rfl ?_ | refine g_aload_nN G dX7_byteAt_13 rfl ?_ | refine g_aload_nQ G dX7_byteAt_13 rfl ?_
      first | refine g_getR G fl_X7_36 (by assumption) (by first | decide | omega) rfl (by assumption) dX7_byteAt_14 ?_ | refine g_getZ G fl_X7_36 (by assumption) (by first | decide | omega) rfl (by assumption) dX7_byteAt_14 ?_ | refine g_getQ G fl_X7_36 (by assumption) (by first | decide | omega) rfl (by first | assumption | rfl) dX7_byteAt_14 ?_
      refine g_alen G (t5) (by first | decide | omega) (by first | assumption | rfl) dX7_byteAt_17 ?_
      refine g_icmp_lt (tgt := 31) G dX7_byteAt_18 (by decide) (fun c_18 => ?_) (fun c_18 => (absurd (nI_lt (a := k) (b := 2500) (by omega) (by omega)) c_18))
      first | refine g_aload_n G dX7_byteAt_31 rfl ?_ | refine g_aload_nN G dX7_byteAt_31 rfl ?_ | refine g_aload_nQ G dX7_byteAt_31 rfl ?_
      first | refine g_getR G fl_X7_36 (by assumption) (by first | decide | omega) rfl (by assumption) dX7_byteAt_32 ?_ | refine g_getZ G fl_X7_36 (by assumption) (by first | decide | omega) rfl (by assumption) dX7_byteAt_32 ?_ | refine g_getQ G fl_X7_36 (by assumption) (by first | decide | omega) rfl (by first | assumption | rfl) dX7_byteAt_32 ?_
      refine g_iload_n G dX7_byteAt_35 rfl ?_
      refine g_iald G (t5) (by first | decide | omega) (by omega) (by omega) (t8 k hk) dX7_byteAt_36 ?_
      exact g_iret G F (⟨k, hk, rfl, rfl, rfl⟩) (by omega) (by omega) dX7_byteAt_37
