/-! ===== the law: its entry ===== -/
def gLaw : Jvm.Cond := Jvm.Cond.and given_1 narrow_1
theorem gStr_of {s : State} {args : Array Value} (hw : ∀ w ∈ tables_1, w.before args s = true) (hx : ∀ own k tx, Cond.stringRef own k tx ∈ tables_1 → (Cond.exactly (.string own k) "java/lang/String").before args s = true) : gStr s := by
  intro own k tx hm
  obtain ⟨a, c, cell, k9, h1, -⟩ := Cond.exactly_spec (hx own k tx hm)
  exact ⟨a, vk_R.of (hw _ hm) h1⟩
def gSk : Cond → Option (String × Nat)
  | .stringRef own k _ => some (own, k)
  | _ => none
def gStrL : List (String × Nat) := [("CourtMail", 57), ("CourtMail", 68), ("CourtMail", 77), ("CourtMail", 84), ("CourtMail", 108), ("CourtMail", 118), ("CourtMail", 124), ("CourtMail", 130), ("CourtMail", 132), ("CourtMail", 142), ("CourtMail", 144), ("CourtMail", 155), ("CourtMail", 167), ("CourtMail", 173), ("CourtMail", 179), ("CourtMail", 196), ("CourtMail", 214), ("CourtMail", 219), ("CourtMail", 221), ("CourtMail", 227), ("CourtMail", 239), ("CourtMail", 250), ("CourtMail", 261), ("CourtMail", 267), ("CourtMail", 281), ("CourtMail", 283), ("CourtMail", 288), ("CourtMail", 290), ("CourtMail", 292), ("CourtMail", 298), ("CourtMail", 308), ("CourtMail", 310), ("CourtMail", 321), ("CourtMail", 327), ("CourtMail", 335), ("CourtMail", 361)]
set_option maxRecDepth 100000 in
theorem gStrL_in : ∀ w ∈ tables_1, ∀ q, gSk w = some q → q ∈ gStrL := by
  have h : tables_1.all (fun w => match gSk w with | some q => decide (q ∈ gStrL) | none => true) = true := by decide +kernel
  intro w hw q hq
  have := List.all_eq_true.mp h w hw
  rw [hq] at this
  exact of_decide_eq_true this
set_option maxRecDepth 100000 in
theorem gStrX {s : State} {args : Array Value} (hs : ∀ w ∈ flatC gLaw, w.before args s = true) : ∀ q ∈ gStrL, (Cond.exactly (.string q.1 q.2) "java/lang/String").before args s = true := by
  intro q hq
  unfold gStrL at hq
  simp only [List.mem_cons, List.not_mem_nil, or_false] at hq
  rcases hq with rfl | rfl | rfl | rfl | rfl | rfl | rfl | rfl | rfl | rfl | rfl | rfl | rfl | rfl | rfl | rfl | rfl | rfl | rfl | rfl | rfl | rfl | rfl | rfl | rfl | rfl | rfl | rfl | rfl | rfl | rfl | rfl | rfl | rfl | rfl | rfl
  · exact hs _ (List.mem_of_getElem? (i := 50) (by decide +kernel))
  · exact hs _ (List.mem_of_getElem? (i := 97) (by decide +kernel))
  · exact hs _ (List.mem_of_getElem? (i := 137) (by decide +kernel))
  · exact hs _ (List.mem_of_getElem? (i := 153) (by decide +kernel))
  · exact hs _ (List.mem_of_getElem? (i := 179) (by decide +kernel))
  · exact hs _ (List.mem_of_getElem? (i := 199) (by decide +kernel))
  · exact hs _ (List.mem_of_getElem? (i := 234) (by decide +kernel))
  · exact hs _ (List.mem_of_getElem? (i := 274) (by decide +kernel))
  · exact hs _ (List.mem_of_getElem? (i := 294) (by decide +kernel))
  · exact hs _ (List.mem_of_getElem? (i := 315) (by decide +kernel))
  · exact hs _ (List.mem_of_getElem? (i := 353) (by decide +kernel))
  · exact hs _ (List.mem_of_getElem? (i := 376) (by decide +kernel))
  · exact hs _ (List.mem_of_getElem? (i := 402) (by decide +kernel))
  · exact hs _ (List.mem_of_getElem? (i := 440) (by decide +kernel))
  · exact hs _ (List.mem_of_getElem? (i := 476) (by decide +kernel))
  · exact hs _ (List.mem_of_getElem? (i := 506) (by decide +kernel))
  · exact hs _ (List.mem_of_getElem? (i := 536) (by decide +kernel))
  · exact hs _ (List.mem_of_getElem? (i := 553) (by decide +kernel))
  · exact hs _ (List.mem_of_getElem? (i := 583) (by decide +kernel))
  · exact hs _ (List.mem_of_getElem? (i := 623) (by decide +kernel))
  · exact hs _ (List.mem_of_getElem? (i := 672) (by decide +kernel))
  · exact hs _ (List.mem_of_getElem? (i := 697) (by decide +kernel))
  · exact hs _ (List.mem_of_getElem? (i := 726) (by decide +kernel))
  · exact hs _ (List.mem_of_getElem? (i := 771) (by decide +kernel))
  · exact hs _ (List.mem_of_getElem? (i := 811) (by decide +kernel))
  · exact hs _ (List.mem_of_getElem? (i := 830) (by decide +kernel))
  · exact hs _ (List.mem_of_getElem? (i := 867) (by decide +kernel))
  · exact hs _ (List.mem_of_getElem? (i := 889) (by decide +kernel))
  · exact hs _ (List.mem_of_getElem? (i := 923) (by decide +kernel))
  · exact hs _ (List.mem_of_getElem? (i := 962) (by decide +kernel))
  · exact hs _ (List.mem_of_getElem? (i := 1009) (by decide +kernel))
  · exact hs _ (List.mem_of_getElem? (i := 1044) (by decide +kernel))
  · exact hs _ (List.mem_of_getElem? (i := 1068) (by decide +kernel))
  · exact hs _ (List.mem_of_getElem? (i := 1106) (by decide +kernel))
  · exact hs _ (List.mem_of_getElem? (i := 1129) (by decide +kernel))
  · exact hs _ (List.mem_of_getElem? (i := 1147) (by decide +kernel))
theorem gNst_of {s : State} {args : Array Value} (hw : ∀ w ∈ tables_1, w.before args s = true) : gNst s := by
  intro w hm hg
  refine va_Nw.of ?_ (hw w hm)
  cases w <;> first | rfl | cases hg
theorem gArrP {s : State} {args : Array Value} {ty : FieldType} (h : (Cond.arrayClass ty).before args s = true) (hq : ∀ C, ty ≠ .object C) : ∃ cA, ArrOfT s cA ty ∧ va_RA s cA ty ∧ s.vm.findClass ("[" ++ ty.toString) = some cA := by
  obtain ⟨c, k, comp, h1, h2, h3⟩ := Cond.arrayClass_spec h
  refine ⟨c, fun n z => ⟨(fun k h => by cases h), k, h2, comp, h3⟩, ?_, h1⟩
  cases ty <;> first | exact h1 | exact absurd rfl (hq _)
/-- rows of rows of ints: their class, and the rows' own -/
theorem gOver2 {s : State} {args : Array Value} (h : (Cond.arrayOver (.array .int)).before args s = true) : ∃ comp c k, s.vm.findClass (FieldType.array .int).toString = some comp ∧ s.vm.classes[c]? = some k ∧ k.kind = .array comp (.array .int) ∧ s.vm.findClass ("[" ++ (FieldType.array .int).toString) = some c := by
  simp only [Cond.before, Cond.holds, Cond.value, beq_iff_eq] at h
  cases e1 : s.vm.findClass (FieldType.array .int).toString with
  | none => rw [e1] at h; simp at h
  | some comp =>
    rw [e1] at h
    simp only [Option.bind_some, Option.bind_eq_some_iff, Option.map_eq_some_iff] at h
    obtain ⟨c, e2, k, e3, e4⟩ := h
    obtain ⟨_, e5, _⟩ := Array.findIdx?_eq_some_iff_getElem.mp e2
    rw [(Array.getElem?_eq_some_iff.mp e3).2] at e5
    cases e6 : k.kind with
    | array x y =>
      rw [e6] at e4 e5
      simp at e4 e5
      exact ⟨comp, c, k, rfl, e3, by rw [e6, e5, e4.1], e4.2⟩
    | _ => rw [e6] at e4; simp at e4
set_option maxRecDepth 4000 in
theorem ins_0 : Cond.instantiable RJx4a65c 3 ∈ gWords := g_t1 36 rfl rfl
set_option maxRecDepth 4000 in
theorem ins_1 : Cond.instantiable RX0 2 ∈ gWords := g_t3 193 rfl rfl
set_option maxRecDepth 4000 in
theorem ins_2 : Cond.instantiable RX1 8 ∈ gWords := g_t3 44 rfl rfl
set_option maxRecDepth 4000 in
theorem ins_3 : Cond.instantiable RX2 14 ∈ gWords := g_t1 62 rfl rfl
set_option maxRecDepth 4000 in
theorem ins_4 : Cond.instantiable RX3 6 ∈ gWords := g_t4 147 rfl rfl
set_option maxRecDepth 4000 in
theorem ins_5 : Cond.instantiable RX4 6 ∈ gWords := g_t5 35 rfl rfl
set_option maxRecDepth 4000 in
theorem ins_6 : Cond.instantiable RX5 4 ∈ gWords := g_t4 197 rfl rfl
set_option maxRecDepth 4000 in
theorem ins_7 : Cond.instantiable RX6 5 ∈ gWords := g_t3 225 rfl rfl
set_option maxRecDepth 4000 in
theorem ins_8 : Cond.instantiable RX7 12 ∈ gWords := g_t1 28 rfl rfl
set_option maxRecDepth 4000 in
theorem ins_9 : Cond.instantiable RX8 9 ∈ gWords := g_t5 156 rfl rfl
set_option maxRecDepth 4000 in
theorem ins_10 : Cond.instantiable RX9 35 ∈ gWords := g_t5 148 rfl rfl
theorem gKn_all {s : State} {args : Array Value} (hts : ∀ w ∈ gWords, w.before args s = true) : ∀ c : Nat, ∃ z : ClassId × (Nat → Nat), ∀ q, vwCl[c]? = some q → u_Kn s q.1 q.2.1 q.2.2 z.1 z.2 := by
  intro c
  match c with
  | 0 => obtain ⟨cC, iS, h⟩ := u_known (C := RJx4a65c) (T := TJx4a65c) (N := 3) (n := 3) hts gin_0 (hts _ ins_0); exact ⟨(cC, iS), fun q hq => by cases hq; exact h⟩
  | 1 => obtain ⟨cC, iS, h⟩ := u_known (C := RX0) (T := TX0) (N := 2) (n := 2) hts gin_1 (hts _ ins_1); exact ⟨(cC, iS), fun q hq => by cases hq; exact h⟩
  | 2 => obtain ⟨cC, iS, h⟩ := u_known (C := RX1) (T := TX1) (N := 8) (n := 8) hts gin_2 (hts _ ins_2); exact ⟨(cC, iS), fun q hq => by cases hq; exact h⟩
  | 3 => obtain ⟨cC, iS, h⟩ := u_known (C := RX2) (T := TX2) (N := 14) (n := 14) hts gin_3 (hts _ ins_3); exact ⟨(cC, iS), fun q hq => by cases hq; exact h⟩
  | 4 => obtain ⟨cC, iS, h⟩ := u_known (C := RX3) (T := TX3) (N := 6) (n := 6) hts gin_4 (hts _ ins_4); exact ⟨(cC, iS), fun q hq => by cases hq; exact h⟩
  | 5 => obtain ⟨cC, iS, h⟩ := u_known (C := RX4) (T := TX4) (N := 6) (n := 6) hts gin_5 (hts _ ins_5); exact ⟨(cC, iS), fun q hq => by cases hq; exact h⟩
  | 6 => obtain ⟨cC, iS, h⟩ := u_known (C := RX5) (T := TX5) (N := 4) (n := 4) hts gin_6 (hts _ ins_6); exact ⟨(cC, iS), fun q hq => by cases hq; exact h⟩
  | 7 => obtain ⟨cC, iS, h⟩ := u_known (C := RX6) (T := TX6) (N := 5) (n := 5) hts gin_7 (hts _ ins_7); exact ⟨(cC, iS), fun q hq => by cases hq; exact h⟩
  | 8 => obtain ⟨cC, iS, h⟩ := u_known (C := RX7) (T := TX7) (N := 12) (n := 12) hts gin_8 (hts _ ins_8); exact ⟨(cC, iS), fun q hq => by cases hq; exact h⟩
  | 9 => obtain ⟨cC, iS, h⟩ := u_known (C := RX8) (T := TX8) (N := 9) (n := 9) hts gin_9 (hts _ ins_9); exact ⟨(cC, iS), fun q hq => by cases hq; exact h⟩
  | 10 => obtain ⟨cC, iS, h⟩ := u_known (C := RX9) (T := TX9) (N := 35) (n := 35) hts gin_10 (hts _ ins_10); exact ⟨(cC, iS), fun q hq => by cases hq; exact h⟩
  | c + 11 => exact ⟨(default, fun _ => 0), fun q hq => by cases hq⟩
theorem lw_stack {l : Launch} (h : l.flags = flags0) : l.stackTraces = false := by
  unfold Launch.stackTraces
  rw [h]
  decide +kernel
set_option maxHeartbeats 4000000 in
set_option maxRecDepth 100000 in
theorem lw_gV {s : State} {args : Array Value} (hts : ∀ w ∈ lw_tbl, w.before args s = true) (hg : gLaw.before args s = true) : ∃ (D : va_G) (cT : Nat → ClassId) (d0 : Nat × Nat), va_K D vwCl (gT cT) s ∧ gV d0 cT (fun q => s.heap.size ≤ q) s s.heap := by
  have hs := flat_of_before _ hg
  have hw : ∀ w ∈ tables_1, w.before args s = true := fun w h => hts w (List.mem_append_right _ h)
  have hG : ∀ w ∈ gWords, w.before args s = true := fun w h => hts w (List.mem_filter.mp h).1
  have hA : ∀ a : Nat, a < s.heap.size → ¬ (fun q => s.heap.size ≤ q) a := fun a h => Nat.not_le.mpr h
  obtain ⟨cB, b1, b2, b3⟩ := gArrP (hG _ ac_byte) (by intro C h; cases h)
  obtain ⟨cI, i1, i2, i3⟩ := gArrP (hG _ ac_int) (by intro C h; cases h)
  obtain ⟨cL, l1, l2, l3⟩ := gArrP (hG _ ac_long) (by intro C h; cases h)
  have hO : (Cond.arrayOver (.object "java/lang/Object")).before args s = true := hw _ (g_u3 148 rfl)
  have hI2 : (Cond.arrayOver (.array .int)).before args s = true := hw _ (g_u5 154 rfl)
  obtain ⟨compO, cO, kO, o1, o2, o3, o4, o5⟩ := Cond.arrayOver_spec hO
  obtain ⟨comp2, c2, k2, p1, p2, p3, p4⟩ := gOver2 hI2
  obtain rfl : cI = comp2 := Option.some.inj (i3.symm.trans p1)
  obtain ⟨mi, hmi⟩ := va_Mi.of (C := "[Ljava/lang/Object;") (hs _ (List.mem_of_getElem? (i := 49) (by decide +kernel)))
  have hlen : (Term.length (Jvm.Term.static "java/util/ArrayList" "DEFAULTCAPACITY_EMPTY_ELEMENTDATA" "[Ljava/lang/Object;")).eval args s none [] s = some (.int (Int32.ofNat 0)) := va_eqt (hs _ (List.mem_of_getElem? (i := 7) (by decide +kernel)))
  obtain ⟨t, ht, hT⟩ := va_Tof (ty := .object "java/lang/Object") (f := fun _ => .null) (by decide) (hs _ (List.mem_of_getElem? (i := 5) (by decide +kernel))) hlen (fun j hj => absurd hj (Nat.not_lt_zero j)) hA
  refine ⟨(fun c => (Classical.choose (gKn_all hG c)).1, fun c => (Classical.choose (gKn_all hG c)).2), fun i => if i = 16 then cB else if i = 17 then cI else if i = 18 then cL else if i = 19 then cO else c2, (t, mi), ⟨fun c q hq => Classical.choose_spec (gKn_all hG c) q hq, ?_⟩, ⟨?_, ?_, va_Zof (hw _ (g_u1 48 rfl)) (hw _ (g_u1 4 rfl)) ht hA, hT⟩, ?_, gNst_of hw, va_AO.of hO, ?_, ⟨k2, p2, p3⟩, hmi, ?_⟩
  · intro k q hk
    match k with
    | 0 => cases hk; exact ⟨b1, b2⟩
    | 1 => cases hk; exact ⟨i1, i2⟩
    | 2 => cases hk; exact ⟨l1, l2⟩
    | 3 => cases hk; exact ⟨fun N z => ⟨(fun k h => by cases h), kO, o3, compO, o4⟩, kO, compO, o3, o4, o1, o5⟩
    | 4 => cases hk; exact ⟨fun N z => ⟨(fun k h => by cases h), k2, p2, cI, p3⟩, p4⟩
    | k + 5 => cases hk
  · exact vx_Zqof (hw _ (g_u2 135 rfl)) (hw _ (g_u1 8 rfl)) (hs _ (List.mem_of_getElem? (i := 8) (by decide +kernel))) hA
  · exact vx_Zqof (hw _ (g_u2 137 rfl)) (hw _ (g_u1 8 rfl)) (hs _ (List.mem_of_getElem? (i := 9) (by decide +kernel))) hA
  · exact gStr_of hw (fun own k tx hm => gStrX hs (own, k) (gStrL_in _ hm _ rfl))
  · exact hI2
  · intro q hq
    unfold gNcl at hq
    simp only [List.mem_cons, List.not_mem_nil, or_false] at hq
    rcases hq with rfl | rfl | rfl | rfl | rfl | rfl
    · exact va_Nc.of (hs _ (List.mem_of_getElem? (i := 41) (by decide +kernel)))
    · exact va_Nc.of (hs _ (List.mem_of_getElem? (i := 42) (by decide +kernel)))
    · exact va_Nc.of (hs _ (List.mem_of_getElem? (i := 28) (by decide +kernel)))
    · exact va_Nc.of (hs _ (List.mem_of_getElem? (i := 29) (by decide +kernel)))
    · exact va_Nc.of (hs _ (List.mem_of_getElem? (i := 16) (by decide +kernel)))
    · exact va_Nc.of (hs _ (List.mem_of_getElem? (i := 15) (by decide +kernel)))
/-- the law's context, its script, the empty store -/
theorem lw_gamma {p : Program} {e : Env} {s : State} {m : MethodId} {below : List Frame} {meth : Method} {c : Code} {l : Launch} {b L : Nat} {xs : Nat → Int32} (Q : State → Prop) (hflags : l.flags = flags0) (hx : p.tables.exec = Jvm.exec) (hb : c.code = code) (hown : s.vm.findClass RL = some m.cls) (hts : ∀ w ∈ lw_tbl, w.before #[Value.ref b] s = true) (hX : va_X b L xs s s.heap) (hbl : b < s.heap.size) (hg : gLaw.before #[Value.ref b] s = true) :
    ∃ (D : va_G) (cT : Nat → ClassId) (d0 : Nat × Nat), gOK (p, l, e, room_1, s, m, #[Value.ref b], below, meth, c, Q, (fun q => s.heap.size ≤ q), D, cT, d0) RL cL_law 12 601024 7293034 ∧ gScr (p, l, e, room_1, s, m, #[Value.ref b], below, meth, c, Q, (fun q => s.heap.size ≤ q), D, cT, d0) b L xs := by
  obtain ⟨D, cT, d0, hK, hV⟩ := lw_gV hts hg
  exact ⟨D, cT, d0, ⟨hx, hb, hown, fun w h => hts w (List.mem_filter.mp h).1, hK, fun q h => h, hV, ⟨rfl, lw_stack hflags⟩, rfl, rfl, rfl⟩, hX, hbl, Nat.not_le.mpr hbl⟩
def gS0 : gS := (fun _ => 0, fun _ => 0, fun _ _ _ => 0, fun _ _ _ => none, fun _ _ _ => 0)
theorem gS0_R (D : va_G) (cT : Nat → ClassId) (A : Nat → Prop) (H : Heap) : gR D cT A gS0 H := ⟨[], fun k q h => by simp at h, ⟨fun i j p q h => by simp at h, fun k q h => by simp at h⟩, fun k q h => by simp at h, fun a h => absurd rfl h⟩
