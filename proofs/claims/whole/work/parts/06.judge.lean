/-! ===== THE JUDGEMENT gW: the machine at pc with locals lo, stack st, store S, having made k cells of sl slots ===== -/
abbrev gC : Type := Program × Launch × Env × Room × State × MethodId × Array Value × List Frame × Method × Code × (State → Prop) × (Nat → Prop) × va_G × (Nat → ClassId) × (Nat × Nat)
def gTy (t : Nat) : FieldType := match t with
  | 16 => .byte
  | 17 => .int
  | 18 => .long
  | 19 => .object "java/lang/Object"
  | _ => .array .int
def gT (cT : Nat → ClassId) : List (ClassId × FieldType) := [(cT 16, .byte), (cT 17, .int), (cT 18, .long), (cT 19, .object "java/lang/Object"), (cT 20, .array .int)]
def gR (D : va_G) (cT : Nat → ClassId) (A : Nat → Prop) (S : gS) (H : Heap) : Prop := ∃ ws, va_P D vwCl ws H ∧ va_D A ws ∧ gWs cT S ws
def gW (Γ : gC) (pc : Nat) (lo : List (Option Value)) (st : List Value) (S : gS) (k sl : Nat) : Prop :=
  match Γ with
  | (p, l, e, R, s, m, args, below, meth, c, Q, A, D, cT, _) => ∀ (H : Heap) (locs : List Loc) (ls : Array Slot), gR D cT A S H → va_S A s.heap H locs → gH ls c.maxLocals lo → W p l e R s m args below meth c H locs k sl Q (F0 m pc ls st)
/-- the constants' texts, where they lie -/
def gStr (U : State) : Prop := ∀ own k tx, Cond.stringRef own k tx ∈ tables_1 → ∃ a, vk_R own k tx a U
def gNst (U : State) : Prop := ∀ w ∈ tables_1, gNW w = true → va_Nw w U
theorem gNst.warm {s U : State} (hW : s.WarmedH U.vm) (h : gNst s) : gNst U := by
  intro w hw hg
  cases w <;> first | (cases hg; done) | exact va_Nw.warmF hW (h _ hw rfl) | exact va_Nw.warmM hW (h _ hw rfl) | exact va_Nw.warmC hW (h _ hw rfl) | exact va_Nw.warmD hW (h _ hw rfl)
/-- classes that aren't each other's -/
def gNcl : List (String × String) := [("java/lang/IllegalStateException", "java/lang/IndexOutOfBoundsException"), ("java/lang/IllegalArgumentException", "java/lang/IndexOutOfBoundsException"), ("java/lang/IllegalStateException", "java/lang/IllegalArgumentException"), ("java/lang/IndexOutOfBoundsException", "java/lang/IllegalArgumentException"), ("java/lang/IndexOutOfBoundsException", "java/lang/IllegalStateException"), ("java/lang/IllegalArgumentException", "java/lang/IllegalStateException")]
def gA2 (cT : Nat → ClassId) (U : State) : Prop := ∃ kA : Class, U.vm.classes[cT 20]? = some kA ∧ kA.kind = .array (cT 17) (.array .int)
/-- what lies still: the statics, and what the tables say -/
def gV (d0 : Nat × Nat) (cT : Nat → ClassId) (A : Nat → Prop) (U : State) (H : Heap) : Prop :=
  (vx_Zq Bundle.tN "UNASSIGNED_STACK" Bundle.steD A U H ∧ vx_Zq Bundle.tN "SUPPRESSED_SENTINEL" Bundle.listD A U H ∧ va_Z "java/util/ArrayList" "DEFAULTCAPACITY_EMPTY_ELEMENTDATA" "[Ljava/lang/Object;" (.ref d0.1) A U H ∧ va_T (.object "java/lang/Object") d0.1 0 (fun _ => .null) A U H) ∧
  gStr U ∧ gNst U ∧ va_AO "java/lang/Object" U ∧ (Cond.arrayOver (.array .int)).before #[] U = true ∧ gA2 cT U ∧ va_Mi "[Ljava/lang/Object;" d0.2 U ∧ ∀ q ∈ gNcl, va_Nc q.1 q.2 U
theorem gV.moved {d0 : Nat × Nat} {cT : Nat → ClassId} {A : Nat → Prop} {s U : State} {H : Heap} (hW : s.WarmedH U.vm) (h : gV d0 cT A s H) : gV d0 cT A U H := by
  obtain ⟨⟨h1, h2, h3, h4⟩, h5, h6, h7, h8, ⟨kA, k1, k2⟩, h9, h10⟩ := h
  have hA := hW.alike
  refine ⟨⟨h1.moved hA, h2.moved hA, h3.moved hA, h4.moved hA⟩, fun own k tx hm => ?_, h6.warm hW, h7.moved hA, over_moved hA h8, ?_, h9.moved hA, fun q hq => (h10 q hq).moved hA⟩
  · obtain ⟨a, ha⟩ := h5 own k tx hm
    exact ⟨a, ha.warm hW⟩
  · obtain ⟨k', hk', he⟩ := hA.2.2 _ _ k1
    exact ⟨k', hk', by rw [he]; exact k2⟩
theorem gV.kept {d0 : Nat × Nat} {cT : Nat → ClassId} {A : Nat → Prop} {U : State} {H H1 : Heap} (h : gV d0 cT A U H) (hq : ∀ a : Nat, a < H.size → ¬ A a → H1[a]? = H[a]?) : gV d0 cT A U H1 :=
  ⟨⟨h.1.1.kept hq, h.1.2.1.kept hq, h.1.2.2.1.kept hq, h.1.2.2.2.kept hq⟩, h.2⟩
theorem gV.narrow {d0 : Nat × Nat} {cT : Nat → ClassId} {A B : Nat → Prop} {U : State} {H : Heap} (h : gV d0 cT A U H) (hAB : ∀ q, B q → A q) : gV d0 cT B U H :=
  ⟨⟨h.1.1.narrow hAB, h.1.2.1.narrow hAB, h.1.2.2.1.narrow hAB, h.1.2.2.2.narrow hAB⟩, h.2⟩
def gOK (Γ : gC) (own : String) (cc : ByteArray) (n mc ms : Nat) : Prop :=
  match Γ with
  | (p, l, _, R, s, m, args, _, _, c, _, A, D, cT, d0) => p.tables.exec = Jvm.exec ∧ c.code = cc ∧ s.vm.findClass own = some m.cls ∧ (∀ w ∈ gWords, w.before args s = true) ∧ va_K D vwCl (gT cT) s ∧ (∀ q, s.heap.size ≤ q → A q) ∧ gV d0 cT A s s.heap ∧ (R.frames = n ∧ l.stackTraces = false) ∧ R.locals = 36 * n + 16 ∧ R.cells = mc ∧ R.slots = ms
section GROWS
variable {Γ : gC} {own : String} {cc : ByteArray} {n mc ms pc : Nat} {lo lo' : List (Option Value)} {st : List Value} {S : gS} {k sl : Nat}
theorem gW.wid {k' sl' : Nat} (h1 : k ≤ k') (h2 : sl ≤ sl') (kk : gW Γ pc lo st S k' sl') : gW Γ pc lo st S k sl := by
  obtain ⟨p, l, e1, R, s, m, args, below, meth, c, Q, A, D, cT, d0⟩ := Γ
  intro H locs ls hR hS hL
  exact W.widen h1 h2 (kk H locs ls hR hS hL)
def gSt (i : Nat) (v : Value) (lo lo' : List (Option Value)) : Prop := lo'.length = lo.length ∧ (∀ (j : Nat) (x : Option Value), i = j + 1 → lo[j]? = some x → g_c1 x = true) ∧ lo'[i]? = some (some v) ∧ ∀ j, j ≠ i → lo'[j]? = lo[j]?
def gSt2 (i : Nat) (v : Value) (lo lo' : List (Option Value)) : Prop := lo'.length = lo.length ∧ (∀ (j : Nat) (x : Option Value), i = j + 1 → lo[j]? = some x → g_c1 x = true) ∧ lo'[i]? = some (some v) ∧ lo'[i + 1]? = some none ∧ ∀ j, j ≠ i → j ≠ i + 1 → lo'[j]? = lo[j]?
theorem gSt.lt {i : Nat} {v : Value} (h : gSt i v lo lo') : i < lo.length := by
  rw [← h.1]
  exact (List.getElem?_eq_some_iff.mp h.2.2.1).1
theorem gSt2.lt {i : Nat} {v : Value} (h : gSt2 i v lo lo') : i + 1 < lo.length := by
  rw [← h.1]
  exact (List.getElem?_eq_some_iff.mp h.2.2.2.1).1
theorem gSt_gen (pre : List (Option Value)) (x : Option Value) (r : List (Option Value)) (v : Value) (h : ∀ y, pre.getLast? = some y → g_c1 y = true) : gSt pre.length v (pre ++ x :: r) (pre ++ some v :: r) := by
  refine ⟨by simp, fun j y hj hy => h y ?_, by simp, fun j hj => ?_⟩
  · rw [List.getElem?_append_left (by omega)] at hy
    rw [List.getLast?_eq_getElem?, show pre.length - 1 = j by omega]
    exact hy
  · by_cases hl : j < pre.length
    · rw [List.getElem?_append_left hl, List.getElem?_append_left hl]
    · rw [List.getElem?_append_right (by omega), List.getElem?_append_right (by omega)]
      obtain ⟨d, hd⟩ : ∃ d, j - pre.length = d + 1 := ⟨j - pre.length - 1, by omega⟩
      rw [hd, List.getElem?_cons_succ, List.getElem?_cons_succ]
theorem gSt2_gen (pre : List (Option Value)) (x y : Option Value) (r : List (Option Value)) (v : Value) (h : ∀ y, pre.getLast? = some y → g_c1 y = true) : gSt2 pre.length v (pre ++ x :: y :: r) (pre ++ some v :: none :: r) := by
  refine ⟨by simp, fun j y hj hy => h y ?_, by simp, by simp, fun j hj hj1 => ?_⟩
  · rw [List.getElem?_append_left (by omega)] at hy
    rw [List.getLast?_eq_getElem?, show pre.length - 1 = j by omega]
    exact hy
  · by_cases hl : j < pre.length
    · rw [List.getElem?_append_left hl, List.getElem?_append_left hl]
    · rw [List.getElem?_append_right (by omega), List.getElem?_append_right (by omega)]
      obtain ⟨d, hd⟩ : ∃ d, j - pre.length = d + 2 := ⟨j - pre.length - 2, by omega⟩
      rw [hd, List.getElem?_cons_succ, List.getElem?_cons_succ, List.getElem?_cons_succ, List.getElem?_cons_succ]
theorem gSt_0 {x0 : Option Value} {r : List (Option Value)} {v : Value} : gSt 0 v (x0 :: r) (some v :: r) := gSt_gen [] x0 r v (fun y hy => by simp at hy)
theorem gSt_1 {x0 x1 : Option Value} {r : List (Option Value)} {v : Value} (h : g_c1 x0 = true) : gSt 1 v (x0 :: x1 :: r) (x0 :: some v :: r) := gSt_gen [x0] x1 r v (fun y hy => by simp at hy; rw [← hy]; exact h)
theorem gSt_2 {x0 x1 x2 : Option Value} {r : List (Option Value)} {v : Value} (h : g_c1 x1 = true) : gSt 2 v (x0 :: x1 :: x2 :: r) (x0 :: x1 :: some v :: r) := gSt_gen [x0, x1] x2 r v (fun y hy => by simp at hy; rw [← hy]; exact h)
theorem gSt_3 {x0 x1 x2 x3 : Option Value} {r : List (Option Value)} {v : Value} (h : g_c1 x2 = true) : gSt 3 v (x0 :: x1 :: x2 :: x3 :: r) (x0 :: x1 :: x2 :: some v :: r) := gSt_gen [x0, x1, x2] x3 r v (fun y hy => by simp at hy; rw [← hy]; exact h)
theorem gSt_4 {x0 x1 x2 x3 x4 : Option Value} {r : List (Option Value)} {v : Value} (h : g_c1 x3 = true) : gSt 4 v (x0 :: x1 :: x2 :: x3 :: x4 :: r) (x0 :: x1 :: x2 :: x3 :: some v :: r) := gSt_gen [x0, x1, x2, x3] x4 r v (fun y hy => by simp at hy; rw [← hy]; exact h)
theorem gSt_5 {x0 x1 x2 x3 x4 x5 : Option Value} {r : List (Option Value)} {v : Value} (h : g_c1 x4 = true) : gSt 5 v (x0 :: x1 :: x2 :: x3 :: x4 :: x5 :: r) (x0 :: x1 :: x2 :: x3 :: x4 :: some v :: r) := gSt_gen [x0, x1, x2, x3, x4] x5 r v (fun y hy => by simp at hy; rw [← hy]; exact h)
theorem gSt_6 {x0 x1 x2 x3 x4 x5 x6 : Option Value} {r : List (Option Value)} {v : Value} (h : g_c1 x5 = true) : gSt 6 v (x0 :: x1 :: x2 :: x3 :: x4 :: x5 :: x6 :: r) (x0 :: x1 :: x2 :: x3 :: x4 :: x5 :: some v :: r) := gSt_gen [x0, x1, x2, x3, x4, x5] x6 r v (fun y hy => by simp at hy; rw [← hy]; exact h)
theorem gSt_7 {x0 x1 x2 x3 x4 x5 x6 x7 : Option Value} {r : List (Option Value)} {v : Value} (h : g_c1 x6 = true) : gSt 7 v (x0 :: x1 :: x2 :: x3 :: x4 :: x5 :: x6 :: x7 :: r) (x0 :: x1 :: x2 :: x3 :: x4 :: x5 :: x6 :: some v :: r) := gSt_gen [x0, x1, x2, x3, x4, x5, x6] x7 r v (fun y hy => by simp at hy; rw [← hy]; exact h)
theorem gSt_8 {x0 x1 x2 x3 x4 x5 x6 x7 x8 : Option Value} {r : List (Option Value)} {v : Value} (h : g_c1 x7 = true) : gSt 8 v (x0 :: x1 :: x2 :: x3 :: x4 :: x5 :: x6 :: x7 :: x8 :: r) (x0 :: x1 :: x2 :: x3 :: x4 :: x5 :: x6 :: x7 :: some v :: r) := gSt_gen [x0, x1, x2, x3, x4, x5, x6, x7] x8 r v (fun y hy => by simp at hy; rw [← hy]; exact h)
theorem gSt_9 {x0 x1 x2 x3 x4 x5 x6 x7 x8 x9 : Option Value} {r : List (Option Value)} {v : Value} (h : g_c1 x8 = true) : gSt 9 v (x0 :: x1 :: x2 :: x3 :: x4 :: x5 :: x6 :: x7 :: x8 :: x9 :: r) (x0 :: x1 :: x2 :: x3 :: x4 :: x5 :: x6 :: x7 :: x8 :: some v :: r) := gSt_gen [x0, x1, x2, x3, x4, x5, x6, x7, x8] x9 r v (fun y hy => by simp at hy; rw [← hy]; exact h)
theorem gSt_10 {x0 x1 x2 x3 x4 x5 x6 x7 x8 x9 x10 : Option Value} {r : List (Option Value)} {v : Value} (h : g_c1 x9 = true) : gSt 10 v (x0 :: x1 :: x2 :: x3 :: x4 :: x5 :: x6 :: x7 :: x8 :: x9 :: x10 :: r) (x0 :: x1 :: x2 :: x3 :: x4 :: x5 :: x6 :: x7 :: x8 :: x9 :: some v :: r) := gSt_gen [x0, x1, x2, x3, x4, x5, x6, x7, x8, x9] x10 r v (fun y hy => by simp at hy; rw [← hy]; exact h)
theorem gSt_11 {x0 x1 x2 x3 x4 x5 x6 x7 x8 x9 x10 x11 : Option Value} {r : List (Option Value)} {v : Value} (h : g_c1 x10 = true) : gSt 11 v (x0 :: x1 :: x2 :: x3 :: x4 :: x5 :: x6 :: x7 :: x8 :: x9 :: x10 :: x11 :: r) (x0 :: x1 :: x2 :: x3 :: x4 :: x5 :: x6 :: x7 :: x8 :: x9 :: x10 :: some v :: r) := gSt_gen [x0, x1, x2, x3, x4, x5, x6, x7, x8, x9, x10] x11 r v (fun y hy => by simp at hy; rw [← hy]; exact h)
theorem gSt_12 {x0 x1 x2 x3 x4 x5 x6 x7 x8 x9 x10 x11 x12 : Option Value} {r : List (Option Value)} {v : Value} (h : g_c1 x11 = true) : gSt 12 v (x0 :: x1 :: x2 :: x3 :: x4 :: x5 :: x6 :: x7 :: x8 :: x9 :: x10 :: x11 :: x12 :: r) (x0 :: x1 :: x2 :: x3 :: x4 :: x5 :: x6 :: x7 :: x8 :: x9 :: x10 :: x11 :: some v :: r) := gSt_gen [x0, x1, x2, x3, x4, x5, x6, x7, x8, x9, x10, x11] x12 r v (fun y hy => by simp at hy; rw [← hy]; exact h)
theorem gSt_13 {x0 x1 x2 x3 x4 x5 x6 x7 x8 x9 x10 x11 x12 x13 : Option Value} {r : List (Option Value)} {v : Value} (h : g_c1 x12 = true) : gSt 13 v (x0 :: x1 :: x2 :: x3 :: x4 :: x5 :: x6 :: x7 :: x8 :: x9 :: x10 :: x11 :: x12 :: x13 :: r) (x0 :: x1 :: x2 :: x3 :: x4 :: x5 :: x6 :: x7 :: x8 :: x9 :: x10 :: x11 :: x12 :: some v :: r) := gSt_gen [x0, x1, x2, x3, x4, x5, x6, x7, x8, x9, x10, x11, x12] x13 r v (fun y hy => by simp at hy; rw [← hy]; exact h)
theorem gSt_14 {x0 x1 x2 x3 x4 x5 x6 x7 x8 x9 x10 x11 x12 x13 x14 : Option Value} {r : List (Option Value)} {v : Value} (h : g_c1 x13 = true) : gSt 14 v (x0 :: x1 :: x2 :: x3 :: x4 :: x5 :: x6 :: x7 :: x8 :: x9 :: x10 :: x11 :: x12 :: x13 :: x14 :: r) (x0 :: x1 :: x2 :: x3 :: x4 :: x5 :: x6 :: x7 :: x8 :: x9 :: x10 :: x11 :: x12 :: x13 :: some v :: r) := gSt_gen [x0, x1, x2, x3, x4, x5, x6, x7, x8, x9, x10, x11, x12, x13] x14 r v (fun y hy => by simp at hy; rw [← hy]; exact h)
theorem gSt_15 {x0 x1 x2 x3 x4 x5 x6 x7 x8 x9 x10 x11 x12 x13 x14 x15 : Option Value} {r : List (Option Value)} {v : Value} (h : g_c1 x14 = true) : gSt 15 v (x0 :: x1 :: x2 :: x3 :: x4 :: x5 :: x6 :: x7 :: x8 :: x9 :: x10 :: x11 :: x12 :: x13 :: x14 :: x15 :: r) (x0 :: x1 :: x2 :: x3 :: x4 :: x5 :: x6 :: x7 :: x8 :: x9 :: x10 :: x11 :: x12 :: x13 :: x14 :: some v :: r) := gSt_gen [x0, x1, x2, x3, x4, x5, x6, x7, x8, x9, x10, x11, x12, x13, x14] x15 r v (fun y hy => by simp at hy; rw [← hy]; exact h)
theorem gSt_16 {x0 x1 x2 x3 x4 x5 x6 x7 x8 x9 x10 x11 x12 x13 x14 x15 x16 : Option Value} {r : List (Option Value)} {v : Value} (h : g_c1 x15 = true) : gSt 16 v (x0 :: x1 :: x2 :: x3 :: x4 :: x5 :: x6 :: x7 :: x8 :: x9 :: x10 :: x11 :: x12 :: x13 :: x14 :: x15 :: x16 :: r) (x0 :: x1 :: x2 :: x3 :: x4 :: x5 :: x6 :: x7 :: x8 :: x9 :: x10 :: x11 :: x12 :: x13 :: x14 :: x15 :: some v :: r) := gSt_gen [x0, x1, x2, x3, x4, x5, x6, x7, x8, x9, x10, x11, x12, x13, x14, x15] x16 r v (fun y hy => by simp at hy; rw [← hy]; exact h)
theorem gSt_17 {x0 x1 x2 x3 x4 x5 x6 x7 x8 x9 x10 x11 x12 x13 x14 x15 x16 x17 : Option Value} {r : List (Option Value)} {v : Value} (h : g_c1 x16 = true) : gSt 17 v (x0 :: x1 :: x2 :: x3 :: x4 :: x5 :: x6 :: x7 :: x8 :: x9 :: x10 :: x11 :: x12 :: x13 :: x14 :: x15 :: x16 :: x17 :: r) (x0 :: x1 :: x2 :: x3 :: x4 :: x5 :: x6 :: x7 :: x8 :: x9 :: x10 :: x11 :: x12 :: x13 :: x14 :: x15 :: x16 :: some v :: r) := gSt_gen [x0, x1, x2, x3, x4, x5, x6, x7, x8, x9, x10, x11, x12, x13, x14, x15, x16] x17 r v (fun y hy => by simp at hy; rw [← hy]; exact h)
theorem gSt2_0 {x0 x1 : Option Value} {r : List (Option Value)} {v : Value} : gSt2 0 v (x0 :: x1 :: r) (some v :: none :: r) := gSt2_gen [] x0 x1 r v (fun y hy => by simp at hy)
theorem gSt2_1 {x0 x1 x2 : Option Value} {r : List (Option Value)} {v : Value} (h : g_c1 x0 = true) : gSt2 1 v (x0 :: x1 :: x2 :: r) (x0 :: some v :: none :: r) := gSt2_gen [x0] x1 x2 r v (fun y hy => by simp at hy; rw [← hy]; exact h)
theorem gSt2_2 {x0 x1 x2 x3 : Option Value} {r : List (Option Value)} {v : Value} (h : g_c1 x1 = true) : gSt2 2 v (x0 :: x1 :: x2 :: x3 :: r) (x0 :: x1 :: some v :: none :: r) := gSt2_gen [x0, x1] x2 x3 r v (fun y hy => by simp at hy; rw [← hy]; exact h)
theorem gSt2_3 {x0 x1 x2 x3 x4 : Option Value} {r : List (Option Value)} {v : Value} (h : g_c1 x2 = true) : gSt2 3 v (x0 :: x1 :: x2 :: x3 :: x4 :: r) (x0 :: x1 :: x2 :: some v :: none :: r) := gSt2_gen [x0, x1, x2] x3 x4 r v (fun y hy => by simp at hy; rw [← hy]; exact h)
theorem gSt2_4 {x0 x1 x2 x3 x4 x5 : Option Value} {r : List (Option Value)} {v : Value} (h : g_c1 x3 = true) : gSt2 4 v (x0 :: x1 :: x2 :: x3 :: x4 :: x5 :: r) (x0 :: x1 :: x2 :: x3 :: some v :: none :: r) := gSt2_gen [x0, x1, x2, x3] x4 x5 r v (fun y hy => by simp at hy; rw [← hy]; exact h)
theorem gSt2_5 {x0 x1 x2 x3 x4 x5 x6 : Option Value} {r : List (Option Value)} {v : Value} (h : g_c1 x4 = true) : gSt2 5 v (x0 :: x1 :: x2 :: x3 :: x4 :: x5 :: x6 :: r) (x0 :: x1 :: x2 :: x3 :: x4 :: some v :: none :: r) := gSt2_gen [x0, x1, x2, x3, x4] x5 x6 r v (fun y hy => by simp at hy; rw [← hy]; exact h)
theorem gSt2_6 {x0 x1 x2 x3 x4 x5 x6 x7 : Option Value} {r : List (Option Value)} {v : Value} (h : g_c1 x5 = true) : gSt2 6 v (x0 :: x1 :: x2 :: x3 :: x4 :: x5 :: x6 :: x7 :: r) (x0 :: x1 :: x2 :: x3 :: x4 :: x5 :: some v :: none :: r) := gSt2_gen [x0, x1, x2, x3, x4, x5] x6 x7 r v (fun y hy => by simp at hy; rw [← hy]; exact h)
theorem gSt2_7 {x0 x1 x2 x3 x4 x5 x6 x7 x8 : Option Value} {r : List (Option Value)} {v : Value} (h : g_c1 x6 = true) : gSt2 7 v (x0 :: x1 :: x2 :: x3 :: x4 :: x5 :: x6 :: x7 :: x8 :: r) (x0 :: x1 :: x2 :: x3 :: x4 :: x5 :: x6 :: some v :: none :: r) := gSt2_gen [x0, x1, x2, x3, x4, x5, x6] x7 x8 r v (fun y hy => by simp at hy; rw [← hy]; exact h)
theorem gSt2_8 {x0 x1 x2 x3 x4 x5 x6 x7 x8 x9 : Option Value} {r : List (Option Value)} {v : Value} (h : g_c1 x7 = true) : gSt2 8 v (x0 :: x1 :: x2 :: x3 :: x4 :: x5 :: x6 :: x7 :: x8 :: x9 :: r) (x0 :: x1 :: x2 :: x3 :: x4 :: x5 :: x6 :: x7 :: some v :: none :: r) := gSt2_gen [x0, x1, x2, x3, x4, x5, x6, x7] x8 x9 r v (fun y hy => by simp at hy; rw [← hy]; exact h)
theorem gSt2_9 {x0 x1 x2 x3 x4 x5 x6 x7 x8 x9 x10 : Option Value} {r : List (Option Value)} {v : Value} (h : g_c1 x8 = true) : gSt2 9 v (x0 :: x1 :: x2 :: x3 :: x4 :: x5 :: x6 :: x7 :: x8 :: x9 :: x10 :: r) (x0 :: x1 :: x2 :: x3 :: x4 :: x5 :: x6 :: x7 :: x8 :: some v :: none :: r) := gSt2_gen [x0, x1, x2, x3, x4, x5, x6, x7, x8] x9 x10 r v (fun y hy => by simp at hy; rw [← hy]; exact h)
theorem gSt2_10 {x0 x1 x2 x3 x4 x5 x6 x7 x8 x9 x10 x11 : Option Value} {r : List (Option Value)} {v : Value} (h : g_c1 x9 = true) : gSt2 10 v (x0 :: x1 :: x2 :: x3 :: x4 :: x5 :: x6 :: x7 :: x8 :: x9 :: x10 :: x11 :: r) (x0 :: x1 :: x2 :: x3 :: x4 :: x5 :: x6 :: x7 :: x8 :: x9 :: some v :: none :: r) := gSt2_gen [x0, x1, x2, x3, x4, x5, x6, x7, x8, x9] x10 x11 r v (fun y hy => by simp at hy; rw [← hy]; exact h)
theorem gSt2_11 {x0 x1 x2 x3 x4 x5 x6 x7 x8 x9 x10 x11 x12 : Option Value} {r : List (Option Value)} {v : Value} (h : g_c1 x10 = true) : gSt2 11 v (x0 :: x1 :: x2 :: x3 :: x4 :: x5 :: x6 :: x7 :: x8 :: x9 :: x10 :: x11 :: x12 :: r) (x0 :: x1 :: x2 :: x3 :: x4 :: x5 :: x6 :: x7 :: x8 :: x9 :: x10 :: some v :: none :: r) := gSt2_gen [x0, x1, x2, x3, x4, x5, x6, x7, x8, x9, x10] x11 x12 r v (fun y hy => by simp at hy; rw [← hy]; exact h)
theorem gSt2_12 {x0 x1 x2 x3 x4 x5 x6 x7 x8 x9 x10 x11 x12 x13 : Option Value} {r : List (Option Value)} {v : Value} (h : g_c1 x11 = true) : gSt2 12 v (x0 :: x1 :: x2 :: x3 :: x4 :: x5 :: x6 :: x7 :: x8 :: x9 :: x10 :: x11 :: x12 :: x13 :: r) (x0 :: x1 :: x2 :: x3 :: x4 :: x5 :: x6 :: x7 :: x8 :: x9 :: x10 :: x11 :: some v :: none :: r) := gSt2_gen [x0, x1, x2, x3, x4, x5, x6, x7, x8, x9, x10, x11] x12 x13 r v (fun y hy => by simp at hy; rw [← hy]; exact h)
theorem gSt2_13 {x0 x1 x2 x3 x4 x5 x6 x7 x8 x9 x10 x11 x12 x13 x14 : Option Value} {r : List (Option Value)} {v : Value} (h : g_c1 x12 = true) : gSt2 13 v (x0 :: x1 :: x2 :: x3 :: x4 :: x5 :: x6 :: x7 :: x8 :: x9 :: x10 :: x11 :: x12 :: x13 :: x14 :: r) (x0 :: x1 :: x2 :: x3 :: x4 :: x5 :: x6 :: x7 :: x8 :: x9 :: x10 :: x11 :: x12 :: some v :: none :: r) := gSt2_gen [x0, x1, x2, x3, x4, x5, x6, x7, x8, x9, x10, x11, x12] x13 x14 r v (fun y hy => by simp at hy; rw [← hy]; exact h)
theorem gSt2_14 {x0 x1 x2 x3 x4 x5 x6 x7 x8 x9 x10 x11 x12 x13 x14 x15 : Option Value} {r : List (Option Value)} {v : Value} (h : g_c1 x13 = true) : gSt2 14 v (x0 :: x1 :: x2 :: x3 :: x4 :: x5 :: x6 :: x7 :: x8 :: x9 :: x10 :: x11 :: x12 :: x13 :: x14 :: x15 :: r) (x0 :: x1 :: x2 :: x3 :: x4 :: x5 :: x6 :: x7 :: x8 :: x9 :: x10 :: x11 :: x12 :: x13 :: some v :: none :: r) := gSt2_gen [x0, x1, x2, x3, x4, x5, x6, x7, x8, x9, x10, x11, x12, x13] x14 x15 r v (fun y hy => by simp at hy; rw [← hy]; exact h)
theorem gSt2_15 {x0 x1 x2 x3 x4 x5 x6 x7 x8 x9 x10 x11 x12 x13 x14 x15 x16 : Option Value} {r : List (Option Value)} {v : Value} (h : g_c1 x14 = true) : gSt2 15 v (x0 :: x1 :: x2 :: x3 :: x4 :: x5 :: x6 :: x7 :: x8 :: x9 :: x10 :: x11 :: x12 :: x13 :: x14 :: x15 :: x16 :: r) (x0 :: x1 :: x2 :: x3 :: x4 :: x5 :: x6 :: x7 :: x8 :: x9 :: x10 :: x11 :: x12 :: x13 :: x14 :: some v :: none :: r) := gSt2_gen [x0, x1, x2, x3, x4, x5, x6, x7, x8, x9, x10, x11, x12, x13, x14] x15 x16 r v (fun y hy => by simp at hy; rw [← hy]; exact h)
theorem g_iconst (G : gOK Γ own cc n mc ms) {v : Int32} {i : Int} (d : decode cc pc = .ok (.iconst i, 1)) (hv : Int32.ofInt i = v) (kk : gW Γ (pc + 1) lo (.int v :: st) S k sl) : gW Γ pc lo (st) S k sl := by
  obtain ⟨p, l, e1, R, s, m, args, below, meth, c, Q, A, D, cT, d0⟩ := Γ
  obtain ⟨hx, hb, hown, hts, hK, hA, hV, hRf, hRl, hRc, hRs⟩ := G
  intro H locs ls hR hS hL
  exact lv_iconst hx hb d hv (kk H locs ls hR hS hL)
theorem g_bipush (G : gOK Γ own cc n mc ms) {v : Int32} {i : Int} (d : decode cc pc = .ok (.bipush i, 2)) (hv : (Int8.ofInt i).toInt32 = v) (kk : gW Γ (pc + 2) lo (.int v :: st) S k sl) : gW Γ pc lo (st) S k sl := by
  obtain ⟨p, l, e1, R, s, m, args, below, meth, c, Q, A, D, cT, d0⟩ := Γ
  obtain ⟨hx, hb, hown, hts, hK, hA, hV, hRf, hRl, hRc, hRs⟩ := G
  intro H locs ls hR hS hL
  exact lv_bipush hx hb d hv (kk H locs ls hR hS hL)
theorem g_sipush (G : gOK Γ own cc n mc ms) {v : Int32} {i : Int} (d : decode cc pc = .ok (.sipush i, 3)) (hv : (Int16.ofInt i).toInt32 = v) (kk : gW Γ (pc + 3) lo (.int v :: st) S k sl) : gW Γ pc lo (st) S k sl := by
  obtain ⟨p, l, e1, R, s, m, args, below, meth, c, Q, A, D, cT, d0⟩ := Γ
  obtain ⟨hx, hb, hown, hts, hK, hA, hV, hRf, hRl, hRc, hRs⟩ := G
  intro H locs ls hR hS hL
  exact lv_sipush hx hb d hv (kk H locs ls hR hS hL)
theorem g_lconst (G : gOK Γ own cc n mc ms) {v : Int64} {i : Fin 2} (d : decode cc pc = .ok (.lconst i, 1)) (hv : Int64.ofNat (i : Nat) = v) (kk : gW Γ (pc + 1) lo (.long v :: st) S k sl) : gW Γ pc lo (st) S k sl := by
  obtain ⟨p, l, e1, R, s, m, args, below, meth, c, Q, A, D, cT, d0⟩ := Γ
  obtain ⟨hx, hb, hown, hts, hK, hA, hV, hRf, hRl, hRc, hRs⟩ := G
  intro H locs ls hR hS hL
  exact lv_lconst hx hb d hv (kk H locs ls hR hS hL)
theorem g_null (G : gOK Γ own cc n mc ms) (d : decode cc pc = .ok (.aconst_null, 1)) (kk : gW Γ (pc + 1) lo (.null :: st) S k sl) : gW Γ pc lo (st) S k sl := by
  obtain ⟨p, l, e1, R, s, m, args, below, meth, c, Q, A, D, cT, d0⟩ := Γ
  obtain ⟨hx, hb, hown, hts, hK, hA, hV, hRf, hRl, hRc, hRs⟩ := G
  intro H locs ls hR hS hL
  exact lv_null hx hb d (kk H locs ls hR hS hL)
theorem g_ldc (G : gOK Γ own cc n mc ms) {index : Nat} {v : Int32} (hw : Cond.constant own index v ∈ gWords) (d : decode cc pc = .ok (.ldc index, 2)) (kk : gW Γ (pc + 2) lo (.int v :: st) S k sl) : gW Γ pc lo (st) S k sl := by
  obtain ⟨p, l, e1, R, s, m, args, below, meth, c, Q, A, D, cT, d0⟩ := Γ
  obtain ⟨hx, hb, hown, hts, hK, hA, hV, hRf, hRl, hRc, hRs⟩ := G
  intro H locs ls hR hS hL
  exact lv_ldc hx hb hown (hts _ hw) d (kk H locs ls hR hS hL)
theorem g_ldc2 (G : gOK Γ own cc n mc ms) {index : Nat} {v : Int64} (hw : Cond.constantLong own index v ∈ gWords) (d : decode cc pc = .ok (.ldc2_w index, 3)) (kk : gW Γ (pc + 3) lo (.long v :: st) S k sl) : gW Γ pc lo (st) S k sl := by
  obtain ⟨p, l, e1, R, s, m, args, below, meth, c, Q, A, D, cT, d0⟩ := Γ
  obtain ⟨hx, hb, hown, hts, hK, hA, hV, hRf, hRl, hRc, hRs⟩ := G
  intro H locs ls hR hS hL
  exact lv_ldc2 hx hb hown (hts _ hw) d (kk H locs ls hR hS hL)
theorem g_iload_n (G : gOK Γ own cc n mc ms) {i : Fin 4} {x : Int32} (d : decode cc pc = .ok (.iload_n i, 1)) (h : lo[(i : Nat)]? = some (some (.int x))) (kk : gW Γ (pc + 1) lo (.int x :: st) S k sl) : gW Γ pc lo (st) S k sl := by
  obtain ⟨p, l, e1, R, s, m, args, below, meth, c, Q, A, D, cT, d0⟩ := Γ
  obtain ⟨hx, hb, hown, hts, hK, hA, hV, hRf, hRl, hRc, hRs⟩ := G
  intro H locs ls hR hS hL
  exact lv_iload_n hx hb d rfl (hL.2.2.2 _ _ h) (kk H locs ls hR hS hL)
theorem g_iload (G : gOK Γ own cc n mc ms) {i : Nat} {x : Int32} (d : decode cc pc = .ok (.iload i, 2)) (h : lo[i]? = some (some (.int x))) (kk : gW Γ (pc + 2) lo (.int x :: st) S k sl) : gW Γ pc lo (st) S k sl := by
  obtain ⟨p, l, e1, R, s, m, args, below, meth, c, Q, A, D, cT, d0⟩ := Γ
  obtain ⟨hx, hb, hown, hts, hK, hA, hV, hRf, hRl, hRc, hRs⟩ := G
  intro H locs ls hR hS hL
  exact lv_iload hx hb d (hL.2.2.2 _ _ h) (kk H locs ls hR hS hL)
theorem g_lload_n (G : gOK Γ own cc n mc ms) {i : Fin 4} {x : Int64} (d : decode cc pc = .ok (.lload_n i, 1)) (h : lo[(i : Nat)]? = some (some (.long x))) (kk : gW Γ (pc + 1) lo (.long x :: st) S k sl) : gW Γ pc lo (st) S k sl := by
  obtain ⟨p, l, e1, R, s, m, args, below, meth, c, Q, A, D, cT, d0⟩ := Γ
  obtain ⟨hx, hb, hown, hts, hK, hA, hV, hRf, hRl, hRc, hRs⟩ := G
  intro H locs ls hR hS hL
  exact lv_lload_n hx hb d rfl (hL.2.2.2 _ _ h) (kk H locs ls hR hS hL)
theorem g_lload (G : gOK Γ own cc n mc ms) {i : Nat} {x : Int64} (d : decode cc pc = .ok (.lload i, 2)) (h : lo[i]? = some (some (.long x))) (kk : gW Γ (pc + 2) lo (.long x :: st) S k sl) : gW Γ pc lo (st) S k sl := by
  obtain ⟨p, l, e1, R, s, m, args, below, meth, c, Q, A, D, cT, d0⟩ := Γ
  obtain ⟨hx, hb, hown, hts, hK, hA, hV, hRf, hRl, hRc, hRs⟩ := G
  intro H locs ls hR hS hL
  exact lv_lload hx hb d (hL.2.2.2 _ _ h) (kk H locs ls hR hS hL)
theorem g_dload_n (G : gOK Γ own cc n mc ms) {i : Fin 4} {x : UInt64} (d : decode cc pc = .ok (.dload_n i, 1)) (h : lo[(i : Nat)]? = some (some (.double x))) (kk : gW Γ (pc + 1) lo (.double x :: st) S k sl) : gW Γ pc lo (st) S k sl := by
  obtain ⟨p, l, e1, R, s, m, args, below, meth, c, Q, A, D, cT, d0⟩ := Γ
  obtain ⟨hx, hb, hown, hts, hK, hA, hV, hRf, hRl, hRc, hRs⟩ := G
  intro H locs ls hR hS hL
  exact lv_dload_n hx hb d rfl (hL.2.2.2 _ _ h) (kk H locs ls hR hS hL)
theorem g_dload (G : gOK Γ own cc n mc ms) {i : Nat} {x : UInt64} (d : decode cc pc = .ok (.dload i, 2)) (h : lo[i]? = some (some (.double x))) (kk : gW Γ (pc + 2) lo (.double x :: st) S k sl) : gW Γ pc lo (st) S k sl := by
  obtain ⟨p, l, e1, R, s, m, args, below, meth, c, Q, A, D, cT, d0⟩ := Γ
  obtain ⟨hx, hb, hown, hts, hK, hA, hV, hRf, hRl, hRc, hRs⟩ := G
  intro H locs ls hR hS hL
  exact lv_dload hx hb d (hL.2.2.2 _ _ h) (kk H locs ls hR hS hL)
theorem g_aload_n (G : gOK Γ own cc n mc ms) {i : Fin 4} {x : Nat} (d : decode cc pc = .ok (.aload_n i, 1)) (h : lo[(i : Nat)]? = some (some (.ref x))) (kk : gW Γ (pc + 1) lo (.ref x :: st) S k sl) : gW Γ pc lo (st) S k sl := by
  obtain ⟨p, l, e1, R, s, m, args, below, meth, c, Q, A, D, cT, d0⟩ := Γ
  obtain ⟨hx, hb, hown, hts, hK, hA, hV, hRf, hRl, hRc, hRs⟩ := G
  intro H locs ls hR hS hL
  exact lv_aload_n hx hb d rfl (hL.2.2.2 _ _ h) (kk H locs ls hR hS hL)
theorem g_aload (G : gOK Γ own cc n mc ms) {i : Nat} {x : Nat} (d : decode cc pc = .ok (.aload i, 2)) (h : lo[i]? = some (some (.ref x))) (kk : gW Γ (pc + 2) lo (.ref x :: st) S k sl) : gW Γ pc lo (st) S k sl := by
  obtain ⟨p, l, e1, R, s, m, args, below, meth, c, Q, A, D, cT, d0⟩ := Γ
  obtain ⟨hx, hb, hown, hts, hK, hA, hV, hRf, hRl, hRc, hRs⟩ := G
  intro H locs ls hR hS hL
  exact lv_aload hx hb d (hL.2.2.2 _ _ h) (kk H locs ls hR hS hL)
theorem g_aload_nN (G : gOK Γ own cc n mc ms) {i : Fin 4} (d : decode cc pc = .ok (.aload_n i, 1)) (h : lo[(i : Nat)]? = some (some .null)) (kk : gW Γ (pc + 1) lo (.null :: st) S k sl) : gW Γ pc lo (st) S k sl := by
  obtain ⟨p, l, e1, R, s, m, args, below, meth, c, Q, A, D, cT, d0⟩ := Γ
  obtain ⟨hx, hb, hown, hts, hK, hA, hV, hRf, hRl, hRc, hRs⟩ := G
  intro H locs ls hR hS hL
  exact lv_aload_nN hx hb d rfl (hL.2.2.2 _ _ h) (kk H locs ls hR hS hL)
theorem g_aloadN (G : gOK Γ own cc n mc ms) {i : Nat} (d : decode cc pc = .ok (.aload i, 2)) (h : lo[i]? = some (some .null)) (kk : gW Γ (pc + 2) lo (.null :: st) S k sl) : gW Γ pc lo (st) S k sl := by
  obtain ⟨p, l, e1, R, s, m, args, below, meth, c, Q, A, D, cT, d0⟩ := Γ
  obtain ⟨hx, hb, hown, hts, hK, hA, hV, hRf, hRl, hRc, hRs⟩ := G
  intro H locs ls hR hS hL
  exact lv_aloadN hx hb d (hL.2.2.2 _ _ h) (kk H locs ls hR hS hL)
theorem g_aload_nQ (G : gOK Γ own cc n mc ms) {i : Fin 4} {o : Option Nat} (d : decode cc pc = .ok (.aload_n i, 1)) (h : lo[(i : Nat)]? = some (some (va_rf o))) (kk : gW Γ (pc + 1) lo (va_rf o :: st) S k sl) : gW Γ pc lo st S k sl := by
  cases o with
  | none => exact g_aload_nN G d h kk
  | some x => exact g_aload_n G d h kk
theorem g_aloadQ (G : gOK Γ own cc n mc ms) {i : Nat} {o : Option Nat} (d : decode cc pc = .ok (.aload i, 2)) (h : lo[i]? = some (some (va_rf o))) (kk : gW Γ (pc + 2) lo (va_rf o :: st) S k sl) : gW Γ pc lo st S k sl := by
  cases o with
  | none => exact g_aloadN G d h kk
  | some x => exact g_aload G d h kk
theorem g_istore_n (G : gOK Γ own cc n mc ms) {i : Fin 4} {x : Int32} (d : decode cc pc = .ok (.istore_n i, 1)) (h : gSt (i : Nat) (.int x) lo lo') (kk : gW Γ (pc + 1) lo' (st) S k sl) : gW Γ pc lo (.int x :: st) S k sl := by
  obtain ⟨p, l, e1, R, s, m, args, below, meth, c, Q, A, D, cT, d0⟩ := Γ
  obtain ⟨hx, hb, hown, hts, hK, hA, hV, hRf, hRl, hRc, hRs⟩ := G
  intro H locs ls hR hS hL
  exact lv_istore_n hx hb d rfl hL.has (by rw [← hL.2.2.1]; exact h.lt) rfl (fun ls' h' => kk H locs ls' hR hS (hL.st1 h' h.1 h.2.1 h.2.2.1 h.2.2.2))
theorem g_istore (G : gOK Γ own cc n mc ms) {i : Nat} {x : Int32} (d : decode cc pc = .ok (.istore i, 2)) (h : gSt i (.int x) lo lo') (kk : gW Γ (pc + 2) lo' (st) S k sl) : gW Γ pc lo (.int x :: st) S k sl := by
  obtain ⟨p, l, e1, R, s, m, args, below, meth, c, Q, A, D, cT, d0⟩ := Γ
  obtain ⟨hx, hb, hown, hts, hK, hA, hV, hRf, hRl, hRc, hRs⟩ := G
  intro H locs ls hR hS hL
  exact lv_istore hx hb d hL.has (by rw [← hL.2.2.1]; exact h.lt) rfl (fun ls' h' => kk H locs ls' hR hS (hL.st1 h' h.1 h.2.1 h.2.2.1 h.2.2.2))
theorem g_astore_n (G : gOK Γ own cc n mc ms) {i : Fin 4} {x : Nat} (d : decode cc pc = .ok (.astore_n i, 1)) (h : gSt (i : Nat) (.ref x) lo lo') (kk : gW Γ (pc + 1) lo' (st) S k sl) : gW Γ pc lo (.ref x :: st) S k sl := by
  obtain ⟨p, l, e1, R, s, m, args, below, meth, c, Q, A, D, cT, d0⟩ := Γ
  obtain ⟨hx, hb, hown, hts, hK, hA, hV, hRf, hRl, hRc, hRs⟩ := G
  intro H locs ls hR hS hL
  exact lv_astore_n hx hb d rfl hL.has (by rw [← hL.2.2.1]; exact h.lt) rfl (fun ls' h' => kk H locs ls' hR hS (hL.st1 h' h.1 h.2.1 h.2.2.1 h.2.2.2))
theorem g_astore (G : gOK Γ own cc n mc ms) {i : Nat} {x : Nat} (d : decode cc pc = .ok (.astore i, 2)) (h : gSt i (.ref x) lo lo') (kk : gW Γ (pc + 2) lo' (st) S k sl) : gW Γ pc lo (.ref x :: st) S k sl := by
  obtain ⟨p, l, e1, R, s, m, args, below, meth, c, Q, A, D, cT, d0⟩ := Γ
  obtain ⟨hx, hb, hown, hts, hK, hA, hV, hRf, hRl, hRc, hRs⟩ := G
  intro H locs ls hR hS hL
  exact lv_astore hx hb d hL.has (by rw [← hL.2.2.1]; exact h.lt) rfl (fun ls' h' => kk H locs ls' hR hS (hL.st1 h' h.1 h.2.1 h.2.2.1 h.2.2.2))
theorem g_astore_nN (G : gOK Γ own cc n mc ms) {i : Fin 4} (d : decode cc pc = .ok (.astore_n i, 1)) (h : gSt (i : Nat) .null lo lo') (kk : gW Γ (pc + 1) lo' (st) S k sl) : gW Γ pc lo (.null :: st) S k sl := by
  obtain ⟨p, l, e1, R, s, m, args, below, meth, c, Q, A, D, cT, d0⟩ := Γ
  obtain ⟨hx, hb, hown, hts, hK, hA, hV, hRf, hRl, hRc, hRs⟩ := G
  intro H locs ls hR hS hL
  exact lv_astore_nN hx hb d rfl hL.has (by rw [← hL.2.2.1]; exact h.lt) rfl (fun ls' h' => kk H locs ls' hR hS (hL.st1 h' h.1 h.2.1 h.2.2.1 h.2.2.2))
theorem g_astore_nQ (G : gOK Γ own cc n mc ms) {i : Fin 4} {o : Option Nat} (d : decode cc pc = .ok (.astore_n i, 1)) (h : gSt (i : Nat) (va_rf o) lo lo') (kk : gW Γ (pc + 1) lo' st S k sl) : gW Γ pc lo (va_rf o :: st) S k sl := by
  cases o with
  | none => exact g_astore_nN G d h kk
  | some x => exact g_astore_n G d h kk
theorem g_astoreN (G : gOK Γ own cc n mc ms) {i : Nat} (d : decode cc pc = .ok (.astore i, 2)) (h : gSt i .null lo lo') (kk : gW Γ (pc + 2) lo' (st) S k sl) : gW Γ pc lo (.null :: st) S k sl := by
  obtain ⟨p, l, e1, R, s, m, args, below, meth, c, Q, A, D, cT, d0⟩ := Γ
  obtain ⟨hx, hb, hown, hts, hK, hA, hV, hRf, hRl, hRc, hRs⟩ := G
  intro H locs ls hR hS hL
  exact lv_astoreN hx hb d hL.has (by rw [← hL.2.2.1]; exact h.lt) rfl (fun ls' h' => kk H locs ls' hR hS (hL.st1 h' h.1 h.2.1 h.2.2.1 h.2.2.2))
theorem g_astoreQ (G : gOK Γ own cc n mc ms) {i : Nat} {o : Option Nat} (d : decode cc pc = .ok (.astore i, 2)) (h : gSt i (va_rf o) lo lo') (kk : gW Γ (pc + 2) lo' st S k sl) : gW Γ pc lo (va_rf o :: st) S k sl := by
  cases o with
  | none => exact g_astoreN G d h kk
  | some x => exact g_astore G d h kk
theorem g_lstore_n (G : gOK Γ own cc n mc ms) {i : Fin 4} {x : Int64} (d : decode cc pc = .ok (.lstore_n i, 1)) (h : gSt2 (i : Nat) (.long x) lo lo') (kk : gW Γ (pc + 1) lo' (st) S k sl) : gW Γ pc lo (.long x :: st) S k sl := by
  obtain ⟨p, l, e1, R, s, m, args, below, meth, c, Q, A, D, cT, d0⟩ := Γ
  obtain ⟨hx, hb, hown, hts, hK, hA, hV, hRf, hRl, hRc, hRs⟩ := G
  intro H locs ls hR hS hL
  exact lv_lstore_n hx hb d rfl hL.has (by rw [← hL.2.2.1]; exact h.lt) rfl (fun ls' h' => kk H locs ls' hR hS (hL.st2 h' h.1 h.2.1 h.2.2.1 h.2.2.2.1 h.2.2.2.2))
theorem g_lstore (G : gOK Γ own cc n mc ms) {i : Nat} {x : Int64} (d : decode cc pc = .ok (.lstore i, 2)) (h : gSt2 i (.long x) lo lo') (kk : gW Γ (pc + 2) lo' (st) S k sl) : gW Γ pc lo (.long x :: st) S k sl := by
  obtain ⟨p, l, e1, R, s, m, args, below, meth, c, Q, A, D, cT, d0⟩ := Γ
  obtain ⟨hx, hb, hown, hts, hK, hA, hV, hRf, hRl, hRc, hRs⟩ := G
  intro H locs ls hR hS hL
  exact lv_lstore hx hb d hL.has (by rw [← hL.2.2.1]; exact h.lt) rfl (fun ls' h' => kk H locs ls' hR hS (hL.st2 h' h.1 h.2.1 h.2.2.1 h.2.2.2.1 h.2.2.2.2))
theorem g_dstore_n (G : gOK Γ own cc n mc ms) {i : Fin 4} {x : UInt64} (d : decode cc pc = .ok (.dstore_n i, 1)) (h : gSt2 (i : Nat) (.double x) lo lo') (kk : gW Γ (pc + 1) lo' (st) S k sl) : gW Γ pc lo (.double x :: st) S k sl := by
  obtain ⟨p, l, e1, R, s, m, args, below, meth, c, Q, A, D, cT, d0⟩ := Γ
  obtain ⟨hx, hb, hown, hts, hK, hA, hV, hRf, hRl, hRc, hRs⟩ := G
  intro H locs ls hR hS hL
  exact lv_dstore_n hx hb d rfl hL.has (by rw [← hL.2.2.1]; exact h.lt) rfl (fun ls' h' => kk H locs ls' hR hS (hL.st2 h' h.1 h.2.1 h.2.2.1 h.2.2.2.1 h.2.2.2.2))
theorem g_dstore (G : gOK Γ own cc n mc ms) {i : Nat} {x : UInt64} (d : decode cc pc = .ok (.dstore i, 2)) (h : gSt2 i (.double x) lo lo') (kk : gW Γ (pc + 2) lo' (st) S k sl) : gW Γ pc lo (.double x :: st) S k sl := by
  obtain ⟨p, l, e1, R, s, m, args, below, meth, c, Q, A, D, cT, d0⟩ := Γ
  obtain ⟨hx, hb, hown, hts, hK, hA, hV, hRf, hRl, hRc, hRs⟩ := G
  intro H locs ls hR hS hL
  exact lv_dstore hx hb d hL.has (by rw [← hL.2.2.1]; exact h.lt) rfl (fun ls' h' => kk H locs ls' hR hS (hL.st2 h' h.1 h.2.1 h.2.2.1 h.2.2.2.1 h.2.2.2.2))
theorem g_iinc (G : gOK Γ own cc n mc ms) {i : Nat} {j : Int} {x v : Int32} (d : decode cc pc = .ok (.iinc i j, 3)) (hi : lo[i]? = some (some (.int x))) (hv : x + Int32.ofInt j = v) (h : gSt i (.int v) lo lo') (kk : gW Γ (pc + 3) lo' st S k sl) : gW Γ pc lo st S k sl := by
  obtain ⟨p, l, e1, R, s, m, args, below, meth, c, Q, A, D, cT, d0⟩ := Γ
  obtain ⟨hx, hb, hown, hts, hK, hA, hV, hRf, hRl, hRc, hRs⟩ := G
  intro H locs ls hR hS hL
  obtain ⟨q, hq⟩ := List.getElem?_of_mem (gPrs_mem.mpr (show lo[((i, .int x) : Nat × Value).1]? = some (some ((i, .int x) : Nat × Value).2) from hi))
  exact lv_iinc hx hb d hL.has hq hv (by rw [← hL.2.2.1]; exact h.lt) rfl (fun ls' h' => kk H locs ls' hR hS (hL.st1 h' h.1 h.2.1 h.2.2.1 h.2.2.2))
theorem g_iadd (G : gOK Γ own cc n mc ms) {x y z : Int32} (d : decode cc pc = .ok (.iadd, 1)) (hz : x + y = z) (kk : gW Γ (pc + 1) lo (.int z :: st) S k sl) : gW Γ pc lo (.int y :: .int x :: st) S k sl := by
  obtain ⟨p, l, e1, R, s, m, args, below, meth, c, Q, A, D, cT, d0⟩ := Γ
  obtain ⟨hx, hb, hown, hts, hK, hA, hV, hRf, hRl, hRc, hRs⟩ := G
  intro H locs ls hR hS hL
  subst hz
  exact lv_iadd hx hb d (kk H locs ls hR hS hL)
theorem g_isub (G : gOK Γ own cc n mc ms) {x y z : Int32} (d : decode cc pc = .ok (.isub, 1)) (hz : x - y = z) (kk : gW Γ (pc + 1) lo (.int z :: st) S k sl) : gW Γ pc lo (.int y :: .int x :: st) S k sl := by
  obtain ⟨p, l, e1, R, s, m, args, below, meth, c, Q, A, D, cT, d0⟩ := Γ
  obtain ⟨hx, hb, hown, hts, hK, hA, hV, hRf, hRl, hRc, hRs⟩ := G
  intro H locs ls hR hS hL
  subst hz
  exact lv_isub hx hb d (kk H locs ls hR hS hL)
theorem g_imul (G : gOK Γ own cc n mc ms) {x y z : Int32} (d : decode cc pc = .ok (.imul, 1)) (hz : x * y = z) (kk : gW Γ (pc + 1) lo (.int z :: st) S k sl) : gW Γ pc lo (.int y :: .int x :: st) S k sl := by
  obtain ⟨p, l, e1, R, s, m, args, below, meth, c, Q, A, D, cT, d0⟩ := Γ
  obtain ⟨hx, hb, hown, hts, hK, hA, hV, hRf, hRl, hRc, hRs⟩ := G
  intro H locs ls hR hS hL
  subst hz
  exact lv_imul hx hb d (kk H locs ls hR hS hL)
theorem g_iand (G : gOK Γ own cc n mc ms) {x y z : Int32} (d : decode cc pc = .ok (.iand, 1)) (hz : x &&& y = z) (kk : gW Γ (pc + 1) lo (.int z :: st) S k sl) : gW Γ pc lo (.int y :: .int x :: st) S k sl := by
  obtain ⟨p, l, e1, R, s, m, args, below, meth, c, Q, A, D, cT, d0⟩ := Γ
  obtain ⟨hx, hb, hown, hts, hK, hA, hV, hRf, hRl, hRc, hRs⟩ := G
  intro H locs ls hR hS hL
  subst hz
  exact lv_iand hx hb d (kk H locs ls hR hS hL)
theorem g_ior (G : gOK Γ own cc n mc ms) {x y z : Int32} (d : decode cc pc = .ok (.ior, 1)) (hz : x ||| y = z) (kk : gW Γ (pc + 1) lo (.int z :: st) S k sl) : gW Γ pc lo (.int y :: .int x :: st) S k sl := by
  obtain ⟨p, l, e1, R, s, m, args, below, meth, c, Q, A, D, cT, d0⟩ := Γ
  obtain ⟨hx, hb, hown, hts, hK, hA, hV, hRf, hRl, hRc, hRs⟩ := G
  intro H locs ls hR hS hL
  subst hz
  exact lv_ior hx hb d (kk H locs ls hR hS hL)
theorem g_ixor (G : gOK Γ own cc n mc ms) {x y z : Int32} (d : decode cc pc = .ok (.ixor, 1)) (hz : x ^^^ y = z) (kk : gW Γ (pc + 1) lo (.int z :: st) S k sl) : gW Γ pc lo (.int y :: .int x :: st) S k sl := by
  obtain ⟨p, l, e1, R, s, m, args, below, meth, c, Q, A, D, cT, d0⟩ := Γ
  obtain ⟨hx, hb, hown, hts, hK, hA, hV, hRf, hRl, hRc, hRs⟩ := G
  intro H locs ls hR hS hL
  subst hz
  exact lv_ixor hx hb d (kk H locs ls hR hS hL)
theorem g_ishl (G : gOK Γ own cc n mc ms) {x y z : Int32} (d : decode cc pc = .ok (.ishl, 1)) (hz : x <<< (y &&& 31) = z) (kk : gW Γ (pc + 1) lo (.int z :: st) S k sl) : gW Γ pc lo (.int y :: .int x :: st) S k sl := by
  obtain ⟨p, l, e1, R, s, m, args, below, meth, c, Q, A, D, cT, d0⟩ := Γ
  obtain ⟨hx, hb, hown, hts, hK, hA, hV, hRf, hRl, hRc, hRs⟩ := G
  intro H locs ls hR hS hL
  subst hz
  exact lv_ishl hx hb d (kk H locs ls hR hS hL)
theorem g_ishr (G : gOK Γ own cc n mc ms) {x y z : Int32} (d : decode cc pc = .ok (.ishr, 1)) (hz : x >>> (y &&& 31) = z) (kk : gW Γ (pc + 1) lo (.int z :: st) S k sl) : gW Γ pc lo (.int y :: .int x :: st) S k sl := by
  obtain ⟨p, l, e1, R, s, m, args, below, meth, c, Q, A, D, cT, d0⟩ := Γ
  obtain ⟨hx, hb, hown, hts, hK, hA, hV, hRf, hRl, hRc, hRs⟩ := G
  intro H locs ls hR hS hL
  subst hz
  exact lv_ishr hx hb d (kk H locs ls hR hS hL)
theorem g_iushr (G : gOK Γ own cc n mc ms) {x y z : Int32} (d : decode cc pc = .ok (.iushr, 1)) (hz : (x.toUInt32 >>> (y.toUInt32 &&& Int32.toUInt32 31)).toInt32 = z) (kk : gW Γ (pc + 1) lo (.int z :: st) S k sl) : gW Γ pc lo (.int y :: .int x :: st) S k sl := by
  obtain ⟨p, l, e1, R, s, m, args, below, meth, c, Q, A, D, cT, d0⟩ := Γ
  obtain ⟨hx, hb, hown, hts, hK, hA, hV, hRf, hRl, hRc, hRs⟩ := G
  intro H locs ls hR hS hL
  exact lv_iushr hx hb d hz (kk H locs ls hR hS hL)
theorem g_idiv (G : gOK Γ own cc n mc ms) {x y z : Int32} (d : decode cc pc = .ok (.idiv, 1)) (h0 : ¬ y = 0) (hz : x / y = z) (kk : gW Γ (pc + 1) lo (.int z :: st) S k sl) : gW Γ pc lo (.int y :: .int x :: st) S k sl := by
  obtain ⟨p, l, e1, R, s, m, args, below, meth, c, Q, A, D, cT, d0⟩ := Γ
  obtain ⟨hx, hb, hown, hts, hK, hA, hV, hRf, hRl, hRc, hRs⟩ := G
  intro H locs ls hR hS hL
  subst hz
  exact lv_idiv hx hb d h0 (kk H locs ls hR hS hL)
theorem g_irem (G : gOK Γ own cc n mc ms) {x y z : Int32} (d : decode cc pc = .ok (.irem, 1)) (h0 : ¬ y = 0) (hz : x - x / y * y = z) (kk : gW Γ (pc + 1) lo (.int z :: st) S k sl) : gW Γ pc lo (.int y :: .int x :: st) S k sl := by
  obtain ⟨p, l, e1, R, s, m, args, below, meth, c, Q, A, D, cT, d0⟩ := Γ
  obtain ⟨hx, hb, hown, hts, hK, hA, hV, hRf, hRl, hRc, hRs⟩ := G
  intro H locs ls hR hS hL
  subst hz
  exact lv_irem hx hb d h0 (kk H locs ls hR hS hL)
theorem g_ladd (G : gOK Γ own cc n mc ms) {x y z : Int64} (d : decode cc pc = .ok (.ladd, 1)) (hz : x + y = z) (kk : gW Γ (pc + 1) lo (.long z :: st) S k sl) : gW Γ pc lo (.long y :: .long x :: st) S k sl := by
  obtain ⟨p, l, e1, R, s, m, args, below, meth, c, Q, A, D, cT, d0⟩ := Γ
  obtain ⟨hx, hb, hown, hts, hK, hA, hV, hRf, hRl, hRc, hRs⟩ := G
  intro H locs ls hR hS hL
  subst hz
  exact lv_ladd hx hb d (kk H locs ls hR hS hL)
theorem g_lmul (G : gOK Γ own cc n mc ms) {x y z : Int64} (d : decode cc pc = .ok (.lmul, 1)) (hz : x * y = z) (kk : gW Γ (pc + 1) lo (.long z :: st) S k sl) : gW Γ pc lo (.long y :: .long x :: st) S k sl := by
  obtain ⟨p, l, e1, R, s, m, args, below, meth, c, Q, A, D, cT, d0⟩ := Γ
  obtain ⟨hx, hb, hown, hts, hK, hA, hV, hRf, hRl, hRc, hRs⟩ := G
  intro H locs ls hR hS hL
  subst hz
  exact lv_lmul hx hb d (kk H locs ls hR hS hL)
theorem g_ineg (G : gOK Γ own cc n mc ms) {x z : Int32} (d : decode cc pc = .ok (.ineg, 1)) (hz : -x = z) (kk : gW Γ (pc + 1) lo (.int z :: st) S k sl) : gW Γ pc lo (.int x :: st) S k sl := by
  obtain ⟨p, l, e1, R, s, m, args, below, meth, c, Q, A, D, cT, d0⟩ := Γ
  obtain ⟨hx, hb, hown, hts, hK, hA, hV, hRf, hRl, hRc, hRs⟩ := G
  intro H locs ls hR hS hL
  subst hz
  exact lv_ineg hx hb d (kk H locs ls hR hS hL)
theorem g_i2l (G : gOK Γ own cc n mc ms) {x : Int32} {z : Int64} (d : decode cc pc = .ok (.i2l, 1)) (hz : x.toInt64 = z) (kk : gW Γ (pc + 1) lo (.long z :: st) S k sl) : gW Γ pc lo (.int x :: st) S k sl := by
  obtain ⟨p, l, e1, R, s, m, args, below, meth, c, Q, A, D, cT, d0⟩ := Γ
  obtain ⟨hx, hb, hown, hts, hK, hA, hV, hRf, hRl, hRc, hRs⟩ := G
  intro H locs ls hR hS hL
  exact lv_i2l hx hb d hz (kk H locs ls hR hS hL)
theorem g_i2b (G : gOK Γ own cc n mc ms) {x z : Int32} (d : decode cc pc = .ok (.i2b, 1)) (hz : x.toInt8.toInt32 = z) (kk : gW Γ (pc + 1) lo (.int z :: st) S k sl) : gW Γ pc lo (.int x :: st) S k sl := by
  obtain ⟨p, l, e1, R, s, m, args, below, meth, c, Q, A, D, cT, d0⟩ := Γ
  obtain ⟨hx, hb, hown, hts, hK, hA, hV, hRf, hRl, hRc, hRs⟩ := G
  intro H locs ls hR hS hL
  exact lv_i2b hx hb d hz (kk H locs ls hR hS hL)
theorem g_i2d (G : gOK Γ own cc n mc ms) {x : Int32} (d : decode cc pc = .ok (.i2d, 1)) (kk : gW Γ (pc + 1) lo (.double (FP.i2d x) :: st) S k sl) : gW Γ pc lo (.int x :: st) S k sl := by
  obtain ⟨p, l, e1, R, s, m, args, below, meth, c, Q, A, D, cT, d0⟩ := Γ
  obtain ⟨hx, hb, hown, hts, hK, hA, hV, hRf, hRl, hRc, hRs⟩ := G
  intro H locs ls hR hS hL
  exact lv_i2d hx hb d (kk H locs ls hR hS hL)
theorem g_ddiv (G : gOK Γ own cc n mc ms) {x y : UInt64} (d : decode cc pc = .ok (.ddiv, 1)) (hne : vf_n64 (FP.ddiv x y)) (kk : gW Γ (pc + 1) lo (.double (FP.ddiv x y) :: st) S k sl) : gW Γ pc lo (.double y :: .double x :: st) S k sl := by
  obtain ⟨p, l, e1, R, s, m, args, below, meth, c, Q, A, D, cT, d0⟩ := Γ
  obtain ⟨hx, hb, hown, hts, hK, hA, hV, hRf, hRl, hRc, hRs⟩ := G
  intro H locs ls hR hS hL
  exact lv_ddiv hx hb d hne (kk H locs ls hR hS hL)
theorem g_dcmp (G : gOK Γ own cc n mc ms) {x y : UInt64} {op : CmpOp} (d : decode cc pc = .ok (.dcmp op, 1)) (kk : gW Γ (pc + 1) lo (.int (Op.cmpValue (FP.dcmp x y) op) :: st) S k sl) : gW Γ pc lo (.double y :: .double x :: st) S k sl := by
  obtain ⟨p, l, e1, R, s, m, args, below, meth, c, Q, A, D, cT, d0⟩ := Γ
  obtain ⟨hx, hb, hown, hts, hK, hA, hV, hRf, hRl, hRc, hRs⟩ := G
  intro H locs ls hR hS hL
  exact lv_dcmp hx hb d (kk H locs ls hR hS hL)
theorem g_lcmp (G : gOK Γ own cc n mc ms) {x y : Int64} (d : decode cc pc = .ok (.lcmp, 1)) (kk : gW Γ (pc + 1) lo (.int (lg_cmp x y) :: st) S k sl) : gW Γ pc lo (.long y :: .long x :: st) S k sl := by
  obtain ⟨p, l, e1, R, s, m, args, below, meth, c, Q, A, D, cT, d0⟩ := Γ
  obtain ⟨hx, hb, hown, hts, hK, hA, hV, hRf, hRl, hRc, hRs⟩ := G
  intro H locs ls hR hS hL
  exact W.lcmp hx hb d (kk H locs ls hR hS hL)
theorem g_dup (G : gOK Γ own cc n mc ms) {x : Value} (d : decode cc pc = .ok (.dup, 1)) (hx9 : x.category = 1) (kk : gW Γ (pc + 1) lo (x :: x :: st) S k sl) : gW Γ pc lo (x :: st) S k sl := by
  obtain ⟨p, l, e1, R, s, m, args, below, meth, c, Q, A, D, cT, d0⟩ := Γ
  obtain ⟨hx, hb, hown, hts, hK, hA, hV, hRf, hRl, hRc, hRs⟩ := G
  intro H locs ls hR hS hL
  exact lv_dup hx hb d hx9 (kk H locs ls hR hS hL)
theorem g_pop (G : gOK Γ own cc n mc ms) {x : Value} (d : decode cc pc = .ok (.pop, 1)) (hx9 : x.category = 1) (kk : gW Γ (pc + 1) lo (st) S k sl) : gW Γ pc lo (x :: st) S k sl := by
  obtain ⟨p, l, e1, R, s, m, args, below, meth, c, Q, A, D, cT, d0⟩ := Γ
  obtain ⟨hx, hb, hown, hts, hK, hA, hV, hRf, hRl, hRc, hRs⟩ := G
  intro H locs ls hR hS hL
  exact lv_pop hx hb d hx9 (kk H locs ls hR hS hL)
theorem g_dup_x1 (G : gOK Γ own cc n mc ms) {x y : Value} (d : decode cc pc = .ok (.dup_x1, 1)) (hx9 : x.category = 1) (hy9 : y.category = 1) (kk : gW Γ (pc + 1) lo (x :: y :: x :: st) S k sl) : gW Γ pc lo (x :: y :: st) S k sl := by
  obtain ⟨p, l, e1, R, s, m, args, below, meth, c, Q, A, D, cT, d0⟩ := Γ
  obtain ⟨hx, hb, hown, hts, hK, hA, hV, hRf, hRl, hRc, hRs⟩ := G
  intro H locs ls hR hS hL
  exact lv_dup_x1 hx hb d hx9 hy9 (kk H locs ls hR hS hL)
theorem g_dup_x2 (G : gOK Γ own cc n mc ms) {x y z : Value} (d : decode cc pc = .ok (.dup_x2, 1)) (hx9 : x.category = 1) (hy9 : y.category = 1) (hz9 : z.category = 1) (kk : gW Γ (pc + 1) lo (x :: y :: z :: x :: st) S k sl) : gW Γ pc lo (x :: y :: z :: st) S k sl := by
  obtain ⟨p, l, e1, R, s, m, args, below, meth, c, Q, A, D, cT, d0⟩ := Γ
  obtain ⟨hx, hb, hown, hts, hK, hA, hV, hRf, hRl, hRc, hRs⟩ := G
  intro H locs ls hR hS hL
  exact lv_dup_x2 hx hb d hx9 hy9 hz9 (kk H locs ls hR hS hL)
theorem g_dup2 (G : gOK Γ own cc n mc ms) {x y : Value} (d : decode cc pc = .ok (.dup2, 1)) (hx9 : x.category = 1) (hy9 : y.category = 1) (kk : gW Γ (pc + 1) lo (x :: y :: x :: y :: st) S k sl) : gW Γ pc lo (x :: y :: st) S k sl := by
  obtain ⟨p, l, e1, R, s, m, args, below, meth, c, Q, A, D, cT, d0⟩ := Γ
  obtain ⟨hx, hb, hown, hts, hK, hA, hV, hRf, hRl, hRc, hRs⟩ := G
  intro H locs ls hR hS hL
  exact lv_dup2_11 hx hb d hx9 hy9 (kk H locs ls hR hS hL)
theorem g_if_eq (G : gOK Γ own cc n mc ms) {x : Int32} {off : Int} {tgt : Nat} (d : decode cc pc = .ok (.ifCond .eq off, 3)) (ht : (pc : Int) + off = (tgt : Int)) (kt : x = 0 → gW Γ tgt lo st S k sl) (kf : ¬ x = 0 → gW Γ (pc + 3) lo st S k sl) : gW Γ pc lo (.int x :: st) S k sl := by
  obtain ⟨p, l, e1, R, s, m, args, below, meth, c, Q, A, D, cT, d0⟩ := Γ
  obtain ⟨hx, hb, hown, hts, hK, hA, hV, hRf, hRl, hRc, hRs⟩ := G
  intro H locs ls hR hS hL
  exact lv_if_eq hx hb d ht (fun z => kt z H locs ls hR hS hL) (fun z => kf z H locs ls hR hS hL)
theorem g_icmp_eq (G : gOK Γ own cc n mc ms) {x y : Int32} {off : Int} {tgt : Nat} (d : decode cc pc = .ok (.if_icmp .eq off, 3)) (ht : (pc : Int) + off = (tgt : Int)) (kt : x = y → gW Γ tgt lo st S k sl) (kf : ¬ x = y → gW Γ (pc + 3) lo st S k sl) : gW Γ pc lo (.int y :: .int x :: st) S k sl := by
  obtain ⟨p, l, e1, R, s, m, args, below, meth, c, Q, A, D, cT, d0⟩ := Γ
  obtain ⟨hx, hb, hown, hts, hK, hA, hV, hRf, hRl, hRc, hRs⟩ := G
  intro H locs ls hR hS hL
  exact lv_icmp_eq hx hb d ht (fun z => kt z H locs ls hR hS hL) (fun z => kf z H locs ls hR hS hL)
theorem g_if_ne (G : gOK Γ own cc n mc ms) {x : Int32} {off : Int} {tgt : Nat} (d : decode cc pc = .ok (.ifCond .ne off, 3)) (ht : (pc : Int) + off = (tgt : Int)) (kt : ¬ x = 0 → gW Γ tgt lo st S k sl) (kf : x = 0 → gW Γ (pc + 3) lo st S k sl) : gW Γ pc lo (.int x :: st) S k sl := by
  obtain ⟨p, l, e1, R, s, m, args, below, meth, c, Q, A, D, cT, d0⟩ := Γ
  obtain ⟨hx, hb, hown, hts, hK, hA, hV, hRf, hRl, hRc, hRs⟩ := G
  intro H locs ls hR hS hL
  exact lv_if_ne hx hb d ht (fun z => kt z H locs ls hR hS hL) (fun z => kf z H locs ls hR hS hL)
theorem g_icmp_ne (G : gOK Γ own cc n mc ms) {x y : Int32} {off : Int} {tgt : Nat} (d : decode cc pc = .ok (.if_icmp .ne off, 3)) (ht : (pc : Int) + off = (tgt : Int)) (kt : ¬ x = y → gW Γ tgt lo st S k sl) (kf : x = y → gW Γ (pc + 3) lo st S k sl) : gW Γ pc lo (.int y :: .int x :: st) S k sl := by
  obtain ⟨p, l, e1, R, s, m, args, below, meth, c, Q, A, D, cT, d0⟩ := Γ
  obtain ⟨hx, hb, hown, hts, hK, hA, hV, hRf, hRl, hRc, hRs⟩ := G
  intro H locs ls hR hS hL
  exact lv_icmp_ne hx hb d ht (fun z => kt z H locs ls hR hS hL) (fun z => kf z H locs ls hR hS hL)
theorem g_if_lt (G : gOK Γ own cc n mc ms) {x : Int32} {off : Int} {tgt : Nat} (d : decode cc pc = .ok (.ifCond .lt off, 3)) (ht : (pc : Int) + off = (tgt : Int)) (kt : x < 0 → gW Γ tgt lo st S k sl) (kf : ¬ x < 0 → gW Γ (pc + 3) lo st S k sl) : gW Γ pc lo (.int x :: st) S k sl := by
  obtain ⟨p, l, e1, R, s, m, args, below, meth, c, Q, A, D, cT, d0⟩ := Γ
  obtain ⟨hx, hb, hown, hts, hK, hA, hV, hRf, hRl, hRc, hRs⟩ := G
  intro H locs ls hR hS hL
  exact lv_if_lt hx hb d ht (fun z => kt z H locs ls hR hS hL) (fun z => kf z H locs ls hR hS hL)
theorem g_icmp_lt (G : gOK Γ own cc n mc ms) {x y : Int32} {off : Int} {tgt : Nat} (d : decode cc pc = .ok (.if_icmp .lt off, 3)) (ht : (pc : Int) + off = (tgt : Int)) (kt : x < y → gW Γ tgt lo st S k sl) (kf : ¬ x < y → gW Γ (pc + 3) lo st S k sl) : gW Γ pc lo (.int y :: .int x :: st) S k sl := by
  obtain ⟨p, l, e1, R, s, m, args, below, meth, c, Q, A, D, cT, d0⟩ := Γ
  obtain ⟨hx, hb, hown, hts, hK, hA, hV, hRf, hRl, hRc, hRs⟩ := G
  intro H locs ls hR hS hL
  exact lv_icmp_lt hx hb d ht (fun z => kt z H locs ls hR hS hL) (fun z => kf z H locs ls hR hS hL)
theorem g_if_ge (G : gOK Γ own cc n mc ms) {x : Int32} {off : Int} {tgt : Nat} (d : decode cc pc = .ok (.ifCond .ge off, 3)) (ht : (pc : Int) + off = (tgt : Int)) (kt : 0 ≤ x → gW Γ tgt lo st S k sl) (kf : ¬ 0 ≤ x → gW Γ (pc + 3) lo st S k sl) : gW Γ pc lo (.int x :: st) S k sl := by
  obtain ⟨p, l, e1, R, s, m, args, below, meth, c, Q, A, D, cT, d0⟩ := Γ
  obtain ⟨hx, hb, hown, hts, hK, hA, hV, hRf, hRl, hRc, hRs⟩ := G
  intro H locs ls hR hS hL
  exact lv_if_ge hx hb d ht (fun z => kt z H locs ls hR hS hL) (fun z => kf z H locs ls hR hS hL)
theorem g_icmp_ge (G : gOK Γ own cc n mc ms) {x y : Int32} {off : Int} {tgt : Nat} (d : decode cc pc = .ok (.if_icmp .ge off, 3)) (ht : (pc : Int) + off = (tgt : Int)) (kt : y ≤ x → gW Γ tgt lo st S k sl) (kf : ¬ y ≤ x → gW Γ (pc + 3) lo st S k sl) : gW Γ pc lo (.int y :: .int x :: st) S k sl := by
  obtain ⟨p, l, e1, R, s, m, args, below, meth, c, Q, A, D, cT, d0⟩ := Γ
  obtain ⟨hx, hb, hown, hts, hK, hA, hV, hRf, hRl, hRc, hRs⟩ := G
  intro H locs ls hR hS hL
  exact lv_icmp_ge hx hb d ht (fun z => kt z H locs ls hR hS hL) (fun z => kf z H locs ls hR hS hL)
theorem g_if_gt (G : gOK Γ own cc n mc ms) {x : Int32} {off : Int} {tgt : Nat} (d : decode cc pc = .ok (.ifCond .gt off, 3)) (ht : (pc : Int) + off = (tgt : Int)) (kt : 0 < x → gW Γ tgt lo st S k sl) (kf : ¬ 0 < x → gW Γ (pc + 3) lo st S k sl) : gW Γ pc lo (.int x :: st) S k sl := by
  obtain ⟨p, l, e1, R, s, m, args, below, meth, c, Q, A, D, cT, d0⟩ := Γ
  obtain ⟨hx, hb, hown, hts, hK, hA, hV, hRf, hRl, hRc, hRs⟩ := G
  intro H locs ls hR hS hL
  exact lv_if_gt hx hb d ht (fun z => kt z H locs ls hR hS hL) (fun z => kf z H locs ls hR hS hL)
theorem g_icmp_gt (G : gOK Γ own cc n mc ms) {x y : Int32} {off : Int} {tgt : Nat} (d : decode cc pc = .ok (.if_icmp .gt off, 3)) (ht : (pc : Int) + off = (tgt : Int)) (kt : y < x → gW Γ tgt lo st S k sl) (kf : ¬ y < x → gW Γ (pc + 3) lo st S k sl) : gW Γ pc lo (.int y :: .int x :: st) S k sl := by
  obtain ⟨p, l, e1, R, s, m, args, below, meth, c, Q, A, D, cT, d0⟩ := Γ
  obtain ⟨hx, hb, hown, hts, hK, hA, hV, hRf, hRl, hRc, hRs⟩ := G
  intro H locs ls hR hS hL
  exact lv_icmp_gt hx hb d ht (fun z => kt z H locs ls hR hS hL) (fun z => kf z H locs ls hR hS hL)
theorem g_if_le (G : gOK Γ own cc n mc ms) {x : Int32} {off : Int} {tgt : Nat} (d : decode cc pc = .ok (.ifCond .le off, 3)) (ht : (pc : Int) + off = (tgt : Int)) (kt : x ≤ 0 → gW Γ tgt lo st S k sl) (kf : ¬ x ≤ 0 → gW Γ (pc + 3) lo st S k sl) : gW Γ pc lo (.int x :: st) S k sl := by
  obtain ⟨p, l, e1, R, s, m, args, below, meth, c, Q, A, D, cT, d0⟩ := Γ
  obtain ⟨hx, hb, hown, hts, hK, hA, hV, hRf, hRl, hRc, hRs⟩ := G
  intro H locs ls hR hS hL
  exact lv_if_le hx hb d ht (fun z => kt z H locs ls hR hS hL) (fun z => kf z H locs ls hR hS hL)
theorem g_icmp_le (G : gOK Γ own cc n mc ms) {x y : Int32} {off : Int} {tgt : Nat} (d : decode cc pc = .ok (.if_icmp .le off, 3)) (ht : (pc : Int) + off = (tgt : Int)) (kt : x ≤ y → gW Γ tgt lo st S k sl) (kf : ¬ x ≤ y → gW Γ (pc + 3) lo st S k sl) : gW Γ pc lo (.int y :: .int x :: st) S k sl := by
  obtain ⟨p, l, e1, R, s, m, args, below, meth, c, Q, A, D, cT, d0⟩ := Γ
  obtain ⟨hx, hb, hown, hts, hK, hA, hV, hRf, hRl, hRc, hRs⟩ := G
  intro H locs ls hR hS hL
  exact lv_icmp_le hx hb d ht (fun z => kt z H locs ls hR hS hL) (fun z => kf z H locs ls hR hS hL)
theorem g_goto (G : gOK Γ own cc n mc ms) {off : Int} {tgt : Nat} (d : decode cc pc = .ok (.goto off, 3)) (ht : (pc : Int) + off = (tgt : Int)) (kk : gW Γ tgt lo st S k sl) : gW Γ pc lo st S k sl := by
  obtain ⟨p, l, e1, R, s, m, args, below, meth, c, Q, A, D, cT, d0⟩ := Γ
  obtain ⟨hx, hb, hown, hts, hK, hA, hV, hRf, hRl, hRc, hRs⟩ := G
  intro H locs ls hR hS hL
  exact lv_goto hx hb d ht (kk H locs ls hR hS hL)
theorem g_ifnonnull (G : gOK Γ own cc n mc ms) {x : Nat} {off : Int} {tgt : Nat} (d : decode cc pc = .ok (.ifnonnull off, 3)) (ht : (pc : Int) + off = (tgt : Int)) (kk : gW Γ (tgt) lo st S k sl) : gW Γ pc lo (.ref x :: st) S k sl := by
  obtain ⟨p, l, e1, R, s, m, args, below, meth, c, Q, A, D, cT, d0⟩ := Γ
  obtain ⟨hx, hb, hown, hts, hK, hA, hV, hRf, hRl, hRc, hRs⟩ := G
  intro H locs ls hR hS hL
  exact lv_ifnonnull hx hb d ht (kk H locs ls hR hS hL)
theorem g_ifnull (G : gOK Γ own cc n mc ms) {x : Nat} {off : Int} (d : decode cc pc = .ok (.ifnull off, 3)) (kk : gW Γ (pc + 3) lo st S k sl) : gW Γ pc lo (.ref x :: st) S k sl := by
  obtain ⟨p, l, e1, R, s, m, args, below, meth, c, Q, A, D, cT, d0⟩ := Γ
  obtain ⟨hx, hb, hown, hts, hK, hA, hV, hRf, hRl, hRc, hRs⟩ := G
  intro H locs ls hR hS hL
  exact lv_ifnull hx hb d (kk H locs ls hR hS hL)
theorem g_ifnullN (G : gOK Γ own cc n mc ms) {off : Int} {tgt : Nat} (d : decode cc pc = .ok (.ifnull off, 3)) (ht : (pc : Int) + off = (tgt : Int)) (kk : gW Γ (tgt) lo st S k sl) : gW Γ pc lo (.null :: st) S k sl := by
  obtain ⟨p, l, e1, R, s, m, args, below, meth, c, Q, A, D, cT, d0⟩ := Γ
  obtain ⟨hx, hb, hown, hts, hK, hA, hV, hRf, hRl, hRc, hRs⟩ := G
  intro H locs ls hR hS hL
  exact lv_ifnullN hx hb d ht (kk H locs ls hR hS hL)
theorem g_ifnonnullN (G : gOK Γ own cc n mc ms) {off : Int} (d : decode cc pc = .ok (.ifnonnull off, 3)) (kk : gW Γ (pc + 3) lo st S k sl) : gW Γ pc lo (.null :: st) S k sl := by
  obtain ⟨p, l, e1, R, s, m, args, below, meth, c, Q, A, D, cT, d0⟩ := Γ
  obtain ⟨hx, hb, hown, hts, hK, hA, hV, hRf, hRl, hRc, hRs⟩ := G
  intro H locs ls hR hS hL
  exact lv_ifnonnullN hx hb d (kk H locs ls hR hS hL)
theorem g_acmp_eq (G : gOK Γ own cc n mc ms) {rx ry : Option Nat} {off : Int} {tgt : Nat} (d : decode cc pc = .ok (.if_acmp .eq off, 3)) (ht : (pc : Int) + off = (tgt : Int)) (kt : rx = ry → gW Γ tgt lo st S k sl) (kf : ¬ rx = ry → gW Γ (pc + 3) lo st S k sl) : gW Γ pc lo (va_rf ry :: va_rf rx :: st) S k sl := by
  obtain ⟨p, l, e1, R, s, m, args, below, meth, c, Q, A, D, cT, d0⟩ := Γ
  obtain ⟨hx, hb, hown, hts, hK, hA, hV, hRf, hRl, hRc, hRs⟩ := G
  intro H locs ls hR hS hL
  exact lv_acmp_eq hx hb d ht (fun z => kt z H locs ls hR hS hL) (fun z => kf z H locs ls hR hS hL)
theorem g_acmp_ne (G : gOK Γ own cc n mc ms) {rx ry : Option Nat} {off : Int} {tgt : Nat} (d : decode cc pc = .ok (.if_acmp .ne off, 3)) (ht : (pc : Int) + off = (tgt : Int)) (kt : ¬ rx = ry → gW Γ tgt lo st S k sl) (kf : rx = ry → gW Γ (pc + 3) lo st S k sl) : gW Γ pc lo (va_rf ry :: va_rf rx :: st) S k sl := by
  obtain ⟨p, l, e1, R, s, m, args, below, meth, c, Q, A, D, cT, d0⟩ := Γ
  obtain ⟨hx, hb, hown, hts, hK, hA, hV, hRf, hRl, hRc, hRs⟩ := G
  intro H locs ls hR hS hL
  exact lv_acmp_ne hx hb d ht (fun z => kt z H locs ls hR hS hL) (fun z => kf z H locs ls hR hS hL)
theorem g_tableIn (G : gOK Γ own cc n mc ms) {dflt lw hi : Int} {offs : Array Int} {len : Nat} {x : Int32} {off : Int} {tgt : Nat} (d : decode cc pc = .ok (.tableswitch dflt lw hi offs, len)) (h1 : ¬ x.toInt < lw) (h2 : ¬ hi < x.toInt) (ho : offs[(x.toInt - lw).toNat]? = some off) (ht : (pc : Int) + off = (tgt : Int)) (kk : gW Γ tgt lo st S k sl) : gW Γ pc lo (.int x :: st) S k sl := by
  obtain ⟨p, l, e1, R, s, m, args, below, meth, c, Q, A, D, cT, d0⟩ := Γ
  obtain ⟨hx, hb, hown, hts, hK, hA, hV, hRf, hRl, hRc, hRs⟩ := G
  intro H locs ls hR hS hL
  exact lv_tableIn hx hb d h1 h2 ho ht (kk H locs ls hR hS hL)
theorem g_tableOut (G : gOK Γ own cc n mc ms) {dflt lw hi : Int} {offs : Array Int} {len : Nat} {x : Int32} {tgt : Nat} (d : decode cc pc = .ok (.tableswitch dflt lw hi offs, len)) (h : x.toInt < lw ∨ hi < x.toInt) (ht : (pc : Int) + dflt = (tgt : Int)) (kk : gW Γ tgt lo st S k sl) : gW Γ pc lo (.int x :: st) S k sl := by
  obtain ⟨p, l, e1, R, s, m, args, below, meth, c, Q, A, D, cT, d0⟩ := Γ
  obtain ⟨hx, hb, hown, hts, hK, hA, hV, hRf, hRl, hRc, hRs⟩ := G
  intro H locs ls hR hS hL
  exact lv_tableOut hx hb d h ht (kk H locs ls hR hS hL)
end GROWS
