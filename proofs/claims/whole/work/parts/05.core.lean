/-! ===== THE STORE: a picture of the heap, field by field; each address has a kind (kind % 32: what it is; kind / 32: a name of its own) ===== -/
abbrev gS : Type := (Nat → Nat) × (Nat → Nat) × (Nat → Nat → Nat → Int32) × (Nat → Nat → Nat → Option Nat) × (Nat → Nat → Nat → Int64)
abbrev gK (S : gS) : Nat → Nat := S.1
abbrev gL (S : gS) : Nat → Nat := S.2.1
abbrev gX (S : gS) : Nat → Nat → Nat → Int32 := S.2.2.1
abbrev gY (S : gS) : Nat → Nat → Nat → Option Nat := S.2.2.2.1
abbrev gZ (S : gS) : Nat → Nat → Nat → Int64 := S.2.2.2.2
def u3 {α : Type} (f : Nat → Nat → Nat → α) (κ p q : Nat) (v : α) : Nat → Nat → Nat → α := fun a b c => if a = κ ∧ b = p ∧ c = q then v else f a b c
def u2 {α : Type} (f : Nat → Nat → Nat → α) (κ p : Nat) (v : Nat → α) : Nat → Nat → Nat → α := fun a b c => if a = κ ∧ b = p then v c else f a b c
theorem u3_same {α : Type} (f : Nat → Nat → Nat → α) (κ p q : Nat) (v : α) : u3 f κ p q v κ p q = v := if_pos ⟨rfl, rfl, rfl⟩
theorem u3_k {α : Type} (f : Nat → Nat → Nat → α) {κ p q a b c : Nat} (v : α) (h : a ≠ κ) : u3 f κ p q v a b c = f a b c := if_neg fun z => h z.1
theorem u3_p {α : Type} (f : Nat → Nat → Nat → α) {κ p q a b c : Nat} (v : α) (h : b ≠ p) : u3 f κ p q v a b c = f a b c := if_neg fun z => h z.2.1
theorem u3_q {α : Type} (f : Nat → Nat → Nat → α) {κ p q a b c : Nat} (v : α) (h : c ≠ q) : u3 f κ p q v a b c = f a b c := if_neg fun z => h z.2.2
theorem u2_same {α : Type} (f : Nat → Nat → Nat → α) (κ p : Nat) (v : Nat → α) : u2 f κ p v κ p = v := funext fun _ => if_pos ⟨rfl, rfl⟩
theorem u2_k {α : Type} (f : Nat → Nat → Nat → α) {κ p a b c : Nat} (v : Nat → α) (h : a ≠ κ) : u2 f κ p v a b c = f a b c := if_neg fun z => h z.1
theorem u2_p {α : Type} (f : Nat → Nat → Nat → α) {κ p a b c : Nat} (v : Nat → α) (h : b ≠ p) : u2 f κ p v a b c = f a b c := if_neg fun z => h z.2
theorem u3_row {α : Type} (f : Nat → Nat → Nat → α) (κ p q : Nat) (v : α) : u3 f κ p q v κ p = fun j => if j = q then v else f κ p j := funext fun j => by
  by_cases h : j = q
  · subst h; rw [u3_same, if_pos rfl]
  · rw [u3_q f v h, if_neg h]
abbrev sX (S : gS) (κ p q : Nat) (v : Int32) : gS := (S.1, S.2.1, u3 S.2.2.1 κ p q v, S.2.2.2.1, S.2.2.2.2)
abbrev sY (S : gS) (κ p q : Nat) (v : Option Nat) : gS := (S.1, S.2.1, S.2.2.1, u3 S.2.2.2.1 κ p q v, S.2.2.2.2)
abbrev sZ (S : gS) (κ p q : Nat) (v : Int64) : gS := (S.1, S.2.1, S.2.2.1, S.2.2.2.1, u3 S.2.2.2.2 κ p q v)
abbrev sXr (S : gS) (κ p : Nat) (v : Nat → Int32) : gS := (S.1, S.2.1, u2 S.2.2.1 κ p v, S.2.2.2.1, S.2.2.2.2)
abbrev sYr (S : gS) (κ p : Nat) (v : Nat → Option Nat) : gS := (S.1, S.2.1, S.2.2.1, u2 S.2.2.2.1 κ p v, S.2.2.2.2)
/-- a class's fields: is it a reference -/
def gFl (ci : Nat) : List Bool := match ci with
  | 0 => [false, true, false]
  | 1 => [false, false]
  | 2 => [true, true, true, true, false, true, false, false]
  | 3 => [true, true, true, false, false, false, true, false, false, false, false, false, false, false]
  | 4 => [false, true, true, false, false, true]
  | 5 => [true, false, true, false, false, false]
  | 6 => [false, true, true, false]
  | 7 => [false, false, false, false, false]
  | 8 => [true, true, true, true, true, true, false, true, false, true, false, false]
  | 9 => [false, true, true, true, true, true, true, true, true]
  | 10 => [false, true, false, false, true, false, false, true, false, true, true, false, true, true, true, true, true, false, true, true, true, true, true, false, true, true, true, true, true, true, true, true, false, false, false]
  | _ => []
/-- an object's fields at their values when it is made -/
def sN (S : gS) (κ a : Nat) : gS := (va_up S.1 a κ, S.2.1, (fun x b c => if x = κ ∧ c = a then 0 else S.2.2.1 x b c), (fun x b c => if x = κ ∧ c = a then none else S.2.2.2.1 x b c), S.2.2.2.2)
/-- an array of n places when it is made -/
def sM (S : gS) (κ a n : Nat) : gS := (va_up S.1 a κ, va_up S.2.1 a n, (fun x b c => if x = κ ∧ b = a then 0 else S.2.2.1 x b c), (fun x b c => if x = κ ∧ b = a then none else S.2.2.2.1 x b c), (fun x b c => if x = κ ∧ b = a then 0 else S.2.2.2.2 x b c))
def gRow (S : gS) (κ a : Nat) : Nat → List Bool → List Value
  | _, [] => []
  | k, true :: l => va_rf (gY S κ k a) :: gRow S κ a (k + 1) l
  | k, false :: l => .int (gX S κ k a) :: gRow S κ a (k + 1) l
theorem gRow_at (S : gS) (κ a : Nat) : ∀ (l : List Bool) (k i : Nat), (gRow S κ a k l)[i]? = l[i]?.map (fun b => if b then va_rf (gY S κ (k + i) a) else .int (gX S κ (k + i) a))
  | [], k, i => by simp [gRow]
  | true :: l, k, 0 => by simp [gRow]
  | false :: l, k, 0 => by simp [gRow]
  | true :: l, k, i + 1 => by
    rw [gRow, List.getElem?_cons_succ, List.getElem?_cons_succ, gRow_at S κ a l (k + 1) i, show k + 1 + i = k + (i + 1) by omega]
  | false :: l, k, i + 1 => by
    rw [gRow, List.getElem?_cons_succ, List.getElem?_cons_succ, gRow_at S κ a l (k + 1) i, show k + 1 + i = k + (i + 1) by omega]
theorem gRow_len (S : gS) (κ a : Nat) : ∀ (l : List Bool) (k : Nat), (gRow S κ a k l).length = l.length
  | [], k => rfl
  | true :: l, k => by rw [gRow, List.length_cons, List.length_cons, gRow_len S κ a l]
  | false :: l, k => by rw [gRow, List.length_cons, List.length_cons, gRow_len S κ a l]
theorem gRow_eq {S T : gS} {κ a : Nat} (hx : ∀ k, gX T κ k a = gX S κ k a) (hy : ∀ k, gY T κ k a = gY S κ k a) (k : Nat) (l : List Bool) : gRow T κ a k l = gRow S κ a k l := by
  apply List.ext_getElem?
  intro i
  rw [gRow_at, gRow_at, hx, hy]
/-- what lies at an address -/
def gEnt (cT : Nat → ClassId) (S : gS) (a : Nat) : va_E :=
  if gK S a % 32 < 16 then .inr (gK S a % 32 - 1, gRow S (gK S a) a 0 (gFl (gK S a % 32 - 1)))
  else if gK S a % 32 < 18 then .inl (cT (gK S a % 32), (gL S a, .inl (gX S (gK S a) a)))
  else if gK S a % 32 = 18 then .inl (cT (gK S a % 32), (gL S a, .inr (.inl (gZ S (gK S a) a))))
  else .inl (cT (gK S a % 32), (gL S a, .inr (.inr (.inr (.inr (gY S (gK S a) a))))))
theorem gEnt_o {cT : Nat → ClassId} {S : gS} {a κ : Nat} (h : gK S a = κ) (hk : κ % 32 < 16) : gEnt cT S a = .inr (κ % 32 - 1, gRow S κ a 0 (gFl (κ % 32 - 1))) := by
  unfold gEnt
  rw [h, if_pos hk]
theorem gEnt_i {cT : Nat → ClassId} {S : gS} {a κ : Nat} (h : gK S a = κ) (hk : κ % 32 = 16 ∨ κ % 32 = 17) : gEnt cT S a = .inl (cT (κ % 32), (gL S a, .inl (gX S κ a))) := by
  unfold gEnt
  rw [h, if_neg (by omega), if_pos (by omega)]
theorem gEnt_l {cT : Nat → ClassId} {S : gS} {a κ : Nat} (h : gK S a = κ) (hk : κ % 32 = 18) : gEnt cT S a = .inl (cT 18, (gL S a, .inr (.inl (gZ S κ a)))) := by
  unfold gEnt
  rw [h, if_neg (by omega), if_neg (by omega), if_pos hk, hk]
theorem gEnt_q {cT : Nat → ClassId} {S : gS} {a κ : Nat} (h : gK S a = κ) (hk : 18 < κ % 32) : gEnt cT S a = .inl (cT (κ % 32), (gL S a, .inr (.inr (.inr (.inr (gY S κ a)))))) := by
  unfold gEnt
  rw [h, if_neg (by omega), if_neg (by omega), if_neg (by omega)]
/-- the same at an address: kind, length, and all that is kept under it -/
theorem gEnt_eq {cT : Nat → ClassId} {S T : gS} {b : Nat} (hk : gK T b = gK S b) (hl : 16 ≤ gK S b % 32 → gL T b = gL S b) (hx : ∀ k, gK S b % 32 < 16 → gX T (gK S b) k b = gX S (gK S b) k b) (hy : ∀ k, gK S b % 32 < 16 → gY T (gK S b) k b = gY S (gK S b) k b)
    (ax : 16 ≤ gK S b % 32 → gX T (gK S b) b = gX S (gK S b) b) (ay : 16 ≤ gK S b % 32 → gY T (gK S b) b = gY S (gK S b) b) (az : 16 ≤ gK S b % 32 → gZ T (gK S b) b = gZ S (gK S b) b) : gEnt cT T b = gEnt cT S b := by
  unfold gEnt
  rw [hk]
  by_cases h1 : gK S b % 32 < 16
  · rw [if_pos h1, if_pos h1, gRow_eq (fun k => hx k h1) (fun k => hy k h1)]
  · rw [if_neg h1, if_neg h1, hl (by omega), ax (by omega), ay (by omega), az (by omega)]
/-- the list of cells is the store's -/
def gWs (cT : Nat → ClassId) (S : gS) (ws : va_W) : Prop := (∀ (k : Nat) (q : Nat × va_E), ws[k]? = some q → gK S q.1 ≠ 0 ∧ q.2 = gEnt cT S q.1) ∧ ∀ a, gK S a ≠ 0 → ∃ k : Nat, ws[k]? = some (a, gEnt cT S a)
theorem gWs.put {cT : Nat → ClassId} {S T : gS} {ws : va_W} {A : Nat → Prop} (h : gWs cT S ws) (hD : va_D A ws) {k a : Nat} {e : va_E} (hk : ws[k]? = some (a, e)) (hK : gK T = gK S) (ho : ∀ b, b ≠ a → gK S b ≠ 0 → gEnt cT T b = gEnt cT S b) : gWs cT T (ws.set k (a, gEnt cT T a)) := by
  have hl : k < ws.length := (List.getElem?_eq_some_iff.mp hk).1
  refine ⟨fun j q hq => ?_, fun b hb => ?_⟩
  · by_cases hj : j = k
    · subst hj
      rw [List.getElem?_set_self hl] at hq
      cases hq
      rw [hK]
      exact ⟨(h.1 _ _ hk).1, rfl⟩
    · rw [List.getElem?_set_ne (fun z => hj z.symm)] at hq
      obtain ⟨h1, h2⟩ := h.1 j q hq
      have hn : q.1 ≠ a := fun z => hj (hD.1 j k q (a, e) hq hk z)
      rw [hK]
      exact ⟨h1, by rw [ho q.1 hn h1]; exact h2⟩
  · rw [hK] at hb
    by_cases hba : b = a
    · subst hba
      exact ⟨k, List.getElem?_set_self hl⟩
    · obtain ⟨j, hj⟩ := h.2 b hb
      have hjk : j ≠ k := fun z => by
        subst z
        rw [hk] at hj
        cases hj
        exact hba rfl
      refine ⟨j, ?_⟩
      rw [List.getElem?_set_ne (fun z => hjk z.symm), hj, ho b hba hb]
theorem gWs.fresh {cT : Nat → ClassId} {S : gS} {ws : va_W} {A : Nat → Prop} (h : gWs cT S ws) {q : Nat} {e : va_E} (hD : va_D A (ws ++ [(q, e)])) : gK S q = 0 := by
  apply Classical.byContradiction
  intro hn
  obtain ⟨k, hk⟩ := h.2 q hn
  have hl : k < ws.length := (List.getElem?_eq_some_iff.mp hk).1
  have h1 : (ws ++ [(q, e)])[k]? = some (q, gEnt cT S q) := by rw [List.getElem?_append_left hl]; exact hk
  have h2 : (ws ++ [(q, e)])[ws.length]? = some (q, e) := by rw [List.getElem?_append_right (Nat.le_refl _), Nat.sub_self]; rfl
  have h3 := hD.1 _ _ _ _ h1 h2 rfl
  omega
theorem gWs.new {cT : Nat → ClassId} {S T : gS} {ws : va_W} (h : gWs cT S ws) {q κ : Nat} (hq : gK S q = 0) (h0 : κ ≠ 0) (hK : gK T = va_up (gK S) q κ) (ho : ∀ b, b ≠ q → gK S b ≠ 0 → gEnt cT T b = gEnt cT S b) : gWs cT T (ws ++ [(q, gEnt cT T q)]) := by
  have hne : ∀ b, gK S b ≠ 0 → b ≠ q := fun b hb z => hb (by rw [z]; exact hq)
  have hKn : ∀ b, b ≠ q → gK T b = gK S b := fun b hb => by rw [hK]; exact va_up_ne _ _ hb
  refine ⟨fun j x hx => ?_, fun b hb => ?_⟩
  · by_cases hj : j < ws.length
    · rw [List.getElem?_append_left hj] at hx
      obtain ⟨h1, h2⟩ := h.1 j x hx
      have hn := hne _ h1
      exact ⟨by rw [hKn _ hn]; exact h1, by rw [ho _ hn h1]; exact h2⟩
    · rw [List.getElem?_append_right (by omega)] at hx
      have hz : j - ws.length < 1 := (List.getElem?_eq_some_iff.mp hx).1
      have : j - ws.length = 0 := by omega
      rw [this] at hx
      cases hx
      exact ⟨by rw [hK, va_up_self]; exact h0, rfl⟩
  · by_cases hbq : b = q
    · subst hbq
      exact ⟨ws.length, by rw [List.getElem?_append_right (Nat.le_refl _), Nat.sub_self]; rfl⟩
    · have hb' : gK S b ≠ 0 := by rw [← hKn b hbq]; exact hb
      obtain ⟨j, hj⟩ := h.2 b hb'
      have hl : j < ws.length := (List.getElem?_eq_some_iff.mp hj).1
      exact ⟨j, by rw [List.getElem?_append_left hl, hj, ho b hbq hb']⟩
/-! locals by their places -/
def gH (ls : Array Slot) (nL : Nat) (lo : List (Option Value)) : Prop := ls.size = nL ∧ lv_wf ls ∧ lo.length = nL ∧ ∀ (i : Nat) (v : Value), lo[i]? = some (some v) → ls[i]? = some (.val v)
def gPrs (lo : List (Option Value)) : List (Nat × Value) := (List.range lo.length).filterMap (fun j => (lo[j]?.join).map (fun w => (j, w)))
theorem gPrs_mem {lo : List (Option Value)} {q : Nat × Value} : q ∈ gPrs lo ↔ lo[q.1]? = some (some q.2) := by
  obtain ⟨j, w⟩ := q
  unfold gPrs
  rw [List.mem_filterMap]
  constructor
  · rintro ⟨i, -, hi⟩
    cases h : lo[i]? with
    | none => rw [h] at hi; simp at hi
    | some x =>
      cases x with
      | none => rw [h] at hi; simp at hi
      | some v =>
        rw [h] at hi
        simp at hi
        obtain ⟨rfl, rfl⟩ := hi
        exact h
  · intro h
    have hl : j < lo.length := (List.getElem?_eq_some_iff.mp h).1
    exact ⟨j, List.mem_range.mpr hl, by rw [h]; rfl⟩
theorem gH.has {ls : Array Slot} {nL : Nat} {lo : List (Option Value)} (h : gH ls nL lo) : lv_has ls nL (gPrs lo) := ⟨h.1, h.2.1, fun q hq => h.2.2.2 _ _ (gPrs_mem.mp hq)⟩
def g_c1 : Option Value → Bool
  | some (.long _) => false
  | some (.double _) => false
  | _ => true
theorem g_c1_of {w : Value} (h : g_c1 (some w) = true) : w.category = 1 := by cases w <;> first | rfl | cases h
theorem gH.st1 {ls ls' : Array Slot} {nL i : Nat} {lo lo' : List (Option Value)} {v : Value} (h : gH ls nL lo) (h' : lv_has ls' nL ((i, v) :: (gPrs lo).filter (fun q => !(q.1 == i) && !(q.1 + 1 == i && q.2.category == 2)))) (hlen : lo'.length = lo.length)
    (hc : ∀ (j : Nat) (x : Option Value), i = j + 1 → lo[j]? = some x → g_c1 x = true) (hv : lo'[i]? = some (some v)) (ho : ∀ j, j ≠ i → lo'[j]? = lo[j]?) : gH ls' nL lo' := by
  refine ⟨h'.1, h'.2.1, hlen.trans h.2.2.1, fun j w hj => ?_⟩
  refine h'.2.2 (j, w) ?_
  by_cases hji : j = i
  · subst hji
    rw [hv] at hj
    cases hj
    exact List.mem_cons_self
  · rw [ho j hji] at hj
    refine List.mem_cons_of_mem _ (List.mem_filter.mpr ⟨gPrs_mem.mpr hj, ?_⟩)
    by_cases h2 : j + 1 = i
    · have h3 := g_c1_of (hc j _ h2.symm hj)
      simp [hji, h3]
    · simp [hji, h2]
theorem gH.st2 {ls ls' : Array Slot} {nL i : Nat} {lo lo' : List (Option Value)} {v : Value} (h : gH ls nL lo) (h' : lv_has ls' nL ((i, v) :: (gPrs lo).filter (fun q => !(q.1 == i) && (!(q.1 == i + 1) && !(q.1 + 1 == i && q.2.category == 2))))) (hlen : lo'.length = lo.length)
    (hc : ∀ (j : Nat) (x : Option Value), i = j + 1 → lo[j]? = some x → g_c1 x = true) (hv : lo'[i]? = some (some v)) (hn : lo'[i + 1]? = some none) (ho : ∀ j, j ≠ i → j ≠ i + 1 → lo'[j]? = lo[j]?) : gH ls' nL lo' := by
  refine ⟨h'.1, h'.2.1, hlen.trans h.2.2.1, fun j w hj => ?_⟩
  refine h'.2.2 (j, w) ?_
  by_cases hji : j = i
  · subst hji
    rw [hv] at hj
    cases hj
    exact List.mem_cons_self
  · have hj1 : j ≠ i + 1 := fun z => by rw [z, hn] at hj; cases hj
    rw [ho j hji hj1] at hj
    refine List.mem_cons_of_mem _ (List.mem_filter.mpr ⟨gPrs_mem.mpr hj, ?_⟩)
    by_cases h2 : j + 1 = i
    · have h3 := g_c1_of (hc j _ h2.symm hj)
      simp [hji, hj1, h3]
    · simp [hji, hj1, h2]
