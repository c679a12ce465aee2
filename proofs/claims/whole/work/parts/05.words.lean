/-! ===== words of the definitions that the facts need ===== -/
def gWords : List Cond := lw_tbl.filter goodWord

/-- words that only this much of the tables decides -/
def gNW : Cond → Bool
  | .fieldLinkNest _ _ _ _ _ _ => true
  | .methodLinkNest _ _ _ _ => true
  | .castable _ _ => true
  | .declares _ => true
  | _ => false

/-! what the tables say of a field under an entry of the pool -/
def gFld (own : String) (index ci f : Nat) : Prop := ∃ (C : String) (T : u_T) (N : Nat) (ref : String), vwCl[ci]? = some (C, T, N) ∧ f < N ∧ (∀ w ∈ u_ws C T N, w ∈ gWords) ∧ Cond.fieldLink own index ref (T f).2.1 (T f).2.2.1 ∈ gWords ∧ (ref = (T f).1 ∨ Cond.sameField ref (T f).1 (T f).2.1 (T f).2.2.1 ∈ gWords)
def gFldN (own : String) (index ci f : Nat) (host : String) : Prop := ∃ (C : String) (T : u_T) (N : Nat), vwCl[ci]? = some (C, T, N) ∧ f < N ∧ (∀ w ∈ u_ws C T N, w ∈ gWords) ∧ Cond.fieldLinkNest own index (T f).1 (T f).2.1 (T f).2.2.1 host ∈ tables_1
def gPut (ci f : Nat) (fin : Bool) (decl : String) (ok : Value → Prop) : Prop := ∃ (C : String) (T : u_T) (N : Nat) (ty0 : Nat → FieldType), vwCl[ci]? = some (C, T, N) ∧ N = (gFl ci).length ∧ (∀ k, k < N → parseFieldDescriptor (T k).2.2.1 = some (ty0 k)) ∧ (∀ a, a < N → ∀ b, b < N → a ≠ b → (T a).2.1 ≠ (T b).2.1) ∧ (T f).2.2.2 = fin ∧ (T f).1 = decl ∧ ∀ v, ok v → narrow (ty0 f) v = v ∧ fits (ty0 f) v = true
def okI : Value → Prop := fun v => ∃ x, v = .int x
def okQ : Value → Prop := fun v => ∃ o, v = va_rf o
def okZ : Value → Prop := fun v => v = .int 0 ∨ v = .int 1

def gNew (own : String) (index ci : Nat) : Prop := ∃ (C : String) (T : u_T) (N : Nat) (ty0 : Nat → FieldType), vwCl[ci]? = some (C, T, N) ∧ N = (gFl ci).length ∧ (∀ w ∈ u_ws C T N, w ∈ gWords) ∧ (∀ k, k < N → parseFieldDescriptor (T k).2.2.1 = some (ty0 k)) ∧ Cond.classLink own index C ∈ gWords ∧ Cond.instantiable C N ∈ gWords ∧ Cond.initialized C ∈ gWords ∧ ∀ j, j < N → defaultValue (ty0 j) = vp_V ((gFl ci).map (fun b => if b then Value.null else .int 0)) j

def gMeth (y : MethodName) (bytes : ByteArray) (maxL : Nat) (ret : Option FieldType) (na : Nat) : Prop := Cond.code y bytes maxL ret ∈ gWords ∧ Cond.initialized y.cls ∈ gWords ∧ (y.cls ≠ "java/lang/invoke/MethodHandle" ∧ y.cls ≠ "java/lang/invoke/VarHandle" ∧ (parseMethodDescriptor y.desc).map (fun d => d.parameters.length) = some na) ∧ maxL ≤ 17
def gInst (y : MethodName) : Prop := Cond.instanceMethod y ∈ gWords ∧ Cond.selects y.cls y y ∈ gWords
def gStat (y : MethodName) : Prop := Cond.static y ∈ gWords
def gCtor (y : MethodName) : Prop := Cond.instanceMethod y ∈ gWords ∧ y.name = "<init>"

