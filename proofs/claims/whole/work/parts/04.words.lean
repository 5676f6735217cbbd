/-- the tables' words that stay -/
def rhT : List Cond := lw_tbl.filter goodWord
theorem rhT_in {w : Cond} (i : Nat) (h : lw_tbl[i]? = some w) (hg : goodWord w = true) : w ∈ rhT := List.mem_filter.mpr ⟨List.mem_of_getElem? h, hg⟩
theorem rhT_good {big : List Cond} (h : ∀ w ∈ rhT, w ∈ big) : GoodIn big rhT := fun w hw => ⟨h w hw, good_of_word (List.mem_filter.mp hw).2⟩
def rhNb : Cond → Bool
  | .fieldLinkNest .. => true
  | .methodLinkNest .. => true
  | _ => false
/-- links to private members of nest mates -/
def rhN : List Cond := lw_tbl.filter rhNb
theorem rhN_in {w : Cond} (i : Nat) (h : lw_tbl[i]? = some w) (hg : rhNb w = true) : w ∈ rhN := List.mem_filter.mpr ⟨List.mem_of_getElem? h, hg⟩
/-- a link to field k of class ci -/
def rhGl (own : String) (idx ci k : Nat) (ty : FieldType) (fin : Bool) : Prop := ∃ (C : String) (T : u_T) (N : Nat) (ty0 : Nat → FieldType), vwCl[ci]? = some (C, T, N) ∧ k < N ∧ (∀ w ∈ u_ws C T N, w ∈ rhT) ∧ (∀ k, k < N → parseFieldDescriptor (T k).2.2.1 = some (ty0 k)) ∧ (∀ a, a < N → ∀ b, b < N → a ≠ b → (T a).2.1 ≠ (T b).2.1) ∧ ty0 k = ty ∧ (T k).2.2.2 = fin ∧ (Cond.fieldLink own idx (T k).1 (T k).2.1 (T k).2.2.1 ∈ rhT ∨ ∃ host, Cond.fieldLinkNest own idx (T k).1 (T k).2.1 (T k).2.2.1 host ∈ rhN)
/-- the words of a call: the link, and what is so of the method -/
def rhLk (own : String) (idx : Nat) (y : MethodName) : Prop := Cond.methodLink own idx y ∈ rhT ∨ ∃ host, Cond.methodLinkNest own idx y host ∈ rhN
def rhMd (y : MethodName) (bytes : ByteArray) (mL : Nat) (ret : Option FieldType) (n : Nat) : Prop := Cond.initialized y.cls ∈ rhT ∧ Cond.code y bytes mL ret ∈ rhT ∧ (y.cls ≠ "java/lang/invoke/MethodHandle" ∧ y.cls ≠ "java/lang/invoke/VarHandle") ∧ (parseMethodDescriptor y.desc).map (fun d => d.parameters.length) = some n
def rhMv (y : MethodName) (bytes : ByteArray) (mL : Nat) (ret : Option FieldType) (n ci : Nat) : Prop := rhMd y bytes mL ret n ∧ Cond.instanceMethod y ∈ rhT ∧ Cond.selects y.cls y y ∈ rhT ∧ ∃ T N, vwCl[ci]? = some (y.cls, T, N)
def rhMs (y : MethodName) (bytes : ByteArray) (mL : Nat) (ret : Option FieldType) (n : Nat) : Prop := rhMd y bytes mL ret n ∧ Cond.static y ∈ rhT
