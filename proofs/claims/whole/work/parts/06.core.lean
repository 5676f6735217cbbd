/-! ===== the walk in small: a state of a method is its pc, its locals by their places, its stack and a list of cells ===== -/
theorem rhN_warm {s U : State} (hW : s.WarmedH U.vm) (h : ∀ w ∈ rhN, va_Nw w s) : ∀ w ∈ rhN, va_Nw w U := by
  intro w hw
  have h1 := h w hw
  have h2 := (List.mem_filter.mp hw).2
  cases w <;> first | exact va_Nw.warmF hW h1 | exact va_Nw.warmM hW h1 | (exact absurd h2 (by simp [rhNb]))
theorem rhN_same {u U : State} (hv : u.vm = U.vm) (h : ∀ w ∈ rhN, va_Nw w u) : ∀ w ∈ rhN, va_Nw w U := by
  intro w hw
  have h1 := h w hw
  have h2 := (List.mem_filter.mp hw).2
  cases w <;> first | exact va_Nw.same rfl hv h1 | (exact absurd h2 (by simp [rhNb]))
/-- what is the same in a whole run: classes, array classes, the mark below which nothing is ours, the texts' places -/
abbrev rhE : Type := va_G × (Nat → ClassId) × Nat × (Nat → Nat) × (Nat → Nat)
def rhTy (cy : Nat → ClassId) : List (ClassId × FieldType) := [(cy 0, .int), (cy 1, .long), (cy 2, .byte), (cy 3, .char), (cy 4, .array .long)]
def rhSR : List (String × Nat × String × Nat) := [("RoundHouse$Text", 53, "pre ", 0), ("RoundHouse$Text", 78, "pool", 1), ("RoundHouse$Text", 80, "late", 2), ("RoundHouse$Text", 82, "full", 3), ("RoundHouse$Text", 84, "broad", 4), ("RoundHouse$Text", 86, "narrow", 5), ("RoundHouse$Text", 88, "pref", 6), ("RoundHouse$Text", 90, "part", 7), ("RoundHouse$Text", 92, "play", 8), ("RoundHouse", 363, "the row has no such number", 9), ("RoundHouseModel", 201, "pre", 10), ("RoundHouseModel", 181, "pool", 1), ("RoundHouseModel", 183, "late", 2), ("RoundHouseModel", 185, "full", 3), ("RoundHouseModel", 187, "broad", 4), ("RoundHouseModel", 189, "narrow", 5), ("RoundHouseModel", 191, "pref", 6), ("RoundHouseModel", 193, "part", 7), ("RoundHouseModel", 195, "play", 8)]
def rhLen : List Nat := [4, 4, 4, 4, 5, 6, 4, 4, 4, 26, 3]
def rhByt : List (List Int32) := [[112, 114, 101, 32], [112, 111, 111, 108], [108, 97, 116, 101], [102, 117, 108, 108], [98, 114, 111, 97, 100], [110, 97, 114, 114, 111, 119], [112, 114, 101, 102], [112, 97, 114, 116], [112, 108, 97, 121], [116, 104, 101, 32, 114, 111, 119, 32, 104, 97, 115, 32, 110, 111, 32, 115, 117, 99, 104, 32, 110, 117, 109, 98, 101, 114], [112, 114, 101]]
/-- statics of the JDK -/
def rhZ (E : rhE) (U : State) : Prop := va_Z "java/lang/String" "COMPACT_STRINGS" "Z" (.int 1) (fun q => E.2.2.1 ≤ q) U U.heap ∧ va_Zq "jdk/internal/util/Preconditions" "SIOOBE_FORMATTER" "Ljava/util/function/BiFunction;" (fun q => E.2.2.1 ≤ q) U U.heap ∧ va_Zq "java/lang/Throwable" "UNASSIGNED_STACK" "[Ljava/lang/StackTraceElement;" (fun q => E.2.2.1 ≤ q) U U.heap ∧ va_Zq "java/lang/Throwable" "SUPPRESSED_SENTINEL" "Ljava/util/List;" (fun q => E.2.2.1 ≤ q) U U.heap
def rhK (E : rhE) (U : State) : Prop := va_K E.1 vwCl (rhTy E.2.1) U ∧ (∀ w ∈ rhN, va_Nw w U) ∧ (∀ q ∈ rhSR, vk_R q.1 q.2.1 q.2.2.1 (E.2.2.2.1 q.2.2.2) U) ∧ vk_S 11 rhLen rhByt E.2.2.2.1 E.2.2.2.2 (fun q => E.2.2.1 ≤ q) U U.heap ∧ E.2.2.1 ≤ U.heap.size ∧ rhZ E U
theorem rhK.call {E : rhE} {U : State} {g : JFrame} {mk : MethodId} {a : Array Value} (h : rhK E U) : rhK E (U.calling g mk a) := by
  obtain ⟨h1, h2, h3, h4, h5, z1, z2, z3, z4⟩ := h
  exact ⟨va_K.moved (u := U) (U := U.calling g mk a) (Vm.Alike.refl U.vm) h1, rhN_same (u := U) (U := U.calling g mk a) rfl h2, fun q hq => vk_R.same (u := U) (U := U.calling g mk a) rfl (h3 q hq), vk_S.moved (u := U) (U := U.calling g mk a) (Vm.Alike.refl U.vm) h4, h5, va_Z.moved (u := U) (U := U.calling g mk a) (Vm.Alike.refl U.vm) z1, va_Zq.moved (u := U) (U := U.calling g mk a) (Vm.Alike.refl U.vm) z2, va_Zq.moved (u := U) (U := U.calling g mk a) (Vm.Alike.refl U.vm) z3, va_Zq.moved (u := U) (U := U.calling g mk a) (Vm.Alike.refl U.vm) z4⟩
theorem rhK.warm {E : rhE} {A : Nat → Prop} {s U : State} {H : Heap} {locs : List Loc} (h : rhK E s) (hA : ∀ q, A q → E.2.2.1 ≤ q) (hS : va_S A s.heap H locs) (hU : U.heap = H) (hW : s.WarmedH U.vm) : rhK E U := by
  obtain ⟨h1, h2, h3, h4, h5, z1, z2, z3, z4⟩ := h
  have hq : ∀ a : Nat, a < s.heap.size → ¬ E.2.2.1 ≤ a → H[a]? = s.heap[a]? := fun a ha hn => hS.2.1 a ha (fun q => hn (hA a q))
  unfold rhK rhZ
  rw [hU]
  exact ⟨va_K.moved hW.alike h1, rhN_warm hW h2, fun q hq => vk_R.warm hW (h3 q hq), vk_S.moved hW.alike (vk_S.kept h4 hq), Nat.le_trans h5 hS.1, va_Z.moved hW.alike (va_Z.kept z1 hq), va_Zq.moved hW.alike (va_Zq.kept z2 hq), va_Zq.moved hW.alike (va_Zq.kept z3 hq), va_Zq.moved hW.alike (va_Zq.kept z4 hq)⟩
/-- locals by their places -/
def rhL (ls : Array Slot) (nL : Nat) (lv : List (Option Value)) : Prop := ls.size = nL ∧ lv_wf ls ∧ ∀ (i : Nat) (v : Value), lv[i]? = some (some v) → ls[i]? = some (.val v)
/-- the listed ones -/
def rhAs (lv : List (Option Value)) : List (Nat × Value) := (List.range lv.length).filterMap (fun i => match lv[i]? with
  | some (some v) => some (i, v)
  | _ => none)
theorem rhAs_mem {lv : List (Option Value)} {i : Nat} {v : Value} : (i, v) ∈ rhAs lv ↔ lv[i]? = some (some v) := by
  unfold rhAs
  rw [List.mem_filterMap]
  constructor
  · rintro ⟨j, -, h⟩
    cases hj : lv[j]? with
    | none => rw [hj] at h; cases h
    | some x =>
      cases x with
      | none => rw [hj] at h; cases h
      | some w => rw [hj] at h; cases h; exact hj
  · intro h
    refine ⟨i, List.mem_range.mpr (List.getElem?_eq_some_iff.mp h).1, ?_⟩
    rw [h]
theorem rhL.has {ls : Array Slot} {nL : Nat} {lv : List (Option Value)} (h : rhL ls nL lv) : lv_has ls nL (rhAs lv) := ⟨h.1, h.2.1, fun q hq => h.2.2 q.1 q.2 (rhAs_mem.mp hq)⟩
/-- a value of one slot may lie behind it -/
def rhNl : Option Value → Bool
  | some v => v.category == 1
  | none => true
theorem rhL.of1 {ls : Array Slot} {nL i : Nat} {v : Value} {lv : List (Option Value)} (hp : ∀ j u, j + 1 = i → lv[j]? = some (some u) → (u.category == 2) = false) (h : lv_has ls nL ((i, v) :: (rhAs lv).filter (fun q => !(q.1 == i) && !(q.1 + 1 == i && q.2.category == 2)))) : rhL ls nL (lv.set i (some v)) := by
  refine ⟨h.1, h.2.1, fun j u hj => ?_⟩
  by_cases e : j = i
  · subst e
    rw [List.getElem?_set] at hj
    simp at hj
    rw [← hj.2]
    exact h.2.2 (j, v) List.mem_cons_self
  · rw [List.getElem?_set_ne (Ne.symm e)] at hj
    refine h.2.2 (j, u) (List.mem_cons_of_mem _ (List.mem_filter.mpr ⟨rhAs_mem.mpr hj, ?_⟩))
    by_cases e2 : j + 1 = i
    · simp [e, hp j u e2 hj]
    · simp [e, e2]
theorem rhL.of2 {ls : Array Slot} {nL i : Nat} {v : Value} {lv : List (Option Value)} (hp : ∀ j u, j + 1 = i → lv[j]? = some (some u) → (u.category == 2) = false) (h : lv_has ls nL ((i, v) :: (rhAs lv).filter (fun q => !(q.1 == i) && (!(q.1 == i + 1) && !(q.1 + 1 == i && q.2.category == 2))))) : rhL ls nL ((lv.set i (some v)).set (i + 1) none) := by
  refine ⟨h.1, h.2.1, fun j u hj => ?_⟩
  by_cases e1 : j = i + 1
  · subst e1
    rw [List.getElem?_set] at hj
    simp at hj
  · rw [List.getElem?_set_ne (Ne.symm e1)] at hj
    by_cases e : j = i
    · subst e
      rw [List.getElem?_set] at hj
      simp at hj
      rw [← hj.2]
      exact h.2.2 (j, v) List.mem_cons_self
    · rw [List.getElem?_set_ne (Ne.symm e)] at hj
      refine h.2.2 (j, u) (List.mem_cons_of_mem _ (List.mem_filter.mpr ⟨rhAs_mem.mpr hj, ?_⟩))
      by_cases e2 : j + 1 = i
      · simp [e, e1, hp j u e2 hj]
      · simp [e, e1, e2]
/-- the walk's fixed things -/
abbrev rhX : Type := Program × Launch × Env × Room × State × MethodId × Array Value × List Frame × Method × Code × rhE × (Nat → Prop) × (State → Prop) × Nat × Nat × Nat
/-- from here the method comes to its end -/
def G : rhX → Nat → List (Option Value) → List Value → va_W → Prop
  | (p, l, e, R, s, m, args, below, meth, c, E, A, Q, kc, ns, nL), pc, lv, st, ws => ∀ (H : Heap) (locs : List Loc) (ls : Array Slot), va_P E.1 vwCl ws H → va_D A ws → va_S A s.heap H locs → rhL ls nL lv → W p l e R s m args below meth c H locs kc ns Q (F0 m pc ls st)
def Ok : rhX → rhE → String → ByteArray → Room → Nat → Prop
  | (p, l, e, R, s, m, args, below, meth, c, E, A, Q, kc, ns, nL), E', own, cc, R', nL' => p.tables.exec = Jvm.exec ∧ c.code = cc ∧ c.maxLocals = nL ∧ s.vm.findClass own = some m.cls ∧ (∀ w ∈ rhT, w.before args s = true) ∧ rhK E s ∧ (∀ q, s.heap.size ≤ q → A q) ∧ (∀ q, A q → E.2.2.1 ≤ q) ∧ meth.locks = false ∧ (kc ≤ R.cells ∧ ns ≤ R.slots) ∧ R = R' ∧ nL = nL' ∧ E = E'
/-- what a method's end gives: the answer, and the cells at their addresses -/
def rhQ (E : rhE) (ws : va_W) (sz : Nat) (Post : Option Value → va_W → Prop) : Array Value → State → Outcome → State → Prop := fun _ st oc t => (∃ (r : Option Value) (w : va_W), oc = .returned r ∧ Post r w ∧ w.map Prod.fst = ws.map Prod.fst ∧ va_P E.1 vwCl w t.heap) ∧ va_F (va_A ws sz) st t
/-- how the method ends: its type, what is owed -/
def Rt : rhX → Option FieldType → va_W → (Option Value → va_W → Prop) → Prop
  | (p, l, e, R, s, m, args, below, meth, c, E, A, Q, kc, ns, nL), ret, ws, Post => meth.sig.returnType = ret ∧ A = va_A ws s.heap.size ∧ Q = MQ below (rhQ E ws s.heap.size Post) args s kc ns (va_A ws s.heap.size)
/-- a contract: from any heap that holds ws, the method returns; 'Post answer cells' -/
def Ctr (l : Launch) (E : rhE) (y : MethodName) (cc : ByteArray) (nL : Nat) (ret : Option FieldType) (rm : Room) (vargs : List Value) (ws : va_W) (Post : Option Value → va_W → Prop) : Prop :=
  ∀ sz : Nat, Met l y (Cond.code y cc nL ret :: rhT) rm (va_Pc vargs (fun U => U.heap.size = sz ∧ va_P E.1 vwCl ws U.heap ∧ rhK E U ∧ va_D (fun q => E.2.2.1 ≤ q) ws)) (rhQ E ws sz Post) rm.cells rm.slots (va_A ws sz)
def rhArgs : List Value → List (Option Value)
  | [] => []
  | v :: vs => if v.category = 2 then some v :: none :: rhArgs vs else some v :: rhArgs vs
theorem rhArgs_in : ∀ (vs : List Value) (b i : Nat) (v : Value), (rhArgs vs)[i]? = some (some v) → (b + i, v) ∈ lv_args b vs
  | [], _, _, _, h => by simp [rhArgs] at h
  | w :: vs, b, i, v, h => by
    unfold rhArgs at h
    unfold lv_args
    by_cases hc : w.category = 2
    · rw [if_pos hc] at h
      rw [if_pos hc]
      match i, h with
      | 0, h => simp at h; subst h; exact List.mem_cons_self
      | 1, h => simp at h
      | i + 2, h =>
        simp at h
        have h2 := rhArgs_in vs (b + 2) i v h
        rw [show b + (i + 2) = b + 2 + i by omega]
        exact List.mem_cons_of_mem _ h2
    · rw [if_neg hc] at h
      rw [if_neg hc]
      match i, h with
      | 0, h => simp at h; subst h; exact List.mem_cons_self
      | i + 1, h =>
        simp at h
        have h2 := rhArgs_in vs (b + 1) i v h
        rw [show b + (i + 1) = b + 1 + i by omega]
        exact List.mem_cons_of_mem _ h2
theorem rhPad {l : List (Option Value)} {n i : Nat} {v : Value} (h : (l ++ List.replicate n none)[i]? = some (some v)) : l[i]? = some (some v) := by
  by_cases hi : i < l.length
  · rwa [List.getElem?_append_left hi] at h
  · rw [List.getElem?_append_right (by omega), List.getElem?_replicate] at h
    split at h <;> simp at h
/-- a contract out of the walk of the body -/
theorem Ctr.of {l : Launch} {E : rhE} {y : MethodName} {cc : ByteArray} {nL : Nat} {ret : Option FieldType} {rm : Room} {vargs : List Value} {ws : va_W} {Post : Option Value → va_W → Prop} (hy : plainName y.cls = true) (hn : (lg_sl vargs).length ≤ nL) (hc : rm.cells = 0) (hs : rm.slots = 0) (pad : Nat)
    (body : ∀ X : rhX, Ok X E y.cls cc rm nL → Rt X ret ws Post → G X 0 (rhArgs vargs ++ List.replicate pad none) [] ws) : Ctr l E y cc nL ret rm vargs ws Post := by
  intro sz
  refine Met.ofW (cc := cc) (maxL := nL) (ret := ret) hy rfl ?_
  intro p e s m args below meth c s₁ B hml hv
  obtain ⟨rfl, hsz, hP, hK, hD0⟩ := hv
  have hts := atoms_spec (ws := Cond.code y cc nL ret :: rhT) B.pre
  have hown : s.vm.findClass y.cls = some m.cls := findClass_of_methodNamed B.named
  subst hsz
  have hl := lv_entry vargs (n := nL) hn
  rw [lg_entry_eq]
  generalize (lg_sl vargs ++ List.replicate (nL - (lg_sl vargs).length) Slot.unset).toArray = ls at hl ⊢
  have hA2 : ∀ q, va_A ws s.heap.size q → E.2.2.1 ≤ q := by
    intro q hq
    rcases hq with ⟨k, e0, h⟩ | h
    · exact hD0.2 k _ h
    · exact Nat.le_trans hK.2.2.2.2.1 h
  have hX : Ok (p, l, e, rm, s, m, vargs.toArray, below, meth, c, E, va_A ws s.heap.size, MQ below (rhQ E ws s.heap.size Post) vargs.toArray s 0 0 (va_A ws s.heap.size), 0, 0, nL) E y.cls cc rm nL :=
    ⟨B.exec, B.bytes, hml, hown, fun w hw => hts w (List.mem_cons_of_mem _ hw), hK, fun q h => Or.inr h, hA2, B.notSynchronized, ⟨Nat.zero_le _, Nat.zero_le _⟩, rfl, rfl, rfl⟩
  have hR : Rt (p, l, e, rm, s, m, vargs.toArray, below, meth, c, E, va_A ws s.heap.size, MQ below (rhQ E ws s.heap.size Post) vargs.toArray s 0 0 (va_A ws s.heap.size), 0, 0, nL) ret ws Post := ⟨B.returns, rfl, rfl⟩
  have hG := body _ hX hR
  rw [hc, hs]
  exact hG s.heap [] ls hP hD0.self va_S.rf ⟨hl.1, hl.2.1, fun i v h => hl.2.2 (i, v) (by have := rhArgs_in vargs 0 i v (rhPad h); rwa [Nat.zero_add] at this)⟩
