/-! ===== the walk: R says that the machine goes on well from here ===== -/
def aRm (r mc ms : Nat) : Room := { frames := r, cells := mc, slots := ms, locals := 40 * r }
def a_C (p : Program) (l : Launch) (s : State) (m : MethodId) (args : Array Value) (meth : Method) (c : Code) (T : aMt) : Prop :=
  p.tables.exec = Jvm.exec ∧ c.code = T.2.1 ∧ c.maxLocals = T.2.2.1 ∧ s.vm.findClass T.1.cls = some m.cls ∧ (∀ w ∈ aT, w.before args s = true) ∧ meth.sig.returnType = T.2.2.2 ∧ meth.locks = false ∧ meth.name = T.1.name ∧ (∀ x ∈ c.exceptionTable.toList, False) ∧ l.stackTraces = false
theorem a_C.fix {p : Program} {l : Launch} {s : State} {m : MethodId} {args : Array Value} {meth : Method} {c : Code} {T : aMt} (C : a_C p l s m args meth c T) : CallFix p m c T.2.1 T.2.2.1 s args aT T.1.cls := ⟨C.1, C.2.1, C.2.2.1, C.2.2.2.1, C.2.2.2.2.1⟩
def a_lv (o : Nat) (x0 : Nat → Nat) (nL : Nat) (lv : List (Option Value)) (ls : Array Slot) : Prop := ls.size = nL ∧ lv_wf ls ∧ ∀ (i : Nat) (v : Value), lv[i]? = some (some v) → ls[i]? = some (.val (a_v o x0 v))
/-- a list of locals as the kit has it -/
def a_al (o : Nat) (x0 : Nat → Nat) (lv : List (Option Value)) : List (Nat × Value) := (List.range lv.length).filterMap fun i => match lv[i]? with
  | some (some v) => some (i, a_v o x0 v)
  | _ => none
theorem a_al_mem {o : Nat} {x0 : Nat → Nat} {lv : List (Option Value)} {q : Nat × Value} : q ∈ a_al o x0 lv ↔ ∃ v, lv[q.1]? = some (some v) ∧ q.2 = a_v o x0 v := by
  unfold a_al
  rw [List.mem_filterMap]
  constructor
  · rintro ⟨i, h1, h2⟩
    split at h2
    · rename_i v hv
      cases h2
      exact ⟨v, hv, rfl⟩
    · cases h2
  · rintro ⟨v, h1, h2⟩
    refine ⟨q.1, List.mem_range.mpr (List.getElem?_eq_some_iff.mp h1).1, ?_⟩
    rw [h1]
    show some (q.1, a_v o x0 v) = some q
    rw [← h2]
theorem a_lv.has {o nL : Nat} {x0 : Nat → Nat} {lv : List (Option Value)} {ls : Array Slot} (h : a_lv o x0 nL lv ls) : lv_has ls nL (a_al o x0 lv) := by
  refine ⟨h.1, h.2.1, fun q hq => ?_⟩
  obtain ⟨v, h1, h2⟩ := a_al_mem.mp hq
  rw [h2]
  exact h.2.2 q.1 v h1
/-- what a store of one slot at i leaves -/
def a_s1 (i : Nat) (v : Value) (lv lv' : List (Option Value)) : Prop := ∀ (j : Nat) (u : Value), lv'[j]? = some (some u) → (j = i ∧ u = v) ∨ (j ≠ i ∧ lv[j]? = some (some u) ∧ ¬ (j + 1 = i ∧ u.category = 2))
def a_s2 (i : Nat) (v : Value) (lv lv' : List (Option Value)) : Prop := ∀ (j : Nat) (u : Value), lv'[j]? = some (some u) → (j = i ∧ u = v) ∨ (j ≠ i ∧ j ≠ i + 1 ∧ lv[j]? = some (some u) ∧ ¬ (j + 1 = i ∧ u.category = 2))
theorem a_lv.st1 {o nL i : Nat} {x0 : Nat → Nat} {v : Value} {lv lv' : List (Option Value)} {ls : Array Slot} (hs : a_s1 i v lv lv') (h : lv_has ls nL ((i, a_v o x0 v) :: (a_al o x0 lv).filter (fun q => !(q.1 == i) && !(q.1 + 1 == i && q.2.category == 2)))) : a_lv o x0 nL lv' ls := by
  refine ⟨h.1, h.2.1, fun j u hu => ?_⟩
  rcases hs j u hu with ⟨rfl, rfl⟩ | ⟨h1, h2, h3⟩
  · exact h.2.2 (j, a_v o x0 u) List.mem_cons_self
  · refine h.2.2 (j, a_v o x0 u) (List.mem_cons_of_mem _ (List.mem_filter.mpr ⟨a_al_mem.mpr ⟨u, h2, rfl⟩, ?_⟩))
    simp only [a_v_cat, Bool.and_eq_true, Bool.not_eq_true', beq_eq_false_iff_ne, ne_eq, Bool.and_eq_false_iff]
    refine ⟨h1, ?_⟩
    by_cases q : j + 1 = i
    · exact Or.inr fun z => h3 ⟨q, z⟩
    · exact Or.inl q
theorem a_lv.st2 {o nL i : Nat} {x0 : Nat → Nat} {v : Value} {lv lv' : List (Option Value)} {ls : Array Slot} (hs : a_s2 i v lv lv') (h : lv_has ls nL ((i, a_v o x0 v) :: (a_al o x0 lv).filter (fun q => !(q.1 == i) && (!(q.1 == i + 1) && !(q.1 + 1 == i && q.2.category == 2))))) : a_lv o x0 nL lv' ls := by
  refine ⟨h.1, h.2.1, fun j u hu => ?_⟩
  rcases hs j u hu with ⟨rfl, rfl⟩ | ⟨h1, h1', h2, h3⟩
  · exact h.2.2 (j, a_v o x0 u) List.mem_cons_self
  · refine h.2.2 (j, a_v o x0 u) (List.mem_cons_of_mem _ (List.mem_filter.mpr ⟨a_al_mem.mpr ⟨u, h2, rfl⟩, ?_⟩))
    simp only [a_v_cat, Bool.and_eq_true, Bool.not_eq_true', beq_eq_false_iff_ne, ne_eq, Bool.and_eq_false_iff]
    refine ⟨h1, h1', ?_⟩
    by_cases q : j + 1 = i
    · exact Or.inr fun z => h3 ⟨q, z⟩
    · exact Or.inl q
def a_post (o : Nat) (x0 : Nat → Nat) (cA : Nat → ClassId) (D : va_G) (Q : Option Value → aS → aV → Prop) : Array Value → State → Outcome → State → Prop := fun _ st oc t => (∃ (v : Option Value) (S' : aS) (V' : aV), oc = .returned (v.map (a_v o x0)) ∧ Q v S' V' ∧ a_B1 o x0 cA D S' V' t) ∧ va_F (fun q => o ≤ q) st t
def a_xc (o : Nat) (x0 : Nat → Nat) (cA : Nat → ClassId) (D : va_G) (QX : String → aS → aV → Prop) : String → State → State → Prop := fun E st t => (∃ (S' : aS) (V' : aV), QX E S' V' ∧ a_B1 o x0 cA D S' V' t) ∧ va_F (fun q => o ≤ q) st t
def R (T : aMt) (r mc ms : Nat) (Q : Option Value → aS → aV → Prop) (QX : String → aS → aV → Prop) (kc ks pc : Nat) (lv : List (Option Value)) (st : List Value) (S : aS) (V : aV) : Prop :=
  ∀ (p : Program) (l : Launch) (e : Env) (s : State) (m : MethodId) (args : Array Value) (below : List Frame) (meth : Method) (c : Code) (H : Heap) (locs : List Loc) (cells slots : Nat) (D : va_G) (cA : Nat → ClassId) (o : Nat) (x0 : Nat → Nat) (ls : Array Slot),
    a_C p l s m args meth c T → a_K o x0 cA D s → a_lv o x0 T.2.2.1 lv ls → a_P o x0 cA D S V H → a_Z o S H → va_S (fun q => o ≤ q) s.heap H locs → o ≤ s.heap.size → cells + kc ≤ mc → slots + ks ≤ ms →
    W p l e (aRm r mc ms) s m args below meth c H locs cells slots (vx_MQ below (a_post o x0 cA D Q) (a_xc o x0 cA D QX) args s mc ms (fun q => o ≤ q)) (F0 m pc ls (st.map (a_v o x0)))
/-- a method's contract over the memory -/
def CT (T : aMt) (r mc ms : Nat) (As : List Value) (S : aS) (V : aV) (Q : Option Value → aS → aV → Prop) (QX : String → aS → aV → Prop) : Prop :=
  ∀ (l : Launch), l.stackTraces = false → ∀ (o : Nat) (x0 : Nat → Nat) (cA : Nat → ClassId) (D : va_G), vx_Met l T.1 (.code T.1 T.2.1 T.2.2.1 T.2.2.2 :: aT) (aRm r mc ms) (va_Pc (As.map (a_v o x0)) (a_B o x0 cA D S V)) (a_post o x0 cA D Q) (a_xc o x0 cA D QX) mc ms (fun q => o ≤ q)
def a_in0 : List Value → List (Option Value)
  | [] => []
  | v :: vs => if v.category = 2 then some v :: none :: a_in0 vs else some v :: a_in0 vs
theorem a_in0_args (o : Nat) (x0 : Nat → Nat) : ∀ (As : List Value) (k i : Nat) (v : Value), (a_in0 As)[i]? = some (some v) → (k + i, a_v o x0 v) ∈ lv_args k (As.map (a_v o x0)) := by
  intro As
  induction As with
  | nil => intro k i v h; simp [a_in0] at h
  | cons a As ih =>
    intro k i v h
    simp only [List.map_cons, lv_args, a_v_cat]
    by_cases hc : a.category = 2
    · simp only [a_in0, hc, if_true] at h
      rw [if_pos hc]
      match i, h with
      | 0, h => cases h; exact List.mem_cons_self
      | 1, h => cases h
      | i + 2, h =>
        have := ih (k + 2) i v h
        rw [show k + (i + 2) = k + 2 + i by omega]
        exact List.mem_cons_of_mem _ this
    · simp only [a_in0, hc, if_false] at h
      rw [if_neg hc]
      match i, h with
      | 0, h => cases h; exact List.mem_cons_self
      | i + 1, h =>
        have := ih (k + 1) i v h
        rw [show k + (i + 1) = k + 1 + i by omega]
        exact List.mem_cons_of_mem _ this
theorem a_in0_len (o : Nat) (x0 : Nat → Nat) : ∀ (As : List Value), (lg_sl (As.map (a_v o x0))).length = (a_in0 As).length := by
  intro As
  induction As with
  | nil => rfl
  | cons a As ih =>
    simp only [List.map_cons, lg_sl, List.flatMap_cons, a_v_cat, List.length_append] at ih ⊢
    by_cases hc : a.category = 2
    · simp only [a_in0, hc, if_true, List.length_cons, List.length_nil]
      omega
    · simp only [a_in0, hc, if_false, List.length_cons, List.length_nil]
      omega
def a_in (nL : Nat) (As : List Value) : List (Option Value) := a_in0 As ++ List.replicate (nL - (a_in0 As).length) none
theorem a_lv.entry {o nL : Nat} {x0 : Nat → Nat} {As : List Value} (h : (a_in0 As).length ≤ nL) : a_lv o x0 nL (a_in nL As) ((lg_sl (As.map (a_v o x0)) ++ List.replicate (nL - (lg_sl (As.map (a_v o x0))).length) Slot.unset).toArray) := by
  obtain ⟨h1, h2, h3⟩ := lv_entry (As.map (a_v o x0)) (n := nL) (by rw [a_in0_len]; exact h)
  refine ⟨h1, h2, fun i v hi => ?_⟩
  have hi' : (a_in0 As)[i]? = some (some v) := by
    unfold a_in at hi
    by_cases hl : i < (a_in0 As).length
    · rwa [List.getElem?_append_left hl] at hi
    · rw [List.getElem?_append_right (by omega)] at hi
      have := List.mem_of_getElem? hi
      have := List.eq_of_mem_replicate this
      cases this
  have := a_in0_args o x0 As 0 i v hi'
  rw [Nat.zero_add] at this
  exact h3 _ this
theorem CT_of {T : aMt} {r mc ms : Nat} {As : List Value} {S : aS} {V : aV} {Q : Option Value → aS → aV → Prop} {QX : String → aS → aV → Prop} (hy : plainName T.1.cls = true) (hlen : (a_in0 As).length ≤ T.2.2.1) (h : R T r mc ms Q QX mc ms 0 (a_in T.2.2.1 As) [] S V) : CT T r mc ms As S V Q QX := by
  intro l hl o x0 cA D
  refine vx_ofW (cc := T.2.1) (maxL := T.2.2.1) (ret := T.2.2.2) hy rfl ?_
  intro p e s m args below meth c s₁ B hml ht hv
  obtain ⟨rfl, ho, hP, hz, hK⟩ := hv
  have hts := atoms_spec (ws := .code T.1 T.2.1 T.2.2.1 T.2.2.2 :: aT) B.pre
  rw [lg_entry_eq]
  exact h p l e s m _ below meth c s.heap [] 0 0 D cA o x0 _ ⟨B.exec, B.bytes, hml, findClass_of_methodNamed B.named, fun w hw => hts w (List.mem_cons_of_mem _ hw), B.returns, B.notSynchronized, (name_of_methodNamed B.named B.method).1, ht, hl⟩ hK (a_lv.entry hlen) hP hz va_S.rf ho (Nat.le_of_eq (Nat.zero_add _)) (Nat.le_of_eq (Nat.zero_add _))
section AROWS
variable {T : aMt} {r mc ms : Nat} {Q : Option Value → aS → aV → Prop} {QX : String → aS → aV → Prop} {kc ks pc : Nat} {lv lv' : List (Option Value)} {st : List Value} {S : aS} {V : aV}
theorem R_iadd {x y : Int32} (d : decode T.2.1 pc = .ok (.iadd, 1))  (k : R T r mc ms Q QX kc ks (pc + 1) (lv) (.int (x + y) :: st) S V) : R T r mc ms Q QX kc ks (pc) (lv) (.int y :: .int x :: st) S V :=
  fun p l e s m args below meth c H locs cells slots D cA o x0 ls C K hl hP hz hS ho h1 h2 => lv_iadd C.1 C.2.1 d  (k p l e s m args below meth c H locs cells slots D cA o x0 ls C K hl hP hz hS ho h1 h2)
theorem R_isub {x y : Int32} (d : decode T.2.1 pc = .ok (.isub, 1))  (k : R T r mc ms Q QX kc ks (pc + 1) (lv) (.int (x - y) :: st) S V) : R T r mc ms Q QX kc ks (pc) (lv) (.int y :: .int x :: st) S V :=
  fun p l e s m args below meth c H locs cells slots D cA o x0 ls C K hl hP hz hS ho h1 h2 => lv_isub C.1 C.2.1 d  (k p l e s m args below meth c H locs cells slots D cA o x0 ls C K hl hP hz hS ho h1 h2)
theorem R_imul {x y : Int32} (d : decode T.2.1 pc = .ok (.imul, 1))  (k : R T r mc ms Q QX kc ks (pc + 1) (lv) (.int (x * y) :: st) S V) : R T r mc ms Q QX kc ks (pc) (lv) (.int y :: .int x :: st) S V :=
  fun p l e s m args below meth c H locs cells slots D cA o x0 ls C K hl hP hz hS ho h1 h2 => lv_imul C.1 C.2.1 d  (k p l e s m args below meth c H locs cells slots D cA o x0 ls C K hl hP hz hS ho h1 h2)
theorem R_iand {x y : Int32} (d : decode T.2.1 pc = .ok (.iand, 1))  (k : R T r mc ms Q QX kc ks (pc + 1) (lv) (.int (x &&& y) :: st) S V) : R T r mc ms Q QX kc ks (pc) (lv) (.int y :: .int x :: st) S V :=
  fun p l e s m args below meth c H locs cells slots D cA o x0 ls C K hl hP hz hS ho h1 h2 => lv_iand C.1 C.2.1 d  (k p l e s m args below meth c H locs cells slots D cA o x0 ls C K hl hP hz hS ho h1 h2)
theorem R_ior {x y : Int32} (d : decode T.2.1 pc = .ok (.ior, 1))  (k : R T r mc ms Q QX kc ks (pc + 1) (lv) (.int (x ||| y) :: st) S V) : R T r mc ms Q QX kc ks (pc) (lv) (.int y :: .int x :: st) S V :=
  fun p l e s m args below meth c H locs cells slots D cA o x0 ls C K hl hP hz hS ho h1 h2 => lv_ior C.1 C.2.1 d  (k p l e s m args below meth c H locs cells slots D cA o x0 ls C K hl hP hz hS ho h1 h2)
theorem R_ixor {x y : Int32} (d : decode T.2.1 pc = .ok (.ixor, 1))  (k : R T r mc ms Q QX kc ks (pc + 1) (lv) (.int (x ^^^ y) :: st) S V) : R T r mc ms Q QX kc ks (pc) (lv) (.int y :: .int x :: st) S V :=
  fun p l e s m args below meth c H locs cells slots D cA o x0 ls C K hl hP hz hS ho h1 h2 => lv_ixor C.1 C.2.1 d  (k p l e s m args below meth c H locs cells slots D cA o x0 ls C K hl hP hz hS ho h1 h2)
theorem R_ishl {x y : Int32} (d : decode T.2.1 pc = .ok (.ishl, 1))  (k : R T r mc ms Q QX kc ks (pc + 1) (lv) (.int (x <<< (y &&& 31)) :: st) S V) : R T r mc ms Q QX kc ks (pc) (lv) (.int y :: .int x :: st) S V :=
  fun p l e s m args below meth c H locs cells slots D cA o x0 ls C K hl hP hz hS ho h1 h2 => lv_ishl C.1 C.2.1 d  (k p l e s m args below meth c H locs cells slots D cA o x0 ls C K hl hP hz hS ho h1 h2)
theorem R_ishr {x y : Int32} (d : decode T.2.1 pc = .ok (.ishr, 1))  (k : R T r mc ms Q QX kc ks (pc + 1) (lv) (.int (x >>> (y &&& 31)) :: st) S V) : R T r mc ms Q QX kc ks (pc) (lv) (.int y :: .int x :: st) S V :=
  fun p l e s m args below meth c H locs cells slots D cA o x0 ls C K hl hP hz hS ho h1 h2 => lv_ishr C.1 C.2.1 d  (k p l e s m args below meth c H locs cells slots D cA o x0 ls C K hl hP hz hS ho h1 h2)
theorem R_idiv {x y : Int32} (d : decode T.2.1 pc = .ok (.idiv, 1)) (hne : ¬ y = 0) (k : R T r mc ms Q QX kc ks (pc + 1) (lv) (.int (x / y) :: st) S V) : R T r mc ms Q QX kc ks (pc) (lv) (.int y :: .int x :: st) S V :=
  fun p l e s m args below meth c H locs cells slots D cA o x0 ls C K hl hP hz hS ho h1 h2 => lv_idiv C.1 C.2.1 d hne (k p l e s m args below meth c H locs cells slots D cA o x0 ls C K hl hP hz hS ho h1 h2)
theorem R_irem {x y : Int32} (d : decode T.2.1 pc = .ok (.irem, 1)) (hne : ¬ y = 0) (k : R T r mc ms Q QX kc ks (pc + 1) (lv) (.int (x - x / y * y) :: st) S V) : R T r mc ms Q QX kc ks (pc) (lv) (.int y :: .int x :: st) S V :=
  fun p l e s m args below meth c H locs cells slots D cA o x0 ls C K hl hP hz hS ho h1 h2 => lv_irem C.1 C.2.1 d hne (k p l e s m args below meth c H locs cells slots D cA o x0 ls C K hl hP hz hS ho h1 h2)
theorem R_ladd {x y : Int64} (d : decode T.2.1 pc = .ok (.ladd, 1))  (k : R T r mc ms Q QX kc ks (pc + 1) (lv) (.long (x + y) :: st) S V) : R T r mc ms Q QX kc ks (pc) (lv) (.long y :: .long x :: st) S V :=
  fun p l e s m args below meth c H locs cells slots D cA o x0 ls C K hl hP hz hS ho h1 h2 => lv_ladd C.1 C.2.1 d  (k p l e s m args below meth c H locs cells slots D cA o x0 ls C K hl hP hz hS ho h1 h2)
theorem R_lmul {x y : Int64} (d : decode T.2.1 pc = .ok (.lmul, 1))  (k : R T r mc ms Q QX kc ks (pc + 1) (lv) (.long (x * y) :: st) S V) : R T r mc ms Q QX kc ks (pc) (lv) (.long y :: .long x :: st) S V :=
  fun p l e s m args below meth c H locs cells slots D cA o x0 ls C K hl hP hz hS ho h1 h2 => lv_lmul C.1 C.2.1 d  (k p l e s m args below meth c H locs cells slots D cA o x0 ls C K hl hP hz hS ho h1 h2)
theorem R_land {x y : Int64} (d : decode T.2.1 pc = .ok (.land, 1))  (k : R T r mc ms Q QX kc ks (pc + 1) (lv) (.long (x &&& y) :: st) S V) : R T r mc ms Q QX kc ks (pc) (lv) (.long y :: .long x :: st) S V :=
  fun p l e s m args below meth c H locs cells slots D cA o x0 ls C K hl hP hz hS ho h1 h2 => lv_land C.1 C.2.1 d  (k p l e s m args below meth c H locs cells slots D cA o x0 ls C K hl hP hz hS ho h1 h2)
theorem R_lor {x y : Int64} (d : decode T.2.1 pc = .ok (.lor, 1))  (k : R T r mc ms Q QX kc ks (pc + 1) (lv) (.long (x ||| y) :: st) S V) : R T r mc ms Q QX kc ks (pc) (lv) (.long y :: .long x :: st) S V :=
  fun p l e s m args below meth c H locs cells slots D cA o x0 ls C K hl hP hz hS ho h1 h2 => lv_lor C.1 C.2.1 d  (k p l e s m args below meth c H locs cells slots D cA o x0 ls C K hl hP hz hS ho h1 h2)
theorem R_lshl {x : Int64} {y : Int32} (d : decode T.2.1 pc = .ok (.lshl, 1))  (k : R T r mc ms Q QX kc ks (pc + 1) (lv) (.long (x <<< (y.toInt64 &&& 63)) :: st) S V) : R T r mc ms Q QX kc ks (pc) (lv) (.int y :: .long x :: st) S V :=
  fun p l e s m args below meth c H locs cells slots D cA o x0 ls C K hl hP hz hS ho h1 h2 => lv_lshl C.1 C.2.1 d rfl (k p l e s m args below meth c H locs cells slots D cA o x0 ls C K hl hP hz hS ho h1 h2)
theorem R_lushr {x : Int64} {y : Int32} (d : decode T.2.1 pc = .ok (.lushr, 1))  (k : R T r mc ms Q QX kc ks (pc + 1) (lv) (.long ((x.toUInt64 >>> (y.toInt64.toUInt64 &&& Int64.toUInt64 63)).toInt64) :: st) S V) : R T r mc ms Q QX kc ks (pc) (lv) (.int y :: .long x :: st) S V :=
  fun p l e s m args below meth c H locs cells slots D cA o x0 ls C K hl hP hz hS ho h1 h2 => lv_lushr C.1 C.2.1 d rfl (k p l e s m args below meth c H locs cells slots D cA o x0 ls C K hl hP hz hS ho h1 h2)
theorem R_i2l {x : Int32} (d : decode T.2.1 pc = .ok (.i2l, 1))  (k : R T r mc ms Q QX kc ks (pc + 1) (lv) (.long x.toInt64 :: st) S V) : R T r mc ms Q QX kc ks (pc) (lv) (.int x :: st) S V :=
  fun p l e s m args below meth c H locs cells slots D cA o x0 ls C K hl hP hz hS ho h1 h2 => lv_i2l C.1 C.2.1 d rfl (k p l e s m args below meth c H locs cells slots D cA o x0 ls C K hl hP hz hS ho h1 h2)
theorem R_l2i {x : Int64} (d : decode T.2.1 pc = .ok (.l2i, 1))  (k : R T r mc ms Q QX kc ks (pc + 1) (lv) (.int x.toInt32 :: st) S V) : R T r mc ms Q QX kc ks (pc) (lv) (.long x :: st) S V :=
  fun p l e s m args below meth c H locs cells slots D cA o x0 ls C K hl hP hz hS ho h1 h2 => lv_l2i C.1 C.2.1 d rfl (k p l e s m args below meth c H locs cells slots D cA o x0 ls C K hl hP hz hS ho h1 h2)
theorem R_i2c {x : Int32} (d : decode T.2.1 pc = .ok (.i2c, 1))  (k : R T r mc ms Q QX kc ks (pc + 1) (lv) (.int (x.toUInt32 % 65536).toInt32 :: st) S V) : R T r mc ms Q QX kc ks (pc) (lv) (.int x :: st) S V :=
  fun p l e s m args below meth c H locs cells slots D cA o x0 ls C K hl hP hz hS ho h1 h2 => lv_i2c C.1 C.2.1 d rfl (k p l e s m args below meth c H locs cells slots D cA o x0 ls C K hl hP hz hS ho h1 h2)
theorem R_i2f {x : Int32} (d : decode T.2.1 pc = .ok (.i2f, 1))  (k : R T r mc ms Q QX kc ks (pc + 1) (lv) (.float (FP.i2f x) :: st) S V) : R T r mc ms Q QX kc ks (pc) (lv) (.int x :: st) S V :=
  fun p l e s m args below meth c H locs cells slots D cA o x0 ls C K hl hP hz hS ho h1 h2 => lv_i2f C.1 C.2.1 d  (k p l e s m args below meth c H locs cells slots D cA o x0 ls C K hl hP hz hS ho h1 h2)
theorem R_f2i {x : UInt32} (d : decode T.2.1 pc = .ok (.f2i, 1))  (k : R T r mc ms Q QX kc ks (pc + 1) (lv) (.int (FP.f2i x) :: st) S V) : R T r mc ms Q QX kc ks (pc) (lv) (.float x :: st) S V :=
  fun p l e s m args below meth c H locs cells slots D cA o x0 ls C K hl hP hz hS ho h1 h2 => lv_f2i C.1 C.2.1 d  (k p l e s m args below meth c H locs cells slots D cA o x0 ls C K hl hP hz hS ho h1 h2)
theorem R_fadd {x y : UInt32} (d : decode T.2.1 pc = .ok (.fadd, 1)) (hne : vf_n32 (FP.fadd x y)) (k : R T r mc ms Q QX kc ks (pc + 1) (lv) (.float (FP.fadd x y) :: st) S V) : R T r mc ms Q QX kc ks (pc) (lv) (.float y :: .float x :: st) S V :=
  fun p l e s m args below meth c H locs cells slots D cA o x0 ls C K hl hP hz hS ho h1 h2 => lv_fadd C.1 C.2.1 d hne (k p l e s m args below meth c H locs cells slots D cA o x0 ls C K hl hP hz hS ho h1 h2)
theorem R_fsub {x y : UInt32} (d : decode T.2.1 pc = .ok (.fsub, 1)) (hne : vf_n32 (FP.fsub x y)) (k : R T r mc ms Q QX kc ks (pc + 1) (lv) (.float (FP.fsub x y) :: st) S V) : R T r mc ms Q QX kc ks (pc) (lv) (.float y :: .float x :: st) S V :=
  fun p l e s m args below meth c H locs cells slots D cA o x0 ls C K hl hP hz hS ho h1 h2 => lv_fsub C.1 C.2.1 d hne (k p l e s m args below meth c H locs cells slots D cA o x0 ls C K hl hP hz hS ho h1 h2)
theorem R_fmul {x y : UInt32} (d : decode T.2.1 pc = .ok (.fmul, 1)) (hne : vf_n32 (FP.fmul x y)) (k : R T r mc ms Q QX kc ks (pc + 1) (lv) (.float (FP.fmul x y) :: st) S V) : R T r mc ms Q QX kc ks (pc) (lv) (.float y :: .float x :: st) S V :=
  fun p l e s m args below meth c H locs cells slots D cA o x0 ls C K hl hP hz hS ho h1 h2 => lv_fmul C.1 C.2.1 d hne (k p l e s m args below meth c H locs cells slots D cA o x0 ls C K hl hP hz hS ho h1 h2)
theorem R_fdiv {x y : UInt32} (d : decode T.2.1 pc = .ok (.fdiv, 1)) (hne : vf_n32 (FP.fdiv x y)) (k : R T r mc ms Q QX kc ks (pc + 1) (lv) (.float (FP.fdiv x y) :: st) S V) : R T r mc ms Q QX kc ks (pc) (lv) (.float y :: .float x :: st) S V :=
  fun p l e s m args below meth c H locs cells slots D cA o x0 ls C K hl hP hz hS ho h1 h2 => lv_fdiv C.1 C.2.1 d hne (k p l e s m args below meth c H locs cells slots D cA o x0 ls C K hl hP hz hS ho h1 h2)
theorem R_fcmp {x y : UInt32} {op : CmpOp} (d : decode T.2.1 pc = .ok (.fcmp op, 1))  (k : R T r mc ms Q QX kc ks (pc + 1) (lv) (.int (Op.cmpValue (FP.fcmp x y) op) :: st) S V) : R T r mc ms Q QX kc ks (pc) (lv) (.float y :: .float x :: st) S V :=
  fun p l e s m args below meth c H locs cells slots D cA o x0 ls C K hl hP hz hS ho h1 h2 => lv_fcmp C.1 C.2.1 d  (k p l e s m args below meth c H locs cells slots D cA o x0 ls C K hl hP hz hS ho h1 h2)
theorem R_lcmp {x y : Int64} (d : decode T.2.1 pc = .ok (.lcmp, 1))  (k : R T r mc ms Q QX kc ks (pc + 1) (lv) (.int (lg_cmp x y) :: st) S V) : R T r mc ms Q QX kc ks (pc) (lv) (.long y :: .long x :: st) S V :=
  fun p l e s m args below meth c H locs cells slots D cA o x0 ls C K hl hP hz hS ho h1 h2 => W.lcmp C.1 C.2.1 d  (k p l e s m args below meth c H locs cells slots D cA o x0 ls C K hl hP hz hS ho h1 h2)
theorem R_iconst {n : Int} {v : Int32} (d : decode T.2.1 pc = .ok (.iconst n, 1)) (hv : Int32.ofInt n = v) (k : R T r mc ms Q QX kc ks (pc + 1) (lv) (.int v :: st) S V) : R T r mc ms Q QX kc ks (pc) (lv) (st) S V :=
  fun p l e s m args below meth c H locs cells slots D cA o x0 ls C K hl hP hz hS ho h1 h2 => lv_iconst C.1 C.2.1 d hv (k p l e s m args below meth c H locs cells slots D cA o x0 ls C K hl hP hz hS ho h1 h2)
theorem R_bipush {n : Int} {v : Int32} (d : decode T.2.1 pc = .ok (.bipush n, 2)) (hv : (Int8.ofInt n).toInt32 = v) (k : R T r mc ms Q QX kc ks (pc + 2) (lv) (.int v :: st) S V) : R T r mc ms Q QX kc ks (pc) (lv) (st) S V :=
  fun p l e s m args below meth c H locs cells slots D cA o x0 ls C K hl hP hz hS ho h1 h2 => lv_bipush C.1 C.2.1 d hv (k p l e s m args below meth c H locs cells slots D cA o x0 ls C K hl hP hz hS ho h1 h2)
theorem R_sipush {n : Int} {v : Int32} (d : decode T.2.1 pc = .ok (.sipush n, 3)) (hv : (Int16.ofInt n).toInt32 = v) (k : R T r mc ms Q QX kc ks (pc + 3) (lv) (.int v :: st) S V) : R T r mc ms Q QX kc ks (pc) (lv) (st) S V :=
  fun p l e s m args below meth c H locs cells slots D cA o x0 ls C K hl hP hz hS ho h1 h2 => lv_sipush C.1 C.2.1 d hv (k p l e s m args below meth c H locs cells slots D cA o x0 ls C K hl hP hz hS ho h1 h2)
theorem R_lconst {n : Fin 2} {v : Int64} (d : decode T.2.1 pc = .ok (.lconst n, 1)) (hv : Int64.ofNat (n : Nat) = v) (k : R T r mc ms Q QX kc ks (pc + 1) (lv) (.long v :: st) S V) : R T r mc ms Q QX kc ks (pc) (lv) (st) S V :=
  fun p l e s m args below meth c H locs cells slots D cA o x0 ls C K hl hP hz hS ho h1 h2 => lv_lconst C.1 C.2.1 d hv (k p l e s m args below meth c H locs cells slots D cA o x0 ls C K hl hP hz hS ho h1 h2)
theorem R_fconst0  (d : decode T.2.1 pc = .ok (.fconst 0, 1))  (k : R T r mc ms Q QX kc ks (pc + 1) (lv) (.float 0 :: st) S V) : R T r mc ms Q QX kc ks (pc) (lv) (st) S V :=
  fun p l e s m args below meth c H locs cells slots D cA o x0 ls C K hl hP hz hS ho h1 h2 => lv_fconst0 C.1 C.2.1 d  (k p l e s m args below meth c H locs cells slots D cA o x0 ls C K hl hP hz hS ho h1 h2)
theorem R_fconst1  (d : decode T.2.1 pc = .ok (.fconst 1, 1))  (k : R T r mc ms Q QX kc ks (pc + 1) (lv) (.float 1065353216 :: st) S V) : R T r mc ms Q QX kc ks (pc) (lv) (st) S V :=
  fun p l e s m args below meth c H locs cells slots D cA o x0 ls C K hl hP hz hS ho h1 h2 => lv_fconst1 C.1 C.2.1 d  (k p l e s m args below meth c H locs cells slots D cA o x0 ls C K hl hP hz hS ho h1 h2)
theorem R_fconst2  (d : decode T.2.1 pc = .ok (.fconst 2, 1))  (k : R T r mc ms Q QX kc ks (pc + 1) (lv) (.float 1073741824 :: st) S V) : R T r mc ms Q QX kc ks (pc) (lv) (st) S V :=
  fun p l e s m args below meth c H locs cells slots D cA o x0 ls C K hl hP hz hS ho h1 h2 => lv_fconst2 C.1 C.2.1 d  (k p l e s m args below meth c H locs cells slots D cA o x0 ls C K hl hP hz hS ho h1 h2)
theorem R_ldc {idx : Nat} {v : Int32} (d : decode T.2.1 pc = .ok (.ldc idx, 2)) (hw : Cond.constant T.1.cls idx v ∈ aT) (k : R T r mc ms Q QX kc ks (pc + 2) (lv) (.int v :: st) S V) : R T r mc ms Q QX kc ks (pc) (lv) (st) S V :=
  fun p l e s m args below meth c H locs cells slots D cA o x0 ls C K hl hP hz hS ho h1 h2 => lv_ldc C.1 C.2.1 C.2.2.2.1 (C.2.2.2.2.1 _ hw) d  (k p l e s m args below meth c H locs cells slots D cA o x0 ls C K hl hP hz hS ho h1 h2)
theorem R_ldcf {idx : Nat} {v : UInt32} (d : decode T.2.1 pc = .ok (.ldc idx, 2)) (hw : Cond.constantFloat T.1.cls idx v ∈ aT) (k : R T r mc ms Q QX kc ks (pc + 2) (lv) (.float v :: st) S V) : R T r mc ms Q QX kc ks (pc) (lv) (st) S V :=
  fun p l e s m args below meth c H locs cells slots D cA o x0 ls C K hl hP hz hS ho h1 h2 => lv_ldcf C.1 C.2.1 C.2.2.2.1 (C.2.2.2.2.1 _ hw) d  (k p l e s m args below meth c H locs cells slots D cA o x0 ls C K hl hP hz hS ho h1 h2)
theorem R_ldc2 {idx : Nat} {v : Int64} (d : decode T.2.1 pc = .ok (.ldc2_w idx, 3)) (hw : Cond.constantLong T.1.cls idx v ∈ aT) (k : R T r mc ms Q QX kc ks (pc + 3) (lv) (.long v :: st) S V) : R T r mc ms Q QX kc ks (pc) (lv) (st) S V :=
  fun p l e s m args below meth c H locs cells slots D cA o x0 ls C K hl hP hz hS ho h1 h2 => lv_ldc2 C.1 C.2.1 C.2.2.2.1 (C.2.2.2.2.1 _ hw) d  (k p l e s m args below meth c H locs cells slots D cA o x0 ls C K hl hP hz hS ho h1 h2)
theorem R_dup {v : Value} (d : decode T.2.1 pc = .ok (.dup, 1)) (hv : v.category = 1) (k : R T r mc ms Q QX kc ks (pc + 1) (lv) (v :: v :: st) S V) : R T r mc ms Q QX kc ks (pc) (lv) (v :: st) S V :=
  fun p l e s m args below meth c H locs cells slots D cA o x0 ls C K hl hP hz hS ho h1 h2 => lv_dup C.1 C.2.1 d ((a_v_cat _ _ _).trans hv) (k p l e s m args below meth c H locs cells slots D cA o x0 ls C K hl hP hz hS ho h1 h2)
theorem R_pop {v : Value} (d : decode T.2.1 pc = .ok (.pop, 1)) (hv : v.category = 1) (k : R T r mc ms Q QX kc ks (pc + 1) (lv) (st) S V) : R T r mc ms Q QX kc ks (pc) (lv) (v :: st) S V :=
  fun p l e s m args below meth c H locs cells slots D cA o x0 ls C K hl hP hz hS ho h1 h2 => lv_pop C.1 C.2.1 d ((a_v_cat _ _ _).trans hv) (k p l e s m args below meth c H locs cells slots D cA o x0 ls C K hl hP hz hS ho h1 h2)
theorem R_dup2_11 {v u : Value} (d : decode T.2.1 pc = .ok (.dup2, 1)) (hv : v.category = 1) (hu : u.category = 1) (k : R T r mc ms Q QX kc ks (pc + 1) (lv) (v :: u :: v :: u :: st) S V) : R T r mc ms Q QX kc ks (pc) (lv) (v :: u :: st) S V :=
  fun p l e s m args below meth c H locs cells slots D cA o x0 ls C K hl hP hz hS ho h1 h2 => lv_dup2_11 C.1 C.2.1 d ((a_v_cat _ _ _).trans hv) ((a_v_cat _ _ _).trans hu) (k p l e s m args below meth c H locs cells slots D cA o x0 ls C K hl hP hz hS ho h1 h2)
theorem R_dup2_2 {v : Value} (d : decode T.2.1 pc = .ok (.dup2, 1)) (hv : v.category = 2) (k : R T r mc ms Q QX kc ks (pc + 1) (lv) (v :: v :: st) S V) : R T r mc ms Q QX kc ks (pc) (lv) (v :: st) S V :=
  fun p l e s m args below meth c H locs cells slots D cA o x0 ls C K hl hP hz hS ho h1 h2 => lv_dup2_2 C.1 C.2.1 d ((a_v_cat _ _ _).trans hv) (k p l e s m args below meth c H locs cells slots D cA o x0 ls C K hl hP hz hS ho h1 h2)
theorem R_goto {off : Int} (tgt : Nat) (d : decode T.2.1 pc = .ok (.goto off, 3)) (ht : (pc : Int) + off = (tgt : Int)) (k : R T r mc ms Q QX kc ks (tgt) (lv) (st) S V) : R T r mc ms Q QX kc ks (pc) (lv) (st) S V :=
  fun p l e s m args below meth c H locs cells slots D cA o x0 ls C K hl hP hz hS ho h1 h2 => lv_goto C.1 C.2.1 d ht (k p l e s m args below meth c H locs cells slots D cA o x0 ls C K hl hP hz hS ho h1 h2)
theorem R_if_eq {x : Int32} {off : Int} (tgt : Nat) (d : decode T.2.1 pc = .ok (.ifCond .eq off, 3)) (ht : (pc : Int) + off = (tgt : Int)) (k1 : x = 0 → R T r mc ms Q QX kc ks (tgt) (lv) (st) S V) (k2 : ¬ (x = 0) → R T r mc ms Q QX kc ks (pc + 3) (lv) (st) S V) : R T r mc ms Q QX kc ks (pc) (lv) (.int x :: st) S V :=
  fun p l e s m args below meth c H locs cells slots D cA o x0 ls C K hl hP hz hS ho h1 h2 => lv_if_eq C.1 C.2.1 d ht (fun q => k1 q p l e s m args below meth c H locs cells slots D cA o x0 ls C K hl hP hz hS ho h1 h2) (fun q => k2 q p l e s m args below meth c H locs cells slots D cA o x0 ls C K hl hP hz hS ho h1 h2)
theorem R_if_ne {x : Int32} {off : Int} (tgt : Nat) (d : decode T.2.1 pc = .ok (.ifCond .ne off, 3)) (ht : (pc : Int) + off = (tgt : Int)) (k1 : ¬ x = 0 → R T r mc ms Q QX kc ks (tgt) (lv) (st) S V) (k2 : x = 0 → R T r mc ms Q QX kc ks (pc + 3) (lv) (st) S V) : R T r mc ms Q QX kc ks (pc) (lv) (.int x :: st) S V :=
  fun p l e s m args below meth c H locs cells slots D cA o x0 ls C K hl hP hz hS ho h1 h2 => lv_if_ne C.1 C.2.1 d ht (fun q => k1 q p l e s m args below meth c H locs cells slots D cA o x0 ls C K hl hP hz hS ho h1 h2) (fun q => k2 q p l e s m args below meth c H locs cells slots D cA o x0 ls C K hl hP hz hS ho h1 h2)
theorem R_if_lt {x : Int32} {off : Int} (tgt : Nat) (d : decode T.2.1 pc = .ok (.ifCond .lt off, 3)) (ht : (pc : Int) + off = (tgt : Int)) (k1 : x < 0 → R T r mc ms Q QX kc ks (tgt) (lv) (st) S V) (k2 : ¬ (x < 0) → R T r mc ms Q QX kc ks (pc + 3) (lv) (st) S V) : R T r mc ms Q QX kc ks (pc) (lv) (.int x :: st) S V :=
  fun p l e s m args below meth c H locs cells slots D cA o x0 ls C K hl hP hz hS ho h1 h2 => lv_if_lt C.1 C.2.1 d ht (fun q => k1 q p l e s m args below meth c H locs cells slots D cA o x0 ls C K hl hP hz hS ho h1 h2) (fun q => k2 q p l e s m args below meth c H locs cells slots D cA o x0 ls C K hl hP hz hS ho h1 h2)
theorem R_if_ge {x : Int32} {off : Int} (tgt : Nat) (d : decode T.2.1 pc = .ok (.ifCond .ge off, 3)) (ht : (pc : Int) + off = (tgt : Int)) (k1 : 0 ≤ x → R T r mc ms Q QX kc ks (tgt) (lv) (st) S V) (k2 : ¬ (0 ≤ x) → R T r mc ms Q QX kc ks (pc + 3) (lv) (st) S V) : R T r mc ms Q QX kc ks (pc) (lv) (.int x :: st) S V :=
  fun p l e s m args below meth c H locs cells slots D cA o x0 ls C K hl hP hz hS ho h1 h2 => lv_if_ge C.1 C.2.1 d ht (fun q => k1 q p l e s m args below meth c H locs cells slots D cA o x0 ls C K hl hP hz hS ho h1 h2) (fun q => k2 q p l e s m args below meth c H locs cells slots D cA o x0 ls C K hl hP hz hS ho h1 h2)
theorem R_if_gt {x : Int32} {off : Int} (tgt : Nat) (d : decode T.2.1 pc = .ok (.ifCond .gt off, 3)) (ht : (pc : Int) + off = (tgt : Int)) (k1 : 0 < x → R T r mc ms Q QX kc ks (tgt) (lv) (st) S V) (k2 : ¬ (0 < x) → R T r mc ms Q QX kc ks (pc + 3) (lv) (st) S V) : R T r mc ms Q QX kc ks (pc) (lv) (.int x :: st) S V :=
  fun p l e s m args below meth c H locs cells slots D cA o x0 ls C K hl hP hz hS ho h1 h2 => lv_if_gt C.1 C.2.1 d ht (fun q => k1 q p l e s m args below meth c H locs cells slots D cA o x0 ls C K hl hP hz hS ho h1 h2) (fun q => k2 q p l e s m args below meth c H locs cells slots D cA o x0 ls C K hl hP hz hS ho h1 h2)
theorem R_if_le {x : Int32} {off : Int} (tgt : Nat) (d : decode T.2.1 pc = .ok (.ifCond .le off, 3)) (ht : (pc : Int) + off = (tgt : Int)) (k1 : x ≤ 0 → R T r mc ms Q QX kc ks (tgt) (lv) (st) S V) (k2 : ¬ (x ≤ 0) → R T r mc ms Q QX kc ks (pc + 3) (lv) (st) S V) : R T r mc ms Q QX kc ks (pc) (lv) (.int x :: st) S V :=
  fun p l e s m args below meth c H locs cells slots D cA o x0 ls C K hl hP hz hS ho h1 h2 => lv_if_le C.1 C.2.1 d ht (fun q => k1 q p l e s m args below meth c H locs cells slots D cA o x0 ls C K hl hP hz hS ho h1 h2) (fun q => k2 q p l e s m args below meth c H locs cells slots D cA o x0 ls C K hl hP hz hS ho h1 h2)
theorem R_icmp_eq {x y : Int32} {off : Int} (tgt : Nat) (d : decode T.2.1 pc = .ok (.if_icmp .eq off, 3)) (ht : (pc : Int) + off = (tgt : Int)) (k1 : x = y → R T r mc ms Q QX kc ks (tgt) (lv) (st) S V) (k2 : ¬ (x = y) → R T r mc ms Q QX kc ks (pc + 3) (lv) (st) S V) : R T r mc ms Q QX kc ks (pc) (lv) (.int y :: .int x :: st) S V :=
  fun p l e s m args below meth c H locs cells slots D cA o x0 ls C K hl hP hz hS ho h1 h2 => lv_icmp_eq C.1 C.2.1 d ht (fun q => k1 q p l e s m args below meth c H locs cells slots D cA o x0 ls C K hl hP hz hS ho h1 h2) (fun q => k2 q p l e s m args below meth c H locs cells slots D cA o x0 ls C K hl hP hz hS ho h1 h2)
theorem R_icmp_ne {x y : Int32} {off : Int} (tgt : Nat) (d : decode T.2.1 pc = .ok (.if_icmp .ne off, 3)) (ht : (pc : Int) + off = (tgt : Int)) (k1 : ¬ x = y → R T r mc ms Q QX kc ks (tgt) (lv) (st) S V) (k2 : x = y → R T r mc ms Q QX kc ks (pc + 3) (lv) (st) S V) : R T r mc ms Q QX kc ks (pc) (lv) (.int y :: .int x :: st) S V :=
  fun p l e s m args below meth c H locs cells slots D cA o x0 ls C K hl hP hz hS ho h1 h2 => lv_icmp_ne C.1 C.2.1 d ht (fun q => k1 q p l e s m args below meth c H locs cells slots D cA o x0 ls C K hl hP hz hS ho h1 h2) (fun q => k2 q p l e s m args below meth c H locs cells slots D cA o x0 ls C K hl hP hz hS ho h1 h2)
theorem R_icmp_lt {x y : Int32} {off : Int} (tgt : Nat) (d : decode T.2.1 pc = .ok (.if_icmp .lt off, 3)) (ht : (pc : Int) + off = (tgt : Int)) (k1 : x < y → R T r mc ms Q QX kc ks (tgt) (lv) (st) S V) (k2 : ¬ (x < y) → R T r mc ms Q QX kc ks (pc + 3) (lv) (st) S V) : R T r mc ms Q QX kc ks (pc) (lv) (.int y :: .int x :: st) S V :=
  fun p l e s m args below meth c H locs cells slots D cA o x0 ls C K hl hP hz hS ho h1 h2 => lv_icmp_lt C.1 C.2.1 d ht (fun q => k1 q p l e s m args below meth c H locs cells slots D cA o x0 ls C K hl hP hz hS ho h1 h2) (fun q => k2 q p l e s m args below meth c H locs cells slots D cA o x0 ls C K hl hP hz hS ho h1 h2)
theorem R_icmp_ge {x y : Int32} {off : Int} (tgt : Nat) (d : decode T.2.1 pc = .ok (.if_icmp .ge off, 3)) (ht : (pc : Int) + off = (tgt : Int)) (k1 : y ≤ x → R T r mc ms Q QX kc ks (tgt) (lv) (st) S V) (k2 : ¬ (y ≤ x) → R T r mc ms Q QX kc ks (pc + 3) (lv) (st) S V) : R T r mc ms Q QX kc ks (pc) (lv) (.int y :: .int x :: st) S V :=
  fun p l e s m args below meth c H locs cells slots D cA o x0 ls C K hl hP hz hS ho h1 h2 => lv_icmp_ge C.1 C.2.1 d ht (fun q => k1 q p l e s m args below meth c H locs cells slots D cA o x0 ls C K hl hP hz hS ho h1 h2) (fun q => k2 q p l e s m args below meth c H locs cells slots D cA o x0 ls C K hl hP hz hS ho h1 h2)
theorem R_icmp_gt {x y : Int32} {off : Int} (tgt : Nat) (d : decode T.2.1 pc = .ok (.if_icmp .gt off, 3)) (ht : (pc : Int) + off = (tgt : Int)) (k1 : y < x → R T r mc ms Q QX kc ks (tgt) (lv) (st) S V) (k2 : ¬ (y < x) → R T r mc ms Q QX kc ks (pc + 3) (lv) (st) S V) : R T r mc ms Q QX kc ks (pc) (lv) (.int y :: .int x :: st) S V :=
  fun p l e s m args below meth c H locs cells slots D cA o x0 ls C K hl hP hz hS ho h1 h2 => lv_icmp_gt C.1 C.2.1 d ht (fun q => k1 q p l e s m args below meth c H locs cells slots D cA o x0 ls C K hl hP hz hS ho h1 h2) (fun q => k2 q p l e s m args below meth c H locs cells slots D cA o x0 ls C K hl hP hz hS ho h1 h2)
theorem R_icmp_le {x y : Int32} {off : Int} (tgt : Nat) (d : decode T.2.1 pc = .ok (.if_icmp .le off, 3)) (ht : (pc : Int) + off = (tgt : Int)) (k1 : x ≤ y → R T r mc ms Q QX kc ks (tgt) (lv) (st) S V) (k2 : ¬ (x ≤ y) → R T r mc ms Q QX kc ks (pc + 3) (lv) (st) S V) : R T r mc ms Q QX kc ks (pc) (lv) (.int y :: .int x :: st) S V :=
  fun p l e s m args below meth c H locs cells slots D cA o x0 ls C K hl hP hz hS ho h1 h2 => lv_icmp_le C.1 C.2.1 d ht (fun q => k1 q p l e s m args below meth c H locs cells slots D cA o x0 ls C K hl hP hz hS ho h1 h2) (fun q => k2 q p l e s m args below meth c H locs cells slots D cA o x0 ls C K hl hP hz hS ho h1 h2)
theorem R_iload_0 {t : List (Option Value)} {x : Int32} (d : decode T.2.1 pc = .ok (.iload_n 0, 1)) (k : R T r mc ms Q QX kc ks (pc + 1) (some (.int x) :: t) (.int x :: st) S V) : R T r mc ms Q QX kc ks (pc) (some (.int x) :: t) (st) S V :=
  fun p l e s m args below meth c H locs cells slots D cA o x0 ls C K hl hP hz hS ho h1 h2 => lv_iload_n C.1 C.2.1 d rfl (hl.2.2 0 _ rfl) (k p l e s m args below meth c H locs cells slots D cA o x0 ls C K hl hP hz hS ho h1 h2)
theorem R_lload_0 {t : List (Option Value)} {x : Int64} (d : decode T.2.1 pc = .ok (.lload_n 0, 1)) (k : R T r mc ms Q QX kc ks (pc + 1) (some (.long x) :: t) (.long x :: st) S V) : R T r mc ms Q QX kc ks (pc) (some (.long x) :: t) (st) S V :=
  fun p l e s m args below meth c H locs cells slots D cA o x0 ls C K hl hP hz hS ho h1 h2 => lv_lload_n C.1 C.2.1 d rfl (hl.2.2 0 _ rfl) (k p l e s m args below meth c H locs cells slots D cA o x0 ls C K hl hP hz hS ho h1 h2)
theorem R_fload_0 {t : List (Option Value)} {x : UInt32} (d : decode T.2.1 pc = .ok (.fload_n 0, 1)) (k : R T r mc ms Q QX kc ks (pc + 1) (some (.float x) :: t) (.float x :: st) S V) : R T r mc ms Q QX kc ks (pc) (some (.float x) :: t) (st) S V :=
  fun p l e s m args below meth c H locs cells slots D cA o x0 ls C K hl hP hz hS ho h1 h2 => lv_fload_n C.1 C.2.1 d rfl (hl.2.2 0 _ rfl) (k p l e s m args below meth c H locs cells slots D cA o x0 ls C K hl hP hz hS ho h1 h2)
theorem R_aload_0 {t : List (Option Value)} {x : Nat} (d : decode T.2.1 pc = .ok (.aload_n 0, 1)) (k : R T r mc ms Q QX kc ks (pc + 1) (some (.ref x) :: t) (.ref x :: st) S V) : R T r mc ms Q QX kc ks (pc) (some (.ref x) :: t) (st) S V :=
  fun p l e s m args below meth c H locs cells slots D cA o x0 ls C K hl hP hz hS ho h1 h2 => lv_aload_n C.1 C.2.1 d rfl (hl.2.2 0 _ rfl) (k p l e s m args below meth c H locs cells slots D cA o x0 ls C K hl hP hz hS ho h1 h2)
theorem R_iload_1 {z0 : Option Value} {t : List (Option Value)} {x : Int32} (d : decode T.2.1 pc = .ok (.iload_n 1, 1)) (k : R T r mc ms Q QX kc ks (pc + 1) (z0 :: some (.int x) :: t) (.int x :: st) S V) : R T r mc ms Q QX kc ks (pc) (z0 :: some (.int x) :: t) (st) S V :=
  fun p l e s m args below meth c H locs cells slots D cA o x0 ls C K hl hP hz hS ho h1 h2 => lv_iload_n C.1 C.2.1 d rfl (hl.2.2 1 _ rfl) (k p l e s m args below meth c H locs cells slots D cA o x0 ls C K hl hP hz hS ho h1 h2)
theorem R_lload_1 {z0 : Option Value} {t : List (Option Value)} {x : Int64} (d : decode T.2.1 pc = .ok (.lload_n 1, 1)) (k : R T r mc ms Q QX kc ks (pc + 1) (z0 :: some (.long x) :: t) (.long x :: st) S V) : R T r mc ms Q QX kc ks (pc) (z0 :: some (.long x) :: t) (st) S V :=
  fun p l e s m args below meth c H locs cells slots D cA o x0 ls C K hl hP hz hS ho h1 h2 => lv_lload_n C.1 C.2.1 d rfl (hl.2.2 1 _ rfl) (k p l e s m args below meth c H locs cells slots D cA o x0 ls C K hl hP hz hS ho h1 h2)
theorem R_fload_1 {z0 : Option Value} {t : List (Option Value)} {x : UInt32} (d : decode T.2.1 pc = .ok (.fload_n 1, 1)) (k : R T r mc ms Q QX kc ks (pc + 1) (z0 :: some (.float x) :: t) (.float x :: st) S V) : R T r mc ms Q QX kc ks (pc) (z0 :: some (.float x) :: t) (st) S V :=
  fun p l e s m args below meth c H locs cells slots D cA o x0 ls C K hl hP hz hS ho h1 h2 => lv_fload_n C.1 C.2.1 d rfl (hl.2.2 1 _ rfl) (k p l e s m args below meth c H locs cells slots D cA o x0 ls C K hl hP hz hS ho h1 h2)
theorem R_aload_1 {z0 : Option Value} {t : List (Option Value)} {x : Nat} (d : decode T.2.1 pc = .ok (.aload_n 1, 1)) (k : R T r mc ms Q QX kc ks (pc + 1) (z0 :: some (.ref x) :: t) (.ref x :: st) S V) : R T r mc ms Q QX kc ks (pc) (z0 :: some (.ref x) :: t) (st) S V :=
  fun p l e s m args below meth c H locs cells slots D cA o x0 ls C K hl hP hz hS ho h1 h2 => lv_aload_n C.1 C.2.1 d rfl (hl.2.2 1 _ rfl) (k p l e s m args below meth c H locs cells slots D cA o x0 ls C K hl hP hz hS ho h1 h2)
theorem R_iload_2 {z0 z1 : Option Value} {t : List (Option Value)} {x : Int32} (d : decode T.2.1 pc = .ok (.iload_n 2, 1)) (k : R T r mc ms Q QX kc ks (pc + 1) (z0 :: z1 :: some (.int x) :: t) (.int x :: st) S V) : R T r mc ms Q QX kc ks (pc) (z0 :: z1 :: some (.int x) :: t) (st) S V :=
  fun p l e s m args below meth c H locs cells slots D cA o x0 ls C K hl hP hz hS ho h1 h2 => lv_iload_n C.1 C.2.1 d rfl (hl.2.2 2 _ rfl) (k p l e s m args below meth c H locs cells slots D cA o x0 ls C K hl hP hz hS ho h1 h2)
theorem R_lload_2 {z0 z1 : Option Value} {t : List (Option Value)} {x : Int64} (d : decode T.2.1 pc = .ok (.lload_n 2, 1)) (k : R T r mc ms Q QX kc ks (pc + 1) (z0 :: z1 :: some (.long x) :: t) (.long x :: st) S V) : R T r mc ms Q QX kc ks (pc) (z0 :: z1 :: some (.long x) :: t) (st) S V :=
  fun p l e s m args below meth c H locs cells slots D cA o x0 ls C K hl hP hz hS ho h1 h2 => lv_lload_n C.1 C.2.1 d rfl (hl.2.2 2 _ rfl) (k p l e s m args below meth c H locs cells slots D cA o x0 ls C K hl hP hz hS ho h1 h2)
theorem R_fload_2 {z0 z1 : Option Value} {t : List (Option Value)} {x : UInt32} (d : decode T.2.1 pc = .ok (.fload_n 2, 1)) (k : R T r mc ms Q QX kc ks (pc + 1) (z0 :: z1 :: some (.float x) :: t) (.float x :: st) S V) : R T r mc ms Q QX kc ks (pc) (z0 :: z1 :: some (.float x) :: t) (st) S V :=
  fun p l e s m args below meth c H locs cells slots D cA o x0 ls C K hl hP hz hS ho h1 h2 => lv_fload_n C.1 C.2.1 d rfl (hl.2.2 2 _ rfl) (k p l e s m args below meth c H locs cells slots D cA o x0 ls C K hl hP hz hS ho h1 h2)
theorem R_aload_2 {z0 z1 : Option Value} {t : List (Option Value)} {x : Nat} (d : decode T.2.1 pc = .ok (.aload_n 2, 1)) (k : R T r mc ms Q QX kc ks (pc + 1) (z0 :: z1 :: some (.ref x) :: t) (.ref x :: st) S V) : R T r mc ms Q QX kc ks (pc) (z0 :: z1 :: some (.ref x) :: t) (st) S V :=
  fun p l e s m args below meth c H locs cells slots D cA o x0 ls C K hl hP hz hS ho h1 h2 => lv_aload_n C.1 C.2.1 d rfl (hl.2.2 2 _ rfl) (k p l e s m args below meth c H locs cells slots D cA o x0 ls C K hl hP hz hS ho h1 h2)
theorem R_iload_3 {z0 z1 z2 : Option Value} {t : List (Option Value)} {x : Int32} (d : decode T.2.1 pc = .ok (.iload_n 3, 1)) (k : R T r mc ms Q QX kc ks (pc + 1) (z0 :: z1 :: z2 :: some (.int x) :: t) (.int x :: st) S V) : R T r mc ms Q QX kc ks (pc) (z0 :: z1 :: z2 :: some (.int x) :: t) (st) S V :=
  fun p l e s m args below meth c H locs cells slots D cA o x0 ls C K hl hP hz hS ho h1 h2 => lv_iload_n C.1 C.2.1 d rfl (hl.2.2 3 _ rfl) (k p l e s m args below meth c H locs cells slots D cA o x0 ls C K hl hP hz hS ho h1 h2)
theorem R_lload_3 {z0 z1 z2 : Option Value} {t : List (Option Value)} {x : Int64} (d : decode T.2.1 pc = .ok (.lload_n 3, 1)) (k : R T r mc ms Q QX kc ks (pc + 1) (z0 :: z1 :: z2 :: some (.long x) :: t) (.long x :: st) S V) : R T r mc ms Q QX kc ks (pc) (z0 :: z1 :: z2 :: some (.long x) :: t) (st) S V :=
  fun p l e s m args below meth c H locs cells slots D cA o x0 ls C K hl hP hz hS ho h1 h2 => lv_lload_n C.1 C.2.1 d rfl (hl.2.2 3 _ rfl) (k p l e s m args below meth c H locs cells slots D cA o x0 ls C K hl hP hz hS ho h1 h2)
theorem R_fload_3 {z0 z1 z2 : Option Value} {t : List (Option Value)} {x : UInt32} (d : decode T.2.1 pc = .ok (.fload_n 3, 1)) (k : R T r mc ms Q QX kc ks (pc + 1) (z0 :: z1 :: z2 :: some (.float x) :: t) (.float x :: st) S V) : R T r mc ms Q QX kc ks (pc) (z0 :: z1 :: z2 :: some (.float x) :: t) (st) S V :=
  fun p l e s m args below meth c H locs cells slots D cA o x0 ls C K hl hP hz hS ho h1 h2 => lv_fload_n C.1 C.2.1 d rfl (hl.2.2 3 _ rfl) (k p l e s m args below meth c H locs cells slots D cA o x0 ls C K hl hP hz hS ho h1 h2)
theorem R_aload_3 {z0 z1 z2 : Option Value} {t : List (Option Value)} {x : Nat} (d : decode T.2.1 pc = .ok (.aload_n 3, 1)) (k : R T r mc ms Q QX kc ks (pc + 1) (z0 :: z1 :: z2 :: some (.ref x) :: t) (.ref x :: st) S V) : R T r mc ms Q QX kc ks (pc) (z0 :: z1 :: z2 :: some (.ref x) :: t) (st) S V :=
  fun p l e s m args below meth c H locs cells slots D cA o x0 ls C K hl hP hz hS ho h1 h2 => lv_aload_n C.1 C.2.1 d rfl (hl.2.2 3 _ rfl) (k p l e s m args below meth c H locs cells slots D cA o x0 ls C K hl hP hz hS ho h1 h2)
theorem R_iload_4 {z0 z1 z2 z3 : Option Value} {t : List (Option Value)} {x : Int32} (d : decode T.2.1 pc = .ok (.iload 4, 2)) (k : R T r mc ms Q QX kc ks (pc + 2) (z0 :: z1 :: z2 :: z3 :: some (.int x) :: t) (.int x :: st) S V) : R T r mc ms Q QX kc ks (pc) (z0 :: z1 :: z2 :: z3 :: some (.int x) :: t) (st) S V :=
  fun p l e s m args below meth c H locs cells slots D cA o x0 ls C K hl hP hz hS ho h1 h2 => lv_iload C.1 C.2.1 d (hl.2.2 4 _ rfl) (k p l e s m args below meth c H locs cells slots D cA o x0 ls C K hl hP hz hS ho h1 h2)
theorem R_lload_4 {z0 z1 z2 z3 : Option Value} {t : List (Option Value)} {x : Int64} (d : decode T.2.1 pc = .ok (.lload 4, 2)) (k : R T r mc ms Q QX kc ks (pc + 2) (z0 :: z1 :: z2 :: z3 :: some (.long x) :: t) (.long x :: st) S V) : R T r mc ms Q QX kc ks (pc) (z0 :: z1 :: z2 :: z3 :: some (.long x) :: t) (st) S V :=
  fun p l e s m args below meth c H locs cells slots D cA o x0 ls C K hl hP hz hS ho h1 h2 => lv_lload C.1 C.2.1 d (hl.2.2 4 _ rfl) (k p l e s m args below meth c H locs cells slots D cA o x0 ls C K hl hP hz hS ho h1 h2)
theorem R_fload_4 {z0 z1 z2 z3 : Option Value} {t : List (Option Value)} {x : UInt32} (d : decode T.2.1 pc = .ok (.fload 4, 2)) (k : R T r mc ms Q QX kc ks (pc + 2) (z0 :: z1 :: z2 :: z3 :: some (.float x) :: t) (.float x :: st) S V) : R T r mc ms Q QX kc ks (pc) (z0 :: z1 :: z2 :: z3 :: some (.float x) :: t) (st) S V :=
  fun p l e s m args below meth c H locs cells slots D cA o x0 ls C K hl hP hz hS ho h1 h2 => lv_fload C.1 C.2.1 d (hl.2.2 4 _ rfl) (k p l e s m args below meth c H locs cells slots D cA o x0 ls C K hl hP hz hS ho h1 h2)
theorem R_aload_4 {z0 z1 z2 z3 : Option Value} {t : List (Option Value)} {x : Nat} (d : decode T.2.1 pc = .ok (.aload 4, 2)) (k : R T r mc ms Q QX kc ks (pc + 2) (z0 :: z1 :: z2 :: z3 :: some (.ref x) :: t) (.ref x :: st) S V) : R T r mc ms Q QX kc ks (pc) (z0 :: z1 :: z2 :: z3 :: some (.ref x) :: t) (st) S V :=
  fun p l e s m args below meth c H locs cells slots D cA o x0 ls C K hl hP hz hS ho h1 h2 => lv_aload C.1 C.2.1 d (hl.2.2 4 _ rfl) (k p l e s m args below meth c H locs cells slots D cA o x0 ls C K hl hP hz hS ho h1 h2)
theorem R_iload_5 {z0 z1 z2 z3 z4 : Option Value} {t : List (Option Value)} {x : Int32} (d : decode T.2.1 pc = .ok (.iload 5, 2)) (k : R T r mc ms Q QX kc ks (pc + 2) (z0 :: z1 :: z2 :: z3 :: z4 :: some (.int x) :: t) (.int x :: st) S V) : R T r mc ms Q QX kc ks (pc) (z0 :: z1 :: z2 :: z3 :: z4 :: some (.int x) :: t) (st) S V :=
  fun p l e s m args below meth c H locs cells slots D cA o x0 ls C K hl hP hz hS ho h1 h2 => lv_iload C.1 C.2.1 d (hl.2.2 5 _ rfl) (k p l e s m args below meth c H locs cells slots D cA o x0 ls C K hl hP hz hS ho h1 h2)
theorem R_lload_5 {z0 z1 z2 z3 z4 : Option Value} {t : List (Option Value)} {x : Int64} (d : decode T.2.1 pc = .ok (.lload 5, 2)) (k : R T r mc ms Q QX kc ks (pc + 2) (z0 :: z1 :: z2 :: z3 :: z4 :: some (.long x) :: t) (.long x :: st) S V) : R T r mc ms Q QX kc ks (pc) (z0 :: z1 :: z2 :: z3 :: z4 :: some (.long x) :: t) (st) S V :=
  fun p l e s m args below meth c H locs cells slots D cA o x0 ls C K hl hP hz hS ho h1 h2 => lv_lload C.1 C.2.1 d (hl.2.2 5 _ rfl) (k p l e s m args below meth c H locs cells slots D cA o x0 ls C K hl hP hz hS ho h1 h2)
theorem R_fload_5 {z0 z1 z2 z3 z4 : Option Value} {t : List (Option Value)} {x : UInt32} (d : decode T.2.1 pc = .ok (.fload 5, 2)) (k : R T r mc ms Q QX kc ks (pc + 2) (z0 :: z1 :: z2 :: z3 :: z4 :: some (.float x) :: t) (.float x :: st) S V) : R T r mc ms Q QX kc ks (pc) (z0 :: z1 :: z2 :: z3 :: z4 :: some (.float x) :: t) (st) S V :=
  fun p l e s m args below meth c H locs cells slots D cA o x0 ls C K hl hP hz hS ho h1 h2 => lv_fload C.1 C.2.1 d (hl.2.2 5 _ rfl) (k p l e s m args below meth c H locs cells slots D cA o x0 ls C K hl hP hz hS ho h1 h2)
theorem R_aload_5 {z0 z1 z2 z3 z4 : Option Value} {t : List (Option Value)} {x : Nat} (d : decode T.2.1 pc = .ok (.aload 5, 2)) (k : R T r mc ms Q QX kc ks (pc + 2) (z0 :: z1 :: z2 :: z3 :: z4 :: some (.ref x) :: t) (.ref x :: st) S V) : R T r mc ms Q QX kc ks (pc) (z0 :: z1 :: z2 :: z3 :: z4 :: some (.ref x) :: t) (st) S V :=
  fun p l e s m args below meth c H locs cells slots D cA o x0 ls C K hl hP hz hS ho h1 h2 => lv_aload C.1 C.2.1 d (hl.2.2 5 _ rfl) (k p l e s m args below meth c H locs cells slots D cA o x0 ls C K hl hP hz hS ho h1 h2)
theorem R_iload_6 {z0 z1 z2 z3 z4 z5 : Option Value} {t : List (Option Value)} {x : Int32} (d : decode T.2.1 pc = .ok (.iload 6, 2)) (k : R T r mc ms Q QX kc ks (pc + 2) (z0 :: z1 :: z2 :: z3 :: z4 :: z5 :: some (.int x) :: t) (.int x :: st) S V) : R T r mc ms Q QX kc ks (pc) (z0 :: z1 :: z2 :: z3 :: z4 :: z5 :: some (.int x) :: t) (st) S V :=
  fun p l e s m args below meth c H locs cells slots D cA o x0 ls C K hl hP hz hS ho h1 h2 => lv_iload C.1 C.2.1 d (hl.2.2 6 _ rfl) (k p l e s m args below meth c H locs cells slots D cA o x0 ls C K hl hP hz hS ho h1 h2)
theorem R_lload_6 {z0 z1 z2 z3 z4 z5 : Option Value} {t : List (Option Value)} {x : Int64} (d : decode T.2.1 pc = .ok (.lload 6, 2)) (k : R T r mc ms Q QX kc ks (pc + 2) (z0 :: z1 :: z2 :: z3 :: z4 :: z5 :: some (.long x) :: t) (.long x :: st) S V) : R T r mc ms Q QX kc ks (pc) (z0 :: z1 :: z2 :: z3 :: z4 :: z5 :: some (.long x) :: t) (st) S V :=
  fun p l e s m args below meth c H locs cells slots D cA o x0 ls C K hl hP hz hS ho h1 h2 => lv_lload C.1 C.2.1 d (hl.2.2 6 _ rfl) (k p l e s m args below meth c H locs cells slots D cA o x0 ls C K hl hP hz hS ho h1 h2)
theorem R_fload_6 {z0 z1 z2 z3 z4 z5 : Option Value} {t : List (Option Value)} {x : UInt32} (d : decode T.2.1 pc = .ok (.fload 6, 2)) (k : R T r mc ms Q QX kc ks (pc + 2) (z0 :: z1 :: z2 :: z3 :: z4 :: z5 :: some (.float x) :: t) (.float x :: st) S V) : R T r mc ms Q QX kc ks (pc) (z0 :: z1 :: z2 :: z3 :: z4 :: z5 :: some (.float x) :: t) (st) S V :=
  fun p l e s m args below meth c H locs cells slots D cA o x0 ls C K hl hP hz hS ho h1 h2 => lv_fload C.1 C.2.1 d (hl.2.2 6 _ rfl) (k p l e s m args below meth c H locs cells slots D cA o x0 ls C K hl hP hz hS ho h1 h2)
theorem R_aload_6 {z0 z1 z2 z3 z4 z5 : Option Value} {t : List (Option Value)} {x : Nat} (d : decode T.2.1 pc = .ok (.aload 6, 2)) (k : R T r mc ms Q QX kc ks (pc + 2) (z0 :: z1 :: z2 :: z3 :: z4 :: z5 :: some (.ref x) :: t) (.ref x :: st) S V) : R T r mc ms Q QX kc ks (pc) (z0 :: z1 :: z2 :: z3 :: z4 :: z5 :: some (.ref x) :: t) (st) S V :=
  fun p l e s m args below meth c H locs cells slots D cA o x0 ls C K hl hP hz hS ho h1 h2 => lv_aload C.1 C.2.1 d (hl.2.2 6 _ rfl) (k p l e s m args below meth c H locs cells slots D cA o x0 ls C K hl hP hz hS ho h1 h2)
theorem R_iload_7 {z0 z1 z2 z3 z4 z5 z6 : Option Value} {t : List (Option Value)} {x : Int32} (d : decode T.2.1 pc = .ok (.iload 7, 2)) (k : R T r mc ms Q QX kc ks (pc + 2) (z0 :: z1 :: z2 :: z3 :: z4 :: z5 :: z6 :: some (.int x) :: t) (.int x :: st) S V) : R T r mc ms Q QX kc ks (pc) (z0 :: z1 :: z2 :: z3 :: z4 :: z5 :: z6 :: some (.int x) :: t) (st) S V :=
  fun p l e s m args below meth c H locs cells slots D cA o x0 ls C K hl hP hz hS ho h1 h2 => lv_iload C.1 C.2.1 d (hl.2.2 7 _ rfl) (k p l e s m args below meth c H locs cells slots D cA o x0 ls C K hl hP hz hS ho h1 h2)
theorem R_lload_7 {z0 z1 z2 z3 z4 z5 z6 : Option Value} {t : List (Option Value)} {x : Int64} (d : decode T.2.1 pc = .ok (.lload 7, 2)) (k : R T r mc ms Q QX kc ks (pc + 2) (z0 :: z1 :: z2 :: z3 :: z4 :: z5 :: z6 :: some (.long x) :: t) (.long x :: st) S V) : R T r mc ms Q QX kc ks (pc) (z0 :: z1 :: z2 :: z3 :: z4 :: z5 :: z6 :: some (.long x) :: t) (st) S V :=
  fun p l e s m args below meth c H locs cells slots D cA o x0 ls C K hl hP hz hS ho h1 h2 => lv_lload C.1 C.2.1 d (hl.2.2 7 _ rfl) (k p l e s m args below meth c H locs cells slots D cA o x0 ls C K hl hP hz hS ho h1 h2)
theorem R_fload_7 {z0 z1 z2 z3 z4 z5 z6 : Option Value} {t : List (Option Value)} {x : UInt32} (d : decode T.2.1 pc = .ok (.fload 7, 2)) (k : R T r mc ms Q QX kc ks (pc + 2) (z0 :: z1 :: z2 :: z3 :: z4 :: z5 :: z6 :: some (.float x) :: t) (.float x :: st) S V) : R T r mc ms Q QX kc ks (pc) (z0 :: z1 :: z2 :: z3 :: z4 :: z5 :: z6 :: some (.float x) :: t) (st) S V :=
  fun p l e s m args below meth c H locs cells slots D cA o x0 ls C K hl hP hz hS ho h1 h2 => lv_fload C.1 C.2.1 d (hl.2.2 7 _ rfl) (k p l e s m args below meth c H locs cells slots D cA o x0 ls C K hl hP hz hS ho h1 h2)
theorem R_aload_7 {z0 z1 z2 z3 z4 z5 z6 : Option Value} {t : List (Option Value)} {x : Nat} (d : decode T.2.1 pc = .ok (.aload 7, 2)) (k : R T r mc ms Q QX kc ks (pc + 2) (z0 :: z1 :: z2 :: z3 :: z4 :: z5 :: z6 :: some (.ref x) :: t) (.ref x :: st) S V) : R T r mc ms Q QX kc ks (pc) (z0 :: z1 :: z2 :: z3 :: z4 :: z5 :: z6 :: some (.ref x) :: t) (st) S V :=
  fun p l e s m args below meth c H locs cells slots D cA o x0 ls C K hl hP hz hS ho h1 h2 => lv_aload C.1 C.2.1 d (hl.2.2 7 _ rfl) (k p l e s m args below meth c H locs cells slots D cA o x0 ls C K hl hP hz hS ho h1 h2)
theorem R_iload_8 {z0 z1 z2 z3 z4 z5 z6 z7 : Option Value} {t : List (Option Value)} {x : Int32} (d : decode T.2.1 pc = .ok (.iload 8, 2)) (k : R T r mc ms Q QX kc ks (pc + 2) (z0 :: z1 :: z2 :: z3 :: z4 :: z5 :: z6 :: z7 :: some (.int x) :: t) (.int x :: st) S V) : R T r mc ms Q QX kc ks (pc) (z0 :: z1 :: z2 :: z3 :: z4 :: z5 :: z6 :: z7 :: some (.int x) :: t) (st) S V :=
  fun p l e s m args below meth c H locs cells slots D cA o x0 ls C K hl hP hz hS ho h1 h2 => lv_iload C.1 C.2.1 d (hl.2.2 8 _ rfl) (k p l e s m args below meth c H locs cells slots D cA o x0 ls C K hl hP hz hS ho h1 h2)
theorem R_lload_8 {z0 z1 z2 z3 z4 z5 z6 z7 : Option Value} {t : List (Option Value)} {x : Int64} (d : decode T.2.1 pc = .ok (.lload 8, 2)) (k : R T r mc ms Q QX kc ks (pc + 2) (z0 :: z1 :: z2 :: z3 :: z4 :: z5 :: z6 :: z7 :: some (.long x) :: t) (.long x :: st) S V) : R T r mc ms Q QX kc ks (pc) (z0 :: z1 :: z2 :: z3 :: z4 :: z5 :: z6 :: z7 :: some (.long x) :: t) (st) S V :=
  fun p l e s m args below meth c H locs cells slots D cA o x0 ls C K hl hP hz hS ho h1 h2 => lv_lload C.1 C.2.1 d (hl.2.2 8 _ rfl) (k p l e s m args below meth c H locs cells slots D cA o x0 ls C K hl hP hz hS ho h1 h2)
theorem R_fload_8 {z0 z1 z2 z3 z4 z5 z6 z7 : Option Value} {t : List (Option Value)} {x : UInt32} (d : decode T.2.1 pc = .ok (.fload 8, 2)) (k : R T r mc ms Q QX kc ks (pc + 2) (z0 :: z1 :: z2 :: z3 :: z4 :: z5 :: z6 :: z7 :: some (.float x) :: t) (.float x :: st) S V) : R T r mc ms Q QX kc ks (pc) (z0 :: z1 :: z2 :: z3 :: z4 :: z5 :: z6 :: z7 :: some (.float x) :: t) (st) S V :=
  fun p l e s m args below meth c H locs cells slots D cA o x0 ls C K hl hP hz hS ho h1 h2 => lv_fload C.1 C.2.1 d (hl.2.2 8 _ rfl) (k p l e s m args below meth c H locs cells slots D cA o x0 ls C K hl hP hz hS ho h1 h2)
theorem R_aload_8 {z0 z1 z2 z3 z4 z5 z6 z7 : Option Value} {t : List (Option Value)} {x : Nat} (d : decode T.2.1 pc = .ok (.aload 8, 2)) (k : R T r mc ms Q QX kc ks (pc + 2) (z0 :: z1 :: z2 :: z3 :: z4 :: z5 :: z6 :: z7 :: some (.ref x) :: t) (.ref x :: st) S V) : R T r mc ms Q QX kc ks (pc) (z0 :: z1 :: z2 :: z3 :: z4 :: z5 :: z6 :: z7 :: some (.ref x) :: t) (st) S V :=
  fun p l e s m args below meth c H locs cells slots D cA o x0 ls C K hl hP hz hS ho h1 h2 => lv_aload C.1 C.2.1 d (hl.2.2 8 _ rfl) (k p l e s m args below meth c H locs cells slots D cA o x0 ls C K hl hP hz hS ho h1 h2)
theorem R_iload_9 {z0 z1 z2 z3 z4 z5 z6 z7 z8 : Option Value} {t : List (Option Value)} {x : Int32} (d : decode T.2.1 pc = .ok (.iload 9, 2)) (k : R T r mc ms Q QX kc ks (pc + 2) (z0 :: z1 :: z2 :: z3 :: z4 :: z5 :: z6 :: z7 :: z8 :: some (.int x) :: t) (.int x :: st) S V) : R T r mc ms Q QX kc ks (pc) (z0 :: z1 :: z2 :: z3 :: z4 :: z5 :: z6 :: z7 :: z8 :: some (.int x) :: t) (st) S V :=
  fun p l e s m args below meth c H locs cells slots D cA o x0 ls C K hl hP hz hS ho h1 h2 => lv_iload C.1 C.2.1 d (hl.2.2 9 _ rfl) (k p l e s m args below meth c H locs cells slots D cA o x0 ls C K hl hP hz hS ho h1 h2)
theorem R_lload_9 {z0 z1 z2 z3 z4 z5 z6 z7 z8 : Option Value} {t : List (Option Value)} {x : Int64} (d : decode T.2.1 pc = .ok (.lload 9, 2)) (k : R T r mc ms Q QX kc ks (pc + 2) (z0 :: z1 :: z2 :: z3 :: z4 :: z5 :: z6 :: z7 :: z8 :: some (.long x) :: t) (.long x :: st) S V) : R T r mc ms Q QX kc ks (pc) (z0 :: z1 :: z2 :: z3 :: z4 :: z5 :: z6 :: z7 :: z8 :: some (.long x) :: t) (st) S V :=
  fun p l e s m args below meth c H locs cells slots D cA o x0 ls C K hl hP hz hS ho h1 h2 => lv_lload C.1 C.2.1 d (hl.2.2 9 _ rfl) (k p l e s m args below meth c H locs cells slots D cA o x0 ls C K hl hP hz hS ho h1 h2)
theorem R_fload_9 {z0 z1 z2 z3 z4 z5 z6 z7 z8 : Option Value} {t : List (Option Value)} {x : UInt32} (d : decode T.2.1 pc = .ok (.fload 9, 2)) (k : R T r mc ms Q QX kc ks (pc + 2) (z0 :: z1 :: z2 :: z3 :: z4 :: z5 :: z6 :: z7 :: z8 :: some (.float x) :: t) (.float x :: st) S V) : R T r mc ms Q QX kc ks (pc) (z0 :: z1 :: z2 :: z3 :: z4 :: z5 :: z6 :: z7 :: z8 :: some (.float x) :: t) (st) S V :=
  fun p l e s m args below meth c H locs cells slots D cA o x0 ls C K hl hP hz hS ho h1 h2 => lv_fload C.1 C.2.1 d (hl.2.2 9 _ rfl) (k p l e s m args below meth c H locs cells slots D cA o x0 ls C K hl hP hz hS ho h1 h2)
theorem R_aload_9 {z0 z1 z2 z3 z4 z5 z6 z7 z8 : Option Value} {t : List (Option Value)} {x : Nat} (d : decode T.2.1 pc = .ok (.aload 9, 2)) (k : R T r mc ms Q QX kc ks (pc + 2) (z0 :: z1 :: z2 :: z3 :: z4 :: z5 :: z6 :: z7 :: z8 :: some (.ref x) :: t) (.ref x :: st) S V) : R T r mc ms Q QX kc ks (pc) (z0 :: z1 :: z2 :: z3 :: z4 :: z5 :: z6 :: z7 :: z8 :: some (.ref x) :: t) (st) S V :=
  fun p l e s m args below meth c H locs cells slots D cA o x0 ls C K hl hP hz hS ho h1 h2 => lv_aload C.1 C.2.1 d (hl.2.2 9 _ rfl) (k p l e s m args below meth c H locs cells slots D cA o x0 ls C K hl hP hz hS ho h1 h2)
theorem R_iload_10 {z0 z1 z2 z3 z4 z5 z6 z7 z8 z9 : Option Value} {t : List (Option Value)} {x : Int32} (d : decode T.2.1 pc = .ok (.iload 10, 2)) (k : R T r mc ms Q QX kc ks (pc + 2) (z0 :: z1 :: z2 :: z3 :: z4 :: z5 :: z6 :: z7 :: z8 :: z9 :: some (.int x) :: t) (.int x :: st) S V) : R T r mc ms Q QX kc ks (pc) (z0 :: z1 :: z2 :: z3 :: z4 :: z5 :: z6 :: z7 :: z8 :: z9 :: some (.int x) :: t) (st) S V :=
  fun p l e s m args below meth c H locs cells slots D cA o x0 ls C K hl hP hz hS ho h1 h2 => lv_iload C.1 C.2.1 d (hl.2.2 10 _ rfl) (k p l e s m args below meth c H locs cells slots D cA o x0 ls C K hl hP hz hS ho h1 h2)
theorem R_lload_10 {z0 z1 z2 z3 z4 z5 z6 z7 z8 z9 : Option Value} {t : List (Option Value)} {x : Int64} (d : decode T.2.1 pc = .ok (.lload 10, 2)) (k : R T r mc ms Q QX kc ks (pc + 2) (z0 :: z1 :: z2 :: z3 :: z4 :: z5 :: z6 :: z7 :: z8 :: z9 :: some (.long x) :: t) (.long x :: st) S V) : R T r mc ms Q QX kc ks (pc) (z0 :: z1 :: z2 :: z3 :: z4 :: z5 :: z6 :: z7 :: z8 :: z9 :: some (.long x) :: t) (st) S V :=
  fun p l e s m args below meth c H locs cells slots D cA o x0 ls C K hl hP hz hS ho h1 h2 => lv_lload C.1 C.2.1 d (hl.2.2 10 _ rfl) (k p l e s m args below meth c H locs cells slots D cA o x0 ls C K hl hP hz hS ho h1 h2)
theorem R_fload_10 {z0 z1 z2 z3 z4 z5 z6 z7 z8 z9 : Option Value} {t : List (Option Value)} {x : UInt32} (d : decode T.2.1 pc = .ok (.fload 10, 2)) (k : R T r mc ms Q QX kc ks (pc + 2) (z0 :: z1 :: z2 :: z3 :: z4 :: z5 :: z6 :: z7 :: z8 :: z9 :: some (.float x) :: t) (.float x :: st) S V) : R T r mc ms Q QX kc ks (pc) (z0 :: z1 :: z2 :: z3 :: z4 :: z5 :: z6 :: z7 :: z8 :: z9 :: some (.float x) :: t) (st) S V :=
  fun p l e s m args below meth c H locs cells slots D cA o x0 ls C K hl hP hz hS ho h1 h2 => lv_fload C.1 C.2.1 d (hl.2.2 10 _ rfl) (k p l e s m args below meth c H locs cells slots D cA o x0 ls C K hl hP hz hS ho h1 h2)
theorem R_aload_10 {z0 z1 z2 z3 z4 z5 z6 z7 z8 z9 : Option Value} {t : List (Option Value)} {x : Nat} (d : decode T.2.1 pc = .ok (.aload 10, 2)) (k : R T r mc ms Q QX kc ks (pc + 2) (z0 :: z1 :: z2 :: z3 :: z4 :: z5 :: z6 :: z7 :: z8 :: z9 :: some (.ref x) :: t) (.ref x :: st) S V) : R T r mc ms Q QX kc ks (pc) (z0 :: z1 :: z2 :: z3 :: z4 :: z5 :: z6 :: z7 :: z8 :: z9 :: some (.ref x) :: t) (st) S V :=
  fun p l e s m args below meth c H locs cells slots D cA o x0 ls C K hl hP hz hS ho h1 h2 => lv_aload C.1 C.2.1 d (hl.2.2 10 _ rfl) (k p l e s m args below meth c H locs cells slots D cA o x0 ls C K hl hP hz hS ho h1 h2)
theorem R_iload_11 {z0 z1 z2 z3 z4 z5 z6 z7 z8 z9 z10 : Option Value} {t : List (Option Value)} {x : Int32} (d : decode T.2.1 pc = .ok (.iload 11, 2)) (k : R T r mc ms Q QX kc ks (pc + 2) (z0 :: z1 :: z2 :: z3 :: z4 :: z5 :: z6 :: z7 :: z8 :: z9 :: z10 :: some (.int x) :: t) (.int x :: st) S V) : R T r mc ms Q QX kc ks (pc) (z0 :: z1 :: z2 :: z3 :: z4 :: z5 :: z6 :: z7 :: z8 :: z9 :: z10 :: some (.int x) :: t) (st) S V :=
  fun p l e s m args below meth c H locs cells slots D cA o x0 ls C K hl hP hz hS ho h1 h2 => lv_iload C.1 C.2.1 d (hl.2.2 11 _ rfl) (k p l e s m args below meth c H locs cells slots D cA o x0 ls C K hl hP hz hS ho h1 h2)
theorem R_lload_11 {z0 z1 z2 z3 z4 z5 z6 z7 z8 z9 z10 : Option Value} {t : List (Option Value)} {x : Int64} (d : decode T.2.1 pc = .ok (.lload 11, 2)) (k : R T r mc ms Q QX kc ks (pc + 2) (z0 :: z1 :: z2 :: z3 :: z4 :: z5 :: z6 :: z7 :: z8 :: z9 :: z10 :: some (.long x) :: t) (.long x :: st) S V) : R T r mc ms Q QX kc ks (pc) (z0 :: z1 :: z2 :: z3 :: z4 :: z5 :: z6 :: z7 :: z8 :: z9 :: z10 :: some (.long x) :: t) (st) S V :=
  fun p l e s m args below meth c H locs cells slots D cA o x0 ls C K hl hP hz hS ho h1 h2 => lv_lload C.1 C.2.1 d (hl.2.2 11 _ rfl) (k p l e s m args below meth c H locs cells slots D cA o x0 ls C K hl hP hz hS ho h1 h2)
theorem R_fload_11 {z0 z1 z2 z3 z4 z5 z6 z7 z8 z9 z10 : Option Value} {t : List (Option Value)} {x : UInt32} (d : decode T.2.1 pc = .ok (.fload 11, 2)) (k : R T r mc ms Q QX kc ks (pc + 2) (z0 :: z1 :: z2 :: z3 :: z4 :: z5 :: z6 :: z7 :: z8 :: z9 :: z10 :: some (.float x) :: t) (.float x :: st) S V) : R T r mc ms Q QX kc ks (pc) (z0 :: z1 :: z2 :: z3 :: z4 :: z5 :: z6 :: z7 :: z8 :: z9 :: z10 :: some (.float x) :: t) (st) S V :=
  fun p l e s m args below meth c H locs cells slots D cA o x0 ls C K hl hP hz hS ho h1 h2 => lv_fload C.1 C.2.1 d (hl.2.2 11 _ rfl) (k p l e s m args below meth c H locs cells slots D cA o x0 ls C K hl hP hz hS ho h1 h2)
theorem R_aload_11 {z0 z1 z2 z3 z4 z5 z6 z7 z8 z9 z10 : Option Value} {t : List (Option Value)} {x : Nat} (d : decode T.2.1 pc = .ok (.aload 11, 2)) (k : R T r mc ms Q QX kc ks (pc + 2) (z0 :: z1 :: z2 :: z3 :: z4 :: z5 :: z6 :: z7 :: z8 :: z9 :: z10 :: some (.ref x) :: t) (.ref x :: st) S V) : R T r mc ms Q QX kc ks (pc) (z0 :: z1 :: z2 :: z3 :: z4 :: z5 :: z6 :: z7 :: z8 :: z9 :: z10 :: some (.ref x) :: t) (st) S V :=
  fun p l e s m args below meth c H locs cells slots D cA o x0 ls C K hl hP hz hS ho h1 h2 => lv_aload C.1 C.2.1 d (hl.2.2 11 _ rfl) (k p l e s m args below meth c H locs cells slots D cA o x0 ls C K hl hP hz hS ho h1 h2)
def a_c1 : Option Value → Bool
  | some (.long _) => false
  | some (.double _) => false
  | _ => true
theorem a_c1_of {v : Value} (h : a_c1 (some v) = true) : ¬ v.category = 2 := by cases v <;> first | (cases h; done) | (intro q; simp [Value.category] at q)
theorem a_s1_0 {y : Option Value} {t : List (Option Value)} {v : Value} : a_s1 0 v (y :: t) (some v :: t) := by
  intro j u hu
  match j, hu with
  | 0, hu => cases hu; exact Or.inl ⟨rfl, rfl⟩
  | j + 1, hu => exact Or.inr ⟨by omega, hu, fun q => by omega⟩
theorem a_s2_0 {y y2 : Option Value} {t : List (Option Value)} {v : Value} : a_s2 0 v (y :: y2 :: t) (some v :: none :: t) := by
  intro j u hu
  match j, hu with
  | 0, hu => cases hu; exact Or.inl ⟨rfl, rfl⟩
  | 1, hu => cases hu
  | j + 2, hu => exact Or.inr ⟨by omega, by omega, hu, fun q => by omega⟩
theorem R_istore_0 {y : Option Value} {t : List (Option Value)} {x : Int32} (hn : 0 < T.2.2.1) (d : decode T.2.1 pc = .ok (.istore_n 0, 1)) (k : R T r mc ms Q QX kc ks (pc + 1) (some (.int x) :: t) (st) S V) : R T r mc ms Q QX kc ks (pc) (y :: t) (.int x :: st) S V :=
  fun p l e s m args below meth c H locs cells slots D cA o x0 ls C K hl hP hz hS ho h1 h2 => lv_istore_n C.1 C.2.1 d rfl hl.has hn rfl (fun ls9 hl9 => k p l e s m args below meth c H locs cells slots D cA o x0 ls9 C K (a_lv.st1 (v := .int x) (a_s1_0 ) hl9) hP hz hS ho h1 h2)
theorem R_fstore_0 {y : Option Value} {t : List (Option Value)} {x : UInt32} (hn : 0 < T.2.2.1) (d : decode T.2.1 pc = .ok (.fstore_n 0, 1)) (k : R T r mc ms Q QX kc ks (pc + 1) (some (.float x) :: t) (st) S V) : R T r mc ms Q QX kc ks (pc) (y :: t) (.float x :: st) S V :=
  fun p l e s m args below meth c H locs cells slots D cA o x0 ls C K hl hP hz hS ho h1 h2 => lv_fstore_n C.1 C.2.1 d rfl hl.has hn rfl (fun ls9 hl9 => k p l e s m args below meth c H locs cells slots D cA o x0 ls9 C K (a_lv.st1 (v := .float x) (a_s1_0 ) hl9) hP hz hS ho h1 h2)
theorem R_astore_0 {y : Option Value} {t : List (Option Value)} {x : Nat} (hn : 0 < T.2.2.1) (d : decode T.2.1 pc = .ok (.astore_n 0, 1)) (k : R T r mc ms Q QX kc ks (pc + 1) (some (.ref x) :: t) (st) S V) : R T r mc ms Q QX kc ks (pc) (y :: t) (.ref x :: st) S V :=
  fun p l e s m args below meth c H locs cells slots D cA o x0 ls C K hl hP hz hS ho h1 h2 => lv_astore_n C.1 C.2.1 d rfl hl.has hn rfl (fun ls9 hl9 => k p l e s m args below meth c H locs cells slots D cA o x0 ls9 C K (a_lv.st1 (v := .ref x) (a_s1_0 ) hl9) hP hz hS ho h1 h2)
theorem R_lstore_0 {y y2 : Option Value} {t : List (Option Value)} {x : Int64} (hn : 0 + 1 < T.2.2.1) (d : decode T.2.1 pc = .ok (.lstore_n 0, 1)) (k : R T r mc ms Q QX kc ks (pc + 1) (some (.long x) :: none :: t) (st) S V) : R T r mc ms Q QX kc ks (pc) (y :: y2 :: t) (.long x :: st) S V :=
  fun p l e s m args below meth c H locs cells slots D cA o x0 ls C K hl hP hz hS ho h1 h2 => lv_lstore_n C.1 C.2.1 d rfl hl.has hn rfl (fun ls9 hl9 => k p l e s m args below meth c H locs cells slots D cA o x0 ls9 C K (a_lv.st2 (v := .long x) (a_s2_0 ) hl9) hP hz hS ho h1 h2)
theorem R_iinc_0 {t : List (Option Value)} {n : Int} {x v : Int32} (hn : 0 < T.2.2.1) (d : decode T.2.1 pc = .ok (.iinc 0 n, 3)) (hv : x + Int32.ofInt n = v) (k : R T r mc ms Q QX kc ks (pc + 3) (some (.int v) :: t) (st) S V) : R T r mc ms Q QX kc ks (pc) (some (.int x) :: t) (st) S V := by
  intro p l e s m args below meth c H locs cells slots D cA o x0 ls C K hl hP hz hS ho h1 h2
  obtain ⟨k9, hk9⟩ := List.getElem?_of_mem (a_al_mem (o := o) (x0 := x0) (lv := some (.int x) :: t) (q := (0, .int x)) |>.mpr ⟨.int x, rfl, rfl⟩)
  exact lv_iinc C.1 C.2.1 d hl.has hk9 hv hn rfl (fun ls9 hl9 => k p l e s m args below meth c H locs cells slots D cA o x0 ls9 C K (a_lv.st1 (v := .int v) (a_s1_0 ) hl9) hP hz hS ho h1 h2)
theorem a_s1_1 {z0 : Option Value} {y : Option Value} {t : List (Option Value)} {v : Value} (hb : a_c1 z0 = true) : a_s1 1 v (z0 :: y :: t) (z0 :: some v :: t) := by
  intro j u hu
  match j, hu with
  | 0, hu => cases hu; exact Or.inr ⟨by decide, rfl, fun q => a_c1_of hb q.2⟩
  | 1, hu => cases hu; exact Or.inl ⟨rfl, rfl⟩
  | j + 2, hu => exact Or.inr ⟨by omega, hu, fun q => by omega⟩
theorem a_s2_1 {z0 : Option Value} {y y2 : Option Value} {t : List (Option Value)} {v : Value} (hb : a_c1 z0 = true) : a_s2 1 v (z0 :: y :: y2 :: t) (z0 :: some v :: none :: t) := by
  intro j u hu
  match j, hu with
  | 0, hu => cases hu; exact Or.inr ⟨by decide, by decide, rfl, fun q => a_c1_of hb q.2⟩
  | 1, hu => cases hu; exact Or.inl ⟨rfl, rfl⟩
  | 2, hu => cases hu
  | j + 3, hu => exact Or.inr ⟨by omega, by omega, hu, fun q => by omega⟩
theorem R_istore_1 {z0 : Option Value} {y : Option Value} {t : List (Option Value)} {x : Int32} (hb : a_c1 z0 = true) (hn : 1 < T.2.2.1) (d : decode T.2.1 pc = .ok (.istore_n 1, 1)) (k : R T r mc ms Q QX kc ks (pc + 1) (z0 :: some (.int x) :: t) (st) S V) : R T r mc ms Q QX kc ks (pc) (z0 :: y :: t) (.int x :: st) S V :=
  fun p l e s m args below meth c H locs cells slots D cA o x0 ls C K hl hP hz hS ho h1 h2 => lv_istore_n C.1 C.2.1 d rfl hl.has hn rfl (fun ls9 hl9 => k p l e s m args below meth c H locs cells slots D cA o x0 ls9 C K (a_lv.st1 (v := .int x) (a_s1_1 hb) hl9) hP hz hS ho h1 h2)
theorem R_fstore_1 {z0 : Option Value} {y : Option Value} {t : List (Option Value)} {x : UInt32} (hb : a_c1 z0 = true) (hn : 1 < T.2.2.1) (d : decode T.2.1 pc = .ok (.fstore_n 1, 1)) (k : R T r mc ms Q QX kc ks (pc + 1) (z0 :: some (.float x) :: t) (st) S V) : R T r mc ms Q QX kc ks (pc) (z0 :: y :: t) (.float x :: st) S V :=
  fun p l e s m args below meth c H locs cells slots D cA o x0 ls C K hl hP hz hS ho h1 h2 => lv_fstore_n C.1 C.2.1 d rfl hl.has hn rfl (fun ls9 hl9 => k p l e s m args below meth c H locs cells slots D cA o x0 ls9 C K (a_lv.st1 (v := .float x) (a_s1_1 hb) hl9) hP hz hS ho h1 h2)
theorem R_astore_1 {z0 : Option Value} {y : Option Value} {t : List (Option Value)} {x : Nat} (hb : a_c1 z0 = true) (hn : 1 < T.2.2.1) (d : decode T.2.1 pc = .ok (.astore_n 1, 1)) (k : R T r mc ms Q QX kc ks (pc + 1) (z0 :: some (.ref x) :: t) (st) S V) : R T r mc ms Q QX kc ks (pc) (z0 :: y :: t) (.ref x :: st) S V :=
  fun p l e s m args below meth c H locs cells slots D cA o x0 ls C K hl hP hz hS ho h1 h2 => lv_astore_n C.1 C.2.1 d rfl hl.has hn rfl (fun ls9 hl9 => k p l e s m args below meth c H locs cells slots D cA o x0 ls9 C K (a_lv.st1 (v := .ref x) (a_s1_1 hb) hl9) hP hz hS ho h1 h2)
theorem R_lstore_1 {z0 : Option Value} {y y2 : Option Value} {t : List (Option Value)} {x : Int64} (hb : a_c1 z0 = true) (hn : 1 + 1 < T.2.2.1) (d : decode T.2.1 pc = .ok (.lstore_n 1, 1)) (k : R T r mc ms Q QX kc ks (pc + 1) (z0 :: some (.long x) :: none :: t) (st) S V) : R T r mc ms Q QX kc ks (pc) (z0 :: y :: y2 :: t) (.long x :: st) S V :=
  fun p l e s m args below meth c H locs cells slots D cA o x0 ls C K hl hP hz hS ho h1 h2 => lv_lstore_n C.1 C.2.1 d rfl hl.has hn rfl (fun ls9 hl9 => k p l e s m args below meth c H locs cells slots D cA o x0 ls9 C K (a_lv.st2 (v := .long x) (a_s2_1 hb) hl9) hP hz hS ho h1 h2)
theorem R_iinc_1 {z0 : Option Value} {t : List (Option Value)} {n : Int} {x v : Int32} (hb : a_c1 z0 = true) (hn : 1 < T.2.2.1) (d : decode T.2.1 pc = .ok (.iinc 1 n, 3)) (hv : x + Int32.ofInt n = v) (k : R T r mc ms Q QX kc ks (pc + 3) (z0 :: some (.int v) :: t) (st) S V) : R T r mc ms Q QX kc ks (pc) (z0 :: some (.int x) :: t) (st) S V := by
  intro p l e s m args below meth c H locs cells slots D cA o x0 ls C K hl hP hz hS ho h1 h2
  obtain ⟨k9, hk9⟩ := List.getElem?_of_mem (a_al_mem (o := o) (x0 := x0) (lv := z0 :: some (.int x) :: t) (q := (1, .int x)) |>.mpr ⟨.int x, rfl, rfl⟩)
  exact lv_iinc C.1 C.2.1 d hl.has hk9 hv hn rfl (fun ls9 hl9 => k p l e s m args below meth c H locs cells slots D cA o x0 ls9 C K (a_lv.st1 (v := .int v) (a_s1_1 hb) hl9) hP hz hS ho h1 h2)
theorem a_s1_2 {z0 z1 : Option Value} {y : Option Value} {t : List (Option Value)} {v : Value} (hb : a_c1 z1 = true) : a_s1 2 v (z0 :: z1 :: y :: t) (z0 :: z1 :: some v :: t) := by
  intro j u hu
  match j, hu with
  | 0, hu => exact Or.inr ⟨by decide, hu, fun q => absurd q.1 (by decide)⟩
  | 1, hu => cases hu; exact Or.inr ⟨by decide, rfl, fun q => a_c1_of hb q.2⟩
  | 2, hu => cases hu; exact Or.inl ⟨rfl, rfl⟩
  | j + 3, hu => exact Or.inr ⟨by omega, hu, fun q => by omega⟩
theorem a_s2_2 {z0 z1 : Option Value} {y y2 : Option Value} {t : List (Option Value)} {v : Value} (hb : a_c1 z1 = true) : a_s2 2 v (z0 :: z1 :: y :: y2 :: t) (z0 :: z1 :: some v :: none :: t) := by
  intro j u hu
  match j, hu with
  | 0, hu => exact Or.inr ⟨by decide, by decide, hu, fun q => absurd q.1 (by decide)⟩
  | 1, hu => cases hu; exact Or.inr ⟨by decide, by decide, rfl, fun q => a_c1_of hb q.2⟩
  | 2, hu => cases hu; exact Or.inl ⟨rfl, rfl⟩
  | 3, hu => cases hu
  | j + 4, hu => exact Or.inr ⟨by omega, by omega, hu, fun q => by omega⟩
theorem R_istore_2 {z0 z1 : Option Value} {y : Option Value} {t : List (Option Value)} {x : Int32} (hb : a_c1 z1 = true) (hn : 2 < T.2.2.1) (d : decode T.2.1 pc = .ok (.istore_n 2, 1)) (k : R T r mc ms Q QX kc ks (pc + 1) (z0 :: z1 :: some (.int x) :: t) (st) S V) : R T r mc ms Q QX kc ks (pc) (z0 :: z1 :: y :: t) (.int x :: st) S V :=
  fun p l e s m args below meth c H locs cells slots D cA o x0 ls C K hl hP hz hS ho h1 h2 => lv_istore_n C.1 C.2.1 d rfl hl.has hn rfl (fun ls9 hl9 => k p l e s m args below meth c H locs cells slots D cA o x0 ls9 C K (a_lv.st1 (v := .int x) (a_s1_2 hb) hl9) hP hz hS ho h1 h2)
theorem R_fstore_2 {z0 z1 : Option Value} {y : Option Value} {t : List (Option Value)} {x : UInt32} (hb : a_c1 z1 = true) (hn : 2 < T.2.2.1) (d : decode T.2.1 pc = .ok (.fstore_n 2, 1)) (k : R T r mc ms Q QX kc ks (pc + 1) (z0 :: z1 :: some (.float x) :: t) (st) S V) : R T r mc ms Q QX kc ks (pc) (z0 :: z1 :: y :: t) (.float x :: st) S V :=
  fun p l e s m args below meth c H locs cells slots D cA o x0 ls C K hl hP hz hS ho h1 h2 => lv_fstore_n C.1 C.2.1 d rfl hl.has hn rfl (fun ls9 hl9 => k p l e s m args below meth c H locs cells slots D cA o x0 ls9 C K (a_lv.st1 (v := .float x) (a_s1_2 hb) hl9) hP hz hS ho h1 h2)
theorem R_astore_2 {z0 z1 : Option Value} {y : Option Value} {t : List (Option Value)} {x : Nat} (hb : a_c1 z1 = true) (hn : 2 < T.2.2.1) (d : decode T.2.1 pc = .ok (.astore_n 2, 1)) (k : R T r mc ms Q QX kc ks (pc + 1) (z0 :: z1 :: some (.ref x) :: t) (st) S V) : R T r mc ms Q QX kc ks (pc) (z0 :: z1 :: y :: t) (.ref x :: st) S V :=
  fun p l e s m args below meth c H locs cells slots D cA o x0 ls C K hl hP hz hS ho h1 h2 => lv_astore_n C.1 C.2.1 d rfl hl.has hn rfl (fun ls9 hl9 => k p l e s m args below meth c H locs cells slots D cA o x0 ls9 C K (a_lv.st1 (v := .ref x) (a_s1_2 hb) hl9) hP hz hS ho h1 h2)
theorem R_lstore_2 {z0 z1 : Option Value} {y y2 : Option Value} {t : List (Option Value)} {x : Int64} (hb : a_c1 z1 = true) (hn : 2 + 1 < T.2.2.1) (d : decode T.2.1 pc = .ok (.lstore_n 2, 1)) (k : R T r mc ms Q QX kc ks (pc + 1) (z0 :: z1 :: some (.long x) :: none :: t) (st) S V) : R T r mc ms Q QX kc ks (pc) (z0 :: z1 :: y :: y2 :: t) (.long x :: st) S V :=
  fun p l e s m args below meth c H locs cells slots D cA o x0 ls C K hl hP hz hS ho h1 h2 => lv_lstore_n C.1 C.2.1 d rfl hl.has hn rfl (fun ls9 hl9 => k p l e s m args below meth c H locs cells slots D cA o x0 ls9 C K (a_lv.st2 (v := .long x) (a_s2_2 hb) hl9) hP hz hS ho h1 h2)
theorem R_iinc_2 {z0 z1 : Option Value} {t : List (Option Value)} {n : Int} {x v : Int32} (hb : a_c1 z1 = true) (hn : 2 < T.2.2.1) (d : decode T.2.1 pc = .ok (.iinc 2 n, 3)) (hv : x + Int32.ofInt n = v) (k : R T r mc ms Q QX kc ks (pc + 3) (z0 :: z1 :: some (.int v) :: t) (st) S V) : R T r mc ms Q QX kc ks (pc) (z0 :: z1 :: some (.int x) :: t) (st) S V := by
  intro p l e s m args below meth c H locs cells slots D cA o x0 ls C K hl hP hz hS ho h1 h2
  obtain ⟨k9, hk9⟩ := List.getElem?_of_mem (a_al_mem (o := o) (x0 := x0) (lv := z0 :: z1 :: some (.int x) :: t) (q := (2, .int x)) |>.mpr ⟨.int x, rfl, rfl⟩)
  exact lv_iinc C.1 C.2.1 d hl.has hk9 hv hn rfl (fun ls9 hl9 => k p l e s m args below meth c H locs cells slots D cA o x0 ls9 C K (a_lv.st1 (v := .int v) (a_s1_2 hb) hl9) hP hz hS ho h1 h2)
theorem a_s1_3 {z0 z1 z2 : Option Value} {y : Option Value} {t : List (Option Value)} {v : Value} (hb : a_c1 z2 = true) : a_s1 3 v (z0 :: z1 :: z2 :: y :: t) (z0 :: z1 :: z2 :: some v :: t) := by
  intro j u hu
  match j, hu with
  | 0, hu => exact Or.inr ⟨by decide, hu, fun q => absurd q.1 (by decide)⟩
  | 1, hu => exact Or.inr ⟨by decide, hu, fun q => absurd q.1 (by decide)⟩
  | 2, hu => cases hu; exact Or.inr ⟨by decide, rfl, fun q => a_c1_of hb q.2⟩
  | 3, hu => cases hu; exact Or.inl ⟨rfl, rfl⟩
  | j + 4, hu => exact Or.inr ⟨by omega, hu, fun q => by omega⟩
theorem a_s2_3 {z0 z1 z2 : Option Value} {y y2 : Option Value} {t : List (Option Value)} {v : Value} (hb : a_c1 z2 = true) : a_s2 3 v (z0 :: z1 :: z2 :: y :: y2 :: t) (z0 :: z1 :: z2 :: some v :: none :: t) := by
  intro j u hu
  match j, hu with
  | 0, hu => exact Or.inr ⟨by decide, by decide, hu, fun q => absurd q.1 (by decide)⟩
  | 1, hu => exact Or.inr ⟨by decide, by decide, hu, fun q => absurd q.1 (by decide)⟩
  | 2, hu => cases hu; exact Or.inr ⟨by decide, by decide, rfl, fun q => a_c1_of hb q.2⟩
  | 3, hu => cases hu; exact Or.inl ⟨rfl, rfl⟩
  | 4, hu => cases hu
  | j + 5, hu => exact Or.inr ⟨by omega, by omega, hu, fun q => by omega⟩
theorem R_istore_3 {z0 z1 z2 : Option Value} {y : Option Value} {t : List (Option Value)} {x : Int32} (hb : a_c1 z2 = true) (hn : 3 < T.2.2.1) (d : decode T.2.1 pc = .ok (.istore_n 3, 1)) (k : R T r mc ms Q QX kc ks (pc + 1) (z0 :: z1 :: z2 :: some (.int x) :: t) (st) S V) : R T r mc ms Q QX kc ks (pc) (z0 :: z1 :: z2 :: y :: t) (.int x :: st) S V :=
  fun p l e s m args below meth c H locs cells slots D cA o x0 ls C K hl hP hz hS ho h1 h2 => lv_istore_n C.1 C.2.1 d rfl hl.has hn rfl (fun ls9 hl9 => k p l e s m args below meth c H locs cells slots D cA o x0 ls9 C K (a_lv.st1 (v := .int x) (a_s1_3 hb) hl9) hP hz hS ho h1 h2)
theorem R_fstore_3 {z0 z1 z2 : Option Value} {y : Option Value} {t : List (Option Value)} {x : UInt32} (hb : a_c1 z2 = true) (hn : 3 < T.2.2.1) (d : decode T.2.1 pc = .ok (.fstore_n 3, 1)) (k : R T r mc ms Q QX kc ks (pc + 1) (z0 :: z1 :: z2 :: some (.float x) :: t) (st) S V) : R T r mc ms Q QX kc ks (pc) (z0 :: z1 :: z2 :: y :: t) (.float x :: st) S V :=
  fun p l e s m args below meth c H locs cells slots D cA o x0 ls C K hl hP hz hS ho h1 h2 => lv_fstore_n C.1 C.2.1 d rfl hl.has hn rfl (fun ls9 hl9 => k p l e s m args below meth c H locs cells slots D cA o x0 ls9 C K (a_lv.st1 (v := .float x) (a_s1_3 hb) hl9) hP hz hS ho h1 h2)
theorem R_astore_3 {z0 z1 z2 : Option Value} {y : Option Value} {t : List (Option Value)} {x : Nat} (hb : a_c1 z2 = true) (hn : 3 < T.2.2.1) (d : decode T.2.1 pc = .ok (.astore_n 3, 1)) (k : R T r mc ms Q QX kc ks (pc + 1) (z0 :: z1 :: z2 :: some (.ref x) :: t) (st) S V) : R T r mc ms Q QX kc ks (pc) (z0 :: z1 :: z2 :: y :: t) (.ref x :: st) S V :=
  fun p l e s m args below meth c H locs cells slots D cA o x0 ls C K hl hP hz hS ho h1 h2 => lv_astore_n C.1 C.2.1 d rfl hl.has hn rfl (fun ls9 hl9 => k p l e s m args below meth c H locs cells slots D cA o x0 ls9 C K (a_lv.st1 (v := .ref x) (a_s1_3 hb) hl9) hP hz hS ho h1 h2)
theorem R_lstore_3 {z0 z1 z2 : Option Value} {y y2 : Option Value} {t : List (Option Value)} {x : Int64} (hb : a_c1 z2 = true) (hn : 3 + 1 < T.2.2.1) (d : decode T.2.1 pc = .ok (.lstore_n 3, 1)) (k : R T r mc ms Q QX kc ks (pc + 1) (z0 :: z1 :: z2 :: some (.long x) :: none :: t) (st) S V) : R T r mc ms Q QX kc ks (pc) (z0 :: z1 :: z2 :: y :: y2 :: t) (.long x :: st) S V :=
  fun p l e s m args below meth c H locs cells slots D cA o x0 ls C K hl hP hz hS ho h1 h2 => lv_lstore_n C.1 C.2.1 d rfl hl.has hn rfl (fun ls9 hl9 => k p l e s m args below meth c H locs cells slots D cA o x0 ls9 C K (a_lv.st2 (v := .long x) (a_s2_3 hb) hl9) hP hz hS ho h1 h2)
theorem R_iinc_3 {z0 z1 z2 : Option Value} {t : List (Option Value)} {n : Int} {x v : Int32} (hb : a_c1 z2 = true) (hn : 3 < T.2.2.1) (d : decode T.2.1 pc = .ok (.iinc 3 n, 3)) (hv : x + Int32.ofInt n = v) (k : R T r mc ms Q QX kc ks (pc + 3) (z0 :: z1 :: z2 :: some (.int v) :: t) (st) S V) : R T r mc ms Q QX kc ks (pc) (z0 :: z1 :: z2 :: some (.int x) :: t) (st) S V := by
  intro p l e s m args below meth c H locs cells slots D cA o x0 ls C K hl hP hz hS ho h1 h2
  obtain ⟨k9, hk9⟩ := List.getElem?_of_mem (a_al_mem (o := o) (x0 := x0) (lv := z0 :: z1 :: z2 :: some (.int x) :: t) (q := (3, .int x)) |>.mpr ⟨.int x, rfl, rfl⟩)
  exact lv_iinc C.1 C.2.1 d hl.has hk9 hv hn rfl (fun ls9 hl9 => k p l e s m args below meth c H locs cells slots D cA o x0 ls9 C K (a_lv.st1 (v := .int v) (a_s1_3 hb) hl9) hP hz hS ho h1 h2)
theorem a_s1_4 {z0 z1 z2 z3 : Option Value} {y : Option Value} {t : List (Option Value)} {v : Value} (hb : a_c1 z3 = true) : a_s1 4 v (z0 :: z1 :: z2 :: z3 :: y :: t) (z0 :: z1 :: z2 :: z3 :: some v :: t) := by
  intro j u hu
  match j, hu with
  | 0, hu => exact Or.inr ⟨by decide, hu, fun q => absurd q.1 (by decide)⟩
  | 1, hu => exact Or.inr ⟨by decide, hu, fun q => absurd q.1 (by decide)⟩
  | 2, hu => exact Or.inr ⟨by decide, hu, fun q => absurd q.1 (by decide)⟩
  | 3, hu => cases hu; exact Or.inr ⟨by decide, rfl, fun q => a_c1_of hb q.2⟩
  | 4, hu => cases hu; exact Or.inl ⟨rfl, rfl⟩
  | j + 5, hu => exact Or.inr ⟨by omega, hu, fun q => by omega⟩
theorem a_s2_4 {z0 z1 z2 z3 : Option Value} {y y2 : Option Value} {t : List (Option Value)} {v : Value} (hb : a_c1 z3 = true) : a_s2 4 v (z0 :: z1 :: z2 :: z3 :: y :: y2 :: t) (z0 :: z1 :: z2 :: z3 :: some v :: none :: t) := by
  intro j u hu
  match j, hu with
  | 0, hu => exact Or.inr ⟨by decide, by decide, hu, fun q => absurd q.1 (by decide)⟩
  | 1, hu => exact Or.inr ⟨by decide, by decide, hu, fun q => absurd q.1 (by decide)⟩
  | 2, hu => exact Or.inr ⟨by decide, by decide, hu, fun q => absurd q.1 (by decide)⟩
  | 3, hu => cases hu; exact Or.inr ⟨by decide, by decide, rfl, fun q => a_c1_of hb q.2⟩
  | 4, hu => cases hu; exact Or.inl ⟨rfl, rfl⟩
  | 5, hu => cases hu
  | j + 6, hu => exact Or.inr ⟨by omega, by omega, hu, fun q => by omega⟩
theorem R_istore_4 {z0 z1 z2 z3 : Option Value} {y : Option Value} {t : List (Option Value)} {x : Int32} (hb : a_c1 z3 = true) (hn : 4 < T.2.2.1) (d : decode T.2.1 pc = .ok (.istore 4, 2)) (k : R T r mc ms Q QX kc ks (pc + 2) (z0 :: z1 :: z2 :: z3 :: some (.int x) :: t) (st) S V) : R T r mc ms Q QX kc ks (pc) (z0 :: z1 :: z2 :: z3 :: y :: t) (.int x :: st) S V :=
  fun p l e s m args below meth c H locs cells slots D cA o x0 ls C K hl hP hz hS ho h1 h2 => lv_istore C.1 C.2.1 d hl.has hn rfl (fun ls9 hl9 => k p l e s m args below meth c H locs cells slots D cA o x0 ls9 C K (a_lv.st1 (v := .int x) (a_s1_4 hb) hl9) hP hz hS ho h1 h2)
theorem R_fstore_4 {z0 z1 z2 z3 : Option Value} {y : Option Value} {t : List (Option Value)} {x : UInt32} (hb : a_c1 z3 = true) (hn : 4 < T.2.2.1) (d : decode T.2.1 pc = .ok (.fstore 4, 2)) (k : R T r mc ms Q QX kc ks (pc + 2) (z0 :: z1 :: z2 :: z3 :: some (.float x) :: t) (st) S V) : R T r mc ms Q QX kc ks (pc) (z0 :: z1 :: z2 :: z3 :: y :: t) (.float x :: st) S V :=
  fun p l e s m args below meth c H locs cells slots D cA o x0 ls C K hl hP hz hS ho h1 h2 => lv_fstore C.1 C.2.1 d hl.has hn rfl (fun ls9 hl9 => k p l e s m args below meth c H locs cells slots D cA o x0 ls9 C K (a_lv.st1 (v := .float x) (a_s1_4 hb) hl9) hP hz hS ho h1 h2)
theorem R_astore_4 {z0 z1 z2 z3 : Option Value} {y : Option Value} {t : List (Option Value)} {x : Nat} (hb : a_c1 z3 = true) (hn : 4 < T.2.2.1) (d : decode T.2.1 pc = .ok (.astore 4, 2)) (k : R T r mc ms Q QX kc ks (pc + 2) (z0 :: z1 :: z2 :: z3 :: some (.ref x) :: t) (st) S V) : R T r mc ms Q QX kc ks (pc) (z0 :: z1 :: z2 :: z3 :: y :: t) (.ref x :: st) S V :=
  fun p l e s m args below meth c H locs cells slots D cA o x0 ls C K hl hP hz hS ho h1 h2 => lv_astore C.1 C.2.1 d hl.has hn rfl (fun ls9 hl9 => k p l e s m args below meth c H locs cells slots D cA o x0 ls9 C K (a_lv.st1 (v := .ref x) (a_s1_4 hb) hl9) hP hz hS ho h1 h2)
theorem R_lstore_4 {z0 z1 z2 z3 : Option Value} {y y2 : Option Value} {t : List (Option Value)} {x : Int64} (hb : a_c1 z3 = true) (hn : 4 + 1 < T.2.2.1) (d : decode T.2.1 pc = .ok (.lstore 4, 2)) (k : R T r mc ms Q QX kc ks (pc + 2) (z0 :: z1 :: z2 :: z3 :: some (.long x) :: none :: t) (st) S V) : R T r mc ms Q QX kc ks (pc) (z0 :: z1 :: z2 :: z3 :: y :: y2 :: t) (.long x :: st) S V :=
  fun p l e s m args below meth c H locs cells slots D cA o x0 ls C K hl hP hz hS ho h1 h2 => lv_lstore C.1 C.2.1 d hl.has hn rfl (fun ls9 hl9 => k p l e s m args below meth c H locs cells slots D cA o x0 ls9 C K (a_lv.st2 (v := .long x) (a_s2_4 hb) hl9) hP hz hS ho h1 h2)
theorem R_iinc_4 {z0 z1 z2 z3 : Option Value} {t : List (Option Value)} {n : Int} {x v : Int32} (hb : a_c1 z3 = true) (hn : 4 < T.2.2.1) (d : decode T.2.1 pc = .ok (.iinc 4 n, 3)) (hv : x + Int32.ofInt n = v) (k : R T r mc ms Q QX kc ks (pc + 3) (z0 :: z1 :: z2 :: z3 :: some (.int v) :: t) (st) S V) : R T r mc ms Q QX kc ks (pc) (z0 :: z1 :: z2 :: z3 :: some (.int x) :: t) (st) S V := by
  intro p l e s m args below meth c H locs cells slots D cA o x0 ls C K hl hP hz hS ho h1 h2
  obtain ⟨k9, hk9⟩ := List.getElem?_of_mem (a_al_mem (o := o) (x0 := x0) (lv := z0 :: z1 :: z2 :: z3 :: some (.int x) :: t) (q := (4, .int x)) |>.mpr ⟨.int x, rfl, rfl⟩)
  exact lv_iinc C.1 C.2.1 d hl.has hk9 hv hn rfl (fun ls9 hl9 => k p l e s m args below meth c H locs cells slots D cA o x0 ls9 C K (a_lv.st1 (v := .int v) (a_s1_4 hb) hl9) hP hz hS ho h1 h2)
theorem a_s1_5 {z0 z1 z2 z3 z4 : Option Value} {y : Option Value} {t : List (Option Value)} {v : Value} (hb : a_c1 z4 = true) : a_s1 5 v (z0 :: z1 :: z2 :: z3 :: z4 :: y :: t) (z0 :: z1 :: z2 :: z3 :: z4 :: some v :: t) := by
  intro j u hu
  match j, hu with
  | 0, hu => exact Or.inr ⟨by decide, hu, fun q => absurd q.1 (by decide)⟩
  | 1, hu => exact Or.inr ⟨by decide, hu, fun q => absurd q.1 (by decide)⟩
  | 2, hu => exact Or.inr ⟨by decide, hu, fun q => absurd q.1 (by decide)⟩
  | 3, hu => exact Or.inr ⟨by decide, hu, fun q => absurd q.1 (by decide)⟩
  | 4, hu => cases hu; exact Or.inr ⟨by decide, rfl, fun q => a_c1_of hb q.2⟩
  | 5, hu => cases hu; exact Or.inl ⟨rfl, rfl⟩
  | j + 6, hu => exact Or.inr ⟨by omega, hu, fun q => by omega⟩
theorem a_s2_5 {z0 z1 z2 z3 z4 : Option Value} {y y2 : Option Value} {t : List (Option Value)} {v : Value} (hb : a_c1 z4 = true) : a_s2 5 v (z0 :: z1 :: z2 :: z3 :: z4 :: y :: y2 :: t) (z0 :: z1 :: z2 :: z3 :: z4 :: some v :: none :: t) := by
  intro j u hu
  match j, hu with
  | 0, hu => exact Or.inr ⟨by decide, by decide, hu, fun q => absurd q.1 (by decide)⟩
  | 1, hu => exact Or.inr ⟨by decide, by decide, hu, fun q => absurd q.1 (by decide)⟩
  | 2, hu => exact Or.inr ⟨by decide, by decide, hu, fun q => absurd q.1 (by decide)⟩
  | 3, hu => exact Or.inr ⟨by decide, by decide, hu, fun q => absurd q.1 (by decide)⟩
  | 4, hu => cases hu; exact Or.inr ⟨by decide, by decide, rfl, fun q => a_c1_of hb q.2⟩
  | 5, hu => cases hu; exact Or.inl ⟨rfl, rfl⟩
  | 6, hu => cases hu
  | j + 7, hu => exact Or.inr ⟨by omega, by omega, hu, fun q => by omega⟩
theorem R_istore_5 {z0 z1 z2 z3 z4 : Option Value} {y : Option Value} {t : List (Option Value)} {x : Int32} (hb : a_c1 z4 = true) (hn : 5 < T.2.2.1) (d : decode T.2.1 pc = .ok (.istore 5, 2)) (k : R T r mc ms Q QX kc ks (pc + 2) (z0 :: z1 :: z2 :: z3 :: z4 :: some (.int x) :: t) (st) S V) : R T r mc ms Q QX kc ks (pc) (z0 :: z1 :: z2 :: z3 :: z4 :: y :: t) (.int x :: st) S V :=
  fun p l e s m args below meth c H locs cells slots D cA o x0 ls C K hl hP hz hS ho h1 h2 => lv_istore C.1 C.2.1 d hl.has hn rfl (fun ls9 hl9 => k p l e s m args below meth c H locs cells slots D cA o x0 ls9 C K (a_lv.st1 (v := .int x) (a_s1_5 hb) hl9) hP hz hS ho h1 h2)
theorem R_fstore_5 {z0 z1 z2 z3 z4 : Option Value} {y : Option Value} {t : List (Option Value)} {x : UInt32} (hb : a_c1 z4 = true) (hn : 5 < T.2.2.1) (d : decode T.2.1 pc = .ok (.fstore 5, 2)) (k : R T r mc ms Q QX kc ks (pc + 2) (z0 :: z1 :: z2 :: z3 :: z4 :: some (.float x) :: t) (st) S V) : R T r mc ms Q QX kc ks (pc) (z0 :: z1 :: z2 :: z3 :: z4 :: y :: t) (.float x :: st) S V :=
  fun p l e s m args below meth c H locs cells slots D cA o x0 ls C K hl hP hz hS ho h1 h2 => lv_fstore C.1 C.2.1 d hl.has hn rfl (fun ls9 hl9 => k p l e s m args below meth c H locs cells slots D cA o x0 ls9 C K (a_lv.st1 (v := .float x) (a_s1_5 hb) hl9) hP hz hS ho h1 h2)
theorem R_astore_5 {z0 z1 z2 z3 z4 : Option Value} {y : Option Value} {t : List (Option Value)} {x : Nat} (hb : a_c1 z4 = true) (hn : 5 < T.2.2.1) (d : decode T.2.1 pc = .ok (.astore 5, 2)) (k : R T r mc ms Q QX kc ks (pc + 2) (z0 :: z1 :: z2 :: z3 :: z4 :: some (.ref x) :: t) (st) S V) : R T r mc ms Q QX kc ks (pc) (z0 :: z1 :: z2 :: z3 :: z4 :: y :: t) (.ref x :: st) S V :=
  fun p l e s m args below meth c H locs cells slots D cA o x0 ls C K hl hP hz hS ho h1 h2 => lv_astore C.1 C.2.1 d hl.has hn rfl (fun ls9 hl9 => k p l e s m args below meth c H locs cells slots D cA o x0 ls9 C K (a_lv.st1 (v := .ref x) (a_s1_5 hb) hl9) hP hz hS ho h1 h2)
theorem R_lstore_5 {z0 z1 z2 z3 z4 : Option Value} {y y2 : Option Value} {t : List (Option Value)} {x : Int64} (hb : a_c1 z4 = true) (hn : 5 + 1 < T.2.2.1) (d : decode T.2.1 pc = .ok (.lstore 5, 2)) (k : R T r mc ms Q QX kc ks (pc + 2) (z0 :: z1 :: z2 :: z3 :: z4 :: some (.long x) :: none :: t) (st) S V) : R T r mc ms Q QX kc ks (pc) (z0 :: z1 :: z2 :: z3 :: z4 :: y :: y2 :: t) (.long x :: st) S V :=
  fun p l e s m args below meth c H locs cells slots D cA o x0 ls C K hl hP hz hS ho h1 h2 => lv_lstore C.1 C.2.1 d hl.has hn rfl (fun ls9 hl9 => k p l e s m args below meth c H locs cells slots D cA o x0 ls9 C K (a_lv.st2 (v := .long x) (a_s2_5 hb) hl9) hP hz hS ho h1 h2)
theorem R_iinc_5 {z0 z1 z2 z3 z4 : Option Value} {t : List (Option Value)} {n : Int} {x v : Int32} (hb : a_c1 z4 = true) (hn : 5 < T.2.2.1) (d : decode T.2.1 pc = .ok (.iinc 5 n, 3)) (hv : x + Int32.ofInt n = v) (k : R T r mc ms Q QX kc ks (pc + 3) (z0 :: z1 :: z2 :: z3 :: z4 :: some (.int v) :: t) (st) S V) : R T r mc ms Q QX kc ks (pc) (z0 :: z1 :: z2 :: z3 :: z4 :: some (.int x) :: t) (st) S V := by
  intro p l e s m args below meth c H locs cells slots D cA o x0 ls C K hl hP hz hS ho h1 h2
  obtain ⟨k9, hk9⟩ := List.getElem?_of_mem (a_al_mem (o := o) (x0 := x0) (lv := z0 :: z1 :: z2 :: z3 :: z4 :: some (.int x) :: t) (q := (5, .int x)) |>.mpr ⟨.int x, rfl, rfl⟩)
  exact lv_iinc C.1 C.2.1 d hl.has hk9 hv hn rfl (fun ls9 hl9 => k p l e s m args below meth c H locs cells slots D cA o x0 ls9 C K (a_lv.st1 (v := .int v) (a_s1_5 hb) hl9) hP hz hS ho h1 h2)
theorem a_s1_6 {z0 z1 z2 z3 z4 z5 : Option Value} {y : Option Value} {t : List (Option Value)} {v : Value} (hb : a_c1 z5 = true) : a_s1 6 v (z0 :: z1 :: z2 :: z3 :: z4 :: z5 :: y :: t) (z0 :: z1 :: z2 :: z3 :: z4 :: z5 :: some v :: t) := by
  intro j u hu
  match j, hu with
  | 0, hu => exact Or.inr ⟨by decide, hu, fun q => absurd q.1 (by decide)⟩
  | 1, hu => exact Or.inr ⟨by decide, hu, fun q => absurd q.1 (by decide)⟩
  | 2, hu => exact Or.inr ⟨by decide, hu, fun q => absurd q.1 (by decide)⟩
  | 3, hu => exact Or.inr ⟨by decide, hu, fun q => absurd q.1 (by decide)⟩
  | 4, hu => exact Or.inr ⟨by decide, hu, fun q => absurd q.1 (by decide)⟩
  | 5, hu => cases hu; exact Or.inr ⟨by decide, rfl, fun q => a_c1_of hb q.2⟩
  | 6, hu => cases hu; exact Or.inl ⟨rfl, rfl⟩
  | j + 7, hu => exact Or.inr ⟨by omega, hu, fun q => by omega⟩
theorem a_s2_6 {z0 z1 z2 z3 z4 z5 : Option Value} {y y2 : Option Value} {t : List (Option Value)} {v : Value} (hb : a_c1 z5 = true) : a_s2 6 v (z0 :: z1 :: z2 :: z3 :: z4 :: z5 :: y :: y2 :: t) (z0 :: z1 :: z2 :: z3 :: z4 :: z5 :: some v :: none :: t) := by
  intro j u hu
  match j, hu with
  | 0, hu => exact Or.inr ⟨by decide, by decide, hu, fun q => absurd q.1 (by decide)⟩
  | 1, hu => exact Or.inr ⟨by decide, by decide, hu, fun q => absurd q.1 (by decide)⟩
  | 2, hu => exact Or.inr ⟨by decide, by decide, hu, fun q => absurd q.1 (by decide)⟩
  | 3, hu => exact Or.inr ⟨by decide, by decide, hu, fun q => absurd q.1 (by decide)⟩
  | 4, hu => exact Or.inr ⟨by decide, by decide, hu, fun q => absurd q.1 (by decide)⟩
  | 5, hu => cases hu; exact Or.inr ⟨by decide, by decide, rfl, fun q => a_c1_of hb q.2⟩
  | 6, hu => cases hu; exact Or.inl ⟨rfl, rfl⟩
  | 7, hu => cases hu
  | j + 8, hu => exact Or.inr ⟨by omega, by omega, hu, fun q => by omega⟩
theorem R_istore_6 {z0 z1 z2 z3 z4 z5 : Option Value} {y : Option Value} {t : List (Option Value)} {x : Int32} (hb : a_c1 z5 = true) (hn : 6 < T.2.2.1) (d : decode T.2.1 pc = .ok (.istore 6, 2)) (k : R T r mc ms Q QX kc ks (pc + 2) (z0 :: z1 :: z2 :: z3 :: z4 :: z5 :: some (.int x) :: t) (st) S V) : R T r mc ms Q QX kc ks (pc) (z0 :: z1 :: z2 :: z3 :: z4 :: z5 :: y :: t) (.int x :: st) S V :=
  fun p l e s m args below meth c H locs cells slots D cA o x0 ls C K hl hP hz hS ho h1 h2 => lv_istore C.1 C.2.1 d hl.has hn rfl (fun ls9 hl9 => k p l e s m args below meth c H locs cells slots D cA o x0 ls9 C K (a_lv.st1 (v := .int x) (a_s1_6 hb) hl9) hP hz hS ho h1 h2)
theorem R_fstore_6 {z0 z1 z2 z3 z4 z5 : Option Value} {y : Option Value} {t : List (Option Value)} {x : UInt32} (hb : a_c1 z5 = true) (hn : 6 < T.2.2.1) (d : decode T.2.1 pc = .ok (.fstore 6, 2)) (k : R T r mc ms Q QX kc ks (pc + 2) (z0 :: z1 :: z2 :: z3 :: z4 :: z5 :: some (.float x) :: t) (st) S V) : R T r mc ms Q QX kc ks (pc) (z0 :: z1 :: z2 :: z3 :: z4 :: z5 :: y :: t) (.float x :: st) S V :=
  fun p l e s m args below meth c H locs cells slots D cA o x0 ls C K hl hP hz hS ho h1 h2 => lv_fstore C.1 C.2.1 d hl.has hn rfl (fun ls9 hl9 => k p l e s m args below meth c H locs cells slots D cA o x0 ls9 C K (a_lv.st1 (v := .float x) (a_s1_6 hb) hl9) hP hz hS ho h1 h2)
theorem R_astore_6 {z0 z1 z2 z3 z4 z5 : Option Value} {y : Option Value} {t : List (Option Value)} {x : Nat} (hb : a_c1 z5 = true) (hn : 6 < T.2.2.1) (d : decode T.2.1 pc = .ok (.astore 6, 2)) (k : R T r mc ms Q QX kc ks (pc + 2) (z0 :: z1 :: z2 :: z3 :: z4 :: z5 :: some (.ref x) :: t) (st) S V) : R T r mc ms Q QX kc ks (pc) (z0 :: z1 :: z2 :: z3 :: z4 :: z5 :: y :: t) (.ref x :: st) S V :=
  fun p l e s m args below meth c H locs cells slots D cA o x0 ls C K hl hP hz hS ho h1 h2 => lv_astore C.1 C.2.1 d hl.has hn rfl (fun ls9 hl9 => k p l e s m args below meth c H locs cells slots D cA o x0 ls9 C K (a_lv.st1 (v := .ref x) (a_s1_6 hb) hl9) hP hz hS ho h1 h2)
theorem R_lstore_6 {z0 z1 z2 z3 z4 z5 : Option Value} {y y2 : Option Value} {t : List (Option Value)} {x : Int64} (hb : a_c1 z5 = true) (hn : 6 + 1 < T.2.2.1) (d : decode T.2.1 pc = .ok (.lstore 6, 2)) (k : R T r mc ms Q QX kc ks (pc + 2) (z0 :: z1 :: z2 :: z3 :: z4 :: z5 :: some (.long x) :: none :: t) (st) S V) : R T r mc ms Q QX kc ks (pc) (z0 :: z1 :: z2 :: z3 :: z4 :: z5 :: y :: y2 :: t) (.long x :: st) S V :=
  fun p l e s m args below meth c H locs cells slots D cA o x0 ls C K hl hP hz hS ho h1 h2 => lv_lstore C.1 C.2.1 d hl.has hn rfl (fun ls9 hl9 => k p l e s m args below meth c H locs cells slots D cA o x0 ls9 C K (a_lv.st2 (v := .long x) (a_s2_6 hb) hl9) hP hz hS ho h1 h2)
theorem R_iinc_6 {z0 z1 z2 z3 z4 z5 : Option Value} {t : List (Option Value)} {n : Int} {x v : Int32} (hb : a_c1 z5 = true) (hn : 6 < T.2.2.1) (d : decode T.2.1 pc = .ok (.iinc 6 n, 3)) (hv : x + Int32.ofInt n = v) (k : R T r mc ms Q QX kc ks (pc + 3) (z0 :: z1 :: z2 :: z3 :: z4 :: z5 :: some (.int v) :: t) (st) S V) : R T r mc ms Q QX kc ks (pc) (z0 :: z1 :: z2 :: z3 :: z4 :: z5 :: some (.int x) :: t) (st) S V := by
  intro p l e s m args below meth c H locs cells slots D cA o x0 ls C K hl hP hz hS ho h1 h2
  obtain ⟨k9, hk9⟩ := List.getElem?_of_mem (a_al_mem (o := o) (x0 := x0) (lv := z0 :: z1 :: z2 :: z3 :: z4 :: z5 :: some (.int x) :: t) (q := (6, .int x)) |>.mpr ⟨.int x, rfl, rfl⟩)
  exact lv_iinc C.1 C.2.1 d hl.has hk9 hv hn rfl (fun ls9 hl9 => k p l e s m args below meth c H locs cells slots D cA o x0 ls9 C K (a_lv.st1 (v := .int v) (a_s1_6 hb) hl9) hP hz hS ho h1 h2)
theorem a_s1_7 {z0 z1 z2 z3 z4 z5 z6 : Option Value} {y : Option Value} {t : List (Option Value)} {v : Value} (hb : a_c1 z6 = true) : a_s1 7 v (z0 :: z1 :: z2 :: z3 :: z4 :: z5 :: z6 :: y :: t) (z0 :: z1 :: z2 :: z3 :: z4 :: z5 :: z6 :: some v :: t) := by
  intro j u hu
  match j, hu with
  | 0, hu => exact Or.inr ⟨by decide, hu, fun q => absurd q.1 (by decide)⟩
  | 1, hu => exact Or.inr ⟨by decide, hu, fun q => absurd q.1 (by decide)⟩
  | 2, hu => exact Or.inr ⟨by decide, hu, fun q => absurd q.1 (by decide)⟩
  | 3, hu => exact Or.inr ⟨by decide, hu, fun q => absurd q.1 (by decide)⟩
  | 4, hu => exact Or.inr ⟨by decide, hu, fun q => absurd q.1 (by decide)⟩
  | 5, hu => exact Or.inr ⟨by decide, hu, fun q => absurd q.1 (by decide)⟩
  | 6, hu => cases hu; exact Or.inr ⟨by decide, rfl, fun q => a_c1_of hb q.2⟩
  | 7, hu => cases hu; exact Or.inl ⟨rfl, rfl⟩
  | j + 8, hu => exact Or.inr ⟨by omega, hu, fun q => by omega⟩
theorem a_s2_7 {z0 z1 z2 z3 z4 z5 z6 : Option Value} {y y2 : Option Value} {t : List (Option Value)} {v : Value} (hb : a_c1 z6 = true) : a_s2 7 v (z0 :: z1 :: z2 :: z3 :: z4 :: z5 :: z6 :: y :: y2 :: t) (z0 :: z1 :: z2 :: z3 :: z4 :: z5 :: z6 :: some v :: none :: t) := by
  intro j u hu
  match j, hu with
  | 0, hu => exact Or.inr ⟨by decide, by decide, hu, fun q => absurd q.1 (by decide)⟩
  | 1, hu => exact Or.inr ⟨by decide, by decide, hu, fun q => absurd q.1 (by decide)⟩
  | 2, hu => exact Or.inr ⟨by decide, by decide, hu, fun q => absurd q.1 (by decide)⟩
  | 3, hu => exact Or.inr ⟨by decide, by decide, hu, fun q => absurd q.1 (by decide)⟩
  | 4, hu => exact Or.inr ⟨by decide, by decide, hu, fun q => absurd q.1 (by decide)⟩
  | 5, hu => exact Or.inr ⟨by decide, by decide, hu, fun q => absurd q.1 (by decide)⟩
  | 6, hu => cases hu; exact Or.inr ⟨by decide, by decide, rfl, fun q => a_c1_of hb q.2⟩
  | 7, hu => cases hu; exact Or.inl ⟨rfl, rfl⟩
  | 8, hu => cases hu
  | j + 9, hu => exact Or.inr ⟨by omega, by omega, hu, fun q => by omega⟩
theorem R_istore_7 {z0 z1 z2 z3 z4 z5 z6 : Option Value} {y : Option Value} {t : List (Option Value)} {x : Int32} (hb : a_c1 z6 = true) (hn : 7 < T.2.2.1) (d : decode T.2.1 pc = .ok (.istore 7, 2)) (k : R T r mc ms Q QX kc ks (pc + 2) (z0 :: z1 :: z2 :: z3 :: z4 :: z5 :: z6 :: some (.int x) :: t) (st) S V) : R T r mc ms Q QX kc ks (pc) (z0 :: z1 :: z2 :: z3 :: z4 :: z5 :: z6 :: y :: t) (.int x :: st) S V :=
  fun p l e s m args below meth c H locs cells slots D cA o x0 ls C K hl hP hz hS ho h1 h2 => lv_istore C.1 C.2.1 d hl.has hn rfl (fun ls9 hl9 => k p l e s m args below meth c H locs cells slots D cA o x0 ls9 C K (a_lv.st1 (v := .int x) (a_s1_7 hb) hl9) hP hz hS ho h1 h2)
theorem R_fstore_7 {z0 z1 z2 z3 z4 z5 z6 : Option Value} {y : Option Value} {t : List (Option Value)} {x : UInt32} (hb : a_c1 z6 = true) (hn : 7 < T.2.2.1) (d : decode T.2.1 pc = .ok (.fstore 7, 2)) (k : R T r mc ms Q QX kc ks (pc + 2) (z0 :: z1 :: z2 :: z3 :: z4 :: z5 :: z6 :: some (.float x) :: t) (st) S V) : R T r mc ms Q QX kc ks (pc) (z0 :: z1 :: z2 :: z3 :: z4 :: z5 :: z6 :: y :: t) (.float x :: st) S V :=
  fun p l e s m args below meth c H locs cells slots D cA o x0 ls C K hl hP hz hS ho h1 h2 => lv_fstore C.1 C.2.1 d hl.has hn rfl (fun ls9 hl9 => k p l e s m args below meth c H locs cells slots D cA o x0 ls9 C K (a_lv.st1 (v := .float x) (a_s1_7 hb) hl9) hP hz hS ho h1 h2)
theorem R_astore_7 {z0 z1 z2 z3 z4 z5 z6 : Option Value} {y : Option Value} {t : List (Option Value)} {x : Nat} (hb : a_c1 z6 = true) (hn : 7 < T.2.2.1) (d : decode T.2.1 pc = .ok (.astore 7, 2)) (k : R T r mc ms Q QX kc ks (pc + 2) (z0 :: z1 :: z2 :: z3 :: z4 :: z5 :: z6 :: some (.ref x) :: t) (st) S V) : R T r mc ms Q QX kc ks (pc) (z0 :: z1 :: z2 :: z3 :: z4 :: z5 :: z6 :: y :: t) (.ref x :: st) S V :=
  fun p l e s m args below meth c H locs cells slots D cA o x0 ls C K hl hP hz hS ho h1 h2 => lv_astore C.1 C.2.1 d hl.has hn rfl (fun ls9 hl9 => k p l e s m args below meth c H locs cells slots D cA o x0 ls9 C K (a_lv.st1 (v := .ref x) (a_s1_7 hb) hl9) hP hz hS ho h1 h2)
theorem R_lstore_7 {z0 z1 z2 z3 z4 z5 z6 : Option Value} {y y2 : Option Value} {t : List (Option Value)} {x : Int64} (hb : a_c1 z6 = true) (hn : 7 + 1 < T.2.2.1) (d : decode T.2.1 pc = .ok (.lstore 7, 2)) (k : R T r mc ms Q QX kc ks (pc + 2) (z0 :: z1 :: z2 :: z3 :: z4 :: z5 :: z6 :: some (.long x) :: none :: t) (st) S V) : R T r mc ms Q QX kc ks (pc) (z0 :: z1 :: z2 :: z3 :: z4 :: z5 :: z6 :: y :: y2 :: t) (.long x :: st) S V :=
  fun p l e s m args below meth c H locs cells slots D cA o x0 ls C K hl hP hz hS ho h1 h2 => lv_lstore C.1 C.2.1 d hl.has hn rfl (fun ls9 hl9 => k p l e s m args below meth c H locs cells slots D cA o x0 ls9 C K (a_lv.st2 (v := .long x) (a_s2_7 hb) hl9) hP hz hS ho h1 h2)
theorem R_iinc_7 {z0 z1 z2 z3 z4 z5 z6 : Option Value} {t : List (Option Value)} {n : Int} {x v : Int32} (hb : a_c1 z6 = true) (hn : 7 < T.2.2.1) (d : decode T.2.1 pc = .ok (.iinc 7 n, 3)) (hv : x + Int32.ofInt n = v) (k : R T r mc ms Q QX kc ks (pc + 3) (z0 :: z1 :: z2 :: z3 :: z4 :: z5 :: z6 :: some (.int v) :: t) (st) S V) : R T r mc ms Q QX kc ks (pc) (z0 :: z1 :: z2 :: z3 :: z4 :: z5 :: z6 :: some (.int x) :: t) (st) S V := by
  intro p l e s m args below meth c H locs cells slots D cA o x0 ls C K hl hP hz hS ho h1 h2
  obtain ⟨k9, hk9⟩ := List.getElem?_of_mem (a_al_mem (o := o) (x0 := x0) (lv := z0 :: z1 :: z2 :: z3 :: z4 :: z5 :: z6 :: some (.int x) :: t) (q := (7, .int x)) |>.mpr ⟨.int x, rfl, rfl⟩)
  exact lv_iinc C.1 C.2.1 d hl.has hk9 hv hn rfl (fun ls9 hl9 => k p l e s m args below meth c H locs cells slots D cA o x0 ls9 C K (a_lv.st1 (v := .int v) (a_s1_7 hb) hl9) hP hz hS ho h1 h2)
theorem a_s1_8 {z0 z1 z2 z3 z4 z5 z6 z7 : Option Value} {y : Option Value} {t : List (Option Value)} {v : Value} (hb : a_c1 z7 = true) : a_s1 8 v (z0 :: z1 :: z2 :: z3 :: z4 :: z5 :: z6 :: z7 :: y :: t) (z0 :: z1 :: z2 :: z3 :: z4 :: z5 :: z6 :: z7 :: some v :: t) := by
  intro j u hu
  match j, hu with
  | 0, hu => exact Or.inr ⟨by decide, hu, fun q => absurd q.1 (by decide)⟩
  | 1, hu => exact Or.inr ⟨by decide, hu, fun q => absurd q.1 (by decide)⟩
  | 2, hu => exact Or.inr ⟨by decide, hu, fun q => absurd q.1 (by decide)⟩
  | 3, hu => exact Or.inr ⟨by decide, hu, fun q => absurd q.1 (by decide)⟩
  | 4, hu => exact Or.inr ⟨by decide, hu, fun q => absurd q.1 (by decide)⟩
  | 5, hu => exact Or.inr ⟨by decide, hu, fun q => absurd q.1 (by decide)⟩
  | 6, hu => exact Or.inr ⟨by decide, hu, fun q => absurd q.1 (by decide)⟩
  | 7, hu => cases hu; exact Or.inr ⟨by decide, rfl, fun q => a_c1_of hb q.2⟩
  | 8, hu => cases hu; exact Or.inl ⟨rfl, rfl⟩
  | j + 9, hu => exact Or.inr ⟨by omega, hu, fun q => by omega⟩
theorem a_s2_8 {z0 z1 z2 z3 z4 z5 z6 z7 : Option Value} {y y2 : Option Value} {t : List (Option Value)} {v : Value} (hb : a_c1 z7 = true) : a_s2 8 v (z0 :: z1 :: z2 :: z3 :: z4 :: z5 :: z6 :: z7 :: y :: y2 :: t) (z0 :: z1 :: z2 :: z3 :: z4 :: z5 :: z6 :: z7 :: some v :: none :: t) := by
  intro j u hu
  match j, hu with
  | 0, hu => exact Or.inr ⟨by decide, by decide, hu, fun q => absurd q.1 (by decide)⟩
  | 1, hu => exact Or.inr ⟨by decide, by decide, hu, fun q => absurd q.1 (by decide)⟩
  | 2, hu => exact Or.inr ⟨by decide, by decide, hu, fun q => absurd q.1 (by decide)⟩
  | 3, hu => exact Or.inr ⟨by decide, by decide, hu, fun q => absurd q.1 (by decide)⟩
  | 4, hu => exact Or.inr ⟨by decide, by decide, hu, fun q => absurd q.1 (by decide)⟩
  | 5, hu => exact Or.inr ⟨by decide, by decide, hu, fun q => absurd q.1 (by decide)⟩
  | 6, hu => exact Or.inr ⟨by decide, by decide, hu, fun q => absurd q.1 (by decide)⟩
  | 7, hu => cases hu; exact Or.inr ⟨by decide, by decide, rfl, fun q => a_c1_of hb q.2⟩
  | 8, hu => cases hu; exact Or.inl ⟨rfl, rfl⟩
  | 9, hu => cases hu
  | j + 10, hu => exact Or.inr ⟨by omega, by omega, hu, fun q => by omega⟩
theorem R_istore_8 {z0 z1 z2 z3 z4 z5 z6 z7 : Option Value} {y : Option Value} {t : List (Option Value)} {x : Int32} (hb : a_c1 z7 = true) (hn : 8 < T.2.2.1) (d : decode T.2.1 pc = .ok (.istore 8, 2)) (k : R T r mc ms Q QX kc ks (pc + 2) (z0 :: z1 :: z2 :: z3 :: z4 :: z5 :: z6 :: z7 :: some (.int x) :: t) (st) S V) : R T r mc ms Q QX kc ks (pc) (z0 :: z1 :: z2 :: z3 :: z4 :: z5 :: z6 :: z7 :: y :: t) (.int x :: st) S V :=
  fun p l e s m args below meth c H locs cells slots D cA o x0 ls C K hl hP hz hS ho h1 h2 => lv_istore C.1 C.2.1 d hl.has hn rfl (fun ls9 hl9 => k p l e s m args below meth c H locs cells slots D cA o x0 ls9 C K (a_lv.st1 (v := .int x) (a_s1_8 hb) hl9) hP hz hS ho h1 h2)
theorem R_fstore_8 {z0 z1 z2 z3 z4 z5 z6 z7 : Option Value} {y : Option Value} {t : List (Option Value)} {x : UInt32} (hb : a_c1 z7 = true) (hn : 8 < T.2.2.1) (d : decode T.2.1 pc = .ok (.fstore 8, 2)) (k : R T r mc ms Q QX kc ks (pc + 2) (z0 :: z1 :: z2 :: z3 :: z4 :: z5 :: z6 :: z7 :: some (.float x) :: t) (st) S V) : R T r mc ms Q QX kc ks (pc) (z0 :: z1 :: z2 :: z3 :: z4 :: z5 :: z6 :: z7 :: y :: t) (.float x :: st) S V :=
  fun p l e s m args below meth c H locs cells slots D cA o x0 ls C K hl hP hz hS ho h1 h2 => lv_fstore C.1 C.2.1 d hl.has hn rfl (fun ls9 hl9 => k p l e s m args below meth c H locs cells slots D cA o x0 ls9 C K (a_lv.st1 (v := .float x) (a_s1_8 hb) hl9) hP hz hS ho h1 h2)
theorem R_astore_8 {z0 z1 z2 z3 z4 z5 z6 z7 : Option Value} {y : Option Value} {t : List (Option Value)} {x : Nat} (hb : a_c1 z7 = true) (hn : 8 < T.2.2.1) (d : decode T.2.1 pc = .ok (.astore 8, 2)) (k : R T r mc ms Q QX kc ks (pc + 2) (z0 :: z1 :: z2 :: z3 :: z4 :: z5 :: z6 :: z7 :: some (.ref x) :: t) (st) S V) : R T r mc ms Q QX kc ks (pc) (z0 :: z1 :: z2 :: z3 :: z4 :: z5 :: z6 :: z7 :: y :: t) (.ref x :: st) S V :=
  fun p l e s m args below meth c H locs cells slots D cA o x0 ls C K hl hP hz hS ho h1 h2 => lv_astore C.1 C.2.1 d hl.has hn rfl (fun ls9 hl9 => k p l e s m args below meth c H locs cells slots D cA o x0 ls9 C K (a_lv.st1 (v := .ref x) (a_s1_8 hb) hl9) hP hz hS ho h1 h2)
theorem R_lstore_8 {z0 z1 z2 z3 z4 z5 z6 z7 : Option Value} {y y2 : Option Value} {t : List (Option Value)} {x : Int64} (hb : a_c1 z7 = true) (hn : 8 + 1 < T.2.2.1) (d : decode T.2.1 pc = .ok (.lstore 8, 2)) (k : R T r mc ms Q QX kc ks (pc + 2) (z0 :: z1 :: z2 :: z3 :: z4 :: z5 :: z6 :: z7 :: some (.long x) :: none :: t) (st) S V) : R T r mc ms Q QX kc ks (pc) (z0 :: z1 :: z2 :: z3 :: z4 :: z5 :: z6 :: z7 :: y :: y2 :: t) (.long x :: st) S V :=
  fun p l e s m args below meth c H locs cells slots D cA o x0 ls C K hl hP hz hS ho h1 h2 => lv_lstore C.1 C.2.1 d hl.has hn rfl (fun ls9 hl9 => k p l e s m args below meth c H locs cells slots D cA o x0 ls9 C K (a_lv.st2 (v := .long x) (a_s2_8 hb) hl9) hP hz hS ho h1 h2)
theorem R_iinc_8 {z0 z1 z2 z3 z4 z5 z6 z7 : Option Value} {t : List (Option Value)} {n : Int} {x v : Int32} (hb : a_c1 z7 = true) (hn : 8 < T.2.2.1) (d : decode T.2.1 pc = .ok (.iinc 8 n, 3)) (hv : x + Int32.ofInt n = v) (k : R T r mc ms Q QX kc ks (pc + 3) (z0 :: z1 :: z2 :: z3 :: z4 :: z5 :: z6 :: z7 :: some (.int v) :: t) (st) S V) : R T r mc ms Q QX kc ks (pc) (z0 :: z1 :: z2 :: z3 :: z4 :: z5 :: z6 :: z7 :: some (.int x) :: t) (st) S V := by
  intro p l e s m args below meth c H locs cells slots D cA o x0 ls C K hl hP hz hS ho h1 h2
  obtain ⟨k9, hk9⟩ := List.getElem?_of_mem (a_al_mem (o := o) (x0 := x0) (lv := z0 :: z1 :: z2 :: z3 :: z4 :: z5 :: z6 :: z7 :: some (.int x) :: t) (q := (8, .int x)) |>.mpr ⟨.int x, rfl, rfl⟩)
  exact lv_iinc C.1 C.2.1 d hl.has hk9 hv hn rfl (fun ls9 hl9 => k p l e s m args below meth c H locs cells slots D cA o x0 ls9 C K (a_lv.st1 (v := .int v) (a_s1_8 hb) hl9) hP hz hS ho h1 h2)
theorem a_s1_9 {z0 z1 z2 z3 z4 z5 z6 z7 z8 : Option Value} {y : Option Value} {t : List (Option Value)} {v : Value} (hb : a_c1 z8 = true) : a_s1 9 v (z0 :: z1 :: z2 :: z3 :: z4 :: z5 :: z6 :: z7 :: z8 :: y :: t) (z0 :: z1 :: z2 :: z3 :: z4 :: z5 :: z6 :: z7 :: z8 :: some v :: t) := by
  intro j u hu
  match j, hu with
  | 0, hu => exact Or.inr ⟨by decide, hu, fun q => absurd q.1 (by decide)⟩
  | 1, hu => exact Or.inr ⟨by decide, hu, fun q => absurd q.1 (by decide)⟩
  | 2, hu => exact Or.inr ⟨by decide, hu, fun q => absurd q.1 (by decide)⟩
  | 3, hu => exact Or.inr ⟨by decide, hu, fun q => absurd q.1 (by decide)⟩
  | 4, hu => exact Or.inr ⟨by decide, hu, fun q => absurd q.1 (by decide)⟩
  | 5, hu => exact Or.inr ⟨by decide, hu, fun q => absurd q.1 (by decide)⟩
  | 6, hu => exact Or.inr ⟨by decide, hu, fun q => absurd q.1 (by decide)⟩
  | 7, hu => exact Or.inr ⟨by decide, hu, fun q => absurd q.1 (by decide)⟩
  | 8, hu => cases hu; exact Or.inr ⟨by decide, rfl, fun q => a_c1_of hb q.2⟩
  | 9, hu => cases hu; exact Or.inl ⟨rfl, rfl⟩
  | j + 10, hu => exact Or.inr ⟨by omega, hu, fun q => by omega⟩
theorem a_s2_9 {z0 z1 z2 z3 z4 z5 z6 z7 z8 : Option Value} {y y2 : Option Value} {t : List (Option Value)} {v : Value} (hb : a_c1 z8 = true) : a_s2 9 v (z0 :: z1 :: z2 :: z3 :: z4 :: z5 :: z6 :: z7 :: z8 :: y :: y2 :: t) (z0 :: z1 :: z2 :: z3 :: z4 :: z5 :: z6 :: z7 :: z8 :: some v :: none :: t) := by
  intro j u hu
  match j, hu with
  | 0, hu => exact Or.inr ⟨by decide, by decide, hu, fun q => absurd q.1 (by decide)⟩
  | 1, hu => exact Or.inr ⟨by decide, by decide, hu, fun q => absurd q.1 (by decide)⟩
  | 2, hu => exact Or.inr ⟨by decide, by decide, hu, fun q => absurd q.1 (by decide)⟩
  | 3, hu => exact Or.inr ⟨by decide, by decide, hu, fun q => absurd q.1 (by decide)⟩
  | 4, hu => exact Or.inr ⟨by decide, by decide, hu, fun q => absurd q.1 (by decide)⟩
  | 5, hu => exact Or.inr ⟨by decide, by decide, hu, fun q => absurd q.1 (by decide)⟩
  | 6, hu => exact Or.inr ⟨by decide, by decide, hu, fun q => absurd q.1 (by decide)⟩
  | 7, hu => exact Or.inr ⟨by decide, by decide, hu, fun q => absurd q.1 (by decide)⟩
  | 8, hu => cases hu; exact Or.inr ⟨by decide, by decide, rfl, fun q => a_c1_of hb q.2⟩
  | 9, hu => cases hu; exact Or.inl ⟨rfl, rfl⟩
  | 10, hu => cases hu
  | j + 11, hu => exact Or.inr ⟨by omega, by omega, hu, fun q => by omega⟩
theorem R_istore_9 {z0 z1 z2 z3 z4 z5 z6 z7 z8 : Option Value} {y : Option Value} {t : List (Option Value)} {x : Int32} (hb : a_c1 z8 = true) (hn : 9 < T.2.2.1) (d : decode T.2.1 pc = .ok (.istore 9, 2)) (k : R T r mc ms Q QX kc ks (pc + 2) (z0 :: z1 :: z2 :: z3 :: z4 :: z5 :: z6 :: z7 :: z8 :: some (.int x) :: t) (st) S V) : R T r mc ms Q QX kc ks (pc) (z0 :: z1 :: z2 :: z3 :: z4 :: z5 :: z6 :: z7 :: z8 :: y :: t) (.int x :: st) S V :=
  fun p l e s m args below meth c H locs cells slots D cA o x0 ls C K hl hP hz hS ho h1 h2 => lv_istore C.1 C.2.1 d hl.has hn rfl (fun ls9 hl9 => k p l e s m args below meth c H locs cells slots D cA o x0 ls9 C K (a_lv.st1 (v := .int x) (a_s1_9 hb) hl9) hP hz hS ho h1 h2)
theorem R_fstore_9 {z0 z1 z2 z3 z4 z5 z6 z7 z8 : Option Value} {y : Option Value} {t : List (Option Value)} {x : UInt32} (hb : a_c1 z8 = true) (hn : 9 < T.2.2.1) (d : decode T.2.1 pc = .ok (.fstore 9, 2)) (k : R T r mc ms Q QX kc ks (pc + 2) (z0 :: z1 :: z2 :: z3 :: z4 :: z5 :: z6 :: z7 :: z8 :: some (.float x) :: t) (st) S V) : R T r mc ms Q QX kc ks (pc) (z0 :: z1 :: z2 :: z3 :: z4 :: z5 :: z6 :: z7 :: z8 :: y :: t) (.float x :: st) S V :=
  fun p l e s m args below meth c H locs cells slots D cA o x0 ls C K hl hP hz hS ho h1 h2 => lv_fstore C.1 C.2.1 d hl.has hn rfl (fun ls9 hl9 => k p l e s m args below meth c H locs cells slots D cA o x0 ls9 C K (a_lv.st1 (v := .float x) (a_s1_9 hb) hl9) hP hz hS ho h1 h2)
theorem R_astore_9 {z0 z1 z2 z3 z4 z5 z6 z7 z8 : Option Value} {y : Option Value} {t : List (Option Value)} {x : Nat} (hb : a_c1 z8 = true) (hn : 9 < T.2.2.1) (d : decode T.2.1 pc = .ok (.astore 9, 2)) (k : R T r mc ms Q QX kc ks (pc + 2) (z0 :: z1 :: z2 :: z3 :: z4 :: z5 :: z6 :: z7 :: z8 :: some (.ref x) :: t) (st) S V) : R T r mc ms Q QX kc ks (pc) (z0 :: z1 :: z2 :: z3 :: z4 :: z5 :: z6 :: z7 :: z8 :: y :: t) (.ref x :: st) S V :=
  fun p l e s m args below meth c H locs cells slots D cA o x0 ls C K hl hP hz hS ho h1 h2 => lv_astore C.1 C.2.1 d hl.has hn rfl (fun ls9 hl9 => k p l e s m args below meth c H locs cells slots D cA o x0 ls9 C K (a_lv.st1 (v := .ref x) (a_s1_9 hb) hl9) hP hz hS ho h1 h2)
theorem R_lstore_9 {z0 z1 z2 z3 z4 z5 z6 z7 z8 : Option Value} {y y2 : Option Value} {t : List (Option Value)} {x : Int64} (hb : a_c1 z8 = true) (hn : 9 + 1 < T.2.2.1) (d : decode T.2.1 pc = .ok (.lstore 9, 2)) (k : R T r mc ms Q QX kc ks (pc + 2) (z0 :: z1 :: z2 :: z3 :: z4 :: z5 :: z6 :: z7 :: z8 :: some (.long x) :: none :: t) (st) S V) : R T r mc ms Q QX kc ks (pc) (z0 :: z1 :: z2 :: z3 :: z4 :: z5 :: z6 :: z7 :: z8 :: y :: y2 :: t) (.long x :: st) S V :=
  fun p l e s m args below meth c H locs cells slots D cA o x0 ls C K hl hP hz hS ho h1 h2 => lv_lstore C.1 C.2.1 d hl.has hn rfl (fun ls9 hl9 => k p l e s m args below meth c H locs cells slots D cA o x0 ls9 C K (a_lv.st2 (v := .long x) (a_s2_9 hb) hl9) hP hz hS ho h1 h2)
theorem R_iinc_9 {z0 z1 z2 z3 z4 z5 z6 z7 z8 : Option Value} {t : List (Option Value)} {n : Int} {x v : Int32} (hb : a_c1 z8 = true) (hn : 9 < T.2.2.1) (d : decode T.2.1 pc = .ok (.iinc 9 n, 3)) (hv : x + Int32.ofInt n = v) (k : R T r mc ms Q QX kc ks (pc + 3) (z0 :: z1 :: z2 :: z3 :: z4 :: z5 :: z6 :: z7 :: z8 :: some (.int v) :: t) (st) S V) : R T r mc ms Q QX kc ks (pc) (z0 :: z1 :: z2 :: z3 :: z4 :: z5 :: z6 :: z7 :: z8 :: some (.int x) :: t) (st) S V := by
  intro p l e s m args below meth c H locs cells slots D cA o x0 ls C K hl hP hz hS ho h1 h2
  obtain ⟨k9, hk9⟩ := List.getElem?_of_mem (a_al_mem (o := o) (x0 := x0) (lv := z0 :: z1 :: z2 :: z3 :: z4 :: z5 :: z6 :: z7 :: z8 :: some (.int x) :: t) (q := (9, .int x)) |>.mpr ⟨.int x, rfl, rfl⟩)
  exact lv_iinc C.1 C.2.1 d hl.has hk9 hv hn rfl (fun ls9 hl9 => k p l e s m args below meth c H locs cells slots D cA o x0 ls9 C K (a_lv.st1 (v := .int v) (a_s1_9 hb) hl9) hP hz hS ho h1 h2)
theorem a_s1_10 {z0 z1 z2 z3 z4 z5 z6 z7 z8 z9 : Option Value} {y : Option Value} {t : List (Option Value)} {v : Value} (hb : a_c1 z9 = true) : a_s1 10 v (z0 :: z1 :: z2 :: z3 :: z4 :: z5 :: z6 :: z7 :: z8 :: z9 :: y :: t) (z0 :: z1 :: z2 :: z3 :: z4 :: z5 :: z6 :: z7 :: z8 :: z9 :: some v :: t) := by
  intro j u hu
  match j, hu with
  | 0, hu => exact Or.inr ⟨by decide, hu, fun q => absurd q.1 (by decide)⟩
  | 1, hu => exact Or.inr ⟨by decide, hu, fun q => absurd q.1 (by decide)⟩
  | 2, hu => exact Or.inr ⟨by decide, hu, fun q => absurd q.1 (by decide)⟩
  | 3, hu => exact Or.inr ⟨by decide, hu, fun q => absurd q.1 (by decide)⟩
  | 4, hu => exact Or.inr ⟨by decide, hu, fun q => absurd q.1 (by decide)⟩
  | 5, hu => exact Or.inr ⟨by decide, hu, fun q => absurd q.1 (by decide)⟩
  | 6, hu => exact Or.inr ⟨by decide, hu, fun q => absurd q.1 (by decide)⟩
  | 7, hu => exact Or.inr ⟨by decide, hu, fun q => absurd q.1 (by decide)⟩
  | 8, hu => exact Or.inr ⟨by decide, hu, fun q => absurd q.1 (by decide)⟩
  | 9, hu => cases hu; exact Or.inr ⟨by decide, rfl, fun q => a_c1_of hb q.2⟩
  | 10, hu => cases hu; exact Or.inl ⟨rfl, rfl⟩
  | j + 11, hu => exact Or.inr ⟨by omega, hu, fun q => by omega⟩
theorem a_s2_10 {z0 z1 z2 z3 z4 z5 z6 z7 z8 z9 : Option Value} {y y2 : Option Value} {t : List (Option Value)} {v : Value} (hb : a_c1 z9 = true) : a_s2 10 v (z0 :: z1 :: z2 :: z3 :: z4 :: z5 :: z6 :: z7 :: z8 :: z9 :: y :: y2 :: t) (z0 :: z1 :: z2 :: z3 :: z4 :: z5 :: z6 :: z7 :: z8 :: z9 :: some v :: none :: t) := by
  intro j u hu
  match j, hu with
  | 0, hu => exact Or.inr ⟨by decide, by decide, hu, fun q => absurd q.1 (by decide)⟩
  | 1, hu => exact Or.inr ⟨by decide, by decide, hu, fun q => absurd q.1 (by decide)⟩
  | 2, hu => exact Or.inr ⟨by decide, by decide, hu, fun q => absurd q.1 (by decide)⟩
  | 3, hu => exact Or.inr ⟨by decide, by decide, hu, fun q => absurd q.1 (by decide)⟩
  | 4, hu => exact Or.inr ⟨by decide, by decide, hu, fun q => absurd q.1 (by decide)⟩
  | 5, hu => exact Or.inr ⟨by decide, by decide, hu, fun q => absurd q.1 (by decide)⟩
  | 6, hu => exact Or.inr ⟨by decide, by decide, hu, fun q => absurd q.1 (by decide)⟩
  | 7, hu => exact Or.inr ⟨by decide, by decide, hu, fun q => absurd q.1 (by decide)⟩
  | 8, hu => exact Or.inr ⟨by decide, by decide, hu, fun q => absurd q.1 (by decide)⟩
  | 9, hu => cases hu; exact Or.inr ⟨by decide, by decide, rfl, fun q => a_c1_of hb q.2⟩
  | 10, hu => cases hu; exact Or.inl ⟨rfl, rfl⟩
  | 11, hu => cases hu
  | j + 12, hu => exact Or.inr ⟨by omega, by omega, hu, fun q => by omega⟩
theorem R_istore_10 {z0 z1 z2 z3 z4 z5 z6 z7 z8 z9 : Option Value} {y : Option Value} {t : List (Option Value)} {x : Int32} (hb : a_c1 z9 = true) (hn : 10 < T.2.2.1) (d : decode T.2.1 pc = .ok (.istore 10, 2)) (k : R T r mc ms Q QX kc ks (pc + 2) (z0 :: z1 :: z2 :: z3 :: z4 :: z5 :: z6 :: z7 :: z8 :: z9 :: some (.int x) :: t) (st) S V) : R T r mc ms Q QX kc ks (pc) (z0 :: z1 :: z2 :: z3 :: z4 :: z5 :: z6 :: z7 :: z8 :: z9 :: y :: t) (.int x :: st) S V :=
  fun p l e s m args below meth c H locs cells slots D cA o x0 ls C K hl hP hz hS ho h1 h2 => lv_istore C.1 C.2.1 d hl.has hn rfl (fun ls9 hl9 => k p l e s m args below meth c H locs cells slots D cA o x0 ls9 C K (a_lv.st1 (v := .int x) (a_s1_10 hb) hl9) hP hz hS ho h1 h2)
theorem R_fstore_10 {z0 z1 z2 z3 z4 z5 z6 z7 z8 z9 : Option Value} {y : Option Value} {t : List (Option Value)} {x : UInt32} (hb : a_c1 z9 = true) (hn : 10 < T.2.2.1) (d : decode T.2.1 pc = .ok (.fstore 10, 2)) (k : R T r mc ms Q QX kc ks (pc + 2) (z0 :: z1 :: z2 :: z3 :: z4 :: z5 :: z6 :: z7 :: z8 :: z9 :: some (.float x) :: t) (st) S V) : R T r mc ms Q QX kc ks (pc) (z0 :: z1 :: z2 :: z3 :: z4 :: z5 :: z6 :: z7 :: z8 :: z9 :: y :: t) (.float x :: st) S V :=
  fun p l e s m args below meth c H locs cells slots D cA o x0 ls C K hl hP hz hS ho h1 h2 => lv_fstore C.1 C.2.1 d hl.has hn rfl (fun ls9 hl9 => k p l e s m args below meth c H locs cells slots D cA o x0 ls9 C K (a_lv.st1 (v := .float x) (a_s1_10 hb) hl9) hP hz hS ho h1 h2)
theorem R_astore_10 {z0 z1 z2 z3 z4 z5 z6 z7 z8 z9 : Option Value} {y : Option Value} {t : List (Option Value)} {x : Nat} (hb : a_c1 z9 = true) (hn : 10 < T.2.2.1) (d : decode T.2.1 pc = .ok (.astore 10, 2)) (k : R T r mc ms Q QX kc ks (pc + 2) (z0 :: z1 :: z2 :: z3 :: z4 :: z5 :: z6 :: z7 :: z8 :: z9 :: some (.ref x) :: t) (st) S V) : R T r mc ms Q QX kc ks (pc) (z0 :: z1 :: z2 :: z3 :: z4 :: z5 :: z6 :: z7 :: z8 :: z9 :: y :: t) (.ref x :: st) S V :=
  fun p l e s m args below meth c H locs cells slots D cA o x0 ls C K hl hP hz hS ho h1 h2 => lv_astore C.1 C.2.1 d hl.has hn rfl (fun ls9 hl9 => k p l e s m args below meth c H locs cells slots D cA o x0 ls9 C K (a_lv.st1 (v := .ref x) (a_s1_10 hb) hl9) hP hz hS ho h1 h2)
theorem R_lstore_10 {z0 z1 z2 z3 z4 z5 z6 z7 z8 z9 : Option Value} {y y2 : Option Value} {t : List (Option Value)} {x : Int64} (hb : a_c1 z9 = true) (hn : 10 + 1 < T.2.2.1) (d : decode T.2.1 pc = .ok (.lstore 10, 2)) (k : R T r mc ms Q QX kc ks (pc + 2) (z0 :: z1 :: z2 :: z3 :: z4 :: z5 :: z6 :: z7 :: z8 :: z9 :: some (.long x) :: none :: t) (st) S V) : R T r mc ms Q QX kc ks (pc) (z0 :: z1 :: z2 :: z3 :: z4 :: z5 :: z6 :: z7 :: z8 :: z9 :: y :: y2 :: t) (.long x :: st) S V :=
  fun p l e s m args below meth c H locs cells slots D cA o x0 ls C K hl hP hz hS ho h1 h2 => lv_lstore C.1 C.2.1 d hl.has hn rfl (fun ls9 hl9 => k p l e s m args below meth c H locs cells slots D cA o x0 ls9 C K (a_lv.st2 (v := .long x) (a_s2_10 hb) hl9) hP hz hS ho h1 h2)
theorem R_iinc_10 {z0 z1 z2 z3 z4 z5 z6 z7 z8 z9 : Option Value} {t : List (Option Value)} {n : Int} {x v : Int32} (hb : a_c1 z9 = true) (hn : 10 < T.2.2.1) (d : decode T.2.1 pc = .ok (.iinc 10 n, 3)) (hv : x + Int32.ofInt n = v) (k : R T r mc ms Q QX kc ks (pc + 3) (z0 :: z1 :: z2 :: z3 :: z4 :: z5 :: z6 :: z7 :: z8 :: z9 :: some (.int v) :: t) (st) S V) : R T r mc ms Q QX kc ks (pc) (z0 :: z1 :: z2 :: z3 :: z4 :: z5 :: z6 :: z7 :: z8 :: z9 :: some (.int x) :: t) (st) S V := by
  intro p l e s m args below meth c H locs cells slots D cA o x0 ls C K hl hP hz hS ho h1 h2
  obtain ⟨k9, hk9⟩ := List.getElem?_of_mem (a_al_mem (o := o) (x0 := x0) (lv := z0 :: z1 :: z2 :: z3 :: z4 :: z5 :: z6 :: z7 :: z8 :: z9 :: some (.int x) :: t) (q := (10, .int x)) |>.mpr ⟨.int x, rfl, rfl⟩)
  exact lv_iinc C.1 C.2.1 d hl.has hk9 hv hn rfl (fun ls9 hl9 => k p l e s m args below meth c H locs cells slots D cA o x0 ls9 C K (a_lv.st1 (v := .int v) (a_s1_10 hb) hl9) hP hz hS ho h1 h2)
theorem a_s1_11 {z0 z1 z2 z3 z4 z5 z6 z7 z8 z9 z10 : Option Value} {y : Option Value} {t : List (Option Value)} {v : Value} (hb : a_c1 z10 = true) : a_s1 11 v (z0 :: z1 :: z2 :: z3 :: z4 :: z5 :: z6 :: z7 :: z8 :: z9 :: z10 :: y :: t) (z0 :: z1 :: z2 :: z3 :: z4 :: z5 :: z6 :: z7 :: z8 :: z9 :: z10 :: some v :: t) := by
  intro j u hu
  match j, hu with
  | 0, hu => exact Or.inr ⟨by decide, hu, fun q => absurd q.1 (by decide)⟩
  | 1, hu => exact Or.inr ⟨by decide, hu, fun q => absurd q.1 (by decide)⟩
  | 2, hu => exact Or.inr ⟨by decide, hu, fun q => absurd q.1 (by decide)⟩
  | 3, hu => exact Or.inr ⟨by decide, hu, fun q => absurd q.1 (by decide)⟩
  | 4, hu => exact Or.inr ⟨by decide, hu, fun q => absurd q.1 (by decide)⟩
  | 5, hu => exact Or.inr ⟨by decide, hu, fun q => absurd q.1 (by decide)⟩
  | 6, hu => exact Or.inr ⟨by decide, hu, fun q => absurd q.1 (by decide)⟩
  | 7, hu => exact Or.inr ⟨by decide, hu, fun q => absurd q.1 (by decide)⟩
  | 8, hu => exact Or.inr ⟨by decide, hu, fun q => absurd q.1 (by decide)⟩
  | 9, hu => exact Or.inr ⟨by decide, hu, fun q => absurd q.1 (by decide)⟩
  | 10, hu => cases hu; exact Or.inr ⟨by decide, rfl, fun q => a_c1_of hb q.2⟩
  | 11, hu => cases hu; exact Or.inl ⟨rfl, rfl⟩
  | j + 12, hu => exact Or.inr ⟨by omega, hu, fun q => by omega⟩
theorem a_s2_11 {z0 z1 z2 z3 z4 z5 z6 z7 z8 z9 z10 : Option Value} {y y2 : Option Value} {t : List (Option Value)} {v : Value} (hb : a_c1 z10 = true) : a_s2 11 v (z0 :: z1 :: z2 :: z3 :: z4 :: z5 :: z6 :: z7 :: z8 :: z9 :: z10 :: y :: y2 :: t) (z0 :: z1 :: z2 :: z3 :: z4 :: z5 :: z6 :: z7 :: z8 :: z9 :: z10 :: some v :: none :: t) := by
  intro j u hu
  match j, hu with
  | 0, hu => exact Or.inr ⟨by decide, by decide, hu, fun q => absurd q.1 (by decide)⟩
  | 1, hu => exact Or.inr ⟨by decide, by decide, hu, fun q => absurd q.1 (by decide)⟩
  | 2, hu => exact Or.inr ⟨by decide, by decide, hu, fun q => absurd q.1 (by decide)⟩
  | 3, hu => exact Or.inr ⟨by decide, by decide, hu, fun q => absurd q.1 (by decide)⟩
  | 4, hu => exact Or.inr ⟨by decide, by decide, hu, fun q => absurd q.1 (by decide)⟩
  | 5, hu => exact Or.inr ⟨by decide, by decide, hu, fun q => absurd q.1 (by decide)⟩
  | 6, hu => exact Or.inr ⟨by decide, by decide, hu, fun q => absurd q.1 (by decide)⟩
  | 7, hu => exact Or.inr ⟨by decide, by decide, hu, fun q => absurd q.1 (by decide)⟩
  | 8, hu => exact Or.inr ⟨by decide, by decide, hu, fun q => absurd q.1 (by decide)⟩
  | 9, hu => exact Or.inr ⟨by decide, by decide, hu, fun q => absurd q.1 (by decide)⟩
  | 10, hu => cases hu; exact Or.inr ⟨by decide, by decide, rfl, fun q => a_c1_of hb q.2⟩
  | 11, hu => cases hu; exact Or.inl ⟨rfl, rfl⟩
  | 12, hu => cases hu
  | j + 13, hu => exact Or.inr ⟨by omega, by omega, hu, fun q => by omega⟩
theorem R_istore_11 {z0 z1 z2 z3 z4 z5 z6 z7 z8 z9 z10 : Option Value} {y : Option Value} {t : List (Option Value)} {x : Int32} (hb : a_c1 z10 = true) (hn : 11 < T.2.2.1) (d : decode T.2.1 pc = .ok (.istore 11, 2)) (k : R T r mc ms Q QX kc ks (pc + 2) (z0 :: z1 :: z2 :: z3 :: z4 :: z5 :: z6 :: z7 :: z8 :: z9 :: z10 :: some (.int x) :: t) (st) S V) : R T r mc ms Q QX kc ks (pc) (z0 :: z1 :: z2 :: z3 :: z4 :: z5 :: z6 :: z7 :: z8 :: z9 :: z10 :: y :: t) (.int x :: st) S V :=
  fun p l e s m args below meth c H locs cells slots D cA o x0 ls C K hl hP hz hS ho h1 h2 => lv_istore C.1 C.2.1 d hl.has hn rfl (fun ls9 hl9 => k p l e s m args below meth c H locs cells slots D cA o x0 ls9 C K (a_lv.st1 (v := .int x) (a_s1_11 hb) hl9) hP hz hS ho h1 h2)
theorem R_fstore_11 {z0 z1 z2 z3 z4 z5 z6 z7 z8 z9 z10 : Option Value} {y : Option Value} {t : List (Option Value)} {x : UInt32} (hb : a_c1 z10 = true) (hn : 11 < T.2.2.1) (d : decode T.2.1 pc = .ok (.fstore 11, 2)) (k : R T r mc ms Q QX kc ks (pc + 2) (z0 :: z1 :: z2 :: z3 :: z4 :: z5 :: z6 :: z7 :: z8 :: z9 :: z10 :: some (.float x) :: t) (st) S V) : R T r mc ms Q QX kc ks (pc) (z0 :: z1 :: z2 :: z3 :: z4 :: z5 :: z6 :: z7 :: z8 :: z9 :: z10 :: y :: t) (.float x :: st) S V :=
  fun p l e s m args below meth c H locs cells slots D cA o x0 ls C K hl hP hz hS ho h1 h2 => lv_fstore C.1 C.2.1 d hl.has hn rfl (fun ls9 hl9 => k p l e s m args below meth c H locs cells slots D cA o x0 ls9 C K (a_lv.st1 (v := .float x) (a_s1_11 hb) hl9) hP hz hS ho h1 h2)
theorem R_astore_11 {z0 z1 z2 z3 z4 z5 z6 z7 z8 z9 z10 : Option Value} {y : Option Value} {t : List (Option Value)} {x : Nat} (hb : a_c1 z10 = true) (hn : 11 < T.2.2.1) (d : decode T.2.1 pc = .ok (.astore 11, 2)) (k : R T r mc ms Q QX kc ks (pc + 2) (z0 :: z1 :: z2 :: z3 :: z4 :: z5 :: z6 :: z7 :: z8 :: z9 :: z10 :: some (.ref x) :: t) (st) S V) : R T r mc ms Q QX kc ks (pc) (z0 :: z1 :: z2 :: z3 :: z4 :: z5 :: z6 :: z7 :: z8 :: z9 :: z10 :: y :: t) (.ref x :: st) S V :=
  fun p l e s m args below meth c H locs cells slots D cA o x0 ls C K hl hP hz hS ho h1 h2 => lv_astore C.1 C.2.1 d hl.has hn rfl (fun ls9 hl9 => k p l e s m args below meth c H locs cells slots D cA o x0 ls9 C K (a_lv.st1 (v := .ref x) (a_s1_11 hb) hl9) hP hz hS ho h1 h2)
theorem R_lstore_11 {z0 z1 z2 z3 z4 z5 z6 z7 z8 z9 z10 : Option Value} {y y2 : Option Value} {t : List (Option Value)} {x : Int64} (hb : a_c1 z10 = true) (hn : 11 + 1 < T.2.2.1) (d : decode T.2.1 pc = .ok (.lstore 11, 2)) (k : R T r mc ms Q QX kc ks (pc + 2) (z0 :: z1 :: z2 :: z3 :: z4 :: z5 :: z6 :: z7 :: z8 :: z9 :: z10 :: some (.long x) :: none :: t) (st) S V) : R T r mc ms Q QX kc ks (pc) (z0 :: z1 :: z2 :: z3 :: z4 :: z5 :: z6 :: z7 :: z8 :: z9 :: z10 :: y :: y2 :: t) (.long x :: st) S V :=
  fun p l e s m args below meth c H locs cells slots D cA o x0 ls C K hl hP hz hS ho h1 h2 => lv_lstore C.1 C.2.1 d hl.has hn rfl (fun ls9 hl9 => k p l e s m args below meth c H locs cells slots D cA o x0 ls9 C K (a_lv.st2 (v := .long x) (a_s2_11 hb) hl9) hP hz hS ho h1 h2)
theorem R_iinc_11 {z0 z1 z2 z3 z4 z5 z6 z7 z8 z9 z10 : Option Value} {t : List (Option Value)} {n : Int} {x v : Int32} (hb : a_c1 z10 = true) (hn : 11 < T.2.2.1) (d : decode T.2.1 pc = .ok (.iinc 11 n, 3)) (hv : x + Int32.ofInt n = v) (k : R T r mc ms Q QX kc ks (pc + 3) (z0 :: z1 :: z2 :: z3 :: z4 :: z5 :: z6 :: z7 :: z8 :: z9 :: z10 :: some (.int v) :: t) (st) S V) : R T r mc ms Q QX kc ks (pc) (z0 :: z1 :: z2 :: z3 :: z4 :: z5 :: z6 :: z7 :: z8 :: z9 :: z10 :: some (.int x) :: t) (st) S V := by
  intro p l e s m args below meth c H locs cells slots D cA o x0 ls C K hl hP hz hS ho h1 h2
  obtain ⟨k9, hk9⟩ := List.getElem?_of_mem (a_al_mem (o := o) (x0 := x0) (lv := z0 :: z1 :: z2 :: z3 :: z4 :: z5 :: z6 :: z7 :: z8 :: z9 :: z10 :: some (.int x) :: t) (q := (11, .int x)) |>.mpr ⟨.int x, rfl, rfl⟩)
  exact lv_iinc C.1 C.2.1 d hl.has hk9 hv hn rfl (fun ls9 hl9 => k p l e s m args below meth c H locs cells slots D cA o x0 ls9 C K (a_lv.st1 (v := .int v) (a_s1_11 hb) hl9) hP hz hS ho h1 h2)
end AROWS
