/-! ===== rows over any room and any end ===== -/
def a_CG (p : Program) (s : State) (m : MethodId) (args : Array Value) (meth : Method) (c : Code) (T : aMt) : Prop :=
  p.tables.exec = Jvm.exec ∧ c.code = T.2.1 ∧ c.maxLocals = T.2.2.1 ∧ s.vm.findClass T.1.cls = some m.cls ∧ (∀ w ∈ aT, w.before args s = true) ∧ meth.sig.returnType = T.2.2.2 ∧ meth.locks = false
theorem a_CG.fix {p : Program} {s : State} {m : MethodId} {args : Array Value} {meth : Method} {c : Code} {T : aMt} (C : a_CG p s m args meth c T) : CallFix p m c T.2.1 T.2.2.1 s args aT T.1.cls := ⟨C.1, C.2.1, C.2.2.1, C.2.2.2.1, C.2.2.2.2.1⟩
def RG (p : Program) (l : Launch) (e : Env) (Rm : Room) (s : State) (m : MethodId) (args : Array Value) (below : List Frame) (meth : Method) (c : Code) (D : va_G) (cA : Nat → ClassId) (o : Nat) (x0 : Nat → Nat) (T : aMt) (Z : State → Prop) (kc ks pc : Nat) (lv : List (Option Value)) (st : List Value) (S : aS) (V : aV) : Prop :=
  ∀ (H : Heap) (locs : List Loc) (cells slots : Nat) (ls : Array Slot), a_lv o x0 T.2.2.1 lv ls → a_P o x0 cA D S V H → a_Z o S H → va_S (fun q => o ≤ q) s.heap H locs → cells + kc ≤ Rm.cells → slots + ks ≤ Rm.slots →
    W p l e Rm s m args below meth c H locs cells slots Z (F0 m pc ls (st.map (a_v o x0)))
section GROWS
variable {p : Program} {l : Launch} {e : Env} {Rm : Room} {s : State} {m : MethodId} {args : Array Value} {below : List Frame} {meth : Method} {c : Code} {D : va_G} {cA : Nat → ClassId} {o : Nat} {x0 : Nat → Nat} {T : aMt} {Z : State → Prop} {kc ks pc : Nat} {lv lv' : List (Option Value)} {st : List Value} {S : aS} {V : aV}
theorem G_lv (C : a_CG p s m args meth c T) (K : a_K o x0 cA D s) {lv2 : List (Option Value)} (h : ∀ (i : Nat) (v : Value), lv2[i]? = some (some v) → lv[i]? = some (some v)) (k : RG p l e Rm s m args below meth c D cA o x0 T Z kc ks (pc) (lv2) (st) S V) : RG p l e Rm s m args below meth c D cA o x0 T Z kc ks (pc) (lv) (st) S V :=
  fun H locs cells slots ls hl hP hz hS h1 h2 => k H locs cells slots ls ⟨hl.1, hl.2.1, fun i v hi => hl.2.2 i v (h i v hi)⟩ hP hz hS h1 h2
theorem G_aload_0 (C : a_CG p s m args meth c T) (K : a_K o x0 cA D s) {t : List (Option Value)} {x : Nat} (d : decode T.2.1 pc = .ok (.aload_n 0, 1)) (k : RG p l e Rm s m args below meth c D cA o x0 T Z kc ks (pc + 1) (some (.ref x) :: t) (.ref x :: st) S V) : RG p l e Rm s m args below meth c D cA o x0 T Z kc ks (pc) (some (.ref x) :: t) (st) S V :=
  fun H locs cells slots ls hl hP hz hS h1 h2 => lv_aload_n C.1 C.2.1 d rfl (hl.2.2 0 _ rfl) (k H locs cells slots ls hl hP hz hS h1 h2)
theorem G_aload_1 (C : a_CG p s m args meth c T) (K : a_K o x0 cA D s) {z0 : Option Value} {t : List (Option Value)} {x : Nat} (d : decode T.2.1 pc = .ok (.aload_n 1, 1)) (k : RG p l e Rm s m args below meth c D cA o x0 T Z kc ks (pc + 1) (z0 :: some (.ref x) :: t) (.ref x :: st) S V) : RG p l e Rm s m args below meth c D cA o x0 T Z kc ks (pc) (z0 :: some (.ref x) :: t) (st) S V :=
  fun H locs cells slots ls hl hP hz hS h1 h2 => lv_aload_n C.1 C.2.1 d rfl (hl.2.2 1 _ rfl) (k H locs cells slots ls hl hP hz hS h1 h2)
theorem G_aload_2 (C : a_CG p s m args meth c T) (K : a_K o x0 cA D s) {z0 z1 : Option Value} {t : List (Option Value)} {x : Nat} (d : decode T.2.1 pc = .ok (.aload_n 2, 1)) (k : RG p l e Rm s m args below meth c D cA o x0 T Z kc ks (pc + 1) (z0 :: z1 :: some (.ref x) :: t) (.ref x :: st) S V) : RG p l e Rm s m args below meth c D cA o x0 T Z kc ks (pc) (z0 :: z1 :: some (.ref x) :: t) (st) S V :=
  fun H locs cells slots ls hl hP hz hS h1 h2 => lv_aload_n C.1 C.2.1 d rfl (hl.2.2 2 _ rfl) (k H locs cells slots ls hl hP hz hS h1 h2)
theorem G_aload_3 (C : a_CG p s m args meth c T) (K : a_K o x0 cA D s) {z0 z1 z2 : Option Value} {t : List (Option Value)} {x : Nat} (d : decode T.2.1 pc = .ok (.aload_n 3, 1)) (k : RG p l e Rm s m args below meth c D cA o x0 T Z kc ks (pc + 1) (z0 :: z1 :: z2 :: some (.ref x) :: t) (.ref x :: st) S V) : RG p l e Rm s m args below meth c D cA o x0 T Z kc ks (pc) (z0 :: z1 :: z2 :: some (.ref x) :: t) (st) S V :=
  fun H locs cells slots ls hl hP hz hS h1 h2 => lv_aload_n C.1 C.2.1 d rfl (hl.2.2 3 _ rfl) (k H locs cells slots ls hl hP hz hS h1 h2)
theorem G_aload_4 (C : a_CG p s m args meth c T) (K : a_K o x0 cA D s) {z0 z1 z2 z3 : Option Value} {t : List (Option Value)} {x : Nat} (d : decode T.2.1 pc = .ok (.aload 4, 2)) (k : RG p l e Rm s m args below meth c D cA o x0 T Z kc ks (pc + 2) (z0 :: z1 :: z2 :: z3 :: some (.ref x) :: t) (.ref x :: st) S V) : RG p l e Rm s m args below meth c D cA o x0 T Z kc ks (pc) (z0 :: z1 :: z2 :: z3 :: some (.ref x) :: t) (st) S V :=
  fun H locs cells slots ls hl hP hz hS h1 h2 => lv_aload C.1 C.2.1 d (hl.2.2 4 _ rfl) (k H locs cells slots ls hl hP hz hS h1 h2)
theorem G_aload_5 (C : a_CG p s m args meth c T) (K : a_K o x0 cA D s) {z0 z1 z2 z3 z4 : Option Value} {t : List (Option Value)} {x : Nat} (d : decode T.2.1 pc = .ok (.aload 5, 2)) (k : RG p l e Rm s m args below meth c D cA o x0 T Z kc ks (pc + 2) (z0 :: z1 :: z2 :: z3 :: z4 :: some (.ref x) :: t) (.ref x :: st) S V) : RG p l e Rm s m args below meth c D cA o x0 T Z kc ks (pc) (z0 :: z1 :: z2 :: z3 :: z4 :: some (.ref x) :: t) (st) S V :=
  fun H locs cells slots ls hl hP hz hS h1 h2 => lv_aload C.1 C.2.1 d (hl.2.2 5 _ rfl) (k H locs cells slots ls hl hP hz hS h1 h2)
theorem G_aload_6 (C : a_CG p s m args meth c T) (K : a_K o x0 cA D s) {z0 z1 z2 z3 z4 z5 : Option Value} {t : List (Option Value)} {x : Nat} (d : decode T.2.1 pc = .ok (.aload 6, 2)) (k : RG p l e Rm s m args below meth c D cA o x0 T Z kc ks (pc + 2) (z0 :: z1 :: z2 :: z3 :: z4 :: z5 :: some (.ref x) :: t) (.ref x :: st) S V) : RG p l e Rm s m args below meth c D cA o x0 T Z kc ks (pc) (z0 :: z1 :: z2 :: z3 :: z4 :: z5 :: some (.ref x) :: t) (st) S V :=
  fun H locs cells slots ls hl hP hz hS h1 h2 => lv_aload C.1 C.2.1 d (hl.2.2 6 _ rfl) (k H locs cells slots ls hl hP hz hS h1 h2)
theorem G_aload_7 (C : a_CG p s m args meth c T) (K : a_K o x0 cA D s) {z0 z1 z2 z3 z4 z5 z6 : Option Value} {t : List (Option Value)} {x : Nat} (d : decode T.2.1 pc = .ok (.aload 7, 2)) (k : RG p l e Rm s m args below meth c D cA o x0 T Z kc ks (pc + 2) (z0 :: z1 :: z2 :: z3 :: z4 :: z5 :: z6 :: some (.ref x) :: t) (.ref x :: st) S V) : RG p l e Rm s m args below meth c D cA o x0 T Z kc ks (pc) (z0 :: z1 :: z2 :: z3 :: z4 :: z5 :: z6 :: some (.ref x) :: t) (st) S V :=
  fun H locs cells slots ls hl hP hz hS h1 h2 => lv_aload C.1 C.2.1 d (hl.2.2 7 _ rfl) (k H locs cells slots ls hl hP hz hS h1 h2)
theorem G_iload_0 (C : a_CG p s m args meth c T) (K : a_K o x0 cA D s) {t : List (Option Value)} {x : Int32} (d : decode T.2.1 pc = .ok (.iload_n 0, 1)) (k : RG p l e Rm s m args below meth c D cA o x0 T Z kc ks (pc + 1) (some (.int x) :: t) (.int x :: st) S V) : RG p l e Rm s m args below meth c D cA o x0 T Z kc ks (pc) (some (.int x) :: t) (st) S V :=
  fun H locs cells slots ls hl hP hz hS h1 h2 => lv_iload_n C.1 C.2.1 d rfl (hl.2.2 0 _ rfl) (k H locs cells slots ls hl hP hz hS h1 h2)
theorem G_iload_1 (C : a_CG p s m args meth c T) (K : a_K o x0 cA D s) {z0 : Option Value} {t : List (Option Value)} {x : Int32} (d : decode T.2.1 pc = .ok (.iload_n 1, 1)) (k : RG p l e Rm s m args below meth c D cA o x0 T Z kc ks (pc + 1) (z0 :: some (.int x) :: t) (.int x :: st) S V) : RG p l e Rm s m args below meth c D cA o x0 T Z kc ks (pc) (z0 :: some (.int x) :: t) (st) S V :=
  fun H locs cells slots ls hl hP hz hS h1 h2 => lv_iload_n C.1 C.2.1 d rfl (hl.2.2 1 _ rfl) (k H locs cells slots ls hl hP hz hS h1 h2)
theorem G_iload_2 (C : a_CG p s m args meth c T) (K : a_K o x0 cA D s) {z0 z1 : Option Value} {t : List (Option Value)} {x : Int32} (d : decode T.2.1 pc = .ok (.iload_n 2, 1)) (k : RG p l e Rm s m args below meth c D cA o x0 T Z kc ks (pc + 1) (z0 :: z1 :: some (.int x) :: t) (.int x :: st) S V) : RG p l e Rm s m args below meth c D cA o x0 T Z kc ks (pc) (z0 :: z1 :: some (.int x) :: t) (st) S V :=
  fun H locs cells slots ls hl hP hz hS h1 h2 => lv_iload_n C.1 C.2.1 d rfl (hl.2.2 2 _ rfl) (k H locs cells slots ls hl hP hz hS h1 h2)
theorem G_iload_3 (C : a_CG p s m args meth c T) (K : a_K o x0 cA D s) {z0 z1 z2 : Option Value} {t : List (Option Value)} {x : Int32} (d : decode T.2.1 pc = .ok (.iload_n 3, 1)) (k : RG p l e Rm s m args below meth c D cA o x0 T Z kc ks (pc + 1) (z0 :: z1 :: z2 :: some (.int x) :: t) (.int x :: st) S V) : RG p l e Rm s m args below meth c D cA o x0 T Z kc ks (pc) (z0 :: z1 :: z2 :: some (.int x) :: t) (st) S V :=
  fun H locs cells slots ls hl hP hz hS h1 h2 => lv_iload_n C.1 C.2.1 d rfl (hl.2.2 3 _ rfl) (k H locs cells slots ls hl hP hz hS h1 h2)
theorem G_iload_4 (C : a_CG p s m args meth c T) (K : a_K o x0 cA D s) {z0 z1 z2 z3 : Option Value} {t : List (Option Value)} {x : Int32} (d : decode T.2.1 pc = .ok (.iload 4, 2)) (k : RG p l e Rm s m args below meth c D cA o x0 T Z kc ks (pc + 2) (z0 :: z1 :: z2 :: z3 :: some (.int x) :: t) (.int x :: st) S V) : RG p l e Rm s m args below meth c D cA o x0 T Z kc ks (pc) (z0 :: z1 :: z2 :: z3 :: some (.int x) :: t) (st) S V :=
  fun H locs cells slots ls hl hP hz hS h1 h2 => lv_iload C.1 C.2.1 d (hl.2.2 4 _ rfl) (k H locs cells slots ls hl hP hz hS h1 h2)
theorem G_iload_5 (C : a_CG p s m args meth c T) (K : a_K o x0 cA D s) {z0 z1 z2 z3 z4 : Option Value} {t : List (Option Value)} {x : Int32} (d : decode T.2.1 pc = .ok (.iload 5, 2)) (k : RG p l e Rm s m args below meth c D cA o x0 T Z kc ks (pc + 2) (z0 :: z1 :: z2 :: z3 :: z4 :: some (.int x) :: t) (.int x :: st) S V) : RG p l e Rm s m args below meth c D cA o x0 T Z kc ks (pc) (z0 :: z1 :: z2 :: z3 :: z4 :: some (.int x) :: t) (st) S V :=
  fun H locs cells slots ls hl hP hz hS h1 h2 => lv_iload C.1 C.2.1 d (hl.2.2 5 _ rfl) (k H locs cells slots ls hl hP hz hS h1 h2)
theorem G_iload_6 (C : a_CG p s m args meth c T) (K : a_K o x0 cA D s) {z0 z1 z2 z3 z4 z5 : Option Value} {t : List (Option Value)} {x : Int32} (d : decode T.2.1 pc = .ok (.iload 6, 2)) (k : RG p l e Rm s m args below meth c D cA o x0 T Z kc ks (pc + 2) (z0 :: z1 :: z2 :: z3 :: z4 :: z5 :: some (.int x) :: t) (.int x :: st) S V) : RG p l e Rm s m args below meth c D cA o x0 T Z kc ks (pc) (z0 :: z1 :: z2 :: z3 :: z4 :: z5 :: some (.int x) :: t) (st) S V :=
  fun H locs cells slots ls hl hP hz hS h1 h2 => lv_iload C.1 C.2.1 d (hl.2.2 6 _ rfl) (k H locs cells slots ls hl hP hz hS h1 h2)
theorem G_iload_7 (C : a_CG p s m args meth c T) (K : a_K o x0 cA D s) {z0 z1 z2 z3 z4 z5 z6 : Option Value} {t : List (Option Value)} {x : Int32} (d : decode T.2.1 pc = .ok (.iload 7, 2)) (k : RG p l e Rm s m args below meth c D cA o x0 T Z kc ks (pc + 2) (z0 :: z1 :: z2 :: z3 :: z4 :: z5 :: z6 :: some (.int x) :: t) (.int x :: st) S V) : RG p l e Rm s m args below meth c D cA o x0 T Z kc ks (pc) (z0 :: z1 :: z2 :: z3 :: z4 :: z5 :: z6 :: some (.int x) :: t) (st) S V :=
  fun H locs cells slots ls hl hP hz hS h1 h2 => lv_iload C.1 C.2.1 d (hl.2.2 7 _ rfl) (k H locs cells slots ls hl hP hz hS h1 h2)
theorem G_iload_8 (C : a_CG p s m args meth c T) (K : a_K o x0 cA D s) {z0 z1 z2 z3 z4 z5 z6 z7 : Option Value} {t : List (Option Value)} {x : Int32} (d : decode T.2.1 pc = .ok (.iload 8, 2)) (k : RG p l e Rm s m args below meth c D cA o x0 T Z kc ks (pc + 2) (z0 :: z1 :: z2 :: z3 :: z4 :: z5 :: z6 :: z7 :: some (.int x) :: t) (.int x :: st) S V) : RG p l e Rm s m args below meth c D cA o x0 T Z kc ks (pc) (z0 :: z1 :: z2 :: z3 :: z4 :: z5 :: z6 :: z7 :: some (.int x) :: t) (st) S V :=
  fun H locs cells slots ls hl hP hz hS h1 h2 => lv_iload C.1 C.2.1 d (hl.2.2 8 _ rfl) (k H locs cells slots ls hl hP hz hS h1 h2)
theorem G_iload_9 (C : a_CG p s m args meth c T) (K : a_K o x0 cA D s) {z0 z1 z2 z3 z4 z5 z6 z7 z8 : Option Value} {t : List (Option Value)} {x : Int32} (d : decode T.2.1 pc = .ok (.iload 9, 2)) (k : RG p l e Rm s m args below meth c D cA o x0 T Z kc ks (pc + 2) (z0 :: z1 :: z2 :: z3 :: z4 :: z5 :: z6 :: z7 :: z8 :: some (.int x) :: t) (.int x :: st) S V) : RG p l e Rm s m args below meth c D cA o x0 T Z kc ks (pc) (z0 :: z1 :: z2 :: z3 :: z4 :: z5 :: z6 :: z7 :: z8 :: some (.int x) :: t) (st) S V :=
  fun H locs cells slots ls hl hP hz hS h1 h2 => lv_iload C.1 C.2.1 d (hl.2.2 9 _ rfl) (k H locs cells slots ls hl hP hz hS h1 h2)
theorem G_iload_10 (C : a_CG p s m args meth c T) (K : a_K o x0 cA D s) {z0 z1 z2 z3 z4 z5 z6 z7 z8 z9 : Option Value} {t : List (Option Value)} {x : Int32} (d : decode T.2.1 pc = .ok (.iload 10, 2)) (k : RG p l e Rm s m args below meth c D cA o x0 T Z kc ks (pc + 2) (z0 :: z1 :: z2 :: z3 :: z4 :: z5 :: z6 :: z7 :: z8 :: z9 :: some (.int x) :: t) (.int x :: st) S V) : RG p l e Rm s m args below meth c D cA o x0 T Z kc ks (pc) (z0 :: z1 :: z2 :: z3 :: z4 :: z5 :: z6 :: z7 :: z8 :: z9 :: some (.int x) :: t) (st) S V :=
  fun H locs cells slots ls hl hP hz hS h1 h2 => lv_iload C.1 C.2.1 d (hl.2.2 10 _ rfl) (k H locs cells slots ls hl hP hz hS h1 h2)
theorem G_iload_11 (C : a_CG p s m args meth c T) (K : a_K o x0 cA D s) {z0 z1 z2 z3 z4 z5 z6 z7 z8 z9 z10 : Option Value} {t : List (Option Value)} {x : Int32} (d : decode T.2.1 pc = .ok (.iload 11, 2)) (k : RG p l e Rm s m args below meth c D cA o x0 T Z kc ks (pc + 2) (z0 :: z1 :: z2 :: z3 :: z4 :: z5 :: z6 :: z7 :: z8 :: z9 :: z10 :: some (.int x) :: t) (.int x :: st) S V) : RG p l e Rm s m args below meth c D cA o x0 T Z kc ks (pc) (z0 :: z1 :: z2 :: z3 :: z4 :: z5 :: z6 :: z7 :: z8 :: z9 :: z10 :: some (.int x) :: t) (st) S V :=
  fun H locs cells slots ls hl hP hz hS h1 h2 => lv_iload C.1 C.2.1 d (hl.2.2 11 _ rfl) (k H locs cells slots ls hl hP hz hS h1 h2)
theorem G_iload_12 (C : a_CG p s m args meth c T) (K : a_K o x0 cA D s) {z0 z1 z2 z3 z4 z5 z6 z7 z8 z9 z10 z11 : Option Value} {t : List (Option Value)} {x : Int32} (d : decode T.2.1 pc = .ok (.iload 12, 2)) (k : RG p l e Rm s m args below meth c D cA o x0 T Z kc ks (pc + 2) (z0 :: z1 :: z2 :: z3 :: z4 :: z5 :: z6 :: z7 :: z8 :: z9 :: z10 :: z11 :: some (.int x) :: t) (.int x :: st) S V) : RG p l e Rm s m args below meth c D cA o x0 T Z kc ks (pc) (z0 :: z1 :: z2 :: z3 :: z4 :: z5 :: z6 :: z7 :: z8 :: z9 :: z10 :: z11 :: some (.int x) :: t) (st) S V :=
  fun H locs cells slots ls hl hP hz hS h1 h2 => lv_iload C.1 C.2.1 d (hl.2.2 12 _ rfl) (k H locs cells slots ls hl hP hz hS h1 h2)
theorem G_iload_13 (C : a_CG p s m args meth c T) (K : a_K o x0 cA D s) {z0 z1 z2 z3 z4 z5 z6 z7 z8 z9 z10 z11 z12 : Option Value} {t : List (Option Value)} {x : Int32} (d : decode T.2.1 pc = .ok (.iload 13, 2)) (k : RG p l e Rm s m args below meth c D cA o x0 T Z kc ks (pc + 2) (z0 :: z1 :: z2 :: z3 :: z4 :: z5 :: z6 :: z7 :: z8 :: z9 :: z10 :: z11 :: z12 :: some (.int x) :: t) (.int x :: st) S V) : RG p l e Rm s m args below meth c D cA o x0 T Z kc ks (pc) (z0 :: z1 :: z2 :: z3 :: z4 :: z5 :: z6 :: z7 :: z8 :: z9 :: z10 :: z11 :: z12 :: some (.int x) :: t) (st) S V :=
  fun H locs cells slots ls hl hP hz hS h1 h2 => lv_iload C.1 C.2.1 d (hl.2.2 13 _ rfl) (k H locs cells slots ls hl hP hz hS h1 h2)
theorem G_iload_14 (C : a_CG p s m args meth c T) (K : a_K o x0 cA D s) {z0 z1 z2 z3 z4 z5 z6 z7 z8 z9 z10 z11 z12 z13 : Option Value} {t : List (Option Value)} {x : Int32} (d : decode T.2.1 pc = .ok (.iload 14, 2)) (k : RG p l e Rm s m args below meth c D cA o x0 T Z kc ks (pc + 2) (z0 :: z1 :: z2 :: z3 :: z4 :: z5 :: z6 :: z7 :: z8 :: z9 :: z10 :: z11 :: z12 :: z13 :: some (.int x) :: t) (.int x :: st) S V) : RG p l e Rm s m args below meth c D cA o x0 T Z kc ks (pc) (z0 :: z1 :: z2 :: z3 :: z4 :: z5 :: z6 :: z7 :: z8 :: z9 :: z10 :: z11 :: z12 :: z13 :: some (.int x) :: t) (st) S V :=
  fun H locs cells slots ls hl hP hz hS h1 h2 => lv_iload C.1 C.2.1 d (hl.2.2 14 _ rfl) (k H locs cells slots ls hl hP hz hS h1 h2)
theorem G_iload_15 (C : a_CG p s m args meth c T) (K : a_K o x0 cA D s) {z0 z1 z2 z3 z4 z5 z6 z7 z8 z9 z10 z11 z12 z13 z14 : Option Value} {t : List (Option Value)} {x : Int32} (d : decode T.2.1 pc = .ok (.iload 15, 2)) (k : RG p l e Rm s m args below meth c D cA o x0 T Z kc ks (pc + 2) (z0 :: z1 :: z2 :: z3 :: z4 :: z5 :: z6 :: z7 :: z8 :: z9 :: z10 :: z11 :: z12 :: z13 :: z14 :: some (.int x) :: t) (.int x :: st) S V) : RG p l e Rm s m args below meth c D cA o x0 T Z kc ks (pc) (z0 :: z1 :: z2 :: z3 :: z4 :: z5 :: z6 :: z7 :: z8 :: z9 :: z10 :: z11 :: z12 :: z13 :: z14 :: some (.int x) :: t) (st) S V :=
  fun H locs cells slots ls hl hP hz hS h1 h2 => lv_iload C.1 C.2.1 d (hl.2.2 15 _ rfl) (k H locs cells slots ls hl hP hz hS h1 h2)
theorem G_iload_16 (C : a_CG p s m args meth c T) (K : a_K o x0 cA D s) {z0 z1 z2 z3 z4 z5 z6 z7 z8 z9 z10 z11 z12 z13 z14 z15 : Option Value} {t : List (Option Value)} {x : Int32} (d : decode T.2.1 pc = .ok (.iload 16, 2)) (k : RG p l e Rm s m args below meth c D cA o x0 T Z kc ks (pc + 2) (z0 :: z1 :: z2 :: z3 :: z4 :: z5 :: z6 :: z7 :: z8 :: z9 :: z10 :: z11 :: z12 :: z13 :: z14 :: z15 :: some (.int x) :: t) (.int x :: st) S V) : RG p l e Rm s m args below meth c D cA o x0 T Z kc ks (pc) (z0 :: z1 :: z2 :: z3 :: z4 :: z5 :: z6 :: z7 :: z8 :: z9 :: z10 :: z11 :: z12 :: z13 :: z14 :: z15 :: some (.int x) :: t) (st) S V :=
  fun H locs cells slots ls hl hP hz hS h1 h2 => lv_iload C.1 C.2.1 d (hl.2.2 16 _ rfl) (k H locs cells slots ls hl hP hz hS h1 h2)
theorem G_iload_17 (C : a_CG p s m args meth c T) (K : a_K o x0 cA D s) {z0 z1 z2 z3 z4 z5 z6 z7 z8 z9 z10 z11 z12 z13 z14 z15 z16 : Option Value} {t : List (Option Value)} {x : Int32} (d : decode T.2.1 pc = .ok (.iload 17, 2)) (k : RG p l e Rm s m args below meth c D cA o x0 T Z kc ks (pc + 2) (z0 :: z1 :: z2 :: z3 :: z4 :: z5 :: z6 :: z7 :: z8 :: z9 :: z10 :: z11 :: z12 :: z13 :: z14 :: z15 :: z16 :: some (.int x) :: t) (.int x :: st) S V) : RG p l e Rm s m args below meth c D cA o x0 T Z kc ks (pc) (z0 :: z1 :: z2 :: z3 :: z4 :: z5 :: z6 :: z7 :: z8 :: z9 :: z10 :: z11 :: z12 :: z13 :: z14 :: z15 :: z16 :: some (.int x) :: t) (st) S V :=
  fun H locs cells slots ls hl hP hz hS h1 h2 => lv_iload C.1 C.2.1 d (hl.2.2 17 _ rfl) (k H locs cells slots ls hl hP hz hS h1 h2)
theorem G_istore_8 (C : a_CG p s m args meth c T) (K : a_K o x0 cA D s) {z0 z1 z2 z3 z4 z5 z6 z7 : Option Value} {y : Option Value} {t : List (Option Value)} {x : Int32} (hb : a_c1 z7 = true) (hn : 8 < T.2.2.1) (d : decode T.2.1 pc = .ok (.istore 8, 2)) (k : RG p l e Rm s m args below meth c D cA o x0 T Z kc ks (pc + 2) (z0 :: z1 :: z2 :: z3 :: z4 :: z5 :: z6 :: z7 :: some (.int x) :: t) (st) S V) : RG p l e Rm s m args below meth c D cA o x0 T Z kc ks (pc) (z0 :: z1 :: z2 :: z3 :: z4 :: z5 :: z6 :: z7 :: y :: t) (.int x :: st) S V :=
  fun H locs cells slots ls hl hP hz hS h1 h2 => lv_istore C.1 C.2.1 d hl.has hn rfl (fun ls9 hl9 => k H locs cells slots ls9 (a_lv.st1 (v := .int x) (a_s1_8 hb) hl9) hP hz hS h1 h2)
theorem G_istore_9 (C : a_CG p s m args meth c T) (K : a_K o x0 cA D s) {z0 z1 z2 z3 z4 z5 z6 z7 z8 : Option Value} {y : Option Value} {t : List (Option Value)} {x : Int32} (hb : a_c1 z8 = true) (hn : 9 < T.2.2.1) (d : decode T.2.1 pc = .ok (.istore 9, 2)) (k : RG p l e Rm s m args below meth c D cA o x0 T Z kc ks (pc + 2) (z0 :: z1 :: z2 :: z3 :: z4 :: z5 :: z6 :: z7 :: z8 :: some (.int x) :: t) (st) S V) : RG p l e Rm s m args below meth c D cA o x0 T Z kc ks (pc) (z0 :: z1 :: z2 :: z3 :: z4 :: z5 :: z6 :: z7 :: z8 :: y :: t) (.int x :: st) S V :=
  fun H locs cells slots ls hl hP hz hS h1 h2 => lv_istore C.1 C.2.1 d hl.has hn rfl (fun ls9 hl9 => k H locs cells slots ls9 (a_lv.st1 (v := .int x) (a_s1_9 hb) hl9) hP hz hS h1 h2)
theorem G_istore_10 (C : a_CG p s m args meth c T) (K : a_K o x0 cA D s) {z0 z1 z2 z3 z4 z5 z6 z7 z8 z9 : Option Value} {y : Option Value} {t : List (Option Value)} {x : Int32} (hb : a_c1 z9 = true) (hn : 10 < T.2.2.1) (d : decode T.2.1 pc = .ok (.istore 10, 2)) (k : RG p l e Rm s m args below meth c D cA o x0 T Z kc ks (pc + 2) (z0 :: z1 :: z2 :: z3 :: z4 :: z5 :: z6 :: z7 :: z8 :: z9 :: some (.int x) :: t) (st) S V) : RG p l e Rm s m args below meth c D cA o x0 T Z kc ks (pc) (z0 :: z1 :: z2 :: z3 :: z4 :: z5 :: z6 :: z7 :: z8 :: z9 :: y :: t) (.int x :: st) S V :=
  fun H locs cells slots ls hl hP hz hS h1 h2 => lv_istore C.1 C.2.1 d hl.has hn rfl (fun ls9 hl9 => k H locs cells slots ls9 (a_lv.st1 (v := .int x) (a_s1_10 hb) hl9) hP hz hS h1 h2)
theorem G_istore_11 (C : a_CG p s m args meth c T) (K : a_K o x0 cA D s) {z0 z1 z2 z3 z4 z5 z6 z7 z8 z9 z10 : Option Value} {y : Option Value} {t : List (Option Value)} {x : Int32} (hb : a_c1 z10 = true) (hn : 11 < T.2.2.1) (d : decode T.2.1 pc = .ok (.istore 11, 2)) (k : RG p l e Rm s m args below meth c D cA o x0 T Z kc ks (pc + 2) (z0 :: z1 :: z2 :: z3 :: z4 :: z5 :: z6 :: z7 :: z8 :: z9 :: z10 :: some (.int x) :: t) (st) S V) : RG p l e Rm s m args below meth c D cA o x0 T Z kc ks (pc) (z0 :: z1 :: z2 :: z3 :: z4 :: z5 :: z6 :: z7 :: z8 :: z9 :: z10 :: y :: t) (.int x :: st) S V :=
  fun H locs cells slots ls hl hP hz hS h1 h2 => lv_istore C.1 C.2.1 d hl.has hn rfl (fun ls9 hl9 => k H locs cells slots ls9 (a_lv.st1 (v := .int x) (a_s1_11 hb) hl9) hP hz hS h1 h2)
theorem G_istore_12 (C : a_CG p s m args meth c T) (K : a_K o x0 cA D s) {z0 z1 z2 z3 z4 z5 z6 z7 z8 z9 z10 z11 : Option Value} {y : Option Value} {t : List (Option Value)} {x : Int32} (hb : a_c1 z11 = true) (hn : 12 < T.2.2.1) (d : decode T.2.1 pc = .ok (.istore 12, 2)) (k : RG p l e Rm s m args below meth c D cA o x0 T Z kc ks (pc + 2) (z0 :: z1 :: z2 :: z3 :: z4 :: z5 :: z6 :: z7 :: z8 :: z9 :: z10 :: z11 :: some (.int x) :: t) (st) S V) : RG p l e Rm s m args below meth c D cA o x0 T Z kc ks (pc) (z0 :: z1 :: z2 :: z3 :: z4 :: z5 :: z6 :: z7 :: z8 :: z9 :: z10 :: z11 :: y :: t) (.int x :: st) S V :=
  fun H locs cells slots ls hl hP hz hS h1 h2 => lv_istore C.1 C.2.1 d hl.has hn rfl (fun ls9 hl9 => k H locs cells slots ls9 (a_lv.st1 (v := .int x) (a_s1_12 hb) hl9) hP hz hS h1 h2)
theorem G_istore_13 (C : a_CG p s m args meth c T) (K : a_K o x0 cA D s) {z0 z1 z2 z3 z4 z5 z6 z7 z8 z9 z10 z11 z12 : Option Value} {y : Option Value} {t : List (Option Value)} {x : Int32} (hb : a_c1 z12 = true) (hn : 13 < T.2.2.1) (d : decode T.2.1 pc = .ok (.istore 13, 2)) (k : RG p l e Rm s m args below meth c D cA o x0 T Z kc ks (pc + 2) (z0 :: z1 :: z2 :: z3 :: z4 :: z5 :: z6 :: z7 :: z8 :: z9 :: z10 :: z11 :: z12 :: some (.int x) :: t) (st) S V) : RG p l e Rm s m args below meth c D cA o x0 T Z kc ks (pc) (z0 :: z1 :: z2 :: z3 :: z4 :: z5 :: z6 :: z7 :: z8 :: z9 :: z10 :: z11 :: z12 :: y :: t) (.int x :: st) S V :=
  fun H locs cells slots ls hl hP hz hS h1 h2 => lv_istore C.1 C.2.1 d hl.has hn rfl (fun ls9 hl9 => k H locs cells slots ls9 (a_lv.st1 (v := .int x) (a_s1_13 hb) hl9) hP hz hS h1 h2)
theorem G_istore_14 (C : a_CG p s m args meth c T) (K : a_K o x0 cA D s) {z0 z1 z2 z3 z4 z5 z6 z7 z8 z9 z10 z11 z12 z13 : Option Value} {y : Option Value} {t : List (Option Value)} {x : Int32} (hb : a_c1 z13 = true) (hn : 14 < T.2.2.1) (d : decode T.2.1 pc = .ok (.istore 14, 2)) (k : RG p l e Rm s m args below meth c D cA o x0 T Z kc ks (pc + 2) (z0 :: z1 :: z2 :: z3 :: z4 :: z5 :: z6 :: z7 :: z8 :: z9 :: z10 :: z11 :: z12 :: z13 :: some (.int x) :: t) (st) S V) : RG p l e Rm s m args below meth c D cA o x0 T Z kc ks (pc) (z0 :: z1 :: z2 :: z3 :: z4 :: z5 :: z6 :: z7 :: z8 :: z9 :: z10 :: z11 :: z12 :: z13 :: y :: t) (.int x :: st) S V :=
  fun H locs cells slots ls hl hP hz hS h1 h2 => lv_istore C.1 C.2.1 d hl.has hn rfl (fun ls9 hl9 => k H locs cells slots ls9 (a_lv.st1 (v := .int x) (a_s1_14 hb) hl9) hP hz hS h1 h2)
theorem G_istore_15 (C : a_CG p s m args meth c T) (K : a_K o x0 cA D s) {z0 z1 z2 z3 z4 z5 z6 z7 z8 z9 z10 z11 z12 z13 z14 : Option Value} {y : Option Value} {t : List (Option Value)} {x : Int32} (hb : a_c1 z14 = true) (hn : 15 < T.2.2.1) (d : decode T.2.1 pc = .ok (.istore 15, 2)) (k : RG p l e Rm s m args below meth c D cA o x0 T Z kc ks (pc + 2) (z0 :: z1 :: z2 :: z3 :: z4 :: z5 :: z6 :: z7 :: z8 :: z9 :: z10 :: z11 :: z12 :: z13 :: z14 :: some (.int x) :: t) (st) S V) : RG p l e Rm s m args below meth c D cA o x0 T Z kc ks (pc) (z0 :: z1 :: z2 :: z3 :: z4 :: z5 :: z6 :: z7 :: z8 :: z9 :: z10 :: z11 :: z12 :: z13 :: z14 :: y :: t) (.int x :: st) S V :=
  fun H locs cells slots ls hl hP hz hS h1 h2 => lv_istore C.1 C.2.1 d hl.has hn rfl (fun ls9 hl9 => k H locs cells slots ls9 (a_lv.st1 (v := .int x) (a_s1_15 hb) hl9) hP hz hS h1 h2)
theorem G_istore_16 (C : a_CG p s m args meth c T) (K : a_K o x0 cA D s) {z0 z1 z2 z3 z4 z5 z6 z7 z8 z9 z10 z11 z12 z13 z14 z15 : Option Value} {y : Option Value} {t : List (Option Value)} {x : Int32} (hb : a_c1 z15 = true) (hn : 16 < T.2.2.1) (d : decode T.2.1 pc = .ok (.istore 16, 2)) (k : RG p l e Rm s m args below meth c D cA o x0 T Z kc ks (pc + 2) (z0 :: z1 :: z2 :: z3 :: z4 :: z5 :: z6 :: z7 :: z8 :: z9 :: z10 :: z11 :: z12 :: z13 :: z14 :: z15 :: some (.int x) :: t) (st) S V) : RG p l e Rm s m args below meth c D cA o x0 T Z kc ks (pc) (z0 :: z1 :: z2 :: z3 :: z4 :: z5 :: z6 :: z7 :: z8 :: z9 :: z10 :: z11 :: z12 :: z13 :: z14 :: z15 :: y :: t) (.int x :: st) S V :=
  fun H locs cells slots ls hl hP hz hS h1 h2 => lv_istore C.1 C.2.1 d hl.has hn rfl (fun ls9 hl9 => k H locs cells slots ls9 (a_lv.st1 (v := .int x) (a_s1_16 hb) hl9) hP hz hS h1 h2)
theorem G_istore_17 (C : a_CG p s m args meth c T) (K : a_K o x0 cA D s) {z0 z1 z2 z3 z4 z5 z6 z7 z8 z9 z10 z11 z12 z13 z14 z15 z16 : Option Value} {y : Option Value} {t : List (Option Value)} {x : Int32} (hb : a_c1 z16 = true) (hn : 17 < T.2.2.1) (d : decode T.2.1 pc = .ok (.istore 17, 2)) (k : RG p l e Rm s m args below meth c D cA o x0 T Z kc ks (pc + 2) (z0 :: z1 :: z2 :: z3 :: z4 :: z5 :: z6 :: z7 :: z8 :: z9 :: z10 :: z11 :: z12 :: z13 :: z14 :: z15 :: z16 :: some (.int x) :: t) (st) S V) : RG p l e Rm s m args below meth c D cA o x0 T Z kc ks (pc) (z0 :: z1 :: z2 :: z3 :: z4 :: z5 :: z6 :: z7 :: z8 :: z9 :: z10 :: z11 :: z12 :: z13 :: z14 :: z15 :: z16 :: y :: t) (.int x :: st) S V :=
  fun H locs cells slots ls hl hP hz hS h1 h2 => lv_istore C.1 C.2.1 d hl.has hn rfl (fun ls9 hl9 => k H locs cells slots ls9 (a_lv.st1 (v := .int x) (a_s1_17 hb) hl9) hP hz hS h1 h2)
theorem G_astore_1 (C : a_CG p s m args meth c T) (K : a_K o x0 cA D s) {z0 : Option Value} {y : Option Value} {t : List (Option Value)} {x : Nat} (hb : a_c1 z0 = true) (hn : 1 < T.2.2.1) (d : decode T.2.1 pc = .ok (.astore_n 1, 1)) (k : RG p l e Rm s m args below meth c D cA o x0 T Z kc ks (pc + 1) (z0 :: some (.ref x) :: t) (st) S V) : RG p l e Rm s m args below meth c D cA o x0 T Z kc ks (pc) (z0 :: y :: t) (.ref x :: st) S V :=
  fun H locs cells slots ls hl hP hz hS h1 h2 => lv_astore_n C.1 C.2.1 d rfl hl.has hn rfl (fun ls9 hl9 => k H locs cells slots ls9 (a_lv.st1 (v := .ref x) (a_s1_1 hb) hl9) hP hz hS h1 h2)
theorem G_astore_2 (C : a_CG p s m args meth c T) (K : a_K o x0 cA D s) {z0 z1 : Option Value} {y : Option Value} {t : List (Option Value)} {x : Nat} (hb : a_c1 z1 = true) (hn : 2 < T.2.2.1) (d : decode T.2.1 pc = .ok (.astore_n 2, 1)) (k : RG p l e Rm s m args below meth c D cA o x0 T Z kc ks (pc + 1) (z0 :: z1 :: some (.ref x) :: t) (st) S V) : RG p l e Rm s m args below meth c D cA o x0 T Z kc ks (pc) (z0 :: z1 :: y :: t) (.ref x :: st) S V :=
  fun H locs cells slots ls hl hP hz hS h1 h2 => lv_astore_n C.1 C.2.1 d rfl hl.has hn rfl (fun ls9 hl9 => k H locs cells slots ls9 (a_lv.st1 (v := .ref x) (a_s1_2 hb) hl9) hP hz hS h1 h2)
theorem G_astore_3 (C : a_CG p s m args meth c T) (K : a_K o x0 cA D s) {z0 z1 z2 : Option Value} {y : Option Value} {t : List (Option Value)} {x : Nat} (hb : a_c1 z2 = true) (hn : 3 < T.2.2.1) (d : decode T.2.1 pc = .ok (.astore_n 3, 1)) (k : RG p l e Rm s m args below meth c D cA o x0 T Z kc ks (pc + 1) (z0 :: z1 :: z2 :: some (.ref x) :: t) (st) S V) : RG p l e Rm s m args below meth c D cA o x0 T Z kc ks (pc) (z0 :: z1 :: z2 :: y :: t) (.ref x :: st) S V :=
  fun H locs cells slots ls hl hP hz hS h1 h2 => lv_astore_n C.1 C.2.1 d rfl hl.has hn rfl (fun ls9 hl9 => k H locs cells slots ls9 (a_lv.st1 (v := .ref x) (a_s1_3 hb) hl9) hP hz hS h1 h2)
theorem G_astore_4 (C : a_CG p s m args meth c T) (K : a_K o x0 cA D s) {z0 z1 z2 z3 : Option Value} {y : Option Value} {t : List (Option Value)} {x : Nat} (hb : a_c1 z3 = true) (hn : 4 < T.2.2.1) (d : decode T.2.1 pc = .ok (.astore 4, 2)) (k : RG p l e Rm s m args below meth c D cA o x0 T Z kc ks (pc + 2) (z0 :: z1 :: z2 :: z3 :: some (.ref x) :: t) (st) S V) : RG p l e Rm s m args below meth c D cA o x0 T Z kc ks (pc) (z0 :: z1 :: z2 :: z3 :: y :: t) (.ref x :: st) S V :=
  fun H locs cells slots ls hl hP hz hS h1 h2 => lv_astore C.1 C.2.1 d hl.has hn rfl (fun ls9 hl9 => k H locs cells slots ls9 (a_lv.st1 (v := .ref x) (a_s1_4 hb) hl9) hP hz hS h1 h2)
theorem G_astore_5 (C : a_CG p s m args meth c T) (K : a_K o x0 cA D s) {z0 z1 z2 z3 z4 : Option Value} {y : Option Value} {t : List (Option Value)} {x : Nat} (hb : a_c1 z4 = true) (hn : 5 < T.2.2.1) (d : decode T.2.1 pc = .ok (.astore 5, 2)) (k : RG p l e Rm s m args below meth c D cA o x0 T Z kc ks (pc + 2) (z0 :: z1 :: z2 :: z3 :: z4 :: some (.ref x) :: t) (st) S V) : RG p l e Rm s m args below meth c D cA o x0 T Z kc ks (pc) (z0 :: z1 :: z2 :: z3 :: z4 :: y :: t) (.ref x :: st) S V :=
  fun H locs cells slots ls hl hP hz hS h1 h2 => lv_astore C.1 C.2.1 d hl.has hn rfl (fun ls9 hl9 => k H locs cells slots ls9 (a_lv.st1 (v := .ref x) (a_s1_5 hb) hl9) hP hz hS h1 h2)
theorem G_astore_6 (C : a_CG p s m args meth c T) (K : a_K o x0 cA D s) {z0 z1 z2 z3 z4 z5 : Option Value} {y : Option Value} {t : List (Option Value)} {x : Nat} (hb : a_c1 z5 = true) (hn : 6 < T.2.2.1) (d : decode T.2.1 pc = .ok (.astore 6, 2)) (k : RG p l e Rm s m args below meth c D cA o x0 T Z kc ks (pc + 2) (z0 :: z1 :: z2 :: z3 :: z4 :: z5 :: some (.ref x) :: t) (st) S V) : RG p l e Rm s m args below meth c D cA o x0 T Z kc ks (pc) (z0 :: z1 :: z2 :: z3 :: z4 :: z5 :: y :: t) (.ref x :: st) S V :=
  fun H locs cells slots ls hl hP hz hS h1 h2 => lv_astore C.1 C.2.1 d hl.has hn rfl (fun ls9 hl9 => k H locs cells slots ls9 (a_lv.st1 (v := .ref x) (a_s1_6 hb) hl9) hP hz hS h1 h2)
theorem G_astore_7 (C : a_CG p s m args meth c T) (K : a_K o x0 cA D s) {z0 z1 z2 z3 z4 z5 z6 : Option Value} {y : Option Value} {t : List (Option Value)} {x : Nat} (hb : a_c1 z6 = true) (hn : 7 < T.2.2.1) (d : decode T.2.1 pc = .ok (.astore 7, 2)) (k : RG p l e Rm s m args below meth c D cA o x0 T Z kc ks (pc + 2) (z0 :: z1 :: z2 :: z3 :: z4 :: z5 :: z6 :: some (.ref x) :: t) (st) S V) : RG p l e Rm s m args below meth c D cA o x0 T Z kc ks (pc) (z0 :: z1 :: z2 :: z3 :: z4 :: z5 :: z6 :: y :: t) (.ref x :: st) S V :=
  fun H locs cells slots ls hl hP hz hS h1 h2 => lv_astore C.1 C.2.1 d hl.has hn rfl (fun ls9 hl9 => k H locs cells slots ls9 (a_lv.st1 (v := .ref x) (a_s1_7 hb) hl9) hP hz hS h1 h2)
theorem G_iconst (C : a_CG p s m args meth c T) (K : a_K o x0 cA D s) {n : Int} {v : Int32} (d : decode T.2.1 pc = .ok (.iconst n, 1)) (hv : Int32.ofInt n = v) (k : RG p l e Rm s m args below meth c D cA o x0 T Z kc ks (pc + 1) (lv) (.int v :: st) S V) : RG p l e Rm s m args below meth c D cA o x0 T Z kc ks (pc) (lv) (st) S V :=
  fun H locs cells slots ls hl hP hz hS h1 h2 => lv_iconst C.1 C.2.1 d hv (k H locs cells slots ls hl hP hz hS h1 h2)
theorem G_bipush (C : a_CG p s m args meth c T) (K : a_K o x0 cA D s) {n : Int} {v : Int32} (d : decode T.2.1 pc = .ok (.bipush n, 2)) (hv : (Int8.ofInt n).toInt32 = v) (k : RG p l e Rm s m args below meth c D cA o x0 T Z kc ks (pc + 2) (lv) (.int v :: st) S V) : RG p l e Rm s m args below meth c D cA o x0 T Z kc ks (pc) (lv) (st) S V :=
  fun H locs cells slots ls hl hP hz hS h1 h2 => lv_bipush C.1 C.2.1 d hv (k H locs cells slots ls hl hP hz hS h1 h2)
theorem G_sipush (C : a_CG p s m args meth c T) (K : a_K o x0 cA D s) {n : Int} {v : Int32} (d : decode T.2.1 pc = .ok (.sipush n, 3)) (hv : (Int16.ofInt n).toInt32 = v) (k : RG p l e Rm s m args below meth c D cA o x0 T Z kc ks (pc + 3) (lv) (.int v :: st) S V) : RG p l e Rm s m args below meth c D cA o x0 T Z kc ks (pc) (lv) (st) S V :=
  fun H locs cells slots ls hl hP hz hS h1 h2 => lv_sipush C.1 C.2.1 d hv (k H locs cells slots ls hl hP hz hS h1 h2)
theorem G_iadd (C : a_CG p s m args meth c T) (K : a_K o x0 cA D s) {x y : Int32} (d : decode T.2.1 pc = .ok (.iadd, 1))  (k : RG p l e Rm s m args below meth c D cA o x0 T Z kc ks (pc + 1) (lv) (.int (x + y) :: st) S V) : RG p l e Rm s m args below meth c D cA o x0 T Z kc ks (pc) (lv) (.int y :: .int x :: st) S V :=
  fun H locs cells slots ls hl hP hz hS h1 h2 => lv_iadd C.1 C.2.1 d  (k H locs cells slots ls hl hP hz hS h1 h2)
theorem G_isub (C : a_CG p s m args meth c T) (K : a_K o x0 cA D s) {x y : Int32} (d : decode T.2.1 pc = .ok (.isub, 1))  (k : RG p l e Rm s m args below meth c D cA o x0 T Z kc ks (pc + 1) (lv) (.int (x - y) :: st) S V) : RG p l e Rm s m args below meth c D cA o x0 T Z kc ks (pc) (lv) (.int y :: .int x :: st) S V :=
  fun H locs cells slots ls hl hP hz hS h1 h2 => lv_isub C.1 C.2.1 d  (k H locs cells slots ls hl hP hz hS h1 h2)
theorem G_imul (C : a_CG p s m args meth c T) (K : a_K o x0 cA D s) {x y : Int32} (d : decode T.2.1 pc = .ok (.imul, 1))  (k : RG p l e Rm s m args below meth c D cA o x0 T Z kc ks (pc + 1) (lv) (.int (x * y) :: st) S V) : RG p l e Rm s m args below meth c D cA o x0 T Z kc ks (pc) (lv) (.int y :: .int x :: st) S V :=
  fun H locs cells slots ls hl hP hz hS h1 h2 => lv_imul C.1 C.2.1 d  (k H locs cells slots ls hl hP hz hS h1 h2)
theorem G_iand (C : a_CG p s m args meth c T) (K : a_K o x0 cA D s) {x y : Int32} (d : decode T.2.1 pc = .ok (.iand, 1))  (k : RG p l e Rm s m args below meth c D cA o x0 T Z kc ks (pc + 1) (lv) (.int (x &&& y) :: st) S V) : RG p l e Rm s m args below meth c D cA o x0 T Z kc ks (pc) (lv) (.int y :: .int x :: st) S V :=
  fun H locs cells slots ls hl hP hz hS h1 h2 => lv_iand C.1 C.2.1 d  (k H locs cells slots ls hl hP hz hS h1 h2)
theorem G_ior (C : a_CG p s m args meth c T) (K : a_K o x0 cA D s) {x y : Int32} (d : decode T.2.1 pc = .ok (.ior, 1))  (k : RG p l e Rm s m args below meth c D cA o x0 T Z kc ks (pc + 1) (lv) (.int (x ||| y) :: st) S V) : RG p l e Rm s m args below meth c D cA o x0 T Z kc ks (pc) (lv) (.int y :: .int x :: st) S V :=
  fun H locs cells slots ls hl hP hz hS h1 h2 => lv_ior C.1 C.2.1 d  (k H locs cells slots ls hl hP hz hS h1 h2)
theorem G_ixor (C : a_CG p s m args meth c T) (K : a_K o x0 cA D s) {x y : Int32} (d : decode T.2.1 pc = .ok (.ixor, 1))  (k : RG p l e Rm s m args below meth c D cA o x0 T Z kc ks (pc + 1) (lv) (.int (x ^^^ y) :: st) S V) : RG p l e Rm s m args below meth c D cA o x0 T Z kc ks (pc) (lv) (.int y :: .int x :: st) S V :=
  fun H locs cells slots ls hl hP hz hS h1 h2 => lv_ixor C.1 C.2.1 d  (k H locs cells slots ls hl hP hz hS h1 h2)
theorem G_ishl (C : a_CG p s m args meth c T) (K : a_K o x0 cA D s) {x y : Int32} (d : decode T.2.1 pc = .ok (.ishl, 1))  (k : RG p l e Rm s m args below meth c D cA o x0 T Z kc ks (pc + 1) (lv) (.int (x <<< (y &&& 31)) :: st) S V) : RG p l e Rm s m args below meth c D cA o x0 T Z kc ks (pc) (lv) (.int y :: .int x :: st) S V :=
  fun H locs cells slots ls hl hP hz hS h1 h2 => lv_ishl C.1 C.2.1 d  (k H locs cells slots ls hl hP hz hS h1 h2)
theorem G_ishr (C : a_CG p s m args meth c T) (K : a_K o x0 cA D s) {x y : Int32} (d : decode T.2.1 pc = .ok (.ishr, 1))  (k : RG p l e Rm s m args below meth c D cA o x0 T Z kc ks (pc + 1) (lv) (.int (x >>> (y &&& 31)) :: st) S V) : RG p l e Rm s m args below meth c D cA o x0 T Z kc ks (pc) (lv) (.int y :: .int x :: st) S V :=
  fun H locs cells slots ls hl hP hz hS h1 h2 => lv_ishr C.1 C.2.1 d  (k H locs cells slots ls hl hP hz hS h1 h2)
theorem G_irem (C : a_CG p s m args meth c T) (K : a_K o x0 cA D s) {x y : Int32} (d : decode T.2.1 pc = .ok (.irem, 1)) (hne : ¬ y = 0) (k : RG p l e Rm s m args below meth c D cA o x0 T Z kc ks (pc + 1) (lv) (.int (x - x / y * y) :: st) S V) : RG p l e Rm s m args below meth c D cA o x0 T Z kc ks (pc) (lv) (.int y :: .int x :: st) S V :=
  fun H locs cells slots ls hl hP hz hS h1 h2 => lv_irem C.1 C.2.1 d hne (k H locs cells slots ls hl hP hz hS h1 h2)
theorem G_if_eq (C : a_CG p s m args meth c T) (K : a_K o x0 cA D s) {x : Int32} {off : Int} (tgt : Nat) (d : decode T.2.1 pc = .ok (.ifCond .eq off, 3)) (ht : (pc : Int) + off = (tgt : Int)) (k1 : x = 0 → RG p l e Rm s m args below meth c D cA o x0 T Z kc ks (tgt) (lv) (st) S V) (k2 : ¬ (x = 0) → RG p l e Rm s m args below meth c D cA o x0 T Z kc ks (pc + 3) (lv) (st) S V) : RG p l e Rm s m args below meth c D cA o x0 T Z kc ks (pc) (lv) (.int x :: st) S V :=
  fun H locs cells slots ls hl hP hz hS h1 h2 => lv_if_eq C.1 C.2.1 d ht (fun q => k1 q H locs cells slots ls hl hP hz hS h1 h2) (fun q => k2 q H locs cells slots ls hl hP hz hS h1 h2)
theorem G_if_ne (C : a_CG p s m args meth c T) (K : a_K o x0 cA D s) {x : Int32} {off : Int} (tgt : Nat) (d : decode T.2.1 pc = .ok (.ifCond .ne off, 3)) (ht : (pc : Int) + off = (tgt : Int)) (k1 : ¬ x = 0 → RG p l e Rm s m args below meth c D cA o x0 T Z kc ks (tgt) (lv) (st) S V) (k2 : x = 0 → RG p l e Rm s m args below meth c D cA o x0 T Z kc ks (pc + 3) (lv) (st) S V) : RG p l e Rm s m args below meth c D cA o x0 T Z kc ks (pc) (lv) (.int x :: st) S V :=
  fun H locs cells slots ls hl hP hz hS h1 h2 => lv_if_ne C.1 C.2.1 d ht (fun q => k1 q H locs cells slots ls hl hP hz hS h1 h2) (fun q => k2 q H locs cells slots ls hl hP hz hS h1 h2)
theorem G_icmp_eq (C : a_CG p s m args meth c T) (K : a_K o x0 cA D s) {x y : Int32} {off : Int} (tgt : Nat) (d : decode T.2.1 pc = .ok (.if_icmp .eq off, 3)) (ht : (pc : Int) + off = (tgt : Int)) (k1 : x = y → RG p l e Rm s m args below meth c D cA o x0 T Z kc ks (tgt) (lv) (st) S V) (k2 : ¬ (x = y) → RG p l e Rm s m args below meth c D cA o x0 T Z kc ks (pc + 3) (lv) (st) S V) : RG p l e Rm s m args below meth c D cA o x0 T Z kc ks (pc) (lv) (.int y :: .int x :: st) S V :=
  fun H locs cells slots ls hl hP hz hS h1 h2 => lv_icmp_eq C.1 C.2.1 d ht (fun q => k1 q H locs cells slots ls hl hP hz hS h1 h2) (fun q => k2 q H locs cells slots ls hl hP hz hS h1 h2)
theorem G_icmp_ne (C : a_CG p s m args meth c T) (K : a_K o x0 cA D s) {x y : Int32} {off : Int} (tgt : Nat) (d : decode T.2.1 pc = .ok (.if_icmp .ne off, 3)) (ht : (pc : Int) + off = (tgt : Int)) (k1 : ¬ x = y → RG p l e Rm s m args below meth c D cA o x0 T Z kc ks (tgt) (lv) (st) S V) (k2 : x = y → RG p l e Rm s m args below meth c D cA o x0 T Z kc ks (pc + 3) (lv) (st) S V) : RG p l e Rm s m args below meth c D cA o x0 T Z kc ks (pc) (lv) (.int y :: .int x :: st) S V :=
  fun H locs cells slots ls hl hP hz hS h1 h2 => lv_icmp_ne C.1 C.2.1 d ht (fun q => k1 q H locs cells slots ls hl hP hz hS h1 h2) (fun q => k2 q H locs cells slots ls hl hP hz hS h1 h2)
theorem G_icmp_gt (C : a_CG p s m args meth c T) (K : a_K o x0 cA D s) {x y : Int32} {off : Int} (tgt : Nat) (d : decode T.2.1 pc = .ok (.if_icmp .gt off, 3)) (ht : (pc : Int) + off = (tgt : Int)) (k1 : y < x → RG p l e Rm s m args below meth c D cA o x0 T Z kc ks (tgt) (lv) (st) S V) (k2 : ¬ (y < x) → RG p l e Rm s m args below meth c D cA o x0 T Z kc ks (pc + 3) (lv) (st) S V) : RG p l e Rm s m args below meth c D cA o x0 T Z kc ks (pc) (lv) (.int y :: .int x :: st) S V :=
  fun H locs cells slots ls hl hP hz hS h1 h2 => lv_icmp_gt C.1 C.2.1 d ht (fun q => k1 q H locs cells slots ls hl hP hz hS h1 h2) (fun q => k2 q H locs cells slots ls hl hP hz hS h1 h2)
theorem G_icmp_ge (C : a_CG p s m args meth c T) (K : a_K o x0 cA D s) {x y : Int32} {off : Int} (tgt : Nat) (d : decode T.2.1 pc = .ok (.if_icmp .ge off, 3)) (ht : (pc : Int) + off = (tgt : Int)) (k1 : y ≤ x → RG p l e Rm s m args below meth c D cA o x0 T Z kc ks (tgt) (lv) (st) S V) (k2 : ¬ (y ≤ x) → RG p l e Rm s m args below meth c D cA o x0 T Z kc ks (pc + 3) (lv) (st) S V) : RG p l e Rm s m args below meth c D cA o x0 T Z kc ks (pc) (lv) (.int y :: .int x :: st) S V :=
  fun H locs cells slots ls hl hP hz hS h1 h2 => lv_icmp_ge C.1 C.2.1 d ht (fun q => k1 q H locs cells slots ls hl hP hz hS h1 h2) (fun q => k2 q H locs cells slots ls hl hP hz hS h1 h2)
theorem G_icmp_le (C : a_CG p s m args meth c T) (K : a_K o x0 cA D s) {x y : Int32} {off : Int} (tgt : Nat) (d : decode T.2.1 pc = .ok (.if_icmp .le off, 3)) (ht : (pc : Int) + off = (tgt : Int)) (k1 : x ≤ y → RG p l e Rm s m args below meth c D cA o x0 T Z kc ks (tgt) (lv) (st) S V) (k2 : ¬ (x ≤ y) → RG p l e Rm s m args below meth c D cA o x0 T Z kc ks (pc + 3) (lv) (st) S V) : RG p l e Rm s m args below meth c D cA o x0 T Z kc ks (pc) (lv) (.int y :: .int x :: st) S V :=
  fun H locs cells slots ls hl hP hz hS h1 h2 => lv_icmp_le C.1 C.2.1 d ht (fun q => k1 q H locs cells slots ls hl hP hz hS h1 h2) (fun q => k2 q H locs cells slots ls hl hP hz hS h1 h2)
theorem G_goto (C : a_CG p s m args meth c T) (K : a_K o x0 cA D s) {off : Int} (tgt : Nat) (d : decode T.2.1 pc = .ok (.goto off, 3)) (ht : (pc : Int) + off = (tgt : Int)) (k : RG p l e Rm s m args below meth c D cA o x0 T Z kc ks (tgt) (lv) (st) S V) : RG p l e Rm s m args below meth c D cA o x0 T Z kc ks (pc) (lv) (st) S V :=
  fun H locs cells slots ls hl hP hz hS h1 h2 => lv_goto C.1 C.2.1 d ht (k H locs cells slots ls hl hP hz hS h1 h2)
theorem G_iinc_9 (C : a_CG p s m args meth c T) (K : a_K o x0 cA D s) {z0 z1 z2 z3 z4 z5 z6 z7 z8 : Option Value} {t : List (Option Value)} {n : Int} {x v : Int32} (hb : a_c1 z8 = true) (hn : 9 < T.2.2.1) (d : decode T.2.1 pc = .ok (.iinc 9 n, 3)) (hv : x + Int32.ofInt n = v) (k : RG p l e Rm s m args below meth c D cA o x0 T Z kc ks (pc + 3) (z0 :: z1 :: z2 :: z3 :: z4 :: z5 :: z6 :: z7 :: z8 :: some (.int v) :: t) (st) S V) : RG p l e Rm s m args below meth c D cA o x0 T Z kc ks (pc) (z0 :: z1 :: z2 :: z3 :: z4 :: z5 :: z6 :: z7 :: z8 :: some (.int x) :: t) (st) S V := by
  intro H locs cells slots ls hl hP hz hS h1 h2
  obtain ⟨k9, hk9⟩ := List.getElem?_of_mem (a_al_mem (o := o) (x0 := x0) (lv := z0 :: z1 :: z2 :: z3 :: z4 :: z5 :: z6 :: z7 :: z8 :: some (.int x) :: t) (q := (9, .int x)) |>.mpr ⟨.int x, rfl, rfl⟩)
  exact lv_iinc C.1 C.2.1 d hl.has hk9 hv hn rfl (fun ls9 hl9 => k H locs cells slots ls9 (a_lv.st1 (v := .int v) (a_s1_9 hb) hl9) hP hz hS h1 h2)
theorem G_iinc_14 (C : a_CG p s m args meth c T) (K : a_K o x0 cA D s) {z0 z1 z2 z3 z4 z5 z6 z7 z8 z9 z10 z11 z12 z13 : Option Value} {t : List (Option Value)} {n : Int} {x v : Int32} (hb : a_c1 z13 = true) (hn : 14 < T.2.2.1) (d : decode T.2.1 pc = .ok (.iinc 14 n, 3)) (hv : x + Int32.ofInt n = v) (k : RG p l e Rm s m args below meth c D cA o x0 T Z kc ks (pc + 3) (z0 :: z1 :: z2 :: z3 :: z4 :: z5 :: z6 :: z7 :: z8 :: z9 :: z10 :: z11 :: z12 :: z13 :: some (.int v) :: t) (st) S V) : RG p l e Rm s m args below meth c D cA o x0 T Z kc ks (pc) (z0 :: z1 :: z2 :: z3 :: z4 :: z5 :: z6 :: z7 :: z8 :: z9 :: z10 :: z11 :: z12 :: z13 :: some (.int x) :: t) (st) S V := by
  intro H locs cells slots ls hl hP hz hS h1 h2
  obtain ⟨k9, hk9⟩ := List.getElem?_of_mem (a_al_mem (o := o) (x0 := x0) (lv := z0 :: z1 :: z2 :: z3 :: z4 :: z5 :: z6 :: z7 :: z8 :: z9 :: z10 :: z11 :: z12 :: z13 :: some (.int x) :: t) (q := (14, .int x)) |>.mpr ⟨.int x, rfl, rfl⟩)
  exact lv_iinc C.1 C.2.1 d hl.has hk9 hv hn rfl (fun ls9 hl9 => k H locs cells slots ls9 (a_lv.st1 (v := .int v) (a_s1_14 hb) hl9) hP hz hS h1 h2)
theorem G_dup (C : a_CG p s m args meth c T) (K : a_K o x0 cA D s) {v : Value} (d : decode T.2.1 pc = .ok (.dup, 1)) (hv : v.category = 1) (k : RG p l e Rm s m args below meth c D cA o x0 T Z kc ks (pc + 1) (lv) (v :: v :: st) S V) : RG p l e Rm s m args below meth c D cA o x0 T Z kc ks (pc) (lv) (v :: st) S V :=
  fun H locs cells slots ls hl hP hz hS h1 h2 => lv_dup C.1 C.2.1 d ((a_v_cat _ _ _).trans hv) (k H locs cells slots ls hl hP hz hS h1 h2)
theorem G_dup2_11 (C : a_CG p s m args meth c T) (K : a_K o x0 cA D s) {v u : Value} (d : decode T.2.1 pc = .ok (.dup2, 1)) (hv : v.category = 1) (hu : u.category = 1) (k : RG p l e Rm s m args below meth c D cA o x0 T Z kc ks (pc + 1) (lv) (v :: u :: v :: u :: st) S V) : RG p l e Rm s m args below meth c D cA o x0 T Z kc ks (pc) (lv) (v :: u :: st) S V :=
  fun H locs cells slots ls hl hP hz hS h1 h2 => lv_dup2_11 C.1 C.2.1 d ((a_v_cat _ _ _).trans hv) ((a_v_cat _ _ _).trans hu) (k H locs cells slots ls hl hP hz hS h1 h2)
theorem G_pop (C : a_CG p s m args meth c T) (K : a_K o x0 cA D s) {v : Value} (d : decode T.2.1 pc = .ok (.pop, 1)) (hv : v.category = 1) (k : RG p l e Rm s m args below meth c D cA o x0 T Z kc ks (pc + 1) (lv) (st) S V) : RG p l e Rm s m args below meth c D cA o x0 T Z kc ks (pc) (lv) (v :: st) S V :=
  fun H locs cells slots ls hl hP hz hS h1 h2 => lv_pop C.1 C.2.1 d ((a_v_cat _ _ _).trans hv) (k H locs cells slots ls hl hP hz hS h1 h2)
theorem G_iald (C : a_CG p s m args meth c T) (K : a_K o x0 cA D s) {a N n : Nat} {i x : Int32} (d : decode T.2.1 pc = .ok (.iaload, 1)) (hs : S.1 a = (14, N)) (hin : vp_in i N) (hi : i.toNatClampNeg = n) (hv : V a n = .int x) (kk : RG p l e Rm s m args below meth c D cA o x0 T Z kc ks (pc + 1) (lv) (.int x :: st) S V) : RG p l e Rm s m args below meth c D cA o x0 T Z kc ks (pc) (lv) (.int i :: .ref a :: st) S V := by
  intro H locs cells slots ls hl hP hz hS h1 h2
  have he := a_e_int (o := o) (x0 := x0) (cA := cA) (g := V a) hs (by decide) (by decide)
  refine va_iald C.1 C.2.1 K.1 (va_P_one (hP a _ he)) 0 1 rfl rfl hin d ?_
  rw [hi]
  show W _ _ _ _ _ _ _ _ _ _ _ _ _ _ _ (F0 m (pc + 1) ls (.int (a_i (V a n)) :: _))
  rw [hv]
  exact kk H locs cells slots ls hl hP hz hS h1 h2
theorem G_iast (C : a_CG p s m args meth c T) (K : a_K o x0 cA D s) {a N n : Nat} {i x : Int32} (d : decode T.2.1 pc = .ok (.iastore, 1)) (hs : S.1 a = (14, N)) (hin : vp_in i N) (hi : i.toNatClampNeg = n) (kk : RG p l e Rm s m args below meth c D cA o x0 T Z kc ks (pc + 1) (lv) (st) S (a_up V a n (.int x))) : RG p l e Rm s m args below meth c D cA o x0 T Z kc ks (pc) (lv) (.int x :: .int i :: .ref a :: st) S V := by
  intro H locs cells slots ls hl hP hz hS h1 h2
  have he := hP a _ (a_e_int (o := o) (x0 := x0) (cA := cA) (g := V a) hs (by decide) (by decide))
  refine W.iast C.1 C.2.1 he ((K.1.2 1 _ rfl).1 N (fun j => .int (a_i (V a j)))) (fun q => by cases q) (by show ¬ (i < 0 ∨ (arrV _ _ _).slots.size ≤ _); rw [arrV_size]; exact hin) rfl rfl d fun H1 e0 z oq => ?_
  subst hi
  refine kk H1 _ cells slots ls hl (hP.upd (fun b hb => a_up_row hb) oq (fun ev hev => ?_)) (hz.put z) (hS.put z oq (Nat.le_add_right o a)) h1 h2
  rw [a_e_int hs (by decide) (by decide)] at hev
  cases hev
  show H1[o + a]? = some (vp_cell _ _)
  rw [e0]
  rw [vp_cell_i, a_up_ints]
  show some ((arrV (cA 14) N fun j => .int (a_i (V a j))).setSlot _ _) = _
  rw [arrV_store]
  show some (arrV (cA 14) N (updV _ _ _)) = some (arrV (cA 14) N fun j => .int (upd (fun j => a_i (V a j)) i.toNatClampNeg x j))
  congr 2
  funext q
  by_cases hq : q = i.toNatClampNeg
  · subst hq
    simp [updV, upd]
  · simp [updV, upd, hq]
theorem G_drop_5 (C : a_CG p s m args meth c T) (K : a_K o x0 cA D s) {z0 z1 z2 z3 z4 : Option Value} {y : Option Value} {t : List (Option Value)} (k : RG p l e Rm s m args below meth c D cA o x0 T Z kc ks (pc) (z0 :: z1 :: z2 :: z3 :: z4 :: none :: t) (st) S V) : RG p l e Rm s m args below meth c D cA o x0 T Z kc ks (pc) (z0 :: z1 :: z2 :: z3 :: z4 :: y :: t) (st) S V := by
  refine G_lv C K (fun j v h => ?_) k
  match j, h with
  | 0, h => exact h
  | 1, h => exact h
  | 2, h => exact h
  | 3, h => exact h
  | 4, h => exact h
  | 5, h => cases h
  | j + 6, h => exact h
theorem G_drop_6 (C : a_CG p s m args meth c T) (K : a_K o x0 cA D s) {z0 z1 z2 z3 z4 z5 : Option Value} {y : Option Value} {t : List (Option Value)} (k : RG p l e Rm s m args below meth c D cA o x0 T Z kc ks (pc) (z0 :: z1 :: z2 :: z3 :: z4 :: z5 :: none :: t) (st) S V) : RG p l e Rm s m args below meth c D cA o x0 T Z kc ks (pc) (z0 :: z1 :: z2 :: z3 :: z4 :: z5 :: y :: t) (st) S V := by
  refine G_lv C K (fun j v h => ?_) k
  match j, h with
  | 0, h => exact h
  | 1, h => exact h
  | 2, h => exact h
  | 3, h => exact h
  | 4, h => exact h
  | 5, h => exact h
  | 6, h => cases h
  | j + 7, h => exact h
theorem G_drop_7 (C : a_CG p s m args meth c T) (K : a_K o x0 cA D s) {z0 z1 z2 z3 z4 z5 z6 : Option Value} {y : Option Value} {t : List (Option Value)} (k : RG p l e Rm s m args below meth c D cA o x0 T Z kc ks (pc) (z0 :: z1 :: z2 :: z3 :: z4 :: z5 :: z6 :: none :: t) (st) S V) : RG p l e Rm s m args below meth c D cA o x0 T Z kc ks (pc) (z0 :: z1 :: z2 :: z3 :: z4 :: z5 :: z6 :: y :: t) (st) S V := by
  refine G_lv C K (fun j v h => ?_) k
  match j, h with
  | 0, h => exact h
  | 1, h => exact h
  | 2, h => exact h
  | 3, h => exact h
  | 4, h => exact h
  | 5, h => exact h
  | 6, h => exact h
  | 7, h => cases h
  | j + 8, h => exact h
theorem G_drop_8 (C : a_CG p s m args meth c T) (K : a_K o x0 cA D s) {z0 z1 z2 z3 z4 z5 z6 z7 : Option Value} {y : Option Value} {t : List (Option Value)} (k : RG p l e Rm s m args below meth c D cA o x0 T Z kc ks (pc) (z0 :: z1 :: z2 :: z3 :: z4 :: z5 :: z6 :: z7 :: none :: t) (st) S V) : RG p l e Rm s m args below meth c D cA o x0 T Z kc ks (pc) (z0 :: z1 :: z2 :: z3 :: z4 :: z5 :: z6 :: z7 :: y :: t) (st) S V := by
  refine G_lv C K (fun j v h => ?_) k
  match j, h with
  | 0, h => exact h
  | 1, h => exact h
  | 2, h => exact h
  | 3, h => exact h
  | 4, h => exact h
  | 5, h => exact h
  | 6, h => exact h
  | 7, h => exact h
  | 8, h => cases h
  | j + 9, h => exact h
theorem G_drop_9 (C : a_CG p s m args meth c T) (K : a_K o x0 cA D s) {z0 z1 z2 z3 z4 z5 z6 z7 z8 : Option Value} {y : Option Value} {t : List (Option Value)} (k : RG p l e Rm s m args below meth c D cA o x0 T Z kc ks (pc) (z0 :: z1 :: z2 :: z3 :: z4 :: z5 :: z6 :: z7 :: z8 :: none :: t) (st) S V) : RG p l e Rm s m args below meth c D cA o x0 T Z kc ks (pc) (z0 :: z1 :: z2 :: z3 :: z4 :: z5 :: z6 :: z7 :: z8 :: y :: t) (st) S V := by
  refine G_lv C K (fun j v h => ?_) k
  match j, h with
  | 0, h => exact h
  | 1, h => exact h
  | 2, h => exact h
  | 3, h => exact h
  | 4, h => exact h
  | 5, h => exact h
  | 6, h => exact h
  | 7, h => exact h
  | 8, h => exact h
  | 9, h => cases h
  | j + 10, h => exact h
theorem G_drop_10 (C : a_CG p s m args meth c T) (K : a_K o x0 cA D s) {z0 z1 z2 z3 z4 z5 z6 z7 z8 z9 : Option Value} {y : Option Value} {t : List (Option Value)} (k : RG p l e Rm s m args below meth c D cA o x0 T Z kc ks (pc) (z0 :: z1 :: z2 :: z3 :: z4 :: z5 :: z6 :: z7 :: z8 :: z9 :: none :: t) (st) S V) : RG p l e Rm s m args below meth c D cA o x0 T Z kc ks (pc) (z0 :: z1 :: z2 :: z3 :: z4 :: z5 :: z6 :: z7 :: z8 :: z9 :: y :: t) (st) S V := by
  refine G_lv C K (fun j v h => ?_) k
  match j, h with
  | 0, h => exact h
  | 1, h => exact h
  | 2, h => exact h
  | 3, h => exact h
  | 4, h => exact h
  | 5, h => exact h
  | 6, h => exact h
  | 7, h => exact h
  | 8, h => exact h
  | 9, h => exact h
  | 10, h => cases h
  | j + 11, h => exact h
theorem G_drop_11 (C : a_CG p s m args meth c T) (K : a_K o x0 cA D s) {z0 z1 z2 z3 z4 z5 z6 z7 z8 z9 z10 : Option Value} {y : Option Value} {t : List (Option Value)} (k : RG p l e Rm s m args below meth c D cA o x0 T Z kc ks (pc) (z0 :: z1 :: z2 :: z3 :: z4 :: z5 :: z6 :: z7 :: z8 :: z9 :: z10 :: none :: t) (st) S V) : RG p l e Rm s m args below meth c D cA o x0 T Z kc ks (pc) (z0 :: z1 :: z2 :: z3 :: z4 :: z5 :: z6 :: z7 :: z8 :: z9 :: z10 :: y :: t) (st) S V := by
  refine G_lv C K (fun j v h => ?_) k
  match j, h with
  | 0, h => exact h
  | 1, h => exact h
  | 2, h => exact h
  | 3, h => exact h
  | 4, h => exact h
  | 5, h => exact h
  | 6, h => exact h
  | 7, h => exact h
  | 8, h => exact h
  | 9, h => exact h
  | 10, h => exact h
  | 11, h => cases h
  | j + 12, h => exact h
theorem G_drop_12 (C : a_CG p s m args meth c T) (K : a_K o x0 cA D s) {z0 z1 z2 z3 z4 z5 z6 z7 z8 z9 z10 z11 : Option Value} {y : Option Value} {t : List (Option Value)} (k : RG p l e Rm s m args below meth c D cA o x0 T Z kc ks (pc) (z0 :: z1 :: z2 :: z3 :: z4 :: z5 :: z6 :: z7 :: z8 :: z9 :: z10 :: z11 :: none :: t) (st) S V) : RG p l e Rm s m args below meth c D cA o x0 T Z kc ks (pc) (z0 :: z1 :: z2 :: z3 :: z4 :: z5 :: z6 :: z7 :: z8 :: z9 :: z10 :: z11 :: y :: t) (st) S V := by
  refine G_lv C K (fun j v h => ?_) k
  match j, h with
  | 0, h => exact h
  | 1, h => exact h
  | 2, h => exact h
  | 3, h => exact h
  | 4, h => exact h
  | 5, h => exact h
  | 6, h => exact h
  | 7, h => exact h
  | 8, h => exact h
  | 9, h => exact h
  | 10, h => exact h
  | 11, h => exact h
  | 12, h => cases h
  | j + 13, h => exact h
theorem G_drop_13 (C : a_CG p s m args meth c T) (K : a_K o x0 cA D s) {z0 z1 z2 z3 z4 z5 z6 z7 z8 z9 z10 z11 z12 : Option Value} {y : Option Value} {t : List (Option Value)} (k : RG p l e Rm s m args below meth c D cA o x0 T Z kc ks (pc) (z0 :: z1 :: z2 :: z3 :: z4 :: z5 :: z6 :: z7 :: z8 :: z9 :: z10 :: z11 :: z12 :: none :: t) (st) S V) : RG p l e Rm s m args below meth c D cA o x0 T Z kc ks (pc) (z0 :: z1 :: z2 :: z3 :: z4 :: z5 :: z6 :: z7 :: z8 :: z9 :: z10 :: z11 :: z12 :: y :: t) (st) S V := by
  refine G_lv C K (fun j v h => ?_) k
  match j, h with
  | 0, h => exact h
  | 1, h => exact h
  | 2, h => exact h
  | 3, h => exact h
  | 4, h => exact h
  | 5, h => exact h
  | 6, h => exact h
  | 7, h => exact h
  | 8, h => exact h
  | 9, h => exact h
  | 10, h => exact h
  | 11, h => exact h
  | 12, h => exact h
  | 13, h => cases h
  | j + 14, h => exact h
theorem G_drop_14 (C : a_CG p s m args meth c T) (K : a_K o x0 cA D s) {z0 z1 z2 z3 z4 z5 z6 z7 z8 z9 z10 z11 z12 z13 : Option Value} {y : Option Value} {t : List (Option Value)} (k : RG p l e Rm s m args below meth c D cA o x0 T Z kc ks (pc) (z0 :: z1 :: z2 :: z3 :: z4 :: z5 :: z6 :: z7 :: z8 :: z9 :: z10 :: z11 :: z12 :: z13 :: none :: t) (st) S V) : RG p l e Rm s m args below meth c D cA o x0 T Z kc ks (pc) (z0 :: z1 :: z2 :: z3 :: z4 :: z5 :: z6 :: z7 :: z8 :: z9 :: z10 :: z11 :: z12 :: z13 :: y :: t) (st) S V := by
  refine G_lv C K (fun j v h => ?_) k
  match j, h with
  | 0, h => exact h
  | 1, h => exact h
  | 2, h => exact h
  | 3, h => exact h
  | 4, h => exact h
  | 5, h => exact h
  | 6, h => exact h
  | 7, h => exact h
  | 8, h => exact h
  | 9, h => exact h
  | 10, h => exact h
  | 11, h => exact h
  | 12, h => exact h
  | 13, h => exact h
  | 14, h => cases h
  | j + 15, h => exact h
theorem G_drop_15 (C : a_CG p s m args meth c T) (K : a_K o x0 cA D s) {z0 z1 z2 z3 z4 z5 z6 z7 z8 z9 z10 z11 z12 z13 z14 : Option Value} {y : Option Value} {t : List (Option Value)} (k : RG p l e Rm s m args below meth c D cA o x0 T Z kc ks (pc) (z0 :: z1 :: z2 :: z3 :: z4 :: z5 :: z6 :: z7 :: z8 :: z9 :: z10 :: z11 :: z12 :: z13 :: z14 :: none :: t) (st) S V) : RG p l e Rm s m args below meth c D cA o x0 T Z kc ks (pc) (z0 :: z1 :: z2 :: z3 :: z4 :: z5 :: z6 :: z7 :: z8 :: z9 :: z10 :: z11 :: z12 :: z13 :: z14 :: y :: t) (st) S V := by
  refine G_lv C K (fun j v h => ?_) k
  match j, h with
  | 0, h => exact h
  | 1, h => exact h
  | 2, h => exact h
  | 3, h => exact h
  | 4, h => exact h
  | 5, h => exact h
  | 6, h => exact h
  | 7, h => exact h
  | 8, h => exact h
  | 9, h => exact h
  | 10, h => exact h
  | 11, h => exact h
  | 12, h => exact h
  | 13, h => exact h
  | 14, h => exact h
  | 15, h => cases h
  | j + 16, h => exact h
theorem G_drop_16 (C : a_CG p s m args meth c T) (K : a_K o x0 cA D s) {z0 z1 z2 z3 z4 z5 z6 z7 z8 z9 z10 z11 z12 z13 z14 z15 : Option Value} {y : Option Value} {t : List (Option Value)} (k : RG p l e Rm s m args below meth c D cA o x0 T Z kc ks (pc) (z0 :: z1 :: z2 :: z3 :: z4 :: z5 :: z6 :: z7 :: z8 :: z9 :: z10 :: z11 :: z12 :: z13 :: z14 :: z15 :: none :: t) (st) S V) : RG p l e Rm s m args below meth c D cA o x0 T Z kc ks (pc) (z0 :: z1 :: z2 :: z3 :: z4 :: z5 :: z6 :: z7 :: z8 :: z9 :: z10 :: z11 :: z12 :: z13 :: z14 :: z15 :: y :: t) (st) S V := by
  refine G_lv C K (fun j v h => ?_) k
  match j, h with
  | 0, h => exact h
  | 1, h => exact h
  | 2, h => exact h
  | 3, h => exact h
  | 4, h => exact h
  | 5, h => exact h
  | 6, h => exact h
  | 7, h => exact h
  | 8, h => exact h
  | 9, h => exact h
  | 10, h => exact h
  | 11, h => exact h
  | 12, h => exact h
  | 13, h => exact h
  | 14, h => exact h
  | 15, h => exact h
  | 16, h => cases h
  | j + 17, h => exact h
theorem G_drop_17 (C : a_CG p s m args meth c T) (K : a_K o x0 cA D s) {z0 z1 z2 z3 z4 z5 z6 z7 z8 z9 z10 z11 z12 z13 z14 z15 z16 : Option Value} {y : Option Value} {t : List (Option Value)} (k : RG p l e Rm s m args below meth c D cA o x0 T Z kc ks (pc) (z0 :: z1 :: z2 :: z3 :: z4 :: z5 :: z6 :: z7 :: z8 :: z9 :: z10 :: z11 :: z12 :: z13 :: z14 :: z15 :: z16 :: none :: t) (st) S V) : RG p l e Rm s m args below meth c D cA o x0 T Z kc ks (pc) (z0 :: z1 :: z2 :: z3 :: z4 :: z5 :: z6 :: z7 :: z8 :: z9 :: z10 :: z11 :: z12 :: z13 :: z14 :: z15 :: z16 :: y :: t) (st) S V := by
  refine G_lv C K (fun j v h => ?_) k
  match j, h with
  | 0, h => exact h
  | 1, h => exact h
  | 2, h => exact h
  | 3, h => exact h
  | 4, h => exact h
  | 5, h => exact h
  | 6, h => exact h
  | 7, h => exact h
  | 8, h => exact h
  | 9, h => exact h
  | 10, h => exact h
  | 11, h => exact h
  | 12, h => exact h
  | 13, h => exact h
  | 14, h => exact h
  | 15, h => exact h
  | 16, h => exact h
  | 17, h => cases h
  | j + 18, h => exact h
end GROWS
