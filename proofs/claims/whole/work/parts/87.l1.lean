/-! ===== rows over any room and any end ===== -/
def a_CG (p : Program) (s : State) (m : MethodId) (args : Array Value) (meth : Method) (c : Code) (T : aMt) : Prop :=
  p.tables.exec = Jvm.exec ∧ c.code = T.2.1 ∧ c.maxLocals = T.2.2.1 ∧ s.vm.findClass T.1.cls = some m.cls ∧ (∀ w ∈ aT, w.before args s = true) ∧ meth.sig.returnType = T.2.2.2 ∧ meth.locks = false
theorem a_CG.fix {p : Program} {s : State} {m : MethodId} {args : Array Value} {meth : Method} {c : Code} {T : aMt} (C : a_CG p s m args meth c T) : CallFix p m c T.2.1 T.2.2.1 s args aT T.1.cls := ⟨C.1, C.2.1, C.2.2.1, C.2.2.2.1, C.2.2.2.2.1⟩
def RG (p : Program) (l : Launch) (e : Env) (Rm : Room) (s : State) (m : MethodId) (args : Array Value) (below : List Frame) (meth : Method) (c : Code) (D : va_G) (cA : Nat → ClassId) (o : Nat) (x0 : Nat → Nat) (T : aMt) (Z : State → Prop) (kc ks pc : Nat) (lv : List (Option Value)) (st : List Value) (S : aS) (V : aV) : Prop :=
  ∀ (H : Heap) (locs : List Loc) (cells slots : Nat) (ls : Array Slot), a_lv o x0 T.2.2.1 lv ls → a_P o x0 cA D S V H → a_Z o S H → va_S (fun q => o ≤ q) s.heap H locs → cells + kc ≤ Rm.cells → slots + ks ≤ Rm.slots →
    W p l e Rm s m args below meth c H locs cells slots Z (F0 m pc ls (st.map (a_v o x0)))
section GROWS
variable {p : Program} {l : Launch} {e : Env} {Rm : Room} {s : State} {m : MethodId} {args : Array Value} {below : List Frame} {meth : Method} {c : Code} {D : va_G} {cA : Nat → ClassId} {o : Nat} {x0 : Nat → Nat} {T : aMt} {Z : State → Prop} {kc ks pc : Nat} {lv lv' : List (Option Value)} {st : List Value} {S : aS} {V : aV}
theorem G_lv (C : a_CG p s m args meth c T) (K : a_K o x0 cA D s) {lv2 : List (Option Value)} (h : ∀ (i : Nat) (v : Value), lv2[i]? = some (some v) → lv[i]? = some (some v)) (k : RG p l e Rm s m args below meth c D cA o x0 T Z kc ks (pc) (lv2) (st) S V) : RG p l e Rm s m args below meth c D cA o x0 T Z kc ks (pc) (lv) (st) S V :=
  fun H locs cells slots ls hl hP hz hS h1 h2 => k H locs cells slots ls ⟨hl.1, hl.2.1, fun i v hi => hl.2.2 i v (h i v hi)⟩ hP hz hS h1 h2
theorem G_aload_0 (C : a_CG p s m args meth c T) (K : a_K o x0 cA D s) {t : List (Option Value)} {x : Nat} (d : decode T.2.1 pc = .ok (.aload_n 0, 1)) (k : RG p l e Rm s m args below meth c D cA o x0 T Z kc ks (pc + 1) (some (.ref x) :: t) (.ref x :: st) S V) : RG p l e Rm s m args below meth c D cA o x0 T Z kc ks (pc) (some (.ref x) :: t) (st) S V :=
  fun H locs cells slots ls hl hP hz hS h1 h2 => lv_aload_n C.1 C.2.1 d rfl (hl.2.2 0 _ rfl) (k H locs cells slots ls hl hP hz hS h1 h2)
theorem G_aload_1 (C : a_CG p s m args meth c T) (K : a_K o x0 cA D s) {z0 : Option Value} {t : List (Option Value)} {x : Nat} (d : decode T.2.1 pc = .ok (.aload_n 1, 1)) (k : RG p l e Rm s m args below meth c D cA o x0 T Z kc ks (pc + 1) (z0 :: some (.ref x) :: t) (.ref x :: st) S V) : RG p l e Rm s m args below meth c D cA o x0 T Z kc ks (pc) (z0 :: some (.ref x) :: t) (st) S V :=
  fun H locs cells slots ls hl hP hz hS h1 h2 => lv_aload_n C.1 C.2.1 d rfl (hl.2.2 1 _ rfl) (k H locs cells slots ls hl hP hz hS h1 h2)
theorem G_aload_2 (C : a_CG p s m args meth c T) (K : a_K o x0 cA D s) {z0 z1 : Option Value} {t : List (Option Value)} {x : Nat} (d : decode T.2.1 pc = .ok (.aload_n 2, 1)) (k : RG p l e Rm s m args below meth c D cA o x0 T Z kc ks (pc + 1) (z0 :: z1 :: some (.ref x) :: t) (.ref x :: st) S V) : RG p l e Rm s m args below meth c D cA o x0 T Z kc ks (pc) (z0 :: z1 :: some (.ref x) :: t) (st) S V :=
  fun H locs cells slots ls hl hP hz hS h1 h2 => lv_aload_n C.1 C.2.1 d rfl (hl.2.2 2 _ rfl) (k H locs cells slots ls hl hP hz hS h1 h2)
theorem G_aload_3 (C : a_CG p s m args meth c T) (K : a_K o x0 cA D s) {z0 z1 z2 : Option Value} {t : List (Option Value)} {x : Nat} (d : decode T.2.1 pc = .ok (.aload_n 3, 1)) (k : RG p l e Rm s m args below meth c D cA o x0 T Z kc ks (pc + 1) (z0 :: z1 :: z2 :: some (.ref x) :: t) (.ref x :: st) S V) : RG p l e Rm s m args below meth c D cA o x0 T Z kc ks (pc) (z0 :: z1 :: z2 :: some (.ref x) :: t) (st) S V :=
  fun H locs cells slots ls hl hP hz hS h1 h2 => lv_aload_n C.1 C.2.1 d rfl (hl.2.2 3 _ rfl) (k H locs cells slots ls hl hP hz hS h1 h2)
theorem G_aload_4 (C : a_CG p s m args meth c T) (K : a_K o x0 cA D s) {z0 z1 z2 z3 : Option Value} {t : List (Option Value)} {x : Nat} (d : decode T.2.1 pc = .ok (.aload 4, 2)) (k : RG p l e Rm s m args below meth c D cA o x0 T Z kc ks (pc + 2) (z0 :: z1 :: z2 :: z3 :: some (.ref x) :: t) (.ref x :: st) S V) : RG p l e Rm s m args below meth c D cA o x0 T Z kc ks (pc) (z0 :: z1 :: z2 :: z3 :: some (.ref x) :: t) (st) S V :=
  fun H locs cells slots ls hl hP hz hS h1 h2 => lv_aload C.1 C.2.1 d (hl.2.2 4 _ rfl) (k H locs cells slots ls hl hP hz hS h1 h2)
theorem G_aload_5 (C : a_CG p s m args meth c T) (K : a_K o x0 cA D s) {z0 z1 z2 z3 z4 : Option Value} {t : List (Option Value)} {x : Nat} (d : decode T.2.1 pc = .ok (.aload 5, 2)) (k : RG p l e Rm s m args below meth c D cA o x0 T Z kc ks (pc + 2) (z0 :: z1 :: z2 :: z3 :: z4 :: some (.ref x) :: t) (.ref x :: st) S V) : RG p l e Rm s m args below meth c D cA o x0 T Z kc ks (pc) (z0 :: z1 :: z2 :: z3 :: z4 :: some (.ref x) :: t) (st) S V :=
  fun H locs cells slots ls hl hP hz hS h1 h2 => lv_aload C.1 C.2.1 d (hl.2.2 5 _ rfl) (k H locs cells slots ls hl hP hz hS h1 h2)
theorem G_iload_0 (C : a_CG p s m args meth c T) (K : a_K o x0 cA D s) {t : List (Option Value)} {x : Int32} (d : decode T.2.1 pc = .ok (.iload_n 0, 1)) (k : RG p l e Rm s m args below meth c D cA o x0 T Z kc ks (pc + 1) (some (.int x) :: t) (.int x :: st) S V) : RG p l e Rm s m args below meth c D cA o x0 T Z kc ks (pc) (some (.int x) :: t) (st) S V :=
  fun H locs cells slots ls hl hP hz hS h1 h2 => lv_iload_n C.1 C.2.1 d rfl (hl.2.2 0 _ rfl) (k H locs cells slots ls hl hP hz hS h1 h2)
theorem G_iload_1 (C : a_CG p s m args meth c T) (K : a_K o x0 cA D s) {z0 : Option Value} {t : List (Option Value)} {x : Int32} (d : decode T.2.1 pc = .ok (.iload_n 1, 1)) (k : RG p l e Rm s m args below meth c D cA o x0 T Z kc ks (pc + 1) (z0 :: some (.int x) :: t) (.int x :: st) S V) : RG p l e Rm s m args below meth c D cA o x0 T Z kc ks (pc) (z0 :: some (.int x) :: t) (st) S V :=
  fun H locs cells slots ls hl hP hz hS h1 h2 => lv_iload_n C.1 C.2.1 d rfl (hl.2.2 1 _ rfl) (k H locs cells slots ls hl hP hz hS h1 h2)
theorem G_iload_2 (C : a_CG p s m args meth c T) (K : a_K o x0 cA D s) {z0 z1 : Option Value} {t : List (Option Value)} {x : Int32} (d : decode T.2.1 pc = .ok (.iload_n 2, 1)) (k : RG p l e Rm s m args below meth c D cA o x0 T Z kc ks (pc + 1) (z0 :: z1 :: some (.int x) :: t) (.int x :: st) S V) : RG p l e Rm s m args below meth c D cA o x0 T Z kc ks (pc) (z0 :: z1 :: some (.int x) :: t) (st) S V :=
  fun H locs cells slots ls hl hP hz hS h1 h2 => lv_iload_n C.1 C.2.1 d rfl (hl.2.2 2 _ rfl) (k H locs cells slots ls hl hP hz hS h1 h2)
theorem G_iload_3 (C : a_CG p s m args meth c T) (K : a_K o x0 cA D s) {z0 z1 z2 : Option Value} {t : List (Option Value)} {x : Int32} (d : decode T.2.1 pc = .ok (.iload_n 3, 1)) (k : RG p l e Rm s m args below meth c D cA o x0 T Z kc ks (pc + 1) (z0 :: z1 :: z2 :: some (.int x) :: t) (.int x :: st) S V) : RG p l e Rm s m args below meth c D cA o x0 T Z kc ks (pc) (z0 :: z1 :: z2 :: some (.int x) :: t) (st) S V :=
  fun H locs cells slots ls hl hP hz hS h1 h2 => lv_iload_n C.1 C.2.1 d rfl (hl.2.2 3 _ rfl) (k H locs cells slots ls hl hP hz hS h1 h2)
theorem G_iload_4 (C : a_CG p s m args meth c T) (K : a_K o x0 cA D s) {z0 z1 z2 z3 : Option Value} {t : List (Option Value)} {x : Int32} (d : decode T.2.1 pc = .ok (.iload 4, 2)) (k : RG p l e Rm s m args below meth c D cA o x0 T Z kc ks (pc + 2) (z0 :: z1 :: z2 :: z3 :: some (.int x) :: t) (.int x :: st) S V) : RG p l e Rm s m args below meth c D cA o x0 T Z kc ks (pc) (z0 :: z1 :: z2 :: z3 :: some (.int x) :: t) (st) S V :=
  fun H locs cells slots ls hl hP hz hS h1 h2 => lv_iload C.1 C.2.1 d (hl.2.2 4 _ rfl) (k H locs cells slots ls hl hP hz hS h1 h2)
theorem G_iload_5 (C : a_CG p s m args meth c T) (K : a_K o x0 cA D s) {z0 z1 z2 z3 z4 : Option Value} {t : List (Option Value)} {x : Int32} (d : decode T.2.1 pc = .ok (.iload 5, 2)) (k : RG p l e Rm s m args below meth c D cA o x0 T Z kc ks (pc + 2) (z0 :: z1 :: z2 :: z3 :: z4 :: some (.int x) :: t) (.int x :: st) S V) : RG p l e Rm s m args below meth c D cA o x0 T Z kc ks (pc) (z0 :: z1 :: z2 :: z3 :: z4 :: some (.int x) :: t) (st) S V :=
  fun H locs cells slots ls hl hP hz hS h1 h2 => lv_iload C.1 C.2.1 d (hl.2.2 5 _ rfl) (k H locs cells slots ls hl hP hz hS h1 h2)
theorem G_iload_6 (C : a_CG p s m args meth c T) (K : a_K o x0 cA D s) {z0 z1 z2 z3 z4 z5 : Option Value} {t : List (Option Value)} {x : Int32} (d : decode T.2.1 pc = .ok (.iload 6, 2)) (k : RG p l e Rm s m args below meth c D cA o x0 T Z kc ks (pc + 2) (z0 :: z1 :: z2 :: z3 :: z4 :: z5 :: some (.int x) :: t) (.int x :: st) S V) : RG p l e Rm s m args below meth c D cA o x0 T Z kc ks (pc) (z0 :: z1 :: z2 :: z3 :: z4 :: z5 :: some (.int x) :: t) (st) S V :=
  fun H locs cells slots ls hl hP hz hS h1 h2 => lv_iload C.1 C.2.1 d (hl.2.2 6 _ rfl) (k H locs cells slots ls hl hP hz hS h1 h2)
theorem G_lload_1 (C : a_CG p s m args meth c T) (K : a_K o x0 cA D s) {z0 : Option Value} {t : List (Option Value)} {x : Int64} (d : decode T.2.1 pc = .ok (.lload_n 1, 1)) (k : RG p l e Rm s m args below meth c D cA o x0 T Z kc ks (pc + 1) (z0 :: some (.long x) :: t) (.long x :: st) S V) : RG p l e Rm s m args below meth c D cA o x0 T Z kc ks (pc) (z0 :: some (.long x) :: t) (st) S V :=
  fun H locs cells slots ls hl hP hz hS h1 h2 => lv_lload_n C.1 C.2.1 d rfl (hl.2.2 1 _ rfl) (k H locs cells slots ls hl hP hz hS h1 h2)
theorem G_istore_4 (C : a_CG p s m args meth c T) (K : a_K o x0 cA D s) {z0 z1 z2 z3 : Option Value} {y : Option Value} {t : List (Option Value)} {x : Int32} (hb : a_c1 z3 = true) (hn : 4 < T.2.2.1) (d : decode T.2.1 pc = .ok (.istore 4, 2)) (k : RG p l e Rm s m args below meth c D cA o x0 T Z kc ks (pc + 2) (z0 :: z1 :: z2 :: z3 :: some (.int x) :: t) (st) S V) : RG p l e Rm s m args below meth c D cA o x0 T Z kc ks (pc) (z0 :: z1 :: z2 :: z3 :: y :: t) (.int x :: st) S V :=
  fun H locs cells slots ls hl hP hz hS h1 h2 => lv_istore C.1 C.2.1 d hl.has hn rfl (fun ls9 hl9 => k H locs cells slots ls9 (a_lv.st1 (v := .int x) (a_s1_4 hb) hl9) hP hz hS h1 h2)
theorem G_istore_5 (C : a_CG p s m args meth c T) (K : a_K o x0 cA D s) {z0 z1 z2 z3 z4 : Option Value} {y : Option Value} {t : List (Option Value)} {x : Int32} (hb : a_c1 z4 = true) (hn : 5 < T.2.2.1) (d : decode T.2.1 pc = .ok (.istore 5, 2)) (k : RG p l e Rm s m args below meth c D cA o x0 T Z kc ks (pc + 2) (z0 :: z1 :: z2 :: z3 :: z4 :: some (.int x) :: t) (st) S V) : RG p l e Rm s m args below meth c D cA o x0 T Z kc ks (pc) (z0 :: z1 :: z2 :: z3 :: z4 :: y :: t) (.int x :: st) S V :=
  fun H locs cells slots ls hl hP hz hS h1 h2 => lv_istore C.1 C.2.1 d hl.has hn rfl (fun ls9 hl9 => k H locs cells slots ls9 (a_lv.st1 (v := .int x) (a_s1_5 hb) hl9) hP hz hS h1 h2)
theorem G_istore_6 (C : a_CG p s m args meth c T) (K : a_K o x0 cA D s) {z0 z1 z2 z3 z4 z5 : Option Value} {y : Option Value} {t : List (Option Value)} {x : Int32} (hb : a_c1 z5 = true) (hn : 6 < T.2.2.1) (d : decode T.2.1 pc = .ok (.istore 6, 2)) (k : RG p l e Rm s m args below meth c D cA o x0 T Z kc ks (pc + 2) (z0 :: z1 :: z2 :: z3 :: z4 :: z5 :: some (.int x) :: t) (st) S V) : RG p l e Rm s m args below meth c D cA o x0 T Z kc ks (pc) (z0 :: z1 :: z2 :: z3 :: z4 :: z5 :: y :: t) (.int x :: st) S V :=
  fun H locs cells slots ls hl hP hz hS h1 h2 => lv_istore C.1 C.2.1 d hl.has hn rfl (fun ls9 hl9 => k H locs cells slots ls9 (a_lv.st1 (v := .int x) (a_s1_6 hb) hl9) hP hz hS h1 h2)
theorem G_astore_1 (C : a_CG p s m args meth c T) (K : a_K o x0 cA D s) {z0 : Option Value} {y : Option Value} {t : List (Option Value)} {x : Nat} (hb : a_c1 z0 = true) (hn : 1 < T.2.2.1) (d : decode T.2.1 pc = .ok (.astore_n 1, 1)) (k : RG p l e Rm s m args below meth c D cA o x0 T Z kc ks (pc + 1) (z0 :: some (.ref x) :: t) (st) S V) : RG p l e Rm s m args below meth c D cA o x0 T Z kc ks (pc) (z0 :: y :: t) (.ref x :: st) S V :=
  fun H locs cells slots ls hl hP hz hS h1 h2 => lv_astore_n C.1 C.2.1 d rfl hl.has hn rfl (fun ls9 hl9 => k H locs cells slots ls9 (a_lv.st1 (v := .ref x) (a_s1_1 hb) hl9) hP hz hS h1 h2)
theorem G_astore_2 (C : a_CG p s m args meth c T) (K : a_K o x0 cA D s) {z0 z1 : Option Value} {y : Option Value} {t : List (Option Value)} {x : Nat} (hb : a_c1 z1 = true) (hn : 2 < T.2.2.1) (d : decode T.2.1 pc = .ok (.astore_n 2, 1)) (k : RG p l e Rm s m args below meth c D cA o x0 T Z kc ks (pc + 1) (z0 :: z1 :: some (.ref x) :: t) (st) S V) : RG p l e Rm s m args below meth c D cA o x0 T Z kc ks (pc) (z0 :: z1 :: y :: t) (.ref x :: st) S V :=
  fun H locs cells slots ls hl hP hz hS h1 h2 => lv_astore_n C.1 C.2.1 d rfl hl.has hn rfl (fun ls9 hl9 => k H locs cells slots ls9 (a_lv.st1 (v := .ref x) (a_s1_2 hb) hl9) hP hz hS h1 h2)
theorem G_astore_3 (C : a_CG p s m args meth c T) (K : a_K o x0 cA D s) {z0 z1 z2 : Option Value} {y : Option Value} {t : List (Option Value)} {x : Nat} (hb : a_c1 z2 = true) (hn : 3 < T.2.2.1) (d : decode T.2.1 pc = .ok (.astore_n 3, 1)) (k : RG p l e Rm s m args below meth c D cA o x0 T Z kc ks (pc + 1) (z0 :: z1 :: z2 :: some (.ref x) :: t) (st) S V) : RG p l e Rm s m args below meth c D cA o x0 T Z kc ks (pc) (z0 :: z1 :: z2 :: y :: t) (.ref x :: st) S V :=
  fun H locs cells slots ls hl hP hz hS h1 h2 => lv_astore_n C.1 C.2.1 d rfl hl.has hn rfl (fun ls9 hl9 => k H locs cells slots ls9 (a_lv.st1 (v := .ref x) (a_s1_3 hb) hl9) hP hz hS h1 h2)
theorem G_iconst (C : a_CG p s m args meth c T) (K : a_K o x0 cA D s) {n : Int} {v : Int32} (d : decode T.2.1 pc = .ok (.iconst n, 1)) (hv : Int32.ofInt n = v) (k : RG p l e Rm s m args below meth c D cA o x0 T Z kc ks (pc + 1) (lv) (.int v :: st) S V) : RG p l e Rm s m args below meth c D cA o x0 T Z kc ks (pc) (lv) (st) S V :=
  fun H locs cells slots ls hl hP hz hS h1 h2 => lv_iconst C.1 C.2.1 d hv (k H locs cells slots ls hl hP hz hS h1 h2)
theorem G_lconst (C : a_CG p s m args meth c T) (K : a_K o x0 cA D s) {n : Fin 2} {v : Int64} (d : decode T.2.1 pc = .ok (.lconst n, 1)) (hv : Int64.ofNat (n : Nat) = v) (k : RG p l e Rm s m args below meth c D cA o x0 T Z kc ks (pc + 1) (lv) (.long v :: st) S V) : RG p l e Rm s m args below meth c D cA o x0 T Z kc ks (pc) (lv) (st) S V :=
  fun H locs cells slots ls hl hP hz hS h1 h2 => lv_lconst C.1 C.2.1 d hv (k H locs cells slots ls hl hP hz hS h1 h2)
theorem G_bipush (C : a_CG p s m args meth c T) (K : a_K o x0 cA D s) {n : Int} {v : Int32} (d : decode T.2.1 pc = .ok (.bipush n, 2)) (hv : (Int8.ofInt n).toInt32 = v) (k : RG p l e Rm s m args below meth c D cA o x0 T Z kc ks (pc + 2) (lv) (.int v :: st) S V) : RG p l e Rm s m args below meth c D cA o x0 T Z kc ks (pc) (lv) (st) S V :=
  fun H locs cells slots ls hl hP hz hS h1 h2 => lv_bipush C.1 C.2.1 d hv (k H locs cells slots ls hl hP hz hS h1 h2)
theorem G_iadd (C : a_CG p s m args meth c T) (K : a_K o x0 cA D s) {x y : Int32} (d : decode T.2.1 pc = .ok (.iadd, 1))  (k : RG p l e Rm s m args below meth c D cA o x0 T Z kc ks (pc + 1) (lv) (.int (x + y) :: st) S V) : RG p l e Rm s m args below meth c D cA o x0 T Z kc ks (pc) (lv) (.int y :: .int x :: st) S V :=
  fun H locs cells slots ls hl hP hz hS h1 h2 => lv_iadd C.1 C.2.1 d  (k H locs cells slots ls hl hP hz hS h1 h2)
theorem G_isub (C : a_CG p s m args meth c T) (K : a_K o x0 cA D s) {x y : Int32} (d : decode T.2.1 pc = .ok (.isub, 1))  (k : RG p l e Rm s m args below meth c D cA o x0 T Z kc ks (pc + 1) (lv) (.int (x - y) :: st) S V) : RG p l e Rm s m args below meth c D cA o x0 T Z kc ks (pc) (lv) (.int y :: .int x :: st) S V :=
  fun H locs cells slots ls hl hP hz hS h1 h2 => lv_isub C.1 C.2.1 d  (k H locs cells slots ls hl hP hz hS h1 h2)
theorem G_iand (C : a_CG p s m args meth c T) (K : a_K o x0 cA D s) {x y : Int32} (d : decode T.2.1 pc = .ok (.iand, 1))  (k : RG p l e Rm s m args below meth c D cA o x0 T Z kc ks (pc + 1) (lv) (.int (x &&& y) :: st) S V) : RG p l e Rm s m args below meth c D cA o x0 T Z kc ks (pc) (lv) (.int y :: .int x :: st) S V :=
  fun H locs cells slots ls hl hP hz hS h1 h2 => lv_iand C.1 C.2.1 d  (k H locs cells slots ls hl hP hz hS h1 h2)
theorem G_lshl (C : a_CG p s m args meth c T) (K : a_K o x0 cA D s) {x : Int64} {y : Int32} (d : decode T.2.1 pc = .ok (.lshl, 1))  (k : RG p l e Rm s m args below meth c D cA o x0 T Z kc ks (pc + 1) (lv) (.long (x <<< (y.toInt64 &&& 63)) :: st) S V) : RG p l e Rm s m args below meth c D cA o x0 T Z kc ks (pc) (lv) (.int y :: .long x :: st) S V :=
  fun H locs cells slots ls hl hP hz hS h1 h2 => lv_lshl C.1 C.2.1 d rfl (k H locs cells slots ls hl hP hz hS h1 h2)
theorem G_land (C : a_CG p s m args meth c T) (K : a_K o x0 cA D s) {x y : Int64} (d : decode T.2.1 pc = .ok (.land, 1))  (k : RG p l e Rm s m args below meth c D cA o x0 T Z kc ks (pc + 1) (lv) (.long (x &&& y) :: st) S V) : RG p l e Rm s m args below meth c D cA o x0 T Z kc ks (pc) (lv) (.long y :: .long x :: st) S V :=
  fun H locs cells slots ls hl hP hz hS h1 h2 => lv_land C.1 C.2.1 d  (k H locs cells slots ls hl hP hz hS h1 h2)
theorem G_lor (C : a_CG p s m args meth c T) (K : a_K o x0 cA D s) {x y : Int64} (d : decode T.2.1 pc = .ok (.lor, 1))  (k : RG p l e Rm s m args below meth c D cA o x0 T Z kc ks (pc + 1) (lv) (.long (x ||| y) :: st) S V) : RG p l e Rm s m args below meth c D cA o x0 T Z kc ks (pc) (lv) (.long y :: .long x :: st) S V :=
  fun H locs cells slots ls hl hP hz hS h1 h2 => lv_lor C.1 C.2.1 d  (k H locs cells slots ls hl hP hz hS h1 h2)
theorem G_i2l (C : a_CG p s m args meth c T) (K : a_K o x0 cA D s) {x : Int32} (d : decode T.2.1 pc = .ok (.i2l, 1))  (k : RG p l e Rm s m args below meth c D cA o x0 T Z kc ks (pc + 1) (lv) (.long x.toInt64 :: st) S V) : RG p l e Rm s m args below meth c D cA o x0 T Z kc ks (pc) (lv) (.int x :: st) S V :=
  fun H locs cells slots ls hl hP hz hS h1 h2 => lv_i2l C.1 C.2.1 d rfl (k H locs cells slots ls hl hP hz hS h1 h2)
theorem G_ldc2 (C : a_CG p s m args meth c T) (K : a_K o x0 cA D s) {idx : Nat} {v : Int64} (d : decode T.2.1 pc = .ok (.ldc2_w idx, 3)) (hw : Cond.constantLong T.1.cls idx v ∈ aT) (k : RG p l e Rm s m args below meth c D cA o x0 T Z kc ks (pc + 3) (lv) (.long v :: st) S V) : RG p l e Rm s m args below meth c D cA o x0 T Z kc ks (pc) (lv) (st) S V :=
  fun H locs cells slots ls hl hP hz hS h1 h2 => lv_ldc2 C.1 C.2.1 C.2.2.2.1 (C.2.2.2.2.1 _ hw) d  (k H locs cells slots ls hl hP hz hS h1 h2)
theorem G_lald (C : a_CG p s m args meth c T) (K : a_K o x0 cA D s) {a N n : Nat} {i : Int32} {x : Int64} (d : decode T.2.1 pc = .ok (.laload, 1)) (hs : S.1 a = (21, N)) (hin : vp_in i N) (hi : i.toNatClampNeg = n) (hv : V a n = .long x) (kk : RG p l e Rm s m args below meth c D cA o x0 T Z kc ks (pc + 1) (lv) (.long x :: st) S V) : RG p l e Rm s m args below meth c D cA o x0 T Z kc ks (pc) (lv) (.int i :: .ref a :: st) S V := by
  intro H locs cells slots ls hl hP hz hS h1 h2
  have he := a_e_lng (o := o) (x0 := x0) (cA := cA) (g := V a) hs
  refine va_lald C.1 C.2.1 K.1 (va_P_one (hP a _ he)) 0 8 rfl rfl hin d ?_
  rw [hi]
  show W _ _ _ _ _ _ _ _ _ _ _ _ _ _ _ (F0 m (pc + 1) ls (.long (a_l (V a n)) :: _))
  rw [hv]
  exact kk H locs cells slots ls hl hP hz hS h1 h2
theorem G_last (C : a_CG p s m args meth c T) (K : a_K o x0 cA D s) {a N n : Nat} {i : Int32} {x : Int64} (d : decode T.2.1 pc = .ok (.lastore, 1)) (hs : S.1 a = (21, N)) (hin : vp_in i N) (hi : i.toNatClampNeg = n) (kk : RG p l e Rm s m args below meth c D cA o x0 T Z kc ks (pc + 1) (lv) (st) S (a_up V a n (.long x))) : RG p l e Rm s m args below meth c D cA o x0 T Z kc ks (pc) (lv) (.long x :: .int i :: .ref a :: st) S V := by
  intro H locs cells slots ls hl hP hz hS h1 h2
  have he := hP a _ (a_e_lng (o := o) (x0 := x0) (cA := cA) (g := V a) hs)
  refine W.last C.1 C.2.1 he ((K.1.2 8 _ rfl).1 N (fun j => .long (a_l (V a j)))) (fun q => by cases q) (by show ¬ (i < 0 ∨ (arrV _ _ _).slots.size ≤ _); rw [arrV_size]; exact hin) rfl rfl d fun H1 e0 z oq => ?_
  subst hi
  refine kk H1 _ cells slots ls hl (hP.upd (fun b hb => a_up_row hb) oq (fun ev hev => ?_)) (hz.put z) (hS.put z oq (Nat.le_add_right o a)) h1 h2
  rw [a_e_lng hs] at hev
  cases hev
  show H1[o + a]? = some (vp_cell _ _)
  rw [e0]
  rw [vp_cell_l, a_up_lngs]
  show some ((arrV (cA 21) N fun j => .long (a_l (V a j))).setSlot _ _) = _
  rw [arrV_store]
  show some (arrV (cA 21) N (updV _ _ _)) = some (arrV (cA 21) N fun j => .long (if j = i.toNatClampNeg then x else a_l (V a j)))
  congr 2
  funext q
  by_cases hq : q = i.toNatClampNeg
  · subst hq
    simp [updV]
  · simp [updV, hq]
theorem G_lcmp (C : a_CG p s m args meth c T) (K : a_K o x0 cA D s) {x y : Int64} (d : decode T.2.1 pc = .ok (.lcmp, 1))  (k : RG p l e Rm s m args below meth c D cA o x0 T Z kc ks (pc + 1) (lv) (.int (lg_cmp x y) :: st) S V) : RG p l e Rm s m args below meth c D cA o x0 T Z kc ks (pc) (lv) (.long y :: .long x :: st) S V :=
  fun H locs cells slots ls hl hP hz hS h1 h2 => W.lcmp C.1 C.2.1 d  (k H locs cells slots ls hl hP hz hS h1 h2)
theorem G_if_eq (C : a_CG p s m args meth c T) (K : a_K o x0 cA D s) {x : Int32} {off : Int} (tgt : Nat) (d : decode T.2.1 pc = .ok (.ifCond .eq off, 3)) (ht : (pc : Int) + off = (tgt : Int)) (k1 : x = 0 → RG p l e Rm s m args below meth c D cA o x0 T Z kc ks (tgt) (lv) (st) S V) (k2 : ¬ (x = 0) → RG p l e Rm s m args below meth c D cA o x0 T Z kc ks (pc + 3) (lv) (st) S V) : RG p l e Rm s m args below meth c D cA o x0 T Z kc ks (pc) (lv) (.int x :: st) S V :=
  fun H locs cells slots ls hl hP hz hS h1 h2 => lv_if_eq C.1 C.2.1 d ht (fun q => k1 q H locs cells slots ls hl hP hz hS h1 h2) (fun q => k2 q H locs cells slots ls hl hP hz hS h1 h2)
theorem G_if_ne (C : a_CG p s m args meth c T) (K : a_K o x0 cA D s) {x : Int32} {off : Int} (tgt : Nat) (d : decode T.2.1 pc = .ok (.ifCond .ne off, 3)) (ht : (pc : Int) + off = (tgt : Int)) (k1 : ¬ x = 0 → RG p l e Rm s m args below meth c D cA o x0 T Z kc ks (tgt) (lv) (st) S V) (k2 : x = 0 → RG p l e Rm s m args below meth c D cA o x0 T Z kc ks (pc + 3) (lv) (st) S V) : RG p l e Rm s m args below meth c D cA o x0 T Z kc ks (pc) (lv) (.int x :: st) S V :=
  fun H locs cells slots ls hl hP hz hS h1 h2 => lv_if_ne C.1 C.2.1 d ht (fun q => k1 q H locs cells slots ls hl hP hz hS h1 h2) (fun q => k2 q H locs cells slots ls hl hP hz hS h1 h2)
theorem G_icmp_eq (C : a_CG p s m args meth c T) (K : a_K o x0 cA D s) {x y : Int32} {off : Int} (tgt : Nat) (d : decode T.2.1 pc = .ok (.if_icmp .eq off, 3)) (ht : (pc : Int) + off = (tgt : Int)) (k1 : x = y → RG p l e Rm s m args below meth c D cA o x0 T Z kc ks (tgt) (lv) (st) S V) (k2 : ¬ (x = y) → RG p l e Rm s m args below meth c D cA o x0 T Z kc ks (pc + 3) (lv) (st) S V) : RG p l e Rm s m args below meth c D cA o x0 T Z kc ks (pc) (lv) (.int y :: .int x :: st) S V :=
  fun H locs cells slots ls hl hP hz hS h1 h2 => lv_icmp_eq C.1 C.2.1 d ht (fun q => k1 q H locs cells slots ls hl hP hz hS h1 h2) (fun q => k2 q H locs cells slots ls hl hP hz hS h1 h2)
theorem G_icmp_gt (C : a_CG p s m args meth c T) (K : a_K o x0 cA D s) {x y : Int32} {off : Int} (tgt : Nat) (d : decode T.2.1 pc = .ok (.if_icmp .gt off, 3)) (ht : (pc : Int) + off = (tgt : Int)) (k1 : y < x → RG p l e Rm s m args below meth c D cA o x0 T Z kc ks (tgt) (lv) (st) S V) (k2 : ¬ (y < x) → RG p l e Rm s m args below meth c D cA o x0 T Z kc ks (pc + 3) (lv) (st) S V) : RG p l e Rm s m args below meth c D cA o x0 T Z kc ks (pc) (lv) (.int y :: .int x :: st) S V :=
  fun H locs cells slots ls hl hP hz hS h1 h2 => lv_icmp_gt C.1 C.2.1 d ht (fun q => k1 q H locs cells slots ls hl hP hz hS h1 h2) (fun q => k2 q H locs cells slots ls hl hP hz hS h1 h2)
theorem G_goto (C : a_CG p s m args meth c T) (K : a_K o x0 cA D s) {off : Int} (tgt : Nat) (d : decode T.2.1 pc = .ok (.goto off, 3)) (ht : (pc : Int) + off = (tgt : Int)) (k : RG p l e Rm s m args below meth c D cA o x0 T Z kc ks (tgt) (lv) (st) S V) : RG p l e Rm s m args below meth c D cA o x0 T Z kc ks (pc) (lv) (st) S V :=
  fun H locs cells slots ls hl hP hz hS h1 h2 => lv_goto C.1 C.2.1 d ht (k H locs cells slots ls hl hP hz hS h1 h2)
theorem G_iinc_4 (C : a_CG p s m args meth c T) (K : a_K o x0 cA D s) {z0 z1 z2 z3 : Option Value} {t : List (Option Value)} {n : Int} {x v : Int32} (hb : a_c1 z3 = true) (hn : 4 < T.2.2.1) (d : decode T.2.1 pc = .ok (.iinc 4 n, 3)) (hv : x + Int32.ofInt n = v) (k : RG p l e Rm s m args below meth c D cA o x0 T Z kc ks (pc + 3) (z0 :: z1 :: z2 :: z3 :: some (.int v) :: t) (st) S V) : RG p l e Rm s m args below meth c D cA o x0 T Z kc ks (pc) (z0 :: z1 :: z2 :: z3 :: some (.int x) :: t) (st) S V := by
  intro H locs cells slots ls hl hP hz hS h1 h2
  obtain ⟨k9, hk9⟩ := List.getElem?_of_mem (a_al_mem (o := o) (x0 := x0) (lv := z0 :: z1 :: z2 :: z3 :: some (.int x) :: t) (q := (4, .int x)) |>.mpr ⟨.int x, rfl, rfl⟩)
  exact lv_iinc C.1 C.2.1 d hl.has hk9 hv hn rfl (fun ls9 hl9 => k H locs cells slots ls9 (a_lv.st1 (v := .int v) (a_s1_4 hb) hl9) hP hz hS h1 h2)
theorem G_dup (C : a_CG p s m args meth c T) (K : a_K o x0 cA D s) {v : Value} (d : decode T.2.1 pc = .ok (.dup, 1)) (hv : v.category = 1) (k : RG p l e Rm s m args below meth c D cA o x0 T Z kc ks (pc + 1) (lv) (v :: v :: st) S V) : RG p l e Rm s m args below meth c D cA o x0 T Z kc ks (pc) (lv) (v :: st) S V :=
  fun H locs cells slots ls hl hP hz hS h1 h2 => lv_dup C.1 C.2.1 d ((a_v_cat _ _ _).trans hv) (k H locs cells slots ls hl hP hz hS h1 h2)
theorem G_pop (C : a_CG p s m args meth c T) (K : a_K o x0 cA D s) {v : Value} (d : decode T.2.1 pc = .ok (.pop, 1)) (hv : v.category = 1) (k : RG p l e Rm s m args below meth c D cA o x0 T Z kc ks (pc + 1) (lv) (st) S V) : RG p l e Rm s m args below meth c D cA o x0 T Z kc ks (pc) (lv) (v :: st) S V :=
  fun H locs cells slots ls hl hP hz hS h1 h2 => lv_pop C.1 C.2.1 d ((a_v_cat _ _ _).trans hv) (k H locs cells slots ls hl hP hz hS h1 h2)
theorem G_drop_5 (C : a_CG p s m args meth c T) (K : a_K o x0 cA D s) {z0 z1 z2 z3 z4 : Option Value} {y : Option Value} {t : List (Option Value)} (k : RG p l e Rm s m args below meth c D cA o x0 T Z kc ks (pc) (z0 :: z1 :: z2 :: z3 :: z4 :: none :: t) (st) S V) : RG p l e Rm s m args below meth c D cA o x0 T Z kc ks (pc) (z0 :: z1 :: z2 :: z3 :: z4 :: y :: t) (st) S V := by
  refine G_lv C K (fun j v h => ?_) k
  match j, h with
  | 0, h => exact h
  | 1, h => exact h
  | 2, h => exact h
  | 3, h => exact h
  | 4, h => exact h
  | 5, h => cases h
  | j + 6, h => exact h
theorem G_drop_6 (C : a_CG p s m args meth c T) (K : a_K o x0 cA D s) {z0 z1 z2 z3 z4 z5 : Option Value} {y : Option Value} {t : List (Option Value)} (k : RG p l e Rm s m args below meth c D cA o x0 T Z kc ks (pc) (z0 :: z1 :: z2 :: z3 :: z4 :: z5 :: none :: t) (st) S V) : RG p l e Rm s m args below meth c D cA o x0 T Z kc ks (pc) (z0 :: z1 :: z2 :: z3 :: z4 :: z5 :: y :: t) (st) S V := by
  refine G_lv C K (fun j v h => ?_) k
  match j, h with
  | 0, h => exact h
  | 1, h => exact h
  | 2, h => exact h
  | 3, h => exact h
  | 4, h => exact h
  | 5, h => exact h
  | 6, h => cases h
  | j + 7, h => exact h
end GROWS
