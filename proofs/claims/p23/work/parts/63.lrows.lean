/-! ===== rows for the places 12 to 17 ===== -/
section LROWS
variable {T : aMt} {r mc ms : Nat} {Q : Option Value → aS → aV → Prop} {QX : String → aS → aV → Prop} {kc ks pc : Nat} {lv lv' : List (Option Value)} {st : List Value} {S : aS} {V : aV}
theorem R_iload_12 {z0 z1 z2 z3 z4 z5 z6 z7 z8 z9 z10 z11 : Option Value} {t : List (Option Value)} {x : Int32} (d : decode T.2.1 pc = .ok (.iload 12, 2)) (k : R T r mc ms Q QX kc ks (pc + 2) (z0 :: z1 :: z2 :: z3 :: z4 :: z5 :: z6 :: z7 :: z8 :: z9 :: z10 :: z11 :: some (.int x) :: t) (.int x :: st) S V) : R T r mc ms Q QX kc ks (pc) (z0 :: z1 :: z2 :: z3 :: z4 :: z5 :: z6 :: z7 :: z8 :: z9 :: z10 :: z11 :: some (.int x) :: t) (st) S V :=
  fun p l e s m args below meth c H locs cells slots D cA o x0 ls C K hl hP hz hS ho h1 h2 => lv_iload C.1 C.2.1 d (hl.2.2 12 _ rfl) (k p l e s m args below meth c H locs cells slots D cA o x0 ls C K hl hP hz hS ho h1 h2)
theorem R_lload_12 {z0 z1 z2 z3 z4 z5 z6 z7 z8 z9 z10 z11 : Option Value} {t : List (Option Value)} {x : Int64} (d : decode T.2.1 pc = .ok (.lload 12, 2)) (k : R T r mc ms Q QX kc ks (pc + 2) (z0 :: z1 :: z2 :: z3 :: z4 :: z5 :: z6 :: z7 :: z8 :: z9 :: z10 :: z11 :: some (.long x) :: t) (.long x :: st) S V) : R T r mc ms Q QX kc ks (pc) (z0 :: z1 :: z2 :: z3 :: z4 :: z5 :: z6 :: z7 :: z8 :: z9 :: z10 :: z11 :: some (.long x) :: t) (st) S V :=
  fun p l e s m args below meth c H locs cells slots D cA o x0 ls C K hl hP hz hS ho h1 h2 => lv_lload C.1 C.2.1 d (hl.2.2 12 _ rfl) (k p l e s m args below meth c H locs cells slots D cA o x0 ls C K hl hP hz hS ho h1 h2)
theorem R_fload_12 {z0 z1 z2 z3 z4 z5 z6 z7 z8 z9 z10 z11 : Option Value} {t : List (Option Value)} {x : UInt32} (d : decode T.2.1 pc = .ok (.fload 12, 2)) (k : R T r mc ms Q QX kc ks (pc + 2) (z0 :: z1 :: z2 :: z3 :: z4 :: z5 :: z6 :: z7 :: z8 :: z9 :: z10 :: z11 :: some (.float x) :: t) (.float x :: st) S V) : R T r mc ms Q QX kc ks (pc) (z0 :: z1 :: z2 :: z3 :: z4 :: z5 :: z6 :: z7 :: z8 :: z9 :: z10 :: z11 :: some (.float x) :: t) (st) S V :=
  fun p l e s m args below meth c H locs cells slots D cA o x0 ls C K hl hP hz hS ho h1 h2 => lv_fload C.1 C.2.1 d (hl.2.2 12 _ rfl) (k p l e s m args below meth c H locs cells slots D cA o x0 ls C K hl hP hz hS ho h1 h2)
theorem R_aload_12 {z0 z1 z2 z3 z4 z5 z6 z7 z8 z9 z10 z11 : Option Value} {t : List (Option Value)} {x : Nat} (d : decode T.2.1 pc = .ok (.aload 12, 2)) (k : R T r mc ms Q QX kc ks (pc + 2) (z0 :: z1 :: z2 :: z3 :: z4 :: z5 :: z6 :: z7 :: z8 :: z9 :: z10 :: z11 :: some (.ref x) :: t) (.ref x :: st) S V) : R T r mc ms Q QX kc ks (pc) (z0 :: z1 :: z2 :: z3 :: z4 :: z5 :: z6 :: z7 :: z8 :: z9 :: z10 :: z11 :: some (.ref x) :: t) (st) S V :=
  fun p l e s m args below meth c H locs cells slots D cA o x0 ls C K hl hP hz hS ho h1 h2 => lv_aload C.1 C.2.1 d (hl.2.2 12 _ rfl) (k p l e s m args below meth c H locs cells slots D cA o x0 ls C K hl hP hz hS ho h1 h2)
theorem R_iload_13 {z0 z1 z2 z3 z4 z5 z6 z7 z8 z9 z10 z11 z12 : Option Value} {t : List (Option Value)} {x : Int32} (d : decode T.2.1 pc = .ok (.iload 13, 2)) (k : R T r mc ms Q QX kc ks (pc + 2) (z0 :: z1 :: z2 :: z3 :: z4 :: z5 :: z6 :: z7 :: z8 :: z9 :: z10 :: z11 :: z12 :: some (.int x) :: t) (.int x :: st) S V) : R T r mc ms Q QX kc ks (pc) (z0 :: z1 :: z2 :: z3 :: z4 :: z5 :: z6 :: z7 :: z8 :: z9 :: z10 :: z11 :: z12 :: some (.int x) :: t) (st) S V :=
  fun p l e s m args below meth c H locs cells slots D cA o x0 ls C K hl hP hz hS ho h1 h2 => lv_iload C.1 C.2.1 d (hl.2.2 13 _ rfl) (k p l e s m args below meth c H locs cells slots D cA o x0 ls C K hl hP hz hS ho h1 h2)
theorem R_lload_13 {z0 z1 z2 z3 z4 z5 z6 z7 z8 z9 z10 z11 z12 : Option Value} {t : List (Option Value)} {x : Int64} (d : decode T.2.1 pc = .ok (.lload 13, 2)) (k : R T r mc ms Q QX kc ks (pc + 2) (z0 :: z1 :: z2 :: z3 :: z4 :: z5 :: z6 :: z7 :: z8 :: z9 :: z10 :: z11 :: z12 :: some (.long x) :: t) (.long x :: st) S V) : R T r mc ms Q QX kc ks (pc) (z0 :: z1 :: z2 :: z3 :: z4 :: z5 :: z6 :: z7 :: z8 :: z9 :: z10 :: z11 :: z12 :: some (.long x) :: t) (st) S V :=
  fun p l e s m args below meth c H locs cells slots D cA o x0 ls C K hl hP hz hS ho h1 h2 => lv_lload C.1 C.2.1 d (hl.2.2 13 _ rfl) (k p l e s m args below meth c H locs cells slots D cA o x0 ls C K hl hP hz hS ho h1 h2)
theorem R_fload_13 {z0 z1 z2 z3 z4 z5 z6 z7 z8 z9 z10 z11 z12 : Option Value} {t : List (Option Value)} {x : UInt32} (d : decode T.2.1 pc = .ok (.fload 13, 2)) (k : R T r mc ms Q QX kc ks (pc + 2) (z0 :: z1 :: z2 :: z3 :: z4 :: z5 :: z6 :: z7 :: z8 :: z9 :: z10 :: z11 :: z12 :: some (.float x) :: t) (.float x :: st) S V) : R T r mc ms Q QX kc ks (pc) (z0 :: z1 :: z2 :: z3 :: z4 :: z5 :: z6 :: z7 :: z8 :: z9 :: z10 :: z11 :: z12 :: some (.float x) :: t) (st) S V :=
  fun p l e s m args below meth c H locs cells slots D cA o x0 ls C K hl hP hz hS ho h1 h2 => lv_fload C.1 C.2.1 d (hl.2.2 13 _ rfl) (k p l e s m args below meth c H locs cells slots D cA o x0 ls C K hl hP hz hS ho h1 h2)
theorem R_aload_13 {z0 z1 z2 z3 z4 z5 z6 z7 z8 z9 z10 z11 z12 : Option Value} {t : List (Option Value)} {x : Nat} (d : decode T.2.1 pc = .ok (.aload 13, 2)) (k : R T r mc ms Q QX kc ks (pc + 2) (z0 :: z1 :: z2 :: z3 :: z4 :: z5 :: z6 :: z7 :: z8 :: z9 :: z10 :: z11 :: z12 :: some (.ref x) :: t) (.ref x :: st) S V) : R T r mc ms Q QX kc ks (pc) (z0 :: z1 :: z2 :: z3 :: z4 :: z5 :: z6 :: z7 :: z8 :: z9 :: z10 :: z11 :: z12 :: some (.ref x) :: t) (st) S V :=
  fun p l e s m args below meth c H locs cells slots D cA o x0 ls C K hl hP hz hS ho h1 h2 => lv_aload C.1 C.2.1 d (hl.2.2 13 _ rfl) (k p l e s m args below meth c H locs cells slots D cA o x0 ls C K hl hP hz hS ho h1 h2)
theorem R_iload_14 {z0 z1 z2 z3 z4 z5 z6 z7 z8 z9 z10 z11 z12 z13 : Option Value} {t : List (Option Value)} {x : Int32} (d : decode T.2.1 pc = .ok (.iload 14, 2)) (k : R T r mc ms Q QX kc ks (pc + 2) (z0 :: z1 :: z2 :: z3 :: z4 :: z5 :: z6 :: z7 :: z8 :: z9 :: z10 :: z11 :: z12 :: z13 :: some (.int x) :: t) (.int x :: st) S V) : R T r mc ms Q QX kc ks (pc) (z0 :: z1 :: z2 :: z3 :: z4 :: z5 :: z6 :: z7 :: z8 :: z9 :: z10 :: z11 :: z12 :: z13 :: some (.int x) :: t) (st) S V :=
  fun p l e s m args below meth c H locs cells slots D cA o x0 ls C K hl hP hz hS ho h1 h2 => lv_iload C.1 C.2.1 d (hl.2.2 14 _ rfl) (k p l e s m args below meth c H locs cells slots D cA o x0 ls C K hl hP hz hS ho h1 h2)
theorem R_lload_14 {z0 z1 z2 z3 z4 z5 z6 z7 z8 z9 z10 z11 z12 z13 : Option Value} {t : List (Option Value)} {x : Int64} (d : decode T.2.1 pc = .ok (.lload 14, 2)) (k : R T r mc ms Q QX kc ks (pc + 2) (z0 :: z1 :: z2 :: z3 :: z4 :: z5 :: z6 :: z7 :: z8 :: z9 :: z10 :: z11 :: z12 :: z13 :: some (.long x) :: t) (.long x :: st) S V) : R T r mc ms Q QX kc ks (pc) (z0 :: z1 :: z2 :: z3 :: z4 :: z5 :: z6 :: z7 :: z8 :: z9 :: z10 :: z11 :: z12 :: z13 :: some (.long x) :: t) (st) S V :=
  fun p l e s m args below meth c H locs cells slots D cA o x0 ls C K hl hP hz hS ho h1 h2 => lv_lload C.1 C.2.1 d (hl.2.2 14 _ rfl) (k p l e s m args below meth c H locs cells slots D cA o x0 ls C K hl hP hz hS ho h1 h2)
theorem R_fload_14 {z0 z1 z2 z3 z4 z5 z6 z7 z8 z9 z10 z11 z12 z13 : Option Value} {t : List (Option Value)} {x : UInt32} (d : decode T.2.1 pc = .ok (.fload 14, 2)) (k : R T r mc ms Q QX kc ks (pc + 2) (z0 :: z1 :: z2 :: z3 :: z4 :: z5 :: z6 :: z7 :: z8 :: z9 :: z10 :: z11 :: z12 :: z13 :: some (.float x) :: t) (.float x :: st) S V) : R T r mc ms Q QX kc ks (pc) (z0 :: z1 :: z2 :: z3 :: z4 :: z5 :: z6 :: z7 :: z8 :: z9 :: z10 :: z11 :: z12 :: z13 :: some (.float x) :: t) (st) S V :=
  fun p l e s m args below meth c H locs cells slots D cA o x0 ls C K hl hP hz hS ho h1 h2 => lv_fload C.1 C.2.1 d (hl.2.2 14 _ rfl) (k p l e s m args below meth c H locs cells slots D cA o x0 ls C K hl hP hz hS ho h1 h2)
theorem R_aload_14 {z0 z1 z2 z3 z4 z5 z6 z7 z8 z9 z10 z11 z12 z13 : Option Value} {t : List (Option Value)} {x : Nat} (d : decode T.2.1 pc = .ok (.aload 14, 2)) (k : R T r mc ms Q QX kc ks (pc + 2) (z0 :: z1 :: z2 :: z3 :: z4 :: z5 :: z6 :: z7 :: z8 :: z9 :: z10 :: z11 :: z12 :: z13 :: some (.ref x) :: t) (.ref x :: st) S V) : R T r mc ms Q QX kc ks (pc) (z0 :: z1 :: z2 :: z3 :: z4 :: z5 :: z6 :: z7 :: z8 :: z9 :: z10 :: z11 :: z12 :: z13 :: some (.ref x) :: t) (st) S V :=
  fun p l e s m args below meth c H locs cells slots D cA o x0 ls C K hl hP hz hS ho h1 h2 => lv_aload C.1 C.2.1 d (hl.2.2 14 _ rfl) (k p l e s m args below meth c H locs cells slots D cA o x0 ls C K hl hP hz hS ho h1 h2)
theorem R_iload_15 {z0 z1 z2 z3 z4 z5 z6 z7 z8 z9 z10 z11 z12 z13 z14 : Option Value} {t : List (Option Value)} {x : Int32} (d : decode T.2.1 pc = .ok (.iload 15, 2)) (k : R T r mc ms Q QX kc ks (pc + 2) (z0 :: z1 :: z2 :: z3 :: z4 :: z5 :: z6 :: z7 :: z8 :: z9 :: z10 :: z11 :: z12 :: z13 :: z14 :: some (.int x) :: t) (.int x :: st) S V) : R T r mc ms Q QX kc ks (pc) (z0 :: z1 :: z2 :: z3 :: z4 :: z5 :: z6 :: z7 :: z8 :: z9 :: z10 :: z11 :: z12 :: z13 :: z14 :: some (.int x) :: t) (st) S V :=
  fun p l e s m args below meth c H locs cells slots D cA o x0 ls C K hl hP hz hS ho h1 h2 => lv_iload C.1 C.2.1 d (hl.2.2 15 _ rfl) (k p l e s m args below meth c H locs cells slots D cA o x0 ls C K hl hP hz hS ho h1 h2)
theorem R_lload_15 {z0 z1 z2 z3 z4 z5 z6 z7 z8 z9 z10 z11 z12 z13 z14 : Option Value} {t : List (Option Value)} {x : Int64} (d : decode T.2.1 pc = .ok (.lload 15, 2)) (k : R T r mc ms Q QX kc ks (pc + 2) (z0 :: z1 :: z2 :: z3 :: z4 :: z5 :: z6 :: z7 :: z8 :: z9 :: z10 :: z11 :: z12 :: z13 :: z14 :: some (.long x) :: t) (.long x :: st) S V) : R T r mc ms Q QX kc ks (pc) (z0 :: z1 :: z2 :: z3 :: z4 :: z5 :: z6 :: z7 :: z8 :: z9 :: z10 :: z11 :: z12 :: z13 :: z14 :: some (.long x) :: t) (st) S V :=
  fun p l e s m args below meth c H locs cells slots D cA o x0 ls C K hl hP hz hS ho h1 h2 => lv_lload C.1 C.2.1 d (hl.2.2 15 _ rfl) (k p l e s m args below meth c H locs cells slots D cA o x0 ls C K hl hP hz hS ho h1 h2)
theorem R_fload_15 {z0 z1 z2 z3 z4 z5 z6 z7 z8 z9 z10 z11 z12 z13 z14 : Option Value} {t : List (Option Value)} {x : UInt32} (d : decode T.2.1 pc = .ok (.fload 15, 2)) (k : R T r mc ms Q QX kc ks (pc + 2) (z0 :: z1 :: z2 :: z3 :: z4 :: z5 :: z6 :: z7 :: z8 :: z9 :: z10 :: z11 :: z12 :: z13 :: z14 :: some (.float x) :: t) (.float x :: st) S V) : R T r mc ms Q QX kc ks (pc) (z0 :: z1 :: z2 :: z3 :: z4 :: z5 :: z6 :: z7 :: z8 :: z9 :: z10 :: z11 :: z12 :: z13 :: z14 :: some (.float x) :: t) (st) S V :=
  fun p l e s m args below meth c H locs cells slots D cA o x0 ls C K hl hP hz hS ho h1 h2 => lv_fload C.1 C.2.1 d (hl.2.2 15 _ rfl) (k p l e s m args below meth c H locs cells slots D cA o x0 ls C K hl hP hz hS ho h1 h2)
theorem R_aload_15 {z0 z1 z2 z3 z4 z5 z6 z7 z8 z9 z10 z11 z12 z13 z14 : Option Value} {t : List (Option Value)} {x : Nat} (d : decode T.2.1 pc = .ok (.aload 15, 2)) (k : R T r mc ms Q QX kc ks (pc + 2) (z0 :: z1 :: z2 :: z3 :: z4 :: z5 :: z6 :: z7 :: z8 :: z9 :: z10 :: z11 :: z12 :: z13 :: z14 :: some (.ref x) :: t) (.ref x :: st) S V) : R T r mc ms Q QX kc ks (pc) (z0 :: z1 :: z2 :: z3 :: z4 :: z5 :: z6 :: z7 :: z8 :: z9 :: z10 :: z11 :: z12 :: z13 :: z14 :: some (.ref x) :: t) (st) S V :=
  fun p l e s m args below meth c H locs cells slots D cA o x0 ls C K hl hP hz hS ho h1 h2 => lv_aload C.1 C.2.1 d (hl.2.2 15 _ rfl) (k p l e s m args below meth c H locs cells slots D cA o x0 ls C K hl hP hz hS ho h1 h2)
theorem R_iload_16 {z0 z1 z2 z3 z4 z5 z6 z7 z8 z9 z10 z11 z12 z13 z14 z15 : Option Value} {t : List (Option Value)} {x : Int32} (d : decode T.2.1 pc = .ok (.iload 16, 2)) (k : R T r mc ms Q QX kc ks (pc + 2) (z0 :: z1 :: z2 :: z3 :: z4 :: z5 :: z6 :: z7 :: z8 :: z9 :: z10 :: z11 :: z12 :: z13 :: z14 :: z15 :: some (.int x) :: t) (.int x :: st) S V) : R T r mc ms Q QX kc ks (pc) (z0 :: z1 :: z2 :: z3 :: z4 :: z5 :: z6 :: z7 :: z8 :: z9 :: z10 :: z11 :: z12 :: z13 :: z14 :: z15 :: some (.int x) :: t) (st) S V :=
  fun p l e s m args below meth c H locs cells slots D cA o x0 ls C K hl hP hz hS ho h1 h2 => lv_iload C.1 C.2.1 d (hl.2.2 16 _ rfl) (k p l e s m args below meth c H locs cells slots D cA o x0 ls C K hl hP hz hS ho h1 h2)
theorem R_lload_16 {z0 z1 z2 z3 z4 z5 z6 z7 z8 z9 z10 z11 z12 z13 z14 z15 : Option Value} {t : List (Option Value)} {x : Int64} (d : decode T.2.1 pc = .ok (.lload 16, 2)) (k : R T r mc ms Q QX kc ks (pc + 2) (z0 :: z1 :: z2 :: z3 :: z4 :: z5 :: z6 :: z7 :: z8 :: z9 :: z10 :: z11 :: z12 :: z13 :: z14 :: z15 :: some (.long x) :: t) (.long x :: st) S V) : R T r mc ms Q QX kc ks (pc) (z0 :: z1 :: z2 :: z3 :: z4 :: z5 :: z6 :: z7 :: z8 :: z9 :: z10 :: z11 :: z12 :: z13 :: z14 :: z15 :: some (.long x) :: t) (st) S V :=
  fun p l e s m args below meth c H locs cells slots D cA o x0 ls C K hl hP hz hS ho h1 h2 => lv_lload C.1 C.2.1 d (hl.2.2 16 _ rfl) (k p l e s m args below meth c H locs cells slots D cA o x0 ls C K hl hP hz hS ho h1 h2)
theorem R_fload_16 {z0 z1 z2 z3 z4 z5 z6 z7 z8 z9 z10 z11 z12 z13 z14 z15 : Option Value} {t : List (Option Value)} {x : UInt32} (d : decode T.2.1 pc = .ok (.fload 16, 2)) (k : R T r mc ms Q QX kc ks (pc + 2) (z0 :: z1 :: z2 :: z3 :: z4 :: z5 :: z6 :: z7 :: z8 :: z9 :: z10 :: z11 :: z12 :: z13 :: z14 :: z15 :: some (.float x) :: t) (.float x :: st) S V) : R T r mc ms Q QX kc ks (pc) (z0 :: z1 :: z2 :: z3 :: z4 :: z5 :: z6 :: z7 :: z8 :: z9 :: z10 :: z11 :: z12 :: z13 :: z14 :: z15 :: some (.float x) :: t) (st) S V :=
  fun p l e s m args below meth c H locs cells slots D cA o x0 ls C K hl hP hz hS ho h1 h2 => lv_fload C.1 C.2.1 d (hl.2.2 16 _ rfl) (k p l e s m args below meth c H locs cells slots D cA o x0 ls C K hl hP hz hS ho h1 h2)
theorem R_aload_16 {z0 z1 z2 z3 z4 z5 z6 z7 z8 z9 z10 z11 z12 z13 z14 z15 : Option Value} {t : List (Option Value)} {x : Nat} (d : decode T.2.1 pc = .ok (.aload 16, 2)) (k : R T r mc ms Q QX kc ks (pc + 2) (z0 :: z1 :: z2 :: z3 :: z4 :: z5 :: z6 :: z7 :: z8 :: z9 :: z10 :: z11 :: z12 :: z13 :: z14 :: z15 :: some (.ref x) :: t) (.ref x :: st) S V) : R T r mc ms Q QX kc ks (pc) (z0 :: z1 :: z2 :: z3 :: z4 :: z5 :: z6 :: z7 :: z8 :: z9 :: z10 :: z11 :: z12 :: z13 :: z14 :: z15 :: some (.ref x) :: t) (st) S V :=
  fun p l e s m args below meth c H locs cells slots D cA o x0 ls C K hl hP hz hS ho h1 h2 => lv_aload C.1 C.2.1 d (hl.2.2 16 _ rfl) (k p l e s m args below meth c H locs cells slots D cA o x0 ls C K hl hP hz hS ho h1 h2)
theorem R_iload_17 {z0 z1 z2 z3 z4 z5 z6 z7 z8 z9 z10 z11 z12 z13 z14 z15 z16 : Option Value} {t : List (Option Value)} {x : Int32} (d : decode T.2.1 pc = .ok (.iload 17, 2)) (k : R T r mc ms Q QX kc ks (pc + 2) (z0 :: z1 :: z2 :: z3 :: z4 :: z5 :: z6 :: z7 :: z8 :: z9 :: z10 :: z11 :: z12 :: z13 :: z14 :: z15 :: z16 :: some (.int x) :: t) (.int x :: st) S V) : R T r mc ms Q QX kc ks (pc) (z0 :: z1 :: z2 :: z3 :: z4 :: z5 :: z6 :: z7 :: z8 :: z9 :: z10 :: z11 :: z12 :: z13 :: z14 :: z15 :: z16 :: some (.int x) :: t) (st) S V :=
  fun p l e s m args below meth c H locs cells slots D cA o x0 ls C K hl hP hz hS ho h1 h2 => lv_iload C.1 C.2.1 d (hl.2.2 17 _ rfl) (k p l e s m args below meth c H locs cells slots D cA o x0 ls C K hl hP hz hS ho h1 h2)
theorem R_lload_17 {z0 z1 z2 z3 z4 z5 z6 z7 z8 z9 z10 z11 z12 z13 z14 z15 z16 : Option Value} {t : List (Option Value)} {x : Int64} (d : decode T.2.1 pc = .ok (.lload 17, 2)) (k : R T r mc ms Q QX kc ks (pc + 2) (z0 :: z1 :: z2 :: z3 :: z4 :: z5 :: z6 :: z7 :: z8 :: z9 :: z10 :: z11 :: z12 :: z13 :: z14 :: z15 :: z16 :: some (.long x) :: t) (.long x :: st) S V) : R T r mc ms Q QX kc ks (pc) (z0 :: z1 :: z2 :: z3 :: z4 :: z5 :: z6 :: z7 :: z8 :: z9 :: z10 :: z11 :: z12 :: z13 :: z14 :: z15 :: z16 :: some (.long x) :: t) (st) S V :=
  fun p l e s m args below meth c H locs cells slots D cA o x0 ls C K hl hP hz hS ho h1 h2 => lv_lload C.1 C.2.1 d (hl.2.2 17 _ rfl) (k p l e s m args below meth c H locs cells slots D cA o x0 ls C K hl hP hz hS ho h1 h2)
theorem R_fload_17 {z0 z1 z2 z3 z4 z5 z6 z7 z8 z9 z10 z11 z12 z13 z14 z15 z16 : Option Value} {t : List (Option Value)} {x : UInt32} (d : decode T.2.1 pc = .ok (.fload 17, 2)) (k : R T r mc ms Q QX kc ks (pc + 2) (z0 :: z1 :: z2 :: z3 :: z4 :: z5 :: z6 :: z7 :: z8 :: z9 :: z10 :: z11 :: z12 :: z13 :: z14 :: z15 :: z16 :: some (.float x) :: t) (.float x :: st) S V) : R T r mc ms Q QX kc ks (pc) (z0 :: z1 :: z2 :: z3 :: z4 :: z5 :: z6 :: z7 :: z8 :: z9 :: z10 :: z11 :: z12 :: z13 :: z14 :: z15 :: z16 :: some (.float x) :: t) (st) S V :=
  fun p l e s m args below meth c H locs cells slots D cA o x0 ls C K hl hP hz hS ho h1 h2 => lv_fload C.1 C.2.1 d (hl.2.2 17 _ rfl) (k p l e s m args below meth c H locs cells slots D cA o x0 ls C K hl hP hz hS ho h1 h2)
theorem R_aload_17 {z0 z1 z2 z3 z4 z5 z6 z7 z8 z9 z10 z11 z12 z13 z14 z15 z16 : Option Value} {t : List (Option Value)} {x : Nat} (d : decode T.2.1 pc = .ok (.aload 17, 2)) (k : R T r mc ms Q QX kc ks (pc + 2) (z0 :: z1 :: z2 :: z3 :: z4 :: z5 :: z6 :: z7 :: z8 :: z9 :: z10 :: z11 :: z12 :: z13 :: z14 :: z15 :: z16 :: some (.ref x) :: t) (.ref x :: st) S V) : R T r mc ms Q QX kc ks (pc) (z0 :: z1 :: z2 :: z3 :: z4 :: z5 :: z6 :: z7 :: z8 :: z9 :: z10 :: z11 :: z12 :: z13 :: z14 :: z15 :: z16 :: some (.ref x) :: t) (st) S V :=
  fun p l e s m args below meth c H locs cells slots D cA o x0 ls C K hl hP hz hS ho h1 h2 => lv_aload C.1 C.2.1 d (hl.2.2 17 _ rfl) (k p l e s m args below meth c H locs cells slots D cA o x0 ls C K hl hP hz hS ho h1 h2)
theorem a_s1_12 {z0 z1 z2 z3 z4 z5 z6 z7 z8 z9 z10 z11 : Option Value} {y : Option Value} {t : List (Option Value)} {v : Value} (hb : a_c1 z11 = true) : a_s1 12 v (z0 :: z1 :: z2 :: z3 :: z4 :: z5 :: z6 :: z7 :: z8 :: z9 :: z10 :: z11 :: y :: t) (z0 :: z1 :: z2 :: z3 :: z4 :: z5 :: z6 :: z7 :: z8 :: z9 :: z10 :: z11 :: some v :: t) := by
  intro j u hu
  match j, hu with
  | 0, hu => exact Or.inr ⟨by decide, hu, fun q => absurd q.1 (by decide)⟩
  | 1, hu => exact Or.inr ⟨by decide, hu, fun q => absurd q.1 (by decide)⟩
  | 2, hu => exact Or.inr ⟨by decide, hu, fun q => absurd q.1 (by decide)⟩
  | 3, hu => exact Or.inr ⟨by decide, hu, fun q => absurd q.1 (by decide)⟩
  | 4, hu => exact Or.inr ⟨by decide, hu, fun q => absurd q.1 (by decide)⟩
  | 5, hu => exact Or.inr ⟨by decide, hu, fun q => absurd q.1 (by decide)⟩
  | 6, hu => exact Or.inr ⟨by decide, hu, fun q => absurd q.1 (by decide)⟩
  | 7, hu => exact Or.inr ⟨by decide, hu, fun q => absurd q.1 (by decide)⟩
  | 8, hu => exact Or.inr ⟨by decide, hu, fun q => absurd q.1 (by decide)⟩
  | 9, hu => exact Or.inr ⟨by decide, hu, fun q => absurd q.1 (by decide)⟩
  | 10, hu => exact Or.inr ⟨by decide, hu, fun q => absurd q.1 (by decide)⟩
  | 11, hu => cases hu; exact Or.inr ⟨by decide, rfl, fun q => a_c1_of hb q.2⟩
  | 12, hu => cases hu; exact Or.inl ⟨rfl, rfl⟩
  | j + 13, hu => exact Or.inr ⟨by omega, hu, fun q => by omega⟩
theorem a_s2_12 {z0 z1 z2 z3 z4 z5 z6 z7 z8 z9 z10 z11 : Option Value} {y y2 : Option Value} {t : List (Option Value)} {v : Value} (hb : a_c1 z11 = true) : a_s2 12 v (z0 :: z1 :: z2 :: z3 :: z4 :: z5 :: z6 :: z7 :: z8 :: z9 :: z10 :: z11 :: y :: y2 :: t) (z0 :: z1 :: z2 :: z3 :: z4 :: z5 :: z6 :: z7 :: z8 :: z9 :: z10 :: z11 :: some v :: none :: t) := by
  intro j u hu
  match j, hu with
  | 0, hu => exact Or.inr ⟨by decide, by decide, hu, fun q => absurd q.1 (by decide)⟩
  | 1, hu => exact Or.inr ⟨by decide, by decide, hu, fun q => absurd q.1 (by decide)⟩
  | 2, hu => exact Or.inr ⟨by decide, by decide, hu, fun q => absurd q.1 (by decide)⟩
  | 3, hu => exact Or.inr ⟨by decide, by decide, hu, fun q => absurd q.1 (by decide)⟩
  | 4, hu => exact Or.inr ⟨by decide, by decide, hu, fun q => absurd q.1 (by decide)⟩
  | 5, hu => exact Or.inr ⟨by decide, by decide, hu, fun q => absurd q.1 (by decide)⟩
  | 6, hu => exact Or.inr ⟨by decide, by decide, hu, fun q => absurd q.1 (by decide)⟩
  | 7, hu => exact Or.inr ⟨by decide, by decide, hu, fun q => absurd q.1 (by decide)⟩
  | 8, hu => exact Or.inr ⟨by decide, by decide, hu, fun q => absurd q.1 (by decide)⟩
  | 9, hu => exact Or.inr ⟨by decide, by decide, hu, fun q => absurd q.1 (by decide)⟩
  | 10, hu => exact Or.inr ⟨by decide, by decide, hu, fun q => absurd q.1 (by decide)⟩
  | 11, hu => cases hu; exact Or.inr ⟨by decide, by decide, rfl, fun q => a_c1_of hb q.2⟩
  | 12, hu => cases hu; exact Or.inl ⟨rfl, rfl⟩
  | 13, hu => cases hu
  | j + 14, hu => exact Or.inr ⟨by omega, by omega, hu, fun q => by omega⟩
theorem R_istore_12 {z0 z1 z2 z3 z4 z5 z6 z7 z8 z9 z10 z11 : Option Value} {y : Option Value} {t : List (Option Value)} {x : Int32} (hb : a_c1 z11 = true) (hn : 12 < T.2.2.1) (d : decode T.2.1 pc = .ok (.istore 12, 2)) (k : R T r mc ms Q QX kc ks (pc + 2) (z0 :: z1 :: z2 :: z3 :: z4 :: z5 :: z6 :: z7 :: z8 :: z9 :: z10 :: z11 :: some (.int x) :: t) (st) S V) : R T r mc ms Q QX kc ks (pc) (z0 :: z1 :: z2 :: z3 :: z4 :: z5 :: z6 :: z7 :: z8 :: z9 :: z10 :: z11 :: y :: t) (.int x :: st) S V :=
  fun p l e s m args below meth c H locs cells slots D cA o x0 ls C K hl hP hz hS ho h1 h2 => lv_istore C.1 C.2.1 d hl.has hn rfl (fun ls9 hl9 => k p l e s m args below meth c H locs cells slots D cA o x0 ls9 C K (a_lv.st1 (v := .int x) (a_s1_12 hb) hl9) hP hz hS ho h1 h2)
theorem R_fstore_12 {z0 z1 z2 z3 z4 z5 z6 z7 z8 z9 z10 z11 : Option Value} {y : Option Value} {t : List (Option Value)} {x : UInt32} (hb : a_c1 z11 = true) (hn : 12 < T.2.2.1) (d : decode T.2.1 pc = .ok (.fstore 12, 2)) (k : R T r mc ms Q QX kc ks (pc + 2) (z0 :: z1 :: z2 :: z3 :: z4 :: z5 :: z6 :: z7 :: z8 :: z9 :: z10 :: z11 :: some (.float x) :: t) (st) S V) : R T r mc ms Q QX kc ks (pc) (z0 :: z1 :: z2 :: z3 :: z4 :: z5 :: z6 :: z7 :: z8 :: z9 :: z10 :: z11 :: y :: t) (.float x :: st) S V :=
  fun p l e s m args below meth c H locs cells slots D cA o x0 ls C K hl hP hz hS ho h1 h2 => lv_fstore C.1 C.2.1 d hl.has hn rfl (fun ls9 hl9 => k p l e s m args below meth c H locs cells slots D cA o x0 ls9 C K (a_lv.st1 (v := .float x) (a_s1_12 hb) hl9) hP hz hS ho h1 h2)
theorem R_astore_12 {z0 z1 z2 z3 z4 z5 z6 z7 z8 z9 z10 z11 : Option Value} {y : Option Value} {t : List (Option Value)} {x : Nat} (hb : a_c1 z11 = true) (hn : 12 < T.2.2.1) (d : decode T.2.1 pc = .ok (.astore 12, 2)) (k : R T r mc ms Q QX kc ks (pc + 2) (z0 :: z1 :: z2 :: z3 :: z4 :: z5 :: z6 :: z7 :: z8 :: z9 :: z10 :: z11 :: some (.ref x) :: t) (st) S V) : R T r mc ms Q QX kc ks (pc) (z0 :: z1 :: z2 :: z3 :: z4 :: z5 :: z6 :: z7 :: z8 :: z9 :: z10 :: z11 :: y :: t) (.ref x :: st) S V :=
  fun p l e s m args below meth c H locs cells slots D cA o x0 ls C K hl hP hz hS ho h1 h2 => lv_astore C.1 C.2.1 d hl.has hn rfl (fun ls9 hl9 => k p l e s m args below meth c H locs cells slots D cA o x0 ls9 C K (a_lv.st1 (v := .ref x) (a_s1_12 hb) hl9) hP hz hS ho h1 h2)
theorem R_lstore_12 {z0 z1 z2 z3 z4 z5 z6 z7 z8 z9 z10 z11 : Option Value} {y y2 : Option Value} {t : List (Option Value)} {x : Int64} (hb : a_c1 z11 = true) (hn : 12 + 1 < T.2.2.1) (d : decode T.2.1 pc = .ok (.lstore 12, 2)) (k : R T r mc ms Q QX kc ks (pc + 2) (z0 :: z1 :: z2 :: z3 :: z4 :: z5 :: z6 :: z7 :: z8 :: z9 :: z10 :: z11 :: some (.long x) :: none :: t) (st) S V) : R T r mc ms Q QX kc ks (pc) (z0 :: z1 :: z2 :: z3 :: z4 :: z5 :: z6 :: z7 :: z8 :: z9 :: z10 :: z11 :: y :: y2 :: t) (.long x :: st) S V :=
  fun p l e s m args below meth c H locs cells slots D cA o x0 ls C K hl hP hz hS ho h1 h2 => lv_lstore C.1 C.2.1 d hl.has hn rfl (fun ls9 hl9 => k p l e s m args below meth c H locs cells slots D cA o x0 ls9 C K (a_lv.st2 (v := .long x) (a_s2_12 hb) hl9) hP hz hS ho h1 h2)
theorem R_iinc_12 {z0 z1 z2 z3 z4 z5 z6 z7 z8 z9 z10 z11 : Option Value} {t : List (Option Value)} {n : Int} {x v : Int32} (hb : a_c1 z11 = true) (hn : 12 < T.2.2.1) (d : decode T.2.1 pc = .ok (.iinc 12 n, 3)) (hv : x + Int32.ofInt n = v) (k : R T r mc ms Q QX kc ks (pc + 3) (z0 :: z1 :: z2 :: z3 :: z4 :: z5 :: z6 :: z7 :: z8 :: z9 :: z10 :: z11 :: some (.int v) :: t) (st) S V) : R T r mc ms Q QX kc ks (pc) (z0 :: z1 :: z2 :: z3 :: z4 :: z5 :: z6 :: z7 :: z8 :: z9 :: z10 :: z11 :: some (.int x) :: t) (st) S V := by
  intro p l e s m args below meth c H locs cells slots D cA o x0 ls C K hl hP hz hS ho h1 h2
  obtain ⟨k9, hk9⟩ := List.getElem?_of_mem (a_al_mem (o := o) (x0 := x0) (lv := z0 :: z1 :: z2 :: z3 :: z4 :: z5 :: z6 :: z7 :: z8 :: z9 :: z10 :: z11 :: some (.int x) :: t) (q := (12, .int x)) |>.mpr ⟨.int x, rfl, rfl⟩)
  exact lv_iinc C.1 C.2.1 d hl.has hk9 hv hn rfl (fun ls9 hl9 => k p l e s m args below meth c H locs cells slots D cA o x0 ls9 C K (a_lv.st1 (v := .int v) (a_s1_12 hb) hl9) hP hz hS ho h1 h2)
theorem a_s1_13 {z0 z1 z2 z3 z4 z5 z6 z7 z8 z9 z10 z11 z12 : Option Value} {y : Option Value} {t : List (Option Value)} {v : Value} (hb : a_c1 z12 = true) : a_s1 13 v (z0 :: z1 :: z2 :: z3 :: z4 :: z5 :: z6 :: z7 :: z8 :: z9 :: z10 :: z11 :: z12 :: y :: t) (z0 :: z1 :: z2 :: z3 :: z4 :: z5 :: z6 :: z7 :: z8 :: z9 :: z10 :: z11 :: z12 :: some v :: t) := by
  intro j u hu
  match j, hu with
  | 0, hu => exact Or.inr ⟨by decide, hu, fun q => absurd q.1 (by decide)⟩
  | 1, hu => exact Or.inr ⟨by decide, hu, fun q => absurd q.1 (by decide)⟩
  | 2, hu => exact Or.inr ⟨by decide, hu, fun q => absurd q.1 (by decide)⟩
  | 3, hu => exact Or.inr ⟨by decide, hu, fun q => absurd q.1 (by decide)⟩
  | 4, hu => exact Or.inr ⟨by decide, hu, fun q => absurd q.1 (by decide)⟩
  | 5, hu => exact Or.inr ⟨by decide, hu, fun q => absurd q.1 (by decide)⟩
  | 6, hu => exact Or.inr ⟨by decide, hu, fun q => absurd q.1 (by decide)⟩
  | 7, hu => exact Or.inr ⟨by decide, hu, fun q => absurd q.1 (by decide)⟩
  | 8, hu => exact Or.inr ⟨by decide, hu, fun q => absurd q.1 (by decide)⟩
  | 9, hu => exact Or.inr ⟨by decide, hu, fun q => absurd q.1 (by decide)⟩
  | 10, hu => exact Or.inr ⟨by decide, hu, fun q => absurd q.1 (by decide)⟩
  | 11, hu => exact Or.inr ⟨by decide, hu, fun q => absurd q.1 (by decide)⟩
  | 12, hu => cases hu; exact Or.inr ⟨by decide, rfl, fun q => a_c1_of hb q.2⟩
  | 13, hu => cases hu; exact Or.inl ⟨rfl, rfl⟩
  | j + 14, hu => exact Or.inr ⟨by omega, hu, fun q => by omega⟩
theorem a_s2_13 {z0 z1 z2 z3 z4 z5 z6 z7 z8 z9 z10 z11 z12 : Option Value} {y y2 : Option Value} {t : List (Option Value)} {v : Value} (hb : a_c1 z12 = true) : a_s2 13 v (z0 :: z1 :: z2 :: z3 :: z4 :: z5 :: z6 :: z7 :: z8 :: z9 :: z10 :: z11 :: z12 :: y :: y2 :: t) (z0 :: z1 :: z2 :: z3 :: z4 :: z5 :: z6 :: z7 :: z8 :: z9 :: z10 :: z11 :: z12 :: some v :: none :: t) := by
  intro j u hu
  match j, hu with
  | 0, hu => exact Or.inr ⟨by decide, by decide, hu, fun q => absurd q.1 (by decide)⟩
  | 1, hu => exact Or.inr ⟨by decide, by decide, hu, fun q => absurd q.1 (by decide)⟩
  | 2, hu => exact Or.inr ⟨by decide, by decide, hu, fun q => absurd q.1 (by decide)⟩
  | 3, hu => exact Or.inr ⟨by decide, by decide, hu, fun q => absurd q.1 (by decide)⟩
  | 4, hu => exact Or.inr ⟨by decide, by decide, hu, fun q => absurd q.1 (by decide)⟩
  | 5, hu => exact Or.inr ⟨by decide, by decide, hu, fun q => absurd q.1 (by decide)⟩
  | 6, hu => exact Or.inr ⟨by decide, by decide, hu, fun q => absurd q.1 (by decide)⟩
  | 7, hu => exact Or.inr ⟨by decide, by decide, hu, fun q => absurd q.1 (by decide)⟩
  | 8, hu => exact Or.inr ⟨by decide, by decide, hu, fun q => absurd q.1 (by decide)⟩
  | 9, hu => exact Or.inr ⟨by decide, by decide, hu, fun q => absurd q.1 (by decide)⟩
  | 10, hu => exact Or.inr ⟨by decide, by decide, hu, fun q => absurd q.1 (by decide)⟩
  | 11, hu => exact Or.inr ⟨by decide, by decide, hu, fun q => absurd q.1 (by decide)⟩
  | 12, hu => cases hu; exact Or.inr ⟨by decide, by decide, rfl, fun q => a_c1_of hb q.2⟩
  | 13, hu => cases hu; exact Or.inl ⟨rfl, rfl⟩
  | 14, hu => cases hu
  | j + 15, hu => exact Or.inr ⟨by omega, by omega, hu, fun q => by omega⟩
theorem R_istore_13 {z0 z1 z2 z3 z4 z5 z6 z7 z8 z9 z10 z11 z12 : Option Value} {y : Option Value} {t : List (Option Value)} {x : Int32} (hb : a_c1 z12 = true) (hn : 13 < T.2.2.1) (d : decode T.2.1 pc = .ok (.istore 13, 2)) (k : R T r mc ms Q QX kc ks (pc + 2) (z0 :: z1 :: z2 :: z3 :: z4 :: z5 :: z6 :: z7 :: z8 :: z9 :: z10 :: z11 :: z12 :: some (.int x) :: t) (st) S V) : R T r mc ms Q QX kc ks (pc) (z0 :: z1 :: z2 :: z3 :: z4 :: z5 :: z6 :: z7 :: z8 :: z9 :: z10 :: z11 :: z12 :: y :: t) (.int x :: st) S V :=
  fun p l e s m args below meth c H locs cells slots D cA o x0 ls C K hl hP hz hS ho h1 h2 => lv_istore C.1 C.2.1 d hl.has hn rfl (fun ls9 hl9 => k p l e s m args below meth c H locs cells slots D cA o x0 ls9 C K (a_lv.st1 (v := .int x) (a_s1_13 hb) hl9) hP hz hS ho h1 h2)
theorem R_fstore_13 {z0 z1 z2 z3 z4 z5 z6 z7 z8 z9 z10 z11 z12 : Option Value} {y : Option Value} {t : List (Option Value)} {x : UInt32} (hb : a_c1 z12 = true) (hn : 13 < T.2.2.1) (d : decode T.2.1 pc = .ok (.fstore 13, 2)) (k : R T r mc ms Q QX kc ks (pc + 2) (z0 :: z1 :: z2 :: z3 :: z4 :: z5 :: z6 :: z7 :: z8 :: z9 :: z10 :: z11 :: z12 :: some (.float x) :: t) (st) S V) : R T r mc ms Q QX kc ks (pc) (z0 :: z1 :: z2 :: z3 :: z4 :: z5 :: z6 :: z7 :: z8 :: z9 :: z10 :: z11 :: z12 :: y :: t) (.float x :: st) S V :=
  fun p l e s m args below meth c H locs cells slots D cA o x0 ls C K hl hP hz hS ho h1 h2 => lv_fstore C.1 C.2.1 d hl.has hn rfl (fun ls9 hl9 => k p l e s m args below meth c H locs cells slots D cA o x0 ls9 C K (a_lv.st1 (v := .float x) (a_s1_13 hb) hl9) hP hz hS ho h1 h2)
theorem R_astore_13 {z0 z1 z2 z3 z4 z5 z6 z7 z8 z9 z10 z11 z12 : Option Value} {y : Option Value} {t : List (Option Value)} {x : Nat} (hb : a_c1 z12 = true) (hn : 13 < T.2.2.1) (d : decode T.2.1 pc = .ok (.astore 13, 2)) (k : R T r mc ms Q QX kc ks (pc + 2) (z0 :: z1 :: z2 :: z3 :: z4 :: z5 :: z6 :: z7 :: z8 :: z9 :: z10 :: z11 :: z12 :: some (.ref x) :: t) (st) S V) : R T r mc ms Q QX kc ks (pc) (z0 :: z1 :: z2 :: z3 :: z4 :: z5 :: z6 :: z7 :: z8 :: z9 :: z10 :: z11 :: z12 :: y :: t) (.ref x :: st) S V :=
  fun p l e s m args below meth c H locs cells slots D cA o x0 ls C K hl hP hz hS ho h1 h2 => lv_astore C.1 C.2.1 d hl.has hn rfl (fun ls9 hl9 => k p l e s m args below meth c H locs cells slots D cA o x0 ls9 C K (a_lv.st1 (v := .ref x) (a_s1_13 hb) hl9) hP hz hS ho h1 h2)
theorem R_lstore_13 {z0 z1 z2 z3 z4 z5 z6 z7 z8 z9 z10 z11 z12 : Option Value} {y y2 : Option Value} {t : List (Option Value)} {x : Int64} (hb : a_c1 z12 = true) (hn : 13 + 1 < T.2.2.1) (d : decode T.2.1 pc = .ok (.lstore 13, 2)) (k : R T r mc ms Q QX kc ks (pc + 2) (z0 :: z1 :: z2 :: z3 :: z4 :: z5 :: z6 :: z7 :: z8 :: z9 :: z10 :: z11 :: z12 :: some (.long x) :: none :: t) (st) S V) : R T r mc ms Q QX kc ks (pc) (z0 :: z1 :: z2 :: z3 :: z4 :: z5 :: z6 :: z7 :: z8 :: z9 :: z10 :: z11 :: z12 :: y :: y2 :: t) (.long x :: st) S V :=
  fun p l e s m args below meth c H locs cells slots D cA o x0 ls C K hl hP hz hS ho h1 h2 => lv_lstore C.1 C.2.1 d hl.has hn rfl (fun ls9 hl9 => k p l e s m args below meth c H locs cells slots D cA o x0 ls9 C K (a_lv.st2 (v := .long x) (a_s2_13 hb) hl9) hP hz hS ho h1 h2)
theorem R_iinc_13 {z0 z1 z2 z3 z4 z5 z6 z7 z8 z9 z10 z11 z12 : Option Value} {t : List (Option Value)} {n : Int} {x v : Int32} (hb : a_c1 z12 = true) (hn : 13 < T.2.2.1) (d : decode T.2.1 pc = .ok (.iinc 13 n, 3)) (hv : x + Int32.ofInt n = v) (k : R T r mc ms Q QX kc ks (pc + 3) (z0 :: z1 :: z2 :: z3 :: z4 :: z5 :: z6 :: z7 :: z8 :: z9 :: z10 :: z11 :: z12 :: some (.int v) :: t) (st) S V) : R T r mc ms Q QX kc ks (pc) (z0 :: z1 :: z2 :: z3 :: z4 :: z5 :: z6 :: z7 :: z8 :: z9 :: z10 :: z11 :: z12 :: some (.int x) :: t) (st) S V := by
  intro p l e s m args below meth c H locs cells slots D cA o x0 ls C K hl hP hz hS ho h1 h2
  obtain ⟨k9, hk9⟩ := List.getElem?_of_mem (a_al_mem (o := o) (x0 := x0) (lv := z0 :: z1 :: z2 :: z3 :: z4 :: z5 :: z6 :: z7 :: z8 :: z9 :: z10 :: z11 :: z12 :: some (.int x) :: t) (q := (13, .int x)) |>.mpr ⟨.int x, rfl, rfl⟩)
  exact lv_iinc C.1 C.2.1 d hl.has hk9 hv hn rfl (fun ls9 hl9 => k p l e s m args below meth c H locs cells slots D cA o x0 ls9 C K (a_lv.st1 (v := .int v) (a_s1_13 hb) hl9) hP hz hS ho h1 h2)
theorem a_s1_14 {z0 z1 z2 z3 z4 z5 z6 z7 z8 z9 z10 z11 z12 z13 : Option Value} {y : Option Value} {t : List (Option Value)} {v : Value} (hb : a_c1 z13 = true) : a_s1 14 v (z0 :: z1 :: z2 :: z3 :: z4 :: z5 :: z6 :: z7 :: z8 :: z9 :: z10 :: z11 :: z12 :: z13 :: y :: t) (z0 :: z1 :: z2 :: z3 :: z4 :: z5 :: z6 :: z7 :: z8 :: z9 :: z10 :: z11 :: z12 :: z13 :: some v :: t) := by
  intro j u hu
  match j, hu with
  | 0, hu => exact Or.inr ⟨by decide, hu, fun q => absurd q.1 (by decide)⟩
  | 1, hu => exact Or.inr ⟨by decide, hu, fun q => absurd q.1 (by decide)⟩
  | 2, hu => exact Or.inr ⟨by decide, hu, fun q => absurd q.1 (by decide)⟩
  | 3, hu => exact Or.inr ⟨by decide, hu, fun q => absurd q.1 (by decide)⟩
  | 4, hu => exact Or.inr ⟨by decide, hu, fun q => absurd q.1 (by decide)⟩
  | 5, hu => exact Or.inr ⟨by decide, hu, fun q => absurd q.1 (by decide)⟩
  | 6, hu => exact Or.inr ⟨by decide, hu, fun q => absurd q.1 (by decide)⟩
  | 7, hu => exact Or.inr ⟨by decide, hu, fun q => absurd q.1 (by decide)⟩
  | 8, hu => exact Or.inr ⟨by decide, hu, fun q => absurd q.1 (by decide)⟩
  | 9, hu => exact Or.inr ⟨by decide, hu, fun q => absurd q.1 (by decide)⟩
  | 10, hu => exact Or.inr ⟨by decide, hu, fun q => absurd q.1 (by decide)⟩
  | 11, hu => exact Or.inr ⟨by decide, hu, fun q => absurd q.1 (by decide)⟩
  | 12, hu => exact Or.inr ⟨by decide, hu, fun q => absurd q.1 (by decide)⟩
  | 13, hu => cases hu; exact Or.inr ⟨by decide, rfl, fun q => a_c1_of hb q.2⟩
  | 14, hu => cases hu; exact Or.inl ⟨rfl, rfl⟩
  | j + 15, hu => exact Or.inr ⟨by omega, hu, fun q => by omega⟩
theorem a_s2_14 {z0 z1 z2 z3 z4 z5 z6 z7 z8 z9 z10 z11 z12 z13 : Option Value} {y y2 : Option Value} {t : List (Option Value)} {v : Value} (hb : a_c1 z13 = true) : a_s2 14 v (z0 :: z1 :: z2 :: z3 :: z4 :: z5 :: z6 :: z7 :: z8 :: z9 :: z10 :: z11 :: z12 :: z13 :: y :: y2 :: t) (z0 :: z1 :: z2 :: z3 :: z4 :: z5 :: z6 :: z7 :: z8 :: z9 :: z10 :: z11 :: z12 :: z13 :: some v :: none :: t) := by
  intro j u hu
  match j, hu with
  | 0, hu => exact Or.inr ⟨by decide, by decide, hu, fun q => absurd q.1 (by decide)⟩
  | 1, hu => exact Or.inr ⟨by decide, by decide, hu, fun q => absurd q.1 (by decide)⟩
  | 2, hu => exact Or.inr ⟨by decide, by decide, hu, fun q => absurd q.1 (by decide)⟩
  | 3, hu => exact Or.inr ⟨by decide, by decide, hu, fun q => absurd q.1 (by decide)⟩
  | 4, hu => exact Or.inr ⟨by decide, by decide, hu, fun q => absurd q.1 (by decide)⟩
  | 5, hu => exact Or.inr ⟨by decide, by decide, hu, fun q => absurd q.1 (by decide)⟩
  | 6, hu => exact Or.inr ⟨by decide, by decide, hu, fun q => absurd q.1 (by decide)⟩
  | 7, hu => exact Or.inr ⟨by decide, by decide, hu, fun q => absurd q.1 (by decide)⟩
  | 8, hu => exact Or.inr ⟨by decide, by decide, hu, fun q => absurd q.1 (by decide)⟩
  | 9, hu => exact Or.inr ⟨by decide, by decide, hu, fun q => absurd q.1 (by decide)⟩
  | 10, hu => exact Or.inr ⟨by decide, by decide, hu, fun q => absurd q.1 (by decide)⟩
  | 11, hu => exact Or.inr ⟨by decide, by decide, hu, fun q => absurd q.1 (by decide)⟩
  | 12, hu => exact Or.inr ⟨by decide, by decide, hu, fun q => absurd q.1 (by decide)⟩
  | 13, hu => cases hu; exact Or.inr ⟨by decide, by decide, rfl, fun q => a_c1_of hb q.2⟩
  | 14, hu => cases hu; exact Or.inl ⟨rfl, rfl⟩
  | 15, hu => cases hu
  | j + 16, hu => exact Or.inr ⟨by omega, by omega, hu, fun q => by omega⟩
theorem R_istore_14 {z0 z1 z2 z3 z4 z5 z6 z7 z8 z9 z10 z11 z12 z13 : Option Value} {y : Option Value} {t : List (Option Value)} {x : Int32} (hb : a_c1 z13 = true) (hn : 14 < T.2.2.1) (d : decode T.2.1 pc = .ok (.istore 14, 2)) (k : R T r mc ms Q QX kc ks (pc + 2) (z0 :: z1 :: z2 :: z3 :: z4 :: z5 :: z6 :: z7 :: z8 :: z9 :: z10 :: z11 :: z12 :: z13 :: some (.int x) :: t) (st) S V) : R T r mc ms Q QX kc ks (pc) (z0 :: z1 :: z2 :: z3 :: z4 :: z5 :: z6 :: z7 :: z8 :: z9 :: z10 :: z11 :: z12 :: z13 :: y :: t) (.int x :: st) S V :=
  fun p l e s m args below meth c H locs cells slots D cA o x0 ls C K hl hP hz hS ho h1 h2 => lv_istore C.1 C.2.1 d hl.has hn rfl (fun ls9 hl9 => k p l e s m args below meth c H locs cells slots D cA o x0 ls9 C K (a_lv.st1 (v := .int x) (a_s1_14 hb) hl9) hP hz hS ho h1 h2)
theorem R_fstore_14 {z0 z1 z2 z3 z4 z5 z6 z7 z8 z9 z10 z11 z12 z13 : Option Value} {y : Option Value} {t : List (Option Value)} {x : UInt32} (hb : a_c1 z13 = true) (hn : 14 < T.2.2.1) (d : decode T.2.1 pc = .ok (.fstore 14, 2)) (k : R T r mc ms Q QX kc ks (pc + 2) (z0 :: z1 :: z2 :: z3 :: z4 :: z5 :: z6 :: z7 :: z8 :: z9 :: z10 :: z11 :: z12 :: z13 :: some (.float x) :: t) (st) S V) : R T r mc ms Q QX kc ks (pc) (z0 :: z1 :: z2 :: z3 :: z4 :: z5 :: z6 :: z7 :: z8 :: z9 :: z10 :: z11 :: z12 :: z13 :: y :: t) (.float x :: st) S V :=
  fun p l e s m args below meth c H locs cells slots D cA o x0 ls C K hl hP hz hS ho h1 h2 => lv_fstore C.1 C.2.1 d hl.has hn rfl (fun ls9 hl9 => k p l e s m args below meth c H locs cells slots D cA o x0 ls9 C K (a_lv.st1 (v := .float x) (a_s1_14 hb) hl9) hP hz hS ho h1 h2)
theorem R_astore_14 {z0 z1 z2 z3 z4 z5 z6 z7 z8 z9 z10 z11 z12 z13 : Option Value} {y : Option Value} {t : List (Option Value)} {x : Nat} (hb : a_c1 z13 = true) (hn : 14 < T.2.2.1) (d : decode T.2.1 pc = .ok (.astore 14, 2)) (k : R T r mc ms Q QX kc ks (pc + 2) (z0 :: z1 :: z2 :: z3 :: z4 :: z5 :: z6 :: z7 :: z8 :: z9 :: z10 :: z11 :: z12 :: z13 :: some (.ref x) :: t) (st) S V) : R T r mc ms Q QX kc ks (pc) (z0 :: z1 :: z2 :: z3 :: z4 :: z5 :: z6 :: z7 :: z8 :: z9 :: z10 :: z11 :: z12 :: z13 :: y :: t) (.ref x :: st) S V :=
  fun p l e s m args below meth c H locs cells slots D cA o x0 ls C K hl hP hz hS ho h1 h2 => lv_astore C.1 C.2.1 d hl.has hn rfl (fun ls9 hl9 => k p l e s m args below meth c H locs cells slots D cA o x0 ls9 C K (a_lv.st1 (v := .ref x) (a_s1_14 hb) hl9) hP hz hS ho h1 h2)
theorem R_lstore_14 {z0 z1 z2 z3 z4 z5 z6 z7 z8 z9 z10 z11 z12 z13 : Option Value} {y y2 : Option Value} {t : List (Option Value)} {x : Int64} (hb : a_c1 z13 = true) (hn : 14 + 1 < T.2.2.1) (d : decode T.2.1 pc = .ok (.lstore 14, 2)) (k : R T r mc ms Q QX kc ks (pc + 2) (z0 :: z1 :: z2 :: z3 :: z4 :: z5 :: z6 :: z7 :: z8 :: z9 :: z10 :: z11 :: z12 :: z13 :: some (.long x) :: none :: t) (st) S V) : R T r mc ms Q QX kc ks (pc) (z0 :: z1 :: z2 :: z3 :: z4 :: z5 :: z6 :: z7 :: z8 :: z9 :: z10 :: z11 :: z12 :: z13 :: y :: y2 :: t) (.long x :: st) S V :=
  fun p l e s m args below meth c H locs cells slots D cA o x0 ls C K hl hP hz hS ho h1 h2 => lv_lstore C.1 C.2.1 d hl.has hn rfl (fun ls9 hl9 => k p l e s m args below meth c H locs cells slots D cA o x0 ls9 C K (a_lv.st2 (v := .long x) (a_s2_14 hb) hl9) hP hz hS ho h1 h2)
theorem R_iinc_14 {z0 z1 z2 z3 z4 z5 z6 z7 z8 z9 z10 z11 z12 z13 : Option Value} {t : List (Option Value)} {n : Int} {x v : Int32} (hb : a_c1 z13 = true) (hn : 14 < T.2.2.1) (d : decode T.2.1 pc = .ok (.iinc 14 n, 3)) (hv : x + Int32.ofInt n = v) (k : R T r mc ms Q QX kc ks (pc + 3) (z0 :: z1 :: z2 :: z3 :: z4 :: z5 :: z6 :: z7 :: z8 :: z9 :: z10 :: z11 :: z12 :: z13 :: some (.int v) :: t) (st) S V) : R T r mc ms Q QX kc ks (pc) (z0 :: z1 :: z2 :: z3 :: z4 :: z5 :: z6 :: z7 :: z8 :: z9 :: z10 :: z11 :: z12 :: z13 :: some (.int x) :: t) (st) S V := by
  intro p l e s m args below meth c H locs cells slots D cA o x0 ls C K hl hP hz hS ho h1 h2
  obtain ⟨k9, hk9⟩ := List.getElem?_of_mem (a_al_mem (o := o) (x0 := x0) (lv := z0 :: z1 :: z2 :: z3 :: z4 :: z5 :: z6 :: z7 :: z8 :: z9 :: z10 :: z11 :: z12 :: z13 :: some (.int x) :: t) (q := (14, .int x)) |>.mpr ⟨.int x, rfl, rfl⟩)
  exact lv_iinc C.1 C.2.1 d hl.has hk9 hv hn rfl (fun ls9 hl9 => k p l e s m args below meth c H locs cells slots D cA o x0 ls9 C K (a_lv.st1 (v := .int v) (a_s1_14 hb) hl9) hP hz hS ho h1 h2)
theorem a_s1_15 {z0 z1 z2 z3 z4 z5 z6 z7 z8 z9 z10 z11 z12 z13 z14 : Option Value} {y : Option Value} {t : List (Option Value)} {v : Value} (hb : a_c1 z14 = true) : a_s1 15 v (z0 :: z1 :: z2 :: z3 :: z4 :: z5 :: z6 :: z7 :: z8 :: z9 :: z10 :: z11 :: z12 :: z13 :: z14 :: y :: t) (z0 :: z1 :: z2 :: z3 :: z4 :: z5 :: z6 :: z7 :: z8 :: z9 :: z10 :: z11 :: z12 :: z13 :: z14 :: some v :: t) := by
  intro j u hu
  match j, hu with
  | 0, hu => exact Or.inr ⟨by decide, hu, fun q => absurd q.1 (by decide)⟩
  | 1, hu => exact Or.inr ⟨by decide, hu, fun q => absurd q.1 (by decide)⟩
  | 2, hu => exact Or.inr ⟨by decide, hu, fun q => absurd q.1 (by decide)⟩
  | 3, hu => exact Or.inr ⟨by decide, hu, fun q => absurd q.1 (by decide)⟩
  | 4, hu => exact Or.inr ⟨by decide, hu, fun q => absurd q.1 (by decide)⟩
  | 5, hu => exact Or.inr ⟨by decide, hu, fun q => absurd q.1 (by decide)⟩
  | 6, hu => exact Or.inr ⟨by decide, hu, fun q => absurd q.1 (by decide)⟩
  | 7, hu => exact Or.inr ⟨by decide, hu, fun q => absurd q.1 (by decide)⟩
  | 8, hu => exact Or.inr ⟨by decide, hu, fun q => absurd q.1 (by decide)⟩
  | 9, hu => exact Or.inr ⟨by decide, hu, fun q => absurd q.1 (by decide)⟩
  | 10, hu => exact Or.inr ⟨by decide, hu, fun q => absurd q.1 (by decide)⟩
  | 11, hu => exact Or.inr ⟨by decide, hu, fun q => absurd q.1 (by decide)⟩
  | 12, hu => exact Or.inr ⟨by decide, hu, fun q => absurd q.1 (by decide)⟩
  | 13, hu => exact Or.inr ⟨by decide, hu, fun q => absurd q.1 (by decide)⟩
  | 14, hu => cases hu; exact Or.inr ⟨by decide, rfl, fun q => a_c1_of hb q.2⟩
  | 15, hu => cases hu; exact Or.inl ⟨rfl, rfl⟩
  | j + 16, hu => exact Or.inr ⟨by omega, hu, fun q => by omega⟩
theorem a_s2_15 {z0 z1 z2 z3 z4 z5 z6 z7 z8 z9 z10 z11 z12 z13 z14 : Option Value} {y y2 : Option Value} {t : List (Option Value)} {v : Value} (hb : a_c1 z14 = true) : a_s2 15 v (z0 :: z1 :: z2 :: z3 :: z4 :: z5 :: z6 :: z7 :: z8 :: z9 :: z10 :: z11 :: z12 :: z13 :: z14 :: y :: y2 :: t) (z0 :: z1 :: z2 :: z3 :: z4 :: z5 :: z6 :: z7 :: z8 :: z9 :: z10 :: z11 :: z12 :: z13 :: z14 :: some v :: none :: t) := by
  intro j u hu
  match j, hu with
  | 0, hu => exact Or.inr ⟨by decide, by decide, hu, fun q => absurd q.1 (by decide)⟩
  | 1, hu => exact Or.inr ⟨by decide, by decide, hu, fun q => absurd q.1 (by decide)⟩
  | 2, hu => exact Or.inr ⟨by decide, by decide, hu, fun q => absurd q.1 (by decide)⟩
  | 3, hu => exact Or.inr ⟨by decide, by decide, hu, fun q => absurd q.1 (by decide)⟩
  | 4, hu => exact Or.inr ⟨by decide, by decide, hu, fun q => absurd q.1 (by decide)⟩
  | 5, hu => exact Or.inr ⟨by decide, by decide, hu, fun q => absurd q.1 (by decide)⟩
  | 6, hu => exact Or.inr ⟨by decide, by decide, hu, fun q => absurd q.1 (by decide)⟩
  | 7, hu => exact Or.inr ⟨by decide, by decide, hu, fun q => absurd q.1 (by decide)⟩
  | 8, hu => exact Or.inr ⟨by decide, by decide, hu, fun q => absurd q.1 (by decide)⟩
  | 9, hu => exact Or.inr ⟨by decide, by decide, hu, fun q => absurd q.1 (by decide)⟩
  | 10, hu => exact Or.inr ⟨by decide, by decide, hu, fun q => absurd q.1 (by decide)⟩
  | 11, hu => exact Or.inr ⟨by decide, by decide, hu, fun q => absurd q.1 (by decide)⟩
  | 12, hu => exact Or.inr ⟨by decide, by decide, hu, fun q => absurd q.1 (by decide)⟩
  | 13, hu => exact Or.inr ⟨by decide, by decide, hu, fun q => absurd q.1 (by decide)⟩
  | 14, hu => cases hu; exact Or.inr ⟨by decide, by decide, rfl, fun q => a_c1_of hb q.2⟩
  | 15, hu => cases hu; exact Or.inl ⟨rfl, rfl⟩
  | 16, hu => cases hu
  | j + 17, hu => exact Or.inr ⟨by omega, by omega, hu, fun q => by omega⟩
theorem R_istore_15 {z0 z1 z2 z3 z4 z5 z6 z7 z8 z9 z10 z11 z12 z13 z14 : Option Value} {y : Option Value} {t : List (Option Value)} {x : Int32} (hb : a_c1 z14 = true) (hn : 15 < T.2.2.1) (d : decode T.2.1 pc = .ok (.istore 15, 2)) (k : R T r mc ms Q QX kc ks (pc + 2) (z0 :: z1 :: z2 :: z3 :: z4 :: z5 :: z6 :: z7 :: z8 :: z9 :: z10 :: z11 :: z12 :: z13 :: z14 :: some (.int x) :: t) (st) S V) : R T r mc ms Q QX kc ks (pc) (z0 :: z1 :: z2 :: z3 :: z4 :: z5 :: z6 :: z7 :: z8 :: z9 :: z10 :: z11 :: z12 :: z13 :: z14 :: y :: t) (.int x :: st) S V :=
  fun p l e s m args below meth c H locs cells slots D cA o x0 ls C K hl hP hz hS ho h1 h2 => lv_istore C.1 C.2.1 d hl.has hn rfl (fun ls9 hl9 => k p l e s m args below meth c H locs cells slots D cA o x0 ls9 C K (a_lv.st1 (v := .int x) (a_s1_15 hb) hl9) hP hz hS ho h1 h2)
theorem R_fstore_15 {z0 z1 z2 z3 z4 z5 z6 z7 z8 z9 z10 z11 z12 z13 z14 : Option Value} {y : Option Value} {t : List (Option Value)} {x : UInt32} (hb : a_c1 z14 = true) (hn : 15 < T.2.2.1) (d : decode T.2.1 pc = .ok (.fstore 15, 2)) (k : R T r mc ms Q QX kc ks (pc + 2) (z0 :: z1 :: z2 :: z3 :: z4 :: z5 :: z6 :: z7 :: z8 :: z9 :: z10 :: z11 :: z12 :: z13 :: z14 :: some (.float x) :: t) (st) S V) : R T r mc ms Q QX kc ks (pc) (z0 :: z1 :: z2 :: z3 :: z4 :: z5 :: z6 :: z7 :: z8 :: z9 :: z10 :: z11 :: z12 :: z13 :: z14 :: y :: t) (.float x :: st) S V :=
  fun p l e s m args below meth c H locs cells slots D cA o x0 ls C K hl hP hz hS ho h1 h2 => lv_fstore C.1 C.2.1 d hl.has hn rfl (fun ls9 hl9 => k p l e s m args below meth c H locs cells slots D cA o x0 ls9 C K (a_lv.st1 (v := .float x) (a_s1_15 hb) hl9) hP hz hS ho h1 h2)
theorem R_astore_15 {z0 z1 z2 z3 z4 z5 z6 z7 z8 z9 z10 z11 z12 z13 z14 : Option Value} {y : Option Value} {t : List (Option Value)} {x : Nat} (hb : a_c1 z14 = true) (hn : 15 < T.2.2.1) (d : decode T.2.1 pc = .ok (.astore 15, 2)) (k : R T r mc ms Q QX kc ks (pc + 2) (z0 :: z1 :: z2 :: z3 :: z4 :: z5 :: z6 :: z7 :: z8 :: z9 :: z10 :: z11 :: z12 :: z13 :: z14 :: some (.ref x) :: t) (st) S V) : R T r mc ms Q QX kc ks (pc) (z0 :: z1 :: z2 :: z3 :: z4 :: z5 :: z6 :: z7 :: z8 :: z9 :: z10 :: z11 :: z12 :: z13 :: z14 :: y :: t) (.ref x :: st) S V :=
  fun p l e s m args below meth c H locs cells slots D cA o x0 ls C K hl hP hz hS ho h1 h2 => lv_astore C.1 C.2.1 d hl.has hn rfl (fun ls9 hl9 => k p l e s m args below meth c H locs cells slots D cA o x0 ls9 C K (a_lv.st1 (v := .ref x) (a_s1_15 hb) hl9) hP hz hS ho h1 h2)
theorem R_lstore_15 {z0 z1 z2 z3 z4 z5 z6 z7 z8 z9 z10 z11 z12 z13 z14 : Option Value} {y y2 : Option Value} {t : List (Option Value)} {x : Int64} (hb : a_c1 z14 = true) (hn : 15 + 1 < T.2.2.1) (d : decode T.2.1 pc = .ok (.lstore 15, 2)) (k : R T r mc ms Q QX kc ks (pc + 2) (z0 :: z1 :: z2 :: z3 :: z4 :: z5 :: z6 :: z7 :: z8 :: z9 :: z10 :: z11 :: z12 :: z13 :: z14 :: some (.long x) :: none :: t) (st) S V) : R T r mc ms Q QX kc ks (pc) (z0 :: z1 :: z2 :: z3 :: z4 :: z5 :: z6 :: z7 :: z8 :: z9 :: z10 :: z11 :: z12 :: z13 :: z14 :: y :: y2 :: t) (.long x :: st) S V :=
  fun p l e s m args below meth c H locs cells slots D cA o x0 ls C K hl hP hz hS ho h1 h2 => lv_lstore C.1 C.2.1 d hl.has hn rfl (fun ls9 hl9 => k p l e s m args below meth c H locs cells slots D cA o x0 ls9 C K (a_lv.st2 (v := .long x) (a_s2_15 hb) hl9) hP hz hS ho h1 h2)
theorem R_iinc_15 {z0 z1 z2 z3 z4 z5 z6 z7 z8 z9 z10 z11 z12 z13 z14 : Option Value} {t : List (Option Value)} {n : Int} {x v : Int32} (hb : a_c1 z14 = true) (hn : 15 < T.2.2.1) (d : decode T.2.1 pc = .ok (.iinc 15 n, 3)) (hv : x + Int32.ofInt n = v) (k : R T r mc ms Q QX kc ks (pc + 3) (z0 :: z1 :: z2 :: z3 :: z4 :: z5 :: z6 :: z7 :: z8 :: z9 :: z10 :: z11 :: z12 :: z13 :: z14 :: some (.int v) :: t) (st) S V) : R T r mc ms Q QX kc ks (pc) (z0 :: z1 :: z2 :: z3 :: z4 :: z5 :: z6 :: z7 :: z8 :: z9 :: z10 :: z11 :: z12 :: z13 :: z14 :: some (.int x) :: t) (st) S V := by
  intro p l e s m args below meth c H locs cells slots D cA o x0 ls C K hl hP hz hS ho h1 h2
  obtain ⟨k9, hk9⟩ := List.getElem?_of_mem (a_al_mem (o := o) (x0 := x0) (lv := z0 :: z1 :: z2 :: z3 :: z4 :: z5 :: z6 :: z7 :: z8 :: z9 :: z10 :: z11 :: z12 :: z13 :: z14 :: some (.int x) :: t) (q := (15, .int x)) |>.mpr ⟨.int x, rfl, rfl⟩)
  exact lv_iinc C.1 C.2.1 d hl.has hk9 hv hn rfl (fun ls9 hl9 => k p l e s m args below meth c H locs cells slots D cA o x0 ls9 C K (a_lv.st1 (v := .int v) (a_s1_15 hb) hl9) hP hz hS ho h1 h2)
theorem a_s1_16 {z0 z1 z2 z3 z4 z5 z6 z7 z8 z9 z10 z11 z12 z13 z14 z15 : Option Value} {y : Option Value} {t : List (Option Value)} {v : Value} (hb : a_c1 z15 = true) : a_s1 16 v (z0 :: z1 :: z2 :: z3 :: z4 :: z5 :: z6 :: z7 :: z8 :: z9 :: z10 :: z11 :: z12 :: z13 :: z14 :: z15 :: y :: t) (z0 :: z1 :: z2 :: z3 :: z4 :: z5 :: z6 :: z7 :: z8 :: z9 :: z10 :: z11 :: z12 :: z13 :: z14 :: z15 :: some v :: t) := by
  intro j u hu
  match j, hu with
  | 0, hu => exact Or.inr ⟨by decide, hu, fun q => absurd q.1 (by decide)⟩
  | 1, hu => exact Or.inr ⟨by decide, hu, fun q => absurd q.1 (by decide)⟩
  | 2, hu => exact Or.inr ⟨by decide, hu, fun q => absurd q.1 (by decide)⟩
  | 3, hu => exact Or.inr ⟨by decide, hu, fun q => absurd q.1 (by decide)⟩
  | 4, hu => exact Or.inr ⟨by decide, hu, fun q => absurd q.1 (by decide)⟩
  | 5, hu => exact Or.inr ⟨by decide, hu, fun q => absurd q.1 (by decide)⟩
  | 6, hu => exact Or.inr ⟨by decide, hu, fun q => absurd q.1 (by decide)⟩
  | 7, hu => exact Or.inr ⟨by decide, hu, fun q => absurd q.1 (by decide)⟩
  | 8, hu => exact Or.inr ⟨by decide, hu, fun q => absurd q.1 (by decide)⟩
  | 9, hu => exact Or.inr ⟨by decide, hu, fun q => absurd q.1 (by decide)⟩
  | 10, hu => exact Or.inr ⟨by decide, hu, fun q => absurd q.1 (by decide)⟩
  | 11, hu => exact Or.inr ⟨by decide, hu, fun q => absurd q.1 (by decide)⟩
  | 12, hu => exact Or.inr ⟨by decide, hu, fun q => absurd q.1 (by decide)⟩
  | 13, hu => exact Or.inr ⟨by decide, hu, fun q => absurd q.1 (by decide)⟩
  | 14, hu => exact Or.inr ⟨by decide, hu, fun q => absurd q.1 (by decide)⟩
  | 15, hu => cases hu; exact Or.inr ⟨by decide, rfl, fun q => a_c1_of hb q.2⟩
  | 16, hu => cases hu; exact Or.inl ⟨rfl, rfl⟩
  | j + 17, hu => exact Or.inr ⟨by omega, hu, fun q => by omega⟩
theorem a_s2_16 {z0 z1 z2 z3 z4 z5 z6 z7 z8 z9 z10 z11 z12 z13 z14 z15 : Option Value} {y y2 : Option Value} {t : List (Option Value)} {v : Value} (hb : a_c1 z15 = true) : a_s2 16 v (z0 :: z1 :: z2 :: z3 :: z4 :: z5 :: z6 :: z7 :: z8 :: z9 :: z10 :: z11 :: z12 :: z13 :: z14 :: z15 :: y :: y2 :: t) (z0 :: z1 :: z2 :: z3 :: z4 :: z5 :: z6 :: z7 :: z8 :: z9 :: z10 :: z11 :: z12 :: z13 :: z14 :: z15 :: some v :: none :: t) := by
  intro j u hu
  match j, hu with
  | 0, hu => exact Or.inr ⟨by decide, by decide, hu, fun q => absurd q.1 (by decide)⟩
  | 1, hu => exact Or.inr ⟨by decide, by decide, hu, fun q => absurd q.1 (by decide)⟩
  | 2, hu => exact Or.inr ⟨by decide, by decide, hu, fun q => absurd q.1 (by decide)⟩
  | 3, hu => exact Or.inr ⟨by decide, by decide, hu, fun q => absurd q.1 (by decide)⟩
  | 4, hu => exact Or.inr ⟨by decide, by decide, hu, fun q => absurd q.1 (by decide)⟩
  | 5, hu => exact Or.inr ⟨by decide, by decide, hu, fun q => absurd q.1 (by decide)⟩
  | 6, hu => exact Or.inr ⟨by decide, by decide, hu, fun q => absurd q.1 (by decide)⟩
  | 7, hu => exact Or.inr ⟨by decide, by decide, hu, fun q => absurd q.1 (by decide)⟩
  | 8, hu => exact Or.inr ⟨by decide, by decide, hu, fun q => absurd q.1 (by decide)⟩
  | 9, hu => exact Or.inr ⟨by decide, by decide, hu, fun q => absurd q.1 (by decide)⟩
  | 10, hu => exact Or.inr ⟨by decide, by decide, hu, fun q => absurd q.1 (by decide)⟩
  | 11, hu => exact Or.inr ⟨by decide, by decide, hu, fun q => absurd q.1 (by decide)⟩
  | 12, hu => exact Or.inr ⟨by decide, by decide, hu, fun q => absurd q.1 (by decide)⟩
  | 13, hu => exact Or.inr ⟨by decide, by decide, hu, fun q => absurd q.1 (by decide)⟩
  | 14, hu => exact Or.inr ⟨by decide, by decide, hu, fun q => absurd q.1 (by decide)⟩
  | 15, hu => cases hu; exact Or.inr ⟨by decide, by decide, rfl, fun q => a_c1_of hb q.2⟩
  | 16, hu => cases hu; exact Or.inl ⟨rfl, rfl⟩
  | 17, hu => cases hu
  | j + 18, hu => exact Or.inr ⟨by omega, by omega, hu, fun q => by omega⟩
theorem R_istore_16 {z0 z1 z2 z3 z4 z5 z6 z7 z8 z9 z10 z11 z12 z13 z14 z15 : Option Value} {y : Option Value} {t : List (Option Value)} {x : Int32} (hb : a_c1 z15 = true) (hn : 16 < T.2.2.1) (d : decode T.2.1 pc = .ok (.istore 16, 2)) (k : R T r mc ms Q QX kc ks (pc + 2) (z0 :: z1 :: z2 :: z3 :: z4 :: z5 :: z6 :: z7 :: z8 :: z9 :: z10 :: z11 :: z12 :: z13 :: z14 :: z15 :: some (.int x) :: t) (st) S V) : R T r mc ms Q QX kc ks (pc) (z0 :: z1 :: z2 :: z3 :: z4 :: z5 :: z6 :: z7 :: z8 :: z9 :: z10 :: z11 :: z12 :: z13 :: z14 :: z15 :: y :: t) (.int x :: st) S V :=
  fun p l e s m args below meth c H locs cells slots D cA o x0 ls C K hl hP hz hS ho h1 h2 => lv_istore C.1 C.2.1 d hl.has hn rfl (fun ls9 hl9 => k p l e s m args below meth c H locs cells slots D cA o x0 ls9 C K (a_lv.st1 (v := .int x) (a_s1_16 hb) hl9) hP hz hS ho h1 h2)
theorem R_fstore_16 {z0 z1 z2 z3 z4 z5 z6 z7 z8 z9 z10 z11 z12 z13 z14 z15 : Option Value} {y : Option Value} {t : List (Option Value)} {x : UInt32} (hb : a_c1 z15 = true) (hn : 16 < T.2.2.1) (d : decode T.2.1 pc = .ok (.fstore 16, 2)) (k : R T r mc ms Q QX kc ks (pc + 2) (z0 :: z1 :: z2 :: z3 :: z4 :: z5 :: z6 :: z7 :: z8 :: z9 :: z10 :: z11 :: z12 :: z13 :: z14 :: z15 :: some (.float x) :: t) (st) S V) : R T r mc ms Q QX kc ks (pc) (z0 :: z1 :: z2 :: z3 :: z4 :: z5 :: z6 :: z7 :: z8 :: z9 :: z10 :: z11 :: z12 :: z13 :: z14 :: z15 :: y :: t) (.float x :: st) S V :=
  fun p l e s m args below meth c H locs cells slots D cA o x0 ls C K hl hP hz hS ho h1 h2 => lv_fstore C.1 C.2.1 d hl.has hn rfl (fun ls9 hl9 => k p l e s m args below meth c H locs cells slots D cA o x0 ls9 C K (a_lv.st1 (v := .float x) (a_s1_16 hb) hl9) hP hz hS ho h1 h2)
theorem R_astore_16 {z0 z1 z2 z3 z4 z5 z6 z7 z8 z9 z10 z11 z12 z13 z14 z15 : Option Value} {y : Option Value} {t : List (Option Value)} {x : Nat} (hb : a_c1 z15 = true) (hn : 16 < T.2.2.1) (d : decode T.2.1 pc = .ok (.astore 16, 2)) (k : R T r mc ms Q QX kc ks (pc + 2) (z0 :: z1 :: z2 :: z3 :: z4 :: z5 :: z6 :: z7 :: z8 :: z9 :: z10 :: z11 :: z12 :: z13 :: z14 :: z15 :: some (.ref x) :: t) (st) S V) : R T r mc ms Q QX kc ks (pc) (z0 :: z1 :: z2 :: z3 :: z4 :: z5 :: z6 :: z7 :: z8 :: z9 :: z10 :: z11 :: z12 :: z13 :: z14 :: z15 :: y :: t) (.ref x :: st) S V :=
  fun p l e s m args below meth c H locs cells slots D cA o x0 ls C K hl hP hz hS ho h1 h2 => lv_astore C.1 C.2.1 d hl.has hn rfl (fun ls9 hl9 => k p l e s m args below meth c H locs cells slots D cA o x0 ls9 C K (a_lv.st1 (v := .ref x) (a_s1_16 hb) hl9) hP hz hS ho h1 h2)
theorem R_lstore_16 {z0 z1 z2 z3 z4 z5 z6 z7 z8 z9 z10 z11 z12 z13 z14 z15 : Option Value} {y y2 : Option Value} {t : List (Option Value)} {x : Int64} (hb : a_c1 z15 = true) (hn : 16 + 1 < T.2.2.1) (d : decode T.2.1 pc = .ok (.lstore 16, 2)) (k : R T r mc ms Q QX kc ks (pc + 2) (z0 :: z1 :: z2 :: z3 :: z4 :: z5 :: z6 :: z7 :: z8 :: z9 :: z10 :: z11 :: z12 :: z13 :: z14 :: z15 :: some (.long x) :: none :: t) (st) S V) : R T r mc ms Q QX kc ks (pc) (z0 :: z1 :: z2 :: z3 :: z4 :: z5 :: z6 :: z7 :: z8 :: z9 :: z10 :: z11 :: z12 :: z13 :: z14 :: z15 :: y :: y2 :: t) (.long x :: st) S V :=
  fun p l e s m args below meth c H locs cells slots D cA o x0 ls C K hl hP hz hS ho h1 h2 => lv_lstore C.1 C.2.1 d hl.has hn rfl (fun ls9 hl9 => k p l e s m args below meth c H locs cells slots D cA o x0 ls9 C K (a_lv.st2 (v := .long x) (a_s2_16 hb) hl9) hP hz hS ho h1 h2)
theorem R_iinc_16 {z0 z1 z2 z3 z4 z5 z6 z7 z8 z9 z10 z11 z12 z13 z14 z15 : Option Value} {t : List (Option Value)} {n : Int} {x v : Int32} (hb : a_c1 z15 = true) (hn : 16 < T.2.2.1) (d : decode T.2.1 pc = .ok (.iinc 16 n, 3)) (hv : x + Int32.ofInt n = v) (k : R T r mc ms Q QX kc ks (pc + 3) (z0 :: z1 :: z2 :: z3 :: z4 :: z5 :: z6 :: z7 :: z8 :: z9 :: z10 :: z11 :: z12 :: z13 :: z14 :: z15 :: some (.int v) :: t) (st) S V) : R T r mc ms Q QX kc ks (pc) (z0 :: z1 :: z2 :: z3 :: z4 :: z5 :: z6 :: z7 :: z8 :: z9 :: z10 :: z11 :: z12 :: z13 :: z14 :: z15 :: some (.int x) :: t) (st) S V := by
  intro p l e s m args below meth c H locs cells slots D cA o x0 ls C K hl hP hz hS ho h1 h2
  obtain ⟨k9, hk9⟩ := List.getElem?_of_mem (a_al_mem (o := o) (x0 := x0) (lv := z0 :: z1 :: z2 :: z3 :: z4 :: z5 :: z6 :: z7 :: z8 :: z9 :: z10 :: z11 :: z12 :: z13 :: z14 :: z15 :: some (.int x) :: t) (q := (16, .int x)) |>.mpr ⟨.int x, rfl, rfl⟩)
  exact lv_iinc C.1 C.2.1 d hl.has hk9 hv hn rfl (fun ls9 hl9 => k p l e s m args below meth c H locs cells slots D cA o x0 ls9 C K (a_lv.st1 (v := .int v) (a_s1_16 hb) hl9) hP hz hS ho h1 h2)
theorem a_s1_17 {z0 z1 z2 z3 z4 z5 z6 z7 z8 z9 z10 z11 z12 z13 z14 z15 z16 : Option Value} {y : Option Value} {t : List (Option Value)} {v : Value} (hb : a_c1 z16 = true) : a_s1 17 v (z0 :: z1 :: z2 :: z3 :: z4 :: z5 :: z6 :: z7 :: z8 :: z9 :: z10 :: z11 :: z12 :: z13 :: z14 :: z15 :: z16 :: y :: t) (z0 :: z1 :: z2 :: z3 :: z4 :: z5 :: z6 :: z7 :: z8 :: z9 :: z10 :: z11 :: z12 :: z13 :: z14 :: z15 :: z16 :: some v :: t) := by
  intro j u hu
  match j, hu with
  | 0, hu => exact Or.inr ⟨by decide, hu, fun q => absurd q.1 (by decide)⟩
  | 1, hu => exact Or.inr ⟨by decide, hu, fun q => absurd q.1 (by decide)⟩
  | 2, hu => exact Or.inr ⟨by decide, hu, fun q => absurd q.1 (by decide)⟩
  | 3, hu => exact Or.inr ⟨by decide, hu, fun q => absurd q.1 (by decide)⟩
  | 4, hu => exact Or.inr ⟨by decide, hu, fun q => absurd q.1 (by decide)⟩
  | 5, hu => exact Or.inr ⟨by decide, hu, fun q => absurd q.1 (by decide)⟩
  | 6, hu => exact Or.inr ⟨by decide, hu, fun q => absurd q.1 (by decide)⟩
  | 7, hu => exact Or.inr ⟨by decide, hu, fun q => absurd q.1 (by decide)⟩
  | 8, hu => exact Or.inr ⟨by decide, hu, fun q => absurd q.1 (by decide)⟩
  | 9, hu => exact Or.inr ⟨by decide, hu, fun q => absurd q.1 (by decide)⟩
  | 10, hu => exact Or.inr ⟨by decide, hu, fun q => absurd q.1 (by decide)⟩
  | 11, hu => exact Or.inr ⟨by decide, hu, fun q => absurd q.1 (by decide)⟩
  | 12, hu => exact Or.inr ⟨by decide, hu, fun q => absurd q.1 (by decide)⟩
  | 13, hu => exact Or.inr ⟨by decide, hu, fun q => absurd q.1 (by decide)⟩
  | 14, hu => exact Or.inr ⟨by decide, hu, fun q => absurd q.1 (by decide)⟩
  | 15, hu => exact Or.inr ⟨by decide, hu, fun q => absurd q.1 (by decide)⟩
  | 16, hu => cases hu; exact Or.inr ⟨by decide, rfl, fun q => a_c1_of hb q.2⟩
  | 17, hu => cases hu; exact Or.inl ⟨rfl, rfl⟩
  | j + 18, hu => exact Or.inr ⟨by omega, hu, fun q => by omega⟩
theorem a_s2_17 {z0 z1 z2 z3 z4 z5 z6 z7 z8 z9 z10 z11 z12 z13 z14 z15 z16 : Option Value} {y y2 : Option Value} {t : List (Option Value)} {v : Value} (hb : a_c1 z16 = true) : a_s2 17 v (z0 :: z1 :: z2 :: z3 :: z4 :: z5 :: z6 :: z7 :: z8 :: z9 :: z10 :: z11 :: z12 :: z13 :: z14 :: z15 :: z16 :: y :: y2 :: t) (z0 :: z1 :: z2 :: z3 :: z4 :: z5 :: z6 :: z7 :: z8 :: z9 :: z10 :: z11 :: z12 :: z13 :: z14 :: z15 :: z16 :: some v :: none :: t) := by
  intro j u hu
  match j, hu with
  | 0, hu => exact Or.inr ⟨by decide, by decide, hu, fun q => absurd q.1 (by decide)⟩
  | 1, hu => exact Or.inr ⟨by decide, by decide, hu, fun q => absurd q.1 (by decide)⟩
  | 2, hu => exact Or.inr ⟨by decide, by decide, hu, fun q => absurd q.1 (by decide)⟩
  | 3, hu => exact Or.inr ⟨by decide, by decide, hu, fun q => absurd q.1 (by decide)⟩
  | 4, hu => exact Or.inr ⟨by decide, by decide, hu, fun q => absurd q.1 (by decide)⟩
  | 5, hu => exact Or.inr ⟨by decide, by decide, hu, fun q => absurd q.1 (by decide)⟩
  | 6, hu => exact Or.inr ⟨by decide, by decide, hu, fun q => absurd q.1 (by decide)⟩
  | 7, hu => exact Or.inr ⟨by decide, by decide, hu, fun q => absurd q.1 (by decide)⟩
  | 8, hu => exact Or.inr ⟨by decide, by decide, hu, fun q => absurd q.1 (by decide)⟩
  | 9, hu => exact Or.inr ⟨by decide, by decide, hu, fun q => absurd q.1 (by decide)⟩
  | 10, hu => exact Or.inr ⟨by decide, by decide, hu, fun q => absurd q.1 (by decide)⟩
  | 11, hu => exact Or.inr ⟨by decide, by decide, hu, fun q => absurd q.1 (by decide)⟩
  | 12, hu => exact Or.inr ⟨by decide, by decide, hu, fun q => absurd q.1 (by decide)⟩
  | 13, hu => exact Or.inr ⟨by decide, by decide, hu, fun q => absurd q.1 (by decide)⟩
  | 14, hu => exact Or.inr ⟨by decide, by decide, hu, fun q => absurd q.1 (by decide)⟩
  | 15, hu => exact Or.inr ⟨by decide, by decide, hu, fun q => absurd q.1 (by decide)⟩
  | 16, hu => cases hu; exact Or.inr ⟨by decide, by decide, rfl, fun q => a_c1_of hb q.2⟩
  | 17, hu => cases hu; exact Or.inl ⟨rfl, rfl⟩
  | 18, hu => cases hu
  | j + 19, hu => exact Or.inr ⟨by omega, by omega, hu, fun q => by omega⟩
theorem R_istore_17 {z0 z1 z2 z3 z4 z5 z6 z7 z8 z9 z10 z11 z12 z13 z14 z15 z16 : Option Value} {y : Option Value} {t : List (Option Value)} {x : Int32} (hb : a_c1 z16 = true) (hn : 17 < T.2.2.1) (d : decode T.2.1 pc = .ok (.istore 17, 2)) (k : R T r mc ms Q QX kc ks (pc + 2) (z0 :: z1 :: z2 :: z3 :: z4 :: z5 :: z6 :: z7 :: z8 :: z9 :: z10 :: z11 :: z12 :: z13 :: z14 :: z15 :: z16 :: some (.int x) :: t) (st) S V) : R T r mc ms Q QX kc ks (pc) (z0 :: z1 :: z2 :: z3 :: z4 :: z5 :: z6 :: z7 :: z8 :: z9 :: z10 :: z11 :: z12 :: z13 :: z14 :: z15 :: z16 :: y :: t) (.int x :: st) S V :=
  fun p l e s m args below meth c H locs cells slots D cA o x0 ls C K hl hP hz hS ho h1 h2 => lv_istore C.1 C.2.1 d hl.has hn rfl (fun ls9 hl9 => k p l e s m args below meth c H locs cells slots D cA o x0 ls9 C K (a_lv.st1 (v := .int x) (a_s1_17 hb) hl9) hP hz hS ho h1 h2)
theorem R_fstore_17 {z0 z1 z2 z3 z4 z5 z6 z7 z8 z9 z10 z11 z12 z13 z14 z15 z16 : Option Value} {y : Option Value} {t : List (Option Value)} {x : UInt32} (hb : a_c1 z16 = true) (hn : 17 < T.2.2.1) (d : decode T.2.1 pc = .ok (.fstore 17, 2)) (k : R T r mc ms Q QX kc ks (pc + 2) (z0 :: z1 :: z2 :: z3 :: z4 :: z5 :: z6 :: z7 :: z8 :: z9 :: z10 :: z11 :: z12 :: z13 :: z14 :: z15 :: z16 :: some (.float x) :: t) (st) S V) : R T r mc ms Q QX kc ks (pc) (z0 :: z1 :: z2 :: z3 :: z4 :: z5 :: z6 :: z7 :: z8 :: z9 :: z10 :: z11 :: z12 :: z13 :: z14 :: z15 :: z16 :: y :: t) (.float x :: st) S V :=
  fun p l e s m args below meth c H locs cells slots D cA o x0 ls C K hl hP hz hS ho h1 h2 => lv_fstore C.1 C.2.1 d hl.has hn rfl (fun ls9 hl9 => k p l e s m args below meth c H locs cells slots D cA o x0 ls9 C K (a_lv.st1 (v := .float x) (a_s1_17 hb) hl9) hP hz hS ho h1 h2)
theorem R_astore_17 {z0 z1 z2 z3 z4 z5 z6 z7 z8 z9 z10 z11 z12 z13 z14 z15 z16 : Option Value} {y : Option Value} {t : List (Option Value)} {x : Nat} (hb : a_c1 z16 = true) (hn : 17 < T.2.2.1) (d : decode T.2.1 pc = .ok (.astore 17, 2)) (k : R T r mc ms Q QX kc ks (pc + 2) (z0 :: z1 :: z2 :: z3 :: z4 :: z5 :: z6 :: z7 :: z8 :: z9 :: z10 :: z11 :: z12 :: z13 :: z14 :: z15 :: z16 :: some (.ref x) :: t) (st) S V) : R T r mc ms Q QX kc ks (pc) (z0 :: z1 :: z2 :: z3 :: z4 :: z5 :: z6 :: z7 :: z8 :: z9 :: z10 :: z11 :: z12 :: z13 :: z14 :: z15 :: z16 :: y :: t) (.ref x :: st) S V :=
  fun p l e s m args below meth c H locs cells slots D cA o x0 ls C K hl hP hz hS ho h1 h2 => lv_astore C.1 C.2.1 d hl.has hn rfl (fun ls9 hl9 => k p l e s m args below meth c H locs cells slots D cA o x0 ls9 C K (a_lv.st1 (v := .ref x) (a_s1_17 hb) hl9) hP hz hS ho h1 h2)
theorem R_lstore_17 {z0 z1 z2 z3 z4 z5 z6 z7 z8 z9 z10 z11 z12 z13 z14 z15 z16 : Option Value} {y y2 : Option Value} {t : List (Option Value)} {x : Int64} (hb : a_c1 z16 = true) (hn : 17 + 1 < T.2.2.1) (d : decode T.2.1 pc = .ok (.lstore 17, 2)) (k : R T r mc ms Q QX kc ks (pc + 2) (z0 :: z1 :: z2 :: z3 :: z4 :: z5 :: z6 :: z7 :: z8 :: z9 :: z10 :: z11 :: z12 :: z13 :: z14 :: z15 :: z16 :: some (.long x) :: none :: t) (st) S V) : R T r mc ms Q QX kc ks (pc) (z0 :: z1 :: z2 :: z3 :: z4 :: z5 :: z6 :: z7 :: z8 :: z9 :: z10 :: z11 :: z12 :: z13 :: z14 :: z15 :: z16 :: y :: y2 :: t) (.long x :: st) S V :=
  fun p l e s m args below meth c H locs cells slots D cA o x0 ls C K hl hP hz hS ho h1 h2 => lv_lstore C.1 C.2.1 d hl.has hn rfl (fun ls9 hl9 => k p l e s m args below meth c H locs cells slots D cA o x0 ls9 C K (a_lv.st2 (v := .long x) (a_s2_17 hb) hl9) hP hz hS ho h1 h2)
theorem R_iinc_17 {z0 z1 z2 z3 z4 z5 z6 z7 z8 z9 z10 z11 z12 z13 z14 z15 z16 : Option Value} {t : List (Option Value)} {n : Int} {x v : Int32} (hb : a_c1 z16 = true) (hn : 17 < T.2.2.1) (d : decode T.2.1 pc = .ok (.iinc 17 n, 3)) (hv : x + Int32.ofInt n = v) (k : R T r mc ms Q QX kc ks (pc + 3) (z0 :: z1 :: z2 :: z3 :: z4 :: z5 :: z6 :: z7 :: z8 :: z9 :: z10 :: z11 :: z12 :: z13 :: z14 :: z15 :: z16 :: some (.int v) :: t) (st) S V) : R T r mc ms Q QX kc ks (pc) (z0 :: z1 :: z2 :: z3 :: z4 :: z5 :: z6 :: z7 :: z8 :: z9 :: z10 :: z11 :: z12 :: z13 :: z14 :: z15 :: z16 :: some (.int x) :: t) (st) S V := by
  intro p l e s m args below meth c H locs cells slots D cA o x0 ls C K hl hP hz hS ho h1 h2
  obtain ⟨k9, hk9⟩ := List.getElem?_of_mem (a_al_mem (o := o) (x0 := x0) (lv := z0 :: z1 :: z2 :: z3 :: z4 :: z5 :: z6 :: z7 :: z8 :: z9 :: z10 :: z11 :: z12 :: z13 :: z14 :: z15 :: z16 :: some (.int x) :: t) (q := (17, .int x)) |>.mpr ⟨.int x, rfl, rfl⟩)
  exact lv_iinc C.1 C.2.1 d hl.has hk9 hv hn rfl (fun ls9 hl9 => k p l e s m args below meth c H locs cells slots D cA o x0 ls9 C K (a_lv.st1 (v := .int v) (a_s1_17 hb) hl9) hP hz hS ho h1 h2)
theorem R_less {kc' ks' : Nat} (h1 : kc' ≤ kc) (h2 : ks' ≤ ks) (k : R T r mc ms Q QX kc' ks' pc lv st S V) : R T r mc ms Q QX kc ks pc lv st S V :=
  fun p l e s m args below meth c H locs cells slots D cA o x0 ls C K hl hP hz hS ho h1 h2 => k p l e s m args below meth c H locs cells slots D cA o x0 ls C K hl hP hz hS ho (by omega) (by omega)
theorem R_drop_12 {z0 z1 z2 z3 z4 z5 z6 z7 z8 z9 z10 z11 : Option Value} {y : Option Value} {t : List (Option Value)} (k : R T r mc ms Q QX kc ks (pc) (z0 :: z1 :: z2 :: z3 :: z4 :: z5 :: z6 :: z7 :: z8 :: z9 :: z10 :: z11 :: none :: t) (st) S V) : R T r mc ms Q QX kc ks (pc) (z0 :: z1 :: z2 :: z3 :: z4 :: z5 :: z6 :: z7 :: z8 :: z9 :: z10 :: z11 :: y :: t) (st) S V := by
  refine R_lv (fun j v h => ?_) k
  match j, h with
  | 0, h => exact h
  | 1, h => exact h
  | 2, h => exact h
  | 3, h => exact h
  | 4, h => exact h
  | 5, h => exact h
  | 6, h => exact h
  | 7, h => exact h
  | 8, h => exact h
  | 9, h => exact h
  | 10, h => exact h
  | 11, h => exact h
  | 12, h => cases h
  | j + 13, h => exact h
theorem R_drop_13 {z0 z1 z2 z3 z4 z5 z6 z7 z8 z9 z10 z11 z12 : Option Value} {y : Option Value} {t : List (Option Value)} (k : R T r mc ms Q QX kc ks (pc) (z0 :: z1 :: z2 :: z3 :: z4 :: z5 :: z6 :: z7 :: z8 :: z9 :: z10 :: z11 :: z12 :: none :: t) (st) S V) : R T r mc ms Q QX kc ks (pc) (z0 :: z1 :: z2 :: z3 :: z4 :: z5 :: z6 :: z7 :: z8 :: z9 :: z10 :: z11 :: z12 :: y :: t) (st) S V := by
  refine R_lv (fun j v h => ?_) k
  match j, h with
  | 0, h => exact h
  | 1, h => exact h
  | 2, h => exact h
  | 3, h => exact h
  | 4, h => exact h
  | 5, h => exact h
  | 6, h => exact h
  | 7, h => exact h
  | 8, h => exact h
  | 9, h => exact h
  | 10, h => exact h
  | 11, h => exact h
  | 12, h => exact h
  | 13, h => cases h
  | j + 14, h => exact h
theorem R_drop_14 {z0 z1 z2 z3 z4 z5 z6 z7 z8 z9 z10 z11 z12 z13 : Option Value} {y : Option Value} {t : List (Option Value)} (k : R T r mc ms Q QX kc ks (pc) (z0 :: z1 :: z2 :: z3 :: z4 :: z5 :: z6 :: z7 :: z8 :: z9 :: z10 :: z11 :: z12 :: z13 :: none :: t) (st) S V) : R T r mc ms Q QX kc ks (pc) (z0 :: z1 :: z2 :: z3 :: z4 :: z5 :: z6 :: z7 :: z8 :: z9 :: z10 :: z11 :: z12 :: z13 :: y :: t) (st) S V := by
  refine R_lv (fun j v h => ?_) k
  match j, h with
  | 0, h => exact h
  | 1, h => exact h
  | 2, h => exact h
  | 3, h => exact h
  | 4, h => exact h
  | 5, h => exact h
  | 6, h => exact h
  | 7, h => exact h
  | 8, h => exact h
  | 9, h => exact h
  | 10, h => exact h
  | 11, h => exact h
  | 12, h => exact h
  | 13, h => exact h
  | 14, h => cases h
  | j + 15, h => exact h
theorem R_drop_15 {z0 z1 z2 z3 z4 z5 z6 z7 z8 z9 z10 z11 z12 z13 z14 : Option Value} {y : Option Value} {t : List (Option Value)} (k : R T r mc ms Q QX kc ks (pc) (z0 :: z1 :: z2 :: z3 :: z4 :: z5 :: z6 :: z7 :: z8 :: z9 :: z10 :: z11 :: z12 :: z13 :: z14 :: none :: t) (st) S V) : R T r mc ms Q QX kc ks (pc) (z0 :: z1 :: z2 :: z3 :: z4 :: z5 :: z6 :: z7 :: z8 :: z9 :: z10 :: z11 :: z12 :: z13 :: z14 :: y :: t) (st) S V := by
  refine R_lv (fun j v h => ?_) k
  match j, h with
  | 0, h => exact h
  | 1, h => exact h
  | 2, h => exact h
  | 3, h => exact h
  | 4, h => exact h
  | 5, h => exact h
  | 6, h => exact h
  | 7, h => exact h
  | 8, h => exact h
  | 9, h => exact h
  | 10, h => exact h
  | 11, h => exact h
  | 12, h => exact h
  | 13, h => exact h
  | 14, h => exact h
  | 15, h => cases h
  | j + 16, h => exact h
theorem R_drop_16 {z0 z1 z2 z3 z4 z5 z6 z7 z8 z9 z10 z11 z12 z13 z14 z15 : Option Value} {y : Option Value} {t : List (Option Value)} (k : R T r mc ms Q QX kc ks (pc) (z0 :: z1 :: z2 :: z3 :: z4 :: z5 :: z6 :: z7 :: z8 :: z9 :: z10 :: z11 :: z12 :: z13 :: z14 :: z15 :: none :: t) (st) S V) : R T r mc ms Q QX kc ks (pc) (z0 :: z1 :: z2 :: z3 :: z4 :: z5 :: z6 :: z7 :: z8 :: z9 :: z10 :: z11 :: z12 :: z13 :: z14 :: z15 :: y :: t) (st) S V := by
  refine R_lv (fun j v h => ?_) k
  match j, h with
  | 0, h => exact h
  | 1, h => exact h
  | 2, h => exact h
  | 3, h => exact h
  | 4, h => exact h
  | 5, h => exact h
  | 6, h => exact h
  | 7, h => exact h
  | 8, h => exact h
  | 9, h => exact h
  | 10, h => exact h
  | 11, h => exact h
  | 12, h => exact h
  | 13, h => exact h
  | 14, h => exact h
  | 15, h => exact h
  | 16, h => cases h
  | j + 17, h => exact h
theorem R_drop_17 {z0 z1 z2 z3 z4 z5 z6 z7 z8 z9 z10 z11 z12 z13 z14 z15 z16 : Option Value} {y : Option Value} {t : List (Option Value)} (k : R T r mc ms Q QX kc ks (pc) (z0 :: z1 :: z2 :: z3 :: z4 :: z5 :: z6 :: z7 :: z8 :: z9 :: z10 :: z11 :: z12 :: z13 :: z14 :: z15 :: z16 :: none :: t) (st) S V) : R T r mc ms Q QX kc ks (pc) (z0 :: z1 :: z2 :: z3 :: z4 :: z5 :: z6 :: z7 :: z8 :: z9 :: z10 :: z11 :: z12 :: z13 :: z14 :: z15 :: z16 :: y :: t) (st) S V := by
  refine R_lv (fun j v h => ?_) k
  match j, h with
  | 0, h => exact h
  | 1, h => exact h
  | 2, h => exact h
  | 3, h => exact h
  | 4, h => exact h
  | 5, h => exact h
  | 6, h => exact h
  | 7, h => exact h
  | 8, h => exact h
  | 9, h => exact h
  | 10, h => exact h
  | 11, h => exact h
  | 12, h => exact h
  | 13, h => exact h
  | 14, h => exact h
  | 15, h => exact h
  | 16, h => exact h
  | 17, h => cases h
  | j + 18, h => exact h
end LROWS
