/-! ===== constant texts; wide constants; a contract weakened ===== -/
section ASTR
variable {T : aMt} {r mc ms : Nat} {Q : Option Value → aS → aV → Prop} {QX : String → aS → aV → Prop} {kc ks pc : Nat} {lv : List (Option Value)} {st : List Value} {S : aS} {V : aV}
theorem CT_mono {As : List Value} {Q2 : Option Value → aS → aV → Prop} {QX2 : String → aS → aV → Prop} (h : CT T r mc ms As S V Q QX) (hq : ∀ v S' V', Q v S' V' → Q2 v S' V') (hx : ∀ E S' V', QX E S' V' → QX2 E S' V') : CT T r mc ms As S V Q2 QX2 := by
  intro l hl o x0 cA D p e ha hc hk s m args below hf happ hP hK
  obtain ⟨n, oc, h1, h2, h3, h4⟩ := h l hl o x0 cA D p e ha hc hk s m args below hf happ hP hK
  refine ⟨n, oc, h1, h2, h3, ?_⟩
  rcases h4 with ⟨⟨⟨v, S', V', e1, q, b⟩, f⟩, g⟩ | ⟨q, e1, E, ce, L, ⟨⟨S', V', q2, b⟩, f⟩, rest⟩
  · exact Or.inl ⟨⟨⟨v, S', V', e1, hq _ _ _ q, b⟩, f⟩, g⟩
  · exact Or.inr ⟨q, e1, E, ce, L, ⟨⟨S', V', hx _ _ _ q2, b⟩, f⟩, rest⟩
theorem R_ldcw {idx : Nat} {v : Int32} (hw : Cond.constant T.1.cls idx v ∈ aT) (d : decode T.2.1 pc = .ok (.ldc_w idx, 3)) (k : R T r mc ms Q QX (kc) (ks) (pc + 3) (lv) (.int v :: st) S V) : R T r mc ms Q QX (kc) (ks) (pc) (lv) (st) S V :=
  fun p l e s m args below meth c H locs cells slots D cA o x0 ls C K hl hP hz hS ho h1 h2 => lv_ldcw C.1 C.2.1 C.2.2.2.1 (C.2.2.2.2.1 _ hw) d (k p l e s m args below meth c H locs cells slots D cA o x0 ls C K hl hP hz hS ho h1 h2)
theorem R_ldcwf {idx : Nat} {v : UInt32} (hw : Cond.constantFloat T.1.cls idx v ∈ aT) (d : decode T.2.1 pc = .ok (.ldc_w idx, 3)) (k : R T r mc ms Q QX (kc) (ks) (pc + 3) (lv) (.float v :: st) S V) : R T r mc ms Q QX (kc) (ks) (pc) (lv) (st) S V := by
  intro p l e s m args below meth c H locs cells slots D cA o x0 ls C K hl hP hz hS ho h1 h2 Tt hT X
  obtain ⟨t, a, b⟩ := k p l e s m args below meth c H locs cells slots D cA o x0 ls C K hl hP hz hS ho h1 h2 Tt hT X
  refine ⟨t, ?_, b⟩
  obtain ⟨k9, cf, hk, hcf, hcp⟩ := Cond.constantFloat_spec C.2.2.2.1 (C.2.2.2.2.1 _ hw)
  obtain ⟨k', hk', he⟩ := X.warmed.alike.2.2 _ _ hk
  jvm_step X.here [C.1, C.2.1, d, ldc_w.wp_float (s := Tt) (f := F0 m pc ls (st.map (a_v o x0))) X.here.top hk' (by rw [he]; exact hcf) hcp]
  exact a
theorem R_i2b {x : Int32} (d : decode T.2.1 pc = .ok (.i2b, 1)) (k : R T r mc ms Q QX (kc) (ks) (pc + 1) (lv) (.int x.toInt8.toInt32 :: st) S V) : R T r mc ms Q QX (kc) (ks) (pc) (lv) (.int x :: st) S V :=
  fun p l e s m args below meth c H locs cells slots D cA o x0 ls C K hl hP hz hS ho h1 h2 => lv_i2b C.1 C.2.1 d rfl (k p l e s m args below meth c H locs cells slots D cA o x0 ls C K hl hP hz hS ho h1 h2)
theorem R_ldcF {idx : Nat} (hw : Cond.stringRef T.1.cls idx "nshzpm" ∈ aR) (d : decode T.2.1 pc = .ok (.ldc idx, 2)) (k : R T r mc ms Q QX (kc) (ks) (pc + 2) (lv) (.retAddr 0 :: st) S V) : R T r mc ms Q QX (kc) (ks) (pc) (lv) (st) S V :=
  fun p l e s m args below meth c H locs cells slots D cA o x0 ls C K hl hP hz hS ho h1 h2 => va_ldcS C.1 C.2.1 C.2.2.2.1 (K.2.2.2.2.2.2.2 _ _ hw) d (k p l e s m args below meth c H locs cells slots D cA o x0 ls C K hl hP hz hS ho h1 h2)
theorem R_sval {idx : Nat} (hw : Cond.fieldLink T.1.cls idx "java/lang/String" "value" "[B" ∈ aT) (d : decode T.2.1 pc = .ok (.getfield idx, 3)) (k : R T r mc ms Q QX (kc) (ks) (pc + 3) (lv) (.retAddr 1 :: st) S V) : R T r mc ms Q QX (kc) (ks) (pc) (lv) (.retAddr 0 :: st) S V :=
  fun p l e s m args below meth c H locs cells slots D cA o x0 ls C K hl hP hz hS ho h1 h2 => vk_getf C.1 C.2.1 (K.2.2.2.2.2.1.1 0 (by decide)).2.2.1 hS C.2.2.2.1 (C.2.2.2.2.1 _ hw) (fun _ h => h) d (k p l e s m args below meth c H locs cells slots D cA o x0 ls C K hl hP hz hS ho h1 h2)
theorem R_scod {idx : Nat} (hw : Cond.fieldLink T.1.cls idx "java/lang/String" "coder" "B" ∈ aT) (d : decode T.2.1 pc = .ok (.getfield idx, 3)) (k : R T r mc ms Q QX (kc) (ks) (pc + 3) (lv) (.int 0 :: st) S V) : R T r mc ms Q QX (kc) (ks) (pc) (lv) (.retAddr 0 :: st) S V :=
  fun p l e s m args below meth c H locs cells slots D cA o x0 ls C K hl hP hz hS ho h1 h2 => vk_getf C.1 C.2.1 (K.2.2.2.2.2.1.1 0 (by decide)).2.1 hS C.2.2.2.1 (C.2.2.2.2.1 _ hw) (fun _ h => h) d (k p l e s m args below meth c H locs cells slots D cA o x0 ls C K hl hP hz hS ho h1 h2)
theorem R_scomp {idx : Nat} (hw : Cond.fieldLink T.1.cls idx "java/lang/String" "COMPACT_STRINGS" "Z" ∈ aT) (d : decode T.2.1 pc = .ok (.getstatic idx, 3)) (k : R T r mc ms Q QX (kc) (ks) (pc + 3) (lv) (.int 1 :: st) S V) : R T r mc ms Q QX (kc) (ks) (pc) (lv) (st) S V :=
  fun p l e s m args below meth c H locs cells slots D cA o x0 ls C K hl hP hz hS ho h1 h2 => va_gets C.1 C.2.1 K.2.2.2.2.2.2.1.1 hS C.2.2.2.1 (C.2.2.2.2.1 _ hw) (fun _ h => h) d (k p l e s m args below meth c H locs cells slots D cA o x0 ls C K hl hP hz hS ho h1 h2)
def aFt : List Int32 := [110, 115, 104, 122, 112, 109]
theorem R_stb {i : Int32} (hi : vp_in i 6) (d : decode T.2.1 pc = .ok (.baload, 1)) (k : R T r mc ms Q QX (kc) (ks) (pc + 1) (lv) (.int (aFt.getD i.toNatClampNeg 0) :: st) S V) : R T r mc ms Q QX (kc) (ks) (pc) (lv) (.int i :: .retAddr 1 :: st) S V :=
  fun p l e s m args below meth c H locs cells slots D cA o x0 ls C K hl hP hz hS ho h1 h2 => va_tb C.1 C.2.1 (K.2.2.2.2.2.1.1 0 (by decide)).2.2.2 hS hi rfl d (k p l e s m args below meth c H locs cells slots D cA o x0 ls C K hl hP hz hS ho h1 h2)
theorem R_stl (d : decode T.2.1 pc = .ok (.arraylength, 1)) (k : R T r mc ms Q QX (kc) (ks) (pc + 1) (lv) (.int 6 :: st) S V) : R T r mc ms Q QX (kc) (ks) (pc) (lv) (.retAddr 1 :: st) S V :=
  fun p l e s m args below meth c H locs cells slots D cA o x0 ls C K hl hP hz hS ho h1 h2 => va_tlen C.1 C.2.1 (K.2.2.2.2.2.1.1 0 (by decide)).2.2.2 hS rfl d (k p l e s m args below meth c H locs cells slots D cA o x0 ls C K hl hP hz hS ho h1 h2)
theorem R_callVT_e {T' : aMt} {r' mc' ms' idx n : Nat} {As stk : List Value} {v1 : Option Value} {S1 : aS} {V1 : aV} (hok : aOKi T' n) (hcl : T'.1.cls = "java/lang/String") (hw : Cond.methodLink T.1.cls idx T'.1 ∈ aT) (ct : CT T' r' mc' ms' (.retAddr 0 :: As) S V (aRet v1 S1 V1) aNo) (hn : As.length = n) (hrr : r' + 1 ≤ r) (hml : T'.2.2.1 ≤ 21) (hst : (st.map fun v => v.category).sum ≤ 8) (d : decode T.2.1 pc = .ok (.invokevirtual idx, 3)) (k : R T r mc ms Q QX kc ks (pc + 3) lv (v1.toList ++ st) S1 V1) (hk : stk = As.reverse ++ .retAddr 0 :: st := by rfl) : R T r mc ms Q QX (kc + mc') (ks + ms') (pc) (lv) (stk) S V := by
  intro p l e s m args below meth c H locs cells slots D cA o x0 ls C K hl hP hz hS ho h1 h2
  refine R_ran (Q' := aRet v1 S1 V1) (QX' := aNo) (as' := (Value.ref (x0 0) :: As.map (a_v o x0)).toArray) C K hl hS ho h1 h2 ?_ (fun v S' V' h => by obtain ⟨rfl, rfl, rfl⟩ := h; exact k) (fun E S' V' h => h.elim)
  have hG : GoodIn aT (wsV T.1.cls idx T'.1.cls T'.1 (.code T'.1 T'.2.1 T'.2.2.1 T'.2.2.2 :: aT)) := by
    intro w' hw'
    rcases List.mem_append.mp hw' with h | h
    · simp only [List.mem_cons, List.not_mem_nil, or_false] at h
      rcases h with rfl | rfl | rfl | rfl
      · exact aT_good _ hw
      · exact aT_good _ hok.2.1
      · exact aT_good _ hok.2.2
      · exact aT_good _ hok.1.2.2.2.1
    · exact aG hok.1.2.2.2.2 w' h
  exact vx_runV (As := As.map (a_v o x0)) (b := x0 0) (C := T'.1.cls) (n := n) C.fix (ct l C.2.2.2.2.2.2.2.2.2 o x0 cA D) (cwV n C.2.2.2.2.1 hG rfl rfl rfl ⟨rfl, hok.1.1, hok.1.2.1, hok.1.2.2.1⟩ ⟨hrr, by show 8 + (T'.2.2.1 + 11) + 40 * r' ≤ 40 * r; omega⟩) ⟨a_blind, by rw [hcl]; exact vk_recv (N := 1) (len := [6]) (byt := [[110, 115, 104, 122, 112, 109]]) (adK := fun _ => x0 0) (adV := fun _ => x0 1) (i := 0) K.2.2.2.2.2.1 (by decide) hS, fun U hU hW => ⟨rfl, by rw [hU]; exact Nat.le_trans ho hS.1, by rw [hU]; exact hP, by rw [hU]; exact hz, a_K.warm hW (fun q hq hq2 => by rw [hU]; exact hS.2.1 q hq hq2) K⟩⟩ rfl (by rw [List.length_map]; exact hn) hl.1 (by rw [hk]; simp [a_v]) (lv_room (by rw [a_cats]; exact hst)) d ⟨by show cells + mc' ≤ mc; omega, by show slots + ms' ≤ ms; omega⟩
theorem R_callSO_e {T' : aMt} {r' mc' ms' idx n : Nat} {As stk : List Value} {v1 : Option Value} {S1 : aS} {V1 : aV} (hok : aOKs T' n) (hw : Cond.methodLink T.1.cls idx T'.1 ∈ aT) (ct : CT T' r' mc' ms' As S V (aRet v1 S1 V1) aNo) (hn : As.length = n) (hrr : r' + 1 ≤ r) (hml : T'.2.2.1 ≤ 21) (hst : (st.map fun v => v.category).sum ≤ 8) (d : decode T.2.1 pc = .ok (.invokestatic idx, 3)) (k : R T r mc ms Q QX kc ks (pc + 3) lv (v1.toList ++ st) S1 V1) (hk : stk = As.reverse ++ st := by rfl) : R T r mc ms Q QX (kc + mc') (ks + ms') (pc) (lv) (stk) S V := by
  intro p l e s m args below meth c H locs cells slots D cA o x0 ls C K hl hP hz hS ho h1 h2
  refine R_ran (Q' := aRet v1 S1 V1) (QX' := aNo) (as' := (As.map (a_v o x0)).toArray) C K hl hS ho h1 h2 ?_ (fun v S' V' h => by obtain ⟨rfl, rfl, rfl⟩ := h; exact k) (fun E S' V' h => h.elim)
  have hG : GoodIn aT (va_wsS T.1.cls idx T'.1 (.code T'.1 T'.2.1 T'.2.2.1 T'.2.2.2 :: aT)) := by
    intro w' hw'
    rcases List.mem_append.mp hw' with h | h
    · simp only [List.mem_cons, List.not_mem_nil, or_false] at h
      rcases h with rfl | rfl | rfl
      · exact aT_good _ hw
      · exact aT_good _ hok.2
      · exact aT_good _ hok.1.2.2.2.1
    · exact aG hok.1.2.2.2.2 w' h
  exact vx_runS (As := As.map (a_v o x0)) (n := n) C.fix (ct l C.2.2.2.2.2.2.2.2.2 o x0 cA D) (va_cwS n C.2.2.2.2.1 hG rfl rfl rfl ⟨hok.1.1, hok.1.2.1, hok.1.2.2.1⟩ ⟨hrr, by show 8 + (T'.2.2.1 + 11) + 40 * r' ≤ 40 * r; omega⟩) ⟨a_blind, fun U hU hW => ⟨rfl, by rw [hU]; exact Nat.le_trans ho hS.1, by rw [hU]; exact hP, by rw [hU]; exact hz, a_K.warm hW (fun q hq hq2 => by rw [hU]; exact hS.2.1 q hq hq2) K⟩⟩ rfl (by rw [List.length_map]; exact hn) hl.1 (by rw [hk]; simp [a_v]) (lv_room (by rw [a_cats]; exact hst)) d ⟨by show cells + mc' ≤ mc; omega, by show slots + ms' ≤ ms; omega⟩
theorem R_throwW {cls text : String} {ik is ic : Nat} {names : List String} (hl2 : names.length = 2) (hnm : ∀ n ∈ names, Bundle.fit n = true) (hcls : Bundle.fit cls = true) (hk : Cond.classLink T.1.cls ik cls ∈ aT) (hini : Cond.initialized cls ∈ aT) (hstr : Cond.stringRef T.1.cls is text ∈ aR)
    (hat : ∀ w ∈ (vx_atS T.1.cls ic cls names).filter goodWord, w ∈ aT) (hat2 : ∀ w ∈ (vx_atS T.1.cls ic cls names).filter (fun w => !goodWord w), w ∈ aN ∧ w.onTables = true)
    (hgood : ∀ w ∈ Cond.classLink T.1.cls ik cls :: Cond.initialized cls :: vx_atS T.1.cls ic cls names, vx_ot w = true)
    (d0 : decode T.2.1 pc = .ok (.new ik, 3)) (d3 : decode T.2.1 (pc + 3) = .ok (.dup, 1)) (d4 : decode T.2.1 (pc + 4) = .ok (.ldc_w is, 3)) (d6 : decode T.2.1 (pc + 7) = .ok (.invokespecial ic, 3)) (d9 : decode T.2.1 (pc + 10) = .ok (.athrow, 1))
    (hr : 6 ≤ r) (hst : (st.map fun v => v.category).sum ≤ 8) (hS2 : S.2 = none) (hq : QX cls S V) : R T r mc ms Q QX (kc + 1) (ks + 6) (pc) (lv) (st) S V := by
  intro p l e s m args below meth c H locs cells slots D cA o x0 ls C K hl hP hz hS ho h1 h2
  obtain ⟨sa, hsa⟩ := K.2.2.1 _ _ _ hstr
  refine vx_throwSW (names := names) (A := fun q => o ≤ q) C.1 C.2.1 C.2.2.2.2.2.2.2.2.2 C.2.2.2.1 hcls hnm (C.2.2.2.2.1 _ hk) (C.2.2.2.2.1 _ hini) hsa (fun w hw => ?_) hgood K.2.2.2.1 K.2.2.2.2.1 hS (hl.1.trans C.2.2.1.symm) d0 d3 d4 d6 d9 (fun x hx => (C.2.2.2.2.2.2.2.2.1 x hx).elim) (by rw [hl2]; exact hr) (by rw [a_cats, hl2]; show _ ≤ 40 * r; omega) (by show cells + 1 ≤ mc; omega) (by show slots + 6 ≤ ms; omega) C.2.2.2.2.2.2.1 (fun t _ hsz hkp => ?_) hS.2.2 (by omega) (by omega)
  · by_cases g : goodWord w = true
    · exact C.2.2.2.2.1 _ (hat w (List.mem_filter.mpr ⟨hw, g⟩))
    · have g2 : (!goodWord w) = true := by cases hgw : goodWord w; rfl; exact absurd hgw g
      obtain ⟨q1, q2⟩ := hat2 w (List.mem_filter.mpr ⟨hw, g2⟩)
      exact va_Nw.use q2 (K.2.1 _ q1)
  · refine ⟨⟨S, V, hq, hP.kept hkp, fun n hn => ?_⟩, Nat.le_trans hS.1 hsz, fun q hq1 hq2 => (hkp q (Nat.lt_of_lt_of_le hq1 hS.1)).trans (hS.2.1 q hq1 hq2)⟩
    rw [hS2] at hn; cases hn
theorem R_tload_0 {t : List (Option Value)} {x : Nat} (d : decode T.2.1 pc = .ok (.aload_n 0, 1)) (k : R T r mc ms Q QX (kc) (ks) (pc + 1) (some (.retAddr x) :: t) (.retAddr x :: st) S V) : R T r mc ms Q QX (kc) (ks) (pc) (some (.retAddr x) :: t) (st) S V :=
  fun p l e s m args below meth c H locs cells slots D cA o x0 ls C K hl hP hz hS ho h1 h2 => lv_aload_n C.1 C.2.1 d rfl (hl.2.2 0 _ rfl) (k p l e s m args below meth c H locs cells slots D cA o x0 ls C K hl hP hz hS ho h1 h2)
theorem R_tload_1 {z0 : Option Value} {t : List (Option Value)} {x : Nat} (d : decode T.2.1 pc = .ok (.aload_n 1, 1)) (k : R T r mc ms Q QX (kc) (ks) (pc + 1) (z0 :: some (.retAddr x) :: t) (.retAddr x :: st) S V) : R T r mc ms Q QX (kc) (ks) (pc) (z0 :: some (.retAddr x) :: t) (st) S V :=
  fun p l e s m args below meth c H locs cells slots D cA o x0 ls C K hl hP hz hS ho h1 h2 => lv_aload_n C.1 C.2.1 d rfl (hl.2.2 1 _ rfl) (k p l e s m args below meth c H locs cells slots D cA o x0 ls C K hl hP hz hS ho h1 h2)
theorem R_tload_2 {z0 z1 : Option Value} {t : List (Option Value)} {x : Nat} (d : decode T.2.1 pc = .ok (.aload_n 2, 1)) (k : R T r mc ms Q QX (kc) (ks) (pc + 1) (z0 :: z1 :: some (.retAddr x) :: t) (.retAddr x :: st) S V) : R T r mc ms Q QX (kc) (ks) (pc) (z0 :: z1 :: some (.retAddr x) :: t) (st) S V :=
  fun p l e s m args below meth c H locs cells slots D cA o x0 ls C K hl hP hz hS ho h1 h2 => lv_aload_n C.1 C.2.1 d rfl (hl.2.2 2 _ rfl) (k p l e s m args below meth c H locs cells slots D cA o x0 ls C K hl hP hz hS ho h1 h2)
theorem R_tload_3 {z0 z1 z2 : Option Value} {t : List (Option Value)} {x : Nat} (d : decode T.2.1 pc = .ok (.aload_n 3, 1)) (k : R T r mc ms Q QX (kc) (ks) (pc + 1) (z0 :: z1 :: z2 :: some (.retAddr x) :: t) (.retAddr x :: st) S V) : R T r mc ms Q QX (kc) (ks) (pc) (z0 :: z1 :: z2 :: some (.retAddr x) :: t) (st) S V :=
  fun p l e s m args below meth c H locs cells slots D cA o x0 ls C K hl hP hz hS ho h1 h2 => lv_aload_n C.1 C.2.1 d rfl (hl.2.2 3 _ rfl) (k p l e s m args below meth c H locs cells slots D cA o x0 ls C K hl hP hz hS ho h1 h2)
theorem R_tload_4 {z0 z1 z2 z3 : Option Value} {t : List (Option Value)} {x : Nat} (d : decode T.2.1 pc = .ok (.aload 4, 2)) (k : R T r mc ms Q QX (kc) (ks) (pc + 2) (z0 :: z1 :: z2 :: z3 :: some (.retAddr x) :: t) (.retAddr x :: st) S V) : R T r mc ms Q QX (kc) (ks) (pc) (z0 :: z1 :: z2 :: z3 :: some (.retAddr x) :: t) (st) S V :=
  fun p l e s m args below meth c H locs cells slots D cA o x0 ls C K hl hP hz hS ho h1 h2 => lv_aload C.1 C.2.1 d (hl.2.2 4 _ rfl) (k p l e s m args below meth c H locs cells slots D cA o x0 ls C K hl hP hz hS ho h1 h2)
theorem R_tload_5 {z0 z1 z2 z3 z4 : Option Value} {t : List (Option Value)} {x : Nat} (d : decode T.2.1 pc = .ok (.aload 5, 2)) (k : R T r mc ms Q QX (kc) (ks) (pc + 2) (z0 :: z1 :: z2 :: z3 :: z4 :: some (.retAddr x) :: t) (.retAddr x :: st) S V) : R T r mc ms Q QX (kc) (ks) (pc) (z0 :: z1 :: z2 :: z3 :: z4 :: some (.retAddr x) :: t) (st) S V :=
  fun p l e s m args below meth c H locs cells slots D cA o x0 ls C K hl hP hz hS ho h1 h2 => lv_aload C.1 C.2.1 d (hl.2.2 5 _ rfl) (k p l e s m args below meth c H locs cells slots D cA o x0 ls C K hl hP hz hS ho h1 h2)
theorem R_lv {lv2 : List (Option Value)} (h : ∀ (i : Nat) (v : Value), lv2[i]? = some (some v) → lv[i]? = some (some v)) (k : R T r mc ms Q QX (kc) (ks) (pc) (lv2) (st) S V) : R T r mc ms Q QX (kc) (ks) (pc) (lv) (st) S V :=
  fun p l e s m args below meth c H locs cells slots D cA o x0 ls C K hl hP hz hS ho h1 h2 => k p l e s m args below meth c H locs cells slots D cA o x0 ls C K ⟨hl.1, hl.2.1, fun i v hi => hl.2.2 i v (h i v hi)⟩ hP hz hS ho h1 h2
theorem R_drop_0 {y : Option Value} {t : List (Option Value)} (k : R T r mc ms Q QX (kc) (ks) (pc) (none :: t) (st) S V) : R T r mc ms Q QX (kc) (ks) (pc) (y :: t) (st) S V := by
  refine R_lv (fun j v h => ?_) k
  match j, h with
  | 0, h => cases h
  | j + 1, h => exact h
theorem R_drop_1 {z0 : Option Value} {y : Option Value} {t : List (Option Value)} (k : R T r mc ms Q QX (kc) (ks) (pc) (z0 :: none :: t) (st) S V) : R T r mc ms Q QX (kc) (ks) (pc) (z0 :: y :: t) (st) S V := by
  refine R_lv (fun j v h => ?_) k
  match j, h with
  | 0, h => exact h
  | 1, h => cases h
  | j + 2, h => exact h
theorem R_drop_2 {z0 z1 : Option Value} {y : Option Value} {t : List (Option Value)} (k : R T r mc ms Q QX (kc) (ks) (pc) (z0 :: z1 :: none :: t) (st) S V) : R T r mc ms Q QX (kc) (ks) (pc) (z0 :: z1 :: y :: t) (st) S V := by
  refine R_lv (fun j v h => ?_) k
  match j, h with
  | 0, h => exact h
  | 1, h => exact h
  | 2, h => cases h
  | j + 3, h => exact h
theorem R_drop_3 {z0 z1 z2 : Option Value} {y : Option Value} {t : List (Option Value)} (k : R T r mc ms Q QX (kc) (ks) (pc) (z0 :: z1 :: z2 :: none :: t) (st) S V) : R T r mc ms Q QX (kc) (ks) (pc) (z0 :: z1 :: z2 :: y :: t) (st) S V := by
  refine R_lv (fun j v h => ?_) k
  match j, h with
  | 0, h => exact h
  | 1, h => exact h
  | 2, h => exact h
  | 3, h => cases h
  | j + 4, h => exact h
theorem R_drop_4 {z0 z1 z2 z3 : Option Value} {y : Option Value} {t : List (Option Value)} (k : R T r mc ms Q QX (kc) (ks) (pc) (z0 :: z1 :: z2 :: z3 :: none :: t) (st) S V) : R T r mc ms Q QX (kc) (ks) (pc) (z0 :: z1 :: z2 :: z3 :: y :: t) (st) S V := by
  refine R_lv (fun j v h => ?_) k
  match j, h with
  | 0, h => exact h
  | 1, h => exact h
  | 2, h => exact h
  | 3, h => exact h
  | 4, h => cases h
  | j + 5, h => exact h
theorem R_drop_5 {z0 z1 z2 z3 z4 : Option Value} {y : Option Value} {t : List (Option Value)} (k : R T r mc ms Q QX (kc) (ks) (pc) (z0 :: z1 :: z2 :: z3 :: z4 :: none :: t) (st) S V) : R T r mc ms Q QX (kc) (ks) (pc) (z0 :: z1 :: z2 :: z3 :: z4 :: y :: t) (st) S V := by
  refine R_lv (fun j v h => ?_) k
  match j, h with
  | 0, h => exact h
  | 1, h => exact h
  | 2, h => exact h
  | 3, h => exact h
  | 4, h => exact h
  | 5, h => cases h
  | j + 6, h => exact h
theorem R_drop_6 {z0 z1 z2 z3 z4 z5 : Option Value} {y : Option Value} {t : List (Option Value)} (k : R T r mc ms Q QX (kc) (ks) (pc) (z0 :: z1 :: z2 :: z3 :: z4 :: z5 :: none :: t) (st) S V) : R T r mc ms Q QX (kc) (ks) (pc) (z0 :: z1 :: z2 :: z3 :: z4 :: z5 :: y :: t) (st) S V := by
  refine R_lv (fun j v h => ?_) k
  match j, h with
  | 0, h => exact h
  | 1, h => exact h
  | 2, h => exact h
  | 3, h => exact h
  | 4, h => exact h
  | 5, h => exact h
  | 6, h => cases h
  | j + 7, h => exact h
theorem R_drop_7 {z0 z1 z2 z3 z4 z5 z6 : Option Value} {y : Option Value} {t : List (Option Value)} (k : R T r mc ms Q QX (kc) (ks) (pc) (z0 :: z1 :: z2 :: z3 :: z4 :: z5 :: z6 :: none :: t) (st) S V) : R T r mc ms Q QX (kc) (ks) (pc) (z0 :: z1 :: z2 :: z3 :: z4 :: z5 :: z6 :: y :: t) (st) S V := by
  refine R_lv (fun j v h => ?_) k
  match j, h with
  | 0, h => exact h
  | 1, h => exact h
  | 2, h => exact h
  | 3, h => exact h
  | 4, h => exact h
  | 5, h => exact h
  | 6, h => exact h
  | 7, h => cases h
  | j + 8, h => exact h
theorem R_drop_8 {z0 z1 z2 z3 z4 z5 z6 z7 : Option Value} {y : Option Value} {t : List (Option Value)} (k : R T r mc ms Q QX (kc) (ks) (pc) (z0 :: z1 :: z2 :: z3 :: z4 :: z5 :: z6 :: z7 :: none :: t) (st) S V) : R T r mc ms Q QX (kc) (ks) (pc) (z0 :: z1 :: z2 :: z3 :: z4 :: z5 :: z6 :: z7 :: y :: t) (st) S V := by
  refine R_lv (fun j v h => ?_) k
  match j, h with
  | 0, h => exact h
  | 1, h => exact h
  | 2, h => exact h
  | 3, h => exact h
  | 4, h => exact h
  | 5, h => exact h
  | 6, h => exact h
  | 7, h => exact h
  | 8, h => cases h
  | j + 9, h => exact h
theorem R_drop_9 {z0 z1 z2 z3 z4 z5 z6 z7 z8 : Option Value} {y : Option Value} {t : List (Option Value)} (k : R T r mc ms Q QX (kc) (ks) (pc) (z0 :: z1 :: z2 :: z3 :: z4 :: z5 :: z6 :: z7 :: z8 :: none :: t) (st) S V) : R T r mc ms Q QX (kc) (ks) (pc) (z0 :: z1 :: z2 :: z3 :: z4 :: z5 :: z6 :: z7 :: z8 :: y :: t) (st) S V := by
  refine R_lv (fun j v h => ?_) k
  match j, h with
  | 0, h => exact h
  | 1, h => exact h
  | 2, h => exact h
  | 3, h => exact h
  | 4, h => exact h
  | 5, h => exact h
  | 6, h => exact h
  | 7, h => exact h
  | 8, h => exact h
  | 9, h => cases h
  | j + 10, h => exact h
theorem R_drop_10 {z0 z1 z2 z3 z4 z5 z6 z7 z8 z9 : Option Value} {y : Option Value} {t : List (Option Value)} (k : R T r mc ms Q QX (kc) (ks) (pc) (z0 :: z1 :: z2 :: z3 :: z4 :: z5 :: z6 :: z7 :: z8 :: z9 :: none :: t) (st) S V) : R T r mc ms Q QX (kc) (ks) (pc) (z0 :: z1 :: z2 :: z3 :: z4 :: z5 :: z6 :: z7 :: z8 :: z9 :: y :: t) (st) S V := by
  refine R_lv (fun j v h => ?_) k
  match j, h with
  | 0, h => exact h
  | 1, h => exact h
  | 2, h => exact h
  | 3, h => exact h
  | 4, h => exact h
  | 5, h => exact h
  | 6, h => exact h
  | 7, h => exact h
  | 8, h => exact h
  | 9, h => exact h
  | 10, h => cases h
  | j + 11, h => exact h
theorem R_drop_11 {z0 z1 z2 z3 z4 z5 z6 z7 z8 z9 z10 : Option Value} {y : Option Value} {t : List (Option Value)} (k : R T r mc ms Q QX (kc) (ks) (pc) (z0 :: z1 :: z2 :: z3 :: z4 :: z5 :: z6 :: z7 :: z8 :: z9 :: z10 :: none :: t) (st) S V) : R T r mc ms Q QX (kc) (ks) (pc) (z0 :: z1 :: z2 :: z3 :: z4 :: z5 :: z6 :: z7 :: z8 :: z9 :: z10 :: y :: t) (st) S V := by
  refine R_lv (fun j v h => ?_) k
  match j, h with
  | 0, h => exact h
  | 1, h => exact h
  | 2, h => exact h
  | 3, h => exact h
  | 4, h => exact h
  | 5, h => exact h
  | 6, h => exact h
  | 7, h => exact h
  | 8, h => exact h
  | 9, h => exact h
  | 10, h => exact h
  | 11, h => cases h
  | j + 12, h => exact h
end ASTR
theorem flJ0_9 : Cond.fieldLink RJ0 9 "java/lang/String" "value" "[B" ∈ aT := aT_of (List.mem_of_getElem? (i := 1075) (by decide +kernel)) (by decide +kernel)
theorem flJ0_15 : Cond.fieldLink RJ0 15 "java/lang/String" "coder" "B" ∈ aT := aT_of (List.mem_of_getElem? (i := 1074) (by decide +kernel)) (by decide +kernel)
theorem flJ0_38 : Cond.fieldLink RJ0 38 "java/lang/String" "COMPACT_STRINGS" "Z" ∈ aT := aT_of (List.mem_of_getElem? (i := 831) (by decide +kernel)) (by decide +kernel)
theorem wm_min1 : Cond.static Lib.Math.min.name ∈ aT := aT_of (List.mem_of_getElem? (i := 596) (by decide +kernel)) (by decide +kernel)
theorem wm_min2 : Cond.code Lib.Math.min.name Lib.Math.min.code 2 (some .int) ∈ aT := aT_of (List.mem_of_getElem? (i := 597) (by decide +kernel)) (by decide +kernel)
theorem wm_max1 : Cond.static Lib.Math.max.name ∈ aT := aT_of (List.mem_of_getElem? (i := 589) (by decide +kernel)) (by decide +kernel)
theorem wm_max2 : Cond.code Lib.Math.max.name Lib.Math.max.code 2 (some .int) ∈ aT := aT_of (List.mem_of_getElem? (i := 590) (by decide +kernel)) (by decide +kernel)
theorem wm_ini : Cond.initialized "java/lang/Math" ∈ aT := wi_J9
theorem wm_sys : Cond.initialized "java/lang/System" ∈ aT := wi_J10
theorem mmX11_3 : Cond.methodLink RX11 3 Lib.objectInit ∈ aT := aT_of (List.mem_of_getElem? (i := 101) (by decide +kernel)) (by decide +kernel)
theorem mmX0_3 : Cond.methodLink RX0 3 Lib.objectInit ∈ aT := aT_of (List.mem_of_getElem? (i := 274) (by decide +kernel)) (by decide +kernel)
theorem mmX1_3 : Cond.methodLink RX1 3 Lib.objectInit ∈ aT := aT_of (List.mem_of_getElem? (i := 267) (by decide +kernel)) (by decide +kernel)
theorem mmX1_40 : Cond.methodLink RX1 40 Lib.Math.max.name ∈ aT := aT_of (List.mem_of_getElem? (i := 699) (by decide +kernel)) (by decide +kernel)
theorem mmX2_3 : Cond.methodLink RX2 3 Lib.objectInit ∈ aT := aT_of (List.mem_of_getElem? (i := 346) (by decide +kernel)) (by decide +kernel)
theorem mmX3_3 : Cond.methodLink RX3 3 Lib.objectInit ∈ aT := aT_of (List.mem_of_getElem? (i := 180) (by decide +kernel)) (by decide +kernel)
theorem mmX4_3 : Cond.methodLink RX4 3 Lib.objectInit ∈ aT := aT_of (List.mem_of_getElem? (i := 206) (by decide +kernel)) (by decide +kernel)
theorem mmX5_3 : Cond.methodLink RX5 3 Lib.objectInit ∈ aT := aT_of (List.mem_of_getElem? (i := 336) (by decide +kernel)) (by decide +kernel)
theorem mmX5_21 : Cond.methodLink RX5 21 Lib.Math.min.name ∈ aT := aT_of (List.mem_of_getElem? (i := 595) (by decide +kernel)) (by decide +kernel)
theorem mmX5_35 : Cond.methodLink RX5 35 Lib.Math.max.name ∈ aT := aT_of (List.mem_of_getElem? (i := 588) (by decide +kernel)) (by decide +kernel)
theorem mmX6_3 : Cond.methodLink RX6 3 Lib.objectInit ∈ aT := aT_of (List.mem_of_getElem? (i := 109) (by decide +kernel)) (by decide +kernel)
theorem mmX7_3 : Cond.methodLink RX7 3 Lib.objectInit ∈ aT := aT_of (List.mem_of_getElem? (i := 146) (by decide +kernel)) (by decide +kernel)
theorem mmX8_3 : Cond.methodLink RX8 3 Lib.objectInit ∈ aT := aT_of (List.mem_of_getElem? (i := 362) (by decide +kernel)) (by decide +kernel)
theorem mmX9_1 : Cond.methodLink RX9 1 Lib.objectInit ∈ aT := aT_of (List.mem_of_getElem? (i := 115) (by decide +kernel)) (by decide +kernel)
theorem mmX9_17 : Cond.methodLink RX9 17 Lib.Math.min.name ∈ aT := aT_of (List.mem_of_getElem? (i := 773) (by decide +kernel)) (by decide +kernel)
theorem mmX9_23 : Cond.methodLink RX9 23 arraycopyName ∈ aT := aT_of (List.mem_of_getElem? (i := 774) (by decide +kernel)) (by decide +kernel)
theorem mmX9_47 : Cond.methodLink RX9 47 Lib.Math.max.name ∈ aT := aT_of (List.mem_of_getElem? (i := 962) (by decide +kernel)) (by decide +kernel)
theorem mmX10_3 : Cond.methodLink RX10 3 Lib.objectInit ∈ aT := aT_of (List.mem_of_getElem? (i := 153) (by decide +kernel)) (by decide +kernel)
theorem mmJ1_38 : Cond.methodLink RJ1 38 Lib.Math.min.name ∈ aT := aT_of (List.mem_of_getElem? (i := 848) (by decide +kernel)) (by decide +kernel)
theorem mmJ1_92 : Cond.methodLink RJ1 92 Lib.Math.max.name ∈ aT := aT_of (List.mem_of_getElem? (i := 847) (by decide +kernel)) (by decide +kernel)
theorem mmJ2_183 : Cond.methodLink RJ2 183 Lib.Math.min.name ∈ aT := aT_of (List.mem_of_getElem? (i := 856) (by decide +kernel)) (by decide +kernel)
theorem mmJ2_224 : Cond.methodLink RJ2 224 Lib.Math.max.name ∈ aT := aT_of (List.mem_of_getElem? (i := 855) (by decide +kernel)) (by decide +kernel)
theorem wo_1 : Cond.instanceMethod Lib.objectInit ∈ aT := aT_of (List.mem_of_getElem? (i := 102) (by decide +kernel)) (by decide +kernel)
theorem wo_2 : Cond.code Lib.objectInit ⟨#[0xb1]⟩ 1 none ∈ aT := aT_of (List.mem_of_getElem? (i := 103) (by decide +kernel)) (by decide +kernel)
/-- where a sign stands among those that name the fields -/
def fIx (c : Int32) : Int32 := if c = 110 then 0 else if c = 115 then 1 else if c = 104 then 2 else if c = 122 then 3 else if c = 112 then 4 else if c = 109 then 5 else -1
set_option maxHeartbeats 4000000 in
theorem ct_canEncode {S : aS} {V : aV} (c : Int32) : CT mJ1_canEncode_9a6ad 0 0 0 [.int c] S V (aRet (some (.int (if c < 0 then 0 else if 255 < c then 0 else 1))) S V) aNo := by
  refine CT_of (by decide +kernel) (Nat.le_of_ble_eq_true rfl) ?_
  show R _ _ _ _ _ _ _ _ 0 [some (.int c)] [] _ _
  refine R_iload_0 dJ1_canEncode_9a6ad_0 ?_
  refine R_if_lt 15 dJ1_canEncode_9a6ad_1 (by decide) (fun c1 => ?_) (fun c1 => ?_)
  · refine R_iconst (v := 0) dJ1_canEncode_9a6ad_15 (by decide) ?_
    refine R_zret rfl (by first | rfl | assumption) dJ1_canEncode_9a6ad_16 ⟨by first | (rw [if_pos c1]) | (rw [if_neg c1, if_pos c8]) | (rw [if_neg c1, if_neg c8]), rfl, rfl⟩
  · refine R_iload_0 dJ1_canEncode_9a6ad_4 ?_
    refine R_sipush (v := 255) dJ1_canEncode_9a6ad_5 (by decide) ?_
    refine R_icmp_gt 15 dJ1_canEncode_9a6ad_8 (by decide) (fun c8 => ?_) (fun c8 => ?_)
    · refine R_iconst (v := 0) dJ1_canEncode_9a6ad_15 (by decide) ?_
      refine R_zret rfl (by first | rfl | assumption) dJ1_canEncode_9a6ad_16 ⟨by first | (rw [if_pos c1]) | (rw [if_neg c1, if_pos c8]) | (rw [if_neg c1, if_neg c8]), rfl, rfl⟩
    · refine R_iconst (v := 1) dJ1_canEncode_9a6ad_11 (by decide) ?_
      refine R_goto 16 dJ1_canEncode_9a6ad_12 (by decide) ?_
      refine R_zret rfl (by first | rfl | assumption) dJ1_canEncode_9a6ad_16 ⟨by first | (rw [if_pos c1]) | (rw [if_neg c1, if_pos c8]) | (rw [if_neg c1, if_neg c8]), rfl, rfl⟩

set_option maxHeartbeats 4000000 in
theorem ct_coder {S : aS} {V : aV} : CT mJ0_coder_7d493 0 0 0 [.retAddr 0] S V (aRet (some (.int 0)) S V) aNo := by
  refine CT_of (by decide +kernel) (Nat.le_of_ble_eq_true rfl) ?_
  show R _ _ _ _ _ _ _ _ 0 [some (.retAddr 0)] [] _ _
  refine R_scomp flJ0_38 dJ0_coder_7d493_0 ?_
  refine R_if_eq 13 dJ0_coder_7d493_3 (by decide) (fun c3 => absurd c3 (by decide)) (fun c3 => ?_)
  refine R_tload_0 dJ0_coder_7d493_6 ?_
  refine R_scod flJ0_15 dJ0_coder_7d493_7 ?_
  refine R_goto 14 dJ0_coder_7d493_10 (by decide) ?_
  refine R_zret rfl (by first | rfl | assumption) dJ0_coder_7d493_14 ⟨rfl, rfl, rfl⟩

set_option maxHeartbeats 4000000 in
theorem ct_isLatin1 {S : aS} {V : aV} : CT mJ0_isLatin1_aae02 0 0 0 [.retAddr 0] S V (aRet (some (.int 1)) S V) aNo := by
  refine CT_of (by decide +kernel) (Nat.le_of_ble_eq_true rfl) ?_
  show R _ _ _ _ _ _ _ _ 0 [some (.retAddr 0)] [] _ _
  refine R_scomp flJ0_38 dJ0_isLatin1_aae02_0 ?_
  refine R_if_eq 17 dJ0_isLatin1_aae02_3 (by decide) (fun c3 => absurd c3 (by decide)) (fun c3 => ?_)
  refine R_tload_0 dJ0_isLatin1_aae02_6 ?_
  refine R_scod flJ0_15 dJ0_isLatin1_aae02_7 ?_
  refine R_if_ne 17 dJ0_isLatin1_aae02_10 (by decide) (fun c10 => absurd (by decide) c10) (fun c10 => ?_)
  refine R_iconst (v := 1) dJ0_isLatin1_aae02_13 (by decide) ?_
  refine R_goto 18 dJ0_isLatin1_aae02_14 (by decide) ?_
  refine R_zret rfl (by first | rfl | assumption) dJ0_isLatin1_aae02_18 ⟨rfl, rfl, rfl⟩

set_option maxHeartbeats 4000000 in
theorem ct_slen {S : aS} {V : aV} : CT mJ0_length_8abf5 1 0 0 [.retAddr 0] S V (aRet (some (.int 6)) S V) aNo := by
  refine CT_of (by decide +kernel) (Nat.le_of_ble_eq_true rfl) ?_
  show R _ _ _ _ _ _ _ _ 0 [some (.retAddr 0)] [] _ _
  refine R_tload_0 dJ0_length_8abf5_0 ?_
  refine R_sval flJ0_9 dJ0_length_8abf5_1 ?_
  refine R_stl dJ0_length_8abf5_4 ?_
  refine R_tload_0 dJ0_length_8abf5_5 ?_
  refine R_callVT_e (T' := mJ0_coder_7d493) (As := []) okJ0_coder_7d493 rfl mlJ0_335 ct_coder rfl (by decide) (by decide) (Nat.le_of_ble_eq_true rfl) dJ0_length_8abf5_6 ?_
  refine R_ishr dJ0_length_8abf5_9 ?_
  refine R_iret rfl dJ0_length_8abf5_10 ⟨by decide, rfl, rfl⟩

theorem ixb {j : Nat} (hj : j < 6) {c : Int32} (h : c = aFt.getD j 0) : fIx c = nI j := by
  subst h
  have : ∀ j, j < 6 → fIx (aFt.getD j 0) = nI j := by decide +kernel
  exact this j hj
theorem ixn {c : Int32} (h : ∀ j, j < 6 → c ≠ aFt.getD j 0) : fIx c = -1 := by
  have h0 : c ≠ 110 := h 0 (by decide); have h1 : c ≠ 115 := h 1 (by decide); have h2 : c ≠ 104 := h 2 (by decide); have h3 : c ≠ 122 := h 3 (by decide); have h4 : c ≠ 112 := h 4 (by decide); have h5 : c ≠ 109 := h 5 (by decide)
  unfold fIx
  rw [if_neg h0, if_neg h1, if_neg h2, if_neg h3, if_neg h4, if_neg h5]
theorem ixc {j : Nat} (hj : j < 6) {c : Int32} (h0 : ¬ c < 0) (h1 : ¬ 255 < c) : aFt.getD j 0 = c.toInt8.toInt32 ↔ c = aFt.getD j 0 := by
  obtain ⟨k, hk, rfl⟩ := nI_of h0
  have hk2 : k < 256 := by
    refine Nat.lt_of_not_le fun q => h1 ?_
    refine Int32.lt_iff_toInt_lt.mpr ?_
    rw [nI_toInt hk]
    have e : (255 : Int32).toInt = 255 := by decide
    rw [e]; omega
  have : ∀ k, k < 256 → ∀ j, j < 6 → (aFt.getD j 0 = (nI k).toInt8.toInt32 ↔ nI k = aFt.getD j 0) := by decide +kernel
  exact this k hk2 j hj

set_option maxHeartbeats 4000000 in
theorem ixloop {r mc ms : Nat} {Q : Option Value → aS → aV → Prop} {QX : String → aS → aV → Prop} {S : aS} {V : aV} {kc ks : Nat} (c : Int32) (h0 : ¬ c < 0) (h1 : ¬ 255 < c) : ∀ (m j : Nat), j + m = 6 → (∀ i, i < j → c ≠ aFt.getD i 0) → Q (some (.int (fIx c))) S V → R mJ1_indexOfChar_4cfef r mc ms Q QX kc ks 7 [some (.retAddr 1), some (.int c), some (.int 0), some (.int 6), some (.int c.toInt8.toInt32), some (.int (nI j))] [] S V := by
  intro m
  induction m with
  | zero =>
    intro j hj hprev hQ
    have hj6 : j = 6 := by omega
    subst hj6
    refine R_iload_5 dJ1_indexOfChar_4cfef_7 ?_
    refine R_iload_3 dJ1_indexOfChar_4cfef_9 ?_
    refine R_icmp_ge 31 dJ1_indexOfChar_4cfef_10 (by decide) (fun _ => ?_) (fun c => absurd (by decide) c)
    refine R_iconst (v := -1) dJ1_indexOfChar_4cfef_31 (by decide) ?_
    refine R_iret rfl dJ1_indexOfChar_4cfef_32 ?_
    rw [← ixn hprev]
    exact hQ
  | succ m ih =>
    intro j hj hprev hQ
    have hk6 : j < 6 := by omega
    refine R_iload_5 dJ1_indexOfChar_4cfef_7 ?_
    refine R_iload_3 dJ1_indexOfChar_4cfef_9 ?_
    refine R_icmp_ge 31 dJ1_indexOfChar_4cfef_10 (by decide) (fun c10 => absurd c10 (nI_ge hk6 (by decide))) (fun c10 => ?_)
    refine R_tload_0 dJ1_indexOfChar_4cfef_13 ?_
    refine R_iload_5 dJ1_indexOfChar_4cfef_14 ?_
    refine R_stb (vp_in_nI hk6 (by decide)) dJ1_indexOfChar_4cfef_16 ?_
    rw [nI_clamp (by omega)]
    refine R_iload_4 dJ1_indexOfChar_4cfef_17 ?_
    refine R_icmp_ne 25 dJ1_indexOfChar_4cfef_19 (by decide) (fun c19 => ?_) (fun c19 => ?_)
    · refine R_iinc_5 rfl (by decide) dJ1_indexOfChar_4cfef_25 rfl ?_
      rw [show nI j + Int32.ofInt 1 = nI (j + 1) from nI_1 j]
      refine R_goto 7 dJ1_indexOfChar_4cfef_28 (by decide) ?_
      exact ih (j + 1) (by omega) (fun i hi => by rcases Nat.lt_succ_iff_lt_or_eq.mp hi with q | q; exact hprev i q; subst q; exact fun z => c19 ((ixc hk6 h0 h1).mpr z)) hQ
    · refine R_iload_5 dJ1_indexOfChar_4cfef_22 ?_
      refine R_iret rfl dJ1_indexOfChar_4cfef_24 (by have e := ixb hk6 ((ixc hk6 h0 h1).mp c19); rw [← e]; exact hQ)
set_option maxHeartbeats 4000000 in
theorem ct_ixChar {S : aS} {V : aV} (c : Int32) (h0 : ¬ c < 0) (h1 : ¬ 255 < c) : CT mJ1_indexOfChar_4cfef 0 0 0 [.retAddr 1, .int c, .int 0, .int 6] S V (aRet (some (.int (fIx c))) S V) aNo := by
  refine CT_of (by decide +kernel) (Nat.le_of_ble_eq_true rfl) ?_
  show R _ _ _ _ _ _ _ _ 0 [some (.retAddr 1), some (.int c), some (.int 0), some (.int 6), none, none] [] _ _
  refine R_iload_1 dJ1_indexOfChar_4cfef_0 ?_
  refine R_i2b dJ1_indexOfChar_4cfef_1 ?_
  refine R_istore_4 rfl (by decide) dJ1_indexOfChar_4cfef_2 ?_
  refine R_iload_2 dJ1_indexOfChar_4cfef_4 ?_
  refine R_istore_5 rfl (by decide) dJ1_indexOfChar_4cfef_5 ?_
  exact ixloop c h0 h1 6 0 rfl (fun i hi => absurd hi (Nat.not_lt_zero i)) ⟨rfl, rfl, rfl⟩

set_option maxHeartbeats 4000000 in
theorem ct_ixL1 {S : aS} {V : aV} (c : Int32) (h0 : ¬ c < 0) : CT mJ1_indexOf_4cfef 1 0 0 [.retAddr 1, .int c, .int 0, .int 6] S V (aRet (some (.int (fIx c))) S V) aNo := by
  refine CT_of (by decide +kernel) (Nat.le_of_ble_eq_true rfl) ?_
  show R _ _ _ _ _ _ _ _ 0 [some (.retAddr 1), some (.int c), some (.int 0), some (.int 6)] [] _ _
  refine R_iload_1 dJ1_indexOf_4cfef_0 ?_
  refine R_callS_e (T := mJ1_indexOf_4cfef) (T' := mJ1_canEncode_9a6ad) (As := [_]) okJ1_canEncode_9a6ad mlJ1_88 rfl (ct_canEncode c) rfl (by decide) (by decide) (Nat.le_of_ble_eq_true rfl) dJ1_indexOf_4cfef_1 ?_
  refine R_if_ne 9 dJ1_indexOf_4cfef_4 (by decide) (fun c4 => ?_) (fun c4 => ?_)
  · refine R_iload_2 dJ1_indexOf_4cfef_9 ?_
    refine R_iconst (v := 0) dJ1_indexOf_4cfef_10 (by decide) ?_
    refine R_max mmJ1_92 wm_max1 wm_ini wm_max2 dJ1_indexOf_4cfef_11 (by decide) (Nat.le_of_ble_eq_true rfl) (by decide : _ = (0 : Int32)) ?_
    refine R_istore_2 rfl (by decide) dJ1_indexOf_4cfef_14 ?_
    refine R_iload_3 dJ1_indexOf_4cfef_15 ?_
    refine R_tload_0 dJ1_indexOf_4cfef_16 ?_
    refine R_stl dJ1_indexOf_4cfef_17 ?_
    refine R_min mmJ1_38 wm_min1 wm_ini wm_min2 dJ1_indexOf_4cfef_18 (by decide) (Nat.le_of_ble_eq_true rfl) (by decide : _ = (6 : Int32)) ?_
    refine R_istore_3 rfl (by decide) dJ1_indexOf_4cfef_21 ?_
    refine R_iload_2 dJ1_indexOf_4cfef_22 ?_
    refine R_iload_3 dJ1_indexOf_4cfef_23 ?_
    refine R_icmp_lt 29 dJ1_indexOf_4cfef_24 (by decide) (fun c24 => ?_) (fun c24 => absurd (by decide) c24)
    have h255 : ¬ 255 < c := fun q => c4 (by rw [if_neg h0, if_pos q])
    refine R_tload_0 dJ1_indexOf_4cfef_29 ?_
    refine R_iload_1 dJ1_indexOf_4cfef_30 ?_
    refine R_iload_2 dJ1_indexOf_4cfef_31 ?_
    refine R_iload_3 dJ1_indexOf_4cfef_32 ?_
    refine R_callS_e (T := mJ1_indexOf_4cfef) (T' := mJ1_indexOfChar_4cfef) (As := [_, _, _, _]) okJ1_indexOfChar_4cfef mlJ1_95 rfl (ct_ixChar c h0 h255) rfl (by decide) (by decide) (Nat.le_of_ble_eq_true rfl) dJ1_indexOf_4cfef_33 ?_
    refine R_iret rfl dJ1_indexOf_4cfef_36 ⟨rfl, rfl, rfl⟩
  · have e7 : fIx c = -1 := by
      refine ixn fun j hj q => ?_
      have h255 : ¬ 255 < c := by
        subst q
        exact (by decide +kernel : ∀ j, j < 6 → ¬ 255 < aFt.getD j 0) j hj
      rw [if_neg h0, if_neg h255] at c4
      exact absurd c4 (by decide)
    refine R_iconst (v := -1) dJ1_indexOf_4cfef_7 (by decide) ?_
    refine R_iret rfl dJ1_indexOf_4cfef_8 ⟨by rw [e7], rfl, rfl⟩

set_option maxHeartbeats 4000000 in
theorem ct_ix2 {S : aS} {V : aV} (c : Int32) (h0 : ¬ c < 0) : CT mJ0_indexOf_7cf53 2 0 0 [.retAddr 0, .int c, .int 0] S V (aRet (some (.int (fIx c))) S V) aNo := by
  refine CT_of (by decide +kernel) (Nat.le_of_ble_eq_true rfl) ?_
  show R _ _ _ _ _ _ _ _ 0 [some (.retAddr 0), some (.int c), some (.int 0)] [] _ _
  refine R_tload_0 dJ0_indexOf_7cf53_0 ?_
  refine R_callVT_e (T' := mJ0_isLatin1_aae02) (As := []) okJ0_isLatin1_aae02 rfl mlJ0_492 ct_isLatin1 rfl (by decide) (by decide) (Nat.le_of_ble_eq_true rfl) dJ0_indexOf_7cf53_1 ?_
  refine R_if_eq 23 dJ0_indexOf_7cf53_4 (by decide) (fun c4 => absurd c4 (by decide)) (fun c4 => ?_)
  refine R_tload_0 dJ0_indexOf_7cf53_7 ?_
  refine R_sval flJ0_9 dJ0_indexOf_7cf53_8 ?_
  refine R_iload_1 dJ0_indexOf_7cf53_11 ?_
  refine R_iload_2 dJ0_indexOf_7cf53_12 ?_
  refine R_tload_0 dJ0_indexOf_7cf53_13 ?_
  refine R_callVT_e (T' := mJ0_length_8abf5) (As := []) okJ0_length_8abf5 rfl mlJ0_505 ct_slen rfl (by decide) (by decide) (Nat.le_of_ble_eq_true rfl) dJ0_indexOf_7cf53_14 ?_
  refine R_callSO_e (T' := mJ1_indexOf_4cfef) (As := [_, _, _, _]) okJ1_indexOf_4cfef mlJ0_637 (ct_ixL1 c h0) rfl (by decide) (by decide) (Nat.le_of_ble_eq_true rfl) dJ0_indexOf_7cf53_17 ?_
  refine R_goto 36 dJ0_indexOf_7cf53_20 (by decide) ?_
  refine R_iret rfl dJ0_indexOf_7cf53_36 ⟨rfl, rfl, rfl⟩

set_option maxHeartbeats 4000000 in
theorem ct_indexOf {S : aS} {V : aV} (c : Int32) (h0 : ¬ c < 0) : CT mJ0_indexOf_0f7a4 3 0 0 [.retAddr 0, .int c] S V (aRet (some (.int (fIx c))) S V) aNo := by
  refine CT_of (by decide +kernel) (Nat.le_of_ble_eq_true rfl) ?_
  show R _ _ _ _ _ _ _ _ 0 [some (.retAddr 0), some (.int c)] [] _ _
  refine R_tload_0 dJ0_indexOf_0f7a4_0 ?_
  refine R_iload_1 dJ0_indexOf_0f7a4_1 ?_
  refine R_iconst (v := 0) dJ0_indexOf_0f7a4_2 (by decide) ?_
  refine R_callVT_e (T' := mJ0_indexOf_7cf53) (As := [_, _]) okJ0_indexOf_7cf53 rfl mlJ0_633 (ct_ix2 c h0) rfl (by decide) (by decide) (Nat.le_of_ble_eq_true rfl) dJ0_indexOf_0f7a4_3 ?_
  refine R_iret rfl dJ0_indexOf_0f7a4_6 ⟨rfl, rfl, rfl⟩

