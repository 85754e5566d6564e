/-! ===== calls over any room; catching; methods with a table ===== -/
def aNcs (t : State) : Prop := va_Nc xI xS t ∧ va_Nc xS xI t
theorem aNcs.moved {u U : State} (h : u.vm.Alike U.vm) (g : aNcs u) : aNcs U := ⟨g.1.moved h, g.2.moved h⟩
/-- a method's contract over the memory, that has a table of its own and lets nothing out -/
def CTH (T : aMt) (hh : List (Nat × Nat × Nat × Nat)) (r mc ms : Nat) (As : List Value) (S : aS) (V : aV) (Q : Option Value → aS → aV → Prop) : Prop :=
  ∀ (l : Launch), l.stackTraces = false → ∀ (o : Nat) (x0 : Nat → Nat) (cA : Nat → ClassId) (D : va_G), vx_Met l T.1 (.codeWith T.1 T.2.1 T.2.2.1 T.2.2.2 hh :: aT) (aRm r mc ms) (va_Pc (As.map (a_v o x0)) (fun t => a_B o x0 cA D S V t ∧ aNcs t)) (a_post o x0 cA D Q) (a_xc o x0 cA D aNo) mc ms (fun q => o ≤ q)
theorem CTH_of {T : aMt} {hh : List (Nat × Nat × Nat × Nat)} {r mc ms : Nat} {As : List Value} {S : aS} {V : aV} {Q : Option Value → aS → aV → Prop} (hy : plainName T.1.cls = true) (hlen : (a_in0 As).length ≤ T.2.2.1)
    (h : ∀ (p : Program) (l : Launch) (e : Env) (s : State) (m : MethodId) (args : Array Value) (below : List Frame) (meth : Method) (c : Code) (D : va_G) (cA : Nat → ClassId) (o : Nat) (x0 : Nat → Nat), l.stackTraces = false → a_CG p s m args meth c T → a_K o x0 cA D s → aNcs s → o ≤ s.heap.size → c.exceptionTable.toList = tableOf hh →
      RG p l e (aRm r mc ms) s m args below meth c D cA o x0 T (vx_MQ below (a_post o x0 cA D Q) (a_xc o x0 cA D aNo) args s mc ms (fun q => o ≤ q)) mc ms 0 (a_in T.2.2.1 As) [] S V) : CTH T hh r mc ms As S V Q := by
  intro l hl o x0 cA D
  refine vx_ofWH (cc := T.2.1) (maxL := T.2.2.1) (ret := T.2.2.2) (hh := hh) hy rfl ?_
  intro p e s m args below meth c s₁ B hml hv
  obtain ⟨rfl, ⟨ho, hP, hz, hK⟩, hN⟩ := hv
  have hts := atoms_spec (ws := .codeWith T.1 T.2.1 T.2.2.1 T.2.2.2 hh :: aT) B.pre
  have htab := vx_table (x := T.1) B (hts _ List.mem_cons_self)
  have hh0 : s₁.heap = s.heap := by rw [B.state]; rfl
  rw [lg_entry_eq]
  exact h p l e s m _ below meth c D cA o x0 hl ⟨B.exec, B.bytes, hml, findClass_of_methodNamed B.named, fun w hw => hts w (List.mem_cons_of_mem _ hw), B.returns, B.notSynchronized⟩ hK hN ho htab s.heap [] 0 0 _ (a_lv.entry hlen) hP hz va_S.rf (Nat.le_of_eq (Nat.zero_add _)) (Nat.le_of_eq (Nat.zero_add _))
section GCALL
variable {p : Program} {l : Launch} {e : Env} {Rm : Room} {s : State} {m : MethodId} {args : Array Value} {below : List Frame} {meth : Method} {c : Code} {D : va_G} {cA : Nat → ClassId} {o : Nat} {x0 : Nat → Nat} {T : aMt} {Z : State → Prop} {kc ks pc : Nat} {lv : List (Option Value)} {st : List Value} {S : aS} {V : aV}
/-- thrown here, it goes on well -/
def XG (p : Program) (l : Launch) (e : Env) (Rm : Room) (s : State) (m : MethodId) (args : Array Value) (below : List Frame) (meth : Method) (c : Code) (D : va_G) (cA : Nat → ClassId) (o : Nat) (x0 : Nat → Nat) (T : aMt) (Z : State → Prop) (kc ks pc : Nat) (lv : List (Option Value)) (st : List Value) (E : String) (S : aS) (V : aV) : Prop :=
  ∀ (H : Heap) (locs : List Loc) (cells slots : Nat) (ls : Array Slot) (q : Addr) (ce : Cell), a_lv o x0 T.2.2.1 lv ls → a_P o x0 cA D S V H → a_Z o S H → va_S (fun q => o ≤ q) s.heap H locs → cells + kc ≤ Rm.cells → slots + ks ≤ Rm.slots → H[q]? = some ce → ce.vm = .none → s.vm.findClass E = some ce.cls →
    vx_W p l e Rm s m args below meth c H locs cells slots Z (F0 m pc ls (st.map (a_v o x0))) q
theorem G_ran {H : Heap} {locs : List Loc} {cells slots : Nat} {ls : Array Slot} {mc' ms' : Nat} {as' : Array Value} {Q' : Option Value → aS → aV → Prop} {QX' : String → aS → aV → Prop} {st0 : List Value}
    (hl : a_lv o x0 T.2.2.1 lv ls) (hS : va_S (fun q => o ≤ q) s.heap H locs) (h1 : cells + (kc + mc') ≤ Rm.cells) (h2 : slots + (ks + ms') ≤ Rm.slots)
    (hr : vx_Run p l e Rm s m args below meth c H locs cells slots mc' ms' (F0 m pc ls st0) (st.map (a_v o x0)) (a_post o x0 cA D Q' as') (a_xc o x0 cA D QX') (fun q => o ≤ q))
    (k : ∀ v S' V', Q' v S' V' → RG p l e Rm s m args below meth c D cA o x0 T Z kc ks (pc + 3) lv (v.toList ++ st) S' V') (kx : ∀ E S' V', QX' E S' V' → XG p l e Rm s m args below meth c D cA o x0 T Z kc ks pc lv st E S' V') :
    W p l e Rm s m args below meth c H locs cells slots Z (F0 m pc ls st0) := by
  intro Tt hT X
  rcases hr Tt hT X with ⟨v, st₀, t, T', L, h0, X', hL, e1, e2, ⟨⟨v', S', V', hv, hq, hP', hz'⟩, hF⟩, stp⟩ | ⟨q, st₀, t, T', L, E, ce, h0, X', hL, e1, e2, ⟨⟨S', V', hq, hP', hz'⟩, hF⟩, hce, hcv, hcl, stp⟩
  · cases hv
    have hS' : va_S (fun q => o ≤ q) s.heap T'.heap (locs ++ L) := by
      obtain ⟨f1, f2⟩ := hF
      rw [h0] at f1 f2
      refine ⟨by rw [e1]; exact Nat.le_trans hS.1 f1, fun q hq1 hq2 => by rw [e1, f2 q (Nat.lt_of_lt_of_le hq1 hS.1) hq2]; exact hS.2.1 q hq1 hq2, fun q hq => ?_⟩
      rcases List.mem_append.mp hq with h | h
      · exact hS.2.2 q h
      · exact hL q h
    obtain ⟨t2, a1, b1⟩ := k v' S' V' hq T'.heap (locs ++ L) (cells + mc') (slots + ms') ls hl (by rw [e1]; exact hP') (by rw [e1]; exact hz') hS' (by omega) (by omega) T' rfl X'
    refine ⟨t2, stp t2 ?_, b1⟩
    have e9 : (v'.toList ++ st).map (a_v o x0) = (v'.map (a_v o x0)).toList ++ st.map (a_v o x0) := by cases v' <;> rfl
    rw [e9] at a1
    exact a1
  · have hS' : va_S (fun q => o ≤ q) s.heap T'.heap (locs ++ L) := by
      obtain ⟨f1, f2⟩ := hF
      rw [h0] at f1 f2
      refine ⟨by rw [e1]; exact Nat.le_trans hS.1 f1, fun q hq1 hq2 => by rw [e1, f2 q (Nat.lt_of_lt_of_le hq1 hS.1) hq2]; exact hS.2.1 q hq1 hq2, fun q hq => ?_⟩
      rcases List.mem_append.mp hq with h | h
      · exact hS.2.2 q h
      · exact hL q h
    obtain ⟨t2, a1, b1⟩ := kx E S' V' hq T'.heap (locs ++ L) (cells + mc') (slots + ms') ls q ce hl (by rw [e1]; exact hP') (by rw [e1]; exact hz') hS' (by omega) (by omega) (by rw [e1]; exact hce) hcv hcl T' rfl X'
    exact ⟨t2, stp.trans a1, b1⟩
theorem G_callV {T' : aMt} {r' mc' ms' idx n : Nat} {As stk : List Value} {Q' : Option Value → aS → aV → Prop} {QX' : String → aS → aV → Prop} {ci a N0 : Nat} {T0 : u_T} (C : a_CG p s m args meth c T) (K : a_K o x0 cA D s) (ho : o ≤ s.heap.size) (hls : l.stackTraces = false) (hok : aOKi T' n) (hw : Cond.methodLink T.1.cls idx T'.1 ∈ aT) (hc : vwCl[ci]? = some (T'.1.cls, T0, N0)) (hci : ci < 13) (hs : (S.1 a).1 = ci) (ct : CT T' r' mc' ms' (.ref a :: As) S V Q' QX') (hn : As.length = n) (hR : r' + 1 ≤ Rm.frames ∧ 8 + (T'.2.2.1 + 11) + 40 * r' ≤ Rm.locals) (hst : (st.map fun v => v.category).sum ≤ 8) (d : decode T.2.1 pc = .ok (.invokevirtual idx, 3)) (k : ∀ v S' V', Q' v S' V' → RG p l e Rm s m args below meth c D cA o x0 T Z kc ks (pc + 3) lv (v.toList ++ st) S' V') (kx : ∀ E S' V', QX' E S' V' → XG p l e Rm s m args below meth c D cA o x0 T Z kc ks pc lv st E S' V') (hk : stk = As.reverse ++ .ref a :: st := by rfl) : RG p l e Rm s m args below meth c D cA o x0 T Z (kc + mc') (ks + ms') pc lv stk S V := by
  intro H locs cells slots ls hl hP hz hS h1 h2
  refine G_ran (as' := ((Value.ref (o + a) :: As.map (a_v o x0))).toArray) hl hS h1 h2 ?_ k kx
  have hG : GoodIn aT (wsV T.1.cls idx T'.1.cls T'.1 (.code T'.1 T'.2.1 T'.2.2.1 T'.2.2.2 :: aT)) := by
    intro w' hw'
    rcases List.mem_append.mp hw' with h | h
    · simp only [List.mem_cons, List.not_mem_nil, or_false] at h
      rcases h with rfl | rfl | rfl | rfl
      · exact aT_good _ hw
      · exact aT_good _ hok.2.1
      · exact aT_good _ hok.2.2
      · exact aT_good _ hok.1.2.2.2.1
    · exact aG hok.1.2.2.2.2 w' h
  exact vx_runV (As := As.map (a_v o x0)) (b := o + a) (C := T'.1.cls) (n := n) C.fix (ct l hls o x0 cA D) (cwV n C.2.2.2.2.1 hG rfl rfl rfl ⟨rfl, hok.1.1, hok.1.2.1, hok.1.2.2.1⟩ hR) ⟨a_blind, va_recv (ci := ci) (q0 := 0) K.1 (va_P_one (hP a _ (a_e_obj (o := o) (x0 := x0) (cA := cA) (g := V a) hs hci))) hc rfl, fun U hU hW => ⟨rfl, by rw [hU]; exact Nat.le_trans ho hS.1, by rw [hU]; exact hP, by rw [hU]; exact hz, a_K.warm hW (fun q hq hq2 => by rw [hU]; exact hS.2.1 q hq hq2) K⟩⟩ rfl (by rw [List.length_map]; exact hn) hl.1 (by rw [hk]; simp [a_v]) (lv_room (by rw [a_cats]; exact hst)) d ⟨by omega, by omega⟩
theorem G_callV_e {v1 : Option Value} {S1 : aS} {V1 : aV} {T' : aMt} {r' mc' ms' idx n : Nat} {As stk : List Value} {ci a N0 : Nat} {T0 : u_T} (C : a_CG p s m args meth c T) (K : a_K o x0 cA D s) (ho : o ≤ s.heap.size) (hls : l.stackTraces = false) (hok : aOKi T' n) (hw : Cond.methodLink T.1.cls idx T'.1 ∈ aT) (hc : vwCl[ci]? = some (T'.1.cls, T0, N0)) (hci : ci < 13) (hs : (S.1 a).1 = ci) (ct : CT T' r' mc' ms' (.ref a :: As) S V (aRet v1 S1 V1) aNo) (hn : As.length = n) (hR : r' + 1 ≤ Rm.frames ∧ 8 + (T'.2.2.1 + 11) + 40 * r' ≤ Rm.locals) (hst : (st.map fun v => v.category).sum ≤ 8) (d : decode T.2.1 pc = .ok (.invokevirtual idx, 3)) (k : RG p l e Rm s m args below meth c D cA o x0 T Z kc ks (pc + 3) lv (v1.toList ++ st) S1 V1) (hk : stk = As.reverse ++ .ref a :: st := by rfl) : RG p l e Rm s m args below meth c D cA o x0 T Z (kc + mc') (ks + ms') pc lv stk S V :=
  G_callV C K ho hls hok hw hc hci hs ct hn hR hst d (fun v S' V' h => by obtain ⟨rfl, rfl, rfl⟩ := h; exact k) (fun E S' V' h => h.elim) hk
theorem aB_blind {o : Nat} {x0 : Nat → Nat} {cA : Nat → ClassId} {D : va_G} {S : aS} {V : aV} {av : List Value} : FrameBlind (va_Pc av (fun t => a_B o x0 cA D S V t ∧ aNcs t)) := fun a U g mk q => ⟨q.1, ⟨q.2.1.1, q.2.1.2.1, q.2.1.2.2.1, a_K.same (s := U) (U := U.calling g mk a) rfl rfl q.2.1.2.2.2⟩, q.2.2.moved (Vm.Alike.refl U.vm)⟩
/-- a static method with a table of its own -/
theorem G_callSX {T' : aMt} {hh : List (Nat × Nat × Nat × Nat)} {r' mc' ms' idx n : Nat} {As stk : List Value} {Q' : Option Value → aS → aV → Prop} (C : a_CG p s m args meth c T) (K : a_K o x0 cA D s) (hN : aNcs s) (ho : o ≤ s.heap.size) (hls : l.stackTraces = false) (hd : T'.1.cls ≠ "java/lang/invoke/MethodHandle" ∧ T'.1.cls ≠ "java/lang/invoke/VarHandle" ∧ (parseMethodDescriptor T'.1.desc).map (fun d => d.parameters.length) = some n) (hi : Cond.initialized T'.1.cls ∈ aT) (hcw : Cond.codeWith T'.1 T'.2.1 T'.2.2.1 T'.2.2.2 hh ∈ aT) (hst9 : Cond.static T'.1 ∈ aT) (hw : Cond.methodLink T.1.cls idx T'.1 ∈ aT) (ct : CTH T' hh r' mc' ms' As S V Q') (hn : As.length = n) (hR : r' + 1 ≤ Rm.frames ∧ 8 + (T'.2.2.1 + 11) + 40 * r' ≤ Rm.locals) (hst : (st.map fun v => v.category).sum ≤ 8) (d : decode T.2.1 pc = .ok (.invokestatic idx, 3)) (k : ∀ v S' V', Q' v S' V' → RG p l e Rm s m args below meth c D cA o x0 T Z kc ks (pc + 3) lv (v.toList ++ st) S' V') (hk : stk = As.reverse ++ st := by rfl) : RG p l e Rm s m args below meth c D cA o x0 T Z (kc + mc') (ks + ms') pc lv stk S V := by
  intro H locs cells slots ls hl hP hz hS h1 h2
  refine G_ran (as' := ((As.map (a_v o x0))).toArray) hl hS h1 h2 ?_ k (fun E S' V' h => (show False from h).elim)
  have hG : GoodIn aT (va_wsS T.1.cls idx T'.1 (.codeWith T'.1 T'.2.1 T'.2.2.1 T'.2.2.2 hh :: aT)) := by
    intro w' hw'
    rcases List.mem_append.mp hw' with h | h
    · simp only [List.mem_cons, List.not_mem_nil, or_false] at h
      rcases h with rfl | rfl | rfl
      · exact aT_good _ hw
      · exact aT_good _ hst9
      · exact aT_good _ hi
    · exact aG hcw w' h
  exact vx_runSX (As := As.map (a_v o x0)) (n := n) C.fix (ct l hls o x0 cA D) (vx_cwSW n C.2.2.2.2.1 hG rfl rfl rfl hd hR) ⟨aB_blind, fun U hU hW => ⟨rfl, ⟨by rw [hU]; exact Nat.le_trans ho hS.1, by rw [hU]; exact hP, by rw [hU]; exact hz, a_K.warm hW (fun q hq hq2 => by rw [hU]; exact hS.2.1 q hq hq2) K⟩, hN.moved hW.alike⟩⟩ rfl (by rw [List.length_map]; exact hn) hl.1 (by rw [hk]; simp) (lv_room (by rw [a_cats]; exact hst)) d ⟨by omega, by omega⟩
/-- what a store of one unknown slot at i leaves -/
theorem a_lv.st1u {nL i q : Nat} {lv lv' : List (Option Value)} {ls : Array Slot} (hs : ∀ (j : Nat) (u : Value), lv'[j]? = some (some u) → j ≠ i ∧ lv[j]? = some (some u) ∧ ¬ (j + 1 = i ∧ u.category = 2)) (h : lv_has ls nL ((i, Value.ref q) :: (a_al o x0 lv).filter (fun q => !(q.1 == i) && !(q.1 + 1 == i && q.2.category == 2)))) : a_lv o x0 nL lv' ls := by
  refine ⟨h.1, h.2.1, fun j u hu => ?_⟩
  obtain ⟨h1, h2, h3⟩ := hs j u hu
  refine h.2.2 (j, a_v o x0 u) (List.mem_cons_of_mem _ (List.mem_filter.mpr ⟨a_al_mem.mpr ⟨u, h2, rfl⟩, ?_⟩))
  simp only [a_v_cat, Bool.and_eq_true, Bool.not_eq_true', beq_eq_false_iff_ne, ne_eq, Bool.and_eq_false_iff]
  refine ⟨h1, ?_⟩
  by_cases z : j + 1 = i
  · exact Or.inr fun y => h3 ⟨z, y⟩
  · exact Or.inl z
/-- caught by a row of the table, and laid aside at i -/
theorem G_catch {E name : String} {i ln : Nat} {x : ExceptionTableEntry} (C : a_CG p s m args meth c T) (K : a_K o x0 cA D s) (pre suf : List ExceptionTableEntry) (hsplit : c.exceptionTable.toList = pre ++ x :: suf)
    (hpass : ∀ z ∈ pre, covers z pc = false ∨ (z.catchType ≠ 0 ∧ ∃ nm : String, Cond.classLink T.1.cls z.catchType nm ∈ aT ∧ va_Nc E nm s)) (hx : covers x pc = true) (h0 : x.catchType ≠ 0) (hlink : Cond.classLink T.1.cls x.catchType name ∈ aT) (hcast : Cond.castable E name ∈ aN)
    (hd : (∃ k4 : Fin 4, (k4 : Nat) = i ∧ ln = 1 ∧ decode T.2.1 x.handlerPc = .ok (.astore_n k4, 1)) ∨ (ln = 2 ∧ decode T.2.1 x.handlerPc = .ok (.astore i, 2))) (hi : i < T.2.2.1) {lv' : List (Option Value)}
    (hs : ∀ (j : Nat) (u : Value), lv'[j]? = some (some u) → j ≠ i ∧ lv[j]? = some (some u) ∧ ¬ (j + 1 = i ∧ u.category = 2))
    (kk : RG p l e Rm s m args below meth c D cA o x0 T Z kc ks (x.handlerPc + ln) lv' [] S V) : XG p l e Rm s m args below meth c D cA o x0 T Z kc ks pc lv st E S V := by
  intro H locs cells slots ls q ce hl hP hz hS h1 h2 hce hcv hcl
  refine vx_catch C.2.2.2.1 pre x suf hsplit (fun z hz => (hpass z hz).imp id (fun ⟨a, nm, b, d⟩ => ⟨a, nm, C.2.2.2.2.1 _ b, d⟩)) hx h0 (C.2.2.2.2.1 _ hlink) (va_Nw.use (w := .castable E name) rfl (K.2.1 _ hcast)) hce hcv hcl ?_
  rcases hd with ⟨k4, e4, rfl, d⟩ | ⟨rfl, d⟩
  · exact lv_astore_n C.1 C.2.1 d e4 hl.has hi rfl (fun ls9 hl9 => kk H locs cells slots ls9 (a_lv.st1u hs hl9) hP hz hS h1 h2)
  · exact lv_astore C.1 C.2.1 d hl.has hi rfl (fun ls9 hl9 => kk H locs cells slots ls9 (a_lv.st1u hs hl9) hP hz hS h1 h2)
end GCALL
/-- the end of a method with a table -/
theorem G_iretM {p : Program} {l : Launch} {e : Env} {s : State} {m : MethodId} {args : Array Value} {below : List Frame} {meth : Method} {c : Code} {D : va_G} {cA : Nat → ClassId} {o : Nat} {x0 : Nat → Nat} {T : aMt} {kc ks pc r mc ms : Nat} {lv : List (Option Value)} {S : aS} {V : aV} {v : Int32} {Q : Option Value → aS → aV → Prop} {QX : String → aS → aV → Prop} (C : a_CG p s m args meth c T) (hr : T.2.2.2 = some .int) (d : decode T.2.1 pc = .ok (.ireturn, 1)) (hq : Q (some (.int v)) S V) :
    RG p l e (aRm r mc ms) s m args below meth c D cA o x0 T (vx_MQ below (a_post o x0 cA D Q) (a_xc o x0 cA D QX) args s mc ms (fun q => o ≤ q)) kc ks pc lv [.int v] S V := by
  intro H locs cells slots ls hl hP hz hS h1 h2
  have h1' : cells + kc ≤ mc := h1
  have h2' : slots + ks ≤ ms := h2
  refine W.widen (k := mc) (n := ms) (by omega) (by omega) (vx_ret ?_)
  exact W.iret C.1 C.2.1 (C.2.2.2.2.2.1.trans hr) (fun t ht hW => R_fin (v := some (.int v)) hP hz hS ht hq) hS.2.2 d C.2.2.2.2.2.2
theorem cst_I : Cond.castable xI xI ∈ aN := aN_of (List.mem_of_getElem? (i := 349) (by decide +kernel)) (by decide +kernel)
theorem cst_A : Cond.castable xA xA ∈ aN := aN_of (List.mem_of_getElem? (i := 430) (by decide +kernel)) (by decide +kernel)
theorem cst_S : Cond.castable xS xS ∈ aN := aN_of (List.mem_of_getElem? (i := 465) (by decide +kernel)) (by decide +kernel)
abbrev mL_match : aMt := (yL_match, cL_match, 4, some .boolean)
abbrev hL_match : List (Nat × Nat × Nat × Nat) := [(0, 6, 7, 16), (0, 6, 10, 18)]
theorem chL_match : Cond.codeWith mL_match.1 mL_match.2.1 mL_match.2.2.1 mL_match.2.2.2 hL_match ∈ aT := aT_of (List.mem_of_getElem? (i := 564) (by decide +kernel)) (by decide +kernel)
theorem stL_match : Cond.static mL_match.1 ∈ aT := aT_of (List.mem_of_getElem? (i := 563) (by decide +kernel)) (by decide +kernel)
theorem ddL_match : mL_match.1.cls ≠ "java/lang/invoke/MethodHandle" ∧ mL_match.1.cls ≠ "java/lang/invoke/VarHandle" ∧ (parseMethodDescriptor mL_match.1.desc).map (fun d => d.parameters.length) = some 3 := by decide +kernel
