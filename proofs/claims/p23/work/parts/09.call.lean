/-! ===== calls, throws, new objects ===== -/
section ACALL
variable {T : aMt} {r mc ms : Nat} {Q : Option Value → aS → aV → Prop} {QX : String → aS → aV → Prop} {kc ks pc : Nat} {lv : List (Option Value)} {st : List Value} {S : aS} {V : aV}
def aOK (T' : aMt) (n : Nat) : Prop := T'.1.cls ≠ "java/lang/invoke/MethodHandle" ∧ T'.1.cls ≠ "java/lang/invoke/VarHandle" ∧ (parseMethodDescriptor T'.1.desc).map (fun d => d.parameters.length) = some n ∧ Cond.initialized T'.1.cls ∈ aT ∧ Cond.code T'.1 T'.2.1 T'.2.2.1 T'.2.2.2 ∈ aT
def aOKi (T' : aMt) (n : Nat) : Prop := aOK T' n ∧ Cond.instanceMethod T'.1 ∈ aT ∧ Cond.selects T'.1.cls T'.1 T'.1 ∈ aT
def aOKs (T' : aMt) (n : Nat) : Prop := aOK T' n ∧ Cond.static T'.1 ∈ aT
def aOKc (T' : aMt) (n : Nat) : Prop := aOK T' n ∧ T'.1.name = "<init>" ∧ T'.2.2.2 = none ∧ Cond.instanceMethod T'.1 ∈ aT
theorem aG {w : Cond} (h : w ∈ aT) : GoodIn aT (w :: aT) := fun w' hw => by
  rcases List.mem_cons.mp hw with rfl | hw
  · exact aT_good _ h
  · exact aT_good _ hw
def aRet (v : Option Value) (S : aS) (V : aV) : Option Value → aS → aV → Prop := fun v' S' V' => v = v' ∧ S = S' ∧ V = V'
def aNo : String → aS → aV → Prop := fun _ _ _ => False
theorem a_blind {o : Nat} {x0 : Nat → Nat} {cA : Nat → ClassId} {D : va_G} {av : List Value} : FrameBlind (va_Pc av (a_B o x0 cA D S V)) := fun a U g mk q => ⟨q.1, q.2.1, q.2.2.1, q.2.2.2.1, a_K.same (s := U) (U := U.calling g mk a) rfl rfl q.2.2.2.2⟩
/-- from a call that has run -/
theorem R_ran {p : Program} {l : Launch} {e : Env} {s : State} {m : MethodId} {args : Array Value} {below : List Frame} {meth : Method} {c : Code} {H : Heap} {locs : List Loc} {cells slots : Nat} {D : va_G} {cA : Nat → ClassId} {o : Nat} {x0 : Nat → Nat} {ls : Array Slot} {mc' ms' : Nat} {as' : Array Value} {Q' : Option Value → aS → aV → Prop} {QX' : String → aS → aV → Prop} {st0 : List Value}
    (C : a_C p l s m args meth c T) (K : a_K o x0 cA D s) (hl : a_lv o x0 T.2.2.1 lv ls) (hS : va_S (fun q => o ≤ q) s.heap H locs) (ho : o ≤ s.heap.size) (h1 : cells + (kc + mc') ≤ mc) (h2 : slots + (ks + ms') ≤ ms)
    (hr : vx_Run p l e (aRm r mc ms) s m args below meth c H locs cells slots mc' ms' (F0 m pc ls st0) (st.map (a_v o x0)) (a_post o x0 cA D Q' as') (a_xc o x0 cA D QX') (fun q => o ≤ q))
    (k : ∀ v S' V', Q' v S' V' → R T r mc ms Q QX kc ks (pc + 3) lv (v.toList ++ st) S' V') (kx : ∀ E S' V', QX' E S' V' → QX E S' V') :
    W p l e (aRm r mc ms) s m args below meth c H locs cells slots (vx_MQ below (a_post o x0 cA D Q) (a_xc o x0 cA D QX) args s mc ms (fun q => o ≤ q)) (F0 m pc ls st0) := by
  intro Tt hT X
  rcases hr Tt hT X with ⟨v, st₀, t, T', L, h0, X', hL, e1, e2, ⟨⟨v', S', V', hv, hq, hP', hz'⟩, hF⟩, stp⟩ | ⟨q, st₀, t, T', L, E, ce, h0, X', hL, e1, e2, ⟨⟨S', V', hq, hP', hz'⟩, hF⟩, hce, hcv, hcl, stp⟩
  · cases hv
    have hS' : va_S (fun q => o ≤ q) s.heap T'.heap (locs ++ L) := by
      obtain ⟨f1, f2⟩ := hF
      rw [h0] at f1 f2
      refine ⟨by rw [e1]; exact Nat.le_trans hS.1 f1, fun q hq1 hq2 => by rw [e1, f2 q (Nat.lt_of_lt_of_le hq1 hS.1) hq2]; exact hS.2.1 q hq1 hq2, fun q hq => ?_⟩
      rcases List.mem_append.mp hq with h | h
      · exact hS.2.2 q h
      · exact hL q h
    obtain ⟨t2, a1, b1⟩ := k v' S' V' hq p l e s m args below meth c T'.heap (locs ++ L) (cells + mc') (slots + ms') D cA o x0 ls C K hl (by rw [e1]; exact hP') (by rw [e1]; exact hz') hS' ho (by omega) (by omega) T' rfl X'
    refine ⟨t2, stp t2 ?_, b1⟩
    have e9 : (v'.toList ++ st).map (a_v o x0) = (v'.map (a_v o x0)).toList ++ st.map (a_v o x0) := by cases v' <;> rfl
    rw [e9] at a1
    exact a1
  · have hS' : va_S (fun q => o ≤ q) s.heap T'.heap (locs ++ L) := by
      obtain ⟨f1, f2⟩ := hF
      rw [h0] at f1 f2
      refine ⟨by rw [e1]; exact Nat.le_trans hS.1 f1, fun q hq1 hq2 => by rw [e1, f2 q (Nat.lt_of_lt_of_le hq1 hS.1) hq2]; exact hS.2.1 q hq1 hq2, fun q hq => ?_⟩
      rcases List.mem_append.mp hq with h | h
      · exact hS.2.2 q h
      · exact hL q h
    obtain ⟨t2, a1, b1⟩ := vx_out (Qc := a_post o x0 cA D Q) (XC := a_xc o x0 cA D QX) (free := fun q => o ≤ q) (mc := mc) (ms := ms) (below := below) (pc := pc) (ls := ls) (rest := st.map (a_v o x0)) (l := l) (p := p) (e := e) (R := aRm r mc ms) (args := args) (H := T'.heap) (locs := locs ++ L) (cells := cells + mc') (slots := slots + ms') (E := E) (ce := ce) (q := q) (s := s) (m := m) (meth := meth) (c := c)
      (fun x hx => (C.2.2.2.2.2.2.2.2.1 x hx).elim) C.2.2.2.2.2.2.1 (by rw [e1]; exact hce) hcv hcl (fun t9 ht9 _ => ⟨⟨S', V', kx E S' V' hq, by rw [ht9, e1]; exact hP', by rw [ht9, e1]; exact hz'⟩, hS'.F ht9⟩) hS'.2.2 (by omega) (by omega) T' rfl X'
    exact ⟨t2, stp.trans a1, b1⟩
theorem R_callV {T' : aMt} {r' mc' ms' idx n : Nat} {As stk : List Value} {Q' : Option Value → aS → aV → Prop} {QX' : String → aS → aV → Prop} {ci a N0 : Nat} {T0 : u_T}  (hok : aOKi T' n) (hw : Cond.methodLink T.1.cls idx T'.1 ∈ aT) (hc : vwCl[ci]? = some (T'.1.cls, T0, N0)) (hci : ci < 13) (hs : (S.1 a).1 = ci) (ct : CT T' r' mc' ms' (.ref a :: As) S V Q' QX') (hn : As.length = n) (hrr : r' + 1 ≤ r) (hml : T'.2.2.1 ≤ 21) (hst : (st.map fun v => v.category).sum ≤ 8) (d : decode T.2.1 pc = .ok (.invokevirtual idx, 3)) (k : ∀ v S' V', Q' v S' V' → R T r mc ms Q QX kc ks (pc + 3) lv (v.toList ++ st) S' V') (kx : ∀ E S' V', QX' E S' V' → QX E S' V') (hk : stk = As.reverse ++ .ref a :: st := by rfl) : R T r mc ms Q QX (kc + mc') (ks + ms') (pc) (lv) (stk) S V := by
  intro p l e s m args below meth c H locs cells slots D cA o x0 ls C K hl hP hz hS ho h1 h2
  refine R_ran (as' := ((Value.ref (o + a) :: As.map (a_v o x0))).toArray) C K hl hS ho h1 h2 ?_ k kx
  have hG : GoodIn aT (wsV T.1.cls idx T'.1.cls T'.1 (.code T'.1 T'.2.1 T'.2.2.1 T'.2.2.2 :: aT)) := by
    intro w' hw'
    rcases List.mem_append.mp hw' with h | h
    · simp only [List.mem_cons, List.not_mem_nil, or_false] at h
      rcases h with rfl | rfl | rfl | rfl
      · exact aT_good _ hw
      · exact aT_good _ hok.2.1
      · exact aT_good _ hok.2.2
      · exact aT_good _ hok.1.2.2.2.1
    · exact aG hok.1.2.2.2.2 w' h
  exact vx_runV (As := As.map (a_v o x0)) (b := o + a) (C := T'.1.cls) (n := n) C.fix (ct l C.2.2.2.2.2.2.2.2.2 o x0 cA D) (cwV n C.2.2.2.2.1 hG rfl rfl rfl ⟨rfl, hok.1.1, hok.1.2.1, hok.1.2.2.1⟩ ⟨hrr, by show 8 + (T'.2.2.1 + 11) + 40 * r' ≤ 40 * r; omega⟩) ⟨a_blind, va_recv (ci := ci) (q0 := 0) K.1 (va_P_one (hP a _ (a_e_obj (o := o) (x0 := x0) (cA := cA) (g := V a) hs hci))) hc rfl, fun U hU hW => ⟨rfl, by rw [hU]; exact Nat.le_trans ho hS.1, by rw [hU]; exact hP, by rw [hU]; exact hz, a_K.warm hW (fun q hq hq2 => by rw [hU]; exact hS.2.1 q hq hq2) K⟩⟩ rfl (by rw [List.length_map]; exact hn) hl.1 (by rw [hk]; simp [a_v]) (lv_room (by rw [a_cats]; exact hst)) d ⟨by show cells + mc' ≤ mc; omega, by show slots + ms' ≤ ms; omega⟩
theorem R_callV_e {v1 : Option Value} {S1 : aS} {V1 : aV} {T' : aMt} {r' mc' ms' idx n : Nat} {As stk : List Value}  {ci a N0 : Nat} {T0 : u_T}  (hok : aOKi T' n) (hw : Cond.methodLink T.1.cls idx T'.1 ∈ aT) (hc : vwCl[ci]? = some (T'.1.cls, T0, N0)) (hci : ci < 13) (hs : (S.1 a).1 = ci) (ct : CT T' r' mc' ms' (.ref a :: As) S V (aRet v1 S1 V1) aNo) (hn : As.length = n) (hrr : r' + 1 ≤ r) (hml : T'.2.2.1 ≤ 21) (hst : (st.map fun v => v.category).sum ≤ 8) (d : decode T.2.1 pc = .ok (.invokevirtual idx, 3)) (k : R T r mc ms Q QX kc ks (pc + 3) lv (v1.toList ++ st) S1 V1) (hk : stk = As.reverse ++ .ref a :: st := by rfl) : R T r mc ms Q QX (kc + mc') (ks + ms') (pc) (lv) (stk) S V :=
  R_callV hok hw hc hci hs ct hn hrr hml hst d (fun v S' V' h => by obtain ⟨rfl, rfl, rfl⟩ := h; exact k) (fun E S' V' h => h.elim) hk
theorem R_callVN {T' : aMt} {r' mc' ms' idx n : Nat} {As stk : List Value} {Q' : Option Value → aS → aV → Prop} {QX' : String → aS → aV → Prop} {ci a N0 : Nat} {T0 : u_T} {host : String} (hok : aOKi T' n) (hw : Cond.methodLinkNest T.1.cls idx T'.1 host ∈ aN) (hc : vwCl[ci]? = some (T'.1.cls, T0, N0)) (hci : ci < 13) (hs : (S.1 a).1 = ci) (ct : CT T' r' mc' ms' (.ref a :: As) S V Q' QX') (hn : As.length = n) (hrr : r' + 1 ≤ r) (hml : T'.2.2.1 ≤ 21) (hst : (st.map fun v => v.category).sum ≤ 8) (d : decode T.2.1 pc = .ok (.invokevirtual idx, 3)) (k : ∀ v S' V', Q' v S' V' → R T r mc ms Q QX kc ks (pc + 3) lv (v.toList ++ st) S' V') (kx : ∀ E S' V', QX' E S' V' → QX E S' V') (hk : stk = As.reverse ++ .ref a :: st := by rfl) : R T r mc ms Q QX (kc + mc') (ks + ms') (pc) (lv) (stk) S V := by
  intro p l e s m args below meth c H locs cells slots D cA o x0 ls C K hl hP hz hS ho h1 h2
  refine R_ran (as' := ((Value.ref (o + a) :: As.map (a_v o x0))).toArray) C K hl hS ho h1 h2 ?_ k kx
  exact vx_runVN (As := As.map (a_v o x0)) (b := o + a) (C := T'.1.cls) (n := n) C.fix (ct l C.2.2.2.2.2.2.2.2.2 o x0 cA D) ⟨va_cnB n C.2.2.2.2.1 (aG hok.1.2.2.2.2) rfl rfl rfl (K.2.1 _ hw) (C.2.2.2.2.1 _ hok.1.2.2.2.1) ⟨hok.1.1, hok.1.2.1, hok.1.2.2.1⟩ ⟨hrr, by show 8 + (T'.2.2.1 + 11) + 40 * r' ≤ 40 * r; omega⟩, C.2.2.2.2.1 _ hok.2.1, C.2.2.2.2.1 _ hok.2.2⟩ ⟨a_blind, va_recv (ci := ci) (q0 := 0) K.1 (va_P_one (hP a _ (a_e_obj (o := o) (x0 := x0) (cA := cA) (g := V a) hs hci))) hc rfl, fun U hU hW => ⟨rfl, by rw [hU]; exact Nat.le_trans ho hS.1, by rw [hU]; exact hP, by rw [hU]; exact hz, a_K.warm hW (fun q hq hq2 => by rw [hU]; exact hS.2.1 q hq hq2) K⟩⟩ rfl (by rw [List.length_map]; exact hn) hl.1 (by rw [hk]; simp [a_v]) (lv_room (by rw [a_cats]; exact hst)) d ⟨by show cells + mc' ≤ mc; omega, by show slots + ms' ≤ ms; omega⟩
theorem R_callVN_e {v1 : Option Value} {S1 : aS} {V1 : aV} {T' : aMt} {r' mc' ms' idx n : Nat} {As stk : List Value}  {ci a N0 : Nat} {T0 : u_T} {host : String} (hok : aOKi T' n) (hw : Cond.methodLinkNest T.1.cls idx T'.1 host ∈ aN) (hc : vwCl[ci]? = some (T'.1.cls, T0, N0)) (hci : ci < 13) (hs : (S.1 a).1 = ci) (ct : CT T' r' mc' ms' (.ref a :: As) S V (aRet v1 S1 V1) aNo) (hn : As.length = n) (hrr : r' + 1 ≤ r) (hml : T'.2.2.1 ≤ 21) (hst : (st.map fun v => v.category).sum ≤ 8) (d : decode T.2.1 pc = .ok (.invokevirtual idx, 3)) (k : R T r mc ms Q QX kc ks (pc + 3) lv (v1.toList ++ st) S1 V1) (hk : stk = As.reverse ++ .ref a :: st := by rfl) : R T r mc ms Q QX (kc + mc') (ks + ms') (pc) (lv) (stk) S V :=
  R_callVN hok hw hc hci hs ct hn hrr hml hst d (fun v S' V' h => by obtain ⟨rfl, rfl, rfl⟩ := h; exact k) (fun E S' V' h => h.elim) hk
theorem R_callS {T' : aMt} {r' mc' ms' idx n : Nat} {As stk : List Value} {Q' : Option Value → aS → aV → Prop} {QX' : String → aS → aV → Prop}   (hok : aOKs T' n) (hw : Cond.methodLink T.1.cls idx T'.1 ∈ aT) (ho9 : T'.1.cls = T.1.cls) (ct : CT T' r' mc' ms' (As) S V Q' QX') (hn : As.length = n) (hrr : r' + 1 ≤ r) (hml : T'.2.2.1 ≤ 21) (hst : (st.map fun v => v.category).sum ≤ 8) (d : decode T.2.1 pc = .ok (.invokestatic idx, 3)) (k : ∀ v S' V', Q' v S' V' → R T r mc ms Q QX kc ks (pc + 3) lv (v.toList ++ st) S' V') (kx : ∀ E S' V', QX' E S' V' → QX E S' V') (hk : stk = As.reverse ++ st := by rfl) : R T r mc ms Q QX (kc + mc') (ks + ms') (pc) (lv) (stk) S V := by
  intro p l e s m args below meth c H locs cells slots D cA o x0 ls C K hl hP hz hS ho h1 h2
  refine R_ran (as' := ((As.map (a_v o x0))).toArray) C K hl hS ho h1 h2 ?_ k kx
  have hG : GoodIn aT (wsS T.1.cls idx T'.1 (.code T'.1 T'.2.1 T'.2.2.1 T'.2.2.2 :: aT)) := by
    intro w' hw'
    rcases List.mem_append.mp hw' with h | h
    · simp only [List.mem_cons, List.not_mem_nil, or_false] at h
      rcases h with rfl | rfl | rfl
      · exact aT_good _ hw
      · exact aT_good _ hok.2
      · rw [← ho9]; exact aT_good _ hok.1.2.2.2.1
    · exact aG hok.1.2.2.2.2 w' h
  exact vx_runS (As := As.map (a_v o x0)) (n := n) C.fix (ct l C.2.2.2.2.2.2.2.2.2 o x0 cA D) (cwS n C.2.2.2.2.1 hG rfl rfl rfl ⟨ho9, hok.1.1, hok.1.2.1, hok.1.2.2.1⟩ ⟨hrr, by show 8 + (T'.2.2.1 + 11) + 40 * r' ≤ 40 * r; omega⟩) ⟨a_blind, fun U hU hW => ⟨rfl, by rw [hU]; exact Nat.le_trans ho hS.1, by rw [hU]; exact hP, by rw [hU]; exact hz, a_K.warm hW (fun q hq hq2 => by rw [hU]; exact hS.2.1 q hq hq2) K⟩⟩ rfl (by rw [List.length_map]; exact hn) hl.1 (by rw [hk]; simp [a_v]) (lv_room (by rw [a_cats]; exact hst)) d ⟨by show cells + mc' ≤ mc; omega, by show slots + ms' ≤ ms; omega⟩
theorem R_callS_e {v1 : Option Value} {S1 : aS} {V1 : aV} {T' : aMt} {r' mc' ms' idx n : Nat} {As stk : List Value}    (hok : aOKs T' n) (hw : Cond.methodLink T.1.cls idx T'.1 ∈ aT) (ho9 : T'.1.cls = T.1.cls) (ct : CT T' r' mc' ms' (As) S V (aRet v1 S1 V1) aNo) (hn : As.length = n) (hrr : r' + 1 ≤ r) (hml : T'.2.2.1 ≤ 21) (hst : (st.map fun v => v.category).sum ≤ 8) (d : decode T.2.1 pc = .ok (.invokestatic idx, 3)) (k : R T r mc ms Q QX kc ks (pc + 3) lv (v1.toList ++ st) S1 V1) (hk : stk = As.reverse ++ st := by rfl) : R T r mc ms Q QX (kc + mc') (ks + ms') (pc) (lv) (stk) S V :=
  R_callS hok hw ho9 ct hn hrr hml hst d (fun v S' V' h => by obtain ⟨rfl, rfl, rfl⟩ := h; exact k) (fun E S' V' h => h.elim) hk
theorem R_callSN {T' : aMt} {r' mc' ms' idx n : Nat} {As stk : List Value} {Q' : Option Value → aS → aV → Prop} {QX' : String → aS → aV → Prop}  {host : String} (hok : aOKs T' n) (hw : Cond.methodLinkNest T.1.cls idx T'.1 host ∈ aN)  (ct : CT T' r' mc' ms' (As) S V Q' QX') (hn : As.length = n) (hrr : r' + 1 ≤ r) (hml : T'.2.2.1 ≤ 21) (hst : (st.map fun v => v.category).sum ≤ 8) (d : decode T.2.1 pc = .ok (.invokestatic idx, 3)) (k : ∀ v S' V', Q' v S' V' → R T r mc ms Q QX kc ks (pc + 3) lv (v.toList ++ st) S' V') (kx : ∀ E S' V', QX' E S' V' → QX E S' V') (hk : stk = As.reverse ++ st := by rfl) : R T r mc ms Q QX (kc + mc') (ks + ms') (pc) (lv) (stk) S V := by
  intro p l e s m args below meth c H locs cells slots D cA o x0 ls C K hl hP hz hS ho h1 h2
  refine R_ran (as' := ((As.map (a_v o x0))).toArray) C K hl hS ho h1 h2 ?_ k kx
  exact vx_runSN (As := As.map (a_v o x0)) (n := n) C.fix (ct l C.2.2.2.2.2.2.2.2.2 o x0 cA D) ⟨va_cnB n C.2.2.2.2.1 (aG hok.1.2.2.2.2) rfl rfl rfl (K.2.1 _ hw) (C.2.2.2.2.1 _ hok.1.2.2.2.1) ⟨hok.1.1, hok.1.2.1, hok.1.2.2.1⟩ ⟨hrr, by show 8 + (T'.2.2.1 + 11) + 40 * r' ≤ 40 * r; omega⟩, C.2.2.2.2.1 _ hok.2, trivial⟩ ⟨a_blind, fun U hU hW => ⟨rfl, by rw [hU]; exact Nat.le_trans ho hS.1, by rw [hU]; exact hP, by rw [hU]; exact hz, a_K.warm hW (fun q hq hq2 => by rw [hU]; exact hS.2.1 q hq hq2) K⟩⟩ rfl (by rw [List.length_map]; exact hn) hl.1 (by rw [hk]; simp [a_v]) (lv_room (by rw [a_cats]; exact hst)) d ⟨by show cells + mc' ≤ mc; omega, by show slots + ms' ≤ ms; omega⟩
theorem R_callSN_e {v1 : Option Value} {S1 : aS} {V1 : aV} {T' : aMt} {r' mc' ms' idx n : Nat} {As stk : List Value}   {host : String} (hok : aOKs T' n) (hw : Cond.methodLinkNest T.1.cls idx T'.1 host ∈ aN)  (ct : CT T' r' mc' ms' (As) S V (aRet v1 S1 V1) aNo) (hn : As.length = n) (hrr : r' + 1 ≤ r) (hml : T'.2.2.1 ≤ 21) (hst : (st.map fun v => v.category).sum ≤ 8) (d : decode T.2.1 pc = .ok (.invokestatic idx, 3)) (k : R T r mc ms Q QX kc ks (pc + 3) lv (v1.toList ++ st) S1 V1) (hk : stk = As.reverse ++ st := by rfl) : R T r mc ms Q QX (kc + mc') (ks + ms') (pc) (lv) (stk) S V :=
  R_callSN hok hw  ct hn hrr hml hst d (fun v S' V' h => by obtain ⟨rfl, rfl, rfl⟩ := h; exact k) (fun E S' V' h => h.elim) hk
theorem R_callIN {T' : aMt} {r' mc' ms' idx n : Nat} {As stk : List Value} {Q' : Option Value → aS → aV → Prop} {QX' : String → aS → aV → Prop} {a : Nat} {host : String} (hok : aOKc T' n) (hw : Cond.methodLinkNest T.1.cls idx T'.1 host ∈ aN)  (ct : CT T' r' mc' ms' (.ref a :: As) S V Q' QX') (hn : As.length = n) (hrr : r' + 1 ≤ r) (hml : T'.2.2.1 ≤ 21) (hst : (st.map fun v => v.category).sum ≤ 8) (d : decode T.2.1 pc = .ok (.invokespecial idx, 3)) (k : ∀ v S' V', Q' v S' V' → R T r mc ms Q QX kc ks (pc + 3) lv (v.toList ++ st) S' V') (kx : ∀ E S' V', QX' E S' V' → QX E S' V') (hk : stk = As.reverse ++ .ref a :: st := by rfl) : R T r mc ms Q QX (kc + mc') (ks + ms') (pc) (lv) (stk) S V := by
  intro p l e s m args below meth c H locs cells slots D cA o x0 ls C K hl hP hz hS ho h1 h2
  refine R_ran (as' := ((Value.ref (o + a) :: As.map (a_v o x0))).toArray) C K hl hS ho h1 h2 ?_ k kx
  have hcode := hok.1.2.2.2.2
  have ct9 := ct l C.2.2.2.2.2.2.2.2.2 o x0 cA D
  rw [hok.2.2.1] at hcode ct9
  exact vx_runIN (As := As.map (a_v o x0)) (b := o + a) (n := n) C.fix ct9 ⟨va_cnB n C.2.2.2.2.1 (aG hcode) rfl rfl rfl (K.2.1 _ hw) (C.2.2.2.2.1 _ hok.1.2.2.2.1) ⟨hok.1.1, hok.1.2.1, hok.1.2.2.1⟩ ⟨hrr, by show 8 + (T'.2.2.1 + 11) + 40 * r' ≤ 40 * r; omega⟩, hok.2.1, C.2.2.2.2.1 _ hok.2.2.2⟩ ⟨a_blind, fun U hU hW => ⟨rfl, by rw [hU]; exact Nat.le_trans ho hS.1, by rw [hU]; exact hP, by rw [hU]; exact hz, a_K.warm hW (fun q hq hq2 => by rw [hU]; exact hS.2.1 q hq hq2) K⟩⟩ rfl (by rw [List.length_map]; exact hn) hl.1 (by rw [hk]; simp [a_v]) (lv_room (by rw [a_cats]; exact hst)) d ⟨by show cells + mc' ≤ mc; omega, by show slots + ms' ≤ ms; omega⟩
theorem R_callIN_e {v1 : Option Value} {S1 : aS} {V1 : aV} {T' : aMt} {r' mc' ms' idx n : Nat} {As stk : List Value}  {a : Nat} {host : String} (hok : aOKc T' n) (hw : Cond.methodLinkNest T.1.cls idx T'.1 host ∈ aN)  (ct : CT T' r' mc' ms' (.ref a :: As) S V (aRet v1 S1 V1) aNo) (hn : As.length = n) (hrr : r' + 1 ≤ r) (hml : T'.2.2.1 ≤ 21) (hst : (st.map fun v => v.category).sum ≤ 8) (d : decode T.2.1 pc = .ok (.invokespecial idx, 3)) (k : R T r mc ms Q QX kc ks (pc + 3) lv (v1.toList ++ st) S1 V1) (hk : stk = As.reverse ++ .ref a :: st := by rfl) : R T r mc ms Q QX (kc + mc') (ks + ms') (pc) (lv) (stk) S V :=
  R_callIN hok hw ct hn hrr hml hst d (fun v S' V' h => by obtain ⟨rfl, rfl, rfl⟩ := h; exact k) (fun E S' V' h => h.elim) hk
end ACALL
