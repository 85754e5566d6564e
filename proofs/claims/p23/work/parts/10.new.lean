/-! ===== throws, new objects, copies ===== -/
section ANEW
variable {T : aMt} {r mc ms : Nat} {Q : Option Value → aS → aV → Prop} {QX : String → aS → aV → Prop} {kc ks pc : Nat} {lv : List (Option Value)} {st : List Value} {S : aS} {V : aV}

theorem a_cb {N : Nat} {t : FieldType} (h : N ≤ 100000) : N * componentBytes t ≤ 536870912 := by
  have e9 : componentBytes t ≤ 8 := by cases t <;> simp [componentBytes]
  have e8 := Nat.mul_le_mul (Nat.le_refl N) e9
  omega
def aSn (S : aS) (n : Nat) (q : Nat × Nat) : aS := (fun a => if a = n then q else S.1 a, some (n + 1))
def aVn (V : aV) (n : Nat) (g : Nat → Value) : aV := fun a => if a = n then g else V a
theorem a_v_dflt (o : Nat) (x0 : Nat → Nat) (t : FieldType) : a_v o x0 (defaultValue t) = defaultValue t := by cases t <;> rfl
theorem a_P.push {o : Nat} {x0 : Nat → Nat} {cA : Nat → ClassId} {D : va_G} {S : aS} {V : aV} {H H1 : Heap} {n : Nat} {q : Nat × Nat} {g : Nat → Value} (hP : a_P o x0 cA D S V H) (hn : H.size = o + n) (ho : ∀ x : Nat, x < o + n → H1[x]? = H[x]?) (he : ∀ e, a_e o x0 cA q g = some e → va_at D vwCl (o + n, e) H1) : a_P o x0 cA D (aSn S n q) (aVn V n g) H1 := by
  intro b e hb
  by_cases h : b = n
  · subst h
    simp only [aSn, aVn, if_true] at hb
    exact he e hb
  · simp only [aSn, aVn, if_neg h] at hb
    refine (hP b e hb).kept (ho _ ?_)
    have h9 := (hP b e hb).lt
    show o + b < o + n
    rw [← hn]; exact h9
theorem a_Z.push {o : Nat} {S : aS} {H H1 : Heap} {n : Nat} {q : Nat × Nat} (hz : a_Z o S H) (hS : S.2 = some n) (h : H1.size = o + n + 1) : a_Z o (aSn S n q) H1 := by
  intro n' hn'
  cases hn'
  refine ⟨by omega, fun a ha => ?_⟩
  show (if a = n then q else S.1 a) = _
  rw [if_neg (by omega)]
  exact (hz n hS).2 a (by omega)
theorem a_S_push {o n : Nat} {H0 H H1 : Heap} {locs : List Loc} (hS : va_S (fun q => o ≤ q) H0 H locs) (hn : H.size = o + n) (hs : H1.size = o + n + 1) (hk : ∀ x : Nat, x < o + n → H1[x]? = H[x]?) : va_S (fun q => o ≤ q) H0 H1 locs :=
  ⟨Nat.le_trans hS.1 (by omega), fun q h1 h2 => (hk q (by rw [← hn]; exact Nat.lt_of_lt_of_le h1 hS.1)).trans (hS.2.1 q h1 h2), hS.2.2⟩
theorem R_new {ci n N idx : Nat} {C0 : String} {T0 : u_T} (ty0 : Nat → FieldType) (hc : vwCl[ci]? = some (C0, T0, N)) (hci : ci < 13) (hin : ∀ w ∈ u_ws C0 T0 N, w ∈ aT) (hty : ∀ k, k < N → parseFieldDescriptor (T0 k).2.2.1 = some (ty0 k))
    (hw1 : Cond.classLink T.1.cls idx C0 ∈ aT) (hw2 : Cond.instantiable C0 N ∈ aT) (hw3 : Cond.initialized C0 ∈ aT) (d : decode T.2.1 pc = .ok (.new idx, 3)) (hS2 : S.2 = some n)
    (kk : R T r mc ms Q QX (kc) (ks) (pc + 3) (lv) (.ref n :: st) (aSn S n (ci, 0)) (aVn V n fun k => defaultValue (ty0 k))) : R T r mc ms Q QX (kc + 1) (ks + N) (pc) (lv) (st) S V := by
  intro p l e s m args below meth c H locs cells slots D cA o x0 ls C K hl hP hz hS ho h1 h2
  have hn := (hz n hS2).1
  have hKn := K.1.1 ci _ hc
  refine W.newcK C.1 C.2.1 C.2.2.2.1 (C.2.2.2.2.1 _ hw1) (C.2.2.2.2.1 _ hw2) (C.2.2.2.2.1 _ hw3) rfl d (by show cells + 1 ≤ mc; omega) (by show slots + N ≤ ms; omega) hKn.2.1 hn fun H1 kC hkC e1 z1 o1 => ?_
  refine kk p l e s m args below meth c H1 locs (cells + 1) (slots + N) D cA o x0 ls C K hl (hP.push hn o1 fun ev hev => ?_) (hz.push hS2 z1) (a_S_push hS hn z1 o1) ho (by omega) (by omega)
  rw [a_e_obj rfl hci, a_nf_of hc] at hev
  cases hev
  refine ⟨_, hc, (u_born ty0 C.2.2.2.2.1 hin hKn hkC e1 hty).to (fun j hj => ?_)⟩
  rw [a_vfs hj, a_v_dflt]
theorem R_newaC {n N : Nat} {x : Int32} (hw : Cond.arrayClass .char ∈ aT) (d : decode T.2.1 pc = .ok (.newarray .char, 2)) (hS2 : S.2 = some n) (hx : ¬ x < 0) (hN : x.toNatClampNeg = N) (hb : N ≤ 100000)
    (kk : R T r mc ms Q QX (kc) (ks) (pc + 2) (lv) (.ref n :: st) (aSn S n (13, N)) (aVn V n fun _ => .int 0)) : R T r mc ms Q QX (kc + 1) (ks + N) (pc) (lv) (.int x :: st) S V := by
  intro p l e s m args below meth c H locs cells slots D cA o x0 ls C K hl hP hz hS ho h1 h2
  have hn := (hz n hS2).1
  refine va_newaK (atype := .char) C.1 C.2.1 (C.2.2.2.2.1 _ hw) rfl d rfl hx hN (a_cb hb) (by show cells + 1 ≤ mc; omega) (by show slots + N ≤ ms; omega) hn fun H1 cA' e1 z1 o1 hAr hNm => ?_
  have hcA : cA 13 = cA' := Option.some.inj ((K.1.2 0 _ rfl).2.symm.trans hNm)
  refine kk p l e s m args below meth c H1 locs (cells + 1) (slots + N) D cA o x0 ls C K hl (hP.push hn o1 fun ev hev => ?_) (hz.push hS2 z1) (a_S_push hS hn z1 o1) ho (by omega) (by omega)
  rw [a_e_int rfl (by decide) (by decide)] at hev
  cases hev
  rw [hcA]
  exact e1
theorem R_newaI {n N : Nat} {x : Int32} (hw : Cond.arrayClass .int ∈ aT) (d : decode T.2.1 pc = .ok (.newarray .int, 2)) (hS2 : S.2 = some n) (hx : ¬ x < 0) (hN : x.toNatClampNeg = N) (hb : N ≤ 100000)
    (kk : R T r mc ms Q QX (kc) (ks) (pc + 2) (lv) (.ref n :: st) (aSn S n (14, N)) (aVn V n fun _ => .int 0)) : R T r mc ms Q QX (kc + 1) (ks + N) (pc) (lv) (.int x :: st) S V := by
  intro p l e s m args below meth c H locs cells slots D cA o x0 ls C K hl hP hz hS ho h1 h2
  have hn := (hz n hS2).1
  refine va_newaK (atype := .int) C.1 C.2.1 (C.2.2.2.2.1 _ hw) rfl d rfl hx hN (a_cb hb) (by show cells + 1 ≤ mc; omega) (by show slots + N ≤ ms; omega) hn fun H1 cA' e1 z1 o1 hAr hNm => ?_
  have hcA : cA 14 = cA' := Option.some.inj ((K.1.2 1 _ rfl).2.symm.trans hNm)
  refine kk p l e s m args below meth c H1 locs (cells + 1) (slots + N) D cA o x0 ls C K hl (hP.push hn o1 fun ev hev => ?_) (hz.push hS2 z1) (a_S_push hS hn z1 o1) ho (by omega) (by omega)
  rw [a_e_int rfl (by decide) (by decide)] at hev
  cases hev
  rw [hcA]
  exact e1
theorem R_anew_16 {n N idx : Nat} {x : Int32} (hw : Cond.classLink T.1.cls idx "MergePost$Address" ∈ aT) (hw2 : Cond.arrayOver (.object "MergePost$Address") ∈ aN) (d : decode T.2.1 pc = .ok (.anewarray idx, 3)) (hS2 : S.2 = some n) (hx : ¬ x < 0) (hN : x.toNatClampNeg = N) (hb : N ≤ 100000)
    (kk : R T r mc ms Q QX (kc) (ks) (pc + 3) (lv) (.ref n :: st) (aSn S n (16, N)) (aVn V n fun _ => .null)) : R T r mc ms Q QX (kc + 1) (ks + N) (pc) (lv) (.int x :: st) S V := by
  intro p l e s m args below meth c H locs cells slots D cA o x0 ls C K hl hP hz hS ho h1 h2
  have hn := (hz n hS2).1
  subst hN
  refine W.anew C.1 C.2.1 C.2.2.2.1 (C.2.2.2.2.1 _ hw) (K.2.1 _ hw2) rfl d rfl hx (by omega) (by show cells + 1 ≤ mc; omega) (by show slots + _ ≤ ms; omega) fun cA' kA comp f1 f2 f3 f4 => ?_
  obtain ⟨kA2, comp2, g1, g2, g3, g4⟩ := (K.1.2 3 _ rfl).2
  have hcA : cA 16 = cA' := Option.some.inj (g4.symm.trans f1)
  generalize hH1 : H.push ({ cls := cA', slots := Array.replicate x.toNatClampNeg .null, vm := .none } : Cell) = H1
  have z1 : H1.size = o + n + 1 := by rw [← hH1, Array.size_push, hn]
  have e1 : H1[o + n]? = some (arrV cA' x.toNatClampNeg (fun _ => .null)) := by rw [← hn, ← hH1, Array.getElem?_push_size, ← arrV_new]
  have o1 : ∀ q : Nat, q < o + n → H1[q]? = H[q]? := fun q hq => by rw [← hH1, Array.getElem?_push, if_neg (Nat.ne_of_lt (by rw [hn]; exact hq))]
  rw [hn]
  refine kk p l e s m args below meth c H1 locs (cells + 1) (slots + x.toNatClampNeg) D cA o x0 ls C K hl (hP.push hn o1 fun ev hev => ?_) (hz.push hS2 z1) (a_S_push hS hn z1 o1) ho (by omega) (by omega)
  rw [a_e_ref rfl (by decide) (by decide)] at hev
  cases hev
  rw [hcA]
  exact e1
theorem R_anew_17 {n N idx : Nat} {x : Int32} (hw : Cond.classLink T.1.cls idx "MergePost$Letter" ∈ aT) (hw2 : Cond.arrayOver (.object "MergePost$Letter") ∈ aN) (d : decode T.2.1 pc = .ok (.anewarray idx, 3)) (hS2 : S.2 = some n) (hx : ¬ x < 0) (hN : x.toNatClampNeg = N) (hb : N ≤ 100000)
    (kk : R T r mc ms Q QX (kc) (ks) (pc + 3) (lv) (.ref n :: st) (aSn S n (17, N)) (aVn V n fun _ => .null)) : R T r mc ms Q QX (kc + 1) (ks + N) (pc) (lv) (.int x :: st) S V := by
  intro p l e s m args below meth c H locs cells slots D cA o x0 ls C K hl hP hz hS ho h1 h2
  have hn := (hz n hS2).1
  subst hN
  refine W.anew C.1 C.2.1 C.2.2.2.1 (C.2.2.2.2.1 _ hw) (K.2.1 _ hw2) rfl d rfl hx (by omega) (by show cells + 1 ≤ mc; omega) (by show slots + _ ≤ ms; omega) fun cA' kA comp f1 f2 f3 f4 => ?_
  obtain ⟨kA2, comp2, g1, g2, g3, g4⟩ := (K.1.2 4 _ rfl).2
  have hcA : cA 17 = cA' := Option.some.inj (g4.symm.trans f1)
  generalize hH1 : H.push ({ cls := cA', slots := Array.replicate x.toNatClampNeg .null, vm := .none } : Cell) = H1
  have z1 : H1.size = o + n + 1 := by rw [← hH1, Array.size_push, hn]
  have e1 : H1[o + n]? = some (arrV cA' x.toNatClampNeg (fun _ => .null)) := by rw [← hn, ← hH1, Array.getElem?_push_size, ← arrV_new]
  have o1 : ∀ q : Nat, q < o + n → H1[q]? = H[q]? := fun q hq => by rw [← hH1, Array.getElem?_push, if_neg (Nat.ne_of_lt (by rw [hn]; exact hq))]
  rw [hn]
  refine kk p l e s m args below meth c H1 locs (cells + 1) (slots + x.toNatClampNeg) D cA o x0 ls C K hl (hP.push hn o1 fun ev hev => ?_) (hz.push hS2 z1) (a_S_push hS hn z1 o1) ho (by omega) (by omega)
  rw [a_e_ref rfl (by decide) (by decide)] at hev
  cases hev
  rw [hcA]
  exact e1
theorem R_anew_18 {n N idx : Nat} {x : Int32} (hw : Cond.classLink T.1.cls idx "MergePost$Run" ∈ aT) (hw2 : Cond.arrayOver (.object "MergePost$Run") ∈ aN) (d : decode T.2.1 pc = .ok (.anewarray idx, 3)) (hS2 : S.2 = some n) (hx : ¬ x < 0) (hN : x.toNatClampNeg = N) (hb : N ≤ 100000)
    (kk : R T r mc ms Q QX (kc) (ks) (pc + 3) (lv) (.ref n :: st) (aSn S n (18, N)) (aVn V n fun _ => .null)) : R T r mc ms Q QX (kc + 1) (ks + N) (pc) (lv) (.int x :: st) S V := by
  intro p l e s m args below meth c H locs cells slots D cA o x0 ls C K hl hP hz hS ho h1 h2
  have hn := (hz n hS2).1
  subst hN
  refine W.anew C.1 C.2.1 C.2.2.2.1 (C.2.2.2.2.1 _ hw) (K.2.1 _ hw2) rfl d rfl hx (by omega) (by show cells + 1 ≤ mc; omega) (by show slots + _ ≤ ms; omega) fun cA' kA comp f1 f2 f3 f4 => ?_
  obtain ⟨kA2, comp2, g1, g2, g3, g4⟩ := (K.1.2 5 _ rfl).2
  have hcA : cA 18 = cA' := Option.some.inj (g4.symm.trans f1)
  generalize hH1 : H.push ({ cls := cA', slots := Array.replicate x.toNatClampNeg .null, vm := .none } : Cell) = H1
  have z1 : H1.size = o + n + 1 := by rw [← hH1, Array.size_push, hn]
  have e1 : H1[o + n]? = some (arrV cA' x.toNatClampNeg (fun _ => .null)) := by rw [← hn, ← hH1, Array.getElem?_push_size, ← arrV_new]
  have o1 : ∀ q : Nat, q < o + n → H1[q]? = H[q]? := fun q hq => by rw [← hH1, Array.getElem?_push, if_neg (Nat.ne_of_lt (by rw [hn]; exact hq))]
  rw [hn]
  refine kk p l e s m args below meth c H1 locs (cells + 1) (slots + x.toNatClampNeg) D cA o x0 ls C K hl (hP.push hn o1 fun ev hev => ?_) (hz.push hS2 z1) (a_S_push hS hn z1 o1) ho (by omega) (by omega)
  rw [a_e_ref rfl (by decide) (by decide)] at hev
  cases hev
  rw [hcA]
  exact e1
theorem R_anew_19 {n N idx : Nat} {x : Int32} (hw : Cond.classLink T.1.cls idx "MergePost$Signs" ∈ aT) (hw2 : Cond.arrayOver (.object "MergePost$Signs") ∈ aN) (d : decode T.2.1 pc = .ok (.anewarray idx, 3)) (hS2 : S.2 = some n) (hx : ¬ x < 0) (hN : x.toNatClampNeg = N) (hb : N ≤ 100000)
    (kk : R T r mc ms Q QX (kc) (ks) (pc + 3) (lv) (.ref n :: st) (aSn S n (19, N)) (aVn V n fun _ => .null)) : R T r mc ms Q QX (kc + 1) (ks + N) (pc) (lv) (.int x :: st) S V := by
  intro p l e s m args below meth c H locs cells slots D cA o x0 ls C K hl hP hz hS ho h1 h2
  have hn := (hz n hS2).1
  subst hN
  refine W.anew C.1 C.2.1 C.2.2.2.1 (C.2.2.2.2.1 _ hw) (K.2.1 _ hw2) rfl d rfl hx (by omega) (by show cells + 1 ≤ mc; omega) (by show slots + _ ≤ ms; omega) fun cA' kA comp f1 f2 f3 f4 => ?_
  obtain ⟨kA2, comp2, g1, g2, g3, g4⟩ := (K.1.2 6 _ rfl).2
  have hcA : cA 19 = cA' := Option.some.inj (g4.symm.trans f1)
  generalize hH1 : H.push ({ cls := cA', slots := Array.replicate x.toNatClampNeg .null, vm := .none } : Cell) = H1
  have z1 : H1.size = o + n + 1 := by rw [← hH1, Array.size_push, hn]
  have e1 : H1[o + n]? = some (arrV cA' x.toNatClampNeg (fun _ => .null)) := by rw [← hn, ← hH1, Array.getElem?_push_size, ← arrV_new]
  have o1 : ∀ q : Nat, q < o + n → H1[q]? = H[q]? := fun q hq => by rw [← hH1, Array.getElem?_push, if_neg (Nat.ne_of_lt (by rw [hn]; exact hq))]
  rw [hn]
  refine kk p l e s m args below meth c H1 locs (cells + 1) (slots + x.toNatClampNeg) D cA o x0 ls C K hl (hP.push hn o1 fun ev hev => ?_) (hz.push hS2 z1) (a_S_push hS hn z1 o1) ho (by omega) (by omega)
  rw [a_e_ref rfl (by decide) (by decide)] at hev
  cases hev
  rw [hcA]
  exact e1
theorem R_anew_20 {n N idx : Nat} {x : Int32} (hw : Cond.classLink T.1.cls idx "MergePost$Template" ∈ aT) (hw2 : Cond.arrayOver (.object "MergePost$Template") ∈ aN) (d : decode T.2.1 pc = .ok (.anewarray idx, 3)) (hS2 : S.2 = some n) (hx : ¬ x < 0) (hN : x.toNatClampNeg = N) (hb : N ≤ 100000)
    (kk : R T r mc ms Q QX (kc) (ks) (pc + 3) (lv) (.ref n :: st) (aSn S n (20, N)) (aVn V n fun _ => .null)) : R T r mc ms Q QX (kc + 1) (ks + N) (pc) (lv) (.int x :: st) S V := by
  intro p l e s m args below meth c H locs cells slots D cA o x0 ls C K hl hP hz hS ho h1 h2
  have hn := (hz n hS2).1
  subst hN
  refine W.anew C.1 C.2.1 C.2.2.2.1 (C.2.2.2.2.1 _ hw) (K.2.1 _ hw2) rfl d rfl hx (by omega) (by show cells + 1 ≤ mc; omega) (by show slots + _ ≤ ms; omega) fun cA' kA comp f1 f2 f3 f4 => ?_
  obtain ⟨kA2, comp2, g1, g2, g3, g4⟩ := (K.1.2 7 _ rfl).2
  have hcA : cA 20 = cA' := Option.some.inj (g4.symm.trans f1)
  generalize hH1 : H.push ({ cls := cA', slots := Array.replicate x.toNatClampNeg .null, vm := .none } : Cell) = H1
  have z1 : H1.size = o + n + 1 := by rw [← hH1, Array.size_push, hn]
  have e1 : H1[o + n]? = some (arrV cA' x.toNatClampNeg (fun _ => .null)) := by rw [← hn, ← hH1, Array.getElem?_push_size, ← arrV_new]
  have o1 : ∀ q : Nat, q < o + n → H1[q]? = H[q]? := fun q hq => by rw [← hH1, Array.getElem?_push, if_neg (Nat.ne_of_lt (by rw [hn]; exact hq))]
  rw [hn]
  refine kk p l e s m args below meth c H1 locs (cells + 1) (slots + x.toNatClampNeg) D cA o x0 ls C K hl (hP.push hn o1 fun ev hev => ?_) (hz.push hS2 z1) (a_S_push hS hn z1 o1) ho (by omega) (by omega)
  rw [a_e_ref rfl (by decide) (by decide)] at hev
  cases hev
  rw [hcA]
  exact e1
end ANEW
