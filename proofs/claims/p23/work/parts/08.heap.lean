/-! ===== rows over the memory: fields, arrays, ends, calls ===== -/
section AHEAP
variable {T : aMt} {r mc ms : Nat} {Q : Option Value → aS → aV → Prop} {QX : String → aS → aV → Prop} {kc ks pc : Nat} {lv : List (Option Value)} {st : List Value} {S : aS} {V : aV}
theorem a_Z.put {o : Nat} {H H1 : Heap} (hz : a_Z o S H) (h : H1.size = H.size) : a_Z o S H1 := fun n hn => ⟨h.trans (hz n hn).1, (hz n hn).2⟩
theorem a_vfs {o N : Nat} {x0 : Nat → Nat} {g : Nat → Value} {j : Nat} (h : j < N) : vp_V ((List.range N).map fun k => a_v o x0 (g k)) j = a_v o x0 (g j) := by
  unfold vp_V
  rw [List.getD_eq_getElem?_getD, List.getElem?_map, List.getElem?_range h]
  rfl
theorem R_get {ci k idx a N : Nat} {C0 : String} {T0 : u_T} {v : Value} (hc : vwCl[ci]? = some (C0, T0, N)) (hk : k < N) (hci : ci < 13) (hin : ∀ w ∈ u_ws C0 T0 N, w ∈ aT) (hw : Cond.fieldLink T.1.cls idx (T0 k).1 (T0 k).2.1 (T0 k).2.2.1 ∈ aT)
    (d : decode T.2.1 pc = .ok (.getfield idx, 3)) (hs : (S.1 a).1 = ci) (hv : V a k = v) (kk : R T r mc ms Q QX (kc) (ks) (pc + 3) (lv) (v :: st) S V) : R T r mc ms Q QX (kc) (ks) (pc) (lv) (.ref a :: st) S V := by
  intro p l e s m args below meth c H locs cells slots D cA o x0 ls C K hl hP hz hS ho h1 h2
  have he := a_e_obj (o := o) (x0 := x0) (cA := cA) (g := V a) hs hci
  refine va_get (ci := ci) (v := a_v o x0 v) C.1 C.2.1 C.2.2.2.2.1 hin C.2.2.2.1 K.1 (va_P_one (hP a _ he)) 0 rfl hc k hk (C.2.2.2.2.1 _ hw) (fun _ h => h) ?_ d (kk p l e s m args below meth c H locs cells slots D cA o x0 ls C K hl hP hz hS ho h1 h2)
  rw [a_nf_of hc, List.getElem?_map, List.getElem?_range hk, ← hv]
  rfl
theorem R_getN {ci k idx a N : Nat} {C0 : String} {host : String} {T0 : u_T} {v : Value} (hc : vwCl[ci]? = some (C0, T0, N)) (hk : k < N) (hci : ci < 13) (hin : ∀ w ∈ u_ws C0 T0 N, w ∈ aT) (hw : Cond.fieldLinkNest T.1.cls idx (T0 k).1 (T0 k).2.1 (T0 k).2.2.1 host ∈ aN)
    (d : decode T.2.1 pc = .ok (.getfield idx, 3)) (hs : (S.1 a).1 = ci) (hv : V a k = v) (kk : R T r mc ms Q QX (kc) (ks) (pc + 3) (lv) (v :: st) S V) : R T r mc ms Q QX (kc) (ks) (pc) (lv) (.ref a :: st) S V := by
  intro p l e s m args below meth c H locs cells slots D cA o x0 ls C K hl hP hz hS ho h1 h2
  have he := a_e_obj (o := o) (x0 := x0) (cA := cA) (g := V a) hs hci
  refine va_getN (ci := ci) (v := a_v o x0 v) C.1 C.2.1 C.2.2.2.2.1 hin C.2.2.2.1 K.1 (va_P_one (hP a _ he)) 0 rfl hc k hk (va_Nw.use rfl (K.2.1 _ hw)) (fun _ h => h) ?_ d (kk p l e s m args below meth c H locs cells slots D cA o x0 ls C K hl hP hz hS ho h1 h2)
  rw [a_nf_of hc, List.getElem?_map, List.getElem?_range hk, ← hv]
  rfl
theorem R_put {ci k idx a N : Nat} {C0 : String} {T0 : u_T} {ty0 : Nat → FieldType} {ty : FieldType} {v : Value} (hc : vwCl[ci]? = some (C0, T0, N)) (hk : k < N) (hci : ci < 13) (hin : ∀ w ∈ u_ws C0 T0 N, w ∈ aT) (hty : ∀ k, k < N → parseFieldDescriptor (T0 k).2.2.1 = some (ty0 k)) (hnm : ∀ a, a < N → ∀ b, b < N → a ≠ b → (T0 a).2.1 ≠ (T0 b).2.1)
    (hw : Cond.fieldLink T.1.cls idx (T0 k).1 (T0 k).2.1 (T0 k).2.2.1 ∈ aT) (hfin : (T0 k).2.2.2 = false) (hd : parseFieldDescriptor (T0 k).2.2.1 = some ty) (hn : narrow ty v = v) (hfit : fits ty v = true)
    (d : decode T.2.1 pc = .ok (.putfield idx, 3)) (hs : (S.1 a).1 = ci) (kk : R T r mc ms Q QX (kc) (ks) (pc + 3) (lv) (st) S (a_up V a k v)) : R T r mc ms Q QX (kc) (ks) (pc) (lv) (v :: .ref a :: st) S V := by
  intro p l e s m args below meth c H locs cells slots D cA o x0 ls C K hl hP hz hS ho h1 h2
  have hap := va_apart (own := T.1.cls) C.2.2.2.2.1 hin ty0 hty hnm K.1 hc
  obtain ⟨q, g1, cell, q1, q2, q3, q4⟩ := hP a _ (a_e_obj (o := o) (x0 := x0) (cA := cA) (g := V a) hs hci)
  have hq : q = (C0, T0, N) := Option.some.inj (g1.symm.trans hc)
  subst hq
  rw [a_nf_of hc] at q4
  obtain ⟨hSl, hfc, kC, hkC, hkind⟩ := K.1.1 ci _ hc
  obtain ⟨cf, kf, fi, f, hi, hsl⟩ := hSl k hk
  have hlay := C.2.2.2.2.1 _ (hin _ (u_in_lay hk))
  unfold u_lay at hlay
  rw [if_neg (by rw [hfin]; decide)] at hlay
  have hst := (u_facts hfc hkC (u_lays C.2.2.2.2.1 hin hk) hi).1
  have h6 := u_store hfc hkC hkind hlay hi hd (a_narrow (o := o) (x0 := x0) hn) (a_fits (o := o) (x0 := x0) hfit)
  refine W.putK C.1 C.2.1 (f := f) ⟨C.2.2.2.1, C.2.2.2.2.1 _ hw, ⟨_, _, _, hi⟩, hst⟩ (by rw [q2]; exact h6) q1 q3 (by rw [hsl]; exact k2_hasslot (q4 k hk)) rfl rfl d fun H' e1 e2 e3 => ?_
  rw [hsl] at e1 ⊢
  refine kk p l e s m args below meth c H' _ cells slots D cA o x0 ls C K hl (hP.upd (fun b hb => a_up_row hb) e3 (fun ev hev => ?_)) (hz.put e2) (hS.put e2 e3 (Nat.le_add_right o a)) ho h1 h2
  rw [a_e_obj hs hci, a_nf_of hc] at hev
  cases hev
  refine ⟨_, hc, t_OB.to (V := updV (vp_V ((List.range N).map fun k => a_v o x0 (V a k))) k (a_v o x0 v)) ⟨_, e1, q2, q3, t_set q4 hap hk (a_v o x0 v)⟩ (fun j hj => ?_)⟩
  rw [vp_updV_set (by simpa using hk) (a_v o x0 v) j]
  exact congrArg (fun q => vp_V q j) (a_up_fields o x0 hk).symm
theorem R_putN {ci k idx a N : Nat} {C0 : String} {host : String} {T0 : u_T} {ty0 : Nat → FieldType} {ty : FieldType} {v : Value} (hc : vwCl[ci]? = some (C0, T0, N)) (hk : k < N) (hci : ci < 13) (hin : ∀ w ∈ u_ws C0 T0 N, w ∈ aT) (hty : ∀ k, k < N → parseFieldDescriptor (T0 k).2.2.1 = some (ty0 k)) (hnm : ∀ a, a < N → ∀ b, b < N → a ≠ b → (T0 a).2.1 ≠ (T0 b).2.1)
    (hw : Cond.fieldLinkNest T.1.cls idx (T0 k).1 (T0 k).2.1 (T0 k).2.2.1 host ∈ aN) (hfin : (T0 k).2.2.2 = false) (hd : parseFieldDescriptor (T0 k).2.2.1 = some ty) (hn : narrow ty v = v) (hfit : fits ty v = true)
    (d : decode T.2.1 pc = .ok (.putfield idx, 3)) (hs : (S.1 a).1 = ci) (kk : R T r mc ms Q QX (kc) (ks) (pc + 3) (lv) (st) S (a_up V a k v)) : R T r mc ms Q QX (kc) (ks) (pc) (lv) (v :: .ref a :: st) S V := by
  intro p l e s m args below meth c H locs cells slots D cA o x0 ls C K hl hP hz hS ho h1 h2
  have hap := va_apart (own := T.1.cls) C.2.2.2.2.1 hin ty0 hty hnm K.1 hc
  obtain ⟨q, g1, cell, q1, q2, q3, q4⟩ := hP a _ (a_e_obj (o := o) (x0 := x0) (cA := cA) (g := V a) hs hci)
  have hq : q = (C0, T0, N) := Option.some.inj (g1.symm.trans hc)
  subst hq
  rw [a_nf_of hc] at q4
  obtain ⟨hSl, hfc, kC, hkC, hkind⟩ := K.1.1 ci _ hc
  obtain ⟨cf, kf, fi, f, hi, hsl⟩ := hSl k hk
  have hlay := C.2.2.2.2.1 _ (hin _ (u_in_lay hk))
  unfold u_lay at hlay
  rw [if_neg (by rw [hfin]; decide)] at hlay
  have hst := (u_facts hfc hkC (u_lays C.2.2.2.2.1 hin hk) hi).1
  have h6 := u_store hfc hkC hkind hlay hi hd (a_narrow (o := o) (x0 := x0) hn) (a_fits (o := o) (x0 := x0) hfit)
  refine va_WputK C.1 C.2.1 (f := f) C.2.2.2.1 (va_Nw.use rfl (K.2.1 _ hw)) hi hst (by rw [q2]; exact h6) q1 q3 (by rw [hsl]; exact k2_hasslot (q4 k hk)) rfl rfl d fun H' e1 e2 e3 => ?_
  rw [hsl] at e1 ⊢
  refine kk p l e s m args below meth c H' _ cells slots D cA o x0 ls C K hl (hP.upd (fun b hb => a_up_row hb) e3 (fun ev hev => ?_)) (hz.put e2) (hS.put e2 e3 (Nat.le_add_right o a)) ho h1 h2
  rw [a_e_obj hs hci, a_nf_of hc] at hev
  cases hev
  refine ⟨_, hc, t_OB.to (V := updV (vp_V ((List.range N).map fun k => a_v o x0 (V a k))) k (a_v o x0 v)) ⟨_, e1, q2, q3, t_set q4 hap hk (a_v o x0 v)⟩ (fun j hj => ?_)⟩
  rw [vp_updV_set (by simpa using hk) (a_v o x0 v) j]
  exact congrArg (fun q => vp_V q j) (a_up_fields o x0 hk).symm
theorem R_putF {ci k idx a N : Nat} {C0 : String} {T0 : u_T} {ty0 : Nat → FieldType} {ty : FieldType} {v : Value} (hc : vwCl[ci]? = some (C0, T0, N)) (hk : k < N) (hci : ci < 13) (hin : ∀ w ∈ u_ws C0 T0 N, w ∈ aT) (hty : ∀ k, k < N → parseFieldDescriptor (T0 k).2.2.1 = some (ty0 k)) (hnm : ∀ a, a < N → ∀ b, b < N → a ≠ b → (T0 a).2.1 ≠ (T0 b).2.1)
    (hw : Cond.fieldLink T.1.cls idx (T0 k).1 (T0 k).2.1 (T0 k).2.2.1 ∈ aT) (hfin : (T0 k).2.2.2 = true) (hin2 : T.1.name = "<init>") (hdecl : (T0 k).1 = T.1.cls) (hd : parseFieldDescriptor (T0 k).2.2.1 = some ty) (hn : narrow ty v = v) (hfit : fits ty v = true)
    (d : decode T.2.1 pc = .ok (.putfield idx, 3)) (hs : (S.1 a).1 = ci) (kk : R T r mc ms Q QX (kc) (ks) (pc + 3) (lv) (st) S (a_up V a k v)) : R T r mc ms Q QX (kc) (ks) (pc) (lv) (v :: .ref a :: st) S V := by
  intro p l e s m args below meth c H locs cells slots D cA o x0 ls C K hl hP hz hS ho h1 h2
  have hap := va_apart (own := T.1.cls) C.2.2.2.2.1 hin ty0 hty hnm K.1 hc
  obtain ⟨q, g1, cell, q1, q2, q3, q4⟩ := hP a _ (a_e_obj (o := o) (x0 := x0) (cA := cA) (g := V a) hs hci)
  have hq : q = (C0, T0, N) := Option.some.inj (g1.symm.trans hc)
  subst hq
  rw [a_nf_of hc] at q4
  obtain ⟨hSl, hfc, kC, hkC, hkind⟩ := K.1.1 ci _ hc
  obtain ⟨cf, kf, fi, f, hi, hsl⟩ := hSl k hk
  have hlay := C.2.2.2.2.1 _ (hin _ (u_in_lay hk))
  unfold u_lay at hlay
  rw [if_pos hfin] at hlay
  have hst := (u_facts hfc hkC (u_lays C.2.2.2.2.1 hin hk) hi).1
  have hcf : m.cls = cf := by
    obtain ⟨_, _, c', _, _, _, -, -, hf', -, -, -, hown2, -⟩ := Cond.laysFinal_spec hlay
    have e1 : c' = cf := by have := hi.symm.trans hf'; simp at this; exact this.1.symm
    rw [hdecl] at hown2
    rw [← e1]; exact Option.some.inj (C.2.2.2.1.symm.trans hown2)
  have h6 := u_fits hfc hkC hkind (Or.inr hlay) hi hd (a_narrow (o := o) (x0 := x0) hn) (a_fits (o := o) (x0 := x0) hfit)
  refine W.putFinK C.1 C.2.1 C.2.2.2.1 (C.2.2.2.2.1 _ hw) hi hst hcf (C.2.2.2.2.2.2.2.1.trans hin2) (by rw [q2]; exact h6) q1 q3 (by rw [hsl]; exact k2_hasslot (q4 k hk)) rfl rfl d fun H' e1 e2 e3 => ?_
  rw [hsl] at e1 ⊢
  refine kk p l e s m args below meth c H' _ cells slots D cA o x0 ls C K hl (hP.upd (fun b hb => a_up_row hb) e3 (fun ev hev => ?_)) (hz.put e2) (hS.put e2 e3 (Nat.le_add_right o a)) ho h1 h2
  rw [a_e_obj hs hci, a_nf_of hc] at hev
  cases hev
  refine ⟨_, hc, t_OB.to (V := updV (vp_V ((List.range N).map fun k => a_v o x0 (V a k))) k (a_v o x0 v)) ⟨_, e1, q2, q3, t_set q4 hap hk (a_v o x0 v)⟩ (fun j hj => ?_)⟩
  rw [vp_updV_set (by simpa using hk) (a_v o x0 v) j]
  exact congrArg (fun q => vp_V q j) (a_up_fields o x0 hk).symm
theorem R_iald {a N n : Nat} {i x : Int32} (d : decode T.2.1 pc = .ok (.iaload, 1)) (hs : S.1 a = (14, N)) (hin : vp_in i N) (hi : i.toNatClampNeg = n) (hv : V a n = .int x) (kk : R T r mc ms Q QX (kc) (ks) (pc + 1) (lv) (.int x :: st) S V) : R T r mc ms Q QX (kc) (ks) (pc) (lv) (.int i :: .ref a :: st) S V := by
  intro p l e s m args below meth c H locs cells slots D cA o x0 ls C K hl hP hz hS ho h1 h2
  have he := a_e_int (o := o) (x0 := x0) (cA := cA) (g := V a) hs (by decide) (by decide)
  refine va_iald C.1 C.2.1 K.1 (va_P_one (hP a _ he)) 0 1 rfl rfl hin d ?_
  rw [hi]
  show W _ _ _ _ _ _ _ _ _ _ _ _ _ _ _ (F0 m (pc + 1) ls (.int (a_i (V a n)) :: _))
  rw [hv]
  exact kk p l e s m args below meth c H locs cells slots D cA o x0 ls C K hl hP hz hS ho h1 h2
theorem R_cald {a N n : Nat} {i x : Int32} (d : decode T.2.1 pc = .ok (.caload, 1)) (hs : S.1 a = (13, N)) (hin : vp_in i N) (hi : i.toNatClampNeg = n) (hv : V a n = .int x) (kk : R T r mc ms Q QX (kc) (ks) (pc + 1) (lv) (.int x :: st) S V) : R T r mc ms Q QX (kc) (ks) (pc) (lv) (.int i :: .ref a :: st) S V := by
  intro p l e s m args below meth c H locs cells slots D cA o x0 ls C K hl hP hz hS ho h1 h2
  have he := a_e_int (o := o) (x0 := x0) (cA := cA) (g := V a) hs (by decide) (by decide)
  refine va_cald C.1 C.2.1 K.1 (va_P_one (hP a _ he)) 0 0 rfl rfl hin d ?_
  rw [hi]
  show W _ _ _ _ _ _ _ _ _ _ _ _ _ _ _ (F0 m (pc + 1) ls (.int (a_i (V a n)) :: _))
  rw [hv]
  exact kk p l e s m args below meth c H locs cells slots D cA o x0 ls C K hl hP hz hS ho h1 h2
theorem R_aald_16 {a N n b : Nat} {i : Int32} (d : decode T.2.1 pc = .ok (.aaload, 1)) (hs : S.1 a = (16, N)) (hin : vp_in i N) (hi : i.toNatClampNeg = n) (hv : V a n = .ref b) (kk : R T r mc ms Q QX (kc) (ks) (pc + 1) (lv) (.ref b :: st) S V) : R T r mc ms Q QX (kc) (ks) (pc) (lv) (.int i :: .ref a :: st) S V := by
  intro p l e s m args below meth c H locs cells slots D cA o x0 ls C K hl hP hz hS ho h1 h2
  have he := a_e_ref (o := o) (x0 := x0) (cA := cA) (g := V a) hs (by decide) (by decide)
  refine va_aldq C.1 C.2.1 K.1 (va_P_one (hP a _ he)) 0 3 rfl rfl hin d ?_
  rw [hi]
  show W _ _ _ _ _ _ _ _ _ _ _ _ _ _ _ (F0 m (pc + 1) ls (va_rf (a_r o (V a n)) :: _))
  rw [hv]
  exact kk p l e s m args below meth c H locs cells slots D cA o x0 ls C K hl hP hz hS ho h1 h2
theorem R_aald_17 {a N n b : Nat} {i : Int32} (d : decode T.2.1 pc = .ok (.aaload, 1)) (hs : S.1 a = (17, N)) (hin : vp_in i N) (hi : i.toNatClampNeg = n) (hv : V a n = .ref b) (kk : R T r mc ms Q QX (kc) (ks) (pc + 1) (lv) (.ref b :: st) S V) : R T r mc ms Q QX (kc) (ks) (pc) (lv) (.int i :: .ref a :: st) S V := by
  intro p l e s m args below meth c H locs cells slots D cA o x0 ls C K hl hP hz hS ho h1 h2
  have he := a_e_ref (o := o) (x0 := x0) (cA := cA) (g := V a) hs (by decide) (by decide)
  refine va_aldq C.1 C.2.1 K.1 (va_P_one (hP a _ he)) 0 4 rfl rfl hin d ?_
  rw [hi]
  show W _ _ _ _ _ _ _ _ _ _ _ _ _ _ _ (F0 m (pc + 1) ls (va_rf (a_r o (V a n)) :: _))
  rw [hv]
  exact kk p l e s m args below meth c H locs cells slots D cA o x0 ls C K hl hP hz hS ho h1 h2
theorem R_aald_18 {a N n b : Nat} {i : Int32} (d : decode T.2.1 pc = .ok (.aaload, 1)) (hs : S.1 a = (18, N)) (hin : vp_in i N) (hi : i.toNatClampNeg = n) (hv : V a n = .ref b) (kk : R T r mc ms Q QX (kc) (ks) (pc + 1) (lv) (.ref b :: st) S V) : R T r mc ms Q QX (kc) (ks) (pc) (lv) (.int i :: .ref a :: st) S V := by
  intro p l e s m args below meth c H locs cells slots D cA o x0 ls C K hl hP hz hS ho h1 h2
  have he := a_e_ref (o := o) (x0 := x0) (cA := cA) (g := V a) hs (by decide) (by decide)
  refine va_aldq C.1 C.2.1 K.1 (va_P_one (hP a _ he)) 0 5 rfl rfl hin d ?_
  rw [hi]
  show W _ _ _ _ _ _ _ _ _ _ _ _ _ _ _ (F0 m (pc + 1) ls (va_rf (a_r o (V a n)) :: _))
  rw [hv]
  exact kk p l e s m args below meth c H locs cells slots D cA o x0 ls C K hl hP hz hS ho h1 h2
theorem R_aald_19 {a N n b : Nat} {i : Int32} (d : decode T.2.1 pc = .ok (.aaload, 1)) (hs : S.1 a = (19, N)) (hin : vp_in i N) (hi : i.toNatClampNeg = n) (hv : V a n = .ref b) (kk : R T r mc ms Q QX (kc) (ks) (pc + 1) (lv) (.ref b :: st) S V) : R T r mc ms Q QX (kc) (ks) (pc) (lv) (.int i :: .ref a :: st) S V := by
  intro p l e s m args below meth c H locs cells slots D cA o x0 ls C K hl hP hz hS ho h1 h2
  have he := a_e_ref (o := o) (x0 := x0) (cA := cA) (g := V a) hs (by decide) (by decide)
  refine va_aldq C.1 C.2.1 K.1 (va_P_one (hP a _ he)) 0 6 rfl rfl hin d ?_
  rw [hi]
  show W _ _ _ _ _ _ _ _ _ _ _ _ _ _ _ (F0 m (pc + 1) ls (va_rf (a_r o (V a n)) :: _))
  rw [hv]
  exact kk p l e s m args below meth c H locs cells slots D cA o x0 ls C K hl hP hz hS ho h1 h2
theorem R_aald_20 {a N n b : Nat} {i : Int32} (d : decode T.2.1 pc = .ok (.aaload, 1)) (hs : S.1 a = (20, N)) (hin : vp_in i N) (hi : i.toNatClampNeg = n) (hv : V a n = .ref b) (kk : R T r mc ms Q QX (kc) (ks) (pc + 1) (lv) (.ref b :: st) S V) : R T r mc ms Q QX (kc) (ks) (pc) (lv) (.int i :: .ref a :: st) S V := by
  intro p l e s m args below meth c H locs cells slots D cA o x0 ls C K hl hP hz hS ho h1 h2
  have he := a_e_ref (o := o) (x0 := x0) (cA := cA) (g := V a) hs (by decide) (by decide)
  refine va_aldq C.1 C.2.1 K.1 (va_P_one (hP a _ he)) 0 7 rfl rfl hin d ?_
  rw [hi]
  show W _ _ _ _ _ _ _ _ _ _ _ _ _ _ _ (F0 m (pc + 1) ls (va_rf (a_r o (V a n)) :: _))
  rw [hv]
  exact kk p l e s m args below meth c H locs cells slots D cA o x0 ls C K hl hP hz hS ho h1 h2
theorem R_iast {a N n : Nat} {i x : Int32} (d : decode T.2.1 pc = .ok (.iastore, 1)) (hs : S.1 a = (14, N)) (hin : vp_in i N) (hi : i.toNatClampNeg = n) (kk : R T r mc ms Q QX (kc) (ks) (pc + 1) (lv) (st) S (a_up V a n (.int x))) : R T r mc ms Q QX (kc) (ks) (pc) (lv) (.int x :: .int i :: .ref a :: st) S V := by
  intro p l e s m args below meth c H locs cells slots D cA o x0 ls C K hl hP hz hS ho h1 h2
  have he := hP a _ (a_e_int (o := o) (x0 := x0) (cA := cA) (g := V a) hs (by decide) (by decide))
  refine W.iast C.1 C.2.1 he ((K.1.2 1 _ rfl).1 N (fun j => .int (a_i (V a j)))) (fun q => by cases q) (by show ¬ (i < 0 ∨ (arrV _ _ _).slots.size ≤ _); rw [arrV_size]; exact hin) rfl rfl d fun H1 e0 z oq => ?_
  subst hi
  refine kk p l e s m args below meth c H1 _ cells slots D cA o x0 ls C K hl (hP.upd (fun b hb => a_up_row hb) oq (fun ev hev => ?_)) (hz.put z) (hS.put z oq (Nat.le_add_right o a)) ho h1 h2
  rw [a_e_int hs (by decide) (by decide)] at hev
  cases hev
  show H1[o + a]? = some (vp_cell _ _)
  rw [e0]
  rw [vp_cell_i, a_up_ints]
  show some ((arrV (cA 14) N fun j => .int (a_i (V a j))).setSlot _ _) = _
  rw [arrV_store]
  show some (arrV (cA 14) N (updV _ _ _)) = some (arrV (cA 14) N fun j => .int (upd (fun j => a_i (V a j)) i.toNatClampNeg x j))
  congr 2
  funext q
  by_cases hq : q = i.toNatClampNeg
  · subst hq
    simp [updV, upd]
  · simp [updV, upd, hq]
theorem R_cast {a N n : Nat} {i x : Int32} (d : decode T.2.1 pc = .ok (.castore, 1)) (hs : S.1 a = (13, N)) (hin : vp_in i N) (hi : i.toNatClampNeg = n) (hx : vp_nar .char x = x) (kk : R T r mc ms Q QX (kc) (ks) (pc + 1) (lv) (st) S (a_up V a n (.int x))) : R T r mc ms Q QX (kc) (ks) (pc) (lv) (.int x :: .int i :: .ref a :: st) S V := by
  intro p l e s m args below meth c H locs cells slots D cA o x0 ls C K hl hP hz hS ho h1 h2
  have he := hP a _ (a_e_int (o := o) (x0 := x0) (cA := cA) (g := V a) hs (by decide) (by decide))
  refine W.cast C.1 C.2.1 he ((K.1.2 0 _ rfl).1 N (fun j => .int (a_i (V a j)))) (fun q => by cases q) (by show ¬ (i < 0 ∨ (arrV _ _ _).slots.size ≤ _); rw [arrV_size]; exact hin) rfl rfl d fun H1 e0 z oq => ?_
  subst hi
  refine kk p l e s m args below meth c H1 _ cells slots D cA o x0 ls C K hl (hP.upd (fun b hb => a_up_row hb) oq (fun ev hev => ?_)) (hz.put z) (hS.put z oq (Nat.le_add_right o a)) ho h1 h2
  rw [a_e_int hs (by decide) (by decide)] at hev
  cases hev
  show H1[o + a]? = some (vp_cell _ _)
  rw [e0]
  rw [vp_cell_i, a_up_ints]
  show some ((arrV (cA 13) N fun j => .int (a_i (V a j))).setSlot _ _) = _
  rw [arrV_store]
  show some (arrV (cA 13) N (updV _ _ _)) = some (arrV (cA 13) N fun j => .int (upd (fun j => a_i (V a j)) i.toNatClampNeg x j))
  congr 2
  funext q
  by_cases hq : q = i.toNatClampNeg
  · subst hq
    simp only [updV, upd, if_true]; first | (rw [if_pos rfl]; exact congrArg Value.int hx) | exact congrArg Value.int hx
  · simp [updV, upd, hq]
theorem R_aast_16 {a N n b : Nat} {i : Int32} (d : decode T.2.1 pc = .ok (.aastore, 1)) (hs : S.1 a = (16, N)) (hin : vp_in i N) (hi : i.toNatClampNeg = n) (hb : (S.1 b).1 = 0) (kk : R T r mc ms Q QX (kc) (ks) (pc + 1) (lv) (st) S (a_up V a n (.ref b))) : R T r mc ms Q QX (kc) (ks) (pc) (lv) (.ref b :: .int i :: .ref a :: st) S V := by
  intro p l e s m args below meth c H locs cells slots D cA o x0 ls C K hl hP hz hS ho h1 h2
  have he := hP a _ (a_e_ref (o := o) (x0 := x0) (cA := cA) (g := V a) hs (by decide) (by decide))
  obtain ⟨q', hq', cellV, g1, g2, g3, -⟩ := hP b _ (a_e_obj (o := o) (x0 := x0) (cA := cA) (g := V b) hb (by decide))
  cases hq'
  have hlt : i.toNatClampNeg < N := Nat.not_le.mp fun q => hin (Or.inr q)
  have h0 : ¬ i < 0 := fun q => hin (Or.inl q)
  have hcls := (K.1.1 0 _ rfl).2
  obtain ⟨kA, comp, k1, k2, k3, -⟩ := (K.1.2 3 _ rfl).2
  have hcomp : comp = D.1 0 := Option.some.inj (k3.symm.trans hcls.1)
  subst hcomp
  obtain ⟨kC, hkC, -⟩ := hcls.2
  refine W.aast C.1 C.2.1 he (fun q h => by cases h) (fun h => by cases h) k1 k2 rfl hkC ⟨h0, by show _ < (arrV _ _ _).slots.size; rw [arrV_size]; exact hlt⟩ g1 (fun q h => by rw [g3] at h; cases h) (by rw [g2]; exact hkC) (by rw [g2]; exact va_assign hcls) rfl rfl d fun H1 e0 z oq => ?_
  subst hi
  refine kk p l e s m args below meth c H1 _ cells slots D cA o x0 ls C K hl (hP.upd (fun b hb => a_up_row hb) oq (fun ev hev => ?_)) (hz.put z) (hS.put z oq (Nat.le_add_right o a)) ho h1 h2
  rw [a_e_ref hs (by decide) (by decide)] at hev
  cases hev
  show H1[o + a]? = some (vp_cell _ _)
  rw [e0]
  rw [vp_cell_q, a_up_refs]
  show some ((arrV (cA 16) N fun j => va_rf (a_r o (V a j))).setSlot _ _) = _
  rw [arrV_store]
  show some (arrV (cA 16) N (updV _ _ _)) = some (arrV (cA 16) N fun j => va_rf (va_up (fun j => a_r o (V a j)) i.toNatClampNeg (some (o + b)) j))
  congr 2
  funext q
  by_cases hq : q = i.toNatClampNeg
  · subst hq
    simp [updV, va_up, va_rf]
  · simp [updV, va_up, hq]
theorem R_aast_17 {a N n b : Nat} {i : Int32} (d : decode T.2.1 pc = .ok (.aastore, 1)) (hs : S.1 a = (17, N)) (hin : vp_in i N) (hi : i.toNatClampNeg = n) (hb : (S.1 b).1 = 4) (kk : R T r mc ms Q QX (kc) (ks) (pc + 1) (lv) (st) S (a_up V a n (.ref b))) : R T r mc ms Q QX (kc) (ks) (pc) (lv) (.ref b :: .int i :: .ref a :: st) S V := by
  intro p l e s m args below meth c H locs cells slots D cA o x0 ls C K hl hP hz hS ho h1 h2
  have he := hP a _ (a_e_ref (o := o) (x0 := x0) (cA := cA) (g := V a) hs (by decide) (by decide))
  obtain ⟨q', hq', cellV, g1, g2, g3, -⟩ := hP b _ (a_e_obj (o := o) (x0 := x0) (cA := cA) (g := V b) hb (by decide))
  cases hq'
  have hlt : i.toNatClampNeg < N := Nat.not_le.mp fun q => hin (Or.inr q)
  have h0 : ¬ i < 0 := fun q => hin (Or.inl q)
  have hcls := (K.1.1 4 _ rfl).2
  obtain ⟨kA, comp, k1, k2, k3, -⟩ := (K.1.2 4 _ rfl).2
  have hcomp : comp = D.1 4 := Option.some.inj (k3.symm.trans hcls.1)
  subst hcomp
  obtain ⟨kC, hkC, -⟩ := hcls.2
  refine W.aast C.1 C.2.1 he (fun q h => by cases h) (fun h => by cases h) k1 k2 rfl hkC ⟨h0, by show _ < (arrV _ _ _).slots.size; rw [arrV_size]; exact hlt⟩ g1 (fun q h => by rw [g3] at h; cases h) (by rw [g2]; exact hkC) (by rw [g2]; exact va_assign hcls) rfl rfl d fun H1 e0 z oq => ?_
  subst hi
  refine kk p l e s m args below meth c H1 _ cells slots D cA o x0 ls C K hl (hP.upd (fun b hb => a_up_row hb) oq (fun ev hev => ?_)) (hz.put z) (hS.put z oq (Nat.le_add_right o a)) ho h1 h2
  rw [a_e_ref hs (by decide) (by decide)] at hev
  cases hev
  show H1[o + a]? = some (vp_cell _ _)
  rw [e0]
  rw [vp_cell_q, a_up_refs]
  show some ((arrV (cA 17) N fun j => va_rf (a_r o (V a j))).setSlot _ _) = _
  rw [arrV_store]
  show some (arrV (cA 17) N (updV _ _ _)) = some (arrV (cA 17) N fun j => va_rf (va_up (fun j => a_r o (V a j)) i.toNatClampNeg (some (o + b)) j))
  congr 2
  funext q
  by_cases hq : q = i.toNatClampNeg
  · subst hq
    simp [updV, va_up, va_rf]
  · simp [updV, va_up, hq]
theorem R_aast_18 {a N n b : Nat} {i : Int32} (d : decode T.2.1 pc = .ok (.aastore, 1)) (hs : S.1 a = (18, N)) (hin : vp_in i N) (hi : i.toNatClampNeg = n) (hb : (S.1 b).1 = 8) (kk : R T r mc ms Q QX (kc) (ks) (pc + 1) (lv) (st) S (a_up V a n (.ref b))) : R T r mc ms Q QX (kc) (ks) (pc) (lv) (.ref b :: .int i :: .ref a :: st) S V := by
  intro p l e s m args below meth c H locs cells slots D cA o x0 ls C K hl hP hz hS ho h1 h2
  have he := hP a _ (a_e_ref (o := o) (x0 := x0) (cA := cA) (g := V a) hs (by decide) (by decide))
  obtain ⟨q', hq', cellV, g1, g2, g3, -⟩ := hP b _ (a_e_obj (o := o) (x0 := x0) (cA := cA) (g := V b) hb (by decide))
  cases hq'
  have hlt : i.toNatClampNeg < N := Nat.not_le.mp fun q => hin (Or.inr q)
  have h0 : ¬ i < 0 := fun q => hin (Or.inl q)
  have hcls := (K.1.1 8 _ rfl).2
  obtain ⟨kA, comp, k1, k2, k3, -⟩ := (K.1.2 5 _ rfl).2
  have hcomp : comp = D.1 8 := Option.some.inj (k3.symm.trans hcls.1)
  subst hcomp
  obtain ⟨kC, hkC, -⟩ := hcls.2
  refine W.aast C.1 C.2.1 he (fun q h => by cases h) (fun h => by cases h) k1 k2 rfl hkC ⟨h0, by show _ < (arrV _ _ _).slots.size; rw [arrV_size]; exact hlt⟩ g1 (fun q h => by rw [g3] at h; cases h) (by rw [g2]; exact hkC) (by rw [g2]; exact va_assign hcls) rfl rfl d fun H1 e0 z oq => ?_
  subst hi
  refine kk p l e s m args below meth c H1 _ cells slots D cA o x0 ls C K hl (hP.upd (fun b hb => a_up_row hb) oq (fun ev hev => ?_)) (hz.put z) (hS.put z oq (Nat.le_add_right o a)) ho h1 h2
  rw [a_e_ref hs (by decide) (by decide)] at hev
  cases hev
  show H1[o + a]? = some (vp_cell _ _)
  rw [e0]
  rw [vp_cell_q, a_up_refs]
  show some ((arrV (cA 18) N fun j => va_rf (a_r o (V a j))).setSlot _ _) = _
  rw [arrV_store]
  show some (arrV (cA 18) N (updV _ _ _)) = some (arrV (cA 18) N fun j => va_rf (va_up (fun j => a_r o (V a j)) i.toNatClampNeg (some (o + b)) j))
  congr 2
  funext q
  by_cases hq : q = i.toNatClampNeg
  · subst hq
    simp [updV, va_up, va_rf]
  · simp [updV, va_up, hq]
theorem R_aast_19 {a N n b : Nat} {i : Int32} (d : decode T.2.1 pc = .ok (.aastore, 1)) (hs : S.1 a = (19, N)) (hin : vp_in i N) (hi : i.toNatClampNeg = n) (hb : (S.1 b).1 = 9) (kk : R T r mc ms Q QX (kc) (ks) (pc + 1) (lv) (st) S (a_up V a n (.ref b))) : R T r mc ms Q QX (kc) (ks) (pc) (lv) (.ref b :: .int i :: .ref a :: st) S V := by
  intro p l e s m args below meth c H locs cells slots D cA o x0 ls C K hl hP hz hS ho h1 h2
  have he := hP a _ (a_e_ref (o := o) (x0 := x0) (cA := cA) (g := V a) hs (by decide) (by decide))
  obtain ⟨q', hq', cellV, g1, g2, g3, -⟩ := hP b _ (a_e_obj (o := o) (x0 := x0) (cA := cA) (g := V b) hb (by decide))
  cases hq'
  have hlt : i.toNatClampNeg < N := Nat.not_le.mp fun q => hin (Or.inr q)
  have h0 : ¬ i < 0 := fun q => hin (Or.inl q)
  have hcls := (K.1.1 9 _ rfl).2
  obtain ⟨kA, comp, k1, k2, k3, -⟩ := (K.1.2 6 _ rfl).2
  have hcomp : comp = D.1 9 := Option.some.inj (k3.symm.trans hcls.1)
  subst hcomp
  obtain ⟨kC, hkC, -⟩ := hcls.2
  refine W.aast C.1 C.2.1 he (fun q h => by cases h) (fun h => by cases h) k1 k2 rfl hkC ⟨h0, by show _ < (arrV _ _ _).slots.size; rw [arrV_size]; exact hlt⟩ g1 (fun q h => by rw [g3] at h; cases h) (by rw [g2]; exact hkC) (by rw [g2]; exact va_assign hcls) rfl rfl d fun H1 e0 z oq => ?_
  subst hi
  refine kk p l e s m args below meth c H1 _ cells slots D cA o x0 ls C K hl (hP.upd (fun b hb => a_up_row hb) oq (fun ev hev => ?_)) (hz.put z) (hS.put z oq (Nat.le_add_right o a)) ho h1 h2
  rw [a_e_ref hs (by decide) (by decide)] at hev
  cases hev
  show H1[o + a]? = some (vp_cell _ _)
  rw [e0]
  rw [vp_cell_q, a_up_refs]
  show some ((arrV (cA 19) N fun j => va_rf (a_r o (V a j))).setSlot _ _) = _
  rw [arrV_store]
  show some (arrV (cA 19) N (updV _ _ _)) = some (arrV (cA 19) N fun j => va_rf (va_up (fun j => a_r o (V a j)) i.toNatClampNeg (some (o + b)) j))
  congr 2
  funext q
  by_cases hq : q = i.toNatClampNeg
  · subst hq
    simp [updV, va_up, va_rf]
  · simp [updV, va_up, hq]
theorem R_aast_20 {a N n b : Nat} {i : Int32} (d : decode T.2.1 pc = .ok (.aastore, 1)) (hs : S.1 a = (20, N)) (hin : vp_in i N) (hi : i.toNatClampNeg = n) (hb : (S.1 b).1 = 10) (kk : R T r mc ms Q QX (kc) (ks) (pc + 1) (lv) (st) S (a_up V a n (.ref b))) : R T r mc ms Q QX (kc) (ks) (pc) (lv) (.ref b :: .int i :: .ref a :: st) S V := by
  intro p l e s m args below meth c H locs cells slots D cA o x0 ls C K hl hP hz hS ho h1 h2
  have he := hP a _ (a_e_ref (o := o) (x0 := x0) (cA := cA) (g := V a) hs (by decide) (by decide))
  obtain ⟨q', hq', cellV, g1, g2, g3, -⟩ := hP b _ (a_e_obj (o := o) (x0 := x0) (cA := cA) (g := V b) hb (by decide))
  cases hq'
  have hlt : i.toNatClampNeg < N := Nat.not_le.mp fun q => hin (Or.inr q)
  have h0 : ¬ i < 0 := fun q => hin (Or.inl q)
  have hcls := (K.1.1 10 _ rfl).2
  obtain ⟨kA, comp, k1, k2, k3, -⟩ := (K.1.2 7 _ rfl).2
  have hcomp : comp = D.1 10 := Option.some.inj (k3.symm.trans hcls.1)
  subst hcomp
  obtain ⟨kC, hkC, -⟩ := hcls.2
  refine W.aast C.1 C.2.1 he (fun q h => by cases h) (fun h => by cases h) k1 k2 rfl hkC ⟨h0, by show _ < (arrV _ _ _).slots.size; rw [arrV_size]; exact hlt⟩ g1 (fun q h => by rw [g3] at h; cases h) (by rw [g2]; exact hkC) (by rw [g2]; exact va_assign hcls) rfl rfl d fun H1 e0 z oq => ?_
  subst hi
  refine kk p l e s m args below meth c H1 _ cells slots D cA o x0 ls C K hl (hP.upd (fun b hb => a_up_row hb) oq (fun ev hev => ?_)) (hz.put z) (hS.put z oq (Nat.le_add_right o a)) ho h1 h2
  rw [a_e_ref hs (by decide) (by decide)] at hev
  cases hev
  show H1[o + a]? = some (vp_cell _ _)
  rw [e0]
  rw [vp_cell_q, a_up_refs]
  show some ((arrV (cA 20) N fun j => va_rf (a_r o (V a j))).setSlot _ _) = _
  rw [arrV_store]
  show some (arrV (cA 20) N (updV _ _ _)) = some (arrV (cA 20) N fun j => va_rf (va_up (fun j => a_r o (V a j)) i.toNatClampNeg (some (o + b)) j))
  congr 2
  funext q
  by_cases hq : q = i.toNatClampNeg
  · subst hq
    simp [updV, va_up, va_rf]
  · simp [updV, va_up, hq]
theorem R_alen {a N cls : Nat} {v : Int32} (d : decode T.2.1 pc = .ok (.arraylength, 1)) (hs : S.1 a = (cls, N)) (h13 : 13 ≤ cls) (h16 : cls < 16) (hv : Int32.ofNat N = v) (kk : R T r mc ms Q QX (kc) (ks) (pc + 1) (lv) (.int v :: st) S V) : R T r mc ms Q QX (kc) (ks) (pc) (lv) (.ref a :: st) S V := by
  intro p l e s m args below meth c H locs cells slots D cA o x0 ls C K hl hP hz hS ho h1 h2
  have he := a_e_int (o := o) (x0 := x0) (cA := cA) (g := V a) hs (by omega) h16
  rcases (show cls = 13 ∨ cls = 14 ∨ cls = 15 by omega) with rfl | rfl | rfl
  · exact va_alen C.1 C.2.1 K.1 (va_P_one (hP a _ he)) 0 0 rfl rfl hv d (kk p l e s m args below meth c H locs cells slots D cA o x0 ls C K hl hP hz hS ho h1 h2)
  · exact va_alen C.1 C.2.1 K.1 (va_P_one (hP a _ he)) 0 1 rfl rfl hv d (kk p l e s m args below meth c H locs cells slots D cA o x0 ls C K hl hP hz hS ho h1 h2)
  · exact va_alen C.1 C.2.1 K.1 (va_P_one (hP a _ he)) 0 2 rfl rfl hv d (kk p l e s m args below meth c H locs cells slots D cA o x0 ls C K hl hP hz hS ho h1 h2)
theorem R_fin {o : Nat} {x0 : Nat → Nat} {cA : Nat → ClassId} {D : va_G} {s t : State} {args : Array Value} {H : Heap} {locs : List Loc} {v : Option Value} (hP : a_P o x0 cA D S V H) (hz : a_Z o S H) (hS : va_S (fun q => o ≤ q) s.heap H locs) (ht : t.heap = H) (hq : Q v S V) : a_post o x0 cA D Q args s (.returned (v.map (a_v o x0))) t :=
  ⟨⟨v, S, V, rfl, hq, by rw [ht]; exact hP, by rw [ht]; exact hz⟩, hS.F ht⟩
theorem R_iret {v : Int32} (hr : T.2.2.2 = some .int) (d : decode T.2.1 pc = .ok (.ireturn, 1)) (hq : Q (some (.int v)) S V) : R T r mc ms Q QX (kc) (ks) (pc) (lv) ([.int v]) S V := by
  intro p l e s m args below meth c H locs cells slots D cA o x0 ls C K hl hP hz hS ho h1 h2
  refine W.widen (k := mc) (n := ms) (by omega) (by omega) (vx_ret ?_)
  exact W.iret C.1 C.2.1 (C.2.2.2.2.2.1.trans hr) (fun t ht hW => R_fin (v := some (.int v)) hP hz hS ht hq) hS.2.2 d C.2.2.2.2.2.2.1
theorem R_zret {v : Int32} {ty : FieldType} (hr : T.2.2.2 = some ty) (hn : narrow ty (.int v) = .int v) (d : decode T.2.1 pc = .ok (.ireturn, 1)) (hq : Q (some (.int v)) S V) : R T r mc ms Q QX (kc) (ks) (pc) (lv) ([.int v]) S V := by
  intro p l e s m args below meth c H locs cells slots D cA o x0 ls C K hl hP hz hS ho h1 h2
  refine W.widen (k := mc) (n := ms) (by omega) (by omega) (vx_ret ?_)
  exact W.zret C.1 C.2.1 (C.2.2.2.2.2.1.trans hr) hn (fun t ht hW => R_fin (v := some (.int v)) hP hz hS ht hq) hS.2.2 d C.2.2.2.2.2.2.1
theorem R_lret {v : Int64} (hr : T.2.2.2 = some .long) (d : decode T.2.1 pc = .ok (.lreturn, 1)) (hq : Q (some (.long v)) S V) : R T r mc ms Q QX (kc) (ks) (pc) (lv) ([.long v]) S V := by
  intro p l e s m args below meth c H locs cells slots D cA o x0 ls C K hl hP hz hS ho h1 h2
  refine W.widen (k := mc) (n := ms) (by omega) (by omega) (vx_ret ?_)
  exact W.lret C.1 C.2.1 (C.2.2.2.2.2.1.trans hr) (fun t ht hW => R_fin (v := some (.long v)) hP hz hS ht hq) hS.2.2 d C.2.2.2.2.2.2.1
theorem R_fret {v : UInt32} (hr : T.2.2.2 = some .float) (d : decode T.2.1 pc = .ok (.freturn, 1)) (hq : Q (some (.float v)) S V) : R T r mc ms Q QX (kc) (ks) (pc) (lv) ([.float v]) S V := by
  intro p l e s m args below meth c H locs cells slots D cA o x0 ls C K hl hP hz hS ho h1 h2
  refine W.widen (k := mc) (n := ms) (by omega) (by omega) (vx_ret ?_)
  exact W.fret C.1 C.2.1 (C.2.2.2.2.2.1.trans hr) (fun t ht hW => R_fin (v := some (.float v)) hP hz hS ht hq) hS.2.2 d C.2.2.2.2.2.2.1
theorem R_aret {v : Nat} {cl : String} (hr : T.2.2.2 = some (.object cl)) (d : decode T.2.1 pc = .ok (.areturn, 1)) (hq : Q (some (.ref v)) S V) : R T r mc ms Q QX (kc) (ks) (pc) (lv) ([.ref v]) S V := by
  intro p l e s m args below meth c H locs cells slots D cA o x0 ls C K hl hP hz hS ho h1 h2
  refine W.widen (k := mc) (n := ms) (by omega) (by omega) (vx_ret ?_)
  exact W.aret (v := .ref (o + v)) C.1 C.2.1 (C.2.2.2.2.2.1.trans hr) (Or.inl ⟨_, rfl⟩) (Or.inr ⟨_, rfl⟩) (fun t ht hW => R_fin (v := some (.ref v)) hP hz hS ht hq) hS.2.2 d C.2.2.2.2.2.2.1
theorem R_vret (hr : T.2.2.2 = none) (d : decode T.2.1 pc = .ok (.return_, 1)) (hq : Q none S V) : R T r mc ms Q QX (kc) (ks) (pc) (lv) ([]) S V := by
  intro p l e s m args below meth c H locs cells slots D cA o x0 ls C K hl hP hz hS ho h1 h2
  refine W.widen (k := mc) (n := ms) (by omega) (by omega) (vx_ret ?_)
  exact W.vret C.1 C.2.1 (C.2.2.2.2.2.1.trans hr) (fun t ht hW => R_fin (v := none) hP hz hS ht hq) hS.2.2 d C.2.2.2.2.2.2.1
theorem R_objinit {idx a : Nat} (hw1 : Cond.methodLink T.1.cls idx Lib.objectInit ∈ aT) (hw2 : Cond.instanceMethod Lib.objectInit ∈ aT) (hw3 : Cond.code Lib.objectInit ⟨#[0xb1]⟩ 1 none ∈ aT) (d : decode T.2.1 pc = .ok (.invokespecial idx, 3)) (hr : 1 ≤ r) (hst : (st.map fun v => v.category).sum ≤ 8) (kk : R T r mc ms Q QX (kc) (ks) (pc + 3) (lv) (st) S V) : R T r mc ms Q QX (kc) (ks) (pc) (lv) (.ref a :: st) S V := by
  intro p l e s m args below meth c H locs cells slots D cA o x0 ls C K hl hP hz hS ho h1 h2
  refine W.objInit C.1 C.2.1 C.2.2.2.1 (C.2.2.2.2.1 _ hw1) (C.2.2.2.2.1 _ hw2) (C.2.2.2.2.1 _ hw3) rfl (hl.1.trans C.2.2.1.symm) rfl d hr ?_ (kk p l e s m args below meth c H locs cells slots D cA o x0 ls C K hl hP hz hS ho h1 h2)
  have e9 : ((st.map (a_v o x0)).map fun v => v.category) = st.map fun v => v.category := by
    rw [List.map_map]
    exact List.map_congr_left fun v _ => a_v_cat o x0 v
  show 2 * 0 + ((st.map (a_v o x0)).map fun v => v.category).sum + 12 ≤ 40 * r
  rw [e9]
  omega
theorem a_cats (o : Nat) (x0 : Nat → Nat) (st : List Value) : ((st.map (a_v o x0)).map fun v => v.category) = st.map fun v => v.category := by
  rw [List.map_map]
  exact List.map_congr_left fun v _ => a_v_cat o x0 v
theorem R_min {idx : Nat} {x y v : Int32} (hw1 : Cond.methodLink T.1.cls idx Lib.Math.min.name ∈ aT) (hw2 : Cond.static Lib.Math.min.name ∈ aT) (hw3 : Cond.initialized "java/lang/Math" ∈ aT) (hw4 : Cond.code Lib.Math.min.name Lib.Math.min.code 2 (some .int) ∈ aT) (d : decode T.2.1 pc = .ok (.invokestatic idx, 3)) (hr : 1 ≤ r) (hst : (st.map fun v => v.category).sum ≤ 8) (hv : (if y < x then y else x) = v) (kk : R T r mc ms Q QX (kc) (ks) (pc + 3) (lv) (.int v :: st) S V) : R T r mc ms Q QX (kc) (ks) (pc) (lv) (.int y :: .int x :: st) S V := by
  intro p l e s m args below meth c H locs cells slots D cA o x0 ls C K hl hP hz hS ho h1 h2
  subst hv
  refine va_mmin C.1 C.2.1 (C.2.2.1.trans hl.1.symm) C.2.2.2.1 (C.2.2.2.2.1 _ hw1) (C.2.2.2.2.1 _ hw2) (C.2.2.2.2.1 _ hw3) (C.2.2.2.2.1 _ hw4) hr (by rw [a_cats]; show _ ≤ 40 * r; omega) (by show cells ≤ mc; omega) (by show slots ≤ ms; omega) d (kk p l e s m args below meth c H locs cells slots D cA o x0 ls C K hl hP hz hS ho h1 h2)
theorem R_max {idx : Nat} {x y v : Int32} (hw1 : Cond.methodLink T.1.cls idx Lib.Math.max.name ∈ aT) (hw2 : Cond.static Lib.Math.max.name ∈ aT) (hw3 : Cond.initialized "java/lang/Math" ∈ aT) (hw4 : Cond.code Lib.Math.max.name Lib.Math.max.code 2 (some .int) ∈ aT) (d : decode T.2.1 pc = .ok (.invokestatic idx, 3)) (hr : 1 ≤ r) (hst : (st.map fun v => v.category).sum ≤ 8) (hv : (if x < y then y else x) = v) (kk : R T r mc ms Q QX (kc) (ks) (pc + 3) (lv) (.int v :: st) S V) : R T r mc ms Q QX (kc) (ks) (pc) (lv) (.int y :: .int x :: st) S V := by
  intro p l e s m args below meth c H locs cells slots D cA o x0 ls C K hl hP hz hS ho h1 h2
  subst hv
  refine va_mmax C.1 C.2.1 (C.2.2.1.trans hl.1.symm) C.2.2.2.1 (C.2.2.2.2.1 _ hw1) (C.2.2.2.2.1 _ hw2) (C.2.2.2.2.1 _ hw3) (C.2.2.2.2.1 _ hw4) hr (by rw [a_cats]; show _ ≤ 40 * r; omega) (by show cells ≤ mc; omega) (by show slots ≤ ms; omega) d (kk p l e s m args below meth c H locs cells slots D cA o x0 ls C K hl hP hz hS ho h1 h2)
end AHEAP
