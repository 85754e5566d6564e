/-! ===== rows of the law ===== -/
abbrev mLaw : aMt := (yL_law, code, 7, ret)
section LROWS
variable {p : Program} {l : Launch} {e : Env} {Rm : Room} {s : State} {m : MethodId} {args : Array Value} {below : List Frame} {meth : Method} {c : Code} {D : va_G} {cA : Nat → ClassId} {o : Nat} {x0 : Nat → Nat} {T : aMt} {Z : State → Prop} {kc ks pc : Nat} {lv : List (Option Value)} {st : List Value} {S : aS} {V : aV}
theorem G_less {kc' ks' : Nat} (h1 : kc' ≤ kc) (h2 : ks' ≤ ks) (k : RG p l e Rm s m args below meth c D cA o x0 T Z kc' ks' pc lv st S V) : RG p l e Rm s m args below meth c D cA o x0 T Z kc ks pc lv st S V :=
  fun H locs cells slots ls hl hP hz hS g1 g2 => k H locs cells slots ls hl hP hz hS (by omega) (by omega)
theorem G_shape {S' : aS} (h1 : S'.1 = S.1) (h2 : S'.2 = none) (k : RG p l e Rm s m args below meth c D cA o x0 T Z kc ks pc lv st S' V) : RG p l e Rm s m args below meth c D cA o x0 T Z kc ks pc lv st S V :=
  fun H locs cells slots ls hl hP hz hS g1 g2 => k H locs cells slots ls hl (fun a e he => hP a e (by rw [← h1]; exact he)) (fun n hn => by rw [h2] at hn; cases hn) hS g1 g2
theorem G_tload_0 (C : a_CG p s m args meth c T) {t : List (Option Value)} {x : Nat} (d : decode T.2.1 pc = .ok (.aload_n 0, 1)) (k : RG p l e Rm s m args below meth c D cA o x0 T Z kc ks (pc + 1) (some (.retAddr x) :: t) (.retAddr x :: st) S V) : RG p l e Rm s m args below meth c D cA o x0 T Z kc ks pc (some (.retAddr x) :: t) st S V :=
  fun H locs cells slots ls hl hP hz hS h1 h2 => lv_aload_n C.1 C.2.1 d rfl (hl.2.2 0 _ rfl) (k H locs cells slots ls hl hP hz hS h1 h2)
theorem G_slen (C : a_CG p s m args meth c T) {L x : Nat} {xs : Nat → Int32} (hX : va_X (x0 x) L xs s s.heap) (hb : x0 x < o) (ho : o ≤ s.heap.size) (d : decode T.2.1 pc = .ok (.arraylength, 1)) (k : RG p l e Rm s m args below meth c D cA o x0 T Z kc ks (pc + 1) lv (.int (nI L) :: st) S V) : RG p l e Rm s m args below meth c D cA o x0 T Z kc ks pc lv (.retAddr x :: st) S V :=
  fun H locs cells slots ls hl hP hz hS h1 h2 => va_slen C.1 C.2.1 hX (Nat.lt_of_lt_of_le hb ho) (Nat.not_le_of_lt hb) hS d (k H locs cells slots ls hl hP hz hS h1 h2)
theorem G_sld (C : a_CG p s m args meth c T) {L x n : Nat} {i : Int32} {xs : Nat → Int32} (hX : va_X (x0 x) L xs s s.heap) (hb : x0 x < o) (ho : o ≤ s.heap.size) (hi : i = nI n) (hn : n < L) (hL : L ≤ 2560) (d : decode T.2.1 pc = .ok (.iaload, 1)) (k : RG p l e Rm s m args below meth c D cA o x0 T Z kc ks (pc + 1) lv (.int (xs n) :: st) S V) : RG p l e Rm s m args below meth c D cA o x0 T Z kc ks pc lv (.int i :: .retAddr x :: st) S V := by
  intro H locs cells slots ls hl hP hz hS h1 h2
  subst hi
  refine va_sld C.1 C.2.1 hX (Nat.lt_of_lt_of_le hb ho) (Nat.not_le_of_lt hb) hS (vp_in_nI hn (by omega)) d ?_
  rw [nI_clamp (by omega)]
  exact k H locs cells slots ls hl hP hz hS h1 h2
theorem G_tsIn (C : a_CG p s m args meth c T) {dflt lo hi : Int} {offs : Array Int} {len : Nat} {x : Int32} {off : Int} (tgt : Nat) (d : decode T.2.1 pc = .ok (.tableswitch dflt lo hi offs, len)) (g1 : ¬ x.toInt < lo) (g2 : ¬ hi < x.toInt) (go : offs[(x.toInt - lo).toNat]? = some off) (ht : (pc : Int) + off = (tgt : Int)) (k : RG p l e Rm s m args below meth c D cA o x0 T Z kc ks tgt lv st S V) : RG p l e Rm s m args below meth c D cA o x0 T Z kc ks pc lv (.int x :: st) S V :=
  fun H locs cells slots ls hl hP hz hS h1 h2 => lv_tableIn C.1 C.2.1 d g1 g2 go ht (k H locs cells slots ls hl hP hz hS h1 h2)
theorem G_tsOut (C : a_CG p s m args meth c T) {dflt lo hi : Int} {offs : Array Int} {len : Nat} {x : Int32} (tgt : Nat) (d : decode T.2.1 pc = .ok (.tableswitch dflt lo hi offs, len)) (g : x.toInt < lo ∨ hi < x.toInt) (ht : (pc : Int) + dflt = (tgt : Int)) (k : RG p l e Rm s m args below meth c D cA o x0 T Z kc ks tgt lv st S V) : RG p l e Rm s m args below meth c D cA o x0 T Z kc ks pc lv (.int x :: st) S V :=
  fun H locs cells slots ls hl hP hz hS h1 h2 => lv_tableOut C.1 C.2.1 d g ht (k H locs cells slots ls hl hP hz hS h1 h2)
theorem G_new {ci n N idx : Nat} {C0 : String} {T0 : u_T} (C : a_CG p s m args meth c T) (K : a_K o x0 cA D s) (ty0 : Nat → FieldType) (hc : vwCl[ci]? = some (C0, T0, N)) (hci : ci < 13) (hin : ∀ w ∈ u_ws C0 T0 N, w ∈ aT) (hty : ∀ k, k < N → parseFieldDescriptor (T0 k).2.2.1 = some (ty0 k))
    (hw1 : Cond.classLink T.1.cls idx C0 ∈ aT) (hw2 : Cond.instantiable C0 N ∈ aT) (hw3 : Cond.initialized C0 ∈ aT) (d : decode T.2.1 pc = .ok (.new idx, 3)) (hS2 : S.2 = some n)
    (kk : RG p l e Rm s m args below meth c D cA o x0 T Z kc ks (pc + 3) lv (.ref n :: st) (aSn S n (ci, 0)) (aVn V n fun k => defaultValue (ty0 k))) : RG p l e Rm s m args below meth c D cA o x0 T Z (kc + 1) (ks + N) pc lv st S V := by
  intro H locs cells slots ls hl hP hz hS h1 h2
  have hn := (hz n hS2).1
  have hKn := K.1.1 ci _ hc
  refine W.newcK C.1 C.2.1 C.2.2.2.1 (C.2.2.2.2.1 _ hw1) (C.2.2.2.2.1 _ hw2) (C.2.2.2.2.1 _ hw3) rfl d (by omega) (by omega) hKn.2.1 hn fun H1 kC hkC e1 z1 o1 => ?_
  refine kk H1 locs (cells + 1) (slots + N) ls hl (hP.push hn o1 fun ev hev => ?_) (hz.push hS2 z1) (a_S_push hS hn z1 o1) (by omega) (by omega)
  rw [a_e_obj rfl hci, a_nf_of hc] at hev
  cases hev
  refine ⟨_, hc, (u_born ty0 C.2.2.2.2.1 hin hKn hkC e1 hty).to (fun j hj => ?_)⟩
  rw [a_vfs hj, a_v_dflt]
theorem G_newaL {n N : Nat} {x : Int32} (C : a_CG p s m args meth c T) (K : a_K o x0 cA D s) (d : decode T.2.1 pc = .ok (.newarray .long, 2)) (hS2 : S.2 = some n) (hx : ¬ x < 0) (hN : x.toNatClampNeg = N) (hb : N ≤ 100000)
    (kk : RG p l e Rm s m args below meth c D cA o x0 T Z kc ks (pc + 2) lv (.ref n :: st) (aSn S n (21, N)) (aVn V n fun _ => .long 0)) : RG p l e Rm s m args below meth c D cA o x0 T Z (kc + 1) (ks + N) pc lv (.int x :: st) S V := by
  intro H locs cells slots ls hl hP hz hS h1 h2
  have hn := (hz n hS2).1
  refine va_newaK (atype := .long) C.1 C.2.1 (C.2.2.2.2.1 _ (aT_of (List.mem_of_getElem? (i := 1546) (by decide +kernel)) (by decide +kernel))) rfl d rfl hx hN (a_cb hb) (by omega) (by omega) hn fun H1 cA' e1 z1 o1 hAr hNm => ?_
  have hcA : cA 21 = cA' := Option.some.inj ((K.1.2 8 _ rfl).2.symm.trans hNm)
  refine kk H1 locs (cells + 1) (slots + N) ls hl (hP.push hn o1 fun ev hev => ?_) (hz.push hS2 z1) (a_S_push hS hn z1 o1) (by omega) (by omega)
  rw [a_e_lng rfl] at hev
  cases hev
  rw [hcA]
  exact e1
theorem G_callI {T' : aMt} {r' mc' ms' idx n : Nat} {As stk : List Value} {Q' : Option Value → aS → aV → Prop} {QX' : String → aS → aV → Prop} {a : Nat} (C : a_CG p s m args meth c T) (K : a_K o x0 cA D s) (ho : o ≤ s.heap.size) (hls : l.stackTraces = false) (hok : aOKc T' n) (hw : Cond.methodLink T.1.cls idx T'.1 ∈ aT) (ct : CT T' r' mc' ms' (.ref a :: As) S V Q' QX') (hn : As.length = n) (hR : r' + 1 ≤ Rm.frames ∧ 8 + (T'.2.2.1 + 11) + 40 * r' ≤ Rm.locals) (hst : (st.map fun v => v.category).sum ≤ 8) (d : decode T.2.1 pc = .ok (.invokespecial idx, 3)) (k : ∀ v S' V', Q' v S' V' → RG p l e Rm s m args below meth c D cA o x0 T Z kc ks (pc + 3) lv (v.toList ++ st) S' V') (kx : ∀ E S' V', QX' E S' V' → XG p l e Rm s m args below meth c D cA o x0 T Z kc ks pc lv st E S' V') (hk : stk = As.reverse ++ .ref a :: st := by rfl) : RG p l e Rm s m args below meth c D cA o x0 T Z (kc + mc') (ks + ms') pc lv stk S V := by
  intro H locs cells slots ls hl hP hz hS h1 h2
  refine G_ran (as' := ((Value.ref (o + a) :: As.map (a_v o x0))).toArray) hl hS h1 h2 ?_ k kx
  have hcode := hok.1.2.2.2.2
  have ct9 := ct l hls o x0 cA D
  rw [hok.2.2.1] at hcode ct9
  exact vx_runI (As := As.map (a_v o x0)) (b := o + a) (n := n) C.fix ct9 (cwI n C.2.2.2.2.1 (aG hcode) rfl rfl rfl (C.2.2.2.2.1 _ hok.1.2.2.2.1) (C.2.2.2.2.1 _ hw) (C.2.2.2.2.1 _ hok.2.2.2) hok.2.1 ⟨hok.1.1, hok.1.2.1, hok.1.2.2.1⟩ hR) ⟨a_blind, fun U hU hW => ⟨rfl, by rw [hU]; exact Nat.le_trans ho hS.1, by rw [hU]; exact hP, by rw [hU]; exact hz, a_K.warm hW (fun q hq hq2 => by rw [hU]; exact hS.2.1 q hq hq2) K⟩⟩ rfl (by rw [List.length_map]; exact hn) hl.1 (by rw [hk]; simp [a_v]) (lv_room (by rw [a_cats]; exact hst)) d ⟨by omega, by omega⟩
end LROWS
theorem ins_11 : Cond.instantiable RX11 8 ∈ aT := aT_of (List.mem_of_getElem? (i := 138) (by decide +kernel)) (by decide +kernel)
theorem ins_12 : Cond.instantiable RX12 46 ∈ aT := aT_of (List.mem_of_getElem? (i := 1126) (by decide +kernel)) (by decide +kernel)
theorem shP_540 : Sh.1 = (shP 540).1 := by
  funext a
  show shF a = if a < 540 then shF a else (99, 0)
  by_cases h : a < 540
  · rw [if_pos h]
  · rw [if_neg h]
    unfold shF
    rw [List.getD_eq_getElem?_getD, List.getElem?_eq_none (by
      have e : shL.length = 540 := by decide +kernel
      omega)]
    rfl
theorem lg_same (x : Int64) : lg_cmp x x = 0 := by
  unfold lg_cmp
  simp
theorem and31 (x : Int32) : ∃ n, n < 32 ∧ x &&& 31 = nI n := by
  refine ⟨x.toBitVec.toNat &&& 31, Nat.lt_of_le_of_lt Nat.and_le_right (by decide), ?_⟩
  apply Int32.toBitVec_inj.mp
  apply BitVec.eq_of_toNat_eq
  rw [Int32.toBitVec_and, BitVec.toNat_and]
  show x.toBitVec.toNat &&& 31 = (x.toBitVec.toNat &&& 31) % 2 ^ 32
  have h : x.toBitVec.toNat &&& 31 ≤ 31 := Nat.and_le_right
  rw [Nat.mod_eq_of_lt (by omega)]
