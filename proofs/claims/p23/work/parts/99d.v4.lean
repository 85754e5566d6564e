/-! ===== the law from its entry ===== -/
theorem G_newaI {p : Program} {l : Launch} {e : Env} {Rm : Room} {s : State} {m : MethodId} {args : Array Value} {below : List Frame} {meth : Method} {c : Code} {D : va_G} {cA : Nat → ClassId} {o : Nat} {x0 : Nat → Nat} {T : aMt} {Z : State → Prop} {kc ks pc : Nat} {lv : List (Option Value)} {st : List Value} {S : aS} {V : aV} {n N : Nat} {x : Int32} (C : a_CG p s m args meth c T) (K : a_K o x0 cA D s) (hw : Cond.arrayClass .int ∈ aT) (d : decode T.2.1 pc = .ok (.newarray .int, 2)) (hS2 : S.2 = some n) (hx : ¬ x < 0) (hN : x.toNatClampNeg = N) (hb : N ≤ 100000)
    (kk : RG p l e Rm s m args below meth c D cA o x0 T Z kc ks (pc + 2) lv (.ref n :: st) (aSn S n (14, N)) (aVn V n fun _ => .int 0)) : RG p l e Rm s m args below meth c D cA o x0 T Z (kc + 1) (ks + N) pc lv (.int x :: st) S V := by
  intro H locs cells slots ls hl hP hz hS h1 h2
  have hn := (hz n hS2).1
  refine va_newaK (atype := .int) C.1 C.2.1 (C.2.2.2.2.1 _ hw) rfl d rfl hx hN (a_cb hb) (by omega) (by omega) hn fun H1 cA' e1 z1 o1 hAr hNm => ?_
  have hcA : cA 14 = cA' := Option.some.inj ((K.1.2 1 _ rfl).2.symm.trans hNm)
  refine kk H1 locs (cells + 1) (slots + N) ls hl (hP.push hn o1 fun ev hev => ?_) (hz.push hS2 z1) (a_S_push hS hn z1 o1) (by omega) (by omega)
  rw [a_e_int rfl (by decide) (by decide)] at hev
  cases hev
  rw [hcA]
  exact e1
section LNEW
variable {p : Program} {l : Launch} {e : Env} {Rm : Room} {s : State} {m : MethodId} {args : Array Value} {below : List Frame} {meth : Method} {c : Code} {D : va_G} {cA : Nat → ClassId} {o : Nat} {x0 : Nat → Nat} {T : aMt} {Z : State → Prop} {kc ks pc : Nat} {lv : List (Option Value)} {st : List Value} {S : aS} {V : aV}
theorem G_new {ci n N idx : Nat} {C0 : String} {T0 : u_T} (C : a_CG p s m args meth c T) (K : a_K o x0 cA D s) (ty0 : Nat → FieldType) (hc : vwCl[ci]? = some (C0, T0, N)) (hci : ci < 13) (hin : ∀ w ∈ u_ws C0 T0 N, w ∈ aT) (hty : ∀ k, k < N → parseFieldDescriptor (T0 k).2.2.1 = some (ty0 k))
    (hw1 : Cond.classLink T.1.cls idx C0 ∈ aT) (hw2 : Cond.instantiable C0 N ∈ aT) (hw3 : Cond.initialized C0 ∈ aT) (d : decode T.2.1 pc = .ok (.new idx, 3)) (hS2 : S.2 = some n)
    (kk : RG p l e Rm s m args below meth c D cA o x0 T Z kc ks (pc + 3) lv (.ref n :: st) (aSn S n (ci, 0)) (aVn V n fun k => defaultValue (ty0 k))) : RG p l e Rm s m args below meth c D cA o x0 T Z (kc + 1) (ks + N) pc lv st S V := by
  intro H locs cells slots ls hl hP hz hS h1 h2
  have hn := (hz n hS2).1
  have hKn := K.1.1 ci _ hc
  refine W.newcK C.1 C.2.1 C.2.2.2.1 (C.2.2.2.2.1 _ hw1) (C.2.2.2.2.1 _ hw2) (C.2.2.2.2.1 _ hw3) rfl d (by omega) (by omega) hKn.2.1 hn fun H1 kC hkC e1 z1 o1 => ?_
  refine kk H1 locs (cells + 1) (slots + N) ls hl (hP.push hn o1 fun ev hev => ?_) (hz.push hS2 z1) (a_S_push hS hn z1 o1) (by omega) (by omega)
  rw [a_e_obj rfl hci, a_nf_of hc] at hev
  cases hev
  refine ⟨_, hc, (u_born ty0 C.2.2.2.2.1 hin hKn hkC e1 hty).to (fun j hj => ?_)⟩
  rw [a_vfs hj, a_v_dflt]
theorem G_callI {T' : aMt} {r' mc' ms' idx n : Nat} {As stk : List Value} {Q' : Option Value → aS → aV → Prop} {QX' : String → aS → aV → Prop} {a : Nat} (C : a_CG p s m args meth c T) (K : a_K o x0 cA D s) (ho : o ≤ s.heap.size) (hls : l.stackTraces = false) (hok : aOKc T' n) (hw : Cond.methodLink T.1.cls idx T'.1 ∈ aT) (ct : CT T' r' mc' ms' (.ref a :: As) S V Q' QX') (hn : As.length = n) (hR : r' + 1 ≤ Rm.frames ∧ 8 + (T'.2.2.1 + 11) + 40 * r' ≤ Rm.locals) (hst : (st.map fun v => v.category).sum ≤ 8) (d : decode T.2.1 pc = .ok (.invokespecial idx, 3)) (k : ∀ v S' V', Q' v S' V' → RG p l e Rm s m args below meth c D cA o x0 T Z kc ks (pc + 3) lv (v.toList ++ st) S' V') (kx : ∀ E S' V', QX' E S' V' → XG p l e Rm s m args below meth c D cA o x0 T Z kc ks pc lv st E S' V') (hk : stk = As.reverse ++ .ref a :: st := by rfl) : RG p l e Rm s m args below meth c D cA o x0 T Z (kc + mc') (ks + ms') pc lv stk S V := by
  intro H locs cells slots ls hl hP hz hS h1 h2
  refine G_ran (as' := ((Value.ref (o + a) :: As.map (a_v o x0))).toArray) hl hS h1 h2 ?_ k kx
  have hcode := hok.1.2.2.2.2
  have ct9 := ct l hls o x0 cA D
  rw [hok.2.2.1] at hcode ct9
  exact vx_runI (As := As.map (a_v o x0)) (b := o + a) (n := n) C.fix ct9 (cwI n C.2.2.2.2.1 (aG hcode) rfl rfl rfl (C.2.2.2.2.1 _ hok.1.2.2.2.1) (C.2.2.2.2.1 _ hw) (C.2.2.2.2.1 _ hok.2.2.2) hok.2.1 ⟨hok.1.1, hok.1.2.1, hok.1.2.2.1⟩ hR) ⟨a_blind, fun U hU hW => ⟨rfl, by rw [hU]; exact Nat.le_trans ho hS.1, by rw [hU]; exact hP, by rw [hU]; exact hz, a_K.warm hW (fun q hq hq2 => by rw [hU]; exact hS.2.1 q hq hq2) K⟩⟩ rfl (by rw [List.length_map]; exact hn) hl.1 (by rw [hk]; simp [a_v]) (lv_room (by rw [a_cats]; exact hst)) d ⟨by omega, by omega⟩
end LNEW
theorem ins_11 : Cond.instantiable RX11 8 ∈ aT := aT_of (List.mem_of_getElem? (i := 97) (by decide +kernel)) (by decide +kernel)
theorem acI : Cond.arrayClass .int ∈ aT := aT_of (List.mem_of_getElem? (i := 174) (by decide +kernel)) (by decide +kernel)
theorem se_504 : shF 504 = (14, 40) := by decide +kernel
theorem se_505 : shF 505 = (14, 60) := by decide +kernel
theorem se_506 : shF 506 = (14, 12) := by decide +kernel
theorem se_507 : shF 507 = (14, 12) := by decide +kernel
theorem se_508 : shF 508 = (14, 12) := by decide +kernel
theorem se_509 : shF 509 = (14, 2) := by decide +kernel
theorem se_0 : shF 0 = (11, 0) := by decide +kernel
theorem shP_0 (a : Nat) : (shP 0).1 a = (99, 0) := by
  show (if a < 0 then shF a else (99, 0)) = (99, 0)
  exact if_neg (Nat.not_lt_zero _)
theorem shP_510 : Sh.1 = (shP 510).1 := by
  funext a
  show shF a = if a < 510 then shF a else (99, 0)
  by_cases h : a < 510
  · rw [if_pos h]
  · rw [if_neg h]
    unfold shF
    rw [List.getD_eq_getElem?_getD, List.getElem?_eq_none (by
      have e : shL.length = 510 := by decide +kernel
      omega)]
    rfl
section LAW3
variable {p : Program} {l : Launch} {e : Env} {s : State} {m : MethodId} {args : Array Value} {below : List Frame} {meth : Method} {c : Code} {D : va_G} {cA : Nat → ClassId} {o : Nat} {x0 : Nat → Nat} {Z : State → Prop} {kc ks : Nat}
theorem w624 {V : aV} (C : a_CG p s m args meth c mLaw) (K : a_K o x0 cA D s) (hN : aNcs s) (ho : o ≤ s.heap.size) (hls : l.stackTraces = false) (hend : ∀ V', RG p l e room_1 s m args below meth c D cA o x0 mLaw Z (kc) (ks) 644 [some (.retAddr 2), some (.ref 0), some (.ref 504), some (.ref 505), some (.ref 506), some (.ref 507), some (.ref 508), some (.ref 509), some (.int 1), some (.int (nI 40)), none, none, none, none, none, none, none, none] [.int 1] Sh V') (hx : LX V 40) : RG p l e room_1 s m args below meth c D cA o x0 mLaw Z (kc) (ks) 624 [some (.retAddr 2), some (.ref 0), some (.ref 504), some (.ref 505), some (.ref 506), some (.ref 507), some (.ref 508), some (.ref 509), some (.int 1), some (.int (nI 40)), none, none, none, none, none, none, none, none] [] Sh V := by
  obtain ⟨ent, n, mt, po, b, st, pa, nr, rt, rr, pd, kn, kl, h, hpa, hz⟩ := hx
  obtain ⟨hC, ⟨e0, e1, e2, e3, e4, er⟩, aa, m6, m8, n2, n9, r1, hb5, hs6, hr3⟩ := id h
  refine G_iload_8 C K dL_law_624 ?_
  refine G_if_eq C K 643 dL_law_626 (by decide) (fun c626 => absurd c626 (by decide)) (fun c626 => ?_)
  refine G_aload_1 C K dL_law_629 ?_
  refine G_callV (T' := mX11_spent) (As := []) (mc' := 0) (ms' := 0) (ci := 11) C K ho hls okX11_spent mlL_110 rfl (by decide) sh_0 (lc_spent hC) rfl ⟨Nat.le_of_ble_eq_true rfl, Nat.le_of_ble_eq_true rfl⟩ (Nat.le_of_ble_eq_true rfl) dL_law_630 (fun v9 S9 V9 u9 => ?_) (fun E S9 V9 u9 => (show False from u9).elim)
  obtain ⟨rfl, rfl, rfl⟩ := u9
  refine G_aload_2 C K dL_law_633 ?_
  refine G_iconst C K (v := 4) dL_law_634 (by decide) ?_
  refine G_iald C K dL_law_635 sh_504 (vp_in_nI (n := 4) (by decide) (by decide)) rfl e4 ?_
  refine G_icmp_ne C K 643 dL_law_636 (by decide) (fun c636 => absurd rfl c636) (fun c636 => ?_)
  refine G_iconst C K (v := 1) dL_law_639 (by decide) ?_
  refine G_goto C K 644 dL_law_640 (by decide) ?_
  exact hend V
set_option maxHeartbeats 4000000 in
theorem w41 {V : aV} (C : a_CG p s m args meth c mLaw) (K : a_K o x0 cA D s) (hN : aNcs s) (ho : o ≤ s.heap.size) (hls : l.stackTraces = false) (h0 : CSt V [] (fun _ => []) (fun _ => false) (fun _ => ([], [], 0, 0, 0)) 0 (fun _ => 0) (fun _ => 0) 10 5 0 0 (fun _ => 0) (fun _ => 0) (fun _ => false) (fun _ => 0) (fun _ _ => ([], 0, 0, 0))) (hv : ∀ q, 504 ≤ q → q < 510 → ∀ k, V q k = .int 0) (ht : ∀ V', LX V' 0 → RG p l e room_1 s m args below meth c D cA o x0 mLaw Z (kc) (ks) 108 [some (.retAddr 2), some (.ref 0), some (.ref 504), some (.ref 505), some (.ref 506), some (.ref 507), some (.ref 508), some (.ref 509), some (.int 1), some (.int (nI 0)), none, none, none, none, none, none, none, none] [] Sh V') : RG p l e room_1 s m args below meth c D cA o x0 mLaw Z (kc + 2 + 6 + 6 + 11) (ks + 12 + 36 + 36 + 66) 41 [some (.retAddr 2), some (.ref 0), some (.ref 504), some (.ref 505), some (.ref 506), some (.ref 507), some (.ref 508), some (.ref 509), none, none, none, none, none, none, none, none, none, none] [] Sh V := by
  refine G_aload_2 C K dL_law_41 ?_
  refine G_iconst C K (v := 2) dL_law_42 (by decide) ?_
  refine G_bipush C K (v := 10) dL_law_43 (by decide) ?_
  refine G_iast C K dL_law_45 sh_504 (vp_in_nI (n := 2) (by decide) (by decide)) rfl ?_
  refine G_aload_2 C K dL_law_46 ?_
  refine G_iconst C K (v := 3) dL_law_47 (by decide) ?_
  refine G_iconst C K (v := 5) dL_law_48 (by decide) ?_
  refine G_iast C K dL_law_49 sh_504 (vp_in_nI (n := 3) (by decide) (by decide)) rfl ?_
  have hW : CSt (a_up (a_up V 504 2 (.int 10)) 504 3 (.int 5)) [] (fun _ => []) (fun _ => false) (fun _ => ([], [], 0, 0, 0)) 0 (fun _ => 0) (fun _ => 0) 10 5 0 0 (fun _ => 0) (fun _ => 0) (fun _ => false) (fun _ => 0) (fun _ _ => ([], 0, 0, 0)) := h0.low (fun q hq => (a_up_row (by omega)).trans (a_up_row (by omega)))
  have z2 : ∀ q, 504 < q → q < 510 → ∀ k, (a_up (a_up V 504 2 (.int 10)) 504 3 (.int 5)) q k = .int 0 := fun q q1 q2 k => (congrFun ((a_up_row (by omega)).trans (a_up_row (by omega))) k).trans (hv q (by omega) q2 k)
  have Q0 : LQ (a_up (a_up V 504 2 (.int 10)) 504 3 (.int 5)) 0 0 10 5 0 (fun _ => 0) (fun _ => 0) (fun _ => false) := ⟨(a_up_ne (Or.inr (by decide))).trans ((a_up_ne (Or.inr (by decide))).trans (hv 504 (by decide) (by decide) _)), (a_up_ne (Or.inr (by decide))).trans ((a_up_ne (Or.inr (by decide))).trans (hv 504 (by decide) (by decide) _)), (a_up_ne (Or.inr (by decide))).trans (a_up_self _ _ _ _), a_up_self _ _ _ _, (a_up_ne (Or.inr (by decide))).trans ((a_up_ne (Or.inr (by decide))).trans (hv 504 (by decide) (by decide) _)), fun q hq => ⟨(a_up_ne (Or.inr (by omega))).trans ((a_up_ne (Or.inr (by omega))).trans (hv 504 (by decide) (by decide) _)), (a_up_ne (Or.inr (by omega))).trans ((a_up_ne (Or.inr (by omega))).trans (hv 504 (by decide) (by decide) _)), (a_up_ne (Or.inr (by omega))).trans ((a_up_ne (Or.inr (by omega))).trans (hv 504 (by decide) (by decide) _))⟩⟩
  refine G_aload_1 C K dL_law_50 ?_
  refine G_callS (T' := mL_templates) (As := [_]) (mc' := 11) (ms' := 66) C K ho hls okL_templates mlL_137 (ct_templates hW) rfl ⟨Nat.le_of_ble_eq_true rfl, Nat.le_of_ble_eq_true rfl⟩ (Nat.le_of_ble_eq_true rfl) dL_law_51 (fun v9 S9 V9 u9 => ?_)
  obtain ⟨rfl, rfl, hT, fT⟩ := u9
  refine G_if_eq C K 98 dL_law_54 (by decide) (fun c54 => absurd c54 (by decide)) (fun c54 => ?_)
  refine G_aload_1 C K dL_law_57 ?_
  refine G_aload_2 C K dL_law_58 ?_
  refine G_aload_3 C K dL_law_59 ?_
  refine G_tload_0 C dL_law_60 ?_
  refine G_iconst C K (v := 0) dL_law_61 (by decide) ?_
  refine G_callS (T' := mL_cell) (As := [_, _]) (mc' := 0) (ms' := 0) C K ho hls okL_cell mlL_141 (ct_cell (k := 0) (by decide)) rfl ⟨Nat.le_of_ble_eq_true rfl, Nat.le_of_ble_eq_true rfl⟩ (Nat.le_of_ble_eq_true rfl) dL_law_62 (fun v9 S9 V9 u9 => ?_)
  obtain ⟨⟨u1, rfl⟩, rfl, rfl⟩ := u9
  refine G_callS (T' := mL_adds) (As := [_, _, _, _]) (mc' := 6) (ms' := 36) C K ho hls okL_adds mlL_144 (ct_adds u1 hT (Q0.fr (fT 504 (by decide))) (fun k hk => absurd hk (Nat.not_lt_zero k)) (by decide) rfl) rfl ⟨Nat.le_of_ble_eq_true rfl, Nat.le_of_ble_eq_true rfl⟩ (Nat.le_of_ble_eq_true rfl) dL_law_65 (fun v9 S9 V9 u9 => ?_)
  obtain ⟨rfl, rfl, y1, h1, q1, a1, g1⟩ := u9
  refine G_if_eq C K 98 dL_law_68 (by decide) (fun c68 => absurd c68 (by decide)) (fun c68 => ?_)
  refine G_aload_1 C K dL_law_71 ?_
  refine G_aload_2 C K dL_law_72 ?_
  refine G_aload_3 C K dL_law_73 ?_
  refine G_tload_0 C dL_law_74 ?_
  refine G_iconst C K (v := 1) dL_law_75 (by decide) ?_
  refine G_callS (T' := mL_cell) (As := [_, _]) (mc' := 0) (ms' := 0) C K ho hls okL_cell mlL_141 (ct_cell (k := 1) (by decide)) rfl ⟨Nat.le_of_ble_eq_true rfl, Nat.le_of_ble_eq_true rfl⟩ (Nat.le_of_ble_eq_true rfl) dL_law_76 (fun v9 S9 V9 u9 => ?_)
  obtain ⟨⟨u2, rfl⟩, rfl, rfl⟩ := u9
  refine G_callS (T' := mL_adds) (As := [_, _, _, _]) (mc' := 6) (ms' := 36) C K ho hls okL_adds mlL_144 (ct_adds u2 h1 q1 a1 (by decide) rfl) rfl ⟨Nat.le_of_ble_eq_true rfl, Nat.le_of_ble_eq_true rfl⟩ (Nat.le_of_ble_eq_true rfl) dL_law_79 (fun v9 S9 V9 u9 => ?_)
  obtain ⟨rfl, rfl, y2, h2, q2, a2, g2⟩ := u9
  refine G_if_eq C K 98 dL_law_82 (by decide) (fun c82 => absurd c82 (by decide)) (fun c82 => ?_)
  refine G_aload_1 C K dL_law_85 ?_
  refine G_iconst C K (v := 0) dL_law_86 (by decide) ?_
  refine G_iconst C K (v := 0) dL_law_87 (by decide) ?_
  refine G_callV (T' := mX11_run) (As := [_, _]) (mc' := 2) (ms' := 12) (ci := 11) C K ho hls okX11_run mlL_148 rfl (by decide) sh_0 (lc_run h2 (by decide) (a := 0) (c := 0) (by decide) (by decide)) rfl ⟨Nat.le_of_ble_eq_true rfl, Nat.le_of_ble_eq_true rfl⟩ (Nat.le_of_ble_eq_true rfl) dL_law_88 (fun v9 S9 V9 u9 => ?_) (fun E S9 V9 u9 => (show False from u9).elim)
  obtain ⟨rfl, rfl, h3, f3⟩ := u9
  refine G_if_ne C K 98 dL_law_91 (by decide) (fun c91 => absurd rfl c91) (fun c91 => ?_)
  refine G_iconst C K (v := 1) dL_law_94 (by decide) ?_
  refine G_goto C K 99 dL_law_95 (by decide) ?_
  refine G_istore_8 C K rfl (by decide) dL_law_99 ?_
  refine G_aload_2 C K dL_law_101 ?_
  refine G_iconst C K (v := 1) dL_law_102 (by decide) ?_
  refine G_iconst C K (v := 1) dL_law_103 (by decide) ?_
  refine G_iast C K dL_law_104 sh_504 (vp_in_nI (n := 1) (by decide) (by decide)) rfl ?_
  refine G_iconst C K (v := 0) dL_law_105 (by decide) ?_
  refine G_istore_9 C K rfl (by decide) dL_law_106 ?_
  have k3 : ∀ x, x ≠ 1 → a_up V9 504 1 (.int 1) 504 x = _ := fun x hx => (a_up_ne (Or.inr hx)).trans (congrFun (f3 504 (by decide)) x)
  obtain ⟨e0, e1, e2, e3, e4, er⟩ := q2
  have gz : ∀ q, 506 ≤ q → q < 510 → ∀ k, a_up V9 504 1 (.int 1) q k = .int 0 := fun q x1 x2 k => (congrFun ((a_up_row (by omega)).trans ((f3 q (by omega)).trans ((g2 q x1).trans ((g1 q x1).trans (fT q (by omega)))))) k).trans (z2 q (by omega) x2 k)
  have u0 : ∀ q : Nat, upN (fun _ => 0) 0 0 q = (0 : Nat) := fun q => by unfold upN; split <;> rfl
  refine ht _ ⟨_, 2, fun _ => 0, fun _ => 0, 10, 5, 0, 1, upN (fun _ => 0) 0 0, upN (fun _ => 0) 0 0, fun _ => false, _, _, ⟨h3.low (fun q hq => a_up_row (by omega)), ⟨(k3 0 (by decide)).trans e0, a_up_self _ _ _ _, (k3 2 (by decide)).trans e2, (k3 3 (by decide)).trans e3, (k3 4 (by decide)).trans e4, fun q hq => ?_⟩, a2.fr ((a_up_row (by decide)).trans (f3 505 (by decide))), fun j hj => ⟨gz 506 (by decide) (by decide) j, show 0 < 2 ^ 12 by decide⟩, fun j hj => ⟨gz 508 (by decide) (by decide) j, show 0 < 2 ^ 12 by decide⟩, by decide, by decide, by decide, by decide, by decide, fun q hq => ?_⟩, Nat.le_refl _, fun _ _ _ => rfl⟩
  · obtain ⟨r1, r2, r3⟩ := er q hq
    rw [u0]
    exact ⟨(k3 _ (by omega)).trans r1, (k3 _ (by omega)).trans r2, (k3 _ (by omega)).trans r3⟩
  · rw [u0]
    exact ⟨by decide, by decide⟩
end LAW3
set_option maxHeartbeats 4000000 in
theorem whole_start {p : Program} {e : Env} {s : State} {m : MethodId} {below : List Frame} {meth : Method} {c : Code} (l : Launch) (hflags : l.flags = flags0) {b L : Nat} {xs : Nat → Int32} (hL : L ≤ 260) (C0 : lw_At p s m meth c b L xs) : W p l e room_1 s m #[Value.ref b] below meth c s.heap [] 0 0 (lw_Z below #[Value.ref b] s) (entryFrame m ([Value.ref b] : List Value).toArray 18) := by
  obtain ⟨hx, hb, hr, hml, hown, hts, hX, hbl, hlk, hgv⟩ := C0
  obtain ⟨x0, cA, D, rfl, K, hN⟩ := st_K hts hgv (by omega) hbl hX
  have hls : l.stackTraces = false := by
    unfold Launch.stackTraces
    rw [hflags]
    decide +kernel
  have C : a_CG p s m #[Value.ref (x0 2)] meth c mLaw := ⟨hx, hb, hml, hown, fun w hw => hts w (List.mem_filter.mp hw).1, hr, hlk⟩
  have ho : s.heap.size ≤ s.heap.size := Nat.le_refl _
  rw [lg_entry_eq]
  have hend : ∀ V, RG p l e room_1 s m #[Value.ref (x0 2)] below meth c D cA s.heap.size x0 mLaw (lw_Z below #[Value.ref (x0 2)] s) 0 0 644 [some (.retAddr 2), some (.ref 0), some (.ref 504), some (.ref 505), some (.ref 506), some (.ref 507), some (.ref 508), some (.ref 509), some (.int 1), some (.int (nI 40)), none, none, none, none, none, none, none, none] [.int 1] Sh V := by
    intro V H locs cells slots ls hl hP hz hS h1 h2
    refine W.widen (k := 600104) (n := 7301314) h1 h2 ?_
    refine va_forget hS.2.2 ?_
    refine W.base ?_
    exact lw_ret (Drawn.sameBut.refl s.drawn lw_cs) C.1 C.2.1 hr hlk dL_law_644
  have main : RG p l e room_1 s m #[Value.ref (x0 2)] below meth c D cA s.heap.size x0 mLaw (lw_Z below #[Value.ref (x0 2)] s) 600104 7301314 0 [some (.retAddr 2), none, none, none, none, none, none, none, none, none, none, none, none, none, none, none, none, none] [] (shP 0) (fun _ _ => .null) := by
    refine G_less (kc' := 0 + 4626 * 40 + 2 + 6 + 6 + 11 + 1 + 1 + 1 + 1 + 1 + 1 + 503 + 1) (ks' := 0 + 27756 * 40 + 12 + 36 + 36 + 66 + 2 + 12 + 12 + 12 + 60 + 40 + 20294 + 8) (by decide) (by decide) ?_
    refine G_new (ci := 11) (C0 := RX11) (T0 := TX11) (N := 8) C K tyX11 rfl (by decide) inX11 tyX11_ok clL_11 ins_11 wi_X11 dL_law_0 rfl ?_
    rw [shP_push se_0]
    refine G_dup C K dL_law_3 rfl ?_
    refine G_callI (T' := mX11_init) (As := []) (mc' := 503) (ms' := 20294) C K ho hls okX11_init mlL_136 (ct_i11 (V := aVn (fun _ _ => .null) 0 dX11) rfl rfl) rfl ⟨Nat.le_of_ble_eq_true rfl, Nat.le_of_ble_eq_true rfl⟩ (Nat.le_of_ble_eq_true rfl) dL_law_4 (fun v S' V1 h9 => ?_) (fun E S' V' h => (show False from h).elim)
    obtain ⟨rfl, rfl, hI⟩ := h9
    refine G_astore_1 C K rfl (by decide) dL_law_7 ?_
    refine G_bipush C K (v := 40) dL_law_8 (by decide) ?_
    refine G_newaI (N := 40) C K acI dL_law_10 rfl (by decide) (by decide) (by decide) ?_
    rw [shP_push se_504]
    refine G_astore_2 C K rfl (by decide) dL_law_12 ?_
    refine G_bipush C K (v := 60) dL_law_13 (by decide) ?_
    refine G_newaI (N := 60) C K acI dL_law_15 rfl (by decide) (by decide) (by decide) ?_
    rw [shP_push se_505]
    refine G_astore_3 C K rfl (by decide) dL_law_17 ?_
    refine G_bipush C K (v := 12) dL_law_18 (by decide) ?_
    refine G_newaI (N := 12) C K acI dL_law_20 rfl (by decide) (by decide) (by decide) ?_
    rw [shP_push se_506]
    refine G_astore_4 C K rfl (by decide) dL_law_22 ?_
    refine G_bipush C K (v := 12) dL_law_24 (by decide) ?_
    refine G_newaI (N := 12) C K acI dL_law_26 rfl (by decide) (by decide) (by decide) ?_
    rw [shP_push se_507]
    refine G_astore_5 C K rfl (by decide) dL_law_28 ?_
    refine G_bipush C K (v := 12) dL_law_30 (by decide) ?_
    refine G_newaI (N := 12) C K acI dL_law_32 rfl (by decide) (by decide) (by decide) ?_
    rw [shP_push se_508]
    refine G_astore_6 C K rfl (by decide) dL_law_34 ?_
    refine G_iconst C K (v := 2) dL_law_36 (by decide) ?_
    refine G_newaI (N := 2) C K acI dL_law_37 rfl (by decide) (by decide) (by decide) ?_
    rw [shP_push se_509]
    refine G_astore_7 C K rfl (by decide) dL_law_39 ?_
    refine G_shape (S' := Sh) shP_510 rfl ?_
    refine w41 (kc := 0 + 4626 * 40) (ks := 0 + 27756 * 40) C K hN ho hls ?_ ?_ (fun V' h' => law_loop (kc := 0) (ks := 0) C K hN ho hls (fun V2 h2 => w624 C K hN ho hls hend h2) 40 0 V' rfl h')
    · exact (cst_start hI).low (fun q hq => by rw [aVn_ne (by omega), aVn_ne (by omega), aVn_ne (by omega), aVn_ne (by omega), aVn_ne (by omega), aVn_ne (by omega)])
    · intro q q1 q2 k
      rcases (show q = 504 ∨ q = 505 ∨ q = 506 ∨ q = 507 ∨ q = 508 ∨ q = 509 from by omega) with rfl | rfl | rfl | rfl | rfl | rfl <;> rfl
  refine main s.heap [] 0 0 _ (a_lv.entry (As := [.retAddr 2]) (by decide)) (fun a e he => ?_) (fun n hn => ?_) va_S.rf (by decide) (by decide)
  · rw [shP_0 a] at he
    cases he
  · cases hn
    exact ⟨rfl, fun a _ => shP_0 a⟩
