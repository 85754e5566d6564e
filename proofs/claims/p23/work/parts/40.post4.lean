/-! ===== MergePost: letters counted and found ===== -/
set_option maxHeartbeats 4000000 in
theorem ct_countP {V : aV} {q cnt : Nat} (hR : RN V q cnt) (h4 : V q 4 = .int 1) : CT mX11_countLetters 4 0 0 [.ref 0, .ref q] Sh V (aRet (some (.int (nI cnt))) Sh V) aNo := by
  refine CT_of (by decide +kernel) (Nat.le_of_ble_eq_true rfl) ?_
  show R _ _ _ _ _ _ _ _ 0 [some (.ref 0), some (.ref q)] [] _ _
  have r1 := hR.1
  have r5 := hR.2.2.2.2.1
  refine R_aload_1 dX11_countLetters_0 ?_
  refine gfX11_245 rfl dX11_countLetters_1 r1 h4 ?_
  refine R_if_eq 14 dX11_countLetters_4 (by decide) (fun c4 => absurd c4 (by decide)) (fun c4 => ?_)
  refine R_aload_1 dX11_countLetters_7 ?_
  refine gfX11_267 rfl dX11_countLetters_8 r1 r5 ?_
  refine R_goto 25 dX11_countLetters_11 (by decide) ?_
  refine R_iret rfl dX11_countLetters_25 ⟨rfl, rfl, rfl⟩

set_option maxHeartbeats 4000000 in
theorem ct_countO {V : aV} {q cnt : Nat} {mt po : Nat → Nat} {r c : Nat} (hM : MB V) (hR : RN V q cnt) (h4 : V q 4 = .int 0) (h3 : V q 3 = .int (nI r)) (hB : BF V) (hK : MK V 85 mt) (hP : MK V 86 po) (hr : r < 12) (hc : V 74 5 = .int (nI c)) (hc12 : c ≤ 12) : CT mX11_countLetters 4 0 0 [.ref 0, .ref q] Sh V (fun v S' V' => some (.int (nI (dLst mt po r c).length)) = v ∧ Sh = S' ∧ DLI V' (dLst mt po r c) ∧ Fr0 V V' 87) aNo := by
  refine CT_of (by decide +kernel) (Nat.le_of_ble_eq_true rfl) ?_
  show R _ _ _ _ _ _ _ _ 0 [some (.ref 0), some (.ref q)] [] _ _
  have r1 := hR.1
  have m2 := hM.2.2.1
  refine R_aload_1 dX11_countLetters_0 ?_
  refine gfX11_245 rfl dX11_countLetters_1 r1 h4 ?_
  refine R_if_eq 14 dX11_countLetters_4 (by decide) (fun c4 => ?_) (fun c4 => absurd rfl c4)
  refine R_aload_0 dX11_countLetters_14 ?_
  refine gfX11_26 rfl dX11_countLetters_15 sh_0 m2 ?_
  refine R_aload_1 dX11_countLetters_18 ?_
  refine gfX11_193 rfl dX11_countLetters_19 r1 h3 ?_
  refine R_callVN (T := mX11_countLetters) (T' := mX1_listDue) (As := [_]) (ci := 1) okX1_listDue mlX11_251 rfl (by decide) sh_74 (ct_listDue hB hK hP hr hc hc12) rfl (by decide) (by decide) (Nat.le_of_ble_eq_true rfl) dX11_countLetters_22 (fun v9 S9 V9 h9 => ?_) (fun E S9 V9 h9 => h9.elim)
  obtain ⟨rfl, rfl, u3, u4⟩ := h9
  refine R_iret rfl dX11_countLetters_25 ⟨rfl, rfl, u3, u4⟩

set_option maxHeartbeats 4000000 in
theorem ct_findP {V : aV} {q cnt l : Nat} (hR : RN V q cnt) (h4 : V q 4 = .int 1) (hl : l < 12) : CT mX11_findLetter 8 0 0 [.ref 0, .ref q, .int (nI l)] Sh V (aRet (some (.ref (q + 2 + 3 * l))) Sh V) aNo := by
  refine CT_of (by decide +kernel) (Nat.le_of_ble_eq_true rfl) ?_
  show R _ _ _ _ _ _ _ _ 0 [some (.ref 0), some (.ref q), some (.int (nI l))] [] _ _
  obtain ⟨r1, r2, r3, r4, r5, r6⟩ := hR
  have h0 : ¬ nI l < 0 := nI_pos (by omega)
  have h12 : ¬ (12 : Int32) ≤ nI l := nI_ge (a := l) (b := 12) (by omega) (by omega)
  have hj := r4 l hl
  refine R_aload_1 dX11_findLetter_0 ?_
  refine gfX11_245 rfl dX11_findLetter_1 r1 h4 ?_
  refine R_if_eq 24 dX11_findLetter_4 (by decide) (fun c4 => absurd c4 (by decide)) (fun c4 => ?_)
  refine R_iload_2 dX11_findLetter_7 ?_
  refine R_if_lt 24 dX11_findLetter_8 (by decide) (fun c8 => absurd c8 h0) (fun c8 => ?_)
  refine R_iload_2 dX11_findLetter_11 ?_
  refine R_bipush (v := 12) dX11_findLetter_12 (by decide) ?_
  refine R_icmp_ge 24 dX11_findLetter_14 (by decide) (fun c14 => absurd c14 h12) (fun c14 => ?_)
  refine R_aload_1 dX11_findLetter_17 ?_
  refine gfX11_280 rfl dX11_findLetter_18 r1 r3 ?_
  refine R_iload_2 dX11_findLetter_21 ?_
  refine R_aald_17 dX11_findLetter_22 r2 (vp_in_nI (by omega) (by decide)) (nI_clamp (by omega)) hj ?_
  refine R_aret rfl dX11_findLetter_23 ⟨rfl, rfl, rfl⟩

set_option maxHeartbeats 4000000 in
theorem ct_findO {V : aV} {q cnt l : Nat} {tl : Nat → Nat} {T : Nat → List Int32} {to : Nat → Bool} {jp : Nat → Nat → Option Nat} {w : Nat → List Int32} {vl : Nat → Nat} {s : PS} {en : Nat → Nat} {ent : Nat → EntN} {b st g : Nat} {t : Int32} (hN : RN V q cnt) (h4 : V q 4 = .int 0) (h2 : V q 2 = .int t) (hl : l < 12) (hF : BF V) (hd : V 87 l = .int (nI g)) (hM : MB V) (hB : HB V) (hD : HD V w vl) (hR : BR V en ent) (hC : PC V) (hT : PT V tl T to jp) (hP : PW V s) (hb0 : V 198 0 = .int (nI b)) (hb1 : V 198 1 = .int (nI st)) (hb : b < 2 ^ 31) (hst : st < 2 ^ 31) (hg : g < 2 ^ 12) (hm : 1 ≤ fV ent g 5) (hJ : isTo to t → JRun T to jp (fW ent g) (fV ent g) (pOp (ps0 s) t)) : CT mX11_findLetter 8 0 0 [.ref 0, .ref q, .int (nI l)] Sh V (CPost V b st (cmS T to jp ent g s t) ent g t) aNo := by
  refine CT_of (by decide +kernel) (Nat.le_of_ble_eq_true rfl) ?_
  show R _ _ _ _ _ _ _ _ 0 [some (.ref 0), some (.ref q), some (.int (nI l))] [] _ _
  have r1 := hN.1
  have m2 := hM.2.2.1
  refine R_aload_1 dX11_findLetter_0 ?_
  refine gfX11_245 rfl dX11_findLetter_1 r1 h4 ?_
  refine R_if_eq 24 dX11_findLetter_4 (by decide) (fun c4 => ?_) (fun c4 => absurd rfl c4)
  refine R_aload_0 dX11_findLetter_24 ?_
  refine R_aload_1 dX11_findLetter_25 ?_
  refine gfX11_190 rfl dX11_findLetter_26 r1 h2 ?_
  refine R_aload_0 dX11_findLetter_29 ?_
  refine gfX11_26 rfl dX11_findLetter_30 sh_0 m2 ?_
  refine R_iload_2 dX11_findLetter_33 ?_
  refine R_callVN_e (T := mX11_findLetter) (T' := mX1_dueAt) (As := [_]) (ci := 1) okX1_dueAt mlX11_254 rfl (by decide) sh_74 (ct_dueAt hF hl hd) rfl (by decide) (by decide) (Nat.le_of_ble_eq_true rfl) dX11_findLetter_34 ?_
  refine R_callV (T := mX11_findLetter) (T' := mX11_compose) (As := [_, _]) (ci := 11) okX11_compose mlX11_229 rfl (by decide) sh_0 (ct_compose hM hB hD hR hC hT hP hb0 hb1 hb hst hg hm hJ) rfl (by decide) (by decide) (Nat.le_of_ble_eq_true rfl) dX11_findLetter_37 (fun v9 S9 V9 h9 => ?_) (fun E S9 V9 h9 => h9.elim)
  obtain ⟨rfl, rfl, h9⟩ := h9
  refine R_aret rfl dX11_findLetter_40 ⟨rfl, rfl, h9⟩

