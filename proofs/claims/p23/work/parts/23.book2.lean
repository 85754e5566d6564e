/-! ===== Book: what is due ===== -/
/-- the groups that are due a letter for r, of the addresses below a -/
def dLst (mt po : Nat → Nat) (r : Nat) : Nat → List Nat
  | 0 => []
  | a + 1 => if gOf mt a &&& (2 ^ a - 1) = 0 ∧ ¬ wP po (gOf mt a) r 0 then dLst mt po r a ++ [gOf mt a] else dLst mt po r a
theorem dLst_len {mt po : Nat → Nat} {r : Nat} : ∀ a, (dLst mt po r a).length ≤ a
  | 0 => Nat.le_refl _
  | a + 1 => by
    have := dLst_len (mt := mt) (po := po) (r := r) a
    show (if _ then _ else _ : List Nat).length ≤ _
    split
    · rw [List.length_append]; exact Nat.succ_le_succ this
    · exact Nat.le_succ_of_le this
theorem dLst_y {mt po : Nat → Nat} {r a : Nat} (h1 : gOf mt a &&& (2 ^ a - 1) = 0) (h2 : ¬ wP po (gOf mt a) r 0) : dLst mt po r (a + 1) = dLst mt po r a ++ [gOf mt a] := if_pos ⟨h1, h2⟩
theorem dLst_n1 {mt po : Nat → Nat} {r a : Nat} (h1 : ¬ gOf mt a &&& (2 ^ a - 1) = 0) : dLst mt po r (a + 1) = dLst mt po r a := if_neg (fun z => h1 z.1)
theorem dLst_n2 {mt po : Nat → Nat} {r a : Nat} (h1 : wP po (gOf mt a) r 0) : dLst mt po r (a + 1) = dLst mt po r a := if_neg (fun z => z.2 h1)
def DLI (V : aV) (l : List Nat) : Prop := ∀ k, k < l.length → V 87 k = .int (nI (l.getD k 0))
theorem DLI.app {V : aV} {l : List Nat} {g : Nat} (h : DLI V l) : DLI (a_up V 87 l.length (.int (nI g))) (l ++ [g]) := by
  intro k hk
  rw [List.length_append] at hk
  by_cases q : k = l.length
  · subst q
    rw [a_up_self]
    simp [List.getD_eq_getElem?_getD]
  · have hk2 : k < l.length := by simp at hk; omega
    rw [a_up_ne (Or.inr q), h k hk2, List.getD_eq_getElem?_getD, List.getD_eq_getElem?_getD, List.getElem?_append_left hk2]
theorem BF.fr {V V' : aV} (h : BF V) (e : V' 74 = V 74) : BF V' := by
  obtain ⟨f0, f2, f3, f4⟩ := h
  exact ⟨(congrFun e 0).trans f0, (congrFun e 2).trans f2, (congrFun e 3).trans f3, (congrFun e 4).trans f4⟩
set_option maxHeartbeats 4000000 in
theorem dL_loop {mc ms kc ks : Nat} {V0 : aV} {mt po : Nat → Nat} {r c : Nat} (hB : BF V0) (hM : MK V0 85 mt) (hP : MK V0 86 po) (hr : r < 12) (hc : V0 74 5 = .int (nI c)) (hc12 : c ≤ 12) {Q : Option Value → aS → aV → Prop} {QX : String → aS → aV → Prop} (hQ : ∀ V', DLI V' (dLst mt po r c) → Fr0 V0 V' 87 → Q (some (.int (nI (dLst mt po r c).length))) Sh V') : ∀ (m a : Nat) (V : aV), a + m = c → DLI V (dLst mt po r a) → Fr0 V0 V 87 → R mX1_listDue 3 mc ms Q QX kc ks 4 [some (.ref 74), some (.int (nI r)), some (.int (nI (dLst mt po r a).length)), some (.int (nI a)), none, none] [] Sh V := by
  intro m
  induction m with
  | zero =>
    intro a V ha hD hF
    have ha' : a = c := by omega
    subst ha'
    have hc' : V 74 5 = .int (nI a) := (congrFun (hF 74 (by decide)) 5).trans hc
    refine R_iload_3 dX1_listDue_4 ?_
    refine R_aload_0 dX1_listDue_5 ?_
    refine gfX1_36 rfl dX1_listDue_6 sh_74 hc' ?_
    refine R_icmp_ge 75 dX1_listDue_9 (by decide) (fun c9 => ?_) (fun c9 => absurd (Int32.le_refl _) c9)
    refine R_iload_2 dX1_listDue_75 ?_
    refine R_iret rfl dX1_listDue_76 (hQ V hD hF)
  | succ m ih =>
    intro a V ha hD hF
    have hc' : V 74 5 = .int (nI c) := (congrFun (hF 74 (by decide)) 5).trans hc
    have hB' := hB.fr (hF 74 (by decide))
    have hM' := hM.fr (hF 85 (by decide))
    have hP' := hP.fr (hF 86 (by decide))
    have hB2 := hB'
    obtain ⟨f0, f2, f3, f4⟩ := hB2
    have hlen := dLst_len (mt := mt) (po := po) (r := r) a
    have hg := gOf_lt (mt := mt) (fun j hj => (hM j hj).2) (a := a) (by omega)
    have b9 : ¬ nI c ≤ nI a := nI_ge (a := a) (b := c) (by omega) (by omega)
    have b15 : ¬ (12 : Int32) ≤ nI (dLst mt po r a).length := nI_ge (a := (dLst mt po r a).length) (b := 12) (by omega) (by omega)
    refine R_iload_3 dX1_listDue_4 ?_
    refine R_aload_0 dX1_listDue_5 ?_
    refine gfX1_36 rfl dX1_listDue_6 sh_74 hc' ?_
    refine R_icmp_ge 75 dX1_listDue_9 (by decide) (fun c9 => absurd c9 b9) (fun c9 => ?_)
    refine R_iload_2 dX1_listDue_12 ?_
    refine R_bipush (v := 12) dX1_listDue_13 (by decide) ?_
    refine R_icmp_ge 75 dX1_listDue_15 (by decide) (fun c15 => absurd c15 b15) (fun c15 => ?_)
    refine R_aload_0 dX1_listDue_18 ?_
    refine R_iload_3 dX1_listDue_19 ?_
    refine R_callV_e (T := mX1_listDue) (T' := mX1_groupOf) (As := [_]) (ci := 1) okX1_groupOf mlX1_50 rfl (by decide) sh_74 (ct_groupOf hB' hM' (show a < 12 by omega)) rfl (by decide) (by decide) (Nat.le_of_ble_eq_true rfl) dX1_listDue_20 ?_
    refine R_istore_4 rfl (by decide) dX1_listDue_23 ?_
    refine R_iload_4 dX1_listDue_25 ?_
    refine R_iconst (v := 1) dX1_listDue_27 (by decide) ?_
    refine R_iload_3 dX1_listDue_28 ?_
    refine R_ishl dX1_listDue_29 ?_
    rw [bk_shl (by omega)]
    refine R_iconst (v := 1) dX1_listDue_30 (by decide) ?_
    refine R_isub dX1_listDue_31 ?_
    rw [bk_pred (by omega)]
    refine R_iand dX1_listDue_32 ?_
    rw [bk_and]
    refine R_if_ne 40 dX1_listDue_33 (by decide) (fun c33 => ?_) (fun c33 => ?_)
    · refine R_iconst (v := 0) dX1_listDue_40 (by decide) ?_
      refine R_istore_5 rfl (by decide) dX1_listDue_41 ?_
      refine R_iload_5 dX1_listDue_43 ?_
      refine R_if_eq 69 dX1_listDue_45 (by decide) (fun c45 => ?_) (fun c45 => absurd rfl c45)
      have e9 := dLst_n1 (mt := mt) (po := po) (r := r) (a := a) (fun z => c33 (by rw [z]; rfl))
      refine R_drop_4 ?_
      refine R_drop_5 ?_
      refine R_iinc_3 rfl (by decide) dX1_listDue_69 rfl ?_
      rw [show nI a + Int32.ofInt 1 = nI (a + 1) from nI_1 a]
      refine R_goto 4 dX1_listDue_72 (by decide) ?_
      rw [← e9]
      rw [← e9] at hD
      exact ih (a + 1) V (by omega) hD hF
    · refine R_iconst (v := 1) dX1_listDue_36 (by decide) ?_
      refine R_goto 41 dX1_listDue_37 (by decide) ?_
      refine R_istore_5 rfl (by decide) dX1_listDue_41 ?_
      refine R_iload_5 dX1_listDue_43 ?_
      refine R_if_eq 69 dX1_listDue_45 (by decide) (fun c45 => absurd c45 (by decide)) (fun c45 => ?_)
      refine R_aload_0 dX1_listDue_48 ?_
      refine R_iload_4 dX1_listDue_49 ?_
      refine R_iload_1 dX1_listDue_51 ?_
      refine R_callV_e (T := mX1_listDue) (T' := mX1_wasPosted) (As := [_, _]) (ci := 1) okX1_wasPosted mlX1_53 rfl (by decide) sh_74 (ct_wasPosted hB' hP' hg hr) rfl (by decide) (by decide) (Nat.le_of_ble_eq_true rfl) dX1_listDue_52 ?_
      refine R_if_ne 69 dX1_listDue_55 (by decide) (fun c55 => ?_) (fun c55 => ?_)
      · first
          | (have e9 := dLst_n2 (mt := mt) (po := po) (r := r) (a := a) (bI_ne c55)
             refine R_drop_4 ?_
             refine R_drop_5 ?_
             refine R_iinc_3 rfl (by decide) dX1_listDue_69 rfl ?_
             rw [show nI a + Int32.ofInt 1 = nI (a + 1) from nI_1 a]
             refine R_goto 4 dX1_listDue_72 (by decide) ?_
             rw [← e9]
             rw [← e9] at hD
             exact ih (a + 1) V (by omega) hD hF)
          | (refine R_drop_4 ?_
             refine R_drop_5 ?_
             refine R_iinc_3 rfl (by decide) dX1_listDue_69 rfl ?_
             rw [show nI a + Int32.ofInt 1 = nI (a + 1) from nI_1 a]
             refine R_goto 4 dX1_listDue_72 (by decide) ?_
             have eL : nI (dLst mt po r a).length + Int32.ofInt 1 = nI (dLst mt po r (a + 1)).length := (by rw [e9, List.length_append]; exact nI_1 _)
             rw [eL]
             exact ih (a + 1) _ (by omega) (by rw [e9]; exact hD.app) (fun b hb => (a_up_row hb).trans (hF b hb)))
      · have e9 := dLst_y (mt := mt) (po := po) (r := r) (a := a) (bk_z0 (Nat.lt_of_le_of_lt Nat.and_le_left (by omega)) c33) (bI_eq c55)
        refine R_aload_0 dX1_listDue_58 ?_
        refine gfX1_29 rfl dX1_listDue_59 sh_74 f4 ?_
        refine R_iload_2 dX1_listDue_62 ?_
        refine R_iload_4 dX1_listDue_63 ?_
        refine R_iast dX1_listDue_65 sh_87 (vp_in_nI (by omega) (by decide)) (nI_clamp (by omega)) ?_
        refine R_iinc_2 rfl (by decide) dX1_listDue_66 rfl ?_
        first
          | (have e9 := dLst_n2 (mt := mt) (po := po) (r := r) (a := a) (bI_ne c55)
             refine R_drop_4 ?_
             refine R_drop_5 ?_
             refine R_iinc_3 rfl (by decide) dX1_listDue_69 rfl ?_
             rw [show nI a + Int32.ofInt 1 = nI (a + 1) from nI_1 a]
             refine R_goto 4 dX1_listDue_72 (by decide) ?_
             rw [← e9]
             rw [← e9] at hD
             exact ih (a + 1) V (by omega) hD hF)
          | (refine R_drop_4 ?_
             refine R_drop_5 ?_
             refine R_iinc_3 rfl (by decide) dX1_listDue_69 rfl ?_
             rw [show nI a + Int32.ofInt 1 = nI (a + 1) from nI_1 a]
             refine R_goto 4 dX1_listDue_72 (by decide) ?_
             have eL : nI (dLst mt po r a).length + Int32.ofInt 1 = nI (dLst mt po r (a + 1)).length := (by rw [e9, List.length_append]; exact nI_1 _)
             rw [eL]
             exact ih (a + 1) _ (by omega) (by rw [e9]; exact hD.app) (fun b hb => (a_up_row hb).trans (hF b hb)))
set_option maxHeartbeats 4000000 in
theorem ct_listDue {V : aV} {mt po : Nat → Nat} {r c : Nat} (hB : BF V) (hM : MK V 85 mt) (hP : MK V 86 po) (hr : r < 12) (hc : V 74 5 = .int (nI c)) (hc12 : c ≤ 12) : CT mX1_listDue 3 0 0 [.ref 74, .int (nI r)] Sh V (fun v S' V' => some (.int (nI (dLst mt po r c).length)) = v ∧ Sh = S' ∧ DLI V' (dLst mt po r c) ∧ Fr0 V V' 87) aNo := by
  refine CT_of (by decide +kernel) (Nat.le_of_ble_eq_true rfl) ?_
  show R _ _ _ _ _ _ _ _ 0 [some (.ref 74), some (.int (nI r)), none, none, none, none] [] _ _
  refine R_iconst (v := 0) dX1_listDue_0 (by decide) ?_
  refine R_istore_2 rfl (by decide) dX1_listDue_1 ?_
  refine R_iconst (v := 0) dX1_listDue_2 (by decide) ?_
  refine R_istore_3 rfl (by decide) dX1_listDue_3 ?_
  exact dL_loop hB hM hP hr hc hc12 (fun V9 q1 q2 => ⟨rfl, rfl, q1, q2⟩) c 0 _ (Nat.zero_add _) (fun k hk => absurd hk (Nat.not_lt_zero k)) (fun _ _ => rfl)

