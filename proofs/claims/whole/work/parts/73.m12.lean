/-! ===== MergePostModel: likeness, matches, pairs ===== -/
set_option maxHeartbeats 4000000 in
theorem ct_mlikenessOf {V : aV} {ent : Nat → EntN} {cnt : Nat} (hR : MR V) (hE : ME V ent cnt) (hEO : ∀ k, k < 12 → EO (ent k)) {i j : Nat} (hi : i < 12) (hj : j < 12) : CT mX12_likenessOf 3 0 0 [.ref 504, .int (nI i), .int (nI j)] Sh V (fun v S' V' => some (.float (lkV (encE (ent i)) (encE (ent j)))) = v ∧ Sh = S' ∧ Fr0 V V' 537) aNo := by
  refine CT_of (by decide +kernel) (Nat.le_of_ble_eq_true rfl) ?_
  show R _ _ _ _ _ _ _ _ 0 [some (.ref 504), some (.int (nI i)), some (.int (nI j)), none] [] _ _
  have ok := fun (hh zz : UInt32) (q1 : hh ∈ hv) (q2 : zz ∈ zv) => lk_use (wl_in ((hEO i hi).cw 0) ((hEO j hj).cw 0)) (wl_in ((hEO i hi).cw 1) ((hEO j hj).cw 1)) q1 q2
  have b1 := (hEO i hi).1
  have b2 := (hEO j hj).1
  refine R_ldcf dX12_likenessOf_0 cwX12_186 ?_
  refine R_aload_0 dX12_likenessOf_2 ?_
  refine R_iload_1 dX12_likenessOf_3 ?_
  refine R_iload_2 dX12_likenessOf_4 ?_
  refine R_iconst (v := 0) dX12_likenessOf_5 (by decide) ?_
  refine R_callV (T := mX12_likenessOf) (T' := mX12_alike) (As := [_, _, _]) (ci := 12) okX12_alike mlX12_187 rfl (by decide) sh_504 (ct_alike hR hE hEO hi hj 0) rfl (by decide) (by decide) (Nat.le_of_ble_eq_true rfl) dX12_likenessOf_6 (fun v9 S9 V1 h9 => ?_) (fun E S9 V9 h9 => h9.elim)
  obtain ⟨rfl, rfl, u4⟩ := h9
  have f1 := FrS.r u4 (by decide) (by decide)
  have hR1 := f1.mr hR
  have hE1 := f1.me hE
  refine R_fmul dX12_likenessOf_9 (ok 0 0 hv0 zv0).1 ?_
  refine R_fstore_3 rfl (by decide) dX12_likenessOf_10 ?_
  refine R_fload_3 dX12_likenessOf_11 ?_
  refine R_ldcf dX12_likenessOf_12 cwX12_191 ?_
  refine R_aload_0 dX12_likenessOf_14 ?_
  refine R_iload_1 dX12_likenessOf_15 ?_
  refine R_iload_2 dX12_likenessOf_16 ?_
  refine R_iconst (v := 1) dX12_likenessOf_17 (by decide) ?_
  refine R_callV (T := mX12_likenessOf) (T' := mX12_alike) (As := [_, _, _]) (ci := 12) okX12_alike mlX12_187 rfl (by decide) sh_504 (ct_alike hR1 hE1 hEO hi hj 1) rfl (by decide) (by decide) (Nat.le_of_ble_eq_true rfl) dX12_likenessOf_18 (fun v9 S9 V2 h9 => ?_) (fun E S9 V9 h9 => h9.elim)
  obtain ⟨rfl, rfl, u5⟩ := h9
  have f2 := FrS.r u5 (by decide) (by decide)
  have hR := f2.mr hR1
  have hE2 := f2.me hE1
  have hw1 := (hE2.2 i hi).2.2.2.2.1
  have hw2 := (hE2.2 j hj).2.2.2.2.1
  have zw1 := (hE2.2 i hi).2.2.2.2.2.1
  have zw2 := (hE2.2 j hj).2.2.2.2.2.1
  refine R_fmul dX12_likenessOf_21 (ok 0 0 hv0 zv0).2.1 ?_
  refine R_fadd dX12_likenessOf_22 (ok 0 0 hv0 zv0).2.2.1 ?_
  refine R_fstore_3 rfl (by decide) dX12_likenessOf_23 ?_
  refine R_fload_3 dX12_likenessOf_24 ?_
  refine R_ldcf dX12_likenessOf_25 cwX12_192 ?_
  refine R_aload_0 dX12_likenessOf_27 ?_
  refine gfX12_43 rfl dX12_likenessOf_28 sh_504 (by first | exact hR.g (k := 14) (a := 516) (by decide) | exact (a_up_ne (by omega)).trans (hR.g (k := 14) (a := 516) (by decide)) | exact (a_up_ne (by omega)).trans ((a_up_ne (by omega)).trans (hR.g (k := 14) (a := 516) (by decide))) | exact (a_up_ne (by omega)).trans ((a_up_ne (by omega)).trans ((a_up_ne (by omega)).trans (hR.g (k := 14) (a := 516) (by decide)))) | exact (a_up_ne (by omega)).trans ((a_up_ne (by omega)).trans ((a_up_ne (by omega)).trans ((a_up_ne (by omega)).trans (hR.g (k := 14) (a := 516) (by decide))))) | exact (a_up_ne (by omega)).trans ((a_up_ne (by omega)).trans ((a_up_ne (by omega)).trans ((a_up_ne (by omega)).trans ((a_up_ne (by omega)).trans (hR.g (k := 14) (a := 516) (by decide)))))) | exact (a_up_ne (by omega)).trans ((a_up_ne (by omega)).trans ((a_up_ne (by omega)).trans ((a_up_ne (by omega)).trans ((a_up_ne (by omega)).trans ((a_up_ne (by omega)).trans (hR.g (k := 14) (a := 516) (by decide)))))))) ?_
  refine R_iload_1 dX12_likenessOf_31 ?_
  refine R_ialdE dX12_likenessOf_32 sh_516 rfl (by omega) (by decide) hw1 ?_
  refine R_aload_0 dX12_likenessOf_33 ?_
  refine gfX12_43 rfl dX12_likenessOf_34 sh_504 (by first | exact hR.g (k := 14) (a := 516) (by decide) | exact (a_up_ne (by omega)).trans (hR.g (k := 14) (a := 516) (by decide)) | exact (a_up_ne (by omega)).trans ((a_up_ne (by omega)).trans (hR.g (k := 14) (a := 516) (by decide))) | exact (a_up_ne (by omega)).trans ((a_up_ne (by omega)).trans ((a_up_ne (by omega)).trans (hR.g (k := 14) (a := 516) (by decide)))) | exact (a_up_ne (by omega)).trans ((a_up_ne (by omega)).trans ((a_up_ne (by omega)).trans ((a_up_ne (by omega)).trans (hR.g (k := 14) (a := 516) (by decide))))) | exact (a_up_ne (by omega)).trans ((a_up_ne (by omega)).trans ((a_up_ne (by omega)).trans ((a_up_ne (by omega)).trans ((a_up_ne (by omega)).trans (hR.g (k := 14) (a := 516) (by decide)))))) | exact (a_up_ne (by omega)).trans ((a_up_ne (by omega)).trans ((a_up_ne (by omega)).trans ((a_up_ne (by omega)).trans ((a_up_ne (by omega)).trans ((a_up_ne (by omega)).trans (hR.g (k := 14) (a := 516) (by decide)))))))) ?_
  refine R_iload_2 dX12_likenessOf_37 ?_
  refine R_ialdE dX12_likenessOf_38 sh_516 rfl (by omega) (by decide) hw2 ?_
  refine R_icmp_ne 46 dX12_likenessOf_39 (by decide) (fun c39 => ?_) (fun c39 => ?_)
  · have eh : ¬ (encE (ent i)).2.2.1 = (encE (ent j)).2.2.1 := c39
    refine R_fconst0 dX12_likenessOf_46 ?_
    refine R_fmul dX12_likenessOf_47 (by first | exact n21 | exact n20) ?_
    first | rw [m21] | rw [m20]
    refine R_fadd dX12_likenessOf_48 (by first | exact (ok _ 0 hv1 zv0).2.2.2.1 | exact (ok _ 0 hv0 zv0).2.2.2.1) ?_
    refine R_fstore_3 rfl (by decide) dX12_likenessOf_49 ?_
    refine R_fload_3 dX12_likenessOf_50 ?_
    refine R_ldcf dX12_likenessOf_51 cwX12_193 ?_
    refine R_aload_0 dX12_likenessOf_53 ?_
    refine gfX12_46 rfl dX12_likenessOf_54 sh_504 (by first | exact hR.g (k := 15) (a := 517) (by decide) | exact (a_up_ne (by omega)).trans (hR.g (k := 15) (a := 517) (by decide)) | exact (a_up_ne (by omega)).trans ((a_up_ne (by omega)).trans (hR.g (k := 15) (a := 517) (by decide))) | exact (a_up_ne (by omega)).trans ((a_up_ne (by omega)).trans ((a_up_ne (by omega)).trans (hR.g (k := 15) (a := 517) (by decide)))) | exact (a_up_ne (by omega)).trans ((a_up_ne (by omega)).trans ((a_up_ne (by omega)).trans ((a_up_ne (by omega)).trans (hR.g (k := 15) (a := 517) (by decide))))) | exact (a_up_ne (by omega)).trans ((a_up_ne (by omega)).trans ((a_up_ne (by omega)).trans ((a_up_ne (by omega)).trans ((a_up_ne (by omega)).trans (hR.g (k := 15) (a := 517) (by decide)))))) | exact (a_up_ne (by omega)).trans ((a_up_ne (by omega)).trans ((a_up_ne (by omega)).trans ((a_up_ne (by omega)).trans ((a_up_ne (by omega)).trans ((a_up_ne (by omega)).trans (hR.g (k := 15) (a := 517) (by decide)))))))) ?_
    refine R_iload_1 dX12_likenessOf_57 ?_
    refine R_ialdE dX12_likenessOf_58 sh_517 rfl (by omega) (by decide) zw1 ?_
    refine R_aload_0 dX12_likenessOf_59 ?_
    refine gfX12_46 rfl dX12_likenessOf_60 sh_504 (by first | exact hR.g (k := 15) (a := 517) (by decide) | exact (a_up_ne (by omega)).trans (hR.g (k := 15) (a := 517) (by decide)) | exact (a_up_ne (by omega)).trans ((a_up_ne (by omega)).trans (hR.g (k := 15) (a := 517) (by decide))) | exact (a_up_ne (by omega)).trans ((a_up_ne (by omega)).trans ((a_up_ne (by omega)).trans (hR.g (k := 15) (a := 517) (by decide)))) | exact (a_up_ne (by omega)).trans ((a_up_ne (by omega)).trans ((a_up_ne (by omega)).trans ((a_up_ne (by omega)).trans (hR.g (k := 15) (a := 517) (by decide))))) | exact (a_up_ne (by omega)).trans ((a_up_ne (by omega)).trans ((a_up_ne (by omega)).trans ((a_up_ne (by omega)).trans ((a_up_ne (by omega)).trans (hR.g (k := 15) (a := 517) (by decide)))))) | exact (a_up_ne (by omega)).trans ((a_up_ne (by omega)).trans ((a_up_ne (by omega)).trans ((a_up_ne (by omega)).trans ((a_up_ne (by omega)).trans ((a_up_ne (by omega)).trans (hR.g (k := 15) (a := 517) (by decide)))))))) ?_
    refine R_iload_2 dX12_likenessOf_63 ?_
    refine R_ialdE dX12_likenessOf_64 sh_517 rfl (by omega) (by decide) zw2 ?_
    refine R_icmp_ne 72 dX12_likenessOf_65 (by decide) (fun c65 => ?_) (fun c65 => ?_)
    · have ez : ¬ (encE (ent i)).2.2.2.1 = (encE (ent j)).2.2.2.1 := c65
      refine R_fconst0 dX12_likenessOf_72 ?_
      refine R_fmul dX12_likenessOf_73 (by first | exact n11 | exact n10) ?_
      first | rw [m11] | rw [m10]
      refine R_fadd dX12_likenessOf_74 (by first | exact (ok _ _ hv1 zv1).2.2.2.2.1 | exact (ok _ _ hv1 zv0).2.2.2.2.1 | exact (ok _ _ hv0 zv1).2.2.2.2.1 | exact (ok _ _ hv0 zv0).2.2.2.2.1) ?_
      refine R_fstore_3 rfl (by decide) dX12_likenessOf_75 ?_
      refine R_fload_3 dX12_likenessOf_76 ?_
      refine R_fret rfl dX12_likenessOf_77 (by first | exact ⟨(by unfold lkV; rw [if_pos eh, if_pos ez]; rfl), rfl, fun q hq => (u5 q hq).trans (u4 q hq)⟩ | exact ⟨(by unfold lkV; rw [if_pos eh, if_neg ez]; rfl), rfl, fun q hq => (u5 q hq).trans (u4 q hq)⟩ | exact ⟨(by unfold lkV; rw [if_neg eh, if_pos ez]; rfl), rfl, fun q hq => (u5 q hq).trans (u4 q hq)⟩ | exact ⟨(by unfold lkV; rw [if_neg eh, if_neg ez]; rfl), rfl, fun q hq => (u5 q hq).trans (u4 q hq)⟩)
    · have ez : (encE (ent i)).2.2.2.1 = (encE (ent j)).2.2.2.1 := c65
      refine R_fconst1 dX12_likenessOf_68 ?_
      refine R_goto 73 dX12_likenessOf_69 (by decide) ?_
      refine R_fmul dX12_likenessOf_73 (by first | exact n11 | exact n10) ?_
      first | rw [m11] | rw [m10]
      refine R_fadd dX12_likenessOf_74 (by first | exact (ok _ _ hv1 zv1).2.2.2.2.1 | exact (ok _ _ hv1 zv0).2.2.2.2.1 | exact (ok _ _ hv0 zv1).2.2.2.2.1 | exact (ok _ _ hv0 zv0).2.2.2.2.1) ?_
      refine R_fstore_3 rfl (by decide) dX12_likenessOf_75 ?_
      refine R_fload_3 dX12_likenessOf_76 ?_
      refine R_fret rfl dX12_likenessOf_77 (by first | exact ⟨(by unfold lkV; rw [if_pos eh, if_pos ez]; rfl), rfl, fun q hq => (u5 q hq).trans (u4 q hq)⟩ | exact ⟨(by unfold lkV; rw [if_pos eh, if_neg ez]; rfl), rfl, fun q hq => (u5 q hq).trans (u4 q hq)⟩ | exact ⟨(by unfold lkV; rw [if_neg eh, if_pos ez]; rfl), rfl, fun q hq => (u5 q hq).trans (u4 q hq)⟩ | exact ⟨(by unfold lkV; rw [if_neg eh, if_neg ez]; rfl), rfl, fun q hq => (u5 q hq).trans (u4 q hq)⟩)
  · have eh : (encE (ent i)).2.2.1 = (encE (ent j)).2.2.1 := c39
    refine R_fconst1 dX12_likenessOf_42 ?_
    refine R_goto 47 dX12_likenessOf_43 (by decide) ?_
    refine R_fmul dX12_likenessOf_47 (by first | exact n21 | exact n20) ?_
    first | rw [m21] | rw [m20]
    refine R_fadd dX12_likenessOf_48 (by first | exact (ok _ 0 hv1 zv0).2.2.2.1 | exact (ok _ 0 hv0 zv0).2.2.2.1) ?_
    refine R_fstore_3 rfl (by decide) dX12_likenessOf_49 ?_
    refine R_fload_3 dX12_likenessOf_50 ?_
    refine R_ldcf dX12_likenessOf_51 cwX12_193 ?_
    refine R_aload_0 dX12_likenessOf_53 ?_
    refine gfX12_46 rfl dX12_likenessOf_54 sh_504 (by first | exact hR.g (k := 15) (a := 517) (by decide) | exact (a_up_ne (by omega)).trans (hR.g (k := 15) (a := 517) (by decide)) | exact (a_up_ne (by omega)).trans ((a_up_ne (by omega)).trans (hR.g (k := 15) (a := 517) (by decide))) | exact (a_up_ne (by omega)).trans ((a_up_ne (by omega)).trans ((a_up_ne (by omega)).trans (hR.g (k := 15) (a := 517) (by decide)))) | exact (a_up_ne (by omega)).trans ((a_up_ne (by omega)).trans ((a_up_ne (by omega)).trans ((a_up_ne (by omega)).trans (hR.g (k := 15) (a := 517) (by decide))))) | exact (a_up_ne (by omega)).trans ((a_up_ne (by omega)).trans ((a_up_ne (by omega)).trans ((a_up_ne (by omega)).trans ((a_up_ne (by omega)).trans (hR.g (k := 15) (a := 517) (by decide)))))) | exact (a_up_ne (by omega)).trans ((a_up_ne (by omega)).trans ((a_up_ne (by omega)).trans ((a_up_ne (by omega)).trans ((a_up_ne (by omega)).trans ((a_up_ne (by omega)).trans (hR.g (k := 15) (a := 517) (by decide)))))))) ?_
    refine R_iload_1 dX12_likenessOf_57 ?_
    refine R_ialdE dX12_likenessOf_58 sh_517 rfl (by omega) (by decide) zw1 ?_
    refine R_aload_0 dX12_likenessOf_59 ?_
    refine gfX12_46 rfl dX12_likenessOf_60 sh_504 (by first | exact hR.g (k := 15) (a := 517) (by decide) | exact (a_up_ne (by omega)).trans (hR.g (k := 15) (a := 517) (by decide)) | exact (a_up_ne (by omega)).trans ((a_up_ne (by omega)).trans (hR.g (k := 15) (a := 517) (by decide))) | exact (a_up_ne (by omega)).trans ((a_up_ne (by omega)).trans ((a_up_ne (by omega)).trans (hR.g (k := 15) (a := 517) (by decide)))) | exact (a_up_ne (by omega)).trans ((a_up_ne (by omega)).trans ((a_up_ne (by omega)).trans ((a_up_ne (by omega)).trans (hR.g (k := 15) (a := 517) (by decide))))) | exact (a_up_ne (by omega)).trans ((a_up_ne (by omega)).trans ((a_up_ne (by omega)).trans ((a_up_ne (by omega)).trans ((a_up_ne (by omega)).trans (hR.g (k := 15) (a := 517) (by decide)))))) | exact (a_up_ne (by omega)).trans ((a_up_ne (by omega)).trans ((a_up_ne (by omega)).trans ((a_up_ne (by omega)).trans ((a_up_ne (by omega)).trans ((a_up_ne (by omega)).trans (hR.g (k := 15) (a := 517) (by decide)))))))) ?_
    refine R_iload_2 dX12_likenessOf_63 ?_
    refine R_ialdE dX12_likenessOf_64 sh_517 rfl (by omega) (by decide) zw2 ?_
    refine R_icmp_ne 72 dX12_likenessOf_65 (by decide) (fun c65 => ?_) (fun c65 => ?_)
    · have ez : ¬ (encE (ent i)).2.2.2.1 = (encE (ent j)).2.2.2.1 := c65
      refine R_fconst0 dX12_likenessOf_72 ?_
      refine R_fmul dX12_likenessOf_73 (by first | exact n11 | exact n10) ?_
      first | rw [m11] | rw [m10]
      refine R_fadd dX12_likenessOf_74 (by first | exact (ok _ _ hv1 zv1).2.2.2.2.1 | exact (ok _ _ hv1 zv0).2.2.2.2.1 | exact (ok _ _ hv0 zv1).2.2.2.2.1 | exact (ok _ _ hv0 zv0).2.2.2.2.1) ?_
      refine R_fstore_3 rfl (by decide) dX12_likenessOf_75 ?_
      refine R_fload_3 dX12_likenessOf_76 ?_
      refine R_fret rfl dX12_likenessOf_77 (by first | exact ⟨(by unfold lkV; rw [if_pos eh, if_pos ez]; rfl), rfl, fun q hq => (u5 q hq).trans (u4 q hq)⟩ | exact ⟨(by unfold lkV; rw [if_pos eh, if_neg ez]; rfl), rfl, fun q hq => (u5 q hq).trans (u4 q hq)⟩ | exact ⟨(by unfold lkV; rw [if_neg eh, if_pos ez]; rfl), rfl, fun q hq => (u5 q hq).trans (u4 q hq)⟩ | exact ⟨(by unfold lkV; rw [if_neg eh, if_neg ez]; rfl), rfl, fun q hq => (u5 q hq).trans (u4 q hq)⟩)
    · have ez : (encE (ent i)).2.2.2.1 = (encE (ent j)).2.2.2.1 := c65
      refine R_fconst1 dX12_likenessOf_68 ?_
      refine R_goto 73 dX12_likenessOf_69 (by decide) ?_
      refine R_fmul dX12_likenessOf_73 (by first | exact n11 | exact n10) ?_
      first | rw [m11] | rw [m10]
      refine R_fadd dX12_likenessOf_74 (by first | exact (ok _ _ hv1 zv1).2.2.2.2.1 | exact (ok _ _ hv1 zv0).2.2.2.2.1 | exact (ok _ _ hv0 zv1).2.2.2.2.1 | exact (ok _ _ hv0 zv0).2.2.2.2.1) ?_
      refine R_fstore_3 rfl (by decide) dX12_likenessOf_75 ?_
      refine R_fload_3 dX12_likenessOf_76 ?_
      refine R_fret rfl dX12_likenessOf_77 (by first | exact ⟨(by unfold lkV; rw [if_pos eh, if_pos ez]; rfl), rfl, fun q hq => (u5 q hq).trans (u4 q hq)⟩ | exact ⟨(by unfold lkV; rw [if_pos eh, if_neg ez]; rfl), rfl, fun q hq => (u5 q hq).trans (u4 q hq)⟩ | exact ⟨(by unfold lkV; rw [if_neg eh, if_pos ez]; rfl), rfl, fun q hq => (u5 q hq).trans (u4 q hq)⟩ | exact ⟨(by unfold lkV; rw [if_neg eh, if_neg ez]; rfl), rfl, fun q hq => (u5 q hq).trans (u4 q hq)⟩)

/-! bits -/
theorem wf_1 : Cond.native ⟨"java/lang/Float", "floatToRawIntBits", "(F)I"⟩ ∈ aT := aT_of (List.mem_of_getElem? (i := 1385) (by decide +kernel)) (by decide +kernel)
theorem wf_2 : Cond.static ⟨"java/lang/Float", "floatToRawIntBits", "(F)I"⟩ ∈ aT := aT_of (List.mem_of_getElem? (i := 1384) (by decide +kernel)) (by decide +kernel)
section MF2
variable {T : aMt} {r mc ms : Nat} {Q : Option Value → aS → aV → Prop} {QX : String → aS → aV → Prop} {kc ks pc : Nat} {lv : List (Option Value)} {st : List Value} {S : aS} {V : aV}
theorem R_f2raw {idx : Nat} {x : UInt32} (hw1 : Cond.methodLink T.1.cls idx ⟨"java/lang/Float", "floatToRawIntBits", "(F)I"⟩ ∈ aT) (hw3 : Cond.initialized "java/lang/Float" ∈ aT) (d : decode T.2.1 pc = .ok (.invokestatic idx, 3)) (hr : 1 ≤ r) (hst : (st.map fun v => v.category).sum ≤ 8) (kk : R T r mc ms Q QX kc ks (pc + 3) lv (.int x.toInt32 :: st) S V) : R T r mc ms Q QX kc ks pc lv (.float x :: st) S V := by
  intro p l e s m args below meth c H locs cells slots D cA o x0 ls C K hl hP hz hS ho h1 h2
  exact vn_f2i C.1 C.2.1 (C.2.2.1.trans hl.1.symm) C.2.2.2.1 (C.2.2.2.2.1 _ hw1) (C.2.2.2.2.1 _ wf_1) (C.2.2.2.2.1 _ wf_2) (C.2.2.2.2.1 _ hw3) hr (by rw [a_cats]; show _ ≤ 40 * r; omega) d (kk p l e s m args below meth c H locs cells slots D cA o x0 ls C K hl hP hz hS ho h1 h2)
end MF2
theorem fo_self (d : FP.Core.Datum) (h : ¬ FP.Core.order d d = none) : FP.Core.order d d = some .eq := by
  cases d with
  | nan => exact absurd rfl h
  | inf s => simp [FP.Core.order, compare, compareOfLessAndEq]
  | fin s c q => simp [FP.Core.order, compare, compareOfLessAndEq]
theorem fc_self {u : UInt32} (h : boK u = true) : FP.fcmp u u = some .eq := by
  unfold boK at h
  by_cases q : FP.fcmp u 0 = some .gt
  · refine fo_self _ (fun z => ?_)
    have e : FP.fcmp u 0 = none := by
      show FP.Core.order (FP.Core.decode FP.Core.b32 u.toNat) _ = none
      cases hd : FP.Core.decode FP.Core.b32 u.toNat with
      | nan => rfl
      | inf s => rw [hd] at z; simp [FP.Core.order] at z
      | fin s c q => rw [hd] at z; simp [FP.Core.order] at z
    rw [e] at q
    cases q
  · rw [if_neg q] at h
    rw [beq_iff_eq.1 h]
    decide +kernel
section PF
variable {l : Launch}
theorem vx_ofW2 {y : MethodName} {ws ws' : List Cond} {rm : Room} {Pc : Array Value → State → Prop} {Qc : Array Value → State → Outcome → State → Prop} {XC : String → State → State → Prop} {mc ms : Nat} {free : Addr → Prop} {cc : ByteArray} {maxL : Nat} {ret : Option FieldType}
    (hy : plainFor y = true) (hw : ws = Cond.code y cc maxL ret :: ws')
    (body : ∀ p e s m args below meth c s₁, BodyLoose p l y (headSpec ws rm) cc maxL ret e s m args below meth c s₁ → c.maxLocals = maxL → (∀ x ∈ c.exceptionTable.toList, False) → Pc args s →
      W p l e (headSpec ws rm).room s m args below meth c s.heap [] 0 0 (vx_MQ below Qc XC args s mc ms free) (entryFrame m args maxL)) : vx_Met l y ws rm Pc Qc XC mc ms free := by
  refine MetFree.of_bodySF (code := cc) (maxLocals := maxL) (ret := ret) hy ?_ ?_
  · intro args s m h hn
    obtain ⟨meth, c, h1, h2, h3, h4, h5, h6, -, -⟩ := Cond.code_spec hn (atoms_spec (ws := ws) h _ (by rw [hw]; exact List.mem_cons_self))
    exact ⟨meth, c, h1, h2, h3, h4, h5, h6⟩
  · intro p e s m args below meth c s₁ B hml hP _
    have hh0 : s₁.heap = s.heap := by rw [B.state]; rfl
    have ht : ∀ x ∈ c.exceptionTable.toList, False := by
      obtain ⟨meth9, c9, h1, h2, -, -, -, -, h7, -⟩ := Cond.code_spec B.named (atoms_spec (ws := ws) B.pre _ (by rw [hw]; exact List.mem_cons_self))
      cases Option.some.inj (h1.symm.trans B.method)
      cases Option.some.inj (h2.symm.trans (Stand.of_body B).code)
      intro x hx
      rw [Array.isEmpty_iff.mp h7] at hx
      cases hx
    obtain ⟨t, a1, o, b1, b2, b3⟩ := body p e s m args below meth c s₁ B hml ht hP s₁ hh0 (Stand.of_body B)
    exact ⟨t, o, a1, b1, b2, b3⟩
end PF
theorem CT_of2 {T : aMt} {r mc ms : Nat} {As : List Value} {S : aS} {V : aV} {Q : Option Value → aS → aV → Prop} {QX : String → aS → aV → Prop} (hy : plainFor T.1 = true) (hlen : (a_in0 As).length ≤ T.2.2.1) (h : R T r mc ms Q QX mc ms 0 (a_in T.2.2.1 As) [] S V) : CT T r mc ms As S V Q QX := by
  intro l hl o x0 cA D
  refine vx_ofW2 (cc := T.2.1) (maxL := T.2.2.1) (ret := T.2.2.2) hy rfl ?_
  intro p e s m args below meth c s₁ B hml ht hv
  obtain ⟨rfl, ho, hP, hz, hK⟩ := hv
  have hts := atoms_spec (ws := .code T.1 T.2.1 T.2.2.1 T.2.2.2 :: aT) B.pre
  rw [lg_entry_eq]
  exact h p l e s m _ below meth c s.heap [] 0 0 D cA o x0 _ ⟨B.exec, B.bytes, hml, findClass_of_methodNamed B.named, fun w hw => hts w (List.mem_cons_of_mem _ hw), B.returns, B.notSynchronized, (name_of_methodNamed B.named B.method).1, ht, hl⟩ hK (a_lv.entry hlen) hP hz va_S.rf ho (Nat.le_of_eq (Nat.zero_add _)) (Nat.le_of_eq (Nat.zero_add _))
set_option maxHeartbeats 4000000 in
theorem ct_isNaN {S : aS} {V : aV} {u : UInt32} (h : FP.fcmp u u = some .eq) : CT mJxf58ca_isNaN_12338 0 0 0 [.float u] S V (aRet (some (.int 0)) S V) aNo := by
  refine CT_of2 (by decide +kernel) (Nat.le_of_ble_eq_true rfl) ?_
  show R _ _ _ _ _ _ _ _ 0 [some (.float u)] [] _ _
  refine R_fload_0 dJxf58ca_isNaN_12338_0 ?_
  refine R_fload_0 dJxf58ca_isNaN_12338_1 ?_
  refine R_fcmp dJxf58ca_isNaN_12338_2 ?_
  rw [show Op.cmpValue (FP.fcmp u u) .l = 0 by rw [h]; rfl]
  refine R_if_eq 10 dJxf58ca_isNaN_12338_3 (by decide) (fun c3 => ?_) (fun c3 => absurd rfl c3)
  refine R_iconst (v := 0) dJxf58ca_isNaN_12338_10 (by decide) ?_
  refine R_zret rfl (by first | rfl | assumption) dJxf58ca_isNaN_12338_11 ⟨rfl, rfl, rfl⟩

set_option maxHeartbeats 4000000 in
theorem ct_f2bits {S : aS} {V : aV} {u : UInt32} (h : FP.fcmp u u = some .eq) : CT mJxf58ca_floatToIntBits_5c35a 1 0 0 [.float u] S V (aRet (some (.int u.toInt32)) S V) aNo := by
  refine CT_of2 (by decide +kernel) (Nat.le_of_ble_eq_true rfl) ?_
  show R _ _ _ _ _ _ _ _ 0 [some (.float u)] [] _ _
  refine R_fload_0 dJxf58ca_floatToIntBits_5c35a_0 ?_
  refine R_callS_e (T := mJxf58ca_floatToIntBits_5c35a) (T' := mJxf58ca_isNaN_12338) (As := [_]) okJxf58ca_isNaN_12338 mlJxf58ca_59 rfl (ct_isNaN h) rfl (by decide) (by decide) (Nat.le_of_ble_eq_true rfl) dJxf58ca_floatToIntBits_5c35a_1 ?_
  refine R_if_ne 12 dJxf58ca_floatToIntBits_5c35a_4 (by decide) (fun c4 => absurd rfl c4) (fun c4 => ?_)
  refine R_fload_0 dJxf58ca_floatToIntBits_5c35a_7 ?_
  refine R_f2raw mlJxf58ca_74 wi_Jxf58ca dJxf58ca_floatToIntBits_5c35a_8 (by decide) (Nat.le_of_ble_eq_true rfl) ?_
  refine R_iret rfl dJxf58ca_floatToIntBits_5c35a_11 ⟨rfl, rfl, rfl⟩

theorem lkV_ok2 {x y : EntN} (h : EO x) (g : EO y) : boK (lkV (encE x) (encE y)) = true := by
  have ok := fun (hh zz : UInt32) (q1 : hh ∈ hv) (q2 : zz ∈ zv) => lk_use (wl_in (h.cw 0) (g.cw 0)) (wl_in (h.cw 1) (g.cw 1)) q1 q2
  unfold lkV
  split
  · split
    · exact (ok _ _ hv1 zv1).2.2.2.2.2
    · exact (ok _ _ hv1 zv0).2.2.2.2.2
  · split
    · exact (ok _ _ hv0 zv1).2.2.2.2.2
    · exact (ok _ _ hv0 zv0).2.2.2.2.2
def ok1 (cnt : Nat) (t : Int32) : Prop := ¬ t < 0 ∧ t < nI cnt
def xc1 (cnt : Nat) (t : Int32) : Nat := if ¬ t < 0 ∧ t < nI cnt then 0 else 1
def xc2 (cnt : Nat) (t u : Int32) : Nat := if (¬ t < 0 ∧ t < nI cnt) ∧ ¬ u < 0 ∧ u < nI cnt then 0 else 1
def xcCl (cnt : Nat) (t p : Int32) : Nat := if (¬ t < 0 ∧ t < nI cnt) ∧ ¬ p < 0 then 0 else 1
theorem okC_nI' {c : Int32} (h : okC c) : ∃ n, 32 ≤ n ∧ n ≤ 126 ∧ c = nI n := ⟨c.toInt.toNat, by have := h.1; omega, by have := h.2; omega, by
  apply Int32.toInt_inj.1
  have := h.1
  have := h.2
  rw [nI_toInt (by omega)]
  omega⟩
theorem okC_cw {x : EntN} (h : EO x) (b : Int32) : ∀ c ∈ cwd (encE x) b, okC c := by
  have g : ∀ (l : List Int32), (∀ c ∈ l, okC c) → ∀ c ∈ cl l, okC c := fun l hl c hc => by
    obtain ⟨a, ha, e⟩ := List.mem_filterMap.1 hc
    rcases mcl_n (hl a ha) with ⟨e0, -⟩ | ⟨x, e0, -, -, e2⟩
    · rw [e0] at e; cases e
    · rw [e0] at e; cases e; exact e2
  unfold cwd
  split
  · exact g _ h.2.2.1
  · exact g _ h.2.2.2
theorem tN {t : Int32} {cnt : Nat} (h : ¬ t < 0 ∧ t < nI cnt) (hc : cnt ≤ 12) : ∃ i, i < cnt ∧ i < 12 ∧ t = nI i := by
  obtain ⟨i, hi, rfl⟩ := nI_of h.1
  have := (nI_ltI hi (by omega)).1 h.2
  exact ⟨i, this, by omega, rfl⟩
set_option maxHeartbeats 4000000 in
theorem ct_mcleaned {V : aV} {ent : Nat → EntN} {cnt : Nat} (hR : MR V) (hE : ME V ent cnt) (hEO : ∀ k, k < 12 → EO (ent k)) (hc : cnt ≤ 12) (t b p : Int32) : CT mX12_cleaned 1 0 0 [.ref 504, .int t, .int b, .int p] Sh V (MQy V (xcCl cnt t p) (clC (encE (ent t.toNatClampNeg)) b p)) aNo := by
  refine CT_of (by decide +kernel) (Nat.le_of_ble_eq_true rfl) ?_
  show R _ _ _ _ _ _ _ _ 0 [some (.ref 504), some (.int t), some (.int b), some (.int p), none, none] [] _ _
  have h5 := hE.1
  refine R_aload_0 dX12_cleaned_0 ?_
  refine R_aload_0 dX12_cleaned_1 ?_
  refine R_iload_1 dX12_cleaned_2 ?_
  refine R_callV_e (T := mX12_cleaned) (T' := mX12_isOne) (As := [_]) (ci := 12) okX12_isOne mlX12_175 rfl (by decide) sh_504 (ct_misOne hE.1 t) rfl (by decide) (by decide) (Nat.le_of_ble_eq_true rfl) dX12_cleaned_3 ?_
  refine R_if_eq 17 dX12_cleaned_6 (by decide) (fun c6 => ?_) (fun c6 => ?_)
  · have hx : xcCl cnt t p = 1 := if_neg (fun z => (by first | exact bI_eq c6 z.1 | exact z.2 c10))
    refine R_iconst (v := 1) dX12_cleaned_17 (by decide) ?_
    refine R_callV_e (T := mX12_cleaned) (T' := mX12_fails) (As := [_]) (ci := 12) okX12_fails mlX12_128 rfl (by decide) sh_504 (ct_mfails _) rfl (by decide) (by decide) (Nat.le_of_ble_eq_true rfl) dX12_cleaned_18 ?_
    refine R_if_eq 26 dX12_cleaned_21 (by decide) (fun c21 => absurd c21 (by decide)) (fun c21 => ?_)
    refine R_iconst (v := 0) dX12_cleaned_24 (by decide) ?_
    refine R_zret rfl rfl dX12_cleaned_25 ⟨rfl, (a_up_self _ _ _ _).trans (by rw [hx]; rfl), ⟨_, rfl, fun z => by rw [hx] at z; cases z⟩, FrS.f (Or.inl rfl)⟩
  · refine R_iload_3 dX12_cleaned_9 ?_
    refine R_if_lt 17 dX12_cleaned_10 (by decide) (fun c10 => ?_) (fun c10 => ?_)
    · have hx : xcCl cnt t p = 1 := if_neg (fun z => (by first | exact bI_eq c6 z.1 | exact z.2 c10))
      refine R_iconst (v := 1) dX12_cleaned_17 (by decide) ?_
      refine R_callV_e (T := mX12_cleaned) (T' := mX12_fails) (As := [_]) (ci := 12) okX12_fails mlX12_128 rfl (by decide) sh_504 (ct_mfails _) rfl (by decide) (by decide) (Nat.le_of_ble_eq_true rfl) dX12_cleaned_18 ?_
      refine R_if_eq 26 dX12_cleaned_21 (by decide) (fun c21 => absurd c21 (by decide)) (fun c21 => ?_)
      refine R_iconst (v := 0) dX12_cleaned_24 (by decide) ?_
      refine R_zret rfl rfl dX12_cleaned_25 ⟨rfl, (a_up_self _ _ _ _).trans (by rw [hx]; rfl), ⟨_, rfl, fun z => by rw [hx] at z; cases z⟩, FrS.f (Or.inl rfl)⟩
    · have hok : ¬ t < 0 ∧ t < nI cnt := bI_ne c6
      have hp : ¬ p < 0 := c10
      have hx : xcCl cnt t p = 0 := if_pos ⟨hok, hp⟩
      obtain ⟨i, ic, i12, rfl⟩ := tN hok hc
      rw [nI_clamp (n := i) (by omega)]
      have mk := hE.2 i i12
      obtain ⟨q, hq31, rfl⟩ := nI_of hp
      refine R_iconst (v := 0) dX12_cleaned_13 (by decide) ?_
      refine R_goto 18 dX12_cleaned_14 (by decide) ?_
      refine R_callV_e (T := mX12_cleaned) (T' := mX12_fails) (As := [_]) (ci := 12) okX12_fails mlX12_128 rfl (by decide) sh_504 (ct_mfails _) rfl (by decide) (by decide) (Nat.le_of_ble_eq_true rfl) dX12_cleaned_18 ?_
      refine R_if_eq 26 dX12_cleaned_21 (by decide) (fun c21 => ?_) (fun c21 => absurd (by decide) c21)
      refine R_iload_2 dX12_cleaned_26 ?_
      refine R_if_eq 39 dX12_cleaned_27 (by decide) (fun c27 => ?_) (fun c27 => ?_)
      · refine R_aload_0 dX12_cleaned_39 ?_
        refine gfX12_34 rfl dX12_cleaned_40 sh_504 (by first | exact hR.g (k := 11) (a := 513) (by decide) | exact (a_up_ne (by omega)).trans (hR.g (k := 11) (a := 513) (by decide)) | exact (a_up_ne (by omega)).trans ((a_up_ne (by omega)).trans (hR.g (k := 11) (a := 513) (by decide))) | exact (a_up_ne (by omega)).trans ((a_up_ne (by omega)).trans ((a_up_ne (by omega)).trans (hR.g (k := 11) (a := 513) (by decide)))) | exact (a_up_ne (by omega)).trans ((a_up_ne (by omega)).trans ((a_up_ne (by omega)).trans ((a_up_ne (by omega)).trans (hR.g (k := 11) (a := 513) (by decide))))) | exact (a_up_ne (by omega)).trans ((a_up_ne (by omega)).trans ((a_up_ne (by omega)).trans ((a_up_ne (by omega)).trans ((a_up_ne (by omega)).trans (hR.g (k := 11) (a := 513) (by decide)))))) | exact (a_up_ne (by omega)).trans ((a_up_ne (by omega)).trans ((a_up_ne (by omega)).trans ((a_up_ne (by omega)).trans ((a_up_ne (by omega)).trans ((a_up_ne (by omega)).trans (hR.g (k := 11) (a := 513) (by decide)))))))) ?_
        refine R_iload_1 dX12_cleaned_43 ?_
        refine R_ialdE dX12_cleaned_44 sh_513 rfl (by omega) (by decide) ((a_up_ne (Or.inl (by decide))).trans (mk.cw c27).1) ?_
        have hlen := (hEO i i12).cw b
        refine R_istore_4 rfl (by decide) dX12_cleaned_45 ?_
        refine R_iload_3 dX12_cleaned_47 ?_
        refine R_iload_4 dX12_cleaned_48 ?_
        refine R_icmp_lt 58 dX12_cleaned_50 (by decide) (fun c50 => ?_) (fun c50 => ?_)
        · have hq : q < (cwd (encE (ent i)) b).length := (nI_ltI (by omega) (by omega)).1 c50
          obtain ⟨cc, g1, g2, g3⟩ := okC_nI' (okC_cw (hEO i i12) b _ (gd_mem (d := 0) hq))
          have e9 : clC (encE (ent i)) b (nI q) = nI cc := by unfold clC; rw [lAt_nI (by omega), g3]; exact if_neg (nI_ne0 (by omega) (by omega))
          refine R_iload_2 dX12_cleaned_58 ?_
          refine R_if_eq 76 dX12_cleaned_59 (by decide) (fun c59 => ?_) (fun c59 => ?_)
          · refine R_aload_0 dX12_cleaned_76 ?_
            refine gfX12_31 rfl dX12_cleaned_77 sh_504 (by first | exact hR.g (k := 10) (a := 512) (by decide) | exact (a_up_ne (by omega)).trans (hR.g (k := 10) (a := 512) (by decide)) | exact (a_up_ne (by omega)).trans ((a_up_ne (by omega)).trans (hR.g (k := 10) (a := 512) (by decide))) | exact (a_up_ne (by omega)).trans ((a_up_ne (by omega)).trans ((a_up_ne (by omega)).trans (hR.g (k := 10) (a := 512) (by decide)))) | exact (a_up_ne (by omega)).trans ((a_up_ne (by omega)).trans ((a_up_ne (by omega)).trans ((a_up_ne (by omega)).trans (hR.g (k := 10) (a := 512) (by decide))))) | exact (a_up_ne (by omega)).trans ((a_up_ne (by omega)).trans ((a_up_ne (by omega)).trans ((a_up_ne (by omega)).trans ((a_up_ne (by omega)).trans (hR.g (k := 10) (a := 512) (by decide)))))) | exact (a_up_ne (by omega)).trans ((a_up_ne (by omega)).trans ((a_up_ne (by omega)).trans ((a_up_ne (by omega)).trans ((a_up_ne (by omega)).trans ((a_up_ne (by omega)).trans (hR.g (k := 10) (a := 512) (by decide)))))))) ?_
            refine R_bipush (v := 12) dX12_cleaned_80 (by decide) ?_
            refine R_iload_1 dX12_cleaned_82 ?_
            refine R_imul dX12_cleaned_83 ?_
            refine R_iload_3 dX12_cleaned_84 ?_
            refine R_iadd dX12_cleaned_85 ?_
            refine R_ialdE dX12_cleaned_86 sh_512 (ix1 12 i q) (by omega) (by decide) ((a_up_ne (Or.inl (by decide))).trans ((mk.cw c59).2 q hq)) ?_
            refine R_istore_5 rfl (by decide) dX12_cleaned_87 ?_
            refine R_iload_5 dX12_cleaned_89 ?_
            first
              | (rw [show (32 : Int32) = nI 32 from rfl])
              | (rw [g3])
            refine R_i2c dX12_cleaned_91 ?_
            first
              | rw [nI_i2c (n := 32) (by decide)]
              | rw [nI_i2c (n := cc) (by omega)]
            refine R_zret rfl (by first | exact narc_of (nI_chr (n := cc) (by omega)) | rfl) dX12_cleaned_92 ⟨rfl, (a_up_self _ _ _ _).trans (by rw [hx]; rfl), ⟨_, rfl, fun _ => by rw [e9] <;> rfl⟩, FrS.f (Or.inl rfl)⟩
          · refine R_aload_0 dX12_cleaned_62 ?_
            refine gfX12_37 rfl dX12_cleaned_63 sh_504 (by first | exact hR.g (k := 12) (a := 514) (by decide) | exact (a_up_ne (by omega)).trans (hR.g (k := 12) (a := 514) (by decide)) | exact (a_up_ne (by omega)).trans ((a_up_ne (by omega)).trans (hR.g (k := 12) (a := 514) (by decide))) | exact (a_up_ne (by omega)).trans ((a_up_ne (by omega)).trans ((a_up_ne (by omega)).trans (hR.g (k := 12) (a := 514) (by decide)))) | exact (a_up_ne (by omega)).trans ((a_up_ne (by omega)).trans ((a_up_ne (by omega)).trans ((a_up_ne (by omega)).trans (hR.g (k := 12) (a := 514) (by decide))))) | exact (a_up_ne (by omega)).trans ((a_up_ne (by omega)).trans ((a_up_ne (by omega)).trans ((a_up_ne (by omega)).trans ((a_up_ne (by omega)).trans (hR.g (k := 12) (a := 514) (by decide)))))) | exact (a_up_ne (by omega)).trans ((a_up_ne (by omega)).trans ((a_up_ne (by omega)).trans ((a_up_ne (by omega)).trans ((a_up_ne (by omega)).trans ((a_up_ne (by omega)).trans (hR.g (k := 12) (a := 514) (by decide)))))))) ?_
            refine R_bipush (v := 12) dX12_cleaned_66 (by decide) ?_
            refine R_iload_1 dX12_cleaned_68 ?_
            refine R_imul dX12_cleaned_69 ?_
            refine R_iload_3 dX12_cleaned_70 ?_
            refine R_iadd dX12_cleaned_71 ?_
            refine R_ialdE dX12_cleaned_72 sh_514 (ix1 12 i q) (by omega) (by decide) ((a_up_ne (Or.inl (by decide))).trans ((mk.cs c59).2 q hq)) ?_
            refine R_goto 87 dX12_cleaned_73 (by decide) ?_
            refine R_istore_5 rfl (by decide) dX12_cleaned_87 ?_
            refine R_iload_5 dX12_cleaned_89 ?_
            first
              | (rw [show (32 : Int32) = nI 32 from rfl])
              | (rw [g3])
            refine R_i2c dX12_cleaned_91 ?_
            first
              | rw [nI_i2c (n := 32) (by decide)]
              | rw [nI_i2c (n := cc) (by omega)]
            refine R_zret rfl (by first | exact narc_of (nI_chr (n := cc) (by omega)) | rfl) dX12_cleaned_92 ⟨rfl, (a_up_self _ _ _ _).trans (by rw [hx]; rfl), ⟨_, rfl, fun _ => by rw [e9] <;> rfl⟩, FrS.f (Or.inl rfl)⟩
        · have hge : ¬ q < (cwd (encE (ent i)) b).length := fun z => c50 (nI_lt z (by omega))
          have e9 : clC (encE (ent i)) b (nI q) = 32 := by unfold clC; rw [lAt_nI (by omega), gd_0 hge]; exact if_pos rfl
          refine R_bipush (v := 32) dX12_cleaned_53 (by decide) ?_
          refine R_goto 87 dX12_cleaned_55 (by decide) ?_
          refine R_istore_5 rfl (by decide) dX12_cleaned_87 ?_
          refine R_iload_5 dX12_cleaned_89 ?_
          first
            | (rw [show (32 : Int32) = nI 32 from rfl])
            | (rw [g3])
          refine R_i2c dX12_cleaned_91 ?_
          first
            | rw [nI_i2c (n := 32) (by decide)]
            | rw [nI_i2c (n := cc) (by omega)]
          refine R_zret rfl (by first | exact narc_of (nI_chr (n := cc) (by omega)) | rfl) dX12_cleaned_92 ⟨rfl, (a_up_self _ _ _ _).trans (by rw [hx]; rfl), ⟨_, rfl, fun _ => by rw [e9] <;> rfl⟩, FrS.f (Or.inl rfl)⟩
      · refine R_aload_0 dX12_cleaned_30 ?_
        refine gfX12_40 rfl dX12_cleaned_31 sh_504 (by first | exact hR.g (k := 13) (a := 515) (by decide) | exact (a_up_ne (by omega)).trans (hR.g (k := 13) (a := 515) (by decide)) | exact (a_up_ne (by omega)).trans ((a_up_ne (by omega)).trans (hR.g (k := 13) (a := 515) (by decide))) | exact (a_up_ne (by omega)).trans ((a_up_ne (by omega)).trans ((a_up_ne (by omega)).trans (hR.g (k := 13) (a := 515) (by decide)))) | exact (a_up_ne (by omega)).trans ((a_up_ne (by omega)).trans ((a_up_ne (by omega)).trans ((a_up_ne (by omega)).trans (hR.g (k := 13) (a := 515) (by decide))))) | exact (a_up_ne (by omega)).trans ((a_up_ne (by omega)).trans ((a_up_ne (by omega)).trans ((a_up_ne (by omega)).trans ((a_up_ne (by omega)).trans (hR.g (k := 13) (a := 515) (by decide)))))) | exact (a_up_ne (by omega)).trans ((a_up_ne (by omega)).trans ((a_up_ne (by omega)).trans ((a_up_ne (by omega)).trans ((a_up_ne (by omega)).trans ((a_up_ne (by omega)).trans (hR.g (k := 13) (a := 515) (by decide)))))))) ?_
        refine R_iload_1 dX12_cleaned_34 ?_
        refine R_ialdE dX12_cleaned_35 sh_515 rfl (by omega) (by decide) ((a_up_ne (Or.inl (by decide))).trans (mk.cs c27).1) ?_
        refine R_goto 45 dX12_cleaned_36 (by decide) ?_
        have hlen := (hEO i i12).cw b
        refine R_istore_4 rfl (by decide) dX12_cleaned_45 ?_
        refine R_iload_3 dX12_cleaned_47 ?_
        refine R_iload_4 dX12_cleaned_48 ?_
        refine R_icmp_lt 58 dX12_cleaned_50 (by decide) (fun c50 => ?_) (fun c50 => ?_)
        · have hq : q < (cwd (encE (ent i)) b).length := (nI_ltI (by omega) (by omega)).1 c50
          obtain ⟨cc, g1, g2, g3⟩ := okC_nI' (okC_cw (hEO i i12) b _ (gd_mem (d := 0) hq))
          have e9 : clC (encE (ent i)) b (nI q) = nI cc := by unfold clC; rw [lAt_nI (by omega), g3]; exact if_neg (nI_ne0 (by omega) (by omega))
          refine R_iload_2 dX12_cleaned_58 ?_
          refine R_if_eq 76 dX12_cleaned_59 (by decide) (fun c59 => ?_) (fun c59 => ?_)
          · refine R_aload_0 dX12_cleaned_76 ?_
            refine gfX12_31 rfl dX12_cleaned_77 sh_504 (by first | exact hR.g (k := 10) (a := 512) (by decide) | exact (a_up_ne (by omega)).trans (hR.g (k := 10) (a := 512) (by decide)) | exact (a_up_ne (by omega)).trans ((a_up_ne (by omega)).trans (hR.g (k := 10) (a := 512) (by decide))) | exact (a_up_ne (by omega)).trans ((a_up_ne (by omega)).trans ((a_up_ne (by omega)).trans (hR.g (k := 10) (a := 512) (by decide)))) | exact (a_up_ne (by omega)).trans ((a_up_ne (by omega)).trans ((a_up_ne (by omega)).trans ((a_up_ne (by omega)).trans (hR.g (k := 10) (a := 512) (by decide))))) | exact (a_up_ne (by omega)).trans ((a_up_ne (by omega)).trans ((a_up_ne (by omega)).trans ((a_up_ne (by omega)).trans ((a_up_ne (by omega)).trans (hR.g (k := 10) (a := 512) (by decide)))))) | exact (a_up_ne (by omega)).trans ((a_up_ne (by omega)).trans ((a_up_ne (by omega)).trans ((a_up_ne (by omega)).trans ((a_up_ne (by omega)).trans ((a_up_ne (by omega)).trans (hR.g (k := 10) (a := 512) (by decide)))))))) ?_
            refine R_bipush (v := 12) dX12_cleaned_80 (by decide) ?_
            refine R_iload_1 dX12_cleaned_82 ?_
            refine R_imul dX12_cleaned_83 ?_
            refine R_iload_3 dX12_cleaned_84 ?_
            refine R_iadd dX12_cleaned_85 ?_
            refine R_ialdE dX12_cleaned_86 sh_512 (ix1 12 i q) (by omega) (by decide) ((a_up_ne (Or.inl (by decide))).trans ((mk.cw c59).2 q hq)) ?_
            refine R_istore_5 rfl (by decide) dX12_cleaned_87 ?_
            refine R_iload_5 dX12_cleaned_89 ?_
            first
              | (rw [show (32 : Int32) = nI 32 from rfl])
              | (rw [g3])
            refine R_i2c dX12_cleaned_91 ?_
            first
              | rw [nI_i2c (n := 32) (by decide)]
              | rw [nI_i2c (n := cc) (by omega)]
            refine R_zret rfl (by first | exact narc_of (nI_chr (n := cc) (by omega)) | rfl) dX12_cleaned_92 ⟨rfl, (a_up_self _ _ _ _).trans (by rw [hx]; rfl), ⟨_, rfl, fun _ => by rw [e9] <;> rfl⟩, FrS.f (Or.inl rfl)⟩
          · refine R_aload_0 dX12_cleaned_62 ?_
            refine gfX12_37 rfl dX12_cleaned_63 sh_504 (by first | exact hR.g (k := 12) (a := 514) (by decide) | exact (a_up_ne (by omega)).trans (hR.g (k := 12) (a := 514) (by decide)) | exact (a_up_ne (by omega)).trans ((a_up_ne (by omega)).trans (hR.g (k := 12) (a := 514) (by decide))) | exact (a_up_ne (by omega)).trans ((a_up_ne (by omega)).trans ((a_up_ne (by omega)).trans (hR.g (k := 12) (a := 514) (by decide)))) | exact (a_up_ne (by omega)).trans ((a_up_ne (by omega)).trans ((a_up_ne (by omega)).trans ((a_up_ne (by omega)).trans (hR.g (k := 12) (a := 514) (by decide))))) | exact (a_up_ne (by omega)).trans ((a_up_ne (by omega)).trans ((a_up_ne (by omega)).trans ((a_up_ne (by omega)).trans ((a_up_ne (by omega)).trans (hR.g (k := 12) (a := 514) (by decide)))))) | exact (a_up_ne (by omega)).trans ((a_up_ne (by omega)).trans ((a_up_ne (by omega)).trans ((a_up_ne (by omega)).trans ((a_up_ne (by omega)).trans ((a_up_ne (by omega)).trans (hR.g (k := 12) (a := 514) (by decide)))))))) ?_
            refine R_bipush (v := 12) dX12_cleaned_66 (by decide) ?_
            refine R_iload_1 dX12_cleaned_68 ?_
            refine R_imul dX12_cleaned_69 ?_
            refine R_iload_3 dX12_cleaned_70 ?_
            refine R_iadd dX12_cleaned_71 ?_
            refine R_ialdE dX12_cleaned_72 sh_514 (ix1 12 i q) (by omega) (by decide) ((a_up_ne (Or.inl (by decide))).trans ((mk.cs c59).2 q hq)) ?_
            refine R_goto 87 dX12_cleaned_73 (by decide) ?_
            refine R_istore_5 rfl (by decide) dX12_cleaned_87 ?_
            refine R_iload_5 dX12_cleaned_89 ?_
            first
              | (rw [show (32 : Int32) = nI 32 from rfl])
              | (rw [g3])
            refine R_i2c dX12_cleaned_91 ?_
            first
              | rw [nI_i2c (n := 32) (by decide)]
              | rw [nI_i2c (n := cc) (by omega)]
            refine R_zret rfl (by first | exact narc_of (nI_chr (n := cc) (by omega)) | rfl) dX12_cleaned_92 ⟨rfl, (a_up_self _ _ _ _).trans (by rw [hx]; rfl), ⟨_, rfl, fun _ => by rw [e9] <;> rfl⟩, FrS.f (Or.inl rfl)⟩
        · have hge : ¬ q < (cwd (encE (ent i)) b).length := fun z => c50 (nI_lt z (by omega))
          have e9 : clC (encE (ent i)) b (nI q) = 32 := by unfold clC; rw [lAt_nI (by omega), gd_0 hge]; exact if_pos rfl
          refine R_bipush (v := 32) dX12_cleaned_53 (by decide) ?_
          refine R_goto 87 dX12_cleaned_55 (by decide) ?_
          refine R_istore_5 rfl (by decide) dX12_cleaned_87 ?_
          refine R_iload_5 dX12_cleaned_89 ?_
          first
            | (rw [show (32 : Int32) = nI 32 from rfl])
            | (rw [g3])
          refine R_i2c dX12_cleaned_91 ?_
          first
            | rw [nI_i2c (n := 32) (by decide)]
            | rw [nI_i2c (n := cc) (by omega)]
          refine R_zret rfl (by first | exact narc_of (nI_chr (n := cc) (by omega)) | rfl) dX12_cleaned_92 ⟨rfl, (a_up_self _ _ _ _).trans (by rw [hx]; rfl), ⟨_, rfl, fun _ => by rw [e9] <;> rfl⟩, FrS.f (Or.inl rfl)⟩

set_option maxHeartbeats 4000000 in
theorem ct_mapart {V : aV} {ent : Nat → EntN} {cnt : Nat} (hR : MR V) (hE : ME V ent cnt) (hEO : ∀ k, k < 12 → EO (ent k)) (hc : cnt ≤ 12) (t u b : Int32) : CT mX12_apart 4 0 0 [.ref 504, .int t, .int u, .int b] Sh V (MQy V (xc2 cnt t u) (nI (lev (cwd (encE (ent t.toNatClampNeg)) b) (cwd (encE (ent u.toNatClampNeg)) b)))) aNo := by
  refine CT_of (by decide +kernel) (Nat.le_of_ble_eq_true rfl) ?_
  show R _ _ _ _ _ _ _ _ 0 [some (.ref 504), some (.int t), some (.int u), some (.int b)] [] _ _
  have h5 := hE.1
  refine R_aload_0 dX12_apart_0 ?_
  refine R_aload_0 dX12_apart_1 ?_
  refine R_iload_1 dX12_apart_2 ?_
  refine R_callV_e (T := mX12_apart) (T' := mX12_isOne) (As := [_]) (ci := 12) okX12_isOne mlX12_175 rfl (by decide) sh_504 (ct_misOne hE.1 t) rfl (by decide) (by decide) (Nat.le_of_ble_eq_true rfl) dX12_apart_3 ?_
  refine R_if_eq 21 dX12_apart_6 (by decide) (fun c6 => ?_) (fun c6 => ?_)
  · have hx : xc2 cnt t u = 1 := if_neg (fun z => (by first | exact bI_eq c6 z.1 | exact bI_eq c14 z.2))
    refine R_iconst (v := 1) dX12_apart_21 (by decide) ?_
    refine R_callV_e (T := mX12_apart) (T' := mX12_fails) (As := [_]) (ci := 12) okX12_fails mlX12_128 rfl (by decide) sh_504 (ct_mfails _) rfl (by decide) (by decide) (Nat.le_of_ble_eq_true rfl) dX12_apart_22 ?_
    refine R_if_eq 30 dX12_apart_25 (by decide) (fun c25 => absurd c25 (by decide)) (fun c25 => ?_)
    refine R_iconst (v := 0) dX12_apart_28 (by decide) ?_
    refine R_iret rfl dX12_apart_29 ⟨rfl, (a_up_self _ _ _ _).trans (by rw [hx]; rfl), ⟨_, rfl, fun z => by rw [hx] at z; cases z⟩, FrS.f (Or.inl rfl)⟩
  · refine R_aload_0 dX12_apart_9 ?_
    refine R_iload_2 dX12_apart_10 ?_
    refine R_callV_e (T := mX12_apart) (T' := mX12_isOne) (As := [_]) (ci := 12) okX12_isOne mlX12_175 rfl (by decide) sh_504 (ct_misOne hE.1 u) rfl (by decide) (by decide) (Nat.le_of_ble_eq_true rfl) dX12_apart_11 ?_
    refine R_if_eq 21 dX12_apart_14 (by decide) (fun c14 => ?_) (fun c14 => ?_)
    · have hx : xc2 cnt t u = 1 := if_neg (fun z => (by first | exact bI_eq c6 z.1 | exact bI_eq c14 z.2))
      refine R_iconst (v := 1) dX12_apart_21 (by decide) ?_
      refine R_callV_e (T := mX12_apart) (T' := mX12_fails) (As := [_]) (ci := 12) okX12_fails mlX12_128 rfl (by decide) sh_504 (ct_mfails _) rfl (by decide) (by decide) (Nat.le_of_ble_eq_true rfl) dX12_apart_22 ?_
      refine R_if_eq 30 dX12_apart_25 (by decide) (fun c25 => absurd c25 (by decide)) (fun c25 => ?_)
      refine R_iconst (v := 0) dX12_apart_28 (by decide) ?_
      refine R_iret rfl dX12_apart_29 ⟨rfl, (a_up_self _ _ _ _).trans (by rw [hx]; rfl), ⟨_, rfl, fun z => by rw [hx] at z; cases z⟩, FrS.f (Or.inl rfl)⟩
    · have hok : ¬ t < 0 ∧ t < nI cnt := bI_ne c6
      have hok2 : ¬ u < 0 ∧ u < nI cnt := bI_ne c14
      have hx : xc2 cnt t u = 0 := if_pos ⟨hok, hok2⟩
      obtain ⟨i, ic, i12, rfl⟩ := tN hok hc
      obtain ⟨j, jc, j12, rfl⟩ := tN hok2 hc
      rw [nI_clamp (n := i) (by omega), nI_clamp (n := j) (by omega)]
      refine R_iconst (v := 0) dX12_apart_17 (by decide) ?_
      refine R_goto 22 dX12_apart_18 (by decide) ?_
      refine R_callV_e (T := mX12_apart) (T' := mX12_fails) (As := [_]) (ci := 12) okX12_fails mlX12_128 rfl (by decide) sh_504 (ct_mfails _) rfl (by decide) (by decide) (Nat.le_of_ble_eq_true rfl) dX12_apart_22 ?_
      refine R_if_eq 30 dX12_apart_25 (by decide) (fun c25 => ?_) (fun c25 => absurd (by decide) c25)
      refine R_aload_0 dX12_apart_30 ?_
      refine R_iload_1 dX12_apart_31 ?_
      refine R_iload_2 dX12_apart_32 ?_
      refine R_iload_3 dX12_apart_33 ?_
      refine R_callV (T := mX12_apart) (T' := mX12_apartOf) (As := [_, _, _]) (ci := 12) okX12_apartOf mlX12_182 rfl (by decide) sh_504 (ct_apartOf ((FrS.f (k := 0) (v := .int 0) (Or.inl rfl)).mr hR) ((FrS.f (k := 0) (v := .int 0) (Or.inl rfl)).me hE) hEO i12 j12 b) rfl (by decide) (by decide) (Nat.le_of_ble_eq_true rfl) dX12_apart_34 (fun v9 S9 V1 h9 => ?_) (fun E S9 V9 h9 => h9.elim)
      obtain ⟨rfl, rfl, u4⟩ := h9
      refine R_iret rfl dX12_apart_37 ⟨rfl, (congrFun (u4 504 (by decide)) 0).trans ((a_up_self _ _ _ _).trans (by rw [hx]; rfl)), ⟨_, rfl, fun _ => rfl⟩, (FrS.f (Or.inl rfl)).trans (FrS.r u4 (by decide) (by decide))⟩

set_option maxHeartbeats 4000000 in
theorem ct_mlikeness {V : aV} {ent : Nat → EntN} {cnt : Nat} (hR : MR V) (hE : ME V ent cnt) (hEO : ∀ k, k < 12 → EO (ent k)) (hc : cnt ≤ 12) (t u : Int32) : CT mX12_likeness 4 0 0 [.ref 504, .int t, .int u] Sh V (MQy V (xc2 cnt t u) (lkV (encE (ent t.toNatClampNeg)) (encE (ent u.toNatClampNeg))).toInt32) aNo := by
  refine CT_of (by decide +kernel) (Nat.le_of_ble_eq_true rfl) ?_
  show R _ _ _ _ _ _ _ _ 0 [some (.ref 504), some (.int t), some (.int u)] [] _ _
  have h5 := hE.1
  refine R_aload_0 dX12_likeness_0 ?_
  refine R_aload_0 dX12_likeness_1 ?_
  refine R_iload_1 dX12_likeness_2 ?_
  refine R_callV_e (T := mX12_likeness) (T' := mX12_isOne) (As := [_]) (ci := 12) okX12_isOne mlX12_175 rfl (by decide) sh_504 (ct_misOne hE.1 t) rfl (by decide) (by decide) (Nat.le_of_ble_eq_true rfl) dX12_likeness_3 ?_
  refine R_if_eq 21 dX12_likeness_6 (by decide) (fun c6 => ?_) (fun c6 => ?_)
  · have hx : xc2 cnt t u = 1 := if_neg (fun z => (by first | exact bI_eq c6 z.1 | exact bI_eq c14 z.2))
    refine R_iconst (v := 1) dX12_likeness_21 (by decide) ?_
    refine R_callV_e (T := mX12_likeness) (T' := mX12_fails) (As := [_]) (ci := 12) okX12_fails mlX12_128 rfl (by decide) sh_504 (ct_mfails _) rfl (by decide) (by decide) (Nat.le_of_ble_eq_true rfl) dX12_likeness_22 ?_
    refine R_if_eq 30 dX12_likeness_25 (by decide) (fun c25 => absurd c25 (by decide)) (fun c25 => ?_)
    refine R_iconst (v := 0) dX12_likeness_28 (by decide) ?_
    refine R_iret rfl dX12_likeness_29 ⟨rfl, (a_up_self _ _ _ _).trans (by rw [hx]; rfl), ⟨_, rfl, fun z => by rw [hx] at z; cases z⟩, FrS.f (Or.inl rfl)⟩
  · refine R_aload_0 dX12_likeness_9 ?_
    refine R_iload_2 dX12_likeness_10 ?_
    refine R_callV_e (T := mX12_likeness) (T' := mX12_isOne) (As := [_]) (ci := 12) okX12_isOne mlX12_175 rfl (by decide) sh_504 (ct_misOne hE.1 u) rfl (by decide) (by decide) (Nat.le_of_ble_eq_true rfl) dX12_likeness_11 ?_
    refine R_if_eq 21 dX12_likeness_14 (by decide) (fun c14 => ?_) (fun c14 => ?_)
    · have hx : xc2 cnt t u = 1 := if_neg (fun z => (by first | exact bI_eq c6 z.1 | exact bI_eq c14 z.2))
      refine R_iconst (v := 1) dX12_likeness_21 (by decide) ?_
      refine R_callV_e (T := mX12_likeness) (T' := mX12_fails) (As := [_]) (ci := 12) okX12_fails mlX12_128 rfl (by decide) sh_504 (ct_mfails _) rfl (by decide) (by decide) (Nat.le_of_ble_eq_true rfl) dX12_likeness_22 ?_
      refine R_if_eq 30 dX12_likeness_25 (by decide) (fun c25 => absurd c25 (by decide)) (fun c25 => ?_)
      refine R_iconst (v := 0) dX12_likeness_28 (by decide) ?_
      refine R_iret rfl dX12_likeness_29 ⟨rfl, (a_up_self _ _ _ _).trans (by rw [hx]; rfl), ⟨_, rfl, fun z => by rw [hx] at z; cases z⟩, FrS.f (Or.inl rfl)⟩
    · have hok : ¬ t < 0 ∧ t < nI cnt := bI_ne c6
      have hok2 : ¬ u < 0 ∧ u < nI cnt := bI_ne c14
      have hx : xc2 cnt t u = 0 := if_pos ⟨hok, hok2⟩
      obtain ⟨i, ic, i12, rfl⟩ := tN hok hc
      obtain ⟨j, jc, j12, rfl⟩ := tN hok2 hc
      rw [nI_clamp (n := i) (by omega), nI_clamp (n := j) (by omega)]
      refine R_iconst (v := 0) dX12_likeness_17 (by decide) ?_
      refine R_goto 22 dX12_likeness_18 (by decide) ?_
      refine R_callV_e (T := mX12_likeness) (T' := mX12_fails) (As := [_]) (ci := 12) okX12_fails mlX12_128 rfl (by decide) sh_504 (ct_mfails _) rfl (by decide) (by decide) (Nat.le_of_ble_eq_true rfl) dX12_likeness_22 ?_
      refine R_if_eq 30 dX12_likeness_25 (by decide) (fun c25 => ?_) (fun c25 => absurd (by decide) c25)
      refine R_aload_0 dX12_likeness_30 ?_
      refine R_iload_1 dX12_likeness_31 ?_
      refine R_iload_2 dX12_likeness_32 ?_
      refine R_callV (T := mX12_likeness) (T' := mX12_likenessOf) (As := [_, _]) (ci := 12) okX12_likenessOf mlX12_194 rfl (by decide) sh_504 (ct_mlikenessOf ((FrS.f (k := 0) (v := .int 0) (Or.inl rfl)).mr hR) ((FrS.f (k := 0) (v := .int 0) (Or.inl rfl)).me hE) hEO i12 j12) rfl (by decide) (by decide) (Nat.le_of_ble_eq_true rfl) dX12_likeness_33 (fun v9 S9 V1 h9 => ?_) (fun E S9 V9 h9 => h9.elim)
      obtain ⟨rfl, rfl, u4⟩ := h9
      refine R_callSO_e (T' := mJxf58ca_floatToIntBits_5c35a) (As := [_]) okJxf58ca_floatToIntBits_5c35a mlX12_198 (ct_f2bits (fc_self (lkV_ok2 (hEO i i12) (hEO j j12)))) rfl (by decide) (by decide) (Nat.le_of_ble_eq_true rfl) dX12_likeness_36 ?_
      refine R_iret rfl dX12_likeness_39 ⟨rfl, (congrFun (u4 504 (by decide)) 0).trans ((a_up_self _ _ _ _).trans (by rw [hx]; rfl)), ⟨_, rfl, fun _ => rfl⟩, (FrS.f (Or.inl rfl)).trans (FrS.r u4 (by decide) (by decide))⟩

