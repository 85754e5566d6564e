/-! ===== Likener: addresses; the bits ===== -/
noncomputable def lkV (x y : Ent) : UInt32 := FP.fadd (FP.fadd (FP.fadd (FP.fmul 1053609165 (WL (lev (cl x.1) (cl y.1)) (max (cl x.1).length (cl y.1).length))) (FP.fmul 1050253722 (WL (lev (cl x.2.1) (cl y.2.1)) (max (cl x.2.1).length (cl y.2.1).length)))) (if x.2.2.1 = y.2.2.1 then 1045220557 else 0)) (if x.2.2.2.1 = y.2.2.2.1 then 1036831949 else 0)
theorem m20 : FP.fmul 1045220557 0 = 0 := by decide +kernel
theorem m21 : FP.fmul 1045220557 1065353216 = 1045220557 := by decide +kernel
theorem m10 : FP.fmul 1036831949 0 = 0 := by decide +kernel
theorem m11 : FP.fmul 1036831949 1065353216 = 1036831949 := by decide +kernel
theorem n20 : vf_n32 (FP.fmul 1045220557 0) := n32_of (by decide +kernel)
theorem n21 : vf_n32 (FP.fmul 1045220557 1065353216) := n32_of (by decide +kernel)
theorem n10 : vf_n32 (FP.fmul 1036831949 0) := n32_of (by decide +kernel)
theorem n11 : vf_n32 (FP.fmul 1036831949 1065353216) := n32_of (by decide +kernel)
theorem hv0 : (0 : UInt32) ∈ hv := List.mem_cons_self
theorem hv1 : (1045220557 : UInt32) ∈ hv := List.mem_cons_of_mem _ List.mem_cons_self
theorem zv0 : (0 : UInt32) ∈ zv := List.mem_cons_self
theorem zv1 : (1036831949 : UInt32) ∈ zv := List.mem_cons_of_mem _ List.mem_cons_self
theorem AE.len {V : aV} {a : Nat} {x : Ent} (h : AE V a x) : (cl x.1).length ≤ 12 ∧ (cl x.2.1).length ≤ 12 := ⟨h.1.2.2.2.2.1.len, h.1.2.2.2.2.2.len⟩
theorem wl_in {L G : List Int32} (h1 : L.length ≤ 12) (h2 : G.length ≤ 12) : WL (lev L G) (max L.length G.length) ∈ wv := wlv_in (by omega) lev_le
theorem lkV_ok {V : aV} {a b : Nat} {x y : Ent} (h : AE V a x) (g : AE V b y) : boK (lkV x y) = true := by
  have ok := fun (hh zz : UInt32) (q1 : hh ∈ hv) (q2 : zz ∈ zv) => (lk_use (wl_in h.len.1 g.len.1) (wl_in h.len.2 g.len.2) q1 q2).2.2.2.2.2
  unfold lkV
  by_cases q1 : x.2.2.1 = y.2.2.1
  · rw [if_pos q1]
    by_cases q2 : x.2.2.2.1 = y.2.2.2.1
    · rw [if_pos q2]; exact ok _ _ hv1 zv1
    · rw [if_neg q2]; exact ok _ _ hv1 zv0
  · rw [if_neg q1]
    by_cases q2 : x.2.2.2.1 = y.2.2.2.1
    · rw [if_pos q2]; exact ok _ _ hv0 zv1
    · rw [if_neg q2]; exact ok _ _ hv0 zv0
set_option maxHeartbeats 4000000 in
theorem ct_likenessOf {V : aV} {a b : Nat} {x y : Ent} (h0 : V 196 0 = .ref 197) (h : AE V a x) (g : AE V b y) (ha : slot a) (hb : slot b) : CT mX5_likenessOf 4 0 0 [.ref 196, .ref a, .ref b] Sh V (fun v S' V' => some (.float (lkV x y)) = v ∧ Sh = S' ∧ Fr0 V V' 197) aNo := by
  refine CT_of (by decide +kernel) (Nat.le_of_ble_eq_true rfl) ?_
  show R _ _ _ _ _ _ _ _ 0 [some (.ref 196), some (.ref a), some (.ref b), none, none, none] [] _ _
  have oa := ha.out
  have ob := hb.out
  have ok := fun (hh zz : UInt32) (q1 : hh ∈ hv) (q2 : zz ∈ zv) => lk_use (wl_in h.len.1 g.len.1) (wl_in h.len.2 g.len.2) q1 q2
  have hA := h
  have gB := g
  obtain ⟨⟨⟨s1, _⟩, ⟨f0, f1, f2, f3⟩, a1, a2, a3, a4⟩, e4, e5, e6⟩ := h
  obtain ⟨⟨⟨t1, _⟩, ⟨g0, g1, g2, g3⟩, b1, b2, b3, b4⟩, d4, d5, d6⟩ := g
  refine R_aload_1 dX5_likenessOf_0 ?_
  refine gfX5_42 rfl dX5_likenessOf_1 s1 e4 ?_
  refine R_aload_2 dX5_likenessOf_4 ?_
  refine gfX5_42 rfl dX5_likenessOf_5 t1 d4 ?_
  refine R_icmp_ne 15 dX5_likenessOf_8 (by decide) (fun c8 => ?_) (fun c8 => ?_)
  · refine R_fconst0 dX5_likenessOf_15 ?_
    refine R_fstore_3 rfl (by decide) dX5_likenessOf_16 ?_
    refine R_aload_1 dX5_likenessOf_17 ?_
    refine gfX5_47 rfl dX5_likenessOf_18 s1 e5 ?_
    refine R_aload_2 dX5_likenessOf_21 ?_
    refine gfX5_47 rfl dX5_likenessOf_22 t1 d5 ?_
    refine R_icmp_ne 32 dX5_likenessOf_25 (by decide) (fun c25 => ?_) (fun c25 => ?_)
    · refine R_fconst0 dX5_likenessOf_32 ?_
      refine R_fstore_4 rfl (by decide) dX5_likenessOf_33 ?_
      refine R_ldcf dX5_likenessOf_35 cwX5_50 ?_
      refine R_aload_0 dX5_likenessOf_37 ?_
      refine R_aload_1 dX5_likenessOf_38 ?_
      refine gfX5_51 rfl dX5_likenessOf_39 s1 f2 ?_
      refine R_aload_2 dX5_likenessOf_42 ?_
      refine gfX5_51 rfl dX5_likenessOf_43 t1 g2 ?_
      refine R_callV (T := mX5_likenessOf) (T' := mX5_wordLikeness) (As := [_, _]) (ci := 5) okX5_wordLikeness mlX5_55 rfl (by decide) sh_196 (ct_wordLikeness h0 a3 b3 a3.len b3.len (by omega) (by omega) (by omega) (by omega)) rfl (by decide) (by decide) (Nat.le_of_ble_eq_true rfl) dX5_likenessOf_46 (fun v9 S9 V1 h9 => ?_) (fun E S9 V9 h9 => h9.elim)
      obtain ⟨rfl, rfl, u4⟩ := h9
      have h01 := (congrFun (u4 196 (by decide)) 0).trans h0
      have hA1 := hA.fr (V' := V1) (fun q w1 w2 => u4 q (by omega))
      have gB1 := gB.fr (V' := V1) (fun q w1 w2 => u4 q (by omega))
      have j3 := hA1.1.2.1.2.2.2
      have i3 := gB1.1.2.1.2.2.2
      have a41 := hA1.1.2.2.2.2.2
      have b41 := gB1.1.2.2.2.2.2
      refine R_fmul dX5_likenessOf_49 (ok 0 0 hv0 zv0).1 ?_
      refine R_fstore_5 rfl (by decide) dX5_likenessOf_50 ?_
      refine R_fload_5 dX5_likenessOf_52 ?_
      refine R_ldcf dX5_likenessOf_54 cwX5_59 ?_
      refine R_aload_0 dX5_likenessOf_56 ?_
      refine R_aload_1 dX5_likenessOf_57 ?_
      refine gfX5_60 rfl dX5_likenessOf_58 s1 j3 ?_
      refine R_aload_2 dX5_likenessOf_61 ?_
      refine gfX5_60 rfl dX5_likenessOf_62 t1 i3 ?_
      refine R_callV (T := mX5_likenessOf) (T' := mX5_wordLikeness) (As := [_, _]) (ci := 5) okX5_wordLikeness mlX5_55 rfl (by decide) sh_196 (ct_wordLikeness h01 a41 b41 a41.len b41.len (by omega) (by omega) (by omega) (by omega)) rfl (by decide) (by decide) (Nat.le_of_ble_eq_true rfl) dX5_likenessOf_65 (fun v9 S9 V2 h9 => ?_) (fun E S9 V9 h9 => h9.elim)
      obtain ⟨rfl, rfl, u5⟩ := h9
      refine R_fmul dX5_likenessOf_68 (ok 0 0 hv0 zv0).2.1 ?_
      refine R_fadd dX5_likenessOf_69 (ok 0 0 hv0 zv0).2.2.1 ?_
      refine R_fstore_5 rfl (by decide) dX5_likenessOf_70 ?_
      refine R_fload_5 dX5_likenessOf_72 ?_
      refine R_ldcf dX5_likenessOf_74 cwX5_63 ?_
      refine R_fload_3 dX5_likenessOf_76 ?_
      refine R_fmul dX5_likenessOf_77 (by first | exact n21 | exact n20) ?_
      first | rw [m21] | rw [m20]
      refine R_fadd dX5_likenessOf_78 (by first | exact (ok _ 0 hv1 zv0).2.2.2.1 | exact (ok _ 0 hv0 zv0).2.2.2.1) ?_
      refine R_fstore_5 rfl (by decide) dX5_likenessOf_79 ?_
      refine R_fload_5 dX5_likenessOf_81 ?_
      refine R_ldcf dX5_likenessOf_83 cwX5_64 ?_
      refine R_fload_4 dX5_likenessOf_85 ?_
      refine R_fmul dX5_likenessOf_87 (by first | exact n11 | exact n10) ?_
      first | rw [m11] | rw [m10]
      refine R_fadd dX5_likenessOf_88 (by first | exact (ok _ _ hv1 zv1).2.2.2.2.1 | exact (ok _ _ hv1 zv0).2.2.2.2.1 | exact (ok _ _ hv0 zv1).2.2.2.2.1 | exact (ok _ _ hv0 zv0).2.2.2.2.1) ?_
      refine R_fret rfl dX5_likenessOf_89 (by first | exact ⟨(by unfold lkV; rw [if_pos c8, if_pos c25]), rfl, fun q hq => (u5 q hq).trans (u4 q hq)⟩ | exact ⟨(by unfold lkV; rw [if_pos c8, if_neg c25]), rfl, fun q hq => (u5 q hq).trans (u4 q hq)⟩ | exact ⟨(by unfold lkV; rw [if_neg c8, if_pos c25]), rfl, fun q hq => (u5 q hq).trans (u4 q hq)⟩ | exact ⟨(by unfold lkV; rw [if_neg c8, if_neg c25]), rfl, fun q hq => (u5 q hq).trans (u4 q hq)⟩)
    · refine R_fconst1 dX5_likenessOf_28 ?_
      refine R_goto 33 dX5_likenessOf_29 (by decide) ?_
      refine R_fstore_4 rfl (by decide) dX5_likenessOf_33 ?_
      refine R_ldcf dX5_likenessOf_35 cwX5_50 ?_
      refine R_aload_0 dX5_likenessOf_37 ?_
      refine R_aload_1 dX5_likenessOf_38 ?_
      refine gfX5_51 rfl dX5_likenessOf_39 s1 f2 ?_
      refine R_aload_2 dX5_likenessOf_42 ?_
      refine gfX5_51 rfl dX5_likenessOf_43 t1 g2 ?_
      refine R_callV (T := mX5_likenessOf) (T' := mX5_wordLikeness) (As := [_, _]) (ci := 5) okX5_wordLikeness mlX5_55 rfl (by decide) sh_196 (ct_wordLikeness h0 a3 b3 a3.len b3.len (by omega) (by omega) (by omega) (by omega)) rfl (by decide) (by decide) (Nat.le_of_ble_eq_true rfl) dX5_likenessOf_46 (fun v9 S9 V1 h9 => ?_) (fun E S9 V9 h9 => h9.elim)
      obtain ⟨rfl, rfl, u4⟩ := h9
      have h01 := (congrFun (u4 196 (by decide)) 0).trans h0
      have hA1 := hA.fr (V' := V1) (fun q w1 w2 => u4 q (by omega))
      have gB1 := gB.fr (V' := V1) (fun q w1 w2 => u4 q (by omega))
      have j3 := hA1.1.2.1.2.2.2
      have i3 := gB1.1.2.1.2.2.2
      have a41 := hA1.1.2.2.2.2.2
      have b41 := gB1.1.2.2.2.2.2
      refine R_fmul dX5_likenessOf_49 (ok 0 0 hv0 zv0).1 ?_
      refine R_fstore_5 rfl (by decide) dX5_likenessOf_50 ?_
      refine R_fload_5 dX5_likenessOf_52 ?_
      refine R_ldcf dX5_likenessOf_54 cwX5_59 ?_
      refine R_aload_0 dX5_likenessOf_56 ?_
      refine R_aload_1 dX5_likenessOf_57 ?_
      refine gfX5_60 rfl dX5_likenessOf_58 s1 j3 ?_
      refine R_aload_2 dX5_likenessOf_61 ?_
      refine gfX5_60 rfl dX5_likenessOf_62 t1 i3 ?_
      refine R_callV (T := mX5_likenessOf) (T' := mX5_wordLikeness) (As := [_, _]) (ci := 5) okX5_wordLikeness mlX5_55 rfl (by decide) sh_196 (ct_wordLikeness h01 a41 b41 a41.len b41.len (by omega) (by omega) (by omega) (by omega)) rfl (by decide) (by decide) (Nat.le_of_ble_eq_true rfl) dX5_likenessOf_65 (fun v9 S9 V2 h9 => ?_) (fun E S9 V9 h9 => h9.elim)
      obtain ⟨rfl, rfl, u5⟩ := h9
      refine R_fmul dX5_likenessOf_68 (ok 0 0 hv0 zv0).2.1 ?_
      refine R_fadd dX5_likenessOf_69 (ok 0 0 hv0 zv0).2.2.1 ?_
      refine R_fstore_5 rfl (by decide) dX5_likenessOf_70 ?_
      refine R_fload_5 dX5_likenessOf_72 ?_
      refine R_ldcf dX5_likenessOf_74 cwX5_63 ?_
      refine R_fload_3 dX5_likenessOf_76 ?_
      refine R_fmul dX5_likenessOf_77 (by first | exact n21 | exact n20) ?_
      first | rw [m21] | rw [m20]
      refine R_fadd dX5_likenessOf_78 (by first | exact (ok _ 0 hv1 zv0).2.2.2.1 | exact (ok _ 0 hv0 zv0).2.2.2.1) ?_
      refine R_fstore_5 rfl (by decide) dX5_likenessOf_79 ?_
      refine R_fload_5 dX5_likenessOf_81 ?_
      refine R_ldcf dX5_likenessOf_83 cwX5_64 ?_
      refine R_fload_4 dX5_likenessOf_85 ?_
      refine R_fmul dX5_likenessOf_87 (by first | exact n11 | exact n10) ?_
      first | rw [m11] | rw [m10]
      refine R_fadd dX5_likenessOf_88 (by first | exact (ok _ _ hv1 zv1).2.2.2.2.1 | exact (ok _ _ hv1 zv0).2.2.2.2.1 | exact (ok _ _ hv0 zv1).2.2.2.2.1 | exact (ok _ _ hv0 zv0).2.2.2.2.1) ?_
      refine R_fret rfl dX5_likenessOf_89 (by first | exact ⟨(by unfold lkV; rw [if_pos c8, if_pos c25]), rfl, fun q hq => (u5 q hq).trans (u4 q hq)⟩ | exact ⟨(by unfold lkV; rw [if_pos c8, if_neg c25]), rfl, fun q hq => (u5 q hq).trans (u4 q hq)⟩ | exact ⟨(by unfold lkV; rw [if_neg c8, if_pos c25]), rfl, fun q hq => (u5 q hq).trans (u4 q hq)⟩ | exact ⟨(by unfold lkV; rw [if_neg c8, if_neg c25]), rfl, fun q hq => (u5 q hq).trans (u4 q hq)⟩)
  · refine R_fconst1 dX5_likenessOf_11 ?_
    refine R_goto 16 dX5_likenessOf_12 (by decide) ?_
    refine R_fstore_3 rfl (by decide) dX5_likenessOf_16 ?_
    refine R_aload_1 dX5_likenessOf_17 ?_
    refine gfX5_47 rfl dX5_likenessOf_18 s1 e5 ?_
    refine R_aload_2 dX5_likenessOf_21 ?_
    refine gfX5_47 rfl dX5_likenessOf_22 t1 d5 ?_
    refine R_icmp_ne 32 dX5_likenessOf_25 (by decide) (fun c25 => ?_) (fun c25 => ?_)
    · refine R_fconst0 dX5_likenessOf_32 ?_
      refine R_fstore_4 rfl (by decide) dX5_likenessOf_33 ?_
      refine R_ldcf dX5_likenessOf_35 cwX5_50 ?_
      refine R_aload_0 dX5_likenessOf_37 ?_
      refine R_aload_1 dX5_likenessOf_38 ?_
      refine gfX5_51 rfl dX5_likenessOf_39 s1 f2 ?_
      refine R_aload_2 dX5_likenessOf_42 ?_
      refine gfX5_51 rfl dX5_likenessOf_43 t1 g2 ?_
      refine R_callV (T := mX5_likenessOf) (T' := mX5_wordLikeness) (As := [_, _]) (ci := 5) okX5_wordLikeness mlX5_55 rfl (by decide) sh_196 (ct_wordLikeness h0 a3 b3 a3.len b3.len (by omega) (by omega) (by omega) (by omega)) rfl (by decide) (by decide) (Nat.le_of_ble_eq_true rfl) dX5_likenessOf_46 (fun v9 S9 V1 h9 => ?_) (fun E S9 V9 h9 => h9.elim)
      obtain ⟨rfl, rfl, u4⟩ := h9
      have h01 := (congrFun (u4 196 (by decide)) 0).trans h0
      have hA1 := hA.fr (V' := V1) (fun q w1 w2 => u4 q (by omega))
      have gB1 := gB.fr (V' := V1) (fun q w1 w2 => u4 q (by omega))
      have j3 := hA1.1.2.1.2.2.2
      have i3 := gB1.1.2.1.2.2.2
      have a41 := hA1.1.2.2.2.2.2
      have b41 := gB1.1.2.2.2.2.2
      refine R_fmul dX5_likenessOf_49 (ok 0 0 hv0 zv0).1 ?_
      refine R_fstore_5 rfl (by decide) dX5_likenessOf_50 ?_
      refine R_fload_5 dX5_likenessOf_52 ?_
      refine R_ldcf dX5_likenessOf_54 cwX5_59 ?_
      refine R_aload_0 dX5_likenessOf_56 ?_
      refine R_aload_1 dX5_likenessOf_57 ?_
      refine gfX5_60 rfl dX5_likenessOf_58 s1 j3 ?_
      refine R_aload_2 dX5_likenessOf_61 ?_
      refine gfX5_60 rfl dX5_likenessOf_62 t1 i3 ?_
      refine R_callV (T := mX5_likenessOf) (T' := mX5_wordLikeness) (As := [_, _]) (ci := 5) okX5_wordLikeness mlX5_55 rfl (by decide) sh_196 (ct_wordLikeness h01 a41 b41 a41.len b41.len (by omega) (by omega) (by omega) (by omega)) rfl (by decide) (by decide) (Nat.le_of_ble_eq_true rfl) dX5_likenessOf_65 (fun v9 S9 V2 h9 => ?_) (fun E S9 V9 h9 => h9.elim)
      obtain ⟨rfl, rfl, u5⟩ := h9
      refine R_fmul dX5_likenessOf_68 (ok 0 0 hv0 zv0).2.1 ?_
      refine R_fadd dX5_likenessOf_69 (ok 0 0 hv0 zv0).2.2.1 ?_
      refine R_fstore_5 rfl (by decide) dX5_likenessOf_70 ?_
      refine R_fload_5 dX5_likenessOf_72 ?_
      refine R_ldcf dX5_likenessOf_74 cwX5_63 ?_
      refine R_fload_3 dX5_likenessOf_76 ?_
      refine R_fmul dX5_likenessOf_77 (by first | exact n21 | exact n20) ?_
      first | rw [m21] | rw [m20]
      refine R_fadd dX5_likenessOf_78 (by first | exact (ok _ 0 hv1 zv0).2.2.2.1 | exact (ok _ 0 hv0 zv0).2.2.2.1) ?_
      refine R_fstore_5 rfl (by decide) dX5_likenessOf_79 ?_
      refine R_fload_5 dX5_likenessOf_81 ?_
      refine R_ldcf dX5_likenessOf_83 cwX5_64 ?_
      refine R_fload_4 dX5_likenessOf_85 ?_
      refine R_fmul dX5_likenessOf_87 (by first | exact n11 | exact n10) ?_
      first | rw [m11] | rw [m10]
      refine R_fadd dX5_likenessOf_88 (by first | exact (ok _ _ hv1 zv1).2.2.2.2.1 | exact (ok _ _ hv1 zv0).2.2.2.2.1 | exact (ok _ _ hv0 zv1).2.2.2.2.1 | exact (ok _ _ hv0 zv0).2.2.2.2.1) ?_
      refine R_fret rfl dX5_likenessOf_89 (by first | exact ⟨(by unfold lkV; rw [if_pos c8, if_pos c25]), rfl, fun q hq => (u5 q hq).trans (u4 q hq)⟩ | exact ⟨(by unfold lkV; rw [if_pos c8, if_neg c25]), rfl, fun q hq => (u5 q hq).trans (u4 q hq)⟩ | exact ⟨(by unfold lkV; rw [if_neg c8, if_pos c25]), rfl, fun q hq => (u5 q hq).trans (u4 q hq)⟩ | exact ⟨(by unfold lkV; rw [if_neg c8, if_neg c25]), rfl, fun q hq => (u5 q hq).trans (u4 q hq)⟩)
    · refine R_fconst1 dX5_likenessOf_28 ?_
      refine R_goto 33 dX5_likenessOf_29 (by decide) ?_
      refine R_fstore_4 rfl (by decide) dX5_likenessOf_33 ?_
      refine R_ldcf dX5_likenessOf_35 cwX5_50 ?_
      refine R_aload_0 dX5_likenessOf_37 ?_
      refine R_aload_1 dX5_likenessOf_38 ?_
      refine gfX5_51 rfl dX5_likenessOf_39 s1 f2 ?_
      refine R_aload_2 dX5_likenessOf_42 ?_
      refine gfX5_51 rfl dX5_likenessOf_43 t1 g2 ?_
      refine R_callV (T := mX5_likenessOf) (T' := mX5_wordLikeness) (As := [_, _]) (ci := 5) okX5_wordLikeness mlX5_55 rfl (by decide) sh_196 (ct_wordLikeness h0 a3 b3 a3.len b3.len (by omega) (by omega) (by omega) (by omega)) rfl (by decide) (by decide) (Nat.le_of_ble_eq_true rfl) dX5_likenessOf_46 (fun v9 S9 V1 h9 => ?_) (fun E S9 V9 h9 => h9.elim)
      obtain ⟨rfl, rfl, u4⟩ := h9
      have h01 := (congrFun (u4 196 (by decide)) 0).trans h0
      have hA1 := hA.fr (V' := V1) (fun q w1 w2 => u4 q (by omega))
      have gB1 := gB.fr (V' := V1) (fun q w1 w2 => u4 q (by omega))
      have j3 := hA1.1.2.1.2.2.2
      have i3 := gB1.1.2.1.2.2.2
      have a41 := hA1.1.2.2.2.2.2
      have b41 := gB1.1.2.2.2.2.2
      refine R_fmul dX5_likenessOf_49 (ok 0 0 hv0 zv0).1 ?_
      refine R_fstore_5 rfl (by decide) dX5_likenessOf_50 ?_
      refine R_fload_5 dX5_likenessOf_52 ?_
      refine R_ldcf dX5_likenessOf_54 cwX5_59 ?_
      refine R_aload_0 dX5_likenessOf_56 ?_
      refine R_aload_1 dX5_likenessOf_57 ?_
      refine gfX5_60 rfl dX5_likenessOf_58 s1 j3 ?_
      refine R_aload_2 dX5_likenessOf_61 ?_
      refine gfX5_60 rfl dX5_likenessOf_62 t1 i3 ?_
      refine R_callV (T := mX5_likenessOf) (T' := mX5_wordLikeness) (As := [_, _]) (ci := 5) okX5_wordLikeness mlX5_55 rfl (by decide) sh_196 (ct_wordLikeness h01 a41 b41 a41.len b41.len (by omega) (by omega) (by omega) (by omega)) rfl (by decide) (by decide) (Nat.le_of_ble_eq_true rfl) dX5_likenessOf_65 (fun v9 S9 V2 h9 => ?_) (fun E S9 V9 h9 => h9.elim)
      obtain ⟨rfl, rfl, u5⟩ := h9
      refine R_fmul dX5_likenessOf_68 (ok 0 0 hv0 zv0).2.1 ?_
      refine R_fadd dX5_likenessOf_69 (ok 0 0 hv0 zv0).2.2.1 ?_
      refine R_fstore_5 rfl (by decide) dX5_likenessOf_70 ?_
      refine R_fload_5 dX5_likenessOf_72 ?_
      refine R_ldcf dX5_likenessOf_74 cwX5_63 ?_
      refine R_fload_3 dX5_likenessOf_76 ?_
      refine R_fmul dX5_likenessOf_77 (by first | exact n21 | exact n20) ?_
      first | rw [m21] | rw [m20]
      refine R_fadd dX5_likenessOf_78 (by first | exact (ok _ 0 hv1 zv0).2.2.2.1 | exact (ok _ 0 hv0 zv0).2.2.2.1) ?_
      refine R_fstore_5 rfl (by decide) dX5_likenessOf_79 ?_
      refine R_fload_5 dX5_likenessOf_81 ?_
      refine R_ldcf dX5_likenessOf_83 cwX5_64 ?_
      refine R_fload_4 dX5_likenessOf_85 ?_
      refine R_fmul dX5_likenessOf_87 (by first | exact n11 | exact n10) ?_
      first | rw [m11] | rw [m10]
      refine R_fadd dX5_likenessOf_88 (by first | exact (ok _ _ hv1 zv1).2.2.2.2.1 | exact (ok _ _ hv1 zv0).2.2.2.2.1 | exact (ok _ _ hv0 zv1).2.2.2.2.1 | exact (ok _ _ hv0 zv0).2.2.2.2.1) ?_
      refine R_fret rfl dX5_likenessOf_89 (by first | exact ⟨(by unfold lkV; rw [if_pos c8, if_pos c25]), rfl, fun q hq => (u5 q hq).trans (u4 q hq)⟩ | exact ⟨(by unfold lkV; rw [if_pos c8, if_neg c25]), rfl, fun q hq => (u5 q hq).trans (u4 q hq)⟩ | exact ⟨(by unfold lkV; rw [if_neg c8, if_pos c25]), rfl, fun q hq => (u5 q hq).trans (u4 q hq)⟩ | exact ⟨(by unfold lkV; rw [if_neg c8, if_neg c25]), rfl, fun q hq => (u5 q hq).trans (u4 q hq)⟩)

