/-! ===== the law: some, text, cost ===== -/
section SAY3
variable {ent : Nat → EntN} {cnt : Nat} {mt po : Nat → Nat} {b st pa nr : Nat} {rt rr : Nat → Nat} {pd : Nat → Bool} {kn : Nat → Nat} {kl : Nat → Nat → KL} {i l g j : Nat} {x : List Int32 × Nat × Int32}
set_option maxHeartbeats 4000000 in
theorem so_tail {V0 V : aV} {K ke : Nat} (h : SY V K j ent cnt mt po b st pa nr rt rr pd kn kl) (o : OL lT lTo ent cnt mt po b st nr rt rr pd i l g x) (hj : j < 1000) (f : FrQ V0 V) (hx : PF x.1 K [46]) (he : ke = K + 1) : R mL_some 13 243 1458 (TP V0 ke j ent cnt mt po b st pa nr rt rr pd kn kl) aNo 3 18 121 [some (.ref 0), some (.ref 505), some (.int (nI i)), some (.int (nI l)), some (.ref 509), some (.int (nI g)), some (.int 1)] [] Sh V := by
  subst he
  refine R_iload_6 dL_some_121 ?_
  refine R_if_eq 143 dL_some_123 (by decide) (fun c123 => absurd c123 (by decide)) (fun c123 => ?_)
  refine R_aload_0 dL_some_126 ?_
  refine R_iload_2 dL_some_127 ?_
  refine R_iload_3 dL_some_128 ?_
  refine R_aload_4 dL_some_129 ?_
  refine R_bipush (v := 46) dL_some_131 (by decide) ?_
  refine R_callS (T := mL_some) (T' := mL_says) (As := [_, _, _, _, _]) okL_says mlL_61 rfl (cs_1 h o hj hx) rfl (by decide) (by decide) (Nat.le_of_ble_eq_true rfl) dL_some_133 (fun v9 S9 V9 h9 => ?_) (fun E S9 V9 h9 => h9.elim)
  obtain ⟨rfl, rfl, h1, g1⟩ := h9
  refine R_if_eq 143 dL_some_136 (by decide) (fun c136 => absurd c136 (by decide)) (fun c136 => ?_)
  refine R_iconst (v := 1) dL_some_139 (by decide) ?_
  refine R_goto 144 dL_some_140 (by decide) ?_
  refine R_zret rfl (by first | rfl | assumption) dL_some_144 ⟨rfl, rfl, h1, f.trans g1⟩
set_option maxHeartbeats 4000000 in
theorem ct_some {V : aV} {p0 a : Nat} (hh : HH ent cnt g a) (aa : AA V cnt ent) (h : SY V p0 j ent cnt mt po b st pa nr rt rr pd kn kl) (o : OL lT lTo ent cnt mt po b st nr rt rr pd i l g x) (hj : j < 1000) (hx : PF x.1 p0 (someW (fW ent g) (fV ent g))) : CT mL_some 13 243 1458 [.ref 0, .ref 505, .int (nI i), .int (nI l), .ref 509, .int (nI g)] Sh V (TP V (p0 + (someW (fW ent g) (fV ent g)).length) j ent cnt mt po b st pa nr rt rr pd kn kl) aNo := by
  refine CT_of (by decide +kernel) (Nat.le_of_ble_eq_true rfl) ?_
  show R _ _ _ _ _ _ _ _ 0 [some (.ref 0), some (.ref 505), some (.int (nI i)), some (.int (nI l)), some (.ref 509), some (.int (nI g)), none] [] _ _
  obtain ⟨q1, q2, q3, q4, q5, q6, q7, q8⟩ := id hh
  obtain ⟨v2, v3, v4, v5, v1000⟩ := hh.v
  obtain ⟨w0, w1, w2, w3, w4, w5⟩ := hh.w
  have bc := hh.bc
  have e8 := q8 a (by omega)
  obtain ⟨c, d, -, -, -, -, a2, a3, -⟩ := aa a q2
  unfold someW at hx
  rw [v5, v4, w4, w2] at hx
  refine R_iconst (v := 1) dL_some_0 (by decide) ?_
  refine R_istore_6 rfl (by decide) dL_some_1 ?_
  refine R_iload_5 dL_some_3 ?_
  refine R_callS_e (T := mL_some) (T' := mL_many) (As := [_]) okL_many mlL_75 rfl (ct_many q1) rfl (by decide) (by decide) (Nat.le_of_ble_eq_true rfl) dL_some_5 ?_
  refine R_iconst (v := 1) dL_some_8 (by decide) ?_
  refine R_icmp_ne 28 dL_some_9 (by decide) (fun c9 => ?_) (fun c9 => ?_)
  · have s1 : ¬ bcn g 12 = 1 := fun z => c9 (by rw [z]; rfl)
    rw [if_neg s1] at hx
    refine R_aload_1 dL_some_28 ?_
    refine R_iload_5 dL_some_29 ?_
    refine R_callS_e (T := mL_some) (T' := mL_points) (As := [_, _]) okL_points mlL_71 rfl (ct_points aa q1 q6) rfl (by decide) (by decide) (Nat.le_of_ble_eq_true rfl) dL_some_31 ?_
    refine R_bipush (v := 90) dL_some_34 (by decide) ?_
    refine R_icmp_le 79 dL_some_36 (by decide) (fun c36 => ?_) (fun c36 => ?_)
    · have s2 : ¬ 90 < (gW ent g 12).2 4 := fun z => absurd ((nI_leI (b := 90) (by omega) (by decide)).1 c36) (by omega)
      rw [if_neg s2] at hx
      refine R_aload_0 dL_some_79 ?_
      refine R_iload_2 dL_some_80 ?_
      refine R_iload_3 dL_some_81 ?_
      refine R_aload_4 dL_some_82 ?_
      refine R_bipush (v := 72) dL_some_84 (by decide) ?_
      refine R_callS (T := mL_some) (T' := mL_says) (As := [_, _, _, _, _]) okL_says mlL_61 rfl (cs_1 h o hj (c := 72) (PF.l (PF.l hx))) rfl (by decide) (by decide) (Nat.le_of_ble_eq_true rfl) dL_some_86 (fun v9 S9 V9 h9 => ?_) (fun E S9 V9 h9 => h9.elim)
      obtain ⟨rfl, rfl, h1, g1⟩ := h9
      have p1 := (PF.l hx).q (k' := p0 + 1) rfl
      refine R_if_eq 118 dL_some_89 (by decide) (fun c89 => absurd c89 (by decide)) (fun c89 => ?_)
      refine R_aload_0 dL_some_92 ?_
      refine R_iload_2 dL_some_93 ?_
      refine R_iload_3 dL_some_94 ?_
      refine R_aload_4 dL_some_95 ?_
      refine R_aload_1 dL_some_97 ?_
      refine R_iconst (v := 5) dL_some_98 (by decide) ?_
      refine R_iload_5 dL_some_99 ?_
      refine R_callS_e (T := mL_some) (T' := mL_first) (As := [_]) okL_first mlL_65 rfl (ct_first q1 (by omega) q4 q5) rfl (by decide) (by decide) (Nat.le_of_ble_eq_true rfl) dL_some_101 ?_
      refine R_imul dL_some_104 ?_
      refine R_iconst (v := 2) dL_some_105 (by decide) ?_
      refine R_iadd dL_some_106 ?_
      rw [show (5 : Int32) * nI a + 2 = nI (5 * a + 2) from ia a 2]
      refine R_iald dL_some_107 sh_505 (vp_in_nI (by omega) (by decide)) (nI_clamp (by omega)) ((congrFun (g1 505 (by decide) (by decide)) _).trans a2) ?_
      refine R_callS (T := mL_some) (T' := mL_tells) (As := [_, _, _, _, _]) okL_tells mlL_68 rfl (cs_t h1 o hj (by have := e8.2.1; omega) p1) rfl (by decide) (by decide) (Nat.le_of_ble_eq_true rfl) dL_some_108 (fun v9 S9 V9 h9 => ?_) (fun E S9 V9 h9 => h9.elim)
      obtain ⟨rfl, rfl, h2, g2⟩ := h9
      refine R_if_eq 118 dL_some_111 (by decide) (fun c111 => absurd c111 (by decide)) (fun c111 => ?_)
      refine R_iconst (v := 1) dL_some_114 (by decide) ?_
      refine R_goto 119 dL_some_115 (by decide) ?_
      refine R_istore_6 rfl (by decide) dL_some_119 ?_
      first
        | exact so_tail h1 o hj g1 hx.r (by unfold someW; rw [v5, if_pos s1, List.length_append]; rfl)
        | exact R_less (by decide) (by decide) (so_tail h2 o hj (g1.trans g2) (hx.q (by simp only [List.length_append, List.length_cons, List.length_nil]; omega)) (by unfold someW; rw [v5, if_neg s1, v4, if_pos s2, w4]; simp only [List.length_append, List.length_cons, List.length_nil]; omega))
        | exact R_less (by decide) (by decide) (so_tail h2 o hj (g1.trans g2) (hx.q (by simp only [List.length_append, List.length_cons, List.length_nil]; omega)) (by unfold someW; rw [v5, if_neg s1, v4, if_neg s2, w2]; simp only [List.length_append, List.length_cons, List.length_nil]; omega))
    · have s2 : 90 < (gW ent g 12).2 4 := Nat.lt_of_not_le fun z => c36 (nI_le (b := 90) z (by decide))
      rw [if_pos s2] at hx
      refine R_aload_0 dL_some_39 ?_
      refine R_iload_2 dL_some_40 ?_
      refine R_iload_3 dL_some_41 ?_
      refine R_aload_4 dL_some_42 ?_
      refine R_bipush (v := 80) dL_some_44 (by decide) ?_
      refine R_callS (T := mL_some) (T' := mL_says) (As := [_, _, _, _, _]) okL_says mlL_61 rfl (cs_1 h o hj (c := 80) (PF.l (PF.l hx))) rfl (by decide) (by decide) (Nat.le_of_ble_eq_true rfl) dL_some_46 (fun v9 S9 V9 h9 => ?_) (fun E S9 V9 h9 => h9.elim)
      obtain ⟨rfl, rfl, h1, g1⟩ := h9
      have p1 := (PF.l hx).q (k' := p0 + 1) rfl
      refine R_if_eq 73 dL_some_49 (by decide) (fun c49 => absurd c49 (by decide)) (fun c49 => ?_)
      refine R_aload_0 dL_some_52 ?_
      refine R_iload_2 dL_some_53 ?_
      refine R_iload_3 dL_some_54 ?_
      refine R_aload_4 dL_some_55 ?_
      refine R_aload_1 dL_some_57 ?_
      
      refine R_iload_5 dL_some_58 ?_
      refine R_callS_e (T := mL_some) (T' := mL_points) (As := [_, _]) okL_points mlL_71 rfl (ct_points (g1.aa aa) q1 q6) rfl (by decide) (by decide) (Nat.le_of_ble_eq_true rfl) dL_some_60 ?_
      refine R_callS (T := mL_some) (T' := mL_tells) (As := [_, _, _, _, _]) okL_tells mlL_68 rfl (cs_t h1 o hj v1000 p1) rfl (by decide) (by decide) (Nat.le_of_ble_eq_true rfl) dL_some_63 (fun v9 S9 V9 h9 => ?_) (fun E S9 V9 h9 => h9.elim)
      obtain ⟨rfl, rfl, h2, g2⟩ := h9
      refine R_if_eq 73 dL_some_66 (by decide) (fun c66 => absurd c66 (by decide)) (fun c66 => ?_)
      refine R_iconst (v := 1) dL_some_69 (by decide) ?_
      refine R_goto 74 dL_some_70 (by decide) ?_
      refine R_istore_6 rfl (by decide) dL_some_74 ?_
      refine R_goto 121 dL_some_76 (by decide) ?_
      first
        | exact so_tail h1 o hj g1 hx.r (by unfold someW; rw [v5, if_pos s1, List.length_append]; rfl)
        | exact R_less (by decide) (by decide) (so_tail h2 o hj (g1.trans g2) (hx.q (by simp only [List.length_append, List.length_cons, List.length_nil]; omega)) (by unfold someW; rw [v5, if_neg s1, v4, if_pos s2, w4]; simp only [List.length_append, List.length_cons, List.length_nil]; omega))
        | exact R_less (by decide) (by decide) (so_tail h2 o hj (g1.trans g2) (hx.q (by simp only [List.length_append, List.length_cons, List.length_nil]; omega)) (by unfold someW; rw [v5, if_neg s1, v4, if_neg s2, w2]; simp only [List.length_append, List.length_cons, List.length_nil]; omega))
  · have s1 : bcn g 12 = 1 := (nI_eq (by omega) (by decide)).1 c9
    rw [if_pos s1] at hx
    refine R_aload_0 dL_some_12 ?_
    refine R_aload_1 dL_some_13 ?_
    refine R_iload_2 dL_some_14 ?_
    refine R_iload_3 dL_some_15 ?_
    refine R_aload_4 dL_some_16 ?_
    refine R_iload_5 dL_some_18 ?_
    refine R_callS (T := mL_some) (T' := mL_all) (As := [_, _, _, _, _, _]) okL_all mlL_78 rfl (ct_all hh aa h o hj hx.l) rfl (by decide) (by decide) (Nat.le_of_ble_eq_true rfl) dL_some_20 (fun v9 S9 V9 h9 => ?_) (fun E S9 V9 h9 => h9.elim)
    obtain ⟨rfl, rfl, h1, g1⟩ := h9
    refine R_istore_6 rfl (by decide) dL_some_23 ?_
    refine R_goto 121 dL_some_25 (by decide) ?_
    first
      | exact so_tail h1 o hj g1 hx.r (by unfold someW; rw [v5, if_pos s1, List.length_append]; rfl)
      | exact R_less (by decide) (by decide) (so_tail h2 o hj (g1.trans g2) (hx.q (by simp only [List.length_append, List.length_cons, List.length_nil]; omega)) (by unfold someW; rw [v5, if_neg s1, v4, if_pos s2, w4]; simp only [List.length_append, List.length_cons, List.length_nil]; omega))
      | exact R_less (by decide) (by decide) (so_tail h2 o hj (g1.trans g2) (hx.q (by simp only [List.length_append, List.length_cons, List.length_nil]; omega)) (by unfold someW; rw [v5, if_neg s1, v4, if_neg s2, w2]; simp only [List.length_append, List.length_cons, List.length_nil]; omega))

set_option maxHeartbeats 4000000 in
theorem tx_tail {V0 V : aV} {t : Nat} (h : SY V x.1.length j ent cnt mt po b st pa nr rt rr pd kn kl) (o : OL lT lTo ent cnt mt po b st nr rt rr pd i l g x) (hj : j < 1000) (f : FrQ V0 V) : R mL_text 14 489 2934 (TP V0 x.1.length j ent cnt mt po b st pa nr rt rr pd kn kl) aNo 3 18 88 [some (.ref 0), some (.ref 505), some (.int (nI t)), some (.int (nI i)), some (.int (nI l)), some (.ref 509), some (.int (nI g)), some (.int 1)] [] Sh V := by
  obtain ⟨h0, e0, e1⟩ := h
  have l160 := x160 o h0
  have ez : lAt x.1 (nI x.1.length) = 0 := by
    rw [lAt_nI (by omega)]
    simp [List.getD_eq_getElem?_getD]
  refine R_iload_7 dL_text_88 ?_
  refine R_if_eq 111 dL_text_90 (by decide) (fun c90 => absurd c90 (by decide)) (fun c90 => ?_)
  refine R_aload_0 dL_text_93 ?_
  refine R_iload_3 dL_text_94 ?_
  refine R_iload_4 dL_text_95 ?_
  refine R_aload_5 dL_text_97 ?_
  refine R_iconst (v := 0) dL_text_99 (by decide) ?_
  refine R_iald dL_text_100 sh_509 (vp_in_nI (n := 0) (by decide) (by decide)) rfl e0 ?_
  refine R_callV (T := mL_text) (T' := mX11_sign) (As := [_, _, _]) (ci := 11) okX11_sign mlL_57 rfl (by decide) sh_0 (lc_sign (p := x.1.length) h0 o (by omega)) rfl (by decide) (by decide) (Nat.le_of_ble_eq_true rfl) dL_text_101 (fun v9 S9 V9 h9 => ?_) (fun E S9 V9 h9 => h9.elim)
  obtain ⟨rfl, rfl, h9, f9⟩ := h9
  refine R_if_ne 111 dL_text_104 (by decide) (fun c104 => absurd ez c104) (fun c104 => ?_)
  refine R_iconst (v := 1) dL_text_107 (by decide) ?_
  refine R_goto 112 dL_text_108 (by decide) ?_
  refine R_zret rfl (by first | rfl | assumption) dL_text_112 ⟨rfl, rfl, ⟨h9, (congrFun (f9 509 (by decide)) 0).trans e0, (congrFun (f9 509 (by decide)) 1).trans e1⟩, f.trans f9.q⟩
set_option maxHeartbeats 4000000 in
theorem ct_text {V : aV} {t a : Nat} (hh : HH ent cnt g a) (aa : AA V cnt ent) (h0 : CSt V [] lT lTo ent cnt mt po b st pa nr rt rr pd kn kl) (e1 : V 509 1 = .int (nI j)) (o : OL lT lTo ent cnt mt po b st nr rt rr pd i l g x) (hj : j < 1000) (ht : t < 3) (hx : x.1 = txW t (fW ent g) (fV ent g)) : CT mL_text 14 489 2934 [.ref 0, .ref 505, .int (nI t), .int (nI i), .int (nI l), .ref 509, .int (nI g)] Sh V (TP V x.1.length j ent cnt mt po b st pa nr rt rr pd kn kl) aNo := by
  refine CT_of (by decide +kernel) (Nat.le_of_ble_eq_true rfl) ?_
  show R _ _ _ _ _ _ _ _ 0 [some (.ref 0), some (.ref 505), some (.int (nI t)), some (.int (nI i)), some (.int (nI l)), some (.ref 509), some (.int (nI g)), none] [] _ _
  have f0 : FrQ V (a_up V 509 0 (.int 0)) := fun b _ q => a_up_row q
  have h : SY (a_up V 509 0 (.int 0)) 0 j ent cnt mt po b st pa nr rt rr pd kn kl := ⟨h0.low (fun b hb => a_up_row (by omega)), a_up_self _ _ _ _, (a_up_ne (Or.inr (by decide))).trans e1⟩
  have px := PF.full x.1
  refine R_aload_5 dL_text_0 ?_
  refine R_iconst (v := 0) dL_text_2 (by decide) ?_
  refine R_iconst (v := 0) dL_text_3 (by decide) ?_
  refine R_iast dL_text_4 sh_509 (vp_in_nI (n := 0) (by decide) (by decide)) rfl ?_
  refine R_iconst (v := 1) dL_text_5 (by decide) ?_
  refine R_istore_7 rfl (by decide) dL_text_6 ?_
  refine R_iload_2 dL_text_8 ?_
  refine R_if_ne 29 dL_text_9 (by decide) (fun c9 => ?_) (fun c9 => ?_)
  · refine R_iload_2 dL_text_29 ?_
    refine R_iconst (v := 1) dL_text_30 (by decide) ?_
    refine R_icmp_ne 51 dL_text_31 (by decide) (fun c31 => ?_) (fun c31 => ?_)
    · have t2 : t = 2 := by
        have z0 : ¬ t = 0 := fun z => c9 (by rw [z]; rfl)
        have z1 : ¬ t = 1 := fun z => c31 (by rw [z]; rfl)
        omega
      subst t2
      have hx2 : txW 2 (fW ent g) (fV ent g) = someW (fW ent g) (fV ent g) ++ someW (fW ent g) (fV ent g) := rfl
      have px2 : PF x.1 0 (someW (fW ent g) (fV ent g) ++ someW (fW ent g) (fV ent g)) := by rw [hx, hx2]; exact PF.full _
      refine R_aload_0 dL_text_51 ?_
      refine R_aload_1 dL_text_52 ?_
      refine R_iload_3 dL_text_53 ?_
      refine R_iload_4 dL_text_54 ?_
      refine R_aload_5 dL_text_56 ?_
      refine R_iload_6 dL_text_58 ?_
      refine R_callS (T := mL_text) (T' := mL_some) (As := [_, _, _, _, _, _]) okL_some mlL_82 rfl (ct_some hh (f0.aa aa) h o hj px2.l) rfl (by decide) (by decide) (Nat.le_of_ble_eq_true rfl) dL_text_60 (fun v9 S9 V9 h9 => ?_) (fun E S9 V9 h9 => h9.elim)
      obtain ⟨rfl, rfl, h1, g1⟩ := h9
      refine R_if_eq 85 dL_text_63 (by decide) (fun c63 => absurd c63 (by decide)) (fun c63 => ?_)
      refine R_aload_0 dL_text_66 ?_
      refine R_aload_1 dL_text_67 ?_
      refine R_iload_3 dL_text_68 ?_
      refine R_iload_4 dL_text_69 ?_
      refine R_aload_5 dL_text_71 ?_
      refine R_iload_6 dL_text_73 ?_
      refine R_callS (T := mL_text) (T' := mL_some) (As := [_, _, _, _, _, _]) okL_some mlL_82 rfl (ct_some hh (g1.aa (f0.aa aa)) h1 o hj px2.r) rfl (by decide) (by decide) (Nat.le_of_ble_eq_true rfl) dL_text_75 (fun v9 S9 V9 h9 => ?_) (fun E S9 V9 h9 => h9.elim)
      obtain ⟨rfl, rfl, h2, g2⟩ := h9
      refine R_if_eq 85 dL_text_78 (by decide) (fun c78 => absurd c78 (by decide)) (fun c78 => ?_)
      refine R_iconst (v := 1) dL_text_81 (by decide) ?_
      refine R_goto 86 dL_text_82 (by decide) ?_
      refine R_istore_7 rfl (by decide) dL_text_86 ?_
      first
        | exact R_less (by decide) (by decide) (tx_tail (h2.k (by rw [hx, hx2, List.length_append]; omega)) o hj (f0.trans (g1.trans g2)))
        | exact R_less (by decide) (by decide) (tx_tail (h1.k (by rw [hx, hx2]; omega)) o hj (f0.trans g1))
    · have t1 : t = 1 := (nI_eq (b := 1) (by omega) (by decide)).1 c31
      subst t1
      have hx2 : txW 1 (fW ent g) (fV ent g) = someW (fW ent g) (fV ent g) := rfl
      have px2 : PF x.1 0 (someW (fW ent g) (fV ent g)) := by rw [hx, hx2]; exact PF.full _
      refine R_aload_0 dL_text_34 ?_
      refine R_aload_1 dL_text_35 ?_
      refine R_iload_3 dL_text_36 ?_
      refine R_iload_4 dL_text_37 ?_
      refine R_aload_5 dL_text_39 ?_
      refine R_iload_6 dL_text_41 ?_
      refine R_callS (T := mL_text) (T' := mL_some) (As := [_, _, _, _, _, _]) okL_some mlL_82 rfl (ct_some hh (f0.aa aa) h o hj px2) rfl (by decide) (by decide) (Nat.le_of_ble_eq_true rfl) dL_text_43 (fun v9 S9 V9 h9 => ?_) (fun E S9 V9 h9 => h9.elim)
      obtain ⟨rfl, rfl, h1, g1⟩ := h9
      refine R_istore_7 rfl (by decide) dL_text_46 ?_
      refine R_goto 88 dL_text_48 (by decide) ?_
      first
        | exact R_less (by decide) (by decide) (tx_tail (h2.k (by rw [hx, hx2, List.length_append]; omega)) o hj (f0.trans (g1.trans g2)))
        | exact R_less (by decide) (by decide) (tx_tail (h1.k (by rw [hx, hx2]; omega)) o hj (f0.trans g1))
  · have t0 : t = 0 := bk_z0 (by omega) c9
    subst t0
    have hx2 : txW 0 (fW ent g) (fV ent g) = allW (fW ent g) := rfl
    have px2 : PF x.1 0 (allW (fW ent g)) := by rw [hx, hx2]; exact PF.full _
    refine R_aload_0 dL_text_12 ?_
    refine R_aload_1 dL_text_13 ?_
    refine R_iload_3 dL_text_14 ?_
    refine R_iload_4 dL_text_15 ?_
    refine R_aload_5 dL_text_17 ?_
    refine R_iload_6 dL_text_19 ?_
    refine R_callS (T := mL_text) (T' := mL_all) (As := [_, _, _, _, _, _]) okL_all mlL_78 rfl (ct_all hh (f0.aa aa) h o hj px2) rfl (by decide) (by decide) (Nat.le_of_ble_eq_true rfl) dL_text_21 (fun v9 S9 V9 h9 => ?_) (fun E S9 V9 h9 => h9.elim)
    obtain ⟨rfl, rfl, h1, g1⟩ := h9
    refine R_istore_7 rfl (by decide) dL_text_24 ?_
    refine R_goto 88 dL_text_26 (by decide) ?_
    first
      | exact R_less (by decide) (by decide) (tx_tail (h2.k (by rw [hx, hx2, List.length_append]; omega)) o hj (f0.trans (g1.trans g2)))
      | exact R_less (by decide) (by decide) (tx_tail (h1.k (by rw [hx, hx2]; omega)) o hj (f0.trans g1))

set_option maxHeartbeats 4000000 in
theorem co_tail {V : aV} {a s t b st : Nat} {z : Int32} (hh : HH ent cnt g a) (aa : AA V cnt ent) (hb : V 504 2 = .int (nI b)) (hst : V 504 3 = .int (nI st)) {u : Option Value} : R mL_cost 1 0 0 (aRet (some (.int (nI ((b + st * t) * ((ent a).2.2.2.1 + 2))))) Sh V) aNo 0 0 42 [some (.ref 504), some (.ref 505), some (.int (nI s)), some (.int (nI g)), some (.int z), u] [.int (nI t)] Sh V := by
  obtain ⟨q1, q2, q3, q4, q5, q6, q7, q8⟩ := id hh
  obtain ⟨c, d, -, -, -, -, a2, a3, -⟩ := aa a q2
  refine R_istore_5 rfl (by decide) dL_cost_42 ?_
  refine R_aload_0 dL_cost_44 ?_
  refine R_iconst (v := 2) dL_cost_45 (by decide) ?_
  refine R_iald dL_cost_46 sh_504 (vp_in_nI (n := 2) (by decide) (by decide)) rfl hb ?_
  refine R_aload_0 dL_cost_47 ?_
  refine R_iconst (v := 3) dL_cost_48 (by decide) ?_
  refine R_iald dL_cost_49 sh_504 (vp_in_nI (n := 3) (by decide) (by decide)) rfl hst ?_
  refine R_iload_5 dL_cost_50 ?_
  refine R_imul dL_cost_52 ?_
  rw [pk_mul]
  refine R_iadd dL_cost_53 ?_
  rw [nI_add]
  refine R_aload_1 dL_cost_54 ?_
  refine R_iconst (v := 5) dL_cost_55 (by decide) ?_
  refine R_iload_3 dL_cost_56 ?_
  refine R_callS_e (T := mL_cost) (T' := mL_first) (As := [_]) okL_first mlL_65 rfl (ct_first q1 (by omega) q4 q5) rfl (by decide) (by decide) (Nat.le_of_ble_eq_true rfl) dL_cost_57 ?_
  refine R_imul dL_cost_60 ?_
  refine R_iconst (v := 3) dL_cost_61 (by decide) ?_
  refine R_iadd dL_cost_62 ?_
  rw [show (5 : Int32) * nI a + 3 = nI (5 * a + 3) from ia a 3]
  refine R_iald dL_cost_63 sh_505 (vp_in_nI (by omega) (by decide)) (nI_clamp (by omega)) a3 ?_
  refine R_iconst (v := 2) dL_cost_64 (by decide) ?_
  refine R_iadd dL_cost_65 ?_
  rw [show nI (ent a).2.2.2.1 + 2 = nI ((ent a).2.2.2.1 + 2) from nI_add _ 2]
  refine R_imul dL_cost_66 ?_
  rw [pk_mul]
  refine R_iret rfl dL_cost_67 ⟨rfl, rfl, rfl⟩
set_option maxHeartbeats 4000000 in
theorem ct_cost {V : aV} {a s b st : Nat} (hh : HH ent cnt g a) (aa : AA V cnt ent) (hb : V 504 2 = .int (nI b)) (hst : V 504 3 = .int (nI st)) (hs : s < 1000) : CT mL_cost 1 0 0 [.ref 504, .ref 505, .int (nI s), .int (nI g)] Sh V (aRet (some (.int (nI ((b + st * tens (wgt s (bcn g 12))) * ((ent a).2.2.2.1 + 2))))) Sh V) aNo := by
  refine CT_of (by decide +kernel) (Nat.le_of_ble_eq_true rfl) ?_
  show R _ _ _ _ _ _ _ _ 0 [some (.ref 504), some (.ref 505), some (.int (nI s)), some (.int (nI g)), none, none] [] _ _
  have q1 := hh.1
  have bc := hh.bc
  have hw : wgt s (bcn g 12) ≤ 300 := by unfold wgt; omega
  refine R_bipush (v := 8) dL_cost_0 (by decide) ?_
  refine R_iconst (v := 3) dL_cost_2 (by decide) ?_
  refine R_iload_2 dL_cost_3 ?_
  refine R_bipush (v := 19) dL_cost_4 (by decide) ?_
  refine R_iadd dL_cost_6 ?_
  rw [show nI s + 19 = nI (s + 19) from nI_add s 19]
  refine R_bipush (v := 20) dL_cost_7 (by decide) ?_
  refine R_idiv dL_cost_9 (by decide) ?_
  rw [show nI (s + 19) / 20 = nI ((s + 19) / 20) from pk_div (d := 20) (by omega) (by decide) (by decide)]
  refine R_imul dL_cost_10 ?_
  rw [show (3 : Int32) * nI ((s + 19) / 20) = nI (3 * ((s + 19) / 20)) from pk_mul 3 _]
  refine R_iadd dL_cost_11 ?_
  rw [show (8 : Int32) + nI (3 * ((s + 19) / 20)) = nI (8 + 3 * ((s + 19) / 20)) from nI_add 8 _]
  refine R_iconst (v := 2) dL_cost_12 (by decide) ?_
  refine R_iload_3 dL_cost_13 ?_
  refine R_callS_e (T := mL_cost) (T' := mL_many) (As := [_]) okL_many mlL_75 rfl (ct_many q1) rfl (by decide) (by decide) (Nat.le_of_ble_eq_true rfl) dL_cost_14 ?_
  refine R_imul dL_cost_17 ?_
  rw [show (2 : Int32) * nI (bcn g 12) = nI (2 * bcn g 12) from pk_mul 2 _]
  refine R_iadd dL_cost_18 ?_
  rw [nI_add]
  refine R_iconst (v := 2) dL_cost_19 (by decide) ?_
  refine R_isub dL_cost_20 ?_
  rw [show nI (8 + 3 * ((s + 19) / 20) + 2 * bcn g 12) - 2 = nI (wgt s (bcn g 12)) from by
    rw [show nI (8 + 3 * ((s + 19) / 20) + 2 * bcn g 12) - 2 = nI (8 + 3 * ((s + 19) / 20) + 2 * bcn g 12 - 2) from pk_sub (b := 2) (by omega)]
    unfold wgt
    congr 1
    omega]
  generalize hwe : wgt s (bcn g 12) = W at *
  refine R_istore_4 rfl (by decide) dL_cost_21 ?_
  refine R_iload_4 dL_cost_23 ?_
  refine R_bipush (v := 20) dL_cost_25 (by decide) ?_
  refine R_icmp_le 41 dL_cost_27 (by decide) (fun c27 => ?_) (fun c27 => ?_)
  · refine R_iconst (v := 0) dL_cost_41 (by decide) ?_
    first
      | (rw [show tens W = (W - 11) / 10 from by unfold tens; rw [if_neg hw20]; congr 1; omega]
         exact co_tail hh aa hb hst)
      | (rw [show tens W = 0 from if_pos ((nI_leI (a := W) (b := 20) (by omega) (by decide)).1 c27)]
         exact co_tail (t := 0) hh aa hb hst)
  · have hw20 : ¬ W ≤ 20 := fun q => c27 (nI_le (a := W) (b := 20) q (by decide))
    refine R_iload_4 dL_cost_30 ?_
    refine R_bipush (v := 11) dL_cost_32 (by decide) ?_
    refine R_isub dL_cost_34 ?_
    rw [show nI W - 11 = nI (W - 11) from pk_sub (b := 11) (by omega)]
    refine R_bipush (v := 10) dL_cost_35 (by decide) ?_
    refine R_idiv dL_cost_37 (by decide) ?_
    rw [show nI (W - 11) / 10 = nI ((W - 11) / 10) from dv10 (by omega)]
    refine R_goto 42 dL_cost_38 (by decide) ?_
    first
      | (rw [show tens W = (W - 11) / 10 from by unfold tens; rw [if_neg hw20]; congr 1; omega]
         exact co_tail hh aa hb hst)
      | (rw [show tens W = 0 from if_pos ((nI_leI (a := W) (b := 20) (by omega) (by decide)).1 c27)]
         exact co_tail (t := 0) hh aa hb hst)

end SAY3
