/-! ===== the law: all, some, text ===== -/
section SAY2
variable {ent : Nat → EntN} {cnt : Nat} {mt po : Nat → Nat} {b st pa nr : Nat} {rt rr : Nat → Nat} {pd : Nat → Bool} {kn : Nat → Nat} {kl : Nat → Nat → KL} {i l g j : Nat} {x : List Int32 × Nat × Int32}
theorem PF.q {x y z : List Int32} {k k' : Nat} (h : PF x k (y ++ z)) (e : k' = k + y.length) : PF x k' z := e ▸ h.r
theorem SY.k {V : aV} {k k' : Nat} (h : SY V k j ent cnt mt po b st pa nr rt rr pd kn kl) (e : k = k') : SY V k' j ent cnt mt po b st pa nr rt rr pd kn kl := e ▸ h
theorem cs_t {V : aV} {k v : Nat} (h : SY V k j ent cnt mt po b st pa nr rt rr pd kn kl) (o : OL lT lTo ent cnt mt po b st nr rt rr pd i l g x) (hj : j < 1000) (hv : v < 1000) (hx : PF x.1 k (tl v)) : CT mL_tells 11 9 54 [.ref 0, .int (nI i), .int (nI l), .ref 509, .int (nI v)] Sh V (TP V (k + (tl v).length) j ent cnt mt po b st pa nr rt rr pd kn kl) aNo := ct_tells h o hj hv hx
/-- what a group's text is made of -/
theorem allW_eq {n a : Nat} (h : HH ent n g a) : allW (fW ent g) = (gW ent g 12).1 0 ++ ([58] ++ ([nI (97 + a)] ++ ([58] ++ (tl (ent a).2.2.1 ++ ([58] ++ (tl (ent a).2.2.2.1 ++ ([58] ++ (tl ((gW ent g 12).2 4) ++ ([58] ++ tl (bcn g 12)))))))))) := by
  obtain ⟨w0, w1, w2, w3, w4, w5⟩ := h.w
  unfold allW
  rw [w0, w1, w2, w3, w4, w5]
  simp only [List.append_assoc]
set_option maxHeartbeats 4000000 in
theorem al_mem {V : aV} {K a u mc ms kc ks : Nat} {c d : Nat} {z : Option Value} {Q : Option Value → aS → aV → Prop} {QX : String → aS → aV → Prop} (h : SY V K j ent cnt mt po b st pa nr rt rr pd kn kl) (o : OL lT lTo ent cnt mt po b st nr rt rr pd i l g x) (hj : j < 1000) (hu : u < 12) (hx : PF x.1 K ([nI c] ++ [nI d])) (e0 : V 505 (5 * u) = .int (nI c)) (e1 : V 505 (5 * u + 1) = .int (nI d)) (ht : ∀ V', SY V' (K + 1 + 1) j ent cnt mt po b st pa nr rt rr pd kn kl → FrQ V V' → R mL_all 12 mc ms Q QX kc ks 138 [some (.ref 0), some (.ref 505), some (.int (nI i)), some (.int (nI l)), some (.ref 509), some (.int (nI g)), some (.int 1), some (.int (nI a)), some (.int (nI u))] [] Sh V') : R mL_all 12 mc ms Q QX (kc + 3 + 3) (ks + 18 + 18) 88 [some (.ref 0), some (.ref 505), some (.int (nI i)), some (.int (nI l)), some (.ref 509), some (.int (nI g)), z, some (.int (nI a)), some (.int (nI u))] [.int 1] Sh V := by
  refine R_istore_6 rfl (by decide) dL_all_88 ?_
  refine R_iload_6 dL_all_90 ?_
  refine R_if_eq 135 dL_all_92 (by decide) (fun c92 => absurd c92 (by decide)) (fun c92 => ?_)
  refine R_aload_0 dL_all_95 ?_
  refine R_iload_2 dL_all_96 ?_
  refine R_iload_3 dL_all_97 ?_
  refine R_aload_4 dL_all_98 ?_
  refine R_aload_1 dL_all_100 ?_
  refine R_iconst (v := 5) dL_all_101 (by decide) ?_
  refine R_iload_8 dL_all_102 ?_
  refine R_imul dL_all_104 ?_
  rw [i5]
  refine R_iald dL_all_105 sh_505 (vp_in_nI (by omega) (by decide)) (nI_clamp (by omega)) e0 ?_
  refine R_callS (T := mL_all) (T' := mL_says) (As := [_, _, _, _, _]) okL_says mlL_61 rfl (cs_1 h o hj hx.l) rfl (by decide) (by decide) (Nat.le_of_ble_eq_true rfl) dL_all_106 (fun v9 S9 V9 h9 => ?_) (fun E S9 V9 h9 => h9.elim)
  obtain ⟨rfl, rfl, h1, g1⟩ := h9
  refine R_if_eq 135 dL_all_109 (by decide) (fun c109 => absurd c109 (by decide)) (fun c109 => ?_)
  refine R_aload_0 dL_all_112 ?_
  refine R_iload_2 dL_all_113 ?_
  refine R_iload_3 dL_all_114 ?_
  refine R_aload_4 dL_all_115 ?_
  refine R_aload_1 dL_all_117 ?_
  refine R_iconst (v := 5) dL_all_118 (by decide) ?_
  refine R_iload_8 dL_all_119 ?_
  refine R_imul dL_all_121 ?_
  rw [i5]
  refine R_iconst (v := 1) dL_all_122 (by decide) ?_
  refine R_iadd dL_all_123 ?_
  rw [nI_1]
  refine R_iald dL_all_124 sh_505 (vp_in_nI (by omega) (by decide)) (nI_clamp (by omega)) ((congrFun (g1 505 (by decide) (by decide)) _).trans e1) ?_
  refine R_callS (T := mL_all) (T' := mL_says) (As := [_, _, _, _, _]) okL_says mlL_61 rfl (cs_1 h1 o hj hx.r) rfl (by decide) (by decide) (Nat.le_of_ble_eq_true rfl) dL_all_125 (fun v9 S9 V9 h9 => ?_) (fun E S9 V9 h9 => h9.elim)
  obtain ⟨rfl, rfl, h2, g2⟩ := h9
  refine R_if_eq 135 dL_all_128 (by decide) (fun c128 => absurd c128 (by decide)) (fun c128 => ?_)
  refine R_iconst (v := 1) dL_all_131 (by decide) ?_
  refine R_goto 136 dL_all_132 (by decide) ?_
  refine R_istore_6 rfl (by decide) dL_all_136 ?_
  exact ht _ h2 (g1.trans g2)
set_option maxHeartbeats 4000000 in
theorem al_loop {V0 : aV} {p0 a mc ms kc ks : Nat} {Q : Option Value → aS → aV → Prop} {QX : String → aS → aV → Prop} (hh : HH ent cnt g a) (aa : AA V0 cnt ent) (o : OL lT lTo ent cnt mt po b st nr rt rr pd i l g x) (hj : j < 1000) (hx : PF x.1 p0 ((gW ent g 12).1 0)) (ht : ∀ V', SY V' (p0 + ((gW ent g 12).1 0).length) j ent cnt mt po b st pa nr rt rr pd kn kl → FrQ V0 V' → R mL_all 12 mc ms Q QX kc ks 144 [some (.ref 0), some (.ref 505), some (.int (nI i)), some (.int (nI l)), some (.ref 509), some (.int (nI g)), some (.int 1), some (.int (nI a)), none] [] Sh V') : ∀ (m u : Nat) (V : aV), u + m = 12 → a ≤ u → SY V (p0 + ((gW ent g u).1 0).length) j ent cnt mt po b st pa nr rt rr pd kn kl → FrQ V0 V → R mL_all 12 mc ms Q QX (kc + 15 * m) (ks + 90 * m) 14 [some (.ref 0), some (.ref 505), some (.int (nI i)), some (.int (nI l)), some (.ref 509), some (.int (nI g)), some (.int 1), some (.int (nI a)), some (.int (nI u))] [] Sh V := by
  obtain ⟨q1, q2, q3, q4, q5, q6, q7, q8⟩ := id hh
  intro m
  induction m with
  | zero =>
    intro u V hu hau h f
    have e : u = 12 := by omega
    subst e
    refine R_iload_8 dL_all_14 ?_
    refine R_bipush (v := 12) dL_all_16 (by decide) ?_
    refine R_icmp_ge 144 dL_all_18 (by decide) (fun c18 => ?_) (fun c18 => absurd (by decide) c18)
    refine R_drop_8 ?_
    exact R_less (by omega) (by omega) (ht V h f)
  | succ m ih =>
    intro u V hu hau h f
    refine R_less (kc' := kc + 15 * m + 3 + 3 + 3 + 3 + 3) (ks' := ks + 90 * m + 18 + 18 + 18 + 18 + 18) (by omega) (by omega) ?_
    have pn := nm_12 (ent := ent) (g := g) (j := u) (by omega) hx
    have ls := gW_0 ent g u
    have nx : ∀ V' K, SY V' K j ent cnt mt po b st pa nr rt rr pd kn kl → FrQ V0 V' → K = p0 + ((gW ent g u).1 0).length + (nmP ent g u).length → SY V' (p0 + ((gW ent g (u + 1)).1 0).length) j ent cnt mt po b st pa nr rt rr pd kn kl := fun V' K hK _ e => hK.k (by rw [ls, List.length_append]; omega)
    unfold nmP at pn nx
    refine R_iload_8 dL_all_14 ?_
    refine R_bipush (v := 12) dL_all_16 (by decide) ?_
    refine R_icmp_ge 144 dL_all_18 (by decide) (fun c18 => absurd c18 (nI_ge (a := u) (b := 12) (by omega) (by omega))) (fun c18 => ?_)
    refine R_iload_6 dL_all_21 ?_
    refine R_if_eq 144 dL_all_23 (by decide) (fun c23 => absurd c23 (by decide)) (fun c23 => ?_)
    refine R_iload_5 dL_all_26 ?_
    refine R_iload_8 dL_all_28 ?_
    refine R_ishr dL_all_30 ?_
    refine R_iconst (v := 1) dL_all_31 (by decide) ?_
    refine R_iand dL_all_32 ?_
    rw [mb_sh (by omega) (by omega)]
    refine R_iconst (v := 1) dL_all_33 (by decide) ?_
    refine R_icmp_ne 138 dL_all_34 (by decide) (fun c34 => ?_) (fun c34 => ?_)
    · have hb : ¬ g.testBit u = true := bI_n1 c34
      rw [if_neg hb] at nx
      refine R_iinc_8 rfl (by decide) dL_all_138 rfl ?_
      rw [show nI u + Int32.ofInt 1 = nI (u + 1) from nI_1 u]
      refine R_goto 14 dL_all_141 (by decide) ?_
      exact R_less (by omega) (by omega) (ih (u + 1) V (by omega) (by omega) (nx V _ h f rfl) f)
    · have hb : g.testBit u = true := bI_1 c34
      obtain ⟨c, d, n1, -, a0, a1, -⟩ := aa u (q6 u hb)
      rw [if_pos hb] at pn nx
      refine R_iload_8 dL_all_37 ?_
      refine R_iload_7 dL_all_39 ?_
      refine R_icmp_eq 83 dL_all_41 (by decide) (fun c41 => ?_) (fun c41 => ?_)
      · refine R_iconst (v := 1) dL_all_83 (by decide) ?_
        refine R_goto 88 dL_all_84 (by decide) ?_
        first
          | (have eu : u = a := (nI_eq (by omega) (by omega)).1 c41
             subst eu
             have hbc : bcn g u = 0 := (gW_low (ent := ent) q4 q5 0).2.2.2.2
             rw [if_pos hbc, n1] at pn nx
             refine R_less (kc' := kc + 15 * m + 3 + 3) (ks' := ks + 90 * m + 18 + 18) (by omega) (by omega) ?_
             refine al_mem h o hj (by omega) pn ((congrFun (f 505 (by decide) (by decide)) _).trans a0) ((congrFun (f 505 (by decide) (by decide)) _).trans a1) (fun V' h' f' => ?_)
             refine R_iinc_8 rfl (by decide) dL_all_138 rfl ?_
             rw [show nI u + Int32.ofInt 1 = nI (u + 1) from nI_1 u]
             refine R_goto 14 dL_all_141 (by decide) ?_
             exact ih (u + 1) V' (by omega) (by omega) (nx V' _ h' (f.trans f') rfl) (f.trans f'))
          | (have f3 := f.trans (g1.trans (g2.trans g3))
             refine al_mem h3 o hj (by omega) (PF.r (y := [32]) (PF.r (y := [38]) (PF.r (y := [32]) pn))) ((congrFun (f3 505 (by decide) (by decide)) _).trans a0) ((congrFun (f3 505 (by decide) (by decide)) _).trans a1) (fun V' h' f' => ?_)
             refine R_iinc_8 rfl (by decide) dL_all_138 rfl ?_
             rw [show nI u + Int32.ofInt 1 = nI (u + 1) from nI_1 u]
             refine R_goto 14 dL_all_141 (by decide) ?_
             exact ih (u + 1) V' (by omega) (by omega) (nx V' _ h' (f3.trans f') rfl) (f3.trans f'))
      · have hne : ¬ u = a := fun z => c41 (by rw [z])
        have hbc : ¬ bcn g u = 0 := by have := bcn_pos q4 u (by omega); omega
        rw [if_neg hbc, n1] at pn nx
        refine R_aload_0 dL_all_44 ?_
        refine R_iload_2 dL_all_45 ?_
        refine R_iload_3 dL_all_46 ?_
        refine R_aload_4 dL_all_47 ?_
        refine R_bipush (v := 32) dL_all_49 (by decide) ?_
        refine R_callS (T := mL_all) (T' := mL_says) (As := [_, _, _, _, _]) okL_says mlL_61 rfl (cs_1 h o hj (c := 32) (PF.l (z := [38, 32] ++ ([nI c] ++ [nI d])) pn)) rfl (by decide) (by decide) (Nat.le_of_ble_eq_true rfl) dL_all_51 (fun v9 S9 V9 h9 => ?_) (fun E S9 V9 h9 => h9.elim)
        obtain ⟨rfl, rfl, h1, g1⟩ := h9
        refine R_if_eq 87 dL_all_54 (by decide) (fun c54 => absurd c54 (by decide)) (fun c54 => ?_)
        refine R_aload_0 dL_all_57 ?_
        refine R_iload_2 dL_all_58 ?_
        refine R_iload_3 dL_all_59 ?_
        refine R_aload_4 dL_all_60 ?_
        refine R_bipush (v := 38) dL_all_62 (by decide) ?_
        refine R_callS (T := mL_all) (T' := mL_says) (As := [_, _, _, _, _]) okL_says mlL_61 rfl (cs_1 h1 o hj (c := 38) (PF.l (z := [32] ++ ([nI c] ++ [nI d])) (PF.r (y := [32]) pn))) rfl (by decide) (by decide) (Nat.le_of_ble_eq_true rfl) dL_all_64 (fun v9 S9 V9 h9 => ?_) (fun E S9 V9 h9 => h9.elim)
        obtain ⟨rfl, rfl, h2, g2⟩ := h9
        refine R_if_eq 87 dL_all_67 (by decide) (fun c67 => absurd c67 (by decide)) (fun c67 => ?_)
        refine R_aload_0 dL_all_70 ?_
        refine R_iload_2 dL_all_71 ?_
        refine R_iload_3 dL_all_72 ?_
        refine R_aload_4 dL_all_73 ?_
        refine R_bipush (v := 32) dL_all_75 (by decide) ?_
        refine R_callS (T := mL_all) (T' := mL_says) (As := [_, _, _, _, _]) okL_says mlL_61 rfl (cs_1 h2 o hj (c := 32) (PF.l (z := [nI c] ++ [nI d]) (PF.r (y := [38]) (PF.r (y := [32]) pn)))) rfl (by decide) (by decide) (Nat.le_of_ble_eq_true rfl) dL_all_77 (fun v9 S9 V9 h9 => ?_) (fun E S9 V9 h9 => h9.elim)
        obtain ⟨rfl, rfl, h3, g3⟩ := h9
        refine R_if_eq 87 dL_all_80 (by decide) (fun c80 => absurd c80 (by decide)) (fun c80 => ?_)
        refine R_iconst (v := 1) dL_all_83 (by decide) ?_
        refine R_goto 88 dL_all_84 (by decide) ?_
        first
          | (have eu : u = a := (nI_eq (by omega) (by omega)).1 c41
             subst eu
             have hbc : bcn g u = 0 := (gW_low (ent := ent) q4 q5 0).2.2.2.2
             rw [if_pos hbc, n1] at pn nx
             refine R_less (kc' := kc + 15 * m + 3 + 3) (ks' := ks + 90 * m + 18 + 18) (by omega) (by omega) ?_
             refine al_mem h o hj (by omega) pn ((congrFun (f 505 (by decide) (by decide)) _).trans a0) ((congrFun (f 505 (by decide) (by decide)) _).trans a1) (fun V' h' f' => ?_)
             refine R_iinc_8 rfl (by decide) dL_all_138 rfl ?_
             rw [show nI u + Int32.ofInt 1 = nI (u + 1) from nI_1 u]
             refine R_goto 14 dL_all_141 (by decide) ?_
             exact ih (u + 1) V' (by omega) (by omega) (nx V' _ h' (f.trans f') rfl) (f.trans f'))
          | (have f3 := f.trans (g1.trans (g2.trans g3))
             refine al_mem h3 o hj (by omega) (PF.r (y := [32]) (PF.r (y := [38]) (PF.r (y := [32]) pn))) ((congrFun (f3 505 (by decide) (by decide)) _).trans a0) ((congrFun (f3 505 (by decide) (by decide)) _).trans a1) (fun V' h' f' => ?_)
             refine R_iinc_8 rfl (by decide) dL_all_138 rfl ?_
             rw [show nI u + Int32.ofInt 1 = nI (u + 1) from nI_1 u]
             refine R_goto 14 dL_all_141 (by decide) ?_
             exact ih (u + 1) V' (by omega) (by omega) (nx V' _ h' (f3.trans f') rfl) (f3.trans f'))
set_option maxHeartbeats 4000000 in
theorem al_tail {V0 V : aV} {K ke a mc ms : Nat} (hh : HH ent cnt g a) (aa : AA V0 cnt ent) (o : OL lT lTo ent cnt mt po b st nr rt rr pd i l g x) (hj : j < 1000) (h : SY V K j ent cnt mt po b st pa nr rt rr pd kn kl) (f : FrQ V0 V) (hx : PF x.1 K ([58] ++ ([nI (97 + a)] ++ ([58] ++ (tl (ent a).2.2.1 ++ ([58] ++ (tl (ent a).2.2.2.1 ++ ([58] ++ (tl ((gW ent g 12).2 4) ++ ([58] ++ tl (bcn g 12))))))))))) (he : ke = K + 1 + 1 + 1 + (tl (ent a).2.2.1).length + 1 + (tl (ent a).2.2.2.1).length + 1 + (tl ((gW ent g 12).2 4)).length + 1 + (tl (bcn g 12)).length) : R mL_all 12 mc ms (TP V0 ke j ent cnt mt po b st pa nr rt rr pd kn kl) aNo 54 324 144 [some (.ref 0), some (.ref 505), some (.int (nI i)), some (.int (nI l)), some (.ref 509), some (.int (nI g)), some (.int 1), some (.int (nI a)), none] [] Sh V := by
  subst he
  obtain ⟨q1, q2, q3, q4, q5, q6, q7, q8⟩ := id hh
  obtain ⟨-, -, -, -, v1000⟩ := hh.v
  have bc := hh.bc
  obtain ⟨c, d, -, -, -, -, a2, a3, -⟩ := aa a q2
  have e8 := q8 a (by omega)
  have p1 := hx.q (k' := K + 1) rfl
  have p2 := p1.q (k' := K + 1 + 1) rfl
  have p3 := p2.q (k' := K + 1 + 1 + 1) rfl
  have p4 := p3.q (k' := K + 1 + 1 + 1 + (tl (ent a).2.2.1).length) rfl
  have p5 := p4.q (k' := K + 1 + 1 + 1 + (tl (ent a).2.2.1).length + 1) rfl
  have p6 := p5.q (k' := K + 1 + 1 + 1 + (tl (ent a).2.2.1).length + 1 + (tl (ent a).2.2.2.1).length) rfl
  have p7 := p6.q (k' := K + 1 + 1 + 1 + (tl (ent a).2.2.1).length + 1 + (tl (ent a).2.2.2.1).length + 1) rfl
  have p8 := p7.q (k' := K + 1 + 1 + 1 + (tl (ent a).2.2.1).length + 1 + (tl (ent a).2.2.2.1).length + 1 + (tl ((gW ent g 12).2 4)).length) rfl
  have p9 := p8.q (k' := K + 1 + 1 + 1 + (tl (ent a).2.2.1).length + 1 + (tl (ent a).2.2.2.1).length + 1 + (tl ((gW ent g 12).2 4)).length + 1) rfl

  refine R_iload_6 dL_all_144 ?_
  refine R_if_eq 214 dL_all_146 (by decide) (fun c146 => absurd c146 (by decide)) (fun c146 => ?_)
  refine R_aload_0 dL_all_149 ?_
  refine R_iload_2 dL_all_150 ?_
  refine R_iload_3 dL_all_151 ?_
  refine R_aload_4 dL_all_152 ?_
  refine R_bipush (v := 58) dL_all_154 (by decide) ?_
  refine R_callS (T := mL_all) (T' := mL_says) (As := [_, _, _, _, _]) okL_says mlL_61 rfl (cs_1 h o hj hx.l) rfl (by decide) (by decide) (Nat.le_of_ble_eq_true rfl) dL_all_156 (fun v9 S9 V9 h9 => ?_) (fun E S9 V9 h9 => h9.elim)
  obtain ⟨rfl, rfl, h1, g1⟩ := h9
  refine R_if_eq 214 dL_all_159 (by decide) (fun c159 => absurd c159 (by decide)) (fun c159 => ?_)
  refine R_aload_0 dL_all_162 ?_
  refine R_iload_2 dL_all_163 ?_
  refine R_iload_3 dL_all_164 ?_
  refine R_aload_4 dL_all_165 ?_
  refine R_bipush (v := 97) dL_all_167 (by decide) ?_
  refine R_iload_7 dL_all_169 ?_
  refine R_iadd dL_all_171 ?_
  rw [show (97 : Int32) + nI a = nI (97 + a) from nI_add 97 a]
  refine R_callS (T := mL_all) (T' := mL_says) (As := [_, _, _, _, _]) okL_says mlL_61 rfl (cs_1 h1 o hj p1.l) rfl (by decide) (by decide) (Nat.le_of_ble_eq_true rfl) dL_all_172 (fun v9 S9 V9 h9 => ?_) (fun E S9 V9 h9 => h9.elim)
  obtain ⟨rfl, rfl, h2, g2⟩ := h9
  refine R_if_eq 214 dL_all_175 (by decide) (fun c175 => absurd c175 (by decide)) (fun c175 => ?_)
  refine R_aload_0 dL_all_178 ?_
  refine R_iload_2 dL_all_179 ?_
  refine R_iload_3 dL_all_180 ?_
  refine R_aload_4 dL_all_181 ?_
  refine R_bipush (v := 58) dL_all_183 (by decide) ?_
  refine R_callS (T := mL_all) (T' := mL_says) (As := [_, _, _, _, _]) okL_says mlL_61 rfl (cs_1 h2 o hj p2.l) rfl (by decide) (by decide) (Nat.le_of_ble_eq_true rfl) dL_all_185 (fun v9 S9 V9 h9 => ?_) (fun E S9 V9 h9 => h9.elim)
  obtain ⟨rfl, rfl, h3, g3⟩ := h9
  refine R_if_eq 214 dL_all_188 (by decide) (fun c188 => absurd c188 (by decide)) (fun c188 => ?_)
  refine R_aload_0 dL_all_191 ?_
  refine R_iload_2 dL_all_192 ?_
  refine R_iload_3 dL_all_193 ?_
  refine R_aload_4 dL_all_194 ?_
  refine R_aload_1 dL_all_196 ?_
  refine R_iconst (v := 5) dL_all_197 (by decide) ?_
  refine R_iload_7 dL_all_198 ?_
  refine R_imul dL_all_200 ?_
  refine R_iconst (v := 2) dL_all_201 (by decide) ?_
  refine R_iadd dL_all_202 ?_
  rw [show (5 : Int32) * nI a + 2 = nI (5 * a + 2) from ia a 2]
  refine R_iald dL_all_203 sh_505 (vp_in_nI (by omega) (by decide)) (nI_clamp (by omega)) ((congrFun ((f.trans (g1.trans (g2.trans g3))) 505 (by decide) (by decide)) _).trans a2) ?_
  refine R_callS (T := mL_all) (T' := mL_tells) (As := [_, _, _, _, _]) okL_tells mlL_68 rfl (cs_t h3 o hj (by have := e8.2.1; omega) p3.l) rfl (by decide) (by decide) (Nat.le_of_ble_eq_true rfl) dL_all_204 (fun v9 S9 V9 h9 => ?_) (fun E S9 V9 h9 => h9.elim)
  obtain ⟨rfl, rfl, h4, g4⟩ := h9
  refine R_if_eq 214 dL_all_207 (by decide) (fun c207 => absurd c207 (by decide)) (fun c207 => ?_)
  refine R_iconst (v := 1) dL_all_210 (by decide) ?_
  refine R_goto 215 dL_all_211 (by decide) ?_
  refine R_istore_6 rfl (by decide) dL_all_215 ?_
  refine R_iload_6 dL_all_217 ?_
  refine R_if_eq 288 dL_all_219 (by decide) (fun c219 => absurd c219 (by decide)) (fun c219 => ?_)
  refine R_aload_0 dL_all_222 ?_
  refine R_iload_2 dL_all_223 ?_
  refine R_iload_3 dL_all_224 ?_
  refine R_aload_4 dL_all_225 ?_
  refine R_bipush (v := 58) dL_all_227 (by decide) ?_
  refine R_callS (T := mL_all) (T' := mL_says) (As := [_, _, _, _, _]) okL_says mlL_61 rfl (cs_1 h4 o hj p4.l) rfl (by decide) (by decide) (Nat.le_of_ble_eq_true rfl) dL_all_229 (fun v9 S9 V9 h9 => ?_) (fun E S9 V9 h9 => h9.elim)
  obtain ⟨rfl, rfl, h5, g5⟩ := h9
  refine R_if_eq 288 dL_all_232 (by decide) (fun c232 => absurd c232 (by decide)) (fun c232 => ?_)
  refine R_aload_0 dL_all_235 ?_
  refine R_iload_2 dL_all_236 ?_
  refine R_iload_3 dL_all_237 ?_
  refine R_aload_4 dL_all_238 ?_
  refine R_aload_1 dL_all_240 ?_
  refine R_iconst (v := 5) dL_all_241 (by decide) ?_
  refine R_iload_7 dL_all_242 ?_
  refine R_imul dL_all_244 ?_
  refine R_iconst (v := 3) dL_all_245 (by decide) ?_
  refine R_iadd dL_all_246 ?_
  rw [show (5 : Int32) * nI a + 3 = nI (5 * a + 3) from ia a 3]
  refine R_iald dL_all_247 sh_505 (vp_in_nI (by omega) (by decide)) (nI_clamp (by omega)) ((congrFun ((f.trans (g1.trans (g2.trans (g3.trans (g4.trans g5))))) 505 (by decide) (by decide)) _).trans a3) ?_
  refine R_callS (T := mL_all) (T' := mL_tells) (As := [_, _, _, _, _]) okL_tells mlL_68 rfl (cs_t h5 o hj (by have := e8.2.2.1; omega) p5.l) rfl (by decide) (by decide) (Nat.le_of_ble_eq_true rfl) dL_all_248 (fun v9 S9 V9 h9 => ?_) (fun E S9 V9 h9 => h9.elim)
  obtain ⟨rfl, rfl, h6, g6⟩ := h9
  refine R_if_eq 288 dL_all_251 (by decide) (fun c251 => absurd c251 (by decide)) (fun c251 => ?_)
  refine R_aload_0 dL_all_254 ?_
  refine R_iload_2 dL_all_255 ?_
  refine R_iload_3 dL_all_256 ?_
  refine R_aload_4 dL_all_257 ?_
  refine R_bipush (v := 58) dL_all_259 (by decide) ?_
  refine R_callS (T := mL_all) (T' := mL_says) (As := [_, _, _, _, _]) okL_says mlL_61 rfl (cs_1 h6 o hj p6.l) rfl (by decide) (by decide) (Nat.le_of_ble_eq_true rfl) dL_all_261 (fun v9 S9 V9 h9 => ?_) (fun E S9 V9 h9 => h9.elim)
  obtain ⟨rfl, rfl, h7, g7⟩ := h9
  refine R_if_eq 288 dL_all_264 (by decide) (fun c264 => absurd c264 (by decide)) (fun c264 => ?_)
  refine R_aload_0 dL_all_267 ?_
  refine R_iload_2 dL_all_268 ?_
  refine R_iload_3 dL_all_269 ?_
  refine R_aload_4 dL_all_270 ?_
  refine R_aload_1 dL_all_272 ?_
  refine R_iload_5 dL_all_273 ?_
  have aa6 := (f.trans (g1.trans (g2.trans (g3.trans (g4.trans (g5.trans (g6.trans g7))))))).aa aa
  refine R_callS_e (T := mL_all) (T' := mL_points) (As := [_, _]) okL_points mlL_71 rfl (ct_points aa6 q1 q6) rfl (by decide) (by decide) (Nat.le_of_ble_eq_true rfl) dL_all_275 ?_
  refine R_callS (T := mL_all) (T' := mL_tells) (As := [_, _, _, _, _]) okL_tells mlL_68 rfl (cs_t h7 o hj v1000 p7.l) rfl (by decide) (by decide) (Nat.le_of_ble_eq_true rfl) dL_all_278 (fun v9 S9 V9 h9 => ?_) (fun E S9 V9 h9 => h9.elim)
  obtain ⟨rfl, rfl, h8, g8⟩ := h9
  refine R_if_eq 288 dL_all_281 (by decide) (fun c281 => absurd c281 (by decide)) (fun c281 => ?_)
  refine R_iconst (v := 1) dL_all_284 (by decide) ?_
  refine R_goto 289 dL_all_285 (by decide) ?_
  refine R_istore_6 rfl (by decide) dL_all_289 ?_
  refine R_iload_6 dL_all_291 ?_
  refine R_if_eq 329 dL_all_293 (by decide) (fun c293 => absurd c293 (by decide)) (fun c293 => ?_)
  refine R_aload_0 dL_all_296 ?_
  refine R_iload_2 dL_all_297 ?_
  refine R_iload_3 dL_all_298 ?_
  refine R_aload_4 dL_all_299 ?_
  refine R_bipush (v := 58) dL_all_301 (by decide) ?_
  refine R_callS (T := mL_all) (T' := mL_says) (As := [_, _, _, _, _]) okL_says mlL_61 rfl (cs_1 h8 o hj p8.l) rfl (by decide) (by decide) (Nat.le_of_ble_eq_true rfl) dL_all_303 (fun v9 S9 V9 h9 => ?_) (fun E S9 V9 h9 => h9.elim)
  obtain ⟨rfl, rfl, h9a, g9⟩ := h9
  refine R_if_eq 329 dL_all_306 (by decide) (fun c306 => absurd c306 (by decide)) (fun c306 => ?_)
  refine R_aload_0 dL_all_309 ?_
  refine R_iload_2 dL_all_310 ?_
  refine R_iload_3 dL_all_311 ?_
  refine R_aload_4 dL_all_312 ?_
  refine R_iload_5 dL_all_314 ?_
  refine R_callS_e (T := mL_all) (T' := mL_many) (As := [_]) okL_many mlL_75 rfl (ct_many q1) rfl (by decide) (by decide) (Nat.le_of_ble_eq_true rfl) dL_all_316 ?_
  refine R_callS (T := mL_all) (T' := mL_tells) (As := [_, _, _, _, _]) okL_tells mlL_68 rfl (cs_t h9a o hj (by omega) p9) rfl (by decide) (by decide) (Nat.le_of_ble_eq_true rfl) dL_all_319 (fun v9 S9 V9 h9 => ?_) (fun E S9 V9 h9 => h9.elim)
  obtain ⟨rfl, rfl, h10, g10⟩ := h9
  refine R_if_eq 329 dL_all_322 (by decide) (fun c322 => absurd c322 (by decide)) (fun c322 => ?_)
  refine R_iconst (v := 1) dL_all_325 (by decide) ?_
  refine R_goto 330 dL_all_326 (by decide) ?_
  refine R_zret rfl (by first | rfl | assumption) dL_all_330 ⟨rfl, rfl, h10, f.trans (g1.trans (g2.trans (g3.trans (g4.trans (g5.trans (g6.trans (g7.trans (g8.trans (g9.trans g10)))))))))⟩
set_option maxHeartbeats 4000000 in
theorem ct_all {V : aV} {p0 a : Nat} (hh : HH ent cnt g a) (aa : AA V cnt ent) (h : SY V p0 j ent cnt mt po b st pa nr rt rr pd kn kl) (o : OL lT lTo ent cnt mt po b st nr rt rr pd i l g x) (hj : j < 1000) (hx : PF x.1 p0 (allW (fW ent g))) : CT mL_all 12 240 1440 [.ref 0, .ref 505, .int (nI i), .int (nI l), .ref 509, .int (nI g)] Sh V (TP V (p0 + (allW (fW ent g)).length) j ent cnt mt po b st pa nr rt rr pd kn kl) aNo := by
  refine CT_of (by decide +kernel) (Nat.le_of_ble_eq_true rfl) ?_
  show R _ _ _ _ _ _ _ _ 0 [some (.ref 0), some (.ref 505), some (.int (nI i)), some (.int (nI l)), some (.ref 509), some (.int (nI g)), none, none, none] [] _ _
  obtain ⟨q1, q2, q3, q4, q5, q6, q7, q8⟩ := id hh
  have ew := allW_eq hh
  rw [ew] at hx
  have gl := gW_low (ent := ent) q4 q5 0
  refine R_iconst (v := 1) dL_all_0 (by decide) ?_
  refine R_istore_6 rfl (by decide) dL_all_1 ?_
  refine R_iload_5 dL_all_3 ?_
  refine R_callS_e (T := mL_all) (T' := mL_first) (As := [_]) okL_first mlL_65 rfl (ct_first q1 (by omega) q4 q5) rfl (by decide) (by decide) (Nat.le_of_ble_eq_true rfl) dL_all_5 ?_
  refine R_istore_7 rfl (by decide) dL_all_8 ?_
  refine R_iload_7 dL_all_10 ?_
  refine R_istore_8 rfl (by decide) dL_all_12 ?_
  refine R_less (kc' := 54 + 15 * 12) (ks' := 324 + 90 * 12) (by decide) (by decide) ?_
  refine R_less (kc' := 54 + 15 * (12 - a)) (ks' := 324 + 90 * (12 - a)) (by omega) (by omega) ?_
  refine al_loop hh aa o hj hx.l (fun V' h' f' => ?_) (12 - a) a V (by omega) (Nat.le_refl _) (h.k (by rw [gl.2.2.2.1]; rfl)) FrQ.refl
  refine al_tail hh aa o hj h' f' hx.r ?_
  rw [ew]
  simp only [List.length_append, List.length_cons, List.length_nil]
  omega

end SAY2
