/-! ===== Household ===== -/
def cp (f : Nat) : Nat := if f = 0 then 177 else if f = 1 then 12 else 4
def HB (V : aV) : Prop := V 11 0 = .ref 12 ∧ V 11 1 = .ref 13 ∧ V 11 2 = .ref 14 ∧ (∀ f, f < 6 → V 12 f = .ref (16 + 2 * f)) ∧ SL Sh V 14 3 [32, 38, 32]
def HD (V : aV) (w : Nat → List Int32) (vl : Nat → Nat) : Prop := ∀ f, f < 6 → SL Sh V (16 + 2 * f) (cp f) (w f) ∧ V 13 f = .int (nI (vl f))
def FrH (V V' : aV) : Prop := ∀ b, b ≠ 13 → (b < 16 ∨ 27 < b) → V' b = V b
theorem FrH.refl {V : aV} : FrH V V := fun _ _ _ => rfl
theorem FrH.trans {V V1 V2 : aV} (h : FrH V V1) (h2 : FrH V1 V2) : FrH V V2 := fun b q1 q2 => (h2 b q1 q2).trans (h b q1 q2)
theorem FrH.f1 {V V' : aV} {f : Nat} (hf : f < 6) (h : Fr1 V V' (16 + 2 * f)) : FrH V V' := fun b q1 q2 => h b (by omega) (by omega)
theorem FrH.up {V : aV} {f : Nat} {v : Value} : FrH V (a_up V 13 f v) := fun b q1 _ => a_up_row q1
theorem HB.fr {V V' : aV} (h : HB V) (e : FrH V V') : HB V' := by
  obtain ⟨h1, h2, h3, h4, h5⟩ := h
  exact ⟨(congrFun (e 11 (by decide) (by decide)) 0).trans h1, (congrFun (e 11 (by decide) (by decide)) 1).trans h2, (congrFun (e 11 (by decide) (by decide)) 2).trans h3, fun f hf => (congrFun (e 12 (by decide) (by decide)) f).trans (h4 f hf), h5.frame (e _ (by decide) (by decide)) (e _ (by decide) (by decide))⟩
theorem HD.setW {V V' : aV} {w : Nat → List Int32} {vl : Nat → Nat} {f : Nat} {L : List Int32} (h : HD V w vl) (hL : SL Sh V' (16 + 2 * f) (cp f) L) (hF : Fr1 V V' (16 + 2 * f)) : HD V' (upN w f L) vl := by
  intro g hg
  obtain ⟨h1, h2⟩ := h g hg
  refine ⟨?_, (congrFun (hF 13 (by omega) (by omega)) g).trans h2⟩
  unfold upN
  by_cases q : g = f
  · subst q; rw [if_pos rfl]; exact hL
  · rw [if_neg q]; exact h1.fr hF (by omega) (by omega) (by omega)
theorem HD.setV {V : aV} {w : Nat → List Int32} {vl : Nat → Nat} {f n : Nat} (h : HD V w vl) : HD (a_up V 13 f (.int (nI n))) w (upN vl f n) := by
  intro g hg
  obtain ⟨h1, h2⟩ := h g hg
  refine ⟨h1.frame (a_up_row (by omega)) (a_up_row (by omega)), ?_⟩
  unfold upN
  by_cases q : g = f
  · subst q; rw [if_pos rfl]; exact a_up_self _ _ _ _
  · rw [if_neg q, a_up_ne (Or.inr q)]; exact h2
theorem upN_s {α : Type} {f : Nat → α} {a : Nat} {x : α} : upN f a x a = x := if_pos rfl
theorem upN_n {α : Type} {f : Nat → α} {a b : Nat} {x : α} (h : b ≠ a) : upN f a x b = f b := if_neg h
abbrev EntN : Type := List Int32 × List Int32 × Nat × Nat × Nat
def encE (x : EntN) : Ent := (x.1, x.2.1, nI x.2.2.1, nI x.2.2.2.1, nI x.2.2.2.2)
def amW (w : Nat → List Int32) (vl : Nat → Nat) (x : EntN) : Nat → List Int32 :=
  if vl 5 = 0 then upN (upN w 1 x.2.1) 0 (w 0 ++ x.1) else upN w 0 (w 0 ++ [32, 38, 32] ++ x.1)
def amV (vl : Nat → Nat) (x : EntN) : Nat → Nat :=
  if vl 5 = 0 then upN (upN (upN (upN vl 2 x.2.2.1) 3 x.2.2.2.1) 4 (vl 4 + x.2.2.2.2)) 5 1 else upN (upN vl 4 (vl 4 + x.2.2.2.2)) 5 (vl 5 + 1)
def HPost (V : aV) (w : Nat → List Int32) (vl : Nat → Nat) : Option Value → aS → aV → Prop := fun v S' V' => none = v ∧ Sh = S' ∧ HD V' w vl ∧ FrH V V'
set_option maxHeartbeats 4000000 in
theorem am_tail {mc ms kc ks : Nat} {V : aV} {a : Nat} {w : Nat → List Int32} {vl : Nat → Nat} {x : EntN} (hB : HB V) (hD : HD V w vl) (hE : AE V a (encE x)) (ha : 27 < a) (hl : (w 0).length + 12 ≤ 177) {Q : Option Value → aS → aV → Prop} {QX : String → aS → aV → Prop} (hQ : ∀ V', HD V' (upN w 0 (w 0 ++ x.1)) (upN (upN vl 4 (vl 4 + x.2.2.2.2)) 5 (vl 5 + 1)) → FrH V V' → Q none Sh V') : R mX3_addMember 2 mc ms Q QX kc ks 58 [some (.ref 11), some (.ref a)] [] Sh V := by
  have hB0 := hB
  obtain ⟨b0, b1, b2, b3, b4⟩ := hB
  obtain ⟨⟨⟨s1, _⟩, ⟨f0, f1, f2, f3⟩, g1, g2, g3, g4⟩, e4, e5, e6⟩ := hE
  have w0 := hD 0 (by decide)
  have hw0 := b3 0 (by decide)
  have hnl := g1.len
  have v4 := (hD 4 (by decide)).2
  have v5 := (hD 5 (by decide)).2
  refine R_aload_0 dX3_addMember_58 ?_
  refine gfX3_11 rfl dX3_addMember_59 sh_11 b0 ?_
  refine R_iconst (v := 0) dX3_addMember_62 (by decide) ?_
  refine R_aald_19 dX3_addMember_63 sh_12 (vp_in_nI (n := 0) (N := 6) (by decide) (by decide)) (nI_clamp (n := 0) (by decide)) hw0 ?_
  refine R_aload_1 dX3_addMember_64 ?_
  refine gfX3_64 rfl dX3_addMember_65 s1 f0 ?_
  refine R_callVN (T := mX3_addMember) (T' := mX9_addAll) (As := [_]) (ci := 9) okX9_addAll mlX3_54 rfl (by decide) w0.1.1 (ct_addAll rfl w0.1 g1 (by omega)) rfl (by decide) (by decide) (Nat.le_of_ble_eq_true rfl) dX3_addMember_68 (fun v9 S9 V1 h9 => ?_) (fun E S9 V9 h9 => h9.elim)
  obtain ⟨rfl, rfl, u3, u4⟩ := h9
  rw [List.take_of_length_le (by show x.1.length ≤ 177 - (w 0).length; have : x.1.length ≤ 12 := hnl; omega)] at u3
  have hD1 := hD.setW (f := 0) u3 u4
  have hF1 : FrH V V1 := FrH.f1 (f := 0) (by decide) u4
  have y1 := (congrFun (hF1 11 (by decide) (by decide)) 1).trans b1
  have y4 := (hD1 4 (by decide)).2
  have y5 := (hD1 5 (by decide)).2
  have y6 := (congrFun (hF1 a (by omega) (by omega)) 6).trans e6
  refine R_aload_0 dX3_addMember_71 ?_
  refine gfX3_17 rfl dX3_addMember_72 sh_11 y1 ?_
  refine R_iconst (v := 4) dX3_addMember_75 (by decide) ?_
  refine R_dup2_11 dX3_addMember_76 rfl rfl ?_
  refine R_iald dX3_addMember_77 sh_13 (vp_in_nI (n := 4) (N := 6) (by decide) (by decide)) (nI_clamp (n := 4) (by decide)) y4 ?_
  refine R_aload_1 dX3_addMember_78 ?_
  refine gfX3_67 rfl dX3_addMember_79 s1 y6 ?_
  refine R_iadd dX3_addMember_82 ?_
  rw [show nI (vl 4) + (encE x).2.2.2.2 = nI (vl 4 + x.2.2.2.2) from nI_add _ _]
  refine R_iast dX3_addMember_83 sh_13 (vp_in_nI (n := 4) (N := 6) (by decide) (by decide)) (nI_clamp (n := 4) (by decide)) ?_
  refine R_aload_0 dX3_addMember_84 ?_
  refine gfX3_17 rfl dX3_addMember_85 sh_11 ((a_up_ne (Or.inl (by decide))).trans y1) ?_
  refine R_iconst (v := 5) dX3_addMember_88 (by decide) ?_
  refine R_dup2_11 dX3_addMember_89 rfl rfl ?_
  refine R_iald dX3_addMember_90 sh_13 (vp_in_nI (n := 5) (N := 6) (by decide) (by decide)) (nI_clamp (n := 5) (by decide)) ((a_up_ne (Or.inr (by decide))).trans y5) ?_
  refine R_iconst (v := 1) dX3_addMember_91 (by decide) ?_
  refine R_iadd dX3_addMember_92 ?_
  rw [show nI (vl 5) + 1 = nI (vl 5 + 1) from nI_1 _]
  refine R_iast dX3_addMember_93 sh_13 (vp_in_nI (n := 5) (N := 6) (by decide) (by decide)) (nI_clamp (n := 5) (by decide)) ?_
  refine R_vret rfl dX3_addMember_94 (hQ _ (hD1.setV.setV) (hF1.trans (FrH.up.trans FrH.up)))
set_option maxHeartbeats 4000000 in
theorem ct_addMember {V : aV} {a : Nat} {w : Nat → List Int32} {vl : Nat → Nat} {x : EntN} (hB : HB V) (hD : HD V w vl) (hE : AE V a (encE x)) (ha : 27 < a) (hl : (w 0).length + 15 ≤ 177) (h1 : vl 5 = 0 → w 1 = []) (h5 : vl 5 < 1000) : CT mX3_addMember 2 0 0 [.ref 11, .ref a] Sh V (HPost V (amW w vl x) (amV vl x)) aNo := by
  refine CT_of (by decide +kernel) (Nat.le_of_ble_eq_true rfl) ?_
  show R _ _ _ _ _ _ _ _ 0 [some (.ref 11), some (.ref a)] [] _ _
  have hB0 := hB
  have hE0 := hE
  obtain ⟨b0, b1, b2, b3, b4⟩ := hB
  obtain ⟨⟨⟨s1, _⟩, ⟨f0, f1, f2, f3⟩, g1, g2, g3, g4⟩, e4, e5, e6⟩ := hE
  have w0 := hD 0 (by decide)
  have w1 := hD 1 (by decide)
  have hw0 := b3 0 (by decide)
  have hw1 := b3 1 (by decide)
  have hnl := g2.len
  have v5 := (hD 5 (by decide)).2
  refine R_aload_0 dX3_addMember_0 ?_
  refine gfX3_17 rfl dX3_addMember_1 sh_11 b1 ?_
  refine R_iconst (v := 5) dX3_addMember_4 (by decide) ?_
  refine R_iald dX3_addMember_5 sh_13 (vp_in_nI (n := 5) (N := 6) (by decide) (by decide)) (nI_clamp (n := 5) (by decide)) v5 ?_
  refine R_if_ne 45 dX3_addMember_6 (by decide) (fun c6 => ?_) (fun c6 => ?_)
  · have hm0 : ¬ vl 5 = 0 := fun q => c6 (by rw [q]; rfl)
    refine R_aload_0 dX3_addMember_45 ?_
    refine gfX3_11 rfl dX3_addMember_46 sh_11 b0 ?_
    refine R_iconst (v := 0) dX3_addMember_49 (by decide) ?_
    refine R_aald_19 dX3_addMember_50 sh_12 (vp_in_nI (n := 0) (N := 6) (by decide) (by decide)) (nI_clamp (n := 0) (by decide)) hw0 ?_
    refine R_aload_0 dX3_addMember_51 ?_
    refine gfX3_24 rfl dX3_addMember_52 sh_11 b2 ?_
    refine R_callVN (T := mX3_addMember) (T' := mX9_addAll) (As := [_]) (ci := 9) okX9_addAll mlX3_54 rfl (by decide) w0.1.1 (ct_addAll rfl w0.1 b4 (by omega)) rfl (by decide) (by decide) (Nat.le_of_ble_eq_true rfl) dX3_addMember_55 (fun v9 S9 V1 h9 => ?_) (fun E S9 V9 h9 => h9.elim)
    obtain ⟨rfl, rfl, u3, u4⟩ := h9
    rw [List.take_of_length_le (by show 3 ≤ 177 - (w 0).length; omega)] at u3
    have hD1 := hD.setW (f := 0) u3 u4
    have hF1 : FrH V V1 := FrH.f1 (f := 0) (by decide) u4
    first
      | (have hF2 := hF1.trans (FrH.up.trans (FrH.up (f := 3) (v := .int (encE x).2.2.2.1)) : FrH V1 (a_up (a_up V1 13 2 (.int (encE x).2.2.1)) 13 3 (.int (encE x).2.2.2.1)))
         exact am_tail (hB0.fr hF2) (hD1.setV.setV) (hE0.fr (fun b q1 q2 => hF2 b (by omega) (by omega))) ha (by rw [upN_n (by decide)]; omega) (fun V9 q1 q2 => ⟨rfl, rfl, by
           rw [upN_n (by decide), upN_n (by decide), upN_n (by decide), upN_n (by decide), upN_n (by decide), hm0] at q1
           unfold amW amV
           rw [if_pos hm0, if_pos hm0]
           exact q1, hF2.trans q2⟩))
      | (exact am_tail (hB0.fr hF1) hD1 (hE0.fr (fun b q1 q2 => hF1 b (by omega) (by omega))) ha (by rw [upN_s, List.length_append]; show (w 0).length + 3 + 12 ≤ 177; omega) (fun V9 q1 q2 => ⟨rfl, rfl, by
           rw [upN_s] at q1
           unfold amW amV
           rw [if_neg hm0, if_neg hm0]
           have e : upN (upN w 0 (w 0 ++ [32, 38, 32])) 0 (w 0 ++ [32, 38, 32] ++ x.1) = upN w 0 (w 0 ++ [32, 38, 32] ++ x.1) := by
             funext j
             by_cases q : j = 0
             · subst q; rw [upN_s, upN_s]
             · rw [upN_n q, upN_n q, upN_n q]
           rw [e] at q1
           exact q1, hF1.trans q2⟩))
  · have hm0 : vl 5 = 0 := bk_z0 (by omega) c6
    refine R_aload_0 dX3_addMember_9 ?_
    refine gfX3_11 rfl dX3_addMember_10 sh_11 b0 ?_
    refine R_iconst (v := 1) dX3_addMember_13 (by decide) ?_
    refine R_aald_19 dX3_addMember_14 sh_12 (vp_in_nI (n := 1) (N := 6) (by decide) (by decide)) (nI_clamp (n := 1) (by decide)) hw1 ?_
    refine R_aload_1 dX3_addMember_15 ?_
    refine gfX3_49 rfl dX3_addMember_16 s1 f1 ?_
    refine R_callVN (T := mX3_addMember) (T' := mX9_addAll) (As := [_]) (ci := 9) okX9_addAll mlX3_54 rfl (by decide) w1.1.1 (ct_addAll rfl w1.1 g2 (by omega)) rfl (by decide) (by decide) (Nat.le_of_ble_eq_true rfl) dX3_addMember_19 (fun v9 S9 V1 h9 => ?_) (fun E S9 V9 h9 => h9.elim)
    obtain ⟨rfl, rfl, u3, u4⟩ := h9
    rw [h1 hm0, List.nil_append, List.take_of_length_le (by show x.2.1.length ≤ 12 - 0; have : x.2.1.length ≤ 12 := hnl; omega)] at u3
    have hD1 := hD.setW (f := 1) u3 u4
    have hF1 : FrH V V1 := FrH.f1 (f := 1) (by decide) u4
    have y1 := (congrFun (hF1 11 (by decide) (by decide)) 1).trans b1
    have y4 := (congrFun (hF1 a (by omega) (by omega)) 4).trans e4
    have y5 := (congrFun (hF1 a (by omega) (by omega)) 5).trans e5
    refine R_aload_0 dX3_addMember_22 ?_
    refine gfX3_17 rfl dX3_addMember_23 sh_11 y1 ?_
    refine R_iconst (v := 2) dX3_addMember_26 (by decide) ?_
    refine R_aload_1 dX3_addMember_27 ?_
    refine gfX3_58 rfl dX3_addMember_28 s1 y4 ?_
    refine R_iast dX3_addMember_31 sh_13 (vp_in_nI (n := 2) (N := 6) (by decide) (by decide)) (nI_clamp (n := 2) (by decide)) ?_
    refine R_aload_0 dX3_addMember_32 ?_
    refine gfX3_17 rfl dX3_addMember_33 sh_11 ((a_up_ne (Or.inl (by decide))).trans y1) ?_
    refine R_iconst (v := 3) dX3_addMember_36 (by decide) ?_
    refine R_aload_1 dX3_addMember_37 ?_
    refine gfX3_61 rfl dX3_addMember_38 s1 ((a_up_ne (Or.inl (by omega))).trans y5) ?_
    refine R_iast dX3_addMember_41 sh_13 (vp_in_nI (n := 3) (N := 6) (by decide) (by decide)) (nI_clamp (n := 3) (by decide)) ?_
    refine R_goto 58 dX3_addMember_42 (by decide) ?_
    first
      | (have hF2 := hF1.trans (FrH.up.trans (FrH.up (f := 3) (v := .int (encE x).2.2.2.1)) : FrH V1 (a_up (a_up V1 13 2 (.int (encE x).2.2.1)) 13 3 (.int (encE x).2.2.2.1)))
         exact am_tail (hB0.fr hF2) (hD1.setV.setV) (hE0.fr (fun b q1 q2 => hF2 b (by omega) (by omega))) ha (by rw [upN_n (by decide)]; omega) (fun V9 q1 q2 => ⟨rfl, rfl, by
           rw [upN_n (by decide), upN_n (by decide), upN_n (by decide), upN_n (by decide), upN_n (by decide), hm0] at q1
           unfold amW amV
           rw [if_pos hm0, if_pos hm0]
           exact q1, hF2.trans q2⟩))
      | (exact am_tail (hB0.fr hF1) hD1 (hE0.fr (fun b q1 q2 => hF1 b (by omega) (by omega))) ha (by rw [upN_s, List.length_append]; show (w 0).length + 3 + 12 ≤ 177; omega) (fun V9 q1 q2 => ⟨rfl, rfl, by
           rw [upN_s] at q1
           unfold amW amV
           rw [if_neg hm0, if_neg hm0]
           have e : upN (upN w 0 (w 0 ++ [32, 38, 32])) 0 (w 0 ++ [32, 38, 32] ++ x.1) = upN w 0 (w 0 ++ [32, 38, 32] ++ x.1) := by
             funext j
             by_cases q : j = 0
             · subst q; rw [upN_s, upN_s]
             · rw [upN_n q, upN_n q, upN_n q]
           rw [e] at q1
           exact q1, hF1.trans q2⟩))

