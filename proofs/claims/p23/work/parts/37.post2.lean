/-! ===== MergePost: compose ===== -/
theorem PC.frH {V V' : aV} (h : PC V) (e : FrH V V') : PC V' := by
  obtain ⟨h1, h2, h3, h4, h5, h6, h7, h8, h9, h10⟩ := h
  have e4 := e 4 (by decide) (by decide)
  have e11 := e 11 (by decide) (by decide)
  exact ⟨(congrFun e4 0).trans h1, (congrFun e4 2).trans h2, (congrFun e4 3).trans h3, (congrFun e4 4).trans h4, (congrFun e4 5).trans h5, (congrFun e4 6).trans h6, (congrFun (e 28 (by decide) (by decide)) 0).trans h7, (congrFun e11 0).trans h8, (congrFun e11 1).trans h9, fun f hf => (congrFun (e 12 (by decide) (by decide)) f).trans (h10 f hf)⟩
theorem PT.frH {V V' : aV} {tl : Nat → Nat} {T : Nat → List Int32} {to : Nat → Bool} {jp : Nat → Nat → Option Nat} (h : PT V tl T to jp) (e : FrH V V') : PT V' tl T to jp := by
  intro n hn
  obtain ⟨h1, h2, h3, h4, h5⟩ := h n hn
  exact ⟨(congrFun (e 5 (by decide) (by decide)) n).trans h1, h2, h3.fr (fun b q1 q2 => e b (by omega) (by omega)), (congrFun (e (tl n) (by omega) (by omega)) 4).trans h4, fun q u hq => (congrFun (e (tl n + 3) (by omega) (by omega)) q).trans (h5 q u hq)⟩
theorem PW.frH {V V' : aV} {s : PS} (h : PW V s) (e : FrH V V') : PW V' s := by
  obtain ⟨h1, h2, h3, h4, h5, h6⟩ := h
  have e4 := e 4 (by decide) (by decide)
  exact ⟨h1.frame (e _ (by decide) (by decide)) (e _ (by decide) (by decide)), (congrFun (e 28 (by decide) (by decide)) 2).trans h2, (congrFun e4 7).trans h3, h4, (congrFun e4 8).trans h5, fun i hi => ⟨(congrFun (e 31 (by decide) (by decide)) i).trans (h6 i hi).1, (congrFun (e 32 (by decide) (by decide)) i).trans (h6 i hi).2.1, (congrFun (e 33 (by decide) (by decide)) i).trans (h6 i hi).2.2⟩⟩
theorem PW.f28 {V : aV} {s : PS} {k : Nat} {v : Value} (h : PW V s) (hk : k ≠ 2) : PW (a_up V 28 k v) s := by
  obtain ⟨h1, h2, h3, h4, h5, h6⟩ := h
  exact ⟨h1.frame (a_up_row (by decide)) (a_up_row (by decide)), (a_up_ne (Or.inr (Ne.symm hk))).trans h2, (a_up_ne (Or.inl (by decide))).trans h3, h4, (a_up_ne (Or.inl (by decide))).trans h5, fun i hi => ⟨(a_up_ne (Or.inl (by decide))).trans (h6 i hi).1, (a_up_ne (Or.inl (by decide))).trans (h6 i hi).2.1, (a_up_ne (Or.inl (by decide))).trans (h6 i hi).2.2⟩⟩
theorem PC.f28 {V : aV} {k : Nat} {v : Value} (h : PC V) (hk : k ≠ 0) : PC (a_up V 28 k v) := by
  obtain ⟨h1, h2, h3, h4, h5, h6, h7, h8, h9, h10⟩ := h
  exact ⟨(a_up_ne (Or.inl (by decide))).trans h1, (a_up_ne (Or.inl (by decide))).trans h2, (a_up_ne (Or.inl (by decide))).trans h3, (a_up_ne (Or.inl (by decide))).trans h4, (a_up_ne (Or.inl (by decide))).trans h5, (a_up_ne (Or.inl (by decide))).trans h6, (a_up_ne (Or.inr (Ne.symm hk))).trans h7, (a_up_ne (Or.inl (by decide))).trans h8, (a_up_ne (Or.inl (by decide))).trans h9, fun f hf => (a_up_ne (Or.inl (by decide))).trans (h10 f hf)⟩
theorem HD.f28 {V : aV} {w : Nat → List Int32} {vl : Nat → Nat} {k : Nat} {v : Value} (h : HD V w vl) : HD (a_up V 28 k v) w vl := fun f hf => ⟨(h f hf).1.frame (a_up_row (by omega)) (a_up_row (by omega)), (a_up_ne (Or.inl (by decide))).trans (h f hf).2⟩
/-- what composing may change -/
def FrC (V V' : aV) : Prop := (∀ b, b ≠ 4 → b ≠ 13 → (b < 16 ∨ 33 < b) → V' b = V b) ∧ (∀ k, k < 7 → V' 4 k = V 4 k) ∧ V' 28 0 = V 28 0
theorem FrC.refl {V : aV} : FrC V V := ⟨fun _ _ _ _ => rfl, fun _ _ => rfl, rfl⟩
theorem FrC.trans {V V1 V2 : aV} (h : FrC V V1) (h2 : FrC V1 V2) : FrC V V2 := ⟨fun b q1 q2 q3 => (h2.1 b q1 q2 q3).trans (h.1 b q1 q2 q3), fun k q => (h2.2.1 k q).trans (h.2.1 k q), h2.2.2.trans h.2.2⟩
theorem FrC.h {V V1 : aV} (e : FrH V V1) : FrC V V1 := ⟨fun b q1 q2 q3 => e b q2 (by omega), fun k _ => congrFun (e 4 (by decide) (by decide)) k, congrFun (e 28 (by decide) (by decide)) 0⟩
theorem FrC.p {V V1 : aV} (e : FrP V V1) : FrC V V1 := ⟨fun b q1 q2 q3 => e.1 b q1 (by omega), fun k hk => e.2.1 k hk, e.2.2 0 (by decide)⟩
theorem FrC.f28 {V : aV} {k : Nat} {v : Value} (hk : k ≠ 0) : FrC V (a_up V 28 k v) := ⟨fun b q1 q2 q3 => a_up_row (by omega), fun j _ => a_up_ne (Or.inl (by decide)), a_up_ne (Or.inr (Ne.symm hk))⟩
def cmS (T : Nat → List Int32) (to : Nat → Bool) (jp : Nat → Nat → Option Nat) (ent : Nat → EntN) (g : Nat) (s : PS) (t : Int32) : PS := pWr T to jp (fW ent g) (fV ent g) s t
def cmW (s1 : PS) (ent : Nat → EntN) (g : Nat) : Nat := wgt s1.1.length (fV ent g 5)
def cmK (b st : Nat) (s1 : PS) (ent : Nat → EntN) (g : Nat) : Int32 := kost b st (cmW s1 ent g) (fV ent g 3)
def cmF (b st : Nat) (s1 : PS) (ent : Nat → EntN) (g : Nat) (t : Int32) : PS := if s1.2.1 = 0 ∧ cmK b st s1 ent g = -1 then pTr (pOp (s1.1, s1.2.1, 0, s1.2.2.2) t) 4 else s1
def CPost (V : aV) (b st : Nat) (s1 : PS) (ent : Nat → EntN) (g : Nat) (t : Int32) : Option Value → aS → aV → Prop := fun v S' V' => some (.ref 28) = v ∧ Sh = S' ∧ PW V' (cmF b st s1 ent g t) ∧ HD V' (fW ent g) (fV ent g) ∧ V' 28 1 = .int (nI g) ∧ (s1.2.1 = 0 → V' 28 3 = .int (nI (cmW s1 ent g)) ∧ V' 28 4 = .int (cmK b st s1 ent g)) ∧ (¬ s1.2.1 = 0 → V' 28 3 = V 28 3 ∧ V' 28 4 = V 28 4) ∧ FrC V V'
set_option maxHeartbeats 4000000 in
theorem ct_compose {V : aV} {tl : Nat → Nat} {T : Nat → List Int32} {to : Nat → Bool} {jp : Nat → Nat → Option Nat} {w : Nat → List Int32} {vl : Nat → Nat} {s : PS} {en : Nat → Nat} {ent : Nat → EntN} {b st g : Nat} {t : Int32} (hM : MB V) (hB : HB V) (hD : HD V w vl) (hR : BR V en ent) (hC : PC V) (hT : PT V tl T to jp) (hP : PW V s) (hb0 : V 198 0 = .int (nI b)) (hb1 : V 198 1 = .int (nI st)) (hb : b < 2 ^ 31) (hst : st < 2 ^ 31) (hg : g < 2 ^ 12) (hm : 1 ≤ fV ent g 5) (hJ : isTo to t → JRun T to jp (fW ent g) (fV ent g) (pOp (ps0 s) t)) : CT mX11_compose 7 0 0 [.ref 0, .int t, .int (nI g)] Sh V (CPost V b st (cmS T to jp ent g s t) ent g t) aNo := by
  refine CT_of (by decide +kernel) (Nat.le_of_ble_eq_true rfl) ?_
  show R _ _ _ _ _ _ _ _ 0 [some (.ref 0), some (.int t), some (.int (nI g)), none] [] _ _
  obtain ⟨m0, m1, m2, m3, m4, m5⟩ := hM
  have hm5 : fV ent g 5 ≤ 12 := by
    have := (gW_ok (g := g) (fun k hk => (hR.2 k hk).2.2.2) 12 (Nat.le_refl _)).2.2.1
    unfold fV; rw [upN_n (by decide), upN_n (by decide)]; exact this
  have hz3 : fV ent g 3 < 6 := by
    have := (gW_ok (g := g) (fun k hk => (hR.2 k hk).2.2.2) 12 (Nat.le_refl _)).2.2.2.2.2.1
    unfold fV; rw [upN_n (by decide), upN_n (by decide)]; exact this
  have k2 := hC.2.1
  refine R_aload_0 dX11_compose_0 ?_
  refine gfX11_19 rfl dX11_compose_1 sh_0 m1 ?_
  refine gfX11_284 rfl dX11_compose_4 sh_4 k2 ?_
  refine R_aload_0 dX11_compose_7 ?_
  refine gfX11_26 rfl dX11_compose_8 sh_0 m2 ?_
  refine R_iload_2 dX11_compose_11 ?_
  refine R_callVN (T := mX11_compose) (T' := mX3_gather) (As := [_, _]) (ci := 3) okX3_gather mlX11_288 rfl (by decide) sh_11 (ct_gather hg hB hD hR) rfl (by decide) (by decide) (Nat.le_of_ble_eq_true rfl) dX11_compose_12 (fun v9 S9 V1 h9 => ?_) (fun E S9 V9 h9 => h9.elim)
  obtain ⟨rfl, rfl, u1, u2⟩ := h9
  have hC1 := hC.frH u2
  have hT1 := hT.frH u2
  have hP1 := hP.frH u2
  have n1 := (congrFun (u2 0 (by decide) (by decide)) 1).trans m1
  refine R_aload_0 dX11_compose_15 ?_
  refine gfX11_19 rfl dX11_compose_16 sh_0 n1 ?_
  refine R_iload_1 dX11_compose_19 ?_
  refine R_callVN (T := mX11_compose) (T' := mX7_write) (As := [_]) (ci := 7) okX7_write mlX11_294 rfl (by decide) sh_4 (ct_write hC1 hT1 hP1 u1 t hJ) rfl (by decide) (by decide) (Nat.le_of_ble_eq_true rfl) dX11_compose_20 (fun v9 S9 V2 h9 => ?_) (fun E S9 V9 h9 => h9.elim)
  obtain ⟨rfl, rfl, u3, u4⟩ := h9
  have hF2 : FrC V V2 := (FrC.h u2).trans (FrC.p u4)
  have hC2 := hC1.fr u4
  have hD2 := u1.frP u4
  have y1 := (congrFun (hF2.1 0 (by decide) (by decide) (by decide)) 1).trans m1
  have y3 := hC2.2.2.1
  change PW V2 (cmS T to jp ent g s t) at u3
  generalize hs1 : cmS T to jp ent g s t = s1 at u3
  have h283 : V2 28 3 = V 28 3 := (u4.2.2 3 (by decide)).trans (congrFun (u2 28 (by decide) (by decide)) 3)
  have h284 : V2 28 4 = V 28 4 := (u4.2.2 4 (by decide)).trans (congrFun (u2 28 (by decide) (by decide)) 4)
  refine R_aload_0 dX11_compose_23 ?_
  refine gfX11_19 rfl dX11_compose_24 sh_0 y1 ?_
  refine gfX11_297 rfl dX11_compose_27 sh_4 y3 ?_
  refine R_astore_3 rfl (by decide) dX11_compose_30 ?_
  refine R_aload_3 dX11_compose_31 ?_
  refine R_iload_2 dX11_compose_32 ?_
  refine pfX11_212 rfl dX11_compose_33 sh_28 ?_
  have yp : PW (a_up V2 28 1 (.int (nI g))) s1 := u3.f28 (by decide)
  have hC3 : PC (a_up V2 28 1 (.int (nI g))) := hC2.f28 (by decide)
  have hF3 : FrC V (a_up V2 28 1 (.int (nI g))) := hF2.trans (FrC.f28 (by decide))
  have hD3 : HD (a_up V2 28 1 (.int (nI g))) (fW ent g) (fV ent g) := hD2.f28
  have z28 : a_up V2 28 1 (.int (nI g)) 28 1 = .int (nI g) := a_up_self _ _ _ _
  have z3 : a_up V2 28 1 (.int (nI g)) 28 3 = V 28 3 := (a_up_ne (Or.inr (by decide))).trans h283
  have z5 : a_up V2 28 1 (.int (nI g)) 28 4 = V 28 4 := (a_up_ne (Or.inr (by decide))).trans h284
  generalize a_up V2 28 1 (.int (nI g)) = V3 at yp hC3 hF3 hD3 z28 z3 z5 ⊢
  refine R_aload_3 dX11_compose_36 ?_
  refine gfX11_217 rfl dX11_compose_37 sh_28 yp.2.1 ?_
  refine R_if_ne 117 dX11_compose_40 (by decide) (fun c40 => ?_) (fun c40 => ?_)
  · refine R_aload_3 dX11_compose_117 ?_
    refine R_aret rfl dX11_compose_118 (by
  first
    | (have ey : cmF b st s1 ent g t = s1 := if_neg (fun z => c40 z.1)
       exact ⟨rfl, rfl, by rw [ey]; exact yp, hD3, z28, fun z => absurd z c40, fun _ => ⟨z3, z5⟩, hF3⟩)
    | (have ey : cmF b st s1 ent g t = s1 := if_neg (fun z => c105 z.2)
       exact ⟨rfl, rfl, by rw [ey]; exact (yp.f28 (by decide)).f28 (by decide), hD3.f28.f28, (a_up_ne (Or.inr (by decide))).trans ((a_up_ne (Or.inr (by decide))).trans z28), fun _ => ⟨(a_up_ne (Or.inr (by decide))).trans (a_up_self _ _ _ _), a_up_self _ _ _ _⟩, fun z => absurd c40 z, (hF3.trans (FrC.f28 (by decide))).trans (FrC.f28 (by decide))⟩)
    | exact ⟨rfl, rfl, by rw [ey]; exact u5, (hD3.f28.f28).frP u6, (u6.2.2 1 (by decide)).trans ((a_up_ne (Or.inr (by decide))).trans ((a_up_ne (Or.inr (by decide))).trans z28)), fun _ => ⟨(u6.2.2 3 (by decide)).trans ((a_up_ne (Or.inr (by decide))).trans (a_up_self _ _ _ _)), (u6.2.2 4 (by decide)).trans (a_up_self _ _ _ _)⟩, fun z => absurd c40 z, ((hF3.trans (FrC.f28 (by decide))).trans (FrC.f28 (by decide))).trans (FrC.p u6)⟩)
  · have z4 := (congrFun (hF3.1 0 (by decide) (by decide) (by decide)) 4).trans m4
    have z1 := (congrFun (hF3.1 0 (by decide) (by decide) (by decide)) 1).trans m1
    have z0 := hC3.2.2.2.2.2.2.1
    have zz2 := hC3.2.1
    have zv := hC3.2.2.2.2.2.2.2.2.1
    have v5 := (hD3 5 (by decide)).2
    have v3 := (hD3 3 (by decide)).2
    have xl := yp.1.len
    have wlt : wgt s1.1.length (fV ent g 5) < 1000 := by unfold wgt; omega
    have w0 : a_up V3 28 3 (.int (nI (wgt s1.1.length (fV ent g 5)))) 198 0 = .int (nI b) := (a_up_ne (Or.inl (by decide))).trans ((congrFun (hF3.1 198 (by decide) (by decide) (by decide)) 0).trans hb0)
    have w1 : a_up V3 28 3 (.int (nI (wgt s1.1.length (fV ent g 5)))) 198 1 = .int (nI st) := (a_up_ne (Or.inl (by decide))).trans ((congrFun (hF3.1 198 (by decide) (by decide) (by decide)) 1).trans hb1)
    refine R_aload_3 dX11_compose_43 ?_
    refine R_aload_0 dX11_compose_44 ?_
    refine gfX11_40 rfl dX11_compose_45 sh_0 z4 ?_
    refine R_aload_3 dX11_compose_48 ?_
    refine gfX11_220 rfl dX11_compose_49 sh_28 z0 ?_
    refine gfX11_66 rfl dX11_compose_52 sh_29 yp.1.len1 ?_
    refine R_aload_0 dX11_compose_55 ?_
    refine gfX11_19 rfl dX11_compose_56 sh_0 z1 ?_
    refine gfX11_284 rfl dX11_compose_59 sh_4 zz2 ?_
    refine gfX11_301 rfl dX11_compose_62 sh_11 zv ?_
    refine R_iconst (v := 5) dX11_compose_65 (by decide) ?_
    refine R_iald dX11_compose_66 sh_13 (vp_in_nI (n := 5) (N := 6) (by decide) (by decide)) (nI_clamp (n := 5) (by decide)) v5 ?_
    refine R_callVN_e (T := mX11_compose) (T' := mX2_weightOf) (As := [_, _]) (ci := 2) okX2_weightOf mlX11_176 rfl (by decide) sh_198 (ct_weightOf (a := 198) (n := s1.1.length) (m := fV ent g 5) (by omega) (by omega) hm) rfl (by decide) (by decide) (Nat.le_of_ble_eq_true rfl) dX11_compose_67 ?_
    refine pfX11_223 rfl dX11_compose_70 sh_28 ?_
    refine R_aload_3 dX11_compose_73 ?_
    refine R_aload_0 dX11_compose_74 ?_
    refine gfX11_40 rfl dX11_compose_75 sh_0 ((a_up_ne (Or.inl (by decide))).trans z4) ?_
    refine R_aload_3 dX11_compose_78 ?_
    refine gfX11_223 rfl dX11_compose_79 sh_28 (a_up_self _ _ _ _) ?_
    refine R_aload_0 dX11_compose_82 ?_
    refine gfX11_19 rfl dX11_compose_83 sh_0 ((a_up_ne (Or.inl (by decide))).trans z1) ?_
    refine gfX11_284 rfl dX11_compose_86 sh_4 ((a_up_ne (Or.inl (by decide))).trans zz2) ?_
    refine gfX11_301 rfl dX11_compose_89 sh_11 ((a_up_ne (Or.inl (by decide))).trans zv) ?_
    refine R_iconst (v := 3) dX11_compose_92 (by decide) ?_
    refine R_iald dX11_compose_93 sh_13 (vp_in_nI (n := 3) (N := 6) (by decide) (by decide)) (nI_clamp (n := 3) (by decide)) ((a_up_ne (Or.inl (by decide))).trans v3) ?_
    refine R_callVN_e (T := mX11_compose) (T' := mX2_costOf) (As := [_, _]) (ci := 2) okX2_costOf mlX11_180 rfl (by decide) sh_198 (ct_costOf (w := wgt s1.1.length (fV ent g 5)) (z := fV ent g 3) sh_198 w0 w1 hb hst wlt hz3) rfl (by decide) (by decide) (Nat.le_of_ble_eq_true rfl) dX11_compose_94 ?_
    refine pfX11_226 rfl dX11_compose_97 sh_28 ?_
    refine R_aload_3 dX11_compose_100 ?_
    refine gfX11_226 rfl dX11_compose_101 sh_28 (a_up_self _ _ _ _) ?_
    refine R_iconst (v := -1) dX11_compose_104 (by decide) ?_
    refine R_icmp_ne 117 dX11_compose_105 (by decide) (fun c105 => ?_) (fun c105 => ?_)
    · refine R_aload_3 dX11_compose_117 ?_
      refine R_aret rfl dX11_compose_118 (by
  first
    | (have ey : cmF b st s1 ent g t = s1 := if_neg (fun z => c40 z.1)
       exact ⟨rfl, rfl, by rw [ey]; exact yp, hD3, z28, fun z => absurd z c40, fun _ => ⟨z3, z5⟩, hF3⟩)
    | (have ey : cmF b st s1 ent g t = s1 := if_neg (fun z => c105 z.2)
       exact ⟨rfl, rfl, by rw [ey]; exact (yp.f28 (by decide)).f28 (by decide), hD3.f28.f28, (a_up_ne (Or.inr (by decide))).trans ((a_up_ne (Or.inr (by decide))).trans z28), fun _ => ⟨(a_up_ne (Or.inr (by decide))).trans (a_up_self _ _ _ _), a_up_self _ _ _ _⟩, fun z => absurd c40 z, (hF3.trans (FrC.f28 (by decide))).trans (FrC.f28 (by decide))⟩)
    | exact ⟨rfl, rfl, by rw [ey]; exact u5, (hD3.f28.f28).frP u6, (u6.2.2 1 (by decide)).trans ((a_up_ne (Or.inr (by decide))).trans ((a_up_ne (Or.inr (by decide))).trans z28)), fun _ => ⟨(u6.2.2 3 (by decide)).trans ((a_up_ne (Or.inr (by decide))).trans (a_up_self _ _ _ _)), (u6.2.2 4 (by decide)).trans (a_up_self _ _ _ _)⟩, fun z => absurd c40 z, ((hF3.trans (FrC.f28 (by decide))).trans (FrC.f28 (by decide))).trans (FrC.p u6)⟩)
    · have ey : cmF b st s1 ent g t = pTr (pOp (s1.1, s1.2.1, 0, s1.2.2.2) t) 4 := if_pos ⟨c40, c105⟩
      have hP3 := (yp.f28 (k := 3) (v := .int (nI (wgt s1.1.length (fV ent g 5)))) (by decide)).f28 (k := 4) (v := .int (kost b st (wgt s1.1.length (fV ent g 5)) (fV ent g 3))) (by decide)
      have hC3 := (hC3.f28 (k := 3) (v := .int (nI (wgt s1.1.length (fV ent g 5)))) (by decide)).f28 (k := 4) (v := .int (kost b st (wgt s1.1.length (fV ent g 5)) (fV ent g 3))) (by decide)
      refine R_aload_0 dX11_compose_108 ?_
      refine gfX11_19 rfl dX11_compose_109 sh_0 ((a_up_ne (Or.inl (by decide))).trans ((a_up_ne (Or.inl (by decide))).trans z1)) ?_
      refine R_iload_1 dX11_compose_112 ?_
      refine R_iconst (v := 4) dX11_compose_113 (by decide) ?_
      refine R_callVN (T := mX11_compose) (T' := mX7_blameWhole) (As := [_, _]) (ci := 7) okX7_blameWhole mlX11_304 rfl (by decide) sh_4 (ct_blameWhole hC3 hP3 t 4) rfl (by decide) (by decide) (Nat.le_of_ble_eq_true rfl) dX11_compose_114 (fun v9 S9 V4 h9 => ?_) (fun E S9 V9 h9 => h9.elim)
      obtain ⟨rfl, rfl, u5, u6⟩ := h9
      refine R_aload_3 dX11_compose_117 ?_
      refine R_aret rfl dX11_compose_118 (by
  first
    | (have ey : cmF b st s1 ent g t = s1 := if_neg (fun z => c40 z.1)
       exact ⟨rfl, rfl, by rw [ey]; exact yp, hD3, z28, fun z => absurd z c40, fun _ => ⟨z3, z5⟩, hF3⟩)
    | (have ey : cmF b st s1 ent g t = s1 := if_neg (fun z => c105 z.2)
       exact ⟨rfl, rfl, by rw [ey]; exact (yp.f28 (by decide)).f28 (by decide), hD3.f28.f28, (a_up_ne (Or.inr (by decide))).trans ((a_up_ne (Or.inr (by decide))).trans z28), fun _ => ⟨(a_up_ne (Or.inr (by decide))).trans (a_up_self _ _ _ _), a_up_self _ _ _ _⟩, fun z => absurd c40 z, (hF3.trans (FrC.f28 (by decide))).trans (FrC.f28 (by decide))⟩)
    | exact ⟨rfl, rfl, by rw [ey]; exact u5, (hD3.f28.f28).frP u6, (u6.2.2 1 (by decide)).trans ((a_up_ne (Or.inr (by decide))).trans ((a_up_ne (Or.inr (by decide))).trans z28)), fun _ => ⟨(u6.2.2 3 (by decide)).trans ((a_up_ne (Or.inr (by decide))).trans (a_up_self _ _ _ _)), (u6.2.2 4 (by decide)).trans (a_up_self _ _ _ _)⟩, fun z => absurd c40 z, ((hF3.trans (FrC.f28 (by decide))).trans (FrC.f28 (by decide))).trans (FrC.p u6)⟩)

