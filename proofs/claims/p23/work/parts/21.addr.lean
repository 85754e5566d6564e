/-! ===== Address ===== -/
theorem LN.up {V : aV} {L : List Int32} {p b k : Nat} {v : Value} (h : LN V L p) (hb : 3 < b) : LN (a_up V b k v) L p := by
  obtain ⟨l1, l2, l3, l4⟩ := h
  exact ⟨(a_up_ne (Or.inl (by omega))).trans l1, (a_up_ne (Or.inl (by omega))).trans l2, l3.frame (a_up_row (by omega)) (a_up_row (by omega)), l4⟩
abbrev cm (L : List Int32) (p : Nat) : Prop := p < L.length ∧ L.getD p 0 = 44
abbrev ANr : Type := Nat × Option (Int32 × Int32 × Int32)
noncomputable def aNum3 (L : List Int32) (x1 x2 : Int32) (p : Nat) : ANr :=
  if (tNum L 57 2 p (-1)).2 = -1 then ((tNum L 57 2 p (-1)).1, none) else ((tNum L 57 2 p (-1)).1, some (x1, x2, (tNum L 57 2 p (-1)).2))
noncomputable def aNum2 (L : List Int32) (x1 : Int32) (p : Nat) : ANr :=
  if (tNum L 53 1 p (-1)).2 = -1 then ((tNum L 53 1 p (-1)).1, none) else if ¬ cm L (tNum L 53 1 p (-1)).1 then ((tNum L 53 1 p (-1)).1, none) else aNum3 L x1 (tNum L 53 1 p (-1)).2 ((tNum L 53 1 p (-1)).1 + 1)
noncomputable def aNums (L : List Int32) (p : Nat) : ANr :=
  if (tNum L 57 3 p (-1)).2 = -1 then ((tNum L 57 3 p (-1)).1, none) else if ¬ cm L (tNum L 57 3 p (-1)).1 then ((tNum L 57 3 p (-1)).1, none) else aNum2 L (tNum L 57 3 p (-1)).2 ((tNum L 57 3 p (-1)).1 + 1)
def NF (V V' : aV) (a : Nat) : Prop := (∀ b, b ≠ 1 → b ≠ a → V' b = V b) ∧ ∀ k, k < 4 → V' a k = V a k
theorem NF.refl {V : aV} {a : Nat} : NF V V a := ⟨fun _ _ _ => rfl, fun _ _ => rfl⟩
theorem NF.at {V V' : aV} {a p : Nat} (h : NF V V' a) (ha : 3 < a) : NF V (atV V' p) a := ⟨fun b q1 q2 => (a_up_row q1).trans (h.1 b q1 q2), fun k hk => (a_up_ne (Or.inl (by omega))).trans (h.2 k hk)⟩
theorem NF.up {V V' : aV} {a k : Nat} {v : Value} (h : NF V V' a) (hk : 4 ≤ k) : NF V (a_up V' a k v) a := ⟨fun b q1 q2 => (a_up_row q2).trans (h.1 b q1 q2), fun j hj => (a_up_ne (Or.inr (by omega))).trans (h.2 j hj)⟩
def ANPost (V : aV) (a : Nat) (L : List Int32) (r : ANr) : Option Value → aS → aV → Prop := fun v S' V' => Sh = S' ∧ LN V' L r.1 ∧ NF V V' a ∧ match r.2 with
  | none => some (.int 0) = v
  | some x => some (.int 1) = v ∧ V' a 4 = .int x.1 ∧ V' a 5 = .int x.2.1 ∧ V' a 6 = .int x.2.2

set_option maxHeartbeats 4000000 in
theorem ct_readNumbers {V : aV} {a p : Nat} {L : List Int32} (s1 : (Sh.1 a).1 = 0) (ha : 3 < a) (hl : LN V L p) : CT mX0_readNumbers 3 0 0 [.ref a, .ref 1] Sh V (ANPost V a L (aNums L p)) aNo := by
  refine CT_of (by decide +kernel) (Nat.le_of_ble_eq_true rfl) ?_
  show R _ _ _ _ _ _ _ _ 0 [some (.ref a), some (.ref 1)] [] _ _
  refine R_aload_0 dX0_readNumbers_0 ?_
  refine R_aload_1 dX0_readNumbers_1 ?_
  refine R_iconst (v := 3) dX0_readNumbers_2 (by decide) ?_
  refine R_bipush (v := 57) dX0_readNumbers_3 (by decide) ?_
  refine R_callVN_e (T := mX0_readNumbers) (T' := mX6_takeNumber) (As := [_, _]) (ci := 6) okX6_takeNumber mlX0_55 rfl (by decide) sh_1 (ct_takeNumber hl 3 (by decide) 57) rfl (by decide) (by decide) (Nat.le_of_ble_eq_true rfl) dX0_readNumbers_5 ?_
  have g1 := tNum_le (L := L) (hi := 57) (hh := 0) 3 p (-1) hl.len.1
  have hl1 := hl.at (tNum L 57 3 p (-1)).1 g1.2
  generalize e1 : tNum L 57 3 p (-1) = T1 at g1 hl1
  refine pfX0_59 rfl dX0_readNumbers_8 s1 ?_
  have hm1 : LN (a_up (atV V T1.1) a 4 (.int T1.2)) L T1.1 := hl1.up ha
  have hf1 : NF V (a_up (atV V T1.1) a 4 (.int T1.2)) a := (NF.refl.at ha).up (by decide)
  have hx1 : a_up (atV V T1.1) a 4 (.int T1.2) a 4 = .int T1.2 := a_up_self _ _ _ _
  generalize a_up (atV V T1.1) a 4 (.int T1.2) = W1 at hm1 hf1 hx1 ⊢
  refine R_aload_0 dX0_readNumbers_11 ?_
  refine gfX0_59 rfl dX0_readNumbers_12 s1 hx1 ?_
  refine R_iconst (v := -1) dX0_readNumbers_15 (by decide) ?_
  refine R_icmp_eq 28 dX0_readNumbers_16 (by decide) (fun c16 => ?_) (fun c16 => ?_)
  · refine R_iconst (v := 0) dX0_readNumbers_28 (by decide) ?_
    refine R_zret rfl (by first | rfl | assumption) dX0_readNumbers_29 (by have e9 : aNums L p = (T1.1, none) := (by unfold aNums; rw [e1, if_pos c16]); rw [e9]; exact ⟨rfl, hm1, hf1, rfl⟩)
  · refine R_aload_1 dX0_readNumbers_19 ?_
    refine R_bipush (v := 44) dX0_readNumbers_20 (by decide) ?_
    refine R_callVN (T := mX0_readNumbers) (T' := mX6_take) (As := [_]) (ci := 6) okX6_take mlX0_39 rfl (by decide) sh_1 (ct_take2 hm1 44) rfl (by decide) (by decide) (Nat.le_of_ble_eq_true rfl) dX0_readNumbers_22 (fun v9 S9 V9 h9 => ?_) (fun E S9 V9 h9 => h9.elim)
    obtain ⟨rfl, h9⟩ := h9
    rcases h9 with ⟨hP, rfl, rfl⟩ | ⟨hP, rfl, rfl⟩
    · have hk1 := hm1.at (T1.1 + 1) hP.1
      refine R_if_ne 30 dX0_readNumbers_25 (by decide) (fun c25 => ?_) (fun c25 => absurd c25 (by decide))
      refine R_aload_0 dX0_readNumbers_30 ?_
      refine R_aload_1 dX0_readNumbers_31 ?_
      refine R_iconst (v := 1) dX0_readNumbers_32 (by decide) ?_
      refine R_bipush (v := 53) dX0_readNumbers_33 (by decide) ?_
      refine R_callVN_e (T := mX0_readNumbers) (T' := mX6_takeNumber) (As := [_, _]) (ci := 6) okX6_takeNumber mlX0_55 rfl (by decide) sh_1 (ct_takeNumber hk1 1 (by decide) 53) rfl (by decide) (by decide) (Nat.le_of_ble_eq_true rfl) dX0_readNumbers_35 ?_
      have g2 := tNum_le (L := L) (hi := 53) (hh := 0) 1 (T1.1 + 1) (-1) hP.1
      have hl2 := hm1.at (tNum L 53 1 (T1.1 + 1) (-1)).1 g2.2
      generalize e2 : tNum L 53 1 (T1.1 + 1) (-1) = T2 at g2 hl2
      rw [atV_atV]
      refine pfX0_62 rfl dX0_readNumbers_38 s1 ?_
      have hm2 : LN (a_up (atV W1 T2.1) a 5 (.int T2.2)) L T2.1 := hl2.up ha
      have hf2 : NF V (a_up (atV W1 T2.1) a 5 (.int T2.2)) a := (hf1.at ha).up (by decide)
      have hx2 : a_up (atV W1 T2.1) a 5 (.int T2.2) a 5 = .int T2.2 := a_up_self _ _ _ _
      have hy1 : a_up (atV W1 T2.1) a 5 (.int T2.2) a 4 = .int T1.2 := (a_up_ne (Or.inr (by decide))).trans ((a_up_ne (Or.inl (by omega))).trans hx1)
      generalize a_up (atV W1 T2.1) a 5 (.int T2.2) = W2 at hm2 hf2 hx2 hy1 ⊢
      refine R_aload_0 dX0_readNumbers_41 ?_
      refine gfX0_62 rfl dX0_readNumbers_42 s1 hx2 ?_
      refine R_iconst (v := -1) dX0_readNumbers_45 (by decide) ?_
      refine R_icmp_eq 58 dX0_readNumbers_46 (by decide) (fun c46 => ?_) (fun c46 => ?_)
      · refine R_iconst (v := 0) dX0_readNumbers_58 (by decide) ?_
        refine R_zret rfl (by first | rfl | assumption) dX0_readNumbers_59 (by have e9 : aNums L p = (T2.1, none) := (by unfold aNums; rw [e1, if_neg c16, if_neg (not_not_intro hP)]; unfold aNum2; rw [e2, if_pos c46]); rw [e9]; exact ⟨rfl, hm2, hf2, rfl⟩)
      · refine R_aload_1 dX0_readNumbers_49 ?_
        refine R_bipush (v := 44) dX0_readNumbers_50 (by decide) ?_
        refine R_callVN (T := mX0_readNumbers) (T' := mX6_take) (As := [_]) (ci := 6) okX6_take mlX0_39 rfl (by decide) sh_1 (ct_take2 hm2 44) rfl (by decide) (by decide) (Nat.le_of_ble_eq_true rfl) dX0_readNumbers_52 (fun v9 S9 V9 h9 => ?_) (fun E S9 V9 h9 => h9.elim)
        obtain ⟨rfl, h9⟩ := h9
        rcases h9 with ⟨hR, rfl, rfl⟩ | ⟨hR, rfl, rfl⟩
        · have hk2 := hm2.at (T2.1 + 1) hR.1
          refine R_if_ne 60 dX0_readNumbers_55 (by decide) (fun c55 => ?_) (fun c55 => absurd c55 (by decide))
          refine R_aload_0 dX0_readNumbers_60 ?_
          refine R_aload_1 dX0_readNumbers_61 ?_
          refine R_iconst (v := 2) dX0_readNumbers_62 (by decide) ?_
          refine R_bipush (v := 57) dX0_readNumbers_63 (by decide) ?_
          refine R_callVN_e (T := mX0_readNumbers) (T' := mX6_takeNumber) (As := [_, _]) (ci := 6) okX6_takeNumber mlX0_55 rfl (by decide) sh_1 (ct_takeNumber hk2 2 (by decide) 57) rfl (by decide) (by decide) (Nat.le_of_ble_eq_true rfl) dX0_readNumbers_65 ?_
          have g3 := tNum_le (L := L) (hi := 57) (hh := 0) 2 (T2.1 + 1) (-1) hR.1
          have hl3 := hm2.at (tNum L 57 2 (T2.1 + 1) (-1)).1 g3.2
          generalize e3 : tNum L 57 2 (T2.1 + 1) (-1) = T3 at g3 hl3
          rw [atV_atV]
          refine pfX0_65 rfl dX0_readNumbers_68 s1 ?_
          have hm3 : LN (a_up (atV W2 T3.1) a 6 (.int T3.2)) L T3.1 := hl3.up ha
          have hf3 : NF V (a_up (atV W2 T3.1) a 6 (.int T3.2)) a := (hf2.at ha).up (by decide)
          have hx3 : a_up (atV W2 T3.1) a 6 (.int T3.2) a 6 = .int T3.2 := a_up_self _ _ _ _
          have hz1 : a_up (atV W2 T3.1) a 6 (.int T3.2) a 4 = .int T1.2 := (a_up_ne (Or.inr (by decide))).trans ((a_up_ne (Or.inl (by omega))).trans hy1)
          have hz2 : a_up (atV W2 T3.1) a 6 (.int T3.2) a 5 = .int T2.2 := (a_up_ne (Or.inr (by decide))).trans ((a_up_ne (Or.inl (by omega))).trans hx2)
          generalize a_up (atV W2 T3.1) a 6 (.int T3.2) = W3 at hm3 hf3 hx3 hz1 hz2 ⊢
          have eA : aNums L p = aNum3 L T1.2 T2.2 (T2.1 + 1) := by unfold aNums; rw [e1, if_neg c16, if_neg (not_not_intro hP)]; unfold aNum2; rw [e2, if_neg c46, if_neg (not_not_intro hR)]
          refine R_aload_0 dX0_readNumbers_71 ?_
          refine gfX0_65 rfl dX0_readNumbers_72 s1 hx3 ?_
          refine R_iconst (v := -1) dX0_readNumbers_75 (by decide) ?_
          refine R_icmp_eq 83 dX0_readNumbers_76 (by decide) (fun c76 => ?_) (fun c76 => ?_)
          · refine R_iconst (v := 0) dX0_readNumbers_83 (by decide) ?_
            refine R_zret rfl (by first | rfl | assumption) dX0_readNumbers_84 (by first | (have e9 : aNums L p = (T3.1, none) := (by rw [eA]; unfold aNum3; rw [e3, if_pos c76]); rw [e9]; exact ⟨rfl, hm3, hf3, rfl⟩) | (have e9 : aNums L p = (T3.1, some (T1.2, T2.2, T3.2)) := (by rw [eA]; unfold aNum3; rw [e3, if_neg c76]); rw [e9]; exact ⟨rfl, hm3, hf3, rfl, hz1, hz2, hx3⟩))
          · refine R_iconst (v := 1) dX0_readNumbers_79 (by decide) ?_
            refine R_goto 84 dX0_readNumbers_80 (by decide) ?_
            refine R_zret rfl (by first | rfl | assumption) dX0_readNumbers_84 (by first | (have e9 : aNums L p = (T3.1, none) := (by rw [eA]; unfold aNum3; rw [e3, if_pos c76]); rw [e9]; exact ⟨rfl, hm3, hf3, rfl⟩) | (have e9 : aNums L p = (T3.1, some (T1.2, T2.2, T3.2)) := (by rw [eA]; unfold aNum3; rw [e3, if_neg c76]); rw [e9]; exact ⟨rfl, hm3, hf3, rfl, hz1, hz2, hx3⟩))
        · refine R_if_ne 60 dX0_readNumbers_55 (by decide) (fun c55 => absurd rfl c55) (fun c55 => ?_)
          refine R_iconst (v := 0) dX0_readNumbers_58 (by decide) ?_
          refine R_zret rfl (by first | rfl | assumption) dX0_readNumbers_59 (by have e9 : aNums L p = (T2.1, none) := (by unfold aNums; rw [e1, if_neg c16, if_neg (not_not_intro hP)]; unfold aNum2; rw [e2, if_neg c46, if_pos hR]); rw [e9]; exact ⟨rfl, hm2, hf2, rfl⟩)
    · refine R_if_ne 30 dX0_readNumbers_25 (by decide) (fun c25 => absurd rfl c25) (fun c25 => ?_)
      refine R_iconst (v := 0) dX0_readNumbers_28 (by decide) ?_
      refine R_zret rfl (by first | rfl | assumption) dX0_readNumbers_29 (by have e9 : aNums L p = (T1.1, none) := (by unfold aNums; rw [e1, if_neg c16, if_pos hP]); rw [e9]; exact ⟨rfl, hm1, hf1, rfl⟩)

/-- an address as it lies: its four Signs -/
def AD (V : aV) (a : Nat) (nm st cn cs : List Int32) : Prop := ((Sh.1 a).1 = 0 ∧ 3 < a) ∧ (V a 0 = .ref (a + 1) ∧ V a 1 = .ref (a + 3) ∧ V a 2 = .ref (a + 5) ∧ V a 3 = .ref (a + 7)) ∧ SL Sh V (a + 1) 12 nm ∧ SL Sh V (a + 3) 12 st ∧ SL Sh V (a + 5) 12 cn ∧ SL Sh V (a + 7) 12 cs
noncomputable abbrev cl (G : List Int32) : List Int32 := G.filterMap clS
theorem AD.fr {V V' : aV} {a : Nat} {nm st cn cs : List Int32} (h : AD V a nm st cn cs) (h1 : ∀ k, k < 4 → V' a k = V a k) (h2 : ∀ b, a < b → b ≤ a + 8 → V' b = V b) : AD V' a nm st cn cs := by
  obtain ⟨⟨s1, ha⟩, ⟨f0, f1, f2, f3⟩, g1, g2, g3, g4⟩ := h
  exact ⟨⟨s1, ha⟩, ⟨(h1 0 (by decide)).trans f0, (h1 1 (by decide)).trans f1, (h1 2 (by decide)).trans f2, (h1 3 (by decide)).trans f3⟩, g1.frame (h2 _ (by omega) (by omega)) (h2 _ (by omega) (by omega)), g2.frame (h2 _ (by omega) (by omega)) (h2 _ (by omega) (by omega)), g3.frame (h2 _ (by omega) (by omega)) (h2 _ (by omega) (by omega)), g4.frame (h2 _ (by omega) (by omega)) (h2 _ (by omega) (by omega))⟩
theorem LN.frb {V V' : aV} {L : List Int32} {p : Nat} (h : LN V L p) (hF : ∀ b, b < 4 → V' b = V b) : LN V' L p := by
  obtain ⟨l1, l2, l3, l4⟩ := h
  exact ⟨(congrFun (hF 1 (by decide)) 0).trans l1, (congrFun (hF 1 (by decide)) 1).trans l2, l3.frame (hF 2 (by decide)) (hF 3 (by decide)), l4⟩
def AF (V V' : aV) (a : Nat) : Prop := ∀ b, b ≠ 1 → (b < a ∨ a + 8 < b) → V' b = V b
abbrev ARr : Type := Nat × Option (List Int32 × List Int32 × Int32 × Int32 × Int32)
noncomputable def aRd4 (L nm st : List Int32) (p : Nat) : ARr := match (aNums L p).2 with
  | none => ((aNums L p).1, none)
  | some x => if L.length ≤ (aNums L p).1 then ((aNums L p).1, some (nm, st, x)) else ((aNums L p).1, none)
noncomputable def aRd3 (L nm : List Int32) (p : Nat) : ARr :=
  if ¬ 0 < (tWord L 12 p []).2.length then ((tWord L 12 p []).1, none) else if ¬ cm L (tWord L 12 p []).1 then ((tWord L 12 p []).1, none) else aRd4 L nm (tWord L 12 p []).2 ((tWord L 12 p []).1 + 1)
noncomputable def aRd (L : List Int32) : ARr :=
  if ¬ 0 < (tWord L 12 0 []).2.length then ((tWord L 12 0 []).1, none) else if ¬ cm L (tWord L 12 0 []).1 then ((tWord L 12 0 []).1, none) else aRd3 L (tWord L 12 0 []).2 ((tWord L 12 0 []).1 + 1)
def AMx (r : Option (List Int32 × List Int32 × Int32 × Int32 × Int32)) (nm st : List Int32) (V' : aV) (a : Nat) (v : Option Value) : Prop := match r with
  | none => some (.int 0) = v
  | some x => some (.int 1) = v ∧ x.1 = nm ∧ x.2.1 = st ∧ V' a 4 = .int x.2.2.1 ∧ V' a 5 = .int x.2.2.2.1 ∧ V' a 6 = .int x.2.2.2.2
def ARPost (V : aV) (a : Nat) (L : List Int32) (r : ARr) : Option Value → aS → aV → Prop := fun v S' V' => Sh = S' ∧ LN V' L r.1 ∧ AF V V' a ∧ ∃ nm st, AD V' a nm st (cl nm) (cl st) ∧ AMx r.2 nm st V' a v
/-- what stands before the cleaning -/
def ARPre (V : aV) (a : Nat) (L : List Int32) (r : ARr) (v : Int32) (V' : aV) : Prop := LN V' L r.1 ∧ AF V V' a ∧ ∃ nm st cn cs, AD V' a nm st cn cs ∧ AMx r.2 nm st V' a (some (.int v))

theorem arm {V1 : aV} {a : Nat} {r : Option (List Int32 × List Int32 × Int32 × Int32 × Int32)} {v : Int32} {nm st : List Int32} (hm : AMx r nm st V1 a (some (.int v))) : narrow .boolean (.int v) = .int v ∧ ∀ V8 : aV, (∀ k, V8 a k = V1 a k) → AMx r nm st V8 a (some (.int v)) := by
  cases r with
  | none =>
    have h0 : some (Value.int 0) = some (.int v) := hm
    cases h0
    exact ⟨rfl, fun _ _ => rfl⟩
  | some x =>
    obtain ⟨h0, h1, h2, h3, h4, h5⟩ := hm
    cases h0
    exact ⟨rfl, fun V8 e => ⟨rfl, h1, h2, (e 4).trans h3, (e 5).trans h4, (e 6).trans h5⟩⟩
set_option maxHeartbeats 4000000 in
theorem ard_tail {mc ms kc ks : Nat} {V V1 : aV} {a : Nat} {L : List Int32} {r : ARr} {v : Int32} (h : ARPre V a L r v V1) {Q : Option Value → aS → aV → Prop} {QX : String → aS → aV → Prop} (hQ : ∀ (v : Int32) (V' : aV), (LN V' L r.1 ∧ AF V V' a ∧ ∃ nm st, AD V' a nm st (cl nm) (cl st) ∧ AMx r.2 nm st V' a (some (.int v))) → Q (some (.int v)) Sh V') : R mX0_read 4 mc ms Q QX kc ks 65 [some (.ref a), some (.ref 1), none] [.int v] Sh V1 := by
  obtain ⟨hl, hF, nm, st, cn, cs, ⟨⟨s1, ha⟩, ⟨f0, f1, f2, f3⟩, g1, g2, g3, g4⟩, hm⟩ := h
  have hm := arm hm
  refine R_istore_2 rfl (by decide) dX0_read_65 ?_
  refine R_aload_0 dX0_read_66 ?_
  refine gfX0_23 rfl dX0_read_67 s1 f2 ?_
  refine R_aload_0 dX0_read_70 ?_
  refine gfX0_14 rfl dX0_read_71 s1 f0 ?_
  refine R_callVN (T := mX0_read) (T' := mX9_becomeCleaned) (As := [_]) (ci := 9) okX9_becomeCleaned mlX0_51 rfl (by decide) g3.1 (ct_clean g3 g1 (by omega) (by omega) (by omega) g1.len) rfl (by decide) (by decide) (Nat.le_of_ble_eq_true rfl) dX0_read_74 (fun v7 S7 V7 h7 => ?_) (fun E S9 V9 h9 => h9.elim)
  obtain ⟨rfl, rfl, u3, u4⟩ := h7
  have k3 : V7 a 3 = .ref (a + 7) := (congrFun (u4 a (by omega) (by omega)) 3).trans f3
  have k1 : V7 a 1 = .ref (a + 3) := (congrFun (u4 a (by omega) (by omega)) 1).trans f1
  have g47 := g4.fr u4 (by omega) (by omega) (by omega)
  have g27 := g2.fr u4 (by omega) (by omega) (by omega)
  refine R_aload_0 dX0_read_77 ?_
  refine gfX0_26 rfl dX0_read_78 s1 k3 ?_
  refine R_aload_0 dX0_read_81 ?_
  refine gfX0_20 rfl dX0_read_82 s1 k1 ?_
  refine R_callVN (T := mX0_read) (T' := mX9_becomeCleaned) (As := [_]) (ci := 9) okX9_becomeCleaned mlX0_51 rfl (by decide) g4.1 (ct_clean g47 g27 (by omega) (by omega) (by omega) g2.len) rfl (by decide) (by decide) (Nat.le_of_ble_eq_true rfl) dX0_read_85 (fun v8 S8 V8 h8 => ?_) (fun E S9 V9 h9 => h9.elim)
  obtain ⟨rfl, rfl, w3, w4⟩ := h8
  have z : ∀ b, b ≠ a + 5 → b ≠ a + 6 → b ≠ a + 7 → b ≠ a + 8 → V8 b = V1 b := fun b q1 q2 q3 q4 => (w4 b q3 q4).trans (u4 b q1 q2)
  refine R_iload_2 dX0_read_88 ?_
  refine R_zret rfl hm.1 dX0_read_89 (hQ v _ ⟨hl.frb (fun b hb => z b (by omega) (by omega) (by omega) (by omega)), fun b q1 q2 => (z b (by omega) (by omega) (by omega) (by omega)).trans (hF b q1 q2), nm, st, ⟨⟨s1, ha⟩, ⟨(congrFun (z a (by omega) (by omega) (by omega) (by omega)) 0).trans f0, (congrFun (z a (by omega) (by omega) (by omega) (by omega)) 1).trans f1, (congrFun (z a (by omega) (by omega) (by omega) (by omega)) 2).trans f2, (congrFun (z a (by omega) (by omega) (by omega) (by omega)) 3).trans f3⟩, g1.frame (z _ (by omega) (by omega) (by omega) (by omega)) (z _ (by omega) (by omega) (by omega) (by omega)), g2.frame (z _ (by omega) (by omega) (by omega) (by omega)) (z _ (by omega) (by omega) (by omega) (by omega)), u3.fr w4 (by omega) (by omega) (by omega), w3⟩, hm.2 V8 (congrFun (z a (by omega) (by omega) (by omega) (by omega)))⟩)
theorem AF.refl {V : aV} {a : Nat} : AF V V a := fun _ _ _ => rfl
theorem AF.trans {V V1 V2 : aV} {a : Nat} (h : AF V V1 a) (h2 : AF V1 V2 a) : AF V V2 a := fun b q1 q2 => (h2 b q1 q2).trans (h b q1 q2)
theorem AF.at {V : aV} {a p : Nat} : AF V (atV V p) a := fun b q1 _ => a_up_row q1
theorem AF.nf {V V' : aV} {a : Nat} (h : NF V V' a) : AF V V' a := fun b q1 q2 => h.1 b q1 (by omega)
theorem AF.w1 {V V' : aV} {a p q : Nat} {L W : List Int32} (h : TWp V L q p W V') (hq : a < q ∧ q < a + 8) : AF V V' a := fun b q1 q2 => h.2.2 b q1 (by omega) (by omega)
theorem AD.at {V : aV} {a p : Nat} {nm st cn cs : List Int32} (h : AD V a nm st cn cs) : AD (atV V p) a nm st cn cs := h.fr (fun k _ => congrFun (a_up_row (by have := h.1.2; omega)) k) (fun b q1 _ => a_up_row (by have := h.1.2; omega))
theorem AD.nf {V V' : aV} {a : Nat} {nm st cn cs : List Int32} (h : AD V a nm st cn cs) (hn : NF V V' a) : AD V' a nm st cn cs := h.fr hn.2 (fun b q1 _ => hn.1 b (by have := h.1.2; omega) (by omega))
theorem AD.w1 {V V' : aV} {a p : Nat} {L W nm st cn cs : List Int32} (h : AD V a nm st cn cs) (hw : TWp V L (a + 1) p W V') : AD V' a W st cn cs := by
  obtain ⟨⟨s1, ha⟩, ⟨f0, f1, f2, f3⟩, g1, g2, g3, g4⟩ := h
  obtain ⟨w1, w2, z⟩ := hw
  exact ⟨⟨s1, ha⟩, ⟨(congrFun (z a (by omega) (by omega) (by omega)) 0).trans f0, (congrFun (z a (by omega) (by omega) (by omega)) 1).trans f1, (congrFun (z a (by omega) (by omega) (by omega)) 2).trans f2, (congrFun (z a (by omega) (by omega) (by omega)) 3).trans f3⟩, w2, g2.frame (z _ (by omega) (by omega) (by omega)) (z _ (by omega) (by omega) (by omega)), g3.frame (z _ (by omega) (by omega) (by omega)) (z _ (by omega) (by omega) (by omega)), g4.frame (z _ (by omega) (by omega) (by omega)) (z _ (by omega) (by omega) (by omega))⟩
theorem AD.w2 {V V' : aV} {a p : Nat} {L W nm st cn cs : List Int32} (h : AD V a nm st cn cs) (hw : TWp V L (a + 3) p W V') : AD V' a nm W cn cs := by
  obtain ⟨⟨s1, ha⟩, ⟨f0, f1, f2, f3⟩, g1, g2, g3, g4⟩ := h
  obtain ⟨w1, w2, z⟩ := hw
  exact ⟨⟨s1, ha⟩, ⟨(congrFun (z a (by omega) (by omega) (by omega)) 0).trans f0, (congrFun (z a (by omega) (by omega) (by omega)) 1).trans f1, (congrFun (z a (by omega) (by omega) (by omega)) 2).trans f2, (congrFun (z a (by omega) (by omega) (by omega)) 3).trans f3⟩, g1.frame (z _ (by omega) (by omega) (by omega)) (z _ (by omega) (by omega) (by omega)), w2, g3.frame (z _ (by omega) (by omega) (by omega)) (z _ (by omega) (by omega) (by omega)), g4.frame (z _ (by omega) (by omega) (by omega)) (z _ (by omega) (by omega) (by omega))⟩
theorem ard_end {kc ks : Nat} {V V1 : aV} {a : Nat} {L : List Int32} {r : ARr} {v : Int32} (e : aRd L = r) (h : ARPre V a L r v V1) : R mX0_read 4 0 0 (ARPost V a L (aRd L)) aNo kc ks 65 [some (.ref a), some (.ref 1), none] [.int v] Sh V1 := by
  rw [e]
  exact ard_tail h (fun v V' q => ⟨rfl, q.1, q.2.1, q.2.2⟩)
theorem bor (P : Prop) [Decidable P] : (P ∧ bI P = 1) ∨ (¬ P ∧ bI P = 0) := by
  by_cases h : P
  · exact Or.inl ⟨h, bI_t h⟩
  · exact Or.inr ⟨h, bI_f h⟩
set_option maxHeartbeats 4000000 in
theorem ct_aread {V : aV} {a : Nat} {L nm st cn cs : List Int32} (hd : AD V a nm st cn cs) (hl : LI V L) : CT mX0_read 4 0 0 [.ref a, .ref 1] Sh V (ARPost V a L (aRd L)) aNo := by
  refine CT_of (by decide +kernel) (Nat.le_of_ble_eq_true rfl) ?_
  show R _ _ _ _ _ _ _ _ 0 [some (.ref a), some (.ref 1), none] [] _ _
  have s1 := hd.1.1
  have ha := hd.1.2
  have hl0 := hl.start
  have hd0 := hd.at (p := 0)
  have f0 := hd0.2.1.1
  refine R_aload_1 dX0_read_0 ?_
  refine R_iconst (v := 0) dX0_read_1 (by decide) ?_
  refine pfX0_29 rfl dX0_read_2 sh_1 ?_
  show R mX0_read 4 0 0 _ aNo _ _ 5 _ _ _ (atV V 0)
  refine R_aload_1 dX0_read_5 ?_
  refine R_aload_0 dX0_read_6 ?_
  refine gfX0_14 rfl dX0_read_7 s1 f0 ?_
  refine R_callVN (T := mX0_read) (T' := mX6_takeWord) (As := [_]) (ci := 6) okX6_takeWord mlX0_35 rfl (by decide) sh_1 (ct_takeWord hl0 hd0.2.2.1 (by omega)) rfl (by decide) (by decide) (Nat.le_of_ble_eq_true rfl) dX0_read_10 (fun v9 S9 V1 h9 => ?_) (fun E S9 V9 h9 => h9.elim)
  obtain ⟨rfl, rfl, t1⟩ := h9
  generalize e1 : tWord L 12 0 [] = T1 at t1
  have l1 := t1.1
  have d1 := hd0.w1 t1
  have a1 := AF.trans (AF.at (p := 0)) (AF.w1 (a := a) t1 (by omega))
  rcases bor (0 < T1.2.length) with ⟨hP, eP⟩ | ⟨hP, eP⟩
  · rw [eP]
    refine R_if_eq 64 dX0_read_13 (by decide) (fun c13 => absurd c13 (by decide)) (fun c13 => ?_)
    refine R_aload_1 dX0_read_16 ?_
    refine R_bipush (v := 44) dX0_read_17 (by decide) ?_
    refine R_callVN (T := mX0_read) (T' := mX6_take) (As := [_]) (ci := 6) okX6_take mlX0_39 rfl (by decide) sh_1 (ct_take2 l1 44) rfl (by decide) (by decide) (Nat.le_of_ble_eq_true rfl) dX0_read_19 (fun v9 S9 V9 h9 => ?_) (fun E S9 V9 h9 => h9.elim)
    obtain ⟨rfl, h9⟩ := h9
    rcases h9 with ⟨hK, rfl, rfl⟩ | ⟨hK, rfl, rfl⟩
    · have l2 := l1.at (T1.1 + 1) hK.1
      have d2 := d1.at (p := T1.1 + 1)
      have a2 := a1.trans (AF.at (p := T1.1 + 1))
      have f21 := d2.2.1.2.1
      refine R_if_eq 64 dX0_read_22 (by decide) (fun c22 => absurd c22 (by decide)) (fun c22 => ?_)
      refine R_aload_1 dX0_read_25 ?_
      refine R_aload_0 dX0_read_26 ?_
      refine gfX0_20 rfl dX0_read_27 s1 f21 ?_
      refine R_callVN (T := mX0_read) (T' := mX6_takeWord) (As := [_]) (ci := 6) okX6_takeWord mlX0_35 rfl (by decide) sh_1 (ct_takeWord l2 d2.2.2.2.1 (by omega)) rfl (by decide) (by decide) (Nat.le_of_ble_eq_true rfl) dX0_read_30 (fun v9 S9 V3 h9 => ?_) (fun E S9 V9 h9 => h9.elim)
      obtain ⟨rfl, rfl, t2⟩ := h9
      generalize e2 : tWord L 12 (T1.1 + 1) [] = T2 at t2
      have l3 := t2.1
      have d3 := d2.w2 t2
      have a3 := a2.trans (AF.w1 (a := a) t2 (by omega))
      rcases bor (0 < T2.2.length) with ⟨hR, eP⟩ | ⟨hR, eP⟩
      · rw [eP]
        refine R_if_eq 64 dX0_read_33 (by decide) (fun c33 => absurd c33 (by decide)) (fun c33 => ?_)
        refine R_aload_1 dX0_read_36 ?_
        refine R_bipush (v := 44) dX0_read_37 (by decide) ?_
        refine R_callVN (T := mX0_read) (T' := mX6_take) (As := [_]) (ci := 6) okX6_take mlX0_39 rfl (by decide) sh_1 (ct_take2 l3 44) rfl (by decide) (by decide) (Nat.le_of_ble_eq_true rfl) dX0_read_39 (fun v9 S9 V9 h9 => ?_) (fun E S9 V9 h9 => h9.elim)
        obtain ⟨rfl, h9⟩ := h9
        rcases h9 with ⟨hU, rfl, rfl⟩ | ⟨hU, rfl, rfl⟩
        · have l4 := l3.at (T2.1 + 1) hU.1
          have d4 := d3.at (p := T2.1 + 1)
          have a4 := a3.trans (AF.at (p := T2.1 + 1))
          refine R_if_eq 64 dX0_read_42 (by decide) (fun c42 => absurd c42 (by decide)) (fun c42 => ?_)
          refine R_aload_0 dX0_read_45 ?_
          refine R_aload_1 dX0_read_46 ?_
          refine R_callV (T := mX0_read) (T' := mX0_readNumbers) (As := [_]) (ci := 0) okX0_readNumbers mlX0_43 rfl (by decide) s1 (ct_readNumbers s1 ha l4) rfl (by decide) (by decide) (Nat.le_of_ble_eq_true rfl) dX0_read_47 (fun v9 S9 V5 h9 => ?_) (fun E S9 V9 h9 => h9.elim)
          obtain ⟨rfl, l5, n5, m5⟩ := h9
          generalize e3 : aNums L (T2.1 + 1) = r3 at l5 m5
          have d5 := d4.nf n5
          have a5 := a4.trans (AF.nf n5)
          obtain ⟨p3, o3⟩ := r3
          rcases o3 with _ | x3
          · obtain rfl : some (Value.int 0) = v9 := m5
            refine R_if_eq 64 dX0_read_50 (by decide) (fun c50 => ?_) (fun c50 => absurd rfl c50)
            refine R_iconst (v := 0) dX0_read_64 (by decide) ?_
            exact ard_end (r := (p3, none)) ((by unfold aRd; rw [e1, if_neg (not_not_intro hP), if_neg (not_not_intro hK)]; unfold aRd3; rw [e2, if_neg (not_not_intro hR), if_neg (not_not_intro hU)]; unfold aRd4; rw [e3])) ⟨l5, a5, _, _, _, _, d5, rfl⟩
          · obtain ⟨rfl, m5⟩ : some (Value.int 1) = v9 ∧ _ := m5
            refine R_if_eq 64 dX0_read_50 (by decide) (fun c50 => absurd c50 (by decide)) (fun c50 => ?_)
            refine R_aload_1 dX0_read_53 ?_
            refine R_callVN_e (T := mX0_read) (T' := mX6_atEnd) (As := []) (ci := 6) okX6_atEnd mlX0_47 rfl (by decide) sh_1 (ct_atEnd l5) rfl (by decide) (by decide) (Nat.le_of_ble_eq_true rfl) dX0_read_54 ?_
            refine R_if_eq 64 dX0_read_57 (by decide) (fun c57 => ?_) (fun c57 => ?_)
            · refine R_iconst (v := 0) dX0_read_64 (by decide) ?_
              exact ard_end (r := (p3, none)) ((by unfold aRd; rw [e1, if_neg (not_not_intro hP), if_neg (not_not_intro hK)]; unfold aRd3; rw [e2, if_neg (not_not_intro hR), if_neg (not_not_intro hU)]; unfold aRd4; rw [e3]; exact if_neg (bI_eq c57))) ⟨l5, a5, _, _, _, _, d5, rfl⟩
            · refine R_iconst (v := 1) dX0_read_60 (by decide) ?_
              refine R_goto 65 dX0_read_61 (by decide) ?_
              exact ard_end (r := (p3, some (T1.2, T2.2, x3))) (by unfold aRd; rw [e1, if_neg (not_not_intro hP), if_neg (not_not_intro hK)]; unfold aRd3; rw [e2, if_neg (not_not_intro hR), if_neg (not_not_intro hU)]; unfold aRd4; rw [e3]; exact if_pos (bI_ne c57)) ⟨l5, a5, _, _, _, _, d5, rfl, rfl, rfl, m5⟩
        · refine R_if_eq 64 dX0_read_42 (by decide) (fun c42 => ?_) (fun c42 => absurd rfl c42)
          refine R_iconst (v := 0) dX0_read_64 (by decide) ?_
          exact ard_end (r := (T2.1, none)) ((by unfold aRd; rw [e1, if_neg (not_not_intro hP), if_neg (not_not_intro hK)]; unfold aRd3; rw [e2, if_neg (not_not_intro hR), if_pos hU])) ⟨l3, a3, _, _, _, _, d3, rfl⟩
      · rw [eP]
        refine R_if_eq 64 dX0_read_33 (by decide) (fun c33 => ?_) (fun c33 => absurd rfl c33)
        refine R_iconst (v := 0) dX0_read_64 (by decide) ?_
        exact ard_end (r := (T2.1, none)) ((by unfold aRd; rw [e1, if_neg (not_not_intro hP), if_neg (not_not_intro hK)]; unfold aRd3; rw [e2, if_pos hR])) ⟨l3, a3, _, _, _, _, d3, rfl⟩
    · refine R_if_eq 64 dX0_read_22 (by decide) (fun c22 => ?_) (fun c22 => absurd rfl c22)
      refine R_iconst (v := 0) dX0_read_64 (by decide) ?_
      exact ard_end (r := (T1.1, none)) ((by unfold aRd; rw [e1, if_neg (not_not_intro hP), if_pos hK])) ⟨l1, a1, _, _, _, _, d1, rfl⟩
  · rw [eP]
    refine R_if_eq 64 dX0_read_13 (by decide) (fun c13 => ?_) (fun c13 => absurd rfl c13)
    refine R_iconst (v := 0) dX0_read_64 (by decide) ?_
    exact ard_end (r := (T1.1, none)) ((by unfold aRd; rw [e1, if_pos hP])) ⟨l1, a1, _, _, _, _, d1, rfl⟩

