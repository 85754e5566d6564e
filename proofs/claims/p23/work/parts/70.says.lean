/-! ===== the law: signs of a letter asked for ===== -/
section SAY
variable {ent : Nat → EntN} {cnt : Nat} {mt po : Nat → Nat} {b st pa nr : Nat} {rt rr : Nat → Nat} {pd : Nat → Bool} {kn : Nat → Nat} {kl : Nat → Nat → KL} {i l g j : Nat} {x : List Int32 × Nat × Int32}
/-- the class, and the place that the law has reached in a text -/
def SY (V : aV) (k j : Nat) (ent : Nat → EntN) (cnt : Nat) (mt po : Nat → Nat) (b st pa nr : Nat) (rt rr : Nat → Nat) (pd : Nat → Bool) (kn : Nat → Nat) (kl : Nat → Nat → KL) : Prop := CSt V [] lT lTo ent cnt mt po b st pa nr rt rr pd kn kl ∧ V 509 0 = .int (nI k) ∧ V 509 1 = .int (nI j)
def FrQ (V V' : aV) : Prop := ∀ b, 504 ≤ b → b ≠ 509 → V' b = V b
theorem FrQ.refl {V : aV} : FrQ V V := fun _ _ _ => rfl
theorem FrQ.trans {V V1 V2 : aV} (h : FrQ V V1) (g : FrQ V1 V2) : FrQ V V2 := fun b q1 q2 => (g b q1 q2).trans (h b q1 q2)
theorem FrX.q {V V' : aV} (h : FrX V V') : FrQ V V' := fun b q _ => h b q
theorem FrQ.aa {V V' : aV} {n : Nat} (h : FrQ V V') (a : AA V n ent) : AA V' n ent := a.fr (h 505 (by decide) (by decide))
def TP (V : aV) (k j : Nat) (ent : Nat → EntN) (cnt : Nat) (mt po : Nat → Nat) (b st pa nr : Nat) (rt rr : Nat → Nat) (pd : Nat → Bool) (kn : Nat → Nat) (kl : Nat → Nat → KL) : Option Value → aS → aV → Prop := fun v S' V' => some (.int 1) = v ∧ Sh = S' ∧ SY V' k j ent cnt mt po b st pa nr rt rr pd kn kl ∧ FrQ V V'
set_option maxHeartbeats 4000000 in
theorem ct_says {V : aV} {k : Nat} {c : Int32} (h : SY V k j ent cnt mt po b st pa nr rt rr pd kn kl) (o : OL lT lTo ent cnt mt po b st nr rt rr pd i l g x) (hj : j < 1000) (hk : k < 1000) (hc : PF x.1 k [c]) : CT mL_says 10 3 18 [.ref 0, .int (nI i), .int (nI l), .ref 509, .int c] Sh V (TP V (k + 1) j ent cnt mt po b st pa nr rt rr pd kn kl) aNo := by
  refine CT_of (by decide +kernel) (Nat.le_of_ble_eq_true rfl) ?_
  show R _ _ _ _ _ _ _ _ 0 [some (.ref 0), some (.int (nI i)), some (.int (nI l)), some (.ref 509), some (.int c)] [] _ _
  obtain ⟨h0, e0, e1⟩ := h
  have f1 : ∀ v, FrQ V (a_up V 509 0 v) := fun v b _ q => a_up_row q
  have h1 : ∀ v, CSt (a_up V 509 0 v) [] lT lTo ent cnt mt po b st pa nr rt rr pd kn kl := fun v => h0.low (fun b hb => a_up_row (by omega))
  refine R_aload_3 dL_says_0 ?_
  refine R_iconst (v := 0) dL_says_1 (by decide) ?_
  refine R_dup2_11 dL_says_2 rfl rfl ?_
  refine R_iald dL_says_3 sh_509 (vp_in_nI (n := 0) (by decide) (by decide)) rfl e0 ?_
  refine R_iconst (v := 1) dL_says_4 (by decide) ?_
  
  refine R_iadd dL_says_5 ?_
  rw [nI_1]
  refine R_iast dL_says_6 sh_509 (vp_in_nI (n := 0) (by decide) (by decide)) rfl ?_
  refine R_aload_3 dL_says_7 ?_
  refine R_iconst (v := 0) dL_says_8 (by decide) ?_
  refine R_iald dL_says_9 sh_509 (vp_in_nI (n := 0) (by decide) (by decide)) rfl (a_up_self _ _ _ _) ?_
  refine R_aload_3 dL_says_10 ?_
  refine R_iconst (v := 1) dL_says_11 (by decide) ?_
  refine R_iald dL_says_12 sh_509 (vp_in_nI (n := 1) (by decide) (by decide)) rfl ((a_up_ne (Or.inr (by decide))).trans e1) ?_
  refine R_iadd dL_says_13 ?_
  rw [nI_add]
  refine R_iconst (v := 5) dL_says_14 (by decide) ?_
  refine R_irem dL_says_15 (by decide) ?_
  rw [show nI (k + 1 + j) - nI (k + 1 + j) / 5 * 5 = nI ((k + 1 + j) % 5) from pk_rem (d := 5) (by omega) (by decide) (by decide)]
  refine R_if_gt 35 dL_says_16 (by decide) (fun c16 => ?_) (fun c16 => ?_)
  · refine R_iconst (v := 1) dL_says_35 (by decide) ?_
    refine R_goto 40 dL_says_36 (by decide) ?_
    refine R_zret rfl (by first | rfl | assumption) dL_says_40 (by first | exact ⟨rfl, rfl, ⟨h9, (congrFun (f9 509 (by decide)) 0).trans (a_up_self _ _ _ _), (congrFun (f9 509 (by decide)) 1).trans ((a_up_ne (Or.inr (by decide))).trans e1)⟩, (f1 _).trans f9.q⟩ | exact ⟨rfl, rfl, ⟨h1 _, a_up_self _ _ _ _, (a_up_ne (Or.inr (by decide))).trans e1⟩, f1 _⟩)
  · refine R_aload_0 dL_says_19 ?_
    refine R_iload_1 dL_says_20 ?_
    refine R_iload_2 dL_says_21 ?_
    refine R_aload_3 dL_says_22 ?_
    refine R_iconst (v := 0) dL_says_23 (by decide) ?_
    refine R_iald dL_says_24 sh_509 (vp_in_nI (n := 0) (by decide) (by decide)) rfl (a_up_self _ _ _ _) ?_
    refine R_iconst (v := 1) dL_says_25 (by decide) ?_
    refine R_isub dL_says_26 ?_
    rw [nI_pred]
    refine R_callV (T := mL_says) (T' := mX11_sign) (As := [_, _, _]) (ci := 11) okX11_sign mlL_57 rfl (by decide) sh_0 (lc_sign (p := k) (h1 _) o (by omega)) rfl (by decide) (by decide) (Nat.le_of_ble_eq_true rfl) dL_says_27 (fun v9 S9 V9 h9 => ?_) (fun E S9 V9 h9 => h9.elim)
    obtain ⟨rfl, rfl, h9, f9⟩ := h9
    have ec : lAt x.1 (nI k) = c := (lAt_nI (by omega)).trans hc.hd.1
    refine R_iload_4 dL_says_30 ?_
    refine R_icmp_ne 39 dL_says_32 (by decide) (fun c32 => absurd ec c32) (fun c32 => ?_)
    refine R_iconst (v := 1) dL_says_35 (by decide) ?_
    refine R_goto 40 dL_says_36 (by decide) ?_
    refine R_zret rfl (by first | rfl | assumption) dL_says_40 (by first | exact ⟨rfl, rfl, ⟨h9, (congrFun (f9 509 (by decide)) 0).trans (a_up_self _ _ _ _), (congrFun (f9 509 (by decide)) 1).trans ((a_up_ne (Or.inr (by decide))).trans e1)⟩, (f1 _).trans f9.q⟩ | exact ⟨rfl, rfl, ⟨h1 _, a_up_self _ _ _ _, (a_up_ne (Or.inr (by decide))).trans e1⟩, f1 _⟩)

theorem dg48 {a : Nat} : (48 : Int32) + nI a = nI (48 + a) := nI_add 48 a
theorem rm10 {a : Nat} (h : a < 2 ^ 31) : nI a - nI a / 10 * 10 = nI (a % 10) := pk_rem (d := 10) h (by decide) (by decide)
theorem dv10 {a : Nat} (h : a < 2 ^ 31) : nI a / 10 = nI (a / 10) := pk_div (d := 10) h (by decide) (by decide)
theorem dv100 {a : Nat} (h : a < 2 ^ 31) : nI a / 100 = nI (a / 100) := pk_div (d := 100) h (by decide) (by decide)
theorem x160 (o : OL lT lTo ent cnt mt po b st nr rt rr pd i l g x) {V : aV} (h : CSt V [] lT lTo ent cnt mt po b st pa nr rt rr pd kn kl) : x.1.length ≤ 160 := by
  have := OL.lcn (kn := kn) o
  exact (ltr_ok (fun k => (h.2.2.1.2 k).2) h.2.2.2.1.2.1 (by rw [← o.2.2.2.2.2.1]; exact dLst_mbr h.2.2.2.1.2.2.1.1 h.2.2.2.1.1 o.2.2.2.1) o.2.2.2.2.2.2).1
/-- one says -/
theorem cs_1 {V : aV} {k : Nat} {c : Int32} (h : SY V k j ent cnt mt po b st pa nr rt rr pd kn kl) (o : OL lT lTo ent cnt mt po b st nr rt rr pd i l g x) (hj : j < 1000) (hc : PF x.1 k [c]) : CT mL_says 10 3 18 [.ref 0, .int (nI i), .int (nI l), .ref 509, .int c] Sh V (TP V (k + 1) j ent cnt mt po b st pa nr rt rr pd kn kl) aNo := by
  have h1 := x160 o h.1
  have h2 := hc.hd.2
  exact ct_says h o hj (by omega) hc
set_option maxHeartbeats 4000000 in
theorem te2 {V0 V : aV} {k ke v : Nat} {z : Option Value} (h : SY V k j ent cnt mt po b st pa nr rt rr pd kn kl) (o : OL lT lTo ent cnt mt po b st nr rt rr pd i l g x) (hj : j < 1000) (f : FrQ V0 V) (hv : v < 1000) (hx : PF x.1 k [nI (48 + v % 10)]) (he : k + 1 = ke) : R mL_tells 11 9 54 (TP V0 ke j ent cnt mt po b st pa nr rt rr pd kn kl) aNo 3 18 70 [some (.ref 0), some (.int (nI i)), some (.int (nI l)), some (.ref 509), some (.int (nI v)), z] [.int 1] Sh V := by
  subst he
  refine R_istore_5 rfl (by decide) dL_tells_70 ?_
  refine R_iload_5 dL_tells_72 ?_
  refine R_if_eq 99 dL_tells_74 (by decide) (fun c74 => absurd c74 (by decide)) (fun c74 => ?_)
  refine R_aload_0 dL_tells_77 ?_
  refine R_iload_1 dL_tells_78 ?_
  refine R_iload_2 dL_tells_79 ?_
  refine R_aload_3 dL_tells_80 ?_
  refine R_bipush (v := 48) dL_tells_81 (by decide) ?_
  refine R_iload_4 dL_tells_83 ?_
  refine R_bipush (v := 10) dL_tells_85 (by decide) ?_
  refine R_irem dL_tells_87 (by decide) ?_
  rw [rm10 (by omega)]
  refine R_iadd dL_tells_88 ?_
  rw [dg48]
  refine R_callS (T := mL_tells) (T' := mL_says) (As := [_, _, _, _, _]) okL_says mlL_61 rfl (cs_1 h o hj hx) rfl (by decide) (by decide) (Nat.le_of_ble_eq_true rfl) dL_tells_89 (fun v9 S9 V9 h9 => ?_) (fun E S9 V9 h9 => h9.elim)
  obtain ⟨rfl, rfl, h1, g1⟩ := h9
  refine R_if_eq 99 dL_tells_92 (by decide) (fun c92 => absurd c92 (by decide)) (fun c92 => ?_)
  refine R_iconst (v := 1) dL_tells_95 (by decide) ?_
  refine R_goto 100 dL_tells_96 (by decide) ?_
  refine R_zret rfl (by first | rfl | assumption) dL_tells_100 ⟨rfl, rfl, h1, f.trans g1⟩
set_option maxHeartbeats 4000000 in
theorem te1 {V0 V : aV} {k ke v : Nat} {z : Option Value} (h : SY V k j ent cnt mt po b st pa nr rt rr pd kn kl) (o : OL lT lTo ent cnt mt po b st nr rt rr pd i l g x) (hj : j < 1000) (f : FrQ V0 V) (hv : v < 1000) (hx : PF x.1 k ((if 10 ≤ v then [nI (48 + v / 10 % 10)] else []) ++ [nI (48 + v % 10)])) (he : k + ((if 10 ≤ v then [nI (48 + v / 10 % 10)] else []) ++ [nI (48 + v % 10)] : List Int32).length = ke) : R mL_tells 11 9 54 (TP V0 ke j ent cnt mt po b st pa nr rt rr pd kn kl) aNo 6 36 30 [some (.ref 0), some (.int (nI i)), some (.int (nI l)), some (.ref 509), some (.int (nI v)), z] [.int 1] Sh V := by
  refine R_istore_5 rfl (by decide) dL_tells_30 ?_
  refine R_iload_5 dL_tells_32 ?_
  refine R_if_eq 69 dL_tells_34 (by decide) (fun c34 => absurd c34 (by decide)) (fun c34 => ?_)
  refine R_iload_4 dL_tells_37 ?_
  refine R_bipush (v := 10) dL_tells_39 (by decide) ?_
  refine R_icmp_lt 65 dL_tells_41 (by decide) (fun c41 => ?_) (fun c41 => ?_)
  · refine R_iconst (v := 1) dL_tells_65 (by decide) ?_
    refine R_goto 70 dL_tells_66 (by decide) ?_
    first
      | (have v9 : ¬ 10 ≤ v := fun q => absurd ((nI_ltI (a := v) (b := 10) (by omega) (by decide)).1 c41) (by omega)
         rw [if_neg v9] at hx he
         exact R_less (by decide) (by decide) (te2 h o hj f hv hx he))
      | exact te2 h1 o hj (f.trans g1) hv hx.r he
  · have v10 : 10 ≤ v := Nat.le_of_not_lt fun q => c41 (nI_lt (a := v) (b := 10) q (by decide))
    rw [if_pos v10] at hx he
    refine R_aload_0 dL_tells_44 ?_
    refine R_iload_1 dL_tells_45 ?_
    refine R_iload_2 dL_tells_46 ?_
    refine R_aload_3 dL_tells_47 ?_
    refine R_bipush (v := 48) dL_tells_48 (by decide) ?_
    refine R_iload_4 dL_tells_50 ?_
    refine R_bipush (v := 10) dL_tells_52 (by decide) ?_
    refine R_idiv dL_tells_54 (by decide) ?_
    rw [dv10 (by omega)]
    refine R_bipush (v := 10) dL_tells_55 (by decide) ?_
    refine R_irem dL_tells_57 (by decide) ?_
    rw [rm10 (by omega)]
    refine R_iadd dL_tells_58 ?_
    rw [dg48]
    refine R_callS (T := mL_tells) (T' := mL_says) (As := [_, _, _, _, _]) okL_says mlL_61 rfl (cs_1 h o hj hx.l) rfl (by decide) (by decide) (Nat.le_of_ble_eq_true rfl) dL_tells_59 (fun v9 S9 V9 h9 => ?_) (fun E S9 V9 h9 => h9.elim)
    obtain ⟨rfl, rfl, h1, g1⟩ := h9
    refine R_if_eq 69 dL_tells_62 (by decide) (fun c62 => absurd c62 (by decide)) (fun c62 => ?_)
    refine R_iconst (v := 1) dL_tells_65 (by decide) ?_
    refine R_goto 70 dL_tells_66 (by decide) ?_
    first
      | (have v9 : ¬ 10 ≤ v := fun q => absurd ((nI_ltI (a := v) (b := 10) (by omega) (by decide)).1 c41) (by omega)
         rw [if_neg v9] at hx he
         exact R_less (by decide) (by decide) (te2 h o hj f hv hx he))
      | exact te2 h1 o hj (f.trans g1) hv hx.r he
set_option maxHeartbeats 4000000 in
theorem ct_tells {V : aV} {k v : Nat} (h : SY V k j ent cnt mt po b st pa nr rt rr pd kn kl) (o : OL lT lTo ent cnt mt po b st nr rt rr pd i l g x) (hj : j < 1000) (hv : v < 1000) (hx : PF x.1 k (tl v)) : CT mL_tells 11 9 54 [.ref 0, .int (nI i), .int (nI l), .ref 509, .int (nI v)] Sh V (TP V (k + (tl v).length) j ent cnt mt po b st pa nr rt rr pd kn kl) aNo := by
  refine CT_of (by decide +kernel) (Nat.le_of_ble_eq_true rfl) ?_
  show R _ _ _ _ _ _ _ _ 0 [some (.ref 0), some (.int (nI i)), some (.int (nI l)), some (.ref 509), some (.int (nI v)), none] [] _ _
  unfold tl at hx
  refine R_iload_4 dL_tells_0 ?_
  refine R_bipush (v := 100) dL_tells_2 (by decide) ?_
  refine R_icmp_lt 25 dL_tells_4 (by decide) (fun c4 => ?_) (fun c4 => ?_)
  · refine R_iconst (v := 1) dL_tells_25 (by decide) ?_
    refine R_goto 30 dL_tells_26 (by decide) ?_
    first
      | (have v9 : ¬ 100 ≤ v := fun q => absurd ((nI_ltI (a := v) (b := 100) (by omega) (by decide)).1 c4) (by omega)
         rw [if_neg v9] at hx
         exact R_less (by decide) (by decide) (te1 h o hj FrQ.refl hv hx (by unfold tl; rw [if_neg v9]; rfl)))
      | exact te1 h1 o hj g1 hv hx.r (by unfold tl; rw [if_pos v10]; simp only [List.length_append, List.length_cons, List.length_nil]; omega)
  · have v10 : 100 ≤ v := Nat.le_of_not_lt fun q => c4 (nI_lt (a := v) (b := 100) q (by decide))
    rw [if_pos v10] at hx
    refine R_aload_0 dL_tells_7 ?_
    refine R_iload_1 dL_tells_8 ?_
    refine R_iload_2 dL_tells_9 ?_
    refine R_aload_3 dL_tells_10 ?_
    refine R_bipush (v := 48) dL_tells_11 (by decide) ?_
    refine R_iload_4 dL_tells_13 ?_
    refine R_bipush (v := 100) dL_tells_15 (by decide) ?_
    refine R_idiv dL_tells_17 (by decide) ?_
    rw [dv100 (by omega)]
    refine R_iadd dL_tells_18 ?_
    rw [dg48]
    refine R_callS (T := mL_tells) (T' := mL_says) (As := [_, _, _, _, _]) okL_says mlL_61 rfl (cs_1 h o hj hx.l) rfl (by decide) (by decide) (Nat.le_of_ble_eq_true rfl) dL_tells_19 (fun v9 S9 V9 h9 => ?_) (fun E S9 V9 h9 => h9.elim)
    obtain ⟨rfl, rfl, h1, g1⟩ := h9
    refine R_if_eq 29 dL_tells_22 (by decide) (fun c22 => absurd c22 (by decide)) (fun c22 => ?_)
    refine R_iconst (v := 1) dL_tells_25 (by decide) ?_
    refine R_goto 30 dL_tells_26 (by decide) ?_
    first
      | (have v9 : ¬ 100 ≤ v := fun q => absurd ((nI_ltI (a := v) (b := 100) (by omega) (by decide)).1 c4) (by omega)
         rw [if_neg v9] at hx
         exact R_less (by decide) (by decide) (te1 h o hj FrQ.refl hv hx (by unfold tl; rw [if_neg v9]; rfl)))
      | exact te1 h1 o hj g1 hv hx.r (by unfold tl; rw [if_pos v10]; simp only [List.length_append, List.length_cons, List.length_nil]; omega)

end SAY
