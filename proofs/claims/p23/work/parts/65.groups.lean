/-! ===== the law: groups ===== -/
def GV (V : aV) (n : Nat) (g : Nat → Nat) : Prop := ∀ k, k < n → V 507 k = .int (nI (g k))
/-- nothing but the row a has changed -/
def FrA (V V' : aV) (a : Nat) : Prop := ∀ b, b ≠ a → V' b = V b
theorem FrA.refl {V : aV} {a : Nat} : FrA V V a := fun _ _ => rfl
theorem FrA.up {V V' : aV} {a k : Nat} {v : Value} (h : FrA V V' a) : FrA V (a_up V' a k v) a := fun b hb => (a_up_row hb).trans (h b hb)
theorem GV.up {V : aV} {n k x : Nat} {g : Nat → Nat} (h : GV V n g) : GV (a_up V 507 k (.int (nI x))) n (upN g k x) := fun i hi => by
  by_cases e : i = k
  · subst e; rw [upN_s]; exact a_up_self _ _ _ _
  · rw [upN_n e]; exact (a_up_ne (Or.inr e)).trans (h i hi)
theorem bI_1 {P : Prop} [Decidable P] (h : bI P = 1) : P := bI_ne (fun z => by rw [h] at z; exact absurd z (by decide))
theorem bI_n1 {P : Prop} [Decidable P] (h : ¬ bI P = 1) : ¬ P := fun z => h (bI_t z)
section GRP
variable {mc ms kc ks : Nat} {V0 : aV} {mt : Nat → Nat} {n : Nat} {Q : Option Value → aS → aV → Prop} {QX : String → aS → aV → Prop}
set_option maxHeartbeats 4000000 in
theorem gA (h0 : V0 504 0 = .int (nI n)) (hm : MK V0 506 mt) (hs : sym mt n) (hn : n ≤ 12) (ht : ∀ V', GV V' n (fun k => 2 ^ k) → FrA V0 V' 507 → R mL_groups 0 mc ms Q QX kc ks 21 [some (.ref 504), some (.ref 506), some (.ref 507), none, none, none] [] Sh V') : ∀ (m k : Nat) (V : aV), k + m = n → GV V k (fun k => 2 ^ k) → FrA V0 V 507 → R mL_groups 0 mc ms Q QX kc ks 2 [some (.ref 504), some (.ref 506), some (.ref 507), some (.int (nI k)), none, none] [] Sh V := by
  intro m
  induction m with
  | zero =>
    intro k V hk hg hf
    have e0 : V 504 0 = .int (nI n) := (congrFun (hf 504 (by decide)) 0).trans h0
    have e : k = n := by omega
    subst e
    refine R_iload_3 dL_groups_2 ?_
    refine R_aload_0 dL_groups_3 ?_
    refine R_iconst (v := 0) dL_groups_4 (by decide) ?_
    refine R_iald dL_groups_5 sh_504 (vp_in_nI (n := 0) (by decide) (by decide)) rfl e0 ?_
    refine R_icmp_ge 21 dL_groups_6 (by decide) (fun c6 => ?_) (fun c6 => absurd (nI_le (Nat.le_refl _) (by omega)) c6)
    refine R_drop_3 ?_
    exact ht V hg hf
  | succ m ih =>
    intro k V hk hg hf
    have e0 : V 504 0 = .int (nI n) := (congrFun (hf 504 (by decide)) 0).trans h0
    refine R_iload_3 dL_groups_2 ?_
    refine R_aload_0 dL_groups_3 ?_
    refine R_iconst (v := 0) dL_groups_4 (by decide) ?_
    refine R_iald dL_groups_5 sh_504 (vp_in_nI (n := 0) (by decide) (by decide)) rfl e0 ?_
    refine R_icmp_ge 21 dL_groups_6 (by decide) (fun c6 => absurd c6 (nI_ge (by omega) (by omega))) (fun c6 => ?_)
    refine R_aload_2 dL_groups_9 ?_
    refine R_iload_3 dL_groups_10 ?_
    refine R_iconst (v := 1) dL_groups_11 (by decide) ?_
    refine R_iload_3 dL_groups_12 ?_
    refine R_ishl dL_groups_13 ?_
    rw [bk_shl (by omega)]
    refine R_iast dL_groups_14 sh_507 (vp_in_nI (by omega) (by decide)) (nI_clamp (by omega)) ?_
    refine R_iinc_3 rfl (by decide) dL_groups_15 rfl ?_
    rw [show nI k + Int32.ofInt 1 = nI (k + 1) from nI_1 k]
    refine R_goto 2 dL_groups_18 (by decide) ?_
    refine ih (k + 1) _ (by omega) (fun i hi => ?_) hf.up
    by_cases q : i = k
    · subst q; exact a_up_self _ _ _ _
    · exact (a_up_ne (Or.inr q)).trans (hg i (by omega))
set_option maxHeartbeats 4000000 in
theorem gD (h0 : V0 504 0 = .int (nI n)) (hm : MK V0 506 mt) (hs : sym mt n) (hn : n ≤ 12) {r k : Nat} (hk : k < n) (ht : ∀ g' V', GM mt n r k n g' → GV V' n g' → FrA V0 V' 507 → R mL_groups 0 mc ms Q QX kc ks 93 [some (.ref 504), some (.ref 506), some (.ref 507), some (.int (nI r)), some (.int (nI k)), none] [] Sh V') : ∀ (m o : Nat) (g : Nat → Nat) (V : aV), o + m = n → GM mt n r k o g → GV V n g → FrA V0 V 507 → R mL_groups 0 mc ms Q QX kc ks 44 [some (.ref 504), some (.ref 506), some (.ref 507), some (.int (nI r)), some (.int (nI k)), some (.int (nI o))] [] Sh V := by
  intro m
  induction m with
  | zero =>
    intro o g V ho hi hg hf
    have e0 : V 504 0 = .int (nI n) := (congrFun (hf 504 (by decide)) 0).trans h0
    have e : o = n := by omega
    subst e
    refine R_iload_5 dL_groups_44 ?_
    refine R_aload_0 dL_groups_46 ?_
    refine R_iconst (v := 0) dL_groups_47 (by decide) ?_
    refine R_iald dL_groups_48 sh_504 (vp_in_nI (n := 0) (by decide) (by decide)) rfl e0 ?_
    refine R_icmp_ge 93 dL_groups_49 (by decide) (fun c49 => ?_) (fun c49 => absurd (nI_le (Nat.le_refl _) (by omega)) c49)
    refine R_drop_5 ?_
    exact ht g V hi hg hf
  | succ m ih =>
    intro o g V ho hi hg hf
    have e0 : V 504 0 = .int (nI n) := (congrFun (hf 504 (by decide)) 0).trans h0
    have e6 : V 506 k = .int (nI (mt k)) := (congrFun (hf 506 (by decide)) k).trans (hm k (by omega)).1
    have hmk := (hm k (by omega)).2
    have gk := hg k hk
    have go := hg o (by omega)
    have lk := (hi.1 k hk).2.2
    have lo := (hi.1 o (by omega)).2.2
    refine R_iload_5 dL_groups_44 ?_
    refine R_aload_0 dL_groups_46 ?_
    refine R_iconst (v := 0) dL_groups_47 (by decide) ?_
    refine R_iald dL_groups_48 sh_504 (vp_in_nI (n := 0) (by decide) (by decide)) rfl e0 ?_
    refine R_icmp_ge 93 dL_groups_49 (by decide) (fun c49 => absurd c49 (nI_ge (by omega) (by omega))) (fun c49 => ?_)
    refine R_aload_1 dL_groups_52 ?_
    refine R_iload_4 dL_groups_53 ?_
    refine R_iald dL_groups_55 sh_506 (vp_in_nI (by omega) (by decide)) (nI_clamp (by omega)) e6 ?_
    refine R_iload_5 dL_groups_56 ?_
    refine R_ishr dL_groups_58 ?_
    refine R_iconst (v := 1) dL_groups_59 (by decide) ?_
    refine R_iand dL_groups_60 ?_
    rw [mb_sh (by omega) (by omega)]
    refine R_iconst (v := 1) dL_groups_61 (by decide) ?_
    refine R_icmp_ne 87 dL_groups_62 (by decide) (fun c62 => ?_) (fun c62 => ?_)
    · refine R_iinc_5 rfl (by decide) dL_groups_87 rfl ?_
      rw [show nI o + Int32.ofInt 1 = nI (o + 1) from nI_1 o]
      refine R_goto 44 dL_groups_90 (by decide) ?_
      first
        | exact ih (o + 1) g V (by omega) (hi.no (bI_n1 c62)) hg hf
        | exact ih (o + 1) _ _ (by omega) (hi.yes hs hn hk (by omega) hb) (hg.up.up) hf.up.up
    · have hb : (mt k).testBit o = true := bI_1 c62
      have hne : k ≠ o := (hs.2 k o (by omega) (by omega) hb).2.2.1
      refine R_aload_2 dL_groups_65 ?_
      refine R_iload_4 dL_groups_66 ?_
      refine R_dup2_11 dL_groups_68 rfl rfl ?_
      refine R_iald dL_groups_69 sh_507 (vp_in_nI (by omega) (by decide)) (nI_clamp (by omega)) gk ?_
      refine R_aload_2 dL_groups_70 ?_
      refine R_iload_5 dL_groups_71 ?_
      refine R_iald dL_groups_73 sh_507 (vp_in_nI (by omega) (by decide)) (nI_clamp (by omega)) go ?_
      refine R_ior dL_groups_74 ?_
      rw [bk_or]
      refine R_iast dL_groups_75 sh_507 (vp_in_nI (by omega) (by decide)) (nI_clamp (by omega)) ?_
      refine R_aload_2 dL_groups_76 ?_
      refine R_iload_5 dL_groups_77 ?_
      refine R_dup2_11 dL_groups_79 rfl rfl ?_
      refine R_iald dL_groups_80 sh_507 (vp_in_nI (by omega) (by decide)) (nI_clamp (by omega)) ((a_up_ne (Or.inr (Ne.symm hne))).trans go) ?_
      refine R_aload_2 dL_groups_81 ?_
      refine R_iload_4 dL_groups_82 ?_
      refine R_iald dL_groups_84 sh_507 (vp_in_nI (by omega) (by decide)) (nI_clamp (by omega)) (a_up_self _ _ _ _) ?_
      refine R_ior dL_groups_85 ?_
      rw [bk_or]
      refine R_iast dL_groups_86 sh_507 (vp_in_nI (by omega) (by decide)) (nI_clamp (by omega)) ?_
      refine R_iinc_5 rfl (by decide) dL_groups_87 rfl ?_
      rw [show nI o + Int32.ofInt 1 = nI (o + 1) from nI_1 o]
      refine R_goto 44 dL_groups_90 (by decide) ?_
      first
        | exact ih (o + 1) g V (by omega) (hi.no (bI_n1 c62)) hg hf
        | exact ih (o + 1) _ _ (by omega) (hi.yes hs hn hk (by omega) hb) (hg.up.up) hf.up.up
set_option maxHeartbeats 4000000 in
theorem gC (h0 : V0 504 0 = .int (nI n)) (hm : MK V0 506 mt) (hs : sym mt n) (hn : n ≤ 12) {r : Nat} (ht : ∀ g' V', GM mt n r n 0 g' → GV V' n g' → FrA V0 V' 507 → R mL_groups 0 mc ms Q QX kc ks 99 [some (.ref 504), some (.ref 506), some (.ref 507), some (.int (nI r)), none, none] [] Sh V') : ∀ (m k : Nat) (g : Nat → Nat) (V : aV), k + m = n → GM mt n r k 0 g → GV V n g → FrA V0 V 507 → R mL_groups 0 mc ms Q QX kc ks 33 [some (.ref 504), some (.ref 506), some (.ref 507), some (.int (nI r)), some (.int (nI k)), none] [] Sh V := by
  intro m
  induction m with
  | zero =>
    intro k g V hk hi hg hf
    have e0 : V 504 0 = .int (nI n) := (congrFun (hf 504 (by decide)) 0).trans h0
    have e : k = n := by omega
    subst e
    refine R_iload_4 dL_groups_33 ?_
    refine R_aload_0 dL_groups_35 ?_
    refine R_iconst (v := 0) dL_groups_36 (by decide) ?_
    refine R_iald dL_groups_37 sh_504 (vp_in_nI (n := 0) (by decide) (by decide)) rfl e0 ?_
    refine R_icmp_ge 99 dL_groups_38 (by decide) (fun c38 => ?_) (fun c38 => absurd (nI_le (Nat.le_refl _) (by omega)) c38)
    refine R_drop_4 ?_
    exact ht g V hi hg hf
  | succ m ih =>
    intro k g V hk hi hg hf
    have e0 : V 504 0 = .int (nI n) := (congrFun (hf 504 (by decide)) 0).trans h0
    refine R_iload_4 dL_groups_33 ?_
    refine R_aload_0 dL_groups_35 ?_
    refine R_iconst (v := 0) dL_groups_36 (by decide) ?_
    refine R_iald dL_groups_37 sh_504 (vp_in_nI (n := 0) (by decide) (by decide)) rfl e0 ?_
    refine R_icmp_ge 99 dL_groups_38 (by decide) (fun c38 => absurd c38 (nI_ge (by omega) (by omega))) (fun c38 => ?_)
    refine R_iconst (v := 0) dL_groups_41 (by decide) ?_
    refine R_istore_5 rfl (by decide) dL_groups_42 ?_
    refine gD h0 hm hs hn (by omega) (fun g' V' hi' hg' hf' => ?_) n 0 g V (by omega) hi hg hf
    refine R_iinc_4 rfl (by decide) dL_groups_93 rfl ?_
    rw [show nI k + Int32.ofInt 1 = nI (k + 1) from nI_1 k]
    refine R_goto 33 dL_groups_96 (by decide) ?_
    exact ih (k + 1) g' V' (by omega) hi'.row hg' hf'
set_option maxHeartbeats 4000000 in
theorem gB (h0 : V0 504 0 = .int (nI n)) (hm : MK V0 506 mt) (hs : sym mt n) (hn : n ≤ 12) (ht : ∀ g' V', GS mt n g' → GR mt n n g' → GV V' n g' → FrA V0 V' 507 → R mL_groups 0 mc ms Q QX kc ks 105 [some (.ref 504), some (.ref 506), some (.ref 507), none, none, none] [] Sh V') : ∀ (m r : Nat) (g : Nat → Nat) (V : aV), r + m = n → GS mt n g → GR mt n r g → GV V n g → FrA V0 V 507 → R mL_groups 0 mc ms Q QX kc ks 23 [some (.ref 504), some (.ref 506), some (.ref 507), some (.int (nI r)), none, none] [] Sh V := by
  intro m
  induction m with
  | zero =>
    intro r g V hr h1 h2 hg hf
    have e0 : V 504 0 = .int (nI n) := (congrFun (hf 504 (by decide)) 0).trans h0
    have e : r = n := by omega
    subst e
    refine R_iload_3 dL_groups_23 ?_
    refine R_aload_0 dL_groups_24 ?_
    refine R_iconst (v := 0) dL_groups_25 (by decide) ?_
    refine R_iald dL_groups_26 sh_504 (vp_in_nI (n := 0) (by decide) (by decide)) rfl e0 ?_
    refine R_icmp_ge 105 dL_groups_27 (by decide) (fun c27 => ?_) (fun c27 => absurd (nI_le (Nat.le_refl _) (by omega)) c27)
    refine R_drop_3 ?_
    exact ht g V h1 h2 hg hf
  | succ m ih =>
    intro r g V hr h1 h2 hg hf
    have e0 : V 504 0 = .int (nI n) := (congrFun (hf 504 (by decide)) 0).trans h0
    refine R_iload_3 dL_groups_23 ?_
    refine R_aload_0 dL_groups_24 ?_
    refine R_iconst (v := 0) dL_groups_25 (by decide) ?_
    refine R_iald dL_groups_26 sh_504 (vp_in_nI (n := 0) (by decide) (by decide)) rfl e0 ?_
    refine R_icmp_ge 105 dL_groups_27 (by decide) (fun c27 => absurd c27 (nI_ge (by omega) (by omega))) (fun c27 => ?_)
    refine R_iconst (v := 0) dL_groups_30 (by decide) ?_
    refine R_istore_4 rfl (by decide) dL_groups_31 ?_
    refine gC h0 hm hs hn (fun g' V' hi' hg' hf' => ?_) n 0 g V (by omega) (GM.start h1 h2) hg hf
    refine R_iinc_3 rfl (by decide) dL_groups_99 rfl ?_
    rw [show nI r + Int32.ofInt 1 = nI (r + 1) from nI_1 r]
    refine R_goto 23 dL_groups_102 (by decide) ?_
    exact ih (r + 1) g' V' (by omega) (GM.fin hs hi').1 (GM.fin hs hi').2 hg' hf'
theorem gOf_or {mt : Nat → Nat} {n k o : Nat} (hs : sym mt n) (hk : k < 12) (h : (gOf mt k).testBit o = true) : gOf mt k ||| gOf mt o = gOf mt k := by
  rw [gOf_mem hs hk h, Nat.or_self]
theorem GV.same {V : aV} {n k : Nat} {g : Nat → Nat} (h : GV V n g) : GV (a_up V 507 k (.int (nI (g k)))) n g := fun i hi => by
  by_cases e : i = k
  · subst e; exact a_up_self _ _ _ _
  · exact (a_up_ne (Or.inr e)).trans (h i hi)
set_option maxHeartbeats 4000000 in
theorem gF (h0 : V0 504 0 = .int (nI n)) (hm : MK V0 506 mt) (hs : sym mt n) (hn : n ≤ 12) {k : Nat} (hk : k < n) (ht : ∀ V', GV V' n (gOf mt) → FrA V0 V' 507 → R mL_groups 0 mc ms Q QX kc ks 157 [some (.ref 504), some (.ref 506), some (.ref 507), some (.int (nI k)), none, none] [] Sh V') : ∀ (m o : Nat) (V : aV), o + m = n → GV V n (gOf mt) → FrA V0 V 507 → R mL_groups 0 mc ms Q QX kc ks 117 [some (.ref 504), some (.ref 506), some (.ref 507), some (.int (nI k)), some (.int (nI o)), none] [] Sh V := by
  intro m
  induction m with
  | zero =>
    intro o V ho hg hf
    have e0 : V 504 0 = .int (nI n) := (congrFun (hf 504 (by decide)) 0).trans h0
    have e : o = n := by omega
    subst e
    refine R_iload_4 dL_groups_117 ?_
    refine R_aload_0 dL_groups_119 ?_
    refine R_iconst (v := 0) dL_groups_120 (by decide) ?_
    refine R_iald dL_groups_121 sh_504 (vp_in_nI (n := 0) (by decide) (by decide)) rfl e0 ?_
    refine R_icmp_ge 157 dL_groups_122 (by decide) (fun c122 => ?_) (fun c122 => absurd (nI_le (Nat.le_refl _) (by omega)) c122)
    refine R_drop_4 ?_
    exact ht V hg hf
  | succ m ih =>
    intro o V ho hg hf
    have e0 : V 504 0 = .int (nI n) := (congrFun (hf 504 (by decide)) 0).trans h0
    have gk := hg k hk
    have go := hg o (by omega)
    have lk := gOf_l hs (a := k) (by omega)
    refine R_iload_4 dL_groups_117 ?_
    refine R_aload_0 dL_groups_119 ?_
    refine R_iconst (v := 0) dL_groups_120 (by decide) ?_
    refine R_iald dL_groups_121 sh_504 (vp_in_nI (n := 0) (by decide) (by decide)) rfl e0 ?_
    refine R_icmp_ge 157 dL_groups_122 (by decide) (fun c122 => absurd c122 (nI_ge (by omega) (by omega))) (fun c122 => ?_)
    refine R_aload_2 dL_groups_125 ?_
    refine R_iload_3 dL_groups_126 ?_
    refine R_dup2_11 dL_groups_127 rfl rfl ?_
    refine R_iald dL_groups_128 sh_507 (vp_in_nI (by omega) (by decide)) (nI_clamp (by omega)) gk ?_
    refine R_aload_2 dL_groups_129 ?_
    refine R_iload_3 dL_groups_130 ?_
    refine R_iald dL_groups_131 sh_507 (vp_in_nI (by omega) (by decide)) (nI_clamp (by omega)) gk ?_
    refine R_iload_4 dL_groups_132 ?_
    refine R_ishr dL_groups_134 ?_
    refine R_iconst (v := 1) dL_groups_135 (by decide) ?_
    refine R_iand dL_groups_136 ?_
    rw [mb_sh (by omega) (by omega)]
    refine R_iconst (v := 1) dL_groups_137 (by decide) ?_
    refine R_icmp_ne 148 dL_groups_138 (by decide) (fun c138 => ?_) (fun c138 => ?_)
    · refine R_iconst (v := 0) dL_groups_148 (by decide) ?_
      refine R_ior dL_groups_149 ?_
      first
        | rw [bk_or, gOf_or hs (by omega) (bI_1 c138)]
        | rw [show (0 : Int32) = nI 0 from rfl, bk_or, Nat.or_zero]
      refine R_iast dL_groups_150 sh_507 (vp_in_nI (by omega) (by decide)) (nI_clamp (by omega)) ?_
      refine R_iinc_4 rfl (by decide) dL_groups_151 rfl ?_
      rw [show nI o + Int32.ofInt 1 = nI (o + 1) from nI_1 o]
      refine R_goto 117 dL_groups_154 (by decide) ?_
      exact ih (o + 1) _ (by omega) hg.same hf.up
    · refine R_aload_2 dL_groups_141 ?_
      refine R_iload_4 dL_groups_142 ?_
      refine R_iald dL_groups_144 sh_507 (vp_in_nI (by omega) (by decide)) (nI_clamp (by omega)) go ?_
      refine R_goto 149 dL_groups_145 (by decide) ?_
      refine R_ior dL_groups_149 ?_
      first
        | rw [bk_or, gOf_or hs (by omega) (bI_1 c138)]
        | rw [show (0 : Int32) = nI 0 from rfl, bk_or, Nat.or_zero]
      refine R_iast dL_groups_150 sh_507 (vp_in_nI (by omega) (by decide)) (nI_clamp (by omega)) ?_
      refine R_iinc_4 rfl (by decide) dL_groups_151 rfl ?_
      rw [show nI o + Int32.ofInt 1 = nI (o + 1) from nI_1 o]
      refine R_goto 117 dL_groups_154 (by decide) ?_
      exact ih (o + 1) _ (by omega) hg.same hf.up
set_option maxHeartbeats 4000000 in
theorem gE (h0 : V0 504 0 = .int (nI n)) (hm : MK V0 506 mt) (hs : sym mt n) (hn : n ≤ 12) (ht : ∀ V', GV V' n (gOf mt) → FrA V0 V' 507 → Q none Sh V') : ∀ (m k : Nat) (V : aV), k + m = n → GV V n (gOf mt) → FrA V0 V 507 → R mL_groups 0 mc ms Q QX kc ks 107 [some (.ref 504), some (.ref 506), some (.ref 507), some (.int (nI k)), none, none] [] Sh V := by
  intro m
  induction m with
  | zero =>
    intro k V hk hg hf
    have e0 : V 504 0 = .int (nI n) := (congrFun (hf 504 (by decide)) 0).trans h0
    have e : k = n := by omega
    subst e
    refine R_iload_3 dL_groups_107 ?_
    refine R_aload_0 dL_groups_108 ?_
    refine R_iconst (v := 0) dL_groups_109 (by decide) ?_
    refine R_iald dL_groups_110 sh_504 (vp_in_nI (n := 0) (by decide) (by decide)) rfl e0 ?_
    refine R_icmp_ge 163 dL_groups_111 (by decide) (fun c111 => ?_) (fun c111 => absurd (nI_le (Nat.le_refl _) (by omega)) c111)
    refine R_vret rfl dL_groups_163 (ht V hg hf)
  | succ m ih =>
    intro k V hk hg hf
    have e0 : V 504 0 = .int (nI n) := (congrFun (hf 504 (by decide)) 0).trans h0
    refine R_iload_3 dL_groups_107 ?_
    refine R_aload_0 dL_groups_108 ?_
    refine R_iconst (v := 0) dL_groups_109 (by decide) ?_
    refine R_iald dL_groups_110 sh_504 (vp_in_nI (n := 0) (by decide) (by decide)) rfl e0 ?_
    refine R_icmp_ge 163 dL_groups_111 (by decide) (fun c111 => absurd c111 (nI_ge (by omega) (by omega))) (fun c111 => ?_)
    refine R_iconst (v := 0) dL_groups_114 (by decide) ?_
    refine R_istore_4 rfl (by decide) dL_groups_115 ?_
    refine gF h0 hm hs hn (by omega) (fun V' hg' hf' => ?_) n 0 V (by omega) hg hf
    refine R_iinc_3 rfl (by decide) dL_groups_157 rfl ?_
    rw [show nI k + Int32.ofInt 1 = nI (k + 1) from nI_1 k]
    refine R_goto 107 dL_groups_160 (by decide) ?_
    exact ih (k + 1) V' (by omega) hg' hf'
end GRP
set_option maxHeartbeats 4000000 in
theorem ct_groups {V : aV} {mt : Nat → Nat} {n : Nat} (h0 : V 504 0 = .int (nI n)) (hm : MK V 506 mt) (hs : sym mt n) (hn : n ≤ 12) : CT mL_groups 0 0 0 [.ref 504, .ref 506, .ref 507] Sh V (fun v S' V' => none = v ∧ Sh = S' ∧ GV V' n (gOf mt) ∧ FrA V V' 507) aNo := by
  refine CT_of (by decide +kernel) (Nat.le_of_ble_eq_true rfl) ?_
  show R _ _ _ _ _ _ _ _ 0 [some (.ref 504), some (.ref 506), some (.ref 507), none, none, none] [] _ _
  refine R_iconst (v := 0) dL_groups_0 (by decide) ?_
  refine R_istore_3 rfl (by decide) dL_groups_1 ?_
  refine gA h0 hm hs hn (fun V1 g1 f1 => ?_) n 0 V (by omega) (fun i hi => absurd hi (Nat.not_lt_zero i)) FrA.refl
  refine R_iconst (v := 0) dL_groups_21 (by decide) ?_
  refine R_istore_3 rfl (by decide) dL_groups_22 ?_
  refine gB h0 hm hs hn (fun g2 V2 s2 r2 v2 f2 => ?_) n 0 _ V1 (by omega) (GS.init hn) GR.init g1 f1
  refine R_iconst (v := 0) dL_groups_105 (by decide) ?_
  refine R_istore_3 rfl (by decide) dL_groups_106 ?_
  exact gE h0 hm hs hn (fun V' hg hf => ⟨rfl, rfl, hg, hf⟩) n 0 V2 (by omega) (fun k hk => by rw [← GR.done hs hn s2 r2 hk]; exact v2 k hk) f2

