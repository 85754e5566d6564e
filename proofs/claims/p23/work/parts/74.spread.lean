/-! ===== the law: spread ===== -/
theorem isO_t {G : Nat} {po : Nat → Nat} {r o : Nat} {c : Bool} (h : isO G po r c o = true) (q : ¬ (G.testBit o = true ∧ (po o).testBit r = true)) : isO G po r c (o + 1) = true := by
  obtain ⟨h1, h2⟩ := (isO_iff o).1 h
  refine (isO_iff (o + 1)).2 ⟨h1, fun k hk hb => ?_⟩
  by_cases e : k = o
  · subst e
    rcases z : (po k).testBit r with _ | _
    · rfl
    · exact absurd ⟨hb, z⟩ q
  · exact h2 k (by omega) hb
theorem isO_f1 {G : Nat} {po : Nat → Nat} {r o : Nat} {c : Bool} (h : ¬ isO G po r c o = true) : ¬ isO G po r c (o + 1) = true := fun z => h ((isO_iff o).2 ⟨((isO_iff (o + 1)).1 z).1, fun k hk hb => ((isO_iff (o + 1)).1 z).2 k (by omega) hb⟩)
theorem isO_f2 {G : Nat} {po : Nat → Nat} {r o : Nat} {c : Bool} (h1 : G.testBit o = true) (h2 : (po o).testBit r = true) : ¬ isO G po r c (o + 1) = true := fun z => by
  rw [((isO_iff (o + 1)).1 z).2 o (by omega) h1] at h2
  cases h2
def stO (mt po : Nat → Nat) (r n : Nat) : Nat → Nat
  | 0 => 0
  | k + 1 => if isO (gOf mt k) po r true n = true then stO mt po r n k ||| 2 ^ k else stO mt po r n k
theorem stO_bit {mt po : Nat → Nat} {r n a : Nat} : ∀ k, (stO mt po r n k).testBit a = true ↔ (a < k ∧ isO (gOf mt a) po r true n = true)
  | 0 => ⟨fun h => by (rw [show stO mt po r n 0 = 0 from rfl, Nat.zero_testBit] at h; cases h), fun h => absurd h.1 (Nat.not_lt_zero a)⟩
  | k + 1 => by
    have ih := stO_bit (mt := mt) (po := po) (r := r) (n := n) (a := a) k
    show (if isO (gOf mt k) po r true n = true then stO mt po r n k ||| 2 ^ k else stO mt po r n k).testBit a = true ↔ _
    by_cases q : isO (gOf mt k) po r true n = true
    · rw [if_pos q, Nat.testBit_or, Bool.or_eq_true_iff, ih]
      constructor
      · rintro (⟨h1, h2⟩ | h)
        · exact ⟨by omega, h2⟩
        · have := tp_b h
          subst this
          exact ⟨by omega, q⟩
      · rintro ⟨h1, h2⟩
        by_cases e : a = k
        · subst e; exact Or.inr Nat.testBit_two_pow_self
        · exact Or.inl ⟨by omega, h2⟩
    · rw [if_neg q, ih]
      constructor
      · rintro ⟨h1, h2⟩
        exact ⟨by omega, h2⟩
      · rintro ⟨h1, h2⟩
        by_cases e : a = k
        · subst e; exact absurd h2 q
        · exact ⟨by omega, h2⟩
theorem stO_lt {mt po : Nat → Nat} {r n : Nat} : ∀ k, k ≤ 12 → stO mt po r n k < 2 ^ 12
  | 0, _ => (by decide : 0 < 2 ^ 12)
  | k + 1, h => by
    have ih := stO_lt (mt := mt) (po := po) (r := r) (n := n) k (by omega)
    show (if _ then _ else _) < _
    split
    · exact Nat.or_lt_two_pow ih (Nat.pow_lt_pow_right (by decide) (by omega))
    · exact ih
def sprk (mt po : Nat → Nat) (r n k : Nat) : Nat → Nat := fun a => if a < k ∧ isO (gOf mt a) po r true n = true then po a ||| 2 ^ r else po a
section SPR
variable {mc ms kc ks : Nat} {V0 : aV} {mt po : Nat → Nat} {n r i : Nat} {Q : Option Value → aS → aV → Prop} {QX : String → aS → aV → Prop}
set_option maxHeartbeats 4000000 in
theorem sI (h0 : V0 504 0 = .int (nI n)) (hr : V0 504 (20 + i) = .int (nI r)) (hi : i < 8) (hr8 : r < 8) (hg : GV V0 n (gOf mt)) (hp : ∀ a, a < 12 → po a < 2 ^ 8) (hs : sym mt n) (hn : n ≤ 12) (hw : MK V0 508 po) {s k : Nat} (hk : k < n) (ht : R mL_spread 0 mc ms Q QX kc ks 74 [some (.ref 504), some (.ref 507), some (.ref 508), some (.int (nI i)), some (.int (nI s)), some (.int (nI k)), some (.int (bI (isO (gOf mt k) po r true n = true))), none] [] Sh V0) : ∀ (m o : Nat), o + m = n → R mL_spread 0 mc ms Q QX kc ks 20 [some (.ref 504), some (.ref 507), some (.ref 508), some (.int (nI i)), some (.int (nI s)), some (.int (nI k)), some (.int (bI (isO (gOf mt k) po r true o = true))), some (.int (nI o))] [] Sh V0 := by
  intro m
  induction m with
  | zero =>
    intro o ho
    have e : o = n := by omega
    subst e
    refine R_iload_7 dL_spread_20 ?_
    refine R_aload_0 dL_spread_22 ?_
    refine R_iconst (v := 0) dL_spread_23 (by decide) ?_
    refine R_iald dL_spread_24 sh_504 (vp_in_nI (n := 0) (by decide) (by decide)) rfl h0 ?_
    refine R_icmp_ge 74 dL_spread_25 (by decide) (fun c25 => ?_) (fun c25 => absurd (nI_le (Nat.le_refl _) (by omega)) c25)
    refine R_drop_7 ?_
    exact ht
  | succ m ih =>
    intro o ho
    have gk := hg k hk
    have lk := gOf_l hs (a := k) (by omega)
    have wo := (hw o (by omega)).1
    have lo := hp o (by omega)
    refine R_iload_7 dL_spread_20 ?_
    refine R_aload_0 dL_spread_22 ?_
    refine R_iconst (v := 0) dL_spread_23 (by decide) ?_
    refine R_iald dL_spread_24 sh_504 (vp_in_nI (n := 0) (by decide) (by decide)) rfl h0 ?_
    refine R_icmp_ge 74 dL_spread_25 (by decide) (fun c25 => absurd c25 (nI_ge (by omega) (by omega))) (fun c25 => ?_)
    refine R_iload_6 dL_spread_28 ?_
    refine R_if_eq 65 dL_spread_30 (by decide) (fun c30 => ?_) (fun c30 => ?_)
    · refine R_iconst (v := 0) dL_spread_65 (by decide) ?_
      refine R_istore_6 rfl (by decide) dL_spread_66 ?_
      refine R_iinc_7 rfl (by decide) dL_spread_68 rfl ?_
      rw [show nI o + Int32.ofInt 1 = nI (o + 1) from nI_1 o]
      refine R_goto 20 dL_spread_71 (by decide) ?_
      have q := ih (o + 1) (by omega)
      first
        | (rw [bI_f (isO_f1 (bI_eq c30))] at q; exact q)
        | (rw [bI_t (isO_t (bI_ne c30) (fun z => bI_eq c42 z.1))] at q; exact q)
        | (rw [bI_t (isO_t (bI_ne c30) (fun z => bI_eq c58 z.2))] at q; exact q)
        | (rw [bI_f (isO_f2 (bI_ne c42) (bI_ne c58))] at q; exact q)
    · refine R_aload_1 dL_spread_33 ?_
      refine R_iload_5 dL_spread_34 ?_
      refine R_iald dL_spread_36 sh_507 (vp_in_nI (by omega) (by decide)) (nI_clamp (by omega)) gk ?_
      refine R_iload_7 dL_spread_37 ?_
      refine R_ishr dL_spread_39 ?_
      refine R_iconst (v := 1) dL_spread_40 (by decide) ?_
      refine R_iand dL_spread_41 ?_
      rw [mb_sh (by omega) (by omega)]
      refine R_if_eq 61 dL_spread_42 (by decide) (fun c42 => ?_) (fun c42 => ?_)
      · refine R_iconst (v := 1) dL_spread_61 (by decide) ?_
        refine R_goto 66 dL_spread_62 (by decide) ?_
        refine R_istore_6 rfl (by decide) dL_spread_66 ?_
        refine R_iinc_7 rfl (by decide) dL_spread_68 rfl ?_
        rw [show nI o + Int32.ofInt 1 = nI (o + 1) from nI_1 o]
        refine R_goto 20 dL_spread_71 (by decide) ?_
        have q := ih (o + 1) (by omega)
        first
          | (rw [bI_f (isO_f1 (bI_eq c30))] at q; exact q)
          | (rw [bI_t (isO_t (bI_ne c30) (fun z => bI_eq c42 z.1))] at q; exact q)
          | (rw [bI_t (isO_t (bI_ne c30) (fun z => bI_eq c58 z.2))] at q; exact q)
          | (rw [bI_f (isO_f2 (bI_ne c42) (bI_ne c58))] at q; exact q)
      · refine R_aload_2 dL_spread_45 ?_
        refine R_iload_7 dL_spread_46 ?_
        refine R_iald dL_spread_48 sh_508 (vp_in_nI (by omega) (by decide)) (nI_clamp (by omega)) wo ?_
        refine R_aload_0 dL_spread_49 ?_
        refine R_bipush (v := 20) dL_spread_50 (by decide) ?_
        refine R_iload_3 dL_spread_52 ?_
        refine R_iadd dL_spread_53 ?_
        rw [show (20 : Int32) + nI i = nI (20 + i) from nI_add 20 i]
        refine R_iald dL_spread_54 sh_504 (vp_in_nI (by omega) (by decide)) (nI_clamp (by omega)) hr ?_
        refine R_ishr dL_spread_55 ?_
        refine R_iconst (v := 1) dL_spread_56 (by decide) ?_
        refine R_iand dL_spread_57 ?_
        rw [mb_sh (by omega) (by omega)]
        refine R_if_ne 65 dL_spread_58 (by decide) (fun c58 => ?_) (fun c58 => ?_)
        · refine R_iconst (v := 0) dL_spread_65 (by decide) ?_
          refine R_istore_6 rfl (by decide) dL_spread_66 ?_
          refine R_iinc_7 rfl (by decide) dL_spread_68 rfl ?_
          rw [show nI o + Int32.ofInt 1 = nI (o + 1) from nI_1 o]
          refine R_goto 20 dL_spread_71 (by decide) ?_
          have q := ih (o + 1) (by omega)
          first
            | (rw [bI_f (isO_f1 (bI_eq c30))] at q; exact q)
            | (rw [bI_t (isO_t (bI_ne c30) (fun z => bI_eq c42 z.1))] at q; exact q)
            | (rw [bI_t (isO_t (bI_ne c30) (fun z => bI_eq c58 z.2))] at q; exact q)
            | (rw [bI_f (isO_f2 (bI_ne c42) (bI_ne c58))] at q; exact q)
        · refine R_iconst (v := 1) dL_spread_61 (by decide) ?_
          refine R_goto 66 dL_spread_62 (by decide) ?_
          refine R_istore_6 rfl (by decide) dL_spread_66 ?_
          refine R_iinc_7 rfl (by decide) dL_spread_68 rfl ?_
          rw [show nI o + Int32.ofInt 1 = nI (o + 1) from nI_1 o]
          refine R_goto 20 dL_spread_71 (by decide) ?_
          have q := ih (o + 1) (by omega)
          first
            | (rw [bI_f (isO_f1 (bI_eq c30))] at q; exact q)
            | (rw [bI_t (isO_t (bI_ne c30) (fun z => bI_eq c42 z.1))] at q; exact q)
            | (rw [bI_t (isO_t (bI_ne c30) (fun z => bI_eq c58 z.2))] at q; exact q)
            | (rw [bI_f (isO_f2 (bI_ne c42) (bI_ne c58))] at q; exact q)
set_option maxHeartbeats 4000000 in
theorem sO (h0 : V0 504 0 = .int (nI n)) (hr : V0 504 (20 + i) = .int (nI r)) (hi : i < 8) (hr8 : r < 8) (hg : GV V0 n (gOf mt)) (hp : ∀ a, a < 12 → po a < 2 ^ 8) (hs : sym mt n) (hn : n ≤ 12) (hw : MK V0 508 po) (ht : R mL_spread 0 mc ms Q QX kc ks 98 [some (.ref 504), some (.ref 507), some (.ref 508), some (.int (nI i)), some (.int (nI (stO mt po r n n))), none, none, none] [] Sh V0) : ∀ (m k : Nat), k + m = n → R mL_spread 0 mc ms Q QX kc ks 6 [some (.ref 504), some (.ref 507), some (.ref 508), some (.int (nI i)), some (.int (nI (stO mt po r n k))), some (.int (nI k)), none, none] [] Sh V0 := by
  intro m
  induction m with
  | zero =>
    intro k hk
    have e : k = n := by omega
    subst e
    refine R_iload_5 dL_spread_6 ?_
    refine R_aload_0 dL_spread_8 ?_
    refine R_iconst (v := 0) dL_spread_9 (by decide) ?_
    refine R_iald dL_spread_10 sh_504 (vp_in_nI (n := 0) (by decide) (by decide)) rfl h0 ?_
    refine R_icmp_ge 98 dL_spread_11 (by decide) (fun c11 => ?_) (fun c11 => absurd (nI_le (Nat.le_refl _) (by omega)) c11)
    refine R_drop_5 ?_
    exact ht
  | succ m ih =>
    intro k hk
    refine R_iload_5 dL_spread_6 ?_
    refine R_aload_0 dL_spread_8 ?_
    refine R_iconst (v := 0) dL_spread_9 (by decide) ?_
    refine R_iald dL_spread_10 sh_504 (vp_in_nI (n := 0) (by decide) (by decide)) rfl h0 ?_
    refine R_icmp_ge 98 dL_spread_11 (by decide) (fun c11 => absurd c11 (nI_ge (by omega) (by omega))) (fun c11 => ?_)
    refine R_iconst (v := 1) dL_spread_14 (by decide) ?_
    refine R_istore_6 rfl (by decide) dL_spread_15 ?_
    refine R_iconst (v := 0) dL_spread_17 (by decide) ?_
    refine R_istore_7 rfl (by decide) dL_spread_18 ?_
    refine sI h0 hr hi hr8 hg hp hs hn hw (by omega) ?_ n 0 (by omega)
    refine R_iload_4 dL_spread_74 ?_
    refine R_iload_6 dL_spread_76 ?_
    refine R_if_eq 88 dL_spread_78 (by decide) (fun c78 => ?_) (fun c78 => ?_)
    · have hy := bI_eq c78
      have e : stO mt po r n (k + 1) = stO mt po r n k := if_neg hy
      refine R_iconst (v := 0) dL_spread_88 (by decide) ?_
      refine R_ior dL_spread_89 ?_
      first
        | rw [bk_or, ← e]
        | rw [show (0 : Int32) = nI 0 from rfl, bk_or, Nat.or_zero, ← e]
      refine R_istore_4 rfl (by decide) dL_spread_90 ?_
      refine R_iinc_5 rfl (by decide) dL_spread_92 rfl ?_
      rw [show nI k + Int32.ofInt 1 = nI (k + 1) from nI_1 k]
      refine R_goto 6 dL_spread_95 (by decide) ?_
      refine R_drop_6 ?_
      exact ih (k + 1) (by omega)
    · have hy := bI_ne c78
      have e : stO mt po r n (k + 1) = stO mt po r n k ||| 2 ^ k := if_pos hy
      refine R_iconst (v := 1) dL_spread_81 (by decide) ?_
      refine R_iload_5 dL_spread_82 ?_
      refine R_ishl dL_spread_84 ?_
      rw [bk_shl (by omega)]
      refine R_goto 89 dL_spread_85 (by decide) ?_
      refine R_ior dL_spread_89 ?_
      first
        | rw [bk_or, ← e]
        | rw [show (0 : Int32) = nI 0 from rfl, bk_or, Nat.or_zero, ← e]
      refine R_istore_4 rfl (by decide) dL_spread_90 ?_
      refine R_iinc_5 rfl (by decide) dL_spread_92 rfl ?_
      rw [show nI k + Int32.ofInt 1 = nI (k + 1) from nI_1 k]
      refine R_goto 6 dL_spread_95 (by decide) ?_
      refine R_drop_6 ?_
      exact ih (k + 1) (by omega)
set_option maxHeartbeats 4000000 in
theorem sW (h0 : V0 504 0 = .int (nI n)) (hr : V0 504 (20 + i) = .int (nI r)) (hi : i < 8) (hr8 : r < 8) (hg : GV V0 n (gOf mt)) (hp : ∀ a, a < 12 → po a < 2 ^ 8) (hs : sym mt n) (hn : n ≤ 12) (hQ : ∀ V', MK V' 508 (sprd mt po r n) → FrA V0 V' 508 → Q none Sh V') : ∀ (m k : Nat) (V : aV), k + m = n → MK V 508 (sprk mt po r n k) → FrA V0 V 508 → R mL_spread 0 mc ms Q QX kc ks 101 [some (.ref 504), some (.ref 507), some (.ref 508), some (.int (nI i)), some (.int (nI (stO mt po r n n))), some (.int (nI k)), none, none] [] Sh V := by
  intro m
  induction m with
  | zero =>
    intro k V hk hm f
    have e0 : V 504 0 = .int (nI n) := (congrFun (f 504 (by decide)) 0).trans h0
    have e : k = n := by omega
    subst e
    refine R_iload_5 dL_spread_101 ?_
    refine R_aload_0 dL_spread_103 ?_
    refine R_iconst (v := 0) dL_spread_104 (by decide) ?_
    refine R_iald dL_spread_105 sh_504 (vp_in_nI (n := 0) (by decide) (by decide)) rfl e0 ?_
    refine R_icmp_ge 145 dL_spread_106 (by decide) (fun c106 => ?_) (fun c106 => absurd (nI_le (Nat.le_refl _) (by omega)) c106)
    refine R_vret rfl dL_spread_145 (hQ V hm f)
  | succ m ih =>
    intro k V hk hm f
    have e0 : V 504 0 = .int (nI n) := (congrFun (f 504 (by decide)) 0).trans h0
    have er : V 504 (20 + i) = .int (nI r) := (congrFun (f 504 (by decide)) _).trans hr
    have ek : sprk mt po r n k k = po k := if_neg (fun z => Nat.lt_irrefl k z.1)
    have wk := (hm k (by omega)).1
    rw [ek] at wk
    have ls := stO_lt (mt := mt) (po := po) (r := r) (n := n) n hn
    have nx : ∀ v : Nat, v < 2 ^ 12 → sprk mt po r n (k + 1) k = v → MK (a_up V 508 k (.int (nI v))) 508 (sprk mt po r n (k + 1)) := fun v hv e a ha => by
      by_cases q : a = k
      · subst q; rw [e]; exact ⟨a_up_self _ _ _ _, hv⟩
      · have e2 : sprk mt po r n (k + 1) a = sprk mt po r n k a := by
          unfold sprk
          by_cases z : isO (gOf mt a) po r true n = true
          · by_cases y : a < k
            · rw [if_pos ⟨by omega, z⟩, if_pos ⟨y, z⟩]
            · rw [if_neg (fun x => by omega), if_neg (fun x => y x.1)]
          · rw [if_neg (fun x => z x.2), if_neg (fun x => z x.2)]
        rw [e2]
        exact ⟨(a_up_ne (Or.inr q)).trans (hm a ha).1, (hm a ha).2⟩
    refine R_iload_5 dL_spread_101 ?_
    refine R_aload_0 dL_spread_103 ?_
    refine R_iconst (v := 0) dL_spread_104 (by decide) ?_
    refine R_iald dL_spread_105 sh_504 (vp_in_nI (n := 0) (by decide) (by decide)) rfl e0 ?_
    refine R_icmp_ge 145 dL_spread_106 (by decide) (fun c106 => absurd c106 (nI_ge (by omega) (by omega))) (fun c106 => ?_)
    refine R_aload_2 dL_spread_109 ?_
    refine R_iload_5 dL_spread_110 ?_
    refine R_dup2_11 dL_spread_112 rfl rfl ?_
    refine R_iald dL_spread_113 sh_508 (vp_in_nI (by omega) (by decide)) (nI_clamp (by omega)) wk ?_
    refine R_iload_4 dL_spread_114 ?_
    refine R_iload_5 dL_spread_116 ?_
    refine R_ishr dL_spread_118 ?_
    refine R_iconst (v := 1) dL_spread_119 (by decide) ?_
    refine R_iand dL_spread_120 ?_
    rw [mb_sh (by omega) (by omega)]
    refine R_iconst (v := 1) dL_spread_121 (by decide) ?_
    refine R_icmp_ne 136 dL_spread_122 (by decide) (fun c122 => ?_) (fun c122 => ?_)
    · have hy := bI_n1 c122
      have ev : sprk mt po r n (k + 1) k = po k := if_neg (fun z => hy ((stO_bit n).2 ⟨by omega, z.2⟩))
      refine R_iconst (v := 0) dL_spread_136 (by decide) ?_
      refine R_ior dL_spread_137 ?_
      first
        | rw [bk_or]
        | rw [show (0 : Int32) = nI 0 from rfl, bk_or, Nat.or_zero]
      refine R_iast dL_spread_138 sh_508 (vp_in_nI (by omega) (by decide)) (nI_clamp (by omega)) ?_
      refine R_iinc_5 rfl (by decide) dL_spread_139 rfl ?_
      rw [show nI k + Int32.ofInt 1 = nI (k + 1) from nI_1 k]
      refine R_goto 101 dL_spread_142 (by decide) ?_
      have hpk := hp k (by omega)
      first
        | exact ih (k + 1) _ (by omega) (nx _ (Nat.or_lt_two_pow (by omega) (Nat.pow_lt_pow_right (by decide) (by omega))) ev) f.up
        | exact ih (k + 1) _ (by omega) (nx _ (by omega) ev) f.up
    · have hy := (stO_bit n).1 (bI_1 c122)
      have ev : sprk mt po r n (k + 1) k = po k ||| 2 ^ r := if_pos ⟨by omega, hy.2⟩
      refine R_iconst (v := 1) dL_spread_125 (by decide) ?_
      refine R_aload_0 dL_spread_126 ?_
      refine R_bipush (v := 20) dL_spread_127 (by decide) ?_
      refine R_iload_3 dL_spread_129 ?_
      refine R_iadd dL_spread_130 ?_
      rw [show (20 : Int32) + nI i = nI (20 + i) from nI_add 20 i]
      refine R_iald dL_spread_131 sh_504 (vp_in_nI (by omega) (by decide)) (nI_clamp (by omega)) er ?_
      refine R_ishl dL_spread_132 ?_
      rw [bk_shl (by omega)]
      refine R_goto 137 dL_spread_133 (by decide) ?_
      refine R_ior dL_spread_137 ?_
      first
        | rw [bk_or]
        | rw [show (0 : Int32) = nI 0 from rfl, bk_or, Nat.or_zero]
      refine R_iast dL_spread_138 sh_508 (vp_in_nI (by omega) (by decide)) (nI_clamp (by omega)) ?_
      refine R_iinc_5 rfl (by decide) dL_spread_139 rfl ?_
      rw [show nI k + Int32.ofInt 1 = nI (k + 1) from nI_1 k]
      refine R_goto 101 dL_spread_142 (by decide) ?_
      have hpk := hp k (by omega)
      first
        | exact ih (k + 1) _ (by omega) (nx _ (Nat.or_lt_two_pow (by omega) (Nat.pow_lt_pow_right (by decide) (by omega))) ev) f.up
        | exact ih (k + 1) _ (by omega) (nx _ (by omega) ev) f.up
end SPR
set_option maxHeartbeats 4000000 in
theorem ct_spread {V : aV} {mt po : Nat → Nat} {n r i : Nat} (h0 : V 504 0 = .int (nI n)) (hr : V 504 (20 + i) = .int (nI r)) (hi : i < 8) (hr8 : r < 8) (hg : GV V n (gOf mt)) (hw : MK V 508 po) (hp : ∀ a, a < 12 → po a < 2 ^ 8) (hs : sym mt n) (hn : n ≤ 12) : CT mL_spread 0 0 0 [.ref 504, .ref 507, .ref 508, .int (nI i)] Sh V (fun v S' V' => none = v ∧ Sh = S' ∧ MK V' 508 (sprd mt po r n) ∧ FrA V V' 508) aNo := by
  refine CT_of (by decide +kernel) (Nat.le_of_ble_eq_true rfl) ?_
  show R _ _ _ _ _ _ _ _ 0 [some (.ref 504), some (.ref 507), some (.ref 508), some (.int (nI i)), none, none, none, none] [] _ _
  refine R_iconst (v := 0) dL_spread_0 (by decide) ?_
  refine R_istore_4 rfl (by decide) dL_spread_1 ?_
  refine R_iconst (v := 0) dL_spread_3 (by decide) ?_
  refine R_istore_5 rfl (by decide) dL_spread_4 ?_
  refine sO h0 hr hi hr8 hg hp hs hn hw ?_ n 0 (by omega)
  refine R_iconst (v := 0) dL_spread_98 (by decide) ?_
  refine R_istore_5 rfl (by decide) dL_spread_99 ?_
  refine sW h0 hr hi hr8 hg hp hs hn (fun V' hm hf => ⟨rfl, rfl, hm, hf⟩) n 0 V (by omega) ?_ FrA.refl
  intro a ha
  rw [show sprk mt po r n 0 a = po a from if_neg (fun z => Nat.not_lt_zero a z.1)]
  exact hw a ha

