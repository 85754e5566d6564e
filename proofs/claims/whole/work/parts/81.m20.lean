/-! ===== MergePostModel: weight, cost, a letter, franking, run ===== -/
theorem lg_gt {a b : Nat} (ha : a < 2 ^ 63) (hb : b < 2 ^ 63) : (lg_cmp (lN a) (lN b) > 0) ↔ b < a := by
  have h := lg_le ha hb
  constructor
  · intro q
    exact Nat.lt_of_not_le (fun z => Int32.not_le.2 q (h.2 z))
  · intro q
    exact Int32.not_le.1 (fun z => absurd (h.1 z) (by omega))
set_option maxHeartbeats 4000000 in
theorem ct_mweightOf {S : aS} {V : aV} {n g : Nat} (hn : n < 1000) (hg : MBR g) : CT mX12_weightOf 1 0 0 [.int (nI n), .int (nI g)] S V (aRet (some (.int (nI (wgt n (bcn g 12))))) S V) aNo := by
  refine CT_of (by decide +kernel) (Nat.le_of_ble_eq_true rfl) ?_
  show R _ _ _ _ _ _ _ _ 0 [some (.int (nI n)), some (.int (nI g))] [] _ _
  have hm := bcn_le g 12
  have h1 : 1 ≤ bcn g 12 := by obtain ⟨-, a, ha, hb⟩ := hg; exact bcn_pos hb 12 ha
  refine R_bipush (v := 8) dX12_weightOf_0 (by decide) ?_
  refine R_iconst (v := 3) dX12_weightOf_2 (by decide) ?_
  refine R_iload_0 dX12_weightOf_3 ?_
  refine R_bipush (v := 19) dX12_weightOf_4 (by decide) ?_
  refine R_iadd dX12_weightOf_6 ?_
  refine R_bipush (v := 20) dX12_weightOf_7 (by decide) ?_
  rw [show nI n + 19 = nI (n + 19) from nI_add n 19]
  refine R_idiv dX12_weightOf_9 (by decide) ?_
  rw [show nI (n + 19) / 20 = nI ((n + 19) / 20) from pk_div (by omega) (by decide) (by decide)]
  refine R_imul dX12_weightOf_10 ?_
  rw [show (3 : Int32) * nI ((n + 19) / 20) = nI (3 * ((n + 19) / 20)) from pk_mul 3 _]
  refine R_iadd dX12_weightOf_11 ?_
  rw [show (8 : Int32) + nI (3 * ((n + 19) / 20)) = nI (8 + 3 * ((n + 19) / 20)) from nI_add 8 _]
  refine R_iconst (v := 2) dX12_weightOf_12 (by decide) ?_
  refine R_iload_1 dX12_weightOf_13 ?_
  refine R_callS_e (T := mX12_weightOf) (T' := mX12_many) (As := [_]) okX12_many mlX12_226 rfl (ct_many hg.1) rfl (by decide) (by decide) (Nat.le_of_ble_eq_true rfl) dX12_weightOf_14 ?_
  refine R_iconst (v := 1) dX12_weightOf_17 (by decide) ?_
  refine R_isub dX12_weightOf_18 ?_
  rw [show nI (bcn g 12) - 1 = nI (bcn g 12 - 1) from pk_sub h1]
  refine R_imul dX12_weightOf_19 ?_
  rw [show (2 : Int32) * nI (bcn g 12 - 1) = nI (2 * (bcn g 12 - 1)) from pk_mul 2 _]
  refine R_iadd dX12_weightOf_20 ?_
  rw [nI_add]
  refine R_iret rfl dX12_weightOf_21 ⟨rfl, rfl, rfl⟩

set_option maxHeartbeats 4000000 in
theorem fk_tail {mc ms kc ks : Nat} {V : aV} {b s w z : Nat} (h0 : V 504 19 = .int (nI b)) (h1 : V 504 20 = .int (nI s)) (hb : b < 2 ^ 31) (hs : s < 2 ^ 31) (hw : w < 1000) (hz : z < 6) {Q : Option Value → aS → aV → Prop} {QX : String → aS → aV → Prop} (hQ : Q (some (.int (kost b s w z))) Sh V) : R mX12_franked 0 mc ms Q QX kc ks 21 [some (.ref 504), some (.int (nI w)), some (.int (nI z)), none, none, none, none] [.long (lN (tens w))] Sh V := by
  have ht : tens w < 100 := by unfold tens; split <;> omega
  have hst : s * tens w ≤ 2 ^ 31 * 100 := Nat.mul_le_mul (by omega) (by omega)
  have hc : (b + s * tens w) * (z + 2) ≤ (2 ^ 31 + 2 ^ 31 * 100) * 8 := Nat.mul_le_mul (by omega) (by omega)
  have hc' : (b + s * tens w) * (z + 2) < 2 ^ 63 := by omega
  have hm : b + s * tens w ≤ (b + s * tens w) * (z + 2) := Nat.le_mul_of_pos_right _ (by omega)
  generalize htt : tens w = t at *
  have hcm : s * t + b = b + s * t := Nat.add_comm _ _
  generalize hu : s * t = u at *
  generalize hcc : (b + u) * (z + 2) = c at *
  have kp : c ≤ 2147483647 → kost b s w z = nI c := fun q => by unfold kost; rw [htt, hu, hcc]; exact if_pos q
  have kn : ¬ c ≤ 2147483647 → kost b s w z = -1 := fun q => by unfold kost; rw [htt, hu, hcc]; exact if_neg q
  refine R_lstore_3 rfl (by decide) dX12_franked_21 ?_
  refine R_aload_0 dX12_franked_22 ?_
  refine gfX12_63 rfl dX12_franked_23 sh_504 h1 ?_
  refine R_i2l dX12_franked_26 ?_
  rw [nI_l hs]
  refine R_lload_3 dX12_franked_27 ?_
  refine R_lmul dX12_franked_28 ?_
  rw [lN_mul, hu]
  refine R_lstore_5 rfl (by decide) dX12_franked_29 ?_
  refine R_lload_5 dX12_franked_31 ?_
  refine R_ldc2 dX12_franked_33 cwX12_271 ?_
  rw [(show (2147483647 : Int64) = lN 2147483647 from rfl)]
  refine R_lcmp dX12_franked_36 ?_
  refine R_if_gt 75 dX12_franked_37 (by decide) (fun c37 => ?_) (fun c37 => ?_)
  · refine R_iconst (v := -1) dX12_franked_75 (by decide) ?_
    refine R_iret rfl dX12_franked_76 (by rw [← kn (by first | exact fun q => absurd ((lg_gt (by omega) (by decide)).1 c37) (by omega) | exact fun q => absurd ((lg_gt (by omega) (by decide)).1 c52) (by omega) | exact fun q => c72 ((lg_le (by omega) (by decide)).2 q))]; exact hQ)
  · refine R_lload_5 dX12_franked_40 ?_
    refine R_aload_0 dX12_franked_42 ?_
    refine gfX12_59 rfl dX12_franked_43 sh_504 h0 ?_
    refine R_i2l dX12_franked_46 ?_
    rw [nI_l hb]
    refine R_ladd dX12_franked_47 ?_
    rw [lN_add, hcm]
    refine R_ldc2 dX12_franked_48 cwX12_271 ?_
    rw [(show (2147483647 : Int64) = lN 2147483647 from rfl)]
    refine R_lcmp dX12_franked_51 ?_
    refine R_if_gt 75 dX12_franked_52 (by decide) (fun c52 => ?_) (fun c52 => ?_)
    · refine R_iconst (v := -1) dX12_franked_75 (by decide) ?_
      refine R_iret rfl dX12_franked_76 (by rw [← kn (by first | exact fun q => absurd ((lg_gt (by omega) (by decide)).1 c37) (by omega) | exact fun q => absurd ((lg_gt (by omega) (by decide)).1 c52) (by omega) | exact fun q => c72 ((lg_le (by omega) (by decide)).2 q))]; exact hQ)
    · refine R_lload_5 dX12_franked_55 ?_
      refine R_aload_0 dX12_franked_57 ?_
      refine gfX12_59 rfl dX12_franked_58 sh_504 h0 ?_
      refine R_i2l dX12_franked_61 ?_
      rw [nI_l hb]
      refine R_ladd dX12_franked_62 ?_
      rw [lN_add, hcm]
      refine R_iload_2 dX12_franked_63 ?_
      refine R_iconst (v := 2) dX12_franked_64 (by decide) ?_
      refine R_iadd dX12_franked_65 ?_
      rw [show nI z + 2 = nI (z + 2) from nI_add z 2]
      refine R_i2l dX12_franked_66 ?_
      rw [nI_l (by omega)]
      refine R_lmul dX12_franked_67 ?_
      rw [lN_mul, hcc]
      refine R_ldc2 dX12_franked_68 cwX12_271 ?_
      rw [(show (2147483647 : Int64) = lN 2147483647 from rfl)]
      refine R_lcmp dX12_franked_71 ?_
      refine R_if_le 77 dX12_franked_72 (by decide) (fun c72 => ?_) (fun c72 => ?_)
      · refine R_lload_5 dX12_franked_77 ?_
        refine R_aload_0 dX12_franked_79 ?_
        refine gfX12_59 rfl dX12_franked_80 sh_504 h0 ?_
        refine R_i2l dX12_franked_83 ?_
        rw [nI_l hb]
        refine R_ladd dX12_franked_84 ?_
        rw [lN_add, hcm]
        refine R_iload_2 dX12_franked_85 ?_
        refine R_iconst (v := 2) dX12_franked_86 (by decide) ?_
        refine R_iadd dX12_franked_87 ?_
        rw [show nI z + 2 = nI (z + 2) from nI_add z 2]
        refine R_i2l dX12_franked_88 ?_
        rw [nI_l (by omega)]
        refine R_lmul dX12_franked_89 ?_
        rw [lN_mul, hcc]
        refine R_l2i dX12_franked_90 ?_
        refine R_iret rfl dX12_franked_91 (by rw [lN_i, ← kp ((lg_le (by omega) (by decide)).1 c72)]; exact hQ)
      · refine R_iconst (v := -1) dX12_franked_75 (by decide) ?_
        refine R_iret rfl dX12_franked_76 (by rw [← kn (by first | exact fun q => absurd ((lg_gt (by omega) (by decide)).1 c37) (by omega) | exact fun q => absurd ((lg_gt (by omega) (by decide)).1 c52) (by omega) | exact fun q => c72 ((lg_le (by omega) (by decide)).2 q))]; exact hQ)
set_option maxHeartbeats 4000000 in
theorem ct_franked {V : aV} {b s w z : Nat} (h0 : V 504 19 = .int (nI b)) (h1 : V 504 20 = .int (nI s)) (hb : b < 2 ^ 31) (hs : s < 2 ^ 31) (hw : w < 1000) (hz : z < 6) : CT mX12_franked 0 0 0 [.ref 504, .int (nI w), .int (nI z)] Sh V (aRet (some (.int (kost b s w z))) Sh V) aNo := by
  refine CT_of (by decide +kernel) (Nat.le_of_ble_eq_true rfl) ?_
  show R _ _ _ _ _ _ _ _ 0 [some (.ref 504), some (.int (nI w)), some (.int (nI z)), none, none, none, none] [] _ _
  refine R_iload_1 dX12_franked_0 ?_
  refine R_bipush (v := 20) dX12_franked_1 (by decide) ?_
  refine R_icmp_le 20 dX12_franked_3 (by decide) (fun c3 => ?_) (fun c3 => ?_)
  · refine R_lconst (v := 0) dX12_franked_20 (by decide) ?_
    first
      | (have ht : tens w = 0 := if_pos ((nI_leI (a := w) (b := 20) (by omega) (by decide)).1 c3)
         have q := fk_tail (kc := 0) (ks := 0) (mc := 0) (ms := 0) (Q := aRet (some (.int (kost b s w z))) Sh V) (QX := aNo) h0 h1 hb hs hw hz ⟨rfl, rfl, rfl⟩
         rw [ht] at q
         exact q)
      | (have ht : tens w = (w - 20 + 9) / 10 := if_neg hw20
         have q := fk_tail (kc := 0) (ks := 0) (mc := 0) (ms := 0) (Q := aRet (some (.int (kost b s w z))) Sh V) (QX := aNo) h0 h1 hb hs hw hz ⟨rfl, rfl, rfl⟩
         rw [ht] at q
         exact q)
  · have hw20 : ¬ w ≤ 20 := fun q => c3 ((nI_leI (a := w) (b := 20) (by omega) (by decide)).2 q)
    refine R_iload_1 dX12_franked_6 ?_
    refine R_bipush (v := 20) dX12_franked_7 (by decide) ?_
    refine R_isub dX12_franked_9 ?_
    rw [show nI w - 20 = nI (w - 20) from pk_sub (b := 20) (by omega)]
    refine R_bipush (v := 9) dX12_franked_10 (by decide) ?_
    refine R_iadd dX12_franked_12 ?_
    rw [show nI (w - 20) + 9 = nI (w - 20 + 9) from nI_add _ 9]
    refine R_bipush (v := 10) dX12_franked_13 (by decide) ?_
    refine R_idiv dX12_franked_15 (by decide) ?_
    rw [show nI (w - 20 + 9) / 10 = nI ((w - 20 + 9) / 10) from pk_div (by omega) (by decide) (by decide)]
    refine R_i2l dX12_franked_16 ?_
    rw [nI_l (by omega)]
    refine R_goto 21 dX12_franked_17 (by decide) ?_
    first
      | (have ht : tens w = 0 := if_pos ((nI_leI (a := w) (b := 20) (by omega) (by decide)).1 c3)
         have q := fk_tail (kc := 0) (ks := 0) (mc := 0) (ms := 0) (Q := aRet (some (.int (kost b s w z))) Sh V) (QX := aNo) h0 h1 hb hs hw hz ⟨rfl, rfl, rfl⟩
         rw [ht] at q
         exact q)
      | (have ht : tens w = (w - 20 + 9) / 10 := if_neg hw20
         have q := fk_tail (kc := 0) (ks := 0) (mc := 0) (ms := 0) (Q := aRet (some (.int (kost b s w z))) Sh V) (QX := aNo) h0 h1 hb hs hw hz ⟨rfl, rfl, rfl⟩
         rw [ht] at q
         exact q)

/-- the letter made is that one -/
def MDR (V : aV) (r : LRs) : Prop := match r with
  | .inl x => TX V x.1 ∧ V 504 33 = .int 0 ∧ V 504 34 = .int x.2.2
  | .inr q => ∃ c, 1 ≤ c ∧ c ≤ 4 ∧ q.1 = nI c ∧ TRl V 0 c q.2
/-- as before but for what making a letter changes -/
def FrR (V V' : aV) : Prop := (∀ b, b ≠ 504 → (b < 529 ∨ 536 < b) → V' b = V b) ∧ ∀ k, k ≠ 32 → k ≠ 33 → k ≠ 34 → k ≠ 35 → k ≠ 43 → V' 504 k = V 504 k
theorem FrR.refl {V : aV} : FrR V V := ⟨fun _ _ _ => rfl, fun _ _ _ _ _ _ => rfl⟩
theorem FrR.trans {V V1 V2 : aV} (h : FrR V V1) (g : FrR V1 V2) : FrR V V2 := ⟨fun b q1 q2 => (g.1 b q1 q2).trans (h.1 b q1 q2), fun k q1 q2 q3 q4 q5 => (g.2 k q1 q2 q3 q4 q5).trans (h.2 k q1 q2 q3 q4 q5)⟩
theorem FrR.f {V : aV} {k : Nat} {v : Value} (hk : k = 32 ∨ k = 33 ∨ k = 34 ∨ k = 35 ∨ k = 43) : FrR V (a_up V 504 k v) := ⟨fun b q1 _ => a_up_row q1, fun j q1 q2 q3 q4 q5 => a_up_ne (Or.inr (by omega))⟩
theorem FrN.r {l : Nat} {V V' : aV} (h : FrN l V V') : FrR V V' := ⟨h.1, fun k q1 q2 _ q4 q5 => h.2.1 k q1 q2 q4 q5⟩
theorem FrR.s {V V' : aV} (h : FrR V V') : FrS V V' := ⟨fun b q1 q2 => h.1 b q1 (by omega), fun k _ q2 q3 => h.2 k (by omega) (by omega) (by omega) (by omega) q3⟩
theorem FrR.w {V : aV} {a k : Nat} {v : Value} (h1 : 529 ≤ a) (h2 : a ≤ 536) : FrR V (a_up V a k v) := ⟨fun b _ q => a_up_row (by omega), fun j _ _ _ _ _ => a_up_ne (Or.inl (by omega))⟩
set_option maxHeartbeats 4000000 in
theorem ct_letterOf {V : aV} {T : Nat → List Int32} {to : Nat → Bool} {ent : Nat → EntN} {cnt b st t g : Nat} (hR : MR V) (hT : MT V T to) (hE : ME V ent cnt) (hEO : ∀ k, k < 12 → EO (ent k)) (hg : MBR g) (hK8 : TKS T to) (ht8 : t < 8) (h19 : V 504 19 = .int (nI b)) (h20 : V 504 20 = .int (nI st)) (hb : b < 2 ^ 31) (hst : st < 2 ^ 31) : CT mX12_letterOf 5 0 0 [.ref 504, .int (nI t), .int (nI g)] Sh V (fun v S' V' => none = v ∧ Sh = S' ∧ MDR V' (ltr T to ent b st t g) ∧ FrR V V') aNo := by
  refine CT_of (by decide +kernel) (Nat.le_of_ble_eq_true rfl) ?_
  show R _ _ _ _ _ _ _ _ 0 [some (.ref 504), some (.int (nI t)), some (.int (nI g))] [] _ _
  refine R_aload_0 dX12_letterOf_0 ?_
  refine R_iconst (v := 0) dX12_letterOf_1 (by decide) ?_
  refine pfX12_239 rfl dX12_letterOf_2 sh_504 ?_
  refine R_aload_0 dX12_letterOf_5 ?_
  refine R_iconst (v := 0) dX12_letterOf_6 (by decide) ?_
  refine pfX12_233 rfl dX12_letterOf_7 sh_504 ?_
  refine R_aload_0 dX12_letterOf_10 ?_
  refine R_iconst (v := 0) dX12_letterOf_11 (by decide) ?_
  refine pfX12_236 rfl dX12_letterOf_12 sh_504 ?_
  refine R_aload_0 dX12_letterOf_15 ?_
  refine R_iconst (v := -1) dX12_letterOf_16 (by decide) ?_
  refine pfX12_273 rfl dX12_letterOf_17 sh_504 ?_
  have f4 : FrR V (a_up (a_up (a_up (a_up V 504 32 (.int 0)) 504 33 (.int 0)) 504 35 (.int 0)) 504 34 (.int (-1))) := (FrR.f (Or.inl rfl)).trans ((FrR.f (Or.inr (Or.inl rfl))).trans ((FrR.f (Or.inr (Or.inr (Or.inr (Or.inl rfl))))).trans (FrR.f (Or.inr (Or.inr (Or.inl rfl))))))
  have hR4 := f4.s.mr hR
  have hT4 := f4.s.mt hT
  have hE4 := f4.s.me hE
  have hX4 : TX (a_up (a_up (a_up (a_up V 504 32 (.int 0)) 504 33 (.int 0)) 504 35 (.int 0)) 504 34 (.int (-1))) [] := ⟨(a_up_ne (Or.inr (by decide))).trans ((a_up_ne (Or.inr (by decide))).trans ((a_up_ne (Or.inr (by decide))).trans (a_up_self _ _ _ _))), fun j hj => absurd hj (Nat.not_lt_zero j), Nat.zero_le _⟩
  have hz4 : (a_up (a_up (a_up (a_up V 504 32 (.int 0)) 504 33 (.int 0)) 504 35 (.int 0)) 504 34 (.int (-1))) 504 33 = .int 0 := (a_up_ne (Or.inr (by decide))).trans ((a_up_ne (Or.inr (by decide))).trans (a_up_self _ _ _ _))
  obtain ⟨hlen, -⟩ := hT4 t ht8
  by_cases ht : to t = true
  · rw [if_pos ht] at hlen
    have h96 := (hK8 t ht8 ht).1
    refine R_aload_0 dX12_letterOf_20 ?_
    refine gfX12_16 rfl dX12_letterOf_21 sh_504 (by first | exact hR.g (k := 4) (a := 507) (by decide) | exact (a_up_ne (by omega)).trans (hR.g (k := 4) (a := 507) (by decide)) | exact (a_up_ne (by omega)).trans ((a_up_ne (by omega)).trans (hR.g (k := 4) (a := 507) (by decide))) | exact (a_up_ne (by omega)).trans ((a_up_ne (by omega)).trans ((a_up_ne (by omega)).trans (hR.g (k := 4) (a := 507) (by decide)))) | exact (a_up_ne (by omega)).trans ((a_up_ne (by omega)).trans ((a_up_ne (by omega)).trans ((a_up_ne (by omega)).trans (hR.g (k := 4) (a := 507) (by decide))))) | exact (a_up_ne (by omega)).trans ((a_up_ne (by omega)).trans ((a_up_ne (by omega)).trans ((a_up_ne (by omega)).trans ((a_up_ne (by omega)).trans (hR.g (k := 4) (a := 507) (by decide)))))) | exact (a_up_ne (by omega)).trans ((a_up_ne (by omega)).trans ((a_up_ne (by omega)).trans ((a_up_ne (by omega)).trans ((a_up_ne (by omega)).trans ((a_up_ne (by omega)).trans (hR.g (k := 4) (a := 507) (by decide)))))))) ?_
    refine R_iload_1 dX12_letterOf_24 ?_
    refine R_ialdE dX12_letterOf_25 sh_507 rfl (by omega) (by decide) hlen ?_
    refine R_iconst (v := -1) dX12_letterOf_26 (by decide) ?_
    refine R_icmp_ne 39 dX12_letterOf_27 (by decide) (fun c27 => ?_) (fun c27 => absurd c27 (fun z => nI_pos (n := (T t).length) (by omega) (by rw [z]; decide)))
    refine R_aload_0 dX12_letterOf_39 ?_
    refine R_iload_1 dX12_letterOf_40 ?_
    refine R_iload_2 dX12_letterOf_41 ?_
    refine R_callV (T := mX12_letterOf) (T' := mX12_make) (As := [_, _]) (ci := 12) okX12_make mlX12_276 rfl (by decide) sh_504 (ct_mmake hR4 hT4 hE4 hEO hg hK8 ht8 ht hX4 hz4) rfl (by decide) (by decide) (Nat.le_of_ble_eq_true rfl) dX12_letterOf_42 (fun v9 S9 V5 h9 => ?_) (fun E S9 V9 h9 => h9.elim)
    obtain ⟨rfl, rfl, f5, h5⟩ := h9
    have f45 := f4.trans f5.r
    rcases h5 with ⟨x, e5, tx5, z5⟩ | ⟨c, lv, c1, c3, e5, t5⟩
    · have hR := f45.s.mr hR
      have hE5 := f45.s.me hE
      have b5 := (f45.2 19 (by decide) (by decide) (by decide) (by decide) (by decide)).trans h19
      have s5 := (f45.2 20 (by decide) (by decide) (by decide) (by decide) (by decide)).trans h20
      have hl5 := tx5.2.2
      have hs5 := tx5.1
      have bl := bcn_le g 12
      have wl : wgt x.length (bcn g 12) < 1000 := by unfold wgt; omega
      obtain ⟨a, ha, h1, h0⟩ := low_ex hg
      have hzn := (hE5.2 a ha).2.2.2.2.2.1
      obtain ⟨-, -, y3, -⟩ := gW_y (ent := ent) h1 h0 (12 - (a + 1))
      rw [show a + 1 + (12 - (a + 1)) = 12 by omega] at y3
      have ez : fV ent g 3 = (ent a).2.2.2.1 := y3
      have z6 := (hEO a ha).1.2.2.1
      refine R_aload_0 dX12_letterOf_45 ?_
      refine gfX12_233 rfl dX12_letterOf_46 sh_504 z5 ?_
      refine R_if_ne 93 dX12_letterOf_49 (by decide) (fun c49 => absurd rfl c49) (fun c49 => ?_)
      refine R_aload_0 dX12_letterOf_52 ?_
      refine R_aload_0 dX12_letterOf_53 ?_
      refine R_aload_0 dX12_letterOf_54 ?_
      refine gfX12_239 rfl dX12_letterOf_55 sh_504 hs5 ?_
      refine R_iload_2 dX12_letterOf_58 ?_
      refine R_callS_e (T := mX12_letterOf) (T' := mX12_weightOf) (As := [_, _]) okX12_weightOf mlX12_279 rfl (ct_mweightOf (n := x.length) (by omega) hg) rfl (by decide) (by decide) (Nat.le_of_ble_eq_true rfl) dX12_letterOf_59 ?_
      refine R_aload_0 dX12_letterOf_62 ?_
      refine gfX12_46 rfl dX12_letterOf_63 sh_504 (by first | exact hR.g (k := 15) (a := 517) (by decide) | exact (a_up_ne (by omega)).trans (hR.g (k := 15) (a := 517) (by decide)) | exact (a_up_ne (by omega)).trans ((a_up_ne (by omega)).trans (hR.g (k := 15) (a := 517) (by decide))) | exact (a_up_ne (by omega)).trans ((a_up_ne (by omega)).trans ((a_up_ne (by omega)).trans (hR.g (k := 15) (a := 517) (by decide)))) | exact (a_up_ne (by omega)).trans ((a_up_ne (by omega)).trans ((a_up_ne (by omega)).trans ((a_up_ne (by omega)).trans (hR.g (k := 15) (a := 517) (by decide))))) | exact (a_up_ne (by omega)).trans ((a_up_ne (by omega)).trans ((a_up_ne (by omega)).trans ((a_up_ne (by omega)).trans ((a_up_ne (by omega)).trans (hR.g (k := 15) (a := 517) (by decide)))))) | exact (a_up_ne (by omega)).trans ((a_up_ne (by omega)).trans ((a_up_ne (by omega)).trans ((a_up_ne (by omega)).trans ((a_up_ne (by omega)).trans ((a_up_ne (by omega)).trans (hR.g (k := 15) (a := 517) (by decide)))))))) ?_
      refine R_iload_2 dX12_letterOf_66 ?_
      refine R_callS_e (T := mX12_letterOf) (T' := mX12_lowest) (As := [_]) okX12_lowest mlX12_216 rfl (ct_lowest hg.1 ha h1 h0) rfl (by decide) (by decide) (Nat.le_of_ble_eq_true rfl) dX12_letterOf_67 ?_
      refine R_ialdE dX12_letterOf_70 sh_517 rfl (by omega) (by decide) hzn ?_
      refine R_callV_e (T := mX12_letterOf) (T' := mX12_franked) (As := [_, _]) (ci := 12) okX12_franked mlX12_282 rfl (by decide) sh_504 (ct_franked b5 s5 hb hst wl z6) rfl (by decide) (by decide) (Nat.le_of_ble_eq_true rfl) dX12_letterOf_71 ?_
      refine pfX12_273 rfl dX12_letterOf_74 sh_504 ?_
      refine R_aload_0 dX12_letterOf_77 ?_
      refine gfX12_273 rfl dX12_letterOf_78 sh_504 (by first | assumption | exact a_up_self _ _ _ _ | exact (a_up_ne (by omega)).trans (by assumption) | exact (a_up_ne (by omega)).trans (a_up_self _ _ _ _) | exact (a_up_ne (by omega)).trans ((a_up_ne (by omega)).trans (by assumption)) | exact (a_up_ne (by omega)).trans ((a_up_ne (by omega)).trans (a_up_self _ _ _ _)) | exact (a_up_ne (by omega)).trans ((a_up_ne (by omega)).trans ((a_up_ne (by omega)).trans (by assumption))) | exact (a_up_ne (by omega)).trans ((a_up_ne (by omega)).trans ((a_up_ne (by omega)).trans (a_up_self _ _ _ _))) | exact (a_up_ne (by omega)).trans ((a_up_ne (by omega)).trans ((a_up_ne (by omega)).trans ((a_up_ne (by omega)).trans (by assumption)))) | exact (a_up_ne (by omega)).trans ((a_up_ne (by omega)).trans ((a_up_ne (by omega)).trans ((a_up_ne (by omega)).trans (a_up_self _ _ _ _)))) | exact (a_up_ne (by omega)).trans ((a_up_ne (by omega)).trans ((a_up_ne (by omega)).trans ((a_up_ne (by omega)).trans ((a_up_ne (by omega)).trans (by assumption))))) | exact (a_up_ne (by omega)).trans ((a_up_ne (by omega)).trans ((a_up_ne (by omega)).trans ((a_up_ne (by omega)).trans ((a_up_ne (by omega)).trans (a_up_self _ _ _ _)))))) ?_
      refine R_iconst (v := -1) dX12_letterOf_81 (by decide) ?_
      refine R_icmp_ne 93 dX12_letterOf_82 (by decide) (fun c82 => ?_) (fun c82 => ?_)
      · refine R_vret rfl dX12_letterOf_93 ⟨rfl, rfl, by unfold ltr; rw [if_pos ht, e5]; dsimp only; rw [ez, if_neg c82]; exact ⟨tx5.fr (a_up_row (by decide)) (a_up_ne (Or.inr (by decide))), (a_up_ne (Or.inr (by decide))).trans z5, a_up_self _ _ _ _⟩, f45.trans (FrR.f (Or.inr (Or.inr (Or.inl rfl))))⟩
      · refine R_aload_0 dX12_letterOf_85 ?_
        refine R_iconst (v := 4) dX12_letterOf_86 (by decide) ?_
        refine R_iload_1 dX12_letterOf_87 ?_
        refine R_iconst (v := 0) dX12_letterOf_88 (by decide) ?_
        refine R_iconst (v := 0) dX12_letterOf_89 (by decide) ?_
        refine R_callV (T := mX12_letterOf) (T' := mX12_inTrouble) (As := [_, _, _, _]) (ci := 12) okX12_inTrouble mlX12_242 rfl (by decide) sh_504 (ct_inTrouble (c := 4) (n := t) (p := 0) (l := 0) (hR.u (k := 34) (by decide)) (by decide)) rfl (by decide) (by decide) (Nat.le_of_ble_eq_true rfl) dX12_letterOf_90 (fun v9 S9 V6 h9 => ?_) (fun E S9 V9 h9 => h9.elim)
        obtain ⟨rfl, rfl, g4, u4, -⟩ := h9
        refine R_vret rfl dX12_letterOf_93 ⟨rfl, rfl, by unfold ltr; rw [if_pos ht, e5]; dsimp only; rw [ez, if_pos c82]; exact ⟨4, by decide, by decide, rfl, g4.l (by decide)⟩, f45.trans ((FrR.f (Or.inr (Or.inr (Or.inl rfl)))).trans u4.r)⟩
    · refine R_aload_0 dX12_letterOf_45 ?_
      refine gfX12_233 rfl dX12_letterOf_46 sh_504 t5.1 ?_
      refine R_if_ne 93 dX12_letterOf_49 (by decide) (fun c49 => ?_) (fun c49 => absurd c49 (nI_ne0 (by omega) (by omega)))
      refine R_vret rfl dX12_letterOf_93 ⟨rfl, rfl, by unfold ltr; rw [if_pos ht, e5]; exact ⟨c, c1, by omega, rfl, t5⟩, f45⟩
  · rw [if_neg ht] at hlen
    refine R_aload_0 dX12_letterOf_20 ?_
    refine gfX12_16 rfl dX12_letterOf_21 sh_504 (by first | exact hR.g (k := 4) (a := 507) (by decide) | exact (a_up_ne (by omega)).trans (hR.g (k := 4) (a := 507) (by decide)) | exact (a_up_ne (by omega)).trans ((a_up_ne (by omega)).trans (hR.g (k := 4) (a := 507) (by decide))) | exact (a_up_ne (by omega)).trans ((a_up_ne (by omega)).trans ((a_up_ne (by omega)).trans (hR.g (k := 4) (a := 507) (by decide)))) | exact (a_up_ne (by omega)).trans ((a_up_ne (by omega)).trans ((a_up_ne (by omega)).trans ((a_up_ne (by omega)).trans (hR.g (k := 4) (a := 507) (by decide))))) | exact (a_up_ne (by omega)).trans ((a_up_ne (by omega)).trans ((a_up_ne (by omega)).trans ((a_up_ne (by omega)).trans ((a_up_ne (by omega)).trans (hR.g (k := 4) (a := 507) (by decide)))))) | exact (a_up_ne (by omega)).trans ((a_up_ne (by omega)).trans ((a_up_ne (by omega)).trans ((a_up_ne (by omega)).trans ((a_up_ne (by omega)).trans ((a_up_ne (by omega)).trans (hR.g (k := 4) (a := 507) (by decide)))))))) ?_
    refine R_iload_1 dX12_letterOf_24 ?_
    refine R_ialdE dX12_letterOf_25 sh_507 rfl (by omega) (by decide) hlen ?_
    refine R_iconst (v := -1) dX12_letterOf_26 (by decide) ?_
    refine R_icmp_ne 39 dX12_letterOf_27 (by decide) (fun c27 => absurd rfl c27) (fun c27 => ?_)
    refine R_aload_0 dX12_letterOf_30 ?_
    refine R_iconst (v := 1) dX12_letterOf_31 (by decide) ?_
    refine R_iload_1 dX12_letterOf_32 ?_
    refine R_iconst (v := 0) dX12_letterOf_33 (by decide) ?_
    refine R_iconst (v := 0) dX12_letterOf_34 (by decide) ?_
    refine R_callV (T := mX12_letterOf) (T' := mX12_inTrouble) (As := [_, _, _, _]) (ci := 12) okX12_inTrouble mlX12_242 rfl (by decide) sh_504 (ct_inTrouble (c := 1) (n := t) (p := 0) (l := 0) hR4 (by decide)) rfl (by decide) (by decide) (Nat.le_of_ble_eq_true rfl) dX12_letterOf_35 (fun v9 S9 V2 h9 => ?_) (fun E S9 V9 h9 => h9.elim)
    obtain ⟨rfl, rfl, g4, u4, -⟩ := h9
    refine R_vret rfl dX12_letterOf_38 ⟨rfl, rfl, by unfold ltr; rw [if_neg ht]; exact ⟨1, by decide, by decide, rfl, g4.l (by decide)⟩, f4.trans u4.r⟩

def xcF (t u : Int32) : Nat := if okM t ∧ okM u then 0 else 1
/-- as before but for some fields -/
def FrF (p : Nat → Prop) (V V' : aV) : Prop := (∀ b, b ≠ 504 → V' b = V b) ∧ ∀ k, ¬ p k → V' 504 k = V 504 k
set_option maxHeartbeats 4000000 in
theorem ct_mfranking {V : aV} (t u : Int32) : CT mX12_franking 1 0 0 [.ref 504, .int t, .int u] Sh V (fun v S' V' => Sh = S' ∧ V' 504 0 = .int (nI (xcF t u)) ∧ (∃ y, v = some (.int y) ∧ (xcF t u = 0 → y = kost t.toNatClampNeg u.toNatClampNeg (wgt 20 1) 5)) ∧ (if xcF t u = 0 then V' 504 19 = .int t ∧ V' 504 20 = .int u ∧ FrF (fun k => k = 0 ∨ k = 19 ∨ k = 20) V V' else FrF (fun k => k = 0) V V')) aNo := by
  refine CT_of (by decide +kernel) (Nat.le_of_ble_eq_true rfl) ?_
  show R _ _ _ _ _ _ _ _ 0 [some (.ref 504), some (.int t), some (.int u)] [] _ _
  refine R_aload_0 dX12_franking_0 ?_
  refine R_iload_1 dX12_franking_1 ?_
  refine R_if_lt 27 dX12_franking_2 (by decide) (fun c2 => ?_) (fun c2 => ?_)
  · have hx : xcF t u = 1 := if_neg (fun z => (by first | exact z.1.1 c2 | exact Int32.not_lt.2 z.1.2 c9 | exact z.2.1 c13 | exact Int32.not_lt.2 z.2.2 c20))
    refine R_iconst (v := 1) dX12_franking_27 (by decide) ?_
    refine R_callV_e (T := mX12_franking) (T' := mX12_fails) (As := [_]) (ci := 12) okX12_fails mlX12_128 rfl (by decide) sh_504 (ct_mfails _) rfl (by decide) (by decide) (Nat.le_of_ble_eq_true rfl) dX12_franking_28 ?_
    refine R_if_eq 36 dX12_franking_31 (by decide) (fun c31 => absurd c31 (by decide)) (fun c31 => ?_)
    refine R_iconst (v := 0) dX12_franking_34 (by decide) ?_
    refine R_iret rfl dX12_franking_35 ⟨rfl, (a_up_self _ _ _ _).trans (by rw [hx]; rfl), ⟨_, rfl, fun z => by rw [hx] at z; cases z⟩, by rw [if_neg (fun z => by rw [hx] at z; cases z)]; exact ⟨fun b q => a_up_row q, fun j q => a_up_ne (Or.inr q)⟩⟩
  · refine R_iload_1 dX12_franking_5 ?_
    refine R_ldcw cwX12_285 dX12_franking_6 ?_
    refine R_icmp_gt 27 dX12_franking_9 (by decide) (fun c9 => ?_) (fun c9 => ?_)
    · have hx : xcF t u = 1 := if_neg (fun z => (by first | exact z.1.1 c2 | exact Int32.not_lt.2 z.1.2 c9 | exact z.2.1 c13 | exact Int32.not_lt.2 z.2.2 c20))
      refine R_iconst (v := 1) dX12_franking_27 (by decide) ?_
      refine R_callV_e (T := mX12_franking) (T' := mX12_fails) (As := [_]) (ci := 12) okX12_fails mlX12_128 rfl (by decide) sh_504 (ct_mfails _) rfl (by decide) (by decide) (Nat.le_of_ble_eq_true rfl) dX12_franking_28 ?_
      refine R_if_eq 36 dX12_franking_31 (by decide) (fun c31 => absurd c31 (by decide)) (fun c31 => ?_)
      refine R_iconst (v := 0) dX12_franking_34 (by decide) ?_
      refine R_iret rfl dX12_franking_35 ⟨rfl, (a_up_self _ _ _ _).trans (by rw [hx]; rfl), ⟨_, rfl, fun z => by rw [hx] at z; cases z⟩, by rw [if_neg (fun z => by rw [hx] at z; cases z)]; exact ⟨fun b q => a_up_row q, fun j q => a_up_ne (Or.inr q)⟩⟩
    · refine R_iload_2 dX12_franking_12 ?_
      refine R_if_lt 27 dX12_franking_13 (by decide) (fun c13 => ?_) (fun c13 => ?_)
      · have hx : xcF t u = 1 := if_neg (fun z => (by first | exact z.1.1 c2 | exact Int32.not_lt.2 z.1.2 c9 | exact z.2.1 c13 | exact Int32.not_lt.2 z.2.2 c20))
        refine R_iconst (v := 1) dX12_franking_27 (by decide) ?_
        refine R_callV_e (T := mX12_franking) (T' := mX12_fails) (As := [_]) (ci := 12) okX12_fails mlX12_128 rfl (by decide) sh_504 (ct_mfails _) rfl (by decide) (by decide) (Nat.le_of_ble_eq_true rfl) dX12_franking_28 ?_
        refine R_if_eq 36 dX12_franking_31 (by decide) (fun c31 => absurd c31 (by decide)) (fun c31 => ?_)
        refine R_iconst (v := 0) dX12_franking_34 (by decide) ?_
        refine R_iret rfl dX12_franking_35 ⟨rfl, (a_up_self _ _ _ _).trans (by rw [hx]; rfl), ⟨_, rfl, fun z => by rw [hx] at z; cases z⟩, by rw [if_neg (fun z => by rw [hx] at z; cases z)]; exact ⟨fun b q => a_up_row q, fun j q => a_up_ne (Or.inr q)⟩⟩
      · refine R_iload_2 dX12_franking_16 ?_
        refine R_ldcw cwX12_285 dX12_franking_17 ?_
        refine R_icmp_gt 27 dX12_franking_20 (by decide) (fun c20 => ?_) (fun c20 => ?_)
        · have hx : xcF t u = 1 := if_neg (fun z => (by first | exact z.1.1 c2 | exact Int32.not_lt.2 z.1.2 c9 | exact z.2.1 c13 | exact Int32.not_lt.2 z.2.2 c20))
          refine R_iconst (v := 1) dX12_franking_27 (by decide) ?_
          refine R_callV_e (T := mX12_franking) (T' := mX12_fails) (As := [_]) (ci := 12) okX12_fails mlX12_128 rfl (by decide) sh_504 (ct_mfails _) rfl (by decide) (by decide) (Nat.le_of_ble_eq_true rfl) dX12_franking_28 ?_
          refine R_if_eq 36 dX12_franking_31 (by decide) (fun c31 => absurd c31 (by decide)) (fun c31 => ?_)
          refine R_iconst (v := 0) dX12_franking_34 (by decide) ?_
          refine R_iret rfl dX12_franking_35 ⟨rfl, (a_up_self _ _ _ _).trans (by rw [hx]; rfl), ⟨_, rfl, fun z => by rw [hx] at z; cases z⟩, by rw [if_neg (fun z => by rw [hx] at z; cases z)]; exact ⟨fun b q => a_up_row q, fun j q => a_up_ne (Or.inr q)⟩⟩
        · have hx : xcF t u = 0 := if_pos ⟨⟨c2, Int32.not_lt.1 c9⟩, c13, Int32.not_lt.1 c20⟩
          obtain ⟨tb, htb, rfl⟩ := nI_of c2
          obtain ⟨ub, hub, rfl⟩ := nI_of c13
          refine R_iconst (v := 0) dX12_franking_23 (by decide) ?_
          refine R_goto 28 dX12_franking_24 (by decide) ?_
          refine R_callV_e (T := mX12_franking) (T' := mX12_fails) (As := [_]) (ci := 12) okX12_fails mlX12_128 rfl (by decide) sh_504 (ct_mfails _) rfl (by decide) (by decide) (Nat.le_of_ble_eq_true rfl) dX12_franking_28 ?_
          refine R_if_eq 36 dX12_franking_31 (by decide) (fun c31 => ?_) (fun c31 => absurd (by decide) c31)
          refine R_aload_0 dX12_franking_36 ?_
          refine R_iload_1 dX12_franking_37 ?_
          refine pfX12_59 rfl dX12_franking_38 sh_504 ?_
          refine R_aload_0 dX12_franking_41 ?_
          refine R_iload_2 dX12_franking_42 ?_
          refine pfX12_63 rfl dX12_franking_43 sh_504 ?_
          refine R_aload_0 dX12_franking_46 ?_
          refine R_bipush (v := 11) dX12_franking_47 (by decide) ?_
          refine R_iconst (v := 5) dX12_franking_49 (by decide) ?_
          rw [show (5 : Int32) = nI 5 from rfl, show (11 : Int32) = nI 11 from rfl]
          refine R_callV_e (T := mX12_franking) (T' := mX12_franked) (As := [_, _]) (ci := 12) okX12_franked mlX12_282 rfl (by decide) sh_504 (ct_franked (b := tb) (s := ub) (w := 11) (z := 5) ((a_up_ne (Or.inr (by decide))).trans (a_up_self _ _ _ _)) (a_up_self _ _ _ _) htb hub (by decide) (by decide)) rfl (by decide) (by decide) (Nat.le_of_ble_eq_true rfl) dX12_franking_50 ?_
          refine R_iret rfl dX12_franking_53 ⟨rfl, (a_up_ne (Or.inr (by decide))).trans ((a_up_ne (Or.inr (by decide))).trans ((a_up_self _ _ _ _).trans (by rw [hx]; rfl))), ⟨_, rfl, fun _ => by rw [nI_clamp htb, nI_clamp hub]; rfl⟩, by rw [if_pos hx]; exact ⟨(a_up_ne (Or.inr (by decide))).trans (a_up_self _ _ _ _), a_up_self _ _ _ _, fun b q => (a_up_row q).trans ((a_up_row q).trans (a_up_row q)), fun j q => (a_up_ne (Or.inr (fun z => q (Or.inr (Or.inr z))))).trans ((a_up_ne (Or.inr (fun z => q (Or.inr (Or.inl z))))).trans (a_up_ne (Or.inr (fun z => q (Or.inl z)))))⟩⟩
def xcRn (n : Nat) (t u : Int32) : Nat := if ¬ (¬ t < 0 ∧ t ≤ 7) then 1 else if ¬ (¬ u < 0 ∧ u ≤ 7) then 2 else if n = 8 then 3 else 0
set_option maxHeartbeats 4000000 in
theorem ct_mrun {V : aV} {n : Nat} (hR : MR V) (h22 : V 504 22 = .int (nI n)) (hn : n ≤ 8) (t u : Int32) : CT mX12_run 1 0 0 [.ref 504, .int t, .int u] Sh V (fun v S' V' => Sh = S' ∧ V' 504 0 = .int (nI (xcRn n t u)) ∧ (∃ y, v = some (.int y) ∧ (xcRn n t u = 0 → y = nI n)) ∧ (if xcRn n t u = 0 then V' 504 22 = .int (nI (n + 1)) ∧ V' 521 n = .int t ∧ V' 522 n = .int u ∧ (∀ j, j ≠ n → V' 521 j = V 521 j ∧ V' 522 j = V 522 j) ∧ (∀ b, b ≠ 504 → b ≠ 521 → b ≠ 522 → V' b = V b) ∧ ∀ k, k ≠ 0 → k ≠ 22 → V' 504 k = V 504 k else FrF (fun k => k = 0) V V')) aNo := by
  refine CT_of (by decide +kernel) (Nat.le_of_ble_eq_true rfl) ?_
  show R _ _ _ _ _ _ _ _ 0 [some (.ref 504), some (.int t), some (.int u)] [] _ _
  refine R_aload_0 dX12_run_0 ?_
  refine R_iload_1 dX12_run_1 ?_
  refine R_if_lt 11 dX12_run_2 (by decide) (fun c2 => ?_) (fun c2 => ?_)
  · have hx : xcRn n t u = 1 := if_pos (by first | exact fun z => z.1 c2 | exact fun z => c8 z.2)
    refine R_iconst (v := 1) dX12_run_11 (by decide) ?_
    refine R_goto 43 dX12_run_12 (by decide) ?_
    refine R_callV_e (T := mX12_run) (T' := mX12_fails) (As := [_]) (ci := 12) okX12_fails mlX12_128 rfl (by decide) sh_504 (ct_mfails _) rfl (by decide) (by decide) (Nat.le_of_ble_eq_true rfl) dX12_run_43 ?_
    refine R_if_eq 51 dX12_run_46 (by decide) (fun c46 => absurd c46 (by decide)) (fun c46 => ?_)
    refine R_iconst (v := 0) dX12_run_49 (by decide) ?_
    refine R_iret rfl dX12_run_50 ⟨rfl, (a_up_self _ _ _ _).trans (by rw [hx]; rfl), ⟨_, rfl, fun z => by rw [hx] at z; cases z⟩, by rw [if_neg (fun z => by rw [hx] at z; cases z)]; exact ⟨fun b q => a_up_row q, fun j q => a_up_ne (Or.inr q)⟩⟩
  · refine R_iload_1 dX12_run_5 ?_
    refine R_bipush (v := 7) dX12_run_6 (by decide) ?_
    refine R_icmp_le 15 dX12_run_8 (by decide) (fun c8 => ?_) (fun c8 => ?_)
    · refine R_iload_2 dX12_run_15 ?_
      refine R_if_lt 25 dX12_run_16 (by decide) (fun c16 => ?_) (fun c16 => ?_)
      · have hx : xcRn n t u = 2 := (if_neg (not_not_intro ⟨c2, c8⟩)).trans (if_pos (by first | exact fun z => z.1 c16 | exact fun z => c22 z.2))
        refine R_iconst (v := 2) dX12_run_25 (by decide) ?_
        refine R_goto 43 dX12_run_26 (by decide) ?_
        refine R_callV_e (T := mX12_run) (T' := mX12_fails) (As := [_]) (ci := 12) okX12_fails mlX12_128 rfl (by decide) sh_504 (ct_mfails _) rfl (by decide) (by decide) (Nat.le_of_ble_eq_true rfl) dX12_run_43 ?_
        refine R_if_eq 51 dX12_run_46 (by decide) (fun c46 => absurd c46 (by decide)) (fun c46 => ?_)
        refine R_iconst (v := 0) dX12_run_49 (by decide) ?_
        refine R_iret rfl dX12_run_50 ⟨rfl, (a_up_self _ _ _ _).trans (by rw [hx]; rfl), ⟨_, rfl, fun z => by rw [hx] at z; cases z⟩, by rw [if_neg (fun z => by rw [hx] at z; cases z)]; exact ⟨fun b q => a_up_row q, fun j q => a_up_ne (Or.inr q)⟩⟩
      · refine R_iload_2 dX12_run_19 ?_
        refine R_bipush (v := 7) dX12_run_20 (by decide) ?_
        refine R_icmp_le 29 dX12_run_22 (by decide) (fun c22 => ?_) (fun c22 => ?_)
        · refine R_aload_0 dX12_run_29 ?_
          refine gfX12_286 rfl dX12_run_30 sh_504 h22 ?_
          refine R_bipush (v := 8) dX12_run_33 (by decide) ?_
          refine R_icmp_ne 42 dX12_run_35 (by decide) (fun c35 => ?_) (fun c35 => ?_)
          · have n8 : n < 8 := Nat.lt_of_le_of_ne hn (fun z => c35 (by rw [z]; rfl))
            have hx : xcRn n t u = 0 := (if_neg (not_not_intro ⟨c2, c8⟩)).trans ((if_neg (not_not_intro ⟨c16, c22⟩)).trans (if_neg (by omega)))
            refine R_iconst (v := 0) dX12_run_42 (by decide) ?_
            refine R_callV_e (T := mX12_run) (T' := mX12_fails) (As := [_]) (ci := 12) okX12_fails mlX12_128 rfl (by decide) sh_504 (ct_mfails _) rfl (by decide) (by decide) (Nat.le_of_ble_eq_true rfl) dX12_run_43 ?_
            refine R_if_eq 51 dX12_run_46 (by decide) (fun c46 => ?_) (fun c46 => absurd (by decide) c46)
            refine R_aload_0 dX12_run_51 ?_
            refine gfX12_66 rfl dX12_run_52 sh_504 (by first | exact hR.g (k := 23) (a := 521) (by decide) | exact (a_up_ne (by omega)).trans (hR.g (k := 23) (a := 521) (by decide)) | exact (a_up_ne (by omega)).trans ((a_up_ne (by omega)).trans (hR.g (k := 23) (a := 521) (by decide))) | exact (a_up_ne (by omega)).trans ((a_up_ne (by omega)).trans ((a_up_ne (by omega)).trans (hR.g (k := 23) (a := 521) (by decide)))) | exact (a_up_ne (by omega)).trans ((a_up_ne (by omega)).trans ((a_up_ne (by omega)).trans ((a_up_ne (by omega)).trans (hR.g (k := 23) (a := 521) (by decide))))) | exact (a_up_ne (by omega)).trans ((a_up_ne (by omega)).trans ((a_up_ne (by omega)).trans ((a_up_ne (by omega)).trans ((a_up_ne (by omega)).trans (hR.g (k := 23) (a := 521) (by decide)))))) | exact (a_up_ne (by omega)).trans ((a_up_ne (by omega)).trans ((a_up_ne (by omega)).trans ((a_up_ne (by omega)).trans ((a_up_ne (by omega)).trans ((a_up_ne (by omega)).trans (hR.g (k := 23) (a := 521) (by decide)))))))) ?_
            refine R_aload_0 dX12_run_55 ?_
            refine gfX12_286 rfl dX12_run_56 sh_504 ((a_up_ne (by first | exact Or.inl (by decide) | exact Or.inr (by decide))).trans h22) ?_
            refine R_iload_1 dX12_run_59 ?_
            refine R_iastE dX12_run_60 sh_521 rfl (by omega) (by decide) ?_
            refine R_aload_0 dX12_run_61 ?_
            refine gfX12_69 rfl dX12_run_62 sh_504 (by first | exact hR.g (k := 24) (a := 522) (by decide) | exact (a_up_ne (by omega)).trans (hR.g (k := 24) (a := 522) (by decide)) | exact (a_up_ne (by omega)).trans ((a_up_ne (by omega)).trans (hR.g (k := 24) (a := 522) (by decide))) | exact (a_up_ne (by omega)).trans ((a_up_ne (by omega)).trans ((a_up_ne (by omega)).trans (hR.g (k := 24) (a := 522) (by decide)))) | exact (a_up_ne (by omega)).trans ((a_up_ne (by omega)).trans ((a_up_ne (by omega)).trans ((a_up_ne (by omega)).trans (hR.g (k := 24) (a := 522) (by decide))))) | exact (a_up_ne (by omega)).trans ((a_up_ne (by omega)).trans ((a_up_ne (by omega)).trans ((a_up_ne (by omega)).trans ((a_up_ne (by omega)).trans (hR.g (k := 24) (a := 522) (by decide)))))) | exact (a_up_ne (by omega)).trans ((a_up_ne (by omega)).trans ((a_up_ne (by omega)).trans ((a_up_ne (by omega)).trans ((a_up_ne (by omega)).trans ((a_up_ne (by omega)).trans (hR.g (k := 24) (a := 522) (by decide)))))))) ?_
            refine R_aload_0 dX12_run_65 ?_
            refine gfX12_286 rfl dX12_run_66 sh_504 ((a_up_ne (by first | exact Or.inl (by decide) | exact Or.inr (by decide))).trans ((a_up_ne (by first | exact Or.inl (by decide) | exact Or.inr (by decide))).trans h22)) ?_
            refine R_iload_2 dX12_run_69 ?_
            refine R_iastE dX12_run_70 sh_522 rfl (by omega) (by decide) ?_
            refine R_aload_0 dX12_run_71 ?_
            refine R_dup dX12_run_72 rfl ?_
            refine gfX12_286 rfl dX12_run_73 sh_504 ((a_up_ne (by first | exact Or.inl (by decide) | exact Or.inr (by decide))).trans ((a_up_ne (by first | exact Or.inl (by decide) | exact Or.inr (by decide))).trans ((a_up_ne (by first | exact Or.inl (by decide) | exact Or.inr (by decide))).trans h22))) ?_
            refine R_iconst (v := 1) dX12_run_76 (by decide) ?_
            refine R_iadd dX12_run_77 ?_
            rw [nI_1]
            refine pfX12_286 rfl dX12_run_78 sh_504 ?_
            refine R_aload_0 dX12_run_81 ?_
            refine gfX12_286 rfl dX12_run_82 sh_504 (a_up_self _ _ _ _) ?_
            refine R_iconst (v := 1) dX12_run_85 (by decide) ?_
            refine R_isub dX12_run_86 ?_
            rw [show nI (n + 1) - 1 = nI n from (pk_sub (a := n + 1) (b := 1) (by omega)).trans (by rw [Nat.add_sub_cancel])]
            refine R_iret rfl dX12_run_87 ⟨rfl, ((a_up_ne (by first | exact Or.inl (by decide) | exact Or.inr (by decide))).trans ((a_up_ne (by first | exact Or.inl (by decide) | exact Or.inr (by decide))).trans ((a_up_ne (by first | exact Or.inl (by decide) | exact Or.inr (by decide))).trans (a_up_self _ _ _ _)))).trans (by rw [hx]; rfl), ⟨_, rfl, fun _ => rfl⟩, by rw [if_pos hx]; exact ⟨(a_up_self _ _ _ _), ((a_up_ne (by first | exact Or.inl (by decide) | exact Or.inr (by decide))).trans ((a_up_ne (by first | exact Or.inl (by decide) | exact Or.inr (by decide))).trans (a_up_self _ _ _ _))), ((a_up_ne (by first | exact Or.inl (by decide) | exact Or.inr (by decide))).trans (a_up_self _ _ _ _)), fun j hj => ⟨(a_up_ne (Or.inl (by decide))).trans ((a_up_ne (Or.inl (by decide))).trans ((a_up_ne (Or.inr hj)).trans (a_up_ne (Or.inl (by decide))))), (a_up_ne (Or.inl (by decide))).trans ((a_up_ne (Or.inr hj)).trans ((a_up_ne (Or.inl (by decide))).trans (a_up_ne (Or.inl (by decide)))))⟩, fun b q1 q2 q3 => (a_up_row q1).trans ((a_up_row q3).trans ((a_up_row q2).trans (a_up_row q1))), fun j q1 q2 => (a_up_ne (Or.inr q2)).trans ((a_up_ne (Or.inl (by decide))).trans ((a_up_ne (Or.inl (by decide))).trans (a_up_ne (Or.inr q1))))⟩⟩
          · have n8 : n = 8 := (nI_eq (a := n) (b := 8) (by omega) (by decide)).1 c35
            have hx : xcRn n t u = 3 := (if_neg (not_not_intro ⟨c2, c8⟩)).trans ((if_neg (not_not_intro ⟨c16, c22⟩)).trans (if_pos n8))
            refine R_iconst (v := 3) dX12_run_38 (by decide) ?_
            refine R_goto 43 dX12_run_39 (by decide) ?_
            refine R_callV_e (T := mX12_run) (T' := mX12_fails) (As := [_]) (ci := 12) okX12_fails mlX12_128 rfl (by decide) sh_504 (ct_mfails _) rfl (by decide) (by decide) (Nat.le_of_ble_eq_true rfl) dX12_run_43 ?_
            refine R_if_eq 51 dX12_run_46 (by decide) (fun c46 => absurd c46 (by decide)) (fun c46 => ?_)
            refine R_iconst (v := 0) dX12_run_49 (by decide) ?_
            refine R_iret rfl dX12_run_50 ⟨rfl, (a_up_self _ _ _ _).trans (by rw [hx]; rfl), ⟨_, rfl, fun z => by rw [hx] at z; cases z⟩, by rw [if_neg (fun z => by rw [hx] at z; cases z)]; exact ⟨fun b q => a_up_row q, fun j q => a_up_ne (Or.inr q)⟩⟩
        · have hx : xcRn n t u = 2 := (if_neg (not_not_intro ⟨c2, c8⟩)).trans (if_pos (by first | exact fun z => z.1 c16 | exact fun z => c22 z.2))
          refine R_iconst (v := 2) dX12_run_25 (by decide) ?_
          refine R_goto 43 dX12_run_26 (by decide) ?_
          refine R_callV_e (T := mX12_run) (T' := mX12_fails) (As := [_]) (ci := 12) okX12_fails mlX12_128 rfl (by decide) sh_504 (ct_mfails _) rfl (by decide) (by decide) (Nat.le_of_ble_eq_true rfl) dX12_run_43 ?_
          refine R_if_eq 51 dX12_run_46 (by decide) (fun c46 => absurd c46 (by decide)) (fun c46 => ?_)
          refine R_iconst (v := 0) dX12_run_49 (by decide) ?_
          refine R_iret rfl dX12_run_50 ⟨rfl, (a_up_self _ _ _ _).trans (by rw [hx]; rfl), ⟨_, rfl, fun z => by rw [hx] at z; cases z⟩, by rw [if_neg (fun z => by rw [hx] at z; cases z)]; exact ⟨fun b q => a_up_row q, fun j q => a_up_ne (Or.inr q)⟩⟩
    · have hx : xcRn n t u = 1 := if_pos (by first | exact fun z => z.1 c2 | exact fun z => c8 z.2)
      refine R_iconst (v := 1) dX12_run_11 (by decide) ?_
      refine R_goto 43 dX12_run_12 (by decide) ?_
      refine R_callV_e (T := mX12_run) (T' := mX12_fails) (As := [_]) (ci := 12) okX12_fails mlX12_128 rfl (by decide) sh_504 (ct_mfails _) rfl (by decide) (by decide) (Nat.le_of_ble_eq_true rfl) dX12_run_43 ?_
      refine R_if_eq 51 dX12_run_46 (by decide) (fun c46 => absurd c46 (by decide)) (fun c46 => ?_)
      refine R_iconst (v := 0) dX12_run_49 (by decide) ?_
      refine R_iret rfl dX12_run_50 ⟨rfl, (a_up_self _ _ _ _).trans (by rw [hx]; rfl), ⟨_, rfl, fun z => by rw [hx] at z; cases z⟩, by rw [if_neg (fun z => by rw [hx] at z; cases z)]; exact ⟨fun b q => a_up_row q, fun j q => a_up_ne (Or.inr q)⟩⟩
