/-! ===== MergePostModel: type ===== -/
theorem nI_a0 (n : Nat) : nI n + 0 = nI n := Int32.add_zero _
theorem cSg_z {x : Int64} {m j c : Nat} (h : sgc x (nI j) = 0) : cSg x (m + 1) j c = cSg x m (j + 1) c := if_pos h
theorem cSg_b {x : Int64} {m j c : Nat} (h : ¬ sgc x (nI j) = 0) (h2 : sgc x (nI j) < 32 ∨ 126 < sgc x (nI j) ∨ c < j) : cSg x (m + 1) j c = -1 := (if_neg h).trans (if_pos h2)
theorem cSg_g {x : Int64} {m j c : Nat} (h : ¬ sgc x (nI j) = 0) (h2 : ¬ (sgc x (nI j) < 32 ∨ 126 < sgc x (nI j) ∨ c < j)) : cSg x (m + 1) j c = cSg x m (j + 1) (c + 1) := (if_neg h).trans (if_neg h2)
theorem cSg_end {x : Int64} : ∀ m j c n, n < 2 ^ 31 → c < 2 ^ 31 → c < j → cSg x m j c = nI n → n = c
  | 0, j, c, n, hn, hc, hj, h => ((nI_eq hc hn).1 h).symm
  | m + 1, j, c, n, hn, hc, hj, h => by
    by_cases z : sgc x (nI j) = 0
    · rw [cSg_z z] at h
      exact cSg_end m (j + 1) c n hn hc (by omega) h
    · rw [cSg_b z (Or.inr (Or.inr hj))] at h
      exact absurd h.symm (m1_ne hn)
theorem cSg_ok {x : Int64} : ∀ m j n, j + m = 8 → n < 2 ^ 31 → cSg x m j j = nI n → ∀ i, j ≤ i → i < n → okC (sgc x (nI i))
  | 0, j, n, hj, hn, h, i, h1, h2 => by
    have : j = n := (nI_eq (by omega) hn).1 h
    omega
  | m + 1, j, n, hj, hn, h, i, h1, h2 => by
    by_cases z : sgc x (nI j) = 0
    · rw [cSg_z z] at h
      have := cSg_end m (j + 1) j n hn (by omega) (by omega) h
      omega
    · by_cases q : sgc x (nI j) < 32 ∨ 126 < sgc x (nI j) ∨ j < j
      · rw [cSg_b z q] at h
        exact absurd h.symm (m1_ne hn)
      · rw [cSg_g z q] at h
        by_cases e : i = j
        · subst e
          have a1 := Int32.le_iff_toInt_le.1 (Int32.not_lt.1 (fun y => q (Or.inl y)))
          have a2 := Int32.le_iff_toInt_le.1 (Int32.not_lt.1 (fun y => q (Or.inr (Or.inl y))))
          exact ⟨a1, a2⟩
        · exact cSg_ok m (j + 1) n (by omega) hn h i (by omega) h2
def cN (x : Int64) : Nat := (cSg x 8 0 0).toNatClampNeg
/-- which exception type throws -/
def xcTy (L : List Int32) (x : Int64) : Nat := if cSg x 8 0 0 = -1 then 1 else if 96 < L.length + cN x then 2 else 0
set_option maxHeartbeats 8000000 in
theorem ty_w {mc ms kc ks : Nat} {S : aS} {V : aV} {x : Int64} {Q : Option Value → aS → aV → Prop} {QX : String → aS → aV → Prop} (hK : ∀ (mn : Nat) (ov r : Int32), ((r = 1 ∧ cSg x 8 0 0 = nI mn ∧ mn ≤ 8) ∨ (r = 0 ∧ cSg x 8 0 0 = -1)) → mn ≤ 8 → R mX12_type 1 mc ms Q QX kc ks 104 [some (.ref 504), some (.long x), none, some (.int (nI mn)), some (.int ov), some (.int r), none, none] [] S V) (hb : cSg x 8 0 0 = -1) : ∀ (m j mn : Nat) (ov : Int32), j + m = 8 → mn ≤ j → R mX12_type 1 mc ms Q QX kc ks 11 [some (.ref 504), some (.long x), none, some (.int (nI (mn))), some (.int ov), some (.int 0), some (.int (nI j)), none] [] S V := by
  intro m
  induction m with
  | zero =>
    intro j mn ov hj hm
    have hj' : j = 8 := by omega
    subst hj'
    refine R_iload_6 dX12_type_11 ?_
    refine R_bipush (v := 8) dX12_type_13 (by decide) ?_
    refine R_icmp_ge 104 dX12_type_15 (by decide) (fun c15 => ?_) (fun c15 => absurd (Int32.le_refl _) c15)
    refine R_drop_6 ?_
    exact hK mn _ _ (Or.inr ⟨rfl, hb⟩) (by omega)
  | succ m ih =>
    intro j mn ov hj hm
    have b9 : ¬ (8 : Int32) ≤ nI j := nI_ge (a := j) (b := 8) (by omega) (by decide)
    refine R_iload_6 dX12_type_11 ?_
    refine R_bipush (v := 8) dX12_type_13 (by decide) ?_
    refine R_icmp_ge 104 dX12_type_15 (by decide) (fun c15 => absurd c15 b9) (fun c15 => ?_)
    refine R_lload_1 dX12_type_18 ?_
    refine R_bipush (v := 8) dX12_type_19 (by decide) ?_
    refine R_iload_6 dX12_type_21 ?_
    refine R_imul dX12_type_23 ?_
    refine R_lushr dX12_type_24 ?_
    refine R_ldc2 dX12_type_25 cwX12_123 ?_
    refine R_land dX12_type_28 ?_
    refine R_l2i dX12_type_29 ?_
    rw [show ((x.toUInt64 >>> ((8 * nI j).toInt64.toUInt64 &&& Int64.toUInt64 63)).toInt64 &&& 255).toInt32 = sgc x (nI j) from rfl]
    refine R_istore_7 rfl (by decide) dX12_type_30 ?_
    refine R_iload_4 dX12_type_32 ?_
    refine R_if_ne 42 dX12_type_34 (by decide) (fun c34 => ?_) (fun c34 => ?_)
    · refine R_iconst (v := 1) dX12_type_42 (by decide) ?_
      refine R_goto 47 dX12_type_43 (by decide) ?_
      refine R_istore_4 rfl (by decide) dX12_type_47 ?_
      refine R_iload_5 dX12_type_49 ?_
      refine R_if_eq 82 dX12_type_51 (by decide) (fun c51 => ?_) (fun c51 => absurd rfl c51)
      refine R_iconst (v := 0) dX12_type_82 (by decide) ?_
      refine R_istore_5 rfl (by decide) dX12_type_83 ?_
      refine R_iload_3 dX12_type_85 ?_
      refine R_iload_7 dX12_type_86 ?_
      refine R_if_ne 95 dX12_type_88 (by decide) (fun c88 => ?_) (fun c88 => ?_)
      · refine R_iconst (v := 1) dX12_type_95 (by decide) ?_
        refine R_iadd dX12_type_96 ?_
        first
          | rw [show nI mn + 1 = nI (mn + 1) from nI_1 mn]
          | rw [nI_a0]
        refine R_istore_3 rfl (by decide) dX12_type_97 ?_
        refine R_drop_7 ?_
        refine R_iinc_6 rfl (by decide) dX12_type_98 rfl ?_
        rw [show nI j + Int32.ofInt 1 = nI (j + 1) from nI_1 j]
        refine R_goto 11 dX12_type_101 (by decide) ?_
        first
          | exact ih (j + 1) (mn + 1) _ (by omega) (by omega)
          | exact ih (j + 1) mn _ (by omega) (by omega)
      · refine R_iconst (v := 0) dX12_type_91 (by decide) ?_
        refine R_goto 96 dX12_type_92 (by decide) ?_
        refine R_iadd dX12_type_96 ?_
        first
          | rw [show nI mn + 1 = nI (mn + 1) from nI_1 mn]
          | rw [nI_a0]
        refine R_istore_3 rfl (by decide) dX12_type_97 ?_
        refine R_drop_7 ?_
        refine R_iinc_6 rfl (by decide) dX12_type_98 rfl ?_
        rw [show nI j + Int32.ofInt 1 = nI (j + 1) from nI_1 j]
        refine R_goto 11 dX12_type_101 (by decide) ?_
        first
          | exact ih (j + 1) (mn + 1) _ (by omega) (by omega)
          | exact ih (j + 1) mn _ (by omega) (by omega)
    · refine R_iload_7 dX12_type_37 ?_
      refine R_if_ne 46 dX12_type_39 (by decide) (fun c39 => ?_) (fun c39 => ?_)
      · refine R_iconst (v := 0) dX12_type_46 (by decide) ?_
        refine R_istore_4 rfl (by decide) dX12_type_47 ?_
        refine R_iload_5 dX12_type_49 ?_
        refine R_if_eq 82 dX12_type_51 (by decide) (fun c51 => ?_) (fun c51 => absurd rfl c51)
        refine R_iconst (v := 0) dX12_type_82 (by decide) ?_
        refine R_istore_5 rfl (by decide) dX12_type_83 ?_
        refine R_iload_3 dX12_type_85 ?_
        refine R_iload_7 dX12_type_86 ?_
        refine R_if_ne 95 dX12_type_88 (by decide) (fun c88 => ?_) (fun c88 => ?_)
        · refine R_iconst (v := 1) dX12_type_95 (by decide) ?_
          refine R_iadd dX12_type_96 ?_
          first
            | rw [show nI mn + 1 = nI (mn + 1) from nI_1 mn]
            | rw [nI_a0]
          refine R_istore_3 rfl (by decide) dX12_type_97 ?_
          refine R_drop_7 ?_
          refine R_iinc_6 rfl (by decide) dX12_type_98 rfl ?_
          rw [show nI j + Int32.ofInt 1 = nI (j + 1) from nI_1 j]
          refine R_goto 11 dX12_type_101 (by decide) ?_
          first
            | exact ih (j + 1) (mn + 1) _ (by omega) (by omega)
            | exact ih (j + 1) mn _ (by omega) (by omega)
        · refine R_iconst (v := 0) dX12_type_91 (by decide) ?_
          refine R_goto 96 dX12_type_92 (by decide) ?_
          refine R_iadd dX12_type_96 ?_
          first
            | rw [show nI mn + 1 = nI (mn + 1) from nI_1 mn]
            | rw [nI_a0]
          refine R_istore_3 rfl (by decide) dX12_type_97 ?_
          refine R_drop_7 ?_
          refine R_iinc_6 rfl (by decide) dX12_type_98 rfl ?_
          rw [show nI j + Int32.ofInt 1 = nI (j + 1) from nI_1 j]
          refine R_goto 11 dX12_type_101 (by decide) ?_
          first
            | exact ih (j + 1) (mn + 1) _ (by omega) (by omega)
            | exact ih (j + 1) mn _ (by omega) (by omega)
      · refine R_iconst (v := 1) dX12_type_42 (by decide) ?_
        refine R_goto 47 dX12_type_43 (by decide) ?_
        refine R_istore_4 rfl (by decide) dX12_type_47 ?_
        refine R_iload_5 dX12_type_49 ?_
        refine R_if_eq 82 dX12_type_51 (by decide) (fun c51 => ?_) (fun c51 => absurd rfl c51)
        refine R_iconst (v := 0) dX12_type_82 (by decide) ?_
        refine R_istore_5 rfl (by decide) dX12_type_83 ?_
        refine R_iload_3 dX12_type_85 ?_
        refine R_iload_7 dX12_type_86 ?_
        refine R_if_ne 95 dX12_type_88 (by decide) (fun c88 => ?_) (fun c88 => ?_)
        · refine R_iconst (v := 1) dX12_type_95 (by decide) ?_
          refine R_iadd dX12_type_96 ?_
          first
            | rw [show nI mn + 1 = nI (mn + 1) from nI_1 mn]
            | rw [nI_a0]
          refine R_istore_3 rfl (by decide) dX12_type_97 ?_
          refine R_drop_7 ?_
          refine R_iinc_6 rfl (by decide) dX12_type_98 rfl ?_
          rw [show nI j + Int32.ofInt 1 = nI (j + 1) from nI_1 j]
          refine R_goto 11 dX12_type_101 (by decide) ?_
          first
            | exact ih (j + 1) (mn + 1) _ (by omega) (by omega)
            | exact ih (j + 1) mn _ (by omega) (by omega)
        · refine R_iconst (v := 0) dX12_type_91 (by decide) ?_
          refine R_goto 96 dX12_type_92 (by decide) ?_
          refine R_iadd dX12_type_96 ?_
          first
            | rw [show nI mn + 1 = nI (mn + 1) from nI_1 mn]
            | rw [nI_a0]
          refine R_istore_3 rfl (by decide) dX12_type_97 ?_
          refine R_drop_7 ?_
          refine R_iinc_6 rfl (by decide) dX12_type_98 rfl ?_
          rw [show nI j + Int32.ofInt 1 = nI (j + 1) from nI_1 j]
          refine R_goto 11 dX12_type_101 (by decide) ?_
          first
            | exact ih (j + 1) (mn + 1) _ (by omega) (by omega)
            | exact ih (j + 1) mn _ (by omega) (by omega)
set_option maxHeartbeats 16000000 in
theorem ty_r {mc ms kc ks : Nat} {S : aS} {V : aV} {x : Int64} {Q : Option Value → aS → aV → Prop} {QX : String → aS → aV → Prop} (hK : ∀ (mn : Nat) (ov r : Int32), ((r = 1 ∧ cSg x 8 0 0 = nI mn ∧ mn ≤ 8) ∨ (r = 0 ∧ cSg x 8 0 0 = -1)) → mn ≤ 8 → R mX12_type 1 mc ms Q QX kc ks 104 [some (.ref 504), some (.long x), none, some (.int (nI mn)), some (.int ov), some (.int r), none, none] [] S V) : ∀ (m j c : Nat) (ov : Int32), j + m = 8 → c ≤ j → ov = bI (c < j) → cSg x 8 0 0 = cSg x m j c → R mX12_type 1 mc ms Q QX kc ks 11 [some (.ref 504), some (.long x), none, some (.int (nI (c))), some (.int ov), some (.int 1), some (.int (nI j)), none] [] S V := by
  intro m
  induction m with
  | zero =>
    intro j c ov hj hc ho he
    have hj' : j = 8 := by omega
    subst hj'
    refine R_iload_6 dX12_type_11 ?_
    refine R_bipush (v := 8) dX12_type_13 (by decide) ?_
    refine R_icmp_ge 104 dX12_type_15 (by decide) (fun c15 => ?_) (fun c15 => absurd (Int32.le_refl _) c15)
    refine R_drop_6 ?_
    exact hK c _ _ (Or.inl ⟨rfl, he, by omega⟩) (by omega)
  | succ m ih =>
    intro j c ov hj hc ho he
    have b9 : ¬ (8 : Int32) ≤ nI j := nI_ge (a := j) (b := 8) (by omega) (by decide)
    refine R_iload_6 dX12_type_11 ?_
    refine R_bipush (v := 8) dX12_type_13 (by decide) ?_
    refine R_icmp_ge 104 dX12_type_15 (by decide) (fun c15 => absurd c15 b9) (fun c15 => ?_)
    refine R_lload_1 dX12_type_18 ?_
    refine R_bipush (v := 8) dX12_type_19 (by decide) ?_
    refine R_iload_6 dX12_type_21 ?_
    refine R_imul dX12_type_23 ?_
    refine R_lushr dX12_type_24 ?_
    refine R_ldc2 dX12_type_25 cwX12_123 ?_
    refine R_land dX12_type_28 ?_
    refine R_l2i dX12_type_29 ?_
    rw [show ((x.toUInt64 >>> ((8 * nI j).toInt64.toUInt64 &&& Int64.toUInt64 63)).toInt64 &&& 255).toInt32 = sgc x (nI j) from rfl]
    refine R_istore_7 rfl (by decide) dX12_type_30 ?_
    refine R_iload_4 dX12_type_32 ?_
    refine R_if_ne 42 dX12_type_34 (by decide) (fun c34 => ?_) (fun c34 => ?_)
    · refine R_iconst (v := 1) dX12_type_42 (by decide) ?_
      refine R_goto 47 dX12_type_43 (by decide) ?_
      refine R_istore_4 rfl (by decide) dX12_type_47 ?_
      refine R_iload_5 dX12_type_49 ?_
      refine R_if_eq 82 dX12_type_51 (by decide) (fun c51 => absurd c51 (by decide)) (fun c51 => ?_)
      refine R_iload_7 dX12_type_54 ?_
      refine R_if_eq 78 dX12_type_56 (by decide) (fun c56 => ?_) (fun c56 => ?_)
      · refine R_iconst (v := 1) dX12_type_78 (by decide) ?_
        refine R_goto 83 dX12_type_79 (by decide) ?_
        refine R_istore_5 rfl (by decide) dX12_type_83 ?_
        refine R_iload_3 dX12_type_85 ?_
        refine R_iload_7 dX12_type_86 ?_
        refine R_if_ne 95 dX12_type_88 (by decide) (fun c88 => ?_) (fun c88 => ?_)
        · refine R_iconst (v := 1) dX12_type_95 (by decide) ?_
          refine R_iadd dX12_type_96 ?_
          first
            | rw [show nI c + 1 = nI (c + 1) from nI_1 c]
            | rw [nI_a0]
          refine R_istore_3 rfl (by decide) dX12_type_97 ?_
          first
            | exact absurd c39 c56
            | exact absurd c56 c39
            | exact absurd c56 c88
            | exact absurd c88 c56
            | exact absurd c39 c88
            | exact absurd c88 c39
            | exact absurd rfl c61
            | exact absurd c61 (by decide)
            | (refine R_drop_7 ?_
               refine R_iinc_6 rfl (by decide) dX12_type_98 rfl ?_
               rw [show nI j + Int32.ofInt 1 = nI (j + 1) from nI_1 j]
               refine R_goto 11 dX12_type_101 (by decide) ?_
               first
                 | exact ih (j + 1) c _ (by omega) (by omega) (bI_t (by omega)).symm (he.trans (cSg_z (by assumption)))
                 | exact ih (j + 1) (c + 1) _ (by omega) (by omega) (bI_f (by have := bI_eq (ho.symm.trans c34); omega)).symm (he.trans (cSg_g (by assumption) (fun z => z.elim c68 (fun z => z.elim c75 (bI_eq (ho.symm.trans c34))))))
                 | exact ty_w hK (he.trans (cSg_b (by assumption) (Or.inr (Or.inr (bI_ne (fun z => c34 (ho.trans z))))))) m (j + 1) (c + 1) _ (by omega) (by omega)
                 | exact ty_w hK (he.trans (cSg_b (by assumption) (Or.inl c68))) m (j + 1) (c + 1) _ (by omega) (by omega)
                 | exact ty_w hK (he.trans (cSg_b (by assumption) (Or.inr (Or.inl c75)))) m (j + 1) (c + 1) _ (by omega) (by omega))
        · refine R_iconst (v := 0) dX12_type_91 (by decide) ?_
          refine R_goto 96 dX12_type_92 (by decide) ?_
          refine R_iadd dX12_type_96 ?_
          first
            | rw [show nI c + 1 = nI (c + 1) from nI_1 c]
            | rw [nI_a0]
          refine R_istore_3 rfl (by decide) dX12_type_97 ?_
          first
            | exact absurd c39 c56
            | exact absurd c56 c39
            | exact absurd c56 c88
            | exact absurd c88 c56
            | exact absurd c39 c88
            | exact absurd c88 c39
            | exact absurd rfl c61
            | exact absurd c61 (by decide)
            | (refine R_drop_7 ?_
               refine R_iinc_6 rfl (by decide) dX12_type_98 rfl ?_
               rw [show nI j + Int32.ofInt 1 = nI (j + 1) from nI_1 j]
               refine R_goto 11 dX12_type_101 (by decide) ?_
               first
                 | exact ih (j + 1) c _ (by omega) (by omega) (bI_t (by omega)).symm (he.trans (cSg_z (by assumption)))
                 | exact ih (j + 1) (c + 1) _ (by omega) (by omega) (bI_f (by have := bI_eq (ho.symm.trans c34); omega)).symm (he.trans (cSg_g (by assumption) (fun z => z.elim c68 (fun z => z.elim c75 (bI_eq (ho.symm.trans c34))))))
                 | exact ty_w hK (he.trans (cSg_b (by assumption) (Or.inr (Or.inr (bI_ne (fun z => c34 (ho.trans z))))))) m (j + 1) (c + 1) _ (by omega) (by omega)
                 | exact ty_w hK (he.trans (cSg_b (by assumption) (Or.inl c68))) m (j + 1) (c + 1) _ (by omega) (by omega)
                 | exact ty_w hK (he.trans (cSg_b (by assumption) (Or.inr (Or.inl c75)))) m (j + 1) (c + 1) _ (by omega) (by omega))
      · refine R_iload_4 dX12_type_59 ?_
        refine R_if_ne 82 dX12_type_61 (by decide) (fun c61 => ?_) (fun c61 => ?_)
        · refine R_iconst (v := 0) dX12_type_82 (by decide) ?_
          refine R_istore_5 rfl (by decide) dX12_type_83 ?_
          refine R_iload_3 dX12_type_85 ?_
          refine R_iload_7 dX12_type_86 ?_
          refine R_if_ne 95 dX12_type_88 (by decide) (fun c88 => ?_) (fun c88 => ?_)
          · refine R_iconst (v := 1) dX12_type_95 (by decide) ?_
            refine R_iadd dX12_type_96 ?_
            first
              | rw [show nI c + 1 = nI (c + 1) from nI_1 c]
              | rw [nI_a0]
            refine R_istore_3 rfl (by decide) dX12_type_97 ?_
            first
              | exact absurd c39 c56
              | exact absurd c56 c39
              | exact absurd c56 c88
              | exact absurd c88 c56
              | exact absurd c39 c88
              | exact absurd c88 c39
              | exact absurd rfl c61
              | exact absurd c61 (by decide)
              | (refine R_drop_7 ?_
                 refine R_iinc_6 rfl (by decide) dX12_type_98 rfl ?_
                 rw [show nI j + Int32.ofInt 1 = nI (j + 1) from nI_1 j]
                 refine R_goto 11 dX12_type_101 (by decide) ?_
                 first
                   | exact ih (j + 1) c _ (by omega) (by omega) (bI_t (by omega)).symm (he.trans (cSg_z (by assumption)))
                   | exact ih (j + 1) (c + 1) _ (by omega) (by omega) (bI_f (by have := bI_eq (ho.symm.trans c34); omega)).symm (he.trans (cSg_g (by assumption) (fun z => z.elim c68 (fun z => z.elim c75 (bI_eq (ho.symm.trans c34))))))
                   | exact ty_w hK (he.trans (cSg_b (by assumption) (Or.inr (Or.inr (bI_ne (fun z => c34 (ho.trans z))))))) m (j + 1) (c + 1) _ (by omega) (by omega)
                   | exact ty_w hK (he.trans (cSg_b (by assumption) (Or.inl c68))) m (j + 1) (c + 1) _ (by omega) (by omega)
                   | exact ty_w hK (he.trans (cSg_b (by assumption) (Or.inr (Or.inl c75)))) m (j + 1) (c + 1) _ (by omega) (by omega))
          · refine R_iconst (v := 0) dX12_type_91 (by decide) ?_
            refine R_goto 96 dX12_type_92 (by decide) ?_
            refine R_iadd dX12_type_96 ?_
            first
              | rw [show nI c + 1 = nI (c + 1) from nI_1 c]
              | rw [nI_a0]
            refine R_istore_3 rfl (by decide) dX12_type_97 ?_
            first
              | exact absurd c39 c56
              | exact absurd c56 c39
              | exact absurd c56 c88
              | exact absurd c88 c56
              | exact absurd c39 c88
              | exact absurd c88 c39
              | exact absurd rfl c61
              | exact absurd c61 (by decide)
              | (refine R_drop_7 ?_
                 refine R_iinc_6 rfl (by decide) dX12_type_98 rfl ?_
                 rw [show nI j + Int32.ofInt 1 = nI (j + 1) from nI_1 j]
                 refine R_goto 11 dX12_type_101 (by decide) ?_
                 first
                   | exact ih (j + 1) c _ (by omega) (by omega) (bI_t (by omega)).symm (he.trans (cSg_z (by assumption)))
                   | exact ih (j + 1) (c + 1) _ (by omega) (by omega) (bI_f (by have := bI_eq (ho.symm.trans c34); omega)).symm (he.trans (cSg_g (by assumption) (fun z => z.elim c68 (fun z => z.elim c75 (bI_eq (ho.symm.trans c34))))))
                   | exact ty_w hK (he.trans (cSg_b (by assumption) (Or.inr (Or.inr (bI_ne (fun z => c34 (ho.trans z))))))) m (j + 1) (c + 1) _ (by omega) (by omega)
                   | exact ty_w hK (he.trans (cSg_b (by assumption) (Or.inl c68))) m (j + 1) (c + 1) _ (by omega) (by omega)
                   | exact ty_w hK (he.trans (cSg_b (by assumption) (Or.inr (Or.inl c75)))) m (j + 1) (c + 1) _ (by omega) (by omega))
        · refine R_iload_7 dX12_type_64 ?_
          refine R_bipush (v := 32) dX12_type_66 (by decide) ?_
          refine R_icmp_lt 82 dX12_type_68 (by decide) (fun c68 => ?_) (fun c68 => ?_)
          · refine R_iconst (v := 0) dX12_type_82 (by decide) ?_
            refine R_istore_5 rfl (by decide) dX12_type_83 ?_
            refine R_iload_3 dX12_type_85 ?_
            refine R_iload_7 dX12_type_86 ?_
            refine R_if_ne 95 dX12_type_88 (by decide) (fun c88 => ?_) (fun c88 => ?_)
            · refine R_iconst (v := 1) dX12_type_95 (by decide) ?_
              refine R_iadd dX12_type_96 ?_
              first
                | rw [show nI c + 1 = nI (c + 1) from nI_1 c]
                | rw [nI_a0]
              refine R_istore_3 rfl (by decide) dX12_type_97 ?_
              first
                | exact absurd c39 c56
                | exact absurd c56 c39
                | exact absurd c56 c88
                | exact absurd c88 c56
                | exact absurd c39 c88
                | exact absurd c88 c39
                | exact absurd rfl c61
                | exact absurd c61 (by decide)
                | (refine R_drop_7 ?_
                   refine R_iinc_6 rfl (by decide) dX12_type_98 rfl ?_
                   rw [show nI j + Int32.ofInt 1 = nI (j + 1) from nI_1 j]
                   refine R_goto 11 dX12_type_101 (by decide) ?_
                   first
                     | exact ih (j + 1) c _ (by omega) (by omega) (bI_t (by omega)).symm (he.trans (cSg_z (by assumption)))
                     | exact ih (j + 1) (c + 1) _ (by omega) (by omega) (bI_f (by have := bI_eq (ho.symm.trans c34); omega)).symm (he.trans (cSg_g (by assumption) (fun z => z.elim c68 (fun z => z.elim c75 (bI_eq (ho.symm.trans c34))))))
                     | exact ty_w hK (he.trans (cSg_b (by assumption) (Or.inr (Or.inr (bI_ne (fun z => c34 (ho.trans z))))))) m (j + 1) (c + 1) _ (by omega) (by omega)
                     | exact ty_w hK (he.trans (cSg_b (by assumption) (Or.inl c68))) m (j + 1) (c + 1) _ (by omega) (by omega)
                     | exact ty_w hK (he.trans (cSg_b (by assumption) (Or.inr (Or.inl c75)))) m (j + 1) (c + 1) _ (by omega) (by omega))
            · refine R_iconst (v := 0) dX12_type_91 (by decide) ?_
              refine R_goto 96 dX12_type_92 (by decide) ?_
              refine R_iadd dX12_type_96 ?_
              first
                | rw [show nI c + 1 = nI (c + 1) from nI_1 c]
                | rw [nI_a0]
              refine R_istore_3 rfl (by decide) dX12_type_97 ?_
              first
                | exact absurd c39 c56
                | exact absurd c56 c39
                | exact absurd c56 c88
                | exact absurd c88 c56
                | exact absurd c39 c88
                | exact absurd c88 c39
                | exact absurd rfl c61
                | exact absurd c61 (by decide)
                | (refine R_drop_7 ?_
                   refine R_iinc_6 rfl (by decide) dX12_type_98 rfl ?_
                   rw [show nI j + Int32.ofInt 1 = nI (j + 1) from nI_1 j]
                   refine R_goto 11 dX12_type_101 (by decide) ?_
                   first
                     | exact ih (j + 1) c _ (by omega) (by omega) (bI_t (by omega)).symm (he.trans (cSg_z (by assumption)))
                     | exact ih (j + 1) (c + 1) _ (by omega) (by omega) (bI_f (by have := bI_eq (ho.symm.trans c34); omega)).symm (he.trans (cSg_g (by assumption) (fun z => z.elim c68 (fun z => z.elim c75 (bI_eq (ho.symm.trans c34))))))
                     | exact ty_w hK (he.trans (cSg_b (by assumption) (Or.inr (Or.inr (bI_ne (fun z => c34 (ho.trans z))))))) m (j + 1) (c + 1) _ (by omega) (by omega)
                     | exact ty_w hK (he.trans (cSg_b (by assumption) (Or.inl c68))) m (j + 1) (c + 1) _ (by omega) (by omega)
                     | exact ty_w hK (he.trans (cSg_b (by assumption) (Or.inr (Or.inl c75)))) m (j + 1) (c + 1) _ (by omega) (by omega))
          · refine R_iload_7 dX12_type_71 ?_
            refine R_bipush (v := 126) dX12_type_73 (by decide) ?_
            refine R_icmp_gt 82 dX12_type_75 (by decide) (fun c75 => ?_) (fun c75 => ?_)
            · refine R_iconst (v := 0) dX12_type_82 (by decide) ?_
              refine R_istore_5 rfl (by decide) dX12_type_83 ?_
              refine R_iload_3 dX12_type_85 ?_
              refine R_iload_7 dX12_type_86 ?_
              refine R_if_ne 95 dX12_type_88 (by decide) (fun c88 => ?_) (fun c88 => ?_)
              · refine R_iconst (v := 1) dX12_type_95 (by decide) ?_
                refine R_iadd dX12_type_96 ?_
                first
                  | rw [show nI c + 1 = nI (c + 1) from nI_1 c]
                  | rw [nI_a0]
                refine R_istore_3 rfl (by decide) dX12_type_97 ?_
                first
                  | exact absurd c39 c56
                  | exact absurd c56 c39
                  | exact absurd c56 c88
                  | exact absurd c88 c56
                  | exact absurd c39 c88
                  | exact absurd c88 c39
                  | exact absurd rfl c61
                  | exact absurd c61 (by decide)
                  | (refine R_drop_7 ?_
                     refine R_iinc_6 rfl (by decide) dX12_type_98 rfl ?_
                     rw [show nI j + Int32.ofInt 1 = nI (j + 1) from nI_1 j]
                     refine R_goto 11 dX12_type_101 (by decide) ?_
                     first
                       | exact ih (j + 1) c _ (by omega) (by omega) (bI_t (by omega)).symm (he.trans (cSg_z (by assumption)))
                       | exact ih (j + 1) (c + 1) _ (by omega) (by omega) (bI_f (by have := bI_eq (ho.symm.trans c34); omega)).symm (he.trans (cSg_g (by assumption) (fun z => z.elim c68 (fun z => z.elim c75 (bI_eq (ho.symm.trans c34))))))
                       | exact ty_w hK (he.trans (cSg_b (by assumption) (Or.inr (Or.inr (bI_ne (fun z => c34 (ho.trans z))))))) m (j + 1) (c + 1) _ (by omega) (by omega)
                       | exact ty_w hK (he.trans (cSg_b (by assumption) (Or.inl c68))) m (j + 1) (c + 1) _ (by omega) (by omega)
                       | exact ty_w hK (he.trans (cSg_b (by assumption) (Or.inr (Or.inl c75)))) m (j + 1) (c + 1) _ (by omega) (by omega))
              · refine R_iconst (v := 0) dX12_type_91 (by decide) ?_
                refine R_goto 96 dX12_type_92 (by decide) ?_
                refine R_iadd dX12_type_96 ?_
                first
                  | rw [show nI c + 1 = nI (c + 1) from nI_1 c]
                  | rw [nI_a0]
                refine R_istore_3 rfl (by decide) dX12_type_97 ?_
                first
                  | exact absurd c39 c56
                  | exact absurd c56 c39
                  | exact absurd c56 c88
                  | exact absurd c88 c56
                  | exact absurd c39 c88
                  | exact absurd c88 c39
                  | exact absurd rfl c61
                  | exact absurd c61 (by decide)
                  | (refine R_drop_7 ?_
                     refine R_iinc_6 rfl (by decide) dX12_type_98 rfl ?_
                     rw [show nI j + Int32.ofInt 1 = nI (j + 1) from nI_1 j]
                     refine R_goto 11 dX12_type_101 (by decide) ?_
                     first
                       | exact ih (j + 1) c _ (by omega) (by omega) (bI_t (by omega)).symm (he.trans (cSg_z (by assumption)))
                       | exact ih (j + 1) (c + 1) _ (by omega) (by omega) (bI_f (by have := bI_eq (ho.symm.trans c34); omega)).symm (he.trans (cSg_g (by assumption) (fun z => z.elim c68 (fun z => z.elim c75 (bI_eq (ho.symm.trans c34))))))
                       | exact ty_w hK (he.trans (cSg_b (by assumption) (Or.inr (Or.inr (bI_ne (fun z => c34 (ho.trans z))))))) m (j + 1) (c + 1) _ (by omega) (by omega)
                       | exact ty_w hK (he.trans (cSg_b (by assumption) (Or.inl c68))) m (j + 1) (c + 1) _ (by omega) (by omega)
                       | exact ty_w hK (he.trans (cSg_b (by assumption) (Or.inr (Or.inl c75)))) m (j + 1) (c + 1) _ (by omega) (by omega))
            · refine R_iconst (v := 1) dX12_type_78 (by decide) ?_
              refine R_goto 83 dX12_type_79 (by decide) ?_
              refine R_istore_5 rfl (by decide) dX12_type_83 ?_
              refine R_iload_3 dX12_type_85 ?_
              refine R_iload_7 dX12_type_86 ?_
              refine R_if_ne 95 dX12_type_88 (by decide) (fun c88 => ?_) (fun c88 => ?_)
              · refine R_iconst (v := 1) dX12_type_95 (by decide) ?_
                refine R_iadd dX12_type_96 ?_
                first
                  | rw [show nI c + 1 = nI (c + 1) from nI_1 c]
                  | rw [nI_a0]
                refine R_istore_3 rfl (by decide) dX12_type_97 ?_
                first
                  | exact absurd c39 c56
                  | exact absurd c56 c39
                  | exact absurd c56 c88
                  | exact absurd c88 c56
                  | exact absurd c39 c88
                  | exact absurd c88 c39
                  | exact absurd rfl c61
                  | exact absurd c61 (by decide)
                  | (refine R_drop_7 ?_
                     refine R_iinc_6 rfl (by decide) dX12_type_98 rfl ?_
                     rw [show nI j + Int32.ofInt 1 = nI (j + 1) from nI_1 j]
                     refine R_goto 11 dX12_type_101 (by decide) ?_
                     first
                       | exact ih (j + 1) c _ (by omega) (by omega) (bI_t (by omega)).symm (he.trans (cSg_z (by assumption)))
                       | exact ih (j + 1) (c + 1) _ (by omega) (by omega) (bI_f (by have := bI_eq (ho.symm.trans c34); omega)).symm (he.trans (cSg_g (by assumption) (fun z => z.elim c68 (fun z => z.elim c75 (bI_eq (ho.symm.trans c34))))))
                       | exact ty_w hK (he.trans (cSg_b (by assumption) (Or.inr (Or.inr (bI_ne (fun z => c34 (ho.trans z))))))) m (j + 1) (c + 1) _ (by omega) (by omega)
                       | exact ty_w hK (he.trans (cSg_b (by assumption) (Or.inl c68))) m (j + 1) (c + 1) _ (by omega) (by omega)
                       | exact ty_w hK (he.trans (cSg_b (by assumption) (Or.inr (Or.inl c75)))) m (j + 1) (c + 1) _ (by omega) (by omega))
              · refine R_iconst (v := 0) dX12_type_91 (by decide) ?_
                refine R_goto 96 dX12_type_92 (by decide) ?_
                refine R_iadd dX12_type_96 ?_
                first
                  | rw [show nI c + 1 = nI (c + 1) from nI_1 c]
                  | rw [nI_a0]
                refine R_istore_3 rfl (by decide) dX12_type_97 ?_
                first
                  | exact absurd c39 c56
                  | exact absurd c56 c39
                  | exact absurd c56 c88
                  | exact absurd c88 c56
                  | exact absurd c39 c88
                  | exact absurd c88 c39
                  | exact absurd rfl c61
                  | exact absurd c61 (by decide)
                  | (refine R_drop_7 ?_
                     refine R_iinc_6 rfl (by decide) dX12_type_98 rfl ?_
                     rw [show nI j + Int32.ofInt 1 = nI (j + 1) from nI_1 j]
                     refine R_goto 11 dX12_type_101 (by decide) ?_
                     first
                       | exact ih (j + 1) c _ (by omega) (by omega) (bI_t (by omega)).symm (he.trans (cSg_z (by assumption)))
                       | exact ih (j + 1) (c + 1) _ (by omega) (by omega) (bI_f (by have := bI_eq (ho.symm.trans c34); omega)).symm (he.trans (cSg_g (by assumption) (fun z => z.elim c68 (fun z => z.elim c75 (bI_eq (ho.symm.trans c34))))))
                       | exact ty_w hK (he.trans (cSg_b (by assumption) (Or.inr (Or.inr (bI_ne (fun z => c34 (ho.trans z))))))) m (j + 1) (c + 1) _ (by omega) (by omega)
                       | exact ty_w hK (he.trans (cSg_b (by assumption) (Or.inl c68))) m (j + 1) (c + 1) _ (by omega) (by omega)
                       | exact ty_w hK (he.trans (cSg_b (by assumption) (Or.inr (Or.inl c75)))) m (j + 1) (c + 1) _ (by omega) (by omega))
    · refine R_iload_7 dX12_type_37 ?_
      refine R_if_ne 46 dX12_type_39 (by decide) (fun c39 => ?_) (fun c39 => ?_)
      · refine R_iconst (v := 0) dX12_type_46 (by decide) ?_
        refine R_istore_4 rfl (by decide) dX12_type_47 ?_
        refine R_iload_5 dX12_type_49 ?_
        refine R_if_eq 82 dX12_type_51 (by decide) (fun c51 => absurd c51 (by decide)) (fun c51 => ?_)
        refine R_iload_7 dX12_type_54 ?_
        refine R_if_eq 78 dX12_type_56 (by decide) (fun c56 => ?_) (fun c56 => ?_)
        · refine R_iconst (v := 1) dX12_type_78 (by decide) ?_
          refine R_goto 83 dX12_type_79 (by decide) ?_
          refine R_istore_5 rfl (by decide) dX12_type_83 ?_
          refine R_iload_3 dX12_type_85 ?_
          refine R_iload_7 dX12_type_86 ?_
          refine R_if_ne 95 dX12_type_88 (by decide) (fun c88 => ?_) (fun c88 => ?_)
          · refine R_iconst (v := 1) dX12_type_95 (by decide) ?_
            refine R_iadd dX12_type_96 ?_
            first
              | rw [show nI c + 1 = nI (c + 1) from nI_1 c]
              | rw [nI_a0]
            refine R_istore_3 rfl (by decide) dX12_type_97 ?_
            first
              | exact absurd c39 c56
              | exact absurd c56 c39
              | exact absurd c56 c88
              | exact absurd c88 c56
              | exact absurd c39 c88
              | exact absurd c88 c39
              | exact absurd rfl c61
              | exact absurd c61 (by decide)
              | (refine R_drop_7 ?_
                 refine R_iinc_6 rfl (by decide) dX12_type_98 rfl ?_
                 rw [show nI j + Int32.ofInt 1 = nI (j + 1) from nI_1 j]
                 refine R_goto 11 dX12_type_101 (by decide) ?_
                 first
                   | exact ih (j + 1) c _ (by omega) (by omega) (bI_t (by omega)).symm (he.trans (cSg_z (by assumption)))
                   | exact ih (j + 1) (c + 1) _ (by omega) (by omega) (bI_f (by have := bI_eq (ho.symm.trans c34); omega)).symm (he.trans (cSg_g (by assumption) (fun z => z.elim c68 (fun z => z.elim c75 (bI_eq (ho.symm.trans c34))))))
                   | exact ty_w hK (he.trans (cSg_b (by assumption) (Or.inr (Or.inr (bI_ne (fun z => c34 (ho.trans z))))))) m (j + 1) (c + 1) _ (by omega) (by omega)
                   | exact ty_w hK (he.trans (cSg_b (by assumption) (Or.inl c68))) m (j + 1) (c + 1) _ (by omega) (by omega)
                   | exact ty_w hK (he.trans (cSg_b (by assumption) (Or.inr (Or.inl c75)))) m (j + 1) (c + 1) _ (by omega) (by omega))
          · refine R_iconst (v := 0) dX12_type_91 (by decide) ?_
            refine R_goto 96 dX12_type_92 (by decide) ?_
            refine R_iadd dX12_type_96 ?_
            first
              | rw [show nI c + 1 = nI (c + 1) from nI_1 c]
              | rw [nI_a0]
            refine R_istore_3 rfl (by decide) dX12_type_97 ?_
            first
              | exact absurd c39 c56
              | exact absurd c56 c39
              | exact absurd c56 c88
              | exact absurd c88 c56
              | exact absurd c39 c88
              | exact absurd c88 c39
              | exact absurd rfl c61
              | exact absurd c61 (by decide)
              | (refine R_drop_7 ?_
                 refine R_iinc_6 rfl (by decide) dX12_type_98 rfl ?_
                 rw [show nI j + Int32.ofInt 1 = nI (j + 1) from nI_1 j]
                 refine R_goto 11 dX12_type_101 (by decide) ?_
                 first
                   | exact ih (j + 1) c _ (by omega) (by omega) (bI_t (by omega)).symm (he.trans (cSg_z (by assumption)))
                   | exact ih (j + 1) (c + 1) _ (by omega) (by omega) (bI_f (by have := bI_eq (ho.symm.trans c34); omega)).symm (he.trans (cSg_g (by assumption) (fun z => z.elim c68 (fun z => z.elim c75 (bI_eq (ho.symm.trans c34))))))
                   | exact ty_w hK (he.trans (cSg_b (by assumption) (Or.inr (Or.inr (bI_ne (fun z => c34 (ho.trans z))))))) m (j + 1) (c + 1) _ (by omega) (by omega)
                   | exact ty_w hK (he.trans (cSg_b (by assumption) (Or.inl c68))) m (j + 1) (c + 1) _ (by omega) (by omega)
                   | exact ty_w hK (he.trans (cSg_b (by assumption) (Or.inr (Or.inl c75)))) m (j + 1) (c + 1) _ (by omega) (by omega))
        · refine R_iload_4 dX12_type_59 ?_
          refine R_if_ne 82 dX12_type_61 (by decide) (fun c61 => ?_) (fun c61 => ?_)
          · refine R_iconst (v := 0) dX12_type_82 (by decide) ?_
            refine R_istore_5 rfl (by decide) dX12_type_83 ?_
            refine R_iload_3 dX12_type_85 ?_
            refine R_iload_7 dX12_type_86 ?_
            refine R_if_ne 95 dX12_type_88 (by decide) (fun c88 => ?_) (fun c88 => ?_)
            · refine R_iconst (v := 1) dX12_type_95 (by decide) ?_
              refine R_iadd dX12_type_96 ?_
              first
                | rw [show nI c + 1 = nI (c + 1) from nI_1 c]
                | rw [nI_a0]
              refine R_istore_3 rfl (by decide) dX12_type_97 ?_
              first
                | exact absurd c39 c56
                | exact absurd c56 c39
                | exact absurd c56 c88
                | exact absurd c88 c56
                | exact absurd c39 c88
                | exact absurd c88 c39
                | exact absurd rfl c61
                | exact absurd c61 (by decide)
                | (refine R_drop_7 ?_
                   refine R_iinc_6 rfl (by decide) dX12_type_98 rfl ?_
                   rw [show nI j + Int32.ofInt 1 = nI (j + 1) from nI_1 j]
                   refine R_goto 11 dX12_type_101 (by decide) ?_
                   first
                     | exact ih (j + 1) c _ (by omega) (by omega) (bI_t (by omega)).symm (he.trans (cSg_z (by assumption)))
                     | exact ih (j + 1) (c + 1) _ (by omega) (by omega) (bI_f (by have := bI_eq (ho.symm.trans c34); omega)).symm (he.trans (cSg_g (by assumption) (fun z => z.elim c68 (fun z => z.elim c75 (bI_eq (ho.symm.trans c34))))))
                     | exact ty_w hK (he.trans (cSg_b (by assumption) (Or.inr (Or.inr (bI_ne (fun z => c34 (ho.trans z))))))) m (j + 1) (c + 1) _ (by omega) (by omega)
                     | exact ty_w hK (he.trans (cSg_b (by assumption) (Or.inl c68))) m (j + 1) (c + 1) _ (by omega) (by omega)
                     | exact ty_w hK (he.trans (cSg_b (by assumption) (Or.inr (Or.inl c75)))) m (j + 1) (c + 1) _ (by omega) (by omega))
            · refine R_iconst (v := 0) dX12_type_91 (by decide) ?_
              refine R_goto 96 dX12_type_92 (by decide) ?_
              refine R_iadd dX12_type_96 ?_
              first
                | rw [show nI c + 1 = nI (c + 1) from nI_1 c]
                | rw [nI_a0]
              refine R_istore_3 rfl (by decide) dX12_type_97 ?_
              first
                | exact absurd c39 c56
                | exact absurd c56 c39
                | exact absurd c56 c88
                | exact absurd c88 c56
                | exact absurd c39 c88
                | exact absurd c88 c39
                | exact absurd rfl c61
                | exact absurd c61 (by decide)
                | (refine R_drop_7 ?_
                   refine R_iinc_6 rfl (by decide) dX12_type_98 rfl ?_
                   rw [show nI j + Int32.ofInt 1 = nI (j + 1) from nI_1 j]
                   refine R_goto 11 dX12_type_101 (by decide) ?_
                   first
                     | exact ih (j + 1) c _ (by omega) (by omega) (bI_t (by omega)).symm (he.trans (cSg_z (by assumption)))
                     | exact ih (j + 1) (c + 1) _ (by omega) (by omega) (bI_f (by have := bI_eq (ho.symm.trans c34); omega)).symm (he.trans (cSg_g (by assumption) (fun z => z.elim c68 (fun z => z.elim c75 (bI_eq (ho.symm.trans c34))))))
                     | exact ty_w hK (he.trans (cSg_b (by assumption) (Or.inr (Or.inr (bI_ne (fun z => c34 (ho.trans z))))))) m (j + 1) (c + 1) _ (by omega) (by omega)
                     | exact ty_w hK (he.trans (cSg_b (by assumption) (Or.inl c68))) m (j + 1) (c + 1) _ (by omega) (by omega)
                     | exact ty_w hK (he.trans (cSg_b (by assumption) (Or.inr (Or.inl c75)))) m (j + 1) (c + 1) _ (by omega) (by omega))
          · refine R_iload_7 dX12_type_64 ?_
            refine R_bipush (v := 32) dX12_type_66 (by decide) ?_
            refine R_icmp_lt 82 dX12_type_68 (by decide) (fun c68 => ?_) (fun c68 => ?_)
            · refine R_iconst (v := 0) dX12_type_82 (by decide) ?_
              refine R_istore_5 rfl (by decide) dX12_type_83 ?_
              refine R_iload_3 dX12_type_85 ?_
              refine R_iload_7 dX12_type_86 ?_
              refine R_if_ne 95 dX12_type_88 (by decide) (fun c88 => ?_) (fun c88 => ?_)
              · refine R_iconst (v := 1) dX12_type_95 (by decide) ?_
                refine R_iadd dX12_type_96 ?_
                first
                  | rw [show nI c + 1 = nI (c + 1) from nI_1 c]
                  | rw [nI_a0]
                refine R_istore_3 rfl (by decide) dX12_type_97 ?_
                first
                  | exact absurd c39 c56
                  | exact absurd c56 c39
                  | exact absurd c56 c88
                  | exact absurd c88 c56
                  | exact absurd c39 c88
                  | exact absurd c88 c39
                  | exact absurd rfl c61
                  | exact absurd c61 (by decide)
                  | (refine R_drop_7 ?_
                     refine R_iinc_6 rfl (by decide) dX12_type_98 rfl ?_
                     rw [show nI j + Int32.ofInt 1 = nI (j + 1) from nI_1 j]
                     refine R_goto 11 dX12_type_101 (by decide) ?_
                     first
                       | exact ih (j + 1) c _ (by omega) (by omega) (bI_t (by omega)).symm (he.trans (cSg_z (by assumption)))
                       | exact ih (j + 1) (c + 1) _ (by omega) (by omega) (bI_f (by have := bI_eq (ho.symm.trans c34); omega)).symm (he.trans (cSg_g (by assumption) (fun z => z.elim c68 (fun z => z.elim c75 (bI_eq (ho.symm.trans c34))))))
                       | exact ty_w hK (he.trans (cSg_b (by assumption) (Or.inr (Or.inr (bI_ne (fun z => c34 (ho.trans z))))))) m (j + 1) (c + 1) _ (by omega) (by omega)
                       | exact ty_w hK (he.trans (cSg_b (by assumption) (Or.inl c68))) m (j + 1) (c + 1) _ (by omega) (by omega)
                       | exact ty_w hK (he.trans (cSg_b (by assumption) (Or.inr (Or.inl c75)))) m (j + 1) (c + 1) _ (by omega) (by omega))
              · refine R_iconst (v := 0) dX12_type_91 (by decide) ?_
                refine R_goto 96 dX12_type_92 (by decide) ?_
                refine R_iadd dX12_type_96 ?_
                first
                  | rw [show nI c + 1 = nI (c + 1) from nI_1 c]
                  | rw [nI_a0]
                refine R_istore_3 rfl (by decide) dX12_type_97 ?_
                first
                  | exact absurd c39 c56
                  | exact absurd c56 c39
                  | exact absurd c56 c88
                  | exact absurd c88 c56
                  | exact absurd c39 c88
                  | exact absurd c88 c39
                  | exact absurd rfl c61
                  | exact absurd c61 (by decide)
                  | (refine R_drop_7 ?_
                     refine R_iinc_6 rfl (by decide) dX12_type_98 rfl ?_
                     rw [show nI j + Int32.ofInt 1 = nI (j + 1) from nI_1 j]
                     refine R_goto 11 dX12_type_101 (by decide) ?_
                     first
                       | exact ih (j + 1) c _ (by omega) (by omega) (bI_t (by omega)).symm (he.trans (cSg_z (by assumption)))
                       | exact ih (j + 1) (c + 1) _ (by omega) (by omega) (bI_f (by have := bI_eq (ho.symm.trans c34); omega)).symm (he.trans (cSg_g (by assumption) (fun z => z.elim c68 (fun z => z.elim c75 (bI_eq (ho.symm.trans c34))))))
                       | exact ty_w hK (he.trans (cSg_b (by assumption) (Or.inr (Or.inr (bI_ne (fun z => c34 (ho.trans z))))))) m (j + 1) (c + 1) _ (by omega) (by omega)
                       | exact ty_w hK (he.trans (cSg_b (by assumption) (Or.inl c68))) m (j + 1) (c + 1) _ (by omega) (by omega)
                       | exact ty_w hK (he.trans (cSg_b (by assumption) (Or.inr (Or.inl c75)))) m (j + 1) (c + 1) _ (by omega) (by omega))
            · refine R_iload_7 dX12_type_71 ?_
              refine R_bipush (v := 126) dX12_type_73 (by decide) ?_
              refine R_icmp_gt 82 dX12_type_75 (by decide) (fun c75 => ?_) (fun c75 => ?_)
              · refine R_iconst (v := 0) dX12_type_82 (by decide) ?_
                refine R_istore_5 rfl (by decide) dX12_type_83 ?_
                refine R_iload_3 dX12_type_85 ?_
                refine R_iload_7 dX12_type_86 ?_
                refine R_if_ne 95 dX12_type_88 (by decide) (fun c88 => ?_) (fun c88 => ?_)
                · refine R_iconst (v := 1) dX12_type_95 (by decide) ?_
                  refine R_iadd dX12_type_96 ?_
                  first
                    | rw [show nI c + 1 = nI (c + 1) from nI_1 c]
                    | rw [nI_a0]
                  refine R_istore_3 rfl (by decide) dX12_type_97 ?_
                  first
                    | exact absurd c39 c56
                    | exact absurd c56 c39
                    | exact absurd c56 c88
                    | exact absurd c88 c56
                    | exact absurd c39 c88
                    | exact absurd c88 c39
                    | exact absurd rfl c61
                    | exact absurd c61 (by decide)
                    | (refine R_drop_7 ?_
                       refine R_iinc_6 rfl (by decide) dX12_type_98 rfl ?_
                       rw [show nI j + Int32.ofInt 1 = nI (j + 1) from nI_1 j]
                       refine R_goto 11 dX12_type_101 (by decide) ?_
                       first
                         | exact ih (j + 1) c _ (by omega) (by omega) (bI_t (by omega)).symm (he.trans (cSg_z (by assumption)))
                         | exact ih (j + 1) (c + 1) _ (by omega) (by omega) (bI_f (by have := bI_eq (ho.symm.trans c34); omega)).symm (he.trans (cSg_g (by assumption) (fun z => z.elim c68 (fun z => z.elim c75 (bI_eq (ho.symm.trans c34))))))
                         | exact ty_w hK (he.trans (cSg_b (by assumption) (Or.inr (Or.inr (bI_ne (fun z => c34 (ho.trans z))))))) m (j + 1) (c + 1) _ (by omega) (by omega)
                         | exact ty_w hK (he.trans (cSg_b (by assumption) (Or.inl c68))) m (j + 1) (c + 1) _ (by omega) (by omega)
                         | exact ty_w hK (he.trans (cSg_b (by assumption) (Or.inr (Or.inl c75)))) m (j + 1) (c + 1) _ (by omega) (by omega))
                · refine R_iconst (v := 0) dX12_type_91 (by decide) ?_
                  refine R_goto 96 dX12_type_92 (by decide) ?_
                  refine R_iadd dX12_type_96 ?_
                  first
                    | rw [show nI c + 1 = nI (c + 1) from nI_1 c]
                    | rw [nI_a0]
                  refine R_istore_3 rfl (by decide) dX12_type_97 ?_
                  first
                    | exact absurd c39 c56
                    | exact absurd c56 c39
                    | exact absurd c56 c88
                    | exact absurd c88 c56
                    | exact absurd c39 c88
                    | exact absurd c88 c39
                    | exact absurd rfl c61
                    | exact absurd c61 (by decide)
                    | (refine R_drop_7 ?_
                       refine R_iinc_6 rfl (by decide) dX12_type_98 rfl ?_
                       rw [show nI j + Int32.ofInt 1 = nI (j + 1) from nI_1 j]
                       refine R_goto 11 dX12_type_101 (by decide) ?_
                       first
                         | exact ih (j + 1) c _ (by omega) (by omega) (bI_t (by omega)).symm (he.trans (cSg_z (by assumption)))
                         | exact ih (j + 1) (c + 1) _ (by omega) (by omega) (bI_f (by have := bI_eq (ho.symm.trans c34); omega)).symm (he.trans (cSg_g (by assumption) (fun z => z.elim c68 (fun z => z.elim c75 (bI_eq (ho.symm.trans c34))))))
                         | exact ty_w hK (he.trans (cSg_b (by assumption) (Or.inr (Or.inr (bI_ne (fun z => c34 (ho.trans z))))))) m (j + 1) (c + 1) _ (by omega) (by omega)
                         | exact ty_w hK (he.trans (cSg_b (by assumption) (Or.inl c68))) m (j + 1) (c + 1) _ (by omega) (by omega)
                         | exact ty_w hK (he.trans (cSg_b (by assumption) (Or.inr (Or.inl c75)))) m (j + 1) (c + 1) _ (by omega) (by omega))
              · refine R_iconst (v := 1) dX12_type_78 (by decide) ?_
                refine R_goto 83 dX12_type_79 (by decide) ?_
                refine R_istore_5 rfl (by decide) dX12_type_83 ?_
                refine R_iload_3 dX12_type_85 ?_
                refine R_iload_7 dX12_type_86 ?_
                refine R_if_ne 95 dX12_type_88 (by decide) (fun c88 => ?_) (fun c88 => ?_)
                · refine R_iconst (v := 1) dX12_type_95 (by decide) ?_
                  refine R_iadd dX12_type_96 ?_
                  first
                    | rw [show nI c + 1 = nI (c + 1) from nI_1 c]
                    | rw [nI_a0]
                  refine R_istore_3 rfl (by decide) dX12_type_97 ?_
                  first
                    | exact absurd c39 c56
                    | exact absurd c56 c39
                    | exact absurd c56 c88
                    | exact absurd c88 c56
                    | exact absurd c39 c88
                    | exact absurd c88 c39
                    | exact absurd rfl c61
                    | exact absurd c61 (by decide)
                    | (refine R_drop_7 ?_
                       refine R_iinc_6 rfl (by decide) dX12_type_98 rfl ?_
                       rw [show nI j + Int32.ofInt 1 = nI (j + 1) from nI_1 j]
                       refine R_goto 11 dX12_type_101 (by decide) ?_
                       first
                         | exact ih (j + 1) c _ (by omega) (by omega) (bI_t (by omega)).symm (he.trans (cSg_z (by assumption)))
                         | exact ih (j + 1) (c + 1) _ (by omega) (by omega) (bI_f (by have := bI_eq (ho.symm.trans c34); omega)).symm (he.trans (cSg_g (by assumption) (fun z => z.elim c68 (fun z => z.elim c75 (bI_eq (ho.symm.trans c34))))))
                         | exact ty_w hK (he.trans (cSg_b (by assumption) (Or.inr (Or.inr (bI_ne (fun z => c34 (ho.trans z))))))) m (j + 1) (c + 1) _ (by omega) (by omega)
                         | exact ty_w hK (he.trans (cSg_b (by assumption) (Or.inl c68))) m (j + 1) (c + 1) _ (by omega) (by omega)
                         | exact ty_w hK (he.trans (cSg_b (by assumption) (Or.inr (Or.inl c75)))) m (j + 1) (c + 1) _ (by omega) (by omega))
                · refine R_iconst (v := 0) dX12_type_91 (by decide) ?_
                  refine R_goto 96 dX12_type_92 (by decide) ?_
                  refine R_iadd dX12_type_96 ?_
                  first
                    | rw [show nI c + 1 = nI (c + 1) from nI_1 c]
                    | rw [nI_a0]
                  refine R_istore_3 rfl (by decide) dX12_type_97 ?_
                  first
                    | exact absurd c39 c56
                    | exact absurd c56 c39
                    | exact absurd c56 c88
                    | exact absurd c88 c56
                    | exact absurd c39 c88
                    | exact absurd c88 c39
                    | exact absurd rfl c61
                    | exact absurd c61 (by decide)
                    | (refine R_drop_7 ?_
                       refine R_iinc_6 rfl (by decide) dX12_type_98 rfl ?_
                       rw [show nI j + Int32.ofInt 1 = nI (j + 1) from nI_1 j]
                       refine R_goto 11 dX12_type_101 (by decide) ?_
                       first
                         | exact ih (j + 1) c _ (by omega) (by omega) (bI_t (by omega)).symm (he.trans (cSg_z (by assumption)))
                         | exact ih (j + 1) (c + 1) _ (by omega) (by omega) (bI_f (by have := bI_eq (ho.symm.trans c34); omega)).symm (he.trans (cSg_g (by assumption) (fun z => z.elim c68 (fun z => z.elim c75 (bI_eq (ho.symm.trans c34))))))
                         | exact ty_w hK (he.trans (cSg_b (by assumption) (Or.inr (Or.inr (bI_ne (fun z => c34 (ho.trans z))))))) m (j + 1) (c + 1) _ (by omega) (by omega)
                         | exact ty_w hK (he.trans (cSg_b (by assumption) (Or.inl c68))) m (j + 1) (c + 1) _ (by omega) (by omega)
                         | exact ty_w hK (he.trans (cSg_b (by assumption) (Or.inr (Or.inl c75)))) m (j + 1) (c + 1) _ (by omega) (by omega))
      · refine R_iconst (v := 1) dX12_type_42 (by decide) ?_
        refine R_goto 47 dX12_type_43 (by decide) ?_
        refine R_istore_4 rfl (by decide) dX12_type_47 ?_
        refine R_iload_5 dX12_type_49 ?_
        refine R_if_eq 82 dX12_type_51 (by decide) (fun c51 => absurd c51 (by decide)) (fun c51 => ?_)
        refine R_iload_7 dX12_type_54 ?_
        refine R_if_eq 78 dX12_type_56 (by decide) (fun c56 => ?_) (fun c56 => ?_)
        · refine R_iconst (v := 1) dX12_type_78 (by decide) ?_
          refine R_goto 83 dX12_type_79 (by decide) ?_
          refine R_istore_5 rfl (by decide) dX12_type_83 ?_
          refine R_iload_3 dX12_type_85 ?_
          refine R_iload_7 dX12_type_86 ?_
          refine R_if_ne 95 dX12_type_88 (by decide) (fun c88 => ?_) (fun c88 => ?_)
          · refine R_iconst (v := 1) dX12_type_95 (by decide) ?_
            refine R_iadd dX12_type_96 ?_
            first
              | rw [show nI c + 1 = nI (c + 1) from nI_1 c]
              | rw [nI_a0]
            refine R_istore_3 rfl (by decide) dX12_type_97 ?_
            first
              | exact absurd c39 c56
              | exact absurd c56 c39
              | exact absurd c56 c88
              | exact absurd c88 c56
              | exact absurd c39 c88
              | exact absurd c88 c39
              | exact absurd rfl c61
              | exact absurd c61 (by decide)
              | (refine R_drop_7 ?_
                 refine R_iinc_6 rfl (by decide) dX12_type_98 rfl ?_
                 rw [show nI j + Int32.ofInt 1 = nI (j + 1) from nI_1 j]
                 refine R_goto 11 dX12_type_101 (by decide) ?_
                 first
                   | exact ih (j + 1) c _ (by omega) (by omega) (bI_t (by omega)).symm (he.trans (cSg_z (by assumption)))
                   | exact ih (j + 1) (c + 1) _ (by omega) (by omega) (bI_f (by have := bI_eq (ho.symm.trans c34); omega)).symm (he.trans (cSg_g (by assumption) (fun z => z.elim c68 (fun z => z.elim c75 (bI_eq (ho.symm.trans c34))))))
                   | exact ty_w hK (he.trans (cSg_b (by assumption) (Or.inr (Or.inr (bI_ne (fun z => c34 (ho.trans z))))))) m (j + 1) (c + 1) _ (by omega) (by omega)
                   | exact ty_w hK (he.trans (cSg_b (by assumption) (Or.inl c68))) m (j + 1) (c + 1) _ (by omega) (by omega)
                   | exact ty_w hK (he.trans (cSg_b (by assumption) (Or.inr (Or.inl c75)))) m (j + 1) (c + 1) _ (by omega) (by omega))
          · refine R_iconst (v := 0) dX12_type_91 (by decide) ?_
            refine R_goto 96 dX12_type_92 (by decide) ?_
            refine R_iadd dX12_type_96 ?_
            first
              | rw [show nI c + 1 = nI (c + 1) from nI_1 c]
              | rw [nI_a0]
            refine R_istore_3 rfl (by decide) dX12_type_97 ?_
            first
              | exact absurd c39 c56
              | exact absurd c56 c39
              | exact absurd c56 c88
              | exact absurd c88 c56
              | exact absurd c39 c88
              | exact absurd c88 c39
              | exact absurd rfl c61
              | exact absurd c61 (by decide)
              | (refine R_drop_7 ?_
                 refine R_iinc_6 rfl (by decide) dX12_type_98 rfl ?_
                 rw [show nI j + Int32.ofInt 1 = nI (j + 1) from nI_1 j]
                 refine R_goto 11 dX12_type_101 (by decide) ?_
                 first
                   | exact ih (j + 1) c _ (by omega) (by omega) (bI_t (by omega)).symm (he.trans (cSg_z (by assumption)))
                   | exact ih (j + 1) (c + 1) _ (by omega) (by omega) (bI_f (by have := bI_eq (ho.symm.trans c34); omega)).symm (he.trans (cSg_g (by assumption) (fun z => z.elim c68 (fun z => z.elim c75 (bI_eq (ho.symm.trans c34))))))
                   | exact ty_w hK (he.trans (cSg_b (by assumption) (Or.inr (Or.inr (bI_ne (fun z => c34 (ho.trans z))))))) m (j + 1) (c + 1) _ (by omega) (by omega)
                   | exact ty_w hK (he.trans (cSg_b (by assumption) (Or.inl c68))) m (j + 1) (c + 1) _ (by omega) (by omega)
                   | exact ty_w hK (he.trans (cSg_b (by assumption) (Or.inr (Or.inl c75)))) m (j + 1) (c + 1) _ (by omega) (by omega))
        · refine R_iload_4 dX12_type_59 ?_
          refine R_if_ne 82 dX12_type_61 (by decide) (fun c61 => ?_) (fun c61 => ?_)
          · refine R_iconst (v := 0) dX12_type_82 (by decide) ?_
            refine R_istore_5 rfl (by decide) dX12_type_83 ?_
            refine R_iload_3 dX12_type_85 ?_
            refine R_iload_7 dX12_type_86 ?_
            refine R_if_ne 95 dX12_type_88 (by decide) (fun c88 => ?_) (fun c88 => ?_)
            · refine R_iconst (v := 1) dX12_type_95 (by decide) ?_
              refine R_iadd dX12_type_96 ?_
              first
                | rw [show nI c + 1 = nI (c + 1) from nI_1 c]
                | rw [nI_a0]
              refine R_istore_3 rfl (by decide) dX12_type_97 ?_
              first
                | exact absurd c39 c56
                | exact absurd c56 c39
                | exact absurd c56 c88
                | exact absurd c88 c56
                | exact absurd c39 c88
                | exact absurd c88 c39
                | exact absurd rfl c61
                | exact absurd c61 (by decide)
                | (refine R_drop_7 ?_
                   refine R_iinc_6 rfl (by decide) dX12_type_98 rfl ?_
                   rw [show nI j + Int32.ofInt 1 = nI (j + 1) from nI_1 j]
                   refine R_goto 11 dX12_type_101 (by decide) ?_
                   first
                     | exact ih (j + 1) c _ (by omega) (by omega) (bI_t (by omega)).symm (he.trans (cSg_z (by assumption)))
                     | exact ih (j + 1) (c + 1) _ (by omega) (by omega) (bI_f (by have := bI_eq (ho.symm.trans c34); omega)).symm (he.trans (cSg_g (by assumption) (fun z => z.elim c68 (fun z => z.elim c75 (bI_eq (ho.symm.trans c34))))))
                     | exact ty_w hK (he.trans (cSg_b (by assumption) (Or.inr (Or.inr (bI_ne (fun z => c34 (ho.trans z))))))) m (j + 1) (c + 1) _ (by omega) (by omega)
                     | exact ty_w hK (he.trans (cSg_b (by assumption) (Or.inl c68))) m (j + 1) (c + 1) _ (by omega) (by omega)
                     | exact ty_w hK (he.trans (cSg_b (by assumption) (Or.inr (Or.inl c75)))) m (j + 1) (c + 1) _ (by omega) (by omega))
            · refine R_iconst (v := 0) dX12_type_91 (by decide) ?_
              refine R_goto 96 dX12_type_92 (by decide) ?_
              refine R_iadd dX12_type_96 ?_
              first
                | rw [show nI c + 1 = nI (c + 1) from nI_1 c]
                | rw [nI_a0]
              refine R_istore_3 rfl (by decide) dX12_type_97 ?_
              first
                | exact absurd c39 c56
                | exact absurd c56 c39
                | exact absurd c56 c88
                | exact absurd c88 c56
                | exact absurd c39 c88
                | exact absurd c88 c39
                | exact absurd rfl c61
                | exact absurd c61 (by decide)
                | (refine R_drop_7 ?_
                   refine R_iinc_6 rfl (by decide) dX12_type_98 rfl ?_
                   rw [show nI j + Int32.ofInt 1 = nI (j + 1) from nI_1 j]
                   refine R_goto 11 dX12_type_101 (by decide) ?_
                   first
                     | exact ih (j + 1) c _ (by omega) (by omega) (bI_t (by omega)).symm (he.trans (cSg_z (by assumption)))
                     | exact ih (j + 1) (c + 1) _ (by omega) (by omega) (bI_f (by have := bI_eq (ho.symm.trans c34); omega)).symm (he.trans (cSg_g (by assumption) (fun z => z.elim c68 (fun z => z.elim c75 (bI_eq (ho.symm.trans c34))))))
                     | exact ty_w hK (he.trans (cSg_b (by assumption) (Or.inr (Or.inr (bI_ne (fun z => c34 (ho.trans z))))))) m (j + 1) (c + 1) _ (by omega) (by omega)
                     | exact ty_w hK (he.trans (cSg_b (by assumption) (Or.inl c68))) m (j + 1) (c + 1) _ (by omega) (by omega)
                     | exact ty_w hK (he.trans (cSg_b (by assumption) (Or.inr (Or.inl c75)))) m (j + 1) (c + 1) _ (by omega) (by omega))
          · refine R_iload_7 dX12_type_64 ?_
            refine R_bipush (v := 32) dX12_type_66 (by decide) ?_
            refine R_icmp_lt 82 dX12_type_68 (by decide) (fun c68 => ?_) (fun c68 => ?_)
            · refine R_iconst (v := 0) dX12_type_82 (by decide) ?_
              refine R_istore_5 rfl (by decide) dX12_type_83 ?_
              refine R_iload_3 dX12_type_85 ?_
              refine R_iload_7 dX12_type_86 ?_
              refine R_if_ne 95 dX12_type_88 (by decide) (fun c88 => ?_) (fun c88 => ?_)
              · refine R_iconst (v := 1) dX12_type_95 (by decide) ?_
                refine R_iadd dX12_type_96 ?_
                first
                  | rw [show nI c + 1 = nI (c + 1) from nI_1 c]
                  | rw [nI_a0]
                refine R_istore_3 rfl (by decide) dX12_type_97 ?_
                first
                  | exact absurd c39 c56
                  | exact absurd c56 c39
                  | exact absurd c56 c88
                  | exact absurd c88 c56
                  | exact absurd c39 c88
                  | exact absurd c88 c39
                  | exact absurd rfl c61
                  | exact absurd c61 (by decide)
                  | (refine R_drop_7 ?_
                     refine R_iinc_6 rfl (by decide) dX12_type_98 rfl ?_
                     rw [show nI j + Int32.ofInt 1 = nI (j + 1) from nI_1 j]
                     refine R_goto 11 dX12_type_101 (by decide) ?_
                     first
                       | exact ih (j + 1) c _ (by omega) (by omega) (bI_t (by omega)).symm (he.trans (cSg_z (by assumption)))
                       | exact ih (j + 1) (c + 1) _ (by omega) (by omega) (bI_f (by have := bI_eq (ho.symm.trans c34); omega)).symm (he.trans (cSg_g (by assumption) (fun z => z.elim c68 (fun z => z.elim c75 (bI_eq (ho.symm.trans c34))))))
                       | exact ty_w hK (he.trans (cSg_b (by assumption) (Or.inr (Or.inr (bI_ne (fun z => c34 (ho.trans z))))))) m (j + 1) (c + 1) _ (by omega) (by omega)
                       | exact ty_w hK (he.trans (cSg_b (by assumption) (Or.inl c68))) m (j + 1) (c + 1) _ (by omega) (by omega)
                       | exact ty_w hK (he.trans (cSg_b (by assumption) (Or.inr (Or.inl c75)))) m (j + 1) (c + 1) _ (by omega) (by omega))
              · refine R_iconst (v := 0) dX12_type_91 (by decide) ?_
                refine R_goto 96 dX12_type_92 (by decide) ?_
                refine R_iadd dX12_type_96 ?_
                first
                  | rw [show nI c + 1 = nI (c + 1) from nI_1 c]
                  | rw [nI_a0]
                refine R_istore_3 rfl (by decide) dX12_type_97 ?_
                first
                  | exact absurd c39 c56
                  | exact absurd c56 c39
                  | exact absurd c56 c88
                  | exact absurd c88 c56
                  | exact absurd c39 c88
                  | exact absurd c88 c39
                  | exact absurd rfl c61
                  | exact absurd c61 (by decide)
                  | (refine R_drop_7 ?_
                     refine R_iinc_6 rfl (by decide) dX12_type_98 rfl ?_
                     rw [show nI j + Int32.ofInt 1 = nI (j + 1) from nI_1 j]
                     refine R_goto 11 dX12_type_101 (by decide) ?_
                     first
                       | exact ih (j + 1) c _ (by omega) (by omega) (bI_t (by omega)).symm (he.trans (cSg_z (by assumption)))
                       | exact ih (j + 1) (c + 1) _ (by omega) (by omega) (bI_f (by have := bI_eq (ho.symm.trans c34); omega)).symm (he.trans (cSg_g (by assumption) (fun z => z.elim c68 (fun z => z.elim c75 (bI_eq (ho.symm.trans c34))))))
                       | exact ty_w hK (he.trans (cSg_b (by assumption) (Or.inr (Or.inr (bI_ne (fun z => c34 (ho.trans z))))))) m (j + 1) (c + 1) _ (by omega) (by omega)
                       | exact ty_w hK (he.trans (cSg_b (by assumption) (Or.inl c68))) m (j + 1) (c + 1) _ (by omega) (by omega)
                       | exact ty_w hK (he.trans (cSg_b (by assumption) (Or.inr (Or.inl c75)))) m (j + 1) (c + 1) _ (by omega) (by omega))
            · refine R_iload_7 dX12_type_71 ?_
              refine R_bipush (v := 126) dX12_type_73 (by decide) ?_
              refine R_icmp_gt 82 dX12_type_75 (by decide) (fun c75 => ?_) (fun c75 => ?_)
              · refine R_iconst (v := 0) dX12_type_82 (by decide) ?_
                refine R_istore_5 rfl (by decide) dX12_type_83 ?_
                refine R_iload_3 dX12_type_85 ?_
                refine R_iload_7 dX12_type_86 ?_
                refine R_if_ne 95 dX12_type_88 (by decide) (fun c88 => ?_) (fun c88 => ?_)
                · refine R_iconst (v := 1) dX12_type_95 (by decide) ?_
                  refine R_iadd dX12_type_96 ?_
                  first
                    | rw [show nI c + 1 = nI (c + 1) from nI_1 c]
                    | rw [nI_a0]
                  refine R_istore_3 rfl (by decide) dX12_type_97 ?_
                  first
                    | exact absurd c39 c56
                    | exact absurd c56 c39
                    | exact absurd c56 c88
                    | exact absurd c88 c56
                    | exact absurd c39 c88
                    | exact absurd c88 c39
                    | exact absurd rfl c61
                    | exact absurd c61 (by decide)
                    | (refine R_drop_7 ?_
                       refine R_iinc_6 rfl (by decide) dX12_type_98 rfl ?_
                       rw [show nI j + Int32.ofInt 1 = nI (j + 1) from nI_1 j]
                       refine R_goto 11 dX12_type_101 (by decide) ?_
                       first
                         | exact ih (j + 1) c _ (by omega) (by omega) (bI_t (by omega)).symm (he.trans (cSg_z (by assumption)))
                         | exact ih (j + 1) (c + 1) _ (by omega) (by omega) (bI_f (by have := bI_eq (ho.symm.trans c34); omega)).symm (he.trans (cSg_g (by assumption) (fun z => z.elim c68 (fun z => z.elim c75 (bI_eq (ho.symm.trans c34))))))
                         | exact ty_w hK (he.trans (cSg_b (by assumption) (Or.inr (Or.inr (bI_ne (fun z => c34 (ho.trans z))))))) m (j + 1) (c + 1) _ (by omega) (by omega)
                         | exact ty_w hK (he.trans (cSg_b (by assumption) (Or.inl c68))) m (j + 1) (c + 1) _ (by omega) (by omega)
                         | exact ty_w hK (he.trans (cSg_b (by assumption) (Or.inr (Or.inl c75)))) m (j + 1) (c + 1) _ (by omega) (by omega))
                · refine R_iconst (v := 0) dX12_type_91 (by decide) ?_
                  refine R_goto 96 dX12_type_92 (by decide) ?_
                  refine R_iadd dX12_type_96 ?_
                  first
                    | rw [show nI c + 1 = nI (c + 1) from nI_1 c]
                    | rw [nI_a0]
                  refine R_istore_3 rfl (by decide) dX12_type_97 ?_
                  first
                    | exact absurd c39 c56
                    | exact absurd c56 c39
                    | exact absurd c56 c88
                    | exact absurd c88 c56
                    | exact absurd c39 c88
                    | exact absurd c88 c39
                    | exact absurd rfl c61
                    | exact absurd c61 (by decide)
                    | (refine R_drop_7 ?_
                       refine R_iinc_6 rfl (by decide) dX12_type_98 rfl ?_
                       rw [show nI j + Int32.ofInt 1 = nI (j + 1) from nI_1 j]
                       refine R_goto 11 dX12_type_101 (by decide) ?_
                       first
                         | exact ih (j + 1) c _ (by omega) (by omega) (bI_t (by omega)).symm (he.trans (cSg_z (by assumption)))
                         | exact ih (j + 1) (c + 1) _ (by omega) (by omega) (bI_f (by have := bI_eq (ho.symm.trans c34); omega)).symm (he.trans (cSg_g (by assumption) (fun z => z.elim c68 (fun z => z.elim c75 (bI_eq (ho.symm.trans c34))))))
                         | exact ty_w hK (he.trans (cSg_b (by assumption) (Or.inr (Or.inr (bI_ne (fun z => c34 (ho.trans z))))))) m (j + 1) (c + 1) _ (by omega) (by omega)
                         | exact ty_w hK (he.trans (cSg_b (by assumption) (Or.inl c68))) m (j + 1) (c + 1) _ (by omega) (by omega)
                         | exact ty_w hK (he.trans (cSg_b (by assumption) (Or.inr (Or.inl c75)))) m (j + 1) (c + 1) _ (by omega) (by omega))
              · refine R_iconst (v := 1) dX12_type_78 (by decide) ?_
                refine R_goto 83 dX12_type_79 (by decide) ?_
                refine R_istore_5 rfl (by decide) dX12_type_83 ?_
                refine R_iload_3 dX12_type_85 ?_
                refine R_iload_7 dX12_type_86 ?_
                refine R_if_ne 95 dX12_type_88 (by decide) (fun c88 => ?_) (fun c88 => ?_)
                · refine R_iconst (v := 1) dX12_type_95 (by decide) ?_
                  refine R_iadd dX12_type_96 ?_
                  first
                    | rw [show nI c + 1 = nI (c + 1) from nI_1 c]
                    | rw [nI_a0]
                  refine R_istore_3 rfl (by decide) dX12_type_97 ?_
                  first
                    | exact absurd c39 c56
                    | exact absurd c56 c39
                    | exact absurd c56 c88
                    | exact absurd c88 c56
                    | exact absurd c39 c88
                    | exact absurd c88 c39
                    | exact absurd rfl c61
                    | exact absurd c61 (by decide)
                    | (refine R_drop_7 ?_
                       refine R_iinc_6 rfl (by decide) dX12_type_98 rfl ?_
                       rw [show nI j + Int32.ofInt 1 = nI (j + 1) from nI_1 j]
                       refine R_goto 11 dX12_type_101 (by decide) ?_
                       first
                         | exact ih (j + 1) c _ (by omega) (by omega) (bI_t (by omega)).symm (he.trans (cSg_z (by assumption)))
                         | exact ih (j + 1) (c + 1) _ (by omega) (by omega) (bI_f (by have := bI_eq (ho.symm.trans c34); omega)).symm (he.trans (cSg_g (by assumption) (fun z => z.elim c68 (fun z => z.elim c75 (bI_eq (ho.symm.trans c34))))))
                         | exact ty_w hK (he.trans (cSg_b (by assumption) (Or.inr (Or.inr (bI_ne (fun z => c34 (ho.trans z))))))) m (j + 1) (c + 1) _ (by omega) (by omega)
                         | exact ty_w hK (he.trans (cSg_b (by assumption) (Or.inl c68))) m (j + 1) (c + 1) _ (by omega) (by omega)
                         | exact ty_w hK (he.trans (cSg_b (by assumption) (Or.inr (Or.inl c75)))) m (j + 1) (c + 1) _ (by omega) (by omega))
                · refine R_iconst (v := 0) dX12_type_91 (by decide) ?_
                  refine R_goto 96 dX12_type_92 (by decide) ?_
                  refine R_iadd dX12_type_96 ?_
                  first
                    | rw [show nI c + 1 = nI (c + 1) from nI_1 c]
                    | rw [nI_a0]
                  refine R_istore_3 rfl (by decide) dX12_type_97 ?_
                  first
                    | exact absurd c39 c56
                    | exact absurd c56 c39
                    | exact absurd c56 c88
                    | exact absurd c88 c56
                    | exact absurd c39 c88
                    | exact absurd c88 c39
                    | exact absurd rfl c61
                    | exact absurd c61 (by decide)
                    | (refine R_drop_7 ?_
                       refine R_iinc_6 rfl (by decide) dX12_type_98 rfl ?_
                       rw [show nI j + Int32.ofInt 1 = nI (j + 1) from nI_1 j]
                       refine R_goto 11 dX12_type_101 (by decide) ?_
                       first
                         | exact ih (j + 1) c _ (by omega) (by omega) (bI_t (by omega)).symm (he.trans (cSg_z (by assumption)))
                         | exact ih (j + 1) (c + 1) _ (by omega) (by omega) (bI_f (by have := bI_eq (ho.symm.trans c34); omega)).symm (he.trans (cSg_g (by assumption) (fun z => z.elim c68 (fun z => z.elim c75 (bI_eq (ho.symm.trans c34))))))
                         | exact ty_w hK (he.trans (cSg_b (by assumption) (Or.inr (Or.inr (bI_ne (fun z => c34 (ho.trans z))))))) m (j + 1) (c + 1) _ (by omega) (by omega)
                         | exact ty_w hK (he.trans (cSg_b (by assumption) (Or.inl c68))) m (j + 1) (c + 1) _ (by omega) (by omega)
                         | exact ty_w hK (he.trans (cSg_b (by assumption) (Or.inr (Or.inl c75)))) m (j + 1) (c + 1) _ (by omega) (by omega))
/-- the line while signs are laid -/
def TYI (V0 V : aV) (L : List Int32) (x : Int64) (i : Nat) : Prop := V 504 2 = .int (nI (L.length + i)) ∧ (∀ j, j < L.length + i → V 505 j = .int ((L ++ tySg x i).getD j 0)) ∧ (∀ b, b ≠ 504 → b ≠ 505 → V b = V0 b) ∧ ∀ k, k ≠ 2 → V 504 k = V0 504 k
theorem TYI.s {V0 V : aV} {L : List Int32} {x : Int64} {i : Nat} (h : TYI V0 V L x i) : TYI V0 (a_up (a_up V 505 (L.length + i) (.int (sgc x (nI i)))) 504 2 (.int (nI (L.length + i + 1)))) L x (i + 1) := by
  obtain ⟨h1, h2, h3, h4⟩ := h
  refine ⟨a_up_self _ _ _ _, fun j hj => ?_, fun b q1 q2 => (a_up_row q1).trans ((a_up_row q2).trans (h3 b q1 q2)), fun k hk => (a_up_ne (Or.inr hk)).trans ((a_up_ne (Or.inl (by decide))).trans (h4 k hk))⟩
  rw [tySg_s, ← List.append_assoc]
  refine (a_up_ne (Or.inl (by decide))).trans ?_
  have hl : (L ++ tySg x i).length = L.length + i := by rw [List.length_append, tySg_len]
  by_cases q : j = L.length + i
  · subst q
    rw [a_up_self, List.getD_eq_getElem?_getD, List.getElem?_append_right (by omega), hl]
    simp
  · rw [a_up_ne (Or.inr q), h2 j (by omega), List.getD_eq_getElem?_getD, List.getD_eq_getElem?_getD, List.getElem?_append_left (show j < (L ++ tySg x i).length by omega)]
set_option maxHeartbeats 4000000 in
theorem ty_l {mc ms kc ks : Nat} {V0 : aV} {x : Int64} {L : List Int32} {c : Nat} {ov r : Int32} (hR0 : MR V0) (hc : L.length + c ≤ 96) {Q : Option Value → aS → aV → Prop} {QX : String → aS → aV → Prop} (hQ : ∀ V', TYI V0 V' L x c → Q (some (.int (nI (L.length + c)))) Sh V') : ∀ (m j : Nat) (V : aV), j + m = c → TYI V0 V L x j → R mX12_type 1 mc ms Q QX kc ks 141 [some (.ref 504), some (.long x), none, some (.int (nI c)), some (.int ov), some (.int r), some (.int (nI j)), none] [] Sh V := by
  intro m
  induction m with
  | zero =>
    intro j V hj hT
    have hj' : j = c := by omega
    subst hj'
    have h1 := hT.1
    refine R_iload_6 dX12_type_141 ?_
    refine R_iload_3 dX12_type_143 ?_
    refine R_icmp_ge 184 dX12_type_144 (by decide) (fun c144 => ?_) (fun c144 => absurd (Int32.le_refl _) c144)
    refine R_aload_0 dX12_type_184 ?_
    refine gfX12_125 rfl dX12_type_185 sh_504 (by first | assumption | exact a_up_self _ _ _ _ | exact (a_up_ne (by omega)).trans (by assumption) | exact (a_up_ne (by omega)).trans (a_up_self _ _ _ _) | exact (a_up_ne (by omega)).trans ((a_up_ne (by omega)).trans (by assumption)) | exact (a_up_ne (by omega)).trans ((a_up_ne (by omega)).trans (a_up_self _ _ _ _)) | exact (a_up_ne (by omega)).trans ((a_up_ne (by omega)).trans ((a_up_ne (by omega)).trans (by assumption))) | exact (a_up_ne (by omega)).trans ((a_up_ne (by omega)).trans ((a_up_ne (by omega)).trans (a_up_self _ _ _ _))) | exact (a_up_ne (by omega)).trans ((a_up_ne (by omega)).trans ((a_up_ne (by omega)).trans ((a_up_ne (by omega)).trans (by assumption)))) | exact (a_up_ne (by omega)).trans ((a_up_ne (by omega)).trans ((a_up_ne (by omega)).trans ((a_up_ne (by omega)).trans (a_up_self _ _ _ _)))) | exact (a_up_ne (by omega)).trans ((a_up_ne (by omega)).trans ((a_up_ne (by omega)).trans ((a_up_ne (by omega)).trans ((a_up_ne (by omega)).trans (by assumption))))) | exact (a_up_ne (by omega)).trans ((a_up_ne (by omega)).trans ((a_up_ne (by omega)).trans ((a_up_ne (by omega)).trans ((a_up_ne (by omega)).trans (a_up_self _ _ _ _)))))) ?_
    refine R_iret rfl dX12_type_188 (hQ V hT)
  | succ m ih =>
    intro j V hj hT
    have h1 := hT.1
    have hR : MR V := hR0.fr (fun k hk => hT.2.2.2 k (fun z => hk (by rw [z]; decide)))
    have b9 : ¬ nI c ≤ nI j := nI_ge (a := j) (b := c) (by omega) (by omega)
    refine R_iload_6 dX12_type_141 ?_
    refine R_iload_3 dX12_type_143 ?_
    refine R_icmp_ge 184 dX12_type_144 (by decide) (fun c144 => absurd c144 b9) (fun c144 => ?_)
    refine R_aload_0 dX12_type_147 ?_
    refine gfX12_7 rfl dX12_type_148 sh_504 (by first | exact hR.g (k := 1) (a := 505) (by decide) | exact (a_up_ne (by omega)).trans (hR.g (k := 1) (a := 505) (by decide)) | exact (a_up_ne (by omega)).trans ((a_up_ne (by omega)).trans (hR.g (k := 1) (a := 505) (by decide))) | exact (a_up_ne (by omega)).trans ((a_up_ne (by omega)).trans ((a_up_ne (by omega)).trans (hR.g (k := 1) (a := 505) (by decide)))) | exact (a_up_ne (by omega)).trans ((a_up_ne (by omega)).trans ((a_up_ne (by omega)).trans ((a_up_ne (by omega)).trans (hR.g (k := 1) (a := 505) (by decide))))) | exact (a_up_ne (by omega)).trans ((a_up_ne (by omega)).trans ((a_up_ne (by omega)).trans ((a_up_ne (by omega)).trans ((a_up_ne (by omega)).trans (hR.g (k := 1) (a := 505) (by decide)))))) | exact (a_up_ne (by omega)).trans ((a_up_ne (by omega)).trans ((a_up_ne (by omega)).trans ((a_up_ne (by omega)).trans ((a_up_ne (by omega)).trans ((a_up_ne (by omega)).trans (hR.g (k := 1) (a := 505) (by decide)))))))) ?_
    refine R_aload_0 dX12_type_151 ?_
    refine gfX12_125 rfl dX12_type_152 sh_504 (by first | assumption | exact a_up_self _ _ _ _ | exact (a_up_ne (by omega)).trans (by assumption) | exact (a_up_ne (by omega)).trans (a_up_self _ _ _ _) | exact (a_up_ne (by omega)).trans ((a_up_ne (by omega)).trans (by assumption)) | exact (a_up_ne (by omega)).trans ((a_up_ne (by omega)).trans (a_up_self _ _ _ _)) | exact (a_up_ne (by omega)).trans ((a_up_ne (by omega)).trans ((a_up_ne (by omega)).trans (by assumption))) | exact (a_up_ne (by omega)).trans ((a_up_ne (by omega)).trans ((a_up_ne (by omega)).trans (a_up_self _ _ _ _))) | exact (a_up_ne (by omega)).trans ((a_up_ne (by omega)).trans ((a_up_ne (by omega)).trans ((a_up_ne (by omega)).trans (by assumption)))) | exact (a_up_ne (by omega)).trans ((a_up_ne (by omega)).trans ((a_up_ne (by omega)).trans ((a_up_ne (by omega)).trans (a_up_self _ _ _ _)))) | exact (a_up_ne (by omega)).trans ((a_up_ne (by omega)).trans ((a_up_ne (by omega)).trans ((a_up_ne (by omega)).trans ((a_up_ne (by omega)).trans (by assumption))))) | exact (a_up_ne (by omega)).trans ((a_up_ne (by omega)).trans ((a_up_ne (by omega)).trans ((a_up_ne (by omega)).trans ((a_up_ne (by omega)).trans (a_up_self _ _ _ _)))))) ?_
    refine R_lload_1 dX12_type_155 ?_
    refine R_bipush (v := 8) dX12_type_156 (by decide) ?_
    refine R_iload_6 dX12_type_158 ?_
    refine R_imul dX12_type_160 ?_
    refine R_lushr dX12_type_161 ?_
    refine R_ldc2 dX12_type_162 cwX12_123 ?_
    refine R_land dX12_type_165 ?_
    refine R_l2i dX12_type_166 ?_
    rw [show ((x.toUInt64 >>> ((8 * nI j).toInt64.toUInt64 &&& Int64.toUInt64 63)).toInt64 &&& 255).toInt32 = sgc x (nI j) from rfl]
    refine R_iastE dX12_type_167 sh_505 rfl (by omega) (by decide) ?_
    refine R_aload_0 dX12_type_168 ?_
    refine R_dup dX12_type_169 rfl ?_
    refine gfX12_125 rfl dX12_type_170 sh_504 (by first | assumption | exact a_up_self _ _ _ _ | exact (a_up_ne (by omega)).trans (by assumption) | exact (a_up_ne (by omega)).trans (a_up_self _ _ _ _) | exact (a_up_ne (by omega)).trans ((a_up_ne (by omega)).trans (by assumption)) | exact (a_up_ne (by omega)).trans ((a_up_ne (by omega)).trans (a_up_self _ _ _ _)) | exact (a_up_ne (by omega)).trans ((a_up_ne (by omega)).trans ((a_up_ne (by omega)).trans (by assumption))) | exact (a_up_ne (by omega)).trans ((a_up_ne (by omega)).trans ((a_up_ne (by omega)).trans (a_up_self _ _ _ _))) | exact (a_up_ne (by omega)).trans ((a_up_ne (by omega)).trans ((a_up_ne (by omega)).trans ((a_up_ne (by omega)).trans (by assumption)))) | exact (a_up_ne (by omega)).trans ((a_up_ne (by omega)).trans ((a_up_ne (by omega)).trans ((a_up_ne (by omega)).trans (a_up_self _ _ _ _)))) | exact (a_up_ne (by omega)).trans ((a_up_ne (by omega)).trans ((a_up_ne (by omega)).trans ((a_up_ne (by omega)).trans ((a_up_ne (by omega)).trans (by assumption))))) | exact (a_up_ne (by omega)).trans ((a_up_ne (by omega)).trans ((a_up_ne (by omega)).trans ((a_up_ne (by omega)).trans ((a_up_ne (by omega)).trans (a_up_self _ _ _ _)))))) ?_
    refine R_iconst (v := 1) dX12_type_173 (by decide) ?_
    refine R_iadd dX12_type_174 ?_
    rw [nI_1]
    refine pfX12_125 rfl dX12_type_175 sh_504 ?_
    refine R_iinc_6 rfl (by decide) dX12_type_178 rfl ?_
    rw [show nI j + Int32.ofInt 1 = nI (j + 1) from nI_1 j]
    refine R_goto 141 dX12_type_181 (by decide) ?_
    exact ih (j + 1) _ (by omega) hT.s
theorem cN_of {x : Int64} {n : Nat} (h : cSg x 8 0 0 = nI n) (hn : n ≤ 8) : cN x = n := by unfold cN; rw [h]; exact nI_clamp (by omega)
theorem xcTy_1 {L : List Int32} {x : Int64} (h : cSg x 8 0 0 = -1) : xcTy L x = 1 := if_pos h
theorem xcTy_2 {L : List Int32} {x : Int64} (h : ¬ cSg x 8 0 0 = -1) (h2 : 96 < L.length + cN x) : xcTy L x = 2 := (if_neg h).trans (if_pos h2)
theorem xcTy_0 {L : List Int32} {x : Int64} (h : ¬ cSg x 8 0 0 = -1) (h2 : ¬ 96 < L.length + cN x) : xcTy L x = 0 := (if_neg h).trans (if_neg h2)
/-- what type of the model leaves -/
def MTyP (V : aV) (L : List Int32) (x : Int64) : Option Value → aS → aV → Prop := fun v S' V' => Sh = S' ∧ V' 504 0 = .int (nI (xcTy L x)) ∧ (∃ y, v = some (.int y) ∧ (xcTy L x = 0 → y = nI (L.length + cN x))) ∧ ML V' (if xcTy L x = 0 then L ++ tySg x (cN x) else L) ∧ (∀ b, b ≠ 504 → b ≠ 505 → V' b = V b) ∧ ∀ k, k ≠ 0 → k ≠ 2 → V' 504 k = V 504 k
theorem ML.f0 {V : aV} {L : List Int32} {v : Value} {k : Nat} (h : ML V L) (hk : k ≠ 2) : ML (a_up V 504 k v) L := ⟨(a_up_ne (Or.inr (Ne.symm hk))).trans h.1, fun j hj => (a_up_ne (Or.inl (by decide))).trans (h.2.1 j hj), h.2.2⟩
set_option maxHeartbeats 4000000 in
theorem ct_mtype {V : aV} {L : List Int32} (hR : MR V) (hl : ML V L) (x : Int64) : CT mX12_type 1 0 0 [.ref 504, .long x] Sh V (MTyP V L x) aNo := by
  refine CT_of (by decide +kernel) (Nat.le_of_ble_eq_true rfl) ?_
  show R _ _ _ _ _ _ _ _ 0 [some (.ref 504), some (.long x), none, none, none, none, none, none] [] _ _
  obtain ⟨l1, l2, l3, l4⟩ := id hl
  refine R_iconst (v := 0) dX12_type_0 (by decide) ?_
  refine R_istore_3 rfl (by decide) dX12_type_1 ?_
  refine R_iconst (v := 0) dX12_type_2 (by decide) ?_
  refine R_istore_4 rfl (by decide) dX12_type_3 ?_
  refine R_iconst (v := 1) dX12_type_5 (by decide) ?_
  refine R_istore_5 rfl (by decide) dX12_type_6 ?_
  refine R_iconst (v := 0) dX12_type_8 (by decide) ?_
  refine R_istore_6 rfl (by decide) dX12_type_9 ?_
  refine ty_r (fun mn ov r h hm8 => ?_) 8 0 0 0 rfl (Nat.le_refl _) (bI_f (by omega)).symm rfl
  refine R_aload_0 dX12_type_104 ?_
  refine R_iload_5 dX12_type_105 ?_
  refine R_if_ne 114 dX12_type_107 (by decide) (fun c107 => ?_) (fun c107 => ?_)
  · have hx := (h.resolve_right (fun z => c107 z.1)).2.1
    have hn := cN_of hx hm8
    have hx1 : ¬ cSg x 8 0 0 = -1 := by rw [hx]; exact m1_ne (by omega)
    refine R_aload_0 dX12_type_114 ?_
    refine gfX12_125 rfl dX12_type_115 sh_504 (by first | assumption | exact a_up_self _ _ _ _ | exact (a_up_ne (by omega)).trans (by assumption) | exact (a_up_ne (by omega)).trans (a_up_self _ _ _ _) | exact (a_up_ne (by omega)).trans ((a_up_ne (by omega)).trans (by assumption)) | exact (a_up_ne (by omega)).trans ((a_up_ne (by omega)).trans (a_up_self _ _ _ _)) | exact (a_up_ne (by omega)).trans ((a_up_ne (by omega)).trans ((a_up_ne (by omega)).trans (by assumption))) | exact (a_up_ne (by omega)).trans ((a_up_ne (by omega)).trans ((a_up_ne (by omega)).trans (a_up_self _ _ _ _))) | exact (a_up_ne (by omega)).trans ((a_up_ne (by omega)).trans ((a_up_ne (by omega)).trans ((a_up_ne (by omega)).trans (by assumption)))) | exact (a_up_ne (by omega)).trans ((a_up_ne (by omega)).trans ((a_up_ne (by omega)).trans ((a_up_ne (by omega)).trans (a_up_self _ _ _ _)))) | exact (a_up_ne (by omega)).trans ((a_up_ne (by omega)).trans ((a_up_ne (by omega)).trans ((a_up_ne (by omega)).trans ((a_up_ne (by omega)).trans (by assumption))))) | exact (a_up_ne (by omega)).trans ((a_up_ne (by omega)).trans ((a_up_ne (by omega)).trans ((a_up_ne (by omega)).trans ((a_up_ne (by omega)).trans (a_up_self _ _ _ _)))))) ?_
    refine R_iload_3 dX12_type_118 ?_
    refine R_iadd dX12_type_119 ?_
    refine R_bipush (v := 96) dX12_type_120 (by decide) ?_
    refine R_icmp_le 129 dX12_type_122 (by decide) (fun c122 => ?_) (fun c122 => ?_)
    · have h9 : ¬ 96 < L.length + cN x := by rw [hn]; exact Nat.not_lt.2 ((nI_leI (a := L.length + mn) (b := 96) (by omega) (by decide)).1 (by rw [← nI_add]; exact c122))
      refine R_iconst (v := 0) dX12_type_129 (by decide) ?_
      refine R_callV_e (T := mX12_type) (T' := mX12_fails) (As := [_]) (ci := 12) okX12_fails mlX12_128 rfl (by decide) sh_504 (ct_mfails _) rfl (by decide) (by decide) (Nat.le_of_ble_eq_true rfl) dX12_type_130 ?_
      refine R_if_eq 138 dX12_type_133 (by decide) (fun c133 => ?_) (fun c133 => absurd (by decide) c133)
      refine R_iconst (v := 0) dX12_type_138 (by decide) ?_
      refine R_istore_6 rfl (by decide) dX12_type_139 ?_
      have hx0 := xcTy_0 hx1 h9
      refine ty_l (V0 := a_up V 504 0 (.int 0)) (hR.u (by decide)) (by omega) (fun V' hT => ⟨rfl, (hT.2.2.2 0 (by decide)).trans ((a_up_self _ _ _ _).trans (by rw [hx0]; rfl)), ⟨_, rfl, fun _ => by rw [hn]⟩, ?_, fun b q1 q2 => (hT.2.2.1 b q1 q2).trans (a_up_row q1), fun k q1 q2 => (hT.2.2.2 k q2).trans (a_up_ne (Or.inr q1))⟩) mn 0 _ (by omega) ⟨(a_up_ne (Or.inr (by decide))).trans l1, fun j hj => (a_up_ne (Or.inl (by decide))).trans ((l2 j hj).trans (by simp [tySg])), fun b _ _ => rfl, fun k _ => rfl⟩
      rw [if_pos hx0, hn]
      have hl9 : (L ++ tySg x mn).length = L.length + mn := by rw [List.length_append, tySg_len]
      refine ⟨by rw [hl9]; exact hT.1, fun j hj => hT.2.1 j (by rw [← hl9]; exact hj), by omega, fun c hc => ?_⟩
      rcases List.mem_append.1 hc with hc | hc
      · exact l4 c hc
      · obtain ⟨i, hi, rfl⟩ := List.mem_map.1 hc
        exact cSg_ok 8 0 mn rfl (by omega) hx i (by omega) (List.mem_range.1 hi)
    · have h9 : 96 < L.length + cN x := by rw [hn]; exact Nat.lt_of_not_le (fun q => c122 (by show nI L.length + nI mn ≤ nI 96; rw [nI_add]; exact nI_le q (by decide)))
      refine R_iconst (v := 2) dX12_type_125 (by decide) ?_
      refine R_goto 130 dX12_type_126 (by decide) ?_
      refine R_callV_e (T := mX12_type) (T' := mX12_fails) (As := [_]) (ci := 12) okX12_fails mlX12_128 rfl (by decide) sh_504 (ct_mfails _) rfl (by decide) (by decide) (Nat.le_of_ble_eq_true rfl) dX12_type_130 ?_
      refine R_if_eq 138 dX12_type_133 (by decide) (fun c133 => absurd c133 (by decide)) (fun c133 => ?_)
      refine R_iconst (v := 0) dX12_type_136 (by decide) ?_
      refine R_iret rfl dX12_type_137 ⟨rfl, (a_up_self _ _ _ _).trans (by rw [xcTy_2 hx1 h9]; rfl), ⟨0, rfl, fun z => by rw [xcTy_2 hx1 h9] at z; cases z⟩, by rw [if_neg (by rw [xcTy_2 hx1 h9]; decide)]; exact hl.f0 (by decide), fun b q1 _ => a_up_row q1, fun k q1 _ => a_up_ne (Or.inr q1)⟩
  · have hx : cSg x 8 0 0 = -1 := (h.resolve_left (fun z => absurd (z.1.symm.trans c107) (by decide))).2
    refine R_iconst (v := 1) dX12_type_110 (by decide) ?_
    refine R_goto 130 dX12_type_111 (by decide) ?_
    refine R_callV_e (T := mX12_type) (T' := mX12_fails) (As := [_]) (ci := 12) okX12_fails mlX12_128 rfl (by decide) sh_504 (ct_mfails _) rfl (by decide) (by decide) (Nat.le_of_ble_eq_true rfl) dX12_type_130 ?_
    refine R_if_eq 138 dX12_type_133 (by decide) (fun c133 => absurd c133 (by decide)) (fun c133 => ?_)
    refine R_iconst (v := 0) dX12_type_136 (by decide) ?_
    refine R_iret rfl dX12_type_137 ⟨rfl, (a_up_self _ _ _ _).trans (by rw [xcTy_1 hx]; rfl), ⟨0, rfl, fun z => by rw [xcTy_1 hx] at z; cases z⟩, by rw [if_neg (by rw [xcTy_1 hx]; decide)]; exact hl.f0 (by decide), fun b q1 _ => a_up_row q1, fun k q1 _ => a_up_ne (Or.inr q1)⟩

