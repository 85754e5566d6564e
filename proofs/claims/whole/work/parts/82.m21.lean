/-! ===== MergePostModel: the letters of a run ===== -/
/-- for which reasons each was posted -/
def MPo (V : aV) (po : Nat → Nat) : Prop := ∀ i, i < 12 → V 520 i = .int (nI (po i))
/-- the runs -/
def MRu (V : aV) (n : Nat) (rt rr : Nat → Nat) (pd : Nat → Bool) (kn : Nat → Nat) : Prop := V 504 22 = .int (nI n) ∧ ∀ i, i < 8 → V 521 i = .int (nI (rt i)) ∧ V 522 i = .int (nI (rr i)) ∧ V 523 i = .int (bI (pd i = true)) ∧ V 524 i = .int (nI (kn i))
/-- the letters kept -/
def MKe (V : aV) (kn : Nat → Nat) (kl : Nat → Nat → KL) : Prop := ∀ i, i < 8 → ∀ j, j < kn i → V 525 (12 * i + j) = .int (nI (kl i j).2.1) ∧ V 526 (12 * i + j) = .int (nI (kl i j).1.length) ∧ V 527 (12 * i + j) = .int (kl i j).2.2.2 ∧ ∀ q, q < (kl i j).1.length → V 528 (160 * (12 * i + j) + q) = .int ((kl i j).1.getD q 0)
theorem gOf_cnt {mt : Nat → Nat} {cnt a : Nat} (hm : MTO mt cnt) (ha : a < cnt) (hc : cnt ≤ 12) : ∀ i, (gOf mt a).testBit i = true → i < cnt := by
  have e : ∀ i, (2 ^ cnt - 1).testBit i = decide (i < cnt) := fun i => Nat.testBit_two_pow_sub_one cnt i
  have := gOf_min (mt := mt) (H := 2 ^ cnt - 1) (a := a) hm.1 (fun i j hi hj _ q2 => by rw [e]; exact decide_eq_true (hm.2 i j hi hj q2).2.1) (by rw [e]; exact decide_eq_true ha)
  intro i h
  have h2 := this i h
  rw [e] at h2
  exact of_decide_eq_true h2
def hitB (g : Nat) (po : Nat → Nat) (r : Nat) : Nat → Bool
  | 0 => false
  | i + 1 => hitB g po r i || (g.testBit i && (po i).testBit r)
theorem hitB_iff {g r : Nat} {po : Nat → Nat} : ∀ n, hitB g po r n = true ↔ ∃ i, i < n ∧ g.testBit i = true ∧ (po i).testBit r = true
  | 0 => ⟨fun h => absurd (show false = true from h) (by decide), fun ⟨i, h, _⟩ => absurd h (Nat.not_lt_zero i)⟩
  | n + 1 => by
    show (hitB g po r n || (g.testBit n && (po n).testBit r)) = true ↔ _
    rw [Bool.or_eq_true, Bool.and_eq_true, hitB_iff n]
    constructor
    · rintro (⟨i, a, b⟩ | h)
      · exact ⟨i, by omega, b⟩
      · exact ⟨n, by omega, h⟩
    · rintro ⟨i, a, b⟩
      by_cases e : i = n
      · subst e; exact Or.inr b
      · exact Or.inl ⟨i, by omega, b⟩
theorem hitB_wP {g r cnt : Nat} {po : Nat → Nat} (hc : cnt ≤ 12) (h : ∀ i, g.testBit i = true → i < cnt) : hitB g po r cnt = true ↔ wP po g r 0 := by
  rw [hitB_iff, wP_ex]
  exact ⟨fun ⟨i, a, b⟩ => ⟨i, Nat.zero_le _, by omega, b⟩, fun ⟨i, _, _, b⟩ => ⟨i, h i b.1, b⟩⟩
/-- the least member of its group -/
theorem low_iff {g a c : Nat} (ha : g.testBit a = true) (hc : g.testBit c = true) (h0 : ∀ i, i < c → g.testBit i = false) : c = a ↔ g &&& (2 ^ a - 1) = 0 := by
  constructor
  · rintro rfl
    apply Nat.eq_of_testBit_eq
    intro i
    rw [Nat.testBit_and, Nat.testBit_two_pow_sub_one, Nat.zero_testBit]
    by_cases q : i < c
    · rw [h0 i q, Bool.false_and]
    · rw [decide_eq_false q, Bool.and_false]
  · intro h
    have le : c ≤ a := Nat.le_of_not_lt fun q => by rw [h0 a q] at ha; cases ha
    refine Nat.le_antisymm le (Nat.le_of_not_lt fun q => ?_)
    have e := congrArg (fun z => z.testBit c) h
    simp only [Nat.testBit_and, Nat.testBit_two_pow_sub_one, Nat.zero_testBit, hc, decide_eq_true q, Bool.and_true] at e
    cases e
theorem dLst_ext {mt po : Nat → Nat} {r a : Nat} : ∀ m, ∃ l, dLst mt po r (a + m) = dLst mt po r a ++ l
  | 0 => ⟨[], (List.append_nil _).symm⟩
  | m + 1 => by
    obtain ⟨l, e⟩ := dLst_ext (mt := mt) (po := po) (r := r) (a := a) m
    show ∃ l', dLst mt po r (a + m + 1) = _
    by_cases h1 : gOf mt (a + m) &&& (2 ^ (a + m) - 1) = 0
    · by_cases h2 : wP po (gOf mt (a + m)) r 0
      · exact ⟨l, by rw [dLst_n2 h2, e]⟩
      · exact ⟨l ++ [gOf mt (a + m)], by rw [dLst_y h1 h2, e, List.append_assoc]⟩
    · exact ⟨l, by rw [dLst_n1 h1, e]⟩
theorem dLst_at {mt po : Nat → Nat} {r a c : Nat} (h1 : gOf mt a &&& (2 ^ a - 1) = 0) (h2 : ¬ wP po (gOf mt a) r 0) (hc : a < c) : (dLst mt po r c).getD (dLst mt po r a).length 0 = gOf mt a := by
  obtain ⟨l, e⟩ := dLst_ext (mt := mt) (po := po) (r := r) (a := a + 1) (c - (a + 1))
  rw [show a + 1 + (c - (a + 1)) = c by omega, dLst_y h1 h2] at e
  rw [e, List.append_assoc, List.getD_eq_getElem?_getD, List.getElem?_append_right (Nat.le_refl _), Nat.sub_self]
  rfl
theorem gd_end {l : List Nat} {m : Nat} (h : l.length ≤ m) : l.getD m 0 = 0 := by simp [List.getD_eq_getElem?_getD, h]
theorem mb_1 {P : Prop} [Decidable P] (h : bI P = 1) : ¬ bI P = 0 := fun z => by rw [z] at h; exact absurd h (by decide)
theorem mb_0 {P : Prop} [Decidable P] (h : ¬ bI P = 1) : ¬ P := fun z => h (bI_t z)
set_option maxHeartbeats 4000000 in
theorem om_in {mc ms kc ks : Nat} {V : aV} {mt po : Nat → Nat} {cnt i m r : Nat} (hR : MR V) (h5 : V 504 5 = .int (nI cnt)) (hM : MM V mt) (hm : MTO mt cnt) (hc : cnt ≤ 12) (hP : MPo V po) (hpo : ∀ i, i < 12 → po i < 2 ^ 12) (hi : i < 8) (hr : V 522 i = .int (nI r)) (hr8 : r < 8) (hm9 : m < 2 ^ 31) {a g left : Nat} (hg : g < 2 ^ 12) {Q : Option Value → aS → aV → Prop} {QX : String → aS → aV → Prop} (hK : R mX12_openMembers 1 mc ms Q QX kc ks 86 [some (.ref 504), some (.int (nI i)), some (.int (nI m)), some (.int (nI (left))), some (.int (nI a)), some (.int (nI g)), some (.int (bI (hitB g po r cnt = true))), none] [] Sh V) : ∀ (n j : Nat), j + n = cnt → R mX12_openMembers 1 mc ms Q QX kc ks 28 [some (.ref 504), some (.int (nI i)), some (.int (nI m)), some (.int (nI (left))), some (.int (nI a)), some (.int (nI g)), some (.int (bI (hitB g po r j = true))), some (.int (nI j))] [] Sh V := by
  intro n
  induction n with
  | zero =>
    intro j hj
    have hj' : j = cnt := by omega
    subst hj'
    refine R_iload_7 dX12_openMembers_28 ?_
    refine R_aload_0 dX12_openMembers_30 ?_
    refine gfX12_166 rfl dX12_openMembers_31 sh_504 (by first | assumption | exact a_up_self _ _ _ _ | exact (a_up_ne (by omega)).trans (by assumption) | exact (a_up_ne (by omega)).trans (a_up_self _ _ _ _) | exact (a_up_ne (by omega)).trans ((a_up_ne (by omega)).trans (by assumption)) | exact (a_up_ne (by omega)).trans ((a_up_ne (by omega)).trans (a_up_self _ _ _ _)) | exact (a_up_ne (by omega)).trans ((a_up_ne (by omega)).trans ((a_up_ne (by omega)).trans (by assumption))) | exact (a_up_ne (by omega)).trans ((a_up_ne (by omega)).trans ((a_up_ne (by omega)).trans (a_up_self _ _ _ _))) | exact (a_up_ne (by omega)).trans ((a_up_ne (by omega)).trans ((a_up_ne (by omega)).trans ((a_up_ne (by omega)).trans (by assumption)))) | exact (a_up_ne (by omega)).trans ((a_up_ne (by omega)).trans ((a_up_ne (by omega)).trans ((a_up_ne (by omega)).trans (a_up_self _ _ _ _)))) | exact (a_up_ne (by omega)).trans ((a_up_ne (by omega)).trans ((a_up_ne (by omega)).trans ((a_up_ne (by omega)).trans ((a_up_ne (by omega)).trans (by assumption))))) | exact (a_up_ne (by omega)).trans ((a_up_ne (by omega)).trans ((a_up_ne (by omega)).trans ((a_up_ne (by omega)).trans ((a_up_ne (by omega)).trans (a_up_self _ _ _ _)))))) ?_
    refine R_icmp_ge 86 dX12_openMembers_34 (by decide) (fun c34 => ?_) (fun c34 => absurd (Int32.le_refl _) c34)
    refine R_drop_7 ?_
    exact hK
  | succ n ih =>
    intro j hj
    have hpj := hpo j (by omega)
    have b9 : ¬ nI cnt ≤ nI j := nI_ge (a := j) (b := cnt) (by omega) (by omega)
    have ea : hitB g po r (j + 1) = (hitB g po r j || (g.testBit j && (po j).testBit r)) := rfl
    refine R_iload_7 dX12_openMembers_28 ?_
    refine R_aload_0 dX12_openMembers_30 ?_
    refine gfX12_166 rfl dX12_openMembers_31 sh_504 (by first | assumption | exact a_up_self _ _ _ _ | exact (a_up_ne (by omega)).trans (by assumption) | exact (a_up_ne (by omega)).trans (a_up_self _ _ _ _) | exact (a_up_ne (by omega)).trans ((a_up_ne (by omega)).trans (by assumption)) | exact (a_up_ne (by omega)).trans ((a_up_ne (by omega)).trans (a_up_self _ _ _ _)) | exact (a_up_ne (by omega)).trans ((a_up_ne (by omega)).trans ((a_up_ne (by omega)).trans (by assumption))) | exact (a_up_ne (by omega)).trans ((a_up_ne (by omega)).trans ((a_up_ne (by omega)).trans (a_up_self _ _ _ _))) | exact (a_up_ne (by omega)).trans ((a_up_ne (by omega)).trans ((a_up_ne (by omega)).trans ((a_up_ne (by omega)).trans (by assumption)))) | exact (a_up_ne (by omega)).trans ((a_up_ne (by omega)).trans ((a_up_ne (by omega)).trans ((a_up_ne (by omega)).trans (a_up_self _ _ _ _)))) | exact (a_up_ne (by omega)).trans ((a_up_ne (by omega)).trans ((a_up_ne (by omega)).trans ((a_up_ne (by omega)).trans ((a_up_ne (by omega)).trans (by assumption))))) | exact (a_up_ne (by omega)).trans ((a_up_ne (by omega)).trans ((a_up_ne (by omega)).trans ((a_up_ne (by omega)).trans ((a_up_ne (by omega)).trans (a_up_self _ _ _ _)))))) ?_
    refine R_icmp_ge 86 dX12_openMembers_34 (by decide) (fun c34 => absurd c34 b9) (fun c34 => ?_)
    refine R_iload_6 dX12_openMembers_37 ?_
    refine R_if_ne 73 dX12_openMembers_39 (by decide) (fun c39 => ?_) (fun c39 => ?_)
    · refine R_iconst (v := 1) dX12_openMembers_73 (by decide) ?_
      refine R_goto 78 dX12_openMembers_74 (by decide) ?_
      first
        | (have e9 : bI (hitB g po r (j + 1) = true) = 1 := bI_t (by rw [ea, bI_ne c39]; rfl)
           rw [← e9]
           refine R_istore_6 rfl (by decide) dX12_openMembers_78 ?_
           refine R_iinc_7 rfl (by decide) dX12_openMembers_80 rfl ?_
           rw [show nI j + Int32.ofInt 1 = nI (j + 1) from nI_1 j]
           refine R_goto 28 dX12_openMembers_83 (by decide) ?_
           exact ih (j + 1) (by omega))
        | (have e9 : bI (hitB g po r (j + 1) = true) = 1 := bI_t (by rw [ea, bI_ne (mb_1 c50), bI_ne (mb_1 c70)]; exact Bool.or_true _)
           rw [← e9]
           refine R_istore_6 rfl (by decide) dX12_openMembers_78 ?_
           refine R_iinc_7 rfl (by decide) dX12_openMembers_80 rfl ?_
           rw [show nI j + Int32.ofInt 1 = nI (j + 1) from nI_1 j]
           refine R_goto 28 dX12_openMembers_83 (by decide) ?_
           exact ih (j + 1) (by omega))
        | (have e9 : bI (hitB g po r (j + 1) = true) = 0 := bI_f (by rw [ea, Bool.eq_false_iff.2 (bI_eq c39), Bool.eq_false_iff.2 (mb_0 c50), Bool.false_and]; decide)
           rw [← e9]
           refine R_istore_6 rfl (by decide) dX12_openMembers_78 ?_
           refine R_iinc_7 rfl (by decide) dX12_openMembers_80 rfl ?_
           rw [show nI j + Int32.ofInt 1 = nI (j + 1) from nI_1 j]
           refine R_goto 28 dX12_openMembers_83 (by decide) ?_
           exact ih (j + 1) (by omega))
        | (have e9 : bI (hitB g po r (j + 1) = true) = 0 := bI_f (by rw [ea, Bool.eq_false_iff.2 (bI_eq c39), Bool.eq_false_iff.2 (mb_0 c70), Bool.and_false]; decide)
           rw [← e9]
           refine R_istore_6 rfl (by decide) dX12_openMembers_78 ?_
           refine R_iinc_7 rfl (by decide) dX12_openMembers_80 rfl ?_
           rw [show nI j + Int32.ofInt 1 = nI (j + 1) from nI_1 j]
           refine R_goto 28 dX12_openMembers_83 (by decide) ?_
           exact ih (j + 1) (by omega))
    · refine R_iload_5 dX12_openMembers_42 ?_
      refine R_iload_7 dX12_openMembers_44 ?_
      refine R_ishr dX12_openMembers_46 ?_
      refine R_iconst (v := 1) dX12_openMembers_47 (by decide) ?_
      refine R_iand dX12_openMembers_48 ?_
      rw [mb_sh (by omega) (by omega)]
      refine R_iconst (v := 1) dX12_openMembers_49 (by decide) ?_
      refine R_icmp_ne 77 dX12_openMembers_50 (by decide) (fun c50 => ?_) (fun c50 => ?_)
      · refine R_iconst (v := 0) dX12_openMembers_77 (by decide) ?_
        first
          | (have e9 : bI (hitB g po r (j + 1) = true) = 1 := bI_t (by rw [ea, bI_ne c39]; rfl)
             rw [← e9]
             refine R_istore_6 rfl (by decide) dX12_openMembers_78 ?_
             refine R_iinc_7 rfl (by decide) dX12_openMembers_80 rfl ?_
             rw [show nI j + Int32.ofInt 1 = nI (j + 1) from nI_1 j]
             refine R_goto 28 dX12_openMembers_83 (by decide) ?_
             exact ih (j + 1) (by omega))
          | (have e9 : bI (hitB g po r (j + 1) = true) = 1 := bI_t (by rw [ea, bI_ne (mb_1 c50), bI_ne (mb_1 c70)]; exact Bool.or_true _)
             rw [← e9]
             refine R_istore_6 rfl (by decide) dX12_openMembers_78 ?_
             refine R_iinc_7 rfl (by decide) dX12_openMembers_80 rfl ?_
             rw [show nI j + Int32.ofInt 1 = nI (j + 1) from nI_1 j]
             refine R_goto 28 dX12_openMembers_83 (by decide) ?_
             exact ih (j + 1) (by omega))
          | (have e9 : bI (hitB g po r (j + 1) = true) = 0 := bI_f (by rw [ea, Bool.eq_false_iff.2 (bI_eq c39), Bool.eq_false_iff.2 (mb_0 c50), Bool.false_and]; decide)
             rw [← e9]
             refine R_istore_6 rfl (by decide) dX12_openMembers_78 ?_
             refine R_iinc_7 rfl (by decide) dX12_openMembers_80 rfl ?_
             rw [show nI j + Int32.ofInt 1 = nI (j + 1) from nI_1 j]
             refine R_goto 28 dX12_openMembers_83 (by decide) ?_
             exact ih (j + 1) (by omega))
          | (have e9 : bI (hitB g po r (j + 1) = true) = 0 := bI_f (by rw [ea, Bool.eq_false_iff.2 (bI_eq c39), Bool.eq_false_iff.2 (mb_0 c70), Bool.and_false]; decide)
             rw [← e9]
             refine R_istore_6 rfl (by decide) dX12_openMembers_78 ?_
             refine R_iinc_7 rfl (by decide) dX12_openMembers_80 rfl ?_
             rw [show nI j + Int32.ofInt 1 = nI (j + 1) from nI_1 j]
             refine R_goto 28 dX12_openMembers_83 (by decide) ?_
             exact ih (j + 1) (by omega))
      · refine R_aload_0 dX12_openMembers_53 ?_
        refine gfX12_56 rfl dX12_openMembers_54 sh_504 (by first | exact hR.g (k := 18) (a := 520) (by decide) | exact (a_up_ne (by omega)).trans (hR.g (k := 18) (a := 520) (by decide)) | exact (a_up_ne (by omega)).trans ((a_up_ne (by omega)).trans (hR.g (k := 18) (a := 520) (by decide))) | exact (a_up_ne (by omega)).trans ((a_up_ne (by omega)).trans ((a_up_ne (by omega)).trans (hR.g (k := 18) (a := 520) (by decide)))) | exact (a_up_ne (by omega)).trans ((a_up_ne (by omega)).trans ((a_up_ne (by omega)).trans ((a_up_ne (by omega)).trans (hR.g (k := 18) (a := 520) (by decide))))) | exact (a_up_ne (by omega)).trans ((a_up_ne (by omega)).trans ((a_up_ne (by omega)).trans ((a_up_ne (by omega)).trans ((a_up_ne (by omega)).trans (hR.g (k := 18) (a := 520) (by decide)))))) | exact (a_up_ne (by omega)).trans ((a_up_ne (by omega)).trans ((a_up_ne (by omega)).trans ((a_up_ne (by omega)).trans ((a_up_ne (by omega)).trans ((a_up_ne (by omega)).trans (hR.g (k := 18) (a := 520) (by decide)))))))) ?_
        refine R_iload_7 dX12_openMembers_57 ?_
        refine R_ialdE dX12_openMembers_59 sh_520 rfl (by omega) (by decide) (hP j (by omega)) ?_
        refine R_aload_0 dX12_openMembers_60 ?_
        refine gfX12_69 rfl dX12_openMembers_61 sh_504 (by first | exact hR.g (k := 24) (a := 522) (by decide) | exact (a_up_ne (by omega)).trans (hR.g (k := 24) (a := 522) (by decide)) | exact (a_up_ne (by omega)).trans ((a_up_ne (by omega)).trans (hR.g (k := 24) (a := 522) (by decide))) | exact (a_up_ne (by omega)).trans ((a_up_ne (by omega)).trans ((a_up_ne (by omega)).trans (hR.g (k := 24) (a := 522) (by decide)))) | exact (a_up_ne (by omega)).trans ((a_up_ne (by omega)).trans ((a_up_ne (by omega)).trans ((a_up_ne (by omega)).trans (hR.g (k := 24) (a := 522) (by decide))))) | exact (a_up_ne (by omega)).trans ((a_up_ne (by omega)).trans ((a_up_ne (by omega)).trans ((a_up_ne (by omega)).trans ((a_up_ne (by omega)).trans (hR.g (k := 24) (a := 522) (by decide)))))) | exact (a_up_ne (by omega)).trans ((a_up_ne (by omega)).trans ((a_up_ne (by omega)).trans ((a_up_ne (by omega)).trans ((a_up_ne (by omega)).trans ((a_up_ne (by omega)).trans (hR.g (k := 24) (a := 522) (by decide)))))))) ?_
        refine R_iload_1 dX12_openMembers_64 ?_
        refine R_ialdE dX12_openMembers_65 sh_522 rfl (by omega) (by decide) hr ?_
        refine R_ishr dX12_openMembers_66 ?_
        refine R_iconst (v := 1) dX12_openMembers_67 (by decide) ?_
        refine R_iand dX12_openMembers_68 ?_
        rw [mb_sh (by omega) (by omega)]
        refine R_iconst (v := 1) dX12_openMembers_69 (by decide) ?_
        refine R_icmp_ne 77 dX12_openMembers_70 (by decide) (fun c70 => ?_) (fun c70 => ?_)
        · refine R_iconst (v := 0) dX12_openMembers_77 (by decide) ?_
          first
            | (have e9 : bI (hitB g po r (j + 1) = true) = 1 := bI_t (by rw [ea, bI_ne c39]; rfl)
               rw [← e9]
               refine R_istore_6 rfl (by decide) dX12_openMembers_78 ?_
               refine R_iinc_7 rfl (by decide) dX12_openMembers_80 rfl ?_
               rw [show nI j + Int32.ofInt 1 = nI (j + 1) from nI_1 j]
               refine R_goto 28 dX12_openMembers_83 (by decide) ?_
               exact ih (j + 1) (by omega))
            | (have e9 : bI (hitB g po r (j + 1) = true) = 1 := bI_t (by rw [ea, bI_ne (mb_1 c50), bI_ne (mb_1 c70)]; exact Bool.or_true _)
               rw [← e9]
               refine R_istore_6 rfl (by decide) dX12_openMembers_78 ?_
               refine R_iinc_7 rfl (by decide) dX12_openMembers_80 rfl ?_
               rw [show nI j + Int32.ofInt 1 = nI (j + 1) from nI_1 j]
               refine R_goto 28 dX12_openMembers_83 (by decide) ?_
               exact ih (j + 1) (by omega))
            | (have e9 : bI (hitB g po r (j + 1) = true) = 0 := bI_f (by rw [ea, Bool.eq_false_iff.2 (bI_eq c39), Bool.eq_false_iff.2 (mb_0 c50), Bool.false_and]; decide)
               rw [← e9]
               refine R_istore_6 rfl (by decide) dX12_openMembers_78 ?_
               refine R_iinc_7 rfl (by decide) dX12_openMembers_80 rfl ?_
               rw [show nI j + Int32.ofInt 1 = nI (j + 1) from nI_1 j]
               refine R_goto 28 dX12_openMembers_83 (by decide) ?_
               exact ih (j + 1) (by omega))
            | (have e9 : bI (hitB g po r (j + 1) = true) = 0 := bI_f (by rw [ea, Bool.eq_false_iff.2 (bI_eq c39), Bool.eq_false_iff.2 (mb_0 c70), Bool.and_false]; decide)
               rw [← e9]
               refine R_istore_6 rfl (by decide) dX12_openMembers_78 ?_
               refine R_iinc_7 rfl (by decide) dX12_openMembers_80 rfl ?_
               rw [show nI j + Int32.ofInt 1 = nI (j + 1) from nI_1 j]
               refine R_goto 28 dX12_openMembers_83 (by decide) ?_
               exact ih (j + 1) (by omega))
        · refine R_iconst (v := 1) dX12_openMembers_73 (by decide) ?_
          refine R_goto 78 dX12_openMembers_74 (by decide) ?_
          first
            | (have e9 : bI (hitB g po r (j + 1) = true) = 1 := bI_t (by rw [ea, bI_ne c39]; rfl)
               rw [← e9]
               refine R_istore_6 rfl (by decide) dX12_openMembers_78 ?_
               refine R_iinc_7 rfl (by decide) dX12_openMembers_80 rfl ?_
               rw [show nI j + Int32.ofInt 1 = nI (j + 1) from nI_1 j]
               refine R_goto 28 dX12_openMembers_83 (by decide) ?_
               exact ih (j + 1) (by omega))
            | (have e9 : bI (hitB g po r (j + 1) = true) = 1 := bI_t (by rw [ea, bI_ne (mb_1 c50), bI_ne (mb_1 c70)]; exact Bool.or_true _)
               rw [← e9]
               refine R_istore_6 rfl (by decide) dX12_openMembers_78 ?_
               refine R_iinc_7 rfl (by decide) dX12_openMembers_80 rfl ?_
               rw [show nI j + Int32.ofInt 1 = nI (j + 1) from nI_1 j]
               refine R_goto 28 dX12_openMembers_83 (by decide) ?_
               exact ih (j + 1) (by omega))
            | (have e9 : bI (hitB g po r (j + 1) = true) = 0 := bI_f (by rw [ea, Bool.eq_false_iff.2 (bI_eq c39), Bool.eq_false_iff.2 (mb_0 c50), Bool.false_and]; decide)
               rw [← e9]
               refine R_istore_6 rfl (by decide) dX12_openMembers_78 ?_
               refine R_iinc_7 rfl (by decide) dX12_openMembers_80 rfl ?_
               rw [show nI j + Int32.ofInt 1 = nI (j + 1) from nI_1 j]
               refine R_goto 28 dX12_openMembers_83 (by decide) ?_
               exact ih (j + 1) (by omega))
            | (have e9 : bI (hitB g po r (j + 1) = true) = 0 := bI_f (by rw [ea, Bool.eq_false_iff.2 (bI_eq c39), Bool.eq_false_iff.2 (mb_0 c70), Bool.and_false]; decide)
               rw [← e9]
               refine R_istore_6 rfl (by decide) dX12_openMembers_78 ?_
               refine R_iinc_7 rfl (by decide) dX12_openMembers_80 rfl ?_
               rw [show nI j + Int32.ofInt 1 = nI (j + 1) from nI_1 j]
               refine R_goto 28 dX12_openMembers_83 (by decide) ?_
               exact ih (j + 1) (by omega))
set_option maxHeartbeats 4000000 in
theorem om_out {mc ms kc ks : Nat} {V : aV} {mt po : Nat → Nat} {cnt i m r : Nat} (hR : MR V) (h5 : V 504 5 = .int (nI cnt)) (hM : MM V mt) (hm : MTO mt cnt) (hc : cnt ≤ 12) (hP : MPo V po) (hpo : ∀ i, i < 12 → po i < 2 ^ 12) (hi : i < 8) (hr : V 522 i = .int (nI r)) (hr8 : r < 8) (hm9 : m < 2 ^ 31) {Q : Option Value → aS → aV → Prop} {QX : String → aS → aV → Prop} (hQ : Q (some (.int (nI ((dLst mt po r cnt).getD m 0)))) Sh V) : ∀ (n a : Nat), a + n = cnt → (dLst mt po r a).length ≤ m → R mX12_openMembers 1 mc ms Q QX kc ks 5 [some (.ref 504), some (.int (nI i)), some (.int (nI m)), some (.int (nI (m - (dLst mt po r a).length))), some (.int (nI a)), none, none, none] [] Sh V := by
  intro n
  induction n with
  | zero =>
    intro a ha hl
    have ha' : a = cnt := by omega
    subst ha'
    rw [gd_end hl] at hQ
    refine R_iload_4 dX12_openMembers_5 ?_
    refine R_aload_0 dX12_openMembers_7 ?_
    refine gfX12_166 rfl dX12_openMembers_8 sh_504 (by first | assumption | exact a_up_self _ _ _ _ | exact (a_up_ne (by omega)).trans (by assumption) | exact (a_up_ne (by omega)).trans (a_up_self _ _ _ _) | exact (a_up_ne (by omega)).trans ((a_up_ne (by omega)).trans (by assumption)) | exact (a_up_ne (by omega)).trans ((a_up_ne (by omega)).trans (a_up_self _ _ _ _)) | exact (a_up_ne (by omega)).trans ((a_up_ne (by omega)).trans ((a_up_ne (by omega)).trans (by assumption))) | exact (a_up_ne (by omega)).trans ((a_up_ne (by omega)).trans ((a_up_ne (by omega)).trans (a_up_self _ _ _ _))) | exact (a_up_ne (by omega)).trans ((a_up_ne (by omega)).trans ((a_up_ne (by omega)).trans ((a_up_ne (by omega)).trans (by assumption)))) | exact (a_up_ne (by omega)).trans ((a_up_ne (by omega)).trans ((a_up_ne (by omega)).trans ((a_up_ne (by omega)).trans (a_up_self _ _ _ _)))) | exact (a_up_ne (by omega)).trans ((a_up_ne (by omega)).trans ((a_up_ne (by omega)).trans ((a_up_ne (by omega)).trans ((a_up_ne (by omega)).trans (by assumption))))) | exact (a_up_ne (by omega)).trans ((a_up_ne (by omega)).trans ((a_up_ne (by omega)).trans ((a_up_ne (by omega)).trans ((a_up_ne (by omega)).trans (a_up_self _ _ _ _)))))) ?_
    refine R_icmp_ge 117 dX12_openMembers_11 (by decide) (fun c11 => ?_) (fun c11 => absurd (Int32.le_refl _) c11)
    refine R_iconst (v := 0) dX12_openMembers_117 (by decide) ?_
    refine R_iret rfl dX12_openMembers_118 hQ
  | succ n ih =>
    intro a ha hl
    have b9 : ¬ nI cnt ≤ nI a := nI_ge (a := a) (b := cnt) (by omega) (by omega)
    have hg := gOf_mbr (mt := mt) (a := a) hm.1 (by omega)
    have hs := gOf_self mt a
    obtain ⟨c, c12, hc1, hc0⟩ := low_ex hg
    have hli := low_iff hs hc1 hc0
    have hhw := hitB_wP (po := po) (r := r) hc (gOf_cnt hm (a := a) (by omega) hc)
    refine R_iload_4 dX12_openMembers_5 ?_
    refine R_aload_0 dX12_openMembers_7 ?_
    refine gfX12_166 rfl dX12_openMembers_8 sh_504 (by first | assumption | exact a_up_self _ _ _ _ | exact (a_up_ne (by omega)).trans (by assumption) | exact (a_up_ne (by omega)).trans (a_up_self _ _ _ _) | exact (a_up_ne (by omega)).trans ((a_up_ne (by omega)).trans (by assumption)) | exact (a_up_ne (by omega)).trans ((a_up_ne (by omega)).trans (a_up_self _ _ _ _)) | exact (a_up_ne (by omega)).trans ((a_up_ne (by omega)).trans ((a_up_ne (by omega)).trans (by assumption))) | exact (a_up_ne (by omega)).trans ((a_up_ne (by omega)).trans ((a_up_ne (by omega)).trans (a_up_self _ _ _ _))) | exact (a_up_ne (by omega)).trans ((a_up_ne (by omega)).trans ((a_up_ne (by omega)).trans ((a_up_ne (by omega)).trans (by assumption)))) | exact (a_up_ne (by omega)).trans ((a_up_ne (by omega)).trans ((a_up_ne (by omega)).trans ((a_up_ne (by omega)).trans (a_up_self _ _ _ _)))) | exact (a_up_ne (by omega)).trans ((a_up_ne (by omega)).trans ((a_up_ne (by omega)).trans ((a_up_ne (by omega)).trans ((a_up_ne (by omega)).trans (by assumption))))) | exact (a_up_ne (by omega)).trans ((a_up_ne (by omega)).trans ((a_up_ne (by omega)).trans ((a_up_ne (by omega)).trans ((a_up_ne (by omega)).trans (a_up_self _ _ _ _)))))) ?_
    refine R_icmp_ge 117 dX12_openMembers_11 (by decide) (fun c11 => absurd c11 b9) (fun c11 => ?_)
    refine R_aload_0 dX12_openMembers_14 ?_
    refine R_iload_4 dX12_openMembers_15 ?_
    refine R_callV_e (T := mX12_openMembers) (T' := mX12_groupOf) (As := [_]) (ci := 12) okX12_groupOf mlX12_210 rfl (by decide) sh_504 (ct_mgroupOf (a := a) hR h5 hM hm hc (by omega)) rfl (by decide) (by decide) (Nat.le_of_ble_eq_true rfl) dX12_openMembers_17 ?_
    refine R_istore_5 rfl (by decide) dX12_openMembers_20 ?_
    refine R_iconst (v := 0) dX12_openMembers_22 (by decide) ?_
    refine R_istore_6 rfl (by decide) dX12_openMembers_23 ?_
    refine R_iconst (v := 0) dX12_openMembers_25 (by decide) ?_
    refine R_istore_7 rfl (by decide) dX12_openMembers_26 ?_
    have e0 : (0 : Int32) = bI (hitB (gOf mt a) po r 0 = true) := (bI_f (by decide : ¬ false = true)).symm
    have h9 := om_in (mc := mc) (ms := ms) (kc := kc) (ks := ks) (Q := Q) (QX := QX) (a := a) (g := gOf mt a) (left := m - (dLst mt po r a).length) hR h5 hM hm hc hP hpo hi hr hr8 hm9 hg.1 ?_ cnt 0 (by omega)
    · rw [← e0] at h9
      exact h9
    · refine R_iload_5 dX12_openMembers_86 ?_
      refine R_callS_e (T := mX12_openMembers) (T' := mX12_lowest) (As := [_]) okX12_lowest mlX12_216 rfl (ct_lowest hg.1 c12 hc1 hc0) rfl (by decide) (by decide) (Nat.le_of_ble_eq_true rfl) dX12_openMembers_88 ?_
      refine R_iload_4 dX12_openMembers_91 ?_
      refine R_icmp_ne 111 dX12_openMembers_93 (by decide) (fun c93 => ?_) (fun c93 => ?_)
      · first
          | (have d1 : ¬ gOf mt a &&& (2 ^ a - 1) = 0 := fun z => c93 (by rw [hli.2 z])
             rw [show dLst mt po r a = dLst mt po r (a + 1) from (dLst_n1 d1).symm] at hl ⊢
             refine R_iinc_4 rfl (by decide) dX12_openMembers_111 rfl ?_
             rw [show nI a + Int32.ofInt 1 = nI (a + 1) from nI_1 a]
             refine R_goto 5 dX12_openMembers_114 (by decide) ?_
             refine R_drop_5 ?_
             refine R_drop_6 ?_
             exact ih (a + 1) (by omega) hl)
          | (have d2 : wP po (gOf mt a) r 0 := hhw.1 (bI_ne c98)
             rw [show dLst mt po r a = dLst mt po r (a + 1) from (dLst_n2 d2).symm] at hl ⊢
             refine R_iinc_4 rfl (by decide) dX12_openMembers_111 rfl ?_
             rw [show nI a + Int32.ofInt 1 = nI (a + 1) from nI_1 a]
             refine R_goto 5 dX12_openMembers_114 (by decide) ?_
             refine R_drop_5 ?_
             refine R_drop_6 ?_
             exact ih (a + 1) (by omega) hl)
      · refine R_iload_6 dX12_openMembers_96 ?_
        refine R_if_ne 111 dX12_openMembers_98 (by decide) (fun c98 => ?_) (fun c98 => ?_)
        · first
            | (have d1 : ¬ gOf mt a &&& (2 ^ a - 1) = 0 := fun z => c93 (by rw [hli.2 z])
               rw [show dLst mt po r a = dLst mt po r (a + 1) from (dLst_n1 d1).symm] at hl ⊢
               refine R_iinc_4 rfl (by decide) dX12_openMembers_111 rfl ?_
               rw [show nI a + Int32.ofInt 1 = nI (a + 1) from nI_1 a]
               refine R_goto 5 dX12_openMembers_114 (by decide) ?_
               refine R_drop_5 ?_
               refine R_drop_6 ?_
               exact ih (a + 1) (by omega) hl)
            | (have d2 : wP po (gOf mt a) r 0 := hhw.1 (bI_ne c98)
               rw [show dLst mt po r a = dLst mt po r (a + 1) from (dLst_n2 d2).symm] at hl ⊢
               refine R_iinc_4 rfl (by decide) dX12_openMembers_111 rfl ?_
               rw [show nI a + Int32.ofInt 1 = nI (a + 1) from nI_1 a]
               refine R_goto 5 dX12_openMembers_114 (by decide) ?_
               refine R_drop_5 ?_
               refine R_drop_6 ?_
               exact ih (a + 1) (by omega) hl)
        · have d1 := hli.1 ((nI_eq (by omega) (by omega)).1 c93)
          have d2 : ¬ wP po (gOf mt a) r 0 := fun z => bI_eq c98 (hhw.2 z)
          refine R_iload_3 dX12_openMembers_101 ?_
          refine R_if_ne 108 dX12_openMembers_102 (by decide) (fun c102 => ?_) (fun c102 => ?_)
          · have e3 : ¬ m - (dLst mt po r a).length = 0 := fun z => c102 (by rw [z]; rfl)
            have e4 : m - (dLst mt po r a).length = m - (dLst mt po r (a + 1)).length + 1 := by rw [dLst_y d1 d2, List.length_append]; show _ = m - (_ + 1) + 1; omega
            refine R_iinc_3 rfl (by decide) dX12_openMembers_108 rfl ?_
            rw [show nI (m - (dLst mt po r a).length) + Int32.ofInt (-1) = nI (m - (dLst mt po r (a + 1)).length) by rw [e4]; exact pk_m1 _]
            refine R_iinc_4 rfl (by decide) dX12_openMembers_111 rfl ?_
            rw [show nI a + Int32.ofInt 1 = nI (a + 1) from nI_1 a]
            refine R_goto 5 dX12_openMembers_114 (by decide) ?_
            refine R_drop_5 ?_
            refine R_drop_6 ?_
            exact ih (a + 1) (by omega) (by rw [dLst_y d1 d2, List.length_append]; show _ + 1 ≤ m; omega)
          · have e3 : (dLst mt po r a).length = m := by have := nI_0of (by omega) c102; omega
            have e4 := dLst_at (c := cnt) d1 d2 (by omega)
            rw [e3] at e4
            rw [e4] at hQ
            refine R_iload_5 dX12_openMembers_105 ?_
            refine R_iret rfl dX12_openMembers_107 hQ
set_option maxHeartbeats 4000000 in
theorem ct_openMembers {V : aV} {mt po : Nat → Nat} {cnt i m r : Nat} (hR : MR V) (h5 : V 504 5 = .int (nI cnt)) (hM : MM V mt) (hm : MTO mt cnt) (hc : cnt ≤ 12) (hP : MPo V po) (hpo : ∀ i, i < 12 → po i < 2 ^ 12) (hi : i < 8) (hr : V 522 i = .int (nI r)) (hr8 : r < 8) (hm9 : m < 2 ^ 31) : CT mX12_openMembers 1 0 0 [.ref 504, .int (nI i), .int (nI m)] Sh V (aRet (some (.int (nI ((dLst mt po r cnt).getD m 0)))) Sh V) aNo := by
  refine CT_of (by decide +kernel) (Nat.le_of_ble_eq_true rfl) ?_
  show R _ _ _ _ _ _ _ _ 0 [some (.ref 504), some (.int (nI i)), some (.int (nI m)), none, none, none, none, none] [] _ _
  refine R_iload_2 dX12_openMembers_0 ?_
  refine R_istore_3 rfl (by decide) dX12_openMembers_1 ?_
  refine R_iconst (v := 0) dX12_openMembers_2 (by decide) ?_
  refine R_istore_4 rfl (by decide) dX12_openMembers_3 ?_
  exact om_out hR h5 hM hm hc hP hpo hi hr hr8 hm9 ⟨rfl, rfl, rfl⟩ cnt 0 (by omega) (Nat.zero_le _)

theorem dLst_ne {mt po : Nat → Nat} {r c l : Nat} (hl : l < (dLst mt po r c).length) : ¬ (dLst mt po r c).getD l 0 = 0 := by
  obtain ⟨a, -, e⟩ := dLst_mem c (gd_mem (d := 0) hl)
  intro z
  have q := gOf_self mt a
  rw [← e, z, Nat.zero_testBit] at q
  cases q
set_option maxHeartbeats 4000000 in
theorem lo_cnt {mc ms kc ks : Nat} {V : aV} {mt po : Nat → Nat} {cnt n : Nat} {rt rr : Nat → Nat} {pd : Nat → Bool} {kn : Nat → Nat} (hR : MR V) (h5 : V 504 5 = .int (nI cnt)) (hM : MM V mt) (hm : MTO mt cnt) (hc : cnt ≤ 12) (hP : MPo V po) (hpo : ∀ i, i < 12 → po i < 2 ^ 12) (hRu : MRu V n rt rr pd kn) (hrr : ∀ i, i < 8 → rr i < 8) {i : Nat} (hi : i < 8) {Q : Option Value → aS → aV → Prop} {QX : String → aS → aV → Prop} (hQ : Q (some (.int (nI (dLst mt po (rr i) cnt).length))) Sh V) : ∀ (q j : Nat), j + q = (dLst mt po (rr i) cnt).length → R mX12_lettersOf 2 mc ms Q QX kc ks 18 [some (.ref 504), some (.int (nI i)), some (.int (nI j))] [] Sh V := by
  have dl := dLst_len (mt := mt) (po := po) (r := rr i) cnt
  intro q
  induction q with
  | zero =>
    intro j hj
    have hj' : j = (dLst mt po (rr i) cnt).length := by omega
    subst hj'
    have e := gd_end (l := dLst mt po (rr i) cnt) (Nat.le_refl _)
    refine R_aload_0 dX12_lettersOf_18 ?_
    refine R_iload_1 dX12_lettersOf_19 ?_
    refine R_iload_2 dX12_lettersOf_20 ?_
    refine R_callV_e (T := mX12_lettersOf) (T' := mX12_openMembers) (As := [_, _]) (ci := 12) okX12_openMembers mlX12_289 rfl (by decide) sh_504 (ct_openMembers (m := (dLst mt po (rr i) cnt).length) hR h5 hM hm hc hP hpo hi (hRu.2 i hi).2.1 (hrr i hi) (by omega)) rfl (by decide) (by decide) (Nat.le_of_ble_eq_true rfl) dX12_lettersOf_21 ?_
    rw [e]
    refine R_if_eq 33 dX12_lettersOf_24 (by decide) (fun c24 => ?_) (fun c24 => absurd rfl c24)
    refine R_iload_2 dX12_lettersOf_33 ?_
    refine R_iret rfl dX12_lettersOf_34 hQ
  | succ q ih =>
    intro j hj
    have e := dLst_ne (mt := mt) (po := po) (r := rr i) (c := cnt) (l := j) (by omega)
    have e2 := (dLst_mbr (po := po) (r := rr i) hm.1 hc (show j < (dLst mt po (rr i) cnt).length by omega)).1
    refine R_aload_0 dX12_lettersOf_18 ?_
    refine R_iload_1 dX12_lettersOf_19 ?_
    refine R_iload_2 dX12_lettersOf_20 ?_
    refine R_callV_e (T := mX12_lettersOf) (T' := mX12_openMembers) (As := [_, _]) (ci := 12) okX12_openMembers mlX12_289 rfl (by decide) sh_504 (ct_openMembers (m := j) hR h5 hM hm hc hP hpo hi (hRu.2 i hi).2.1 (hrr i hi) (by omega)) rfl (by decide) (by decide) (Nat.le_of_ble_eq_true rfl) dX12_lettersOf_21 ?_
    refine R_if_eq 33 dX12_lettersOf_24 (by decide) (fun c24 => absurd c24 (nI_ne0 (by omega) (by omega))) (fun c24 => ?_)
    refine R_iinc_2 rfl (by decide) dX12_lettersOf_27 rfl ?_
    rw [show nI j + Int32.ofInt 1 = nI (j + 1) from nI_1 j]
    refine R_goto 18 dX12_lettersOf_30 (by decide) ?_
    exact ih (j + 1) (by omega)
set_option maxHeartbeats 4000000 in
theorem ct_lettersOf {V : aV} {mt po : Nat → Nat} {cnt n : Nat} {rt rr : Nat → Nat} {pd : Nat → Bool} {kn : Nat → Nat} (hR : MR V) (h5 : V 504 5 = .int (nI cnt)) (hM : MM V mt) (hm : MTO mt cnt) (hc : cnt ≤ 12) (hP : MPo V po) (hpo : ∀ i, i < 12 → po i < 2 ^ 12) (hRu : MRu V n rt rr pd kn) (hrr : ∀ i, i < 8 → rr i < 8) {i : Nat} (hi : i < 8) : CT mX12_lettersOf 2 0 0 [.ref 504, .int (nI i)] Sh V (aRet (some (.int (nI (lcn mt po cnt kn pd rr i)))) Sh V) aNo := by
  refine CT_of (by decide +kernel) (Nat.le_of_ble_eq_true rfl) ?_
  show R _ _ _ _ _ _ _ _ 0 [some (.ref 504), some (.int (nI i)), none] [] _ _
  refine R_aload_0 dX12_lettersOf_0 ?_
  refine gfX12_72 rfl dX12_lettersOf_1 sh_504 (by first | exact hR.g (k := 25) (a := 523) (by decide) | exact (a_up_ne (by omega)).trans (hR.g (k := 25) (a := 523) (by decide)) | exact (a_up_ne (by omega)).trans ((a_up_ne (by omega)).trans (hR.g (k := 25) (a := 523) (by decide))) | exact (a_up_ne (by omega)).trans ((a_up_ne (by omega)).trans ((a_up_ne (by omega)).trans (hR.g (k := 25) (a := 523) (by decide)))) | exact (a_up_ne (by omega)).trans ((a_up_ne (by omega)).trans ((a_up_ne (by omega)).trans ((a_up_ne (by omega)).trans (hR.g (k := 25) (a := 523) (by decide))))) | exact (a_up_ne (by omega)).trans ((a_up_ne (by omega)).trans ((a_up_ne (by omega)).trans ((a_up_ne (by omega)).trans ((a_up_ne (by omega)).trans (hR.g (k := 25) (a := 523) (by decide)))))) | exact (a_up_ne (by omega)).trans ((a_up_ne (by omega)).trans ((a_up_ne (by omega)).trans ((a_up_ne (by omega)).trans ((a_up_ne (by omega)).trans ((a_up_ne (by omega)).trans (hR.g (k := 25) (a := 523) (by decide)))))))) ?_
  refine R_iload_1 dX12_lettersOf_4 ?_
  refine R_zaldE dX12_lettersOf_5 sh_523 rfl (by omega) (by decide) (hRu.2 i hi).2.2.1 ?_
  refine R_if_eq 16 dX12_lettersOf_6 (by decide) (fun c6 => ?_) (fun c6 => ?_)
  · refine R_iconst (v := 0) dX12_lettersOf_16 (by decide) ?_
    refine R_istore_2 rfl (by decide) dX12_lettersOf_17 ?_
    exact lo_cnt hR h5 hM hm hc hP hpo hRu hrr hi (by unfold lcn; rw [if_neg (bI_eq c6)]; exact ⟨rfl, rfl, rfl⟩) (dLst mt po (rr i) cnt).length 0 (by omega)
  · refine R_aload_0 dX12_lettersOf_9 ?_
    refine gfX12_75 rfl dX12_lettersOf_10 sh_504 (by first | exact hR.g (k := 26) (a := 524) (by decide) | exact (a_up_ne (by omega)).trans (hR.g (k := 26) (a := 524) (by decide)) | exact (a_up_ne (by omega)).trans ((a_up_ne (by omega)).trans (hR.g (k := 26) (a := 524) (by decide))) | exact (a_up_ne (by omega)).trans ((a_up_ne (by omega)).trans ((a_up_ne (by omega)).trans (hR.g (k := 26) (a := 524) (by decide)))) | exact (a_up_ne (by omega)).trans ((a_up_ne (by omega)).trans ((a_up_ne (by omega)).trans ((a_up_ne (by omega)).trans (hR.g (k := 26) (a := 524) (by decide))))) | exact (a_up_ne (by omega)).trans ((a_up_ne (by omega)).trans ((a_up_ne (by omega)).trans ((a_up_ne (by omega)).trans ((a_up_ne (by omega)).trans (hR.g (k := 26) (a := 524) (by decide)))))) | exact (a_up_ne (by omega)).trans ((a_up_ne (by omega)).trans ((a_up_ne (by omega)).trans ((a_up_ne (by omega)).trans ((a_up_ne (by omega)).trans ((a_up_ne (by omega)).trans (hR.g (k := 26) (a := 524) (by decide)))))))) ?_
    refine R_iload_1 dX12_lettersOf_13 ?_
    refine R_ialdE dX12_lettersOf_14 sh_524 rfl (by omega) (by decide) (hRu.2 i hi).2.2.2 ?_
    refine R_iret rfl dX12_lettersOf_15 (ret_i (by unfold lcn; rw [if_pos (bI_ne c6)]))

def xcR (n : Nat) (t : Int32) : Nat := if ¬ t < 0 ∧ t < nI n then 0 else 1
theorem tN8 {t : Int32} {n : Nat} (h : ¬ t < 0 ∧ t < nI n) (hn : n ≤ 8) : ∃ i, i < n ∧ i < 8 ∧ t = nI i := by
  obtain ⟨i, hi, rfl⟩ := nI_of h.1
  have := (nI_ltI hi (by omega)).1 h.2
  exact ⟨i, this, by omega, rfl⟩
theorem MPo.fr {V V' : aV} {po : Nat → Nat} (h : MPo V po) (e : V' 520 = V 520) : MPo V' po := fun i hi => by rw [e]; exact h i hi
theorem MRu.fr {V V' : aV} {n : Nat} {rt rr : Nat → Nat} {pd : Nat → Bool} {kn : Nat → Nat} (h : MRu V n rt rr pd kn) (e0 : V' 504 22 = V 504 22) (e : ∀ b, 521 ≤ b → b ≤ 524 → V' b = V b) : MRu V' n rt rr pd kn := ⟨e0.trans h.1, fun i hi => by
  rw [e 521 (by decide) (by decide), e 522 (by decide) (by decide), e 523 (by decide) (by decide), e 524 (by decide) (by decide)]; exact h.2 i hi⟩
theorem MKe.fr {V V' : aV} {kn : Nat → Nat} {kl : Nat → Nat → KL} (h : MKe V kn kl) (e : ∀ b, 525 ≤ b → b ≤ 528 → V' b = V b) : MKe V' kn kl := fun i hi j hj => by
  rw [e 525 (by decide) (by decide), e 526 (by decide) (by decide), e 527 (by decide) (by decide), e 528 (by decide) (by decide)]; exact h i hi j hj
theorem FrS.mp {V V' : aV} {po : Nat → Nat} (h : FrS V V') (g : MPo V po) : MPo V' po := g.fr (h.1 520 (by decide) (by decide))
theorem FrS.mru {V V' : aV} {n : Nat} {rt rr : Nat → Nat} {pd : Nat → Bool} {kn : Nat → Nat} (h : FrS V V') (g : MRu V n rt rr pd kn) : MRu V' n rt rr pd kn := g.fr (h.2 22 (by decide) (by decide) (by decide)) (fun b q1 q2 => h.1 b (by omega) (by omega))
theorem FrS.mke {V V' : aV} {kn : Nat → Nat} {kl : Nat → Nat → KL} (h : FrS V V') (g : MKe V kn kl) : MKe V' kn kl := g.fr (fun b q1 q2 => h.1 b (by omega) (by omega))
set_option maxHeartbeats 4000000 in
theorem ct_mletters {V : aV} {mt po : Nat → Nat} {cnt n : Nat} {rt rr : Nat → Nat} {pd : Nat → Bool} {kn : Nat → Nat} (hR : MR V) (h5 : V 504 5 = .int (nI cnt)) (hM : MM V mt) (hm : MTO mt cnt) (hc : cnt ≤ 12) (hP : MPo V po) (hpo : ∀ i, i < 12 → po i < 2 ^ 12) (hRu : MRu V n rt rr pd kn) (hrr : ∀ i, i < 8 → rr i < 8) (hn : n ≤ 8) (t : Int32) : CT mX12_letters 3 0 0 [.ref 504, .int t] Sh V (MQy V (xcR n t) (nI (lcn mt po cnt kn pd rr t.toNatClampNeg))) aNo := by
  refine CT_of (by decide +kernel) (Nat.le_of_ble_eq_true rfl) ?_
  show R _ _ _ _ _ _ _ _ 0 [some (.ref 504), some (.int t)] [] _ _
  refine R_aload_0 dX12_letters_0 ?_
  refine R_aload_0 dX12_letters_1 ?_
  refine R_iload_1 dX12_letters_2 ?_
  refine R_callV_e (T := mX12_letters) (T' := mX12_isRun) (As := [_]) (ci := 12) okX12_isRun mlX12_292 rfl (by decide) sh_504 (ct_misRun hRu.1 t) rfl (by decide) (by decide) (Nat.le_of_ble_eq_true rfl) dX12_letters_3 ?_
  refine R_if_eq 13 dX12_letters_6 (by decide) (fun c6 => ?_) (fun c6 => ?_)
  · have hx : xcR n t = 1 := if_neg (bI_eq c6)
    refine R_iconst (v := 1) dX12_letters_13 (by decide) ?_
    refine R_callV_e (T := mX12_letters) (T' := mX12_fails) (As := [_]) (ci := 12) okX12_fails mlX12_128 rfl (by decide) sh_504 (ct_mfails _) rfl (by decide) (by decide) (Nat.le_of_ble_eq_true rfl) dX12_letters_14 ?_
    refine R_if_eq 22 dX12_letters_17 (by decide) (fun c17 => absurd c17 (by decide)) (fun c17 => ?_)
    refine R_iconst (v := 0) dX12_letters_20 (by decide) ?_
    refine R_iret rfl dX12_letters_21 ⟨rfl, (a_up_self _ _ _ _).trans (by rw [hx]; rfl), ⟨_, rfl, fun z => by rw [hx] at z; cases z⟩, FrS.f (Or.inl rfl)⟩
  · have hx : xcR n t = 0 := if_pos (bI_ne c6)
    obtain ⟨i, ic, i8, rfl⟩ := tN8 (bI_ne c6) hn
    have f1 := FrS.f (V := V) (k := 0) (v := .int 0) (Or.inl rfl)
    refine R_iconst (v := 0) dX12_letters_9 (by decide) ?_
    refine R_goto 14 dX12_letters_10 (by decide) ?_
    refine R_callV_e (T := mX12_letters) (T' := mX12_fails) (As := [_]) (ci := 12) okX12_fails mlX12_128 rfl (by decide) sh_504 (ct_mfails _) rfl (by decide) (by decide) (Nat.le_of_ble_eq_true rfl) dX12_letters_14 ?_
    refine R_if_eq 22 dX12_letters_17 (by decide) (fun c17 => ?_) (fun c17 => absurd (by decide) c17)
    refine R_aload_0 dX12_letters_22 ?_
    refine R_iload_1 dX12_letters_23 ?_
    refine R_callV_e (T := mX12_letters) (T' := mX12_lettersOf) (As := [_]) (ci := 12) okX12_lettersOf mlX12_295 rfl (by decide) sh_504 (ct_lettersOf (f1.mr hR) ((f1.2 5 (by decide) (by decide) (by decide)).trans h5) (f1.mm hM) hm hc (f1.mp hP) hpo (f1.mru hRu) hrr i8) rfl (by decide) (by decide) (Nat.le_of_ble_eq_true rfl) dX12_letters_24 ?_
    refine R_iret rfl dX12_letters_27 ⟨rfl, (a_up_self _ _ _ _).trans (by rw [hx]; rfl), ⟨_, rfl, fun _ => by rw [nI_clamp (n := i) (by omega)]⟩, f1⟩

/-- there is that letter -/
def LtB (n : Nat) (lc : Nat → Nat) (t u : Int32) (V : aV) : Option Value → aS → aV → Prop := fun v S' V' => Sh = S' ∧ V = V' ∧ ((v = some (.int 1) ∧ ltOK n lc t u) ∨ (v = some (.int 0) ∧ ¬ ltOK n lc t u))
set_option maxHeartbeats 4000000 in
theorem ct_isLetter {V : aV} {mt po : Nat → Nat} {cnt n : Nat} {rt rr : Nat → Nat} {pd : Nat → Bool} {kn : Nat → Nat} (hR : MR V) (h5 : V 504 5 = .int (nI cnt)) (hM : MM V mt) (hm : MTO mt cnt) (hc : cnt ≤ 12) (hP : MPo V po) (hpo : ∀ i, i < 12 → po i < 2 ^ 12) (hRu : MRu V n rt rr pd kn) (hrr : ∀ i, i < 8 → rr i < 8) (hn : n ≤ 8) (hkn : ∀ i, i < 8 → kn i ≤ 12) (t u : Int32) : CT mX12_isLetter 3 0 0 [.ref 504, .int t, .int u] Sh V (LtB n (lcn mt po cnt kn pd rr) t u V) aNo := by
  refine CT_of (by decide +kernel) (Nat.le_of_ble_eq_true rfl) ?_
  show R _ _ _ _ _ _ _ _ 0 [some (.ref 504), some (.int t), some (.int u)] [] _ _
  refine R_aload_0 dX12_isLetter_0 ?_
  refine R_iload_1 dX12_isLetter_1 ?_
  refine R_callV_e (T := mX12_isLetter) (T' := mX12_isRun) (As := [_]) (ci := 12) okX12_isRun mlX12_292 rfl (by decide) sh_504 (ct_misRun hRu.1 t) rfl (by decide) (by decide) (Nat.le_of_ble_eq_true rfl) dX12_isLetter_2 ?_
  refine R_if_eq 25 dX12_isLetter_5 (by decide) (fun c5 => ?_) (fun c5 => ?_)
  · have lla : ∀ i, i < 8 → lcn mt po cnt kn pd rr i < 2 ^ 31 := fun i i8 => by
      unfold lcn
      split
      · have := hkn i i8; omega
      · have := dLst_len (mt := mt) (po := po) (r := rr i) cnt; omega
    refine R_iconst (v := 0) dX12_isLetter_25 (by decide) ?_
    refine R_zret rfl rfl dX12_isLetter_26 ⟨rfl, rfl, Or.inr ⟨rfl, fun z => by obtain ⟨a, b, a1, a2, rfl, rfl, -⟩ := z; exact bI_eq c5 ⟨nI_pos (by omega), (nI_ltI (by omega) (by omega)).2 a1⟩⟩⟩
  · obtain ⟨i, ic, i8, rfl⟩ := tN8 (bI_ne c5) hn
    refine R_iload_2 dX12_isLetter_8 ?_
    refine R_if_lt 25 dX12_isLetter_9 (by decide) (fun c9 => ?_) (fun c9 => ?_)
    · have lla : ∀ i, i < 8 → lcn mt po cnt kn pd rr i < 2 ^ 31 := fun i i8 => by
        unfold lcn
        split
        · have := hkn i i8; omega
        · have := dLst_len (mt := mt) (po := po) (r := rr i) cnt; omega
      have ll := lla i i8
      refine R_iconst (v := 0) dX12_isLetter_25 (by decide) ?_
      refine R_zret rfl rfl dX12_isLetter_26 ⟨rfl, rfl, Or.inr ⟨rfl, fun z => by obtain ⟨a, b, a1, a2, e1, rfl, q⟩ := z; have e2 := (nI_eq (by omega) (by omega)).1 e1; subst e2; exact absurd c9 (nI_pos (by omega))⟩⟩
    · obtain ⟨l, hl, rfl⟩ := nI_of c9
      have ll : lcn mt po cnt kn pd rr i < 2 ^ 31 := by
        unfold lcn
        split
        · have := hkn i i8; omega
        · have := dLst_len (mt := mt) (po := po) (r := rr i) cnt; omega
      refine R_iload_2 dX12_isLetter_12 ?_
      refine R_aload_0 dX12_isLetter_13 ?_
      refine R_iload_1 dX12_isLetter_14 ?_
      refine R_callV_e (T := mX12_isLetter) (T' := mX12_lettersOf) (As := [_]) (ci := 12) okX12_lettersOf mlX12_295 rfl (by decide) sh_504 (ct_lettersOf hR h5 hM hm hc hP hpo hRu hrr i8) rfl (by decide) (by decide) (Nat.le_of_ble_eq_true rfl) dX12_isLetter_15 ?_
      refine R_icmp_ge 25 dX12_isLetter_18 (by decide) (fun c18 => ?_) (fun c18 => ?_)
      · have lla : ∀ i, i < 8 → lcn mt po cnt kn pd rr i < 2 ^ 31 := fun i i8 => by
          unfold lcn
          split
          · have := hkn i i8; omega
          · have := dLst_len (mt := mt) (po := po) (r := rr i) cnt; omega
        refine R_iconst (v := 0) dX12_isLetter_25 (by decide) ?_
        refine R_zret rfl rfl dX12_isLetter_26 ⟨rfl, rfl, Or.inr ⟨rfl, fun z => by obtain ⟨a, b, a1, a2, e1, e3, q⟩ := z; have e2 := (nI_eq (by omega) (by omega)).1 e1; subst e2; have e4 := (nI_eq (by omega) (by omega)).1 e3; subst e4; have := (nI_leI (by omega) (by omega)).1 c18; omega⟩⟩
      · refine R_iconst (v := 1) dX12_isLetter_21 (by decide) ?_
        refine R_goto 26 dX12_isLetter_22 (by decide) ?_
        refine R_zret rfl rfl dX12_isLetter_26 ⟨rfl, rfl, Or.inl ⟨rfl, i, l, ic, i8, rfl, rfl, Nat.lt_of_not_le fun z => c18 (nI_le z (by omega))⟩⟩

